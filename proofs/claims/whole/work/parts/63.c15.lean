/-! letters come; prices settle -/
section C15
variable {d : Nat} {K : Ps} {E : Nat → Prop} {R : Nat → Nat → Value} {I : Nat → Nat → Int32} {J : Nat → Nat → Int64} {a a' : Nat → Int32} {b : Nat → Int64} {M X n : Nat} {B : Nat → Nat}
theorem upd_id {f : Nat → Int32} {k : Nat} {v : Int32} (h : f k = v) : upd f k v = f := by
  funext i
  by_cases e : i = k
  · subst e; rw [upd_eq, h]
  · rw [upd_ne e]
theorem lp_Company_bringLetters {I0 : Nat → Nat → Int32} (hC : CoR X R) (hi : Inv a M n B) (hM : M < 600) (h : ∀ I', Rel R X I' J (m_lets a M 4) b (1000 + M) → FrX X I0 I' → K none E R I' J) : ∀ k p (I L : Nat → Nat → Int32) ls, p + k = 4 → Rel R X L J (m_lets a M p) b M → FrX X I0 I → (∀ c, (∀ q, 1 ≤ q → q ≤ p → c ≠ rc 29 (X + q)) → I c = L c) → (∀ q, 1 ≤ q → q ≤ p → I (rc 29 (X + q)) = upd (L (rc 29 (X + q))) (M % 13) 0) → (∀ q ∈ ([(0, .ref (rc 1 X)), (1, .int (nI (M % 13))), (2, .int (nI (p + 1)))] : List (Nat × Value)), q ∈ ls) → gCompany_bringLetters d 0 0 K 10 ls [] E R I J 0 0 := by
  intro k
  induction k with
  | zero =>
    intro p I L ls hp hr hf h1 h2 hls
    obtain rfl : p = 4 := by omega
    refine G.sub ?_ hls
    apply lCompany_bringLetters_10
    ((try simp only [ev_iadd, ev_isub, ev_imul, ev_iand, ev_ishr, ev_iushr, ev_idiv, ev_irem, ev_ladd, ev_lsub, ev_lmul, ev_ldiv, ev_lrem, ev_lcmp, ev_ineg, ev_i2l, ev_i2b, ev_i2c, ev_l2i, ev_pop, ev_ci, ev_cl, ev_null, ev_cs, ev_gcs, ev_fmt, ev_ild, ev_ild_int, ev_lld, ev_lld_long, ev_ald, ev_ald_ref, ev_ald_null, ev_inc, ev_inc_int, ev_ist, ev_lst, ev_ast, ev_ast_null, ev_dup, ev_dup2, ev_if_eq, ev_if_ne, ev_if_lt, ev_if_ge, ev_if_gt, ev_if_le, ev_ic_eq, ev_ic_ne, ev_ic_lt, ev_ic_ge, ev_ic_gt, ev_ic_le, ev_ifnull_n, ev_ifnull_r, ev_ifnonnull_n, ev_ifnonnull_r, ev_sw, ev_geti, ev_getr, ev_puti, ev_putz, ev_putr, ev_iald, ev_bald, ev_zald, ev_lald, ev_aald, ev_alen, ev_iast, ev_bast, ev_zast, ev_last, ev_aast, ev_iret, ev_zret, ev_lret, ev_aret, ev_aret_n, ev_vret, ev_nret, ev_obj, ev_call, ev_callA, ev_callT, ev_call_s, ev_callA_s, ev_callT_s, ev_new, ev_newi, ev_newl, ev_newq, ev_acpy, ev_acpl, ev_sval, ev_scod, ev_sal, ev_sbl, ev_dead, lv_args, lk, st1, st2, ins, sa, rcv, swp_nil, swp_cons, Value.category, Option.toList_some, Option.toList_none, List.nil_append, List.cons_append, List.filter_cons, List.filter_nil, List.length_cons, List.length_nil, Bool.not_true, Bool.not_false, Bool.and_true, Bool.true_and, Bool.false_and, Bool.and_false, Nat.reduceBEq, Nat.reduceAdd, Nat.reduceSub, Nat.reduceMul, Nat.reduceEqDiff, Nat.reduceLT, Nat.reduceLeDiff, reduceIte, if_true, if_false, ite_true, ite_false, true_and, and_true, true_or, or_true, false_or, or_false, Nat.zero_le, Nat.le_refl, not_false_eq_true, not_true_eq_false, Bool.false_eq_true, beq_self_eq_true, Nat.add_one_ne_zero, eq_self_iff_true, Nat.zero_add, i1_0, i0_1, aref_, anull_, kd_0, kd_1, kd_2, kd_3, kd_4, kd_5, kd_6, kd_7, kd_8, kd_9, kd_10, kd_11, kd_12, kd_13, kd_14, kd_15, kd_16, kd_17, kd_18, kd_19, kd_20, kd_21, kd_22, kd_23, kd_24, kd_25, kd_26, kd_27, kd_28, kd_29, kd_30, kd_31, kd_32, kd_33, kd_34, kd_35, kd_36, kd_37, kd_38, kd_39, ln_13, ln_14, ln_15, ln_16, ln_17, ln_18, ln_19, ln_20, ln_21, ln_22, ln_23, ln_24, ln_25, ln_26, ln_27, ln_28, ln_29, ln_30, ln_31, ln_32, ln_33, ln_34, ln_35, ln_36, ln_37, ln_38, ln_39, vqCompany_bringLetters_53, vqCompany_bringLetters_47, vqCompany_bringLetters_31, vqCompany_bringLetters_15, vqCompany_bringLetters_10, vqCompany_bringLetters_0]); (try simp (disch := omega) only [ev_iadd, ev_isub, ev_imul, ev_iand, ev_ishr, ev_iushr, ev_idiv, ev_irem, ev_ladd, ev_lsub, ev_lmul, ev_ldiv, ev_lrem, ev_lcmp, ev_ineg, ev_i2l, ev_i2b, ev_i2c, ev_l2i, ev_pop, ev_ci, ev_cl, ev_null, ev_cs, ev_gcs, ev_fmt, ev_ild, ev_ild_int, ev_lld, ev_lld_long, ev_ald, ev_ald_ref, ev_ald_null, ev_inc, ev_inc_int, ev_ist, ev_lst, ev_ast, ev_ast_null, ev_dup, ev_dup2, ev_if_eq, ev_if_ne, ev_if_lt, ev_if_ge, ev_if_gt, ev_if_le, ev_ic_eq, ev_ic_ne, ev_ic_lt, ev_ic_ge, ev_ic_gt, ev_ic_le, ev_ifnull_n, ev_ifnull_r, ev_ifnonnull_n, ev_ifnonnull_r, ev_sw, ev_geti, ev_getr, ev_puti, ev_putz, ev_putr, ev_iald, ev_bald, ev_zald, ev_lald, ev_aald, ev_alen, ev_iast, ev_bast, ev_zast, ev_last, ev_aast, ev_iret, ev_zret, ev_lret, ev_aret, ev_aret_n, ev_vret, ev_nret, ev_obj, ev_call, ev_callA, ev_callT, ev_call_s, ev_callA_s, ev_callT_s, ev_new, ev_newi, ev_newl, ev_newq, ev_acpy, ev_acpl, ev_sval, ev_scod, ev_sal, ev_sbl, ev_dead, lv_args, lk, st1, st2, ins, sa, rcv, swp_nil, swp_cons, Value.category, Option.toList_some, Option.toList_none, List.nil_append, List.cons_append, List.filter_cons, List.filter_nil, List.length_cons, List.length_nil, Bool.not_true, Bool.not_false, Bool.and_true, Bool.true_and, Bool.false_and, Bool.and_false, Nat.reduceBEq, Nat.reduceAdd, Nat.reduceSub, Nat.reduceMul, Nat.reduceEqDiff, Nat.reduceLT, Nat.reduceLeDiff, reduceIte, if_true, if_false, ite_true, ite_false, true_and, and_true, true_or, or_true, false_or, or_false, Nat.zero_le, Nat.le_refl, not_false_eq_true, not_true_eq_false, Bool.false_eq_true, beq_self_eq_true, Nat.add_one_ne_zero, eq_self_iff_true, Nat.zero_add, i1_0, i0_1, aref_, anull_, kd_0, kd_1, kd_2, kd_3, kd_4, kd_5, kd_6, kd_7, kd_8, kd_9, kd_10, kd_11, kd_12, kd_13, kd_14, kd_15, kd_16, kd_17, kd_18, kd_19, kd_20, kd_21, kd_22, kd_23, kd_24, kd_25, kd_26, kd_27, kd_28, kd_29, kd_30, kd_31, kd_32, kd_33, kd_34, kd_35, kd_36, kd_37, kd_38, kd_39, ln_13, ln_14, ln_15, ln_16, ln_17, ln_18, ln_19, ln_20, ln_21, ln_22, ln_23, ln_24, ln_25, ln_26, ln_27, ln_28, ln_29, ln_30, ln_31, ln_32, ln_33, ln_34, ln_35, ln_36, ln_37, ln_38, ln_39, lit, pk_mul, nI_add, nI_clamp, in_iff, nI_eq, nI_leI, nI_ltI, upd_eq, upd_ne, updL_eq, updL_ne, ui_ua, uj_ua, ua_eq, ua_ua, vqCompany_bringLetters_53, vqCompany_bringLetters_47, vqCompany_bringLetters_31, vqCompany_bringLetters_15, vqCompany_bringLetters_10, vqCompany_bringLetters_0]); (try simp only [bk_0, bk_1, bk_2, bk_3, bk_4, bk_5, bk_6, bk_7, bk_8, bk_9, bk_10, bk_11, bk_12, bk_13, bk_14, bk_15, bk_16, bk_17, bk_18, bk_19, bk_20, bk_21, bk_22, bk_23, bk_24, bk_25, bk_26, bk_27, bk_28, bk_29, bk_30, bk_31, bk_32, bk_33, bk_34, bk_35, bk_36, bk_37, bk_38, bk_39, bk_40, bk_41, bk_42, bk_43, bk_44, bk_45, bk_46, bk_47, bk_48, bk_49, bk_50, bk_51, bk_52, bk_53, bk_54, bk_55, bk_56, bk_57, bk_58, bk_59, bk_60, bk_61, bk_62, bk_63, bk_99, bk_100, bk_255, bk_320, bk_500, bk_600, bk_620, bk_1000, bk_12345, bk_1103515245]))
    refine h I ?_ hf
    have ew : wn M = M := wn_id (by omega)
    have ep : pb M = M := pb_id (by omega)
    refine hr.genl (M' := 1000 + M) (fun r o hr1 ho => h1 _ (fun q q1 q2 => by unfold rc; omega)) (fun _ _ => rfl) (fun g hg => by rw [h1 _ (fun q q1 q2 => by unfold rc; omega)]) ?_ ?_ ?_ ?_
    · intro p i p1 p5 i13
      rw [wn_in, h2 p p1 (by omega)]
      by_cases e : i = 12
      · subst e
        have e13 : (M + 1 + 12) % 13 = M % 13 := by omega
        rw [e13, upd_eq, m_lets_ne 4 (by decide) (by omega)]
        exact ((hi.lt p p1 p5 (M + 1 + 12) (by omega)).2 (by omega)).symm
      · have ps := hr.pst p (i + 1) p1 p5 (by omega)
        rw [ew] at ps
        rw [upd_ne (by omega), show M + 1 + i = M + (i + 1) by omega]
        exact ps
    · intro T hT hT5 i hi'
      rw [h1 _ (fun q q1 q2 => by unfold rc; omega)]
      exact hr.tap T hT hT5 i hi'
    · intro p p1 p5 L' hL hL16 l hl
      exact (hr.ord p p1 p5 L' hL hL16 l hl).cg (fun r h3 h4 => h1 _ (fun q q1 q2 => by unfold rc; omega)) (fun _ _ => rfl)
    · intro m hm
      rw [pb_in] at hm
      refine ⟨(hr.pag m (by omega)).1, fun k hk => ?_⟩
      rw [h1 _ (fun q q1 q2 => by unfold rc; omega)]
      exact (hr.pag m (by omega)).2 k hk
  | succ k ih =>
    intro p I L ls hp hr hf h1 h2 hls
    have ew : wn M = M := wn_id (by omega)
    have hlt : ¬ 5 ≤ p + 1 := by omega
    have ps := hr.pst (p + 1) 0 (by omega) (by omega) (by omega)
    have e29 : I (rc 29 (X + (p + 1))) = L (rc 29 (X + (p + 1))) := h1 _ (fun q q1 q2 => by unfold rc; omega)
    have e5 : I (rc 5 (X + (p + 1))) = L (rc 5 (X + (p + 1))) := h1 _ (fun q q1 q2 => by unfold rc; omega)
    rw [ew, ← e29] at ps
    replace ps : I (rc 29 (X + (p + 1))) (M % 13) = m_lets a M p (2000 + 620 * (p + 1) + M) := ps
    refine G.sub ?_ hls
    apply lCompany_bringLetters_10
    ((try simp only [ev_iadd, ev_isub, ev_imul, ev_iand, ev_ishr, ev_iushr, ev_idiv, ev_irem, ev_ladd, ev_lsub, ev_lmul, ev_ldiv, ev_lrem, ev_lcmp, ev_ineg, ev_i2l, ev_i2b, ev_i2c, ev_l2i, ev_pop, ev_ci, ev_cl, ev_null, ev_cs, ev_gcs, ev_fmt, ev_ild, ev_ild_int, ev_lld, ev_lld_long, ev_ald, ev_ald_ref, ev_ald_null, ev_inc, ev_inc_int, ev_ist, ev_lst, ev_ast, ev_ast_null, ev_dup, ev_dup2, ev_if_eq, ev_if_ne, ev_if_lt, ev_if_ge, ev_if_gt, ev_if_le, ev_ic_eq, ev_ic_ne, ev_ic_lt, ev_ic_ge, ev_ic_gt, ev_ic_le, ev_ifnull_n, ev_ifnull_r, ev_ifnonnull_n, ev_ifnonnull_r, ev_sw, ev_geti, ev_getr, ev_puti, ev_putz, ev_putr, ev_iald, ev_bald, ev_zald, ev_lald, ev_aald, ev_alen, ev_iast, ev_bast, ev_zast, ev_last, ev_aast, ev_iret, ev_zret, ev_lret, ev_aret, ev_aret_n, ev_vret, ev_nret, ev_obj, ev_call, ev_callA, ev_callT, ev_call_s, ev_callA_s, ev_callT_s, ev_new, ev_newi, ev_newl, ev_newq, ev_acpy, ev_acpl, ev_sval, ev_scod, ev_sal, ev_sbl, ev_dead, lv_args, lk, st1, st2, ins, sa, rcv, swp_nil, swp_cons, Value.category, Option.toList_some, Option.toList_none, List.nil_append, List.cons_append, List.filter_cons, List.filter_nil, List.length_cons, List.length_nil, Bool.not_true, Bool.not_false, Bool.and_true, Bool.true_and, Bool.false_and, Bool.and_false, Nat.reduceBEq, Nat.reduceAdd, Nat.reduceSub, Nat.reduceMul, Nat.reduceEqDiff, Nat.reduceLT, Nat.reduceLeDiff, reduceIte, if_true, if_false, ite_true, ite_false, true_and, and_true, true_or, or_true, false_or, or_false, Nat.zero_le, Nat.le_refl, not_false_eq_true, not_true_eq_false, Bool.false_eq_true, beq_self_eq_true, Nat.add_one_ne_zero, eq_self_iff_true, Nat.zero_add, i1_0, i0_1, aref_, anull_, kd_0, kd_1, kd_2, kd_3, kd_4, kd_5, kd_6, kd_7, kd_8, kd_9, kd_10, kd_11, kd_12, kd_13, kd_14, kd_15, kd_16, kd_17, kd_18, kd_19, kd_20, kd_21, kd_22, kd_23, kd_24, kd_25, kd_26, kd_27, kd_28, kd_29, kd_30, kd_31, kd_32, kd_33, kd_34, kd_35, kd_36, kd_37, kd_38, kd_39, ln_13, ln_14, ln_15, ln_16, ln_17, ln_18, ln_19, ln_20, ln_21, ln_22, ln_23, ln_24, ln_25, ln_26, ln_27, ln_28, ln_29, ln_30, ln_31, ln_32, ln_33, ln_34, ln_35, ln_36, ln_37, ln_38, ln_39, vqCompany_bringLetters_53, vqCompany_bringLetters_47, vqCompany_bringLetters_31, vqCompany_bringLetters_15, vqCompany_bringLetters_10, vqCompany_bringLetters_0, hlt, hC.po, hC.pp (p + 1) (by omega), hC.p6 (p + 1) (by omega)]); (try simp (disch := omega) only [ev_iadd, ev_isub, ev_imul, ev_iand, ev_ishr, ev_iushr, ev_idiv, ev_irem, ev_ladd, ev_lsub, ev_lmul, ev_ldiv, ev_lrem, ev_lcmp, ev_ineg, ev_i2l, ev_i2b, ev_i2c, ev_l2i, ev_pop, ev_ci, ev_cl, ev_null, ev_cs, ev_gcs, ev_fmt, ev_ild, ev_ild_int, ev_lld, ev_lld_long, ev_ald, ev_ald_ref, ev_ald_null, ev_inc, ev_inc_int, ev_ist, ev_lst, ev_ast, ev_ast_null, ev_dup, ev_dup2, ev_if_eq, ev_if_ne, ev_if_lt, ev_if_ge, ev_if_gt, ev_if_le, ev_ic_eq, ev_ic_ne, ev_ic_lt, ev_ic_ge, ev_ic_gt, ev_ic_le, ev_ifnull_n, ev_ifnull_r, ev_ifnonnull_n, ev_ifnonnull_r, ev_sw, ev_geti, ev_getr, ev_puti, ev_putz, ev_putr, ev_iald, ev_bald, ev_zald, ev_lald, ev_aald, ev_alen, ev_iast, ev_bast, ev_zast, ev_last, ev_aast, ev_iret, ev_zret, ev_lret, ev_aret, ev_aret_n, ev_vret, ev_nret, ev_obj, ev_call, ev_callA, ev_callT, ev_call_s, ev_callA_s, ev_callT_s, ev_new, ev_newi, ev_newl, ev_newq, ev_acpy, ev_acpl, ev_sval, ev_scod, ev_sal, ev_sbl, ev_dead, lv_args, lk, st1, st2, ins, sa, rcv, swp_nil, swp_cons, Value.category, Option.toList_some, Option.toList_none, List.nil_append, List.cons_append, List.filter_cons, List.filter_nil, List.length_cons, List.length_nil, Bool.not_true, Bool.not_false, Bool.and_true, Bool.true_and, Bool.false_and, Bool.and_false, Nat.reduceBEq, Nat.reduceAdd, Nat.reduceSub, Nat.reduceMul, Nat.reduceEqDiff, Nat.reduceLT, Nat.reduceLeDiff, reduceIte, if_true, if_false, ite_true, ite_false, true_and, and_true, true_or, or_true, false_or, or_false, Nat.zero_le, Nat.le_refl, not_false_eq_true, not_true_eq_false, Bool.false_eq_true, beq_self_eq_true, Nat.add_one_ne_zero, eq_self_iff_true, Nat.zero_add, i1_0, i0_1, aref_, anull_, kd_0, kd_1, kd_2, kd_3, kd_4, kd_5, kd_6, kd_7, kd_8, kd_9, kd_10, kd_11, kd_12, kd_13, kd_14, kd_15, kd_16, kd_17, kd_18, kd_19, kd_20, kd_21, kd_22, kd_23, kd_24, kd_25, kd_26, kd_27, kd_28, kd_29, kd_30, kd_31, kd_32, kd_33, kd_34, kd_35, kd_36, kd_37, kd_38, kd_39, ln_13, ln_14, ln_15, ln_16, ln_17, ln_18, ln_19, ln_20, ln_21, ln_22, ln_23, ln_24, ln_25, ln_26, ln_27, ln_28, ln_29, ln_30, ln_31, ln_32, ln_33, ln_34, ln_35, ln_36, ln_37, ln_38, ln_39, lit, pk_mul, nI_add, nI_clamp, in_iff, nI_eq, nI_leI, nI_ltI, upd_eq, upd_ne, updL_eq, updL_ne, ui_ua, uj_ua, ua_eq, ua_ua, vqCompany_bringLetters_53, vqCompany_bringLetters_47, vqCompany_bringLetters_31, vqCompany_bringLetters_15, vqCompany_bringLetters_10, vqCompany_bringLetters_0, hlt, hC.po, hC.pp (p + 1) (by omega), hC.p6 (p + 1) (by omega)]); (try simp only [bk_0, bk_1, bk_2, bk_3, bk_4, bk_5, bk_6, bk_7, bk_8, bk_9, bk_10, bk_11, bk_12, bk_13, bk_14, bk_15, bk_16, bk_17, bk_18, bk_19, bk_20, bk_21, bk_22, bk_23, bk_24, bk_25, bk_26, bk_27, bk_28, bk_29, bk_30, bk_31, bk_32, bk_33, bk_34, bk_35, bk_36, bk_37, bk_38, bk_39, bk_40, bk_41, bk_42, bk_43, bk_44, bk_45, bk_46, bk_47, bk_48, bk_49, bk_50, bk_51, bk_52, bk_53, bk_54, bk_55, bk_56, bk_57, bk_58, bk_59, bk_60, bk_61, bk_62, bk_63, bk_99, bk_100, bk_255, bk_320, bk_500, bk_600, bk_620, bk_1000, bk_12345, bk_1103515245]))
    simp only [ps]
    by_cases c : m_lets a M p (2000 + 620 * (p + 1) + M) = 0
    · rw [if_pos c]
      ((try simp only [ev_iadd, ev_isub, ev_imul, ev_iand, ev_ishr, ev_iushr, ev_idiv, ev_irem, ev_ladd, ev_lsub, ev_lmul, ev_ldiv, ev_lrem, ev_lcmp, ev_ineg, ev_i2l, ev_i2b, ev_i2c, ev_l2i, ev_pop, ev_ci, ev_cl, ev_null, ev_cs, ev_gcs, ev_fmt, ev_ild, ev_ild_int, ev_lld, ev_lld_long, ev_ald, ev_ald_ref, ev_ald_null, ev_inc, ev_inc_int, ev_ist, ev_lst, ev_ast, ev_ast_null, ev_dup, ev_dup2, ev_if_eq, ev_if_ne, ev_if_lt, ev_if_ge, ev_if_gt, ev_if_le, ev_ic_eq, ev_ic_ne, ev_ic_lt, ev_ic_ge, ev_ic_gt, ev_ic_le, ev_ifnull_n, ev_ifnull_r, ev_ifnonnull_n, ev_ifnonnull_r, ev_sw, ev_geti, ev_getr, ev_puti, ev_putz, ev_putr, ev_iald, ev_bald, ev_zald, ev_lald, ev_aald, ev_alen, ev_iast, ev_bast, ev_zast, ev_last, ev_aast, ev_iret, ev_zret, ev_lret, ev_aret, ev_aret_n, ev_vret, ev_nret, ev_obj, ev_call, ev_callA, ev_callT, ev_call_s, ev_callA_s, ev_callT_s, ev_new, ev_newi, ev_newl, ev_newq, ev_acpy, ev_acpl, ev_sval, ev_scod, ev_sal, ev_sbl, ev_dead, lv_args, lk, st1, st2, ins, sa, rcv, swp_nil, swp_cons, Value.category, Option.toList_some, Option.toList_none, List.nil_append, List.cons_append, List.filter_cons, List.filter_nil, List.length_cons, List.length_nil, Bool.not_true, Bool.not_false, Bool.and_true, Bool.true_and, Bool.false_and, Bool.and_false, Nat.reduceBEq, Nat.reduceAdd, Nat.reduceSub, Nat.reduceMul, Nat.reduceEqDiff, Nat.reduceLT, Nat.reduceLeDiff, reduceIte, if_true, if_false, ite_true, ite_false, true_and, and_true, true_or, or_true, false_or, or_false, Nat.zero_le, Nat.le_refl, not_false_eq_true, not_true_eq_false, Bool.false_eq_true, beq_self_eq_true, Nat.add_one_ne_zero, eq_self_iff_true, Nat.zero_add, i1_0, i0_1, aref_, anull_, kd_0, kd_1, kd_2, kd_3, kd_4, kd_5, kd_6, kd_7, kd_8, kd_9, kd_10, kd_11, kd_12, kd_13, kd_14, kd_15, kd_16, kd_17, kd_18, kd_19, kd_20, kd_21, kd_22, kd_23, kd_24, kd_25, kd_26, kd_27, kd_28, kd_29, kd_30, kd_31, kd_32, kd_33, kd_34, kd_35, kd_36, kd_37, kd_38, kd_39, ln_13, ln_14, ln_15, ln_16, ln_17, ln_18, ln_19, ln_20, ln_21, ln_22, ln_23, ln_24, ln_25, ln_26, ln_27, ln_28, ln_29, ln_30, ln_31, ln_32, ln_33, ln_34, ln_35, ln_36, ln_37, ln_38, ln_39, vqCompany_bringLetters_53, vqCompany_bringLetters_47, vqCompany_bringLetters_31, vqCompany_bringLetters_15, vqCompany_bringLetters_10, vqCompany_bringLetters_0]); (try simp (disch := omega) only [ev_iadd, ev_isub, ev_imul, ev_iand, ev_ishr, ev_iushr, ev_idiv, ev_irem, ev_ladd, ev_lsub, ev_lmul, ev_ldiv, ev_lrem, ev_lcmp, ev_ineg, ev_i2l, ev_i2b, ev_i2c, ev_l2i, ev_pop, ev_ci, ev_cl, ev_null, ev_cs, ev_gcs, ev_fmt, ev_ild, ev_ild_int, ev_lld, ev_lld_long, ev_ald, ev_ald_ref, ev_ald_null, ev_inc, ev_inc_int, ev_ist, ev_lst, ev_ast, ev_ast_null, ev_dup, ev_dup2, ev_if_eq, ev_if_ne, ev_if_lt, ev_if_ge, ev_if_gt, ev_if_le, ev_ic_eq, ev_ic_ne, ev_ic_lt, ev_ic_ge, ev_ic_gt, ev_ic_le, ev_ifnull_n, ev_ifnull_r, ev_ifnonnull_n, ev_ifnonnull_r, ev_sw, ev_geti, ev_getr, ev_puti, ev_putz, ev_putr, ev_iald, ev_bald, ev_zald, ev_lald, ev_aald, ev_alen, ev_iast, ev_bast, ev_zast, ev_last, ev_aast, ev_iret, ev_zret, ev_lret, ev_aret, ev_aret_n, ev_vret, ev_nret, ev_obj, ev_call, ev_callA, ev_callT, ev_call_s, ev_callA_s, ev_callT_s, ev_new, ev_newi, ev_newl, ev_newq, ev_acpy, ev_acpl, ev_sval, ev_scod, ev_sal, ev_sbl, ev_dead, lv_args, lk, st1, st2, ins, sa, rcv, swp_nil, swp_cons, Value.category, Option.toList_some, Option.toList_none, List.nil_append, List.cons_append, List.filter_cons, List.filter_nil, List.length_cons, List.length_nil, Bool.not_true, Bool.not_false, Bool.and_true, Bool.true_and, Bool.false_and, Bool.and_false, Nat.reduceBEq, Nat.reduceAdd, Nat.reduceSub, Nat.reduceMul, Nat.reduceEqDiff, Nat.reduceLT, Nat.reduceLeDiff, reduceIte, if_true, if_false, ite_true, ite_false, true_and, and_true, true_or, or_true, false_or, or_false, Nat.zero_le, Nat.le_refl, not_false_eq_true, not_true_eq_false, Bool.false_eq_true, beq_self_eq_true, Nat.add_one_ne_zero, eq_self_iff_true, Nat.zero_add, i1_0, i0_1, aref_, anull_, kd_0, kd_1, kd_2, kd_3, kd_4, kd_5, kd_6, kd_7, kd_8, kd_9, kd_10, kd_11, kd_12, kd_13, kd_14, kd_15, kd_16, kd_17, kd_18, kd_19, kd_20, kd_21, kd_22, kd_23, kd_24, kd_25, kd_26, kd_27, kd_28, kd_29, kd_30, kd_31, kd_32, kd_33, kd_34, kd_35, kd_36, kd_37, kd_38, kd_39, ln_13, ln_14, ln_15, ln_16, ln_17, ln_18, ln_19, ln_20, ln_21, ln_22, ln_23, ln_24, ln_25, ln_26, ln_27, ln_28, ln_29, ln_30, ln_31, ln_32, ln_33, ln_34, ln_35, ln_36, ln_37, ln_38, ln_39, lit, pk_mul, nI_add, nI_clamp, in_iff, nI_eq, nI_leI, nI_ltI, upd_eq, upd_ne, updL_eq, updL_ne, ui_ua, uj_ua, ua_eq, ua_ua, vqCompany_bringLetters_53, vqCompany_bringLetters_47, vqCompany_bringLetters_31, vqCompany_bringLetters_15, vqCompany_bringLetters_10, vqCompany_bringLetters_0]); (try simp only [bk_0, bk_1, bk_2, bk_3, bk_4, bk_5, bk_6, bk_7, bk_8, bk_9, bk_10, bk_11, bk_12, bk_13, bk_14, bk_15, bk_16, bk_17, bk_18, bk_19, bk_20, bk_21, bk_22, bk_23, bk_24, bk_25, bk_26, bk_27, bk_28, bk_29, bk_30, bk_31, bk_32, bk_33, bk_34, bk_35, bk_36, bk_37, bk_38, bk_39, bk_40, bk_41, bk_42, bk_43, bk_44, bk_45, bk_46, bk_47, bk_48, bk_49, bk_50, bk_51, bk_52, bk_53, bk_54, bk_55, bk_56, bk_57, bk_58, bk_59, bk_60, bk_61, bk_62, bk_63, bk_99, bk_100, bk_255, bk_320, bk_500, bk_600, bk_620, bk_1000, bk_12345, bk_1103515245]))
      have em : m_lets a M (p + 1) = m_lets a M p := by
        simp only [m_lets]
        rw [if_neg (by rw [c]; decide)]
      refine ih (p + 1) I L _ (by omega) (by rw [em]; exact hr) hf (fun c' hc => h1 c' (fun q q1 q2 => hc q q1 (by omega))) (fun q q1 q2 => ?_) (by simp)
      by_cases e : q = p + 1
      · subst e
        rw [e29, upd_id]
        rw [← e29, ps, c]
      · exact h2 q q1 (by omega)
    · rw [if_neg c]
      ((try simp only [ev_iadd, ev_isub, ev_imul, ev_iand, ev_ishr, ev_iushr, ev_idiv, ev_irem, ev_ladd, ev_lsub, ev_lmul, ev_ldiv, ev_lrem, ev_lcmp, ev_ineg, ev_i2l, ev_i2b, ev_i2c, ev_l2i, ev_pop, ev_ci, ev_cl, ev_null, ev_cs, ev_gcs, ev_fmt, ev_ild, ev_ild_int, ev_lld, ev_lld_long, ev_ald, ev_ald_ref, ev_ald_null, ev_inc, ev_inc_int, ev_ist, ev_lst, ev_ast, ev_ast_null, ev_dup, ev_dup2, ev_if_eq, ev_if_ne, ev_if_lt, ev_if_ge, ev_if_gt, ev_if_le, ev_ic_eq, ev_ic_ne, ev_ic_lt, ev_ic_ge, ev_ic_gt, ev_ic_le, ev_ifnull_n, ev_ifnull_r, ev_ifnonnull_n, ev_ifnonnull_r, ev_sw, ev_geti, ev_getr, ev_puti, ev_putz, ev_putr, ev_iald, ev_bald, ev_zald, ev_lald, ev_aald, ev_alen, ev_iast, ev_bast, ev_zast, ev_last, ev_aast, ev_iret, ev_zret, ev_lret, ev_aret, ev_aret_n, ev_vret, ev_nret, ev_obj, ev_call, ev_callA, ev_callT, ev_call_s, ev_callA_s, ev_callT_s, ev_new, ev_newi, ev_newl, ev_newq, ev_acpy, ev_acpl, ev_sval, ev_scod, ev_sal, ev_sbl, ev_dead, lv_args, lk, st1, st2, ins, sa, rcv, swp_nil, swp_cons, Value.category, Option.toList_some, Option.toList_none, List.nil_append, List.cons_append, List.filter_cons, List.filter_nil, List.length_cons, List.length_nil, Bool.not_true, Bool.not_false, Bool.and_true, Bool.true_and, Bool.false_and, Bool.and_false, Nat.reduceBEq, Nat.reduceAdd, Nat.reduceSub, Nat.reduceMul, Nat.reduceEqDiff, Nat.reduceLT, Nat.reduceLeDiff, reduceIte, if_true, if_false, ite_true, ite_false, true_and, and_true, true_or, or_true, false_or, or_false, Nat.zero_le, Nat.le_refl, not_false_eq_true, not_true_eq_false, Bool.false_eq_true, beq_self_eq_true, Nat.add_one_ne_zero, eq_self_iff_true, Nat.zero_add, i1_0, i0_1, aref_, anull_, kd_0, kd_1, kd_2, kd_3, kd_4, kd_5, kd_6, kd_7, kd_8, kd_9, kd_10, kd_11, kd_12, kd_13, kd_14, kd_15, kd_16, kd_17, kd_18, kd_19, kd_20, kd_21, kd_22, kd_23, kd_24, kd_25, kd_26, kd_27, kd_28, kd_29, kd_30, kd_31, kd_32, kd_33, kd_34, kd_35, kd_36, kd_37, kd_38, kd_39, ln_13, ln_14, ln_15, ln_16, ln_17, ln_18, ln_19, ln_20, ln_21, ln_22, ln_23, ln_24, ln_25, ln_26, ln_27, ln_28, ln_29, ln_30, ln_31, ln_32, ln_33, ln_34, ln_35, ln_36, ln_37, ln_38, ln_39, vqCompany_bringLetters_53, vqCompany_bringLetters_47, vqCompany_bringLetters_31, vqCompany_bringLetters_15, vqCompany_bringLetters_10, vqCompany_bringLetters_0, hC.po, hC.pp (p + 1) (by omega), ps, ua_rc]); (try simp (disch := omega) only [ev_iadd, ev_isub, ev_imul, ev_iand, ev_ishr, ev_iushr, ev_idiv, ev_irem, ev_ladd, ev_lsub, ev_lmul, ev_ldiv, ev_lrem, ev_lcmp, ev_ineg, ev_i2l, ev_i2b, ev_i2c, ev_l2i, ev_pop, ev_ci, ev_cl, ev_null, ev_cs, ev_gcs, ev_fmt, ev_ild, ev_ild_int, ev_lld, ev_lld_long, ev_ald, ev_ald_ref, ev_ald_null, ev_inc, ev_inc_int, ev_ist, ev_lst, ev_ast, ev_ast_null, ev_dup, ev_dup2, ev_if_eq, ev_if_ne, ev_if_lt, ev_if_ge, ev_if_gt, ev_if_le, ev_ic_eq, ev_ic_ne, ev_ic_lt, ev_ic_ge, ev_ic_gt, ev_ic_le, ev_ifnull_n, ev_ifnull_r, ev_ifnonnull_n, ev_ifnonnull_r, ev_sw, ev_geti, ev_getr, ev_puti, ev_putz, ev_putr, ev_iald, ev_bald, ev_zald, ev_lald, ev_aald, ev_alen, ev_iast, ev_bast, ev_zast, ev_last, ev_aast, ev_iret, ev_zret, ev_lret, ev_aret, ev_aret_n, ev_vret, ev_nret, ev_obj, ev_call, ev_callA, ev_callT, ev_call_s, ev_callA_s, ev_callT_s, ev_new, ev_newi, ev_newl, ev_newq, ev_acpy, ev_acpl, ev_sval, ev_scod, ev_sal, ev_sbl, ev_dead, lv_args, lk, st1, st2, ins, sa, rcv, swp_nil, swp_cons, Value.category, Option.toList_some, Option.toList_none, List.nil_append, List.cons_append, List.filter_cons, List.filter_nil, List.length_cons, List.length_nil, Bool.not_true, Bool.not_false, Bool.and_true, Bool.true_and, Bool.false_and, Bool.and_false, Nat.reduceBEq, Nat.reduceAdd, Nat.reduceSub, Nat.reduceMul, Nat.reduceEqDiff, Nat.reduceLT, Nat.reduceLeDiff, reduceIte, if_true, if_false, ite_true, ite_false, true_and, and_true, true_or, or_true, false_or, or_false, Nat.zero_le, Nat.le_refl, not_false_eq_true, not_true_eq_false, Bool.false_eq_true, beq_self_eq_true, Nat.add_one_ne_zero, eq_self_iff_true, Nat.zero_add, i1_0, i0_1, aref_, anull_, kd_0, kd_1, kd_2, kd_3, kd_4, kd_5, kd_6, kd_7, kd_8, kd_9, kd_10, kd_11, kd_12, kd_13, kd_14, kd_15, kd_16, kd_17, kd_18, kd_19, kd_20, kd_21, kd_22, kd_23, kd_24, kd_25, kd_26, kd_27, kd_28, kd_29, kd_30, kd_31, kd_32, kd_33, kd_34, kd_35, kd_36, kd_37, kd_38, kd_39, ln_13, ln_14, ln_15, ln_16, ln_17, ln_18, ln_19, ln_20, ln_21, ln_22, ln_23, ln_24, ln_25, ln_26, ln_27, ln_28, ln_29, ln_30, ln_31, ln_32, ln_33, ln_34, ln_35, ln_36, ln_37, ln_38, ln_39, lit, pk_mul, nI_add, nI_clamp, in_iff, nI_eq, nI_leI, nI_ltI, upd_eq, upd_ne, updL_eq, updL_ne, ui_ua, uj_ua, ua_eq, ua_ua, vqCompany_bringLetters_53, vqCompany_bringLetters_47, vqCompany_bringLetters_31, vqCompany_bringLetters_15, vqCompany_bringLetters_10, vqCompany_bringLetters_0, hC.po, hC.pp (p + 1) (by omega), ps, ua_rc]); (try simp only [bk_0, bk_1, bk_2, bk_3, bk_4, bk_5, bk_6, bk_7, bk_8, bk_9, bk_10, bk_11, bk_12, bk_13, bk_14, bk_15, bk_16, bk_17, bk_18, bk_19, bk_20, bk_21, bk_22, bk_23, bk_24, bk_25, bk_26, bk_27, bk_28, bk_29, bk_30, bk_31, bk_32, bk_33, bk_34, bk_35, bk_36, bk_37, bk_38, bk_39, bk_40, bk_41, bk_42, bk_43, bk_44, bk_45, bk_46, bk_47, bk_48, bk_49, bk_50, bk_51, bk_52, bk_53, bk_54, bk_55, bk_56, bk_57, bk_58, bk_59, bk_60, bk_61, bk_62, bk_63, bk_99, bk_100, bk_255, bk_320, bk_500, bk_600, bk_620, bk_1000, bk_12345, bk_1103515245]))
      have hpos : 0 < m_lets a M p (2000 + 620 * (p + 1) + M) := by
        have h0 := (hi.lt (p + 1) (by omega) (by omega) M (by omega)).1
        rw [← m_lets_ne (a := a) (M := M) (i := 2000 + 620 * (p + 1) + M) p (by omega) (by omega)] at h0
        refine (lt_int _ _).mpr ?_
        rw [zero_int]
        have : (m_lets a M p (2000 + 620 * (p + 1) + M)).toInt ≠ 0 := fun z => c ((eq_int _ _).mpr (by rw [z, zero_int]))
        omega
      have em : m_lets a M (p + 1) = upd (m_lets a M p) (320 + 4 * (p + 1) + 2) (m_lets a M p (2000 + 620 * (p + 1) + M)) := by
        simp only [m_lets]
        rw [if_pos hpos]
      refine ih (p + 1) _ _ _ (by omega) (by rw [em]; exact hr.up (mp_f2 (p + 1) (by omega)) (rcX 5 (p + 1) X) (pl_f1 (p + 1) (by omega)).2) (hf.trans ((FrX.refl.ua (by decide) (by omega) (by omega)).ua (by decide) (by omega) (by omega))) (fun c' hc => ?_) (fun q q1 q2 => ?_) (by simp)
      · rw [ua_ne (hc (p + 1) (by omega) (by omega)), e5]
        simp only [ua_at]
        split
        · rfl
        · exact h1 c' (fun q q1 q2 => hc q q1 (by omega))
      · by_cases e : q = p + 1
        · subst e
          rw [ua_eq, e29, ua_rc (by decide) (by decide) (by decide)]
        · rw [ua_ne (by unfold rc; omega), ua_rc (by decide) (by decide) (by decide), ua_rc (by decide) (by decide) (by decide)]
          exact h2 q q1 (by omega)
theorem sp_Company_bringLetters (hC : CoR X R) (hr : Rel R X I J a b M) (hi : Inv a M n B) (hM : M < 600) (h : ∀ I', Rel R X I' J (m_lets a M 4) b (1000 + M) → FrX X I I' → K none E R I' J) : CL yCompany_bringLetters cCompany_bringLetters 4 none (d + 1) 0 0 [.ref (rc 1 X)] E R I J K := by
  have hmo := hr.month.trans hi.mo
  have hrem : nI M - nI M / nI 13 * nI 13 = nI (M % 13) := pk_rem (by omega) (by omega) (by omega)
  apply eCompany_bringLetters (Nat.le_of_ble_eq_true rfl)
  simp only [ev_iadd, ev_isub, ev_imul, ev_iand, ev_ishr, ev_iushr, ev_idiv, ev_irem, ev_ladd, ev_lsub, ev_lmul, ev_ldiv, ev_lrem, ev_lcmp, ev_ineg, ev_i2l, ev_i2b, ev_i2c, ev_l2i, ev_pop, ev_ci, ev_cl, ev_null, ev_cs, ev_gcs, ev_fmt, ev_ild, ev_ild_int, ev_lld, ev_lld_long, ev_ald, ev_ald_ref, ev_ald_null, ev_inc, ev_inc_int, ev_ist, ev_lst, ev_ast, ev_ast_null, ev_dup, ev_dup2, ev_if_eq, ev_if_ne, ev_if_lt, ev_if_ge, ev_if_gt, ev_if_le, ev_ic_eq, ev_ic_ne, ev_ic_lt, ev_ic_ge, ev_ic_gt, ev_ic_le, ev_ifnull_n, ev_ifnull_r, ev_ifnonnull_n, ev_ifnonnull_r, ev_sw, ev_geti, ev_getr, ev_puti, ev_putz, ev_putr, ev_iald, ev_bald, ev_zald, ev_lald, ev_aald, ev_alen, ev_iast, ev_bast, ev_zast, ev_last, ev_aast, ev_iret, ev_zret, ev_lret, ev_aret, ev_aret_n, ev_vret, ev_nret, ev_obj, ev_call, ev_callA, ev_callT, ev_call_s, ev_callA_s, ev_callT_s, ev_new, ev_newi, ev_newl, ev_newq, ev_acpy, ev_acpl, ev_sval, ev_scod, ev_sal, ev_sbl, ev_dead, lv_args, lk, st1, st2, ins, sa, rcv, swp_nil, swp_cons, Value.category, Option.toList_some, Option.toList_none, List.nil_append, List.cons_append, List.filter_cons, List.filter_nil, List.length_cons, List.length_nil, Bool.not_true, Bool.not_false, Bool.and_true, Bool.true_and, Bool.false_and, Bool.and_false, Nat.reduceBEq, Nat.reduceAdd, Nat.reduceSub, Nat.reduceMul, Nat.reduceEqDiff, Nat.reduceLT, Nat.reduceLeDiff, reduceIte, if_true, if_false, ite_true, ite_false, true_and, and_true, true_or, or_true, false_or, or_false, Nat.zero_le, Nat.le_refl, not_false_eq_true, not_true_eq_false, Bool.false_eq_true, beq_self_eq_true, Nat.add_one_ne_zero, eq_self_iff_true, Nat.zero_add, i1_0, i0_1, aref_, anull_, kd_0, kd_1, kd_2, kd_3, kd_4, kd_5, kd_6, kd_7, kd_8, kd_9, kd_10, kd_11, kd_12, kd_13, kd_14, kd_15, kd_16, kd_17, kd_18, kd_19, kd_20, kd_21, kd_22, kd_23, kd_24, kd_25, kd_26, kd_27, kd_28, kd_29, kd_30, kd_31, kd_32, kd_33, kd_34, kd_35, kd_36, kd_37, kd_38, kd_39, ln_13, ln_14, ln_15, ln_16, ln_17, ln_18, ln_19, ln_20, ln_21, ln_22, ln_23, ln_24, ln_25, ln_26, ln_27, ln_28, ln_29, ln_30, ln_31, ln_32, ln_33, ln_34, ln_35, ln_36, ln_37, ln_38, ln_39, vqCompany_bringLetters_53, vqCompany_bringLetters_47, vqCompany_bringLetters_31, vqCompany_bringLetters_15, vqCompany_bringLetters_10, vqCompany_bringLetters_0]
  ((try simp only [ev_iadd, ev_isub, ev_imul, ev_iand, ev_ishr, ev_iushr, ev_idiv, ev_irem, ev_ladd, ev_lsub, ev_lmul, ev_ldiv, ev_lrem, ev_lcmp, ev_ineg, ev_i2l, ev_i2b, ev_i2c, ev_l2i, ev_pop, ev_ci, ev_cl, ev_null, ev_cs, ev_gcs, ev_fmt, ev_ild, ev_ild_int, ev_lld, ev_lld_long, ev_ald, ev_ald_ref, ev_ald_null, ev_inc, ev_inc_int, ev_ist, ev_lst, ev_ast, ev_ast_null, ev_dup, ev_dup2, ev_if_eq, ev_if_ne, ev_if_lt, ev_if_ge, ev_if_gt, ev_if_le, ev_ic_eq, ev_ic_ne, ev_ic_lt, ev_ic_ge, ev_ic_gt, ev_ic_le, ev_ifnull_n, ev_ifnull_r, ev_ifnonnull_n, ev_ifnonnull_r, ev_sw, ev_geti, ev_getr, ev_puti, ev_putz, ev_putr, ev_iald, ev_bald, ev_zald, ev_lald, ev_aald, ev_alen, ev_iast, ev_bast, ev_zast, ev_last, ev_aast, ev_iret, ev_zret, ev_lret, ev_aret, ev_aret_n, ev_vret, ev_nret, ev_obj, ev_call, ev_callA, ev_callT, ev_call_s, ev_callA_s, ev_callT_s, ev_new, ev_newi, ev_newl, ev_newq, ev_acpy, ev_acpl, ev_sval, ev_scod, ev_sal, ev_sbl, ev_dead, lv_args, lk, st1, st2, ins, sa, rcv, swp_nil, swp_cons, Value.category, Option.toList_some, Option.toList_none, List.nil_append, List.cons_append, List.filter_cons, List.filter_nil, List.length_cons, List.length_nil, Bool.not_true, Bool.not_false, Bool.and_true, Bool.true_and, Bool.false_and, Bool.and_false, Nat.reduceBEq, Nat.reduceAdd, Nat.reduceSub, Nat.reduceMul, Nat.reduceEqDiff, Nat.reduceLT, Nat.reduceLeDiff, reduceIte, if_true, if_false, ite_true, ite_false, true_and, and_true, true_or, or_true, false_or, or_false, Nat.zero_le, Nat.le_refl, not_false_eq_true, not_true_eq_false, Bool.false_eq_true, beq_self_eq_true, Nat.add_one_ne_zero, eq_self_iff_true, Nat.zero_add, i1_0, i0_1, aref_, anull_, kd_0, kd_1, kd_2, kd_3, kd_4, kd_5, kd_6, kd_7, kd_8, kd_9, kd_10, kd_11, kd_12, kd_13, kd_14, kd_15, kd_16, kd_17, kd_18, kd_19, kd_20, kd_21, kd_22, kd_23, kd_24, kd_25, kd_26, kd_27, kd_28, kd_29, kd_30, kd_31, kd_32, kd_33, kd_34, kd_35, kd_36, kd_37, kd_38, kd_39, ln_13, ln_14, ln_15, ln_16, ln_17, ln_18, ln_19, ln_20, ln_21, ln_22, ln_23, ln_24, ln_25, ln_26, ln_27, ln_28, ln_29, ln_30, ln_31, ln_32, ln_33, ln_34, ln_35, ln_36, ln_37, ln_38, ln_39, vqCompany_bringLetters_53, vqCompany_bringLetters_47, vqCompany_bringLetters_31, vqCompany_bringLetters_15, vqCompany_bringLetters_10, vqCompany_bringLetters_0, hmo, hrem]); (try simp (disch := omega) only [ev_iadd, ev_isub, ev_imul, ev_iand, ev_ishr, ev_iushr, ev_idiv, ev_irem, ev_ladd, ev_lsub, ev_lmul, ev_ldiv, ev_lrem, ev_lcmp, ev_ineg, ev_i2l, ev_i2b, ev_i2c, ev_l2i, ev_pop, ev_ci, ev_cl, ev_null, ev_cs, ev_gcs, ev_fmt, ev_ild, ev_ild_int, ev_lld, ev_lld_long, ev_ald, ev_ald_ref, ev_ald_null, ev_inc, ev_inc_int, ev_ist, ev_lst, ev_ast, ev_ast_null, ev_dup, ev_dup2, ev_if_eq, ev_if_ne, ev_if_lt, ev_if_ge, ev_if_gt, ev_if_le, ev_ic_eq, ev_ic_ne, ev_ic_lt, ev_ic_ge, ev_ic_gt, ev_ic_le, ev_ifnull_n, ev_ifnull_r, ev_ifnonnull_n, ev_ifnonnull_r, ev_sw, ev_geti, ev_getr, ev_puti, ev_putz, ev_putr, ev_iald, ev_bald, ev_zald, ev_lald, ev_aald, ev_alen, ev_iast, ev_bast, ev_zast, ev_last, ev_aast, ev_iret, ev_zret, ev_lret, ev_aret, ev_aret_n, ev_vret, ev_nret, ev_obj, ev_call, ev_callA, ev_callT, ev_call_s, ev_callA_s, ev_callT_s, ev_new, ev_newi, ev_newl, ev_newq, ev_acpy, ev_acpl, ev_sval, ev_scod, ev_sal, ev_sbl, ev_dead, lv_args, lk, st1, st2, ins, sa, rcv, swp_nil, swp_cons, Value.category, Option.toList_some, Option.toList_none, List.nil_append, List.cons_append, List.filter_cons, List.filter_nil, List.length_cons, List.length_nil, Bool.not_true, Bool.not_false, Bool.and_true, Bool.true_and, Bool.false_and, Bool.and_false, Nat.reduceBEq, Nat.reduceAdd, Nat.reduceSub, Nat.reduceMul, Nat.reduceEqDiff, Nat.reduceLT, Nat.reduceLeDiff, reduceIte, if_true, if_false, ite_true, ite_false, true_and, and_true, true_or, or_true, false_or, or_false, Nat.zero_le, Nat.le_refl, not_false_eq_true, not_true_eq_false, Bool.false_eq_true, beq_self_eq_true, Nat.add_one_ne_zero, eq_self_iff_true, Nat.zero_add, i1_0, i0_1, aref_, anull_, kd_0, kd_1, kd_2, kd_3, kd_4, kd_5, kd_6, kd_7, kd_8, kd_9, kd_10, kd_11, kd_12, kd_13, kd_14, kd_15, kd_16, kd_17, kd_18, kd_19, kd_20, kd_21, kd_22, kd_23, kd_24, kd_25, kd_26, kd_27, kd_28, kd_29, kd_30, kd_31, kd_32, kd_33, kd_34, kd_35, kd_36, kd_37, kd_38, kd_39, ln_13, ln_14, ln_15, ln_16, ln_17, ln_18, ln_19, ln_20, ln_21, ln_22, ln_23, ln_24, ln_25, ln_26, ln_27, ln_28, ln_29, ln_30, ln_31, ln_32, ln_33, ln_34, ln_35, ln_36, ln_37, ln_38, ln_39, lit, pk_mul, nI_add, nI_clamp, in_iff, nI_eq, nI_leI, nI_ltI, upd_eq, upd_ne, updL_eq, updL_ne, ui_ua, uj_ua, ua_eq, ua_ua, vqCompany_bringLetters_53, vqCompany_bringLetters_47, vqCompany_bringLetters_31, vqCompany_bringLetters_15, vqCompany_bringLetters_10, vqCompany_bringLetters_0, hmo, hrem]); (try simp only [bk_0, bk_1, bk_2, bk_3, bk_4, bk_5, bk_6, bk_7, bk_8, bk_9, bk_10, bk_11, bk_12, bk_13, bk_14, bk_15, bk_16, bk_17, bk_18, bk_19, bk_20, bk_21, bk_22, bk_23, bk_24, bk_25, bk_26, bk_27, bk_28, bk_29, bk_30, bk_31, bk_32, bk_33, bk_34, bk_35, bk_36, bk_37, bk_38, bk_39, bk_40, bk_41, bk_42, bk_43, bk_44, bk_45, bk_46, bk_47, bk_48, bk_49, bk_50, bk_51, bk_52, bk_53, bk_54, bk_55, bk_56, bk_57, bk_58, bk_59, bk_60, bk_61, bk_62, bk_63, bk_99, bk_100, bk_255, bk_320, bk_500, bk_600, bk_620, bk_1000, bk_12345, bk_1103515245]))
  exact lp_Company_bringLetters hC hi hM h 4 0 I I _ (by omega) hr FrX.refl (fun _ _ => rfl) (fun q q1 q2 => by omega) (by simp [bk_1])
/-! prices -/
theorem move_eq {x y : Int32} (hx : 1 ≤ x.toInt ∧ x.toInt ≤ 1000) (hy : 1 ≤ y.toInt) : (if y ≤ x then (if x = y then 0 else 1) else -1) = m_move x y := by
  have hh := int_hi y
  have e : (x - y).toInt = x.toInt - y.toInt := sub_int (by omega) (by omega)
  unfold m_move
  have l1 := lt_int 0 (x - y)
  have l2 := lt_int (x - y) 0
  have l3 := le_int y x
  have l4 := eq_int x y
  rw [zero_int, e] at l1 l2
  by_cases c : x.toInt = y.toInt
  · rw [if_pos (l3.mpr (by omega)), if_pos (l4.mpr c), if_neg (mt l1.mp (by omega)), if_neg (mt l2.mp (by omega))]
  · by_cases c2 : y.toInt < x.toInt
    · rw [if_pos (l3.mpr (by omega)), if_neg (mt l4.mp c), if_pos (l1.mpr (by omega))]
    · rw [if_neg (mt l3.mp (by omega)), if_neg (mt l1.mp (by omega)), if_pos (l2.mpr (by omega))]
theorem Rel.settle1 {p g : Nat} (hr : Rel R X I J a b M) (hp1 : 1 ≤ p) (hp : p < 5) (hg : g < 4) (hx : 1 ≤ (a (30 + (4 * p + g))).toInt ∧ (a (30 + (4 * p + g))).toInt ≤ 1000) (hy : 1 ≤ (a (50 + (4 * p + g))).toInt) : Rel R X (ua I (rc 2 (X + 4 * p + g)) (k_settle (I (rc 2 (X + 4 * p + g))))) J (upd a (50 + (4 * p + g)) (a (50 + (4 * p + g)) + m_move (a (30 + (4 * p + g))) (a (50 + (4 * p + g))))) b M := by
  have e0 := hr.mk2 (k := 0) (by decide) hp1 hp hg
  have e1 := hr.mk2 (k := 1) (by decide) hp1 hp hg
  have m1 := mp_mk' (k := 1) (by decide) hp1 hp hg
  simp only [Nat.reduceMul, Nat.reduceAdd] at e0 e1 m1
  rw [← Nat.add_assoc] at hx hy ⊢
  rw [← Nat.add_assoc]
  unfold k_settle
  rw [e0, e1, move_eq hx hy]
  exact hr.up m1 (rcX3 p g X) (pl_base p hp g hg).2.1
/-- markets of home count for nothing -/
theorem Rel.hm (hr : Rel R X I J a b M) (ha : ∀ i, i < 50 ∨ 54 ≤ i → a' i = a i) : Rel R X I J a' b M := by
  have hn : ∀ j, j < 4 → mpI (50 + j) = none := by decide +kernel
  have hc : ∀ g, g < 4 → m_carr a' g = m_carr a g := by
    intro g hg
    have : ∀ q, q ≤ 10 → m_rsum a' g q = m_rsum a g q := by
      intro q
      induction q with
      | zero => intro _; rfl
      | succ q ih => intro hq; simp only [m_rsum]; rw [ih (by omega), ha _ (by omega)]
    unfold m_carr
    rw [this 10 (by decide), ha 2 (by decide)]
  refine Rel.mk ?_ hr.jb hr.num ?_ ?_ ?_ ?_ ?_ ?_
  · intro i c s hi
    have : i < 50 ∨ 54 ≤ i := by
      refine Decidable.byContradiction fun z => ?_
      have := hn (i - 50) (by omega)
      rw [show 50 + (i - 50) = i by omega, hi] at this
      cases this
    rw [ha i this]
    exact hr.m1 i c s hi
  · intro s hs
    rw [ha _ (by omega), ha _ (by omega), ha _ (by omega)]
    exact hr.sea s hs
  · intro g hg
    rw [hc g hg]
    exact hr.asd g hg
  · intro p i h1 h5 h13
    rw [ha _ (by omega)]
    exact hr.pst p i h1 h5 h13
  · intro T hT
    rw [ha _ (by omega)] at hT
    intro h5 i hi
    rw [ha _ (by omega)]
    exact hr.tap T hT h5 i hi
  · intro p h1 h5 L hL hL16 l hl
    rw [ha _ (by omega)] at hL
    exact (hr.ord p h1 h5 L hL hL16 l hl).cg (fun _ _ _ => rfl) (fun k hk => ha _ (by omega))
  · intro m hm
    refine ⟨(hr.pag m hm).1, fun k hk => ?_⟩
    rw [ha _ (by omega)]
    exact (hr.pag m hm).2 k hk
/-- prices of the far ports 1 .. p settled -/
def k_prices (a : Nat → Int32) (p : Nat) : Nat → Int32 := fun i => if 54 ≤ i ∧ i < 54 + 4 * p then a i + m_move (a (i - 20)) (a i) else a i
theorem k_prices_S {p : Nat} (hp4 : p < 4) : k_prices a (p + 1) = upd (upd (upd (upd (k_prices a p) (50 + (4 * (p + 1) + 0)) (k_prices a p (50 + (4 * (p + 1) + 0)) + m_move (k_prices a p (30 + (4 * (p + 1) + 0))) (k_prices a p (50 + (4 * (p + 1) + 0))))) (50 + (4 * (p + 1) + 1)) (k_prices a p (50 + (4 * (p + 1) + 1)) + m_move (k_prices a p (30 + (4 * (p + 1) + 1))) (k_prices a p (50 + (4 * (p + 1) + 1))))) (50 + (4 * (p + 1) + 2)) (k_prices a p (50 + (4 * (p + 1) + 2)) + m_move (k_prices a p (30 + (4 * (p + 1) + 2))) (k_prices a p (50 + (4 * (p + 1) + 2))))) (50 + (4 * (p + 1) + 3)) (k_prices a p (50 + (4 * (p + 1) + 3)) + m_move (k_prices a p (30 + (4 * (p + 1) + 3))) (k_prices a p (50 + (4 * (p + 1) + 3)))) := by
  have hp : ∀ g, g < 4 → k_prices a p (50 + (4 * (p + 1) + g)) = a (50 + (4 * (p + 1) + g)) := fun g hg => by
    unfold k_prices; rw [if_neg (by omega)]
  have hb : ∀ g, g < 4 → k_prices a p (30 + (4 * (p + 1) + g)) = a (30 + (4 * (p + 1) + g)) := fun g hg => by
    unfold k_prices; rw [if_neg (by omega)]
  rw [hp 0 (by decide), hp 1 (by decide), hp 2 (by decide), hp 3 (by decide), hb 0 (by decide), hb 1 (by decide), hb 2 (by decide), hb 3 (by decide)]
  funext i
  have key : ∀ g, g < 4 → i = 50 + (4 * (p + 1) + g) → k_prices a (p + 1) i = a (50 + (4 * (p + 1) + g)) + m_move (a (30 + (4 * (p + 1) + g))) (a (50 + (4 * (p + 1) + g))) := by
    intro g hg e
    subst e
    unfold k_prices
    rw [if_pos (by omega), show 50 + (4 * (p + 1) + g) - 20 = 30 + (4 * (p + 1) + g) by omega]
  by_cases e3 : i = 50 + (4 * (p + 1) + 3)
  · rw [key 3 (by decide) e3, e3, upd_eq]
  rw [upd_ne e3]
  by_cases e2 : i = 50 + (4 * (p + 1) + 2)
  · rw [key 2 (by decide) e2, e2, upd_eq]
  rw [upd_ne e2]
  by_cases e1 : i = 50 + (4 * (p + 1) + 1)
  · rw [key 1 (by decide) e1, e1, upd_eq]
  rw [upd_ne e1]
  by_cases e0 : i = 50 + (4 * (p + 1) + 0)
  · rw [key 0 (by decide) e0, e0, upd_eq]
  rw [upd_ne e0]
  unfold k_prices
  by_cases c : 54 ≤ i ∧ i < 54 + 4 * p
  · rw [if_pos c, if_pos (by omega)]
  · rw [if_neg c, if_neg (by omega)]
theorem Rel.settleP {p : Nat} (hr : Rel R X I J (k_prices a p) b M) (hp4 : p < 4) (hx : ∀ g, g < 4 → 1 ≤ (a (30 + (4 * (p + 1) + g))).toInt ∧ (a (30 + (4 * (p + 1) + g))).toInt ≤ 1000) (hy : ∀ g, g < 4 → 1 ≤ (a (50 + (4 * (p + 1) + g))).toInt) : Rel R X (ua (ua (ua (ua I (rc 2 (X + 4 * (p + 1) + 0)) (k_settle (I (rc 2 (X + 4 * (p + 1) + 0))))) (rc 2 (X + 4 * (p + 1) + 1)) (k_settle (I (rc 2 (X + 4 * (p + 1) + 1))))) (rc 2 (X + 4 * (p + 1) + 2)) (k_settle (I (rc 2 (X + 4 * (p + 1) + 2))))) (rc 2 (X + 4 * (p + 1) + 3)) (k_settle (I (rc 2 (X + 4 * (p + 1) + 3))))) J (k_prices a (p + 1)) b M := by
  have kp : ∀ g, g < 4 → k_prices a p (50 + (4 * (p + 1) + g)) = a (50 + (4 * (p + 1) + g)) := fun g hg => by
    unfold k_prices; rw [if_neg (by omega)]
  have kb : ∀ g, g < 4 → k_prices a p (30 + (4 * (p + 1) + g)) = a (30 + (4 * (p + 1) + g)) := fun g hg => by
    unfold k_prices; rw [if_neg (by omega)]
  have n1 : ∀ i j, i ≠ j → rc 2 (X + 4 * (p + 1) + i) ≠ rc 2 (X + 4 * (p + 1) + j) := fun i j hij z => hij (by have := ((rc_eq (by decide) (by decide)).mp z).2; omega)
  have r0 := hr.settle1 (p := p + 1) (g := 0) (by omega) (by omega) (by decide) (by rw [kb 0 (by decide)]; exact hx 0 (by decide)) (by rw [kp 0 (by decide)]; exact hy 0 (by decide))
  have r1 := r0.settle1 (p := p + 1) (g := 1) (by omega) (by omega) (by decide) (by rw [upd_ne (by omega), kb 1 (by decide)]; exact hx 1 (by decide)) (by rw [upd_ne (by omega), kp 1 (by decide)]; exact hy 1 (by decide))
  have r2 := r1.settle1 (p := p + 1) (g := 2) (by omega) (by omega) (by decide) (by rw [upd_ne (by omega), upd_ne (by omega), kb 2 (by decide)]; exact hx 2 (by decide)) (by rw [upd_ne (by omega), upd_ne (by omega), kp 2 (by decide)]; exact hy 2 (by decide))
  have r3 := r2.settle1 (p := p + 1) (g := 3) (by omega) (by omega) (by decide) (by rw [upd_ne (by omega), upd_ne (by omega), upd_ne (by omega), kb 3 (by decide)]; exact hx 3 (by decide)) (by rw [upd_ne (by omega), upd_ne (by omega), upd_ne (by omega), kp 3 (by decide)]; exact hy 3 (by decide))
  clear r0 r1 r2
  rw [k_prices_S hp4]
  simp (disch := omega) only [upd_ne] at r3
  simp only [ua_ne (n1 1 0 (by decide)), ua_ne (n1 2 0 (by decide)), ua_ne (n1 2 1 (by decide)), ua_ne (n1 3 0 (by decide)), ua_ne (n1 3 1 (by decide)), ua_ne (n1 3 2 (by decide))] at r3
  exact r3
theorem k_prices_4 {i : Nat} (hi : i < 50 ∨ 54 ≤ i) : m_prices a 20 i = k_prices a 4 i := by
  unfold k_prices
  by_cases c : 54 ≤ i ∧ i < 54 + 4 * 4
  · rw [if_pos c]
    have := m_prices_at (a := a) (j := i - 50) 20 (by omega) (by omega)
    rw [show 50 + (i - 50) = i by omega, show 30 + (i - 50) = i - 20 by omega] at this
    exact this
  · rw [if_neg c, m_prices_ne 20 (by omega)]
end C15

/-! the class's reader: a line's beginning, what a test asks -/
section DC
variable {d : Nat} {K : Ps} {E : Nat → Prop} {R : Nat → Nat → Value} {I : Nat → Nat → Int32} {J : Nat → Nat → Int64} {g : Nat → Nat} {T p : Nat} {s : Nat → Nat}
theorem sp_Reader_takeLine (h3 : R RE 3 = .ref TK) (tk : CAt g T p (I TK)) (rg : CR s (I RE)) (tb : KTab s I) (sb : SB s p) (hT : T ≤ 500) (h0 : s 0 = 0) (hK : TkP g T s p K E R I J) : CL yReader_takeLine cReader_takeLine 1 (some .int) (d + 2) 0 0 [.ref RE] E R I J K := by
  have hp := tk.le
  have hw := atp_le (g := g) hp
  obtain ⟨c, ec⟩ : ∃ c, cdp g T p = c := ⟨_, rfl⟩
  obtain ⟨w, ew⟩ : ∃ w, atp g T p = w := ⟨_, rfl⟩
  rw [ew] at hw
  have c25 : c ≤ 25 := by rw [← ec]; exact cd_rg
  have f4 : I TK 4 = nI c := by rw [tk.f4, ec]
  have f2 : I TK 2 = nI w := by rw [tk.f2, ew]
  have b1 := sb.b1
  have est := stp0 (c := c) (v := vlp g T p) (w := w) h0
  have r4 := rg.r4 h0
  have r4' : I RE 4 + nI 1 = nI (s 1) := r4
  have t0e : ∀ i, i ≠ 1 → i ≠ 2 → i ≠ 8 → i ≠ 9 → t0 s w i = s i := fun i i1 i2 i8 i9 => by
    unfold t0
    split
    · rw [mrk_ne i8 i9, un_ne i2, un_ne i1]
    · rw [un_ne i2, un_ne i1]
  have t01 : t0 s w 1 = s 1 + 1 := by
    unfold t0
    split
    · rw [mrk_ne (by decide) (by decide), un_ne (by decide), un_eq]
    · rw [un_ne (by decide), un_eq]
  have t02 : t0 s w 2 = 0 := by
    unfold t0
    split
    · rw [mrk_ne (by decide) (by decide), un_eq]
    · rw [un_eq]
  have t0b : t0 s w 8 < 10 ∧ t0 s w 9 ≤ 500 := by
    unfold t0
    split
    · exact mrk_b (by decide) (by omega) (by rw [un_ne (by decide), un_ne (by decide)]; exact sb.b8) (by rw [un_ne (by decide), un_ne (by decide)]; exact sb.b9)
    · rw [un_ne (by decide), un_ne (by decide), un_ne (by decide), un_ne (by decide)]
      exact ⟨sb.b8, sb.b9⟩
  have cont : ∀ F : Nat → Int32, F 1 = nI (t0 s w 8) → F 2 = plc (t0 s w) → F 4 = nI (s 1) → F 5 = 0 → qReader_takeLine_29 (d + 1) 0 0 (gReader_takeLine (d + 1) 0 0 K) K [(0, .ref RE)] [] E R (ua I RE F) J 0 0 := by
    intro F q1 q2 q4 q5
    ((try simp only [ev_iadd, ev_isub, ev_imul, ev_iand, ev_ishr, ev_iushr, ev_idiv, ev_irem, ev_ladd, ev_lsub, ev_lmul, ev_ldiv, ev_lrem, ev_lcmp, ev_ineg, ev_i2l, ev_i2b, ev_i2c, ev_l2i, ev_pop, ev_ci, ev_cl, ev_null, ev_cs, ev_gcs, ev_fmt, ev_ild, ev_ild_int, ev_lld, ev_lld_long, ev_ald, ev_ald_ref, ev_ald_null, ev_inc, ev_inc_int, ev_ist, ev_lst, ev_ast, ev_ast_null, ev_dup, ev_dup2, ev_if_eq, ev_if_ne, ev_if_lt, ev_if_ge, ev_if_gt, ev_if_le, ev_ic_eq, ev_ic_ne, ev_ic_lt, ev_ic_ge, ev_ic_gt, ev_ic_le, ev_ifnull_n, ev_ifnull_r, ev_ifnonnull_n, ev_ifnonnull_r, ev_sw, ev_geti, ev_getr, ev_puti, ev_putz, ev_putr, ev_iald, ev_bald, ev_zald, ev_lald, ev_aald, ev_alen, ev_iast, ev_bast, ev_zast, ev_last, ev_aast, ev_iret, ev_zret, ev_lret, ev_aret, ev_aret_n, ev_vret, ev_nret, ev_obj, ev_call, ev_callA, ev_callT, ev_call_s, ev_callA_s, ev_callT_s, ev_new, ev_newi, ev_newl, ev_newq, ev_acpy, ev_acpl, ev_sval, ev_scod, ev_sal, ev_sbl, ev_dead, lv_args, lk, st1, st2, ins, sa, rcv, swp_nil, swp_cons, Value.category, Option.toList_some, Option.toList_none, List.nil_append, List.cons_append, List.filter_cons, List.filter_nil, List.length_cons, List.length_nil, Bool.not_true, Bool.not_false, Bool.and_true, Bool.true_and, Bool.false_and, Bool.and_false, Nat.reduceBEq, Nat.reduceAdd, Nat.reduceSub, Nat.reduceMul, Nat.reduceEqDiff, Nat.reduceLT, Nat.reduceLeDiff, reduceIte, if_true, if_false, ite_true, ite_false, true_and, and_true, true_or, or_true, false_or, or_false, Nat.zero_le, Nat.le_refl, not_false_eq_true, not_true_eq_false, Bool.false_eq_true, beq_self_eq_true, Nat.add_one_ne_zero, eq_self_iff_true, Nat.zero_add, i1_0, i0_1, aref_, anull_, kd_0, kd_1, kd_2, kd_3, kd_4, kd_5, kd_6, kd_7, kd_8, kd_9, kd_10, kd_11, kd_12, kd_13, kd_14, kd_15, kd_16, kd_17, kd_18, kd_19, kd_20, kd_21, kd_22, kd_23, kd_24, kd_25, kd_26, kd_27, kd_28, kd_29, kd_30, kd_31, kd_32, kd_33, kd_34, kd_35, kd_36, kd_37, kd_38, kd_39, ln_13, ln_14, ln_15, ln_16, ln_17, ln_18, ln_19, ln_20, ln_21, ln_22, ln_23, ln_24, ln_25, ln_26, ln_27, ln_28, ln_29, ln_30, ln_31, ln_32, ln_33, ln_34, ln_35, ln_36, ln_37, ln_38, ln_39, vqReader_takeLine_49, vqReader_takeLine_45, vqReader_takeLine_41, vqReader_takeLine_29, vqReader_takeLine_24, vqReader_takeLine_0, h3, f4, ua_rc]); (try simp (disch := omega) only [ev_iadd, ev_isub, ev_imul, ev_iand, ev_ishr, ev_iushr, ev_idiv, ev_irem, ev_ladd, ev_lsub, ev_lmul, ev_ldiv, ev_lrem, ev_lcmp, ev_ineg, ev_i2l, ev_i2b, ev_i2c, ev_l2i, ev_pop, ev_ci, ev_cl, ev_null, ev_cs, ev_gcs, ev_fmt, ev_ild, ev_ild_int, ev_lld, ev_lld_long, ev_ald, ev_ald_ref, ev_ald_null, ev_inc, ev_inc_int, ev_ist, ev_lst, ev_ast, ev_ast_null, ev_dup, ev_dup2, ev_if_eq, ev_if_ne, ev_if_lt, ev_if_ge, ev_if_gt, ev_if_le, ev_ic_eq, ev_ic_ne, ev_ic_lt, ev_ic_ge, ev_ic_gt, ev_ic_le, ev_ifnull_n, ev_ifnull_r, ev_ifnonnull_n, ev_ifnonnull_r, ev_sw, ev_geti, ev_getr, ev_puti, ev_putz, ev_putr, ev_iald, ev_bald, ev_zald, ev_lald, ev_aald, ev_alen, ev_iast, ev_bast, ev_zast, ev_last, ev_aast, ev_iret, ev_zret, ev_lret, ev_aret, ev_aret_n, ev_vret, ev_nret, ev_obj, ev_call, ev_callA, ev_callT, ev_call_s, ev_callA_s, ev_callT_s, ev_new, ev_newi, ev_newl, ev_newq, ev_acpy, ev_acpl, ev_sval, ev_scod, ev_sal, ev_sbl, ev_dead, lv_args, lk, st1, st2, ins, sa, rcv, swp_nil, swp_cons, Value.category, Option.toList_some, Option.toList_none, List.nil_append, List.cons_append, List.filter_cons, List.filter_nil, List.length_cons, List.length_nil, Bool.not_true, Bool.not_false, Bool.and_true, Bool.true_and, Bool.false_and, Bool.and_false, Nat.reduceBEq, Nat.reduceAdd, Nat.reduceSub, Nat.reduceMul, Nat.reduceEqDiff, Nat.reduceLT, Nat.reduceLeDiff, reduceIte, if_true, if_false, ite_true, ite_false, true_and, and_true, true_or, or_true, false_or, or_false, Nat.zero_le, Nat.le_refl, not_false_eq_true, not_true_eq_false, Bool.false_eq_true, beq_self_eq_true, Nat.add_one_ne_zero, eq_self_iff_true, Nat.zero_add, i1_0, i0_1, aref_, anull_, kd_0, kd_1, kd_2, kd_3, kd_4, kd_5, kd_6, kd_7, kd_8, kd_9, kd_10, kd_11, kd_12, kd_13, kd_14, kd_15, kd_16, kd_17, kd_18, kd_19, kd_20, kd_21, kd_22, kd_23, kd_24, kd_25, kd_26, kd_27, kd_28, kd_29, kd_30, kd_31, kd_32, kd_33, kd_34, kd_35, kd_36, kd_37, kd_38, kd_39, ln_13, ln_14, ln_15, ln_16, ln_17, ln_18, ln_19, ln_20, ln_21, ln_22, ln_23, ln_24, ln_25, ln_26, ln_27, ln_28, ln_29, ln_30, ln_31, ln_32, ln_33, ln_34, ln_35, ln_36, ln_37, ln_38, ln_39, lit, pk_mul, nI_add, nI_clamp, in_iff, nI_eq, nI_leI, nI_ltI, upd_eq, upd_ne, updL_eq, updL_ne, ui_ua, uj_ua, ua_eq, ua_ua, vqReader_takeLine_49, vqReader_takeLine_45, vqReader_takeLine_41, vqReader_takeLine_29, vqReader_takeLine_24, vqReader_takeLine_0, h3, f4, ua_rc]); (try simp only [bk_0, bk_1, bk_2, bk_3, bk_4, bk_5, bk_6, bk_7, bk_8, bk_9, bk_10, bk_11, bk_12, bk_13, bk_14, bk_15, bk_16, bk_17, bk_18, bk_19, bk_20, bk_21, bk_22, bk_23, bk_24, bk_25, bk_26, bk_27, bk_28, bk_29, bk_30, bk_31, bk_32, bk_33, bk_34, bk_35, bk_36, bk_37, bk_38, bk_39, bk_40, bk_41, bk_42, bk_43, bk_44, bk_45, bk_46, bk_47, bk_48, bk_49, bk_50, bk_51, bk_52, bk_53, bk_54, bk_55, bk_56, bk_57, bk_58, bk_59, bk_60, bk_61, bk_62, bk_63, bk_99, bk_100, bk_255, bk_320, bk_500, bk_600, bk_620, bk_1000, bk_12345, bk_1103515245]))
    by_cases c8 : c = 8
    · rw [if_pos c8]
      have e0 : un (t0 s w) 0 1 0 = 1 := un_eq
      refine hK.re (n := 1) (s' := un (t0 s w) 0 1) (by rw [ec, ew, est, if_pos c8]) un_eq (fun _ => ⟨CR.mk ?_ ?_ ?_ ?_ ?_ ?_ ?_ ?_ ?_ ?_, ?_, ?_⟩)
      · rw [un_ne (by decide)]; exact q1
      · rw [plc_cg (s := t0 s w) (un_ne (by decide)) (un_ne (by decide))]; exact q2
      · intro z; rw [e0] at z; omega
      · intro _; rw [un_ne (by decide), t01, Nat.add_sub_cancel]; exact q4
      · intro _; rw [un_ne (by decide), t02]; exact q5
      · intro z; rw [e0] at z; omega
      · intro z; rw [e0] at z; omega
      · intro z; rw [e0] at z; omega
      · intro z; rw [e0] at z; omega
      · intro z; rw [e0] at z; omega
      · exact tb.re (fun i hi => by rw [un_ne (by omega), t0e i (by omega) (by omega) (by omega) (by omega)]) (fun _ => Or.inl (by rw [un_ne (by decide), t02]))
      · refine sb.beg h0 (by rw [e0]; decide) ?_ ?_ ?_ ?_ ?_ ?_
        · rw [un_ne (by decide), t01]
        · rw [un_ne (by decide), t02]
        · rw [un_ne (by decide)]; exact t0b.1
        · rw [un_ne (by decide)]; exact t0b.2
        · rw [un_ne (by decide), t0e 5 (by decide) (by decide) (by decide) (by decide)]; exact sb.b5
        · rw [un_ne (by decide), t0e 10 (by decide) (by decide) (by decide) (by decide)]
    · rw [if_neg c8]
      refine sp_Reader_takeAct (c := c) h3 (by rw [ua_ne (by decide)]; exact f4) c25 ?_
      rw [ua_ua, ua_eq]
      try simp only [ev_iadd, ev_isub, ev_imul, ev_iand, ev_ishr, ev_iushr, ev_idiv, ev_irem, ev_ladd, ev_lsub, ev_lmul, ev_ldiv, ev_lrem, ev_lcmp, ev_ineg, ev_i2l, ev_i2b, ev_i2c, ev_l2i, ev_pop, ev_ci, ev_cl, ev_null, ev_cs, ev_gcs, ev_fmt, ev_ild, ev_ild_int, ev_lld, ev_lld_long, ev_ald, ev_ald_ref, ev_ald_null, ev_inc, ev_inc_int, ev_ist, ev_lst, ev_ast, ev_ast_null, ev_dup, ev_dup2, ev_if_eq, ev_if_ne, ev_if_lt, ev_if_ge, ev_if_gt, ev_if_le, ev_ic_eq, ev_ic_ne, ev_ic_lt, ev_ic_ge, ev_ic_gt, ev_ic_le, ev_ifnull_n, ev_ifnull_r, ev_ifnonnull_n, ev_ifnonnull_r, ev_sw, ev_geti, ev_getr, ev_puti, ev_putz, ev_putr, ev_iald, ev_bald, ev_zald, ev_lald, ev_aald, ev_alen, ev_iast, ev_bast, ev_zast, ev_last, ev_aast, ev_iret, ev_zret, ev_lret, ev_aret, ev_aret_n, ev_vret, ev_nret, ev_obj, ev_call, ev_callA, ev_callT, ev_call_s, ev_callA_s, ev_callT_s, ev_new, ev_newi, ev_newl, ev_newq, ev_acpy, ev_acpl, ev_sval, ev_scod, ev_sal, ev_sbl, ev_dead, lv_args, lk, st1, st2, ins, sa, rcv, swp_nil, swp_cons, Value.category, Option.toList_some, Option.toList_none, List.nil_append, List.cons_append, List.filter_cons, List.filter_nil, List.length_cons, List.length_nil, Bool.not_true, Bool.not_false, Bool.and_true, Bool.true_and, Bool.false_and, Bool.and_false, Nat.reduceBEq, Nat.reduceAdd, Nat.reduceSub, Nat.reduceMul, Nat.reduceEqDiff, Nat.reduceLT, Nat.reduceLeDiff, reduceIte, if_true, if_false, ite_true, ite_false, true_and, and_true, true_or, or_true, false_or, or_false, Nat.zero_le, Nat.le_refl, not_false_eq_true, not_true_eq_false, Bool.false_eq_true, beq_self_eq_true, Nat.add_one_ne_zero, eq_self_iff_true, Nat.zero_add, i1_0, i0_1, aref_, anull_, kd_0, kd_1, kd_2, kd_3, kd_4, kd_5, kd_6, kd_7, kd_8, kd_9, kd_10, kd_11, kd_12, kd_13, kd_14, kd_15, kd_16, kd_17, kd_18, kd_19, kd_20, kd_21, kd_22, kd_23, kd_24, kd_25, kd_26, kd_27, kd_28, kd_29, kd_30, kd_31, kd_32, kd_33, kd_34, kd_35, kd_36, kd_37, kd_38, kd_39, ln_13, ln_14, ln_15, ln_16, ln_17, ln_18, ln_19, ln_20, ln_21, ln_22, ln_23, ln_24, ln_25, ln_26, ln_27, ln_28, ln_29, ln_30, ln_31, ln_32, ln_33, ln_34, ln_35, ln_36, ln_37, ln_38, ln_39, vqReader_takeLine_49, vqReader_takeLine_45, vqReader_takeLine_41, vqReader_takeLine_29, vqReader_takeLine_24, vqReader_takeLine_0]
      refine hK.re (n := dA c) (s' := tac (t0 s w) c) (by rw [ec, ew, est, if_neg c8]) un_eq (fun hn => ⟨CR.tacc q1 q2 ?_ ?_, ?_, ?_⟩)
      · rw [t01, Nat.add_sub_cancel]; exact q4
      · rw [t02]; exact q5
      · refine tb.re (fun i hi => ?_) (fun _ => Or.inl ?_)
        · rw [tac_ne (by omega) (by omega) (by omega) (by omega), t0e i (by omega) (by omega) (by omega) (by omega)]
        · rw [tac_ne (by decide) (by decide) (by decide) (by decide), t02]
      · have h7 := dA_rg (c := c)
        have e0 : tac (t0 s w) c 0 = dA c := un_eq
        refine sb.beg h0 (by rw [e0]; omega) ?_ ?_ ?_ ?_ ?_ ?_
        · rw [tac_ne (by decide) (by decide) (by decide) (by decide), t01]
        · rw [tac_ne (by decide) (by decide) (by decide) (by decide), t02]
        · rw [tac_ne (by decide) (by decide) (by decide) (by decide)]; exact t0b.1
        · rw [tac_ne (by decide) (by decide) (by decide) (by decide)]; exact t0b.2
        · rw [tac_eq, un_ne (by decide), un_ne (by decide), un_ne (by decide), un_eq]; exact c25
        · rw [tac_ne (by decide) (by decide) (by decide) (by decide), t0e 10 (by decide) (by decide) (by decide) (by decide)]
  apply eReader_takeLine (Nat.le_of_ble_eq_true rfl)
  simp only [ev_iadd, ev_isub, ev_imul, ev_iand, ev_ishr, ev_iushr, ev_idiv, ev_irem, ev_ladd, ev_lsub, ev_lmul, ev_ldiv, ev_lrem, ev_lcmp, ev_ineg, ev_i2l, ev_i2b, ev_i2c, ev_l2i, ev_pop, ev_ci, ev_cl, ev_null, ev_cs, ev_gcs, ev_fmt, ev_ild, ev_ild_int, ev_lld, ev_lld_long, ev_ald, ev_ald_ref, ev_ald_null, ev_inc, ev_inc_int, ev_ist, ev_lst, ev_ast, ev_ast_null, ev_dup, ev_dup2, ev_if_eq, ev_if_ne, ev_if_lt, ev_if_ge, ev_if_gt, ev_if_le, ev_ic_eq, ev_ic_ne, ev_ic_lt, ev_ic_ge, ev_ic_gt, ev_ic_le, ev_ifnull_n, ev_ifnull_r, ev_ifnonnull_n, ev_ifnonnull_r, ev_sw, ev_geti, ev_getr, ev_puti, ev_putz, ev_putr, ev_iald, ev_bald, ev_zald, ev_lald, ev_aald, ev_alen, ev_iast, ev_bast, ev_zast, ev_last, ev_aast, ev_iret, ev_zret, ev_lret, ev_aret, ev_aret_n, ev_vret, ev_nret, ev_obj, ev_call, ev_callA, ev_callT, ev_call_s, ev_callA_s, ev_callT_s, ev_new, ev_newi, ev_newl, ev_newq, ev_acpy, ev_acpl, ev_sval, ev_scod, ev_sal, ev_sbl, ev_dead, lv_args, lk, st1, st2, ins, sa, rcv, swp_nil, swp_cons, Value.category, Option.toList_some, Option.toList_none, List.nil_append, List.cons_append, List.filter_cons, List.filter_nil, List.length_cons, List.length_nil, Bool.not_true, Bool.not_false, Bool.and_true, Bool.true_and, Bool.false_and, Bool.and_false, Nat.reduceBEq, Nat.reduceAdd, Nat.reduceSub, Nat.reduceMul, Nat.reduceEqDiff, Nat.reduceLT, Nat.reduceLeDiff, reduceIte, if_true, if_false, ite_true, ite_false, true_and, and_true, true_or, or_true, false_or, or_false, Nat.zero_le, Nat.le_refl, not_false_eq_true, not_true_eq_false, Bool.false_eq_true, beq_self_eq_true, Nat.add_one_ne_zero, eq_self_iff_true, Nat.zero_add, i1_0, i0_1, aref_, anull_, kd_0, kd_1, kd_2, kd_3, kd_4, kd_5, kd_6, kd_7, kd_8, kd_9, kd_10, kd_11, kd_12, kd_13, kd_14, kd_15, kd_16, kd_17, kd_18, kd_19, kd_20, kd_21, kd_22, kd_23, kd_24, kd_25, kd_26, kd_27, kd_28, kd_29, kd_30, kd_31, kd_32, kd_33, kd_34, kd_35, kd_36, kd_37, kd_38, kd_39, ln_13, ln_14, ln_15, ln_16, ln_17, ln_18, ln_19, ln_20, ln_21, ln_22, ln_23, ln_24, ln_25, ln_26, ln_27, ln_28, ln_29, ln_30, ln_31, ln_32, ln_33, ln_34, ln_35, ln_36, ln_37, ln_38, ln_39, vqReader_takeLine_49, vqReader_takeLine_45, vqReader_takeLine_41, vqReader_takeLine_24, vqReader_takeLine_0]
  ((try simp only [ev_iadd, ev_isub, ev_imul, ev_iand, ev_ishr, ev_iushr, ev_idiv, ev_irem, ev_ladd, ev_lsub, ev_lmul, ev_ldiv, ev_lrem, ev_lcmp, ev_ineg, ev_i2l, ev_i2b, ev_i2c, ev_l2i, ev_pop, ev_ci, ev_cl, ev_null, ev_cs, ev_gcs, ev_fmt, ev_ild, ev_ild_int, ev_lld, ev_lld_long, ev_ald, ev_ald_ref, ev_ald_null, ev_inc, ev_inc_int, ev_ist, ev_lst, ev_ast, ev_ast_null, ev_dup, ev_dup2, ev_if_eq, ev_if_ne, ev_if_lt, ev_if_ge, ev_if_gt, ev_if_le, ev_ic_eq, ev_ic_ne, ev_ic_lt, ev_ic_ge, ev_ic_gt, ev_ic_le, ev_ifnull_n, ev_ifnull_r, ev_ifnonnull_n, ev_ifnonnull_r, ev_sw, ev_geti, ev_getr, ev_puti, ev_putz, ev_putr, ev_iald, ev_bald, ev_zald, ev_lald, ev_aald, ev_alen, ev_iast, ev_bast, ev_zast, ev_last, ev_aast, ev_iret, ev_zret, ev_lret, ev_aret, ev_aret_n, ev_vret, ev_nret, ev_obj, ev_call, ev_callA, ev_callT, ev_call_s, ev_callA_s, ev_callT_s, ev_new, ev_newi, ev_newl, ev_newq, ev_acpy, ev_acpl, ev_sval, ev_scod, ev_sal, ev_sbl, ev_dead, lv_args, lk, st1, st2, ins, sa, rcv, swp_nil, swp_cons, Value.category, Option.toList_some, Option.toList_none, List.nil_append, List.cons_append, List.filter_cons, List.filter_nil, List.length_cons, List.length_nil, Bool.not_true, Bool.not_false, Bool.and_true, Bool.true_and, Bool.false_and, Bool.and_false, Nat.reduceBEq, Nat.reduceAdd, Nat.reduceSub, Nat.reduceMul, Nat.reduceEqDiff, Nat.reduceLT, Nat.reduceLeDiff, reduceIte, if_true, if_false, ite_true, ite_false, true_and, and_true, true_or, or_true, false_or, or_false, Nat.zero_le, Nat.le_refl, not_false_eq_true, not_true_eq_false, Bool.false_eq_true, beq_self_eq_true, Nat.add_one_ne_zero, eq_self_iff_true, Nat.zero_add, i1_0, i0_1, aref_, anull_, kd_0, kd_1, kd_2, kd_3, kd_4, kd_5, kd_6, kd_7, kd_8, kd_9, kd_10, kd_11, kd_12, kd_13, kd_14, kd_15, kd_16, kd_17, kd_18, kd_19, kd_20, kd_21, kd_22, kd_23, kd_24, kd_25, kd_26, kd_27, kd_28, kd_29, kd_30, kd_31, kd_32, kd_33, kd_34, kd_35, kd_36, kd_37, kd_38, kd_39, ln_13, ln_14, ln_15, ln_16, ln_17, ln_18, ln_19, ln_20, ln_21, ln_22, ln_23, ln_24, ln_25, ln_26, ln_27, ln_28, ln_29, ln_30, ln_31, ln_32, ln_33, ln_34, ln_35, ln_36, ln_37, ln_38, ln_39, vqReader_takeLine_49, vqReader_takeLine_45, vqReader_takeLine_41, vqReader_takeLine_24, vqReader_takeLine_0, r4, r4']); (try simp (disch := omega) only [ev_iadd, ev_isub, ev_imul, ev_iand, ev_ishr, ev_iushr, ev_idiv, ev_irem, ev_ladd, ev_lsub, ev_lmul, ev_ldiv, ev_lrem, ev_lcmp, ev_ineg, ev_i2l, ev_i2b, ev_i2c, ev_l2i, ev_pop, ev_ci, ev_cl, ev_null, ev_cs, ev_gcs, ev_fmt, ev_ild, ev_ild_int, ev_lld, ev_lld_long, ev_ald, ev_ald_ref, ev_ald_null, ev_inc, ev_inc_int, ev_ist, ev_lst, ev_ast, ev_ast_null, ev_dup, ev_dup2, ev_if_eq, ev_if_ne, ev_if_lt, ev_if_ge, ev_if_gt, ev_if_le, ev_ic_eq, ev_ic_ne, ev_ic_lt, ev_ic_ge, ev_ic_gt, ev_ic_le, ev_ifnull_n, ev_ifnull_r, ev_ifnonnull_n, ev_ifnonnull_r, ev_sw, ev_geti, ev_getr, ev_puti, ev_putz, ev_putr, ev_iald, ev_bald, ev_zald, ev_lald, ev_aald, ev_alen, ev_iast, ev_bast, ev_zast, ev_last, ev_aast, ev_iret, ev_zret, ev_lret, ev_aret, ev_aret_n, ev_vret, ev_nret, ev_obj, ev_call, ev_callA, ev_callT, ev_call_s, ev_callA_s, ev_callT_s, ev_new, ev_newi, ev_newl, ev_newq, ev_acpy, ev_acpl, ev_sval, ev_scod, ev_sal, ev_sbl, ev_dead, lv_args, lk, st1, st2, ins, sa, rcv, swp_nil, swp_cons, Value.category, Option.toList_some, Option.toList_none, List.nil_append, List.cons_append, List.filter_cons, List.filter_nil, List.length_cons, List.length_nil, Bool.not_true, Bool.not_false, Bool.and_true, Bool.true_and, Bool.false_and, Bool.and_false, Nat.reduceBEq, Nat.reduceAdd, Nat.reduceSub, Nat.reduceMul, Nat.reduceEqDiff, Nat.reduceLT, Nat.reduceLeDiff, reduceIte, if_true, if_false, ite_true, ite_false, true_and, and_true, true_or, or_true, false_or, or_false, Nat.zero_le, Nat.le_refl, not_false_eq_true, not_true_eq_false, Bool.false_eq_true, beq_self_eq_true, Nat.add_one_ne_zero, eq_self_iff_true, Nat.zero_add, i1_0, i0_1, aref_, anull_, kd_0, kd_1, kd_2, kd_3, kd_4, kd_5, kd_6, kd_7, kd_8, kd_9, kd_10, kd_11, kd_12, kd_13, kd_14, kd_15, kd_16, kd_17, kd_18, kd_19, kd_20, kd_21, kd_22, kd_23, kd_24, kd_25, kd_26, kd_27, kd_28, kd_29, kd_30, kd_31, kd_32, kd_33, kd_34, kd_35, kd_36, kd_37, kd_38, kd_39, ln_13, ln_14, ln_15, ln_16, ln_17, ln_18, ln_19, ln_20, ln_21, ln_22, ln_23, ln_24, ln_25, ln_26, ln_27, ln_28, ln_29, ln_30, ln_31, ln_32, ln_33, ln_34, ln_35, ln_36, ln_37, ln_38, ln_39, lit, pk_mul, nI_add, nI_clamp, in_iff, nI_eq, nI_leI, nI_ltI, upd_eq, upd_ne, updL_eq, updL_ne, ui_ua, uj_ua, ua_eq, ua_ua, vqReader_takeLine_49, vqReader_takeLine_45, vqReader_takeLine_41, vqReader_takeLine_24, vqReader_takeLine_0, r4, r4']); (try simp only [bk_0, bk_1, bk_2, bk_3, bk_4, bk_5, bk_6, bk_7, bk_8, bk_9, bk_10, bk_11, bk_12, bk_13, bk_14, bk_15, bk_16, bk_17, bk_18, bk_19, bk_20, bk_21, bk_22, bk_23, bk_24, bk_25, bk_26, bk_27, bk_28, bk_29, bk_30, bk_31, bk_32, bk_33, bk_34, bk_35, bk_36, bk_37, bk_38, bk_39, bk_40, bk_41, bk_42, bk_43, bk_44, bk_45, bk_46, bk_47, bk_48, bk_49, bk_50, bk_51, bk_52, bk_53, bk_54, bk_55, bk_56, bk_57, bk_58, bk_59, bk_60, bk_61, bk_62, bk_63, bk_99, bk_100, bk_255, bk_320, bk_500, bk_600, bk_620, bk_1000, bk_12345, bk_1103515245]))
  by_cases c16 : s 1 < 16
  · rw [if_pos c16]
    have et : t0 s w = un (un s 1 (s 1 + 1)) 2 0 := by unfold t0; rw [if_neg (by omega)]
    refine cont _ ?_ ?_ ?_ ?_
    · rw [upd_ne (by decide), upd_ne (by decide), et, un_ne (by decide), un_ne (by decide)]; exact rg.r1
    · rw [upd_ne (by decide), upd_ne (by decide), plc_cg (s := s) (by rw [et, un_ne (by decide), un_ne (by decide)]) (by rw [et, un_ne (by decide), un_ne (by decide)])]; exact rg.r2
    · rw [upd_ne (by decide), upd_eq]
    · rw [upd_eq]
  · rw [if_neg c16]
    have et : t0 s w = mrk (un (un s 1 (s 1 + 1)) 2 0) 3 w := by unfold t0; rw [if_pos (by omega)]
    refine sp_Reader_mark_p (k := 3) (s := un (un s 1 (s 1 + 1)) 2 0) (w := w) h3 ?_ ?_ ?_ ?_ (by decide) (fun F' q1 q2 q3 => ?_)
    · rw [ua_eq, upd_ne (by decide), upd_ne (by decide), un_ne (by decide), un_ne (by decide)]; exact rg.r1
    · rw [ua_eq, upd_ne (by decide), upd_ne (by decide), plc_cg (s := s) (by rw [un_ne (by decide), un_ne (by decide)]) (by rw [un_ne (by decide), un_ne (by decide)])]; exact rg.r2
    · rw [ua_ne (by decide)]; exact f2
    · rw [un_ne (by decide), un_ne (by decide)]; exact sb.b8
    rw [ua_ua]
    rw [ua_eq] at q3
    try simp only [ev_iadd, ev_isub, ev_imul, ev_iand, ev_ishr, ev_iushr, ev_idiv, ev_irem, ev_ladd, ev_lsub, ev_lmul, ev_ldiv, ev_lrem, ev_lcmp, ev_ineg, ev_i2l, ev_i2b, ev_i2c, ev_l2i, ev_pop, ev_ci, ev_cl, ev_null, ev_cs, ev_gcs, ev_fmt, ev_ild, ev_ild_int, ev_lld, ev_lld_long, ev_ald, ev_ald_ref, ev_ald_null, ev_inc, ev_inc_int, ev_ist, ev_lst, ev_ast, ev_ast_null, ev_dup, ev_dup2, ev_if_eq, ev_if_ne, ev_if_lt, ev_if_ge, ev_if_gt, ev_if_le, ev_ic_eq, ev_ic_ne, ev_ic_lt, ev_ic_ge, ev_ic_gt, ev_ic_le, ev_ifnull_n, ev_ifnull_r, ev_ifnonnull_n, ev_ifnonnull_r, ev_sw, ev_geti, ev_getr, ev_puti, ev_putz, ev_putr, ev_iald, ev_bald, ev_zald, ev_lald, ev_aald, ev_alen, ev_iast, ev_bast, ev_zast, ev_last, ev_aast, ev_iret, ev_zret, ev_lret, ev_aret, ev_aret_n, ev_vret, ev_nret, ev_obj, ev_call, ev_callA, ev_callT, ev_call_s, ev_callA_s, ev_callT_s, ev_new, ev_newi, ev_newl, ev_newq, ev_acpy, ev_acpl, ev_sval, ev_scod, ev_sal, ev_sbl, ev_dead, lv_args, lk, st1, st2, ins, sa, rcv, swp_nil, swp_cons, Value.category, Option.toList_some, Option.toList_none, List.nil_append, List.cons_append, List.filter_cons, List.filter_nil, List.length_cons, List.length_nil, Bool.not_true, Bool.not_false, Bool.and_true, Bool.true_and, Bool.false_and, Bool.and_false, Nat.reduceBEq, Nat.reduceAdd, Nat.reduceSub, Nat.reduceMul, Nat.reduceEqDiff, Nat.reduceLT, Nat.reduceLeDiff, reduceIte, if_true, if_false, ite_true, ite_false, true_and, and_true, true_or, or_true, false_or, or_false, Nat.zero_le, Nat.le_refl, not_false_eq_true, not_true_eq_false, Bool.false_eq_true, beq_self_eq_true, Nat.add_one_ne_zero, eq_self_iff_true, Nat.zero_add, i1_0, i0_1, aref_, anull_, kd_0, kd_1, kd_2, kd_3, kd_4, kd_5, kd_6, kd_7, kd_8, kd_9, kd_10, kd_11, kd_12, kd_13, kd_14, kd_15, kd_16, kd_17, kd_18, kd_19, kd_20, kd_21, kd_22, kd_23, kd_24, kd_25, kd_26, kd_27, kd_28, kd_29, kd_30, kd_31, kd_32, kd_33, kd_34, kd_35, kd_36, kd_37, kd_38, kd_39, ln_13, ln_14, ln_15, ln_16, ln_17, ln_18, ln_19, ln_20, ln_21, ln_22, ln_23, ln_24, ln_25, ln_26, ln_27, ln_28, ln_29, ln_30, ln_31, ln_32, ln_33, ln_34, ln_35, ln_36, ln_37, ln_38, ln_39, vqReader_takeLine_49, vqReader_takeLine_45, vqReader_takeLine_41, vqReader_takeLine_24, vqReader_takeLine_0]
    refine cont F' (by rw [et]; exact q1) (by rw [et]; exact q2) ?_ ?_
    · rw [q3 4 (by decide) (by decide), upd_ne (by decide), upd_eq]
    · rw [q3 5 (by decide) (by decide), upd_eq]
theorem sp_Reader_takeWhat (h3 : R RE 3 = .ref TK) (tk : CAt g T p (I TK)) (rg : CR s (I RE)) (tb : KTab s I) (sb : SB s p) (hT : T ≤ 500) (h0 : s 0 = 1) (hK : TkP g T s p K E R I J) : CL yReader_takeWhat cReader_takeWhat 1 (some .int) (d + 2) 0 0 [.ref RE] E R I J K := by
  have hp := tk.le
  have hw := atp_le (g := g) hp
  obtain ⟨c, ec⟩ : ∃ c, cdp g T p = c := ⟨_, rfl⟩
  obtain ⟨w, ew⟩ : ∃ w, atp g T p = w := ⟨_, rfl⟩
  rw [ew] at hw
  have c25 : c ≤ 25 := by rw [← ec]; exact cd_rg
  have f4 : I TK 4 = nI c := by rw [tk.f4, ec]
  have f2 : I TK 2 = nI w := by rw [tk.f2, ew]
  have b2 := sb.b2
  have n0 : s 0 ≠ 0 := by omega
  have est := stp1 (c := c) (v := vlp g T p) (w := w) h0
  have r5 := rg.r5 n0
  have t1e : ∀ i, i ≠ 8 → i ≠ 9 → t1 s w i = s i := fun i i8 i9 => by
    unfold t1
    split
    · rw [mrk_ne i8 i9]
    · rfl
  have t1b : t1 s w 8 < 10 ∧ t1 s w 9 ≤ 500 := by
    unfold t1
    split
    · exact mrk_b (by decide) (by omega) sb.b8 sb.b9
    · exact ⟨sb.b8, sb.b9⟩
  have cont : ∀ F : Nat → Int32, F 1 = nI (t1 s w 8) → F 2 = plc (t1 s w) → F 4 = nI (s 1 - 1) → F 5 = nI (s 2) → qReader_takeWhat_13 (d + 1) 0 0 (gReader_takeWhat (d + 1) 0 0 K) K [(0, .ref RE)] [] E R (ua I RE F) J 0 0 := by
    intro F q1 q2 q4 q5
    have m3 : ∀ x, stp s (cdp g T p) (vlp g T p) (atp g T p) = un (un (t1 s w) 3 x) 0 3 → K (some (.int (nI 3))) E R (ua I RE (upd F 6 (nI x))) J := by
      intro x hx
      have e0 : un (un (t1 s w) 3 x) 0 3 0 = 3 := un_eq
      refine hK.re hx un_eq (fun _ => ⟨CR.mk ?_ ?_ ?_ ?_ ?_ ?_ ?_ ?_ ?_ ?_, ?_, ?_⟩)
      · rw [upd_ne (by decide), un_ne (by decide), un_ne (by decide)]; exact q1
      · rw [upd_ne (by decide), plc_cg (s := t1 s w) (by rw [un_ne (by decide), un_ne (by decide)]) (by rw [un_ne (by decide), un_ne (by decide)])]; exact q2
      · intro z; rw [e0] at z; omega
      · intro _; rw [upd_ne (by decide), un_ne (by decide), un_ne (by decide), t1e 1 (by decide) (by decide)]; exact q4
      · intro _; rw [upd_ne (by decide), un_ne (by decide), un_ne (by decide), t1e 2 (by decide) (by decide)]; exact q5
      · intro _; rw [upd_eq, un_ne (by decide), un_eq]
      · intro z; rw [e0] at z; omega
      · intro z; rw [e0] at z; omega
      · intro z; rw [e0] at z; omega
      · intro z; rw [e0] at z; omega
      · refine tb.re (fun i hi => ?_) (fun _ => Or.inr ⟨n0, ?_, ?_⟩)
        · rw [un_ne (by omega), un_ne (by omega), t1e i (by omega) (by omega)]
        · rw [un_ne (by decide), un_ne (by decide), t1e 1 (by decide) (by decide)]
        · rw [un_ne (by decide), un_ne (by decide), t1e 2 (by decide) (by decide)]
      · refine sb.mid n0 (by rw [e0]; decide) ?_ ?_ ?_ ?_ ?_ ?_
        · rw [un_ne (by decide), un_ne (by decide), t1e 1 (by decide) (by decide)]
        · rw [un_ne (by decide), un_ne (by decide), t1e 2 (by decide) (by decide)]; omega
        · rw [un_ne (by decide), un_ne (by decide)]; exact t1b.1
        · rw [un_ne (by decide), un_ne (by decide)]; exact t1b.2
        · rw [un_ne (by decide), un_ne (by decide), t1e 5 (by decide) (by decide)]; exact sb.b5
        · rw [un_ne (by decide), un_ne (by decide), t1e 10 (by decide) (by decide)]
    ((try simp only [ev_iadd, ev_isub, ev_imul, ev_iand, ev_ishr, ev_iushr, ev_idiv, ev_irem, ev_ladd, ev_lsub, ev_lmul, ev_ldiv, ev_lrem, ev_lcmp, ev_ineg, ev_i2l, ev_i2b, ev_i2c, ev_l2i, ev_pop, ev_ci, ev_cl, ev_null, ev_cs, ev_gcs, ev_fmt, ev_ild, ev_ild_int, ev_lld, ev_lld_long, ev_ald, ev_ald_ref, ev_ald_null, ev_inc, ev_inc_int, ev_ist, ev_lst, ev_ast, ev_ast_null, ev_dup, ev_dup2, ev_if_eq, ev_if_ne, ev_if_lt, ev_if_ge, ev_if_gt, ev_if_le, ev_ic_eq, ev_ic_ne, ev_ic_lt, ev_ic_ge, ev_ic_gt, ev_ic_le, ev_ifnull_n, ev_ifnull_r, ev_ifnonnull_n, ev_ifnonnull_r, ev_sw, ev_geti, ev_getr, ev_puti, ev_putz, ev_putr, ev_iald, ev_bald, ev_zald, ev_lald, ev_aald, ev_alen, ev_iast, ev_bast, ev_zast, ev_last, ev_aast, ev_iret, ev_zret, ev_lret, ev_aret, ev_aret_n, ev_vret, ev_nret, ev_obj, ev_call, ev_callA, ev_callT, ev_call_s, ev_callA_s, ev_callT_s, ev_new, ev_newi, ev_newl, ev_newq, ev_acpy, ev_acpl, ev_sval, ev_scod, ev_sal, ev_sbl, ev_dead, lv_args, lk, st1, st2, ins, sa, rcv, swp_nil, swp_cons, Value.category, Option.toList_some, Option.toList_none, List.nil_append, List.cons_append, List.filter_cons, List.filter_nil, List.length_cons, List.length_nil, Bool.not_true, Bool.not_false, Bool.and_true, Bool.true_and, Bool.false_and, Bool.and_false, Nat.reduceBEq, Nat.reduceAdd, Nat.reduceSub, Nat.reduceMul, Nat.reduceEqDiff, Nat.reduceLT, Nat.reduceLeDiff, reduceIte, if_true, if_false, ite_true, ite_false, true_and, and_true, true_or, or_true, false_or, or_false, Nat.zero_le, Nat.le_refl, not_false_eq_true, not_true_eq_false, Bool.false_eq_true, beq_self_eq_true, Nat.add_one_ne_zero, eq_self_iff_true, Nat.zero_add, i1_0, i0_1, aref_, anull_, kd_0, kd_1, kd_2, kd_3, kd_4, kd_5, kd_6, kd_7, kd_8, kd_9, kd_10, kd_11, kd_12, kd_13, kd_14, kd_15, kd_16, kd_17, kd_18, kd_19, kd_20, kd_21, kd_22, kd_23, kd_24, kd_25, kd_26, kd_27, kd_28, kd_29, kd_30, kd_31, kd_32, kd_33, kd_34, kd_35, kd_36, kd_37, kd_38, kd_39, ln_13, ln_14, ln_15, ln_16, ln_17, ln_18, ln_19, ln_20, ln_21, ln_22, ln_23, ln_24, ln_25, ln_26, ln_27, ln_28, ln_29, ln_30, ln_31, ln_32, ln_33, ln_34, ln_35, ln_36, ln_37, ln_38, ln_39, vqReader_takeWhat_120, vqReader_takeWhat_102, vqReader_takeWhat_100, vqReader_takeWhat_93, vqReader_takeWhat_86, vqReader_takeWhat_79, vqReader_takeWhat_72, vqReader_takeWhat_13, vqReader_takeWhat_8, vqReader_takeWhat_0, h3, f4, ua_rc]); (try simp (disch := omega) only [ev_iadd, ev_isub, ev_imul, ev_iand, ev_ishr, ev_iushr, ev_idiv, ev_irem, ev_ladd, ev_lsub, ev_lmul, ev_ldiv, ev_lrem, ev_lcmp, ev_ineg, ev_i2l, ev_i2b, ev_i2c, ev_l2i, ev_pop, ev_ci, ev_cl, ev_null, ev_cs, ev_gcs, ev_fmt, ev_ild, ev_ild_int, ev_lld, ev_lld_long, ev_ald, ev_ald_ref, ev_ald_null, ev_inc, ev_inc_int, ev_ist, ev_lst, ev_ast, ev_ast_null, ev_dup, ev_dup2, ev_if_eq, ev_if_ne, ev_if_lt, ev_if_ge, ev_if_gt, ev_if_le, ev_ic_eq, ev_ic_ne, ev_ic_lt, ev_ic_ge, ev_ic_gt, ev_ic_le, ev_ifnull_n, ev_ifnull_r, ev_ifnonnull_n, ev_ifnonnull_r, ev_sw, ev_geti, ev_getr, ev_puti, ev_putz, ev_putr, ev_iald, ev_bald, ev_zald, ev_lald, ev_aald, ev_alen, ev_iast, ev_bast, ev_zast, ev_last, ev_aast, ev_iret, ev_zret, ev_lret, ev_aret, ev_aret_n, ev_vret, ev_nret, ev_obj, ev_call, ev_callA, ev_callT, ev_call_s, ev_callA_s, ev_callT_s, ev_new, ev_newi, ev_newl, ev_newq, ev_acpy, ev_acpl, ev_sval, ev_scod, ev_sal, ev_sbl, ev_dead, lv_args, lk, st1, st2, ins, sa, rcv, swp_nil, swp_cons, Value.category, Option.toList_some, Option.toList_none, List.nil_append, List.cons_append, List.filter_cons, List.filter_nil, List.length_cons, List.length_nil, Bool.not_true, Bool.not_false, Bool.and_true, Bool.true_and, Bool.false_and, Bool.and_false, Nat.reduceBEq, Nat.reduceAdd, Nat.reduceSub, Nat.reduceMul, Nat.reduceEqDiff, Nat.reduceLT, Nat.reduceLeDiff, reduceIte, if_true, if_false, ite_true, ite_false, true_and, and_true, true_or, or_true, false_or, or_false, Nat.zero_le, Nat.le_refl, not_false_eq_true, not_true_eq_false, Bool.false_eq_true, beq_self_eq_true, Nat.add_one_ne_zero, eq_self_iff_true, Nat.zero_add, i1_0, i0_1, aref_, anull_, kd_0, kd_1, kd_2, kd_3, kd_4, kd_5, kd_6, kd_7, kd_8, kd_9, kd_10, kd_11, kd_12, kd_13, kd_14, kd_15, kd_16, kd_17, kd_18, kd_19, kd_20, kd_21, kd_22, kd_23, kd_24, kd_25, kd_26, kd_27, kd_28, kd_29, kd_30, kd_31, kd_32, kd_33, kd_34, kd_35, kd_36, kd_37, kd_38, kd_39, ln_13, ln_14, ln_15, ln_16, ln_17, ln_18, ln_19, ln_20, ln_21, ln_22, ln_23, ln_24, ln_25, ln_26, ln_27, ln_28, ln_29, ln_30, ln_31, ln_32, ln_33, ln_34, ln_35, ln_36, ln_37, ln_38, ln_39, lit, pk_mul, nI_add, nI_clamp, in_iff, nI_eq, nI_leI, nI_ltI, upd_eq, upd_ne, updL_eq, updL_ne, ui_ua, uj_ua, ua_eq, ua_ua, vqReader_takeWhat_120, vqReader_takeWhat_102, vqReader_takeWhat_100, vqReader_takeWhat_93, vqReader_takeWhat_86, vqReader_takeWhat_79, vqReader_takeWhat_72, vqReader_takeWhat_13, vqReader_takeWhat_8, vqReader_takeWhat_0, h3, f4, ua_rc]); (try simp only [bk_0, bk_1, bk_2, bk_3, bk_4, bk_5, bk_6, bk_7, bk_8, bk_9, bk_10, bk_11, bk_12, bk_13, bk_14, bk_15, bk_16, bk_17, bk_18, bk_19, bk_20, bk_21, bk_22, bk_23, bk_24, bk_25, bk_26, bk_27, bk_28, bk_29, bk_30, bk_31, bk_32, bk_33, bk_34, bk_35, bk_36, bk_37, bk_38, bk_39, bk_40, bk_41, bk_42, bk_43, bk_44, bk_45, bk_46, bk_47, bk_48, bk_49, bk_50, bk_51, bk_52, bk_53, bk_54, bk_55, bk_56, bk_57, bk_58, bk_59, bk_60, bk_61, bk_62, bk_63, bk_99, bk_100, bk_255, bk_320, bk_500, bk_600, bk_620, bk_1000, bk_12345, bk_1103515245]))
    by_cases c10 : c = 10
    · rw [if_pos c10]
      exact m3 0 (by rw [ec, ew, est, if_pos (by omega), show c - 10 = 0 by omega])
    rw [if_neg c10]
    by_cases c11 : c = 11
    · rw [if_pos c11]
      exact m3 1 (by rw [ec, ew, est, if_pos (by omega), show c - 10 = 1 by omega])
    rw [if_neg c11]
    by_cases c12 : c = 12
    · rw [if_pos c12]
      exact m3 2 (by rw [ec, ew, est, if_pos (by omega), show c - 10 = 2 by omega])
    rw [if_neg c12]
    by_cases c13 : c = 13
    · rw [if_pos c13]
      exact m3 3 (by rw [ec, ew, est, if_pos (by omega), show c - 10 = 3 by omega])
    rw [if_neg c13]
    rw [if_neg (by omega)] at est
    by_cases c14 : c = 14
    · rw [if_pos c14]
      rw [if_pos c14] at est
      have e0 : un (t1 s w) 0 2 0 = 2 := un_eq
      refine hK.re (n := 2) (s' := un (t1 s w) 0 2) (by rw [ec, ew, est]) un_eq (fun _ => ⟨CR.mk ?_ ?_ ?_ ?_ ?_ ?_ ?_ ?_ ?_ ?_, ?_, ?_⟩)
      · rw [un_ne (by decide)]; exact q1
      · rw [plc_cg (s := t1 s w) (un_ne (by decide)) (un_ne (by decide))]; exact q2
      · intro z; rw [e0] at z; omega
      · intro _; rw [un_ne (by decide), t1e 1 (by decide) (by decide)]; exact q4
      · intro _; rw [un_ne (by decide), t1e 2 (by decide) (by decide)]; exact q5
      · intro z; rw [e0] at z; omega
      · intro z; rw [e0] at z; omega
      · intro z; rw [e0] at z; omega
      · intro z; rw [e0] at z; omega
      · intro z; rw [e0] at z; omega
      · refine tb.re (fun i hi => ?_) (fun _ => Or.inr ⟨n0, ?_, ?_⟩)
        · rw [un_ne (by omega), t1e i (by omega) (by omega)]
        · rw [un_ne (by decide), t1e 1 (by decide) (by decide)]
        · rw [un_ne (by decide), t1e 2 (by decide) (by decide)]
      · refine sb.mid n0 (by rw [e0]; decide) ?_ ?_ ?_ ?_ ?_ ?_
        · rw [un_ne (by decide), t1e 1 (by decide) (by decide)]
        · rw [un_ne (by decide), t1e 2 (by decide) (by decide)]; omega
        · rw [un_ne (by decide)]; exact t1b.1
        · rw [un_ne (by decide)]; exact t1b.2
        · rw [un_ne (by decide), t1e 5 (by decide) (by decide)]; exact sb.b5
        · rw [un_ne (by decide), t1e 10 (by decide) (by decide)]
    rw [if_neg c14]
    rw [if_neg c14] at est
    have g4 : 15 ≤ c → c ≤ 18 → K (some (.int (nI 3))) E R (ua I RE (upd F 6 (nI (4 + c) - 15))) J := fun g1 g2 => by
      rw [show nI (4 + c) - 15 = nI (4 + c - 15) from by rw [lit 15, nI_sub (by omega)]]
      exact m3 (4 + c - 15) (by rw [ec, ew, est, if_pos ⟨g1, g2⟩])
    by_cases c15 : c = 15
    · rw [if_pos c15]
      exact g4 (by omega) (by omega)
    rw [if_neg c15]
    by_cases c16 : c = 16
    · rw [if_pos c16]
      exact g4 (by omega) (by omega)
    rw [if_neg c16]
    by_cases c17 : c = 17
    · rw [if_pos c17]
      exact g4 (by omega) (by omega)
    rw [if_neg c17]
    by_cases c18 : c = 18
    · rw [if_pos c18]
      exact g4 (by omega) (by omega)
    rw [if_neg c18]
    rw [if_neg (by omega)] at est
    exact hK.re (n := 10) (s' := un (t1 s w) 0 10) (by rw [ec, ew, est]) un_eq (fun z => absurd rfl z)
  apply eReader_takeWhat (Nat.le_of_ble_eq_true rfl)
  simp only [ev_iadd, ev_isub, ev_imul, ev_iand, ev_ishr, ev_iushr, ev_idiv, ev_irem, ev_ladd, ev_lsub, ev_lmul, ev_ldiv, ev_lrem, ev_lcmp, ev_ineg, ev_i2l, ev_i2b, ev_i2c, ev_l2i, ev_pop, ev_ci, ev_cl, ev_null, ev_cs, ev_gcs, ev_fmt, ev_ild, ev_ild_int, ev_lld, ev_lld_long, ev_ald, ev_ald_ref, ev_ald_null, ev_inc, ev_inc_int, ev_ist, ev_lst, ev_ast, ev_ast_null, ev_dup, ev_dup2, ev_if_eq, ev_if_ne, ev_if_lt, ev_if_ge, ev_if_gt, ev_if_le, ev_ic_eq, ev_ic_ne, ev_ic_lt, ev_ic_ge, ev_ic_gt, ev_ic_le, ev_ifnull_n, ev_ifnull_r, ev_ifnonnull_n, ev_ifnonnull_r, ev_sw, ev_geti, ev_getr, ev_puti, ev_putz, ev_putr, ev_iald, ev_bald, ev_zald, ev_lald, ev_aald, ev_alen, ev_iast, ev_bast, ev_zast, ev_last, ev_aast, ev_iret, ev_zret, ev_lret, ev_aret, ev_aret_n, ev_vret, ev_nret, ev_obj, ev_call, ev_callA, ev_callT, ev_call_s, ev_callA_s, ev_callT_s, ev_new, ev_newi, ev_newl, ev_newq, ev_acpy, ev_acpl, ev_sval, ev_scod, ev_sal, ev_sbl, ev_dead, lv_args, lk, st1, st2, ins, sa, rcv, swp_nil, swp_cons, Value.category, Option.toList_some, Option.toList_none, List.nil_append, List.cons_append, List.filter_cons, List.filter_nil, List.length_cons, List.length_nil, Bool.not_true, Bool.not_false, Bool.and_true, Bool.true_and, Bool.false_and, Bool.and_false, Nat.reduceBEq, Nat.reduceAdd, Nat.reduceSub, Nat.reduceMul, Nat.reduceEqDiff, Nat.reduceLT, Nat.reduceLeDiff, reduceIte, if_true, if_false, ite_true, ite_false, true_and, and_true, true_or, or_true, false_or, or_false, Nat.zero_le, Nat.le_refl, not_false_eq_true, not_true_eq_false, Bool.false_eq_true, beq_self_eq_true, Nat.add_one_ne_zero, eq_self_iff_true, Nat.zero_add, i1_0, i0_1, aref_, anull_, kd_0, kd_1, kd_2, kd_3, kd_4, kd_5, kd_6, kd_7, kd_8, kd_9, kd_10, kd_11, kd_12, kd_13, kd_14, kd_15, kd_16, kd_17, kd_18, kd_19, kd_20, kd_21, kd_22, kd_23, kd_24, kd_25, kd_26, kd_27, kd_28, kd_29, kd_30, kd_31, kd_32, kd_33, kd_34, kd_35, kd_36, kd_37, kd_38, kd_39, ln_13, ln_14, ln_15, ln_16, ln_17, ln_18, ln_19, ln_20, ln_21, ln_22, ln_23, ln_24, ln_25, ln_26, ln_27, ln_28, ln_29, ln_30, ln_31, ln_32, ln_33, ln_34, ln_35, ln_36, ln_37, ln_38, ln_39, vqReader_takeWhat_120, vqReader_takeWhat_102, vqReader_takeWhat_100, vqReader_takeWhat_93, vqReader_takeWhat_86, vqReader_takeWhat_79, vqReader_takeWhat_72, vqReader_takeWhat_8, vqReader_takeWhat_0]
  ((try simp only [ev_iadd, ev_isub, ev_imul, ev_iand, ev_ishr, ev_iushr, ev_idiv, ev_irem, ev_ladd, ev_lsub, ev_lmul, ev_ldiv, ev_lrem, ev_lcmp, ev_ineg, ev_i2l, ev_i2b, ev_i2c, ev_l2i, ev_pop, ev_ci, ev_cl, ev_null, ev_cs, ev_gcs, ev_fmt, ev_ild, ev_ild_int, ev_lld, ev_lld_long, ev_ald, ev_ald_ref, ev_ald_null, ev_inc, ev_inc_int, ev_ist, ev_lst, ev_ast, ev_ast_null, ev_dup, ev_dup2, ev_if_eq, ev_if_ne, ev_if_lt, ev_if_ge, ev_if_gt, ev_if_le, ev_ic_eq, ev_ic_ne, ev_ic_lt, ev_ic_ge, ev_ic_gt, ev_ic_le, ev_ifnull_n, ev_ifnull_r, ev_ifnonnull_n, ev_ifnonnull_r, ev_sw, ev_geti, ev_getr, ev_puti, ev_putz, ev_putr, ev_iald, ev_bald, ev_zald, ev_lald, ev_aald, ev_alen, ev_iast, ev_bast, ev_zast, ev_last, ev_aast, ev_iret, ev_zret, ev_lret, ev_aret, ev_aret_n, ev_vret, ev_nret, ev_obj, ev_call, ev_callA, ev_callT, ev_call_s, ev_callA_s, ev_callT_s, ev_new, ev_newi, ev_newl, ev_newq, ev_acpy, ev_acpl, ev_sval, ev_scod, ev_sal, ev_sbl, ev_dead, lv_args, lk, st1, st2, ins, sa, rcv, swp_nil, swp_cons, Value.category, Option.toList_some, Option.toList_none, List.nil_append, List.cons_append, List.filter_cons, List.filter_nil, List.length_cons, List.length_nil, Bool.not_true, Bool.not_false, Bool.and_true, Bool.true_and, Bool.false_and, Bool.and_false, Nat.reduceBEq, Nat.reduceAdd, Nat.reduceSub, Nat.reduceMul, Nat.reduceEqDiff, Nat.reduceLT, Nat.reduceLeDiff, reduceIte, if_true, if_false, ite_true, ite_false, true_and, and_true, true_or, or_true, false_or, or_false, Nat.zero_le, Nat.le_refl, not_false_eq_true, not_true_eq_false, Bool.false_eq_true, beq_self_eq_true, Nat.add_one_ne_zero, eq_self_iff_true, Nat.zero_add, i1_0, i0_1, aref_, anull_, kd_0, kd_1, kd_2, kd_3, kd_4, kd_5, kd_6, kd_7, kd_8, kd_9, kd_10, kd_11, kd_12, kd_13, kd_14, kd_15, kd_16, kd_17, kd_18, kd_19, kd_20, kd_21, kd_22, kd_23, kd_24, kd_25, kd_26, kd_27, kd_28, kd_29, kd_30, kd_31, kd_32, kd_33, kd_34, kd_35, kd_36, kd_37, kd_38, kd_39, ln_13, ln_14, ln_15, ln_16, ln_17, ln_18, ln_19, ln_20, ln_21, ln_22, ln_23, ln_24, ln_25, ln_26, ln_27, ln_28, ln_29, ln_30, ln_31, ln_32, ln_33, ln_34, ln_35, ln_36, ln_37, ln_38, ln_39, vqReader_takeWhat_120, vqReader_takeWhat_102, vqReader_takeWhat_100, vqReader_takeWhat_93, vqReader_takeWhat_86, vqReader_takeWhat_79, vqReader_takeWhat_72, vqReader_takeWhat_8, vqReader_takeWhat_0, r5]); (try simp (disch := omega) only [ev_iadd, ev_isub, ev_imul, ev_iand, ev_ishr, ev_iushr, ev_idiv, ev_irem, ev_ladd, ev_lsub, ev_lmul, ev_ldiv, ev_lrem, ev_lcmp, ev_ineg, ev_i2l, ev_i2b, ev_i2c, ev_l2i, ev_pop, ev_ci, ev_cl, ev_null, ev_cs, ev_gcs, ev_fmt, ev_ild, ev_ild_int, ev_lld, ev_lld_long, ev_ald, ev_ald_ref, ev_ald_null, ev_inc, ev_inc_int, ev_ist, ev_lst, ev_ast, ev_ast_null, ev_dup, ev_dup2, ev_if_eq, ev_if_ne, ev_if_lt, ev_if_ge, ev_if_gt, ev_if_le, ev_ic_eq, ev_ic_ne, ev_ic_lt, ev_ic_ge, ev_ic_gt, ev_ic_le, ev_ifnull_n, ev_ifnull_r, ev_ifnonnull_n, ev_ifnonnull_r, ev_sw, ev_geti, ev_getr, ev_puti, ev_putz, ev_putr, ev_iald, ev_bald, ev_zald, ev_lald, ev_aald, ev_alen, ev_iast, ev_bast, ev_zast, ev_last, ev_aast, ev_iret, ev_zret, ev_lret, ev_aret, ev_aret_n, ev_vret, ev_nret, ev_obj, ev_call, ev_callA, ev_callT, ev_call_s, ev_callA_s, ev_callT_s, ev_new, ev_newi, ev_newl, ev_newq, ev_acpy, ev_acpl, ev_sval, ev_scod, ev_sal, ev_sbl, ev_dead, lv_args, lk, st1, st2, ins, sa, rcv, swp_nil, swp_cons, Value.category, Option.toList_some, Option.toList_none, List.nil_append, List.cons_append, List.filter_cons, List.filter_nil, List.length_cons, List.length_nil, Bool.not_true, Bool.not_false, Bool.and_true, Bool.true_and, Bool.false_and, Bool.and_false, Nat.reduceBEq, Nat.reduceAdd, Nat.reduceSub, Nat.reduceMul, Nat.reduceEqDiff, Nat.reduceLT, Nat.reduceLeDiff, reduceIte, if_true, if_false, ite_true, ite_false, true_and, and_true, true_or, or_true, false_or, or_false, Nat.zero_le, Nat.le_refl, not_false_eq_true, not_true_eq_false, Bool.false_eq_true, beq_self_eq_true, Nat.add_one_ne_zero, eq_self_iff_true, Nat.zero_add, i1_0, i0_1, aref_, anull_, kd_0, kd_1, kd_2, kd_3, kd_4, kd_5, kd_6, kd_7, kd_8, kd_9, kd_10, kd_11, kd_12, kd_13, kd_14, kd_15, kd_16, kd_17, kd_18, kd_19, kd_20, kd_21, kd_22, kd_23, kd_24, kd_25, kd_26, kd_27, kd_28, kd_29, kd_30, kd_31, kd_32, kd_33, kd_34, kd_35, kd_36, kd_37, kd_38, kd_39, ln_13, ln_14, ln_15, ln_16, ln_17, ln_18, ln_19, ln_20, ln_21, ln_22, ln_23, ln_24, ln_25, ln_26, ln_27, ln_28, ln_29, ln_30, ln_31, ln_32, ln_33, ln_34, ln_35, ln_36, ln_37, ln_38, ln_39, lit, pk_mul, nI_add, nI_clamp, in_iff, nI_eq, nI_leI, nI_ltI, upd_eq, upd_ne, updL_eq, updL_ne, ui_ua, uj_ua, ua_eq, ua_ua, vqReader_takeWhat_120, vqReader_takeWhat_102, vqReader_takeWhat_100, vqReader_takeWhat_93, vqReader_takeWhat_86, vqReader_takeWhat_79, vqReader_takeWhat_72, vqReader_takeWhat_8, vqReader_takeWhat_0, r5]); (try simp only [bk_0, bk_1, bk_2, bk_3, bk_4, bk_5, bk_6, bk_7, bk_8, bk_9, bk_10, bk_11, bk_12, bk_13, bk_14, bk_15, bk_16, bk_17, bk_18, bk_19, bk_20, bk_21, bk_22, bk_23, bk_24, bk_25, bk_26, bk_27, bk_28, bk_29, bk_30, bk_31, bk_32, bk_33, bk_34, bk_35, bk_36, bk_37, bk_38, bk_39, bk_40, bk_41, bk_42, bk_43, bk_44, bk_45, bk_46, bk_47, bk_48, bk_49, bk_50, bk_51, bk_52, bk_53, bk_54, bk_55, bk_56, bk_57, bk_58, bk_59, bk_60, bk_61, bk_62, bk_63, bk_99, bk_100, bk_255, bk_320, bk_500, bk_600, bk_620, bk_1000, bk_12345, bk_1103515245]))
  by_cases c4 : s 2 < 4
  · rw [if_pos c4]
    have et : t1 s w = s := by unfold t1; rw [if_neg (by omega)]
    have := cont (I RE) (by rw [et]; exact rg.r1) (by rw [et]; exact rg.r2) (rg.rm n0) r5
    rw [ua_self] at this
    exact this
  · rw [if_neg c4]
    have et : t1 s w = mrk s 3 w := by unfold t1; rw [if_pos (by omega)]
    refine sp_Reader_mark_p (k := 3) (s := s) (w := w) h3 rg.r1 rg.r2 f2 sb.b8 (by decide) (fun F' q1 q2 q3 => ?_)
    try simp only [ev_iadd, ev_isub, ev_imul, ev_iand, ev_ishr, ev_iushr, ev_idiv, ev_irem, ev_ladd, ev_lsub, ev_lmul, ev_ldiv, ev_lrem, ev_lcmp, ev_ineg, ev_i2l, ev_i2b, ev_i2c, ev_l2i, ev_pop, ev_ci, ev_cl, ev_null, ev_cs, ev_gcs, ev_fmt, ev_ild, ev_ild_int, ev_lld, ev_lld_long, ev_ald, ev_ald_ref, ev_ald_null, ev_inc, ev_inc_int, ev_ist, ev_lst, ev_ast, ev_ast_null, ev_dup, ev_dup2, ev_if_eq, ev_if_ne, ev_if_lt, ev_if_ge, ev_if_gt, ev_if_le, ev_ic_eq, ev_ic_ne, ev_ic_lt, ev_ic_ge, ev_ic_gt, ev_ic_le, ev_ifnull_n, ev_ifnull_r, ev_ifnonnull_n, ev_ifnonnull_r, ev_sw, ev_geti, ev_getr, ev_puti, ev_putz, ev_putr, ev_iald, ev_bald, ev_zald, ev_lald, ev_aald, ev_alen, ev_iast, ev_bast, ev_zast, ev_last, ev_aast, ev_iret, ev_zret, ev_lret, ev_aret, ev_aret_n, ev_vret, ev_nret, ev_obj, ev_call, ev_callA, ev_callT, ev_call_s, ev_callA_s, ev_callT_s, ev_new, ev_newi, ev_newl, ev_newq, ev_acpy, ev_acpl, ev_sval, ev_scod, ev_sal, ev_sbl, ev_dead, lv_args, lk, st1, st2, ins, sa, rcv, swp_nil, swp_cons, Value.category, Option.toList_some, Option.toList_none, List.nil_append, List.cons_append, List.filter_cons, List.filter_nil, List.length_cons, List.length_nil, Bool.not_true, Bool.not_false, Bool.and_true, Bool.true_and, Bool.false_and, Bool.and_false, Nat.reduceBEq, Nat.reduceAdd, Nat.reduceSub, Nat.reduceMul, Nat.reduceEqDiff, Nat.reduceLT, Nat.reduceLeDiff, reduceIte, if_true, if_false, ite_true, ite_false, true_and, and_true, true_or, or_true, false_or, or_false, Nat.zero_le, Nat.le_refl, not_false_eq_true, not_true_eq_false, Bool.false_eq_true, beq_self_eq_true, Nat.add_one_ne_zero, eq_self_iff_true, Nat.zero_add, i1_0, i0_1, aref_, anull_, kd_0, kd_1, kd_2, kd_3, kd_4, kd_5, kd_6, kd_7, kd_8, kd_9, kd_10, kd_11, kd_12, kd_13, kd_14, kd_15, kd_16, kd_17, kd_18, kd_19, kd_20, kd_21, kd_22, kd_23, kd_24, kd_25, kd_26, kd_27, kd_28, kd_29, kd_30, kd_31, kd_32, kd_33, kd_34, kd_35, kd_36, kd_37, kd_38, kd_39, ln_13, ln_14, ln_15, ln_16, ln_17, ln_18, ln_19, ln_20, ln_21, ln_22, ln_23, ln_24, ln_25, ln_26, ln_27, ln_28, ln_29, ln_30, ln_31, ln_32, ln_33, ln_34, ln_35, ln_36, ln_37, ln_38, ln_39, vqReader_takeWhat_120, vqReader_takeWhat_102, vqReader_takeWhat_100, vqReader_takeWhat_93, vqReader_takeWhat_86, vqReader_takeWhat_79, vqReader_takeWhat_72, vqReader_takeWhat_8, vqReader_takeWhat_0]
    exact cont F' (by rw [et]; exact q1) (by rw [et]; exact q2) (by rw [q3 4 (by decide) (by decide)]; exact rg.rm n0) (by rw [q3 5 (by decide) (by decide)]; exact r5)
end DC

/-! the reference reads a line: goods and acts -/
section MX
variable {d : Nat} {K : Ps} {E : Nat → Prop} {R : Nat → Nat → Value} {I : Nat → Nat → Int32} {J : Nat → Nat → Int64} {g : Nat → Nat} {T : Nat} {F F' A A0 D : Nat → Int32} {p ln k : Nat} {s s0 : Nat → Nat}
theorem ex_Mo_aLine133 (hR : MoR R) (hm : MTp g T A0) (h : MOk g T A0 ln s p F A D) (h0 : s 0 = 8) (h1 : s 1 = ln + 1) (h2 : s 2 = k) (h5 : s 5 ≤ 25) (hq : s 8 = 0 → ln < 16 ∧ s 2 ≤ 4) (hk : k < 1000) (hln : ln < 1000)
    (hW : ∀ F' A' D' x' ln', ln' < 1001 → MWr A0 ln' x' F' A' → RW g T s p x' → K none E R (St I F' A' D') J)
    (hK : ∀ s' p' F' A' D', MOk g T A0 (ln + 1) s' p' F' A' D' → s' 0 = 0 → s' 1 = ln + 1 → res g T s p = res g T s' p' → p < p' → K none E R (St I F' A' D') J) : qMo_aLine_133 (d + 6) 0 0 (gMo_aLine (d + 6) 0 0 K) K [(0, .ref MO), (1, .int (nI k)), (2, .int (nI (s 5 + 1))), (3, .int (nI (s 6))), (4, .int 0)] [] E R (St I F A D) J 0 0 := by
  by_cases c : cdp g T p = 2
  · by_cases c25 : s 5 = 24
    · by_cases cv : vlp g T p ≤ 4
      · exact ex_Mo_aLine133b hR hm h h0 h1 h2 h5 hq hk hln hW hK c c25 cv
      · exact ex_Mo_aLine133c hR hm h h0 h1 h2 h5 hq hk hln hW hK c c25 cv
    · exact ex_Mo_aLine133a hR hm h h0 h1 h2 h5 hq hk hln hW hK c c25
  · exact ex_Mo_aLine133w hR hm h h0 h1 h2 h5 hq hk hln hW hK c
theorem ex_Mo_aLine121 (hR : MoR R) (hm : MTp g T A0) (h : MOk g T A0 ln s p F A D) (h1 : s 1 = ln + 1) (h2 : s 2 = k) (h5 : s 5 ≤ 25) (h0 : (s 0 = 8 ∧ (s 5 ≤ 22 ∨ s 5 = 24)) ∨ (s 0 = 9 ∧ (s 5 = 23 ∨ s 5 = 25) ∧ s 7 = 0)) (hq : s 8 = 0 → ln < 16 ∧ s 2 ≤ 4) (hk : k < 1000) (hln : ln < 1000)
    (hW : ∀ F' A' D' x' ln', ln' < 1001 → MWr A0 ln' x' F' A' → RW g T s p x' → K none E R (St I F' A' D') J)
    (hK : ∀ s' p' F' A' D', MOk g T A0 (ln + 1) s' p' F' A' D' → s' 0 = 0 → s' 1 = ln + 1 → res g T s p = res g T s' p' → p < p' → K none E R (St I F' A' D') J) : qMo_aLine_121 (d + 6) 0 0 (gMo_aLine (d + 6) 0 0 K) K [(0, .ref MO), (1, .int (nI k)), (2, .int (nI (s 5 + 1))), (3, .int (nI (s 6))), (4, .int 0)] [] E R (St I F A D) J 0 0 := by
  have e23 : nI (s 5 + 1) ≤ (23 : Int32) ↔ s 5 ≤ 22 := by rw [lit 23, nI_leI (by omega) (by omega)]; omega
  have e25 : nI (s 5 + 1) = (25 : Int32) ↔ s 5 = 24 := by rw [lit 25, nI_eq (by omega) (by omega)]; omega
  rcases h0 with ⟨h0, c⟩ | ⟨h0, c, c7⟩
  · have key := ex_Mo_aLine133 (d := d) hR hm h h0 h1 h2 h5 hq hk hln hW hK
    rcases c with c | c
    · refine Eq.mpr (if_pos (e23.mpr c)) ?_
      exact key
    · refine Eq.mpr (if_neg (mt e23.mp (by omega))) ?_
      refine Eq.mpr (if_pos (e25.mpr c)) ?_
      exact key
  · have key := ex_Mo_aLine164 (d := d) (K := K) (E := E) (J := J) (I := I) (k := k) (tl := []) hR hm h h0 h1 h2 hq hk hln hW hK
    rw [c7] at key
    refine Eq.mpr (if_neg (mt e23.mp (by omega))) ?_
    refine Eq.mpr (if_neg (mt e25.mp (by omega))) ?_
    exact key
/-- wrong, where a number may still be asked -/
theorem ex_Mo_aLine121W {x : Nat} {v3 : Int32} {y : Nat} (hR : MoR R) (h : MWr A0 ln x F A) (hy : y ≤ 22) (hln : ln < 1000) (hk : k < 1000) (hW : ∀ F' A' D' ln', ln' < 1001 → MWr A0 ln' x F' A' → K none E R (St I F' A' D') J) :
    qMo_aLine_121 (d + 6) 0 0 (gMo_aLine (d + 6) 0 0 K) K [(0, .ref MO), (1, .int (nI k)), (2, .int (nI y)), (3, .int v3), (4, .int 0)] [] E R (St I F A D) J 0 0 := by
  have e23 : nI y ≤ (23 : Int32) := by rw [lit 23, nI_leI (by omega) (by omega)]; omega
  have e25 : ¬ nI y = (25 : Int32) := by rw [lit 25, nI_eq (by omega) (by omega)]; omega
  refine Eq.mpr (if_pos e23) ?_
  simp only [vqMo_aLine_133, ev_iadd, ev_isub, ev_imul, ev_iand, ev_ishr, ev_iushr, ev_idiv, ev_irem, ev_ladd, ev_lsub, ev_lmul, ev_ldiv, ev_lrem, ev_lcmp, ev_ineg, ev_i2l, ev_i2b, ev_i2c, ev_l2i, ev_pop, ev_ci, ev_cl, ev_null, ev_cs, ev_gcs, ev_fmt, ev_ild, ev_ild_int, ev_lld, ev_lld_long, ev_ald, ev_ald_ref, ev_ald_null, ev_inc, ev_inc_int, ev_ist, ev_lst, ev_ast, ev_ast_null, ev_dup, ev_dup2, ev_if_eq, ev_if_ne, ev_if_lt, ev_if_ge, ev_if_gt, ev_if_le, ev_ic_eq, ev_ic_ne, ev_ic_lt, ev_ic_ge, ev_ic_gt, ev_ic_le, ev_ifnull_n, ev_ifnull_r, ev_ifnonnull_n, ev_ifnonnull_r, ev_sw, ev_geti, ev_getr, ev_puti, ev_putz, ev_putr, ev_iald, ev_bald, ev_zald, ev_lald, ev_aald, ev_alen, ev_iast, ev_bast, ev_zast, ev_last, ev_aast, ev_iret, ev_zret, ev_lret, ev_aret, ev_aret_n, ev_vret, ev_nret, ev_obj, ev_call, ev_callA, ev_callT, ev_call_s, ev_callA_s, ev_callT_s, ev_new, ev_newi, ev_newl, ev_newq, ev_acpy, ev_acpl, ev_sval, ev_scod, ev_sal, ev_sbl, ev_dead, lv_args, lk, st1, st2, ins, sa, rcv, swp_nil, swp_cons, Value.category, Option.toList_some, Option.toList_none, List.nil_append, List.cons_append, List.filter_cons, List.filter_nil, List.length_cons, List.length_nil, Bool.not_true, Bool.not_false, Bool.and_true, Bool.true_and, Bool.false_and, Bool.and_false, Nat.reduceBEq, Nat.reduceAdd, Nat.reduceSub, Nat.reduceMul, Nat.reduceEqDiff, Nat.reduceLT, Nat.reduceLeDiff, reduceIte, if_true, if_false, ite_true, ite_false, true_and, and_true, true_or, or_true, false_or, or_false, Nat.zero_le, Nat.le_refl, not_false_eq_true, not_true_eq_false, Bool.false_eq_true, beq_self_eq_true, Nat.add_one_ne_zero, eq_self_iff_true, Nat.zero_add, i1_0, i0_1, aref_, anull_, kd_0, kd_1, kd_2, kd_3, kd_4, kd_5, kd_6, kd_7, kd_8, kd_9, kd_10, kd_11, kd_12, kd_13, kd_14, kd_15, kd_16, kd_17, kd_18, kd_19, kd_20, kd_21, kd_22, kd_23, kd_24, kd_25, kd_26, kd_27, kd_28, kd_29, kd_30, kd_31, kd_32, kd_33, kd_34, kd_35, kd_36, kd_37, kd_38, kd_39, ln_13, ln_14, ln_15, ln_16, ln_17, ln_18, ln_19, ln_20, ln_21, ln_22, ln_23, ln_24, ln_25, ln_26, ln_27, ln_28, ln_29, ln_30, ln_31, ln_32, ln_33, ln_34, ln_35, ln_36, ln_37, ln_38, ln_39, St_MO]
  refine sp_Mo_numbered_w h.1 (fun z => ?_)
  refine Eq.mpr (if_neg e25) ?_
  exact ex_Mo_aLineW hR h hln hk hW
theorem ex_Mo_aLine116 (hR : MoR R) (hm : MTp g T A0) (h : MOk g T A0 ln s p F A D) (h0 : s 0 = 7) (h1 : s 1 = ln + 1) (h2 : s 2 = k) (h5 : s 5 ≤ 21) (h7 : s 7 = 0) (hq : s 8 = 0 → ln < 16 ∧ s 2 ≤ 4) (hk : k < 1000) (hln : ln < 1000)
    (hW : ∀ F' A' D' x' ln', ln' < 1001 → MWr A0 ln' x' F' A' → RW g T s p x' → K none E R (St I F' A' D') J)
    (hK : ∀ s' p' F' A' D', MOk g T A0 (ln + 1) s' p' F' A' D' → s' 0 = 0 → s' 1 = ln + 1 → res g T s p = res g T s' p' → p < p' → K none E R (St I F' A' D') J) : qMo_aLine_116 (d + 6) 0 0 (gMo_aLine (d + 6) 0 0 K) K [(0, .ref MO), (1, .int (nI k)), (2, .int (nI (s 5 + 1))), (3, .int 0), (4, .int 0)] [] E R (St I F A D) J 0 0 := by
  have hA := h.a
  have hmA : MTp g T A := by rw [hA]; exact hm.as
  by_cases c : 16 ≤ cdp g T p ∧ cdp g T p ≤ 18
  · have est : stp s (cdp g T p) (vlp g T p) (atp g T p) = un (un s 6 (cdp g T p - 15)) 0 8 := by rw [stp7 h0, if_pos c]
    have hres := res_step (g := g) (s := s) h.tk.le (by omega) (by rw [h0]; decide) (by rw [est, un_eq]; decide)
    rw [est] at hres
    have hlt := nxp_lt (g := g) h.tk.le (by omega)
    simp only [vqMo_aLine_116, ev_iadd, ev_isub, ev_imul, ev_iand, ev_ishr, ev_iushr, ev_idiv, ev_irem, ev_ladd, ev_lsub, ev_lmul, ev_ldiv, ev_lrem, ev_lcmp, ev_ineg, ev_i2l, ev_i2b, ev_i2c, ev_l2i, ev_pop, ev_ci, ev_cl, ev_null, ev_cs, ev_gcs, ev_fmt, ev_ild, ev_ild_int, ev_lld, ev_lld_long, ev_ald, ev_ald_ref, ev_ald_null, ev_inc, ev_inc_int, ev_ist, ev_lst, ev_ast, ev_ast_null, ev_dup, ev_dup2, ev_if_eq, ev_if_ne, ev_if_lt, ev_if_ge, ev_if_gt, ev_if_le, ev_ic_eq, ev_ic_ne, ev_ic_lt, ev_ic_ge, ev_ic_gt, ev_ic_le, ev_ifnull_n, ev_ifnull_r, ev_ifnonnull_n, ev_ifnonnull_r, ev_sw, ev_geti, ev_getr, ev_puti, ev_putz, ev_putr, ev_iald, ev_bald, ev_zald, ev_lald, ev_aald, ev_alen, ev_iast, ev_bast, ev_zast, ev_last, ev_aast, ev_iret, ev_zret, ev_lret, ev_aret, ev_aret_n, ev_vret, ev_nret, ev_obj, ev_call, ev_callA, ev_callT, ev_call_s, ev_callA_s, ev_callT_s, ev_new, ev_newi, ev_newl, ev_newq, ev_acpy, ev_acpl, ev_sval, ev_scod, ev_sal, ev_sbl, ev_dead, lv_args, lk, st1, st2, ins, sa, rcv, swp_nil, swp_cons, Value.category, Option.toList_some, Option.toList_none, List.nil_append, List.cons_append, List.filter_cons, List.filter_nil, List.length_cons, List.length_nil, Bool.not_true, Bool.not_false, Bool.and_true, Bool.true_and, Bool.false_and, Bool.and_false, Nat.reduceBEq, Nat.reduceAdd, Nat.reduceSub, Nat.reduceMul, Nat.reduceEqDiff, Nat.reduceLT, Nat.reduceLeDiff, reduceIte, if_true, if_false, ite_true, ite_false, true_and, and_true, true_or, or_true, false_or, or_false, Nat.zero_le, Nat.le_refl, not_false_eq_true, not_true_eq_false, Bool.false_eq_true, beq_self_eq_true, Nat.add_one_ne_zero, eq_self_iff_true, Nat.zero_add, i1_0, i0_1, aref_, anull_, kd_0, kd_1, kd_2, kd_3, kd_4, kd_5, kd_6, kd_7, kd_8, kd_9, kd_10, kd_11, kd_12, kd_13, kd_14, kd_15, kd_16, kd_17, kd_18, kd_19, kd_20, kd_21, kd_22, kd_23, kd_24, kd_25, kd_26, kd_27, kd_28, kd_29, kd_30, kd_31, kd_32, kd_33, kd_34, kd_35, kd_36, kd_37, kd_38, kd_39, ln_13, ln_14, ln_15, ln_16, ln_17, ln_18, ln_19, ln_20, ln_21, ln_22, ln_23, ln_24, ln_25, ln_26, ln_27, ln_28, ln_29, ln_30, ln_31, ln_32, ln_33, ln_34, ln_35, ln_36, ln_37, ln_38, ln_39]
    refine sp_Mo_aGood_t hR hmA h.tk h.f10 c (fun F1 q1 q2 q3 => ?_)
    have m := ((h.unr (k := 6) (x := cdp g T p - 15) (by decide) (by decide) (by decide) (by decide) (by decide) (by decide)).unr (k := 0) (x := 8) (by decide) (by decide) (by decide) (by decide) (by decide) (by decide)).mv q1 q2 q3
    have key := ex_Mo_aLine121 (d := d) (K := K) (E := E) (J := J) (I := I) (k := k) hR hm m (by rw [un_ne (by decide), un_ne (by decide)]; exact h1) (by rw [un_ne (by decide), un_ne (by decide)]; exact h2) (by rw [un_ne (by decide), un_ne (by decide)]; omega) (Or.inl ⟨un_eq, Or.inl (by rw [un_ne (by decide), un_ne (by decide)]; omega)⟩) (fun z => by rw [un_ne (by decide), un_ne (by decide)] at z ⊢; exact hq z) hk hln (fun F' A' D' x' ln' l' w1 w2 => hW F' A' D' x' ln' l' w1 ⟨(congrFun hres 8).trans w2.1, (congrFun hres 9).trans w2.2⟩) (fun s' p' F' A' D' m1 m2 m3 m4 m5 => hK s' p' F' A' D' m1 m2 m3 (hres.trans m4) (by omega))
    rw [un_ne (show 5 ≠ 0 by decide), un_ne (show 5 ≠ 6 by decide), un_ne (show 6 ≠ 0 by decide), un_eq] at key
    simp only [ev_iadd, ev_isub, ev_imul, ev_iand, ev_ishr, ev_iushr, ev_idiv, ev_irem, ev_ladd, ev_lsub, ev_lmul, ev_ldiv, ev_lrem, ev_lcmp, ev_ineg, ev_i2l, ev_i2b, ev_i2c, ev_l2i, ev_pop, ev_ci, ev_cl, ev_null, ev_cs, ev_gcs, ev_fmt, ev_ild, ev_ild_int, ev_lld, ev_lld_long, ev_ald, ev_ald_ref, ev_ald_null, ev_inc, ev_inc_int, ev_ist, ev_lst, ev_ast, ev_ast_null, ev_dup, ev_dup2, ev_if_eq, ev_if_ne, ev_if_lt, ev_if_ge, ev_if_gt, ev_if_le, ev_ic_eq, ev_ic_ne, ev_ic_lt, ev_ic_ge, ev_ic_gt, ev_ic_le, ev_ifnull_n, ev_ifnull_r, ev_ifnonnull_n, ev_ifnonnull_r, ev_sw, ev_geti, ev_getr, ev_puti, ev_putz, ev_putr, ev_iald, ev_bald, ev_zald, ev_lald, ev_aald, ev_alen, ev_iast, ev_bast, ev_zast, ev_last, ev_aast, ev_iret, ev_zret, ev_lret, ev_aret, ev_aret_n, ev_vret, ev_nret, ev_obj, ev_call, ev_callA, ev_callT, ev_call_s, ev_callA_s, ev_callT_s, ev_new, ev_newi, ev_newl, ev_newq, ev_acpy, ev_acpl, ev_sval, ev_scod, ev_sal, ev_sbl, ev_dead, lv_args, lk, st1, st2, ins, sa, rcv, swp_nil, swp_cons, Value.category, Option.toList_some, Option.toList_none, List.nil_append, List.cons_append, List.filter_cons, List.filter_nil, List.length_cons, List.length_nil, Bool.not_true, Bool.not_false, Bool.and_true, Bool.true_and, Bool.false_and, Bool.and_false, Nat.reduceBEq, Nat.reduceAdd, Nat.reduceSub, Nat.reduceMul, Nat.reduceEqDiff, Nat.reduceLT, Nat.reduceLeDiff, reduceIte, if_true, if_false, ite_true, ite_false, true_and, and_true, true_or, or_true, false_or, or_false, Nat.zero_le, Nat.le_refl, not_false_eq_true, not_true_eq_false, Bool.false_eq_true, beq_self_eq_true, Nat.add_one_ne_zero, eq_self_iff_true, Nat.zero_add, i1_0, i0_1, aref_, anull_, kd_0, kd_1, kd_2, kd_3, kd_4, kd_5, kd_6, kd_7, kd_8, kd_9, kd_10, kd_11, kd_12, kd_13, kd_14, kd_15, kd_16, kd_17, kd_18, kd_19, kd_20, kd_21, kd_22, kd_23, kd_24, kd_25, kd_26, kd_27, kd_28, kd_29, kd_30, kd_31, kd_32, kd_33, kd_34, kd_35, kd_36, kd_37, kd_38, kd_39, ln_13, ln_14, ln_15, ln_16, ln_17, ln_18, ln_19, ln_20, ln_21, ln_22, ln_23, ln_24, ln_25, ln_26, ln_27, ln_28, ln_29, ln_30, ln_31, ln_32, ln_33, ln_34, ln_35, ln_36, ln_37, ln_38, ln_39]
    exact key
  · have est : stp s (cdp g T p) (vlp g T p) (atp g T p) 0 = 10 := by rw [stp7 h0, if_neg c, un_eq]
    have hres := res_stop (g := g) (s := s) h.tk.le (by rw [h0]; decide) (by rw [h0]; decide) est
    have wr := MWr.stop (x := atp g T p) h.f11 hA
    simp only [vqMo_aLine_116, ev_iadd, ev_isub, ev_imul, ev_iand, ev_ishr, ev_iushr, ev_idiv, ev_irem, ev_ladd, ev_lsub, ev_lmul, ev_ldiv, ev_lrem, ev_lcmp, ev_ineg, ev_i2l, ev_i2b, ev_i2c, ev_l2i, ev_pop, ev_ci, ev_cl, ev_null, ev_cs, ev_gcs, ev_fmt, ev_ild, ev_ild_int, ev_lld, ev_lld_long, ev_ald, ev_ald_ref, ev_ald_null, ev_inc, ev_inc_int, ev_ist, ev_lst, ev_ast, ev_ast_null, ev_dup, ev_dup2, ev_if_eq, ev_if_ne, ev_if_lt, ev_if_ge, ev_if_gt, ev_if_le, ev_ic_eq, ev_ic_ne, ev_ic_lt, ev_ic_ge, ev_ic_gt, ev_ic_le, ev_ifnull_n, ev_ifnull_r, ev_ifnonnull_n, ev_ifnonnull_r, ev_sw, ev_geti, ev_getr, ev_puti, ev_putz, ev_putr, ev_iald, ev_bald, ev_zald, ev_lald, ev_aald, ev_alen, ev_iast, ev_bast, ev_zast, ev_last, ev_aast, ev_iret, ev_zret, ev_lret, ev_aret, ev_aret_n, ev_vret, ev_nret, ev_obj, ev_call, ev_callA, ev_callT, ev_call_s, ev_callA_s, ev_callT_s, ev_new, ev_newi, ev_newl, ev_newq, ev_acpy, ev_acpl, ev_sval, ev_scod, ev_sal, ev_sbl, ev_dead, lv_args, lk, st1, st2, ins, sa, rcv, swp_nil, swp_cons, Value.category, Option.toList_some, Option.toList_none, List.nil_append, List.cons_append, List.filter_cons, List.filter_nil, List.length_cons, List.length_nil, Bool.not_true, Bool.not_false, Bool.and_true, Bool.true_and, Bool.false_and, Bool.and_false, Nat.reduceBEq, Nat.reduceAdd, Nat.reduceSub, Nat.reduceMul, Nat.reduceEqDiff, Nat.reduceLT, Nat.reduceLeDiff, reduceIte, if_true, if_false, ite_true, ite_false, true_and, and_true, true_or, or_true, false_or, or_false, Nat.zero_le, Nat.le_refl, not_false_eq_true, not_true_eq_false, Bool.false_eq_true, beq_self_eq_true, Nat.add_one_ne_zero, eq_self_iff_true, Nat.zero_add, i1_0, i0_1, aref_, anull_, kd_0, kd_1, kd_2, kd_3, kd_4, kd_5, kd_6, kd_7, kd_8, kd_9, kd_10, kd_11, kd_12, kd_13, kd_14, kd_15, kd_16, kd_17, kd_18, kd_19, kd_20, kd_21, kd_22, kd_23, kd_24, kd_25, kd_26, kd_27, kd_28, kd_29, kd_30, kd_31, kd_32, kd_33, kd_34, kd_35, kd_36, kd_37, kd_38, kd_39, ln_13, ln_14, ln_15, ln_16, ln_17, ln_18, ln_19, ln_20, ln_21, ln_22, ln_23, ln_24, ln_25, ln_26, ln_27, ln_28, ln_29, ln_30, ln_31, ln_32, ln_33, ln_34, ln_35, ln_36, ln_37, ln_38, ln_39]
    refine sp_Mo_aGood_f hR h.tk h.f10 c (fun z => ?_)
    simp only [ev_iadd, ev_isub, ev_imul, ev_iand, ev_ishr, ev_iushr, ev_idiv, ev_irem, ev_ladd, ev_lsub, ev_lmul, ev_ldiv, ev_lrem, ev_lcmp, ev_ineg, ev_i2l, ev_i2b, ev_i2c, ev_l2i, ev_pop, ev_ci, ev_cl, ev_null, ev_cs, ev_gcs, ev_fmt, ev_ild, ev_ild_int, ev_lld, ev_lld_long, ev_ald, ev_ald_ref, ev_ald_null, ev_inc, ev_inc_int, ev_ist, ev_lst, ev_ast, ev_ast_null, ev_dup, ev_dup2, ev_if_eq, ev_if_ne, ev_if_lt, ev_if_ge, ev_if_gt, ev_if_le, ev_ic_eq, ev_ic_ne, ev_ic_lt, ev_ic_ge, ev_ic_gt, ev_ic_le, ev_ifnull_n, ev_ifnull_r, ev_ifnonnull_n, ev_ifnonnull_r, ev_sw, ev_geti, ev_getr, ev_puti, ev_putz, ev_putr, ev_iald, ev_bald, ev_zald, ev_lald, ev_aald, ev_alen, ev_iast, ev_bast, ev_zast, ev_last, ev_aast, ev_iret, ev_zret, ev_lret, ev_aret, ev_aret_n, ev_vret, ev_nret, ev_obj, ev_call, ev_callA, ev_callT, ev_call_s, ev_callA_s, ev_callT_s, ev_new, ev_newi, ev_newl, ev_newq, ev_acpy, ev_acpl, ev_sval, ev_scod, ev_sal, ev_sbl, ev_dead, lv_args, lk, st1, st2, ins, sa, rcv, swp_nil, swp_cons, Value.category, Option.toList_some, Option.toList_none, List.nil_append, List.cons_append, List.filter_cons, List.filter_nil, List.length_cons, List.length_nil, Bool.not_true, Bool.not_false, Bool.and_true, Bool.true_and, Bool.false_and, Bool.and_false, Nat.reduceBEq, Nat.reduceAdd, Nat.reduceSub, Nat.reduceMul, Nat.reduceEqDiff, Nat.reduceLT, Nat.reduceLeDiff, reduceIte, if_true, if_false, ite_true, ite_false, true_and, and_true, true_or, or_true, false_or, or_false, Nat.zero_le, Nat.le_refl, not_false_eq_true, not_true_eq_false, Bool.false_eq_true, beq_self_eq_true, Nat.add_one_ne_zero, eq_self_iff_true, Nat.zero_add, i1_0, i0_1, aref_, anull_, kd_0, kd_1, kd_2, kd_3, kd_4, kd_5, kd_6, kd_7, kd_8, kd_9, kd_10, kd_11, kd_12, kd_13, kd_14, kd_15, kd_16, kd_17, kd_18, kd_19, kd_20, kd_21, kd_22, kd_23, kd_24, kd_25, kd_26, kd_27, kd_28, kd_29, kd_30, kd_31, kd_32, kd_33, kd_34, kd_35, kd_36, kd_37, kd_38, kd_39, ln_13, ln_14, ln_15, ln_16, ln_17, ln_18, ln_19, ln_20, ln_21, ln_22, ln_23, ln_24, ln_25, ln_26, ln_27, ln_28, ln_29, ln_30, ln_31, ln_32, ln_33, ln_34, ln_35, ln_36, ln_37, ln_38, ln_39]
    exact ex_Mo_aLine121W hR wr (by omega) hln hk (fun F' A' D' ln' l' w' => hW F' A' D' _ ln' l' w' hres)
theorem mwc_act {c : Nat} (hc : 8 ≤ c) (h25 : c ≤ 25) : (20 ≤ mwc c ∧ mwc c ≤ 26) ↔ 19 ≤ c := by
  have : c = 8 ∨ c = 9 ∨ c = 10 ∨ c = 11 ∨ c = 12 ∨ c = 13 ∨ c = 14 ∨ c = 15 ∨ c = 16 ∨ c = 17 ∨ c = 18 ∨ c = 19 ∨ c = 20 ∨ c = 21 ∨ c = 22 ∨ c = 23 ∨ c = 24 ∨ c = 25 := by omega
  rcases this with rfl | rfl | rfl | rfl | rfl | rfl | rfl | rfl | rfl | rfl | rfl | rfl | rfl | rfl | rfl | rfl | rfl | rfl <;> decide
theorem mwc_19 {c : Nat} (hc : 19 ≤ c) (h25 : c ≤ 25) : mwc c = c + 1 := by
  have : c = 19 ∨ c = 20 ∨ c = 21 ∨ c = 22 ∨ c = 23 ∨ c = 24 ∨ c = 25 := by omega
  rcases this with rfl | rfl | rfl | rfl | rfl | rfl | rfl <;> decide
theorem tac_ne {c i : Nat} (h0 : i ≠ 0) (h5 : i ≠ 5) (h6 : i ≠ 6) (h7 : i ≠ 7) : tac s c i = s i := by
  unfold tac
  rw [un_ne h0, un_ne h7, un_ne h6, un_ne h5]
/-- an act: s0 is what the text's state is but for what is due -/
theorem ex_Mo_aLine96 (hR : MoR R) (hm : MTp g T A0) (h : MOk g T A0 ln s0 p F A D) (hst : stp s (cdp g T p) (vlp g T p) (atp g T p) = tac s0 (cdp g T p)) (hs10 : s 0 ≠ 10) (h1 : s0 1 = ln + 1) (h2 : s0 2 = k) (c19 : 19 ≤ cdp g T p) (hq : s0 8 = 0 → ln < 16 ∧ s0 2 ≤ 4) (hk : k < 1000) (hln : ln < 1000)
    (hW : ∀ F' A' D' x' ln', ln' < 1001 → MWr A0 ln' x' F' A' → RW g T s p x' → K none E R (St I F' A' D') J)
    (hK : ∀ s' p' F' A' D', MOk g T A0 (ln + 1) s' p' F' A' D' → s' 0 = 0 → s' 1 = ln + 1 → res g T s p = res g T s' p' → p < p' → K none E R (St I F' A' D') J) :
    qMo_aLine_96 (d + 6) 0 0 (gMo_aLine (d + 6) 0 0 K) K [(0, .ref MO), (1, .int (nI k))] [] E R (St I F A D) J 0 0 := by
  have hA := h.a
  have hmA : MTp g T A := by rw [hA]; exact hm.as
  obtain ⟨w25, h9⟩ := h.tk.tk.wd (by omega)
  rw [mwc_19 c19 w25] at h9
  obtain ⟨q, hqd⟩ : ∃ q, (if 19 ≤ cdp g T p ∧ cdp g T p ≤ 21 then 7 else if cdp g T p = 22 ∨ cdp g T p = 24 then 8 else if cdp g T p = 23 ∨ cdp g T p = 25 then 9 else 10) = q := ⟨_, rfl⟩
  have et : tac s0 (cdp g T p) = un (un (un (un s0 5 (cdp g T p)) 6 0) 7 0) 0 q := by unfold tac; rw [hqd]
  have hq10 : (cdp g T p ≤ 21 ∧ q = 7) ∨ ((cdp g T p = 22 ∨ cdp g T p = 24) ∧ q = 8) ∨ ((cdp g T p = 23 ∨ cdp g T p = 25) ∧ q = 9) := by
    rw [← hqd]
    by_cases a1 : cdp g T p ≤ 21
    · left; exact ⟨a1, by rw [if_pos ⟨c19, a1⟩]⟩
    · rw [if_neg (by omega)]
      by_cases a2 : cdp g T p = 22 ∨ cdp g T p = 24
      · right; left; exact ⟨a2, by rw [if_pos a2]⟩
      · right; right; refine ⟨by omega, ?_⟩; rw [if_neg a2, if_pos (by omega)]
  rw [et] at hst
  have hres := res_step (g := g) (s := s) h.tk.le (by omega) hs10 (by rw [hst, un_eq]; omega)
  rw [hst] at hres
  have hlt := nxp_lt (g := g) h.tk.le (by omega)
  simp only [vqMo_aLine_96, ev_iadd, ev_isub, ev_imul, ev_iand, ev_ishr, ev_iushr, ev_idiv, ev_irem, ev_ladd, ev_lsub, ev_lmul, ev_ldiv, ev_lrem, ev_lcmp, ev_ineg, ev_i2l, ev_i2b, ev_i2c, ev_l2i, ev_pop, ev_ci, ev_cl, ev_null, ev_cs, ev_gcs, ev_fmt, ev_ild, ev_ild_int, ev_lld, ev_lld_long, ev_ald, ev_ald_ref, ev_ald_null, ev_inc, ev_inc_int, ev_ist, ev_lst, ev_ast, ev_ast_null, ev_dup, ev_dup2, ev_if_eq, ev_if_ne, ev_if_lt, ev_if_ge, ev_if_gt, ev_if_le, ev_ic_eq, ev_ic_ne, ev_ic_lt, ev_ic_ge, ev_ic_gt, ev_ic_le, ev_ifnull_n, ev_ifnull_r, ev_ifnonnull_n, ev_ifnonnull_r, ev_sw, ev_geti, ev_getr, ev_puti, ev_putz, ev_putr, ev_iald, ev_bald, ev_zald, ev_lald, ev_aald, ev_alen, ev_iast, ev_bast, ev_zast, ev_last, ev_aast, ev_iret, ev_zret, ev_lret, ev_aret, ev_aret_n, ev_vret, ev_nret, ev_obj, ev_call, ev_callA, ev_callT, ev_call_s, ev_callA_s, ev_callT_s, ev_new, ev_newi, ev_newl, ev_newq, ev_acpy, ev_acpl, ev_sval, ev_scod, ev_sal, ev_sbl, ev_dead, lv_args, lk, st1, st2, ins, sa, rcv, swp_nil, swp_cons, Value.category, Option.toList_some, Option.toList_none, List.nil_append, List.cons_append, List.filter_cons, List.filter_nil, List.length_cons, List.length_nil, Bool.not_true, Bool.not_false, Bool.and_true, Bool.true_and, Bool.false_and, Bool.and_false, Nat.reduceBEq, Nat.reduceAdd, Nat.reduceSub, Nat.reduceMul, Nat.reduceEqDiff, Nat.reduceLT, Nat.reduceLeDiff, reduceIte, if_true, if_false, ite_true, ite_false, true_and, and_true, true_or, or_true, false_or, or_false, Nat.zero_le, Nat.le_refl, not_false_eq_true, not_true_eq_false, Bool.false_eq_true, beq_self_eq_true, Nat.add_one_ne_zero, eq_self_iff_true, Nat.zero_add, i1_0, i0_1, aref_, anull_, kd_0, kd_1, kd_2, kd_3, kd_4, kd_5, kd_6, kd_7, kd_8, kd_9, kd_10, kd_11, kd_12, kd_13, kd_14, kd_15, kd_16, kd_17, kd_18, kd_19, kd_20, kd_21, kd_22, kd_23, kd_24, kd_25, kd_26, kd_27, kd_28, kd_29, kd_30, kd_31, kd_32, kd_33, kd_34, kd_35, kd_36, kd_37, kd_38, kd_39, ln_13, ln_14, ln_15, ln_16, ln_17, ln_18, ln_19, ln_20, ln_21, ln_22, ln_23, ln_24, ln_25, ln_26, ln_27, ln_28, ln_29, ln_30, ln_31, ln_32, ln_33, ln_34, ln_35, ln_36, ln_37, ln_38, ln_39, St_MO, h9]
  refine sp_Mo_adv hR hmA h.tk (fun F1 q1 q2 q3 => ?_)
  have m := ((((h.unr (k := 5) (x := cdp g T p) (by decide) (by decide) (by decide) (by decide) (by decide) (by decide)).unr (k := 6) (x := 0) (by decide) (by decide) (by decide) (by decide) (by decide) (by decide)).unr (k := 7) (x := 0) (by decide) (by decide) (by decide) (by decide) (by decide) (by decide)).unr (k := 0) (x := q) (by decide) (by decide) (by decide) (by decide) (by decide) (by decide)).mv q1 q2 q3
  obtain ⟨s1, hs1⟩ : ∃ s1, un (un (un (un s0 5 (cdp g T p)) 6 0) 7 0) 0 q = s1 := ⟨_, rfl⟩
  have v0 : s1 0 = q := by rw [← hs1, un_eq]
  have v1 : s1 1 = ln + 1 := by rw [← hs1, un_ne (by decide), un_ne (by decide), un_ne (by decide), un_ne (by decide)]; exact h1
  have v2 : s1 2 = k := by rw [← hs1, un_ne (by decide), un_ne (by decide), un_ne (by decide), un_ne (by decide)]; exact h2
  have v5 : s1 5 = cdp g T p := by rw [← hs1, un_ne (by decide), un_ne (by decide), un_ne (by decide), un_eq]
  have v6 : s1 6 = 0 := by rw [← hs1, un_ne (by decide), un_ne (by decide), un_eq]
  have v7 : s1 7 = 0 := by rw [← hs1, un_ne (by decide), un_eq]
  have v8 : s1 8 = s0 8 := by rw [← hs1, un_ne (by decide), un_ne (by decide), un_ne (by decide), un_ne (by decide)]
  rw [hs1] at m hres
  have hq' : s1 8 = 0 → ln < 16 ∧ s1 2 ≤ 4 := fun z => by rw [v8] at z; rw [v2, ← h2]; exact hq z
  have hW' : ∀ F' A' D' x' ln', ln' < 1001 → MWr A0 ln' x' F' A' → RW g T s1 (nxp g T p) x' → K none E R (St I F' A' D') J := fun F' A' D' x' ln' l' w1 w2 => hW F' A' D' x' ln' l' w1 ⟨(congrFun hres 8).trans w2.1, (congrFun hres 9).trans w2.2⟩
  have hK' : ∀ s' p' F' A' D', MOk g T A0 (ln + 1) s' p' F' A' D' → s' 0 = 0 → s' 1 = ln + 1 → res g T s1 (nxp g T p) = res g T s' p' → nxp g T p < p' → K none E R (St I F' A' D') J := fun s' p' F' A' D' m1 m2 m3 m4 m5 => hK s' p' F' A' D' m1 m2 m3 (hres.trans m4) (by omega)
  have e22 : (22 : Int32) < nI (cdp g T p + 1) ↔ 21 < cdp g T p := by rw [lit 22, nI_ltI (by omega) (by omega)]; omega
  by_cases a1 : cdp g T p ≤ 21
  · have key := ex_Mo_aLine116 (d := d) (K := K) (E := E) (J := J) (I := I) (k := k) hR hm m (by rw [v0]; omega) v1 v2 (by rw [v5]; exact a1) v7 hq' hk hln hW' hK'
    rw [v5] at key
    refine Eq.mpr (if_neg (mt e22.mp (by omega))) ?_
    exact key
  · have key := ex_Mo_aLine121 (d := d) (K := K) (E := E) (J := J) (I := I) (k := k) hR hm m v1 v2 (by rw [v5]; exact w25) (by rw [v0, v5, v7]; omega) hq' hk hln hW' hK'
    rw [v5, v6] at key
    refine Eq.mpr (if_pos (e22.mpr (by omega))) ?_
    exact key
end MX

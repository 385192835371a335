/-! the law: its loop, its start -/
section DS
variable {nm : String} {L : Nat} {xs : Nat → Int32}
theorem ite_both {c : Prop} [Decidable c] {P Q : Prop} (h1 : P) (h2 : Q) : if c then P else Q := by
  by_cases h : c
  · rw [if_pos h]; exact h1
  · rw [if_neg h]; exact h2
theorem law_lt {i : Nat} (hL : L ≤ 3072) (hi : i ≤ L + 6) : nI L - 6 < nI i ↔ L < i + 6 := by
  have e6 : (6 : Int32).toInt = 6 := rfl
  rw [lt_int, sub_int (by rw [nI_int (by omega), e6]; omega) (by rw [nI_int (by omega), e6]; omega), nI_int (by omega), nI_int (by omega), e6]
  omega
theorem law_loop (hL : L ≤ 3072) : ∀ n i (E : Nat → Prop) (R : Nat → Nat → Value) (I : Nat → Nat → Int32) (J : Nat → Nat → Int64) (a b : Nat), L ≤ i + n → i ≤ L + 6 → LI L xs E R I J a b → gL_law nm 18 [(0, .ref (SCr L)), (1, .ref VC), (2, .ref MO), (3, .int (nI i))] [] E R I J a b := by
  have done : ∀ i (E : Nat → Prop) (R : Nat → Nat → Value) (I : Nat → Nat → Int32) (J : Nat → Nat → Int64) (a b : Nat), L < i + 6 → i ≤ L + 6 → LI L xs E R I J a b → gL_law nm 18 [(0, .ref (SCr L)), (1, .ref VC), (2, .ref MO), (3, .int (nI i))] [] E R I J a b := by
    intro i E R I J a b h1 h2 h
    have ca := h.ca
    have cb := h.cb
    have lt := (law_lt hL h2).mpr h1
    apply lL_law_18
    simp only [vqL_law_18, ev_iadd, ev_isub, ev_imul, ev_iand, ev_ishr, ev_iushr, ev_idiv, ev_irem, ev_ladd, ev_lsub, ev_lmul, ev_ldiv, ev_lrem, ev_lcmp, ev_ineg, ev_i2l, ev_i2b, ev_i2c, ev_l2i, ev_pop, ev_ci, ev_cl, ev_null, ev_cs, ev_gcs, ev_fmt, ev_ild, ev_ild_int, ev_lld, ev_lld_long, ev_ald, ev_ald_ref, ev_ald_null, ev_inc, ev_inc_int, ev_ist, ev_lst, ev_ast, ev_ast_null, ev_dup, ev_dup2, ev_if_eq, ev_if_ne, ev_if_lt, ev_if_ge, ev_if_gt, ev_if_le, ev_ic_eq, ev_ic_ne, ev_ic_lt, ev_ic_ge, ev_ic_gt, ev_ic_le, ev_ifnull_n, ev_ifnull_r, ev_ifnonnull_n, ev_ifnonnull_r, ev_sw, ev_geti, ev_getr, ev_puti, ev_putz, ev_putr, ev_iald, ev_bald, ev_zald, ev_lald, ev_aald, ev_alen, ev_iast, ev_bast, ev_zast, ev_last, ev_aast, ev_iret, ev_zret, ev_lret, ev_aret, ev_aret_n, ev_vret, ev_nret, ev_obj, ev_call, ev_callA, ev_callT, ev_call_s, ev_callA_s, ev_callT_s, ev_new, ev_newi, ev_newl, ev_newq, ev_acpy, ev_acpl, ev_sval, ev_scod, ev_sal, ev_sbl, ev_dead, lv_args, lk, st1, st2, ins, sa, rcv, swp_nil, swp_cons, Value.category, Option.toList_some, Option.toList_none, List.nil_append, List.cons_append, List.filter_cons, List.filter_nil, List.length_cons, List.length_nil, Bool.not_true, Bool.not_false, Bool.and_true, Bool.true_and, Bool.false_and, Bool.and_false, Nat.reduceBEq, Nat.reduceAdd, Nat.reduceSub, Nat.reduceMul, Nat.reduceEqDiff, Nat.reduceLT, Nat.reduceLeDiff, reduceIte, if_true, if_false, ite_true, ite_false, true_and, and_true, true_or, or_true, false_or, or_false, Nat.zero_le, Nat.le_refl, not_false_eq_true, not_true_eq_false, Bool.false_eq_true, beq_self_eq_true, Nat.add_one_ne_zero, eq_self_iff_true, Nat.zero_add, i1_0, i0_1, aref_, anull_, kd_0, kd_1, kd_2, kd_3, kd_4, kd_5, kd_6, kd_7, kd_8, kd_9, kd_10, kd_11, kd_12, kd_13, kd_14, kd_15, kd_16, kd_17, kd_18, kd_19, kd_20, kd_21, kd_22, kd_23, kd_24, kd_25, kd_26, kd_27, kd_28, kd_29, kd_30, kd_31, kd_32, kd_33, kd_34, kd_35, kd_36, kd_37, kd_38, kd_39, ln_13, ln_14, ln_15, ln_16, ln_17, ln_18, ln_19, ln_20, ln_21, ln_22, ln_23, ln_24, ln_25, ln_26, ln_27, ln_28, ln_29, ln_30, ln_31, ln_32, ln_33, ln_34, ln_35, ln_36, ln_37, ln_38, ln_39, kd_SC, ln_SC]
    refine Eq.mpr (if_pos lt) ?_
    simp only [vqL_law_1044, ev_law1, ev_iadd, ev_isub, ev_imul, ev_iand, ev_ishr, ev_iushr, ev_idiv, ev_irem, ev_ladd, ev_lsub, ev_lmul, ev_ldiv, ev_lrem, ev_lcmp, ev_ineg, ev_i2l, ev_i2b, ev_i2c, ev_l2i, ev_pop, ev_ci, ev_cl, ev_null, ev_cs, ev_gcs, ev_fmt, ev_ild, ev_ild_int, ev_lld, ev_lld_long, ev_ald, ev_ald_ref, ev_ald_null, ev_inc, ev_inc_int, ev_ist, ev_lst, ev_ast, ev_ast_null, ev_dup, ev_dup2, ev_if_eq, ev_if_ne, ev_if_lt, ev_if_ge, ev_if_gt, ev_if_le, ev_ic_eq, ev_ic_ne, ev_ic_lt, ev_ic_ge, ev_ic_gt, ev_ic_le, ev_ifnull_n, ev_ifnull_r, ev_ifnonnull_n, ev_ifnonnull_r, ev_sw, ev_geti, ev_getr, ev_puti, ev_putz, ev_putr, ev_iald, ev_bald, ev_zald, ev_lald, ev_aald, ev_alen, ev_iast, ev_bast, ev_zast, ev_last, ev_aast, ev_iret, ev_zret, ev_lret, ev_aret, ev_aret_n, ev_vret, ev_nret, ev_obj, ev_call, ev_callA, ev_callT, ev_call_s, ev_callA_s, ev_callT_s, ev_new, ev_newi, ev_newl, ev_newq, ev_acpy, ev_acpl, ev_sval, ev_scod, ev_sal, ev_sbl, ev_dead, lv_args, lk, st1, st2, ins, sa, rcv, swp_nil, swp_cons, Value.category, Option.toList_some, Option.toList_none, List.nil_append, List.cons_append, List.filter_cons, List.filter_nil, List.length_cons, List.length_nil, Bool.not_true, Bool.not_false, Bool.and_true, Bool.true_and, Bool.false_and, Bool.and_false, Nat.reduceBEq, Nat.reduceAdd, Nat.reduceSub, Nat.reduceMul, Nat.reduceEqDiff, Nat.reduceLT, Nat.reduceLeDiff, reduceIte, if_true, if_false, ite_true, ite_false, true_and, and_true, true_or, or_true, false_or, or_false, Nat.zero_le, Nat.le_refl, not_false_eq_true, not_true_eq_false, Bool.false_eq_true, beq_self_eq_true, Nat.add_one_ne_zero, eq_self_iff_true, Nat.zero_add, i1_0, i0_1, aref_, anull_, kd_0, kd_1, kd_2, kd_3, kd_4, kd_5, kd_6, kd_7, kd_8, kd_9, kd_10, kd_11, kd_12, kd_13, kd_14, kd_15, kd_16, kd_17, kd_18, kd_19, kd_20, kd_21, kd_22, kd_23, kd_24, kd_25, kd_26, kd_27, kd_28, kd_29, kd_30, kd_31, kd_32, kd_33, kd_34, kd_35, kd_36, kd_37, kd_38, kd_39, ln_13, ln_14, ln_15, ln_16, ln_17, ln_18, ln_19, ln_20, ln_21, ln_22, ln_23, ln_24, ln_25, ln_26, ln_27, ln_28, ln_29, ln_30, ln_31, ln_32, ln_33, ln_34, ln_35, ln_36, ln_37, ln_38, ln_39]
    exact ⟨by omega, by omega⟩
  intro n
  induction n with
  | zero =>
    intro i E R I J a b h1 h2 h
    exact done i E R I J a b (by omega) h2 h
  | succ n ih =>
    intro i E R I J a b h1 h2 h
    by_cases hd : L < i + 6
    · exact done i E R I J a b hd h2 h
    have hi : i + 6 ≤ L := by omega
    have lt : ¬ nI L - 6 < nI i := mt (law_lt hL h2).mp hd
    have nx : ∀ E' R' I' J' a' b', LI L xs E' R' I' J' a' b' → qL_law_1038 (gL_law nm) [(0, .ref (SCr L)), (1, .ref VC), (2, .ref MO), (3, .int (nI i))] [] E' R' I' J' a' b' := by
      intro E' R' I' J' a' b' h'
      have e6 : nI i + 6 = nI (i + 6) := by rw [lit 6, nI_add]
      simp only [vqL_law_1038, ev_iadd, ev_isub, ev_imul, ev_iand, ev_ishr, ev_iushr, ev_idiv, ev_irem, ev_ladd, ev_lsub, ev_lmul, ev_ldiv, ev_lrem, ev_lcmp, ev_ineg, ev_i2l, ev_i2b, ev_i2c, ev_l2i, ev_pop, ev_ci, ev_cl, ev_null, ev_cs, ev_gcs, ev_fmt, ev_ild, ev_ild_int, ev_lld, ev_lld_long, ev_ald, ev_ald_ref, ev_ald_null, ev_inc, ev_inc_int, ev_ist, ev_lst, ev_ast, ev_ast_null, ev_dup, ev_dup2, ev_if_eq, ev_if_ne, ev_if_lt, ev_if_ge, ev_if_gt, ev_if_le, ev_ic_eq, ev_ic_ne, ev_ic_lt, ev_ic_ge, ev_ic_gt, ev_ic_le, ev_ifnull_n, ev_ifnull_r, ev_ifnonnull_n, ev_ifnonnull_r, ev_sw, ev_geti, ev_getr, ev_puti, ev_putz, ev_putr, ev_iald, ev_bald, ev_zald, ev_lald, ev_aald, ev_alen, ev_iast, ev_bast, ev_zast, ev_last, ev_aast, ev_iret, ev_zret, ev_lret, ev_aret, ev_aret_n, ev_vret, ev_nret, ev_obj, ev_call, ev_callA, ev_callT, ev_call_s, ev_callA_s, ev_callT_s, ev_new, ev_newi, ev_newl, ev_newq, ev_acpy, ev_acpl, ev_sval, ev_scod, ev_sal, ev_sbl, ev_dead, lv_args, lk, st1, st2, ins, sa, rcv, swp_nil, swp_cons, Value.category, Option.toList_some, Option.toList_none, List.nil_append, List.cons_append, List.filter_cons, List.filter_nil, List.length_cons, List.length_nil, Bool.not_true, Bool.not_false, Bool.and_true, Bool.true_and, Bool.false_and, Bool.and_false, Nat.reduceBEq, Nat.reduceAdd, Nat.reduceSub, Nat.reduceMul, Nat.reduceEqDiff, Nat.reduceLT, Nat.reduceLeDiff, reduceIte, if_true, if_false, ite_true, ite_false, true_and, and_true, true_or, or_true, false_or, or_false, Nat.zero_le, Nat.le_refl, not_false_eq_true, not_true_eq_false, Bool.false_eq_true, beq_self_eq_true, Nat.add_one_ne_zero, eq_self_iff_true, Nat.zero_add, i1_0, i0_1, aref_, anull_, kd_0, kd_1, kd_2, kd_3, kd_4, kd_5, kd_6, kd_7, kd_8, kd_9, kd_10, kd_11, kd_12, kd_13, kd_14, kd_15, kd_16, kd_17, kd_18, kd_19, kd_20, kd_21, kd_22, kd_23, kd_24, kd_25, kd_26, kd_27, kd_28, kd_29, kd_30, kd_31, kd_32, kd_33, kd_34, kd_35, kd_36, kd_37, kd_38, kd_39, ln_13, ln_14, ln_15, ln_16, ln_17, ln_18, ln_19, ln_20, ln_21, ln_22, ln_23, ln_24, ln_25, ln_26, ln_27, ln_28, ln_29, ln_30, ln_31, ln_32, ln_33, ln_34, ln_35, ln_36, ln_37, ln_38, ln_39, e6]
      exact ih (i + 6) E' R' I' J' a' b' (by omega) (by omega) h'
    have hin : vp_in (nI i) L := vp_in_nI (by omega) (by omega)
    apply lL_law_18
    simp only [vqL_law_18, ev_iadd, ev_isub, ev_imul, ev_iand, ev_ishr, ev_iushr, ev_idiv, ev_irem, ev_ladd, ev_lsub, ev_lmul, ev_ldiv, ev_lrem, ev_lcmp, ev_ineg, ev_i2l, ev_i2b, ev_i2c, ev_l2i, ev_pop, ev_ci, ev_cl, ev_null, ev_cs, ev_gcs, ev_fmt, ev_ild, ev_ild_int, ev_lld, ev_lld_long, ev_ald, ev_ald_ref, ev_ald_null, ev_inc, ev_inc_int, ev_ist, ev_lst, ev_ast, ev_ast_null, ev_dup, ev_dup2, ev_if_eq, ev_if_ne, ev_if_lt, ev_if_ge, ev_if_gt, ev_if_le, ev_ic_eq, ev_ic_ne, ev_ic_lt, ev_ic_ge, ev_ic_gt, ev_ic_le, ev_ifnull_n, ev_ifnull_r, ev_ifnonnull_n, ev_ifnonnull_r, ev_sw, ev_geti, ev_getr, ev_puti, ev_putz, ev_putr, ev_iald, ev_bald, ev_zald, ev_lald, ev_aald, ev_alen, ev_iast, ev_bast, ev_zast, ev_last, ev_aast, ev_iret, ev_zret, ev_lret, ev_aret, ev_aret_n, ev_vret, ev_nret, ev_obj, ev_call, ev_callA, ev_callT, ev_call_s, ev_callA_s, ev_callT_s, ev_new, ev_newi, ev_newl, ev_newq, ev_acpy, ev_acpl, ev_sval, ev_scod, ev_sal, ev_sbl, ev_dead, lv_args, lk, st1, st2, ins, sa, rcv, swp_nil, swp_cons, Value.category, Option.toList_some, Option.toList_none, List.nil_append, List.cons_append, List.filter_cons, List.filter_nil, List.length_cons, List.length_nil, Bool.not_true, Bool.not_false, Bool.and_true, Bool.true_and, Bool.false_and, Bool.and_false, Nat.reduceBEq, Nat.reduceAdd, Nat.reduceSub, Nat.reduceMul, Nat.reduceEqDiff, Nat.reduceLT, Nat.reduceLeDiff, reduceIte, if_true, if_false, ite_true, ite_false, true_and, and_true, true_or, or_true, false_or, or_false, Nat.zero_le, Nat.le_refl, not_false_eq_true, not_true_eq_false, Bool.false_eq_true, beq_self_eq_true, Nat.add_one_ne_zero, eq_self_iff_true, Nat.zero_add, i1_0, i0_1, aref_, anull_, kd_0, kd_1, kd_2, kd_3, kd_4, kd_5, kd_6, kd_7, kd_8, kd_9, kd_10, kd_11, kd_12, kd_13, kd_14, kd_15, kd_16, kd_17, kd_18, kd_19, kd_20, kd_21, kd_22, kd_23, kd_24, kd_25, kd_26, kd_27, kd_28, kd_29, kd_30, kd_31, kd_32, kd_33, kd_34, kd_35, kd_36, kd_37, kd_38, kd_39, ln_13, ln_14, ln_15, ln_16, ln_17, ln_18, ln_19, ln_20, ln_21, ln_22, ln_23, ln_24, ln_25, ln_26, ln_27, ln_28, ln_29, ln_30, ln_31, ln_32, ln_33, ln_34, ln_35, ln_36, ln_37, ln_38, ln_39, kd_SC, ln_SC]
    refine Eq.mpr (if_neg lt) ?_
    simp only [vqL_law_27, ev_iadd, ev_isub, ev_imul, ev_iand, ev_ishr, ev_iushr, ev_idiv, ev_irem, ev_ladd, ev_lsub, ev_lmul, ev_ldiv, ev_lrem, ev_lcmp, ev_ineg, ev_i2l, ev_i2b, ev_i2c, ev_l2i, ev_pop, ev_ci, ev_cl, ev_null, ev_cs, ev_gcs, ev_fmt, ev_ild, ev_ild_int, ev_lld, ev_lld_long, ev_ald, ev_ald_ref, ev_ald_null, ev_inc, ev_inc_int, ev_ist, ev_lst, ev_ast, ev_ast_null, ev_dup, ev_dup2, ev_if_eq, ev_if_ne, ev_if_lt, ev_if_ge, ev_if_gt, ev_if_le, ev_ic_eq, ev_ic_ne, ev_ic_lt, ev_ic_ge, ev_ic_gt, ev_ic_le, ev_ifnull_n, ev_ifnull_r, ev_ifnonnull_n, ev_ifnonnull_r, ev_sw, ev_geti, ev_getr, ev_puti, ev_putz, ev_putr, ev_iald, ev_bald, ev_zald, ev_lald, ev_aald, ev_alen, ev_iast, ev_bast, ev_zast, ev_last, ev_aast, ev_iret, ev_zret, ev_lret, ev_aret, ev_aret_n, ev_vret, ev_nret, ev_obj, ev_call, ev_callA, ev_callT, ev_call_s, ev_callA_s, ev_callT_s, ev_new, ev_newi, ev_newl, ev_newq, ev_acpy, ev_acpl, ev_sval, ev_scod, ev_sal, ev_sbl, ev_dead, lv_args, lk, st1, st2, ins, sa, rcv, swp_nil, swp_cons, Value.category, Option.toList_some, Option.toList_none, List.nil_append, List.cons_append, List.filter_cons, List.filter_nil, List.length_cons, List.length_nil, Bool.not_true, Bool.not_false, Bool.and_true, Bool.true_and, Bool.false_and, Bool.and_false, Nat.reduceBEq, Nat.reduceAdd, Nat.reduceSub, Nat.reduceMul, Nat.reduceEqDiff, Nat.reduceLT, Nat.reduceLeDiff, reduceIte, if_true, if_false, ite_true, ite_false, true_and, and_true, true_or, or_true, false_or, or_false, Nat.zero_le, Nat.le_refl, not_false_eq_true, not_true_eq_false, Bool.false_eq_true, beq_self_eq_true, Nat.add_one_ne_zero, eq_self_iff_true, Nat.zero_add, i1_0, i0_1, aref_, anull_, kd_0, kd_1, kd_2, kd_3, kd_4, kd_5, kd_6, kd_7, kd_8, kd_9, kd_10, kd_11, kd_12, kd_13, kd_14, kd_15, kd_16, kd_17, kd_18, kd_19, kd_20, kd_21, kd_22, kd_23, kd_24, kd_25, kd_26, kd_27, kd_28, kd_29, kd_30, kd_31, kd_32, kd_33, kd_34, kd_35, kd_36, kd_37, kd_38, kd_39, ln_13, ln_14, ln_15, ln_16, ln_17, ln_18, ln_19, ln_20, ln_21, ln_22, ln_23, ln_24, ln_25, ln_26, ln_27, ln_28, ln_29, ln_30, ln_31, ln_32, ln_33, ln_34, ln_35, ln_36, ln_37, ln_38, ln_39, kd_SC, ln_SC, hin]
    refine ite_both (lc_feed hL hi h nx) ?_
    refine ite_both (lc_end hL hi h nx) ?_
    refine ite_both (lc_orders hL hi h nx) ?_
    refine ite_both (lc_fault hL hi h nx) ?_
    refine ite_both (lc_market hL hi h nx) ?_
    refine ite_both (lc_ship hL hi h nx) ?_
    refine ite_both (lc_letter hL hi h nx) ?_
    refine ite_both (lc_subscribe hL hi h nx) ?_
    refine ite_both (lc_transfer hL hi h nx) ?_
    refine ite_both (lc_shares hL hi h nx) ?_
    refine ite_both (lc_load hL hi h nx) ?_
    refine ite_both (lc_unload hL hi h nx) ?_
    refine ite_both (lc_sail hL hi h nx) ?_
    refine ite_both (lc_months hL hi h nx) ?_
    refine ite_both (lc_store hL hi h nx) ?_
    refine ite_both (lc_price hL hi h nx) ?_
    refine ite_both (lc_tell hL hi h nx) ?_
    refine ite_both (lc_factor hL hi h nx) ?_
    refine ite_both (lc_known hL hi h nx) ?_
    refine ite_both (lc_noted hL hi h nx) ?_
    refine ite_both (lc_sum hL hi h nx) ?_
    refine ite_both (lc_divide hL hi h nx) ?_
    refine ite_both (lc_got hL hi h nx) ?_
    refine ite_both (lc_carried hL hi h nx) ?_
    refine ite_both (lc_count hL hi h nx) ?_
    refine ite_both (lc_image hL hi h nx) ?_
    refine ite_both (lc_again hL hi h nx) ?_
    exact nx E R I J a b h
end DS

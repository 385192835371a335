/-! the class's reader: its small parts -/
section DB
variable {d : Nat} {K : Ps} {E : Nat → Prop} {R : Nat → Nat → Value} {I I' : Nat → Nat → Int32} {J : Nat → Nat → Int64} {g : Nat → Nat} {T p c w : Nat} {s s' : Nat → Nat} {F : Nat → Int32}
def dA (c : Nat) : Nat := if 19 ≤ c ∧ c ≤ 21 then 7 else if c = 22 ∨ c = 24 then 8 else if c = 23 ∨ c = 25 then 9 else 10
theorem tac_eq : tac s c = un (un (un (un s 5 c) 6 0) 7 0) 0 (dA c) := rfl
theorem sp_Reader_takeAct (h3 : R RE 3 = .ref TK) (hc : I TK 4 = nI c) (c25 : c ≤ 25) (h : K (some (.int (nI (dA c)))) E R (ua I RE (upd (upd (upd (I RE) 8 (nI c)) 9 0) 10 0)) J) : CL yReader_takeAct cReader_takeAct 1 (some .int) (d + 1) 0 0 [.ref RE] E R I J K := by
  unfold dA at h
  apply eReader_takeAct (Nat.le_of_ble_eq_true rfl)
  simp only [ev_iadd, ev_isub, ev_imul, ev_iand, ev_ishr, ev_iushr, ev_idiv, ev_irem, ev_ladd, ev_lsub, ev_lmul, ev_ldiv, ev_lrem, ev_lcmp, ev_ineg, ev_i2l, ev_i2b, ev_i2c, ev_l2i, ev_pop, ev_ci, ev_cl, ev_null, ev_cs, ev_gcs, ev_fmt, ev_ild, ev_ild_int, ev_lld, ev_lld_long, ev_ald, ev_ald_ref, ev_ald_null, ev_inc, ev_inc_int, ev_ist, ev_lst, ev_ast, ev_ast_null, ev_dup, ev_dup2, ev_if_eq, ev_if_ne, ev_if_lt, ev_if_ge, ev_if_gt, ev_if_le, ev_ic_eq, ev_ic_ne, ev_ic_lt, ev_ic_ge, ev_ic_gt, ev_ic_le, ev_ifnull_n, ev_ifnull_r, ev_ifnonnull_n, ev_ifnonnull_r, ev_sw, ev_geti, ev_getr, ev_puti, ev_putz, ev_putr, ev_iald, ev_bald, ev_zald, ev_lald, ev_aald, ev_alen, ev_iast, ev_bast, ev_zast, ev_last, ev_aast, ev_iret, ev_zret, ev_lret, ev_aret, ev_aret_n, ev_vret, ev_nret, ev_obj, ev_call, ev_callA, ev_callT, ev_call_s, ev_callA_s, ev_callT_s, ev_new, ev_newi, ev_newl, ev_newq, ev_acpy, ev_acpl, ev_sval, ev_scod, ev_sal, ev_sbl, ev_dead, lv_args, lk, st1, st2, ins, sa, rcv, swp_nil, swp_cons, Value.category, Option.toList_some, Option.toList_none, List.nil_append, List.cons_append, List.filter_cons, List.filter_nil, List.length_cons, List.length_nil, Bool.not_true, Bool.not_false, Bool.and_true, Bool.true_and, Bool.false_and, Bool.and_false, Nat.reduceBEq, Nat.reduceAdd, Nat.reduceSub, Nat.reduceMul, Nat.reduceEqDiff, Nat.reduceLT, Nat.reduceLeDiff, reduceIte, if_true, if_false, ite_true, ite_false, true_and, and_true, true_or, or_true, false_or, or_false, Nat.zero_le, Nat.le_refl, not_false_eq_true, not_true_eq_false, Bool.false_eq_true, beq_self_eq_true, Nat.add_one_ne_zero, eq_self_iff_true, Nat.zero_add, i1_0, i0_1, aref_, anull_, kd_0, kd_1, kd_2, kd_3, kd_4, kd_5, kd_6, kd_7, kd_8, kd_9, kd_10, kd_11, kd_12, kd_13, kd_14, kd_15, kd_16, kd_17, kd_18, kd_19, kd_20, kd_21, kd_22, kd_23, kd_24, kd_25, kd_26, kd_27, kd_28, kd_29, kd_30, kd_31, kd_32, kd_33, kd_34, kd_35, kd_36, kd_37, kd_38, kd_39, ln_13, ln_14, ln_15, ln_16, ln_17, ln_18, ln_19, ln_20, ln_21, ln_22, ln_23, ln_24, ln_25, ln_26, ln_27, ln_28, ln_29, ln_30, ln_31, ln_32, ln_33, ln_34, ln_35, ln_36, ln_37, ln_38, ln_39, vqReader_takeAct_77, vqReader_takeAct_74, vqReader_takeAct_71, vqReader_takeAct_68, vqReader_takeAct_0]
  ((try simp only [ev_iadd, ev_isub, ev_imul, ev_iand, ev_ishr, ev_iushr, ev_idiv, ev_irem, ev_ladd, ev_lsub, ev_lmul, ev_ldiv, ev_lrem, ev_lcmp, ev_ineg, ev_i2l, ev_i2b, ev_i2c, ev_l2i, ev_pop, ev_ci, ev_cl, ev_null, ev_cs, ev_gcs, ev_fmt, ev_ild, ev_ild_int, ev_lld, ev_lld_long, ev_ald, ev_ald_ref, ev_ald_null, ev_inc, ev_inc_int, ev_ist, ev_lst, ev_ast, ev_ast_null, ev_dup, ev_dup2, ev_if_eq, ev_if_ne, ev_if_lt, ev_if_ge, ev_if_gt, ev_if_le, ev_ic_eq, ev_ic_ne, ev_ic_lt, ev_ic_ge, ev_ic_gt, ev_ic_le, ev_ifnull_n, ev_ifnull_r, ev_ifnonnull_n, ev_ifnonnull_r, ev_sw, ev_geti, ev_getr, ev_puti, ev_putz, ev_putr, ev_iald, ev_bald, ev_zald, ev_lald, ev_aald, ev_alen, ev_iast, ev_bast, ev_zast, ev_last, ev_aast, ev_iret, ev_zret, ev_lret, ev_aret, ev_aret_n, ev_vret, ev_nret, ev_obj, ev_call, ev_callA, ev_callT, ev_call_s, ev_callA_s, ev_callT_s, ev_new, ev_newi, ev_newl, ev_newq, ev_acpy, ev_acpl, ev_sval, ev_scod, ev_sal, ev_sbl, ev_dead, lv_args, lk, st1, st2, ins, sa, rcv, swp_nil, swp_cons, Value.category, Option.toList_some, Option.toList_none, List.nil_append, List.cons_append, List.filter_cons, List.filter_nil, List.length_cons, List.length_nil, Bool.not_true, Bool.not_false, Bool.and_true, Bool.true_and, Bool.false_and, Bool.and_false, Nat.reduceBEq, Nat.reduceAdd, Nat.reduceSub, Nat.reduceMul, Nat.reduceEqDiff, Nat.reduceLT, Nat.reduceLeDiff, reduceIte, if_true, if_false, ite_true, ite_false, true_and, and_true, true_or, or_true, false_or, or_false, Nat.zero_le, Nat.le_refl, not_false_eq_true, not_true_eq_false, Bool.false_eq_true, beq_self_eq_true, Nat.add_one_ne_zero, eq_self_iff_true, Nat.zero_add, i1_0, i0_1, aref_, anull_, kd_0, kd_1, kd_2, kd_3, kd_4, kd_5, kd_6, kd_7, kd_8, kd_9, kd_10, kd_11, kd_12, kd_13, kd_14, kd_15, kd_16, kd_17, kd_18, kd_19, kd_20, kd_21, kd_22, kd_23, kd_24, kd_25, kd_26, kd_27, kd_28, kd_29, kd_30, kd_31, kd_32, kd_33, kd_34, kd_35, kd_36, kd_37, kd_38, kd_39, ln_13, ln_14, ln_15, ln_16, ln_17, ln_18, ln_19, ln_20, ln_21, ln_22, ln_23, ln_24, ln_25, ln_26, ln_27, ln_28, ln_29, ln_30, ln_31, ln_32, ln_33, ln_34, ln_35, ln_36, ln_37, ln_38, ln_39, vqReader_takeAct_77, vqReader_takeAct_74, vqReader_takeAct_71, vqReader_takeAct_68, vqReader_takeAct_0, h3, hc, ua_rc]); (try simp (disch := omega) only [ev_iadd, ev_isub, ev_imul, ev_iand, ev_ishr, ev_iushr, ev_idiv, ev_irem, ev_ladd, ev_lsub, ev_lmul, ev_ldiv, ev_lrem, ev_lcmp, ev_ineg, ev_i2l, ev_i2b, ev_i2c, ev_l2i, ev_pop, ev_ci, ev_cl, ev_null, ev_cs, ev_gcs, ev_fmt, ev_ild, ev_ild_int, ev_lld, ev_lld_long, ev_ald, ev_ald_ref, ev_ald_null, ev_inc, ev_inc_int, ev_ist, ev_lst, ev_ast, ev_ast_null, ev_dup, ev_dup2, ev_if_eq, ev_if_ne, ev_if_lt, ev_if_ge, ev_if_gt, ev_if_le, ev_ic_eq, ev_ic_ne, ev_ic_lt, ev_ic_ge, ev_ic_gt, ev_ic_le, ev_ifnull_n, ev_ifnull_r, ev_ifnonnull_n, ev_ifnonnull_r, ev_sw, ev_geti, ev_getr, ev_puti, ev_putz, ev_putr, ev_iald, ev_bald, ev_zald, ev_lald, ev_aald, ev_alen, ev_iast, ev_bast, ev_zast, ev_last, ev_aast, ev_iret, ev_zret, ev_lret, ev_aret, ev_aret_n, ev_vret, ev_nret, ev_obj, ev_call, ev_callA, ev_callT, ev_call_s, ev_callA_s, ev_callT_s, ev_new, ev_newi, ev_newl, ev_newq, ev_acpy, ev_acpl, ev_sval, ev_scod, ev_sal, ev_sbl, ev_dead, lv_args, lk, st1, st2, ins, sa, rcv, swp_nil, swp_cons, Value.category, Option.toList_some, Option.toList_none, List.nil_append, List.cons_append, List.filter_cons, List.filter_nil, List.length_cons, List.length_nil, Bool.not_true, Bool.not_false, Bool.and_true, Bool.true_and, Bool.false_and, Bool.and_false, Nat.reduceBEq, Nat.reduceAdd, Nat.reduceSub, Nat.reduceMul, Nat.reduceEqDiff, Nat.reduceLT, Nat.reduceLeDiff, reduceIte, if_true, if_false, ite_true, ite_false, true_and, and_true, true_or, or_true, false_or, or_false, Nat.zero_le, Nat.le_refl, not_false_eq_true, not_true_eq_false, Bool.false_eq_true, beq_self_eq_true, Nat.add_one_ne_zero, eq_self_iff_true, Nat.zero_add, i1_0, i0_1, aref_, anull_, kd_0, kd_1, kd_2, kd_3, kd_4, kd_5, kd_6, kd_7, kd_8, kd_9, kd_10, kd_11, kd_12, kd_13, kd_14, kd_15, kd_16, kd_17, kd_18, kd_19, kd_20, kd_21, kd_22, kd_23, kd_24, kd_25, kd_26, kd_27, kd_28, kd_29, kd_30, kd_31, kd_32, kd_33, kd_34, kd_35, kd_36, kd_37, kd_38, kd_39, ln_13, ln_14, ln_15, ln_16, ln_17, ln_18, ln_19, ln_20, ln_21, ln_22, ln_23, ln_24, ln_25, ln_26, ln_27, ln_28, ln_29, ln_30, ln_31, ln_32, ln_33, ln_34, ln_35, ln_36, ln_37, ln_38, ln_39, lit, pk_mul, nI_add, nI_clamp, in_iff, nI_eq, nI_leI, nI_ltI, upd_eq, upd_ne, updL_eq, updL_ne, ui_ua, uj_ua, ua_eq, ua_ua, vqReader_takeAct_77, vqReader_takeAct_74, vqReader_takeAct_71, vqReader_takeAct_68, vqReader_takeAct_0, h3, hc, ua_rc]); (try simp only [bk_0, bk_1, bk_2, bk_3, bk_4, bk_5, bk_6, bk_7, bk_8, bk_9, bk_10, bk_11, bk_12, bk_13, bk_14, bk_15, bk_16, bk_17, bk_18, bk_19, bk_20, bk_21, bk_22, bk_23, bk_24, bk_25, bk_26, bk_27, bk_28, bk_29, bk_30, bk_31, bk_32, bk_33, bk_34, bk_35, bk_36, bk_37, bk_38, bk_39, bk_40, bk_41, bk_42, bk_43, bk_44, bk_45, bk_46, bk_47, bk_48, bk_49, bk_50, bk_51, bk_52, bk_53, bk_54, bk_55, bk_56, bk_57, bk_58, bk_59, bk_60, bk_61, bk_62, bk_63, bk_99, bk_100, bk_255, bk_320, bk_500, bk_600, bk_620, bk_1000, bk_12345, bk_1103515245]))
  by_cases c1 : c = 19
  · rw [if_pos (by omega)] at h
    rw [if_pos c1]
    exact h
  rw [if_neg c1]
  by_cases c2 : c = 20
  · rw [if_pos (by omega)] at h
    rw [if_pos c2]
    exact h
  rw [if_neg c2]
  by_cases c3 : c = 21
  · rw [if_pos (by omega)] at h
    rw [if_pos c3]
    exact h
  rw [if_neg c3]
  rw [if_neg (by omega)] at h
  by_cases c4 : c = 22
  · rw [if_pos (by omega)] at h
    rw [if_pos c4]
    exact h
  rw [if_neg c4]
  by_cases c5 : c = 23
  · rw [if_neg (by omega), if_pos (by omega)] at h
    rw [if_pos c5]
    exact h
  rw [if_neg c5]
  by_cases c6 : c = 24
  · rw [if_pos (by omega)] at h
    rw [if_pos c6]
    exact h
  rw [if_neg c6]
  by_cases c7 : c = 25
  · rw [if_neg (by omega), if_pos (by omega)] at h
    rw [if_pos c7]
    exact h
  rw [if_neg c7]
  rw [if_neg (by omega), if_neg (by omega)] at h
  exact h
theorem sp_Reader_isAtBales (h3 : R RE 3 = .ref TK) (hc : I TK 4 = nI c) (c25 : c ≤ 25) (h : K (some (.int (b2i (decide (16 ≤ c ∧ c ≤ 18))))) E R I J) : CL yReader_isAtBales cReader_isAtBales 1 (some .boolean) (d + 1) 0 0 [.ref RE] E R I J K := by
  apply eReader_isAtBales (Nat.le_of_ble_eq_true rfl)
  simp only [ev_iadd, ev_isub, ev_imul, ev_iand, ev_ishr, ev_iushr, ev_idiv, ev_irem, ev_ladd, ev_lsub, ev_lmul, ev_ldiv, ev_lrem, ev_lcmp, ev_ineg, ev_i2l, ev_i2b, ev_i2c, ev_l2i, ev_pop, ev_ci, ev_cl, ev_null, ev_cs, ev_gcs, ev_fmt, ev_ild, ev_ild_int, ev_lld, ev_lld_long, ev_ald, ev_ald_ref, ev_ald_null, ev_inc, ev_inc_int, ev_ist, ev_lst, ev_ast, ev_ast_null, ev_dup, ev_dup2, ev_if_eq, ev_if_ne, ev_if_lt, ev_if_ge, ev_if_gt, ev_if_le, ev_ic_eq, ev_ic_ne, ev_ic_lt, ev_ic_ge, ev_ic_gt, ev_ic_le, ev_ifnull_n, ev_ifnull_r, ev_ifnonnull_n, ev_ifnonnull_r, ev_sw, ev_geti, ev_getr, ev_puti, ev_putz, ev_putr, ev_iald, ev_bald, ev_zald, ev_lald, ev_aald, ev_alen, ev_iast, ev_bast, ev_zast, ev_last, ev_aast, ev_iret, ev_zret, ev_lret, ev_aret, ev_aret_n, ev_vret, ev_nret, ev_obj, ev_call, ev_callA, ev_callT, ev_call_s, ev_callA_s, ev_callT_s, ev_new, ev_newi, ev_newl, ev_newq, ev_acpy, ev_acpl, ev_sval, ev_scod, ev_sal, ev_sbl, ev_dead, lv_args, lk, st1, st2, ins, sa, rcv, swp_nil, swp_cons, Value.category, Option.toList_some, Option.toList_none, List.nil_append, List.cons_append, List.filter_cons, List.filter_nil, List.length_cons, List.length_nil, Bool.not_true, Bool.not_false, Bool.and_true, Bool.true_and, Bool.false_and, Bool.and_false, Nat.reduceBEq, Nat.reduceAdd, Nat.reduceSub, Nat.reduceMul, Nat.reduceEqDiff, Nat.reduceLT, Nat.reduceLeDiff, reduceIte, if_true, if_false, ite_true, ite_false, true_and, and_true, true_or, or_true, false_or, or_false, Nat.zero_le, Nat.le_refl, not_false_eq_true, not_true_eq_false, Bool.false_eq_true, beq_self_eq_true, Nat.add_one_ne_zero, eq_self_iff_true, Nat.zero_add, i1_0, i0_1, aref_, anull_, kd_0, kd_1, kd_2, kd_3, kd_4, kd_5, kd_6, kd_7, kd_8, kd_9, kd_10, kd_11, kd_12, kd_13, kd_14, kd_15, kd_16, kd_17, kd_18, kd_19, kd_20, kd_21, kd_22, kd_23, kd_24, kd_25, kd_26, kd_27, kd_28, kd_29, kd_30, kd_31, kd_32, kd_33, kd_34, kd_35, kd_36, kd_37, kd_38, kd_39, ln_13, ln_14, ln_15, ln_16, ln_17, ln_18, ln_19, ln_20, ln_21, ln_22, ln_23, ln_24, ln_25, ln_26, ln_27, ln_28, ln_29, ln_30, ln_31, ln_32, ln_33, ln_34, ln_35, ln_36, ln_37, ln_38, ln_39, vqReader_isAtBales_29, vqReader_isAtBales_28, vqReader_isAtBales_24, vqReader_isAtBales_12, vqReader_isAtBales_0]
  ((try simp only [ev_iadd, ev_isub, ev_imul, ev_iand, ev_ishr, ev_iushr, ev_idiv, ev_irem, ev_ladd, ev_lsub, ev_lmul, ev_ldiv, ev_lrem, ev_lcmp, ev_ineg, ev_i2l, ev_i2b, ev_i2c, ev_l2i, ev_pop, ev_ci, ev_cl, ev_null, ev_cs, ev_gcs, ev_fmt, ev_ild, ev_ild_int, ev_lld, ev_lld_long, ev_ald, ev_ald_ref, ev_ald_null, ev_inc, ev_inc_int, ev_ist, ev_lst, ev_ast, ev_ast_null, ev_dup, ev_dup2, ev_if_eq, ev_if_ne, ev_if_lt, ev_if_ge, ev_if_gt, ev_if_le, ev_ic_eq, ev_ic_ne, ev_ic_lt, ev_ic_ge, ev_ic_gt, ev_ic_le, ev_ifnull_n, ev_ifnull_r, ev_ifnonnull_n, ev_ifnonnull_r, ev_sw, ev_geti, ev_getr, ev_puti, ev_putz, ev_putr, ev_iald, ev_bald, ev_zald, ev_lald, ev_aald, ev_alen, ev_iast, ev_bast, ev_zast, ev_last, ev_aast, ev_iret, ev_zret, ev_lret, ev_aret, ev_aret_n, ev_vret, ev_nret, ev_obj, ev_call, ev_callA, ev_callT, ev_call_s, ev_callA_s, ev_callT_s, ev_new, ev_newi, ev_newl, ev_newq, ev_acpy, ev_acpl, ev_sval, ev_scod, ev_sal, ev_sbl, ev_dead, lv_args, lk, st1, st2, ins, sa, rcv, swp_nil, swp_cons, Value.category, Option.toList_some, Option.toList_none, List.nil_append, List.cons_append, List.filter_cons, List.filter_nil, List.length_cons, List.length_nil, Bool.not_true, Bool.not_false, Bool.and_true, Bool.true_and, Bool.false_and, Bool.and_false, Nat.reduceBEq, Nat.reduceAdd, Nat.reduceSub, Nat.reduceMul, Nat.reduceEqDiff, Nat.reduceLT, Nat.reduceLeDiff, reduceIte, if_true, if_false, ite_true, ite_false, true_and, and_true, true_or, or_true, false_or, or_false, Nat.zero_le, Nat.le_refl, not_false_eq_true, not_true_eq_false, Bool.false_eq_true, beq_self_eq_true, Nat.add_one_ne_zero, eq_self_iff_true, Nat.zero_add, i1_0, i0_1, aref_, anull_, kd_0, kd_1, kd_2, kd_3, kd_4, kd_5, kd_6, kd_7, kd_8, kd_9, kd_10, kd_11, kd_12, kd_13, kd_14, kd_15, kd_16, kd_17, kd_18, kd_19, kd_20, kd_21, kd_22, kd_23, kd_24, kd_25, kd_26, kd_27, kd_28, kd_29, kd_30, kd_31, kd_32, kd_33, kd_34, kd_35, kd_36, kd_37, kd_38, kd_39, ln_13, ln_14, ln_15, ln_16, ln_17, ln_18, ln_19, ln_20, ln_21, ln_22, ln_23, ln_24, ln_25, ln_26, ln_27, ln_28, ln_29, ln_30, ln_31, ln_32, ln_33, ln_34, ln_35, ln_36, ln_37, ln_38, ln_39, vqReader_isAtBales_29, vqReader_isAtBales_28, vqReader_isAtBales_24, vqReader_isAtBales_12, vqReader_isAtBales_0, h3, hc]); (try simp (disch := omega) only [ev_iadd, ev_isub, ev_imul, ev_iand, ev_ishr, ev_iushr, ev_idiv, ev_irem, ev_ladd, ev_lsub, ev_lmul, ev_ldiv, ev_lrem, ev_lcmp, ev_ineg, ev_i2l, ev_i2b, ev_i2c, ev_l2i, ev_pop, ev_ci, ev_cl, ev_null, ev_cs, ev_gcs, ev_fmt, ev_ild, ev_ild_int, ev_lld, ev_lld_long, ev_ald, ev_ald_ref, ev_ald_null, ev_inc, ev_inc_int, ev_ist, ev_lst, ev_ast, ev_ast_null, ev_dup, ev_dup2, ev_if_eq, ev_if_ne, ev_if_lt, ev_if_ge, ev_if_gt, ev_if_le, ev_ic_eq, ev_ic_ne, ev_ic_lt, ev_ic_ge, ev_ic_gt, ev_ic_le, ev_ifnull_n, ev_ifnull_r, ev_ifnonnull_n, ev_ifnonnull_r, ev_sw, ev_geti, ev_getr, ev_puti, ev_putz, ev_putr, ev_iald, ev_bald, ev_zald, ev_lald, ev_aald, ev_alen, ev_iast, ev_bast, ev_zast, ev_last, ev_aast, ev_iret, ev_zret, ev_lret, ev_aret, ev_aret_n, ev_vret, ev_nret, ev_obj, ev_call, ev_callA, ev_callT, ev_call_s, ev_callA_s, ev_callT_s, ev_new, ev_newi, ev_newl, ev_newq, ev_acpy, ev_acpl, ev_sval, ev_scod, ev_sal, ev_sbl, ev_dead, lv_args, lk, st1, st2, ins, sa, rcv, swp_nil, swp_cons, Value.category, Option.toList_some, Option.toList_none, List.nil_append, List.cons_append, List.filter_cons, List.filter_nil, List.length_cons, List.length_nil, Bool.not_true, Bool.not_false, Bool.and_true, Bool.true_and, Bool.false_and, Bool.and_false, Nat.reduceBEq, Nat.reduceAdd, Nat.reduceSub, Nat.reduceMul, Nat.reduceEqDiff, Nat.reduceLT, Nat.reduceLeDiff, reduceIte, if_true, if_false, ite_true, ite_false, true_and, and_true, true_or, or_true, false_or, or_false, Nat.zero_le, Nat.le_refl, not_false_eq_true, not_true_eq_false, Bool.false_eq_true, beq_self_eq_true, Nat.add_one_ne_zero, eq_self_iff_true, Nat.zero_add, i1_0, i0_1, aref_, anull_, kd_0, kd_1, kd_2, kd_3, kd_4, kd_5, kd_6, kd_7, kd_8, kd_9, kd_10, kd_11, kd_12, kd_13, kd_14, kd_15, kd_16, kd_17, kd_18, kd_19, kd_20, kd_21, kd_22, kd_23, kd_24, kd_25, kd_26, kd_27, kd_28, kd_29, kd_30, kd_31, kd_32, kd_33, kd_34, kd_35, kd_36, kd_37, kd_38, kd_39, ln_13, ln_14, ln_15, ln_16, ln_17, ln_18, ln_19, ln_20, ln_21, ln_22, ln_23, ln_24, ln_25, ln_26, ln_27, ln_28, ln_29, ln_30, ln_31, ln_32, ln_33, ln_34, ln_35, ln_36, ln_37, ln_38, ln_39, lit, pk_mul, nI_add, nI_clamp, in_iff, nI_eq, nI_leI, nI_ltI, upd_eq, upd_ne, updL_eq, updL_ne, ui_ua, uj_ua, ua_eq, ua_ua, vqReader_isAtBales_29, vqReader_isAtBales_28, vqReader_isAtBales_24, vqReader_isAtBales_12, vqReader_isAtBales_0, h3, hc]); (try simp only [bk_0, bk_1, bk_2, bk_3, bk_4, bk_5, bk_6, bk_7, bk_8, bk_9, bk_10, bk_11, bk_12, bk_13, bk_14, bk_15, bk_16, bk_17, bk_18, bk_19, bk_20, bk_21, bk_22, bk_23, bk_24, bk_25, bk_26, bk_27, bk_28, bk_29, bk_30, bk_31, bk_32, bk_33, bk_34, bk_35, bk_36, bk_37, bk_38, bk_39, bk_40, bk_41, bk_42, bk_43, bk_44, bk_45, bk_46, bk_47, bk_48, bk_49, bk_50, bk_51, bk_52, bk_53, bk_54, bk_55, bk_56, bk_57, bk_58, bk_59, bk_60, bk_61, bk_62, bk_63, bk_99, bk_100, bk_255, bk_320, bk_500, bk_600, bk_620, bk_1000, bk_12345, bk_1103515245]))
  by_cases c1 : c < 16
  · rw [decide_eq_false (by omega)] at h
    rw [if_pos c1]
    exact h
  · rw [if_neg c1]
    by_cases c2 : 18 < c
    · rw [decide_eq_false (by omega)] at h
      rw [if_pos c2]
      exact h
    · rw [decide_eq_true (by omega)] at h
      rw [if_neg c2]
      exact h
theorem sp_Reader_mark_p {k : Nat} (h3 : R RE 3 = .ref TK) (h1 : I RE 1 = nI (s 8)) (h2 : I RE 2 = plc s) (hw : I TK 2 = nI w) (b8 : s 8 < 10) (hk : k ≠ 0) (h : ∀ F', F' 1 = nI (mrk s k w 8) → F' 2 = plc (mrk s k w) → (∀ i, i ≠ 1 → i ≠ 2 → F' i = I RE i) → K none E R (ua I RE F') J) : CL yReader_mark cReader_mark 2 none (d + 1) 0 0 [.ref RE, .int (nI k)] E R I J K := by
  by_cases c8 : s 8 = 0
  · refine sp_Reader_mark_0 h3 (by rw [h1, c8]; rfl) (h _ ?_ ?_ (fun i i1 i2 => by rw [upd_ne i2, upd_ne i1]))
    · unfold mrk
      rw [if_pos c8, upd_ne (by decide), upd_eq, un_ne (by decide), un_eq]
    · unfold mrk plc
      rw [if_pos c8, upd_eq, un_ne (show 8 ≠ 9 by decide), un_eq, un_eq, if_neg hk, hw]
  · refine sp_Reader_mark_1 (by rw [h1, lit 0]; exact fun z => c8 ((nI_eq (by omega) (by omega)).mp z)) ?_
    have := h (I RE) (by rw [mrk_id c8]; exact h1) (by rw [mrk_id c8]; exact h2) (fun _ _ _ => rfl)
    rw [ua_self] at this
    exact this
/-- what the reader's fields say -/
def CR (s : Nat → Nat) (F : Nat → Int32) : Prop :=
  (F 1 = nI (s 8)) ∧
  (F 2 = plc s) ∧
  (s 0 = 0 → F 4 + 1 = nI (s 1)) ∧
  (s 0 ≠ 0 → F 4 = nI (s 1 - 1)) ∧
  (s 0 ≠ 0 → F 5 = nI (s 2)) ∧
  (s 0 = 3 ∨ s 0 = 4 → F 6 = nI (s 3)) ∧
  (s 0 = 4 → F 7 = nI (s 4)) ∧
  (7 ≤ s 0 → F 8 = nI (s 5)) ∧
  (7 ≤ s 0 → F 9 = nI (s 6)) ∧
  (7 ≤ s 0 → F 10 = nI (s 7))
theorem CR.r1 {s : Nat → Nat} {F : Nat → Int32} (h : CR s F) : F 1 = nI (s 8) := h.1
theorem CR.r2 {s : Nat → Nat} {F : Nat → Int32} (h : CR s F) : F 2 = plc s := h.2.1
theorem CR.r4 {s : Nat → Nat} {F : Nat → Int32} (h : CR s F) : s 0 = 0 → F 4 + 1 = nI (s 1) := h.2.2.1
theorem CR.rm {s : Nat → Nat} {F : Nat → Int32} (h : CR s F) : s 0 ≠ 0 → F 4 = nI (s 1 - 1) := h.2.2.2.1
theorem CR.r5 {s : Nat → Nat} {F : Nat → Int32} (h : CR s F) : s 0 ≠ 0 → F 5 = nI (s 2) := h.2.2.2.2.1
theorem CR.r6 {s : Nat → Nat} {F : Nat → Int32} (h : CR s F) : s 0 = 3 ∨ s 0 = 4 → F 6 = nI (s 3) := h.2.2.2.2.2.1
theorem CR.r7 {s : Nat → Nat} {F : Nat → Int32} (h : CR s F) : s 0 = 4 → F 7 = nI (s 4) := h.2.2.2.2.2.2.1
theorem CR.r8 {s : Nat → Nat} {F : Nat → Int32} (h : CR s F) : 7 ≤ s 0 → F 8 = nI (s 5) := h.2.2.2.2.2.2.2.1
theorem CR.r9 {s : Nat → Nat} {F : Nat → Int32} (h : CR s F) : 7 ≤ s 0 → F 9 = nI (s 6) := h.2.2.2.2.2.2.2.2.1
theorem CR.rt {s : Nat → Nat} {F : Nat → Int32} (h : CR s F) : 7 ≤ s 0 → F 10 = nI (s 7) := h.2.2.2.2.2.2.2.2.2
theorem CR.mk {s : Nat → Nat} {F : Nat → Int32} (h0 : F 1 = nI (s 8)) (h1 : F 2 = plc s) (h2 : s 0 = 0 → F 4 + 1 = nI (s 1)) (h3 : s 0 ≠ 0 → F 4 = nI (s 1 - 1)) (h4 : s 0 ≠ 0 → F 5 = nI (s 2)) (h5 : s 0 = 3 ∨ s 0 = 4 → F 6 = nI (s 3)) (h6 : s 0 = 4 → F 7 = nI (s 4)) (h7 : 7 ≤ s 0 → F 8 = nI (s 5)) (h8 : 7 ≤ s 0 → F 9 = nI (s 6)) (h9 : 7 ≤ s 0 → F 10 = nI (s 7)) : CR s F := ⟨h0, h1, h2, h3, h4, h5, h6, h7, h8, h9⟩
def KTe (s : Nat → Nat) (I : Nat → Nat → Int32) (l t : Nat) : Prop := I (rc 23 900) (l * 4 + t) = nI (s (100 + 20 * l + 1 + 3 * t)) ∧ I (rc 24 900) (l * 4 + t) = nI (s (100 + 20 * l + 2 + 3 * t)) ∧ I (rc 25 900) (l * 4 + t) = nI (s (100 + 20 * l + 3 + 3 * t))
def KLi (s : Nat → Nat) (I : Nat → Nat → Int32) (l : Nat) : Prop := I (rc 22 900) l = nI (s (100 + 20 * l)) ∧ I (rc 19 900) l = nI (s (100 + 20 * l + 17)) ∧ I (rc 20 900) l = nI (s (100 + 20 * l + 18)) ∧ I (rc 21 900) l = nI (s (100 + 20 * l + 19)) ∧ ∀ t, t < 4 → t < s (100 + 20 * l) → KTe s I l t
/-- the draft -/
def KTab (s : Nat → Nat) (I : Nat → Nat → Int32) : Prop :=
  (I (rc 3 900) 0 = nI (s 10)) ∧
  (∀ l, l < s 10 → KLi s I l) ∧
  (s 0 ≠ 0 → ∀ t, t < s 2 → t < 4 → s 1 - 1 < 16 → KTe s I (s 1 - 1) t)
theorem KTab.ln {s : Nat → Nat} {I : Nat → Nat → Int32} (h : KTab s I) : I (rc 3 900) 0 = nI (s 10) := h.1
theorem KTab.li {s : Nat → Nat} {I : Nat → Nat → Int32} (h : KTab s I) : ∀ l, l < s 10 → KLi s I l := h.2.1
theorem KTab.te {s : Nat → Nat} {I : Nat → Nat → Int32} (h : KTab s I) : s 0 ≠ 0 → ∀ t, t < s 2 → t < 4 → s 1 - 1 < 16 → KTe s I (s 1 - 1) t := h.2.2
theorem KTab.mk {s : Nat → Nat} {I : Nat → Nat → Int32} (h0 : I (rc 3 900) 0 = nI (s 10)) (h1 : ∀ l, l < s 10 → KLi s I l) (h2 : s 0 ≠ 0 → ∀ t, t < s 2 → t < 4 → s 1 - 1 < 16 → KTe s I (s 1 - 1) t) : KTab s I := ⟨h0, h1, h2⟩
/-- bounds -/
def SB (s : Nat → Nat) (p : Nat) : Prop :=
  (s 1 ≤ p) ∧
  (s 2 ≤ p) ∧
  (s 8 < 10) ∧
  (s 9 ≤ 500) ∧
  (s 5 ≤ 25) ∧
  (s 10 = min (if s 0 = 0 then s 1 else s 1 - 1) 16) ∧
  (s 0 ≠ 0 → 1 ≤ s 1)
theorem SB.b1 {s : Nat → Nat} {p : Nat} (h : SB s p) : s 1 ≤ p := h.1
theorem SB.b2 {s : Nat → Nat} {p : Nat} (h : SB s p) : s 2 ≤ p := h.2.1
theorem SB.b8 {s : Nat → Nat} {p : Nat} (h : SB s p) : s 8 < 10 := h.2.2.1
theorem SB.b9 {s : Nat → Nat} {p : Nat} (h : SB s p) : s 9 ≤ 500 := h.2.2.2.1
theorem SB.b5 {s : Nat → Nat} {p : Nat} (h : SB s p) : s 5 ≤ 25 := h.2.2.2.2.1
theorem SB.lt {s : Nat → Nat} {p : Nat} (h : SB s p) : s 10 = min (if s 0 = 0 then s 1 else s 1 - 1) 16 := h.2.2.2.2.2.1
theorem SB.m1 {s : Nat → Nat} {p : Nat} (h : SB s p) : s 0 ≠ 0 → 1 ≤ s 1 := h.2.2.2.2.2.2
theorem SB.mk {s : Nat → Nat} {p : Nat} (h0 : s 1 ≤ p) (h1 : s 2 ≤ p) (h2 : s 8 < 10) (h3 : s 9 ≤ 500) (h4 : s 5 ≤ 25) (h5 : s 10 = min (if s 0 = 0 then s 1 else s 1 - 1) 16) (h6 : s 0 ≠ 0 → 1 ≤ s 1) : SB s p := ⟨h0, h1, h2, h3, h4, h5, h6⟩
/-- only the reader's own cells have changed -/
def CFr (I I' : Nat → Nat → Int32) : Prop := ∀ c, c ≠ RE → c ≠ TK → c ≠ rc 3 900 → (∀ r, 19 ≤ r → r ≤ 25 → c ≠ rc r 900) → I' c = I c
theorem CFr.refl : CFr I I := fun _ _ _ _ _ => rfl
theorem CFr.trans {I'' : Nat → Nat → Int32} (h : CFr I I') (h' : CFr I' I'') : CFr I I'' := fun c a1 a2 a3 a4 => (h' c a1 a2 a3 a4).trans (h c a1 a2 a3 a4)
theorem CFr.re (h : CFr I I') : CFr I (ua I' RE F) := fun c a1 a2 a3 a4 => by rw [ua_ne a1]; exact h c a1 a2 a3 a4
theorem CFr.tk (h : CFr I I') : CFr I (ua I' TK F) := fun c a1 a2 a3 a4 => by rw [ua_ne a2]; exact h c a1 a2 a3 a4
theorem CFr.o3 (h : CFr I I') : CFr I (ua I' (rc 3 900) F) := fun c a1 a2 a3 a4 => by rw [ua_ne a3]; exact h c a1 a2 a3 a4
theorem CFr.row {r : Nat} (h : CFr I I') (h1 : 19 ≤ r) (h2 : r ≤ 25) : CFr I (ua I' (rc r 900) F) := fun c a1 a2 a3 a4 => by rw [ua_ne (a4 r h1 h2)]; exact h c a1 a2 a3 a4
theorem KTe.cg {l t : Nat} (h : KTe s I l t) (e : ∀ i, 100 ≤ i → s' i = s i) (hI : ∀ r, 19 ≤ r → r ≤ 25 → I' (rc r 900) = I (rc r 900)) : KTe s' I' l t := by
  unfold KTe at h ⊢
  rw [e _ (by omega), e _ (by omega), e _ (by omega), hI 23 (by decide) (by decide), hI 24 (by decide) (by decide), hI 25 (by decide) (by decide)]
  exact h
theorem KLi.cg {l : Nat} (h : KLi s I l) (e : ∀ i, 100 ≤ i → s' i = s i) (hI : ∀ r, 19 ≤ r → r ≤ 25 → I' (rc r 900) = I (rc r 900)) : KLi s' I' l := by
  obtain ⟨a1, a2, a3, a4, a5⟩ := h
  unfold KLi
  rw [e _ (by omega), e _ (by omega), e _ (by omega), e _ (by omega), hI 22 (by decide) (by decide), hI 19 (by decide) (by decide), hI 20 (by decide) (by decide), hI 21 (by decide) (by decide)]
  exact ⟨a1, a2, a3, a4, fun t t4 ht => (a5 t t4 ht).cg e hI⟩
theorem KTab.cg (h : KTab s I) (e : ∀ i, 10 ≤ i → s' i = s i) (h3 : I' (rc 3 900) = I (rc 3 900)) (hI : ∀ r, 19 ≤ r → r ≤ 25 → I' (rc r 900) = I (rc r 900)) (ht : s' 0 ≠ 0 → s' 2 = 0 ∨ (s 0 ≠ 0 ∧ s' 1 = s 1 ∧ s' 2 = s 2)) : KTab s' I' := by
  have e1 : ∀ i, 100 ≤ i → s' i = s i := fun i hi => e i (by omega)
  refine KTab.mk ?_ ?_ ?_
  · rw [h3, e 10 (by decide)]; exact h.ln
  · intro l hl
    rw [e 10 (by decide)] at hl
    exact (h.li l hl).cg e1 hI
  · intro z t h2 t4 h1
    rcases ht z with y | ⟨y0, y1, y2⟩
    · omega
    · rw [y1] at h1 ⊢
      rw [y2] at h2
      exact (h.te y0 t h2 t4 h1).cg e1 hI
theorem KTab.re (h : KTab s I) (e : ∀ i, 10 ≤ i → s' i = s i) (ht : s' 0 ≠ 0 → s' 2 = 0 ∨ (s 0 ≠ 0 ∧ s' 1 = s 1 ∧ s' 2 = s 2)) : KTab s' (ua I RE F) :=
  h.cg e (ua_ne (by decide)) (fun r h1 h2 => ua_ne (by unfold RE rc; omega)) ht
theorem SB.mid (h : SB s p) (h0 : s 0 ≠ 0) (h0' : s' 0 ≠ 0) (e1 : s' 1 = s 1) (e2 : s' 2 ≤ s 2 + 1) (e8 : s' 8 < 10) (e9 : s' 9 ≤ 500) (e5 : s' 5 ≤ 25) (e10 : s' 10 = s 10) : SB s' (p + 1) := by
  have b1 := h.b1
  have b2 := h.b2
  have hl := h.lt
  have m1 := h.m1 h0
  rw [if_neg h0] at hl
  refine SB.mk (by omega) (by omega) e8 e9 e5 ?_ (fun _ => by omega)
  rw [if_neg h0', e10, e1]
  exact hl
theorem SB.beg (h : SB s p) (h0 : s 0 = 0) (h0' : s' 0 ≠ 0) (e1 : s' 1 = s 1 + 1) (e2 : s' 2 = 0) (e8 : s' 8 < 10) (e9 : s' 9 ≤ 500) (e5 : s' 5 ≤ 25) (e10 : s' 10 = s 10) : SB s' (p + 1) := by
  have b1 := h.b1
  have hl := h.lt
  rw [if_pos h0] at hl
  refine SB.mk (by omega) (by omega) e8 e9 e5 ?_ (fun _ => by omega)
  rw [if_neg h0', e10, e1, Nat.add_sub_cancel]
  exact hl
theorem dA_rg : 7 ≤ dA c := by
  unfold dA
  repeat' split
  all_goals decide
theorem plc_cg (h8 : s' 8 = s 8) (h9 : s' 9 = s 9) : plc s' = plc s := by unfold plc; rw [h8, h9]
theorem CR.tacc (q1 : F 1 = nI (s 8)) (q2 : F 2 = plc s) (q4 : F 4 = nI (s 1 - 1)) (q5 : F 5 = nI (s 2)) : CR (tac s c) (upd (upd (upd F 8 (nI c)) 9 0) 10 0) := by
  have e0 : tac s c 0 = dA c := un_eq
  have h7 := dA_rg (c := c)
  refine CR.mk ?_ ?_ (fun z => ?_) (fun _ => ?_) (fun _ => ?_) (fun z => ?_) (fun z => ?_) (fun _ => ?_) (fun _ => ?_) (fun _ => ?_)
  · rw [upd_ne (by decide), upd_ne (by decide), upd_ne (by decide), tac_ne (by decide) (by decide) (by decide) (by decide)]; exact q1
  · rw [upd_ne (by decide), upd_ne (by decide), upd_ne (by decide), plc_cg (tac_ne (by decide) (by decide) (by decide) (by decide)) (tac_ne (by decide) (by decide) (by decide) (by decide))]; exact q2
  · rw [e0] at z; omega
  · rw [upd_ne (by decide), upd_ne (by decide), upd_ne (by decide), tac_ne (by decide) (by decide) (by decide) (by decide)]; exact q4
  · rw [upd_ne (by decide), upd_ne (by decide), upd_ne (by decide), tac_ne (by decide) (by decide) (by decide) (by decide)]; exact q5
  · rw [e0] at z; omega
  · rw [e0] at z; omega
  · rw [upd_ne (by decide), upd_ne (by decide), upd_eq, tac_eq, un_ne (by decide), un_ne (by decide), un_ne (by decide), un_eq]
  · rw [upd_ne (by decide), upd_eq, tac_eq, un_ne (by decide), un_ne (by decide), un_eq]
    all_goals rfl
  · rw [upd_eq, tac_eq, un_ne (by decide), un_eq]
    all_goals rfl
/-- what a step of the reader owes -/
def TkP (g : Nat → Nat) (T : Nat) (s : Nat → Nat) (p : Nat) (K : Ps) (E : Nat → Prop) (R : Nat → Nat → Value) (I : Nat → Nat → Int32) (J : Nat → Nat → Int64) : Prop := ∀ I', CFr I I' → I' TK = I TK → (stp s (cdp g T p) (vlp g T p) (atp g T p) 0 ≠ 10 → CR (stp s (cdp g T p) (vlp g T p) (atp g T p)) (I' RE) ∧ KTab (stp s (cdp g T p) (vlp g T p) (atp g T p)) I' ∧ SB (stp s (cdp g T p) (vlp g T p) (atp g T p)) (p + 1)) → K (some (.int (nI (stp s (cdp g T p) (vlp g T p) (atp g T p) 0)))) E R I' J
theorem TkP.re {n : Nat} (h : TkP g T s p K E R I J) (hs : stp s (cdp g T p) (vlp g T p) (atp g T p) = s') (hn : s' 0 = n) (hc : n ≠ 10 → CR s' F ∧ KTab s' (ua I RE F) ∧ SB s' (p + 1)) : K (some (.int (nI n))) E R (ua I RE F) J := by
  have := h (ua I RE F) CFr.refl.re (ua_ne (by decide)) (by rw [hs, hn, ua_eq]; exact hc)
  rw [hs, hn] at this
  exact this
theorem TkP.id {n : Nat} (h : TkP g T s p K E R I J) (hs : stp s (cdp g T p) (vlp g T p) (atp g T p) = s') (hn : s' 0 = n) (hc : n ≠ 10 → CR s' (I RE) ∧ KTab s' (ua I RE (I RE)) ∧ SB s' (p + 1)) : K (some (.int (nI n))) E R I J := by
  have := h.re hs hn hc
  rw [ua_self] at this
  exact this
end DB

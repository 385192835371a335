/-! the class reads tokens -/
section CT
variable {d : Nat} {K : Ps} {E : Nat → Prop} {R : Nat → Nat → Value} {I : Nat → Nat → Int32} {J : Nat → Nat → Int64} {g : Nat → Nat} {T p : Nat}
abbrev TK : Nat := rc 10 900
/-- the tape, as the class has it -/
def CTp (g : Nat → Nat) (T : Nat) (f : Nat → Int32) : Prop := T ≤ 500 ∧ ∀ i, i < T → bt (f i) (nI (g i)) ∧ g i < 256
theorem CTp.int {f : Nat → Int32} {i : Nat} (h : CTp g T f) (hi : i < T) : (f i).toInt = (if g i < 128 then (g i : Int) else (g i : Int) - 256) := by
  obtain ⟨⟨h1, h2, h3⟩, h4⟩ := h.2 i hi
  rw [nI_int (by omega)] at h3
  split at h3
  · rw [if_pos (by omega)]; omega
  · rw [if_neg (by omega)]; omega
theorem CTp.eq {f : Nat → Int32} {i c : Nat} (h : CTp g T f) (hi : i < T) (hc : c < 128) : f i = nI c ↔ g i = c := by
  have e := h.int hi
  have h4 := (h.2 i hi).2
  rw [eq_int, nI_int (by omega), e]
  split <;> omega
theorem CTp.lt {f : Nat → Int32} {i c : Nat} (h : CTp g T f) (hi : i < T) (hc : c < 128) : f i < nI c ↔ (g i < c ∨ 128 ≤ g i) := by
  have e := h.int hi
  have h4 := (h.2 i hi).2
  rw [lt_int, nI_int (by omega), e]
  split <;> omega
theorem CTp.gt {f : Nat → Int32} {i c : Nat} (h : CTp g T f) (hi : i < T) (hc : c < 128) : nI c < f i ↔ (c < g i ∧ g i < 128) := by
  have e := h.int hi
  have h4 := (h.2 i hi).2
  rw [lt_int, nI_int (by omega), e]
  split <;> omega
theorem sp_Tokens_isDigit {f : Nat → Int32} {i : Nat} (h : CTp g T f) (hi : i < T) (hK : K (some (.int (b2i (isDg (g i))))) E R I J) : CL yTokens_isDigit cTokens_isDigit 1 (some .boolean) (d + 1) 0 0 [.int (f i)] E R I J K := by
  have l := h.lt (c := 48) hi (by decide)
  have u := h.gt (c := 57) hi (by decide)
  unfold isDg at hK
  rw [← lit 48] at l
  rw [← lit 57] at u
  apply eTokens_isDigit (Nat.le_of_ble_eq_true rfl)
  simp only [ev_iadd, ev_isub, ev_imul, ev_iand, ev_ishr, ev_iushr, ev_idiv, ev_irem, ev_ladd, ev_lsub, ev_lmul, ev_ldiv, ev_lrem, ev_lcmp, ev_ineg, ev_i2l, ev_i2b, ev_i2c, ev_l2i, ev_pop, ev_ci, ev_cl, ev_null, ev_cs, ev_gcs, ev_fmt, ev_ild, ev_ild_int, ev_lld, ev_lld_long, ev_ald, ev_ald_ref, ev_ald_null, ev_inc, ev_inc_int, ev_ist, ev_lst, ev_ast, ev_ast_null, ev_dup, ev_dup2, ev_if_eq, ev_if_ne, ev_if_lt, ev_if_ge, ev_if_gt, ev_if_le, ev_ic_eq, ev_ic_ne, ev_ic_lt, ev_ic_ge, ev_ic_gt, ev_ic_le, ev_ifnull_n, ev_ifnull_r, ev_ifnonnull_n, ev_ifnonnull_r, ev_sw, ev_geti, ev_getr, ev_puti, ev_putz, ev_putr, ev_iald, ev_bald, ev_zald, ev_lald, ev_aald, ev_alen, ev_iast, ev_bast, ev_zast, ev_last, ev_aast, ev_iret, ev_zret, ev_lret, ev_aret, ev_aret_n, ev_vret, ev_nret, ev_obj, ev_call, ev_callA, ev_callT, ev_call_s, ev_callA_s, ev_callT_s, ev_new, ev_newi, ev_newl, ev_newq, ev_acpy, ev_acpl, ev_sval, ev_scod, ev_sal, ev_sbl, ev_dead, lv_args, lk, st1, st2, ins, sa, rcv, swp_nil, swp_cons, Value.category, Option.toList_some, Option.toList_none, List.nil_append, List.cons_append, List.filter_cons, List.filter_nil, List.length_cons, List.length_nil, Bool.not_true, Bool.not_false, Bool.and_true, Bool.true_and, Bool.false_and, Bool.and_false, Nat.reduceBEq, Nat.reduceAdd, Nat.reduceSub, Nat.reduceMul, Nat.reduceEqDiff, Nat.reduceLT, Nat.reduceLeDiff, reduceIte, if_true, if_false, ite_true, ite_false, true_and, and_true, true_or, or_true, false_or, or_false, Nat.zero_le, Nat.le_refl, not_false_eq_true, not_true_eq_false, Bool.false_eq_true, beq_self_eq_true, Nat.add_one_ne_zero, eq_self_iff_true, Nat.zero_add, i1_0, i0_1, aref_, anull_, kd_0, kd_1, kd_2, kd_3, kd_4, kd_5, kd_6, kd_7, kd_8, kd_9, kd_10, kd_11, kd_12, kd_13, kd_14, kd_15, kd_16, kd_17, kd_18, kd_19, kd_20, kd_21, kd_22, kd_23, kd_24, kd_25, kd_26, kd_27, kd_28, kd_29, kd_30, kd_31, kd_32, kd_33, kd_34, kd_35, kd_36, kd_37, kd_38, kd_39, ln_13, ln_14, ln_15, ln_16, ln_17, ln_18, ln_19, ln_20, ln_21, ln_22, ln_23, ln_24, ln_25, ln_26, ln_27, ln_28, ln_29, ln_30, ln_31, ln_32, ln_33, ln_34, ln_35, ln_36, ln_37, ln_38, ln_39, vqTokens_isDigit_17, vqTokens_isDigit_16, vqTokens_isDigit_12, vqTokens_isDigit_6, vqTokens_isDigit_0]
  by_cases c1 : f i < 48
  · have := l.mp c1
    have hd : (decide (48 ≤ g i) && decide (g i ≤ 57)) = false := by
      rcases this with z | z
      · rw [decide_eq_false (show ¬ 48 ≤ g i by omega)]; rfl
      · rw [decide_eq_false (show ¬ g i ≤ 57 by omega), Bool.and_false]
    rw [hd] at hK
    rw [if_pos c1]
    exact hK
  · have n1 := mt l.mpr c1
    rw [if_neg c1]
    by_cases c2 : 57 < f i
    · have := u.mp c2
      rw [decide_eq_false (show ¬ g i ≤ 57 by omega), Bool.and_false] at hK
      try simp only [ev_iadd, ev_isub, ev_imul, ev_iand, ev_ishr, ev_iushr, ev_idiv, ev_irem, ev_ladd, ev_lsub, ev_lmul, ev_ldiv, ev_lrem, ev_lcmp, ev_ineg, ev_i2l, ev_i2b, ev_i2c, ev_l2i, ev_pop, ev_ci, ev_cl, ev_null, ev_cs, ev_gcs, ev_fmt, ev_ild, ev_ild_int, ev_lld, ev_lld_long, ev_ald, ev_ald_ref, ev_ald_null, ev_inc, ev_inc_int, ev_ist, ev_lst, ev_ast, ev_ast_null, ev_dup, ev_dup2, ev_if_eq, ev_if_ne, ev_if_lt, ev_if_ge, ev_if_gt, ev_if_le, ev_ic_eq, ev_ic_ne, ev_ic_lt, ev_ic_ge, ev_ic_gt, ev_ic_le, ev_ifnull_n, ev_ifnull_r, ev_ifnonnull_n, ev_ifnonnull_r, ev_sw, ev_geti, ev_getr, ev_puti, ev_putz, ev_putr, ev_iald, ev_bald, ev_zald, ev_lald, ev_aald, ev_alen, ev_iast, ev_bast, ev_zast, ev_last, ev_aast, ev_iret, ev_zret, ev_lret, ev_aret, ev_aret_n, ev_vret, ev_nret, ev_obj, ev_call, ev_callA, ev_callT, ev_call_s, ev_callA_s, ev_callT_s, ev_new, ev_newi, ev_newl, ev_newq, ev_acpy, ev_acpl, ev_sval, ev_scod, ev_sal, ev_sbl, ev_dead, lv_args, lk, st1, st2, ins, sa, rcv, swp_nil, swp_cons, Value.category, Option.toList_some, Option.toList_none, List.nil_append, List.cons_append, List.filter_cons, List.filter_nil, List.length_cons, List.length_nil, Bool.not_true, Bool.not_false, Bool.and_true, Bool.true_and, Bool.false_and, Bool.and_false, Nat.reduceBEq, Nat.reduceAdd, Nat.reduceSub, Nat.reduceMul, Nat.reduceEqDiff, Nat.reduceLT, Nat.reduceLeDiff, reduceIte, if_true, if_false, ite_true, ite_false, true_and, and_true, true_or, or_true, false_or, or_false, Nat.zero_le, Nat.le_refl, not_false_eq_true, not_true_eq_false, Bool.false_eq_true, beq_self_eq_true, Nat.add_one_ne_zero, eq_self_iff_true, Nat.zero_add, i1_0, i0_1, aref_, anull_, kd_0, kd_1, kd_2, kd_3, kd_4, kd_5, kd_6, kd_7, kd_8, kd_9, kd_10, kd_11, kd_12, kd_13, kd_14, kd_15, kd_16, kd_17, kd_18, kd_19, kd_20, kd_21, kd_22, kd_23, kd_24, kd_25, kd_26, kd_27, kd_28, kd_29, kd_30, kd_31, kd_32, kd_33, kd_34, kd_35, kd_36, kd_37, kd_38, kd_39, ln_13, ln_14, ln_15, ln_16, ln_17, ln_18, ln_19, ln_20, ln_21, ln_22, ln_23, ln_24, ln_25, ln_26, ln_27, ln_28, ln_29, ln_30, ln_31, ln_32, ln_33, ln_34, ln_35, ln_36, ln_37, ln_38, ln_39, vqTokens_isDigit_17, vqTokens_isDigit_16, vqTokens_isDigit_12, vqTokens_isDigit_6, vqTokens_isDigit_0]
      rw [if_pos c2]
      exact hK
    · have n2 := mt u.mpr c2
      rw [decide_eq_true (show 48 ≤ g i by omega), decide_eq_true (show g i ≤ 57 by omega)] at hK
      try simp only [ev_iadd, ev_isub, ev_imul, ev_iand, ev_ishr, ev_iushr, ev_idiv, ev_irem, ev_ladd, ev_lsub, ev_lmul, ev_ldiv, ev_lrem, ev_lcmp, ev_ineg, ev_i2l, ev_i2b, ev_i2c, ev_l2i, ev_pop, ev_ci, ev_cl, ev_null, ev_cs, ev_gcs, ev_fmt, ev_ild, ev_ild_int, ev_lld, ev_lld_long, ev_ald, ev_ald_ref, ev_ald_null, ev_inc, ev_inc_int, ev_ist, ev_lst, ev_ast, ev_ast_null, ev_dup, ev_dup2, ev_if_eq, ev_if_ne, ev_if_lt, ev_if_ge, ev_if_gt, ev_if_le, ev_ic_eq, ev_ic_ne, ev_ic_lt, ev_ic_ge, ev_ic_gt, ev_ic_le, ev_ifnull_n, ev_ifnull_r, ev_ifnonnull_n, ev_ifnonnull_r, ev_sw, ev_geti, ev_getr, ev_puti, ev_putz, ev_putr, ev_iald, ev_bald, ev_zald, ev_lald, ev_aald, ev_alen, ev_iast, ev_bast, ev_zast, ev_last, ev_aast, ev_iret, ev_zret, ev_lret, ev_aret, ev_aret_n, ev_vret, ev_nret, ev_obj, ev_call, ev_callA, ev_callT, ev_call_s, ev_callA_s, ev_callT_s, ev_new, ev_newi, ev_newl, ev_newq, ev_acpy, ev_acpl, ev_sval, ev_scod, ev_sal, ev_sbl, ev_dead, lv_args, lk, st1, st2, ins, sa, rcv, swp_nil, swp_cons, Value.category, Option.toList_some, Option.toList_none, List.nil_append, List.cons_append, List.filter_cons, List.filter_nil, List.length_cons, List.length_nil, Bool.not_true, Bool.not_false, Bool.and_true, Bool.true_and, Bool.false_and, Bool.and_false, Nat.reduceBEq, Nat.reduceAdd, Nat.reduceSub, Nat.reduceMul, Nat.reduceEqDiff, Nat.reduceLT, Nat.reduceLeDiff, reduceIte, if_true, if_false, ite_true, ite_false, true_and, and_true, true_or, or_true, false_or, or_false, Nat.zero_le, Nat.le_refl, not_false_eq_true, not_true_eq_false, Bool.false_eq_true, beq_self_eq_true, Nat.add_one_ne_zero, eq_self_iff_true, Nat.zero_add, i1_0, i0_1, aref_, anull_, kd_0, kd_1, kd_2, kd_3, kd_4, kd_5, kd_6, kd_7, kd_8, kd_9, kd_10, kd_11, kd_12, kd_13, kd_14, kd_15, kd_16, kd_17, kd_18, kd_19, kd_20, kd_21, kd_22, kd_23, kd_24, kd_25, kd_26, kd_27, kd_28, kd_29, kd_30, kd_31, kd_32, kd_33, kd_34, kd_35, kd_36, kd_37, kd_38, kd_39, ln_13, ln_14, ln_15, ln_16, ln_17, ln_18, ln_19, ln_20, ln_21, ln_22, ln_23, ln_24, ln_25, ln_26, ln_27, ln_28, ln_29, ln_30, ln_31, ln_32, ln_33, ln_34, ln_35, ln_36, ln_37, ln_38, ln_39, vqTokens_isDigit_17, vqTokens_isDigit_16, vqTokens_isDigit_12, vqTokens_isDigit_6, vqTokens_isDigit_0]
      rw [if_neg c2]
      exact hK
theorem sp_Tokens_isLetter {f : Nat → Int32} {i : Nat} (h : CTp g T f) (hi : i < T) (hK : K (some (.int (b2i (isLt (g i))))) E R I J) : CL yTokens_isLetter cTokens_isLetter 1 (some .boolean) (d + 1) 0 0 [.int (f i)] E R I J K := by
  have l := h.lt (c := 97) hi (by decide)
  have u := h.gt (c := 122) hi (by decide)
  unfold isLt at hK
  rw [← lit 97] at l
  rw [← lit 122] at u
  apply eTokens_isLetter (Nat.le_of_ble_eq_true rfl)
  simp only [ev_iadd, ev_isub, ev_imul, ev_iand, ev_ishr, ev_iushr, ev_idiv, ev_irem, ev_ladd, ev_lsub, ev_lmul, ev_ldiv, ev_lrem, ev_lcmp, ev_ineg, ev_i2l, ev_i2b, ev_i2c, ev_l2i, ev_pop, ev_ci, ev_cl, ev_null, ev_cs, ev_gcs, ev_fmt, ev_ild, ev_ild_int, ev_lld, ev_lld_long, ev_ald, ev_ald_ref, ev_ald_null, ev_inc, ev_inc_int, ev_ist, ev_lst, ev_ast, ev_ast_null, ev_dup, ev_dup2, ev_if_eq, ev_if_ne, ev_if_lt, ev_if_ge, ev_if_gt, ev_if_le, ev_ic_eq, ev_ic_ne, ev_ic_lt, ev_ic_ge, ev_ic_gt, ev_ic_le, ev_ifnull_n, ev_ifnull_r, ev_ifnonnull_n, ev_ifnonnull_r, ev_sw, ev_geti, ev_getr, ev_puti, ev_putz, ev_putr, ev_iald, ev_bald, ev_zald, ev_lald, ev_aald, ev_alen, ev_iast, ev_bast, ev_zast, ev_last, ev_aast, ev_iret, ev_zret, ev_lret, ev_aret, ev_aret_n, ev_vret, ev_nret, ev_obj, ev_call, ev_callA, ev_callT, ev_call_s, ev_callA_s, ev_callT_s, ev_new, ev_newi, ev_newl, ev_newq, ev_acpy, ev_acpl, ev_sval, ev_scod, ev_sal, ev_sbl, ev_dead, lv_args, lk, st1, st2, ins, sa, rcv, swp_nil, swp_cons, Value.category, Option.toList_some, Option.toList_none, List.nil_append, List.cons_append, List.filter_cons, List.filter_nil, List.length_cons, List.length_nil, Bool.not_true, Bool.not_false, Bool.and_true, Bool.true_and, Bool.false_and, Bool.and_false, Nat.reduceBEq, Nat.reduceAdd, Nat.reduceSub, Nat.reduceMul, Nat.reduceEqDiff, Nat.reduceLT, Nat.reduceLeDiff, reduceIte, if_true, if_false, ite_true, ite_false, true_and, and_true, true_or, or_true, false_or, or_false, Nat.zero_le, Nat.le_refl, not_false_eq_true, not_true_eq_false, Bool.false_eq_true, beq_self_eq_true, Nat.add_one_ne_zero, eq_self_iff_true, Nat.zero_add, i1_0, i0_1, aref_, anull_, kd_0, kd_1, kd_2, kd_3, kd_4, kd_5, kd_6, kd_7, kd_8, kd_9, kd_10, kd_11, kd_12, kd_13, kd_14, kd_15, kd_16, kd_17, kd_18, kd_19, kd_20, kd_21, kd_22, kd_23, kd_24, kd_25, kd_26, kd_27, kd_28, kd_29, kd_30, kd_31, kd_32, kd_33, kd_34, kd_35, kd_36, kd_37, kd_38, kd_39, ln_13, ln_14, ln_15, ln_16, ln_17, ln_18, ln_19, ln_20, ln_21, ln_22, ln_23, ln_24, ln_25, ln_26, ln_27, ln_28, ln_29, ln_30, ln_31, ln_32, ln_33, ln_34, ln_35, ln_36, ln_37, ln_38, ln_39, vqTokens_isLetter_17, vqTokens_isLetter_16, vqTokens_isLetter_12, vqTokens_isLetter_6, vqTokens_isLetter_0]
  by_cases c1 : f i < 97
  · have := l.mp c1
    have hd : (decide (97 ≤ g i) && decide (g i ≤ 122)) = false := by
      rcases this with z | z
      · rw [decide_eq_false (show ¬ 97 ≤ g i by omega)]; rfl
      · rw [decide_eq_false (show ¬ g i ≤ 122 by omega), Bool.and_false]
    rw [hd] at hK
    rw [if_pos c1]
    exact hK
  · have n1 := mt l.mpr c1
    rw [if_neg c1]
    by_cases c2 : 122 < f i
    · have := u.mp c2
      rw [decide_eq_false (show ¬ g i ≤ 122 by omega), Bool.and_false] at hK
      try simp only [ev_iadd, ev_isub, ev_imul, ev_iand, ev_ishr, ev_iushr, ev_idiv, ev_irem, ev_ladd, ev_lsub, ev_lmul, ev_ldiv, ev_lrem, ev_lcmp, ev_ineg, ev_i2l, ev_i2b, ev_i2c, ev_l2i, ev_pop, ev_ci, ev_cl, ev_null, ev_cs, ev_gcs, ev_fmt, ev_ild, ev_ild_int, ev_lld, ev_lld_long, ev_ald, ev_ald_ref, ev_ald_null, ev_inc, ev_inc_int, ev_ist, ev_lst, ev_ast, ev_ast_null, ev_dup, ev_dup2, ev_if_eq, ev_if_ne, ev_if_lt, ev_if_ge, ev_if_gt, ev_if_le, ev_ic_eq, ev_ic_ne, ev_ic_lt, ev_ic_ge, ev_ic_gt, ev_ic_le, ev_ifnull_n, ev_ifnull_r, ev_ifnonnull_n, ev_ifnonnull_r, ev_sw, ev_geti, ev_getr, ev_puti, ev_putz, ev_putr, ev_iald, ev_bald, ev_zald, ev_lald, ev_aald, ev_alen, ev_iast, ev_bast, ev_zast, ev_last, ev_aast, ev_iret, ev_zret, ev_lret, ev_aret, ev_aret_n, ev_vret, ev_nret, ev_obj, ev_call, ev_callA, ev_callT, ev_call_s, ev_callA_s, ev_callT_s, ev_new, ev_newi, ev_newl, ev_newq, ev_acpy, ev_acpl, ev_sval, ev_scod, ev_sal, ev_sbl, ev_dead, lv_args, lk, st1, st2, ins, sa, rcv, swp_nil, swp_cons, Value.category, Option.toList_some, Option.toList_none, List.nil_append, List.cons_append, List.filter_cons, List.filter_nil, List.length_cons, List.length_nil, Bool.not_true, Bool.not_false, Bool.and_true, Bool.true_and, Bool.false_and, Bool.and_false, Nat.reduceBEq, Nat.reduceAdd, Nat.reduceSub, Nat.reduceMul, Nat.reduceEqDiff, Nat.reduceLT, Nat.reduceLeDiff, reduceIte, if_true, if_false, ite_true, ite_false, true_and, and_true, true_or, or_true, false_or, or_false, Nat.zero_le, Nat.le_refl, not_false_eq_true, not_true_eq_false, Bool.false_eq_true, beq_self_eq_true, Nat.add_one_ne_zero, eq_self_iff_true, Nat.zero_add, i1_0, i0_1, aref_, anull_, kd_0, kd_1, kd_2, kd_3, kd_4, kd_5, kd_6, kd_7, kd_8, kd_9, kd_10, kd_11, kd_12, kd_13, kd_14, kd_15, kd_16, kd_17, kd_18, kd_19, kd_20, kd_21, kd_22, kd_23, kd_24, kd_25, kd_26, kd_27, kd_28, kd_29, kd_30, kd_31, kd_32, kd_33, kd_34, kd_35, kd_36, kd_37, kd_38, kd_39, ln_13, ln_14, ln_15, ln_16, ln_17, ln_18, ln_19, ln_20, ln_21, ln_22, ln_23, ln_24, ln_25, ln_26, ln_27, ln_28, ln_29, ln_30, ln_31, ln_32, ln_33, ln_34, ln_35, ln_36, ln_37, ln_38, ln_39, vqTokens_isLetter_17, vqTokens_isLetter_16, vqTokens_isLetter_12, vqTokens_isLetter_6, vqTokens_isLetter_0]
      rw [if_pos c2]
      exact hK
    · have n2 := mt u.mpr c2
      rw [decide_eq_true (show 97 ≤ g i by omega), decide_eq_true (show g i ≤ 122 by omega)] at hK
      try simp only [ev_iadd, ev_isub, ev_imul, ev_iand, ev_ishr, ev_iushr, ev_idiv, ev_irem, ev_ladd, ev_lsub, ev_lmul, ev_ldiv, ev_lrem, ev_lcmp, ev_ineg, ev_i2l, ev_i2b, ev_i2c, ev_l2i, ev_pop, ev_ci, ev_cl, ev_null, ev_cs, ev_gcs, ev_fmt, ev_ild, ev_ild_int, ev_lld, ev_lld_long, ev_ald, ev_ald_ref, ev_ald_null, ev_inc, ev_inc_int, ev_ist, ev_lst, ev_ast, ev_ast_null, ev_dup, ev_dup2, ev_if_eq, ev_if_ne, ev_if_lt, ev_if_ge, ev_if_gt, ev_if_le, ev_ic_eq, ev_ic_ne, ev_ic_lt, ev_ic_ge, ev_ic_gt, ev_ic_le, ev_ifnull_n, ev_ifnull_r, ev_ifnonnull_n, ev_ifnonnull_r, ev_sw, ev_geti, ev_getr, ev_puti, ev_putz, ev_putr, ev_iald, ev_bald, ev_zald, ev_lald, ev_aald, ev_alen, ev_iast, ev_bast, ev_zast, ev_last, ev_aast, ev_iret, ev_zret, ev_lret, ev_aret, ev_aret_n, ev_vret, ev_nret, ev_obj, ev_call, ev_callA, ev_callT, ev_call_s, ev_callA_s, ev_callT_s, ev_new, ev_newi, ev_newl, ev_newq, ev_acpy, ev_acpl, ev_sval, ev_scod, ev_sal, ev_sbl, ev_dead, lv_args, lk, st1, st2, ins, sa, rcv, swp_nil, swp_cons, Value.category, Option.toList_some, Option.toList_none, List.nil_append, List.cons_append, List.filter_cons, List.filter_nil, List.length_cons, List.length_nil, Bool.not_true, Bool.not_false, Bool.and_true, Bool.true_and, Bool.false_and, Bool.and_false, Nat.reduceBEq, Nat.reduceAdd, Nat.reduceSub, Nat.reduceMul, Nat.reduceEqDiff, Nat.reduceLT, Nat.reduceLeDiff, reduceIte, if_true, if_false, ite_true, ite_false, true_and, and_true, true_or, or_true, false_or, or_false, Nat.zero_le, Nat.le_refl, not_false_eq_true, not_true_eq_false, Bool.false_eq_true, beq_self_eq_true, Nat.add_one_ne_zero, eq_self_iff_true, Nat.zero_add, i1_0, i0_1, aref_, anull_, kd_0, kd_1, kd_2, kd_3, kd_4, kd_5, kd_6, kd_7, kd_8, kd_9, kd_10, kd_11, kd_12, kd_13, kd_14, kd_15, kd_16, kd_17, kd_18, kd_19, kd_20, kd_21, kd_22, kd_23, kd_24, kd_25, kd_26, kd_27, kd_28, kd_29, kd_30, kd_31, kd_32, kd_33, kd_34, kd_35, kd_36, kd_37, kd_38, kd_39, ln_13, ln_14, ln_15, ln_16, ln_17, ln_18, ln_19, ln_20, ln_21, ln_22, ln_23, ln_24, ln_25, ln_26, ln_27, ln_28, ln_29, ln_30, ln_31, ln_32, ln_33, ln_34, ln_35, ln_36, ln_37, ln_38, ln_39, vqTokens_isLetter_17, vqTokens_isLetter_16, vqTokens_isLetter_12, vqTokens_isLetter_6, vqTokens_isLetter_0]
      rw [if_neg c2]
      exact hK
end CT

/-! the law's start -/
section DT
variable {nm : String} {L : Nat} {xs : Nat → Int32}
def E0 (L : Nat) : Nat → Prop := fun c => c = SCr L
def I0 (L : Nat) (xs : Nat → Int32) : Nat → Nat → Int32 := fun c k => if c = SCr L then xs k else 0
theorem law_begin (hL : L ≤ 3072) : gL_law nm 0 [(0, .ref (SCr L))] [] (E0 L) (fun _ _ => .null) (I0 L xs) (fun _ _ => 0) 0 0 := by
  have nS : ∀ c, c < 6400000 → c ≠ SCr L := fun c hc => by unfold SCr rc; omega
  have v11 : vcN 11 = 3 := rfl
  have v12 : vcN 12 = 13 := rfl
  have x0 : ∀ c, InX 0 c → c < 57600 := fun c hc => by unfold InX at hc; omega
  have xr : ∀ c, RdS c → 57600 ≤ c ∧ c < 57664 := fun c hc => by
    rcases hc with rfl | rfl | rfl | hc
    · decide
    · decide
    · decide
    · rcases hc with rfl | ⟨r, r1, r2, rfl⟩
      · decide
      · unfold rc; omega
  have xm : ∀ c, MoS c → 57600 ≤ c ∧ c < 57664 := fun c hc => by
    rcases hc with rfl | rfl | rfl | rfl | rfl <;> decide
  apply eL_law
  simp only [vqL_law_0, ev_iadd, ev_isub, ev_imul, ev_iand, ev_ishr, ev_iushr, ev_idiv, ev_irem, ev_ladd, ev_lsub, ev_lmul, ev_ldiv, ev_lrem, ev_lcmp, ev_ineg, ev_i2l, ev_i2b, ev_i2c, ev_l2i, ev_pop, ev_ci, ev_cl, ev_null, ev_cs, ev_gcs, ev_fmt, ev_ild, ev_ild_int, ev_lld, ev_lld_long, ev_ald, ev_ald_ref, ev_ald_null, ev_inc, ev_inc_int, ev_ist, ev_lst, ev_ast, ev_ast_null, ev_dup, ev_dup2, ev_if_eq, ev_if_ne, ev_if_lt, ev_if_ge, ev_if_gt, ev_if_le, ev_ic_eq, ev_ic_ne, ev_ic_lt, ev_ic_ge, ev_ic_gt, ev_ic_le, ev_ifnull_n, ev_ifnull_r, ev_ifnonnull_n, ev_ifnonnull_r, ev_sw, ev_geti, ev_getr, ev_puti, ev_putz, ev_putr, ev_iald, ev_bald, ev_zald, ev_lald, ev_aald, ev_alen, ev_iast, ev_bast, ev_zast, ev_last, ev_aast, ev_iret, ev_zret, ev_lret, ev_aret, ev_aret_n, ev_vret, ev_nret, ev_obj, ev_call, ev_callA, ev_callT, ev_call_s, ev_callA_s, ev_callT_s, ev_new, ev_newi, ev_newl, ev_newq, ev_acpy, ev_acpl, ev_sval, ev_scod, ev_sal, ev_sbl, ev_dead, lv_args, lk, st1, st2, ins, sa, rcv, swp_nil, swp_cons, Value.category, Option.toList_some, Option.toList_none, List.nil_append, List.cons_append, List.filter_cons, List.filter_nil, List.length_cons, List.length_nil, Bool.not_true, Bool.not_false, Bool.and_true, Bool.true_and, Bool.false_and, Bool.and_false, Nat.reduceBEq, Nat.reduceAdd, Nat.reduceSub, Nat.reduceMul, Nat.reduceEqDiff, Nat.reduceLT, Nat.reduceLeDiff, reduceIte, if_true, if_false, ite_true, ite_false, true_and, and_true, true_or, or_true, false_or, or_false, Nat.zero_le, Nat.le_refl, not_false_eq_true, not_true_eq_false, Bool.false_eq_true, beq_self_eq_true, Nat.add_one_ne_zero, eq_self_iff_true, Nat.zero_add, i1_0, i0_1, aref_, anull_, kd_0, kd_1, kd_2, kd_3, kd_4, kd_5, kd_6, kd_7, kd_8, kd_9, kd_10, kd_11, kd_12, kd_13, kd_14, kd_15, kd_16, kd_17, kd_18, kd_19, kd_20, kd_21, kd_22, kd_23, kd_24, kd_25, kd_26, kd_27, kd_28, kd_29, kd_30, kd_31, kd_32, kd_33, kd_34, kd_35, kd_36, kd_37, kd_38, kd_39, ln_13, ln_14, ln_15, ln_16, ln_17, ln_18, ln_19, ln_20, ln_21, ln_22, ln_23, ln_24, ln_25, ln_26, ln_27, ln_28, ln_29, ln_30, ln_31, ln_32, ln_33, ln_34, ln_35, ln_36, ln_37, ln_38, ln_39]
  refine ⟨VC, kd_11 _, nS _ (by decide), by rw [v11]; decide, ?_⟩
  simp only [ev_iadd, ev_isub, ev_imul, ev_iand, ev_ishr, ev_iushr, ev_idiv, ev_irem, ev_ladd, ev_lsub, ev_lmul, ev_ldiv, ev_lrem, ev_lcmp, ev_ineg, ev_i2l, ev_i2b, ev_i2c, ev_l2i, ev_pop, ev_ci, ev_cl, ev_null, ev_cs, ev_gcs, ev_fmt, ev_ild, ev_ild_int, ev_lld, ev_lld_long, ev_ald, ev_ald_ref, ev_ald_null, ev_inc, ev_inc_int, ev_ist, ev_lst, ev_ast, ev_ast_null, ev_dup, ev_dup2, ev_if_eq, ev_if_ne, ev_if_lt, ev_if_ge, ev_if_gt, ev_if_le, ev_ic_eq, ev_ic_ne, ev_ic_lt, ev_ic_ge, ev_ic_gt, ev_ic_le, ev_ifnull_n, ev_ifnull_r, ev_ifnonnull_n, ev_ifnonnull_r, ev_sw, ev_geti, ev_getr, ev_puti, ev_putz, ev_putr, ev_iald, ev_bald, ev_zald, ev_lald, ev_aald, ev_alen, ev_iast, ev_bast, ev_zast, ev_last, ev_aast, ev_iret, ev_zret, ev_lret, ev_aret, ev_aret_n, ev_vret, ev_nret, ev_obj, ev_call, ev_callA, ev_callT, ev_call_s, ev_callA_s, ev_callT_s, ev_new, ev_newi, ev_newl, ev_newq, ev_acpy, ev_acpl, ev_sval, ev_scod, ev_sal, ev_sbl, ev_dead, lv_args, lk, st1, st2, ins, sa, rcv, swp_nil, swp_cons, Value.category, Option.toList_some, Option.toList_none, List.nil_append, List.cons_append, List.filter_cons, List.filter_nil, List.length_cons, List.length_nil, Bool.not_true, Bool.not_false, Bool.and_true, Bool.true_and, Bool.false_and, Bool.and_false, Nat.reduceBEq, Nat.reduceAdd, Nat.reduceSub, Nat.reduceMul, Nat.reduceEqDiff, Nat.reduceLT, Nat.reduceLeDiff, reduceIte, if_true, if_false, ite_true, ite_false, true_and, and_true, true_or, or_true, false_or, or_false, Nat.zero_le, Nat.le_refl, not_false_eq_true, not_true_eq_false, Bool.false_eq_true, beq_self_eq_true, Nat.add_one_ne_zero, eq_self_iff_true, Nat.zero_add, i1_0, i0_1, aref_, anull_, kd_0, kd_1, kd_2, kd_3, kd_4, kd_5, kd_6, kd_7, kd_8, kd_9, kd_10, kd_11, kd_12, kd_13, kd_14, kd_15, kd_16, kd_17, kd_18, kd_19, kd_20, kd_21, kd_22, kd_23, kd_24, kd_25, kd_26, kd_27, kd_28, kd_29, kd_30, kd_31, kd_32, kd_33, kd_34, kd_35, kd_36, kd_37, kd_38, kd_39, ln_13, ln_14, ln_15, ln_16, ln_17, ln_18, ln_19, ln_20, ln_21, ln_22, ln_23, ln_24, ln_25, ln_26, ln_27, ln_28, ln_29, ln_30, ln_31, ln_32, ln_33, ln_34, ln_35, ln_36, ln_37, ln_38, ln_39]
  refine ⟨113, 2544, by rw [v11]; decide, sp_VC_new (fun c hc z => ?_) (fun E1 R1 I1 J1 n1 w1 w2 w3 w4 w5 w6 w7 w8 w9 => ?_)⟩
  · have h1 : c < 6400000 := by
      rcases hc with hc | hc | hc
      · have := x0 c hc; omega
      · subst hc; decide
      · have := xr c hc; omega
    rcases z with z | z
    · exact nS c h1 z
    · subst z
      rcases hc with hc | hc | hc
      · have := x0 _ hc; exact absurd this (by decide)
      · exact absurd hc (by decide)
      · rcases hc with hc | hc | hc | hc
        · exact absurd hc (by decide)
        · exact absurd hc (by decide)
        · exact absurd hc (by decide)
        · rcases hc with hc | ⟨r, r1, r2, hc⟩
          · exact absurd hc (by decide)
          · unfold VC rc at hc; omega
  have mm : ∀ c, MoS c → (c % 64 = 12 ∨ (36 ≤ c % 64 ∧ c % 64 ≤ 39)) := fun c hc => by
    rcases hc with rfl | rfl | rfl | rfl | rfl <;> decide
  have rr : ∀ c, RdS c → (c % 64 = 6 ∨ c % 64 = 10 ∨ c % 64 = 14 ∨ c % 64 = 3 ∨ (19 ≤ c % 64 ∧ c % 64 ≤ 25)) := fun c hc => by
    rcases hc with rfl | rfl | rfl | hc
    · decide
    · decide
    · decide
    · rcases hc with rfl | ⟨r, r1, r2, rfl⟩
      · decide
      · unfold rc; omega
  have e1 : ∀ c, E1 c → c = SCr L ∨ InX 0 c ∨ (57600 ≤ c ∧ c < 57664 ∧ c % 64 ≠ 12 ∧ ¬ (36 ≤ c % 64 ∧ c % 64 ≤ 39)) := fun c z => by
    rcases n1.e c z with (z | z) | (z | z | z | z)
    · exact Or.inl z
    · subst z; exact Or.inr (Or.inr (by decide))
    · exact Or.inr (Or.inl z)
    · subst z; exact Or.inr (Or.inr (by decide))
    · subst z; exact Or.inr (Or.inr (by decide))
    · have := xr c z
      have := rr c z
      exact Or.inr (Or.inr ⟨by omega, by omega, by omega, by omega⟩)
  have noE : ∀ c, MoS c → ¬ E1 c := fun c hm z => by
    have h1 := xm c hm
    have h2 := mm c hm
    rcases e1 c z with z | z | z
    · exact nS c (by omega) z
    · have := x0 c z; omega
    · omega
  simp only [ev_iadd, ev_isub, ev_imul, ev_iand, ev_ishr, ev_iushr, ev_idiv, ev_irem, ev_ladd, ev_lsub, ev_lmul, ev_ldiv, ev_lrem, ev_lcmp, ev_ineg, ev_i2l, ev_i2b, ev_i2c, ev_l2i, ev_pop, ev_ci, ev_cl, ev_null, ev_cs, ev_gcs, ev_fmt, ev_ild, ev_ild_int, ev_lld, ev_lld_long, ev_ald, ev_ald_ref, ev_ald_null, ev_inc, ev_inc_int, ev_ist, ev_lst, ev_ast, ev_ast_null, ev_dup, ev_dup2, ev_if_eq, ev_if_ne, ev_if_lt, ev_if_ge, ev_if_gt, ev_if_le, ev_ic_eq, ev_ic_ne, ev_ic_lt, ev_ic_ge, ev_ic_gt, ev_ic_le, ev_ifnull_n, ev_ifnull_r, ev_ifnonnull_n, ev_ifnonnull_r, ev_sw, ev_geti, ev_getr, ev_puti, ev_putz, ev_putr, ev_iald, ev_bald, ev_zald, ev_lald, ev_aald, ev_alen, ev_iast, ev_bast, ev_zast, ev_last, ev_aast, ev_iret, ev_zret, ev_lret, ev_aret, ev_aret_n, ev_vret, ev_nret, ev_obj, ev_call, ev_callA, ev_callT, ev_call_s, ev_callA_s, ev_callT_s, ev_new, ev_newi, ev_newl, ev_newq, ev_acpy, ev_acpl, ev_sval, ev_scod, ev_sal, ev_sbl, ev_dead, lv_args, lk, st1, st2, ins, sa, rcv, swp_nil, swp_cons, Value.category, Option.toList_some, Option.toList_none, List.nil_append, List.cons_append, List.filter_cons, List.filter_nil, List.length_cons, List.length_nil, Bool.not_true, Bool.not_false, Bool.and_true, Bool.true_and, Bool.false_and, Bool.and_false, Nat.reduceBEq, Nat.reduceAdd, Nat.reduceSub, Nat.reduceMul, Nat.reduceEqDiff, Nat.reduceLT, Nat.reduceLeDiff, reduceIte, if_true, if_false, ite_true, ite_false, true_and, and_true, true_or, or_true, false_or, or_false, Nat.zero_le, Nat.le_refl, not_false_eq_true, not_true_eq_false, Bool.false_eq_true, beq_self_eq_true, Nat.add_one_ne_zero, eq_self_iff_true, Nat.zero_add, i1_0, i0_1, aref_, anull_, kd_0, kd_1, kd_2, kd_3, kd_4, kd_5, kd_6, kd_7, kd_8, kd_9, kd_10, kd_11, kd_12, kd_13, kd_14, kd_15, kd_16, kd_17, kd_18, kd_19, kd_20, kd_21, kd_22, kd_23, kd_24, kd_25, kd_26, kd_27, kd_28, kd_29, kd_30, kd_31, kd_32, kd_33, kd_34, kd_35, kd_36, kd_37, kd_38, kd_39, ln_13, ln_14, ln_15, ln_16, ln_17, ln_18, ln_19, ln_20, ln_21, ln_22, ln_23, ln_24, ln_25, ln_26, ln_27, ln_28, ln_29, ln_30, ln_31, ln_32, ln_33, ln_34, ln_35, ln_36, ln_37, ln_38, ln_39]
  refine ⟨MO, kd_12 _, noE MO (Or.inl rfl), by rw [v11, v12]; decide, kd_12 _, 4, 70883, by rw [v11, v12]; decide, sp_Mo_new (fun c hm hn z => z.elim (noE c hm) hn) (fun E2 R2 I2 J2 n2 u1 u2 u3 u4 => ?_)⟩
  simp only [ev_iadd, ev_isub, ev_imul, ev_iand, ev_ishr, ev_iushr, ev_idiv, ev_irem, ev_ladd, ev_lsub, ev_lmul, ev_ldiv, ev_lrem, ev_lcmp, ev_ineg, ev_i2l, ev_i2b, ev_i2c, ev_l2i, ev_pop, ev_ci, ev_cl, ev_null, ev_cs, ev_gcs, ev_fmt, ev_ild, ev_ild_int, ev_lld, ev_lld_long, ev_ald, ev_ald_ref, ev_ald_null, ev_inc, ev_inc_int, ev_ist, ev_lst, ev_ast, ev_ast_null, ev_dup, ev_dup2, ev_if_eq, ev_if_ne, ev_if_lt, ev_if_ge, ev_if_gt, ev_if_le, ev_ic_eq, ev_ic_ne, ev_ic_lt, ev_ic_ge, ev_ic_gt, ev_ic_le, ev_ifnull_n, ev_ifnull_r, ev_ifnonnull_n, ev_ifnonnull_r, ev_sw, ev_geti, ev_getr, ev_puti, ev_putz, ev_putr, ev_iald, ev_bald, ev_zald, ev_lald, ev_aald, ev_alen, ev_iast, ev_bast, ev_zast, ev_last, ev_aast, ev_iret, ev_zret, ev_lret, ev_aret, ev_aret_n, ev_vret, ev_nret, ev_obj, ev_call, ev_callA, ev_callT, ev_call_s, ev_callA_s, ev_callT_s, ev_new, ev_newi, ev_newl, ev_newq, ev_acpy, ev_acpl, ev_sval, ev_scod, ev_sal, ev_sbl, ev_dead, lv_args, lk, st1, st2, ins, sa, rcv, swp_nil, swp_cons, Value.category, Option.toList_some, Option.toList_none, List.nil_append, List.cons_append, List.filter_cons, List.filter_nil, List.length_cons, List.length_nil, Bool.not_true, Bool.not_false, Bool.and_true, Bool.true_and, Bool.false_and, Bool.and_false, Nat.reduceBEq, Nat.reduceAdd, Nat.reduceSub, Nat.reduceMul, Nat.reduceEqDiff, Nat.reduceLT, Nat.reduceLeDiff, reduceIte, if_true, if_false, ite_true, ite_false, true_and, and_true, true_or, or_true, false_or, or_false, Nat.zero_le, Nat.le_refl, not_false_eq_true, not_true_eq_false, Bool.false_eq_true, beq_self_eq_true, Nat.add_one_ne_zero, eq_self_iff_true, Nat.zero_add, i1_0, i0_1, aref_, anull_, kd_0, kd_1, kd_2, kd_3, kd_4, kd_5, kd_6, kd_7, kd_8, kd_9, kd_10, kd_11, kd_12, kd_13, kd_14, kd_15, kd_16, kd_17, kd_18, kd_19, kd_20, kd_21, kd_22, kd_23, kd_24, kd_25, kd_26, kd_27, kd_28, kd_29, kd_30, kd_31, kd_32, kd_33, kd_34, kd_35, kd_36, kd_37, kd_38, kd_39, ln_13, ln_14, ln_15, ln_16, ln_17, ln_18, ln_19, ln_20, ln_21, ln_22, ln_23, ln_24, ln_25, ln_26, ln_27, ln_28, ln_29, ln_30, ln_31, ln_32, ln_33, ln_34, ln_35, ln_36, ln_37, ln_38, ln_39]
  have noM : ∀ c, (c < 57600 ∨ (c % 64 ≠ 12 ∧ ¬ (36 ≤ c % 64 ∧ c % 64 ≤ 39)) ∨ 57664 ≤ c) → ¬ MoS c := fun c hc hm => by
    have h1 := xm c hm
    have h2 := mm c hm
    omega
  have rE : ∀ c, ¬ MoS c → R2 c = R1 c := fun c hc => by rw [n2.r c hc, ua_ne (fun z => hc (Or.inl z))]
  have iE : ∀ c, ¬ MoS c → I2 c = I1 c := fun c hc => by rw [n2.i c hc, ua_ne (fun z => hc (Or.inl z))]
  have jE : ∀ c, ¬ MoS c → J2 c = J1 c := fun c hc => n2.j c hc
  have z0 : ∀ c, InX 0 c → ¬ MoS c := fun c hc => noM c (Or.inl (x0 c hc))
  have zS : ¬ MoS (SCr L) := noM _ (Or.inr (Or.inr (by unfold SCr rc; omega)))
  have p10 : ps R2 0 10 = 10 := ps_new (fun i => by rw [rE _ (noM _ (by decide))]; exact w7 i) 10
  have e35 : R2 (rc 35 900) = R1 (rc 35 900) := rE _ (noM _ (by decide))
  have pk6 : ∀ k, pk R2 k = 61 := fun k => by unfold pk; rw [e35, w2 k]
  have pp : pot R2 = 193 := by unfold pot; rw [p10, pk6, pk6, pk6]
  refine law_loop (xs := xs) hL L 0 E2 R2 I2 J2 _ _ (by omega) (by omega) (LI.mk u1 ?_ ?_ ?_ ?_ ?_ ⟨0, 0, ?_, ?_⟩ ?_ (fun k hk => Or.inl ⟨?_, ?_, fun c hc z => ?_⟩) (fun i hi => ?_) ?_ ?_)
  · unfold VcR; rw [rE VC (noM _ (by decide))]; exact w1
  · exact w6.fr (fun c hc => rE c (z0 c hc))
  · rw [rE RE (noM _ (by decide))]; exact w4
  · rw [rE RE (noM _ (by decide))]; exact w3
  · unfold OrR; rw [rE (rc 3 900) (noM _ (by decide))]; exact w5
  · rw [u2, u3]
    exact w9.fr (by decide) (fun c hc => rE c (z0 c hc)) (fun c hc => iE c (z0 c hc)) (fun c hc => jE c (z0 c hc))
  · rw [u2]; exact inv0
  · refine w8.fr (fun c hc => rE c (z0 c hc)) (fun c hc z => ?_)
    rcases n2.e c z with (z | z) | z
    · exact z
    · exact absurd (Or.inl z) (z0 c hc)
    · exact absurd z (z0 c hc)
  · rw [e35]; exact w2 k
  · rw [u4]
  · have hc' : 6400 ≤ c ∧ c < 57600 := by unfold InX at hc; omega
    have q : ¬ MoS c := noM c (Or.inl hc'.2)
    rcases n2.e c z with (z | z) | z
    · rcases e1 c z with z | z | z
      · exact nS c (by omega) z
      · unfold InX at z; omega
      · omega
    · exact q (Or.inl z)
    · exact q z
  · have hn : ¬ (InX 0 (SCr L) ∨ SCr L = VC ∨ SCr L = rc 35 900 ∨ RdS (SCr L)) := by
      rintro (z | z | z | z)
      · have := x0 _ z; unfold SCr rc at this; omega
      · unfold SCr VC rc at z; omega
      · unfold SCr rc at z; omega
      · have := xr _ z; unfold SCr rc at this; omega
    rw [iE _ zS, n1.i _ hn, ua_ne (fun z => hn (Or.inr (Or.inl z)))]
    exact if_pos rfl
  · rw [pp]; decide
  · rw [pp, v11, v12]; decide
end DT

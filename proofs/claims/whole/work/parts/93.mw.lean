/-! the reference reads a line: its act -/
section MW
variable {d : Nat} {K : Ps} {E : Nat → Prop} {R : Nat → Nat → Value} {I : Nat → Nat → Int32} {J : Nat → Nat → Int64} {g : Nat → Nat} {T : Nat} {F F' A A0 D : Nat → Int32} {p ln k : Nat} {s s0 : Nat → Nat}
theorem vlp_lt (h : cdp g T p = 2) : vlp g T p < 100000 := by
  unfold cdp cdw at h
  split at h
  · omega
  · next c1 =>
    split at h
    · next c2 =>
      split at h
      · next c3 =>
        unfold vlp
        have hv := vd_lt (g := g) (w := atp g T p) (enD g T (atp g T p) - atp g T p) (fun j hj => by
          have := rn_in (P := fun i => isDg (g i)) (j := atp g T p + j) (T - atp g T p) (atp g T p) (by omega) (by unfold enD at hj; omega)
          exact this)
        have h4 : 10 ^ (enD g T (atp g T p) - atp g T p) ≤ 10 ^ 5 := Nat.pow_le_pow_right (by decide) c3
        have h5 : 10 ^ 5 = 100000 := by decide
        omega
      · omega
    · split at h
      · have := cw_rg (wl g (atp g T p) (enL g T (atp g T p) - atp g T p)); omega
      · have := sgc_rg (g (atp g T p)); omega
/-- behind the number -/
theorem ex_Mo_aLine133g {A1 : Nat → Int32} {v : Nat} (hR : MoR R) (hm : MTp g T A0) (m : MOk g T A0 ln s0 p F A1 D) (h1 : s0 1 = ln + 1) (h2 : s0 2 = k) (hq : s0 8 = 0 → ln < 16 ∧ s0 2 ≤ 4) (h7 : s0 7 = v) (hk : k < 1000) (hln : ln < 1000) {p0 : Nat} {z5 : Value}
    (hres : res g T s p0 = res g T (un s0 0 9) p) (hp : p0 < p)
    (hW : ∀ F' A' D' x' ln', ln' < 1001 → MWr A0 ln' x' F' A' → RW g T s p0 x' → K none E R (St I F' A' D') J)
    (hK : ∀ s' p' F' A' D', MOk g T A0 (ln + 1) s' p' F' A' D' → s' 0 = 0 → s' 1 = ln + 1 → res g T s p0 = res g T s' p' → p0 < p' → K none E R (St I F' A' D') J) :
    qMo_aLine_164 (d + 6) 0 0 (gMo_aLine (d + 6) 0 0 K) K [(0, .ref MO), (1, .int (nI k)), (2, .int (nI (s0 5 + 1))), (3, .int (nI (s0 6))), (4, .int (nI v)), (5, z5)] [] E R (St I F A1 D) J 0 0 := by
  have m' := m.unr (k := 0) (x := 9) (by decide) (by decide) (by decide) (by decide) (by decide) (by decide)
  have key := ex_Mo_aLine164 (d := d) (K := K) (E := E) (J := J) (I := I) (k := k) (tl := [(5, z5)]) hR hm m' un_eq (by rw [un_ne (by decide)]; exact h1) (by rw [un_ne (by decide)]; exact h2) (fun z => by rw [un_ne (by decide)] at z; rw [un_ne (by decide)]; exact hq z) hk hln (fun F' A' D' x' ln' l' w1 w2 => hW F' A' D' x' ln' l' w1 ⟨(congrFun hres 8).trans w2.1, (congrFun hres 9).trans w2.2⟩) (fun s' p' F' A' D' m1 m2 m3 m4 m5 => hK s' p' F' A' D' m1 m2 m3 (hres.trans m4) (by omega))
  rw [un_ne (show 5 ≠ 0 by decide), un_ne (show 6 ≠ 0 by decide), un_ne (show 7 ≠ 0 by decide), h7] at key
  exact key
theorem ex_Mo_aLine133a (hR : MoR R) (hm : MTp g T A0) (h : MOk g T A0 ln s p F A D) (h0 : s 0 = 8) (h1 : s 1 = ln + 1) (h2 : s 2 = k) (h5 : s 5 ≤ 25) (hq : s 8 = 0 → ln < 16 ∧ s 2 ≤ 4) (hk : k < 1000) (hln : ln < 1000)
    (hW : ∀ F' A' D' x' ln', ln' < 1001 → MWr A0 ln' x' F' A' → RW g T s p x' → K none E R (St I F' A' D') J)
    (hK : ∀ s' p' F' A' D', MOk g T A0 (ln + 1) s' p' F' A' D' → s' 0 = 0 → s' 1 = ln + 1 → res g T s p = res g T s' p' → p < p' → K none E R (St I F' A' D') J) (c : cdp g T p = 2) (c25 : s 5 ≠ 24) : qMo_aLine_133 (d + 6) 0 0 (gMo_aLine (d + 6) 0 0 K) K [(0, .ref MO), (1, .int (nI k)), (2, .int (nI (s 5 + 1))), (3, .int (nI (s 6))), (4, .int 0)] [] E R (St I F A D) J 0 0 := by
  have hT := hm.1
  have hA := h.a
  have f5 := h.tk.f5
  have hw := atp_le (g := g) h.tk.le
  have hmA : MTp g T A := by rw [hA]; exact hm.as
  have hlt := nxp_lt (g := g) h.tk.le (by omega)
  have hv := vlp_lt c
  have est : stp s (cdp g T p) (vlp g T p) (atp g T p) = un (un s 7 (vlp g T p)) 0 9 := by
    rw [stp8 h0, if_pos c]
    unfold t8
    rw [if_neg (by omega)]
  have hres := res_step (g := g) (s := s) h.tk.le (by omega) (by rw [h0]; decide) (by rw [est, un_eq]; decide)
  rw [est] at hres
  have e25 : ¬ nI (s 5 + 1) = 25 := by rw [lit 25, nI_eq (by omega) (by omega)]; omega
  simp only [vqMo_aLine_133, ev_iadd, ev_isub, ev_imul, ev_iand, ev_ishr, ev_iushr, ev_idiv, ev_irem, ev_ladd, ev_lsub, ev_lmul, ev_ldiv, ev_lrem, ev_lcmp, ev_ineg, ev_i2l, ev_i2b, ev_i2c, ev_l2i, ev_pop, ev_ci, ev_cl, ev_null, ev_cs, ev_gcs, ev_fmt, ev_ild, ev_ild_int, ev_lld, ev_lld_long, ev_ald, ev_ald_ref, ev_ald_null, ev_inc, ev_inc_int, ev_ist, ev_lst, ev_ast, ev_ast_null, ev_dup, ev_dup2, ev_if_eq, ev_if_ne, ev_if_lt, ev_if_ge, ev_if_gt, ev_if_le, ev_ic_eq, ev_ic_ne, ev_ic_lt, ev_ic_ge, ev_ic_gt, ev_ic_le, ev_ifnull_n, ev_ifnull_r, ev_ifnonnull_n, ev_ifnonnull_r, ev_sw, ev_geti, ev_getr, ev_puti, ev_putz, ev_putr, ev_iald, ev_bald, ev_zald, ev_lald, ev_aald, ev_alen, ev_iast, ev_bast, ev_zast, ev_last, ev_aast, ev_iret, ev_zret, ev_lret, ev_aret, ev_aret_n, ev_vret, ev_nret, ev_obj, ev_call, ev_callA, ev_callT, ev_call_s, ev_callA_s, ev_callT_s, ev_new, ev_newi, ev_newl, ev_newq, ev_acpy, ev_acpl, ev_sval, ev_scod, ev_sal, ev_sbl, ev_dead, lv_args, lk, st1, st2, ins, sa, rcv, swp_nil, swp_cons, Value.category, Option.toList_some, Option.toList_none, List.nil_append, List.cons_append, List.filter_cons, List.filter_nil, List.length_cons, List.length_nil, Bool.not_true, Bool.not_false, Bool.and_true, Bool.true_and, Bool.false_and, Bool.and_false, Nat.reduceBEq, Nat.reduceAdd, Nat.reduceSub, Nat.reduceMul, Nat.reduceEqDiff, Nat.reduceLT, Nat.reduceLeDiff, reduceIte, if_true, if_false, ite_true, ite_false, true_and, and_true, true_or, or_true, false_or, or_false, Nat.zero_le, Nat.le_refl, not_false_eq_true, not_true_eq_false, Bool.false_eq_true, beq_self_eq_true, Nat.add_one_ne_zero, eq_self_iff_true, Nat.zero_add, i1_0, i0_1, aref_, anull_, kd_0, kd_1, kd_2, kd_3, kd_4, kd_5, kd_6, kd_7, kd_8, kd_9, kd_10, kd_11, kd_12, kd_13, kd_14, kd_15, kd_16, kd_17, kd_18, kd_19, kd_20, kd_21, kd_22, kd_23, kd_24, kd_25, kd_26, kd_27, kd_28, kd_29, kd_30, kd_31, kd_32, kd_33, kd_34, kd_35, kd_36, kd_37, kd_38, kd_39, ln_13, ln_14, ln_15, ln_16, ln_17, ln_18, ln_19, ln_20, ln_21, ln_22, ln_23, ln_24, ln_25, ln_26, ln_27, ln_28, ln_29, ln_30, ln_31, ln_32, ln_33, ln_34, ln_35, ln_36, ln_37, ln_38, ln_39, St_MO, f5]
  refine sp_Mo_numbered_t hR hmA h.tk h.f10 c (fun F1 q1 q2 q3 => ?_)
  have gg := ex_Mo_aLine133g (d := d) (K := K) (E := E) (J := J) (I := I) (z5 := .int (nI (atp g T p))) hR hm ((h.unr (k := 7) (x := vlp g T p) (by decide) (by decide) (by decide) (by decide) (by decide) (by decide)).mv q1 q2 q3) (by rw [un_ne (by decide)]; exact h1) (by rw [un_ne (by decide)]; exact h2) (fun z => by rw [un_ne (by decide)] at z; rw [un_ne (by decide)]; exact hq z) un_eq hk hln hres hlt hW hK
  rw [un_ne (show 5 ≠ 7 by decide), un_ne (show 6 ≠ 7 by decide)] at gg
  simp only [ev_iadd, ev_isub, ev_imul, ev_iand, ev_ishr, ev_iushr, ev_idiv, ev_irem, ev_ladd, ev_lsub, ev_lmul, ev_ldiv, ev_lrem, ev_lcmp, ev_ineg, ev_i2l, ev_i2b, ev_i2c, ev_l2i, ev_pop, ev_ci, ev_cl, ev_null, ev_cs, ev_gcs, ev_fmt, ev_ild, ev_ild_int, ev_lld, ev_lld_long, ev_ald, ev_ald_ref, ev_ald_null, ev_inc, ev_inc_int, ev_ist, ev_lst, ev_ast, ev_ast_null, ev_dup, ev_dup2, ev_if_eq, ev_if_ne, ev_if_lt, ev_if_ge, ev_if_gt, ev_if_le, ev_ic_eq, ev_ic_ne, ev_ic_lt, ev_ic_ge, ev_ic_gt, ev_ic_le, ev_ifnull_n, ev_ifnull_r, ev_ifnonnull_n, ev_ifnonnull_r, ev_sw, ev_geti, ev_getr, ev_puti, ev_putz, ev_putr, ev_iald, ev_bald, ev_zald, ev_lald, ev_aald, ev_alen, ev_iast, ev_bast, ev_zast, ev_last, ev_aast, ev_iret, ev_zret, ev_lret, ev_aret, ev_aret_n, ev_vret, ev_nret, ev_obj, ev_call, ev_callA, ev_callT, ev_call_s, ev_callA_s, ev_callT_s, ev_new, ev_newi, ev_newl, ev_newq, ev_acpy, ev_acpl, ev_sval, ev_scod, ev_sal, ev_sbl, ev_dead, lv_args, lk, st1, st2, ins, sa, rcv, swp_nil, swp_cons, Value.category, Option.toList_some, Option.toList_none, List.nil_append, List.cons_append, List.filter_cons, List.filter_nil, List.length_cons, List.length_nil, Bool.not_true, Bool.not_false, Bool.and_true, Bool.true_and, Bool.false_and, Bool.and_false, Nat.reduceBEq, Nat.reduceAdd, Nat.reduceSub, Nat.reduceMul, Nat.reduceEqDiff, Nat.reduceLT, Nat.reduceLeDiff, reduceIte, if_true, if_false, ite_true, ite_false, true_and, and_true, true_or, or_true, false_or, or_false, Nat.zero_le, Nat.le_refl, not_false_eq_true, not_true_eq_false, Bool.false_eq_true, beq_self_eq_true, Nat.add_one_ne_zero, eq_self_iff_true, Nat.zero_add, i1_0, i0_1, aref_, anull_, kd_0, kd_1, kd_2, kd_3, kd_4, kd_5, kd_6, kd_7, kd_8, kd_9, kd_10, kd_11, kd_12, kd_13, kd_14, kd_15, kd_16, kd_17, kd_18, kd_19, kd_20, kd_21, kd_22, kd_23, kd_24, kd_25, kd_26, kd_27, kd_28, kd_29, kd_30, kd_31, kd_32, kd_33, kd_34, kd_35, kd_36, kd_37, kd_38, kd_39, ln_13, ln_14, ln_15, ln_16, ln_17, ln_18, ln_19, ln_20, ln_21, ln_22, ln_23, ln_24, ln_25, ln_26, ln_27, ln_28, ln_29, ln_30, ln_31, ln_32, ln_33, ln_34, ln_35, ln_36, ln_37, ln_38, ln_39, e25]
  exact gg
theorem ex_Mo_aLine133b (hR : MoR R) (hm : MTp g T A0) (h : MOk g T A0 ln s p F A D) (h0 : s 0 = 8) (h1 : s 1 = ln + 1) (h2 : s 2 = k) (h5 : s 5 ≤ 25) (hq : s 8 = 0 → ln < 16 ∧ s 2 ≤ 4) (hk : k < 1000) (hln : ln < 1000)
    (hW : ∀ F' A' D' x' ln', ln' < 1001 → MWr A0 ln' x' F' A' → RW g T s p x' → K none E R (St I F' A' D') J)
    (hK : ∀ s' p' F' A' D', MOk g T A0 (ln + 1) s' p' F' A' D' → s' 0 = 0 → s' 1 = ln + 1 → res g T s p = res g T s' p' → p < p' → K none E R (St I F' A' D') J) (c : cdp g T p = 2) (c25 : s 5 = 24) (cv : vlp g T p ≤ 4) : qMo_aLine_133 (d + 6) 0 0 (gMo_aLine (d + 6) 0 0 K) K [(0, .ref MO), (1, .int (nI k)), (2, .int (nI (s 5 + 1))), (3, .int (nI (s 6))), (4, .int 0)] [] E R (St I F A D) J 0 0 := by
  have hT := hm.1
  have hA := h.a
  have f5 := h.tk.f5
  have hw := atp_le (g := g) h.tk.le
  have hmA : MTp g T A := by rw [hA]; exact hm.as
  have hlt := nxp_lt (g := g) h.tk.le (by omega)
  have hv := vlp_lt c
  have est : stp s (cdp g T p) (vlp g T p) (atp g T p) = un (un s 7 (vlp g T p)) 0 9 := by
    rw [stp8 h0, if_pos c]
    unfold t8
    rw [if_neg (by omega)]
  have hres := res_step (g := g) (s := s) h.tk.le (by omega) (by rw [h0]; decide) (by rw [est, un_eq]; decide)
  rw [est] at hres
  have e25 : nI (s 5 + 1) = 25 := by rw [c25]; rfl
  have cv' : nI (vlp g T p) ≤ (4 : Int32) := by rw [lit 4, nI_leI (by omega) (by omega)]; exact cv
  simp only [vqMo_aLine_133, ev_iadd, ev_isub, ev_imul, ev_iand, ev_ishr, ev_iushr, ev_idiv, ev_irem, ev_ladd, ev_lsub, ev_lmul, ev_ldiv, ev_lrem, ev_lcmp, ev_ineg, ev_i2l, ev_i2b, ev_i2c, ev_l2i, ev_pop, ev_ci, ev_cl, ev_null, ev_cs, ev_gcs, ev_fmt, ev_ild, ev_ild_int, ev_lld, ev_lld_long, ev_ald, ev_ald_ref, ev_ald_null, ev_inc, ev_inc_int, ev_ist, ev_lst, ev_ast, ev_ast_null, ev_dup, ev_dup2, ev_if_eq, ev_if_ne, ev_if_lt, ev_if_ge, ev_if_gt, ev_if_le, ev_ic_eq, ev_ic_ne, ev_ic_lt, ev_ic_ge, ev_ic_gt, ev_ic_le, ev_ifnull_n, ev_ifnull_r, ev_ifnonnull_n, ev_ifnonnull_r, ev_sw, ev_geti, ev_getr, ev_puti, ev_putz, ev_putr, ev_iald, ev_bald, ev_zald, ev_lald, ev_aald, ev_alen, ev_iast, ev_bast, ev_zast, ev_last, ev_aast, ev_iret, ev_zret, ev_lret, ev_aret, ev_aret_n, ev_vret, ev_nret, ev_obj, ev_call, ev_callA, ev_callT, ev_call_s, ev_callA_s, ev_callT_s, ev_new, ev_newi, ev_newl, ev_newq, ev_acpy, ev_acpl, ev_sval, ev_scod, ev_sal, ev_sbl, ev_dead, lv_args, lk, st1, st2, ins, sa, rcv, swp_nil, swp_cons, Value.category, Option.toList_some, Option.toList_none, List.nil_append, List.cons_append, List.filter_cons, List.filter_nil, List.length_cons, List.length_nil, Bool.not_true, Bool.not_false, Bool.and_true, Bool.true_and, Bool.false_and, Bool.and_false, Nat.reduceBEq, Nat.reduceAdd, Nat.reduceSub, Nat.reduceMul, Nat.reduceEqDiff, Nat.reduceLT, Nat.reduceLeDiff, reduceIte, if_true, if_false, ite_true, ite_false, true_and, and_true, true_or, or_true, false_or, or_false, Nat.zero_le, Nat.le_refl, not_false_eq_true, not_true_eq_false, Bool.false_eq_true, beq_self_eq_true, Nat.add_one_ne_zero, eq_self_iff_true, Nat.zero_add, i1_0, i0_1, aref_, anull_, kd_0, kd_1, kd_2, kd_3, kd_4, kd_5, kd_6, kd_7, kd_8, kd_9, kd_10, kd_11, kd_12, kd_13, kd_14, kd_15, kd_16, kd_17, kd_18, kd_19, kd_20, kd_21, kd_22, kd_23, kd_24, kd_25, kd_26, kd_27, kd_28, kd_29, kd_30, kd_31, kd_32, kd_33, kd_34, kd_35, kd_36, kd_37, kd_38, kd_39, ln_13, ln_14, ln_15, ln_16, ln_17, ln_18, ln_19, ln_20, ln_21, ln_22, ln_23, ln_24, ln_25, ln_26, ln_27, ln_28, ln_29, ln_30, ln_31, ln_32, ln_33, ln_34, ln_35, ln_36, ln_37, ln_38, ln_39, St_MO, f5]
  refine sp_Mo_numbered_t hR hmA h.tk h.f10 c (fun F1 q1 q2 q3 => ?_)
  have gg := ex_Mo_aLine133g (d := d) (K := K) (E := E) (J := J) (I := I) (z5 := .int (nI (atp g T p))) hR hm ((h.unr (k := 7) (x := vlp g T p) (by decide) (by decide) (by decide) (by decide) (by decide) (by decide)).mv q1 q2 q3) (by rw [un_ne (by decide)]; exact h1) (by rw [un_ne (by decide)]; exact h2) (fun z => by rw [un_ne (by decide)] at z; rw [un_ne (by decide)]; exact hq z) un_eq hk hln hres hlt hW hK
  rw [un_ne (show 5 ≠ 7 by decide), un_ne (show 6 ≠ 7 by decide)] at gg
  refine Eq.mpr (if_pos e25) ?_
  refine Eq.mpr (if_pos cv') ?_
  exact gg
theorem ex_Mo_aLine133c (hR : MoR R) (hm : MTp g T A0) (h : MOk g T A0 ln s p F A D) (h0 : s 0 = 8) (h1 : s 1 = ln + 1) (h2 : s 2 = k) (h5 : s 5 ≤ 25) (hq : s 8 = 0 → ln < 16 ∧ s 2 ≤ 4) (hk : k < 1000) (hln : ln < 1000)
    (hW : ∀ F' A' D' x' ln', ln' < 1001 → MWr A0 ln' x' F' A' → RW g T s p x' → K none E R (St I F' A' D') J)
    (hK : ∀ s' p' F' A' D', MOk g T A0 (ln + 1) s' p' F' A' D' → s' 0 = 0 → s' 1 = ln + 1 → res g T s p = res g T s' p' → p < p' → K none E R (St I F' A' D') J) (c : cdp g T p = 2) (c25 : s 5 = 24) (cv : ¬ vlp g T p ≤ 4) : qMo_aLine_133 (d + 6) 0 0 (gMo_aLine (d + 6) 0 0 K) K [(0, .ref MO), (1, .int (nI k)), (2, .int (nI (s 5 + 1))), (3, .int (nI (s 6))), (4, .int 0)] [] E R (St I F A D) J 0 0 := by
  have hT := hm.1
  have hA := h.a
  have f5 := h.tk.f5
  have hw := atp_le (g := g) h.tk.le
  have hmA : MTp g T A := by rw [hA]; exact hm.as
  have hlt := nxp_lt (g := g) h.tk.le (by omega)
  have hv := vlp_lt c
  have est : stp s (cdp g T p) (vlp g T p) (atp g T p) = un (mrk (un s 7 (vlp g T p)) 2 (atp g T p)) 0 9 := by
    rw [stp8 h0, if_pos c]
    unfold t8
    rw [if_pos (by omega)]
  have hres := res_step (g := g) (s := s) h.tk.le (by omega) (by rw [h0]; decide) (by rw [est, un_eq]; decide)
  rw [est] at hres
  have e25 : nI (s 5 + 1) = 25 := by rw [c25]; rfl
  have cv' : ¬ nI (vlp g T p) ≤ (4 : Int32) := by rw [lit 4, nI_leI (by omega) (by omega)]; exact cv
  have h7 := h.unr (k := 7) (x := vlp g T p) (by decide) (by decide) (by decide) (by decide) (by decide) (by decide)
  have h8 := h7.mk3 (k := 2) (x := atp g T p) (by decide) (by decide) (by omega)
  simp only [vqMo_aLine_133, ev_iadd, ev_isub, ev_imul, ev_iand, ev_ishr, ev_iushr, ev_idiv, ev_irem, ev_ladd, ev_lsub, ev_lmul, ev_ldiv, ev_lrem, ev_lcmp, ev_ineg, ev_i2l, ev_i2b, ev_i2c, ev_l2i, ev_pop, ev_ci, ev_cl, ev_null, ev_cs, ev_gcs, ev_fmt, ev_ild, ev_ild_int, ev_lld, ev_lld_long, ev_ald, ev_ald_ref, ev_ald_null, ev_inc, ev_inc_int, ev_ist, ev_lst, ev_ast, ev_ast_null, ev_dup, ev_dup2, ev_if_eq, ev_if_ne, ev_if_lt, ev_if_ge, ev_if_gt, ev_if_le, ev_ic_eq, ev_ic_ne, ev_ic_lt, ev_ic_ge, ev_ic_gt, ev_ic_le, ev_ifnull_n, ev_ifnull_r, ev_ifnonnull_n, ev_ifnonnull_r, ev_sw, ev_geti, ev_getr, ev_puti, ev_putz, ev_putr, ev_iald, ev_bald, ev_zald, ev_lald, ev_aald, ev_alen, ev_iast, ev_bast, ev_zast, ev_last, ev_aast, ev_iret, ev_zret, ev_lret, ev_aret, ev_aret_n, ev_vret, ev_nret, ev_obj, ev_call, ev_callA, ev_callT, ev_call_s, ev_callA_s, ev_callT_s, ev_new, ev_newi, ev_newl, ev_newq, ev_acpy, ev_acpl, ev_sval, ev_scod, ev_sal, ev_sbl, ev_dead, lv_args, lk, st1, st2, ins, sa, rcv, swp_nil, swp_cons, Value.category, Option.toList_some, Option.toList_none, List.nil_append, List.cons_append, List.filter_cons, List.filter_nil, List.length_cons, List.length_nil, Bool.not_true, Bool.not_false, Bool.and_true, Bool.true_and, Bool.false_and, Bool.and_false, Nat.reduceBEq, Nat.reduceAdd, Nat.reduceSub, Nat.reduceMul, Nat.reduceEqDiff, Nat.reduceLT, Nat.reduceLeDiff, reduceIte, if_true, if_false, ite_true, ite_false, true_and, and_true, true_or, or_true, false_or, or_false, Nat.zero_le, Nat.le_refl, not_false_eq_true, not_true_eq_false, Bool.false_eq_true, beq_self_eq_true, Nat.add_one_ne_zero, eq_self_iff_true, Nat.zero_add, i1_0, i0_1, aref_, anull_, kd_0, kd_1, kd_2, kd_3, kd_4, kd_5, kd_6, kd_7, kd_8, kd_9, kd_10, kd_11, kd_12, kd_13, kd_14, kd_15, kd_16, kd_17, kd_18, kd_19, kd_20, kd_21, kd_22, kd_23, kd_24, kd_25, kd_26, kd_27, kd_28, kd_29, kd_30, kd_31, kd_32, kd_33, kd_34, kd_35, kd_36, kd_37, kd_38, kd_39, ln_13, ln_14, ln_15, ln_16, ln_17, ln_18, ln_19, ln_20, ln_21, ln_22, ln_23, ln_24, ln_25, ln_26, ln_27, ln_28, ln_29, ln_30, ln_31, ln_32, ln_33, ln_34, ln_35, ln_36, ln_37, ln_38, ln_39, St_MO, f5]
  refine sp_Mo_numbered_t hR hmA h.tk h.f10 c (fun F1 q1 q2 q3 => ?_)
  have gg := ex_Mo_aLine133g (d := d) (K := K) (E := E) (J := J) (I := I) (z5 := .int (nI (atp g T p))) hR hm (h8.mv q1 q2 q3) (by rw [mrk_ne (by decide) (by decide), un_ne (by decide)]; exact h1) (by rw [mrk_ne (by decide) (by decide), un_ne (by decide)]; exact h2) (fun z => absurd z (mrk_8 (by decide))) (by rw [mrk_ne (by decide) (by decide), un_eq]) hk hln hres hlt hW hK
  rw [mrk_ne (by decide) (by decide), mrk_ne (by decide) (by decide), un_ne (show 5 ≠ 7 by decide), un_ne (show 6 ≠ 7 by decide)] at gg
  refine Eq.mpr (if_pos e25) ?_
  refine Eq.mpr (if_neg cv') ?_
  simp only [vqMo_aLine_157, ev_iadd, ev_isub, ev_imul, ev_iand, ev_ishr, ev_iushr, ev_idiv, ev_irem, ev_ladd, ev_lsub, ev_lmul, ev_ldiv, ev_lrem, ev_lcmp, ev_ineg, ev_i2l, ev_i2b, ev_i2c, ev_l2i, ev_pop, ev_ci, ev_cl, ev_null, ev_cs, ev_gcs, ev_fmt, ev_ild, ev_ild_int, ev_lld, ev_lld_long, ev_ald, ev_ald_ref, ev_ald_null, ev_inc, ev_inc_int, ev_ist, ev_lst, ev_ast, ev_ast_null, ev_dup, ev_dup2, ev_if_eq, ev_if_ne, ev_if_lt, ev_if_ge, ev_if_gt, ev_if_le, ev_ic_eq, ev_ic_ne, ev_ic_lt, ev_ic_ge, ev_ic_gt, ev_ic_le, ev_ifnull_n, ev_ifnull_r, ev_ifnonnull_n, ev_ifnonnull_r, ev_sw, ev_geti, ev_getr, ev_puti, ev_putz, ev_putr, ev_iald, ev_bald, ev_zald, ev_lald, ev_aald, ev_alen, ev_iast, ev_bast, ev_zast, ev_last, ev_aast, ev_iret, ev_zret, ev_lret, ev_aret, ev_aret_n, ev_vret, ev_nret, ev_obj, ev_call, ev_callA, ev_callT, ev_call_s, ev_callA_s, ev_callT_s, ev_new, ev_newi, ev_newl, ev_newq, ev_acpy, ev_acpl, ev_sval, ev_scod, ev_sal, ev_sbl, ev_dead, lv_args, lk, st1, st2, ins, sa, rcv, swp_nil, swp_cons, Value.category, Option.toList_some, Option.toList_none, List.nil_append, List.cons_append, List.filter_cons, List.filter_nil, List.length_cons, List.length_nil, Bool.not_true, Bool.not_false, Bool.and_true, Bool.true_and, Bool.false_and, Bool.and_false, Nat.reduceBEq, Nat.reduceAdd, Nat.reduceSub, Nat.reduceMul, Nat.reduceEqDiff, Nat.reduceLT, Nat.reduceLeDiff, reduceIte, if_true, if_false, ite_true, ite_false, true_and, and_true, true_or, or_true, false_or, or_false, Nat.zero_le, Nat.le_refl, not_false_eq_true, not_true_eq_false, Bool.false_eq_true, beq_self_eq_true, Nat.add_one_ne_zero, eq_self_iff_true, Nat.zero_add, i1_0, i0_1, aref_, anull_, kd_0, kd_1, kd_2, kd_3, kd_4, kd_5, kd_6, kd_7, kd_8, kd_9, kd_10, kd_11, kd_12, kd_13, kd_14, kd_15, kd_16, kd_17, kd_18, kd_19, kd_20, kd_21, kd_22, kd_23, kd_24, kd_25, kd_26, kd_27, kd_28, kd_29, kd_30, kd_31, kd_32, kd_33, kd_34, kd_35, kd_36, kd_37, kd_38, kd_39, ln_13, ln_14, ln_15, ln_16, ln_17, ln_18, ln_19, ln_20, ln_21, ln_22, ln_23, ln_24, ln_25, ln_26, ln_27, ln_28, ln_29, ln_30, ln_31, ln_32, ln_33, ln_34, ln_35, ln_36, ln_37, ln_38, ln_39]
  rw [h7.a, lit 2]
  refine ⟨by decide, sp_Mo_tells_m (k := 2) hR (by decide) (by decide) (q2.trans h.f10) h7.w8 ?_⟩
  exact gg
theorem ex_Mo_aLine133w (hR : MoR R) (hm : MTp g T A0) (h : MOk g T A0 ln s p F A D) (h0 : s 0 = 8) (h1 : s 1 = ln + 1) (h2 : s 2 = k) (h5 : s 5 ≤ 25) (hq : s 8 = 0 → ln < 16 ∧ s 2 ≤ 4) (hk : k < 1000) (hln : ln < 1000)
    (hW : ∀ F' A' D' x' ln', ln' < 1001 → MWr A0 ln' x' F' A' → RW g T s p x' → K none E R (St I F' A' D') J)
    (hK : ∀ s' p' F' A' D', MOk g T A0 (ln + 1) s' p' F' A' D' → s' 0 = 0 → s' 1 = ln + 1 → res g T s p = res g T s' p' → p < p' → K none E R (St I F' A' D') J) (c : cdp g T p ≠ 2) : qMo_aLine_133 (d + 6) 0 0 (gMo_aLine (d + 6) 0 0 K) K [(0, .ref MO), (1, .int (nI k)), (2, .int (nI (s 5 + 1))), (3, .int (nI (s 6))), (4, .int 0)] [] E R (St I F A D) J 0 0 := by
  have hT := hm.1
  have hA := h.a
  have f5 := h.tk.f5
  have hw := atp_le (g := g) h.tk.le
  have hmA : MTp g T A := by rw [hA]; exact hm.as
  have est : stp s (cdp g T p) (vlp g T p) (atp g T p) 0 = 10 := by rw [stp8 h0, if_neg c, un_eq]
  have hres := res_stop (g := g) (s := s) h.tk.le (by rw [h0]; decide) (by rw [h0]; decide) est
  have wr := MWr.stop (x := atp g T p) h.f11 hA
  simp only [vqMo_aLine_133, ev_iadd, ev_isub, ev_imul, ev_iand, ev_ishr, ev_iushr, ev_idiv, ev_irem, ev_ladd, ev_lsub, ev_lmul, ev_ldiv, ev_lrem, ev_lcmp, ev_ineg, ev_i2l, ev_i2b, ev_i2c, ev_l2i, ev_pop, ev_ci, ev_cl, ev_null, ev_cs, ev_gcs, ev_fmt, ev_ild, ev_ild_int, ev_lld, ev_lld_long, ev_ald, ev_ald_ref, ev_ald_null, ev_inc, ev_inc_int, ev_ist, ev_lst, ev_ast, ev_ast_null, ev_dup, ev_dup2, ev_if_eq, ev_if_ne, ev_if_lt, ev_if_ge, ev_if_gt, ev_if_le, ev_ic_eq, ev_ic_ne, ev_ic_lt, ev_ic_ge, ev_ic_gt, ev_ic_le, ev_ifnull_n, ev_ifnull_r, ev_ifnonnull_n, ev_ifnonnull_r, ev_sw, ev_geti, ev_getr, ev_puti, ev_putz, ev_putr, ev_iald, ev_bald, ev_zald, ev_lald, ev_aald, ev_alen, ev_iast, ev_bast, ev_zast, ev_last, ev_aast, ev_iret, ev_zret, ev_lret, ev_aret, ev_aret_n, ev_vret, ev_nret, ev_obj, ev_call, ev_callA, ev_callT, ev_call_s, ev_callA_s, ev_callT_s, ev_new, ev_newi, ev_newl, ev_newq, ev_acpy, ev_acpl, ev_sval, ev_scod, ev_sal, ev_sbl, ev_dead, lv_args, lk, st1, st2, ins, sa, rcv, swp_nil, swp_cons, Value.category, Option.toList_some, Option.toList_none, List.nil_append, List.cons_append, List.filter_cons, List.filter_nil, List.length_cons, List.length_nil, Bool.not_true, Bool.not_false, Bool.and_true, Bool.true_and, Bool.false_and, Bool.and_false, Nat.reduceBEq, Nat.reduceAdd, Nat.reduceSub, Nat.reduceMul, Nat.reduceEqDiff, Nat.reduceLT, Nat.reduceLeDiff, reduceIte, if_true, if_false, ite_true, ite_false, true_and, and_true, true_or, or_true, false_or, or_false, Nat.zero_le, Nat.le_refl, not_false_eq_true, not_true_eq_false, Bool.false_eq_true, beq_self_eq_true, Nat.add_one_ne_zero, eq_self_iff_true, Nat.zero_add, i1_0, i0_1, aref_, anull_, kd_0, kd_1, kd_2, kd_3, kd_4, kd_5, kd_6, kd_7, kd_8, kd_9, kd_10, kd_11, kd_12, kd_13, kd_14, kd_15, kd_16, kd_17, kd_18, kd_19, kd_20, kd_21, kd_22, kd_23, kd_24, kd_25, kd_26, kd_27, kd_28, kd_29, kd_30, kd_31, kd_32, kd_33, kd_34, kd_35, kd_36, kd_37, kd_38, kd_39, ln_13, ln_14, ln_15, ln_16, ln_17, ln_18, ln_19, ln_20, ln_21, ln_22, ln_23, ln_24, ln_25, ln_26, ln_27, ln_28, ln_29, ln_30, ln_31, ln_32, ln_33, ln_34, ln_35, ln_36, ln_37, ln_38, ln_39, St_MO, f5]
  refine sp_Mo_numbered_f hR h.tk h.f10 c (fun z => ?_)
  have key : qMo_aLine_164 (d + 6) 0 0 (gMo_aLine (d + 6) 0 0 K) K [(0, .ref MO), (1, .int (nI k)), (2, .int (nI (s 5 + 1))), (3, .int (nI (s 6))), (4, .int z), (5, .int (nI (atp g T p)))] [] E R (St I (upd F 10 1) (upd (upd A 5 1) 6 (nI (atp g T p))) D) J 0 0 := ex_Mo_aLineW hR wr hln hk (fun F' A' D' ln' l' w' => hW F' A' D' _ ln' l' w' hres)
  by_cases c25 : nI (s 5 + 1) = 25
  · refine Eq.mpr (if_pos c25) ?_
    by_cases cv : z ≤ 4
    · refine Eq.mpr (if_pos cv) ?_
      exact key
    · refine Eq.mpr (if_neg cv) ?_
      simp only [vqMo_aLine_157, ev_iadd, ev_isub, ev_imul, ev_iand, ev_ishr, ev_iushr, ev_idiv, ev_irem, ev_ladd, ev_lsub, ev_lmul, ev_ldiv, ev_lrem, ev_lcmp, ev_ineg, ev_i2l, ev_i2b, ev_i2c, ev_l2i, ev_pop, ev_ci, ev_cl, ev_null, ev_cs, ev_gcs, ev_fmt, ev_ild, ev_ild_int, ev_lld, ev_lld_long, ev_ald, ev_ald_ref, ev_ald_null, ev_inc, ev_inc_int, ev_ist, ev_lst, ev_ast, ev_ast_null, ev_dup, ev_dup2, ev_if_eq, ev_if_ne, ev_if_lt, ev_if_ge, ev_if_gt, ev_if_le, ev_ic_eq, ev_ic_ne, ev_ic_lt, ev_ic_ge, ev_ic_gt, ev_ic_le, ev_ifnull_n, ev_ifnull_r, ev_ifnonnull_n, ev_ifnonnull_r, ev_sw, ev_geti, ev_getr, ev_puti, ev_putz, ev_putr, ev_iald, ev_bald, ev_zald, ev_lald, ev_aald, ev_alen, ev_iast, ev_bast, ev_zast, ev_last, ev_aast, ev_iret, ev_zret, ev_lret, ev_aret, ev_aret_n, ev_vret, ev_nret, ev_obj, ev_call, ev_callA, ev_callT, ev_call_s, ev_callA_s, ev_callT_s, ev_new, ev_newi, ev_newl, ev_newq, ev_acpy, ev_acpl, ev_sval, ev_scod, ev_sal, ev_sbl, ev_dead, lv_args, lk, st1, st2, ins, sa, rcv, swp_nil, swp_cons, Value.category, Option.toList_some, Option.toList_none, List.nil_append, List.cons_append, List.filter_cons, List.filter_nil, List.length_cons, List.length_nil, Bool.not_true, Bool.not_false, Bool.and_true, Bool.true_and, Bool.false_and, Bool.and_false, Nat.reduceBEq, Nat.reduceAdd, Nat.reduceSub, Nat.reduceMul, Nat.reduceEqDiff, Nat.reduceLT, Nat.reduceLeDiff, reduceIte, if_true, if_false, ite_true, ite_false, true_and, and_true, true_or, or_true, false_or, or_false, Nat.zero_le, Nat.le_refl, not_false_eq_true, not_true_eq_false, Bool.false_eq_true, beq_self_eq_true, Nat.add_one_ne_zero, eq_self_iff_true, Nat.zero_add, i1_0, i0_1, aref_, anull_, kd_0, kd_1, kd_2, kd_3, kd_4, kd_5, kd_6, kd_7, kd_8, kd_9, kd_10, kd_11, kd_12, kd_13, kd_14, kd_15, kd_16, kd_17, kd_18, kd_19, kd_20, kd_21, kd_22, kd_23, kd_24, kd_25, kd_26, kd_27, kd_28, kd_29, kd_30, kd_31, kd_32, kd_33, kd_34, kd_35, kd_36, kd_37, kd_38, kd_39, ln_13, ln_14, ln_15, ln_16, ln_17, ln_18, ln_19, ln_20, ln_21, ln_22, ln_23, ln_24, ln_25, ln_26, ln_27, ln_28, ln_29, ln_30, ln_31, ln_32, ln_33, ln_34, ln_35, ln_36, ln_37, ln_38, ln_39]
      refine ⟨by decide, sp_Mo_tells_1 hR (Or.inl wr.1) ?_⟩
      exact key
  · refine Eq.mpr (if_neg c25) ?_
    exact key
end MW

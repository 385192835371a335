/-! divide: what is carried, and the class -/
section DV2
variable {d : Nat} {K : Ps} {E : Nat → Prop} {R R' : Nat → Nat → Value} {I I' : Nat → Nat → Int32} {J : Nat → Nat → Int64} {a a' : Nat → Int32} {b : Nat → Int64} {M M' X n : Nat} {B : Nat → Nat}
theorem zsum_ge {f : Nat → Int} : ∀ k q, q < k → (∀ j, j < k → 0 ≤ f j) → f q ≤ zsum f k
  | 0, q, h, _ => absurd h (Nat.not_lt_zero _)
  | k + 1, q, h, hn => by
    simp only [zsum]
    have h1 := zsum_nn k (fun j hj => hn j (by omega))
    have h2 := hn k (by omega)
    by_cases e : q = k
    · subst e; omega
    · have := zsum_ge k q (by omega) (fun j hj => hn j (by omega))
      omega
theorem hsum_z : ∀ k, hsum a k = zsum (fun j => (a (150 + 10 * j)).toInt) k
  | 0 => rfl
  | k + 1 => by simp only [hsum, zsum]; rw [hsum_z k]
def Dvi (a : Nat → Int32) : Prop :=
  (0 ≤ (a 2).toInt ∧ (a 2).toInt ≤ 1000) ∧
  (∀ q, q < 10 → 0 ≤ (a (150 + 10 * q)).toInt) ∧
  (hsum a 10 = (a 2).toInt) ∧
  (∀ q, q < 10 → ∀ g, g < 4 → 0 ≤ (a (150 + 10 * q + 1 + g)).toInt ∧ (a (150 + 10 * q + 1 + g)).toInt < 1000)
theorem Dvi.to {a : Nat → Int32} (h : Dvi a) : 0 ≤ (a 2).toInt ∧ (a 2).toInt ≤ 1000 := h.1
theorem Dvi.hd {a : Nat → Int32} (h : Dvi a) : ∀ q, q < 10 → 0 ≤ (a (150 + 10 * q)).toInt := h.2.1
theorem Dvi.hs {a : Nat → Int32} (h : Dvi a) : hsum a 10 = (a 2).toInt := h.2.2.1
theorem Dvi.rs {a : Nat → Int32} (h : Dvi a) : ∀ q, q < 10 → ∀ g, g < 4 → 0 ≤ (a (150 + 10 * q + 1 + g)).toInt ∧ (a (150 + 10 * q + 1 + g)).toInt < 1000 := h.2.2.2
theorem Dvi.mk {a : Nat → Int32} (h0 : 0 ≤ (a 2).toInt ∧ (a 2).toInt ≤ 1000) (h1 : ∀ q, q < 10 → 0 ≤ (a (150 + 10 * q)).toInt) (h2 : hsum a 10 = (a 2).toInt) (h3 : ∀ q, q < 10 → ∀ g, g < 4 → 0 ≤ (a (150 + 10 * q + 1 + g)).toInt ∧ (a (150 + 10 * q + 1 + g)).toInt < 1000) : Dvi a := ⟨h0, h1, h2, h3⟩
theorem Inv.dvi (h : Inv a M n B) : Dvi a := Dvi.mk h.to h.hd h.hs h.rs
theorem hsum_upd {i : Nat} {v : Int32} (hi : i < 150 ∨ 250 ≤ i ∨ (i - 150) % 10 ≠ 0) : ∀ k, k ≤ 10 → hsum (upd a i v) k = hsum a k
  | 0, _ => rfl
  | k + 1, hk => by simp only [hsum]; rw [hsum_upd hi k (by omega), upd_ne (by omega)]
theorem Dvi.up3 {v : Int32} (h : Dvi a) : Dvi (upd a 3 v) := by
  refine Dvi.mk ?_ ?_ ?_ ?_
  · rw [upd_ne (by decide)]; exact h.to
  · intro q hq; rw [upd_ne (by omega)]; exact h.hd q hq
  · rw [hsum_upd (by omega) 10 (by decide), upd_ne (by decide)]; exact h.hs
  · intro q hq g hg; rw [upd_ne (by omega)]; exact h.rs q hq g hg
theorem Dvi.held_le {q : Nat} (hi : Dvi a) (hq : q < 10) : (a (150 + 10 * q)).toInt ≤ 1000 := by
  have h1 := zsum_ge (f := fun j => (a (150 + 10 * j)).toInt) 10 q hq (fun j hj => hi.hd j hj)
  have h2 := hi.hs
  rw [hsum_z] at h2
  have h3 := hi.to
  omega
theorem zsum_lin {r h w r' : Nat → Int} {y t : Int} : ∀ k, (∀ j, j < k → r' j = r j + h j * y - t * w j) → zsum r' k = zsum r k + zsum h k * y - t * zsum w k
  | 0, _ => by simp [zsum]
  | k + 1, e => by
    simp only [zsum]
    rw [zsum_lin k (fun j hj => e j (by omega)), e k (by omega), Int.add_mul, Int.mul_add]
    omega
/-- a person's rest behind a division -/
theorem rest_int {g q : Nat} {y : Int32} (hi : Dvi a) (hq : q < 10) (hg : g < 4) (ht : 0 < (a 2).toInt) (hy : 0 < y.toInt) : (lrm (m_due a g y q) (a 2).toInt64).toInt32.toInt = (m_due a g y q).toInt % (a 2).toInt ∧ 0 ≤ (m_due a g y q).toInt ∧ (m_due a g y q / (a 2).toInt64).toInt = (m_due a g y q).toInt / (a 2).toInt := by
  obtain ⟨e, h1, h2⟩ := due_int (a := a) (g := g) (q := q) hy (hi.rs q hq g hg) ⟨hi.hd q hq, hi.held_le hq⟩
  have h0 := (hi.rs q hq g hg).1
  have h3 := hi.to
  have hn : 0 ≤ (m_due a g y q).toInt := by omega
  have ht' : 0 < (a 2).toInt64.toInt := by rw [Int32.toInt_toInt64]; exact ht
  refine ⟨?_, hn, ?_⟩
  · rw [Int64.toInt_toInt32, lrm_int hn ht', Int32.toInt_toInt64]
    have q1 := Int.emod_nonneg (m_due a g y q).toInt (show (a 2).toInt ≠ 0 by omega)
    have q2 := Int.emod_lt_of_pos (m_due a g y q).toInt ht
    exact Int.bmod_eq_of_le (by omega) (by omega)
  · rw [div64_int hn ht', Int32.toInt_toInt64]
theorem V_int {g : Nat} {y : Int32} (hg : g < 4) : ∀ k, (m_dv a g y k).2.toInt = (zsum (fun q => (m_due a g y q / (a 2).toInt64).toInt) k).bmod (2 ^ 32)
  | 0 => rfl
  | k + 1 => by
    rw [m_dv_V hg, Int32.toInt_add, V_int hg k, Int64.toInt_toInt32]
    simp only [zsum]
    rw [Int.bmod_add_bmod, Int.add_bmod_bmod]
theorem dv_rs {g g' q : Nat} {y : Int32} (hi : Dvi a) (hq : q < 10) (hg : g < 4) (hg' : g' < 4) (ht : 0 < (a 2).toInt) (hy : 0 < y.toInt) : 0 ≤ ((m_dv a g y 10).1 (150 + 10 * q + 1 + g')).toInt ∧ ((m_dv a g y 10).1 (150 + 10 * q + 1 + g')).toInt < 1000 := by
  by_cases e : g' = g
  · subst e
    rw [m_dv_rest hg 10 hq, (rest_int hi hq hg ht hy).1]
    have h3 := hi.to
    have q1 := Int.emod_nonneg (m_due a g' y q).toInt (show (a 2).toInt ≠ 0 by omega)
    have q2 := Int.emod_lt_of_pos (m_due a g' y q).toInt ht
    omega
  · rw [m_dv_ne 10 (by intro p hp; omega)]
    exact hi.rs q hq g' hg'
theorem dv_carr {g : Nat} {y : Int32} (hi : Dvi a) (hg : g < 4) (ht : 0 < (a 2).toInt) (hy : 0 < y.toInt) : m_carr a g + (y - (m_dv a g y 10).2) = m_carr (m_dv a g y 10).1 g := by
  refine (eq_int _ _).mpr ?_
  have t' : ((m_dv a g y 10).1 2).toInt = (a 2).toInt := by rw [m_dv_2]
  rw [carr_int (a := (m_dv a g y 10).1) (by rw [t']; exact ht) (fun j hj => dv_rs hi hj hg hg ht hy), t']
  have ec := carr_int (a := a) (g := g) ht (fun j hj => hi.rs j hj g hg)
  have e1 : zsum (fun j => ((m_dv a g y 10).1 (150 + 10 * j + 1 + g)).toInt) 10 = zsum (fun j => (m_due a g y j).toInt % (a 2).toInt) 10 := zsum_cg 10 (fun j hj => by
    rw [m_dv_rest hg 10 hj, (rest_int hi hj hg ht hy).1])
  have e2 : zsum (fun q => (m_due a g y q / (a 2).toInt64).toInt) 10 = zsum (fun q => (m_due a g y q).toInt / (a 2).toInt) 10 := zsum_cg 10 (fun j hj => (rest_int hi hj hg ht hy).2.2)
  have e3 := zsum_lin (r' := fun j => (m_due a g y j).toInt % (a 2).toInt) (r := fun j => (a (150 + 10 * j + 1 + g)).toInt) (h := fun j => (a (150 + 10 * j)).toInt) (w := fun q => (m_due a g y q).toInt / (a 2).toInt) (y := y.toInt) (t := (a 2).toInt) 10 (fun j hj => by
    rw [Int.emod_def, (due_int (a := a) (g := g) (q := j) hy (hi.rs j hj g hg) ⟨hi.hd j hj, hi.held_le hj⟩).1])
  have e4 : zsum (fun j => (a (150 + 10 * j)).toInt) 10 = (a 2).toInt := by rw [← hsum_z]; exact hi.hs
  rw [e4] at e3
  have ev := V_int (a := a) (g := g) (y := y) hg 10
  rw [e2] at ev
  obtain ⟨W, hW⟩ : ∃ W, zsum (fun q => (m_due a g y q).toInt / (a 2).toInt) 10 = W := ⟨_, rfl⟩
  obtain ⟨Z, hZ⟩ : ∃ W, zsum (fun j => (a (150 + 10 * j + 1 + g)).toInt) 10 = W := ⟨_, rfl⟩
  obtain ⟨Z', hZ'⟩ : ∃ W, zsum (fun j => (m_due a g y j).toInt % (a 2).toInt) 10 = W := ⟨_, rfl⟩
  rw [hW] at ev
  rw [hZ] at ec
  rw [hZ', hZ, hW] at e3
  rw [e1, hZ']
  have e5 : Z' / (a 2).toInt = Z / (a 2).toInt + (y.toInt - W) := by
    rw [e3, show Z + (a 2).toInt * y.toInt - (a 2).toInt * W = Z + (a 2).toInt * (y.toInt - W) by rw [Int.mul_sub]; omega]
    exact Int.add_mul_ediv_left _ _ (by omega)
  have b1 : 0 ≤ Z' := by rw [← hZ']; exact zsum_nn 10 (fun j hj => Int.emod_nonneg _ (by omega))
  have b2 : Z' ≤ 10 * 1000 := by
    rw [← hZ']
    have h3 := hi.to
    exact zsum_le 10 (c := 1000) (fun j hj => by
      have q2 := Int.emod_lt_of_pos (m_due a g y j).toInt ht
      omega)
  have b3 : 0 ≤ Z' / (a 2).toInt := Int.ediv_nonneg b1 (Int.le_of_lt ht)
  have b4 : Z' / (a 2).toInt ≤ Z' := Int.ediv_le_self _ b1
  rw [Int32.toInt_add, Int32.toInt_sub, ec, ev, Int.sub_bmod_bmod, Int.add_bmod_bmod, ← e5]
  exact Int.bmod_eq_of_le (by omega) (by omega)
/-- a person's rest is written on both sides, and what is carried with it -/
theorem Rel.upR {i c s C : Nat} {v : Int32} {F : Nat → Int32} (h : Rel R X I J a b M) (hi : mpI i = some (c, s)) (hC : c + 64 * X = C) (hi1 : 150 ≤ i) (hi2 : i < 250) (h6 : c % 64 = 32) (hF : ∀ g, g < 4 → F g = m_carr (upd a i v) g) : Rel R X (ua (ua I C (upd (I C) s v)) (rc 34 X) F) J (upd a i v) b M := by
  have hm := Rel.m1up (v := v) hi hC h
  have hCm : C % 64 = 32 := by omega
  have k1 : ∀ r o, r < 64 → r ≠ 34 → r ≠ 32 → ua (ua I C (upd (I C) s v)) (rc 34 X) F (rc r o) = I (rc r o) := fun r o h1 h2 h3 => by
    rw [ua_ne (by unfold rc; omega), ua_ne (by intro z; rw [← z] at hCm; unfold rc at hCm; omega)]
  have ub : ∀ k, k < 150 ∨ 250 ≤ k → upd a i v k = a k := fun k hk => upd_ne (by omega)
  refine Rel.mk ?_ h.jb ?_ ?_ ?_ ?_ ?_ ?_ ?_
  · intro i' c' s' h'
    obtain ⟨o1, o2, -⟩ := okcs_cases (mpI_iv h').2
    rw [ua_ne (by unfold rc; omega)]
    exact hm i' c' s' h'
  · intro p hp
    rw [k1 5 _ (by decide) (by decide) (by decide)]
    exact h.num p hp
  · intro q hq
    rw [k1 7 _ (by decide) (by decide) (by decide), ub _ (by omega), ub _ (by omega), ub _ (by omega)]
    exact h.sea q hq
  · intro g hg
    rw [ua_eq]
    exact hF g hg
  · intro p j h1 h5 h13
    rw [k1 29 _ (by decide) (by decide) (by decide), ub _ (by omega)]
    exact h.pst p j h1 h5 h13
  · intro T hT hT5 j hj
    rw [ub _ (by omega)] at hT
    rw [k1 13 _ (by decide) (by decide) (by decide), ub _ (by omega)]
    exact h.tap T hT hT5 j hj
  · intro p h1 h5 L hL hL16 l hl
    rw [ub _ (by omega)] at hL
    exact (h.ord p h1 h5 L hL hL16 l hl).cg (fun r h1 h2 => k1 r _ (by omega) (by omega) (by omega)) (fun k hk => ub _ (by omega))
  · intro m hm'
    refine ⟨(h.pag m hm').1, fun k hk => ?_⟩
    rw [k1 26 _ (by decide) (by decide) (by decide), ub _ (by omega)]
    exact (h.pag m hm').2 k hk
theorem sp_VC_divide {y z : Int32} (hV : VcR X R) (hC : CoR X R) (hr : Rel R X I J a b M) (hi : Inv a M n B) (h0 : (∀ g, ix 4 y = some g → ¬ div_ok a g z) → K (some (.int (-1))) E R I J)
    (h1 : ∀ g, ix 4 y = some g → div_ok a g z → ∀ I' J', Rel R X I' J' (upd (m_dv (upd a 3 1) g z 10).1 (10 + g) ((m_dv (upd a 3 1) g z 10).1 (10 + g) - (m_dv (upd a 3 1) g z 10).2)) (vp_updL b (8 * g + 3) (b (8 * g + 3) + (m_dv (upd a 3 1) g z 10).2.toInt64)) M → FrX X I I' → FrX X J J' → K (some (.int (m_dv (upd a 3 1) g z 10).2)) E R I' J') : CL yVC_divide cVC_divide 4 (some .int) (d + 2) 0 0 [.ref VC, .int y, .int z] E R I J K := by
  have et := hr.total
  apply eVC_divide (Nat.le_of_ble_eq_true rfl)
  simp only [ev_iadd, ev_isub, ev_imul, ev_iand, ev_ishr, ev_iushr, ev_idiv, ev_irem, ev_ladd, ev_lsub, ev_lmul, ev_ldiv, ev_lrem, ev_lcmp, ev_ineg, ev_i2l, ev_i2b, ev_i2c, ev_l2i, ev_pop, ev_ci, ev_cl, ev_null, ev_cs, ev_gcs, ev_fmt, ev_ild, ev_ild_int, ev_lld, ev_lld_long, ev_ald, ev_ald_ref, ev_ald_null, ev_inc, ev_inc_int, ev_ist, ev_lst, ev_ast, ev_ast_null, ev_dup, ev_dup2, ev_if_eq, ev_if_ne, ev_if_lt, ev_if_ge, ev_if_gt, ev_if_le, ev_ic_eq, ev_ic_ne, ev_ic_lt, ev_ic_ge, ev_ic_gt, ev_ic_le, ev_ifnull_n, ev_ifnull_r, ev_ifnonnull_n, ev_ifnonnull_r, ev_sw, ev_geti, ev_getr, ev_puti, ev_putz, ev_putr, ev_iald, ev_bald, ev_zald, ev_lald, ev_aald, ev_alen, ev_iast, ev_bast, ev_zast, ev_last, ev_aast, ev_iret, ev_zret, ev_lret, ev_aret, ev_aret_n, ev_vret, ev_nret, ev_obj, ev_call, ev_callA, ev_callT, ev_call_s, ev_callA_s, ev_callT_s, ev_new, ev_newi, ev_newl, ev_newq, ev_acpy, ev_acpl, ev_sval, ev_scod, ev_sal, ev_sbl, ev_dead, lv_args, lk, st1, st2, ins, sa, rcv, swp_nil, swp_cons, Value.category, Option.toList_some, Option.toList_none, List.nil_append, List.cons_append, List.filter_cons, List.filter_nil, List.length_cons, List.length_nil, Bool.not_true, Bool.not_false, Bool.and_true, Bool.true_and, Bool.false_and, Bool.and_false, Nat.reduceBEq, Nat.reduceAdd, Nat.reduceSub, Nat.reduceMul, Nat.reduceEqDiff, Nat.reduceLT, Nat.reduceLeDiff, reduceIte, if_true, if_false, ite_true, ite_false, true_and, and_true, true_or, or_true, false_or, or_false, Nat.zero_le, Nat.le_refl, not_false_eq_true, not_true_eq_false, Bool.false_eq_true, beq_self_eq_true, Nat.add_one_ne_zero, eq_self_iff_true, Nat.zero_add, i1_0, i0_1, aref_, anull_, kd_0, kd_1, kd_2, kd_3, kd_4, kd_5, kd_6, kd_7, kd_8, kd_9, kd_10, kd_11, kd_12, kd_13, kd_14, kd_15, kd_16, kd_17, kd_18, kd_19, kd_20, kd_21, kd_22, kd_23, kd_24, kd_25, kd_26, kd_27, kd_28, kd_29, kd_30, kd_31, kd_32, kd_33, kd_34, kd_35, kd_36, kd_37, kd_38, kd_39, ln_13, ln_14, ln_15, ln_16, ln_17, ln_18, ln_19, ln_20, ln_21, ln_22, ln_23, ln_24, ln_25, ln_26, ln_27, ln_28, ln_29, ln_30, ln_31, ln_32, ln_33, ln_34, ln_35, ln_36, ln_37, ln_38, ln_39, vqVC_divide_40, vqVC_divide_38, vqVC_divide_26, vqVC_divide_21, vqVC_divide_7, vqVC_divide_0]
  cases hy : ix 4 y with
  | none =>
    refine sp_VC_isGood_f hy ?_
    ((try simp only [ev_iadd, ev_isub, ev_imul, ev_iand, ev_ishr, ev_iushr, ev_idiv, ev_irem, ev_ladd, ev_lsub, ev_lmul, ev_ldiv, ev_lrem, ev_lcmp, ev_ineg, ev_i2l, ev_i2b, ev_i2c, ev_l2i, ev_pop, ev_ci, ev_cl, ev_null, ev_cs, ev_gcs, ev_fmt, ev_ild, ev_ild_int, ev_lld, ev_lld_long, ev_ald, ev_ald_ref, ev_ald_null, ev_inc, ev_inc_int, ev_ist, ev_lst, ev_ast, ev_ast_null, ev_dup, ev_dup2, ev_if_eq, ev_if_ne, ev_if_lt, ev_if_ge, ev_if_gt, ev_if_le, ev_ic_eq, ev_ic_ne, ev_ic_lt, ev_ic_ge, ev_ic_gt, ev_ic_le, ev_ifnull_n, ev_ifnull_r, ev_ifnonnull_n, ev_ifnonnull_r, ev_sw, ev_geti, ev_getr, ev_puti, ev_putz, ev_putr, ev_iald, ev_bald, ev_zald, ev_lald, ev_aald, ev_alen, ev_iast, ev_bast, ev_zast, ev_last, ev_aast, ev_iret, ev_zret, ev_lret, ev_aret, ev_aret_n, ev_vret, ev_nret, ev_obj, ev_call, ev_callA, ev_callT, ev_call_s, ev_callA_s, ev_callT_s, ev_new, ev_newi, ev_newl, ev_newq, ev_acpy, ev_acpl, ev_sval, ev_scod, ev_sal, ev_sbl, ev_dead, lv_args, lk, st1, st2, ins, sa, rcv, swp_nil, swp_cons, Value.category, Option.toList_some, Option.toList_none, List.nil_append, List.cons_append, List.filter_cons, List.filter_nil, List.length_cons, List.length_nil, Bool.not_true, Bool.not_false, Bool.and_true, Bool.true_and, Bool.false_and, Bool.and_false, Nat.reduceBEq, Nat.reduceAdd, Nat.reduceSub, Nat.reduceMul, Nat.reduceEqDiff, Nat.reduceLT, Nat.reduceLeDiff, reduceIte, if_true, if_false, ite_true, ite_false, true_and, and_true, true_or, or_true, false_or, or_false, Nat.zero_le, Nat.le_refl, not_false_eq_true, not_true_eq_false, Bool.false_eq_true, beq_self_eq_true, Nat.add_one_ne_zero, eq_self_iff_true, Nat.zero_add, i1_0, i0_1, aref_, anull_, kd_0, kd_1, kd_2, kd_3, kd_4, kd_5, kd_6, kd_7, kd_8, kd_9, kd_10, kd_11, kd_12, kd_13, kd_14, kd_15, kd_16, kd_17, kd_18, kd_19, kd_20, kd_21, kd_22, kd_23, kd_24, kd_25, kd_26, kd_27, kd_28, kd_29, kd_30, kd_31, kd_32, kd_33, kd_34, kd_35, kd_36, kd_37, kd_38, kd_39, ln_13, ln_14, ln_15, ln_16, ln_17, ln_18, ln_19, ln_20, ln_21, ln_22, ln_23, ln_24, ln_25, ln_26, ln_27, ln_28, ln_29, ln_30, ln_31, ln_32, ln_33, ln_34, ln_35, ln_36, ln_37, ln_38, ln_39, vqVC_divide_40, vqVC_divide_38, vqVC_divide_26, vqVC_divide_21, vqVC_divide_7, vqVC_divide_0]); (try simp (disch := omega) only [ev_iadd, ev_isub, ev_imul, ev_iand, ev_ishr, ev_iushr, ev_idiv, ev_irem, ev_ladd, ev_lsub, ev_lmul, ev_ldiv, ev_lrem, ev_lcmp, ev_ineg, ev_i2l, ev_i2b, ev_i2c, ev_l2i, ev_pop, ev_ci, ev_cl, ev_null, ev_cs, ev_gcs, ev_fmt, ev_ild, ev_ild_int, ev_lld, ev_lld_long, ev_ald, ev_ald_ref, ev_ald_null, ev_inc, ev_inc_int, ev_ist, ev_lst, ev_ast, ev_ast_null, ev_dup, ev_dup2, ev_if_eq, ev_if_ne, ev_if_lt, ev_if_ge, ev_if_gt, ev_if_le, ev_ic_eq, ev_ic_ne, ev_ic_lt, ev_ic_ge, ev_ic_gt, ev_ic_le, ev_ifnull_n, ev_ifnull_r, ev_ifnonnull_n, ev_ifnonnull_r, ev_sw, ev_geti, ev_getr, ev_puti, ev_putz, ev_putr, ev_iald, ev_bald, ev_zald, ev_lald, ev_aald, ev_alen, ev_iast, ev_bast, ev_zast, ev_last, ev_aast, ev_iret, ev_zret, ev_lret, ev_aret, ev_aret_n, ev_vret, ev_nret, ev_obj, ev_call, ev_callA, ev_callT, ev_call_s, ev_callA_s, ev_callT_s, ev_new, ev_newi, ev_newl, ev_newq, ev_acpy, ev_acpl, ev_sval, ev_scod, ev_sal, ev_sbl, ev_dead, lv_args, lk, st1, st2, ins, sa, rcv, swp_nil, swp_cons, Value.category, Option.toList_some, Option.toList_none, List.nil_append, List.cons_append, List.filter_cons, List.filter_nil, List.length_cons, List.length_nil, Bool.not_true, Bool.not_false, Bool.and_true, Bool.true_and, Bool.false_and, Bool.and_false, Nat.reduceBEq, Nat.reduceAdd, Nat.reduceSub, Nat.reduceMul, Nat.reduceEqDiff, Nat.reduceLT, Nat.reduceLeDiff, reduceIte, if_true, if_false, ite_true, ite_false, true_and, and_true, true_or, or_true, false_or, or_false, Nat.zero_le, Nat.le_refl, not_false_eq_true, not_true_eq_false, Bool.false_eq_true, beq_self_eq_true, Nat.add_one_ne_zero, eq_self_iff_true, Nat.zero_add, i1_0, i0_1, aref_, anull_, kd_0, kd_1, kd_2, kd_3, kd_4, kd_5, kd_6, kd_7, kd_8, kd_9, kd_10, kd_11, kd_12, kd_13, kd_14, kd_15, kd_16, kd_17, kd_18, kd_19, kd_20, kd_21, kd_22, kd_23, kd_24, kd_25, kd_26, kd_27, kd_28, kd_29, kd_30, kd_31, kd_32, kd_33, kd_34, kd_35, kd_36, kd_37, kd_38, kd_39, ln_13, ln_14, ln_15, ln_16, ln_17, ln_18, ln_19, ln_20, ln_21, ln_22, ln_23, ln_24, ln_25, ln_26, ln_27, ln_28, ln_29, ln_30, ln_31, ln_32, ln_33, ln_34, ln_35, ln_36, ln_37, ln_38, ln_39, lit, pk_mul, nI_add, nI_clamp, in_iff, nI_eq, nI_leI, nI_ltI, upd_eq, upd_ne, updL_eq, updL_ne, ui_ua, uj_ua, ua_eq, ua_ua, vqVC_divide_40, vqVC_divide_38, vqVC_divide_26, vqVC_divide_21, vqVC_divide_7, vqVC_divide_0]); (try simp only [bk_0, bk_1, bk_2, bk_3, bk_4, bk_5, bk_6, bk_7, bk_8, bk_9, bk_10, bk_11, bk_12, bk_13, bk_14, bk_15, bk_16, bk_17, bk_18, bk_19, bk_20, bk_21, bk_22, bk_23, bk_24, bk_25, bk_26, bk_27, bk_28, bk_29, bk_30, bk_31, bk_32, bk_33, bk_34, bk_35, bk_36, bk_37, bk_38, bk_39, bk_40, bk_41, bk_42, bk_43, bk_44, bk_45, bk_46, bk_47, bk_48, bk_49, bk_50, bk_51, bk_52, bk_53, bk_54, bk_55, bk_56, bk_57, bk_58, bk_59, bk_60, bk_61, bk_62, bk_63, bk_99, bk_100, bk_255, bk_320, bk_500, bk_600, bk_620, bk_1000, bk_12345, bk_1103515245]))
    exact h0 (fun g' w => by rw [hy] at w; cases w)
  | some g =>
    obtain ⟨hg, rfl⟩ := ix_some hy
    refine sp_VC_isGood_t hg ?_
    simp only [ev_iadd, ev_isub, ev_imul, ev_iand, ev_ishr, ev_iushr, ev_idiv, ev_irem, ev_ladd, ev_lsub, ev_lmul, ev_ldiv, ev_lrem, ev_lcmp, ev_ineg, ev_i2l, ev_i2b, ev_i2c, ev_l2i, ev_pop, ev_ci, ev_cl, ev_null, ev_cs, ev_gcs, ev_fmt, ev_ild, ev_ild_int, ev_lld, ev_lld_long, ev_ald, ev_ald_ref, ev_ald_null, ev_inc, ev_inc_int, ev_ist, ev_lst, ev_ast, ev_ast_null, ev_dup, ev_dup2, ev_if_eq, ev_if_ne, ev_if_lt, ev_if_ge, ev_if_gt, ev_if_le, ev_ic_eq, ev_ic_ne, ev_ic_lt, ev_ic_ge, ev_ic_gt, ev_ic_le, ev_ifnull_n, ev_ifnull_r, ev_ifnonnull_n, ev_ifnonnull_r, ev_sw, ev_geti, ev_getr, ev_puti, ev_putz, ev_putr, ev_iald, ev_bald, ev_zald, ev_lald, ev_aald, ev_alen, ev_iast, ev_bast, ev_zast, ev_last, ev_aast, ev_iret, ev_zret, ev_lret, ev_aret, ev_aret_n, ev_vret, ev_nret, ev_obj, ev_call, ev_callA, ev_callT, ev_call_s, ev_callA_s, ev_callT_s, ev_new, ev_newi, ev_newl, ev_newq, ev_acpy, ev_acpl, ev_sval, ev_scod, ev_sal, ev_sbl, ev_dead, lv_args, lk, st1, st2, ins, sa, rcv, swp_nil, swp_cons, Value.category, Option.toList_some, Option.toList_none, List.nil_append, List.cons_append, List.filter_cons, List.filter_nil, List.length_cons, List.length_nil, Bool.not_true, Bool.not_false, Bool.and_true, Bool.true_and, Bool.false_and, Bool.and_false, Nat.reduceBEq, Nat.reduceAdd, Nat.reduceSub, Nat.reduceMul, Nat.reduceEqDiff, Nat.reduceLT, Nat.reduceLeDiff, reduceIte, if_true, if_false, ite_true, ite_false, true_and, and_true, true_or, or_true, false_or, or_false, Nat.zero_le, Nat.le_refl, not_false_eq_true, not_true_eq_false, Bool.false_eq_true, beq_self_eq_true, Nat.add_one_ne_zero, eq_self_iff_true, Nat.zero_add, i1_0, i0_1, aref_, anull_, kd_0, kd_1, kd_2, kd_3, kd_4, kd_5, kd_6, kd_7, kd_8, kd_9, kd_10, kd_11, kd_12, kd_13, kd_14, kd_15, kd_16, kd_17, kd_18, kd_19, kd_20, kd_21, kd_22, kd_23, kd_24, kd_25, kd_26, kd_27, kd_28, kd_29, kd_30, kd_31, kd_32, kd_33, kd_34, kd_35, kd_36, kd_37, kd_38, kd_39, ln_13, ln_14, ln_15, ln_16, ln_17, ln_18, ln_19, ln_20, ln_21, ln_22, ln_23, ln_24, ln_25, ln_26, ln_27, ln_28, ln_29, ln_30, ln_31, ln_32, ln_33, ln_34, ln_35, ln_36, ln_37, ln_38, ln_39, vqVC_divide_40, vqVC_divide_38, vqVC_divide_26, vqVC_divide_21, vqVC_divide_7, vqVC_divide_0, hV.1, hC.sk, et]
    have no : ¬ div_ok a g z → K (some (.int (-1))) E R I J := fun w => h0 (fun g' z2 => by rw [hy] at z2; cases z2; exact w)
    have i1 : (1 : Int32).toInt = 1 := by decide
    have i0 : (0 : Int32).toInt = 0 := by decide
    by_cases c0 : a 2 < 1
    · rw [if_pos c0]
      refine no (fun w => w.1 ((eq_int _ _).mpr ?_))
      have := hi.to
      rw [lt_int, i1] at c0
      rw [i0]
      omega
    rw [if_neg c0]
    by_cases c1 : z < 1
    · rw [if_pos c1]
      exact no (fun w => w.2.1 c1)
    rw [if_neg c1]
    refine sp_Company_freeAtHome hC hr hg ?_
    simp only [ev_iadd, ev_isub, ev_imul, ev_iand, ev_ishr, ev_iushr, ev_idiv, ev_irem, ev_ladd, ev_lsub, ev_lmul, ev_ldiv, ev_lrem, ev_lcmp, ev_ineg, ev_i2l, ev_i2b, ev_i2c, ev_l2i, ev_pop, ev_ci, ev_cl, ev_null, ev_cs, ev_gcs, ev_fmt, ev_ild, ev_ild_int, ev_lld, ev_lld_long, ev_ald, ev_ald_ref, ev_ald_null, ev_inc, ev_inc_int, ev_ist, ev_lst, ev_ast, ev_ast_null, ev_dup, ev_dup2, ev_if_eq, ev_if_ne, ev_if_lt, ev_if_ge, ev_if_gt, ev_if_le, ev_ic_eq, ev_ic_ne, ev_ic_lt, ev_ic_ge, ev_ic_gt, ev_ic_le, ev_ifnull_n, ev_ifnull_r, ev_ifnonnull_n, ev_ifnonnull_r, ev_sw, ev_geti, ev_getr, ev_puti, ev_putz, ev_putr, ev_iald, ev_bald, ev_zald, ev_lald, ev_aald, ev_alen, ev_iast, ev_bast, ev_zast, ev_last, ev_aast, ev_iret, ev_zret, ev_lret, ev_aret, ev_aret_n, ev_vret, ev_nret, ev_obj, ev_call, ev_callA, ev_callT, ev_call_s, ev_callA_s, ev_callT_s, ev_new, ev_newi, ev_newl, ev_newq, ev_acpy, ev_acpl, ev_sval, ev_scod, ev_sal, ev_sbl, ev_dead, lv_args, lk, st1, st2, ins, sa, rcv, swp_nil, swp_cons, Value.category, Option.toList_some, Option.toList_none, List.nil_append, List.cons_append, List.filter_cons, List.filter_nil, List.length_cons, List.length_nil, Bool.not_true, Bool.not_false, Bool.and_true, Bool.true_and, Bool.false_and, Bool.and_false, Nat.reduceBEq, Nat.reduceAdd, Nat.reduceSub, Nat.reduceMul, Nat.reduceEqDiff, Nat.reduceLT, Nat.reduceLeDiff, reduceIte, if_true, if_false, ite_true, ite_false, true_and, and_true, true_or, or_true, false_or, or_false, Nat.zero_le, Nat.le_refl, not_false_eq_true, not_true_eq_false, Bool.false_eq_true, beq_self_eq_true, Nat.add_one_ne_zero, eq_self_iff_true, Nat.zero_add, i1_0, i0_1, aref_, anull_, kd_0, kd_1, kd_2, kd_3, kd_4, kd_5, kd_6, kd_7, kd_8, kd_9, kd_10, kd_11, kd_12, kd_13, kd_14, kd_15, kd_16, kd_17, kd_18, kd_19, kd_20, kd_21, kd_22, kd_23, kd_24, kd_25, kd_26, kd_27, kd_28, kd_29, kd_30, kd_31, kd_32, kd_33, kd_34, kd_35, kd_36, kd_37, kd_38, kd_39, ln_13, ln_14, ln_15, ln_16, ln_17, ln_18, ln_19, ln_20, ln_21, ln_22, ln_23, ln_24, ln_25, ln_26, ln_27, ln_28, ln_29, ln_30, ln_31, ln_32, ln_33, ln_34, ln_35, ln_36, ln_37, ln_38, ln_39, vqVC_divide_40, vqVC_divide_38, vqVC_divide_26, vqVC_divide_21, vqVC_divide_7, vqVC_divide_0, hV.1, hC.sk]
    by_cases c2 : a (10 + g) - m_carr a g < z
    · rw [if_neg (Int32.not_le.mpr c2)]
      exact no (fun w => w.2.2 c2)
    rw [if_pos (Int32.not_lt.mp c2)]
    have ht : 0 < (a 2).toInt := by rw [lt_int, i1] at c0; omega
    have hz : 0 < z.toInt := by rw [lt_int, i1] at c1; omega
    have t64 : ¬ (a 2).toInt64 = 0 := fun w => by
      have := congrArg Int64.toInt w
      rw [Int32.toInt_toInt64] at this
      have e0 : (0 : Int64).toInt = 0 := by decide
      omega
    have n0 : ¬ a 2 = 0 := fun w => by rw [w, i0] at ht; omega
    refine sp_Stock_share hC.st hg (by rw [et]; exact Int32.not_lt.mp c0) (by rw [et]; exact t64) (fun S C V s0 c0' v0 hS hC' hV' => ?_)
    rw [et] at hS hC' hV'
    have main : ∀ q, q ≤ 10 → Rel R X (ua (ua (ua (ua I (rc 8 X) (upd (I (rc 8 X)) 2 1)) (rc 32 X) (S q)) (rc 33 X) (C q)) (rc 34 X) (fun g' => m_carr (m_dv (upd a 3 1) g z q).1 g')) J (m_dv (upd a 3 1) g z q).1 b M ∧ V q = (m_dv (upd a 3 1) g z q).2 := by
      intro q
      induction q with
      | zero =>
        intro _
        refine ⟨?_, v0⟩
        have r1 := hr.up (v := 1) (i := 3) (c := rc 8 0) (s := 2) (by decide +kernel) (rcX 8 0 X) (by decide +kernel)
        have r2 := r1.rowI (r := 34) (o := X) (f := fun g' => m_carr (upd a 3 1) g') (Or.inr (Or.inr (Or.inr rfl))) (fun g hg => by rw [ua_eq]) (r1.kP (by decide) (by decide)) (r1.kT (by decide) (by decide)) (r1.kO (by decide) (by decide)) (r1.kG (by decide) (by decide))
        rw [s0, c0']
        have e1 : ua (ua (ua I (rc 8 X) (upd (I (rc 8 X)) 2 1)) (rc 32 X) (I (rc 32 X))) (rc 33 X) (I (rc 33 X)) = ua I (rc 8 X) (upd (I (rc 8 X)) 2 1) := by
          funext c
          simp only [ua_at]
          by_cases w1 : c = rc 33 X
          · subst w1; rw [if_pos rfl, if_neg (rc_ne (by decide) (by decide) (by decide))]
          · rw [if_neg w1]
            by_cases w2 : c = rc 32 X
            · subst w2; rw [if_pos rfl, if_neg (rc_ne (by decide) (by decide) (by decide))]
            · rw [if_neg w2]
        rw [e1]
        exact r2
      | succ q ih =>
        intro hq
        obtain ⟨rq, vq⟩ := ih (by omega)
        have hq10 : q < 10 := by omega
        have f1 := rq.rest hq10 hg
        have f2 := rq.held hq10
        have f3 := rq.got hq10 hg
        simp (disch := omega) only [ua_rc, ua_eq] at f1 f2 f3
        have f4 : (m_dv (upd a 3 1) g z q).1 2 = a 2 := by rw [m_dv_2, upd_ne (by decide)]
        have ed : k_due (I (rc 31 X)) (S q) g z q = m_due (m_dv (upd a 3 1) g z q).1 g z q := by
          unfold k_due m_due
          rw [f1, f2]
        have eS := hS q
        have eC := hC' q
        have eV := hV' q
        rw [ed, ← f4] at eS eC eV
        rw [f3] at eC
        have r1 := rq.upR (F := fun g' => m_carr (upd (m_dv (upd a 3 1) g z q).1 (150 + 10 * q + 1 + g) (lrm (m_due (m_dv (upd a 3 1) g z q).1 g z q) ((m_dv (upd a 3 1) g z q).1 2).toInt64).toInt32) g') (mp_rest q hq10 g hg) (rcX 32 0 X) (by omega) (by omega) (by decide) (fun g' _ => rfl)
        have r2 := r1.up (v := (m_dv (upd a 3 1) g z q).1 (150 + 10 * q + 5 + g) + m_whole (m_dv (upd a 3 1) g z q).1 g z q) (mp_got q hq10 g hg) (rcX 33 0 X) (pl_got q hq10 g hg)
        refine ⟨?_, by rw [eV, vq]; rfl⟩
        rw [eS, eC]
        have r3 := r2.rowI (r := 34) (o := X) (f := fun g' => m_carr (m_dv (upd a 3 1) g z (q + 1)).1 g') (Or.inr (Or.inr (Or.inr rfl))) (fun g' hg' => by rw [ua_eq]; rfl) (r2.kP (by decide) (by decide)) (r2.kT (by decide) (by decide)) (r2.kO (by decide) (by decide)) (r2.kG (by decide) (by decide))
        simp (disch := omega) only [ua_rc, ua_eq, ua_ua, ua_sw, Nat.add_zero] at r3
        refine (congrArg (fun Q => Rel R X Q J (m_dv (upd a 3 1) g z (q + 1)).1 b M) ?_).mp r3
        funext c
        simp only [ua_at]
        repeat' split
        all_goals first | rfl | (exfalso; unfold rc at *; omega)
    obtain ⟨r10, v10⟩ := main 10 (Nat.le_refl _)
    have cf := dv_carr (a := upd a 3 1) (g := g) (y := z) hi.dvi.up3 hg (by rw [upd_ne (by decide)]; exact ht) hz
    have cn : ∀ g', g' < 4 → g' ≠ g → m_carr (m_dv (upd a 3 1) g z 10).1 g' = m_carr a g' := by
      intro g' hg' hne
      have : ∀ q, q ≤ 10 → m_rsum (m_dv (upd a 3 1) g z 10).1 g' q = m_rsum a g' q := by
        intro q
        induction q with
        | zero => intro _; rfl
        | succ q ih =>
          intro hq
          simp only [m_rsum]
          rw [ih (by omega), m_dv_ne 10 (by intro p hp; omega), upd_ne (by omega)]
      unfold m_carr
      rw [this 10 (by decide), m_dv_2, upd_ne (by decide)]
    have c3 : m_carr (upd a 3 1) g = m_carr a g := m_carr_upd hg (by decide) (by omega)
    rw [c3] at cf
    have r11 := r10.rowI (r := 34) (o := X) (f := upd (I (rc 34 X)) g (I (rc 34 X) g + (z - V 10))) (Or.inr (Or.inr (Or.inr rfl))) (fun g' hg' => by
      rw [ua_eq]
      by_cases e : g' = g
      · subst e
        rw [upd_eq, hr.asd g' hg', v10]
        exact cf
      · rw [upd_ne e, hr.asd g' hg', cn g' hg' e]) (r10.kP (by decide) (by decide)) (r10.kT (by decide) (by decide)) (r10.kO (by decide) (by decide)) (r10.kG (by decide) (by decide))
    have es := r11.store (p := 0) (by decide) hg
    have r12 := r11.up (v := (m_dv (upd a 3 1) g z 10).1 (10 + g) - V 10) (mp_store 0 (by decide) g hg) (rcX 27 0 X) (pl_base 0 (by decide) g hg).2.2.1
    have r13 := r12.upJ (g := g) (q := 3) (k := 5) (v := b (8 * g + 3) + (V 10).toInt64) hg (by decide) rfl
    have ej := hr.jb g hg 3 (by decide)
    rw [show g * 7 + qk 3 = g * 7 + 5 from rfl] at ej
    simp (disch := omega) only [ua_rc, ua_eq, ua_ua, Nat.mul_zero, Nat.add_zero] at es r13
    ((try simp only [ev_iadd, ev_isub, ev_imul, ev_iand, ev_ishr, ev_iushr, ev_idiv, ev_irem, ev_ladd, ev_lsub, ev_lmul, ev_ldiv, ev_lrem, ev_lcmp, ev_ineg, ev_i2l, ev_i2b, ev_i2c, ev_l2i, ev_pop, ev_ci, ev_cl, ev_null, ev_cs, ev_gcs, ev_fmt, ev_ild, ev_ild_int, ev_lld, ev_lld_long, ev_ald, ev_ald_ref, ev_ald_null, ev_inc, ev_inc_int, ev_ist, ev_lst, ev_ast, ev_ast_null, ev_dup, ev_dup2, ev_if_eq, ev_if_ne, ev_if_lt, ev_if_ge, ev_if_gt, ev_if_le, ev_ic_eq, ev_ic_ne, ev_ic_lt, ev_ic_ge, ev_ic_gt, ev_ic_le, ev_ifnull_n, ev_ifnull_r, ev_ifnonnull_n, ev_ifnonnull_r, ev_sw, ev_geti, ev_getr, ev_puti, ev_putz, ev_putr, ev_iald, ev_bald, ev_zald, ev_lald, ev_aald, ev_alen, ev_iast, ev_bast, ev_zast, ev_last, ev_aast, ev_iret, ev_zret, ev_lret, ev_aret, ev_aret_n, ev_vret, ev_nret, ev_obj, ev_call, ev_callA, ev_callT, ev_call_s, ev_callA_s, ev_callT_s, ev_new, ev_newi, ev_newl, ev_newq, ev_acpy, ev_acpl, ev_sval, ev_scod, ev_sal, ev_sbl, ev_dead, lv_args, lk, st1, st2, ins, sa, rcv, swp_nil, swp_cons, Value.category, Option.toList_some, Option.toList_none, List.nil_append, List.cons_append, List.filter_cons, List.filter_nil, List.length_cons, List.length_nil, Bool.not_true, Bool.not_false, Bool.and_true, Bool.true_and, Bool.false_and, Bool.and_false, Nat.reduceBEq, Nat.reduceAdd, Nat.reduceSub, Nat.reduceMul, Nat.reduceEqDiff, Nat.reduceLT, Nat.reduceLeDiff, reduceIte, if_true, if_false, ite_true, ite_false, true_and, and_true, true_or, or_true, false_or, or_false, Nat.zero_le, Nat.le_refl, not_false_eq_true, not_true_eq_false, Bool.false_eq_true, beq_self_eq_true, Nat.add_one_ne_zero, eq_self_iff_true, Nat.zero_add, i1_0, i0_1, aref_, anull_, kd_0, kd_1, kd_2, kd_3, kd_4, kd_5, kd_6, kd_7, kd_8, kd_9, kd_10, kd_11, kd_12, kd_13, kd_14, kd_15, kd_16, kd_17, kd_18, kd_19, kd_20, kd_21, kd_22, kd_23, kd_24, kd_25, kd_26, kd_27, kd_28, kd_29, kd_30, kd_31, kd_32, kd_33, kd_34, kd_35, kd_36, kd_37, kd_38, kd_39, ln_13, ln_14, ln_15, ln_16, ln_17, ln_18, ln_19, ln_20, ln_21, ln_22, ln_23, ln_24, ln_25, ln_26, ln_27, ln_28, ln_29, ln_30, ln_31, ln_32, ln_33, ln_34, ln_35, ln_36, ln_37, ln_38, ln_39, vqVC_divide_40, vqVC_divide_38, vqVC_divide_26, vqVC_divide_21, vqVC_divide_7, vqVC_divide_0, hV.1, hC.po, hC.pp 0 (by decide), hC.p1 0 (by decide), hC.bo, es, ua_rc]); (try simp (disch := omega) only [ev_iadd, ev_isub, ev_imul, ev_iand, ev_ishr, ev_iushr, ev_idiv, ev_irem, ev_ladd, ev_lsub, ev_lmul, ev_ldiv, ev_lrem, ev_lcmp, ev_ineg, ev_i2l, ev_i2b, ev_i2c, ev_l2i, ev_pop, ev_ci, ev_cl, ev_null, ev_cs, ev_gcs, ev_fmt, ev_ild, ev_ild_int, ev_lld, ev_lld_long, ev_ald, ev_ald_ref, ev_ald_null, ev_inc, ev_inc_int, ev_ist, ev_lst, ev_ast, ev_ast_null, ev_dup, ev_dup2, ev_if_eq, ev_if_ne, ev_if_lt, ev_if_ge, ev_if_gt, ev_if_le, ev_ic_eq, ev_ic_ne, ev_ic_lt, ev_ic_ge, ev_ic_gt, ev_ic_le, ev_ifnull_n, ev_ifnull_r, ev_ifnonnull_n, ev_ifnonnull_r, ev_sw, ev_geti, ev_getr, ev_puti, ev_putz, ev_putr, ev_iald, ev_bald, ev_zald, ev_lald, ev_aald, ev_alen, ev_iast, ev_bast, ev_zast, ev_last, ev_aast, ev_iret, ev_zret, ev_lret, ev_aret, ev_aret_n, ev_vret, ev_nret, ev_obj, ev_call, ev_callA, ev_callT, ev_call_s, ev_callA_s, ev_callT_s, ev_new, ev_newi, ev_newl, ev_newq, ev_acpy, ev_acpl, ev_sval, ev_scod, ev_sal, ev_sbl, ev_dead, lv_args, lk, st1, st2, ins, sa, rcv, swp_nil, swp_cons, Value.category, Option.toList_some, Option.toList_none, List.nil_append, List.cons_append, List.filter_cons, List.filter_nil, List.length_cons, List.length_nil, Bool.not_true, Bool.not_false, Bool.and_true, Bool.true_and, Bool.false_and, Bool.and_false, Nat.reduceBEq, Nat.reduceAdd, Nat.reduceSub, Nat.reduceMul, Nat.reduceEqDiff, Nat.reduceLT, Nat.reduceLeDiff, reduceIte, if_true, if_false, ite_true, ite_false, true_and, and_true, true_or, or_true, false_or, or_false, Nat.zero_le, Nat.le_refl, not_false_eq_true, not_true_eq_false, Bool.false_eq_true, beq_self_eq_true, Nat.add_one_ne_zero, eq_self_iff_true, Nat.zero_add, i1_0, i0_1, aref_, anull_, kd_0, kd_1, kd_2, kd_3, kd_4, kd_5, kd_6, kd_7, kd_8, kd_9, kd_10, kd_11, kd_12, kd_13, kd_14, kd_15, kd_16, kd_17, kd_18, kd_19, kd_20, kd_21, kd_22, kd_23, kd_24, kd_25, kd_26, kd_27, kd_28, kd_29, kd_30, kd_31, kd_32, kd_33, kd_34, kd_35, kd_36, kd_37, kd_38, kd_39, ln_13, ln_14, ln_15, ln_16, ln_17, ln_18, ln_19, ln_20, ln_21, ln_22, ln_23, ln_24, ln_25, ln_26, ln_27, ln_28, ln_29, ln_30, ln_31, ln_32, ln_33, ln_34, ln_35, ln_36, ln_37, ln_38, ln_39, lit, pk_mul, nI_add, nI_clamp, in_iff, nI_eq, nI_leI, nI_ltI, upd_eq, upd_ne, updL_eq, updL_ne, ui_ua, uj_ua, ua_eq, ua_ua, vqVC_divide_40, vqVC_divide_38, vqVC_divide_26, vqVC_divide_21, vqVC_divide_7, vqVC_divide_0, hV.1, hC.po, hC.pp 0 (by decide), hC.p1 0 (by decide), hC.bo, es, ua_rc]); (try simp only [bk_0, bk_1, bk_2, bk_3, bk_4, bk_5, bk_6, bk_7, bk_8, bk_9, bk_10, bk_11, bk_12, bk_13, bk_14, bk_15, bk_16, bk_17, bk_18, bk_19, bk_20, bk_21, bk_22, bk_23, bk_24, bk_25, bk_26, bk_27, bk_28, bk_29, bk_30, bk_31, bk_32, bk_33, bk_34, bk_35, bk_36, bk_37, bk_38, bk_39, bk_40, bk_41, bk_42, bk_43, bk_44, bk_45, bk_46, bk_47, bk_48, bk_49, bk_50, bk_51, bk_52, bk_53, bk_54, bk_55, bk_56, bk_57, bk_58, bk_59, bk_60, bk_61, bk_62, bk_63, bk_99, bk_100, bk_255, bk_320, bk_500, bk_600, bk_620, bk_1000, bk_12345, bk_1103515245]))
    refine sp_Books_enter (q := 5) hC.en hg (by decide) ?_
    ((try simp only [ev_iadd, ev_isub, ev_imul, ev_iand, ev_ishr, ev_iushr, ev_idiv, ev_irem, ev_ladd, ev_lsub, ev_lmul, ev_ldiv, ev_lrem, ev_lcmp, ev_ineg, ev_i2l, ev_i2b, ev_i2c, ev_l2i, ev_pop, ev_ci, ev_cl, ev_null, ev_cs, ev_gcs, ev_fmt, ev_ild, ev_ild_int, ev_lld, ev_lld_long, ev_ald, ev_ald_ref, ev_ald_null, ev_inc, ev_inc_int, ev_ist, ev_lst, ev_ast, ev_ast_null, ev_dup, ev_dup2, ev_if_eq, ev_if_ne, ev_if_lt, ev_if_ge, ev_if_gt, ev_if_le, ev_ic_eq, ev_ic_ne, ev_ic_lt, ev_ic_ge, ev_ic_gt, ev_ic_le, ev_ifnull_n, ev_ifnull_r, ev_ifnonnull_n, ev_ifnonnull_r, ev_sw, ev_geti, ev_getr, ev_puti, ev_putz, ev_putr, ev_iald, ev_bald, ev_zald, ev_lald, ev_aald, ev_alen, ev_iast, ev_bast, ev_zast, ev_last, ev_aast, ev_iret, ev_zret, ev_lret, ev_aret, ev_aret_n, ev_vret, ev_nret, ev_obj, ev_call, ev_callA, ev_callT, ev_call_s, ev_callA_s, ev_callT_s, ev_new, ev_newi, ev_newl, ev_newq, ev_acpy, ev_acpl, ev_sval, ev_scod, ev_sal, ev_sbl, ev_dead, lv_args, lk, st1, st2, ins, sa, rcv, swp_nil, swp_cons, Value.category, Option.toList_some, Option.toList_none, List.nil_append, List.cons_append, List.filter_cons, List.filter_nil, List.length_cons, List.length_nil, Bool.not_true, Bool.not_false, Bool.and_true, Bool.true_and, Bool.false_and, Bool.and_false, Nat.reduceBEq, Nat.reduceAdd, Nat.reduceSub, Nat.reduceMul, Nat.reduceEqDiff, Nat.reduceLT, Nat.reduceLeDiff, reduceIte, if_true, if_false, ite_true, ite_false, true_and, and_true, true_or, or_true, false_or, or_false, Nat.zero_le, Nat.le_refl, not_false_eq_true, not_true_eq_false, Bool.false_eq_true, beq_self_eq_true, Nat.add_one_ne_zero, eq_self_iff_true, Nat.zero_add, i1_0, i0_1, aref_, anull_, kd_0, kd_1, kd_2, kd_3, kd_4, kd_5, kd_6, kd_7, kd_8, kd_9, kd_10, kd_11, kd_12, kd_13, kd_14, kd_15, kd_16, kd_17, kd_18, kd_19, kd_20, kd_21, kd_22, kd_23, kd_24, kd_25, kd_26, kd_27, kd_28, kd_29, kd_30, kd_31, kd_32, kd_33, kd_34, kd_35, kd_36, kd_37, kd_38, kd_39, ln_13, ln_14, ln_15, ln_16, ln_17, ln_18, ln_19, ln_20, ln_21, ln_22, ln_23, ln_24, ln_25, ln_26, ln_27, ln_28, ln_29, ln_30, ln_31, ln_32, ln_33, ln_34, ln_35, ln_36, ln_37, ln_38, ln_39, vqVC_divide_40, vqVC_divide_38, vqVC_divide_26, vqVC_divide_21, vqVC_divide_7, vqVC_divide_0]); (try simp (disch := omega) only [ev_iadd, ev_isub, ev_imul, ev_iand, ev_ishr, ev_iushr, ev_idiv, ev_irem, ev_ladd, ev_lsub, ev_lmul, ev_ldiv, ev_lrem, ev_lcmp, ev_ineg, ev_i2l, ev_i2b, ev_i2c, ev_l2i, ev_pop, ev_ci, ev_cl, ev_null, ev_cs, ev_gcs, ev_fmt, ev_ild, ev_ild_int, ev_lld, ev_lld_long, ev_ald, ev_ald_ref, ev_ald_null, ev_inc, ev_inc_int, ev_ist, ev_lst, ev_ast, ev_ast_null, ev_dup, ev_dup2, ev_if_eq, ev_if_ne, ev_if_lt, ev_if_ge, ev_if_gt, ev_if_le, ev_ic_eq, ev_ic_ne, ev_ic_lt, ev_ic_ge, ev_ic_gt, ev_ic_le, ev_ifnull_n, ev_ifnull_r, ev_ifnonnull_n, ev_ifnonnull_r, ev_sw, ev_geti, ev_getr, ev_puti, ev_putz, ev_putr, ev_iald, ev_bald, ev_zald, ev_lald, ev_aald, ev_alen, ev_iast, ev_bast, ev_zast, ev_last, ev_aast, ev_iret, ev_zret, ev_lret, ev_aret, ev_aret_n, ev_vret, ev_nret, ev_obj, ev_call, ev_callA, ev_callT, ev_call_s, ev_callA_s, ev_callT_s, ev_new, ev_newi, ev_newl, ev_newq, ev_acpy, ev_acpl, ev_sval, ev_scod, ev_sal, ev_sbl, ev_dead, lv_args, lk, st1, st2, ins, sa, rcv, swp_nil, swp_cons, Value.category, Option.toList_some, Option.toList_none, List.nil_append, List.cons_append, List.filter_cons, List.filter_nil, List.length_cons, List.length_nil, Bool.not_true, Bool.not_false, Bool.and_true, Bool.true_and, Bool.false_and, Bool.and_false, Nat.reduceBEq, Nat.reduceAdd, Nat.reduceSub, Nat.reduceMul, Nat.reduceEqDiff, Nat.reduceLT, Nat.reduceLeDiff, reduceIte, if_true, if_false, ite_true, ite_false, true_and, and_true, true_or, or_true, false_or, or_false, Nat.zero_le, Nat.le_refl, not_false_eq_true, not_true_eq_false, Bool.false_eq_true, beq_self_eq_true, Nat.add_one_ne_zero, eq_self_iff_true, Nat.zero_add, i1_0, i0_1, aref_, anull_, kd_0, kd_1, kd_2, kd_3, kd_4, kd_5, kd_6, kd_7, kd_8, kd_9, kd_10, kd_11, kd_12, kd_13, kd_14, kd_15, kd_16, kd_17, kd_18, kd_19, kd_20, kd_21, kd_22, kd_23, kd_24, kd_25, kd_26, kd_27, kd_28, kd_29, kd_30, kd_31, kd_32, kd_33, kd_34, kd_35, kd_36, kd_37, kd_38, kd_39, ln_13, ln_14, ln_15, ln_16, ln_17, ln_18, ln_19, ln_20, ln_21, ln_22, ln_23, ln_24, ln_25, ln_26, ln_27, ln_28, ln_29, ln_30, ln_31, ln_32, ln_33, ln_34, ln_35, ln_36, ln_37, ln_38, ln_39, lit, pk_mul, nI_add, nI_clamp, in_iff, nI_eq, nI_leI, nI_ltI, upd_eq, upd_ne, updL_eq, updL_ne, ui_ua, uj_ua, ua_eq, ua_ua, vqVC_divide_40, vqVC_divide_38, vqVC_divide_26, vqVC_divide_21, vqVC_divide_7, vqVC_divide_0]); (try simp only [bk_0, bk_1, bk_2, bk_3, bk_4, bk_5, bk_6, bk_7, bk_8, bk_9, bk_10, bk_11, bk_12, bk_13, bk_14, bk_15, bk_16, bk_17, bk_18, bk_19, bk_20, bk_21, bk_22, bk_23, bk_24, bk_25, bk_26, bk_27, bk_28, bk_29, bk_30, bk_31, bk_32, bk_33, bk_34, bk_35, bk_36, bk_37, bk_38, bk_39, bk_40, bk_41, bk_42, bk_43, bk_44, bk_45, bk_46, bk_47, bk_48, bk_49, bk_50, bk_51, bk_52, bk_53, bk_54, bk_55, bk_56, bk_57, bk_58, bk_59, bk_60, bk_61, bk_62, bk_63, bk_99, bk_100, bk_255, bk_320, bk_500, bk_600, bk_620, bk_1000, bk_12345, bk_1103515245]))
    rw [ej, v10]
    rw [v10] at r13
    refine h1 g hy ⟨n0, c1, c2⟩ _ _ ?_ ?_ (FrX.refl.ua (by decide) (by omega) (by omega))
    · refine (congrArg (fun Q => Rel R X Q _ _ _ M) ?_).mp r13
      funext c
      simp only [ua_at]
      repeat' split
      all_goals first | rfl | (exfalso; unfold rc at *; omega) | (rw [← es]; rfl)
    · exact ((((FrX.refl.ua (by decide) (by omega) (by omega)).ua (by decide) (by omega) (by omega)).ua (by decide) (by omega) (by omega)).ua (by decide) (by omega) (by omega)).ua (by decide) (by omega) (by omega)
end DV2

/-! the reference reads a line: its act -/
section MW
variable {d : Nat} {K : Ps} {E : Nat → Prop} {R : Nat → Nat → Value} {I : Nat → Nat → Int32} {J : Nat → Nat → Int64} {g : Nat → Nat} {T : Nat} {F F' A A0 D : Nat → Int32} {p ln k : Nat} {s s0 : Nat → Nat}
theorem vlp_lt (h : cdp g T p = 2) : vlp g T p < 100000 := by
  unfold cdp cdw at h
  split at h
  · omega
  · next c1 =>
    split at h
    · next c2 =>
      split at h
      · next c3 =>
        unfold vlp
        have hv := vd_lt (g := g) (w := atp g T p) (enD g T (atp g T p) - atp g T p) (fun j hj => by
          have := rn_in (P := fun i => isDg (g i)) (j := atp g T p + j) (T - atp g T p) (atp g T p) (by omega) (by unfold enD at hj; omega)
          exact this)
        have h4 : 10 ^ (enD g T (atp g T p) - atp g T p) ≤ 10 ^ 5 := Nat.pow_le_pow_right (by decide) c3
        have h5 : 10 ^ 5 = 100000 := by decide
        omega
      · omega
    · split at h
      · have := cw_rg (wl g (atp g T p) (enL g T (atp g T p) - atp g T p)); omega
      · have := sgc_rg (g (atp g T p)); omega
/-- behind the number -/
theorem ex_Mo_aLine133g {A1 : Nat → Int32} {v w : Nat} (hR : MoR R) (hm : MTp g T A0) (m : MOk g T A0 ln s0 p F A1 D) (h1 : s0 1 = ln + 1) (h2 : s0 2 = k) (hq : s0 8 = 0 → ln < 16 ∧ s0 2 ≤ 4) (h7 : s0 7 = v) (hk : k < 1000) (hln : ln < 1000) {p0 : Nat} {z5 : Value}
    (hres : res g T s p0 = res g T (un s0 0 9) p) (hp : p0 < p)
    (hW : ∀ F' A' D' x' ln', ln' < 1001 → MWr A0 ln' x' F' A' → RW g T s p0 x' → K none E R (St I F' A' D') J)
    (hK : ∀ s' p' F' A' D', MOk g T A0 (ln + 1) s' p' F' A' D' → s' 0 = 0 → s' 1 = ln + 1 → res g T s p0 = res g T s' p' → p0 < p' → K none E R (St I F' A' D') J) :
    qMo_aLine_164 (d + 6) 0 0 (gMo_aLine (d + 6) 0 0 K) K [(0, .ref MO), (1, .int (nI k)), (2, .int (nI (s0 5 + 1))), (3, .int (nI (s0 6))), (4, .int (nI v)), (5, z5)] [] E R (St I F A1 D) J 0 0 := by
  have m' := m.unr (k := 0) (x := 9) (by decide) (by decide) (by decide) (by decide) (by decide) (by decide)
  have key := ex_Mo_aLine164 (d := d) (K := K) (E := E) (J := J) (I := I) (k := k) (tl := [(5, z5)]) hR hm m' un_eq (by rw [un_ne (by decide)]; exact h1) (by rw [un_ne (by decide)]; exact h2) (fun z => by rw [un_ne (by decide)] at z; rw [un_ne (by decide)]; exact hq z) hk hln (fun F' A' D' x' ln' l' w1 w2 => hW F' A' D' x' ln' l' w1 ⟨(congrFun hres 8).trans w2.1, (congrFun hres 9).trans w2.2⟩) (fun s' p' F' A' D' m1 m2 m3 m4 m5 => hK s' p' F' A' D' m1 m2 m3 (hres.trans m4) (by omega))
  rw [un_ne (show 5 ≠ 0 by decide), un_ne (show 6 ≠ 0 by decide), un_ne (show 7 ≠ 0 by decide), h7] at key
  exact key
end MW

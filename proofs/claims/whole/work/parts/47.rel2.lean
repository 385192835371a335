/-! the relation: writes that are not plain; frames -/
section RL2
variable {R : Nat → Nat → Value} {I : Nat → Nat → Int32} {J : Nat → Nat → Int64} {a : Nat → Int32} {b : Nat → Int64} {M X : Nat}
/-- all but company X is as it was -/
def FrX {α : Type} (X : Nat) (I I' : Nat → α) : Prop := ∀ c, c < 64 * X ∨ 64 * (X + 100) ≤ c → I' c = I c
theorem FrX.refl {α : Type} {I : Nat → α} : FrX X I I := fun _ _ => rfl
theorem FrX.trans {α : Type} {I I' I'' : Nat → α} (h : FrX X I I') (h' : FrX X I' I'') : FrX X I I'' := fun c hc => (h' c hc).trans (h c hc)
theorem FrX.ua {α : Type} {I I' : Nat → Nat → α} {r o : Nat} {f : Nat → α} (h : FrX X I I') (hr : r < 64) (ho : X ≤ o) (ho' : o < X + 100) : FrX X I (ua I' (rc r o) f) := fun c hc => by
  rw [ua_ne (by unfold rc; omega)]
  exact h c hc
theorem Rel.upG {i c s C : Nat} {v : Int32} (h : Rel R X I J a b M) (hi : mpI i = some (c, s)) (hC : c + 64 * X = C)
    (hsea : ∀ q, q < 4 → upd a i v (250 + 16 * q + 4) = -1 → I (rc 7 (X + q)) 7 = a (250 + 16 * q + 5) ∧ I (rc 7 (X + q)) 8 = a (250 + 16 * q + 6))
    (hasd : ∀ g, g < 4 → I (rc 34 X) g = m_carr (upd a i v) g)
    (htap : ∀ T, upd a i v 4 = nI T → T ≤ 500 → ∀ j, j < T → bt (I (rc 13 X) j) (a (17100 + j)))
    (hord : ∀ p, 1 ≤ p → p < 5 → ∀ L, upd a i v (320 + 4 * p) = nI L → L ≤ 16 → ∀ l, l < L → OL I (X + p) a p l) : Rel R X (ua I C (upd (I C) s v)) J (upd a i v) b M := by
  have hm := Rel.m1up (v := v) hi hC h
  obtain ⟨o1, o2, o3, o4, o5, o6, o7, o8⟩ := okcs_cases (mpI_iv hi).2
  have hcm : C % 64 = c % 64 := by omega
  have hlt := mpI_lt hi
  have h56 : ∀ q, q < 4 → 250 + 16 * q + 5 ≠ i ∧ 250 + 16 * q + 6 ≠ i := by
    intro q hq
    have : ∀ q, q < 4 → mpI (250 + 16 * q + 5) = none ∧ mpI (250 + 16 * q + 6) = none := by decide +kernel
    refine ⟨fun e => ?_, fun e => ?_⟩
    · rw [← e, (this q hq).1] at hi; cases hi
    · rw [← e, (this q hq).2] at hi; cases hi
  clear hi
  have hr : ∀ r o, r < 64 → r ≠ c % 64 → rc r o ≠ C := fun r o h1 h2 z => h2 (by rw [← hcm, ← z]; unfold rc; omega)
  have x7 : ∀ o, rc 7 o = C → c % 64 = 7 := fun o z => by rw [← hcm, ← z]; unfold rc; omega
  have x5 : ∀ o, rc 5 o = C → c % 64 = 5 := fun o z => by rw [← hcm, ← z]; unfold rc; omega
  have r34 : rc 34 X ≠ C := hr 34 X (by decide) (fun z => o2 z.symm)
  have r29 : ∀ o, rc 29 o ≠ C := fun o => hr 29 o (by decide) (fun z => o3 z.symm)
  have r13 : rc 13 X ≠ C := hr 13 X (by decide) (fun z => o4 z.symm)
  have r19 : ∀ r o, 19 ≤ r → r ≤ 26 → rc r o ≠ C := fun r o h1 h2 => hr r o (by omega) (by omega)
  have big : ∀ k, 340 ≤ k → k ≠ i := fun k hk => by omega
  have ub : ∀ k, 340 ≤ k → upd a i v k = a k := fun k hk => upd_ne (big k hk)
  clear hcm hr o1 o2 o3 o4 o5 o8 hlt
  refine Rel.mk ?_ ?_ ?_ ?_ ?_ ?_ ?_ ?_ ?_
  · exact hm
  · exact h.jb
  · intro p hp5
    rw [ua_at]
    split
    next z =>
      rw [upd_ne (fun e => o7 (x5 _ z) e.symm), ← z]
      exact h.num p hp5
    next => exact h.num p hp5
  · intro q hq hs
    have := hsea q hq hs
    rw [upd_ne (h56 q hq).1, upd_ne (h56 q hq).2, ua_at]
    split
    next z =>
      have e := x7 _ z
      rw [upd_ne (fun e' => (o6 e).1 e'.symm), upd_ne (fun e' => (o6 e).2 e'.symm), ← z]
      exact this
    next => exact this
  · intro g hg
    rw [ua_ne r34]
    exact hasd g hg
  · intro p i' h1 h5 h13
    rw [ua_ne (r29 _), ub _ (by omega)]
    exact h.pst p i' h1 h5 h13
  · intro T hT hT5 i' hi'
    rw [ua_ne r13, ub _ (by omega)]
    exact htap T hT hT5 i' hi'
  · intro p h1 h5 L hL hL16 l hl
    exact (hord p h1 h5 L hL hL16 l hl).wr big (fun r h19 h26 => r19 r _ h19 h26)
  · intro m hm'
    refine ⟨(h.pag m hm').1, fun k hk => ?_⟩
    rw [ua_ne (r19 26 _ (by decide) (by decide)), ub _ (by omega)]
    exact (h.pag m hm').2 k hk
/-- the reference writes beyond the map alone -/
theorem Rel.cgA {a' : Nat → Int32} {M' : Nat} (h : Rel R X I J a b M) (ha : ∀ i, i < 340 → a' i = a i)
    (hp : ∀ p i, 1 ≤ p → p < 5 → i < 13 → I (rc 29 (X + p)) ((wn M' + i) % 13) = a' (2000 + 620 * p + (wn M' + i)))
    (ht : ∀ T, a 4 = nI T → T ≤ 500 → ∀ i, i < T → bt (I (rc 13 X) i) (a' (17100 + i)))
    (ho : ∀ p, 1 ≤ p → p < 5 → ∀ L, a (320 + 4 * p) = nI L → L ≤ 16 → ∀ l, l < L → OL I (X + p) a' p l)
    (hg : ∀ m, m < pb M' → R (rc 18 X) (m / 60) = .ref (rc 4 (X + m / 60)) ∧ ∀ k, k < 20 → I (rc 26 (X + m / 60)) (m % 60 * 20 + k) = a' (5100 + 20 * m + k)) : Rel R X I J a' b M' := by
  have hc : ∀ g, g < 4 → m_carr a' g = m_carr a g := by
    intro g hg
    have : ∀ q, q ≤ 10 → m_rsum a' g q = m_rsum a g q := by
      intro q
      induction q with
      | zero => intro _; rfl
      | succ q ih => intro hq; simp only [m_rsum]; rw [ih (by omega), ha _ (by omega)]
    unfold m_carr
    rw [this 10 (by decide), ha 2 (by decide)]
  refine Rel.mk ?_ h.jb h.num ?_ ?_ hp ?_ ?_ hg
  · intro i c s hi
    rw [ha i (mpI_lt hi)]
    exact h.m1 i c s hi
  · intro s hs
    rw [ha _ (by omega), ha _ (by omega), ha _ (by omega)]
    exact h.sea s hs
  · intro g hg
    rw [hc g hg]
    exact h.asd g hg
  · intro T hT
    rw [ha 4 (by decide)] at hT
    exact ht T hT
  · intro p h1 h5 L hL
    rw [ha _ (by omega)] at hL
    exact ho p h1 h5 L hL
theorem OL.cg {I I' : Nat → Nat → Int32} {a a' : Nat → Int32} {o p l : Nat} (h : OL I o a p l) (hI : ∀ r, 19 ≤ r → r ≤ 25 → I' (rc r o) = I (rc r o)) (ha : ∀ k, k < 20 → a' (350 + 320 * p + 20 * l + k) = a (350 + 320 * p + 20 * l + k)) : OL I' o a' p l := by
  have h0 := ha 0 (by decide)
  rw [Nat.add_zero] at h0
  refine OL.mk ?_ ?_ ?_ ?_ ?_
  · rw [hI 22 (by decide) (by decide), h0]; exact h.tc
  · rw [hI 19 (by decide) (by decide), ha 17 (by decide)]; exact h.ac
  · rw [hI 20 (by decide) (by decide), ha 18 (by decide)]; exact h.gd
  · rw [hI 21 (by decide) (by decide), ha 19 (by decide)]; exact h.nu
  · intro t T hT hT4 ht
    rw [h0] at hT
    have e1 := ha (1 + 3 * t) (by omega)
    have e2 := ha (2 + 3 * t) (by omega)
    have e3 := ha (3 + 3 * t) (by omega)
    rw [← Nat.add_assoc] at e1 e2 e3
    rw [hI 23 (by decide) (by decide), hI 24 (by decide) (by decide), hI 25 (by decide) (by decide), e1, e2, e3]
    exact h.te t T hT hT4 ht
/-- a row of the class alone is written -/
theorem Rel.rowI {r o : Nat} {f : Nat → Int32} (h : Rel R X I J a b M) (hr : r = 13 ∨ (19 ≤ r ∧ r ≤ 26) ∨ r = 29 ∨ r = 34)
    (hs : ∀ g, g < 4 → ua I (rc r o) f (rc 34 X) g = m_carr a g)
    (hp : ∀ p i, 1 ≤ p → p < 5 → i < 13 → ua I (rc r o) f (rc 29 (X + p)) ((wn M + i) % 13) = a (2000 + 620 * p + (wn M + i)))
    (ht : ∀ T, a 4 = nI T → T ≤ 500 → ∀ i, i < T → bt (ua I (rc r o) f (rc 13 X) i) (a (17100 + i)))
    (ho : ∀ p, 1 ≤ p → p < 5 → ∀ L, a (320 + 4 * p) = nI L → L ≤ 16 → ∀ l, l < L → OL (ua I (rc r o) f) (X + p) a p l)
    (hg : ∀ m, m < pb M → R (rc 18 X) (m / 60) = .ref (rc 4 (X + m / 60)) ∧ ∀ k, k < 20 → ua I (rc r o) f (rc 26 (X + m / 60)) (m % 60 * 20 + k) = a (5100 + 20 * m + k)) : Rel R X (ua I (rc r o) f) J a b M := by
  refine Rel.mk ?_ h.jb ?_ ?_ hs hp ht ho hg
  · intro i c s hi
    obtain ⟨o1, o2, o3, o4, o5, o6, o7, o8⟩ := okcs_cases (mpI_iv hi).2
    rw [ua_ne (by unfold rc; omega)]
    exact h.m1 i c s hi
  · intro p hp5
    rw [ua_ne (by unfold rc; omega)]
    exact h.num p hp5
  · intro s hs4
    rw [ua_ne (by unfold rc; omega)]
    exact h.sea s hs4
/-- what a row's write leaves -/
theorem Rel.kS {r o : Nat} {f : Nat → Int32} (h : Rel R X I J a b M) (hr : r < 64) (hn : r ≠ 34) : ∀ g, g < 4 → ua I (rc r o) f (rc 34 X) g = m_carr a g := by
  intro g hg
  rw [ua_ne (by unfold rc; omega)]
  exact h.asd g hg
theorem Rel.kP {r o : Nat} {f : Nat → Int32} (h : Rel R X I J a b M) (hr : r < 64) (hn : r ≠ 29) : ∀ p i, 1 ≤ p → p < 5 → i < 13 → ua I (rc r o) f (rc 29 (X + p)) ((wn M + i) % 13) = a (2000 + 620 * p + (wn M + i)) := by
  intro p i h1 h5 h13
  rw [ua_ne (by unfold rc; omega)]
  exact h.pst p i h1 h5 h13
theorem Rel.kT {r o : Nat} {f : Nat → Int32} (h : Rel R X I J a b M) (hr : r < 64) (hn : r ≠ 13) : ∀ T, a 4 = nI T → T ≤ 500 → ∀ i, i < T → bt (ua I (rc r o) f (rc 13 X) i) (a (17100 + i)) := by
  intro T hT hT5 i hi
  rw [ua_ne (by unfold rc; omega)]
  exact h.tap T hT hT5 i hi
theorem Rel.kO {r o : Nat} {f : Nat → Int32} (h : Rel R X I J a b M) (hr : r < 64) (hn : r < 19 ∨ 25 < r) : ∀ p, 1 ≤ p → p < 5 → ∀ L, a (320 + 4 * p) = nI L → L ≤ 16 → ∀ l, l < L → OL (ua I (rc r o) f) (X + p) a p l := by
  intro p h1 h5 L hL hL16 l hl
  exact (h.ord p h1 h5 L hL hL16 l hl).cg (fun r' h1 h2 => ua_ne (by unfold rc; omega)) (fun _ _ => rfl)
theorem Rel.kG {r o : Nat} {f : Nat → Int32} (h : Rel R X I J a b M) (hr : r < 64) (hn : r ≠ 26) : ∀ m, m < pb M → R (rc 18 X) (m / 60) = .ref (rc 4 (X + m / 60)) ∧ ∀ k, k < 20 → ua I (rc r o) f (rc 26 (X + m / 60)) (m % 60 * 20 + k) = a (5100 + 20 * m + k) := by
  intro m hm
  refine ⟨(h.pag m hm).1, fun k hk => ?_⟩
  rw [ua_ne (by unfold rc; omega)]
  exact (h.pag m hm).2 k hk
/-- a ship that is not at sea: where it would go, and when -/
theorem Rel.wsea {s k : Nat} {v : Int32} (h : Rel R X I J a b M) (hs : s < 4) (hk : k = 7 ∨ k = 8) (hp : a (250 + 16 * s + 4) ≠ -1) : Rel R X (ua I (rc 7 (X + s)) (upd (I (rc 7 (X + s))) k v)) J a b M := by
  refine Rel.mk ?_ h.jb ?_ ?_ (h.kS (by decide) (by decide)) (h.kP (by decide) (by decide)) (h.kT (by decide) (by decide)) (h.kO (by decide) (by decide)) (h.kG (by decide) (by decide))
  · intro i c s' hi
    obtain ⟨o1, o2, o3, o4, o5, o6, o7, o8⟩ := okcs_cases (mpI_iv hi).2
    rw [ua_at]
    split
    next z =>
      have : c % 64 = 7 := by unfold rc at z; omega
      have o6 := o6 this
      rw [upd_ne (by omega), ← z]
      exact h.m1 i c s' hi
    next => exact h.m1 i c s' hi
  · intro p hp5
    rw [ua_ne (by unfold rc; omega)]
    exact h.num p hp5
  · intro q hq hq'
    have : q ≠ s := fun e => hp (e ▸ hq')
    rw [ua_ne (by unfold rc; omega)]
    exact h.sea q hq hq'
theorem Rel.wa56 {s k : Nat} {v : Int32} (h : Rel R X I J a b M) (hs : s < 4) (hk : k = 5 ∨ k = 6) (hp : a (250 + 16 * s + 4) ≠ -1) : Rel R X I J (upd a (250 + 16 * s + k) v) b M := by
  have hmn : ∀ s, s < 4 → mpI (250 + 16 * s + 5) = none ∧ mpI (250 + 16 * s + 6) = none := by decide +kernel
  have ub : ∀ j, 340 ≤ j → upd a (250 + 16 * s + k) v j = a j := fun j hj => upd_ne (by omega)
  refine Rel.mk ?_ h.jb h.num ?_ ?_ ?_ ?_ ?_ ?_
  · intro i c s' hi
    have : i ≠ 250 + 16 * s + k := fun e => by
      rcases hk with rfl | rfl
      · rw [e, (hmn s hs).1] at hi; cases hi
      · rw [e, (hmn s hs).2] at hi; cases hi
    rw [upd_ne this]
    exact h.m1 i c s' hi
  · intro q hq hq'
    rw [upd_ne (by omega)] at hq'
    have : q ≠ s := fun e => hp (e ▸ hq')
    rw [upd_ne (by omega), upd_ne (by omega)]
    exact h.sea q hq hq'
  · intro g hg
    rw [m_carr_upd hg (by omega) (by omega)]
    exact h.asd g hg
  · intro p i h1 h5 h13
    rw [ub _ (by omega)]
    exact h.pst p i h1 h5 h13
  · intro T hT hT5 i hi
    rw [upd_ne (by omega)] at hT
    rw [ub _ (by omega)]
    exact h.tap T hT hT5 i hi
  · intro p h1 h5 L hL hL16 l hl
    rw [upd_ne (by omega)] at hL
    exact (h.ord p h1 h5 L hL hL16 l hl).cg (fun _ _ _ => rfl) (fun k' _ => ub _ (by omega))
  · intro m hm
    refine ⟨(h.pag m hm).1, fun k' hk' => ?_⟩
    rw [ub _ (by omega)]
    exact (h.pag m hm).2 k' hk'
end RL2

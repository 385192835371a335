/-! what holds between calls: the other calls keep it -/
section IV6
variable {a a' : Nat → Int32} {b : Nat → Int64} {M n : Nat} {B : Nat → Nat} {x y z w : Int32}
theorem Inv.chD (h : Inv a M n B) (he : ∀ i, (i < 2 ∨ (4 ≤ i ∧ i < 10) ∨ (14 ≤ i ∧ i < 150) ∨ 250 ≤ i) → a' i = a i) (hD : GD a') : Inv a' M n B := by
  refine Inv.of (h.gA.cg (he _ (by omega)) (he _ (by omega)) (he _ (by omega))) (h.gQ.cg (fun i _ _ => he _ (by omega))) hD (h.gS.cg h.s4 (fun i _ _ => he _ (by omega))) (h.gL.cg (fun i _ _ => he _ (by omega))) (fun q hq => (h.od q hq).cg hq (he _ (by omega)) (fun i _ _ => he _ (by omega))) h.bb
theorem Inv.chS (h : Inv a M n B) (he : ∀ i, (i < 10 ∨ (14 ≤ i ∧ i < 250) ∨ 314 ≤ i) → a' i = a i) (hS : GS a' n) : Inv a' M n B := by
  refine Inv.of (h.gA.cg (he _ (by omega)) (he _ (by omega)) (he _ (by omega))) (h.gQ.cg (fun i _ _ => he _ (by omega))) (h.gD.cg (he _ (by omega)) (he _ (by omega)) (fun i _ _ => he _ (by omega))) hS (h.gL.cg (fun i _ _ => he _ (by omega))) (fun q hq => (h.od q hq).cg hq (he _ (by omega)) (fun i _ _ => he _ (by omega))) h.bb
/-- the tape and the fault alone -/
theorem Inv.chT (h : Inv a M n B) (he : ∀ i, (i < 4 ∨ (10 ≤ i ∧ i < 17100)) → a' i = a i) (hT : ∃ T, T ≤ 500 ∧ a' 4 = nI T) : Inv a' M n B := by
  refine Inv.of (GA.mk ((he _ (by omega)).trans h.mo) h.m6 ((he _ (by omega)).trans h.sp) h.s4 hT) (h.gQ.cg (fun i _ _ => he _ (by omega))) (h.gD.cg (he _ (by omega)) (he _ (by omega)) (fun i _ _ => he _ (by omega))) (h.gS.cg h.s4 (fun i _ _ => he _ (by omega))) (h.gL.cg (fun i _ _ => he _ (by omega))) (fun q hq => (h.od q hq).cg hq (he _ (by omega)) (fun i _ _ => he _ (by omega))) h.bb
theorem Inv.end' (h : Inv a M n B) : Inv (m_end a x).2 M n B := by
  obtain ⟨T, T5, hT⟩ := h.tl
  unfold m_end
  split
  · exact h
  · next c =>
    have c1 : ¬ x < 0 := fun e => c (Or.inl e)
    have c2 : ¬ a 4 < x := fun e => c (Or.inr e)
    refine h.chT (fun i hi => upd_ne (by omega)) ⟨x.toInt.toNat, ?_, ?_⟩
    · have c3 := mt (lt_int _ _).mpr c2
      rw [hT, nI_int (by omega)] at c3
      omega
    · show upd a 4 x 4 = _
      rw [upd_eq]
      refine nI_of_int ?_
      have c3 := mt (lt_int _ _).mpr c1
      rw [zero_int] at c3
      omega
theorem Inv.feed' {T : Nat} {x1 x2 x3 x4 x5 : Int32} (h : Inv a M n B) (hT : a 4 = nI T) (hT5 : T ≤ 480) : Inv (m_fd a T x1 x2 x3 x4 x5 20) M n B :=
  h.chT (fun i hi => m_fd_ne (by omega) 20 (by omega)) ⟨T + 20, by omega, m_fd_4 hT 20⟩
theorem Inv.market' (h : Inv a M n B) : Inv (m_market a x y z).2 M n B := by
  unfold m_market
  cases hx : fx 5 x with
  | none => exact h
  | some p =>
    cases hy : fx 4 y with
    | none => exact h
    | some g =>
      cases hz : fx 1001 z with
      | none => exact h
      | some k =>
        obtain ⟨p1, p5, -⟩ := fx_some hx
        obtain ⟨g1, g4, -⟩ := fx_some hy
        obtain ⟨k1, k2, rfl⟩ := fx_some hz
        dsimp only
        have he : ∀ i, (i < 30 ∨ 70 ≤ i) → upd (upd a (30 + 4 * p + g) (nI k)) (50 + 4 * p + g) (nI k) i = a i := fun i hi => by rw [upd_ne (by omega), upd_ne (by omega)]
        refine Inv.of (h.gA.cg (he _ (by omega)) (he _ (by omega)) (he _ (by omega))) (GQ.mk ?_ ?_ ?_) (h.gD.cg (he _ (by omega)) (he _ (by omega)) (fun i _ _ => he _ (by omega))) (h.gS.cg h.s4 (fun i _ _ => he _ (by omega))) (h.gL.cg (fun i _ _ => he _ (by omega))) (fun q hq => (h.od q hq).cg hq (he _ (by omega)) (fun i _ _ => he _ (by omega))) h.bb
        · intro q h1 h5 g' g1' g4'; rw [he _ (by omega)]; exact h.so q h1 h5 g' g1' g4'
        · intro q h1 h5 g' g4'
          rw [upd_ne (by omega)]
          by_cases e : 30 + (4 * q + g') = 30 + 4 * p + g
          · rw [e, upd_eq, nI_int (by omega)]; omega
          · rw [upd_ne e]; exact h.bs q h1 h5 g' g4'
        · intro q h1 h5 g' g4'
          by_cases e : 50 + (4 * q + g') = 50 + 4 * p + g
          · rw [e, upd_eq, nI_int (by omega)]; omega
          · rw [upd_ne e, upd_ne (by omega)]; exact h.pr q h1 h5 g' g4'
theorem Inv.letter' (h : Inv a M n B) : Inv (m_letter a M x y).2 M n B := by
  have h6 := h.m6
  unfold m_letter
  cases hy : fx 10000 y with
  | none => exact h
  | some k =>
    cases hx : fx 5 x with
    | none => exact h
    | some p =>
      obtain ⟨p1, p5, -⟩ := fx_some hx
      obtain ⟨k1, k2, rfl⟩ := fx_some hy
      dsimp only
      have he : ∀ i, i < 2000 → upd a (2000 + 620 * p + (M + 3 * p)) (nI k) i = a i := fun i hi => upd_ne (by omega)
      refine Inv.of (h.gA.cg (he _ (by omega)) (he _ (by omega)) (he _ (by omega))) (h.gQ.cg (fun i _ _ => he _ (by omega))) (h.gD.cg (he _ (by omega)) (he _ (by omega)) (fun i _ _ => he _ (by omega))) (h.gS.cg h.s4 (fun i _ _ => he _ (by omega))) ?_ (fun q hq => (h.od q hq).cg hq (he _ (by omega)) (fun i _ _ => he _ (by omega))) h.bb
      intro q q1 q5 m hm
      by_cases e : 2000 + 620 * q + m = 2000 + 620 * p + (M + 3 * p)
      · rw [e, upd_eq, nI_int (by omega)]
        have eq : q = p := by
          rcases Nat.lt_trichotomy q p with w | w | w
          · omega
          · exact w
          · omega
        subst eq
        exact ⟨by omega, fun z => by omega⟩
      · rw [upd_ne e]
        exact h.lt q q1 q5 m hm
theorem hsum_at {p : Nat} {v : Int32} : ∀ k, hsum (upd a (150 + 10 * p) v) k = if p < k then hsum a k - (a (150 + 10 * p)).toInt + v.toInt else hsum a k
  | 0 => by rw [if_neg (by omega)]; rfl
  | k + 1 => by
    simp only [hsum]
    rw [hsum_at k]
    by_cases e : k = p
    · subst e
      rw [if_neg (by omega), if_pos (by omega), upd_eq]
      omega
    · rw [upd_ne (by omega)]
      by_cases c : p < k
      · rw [if_pos c, if_pos (by omega)]; omega
      · rw [if_neg c, if_neg (by omega)]
theorem Inv.subscribe' {p : Nat} (h : Inv a M n B) (hp : p < 10) (hs : subs_ok a y) : Inv (upd (upd (upd a 2 (a 2 + y)) (150 + 10 * p) (a (150 + 10 * p) + y)) 10 (a 10 + 100 * y)) M n B := by
  obtain ⟨s1, s2, s3⟩ := hs
  have hd := h.dvi
  have hto := h.to
  have hl := hd.held_le hp
  have h0 := h.hd p hp
  have y1 := mt (lt_int _ _).mpr s1
  rw [one_int] at y1
  have e1 : (1000 - a 2).toInt = 1000 - (a 2).toInt := sub_int (by rw [show (1000 : Int32).toInt = 1000 from rfl]; omega) (by rw [show (1000 : Int32).toInt = 1000 from rfl]; omega)
  have y2 := mt (lt_int _ _).mpr s2
  rw [e1] at y2
  have e2 : (a 2 + y).toInt = (a 2).toInt + y.toInt := add_int (by omega) (by omega)
  have e3 : (a (150 + 10 * p) + y).toInt = (a (150 + 10 * p)).toInt + y.toInt := add_int (by omega) (by omega)
  have h3 : a 3 = 0 := by
    rcases h.dv with z | z
    · exact z
    · exact absurd z s3
  have a2 : upd (upd (upd a 2 (a 2 + y)) (150 + 10 * p) (a (150 + 10 * p) + y)) 10 (a 10 + 100 * y) 2 = a 2 + y := by rw [upd_ne (by omega), upd_ne (by omega), upd_eq]
  refine h.chD (fun i hi => by rw [upd_ne (by omega), upd_ne (by omega), upd_ne (by omega)]) (GD.mk ?_ ?_ ?_ ?_ ?_ ?_)
  · rw [upd_ne (by omega), upd_ne (by omega), upd_ne (by omega)]; exact h.dv
  · rw [a2, e2]; omega
  · intro q hq
    rw [upd_ne (by omega)]
    by_cases e : q = p
    · subst e; rw [upd_eq, e3]; omega
    · rw [upd_ne (by omega), upd_ne (by omega)]; exact h.hd q hq
  · rw [hsum_upd (by omega) 10 (by decide), hsum_at, if_pos hp, hsum_upd (by omega) 10 (by decide), upd_ne (by omega), a2, e2, e3, h.hs]; omega
  · intro q hq g hg
    rw [upd_ne (by omega), upd_ne (by omega), upd_ne (by omega)]; exact h.rs q hq g hg
  · intro _ q hq g hg
    rw [upd_ne (by omega), upd_ne (by omega), upd_ne (by omega)]; exact h.rz h3 q hq g hg
theorem Inv.transfer' {p q : Nat} (h : Inv a M n B) (hp : p < 10) (hq : q < 10) (hpq : p ≠ q) (s1 : ¬ z < 1) (s2 : ¬ a (150 + 10 * p) < z) : Inv (upd (upd a (150 + 10 * p) (a (150 + 10 * p) - z)) (150 + 10 * q) (a (150 + 10 * q) + z)) M n B := by
  have hd := h.dvi
  have hl := hd.held_le hp
  have hl2 := hd.held_le hq
  have h0 := h.hd p hp
  have h02 := h.hd q hq
  have y1 := mt (lt_int _ _).mpr s1
  rw [one_int] at y1
  have y2 := mt (lt_int _ _).mpr s2
  have e2 : (a (150 + 10 * p) - z).toInt = (a (150 + 10 * p)).toInt - z.toInt := sub_int (by omega) (by omega)
  have e3 : (a (150 + 10 * q) + z).toInt = (a (150 + 10 * q)).toInt + z.toInt := add_int (by omega) (by omega)
  refine h.chD (fun i hi => by rw [upd_ne (by omega), upd_ne (by omega)]) (GD.mk ?_ ?_ ?_ ?_ ?_ ?_)
  · rw [upd_ne (by omega), upd_ne (by omega)]; exact h.dv
  · rw [upd_ne (by omega), upd_ne (by omega)]; exact h.to
  · intro r hr
    by_cases e : r = q
    · subst e; rw [upd_eq, e3]; omega
    · rw [upd_ne (by omega)]
      by_cases e' : r = p
      · subst e'; rw [upd_eq, e2]; omega
      · rw [upd_ne (by omega)]; exact h.hd r hr
  · rw [hsum_at, if_pos hq, hsum_at, if_pos hp, upd_ne (by omega), upd_ne (by omega), upd_ne (by omega), e2, e3, h.hs]; omega
  · intro r hr g hg
    rw [upd_ne (by omega), upd_ne (by omega)]; exact h.rs r hr g hg
  · intro w r hr g hg
    rw [upd_ne (by omega), upd_ne (by omega)] at w
    rw [upd_ne (by omega), upd_ne (by omega)]; exact h.rz w r hr g hg
theorem Inv.divide' {g : Nat} (h : Inv a M n B) (hg : g < 4) (ho : div_ok a g z) : Inv (upd (m_dv (upd a 3 1) g z 10).1 (10 + g) ((m_dv (upd a 3 1) g z 10).1 (10 + g) - (m_dv (upd a 3 1) g z 10).2)) M n B := by
  obtain ⟨s1, s2, s3⟩ := ho
  have hto := h.to
  have hd := h.dvi.up3 (v := 1)
  have ht : 0 < (upd a 3 1 2).toInt := by
    rw [upd_ne (by decide)]
    have : (a 2).toInt ≠ 0 := fun e => s1 ((eq_int _ _).mpr (by rw [e, zero_int]))
    omega
  have hy : 0 < z.toInt := by
    have y1 := mt (lt_int _ _).mpr s2
    rw [one_int] at y1
    omega
  have ne : ∀ i, (i < 150 ∨ 250 ≤ i ∨ (i - 150) % 10 = 0) → (m_dv (upd a 3 1) g z 10).1 i = upd a 3 1 i := fun i hi => m_dv_ne 10 (by intro p hp; omega)
  have hs : hsum (m_dv (upd a 3 1) g z 10).1 10 = hsum (upd a 3 1) 10 := by
    have : ∀ k, k ≤ 10 → hsum (m_dv (upd a 3 1) g z 10).1 k = hsum (upd a 3 1) k := by
      intro k
      induction k with
      | zero => intro _; rfl
      | succ k ih => intro hk; simp only [hsum]; rw [ih (by omega), ne _ (by omega)]
    exact this 10 (by decide)
  refine h.chD (fun i hi => by rw [upd_ne (by omega), ne _ (by omega), upd_ne (by omega)]) (GD.mk ?_ ?_ ?_ ?_ ?_ ?_)
  · rw [upd_ne (by omega), ne _ (by omega), upd_eq]; exact Or.inr rfl
  · rw [upd_ne (by omega), ne _ (by omega), upd_ne (by omega)]; exact h.to
  · intro q hq; rw [upd_ne (by omega), ne _ (by omega), upd_ne (by omega)]; exact h.hd q hq
  · rw [hsum_upd (by omega) 10 (by decide), hs, hsum_upd (by omega) 10 (by decide), upd_ne (by omega), ne _ (by omega), upd_ne (by omega)]; exact h.hs
  · intro q hq g' hg'
    rw [upd_ne (by omega)]
    exact dv_rs hd hq hg hg' ht hy
  · intro w
    rw [upd_ne (by omega), ne _ (by omega), upd_eq] at w
    exact absurd w (by decide)
theorem m_zero_ne {s i : Nat} : ∀ k, k ≤ 16 → (i < 250 + 16 * s ∨ 266 + 16 * s ≤ i) → m_zero a s k i = a i
  | 0, _, _ => rfl
  | k + 1, hk, hi => by
    simp only [m_zero]
    rw [upd_ne (by omega)]
    exact m_zero_ne k (by omega) hi
theorem m_zero_at {s j : Nat} : ∀ k, j < k → m_zero a s k (250 + 16 * s + j) = 0
  | 0, h => absurd h (by omega)
  | k + 1, h => by
    simp only [m_zero]
    by_cases e : j = k
    · subst e; rw [upd_eq]
    · rw [upd_ne (by omega)]
      exact m_zero_at k (by omega)
theorem Inv.ship' (h : Inv a M n B) (ho : ship_ok n x y z) : Inv (m_ship a n x y z w) M (n + 1) B := by
  obtain ⟨n4, ⟨x1, x2⟩, ⟨y1, y2⟩, z1, z2⟩ := ho
  have h4 := h.s4
  have x1' := (le_int _ _).mp x1
  have x2' := (le_int _ _).mp x2
  have y1' := (le_int _ _).mp y1
  have y2' := (le_int _ _).mp y2
  rw [one_int] at x1'
  rw [show (500 : Int32).toInt = 500 from rfl] at x2'
  rw [zero_int] at y1'
  rw [show (50 : Int32).toInt = 50 from rfl] at y2'
  have ne : ∀ i, (i < 250 + 16 * n ∨ 266 + 16 * n ≤ i) → i ≠ 1 → m_ship a n x y z w i = a i := fun i hi h1 => by
    unfold m_ship
    rw [upd_ne (by omega), upd_ne (by omega), upd_ne (by omega), upd_ne (by omega), upd_ne (by omega), upd_ne (by omega), m_zero_ne 16 (by decide) hi, upd_ne h1]
  have e1 : m_ship a n x y z w 1 = nI (n + 1) := by
    unfold m_ship
    rw [upd_ne (by omega), upd_ne (by omega), upd_ne (by omega), upd_ne (by omega), upd_ne (by omega), upd_ne (by omega), m_zero_ne 16 (by decide) (by omega), upd_eq, h.sp]
    exact nI_1 n
  have e0 : m_ship a n x y z w (250 + 16 * n + 0) = x := by
    unfold m_ship
    rw [upd_ne (by omega), upd_ne (by omega), upd_ne (by omega), upd_ne (by omega), upd_ne (by omega), upd_eq]
  have el : m_ship a n x y z w (250 + 16 * n + 1) = y := by
    unfold m_ship
    rw [upd_ne (by omega), upd_ne (by omega), upd_ne (by omega), upd_ne (by omega), upd_eq]
  have e5 : m_ship a n x y z w (250 + 16 * n + 5) = -1 ∧ m_ship a n x y z w (250 + 16 * n + 6) = -1 := by
    unfold m_ship
    exact ⟨by rw [upd_ne (by omega), upd_eq], by rw [upd_eq]⟩
  have ez : ∀ k, k < 16 → k ≠ 0 → k ≠ 1 → k ≠ 2 → k ≠ 3 → k ≠ 5 → k ≠ 6 → m_ship a n x y z w (250 + 16 * n + k) = 0 := fun k hk k0 k1 k2 k3 k5 k6 => by
    unfold m_ship
    rw [upd_ne (by omega), upd_ne (by omega), upd_ne (by omega), upd_ne (by omega), upd_ne (by omega), upd_ne (by omega)]
    exact m_zero_at 16 hk
  refine Inv.of (GA.mk ((ne _ (by omega) (by omega)).trans h.mo) h.m6 e1 (by omega) (by rw [ne _ (by omega) (by omega)]; exact h.tl)) (h.gQ.cg (fun i _ _ => ne _ (by omega) (by omega))) (h.gD.cg (ne _ (by omega) (by omega)) (ne _ (by omega) (by omega)) (fun i _ _ => ne _ (by omega) (by omega))) (GS.mk ?_ ?_ ?_ ?_ ?_) (h.gL.cg (fun i _ _ => ne _ (by omega) (by omega))) (fun q hq => (h.od q hq).cg hq (ne _ (by omega) (by omega)) (fun i _ _ => ne _ (by omega) (by omega))) h.bb
  · intro s s1 s2 k hk; rw [ne _ (by omega) (by omega)]; exact h.un s (by omega) s2 k hk
  · intro s hs
    by_cases e : s = n
    · subst e
      refine Sok.mk ?_ ?_ ?_ ?_ ?_ ?_
      · rw [el]; omega
      · rw [e0]; omega
      · rw [ez 8 (by decide) (by decide) (by decide) (by decide) (by decide) (by decide) (by decide)]; decide
      · rw [ez 8 (by decide) (by decide) (by decide) (by decide) (by decide) (by decide) (by decide), el, zero_int]; omega
      · intro g g1 g4; rw [ez (10 + g) (by omega) (by omega) (by omega) (by omega) (by omega) (by omega) (by omega)]; decide
      · rw [e0, ez 8 (by decide) (by decide) (by decide) (by decide) (by decide) (by decide) (by decide), ez (10 + 1) (by decide) (by decide) (by decide) (by decide) (by decide) (by decide) (by decide), ez (10 + 2) (by decide) (by decide) (by decide) (by decide) (by decide) (by decide) (by decide), ez (10 + 3) (by decide) (by decide) (by decide) (by decide) (by decide) (by decide) (by decide), zero_int]; omega
    · exact (h.sh s (by omega)).cgA (by omega) (fun k hk => ne _ (by omega) (by omega))
  · intro s hs
    by_cases e : s = n
    · subst e; intro _; exact e5
    · rw [ne _ (by omega) (by omega), ne _ (by omega) (by omega), ne _ (by omega) (by omega)]; exact h.se s (by omega)
  · intro s hs
    by_cases e : s = n
    · subst e; exact Or.inl (ez 7 (by decide) (by decide) (by decide) (by decide) (by decide) (by decide) (by decide))
    · rw [ne _ (by omega) (by omega)]; exact h.dn s (by omega)
  · intro s hs
    by_cases e : s = n
    · subst e
      intro w
      rw [ez 4 (by decide) (by decide) (by decide) (by decide) (by decide) (by decide) (by decide)] at w
      exact absurd w (by decide)
    · rw [ne _ (by omega) (by omega), ne _ (by omega) (by omega)]; exact h.tg s (by omega)
theorem Inv.load' {s g : Nat} (h : Inv a M n B) (hs : s < n) (hg : g < 4) (ho : load_ok a s g z) : Inv (upd (upd a (10 + g) (a (10 + g) - z)) (250 + 16 * s + (10 + g)) (a (250 + 16 * s + (10 + g)) + z)) M n B := by
  obtain ⟨o1, o2, o3, o4⟩ := ho
  have h4 := h.s4
  have hk := h.sh s hs
  have k1 := hk.hd
  have k2 := hk.ow
  have k6 := hk.su
  have k3 := hk.cg 1 (by decide) (by decide)
  have k4 := hk.cg 2 (by decide) (by decide)
  have k5 := hk.cg 3 (by decide) (by decide)
  have kr := hk.room
  have y1 := mt (lt_int _ _).mpr o2
  rw [one_int] at y1
  have hv : 1 ≤ g → z.toInt ≤ (m_room a s).toInt := fun g1 => by
    rcases o4 with w | w
    · omega
    · have := mt (lt_int _ _).mpr w; omega
  refine h.chS (fun i hi => by rw [upd_ne (by omega), upd_ne (by omega)]) (h.gS.one h4 hs (fun i _ _ _ => by rw [upd_ne (by omega), upd_ne (by omega)]) (Sok.mk ?_ ?_ ?_ ?_ ?_ ?_) ?_ ?_ ?_)
  · rw [upd_ne (by omega), upd_ne (by omega)]; exact hk.lc
  · rw [upd_ne (by omega), upd_ne (by omega)]; exact hk.hd
  · rw [upd_ne (by omega), upd_ne (by omega)]; exact hk.ow
  · rw [upd_ne (by omega), upd_ne (by omega), upd_ne (by omega), upd_ne (by omega)]; exact hk.ol
  · intro g' g1' g4'
    by_cases e : g' = g
    · subst e
      have := hv g1'
      have hc := hk.cg g' g1' g4'
      have hc2 : (a (250 + 16 * s + (10 + g'))).toInt ≤ 500 := by
        have : g' = 1 ∨ g' = 2 ∨ g' = 3 := by omega
        rcases this with rfl | rfl | rfl <;> omega
      rw [upd_eq, add_int (by omega) (by omega)]
      omega
    · rw [upd_ne (by omega), upd_ne (by omega)]; exact hk.cg g' g1' g4'
  · by_cases e0 : g = 0
    · subst e0
      rw [upd_ne (by omega), upd_ne (by omega), upd_ne (by omega), upd_ne (by omega), upd_ne (by omega), upd_ne (by omega), upd_ne (by omega), upd_ne (by omega), upd_ne (by omega), upd_ne (by omega)]
      exact k6
    · have hv2 := hv (by omega)
      have : g = 1 ∨ g = 2 ∨ g = 3 := by omega
      rcases this with rfl | rfl | rfl
      · rw [upd_ne (by omega), upd_ne (by omega), upd_eq, upd_ne (by omega), upd_ne (by omega), upd_ne (by omega), upd_ne (by omega), upd_ne (by omega), upd_ne (by omega), add_int (by omega) (by omega)]
        omega
      · rw [upd_ne (by omega), upd_ne (by omega), upd_ne (by omega), upd_ne (by omega), upd_eq, upd_ne (by omega), upd_ne (by omega), upd_ne (by omega), upd_ne (by omega), add_int (by omega) (by omega)]
        omega
      · rw [upd_ne (by omega), upd_ne (by omega), upd_ne (by omega), upd_ne (by omega), upd_ne (by omega), upd_ne (by omega), upd_eq, upd_ne (by omega), upd_ne (by omega), add_int (by omega) (by omega)]
        omega
  · rw [upd_ne (by omega), upd_ne (by omega), upd_ne (by omega), upd_ne (by omega), upd_ne (by omega), upd_ne (by omega)]; exact h.se s hs
  · rw [upd_ne (by omega), upd_ne (by omega)]; exact h.dn s hs
  · rw [upd_ne (by omega), upd_ne (by omega), upd_ne (by omega), upd_ne (by omega)]; exact h.tg s hs
theorem Inv.unload' {s : Nat} (h : Inv a M n B) (hs : s < n) : Inv (upd (m_unl a s 0 4) (250 + 16 * s + 8) 0) M n B := by
  have h4 := h.s4
  have hk := h.sh s hs
  have ne : ∀ i, i < 10 ∨ (14 ≤ i ∧ (i < 250 + 16 * s + 8 ∨ 250 + 16 * s + 14 ≤ i ∨ i = 250 + 16 * s + 9)) → upd (m_unl a s 0 4) (250 + 16 * s + 8) 0 i = a i := fun i hi => by
    rw [upd_ne (by omega)]
    exact m_unl_ne (by omega) (by omega) 4 (by decide)
  refine h.chS (fun i hi => ne i (by omega)) (h.gS.one h4 hs (fun i _ _ _ => ne i (by omega)) (hk.clr (ne _ (by omega)) (ne _ (by omega)) (Or.inr upd_eq) (fun g g1 g4 => by rw [upd_ne (by omega)]; exact m_unl_cg (by omega) (by decide) g4)) ?_ ?_ ?_)
  · rw [ne _ (by omega), ne _ (by omega), ne _ (by omega)]; exact h.se s hs
  · rw [ne _ (by omega)]; exact h.dn s hs
  · rw [ne _ (by omega), ne _ (by omega)]; exact h.tg s hs
theorem Inv.sail' {s t : Nat} (h : Inv a M n B) (hs : s < n) (ht : t < 100000) : Inv (m_sails a s (nI t)) M n B := by
  have h4 := h.s4
  exact h.chS (fun i hi => m_sails_ne (by omega)) (h.gS.sails h4 hs ht)
end IV6

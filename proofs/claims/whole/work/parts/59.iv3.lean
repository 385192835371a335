/-! what holds between calls: ships in a factor's acts -/
section IV4
variable {a : Nat → Int32} {b : Nat → Int64} {M n : Nat} {B : Nat → Nat}
theorem least_int {x y : Int32} : (m_least x y).toInt = min x.toInt y.toInt := by
  unfold m_least
  split
  next z => have := (le_int y x).mp z; omega
  next z => have := mt (le_int y x).mpr z; omega
theorem Sok.room {s : Nat} (h : Sok a s) : (m_room a s).toInt = (a (250 + 16 * s + 0)).toInt - (a (250 + 16 * s + 8)).toInt - (a (250 + 16 * s + (10 + 1))).toInt - (a (250 + 16 * s + (10 + 2))).toInt - (a (250 + 16 * s + (10 + 3))).toInt := by
  have h1 := h.hd
  have h2 := h.ow
  have h3 := h.cg 1 (by decide) (by decide)
  have h4 := h.cg 2 (by decide) (by decide)
  have h5 := h.cg 3 (by decide) (by decide)
  have h6 := h.su
  unfold m_room m_bales
  simp only [Nat.reduceAdd] at h3 h4 h5 h6 ⊢
  have e1 : (a (250 + 16 * s + 11) + a (250 + 16 * s + 12)).toInt = (a (250 + 16 * s + 11)).toInt + (a (250 + 16 * s + 12)).toInt := add_int (by omega) (by omega)
  have e2 : (a (250 + 16 * s + 11) + a (250 + 16 * s + 12) + a (250 + 16 * s + 13)).toInt = (a (250 + 16 * s + 11)).toInt + (a (250 + 16 * s + 12)).toInt + (a (250 + 16 * s + 13)).toInt := by rw [add_int (by omega) (by omega), e1]
  have e3 : (a (250 + 16 * s + 0) - a (250 + 16 * s + 8)).toInt = (a (250 + 16 * s + 0)).toInt - (a (250 + 16 * s + 8)).toInt := sub_int (by omega) (by omega)
  rw [sub_int (by omega) (by omega), e2, e3]
  omega
theorem Inv.loads {p g N s : Nat} (h : Inv a M n B) (hp1 : 1 ≤ p) (hp : p < 5) (hg : g < 4) (hN : N < 100000) (hs : s < n) (hB : B p < 600) : Inv (m_loads a s p g (nI N)) M n (Bp B p) := by
  have h4 := h.s4
  have hk := h.sh s hs
  have k1 := hk.hd
  have k2 := hk.ow
  have k6 := hk.su
  have k3 := hk.cg 1 (by decide) (by decide)
  have k4 := hk.cg 2 (by decide) (by decide)
  have k5 := hk.cg 3 (by decide) (by decide)
  have kr := hk.room
  obtain ⟨v, hv⟩ : ∃ v, m_some a s p g (nI N) = v := ⟨_, rfl⟩
  have hv' : 1 ≤ g → 0 ≤ v.toInt ∧ v.toInt ≤ (a (10 + 4 * p + g)).toInt ∧ v.toInt ≤ (m_room a s).toInt := by
    intro g1
    have q1 := h.so p hp1 hp g g1 hg
    rw [← hv]
    unfold m_some
    rw [if_neg (by omega), least_int, least_int, nI_int (by omega)]
    omega
  unfold m_loads
  rw [hv]
  refine h.act hB hp (fun i hi _ => by rw [upd_ne (by omega), upd_ne (by omega)]) (h.gQ.one (fun i _ _ _ => by rw [upd_ne (by omega), upd_ne (by omega)]) (fun i _ _ => by rw [upd_ne (by omega), upd_ne (by omega)]) (fun i _ _ _ => by rw [upd_ne (by omega), upd_ne (by omega)]) (fun g' g1' g4' => ?_) (fun g' g4' => ?_)) (h.gS.one h4 hs (fun i _ _ _ => by rw [upd_ne (by omega), upd_ne (by omega)]) (Sok.mk ?_ ?_ ?_ ?_ ?_ ?_) ?_ ?_ ?_)
  · rw [upd_ne (by omega)]
    by_cases e : g' = g
    · subst e
      have := h.so p hp1 hp g' g1' g4'
      have := hv' g1'
      rw [upd_eq, sub_int (by omega) (by omega)]
      omega
    · have := h.so p hp1 hp g' g1' g4'
      rw [upd_ne (by omega)]
      omega
  · have := h.pr p hp1 hp g' g4'
    rw [upd_ne (by omega), upd_ne (by omega)]
    omega
  · rw [upd_ne (by omega), upd_ne (by omega)]; exact hk.lc
  · rw [upd_ne (by omega), upd_ne (by omega)]; exact hk.hd
  · rw [upd_ne (by omega), upd_ne (by omega)]; exact hk.ow
  · rw [upd_ne (by omega), upd_ne (by omega), upd_ne (by omega), upd_ne (by omega)]; exact hk.ol
  · intro g' g1' g4'
    by_cases e : g' = g
    · subst e
      have := hv' g1'
      have hc := hk.cg g' g1' g4'
      have hc2 : (a (250 + 16 * s + (10 + g'))).toInt ≤ 500 := by
        have : g' = 1 ∨ g' = 2 ∨ g' = 3 := by omega
        rcases this with rfl | rfl | rfl <;> omega
      rw [upd_eq, add_int (by omega) (by omega)]
      omega
    · rw [upd_ne (by omega), upd_ne (by omega)]; exact hk.cg g' g1' g4'
  · by_cases e0 : g = 0
    · subst e0
      rw [upd_ne (by omega), upd_ne (by omega), upd_ne (by omega), upd_ne (by omega), upd_ne (by omega), upd_ne (by omega), upd_ne (by omega), upd_ne (by omega), upd_ne (by omega), upd_ne (by omega)]
      exact k6
    · have hv2 := hv' (by omega)
      have : g = 1 ∨ g = 2 ∨ g = 3 := by omega
      rcases this with rfl | rfl | rfl
      · rw [upd_ne (by omega), upd_ne (by omega), upd_eq, upd_ne (by omega), upd_ne (by omega), upd_ne (by omega), upd_ne (by omega), upd_ne (by omega), upd_ne (by omega), add_int (by omega) (by omega)]
        omega
      · rw [upd_ne (by omega), upd_ne (by omega), upd_ne (by omega), upd_ne (by omega), upd_eq, upd_ne (by omega), upd_ne (by omega), upd_ne (by omega), upd_ne (by omega), add_int (by omega) (by omega)]
        omega
      · rw [upd_ne (by omega), upd_ne (by omega), upd_ne (by omega), upd_ne (by omega), upd_ne (by omega), upd_ne (by omega), upd_eq, upd_ne (by omega), upd_ne (by omega), add_int (by omega) (by omega)]
        omega
  · rw [upd_ne (by omega), upd_ne (by omega), upd_ne (by omega), upd_ne (by omega), upd_ne (by omega), upd_ne (by omega)]; exact h.se s hs
  · rw [upd_ne (by omega), upd_ne (by omega)]; exact h.dn s hs
  · rw [upd_ne (by omega), upd_ne (by omega), upd_ne (by omega), upd_ne (by omega)]; exact h.tg s hs
theorem m_unl_st {s p g : Nat} (hs : s < 4) (hp : p < 5) (hg : g < 4) : m_unl a s p 4 (10 + 4 * p + g) = a (10 + 4 * p + g) + a (250 + 16 * s + (10 + g)) := by
  have : g = 0 ∨ g = 1 ∨ g = 2 ∨ g = 3 := by omega
  rcases this with rfl | rfl | rfl | rfl <;> simp (disch := omega) only [m_unl, upd_ne, upd_eq]
theorem m_unl_cg {s p g : Nat} (hs : s < 4) (hp : p < 5) (hg : g < 4) : m_unl a s p 4 (250 + 16 * s + (10 + g)) = 0 := by
  have : g = 0 ∨ g = 1 ∨ g = 2 ∨ g = 3 := by omega
  rcases this with rfl | rfl | rfl | rfl <;> simp (disch := omega) only [m_unl, upd_ne, upd_eq]
theorem zero_int : (0 : Int32).toInt = 0 := rfl
/-- an empty ship -/
theorem Sok.clr {s : Nat} {a' : Nat → Int32} (hk : Sok a s) (e0 : a' (250 + 16 * s + 0) = a (250 + 16 * s + 0)) (e1 : a' (250 + 16 * s + 1) = a (250 + 16 * s + 1)) (e8 : a' (250 + 16 * s + 8) = a (250 + 16 * s + 8) ∨ a' (250 + 16 * s + 8) = 0) (ec : ∀ g, 1 ≤ g → g < 4 → a' (250 + 16 * s + (10 + g)) = 0) : Sok a' s := by
  have k1 := hk.hd
  have k2 := hk.ow
  have k6 := hk.su
  have k7 := hk.ol
  have k3 := hk.cg 1 (by decide) (by decide)
  have k4 := hk.cg 2 (by decide) (by decide)
  have k5 := hk.cg 3 (by decide) (by decide)
  have e8' : 0 ≤ (a' (250 + 16 * s + 8)).toInt ∧ (a' (250 + 16 * s + 8)).toInt ≤ (a (250 + 16 * s + 8)).toInt := by
    rcases e8 with w | w
    · rw [w]; omega
    · rw [w, zero_int]; omega
  refine Sok.mk ?_ ?_ ?_ ?_ ?_ ?_
  · rw [e1]; exact hk.lc
  · rw [e0]; exact hk.hd
  · exact e8'.1
  · rw [e1]; omega
  · intro g g1 g4; rw [ec g g1 g4]; decide
  · rw [ec 1 (by decide) (by decide), ec 2 (by decide) (by decide), ec 3 (by decide) (by decide), e0, zero_int]; omega
theorem Inv.unl {p s : Nat} (h : Inv a M n B) (hp1 : 1 ≤ p) (hp : p < 5) (hs : s < n) (hB : B p < 600) : Inv (m_unl a s p 4) M n (Bp B p) := by
  have h4 := h.s4
  have hk := h.sh s hs
  have k1 := hk.hd
  have k2 := hk.ow
  have k6 := hk.su
  have k3 := hk.cg 1 (by decide) (by decide)
  have k4 := hk.cg 2 (by decide) (by decide)
  have k5 := hk.cg 3 (by decide) (by decide)
  have ne := fun i h1 h2 => m_unl_ne (a := a) (s := s) (p := p) (i := i) h1 h2 4 (by decide)
  refine h.act hB hp (fun i hi _ => ne i (by omega) (by omega)) (h.gQ.one (fun i _ _ _ => ne i (by omega) (by omega)) (fun i _ _ => ne i (by omega) (by omega)) (fun i _ _ _ => ne i (by omega) (by omega)) (fun g' g1' g4' => ?_) (fun g' g4' => ?_)) (h.gS.one h4 hs (fun i _ _ _ => ne i (by omega) (by omega)) (hk.clr (ne _ (by omega) (by omega)) (ne _ (by omega) (by omega)) (Or.inl (ne _ (by omega) (by omega))) (fun g g1 g4 => m_unl_cg (by omega) hp g4)) ?_ ?_ ?_)
  · have q := h.so p hp1 hp g' g1' g4'
    have q1 := hk.cg g' g1' g4'
    have : (a (250 + 16 * s + (10 + g'))).toInt ≤ 500 := by
      have : g' = 1 ∨ g' = 2 ∨ g' = 3 := by omega
      rcases this with rfl | rfl | rfl <;> omega
    rw [m_unl_st (by omega) hp g4', add_int (by omega) (by omega)]
    omega
  · have := h.pr p hp1 hp g' g4'
    rw [ne _ (by omega) (by omega)]
    omega
  · rw [ne _ (by omega) (by omega), ne _ (by omega) (by omega), ne _ (by omega) (by omega)]; exact h.se s hs
  · rw [ne _ (by omega) (by omega)]; exact h.dn s hs
  · rw [ne _ (by omega) (by omega), ne _ (by omega) (by omega)]; exact h.tg s hs
theorem m_mast_ne {s p i : Nat} (h1 : i ≠ 250 + 16 * s + 8) (h3 : i ≠ 50 + (4 * p + 1)) (h4 : i ≠ 70 + (4 * p + 1)) : ∀ k (a : Nat → Int32) (b : Nat → Int64), (m_mast s p k a b).1 i = a i
  | 0, a, b => rfl
  | k + 1, a, b => by
    unfold m_mast
    split
    · rw [m_mast_ne h1 h3 h4 k, upd_ne h1, m_bale_ne h4 h3]
    · rfl
theorem m_mast_ok {s p : Nat} (hp : p < 5) (hs : s < 4) : ∀ (k : Nat) (a : Nat → Int32) (b : Nat → Int64), Sok a s → (a (50 + (4 * p + 1))).toInt + k < 2147483647 → Sok (m_mast s p k a b).1 s ∧ (a (50 + (4 * p + 1))).toInt ≤ ((m_mast s p k a b).1 (50 + (4 * p + 1))).toInt ∧ ((m_mast s p k a b).1 (50 + (4 * p + 1))).toInt ≤ (a (50 + (4 * p + 1))).toInt + k := by
  intro k
  induction k with
  | zero =>
    intro a b hk h
    unfold m_mast
    dsimp only
    exact ⟨hk, by omega, by omega⟩
  | succ k ih =>
    intro a b hk h
    unfold m_mast
    split
    next z =>
      obtain ⟨z1, z2⟩ := z
      have z1' := (lt_int _ _).mp z1
      have z2' := (lt_int _ _).mp z2
      rw [zero_int, hk.room] at z2'
      have k1 := hk.hd
      have k2 := hk.ow
      have k6 := hk.su
      have k7 := hk.lc
      have k3 := hk.cg 1 (by decide) (by decide)
      have k4 := hk.cg 2 (by decide) (by decide)
      have k5 := hk.cg 3 (by decide) (by decide)
      have ne : ∀ i, 250 ≤ i → i ≠ 250 + 16 * s + 8 → upd (m_bale a p 1) (250 + 16 * s + 8) (m_bale a p 1 (250 + 16 * s + 8) + 1) i = a i := fun i hi hj => by
        rw [upd_ne hj, m_bale_ne (by omega) (by omega)]
      have e8 : (upd (m_bale a p 1) (250 + 16 * s + 8) (m_bale a p 1 (250 + 16 * s + 8) + 1) (250 + 16 * s + 8)).toInt = (a (250 + 16 * s + 8)).toInt + 1 := by
        rw [upd_eq, m_bale_ne (by omega) (by omega), add_int (by rw [one_int]; omega) (by rw [one_int]; omega), one_int]
      have e5 := up_int (m_bale_pr (a := a) (p := p) (g := 1)) (by omega)
      have e5' : upd (m_bale a p 1) (250 + 16 * s + 8) (m_bale a p 1 (250 + 16 * s + 8) + 1) (50 + (4 * p + 1)) = m_bale a p 1 (50 + (4 * p + 1)) := upd_ne (by omega)
      rw [← e5'] at e5
      obtain ⟨A, hA⟩ : ∃ A, upd (m_bale a p 1) (250 + 16 * s + 8) (m_bale a p 1 (250 + 16 * s + 8) + 1) = A := ⟨_, rfl⟩
      rw [hA] at ne e8 e5 ⊢
      clear e5'
      have := ih A (vp_updL b 8 (b 8 + 1)) (Sok.mk (by rw [ne _ (by omega) (by omega)]; exact hk.lc) (by rw [ne _ (by omega) (by omega)]; exact hk.hd) (by omega) (by rw [ne (250 + 16 * s + 1) (by omega) (by omega)]; omega) (fun g g1 g4 => by rw [ne _ (by omega) (by omega)]; exact hk.cg g g1 g4) (by rw [ne (250 + 16 * s + 0) (by omega) (by omega), ne (250 + 16 * s + (10 + 1)) (by omega) (by omega), ne (250 + 16 * s + (10 + 2)) (by omega) (by omega), ne (250 + 16 * s + (10 + 3)) (by omega) (by omega)]; omega)) (by omega)
      exact ⟨this.1, by omega, by omega⟩
    next =>
      dsimp only
      exact ⟨hk, by omega, by omega⟩
theorem m_doom_01 {x y : Int32} : m_doom x y = 0 ∨ m_doom x y = 1 := by
  unfold m_doom
  split
  · exact Or.inl rfl
  · exact Or.inr rfl
theorem m_sails_ne {s i : Nat} {t : Int32} (h : i < 250 + 16 * s ∨ 266 + 16 * s ≤ i ∨ i = 250 + 16 * s + 0 ∨ i = 250 + 16 * s + 1 ∨ i = 250 + 16 * s + 8 ∨ 260 + 16 * s ≤ i) : m_sails a s t i = a i := by
  unfold m_sails
  rw [upd_ne (by omega), upd_ne (by omega), upd_ne (by omega), upd_ne (by omega), upd_ne (by omega), upd_ne (by omega)]
/-- a ship sails -/
theorem GS.sails {s t : Nat} (h : GS a n) (h4 : n ≤ 4) (hs : s < n) (ht : t < 100000) : GS (m_sails a s (nI t)) n := by
  have hk := h.sh s hs
  refine h.one h4 hs (fun i _ _ _ => m_sails_ne (by omega)) (Sok.mk ?_ ?_ ?_ ?_ ?_ ?_) ?_ ?_ ?_
  · rw [m_sails_ne (by omega)]; exact hk.lc
  · rw [m_sails_ne (by omega)]; exact hk.hd
  · rw [m_sails_ne (by omega)]; exact hk.ow
  · rw [m_sails_ne (by omega), m_sails_ne (by omega)]; exact hk.ol
  · intro g g1 g4; rw [m_sails_ne (by omega)]; exact hk.cg g g1 g4
  · rw [m_sails_ne (by omega), m_sails_ne (by omega), m_sails_ne (by omega), m_sails_ne (by omega), m_sails_ne (by omega)]; exact hk.su
  · intro z
    refine absurd ?_ z
    unfold m_sails
    rw [upd_ne (by omega), upd_ne (by omega), upd_ne (by omega), upd_eq]
  · unfold m_sails
    rw [upd_ne (by omega), upd_ne (by omega), upd_ne (by omega), upd_ne (by omega), upd_eq]
    exact m_doom_01
  · intro _
    refine ⟨t, ht, ?_⟩
    unfold m_sails
    rw [upd_ne (by omega), upd_ne (by omega), upd_eq]
theorem Inv.goes {p s t : Nat} (h : Inv a M n B) (hp1 : 1 ≤ p) (hp : p < 5) (hs : s < n) (ht : t < 100000) (hB : B p < 600) : Inv (m_sails (m_mast s p 51 a b).1 s (nI t)) M n (Bp B p) := by
  have h4 := h.s4
  have hk := h.sh s hs
  have q2 := h.pr p hp1 hp 1 (by decide)
  obtain ⟨o1, o2, o3⟩ := m_mast_ok hp (show s < 4 by omega) 51 a b hk (by omega)
  have ne := fun i h1 h3 h4 => m_mast_ne (s := s) (p := p) (i := i) h1 h3 h4 51 a b
  refine h.act hB hp (fun i hi _ => by rw [m_sails_ne (by omega), ne i (by omega) (by omega) (by omega)]) (h.gQ.one (fun i _ _ _ => by rw [m_sails_ne (by omega), ne i (by omega) (by omega) (by omega)]) (fun i _ _ => by rw [m_sails_ne (by omega), ne i (by omega) (by omega) (by omega)]) (fun i _ _ _ => by rw [m_sails_ne (by omega), ne i (by omega) (by omega) (by omega)]) (fun g' g1' g4' => ?_) (fun g' g4' => ?_)) ?_
  · have := h.so p hp1 hp g' g1' g4'
    rw [m_sails_ne (by omega), ne _ (by omega) (by omega) (by omega)]
    omega
  · rw [m_sails_ne (by omega)]
    by_cases e : g' = 1
    · subst e; omega
    · have := h.pr p hp1 hp g' g4'
      rw [ne _ (by omega) (by omega) (by omega)]
      omega
  · refine GS.sails ?_ h4 hs ht
    refine h.gS.one h4 hs (fun i _ _ _ => ne i (by omega) (by omega) (by omega)) o1 ?_ ?_ ?_
    · rw [ne _ (by omega) (by omega) (by omega), ne _ (by omega) (by omega) (by omega), ne _ (by omega) (by omega) (by omega)]; exact h.se s hs
    · rw [ne _ (by omega) (by omega) (by omega)]; exact h.dn s hs
    · rw [ne _ (by omega) (by omega) (by omega), ne _ (by omega) (by omega) (by omega)]; exact h.tg s hs
end IV4

/-! what holds between calls: a factor's acts keep it -/
section IV3
variable {a : Nat → Int32} {b : Nat → Int64} {M n : Nat} {B : Nat → Nat}
theorem one_int : (1 : Int32).toInt = 1 := by decide
theorem m_buy1_ne {p g i : Nat} (h1 : i ≠ 10 + 4 * p) (h2 : i ≠ 10 + 4 * p + g) (h3 : i ≠ 50 + (4 * p + g)) (h4 : i ≠ 70 + (4 * p + g)) : m_buy1 a p g i = a i := by
  unfold m_buy1
  rw [upd_ne h2, upd_ne h1, m_bale_ne h4 h3]
theorem m_buy1_st {p g : Nat} (hp : p < 5) (g1 : 1 ≤ g) (hg : g < 4) : m_buy1 a p g (10 + 4 * p + g) = a (10 + 4 * p + g) + 1 := by
  unfold m_buy1
  rw [upd_eq, upd_ne (by omega), m_bale_ne (by omega) (by omega)]
theorem m_bale_pr {p g : Nat} : m_bale a p g (50 + (4 * p + g)) = a (50 + (4 * p + g)) ∨ m_bale a p g (50 + (4 * p + g)) = a (50 + (4 * p + g)) + 1 := by
  unfold m_bale
  split
  · exact Or.inr upd_eq
  · exact Or.inl (upd_ne (by omega))
theorem m_buy1_pr {p g : Nat} (hp : p < 5) (hg : g < 4) : m_buy1 a p g (50 + (4 * p + g)) = a (50 + (4 * p + g)) ∨ m_buy1 a p g (50 + (4 * p + g)) = a (50 + (4 * p + g)) + 1 := by
  unfold m_buy1
  rw [upd_ne (by omega), upd_ne (by omega)]
  exact m_bale_pr
theorem m_buys_ne {p g i : Nat} (h1 : i ≠ 10 + 4 * p) (h2 : i ≠ 10 + 4 * p + g) (h3 : i ≠ 50 + (4 * p + g)) (h4 : i ≠ 70 + (4 * p + g)) : ∀ k (a : Nat → Int32) (b : Nat → Int64), (m_buys p g k a b).1 i = a i
  | 0, a, b => rfl
  | k + 1, a, b => by
    unfold m_buys
    split
    · rw [m_buys_ne h1 h2 h3 h4 k, m_buy1_ne h1 h2 h3 h4]
    · rfl
theorem up_int {x y : Int32} (h : y = x ∨ y = x + 1) (h0 : x.toInt < 2147483647) : x.toInt ≤ y.toInt ∧ y.toInt ≤ x.toInt + 1 := by
  rcases h with rfl | rfl
  · omega
  · have := int_lo x
    rw [add_int (by rw [one_int]; omega) (by rw [one_int]; omega), one_int]
    omega
theorem m_buys_bd {p g : Nat} (hp : p < 5) (g1 : 1 ≤ g) (hg : g < 4) : ∀ (k : Nat) (a : Nat → Int32) (b : Nat → Int64), (a (10 + 4 * p + g)).toInt + k < 2147483647 → (a (50 + (4 * p + g))).toInt + k < 2147483647 → (a (10 + 4 * p + g)).toInt ≤ ((m_buys p g k a b).1 (10 + 4 * p + g)).toInt ∧ ((m_buys p g k a b).1 (10 + 4 * p + g)).toInt ≤ (a (10 + 4 * p + g)).toInt + k ∧ (a (50 + (4 * p + g))).toInt ≤ ((m_buys p g k a b).1 (50 + (4 * p + g))).toInt ∧ ((m_buys p g k a b).1 (50 + (4 * p + g))).toInt ≤ (a (50 + (4 * p + g))).toInt + k := by
  intro k
  induction k with
  | zero =>
    intro a b _ _
    unfold m_buys
    dsimp only
    omega
  | succ k ih =>
    intro a b h1 h2
    unfold m_buys
    split
    · have e1 := up_int (Or.inr (m_buy1_st (a := a) hp g1 hg)) (by omega)
      have e2 := up_int (m_buy1_pr (a := a) hp hg) (by omega)
      have := ih (m_buy1 a p g) (m_buyb b g (a (50 + (4 * p + g)))) (by omega) (by omega)
      omega
    · dsimp only
      omega
theorem m_sell1_ne {p g i : Nat} (h1 : i ≠ 10 + 4 * p) (h2 : i ≠ 10 + (4 * p + g)) (h3 : i ≠ 50 + (4 * p + g)) (h4 : i ≠ 90 + (4 * p + g)) : m_sell1 a p g i = a i := by
  unfold m_sell1
  split
  · rw [upd_ne h3, upd_ne h4, upd_ne h1, upd_ne h2]
  · rw [upd_ne h4, upd_ne h1, upd_ne h2]
theorem m_sell1_st {p g : Nat} (hp : p < 5) (g1 : 1 ≤ g) (hg : g < 4) : m_sell1 a p g (10 + (4 * p + g)) = a (10 + (4 * p + g)) - 1 := by
  unfold m_sell1
  split
  · rw [upd_ne (by omega), upd_ne (by omega), upd_ne (by omega), upd_eq]
  · rw [upd_ne (by omega), upd_ne (by omega), upd_eq]
theorem m_sell1_pr {p g : Nat} (hp : p < 5) (hg : g < 4) : m_sell1 a p g (50 + (4 * p + g)) = a (50 + (4 * p + g)) ∨ (m_sell1 a p g (50 + (4 * p + g)) = a (50 + (4 * p + g)) - 1 ∧ 1 < a (50 + (4 * p + g))) := by
  unfold m_sell1
  split
  next z => exact Or.inr ⟨upd_eq, z.2⟩
  next => exact Or.inl (by rw [upd_ne (by omega), upd_ne (by omega), upd_ne (by omega)])
theorem m_sells_ne {p g i : Nat} (h1 : i ≠ 10 + 4 * p) (h2 : i ≠ 10 + (4 * p + g)) (h3 : i ≠ 50 + (4 * p + g)) (h4 : i ≠ 90 + (4 * p + g)) : ∀ k (a : Nat → Int32) (b : Nat → Int64), (m_sells p g k a b).1 i = a i
  | 0, a, b => rfl
  | k + 1, a, b => by
    unfold m_sells
    split
    · rw [m_sells_ne h1 h2 h3 h4 k, m_sell1_ne h1 h2 h3 h4]
    · rfl
theorem m_sells_bd {p g : Nat} (hp : p < 5) (g1 : 1 ≤ g) (hg : g < 4) : ∀ (k : Nat) (a : Nat → Int32) (b : Nat → Int64), 0 ≤ (a (10 + (4 * p + g))).toInt → 1 ≤ (a (50 + (4 * p + g))).toInt → 0 ≤ ((m_sells p g k a b).1 (10 + (4 * p + g))).toInt ∧ ((m_sells p g k a b).1 (10 + (4 * p + g))).toInt ≤ (a (10 + (4 * p + g))).toInt ∧ 1 ≤ ((m_sells p g k a b).1 (50 + (4 * p + g))).toInt ∧ ((m_sells p g k a b).1 (50 + (4 * p + g))).toInt ≤ (a (50 + (4 * p + g))).toInt := by
  intro k
  induction k with
  | zero =>
    intro a b _ _
    unfold m_sells
    dsimp only
    omega
  | succ k ih =>
    intro a b h1 h2
    unfold m_sells
    split
    next z =>
      have z' := (lt_int _ _).mp z
      rw [show (0 : Int32).toInt = 0 from rfl] at z'
      have y1 := int_hi (a (10 + (4 * p + g)))
      have y2 := int_hi (a (50 + (4 * p + g)))
      have e1 : (m_sell1 a p g (10 + (4 * p + g))).toInt = (a (10 + (4 * p + g))).toInt - 1 := by
        rw [m_sell1_st hp g1 hg, sub_int (by rw [one_int]; omega) (by rw [one_int]; omega), one_int]
      have e2 : 1 ≤ (m_sell1 a p g (50 + (4 * p + g))).toInt ∧ (m_sell1 a p g (50 + (4 * p + g))).toInt ≤ (a (50 + (4 * p + g))).toInt := by
        rcases m_sell1_pr (a := a) hp hg with w | ⟨w, w2⟩
        · rw [w]; omega
        · have w2' := (lt_int _ _).mp w2
          rw [one_int] at w2'
          rw [w, sub_int (by rw [one_int]; omega) (by rw [one_int]; omega), one_int]
          omega
      have := ih (m_sell1 a p g) (m_sellb b g (a (50 + (4 * p + g)))) (by omega) (by omega)
      omega
    next =>
      dsimp only
      omega
theorem Inv.buys {p g k : Nat} (h : Inv a M n B) (hp1 : 1 ≤ p) (hp : p < 5) (g1 : 1 ≤ g) (hg : g < 4) (hk : k < 100000) (hB : B p < 600) : Inv (m_buys p g k a b).1 M n (Bp B p) := by
  have q1 := h.so p hp1 hp g g1 hg
  have q2 := h.pr p hp1 hp g hg
  have bd := m_buys_bd hp g1 hg k a b (by omega) (by omega)
  have ne := fun i h1 h2 h3 h4 => m_buys_ne (p := p) (g := g) (i := i) h1 h2 h3 h4 k a b
  refine h.act hB hp (fun i hi _ => ne i (by omega) (by omega) (by omega) (by omega)) (h.gQ.one (fun i _ _ _ => ne i (by omega) (by omega) (by omega) (by omega)) (fun i _ _ => ne i (by omega) (by omega) (by omega) (by omega)) (fun i _ _ _ => ne i (by omega) (by omega) (by omega) (by omega)) (fun g' g1' g4' => ?_) (fun g' g4' => ?_)) (h.gS.cg h.s4 (fun i _ _ => ne i (by omega) (by omega) (by omega) (by omega)))
  · by_cases e : g' = g
    · subst e
      omega
    · have := h.so p hp1 hp g' g1' g4'
      rw [ne _ (by omega) (by omega) (by omega) (by omega)]
      omega
  · by_cases e : g' = g
    · subst e
      omega
    · have := h.pr p hp1 hp g' g4'
      rw [ne _ (by omega) (by omega) (by omega) (by omega)]
      omega
theorem Inv.sells {p g k : Nat} (h : Inv a M n B) (hp1 : 1 ≤ p) (hp : p < 5) (g1 : 1 ≤ g) (hg : g < 4) (hB : B p < 600) : Inv (m_sells p g k a b).1 M n (Bp B p) := by
  have q1 := h.so p hp1 hp g g1 hg
  have q2 := h.pr p hp1 hp g hg
  rw [Nat.add_assoc] at q1
  have bd := m_sells_bd hp g1 hg k a b (by omega) (by omega)
  have ne := fun i h1 h2 h3 h4 => m_sells_ne (p := p) (g := g) (i := i) h1 h2 h3 h4 k a b
  refine h.act hB hp (fun i hi _ => ne i (by omega) (by omega) (by omega) (by omega)) (h.gQ.one (fun i _ _ _ => ne i (by omega) (by omega) (by omega) (by omega)) (fun i _ _ => ne i (by omega) (by omega) (by omega) (by omega)) (fun i _ _ _ => ne i (by omega) (by omega) (by omega) (by omega)) (fun g' g1' g4' => ?_) (fun g' g4' => ?_)) (h.gS.cg h.s4 (fun i _ _ => ne i (by omega) (by omega) (by omega) (by omega)))
  · by_cases e : g' = g
    · subst e
      rw [Nat.add_assoc]
      omega
    · have := h.so p hp1 hp g' g1' g4'
      rw [ne _ (by omega) (by omega) (by omega) (by omega)]
      omega
  · by_cases e : g' = g
    · subst e
      omega
    · have := h.pr p hp1 hp g' g4'
      rw [ne _ (by omega) (by omega) (by omega) (by omega)]
      omega
end IV3

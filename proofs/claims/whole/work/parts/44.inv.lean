/-! what holds of the reference's rows between calls -/
section IV
theorem add_int {x y : Int32} (h1 : -2147483648 ≤ x.toInt + y.toInt) (h2 : x.toInt + y.toInt < 2147483648) : (x + y).toInt = x.toInt + y.toInt := by
  rw [Int32.toInt_add]
  exact Int.bmod_eq_of_le (by omega) (by omega)
theorem sub_int {x y : Int32} (h1 : -2147483648 ≤ x.toInt - y.toInt) (h2 : x.toInt - y.toInt < 2147483648) : (x - y).toInt = x.toInt - y.toInt := by
  rw [Int32.toInt_sub]
  exact Int.bmod_eq_of_le (by omega) (by omega)
theorem int_lo (x : Int32) : -2147483648 ≤ x.toInt := by have := Int32.le_toInt x; omega
theorem int_hi (x : Int32) : x.toInt < 2147483648 := by have := Int32.toInt_lt x; omega
theorem nI_of_int {x : Int32} (h : 0 ≤ x.toInt) : x = nI x.toInt.toNat := by
  refine (eq_int _ _).mpr ?_
  have := int_hi x
  rw [nI_int (by omega)]
  omega
/-- the sum of what is held -/
def hsum (a : Nat → Int32) : Nat → Int
  | 0 => 0
  | q + 1 => hsum a q + (a (150 + 10 * q)).toInt
def Sok (a : Nat → Int32) (s : Nat) : Prop :=
  ((a (250 + 16 * s + 1)).toInt ≤ 50) ∧
  ((a (250 + 16 * s + 0)).toInt ≤ 500) ∧
  (0 ≤ (a (250 + 16 * s + 8)).toInt) ∧
  ((a (250 + 16 * s + 8)).toInt ≤ (a (250 + 16 * s + 1)).toInt) ∧
  (∀ g, 1 ≤ g → g < 4 → 0 ≤ (a (250 + 16 * s + (10 + g))).toInt) ∧
  ((a (250 + 16 * s + 8)).toInt + (a (250 + 16 * s + (10 + 1))).toInt + (a (250 + 16 * s + (10 + 2))).toInt + (a (250 + 16 * s + (10 + 3))).toInt ≤ (a (250 + 16 * s + 0)).toInt)
theorem Sok.lc {a : Nat → Int32} {s : Nat} (h : Sok a s) : (a (250 + 16 * s + 1)).toInt ≤ 50 := h.1
theorem Sok.hd {a : Nat → Int32} {s : Nat} (h : Sok a s) : (a (250 + 16 * s + 0)).toInt ≤ 500 := h.2.1
theorem Sok.ow {a : Nat → Int32} {s : Nat} (h : Sok a s) : 0 ≤ (a (250 + 16 * s + 8)).toInt := h.2.2.1
theorem Sok.ol {a : Nat → Int32} {s : Nat} (h : Sok a s) : (a (250 + 16 * s + 8)).toInt ≤ (a (250 + 16 * s + 1)).toInt := h.2.2.2.1
theorem Sok.cg {a : Nat → Int32} {s : Nat} (h : Sok a s) : ∀ g, 1 ≤ g → g < 4 → 0 ≤ (a (250 + 16 * s + (10 + g))).toInt := h.2.2.2.2.1
theorem Sok.su {a : Nat → Int32} {s : Nat} (h : Sok a s) : (a (250 + 16 * s + 8)).toInt + (a (250 + 16 * s + (10 + 1))).toInt + (a (250 + 16 * s + (10 + 2))).toInt + (a (250 + 16 * s + (10 + 3))).toInt ≤ (a (250 + 16 * s + 0)).toInt := h.2.2.2.2.2
theorem Sok.mk {a : Nat → Int32} {s : Nat} (h0 : (a (250 + 16 * s + 1)).toInt ≤ 50) (h1 : (a (250 + 16 * s + 0)).toInt ≤ 500) (h2 : 0 ≤ (a (250 + 16 * s + 8)).toInt) (h3 : (a (250 + 16 * s + 8)).toInt ≤ (a (250 + 16 * s + 1)).toInt) (h4 : ∀ g, 1 ≤ g → g < 4 → 0 ≤ (a (250 + 16 * s + (10 + g))).toInt) (h5 : (a (250 + 16 * s + 8)).toInt + (a (250 + 16 * s + (10 + 1))).toInt + (a (250 + 16 * s + (10 + 2))).toInt + (a (250 + 16 * s + (10 + 3))).toInt ≤ (a (250 + 16 * s + 0)).toInt) : Sok a s := ⟨h0, h1, h2, h3, h4, h5⟩
def Inv (a : Nat → Int32) (M n : Nat) (B : Nat → Nat) : Prop :=
  (a 0 = nI M) ∧
  (M ≤ 600) ∧
  (a 1 = nI n) ∧
  (n ≤ 4) ∧
  (∃ T, T ≤ 500 ∧ a 4 = nI T) ∧
  (a 3 = 0 ∨ a 3 = 1) ∧
  (∀ p, 1 ≤ p → p < 5 → ∀ g, 1 ≤ g → g < 4 → 0 ≤ (a (10 + 4 * p + g)).toInt ∧ (a (10 + 4 * p + g)).toInt ≤ 100000 * B p) ∧
  (∀ p, 1 ≤ p → p < 5 → ∀ g, g < 4 → 1 ≤ (a (30 + (4 * p + g))).toInt ∧ (a (30 + (4 * p + g))).toInt ≤ 1000) ∧
  (∀ p, 1 ≤ p → p < 5 → ∀ g, g < 4 → 1 ≤ (a (50 + (4 * p + g))).toInt ∧ (a (50 + (4 * p + g))).toInt ≤ 1000 + 100100 * B p) ∧
  (∀ s, n ≤ s → s < 4 → ∀ k, k < 16 → a (250 + 16 * s + k) = 0) ∧
  (∀ s, s < n → Sok a s) ∧
  (∀ s, s < n → a (250 + 16 * s + 4) ≠ -1 → a (250 + 16 * s + 5) = -1 ∧ a (250 + 16 * s + 6) = -1) ∧
  (0 ≤ (a 2).toInt ∧ (a 2).toInt ≤ 1000) ∧
  (∀ q, q < 10 → 0 ≤ (a (150 + 10 * q)).toInt) ∧
  (hsum a 10 = (a 2).toInt) ∧
  (∀ q, q < 10 → ∀ g, g < 4 → 0 ≤ (a (150 + 10 * q + 1 + g)).toInt ∧ (a (150 + 10 * q + 1 + g)).toInt < 1000) ∧
  (a 3 = 0 → ∀ q, q < 10 → ∀ g, g < 4 → a (150 + 10 * q + 1 + g) = 0) ∧
  (∀ p, 1 ≤ p → p < 5 → ∀ m, m < 620 → 0 ≤ (a (2000 + 620 * p + m)).toInt ∧ (M + 12 < m → a (2000 + 620 * p + m) = 0)) ∧
  (∀ p, p < 5 → okO a p) ∧
  (∀ p, B p ≤ 600) ∧
  (∀ s, s < n → a (250 + 16 * s + 7) = 0 ∨ a (250 + 16 * s + 7) = 1) ∧
  (∀ s, s < n → a (250 + 16 * s + 4) = -1 → ∃ t, t < 100000 ∧ a (250 + 16 * s + 5) = nI t)
theorem Inv.mo {a : Nat → Int32} {M n : Nat} {B : Nat → Nat} (h : Inv a M n B) : a 0 = nI M := h.1
theorem Inv.m6 {a : Nat → Int32} {M n : Nat} {B : Nat → Nat} (h : Inv a M n B) : M ≤ 600 := h.2.1
theorem Inv.sp {a : Nat → Int32} {M n : Nat} {B : Nat → Nat} (h : Inv a M n B) : a 1 = nI n := h.2.2.1
theorem Inv.s4 {a : Nat → Int32} {M n : Nat} {B : Nat → Nat} (h : Inv a M n B) : n ≤ 4 := h.2.2.2.1
theorem Inv.tl {a : Nat → Int32} {M n : Nat} {B : Nat → Nat} (h : Inv a M n B) : ∃ T, T ≤ 500 ∧ a 4 = nI T := h.2.2.2.2.1
theorem Inv.dv {a : Nat → Int32} {M n : Nat} {B : Nat → Nat} (h : Inv a M n B) : a 3 = 0 ∨ a 3 = 1 := h.2.2.2.2.2.1
theorem Inv.so {a : Nat → Int32} {M n : Nat} {B : Nat → Nat} (h : Inv a M n B) : ∀ p, 1 ≤ p → p < 5 → ∀ g, 1 ≤ g → g < 4 → 0 ≤ (a (10 + 4 * p + g)).toInt ∧ (a (10 + 4 * p + g)).toInt ≤ 100000 * B p := h.2.2.2.2.2.2.1
theorem Inv.bs {a : Nat → Int32} {M n : Nat} {B : Nat → Nat} (h : Inv a M n B) : ∀ p, 1 ≤ p → p < 5 → ∀ g, g < 4 → 1 ≤ (a (30 + (4 * p + g))).toInt ∧ (a (30 + (4 * p + g))).toInt ≤ 1000 := h.2.2.2.2.2.2.2.1
theorem Inv.pr {a : Nat → Int32} {M n : Nat} {B : Nat → Nat} (h : Inv a M n B) : ∀ p, 1 ≤ p → p < 5 → ∀ g, g < 4 → 1 ≤ (a (50 + (4 * p + g))).toInt ∧ (a (50 + (4 * p + g))).toInt ≤ 1000 + 100100 * B p := h.2.2.2.2.2.2.2.2.1
theorem Inv.un {a : Nat → Int32} {M n : Nat} {B : Nat → Nat} (h : Inv a M n B) : ∀ s, n ≤ s → s < 4 → ∀ k, k < 16 → a (250 + 16 * s + k) = 0 := h.2.2.2.2.2.2.2.2.2.1
theorem Inv.sh {a : Nat → Int32} {M n : Nat} {B : Nat → Nat} (h : Inv a M n B) : ∀ s, s < n → Sok a s := h.2.2.2.2.2.2.2.2.2.2.1
theorem Inv.se {a : Nat → Int32} {M n : Nat} {B : Nat → Nat} (h : Inv a M n B) : ∀ s, s < n → a (250 + 16 * s + 4) ≠ -1 → a (250 + 16 * s + 5) = -1 ∧ a (250 + 16 * s + 6) = -1 := h.2.2.2.2.2.2.2.2.2.2.2.1
theorem Inv.to {a : Nat → Int32} {M n : Nat} {B : Nat → Nat} (h : Inv a M n B) : 0 ≤ (a 2).toInt ∧ (a 2).toInt ≤ 1000 := h.2.2.2.2.2.2.2.2.2.2.2.2.1
theorem Inv.hd {a : Nat → Int32} {M n : Nat} {B : Nat → Nat} (h : Inv a M n B) : ∀ q, q < 10 → 0 ≤ (a (150 + 10 * q)).toInt := h.2.2.2.2.2.2.2.2.2.2.2.2.2.1
theorem Inv.hs {a : Nat → Int32} {M n : Nat} {B : Nat → Nat} (h : Inv a M n B) : hsum a 10 = (a 2).toInt := h.2.2.2.2.2.2.2.2.2.2.2.2.2.2.1
theorem Inv.rs {a : Nat → Int32} {M n : Nat} {B : Nat → Nat} (h : Inv a M n B) : ∀ q, q < 10 → ∀ g, g < 4 → 0 ≤ (a (150 + 10 * q + 1 + g)).toInt ∧ (a (150 + 10 * q + 1 + g)).toInt < 1000 := h.2.2.2.2.2.2.2.2.2.2.2.2.2.2.2.1
theorem Inv.rz {a : Nat → Int32} {M n : Nat} {B : Nat → Nat} (h : Inv a M n B) : a 3 = 0 → ∀ q, q < 10 → ∀ g, g < 4 → a (150 + 10 * q + 1 + g) = 0 := h.2.2.2.2.2.2.2.2.2.2.2.2.2.2.2.2.1
theorem Inv.lt {a : Nat → Int32} {M n : Nat} {B : Nat → Nat} (h : Inv a M n B) : ∀ p, 1 ≤ p → p < 5 → ∀ m, m < 620 → 0 ≤ (a (2000 + 620 * p + m)).toInt ∧ (M + 12 < m → a (2000 + 620 * p + m) = 0) := h.2.2.2.2.2.2.2.2.2.2.2.2.2.2.2.2.2.1
theorem Inv.od {a : Nat → Int32} {M n : Nat} {B : Nat → Nat} (h : Inv a M n B) : ∀ p, p < 5 → okO a p := h.2.2.2.2.2.2.2.2.2.2.2.2.2.2.2.2.2.2.1
theorem Inv.bb {a : Nat → Int32} {M n : Nat} {B : Nat → Nat} (h : Inv a M n B) : ∀ p, B p ≤ 600 := h.2.2.2.2.2.2.2.2.2.2.2.2.2.2.2.2.2.2.2.1
theorem Inv.dn {a : Nat → Int32} {M n : Nat} {B : Nat → Nat} (h : Inv a M n B) : ∀ s, s < n → a (250 + 16 * s + 7) = 0 ∨ a (250 + 16 * s + 7) = 1 := h.2.2.2.2.2.2.2.2.2.2.2.2.2.2.2.2.2.2.2.2.1
theorem Inv.tg {a : Nat → Int32} {M n : Nat} {B : Nat → Nat} (h : Inv a M n B) : ∀ s, s < n → a (250 + 16 * s + 4) = -1 → ∃ t, t < 100000 ∧ a (250 + 16 * s + 5) = nI t := h.2.2.2.2.2.2.2.2.2.2.2.2.2.2.2.2.2.2.2.2.2
theorem Inv.mk {a : Nat → Int32} {M n : Nat} {B : Nat → Nat} (h0 : a 0 = nI M) (h1 : M ≤ 600) (h2 : a 1 = nI n) (h3 : n ≤ 4) (h4 : ∃ T, T ≤ 500 ∧ a 4 = nI T) (h5 : a 3 = 0 ∨ a 3 = 1) (h6 : ∀ p, 1 ≤ p → p < 5 → ∀ g, 1 ≤ g → g < 4 → 0 ≤ (a (10 + 4 * p + g)).toInt ∧ (a (10 + 4 * p + g)).toInt ≤ 100000 * B p) (h7 : ∀ p, 1 ≤ p → p < 5 → ∀ g, g < 4 → 1 ≤ (a (30 + (4 * p + g))).toInt ∧ (a (30 + (4 * p + g))).toInt ≤ 1000) (h8 : ∀ p, 1 ≤ p → p < 5 → ∀ g, g < 4 → 1 ≤ (a (50 + (4 * p + g))).toInt ∧ (a (50 + (4 * p + g))).toInt ≤ 1000 + 100100 * B p) (h9 : ∀ s, n ≤ s → s < 4 → ∀ k, k < 16 → a (250 + 16 * s + k) = 0) (h10 : ∀ s, s < n → Sok a s) (h11 : ∀ s, s < n → a (250 + 16 * s + 4) ≠ -1 → a (250 + 16 * s + 5) = -1 ∧ a (250 + 16 * s + 6) = -1) (h12 : 0 ≤ (a 2).toInt ∧ (a 2).toInt ≤ 1000) (h13 : ∀ q, q < 10 → 0 ≤ (a (150 + 10 * q)).toInt) (h14 : hsum a 10 = (a 2).toInt) (h15 : ∀ q, q < 10 → ∀ g, g < 4 → 0 ≤ (a (150 + 10 * q + 1 + g)).toInt ∧ (a (150 + 10 * q + 1 + g)).toInt < 1000) (h16 : a 3 = 0 → ∀ q, q < 10 → ∀ g, g < 4 → a (150 + 10 * q + 1 + g) = 0) (h17 : ∀ p, 1 ≤ p → p < 5 → ∀ m, m < 620 → 0 ≤ (a (2000 + 620 * p + m)).toInt ∧ (M + 12 < m → a (2000 + 620 * p + m) = 0)) (h18 : ∀ p, p < 5 → okO a p) (h19 : ∀ p, B p ≤ 600) (h20 : ∀ s, s < n → a (250 + 16 * s + 7) = 0 ∨ a (250 + 16 * s + 7) = 1) (h21 : ∀ s, s < n → a (250 + 16 * s + 4) = -1 → ∃ t, t < 100000 ∧ a (250 + 16 * s + 5) = nI t) : Inv a M n B := ⟨h0, h1, h2, h3, h4, h5, h6, h7, h8, h9, h10, h11, h12, h13, h14, h15, h16, h17, h18, h19, h20, h21⟩
end IV

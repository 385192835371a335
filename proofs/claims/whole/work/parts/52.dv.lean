/-! divide: the numbers -/
section DV
variable {a : Nat → Int32} {M n : Nat} {B : Nat → Nat}
theorem m_dv_ne {g i : Nat} {y : Int32} : ∀ q, (∀ p, p < q → i ≠ 150 + 10 * p + 1 + g ∧ i ≠ 150 + 10 * p + 5 + g) → (m_dv a g y q).1 i = a i
  | 0, _ => rfl
  | q + 1, h => by
    unfold m_dv
    dsimp only
    rw [upd_ne (h q (by omega)).2, upd_ne (h q (by omega)).1]
    exact m_dv_ne q (fun p hp => h p (by omega))
theorem m_due_eq {g q : Nat} {y : Int32} (hg : g < 4) : m_due (m_dv a g y q).1 g y q = m_due a g y q := by
  unfold m_due
  rw [m_dv_ne q (by intro p hp; omega), m_dv_ne q (by intro p hp; omega)]
theorem m_dv_rest {g q : Nat} {y : Int32} (hg : g < 4) : ∀ k, q < k → (m_dv a g y k).1 (150 + 10 * q + 1 + g) = (lrm (m_due a g y q) (a 2).toInt64).toInt32
  | 0, h => absurd h (Nat.not_lt_zero _)
  | k + 1, h => by
    unfold m_dv
    dsimp only
    rw [upd_ne (by omega)]
    by_cases e : q = k
    · subst e
      rw [upd_eq, m_due_eq hg, m_dv_2]
    · rw [upd_ne (by omega)]
      exact m_dv_rest hg k (by omega)
theorem m_dv_V {g q : Nat} {y : Int32} (hg : g < 4) : (m_dv a g y (q + 1)).2 = (m_dv a g y q).2 + (m_due a g y q / (a 2).toInt64).toInt32 := by
  rw [show (m_dv a g y (q + 1)).2 = (m_dv a g y q).2 + m_whole (m_dv a g y q).1 g y q from rfl]
  unfold m_whole
  rw [m_due_eq hg, m_dv_2]
/-- the sums as whole numbers -/
def zsum (f : Nat → Int) : Nat → Int
  | 0 => 0
  | q + 1 => zsum f q + f q
theorem zsum_nn {f : Nat → Int} : ∀ q, (∀ j, j < q → 0 ≤ f j) → 0 ≤ zsum f q
  | 0, _ => Int.le_refl _
  | q + 1, h => by
    have h1 := zsum_nn q (fun j hj => h j (by omega))
    have h2 := h q (by omega)
    simp only [zsum]
    omega
theorem zsum_le {f : Nat → Int} {c : Int} : ∀ q, (∀ j, j < q → f j ≤ c) → zsum f q ≤ q * c
  | 0, _ => by simp [zsum]
  | q + 1, h => by
    have h1 := zsum_le q (fun j hj => h j (by omega))
    have h2 := h q (by omega)
    simp only [zsum]
    rw [show ((q + 1 : Nat) : Int) = (q : Int) + 1 by omega, Int.add_mul]
    omega
theorem zsum_cg {f f' : Nat → Int} : ∀ q, (∀ j, j < q → f j = f' j) → zsum f q = zsum f' q
  | 0, _ => rfl
  | q + 1, h => by simp only [zsum]; rw [zsum_cg q (fun j hj => h j (by omega)), h q (by omega)]
theorem rsum_int {g : Nat} : ∀ q, q ≤ 10 → (∀ j, j < q → 0 ≤ (a (150 + 10 * j + 1 + g)).toInt ∧ (a (150 + 10 * j + 1 + g)).toInt < 1000) → (m_rsum a g q).toInt = zsum (fun j => (a (150 + 10 * j + 1 + g)).toInt) q
  | 0, _, _ => rfl
  | q + 1, hq, h => by
    have ih := rsum_int q (by omega) (fun j hj => h j (by omega))
    have h2 := h q (by omega)
    have h3 := zsum_nn q (f := fun j => (a (150 + 10 * j + 1 + g)).toInt) (fun j hj => (h j (by omega)).1)
    have h4 := zsum_le q (f := fun j => (a (150 + 10 * j + 1 + g)).toInt) (c := 1000) (fun j hj => Int.le_of_lt (h j (by omega)).2)
    simp only [m_rsum, zsum]
    rw [add_int (by omega) (by omega), ih]
theorem div_int {x y : Int32} (hx : 0 ≤ x.toInt) (hy : 0 < y.toInt) : (x / y).toInt = x.toInt / y.toInt := by
  have h := int_hi x
  rw [Int32.toInt_div]
  have e : x.toInt.tdiv y.toInt = x.toInt / y.toInt := Int.tdiv_eq_ediv_of_nonneg hx
  rw [e]
  have h1 : 0 ≤ x.toInt / y.toInt := Int.ediv_nonneg hx (Int.le_of_lt hy)
  have h2 : x.toInt / y.toInt ≤ x.toInt := Int.ediv_le_self _ hx
  exact Int.bmod_eq_of_le (by omega) (by omega)
theorem carr_int {g : Nat} (ht : 0 < (a 2).toInt) (h : ∀ j, j < 10 → 0 ≤ (a (150 + 10 * j + 1 + g)).toInt ∧ (a (150 + 10 * j + 1 + g)).toInt < 1000) : (m_carr a g).toInt = zsum (fun j => (a (150 + 10 * j + 1 + g)).toInt) 10 / (a 2).toInt := by
  unfold m_carr
  have hz : ¬ a 2 = 0 := fun z => by rw [z] at ht; simp at ht
  rw [if_neg hz]
  have e := rsum_int (a := a) (g := g) 10 (Nat.le_refl _) h
  rw [div_int (by rw [e]; exact zsum_nn 10 (fun j hj => (h j hj).1)) ht, e]
theorem due_int {g q : Nat} {y : Int32} (hy : 0 < y.toInt) (hr : 0 ≤ (a (150 + 10 * q + 1 + g)).toInt ∧ (a (150 + 10 * q + 1 + g)).toInt < 1000) (hh : 0 ≤ (a (150 + 10 * q)).toInt ∧ (a (150 + 10 * q)).toInt ≤ 1000) : (m_due a g y q).toInt = (a (150 + 10 * q + 1 + g)).toInt + (a (150 + 10 * q)).toInt * y.toInt ∧ 0 ≤ (a (150 + 10 * q)).toInt * y.toInt ∧ (a (150 + 10 * q)).toInt * y.toInt ≤ 1000 * 2147483648 := by
  have hy2 := int_hi y
  have p1 : 0 ≤ (a (150 + 10 * q)).toInt * y.toInt := Int.mul_nonneg hh.1 (Int.le_of_lt hy)
  have p2 : (a (150 + 10 * q)).toInt * y.toInt ≤ 1000 * 2147483648 := Int.le_trans (Int.mul_le_mul_of_nonneg_right hh.2 (Int.le_of_lt hy)) (Int.mul_le_mul_of_nonneg_left (Int.le_of_lt hy2) (by decide))
  refine ⟨?_, p1, p2⟩
  unfold m_due
  rw [Int64.toInt_add, Int64.toInt_mul, Int32.toInt_toInt64, Int32.toInt_toInt64, Int32.toInt_toInt64]
  rw [show ((a (150 + 10 * q)).toInt * y.toInt).bmod (2 ^ 64) = (a (150 + 10 * q)).toInt * y.toInt from Int.bmod_eq_of_le (by omega) (by omega)]
  exact Int.bmod_eq_of_le (by omega) (by omega)
theorem div64_int {x y : Int64} (hx : 0 ≤ x.toInt) (hy : 0 < y.toInt) : (x / y).toInt = x.toInt / y.toInt := by
  have h := Int64.toInt_lt x
  rw [Int64.toInt_div]
  have e : x.toInt.tdiv y.toInt = x.toInt / y.toInt := Int.tdiv_eq_ediv_of_nonneg hx
  rw [e]
  have h1 : 0 ≤ x.toInt / y.toInt := Int.ediv_nonneg hx (Int.le_of_lt hy)
  have h2 : x.toInt / y.toInt ≤ x.toInt := Int.ediv_le_self _ hx
  exact Int.bmod_eq_of_le (by omega) (by omega)
theorem lrm_int {x y : Int64} (hx : 0 ≤ x.toInt) (hy : 0 < y.toInt) : (lrm x y).toInt = x.toInt % y.toInt := by
  have h := Int64.toInt_lt x
  unfold lrm
  rw [Int64.toInt_sub, Int64.toInt_mul, div64_int hx hy]
  have e1 : x.toInt / y.toInt * y.toInt + x.toInt % y.toInt = x.toInt := by rw [Int.mul_comm]; exact Int.mul_ediv_add_emod _ _
  have h1 : 0 ≤ x.toInt % y.toInt := Int.emod_nonneg _ (by omega)
  have h2 : x.toInt % y.toInt < y.toInt := Int.emod_lt_of_pos _ hy
  have h3 : 0 ≤ x.toInt / y.toInt * y.toInt := Int.mul_nonneg (Int.ediv_nonneg hx (Int.le_of_lt hy)) (Int.le_of_lt hy)
  rw [show (x.toInt / y.toInt * y.toInt).bmod (2 ^ 64) = x.toInt / y.toInt * y.toInt from Int.bmod_eq_of_le (by omega) (by omega)]
  rw [show x.toInt - x.toInt / y.toInt * y.toInt = x.toInt % y.toInt by omega]
  exact Int.bmod_eq_of_le (by omega) (by omega)
end DV

/-! the relation between a company and what the reference holds -/
section RL
def mpI (i : Nat) : Option (Nat × Nat) :=
  if i < 10 then
    (if i = 0 then some (rc 1 0, 0) else if i = 1 then some (rc 1 0, 1) else if i = 2 then some (rc 8 0, 1) else if i = 3 then some (rc 8 0, 2) else if i = 4 then some (rc 9 0, 1) else if i = 5 then some (rc 1 0, 2) else if i = 6 then some (rc 1 0, 3) else none)
  else if i < 30 then some (rc 27 ((i - 10) / 4), (i - 10) % 4)
  else if i < 110 then (if (i - 30) % 20 < 4 then none else some (rc 2 ((i - 30) % 20), (i - 30) / 20))
  else if i < 150 then none
  else if i < 250 then (if (i - 150) % 10 = 0 then some (rc 31 0, (i - 150) / 10) else if (i - 150) % 10 < 5 then some (rc 32 0, (i - 150) / 10 * 4 + ((i - 150) % 10 - 1)) else if (i - 150) % 10 < 9 then some (rc 33 0, (i - 150) / 10 * 4 + ((i - 150) % 10 - 5)) else none)
  else if i < 314 then (if (i - 250) % 16 < 4 then some (rc 7 ((i - 250) / 16), (i - 250) % 16) else if (i - 250) % 16 = 4 then some (rc 7 ((i - 250) / 16), 6) else if (i - 250) % 16 = 7 then some (rc 7 ((i - 250) / 16), 9) else if (i - 250) % 16 = 8 then some (rc 7 ((i - 250) / 16), 5) else if (i - 250) % 16 = 9 then some (rc 7 ((i - 250) / 16), 10) else if 10 ≤ (i - 250) % 16 ∧ (i - 250) % 16 < 14 then some (rc 30 ((i - 250) / 16), (i - 250) % 16 - 10) else none)
  else if i < 320 then none
  else if i < 340 then (if (i - 320) % 4 = 0 then some (rc 3 ((i - 320) / 4), 0) else if (i - 320) % 4 = 1 then some (rc 5 ((i - 320) / 4), 4) else if (i - 320) % 4 = 2 then some (rc 5 ((i - 320) / 4), 5) else none)
  else none
def ivI (c s : Nat) : Nat :=
  let r := c % 64
  let o := c / 64
  if r = 1 then (if s < 2 then s else s + 3) else if r = 8 then s + 1 else if r = 9 then 4
  else if r = 27 then 10 + 4 * o + s else if r = 2 then 30 + 20 * s + o
  else if r = 31 then 150 + 10 * s else if r = 32 then 151 + 10 * (s / 4) + s % 4 else if r = 33 then 155 + 10 * (s / 4) + s % 4
  else if r = 7 then 250 + 16 * o + (if s < 4 then s else if s = 6 then 4 else if s = 9 then 7 else if s = 5 then 8 else 9)
  else if r = 30 then 260 + 16 * o + s else if r = 3 then 320 + 4 * o else 317 + 4 * o + s
/-- the roles that the map names -/
def okcs (c s : Nat) : Bool := (c / 64 < 20) && (c % 64 == 1 || c % 64 == 8 || c % 64 == 9 || c % 64 == 27 || c % 64 == 2 || c % 64 == 31 || c % 64 == 32 || c % 64 == 33 || (c % 64 == 7 && s != 7 && s != 8) || c % 64 == 30 || (c % 64 == 3 && s == 0) || (c % 64 == 5 && s != 0))
def mpok (i : Nat) : Bool := match mpI i with
  | some (c, s) => ivI c s == i && okcs c s
  | none => true
theorem mpok_all : ∀ i, i < 340 → mpok i = true := by decide +kernel
theorem mpI_lt {i c s : Nat} (h : mpI i = some (c, s)) : i < 340 := by
  refine Nat.lt_of_not_le (fun z => ?_)
  unfold mpI at h
  rw [if_neg (by omega), if_neg (by omega), if_neg (by omega), if_neg (by omega), if_neg (by omega), if_neg (by omega), if_neg (by omega), if_neg (by omega)] at h
  cases h
theorem mpI_iv {i c s : Nat} (h : mpI i = some (c, s)) : ivI c s = i ∧ okcs c s = true := by
  have := mpok_all i (mpI_lt h)
  unfold mpok at this
  rw [h] at this
  simpa using this
theorem mpI_inj {i j c s : Nat} (h : mpI i = some (c, s)) (h' : mpI j = some (c, s)) : i = j :=
  (mpI_iv h).1.symm.trans (mpI_iv h').1
theorem rcX (r o X : Nat) : rc r o + 64 * X = rc r (X + o) := by unfold rc; omega
theorem mp_store : ∀ p, p < 5 → ∀ g, g < 4 → mpI (10 + 4 * p + g) = some (rc 27 p, g) := by decide +kernel
theorem mp_mk : ∀ k, k < 4 → ∀ j, j < 20 → 4 ≤ j → mpI (30 + 20 * k + j) = some (rc 2 j, k) := by decide +kernel
theorem mp_held : ∀ q, q < 10 → mpI (150 + 10 * q) = some (rc 31 0, q) := by decide +kernel
theorem mp_rest : ∀ q, q < 10 → ∀ g, g < 4 → mpI (150 + 10 * q + 1 + g) = some (rc 32 0, q * 4 + g) := by decide +kernel
theorem mp_got : ∀ q, q < 10 → ∀ g, g < 4 → mpI (150 + 10 * q + 5 + g) = some (rc 33 0, q * 4 + g) := by decide +kernel
theorem mp_sh : ∀ s, s < 4 → ∀ k, k < 4 → mpI (250 + 16 * s + k) = some (rc 7 s, k) := by decide +kernel
theorem mp_sh4 : ∀ s, s < 4 → mpI (250 + 16 * s + 4) = some (rc 7 s, 6) := by decide +kernel
theorem mp_sh7 : ∀ s, s < 4 → mpI (250 + 16 * s + 7) = some (rc 7 s, 9) := by decide +kernel
theorem mp_sh8 : ∀ s, s < 4 → mpI (250 + 16 * s + 8) = some (rc 7 s, 5) := by decide +kernel
theorem mp_sh9 : ∀ s, s < 4 → mpI (250 + 16 * s + 9) = some (rc 7 s, 10) := by decide +kernel
theorem mp_cg : ∀ s, s < 4 → ∀ g, g < 4 → mpI (250 + 16 * s + (10 + g)) = some (rc 30 s, g) := by decide +kernel
theorem mp_ord : ∀ p, p < 5 → mpI (320 + 4 * p) = some (rc 3 p, 0) := by decide +kernel
theorem mp_f1 : ∀ p, p < 5 → mpI (320 + 4 * p + 1) = some (rc 5 p, 4) := by decide +kernel
theorem mp_f2 : ∀ p, p < 5 → mpI (320 + 4 * p + 2) = some (rc 5 p, 5) := by decide +kernel
/-- codes of what a test asks: the class's w, the reference's v -/
def whc (w : Nat) : Nat := if w < 5 then w + 1 else if w < 8 then w + 6 else w + 12
/-- one line of a factor's orders -/
def OL (I : Nat → Nat → Int32) (o : Nat) (a : Nat → Int32) (p l : Nat) : Prop :=
  (I (rc 22 o) l = a (350 + 320 * p + 20 * l)) ∧
  (I (rc 19 o) l + 1 = a (350 + 320 * p + 20 * l + 17)) ∧
  (I (rc 20 o) l = a (350 + 320 * p + 20 * l + 18)) ∧
  (I (rc 21 o) l = a (350 + 320 * p + 20 * l + 19)) ∧
  (∀ t T, a (350 + 320 * p + 20 * l) = nI T → T ≤ 4 → t < T → ∃ w, w < 12 ∧ w ≠ 8 ∧ I (rc 23 o) (l * 4 + t) = nI w ∧ a (350 + 320 * p + 20 * l + 1 + 3 * t) = nI (whc w) ∧ ((I (rc 24 o) (l * 4 + t) = 5 ∧ a (350 + 320 * p + 20 * l + 2 + 3 * t) = 60) ∨ (I (rc 24 o) (l * 4 + t) = 6 ∧ a (350 + 320 * p + 20 * l + 2 + 3 * t) = 62) ∨ (I (rc 24 o) (l * 4 + t) = 7 ∧ a (350 + 320 * p + 20 * l + 2 + 3 * t) = 61)) ∧ I (rc 25 o) (l * 4 + t) = a (350 + 320 * p + 20 * l + 3 + 3 * t))
theorem OL.tc {I : Nat → Nat → Int32} {o : Nat} {a : Nat → Int32} {p l : Nat} (h : OL I o a p l) : I (rc 22 o) l = a (350 + 320 * p + 20 * l) := h.1
theorem OL.ac {I : Nat → Nat → Int32} {o : Nat} {a : Nat → Int32} {p l : Nat} (h : OL I o a p l) : I (rc 19 o) l + 1 = a (350 + 320 * p + 20 * l + 17) := h.2.1
theorem OL.gd {I : Nat → Nat → Int32} {o : Nat} {a : Nat → Int32} {p l : Nat} (h : OL I o a p l) : I (rc 20 o) l = a (350 + 320 * p + 20 * l + 18) := h.2.2.1
theorem OL.nu {I : Nat → Nat → Int32} {o : Nat} {a : Nat → Int32} {p l : Nat} (h : OL I o a p l) : I (rc 21 o) l = a (350 + 320 * p + 20 * l + 19) := h.2.2.2.1
theorem OL.te {I : Nat → Nat → Int32} {o : Nat} {a : Nat → Int32} {p l : Nat} (h : OL I o a p l) : ∀ t T, a (350 + 320 * p + 20 * l) = nI T → T ≤ 4 → t < T → ∃ w, w < 12 ∧ w ≠ 8 ∧ I (rc 23 o) (l * 4 + t) = nI w ∧ a (350 + 320 * p + 20 * l + 1 + 3 * t) = nI (whc w) ∧ ((I (rc 24 o) (l * 4 + t) = 5 ∧ a (350 + 320 * p + 20 * l + 2 + 3 * t) = 60) ∨ (I (rc 24 o) (l * 4 + t) = 6 ∧ a (350 + 320 * p + 20 * l + 2 + 3 * t) = 62) ∨ (I (rc 24 o) (l * 4 + t) = 7 ∧ a (350 + 320 * p + 20 * l + 2 + 3 * t) = 61)) ∧ I (rc 25 o) (l * 4 + t) = a (350 + 320 * p + 20 * l + 3 + 3 * t) := h.2.2.2.2
theorem OL.mk {I : Nat → Nat → Int32} {o : Nat} {a : Nat → Int32} {p l : Nat} (h0 : I (rc 22 o) l = a (350 + 320 * p + 20 * l)) (h1 : I (rc 19 o) l + 1 = a (350 + 320 * p + 20 * l + 17)) (h2 : I (rc 20 o) l = a (350 + 320 * p + 20 * l + 18)) (h3 : I (rc 21 o) l = a (350 + 320 * p + 20 * l + 19)) (h4 : ∀ t T, a (350 + 320 * p + 20 * l) = nI T → T ≤ 4 → t < T → ∃ w, w < 12 ∧ w ≠ 8 ∧ I (rc 23 o) (l * 4 + t) = nI w ∧ a (350 + 320 * p + 20 * l + 1 + 3 * t) = nI (whc w) ∧ ((I (rc 24 o) (l * 4 + t) = 5 ∧ a (350 + 320 * p + 20 * l + 2 + 3 * t) = 60) ∨ (I (rc 24 o) (l * 4 + t) = 6 ∧ a (350 + 320 * p + 20 * l + 2 + 3 * t) = 62) ∨ (I (rc 24 o) (l * 4 + t) = 7 ∧ a (350 + 320 * p + 20 * l + 2 + 3 * t) = 61)) ∧ I (rc 25 o) (l * 4 + t) = a (350 + 320 * p + 20 * l + 3 + 3 * t)) : OL I o a p l := ⟨h0, h1, h2, h3, h4⟩
/-- a byte of the tape -/
def bt (v w : Int32) : Prop := -128 ≤ v.toInt ∧ v.toInt ≤ 127 ∧ w.toInt = (if 0 ≤ v.toInt then v.toInt else v.toInt + 256)
def qk (q : Nat) : Nat := if q = 0 then 0 else q + 2
/-- M < 1000: between months. 1000 + m: in month m, when its letters have come -/
def wn (M : Nat) : Nat := if M < 1000 then M else M - 1000 + 1
def pb (M : Nat) : Nat := if M < 1000 then M else M - 1000
theorem wn_id {M : Nat} (h : M ≤ 601) : wn M = M := by unfold wn; rw [if_pos (by omega)]
theorem pb_id {M : Nat} (h : M ≤ 601) : pb M = M := by unfold pb; rw [if_pos (by omega)]
theorem wn_in {M : Nat} : wn (1000 + M) = M + 1 := by unfold wn; rw [if_neg (by omega)]; omega
theorem pb_in {M : Nat} : pb (1000 + M) = M := by unfold pb; rw [if_neg (by omega)]; omega
def Rel (R : Nat → Nat → Value) (X : Nat) (I : Nat → Nat → Int32) (J : Nat → Nat → Int64) (a : Nat → Int32) (b : Nat → Int64) (M : Nat) : Prop :=
  (∀ i c s, mpI i = some (c, s) → I (c + 64 * X) s = a i) ∧
  (∀ g, g < 4 → ∀ q, q < 5 → J (rc 15 X) (g * 7 + qk q) = b (8 * g + q)) ∧
  (∀ p, p < 5 → I (rc 5 (X + p)) 0 = nI p) ∧
  (∀ s, s < 4 → a (250 + 16 * s + 4) = -1 → I (rc 7 (X + s)) 7 = a (250 + 16 * s + 5) ∧ I (rc 7 (X + s)) 8 = a (250 + 16 * s + 6)) ∧
  (∀ g, g < 4 → I (rc 34 X) g = m_carr a g) ∧
  (∀ p i, 1 ≤ p → p < 5 → i < 13 → I (rc 29 (X + p)) ((wn M + i) % 13) = a (2000 + 620 * p + (wn M + i))) ∧
  (∀ T, a 4 = nI T → T ≤ 500 → ∀ i, i < T → bt (I (rc 13 X) i) (a (17100 + i))) ∧
  (∀ p, 1 ≤ p → p < 5 → ∀ L, a (320 + 4 * p) = nI L → L ≤ 16 → ∀ l, l < L → OL I (X + p) a p l) ∧
  (∀ m, m < pb M → R (rc 18 X) (m / 60) = .ref (rc 4 (X + m / 60)) ∧ ∀ k, k < 20 → I (rc 26 (X + m / 60)) (m % 60 * 20 + k) = a (5100 + 20 * m + k))
theorem Rel.m1 {R : Nat → Nat → Value} {X : Nat} {I : Nat → Nat → Int32} {J : Nat → Nat → Int64} {a : Nat → Int32} {b : Nat → Int64} {M : Nat} (h : Rel R X I J a b M) : ∀ i c s, mpI i = some (c, s) → I (c + 64 * X) s = a i := h.1
theorem Rel.jb {R : Nat → Nat → Value} {X : Nat} {I : Nat → Nat → Int32} {J : Nat → Nat → Int64} {a : Nat → Int32} {b : Nat → Int64} {M : Nat} (h : Rel R X I J a b M) : ∀ g, g < 4 → ∀ q, q < 5 → J (rc 15 X) (g * 7 + qk q) = b (8 * g + q) := h.2.1
theorem Rel.num {R : Nat → Nat → Value} {X : Nat} {I : Nat → Nat → Int32} {J : Nat → Nat → Int64} {a : Nat → Int32} {b : Nat → Int64} {M : Nat} (h : Rel R X I J a b M) : ∀ p, p < 5 → I (rc 5 (X + p)) 0 = nI p := h.2.2.1
theorem Rel.sea {R : Nat → Nat → Value} {X : Nat} {I : Nat → Nat → Int32} {J : Nat → Nat → Int64} {a : Nat → Int32} {b : Nat → Int64} {M : Nat} (h : Rel R X I J a b M) : ∀ s, s < 4 → a (250 + 16 * s + 4) = -1 → I (rc 7 (X + s)) 7 = a (250 + 16 * s + 5) ∧ I (rc 7 (X + s)) 8 = a (250 + 16 * s + 6) := h.2.2.2.1
theorem Rel.asd {R : Nat → Nat → Value} {X : Nat} {I : Nat → Nat → Int32} {J : Nat → Nat → Int64} {a : Nat → Int32} {b : Nat → Int64} {M : Nat} (h : Rel R X I J a b M) : ∀ g, g < 4 → I (rc 34 X) g = m_carr a g := h.2.2.2.2.1
theorem Rel.pst {R : Nat → Nat → Value} {X : Nat} {I : Nat → Nat → Int32} {J : Nat → Nat → Int64} {a : Nat → Int32} {b : Nat → Int64} {M : Nat} (h : Rel R X I J a b M) : ∀ p i, 1 ≤ p → p < 5 → i < 13 → I (rc 29 (X + p)) ((wn M + i) % 13) = a (2000 + 620 * p + (wn M + i)) := h.2.2.2.2.2.1
theorem Rel.tap {R : Nat → Nat → Value} {X : Nat} {I : Nat → Nat → Int32} {J : Nat → Nat → Int64} {a : Nat → Int32} {b : Nat → Int64} {M : Nat} (h : Rel R X I J a b M) : ∀ T, a 4 = nI T → T ≤ 500 → ∀ i, i < T → bt (I (rc 13 X) i) (a (17100 + i)) := h.2.2.2.2.2.2.1
theorem Rel.ord {R : Nat → Nat → Value} {X : Nat} {I : Nat → Nat → Int32} {J : Nat → Nat → Int64} {a : Nat → Int32} {b : Nat → Int64} {M : Nat} (h : Rel R X I J a b M) : ∀ p, 1 ≤ p → p < 5 → ∀ L, a (320 + 4 * p) = nI L → L ≤ 16 → ∀ l, l < L → OL I (X + p) a p l := h.2.2.2.2.2.2.2.1
theorem Rel.pag {R : Nat → Nat → Value} {X : Nat} {I : Nat → Nat → Int32} {J : Nat → Nat → Int64} {a : Nat → Int32} {b : Nat → Int64} {M : Nat} (h : Rel R X I J a b M) : ∀ m, m < pb M → R (rc 18 X) (m / 60) = .ref (rc 4 (X + m / 60)) ∧ ∀ k, k < 20 → I (rc 26 (X + m / 60)) (m % 60 * 20 + k) = a (5100 + 20 * m + k) := h.2.2.2.2.2.2.2.2
theorem Rel.mk {R : Nat → Nat → Value} {X : Nat} {I : Nat → Nat → Int32} {J : Nat → Nat → Int64} {a : Nat → Int32} {b : Nat → Int64} {M : Nat} (h0 : ∀ i c s, mpI i = some (c, s) → I (c + 64 * X) s = a i) (h1 : ∀ g, g < 4 → ∀ q, q < 5 → J (rc 15 X) (g * 7 + qk q) = b (8 * g + q)) (h2 : ∀ p, p < 5 → I (rc 5 (X + p)) 0 = nI p) (h3 : ∀ s, s < 4 → a (250 + 16 * s + 4) = -1 → I (rc 7 (X + s)) 7 = a (250 + 16 * s + 5) ∧ I (rc 7 (X + s)) 8 = a (250 + 16 * s + 6)) (h4 : ∀ g, g < 4 → I (rc 34 X) g = m_carr a g) (h5 : ∀ p i, 1 ≤ p → p < 5 → i < 13 → I (rc 29 (X + p)) ((wn M + i) % 13) = a (2000 + 620 * p + (wn M + i))) (h6 : ∀ T, a 4 = nI T → T ≤ 500 → ∀ i, i < T → bt (I (rc 13 X) i) (a (17100 + i))) (h7 : ∀ p, 1 ≤ p → p < 5 → ∀ L, a (320 + 4 * p) = nI L → L ≤ 16 → ∀ l, l < L → OL I (X + p) a p l) (h8 : ∀ m, m < pb M → R (rc 18 X) (m / 60) = .ref (rc 4 (X + m / 60)) ∧ ∀ k, k < 20 → I (rc 26 (X + m / 60)) (m % 60 * 20 + k) = a (5100 + 20 * m + k)) : Rel R X I J a b M := ⟨h0, h1, h2, h3, h4, h5, h6, h7, h8⟩
/-- where a write leaves all but the map as it was -/
def pl (i : Nat) : Bool := decide (i ≠ 2 ∧ i ≠ 4 ∧ (i < 150 ∨ 250 ≤ i ∨ (i - 150) % 10 = 0 ∨ 5 ≤ (i - 150) % 10) ∧ (i < 250 ∨ 314 ≤ i ∨ ((i - 250) % 16 ≠ 4 ∧ (i - 250) % 16 ≠ 5 ∧ (i - 250) % 16 ≠ 6)) ∧ (i < 320 ∨ 340 ≤ i ∨ (i - 320) % 4 ≠ 0))
theorem pl_use {i : Nat} (h : pl i = true) : i ≠ 2 ∧ i ≠ 4 ∧ (i < 150 ∨ 250 ≤ i ∨ (i - 150) % 10 = 0 ∨ 5 ≤ (i - 150) % 10) ∧ (∀ s, s < 4 → i ≠ 250 + 16 * s + 4 ∧ i ≠ 250 + 16 * s + 5 ∧ i ≠ 250 + 16 * s + 6) ∧ (∀ p, p < 5 → i ≠ 320 + 4 * p) := by
  obtain ⟨h1, h2, h3, h4, h5⟩ := of_decide_eq_true h
  refine ⟨h1, h2, h3, fun s hs => ?_, fun p hp => ?_⟩
  · clear h h1 h2 h3 h5
    omega
  · clear h h1 h2 h3 h4
    omega
theorem m_rsum_upd {a : Nat → Int32} {i g : Nat} {v : Int32} (hg : g < 4) (hi : i < 150 ∨ 250 ≤ i ∨ (i - 150) % 10 = 0 ∨ 5 ≤ (i - 150) % 10) : ∀ q, q ≤ 10 → m_rsum (upd a i v) g q = m_rsum a g q
  | 0, _ => rfl
  | q + 1, h => by
    simp only [m_rsum]
    rw [m_rsum_upd hg hi q (by omega), upd_ne (by omega)]
theorem m_carr_upd {a : Nat → Int32} {i g : Nat} {v : Int32} (hg : g < 4) (h2 : i ≠ 2) (hi : i < 150 ∨ 250 ≤ i ∨ (i - 150) % 10 = 0 ∨ 5 ≤ (i - 150) % 10) : m_carr (upd a i v) g = m_carr a g := by
  unfold m_carr
  rw [m_rsum_upd hg hi 10 (Nat.le_refl _), upd_ne (by omega)]
theorem okcs_cases {c s : Nat} (h : okcs c s = true) : c / 64 < 20 ∧ c % 64 ≠ 34 ∧ c % 64 ≠ 29 ∧ c % 64 ≠ 13 ∧ (c % 64 < 19 ∨ 26 < c % 64) ∧ (c % 64 = 7 → s ≠ 7 ∧ s ≠ 8) ∧ (c % 64 = 5 → s ≠ 0) ∧ c % 64 ≠ 15 := by
  unfold okcs at h
  simp only [Bool.and_eq_true, Bool.or_eq_true, beq_iff_eq, bne_iff_ne, decide_eq_true_eq] at h
  omega
theorem Rel.m1up {R : Nat → Nat → Value} {X : Nat} {I : Nat → Nat → Int32} {J : Nat → Nat → Int64} {a : Nat → Int32} {b : Nat → Int64} {M i c s C : Nat} {v : Int32} (hi : mpI i = some (c, s)) (hC : c + 64 * X = C) (h : Rel R X I J a b M) : ∀ i' c' s', mpI i' = some (c', s') → ua I C (upd (I C) s v) (c' + 64 * X) s' = upd a i v i' := by
  intro i' c' s' h'
  subst hC
  rw [ua_at]
  by_cases z : c' = c
  · subst z
    rw [if_pos rfl]
    by_cases y : s' = s
    · subst y
      have := mpI_inj hi h'
      subst this
      rw [upd_eq, upd_eq]
    · have : i' ≠ i := fun e => y (by subst e; rw [hi] at h'; cases h'; rfl)
      rw [upd_ne y, upd_ne this]
      exact h.m1 _ _ _ h'
  · have : i' ≠ i := fun e => z (by subst e; rw [hi] at h'; cases h'; rfl)
    rw [if_neg (by omega), upd_ne this]
    exact h.m1 _ _ _ h'
theorem OL.wr {I : Nat → Nat → Int32} {o p l i : Nat} {a : Nat → Int32} {v : Int32} {C : Nat} {f : Nat → Int32} (h : OL I o a p l) (hi : ∀ k, 340 ≤ k → k ≠ i) (hC : ∀ r, 19 ≤ r → r ≤ 26 → rc r o ≠ C) : OL (ua I C f) o (upd a i v) p l := by
  have u : ∀ k, 340 ≤ k → upd a i v k = a k := fun k hk => upd_ne (hi k hk)
  have w : ∀ r, 19 ≤ r → r ≤ 26 → ua I C f (rc r o) = I (rc r o) := fun r h1 h2 => ua_ne (hC r h1 h2) 
  refine OL.mk ?_ ?_ ?_ ?_ ?_
  · rw [w 22 (by decide) (by decide), u _ (by omega)]; exact h.tc
  · rw [w 19 (by decide) (by decide), u _ (by omega)]; exact h.ac
  · rw [w 20 (by decide) (by decide), u _ (by omega)]; exact h.gd
  · rw [w 21 (by decide) (by decide), u _ (by omega)]; exact h.nu
  · intro t T hT hT4 ht
    rw [u _ (by omega)] at hT
    rw [w 23 (by decide) (by decide), w 24 (by decide) (by decide), w 25 (by decide) (by decide), u (350 + 320 * p + 20 * l + 1 + 3 * t) (by omega), u (350 + 320 * p + 20 * l + 2 + 3 * t) (by omega), u (350 + 320 * p + 20 * l + 3 + 3 * t) (by omega)]
    exact h.te t T hT hT4 ht
/-- a plain write on both sides -/
theorem Rel.up {R : Nat → Nat → Value} {X : Nat} {I : Nat → Nat → Int32} {J : Nat → Nat → Int64} {a : Nat → Int32} {b : Nat → Int64} {M i c s C : Nat} {v : Int32} (h : Rel R X I J a b M) (hi : mpI i = some (c, s)) (hC : c + 64 * X = C) (hp : pl i = true) : Rel R X (ua I C (upd (I C) s v)) J (upd a i v) b M := by
  have hm := Rel.m1up (v := v) hi hC h
  obtain ⟨o1, o2, o3, o4, o5, o6, o7, o8⟩ := okcs_cases (mpI_iv hi).2
  have hcm : C % 64 = c % 64 := by omega
  have hlt := mpI_lt hi
  clear hi
  have hr : ∀ r o, r < 64 → r ≠ c % 64 → rc r o ≠ C := fun r o h1 h2 z => h2 (by rw [← hcm, ← z]; unfold rc; omega)
  obtain ⟨p2, p4, p5, p6, p7⟩ := pl_use hp
  have x7 : ∀ o, rc 7 o = C → c % 64 = 7 := fun o z => by rw [← hcm, ← z]; unfold rc; omega
  have x5 : ∀ o, rc 5 o = C → c % 64 = 5 := fun o z => by rw [← hcm, ← z]; unfold rc; omega
  have r34 : rc 34 X ≠ C := hr 34 X (by decide) (fun z => o2 z.symm)
  have r29 : ∀ o, rc 29 o ≠ C := fun o => hr 29 o (by decide) (fun z => o3 z.symm)
  have r13 : rc 13 X ≠ C := hr 13 X (by decide) (fun z => o4 z.symm)
  have r19 : ∀ r o, 19 ≤ r → r ≤ 26 → rc r o ≠ C := fun r o h1 h2 => hr r o (by omega) (by omega)
  have big : ∀ k, 340 ≤ k → k ≠ i := fun k hk => by omega
  have ub : ∀ k, 340 ≤ k → upd a i v k = a k := fun k hk => upd_ne (big k hk)
  clear hcm hr o1 o2 o3 o4 o5 o8 hlt
  refine Rel.mk ?_ ?_ ?_ ?_ ?_ ?_ ?_ ?_ ?_
  · exact hm
  · exact h.jb
  · intro p hp5
    rw [ua_at]
    split
    next z =>
      rw [upd_ne (fun e => o7 (x5 _ z) e.symm), ← z]
      exact h.num p hp5
    next => exact h.num p hp5
  · intro q hq hs
    rw [upd_ne (fun e => (p6 q hq).1 e.symm)] at hs
    have := h.sea q hq hs
    rw [upd_ne (fun e => (p6 q hq).2.1 e.symm), upd_ne (fun e => (p6 q hq).2.2 e.symm), ua_at]
    split
    next z =>
      have e := x7 _ z
      rw [upd_ne (fun e' => (o6 e).1 e'.symm), upd_ne (fun e' => (o6 e).2 e'.symm), ← z]
      exact this
    next => exact this
  · intro g hg
    rw [m_carr_upd hg p2 p5, ua_ne r34]
    exact h.asd g hg
  · intro p i' h1 h5 h13
    rw [ua_ne (r29 _), ub _ (by omega)]
    exact h.pst p i' h1 h5 h13
  · intro T hT hT5 i' hi'
    rw [upd_ne (fun e => p4 e.symm)] at hT
    rw [ua_ne r13, ub _ (by omega)]
    exact h.tap T hT hT5 i' hi'
  · intro p h1 h5 L hL hL16 l hl
    rw [upd_ne (fun e => p7 p h5 e.symm)] at hL
    exact (h.ord p h1 h5 L hL hL16 l hl).wr big (fun r h19 h26 => r19 r _ h19 h26)
  · intro m hm'
    refine ⟨(h.pag m hm').1, fun k hk => ?_⟩
    rw [ua_ne (r19 26 _ (by decide) (by decide)), ub _ (by omega)]
    exact (h.pag m hm').2 k hk
/-- a write in the books -/
theorem Rel.upJ {R : Nat → Nat → Value} {X : Nat} {I : Nat → Nat → Int32} {J : Nat → Nat → Int64} {a : Nat → Int32} {b : Nat → Int64} {M g q k : Nat} {v : Int64} (h : Rel R X I J a b M) (hg : g < 4) (hq : q < 5) (hk : k = qk q) : Rel R X I (ua J (rc 15 X) (vp_updL (J (rc 15 X)) (g * 7 + k) v)) a (vp_updL b (8 * g + q) v) M := by
  subst hk
  refine Rel.mk ?_ ?_ ?_ ?_ ?_ ?_ ?_ ?_ ?_
  · exact h.m1
  · intro g' hg' q' hq'
    rw [ua_eq]
    by_cases z : g' = g ∧ q' = q
    · rw [z.1, z.2, updL_eq, updL_eq]
    · have : g' * 7 + qk q' ≠ g * 7 + qk q := by unfold qk; split <;> split <;> omega
      rw [updL_ne this, updL_ne (by omega)]
      exact h.jb g' hg' q' hq'
  · exact h.num
  · exact h.sea
  · exact h.asd
  · exact h.pst
  · exact h.tap
  · exact h.ord
  · exact h.pag
end RL

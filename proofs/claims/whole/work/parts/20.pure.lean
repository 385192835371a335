/-! the pure side: codes, kinds, lengths, updates -/
theorem kd_rc {r o k : Nat} (hr : r < 64) (h : kdr r = k) : kd (rc r o) = k := by
  unfold kd rc
  rw [show (r + 64 * o) % 64 = r by omega]
  exact h
theorem ln_rc {r o k : Nat} (hr : r < 63) (h : lnr r = k) : ln (rc r o) = k := by
  unfold ln rc
  rw [show (r + 64 * o) % 64 = r by omega, if_neg (by omega)]
  exact h
theorem rc_eq {r r' o o' : Nat} (h : r < 64) (h' : r' < 64) : (rc r o = rc r' o') ↔ (r = r' ∧ o = o') := by
  unfold rc; omega
theorem rc_ne {r r' o o' : Nat} (h : r < 64) (h' : r' < 64) (hn : r ≠ r') : rc r o ≠ rc r' o' := by
  unfold rc; omega
theorem kd_0 (o : Nat) : kd (rc 0 o) = 0 := kd_rc (by decide) rfl
theorem kd_1 (o : Nat) : kd (rc 1 o) = 1 := kd_rc (by decide) rfl
theorem kd_2 (o : Nat) : kd (rc 2 o) = 2 := kd_rc (by decide) rfl
theorem kd_3 (o : Nat) : kd (rc 3 o) = 3 := kd_rc (by decide) rfl
theorem kd_4 (o : Nat) : kd (rc 4 o) = 4 := kd_rc (by decide) rfl
theorem kd_5 (o : Nat) : kd (rc 5 o) = 5 := kd_rc (by decide) rfl
theorem kd_6 (o : Nat) : kd (rc 6 o) = 6 := kd_rc (by decide) rfl
theorem kd_7 (o : Nat) : kd (rc 7 o) = 7 := kd_rc (by decide) rfl
theorem kd_8 (o : Nat) : kd (rc 8 o) = 8 := kd_rc (by decide) rfl
theorem kd_9 (o : Nat) : kd (rc 9 o) = 9 := kd_rc (by decide) rfl
theorem kd_10 (o : Nat) : kd (rc 10 o) = 10 := kd_rc (by decide) rfl
theorem kd_11 (o : Nat) : kd (rc 11 o) = 11 := kd_rc (by decide) rfl
theorem kd_12 (o : Nat) : kd (rc 12 o) = 12 := kd_rc (by decide) rfl
theorem kd_13 (o : Nat) : kd (rc 13 o) = 13 := kd_rc (by decide) rfl
theorem kd_14 (o : Nat) : kd (rc 14 o) = 13 := kd_rc (by decide) rfl
theorem kd_15 (o : Nat) : kd (rc 15 o) = 15 := kd_rc (by decide) rfl
theorem kd_16 (o : Nat) : kd (rc 16 o) = 20 := kd_rc (by decide) rfl
theorem kd_17 (o : Nat) : kd (rc 17 o) = 21 := kd_rc (by decide) rfl
theorem kd_18 (o : Nat) : kd (rc 18 o) = 19 := kd_rc (by decide) rfl
theorem kd_19 (o : Nat) : kd (rc 19 o) = 14 := kd_rc (by decide) rfl
theorem kd_20 (o : Nat) : kd (rc 20 o) = 14 := kd_rc (by decide) rfl
theorem kd_21 (o : Nat) : kd (rc 21 o) = 14 := kd_rc (by decide) rfl
theorem kd_22 (o : Nat) : kd (rc 22 o) = 14 := kd_rc (by decide) rfl
theorem kd_23 (o : Nat) : kd (rc 23 o) = 14 := kd_rc (by decide) rfl
theorem kd_24 (o : Nat) : kd (rc 24 o) = 14 := kd_rc (by decide) rfl
theorem kd_25 (o : Nat) : kd (rc 25 o) = 14 := kd_rc (by decide) rfl
theorem kd_26 (o : Nat) : kd (rc 26 o) = 14 := kd_rc (by decide) rfl
theorem kd_27 (o : Nat) : kd (rc 27 o) = 14 := kd_rc (by decide) rfl
theorem kd_28 (o : Nat) : kd (rc 28 o) = 18 := kd_rc (by decide) rfl
theorem kd_29 (o : Nat) : kd (rc 29 o) = 14 := kd_rc (by decide) rfl
theorem kd_30 (o : Nat) : kd (rc 30 o) = 14 := kd_rc (by decide) rfl
theorem kd_31 (o : Nat) : kd (rc 31 o) = 14 := kd_rc (by decide) rfl
theorem kd_32 (o : Nat) : kd (rc 32 o) = 14 := kd_rc (by decide) rfl
theorem kd_33 (o : Nat) : kd (rc 33 o) = 14 := kd_rc (by decide) rfl
theorem kd_34 (o : Nat) : kd (rc 34 o) = 14 := kd_rc (by decide) rfl
theorem kd_35 (o : Nat) : kd (rc 35 o) = 17 := kd_rc (by decide) rfl
theorem kd_36 (o : Nat) : kd (rc 36 o) = 14 := kd_rc (by decide) rfl
theorem kd_37 (o : Nat) : kd (rc 37 o) = 15 := kd_rc (by decide) rfl
theorem kd_38 (o : Nat) : kd (rc 38 o) = 16 := kd_rc (by decide) rfl
theorem kd_39 (o : Nat) : kd (rc 39 o) = 14 := kd_rc (by decide) rfl
theorem ln_13 (o : Nat) : ln (rc 13 o) = 500 := ln_rc (by decide) rfl
theorem ln_14 (o : Nat) : ln (rc 14 o) = 0 := ln_rc (by decide) rfl
theorem ln_15 (o : Nat) : ln (rc 15 o) = 28 := ln_rc (by decide) rfl
theorem ln_16 (o : Nat) : ln (rc 16 o) = 5 := ln_rc (by decide) rfl
theorem ln_17 (o : Nat) : ln (rc 17 o) = 4 := ln_rc (by decide) rfl
theorem ln_18 (o : Nat) : ln (rc 18 o) = 10 := ln_rc (by decide) rfl
theorem ln_19 (o : Nat) : ln (rc 19 o) = 16 := ln_rc (by decide) rfl
theorem ln_20 (o : Nat) : ln (rc 20 o) = 16 := ln_rc (by decide) rfl
theorem ln_21 (o : Nat) : ln (rc 21 o) = 16 := ln_rc (by decide) rfl
theorem ln_22 (o : Nat) : ln (rc 22 o) = 16 := ln_rc (by decide) rfl
theorem ln_23 (o : Nat) : ln (rc 23 o) = 64 := ln_rc (by decide) rfl
theorem ln_24 (o : Nat) : ln (rc 24 o) = 64 := ln_rc (by decide) rfl
theorem ln_25 (o : Nat) : ln (rc 25 o) = 64 := ln_rc (by decide) rfl
theorem ln_26 (o : Nat) : ln (rc 26 o) = 1200 := ln_rc (by decide) rfl
theorem ln_27 (o : Nat) : ln (rc 27 o) = 4 := ln_rc (by decide) rfl
theorem ln_28 (o : Nat) : ln (rc 28 o) = 4 := ln_rc (by decide) rfl
theorem ln_29 (o : Nat) : ln (rc 29 o) = 13 := ln_rc (by decide) rfl
theorem ln_30 (o : Nat) : ln (rc 30 o) = 4 := ln_rc (by decide) rfl
theorem ln_31 (o : Nat) : ln (rc 31 o) = 10 := ln_rc (by decide) rfl
theorem ln_32 (o : Nat) : ln (rc 32 o) = 40 := ln_rc (by decide) rfl
theorem ln_33 (o : Nat) : ln (rc 33 o) = 40 := ln_rc (by decide) rfl
theorem ln_34 (o : Nat) : ln (rc 34 o) = 4 := ln_rc (by decide) rfl
theorem ln_35 (o : Nat) : ln (rc 35 o) = 3 := ln_rc (by decide) rfl
theorem ln_36 (o : Nat) : ln (rc 36 o) = 70400 := ln_rc (by decide) rfl
theorem ln_37 (o : Nat) : ln (rc 37 o) = 160 := ln_rc (by decide) rfl
theorem ln_38 (o : Nat) : ln (rc 38 o) = 3 := ln_rc (by decide) rfl
theorem ln_39 (o : Nat) : ln (rc 39 o) = 320 := ln_rc (by decide) rfl
theorem upd_eq {f : Nat → Int32} {k : Nat} {v : Int32} : upd f k v k = v := by simp [upd]
theorem upd_ne {f : Nat → Int32} {k j : Nat} {v : Int32} (h : j ≠ k) : upd f k v j = f j := by simp [upd, h]
theorem updL_eq {f : Nat → Int64} {k : Nat} {v : Int64} : vp_updL f k v k = v := by simp [vp_updL]
theorem updL_ne {f : Nat → Int64} {k j : Nat} {v : Int64} (h : j ≠ k) : vp_updL f k v j = f j := by simp [vp_updL, h]
theorem ui_ua (I : Nat → Nat → Int32) (c k : Nat) (v : Int32) : ui I c k v = ua I c (upd (I c) k v) := rfl
theorem uj_ua (J : Nat → Nat → Int64) (c k : Nat) (v : Int64) : uj J c k v = ua J c (vp_updL (J c) k v) := rfl
theorem ua_ua {α : Type} (I : Nat → Nat → α) (c : Nat) (f g : Nat → α) : ua (ua I c f) c g = ua I c g := by
  funext c'
  unfold ua
  by_cases h : c' = c <;> simp [h]
theorem ua_self {α : Type} (I : Nat → Nat → α) (c : Nat) : ua I c (I c) = I := by
  funext c'
  unfold ua
  by_cases h : c' = c <;> simp [h]
theorem ua_at {α : Type} (I : Nat → Nat → α) (c c' : Nat) (f : Nat → α) : ua I c f c' = if c' = c then f else I c' := rfl
/-- what the law's arithmetic is -/
def irm (x y : Int32) : Int32 := x - x / y * y
def lrm (x y : Int64) : Int64 := x - x / y * y
theorem cl0 : (0 : Int32).toNatClampNeg = 0 := by decide
theorem nI_lit (n : Nat) : (OfNat.ofNat n : Int32) = nI n := rfl
theorem cl_nI {n : Nat} (h : n < 2 ^ 31) : (nI n).toNatClampNeg = n := nI_clamp h
theorem in_nI {n N : Nat} (h : n < N) (hN : N < 2 ^ 31) : vp_in (nI n) N := vp_in_nI h hN
/-! numbers -/
theorem lit (n : Nat) : (OfNat.ofNat n : Int32) = nI n := by cases n <;> rfl
theorem in_iff {n N : Nat} (h : n < N) (hN : N < 2 ^ 31) : vp_in (nI n) N ↔ True := iff_true_intro (vp_in_nI h hN)
/-- x as a number below N -/
def ix (N : Nat) (x : Int32) : Option Nat := if 0 ≤ x.toInt ∧ x.toInt < (N : Int) then some x.toInt.toNat else none
theorem ix_nI {N n : Nat} (h : n < N) (hN : N < 2 ^ 31) : ix N (nI n) = some n := by
  unfold ix
  rw [nI_toInt (by omega), if_pos (by omega)]
  simp
theorem ix_some {N n : Nat} {x : Int32} (h : ix N x = some n) : n < N ∧ x = nI n := by
  unfold ix at h
  split at h
  next hc =>
    cases h
    refine ⟨by omega, ?_⟩
    have h1 : ¬ x < 0 := fun z => by
      have := Int32.lt_iff_toInt_lt.mp z
      simp at this
      omega
    obtain ⟨j, hj, e⟩ := nI_of h1
    subst e
    rw [nI_toInt hj]
    simp
  next => cases h
theorem ix_none {N : Nat} {x : Int32} (h : ix N x = none) : x.toInt < 0 ∨ (N : Int) ≤ x.toInt := by
  unfold ix at h
  split at h
  next => cases h
  next hc => omega
theorem le_int (a b : Int32) : a ≤ b ↔ a.toInt ≤ b.toInt := Int32.le_iff_toInt_le
theorem lt_int (a b : Int32) : a < b ↔ a.toInt < b.toInt := Int32.lt_iff_toInt_lt
theorem nI_int {n : Nat} (h : n < 2 ^ 31) : (nI n).toInt = (n : Int) := nI_toInt h
theorem m1_int : (-1 : Int32).toInt = -1 := by decide
theorem swp_nil {x : Int32} {kd : Pd} : swp x [] kd = kd := rfl
theorem swp_cons {x v : Int32} {k kd : Pd} {t : List (Int32 × Pd)} {ls : List (Nat × Value)} {st : List Value} {E : Nat → Prop} {R : Nat → Nat → Value} {I : Nat → Nat → Int32} {J : Nat → Nat → Int64} {a b : Nat} : swp x ((v, k) :: t) kd ls st E R I J a b = if x = v then k ls st E R I J a b else swp x t kd ls st E R I J a b := by
  rw [swp]
  split <;> rfl
theorem aref_ {c : Nat} : (Value.ref c = Value.null ∨ ∃ c', Value.ref c = Value.ref c') ↔ True := iff_true_intro (Or.inr ⟨c, rfl⟩)
theorem anull_ : (Value.null = Value.null ∨ ∃ c', Value.null = Value.ref c') ↔ True := iff_true_intro (Or.inl rfl)
theorem i1_0 : ((1 : Int32) = 0) ↔ False := by decide
theorem i0_1 : ((0 : Int32) = 1) ↔ False := by decide
theorem eq_int (a b : Int32) : a = b ↔ a.toInt = b.toInt := Int32.toInt_inj.symm
theorem bk_0 : nI 0 = 0 := by decide
theorem bk_1 : nI 1 = 1 := by decide
theorem bk_2 : nI 2 = 2 := by decide
theorem bk_3 : nI 3 = 3 := by decide
theorem bk_4 : nI 4 = 4 := by decide
theorem bk_5 : nI 5 = 5 := by decide
theorem bk_6 : nI 6 = 6 := by decide
theorem bk_7 : nI 7 = 7 := by decide
theorem bk_8 : nI 8 = 8 := by decide
theorem bk_9 : nI 9 = 9 := by decide
theorem bk_10 : nI 10 = 10 := by decide
theorem bk_11 : nI 11 = 11 := by decide
theorem bk_12 : nI 12 = 12 := by decide
theorem bk_13 : nI 13 = 13 := by decide
theorem bk_14 : nI 14 = 14 := by decide
theorem bk_15 : nI 15 = 15 := by decide
theorem bk_16 : nI 16 = 16 := by decide
theorem bk_17 : nI 17 = 17 := by decide
theorem bk_18 : nI 18 = 18 := by decide
theorem bk_19 : nI 19 = 19 := by decide
theorem bk_20 : nI 20 = 20 := by decide
theorem bk_21 : nI 21 = 21 := by decide
theorem bk_22 : nI 22 = 22 := by decide
theorem bk_23 : nI 23 = 23 := by decide
theorem bk_24 : nI 24 = 24 := by decide
theorem bk_25 : nI 25 = 25 := by decide
theorem bk_26 : nI 26 = 26 := by decide
theorem bk_27 : nI 27 = 27 := by decide
theorem bk_28 : nI 28 = 28 := by decide
theorem bk_29 : nI 29 = 29 := by decide
theorem bk_30 : nI 30 = 30 := by decide
theorem bk_31 : nI 31 = 31 := by decide
theorem bk_32 : nI 32 = 32 := by decide
theorem bk_33 : nI 33 = 33 := by decide
theorem bk_34 : nI 34 = 34 := by decide
theorem bk_35 : nI 35 = 35 := by decide
theorem bk_36 : nI 36 = 36 := by decide
theorem bk_37 : nI 37 = 37 := by decide
theorem bk_38 : nI 38 = 38 := by decide
theorem bk_39 : nI 39 = 39 := by decide
theorem bk_40 : nI 40 = 40 := by decide
theorem bk_41 : nI 41 = 41 := by decide
theorem bk_42 : nI 42 = 42 := by decide
theorem bk_43 : nI 43 = 43 := by decide
theorem bk_44 : nI 44 = 44 := by decide
theorem bk_45 : nI 45 = 45 := by decide
theorem bk_46 : nI 46 = 46 := by decide
theorem bk_47 : nI 47 = 47 := by decide
theorem bk_48 : nI 48 = 48 := by decide
theorem bk_49 : nI 49 = 49 := by decide
theorem bk_50 : nI 50 = 50 := by decide
theorem bk_51 : nI 51 = 51 := by decide
theorem bk_52 : nI 52 = 52 := by decide
theorem bk_53 : nI 53 = 53 := by decide
theorem bk_54 : nI 54 = 54 := by decide
theorem bk_55 : nI 55 = 55 := by decide
theorem bk_56 : nI 56 = 56 := by decide
theorem bk_57 : nI 57 = 57 := by decide
theorem bk_58 : nI 58 = 58 := by decide
theorem bk_59 : nI 59 = 59 := by decide
theorem bk_60 : nI 60 = 60 := by decide
theorem bk_61 : nI 61 = 61 := by decide
theorem bk_62 : nI 62 = 62 := by decide
theorem bk_63 : nI 63 = 63 := by decide
theorem bk_99 : nI 99 = 99 := by decide
theorem bk_100 : nI 100 = 100 := by decide
theorem bk_255 : nI 255 = 255 := by decide
theorem bk_320 : nI 320 = 320 := by decide
theorem bk_500 : nI 500 = 500 := by decide
theorem bk_600 : nI 600 = 600 := by decide
theorem bk_620 : nI 620 = 620 := by decide
theorem bk_1000 : nI 1000 = 1000 := by decide
theorem bk_12345 : nI 12345 = 12345 := by decide
theorem bk_1103515245 : nI 1103515245 = 1103515245 := by decide

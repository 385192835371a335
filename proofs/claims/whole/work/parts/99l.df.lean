/-! what a text's lines may hold -/
section DF
variable {g : Nat → Nat} {T p c v w : Nat} {s s' : Nat → Nat}
def TeK (s : Nat → Nat) (l t : Nat) : Prop := s (100 + 20 * l + 1 + 3 * t) < 12 ∧ s (100 + 20 * l + 1 + 3 * t) ≠ 8 ∧ 5 ≤ s (100 + 20 * l + 2 + 3 * t) ∧ s (100 + 20 * l + 2 + 3 * t) ≤ 7
def LiK (s : Nat → Nat) (l : Nat) : Prop := s (100 + 20 * l) ≤ 4 ∧ (19 ≤ s (100 + 20 * l + 17) ∧ s (100 + 20 * l + 17) ≤ 25) ∧ s (100 + 20 * l + 18) < 4 ∧ (s (100 + 20 * l + 17) ≤ 21 → 1 ≤ s (100 + 20 * l + 18)) ∧ s (100 + 20 * l + 19) < 100000 ∧ ∀ t, t < 4 → t < s (100 + 20 * l) → TeK s l t
def RG (s : Nat → Nat) : Prop :=
  (s 0 = 3 ∨ s 0 = 4 → s 3 < 12 ∧ s 3 ≠ 8) ∧
  (s 0 = 4 → 5 ≤ s 4 ∧ s 4 ≤ 7) ∧
  (7 ≤ s 0 → s 0 ≤ 9 → (19 ≤ s 5 ∧ s 5 ≤ 25) ∧ s 6 < 4 ∧ s 7 < 100000) ∧
  (s 0 = 7 → s 5 ≤ 21) ∧
  (s 0 = 8 ∨ s 0 = 9 → s 5 ≤ 21 → 1 ≤ s 6) ∧
  (s 0 ≠ 0 → ∀ t, t < s 2 → t < 4 → s 1 - 1 < 16 → TeK s (s 1 - 1) t) ∧
  (∀ l, l < s 10 → LiK s l)
theorem RG.x3 {s : Nat → Nat} (h : RG s) : s 0 = 3 ∨ s 0 = 4 → s 3 < 12 ∧ s 3 ≠ 8 := h.1
theorem RG.x4 {s : Nat → Nat} (h : RG s) : s 0 = 4 → 5 ≤ s 4 ∧ s 4 ≤ 7 := h.2.1
theorem RG.x5 {s : Nat → Nat} (h : RG s) : 7 ≤ s 0 → s 0 ≤ 9 → (19 ≤ s 5 ∧ s 5 ≤ 25) ∧ s 6 < 4 ∧ s 7 < 100000 := h.2.2.1
theorem RG.x7 {s : Nat → Nat} (h : RG s) : s 0 = 7 → s 5 ≤ 21 := h.2.2.2.1
theorem RG.xg {s : Nat → Nat} (h : RG s) : s 0 = 8 ∨ s 0 = 9 → s 5 ≤ 21 → 1 ≤ s 6 := h.2.2.2.2.1
theorem RG.te {s : Nat → Nat} (h : RG s) : s 0 ≠ 0 → ∀ t, t < s 2 → t < 4 → s 1 - 1 < 16 → TeK s (s 1 - 1) t := h.2.2.2.2.2.1
theorem RG.li {s : Nat → Nat} (h : RG s) : ∀ l, l < s 10 → LiK s l := h.2.2.2.2.2.2
theorem RG.mk {s : Nat → Nat} (h0 : s 0 = 3 ∨ s 0 = 4 → s 3 < 12 ∧ s 3 ≠ 8) (h1 : s 0 = 4 → 5 ≤ s 4 ∧ s 4 ≤ 7) (h2 : 7 ≤ s 0 → s 0 ≤ 9 → (19 ≤ s 5 ∧ s 5 ≤ 25) ∧ s 6 < 4 ∧ s 7 < 100000) (h3 : s 0 = 7 → s 5 ≤ 21) (h4 : s 0 = 8 ∨ s 0 = 9 → s 5 ≤ 21 → 1 ≤ s 6) (h5 : s 0 ≠ 0 → ∀ t, t < s 2 → t < 4 → s 1 - 1 < 16 → TeK s (s 1 - 1) t) (h6 : ∀ l, l < s 10 → LiK s l) : RG s := ⟨h0, h1, h2, h3, h4, h5, h6⟩
theorem TeK.cg {l t : Nat} (h : TeK s l t) (e : ∀ i, 100 ≤ i → s' i = s i) : TeK s' l t := by
  unfold TeK at h ⊢
  rw [e (100 + 20 * l + 1 + 3 * t) (by omega), e (100 + 20 * l + 2 + 3 * t) (by omega)]
  exact h
theorem LiK.cg {l : Nat} (h : LiK s l) (e : ∀ i, 100 ≤ i → s' i = s i) : LiK s' l := by
  obtain ⟨a1, a2, a3, a4, a5, a6⟩ := h
  unfold LiK
  rw [e (100 + 20 * l) (by omega), e (100 + 20 * l + 17) (by omega), e (100 + 20 * l + 18) (by omega), e (100 + 20 * l + 19) (by omega)]
  exact ⟨a1, a2, a3, a4, a5, fun t t4 ht => (a6 t t4 ht).cg e⟩
theorem RG.cg (h : RG s) (e : ∀ i, 10 ≤ i → s' i = s i) (ht : s' 0 ≠ 0 → s' 2 = 0 ∨ (s 0 ≠ 0 ∧ s' 1 = s 1 ∧ s' 2 = s 2))
    (x3 : s' 0 = 3 ∨ s' 0 = 4 → s' 3 < 12 ∧ s' 3 ≠ 8) (x4 : s' 0 = 4 → 5 ≤ s' 4 ∧ s' 4 ≤ 7) (x5 : 7 ≤ s' 0 → s' 0 ≤ 9 → (19 ≤ s' 5 ∧ s' 5 ≤ 25) ∧ s' 6 < 4 ∧ s' 7 < 100000) (x7 : s' 0 = 7 → s' 5 ≤ 21) (xg : s' 0 = 8 ∨ s' 0 = 9 → s' 5 ≤ 21 → 1 ≤ s' 6) : RG s' := by
  have e1 : ∀ i, 100 ≤ i → s' i = s i := fun i hi => e i (by omega)
  refine RG.mk x3 x4 x5 x7 xg ?_ ?_
  · intro z t h2 t4 h1
    rcases ht z with y | ⟨y0, y1, y2⟩
    · omega
    · rw [y1] at h1 ⊢
      rw [y2] at h2
      exact (h.te y0 t h2 t4 h1).cg e1
  · intro l hl
    rw [e 10 (by decide)] at hl
    exact (h.li l hl).cg e1
theorem dA_k (h : dA c ≤ 9) : (19 ≤ c ∧ c ≤ 25) ∧ (dA c = 7 → c ≤ 21) ∧ (dA c = 8 ∨ dA c = 9 → 22 ≤ c) := by
  unfold dA at h ⊢
  by_cases a1 : 19 ≤ c ∧ c ≤ 21
  · rw [if_pos a1]; omega
  · rw [if_neg a1] at h ⊢
    by_cases a2 : c = 22 ∨ c = 24
    · rw [if_pos a2]; omega
    · rw [if_neg a2] at h ⊢
      by_cases a3 : c = 23 ∨ c = 25
      · rw [if_pos a3]; omega
      · rw [if_neg a3] at h; omega
theorem dA_10 : dA c ≤ 10 := by
  unfold dA
  repeat' split
  all_goals decide
theorem RG.tacc {s0 : Nat → Nat} (h : RG s) (e : ∀ i, 10 ≤ i → s0 i = s i) (ht : s0 2 = 0 ∨ (s 0 ≠ 0 ∧ s0 1 = s 1 ∧ s0 2 = s 2)) (hd : dA c ≠ 10) : RG (tac s0 c) := by
  have e0 : tac s0 c 0 = dA c := un_eq
  have e5 : tac s0 c 5 = c := by rw [tac_eq, un_ne (by decide), un_ne (by decide), un_ne (by decide), un_eq]
  have e6 : tac s0 c 6 = 0 := by rw [tac_eq, un_ne (by decide), un_ne (by decide), un_eq]
  have e7 : tac s0 c 7 = 0 := by rw [tac_eq, un_ne (by decide), un_eq]
  have g7 := dA_rg (c := c)
  have g10 := dA_10 (c := c)
  obtain ⟨k1, k2, k3⟩ := dA_k (c := c) (by omega)
  refine h.cg (fun i hi => ?_) (fun _ => ?_) ?_ ?_ ?_ ?_ ?_
  · rw [tac_ne (by omega) (by omega) (by omega) (by omega)]; exact e i hi
  · rw [tac_ne (by decide) (by decide) (by decide) (by decide), tac_ne (by decide) (by decide) (by decide) (by decide)]; exact ht
  · intro z; rw [e0] at z; omega
  · intro z; rw [e0] at z; omega
  · intro _ _; rw [e5, e6, e7]; exact ⟨k1, by decide, by decide⟩
  · intro z; rw [e0] at z; rw [e5]; exact k2 z
  · intro z y; rw [e0] at z; rw [e5] at y; have := k3 z; omega
theorem t0_e {i : Nat} (i1 : i ≠ 1) (i2 : i ≠ 2) (i8 : i ≠ 8) (i9 : i ≠ 9) : t0 s w i = s i := by
  unfold t0
  split
  · rw [mrk_ne i8 i9, un_ne i2, un_ne i1]
  · rw [un_ne i2, un_ne i1]
theorem t0_2 : t0 s w 2 = 0 := by
  unfold t0
  split
  · rw [mrk_ne (by decide) (by decide), un_eq]
  · rw [un_eq]
theorem t1_e {i : Nat} (i8 : i ≠ 8) (i9 : i ≠ 9) : t1 s w i = s i := by
  unfold t1
  split
  · rw [mrk_ne i8 i9]
  · rfl
theorem t8_e {i : Nat} (i7 : i ≠ 7) (i8 : i ≠ 8) (i9 : i ≠ 9) : t8 s v w i = s i := by
  unfold t8
  split
  · rw [mrk_ne i8 i9, un_ne i7]
  · rw [un_ne i7]
theorem t8_7 : t8 s v w 7 = v := by
  unfold t8
  split
  · rw [mrk_ne (by decide) (by decide), un_eq]
  · rw [un_eq]
theorem RG.step (h : RG s) (sb : SB s p) (h9 : s 0 ≤ 9) (hv : c = 2 → v < 100000) (h10 : stp s c v w 0 ≠ 10) : RG (stp s c v w) := by
  have hl := sb.lt
  by_cases a0 : s 0 = 0
  · rw [stp0 a0] at h10 ⊢
    by_cases c8 : c = 8
    · rw [if_pos c8]
      have e0 : un (t0 s w) 0 1 0 = 1 := un_eq
      refine h.cg (fun i hi => by rw [un_ne (by omega), t0_e (by omega) (by omega) (by omega) (by omega)]) (fun _ => Or.inl (by rw [un_ne (by decide), t0_2])) ?_ ?_ ?_ ?_ ?_
      · intro z; rw [e0] at z; omega
      · intro z; rw [e0] at z; omega
      · intro z; rw [e0] at z; omega
      · intro z; rw [e0] at z; omega
      · intro z; rw [e0] at z; omega
    · rw [if_neg c8] at h10 ⊢
      exact h.tacc (fun i hi => t0_e (by omega) (by omega) (by omega) (by omega)) (Or.inl t0_2) h10
  by_cases a1 : s 0 = 1
  · rw [stp1 a1] at h10 ⊢
    have m3 : ∀ x, x < 12 → x ≠ 8 → RG (un (un (t1 s w) 3 x) 0 3) := fun x x1 x2 => by
      have e0 : un (un (t1 s w) 3 x) 0 3 0 = 3 := un_eq
      refine h.cg (fun i hi => by rw [un_ne (by omega), un_ne (by omega), t1_e (by omega) (by omega)]) (fun _ => Or.inr ⟨a0, by rw [un_ne (by decide), un_ne (by decide), t1_e (by decide) (by decide)], by rw [un_ne (by decide), un_ne (by decide), t1_e (by decide) (by decide)]⟩) ?_ ?_ ?_ ?_ ?_
      · intro z; rw [un_ne (by decide), un_eq]; exact ⟨x1, x2⟩
      · intro z; rw [e0] at z; omega
      · intro z; rw [e0] at z; omega
      · intro z; rw [e0] at z; omega
      · intro z; rw [e0] at z; omega
    by_cases b1 : 10 ≤ c ∧ c ≤ 13
    · rw [if_pos b1]
      exact m3 _ (by omega) (by omega)
    rw [if_neg b1] at h10 ⊢
    by_cases b2 : c = 14
    · rw [if_pos b2]
      have e0 : un (t1 s w) 0 2 0 = 2 := un_eq
      refine h.cg (fun i hi => by rw [un_ne (by omega), t1_e (by omega) (by omega)]) (fun _ => Or.inr ⟨a0, by rw [un_ne (by decide), t1_e (by decide) (by decide)], by rw [un_ne (by decide), t1_e (by decide) (by decide)]⟩) ?_ ?_ ?_ ?_ ?_
      · intro z; rw [e0] at z; omega
      · intro z; rw [e0] at z; omega
      · intro z; rw [e0] at z; omega
      · intro z; rw [e0] at z; omega
      · intro z; rw [e0] at z; omega
    rw [if_neg b2] at h10 ⊢
    by_cases b3 : 15 ≤ c ∧ c ≤ 18
    · rw [if_pos b3]
      exact m3 _ (by omega) (by omega)
    rw [if_neg b3] at h10
    exact absurd un_eq h10
  by_cases a2 : s 0 = 2
  · rw [stp2 a2] at h10 ⊢
    by_cases b1 : 16 ≤ c ∧ c ≤ 18
    · rw [if_pos b1]
      have e0 : un (un s 3 (8 + c - 15)) 0 3 0 = 3 := un_eq
      refine h.cg (fun i hi => by rw [un_ne (by omega), un_ne (by omega)]) (fun _ => Or.inr ⟨a0, by rw [un_ne (by decide), un_ne (by decide)], by rw [un_ne (by decide), un_ne (by decide)]⟩) ?_ ?_ ?_ ?_ ?_
      · intro z; rw [un_ne (by decide), un_eq]; omega
      · intro z; rw [e0] at z; omega
      · intro z; rw [e0] at z; omega
      · intro z; rw [e0] at z; omega
      · intro z; rw [e0] at z; omega
    rw [if_neg b1] at h10
    exact absurd un_eq h10
  by_cases a3 : s 0 = 3
  · rw [stp3 a3] at h10 ⊢
    by_cases b1 : 5 ≤ c ∧ c ≤ 7
    · rw [if_pos b1]
      have e0 : un (un s 4 c) 0 4 0 = 4 := un_eq
      refine h.cg (fun i hi => by rw [un_ne (by omega), un_ne (by omega)]) (fun _ => Or.inr ⟨a0, by rw [un_ne (by decide), un_ne (by decide)], by rw [un_ne (by decide), un_ne (by decide)]⟩) ?_ ?_ ?_ ?_ ?_
      · intro z; rw [un_ne (by decide), un_ne (by decide)]; exact h.x3 (Or.inl a3)
      · intro z; rw [un_ne (by decide), un_eq]; exact b1
      · intro z; rw [e0] at z; omega
      · intro z; rw [e0] at z; omega
      · intro z; rw [e0] at z; omega
    rw [if_neg b1] at h10
    exact absurd un_eq h10
  by_cases a4 : s 0 = 4
  · rw [stp4 a4] at h10 ⊢
    by_cases b1 : c = 2
    · rw [if_pos b1]
      have e0 : un (un (pte s v) 2 (s 2 + 1)) 0 5 0 = 5 := un_eq
      have y3 := h.x3 (Or.inr a4)
      have y4 := h.x4 a4
      rw [if_neg a0] at hl
      by_cases b2 : s 1 - 1 < 16 ∧ s 2 < 4
      · have ep : pte s v = un (un (un s (100 + 20 * (s 1 - 1) + 1 + 3 * s 2) (s 3)) (100 + 20 * (s 1 - 1) + 2 + 3 * s 2) (s 4)) (100 + 20 * (s 1 - 1) + 3 + 3 * s 2) v := by unfold pte; rw [if_pos b2]
        have eS : ∀ i, 100 ≤ i → un (un (pte s v) 2 (s 2 + 1)) 0 5 i = pte s v i := fun i hi => by rw [un_ne (by omega), un_ne (by omega)]
        have old : ∀ i, 100 ≤ i → (i < 100 + 20 * (s 1 - 1) + 1 + 3 * s 2 ∨ 100 + 20 * (s 1 - 1) + 4 + 3 * s 2 ≤ i) → un (un (pte s v) 2 (s 2 + 1)) 0 5 i = s i := fun i hi hj => by
          rw [eS i hi, ep, un_ne (by omega), un_ne (by omega), un_ne (by omega)]
        have te' : ∀ l t, (l ≠ s 1 - 1 ∨ t ≠ s 2) → l ≤ s 1 - 1 → t < 4 → TeK s l t → TeK (un (un (pte s v) 2 (s 2 + 1)) 0 5) l t := fun l t hn hle ht4 q => by
          have k : ∀ j, j = 1 ∨ j = 2 ∨ j = 3 → (100 + 20 * l + j + 3 * t < 100 + 20 * (s 1 - 1) + 1 + 3 * s 2 ∨ 100 + 20 * (s 1 - 1) + 4 + 3 * s 2 ≤ 100 + 20 * l + j + 3 * t) := fun j hj => by
            by_cases ell : l = s 1 - 1
            · by_cases tt : t < s 2
              · exact Or.inl (by omega)
              · exact Or.inr (by omega)
            · exact Or.inl (by omega)
          unfold TeK at q ⊢
          rw [old (100 + 20 * l + 1 + 3 * t) (by omega) (k 1 (by omega)), old (100 + 20 * l + 2 + 3 * t) (by omega) (k 2 (by omega))]
          exact q
        refine RG.mk ?_ ?_ ?_ ?_ ?_ ?_ ?_
        · intro z; rw [e0] at z; omega
        · intro z; rw [e0] at z; omega
        · intro z; rw [e0] at z; omega
        · intro z; rw [e0] at z; omega
        · intro z; rw [e0] at z; omega
        · intro _ t ht t4 hl'
          rw [un_ne (by decide), un_eq] at ht
          rw [un_ne (by decide), un_ne (by decide), pte_ne (by decide)] at hl' ⊢
          by_cases e : t = s 2
          · subst e
            unfold TeK
            rw [eS (100 + 20 * (s 1 - 1) + 1 + 3 * s 2) (by omega), eS (100 + 20 * (s 1 - 1) + 2 + 3 * s 2) (by omega), ep, un_ne (by omega), un_ne (by omega), un_eq, un_ne (by omega), un_eq]
            exact ⟨y3.1, y3.2, y4⟩
          · exact te' _ t (Or.inr e) (Nat.le_refl _) t4 (h.te a0 t (by omega) t4 hl')
        · intro l hl'
          rw [un_ne (by decide), un_ne (by decide), pte_ne (by decide)] at hl'
          obtain ⟨q1, q2, q3, q4, q5, q6⟩ := h.li l hl'
          unfold LiK
          rw [old (100 + 20 * l) (by omega) (by omega), old (100 + 20 * l + 17) (by omega) (by omega), old (100 + 20 * l + 18) (by omega) (by omega), old (100 + 20 * l + 19) (by omega) (by omega)]
          exact ⟨q1, q2, q3, q4, q5, fun t t4 ht => te' l t (Or.inl (by omega)) (by omega) t4 (q6 t t4 ht)⟩
      · have ep : pte s v = s := by unfold pte; rw [if_neg b2]
        rw [ep] at e0 ⊢
        have eS : ∀ i, 100 ≤ i → un (un s 2 (s 2 + 1)) 0 5 i = s i := fun i hi => by rw [un_ne (by omega), un_ne (by omega)]
        refine RG.mk ?_ ?_ ?_ ?_ ?_ ?_ ?_
        · intro z; rw [e0] at z; omega
        · intro z; rw [e0] at z; omega
        · intro z; rw [e0] at z; omega
        · intro z; rw [e0] at z; omega
        · intro z; rw [e0] at z; omega
        · intro _ t ht t4 hl'
          rw [un_ne (by decide), un_eq] at ht
          rw [un_ne (by decide), un_ne (by decide)] at hl' ⊢
          exact (h.te a0 t (by omega) t4 hl').cg eS
        · intro l hl'
          rw [un_ne (by decide), un_ne (by decide)] at hl'
          exact (h.li l hl').cg eS
    rw [if_neg b1] at h10
    exact absurd un_eq h10
  by_cases a5 : s 0 = 5
  · rw [stp5 a5] at h10 ⊢
    have m : ∀ n, n = 1 ∨ n = 6 → RG (un s 0 n) := fun n hn => by
      have e0 : un s 0 n 0 = n := un_eq
      refine h.cg (fun i hi => by rw [un_ne (by omega)]) (fun _ => Or.inr ⟨a0, by rw [un_ne (by decide)], by rw [un_ne (by decide)]⟩) ?_ ?_ ?_ ?_ ?_
      · intro z; rw [e0] at z; omega
      · intro z; rw [e0] at z; omega
      · intro z; rw [e0] at z; omega
      · intro z; rw [e0] at z; omega
      · intro z; rw [e0] at z; omega
    by_cases b1 : c = 9
    · rw [if_pos b1]
      exact m 1 (Or.inl rfl)
    rw [if_neg b1] at h10 ⊢
    by_cases b2 : c = 3
    · rw [if_pos b2]
      exact m 6 (Or.inr rfl)
    rw [if_neg b2] at h10
    exact absurd un_eq h10
  by_cases a6 : s 0 = 6
  · rw [stp6 a6] at h10 ⊢
    exact h.tacc (fun _ _ => rfl) (Or.inr ⟨a0, rfl, rfl⟩) h10
  by_cases a7 : s 0 = 7
  · rw [stp7 a7] at h10 ⊢
    by_cases b1 : 16 ≤ c ∧ c ≤ 18
    · rw [if_pos b1]
      have e0 : un (un s 6 (c - 15)) 0 8 0 = 8 := un_eq
      have y := h.x5 (by omega) (by omega)
      refine h.cg (fun i hi => by rw [un_ne (by omega), un_ne (by omega)]) (fun _ => Or.inr ⟨a0, by rw [un_ne (by decide), un_ne (by decide)], by rw [un_ne (by decide), un_ne (by decide)]⟩) ?_ ?_ ?_ ?_ ?_
      · intro z; rw [e0] at z; omega
      · intro z; rw [e0] at z; omega
      · intro _ _
        rw [un_ne (by decide), un_ne (by decide), un_ne (by decide), un_eq, un_ne (by decide), un_ne (by decide)]
        exact ⟨y.1, by omega, y.2.2⟩
      · intro z; rw [e0] at z; omega
      · intro _ _; rw [un_ne (by decide), un_eq]; omega
    rw [if_neg b1] at h10
    exact absurd un_eq h10
  by_cases a8 : s 0 = 8
  · rw [stp8 a8] at h10 ⊢
    by_cases b1 : c = 2
    · rw [if_pos b1]
      have e0 : un (t8 s v w) 0 9 0 = 9 := un_eq
      have y := h.x5 (by omega) (by omega)
      have z5 : un (t8 s v w) 0 9 5 = s 5 := by rw [un_ne (by decide), t8_e (by decide) (by decide) (by decide)]
      have z6 : un (t8 s v w) 0 9 6 = s 6 := by rw [un_ne (by decide), t8_e (by decide) (by decide) (by decide)]
      have z7 : un (t8 s v w) 0 9 7 = v := by rw [un_ne (by decide), t8_7]
      refine h.cg (fun i hi => by rw [un_ne (by omega), t8_e (by omega) (by omega) (by omega)]) (fun _ => Or.inr ⟨a0, by rw [un_ne (by decide), t8_e (by decide) (by decide) (by decide)], by rw [un_ne (by decide), t8_e (by decide) (by decide) (by decide)]⟩) ?_ ?_ ?_ ?_ ?_
      · intro z; rw [e0] at z; omega
      · intro z; rw [e0] at z; omega
      · intro _ _
        rw [z5, z6, z7]
        exact ⟨y.1, y.2.1, hv b1⟩
      · intro z; rw [e0] at z; omega
      · intro _ q; rw [z5] at q; rw [z6]; exact h.xg (Or.inl a8) q
    rw [if_neg b1] at h10
    exact absurd un_eq h10
  have a9 : s 0 = 9 := by omega
  rw [stp9 a9] at h10 ⊢
  by_cases b1 : c = 4
  · rw [if_pos b1]
    have e0 : un (pli s) 0 0 0 = 0 := un_eq
    have y := h.x5 (by omega) (by omega)
    have yg := h.xg (Or.inr a9)
    rw [if_neg a0] at hl
    have vac : ∀ P : Prop, (un (pli s) 0 0 0 ≠ 0 → P) := fun P z => absurd e0 z
    by_cases b2 : s 1 - 1 < 16
    · have ep : pli s = un (un (un (un (un s (100 + 20 * (s 1 - 1)) (min (s 2) 4)) (100 + 20 * (s 1 - 1) + 17) (s 5)) (100 + 20 * (s 1 - 1) + 18) (s 6)) (100 + 20 * (s 1 - 1) + 19) (s 7)) 10 (s 1 - 1 + 1) := by unfold pli; rw [if_pos b2]
      have eS : ∀ i, 10 ≤ i → un (pli s) 0 0 i = pli s i := fun i hi => un_ne (by omega)
      have old : ∀ i, 100 ≤ i → i ≠ 100 + 20 * (s 1 - 1) → i ≠ 100 + 20 * (s 1 - 1) + 17 → i ≠ 100 + 20 * (s 1 - 1) + 18 → i ≠ 100 + 20 * (s 1 - 1) + 19 → un (pli s) 0 0 i = s i := fun i hi j1 j2 j3 j4 => by
        rw [eS i (by omega), ep, un_ne (by omega), un_ne j4, un_ne j3, un_ne j2, un_ne j1]
      have te' : ∀ l t, l ≤ s 1 - 1 → t < 4 → TeK s l t → TeK (un (pli s) 0 0) l t := fun l t hle ht4 q => by
        unfold TeK at q ⊢
        rw [old (100 + 20 * l + 1 + 3 * t) (by omega) (by omega) (by omega) (by omega) (by omega), old (100 + 20 * l + 2 + 3 * t) (by omega) (by omega) (by omega) (by omega) (by omega)]
        exact q
      have e10 : pli s 10 = s 1 - 1 + 1 := by rw [ep, un_eq]
      refine RG.mk ?_ ?_ ?_ ?_ ?_ (vac _) ?_
      · intro z; rw [e0] at z; omega
      · intro z; rw [e0] at z; omega
      · intro z; rw [e0] at z; omega
      · intro z; rw [e0] at z; omega
      · intro z; rw [e0] at z; omega
      · intro l hl'
        rw [eS 10 (by decide), e10] at hl'
        by_cases e : l = s 1 - 1
        · subst e
          have w0 : un (pli s) 0 0 (100 + 20 * (s 1 - 1)) = min (s 2) 4 := by rw [eS _ (by omega), ep, un_ne (by omega), un_ne (by omega), un_ne (by omega), un_ne (by omega), un_eq]
          have w7 : un (pli s) 0 0 (100 + 20 * (s 1 - 1) + 17) = s 5 := by rw [eS _ (by omega), ep, un_ne (by omega), un_ne (by omega), un_ne (by omega), un_eq]
          have w8 : un (pli s) 0 0 (100 + 20 * (s 1 - 1) + 18) = s 6 := by rw [eS _ (by omega), ep, un_ne (by omega), un_ne (by omega), un_eq]
          have w9 : un (pli s) 0 0 (100 + 20 * (s 1 - 1) + 19) = s 7 := by rw [eS _ (by omega), ep, un_ne (by omega), un_eq]
          unfold LiK
          rw [w0, w7, w8, w9]
          exact ⟨by omega, y.1, y.2.1, yg, y.2.2, fun t t4 ht => te' _ t (Nat.le_refl _) t4 (h.te a0 t (by omega) t4 b2)⟩
        · obtain ⟨q1, q2, q3, q4, q5, q6⟩ := h.li l (by omega)
          unfold LiK
          rw [old (100 + 20 * l) (by omega) (by omega) (by omega) (by omega) (by omega), old (100 + 20 * l + 17) (by omega) (by omega) (by omega) (by omega) (by omega), old (100 + 20 * l + 18) (by omega) (by omega) (by omega) (by omega) (by omega), old (100 + 20 * l + 19) (by omega) (by omega) (by omega) (by omega) (by omega)]
          exact ⟨q1, q2, q3, q4, q5, fun t t4 ht => te' l t (by omega) t4 (q6 t t4 ht)⟩
    · have ep : pli s = s := by unfold pli; rw [if_neg b2]
      rw [ep] at e0 vac ⊢
      refine RG.mk ?_ ?_ ?_ ?_ ?_ (vac _) ?_
      · intro z; rw [e0] at z; omega
      · intro z; rw [e0] at z; omega
      · intro z; rw [e0] at z; omega
      · intro z; rw [e0] at z; omega
      · intro z; rw [e0] at z; omega
      · intro l hl'
        rw [un_ne (by decide)] at hl'
        exact (h.li l hl').cg (fun i hi => un_ne (by omega))
  rw [if_neg b1] at h10
  exact absurd un_eq h10
theorem stp_10 (h9 : s 0 ≤ 9) : stp s c v w 0 ≤ 10 := by
  have d1 := dA_10 (c := c)
  have d2 : ∀ s0 : Nat → Nat, tac s0 c 0 = dA c := fun s0 => un_eq
  have d3 : ∀ (s0 : Nat → Nat) n, un s0 0 n 0 = n := fun s0 n => un_eq
  unfold stp
  repeat' split
  all_goals first | (rw [d2]; exact d1) | (rw [d3]; decide) | (rw [d3]; split <;> decide) | (rw [d3]; repeat' split; all_goals decide)
end DF

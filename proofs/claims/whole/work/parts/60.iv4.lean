/-! what holds between calls: a month keeps it -/
section IV5
variable {a a' : Nat → Int32} {b : Nat → Int64} {M n : Nat} {B B' : Nat → Nat}
theorem Inv.wB (h : Inv a M n B) (hB : ∀ p, B p ≤ B' p) (hB' : ∀ p, B' p ≤ 600) : Inv a M n B' := Inv.of h.gA (h.gQ.le hB) h.gD h.gS h.gL h.od hB'
theorem Inv.held {p : Nat} {v : Int32} (h : Inv a M n B) (hp : p < 5) : Inv (upd a (320 + 4 * p + 1) v) M n B := by
  refine Inv.of (h.gA.cg (upd_ne (by omega)) (upd_ne (by omega)) (upd_ne (by omega))) (h.gQ.cg (fun i _ _ => upd_ne (by omega))) (h.gD.cg (upd_ne (by omega)) (upd_ne (by omega)) (fun i _ _ => upd_ne (by omega))) (h.gS.cg h.s4 (fun i _ _ => upd_ne (by omega))) (h.gL.cg (fun i _ _ => upd_ne (by omega))) (fun q hq => (h.od q hq).cg hq (upd_ne (by omega)) (fun i _ _ => upd_ne (by omega))) h.bb
theorem Bp_le {p : Nat} : ∀ q, B q ≤ Bp B p q := fun q => by
  unfold Bp
  split <;> omega
theorem Bp_600 {p : Nat} (h : ∀ q, B q ≤ 600) (hp : B p < 600) : ∀ q, Bp B p q ≤ 600 := fun q => by
  have := h q
  unfold Bp
  split
  next e => subst e; omega
  next => exact this
theorem Inv.does {p k : Nat} (h : Inv a M n B) (hp1 : 1 ≤ p) (hp : p < 5) (hA : okA a p k) (hB : B p < 600) : Inv (m_does a b n p k).1 M n (Bp B p) := by
  obtain ⟨c, g, N, e1, e2, e3, hc, hg, hg1, hN⟩ := hA
  have h4 := h.s4
  have same : Inv a M n (Bp B p) := h.wB Bp_le (Bp_600 h.bb hB)
  unfold m_does
  dsimp only
  rw [e1, e2, e3, nI_clamp (by omega), nI_clamp (by omega)]
  simp (disch := omega) only [lit, nI_eq]
  have hc' : c = 20 ∨ c = 21 ∨ c = 22 ∨ c = 23 ∨ c = 24 ∨ c = 25 ∨ c = 26 := by omega
  rcases hc' with rfl | rfl | rfl | rfl | rfl | rfl | rfl
  · exact h.buys hp1 hp (hg1 (by decide)) hg hN hB
  · exact h.sells hp1 hp (hg1 (by decide)) hg hB
  · cases hs : m_the a p n 0 with
    | none => exact same
    | some s =>
      have := m_the_lt hs
      exact h.loads hp1 hp hg hN (by omega) hB
  · cases hs : m_the a p n 0 with
    | none => exact same
    | some s =>
      have := m_the_lt hs
      exact h.loads hp1 hp (by decide) hN (by omega) hB
  · cases hs : m_the a p n 0 with
    | none => exact same
    | some s =>
      have := m_the_lt hs
      exact h.unl hp1 hp (by omega) hB
  · cases hs : m_the a p n 0 with
    | none => exact same
    | some s =>
      have := m_the_lt hs
      dsimp only
      simp only [Nat.reduceEqDiff, reduceIte]
      split
      · exact h.goes hp1 hp (by omega) hN hB
      · exact same
  · exact same
theorem m_fl_lt {p : Nat} : ∀ {j k t : Nat}, m_fl a n p j k = some t → k ≤ t ∧ t < k + j
  | 0, k, t, h => by cases h
  | j + 1, k, t, h => by
    unfold m_fl at h
    split at h
    · cases h; omega
    · have := m_fl_lt h; omega
theorem Inv.acts {p : Nat} (h : Inv a M n B) (hp1 : 1 ≤ p) (hp : p < 5) (hB : B p < 600) : Inv (m_acts a b n p).1 M n (Bp B p) := by
  obtain ⟨L, hL16, hL, hO⟩ := h.od p hp
  unfold m_acts
  rw [hL, nI_clamp (by omega)]
  cases hk : m_fl (upd a (320 + 4 * p + 1) (-1)) n p L 0 with
  | none => exact (h.held hp).wB Bp_le (Bp_600 h.bb hB)
  | some k =>
    have := m_fl_lt hk
    dsimp only
    rw [upd_upd]
    exact (h.held hp).does hp1 hp ((hO k (by omega)).2.cg (fun j hj => upd_ne (by omega))) hB
theorem m_ls_ne {s i : Nat} (hi : i < 250 + 16 * s + 10 ∨ 250 + 16 * s + 14 ≤ i) : ∀ g, g ≤ 4 → (m_ls a b s g).1 i = a i
  | 0, _ => rfl
  | g + 1, h => by
    simp only [m_ls]
    rw [upd_ne (by omega)]
    exact m_ls_ne hi g (by omega)
theorem m_ls_cg {s g : Nat} (hg : g < 4) : (m_ls a b s 4).1 (250 + 16 * s + (10 + g)) = 0 := by
  have : g = 0 ∨ g = 1 ∨ g = 2 ∨ g = 3 := by omega
  rcases this with rfl | rfl | rfl | rfl <;> simp (disch := omega) only [m_ls, upd_ne, upd_eq]
theorem m_arr_ne {s i : Nat} {v : Int32} (h4 : i ≠ 250 + 16 * s + 4) (h5 : i ≠ 250 + 16 * s + 5) (h6 : i ≠ 250 + 16 * s + 6) : m_arr a s v i = a i := by
  unfold m_arr
  rw [upd_ne h6, upd_ne h5, upd_ne h4]
theorem m_arr_at {s : Nat} {v : Int32} : m_arr a s v (250 + 16 * s + 4) = v ∧ m_arr a s v (250 + 16 * s + 5) = -1 ∧ m_arr a s v (250 + 16 * s + 6) = -1 := by
  unfold m_arr
  refine ⟨?_, ?_, ?_⟩
  · rw [upd_ne (by omega), upd_ne (by omega), upd_eq]
  · rw [upd_ne (by omega), upd_eq]
  · rw [upd_eq]
theorem m_comes_ne {s i : Nat} (hi : i < 250 + 16 * s ∨ 266 + 16 * s ≤ i) : (m_comes a b s).1 i = a i := by
  unfold m_comes
  split
  · split
    · dsimp only
      rw [upd_ne (by omega), m_ls_ne (by omega) 4 (by decide), m_arr_ne (by omega) (by omega) (by omega)]
    · dsimp only
      rw [m_arr_ne (by omega) (by omega) (by omega)]
  · rfl
theorem nI_m1 {t : Nat} (h : t < 2 ^ 31) : nI t ≠ -1 := fun e => by
  have := congrArg Int32.toInt e
  rw [nI_int h, show (-1 : Int32).toInt = -1 from rfl] at this
  omega
theorem GS.comes {s : Nat} (h : GS a n) (h4 : n ≤ 4) (hs : s < n) : GS (m_comes a b s).1 n := by
  have hk := h.sh s hs
  have ne := fun i hi => m_comes_ne (a := a) (b := b) (s := s) (i := i) hi
  have hst : GS a n := h
  by_cases c : a (250 + 16 * s + 4) = -1 ∧ a (250 + 16 * s + 6) = a 0
  · obtain ⟨t, t1, t2⟩ := h.tg s hs c.1
    unfold m_comes at ne ⊢
    rw [if_pos c] at ne ⊢
    by_cases c7 : a (250 + 16 * s + 7) = 1
    · rw [if_pos c7] at ne ⊢
      have at8 : ∀ i, i < 250 + 16 * s + 10 ∨ 250 + 16 * s + 14 ≤ i → i ≠ 250 + 16 * s + 8 → upd (m_ls (m_arr a s (-2)) b s 4).1 (250 + 16 * s + 8) 0 i = m_arr a s (-2) i := fun i hi h8 => by
        rw [upd_ne h8, m_ls_ne hi 4 (by decide)]
      refine h.one h4 hs (fun i _ _ hi => ne i hi) (hk.clr ?_ ?_ (Or.inr upd_eq) ?_) ?_ ?_ ?_
      · dsimp only; rw [at8 _ (by omega) (by omega), m_arr_ne (by omega) (by omega) (by omega)]
      · dsimp only; rw [at8 _ (by omega) (by omega), m_arr_ne (by omega) (by omega) (by omega)]
      · intro g g1 g4; dsimp only; rw [upd_ne (by omega)]; exact m_ls_cg g4
      · intro _; dsimp only; rw [at8 _ (by omega) (by omega), at8 _ (by omega) (by omega)]; exact m_arr_at.2
      · dsimp only; rw [at8 _ (by omega) (by omega), m_arr_ne (by omega) (by omega) (by omega)]; exact h.dn s hs
      · intro z
        dsimp only at z
        rw [at8 _ (by omega) (by omega), m_arr_at.1] at z
        exact absurd z (by decide)
    · rw [if_neg c7] at ne ⊢
      refine h.one h4 hs (fun i _ _ hi => ne i hi) (Sok.mk ?_ ?_ ?_ ?_ ?_ ?_) ?_ ?_ ?_
      · dsimp only; rw [m_arr_ne (by omega) (by omega) (by omega)]; exact hk.lc
      · dsimp only; rw [m_arr_ne (by omega) (by omega) (by omega)]; exact hk.hd
      · dsimp only; rw [m_arr_ne (by omega) (by omega) (by omega)]; exact hk.ow
      · dsimp only; rw [m_arr_ne (by omega) (by omega) (by omega), m_arr_ne (by omega) (by omega) (by omega)]; exact hk.ol
      · intro g g1 g4; dsimp only; rw [m_arr_ne (by omega) (by omega) (by omega)]; exact hk.cg g g1 g4
      · dsimp only; rw [m_arr_ne (by omega) (by omega) (by omega), m_arr_ne (by omega) (by omega) (by omega), m_arr_ne (by omega) (by omega) (by omega), m_arr_ne (by omega) (by omega) (by omega), m_arr_ne (by omega) (by omega) (by omega)]; exact hk.su
      · intro _; exact m_arr_at.2
      · dsimp only; rw [m_arr_ne (by omega) (by omega) (by omega)]; exact h.dn s hs
      · intro z
        dsimp only at z
        rw [m_arr_at.1, t2] at z
        exact absurd z (nI_m1 (by omega))
  · unfold m_comes
    rw [if_neg c]
    exact h
theorem Inv.ship {s : Nat} (h : Inv a M n B) (hs : s < 4) (he : ∀ i, i < 250 + 16 * s ∨ 266 + 16 * s ≤ i → a' i = a i) (hS : GS a' n) : Inv a' M n B := by
  refine Inv.of (h.gA.cg (he _ (by omega)) (he _ (by omega)) (he _ (by omega))) (h.gQ.cg (fun i _ _ => he _ (by omega))) (h.gD.cg (he _ (by omega)) (he _ (by omega)) (fun i _ _ => he _ (by omega))) hS (h.gL.cg (fun i _ _ => he _ (by omega))) (fun q hq => (h.od q hq).cg hq (he _ (by omega)) (fun i _ _ => he _ (by omega))) h.bb
theorem Inv.comes {s : Nat} (h : Inv a M n B) (hs : s < n) : Inv (m_comes a b s).1 M n B := by
  have h4 := h.s4
  exact h.ship (s := s) (by omega) (fun i hi => m_comes_ne hi) (h.gS.comes h4 hs)
theorem Inv.come (h : Inv a M n B) : ∀ s, s ≤ n → Inv (m_come a b s).1 M n B
  | 0, _ => h
  | s + 1, hs => (Inv.come h s (by omega)).comes (by omega)
theorem m_lets_ne {i : Nat} : ∀ p, p ≤ 4 → (∀ q, q < 5 → i ≠ 320 + 4 * q + 2) → m_lets a M p i = a i
  | 0, _, _ => rfl
  | p + 1, h, hi => by
    simp only [m_lets]
    split
    · rw [upd_ne (hi (p + 1) (by omega)), m_lets_ne p (by omega) hi]
    · exact m_lets_ne p (by omega) hi
theorem Inv.lets {p : Nat} (h : Inv a M n B) (hp : p ≤ 4) : Inv (m_lets a M p) M n B := by
  have ne := fun i hi => m_lets_ne (a := a) (M := M) (i := i) p hp hi
  refine Inv.of (h.gA.cg (ne _ (by omega)) (ne _ (by omega)) (ne _ (by omega))) (h.gQ.cg (fun i _ _ => ne _ (by omega))) (h.gD.cg (ne _ (by omega)) (ne _ (by omega)) (fun i _ _ => ne _ (by omega))) (h.gS.cg h.s4 (fun i _ _ => ne _ (by omega))) (h.gL.cg (fun i _ _ => ne _ (by omega))) (fun q hq => (h.od q hq).cg hq (ne _ (by omega)) (fun i _ _ => ne _ (by omega))) h.bb
/-- months per port while the factors act -/
def Bq (M p : Nat) : Nat → Nat := fun q => if 1 ≤ q ∧ q ≤ p then M + 1 else M
theorem Bq_0 : Bq M 0 = fun _ => M := by
  funext q
  unfold Bq
  rw [if_neg (by omega)]
theorem Bp_Bq {p : Nat} : Bp (Bq M p) (p + 1) = Bq M (p + 1) := by
  funext q
  unfold Bp Bq
  repeat' split
  all_goals omega
theorem Inv.facts (h : Inv a M n (fun _ => M)) (hM : M < 600) : ∀ p, p ≤ 4 → Inv (m_facts a b n p).1 M n (Bq M p)
  | 0, _ => by
    rw [Bq_0]
    exact h
  | p + 1, hp => by
    have := (Inv.facts h hM p (by omega)).acts (p := p + 1) (b := (m_facts a b n p).2) (by omega) (by omega) (by unfold Bq; rw [if_neg (by omega)]; exact hM)
    rw [Bp_Bq] at this
    exact this
theorem m_prices_ne {i : Nat} : ∀ k, (i < 50 ∨ 50 + k ≤ i) → m_prices a k i = a i
  | 0, _ => rfl
  | k + 1, h => by
    simp only [m_prices]
    rw [upd_ne (by omega)]
    exact m_prices_ne k (by omega)
theorem m_prices_at {j : Nat} : ∀ k, j < k → k ≤ 20 → m_prices a k (50 + j) = a (50 + j) + m_move (a (30 + j)) (a (50 + j))
  | 0, h, _ => absurd h (by omega)
  | k + 1, h, h20 => by
    simp only [m_prices]
    by_cases e : j = k
    · subst e
      rw [upd_eq, m_prices_ne j (by omega), m_prices_ne j (by omega)]
    · rw [upd_ne (by omega)]
      exact m_prices_at k (by omega) (by omega)
theorem move_int {x y : Int32} (hx : 1 ≤ x.toInt ∧ x.toInt ≤ 1000) (hy : 1 ≤ y.toInt) (hy2 : y.toInt < 2147483646) : 1 ≤ (y + m_move x y).toInt ∧ ((y + m_move x y).toInt ≤ y.toInt ∨ (y + m_move x y).toInt ≤ 1000) := by
  have e : (x - y).toInt = x.toInt - y.toInt := sub_int (by omega) (by omega)
  unfold m_move
  have l1 := lt_int 0 (x - y)
  have l2 := lt_int (x - y) 0
  rw [zero_int, e] at l1 l2
  split
  next z =>
    have z := l1.mp z
    rw [add_int (by rw [one_int]; omega) (by rw [one_int]; omega), one_int]; omega
  next =>
    split
    next z =>
      have z := l2.mp z
      rw [add_int (by rw [show (-1 : Int32).toInt = -1 from rfl]; omega) (by rw [show (-1 : Int32).toInt = -1 from rfl]; omega), show (-1 : Int32).toInt = -1 from rfl]; omega
    next => rw [Int32.add_zero]; omega
theorem m_notes_ne {i : Nat} : ∀ k, (i < 5100 + 20 * M ∨ 5100 + 20 * M + k ≤ i) → m_notes a M k i = a i
  | 0, _ => rfl
  | k + 1, h => by
    simp only [m_notes]
    rw [upd_ne (by omega)]
    exact m_notes_ne k (by omega)
theorem m_notes_at {j : Nat} : ∀ k, j < k → k ≤ 20 → m_notes a M k (5100 + 20 * M + j) = a (10 + j)
  | 0, h, _ => absurd h (by omega)
  | k + 1, h, h20 => by
    simp only [m_notes]
    by_cases e : j = k
    · subst e
      rw [upd_eq, m_notes_ne j (by omega)]
    · rw [upd_ne (by omega)]
      exact m_notes_at k (by omega) (by omega)
theorem GQ.prices (h : GQ a B) (hB : ∀ p, B p ≤ 600) : GQ (m_prices a 20) B := by
  refine GQ.mk ?_ ?_ ?_
  · intro p h1 h5 g g1 g4; rw [m_prices_ne 20 (by omega)]; exact h.so p h1 h5 g g1 g4
  · intro p h1 h5 g g4; rw [m_prices_ne 20 (by omega)]; exact h.bs p h1 h5 g g4
  · intro p h1 h5 g g4
    have h1' := h.bs p h1 h5 g g4
    have h2' := h.pr p h1 h5 g g4
    have h4' := hB p
    rw [m_prices_at 20 (by omega) (by omega)]
    have := move_int h1' h2'.1 (by omega)
    omega
theorem Inv.month (h : Inv a M n (fun _ => M)) (hM : M < 600) : Inv (m_month a b n M).1 (M + 1) n (fun _ => M + 1) := by
  have h1 := h.come (b := b) n (Nat.le_refl _)
  have h2 := h1.lets (p := 4) (by decide)
  have h3 := h2.facts (b := (m_come a b n).2) hM 4 (by decide)
  unfold m_month
  dsimp only
  obtain ⟨f, hf⟩ : ∃ f, (m_facts (m_lets (m_come a b n).1 M 4) (m_come a b n).2 n 4).1 = f := ⟨_, rfl⟩
  rw [hf] at h3 ⊢
  have ne : ∀ i, i ≠ 0 → (i < 50 ∨ 70 ≤ i) → (i < 5100 ∨ 17100 ≤ i) → upd (m_notes (m_prices f 20) M 20) 0 (m_notes (m_prices f 20) M 20 0 + 1) i = f i := fun i i0 i1 i2 => by
    rw [upd_ne i0, m_notes_ne 20 (by omega), m_prices_ne 20 (by omega)]
  have ep : ∀ i, 10 ≤ i → i < 110 → upd (m_notes (m_prices f 20) M 20) 0 (m_notes (m_prices f 20) M 20 0 + 1) i = m_prices f 20 i := fun i i0 i1 => by
    rw [upd_ne (by omega), m_notes_ne 20 (by omega)]
  have e0 : upd (m_notes (m_prices f 20) M 20) 0 (m_notes (m_prices f 20) M 20 0 + 1) 0 = nI (M + 1) := by
    rw [upd_eq, m_notes_ne 20 (by omega), m_prices_ne 20 (by omega), h3.mo]
    exact nI_1 M
  refine Inv.of (GA.mk e0 (by omega) ?_ h3.s4 ?_) (((h3.gQ.prices h3.bb).cg (fun i _ _ => ep i (by omega) (by omega))).le ?_) (h3.gD.cg (ne _ (by omega) (by omega) (by omega)) (ne _ (by omega) (by omega) (by omega)) (fun i _ _ => ne _ (by omega) (by omega) (by omega))) (h3.gS.cg h3.s4 (fun i _ _ => ne _ (by omega) (by omega) (by omega))) ?_ (fun q hq => (h3.od q hq).cg hq (ne _ (by omega) (by omega) (by omega)) (fun i _ _ => ne _ (by omega) (by omega) (by omega))) (fun _ => by omega)
  · rw [ne _ (by omega) (by omega) (by omega)]; exact h3.sp
  · rw [ne _ (by omega) (by omega) (by omega)]; exact h3.tl
  · intro p
    unfold Bq
    split <;> omega
  · intro p p1 p5 m hm
    rw [ne _ (by omega) (by omega) (by omega)]
    have := h3.lt p p1 p5 m hm
    exact ⟨this.1, fun z => this.2 (by omega)⟩
theorem Inv.okMonth' (h : Inv a M n (fun _ => M)) (hM : M < 600) : okMonth a b n M := by
  refine ⟨h.mo, h.sp, fun s hs => (h.come s hs).sp, fun p hp => ?_⟩
  exact (((h.come (b := b) n (Nat.le_refl _)).lets (p := 4) (by decide)).facts (b := (m_come a b n).2) hM p (by omega)).okM'
theorem Inv.ms (h : Inv a M n (fun _ => M)) : ∀ N, M + N ≤ 600 → Inv (m_ms a b n M N).1 (M + N) n (fun _ => M + N)
  | 0, _ => h
  | N + 1, hN => by
    have := (Inv.ms h N (by omega)).month (b := (m_ms a b n M N).2) (by omega)
    exact this
theorem Inv.okMs (h : Inv a M n (fun _ => M)) {N : Nat} (hN : M + N ≤ 600) : ∀ j, j < N → okMonth (m_ms a b n M j).1 (m_ms a b n M j).2 n (M + j) :=
  fun j hj => (h.ms (b := b) j (by omega)).okMonth' (by omega)
end IV5

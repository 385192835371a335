/-! what holds between calls: its groups -/
section IV2
variable {a a' : Nat → Int32} {b : Nat → Int64} {M n : Nat} {B : Nat → Nat}
def GD (a : Nat → Int32) : Prop :=
  (a 3 = 0 ∨ a 3 = 1) ∧
  (0 ≤ (a 2).toInt ∧ (a 2).toInt ≤ 1000) ∧
  (∀ q, q < 10 → 0 ≤ (a (150 + 10 * q)).toInt) ∧
  (hsum a 10 = (a 2).toInt) ∧
  (∀ q, q < 10 → ∀ g, g < 4 → 0 ≤ (a (150 + 10 * q + 1 + g)).toInt ∧ (a (150 + 10 * q + 1 + g)).toInt < 1000) ∧
  (a 3 = 0 → ∀ q, q < 10 → ∀ g, g < 4 → a (150 + 10 * q + 1 + g) = 0)
theorem GD.dv {a : Nat → Int32} (h : GD a) : a 3 = 0 ∨ a 3 = 1 := h.1
theorem GD.to {a : Nat → Int32} (h : GD a) : 0 ≤ (a 2).toInt ∧ (a 2).toInt ≤ 1000 := h.2.1
theorem GD.hd {a : Nat → Int32} (h : GD a) : ∀ q, q < 10 → 0 ≤ (a (150 + 10 * q)).toInt := h.2.2.1
theorem GD.hs {a : Nat → Int32} (h : GD a) : hsum a 10 = (a 2).toInt := h.2.2.2.1
theorem GD.rs {a : Nat → Int32} (h : GD a) : ∀ q, q < 10 → ∀ g, g < 4 → 0 ≤ (a (150 + 10 * q + 1 + g)).toInt ∧ (a (150 + 10 * q + 1 + g)).toInt < 1000 := h.2.2.2.2.1
theorem GD.rz {a : Nat → Int32} (h : GD a) : a 3 = 0 → ∀ q, q < 10 → ∀ g, g < 4 → a (150 + 10 * q + 1 + g) = 0 := h.2.2.2.2.2
theorem GD.mk {a : Nat → Int32} (h0 : a 3 = 0 ∨ a 3 = 1) (h1 : 0 ≤ (a 2).toInt ∧ (a 2).toInt ≤ 1000) (h2 : ∀ q, q < 10 → 0 ≤ (a (150 + 10 * q)).toInt) (h3 : hsum a 10 = (a 2).toInt) (h4 : ∀ q, q < 10 → ∀ g, g < 4 → 0 ≤ (a (150 + 10 * q + 1 + g)).toInt ∧ (a (150 + 10 * q + 1 + g)).toInt < 1000) (h5 : a 3 = 0 → ∀ q, q < 10 → ∀ g, g < 4 → a (150 + 10 * q + 1 + g) = 0) : GD a := ⟨h0, h1, h2, h3, h4, h5⟩
def GS (a : Nat → Int32) (n : Nat) : Prop :=
  (∀ s, n ≤ s → s < 4 → ∀ k, k < 16 → a (250 + 16 * s + k) = 0) ∧
  (∀ s, s < n → Sok a s) ∧
  (∀ s, s < n → a (250 + 16 * s + 4) ≠ -1 → a (250 + 16 * s + 5) = -1 ∧ a (250 + 16 * s + 6) = -1) ∧
  (∀ s, s < n → a (250 + 16 * s + 7) = 0 ∨ a (250 + 16 * s + 7) = 1) ∧
  (∀ s, s < n → a (250 + 16 * s + 4) = -1 → ∃ t, t < 100000 ∧ a (250 + 16 * s + 5) = nI t)
theorem GS.un {a : Nat → Int32} {n : Nat} (h : GS a n) : ∀ s, n ≤ s → s < 4 → ∀ k, k < 16 → a (250 + 16 * s + k) = 0 := h.1
theorem GS.sh {a : Nat → Int32} {n : Nat} (h : GS a n) : ∀ s, s < n → Sok a s := h.2.1
theorem GS.se {a : Nat → Int32} {n : Nat} (h : GS a n) : ∀ s, s < n → a (250 + 16 * s + 4) ≠ -1 → a (250 + 16 * s + 5) = -1 ∧ a (250 + 16 * s + 6) = -1 := h.2.2.1
theorem GS.dn {a : Nat → Int32} {n : Nat} (h : GS a n) : ∀ s, s < n → a (250 + 16 * s + 7) = 0 ∨ a (250 + 16 * s + 7) = 1 := h.2.2.2.1
theorem GS.tg {a : Nat → Int32} {n : Nat} (h : GS a n) : ∀ s, s < n → a (250 + 16 * s + 4) = -1 → ∃ t, t < 100000 ∧ a (250 + 16 * s + 5) = nI t := h.2.2.2.2
theorem GS.mk {a : Nat → Int32} {n : Nat} (h0 : ∀ s, n ≤ s → s < 4 → ∀ k, k < 16 → a (250 + 16 * s + k) = 0) (h1 : ∀ s, s < n → Sok a s) (h2 : ∀ s, s < n → a (250 + 16 * s + 4) ≠ -1 → a (250 + 16 * s + 5) = -1 ∧ a (250 + 16 * s + 6) = -1) (h3 : ∀ s, s < n → a (250 + 16 * s + 7) = 0 ∨ a (250 + 16 * s + 7) = 1) (h4 : ∀ s, s < n → a (250 + 16 * s + 4) = -1 → ∃ t, t < 100000 ∧ a (250 + 16 * s + 5) = nI t) : GS a n := ⟨h0, h1, h2, h3, h4⟩
def GQ (a : Nat → Int32) (B : Nat → Nat) : Prop :=
  (∀ p, 1 ≤ p → p < 5 → ∀ g, 1 ≤ g → g < 4 → 0 ≤ (a (10 + 4 * p + g)).toInt ∧ (a (10 + 4 * p + g)).toInt ≤ 100000 * B p) ∧
  (∀ p, 1 ≤ p → p < 5 → ∀ g, g < 4 → 1 ≤ (a (30 + (4 * p + g))).toInt ∧ (a (30 + (4 * p + g))).toInt ≤ 1000) ∧
  (∀ p, 1 ≤ p → p < 5 → ∀ g, g < 4 → 1 ≤ (a (50 + (4 * p + g))).toInt ∧ (a (50 + (4 * p + g))).toInt ≤ 1000 + 100100 * B p)
theorem GQ.so {a : Nat → Int32} {B : Nat → Nat} (h : GQ a B) : ∀ p, 1 ≤ p → p < 5 → ∀ g, 1 ≤ g → g < 4 → 0 ≤ (a (10 + 4 * p + g)).toInt ∧ (a (10 + 4 * p + g)).toInt ≤ 100000 * B p := h.1
theorem GQ.bs {a : Nat → Int32} {B : Nat → Nat} (h : GQ a B) : ∀ p, 1 ≤ p → p < 5 → ∀ g, g < 4 → 1 ≤ (a (30 + (4 * p + g))).toInt ∧ (a (30 + (4 * p + g))).toInt ≤ 1000 := h.2.1
theorem GQ.pr {a : Nat → Int32} {B : Nat → Nat} (h : GQ a B) : ∀ p, 1 ≤ p → p < 5 → ∀ g, g < 4 → 1 ≤ (a (50 + (4 * p + g))).toInt ∧ (a (50 + (4 * p + g))).toInt ≤ 1000 + 100100 * B p := h.2.2
theorem GQ.mk {a : Nat → Int32} {B : Nat → Nat} (h0 : ∀ p, 1 ≤ p → p < 5 → ∀ g, 1 ≤ g → g < 4 → 0 ≤ (a (10 + 4 * p + g)).toInt ∧ (a (10 + 4 * p + g)).toInt ≤ 100000 * B p) (h1 : ∀ p, 1 ≤ p → p < 5 → ∀ g, g < 4 → 1 ≤ (a (30 + (4 * p + g))).toInt ∧ (a (30 + (4 * p + g))).toInt ≤ 1000) (h2 : ∀ p, 1 ≤ p → p < 5 → ∀ g, g < 4 → 1 ≤ (a (50 + (4 * p + g))).toInt ∧ (a (50 + (4 * p + g))).toInt ≤ 1000 + 100100 * B p) : GQ a B := ⟨h0, h1, h2⟩
def GL (a : Nat → Int32) (M : Nat) : Prop := ∀ p, 1 ≤ p → p < 5 → ∀ m, m < 620 → 0 ≤ (a (2000 + 620 * p + m)).toInt ∧ (M + 12 < m → a (2000 + 620 * p + m) = 0)
def GA (a : Nat → Int32) (M : Nat) (n : Nat) : Prop :=
  (a 0 = nI M) ∧
  (M ≤ 600) ∧
  (a 1 = nI n) ∧
  (n ≤ 4) ∧
  (∃ T, T ≤ 500 ∧ a 4 = nI T)
theorem GA.mo {a : Nat → Int32} {M : Nat} {n : Nat} (h : GA a M n) : a 0 = nI M := h.1
theorem GA.m6 {a : Nat → Int32} {M : Nat} {n : Nat} (h : GA a M n) : M ≤ 600 := h.2.1
theorem GA.sp {a : Nat → Int32} {M : Nat} {n : Nat} (h : GA a M n) : a 1 = nI n := h.2.2.1
theorem GA.s4 {a : Nat → Int32} {M : Nat} {n : Nat} (h : GA a M n) : n ≤ 4 := h.2.2.2.1
theorem GA.tl {a : Nat → Int32} {M : Nat} {n : Nat} (h : GA a M n) : ∃ T, T ≤ 500 ∧ a 4 = nI T := h.2.2.2.2
theorem GA.mk {a : Nat → Int32} {M : Nat} {n : Nat} (h0 : a 0 = nI M) (h1 : M ≤ 600) (h2 : a 1 = nI n) (h3 : n ≤ 4) (h4 : ∃ T, T ≤ 500 ∧ a 4 = nI T) : GA a M n := ⟨h0, h1, h2, h3, h4⟩
theorem Inv.gD (h : Inv a M n B) : GD a := GD.mk h.dv h.to h.hd h.hs h.rs h.rz
theorem Inv.gS (h : Inv a M n B) : GS a n := GS.mk h.un h.sh h.se h.dn h.tg
theorem Inv.gQ (h : Inv a M n B) : GQ a B := GQ.mk h.so h.bs h.pr
theorem Inv.gL (h : Inv a M n B) : GL a M := h.lt
theorem Inv.gA (h : Inv a M n B) : GA a M n := GA.mk h.mo h.m6 h.sp h.s4 h.tl
theorem Inv.of (hA : GA a M n) (hQ : GQ a B) (hD : GD a) (hS : GS a n) (hL : GL a M) (hO : ∀ p, p < 5 → okO a p) (hB : ∀ p, B p ≤ 600) : Inv a M n B :=
  Inv.mk hA.mo hA.m6 hA.sp hA.s4 hA.tl hD.dv hQ.so hQ.bs hQ.pr hS.un hS.sh hS.se hD.to hD.hd hD.hs hD.rs hD.rz hL hO hB hS.dn hS.tg
theorem hsum_cg : ∀ k, k ≤ 10 → (∀ i, 150 ≤ i → i < 250 → a' i = a i) → hsum a' k = hsum a k
  | 0, _, _ => rfl
  | k + 1, hk, h => by
    simp only [hsum]
    rw [hsum_cg k (by omega) h, h _ (by omega) (by omega)]
theorem GD.cg (h : GD a) (h2 : a' 2 = a 2) (h3 : a' 3 = a 3) (he : ∀ i, 150 ≤ i → i < 250 → a' i = a i) : GD a' := by
  refine GD.mk ?_ ?_ ?_ ?_ ?_ ?_
  · rw [h3]; exact h.dv
  · rw [h2]; exact h.to
  · intro q hq; rw [he _ (by omega) (by omega)]; exact h.hd q hq
  · rw [hsum_cg 10 (by decide) he, h2]; exact h.hs
  · intro q hq g hg; rw [he _ (by omega) (by omega)]; exact h.rs q hq g hg
  · intro z q hq g hg; rw [h3] at z; rw [he _ (by omega) (by omega)]; exact h.rz z q hq g hg
theorem Sok.cgA {s : Nat} (h : Sok a s) (hs : s < 4) (he : ∀ k, k < 16 → a' (250 + 16 * s + k) = a (250 + 16 * s + k)) : Sok a' s := by
  have e11 := he (10 + 1) (by decide)
  have e12 := he (10 + 2) (by decide)
  have e13 := he (10 + 3) (by decide)
  refine Sok.mk ?_ ?_ ?_ ?_ ?_ ?_
  · rw [he 1 (by decide)]; exact h.lc
  · rw [he 0 (by decide)]; exact h.hd
  · rw [he 8 (by decide)]; exact h.ow
  · rw [he 1 (by decide), he 8 (by decide)]; exact h.ol
  · intro g g1 g4; rw [he (10 + g) (by omega)]; exact h.cg g g1 g4
  · rw [he 0 (by decide), he 8 (by decide), e11, e12, e13]; exact h.su
theorem GS.cg (h : GS a n) (h4 : n ≤ 4) (he : ∀ i, 250 ≤ i → i < 314 → a' i = a i) : GS a' n := by
  refine GS.mk ?_ ?_ ?_ ?_ ?_
  · intro s h1 h2 k hk; rw [he _ (by omega) (by omega)]; exact h.un s h1 h2 k hk
  · intro s hs; exact (h.sh s hs).cgA (by omega) (fun k hk => he _ (by omega) (by omega))
  · intro s hs; rw [he _ (by omega) (by omega), he _ (by omega) (by omega), he _ (by omega) (by omega)]; exact h.se s hs
  · intro s hs; rw [he _ (by omega) (by omega)]; exact h.dn s hs
  · intro s hs; rw [he _ (by omega) (by omega), he _ (by omega) (by omega)]; exact h.tg s hs
/-- one ship alone changes -/
theorem GS.one {s : Nat} (h : GS a n) (h4 : n ≤ 4) (hs : s < n) (he : ∀ i, 250 ≤ i → i < 314 → (i < 250 + 16 * s ∨ 266 + 16 * s ≤ i) → a' i = a i) (h1 : Sok a' s) (h2 : a' (250 + 16 * s + 4) ≠ -1 → a' (250 + 16 * s + 5) = -1 ∧ a' (250 + 16 * s + 6) = -1) (h3 : a' (250 + 16 * s + 7) = 0 ∨ a' (250 + 16 * s + 7) = 1) (h5 : a' (250 + 16 * s + 4) = -1 → ∃ t, t < 100000 ∧ a' (250 + 16 * s + 5) = nI t) : GS a' n := by
  refine GS.mk ?_ ?_ ?_ ?_ ?_
  · intro q z1 z2 k hk; rw [he _ (by omega) (by omega) (by omega)]; exact h.un q z1 z2 k hk
  · intro q hq
    by_cases e : q = s
    · subst e; exact h1
    · exact (h.sh q hq).cgA (by omega) (fun k hk => he _ (by omega) (by omega) (by omega))
  · intro q hq
    by_cases e : q = s
    · subst e; exact h2
    · rw [he _ (by omega) (by omega) (by omega), he _ (by omega) (by omega) (by omega), he _ (by omega) (by omega) (by omega)]; exact h.se q hq
  · intro q hq
    by_cases e : q = s
    · subst e; exact h3
    · rw [he _ (by omega) (by omega) (by omega)]; exact h.dn q hq
  · intro q hq
    by_cases e : q = s
    · subst e; exact h5
    · rw [he _ (by omega) (by omega) (by omega), he _ (by omega) (by omega) (by omega)]; exact h.tg q hq
theorem GQ.cg (h : GQ a B) (he : ∀ i, 14 ≤ i → i < 70 → a' i = a i) : GQ a' B := by
  refine GQ.mk ?_ ?_ ?_
  · intro p h1 h5 g g1 g4; rw [he _ (by omega) (by omega)]; exact h.so p h1 h5 g g1 g4
  · intro p h1 h5 g g4; rw [he _ (by omega) (by omega)]; exact h.bs p h1 h5 g g4
  · intro p h1 h5 g g4; rw [he _ (by omega) (by omega)]; exact h.pr p h1 h5 g g4
/-- one port alone changes -/
def Bp (B : Nat → Nat) (p : Nat) : Nat → Nat := fun q => if q = p then B q + 1 else B q
theorem GQ.one {p : Nat} (h : GQ a B) (he : ∀ i, 14 ≤ i → i < 30 → (i < 10 + 4 * p ∨ 14 + 4 * p ≤ i) → a' i = a i) (hb : ∀ i, 30 ≤ i → i < 50 → a' i = a i) (hp' : ∀ i, 50 ≤ i → i < 70 → (i < 50 + 4 * p ∨ 54 + 4 * p ≤ i) → a' i = a i)
    (h1 : ∀ g, 1 ≤ g → g < 4 → 0 ≤ (a' (10 + 4 * p + g)).toInt ∧ (a' (10 + 4 * p + g)).toInt ≤ 100000 * (B p + 1)) (h2 : ∀ g, g < 4 → 1 ≤ (a' (50 + (4 * p + g))).toInt ∧ (a' (50 + (4 * p + g))).toInt ≤ 1000 + 100100 * (B p + 1)) : GQ a' (Bp B p) := by
  refine GQ.mk ?_ ?_ ?_
  · intro q z1 z5 g g1 g4
    unfold Bp
    by_cases e : q = p
    · subst e; rw [if_pos rfl]; have := h1 g g1 g4; omega
    · rw [if_neg e, he (10 + 4 * q + g) (by omega) (by omega) (by omega)]; exact h.so q z1 z5 g g1 g4
  · intro q z1 z5 g g4; rw [hb _ (by omega) (by omega)]; exact h.bs q z1 z5 g g4
  · intro q z1 z5 g g4
    unfold Bp
    by_cases e : q = p
    · subst e; rw [if_pos rfl]; have := h2 g g4; omega
    · rw [if_neg e, hp' _ (by omega) (by omega) (by omega)]; exact h.pr q z1 z5 g g4
theorem GQ.le {B' : Nat → Nat} (h : GQ a B) (hB : ∀ p, B p ≤ B' p) : GQ a B' := by
  refine GQ.mk ?_ h.bs ?_
  · intro p h1 h5 g g1 g4
    have := h.so p h1 h5 g g1 g4
    have := hB p
    omega
  · intro p h1 h5 g g4
    have := h.pr p h1 h5 g g4
    have := hB p
    omega
theorem GL.cg (h : GL a M) (he : ∀ i, 2620 ≤ i → i < 5100 → a' i = a i) : GL a' M := by
  intro p h1 h5 m hm
  rw [he _ (by omega) (by omega)]
  exact h p h1 h5 m hm
theorem okT.cg {p k T : Nat} (h : okT a p k T) (he : ∀ j, j < 20 → a' (350 + 320 * p + 20 * k + j) = a (350 + 320 * p + 20 * k + j)) : okT a' p k T := by
  obtain ⟨t1, t2, t3⟩ := h
  have h0 := he 0 (by decide)
  rw [Nat.add_zero] at h0
  refine ⟨t1, h0.trans t2, fun t ht => ?_⟩
  obtain ⟨w, w1, w2⟩ := t3 t ht
  have := he (1 + 3 * t) (by omega)
  rw [← Nat.add_assoc] at this
  exact ⟨w, w1, this.trans w2⟩
theorem okA.cg {p k : Nat} (h : okA a p k) (he : ∀ j, j < 20 → a' (350 + 320 * p + 20 * k + j) = a (350 + 320 * p + 20 * k + j)) : okA a' p k := by
  obtain ⟨c, g, N, f1, f2, f3, f4⟩ := h
  exact ⟨c, g, N, (he 17 (by decide)).trans f1, (he 18 (by decide)).trans f2, (he 19 (by decide)).trans f3, f4⟩
theorem okO.cg {p : Nat} (h : okO a p) (hp : p < 5) (h0 : a' (320 + 4 * p) = a (320 + 4 * p)) (he : ∀ i, 350 ≤ i → i < 2000 → a' i = a i) : okO a' p := by
  obtain ⟨L, l1, l2, l3⟩ := h
  refine ⟨L, l1, h0.trans l2, fun k hk => ?_⟩
  obtain ⟨⟨T, hT⟩, hA⟩ := l3 k hk
  exact ⟨⟨T, hT.cg (fun j hj => he _ (by omega) (by omega))⟩, hA.cg (fun j hj => he _ (by omega) (by omega))⟩
theorem GA.cg (h : GA a M n) (h0 : a' 0 = a 0) (h1 : a' 1 = a 1) (h4 : a' 4 = a 4) : GA a' M n :=
  GA.mk (h0.trans h.mo) h.m6 (h1.trans h.sp) h.s4 (by rw [h4]; exact h.tl)
/-- what a factor's act may change -/
theorem Inv.act {p : Nat} (h : Inv a M n B) (hB : B p < 600) (hp : p < 5) (he : ∀ i, (i < 10 ∨ (110 ≤ i ∧ i < 250) ∨ 314 ≤ i) → i ≠ 320 + 4 * p + 1 → a' i = a i) (hQ : GQ a' (Bp B p)) (hS : GS a' n) : Inv a' M n (Bp B p) := by
  refine Inv.of (h.gA.cg (he _ (by omega) (by omega)) (he _ (by omega) (by omega)) (he _ (by omega) (by omega))) hQ (h.gD.cg (he _ (by omega) (by omega)) (he _ (by omega) (by omega)) (fun i _ _ => he _ (by omega) (by omega))) hS (h.gL.cg ?_) (fun q hq => (h.od q hq).cg hq (he _ (by omega) (by omega)) ?_) (fun q => ?_)
  · intro i h1 h2
    exact he _ (by omega) (by omega)
  · intro i h1 h2
    exact he _ (by omega) (by omega)
  · have := h.bb q
    unfold Bp
    split
    · next e => subst e; omega
    · exact this
theorem Inv.okS' (h : Inv a M n B) : okS a n := by
  intro s hs
  have k := h.sh s hs
  have k1 := k.ow
  have k2 := k.ol
  have k3 := k.lc
  refine ⟨(a (250 + 16 * s + 8)).toInt.toNat, (a (250 + 16 * s + 1)).toInt.toNat, nI_of_int k1, nI_of_int (by omega), by omega, by omega⟩
theorem Inv.okM' (h : Inv a M n B) : okM a n := ⟨h.sp, h.okS', h.od⟩
end IV2

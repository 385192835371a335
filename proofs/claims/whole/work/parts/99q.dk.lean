/-! what the reference leaves alone: its images -/
section DK
variable {a a' : Nat → Int32} {b b' : Nat → Int64} {M n : Nat} {B : Nat → Nat} {x y z w : Int32}
def Hi (a a' : Nat → Int32) : Prop := ∀ i, 17600 ≤ i → a' i = a i
def HiB (b b' : Nat → Int64) : Prop := ∀ j, 40 ≤ j → b' j = b j
theorem Hi.refl : Hi a a := fun _ _ => rfl
theorem HiB.refl : HiB b b := fun _ _ => rfl
theorem Hi.trans {a'' : Nat → Int32} (h : Hi a a') (h' : Hi a' a'') : Hi a a'' := fun i hi => (h' i hi).trans (h i hi)
theorem HiB.trans {b'' : Nat → Int64} (h : HiB b b') (h' : HiB b' b'') : HiB b b'' := fun i hi => (h' i hi).trans (h i hi)
theorem Hi.up {k : Nat} {v : Int32} (h : Hi a a') (hk : k < 17600) : Hi a (upd a' k v) := fun i hi => by rw [upd_ne (by omega)]; exact h i hi
theorem HiB.up {k : Nat} {v : Int64} (h : HiB b b') (hk : k < 40) : HiB b (vp_updL b' k v) := fun i hi => by rw [updL_ne (by omega)]; exact h i hi
theorem hi_end : Hi a (m_end a x).2 := by
  unfold m_end
  split
  · exact Hi.refl
  · exact Hi.refl.up (by decide)
theorem hi_market : Hi a (m_market a x y z).2 := by
  unfold m_market
  cases hx : fx 5 x with
  | none => exact Hi.refl
  | some p =>
    cases hy : fx 4 y with
    | none => exact Hi.refl
    | some g =>
      cases hz : fx 1001 z with
      | none => exact Hi.refl
      | some k =>
        obtain ⟨p1, p5, -⟩ := fx_some hx
        obtain ⟨g1, g4, -⟩ := fx_some hy
        exact (Hi.refl.up (by omega)).up (by omega)
theorem hi_letter (hM : M ≤ 600) : Hi a (m_letter a M x y).2 := by
  unfold m_letter
  cases hy : fx 10000 y with
  | none => exact Hi.refl
  | some k =>
    cases hx : fx 5 x with
    | none => exact Hi.refl
    | some p =>
      obtain ⟨p1, p5, -⟩ := fx_some hx
      exact Hi.refl.up (by omega)
theorem hi_fd {T : Nat} {x1 x2 x3 x4 x5 : Int32} (hT : T ≤ 480) : Hi a (m_fd a T x1 x2 x3 x4 x5 20) := fun i hi => m_fd_ne (by omega) 20 (by omega)
theorem hi_zero {s : Nat} (hs : s < 4) : Hi a (m_zero a s 16) := fun i hi => m_zero_ne 16 (by decide) (by omega)
theorem hi_ship (hn : n < 4) : Hi a (m_ship a n x y z w) := by
  unfold m_ship
  exact ((((((Hi.trans (Hi.refl.up (by decide)) (hi_zero hn)).up (by omega)).up (by omega)).up (by omega)).up (by omega)).up (by omega)).up (by omega)
theorem hi_unl {s p : Nat} (hs : s < 4) (hp : p < 5) : Hi a (m_unl a s p 4) := fun i hi => m_unl_ne (by omega) (by omega) 4 (by decide)
theorem hi_sails {s : Nat} (hs : s < 4) : Hi a (m_sails a s x) := fun i hi => m_sails_ne (by omega)
theorem hi_dv {g : Nat} (hg : g < 4) : Hi a (m_dv a g y 10).1 := fun i hi => m_dv_ne 10 (fun p hp => by omega)
theorem hi_loads {s p g : Nat} (hs : s < 4) (hp : p < 5) (hg : g < 4) : Hi a (m_loads a s p g x) := by
  unfold m_loads
  exact (Hi.refl.up (by omega)).up (by omega)
theorem hb_buys {p g : Nat} (hg : g < 4) {j : Nat} (hj : 40 ≤ j) : ∀ k (a : Nat → Int32) (b : Nat → Int64), (m_buys p g k a b).2 j = b j
  | 0, a, b => rfl
  | k + 1, a, b => by
    unfold m_buys
    split
    · rw [hb_buys hg hj k]
      unfold m_buyb
      rw [updL_ne (by omega), updL_ne (by omega)]
    · rfl
theorem hb_sells {p g : Nat} (hg : g < 4) {j : Nat} (hj : 40 ≤ j) : ∀ k (a : Nat → Int32) (b : Nat → Int64), (m_sells p g k a b).2 j = b j
  | 0, a, b => rfl
  | k + 1, a, b => by
    unfold m_sells
    split
    · rw [hb_sells hg hj k]
      unfold m_sellb
      rw [updL_ne (by omega), updL_ne (by omega)]
    · rfl
theorem hb_mast {s p : Nat} {j : Nat} (hj : 40 ≤ j) : ∀ k (a : Nat → Int32) (b : Nat → Int64), (m_mast s p k a b).2 j = b j
  | 0, a, b => rfl
  | k + 1, a, b => by
    unfold m_mast
    split
    · rw [hb_mast hj k, updL_ne (by omega)]
    · rfl
theorem hb_ls {s : Nat} {j : Nat} (hj : 40 ≤ j) : ∀ g, g ≤ 4 → (m_ls a b s g).2 j = b j
  | 0, _ => rfl
  | g + 1, hg => by
    unfold m_ls
    dsimp only
    rw [updL_ne (by omega)]
    exact hb_ls hj g (by omega)
theorem hi_comes {s : Nat} (hs : s < 4) : Hi a (m_comes a b s).1 ∧ HiB b (m_comes a b s).2 := by
  refine ⟨fun i hi => m_comes_ne (by omega), fun j hj => ?_⟩
  unfold m_comes
  split
  · split
    · exact hb_ls hj 4 (by decide)
    · rfl
  · rfl
theorem hi_come : ∀ s, s ≤ 4 → Hi a (m_come a b s).1 ∧ HiB b (m_come a b s).2
  | 0, _ => ⟨Hi.refl, HiB.refl⟩
  | s + 1, hs => by
    have h1 := hi_come s (by omega)
    have h2 := hi_comes (a := (m_come a b s).1) (b := (m_come a b s).2) (s := s) (by omega)
    exact ⟨h1.1.trans h2.1, h1.2.trans h2.2⟩
theorem hi_does {p k : Nat} (hn : n ≤ 4) (hp : p < 5) (hA : okA a p k) : Hi a (m_does a b n p k).1 ∧ HiB b (m_does a b n p k).2 := by
  obtain ⟨c, g, N, e1, e2, e3, hc, hg, hg1, hN⟩ := hA
  have same : Hi a a ∧ HiB b b := ⟨Hi.refl, HiB.refl⟩
  unfold m_does
  dsimp only
  rw [e1, e2, e3, nI_clamp (by omega), nI_clamp (by omega)]
  simp (disch := omega) only [lit, nI_eq]
  have hc' : c = 20 ∨ c = 21 ∨ c = 22 ∨ c = 23 ∨ c = 24 ∨ c = 25 ∨ c = 26 := by omega
  rcases hc' with rfl | rfl | rfl | rfl | rfl | rfl | rfl
  · exact ⟨fun i hi => m_buys_ne (by omega) (by omega) (by omega) (by omega) _ _ _, fun j hj => hb_buys hg hj _ _ _⟩
  · exact ⟨fun i hi => m_sells_ne (by omega) (by omega) (by omega) (by omega) _ _ _, fun j hj => hb_sells hg hj _ _ _⟩
  · cases hs : m_the a p n 0 with
    | none => exact same
    | some s =>
      have := m_the_lt hs
      exact ⟨hi_loads (by omega) hp hg, HiB.refl⟩
  · cases hs : m_the a p n 0 with
    | none => exact same
    | some s =>
      have := m_the_lt hs
      exact ⟨hi_loads (by omega) hp (by decide), HiB.refl⟩
  · cases hs : m_the a p n 0 with
    | none => exact same
    | some s =>
      have := m_the_lt hs
      exact ⟨hi_unl (by omega) hp, HiB.refl⟩
  · cases hs : m_the a p n 0 with
    | none => exact same
    | some s =>
      have := m_the_lt hs
      dsimp only
      simp only [Nat.reduceEqDiff, reduceIte]
      split
      · exact ⟨Hi.trans (fun i hi => m_mast_ne (by omega) (by omega) (by omega) _ _ _) (hi_sails (by omega)), fun j hj => hb_mast hj _ _ _⟩
      · exact same
  · exact same
theorem hi_acts {p : Nat} (h : Inv a M n B) (hp : p < 5) : Hi a (m_acts a b n p).1 ∧ HiB b (m_acts a b n p).2 := by
  obtain ⟨L, hL16, hL, hO⟩ := h.od p hp
  unfold m_acts
  rw [hL, nI_clamp (by omega)]
  cases hk : m_fl (upd a (320 + 4 * p + 1) (-1)) n p L 0 with
  | none => exact ⟨Hi.refl.up (by omega), HiB.refl⟩
  | some k =>
    have := m_fl_lt hk
    dsimp only
    rw [upd_upd]
    have := hi_does (b := b) (a := upd a (320 + 4 * p + 1) (nI k)) h.s4 hp ((hO k (by omega)).2.cg (fun j hj => upd_ne (by omega)))
    exact ⟨Hi.trans (Hi.refl.up (by omega)) this.1, this.2⟩
theorem hi_facts (h : Inv a M n (fun _ => M)) (hM : M < 600) : ∀ p, p ≤ 4 → Hi a (m_facts a b n p).1 ∧ HiB b (m_facts a b n p).2
  | 0, _ => ⟨Hi.refl, HiB.refl⟩
  | p + 1, hp => by
    have h1 := hi_facts h hM p (by omega)
    have h2 := hi_acts (b := (m_facts a b n p).2) (h.facts (b := b) hM p (by omega)) (p := p + 1) (by omega)
    exact ⟨h1.1.trans h2.1, h1.2.trans h2.2⟩
theorem hi_month (h : Inv a M n (fun _ => M)) (hM : M < 600) : Hi a (m_month a b n M).1 ∧ HiB b (m_month a b n M).2 := by
  have h0 := hi_come (a := a) (b := b) n h.s4
  have h1 := h.come (b := b) n (Nat.le_refl _)
  have h2 := h1.lets (p := 4) (by decide)
  have e2 : Hi (m_come a b n).1 (m_lets (m_come a b n).1 M 4) := fun i hi => m_lets_ne 4 (by decide) (fun q hq => by omega)
  have h3 := hi_facts (b := (m_come a b n).2) h2 hM 4 (by decide)
  unfold m_month
  dsimp only
  obtain ⟨f, hf⟩ : ∃ f, (m_facts (m_lets (m_come a b n).1 M 4) (m_come a b n).2 n 4).1 = f := ⟨_, rfl⟩
  rw [hf] at h3 ⊢
  have e4 : Hi f (m_notes (m_prices f 20) M 20) := fun i hi => by rw [m_notes_ne 20 (by omega), m_prices_ne 20 (by omega)]
  exact ⟨(((h0.1.trans e2).trans h3.1).trans e4).up (by decide), h0.2.trans h3.2⟩
theorem hi_ms (h : Inv a M n (fun _ => M)) : ∀ N, M + N ≤ 600 → Hi a (m_ms a b n M N).1 ∧ HiB b (m_ms a b n M N).2
  | 0, _ => ⟨Hi.refl, HiB.refl⟩
  | N + 1, hN => by
    have h1 := hi_ms h N (by omega)
    have h2 := hi_month (b := (m_ms a b n M N).2) (h.ms (b := b) N (by omega)) (by omega)
    exact ⟨h1.1.trans h2.1, h1.2.trans h2.2⟩
theorem hi_OrA {D : Nat → Int32} {q L : Nat} (hq : q < 5) : Hi a (OrA a D q L) := fun i hi => OrA_ne (by omega) (by omega)
/-! images -/
/-- the reference's image k -/
def imA (k : Nat) (a : Nat → Int32) : Nat → Int32 := fun i => if i < 17600 then a (17600 * (k + 1) + i) else 0
def imB (k : Nat) (b : Nat → Int64) : Nat → Int64 := fun j => if j < 40 then b (40 * (k + 1) + j) else 0
/-- rows below 17600 and 40 are all that counts -/
theorem Rel.lo {R : Nat → Nat → Value} {X : Nat} {I : Nat → Nat → Int32} {J : Nat → Nat → Int64} (h : Rel R X I J a b M) (hM : M ≤ 600) (ha : ∀ i, i < 17600 → a' i = a i) (hb : ∀ j, j < 40 → b' j = b j) : Rel R X I J a' b' M := by
  have hw : wn M = M := wn_id (by omega)
  have hp : pb M = M := pb_id (by omega)
  have h1 : Rel R X I J a' b M := by
    refine h.cgA (fun i hi => ha i (by omega)) ?_ ?_ ?_ ?_
    · intro p i p1 p5 i13
      have := h.pst p i p1 p5 i13
      rw [hw] at this ⊢
      rw [ha _ (by omega)]
      exact this
    · intro T hT T5 i hi
      rw [ha _ (by omega)]
      exact h.tap T hT T5 i hi
    · intro p p1 p5 L hL L16 l hl
      exact (h.ord p p1 p5 L hL L16 l hl).cg (fun _ _ _ => rfl) (fun k hk => ha _ (by omega))
    · intro m hm
      refine ⟨(h.pag m hm).1, fun k hk => ?_⟩
      have hm' := hm
      rw [hp] at hm'
      rw [ha _ (by omega)]
      exact (h.pag m hm).2 k hk
  exact Rel.mk h1.m1 (fun g hg q hq => by rw [hb _ (by omega)]; exact h1.jb g hg q hq) h1.num h1.sea h1.asd h1.pst h1.tap h1.ord h1.pag
theorem Inv.lo (h : Inv a M n B) (ha : ∀ i, i < 17600 → a' i = a i) : Inv a' M n B := by
  refine Inv.of (h.gA.cg (ha _ (by omega)) (ha _ (by omega)) (ha _ (by omega))) (h.gQ.cg (fun i _ _ => ha _ (by omega))) (h.gD.cg (ha _ (by omega)) (ha _ (by omega)) (fun i _ _ => ha _ (by omega))) (h.gS.cg h.s4 (fun i _ _ => ha _ (by omega))) (h.gL.cg (fun i _ _ => ha _ (by omega))) (fun q hq => (h.od q hq).cg hq (ha _ (by omega)) (fun i _ _ => ha _ (by omega))) h.bb
theorem imA_hi {k : Nat} (h : Hi a a') : imA k a' = imA k a := by
  funext i
  unfold imA
  split
  · exact h _ (by omega)
  · rfl
theorem imB_hi {k : Nat} (h : HiB b b') : imB k b' = imB k b := by
  funext i
  unfold imB
  split
  · exact h _ (by omega)
  · rfl
end DK

/-! copies: a company -/
section CP4
variable {d mc ms : Nat} {K : Ps} {E : Nat → Prop} {R R' : Nat → Nat → Value} {I I' I'' I0 : Nat → Nat → Int32} {J J' : Nat → Nat → Int64} {X Y M p n : Nat} {a : Nat → Int32} {b : Nat → Int64} {B : Nat → Nat}
theorem PtE.cg (h : PtE X Y p I' I) (hc : ∀ c, PtF X p c → I'' c = I' c) : PtE X Y p I'' I := by
  have c5 := hc (rc 5 (X + p)) (Or.inl rfl)
  have c27 := hc (rc 27 (X + p)) (Or.inr (Or.inl rfl))
  have c29 := hc (rc 29 (X + p)) (Or.inr (Or.inr (Or.inl rfl)))
  have c3 := hc (rc 3 (X + p)) (Or.inr (Or.inr (Or.inr (Or.inl rfl))))
  have cr : ∀ r, 19 ≤ r → r ≤ 25 → I'' (rc r (X + p)) = I' (rc r (X + p)) := fun r r1 r2 => hc _ (Or.inr (Or.inr (Or.inr (Or.inr (Or.inl ⟨r, r1, r2, rfl⟩)))))
  have cm : ∀ g, g < 4 → I'' (rc 2 (X + 4 * p + g)) = I' (rc 2 (X + 4 * p + g)) := fun g hg => hc _ (Or.inr (Or.inr (Or.inr (Or.inr (Or.inr ⟨g, hg, rfl⟩)))))
  refine PtE.mk ?_ ?_ ?_ ?_ ?_ ?_ ?_ ?_ ?_
  · rw [c27]; exact h.st
  · intro g hg; rw [cm g hg]; exact h.mt g hg
  · rw [c3]; exact h.ln
  · intro L hL hL16 r r1 r2; rw [cr r (by omega) (by omega)]; exact h.r1 L hL hL16 r r1 r2
  · intro L hL hL16 r r1 r2; rw [cr r (by omega) (by omega)]; exact h.r2 L hL hL16 r r1 r2
  · rw [c5]; exact h.f4
  · rw [c5]; exact h.f5
  · rw [c29]; exact h.po
  · rw [c5]; exact h.nu
theorem PtE.base (h : PtE X Y p I' I) (hc : ∀ c, c % 64 ≠ 1 → c % 64 ≠ 9 → c % 64 ≠ 13 → I c = I0 c) : PtE X Y p I' I0 := by
  have e : ∀ r o, r < 64 → r ≠ 1 → r ≠ 9 → r ≠ 13 → I (rc r o) = I0 (rc r o) := fun r o h0 h1 h2 h3 => hc _ (by unfold rc; omega) (by unfold rc; omega) (by unfold rc; omega)
  refine PtE.mk ?_ ?_ ?_ ?_ ?_ ?_ ?_ ?_ ?_
  · rw [← e 27 (Y + p) (by decide) (by decide) (by decide) (by decide)]; exact h.st
  · intro g hg; rw [← e 2 (Y + 4 * p + g) (by decide) (by decide) (by decide) (by decide)]; exact h.mt g hg
  · rw [← e 3 (Y + p) (by decide) (by decide) (by decide) (by decide)]; exact h.ln
  · intro L hL hL16 r r1 r2; rw [← e 3 (Y + p) (by decide) (by decide) (by decide) (by decide)] at hL; rw [← e r (Y + p) (by omega) (by omega) (by omega) (by omega)]; exact h.r1 L hL hL16 r r1 r2
  · intro L hL hL16 r r1 r2; rw [← e 3 (Y + p) (by decide) (by decide) (by decide) (by decide)] at hL; rw [← e r (Y + p) (by omega) (by omega) (by omega) (by omega)]; exact h.r2 L hL hL16 r r1 r2
  · rw [← e 5 (Y + p) (by decide) (by decide) (by decide) (by decide)]; exact h.f4
  · rw [← e 5 (Y + p) (by decide) (by decide) (by decide) (by decide)]; exact h.f5
  · rw [← e 29 (Y + p) (by decide) (by decide) (by decide) (by decide)]; exact h.po
  · rw [← e 5 (X + p) (by decide) (by decide) (by decide) (by decide)]; exact h.nu
def cpok (c s : Nat) : Bool := let r := c % 64; let o := c / 64
  (r == 1 && o == 0 && s < 4) || (r == 8 && o == 0 && (s == 1 || s == 2)) || (r == 9 && o == 0 && s == 1) || (r == 27 && o < 5 && s < 4) || (r == 2 && o < 20 && s < 4) || (r == 31 && o == 0 && s < 10) || (r == 32 && o == 0 && s < 40) || (r == 33 && o == 0 && s < 40) || (r == 7 && o < 4 && s < 11 && s != 4) || (r == 30 && o < 4 && s < 4) || (r == 3 && o < 5 && s == 0) || (r == 5 && o < 5 && (s == 4 || s == 5))
def cpok' (i : Nat) : Bool := match mpI i with
  | some (c, s) => cpok c s
  | none => true
theorem cpok_all : ∀ i, i < 340 → cpok' i = true := by decide +kernel
theorem mpI_cp {i c s : Nat} (h : mpI i = some (c, s)) : cpok c s = true := by
  have := cpok_all i (mpI_lt h)
  unfold cpok' at this
  rw [h] at this
  exact this
/-- all of company X is as company Y was -/
def CEq (X : Nat) (Y : Nat) (T : Nat) (M : Nat) (I' : Nat → Nat → Int32) (I : Nat → Nat → Int32) : Prop :=
  (∀ k, k < 4 → I' (rc 1 X) k = I (rc 1 Y) k) ∧
  (I' (rc 9 X) 1 = I (rc 9 Y) 1) ∧
  (∀ k, k < T → I' (rc 13 X) k = I (rc 13 Y) k) ∧
  (∀ p, p < 5 → PtE X Y p I' I) ∧
  (∀ s, s < 4 → ∀ k, k < 11 → k ≠ 4 → I' (rc 7 (X + s)) k = I (rc 7 (Y + s)) k) ∧
  (∀ s, s < 4 → ∀ k, k < 4 → I' (rc 30 (X + s)) k = I (rc 30 (Y + s)) k) ∧
  (I' (rc 8 X) 1 = I (rc 8 Y) 1) ∧
  (I' (rc 8 X) 2 = I (rc 8 Y) 2) ∧
  (∀ k, k < 10 → I' (rc 31 X) k = I (rc 31 Y) k) ∧
  (∀ k, k < 40 → I' (rc 32 X) k = I (rc 32 Y) k) ∧
  (∀ k, k < 40 → I' (rc 33 X) k = I (rc 33 Y) k) ∧
  (∀ k, k < 4 → I' (rc 34 X) k = I (rc 34 Y) k) ∧
  (∀ j, j < (M + 59) / 60 → ∀ k, k < 1200 → I' (rc 26 (X + j)) k = I (rc 26 (Y + j)) k)
theorem CEq.c1 {X : Nat} {Y : Nat} {T : Nat} {M : Nat} {I' : Nat → Nat → Int32} {I : Nat → Nat → Int32} (h : CEq X Y T M I' I) : ∀ k, k < 4 → I' (rc 1 X) k = I (rc 1 Y) k := h.1
theorem CEq.tl {X : Nat} {Y : Nat} {T : Nat} {M : Nat} {I' : Nat → Nat → Int32} {I : Nat → Nat → Int32} (h : CEq X Y T M I' I) : I' (rc 9 X) 1 = I (rc 9 Y) 1 := h.2.1
theorem CEq.tb {X : Nat} {Y : Nat} {T : Nat} {M : Nat} {I' : Nat → Nat → Int32} {I : Nat → Nat → Int32} (h : CEq X Y T M I' I) : ∀ k, k < T → I' (rc 13 X) k = I (rc 13 Y) k := h.2.2.1
theorem CEq.po {X : Nat} {Y : Nat} {T : Nat} {M : Nat} {I' : Nat → Nat → Int32} {I : Nat → Nat → Int32} (h : CEq X Y T M I' I) : ∀ p, p < 5 → PtE X Y p I' I := h.2.2.2.1
theorem CEq.s7 {X : Nat} {Y : Nat} {T : Nat} {M : Nat} {I' : Nat → Nat → Int32} {I : Nat → Nat → Int32} (h : CEq X Y T M I' I) : ∀ s, s < 4 → ∀ k, k < 11 → k ≠ 4 → I' (rc 7 (X + s)) k = I (rc 7 (Y + s)) k := h.2.2.2.2.1
theorem CEq.s30 {X : Nat} {Y : Nat} {T : Nat} {M : Nat} {I' : Nat → Nat → Int32} {I : Nat → Nat → Int32} (h : CEq X Y T M I' I) : ∀ s, s < 4 → ∀ k, k < 4 → I' (rc 30 (X + s)) k = I (rc 30 (Y + s)) k := h.2.2.2.2.2.1
theorem CEq.k1 {X : Nat} {Y : Nat} {T : Nat} {M : Nat} {I' : Nat → Nat → Int32} {I : Nat → Nat → Int32} (h : CEq X Y T M I' I) : I' (rc 8 X) 1 = I (rc 8 Y) 1 := h.2.2.2.2.2.2.1
theorem CEq.k2 {X : Nat} {Y : Nat} {T : Nat} {M : Nat} {I' : Nat → Nat → Int32} {I : Nat → Nat → Int32} (h : CEq X Y T M I' I) : I' (rc 8 X) 2 = I (rc 8 Y) 2 := h.2.2.2.2.2.2.2.1
theorem CEq.k31 {X : Nat} {Y : Nat} {T : Nat} {M : Nat} {I' : Nat → Nat → Int32} {I : Nat → Nat → Int32} (h : CEq X Y T M I' I) : ∀ k, k < 10 → I' (rc 31 X) k = I (rc 31 Y) k := h.2.2.2.2.2.2.2.2.1
theorem CEq.k32 {X : Nat} {Y : Nat} {T : Nat} {M : Nat} {I' : Nat → Nat → Int32} {I : Nat → Nat → Int32} (h : CEq X Y T M I' I) : ∀ k, k < 40 → I' (rc 32 X) k = I (rc 32 Y) k := h.2.2.2.2.2.2.2.2.2.1
theorem CEq.k33 {X : Nat} {Y : Nat} {T : Nat} {M : Nat} {I' : Nat → Nat → Int32} {I : Nat → Nat → Int32} (h : CEq X Y T M I' I) : ∀ k, k < 40 → I' (rc 33 X) k = I (rc 33 Y) k := h.2.2.2.2.2.2.2.2.2.2.1
theorem CEq.k34 {X : Nat} {Y : Nat} {T : Nat} {M : Nat} {I' : Nat → Nat → Int32} {I : Nat → Nat → Int32} (h : CEq X Y T M I' I) : ∀ k, k < 4 → I' (rc 34 X) k = I (rc 34 Y) k := h.2.2.2.2.2.2.2.2.2.2.2.1
theorem CEq.pg {X : Nat} {Y : Nat} {T : Nat} {M : Nat} {I' : Nat → Nat → Int32} {I : Nat → Nat → Int32} (h : CEq X Y T M I' I) : ∀ j, j < (M + 59) / 60 → ∀ k, k < 1200 → I' (rc 26 (X + j)) k = I (rc 26 (Y + j)) k := h.2.2.2.2.2.2.2.2.2.2.2.2
theorem CEq.mk {X : Nat} {Y : Nat} {T : Nat} {M : Nat} {I' : Nat → Nat → Int32} {I : Nat → Nat → Int32} (h0 : ∀ k, k < 4 → I' (rc 1 X) k = I (rc 1 Y) k) (h1 : I' (rc 9 X) 1 = I (rc 9 Y) 1) (h2 : ∀ k, k < T → I' (rc 13 X) k = I (rc 13 Y) k) (h3 : ∀ p, p < 5 → PtE X Y p I' I) (h4 : ∀ s, s < 4 → ∀ k, k < 11 → k ≠ 4 → I' (rc 7 (X + s)) k = I (rc 7 (Y + s)) k) (h5 : ∀ s, s < 4 → ∀ k, k < 4 → I' (rc 30 (X + s)) k = I (rc 30 (Y + s)) k) (h6 : I' (rc 8 X) 1 = I (rc 8 Y) 1) (h7 : I' (rc 8 X) 2 = I (rc 8 Y) 2) (h8 : ∀ k, k < 10 → I' (rc 31 X) k = I (rc 31 Y) k) (h9 : ∀ k, k < 40 → I' (rc 32 X) k = I (rc 32 Y) k) (h10 : ∀ k, k < 40 → I' (rc 33 X) k = I (rc 33 Y) k) (h11 : ∀ k, k < 4 → I' (rc 34 X) k = I (rc 34 Y) k) (h12 : ∀ j, j < (M + 59) / 60 → ∀ k, k < 1200 → I' (rc 26 (X + j)) k = I (rc 26 (Y + j)) k) : CEq X Y T M I' I := ⟨h0, h1, h2, h3, h4, h5, h6, h7, h8, h9, h10, h11, h12⟩
theorem CEq.rel {T : Nat} (hr : Rel R Y I J a b M) (hi : Inv a M n B) (hT : a 4 = nI T) (hT5 : T ≤ 500) (hnu : ∀ p, p < 5 → I (rc 5 (X + p)) 0 = nI p) (h : CEq X Y T M I' I) (hJ : ∀ k, k < 28 → J' (rc 15 X) k = J (rc 15 Y) k) (hR : ∀ j, j < (M + 59) / 60 → R' (rc 18 X) j = .ref (rc 4 (X + j))) : Rel R' X I' J' a b M := by
  have h6 := hi.m6
  have ew : wn M = M := wn_id (by omega)
  have ep : pb M = M := pb_id (by omega)
  refine Rel.mk ?_ ?_ ?_ ?_ ?_ ?_ ?_ ?_ ?_
  · intro i c s hi'
    have hk := mpI_cp hi'
    have hy := hr.m1 i c s hi'
    rw [← hy]
    have ex : c + 64 * X = rc (c % 64) (X + c / 64) := by unfold rc; omega
    have ey : c + 64 * Y = rc (c % 64) (Y + c / 64) := by unfold rc; omega
    rw [ex, ey]
    unfold cpok at hk
    simp only [Bool.and_eq_true, Bool.or_eq_true, beq_iff_eq, bne_iff_ne, decide_eq_true_eq] at hk
    obtain ⟨r, hrr⟩ : ∃ r, c % 64 = r := ⟨_, rfl⟩
    obtain ⟨o, hoo⟩ : ∃ o, c / 64 = o := ⟨_, rfl⟩
    rw [hrr, hoo] at hk ⊢
    clear hy hi' ex ey hrr hoo
    rcases hk with (((((((((((hk | hk) | hk) | hk) | hk) | hk) | hk) | hk) | hk) | hk) | hk) | hk)
    · obtain ⟨⟨rfl, rfl⟩, hs⟩ := hk; exact h.c1 s hs
    · obtain ⟨⟨rfl, rfl⟩, rfl | rfl⟩ := hk
      · exact h.k1
      · exact h.k2
    · obtain ⟨⟨rfl, rfl⟩, rfl⟩ := hk; exact h.tl
    · obtain ⟨⟨rfl, ho⟩, hs⟩ := hk; exact (h.po o ho).st s hs
    · obtain ⟨⟨rfl, ho⟩, hs⟩ := hk
      have := (h.po (o / 4) (by omega)).mt (o % 4) (by omega) s hs
      rw [Nat.add_assoc, Nat.add_assoc, show 4 * (o / 4) + o % 4 = o by omega] at this
      exact this
    · obtain ⟨⟨rfl, rfl⟩, hs⟩ := hk; exact h.k31 s hs
    · obtain ⟨⟨rfl, rfl⟩, hs⟩ := hk; exact h.k32 s hs
    · obtain ⟨⟨rfl, rfl⟩, hs⟩ := hk; exact h.k33 s hs
    · obtain ⟨⟨⟨rfl, ho⟩, hs⟩, h4⟩ := hk; exact h.s7 o ho s hs h4
    · obtain ⟨⟨rfl, ho⟩, hs⟩ := hk; exact h.s30 o ho s hs
    · obtain ⟨⟨rfl, ho⟩, rfl⟩ := hk; exact (h.po o ho).ln
    · obtain ⟨⟨rfl, ho⟩, rfl | rfl⟩ := hk
      · exact (h.po o ho).f4
      · exact (h.po o ho).f5
  · intro g hg q hq
    rw [hJ _ (by unfold qk; split <;> omega)]
    exact hr.jb g hg q hq
  · intro p hp
    rw [(h.po p hp).nu]
    exact hnu p hp
  · intro s hs
    rw [h.s7 s hs 7 (by decide) (by decide), h.s7 s hs 8 (by decide) (by decide)]
    exact hr.sea s hs
  · intro g hg
    rw [h.k34 g hg]
    exact hr.asd g hg
  · intro p i p1 p5 i13
    rw [(h.po p p5).po _ (by omega)]
    exact hr.pst p i p1 p5 i13
  · intro T' hT' hT5' i hi'
    have : T' = T := by rw [hT] at hT'; exact ((nI_eq (by omega) (by omega)).mp hT').symm
    subst this
    rw [h.tb i hi']
    exact hr.tap T' hT hT5 i hi'
  · intro p p1 p5 L hL hL16 l hl
    have ol := hr.ord p p1 p5 L hL hL16 l hl
    have hL' := (hr.lines p5).trans hL
    have q1 := fun r h1 h2 => (h.po p p5).r1 L hL' hL16 r h1 h2 l hl
    have q2 := fun r h1 h2 k hk => (h.po p p5).r2 L hL' hL16 r h1 h2 k hk
    refine OL.mk ?_ ?_ ?_ ?_ ?_
    · rw [q1 22 (by decide) (by decide)]; exact ol.tc
    · rw [q1 19 (by decide) (by decide)]; exact ol.ac
    · rw [q1 20 (by decide) (by decide)]; exact ol.gd
    · rw [q1 21 (by decide) (by decide)]; exact ol.nu
    · intro t T' hT' hT4 ht
      rw [q2 23 (by decide) (by decide) _ (by omega), q2 24 (by decide) (by decide) _ (by omega), q2 25 (by decide) (by decide) _ (by omega)]
      exact ol.te t T' hT' hT4 ht
  · intro m hm
    rw [ep] at hm
    refine ⟨hR _ (by omega), fun k hk => ?_⟩
    rw [h.pg _ (by omega) _ (by omega)]
    exact (hr.pag m (by omega)).2 k hk
end CP4

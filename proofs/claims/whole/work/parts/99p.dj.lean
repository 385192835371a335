/-! orders: the relation behind them -/
section DJ
variable {R : Nat → Nat → Value} {I I4 : Nat → Nat → Int32} {J : Nat → Nat → Int64} {a : Nat → Int32} {b : Nat → Int64} {M X n : Nat} {B : Nat → Nat} {A D : Nat → Int32} {q L : Nat} {Z : Nat → Nat} {v5 v6 : Int32}
theorem cpr_at {i : Nat} : ∀ k, cpr A D q k i = if 350 + 320 * q ≤ i ∧ i < 350 + 320 * q + k then D (i - (350 + 320 * q)) else A i
  | 0 => by rw [if_neg (by omega)]; rfl
  | k + 1 => by
    simp only [cpr, upd]
    rw [cpr_at k]
    by_cases e : i = 350 + 320 * q + k
    · rw [if_pos e, if_pos (by omega), e]
      congr 1
      omega
    · rw [if_neg e]
      by_cases c : 350 + 320 * q ≤ i ∧ i < 350 + 320 * q + k
      · rw [if_pos c, if_pos (by omega)]
      · rw [if_neg c, if_neg (by omega)]
theorem Rel.ord3 (h : Rel R X I J a b M) : Rel R X (ua (ua I (rc 9 X) (upd (I (rc 9 X)) 1 0)) (rc 1 X) (upd (upd (I (rc 1 X)) 2 v5) 3 v6)) J (upd (upd (upd a 4 0) 5 v5) 6 v6) b M := by
  have h1 := h.upG (i := 4) (c := rc 9 0) (s := 1) (C := rc 9 X) (v := 0) (by decide +kernel) (rcX 9 0 X) (fun s hs z => by rw [upd_ne (by omega)] at z; exact h.sea s hs z) (fun g hg => by rw [m_carr_upd hg (by decide) (by decide)]; exact h.asd g hg) (fun T hT T5 i hi => by
    rw [upd_eq, lit 0] at hT
    have := (nI_eq (by omega) (by omega)).mp hT
    omega) (fun p p1 p5 K hK => by rw [upd_ne (by omega)] at hK; exact h.ord p p1 p5 K hK)
  have h2 := h1.up (i := 5) (c := rc 1 0) (s := 2) (C := rc 1 X) (v := v5) (by decide +kernel) (rcX 1 0 X) (by decide)
  have h3 := h2.up (i := 6) (c := rc 1 0) (s := 3) (C := rc 1 X) (v := v6) (by decide +kernel) (rcX 1 0 X) (by decide)
  rw [ua_ua, ua_eq, ua_rc (by decide) (by decide) (by decide)] at h3
  exact h3
/-- the reference's rows behind orders that were read -/
def OrA (a D : Nat → Int32) (q L : Nat) : Nat → Int32 := upd (cpr a D q 320) (320 + 4 * q) (nI L)
theorem OrA_ne {i : Nat} (h1 : i ≠ 320 + 4 * q) (h2 : i < 350 + 320 * q ∨ 350 + 320 * q + 320 ≤ i) : OrA a D q L i = a i := by
  unfold OrA
  rw [upd_ne h1, cpr_at, if_neg (by omega)]
theorem OrA_D {k : Nat} (hq : q < 5) (hk : k < 320) : OrA a D q L (350 + 320 * q + k) = D k := by
  unfold OrA
  rw [upd_ne (by omega), cpr_at, if_pos (by omega)]
  congr 1
  omega
theorem OrA_L : OrA a D q L (320 + 4 * q) = nI L := upd_eq
theorem okcs_3 {c s : Nat} (h : okcs c s = true) (h3 : c % 64 = 3) : s = 0 := by
  unfold okcs at h
  simp only [Bool.and_eq_true, Bool.or_eq_true, beq_iff_eq, bne_iff_ne, decide_eq_true_eq] at h
  omega
theorem ol_of {l o : Nat} (hq : q < 5) (hl : l < 16) (k : KLo Z I4 o l) (li : LiK Z l) (lr : LRow Z D l) : OL I4 o (OrA a D q L) q l := by
  obtain ⟨k1, k2, k3, k4, k5⟩ := k
  obtain ⟨l1, l2, l3, l4, l5, l6⟩ := li
  obtain ⟨r1, r2, r3, r4, r5⟩ := lr
  have e : ∀ j, j < 20 → OrA a D q L (350 + 320 * q + 20 * l + j) = D (20 * l + j) := fun j hj => by rw [Nat.add_assoc]; exact OrA_D hq (by omega)
  have e0 := e 0 (by decide)
  rw [Nat.add_zero, Nat.add_zero] at e0
  rw [Nat.add_zero] at r1
  refine OL.mk ?_ ?_ ?_ ?_ ?_
  · rw [k1, e0, r1]
  · rw [k2, e 17 (by decide), r2]; exact nI_1 _
  · rw [k3, e 18 (by decide), r3]
  · rw [k4, e 19 (by decide), r4]
  · intro t T hT T4 ht
    rw [e0, r1] at hT
    have eT := (nI_eq (by omega) (by omega)).mp hT
    obtain ⟨a1, a2, a3⟩ := k5 t (by omega) (by omega)
    obtain ⟨b1, b2, b3⟩ := r5 t (by omega) (by omega)
    obtain ⟨c1, c2, c3, c4⟩ := l6 t (by omega) (by omega)
    have f1 := e (1 + 3 * t) (by omega)
    have f2 := e (2 + 3 * t) (by omega)
    have f3 := e (3 + 3 * t) (by omega)
    rw [← Nat.add_assoc] at f1 f2 f3
    refine ⟨Z (100 + 20 * l + 1 + 3 * t), c1, c2, a1, by rw [f1, b1], ?_, by rw [a3, f3, b3]⟩
    rw [f2, b2, a2]
    have : Z (100 + 20 * l + 2 + 3 * t) = 5 ∨ Z (100 + 20 * l + 2 + 3 * t) = 6 ∨ Z (100 + 20 * l + 2 + 3 * t) = 7 := by omega
    rcases this with z | z | z
    · rw [z]; exact Or.inl ⟨rfl, rfl⟩
    · rw [z]; exact Or.inr (Or.inl ⟨rfl, rfl⟩)
    · rw [z]; exact Or.inr (Or.inr ⟨rfl, rfl⟩)
theorem Rel.ordS (h : Rel R X I J a b M) (h4 : a 4 = 0) (q1 : 1 ≤ q) (q5 : q < 5) (f4 : ∀ c, c ≠ rc 3 (X + q) → (∀ r, 19 ≤ r → r ≤ 25 → c ≠ rc r (X + q)) → I4 c = I c) (e4 : I4 (rc 3 (X + q)) 0 = nI L) (hL : L ≤ 16) (hk : ∀ l, l < L → KLo Z I4 (X + q) l ∧ LiK Z l ∧ LRow Z D l) (hM : M ≤ 600) : Rel R X I4 J (OrA a D q L) b M := by
  have fr : ∀ r o, r < 64 → r ≠ 3 → (r < 19 ∨ 25 < r) → I4 (rc r o) = I (rc r o) := fun r o r1 r2 r3 => f4 _ (by unfold rc; omega) (fun r' _ _ => by unfold rc; omega)
  have lo : ∀ i, i < 340 → i ≠ 320 + 4 * q → OrA a D q L i = a i := fun i h1 h2 => OrA_ne h2 (by omega)
  have hi2 : ∀ i, 2000 ≤ i → OrA a D q L i = a i := fun i h1 => OrA_ne (by omega) (by omega)
  have hw : wn M = M := wn_id (by omega)
  have hp : pb M = M := pb_id (by omega)
  refine Rel.mk ?_ h.jb ?_ ?_ ?_ ?_ ?_ ?_ ?_
  · intro i c s hi
    by_cases e : i = 320 + 4 * q
    · subst e
      rw [mp_ord q q5] at hi
      cases hi
      rw [rcX, e4, OrA_L]
    · have ok := (mpI_iv hi).2
      obtain ⟨o1, o2, o3, o4, o5, o6, o7, o8⟩ := okcs_cases ok
      have hne : c ≠ rc 3 q := fun z => by
        have s0 := okcs_3 ok (by rw [z]; unfold rc; omega)
        subst s0
        subst z
        exact e (mpI_inj hi (mp_ord q q5))
      rw [f4 _ (by unfold rc at hne ⊢; omega) (fun r r1 r2 => by unfold rc; omega), lo i (mpI_lt hi) e]
      exact h.m1 i c s hi
  · intro p hp5
    rw [fr 5 _ (by decide) (by decide) (by decide)]
    exact h.num p hp5
  · intro s hs z
    rw [lo _ (by omega) (by omega)] at z
    rw [lo _ (by omega) (by omega), lo _ (by omega) (by omega), fr 7 _ (by decide) (by decide) (by decide)]
    exact h.sea s hs z
  · intro g hg
    have hc : m_carr (OrA a D q L) g = m_carr a g := by
      have : ∀ k, k ≤ 10 → m_rsum (OrA a D q L) g k = m_rsum a g k := by
        intro k
        induction k with
        | zero => intro _; rfl
        | succ k ih => intro hk; simp only [m_rsum]; rw [ih (by omega), lo _ (by omega) (by omega)]
      unfold m_carr
      rw [this 10 (by decide), lo 2 (by decide) (by omega)]
    rw [hc, fr 34 _ (by decide) (by decide) (by decide)]
    exact h.asd g hg
  · intro p i p1 p5 i13
    rw [fr 29 _ (by decide) (by decide) (by decide), hi2 _ (by omega)]
    exact h.pst p i p1 p5 i13
  · intro T hT T5 i hi
    rw [lo 4 (by decide) (by omega), h4, lit 0] at hT
    have := (nI_eq (by omega) (by omega)).mp hT
    omega
  · intro p p1 p5 L' hL' L16 l hl
    by_cases e : p = q
    · subst e
      rw [OrA_L] at hL'
      have := (nI_eq (by omega) (by omega)).mp hL'
      obtain ⟨w1, w2, w3⟩ := hk l (by omega)
      exact ol_of p5 (by omega) w1 w2 w3
    · rw [lo _ (by omega) (by omega)] at hL'
      refine (h.ord p p1 p5 L' hL' L16 l hl).cg (fun r r1 r2 => ?_) (fun k hk => ?_)
      · exact f4 _ (by unfold rc; omega) (fun r' _ _ => by unfold rc; omega)
      · refine OrA_ne (by omega) ?_
        rcases Nat.lt_or_gt_of_ne e with w | w
        · exact Or.inl (by omega)
        · exact Or.inr (by omega)
  · intro m hm
    refine ⟨(h.pag m hm).1, fun k hk => ?_⟩
    rw [fr 26 _ (by decide) (by decide) (by decide), hi2 _ (by omega)]
    exact (h.pag m hm).2 k hk
theorem Inv.ord3 (h : Inv a M n B) : Inv (upd (upd (upd a 4 0) 5 v5) 6 v6) M n B :=
  h.chT (fun i hi => by rw [upd_ne (by omega), upd_ne (by omega), upd_ne (by omega)]) ⟨0, by decide, by rw [upd_ne (by decide), upd_ne (by decide), upd_eq]; rfl⟩
theorem okW_whc {w : Nat} (h1 : w < 12) (h2 : w ≠ 8) : okW (whc w) := by
  have : w = 0 ∨ w = 1 ∨ w = 2 ∨ w = 3 ∨ w = 4 ∨ w = 5 ∨ w = 6 ∨ w = 7 ∨ w = 9 ∨ w = 10 ∨ w = 11 := by omega
  unfold okW
  rcases this with rfl | rfl | rfl | rfl | rfl | rfl | rfl | rfl | rfl | rfl | rfl <;> decide
theorem Inv.ordS (h : Inv a M n B) (q1 : 1 ≤ q) (q5 : q < 5) (hL : L ≤ 16) (hk : ∀ l, l < L → LiK Z l ∧ LRow Z D l) : Inv (OrA a D q L) M n B := by
  have lo : ∀ i, i < 340 → i ≠ 320 + 4 * q → OrA a D q L i = a i := fun i h1 h2 => OrA_ne h2 (by omega)
  have hi2 : ∀ i, 2000 ≤ i → OrA a D q L i = a i := fun i h1 => OrA_ne (by omega) (by omega)
  refine Inv.of (h.gA.cg (lo _ (by omega) (by omega)) (lo _ (by omega) (by omega)) (lo _ (by omega) (by omega))) (h.gQ.cg (fun i _ _ => lo _ (by omega) (by omega))) (h.gD.cg (lo _ (by omega) (by omega)) (lo _ (by omega) (by omega)) (fun i _ _ => lo _ (by omega) (by omega))) (h.gS.cg h.s4 (fun i _ _ => lo _ (by omega) (by omega))) (h.gL.cg (fun i _ _ => hi2 _ (by omega))) (fun p hp => ?_) h.bb
  by_cases e : p = q
  · subst e
    refine ⟨L, hL, OrA_L, fun k hk' => ?_⟩
    obtain ⟨⟨l1, l2, l3, l4, l5, l6⟩, r1, r2, r3, r4, r5⟩ := hk k hk'
    have e : ∀ j, j < 20 → OrA a D p L (350 + 320 * p + 20 * k + j) = D (20 * k + j) := fun j hj => by rw [Nat.add_assoc]; exact OrA_D q5 (by omega)
    have e0 := e 0 (by decide)
    rw [Nat.add_zero, Nat.add_zero] at e0
    rw [Nat.add_zero] at r1
    refine ⟨⟨Z (100 + 20 * k), l1, by rw [e0, r1], fun t ht => ?_⟩, Z (100 + 20 * k + 17) + 1, Z (100 + 20 * k + 18), Z (100 + 20 * k + 19), by rw [e 17 (by decide), r2], by rw [e 18 (by decide), r3], by rw [e 19 (by decide), r4], ⟨by omega, by omega⟩, l3, fun z => l4 (by omega), l5⟩
    obtain ⟨c1, c2, c3, c4⟩ := l6 t (by omega) ht
    obtain ⟨b1, b2, b3⟩ := r5 t (by omega) ht
    have f1 := e (1 + 3 * t) (by omega)
    rw [← Nat.add_assoc] at f1
    exact ⟨_, okW_whc c1 c2, by rw [f1, b1]⟩
  · obtain ⟨L', h1, h2, h3⟩ := h.od p hp
    have ol : ∀ k j, k < 16 → j < 20 → OrA a D q L (350 + 320 * p + 20 * k + j) = a (350 + 320 * p + 20 * k + j) := fun k j hk hj => by
      refine OrA_ne (by omega) ?_
      rcases Nat.lt_or_gt_of_ne e with w | w
      · exact Or.inl (by omega)
      · exact Or.inr (by omega)
    refine ⟨L', h1, (lo _ (by omega) (by omega)).trans h2, fun k hk' => ?_⟩
    obtain ⟨⟨T, t1, t2, t3⟩, c, g, N, m1, m2, m3, m4⟩ := h3 k hk'
    have e0 := ol k 0 (by omega) (by decide)
    rw [Nat.add_zero] at e0
    refine ⟨⟨T, t1, e0.trans t2, fun t ht => ?_⟩, c, g, N, (ol k 17 (by omega) (by decide)).trans m1, (ol k 18 (by omega) (by decide)).trans m2, (ol k 19 (by omega) (by decide)).trans m3, m4⟩
    obtain ⟨w, w1, w2⟩ := t3 t ht
    have f1 := ol k (1 + 3 * t) (by omega) (by omega)
    rw [← Nat.add_assoc] at f1
    exact ⟨w, w1, f1.trans w2⟩
/-- one tape for both -/
theorem tapes {T : Nat} (h : Rel R 0 I J a b M) (h4 : a 4 = nI T) (hT : T ≤ 500) : ∃ g : Nat → Nat, MTp g T a ∧ CTp g T (I (rc 13 0)) := by
  have key : ∀ i, i < T → a (17100 + i) = nI (a (17100 + i)).toInt.toNat ∧ (a (17100 + i)).toInt.toNat < 256 := fun i hi => by
    obtain ⟨b1, b2, b3⟩ := h.tap T h4 hT i hi
    have : 0 ≤ (a (17100 + i)).toInt ∧ (a (17100 + i)).toInt < 256 := by
      rw [b3]
      split <;> omega
    exact ⟨nI_of_int this.1, by omega⟩
  refine ⟨fun i => (a (17100 + i)).toInt.toNat, ⟨hT, fun i hi => key i hi⟩, hT, fun i hi => ⟨?_, (key i hi).2⟩⟩
  rw [← (key i hi).1]
  exact h.tap T h4 hT i hi
end DJ

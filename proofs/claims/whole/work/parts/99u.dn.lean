/-! between the law's calls -/
section DN
variable {E E' : Nat → Prop} {R R' : Nat → Nat → Value} {I I' : Nat → Nat → Int32} {J J' : Nat → Nat → Int64} {a b a2 b2 L M n : Nat} {xs : Nat → Int32} {al : Nat → Int32} {su : Nat → Int64}
/-- the script -/
abbrev SCr (L : Nat) : Nat := rc 63 (100000 + L)
theorem kd_SC : kd (rc 63 (100000 + L)) = 22 := kd_rc (by decide) (by decide)
theorem ln_SC : ln (rc 63 (100000 + L)) = L := by
  unfold ln rc
  rw [show (63 + 64 * (100000 + L)) % 64 = 63 by omega, if_pos rfl]
  omega
def pk (R : Nat → Nat → Value) (k : Nat) : Nat := match R (rc 35 900) k with
  | .ref _ => ps R (100 * (k + 1)) 10
  | _ => 61
def pot (R : Nat → Nat → Value) : Nat := ps R 0 10 + pk R 0 + pk R 1 + pk R 2
/-- an image: not there in both, or there in both -/
def IM (E : Nat → Prop) (R : Nat → Nat → Value) (I : Nat → Nat → Int32) (J : Nat → Nat → Int64) (k : Nat) : Prop :=
  (R (rc 35 900) k = .null ∧ I HA k = 0 ∧ ∀ c, InX (100 * (k + 1)) c → ¬ E c) ∨
  (R (rc 35 900) k = .ref (rc 1 (100 * (k + 1))) ∧ I HA k = 1 ∧ CoR (100 * (k + 1)) R ∧ PgF (100 * (k + 1)) R E ∧ ∃ M n, Rel R (100 * (k + 1)) I J (imA k (I AL)) (imB k (J SU)) M ∧ Inv (imA k (I AL)) M n (fun _ => M))
def LI (L : Nat) (xs : Nat → Int32) (E : Nat → Prop) (R : Nat → Nat → Value) (I : Nat → Nat → Int32) (J : Nat → Nat → Int64) (a : Nat) (b : Nat) : Prop :=
  (MoR R) ∧
  (VcR 0 R) ∧
  (CoR 0 R) ∧
  (R RE 3 = .ref TK) ∧
  (R RE 0 = .ref (rc 3 900)) ∧
  (OrR R 900) ∧
  (∃ M n, Rel R 0 I J (I AL) (J SU) M ∧ Inv (I AL) M n (fun _ => M)) ∧
  (PgF 0 R E) ∧
  (∀ k, k < 3 → IM E R I J k) ∧
  (∀ i, i < L → I (SCr L) i = xs i) ∧
  (a + 2 * pot R ≤ 1000) ∧
  (b + 1201 * pot R ≤ 500000)
theorem LI.mo {L : Nat} {xs : Nat → Int32} {E : Nat → Prop} {R : Nat → Nat → Value} {I : Nat → Nat → Int32} {J : Nat → Nat → Int64} {a : Nat} {b : Nat} (h : LI L xs E R I J a b) : MoR R := h.1
theorem LI.vc {L : Nat} {xs : Nat → Int32} {E : Nat → Prop} {R : Nat → Nat → Value} {I : Nat → Nat → Int32} {J : Nat → Nat → Int64} {a : Nat} {b : Nat} (h : LI L xs E R I J a b) : VcR 0 R := h.2.1
theorem LI.co {L : Nat} {xs : Nat → Int32} {E : Nat → Prop} {R : Nat → Nat → Value} {I : Nat → Nat → Int32} {J : Nat → Nat → Int64} {a : Nat} {b : Nat} (h : LI L xs E R I J a b) : CoR 0 R := h.2.2.1
theorem LI.r3 {L : Nat} {xs : Nat → Int32} {E : Nat → Prop} {R : Nat → Nat → Value} {I : Nat → Nat → Int32} {J : Nat → Nat → Int64} {a : Nat} {b : Nat} (h : LI L xs E R I J a b) : R RE 3 = .ref TK := h.2.2.2.1
theorem LI.r0 {L : Nat} {xs : Nat → Int32} {E : Nat → Prop} {R : Nat → Nat → Value} {I : Nat → Nat → Int32} {J : Nat → Nat → Int64} {a : Nat} {b : Nat} (h : LI L xs E R I J a b) : R RE 0 = .ref (rc 3 900) := h.2.2.2.2.1
theorem LI.o9 {L : Nat} {xs : Nat → Int32} {E : Nat → Prop} {R : Nat → Nat → Value} {I : Nat → Nat → Int32} {J : Nat → Nat → Int64} {a : Nat} {b : Nat} (h : LI L xs E R I J a b) : OrR R 900 := h.2.2.2.2.2.1
theorem LI.rel {L : Nat} {xs : Nat → Int32} {E : Nat → Prop} {R : Nat → Nat → Value} {I : Nat → Nat → Int32} {J : Nat → Nat → Int64} {a : Nat} {b : Nat} (h : LI L xs E R I J a b) : ∃ M n, Rel R 0 I J (I AL) (J SU) M ∧ Inv (I AL) M n (fun _ => M) := h.2.2.2.2.2.2.1
theorem LI.pg {L : Nat} {xs : Nat → Int32} {E : Nat → Prop} {R : Nat → Nat → Value} {I : Nat → Nat → Int32} {J : Nat → Nat → Int64} {a : Nat} {b : Nat} (h : LI L xs E R I J a b) : PgF 0 R E := h.2.2.2.2.2.2.2.1
theorem LI.im {L : Nat} {xs : Nat → Int32} {E : Nat → Prop} {R : Nat → Nat → Value} {I : Nat → Nat → Int32} {J : Nat → Nat → Int64} {a : Nat} {b : Nat} (h : LI L xs E R I J a b) : ∀ k, k < 3 → IM E R I J k := h.2.2.2.2.2.2.2.2.1
theorem LI.sc {L : Nat} {xs : Nat → Int32} {E : Nat → Prop} {R : Nat → Nat → Value} {I : Nat → Nat → Int32} {J : Nat → Nat → Int64} {a : Nat} {b : Nat} (h : LI L xs E R I J a b) : ∀ i, i < L → I (SCr L) i = xs i := h.2.2.2.2.2.2.2.2.2.1
theorem LI.ca {L : Nat} {xs : Nat → Int32} {E : Nat → Prop} {R : Nat → Nat → Value} {I : Nat → Nat → Int32} {J : Nat → Nat → Int64} {a : Nat} {b : Nat} (h : LI L xs E R I J a b) : a + 2 * pot R ≤ 1000 := h.2.2.2.2.2.2.2.2.2.2.1
theorem LI.cb {L : Nat} {xs : Nat → Int32} {E : Nat → Prop} {R : Nat → Nat → Value} {I : Nat → Nat → Int32} {J : Nat → Nat → Int64} {a : Nat} {b : Nat} (h : LI L xs E R I J a b) : b + 1201 * pot R ≤ 500000 := h.2.2.2.2.2.2.2.2.2.2.2
theorem LI.mk {L : Nat} {xs : Nat → Int32} {E : Nat → Prop} {R : Nat → Nat → Value} {I : Nat → Nat → Int32} {J : Nat → Nat → Int64} {a : Nat} {b : Nat} (h0 : MoR R) (h1 : VcR 0 R) (h2 : CoR 0 R) (h3 : R RE 3 = .ref TK) (h4 : R RE 0 = .ref (rc 3 900)) (h5 : OrR R 900) (h6 : ∃ M n, Rel R 0 I J (I AL) (J SU) M ∧ Inv (I AL) M n (fun _ => M)) (h7 : PgF 0 R E) (h8 : ∀ k, k < 3 → IM E R I J k) (h9 : ∀ i, i < L → I (SCr L) i = xs i) (h10 : a + 2 * pot R ≤ 1000) (h11 : b + 1201 * pot R ≤ 500000) : LI L xs E R I J a b := ⟨h0, h1, h2, h3, h4, h5, h6, h7, h8, h9, h10, h11⟩
theorem ps_fr {X : Nat} (h : R' (rc 18 X) = R (rc 18 X)) : ∀ m, ps R' X m = ps R X m
  | 0 => rfl
  | m + 1 => by simp only [ps]; rw [ps_fr h m, h]
theorem pk_fr {k : Nat} (h : R' (rc 35 900) k = R (rc 35 900) k) (h2 : R' (rc 18 (100 * (k + 1))) = R (rc 18 (100 * (k + 1)))) : pk R' k = pk R k := by
  unfold pk
  rw [h, ps_fr h2]
theorem IM.fr {k : Nat} (hk : k < 3) (h : IM E R I J k) (hR : ∀ c, 6400 ≤ c → c ≠ TK → R' c = R c) (hE : ∀ c, 6400 ≤ c → c < 57600 → E' c → E c) (hI : ∀ c, 6400 ≤ c → c < 57600 → I' c = I c) (hJ : ∀ c, 6400 ≤ c → c < 57600 → J' c = J c) (hH : I' HA = I HA) (g1 : Hi (I AL) (I' AL)) (g2 : HiB (J SU) (J' SU)) : IM E' R' I' J' k := by
  have e35 : R' (rc 35 900) = R (rc 35 900) := hR _ (by decide) (by decide)
  have i1 : ∀ c, InX (100 * (k + 1)) c → 6400 ≤ c ∧ c < 57600 := fun c hc => by unfold InX at hc; omega
  have i2 : ∀ c, InX (100 * (k + 1)) c → c ≠ TK := fun c hc => by have := i1 c hc; unfold TK rc; omega
  rcases h with ⟨h1, h2, h3⟩ | ⟨h1, h2, h3, h4, M, n, h5, h6⟩
  · exact Or.inl ⟨by rw [e35]; exact h1, by rw [hH]; exact h2, fun c hc z => h3 c hc (hE c (i1 c hc).1 (i1 c hc).2 z)⟩
  · refine Or.inr ⟨by rw [e35]; exact h1, by rw [hH]; exact h2, h3.fr (fun c hc => hR c (i1 c hc).1 (i2 c hc)), h4.fr (fun c hc => hR c (i1 c hc).1 (i2 c hc)) (fun c hc z => hE c (i1 c hc).1 (i1 c hc).2 z), M, n, ?_, ?_⟩
    · rw [imA_hi g1, imB_hi g2]
      exact h5.fr h6.m6 (fun c hc => hR c (i1 c hc).1 (i2 c hc)) (fun c hc => hI c (i1 c hc).1 (i1 c hc).2) (fun c hc => hJ c (i1 c hc).1 (i1 c hc).2)
    · rw [imA_hi g1]
      exact h6
/-- a step that leaves the images as they are -/
theorem LI.c0 (h : LI L xs E R I J a b) (hR : ∀ c, 6400 ≤ c → c ≠ TK → R' c = R c) (hE : ∀ c, 6400 ≤ c → c < 57600 → E' c → E c) (hI : ∀ c, 6400 ≤ c → c < 57600 → I' c = I c) (hJ : ∀ c, 6400 ≤ c → c < 57600 → J' c = J c) (hH : I' HA = I HA) (hS : I' (SCr L) = I (SCr L)) (g1 : Hi (I AL) (I' AL)) (g2 : HiB (J SU) (J' SU))
    (hco : CoR 0 R') (hpg : PgF 0 R' E') (hrel : ∃ M n, Rel R' 0 I' J' (I' AL) (J' SU) M ∧ Inv (I' AL) M n (fun _ => M)) (ca : a2 + 2 * ps R' 0 10 ≤ a + 2 * ps R 0 10) (cb : b2 + 1201 * ps R' 0 10 ≤ b + 1201 * ps R 0 10) : LI L xs E' R' I' J' a2 b2 := by
  have e35 : R' (rc 35 900) = R (rc 35 900) := hR _ (by decide) (by decide)
  have eM : R' MO = R MO := hR _ (by decide) (by decide)
  have eV : R' VC = R VC := hR _ (by decide) (by decide)
  have eR : R' RE = R RE := hR _ (by decide) (by decide)
  have e3 : R' (rc 3 900) = R (rc 3 900) := hR _ (by decide) (by decide)
  have p0 : pk R' 0 = pk R 0 := pk_fr (by rw [e35]) (hR _ (by decide) (by decide))
  have p1 : pk R' 1 = pk R 1 := pk_fr (by rw [e35]) (hR _ (by decide) (by decide))
  have p2 : pk R' 2 = pk R 2 := pk_fr (by rw [e35]) (hR _ (by decide) (by decide))
  have qa := h.ca
  have qb := h.cb
  unfold pot at qa qb
  refine LI.mk ?_ ?_ hco ?_ ?_ ?_ hrel hpg (fun k hk => (h.im k hk).fr hk hR hE hI hJ hH g1 g2) (fun i hi => by rw [hS]; exact h.sc i hi) ?_ ?_
  · unfold MoR; rw [eM]; exact h.mo
  · unfold VcR; rw [eV]; exact h.vc
  · rw [eR]; exact h.r3
  · rw [eR]; exact h.r0
  · unfold OrR; rw [e3]; exact h.o9
  · unfold pot; rw [p0, p1, p2]; omega
  · unfold pot; rw [p0, p1, p2]; omega
/-- a plain step -/
theorem LI.pl (h : LI L xs E R I J a b) (f1 : FrX 0 I I') (f2 : FrX 0 J J') (hr : Rel R 0 I' J' al su M) (hi : Inv al M n (fun _ => M)) (g1 : Hi (I AL) al) (g2 : HiB (J SU) su) : LI L xs E R (ua I' AL al) (ua J' SU su) a b := by
  have u1 : ∀ c, 6400 ≤ c → I' c = I c := fun c hc => f1 c (Or.inr (by omega))
  have u2 : ∀ c, 6400 ≤ c → J' c = J c := fun c hc => f2 c (Or.inr (by omega))
  refine h.c0 (fun _ _ _ => rfl) (fun _ _ _ z => z) (fun c h1 h2 => ?_) (fun c h1 h2 => ?_) ?_ ?_ ?_ ?_ h.co h.pg ⟨M, n, ?_, ?_⟩ (Nat.le_refl _) (Nat.le_refl _)
  · rw [ua_ne (by unfold AL rc; omega)]; exact u1 c h1
  · rw [ua_ne (by unfold SU rc; omega)]; exact u2 c h1
  · rw [ua_ne (by decide)]; exact u1 _ (by decide)
  · rw [ua_ne (by unfold AL SCr rc; omega)]; exact u1 _ (by unfold SCr rc; omega)
  · rw [ua_eq]; exact g1
  · rw [ua_eq]; exact g2
  · rw [ua_eq, ua_eq]
    exact hr.fr hi.m6 (fun _ _ => rfl) (fun c hc => ua_ne (by unfold InX at hc; unfold AL rc; omega)) (fun c hc => ua_ne (by unfold InX at hc; unfold SU rc; omega))
  · rw [ua_eq]; exact hi
/-- a plain step that leaves the books as they are -/
theorem LI.pl' (h : LI L xs E R I J a b) (f1 : FrX 0 I I') (hr : Rel R 0 I' J al (J SU) M) (hi : Inv al M n (fun _ => M)) (g1 : Hi (I AL) al) : LI L xs E R (ua I' AL al) J a b := by
  have := h.pl f1 FrX.refl hr hi g1 HiB.refl
  rw [ua_self] at this
  exact this
end DN

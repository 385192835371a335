/-! the reference reads a test -/
section MS1
variable {d : Nat} {K : Ps} {E : Nat → Prop} {R : Nat → Nat → Value} {I : Nat → Nat → Int32} {J : Nat → Nat → Int64} {g : Nat → Nat} {T : Nat} {F A A0 D : Nat → Int32} {p c v w : Nat} {s : Nat → Nat}
theorem stp0 (h : s 0 = 0) : stp s c v w = (if c = 8 then un (t0 s w) 0 1 else tac (t0 s w) c) := by
  unfold stp
  rw [if_pos h]
theorem stp1 (h : s 0 = 1) : stp s c v w = (if 10 ≤ c ∧ c ≤ 13 then un (un (t1 s w) 3 (c - 10)) 0 3 else if c = 14 then un (t1 s w) 0 2 else if 15 ≤ c ∧ c ≤ 18 then un (un (t1 s w) 3 (4 + c - 15)) 0 3 else un (t1 s w) 0 10) := by
  unfold stp
  rw [if_neg (by omega), if_pos h]
theorem stp2 (h : s 0 = 2) : stp s c v w = (if 16 ≤ c ∧ c ≤ 18 then un (un s 3 (8 + c - 15)) 0 3 else un s 0 10) := by
  unfold stp
  rw [if_neg (by omega), if_neg (by omega), if_pos h]
theorem stp3 (h : s 0 = 3) : stp s c v w = un (un s 4 c) 0 (if 5 ≤ c ∧ c ≤ 7 then 4 else 10) := by
  unfold stp
  rw [if_neg (by omega), if_neg (by omega), if_neg (by omega), if_pos h]
theorem stp4 (h : s 0 = 4) : stp s c v w = (if c = 2 then un (un (pte s v) 2 (s 2 + 1)) 0 5 else un s 0 10) := by
  unfold stp
  rw [if_neg (by omega), if_neg (by omega), if_neg (by omega), if_neg (by omega), if_pos h]
theorem stp5 (h : s 0 = 5) : stp s c v w = un s 0 (if c = 9 then 1 else if c = 3 then 6 else 10) := by
  unfold stp
  rw [if_neg (by omega), if_neg (by omega), if_neg (by omega), if_neg (by omega), if_neg (by omega), if_pos h]
theorem stp6 (h : s 0 = 6) : stp s c v w = tac s c := by
  unfold stp
  rw [if_neg (by omega), if_neg (by omega), if_neg (by omega), if_neg (by omega), if_neg (by omega), if_neg (by omega), if_pos h]
theorem stp7 (h : s 0 = 7) : stp s c v w = (if 16 ≤ c ∧ c ≤ 18 then un (un s 6 (c - 15)) 0 8 else un s 0 10) := by
  unfold stp
  rw [if_neg (by omega), if_neg (by omega), if_neg (by omega), if_neg (by omega), if_neg (by omega), if_neg (by omega), if_neg (by omega), if_pos h]
theorem stp8 (h : s 0 = 8) : stp s c v w = (if c = 2 then un (t8 s v w) 0 9 else un s 0 10) := by
  unfold stp
  rw [if_neg (by omega), if_neg (by omega), if_neg (by omega), if_neg (by omega), if_neg (by omega), if_neg (by omega), if_neg (by omega), if_neg (by omega), if_pos h]
theorem stp9 (h : s 0 = 9) : stp s c v w = (if c = 4 then un (pli s) 0 0 else un s 0 10) := by
  unfold stp
  rw [if_neg (by omega), if_neg (by omega), if_neg (by omega), if_neg (by omega), if_neg (by omega), if_neg (by omega), if_neg (by omega), if_neg (by omega), if_neg (by omega), if_pos h]
def plc (s : Nat → Nat) : Int32 := if s 8 = 0 then -1 else nI (s 9)
/-- faults so far -/
def AS (A0 : Nat → Int32) (s : Nat → Nat) : Nat → Int32 := upd (upd A0 5 (nI (s 8))) 6 (plc s)
def TRow (s : Nat → Nat) (D : Nat → Int32) (l t : Nat) : Prop := D (20 * l + (1 + 3 * t)) = nI (whc (s (100 + 20 * l + 1 + 3 * t))) ∧ D (20 * l + (2 + 3 * t)) = nI (sgn (s (100 + 20 * l + 2 + 3 * t))) ∧ D (20 * l + (3 + 3 * t)) = nI (s (100 + 20 * l + 3 + 3 * t))
def LRow (s : Nat → Nat) (D : Nat → Int32) (l : Nat) : Prop := D (20 * l + 0) = nI (s (100 + 20 * l)) ∧ D (20 * l + 17) = nI (s (100 + 20 * l + 17) + 1) ∧ D (20 * l + 18) = nI (s (100 + 20 * l + 18)) ∧ D (20 * l + 19) = nI (s (100 + 20 * l + 19)) ∧ ∀ t, t < 4 → t < s (100 + 20 * l) → TRow s D l t
/-- lines read, and the tests of the line at hand -/
def MTab (s : Nat → Nat) (D : Nat → Int32) : Prop := s 8 = 0 → (∀ l, l < s 10 → LRow s D l) ∧ ∀ t, t < s 2 → t < 4 → s 1 - 1 < 16 → TRow s D (s 1 - 1) t
def MOk (g : Nat → Nat) (T : Nat) (A0 : Nat → Int32) (ln : Nat) (s : Nat → Nat) (p : Nat) (F : Nat → Int32) (A : Nat → Int32) (D : Nat → Int32) : Prop :=
  (AtT g T p F) ∧
  (F 10 = 0) ∧
  (F 11 = nI ln) ∧
  (A = AS A0 s) ∧
  (MTab s D) ∧
  (s 8 < 10) ∧
  (s 9 ≤ 500) ∧
  (s 8 = 0 → s 10 = ln)
theorem MOk.tk {g : Nat → Nat} {T : Nat} {A0 : Nat → Int32} {ln : Nat} {s : Nat → Nat} {p : Nat} {F : Nat → Int32} {A : Nat → Int32} {D : Nat → Int32} (h : MOk g T A0 ln s p F A D) : AtT g T p F := h.1
theorem MOk.f10 {g : Nat → Nat} {T : Nat} {A0 : Nat → Int32} {ln : Nat} {s : Nat → Nat} {p : Nat} {F : Nat → Int32} {A : Nat → Int32} {D : Nat → Int32} (h : MOk g T A0 ln s p F A D) : F 10 = 0 := h.2.1
theorem MOk.f11 {g : Nat → Nat} {T : Nat} {A0 : Nat → Int32} {ln : Nat} {s : Nat → Nat} {p : Nat} {F : Nat → Int32} {A : Nat → Int32} {D : Nat → Int32} (h : MOk g T A0 ln s p F A D) : F 11 = nI ln := h.2.2.1
theorem MOk.a {g : Nat → Nat} {T : Nat} {A0 : Nat → Int32} {ln : Nat} {s : Nat → Nat} {p : Nat} {F : Nat → Int32} {A : Nat → Int32} {D : Nat → Int32} (h : MOk g T A0 ln s p F A D) : A = AS A0 s := h.2.2.2.1
theorem MOk.tb {g : Nat → Nat} {T : Nat} {A0 : Nat → Int32} {ln : Nat} {s : Nat → Nat} {p : Nat} {F : Nat → Int32} {A : Nat → Int32} {D : Nat → Int32} (h : MOk g T A0 ln s p F A D) : MTab s D := h.2.2.2.2.1
theorem MOk.w8 {g : Nat → Nat} {T : Nat} {A0 : Nat → Int32} {ln : Nat} {s : Nat → Nat} {p : Nat} {F : Nat → Int32} {A : Nat → Int32} {D : Nat → Int32} (h : MOk g T A0 ln s p F A D) : s 8 < 10 := h.2.2.2.2.2.1
theorem MOk.w9 {g : Nat → Nat} {T : Nat} {A0 : Nat → Int32} {ln : Nat} {s : Nat → Nat} {p : Nat} {F : Nat → Int32} {A : Nat → Int32} {D : Nat → Int32} (h : MOk g T A0 ln s p F A D) : s 9 ≤ 500 := h.2.2.2.2.2.2.1
theorem MOk.l10 {g : Nat → Nat} {T : Nat} {A0 : Nat → Int32} {ln : Nat} {s : Nat → Nat} {p : Nat} {F : Nat → Int32} {A : Nat → Int32} {D : Nat → Int32} (h : MOk g T A0 ln s p F A D) : s 8 = 0 → s 10 = ln := h.2.2.2.2.2.2.2
theorem MOk.mk {g : Nat → Nat} {T : Nat} {A0 : Nat → Int32} {ln : Nat} {s : Nat → Nat} {p : Nat} {F : Nat → Int32} {A : Nat → Int32} {D : Nat → Int32} (h0 : AtT g T p F) (h1 : F 10 = 0) (h2 : F 11 = nI ln) (h3 : A = AS A0 s) (h4 : MTab s D) (h5 : s 8 < 10) (h6 : s 9 ≤ 500) (h7 : s 8 = 0 → s 10 = ln) : MOk g T A0 ln s p F A D := ⟨h0, h1, h2, h3, h4, h5, h6, h7⟩
/-- the text is wrong at x -/
def MWr (A0 : Nat → Int32) (ln x : Nat) (F A : Nat → Int32) : Prop := F 10 = 1 ∧ F 11 = nI ln ∧ A = upd (upd A0 5 1) 6 (nI x)
def RW (g : Nat → Nat) (T : Nat) (s : Nat → Nat) (p x : Nat) : Prop := res g T s p 8 = 1 ∧ res g T s p 9 = x
theorem MTp.as (h : MTp g T A0) : MTp g T (AS A0 s) := by
  refine ⟨h.1, fun i hi => ?_⟩
  unfold AS
  rw [upd_ne (by omega), upd_ne (by omega)]
  exact h.2 i hi
theorem AS_5 : AS A0 s 5 = nI (s 8) := by unfold AS; rw [upd_ne (by decide), upd_eq]
theorem AS_stop {x : Nat} : upd (upd (AS A0 s) 5 1) 6 (nI x) = upd (upd A0 5 1) 6 (nI x) := by
  unfold AS
  funext i
  simp only [upd]
  repeat' split
  all_goals first | rfl | omega
theorem AS_mrk {k x : Nat} (hk : k ≠ 0) (h8 : s 8 = 0) : upd (upd (AS A0 s) 5 (nI k)) 6 (nI x) = AS A0 (mrk s k x) := by
  unfold mrk
  rw [if_pos h8]
  unfold AS plc
  rw [un_ne (show 8 ≠ 9 by decide), un_eq, un_eq, if_neg hk]
  funext i
  simp only [upd]
  repeat' split
  all_goals first | rfl | omega
theorem AS_un {k x : Nat} (h8 : k ≠ 8) (h9 : k ≠ 9) : AS A0 (un s k x) = AS A0 s := by
  unfold AS plc
  rw [un_ne (Ne.symm h8), un_ne (Ne.symm h9)]
theorem mrk_id {k x : Nat} (h : s 8 ≠ 0) : mrk s k x = s := by unfold mrk; rw [if_neg h]
theorem mrk_ne {k x i : Nat} (h8 : i ≠ 8) (h9 : i ≠ 9) : mrk s k x i = s i := by
  unfold mrk
  split
  · rw [un_ne h9, un_ne h8]
  · rfl
theorem mrk_8 {k x : Nat} (hk : k ≠ 0) : mrk s k x 8 ≠ 0 := by
  unfold mrk
  split
  · rw [un_ne (by decide), un_eq]; exact hk
  · assumption
theorem mrk_b {k x : Nat} (hk : k < 10) (hx : x ≤ 500) (h8 : s 8 < 10) (h9 : s 9 ≤ 500) : mrk s k x 8 < 10 ∧ mrk s k x 9 ≤ 500 := by
  unfold mrk
  split
  · rw [un_ne (show 8 ≠ 9 by decide), un_eq, un_eq]; exact ⟨hk, hx⟩
  · exact ⟨h8, h9⟩
theorem MTab.mrkd {k x : Nat} (hk : k ≠ 0) : MTab (mrk s k x) D := fun z => absurd z (mrk_8 hk)
/-- registers beside the table and what counts of it -/
theorem MTab.unr {k x : Nat} (h : MTab s D) (h1 : k ≠ 1) (h2 : k ≠ 2) (h8 : k ≠ 8) (h10 : k ≠ 10) (h100 : k < 100) : MTab (un s k x) D := by
  intro z
  rw [un_ne (Ne.symm h8)] at z
  obtain ⟨q1, q2⟩ := h z
  have e : ∀ i, 100 ≤ i → un s k x i = s i := fun i hi => un_ne (by omega)
  refine ⟨fun l hl => ?_, fun t ht t4 hl => ?_⟩
  · rw [un_ne (Ne.symm h10)] at hl
    obtain ⟨a1, a2, a3, a4, a5⟩ := q1 l hl
    refine ⟨?_, ?_, ?_, ?_, fun t t4 ht => ?_⟩
    · rw [e _ (by omega)]; exact a1
    · rw [e _ (by omega)]; exact a2
    · rw [e _ (by omega)]; exact a3
    · rw [e _ (by omega)]; exact a4
    · rw [e _ (by omega)] at ht
      unfold TRow
      rw [e _ (by omega), e _ (by omega), e _ (by omega)]
      exact a5 t t4 ht
  · rw [un_ne (Ne.symm h2)] at ht
    rw [un_ne (Ne.symm h1)] at hl ⊢
    unfold TRow
    rw [e _ (by omega), e _ (by omega), e _ (by omega)]
    exact q2 t ht t4 hl
/-- a fault is told, where s' is s marked -/
theorem sp_Mo_tells_m {k x : Nat} (hR : MoR R) (hk : k ≠ 0) (hk3 : k < 10) (h10 : F 10 = 0) (h8 : s 8 < 10) (h : K none E R (St I F (AS A0 (mrk s k x)) D) J) : CL yMo_tells cMo_tells 3 none (d + 1) 0 0 [.ref MO, .int (nI k), .int (nI x)] E R (St I F (AS A0 s) D) J K := by
  by_cases c : s 8 = 0
  · refine sp_Mo_tells_0 hR h10 (by rw [AS_5, c]; rfl) ?_
    rw [AS_mrk hk c]
    exact h
  · refine sp_Mo_tells_1 hR (Or.inr ⟨h10, ?_⟩) ?_
    · rw [AS_5, lit 0]
      intro z
      exact c ((nI_eq (by omega) (by omega)).mp z)
    · rw [mrk_id c] at h
      exact h
end MS1

/-! a tape's tokens -/
section LX
variable {g : Nat → Nat} {T : Nat}
def rn (P : Nat → Bool) : Nat → Nat → Nat
  | 0, i => i
  | n + 1, i => if P i then rn P n (i + 1) else i
theorem rn_ge {P : Nat → Bool} : ∀ n i, i ≤ rn P n i
  | 0, i => Nat.le_refl _
  | n + 1, i => by
    unfold rn
    split
    · have := rn_ge (P := P) n (i + 1); omega
    · exact Nat.le_refl _
theorem rn_le {P : Nat → Bool} : ∀ n i, rn P n i ≤ i + n
  | 0, i => Nat.le_refl _
  | n + 1, i => by
    unfold rn
    split
    · have := rn_le (P := P) n (i + 1); omega
    · omega
theorem rn_in {P : Nat → Bool} {j : Nat} : ∀ n i, i ≤ j → j < rn P n i → P j = true
  | 0, i, h1, h2 => by unfold rn at h2; omega
  | n + 1, i, h1, h2 => by
    unfold rn at h2
    split at h2
    next z =>
      by_cases e : j = i
      · subst e; exact z
      · exact rn_in n (i + 1) (by omega) h2
    next => omega
def isBl (c : Nat) : Bool := c == 10 || c == 32
def isLt (c : Nat) : Bool := decide (97 ≤ c) && decide (c ≤ 122)
def isDg (c : Nat) : Bool := decide (48 ≤ c) && decide (c ≤ 57)
/-- where the token begins that comes behind p -/
def atp (g : Nat → Nat) (T p : Nat) : Nat := rn (fun i => isBl (g i)) (T - p) p
def enL (g : Nat → Nat) (T w : Nat) : Nat := rn (fun i => isLt (g i)) (T - w) w
def enD (g : Nat → Nat) (T w : Nat) : Nat := rn (fun i => isDg (g i)) (T - w) w
def wl (g : Nat → Nat) (w n : Nat) : List Nat := (List.range n).map (fun j => g (w + j))
def vd (g : Nat → Nat) (w : Nat) : Nat → Nat
  | 0 => 0
  | n + 1 => vd g w n * 10 + (g (w + n) - 48)
/-- the class's code of a word -/
def cw (D : List Nat) : Nat :=
  if D = [105, 102] then 8 else if D = [97, 110, 100] then 9 else if D = [109, 111, 110, 116, 104] then 10 else if D = [108, 101, 116, 116, 101, 114] then 11 else if D = [115, 104, 105, 112, 115] then 12 else if D = [114, 111, 111, 109] then 13 else if D = [112, 114, 105, 99, 101] then 14 else if D = [99, 111, 105, 110] then 15 else if D = [112, 101, 112, 112, 101, 114] then 16 else if D = [99, 108, 111, 116, 104] then 17 else if D = [115, 105, 108, 107] then 18 else if D = [98, 117, 121] then 19 else if D = [115, 101, 108, 108] then 20 else if D = [108, 111, 97, 100] then 21 else if D = [112, 97, 121] then 22 else if D = [117, 110, 108, 111, 97, 100] then 23 else if D = [115, 97, 105, 108] then 24 else if D = [119, 97, 105, 116] then 25 else 1
def sgc (c : Nat) : Nat := if c = 58 then 3 else if c = 59 then 4 else if c = 60 then 5 else if c = 61 then 7 else if c = 62 then 6 else 1
def cdw (g : Nat → Nat) (T w : Nat) : Nat := if T ≤ w then 0 else if isDg (g w) then (if enD g T w - w ≤ 5 then 2 else 1) else if isLt (g w) then cw (wl g w (enL g T w - w)) else sgc (g w)
def nxw (g : Nat → Nat) (T w : Nat) : Nat := if T ≤ w then T else if isDg (g w) then enD g T w else if isLt (g w) then enL g T w else w + 1
def cdp (g : Nat → Nat) (T p : Nat) : Nat := cdw g T (atp g T p)
def nxp (g : Nat → Nat) (T p : Nat) : Nat := nxw g T (atp g T p)
def vlp (g : Nat → Nat) (T p : Nat) : Nat := vd g (atp g T p) (enD g T (atp g T p) - atp g T p)
theorem ite_rg (Q : Nat → Prop) {p : Prop} [Decidable p] {a b : Nat} (ha : Q a) (hb : Q b) : Q (if p then a else b) := by
  split
  · exact ha
  · exact hb
theorem cw_rg (D : List Nat) : cw D = 1 ∨ (8 ≤ cw D ∧ cw D ≤ 25) := by
  have key : ∀ Q : Nat → Prop, Q = (fun c => c = 1 ∨ (8 ≤ c ∧ c ≤ 25)) → Q (cw D) := by
    intro Q hQ
    unfold cw
    subst hQ
    exact (ite_rg (fun c => c = 1 ∨ (8 ≤ c ∧ c ≤ 25)) (by decide) (ite_rg (fun c => c = 1 ∨ (8 ≤ c ∧ c ≤ 25)) (by decide) (ite_rg (fun c => c = 1 ∨ (8 ≤ c ∧ c ≤ 25)) (by decide) (ite_rg (fun c => c = 1 ∨ (8 ≤ c ∧ c ≤ 25)) (by decide) (ite_rg (fun c => c = 1 ∨ (8 ≤ c ∧ c ≤ 25)) (by decide) (ite_rg (fun c => c = 1 ∨ (8 ≤ c ∧ c ≤ 25)) (by decide) (ite_rg (fun c => c = 1 ∨ (8 ≤ c ∧ c ≤ 25)) (by decide) (ite_rg (fun c => c = 1 ∨ (8 ≤ c ∧ c ≤ 25)) (by decide) (ite_rg (fun c => c = 1 ∨ (8 ≤ c ∧ c ≤ 25)) (by decide) (ite_rg (fun c => c = 1 ∨ (8 ≤ c ∧ c ≤ 25)) (by decide) (ite_rg (fun c => c = 1 ∨ (8 ≤ c ∧ c ≤ 25)) (by decide) (ite_rg (fun c => c = 1 ∨ (8 ≤ c ∧ c ≤ 25)) (by decide) (ite_rg (fun c => c = 1 ∨ (8 ≤ c ∧ c ≤ 25)) (by decide) (ite_rg (fun c => c = 1 ∨ (8 ≤ c ∧ c ≤ 25)) (by decide) (ite_rg (fun c => c = 1 ∨ (8 ≤ c ∧ c ≤ 25)) (by decide) (ite_rg (fun c => c = 1 ∨ (8 ≤ c ∧ c ≤ 25)) (by decide) (ite_rg (fun c => c = 1 ∨ (8 ≤ c ∧ c ≤ 25)) (by decide) (ite_rg (fun c => c = 1 ∨ (8 ≤ c ∧ c ≤ 25)) (by decide) (by decide)))))))))))))))))))
  exact key _ rfl
theorem sgc_rg (c : Nat) : sgc c = 1 ∨ (3 ≤ sgc c ∧ sgc c ≤ 7) := by
  unfold sgc
  repeat' split
  all_goals decide
theorem atp_le {p : Nat} (hp : p ≤ T) : p ≤ atp g T p ∧ atp g T p ≤ T := by
  have h1 := rn_ge (P := fun i => isBl (g i)) (T - p) p
  have h2 := rn_le (P := fun i => isBl (g i)) (T - p) p
  unfold atp
  omega
theorem rn_S {P : Nat → Bool} {n i : Nat} (hn : 0 < n) : rn P n i = if P i then rn P (n - 1) (i + 1) else i := by
  obtain ⟨m, rfl⟩ : ∃ m, n = m + 1 := ⟨n - 1, by omega⟩
  rfl
theorem nxw_lt {w : Nat} (hw : w < T) : w < nxw g T w ∧ nxw g T w ≤ T := by
  unfold nxw
  rw [if_neg (by omega)]
  split
  next z =>
    unfold enD
    rw [rn_S (by omega), if_pos z]
    have h1 := rn_ge (P := fun i => isDg (g i)) (T - w - 1) (w + 1)
    have h2 := rn_le (P := fun i => isDg (g i)) (T - w - 1) (w + 1)
    omega
  next =>
    split
    next z =>
      unfold enL
      rw [rn_S (by omega), if_pos z]
      have h1 := rn_ge (P := fun i => isLt (g i)) (T - w - 1) (w + 1)
      have h2 := rn_le (P := fun i => isLt (g i)) (T - w - 1) (w + 1)
      omega
    next => omega
theorem nxp_le {p : Nat} (hp : p ≤ T) : p ≤ nxp g T p ∧ nxp g T p ≤ T := by
  have h := atp_le (g := g) hp
  unfold nxp
  by_cases c : atp g T p < T
  · have := nxw_lt (g := g) c; omega
  · unfold nxw
    rw [if_pos (by omega)]
    omega
theorem cdp_0 {p : Nat} (hp : p ≤ T) : cdp g T p = 0 ↔ atp g T p = T := by
  have h := atp_le (g := g) hp
  unfold cdp cdw
  by_cases c : T ≤ atp g T p
  · rw [if_pos c]; omega
  · rw [if_neg c]
    refine ⟨fun z => ?_, fun z => by omega⟩
    exfalso
    revert z
    split
    · split <;> decide
    · split
      · intro z
        have := cw_rg (wl g (atp g T p) (enL g T (atp g T p) - atp g T p))
        omega
      · intro z
        have := sgc_rg (g (atp g T p))
        omega
theorem nxp_lt {p : Nat} (hp : p ≤ T) (h : cdp g T p ≠ 0) : p < nxp g T p := by
  have h1 := atp_le (g := g) hp
  have h2 : atp g T p ≠ T := fun z => h ((cdp_0 hp).mpr z)
  have := nxw_lt (g := g) (show atp g T p < T by omega)
  unfold nxp
  omega
/-! words as numbers -/
def vr : List Nat → Nat
  | [] => 0
  | c :: t => 32 * vr t + (c - 96)
def lts (l : List Nat) : Prop := ∀ c ∈ l, 97 ≤ c ∧ c ≤ 122
theorem vr_inj : ∀ (l l' : List Nat), lts l → lts l' → vr l = vr l' → l = l'
  | [], [], _, _, _ => rfl
  | [], c :: t, _, h, e => by
    have := h c (List.mem_cons_self ..)
    unfold vr at e
    omega
  | c :: t, [], h, _, e => by
    have := h c (List.mem_cons_self ..)
    unfold vr at e
    omega
  | c :: t, c' :: t', h, h', e => by
    have h1 := h c (List.mem_cons_self ..)
    have h2 := h' c' (List.mem_cons_self ..)
    simp only [vr] at e
    have e1 : vr t = vr t' := by omega
    have e2 : c = c' := by omega
    rw [e2, vr_inj t t' (fun x hx => h x (List.mem_cons_of_mem _ hx)) (fun x hx => h' x (List.mem_cons_of_mem _ hx)) e1]
def vw (g : Nat → Nat) (w : Nat) : Nat → Nat
  | 0 => 0
  | n + 1 => 32 * vw g w n + (g (w + n) - 96)
theorem vw_vr {w : Nat} : ∀ n, vw g w n = vr (wl g w n).reverse
  | 0 => rfl
  | n + 1 => by
    unfold wl
    rw [List.range_succ, List.map_append, List.reverse_append]
    simp only [List.map_cons, List.map_nil, List.reverse_cons, List.reverse_nil, List.nil_append, List.cons_append, vr, vw]
    rw [vw_vr n]
    rfl
theorem vw_lt {w : Nat} : ∀ n, (∀ j, j < n → g (w + j) ≤ 122) → vw g w n < 32 ^ n
  | 0, _ => by simp [vw]
  | n + 1, h => by
    have h1 := vw_lt n (fun j hj => h j (by omega))
    have h2 := h n (by omega)
    simp only [vw]
    rw [Nat.pow_succ]
    omega
theorem wl_lts {w n : Nat} (h : ∀ j, j < n → isLt (g (w + j)) = true) : lts (wl g w n) := by
  intro c hc
  unfold wl at hc
  obtain ⟨j, hj, rfl⟩ := List.mem_map.mp hc
  have := h j (List.mem_range.mp hj)
  unfold isLt at this
  simpa using this
/-- a word is a text iff its number is the text's -/
theorem vw_eq {w n : Nat} (h : ∀ j, j < n → isLt (g (w + j)) = true) (t : List Nat) (ht : lts t) : vw g w n = vr t.reverse ↔ wl g w n = t := by
  rw [vw_vr]
  refine ⟨fun e => ?_, fun e => by rw [e]⟩
  have := vr_inj _ _ (fun c hc => wl_lts h c (List.mem_reverse.mp hc)) (fun c hc => ht c (List.mem_reverse.mp hc)) e
  exact List.reverse_inj.mp this
/-- the reference's code of a word -/
def mwc (c : Nat) : Nat := if c = 8 then 30 else if c = 9 then 31 else if c = 10 then 1 else if c = 11 then 2 else if c = 12 then 3 else if c = 13 then 4 else if c = 14 then 6 else if c = 15 then 5 else if c = 16 then 11 else if c = 17 then 12 else if c = 18 then 13 else if c = 1 then 99 else c + 1
end LX

/-! reading a text: what is due -/
section MC
variable {g : Nat → Nat} {T : Nat}
/-- registers: 0 due, 1 lines begun, 2 tests, 3 what, 4 comparison, 5 act, 6 good, 7 number, 8 fault, 9 place, 10 lines read; 100 + 20 l on: line l -/
def un (s : Nat → Nat) (k v : Nat) : Nat → Nat := fun i => if i = k then v else s i
theorem un_eq {s : Nat → Nat} {k v : Nat} : un s k v k = v := if_pos rfl
theorem un_ne {s : Nat → Nat} {k v i : Nat} (h : i ≠ k) : un s k v i = s i := if_neg h
def mrk (s : Nat → Nat) (k w : Nat) : Nat → Nat := if s 8 = 0 then un (un s 8 k) 9 w else s
def tac (s : Nat → Nat) (c : Nat) : Nat → Nat :=
  un (un (un (un s 5 c) 6 0) 7 0) 0 (if 19 ≤ c ∧ c ≤ 21 then 7 else if c = 22 ∨ c = 24 then 8 else if c = 23 ∨ c = 25 then 9 else 10)
def pte (s : Nat → Nat) (v : Nat) : Nat → Nat :=
  if s 1 - 1 < 16 ∧ s 2 < 4 then un (un (un s (100 + 20 * (s 1 - 1) + 1 + 3 * s 2) (s 3)) (100 + 20 * (s 1 - 1) + 2 + 3 * s 2) (s 4)) (100 + 20 * (s 1 - 1) + 3 + 3 * s 2) v else s
def pli (s : Nat → Nat) : Nat → Nat :=
  if s 1 - 1 < 16 then un (un (un (un (un s (100 + 20 * (s 1 - 1)) (min (s 2) 4)) (100 + 20 * (s 1 - 1) + 17) (s 5)) (100 + 20 * (s 1 - 1) + 18) (s 6)) (100 + 20 * (s 1 - 1) + 19) (s 7)) 10 (s 1 - 1 + 1) else s
def t0 (s : Nat → Nat) (w : Nat) : Nat → Nat := if 16 ≤ s 1 then mrk (un (un s 1 (s 1 + 1)) 2 0) 3 w else un (un s 1 (s 1 + 1)) 2 0
def t1 (s : Nat → Nat) (w : Nat) : Nat → Nat := if 4 ≤ s 2 then mrk s 3 w else s
def t8 (s : Nat → Nat) (v w : Nat) : Nat → Nat := if s 5 = 24 ∧ 5 ≤ v then mrk (un s 7 v) 2 w else un s 7 v
def stp (s : Nat → Nat) (c v w : Nat) : Nat → Nat :=
  if s 0 = 0 then (if c = 8 then un (t0 s w) 0 1 else tac (t0 s w) c)
  else if s 0 = 1 then (if 10 ≤ c ∧ c ≤ 13 then un (un (t1 s w) 3 (c - 10)) 0 3 else if c = 14 then un (t1 s w) 0 2 else if 15 ≤ c ∧ c ≤ 18 then un (un (t1 s w) 3 (4 + c - 15)) 0 3 else un (t1 s w) 0 10)
  else if s 0 = 2 then (if 16 ≤ c ∧ c ≤ 18 then un (un s 3 (8 + c - 15)) 0 3 else un s 0 10)
  else if s 0 = 3 then un (un s 4 c) 0 (if 5 ≤ c ∧ c ≤ 7 then 4 else 10)
  else if s 0 = 4 then (if c = 2 then un (un (pte s v) 2 (s 2 + 1)) 0 5 else un s 0 10)
  else if s 0 = 5 then un s 0 (if c = 9 then 1 else if c = 3 then 6 else 10)
  else if s 0 = 6 then tac s c
  else if s 0 = 7 then (if 16 ≤ c ∧ c ≤ 18 then un (un s 6 (c - 15)) 0 8 else un s 0 10)
  else if s 0 = 8 then (if c = 2 then un (t8 s v w) 0 9 else un s 0 10)
  else if s 0 = 9 then (if c = 4 then un (pli s) 0 0 else un s 0 10)
  else un s 0 10
def mrun (g : Nat → Nat) (T : Nat) : Nat → (Nat → Nat) → Nat → (Nat → Nat) × Nat
  | 0, s, p => (s, p)
  | n + 1, s, p => if cdp g T p = 0 ∨ s 0 = 10 then (s, p) else if stp s (cdp g T p) (vlp g T p) (atp g T p) 0 = 10 then (stp s (cdp g T p) (vlp g T p) (atp g T p), p) else mrun g T n (stp s (cdp g T p) (vlp g T p) (atp g T p)) (nxp g T p)
def fin (g : Nat → Nat) (T : Nat) (r : (Nat → Nat) × Nat) : Nat → Nat := if r.1 0 = 0 then r.1 else un (un r.1 8 1) 9 (atp g T r.2)
/-- what comes of it -/
def res (g : Nat → Nat) (T : Nat) (s : Nat → Nat) (p : Nat) : Nat → Nat := fin g T (mrun g T (T + 1 - p) s p)
theorem mrun_fuel : ∀ n m s p, p ≤ T → T + 1 - p ≤ n → T + 1 - p ≤ m → mrun g T n s p = mrun g T m s p := by
  intro n
  induction n with
  | zero => intro m s p hp h1 h2; omega
  | succ n ih =>
    intro m s p hp h1 h2
    obtain ⟨m, rfl⟩ : ∃ k, m = k + 1 := ⟨m - 1, by omega⟩
    simp only [mrun]
    by_cases c : cdp g T p = 0 ∨ s 0 = 10
    · rw [if_pos c, if_pos c]
    · rw [if_neg c, if_neg c]
      split
      · rfl
      · have := nxp_lt (g := g) hp (fun z => c (Or.inl z))
        have := nxp_le (g := g) hp
        exact ih m _ _ (by omega) (by omega) (by omega)
theorem res_end {s : Nat → Nat} {p : Nat} (hp : p ≤ T) (h : cdp g T p = 0) : res g T s p = fin g T (s, p) := by
  unfold res
  obtain ⟨k, hk⟩ : ∃ k, T + 1 - p = k + 1 := ⟨T - p, by omega⟩
  rw [hk]
  simp only [mrun]
  rw [if_pos (Or.inl h)]
theorem res_step {s : Nat → Nat} {p : Nat} (hp : p ≤ T) (h : cdp g T p ≠ 0) (hs : s 0 ≠ 10) (h' : stp s (cdp g T p) (vlp g T p) (atp g T p) 0 ≠ 10) : res g T s p = res g T (stp s (cdp g T p) (vlp g T p) (atp g T p)) (nxp g T p) := by
  unfold res
  obtain ⟨k, hk⟩ : ∃ k, T + 1 - p = k + 1 := ⟨T - p, by omega⟩
  have h1 := nxp_lt (g := g) hp h
  have h2 := nxp_le (g := g) hp
  rw [hk]
  conv => lhs; simp only [mrun]
  rw [if_neg (fun z => z.elim h hs), if_neg h', mrun_fuel k (T + 1 - nxp g T p) _ _ (by omega) (by omega) (by omega)]
theorem res_stuck {s : Nat → Nat} {p : Nat} (hp : p ≤ T) (h : cdp g T p ≠ 0) (hs : s 0 ≠ 10) (h' : stp s (cdp g T p) (vlp g T p) (atp g T p) 0 = 10) : res g T s p 8 = 1 ∧ res g T s p 9 = atp g T p := by
  unfold res
  obtain ⟨k, hk⟩ : ∃ k, T + 1 - p = k + 1 := ⟨T - p, by omega⟩
  rw [hk]
  simp only [mrun]
  rw [if_neg (fun z => z.elim h hs), if_pos h']
  unfold fin
  rw [if_neg (fun z : stp s (cdp g T p) (vlp g T p) (atp g T p) 0 = 0 => by rw [h'] at z; exact absurd z (by decide))]
  exact ⟨by rw [un_ne (by decide), un_eq], un_eq⟩
/-- stuck, or at the end where something is due -/
theorem res_stop {s : Nat → Nat} {p : Nat} (hp : p ≤ T) (hs : s 0 ≠ 10) (h0 : s 0 ≠ 0) (h' : stp s (cdp g T p) (vlp g T p) (atp g T p) 0 = 10) : res g T s p 8 = 1 ∧ res g T s p 9 = atp g T p := by
  by_cases c : cdp g T p = 0
  · rw [res_end hp c]
    unfold fin
    rw [if_neg h0]
    exact ⟨by rw [un_ne (by decide), un_eq], un_eq⟩
  · exact res_stuck hp c hs h'
end MC

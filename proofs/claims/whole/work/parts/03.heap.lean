/-! heap rows, calls, returns -/
def ui (I : Nat → Nat → Int32) (c k : Nat) (v : Int32) : Nat → Nat → Int32 := fun c' => if c' = c then upd (I c) k v else I c'
def uj (J : Nat → Nat → Int64) (c k : Nat) (v : Int64) : Nat → Nat → Int64 := fun c' => if c' = c then vp_updL (J c) k v else J c'
def ur (R : Nat → Nat → Value) (c k : Nat) (v : Value) : Nat → Nat → Value := fun c' => if c' = c then va_up (R c) k v else R c'
/-- a row as a whole set anew -/
def ua {α : Type} (I : Nat → Nat → α) (c : Nat) (f : Nat → α) : Nat → Nat → α := fun c' => if c' = c then f else I c'
def ue (E : Nat → Prop) (c : Nat) : Nat → Prop := fun c' => E c' ∨ c' = c
theorem vcC_df : ∀ ci, ci < 13 → ∀ k, k < (vcC ci).2.2 → defaultValue (vcY ci k) = if isR ci k then .null else .int 0 := by decide +kernel
theorem Cn_obj {cy ad : Nat → Nat} {R : Nat → Nat → Value} {I : Nat → Nat → Int32} {J : Nat → Nat → Int64} {c ci : Nat} (h : kd c = ci) (hc : ci < 13) : Cn cy ad R I J c = .inr (ci, (List.range (vcN ci)).map (fun k => if isR ci k then mv ad (R c k) else .int (I c k))) := by
  unfold Cn; rw [h, if_pos hc]
theorem Cn_int {cy ad : Nat → Nat} {R : Nat → Nat → Value} {I : Nat → Nat → Int32} {J : Nat → Nat → Int64} {c k : Nat} (h : kd c = k) (hc : k = 13 ∨ k = 14 ∨ k = 16) : Cn cy ad R I J c = .inl (cy k, ln c, .inl (I c)) := by
  unfold Cn; rw [h, if_neg (by omega), if_neg (by omega), if_pos (by omega)]
theorem Cn_long {cy ad : Nat → Nat} {R : Nat → Nat → Value} {I : Nat → Nat → Int32} {J : Nat → Nat → Int64} {c : Nat} (h : kd c = 15) : Cn cy ad R I J c = .inl (cy 15, ln c, .inr (.inl (J c))) := by
  unfold Cn; rw [h, if_neg (by omega), if_pos rfl]
theorem Cn_arr {cy ad : Nat → Nat} {R : Nat → Nat → Value} {I : Nat → Nat → Int32} {J : Nat → Nat → Int64} {c k : Nat} (h : kd c = k) (hc : 17 ≤ k) : Cn cy ad R I J c = .inl (cy k, ln c, .inr (.inr (.inr (.inr (fun j => rfo ad (R c j)))))) := by
  unfold Cn; rw [h, if_neg (by omega), if_neg (by omega), if_neg (by omega)]
theorem en_set {L : List Nat} {k c : Nat} {f f' : Nat → Nat × va_E} (hk : L[k]? = some c) (hu : ∀ j, L[j]? = some c → j = k) (hne : ∀ c', c' ≠ c → f' c' = f c') : (L.map f).set k (f' c) = L.map f' := by
  have hlt := (List.getElem?_eq_some_iff.mp hk).1
  apply List.ext_getElem?
  intro j
  rw [List.getElem?_set, List.getElem?_map, List.getElem?_map]
  by_cases e : k = j
  · subst e
    rw [if_pos rfl, if_pos (by simpa using hlt), hk]
    rfl
  · rw [if_neg e]
    cases hj : L[j]? with
    | none => rfl
    | some c' =>
      have : c' ≠ c := fun q => e (hu j (by rw [hj, q])).symm
      simp [hne c' this]
theorem Sy.kept {D : va_G} {cy adV ad : Nat → Nat} {A : Nat → Prop} {U : State} {H H1 : Heap} (h : Sy D cy adV ad A U H) (hq : ∀ q : Nat, ¬ A q → H1[q]? = H[q]?) : Sy D cy adV ad A U H1 := by
  obtain ⟨h1, h2, h3, h4, h5, h6, h7, h8⟩ := h
  exact ⟨h1, h2, h3, h4, h5.kept (fun a _ ha => hq a ha), h6.kept (fun a _ ha => hq a ha), h7, h8.imp (fun z => z.kept (fun a _ ha => hq a ha)) (fun z => z.kept (fun a _ ha => hq a ha))⟩
theorem Sy.warm {D : va_G} {cy adV ad : Nat → Nat} {A : Nat → Prop} {s U : State} {H : Heap} (hW : s.WarmedH U.vm) (h : Sy D cy adV ad A s H) : Sy D cy adV ad A U H := by
  obtain ⟨h1, h2, h3, h4, h5, h6, h7, h8⟩ := h
  exact ⟨va_K.moved hW.alike h1, va_Nw.warmM hW h2, fun C hC => va_AO.moved hW.alike (h3 C hC), fun i hi => vk_R.warm hW (h4 i hi), vk_S.moved hW.alike h5, va_Z.moved hW.alike h6, h7, h8.imp (fun z => va_Z.moved hW.alike z) (fun z => va_Z.moved hW.alike z)⟩
theorem Sy.narrow {D : va_G} {cy adV ad : Nat → Nat} {A B : Nat → Prop} {U : State} {H : Heap} (h : Sy D cy adV ad A U H) (hAB : ∀ q, B q → A q) : Sy D cy adV ad B U H := by
  obtain ⟨h1, h2, h3, h4, h5, h6, h7, h8⟩ := h
  exact ⟨h1, h2, h3, h4, h5.narrow hAB, h6.narrow hAB, h7, h8.imp (fun z => z.narrow hAB) (fun z => z.narrow hAB)⟩
theorem kd62 (i : Nat) : kd (rc 62 i) = 23 := by
  unfold kd rc
  rw [show (62 + 64 * i) % 64 = 62 by omega]
  rfl
theorem kd61 (i : Nat) : kd (rc 61 i) = 23 := by
  unfold kd rc
  rw [show (61 + 64 * i) % 64 = 61 by omega]
  rfl
theorem kd60 (i : Nat) : kd (rc 60 i) = 23 := by
  unfold kd rc
  rw [show (60 + 64 * i) % 64 = 60 by omega]
  rfl
theorem Sy.ad {D : va_G} {cy adV ad ad' : Nat → Nat} {A : Nat → Prop} {U : State} {H : Heap} (h : Sy D cy adV ad A U H) (he : ∀ c, kd c = 23 → ad' c = ad c) : Sy D cy adV ad' A U H := by
  obtain ⟨h1, h2, h3, h4, h5, h6, h7, h8⟩ := h
  have e : (fun i => ad' (rc 62 i)) = fun i => ad (rc 62 i) := funext (fun i => he _ (kd62 i))
  exact ⟨h1, h2, h3, fun i hi => by rw [he _ (kd62 i)]; exact h4 i hi, by rw [e]; exact h5, h6, fun i hi => by rw [he _ (kd61 i)]; exact h7 i hi, by rw [he _ (kd60 0)]; exact h8⟩
theorem HS.warm {D : va_G} {cy adV ad : Nat → Nat} {E : Nat → Prop} {R : Nat → Nat → Value} {I : Nat → Nat → Int32} {J : Nat → Nat → Int64} {A : Nat → Prop} {s U : State} {H : Heap} (hW : s.WarmedH U.vm) (h : HS D cy adV ad E R I J A s H) : HS D cy adV ad E R I J A U H :=
  ⟨h.1.warm hW, h.2.1, h.2.2.1, fun c hc hk => ⟨va_X.moved hW.alike (h.2.2.2 c hc hk).1, (h.2.2.2 c hc hk).2⟩⟩
/-- the same addresses, another heap -/
theorem HS.next {D : va_G} {cy adV ad : Nat → Nat} {E : Nat → Prop} {R R' : Nat → Nat → Value} {I I' : Nat → Nat → Int32} {J J' : Nat → Nat → Int64} {A : Nat → Prop} {s : State} {H H1 : Heap} {locs locs1 : List Loc} (h : HS D cy adV ad E R I J A s H)
    (hA : ∀ q, s.heap.size ≤ q → A q) (hS : va_S A s.heap H locs) (hS1 : va_S A s.heap H1 locs1) (hL : ∃ L : List Nat, (∀ c, c ∈ L ↔ (E c ∧ kd c < 22)) ∧ va_P D vcl (L.map (en cy ad R' I' J')) H1 ∧ va_D A (L.map (en cy ad R' I' J')))
    (hcl : ∀ c k, E c → ok E (R' c k)) (hsc : ∀ c, E c → kd c = 22 → I' c = I c) : HS D cy adV ad E R' I' J' A s H1 := by
  have hq : ∀ q : Nat, ¬ A q → H1[q]? = H[q]? := fun q hn => by
    have hl : q < s.heap.size := Nat.not_le.mp fun z => hn (hA q z)
    rw [hS1.2.1 q hl hn, hS.2.1 q hl hn]
  exact ⟨h.1.kept hq, hL, hcl, fun c hc hk => ⟨by rw [hsc c hc hk]; exact (h.2.2.2 c hc hk).1.kept (hq _ (h.2.2.2 c hc hk).2), (h.2.2.2 c hc hk).2⟩⟩
/-- a cell of the logical heap as a place of a world -/
theorem HS.at {D : va_G} {cy adV ad : Nat → Nat} {E : Nat → Prop} {R : Nat → Nat → Value} {I : Nat → Nat → Int32} {J : Nat → Nat → Int64} {A : Nat → Prop} {U : State} {H : Heap} (h : HS D cy adV ad E R I J A U H) {c : Nat} (hE : E c) (hk : kd c < 22) :
    ∃ (L : List Nat) (k : Nat), (∀ c, c ∈ L ↔ (E c ∧ kd c < 22)) ∧ va_P D vcl (L.map (en cy ad R I J)) H ∧ va_D A (L.map (en cy ad R I J)) ∧ L[k]? = some c ∧ (L.map (en cy ad R I J))[k]? = some (ad c, Cn cy ad R I J c) ∧ ∀ j, L[j]? = some c → j = k := by
  obtain ⟨L, hL, hP, hD⟩ := h.2.1
  obtain ⟨k, hk⟩ := List.getElem?_of_mem ((hL c).mpr ⟨hE, hk⟩)
  have hm : (L.map (en cy ad R I J))[k]? = some (ad c, Cn cy ad R I J c) := by rw [List.getElem?_map, hk]; rfl
  exact ⟨L, k, hL, hP, hD, hk, hm, fun j hj => hD.1 j k _ _ (by rw [List.getElem?_map, hj]; rfl) hm rfl⟩
theorem rmap {N k : Nat} (h : k < N) (f : Nat → Value) : ((List.range N).map f)[k]? = some (f k) := by
  rw [List.getElem?_map, List.getElem?_range h]; rfl
theorem rset {N k : Nat} (h : k < N) (f f' : Nat → Value) (hne : ∀ j, j ≠ k → f' j = f j) : ((List.range N).map f).set k (f' k) = (List.range N).map f' := by
  apply List.ext_getElem?
  intro j
  rw [List.getElem?_set, List.getElem?_map, List.getElem?_map]
  by_cases e : k = j
  · subst e
    simp [h]
  · rw [if_neg e]
    cases hj : (List.range N)[j]? with
    | none => rfl
    | some q =>
      have : q = j := by
        have := List.getElem?_eq_some_iff.mp hj
        obtain ⟨h1, h2⟩ := this
        simp at h2
        exact h2.symm
      subst this
      simp [hne q (fun z => e z.symm)]
/-- a field's link -/
def FL (own : String) (idx ci k : Nat) : Prop := ci < 13 ∧ k < vcN ci ∧ Cond.fieldLink own idx (vcC ci).1 ((vcC ci).2.1 k).2.1 ((vcC ci).2.1 k).2.2.1 ∈ lw_tbl ∧ goodWord (Cond.fieldLink own idx (vcC ci).1 ((vcC ci).2.1 k).2.1 ((vcC ci).2.1 k).2.2.1) = true
theorem FL.mem {own : String} {idx ci k : Nat} (h : FL own idx ci k) : Cond.fieldLink own idx (vcC ci).1 ((vcC ci).2.1 k).2.1 ((vcC ci).2.1 k).2.2.1 ∈ lw_good := lw_gm h.2.2.1 h.2.2.2
section HRows
variable {cc : ByteArray} {own : String} {nL : Nat} {ret : Option FieldType} {nm : String} {Rm : Room} {Q : Qf} {pc : Nat}
def i_geti (ci k : Nat) (kk : Pd) : Pd := fun ls st E R I J a b => match st with
  | .ref c :: st => kd c = ci ∧ kk ls (.int (I c k) :: st) E R I J a b
  | _ => False
def i_getr (ci k : Nat) (kk : Pd) : Pd := fun ls st E R I J a b => match st with
  | .ref c :: st => kd c = ci ∧ kk ls (R c k :: st) E R I J a b
  | _ => False
theorem okE {E : Nat → Prop} {c : Nat} {st : List Value} (hT : ∀ v ∈ Value.ref c :: st, ok E v) (hk : kd c < 23) : E c := (okh hT c rfl).elim id (fun h => by omega)
theorem s_geti {ci k idx : Nat} {kk : Pd} (hd : decode cc pc = .ok (.getfield idx, 3)) (hl0 : FL own idx ci k) (hr : isR ci k = false) (hk : Le kk (G cc own nL ret nm Rm Q (pc + 3))) : Le (i_geti ci k kk) (G cc own nL ret nm Rm Q pc) := by
  intro ls st E R I J a b h
  match st, h with
  | .ref c0 :: st, h =>
    intro p l e s m args below meth c D cy adV ad0 ad E0 A H locs la C hA hH hS hF hl hL hT
    obtain ⟨hci, hkN, -⟩ := id hl0
    have hkd : kd c0 = ci := h.1
    have hcE : E c0 := okE hT (by omega)
    obtain ⟨L, q, -, hP, -, -, hm, -⟩ := hH.at hcE (by omega)
    rw [Cn_obj h.1 hci] at hm
    have hN := vcC_N ci hci
    refine va_get (D := D) (C := (vcC ci).1) (T := (vcC ci).2.1) (N := (vcC ci).2.2) C.1 C.2.1 C.2.2.2.2.2.1 (vcC_ws ci hci) C.2.2.2.2.1 hH.1.1 hP q hm (vcC_at ci hci) k (by rw [hN]; exact hkN) (C.2.2.2.2.2.1 _ hl0.mem) (fun x hx => by rw [vcC_own ci hci k (by rw [hN]; exact hkN)] at hx; exact hx) (rmap hkN _) hd ?_
    simp only [hr]
    exact hk _ _ _ _ _ _ _ _ h.2 p l e s m args below meth c D cy adV ad0 ad E0 A H locs la C hA hH hS hF hl hL (okc ok_i (okt hT))
theorem s_getr {ci k idx : Nat} {kk : Pd} (hd : decode cc pc = .ok (.getfield idx, 3)) (hl0 : FL own idx ci k) (hr : isR ci k = true) (hk : Le kk (G cc own nL ret nm Rm Q (pc + 3))) : Le (i_getr ci k kk) (G cc own nL ret nm Rm Q pc) := by
  intro ls st E R I J a b h
  match st, h with
  | .ref c0 :: st, h =>
    intro p l e s m args below meth c D cy adV ad0 ad E0 A H locs la C hA hH hS hF hl hL hT
    obtain ⟨hci, hkN, -⟩ := id hl0
    have hkd : kd c0 = ci := h.1
    have hcE : E c0 := okE hT (by omega)
    obtain ⟨L, q, -, hP, -, -, hm, -⟩ := hH.at hcE (by omega)
    rw [Cn_obj h.1 hci] at hm
    have hN := vcC_N ci hci
    refine va_get (D := D) (C := (vcC ci).1) (T := (vcC ci).2.1) (N := (vcC ci).2.2) C.1 C.2.1 C.2.2.2.2.2.1 (vcC_ws ci hci) C.2.2.2.2.1 hH.1.1 hP q hm (vcC_at ci hci) k (by rw [hN]; exact hkN) (C.2.2.2.2.2.1 _ hl0.mem) (fun x hx => by rw [vcC_own ci hci k (by rw [hN]; exact hkN)] at hx; exact hx) (rmap hkN _) hd ?_
    simp only [hr, if_true]
    exact hk _ _ _ _ _ _ _ _ h.2 p l e s m args below meth c D cy adV ad0 ad E0 A H locs la C hA hH hS hF hl hL (okc (hH.2.2.1 c0 k hcE) (okt hT))
/-- what is put: an int, a boolean, a reference -/
def i_puti (ci k : Nat) (kk : Pd) : Pd := fun ls st E R I J a b => match st with
  | .int v :: .ref c :: st => kd c = ci ∧ kk ls st E R (ui I c k v) J a b
  | _ => False
def i_putz (ci k : Nat) (kk : Pd) : Pd := fun ls st E R I J a b => match st with
  | .int v :: .ref c :: st => kd c = ci ∧ (v = 0 ∨ v = 1) ∧ kk ls st E R (ui I c k v) J a b
  | _ => False
def i_putr (ci k : Nat) (kk : Pd) : Pd := fun ls st E R I J a b => match st with
  | .ref v :: .ref c :: st => kd c = ci ∧ kk ls st E (ur R c k (.ref v)) I J a b
  | _ => False
theorem ui_ne {I : Nat → Nat → Int32} {c k c' : Nat} {v : Int32} (h : c' ≠ c) : ui I c k v c' = I c' := if_neg h
theorem ur_ne {R : Nat → Nat → Value} {c k c' : Nat} {v : Value} (h : c' ≠ c) : ur R c k v c' = R c' := if_neg h
theorem uj_ne {J : Nat → Nat → Int64} {c k c' : Nat} {v : Int64} (h : c' ≠ c) : uj J c k v c' = J c' := if_neg h
theorem ui_eq {I : Nat → Nat → Int32} {c k : Nat} {v : Int32} : ui I c k v c = upd (I c) k v := if_pos rfl
theorem ur_eq {R : Nat → Nat → Value} {c k : Nat} {v : Value} : ur R c k v c = va_up (R c) k v := if_pos rfl
theorem uj_eq {J : Nat → Nat → Int64} {c k : Nat} {v : Int64} : uj J c k v c = vp_updL (J c) k v := if_pos rfl
theorem Cn_cong {cy ad : Nat → Nat} {R R' : Nat → Nat → Value} {I I' : Nat → Nat → Int32} {J J' : Nat → Nat → Int64} {c : Nat} (h1 : R' c = R c) (h2 : I' c = I c) (h3 : J' c = J c) : en cy ad R' I' J' c = en cy ad R I J c := by
  unfold en Cn; rw [h1, h2, h3]
/-- the two ways to put: a field that is final (in a constructor) or not -/
theorem put_go {ci k idx : Nat} {v : Value} {ty : FieldType} {c0 : Nat} {ls0 : List (Nat × Value)} {st : List Value} {E : Nat → Prop} {R R' : Nat → Nat → Value} {I I' : Nat → Nat → Int32} {J : Nat → Nat → Int64} {a b : Nat} (hd : decode cc pc = .ok (.putfield idx, 3)) (hl0 : FL own idx ci k) (hty : vcY ci k = ty) (hfin : ((vcC ci).2.1 k).2.2.2 = false ∨ (nm = "<init>" ∧ (vcC ci).1 = own ∧ ((vcC ci).2.1 k).2.2.2 = true)) (hkd : kd c0 = ci)
    (hnar : ∀ ad : Nat → Nat, narrow ty (mv ad v) = mv ad v) (hfit : ∀ ad : Nat → Nat, fits ty (mv ad v) = true) (hv : ok E v) (hR : ∀ c', c' ≠ c0 → R' c' = R c') (hI : ∀ c', c' ≠ c0 → I' c' = I c')
    (hnew : ∀ ad : Nat → Nat, (if isR ci k then mv ad (R' c0 k) else .int (I' c0 k)) = mv ad v) (hold : ∀ j, j ≠ k → R' c0 j = R c0 j ∧ I' c0 j = I c0 j) (hcl : ∀ k', ok E (R c0 k') → ok E (R' c0 k'))
    (hk : G cc own nL ret nm Rm Q (pc + 3) ls0 st E R' I' J a b) : G cc own nL ret nm Rm Q pc ls0 (v :: .ref c0 :: st) E R I J a b := by
  intro p l e s m args below meth c D cy adV ad0 ad E0 A H locs la C hA hH hS hF hl hL hT
  obtain ⟨hci, hkN, -⟩ := id hl0
  have hcE : E c0 := okE (okt hT) (by omega)
  obtain ⟨L, q, hLm, hP, hD, hLq, hm, hu⟩ := hH.at hcE (by omega)
  rw [Cn_obj hkd hci] at hm
  have hN := vcC_N ci hci
  have hkN' : k < (vcC ci).2.2 := by rw [hN]; exact hkN
  have fin : ∀ (H1 : Heap) (locs1 : List Loc), va_P D vcl ((L.map (en cy ad R I J)).set q (ad c0, .inr (ci, ((List.range (vcN ci)).map (fun k => if isR ci k then mv ad (R c0 k) else .int (I c0 k))).set k (mv ad v)))) H1 → va_D A ((L.map (en cy ad R I J)).set q (ad c0, .inr (ci, ((List.range (vcN ci)).map (fun k => if isR ci k then mv ad (R c0 k) else .int (I c0 k))).set k (mv ad v)))) → va_S A s.heap H1 locs1 → W p l e Rm s m args below meth c H1 locs1 a b (Q s args below D cy adV ad0 E0 A) (F0 m (pc + 3) la (st.map (mv ad))) := by
    intro H1 locs1 hP1 hD1 hS1
    have e1 : (ad c0, (Sum.inr (ci, ((List.range (vcN ci)).map (fun k => if isR ci k then mv ad (R c0 k) else .int (I c0 k))).set k (mv ad v)) : va_E)) = en cy ad R' I' J c0 := by
      unfold en
      rw [Cn_obj hkd hci, ← hnew ad, rset hkN (fun k => if isR ci k then mv ad (R c0 k) else .int (I c0 k)) (fun k => if isR ci k then mv ad (R' c0 k) else .int (I' c0 k)) (fun j hj => by rw [(hold j hj).1, (hold j hj).2])]
    rw [e1, en_set hLq hu (fun c' hc' => Cn_cong (hR c' hc') (hI c' hc') rfl)] at hP1 hD1
    refine hk p l e s m args below meth c D cy adV ad0 ad E0 A H1 locs1 la C hA (hH.next hA hS hS1 ⟨L, hLm, hP1, hD1⟩ (fun c' k' hc' => ?_) (fun c' hc' hk22 => hI c' (fun z => by subst z; omega))) hS1 hF hl hL (okt (okt hT))
    by_cases e : c' = c0
    · subst e; exact hcl k' (hH.2.2.1 c' k' hc')
    · rw [hR c' e]; exact hH.2.2.1 c' k' hc'
  rcases hfin with hf | ⟨hf1, hf2, hf3⟩
  · exact va_put (D := D) (C := (vcC ci).1) (T := (vcC ci).2.1) (N := (vcC ci).2.2) (ty := ty) C.1 C.2.1 C.2.2.2.2.2.1 (vcC_ws ci hci) (vcY ci) (vcC_ty ci hci) (vcC_nm ci hci) C.2.2.2.2.1 hH.1.1 hP hD hS q hm (vcC_at ci hci) k hkN' (C.2.2.2.2.2.1 _ hl0.mem) (fun x hx => by rw [vcC_own ci hci k hkN'] at hx; exact hx) hf (by rw [vcC_ty ci hci k hkN', hty]) (hnar ad) (hfit ad) (by simp [hkN]) hd fin
  · exact va_putF (D := D) (C := (vcC ci).1) (T := (vcC ci).2.1) (N := (vcC ci).2.2) (ty := ty) C.1 C.2.1 C.2.2.2.2.2.1 (vcC_ws ci hci) (vcY ci) (vcC_ty ci hci) (vcC_nm ci hci) C.2.2.2.2.1 hH.1.1 hP hD hS q hm (vcC_at ci hci) k hkN' (C.2.2.2.2.2.1 _ hl0.mem) (fun x hx => by rw [vcC_own ci hci k hkN'] at hx; exact hx) hf3 (by rw [← hf1]; exact C.2.2.2.2.2.2.2) (by rw [vcC_own ci hci k hkN']; exact hf2) (by rw [vcC_ty ci hci k hkN', hty]) (hnar ad) (hfit ad) (by simp [hkN]) hd fin
/-- how a field may be put -/
def PF (own nm : String) (ci k : Nat) : Prop := ((vcC ci).2.1 k).2.2.2 = false ∨ (nm = "<init>" ∧ (vcC ci).1 = own ∧ ((vcC ci).2.1 k).2.2.2 = true)
theorem s_puti {ci k idx : Nat} {kk : Pd} (hd : decode cc pc = .ok (.putfield idx, 3)) (hl0 : FL own idx ci k) (hr : isR ci k = false) (hty : vcY ci k = .int) (hf : PF own nm ci k) (hk : Le kk (G cc own nL ret nm Rm Q (pc + 3))) : Le (i_puti ci k kk) (G cc own nL ret nm Rm Q pc) := by
  intro ls st E R I J a b h
  match st, h with
  | .int v :: .ref c0 :: st, h =>
    exact put_go (R' := R) (I' := ui I c0 k v) hd hl0 hty hf h.1 (fun _ => rfl) (fun _ => rfl) ok_i (fun _ _ => rfl) (fun c' hc' => ui_ne hc') (fun ad => by simp [hr, ui_eq, upd, mv]) (fun j hj => ⟨rfl, by simp [ui_eq, upd, hj]⟩) (fun _ h => h) (hk _ _ _ _ _ _ _ _ h.2)
theorem s_putz {ci k idx : Nat} {kk : Pd} (hd : decode cc pc = .ok (.putfield idx, 3)) (hl0 : FL own idx ci k) (hr : isR ci k = false) (hty : vcY ci k = .boolean) (hf : PF own nm ci k) (hk : Le kk (G cc own nL ret nm Rm Q (pc + 3))) : Le (i_putz ci k kk) (G cc own nL ret nm Rm Q pc) := by
  intro ls st E R I J a b h
  match st, h with
  | .int v :: .ref c0 :: st, h =>
    exact put_go (R' := R) (I' := ui I c0 k v) hd hl0 hty hf h.1 (fun _ => by rcases h.2.1 with z | z <;> subst z <;> rfl) (fun _ => by rcases h.2.1 with z | z <;> subst z <;> rfl) ok_i (fun _ _ => rfl) (fun c' hc' => ui_ne hc') (fun ad => by simp [hr, ui_eq, upd, mv]) (fun j hj => ⟨rfl, by simp [ui_eq, upd, hj]⟩) (fun _ h => h) (hk _ _ _ _ _ _ _ _ h.2.2)
theorem s_putr {ci k idx : Nat} {kk : Pd} (hd : decode cc pc = .ok (.putfield idx, 3)) (hl0 : FL own idx ci k) (hr : isR ci k = true) (hty : (vcY ci k).isReference = true) (hf : PF own nm ci k) (hk : Le kk (G cc own nL ret nm Rm Q (pc + 3))) : Le (i_putr ci k kk) (G cc own nL ret nm Rm Q pc) := by
  intro ls st E R I J a b h
  match st, h with
  | .ref v :: .ref c0 :: st, h =>
    intro p l e s m args below meth c D cy adV ad0 ad E0 A H locs la C hA hH hS hF hl hL hT
    exact put_go (ty := vcY ci k) (v := .ref v) (R' := ur R c0 k (.ref v)) (I' := I) hd hl0 rfl hf h.1 (fun _ => by cases hz : vcY ci k <;> rw [hz] at hty <;> first | rfl | cases hty) (fun _ => by cases hz : vcY ci k <;> rw [hz] at hty <;> first | rfl | cases hty) (okh hT) (fun c' hc' => ur_ne hc') (fun _ _ => rfl) (fun ad => by simp [hr, ur_eq, va_up]) (fun j hj => ⟨by simp [ur_eq, va_up, hj], rfl⟩) (fun k' hk' => by
      by_cases e : k' = k
      · subst e; simp only [ur_eq, va_up, if_true]; exact okh hT
      · simp only [ur_eq, va_up, if_neg e]; exact hk') (hk _ _ _ _ _ _ _ _ h.2) p l e s m args below meth c D cy adV ad0 ad E0 A H locs la C hA hH hS hF hl hL hT
end HRows

/-! new cells; System.arraycopy; a text; the call of a nest mate -/
theorem up_eq {ad : Nat → Nat} {c q : Nat} : va_up ad c q c = q := if_pos rfl
theorem up_ne {ad : Nat → Nat} {c q c' : Nat} (h : c' ≠ c) : va_up ad c q c' = ad c' := if_neg h
theorem ua_eq {α : Type} {I : Nat → Nat → α} {c : Nat} {f : Nat → α} : ua I c f c = f := if_pos rfl
theorem ua_ne {α : Type} {I : Nat → Nat → α} {c c' : Nat} {f : Nat → α} (h : c' ≠ c) : ua I c f c' = I c' := if_neg h
theorem rfo_ok {E : Nat → Prop} {ad ad' : Nat → Nat} {v : Value} (h : ok E v) (he : ∀ c, E c ∨ kd c = 23 → ad' c = ad c) : rfo ad' v = rfo ad v := by
  cases v with
  | ref c => exact congrArg some (he c (h c rfl))
  | _ => rfl
/-- the logical heap with one cell more -/
theorem HS.new {D : va_G} {cy adV ad : Nat → Nat} {E : Nat → Prop} {R R' : Nat → Nat → Value} {I I' : Nat → Nat → Int32} {J J' : Nat → Nat → Int64} {A : Nat → Prop} {s : State} {H H1 : Heap} {locs : List Loc} {c q : Nat} {x : va_E} {L : List Nat} (h : HS D cy adV ad E R I J A s H)
    (hA : ∀ q, s.heap.size ≤ q → A q) (hS : va_S A s.heap H locs) (hS1 : va_S A s.heap H1 locs) (hc : ¬ E c) (hkd : kd c < 22) (hL : ∀ c, c ∈ L ↔ (E c ∧ kd c < 22))
    (hP1 : va_P D vcl (L.map (en cy ad R I J) ++ [(q, x)]) H1) (hD1 : va_D A (L.map (en cy ad R I J) ++ [(q, x)]))
    (hR : ∀ c', c' ≠ c → R' c' = R c') (hI : ∀ c', c' ≠ c → I' c' = I c') (hJ : ∀ c', c' ≠ c → J' c' = J c') (hx : Cn cy (va_up ad c q) R' I' J' c = x) (hRc : ∀ k, R' c k = .null) :
    HS D cy adV (va_up ad c q) (ue E c) R' I' J' A s H1 ∧ (∀ c', E c' ∨ kd c' = 23 → va_up ad c q c' = ad c') := by
  have he : ∀ c', E c' ∨ kd c' = 23 → va_up ad c q c' = ad c' := fun c' h' => up_ne (fun z => by subst z; rcases h' with z | z; exact hc z; omega)
  have hq : ∀ q : Nat, ¬ A q → H1[q]? = H[q]? := fun q hn => by
    have hl : q < s.heap.size := Nat.not_le.mp fun z => hn (hA q z)
    rw [hS1.2.1 q hl hn, hS.2.1 q hl hn]
  refine ⟨⟨(h.1.kept hq).ad (fun c hc => he c (Or.inr hc)), ⟨L ++ [c], ?_, ?_, ?_⟩, ?_, ?_⟩, he⟩
  · intro c'
    rw [List.mem_append, hL, List.mem_singleton]
    constructor
    · rintro (⟨h1, h2⟩ | rfl)
      · exact ⟨Or.inl h1, h2⟩
      · exact ⟨Or.inr rfl, hkd⟩
    · rintro ⟨h1 | rfl, h2⟩
      · exact Or.inl ⟨h1, h2⟩
      · exact Or.inr rfl
  all_goals
    have em : (L ++ [c]).map (en cy (va_up ad c q) R' I' J') = L.map (en cy ad R I J) ++ [(q, x)] := by
      rw [List.map_append]
      congr 1
      · apply List.map_congr_left
        intro c' hc'
        have hE' := ((hL c').mp hc').1
        have hne : c' ≠ c := fun z => hc (z ▸ hE')
        unfold en Cn
        rw [hR c' hne, hI c' hne, hJ c' hne, up_ne hne]
        simp only [fun k => mv_ok (h.2.2.1 c' k hE') he, fun k => rfo_ok (h.2.2.1 c' k hE') he]
      · show [en cy (va_up ad c q) R' I' J' c] = _
        unfold en
        rw [hx, up_eq]
  · rw [em]; exact hP1
  · rw [em]; exact hD1
  · intro c' k hc'
    by_cases z : c' = c
    · subst z; rw [hRc]; exact ok_n
    · rw [hR c' z]
      exact ok_mono (h.2.2.1 c' k (hc'.resolve_right z)) (fun _ h => Or.inl h)
  · intro c' hc' hk
    have z : c' ≠ c := fun z => by subst z; omega
    have hE' := hc'.resolve_right z
    rw [up_ne z, hI c' z]
    exact ⟨(h.2.2.2 c' hE' hk).1.kept (hq _ (h.2.2.2 c' hE' hk).2), (h.2.2.2 c' hE' hk).2⟩
theorem Fr.new {E : Nat → Prop} {ad : Nat → Nat} {c q : Nat} (hkd : kd c < 22) (he : ∀ c', E c' ∨ kd c' = 23 → va_up ad c q c' = ad c') : Fr E ad (ue E c) (va_up ad c q) :=
  ⟨fun _ h => Or.inl h, he, fun c' h hk => h.resolve_right (fun z => by subst z; omega)⟩
section NRows
variable {cc : ByteArray} {own : String} {nL : Nat} {ret : Option FieldType} {nm : String} {Rm : Room} {Q : Qf} {pc : Nat}
/-- behind a new cell -/
theorem new_fin {kk : Pd} {pc' : Nat} {p : Program} {l : Launch} {e : Env} {s : State} {m : MethodId} {args : Array Value} {below : List Frame} {meth : Method} {c : Code} {D : va_G} {cy adV ad0 ad : Nat → Nat} {E0 A : Nat → Prop} {H1 : Heap} {locs : List Loc} {la : Array Slot} {E : Nat → Prop} {R' : Nat → Nat → Value} {I' : Nat → Nat → Int32} {J' : Nat → Nat → Int64} {a b : Nat} {ls : List (Nat × Value)} {st : List Value} {c0 q : Nat}
    (hk : Le kk (G cc own nL ret nm Rm Q pc')) (C : Cx cc own nL ret nm p s m args meth c) (hA : ∀ q, s.heap.size ≤ q → A q) (hS : va_S A s.heap H1 locs) (hF : Fr E0 ad0 E ad) (hl : lv_has la nL (mvl ad ls)) (hL : ∀ q ∈ ls, ok E q.2) (hT : ∀ v ∈ st, ok E v) (hkd : kd c0 < 22)
    (hH : HS D cy adV (va_up ad c0 q) (ue E c0) R' I' J' A s H1 ∧ (∀ c', E c' ∨ kd c' = 23 → va_up ad c0 q c' = ad c')) (h : kk ls (.ref c0 :: st) (ue E c0) R' I' J' a b) :
    W p l e Rm s m args below meth c H1 locs a b (Q s args below D cy adV ad0 E0 A) (F0 m pc' la (.ref q :: st.map (mv ad))) := by
  have e1 : (Value.ref q :: st.map (mv ad)) = (Value.ref c0 :: st).map (mv (va_up ad c0 q)) := by
    rw [List.map_cons, mvs_ok hT hH.2]
    show _ = Value.ref (va_up ad c0 q c0) :: _
    rw [up_eq]
  rw [e1]
  exact hk _ _ _ _ _ _ _ _ h p l e s m args below meth c D cy adV ad0 (va_up ad c0 q) E0 A H1 locs la C hA hH.1 hS (hF.trans (Fr.new hkd hH.2)) (by rw [mvl_ok hL hH.2]; exact hl) (fun q hq => ok_mono (hL q hq) (fun _ h => Or.inl h)) (okc (ok_r (Or.inr rfl)) (fun v hv => ok_mono (hT v hv) (fun _ h => Or.inl h)))
def i_new (ci MC MS : Nat) (kk : Pd) : Pd := fun ls st E R I J a b => ∃ c, kd c = ci ∧ ¬ E c ∧ (a + 1 ≤ MC ∧ b + vcN ci ≤ MS) ∧ kk ls (.ref c :: st) (ue E c) (ua R c (fun _ => .null)) (ua I c (fun _ => 0)) J (a + 1) (b + vcN ci)
theorem s_new {ci idx MC MS : Nat} {kk : Pd} (hd : decode cc pc = .ok (.new idx, 3)) (hci : ci < 13) (hl0 : Cond.classLink own idx (vcC ci).1 ∈ lw_good) (hR : MC ≤ Rm.cells ∧ MS ≤ Rm.slots) (hk : Le kk (G cc own nL ret nm Rm Q (pc + 3))) : Le (i_new ci MC MS kk) (G cc own nL ret nm Rm Q pc) := by
  intro ls st E R I J a b h
  obtain ⟨c0, hkd, hne, hroom, h⟩ := h
  intro p l e s m args below meth c D cy adV ad0 ad E0 A H locs la C hA hH hS hF hl hL hT
  obtain ⟨L, hLm, hP, hD⟩ := id hH.2.1
  have hts := C.2.2.2.2.2.1
  have hN := vcC_N ci hci
  have hN2 : b + (vcC ci).2.2 ≤ Rm.slots := by rw [hN]; omega
  refine va_new (ci := ci) (fs := (List.range (vcN ci)).map (fun k => if isR ci k then .null else .int 0)) (C := (vcC ci).1) (T := (vcC ci).2.1) (N := (vcC ci).2.2) C.1 C.2.1 hts (vcC_ws ci hci) (vcY ci) (vcC_ty ci hci) C.2.2.2.2.1 (hts _ hl0) (hts _ (vcC_inst ci hci)) (hts _ (vcC_ini ci hci)) hH.1.1 hP hD hS hA (vcC_at ci hci) (fun j hj => ?_) (by omega) hN2 hd (fun q H1 hP1 hD1 hS1 => ?_)
  · rw [vcC_df ci hci j hj]
    rw [hN] at hj
    simp [vp_V, rmap hj]
  · have hH1 := HS.new (c := c0) (R' := ua R c0 (fun _ => .null)) (I' := ua I c0 (fun _ => 0)) (J' := J) hH hA hS hS1 hne (by omega) hLm hP1 hD1 (fun c' h => ua_ne h) (fun c' h => ua_ne h) (fun c' h => rfl) (by rw [Cn_obj hkd hci, ua_eq, ua_eq]; rfl) (fun k => by rw [ua_eq])
    rw [hN]
    exact new_fin hk C hA hS1 hF hl hL hT (by omega) hH1 h
end NRows

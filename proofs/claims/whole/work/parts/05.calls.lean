/-! new cells, calls, returns -/
def rm (d mc ms : Nat) : Room := { frames := d, cells := mc, slots := ms, locals := 39 * d }
def Qm (K : Ps) (D : va_G) (cy adV ad0 : Nat → Nat) (E0 A : Nat → Prop) : Array Value → State → Outcome → State → Prop := fun _ st o t =>
  ∃ (r : Option Value) (ad' : Nat → Nat) (E' : Nat → Prop) (R' : Nat → Nat → Value) (I' : Nat → Nat → Int32) (J' : Nat → Nat → Int64), o = .returned (r.map (mv ad')) ∧ K r E' R' I' J' ∧ HS D cy adV ad' E' R' I' J' A t t.heap ∧ Fr E0 ad0 E' ad' ∧ (∀ v, r = some v → ok E' v) ∧ va_F A st t
def QM (mc ms : Nat) (K : Ps) : Qf := fun s args below D cy adV ad0 E0 A => MQ below (Qm K D cy adV ad0 E0 A) args s mc ms A
/-- a method's contract: from the logical heap E R I J with these arguments it comes to an answer and a heap that K allows -/
def CL (y : MethodName) (cc : ByteArray) (nL : Nat) (ret : Option FieldType) (d mc ms : Nat) (av : List Value) (E : Nat → Prop) (R : Nat → Nat → Value) (I : Nat → Nat → Int32) (J : Nat → Nat → Int64) (K : Ps) : Prop :=
  ∀ (l : Launch) (D : va_G) (cy adV ad : Nat → Nat) (A : Nat → Prop), Met l y (.code y cc nL ret :: lw_good) (rm d mc ms) (va_Pc (av.map (mv ad)) (fun U => (∀ q, U.heap.size ≤ q → A q) ∧ HS D cy adV ad E R I J A U U.heap ∧ ∀ v ∈ av, ok E v)) (Qm K D cy adV ad E A) mc ms A
theorem Fr.refl {E : Nat → Prop} {ad : Nat → Nat} : Fr E ad E ad := ⟨fun _ h => h, fun _ _ => rfl, fun _ h _ => h⟩
theorem Fr.trans {E0 E1 E2 : Nat → Prop} {a0 a1 a2 : Nat → Nat} (h : Fr E0 a0 E1 a1) (g : Fr E1 a1 E2 a2) : Fr E0 a0 E2 a2 :=
  ⟨fun c hc => g.1 c (h.1 c hc), fun c hc => by rw [g.2.1 c (hc.elim (fun z => Or.inl (h.1 c z)) Or.inr), h.2.1 c hc], fun c hc hk => h.2.2 c (g.2.2 c hc hk) hk⟩
theorem mv_ok {E : Nat → Prop} {ad ad' : Nat → Nat} {v : Value} (h : ok E v) (he : ∀ c, E c ∨ kd c = 23 → ad' c = ad c) : mv ad' v = mv ad v := by
  cases v with
  | ref c => exact congrArg Value.ref (he c (h c rfl))
  | _ => rfl
theorem mvs_ok {E : Nat → Prop} {ad ad' : Nat → Nat} {st : List Value} (h : ∀ v ∈ st, ok E v) (he : ∀ c, E c ∨ kd c = 23 → ad' c = ad c) : st.map (mv ad') = st.map (mv ad) :=
  List.map_congr_left fun v hv => mv_ok (h v hv) he
theorem mvl_ok {E : Nat → Prop} {ad ad' : Nat → Nat} {ls : List (Nat × Value)} (h : ∀ q ∈ ls, ok E q.2) (he : ∀ c, E c ∨ kd c = 23 → ad' c = ad c) : mvl ad' ls = mvl ad ls :=
  List.map_congr_left fun q hq => by rw [mv_ok (h q hq) he]
theorem ok_mono {E E' : Nat → Prop} {v : Value} (h : ok E v) (hm : ∀ c, E c → E' c) : ok E' v := fun c hc => (h c hc).elim (fun z => Or.inl (hm c z)) Or.inr
theorem lg_len (ad : Nat → Nat) (vs : List Value) : (lg_sl (vs.map (mv ad))).length = (lg_sl vs).length := by
  induction vs with
  | nil => rfl
  | cons v vs ih =>
    simp only [lg_sl, List.map_cons, List.flatMap_cons, List.length_append, mv_cat] at ih ⊢
    rw [ih]
    split <;> rfl
theorem lv_args_mv (ad : Nat → Nat) (vs : List Value) : ∀ i, lv_args i (vs.map (mv ad)) = mvl ad (lv_args i vs) := by
  induction vs with
  | nil => intro i; rfl
  | cons v vs ih =>
    intro i
    simp only [List.map_cons, lv_args, mv_cat, mvl] at ih ⊢
    rw [ih]
theorem ok_args {E : Nat → Prop} {av : List Value} : ∀ i, (∀ v ∈ av, ok E v) → ∀ q ∈ lv_args i av, ok E q.2 := by
  induction av with
  | nil => intro i _ q hq; cases hq
  | cons v vs ih =>
    intro i h q hq
    rcases List.mem_cons.mp hq with rfl | h2
    · exact okh h
    · exact ih _ (okt h) q h2
theorem CL.of {y : MethodName} {cc : ByteArray} {nL : Nat} {ret : Option FieldType} {d mc ms : Nat} {av : List Value} {E : Nat → Prop} {R : Nat → Nat → Value} {I : Nat → Nat → Int32} {J : Nat → Nat → Int64} {K : Ps} (hy : plainFor y = true) (hn : (lg_sl av).length ≤ nL)
    (h : G cc y.cls nL ret y.name (rm d mc ms) (QM mc ms K) 0 (lv_args 0 av) [] E R I J 0 0) : CL y cc nL ret d mc ms av E R I J K := by
  intro l D cy adV ad A
  refine va_MetF (cc := cc) (maxL := nL) (ret := ret) hy rfl ?_
  intro p e s m args below meth c s₁ B hml hv
  obtain ⟨rfl, hA, hH, hok⟩ := hv
  have hl := lv_entry (av.map (mv ad)) (n := nL) (by rw [lg_len]; exact hn)
  rw [lg_entry_eq]
  rw [lv_args_mv] at hl
  have hts := atoms_spec (ws := .code y cc nL ret :: lw_good) B.pre
  exact h p l e s m _ below meth c D cy adV ad ad E A s.heap [] _ ⟨B.exec, B.bytes, B.returns, hml, findClass_of_methodNamed B.named, fun w hw => hts w (List.mem_cons_of_mem _ hw), B.notSynchronized, (name_of_methodNamed B.named B.method).1⟩ hA hH va_S.rf Fr.refl hl (ok_args 0 hok) (fun v hv => by cases hv)
section CRows
variable {cc : ByteArray} {own : String} {nL : Nat} {ret : Option FieldType} {nm : String} {Rm : Room} {Q : Qf} {pc : Nat}
/-! returns -/
def i_iret (mc ms : Nat) (K : Ps) : Pd := fun _ st E R I J a b => match st with
  | [.int v] => a ≤ mc ∧ b ≤ ms ∧ K (some (.int v)) E R I J
  | _ => False
def i_zret (mc ms : Nat) (K : Ps) : Pd := fun _ st E R I J a b => match st with
  | [.int v] => (v = 0 ∨ v = 1) ∧ a ≤ mc ∧ b ≤ ms ∧ K (some (.int v)) E R I J
  | _ => False
def i_lret (mc ms : Nat) (K : Ps) : Pd := fun _ st E R I J a b => match st with
  | [.long v] => a ≤ mc ∧ b ≤ ms ∧ K (some (.long v)) E R I J
  | _ => False
def i_aret (mc ms : Nat) (K : Ps) : Pd := fun _ st E R I J a b => match st with
  | [.ref v] => a ≤ mc ∧ b ≤ ms ∧ K (some (.ref v)) E R I J
  | [.null] => a ≤ mc ∧ b ≤ ms ∧ K (some .null) E R I J
  | _ => False
def i_vret (mc ms : Nat) (K : Ps) : Pd := fun _ st E R I J a b => match st with
  | [] => a ≤ mc ∧ b ≤ ms ∧ K none E R I J
  | _ => False
theorem s_iret {mc ms : Nat} {K : Ps} (hd : decode cc pc = .ok (.ireturn, 1)) (hr : ret = some .int) : Le (i_iret mc ms K) (G cc own nL ret nm Rm (QM mc ms K) pc) := by
  intro ls st E R I J a b h
  match st, h with
  | [.int v], h =>
    intro p l e s m args below meth c D cy adV ad0 ad E0 A H locs la C hA hH hS hF hl hL hT
    refine W.widen h.1 h.2.1 ?_
    exact W.iret (v := v) C.1 C.2.1 (by rw [C.2.2.1, hr]) (fun t ht hW => ⟨some (.int v), ad, E, R, I, J, rfl, h.2.2, by rw [ht]; exact hH.warm hW, hF, fun w hw => by cases hw; exact ok_i, hS.F ht⟩) hS.2.2 hd C.2.2.2.2.2.2.1
theorem s_zret {mc ms : Nat} {K : Ps} (hd : decode cc pc = .ok (.ireturn, 1)) (hr : ret = some .boolean) : Le (i_zret mc ms K) (G cc own nL ret nm Rm (QM mc ms K) pc) := by
  intro ls st E R I J a b h
  match st, h with
  | [.int v], h =>
    intro p l e s m args below meth c D cy adV ad0 ad E0 A H locs la C hA hH hS hF hl hL hT
    refine W.widen h.2.1 h.2.2.1 ?_
    exact W.zret (v := v) (ty := .boolean) C.1 C.2.1 (by rw [C.2.2.1, hr]) (by rcases h.1 with z | z <;> subst z <;> rfl) (fun t ht hW => ⟨some (.int v), ad, E, R, I, J, rfl, h.2.2.2, by rw [ht]; exact hH.warm hW, hF, fun w hw => by cases hw; exact ok_i, hS.F ht⟩) hS.2.2 hd C.2.2.2.2.2.2.1
theorem s_lret {mc ms : Nat} {K : Ps} (hd : decode cc pc = .ok (.lreturn, 1)) (hr : ret = some .long) : Le (i_lret mc ms K) (G cc own nL ret nm Rm (QM mc ms K) pc) := by
  intro ls st E R I J a b h
  match st, h with
  | [.long v], h =>
    intro p l e s m args below meth c D cy adV ad0 ad E0 A H locs la C hA hH hS hF hl hL hT
    refine W.widen h.1 h.2.1 ?_
    exact W.lret (v := v) C.1 C.2.1 (by rw [C.2.2.1, hr]) (fun t ht hW => ⟨some (.long v), ad, E, R, I, J, rfl, h.2.2, by rw [ht]; exact hH.warm hW, hF, fun w hw => by cases hw; exact ok_l, hS.F ht⟩) hS.2.2 hd C.2.2.2.2.2.2.1
theorem s_aret {mc ms : Nat} {K : Ps} {cn : String} (hd : decode cc pc = .ok (.areturn, 1)) (hr : ret = some (.object cn)) : Le (i_aret mc ms K) (G cc own nL ret nm Rm (QM mc ms K) pc) := by
  intro ls st E R I J a b h
  match st, h with
  | [.ref v], h =>
    intro p l e s m args below meth c D cy adV ad0 ad E0 A H locs la C hA hH hS hF hl hL hT
    refine W.widen h.1 h.2.1 ?_
    exact W.aret (v := .ref (ad v)) C.1 C.2.1 (by rw [C.2.2.1, hr]) (Or.inl ⟨_, rfl⟩) (Or.inr ⟨_, rfl⟩) (fun t ht hW => ⟨some (.ref v), ad, E, R, I, J, rfl, h.2.2, by rw [ht]; exact hH.warm hW, hF, fun w hw => by cases hw; exact okh hT, hS.F ht⟩) hS.2.2 hd C.2.2.2.2.2.2.1
  | [.null], h =>
    intro p l e s m args below meth c D cy adV ad0 ad E0 A H locs la C hA hH hS hF hl hL hT
    refine W.widen h.1 h.2.1 ?_
    exact W.aret (v := .null) C.1 C.2.1 (by rw [C.2.2.1, hr]) (Or.inl ⟨_, rfl⟩) (Or.inl rfl) (fun t ht hW => ⟨some .null, ad, E, R, I, J, rfl, h.2.2, by rw [ht]; exact hH.warm hW, hF, fun w hw => by cases hw; exact ok_n, hS.F ht⟩) hS.2.2 hd C.2.2.2.2.2.2.1
theorem s_vret {mc ms : Nat} {K : Ps} (hd : decode cc pc = .ok (.return_, 1)) (hr : ret = none) : Le (i_vret mc ms K) (G cc own nL ret nm Rm (QM mc ms K) pc) := by
  intro ls st E R I J a b h
  match st, h with
  | [], h =>
    intro p l e s m args below meth c D cy adV ad0 ad E0 A H locs la C hA hH hS hF hl hL hT
    refine W.widen h.1 h.2.1 ?_
    exact W.vret C.1 C.2.1 (by rw [C.2.2.1, hr]) (fun t ht hW => ⟨none, ad, E, R, I, J, rfl, h.2.2, by rw [ht]; exact hH.warm hW, hF, (fun w hw => by cases hw), hS.F ht⟩) hS.2.2 hd C.2.2.2.2.2.2.1
/-! Object() -/
def i_obj (kk : Pd) : Pd := fun ls st E R I J a b => match st with
  | .ref _ :: st => st.length ≤ 4 ∧ kk ls st E R I J a b
  | _ => False
theorem cat_le (ad : Nat → Nat) : ∀ st : List Value, st.length ≤ 4 → ((st.map (mv ad)).map fun v => v.category).sum ≤ 8 := by
  have h1 : ∀ v : Value, v.category ≤ 2 := fun v => by rcases lv_cat v with h | h <;> omega
  have h2 : ∀ l : List Value, (l.map fun v => v.category).sum ≤ 2 * l.length := by
    intro l
    induction l with
    | nil => simp
    | cons v l ih => simp only [List.map_cons, List.sum_cons, List.length_cons]; have := h1 v; omega
  intro st h
  have := h2 (st.map (mv ad))
  rw [List.length_map] at this
  omega
theorem s_obj {idx : Nat} {kk : Pd} (hd : decode cc pc = .ok (.invokespecial idx, 3)) (hl0 : Cond.methodLink own idx Lib.objectInit ∈ lw_good) (hR : 1 ≤ Rm.frames ∧ 39 ≤ Rm.locals) (hk : Le kk (G cc own nL ret nm Rm Q (pc + 3))) : Le (i_obj kk) (G cc own nL ret nm Rm Q pc) := by
  intro ls st E R I J a b h
  match st, h with
  | .ref c0 :: st, h =>
    intro p l e s m args below meth c D cy adV ad0 ad E0 A H locs la C hA hH hS hF hl hL hT
    have hcat := cat_le ad st h.1
    refine W.objInit C.1 C.2.1 C.2.2.2.2.1 (C.2.2.2.2.2.1 _ hl0) (C.2.2.2.2.2.1 _ (lw_gm (by decide +kernel) (by decide +kernel))) (C.2.2.2.2.2.1 _ (lw_gm (w := .code Lib.objectInit ⟨#[0xb1]⟩ 1 none) (by decide +kernel) (by decide +kernel))) rfl (by rw [C.2.2.2.1]; exact hl.1) rfl hd hR.1 (by show 2 * 0 + _ + 12 ≤ _; omega) ?_
    exact hk _ _ _ _ _ _ _ _ h.2 p l e s m args below meth c D cy adV ad0 ad E0 A H locs la C hA hH hS hF hl hL (okt hT)
/-! calls -/
/-- the callee's own cells -/
def A1 (E : Nat → Prop) (ad : Nat → Nat) (n : Nat) : Nat → Prop := fun q => (∃ c, E c ∧ kd c < 22 ∧ ad c = q) ∨ n ≤ q
theorem A1_sub {D : va_G} {cy adV ad : Nat → Nat} {E : Nat → Prop} {R : Nat → Nat → Value} {I : Nat → Nat → Int32} {J : Nat → Nat → Int64} {A : Nat → Prop} {s : State} {H : Heap} {locs : List Loc} (hH : HS D cy adV ad E R I J A s H) (hS : va_S A s.heap H locs) (hA : ∀ q, s.heap.size ≤ q → A q) : ∀ q, A1 E ad H.size q → A q := by
  intro q hq
  rcases hq with ⟨c, hc, hk, rfl⟩ | h
  · obtain ⟨L, k, -, -, hD, -, hm, -⟩ := hH.at hc hk
    exact hD.2 k _ hm
  · exact hA q (Nat.le_trans hS.1 h)
theorem HS.call {D : va_G} {cy adV ad : Nat → Nat} {E : Nat → Prop} {R : Nat → Nat → Value} {I : Nat → Nat → Int32} {J : Nat → Nat → Int64} {A : Nat → Prop} {s U : State} {H : Heap} {locs : List Loc} (hH : HS D cy adV ad E R I J A s H) (hS : va_S A s.heap H locs) (hA : ∀ q, s.heap.size ≤ q → A q) (hW : s.WarmedH U.vm) : HS D cy adV ad E R I J (A1 E ad H.size) U H := by
  have hsub := A1_sub hH hS hA
  refine ⟨(hH.1.warm hW).narrow hsub, ?_, hH.2.2.1, fun c hc hk => ⟨va_X.moved hW.alike (hH.2.2.2 c hc hk).1, fun h => (hH.2.2.2 c hc hk).2 (hsub _ h)⟩⟩
  obtain ⟨L, hL, hP, hD⟩ := hH.2.1
  refine ⟨L, hL, hP, hD.weaken (fun k q hq _ => ?_)⟩
  rw [List.getElem?_map] at hq
  cases hk : L[k]? with
  | none => rw [hk] at hq; cases hq
  | some c =>
    rw [hk] at hq
    cases hq
    have := (hL c).mp (List.mem_of_getElem? hk)
    exact Or.inl ⟨c, this.1, this.2, rfl⟩
theorem HS.back {D : va_G} {cy adV ad ad' : Nat → Nat} {E E' : Nat → Prop} {R R' : Nat → Nat → Value} {I I' : Nat → Nat → Int32} {J J' : Nat → Nat → Int64} {A : Nat → Prop} {s t : State} {H H1 : Heap} {locs locs1 : List Loc} (hH : HS D cy adV ad E R I J A s H) (hS : va_S A s.heap H locs) (hA : ∀ q, s.heap.size ≤ q → A q) (hS1 : va_S A s.heap H1 locs1)
    (hv : s.vm.Alike t.vm) (hF : Fr E ad E' ad') (h1 : HS D cy adV ad' E' R' I' J' (A1 E ad H.size) t H1) : HS D cy adV ad' E' R' I' J' A s H1 := by
  have hsub := A1_sub hH hS hA
  have hq : ∀ q : Nat, ¬ A q → H1[q]? = H[q]? := fun q hn => by
    have hl : q < s.heap.size := Nat.not_le.mp fun z => hn (hA q z)
    rw [hS1.2.1 q hl hn, hS.2.1 q hl hn]
  refine ⟨(hH.1.kept hq).ad (fun c hc => hF.2.1 c (Or.inr hc)), ?_, h1.2.2.1, fun c hc hk => ⟨va_X.moved hv.symm (h1.2.2.2 c hc hk).1, ?_⟩⟩
  · obtain ⟨L, hL, hP, hD⟩ := h1.2.1
    exact ⟨L, hL, hP, hD.weaken (fun k q _ z => hsub _ z)⟩
  · have hc0 := hF.2.2 c hc (by omega)
    rw [hF.2.1 c (Or.inl hc0)]
    exact (hH.2.2.2 c hc0 hk).2
theorem call_go {p : Program} {l : Launch} {e : Env} {s : State} {m : MethodId} {args : Array Value} {below : List Frame} {meth : Method} {c : Code} {H : Heap} {locs : List Loc} {cells slots : Nat} {Q : State → Prop} {pc : Nat} {ls : Array Slot} {rest st0 : List Value} {a0 : Array Value} {A0 A2 : Nat → Prop} {H0 : Heap} {mc ms : Nat} {K : Ps} {D : va_G} {cy adV ad : Nat → Nat} {E : Nat → Prop}
    (hr : va_Run p l e Rm s m args below meth c H locs cells slots mc ms (F0 m pc ls st0) rest (Qm K D cy adV ad E A2 a0) A2) (hS : va_S A0 H0 H locs) (hA : ∀ q, A2 q → A0 q)
    (kk : ∀ (r : Option Value) (ad' : Nat → Nat) (E' : Nat → Prop) (R' : Nat → Nat → Value) (I' : Nat → Nat → Int32) (J' : Nat → Nat → Int64) (t : State) (H1 : Heap) (locs1 : List Loc), s.vm.Alike t.vm → K r E' R' I' J' → HS D cy adV ad' E' R' I' J' A2 t H1 → Fr E ad E' ad' → (∀ v, r = some v → ok E' v) → va_S A0 H0 H1 locs1 → W p l e Rm s m args below meth c H1 locs1 (cells + mc) (slots + ms) Q (F0 m (pc + 3) ls ((r.map (mv ad')).toList ++ rest))) : W p l e Rm s m args below meth c H locs cells slots Q (F0 m pc ls st0) := by
  intro T hT X
  obtain ⟨v, st₀, t, T', L, h0, X', hL, e1, e2, ⟨r, ad', E', R', I', J', hv, hK, hh, hF, hok, hz, hk⟩, st⟩ := hr T hT X
  cases hv
  rw [h0] at hz hk
  obtain ⟨t2, a1, b1⟩ := kk r ad' E' R' I' J' t T'.heap (locs ++ L) (by rw [← e2]; exact X'.warmed.alike) hK (by rw [e1]; exact hh) hF hok
    ⟨Nat.le_trans hS.1 (by rw [e1]; exact hz), fun q h1 h2 => by rw [e1, hk q (Nat.lt_of_lt_of_le h1 hS.1) (fun z => h2 (hA q z))]; exact hS.2.1 q h1 h2, fun q hq => by
      rcases List.mem_append.mp hq with h | h
      · exact hS.2.2 q h
      · exact hA _ (hL q h)⟩ T' rfl X'
  exact ⟨t2, st t2 a1, b1⟩
/-- the arguments on the stack, n of them -/
def sa : Nat → List Value → List Value → Option (List Value × List Value)
  | 0, acc, st => some (acc, st)
  | n + 1, acc, v :: st => sa n (v :: acc) st
  | _ + 1, _, [] => none
theorem sa_spec : ∀ (n : Nat) (acc st av st' : List Value), sa n acc st = some (av, st') → ∃ as : List Value, as.length = n ∧ st = as ++ st' ∧ av = as.reverse ++ acc
  | 0, acc, st, av, st', h => by cases h; exact ⟨[], rfl, rfl, rfl⟩
  | n + 1, acc, v :: st, av, st', h => by
    obtain ⟨as, h1, h2, h3⟩ := sa_spec n (v :: acc) st av st' h
    exact ⟨v :: as, by simp [h1], by simp [h2], by simp [h3]⟩
  | n + 1, acc, [], av, st', h => by cases h
def rcv (ci : Nat) : List Value → Prop
  | .ref c :: _ => kd c = ci
  | _ => False
/-- a call: of a method of class ci on an object (kind 0), of a constructor (1), of a static method (2) -/
def i_call (kind ci : Nat) (y : MethodName) (cc' : ByteArray) (nL' : Nat) (ret' : Option FieldType) (MC MS d' n : Nat) (kk : Pd) : Pd := fun ls st E R I J a b =>
  match sa n [] st with
  | some (av, st') => (a ≤ MC ∧ b ≤ MS ∧ st'.length ≤ 4) ∧ (kind = 2 ∨ rcv ci av) ∧ CL y cc' nL' ret' d' 0 0 av E R I J (fun r E' R' I' J' => kk ls (r.toList ++ st') E' R' I' J' a b)
  | none => False
/-- a call that makes cells: at most mc' of ms' slots -/
def i_callA (kind ci : Nat) (y : MethodName) (cc' : ByteArray) (nL' : Nat) (ret' : Option FieldType) (MC MS d' n : Nat) (kk : Pd) : Pd := fun ls st E R I J a b =>
  match sa n [] st with
  | some (av, st') => st'.length ≤ 4 ∧ (kind = 2 ∨ rcv ci av) ∧ ∃ mc' ms', (a + mc' ≤ MC ∧ b + ms' ≤ MS) ∧ CL y cc' nL' ret' d' mc' ms' av E R I J (fun r E' R' I' J' => kk ls (r.toList ++ st') E' R' I' J' (a + mc') (b + ms'))
  | none => False
/-- what a call's words say -/
def ML (own : String) (idx kind ci : Nat) (y : MethodName) (cc' : ByteArray) (nL' : Nat) (ret' : Option FieldType) (n : Nat) : Prop :=
  (∀ w ∈ ([.methodLink own idx y, .initialized y.cls, .code y cc' nL' ret'] ++ (if kind = 0 then [.instanceMethod y, .selects y.cls y y] else if kind = 1 then [.instanceMethod y] else [.static y]) : List Cond), w ∈ lw_tbl ∧ goodWord w = true)
  ∧ (kind = 2 ∨ (ci < 13 ∧ y.cls = (vcC ci).1)) ∧ (kind = 1 → y.name = "<init>" ∧ ret' = none) ∧ (y.cls ≠ "java/lang/invoke/MethodHandle" ∧ y.cls ≠ "java/lang/invoke/VarHandle") ∧ (parseMethodDescriptor y.desc).map (fun d => d.parameters.length) = some (if kind = 2 then n else n - 1) ∧ (kind = 2 ∨ 1 ≤ n) ∧ nL' ≤ 20 ∧ kind < 3
theorem good_lw {w : Cond} (h : w ∈ lw_good) : (w.onTables && w.keeps) = true ∨ ∃ ty, w = .arrayClass ty := good_of_word (List.mem_filter.mp h).2
theorem call_all {kind ci idx : Nat} {y : MethodName} {cc' : ByteArray} {nL' : Nat} {ret' : Option FieldType} {d' n mc' ms' : Nat} {K : Ps} {p : Program} {l : Launch} {e : Env} {s : State} {m : MethodId} {args : Array Value} {below : List Frame} {meth : Method} {c : Code} {D : va_G} {cy adV ad : Nat → Nat} {A : Nat → Prop} {H : Heap} {locs : List Loc} {la : Array Slot} {E : Nat → Prop} {R : Nat → Nat → Value} {I : Nat → Nat → Int32} {J : Nat → Nat → Int64} {a b : Nat} {av st st' : List Value}
    (hd : decode cc pc = .ok (if kind = 0 then .invokevirtual idx else if kind = 1 then .invokespecial idx else .invokestatic idx, 3)) (hM : ML own idx kind ci y cc' nL' ret' n) (hR : d' + 1 ≤ Rm.frames ∧ 39 * (d' + 1) ≤ Rm.locals)
    (C : Cx cc own nL ret nm p s m args meth c) (hA : ∀ q, s.heap.size ≤ q → A q) (hH : HS D cy adV ad E R I J A s H) (hS : va_S A s.heap H locs) (hls : la.size = nL) (hT : ∀ v ∈ st, ok E v)
    (hsa : sa n [] st = some (av, st')) (hlen : st'.length ≤ 4) (hrecv : kind = 2 ∨ rcv ci av)
    (hC : CL y cc' nL' ret' d' mc' ms' av E R I J K) (hroom : a + mc' ≤ Rm.cells ∧ b + ms' ≤ Rm.slots) :
    va_Run p l e Rm s m args below meth c H locs a b mc' ms' (F0 m pc la (st.map (mv ad))) (st'.map (mv ad)) (Qm K D cy adV ad E (A1 E ad H.size) (av.map (mv ad)).toArray) (A1 E ad H.size) := by
  obtain ⟨as, ha1, ha2, ha3⟩ := sa_spec n [] st av st' hsa
  rw [List.append_nil] at ha3
  obtain ⟨hw, hcl, hini, hy, hpar, hn1, hnl, hk3⟩ := hM
  have hts := C.2.2.2.2.2.1
  have hin : ∀ w ∈ ([.methodLink own idx y, .initialized y.cls, .code y cc' nL' ret'] ++ (if kind = 0 then [.instanceMethod y, .selects y.cls y y] else if kind = 1 then [.instanceMethod y] else [.static y]) : List Cond), w ∈ lw_good := fun w h => lw_gm (hw w h).1 (hw w h).2
  have hcode : Cond.code y cc' nL' ret' ∈ lw_good := hin _ (by simp)
  have hlink : Cond.methodLink own idx y ∈ lw_good := hin _ (by simp)
  have hinit : Cond.initialized y.cls ∈ lw_good := hin _ (by simp)
  have hM := hC l D cy adV ad (A1 E ad H.size)
  have hgood : GoodIn lw_good (.code y cc' nL' ret' :: lw_good) := fun w h => by
    rcases List.mem_cons.mp h with rfl | h
    · exact ⟨hcode, good_lw hcode⟩
    · exact ⟨h, good_lw h⟩
  have hcb : ∀ n', (parseMethodDescriptor y.desc).map (fun d => d.parameters.length) = some n' → CallB Rm s args own idx y cc' nL' ret' (.code y cc' nL' ret' :: lw_good) (rm d' mc' ms') mc' ms' n' := fun n' hn' =>
    callB_of n' hts hgood rfl rfl rfl (hts _ hinit) (hts _ hlink) ⟨hy.1, hy.2, hn'⟩ ⟨hR.1, by show 8 + (nL' + 11) + 39 * d' ≤ _; omega⟩
  have hok : ∀ v ∈ av, ok E v := fun v hv => hT v (by rw [ha2]; exact List.mem_append_left _ (List.mem_reverse.mp (by rw [← ha3]; exact hv)))
  have hcat := cat_le ad st' hlen
  have hblind : FrameBlind (va_Pc (av.map (mv ad)) (fun U => (∀ q, U.heap.size ≤ q → A1 E ad H.size q) ∧ HS D cy adV ad E R I J (A1 E ad H.size) U U.heap ∧ ∀ v ∈ av, ok E v)) := by
    intro a1 U g mk q
    obtain ⟨q0, q1, q2, q3⟩ := q
    exact ⟨q0, q1, q2.warm (State.WarmedH.refl U), q3⟩
  have hpre : ∀ U : State, U.heap = H → s.WarmedH U.vm → va_Pc (av.map (mv ad)) (fun U => (∀ q, U.heap.size ≤ q → A1 E ad H.size q) ∧ HS D cy adV ad E R I J (A1 E ad H.size) U U.heap ∧ ∀ v ∈ av, ok E v) (av.map (mv ad)).toArray U := fun U hU hW =>
    ⟨rfl, fun q hq => Or.inr (by rw [← hU]; exact hq), by rw [hU]; exact hH.call hS hA hW, hok⟩
  have hfix : CallFix p m c cc nL s args lw_good own := ⟨C.1, C.2.1, C.2.2.2.1, C.2.2.2.2.1, hts⟩
  have hmap : st.map (mv ad) = (av.map (mv ad)).reverse ++ st'.map (mv ad) := by rw [ha2, ha3, List.map_append, List.map_reverse, List.reverse_reverse]
  have hlav : av.length = n := by rw [ha3, List.length_reverse, ha1]
  by_cases k2 : kind = 2
  · subst k2
    refine va_runS (As := av.map (mv ad)) hfix hM ⟨hcb n (by simpa using hpar), hts _ (hin _ (by simp))⟩ ⟨hblind, hpre⟩ rfl (by simp [hlav]) hls hmap (lv_room hcat) (by simpa using hd) hroom
  · obtain ⟨hci, hcls⟩ := hcl.resolve_left k2
    have hrv0 := hrecv.resolve_left k2
    clear hsa ha3 hrecv
    cases av with
    | nil => exact hrv0.elim
    | cons v av' =>
    cases v with
    | ref c0 =>
      have hpar' : (parseMethodDescriptor y.desc).map (fun d => d.parameters.length) = some av'.length := by
        rw [hpar, if_neg k2, ← hlav]; rfl
      have hmap' : st.map (mv ad) = (av'.map (mv ad)).reverse ++ .ref (ad c0) :: st'.map (mv ad) := by rw [hmap]; simp [mv]
      by_cases k0 : kind = 0
      · subst k0
        have hkd : kd c0 = ci := hrv0
        have hcE : E c0 := (hok _ List.mem_cons_self c0 rfl).elim id (fun h => by omega)
        obtain ⟨L, q, -, hP, -, -, hm, -⟩ := hH.at hcE (by omega)
        rw [Cn_obj hkd hci] at hm
        have hrv := va_recv hH.1.1 hP (vcC_at ci hci) hm
        refine va_runV (C := y.cls) (As := av'.map (mv ad)) hfix hM ⟨hcb _ hpar', hts _ (hin _ (by simp)), hts _ (hin _ (by simp))⟩ ⟨hblind, by rw [hcls]; exact hrv, hpre⟩ rfl (by simp) hls hmap' (lv_room hcat) (by simpa using hd) hroom
      · have k1 : kind = 1 := by omega
        subst k1
        obtain ⟨hi1, hi2⟩ := hini rfl
        subst hi2
        refine va_runI (b := ad c0) (As := av'.map (mv ad)) hfix hM ⟨hcb _ hpar', hi1, hts _ (hin _ (by simp))⟩ ⟨hblind, hpre⟩ rfl (by simp) hls hmap' (lv_room hcat) (by simpa using hd) hroom
    | _ => exact hrv0.elim
theorem call_fin {n : Nat} {kk : Pd} {p : Program} {l : Launch} {e : Env} {s : State} {m : MethodId} {args : Array Value} {below : List Frame} {meth : Method} {c : Code} {D : va_G} {cy adV ad0 ad : Nat → Nat} {E0 A : Nat → Prop} {H : Heap} {locs : List Loc} {la : Array Slot} {E : Nat → Prop} {R : Nat → Nat → Value} {I : Nat → Nat → Int32} {J : Nat → Nat → Int64} {a b mc' ms' : Nat} {ls : List (Nat × Value)} {av st st' : List Value}
    (hk : Le kk (G cc own nL ret nm Rm Q (pc + 3))) (C : Cx cc own nL ret nm p s m args meth c) (hA : ∀ q, s.heap.size ≤ q → A q) (hH : HS D cy adV ad E R I J A s H) (hS : va_S A s.heap H locs) (hF : Fr E0 ad0 E ad) (hl : lv_has la nL (mvl ad ls)) (hL : ∀ q ∈ ls, ok E q.2) (hT : ∀ v ∈ st, ok E v) (hsa : sa n [] st = some (av, st'))
    (hr : va_Run p l e Rm s m args below meth c H locs a b mc' ms' (F0 m pc la (st.map (mv ad))) (st'.map (mv ad)) (Qm (fun r E' R' I' J' => kk ls (r.toList ++ st') E' R' I' J' (a + mc') (b + ms')) D cy adV ad E (A1 E ad H.size) (av.map (mv ad)).toArray) (A1 E ad H.size)) :
    W p l e Rm s m args below meth c H locs a b (Q s args below D cy adV ad0 E0 A) (F0 m pc la (st.map (mv ad))) := by
  refine call_go hr hS (A1_sub hH hS hA) (fun r ad' E' R' I' J' t H1 locs1 hv hK h1 hF1 hok1 hS1 => ?_)
  obtain ⟨as, ha1, ha2, ha3⟩ := sa_spec n [] st av st' hsa
  have hT' : ∀ v ∈ st', ok E v := fun v hv => hT v (by rw [ha2]; exact List.mem_append_right _ hv)
  have e1 : (r.map (mv ad')).toList ++ st'.map (mv ad) = (r.toList ++ st').map (mv ad') := by
    rw [List.map_append, mvs_ok hT' hF1.2.1]
    cases r <;> rfl
  rw [e1]
  refine hk _ _ _ _ _ _ _ _ hK p l e s m args below meth c D cy adV ad0 ad' E0 A H1 locs1 la C hA (HS.back hH hS hA hS1 hv hF1 h1) hS1 (hF.trans hF1) (by rw [mvl_ok hL hF1.2.1]; exact hl) (fun q hq => ok_mono (hL q hq) hF1.1) (fun v hv => ?_)
  rcases List.mem_append.mp hv with z | z
  · cases r with
    | none => cases z
    | some w => rw [List.mem_singleton.mp z]; exact hok1 w rfl
  · exact ok_mono (hT' v z) hF1.1
theorem s_call {kind ci idx : Nat} {y : MethodName} {cc' : ByteArray} {nL' : Nat} {ret' : Option FieldType} {MC MS d' n : Nat} {kk : Pd} (hd : decode cc pc = .ok (if kind = 0 then .invokevirtual idx else if kind = 1 then .invokespecial idx else .invokestatic idx, 3)) (hM : ML own idx kind ci y cc' nL' ret' n) (hR : (d' + 1 ≤ Rm.frames ∧ 39 * (d' + 1) ≤ Rm.locals) ∧ MC ≤ Rm.cells ∧ MS ≤ Rm.slots)
    (hk : Le kk (G cc own nL ret nm Rm Q (pc + 3))) : Le (i_call kind ci y cc' nL' ret' MC MS d' n kk) (G cc own nL ret nm Rm Q pc) := by
  intro ls st E R I J a b h
  unfold i_call at h
  split at h
  next av st' hsa =>
    obtain ⟨⟨h1, h2, hlen⟩, hrecv, hC⟩ := h
    intro p l e s m args below meth c D cy adV ad0 ad E0 A H locs la C hA hH hS hF hl hL hT
    exact call_fin (mc' := 0) (ms' := 0) hk C hA hH hS hF hl hL hT hsa (call_all hd hM hR.1 C hA hH hS hl.1 hT hsa hlen hrecv hC ⟨Nat.le_trans h1 hR.2.1, Nat.le_trans h2 hR.2.2⟩)
  next => exact h.elim
theorem s_callA {kind ci idx : Nat} {y : MethodName} {cc' : ByteArray} {nL' : Nat} {ret' : Option FieldType} {MC MS d' n : Nat} {kk : Pd} (hd : decode cc pc = .ok (if kind = 0 then .invokevirtual idx else if kind = 1 then .invokespecial idx else .invokestatic idx, 3)) (hM : ML own idx kind ci y cc' nL' ret' n) (hR : (d' + 1 ≤ Rm.frames ∧ 39 * (d' + 1) ≤ Rm.locals) ∧ MC ≤ Rm.cells ∧ MS ≤ Rm.slots)
    (hk : Le kk (G cc own nL ret nm Rm Q (pc + 3))) : Le (i_callA kind ci y cc' nL' ret' MC MS d' n kk) (G cc own nL ret nm Rm Q pc) := by
  intro ls st E R I J a b h
  unfold i_callA at h
  split at h
  next av st' hsa =>
    obtain ⟨hlen, hrecv, mc', ms', ⟨h1, h2⟩, hC⟩ := h
    intro p l e s m args below meth c D cy adV ad0 ad E0 A H locs la C hA hH hS hF hl hL hT
    exact call_fin hk C hA hH hS hF hl hL hT hsa (call_all hd hM hR.1 C hA hH hS hl.1 hT hsa hlen hrecv hC ⟨Nat.le_trans h1 hR.2.1, Nat.le_trans h2 hR.2.2⟩)
  next => exact h.elim
end CRows

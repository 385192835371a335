/-! rows for the JDK's texts -/
section SRows
variable {cc : ByteArray} {own : String} {nL : Nat} {ret : Option FieldType} {nm : String} {Rm : Room} {Q : Qf} {pc : Nat}
def i_dead : Pd := fun _ _ _ _ _ _ _ _ => False
theorem s_dead {g : Pd} : Le i_dead g := fun _ _ _ _ _ _ _ _ h => h.elim
def i_i2c (kk : Pd) : Pd := fun ls st E R I J a b => match st with
  | .int x :: st => kk ls (.int (x.toUInt32 % 65536).toInt32 :: st) E R I J a b
  | _ => False
theorem s_i2c {kk : Pd} (hd : decode cc pc = .ok (.i2c, 1)) (hk : Le kk (G cc own nL ret nm Rm Q (pc + 1))) : Le (i_i2c kk) (G cc own nL ret nm Rm Q pc) := by
  intro ls st E R I J a b h
  match st, h with
  | .int x :: st, h =>
    intro p l e s m args below meth c D cy adV ad0 ad E0 A H locs la C hA hH hS hF hl hL hT
    exact lv_i2c C.1 C.2.1 hd rfl (hk _ _ _ _ _ _ _ _ h p l e s m args below meth c D cy adV ad0 ad E0 A H locs la C hA hH hS hF hl hL (okc ok_i (okt hT)))
def i_pop (kk : Pd) : Pd := fun ls st E R I J a b => match st with
  | .int _ :: st => kk ls st E R I J a b
  | _ => False
theorem s_pop {kk : Pd} (hd : decode cc pc = .ok (.pop, 1)) (hk : Le kk (G cc own nL ret nm Rm Q (pc + 1))) : Le (i_pop kk) (G cc own nL ret nm Rm Q pc) := by
  intro ls st E R I J a b h
  match st, h with
  | .int x :: st, h =>
    intro p l e s m args below meth c D cy adV ad0 ad E0 A H locs la C hA hH hS hF hl hL hT
    exact lv_pop C.1 C.2.1 hd rfl (hk _ _ _ _ _ _ _ _ h p l e s m args below meth c D cy adV ad0 ad E0 A H locs la C hA hH hS hF hl hL (okt hT))
def i_nret (ty : FieldType) (mc ms : Nat) (K : Ps) : Pd := fun _ st E R I J a b => match st with
  | [.int v] => narrow ty (.int v) = .int v ∧ a ≤ mc ∧ b ≤ ms ∧ K (some (.int v)) E R I J
  | _ => False
theorem s_nret {ty : FieldType} {mc ms : Nat} {K : Ps} (hd : decode cc pc = .ok (.ireturn, 1)) (hr : ret = some ty) : Le (i_nret ty mc ms K) (G cc own nL ret nm Rm (QM mc ms K) pc) := by
  intro ls st E R I J a b h
  match st, h with
  | [.int v], h =>
    intro p l e s m args below meth c D cy adV ad0 ad E0 A H locs la C hA hH hS hF hl hL hT
    refine W.widen h.2.1 h.2.2.1 ?_
    exact W.zret (v := v) (ty := ty) C.1 C.2.1 (by rw [C.2.2.1, hr]) h.1 (fun t ht hW => ⟨some (.int v), ad, E, R, I, J, rfl, h.2.2.2, by rw [ht]; exact hH.warm hW, hF, fun w hw => by cases hw; exact ok_i, hS.F ht⟩) hS.2.2 hd C.2.2.2.2.2.2.1
def i_gcs (kk : Pd) : Pd := fun ls st E R I J a b => kk ls (.int 1 :: st) E R I J a b
theorem s_gcs {idx : Nat} {kk : Pd} (hd : decode cc pc = .ok (.getstatic idx, 3)) (hl0 : Cond.fieldLink own idx "java/lang/String" "COMPACT_STRINGS" "Z" ∈ lw_good) (hk : Le kk (G cc own nL ret nm Rm Q (pc + 3))) : Le (i_gcs kk) (G cc own nL ret nm Rm Q pc) := by
  intro ls st E R I J a b h
  intro p l e s m args below meth c D cy adV ad0 ad E0 A H locs la C hA hH hS hF hl hL hT
  obtain ⟨cf, kf, fi, f, a0, cell, h1, h2, h3, h4, h5, h6, h7, h8⟩ := hH.1.2.2.2.2.2.1
  exact W.gets C.1 C.2.1 C.2.2.2.2.1 (C.2.2.2.2.2.1 _ hl0) h1 h2 h3 h4 h5 (fun e => by rw [e] at h6; cases h6) h7 rfl hd (hk _ _ _ _ _ _ _ _ h p l e s m args below meth c D cy adV ad0 ad E0 A H locs la C hA hH hS hF hl hL (okc ok_i hT))
def i_fmt (kk : Pd) : Pd := fun ls st E R I J a b => kk ls (.null :: st) E R I J a b ∧ kk ls (.ref (rc 60 0) :: st) E R I J a b
theorem s_fmt {idx : Nat} {kk : Pd} (hd : decode cc pc = .ok (.getstatic idx, 3)) (hl0 : Cond.fieldLink own idx "jdk/internal/util/Preconditions" "SIOOBE_FORMATTER" "Ljava/util/function/BiFunction;" ∈ lw_good) (hk : Le kk (G cc own nL ret nm Rm Q (pc + 3))) : Le (i_fmt kk) (G cc own nL ret nm Rm Q pc) := by
  intro ls st E R I J a b h
  intro p l e s m args below meth c D cy adV ad0 ad E0 A H locs la C hA hH hS hF hl hL hT
  rcases hH.1.2.2.2.2.2.2.2 with hZ | hZ
  · obtain ⟨cf, kf, fi, f, a0, cell, h1, h2, h3, h4, h5, h6, h7, h8⟩ := hZ
    exact W.gets C.1 C.2.1 C.2.2.2.2.1 (C.2.2.2.2.2.1 _ hl0) h1 h2 h3 h4 h5 (fun e => by rw [e] at h6; cases h6) h7 rfl hd (hk _ _ _ _ _ _ _ _ h.1 p l e s m args below meth c D cy adV ad0 ad E0 A H locs la C hA hH hS hF hl hL (okc ok_n hT))
  · obtain ⟨cf, kf, fi, f, a0, cell, h1, h2, h3, h4, h5, h6, h7, h8⟩ := hZ
    exact W.gets C.1 C.2.1 C.2.2.2.2.1 (C.2.2.2.2.2.1 _ hl0) h1 h2 h3 h4 h5 (fun e => by rw [e] at h6; cases h6) h7 rfl hd (hk _ _ _ _ _ _ _ _ h.2 p l e s m args below meth c D cy adV ad0 ad E0 A H locs la C hA hH hS hF hl hL (okc (fun c' hc' => by cases hc'; exact Or.inr (kd60 0)) hT))
/-- a text of the class's, by its place -/
def i_sval (kk : Pd) : Pd := fun ls st E R I J a b => match st with
  | .ref c :: st => ∃ i, i < 18 ∧ c = rc 62 i ∧ kk ls (.ref (rc 61 i) :: st) E R I J a b
  | _ => False
def i_scod (kk : Pd) : Pd := fun ls st E R I J a b => match st with
  | .ref c :: st => ∃ i, i < 18 ∧ c = rc 62 i ∧ kk ls (.int 0 :: st) E R I J a b
  | _ => False
def i_sal (kk : Pd) : Pd := fun ls st E R I J a b => match st with
  | .ref c :: st => ∃ i, i < 18 ∧ c = rc 61 i ∧ kk ls (.int (nI (txL.getD i 0)) :: st) E R I J a b
  | _ => False
def i_sbl (kk : Pd) : Pd := fun ls st E R I J a b => match st with
  | .int j :: .ref c :: st => ∃ i, i < 18 ∧ c = rc 61 i ∧ vp_in j (txL.getD i 0) ∧ kk ls (.int ((txB.getD i []).getD j.toNatClampNeg 0) :: st) E R I J a b
  | _ => False
theorem s_sval {idx : Nat} {kk : Pd} (hd : decode cc pc = .ok (.getfield idx, 3)) (hl0 : Cond.fieldLink own idx "java/lang/String" "value" "[B" ∈ lw_good) (hk : Le kk (G cc own nL ret nm Rm Q (pc + 3))) : Le (i_sval kk) (G cc own nL ret nm Rm Q pc) := by
  intro ls st E R I J a b h
  match st, h with
  | .ref c0 :: st, h =>
    obtain ⟨i, hi, rfl, h⟩ := h
    intro p l e s m args below meth c D cy adV ad0 ad E0 A H locs la C hA hH hS hF hl hL hT
    obtain ⟨cf, k, fi, f, cell, h1, h2, h3, h4, h5, h6⟩ := (hH.1.2.2.2.2.1.1 i hi).2.2.1
    have e1 := hH.1.2.2.2.2.2.2.1 i hi
    rw [← e1] at h5
    exact W.getf C.1 C.2.1 C.2.2.2.2.1 (C.2.2.2.2.2.1 _ hl0) h1 h2 h3 h4 (v := .ref (ad (rc 61 i))) h5 rfl rfl hd (hk _ _ _ _ _ _ _ _ h p l e s m args below meth c D cy adV ad0 ad E0 A H locs la C hA hH hS hF hl hL (okc (fun c' hc' => by cases hc'; exact Or.inr (kd61 i)) (okt hT)))
theorem s_scod {idx : Nat} {kk : Pd} (hd : decode cc pc = .ok (.getfield idx, 3)) (hl0 : Cond.fieldLink own idx "java/lang/String" "coder" "B" ∈ lw_good) (hk : Le kk (G cc own nL ret nm Rm Q (pc + 3))) : Le (i_scod kk) (G cc own nL ret nm Rm Q pc) := by
  intro ls st E R I J a b h
  match st, h with
  | .ref c0 :: st, h =>
    obtain ⟨i, hi, rfl, h⟩ := h
    intro p l e s m args below meth c D cy adV ad0 ad E0 A H locs la C hA hH hS hF hl hL hT
    obtain ⟨cf, k, fi, f, cell, h1, h2, h3, h4, h5, h6⟩ := (hH.1.2.2.2.2.1.1 i hi).2.1
    exact W.getf C.1 C.2.1 C.2.2.2.2.1 (C.2.2.2.2.2.1 _ hl0) h1 h2 h3 h4 (v := .int 0) h5 rfl rfl hd (hk _ _ _ _ _ _ _ _ h p l e s m args below meth c D cy adV ad0 ad E0 A H locs la C hA hH hS hF hl hL (okc ok_i (okt hT)))
theorem s_sal {kk : Pd} (hd : decode cc pc = .ok (.arraylength, 1)) (hk : Le kk (G cc own nL ret nm Rm Q (pc + 1))) : Le (i_sal kk) (G cc own nL ret nm Rm Q pc) := by
  intro ls st E R I J a b h
  match st, h with
  | .ref c0 :: st, h =>
    obtain ⟨i, hi, rfl, h⟩ := h
    intro p l e s m args below meth c D cy adV ad0 ad E0 A H locs la C hA hH hS hF hl hL hT
    obtain ⟨cell, h1, h2, h3, h4, h5, h6, h7⟩ := (hH.1.2.2.2.2.1.1 i hi).2.2.2
    have e1 := hH.1.2.2.2.2.2.2.1 i hi
    rw [← e1] at h1
    exact W.alen (n := nI (txL.getD i 0)) C.1 C.2.1 h1 h2 h5 rfl rfl hd (hk _ _ _ _ _ _ _ _ h p l e s m args below meth c D cy adV ad0 ad E0 A H locs la C hA hH hS hF hl hL (okc ok_i (okt hT)))
theorem s_sbl {kk : Pd} (hd : decode cc pc = .ok (.baload, 1)) (hk : Le kk (G cc own nL ret nm Rm Q (pc + 1))) : Le (i_sbl kk) (G cc own nL ret nm Rm Q pc) := by
  intro ls st E R I J a b h
  match st, h with
  | .int j :: .ref c0 :: st, h =>
    obtain ⟨i, hi, rfl, hin, h⟩ := h
    intro p l e s m args below meth c D cy adV ad0 ad E0 A H locs la C hA hH hS hF hl hL hT
    obtain ⟨cell, h1, h2, h3, h4, h5, h6, h7⟩ := (hH.1.2.2.2.2.1.1 i hi).2.2.2
    have e1 := hH.1.2.2.2.2.2.2.1 i hi
    rw [← e1] at h1
    have hlt : j.toNatClampNeg < txL.getD i 0 := Nat.not_le.mp fun q => hin (Or.inr q)
    exact W.bald (v := .int ((txB.getD i []).getD j.toNatClampNeg 0)) C.1 C.2.1 h1 h2 h3 (fun z => z.elim (fun z => hin (Or.inl z)) (fun z => by omega)) (h6 _ hlt) rfl rfl hd (hk _ _ _ _ _ _ _ _ h p l e s m args below meth c D cy adV ad0 ad E0 A H locs la C hA hH hS hF hl hL (okc ok_i (okt (okt hT))))
/-- a call of a text's own method -/
def i_callT (y : MethodName) (cc' : ByteArray) (nL' : Nat) (ret' : Option FieldType) (MC MS d' n : Nat) (kk : Pd) : Pd := fun ls st E R I J a b =>
  match sa n [] st with
  | some (av, st') => (a ≤ MC ∧ b ≤ MS ∧ st'.length ≤ 4) ∧ (∃ i av', i < 18 ∧ av = .ref (rc 62 i) :: av') ∧ CL y cc' nL' ret' d' 0 0 av E R I J (fun r E' R' I' J' => kk ls (r.toList ++ st') E' R' I' J' a b)
  | none => False
theorem s_callT {idx : Nat} {y : MethodName} {cc' : ByteArray} {nL' MC MS d' n : Nat} {ret' : Option FieldType} {kk : Pd} (hd : decode cc pc = .ok (.invokevirtual idx, 3))
    (hw : (∀ w ∈ ([.methodLink own idx y, .initialized y.cls, .code y cc' nL' ret', .instanceMethod y, .selects y.cls y y] : List Cond), w ∈ lw_good) ∧ y.cls = "java/lang/String" ∧ (parseMethodDescriptor y.desc).map (fun d => d.parameters.length) = some (n - 1) ∧ nL' ≤ 20 ∧ 1 ≤ n) (hR : (d' + 1 ≤ Rm.frames ∧ 39 * (d' + 1) ≤ Rm.locals) ∧ MC ≤ Rm.cells ∧ MS ≤ Rm.slots)
    (hk : Le kk (G cc own nL ret nm Rm Q (pc + 3))) : Le (i_callT y cc' nL' ret' MC MS d' n kk) (G cc own nL ret nm Rm Q pc) := by
  intro ls st E R I J a b h
  unfold i_callT at h
  split at h
  next av st' hsa =>
    obtain ⟨⟨h1, h2, hlen⟩, ⟨i, av', hi, rfl⟩, hC⟩ := h
    obtain ⟨hw, hcls, hpar, hnl, hn1⟩ := hw
    intro p l e s m args below meth c D cy adV ad0 ad E0 A H locs la C hA hH hS hF hl hL hT
    refine call_fin (mc' := 0) (ms' := 0) hk C hA hH hS hF hl hL hT hsa ?_
    obtain ⟨as, ha1, ha2, ha3⟩ := sa_spec n [] st _ st' hsa
    rw [List.append_nil] at ha3
    have hts := C.2.2.2.2.2.1
    have hcode : Cond.code y cc' nL' ret' ∈ lw_good := hw _ (by simp)
    have hM := hC l D cy adV ad (A1 E ad H.size)
    have hgood : GoodIn lw_good (.code y cc' nL' ret' :: lw_good) := fun w h => by
      rcases List.mem_cons.mp h with rfl | h
      · exact ⟨hcode, good_lw hcode⟩
      · exact ⟨h, good_lw h⟩
    have hok : ∀ v ∈ Value.ref (rc 62 i) :: av', ok E v := fun v hv => hT v (by rw [ha2]; exact List.mem_append_left _ (List.mem_reverse.mp (by rw [← ha3]; exact hv)))
    have hcat := cat_le ad st' hlen
    have hblind : FrameBlind (va_Pc ((Value.ref (rc 62 i) :: av').map (mv ad)) (fun U => (∀ q, U.heap.size ≤ q → A1 E ad H.size q) ∧ HS D cy adV ad E R I J (A1 E ad H.size) U U.heap ∧ ∀ v ∈ Value.ref (rc 62 i) :: av', ok E v)) := by
      intro a1 U g mk q
      obtain ⟨q0, q1, q2, q3⟩ := q
      exact ⟨q0, q1, q2.warm (State.WarmedH.refl U), q3⟩
    have hpre : ∀ U : State, U.heap = H → s.WarmedH U.vm → va_Pc ((Value.ref (rc 62 i) :: av').map (mv ad)) (fun U => (∀ q, U.heap.size ≤ q → A1 E ad H.size q) ∧ HS D cy adV ad E R I J (A1 E ad H.size) U U.heap ∧ ∀ v ∈ Value.ref (rc 62 i) :: av', ok E v) ((Value.ref (rc 62 i) :: av').map (mv ad)).toArray U := fun U hU hW =>
      ⟨rfl, fun q hq => Or.inr (by rw [← hU]; exact hq), by rw [hU]; exact hH.call hS hA hW, hok⟩
    have hfix : CallFix p m c cc nL s args lw_good own := ⟨C.1, C.2.1, C.2.2.2.1, C.2.2.2.2.1, hts⟩
    have hlav : (Value.ref (rc 62 i) :: av').length = n := by rw [ha3, List.length_reverse, ha1]
    have hmap : st.map (mv ad) = ((Value.ref (rc 62 i) :: av').map (mv ad)).reverse ++ st'.map (mv ad) := by rw [ha2, ha3, List.map_append, List.map_reverse, List.reverse_reverse]
    have hmap' : st.map (mv ad) = (av'.map (mv ad)).reverse ++ .ref (ad (rc 62 i)) :: st'.map (mv ad) := by rw [hmap]; simp [mv]
    have hlen' : av'.length = n - 1 := by rw [← hlav]; rfl
    obtain ⟨cell, g1, g2, g3, -⟩ := (hH.1.2.2.2.2.1.1 i hi).1
    exact va_runV (C := y.cls) (As := av'.map (mv ad)) hfix hM ⟨callB_of av'.length hts hgood rfl rfl rfl (hts _ (hw _ (by simp))) (hts _ (hw _ (by simp))) ⟨by rw [hcls]; decide, by rw [hcls]; decide, by rw [hpar, hlen']⟩ ⟨hR.1.1, by show 8 + (nL' + 11) + 39 * d' ≤ _; omega⟩, hts _ (hw _ (by simp)), hts _ (hw _ (by simp))⟩ ⟨hblind, ⟨cell, g1, g2, by rw [hcls]; exact g3⟩, hpre⟩ rfl (by simp) hl.1 hmap' (lv_room hcat) hd ⟨Nat.le_trans h1 hR.2.1, Nat.le_trans h2 hR.2.2⟩
  next => exact h.elim
end SRows

/-! new arrays; System.arraycopy; a text; the call of a nest mate -/
section MRows
variable {cc : ByteArray} {own : String} {nL : Nat} {ret : Option FieldType} {nm : String} {Rm : Room} {Q : Qf} {pc : Nat}
def i_newi (ak MC MS : Nat) (kk : Pd) : Pd := fun ls st E R I J a b => match st with
  | .int n :: st => ∃ c, kd c = ak ∧ ¬ E c ∧ (n = nI (ln c) ∧ ln c ≤ 100000) ∧ (a + 1 ≤ MC ∧ b + ln c ≤ MS) ∧ kk ls (.ref c :: st) (ue E c) (ua R c (fun _ => .null)) (ua I c (fun _ => 0)) J (a + 1) (b + ln c)
  | _ => False
def i_newl (MC MS : Nat) (kk : Pd) : Pd := fun ls st E R I J a b => match st with
  | .int n :: st => ∃ c, kd c = 15 ∧ ¬ E c ∧ (n = nI (ln c) ∧ ln c ≤ 100000) ∧ (a + 1 ≤ MC ∧ b + ln c ≤ MS) ∧ kk ls (.ref c :: st) (ue E c) (ua R c (fun _ => .null)) I (ua J c (fun _ => 0)) (a + 1) (b + ln c)
  | _ => False
def i_newq (ak MC MS : Nat) (kk : Pd) : Pd := fun ls st E R I J a b => match st with
  | .int n :: st => ∃ c, kd c = ak ∧ ¬ E c ∧ (n = nI (ln c) ∧ ln c ≤ 100000) ∧ (a + 1 ≤ MC ∧ b + ln c ≤ MS) ∧ kk ls (.ref c :: st) (ue E c) (ua R c (fun _ => .null)) I J (a + 1) (b + ln c)
  | _ => False
theorem tyl9 {cy : Nat → Nat} {x : ClassId × FieldType} : (tyl cy ++ [x])[9]? = some x := by
  rw [List.getElem?_append_right (by simp [tyl])]; simp [tyl]
theorem ra_one {U : State} {c1 c2 : ClassId} {ty : FieldType} (h1 : va_RA U c1 ty) (h2 : va_RA U c2 ty) : c1 = c2 := by
  cases ty with
  | object C =>
    obtain ⟨_, _, -, -, -, z1⟩ := h1
    obtain ⟨_, _, -, -, -, z2⟩ := h2
    exact Option.some.inj (z1.symm.trans z2)
  | _ => exact Option.some.inj (Eq.trans (Eq.symm h1) h2)
theorem s_newi {ak MC MS : Nat} {at_ : ArrayType} {kk : Pd} (hd : decode cc pc = .ok (.newarray at_, 2)) (hak : ak = 13 ∨ ak = 14 ∨ ak = 16) (hty : newarray.typeOf at_ = aty ak) (hl0 : Cond.arrayClass (newarray.typeOf at_) ∈ lw_good) (hR : MC ≤ Rm.cells ∧ MS ≤ Rm.slots) (hk : Le kk (G cc own nL ret nm Rm Q (pc + 2))) : Le (i_newi ak MC MS kk) (G cc own nL ret nm Rm Q pc) := by
  intro ls st E R I J a b h
  match st, h with
  | .int n :: st, h =>
    obtain ⟨c0, hkd, hne, ⟨hn, hln⟩, hroom, h⟩ := h
    intro p l e s m args below meth c D cy adV ad0 ad E0 A H locs la C hA hH hS hF hl hL hT
    obtain ⟨L, hLm, hP, hD⟩ := id hH.2.1
    have hts := C.2.2.2.2.2.1
    have hc8 : componentBytes (aty ak) ≤ 8 := by rcases hak with z | z | z <;> subst z <;> decide +kernel
    have hmul : ln c0 * componentBytes (aty ak) ≤ 100000 * 8 := Nat.mul_le_mul hln hc8
    refine va_newa (a0 := (ln c0, .inl (fun _ => 0))) (N' := ln c0) C.1 C.2.1 (hts _ hl0) hty hH.1.1 hP hD hS hA (fun cA => by rcases hak with z | z | z <;> subst z <;> rfl) (by rw [hn]; exact nI_pos (by omega)) (by rw [hn]; exact nI_clamp (by omega)) (by omega) (by omega) (by omega) hd (fun q cA H1 hK1 hP1 hD1 hS1 => ?_)
    have ht := tyl_at cy (ak - 13) (by omega)
    rw [show 13 + (ak - 13) = ak by omega] at ht
    have e1 : cA = cy ak := ra_one (hK1.2 9 _ tyl9).2 (hH.1.1.2 (ak - 13) _ ht).2
    subst e1
    have hH1 := HS.new (c := c0) (R' := ua R c0 (fun _ => .null)) (I' := ua I c0 (fun _ => 0)) (J' := J) hH hA hS hS1 hne (by omega) hLm hP1 hD1 (fun c' h => ua_ne h) (fun c' h => ua_ne h) (fun c' h => rfl) (by rw [Cn_int hkd hak, ua_eq]) (fun k => by rw [ua_eq])
    exact new_fin hk C hA hS1 hF hl hL (okt hT) (by omega) hH1 h
theorem s_newl {MC MS : Nat} {kk : Pd} (hd : decode cc pc = .ok (.newarray .long, 2)) (hl0 : Cond.arrayClass .long ∈ lw_good) (hR : MC ≤ Rm.cells ∧ MS ≤ Rm.slots) (hk : Le kk (G cc own nL ret nm Rm Q (pc + 2))) : Le (i_newl MC MS kk) (G cc own nL ret nm Rm Q pc) := by
  intro ls st E R I J a b h
  match st, h with
  | .int n :: st, h =>
    obtain ⟨c0, hkd, hne, ⟨hn, hln⟩, hroom, h⟩ := h
    intro p l e s m args below meth c D cy adV ad0 ad E0 A H locs la C hA hH hS hF hl hL hT
    obtain ⟨L, hLm, hP, hD⟩ := id hH.2.1
    have hts := C.2.2.2.2.2.1
    have hc8 : componentBytes .long ≤ 8 := by decide +kernel
    have hmul : ln c0 * componentBytes .long ≤ 100000 * 8 := Nat.mul_le_mul hln hc8
    refine va_newa (ty := .long) (a0 := (ln c0, .inr (.inl (fun _ => 0)))) (N' := ln c0) C.1 C.2.1 (atype := .long) (hts _ hl0) rfl hH.1.1 hP hD hS hA (fun cA => rfl) (by rw [hn]; exact nI_pos (by omega)) (by rw [hn]; exact nI_clamp (by omega)) (by omega) (by omega) (by omega) hd (fun q cA H1 hK1 hP1 hD1 hS1 => ?_)
    have e1 : cA = cy 15 := ra_one (hK1.2 9 _ tyl9).2 (hH.1.1.2 2 _ (tyl_at cy 2 (by omega))).2
    subst e1
    have hH1 := HS.new (c := c0) (R' := ua R c0 (fun _ => .null)) (I' := I) (J' := ua J c0 (fun _ => 0)) hH hA hS hS1 hne (by omega) hLm hP1 hD1 (fun c' h => ua_ne h) (fun c' h => rfl) (fun c' h => ua_ne h) (by rw [Cn_long hkd, ua_eq]) (fun k => by rw [ua_eq])
    exact new_fin hk C hA hS1 hF hl hL (okt hT) (by omega) hH1 h
theorem s_newq {ak ci idx MC MS : Nat} {kk : Pd} (hd : decode cc pc = .ok (.anewarray idx, 3)) (hak : 17 ≤ ak ∧ ak < 22 ∧ aty ak = .object (vcC ci).1 ∧ (vcC ci).1 ∈ [vcR1, vcR2, vcR4, vcR5, vcR7]) (hl0 : Cond.classLink own idx (vcC ci).1 ∈ lw_good) (hR : MC ≤ Rm.cells ∧ MS ≤ Rm.slots) (hk : Le kk (G cc own nL ret nm Rm Q (pc + 3))) : Le (i_newq ak MC MS kk) (G cc own nL ret nm Rm Q pc) := by
  intro ls st E R I J a b h
  match st, h with
  | .int n :: st, h =>
    obtain ⟨c0, hkd, hne, ⟨hn, hln⟩, hroom, h⟩ := h
    intro p l e s m args below meth c D cy adV ad0 ad E0 A H locs la C hA hH hS hF hl hL hT
    obtain ⟨L, hLm, hP, hD⟩ := id hH.2.1
    have hts := C.2.2.2.2.2.1
    refine va_newq (N' := ln c0) C.1 C.2.1 C.2.2.2.2.1 (hts _ hl0) (hH.1.2.2.1 _ hak.2.2.2) hH.1.1 hP hD hS hA (by rw [hn]; exact nI_pos (by omega)) (by rw [hn]; exact nI_clamp (by omega)) (by omega) (by omega) (by omega) hd (fun q cA H1 hK1 hP1 hD1 hS1 => ?_)
    have ht := tyl_at cy (ak - 13) (by omega)
    rw [show 13 + (ak - 13) = ak by omega, hak.2.2.1] at ht
    have e1 : cA = cy ak := ra_one (hK1.2 9 _ tyl9).2 (hH.1.1.2 (ak - 13) _ ht).2
    subst e1
    have hH1 := HS.new (c := c0) (R' := ua R c0 (fun _ => .null)) (I' := I) (J' := J) hH hA hS hS1 hne (by omega) hLm hP1 hD1 (fun c' h => ua_ne h) (fun c' h => rfl) (fun c' h => rfl) (by rw [Cn_arr hkd hak.1, ua_eq]; rfl) (fun k => by rw [ua_eq])
    exact new_fin hk C hA hS1 hF hl hL (okt hT) (by omega) hH1 h
/-! System.arraycopy -/
def i_acpy (ak : Nat) (kk : Pd) : Pd := fun ls st E R I J a b => match st with
  | .int n :: .int dp :: .ref dst :: .int sp :: .ref src :: st => (kd src = ak ∧ kd dst = ak ∧ st.length ≤ 4) ∧ (¬ sp < 0 ∧ ¬ dp < 0 ∧ ¬ n < 0 ∧ sp.toNatClampNeg + n.toNatClampNeg ≤ ln src ∧ dp.toNatClampNeg + n.toNatClampNeg ≤ ln dst) ∧ (∀ i, i < n.toNatClampNeg → fits (aty ak) (.int (I src (sp.toNatClampNeg + i))) = true)
      ∧ kk ls st E R (ua I dst (va_cpy (I src) (I dst) sp.toNatClampNeg dp.toNatClampNeg n.toNatClampNeg)) J a b
  | _ => False
def i_acpl (kk : Pd) : Pd := fun ls st E R I J a b => match st with
  | .int n :: .int dp :: .ref dst :: .int sp :: .ref src :: st => (kd src = 15 ∧ kd dst = 15 ∧ st.length ≤ 4) ∧ (¬ sp < 0 ∧ ¬ dp < 0 ∧ ¬ n < 0 ∧ sp.toNatClampNeg + n.toNatClampNeg ≤ ln src ∧ dp.toNatClampNeg + n.toNatClampNeg ≤ ln dst)
      ∧ kk ls st E R I (ua J dst (va_cpy (J src) (J dst) sp.toNatClampNeg dp.toNatClampNeg n.toNatClampNeg)) a b
  | _ => False
theorem w_acn : Cond.native arraycopyName ∈ lw_good ∧ Cond.static arraycopyName ∈ lw_good ∧ Cond.initialized "java/lang/System" ∈ lw_good := by decide +kernel
theorem s_acpy {ak idx : Nat} {kk : Pd} (hd : decode cc pc = .ok (.invokestatic idx, 3)) (hak : ak = 13 ∨ ak = 14) (hl0 : Cond.methodLink own idx arraycopyName ∈ lw_good) (hR : 1 ≤ Rm.frames ∧ 39 ≤ Rm.locals) (hk : Le kk (G cc own nL ret nm Rm Q (pc + 3))) : Le (i_acpy ak kk) (G cc own nL ret nm Rm Q pc) := by
  intro ls st E R I J a b h
  match st, h with
  | .int n :: .int dp :: .ref dst :: .int sp :: .ref src :: st, h =>
    obtain ⟨⟨hk1, hk2, hlen⟩, ⟨g1, g2, g3, g4, g5⟩, hfit, h⟩ := h
    intro p l e s m args below meth c D cy adV ad0 ad E0 A H locs la C hA hH hS hF hl hL hT
    have hts := C.2.2.2.2.2.1
    have hdE : E dst := okE (okt (okt hT)) (by omega)
    have hsE : E src := okE (okt (okt (okt (okt hT)))) (by omega)
    obtain ⟨L, q, hLm, hP, hD, hLq, hm, hu⟩ := hH.at hdE (by omega)
    obtain ⟨q2, hq2⟩ := List.getElem?_of_mem ((hLm src).mpr ⟨hsE, by omega⟩)
    have hm2 : (L.map (en cy ad R I J))[q2]? = some (ad src, Cn cy ad R I J src) := by rw [List.getElem?_map, hq2]; rfl
    rw [Cn_int hk2 (by omega)] at hm
    rw [Cn_int hk1 (by omega)] at hm2
    have ht := tyl_at cy (ak - 13) (by omega)
    rw [show 13 + (ak - 13) = ak by omega] at ht
    have hcat := cat_le ad st hlen
    have hnf : nativeFrameWords "java/lang/System" "arraycopy" 5 = 7 := by decide +kernel
    refine va_copyi C.1 C.2.1 (by rw [C.2.2.2.1, hl.1]) C.2.2.2.2.1 (hts _ hl0) (hts _ w_acn.1) (hts _ w_acn.2.1) (hts _ w_acn.2.2) hH.1.1 hP hD hS q2 q (ak - 13) (ak - 13) hm2 hm ht ht (by rcases hak with z | z <;> subst z <;> rfl) g1 g2 g3 g4 g5 hfit hR.1 (by omega) hd (fun H1 locs1 hP1 hD1 hS1 => ?_)
    have e1 : (ad dst, (Sum.inl (cy ak, ln dst, Sum.inl (va_cpy (I src) (I dst) sp.toNatClampNeg dp.toNatClampNeg n.toNatClampNeg)) : va_E)) = en cy ad R (ua I dst (va_cpy (I src) (I dst) sp.toNatClampNeg dp.toNatClampNeg n.toNatClampNeg)) J dst := by
      unfold en; rw [Cn_int hk2 (by omega), ua_eq]
    rw [e1, en_set hLq hu (fun c' hc' => Cn_cong rfl (ua_ne hc') rfl)] at hP1 hD1
    exact hk _ _ _ _ _ _ _ _ h p l e s m args below meth c D cy adV ad0 ad E0 A H1 locs1 la C hA (hH.next hA hS hS1 ⟨L, hLm, hP1, hD1⟩ hH.2.2.1 (fun c' hc' hk22 => ua_ne (fun z => by subst z; omega))) hS1 hF hl hL (okt (okt (okt (okt (okt hT)))))
theorem s_acpl {idx : Nat} {kk : Pd} (hd : decode cc pc = .ok (.invokestatic idx, 3)) (hl0 : Cond.methodLink own idx arraycopyName ∈ lw_good) (hR : 1 ≤ Rm.frames ∧ 39 ≤ Rm.locals) (hk : Le kk (G cc own nL ret nm Rm Q (pc + 3))) : Le (i_acpl kk) (G cc own nL ret nm Rm Q pc) := by
  intro ls st E R I J a b h
  match st, h with
  | .int n :: .int dp :: .ref dst :: .int sp :: .ref src :: st, h =>
    obtain ⟨⟨hk1, hk2, hlen⟩, ⟨g1, g2, g3, g4, g5⟩, h⟩ := h
    intro p l e s m args below meth c D cy adV ad0 ad E0 A H locs la C hA hH hS hF hl hL hT
    have hts := C.2.2.2.2.2.1
    have hdE : E dst := okE (okt (okt hT)) (by omega)
    have hsE : E src := okE (okt (okt (okt (okt hT)))) (by omega)
    obtain ⟨L, q, hLm, hP, hD, hLq, hm, hu⟩ := hH.at hdE (by omega)
    obtain ⟨q2, hq2⟩ := List.getElem?_of_mem ((hLm src).mpr ⟨hsE, by omega⟩)
    have hm2 : (L.map (en cy ad R I J))[q2]? = some (ad src, Cn cy ad R I J src) := by rw [List.getElem?_map, hq2]; rfl
    rw [Cn_long hk2] at hm
    rw [Cn_long hk1] at hm2
    have ht := tyl_at cy 2 (by omega)
    have hcat := cat_le ad st hlen
    have hnf : nativeFrameWords "java/lang/System" "arraycopy" 5 = 7 := by decide +kernel
    refine va_copyl C.1 C.2.1 (by rw [C.2.2.2.1, hl.1]) C.2.2.2.2.1 (hts _ hl0) (hts _ w_acn.1) (hts _ w_acn.2.1) (hts _ w_acn.2.2) hH.1.1 hP hD hS q2 q 2 2 hm2 hm ht ht rfl g1 g2 g3 g4 g5 (fun i _ => rfl) hR.1 (by omega) hd (fun H1 locs1 hP1 hD1 hS1 => ?_)
    have e1 : (ad dst, (Sum.inl (cy 15, ln dst, Sum.inr (Sum.inl (va_cpy (J src) (J dst) sp.toNatClampNeg dp.toNatClampNeg n.toNatClampNeg))) : va_E)) = en cy ad R I (ua J dst (va_cpy (J src) (J dst) sp.toNatClampNeg dp.toNatClampNeg n.toNatClampNeg)) dst := by
      unfold en; rw [Cn_long hk2, ua_eq]
    rw [e1, en_set hLq hu (fun c' hc' => Cn_cong rfl rfl (ua_ne hc'))] at hP1 hD1
    exact hk _ _ _ _ _ _ _ _ h p l e s m args below meth c D cy adV ad0 ad E0 A H1 locs1 la C hA (hH.next hA hS hS1 ⟨L, hLm, hP1, hD1⟩ hH.2.2.1 (fun c' hc' hk22 => rfl)) hS1 hF hl hL (okt (okt (okt (okt (okt hT)))))
/-! a text -/
def i_cs (i : Nat) (kk : Pd) : Pd := fun ls st E R I J a b => kk ls (.ref (rc 62 i) :: st) E R I J a b
theorem s_cs {i idx : Nat} {kk : Pd} (hd : decode cc pc = .ok (.ldc idx, 2)) (ho : own = "VoyageCompany$Tokens") (hi : i < 18) (hx : txI.getD i 0 = idx) (hk : Le kk (G cc own nL ret nm Rm Q (pc + 2))) : Le (i_cs i kk) (G cc own nL ret nm Rm Q pc) := by
  intro ls st E R I J a b h
  intro p l e s m args below meth c D cy adV ad0 ad E0 A H locs la C hA hH hS hF hl hL hT
  have hZ := hH.1.2.2.2.1 i hi
  rw [hx] at hZ
  subst ho
  exact va_ldcS C.1 C.2.1 C.2.2.2.2.1 hZ hd (hk _ _ _ _ _ _ _ _ h p l e s m args below meth c D cy adV ad0 ad E0 A H locs la C hA hH hS hF hl hL (okc (fun c' hc' => by cases hc'; exact Or.inr (kd62 i)) hT))
end MRows

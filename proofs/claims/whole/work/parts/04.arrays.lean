/-! arrays, new cells, calls, returns -/
theorem tyl_at (cy : Nat → Nat) : ∀ i, i < 9 → (tyl cy)[i]? = some (cy (13 + i), aty (13 + i)) := by
  intro i hi
  unfold tyl
  rw [List.getElem?_map, List.getElem?_range hi]
  rfl
section ARows
variable {cc : ByteArray} {own : String} {nL : Nat} {ret : Option FieldType} {nm : String} {Rm : Room} {Q : Qf} {pc : Nat}
def i_iald (kk : Pd) : Pd := fun ls st E R I J a b => match st with
  | .int i :: .ref c :: st => (kd c = 14 ∨ kd c = 22) ∧ vp_in i (ln c) ∧ kk ls (.int (I c i.toNatClampNeg) :: st) E R I J a b
  | _ => False
def i_bald (kk : Pd) : Pd := fun ls st E R I J a b => match st with
  | .int i :: .ref c :: st => kd c = 13 ∧ vp_in i (ln c) ∧ kk ls (.int (I c i.toNatClampNeg) :: st) E R I J a b
  | _ => False
def i_zald (kk : Pd) : Pd := fun ls st E R I J a b => match st with
  | .int i :: .ref c :: st => kd c = 16 ∧ vp_in i (ln c) ∧ kk ls (.int (I c i.toNatClampNeg) :: st) E R I J a b
  | _ => False
def i_lald (kk : Pd) : Pd := fun ls st E R I J a b => match st with
  | .int i :: .ref c :: st => kd c = 15 ∧ vp_in i (ln c) ∧ kk ls (.long (J c i.toNatClampNeg) :: st) E R I J a b
  | _ => False
def i_aald (kk : Pd) : Pd := fun ls st E R I J a b => match st with
  | .int i :: .ref c :: st => (17 ≤ kd c ∧ kd c < 22) ∧ vp_in i (ln c) ∧ (R c i.toNatClampNeg = .null ∨ ∃ c', R c i.toNatClampNeg = .ref c') ∧ kk ls (R c i.toNatClampNeg :: st) E R I J a b
  | _ => False
def i_alen (kk : Pd) : Pd := fun ls st E R I J a b => match st with
  | .ref c :: st => (13 ≤ kd c ∧ kd c < 23) ∧ kk ls (.int (nI (ln c)) :: st) E R I J a b
  | _ => False
theorem s_iald {kk : Pd} (hd : decode cc pc = .ok (.iaload, 1)) (hk : Le kk (G cc own nL ret nm Rm Q (pc + 1))) : Le (i_iald kk) (G cc own nL ret nm Rm Q pc) := by
  intro ls st E R I J a b h
  match st, h with
  | .int i :: .ref c0 :: st, h =>
    intro p l e s m args below meth c D cy adV ad0 ad E0 A H locs la C hA hH hS hF hl hL hT
    have hcE : E c0 := okE (okt hT) (by have := h.1; omega)
    have nx := hk _ _ _ _ _ _ _ _ h.2.2 p l e s m args below meth c D cy adV ad0 ad E0 A H locs la C hA hH hS hF hl hL (okc ok_i (okt (okt hT)))
    rcases h.1 with h14 | h22
    · obtain ⟨L, q, -, hP, -, -, hm, -⟩ := hH.at hcE (by omega)
      rw [Cn_int h14 (by omega)] at hm
      exact va_iald C.1 C.2.1 hH.1.1 hP q 1 hm (tyl_at cy 1 (by omega)) h.2.1 hd nx
    · obtain ⟨⟨scr, h1, h2, h3, h4, h5⟩, -⟩ := hH.2.2.2 c0 hcE h22
      have hlt : i.toNatClampNeg < ln c0 := Nat.not_le.mp fun q => h.2.1 (Or.inr q)
      exact W.iald (v := .int (I c0 i.toNatClampNeg)) C.1 C.2.1 h1 h2 h3 (by rw [h4]; exact h.2.1) (h5 _ hlt) rfl rfl hd nx
theorem s_bald {kk : Pd} (hd : decode cc pc = .ok (.baload, 1)) (hk : Le kk (G cc own nL ret nm Rm Q (pc + 1))) : Le (i_bald kk) (G cc own nL ret nm Rm Q pc) := by
  intro ls st E R I J a b h
  match st, h with
  | .int i :: .ref c0 :: st, h =>
    intro p l e s m args below meth c D cy adV ad0 ad E0 A H locs la C hA hH hS hF hl hL hT
    have hkd : kd c0 = 13 := h.1
    have hcE : E c0 := okE (okt hT) (by omega)
    obtain ⟨L, q, -, hP, -, -, hm, -⟩ := hH.at hcE (by omega)
    rw [Cn_int hkd (by omega)] at hm
    exact va_bald C.1 C.2.1 hH.1.1 hP q 0 hm (tyl_at cy 0 (by omega)) h.2.1 hd (hk _ _ _ _ _ _ _ _ h.2.2 p l e s m args below meth c D cy adV ad0 ad E0 A H locs la C hA hH hS hF hl hL (okc ok_i (okt (okt hT))))
theorem s_zald {kk : Pd} (hd : decode cc pc = .ok (.baload, 1)) (hk : Le kk (G cc own nL ret nm Rm Q (pc + 1))) : Le (i_zald kk) (G cc own nL ret nm Rm Q pc) := by
  intro ls st E R I J a b h
  match st, h with
  | .int i :: .ref c0 :: st, h =>
    intro p l e s m args below meth c D cy adV ad0 ad E0 A H locs la C hA hH hS hF hl hL hT
    have hkd : kd c0 = 16 := h.1
    have hcE : E c0 := okE (okt hT) (by omega)
    obtain ⟨L, q, -, hP, -, -, hm, -⟩ := hH.at hcE (by omega)
    rw [Cn_int hkd (by omega)] at hm
    exact va_zald C.1 C.2.1 hH.1.1 hP q 3 hm (tyl_at cy 3 (by omega)) h.2.1 hd (hk _ _ _ _ _ _ _ _ h.2.2 p l e s m args below meth c D cy adV ad0 ad E0 A H locs la C hA hH hS hF hl hL (okc ok_i (okt (okt hT))))
theorem s_lald {kk : Pd} (hd : decode cc pc = .ok (.laload, 1)) (hk : Le kk (G cc own nL ret nm Rm Q (pc + 1))) : Le (i_lald kk) (G cc own nL ret nm Rm Q pc) := by
  intro ls st E R I J a b h
  match st, h with
  | .int i :: .ref c0 :: st, h =>
    intro p l e s m args below meth c D cy adV ad0 ad E0 A H locs la C hA hH hS hF hl hL hT
    have hkd : kd c0 = 15 := h.1
    have hcE : E c0 := okE (okt hT) (by omega)
    obtain ⟨L, q, -, hP, -, -, hm, -⟩ := hH.at hcE (by omega)
    rw [Cn_long hkd] at hm
    exact va_lald C.1 C.2.1 hH.1.1 hP q 2 hm (tyl_at cy 2 (by omega)) h.2.1 hd (hk _ _ _ _ _ _ _ _ h.2.2 p l e s m args below meth c D cy adV ad0 ad E0 A H locs la C hA hH hS hF hl hL (okc ok_l (okt (okt hT))))
theorem s_aald {kk : Pd} (hd : decode cc pc = .ok (.aaload, 1)) (hk : Le kk (G cc own nL ret nm Rm Q (pc + 1))) : Le (i_aald kk) (G cc own nL ret nm Rm Q pc) := by
  intro ls st E R I J a b h
  match st, h with
  | .int i :: .ref c0 :: st, h =>
    intro p l e s m args below meth c D cy adV ad0 ad E0 A H locs la C hA hH hS hF hl hL hT
    obtain ⟨hkd, hin, hv, h4⟩ := h
    have hcE : E c0 := okE (okt hT) (by omega)
    obtain ⟨L, q, -, hP, -, -, hm, -⟩ := hH.at hcE (by omega)
    rw [Cn_arr rfl hkd.1] at hm
    have ht := tyl_at cy (kd c0 - 13) (by omega)
    rw [show 13 + (kd c0 - 13) = kd c0 by omega] at ht
    obtain ⟨Cn, hCn⟩ : ∃ C : String, aty (kd c0) = .object C := by
      have : kd c0 = 17 ∨ kd c0 = 18 ∨ kd c0 = 19 ∨ kd c0 = 20 ∨ kd c0 = 21 := by omega
      rcases this with z | z | z | z | z <;> rw [z] <;> exact ⟨_, rfl⟩
    rw [hCn] at ht
    have nx := hk _ _ _ _ _ _ _ _ h4 p l e s m args below meth c D cy adV ad0 ad E0 A H locs la C hA hH hS hF hl hL (okc (hH.2.2.1 c0 _ hcE) (okt (okt hT)))
    refine va_aldq C.1 C.2.1 hH.1.1 hP q (kd c0 - 13) hm ht hin hd ?_
    have e1 : va_rf (rfo ad (R c0 i.toNatClampNeg)) = mv ad (R c0 i.toNatClampNeg) := by
      rcases hv with z | ⟨c', z⟩ <;> rw [z] <;> rfl
    rw [e1]
    exact nx
theorem s_alen {kk : Pd} (hd : decode cc pc = .ok (.arraylength, 1)) (hk : Le kk (G cc own nL ret nm Rm Q (pc + 1))) : Le (i_alen kk) (G cc own nL ret nm Rm Q pc) := by
  intro ls st E R I J a b h
  match st, h with
  | .ref c0 :: st, h =>
    intro p l e s m args below meth c D cy adV ad0 ad E0 A H locs la C hA hH hS hF hl hL hT
    obtain ⟨hkd, h4⟩ := h
    have hcE : E c0 := okE hT (by omega)
    have nx := hk _ _ _ _ _ _ _ _ h4 p l e s m args below meth c D cy adV ad0 ad E0 A H locs la C hA hH hS hF hl hL (okc ok_i (okt hT))
    by_cases h22 : kd c0 = 22
    · obtain ⟨⟨scr, h1, h2, h3, h4, h5⟩, -⟩ := hH.2.2.2 c0 hcE h22
      exact W.alen (n := nI (ln c0)) C.1 C.2.1 h1 h2 (by rw [h4] <;> rfl) rfl rfl hd nx
    · obtain ⟨L, q, -, hP, -, -, hm, -⟩ := hH.at hcE (by omega)
      have ht := tyl_at cy (kd c0 - 13) (by omega)
      rw [show 13 + (kd c0 - 13) = kd c0 by omega] at ht
      have : ∃ x : vp_A, Cn cy ad R I J c0 = .inl (cy (kd c0), x) ∧ x.1 = ln c0 := by
        unfold Cn
        rw [if_neg (by omega)]
        by_cases z : kd c0 = 15
        · rw [if_pos z, z]; exact ⟨_, rfl, rfl⟩
        · rw [if_neg z]
          by_cases y : kd c0 < 17
          · rw [if_pos y]; exact ⟨_, rfl, rfl⟩
          · rw [if_neg y]; exact ⟨_, rfl, rfl⟩
      obtain ⟨x, hx, hx2⟩ := this
      rw [hx] at hm
      exact va_alen (v := nI (ln c0)) C.1 C.2.1 hH.1.1 hP q (kd c0 - 13) hm ht (by rw [hx2]; rfl) hd nx
def i_iast (kk : Pd) : Pd := fun ls st E R I J a b => match st with
  | .int x :: .int i :: .ref c :: st => kd c = 14 ∧ vp_in i (ln c) ∧ kk ls st E R (ui I c i.toNatClampNeg x) J a b
  | _ => False
def i_bast (kk : Pd) : Pd := fun ls st E R I J a b => match st with
  | .int x :: .int i :: .ref c :: st => kd c = 13 ∧ vp_in i (ln c) ∧ kk ls st E R (ui I c i.toNatClampNeg (vp_nar .byte x)) J a b
  | _ => False
def i_zast (kk : Pd) : Pd := fun ls st E R I J a b => match st with
  | .int x :: .int i :: .ref c :: st => kd c = 16 ∧ vp_in i (ln c) ∧ kk ls st E R (ui I c i.toNatClampNeg (vp_nar .boolean x)) J a b
  | _ => False
def i_last (kk : Pd) : Pd := fun ls st E R I J a b => match st with
  | .long x :: .int i :: .ref c :: st => kd c = 15 ∧ vp_in i (ln c) ∧ kk ls st E R I (uj J c i.toNatClampNeg x) a b
  | _ => False
def i_aast (ak ci : Nat) (kk : Pd) : Pd := fun ls st E R I J a b => match st with
  | .ref v :: .int i :: .ref c :: st => kd c = ak ∧ kd v = ci ∧ vp_in i (ln c) ∧ kk ls st E (ur R c i.toNatClampNeg (.ref v)) I J a b
  | _ => False
theorem s_iast {kk : Pd} (hd : decode cc pc = .ok (.iastore, 1)) (hk : Le kk (G cc own nL ret nm Rm Q (pc + 1))) : Le (i_iast kk) (G cc own nL ret nm Rm Q pc) := by
  intro ls st E R I J a b h
  match st, h with
  | .int x :: .int i :: .ref c0 :: st, h =>
    intro p l e s m args below meth c D cy adV ad0 ad E0 A H locs la C hA hH hS hF hl hL hT
    have hkd : kd c0 = 14 := h.1
    have hcE : E c0 := okE (okt (okt hT)) (by omega)
    obtain ⟨L, q, hLm, hP, hD, hLq, hm, hu⟩ := hH.at hcE (by omega)
    rw [Cn_int hkd (by omega)] at hm
    refine va_iast C.1 C.2.1 hH.1.1 hP hD hS q 1 hm (tyl_at cy 1 (by omega)) h.2.1 hd (fun H1 locs1 hP1 hD1 hS1 => ?_)
    have e1 : (ad c0, (Sum.inl (cy 14, ln c0, Sum.inl (upd (I c0) i.toNatClampNeg x)) : va_E)) = en cy ad R (ui I c0 i.toNatClampNeg x) J c0 := by
      unfold en; rw [Cn_int hkd (by omega), ui_eq]
    rw [e1, en_set hLq hu (fun c' hc' => Cn_cong rfl (ui_ne hc') rfl)] at hP1 hD1
    exact hk _ _ _ _ _ _ _ _ h.2.2 p l e s m args below meth c D cy adV ad0 ad E0 A H1 locs1 la C hA (hH.next hA hS hS1 ⟨L, hLm, hP1, hD1⟩ hH.2.2.1 (fun c' hc' hk22 => ui_ne (fun z => by subst z; omega))) hS1 hF hl hL (okt (okt (okt hT)))
theorem s_bast {kk : Pd} (hd : decode cc pc = .ok (.bastore, 1)) (hk : Le kk (G cc own nL ret nm Rm Q (pc + 1))) : Le (i_bast kk) (G cc own nL ret nm Rm Q pc) := by
  intro ls st E R I J a b h
  match st, h with
  | .int x :: .int i :: .ref c0 :: st, h =>
    intro p l e s m args below meth c D cy adV ad0 ad E0 A H locs la C hA hH hS hF hl hL hT
    have hkd : kd c0 = 13 := h.1
    have hcE : E c0 := okE (okt (okt hT)) (by omega)
    obtain ⟨L, q, hLm, hP, hD, hLq, hm, hu⟩ := hH.at hcE (by omega)
    rw [Cn_int hkd (by omega)] at hm
    refine va_bast C.1 C.2.1 hH.1.1 hP hD hS q 0 hm (tyl_at cy 0 (by omega)) h.2.1 hd (fun H1 locs1 hP1 hD1 hS1 => ?_)
    have e1 : (ad c0, (Sum.inl (cy 13, ln c0, Sum.inl (upd (I c0) i.toNatClampNeg (vp_nar .byte x))) : va_E)) = en cy ad R (ui I c0 i.toNatClampNeg (vp_nar .byte x)) J c0 := by
      unfold en; rw [Cn_int hkd (by omega), ui_eq]
    rw [e1, en_set hLq hu (fun c' hc' => Cn_cong rfl (ui_ne hc') rfl)] at hP1 hD1
    exact hk _ _ _ _ _ _ _ _ h.2.2 p l e s m args below meth c D cy adV ad0 ad E0 A H1 locs1 la C hA (hH.next hA hS hS1 ⟨L, hLm, hP1, hD1⟩ hH.2.2.1 (fun c' hc' hk22 => ui_ne (fun z => by subst z; omega))) hS1 hF hl hL (okt (okt (okt hT)))
theorem s_zast {kk : Pd} (hd : decode cc pc = .ok (.bastore, 1)) (hk : Le kk (G cc own nL ret nm Rm Q (pc + 1))) : Le (i_zast kk) (G cc own nL ret nm Rm Q pc) := by
  intro ls st E R I J a b h
  match st, h with
  | .int x :: .int i :: .ref c0 :: st, h =>
    intro p l e s m args below meth c D cy adV ad0 ad E0 A H locs la C hA hH hS hF hl hL hT
    have hkd : kd c0 = 16 := h.1
    have hcE : E c0 := okE (okt (okt hT)) (by omega)
    obtain ⟨L, q, hLm, hP, hD, hLq, hm, hu⟩ := hH.at hcE (by omega)
    rw [Cn_int hkd (by omega)] at hm
    refine va_zast C.1 C.2.1 hH.1.1 hP hD hS q 3 hm (tyl_at cy 3 (by omega)) h.2.1 hd (fun H1 locs1 hP1 hD1 hS1 => ?_)
    have e1 : (ad c0, (Sum.inl (cy 16, ln c0, Sum.inl (upd (I c0) i.toNatClampNeg (vp_nar .boolean x))) : va_E)) = en cy ad R (ui I c0 i.toNatClampNeg (vp_nar .boolean x)) J c0 := by
      unfold en; rw [Cn_int hkd (by omega), ui_eq]
    rw [e1, en_set hLq hu (fun c' hc' => Cn_cong rfl (ui_ne hc') rfl)] at hP1 hD1
    exact hk _ _ _ _ _ _ _ _ h.2.2 p l e s m args below meth c D cy adV ad0 ad E0 A H1 locs1 la C hA (hH.next hA hS hS1 ⟨L, hLm, hP1, hD1⟩ hH.2.2.1 (fun c' hc' hk22 => ui_ne (fun z => by subst z; omega))) hS1 hF hl hL (okt (okt (okt hT)))
theorem s_last {kk : Pd} (hd : decode cc pc = .ok (.lastore, 1)) (hk : Le kk (G cc own nL ret nm Rm Q (pc + 1))) : Le (i_last kk) (G cc own nL ret nm Rm Q pc) := by
  intro ls st E R I J a b h
  match st, h with
  | .long x :: .int i :: .ref c0 :: st, h =>
    intro p l e s m args below meth c D cy adV ad0 ad E0 A H locs la C hA hH hS hF hl hL hT
    have hkd : kd c0 = 15 := h.1
    have hcE : E c0 := okE (okt (okt hT)) (by omega)
    obtain ⟨L, q, hLm, hP, hD, hLq, hm, hu⟩ := hH.at hcE (by omega)
    rw [Cn_long hkd] at hm
    refine va_last C.1 C.2.1 hH.1.1 hP hD hS q 2 hm (tyl_at cy 2 (by omega)) h.2.1 hd (fun H1 locs1 hP1 hD1 hS1 => ?_)
    have e1 : (ad c0, (Sum.inl (cy 15, ln c0, Sum.inr (Sum.inl (vp_updL (J c0) i.toNatClampNeg x))) : va_E)) = en cy ad R I (uj J c0 i.toNatClampNeg x) c0 := by
      unfold en; rw [Cn_long hkd, uj_eq]
    rw [e1, en_set hLq hu (fun c' hc' => Cn_cong rfl rfl (uj_ne hc'))] at hP1 hD1
    exact hk _ _ _ _ _ _ _ _ h.2.2 p l e s m args below meth c D cy adV ad0 ad E0 A H1 locs1 la C hA (hH.next hA hS hS1 ⟨L, hLm, hP1, hD1⟩ hH.2.2.1 (fun c' hc' hk22 => rfl)) hS1 hF hl hL (okt (okt (okt hT)))
theorem s_aast {ak ci : Nat} {kk : Pd} (hd : decode cc pc = .ok (.aastore, 1)) (hs : 17 ≤ ak ∧ ak < 22 ∧ ci < 13 ∧ aty ak = .object (vcC ci).1) (hk : Le kk (G cc own nL ret nm Rm Q (pc + 1))) : Le (i_aast ak ci kk) (G cc own nL ret nm Rm Q pc) := by
  intro ls st E R I J a b h
  match st, h with
  | .ref v :: .int i :: .ref c0 :: st, h =>
    intro p l e s m args below meth c D cy adV ad0 ad E0 A H locs la C hA hH hS hF hl hL hT
    obtain ⟨hkd, hkv, hin, h4⟩ := h
    obtain ⟨hs1, hs2, hs3, hs4⟩ := hs
    have hcE : E c0 := okE (okt (okt hT)) (by omega)
    have hvE : E v := okE hT (by omega)
    obtain ⟨L, q, hLm, hP, hD, hLq, hm, hu⟩ := hH.at hcE (by omega)
    obtain ⟨q2, hq2⟩ := List.getElem?_of_mem ((hLm v).mpr ⟨hvE, by omega⟩)
    have hm2 : (L.map (en cy ad R I J))[q2]? = some (ad v, Cn cy ad R I J v) := by rw [List.getElem?_map, hq2]; rfl
    rw [Cn_arr hkd hs1] at hm
    rw [Cn_obj hkv hs3] at hm2
    have ht := tyl_at cy (ak - 13) (by omega)
    rw [show 13 + (ak - 13) = ak by omega, hs4] at ht
    refine va_astq C.1 C.2.1 hH.1.1 hP hD hS q (ak - 13) q2 ci hm ht hm2 (vcC_at ci hs3) hin hd (fun H1 locs1 hP1 hD1 hS1 => ?_)
    have e1 : (ad c0, (Sum.inl (cy ak, ln c0, Sum.inr (Sum.inr (Sum.inr (Sum.inr (va_up (fun j => rfo ad (R c0 j)) i.toNatClampNeg (some (ad v))))))) : va_E)) = en cy ad (ur R c0 i.toNatClampNeg (.ref v)) I J c0 := by
      unfold en; rw [Cn_arr hkd hs1, ur_eq]
      congr 8
      funext j
      by_cases z : j = i.toNatClampNeg
      · subst z; simp [va_up, rfo]
      · simp [va_up, z]
    rw [e1, en_set hLq hu (fun c' hc' => Cn_cong (ur_ne hc') rfl rfl)] at hP1 hD1
    refine hk _ _ _ _ _ _ _ _ h4 p l e s m args below meth c D cy adV ad0 ad E0 A H1 locs1 la C hA (hH.next hA hS hS1 ⟨L, hLm, hP1, hD1⟩ (fun c' k' hc' => ?_) (fun c' hc' hk22 => rfl)) hS1 hF hl hL (okt (okt (okt hT)))
    by_cases z : c' = c0
    · subst z
      rw [ur_eq]
      by_cases y : k' = i.toNatClampNeg
      · simp only [va_up, if_pos y]; exact ok_r hvE
      · simp only [va_up, if_neg y]; exact hH.2.2.1 c' k' hc'
    · rw [ur_ne z]; exact hH.2.2.1 c' k' hc'
end ARows

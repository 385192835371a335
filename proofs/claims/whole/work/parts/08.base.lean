/-! what the printed walks share -/
theorem Le.refl {k : Pd} : Le k k := fun _ _ _ _ _ _ _ _ h => h
theorem rmk {d mc ms : Nat} : (d + 1 ≤ (rm (d + 1) mc ms).frames ∧ 39 * (d + 1) ≤ (rm (d + 1) mc ms).locals) ∧ mc ≤ (rm (d + 1) mc ms).cells ∧ ms ≤ (rm (d + 1) mc ms).slots := ⟨⟨Nat.le_refl _, Nat.le_refl _⟩, Nat.le_refl _, Nat.le_refl _⟩
theorem rmo {d mc ms : Nat} : 1 ≤ (rm (d + 1) mc ms).frames ∧ 39 ≤ (rm (d + 1) mc ms).locals := ⟨Nat.le_add_left _ _, by show 39 ≤ 39 * (d + 1); omega⟩
theorem rmn {d mc ms : Nat} : mc ≤ (rm (d + 1) mc ms).cells ∧ ms ≤ (rm (d + 1) mc ms).slots := ⟨Nat.le_refl _, Nat.le_refl _⟩
theorem i32_ne {x v : Int32} {z : Int} (hz : v.toInt = z) (h : ¬ x = v) : x.toInt ≠ z := fun e => h (Int32.toInt_inj.mp (e.trans hz.symm))
section NestRow
variable {cc : ByteArray} {own : String} {nL : Nat} {ret : Option FieldType} {nm : String} {Rm : Room} {Q : Qf} {pc : Nat}
/-- the one call of a nest mate's private method: isPort, out of Reader -/
theorem s_callP {cc' : ByteArray} {nL' MC MS d' : Nat} {ret' : Option FieldType} {kk : Pd} (hd : decode cc pc = .ok (.invokestatic 119, 3)) (ho : own = "VoyageCompany$Reader")
    (hw : ∀ w ∈ ([.initialized "VoyageCompany", .code yIsPort cc' nL' ret', .static yIsPort] : List Cond), w ∈ lw_good) (hnl : nL' ≤ 20) (hR : (d' + 1 ≤ Rm.frames ∧ 39 * (d' + 1) ≤ Rm.locals) ∧ MC ≤ Rm.cells ∧ MS ≤ Rm.slots)
    (hk : Le kk (G cc own nL ret nm Rm Q (pc + 3))) : Le (i_call 2 11 yIsPort cc' nL' ret' MC MS d' 1 kk) (G cc own nL ret nm Rm Q pc) := by
  intro ls st E R I J a b h
  unfold i_call at h
  split at h
  next av st' hsa =>
    obtain ⟨⟨h1, h2, hlen⟩, hrecv, hC⟩ := h
    intro p l e s m args below meth c D cy adV ad0 ad E0 A H locs la C hA hH hS hF hl hL hT
    refine call_fin (mc' := 0) (ms' := 0) hk C hA hH hS hF hl hL hT hsa ?_
    obtain ⟨as, ha1, ha2, ha3⟩ := sa_spec 1 [] st av st' hsa
    rw [List.append_nil] at ha3
    have hts := C.2.2.2.2.2.1
    have hcode : Cond.code yIsPort cc' nL' ret' ∈ lw_good := hw _ (by simp)
    have hM := hC l D cy adV ad (A1 E ad H.size)
    have hgood : GoodIn lw_good (.code yIsPort cc' nL' ret' :: lw_good) := fun w h => by
      rcases List.mem_cons.mp h with rfl | h
      · exact ⟨hcode, good_lw hcode⟩
      · exact ⟨h, good_lw h⟩
    have hok : ∀ v ∈ av, ok E v := fun v hv => hT v (by rw [ha2]; exact List.mem_append_left _ (List.mem_reverse.mp (by rw [← ha3]; exact hv)))
    have hcat := cat_le ad st' hlen
    have hblind : FrameBlind (va_Pc (av.map (mv ad)) (fun U => (∀ q, U.heap.size ≤ q → A1 E ad H.size q) ∧ HS D cy adV ad E R I J (A1 E ad H.size) U U.heap ∧ ∀ v ∈ av, ok E v)) := by
      intro a1 U g mk q
      obtain ⟨q0, q1, q2, q3⟩ := q
      exact ⟨q0, q1, q2.warm (State.WarmedH.refl U), q3⟩
    have hpre : ∀ U : State, U.heap = H → s.WarmedH U.vm → va_Pc (av.map (mv ad)) (fun U => (∀ q, U.heap.size ≤ q → A1 E ad H.size q) ∧ HS D cy adV ad E R I J (A1 E ad H.size) U U.heap ∧ ∀ v ∈ av, ok E v) (av.map (mv ad)).toArray U := fun U hU hW =>
      ⟨rfl, fun q hq => Or.inr (by rw [← hU]; exact hq), by rw [hU]; exact hH.call hS hA hW, hok⟩
    have hfix : CallFix p m c cc nL s args lw_good own := ⟨C.1, C.2.1, C.2.2.2.1, C.2.2.2.2.1, hts⟩
    have hmap : st.map (mv ad) = (av.map (mv ad)).reverse ++ st'.map (mv ad) := by rw [ha2, ha3, List.map_append, List.map_reverse, List.reverse_reverse]
    have hlav : av.length = 1 := by rw [ha3, List.length_reverse, ha1]
    subst ho
    exact va_runSN (As := av.map (mv ad)) (host := "VoyageCompany") hfix hM ⟨va_cnB 1 hts hgood rfl rfl rfl hH.1.2.1 (hts _ (hw _ (by simp [yIsPort]))) (by decide +kernel) ⟨hR.1.1, by show 8 + (nL' + 11) + 39 * d' ≤ _; omega⟩, hts _ (hw _ (by simp)), trivial⟩ ⟨hblind, hpre⟩ rfl (by simp [hlav]) hl.1 hmap (lv_room hcat) hd ⟨Nat.le_trans h1 hR.2.1, Nat.le_trans h2 hR.2.2⟩
  next => exact h.elim
end NestRow

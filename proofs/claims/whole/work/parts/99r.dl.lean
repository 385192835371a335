/-! the start: what the tables and the Statement's own words give -/
section DL
variable {s : State} {args : Array Value} {A : Nat → Prop}
def tmS (i : Nat) : Term := .string "VoyageCompany$Tokens" (txI.getD i 0)
def bp (i : Nat) : Nat := [9, 15, 23, 34, 47, 60, 73, 88, 103, 121, 139, 157, 175, 195, 216, 237, 262, 286].getD i 0
theorem st_e1 : ∀ i, i < 18 → (flatC (Cond.and given_1 narrow_1))[bp i]? = some (Cond.exactly (tmS i) "java/lang/String") := by decide +kernel
theorem st_e2 : ∀ i, i < 18 → (flatC (Cond.and given_1 narrow_1))[bp i + 1]? = some (Cond.eq (.field (tmS i) "java/lang/String" "coder" "B") (.int 0)) := by decide +kernel
theorem st_e3 : ∀ i, i < 18 → (flatC (Cond.and given_1 narrow_1))[bp i + 2]? = some (Cond.arrayOf (.field (tmS i) "java/lang/String" "value" "[B") .byte) := by decide +kernel
theorem st_e4 : ∀ i, i < 18 → (flatC (Cond.and given_1 narrow_1))[bp i + 3]? = some (Cond.eq (.length (.field (tmS i) "java/lang/String" "value" "[B")) (.int (Int32.ofNat (txL.getD i 0)))) := by decide +kernel
theorem st_e5 : ∀ i, i < 18 → ∀ j, j < txL.getD i 0 → (flatC (Cond.and given_1 narrow_1))[bp i + 4 + j]? = some (Cond.eq (.elem (.field (tmS i) "java/lang/String" "value" "[B") (.int (Int32.ofNat j))) (.int ((txB.getD i []).getD j 0))) := by decide +kernel
theorem st_e6 : ∀ i, i < 18 → ∀ j, j < i → (flatC (Cond.and given_1 narrow_1))[bp i + 4 + txL.getD i 0 + j]? = some (Cond.not (Cond.eq (tmS j) (tmS i))) := by decide +kernel
theorem st_ex (i : Nat) (hi : i < 18) : Cond.exactly (tmS i) "java/lang/String" ∈ flatC (Cond.and given_1 narrow_1) := List.mem_of_getElem? (st_e1 i hi)
theorem st_co (i : Nat) (hi : i < 18) : Cond.eq (.field (tmS i) "java/lang/String" "coder" "B") (.int 0) ∈ flatC (Cond.and given_1 narrow_1) := List.mem_of_getElem? (st_e2 i hi)
theorem st_ar (i : Nat) (hi : i < 18) : Cond.arrayOf (.field (tmS i) "java/lang/String" "value" "[B") .byte ∈ flatC (Cond.and given_1 narrow_1) := List.mem_of_getElem? (st_e3 i hi)
theorem st_le (i : Nat) (hi : i < 18) : Cond.eq (.length (.field (tmS i) "java/lang/String" "value" "[B")) (.int (Int32.ofNat (txL.getD i 0))) ∈ flatC (Cond.and given_1 narrow_1) := List.mem_of_getElem? (st_e4 i hi)
theorem st_el (i : Nat) (hi : i < 18) (j : Nat) (hj : j < txL.getD i 0) : Cond.eq (.elem (.field (tmS i) "java/lang/String" "value" "[B") (.int (Int32.ofNat j))) (.int ((txB.getD i []).getD j 0)) ∈ flatC (Cond.and given_1 narrow_1) := List.mem_of_getElem? (st_e5 i hi j hj)
theorem st_ne (i : Nat) (hi : i < 18) (j : Nat) (hj : j < 18) (hn : i ≠ j) : (Cond.not (Cond.eq (tmS i) (tmS j)) ∈ flatC (Cond.and given_1 narrow_1)) ∨ (Cond.not (Cond.eq (tmS j) (tmS i)) ∈ flatC (Cond.and given_1 narrow_1)) := by
  rcases Nat.lt_or_gt_of_ne hn with h | h
  · exact Or.inl (List.mem_of_getElem? (st_e6 j hj i h))
  · exact Or.inr (List.mem_of_getElem? (st_e6 i hi j h))
theorem st_sr : ∀ i, i < 18 → Cond.stringRef "VoyageCompany$Tokens" (txI.getD i 0) (txS.getD i "") ∈ lw_tbl := by decide +kernel
theorem st_len : ∀ i, i < 18 → txL.getD i 0 < 2 ^ 31 := by decide +kernel
theorem st_prim {ty : FieldType} (ht : ty = .byte ∨ ty = .int ∨ ty = .long ∨ ty = .boolean) (h : (Cond.arrayClass ty).before args s = true) : ∃ cA : ClassId, ArrOfT s cA ty ∧ va_RA s cA ty := by
  obtain ⟨cA, kA, comp, h1, h2, h3⟩ := Cond.arrayClass_spec h
  refine ⟨cA, fun n z => ⟨(fun k h => by cases h), kA, h2, comp, h3⟩, ?_⟩
  rcases ht with rfl | rfl | rfl | rfl <;> exact h1
theorem st_obj {C : String} (h : (Cond.arrayOver (.object C)).before args s = true) : ∃ cA : ClassId, ArrOfT s cA (.object C) ∧ va_RA s cA (.object C) := by
  obtain ⟨comp, cA, kA, h1, -, h2, h3, h4⟩ := Cond.arrayOver_spec h
  exact ⟨cA, fun n z => ⟨(fun k h => by cases h), kA, h2, comp, h3⟩, kA, comp, h2, h3, h1, h4⟩
theorem st_K (hts : ∀ w ∈ lw_tbl, w.before args s = true) : ∃ (D : va_G) (cy : Nat → Nat), va_K D vcl (tyl cy) s := by
  have hg : ∀ w ∈ lw_good, w.before args s = true := fun w hw => hts w (List.mem_filter.mp hw).1
  have h1 : ∀ ci : Nat, ∃ q : ClassId × (Nat → Nat), ci < 13 → u_Kn s (vcC ci).1 (vcC ci).2.1 (vcC ci).2.2 q.1 q.2 := fun ci => by
    by_cases hc : ci < 13
    · obtain ⟨cC, iS, h⟩ := u_known (C := (vcC ci).1) (T := (vcC ci).2.1) (N := (vcC ci).2.2) (n := (vcC ci).2.2) hg (vcC_ws ci hc) (hg _ (vcC_inst ci hc))
      exact ⟨(cC, iS), fun _ => h⟩
    · exact ⟨(0, fun _ => 0), fun z => absurd z hc⟩
  obtain ⟨f, hf⟩ := Classical.axiomOfChoice h1
  have h2 : ∀ k : Nat, ∃ cA : ClassId, k < 9 → ArrOfT s cA (aty (13 + k)) ∧ va_RA s cA (aty (13 + k)) := fun k => by
    by_cases hk : k < 9
    · have : k = 0 ∨ k = 1 ∨ k = 2 ∨ k = 3 ∨ k = 4 ∨ k = 5 ∨ k = 6 ∨ k = 7 ∨ k = 8 := by omega
      rcases this with rfl | rfl | rfl | rfl | rfl | rfl | rfl | rfl | rfl
      · obtain ⟨cA, h⟩ := st_prim (ty := .byte) (by decide) (hts (.arrayClass .byte) (by decide +kernel)); exact ⟨cA, fun _ => h⟩
      · obtain ⟨cA, h⟩ := st_prim (ty := .int) (by decide) (hts (.arrayClass .int) (by decide +kernel)); exact ⟨cA, fun _ => h⟩
      · obtain ⟨cA, h⟩ := st_prim (ty := .long) (by decide) (hts (.arrayClass .long) (by decide +kernel)); exact ⟨cA, fun _ => h⟩
      · obtain ⟨cA, h⟩ := st_prim (ty := .boolean) (by decide) (hts (.arrayClass .boolean) (by decide +kernel)); exact ⟨cA, fun _ => h⟩
      · obtain ⟨cA, h⟩ := st_obj (C := vcR1) (hts (.arrayOver (.object vcR1)) (by decide +kernel)); exact ⟨cA, fun _ => h⟩
      · obtain ⟨cA, h⟩ := st_obj (C := vcR2) (hts (.arrayOver (.object vcR2)) (by decide +kernel)); exact ⟨cA, fun _ => h⟩
      · obtain ⟨cA, h⟩ := st_obj (C := vcR4) (hts (.arrayOver (.object vcR4)) (by decide +kernel)); exact ⟨cA, fun _ => h⟩
      · obtain ⟨cA, h⟩ := st_obj (C := vcR5) (hts (.arrayOver (.object vcR5)) (by decide +kernel)); exact ⟨cA, fun _ => h⟩
      · obtain ⟨cA, h⟩ := st_obj (C := vcR7) (hts (.arrayOver (.object vcR7)) (by decide +kernel)); exact ⟨cA, fun _ => h⟩
    · exact ⟨0, fun z => absurd z hk⟩
  obtain ⟨gy, hy⟩ := Classical.axiomOfChoice h2
  refine ⟨(fun ci => (f ci).1, fun ci => (f ci).2), fun i => gy (i - 13), fun c q hq => ?_, fun k q hq => ?_⟩
  · have hc : c < 13 := (List.getElem?_eq_some_iff.mp hq).1
    rw [vcC_at c hc] at hq
    cases hq
    exact hf c hc
  · have hk : k < 9 := by
      have := (List.getElem?_eq_some_iff.mp hq).1
      unfold tyl at this
      rw [List.length_map, List.length_range] at this
      exact this
    rw [tyl_at _ k hk] at hq
    cases hq
    have := hy k hk
    rw [show 13 + k - 13 = k by omega]
    exact this
theorem st_Sy (hts : ∀ w ∈ lw_tbl, w.before args s = true) (hgv : (Cond.and given_1 narrow_1).before args s = true) (hA : ∀ a : Nat, a < s.heap.size → ¬ A a) :
    ∃ (D : va_G) (cy adV adK : Nat → Nat) (f : Nat), ∀ ad : Nat → Nat, (∀ i, i < 18 → ad (rc 62 i) = adK i) → (∀ i, i < 18 → ad (rc 61 i) = adV i) → ad (rc 60 0) = f → Sy D cy adV ad A s s.heap := by
  obtain ⟨D, cy, hK⟩ := st_K hts
  have hs := flat_of_before _ hgv
  obtain ⟨adK, adV, hSt, hev⟩ := vk_Sof (A := A) (N := 18) (tm := tmS) (len := txL) (byt := txB) st_len (fun i hi => hs _ (st_ex i hi)) (fun i hi => hs _ (st_co i hi)) (fun i hi => hs _ (st_ar i hi)) (fun i hi => hs _ (st_le i hi)) (fun i hi j hj => hs _ (st_el i hi j hj)) (fun i j hi hj hn => (st_ne i hi j hj hn).imp (hs _) (hs _)) hA
  have hZ1 : va_Z "java/lang/String" "COMPACT_STRINGS" "Z" (.int 1) A s s.heap := va_Zof (hts (.laysStatic "java/lang/String" "COMPACT_STRINGS" "Z") (by decide +kernel)) (hts (.initialized "java/lang/String") (by decide +kernel)) (va_eqi (hs (.eq (.static "java/lang/String" "COMPACT_STRINGS" "Z") (.int 1)) (by decide +kernel))) hA
  have hZ2 := va_Zqof (C := "jdk/internal/util/Preconditions") (n := "SIOOBE_FORMATTER") (d := "Ljava/util/function/BiFunction;") (hts (.laysStatic "jdk/internal/util/Preconditions" "SIOOBE_FORMATTER" "Ljava/util/function/BiFunction;") (by decide +kernel)) (hts (.initialized "jdk/internal/util/Preconditions") (by decide +kernel)) (hs (.isRef (.static "jdk/internal/util/Preconditions" "SIOOBE_FORMATTER" "Ljava/util/function/BiFunction;")) (by decide +kernel)) hA
  have hf : ∃ f : Nat, va_Z "jdk/internal/util/Preconditions" "SIOOBE_FORMATTER" "Ljava/util/function/BiFunction;" .null A s s.heap ∨ va_Z "jdk/internal/util/Preconditions" "SIOOBE_FORMATTER" "Ljava/util/function/BiFunction;" (.ref f) A s s.heap := by
    rcases hZ2 with h | ⟨t, h⟩
    · exact ⟨0, Or.inl h⟩
    · exact ⟨t, Or.inr h⟩
  obtain ⟨f, hf⟩ := hf
  have hAO : ∀ C ∈ [vcR1, vcR2, vcR4, vcR5, vcR7], Cond.arrayOver (.object C) ∈ lw_tbl := by decide +kernel
  refine ⟨D, cy, adV, adK, f, fun ad h62 h61 h60 => ⟨hK, va_Nw.of rfl (hts _ (by decide +kernel)), fun C hC => va_AO.of (hts _ (hAO C hC)), fun i hi => ?_, ⟨fun i hi => ?_, fun i j hi hj e => ?_⟩, hZ1, h61, ?_⟩⟩
  · rw [h62 i hi]
    exact vk_R.of (hts _ (st_sr i hi)) (hev i hi)
  · dsimp only
    rw [h62 i hi]
    exact hSt.1 i hi
  · dsimp only at e
    rw [h62 i hi, h62 j hj] at e
    exact hSt.2 i j hi hj e
  · rw [h60]
    exact hf
end DL

theorem fl12_8 : FL "VoyageCompanyModel" 8 12 0 := ⟨by decide, by decide, by decide +kernel, by decide +kernel⟩
theorem fl12_14 : FL "VoyageCompanyModel" 14 12 1 := ⟨by decide, by decide, by decide +kernel, by decide +kernel⟩
theorem fl12_18 : FL "VoyageCompanyModel" 18 12 2 := ⟨by decide, by decide, by decide +kernel, by decide +kernel⟩
theorem fl12_22 : FL "VoyageCompanyModel" 22 12 12 := ⟨by decide, by decide, by decide +kernel, by decide +kernel⟩
theorem fl12_29 : FL "VoyageCompanyModel" 29 12 3 := ⟨by decide, by decide, by decide +kernel, by decide +kernel⟩
theorem fl12_55 : FL "VoyageCompanyModel" 55 12 4 := ⟨by decide, by decide, by decide +kernel, by decide +kernel⟩
theorem fl12_62 : FL "VoyageCompanyModel" 62 12 5 := ⟨by decide, by decide, by decide +kernel, by decide +kernel⟩
theorem fl12_65 : FL "VoyageCompanyModel" 65 12 6 := ⟨by decide, by decide, by decide +kernel, by decide +kernel⟩
theorem fl12_76 : FL "VoyageCompanyModel" 76 12 9 := ⟨by decide, by decide, by decide +kernel, by decide +kernel⟩
theorem fl12_82 : FL "VoyageCompanyModel" 82 12 7 := ⟨by decide, by decide, by decide +kernel, by decide +kernel⟩
theorem fl12_85 : FL "VoyageCompanyModel" 85 12 8 := ⟨by decide, by decide, by decide +kernel, by decide +kernel⟩
theorem fl12_91 : FL "VoyageCompanyModel" 91 12 10 := ⟨by decide, by decide, by decide +kernel, by decide +kernel⟩
theorem fl12_101 : FL "VoyageCompanyModel" 101 12 11 := ⟨by decide, by decide, by decide +kernel, by decide +kernel⟩
theorem ml12_25 : ML "VoyageCompanyModel" 25 2 12 yMo_isIn cMo_isIn 3 (some .boolean) 3 := by unfold ML; decide +kernel
theorem ml12_37 : ML "VoyageCompanyModel" 37 2 12 yMo_three cMo_three 3 (some .long) 3 := by unfold ML; decide +kernel
theorem ml12_41 : ML "VoyageCompanyModel" 41 2 12 yMo_four cMo_four 4 (some .long) 4 := by unfold ML; decide +kernel
theorem ml12_58 : ML "VoyageCompanyModel" 58 0 12 yMo_byteAt cMo_byteAt 2 (some .int) 2 := by unfold ML; decide +kernel
theorem ml12_68 : ML "VoyageCompanyModel" 68 2 12 yMo_isLetter cMo_isLetter 1 (some .boolean) 1 := by unfold ML; decide +kernel
theorem ml12_72 : ML "VoyageCompanyModel" 72 2 12 yMo_wordOf cMo_wordOf 2 (some .int) 1 := by unfold ML; decide +kernel
theorem ml12_79 : ML "VoyageCompanyModel" 79 2 12 yMo_isDigit cMo_isDigit 1 (some .boolean) 1 := by unfold ML; decide +kernel
theorem ml12_88 : ML "VoyageCompanyModel" 88 2 12 yMo_isSignByte cMo_isSignByte 1 (some .boolean) 1 := by unfold ML; decide +kernel
theorem ml12_95 : ML "VoyageCompanyModel" 95 0 12 yMo_advance cMo_advance 4 none 1 := by unfold ML; decide +kernel
theorem ml12_98 : ML "VoyageCompanyModel" 98 0 12 yMo_stops cMo_stops 1 none 1 := by unfold ML; decide +kernel
theorem ml12_104 : ML "VoyageCompanyModel" 104 0 12 yMo_tells cMo_tells 3 none 3 := by unfold ML; decide +kernel
theorem ml12_108 : ML "VoyageCompanyModel" 108 0 12 yMo_aGood cMo_aGood 2 (some .int) 1 := by unfold ML; decide +kernel
theorem ml12_112 : ML "VoyageCompanyModel" 112 0 12 yMo_numbered cMo_numbered 2 (some .int) 1 := by unfold ML; decide +kernel
theorem ml12_115 : ML "VoyageCompanyModel" 115 0 12 yMo_puts cMo_puts 3 none 3 := by unfold ML; decide +kernel
theorem ml12_118 : ML "VoyageCompanyModel" 118 0 12 yMo_takes cMo_takes 2 (some .boolean) 2 := by unfold ML; decide +kernel
theorem ml12_121 : ML "VoyageCompanyModel" 121 0 12 yMo_test cMo_test 5 none 2 := by unfold ML; decide +kernel
theorem ml12_125 : ML "VoyageCompanyModel" 125 0 12 yMo_must cMo_must 2 none 2 := by unfold ML; decide +kernel
theorem ml12_128 : ML "VoyageCompanyModel" 128 0 12 yMo_aLine cMo_aLine 6 none 1 := by unfold ML; decide +kernel
theorem ml12_131 : ML "VoyageCompanyModel" 131 0 12 yMo_sets cMo_sets 4 none 4 := by unfold ML; decide +kernel
theorem ml12_135 : ML "VoyageCompanyModel" 135 0 12 yMo_isShip cMo_isShip 2 (some .boolean) 2 := by unfold ML; decide +kernel
theorem ml12_138 : ML "VoyageCompanyModel" 138 0 12 yMo_of cMo_of 3 (some .int) 3 := by unfold ML; decide +kernel
theorem ml12_142 : ML "VoyageCompanyModel" 142 0 12 yMo_balesOf cMo_balesOf 2 (some .int) 2 := by unfold ML; decide +kernel
theorem ml12_145 : ML "VoyageCompanyModel" 145 2 12 yMo_isPerson cMo_isPerson 1 (some .boolean) 1 := by unfold ML; decide +kernel
theorem ml12_148 : ML "VoyageCompanyModel" 148 2 12 yMo_isGood cMo_isGood 1 (some .boolean) 1 := by unfold ML; decide +kernel
theorem ml12_151 : ML "VoyageCompanyModel" 151 0 12 yMo_carried cMo_carried 4 (some .int) 2 := by unfold ML; decide +kernel
theorem ml12_154 : ML "VoyageCompanyModel" 154 0 12 yMo_isAtHome cMo_isAtHome 2 (some .boolean) 2 := by unfold ML; decide +kernel
theorem ml12_157 : ML "VoyageCompanyModel" 157 0 12 yMo_roomOf cMo_roomOf 2 (some .int) 2 := by unfold ML; decide +kernel
theorem ml12_160 : ML "VoyageCompanyModel" 160 0 12 yMo_adds cMo_adds 4 none 4 := by unfold ML; decide +kernel
theorem ml12_163 : ML "VoyageCompanyModel" 163 0 12 yMo_unloads cMo_unloads 4 none 3 := by unfold ML; decide +kernel
theorem ml12_167 : ML "VoyageCompanyModel" 167 2 12 yMo_maySail cMo_maySail 5 (some .boolean) 3 := by unfold ML; decide +kernel
theorem ml12_170 : ML "VoyageCompanyModel" 170 0 12 yMo_sails cMo_sails 6 (some .int) 3 := by unfold ML; decide +kernel
theorem ml12_173 : ML "VoyageCompanyModel" 173 0 12 yMo_theShip cMo_theShip 3 (some .int) 2 := by unfold ML; decide +kernel
theorem ml12_176 : ML "VoyageCompanyModel" 176 0 12 yMo_shipsAt cMo_shipsAt 4 (some .int) 2 := by unfold ML; decide +kernel
theorem ml12_179 : ML "VoyageCompanyModel" 179 0 12 yMo_told cMo_told 4 (some .int) 3 := by unfold ML; decide +kernel
theorem ml12_182 : ML "VoyageCompanyModel" 182 0 12 yMo_bale cMo_bale 5 (some .int) 3 := by unfold ML; decide +kernel
theorem ml12_185 : ML "VoyageCompanyModel" 185 2 12 yMo_least cMo_least 2 (some .int) 2 := by unfold ML; decide +kernel
theorem ml12_188 : ML "VoyageCompanyModel" 188 0 12 yMo_buys cMo_buys 6 none 4 := by unfold ML; decide +kernel
theorem ml12_191 : ML "VoyageCompanyModel" 191 0 12 yMo_sells cMo_sells 6 none 4 := by unfold ML; decide +kernel
theorem ml12_194 : ML "VoyageCompanyModel" 194 0 12 yMo_loads cMo_loads 6 none 4 := by unfold ML; decide +kernel
theorem ml12_197 : ML "VoyageCompanyModel" 197 0 12 yMo_goes cMo_goes 5 none 3 := by unfold ML; decide +kernel
theorem ml12_200 : ML "VoyageCompanyModel" 200 0 12 yMo_holds cMo_holds 9 (some .boolean) 3 := by unfold ML; decide +kernel
theorem ml12_204 : ML "VoyageCompanyModel" 204 0 12 yMo_does cMo_does 5 none 3 := by unfold ML; decide +kernel
theorem ml12_207 : ML "VoyageCompanyModel" 207 0 12 yMo_comes cMo_comes 4 none 2 := by unfold ML; decide +kernel
theorem ml12_210 : ML "VoyageCompanyModel" 210 0 12 yMo_acts cMo_acts 3 none 2 := by unfold ML; decide +kernel
theorem ml12_213 : ML "VoyageCompanyModel" 213 0 12 yMo_aMonth cMo_aMonth 4 none 1 := by unfold ML; decide +kernel
theorem ml12_216 : ML "VoyageCompanyModel" 216 2 12 yMo_isPort cMo_isPort 1 (some .boolean) 1 := by unfold ML; decide +kernel
theorem ml12_219 : ML "VoyageCompanyModel" 219 0 12 yMo_noted cMo_noted 4 (some .int) 4 := by unfold ML; decide +kernel
def qMo_new_109 (d mc ms : Nat) (B : Nat → Pd) (K : Ps) : Pd := (i_vret mc ms K)
theorem zMo_new_109 {d mc ms : Nat} {B : Nat → Pd} {K : Ps} (hB : ∀ pc, Le (B pc) (G cMo_new "VoyageCompanyModel" 2 none "<init>" (rm (d + 1) mc ms) (QM mc ms K) pc)) : Le (qMo_new_109 d mc ms B K) (G cMo_new "VoyageCompanyModel" 2 none "<init>" (rm (d + 1) mc ms) (QM mc ms K) 109) := by
  unfold qMo_new_109
  exact (s_vret (by decide +kernel) rfl)
def qMo_new_88 (d mc ms : Nat) (B : Nat → Pd) (K : Ps) : Pd := (i_ald 0 (i_getr 12 0 (i_ci 320 (i_ci 4 (i_ild 1 (i_imul (i_iadd (i_ci 1 (i_iadd (i_ci (-1) (i_iast (i_inc 1 1 (B 83)))))))))))))
theorem zMo_new_88 {d mc ms : Nat} {B : Nat → Pd} {K : Ps} (hB : ∀ pc, Le (B pc) (G cMo_new "VoyageCompanyModel" 2 none "<init>" (rm (d + 1) mc ms) (QM mc ms K) pc)) : Le (qMo_new_88 d mc ms B K) (G cMo_new "VoyageCompanyModel" 2 none "<init>" (rm (d + 1) mc ms) (QM mc ms K) 88) := by
  unfold qMo_new_88
  exact (s_ald_n (j := 0) (by decide +kernel) rfl (s_getr (idx := 8) (by decide +kernel) fl12_8 (by decide) (s_sipush (n := 320) (v := 320) (by decide +kernel) (by decide +kernel) (s_iconst (n := 4) (v := 4) (by decide +kernel) (by decide +kernel) (s_ild_n (j := 1) (by decide +kernel) rfl (s_imul (by decide +kernel) (s_iadd (by decide +kernel) (s_iconst (n := 1) (v := 1) (by decide +kernel) (by decide +kernel) (s_iadd (by decide +kernel) (s_iconst (n := (-1)) (v := (-1)) (by decide +kernel) (by decide +kernel) (s_iast (by decide +kernel) (s_inc (z := 1) (by decide +kernel) (by decide +kernel) (by decide) (s_goto (off := (-23)) (tgt := 83) (by decide +kernel) (by decide) (hB 83))))))))))))))
def qMo_new_83 (d mc ms : Nat) (B : Nat → Pd) (K : Ps) : Pd := (i_ild 1 (i_ci 5 (i_ic_ge (qMo_new_109 d mc ms B K) (qMo_new_88 d mc ms B K))))
theorem zMo_new_83 {d mc ms : Nat} {B : Nat → Pd} {K : Ps} (hB : ∀ pc, Le (B pc) (G cMo_new "VoyageCompanyModel" 2 none "<init>" (rm (d + 1) mc ms) (QM mc ms K) pc)) : Le (qMo_new_83 d mc ms B K) (G cMo_new "VoyageCompanyModel" 2 none "<init>" (rm (d + 1) mc ms) (QM mc ms K) 83) := by
  unfold qMo_new_83
  exact (s_ild_n (j := 1) (by decide +kernel) rfl (s_iconst (n := 5) (v := 5) (by decide +kernel) (by decide +kernel) (s_ic_ge (off := 24) (tgt := 109) (by decide +kernel) (by decide) (zMo_new_109 hB) (zMo_new_88 hB))))
def qMo_new_81 (d mc ms : Nat) (B : Nat → Pd) (K : Ps) : Pd := (i_ci 0 (i_ist 1 (B 83)))
theorem zMo_new_81 {d mc ms : Nat} {B : Nat → Pd} {K : Ps} (hB : ∀ pc, Le (B pc) (G cMo_new "VoyageCompanyModel" 2 none "<init>" (rm (d + 1) mc ms) (QM mc ms K) pc)) : Le (qMo_new_81 d mc ms B K) (G cMo_new "VoyageCompanyModel" 2 none "<init>" (rm (d + 1) mc ms) (QM mc ms K) 81) := by
  unfold qMo_new_81
  exact (s_iconst (n := 0) (v := 0) (by decide +kernel) (by decide +kernel) (s_ist_n (j := 1) (by decide +kernel) rfl (by decide) (hB 83)))
def qMo_new_53 (d mc ms : Nat) (B : Nat → Pd) (K : Ps) : Pd := (i_ald 0 (i_getr 12 0 (i_ci 30 (i_ild 1 (i_iadd (i_ci 10 (i_iast (i_ald 0 (i_getr 12 0 (i_ci 50 (i_ild 1 (i_iadd (i_ci 10 (i_iast (i_inc 1 1 (B 47))))))))))))))))
theorem zMo_new_53 {d mc ms : Nat} {B : Nat → Pd} {K : Ps} (hB : ∀ pc, Le (B pc) (G cMo_new "VoyageCompanyModel" 2 none "<init>" (rm (d + 1) mc ms) (QM mc ms K) pc)) : Le (qMo_new_53 d mc ms B K) (G cMo_new "VoyageCompanyModel" 2 none "<init>" (rm (d + 1) mc ms) (QM mc ms K) 53) := by
  unfold qMo_new_53
  exact (s_ald_n (j := 0) (by decide +kernel) rfl (s_getr (idx := 8) (by decide +kernel) fl12_8 (by decide) (s_bipush (n := 30) (v := 30) (by decide +kernel) (by decide +kernel) (s_ild_n (j := 1) (by decide +kernel) rfl (s_iadd (by decide +kernel) (s_bipush (n := 10) (v := 10) (by decide +kernel) (by decide +kernel) (s_iast (by decide +kernel) (s_ald_n (j := 0) (by decide +kernel) rfl (s_getr (idx := 8) (by decide +kernel) fl12_8 (by decide) (s_bipush (n := 50) (v := 50) (by decide +kernel) (by decide +kernel) (s_ild_n (j := 1) (by decide +kernel) rfl (s_iadd (by decide +kernel) (s_bipush (n := 10) (v := 10) (by decide +kernel) (by decide +kernel) (s_iast (by decide +kernel) (s_inc (z := 1) (by decide +kernel) (by decide +kernel) (by decide) (s_goto (off := (-31)) (tgt := 47) (by decide +kernel) (by decide) (hB 47)))))))))))))))))
def qMo_new_47 (d mc ms : Nat) (B : Nat → Pd) (K : Ps) : Pd := (i_ild 1 (i_ci 20 (i_ic_ge (qMo_new_81 d mc ms B K) (qMo_new_53 d mc ms B K))))
theorem zMo_new_47 {d mc ms : Nat} {B : Nat → Pd} {K : Ps} (hB : ∀ pc, Le (B pc) (G cMo_new "VoyageCompanyModel" 2 none "<init>" (rm (d + 1) mc ms) (QM mc ms K) pc)) : Le (qMo_new_47 d mc ms B K) (G cMo_new "VoyageCompanyModel" 2 none "<init>" (rm (d + 1) mc ms) (QM mc ms K) 47) := by
  unfold qMo_new_47
  exact (s_ild_n (j := 1) (by decide +kernel) rfl (s_bipush (n := 20) (v := 20) (by decide +kernel) (by decide +kernel) (s_ic_ge (off := 31) (tgt := 81) (by decide +kernel) (by decide) (zMo_new_81 hB) (zMo_new_53 hB))))
def qMo_new_0 (d mc ms : Nat) (B : Nat → Pd) (K : Ps) : Pd := (i_ald 0 (i_obj (i_ald 0 (i_ci 70400 (i_newi 14 mc ms (i_putr 12 0 (i_ald 0 (i_ci 160 (i_newl mc ms (i_putr 12 1 (i_ald 0 (i_ci 3 (i_newi 16 mc ms (i_putr 12 2 (i_ald 0 (i_ci 320 (i_newi 14 mc ms (i_putr 12 12 (i_ald 0 (i_getr 12 0 (i_ci 6 (i_ci (-1) (i_iast (i_ci 0 (i_ist 1 (B 47))))))))))))))))))))))))))
theorem zMo_new_0 {d mc ms : Nat} {B : Nat → Pd} {K : Ps} (hB : ∀ pc, Le (B pc) (G cMo_new "VoyageCompanyModel" 2 none "<init>" (rm (d + 1) mc ms) (QM mc ms K) pc)) : Le (qMo_new_0 d mc ms B K) (G cMo_new "VoyageCompanyModel" 2 none "<init>" (rm (d + 1) mc ms) (QM mc ms K) 0) := by
  unfold qMo_new_0
  exact (s_ald_n (j := 0) (by decide +kernel) rfl (s_obj (idx := 1) (by decide +kernel) (lw_gm (by decide +kernel) (by decide +kernel)) rmo (s_ald_n (j := 0) (by decide +kernel) rfl (s_ldc (n := 7) (v := 70400) (by decide +kernel) (lw_gm (by decide +kernel) (by decide +kernel)) (s_newi (at_ := .int) (by decide +kernel) (by decide) (by decide) (lw_gm (by decide +kernel) (by decide +kernel)) rmn (s_putr (idx := 8) (by decide +kernel) fl12_8 (by decide) (by decide) (Or.inr ⟨rfl, by decide +kernel, by decide +kernel⟩) (s_ald_n (j := 0) (by decide +kernel) rfl (s_sipush (n := 160) (v := 160) (by decide +kernel) (by decide +kernel) (s_newl (by decide +kernel) (lw_gm (by decide +kernel) (by decide +kernel)) rmn (s_putr (idx := 14) (by decide +kernel) fl12_14 (by decide) (by decide) (Or.inr ⟨rfl, by decide +kernel, by decide +kernel⟩) (s_ald_n (j := 0) (by decide +kernel) rfl (s_iconst (n := 3) (v := 3) (by decide +kernel) (by decide +kernel) (s_newi (at_ := .boolean) (by decide +kernel) (by decide) (by decide) (lw_gm (by decide +kernel) (by decide +kernel)) rmn (s_putr (idx := 18) (by decide +kernel) fl12_18 (by decide) (by decide) (Or.inr ⟨rfl, by decide +kernel, by decide +kernel⟩) (s_ald_n (j := 0) (by decide +kernel) rfl (s_sipush (n := 320) (v := 320) (by decide +kernel) (by decide +kernel) (s_newi (at_ := .int) (by decide +kernel) (by decide) (by decide) (lw_gm (by decide +kernel) (by decide +kernel)) rmn (s_putr (idx := 22) (by decide +kernel) fl12_22 (by decide) (by decide) (Or.inr ⟨rfl, by decide +kernel, by decide +kernel⟩) (s_ald_n (j := 0) (by decide +kernel) rfl (s_getr (idx := 8) (by decide +kernel) fl12_8 (by decide) (s_bipush (n := 6) (v := 6) (by decide +kernel) (by decide +kernel) (s_iconst (n := (-1)) (v := (-1)) (by decide +kernel) (by decide +kernel) (s_iast (by decide +kernel) (s_iconst (n := 0) (v := 0) (by decide +kernel) (by decide +kernel) (s_ist_n (j := 1) (by decide +kernel) rfl (by decide) (hB 47))))))))))))))))))))))))))
/-- VoyageCompanyModel.<init>()V, at its places -/
def gMo_new (d mc ms : Nat) (K : Ps) : Nat → Pd := G cMo_new "VoyageCompanyModel" 2 none "<init>" (rm (d + 1) mc ms) (QM mc ms K)
theorem eMo_new {d mc ms : Nat} {K : Ps} {av : List Value} {E : Nat → Prop} {R : Nat → Nat → Value} {I : Nat → Nat → Int32} {J : Nat → Nat → Int64} (hn : (lg_sl av).length ≤ 2) (h : qMo_new_0 d mc ms (gMo_new d mc ms K) K (lv_args 0 av) [] E R I J 0 0) : CL yMo_new cMo_new 2 none (d + 1) mc ms av E R I J K :=
  CL.of (by decide +kernel) hn (zMo_new_0 (fun _ => Le.refl) _ _ _ _ _ _ _ _ h)
theorem lMo_new_47 {d mc ms : Nat} {K : Ps} : Le (qMo_new_47 d mc ms (gMo_new d mc ms K) K) (gMo_new d mc ms K 47) := zMo_new_47 (fun _ => Le.refl)
theorem lMo_new_83 {d mc ms : Nat} {K : Ps} : Le (qMo_new_83 d mc ms (gMo_new d mc ms K) K) (gMo_new d mc ms K 83) := zMo_new_83 (fun _ => Le.refl)
def qMo_isIn_15 (d mc ms : Nat) (B : Nat → Pd) (K : Ps) : Pd := (i_zret mc ms K)
theorem zMo_isIn_15 {d mc ms : Nat} {B : Nat → Pd} {K : Ps} (hB : ∀ pc, Le (B pc) (G cMo_isIn "VoyageCompanyModel" 3 (some .boolean) "isIn" (rm (d + 1) mc ms) (QM mc ms K) pc)) : Le (qMo_isIn_15 d mc ms B K) (G cMo_isIn "VoyageCompanyModel" 3 (some .boolean) "isIn" (rm (d + 1) mc ms) (QM mc ms K) 15) := by
  unfold qMo_isIn_15
  exact (s_zret (by decide +kernel) rfl)
def qMo_isIn_14 (d mc ms : Nat) (B : Nat → Pd) (K : Ps) : Pd := (i_ci 0 (qMo_isIn_15 d mc ms B K))
theorem zMo_isIn_14 {d mc ms : Nat} {B : Nat → Pd} {K : Ps} (hB : ∀ pc, Le (B pc) (G cMo_isIn "VoyageCompanyModel" 3 (some .boolean) "isIn" (rm (d + 1) mc ms) (QM mc ms K) pc)) : Le (qMo_isIn_14 d mc ms B K) (G cMo_isIn "VoyageCompanyModel" 3 (some .boolean) "isIn" (rm (d + 1) mc ms) (QM mc ms K) 14) := by
  unfold qMo_isIn_14
  exact (s_iconst (n := 0) (v := 0) (by decide +kernel) (by decide +kernel) (zMo_isIn_15 hB))
def qMo_isIn_10 (d mc ms : Nat) (B : Nat → Pd) (K : Ps) : Pd := (i_ci 1 (qMo_isIn_15 d mc ms B K))
theorem zMo_isIn_10 {d mc ms : Nat} {B : Nat → Pd} {K : Ps} (hB : ∀ pc, Le (B pc) (G cMo_isIn "VoyageCompanyModel" 3 (some .boolean) "isIn" (rm (d + 1) mc ms) (QM mc ms K) pc)) : Le (qMo_isIn_10 d mc ms B K) (G cMo_isIn "VoyageCompanyModel" 3 (some .boolean) "isIn" (rm (d + 1) mc ms) (QM mc ms K) 10) := by
  unfold qMo_isIn_10
  exact (s_iconst (n := 1) (v := 1) (by decide +kernel) (by decide +kernel) (s_goto (off := 4) (tgt := 15) (by decide +kernel) (by decide) (zMo_isIn_15 hB)))
def qMo_isIn_5 (d mc ms : Nat) (B : Nat → Pd) (K : Ps) : Pd := (i_ild 0 (i_ild 2 (i_ic_gt (qMo_isIn_14 d mc ms B K) (qMo_isIn_10 d mc ms B K))))
theorem zMo_isIn_5 {d mc ms : Nat} {B : Nat → Pd} {K : Ps} (hB : ∀ pc, Le (B pc) (G cMo_isIn "VoyageCompanyModel" 3 (some .boolean) "isIn" (rm (d + 1) mc ms) (QM mc ms K) pc)) : Le (qMo_isIn_5 d mc ms B K) (G cMo_isIn "VoyageCompanyModel" 3 (some .boolean) "isIn" (rm (d + 1) mc ms) (QM mc ms K) 5) := by
  unfold qMo_isIn_5
  exact (s_ild_n (j := 0) (by decide +kernel) rfl (s_ild_n (j := 2) (by decide +kernel) rfl (s_ic_gt (off := 7) (tgt := 14) (by decide +kernel) (by decide) (zMo_isIn_14 hB) (zMo_isIn_10 hB))))
def qMo_isIn_0 (d mc ms : Nat) (B : Nat → Pd) (K : Ps) : Pd := (i_ild 0 (i_ild 1 (i_ic_lt (qMo_isIn_14 d mc ms B K) (qMo_isIn_5 d mc ms B K))))
theorem zMo_isIn_0 {d mc ms : Nat} {B : Nat → Pd} {K : Ps} (hB : ∀ pc, Le (B pc) (G cMo_isIn "VoyageCompanyModel" 3 (some .boolean) "isIn" (rm (d + 1) mc ms) (QM mc ms K) pc)) : Le (qMo_isIn_0 d mc ms B K) (G cMo_isIn "VoyageCompanyModel" 3 (some .boolean) "isIn" (rm (d + 1) mc ms) (QM mc ms K) 0) := by
  unfold qMo_isIn_0
  exact (s_ild_n (j := 0) (by decide +kernel) rfl (s_ild_n (j := 1) (by decide +kernel) rfl (s_ic_lt (off := 12) (tgt := 14) (by decide +kernel) (by decide) (zMo_isIn_14 hB) (zMo_isIn_5 hB))))
/-- VoyageCompanyModel.isIn(III)Z, at its places -/
def gMo_isIn (d mc ms : Nat) (K : Ps) : Nat → Pd := G cMo_isIn "VoyageCompanyModel" 3 (some .boolean) "isIn" (rm (d + 1) mc ms) (QM mc ms K)
theorem eMo_isIn {d mc ms : Nat} {K : Ps} {av : List Value} {E : Nat → Prop} {R : Nat → Nat → Value} {I : Nat → Nat → Int32} {J : Nat → Nat → Int64} (hn : (lg_sl av).length ≤ 3) (h : qMo_isIn_0 d mc ms (gMo_isIn d mc ms K) K (lv_args 0 av) [] E R I J 0 0) : CL yMo_isIn cMo_isIn 3 (some .boolean) (d + 1) mc ms av E R I J K :=
  CL.of (by decide +kernel) hn (zMo_isIn_0 (fun _ => Le.refl) _ _ _ _ _ _ _ _ h)
def qMo_isPort_0 (d mc ms : Nat) (B : Nat → Pd) (K : Ps) : Pd := (i_ild 0 (i_ci 0 (i_ci 4 (i_call 2 12 yMo_isIn cMo_isIn 3 (some .boolean) mc ms d 3 (i_zret mc ms K)))))
theorem zMo_isPort_0 {d mc ms : Nat} {B : Nat → Pd} {K : Ps} (hB : ∀ pc, Le (B pc) (G cMo_isPort "VoyageCompanyModel" 1 (some .boolean) "isPort" (rm (d + 1) mc ms) (QM mc ms K) pc)) : Le (qMo_isPort_0 d mc ms B K) (G cMo_isPort "VoyageCompanyModel" 1 (some .boolean) "isPort" (rm (d + 1) mc ms) (QM mc ms K) 0) := by
  unfold qMo_isPort_0
  exact (s_ild_n (j := 0) (by decide +kernel) rfl (s_iconst (n := 0) (v := 0) (by decide +kernel) (by decide +kernel) (s_iconst (n := 4) (v := 4) (by decide +kernel) (by decide +kernel) (s_call (idx := 25) (by decide +kernel) ml12_25 rmk (s_zret (by decide +kernel) rfl)))))
/-- VoyageCompanyModel.isPort(I)Z, at its places -/
def gMo_isPort (d mc ms : Nat) (K : Ps) : Nat → Pd := G cMo_isPort "VoyageCompanyModel" 1 (some .boolean) "isPort" (rm (d + 1) mc ms) (QM mc ms K)
theorem eMo_isPort {d mc ms : Nat} {K : Ps} {av : List Value} {E : Nat → Prop} {R : Nat → Nat → Value} {I : Nat → Nat → Int32} {J : Nat → Nat → Int64} (hn : (lg_sl av).length ≤ 1) (h : qMo_isPort_0 d mc ms (gMo_isPort d mc ms K) K (lv_args 0 av) [] E R I J 0 0) : CL yMo_isPort cMo_isPort 1 (some .boolean) (d + 1) mc ms av E R I J K :=
  CL.of (by decide +kernel) hn (zMo_isPort_0 (fun _ => Le.refl) _ _ _ _ _ _ _ _ h)
def qMo_isGood_0 (d mc ms : Nat) (B : Nat → Pd) (K : Ps) : Pd := (i_ild 0 (i_ci 0 (i_ci 3 (i_call 2 12 yMo_isIn cMo_isIn 3 (some .boolean) mc ms d 3 (i_zret mc ms K)))))
theorem zMo_isGood_0 {d mc ms : Nat} {B : Nat → Pd} {K : Ps} (hB : ∀ pc, Le (B pc) (G cMo_isGood "VoyageCompanyModel" 1 (some .boolean) "isGood" (rm (d + 1) mc ms) (QM mc ms K) pc)) : Le (qMo_isGood_0 d mc ms B K) (G cMo_isGood "VoyageCompanyModel" 1 (some .boolean) "isGood" (rm (d + 1) mc ms) (QM mc ms K) 0) := by
  unfold qMo_isGood_0
  exact (s_ild_n (j := 0) (by decide +kernel) rfl (s_iconst (n := 0) (v := 0) (by decide +kernel) (by decide +kernel) (s_iconst (n := 3) (v := 3) (by decide +kernel) (by decide +kernel) (s_call (idx := 25) (by decide +kernel) ml12_25 rmk (s_zret (by decide +kernel) rfl)))))
/-- VoyageCompanyModel.isGood(I)Z, at its places -/
def gMo_isGood (d mc ms : Nat) (K : Ps) : Nat → Pd := G cMo_isGood "VoyageCompanyModel" 1 (some .boolean) "isGood" (rm (d + 1) mc ms) (QM mc ms K)
theorem eMo_isGood {d mc ms : Nat} {K : Ps} {av : List Value} {E : Nat → Prop} {R : Nat → Nat → Value} {I : Nat → Nat → Int32} {J : Nat → Nat → Int64} (hn : (lg_sl av).length ≤ 1) (h : qMo_isGood_0 d mc ms (gMo_isGood d mc ms K) K (lv_args 0 av) [] E R I J 0 0) : CL yMo_isGood cMo_isGood 1 (some .boolean) (d + 1) mc ms av E R I J K :=
  CL.of (by decide +kernel) hn (zMo_isGood_0 (fun _ => Le.refl) _ _ _ _ _ _ _ _ h)
def qMo_feed_123 (d mc ms : Nat) (B : Nat → Pd) (K : Ps) : Pd := (i_ald 0 (i_getr 12 0 (i_ci 4 (i_iald (i_iret mc ms K)))))
theorem zMo_feed_123 {d mc ms : Nat} {B : Nat → Pd} {K : Ps} (hB : ∀ pc, Le (B pc) (G cMo_feed "VoyageCompanyModel" 8 (some .int) "feed" (rm (d + 1) mc ms) (QM mc ms K) pc)) : Le (qMo_feed_123 d mc ms B K) (G cMo_feed "VoyageCompanyModel" 8 (some .int) "feed" (rm (d + 1) mc ms) (QM mc ms K) 123) := by
  unfold qMo_feed_123
  exact (s_ald_n (j := 0) (by decide +kernel) rfl (s_getr (idx := 8) (by decide +kernel) fl12_8 (by decide) (s_iconst (n := 4) (v := 4) (by decide +kernel) (by decide +kernel) (s_iald (by decide +kernel) (s_iret (by decide +kernel) rfl)))))
def qMo_feed_73 (d mc ms : Nat) (B : Nat → Pd) (K : Ps) : Pd := (i_ist 7 (i_ald 0 (i_getr 12 0 (i_ci 17100 (i_ald 0 (i_getr 12 0 (i_ci 4 (i_iald (i_iadd (i_ild 7 (i_ci 24 (i_ci 8 (i_ild 6 (i_ci 4 (i_irem (i_imul (i_isub (i_ishr (i_ci 255 (i_iand (i_iast (i_ald 0 (i_getr 12 0 (i_ci 4 (i_dup2 (i_iald (i_ci 1 (i_iadd (i_iast (i_inc 6 1 (B 20)))))))))))))))))))))))))))))))
theorem zMo_feed_73 {d mc ms : Nat} {B : Nat → Pd} {K : Ps} (hB : ∀ pc, Le (B pc) (G cMo_feed "VoyageCompanyModel" 8 (some .int) "feed" (rm (d + 1) mc ms) (QM mc ms K) pc)) : Le (qMo_feed_73 d mc ms B K) (G cMo_feed "VoyageCompanyModel" 8 (some .int) "feed" (rm (d + 1) mc ms) (QM mc ms K) 73) := by
  unfold qMo_feed_73
  exact (s_ist (by decide +kernel) (by decide) (s_ald_n (j := 0) (by decide +kernel) rfl (s_getr (idx := 8) (by decide +kernel) fl12_8 (by decide) (s_sipush (n := 17100) (v := 17100) (by decide +kernel) (by decide +kernel) (s_ald_n (j := 0) (by decide +kernel) rfl (s_getr (idx := 8) (by decide +kernel) fl12_8 (by decide) (s_iconst (n := 4) (v := 4) (by decide +kernel) (by decide +kernel) (s_iald (by decide +kernel) (s_iadd (by decide +kernel) (s_ild (by decide +kernel) (s_bipush (n := 24) (v := 24) (by decide +kernel) (by decide +kernel) (s_bipush (n := 8) (v := 8) (by decide +kernel) (by decide +kernel) (s_ild (by decide +kernel) (s_iconst (n := 4) (v := 4) (by decide +kernel) (by decide +kernel) (s_irem (by decide +kernel) (s_imul (by decide +kernel) (s_isub (by decide +kernel) (s_ishr (by decide +kernel) (s_sipush (n := 255) (v := 255) (by decide +kernel) (by decide +kernel) (s_iand (by decide +kernel) (s_iast (by decide +kernel) (s_ald_n (j := 0) (by decide +kernel) rfl (s_getr (idx := 8) (by decide +kernel) fl12_8 (by decide) (s_iconst (n := 4) (v := 4) (by decide +kernel) (by decide +kernel) (s_dup2 (by decide +kernel) (s_iald (by decide +kernel) (s_iconst (n := 1) (v := 1) (by decide +kernel) (by decide +kernel) (s_iadd (by decide +kernel) (s_iast (by decide +kernel) (s_inc (z := 1) (by decide +kernel) (by decide +kernel) (by decide) (s_goto (off := (-100)) (tgt := 20) (by decide +kernel) (by decide) (hB 20))))))))))))))))))))))))))))))))
def qMo_feed_71 (d mc ms : Nat) (B : Nat → Pd) (K : Ps) : Pd := (i_ild 5 (qMo_feed_73 d mc ms B K))
theorem zMo_feed_71 {d mc ms : Nat} {B : Nat → Pd} {K : Ps} (hB : ∀ pc, Le (B pc) (G cMo_feed "VoyageCompanyModel" 8 (some .int) "feed" (rm (d + 1) mc ms) (QM mc ms K) pc)) : Le (qMo_feed_71 d mc ms B K) (G cMo_feed "VoyageCompanyModel" 8 (some .int) "feed" (rm (d + 1) mc ms) (QM mc ms K) 71) := by
  unfold qMo_feed_71
  exact (s_ild (by decide +kernel) (zMo_feed_73 hB))
def qMo_feed_66 (d mc ms : Nat) (B : Nat → Pd) (K : Ps) : Pd := (i_ild 4 (qMo_feed_73 d mc ms B K))
theorem zMo_feed_66 {d mc ms : Nat} {B : Nat → Pd} {K : Ps} (hB : ∀ pc, Le (B pc) (G cMo_feed "VoyageCompanyModel" 8 (some .int) "feed" (rm (d + 1) mc ms) (QM mc ms K) pc)) : Le (qMo_feed_66 d mc ms B K) (G cMo_feed "VoyageCompanyModel" 8 (some .int) "feed" (rm (d + 1) mc ms) (QM mc ms K) 66) := by
  unfold qMo_feed_66
  exact (s_ild (by decide +kernel) (s_goto (off := 5) (tgt := 73) (by decide +kernel) (by decide) (zMo_feed_73 hB)))
def qMo_feed_59 (d mc ms : Nat) (B : Nat → Pd) (K : Ps) : Pd := (i_ild 6 (i_ci 16 (i_ic_ge (qMo_feed_71 d mc ms B K) (qMo_feed_66 d mc ms B K))))
theorem zMo_feed_59 {d mc ms : Nat} {B : Nat → Pd} {K : Ps} (hB : ∀ pc, Le (B pc) (G cMo_feed "VoyageCompanyModel" 8 (some .int) "feed" (rm (d + 1) mc ms) (QM mc ms K) pc)) : Le (qMo_feed_59 d mc ms B K) (G cMo_feed "VoyageCompanyModel" 8 (some .int) "feed" (rm (d + 1) mc ms) (QM mc ms K) 59) := by
  unfold qMo_feed_59
  exact (s_ild (by decide +kernel) (s_bipush (n := 16) (v := 16) (by decide +kernel) (by decide +kernel) (s_ic_ge (off := 8) (tgt := 71) (by decide +kernel) (by decide) (zMo_feed_71 hB) (zMo_feed_66 hB))))
def qMo_feed_55 (d mc ms : Nat) (B : Nat → Pd) (K : Ps) : Pd := (i_ild 3 (qMo_feed_73 d mc ms B K))
theorem zMo_feed_55 {d mc ms : Nat} {B : Nat → Pd} {K : Ps} (hB : ∀ pc, Le (B pc) (G cMo_feed "VoyageCompanyModel" 8 (some .int) "feed" (rm (d + 1) mc ms) (QM mc ms K) pc)) : Le (qMo_feed_55 d mc ms B K) (G cMo_feed "VoyageCompanyModel" 8 (some .int) "feed" (rm (d + 1) mc ms) (QM mc ms K) 55) := by
  unfold qMo_feed_55
  exact (s_ild_n (j := 3) (by decide +kernel) rfl (s_goto (off := 17) (tgt := 73) (by decide +kernel) (by decide) (zMo_feed_73 hB)))
def qMo_feed_48 (d mc ms : Nat) (B : Nat → Pd) (K : Ps) : Pd := (i_ild 6 (i_ci 12 (i_ic_ge (qMo_feed_59 d mc ms B K) (qMo_feed_55 d mc ms B K))))
theorem zMo_feed_48 {d mc ms : Nat} {B : Nat → Pd} {K : Ps} (hB : ∀ pc, Le (B pc) (G cMo_feed "VoyageCompanyModel" 8 (some .int) "feed" (rm (d + 1) mc ms) (QM mc ms K) pc)) : Le (qMo_feed_48 d mc ms B K) (G cMo_feed "VoyageCompanyModel" 8 (some .int) "feed" (rm (d + 1) mc ms) (QM mc ms K) 48) := by
  unfold qMo_feed_48
  exact (s_ild (by decide +kernel) (s_bipush (n := 12) (v := 12) (by decide +kernel) (by decide +kernel) (s_ic_ge (off := 7) (tgt := 59) (by decide +kernel) (by decide) (zMo_feed_59 hB) (zMo_feed_55 hB))))
def qMo_feed_44 (d mc ms : Nat) (B : Nat → Pd) (K : Ps) : Pd := (i_ild 2 (qMo_feed_73 d mc ms B K))
theorem zMo_feed_44 {d mc ms : Nat} {B : Nat → Pd} {K : Ps} (hB : ∀ pc, Le (B pc) (G cMo_feed "VoyageCompanyModel" 8 (some .int) "feed" (rm (d + 1) mc ms) (QM mc ms K) pc)) : Le (qMo_feed_44 d mc ms B K) (G cMo_feed "VoyageCompanyModel" 8 (some .int) "feed" (rm (d + 1) mc ms) (QM mc ms K) 44) := by
  unfold qMo_feed_44
  exact (s_ild_n (j := 2) (by decide +kernel) rfl (s_goto (off := 28) (tgt := 73) (by decide +kernel) (by decide) (zMo_feed_73 hB)))
def qMo_feed_37 (d mc ms : Nat) (B : Nat → Pd) (K : Ps) : Pd := (i_ild 6 (i_ci 8 (i_ic_ge (qMo_feed_48 d mc ms B K) (qMo_feed_44 d mc ms B K))))
theorem zMo_feed_37 {d mc ms : Nat} {B : Nat → Pd} {K : Ps} (hB : ∀ pc, Le (B pc) (G cMo_feed "VoyageCompanyModel" 8 (some .int) "feed" (rm (d + 1) mc ms) (QM mc ms K) pc)) : Le (qMo_feed_37 d mc ms B K) (G cMo_feed "VoyageCompanyModel" 8 (some .int) "feed" (rm (d + 1) mc ms) (QM mc ms K) 37) := by
  unfold qMo_feed_37
  exact (s_ild (by decide +kernel) (s_bipush (n := 8) (v := 8) (by decide +kernel) (by decide +kernel) (s_ic_ge (off := 7) (tgt := 48) (by decide +kernel) (by decide) (zMo_feed_48 hB) (zMo_feed_44 hB))))
def qMo_feed_33 (d mc ms : Nat) (B : Nat → Pd) (K : Ps) : Pd := (i_ild 1 (qMo_feed_73 d mc ms B K))
theorem zMo_feed_33 {d mc ms : Nat} {B : Nat → Pd} {K : Ps} (hB : ∀ pc, Le (B pc) (G cMo_feed "VoyageCompanyModel" 8 (some .int) "feed" (rm (d + 1) mc ms) (QM mc ms K) pc)) : Le (qMo_feed_33 d mc ms B K) (G cMo_feed "VoyageCompanyModel" 8 (some .int) "feed" (rm (d + 1) mc ms) (QM mc ms K) 33) := by
  unfold qMo_feed_33
  exact (s_ild_n (j := 1) (by decide +kernel) rfl (s_goto (off := 39) (tgt := 73) (by decide +kernel) (by decide) (zMo_feed_73 hB)))
def qMo_feed_27 (d mc ms : Nat) (B : Nat → Pd) (K : Ps) : Pd := (i_ild 6 (i_ci 4 (i_ic_ge (qMo_feed_37 d mc ms B K) (qMo_feed_33 d mc ms B K))))
theorem zMo_feed_27 {d mc ms : Nat} {B : Nat → Pd} {K : Ps} (hB : ∀ pc, Le (B pc) (G cMo_feed "VoyageCompanyModel" 8 (some .int) "feed" (rm (d + 1) mc ms) (QM mc ms K) pc)) : Le (qMo_feed_27 d mc ms B K) (G cMo_feed "VoyageCompanyModel" 8 (some .int) "feed" (rm (d + 1) mc ms) (QM mc ms K) 27) := by
  unfold qMo_feed_27
  exact (s_ild (by decide +kernel) (s_iconst (n := 4) (v := 4) (by decide +kernel) (by decide +kernel) (s_ic_ge (off := 7) (tgt := 37) (by decide +kernel) (by decide) (zMo_feed_37 hB) (zMo_feed_33 hB))))
def qMo_feed_20 (d mc ms : Nat) (B : Nat → Pd) (K : Ps) : Pd := (i_ild 6 (i_ci 20 (i_ic_ge (qMo_feed_123 d mc ms B K) (qMo_feed_27 d mc ms B K))))
theorem zMo_feed_20 {d mc ms : Nat} {B : Nat → Pd} {K : Ps} (hB : ∀ pc, Le (B pc) (G cMo_feed "VoyageCompanyModel" 8 (some .int) "feed" (rm (d + 1) mc ms) (QM mc ms K) pc)) : Le (qMo_feed_20 d mc ms B K) (G cMo_feed "VoyageCompanyModel" 8 (some .int) "feed" (rm (d + 1) mc ms) (QM mc ms K) 20) := by
  unfold qMo_feed_20
  exact (s_ild (by decide +kernel) (s_bipush (n := 20) (v := 20) (by decide +kernel) (by decide +kernel) (s_ic_ge (off := 99) (tgt := 123) (by decide +kernel) (by decide) (zMo_feed_123 hB) (zMo_feed_27 hB))))
def qMo_feed_17 (d mc ms : Nat) (B : Nat → Pd) (K : Ps) : Pd := (i_ci 0 (i_ist 6 (B 20)))
theorem zMo_feed_17 {d mc ms : Nat} {B : Nat → Pd} {K : Ps} (hB : ∀ pc, Le (B pc) (G cMo_feed "VoyageCompanyModel" 8 (some .int) "feed" (rm (d + 1) mc ms) (QM mc ms K) pc)) : Le (qMo_feed_17 d mc ms B K) (G cMo_feed "VoyageCompanyModel" 8 (some .int) "feed" (rm (d + 1) mc ms) (QM mc ms K) 17) := by
  unfold qMo_feed_17
  exact (s_iconst (n := 0) (v := 0) (by decide +kernel) (by decide +kernel) (s_ist (by decide +kernel) (by decide) (hB 20)))
def qMo_feed_15 (d mc ms : Nat) (B : Nat → Pd) (K : Ps) : Pd := (i_ci (-1) (i_iret mc ms K))
theorem zMo_feed_15 {d mc ms : Nat} {B : Nat → Pd} {K : Ps} (hB : ∀ pc, Le (B pc) (G cMo_feed "VoyageCompanyModel" 8 (some .int) "feed" (rm (d + 1) mc ms) (QM mc ms K) pc)) : Le (qMo_feed_15 d mc ms B K) (G cMo_feed "VoyageCompanyModel" 8 (some .int) "feed" (rm (d + 1) mc ms) (QM mc ms K) 15) := by
  unfold qMo_feed_15
  exact (s_iconst (n := (-1)) (v := (-1)) (by decide +kernel) (by decide +kernel) (s_iret (by decide +kernel) rfl))
def qMo_feed_0 (d mc ms : Nat) (B : Nat → Pd) (K : Ps) : Pd := (i_ald 0 (i_getr 12 0 (i_ci 4 (i_iald (i_ci 20 (i_iadd (i_ci 500 (i_ic_le (qMo_feed_17 d mc ms B K) (qMo_feed_15 d mc ms B K)))))))))
theorem zMo_feed_0 {d mc ms : Nat} {B : Nat → Pd} {K : Ps} (hB : ∀ pc, Le (B pc) (G cMo_feed "VoyageCompanyModel" 8 (some .int) "feed" (rm (d + 1) mc ms) (QM mc ms K) pc)) : Le (qMo_feed_0 d mc ms B K) (G cMo_feed "VoyageCompanyModel" 8 (some .int) "feed" (rm (d + 1) mc ms) (QM mc ms K) 0) := by
  unfold qMo_feed_0
  exact (s_ald_n (j := 0) (by decide +kernel) rfl (s_getr (idx := 8) (by decide +kernel) fl12_8 (by decide) (s_iconst (n := 4) (v := 4) (by decide +kernel) (by decide +kernel) (s_iald (by decide +kernel) (s_bipush (n := 20) (v := 20) (by decide +kernel) (by decide +kernel) (s_iadd (by decide +kernel) (s_sipush (n := 500) (v := 500) (by decide +kernel) (by decide +kernel) (s_ic_le (off := 5) (tgt := 17) (by decide +kernel) (by decide) (zMo_feed_17 hB) (zMo_feed_15 hB)))))))))
/-- VoyageCompanyModel.feed(IIIII)I, at its places -/
def gMo_feed (d mc ms : Nat) (K : Ps) : Nat → Pd := G cMo_feed "VoyageCompanyModel" 8 (some .int) "feed" (rm (d + 1) mc ms) (QM mc ms K)
theorem eMo_feed {d mc ms : Nat} {K : Ps} {av : List Value} {E : Nat → Prop} {R : Nat → Nat → Value} {I : Nat → Nat → Int32} {J : Nat → Nat → Int64} (hn : (lg_sl av).length ≤ 8) (h : qMo_feed_0 d mc ms (gMo_feed d mc ms K) K (lv_args 0 av) [] E R I J 0 0) : CL yMo_feed cMo_feed 8 (some .int) (d + 1) mc ms av E R I J K :=
  CL.of (by decide +kernel) hn (zMo_feed_0 (fun _ => Le.refl) _ _ _ _ _ _ _ _ h)
theorem lMo_feed_20 {d mc ms : Nat} {K : Ps} : Le (qMo_feed_20 d mc ms (gMo_feed d mc ms K) K) (gMo_feed d mc ms K 20) := zMo_feed_20 (fun _ => Le.refl)
def qMo_end_16 (d mc ms : Nat) (B : Nat → Pd) (K : Ps) : Pd := (i_ald 0 (i_getr 12 0 (i_ci 4 (i_ild 1 (i_iast (i_ild 1 (i_iret mc ms K)))))))
theorem zMo_end_16 {d mc ms : Nat} {B : Nat → Pd} {K : Ps} (hB : ∀ pc, Le (B pc) (G cMo_end "VoyageCompanyModel" 2 (some .int) "end" (rm (d + 1) mc ms) (QM mc ms K) pc)) : Le (qMo_end_16 d mc ms B K) (G cMo_end "VoyageCompanyModel" 2 (some .int) "end" (rm (d + 1) mc ms) (QM mc ms K) 16) := by
  unfold qMo_end_16
  exact (s_ald_n (j := 0) (by decide +kernel) rfl (s_getr (idx := 8) (by decide +kernel) fl12_8 (by decide) (s_iconst (n := 4) (v := 4) (by decide +kernel) (by decide +kernel) (s_ild_n (j := 1) (by decide +kernel) rfl (s_iast (by decide +kernel) (s_ild_n (j := 1) (by decide +kernel) rfl (s_iret (by decide +kernel) rfl)))))))
def qMo_end_14 (d mc ms : Nat) (B : Nat → Pd) (K : Ps) : Pd := (i_ci (-1) (i_iret mc ms K))
theorem zMo_end_14 {d mc ms : Nat} {B : Nat → Pd} {K : Ps} (hB : ∀ pc, Le (B pc) (G cMo_end "VoyageCompanyModel" 2 (some .int) "end" (rm (d + 1) mc ms) (QM mc ms K) pc)) : Le (qMo_end_14 d mc ms B K) (G cMo_end "VoyageCompanyModel" 2 (some .int) "end" (rm (d + 1) mc ms) (QM mc ms K) 14) := by
  unfold qMo_end_14
  exact (s_iconst (n := (-1)) (v := (-1)) (by decide +kernel) (by decide +kernel) (s_iret (by decide +kernel) rfl))
def qMo_end_4 (d mc ms : Nat) (B : Nat → Pd) (K : Ps) : Pd := (i_ild 1 (i_ald 0 (i_getr 12 0 (i_ci 4 (i_iald (i_ic_le (qMo_end_16 d mc ms B K) (qMo_end_14 d mc ms B K)))))))
theorem zMo_end_4 {d mc ms : Nat} {B : Nat → Pd} {K : Ps} (hB : ∀ pc, Le (B pc) (G cMo_end "VoyageCompanyModel" 2 (some .int) "end" (rm (d + 1) mc ms) (QM mc ms K) pc)) : Le (qMo_end_4 d mc ms B K) (G cMo_end "VoyageCompanyModel" 2 (some .int) "end" (rm (d + 1) mc ms) (QM mc ms K) 4) := by
  unfold qMo_end_4
  exact (s_ild_n (j := 1) (by decide +kernel) rfl (s_ald_n (j := 0) (by decide +kernel) rfl (s_getr (idx := 8) (by decide +kernel) fl12_8 (by decide) (s_iconst (n := 4) (v := 4) (by decide +kernel) (by decide +kernel) (s_iald (by decide +kernel) (s_ic_le (off := 5) (tgt := 16) (by decide +kernel) (by decide) (zMo_end_16 hB) (zMo_end_14 hB)))))))
def qMo_end_0 (d mc ms : Nat) (B : Nat → Pd) (K : Ps) : Pd := (i_ild 1 (i_if_lt (qMo_end_14 d mc ms B K) (qMo_end_4 d mc ms B K)))
theorem zMo_end_0 {d mc ms : Nat} {B : Nat → Pd} {K : Ps} (hB : ∀ pc, Le (B pc) (G cMo_end "VoyageCompanyModel" 2 (some .int) "end" (rm (d + 1) mc ms) (QM mc ms K) pc)) : Le (qMo_end_0 d mc ms B K) (G cMo_end "VoyageCompanyModel" 2 (some .int) "end" (rm (d + 1) mc ms) (QM mc ms K) 0) := by
  unfold qMo_end_0
  exact (s_ild_n (j := 1) (by decide +kernel) rfl (s_if_lt (off := 13) (tgt := 14) (by decide +kernel) (by decide) (zMo_end_14 hB) (zMo_end_4 hB)))
/-- VoyageCompanyModel.end(I)I, at its places -/
def gMo_end (d mc ms : Nat) (K : Ps) : Nat → Pd := G cMo_end "VoyageCompanyModel" 2 (some .int) "end" (rm (d + 1) mc ms) (QM mc ms K)
theorem eMo_end {d mc ms : Nat} {K : Ps} {av : List Value} {E : Nat → Prop} {R : Nat → Nat → Value} {I : Nat → Nat → Int32} {J : Nat → Nat → Int64} (hn : (lg_sl av).length ≤ 2) (h : qMo_end_0 d mc ms (gMo_end d mc ms K) K (lv_args 0 av) [] E R I J 0 0) : CL yMo_end cMo_end 2 (some .int) (d + 1) mc ms av E R I J K :=
  CL.of (by decide +kernel) hn (zMo_end_0 (fun _ => Le.refl) _ _ _ _ _ _ _ _ h)
def qMo_byteAt_22 (d mc ms : Nat) (B : Nat → Pd) (K : Ps) : Pd := (i_iret mc ms K)
theorem zMo_byteAt_22 {d mc ms : Nat} {B : Nat → Pd} {K : Ps} (hB : ∀ pc, Le (B pc) (G cMo_byteAt "VoyageCompanyModel" 2 (some .int) "byteAt" (rm (d + 1) mc ms) (QM mc ms K) pc)) : Le (qMo_byteAt_22 d mc ms B K) (G cMo_byteAt "VoyageCompanyModel" 2 (some .int) "byteAt" (rm (d + 1) mc ms) (QM mc ms K) 22) := by
  unfold qMo_byteAt_22
  exact (s_iret (by decide +kernel) rfl)
def qMo_byteAt_21 (d mc ms : Nat) (B : Nat → Pd) (K : Ps) : Pd := (i_ci (-1) (qMo_byteAt_22 d mc ms B K))
theorem zMo_byteAt_21 {d mc ms : Nat} {B : Nat → Pd} {K : Ps} (hB : ∀ pc, Le (B pc) (G cMo_byteAt "VoyageCompanyModel" 2 (some .int) "byteAt" (rm (d + 1) mc ms) (QM mc ms K) pc)) : Le (qMo_byteAt_21 d mc ms B K) (G cMo_byteAt "VoyageCompanyModel" 2 (some .int) "byteAt" (rm (d + 1) mc ms) (QM mc ms K) 21) := by
  unfold qMo_byteAt_21
  exact (s_iconst (n := (-1)) (v := (-1)) (by decide +kernel) (by decide +kernel) (zMo_byteAt_22 hB))
def qMo_byteAt_8 (d mc ms : Nat) (B : Nat → Pd) (K : Ps) : Pd := (i_ald 0 (i_getr 12 0 (i_ci 17100 (i_ild 1 (i_iadd (i_iald (qMo_byteAt_22 d mc ms B K)))))))
theorem zMo_byteAt_8 {d mc ms : Nat} {B : Nat → Pd} {K : Ps} (hB : ∀ pc, Le (B pc) (G cMo_byteAt "VoyageCompanyModel" 2 (some .int) "byteAt" (rm (d + 1) mc ms) (QM mc ms K) pc)) : Le (qMo_byteAt_8 d mc ms B K) (G cMo_byteAt "VoyageCompanyModel" 2 (some .int) "byteAt" (rm (d + 1) mc ms) (QM mc ms K) 8) := by
  unfold qMo_byteAt_8
  exact (s_ald_n (j := 0) (by decide +kernel) rfl (s_getr (idx := 8) (by decide +kernel) fl12_8 (by decide) (s_sipush (n := 17100) (v := 17100) (by decide +kernel) (by decide +kernel) (s_ild_n (j := 1) (by decide +kernel) rfl (s_iadd (by decide +kernel) (s_iald (by decide +kernel) (s_goto (off := 4) (tgt := 22) (by decide +kernel) (by decide) (zMo_byteAt_22 hB))))))))
def qMo_byteAt_0 (d mc ms : Nat) (B : Nat → Pd) (K : Ps) : Pd := (i_ild 1 (i_ald 0 (i_geti 12 3 (i_ic_ge (qMo_byteAt_21 d mc ms B K) (qMo_byteAt_8 d mc ms B K)))))
theorem zMo_byteAt_0 {d mc ms : Nat} {B : Nat → Pd} {K : Ps} (hB : ∀ pc, Le (B pc) (G cMo_byteAt "VoyageCompanyModel" 2 (some .int) "byteAt" (rm (d + 1) mc ms) (QM mc ms K) pc)) : Le (qMo_byteAt_0 d mc ms B K) (G cMo_byteAt "VoyageCompanyModel" 2 (some .int) "byteAt" (rm (d + 1) mc ms) (QM mc ms K) 0) := by
  unfold qMo_byteAt_0
  exact (s_ild_n (j := 1) (by decide +kernel) rfl (s_ald_n (j := 0) (by decide +kernel) rfl (s_geti (idx := 29) (by decide +kernel) fl12_29 (by decide) (s_ic_ge (off := 16) (tgt := 21) (by decide +kernel) (by decide) (zMo_byteAt_21 hB) (zMo_byteAt_8 hB)))))
/-- VoyageCompanyModel.byteAt(I)I, at its places -/
def gMo_byteAt (d mc ms : Nat) (K : Ps) : Nat → Pd := G cMo_byteAt "VoyageCompanyModel" 2 (some .int) "byteAt" (rm (d + 1) mc ms) (QM mc ms K)
theorem eMo_byteAt {d mc ms : Nat} {K : Ps} {av : List Value} {E : Nat → Prop} {R : Nat → Nat → Value} {I : Nat → Nat → Int32} {J : Nat → Nat → Int64} (hn : (lg_sl av).length ≤ 2) (h : qMo_byteAt_0 d mc ms (gMo_byteAt d mc ms K) K (lv_args 0 av) [] E R I J 0 0) : CL yMo_byteAt cMo_byteAt 2 (some .int) (d + 1) mc ms av E R I J K :=
  CL.of (by decide +kernel) hn (zMo_byteAt_0 (fun _ => Le.refl) _ _ _ _ _ _ _ _ h)
def qMo_isLetter_17 (d mc ms : Nat) (B : Nat → Pd) (K : Ps) : Pd := (i_zret mc ms K)
theorem zMo_isLetter_17 {d mc ms : Nat} {B : Nat → Pd} {K : Ps} (hB : ∀ pc, Le (B pc) (G cMo_isLetter "VoyageCompanyModel" 1 (some .boolean) "isLetter" (rm (d + 1) mc ms) (QM mc ms K) pc)) : Le (qMo_isLetter_17 d mc ms B K) (G cMo_isLetter "VoyageCompanyModel" 1 (some .boolean) "isLetter" (rm (d + 1) mc ms) (QM mc ms K) 17) := by
  unfold qMo_isLetter_17
  exact (s_zret (by decide +kernel) rfl)
def qMo_isLetter_16 (d mc ms : Nat) (B : Nat → Pd) (K : Ps) : Pd := (i_ci 0 (qMo_isLetter_17 d mc ms B K))
theorem zMo_isLetter_16 {d mc ms : Nat} {B : Nat → Pd} {K : Ps} (hB : ∀ pc, Le (B pc) (G cMo_isLetter "VoyageCompanyModel" 1 (some .boolean) "isLetter" (rm (d + 1) mc ms) (QM mc ms K) pc)) : Le (qMo_isLetter_16 d mc ms B K) (G cMo_isLetter "VoyageCompanyModel" 1 (some .boolean) "isLetter" (rm (d + 1) mc ms) (QM mc ms K) 16) := by
  unfold qMo_isLetter_16
  exact (s_iconst (n := 0) (v := 0) (by decide +kernel) (by decide +kernel) (zMo_isLetter_17 hB))
def qMo_isLetter_12 (d mc ms : Nat) (B : Nat → Pd) (K : Ps) : Pd := (i_ci 1 (qMo_isLetter_17 d mc ms B K))
theorem zMo_isLetter_12 {d mc ms : Nat} {B : Nat → Pd} {K : Ps} (hB : ∀ pc, Le (B pc) (G cMo_isLetter "VoyageCompanyModel" 1 (some .boolean) "isLetter" (rm (d + 1) mc ms) (QM mc ms K) pc)) : Le (qMo_isLetter_12 d mc ms B K) (G cMo_isLetter "VoyageCompanyModel" 1 (some .boolean) "isLetter" (rm (d + 1) mc ms) (QM mc ms K) 12) := by
  unfold qMo_isLetter_12
  exact (s_iconst (n := 1) (v := 1) (by decide +kernel) (by decide +kernel) (s_goto (off := 4) (tgt := 17) (by decide +kernel) (by decide) (zMo_isLetter_17 hB)))
def qMo_isLetter_6 (d mc ms : Nat) (B : Nat → Pd) (K : Ps) : Pd := (i_ild 0 (i_ci 122 (i_ic_gt (qMo_isLetter_16 d mc ms B K) (qMo_isLetter_12 d mc ms B K))))
theorem zMo_isLetter_6 {d mc ms : Nat} {B : Nat → Pd} {K : Ps} (hB : ∀ pc, Le (B pc) (G cMo_isLetter "VoyageCompanyModel" 1 (some .boolean) "isLetter" (rm (d + 1) mc ms) (QM mc ms K) pc)) : Le (qMo_isLetter_6 d mc ms B K) (G cMo_isLetter "VoyageCompanyModel" 1 (some .boolean) "isLetter" (rm (d + 1) mc ms) (QM mc ms K) 6) := by
  unfold qMo_isLetter_6
  exact (s_ild_n (j := 0) (by decide +kernel) rfl (s_bipush (n := 122) (v := 122) (by decide +kernel) (by decide +kernel) (s_ic_gt (off := 7) (tgt := 16) (by decide +kernel) (by decide) (zMo_isLetter_16 hB) (zMo_isLetter_12 hB))))
def qMo_isLetter_0 (d mc ms : Nat) (B : Nat → Pd) (K : Ps) : Pd := (i_ild 0 (i_ci 97 (i_ic_lt (qMo_isLetter_16 d mc ms B K) (qMo_isLetter_6 d mc ms B K))))
theorem zMo_isLetter_0 {d mc ms : Nat} {B : Nat → Pd} {K : Ps} (hB : ∀ pc, Le (B pc) (G cMo_isLetter "VoyageCompanyModel" 1 (some .boolean) "isLetter" (rm (d + 1) mc ms) (QM mc ms K) pc)) : Le (qMo_isLetter_0 d mc ms B K) (G cMo_isLetter "VoyageCompanyModel" 1 (some .boolean) "isLetter" (rm (d + 1) mc ms) (QM mc ms K) 0) := by
  unfold qMo_isLetter_0
  exact (s_ild_n (j := 0) (by decide +kernel) rfl (s_bipush (n := 97) (v := 97) (by decide +kernel) (by decide +kernel) (s_ic_lt (off := 13) (tgt := 16) (by decide +kernel) (by decide) (zMo_isLetter_16 hB) (zMo_isLetter_6 hB))))
/-- VoyageCompanyModel.isLetter(I)Z, at its places -/
def gMo_isLetter (d mc ms : Nat) (K : Ps) : Nat → Pd := G cMo_isLetter "VoyageCompanyModel" 1 (some .boolean) "isLetter" (rm (d + 1) mc ms) (QM mc ms K)
theorem eMo_isLetter {d mc ms : Nat} {K : Ps} {av : List Value} {E : Nat → Prop} {R : Nat → Nat → Value} {I : Nat → Nat → Int32} {J : Nat → Nat → Int64} (hn : (lg_sl av).length ≤ 1) (h : qMo_isLetter_0 d mc ms (gMo_isLetter d mc ms K) K (lv_args 0 av) [] E R I J 0 0) : CL yMo_isLetter cMo_isLetter 1 (some .boolean) (d + 1) mc ms av E R I J K :=
  CL.of (by decide +kernel) hn (zMo_isLetter_0 (fun _ => Le.refl) _ _ _ _ _ _ _ _ h)
def qMo_isDigit_17 (d mc ms : Nat) (B : Nat → Pd) (K : Ps) : Pd := (i_zret mc ms K)
theorem zMo_isDigit_17 {d mc ms : Nat} {B : Nat → Pd} {K : Ps} (hB : ∀ pc, Le (B pc) (G cMo_isDigit "VoyageCompanyModel" 1 (some .boolean) "isDigit" (rm (d + 1) mc ms) (QM mc ms K) pc)) : Le (qMo_isDigit_17 d mc ms B K) (G cMo_isDigit "VoyageCompanyModel" 1 (some .boolean) "isDigit" (rm (d + 1) mc ms) (QM mc ms K) 17) := by
  unfold qMo_isDigit_17
  exact (s_zret (by decide +kernel) rfl)
def qMo_isDigit_16 (d mc ms : Nat) (B : Nat → Pd) (K : Ps) : Pd := (i_ci 0 (qMo_isDigit_17 d mc ms B K))
theorem zMo_isDigit_16 {d mc ms : Nat} {B : Nat → Pd} {K : Ps} (hB : ∀ pc, Le (B pc) (G cMo_isDigit "VoyageCompanyModel" 1 (some .boolean) "isDigit" (rm (d + 1) mc ms) (QM mc ms K) pc)) : Le (qMo_isDigit_16 d mc ms B K) (G cMo_isDigit "VoyageCompanyModel" 1 (some .boolean) "isDigit" (rm (d + 1) mc ms) (QM mc ms K) 16) := by
  unfold qMo_isDigit_16
  exact (s_iconst (n := 0) (v := 0) (by decide +kernel) (by decide +kernel) (zMo_isDigit_17 hB))
def qMo_isDigit_12 (d mc ms : Nat) (B : Nat → Pd) (K : Ps) : Pd := (i_ci 1 (qMo_isDigit_17 d mc ms B K))
theorem zMo_isDigit_12 {d mc ms : Nat} {B : Nat → Pd} {K : Ps} (hB : ∀ pc, Le (B pc) (G cMo_isDigit "VoyageCompanyModel" 1 (some .boolean) "isDigit" (rm (d + 1) mc ms) (QM mc ms K) pc)) : Le (qMo_isDigit_12 d mc ms B K) (G cMo_isDigit "VoyageCompanyModel" 1 (some .boolean) "isDigit" (rm (d + 1) mc ms) (QM mc ms K) 12) := by
  unfold qMo_isDigit_12
  exact (s_iconst (n := 1) (v := 1) (by decide +kernel) (by decide +kernel) (s_goto (off := 4) (tgt := 17) (by decide +kernel) (by decide) (zMo_isDigit_17 hB)))
def qMo_isDigit_6 (d mc ms : Nat) (B : Nat → Pd) (K : Ps) : Pd := (i_ild 0 (i_ci 57 (i_ic_gt (qMo_isDigit_16 d mc ms B K) (qMo_isDigit_12 d mc ms B K))))
theorem zMo_isDigit_6 {d mc ms : Nat} {B : Nat → Pd} {K : Ps} (hB : ∀ pc, Le (B pc) (G cMo_isDigit "VoyageCompanyModel" 1 (some .boolean) "isDigit" (rm (d + 1) mc ms) (QM mc ms K) pc)) : Le (qMo_isDigit_6 d mc ms B K) (G cMo_isDigit "VoyageCompanyModel" 1 (some .boolean) "isDigit" (rm (d + 1) mc ms) (QM mc ms K) 6) := by
  unfold qMo_isDigit_6
  exact (s_ild_n (j := 0) (by decide +kernel) rfl (s_bipush (n := 57) (v := 57) (by decide +kernel) (by decide +kernel) (s_ic_gt (off := 7) (tgt := 16) (by decide +kernel) (by decide) (zMo_isDigit_16 hB) (zMo_isDigit_12 hB))))
def qMo_isDigit_0 (d mc ms : Nat) (B : Nat → Pd) (K : Ps) : Pd := (i_ild 0 (i_ci 48 (i_ic_lt (qMo_isDigit_16 d mc ms B K) (qMo_isDigit_6 d mc ms B K))))
theorem zMo_isDigit_0 {d mc ms : Nat} {B : Nat → Pd} {K : Ps} (hB : ∀ pc, Le (B pc) (G cMo_isDigit "VoyageCompanyModel" 1 (some .boolean) "isDigit" (rm (d + 1) mc ms) (QM mc ms K) pc)) : Le (qMo_isDigit_0 d mc ms B K) (G cMo_isDigit "VoyageCompanyModel" 1 (some .boolean) "isDigit" (rm (d + 1) mc ms) (QM mc ms K) 0) := by
  unfold qMo_isDigit_0
  exact (s_ild_n (j := 0) (by decide +kernel) rfl (s_bipush (n := 48) (v := 48) (by decide +kernel) (by decide +kernel) (s_ic_lt (off := 13) (tgt := 16) (by decide +kernel) (by decide) (zMo_isDigit_16 hB) (zMo_isDigit_6 hB))))
/-- VoyageCompanyModel.isDigit(I)Z, at its places -/
def gMo_isDigit (d mc ms : Nat) (K : Ps) : Nat → Pd := G cMo_isDigit "VoyageCompanyModel" 1 (some .boolean) "isDigit" (rm (d + 1) mc ms) (QM mc ms K)
theorem eMo_isDigit {d mc ms : Nat} {K : Ps} {av : List Value} {E : Nat → Prop} {R : Nat → Nat → Value} {I : Nat → Nat → Int32} {J : Nat → Nat → Int64} (hn : (lg_sl av).length ≤ 1) (h : qMo_isDigit_0 d mc ms (gMo_isDigit d mc ms K) K (lv_args 0 av) [] E R I J 0 0) : CL yMo_isDigit cMo_isDigit 1 (some .boolean) (d + 1) mc ms av E R I J K :=
  CL.of (by decide +kernel) hn (zMo_isDigit_0 (fun _ => Le.refl) _ _ _ _ _ _ _ _ h)
def qMo_three_0 (d mc ms : Nat) (B : Nat → Pd) (K : Ps) : Pd := (i_cl 32 (i_ild 0 (i_ci 96 (i_isub (i_i2l (i_lmul (i_ild 1 (i_i2l (i_ladd (i_cl 96 (i_lsub (i_cl 32 (i_lmul (i_ild 2 (i_i2l (i_ladd (i_cl 96 (i_lsub (i_lret mc ms K)))))))))))))))))))
theorem zMo_three_0 {d mc ms : Nat} {B : Nat → Pd} {K : Ps} (hB : ∀ pc, Le (B pc) (G cMo_three "VoyageCompanyModel" 3 (some .long) "three" (rm (d + 1) mc ms) (QM mc ms K) pc)) : Le (qMo_three_0 d mc ms B K) (G cMo_three "VoyageCompanyModel" 3 (some .long) "three" (rm (d + 1) mc ms) (QM mc ms K) 0) := by
  unfold qMo_three_0
  exact (s_ldc2 (n := 33) (v := 32) (by decide +kernel) (lw_gm (by decide +kernel) (by decide +kernel)) (s_ild_n (j := 0) (by decide +kernel) rfl (s_bipush (n := 96) (v := 96) (by decide +kernel) (by decide +kernel) (s_isub (by decide +kernel) (s_i2l (by decide +kernel) (s_lmul (by decide +kernel) (s_ild_n (j := 1) (by decide +kernel) rfl (s_i2l (by decide +kernel) (s_ladd (by decide +kernel) (s_ldc2 (n := 35) (v := 96) (by decide +kernel) (lw_gm (by decide +kernel) (by decide +kernel)) (s_lsub (by decide +kernel) (s_ldc2 (n := 33) (v := 32) (by decide +kernel) (lw_gm (by decide +kernel) (by decide +kernel)) (s_lmul (by decide +kernel) (s_ild_n (j := 2) (by decide +kernel) rfl (s_i2l (by decide +kernel) (s_ladd (by decide +kernel) (s_ldc2 (n := 35) (v := 96) (by decide +kernel) (lw_gm (by decide +kernel) (by decide +kernel)) (s_lsub (by decide +kernel) (s_lret (by decide +kernel) rfl)))))))))))))))))))
/-- VoyageCompanyModel.three(III)J, at its places -/
def gMo_three (d mc ms : Nat) (K : Ps) : Nat → Pd := G cMo_three "VoyageCompanyModel" 3 (some .long) "three" (rm (d + 1) mc ms) (QM mc ms K)
theorem eMo_three {d mc ms : Nat} {K : Ps} {av : List Value} {E : Nat → Prop} {R : Nat → Nat → Value} {I : Nat → Nat → Int32} {J : Nat → Nat → Int64} (hn : (lg_sl av).length ≤ 3) (h : qMo_three_0 d mc ms (gMo_three d mc ms K) K (lv_args 0 av) [] E R I J 0 0) : CL yMo_three cMo_three 3 (some .long) (d + 1) mc ms av E R I J K :=
  CL.of (by decide +kernel) hn (zMo_three_0 (fun _ => Le.refl) _ _ _ _ _ _ _ _ h)
def qMo_four_0 (d mc ms : Nat) (B : Nat → Pd) (K : Ps) : Pd := (i_ild 0 (i_ild 1 (i_ild 2 (i_call 2 12 yMo_three cMo_three 3 (some .long) mc ms d 3 (i_cl 32 (i_lmul (i_ild 3 (i_i2l (i_ladd (i_cl 96 (i_lsub (i_lret mc ms K))))))))))))
theorem zMo_four_0 {d mc ms : Nat} {B : Nat → Pd} {K : Ps} (hB : ∀ pc, Le (B pc) (G cMo_four "VoyageCompanyModel" 4 (some .long) "four" (rm (d + 1) mc ms) (QM mc ms K) pc)) : Le (qMo_four_0 d mc ms B K) (G cMo_four "VoyageCompanyModel" 4 (some .long) "four" (rm (d + 1) mc ms) (QM mc ms K) 0) := by
  unfold qMo_four_0
  exact (s_ild_n (j := 0) (by decide +kernel) rfl (s_ild_n (j := 1) (by decide +kernel) rfl (s_ild_n (j := 2) (by decide +kernel) rfl (s_call (idx := 37) (by decide +kernel) ml12_37 rmk (s_ldc2 (n := 33) (v := 32) (by decide +kernel) (lw_gm (by decide +kernel) (by decide +kernel)) (s_lmul (by decide +kernel) (s_ild_n (j := 3) (by decide +kernel) rfl (s_i2l (by decide +kernel) (s_ladd (by decide +kernel) (s_ldc2 (n := 35) (v := 96) (by decide +kernel) (lw_gm (by decide +kernel) (by decide +kernel)) (s_lsub (by decide +kernel) (s_lret (by decide +kernel) rfl))))))))))))
/-- VoyageCompanyModel.four(IIII)J, at its places -/
def gMo_four (d mc ms : Nat) (K : Ps) : Nat → Pd := G cMo_four "VoyageCompanyModel" 4 (some .long) "four" (rm (d + 1) mc ms) (QM mc ms K)
theorem eMo_four {d mc ms : Nat} {K : Ps} {av : List Value} {E : Nat → Prop} {R : Nat → Nat → Value} {I : Nat → Nat → Int32} {J : Nat → Nat → Int64} (hn : (lg_sl av).length ≤ 4) (h : qMo_four_0 d mc ms (gMo_four d mc ms K) K (lv_args 0 av) [] E R I J 0 0) : CL yMo_four cMo_four 4 (some .long) (d + 1) mc ms av E R I J K :=
  CL.of (by decide +kernel) hn (zMo_four_0 (fun _ => Le.refl) _ _ _ _ _ _ _ _ h)
def qMo_wordOf_407 (d mc ms : Nat) (B : Nat → Pd) (K : Ps) : Pd := (i_ci 99 (i_iret mc ms K))
theorem zMo_wordOf_407 {d mc ms : Nat} {B : Nat → Pd} {K : Ps} (hB : ∀ pc, Le (B pc) (G cMo_wordOf "VoyageCompanyModel" 2 (some .int) "wordOf" (rm (d + 1) mc ms) (QM mc ms K) pc)) : Le (qMo_wordOf_407 d mc ms B K) (G cMo_wordOf "VoyageCompanyModel" 2 (some .int) "wordOf" (rm (d + 1) mc ms) (QM mc ms K) 407) := by
  unfold qMo_wordOf_407
  exact (s_bipush (n := 99) (v := 99) (by decide +kernel) (by decide +kernel) (s_iret (by decide +kernel) rfl))
def qMo_wordOf_404 (d mc ms : Nat) (B : Nat → Pd) (K : Ps) : Pd := (i_ci 31 (i_iret mc ms K))
theorem zMo_wordOf_404 {d mc ms : Nat} {B : Nat → Pd} {K : Ps} (hB : ∀ pc, Le (B pc) (G cMo_wordOf "VoyageCompanyModel" 2 (some .int) "wordOf" (rm (d + 1) mc ms) (QM mc ms K) pc)) : Le (qMo_wordOf_404 d mc ms B K) (G cMo_wordOf "VoyageCompanyModel" 2 (some .int) "wordOf" (rm (d + 1) mc ms) (QM mc ms K) 404) := by
  unfold qMo_wordOf_404
  exact (s_bipush (n := 31) (v := 31) (by decide +kernel) (by decide +kernel) (s_iret (by decide +kernel) rfl))
def qMo_wordOf_390 (d mc ms : Nat) (B : Nat → Pd) (K : Ps) : Pd := (i_lld 0 (i_ci 97 (i_ci 110 (i_ci 100 (i_call 2 12 yMo_three cMo_three 3 (some .long) mc ms d 3 (i_lcmp (i_if_ne (qMo_wordOf_407 d mc ms B K) (qMo_wordOf_404 d mc ms B K))))))))
theorem zMo_wordOf_390 {d mc ms : Nat} {B : Nat → Pd} {K : Ps} (hB : ∀ pc, Le (B pc) (G cMo_wordOf "VoyageCompanyModel" 2 (some .int) "wordOf" (rm (d + 1) mc ms) (QM mc ms K) pc)) : Le (qMo_wordOf_390 d mc ms B K) (G cMo_wordOf "VoyageCompanyModel" 2 (some .int) "wordOf" (rm (d + 1) mc ms) (QM mc ms K) 390) := by
  unfold qMo_wordOf_390
  exact (s_lld_n (j := 0) (by decide +kernel) rfl (s_bipush (n := 97) (v := 97) (by decide +kernel) (by decide +kernel) (s_bipush (n := 110) (v := 110) (by decide +kernel) (by decide +kernel) (s_bipush (n := 100) (v := 100) (by decide +kernel) (by decide +kernel) (s_call (idx := 37) (by decide +kernel) ml12_37 rmk (s_lcmp (by decide +kernel) (s_if_ne (off := 6) (tgt := 407) (by decide +kernel) (by decide) (zMo_wordOf_407 hB) (zMo_wordOf_404 hB))))))))
def qMo_wordOf_387 (d mc ms : Nat) (B : Nat → Pd) (K : Ps) : Pd := (i_ci 30 (i_iret mc ms K))
theorem zMo_wordOf_387 {d mc ms : Nat} {B : Nat → Pd} {K : Ps} (hB : ∀ pc, Le (B pc) (G cMo_wordOf "VoyageCompanyModel" 2 (some .int) "wordOf" (rm (d + 1) mc ms) (QM mc ms K) pc)) : Le (qMo_wordOf_387 d mc ms B K) (G cMo_wordOf "VoyageCompanyModel" 2 (some .int) "wordOf" (rm (d + 1) mc ms) (QM mc ms K) 387) := by
  unfold qMo_wordOf_387
  exact (s_bipush (n := 30) (v := 30) (by decide +kernel) (by decide +kernel) (s_iret (by decide +kernel) rfl))
def qMo_wordOf_379 (d mc ms : Nat) (B : Nat → Pd) (K : Ps) : Pd := (i_lld 0 (i_cl 294 (i_lcmp (i_if_ne (qMo_wordOf_390 d mc ms B K) (qMo_wordOf_387 d mc ms B K)))))
theorem zMo_wordOf_379 {d mc ms : Nat} {B : Nat → Pd} {K : Ps} (hB : ∀ pc, Le (B pc) (G cMo_wordOf "VoyageCompanyModel" 2 (some .int) "wordOf" (rm (d + 1) mc ms) (QM mc ms K) pc)) : Le (qMo_wordOf_379 d mc ms B K) (G cMo_wordOf "VoyageCompanyModel" 2 (some .int) "wordOf" (rm (d + 1) mc ms) (QM mc ms K) 379) := by
  unfold qMo_wordOf_379
  exact (s_lld_n (j := 0) (by decide +kernel) rfl (s_ldc2 (n := 53) (v := 294) (by decide +kernel) (lw_gm (by decide +kernel) (by decide +kernel)) (s_lcmp (by decide +kernel) (s_if_ne (off := 6) (tgt := 390) (by decide +kernel) (by decide) (zMo_wordOf_390 hB) (zMo_wordOf_387 hB)))))
def qMo_wordOf_376 (d mc ms : Nat) (B : Nat → Pd) (K : Ps) : Pd := (i_ci 26 (i_iret mc ms K))
theorem zMo_wordOf_376 {d mc ms : Nat} {B : Nat → Pd} {K : Ps} (hB : ∀ pc, Le (B pc) (G cMo_wordOf "VoyageCompanyModel" 2 (some .int) "wordOf" (rm (d + 1) mc ms) (QM mc ms K) pc)) : Le (qMo_wordOf_376 d mc ms B K) (G cMo_wordOf "VoyageCompanyModel" 2 (some .int) "wordOf" (rm (d + 1) mc ms) (QM mc ms K) 376) := by
  unfold qMo_wordOf_376
  exact (s_bipush (n := 26) (v := 26) (by decide +kernel) (by decide +kernel) (s_iret (by decide +kernel) rfl))
def qMo_wordOf_360 (d mc ms : Nat) (B : Nat → Pd) (K : Ps) : Pd := (i_lld 0 (i_ci 119 (i_ci 97 (i_ci 105 (i_ci 116 (i_call 2 12 yMo_four cMo_four 4 (some .long) mc ms d 4 (i_lcmp (i_if_ne (qMo_wordOf_379 d mc ms B K) (qMo_wordOf_376 d mc ms B K)))))))))
theorem zMo_wordOf_360 {d mc ms : Nat} {B : Nat → Pd} {K : Ps} (hB : ∀ pc, Le (B pc) (G cMo_wordOf "VoyageCompanyModel" 2 (some .int) "wordOf" (rm (d + 1) mc ms) (QM mc ms K) pc)) : Le (qMo_wordOf_360 d mc ms B K) (G cMo_wordOf "VoyageCompanyModel" 2 (some .int) "wordOf" (rm (d + 1) mc ms) (QM mc ms K) 360) := by
  unfold qMo_wordOf_360
  exact (s_lld_n (j := 0) (by decide +kernel) rfl (s_bipush (n := 119) (v := 119) (by decide +kernel) (by decide +kernel) (s_bipush (n := 97) (v := 97) (by decide +kernel) (by decide +kernel) (s_bipush (n := 105) (v := 105) (by decide +kernel) (by decide +kernel) (s_bipush (n := 116) (v := 116) (by decide +kernel) (by decide +kernel) (s_call (idx := 41) (by decide +kernel) ml12_41 rmk (s_lcmp (by decide +kernel) (s_if_ne (off := 6) (tgt := 379) (by decide +kernel) (by decide) (zMo_wordOf_379 hB) (zMo_wordOf_376 hB)))))))))
def qMo_wordOf_357 (d mc ms : Nat) (B : Nat → Pd) (K : Ps) : Pd := (i_ci 25 (i_iret mc ms K))
theorem zMo_wordOf_357 {d mc ms : Nat} {B : Nat → Pd} {K : Ps} (hB : ∀ pc, Le (B pc) (G cMo_wordOf "VoyageCompanyModel" 2 (some .int) "wordOf" (rm (d + 1) mc ms) (QM mc ms K) pc)) : Le (qMo_wordOf_357 d mc ms B K) (G cMo_wordOf "VoyageCompanyModel" 2 (some .int) "wordOf" (rm (d + 1) mc ms) (QM mc ms K) 357) := by
  unfold qMo_wordOf_357
  exact (s_bipush (n := 25) (v := 25) (by decide +kernel) (by decide +kernel) (s_iret (by decide +kernel) rfl))
def qMo_wordOf_341 (d mc ms : Nat) (B : Nat → Pd) (K : Ps) : Pd := (i_lld 0 (i_ci 115 (i_ci 97 (i_ci 105 (i_ci 108 (i_call 2 12 yMo_four cMo_four 4 (some .long) mc ms d 4 (i_lcmp (i_if_ne (qMo_wordOf_360 d mc ms B K) (qMo_wordOf_357 d mc ms B K)))))))))
theorem zMo_wordOf_341 {d mc ms : Nat} {B : Nat → Pd} {K : Ps} (hB : ∀ pc, Le (B pc) (G cMo_wordOf "VoyageCompanyModel" 2 (some .int) "wordOf" (rm (d + 1) mc ms) (QM mc ms K) pc)) : Le (qMo_wordOf_341 d mc ms B K) (G cMo_wordOf "VoyageCompanyModel" 2 (some .int) "wordOf" (rm (d + 1) mc ms) (QM mc ms K) 341) := by
  unfold qMo_wordOf_341
  exact (s_lld_n (j := 0) (by decide +kernel) rfl (s_bipush (n := 115) (v := 115) (by decide +kernel) (by decide +kernel) (s_bipush (n := 97) (v := 97) (by decide +kernel) (by decide +kernel) (s_bipush (n := 105) (v := 105) (by decide +kernel) (by decide +kernel) (s_bipush (n := 108) (v := 108) (by decide +kernel) (by decide +kernel) (s_call (idx := 41) (by decide +kernel) ml12_41 rmk (s_lcmp (by decide +kernel) (s_if_ne (off := 6) (tgt := 360) (by decide +kernel) (by decide) (zMo_wordOf_360 hB) (zMo_wordOf_357 hB)))))))))
def qMo_wordOf_338 (d mc ms : Nat) (B : Nat → Pd) (K : Ps) : Pd := (i_ci 24 (i_iret mc ms K))
theorem zMo_wordOf_338 {d mc ms : Nat} {B : Nat → Pd} {K : Ps} (hB : ∀ pc, Le (B pc) (G cMo_wordOf "VoyageCompanyModel" 2 (some .int) "wordOf" (rm (d + 1) mc ms) (QM mc ms K) pc)) : Le (qMo_wordOf_338 d mc ms B K) (G cMo_wordOf "VoyageCompanyModel" 2 (some .int) "wordOf" (rm (d + 1) mc ms) (QM mc ms K) 338) := by
  unfold qMo_wordOf_338
  exact (s_bipush (n := 24) (v := 24) (by decide +kernel) (by decide +kernel) (s_iret (by decide +kernel) rfl))
def qMo_wordOf_310 (d mc ms : Nat) (B : Nat → Pd) (K : Ps) : Pd := (i_lld 0 (i_ci 117 (i_ci 110 (i_ci 108 (i_call 2 12 yMo_three cMo_three 3 (some .long) mc ms d 3 (i_cl 32768 (i_lmul (i_ci 111 (i_ci 97 (i_ci 100 (i_call 2 12 yMo_three cMo_three 3 (some .long) mc ms d 3 (i_ladd (i_lcmp (i_if_ne (qMo_wordOf_341 d mc ms B K) (qMo_wordOf_338 d mc ms B K)))))))))))))))
theorem zMo_wordOf_310 {d mc ms : Nat} {B : Nat → Pd} {K : Ps} (hB : ∀ pc, Le (B pc) (G cMo_wordOf "VoyageCompanyModel" 2 (some .int) "wordOf" (rm (d + 1) mc ms) (QM mc ms K) pc)) : Le (qMo_wordOf_310 d mc ms B K) (G cMo_wordOf "VoyageCompanyModel" 2 (some .int) "wordOf" (rm (d + 1) mc ms) (QM mc ms K) 310) := by
  unfold qMo_wordOf_310
  exact (s_lld_n (j := 0) (by decide +kernel) rfl (s_bipush (n := 117) (v := 117) (by decide +kernel) (by decide +kernel) (s_bipush (n := 110) (v := 110) (by decide +kernel) (by decide +kernel) (s_bipush (n := 108) (v := 108) (by decide +kernel) (by decide +kernel) (s_call (idx := 37) (by decide +kernel) ml12_37 rmk (s_ldc2 (n := 47) (v := 32768) (by decide +kernel) (lw_gm (by decide +kernel) (by decide +kernel)) (s_lmul (by decide +kernel) (s_bipush (n := 111) (v := 111) (by decide +kernel) (by decide +kernel) (s_bipush (n := 97) (v := 97) (by decide +kernel) (by decide +kernel) (s_bipush (n := 100) (v := 100) (by decide +kernel) (by decide +kernel) (s_call (idx := 37) (by decide +kernel) ml12_37 rmk (s_ladd (by decide +kernel) (s_lcmp (by decide +kernel) (s_if_ne (off := 6) (tgt := 341) (by decide +kernel) (by decide) (zMo_wordOf_341 hB) (zMo_wordOf_338 hB)))))))))))))))
def qMo_wordOf_307 (d mc ms : Nat) (B : Nat → Pd) (K : Ps) : Pd := (i_ci 23 (i_iret mc ms K))
theorem zMo_wordOf_307 {d mc ms : Nat} {B : Nat → Pd} {K : Ps} (hB : ∀ pc, Le (B pc) (G cMo_wordOf "VoyageCompanyModel" 2 (some .int) "wordOf" (rm (d + 1) mc ms) (QM mc ms K) pc)) : Le (qMo_wordOf_307 d mc ms B K) (G cMo_wordOf "VoyageCompanyModel" 2 (some .int) "wordOf" (rm (d + 1) mc ms) (QM mc ms K) 307) := by
  unfold qMo_wordOf_307
  exact (s_bipush (n := 23) (v := 23) (by decide +kernel) (by decide +kernel) (s_iret (by decide +kernel) rfl))
def qMo_wordOf_293 (d mc ms : Nat) (B : Nat → Pd) (K : Ps) : Pd := (i_lld 0 (i_ci 112 (i_ci 97 (i_ci 121 (i_call 2 12 yMo_three cMo_three 3 (some .long) mc ms d 3 (i_lcmp (i_if_ne (qMo_wordOf_310 d mc ms B K) (qMo_wordOf_307 d mc ms B K))))))))
theorem zMo_wordOf_293 {d mc ms : Nat} {B : Nat → Pd} {K : Ps} (hB : ∀ pc, Le (B pc) (G cMo_wordOf "VoyageCompanyModel" 2 (some .int) "wordOf" (rm (d + 1) mc ms) (QM mc ms K) pc)) : Le (qMo_wordOf_293 d mc ms B K) (G cMo_wordOf "VoyageCompanyModel" 2 (some .int) "wordOf" (rm (d + 1) mc ms) (QM mc ms K) 293) := by
  unfold qMo_wordOf_293
  exact (s_lld_n (j := 0) (by decide +kernel) rfl (s_bipush (n := 112) (v := 112) (by decide +kernel) (by decide +kernel) (s_bipush (n := 97) (v := 97) (by decide +kernel) (by decide +kernel) (s_bipush (n := 121) (v := 121) (by decide +kernel) (by decide +kernel) (s_call (idx := 37) (by decide +kernel) ml12_37 rmk (s_lcmp (by decide +kernel) (s_if_ne (off := 6) (tgt := 310) (by decide +kernel) (by decide) (zMo_wordOf_310 hB) (zMo_wordOf_307 hB))))))))
def qMo_wordOf_290 (d mc ms : Nat) (B : Nat → Pd) (K : Ps) : Pd := (i_ci 22 (i_iret mc ms K))
theorem zMo_wordOf_290 {d mc ms : Nat} {B : Nat → Pd} {K : Ps} (hB : ∀ pc, Le (B pc) (G cMo_wordOf "VoyageCompanyModel" 2 (some .int) "wordOf" (rm (d + 1) mc ms) (QM mc ms K) pc)) : Le (qMo_wordOf_290 d mc ms B K) (G cMo_wordOf "VoyageCompanyModel" 2 (some .int) "wordOf" (rm (d + 1) mc ms) (QM mc ms K) 290) := by
  unfold qMo_wordOf_290
  exact (s_bipush (n := 22) (v := 22) (by decide +kernel) (by decide +kernel) (s_iret (by decide +kernel) rfl))
def qMo_wordOf_274 (d mc ms : Nat) (B : Nat → Pd) (K : Ps) : Pd := (i_lld 0 (i_ci 108 (i_ci 111 (i_ci 97 (i_ci 100 (i_call 2 12 yMo_four cMo_four 4 (some .long) mc ms d 4 (i_lcmp (i_if_ne (qMo_wordOf_293 d mc ms B K) (qMo_wordOf_290 d mc ms B K)))))))))
theorem zMo_wordOf_274 {d mc ms : Nat} {B : Nat → Pd} {K : Ps} (hB : ∀ pc, Le (B pc) (G cMo_wordOf "VoyageCompanyModel" 2 (some .int) "wordOf" (rm (d + 1) mc ms) (QM mc ms K) pc)) : Le (qMo_wordOf_274 d mc ms B K) (G cMo_wordOf "VoyageCompanyModel" 2 (some .int) "wordOf" (rm (d + 1) mc ms) (QM mc ms K) 274) := by
  unfold qMo_wordOf_274
  exact (s_lld_n (j := 0) (by decide +kernel) rfl (s_bipush (n := 108) (v := 108) (by decide +kernel) (by decide +kernel) (s_bipush (n := 111) (v := 111) (by decide +kernel) (by decide +kernel) (s_bipush (n := 97) (v := 97) (by decide +kernel) (by decide +kernel) (s_bipush (n := 100) (v := 100) (by decide +kernel) (by decide +kernel) (s_call (idx := 41) (by decide +kernel) ml12_41 rmk (s_lcmp (by decide +kernel) (s_if_ne (off := 6) (tgt := 293) (by decide +kernel) (by decide) (zMo_wordOf_293 hB) (zMo_wordOf_290 hB)))))))))
def qMo_wordOf_271 (d mc ms : Nat) (B : Nat → Pd) (K : Ps) : Pd := (i_ci 21 (i_iret mc ms K))
theorem zMo_wordOf_271 {d mc ms : Nat} {B : Nat → Pd} {K : Ps} (hB : ∀ pc, Le (B pc) (G cMo_wordOf "VoyageCompanyModel" 2 (some .int) "wordOf" (rm (d + 1) mc ms) (QM mc ms K) pc)) : Le (qMo_wordOf_271 d mc ms B K) (G cMo_wordOf "VoyageCompanyModel" 2 (some .int) "wordOf" (rm (d + 1) mc ms) (QM mc ms K) 271) := by
  unfold qMo_wordOf_271
  exact (s_bipush (n := 21) (v := 21) (by decide +kernel) (by decide +kernel) (s_iret (by decide +kernel) rfl))
def qMo_wordOf_255 (d mc ms : Nat) (B : Nat → Pd) (K : Ps) : Pd := (i_lld 0 (i_ci 115 (i_ci 101 (i_ci 108 (i_ci 108 (i_call 2 12 yMo_four cMo_four 4 (some .long) mc ms d 4 (i_lcmp (i_if_ne (qMo_wordOf_274 d mc ms B K) (qMo_wordOf_271 d mc ms B K)))))))))
theorem zMo_wordOf_255 {d mc ms : Nat} {B : Nat → Pd} {K : Ps} (hB : ∀ pc, Le (B pc) (G cMo_wordOf "VoyageCompanyModel" 2 (some .int) "wordOf" (rm (d + 1) mc ms) (QM mc ms K) pc)) : Le (qMo_wordOf_255 d mc ms B K) (G cMo_wordOf "VoyageCompanyModel" 2 (some .int) "wordOf" (rm (d + 1) mc ms) (QM mc ms K) 255) := by
  unfold qMo_wordOf_255
  exact (s_lld_n (j := 0) (by decide +kernel) rfl (s_bipush (n := 115) (v := 115) (by decide +kernel) (by decide +kernel) (s_bipush (n := 101) (v := 101) (by decide +kernel) (by decide +kernel) (s_bipush (n := 108) (v := 108) (by decide +kernel) (by decide +kernel) (s_bipush (n := 108) (v := 108) (by decide +kernel) (by decide +kernel) (s_call (idx := 41) (by decide +kernel) ml12_41 rmk (s_lcmp (by decide +kernel) (s_if_ne (off := 6) (tgt := 274) (by decide +kernel) (by decide) (zMo_wordOf_274 hB) (zMo_wordOf_271 hB)))))))))
def qMo_wordOf_252 (d mc ms : Nat) (B : Nat → Pd) (K : Ps) : Pd := (i_ci 20 (i_iret mc ms K))
theorem zMo_wordOf_252 {d mc ms : Nat} {B : Nat → Pd} {K : Ps} (hB : ∀ pc, Le (B pc) (G cMo_wordOf "VoyageCompanyModel" 2 (some .int) "wordOf" (rm (d + 1) mc ms) (QM mc ms K) pc)) : Le (qMo_wordOf_252 d mc ms B K) (G cMo_wordOf "VoyageCompanyModel" 2 (some .int) "wordOf" (rm (d + 1) mc ms) (QM mc ms K) 252) := by
  unfold qMo_wordOf_252
  exact (s_bipush (n := 20) (v := 20) (by decide +kernel) (by decide +kernel) (s_iret (by decide +kernel) rfl))
def qMo_wordOf_238 (d mc ms : Nat) (B : Nat → Pd) (K : Ps) : Pd := (i_lld 0 (i_ci 98 (i_ci 117 (i_ci 121 (i_call 2 12 yMo_three cMo_three 3 (some .long) mc ms d 3 (i_lcmp (i_if_ne (qMo_wordOf_255 d mc ms B K) (qMo_wordOf_252 d mc ms B K))))))))
theorem zMo_wordOf_238 {d mc ms : Nat} {B : Nat → Pd} {K : Ps} (hB : ∀ pc, Le (B pc) (G cMo_wordOf "VoyageCompanyModel" 2 (some .int) "wordOf" (rm (d + 1) mc ms) (QM mc ms K) pc)) : Le (qMo_wordOf_238 d mc ms B K) (G cMo_wordOf "VoyageCompanyModel" 2 (some .int) "wordOf" (rm (d + 1) mc ms) (QM mc ms K) 238) := by
  unfold qMo_wordOf_238
  exact (s_lld_n (j := 0) (by decide +kernel) rfl (s_bipush (n := 98) (v := 98) (by decide +kernel) (by decide +kernel) (s_bipush (n := 117) (v := 117) (by decide +kernel) (by decide +kernel) (s_bipush (n := 121) (v := 121) (by decide +kernel) (by decide +kernel) (s_call (idx := 37) (by decide +kernel) ml12_37 rmk (s_lcmp (by decide +kernel) (s_if_ne (off := 6) (tgt := 255) (by decide +kernel) (by decide) (zMo_wordOf_255 hB) (zMo_wordOf_252 hB))))))))
def qMo_wordOf_235 (d mc ms : Nat) (B : Nat → Pd) (K : Ps) : Pd := (i_ci 13 (i_iret mc ms K))
theorem zMo_wordOf_235 {d mc ms : Nat} {B : Nat → Pd} {K : Ps} (hB : ∀ pc, Le (B pc) (G cMo_wordOf "VoyageCompanyModel" 2 (some .int) "wordOf" (rm (d + 1) mc ms) (QM mc ms K) pc)) : Le (qMo_wordOf_235 d mc ms B K) (G cMo_wordOf "VoyageCompanyModel" 2 (some .int) "wordOf" (rm (d + 1) mc ms) (QM mc ms K) 235) := by
  unfold qMo_wordOf_235
  exact (s_bipush (n := 13) (v := 13) (by decide +kernel) (by decide +kernel) (s_iret (by decide +kernel) rfl))
def qMo_wordOf_219 (d mc ms : Nat) (B : Nat → Pd) (K : Ps) : Pd := (i_lld 0 (i_ci 115 (i_ci 105 (i_ci 108 (i_ci 107 (i_call 2 12 yMo_four cMo_four 4 (some .long) mc ms d 4 (i_lcmp (i_if_ne (qMo_wordOf_238 d mc ms B K) (qMo_wordOf_235 d mc ms B K)))))))))
theorem zMo_wordOf_219 {d mc ms : Nat} {B : Nat → Pd} {K : Ps} (hB : ∀ pc, Le (B pc) (G cMo_wordOf "VoyageCompanyModel" 2 (some .int) "wordOf" (rm (d + 1) mc ms) (QM mc ms K) pc)) : Le (qMo_wordOf_219 d mc ms B K) (G cMo_wordOf "VoyageCompanyModel" 2 (some .int) "wordOf" (rm (d + 1) mc ms) (QM mc ms K) 219) := by
  unfold qMo_wordOf_219
  exact (s_lld_n (j := 0) (by decide +kernel) rfl (s_bipush (n := 115) (v := 115) (by decide +kernel) (by decide +kernel) (s_bipush (n := 105) (v := 105) (by decide +kernel) (by decide +kernel) (s_bipush (n := 108) (v := 108) (by decide +kernel) (by decide +kernel) (s_bipush (n := 107) (v := 107) (by decide +kernel) (by decide +kernel) (s_call (idx := 41) (by decide +kernel) ml12_41 rmk (s_lcmp (by decide +kernel) (s_if_ne (off := 6) (tgt := 238) (by decide +kernel) (by decide) (zMo_wordOf_238 hB) (zMo_wordOf_235 hB)))))))))
def qMo_wordOf_216 (d mc ms : Nat) (B : Nat → Pd) (K : Ps) : Pd := (i_ci 12 (i_iret mc ms K))
theorem zMo_wordOf_216 {d mc ms : Nat} {B : Nat → Pd} {K : Ps} (hB : ∀ pc, Le (B pc) (G cMo_wordOf "VoyageCompanyModel" 2 (some .int) "wordOf" (rm (d + 1) mc ms) (QM mc ms K) pc)) : Le (qMo_wordOf_216 d mc ms B K) (G cMo_wordOf "VoyageCompanyModel" 2 (some .int) "wordOf" (rm (d + 1) mc ms) (QM mc ms K) 216) := by
  unfold qMo_wordOf_216
  exact (s_bipush (n := 12) (v := 12) (by decide +kernel) (by decide +kernel) (s_iret (by decide +kernel) rfl))
def qMo_wordOf_188 (d mc ms : Nat) (B : Nat → Pd) (K : Ps) : Pd := (i_lld 0 (i_ci 99 (i_ci 108 (i_ci 111 (i_ci 116 (i_call 2 12 yMo_four cMo_four 4 (some .long) mc ms d 4 (i_cl 32 (i_lmul (i_cl 104 (i_ladd (i_cl 96 (i_lsub (i_lcmp (i_if_ne (qMo_wordOf_219 d mc ms B K) (qMo_wordOf_216 d mc ms B K)))))))))))))))
theorem zMo_wordOf_188 {d mc ms : Nat} {B : Nat → Pd} {K : Ps} (hB : ∀ pc, Le (B pc) (G cMo_wordOf "VoyageCompanyModel" 2 (some .int) "wordOf" (rm (d + 1) mc ms) (QM mc ms K) pc)) : Le (qMo_wordOf_188 d mc ms B K) (G cMo_wordOf "VoyageCompanyModel" 2 (some .int) "wordOf" (rm (d + 1) mc ms) (QM mc ms K) 188) := by
  unfold qMo_wordOf_188
  exact (s_lld_n (j := 0) (by decide +kernel) rfl (s_bipush (n := 99) (v := 99) (by decide +kernel) (by decide +kernel) (s_bipush (n := 108) (v := 108) (by decide +kernel) (by decide +kernel) (s_bipush (n := 111) (v := 111) (by decide +kernel) (by decide +kernel) (s_bipush (n := 116) (v := 116) (by decide +kernel) (by decide +kernel) (s_call (idx := 41) (by decide +kernel) ml12_41 rmk (s_ldc2 (n := 33) (v := 32) (by decide +kernel) (lw_gm (by decide +kernel) (by decide +kernel)) (s_lmul (by decide +kernel) (s_ldc2 (n := 45) (v := 104) (by decide +kernel) (lw_gm (by decide +kernel) (by decide +kernel)) (s_ladd (by decide +kernel) (s_ldc2 (n := 35) (v := 96) (by decide +kernel) (lw_gm (by decide +kernel) (by decide +kernel)) (s_lsub (by decide +kernel) (s_lcmp (by decide +kernel) (s_if_ne (off := 6) (tgt := 219) (by decide +kernel) (by decide) (zMo_wordOf_219 hB) (zMo_wordOf_216 hB)))))))))))))))
def qMo_wordOf_185 (d mc ms : Nat) (B : Nat → Pd) (K : Ps) : Pd := (i_ci 11 (i_iret mc ms K))
theorem zMo_wordOf_185 {d mc ms : Nat} {B : Nat → Pd} {K : Ps} (hB : ∀ pc, Le (B pc) (G cMo_wordOf "VoyageCompanyModel" 2 (some .int) "wordOf" (rm (d + 1) mc ms) (QM mc ms K) pc)) : Le (qMo_wordOf_185 d mc ms B K) (G cMo_wordOf "VoyageCompanyModel" 2 (some .int) "wordOf" (rm (d + 1) mc ms) (QM mc ms K) 185) := by
  unfold qMo_wordOf_185
  exact (s_bipush (n := 11) (v := 11) (by decide +kernel) (by decide +kernel) (s_iret (by decide +kernel) rfl))
def qMo_wordOf_157 (d mc ms : Nat) (B : Nat → Pd) (K : Ps) : Pd := (i_lld 0 (i_ci 112 (i_ci 101 (i_ci 112 (i_call 2 12 yMo_three cMo_three 3 (some .long) mc ms d 3 (i_cl 32768 (i_lmul (i_ci 112 (i_ci 101 (i_ci 114 (i_call 2 12 yMo_three cMo_three 3 (some .long) mc ms d 3 (i_ladd (i_lcmp (i_if_ne (qMo_wordOf_188 d mc ms B K) (qMo_wordOf_185 d mc ms B K)))))))))))))))
theorem zMo_wordOf_157 {d mc ms : Nat} {B : Nat → Pd} {K : Ps} (hB : ∀ pc, Le (B pc) (G cMo_wordOf "VoyageCompanyModel" 2 (some .int) "wordOf" (rm (d + 1) mc ms) (QM mc ms K) pc)) : Le (qMo_wordOf_157 d mc ms B K) (G cMo_wordOf "VoyageCompanyModel" 2 (some .int) "wordOf" (rm (d + 1) mc ms) (QM mc ms K) 157) := by
  unfold qMo_wordOf_157
  exact (s_lld_n (j := 0) (by decide +kernel) rfl (s_bipush (n := 112) (v := 112) (by decide +kernel) (by decide +kernel) (s_bipush (n := 101) (v := 101) (by decide +kernel) (by decide +kernel) (s_bipush (n := 112) (v := 112) (by decide +kernel) (by decide +kernel) (s_call (idx := 37) (by decide +kernel) ml12_37 rmk (s_ldc2 (n := 47) (v := 32768) (by decide +kernel) (lw_gm (by decide +kernel) (by decide +kernel)) (s_lmul (by decide +kernel) (s_bipush (n := 112) (v := 112) (by decide +kernel) (by decide +kernel) (s_bipush (n := 101) (v := 101) (by decide +kernel) (by decide +kernel) (s_bipush (n := 114) (v := 114) (by decide +kernel) (by decide +kernel) (s_call (idx := 37) (by decide +kernel) ml12_37 rmk (s_ladd (by decide +kernel) (s_lcmp (by decide +kernel) (s_if_ne (off := 6) (tgt := 188) (by decide +kernel) (by decide) (zMo_wordOf_188 hB) (zMo_wordOf_185 hB)))))))))))))))
def qMo_wordOf_154 (d mc ms : Nat) (B : Nat → Pd) (K : Ps) : Pd := (i_ci 6 (i_iret mc ms K))
theorem zMo_wordOf_154 {d mc ms : Nat} {B : Nat → Pd} {K : Ps} (hB : ∀ pc, Le (B pc) (G cMo_wordOf "VoyageCompanyModel" 2 (some .int) "wordOf" (rm (d + 1) mc ms) (QM mc ms K) pc)) : Le (qMo_wordOf_154 d mc ms B K) (G cMo_wordOf "VoyageCompanyModel" 2 (some .int) "wordOf" (rm (d + 1) mc ms) (QM mc ms K) 154) := by
  unfold qMo_wordOf_154
  exact (s_bipush (n := 6) (v := 6) (by decide +kernel) (by decide +kernel) (s_iret (by decide +kernel) rfl))
def qMo_wordOf_126 (d mc ms : Nat) (B : Nat → Pd) (K : Ps) : Pd := (i_lld 0 (i_ci 112 (i_ci 114 (i_ci 105 (i_ci 99 (i_call 2 12 yMo_four cMo_four 4 (some .long) mc ms d 4 (i_cl 32 (i_lmul (i_cl 101 (i_ladd (i_cl 96 (i_lsub (i_lcmp (i_if_ne (qMo_wordOf_157 d mc ms B K) (qMo_wordOf_154 d mc ms B K)))))))))))))))
theorem zMo_wordOf_126 {d mc ms : Nat} {B : Nat → Pd} {K : Ps} (hB : ∀ pc, Le (B pc) (G cMo_wordOf "VoyageCompanyModel" 2 (some .int) "wordOf" (rm (d + 1) mc ms) (QM mc ms K) pc)) : Le (qMo_wordOf_126 d mc ms B K) (G cMo_wordOf "VoyageCompanyModel" 2 (some .int) "wordOf" (rm (d + 1) mc ms) (QM mc ms K) 126) := by
  unfold qMo_wordOf_126
  exact (s_lld_n (j := 0) (by decide +kernel) rfl (s_bipush (n := 112) (v := 112) (by decide +kernel) (by decide +kernel) (s_bipush (n := 114) (v := 114) (by decide +kernel) (by decide +kernel) (s_bipush (n := 105) (v := 105) (by decide +kernel) (by decide +kernel) (s_bipush (n := 99) (v := 99) (by decide +kernel) (by decide +kernel) (s_call (idx := 41) (by decide +kernel) ml12_41 rmk (s_ldc2 (n := 33) (v := 32) (by decide +kernel) (lw_gm (by decide +kernel) (by decide +kernel)) (s_lmul (by decide +kernel) (s_ldc2 (n := 51) (v := 101) (by decide +kernel) (lw_gm (by decide +kernel) (by decide +kernel)) (s_ladd (by decide +kernel) (s_ldc2 (n := 35) (v := 96) (by decide +kernel) (lw_gm (by decide +kernel) (by decide +kernel)) (s_lsub (by decide +kernel) (s_lcmp (by decide +kernel) (s_if_ne (off := 6) (tgt := 157) (by decide +kernel) (by decide) (zMo_wordOf_157 hB) (zMo_wordOf_154 hB)))))))))))))))
def qMo_wordOf_124 (d mc ms : Nat) (B : Nat → Pd) (K : Ps) : Pd := (i_ci 5 (i_iret mc ms K))
theorem zMo_wordOf_124 {d mc ms : Nat} {B : Nat → Pd} {K : Ps} (hB : ∀ pc, Le (B pc) (G cMo_wordOf "VoyageCompanyModel" 2 (some .int) "wordOf" (rm (d + 1) mc ms) (QM mc ms K) pc)) : Le (qMo_wordOf_124 d mc ms B K) (G cMo_wordOf "VoyageCompanyModel" 2 (some .int) "wordOf" (rm (d + 1) mc ms) (QM mc ms K) 124) := by
  unfold qMo_wordOf_124
  exact (s_iconst (n := 5) (v := 5) (by decide +kernel) (by decide +kernel) (s_iret (by decide +kernel) rfl))
def qMo_wordOf_108 (d mc ms : Nat) (B : Nat → Pd) (K : Ps) : Pd := (i_lld 0 (i_ci 99 (i_ci 111 (i_ci 105 (i_ci 110 (i_call 2 12 yMo_four cMo_four 4 (some .long) mc ms d 4 (i_lcmp (i_if_ne (qMo_wordOf_126 d mc ms B K) (qMo_wordOf_124 d mc ms B K)))))))))
theorem zMo_wordOf_108 {d mc ms : Nat} {B : Nat → Pd} {K : Ps} (hB : ∀ pc, Le (B pc) (G cMo_wordOf "VoyageCompanyModel" 2 (some .int) "wordOf" (rm (d + 1) mc ms) (QM mc ms K) pc)) : Le (qMo_wordOf_108 d mc ms B K) (G cMo_wordOf "VoyageCompanyModel" 2 (some .int) "wordOf" (rm (d + 1) mc ms) (QM mc ms K) 108) := by
  unfold qMo_wordOf_108
  exact (s_lld_n (j := 0) (by decide +kernel) rfl (s_bipush (n := 99) (v := 99) (by decide +kernel) (by decide +kernel) (s_bipush (n := 111) (v := 111) (by decide +kernel) (by decide +kernel) (s_bipush (n := 105) (v := 105) (by decide +kernel) (by decide +kernel) (s_bipush (n := 110) (v := 110) (by decide +kernel) (by decide +kernel) (s_call (idx := 41) (by decide +kernel) ml12_41 rmk (s_lcmp (by decide +kernel) (s_if_ne (off := 5) (tgt := 126) (by decide +kernel) (by decide) (zMo_wordOf_126 hB) (zMo_wordOf_124 hB)))))))))
def qMo_wordOf_106 (d mc ms : Nat) (B : Nat → Pd) (K : Ps) : Pd := (i_ci 4 (i_iret mc ms K))
theorem zMo_wordOf_106 {d mc ms : Nat} {B : Nat → Pd} {K : Ps} (hB : ∀ pc, Le (B pc) (G cMo_wordOf "VoyageCompanyModel" 2 (some .int) "wordOf" (rm (d + 1) mc ms) (QM mc ms K) pc)) : Le (qMo_wordOf_106 d mc ms B K) (G cMo_wordOf "VoyageCompanyModel" 2 (some .int) "wordOf" (rm (d + 1) mc ms) (QM mc ms K) 106) := by
  unfold qMo_wordOf_106
  exact (s_iconst (n := 4) (v := 4) (by decide +kernel) (by decide +kernel) (s_iret (by decide +kernel) rfl))
def qMo_wordOf_90 (d mc ms : Nat) (B : Nat → Pd) (K : Ps) : Pd := (i_lld 0 (i_ci 114 (i_ci 111 (i_ci 111 (i_ci 109 (i_call 2 12 yMo_four cMo_four 4 (some .long) mc ms d 4 (i_lcmp (i_if_ne (qMo_wordOf_108 d mc ms B K) (qMo_wordOf_106 d mc ms B K)))))))))
theorem zMo_wordOf_90 {d mc ms : Nat} {B : Nat → Pd} {K : Ps} (hB : ∀ pc, Le (B pc) (G cMo_wordOf "VoyageCompanyModel" 2 (some .int) "wordOf" (rm (d + 1) mc ms) (QM mc ms K) pc)) : Le (qMo_wordOf_90 d mc ms B K) (G cMo_wordOf "VoyageCompanyModel" 2 (some .int) "wordOf" (rm (d + 1) mc ms) (QM mc ms K) 90) := by
  unfold qMo_wordOf_90
  exact (s_lld_n (j := 0) (by decide +kernel) rfl (s_bipush (n := 114) (v := 114) (by decide +kernel) (by decide +kernel) (s_bipush (n := 111) (v := 111) (by decide +kernel) (by decide +kernel) (s_bipush (n := 111) (v := 111) (by decide +kernel) (by decide +kernel) (s_bipush (n := 109) (v := 109) (by decide +kernel) (by decide +kernel) (s_call (idx := 41) (by decide +kernel) ml12_41 rmk (s_lcmp (by decide +kernel) (s_if_ne (off := 5) (tgt := 108) (by decide +kernel) (by decide) (zMo_wordOf_108 hB) (zMo_wordOf_106 hB)))))))))
def qMo_wordOf_88 (d mc ms : Nat) (B : Nat → Pd) (K : Ps) : Pd := (i_ci 3 (i_iret mc ms K))
theorem zMo_wordOf_88 {d mc ms : Nat} {B : Nat → Pd} {K : Ps} (hB : ∀ pc, Le (B pc) (G cMo_wordOf "VoyageCompanyModel" 2 (some .int) "wordOf" (rm (d + 1) mc ms) (QM mc ms K) pc)) : Le (qMo_wordOf_88 d mc ms B K) (G cMo_wordOf "VoyageCompanyModel" 2 (some .int) "wordOf" (rm (d + 1) mc ms) (QM mc ms K) 88) := by
  unfold qMo_wordOf_88
  exact (s_iconst (n := 3) (v := 3) (by decide +kernel) (by decide +kernel) (s_iret (by decide +kernel) rfl))
def qMo_wordOf_60 (d mc ms : Nat) (B : Nat → Pd) (K : Ps) : Pd := (i_lld 0 (i_ci 115 (i_ci 104 (i_ci 105 (i_ci 112 (i_call 2 12 yMo_four cMo_four 4 (some .long) mc ms d 4 (i_cl 32 (i_lmul (i_cl 115 (i_ladd (i_cl 96 (i_lsub (i_lcmp (i_if_ne (qMo_wordOf_90 d mc ms B K) (qMo_wordOf_88 d mc ms B K)))))))))))))))
theorem zMo_wordOf_60 {d mc ms : Nat} {B : Nat → Pd} {K : Ps} (hB : ∀ pc, Le (B pc) (G cMo_wordOf "VoyageCompanyModel" 2 (some .int) "wordOf" (rm (d + 1) mc ms) (QM mc ms K) pc)) : Le (qMo_wordOf_60 d mc ms B K) (G cMo_wordOf "VoyageCompanyModel" 2 (some .int) "wordOf" (rm (d + 1) mc ms) (QM mc ms K) 60) := by
  unfold qMo_wordOf_60
  exact (s_lld_n (j := 0) (by decide +kernel) rfl (s_bipush (n := 115) (v := 115) (by decide +kernel) (by decide +kernel) (s_bipush (n := 104) (v := 104) (by decide +kernel) (by decide +kernel) (s_bipush (n := 105) (v := 105) (by decide +kernel) (by decide +kernel) (s_bipush (n := 112) (v := 112) (by decide +kernel) (by decide +kernel) (s_call (idx := 41) (by decide +kernel) ml12_41 rmk (s_ldc2 (n := 33) (v := 32) (by decide +kernel) (lw_gm (by decide +kernel) (by decide +kernel)) (s_lmul (by decide +kernel) (s_ldc2 (n := 49) (v := 115) (by decide +kernel) (lw_gm (by decide +kernel) (by decide +kernel)) (s_ladd (by decide +kernel) (s_ldc2 (n := 35) (v := 96) (by decide +kernel) (lw_gm (by decide +kernel) (by decide +kernel)) (s_lsub (by decide +kernel) (s_lcmp (by decide +kernel) (s_if_ne (off := 5) (tgt := 90) (by decide +kernel) (by decide) (zMo_wordOf_90 hB) (zMo_wordOf_88 hB)))))))))))))))
def qMo_wordOf_58 (d mc ms : Nat) (B : Nat → Pd) (K : Ps) : Pd := (i_ci 2 (i_iret mc ms K))
theorem zMo_wordOf_58 {d mc ms : Nat} {B : Nat → Pd} {K : Ps} (hB : ∀ pc, Le (B pc) (G cMo_wordOf "VoyageCompanyModel" 2 (some .int) "wordOf" (rm (d + 1) mc ms) (QM mc ms K) pc)) : Le (qMo_wordOf_58 d mc ms B K) (G cMo_wordOf "VoyageCompanyModel" 2 (some .int) "wordOf" (rm (d + 1) mc ms) (QM mc ms K) 58) := by
  unfold qMo_wordOf_58
  exact (s_iconst (n := 2) (v := 2) (by decide +kernel) (by decide +kernel) (s_iret (by decide +kernel) rfl))
def qMo_wordOf_30 (d mc ms : Nat) (B : Nat → Pd) (K : Ps) : Pd := (i_lld 0 (i_ci 108 (i_ci 101 (i_ci 116 (i_call 2 12 yMo_three cMo_three 3 (some .long) mc ms d 3 (i_cl 32768 (i_lmul (i_ci 116 (i_ci 101 (i_ci 114 (i_call 2 12 yMo_three cMo_three 3 (some .long) mc ms d 3 (i_ladd (i_lcmp (i_if_ne (qMo_wordOf_60 d mc ms B K) (qMo_wordOf_58 d mc ms B K)))))))))))))))
theorem zMo_wordOf_30 {d mc ms : Nat} {B : Nat → Pd} {K : Ps} (hB : ∀ pc, Le (B pc) (G cMo_wordOf "VoyageCompanyModel" 2 (some .int) "wordOf" (rm (d + 1) mc ms) (QM mc ms K) pc)) : Le (qMo_wordOf_30 d mc ms B K) (G cMo_wordOf "VoyageCompanyModel" 2 (some .int) "wordOf" (rm (d + 1) mc ms) (QM mc ms K) 30) := by
  unfold qMo_wordOf_30
  exact (s_lld_n (j := 0) (by decide +kernel) rfl (s_bipush (n := 108) (v := 108) (by decide +kernel) (by decide +kernel) (s_bipush (n := 101) (v := 101) (by decide +kernel) (by decide +kernel) (s_bipush (n := 116) (v := 116) (by decide +kernel) (by decide +kernel) (s_call (idx := 37) (by decide +kernel) ml12_37 rmk (s_ldc2 (n := 47) (v := 32768) (by decide +kernel) (lw_gm (by decide +kernel) (by decide +kernel)) (s_lmul (by decide +kernel) (s_bipush (n := 116) (v := 116) (by decide +kernel) (by decide +kernel) (s_bipush (n := 101) (v := 101) (by decide +kernel) (by decide +kernel) (s_bipush (n := 114) (v := 114) (by decide +kernel) (by decide +kernel) (s_call (idx := 37) (by decide +kernel) ml12_37 rmk (s_ladd (by decide +kernel) (s_lcmp (by decide +kernel) (s_if_ne (off := 5) (tgt := 60) (by decide +kernel) (by decide) (zMo_wordOf_60 hB) (zMo_wordOf_58 hB)))))))))))))))
def qMo_wordOf_28 (d mc ms : Nat) (B : Nat → Pd) (K : Ps) : Pd := (i_ci 1 (i_iret mc ms K))
theorem zMo_wordOf_28 {d mc ms : Nat} {B : Nat → Pd} {K : Ps} (hB : ∀ pc, Le (B pc) (G cMo_wordOf "VoyageCompanyModel" 2 (some .int) "wordOf" (rm (d + 1) mc ms) (QM mc ms K) pc)) : Le (qMo_wordOf_28 d mc ms B K) (G cMo_wordOf "VoyageCompanyModel" 2 (some .int) "wordOf" (rm (d + 1) mc ms) (QM mc ms K) 28) := by
  unfold qMo_wordOf_28
  exact (s_iconst (n := 1) (v := 1) (by decide +kernel) (by decide +kernel) (s_iret (by decide +kernel) rfl))
def qMo_wordOf_0 (d mc ms : Nat) (B : Nat → Pd) (K : Ps) : Pd := (i_lld 0 (i_ci 109 (i_ci 111 (i_ci 110 (i_ci 116 (i_call 2 12 yMo_four cMo_four 4 (some .long) mc ms d 4 (i_cl 32 (i_lmul (i_cl 104 (i_ladd (i_cl 96 (i_lsub (i_lcmp (i_if_ne (qMo_wordOf_30 d mc ms B K) (qMo_wordOf_28 d mc ms B K)))))))))))))))
theorem zMo_wordOf_0 {d mc ms : Nat} {B : Nat → Pd} {K : Ps} (hB : ∀ pc, Le (B pc) (G cMo_wordOf "VoyageCompanyModel" 2 (some .int) "wordOf" (rm (d + 1) mc ms) (QM mc ms K) pc)) : Le (qMo_wordOf_0 d mc ms B K) (G cMo_wordOf "VoyageCompanyModel" 2 (some .int) "wordOf" (rm (d + 1) mc ms) (QM mc ms K) 0) := by
  unfold qMo_wordOf_0
  exact (s_lld_n (j := 0) (by decide +kernel) rfl (s_bipush (n := 109) (v := 109) (by decide +kernel) (by decide +kernel) (s_bipush (n := 111) (v := 111) (by decide +kernel) (by decide +kernel) (s_bipush (n := 110) (v := 110) (by decide +kernel) (by decide +kernel) (s_bipush (n := 116) (v := 116) (by decide +kernel) (by decide +kernel) (s_call (idx := 41) (by decide +kernel) ml12_41 rmk (s_ldc2 (n := 33) (v := 32) (by decide +kernel) (lw_gm (by decide +kernel) (by decide +kernel)) (s_lmul (by decide +kernel) (s_ldc2 (n := 45) (v := 104) (by decide +kernel) (lw_gm (by decide +kernel) (by decide +kernel)) (s_ladd (by decide +kernel) (s_ldc2 (n := 35) (v := 96) (by decide +kernel) (lw_gm (by decide +kernel) (by decide +kernel)) (s_lsub (by decide +kernel) (s_lcmp (by decide +kernel) (s_if_ne (off := 5) (tgt := 30) (by decide +kernel) (by decide) (zMo_wordOf_30 hB) (zMo_wordOf_28 hB)))))))))))))))
/-- VoyageCompanyModel.wordOf(J)I, at its places -/
def gMo_wordOf (d mc ms : Nat) (K : Ps) : Nat → Pd := G cMo_wordOf "VoyageCompanyModel" 2 (some .int) "wordOf" (rm (d + 1) mc ms) (QM mc ms K)
theorem eMo_wordOf {d mc ms : Nat} {K : Ps} {av : List Value} {E : Nat → Prop} {R : Nat → Nat → Value} {I : Nat → Nat → Int32} {J : Nat → Nat → Int64} (hn : (lg_sl av).length ≤ 2) (h : qMo_wordOf_0 d mc ms (gMo_wordOf d mc ms K) K (lv_args 0 av) [] E R I J 0 0) : CL yMo_wordOf cMo_wordOf 2 (some .int) (d + 1) mc ms av E R I J K :=
  CL.of (by decide +kernel) hn (zMo_wordOf_0 (fun _ => Le.refl) _ _ _ _ _ _ _ _ h)
def qMo_isSignByte_35 (d mc ms : Nat) (B : Nat → Pd) (K : Ps) : Pd := (i_zret mc ms K)
theorem zMo_isSignByte_35 {d mc ms : Nat} {B : Nat → Pd} {K : Ps} (hB : ∀ pc, Le (B pc) (G cMo_isSignByte "VoyageCompanyModel" 1 (some .boolean) "isSignByte" (rm (d + 1) mc ms) (QM mc ms K) pc)) : Le (qMo_isSignByte_35 d mc ms B K) (G cMo_isSignByte "VoyageCompanyModel" 1 (some .boolean) "isSignByte" (rm (d + 1) mc ms) (QM mc ms K) 35) := by
  unfold qMo_isSignByte_35
  exact (s_zret (by decide +kernel) rfl)
def qMo_isSignByte_34 (d mc ms : Nat) (B : Nat → Pd) (K : Ps) : Pd := (i_ci 0 (qMo_isSignByte_35 d mc ms B K))
theorem zMo_isSignByte_34 {d mc ms : Nat} {B : Nat → Pd} {K : Ps} (hB : ∀ pc, Le (B pc) (G cMo_isSignByte "VoyageCompanyModel" 1 (some .boolean) "isSignByte" (rm (d + 1) mc ms) (QM mc ms K) pc)) : Le (qMo_isSignByte_34 d mc ms B K) (G cMo_isSignByte "VoyageCompanyModel" 1 (some .boolean) "isSignByte" (rm (d + 1) mc ms) (QM mc ms K) 34) := by
  unfold qMo_isSignByte_34
  exact (s_iconst (n := 0) (v := 0) (by decide +kernel) (by decide +kernel) (zMo_isSignByte_35 hB))
def qMo_isSignByte_30 (d mc ms : Nat) (B : Nat → Pd) (K : Ps) : Pd := (i_ci 1 (qMo_isSignByte_35 d mc ms B K))
theorem zMo_isSignByte_30 {d mc ms : Nat} {B : Nat → Pd} {K : Ps} (hB : ∀ pc, Le (B pc) (G cMo_isSignByte "VoyageCompanyModel" 1 (some .boolean) "isSignByte" (rm (d + 1) mc ms) (QM mc ms K) pc)) : Le (qMo_isSignByte_30 d mc ms B K) (G cMo_isSignByte "VoyageCompanyModel" 1 (some .boolean) "isSignByte" (rm (d + 1) mc ms) (QM mc ms K) 30) := by
  unfold qMo_isSignByte_30
  exact (s_iconst (n := 1) (v := 1) (by decide +kernel) (by decide +kernel) (s_goto (off := 4) (tgt := 35) (by decide +kernel) (by decide) (zMo_isSignByte_35 hB)))
def qMo_isSignByte_24 (d mc ms : Nat) (B : Nat → Pd) (K : Ps) : Pd := (i_ild 0 (i_ci 61 (i_ic_ne (qMo_isSignByte_34 d mc ms B K) (qMo_isSignByte_30 d mc ms B K))))
theorem zMo_isSignByte_24 {d mc ms : Nat} {B : Nat → Pd} {K : Ps} (hB : ∀ pc, Le (B pc) (G cMo_isSignByte "VoyageCompanyModel" 1 (some .boolean) "isSignByte" (rm (d + 1) mc ms) (QM mc ms K) pc)) : Le (qMo_isSignByte_24 d mc ms B K) (G cMo_isSignByte "VoyageCompanyModel" 1 (some .boolean) "isSignByte" (rm (d + 1) mc ms) (QM mc ms K) 24) := by
  unfold qMo_isSignByte_24
  exact (s_ild_n (j := 0) (by decide +kernel) rfl (s_bipush (n := 61) (v := 61) (by decide +kernel) (by decide +kernel) (s_ic_ne (off := 7) (tgt := 34) (by decide +kernel) (by decide) (zMo_isSignByte_34 hB) (zMo_isSignByte_30 hB))))
def qMo_isSignByte_18 (d mc ms : Nat) (B : Nat → Pd) (K : Ps) : Pd := (i_ild 0 (i_ci 62 (i_ic_eq (qMo_isSignByte_30 d mc ms B K) (qMo_isSignByte_24 d mc ms B K))))
theorem zMo_isSignByte_18 {d mc ms : Nat} {B : Nat → Pd} {K : Ps} (hB : ∀ pc, Le (B pc) (G cMo_isSignByte "VoyageCompanyModel" 1 (some .boolean) "isSignByte" (rm (d + 1) mc ms) (QM mc ms K) pc)) : Le (qMo_isSignByte_18 d mc ms B K) (G cMo_isSignByte "VoyageCompanyModel" 1 (some .boolean) "isSignByte" (rm (d + 1) mc ms) (QM mc ms K) 18) := by
  unfold qMo_isSignByte_18
  exact (s_ild_n (j := 0) (by decide +kernel) rfl (s_bipush (n := 62) (v := 62) (by decide +kernel) (by decide +kernel) (s_ic_eq (off := 9) (tgt := 30) (by decide +kernel) (by decide) (zMo_isSignByte_30 hB) (zMo_isSignByte_24 hB))))
def qMo_isSignByte_12 (d mc ms : Nat) (B : Nat → Pd) (K : Ps) : Pd := (i_ild 0 (i_ci 60 (i_ic_eq (qMo_isSignByte_30 d mc ms B K) (qMo_isSignByte_18 d mc ms B K))))
theorem zMo_isSignByte_12 {d mc ms : Nat} {B : Nat → Pd} {K : Ps} (hB : ∀ pc, Le (B pc) (G cMo_isSignByte "VoyageCompanyModel" 1 (some .boolean) "isSignByte" (rm (d + 1) mc ms) (QM mc ms K) pc)) : Le (qMo_isSignByte_12 d mc ms B K) (G cMo_isSignByte "VoyageCompanyModel" 1 (some .boolean) "isSignByte" (rm (d + 1) mc ms) (QM mc ms K) 12) := by
  unfold qMo_isSignByte_12
  exact (s_ild_n (j := 0) (by decide +kernel) rfl (s_bipush (n := 60) (v := 60) (by decide +kernel) (by decide +kernel) (s_ic_eq (off := 15) (tgt := 30) (by decide +kernel) (by decide) (zMo_isSignByte_30 hB) (zMo_isSignByte_18 hB))))
def qMo_isSignByte_6 (d mc ms : Nat) (B : Nat → Pd) (K : Ps) : Pd := (i_ild 0 (i_ci 59 (i_ic_eq (qMo_isSignByte_30 d mc ms B K) (qMo_isSignByte_12 d mc ms B K))))
theorem zMo_isSignByte_6 {d mc ms : Nat} {B : Nat → Pd} {K : Ps} (hB : ∀ pc, Le (B pc) (G cMo_isSignByte "VoyageCompanyModel" 1 (some .boolean) "isSignByte" (rm (d + 1) mc ms) (QM mc ms K) pc)) : Le (qMo_isSignByte_6 d mc ms B K) (G cMo_isSignByte "VoyageCompanyModel" 1 (some .boolean) "isSignByte" (rm (d + 1) mc ms) (QM mc ms K) 6) := by
  unfold qMo_isSignByte_6
  exact (s_ild_n (j := 0) (by decide +kernel) rfl (s_bipush (n := 59) (v := 59) (by decide +kernel) (by decide +kernel) (s_ic_eq (off := 21) (tgt := 30) (by decide +kernel) (by decide) (zMo_isSignByte_30 hB) (zMo_isSignByte_12 hB))))
def qMo_isSignByte_0 (d mc ms : Nat) (B : Nat → Pd) (K : Ps) : Pd := (i_ild 0 (i_ci 58 (i_ic_eq (qMo_isSignByte_30 d mc ms B K) (qMo_isSignByte_6 d mc ms B K))))
theorem zMo_isSignByte_0 {d mc ms : Nat} {B : Nat → Pd} {K : Ps} (hB : ∀ pc, Le (B pc) (G cMo_isSignByte "VoyageCompanyModel" 1 (some .boolean) "isSignByte" (rm (d + 1) mc ms) (QM mc ms K) pc)) : Le (qMo_isSignByte_0 d mc ms B K) (G cMo_isSignByte "VoyageCompanyModel" 1 (some .boolean) "isSignByte" (rm (d + 1) mc ms) (QM mc ms K) 0) := by
  unfold qMo_isSignByte_0
  exact (s_ild_n (j := 0) (by decide +kernel) rfl (s_bipush (n := 58) (v := 58) (by decide +kernel) (by decide +kernel) (s_ic_eq (off := 27) (tgt := 30) (by decide +kernel) (by decide) (zMo_isSignByte_30 hB) (zMo_isSignByte_6 hB))))
/-- VoyageCompanyModel.isSignByte(I)Z, at its places -/
def gMo_isSignByte (d mc ms : Nat) (K : Ps) : Nat → Pd := G cMo_isSignByte "VoyageCompanyModel" 1 (some .boolean) "isSignByte" (rm (d + 1) mc ms) (QM mc ms K)
theorem eMo_isSignByte {d mc ms : Nat} {K : Ps} {av : List Value} {E : Nat → Prop} {R : Nat → Nat → Value} {I : Nat → Nat → Int32} {J : Nat → Nat → Int64} (hn : (lg_sl av).length ≤ 1) (h : qMo_isSignByte_0 d mc ms (gMo_isSignByte d mc ms K) K (lv_args 0 av) [] E R I J 0 0) : CL yMo_isSignByte cMo_isSignByte 1 (some .boolean) (d + 1) mc ms av E R I J K :=
  CL.of (by decide +kernel) hn (zMo_isSignByte_0 (fun _ => Le.refl) _ _ _ _ _ _ _ _ h)
def qMo_advance_317 (d mc ms : Nat) (B : Nat → Pd) (K : Ps) : Pd := (i_vret mc ms K)
theorem zMo_advance_317 {d mc ms : Nat} {B : Nat → Pd} {K : Ps} (hB : ∀ pc, Le (B pc) (G cMo_advance "VoyageCompanyModel" 4 none "advance" (rm (d + 1) mc ms) (QM mc ms K) pc)) : Le (qMo_advance_317 d mc ms B K) (G cMo_advance "VoyageCompanyModel" 4 none "advance" (rm (d + 1) mc ms) (QM mc ms K) 317) := by
  unfold qMo_advance_317
  exact (s_vret (by decide +kernel) rfl)
def qMo_advance_314 (d mc ms : Nat) (B : Nat → Pd) (K : Ps) : Pd := (i_puti 12 6 (qMo_advance_317 d mc ms B K))
theorem zMo_advance_314 {d mc ms : Nat} {B : Nat → Pd} {K : Ps} (hB : ∀ pc, Le (B pc) (G cMo_advance "VoyageCompanyModel" 4 none "advance" (rm (d + 1) mc ms) (QM mc ms K) pc)) : Le (qMo_advance_314 d mc ms B K) (G cMo_advance "VoyageCompanyModel" 4 none "advance" (rm (d + 1) mc ms) (QM mc ms K) 314) := by
  unfold qMo_advance_314
  exact (s_puti (idx := 65) (by decide +kernel) fl12_65 (by decide) (by decide) (Or.inl (by decide +kernel)) (zMo_advance_317 hB))
def qMo_advance_313 (d mc ms : Nat) (B : Nat → Pd) (K : Ps) : Pd := (i_ci 4 (qMo_advance_314 d mc ms B K))
theorem zMo_advance_313 {d mc ms : Nat} {B : Nat → Pd} {K : Ps} (hB : ∀ pc, Le (B pc) (G cMo_advance "VoyageCompanyModel" 4 none "advance" (rm (d + 1) mc ms) (QM mc ms K) pc)) : Le (qMo_advance_313 d mc ms B K) (G cMo_advance "VoyageCompanyModel" 4 none "advance" (rm (d + 1) mc ms) (QM mc ms K) 313) := by
  unfold qMo_advance_313
  exact (s_iconst (n := 4) (v := 4) (by decide +kernel) (by decide +kernel) (zMo_advance_314 hB))
def qMo_advance_309 (d mc ms : Nat) (B : Nat → Pd) (K : Ps) : Pd := (i_ci 2 (qMo_advance_314 d mc ms B K))
theorem zMo_advance_309 {d mc ms : Nat} {B : Nat → Pd} {K : Ps} (hB : ∀ pc, Le (B pc) (G cMo_advance "VoyageCompanyModel" 4 none "advance" (rm (d + 1) mc ms) (QM mc ms K) pc)) : Le (qMo_advance_309 d mc ms B K) (G cMo_advance "VoyageCompanyModel" 4 none "advance" (rm (d + 1) mc ms) (QM mc ms K) 309) := by
  unfold qMo_advance_309
  exact (s_iconst (n := 2) (v := 2) (by decide +kernel) (by decide +kernel) (s_goto (off := 4) (tgt := 314) (by decide +kernel) (by decide) (zMo_advance_314 hB)))
def qMo_advance_286 (d mc ms : Nat) (B : Nat → Pd) (K : Ps) : Pd := (i_ald 0 (i_dup (i_geti 12 4 (i_ci 1 (i_iadd (i_puti 12 4 (i_ald 0 (i_ild 1 (i_puti 12 8 (i_ald 0 (i_ild 1 (i_call 2 12 yMo_isSignByte cMo_isSignByte 1 (some .boolean) mc ms d 1 (i_if_eq (qMo_advance_313 d mc ms B K) (qMo_advance_309 d mc ms B K))))))))))))))
theorem zMo_advance_286 {d mc ms : Nat} {B : Nat → Pd} {K : Ps} (hB : ∀ pc, Le (B pc) (G cMo_advance "VoyageCompanyModel" 4 none "advance" (rm (d + 1) mc ms) (QM mc ms K) pc)) : Le (qMo_advance_286 d mc ms B K) (G cMo_advance "VoyageCompanyModel" 4 none "advance" (rm (d + 1) mc ms) (QM mc ms K) 286) := by
  unfold qMo_advance_286
  exact (s_ald_n (j := 0) (by decide +kernel) rfl (s_dup (by decide +kernel) (s_geti (idx := 55) (by decide +kernel) fl12_55 (by decide) (s_iconst (n := 1) (v := 1) (by decide +kernel) (by decide +kernel) (s_iadd (by decide +kernel) (s_puti (idx := 55) (by decide +kernel) fl12_55 (by decide) (by decide) (Or.inl (by decide +kernel)) (s_ald_n (j := 0) (by decide +kernel) rfl (s_ild_n (j := 1) (by decide +kernel) rfl (s_puti (idx := 85) (by decide +kernel) fl12_85 (by decide) (by decide) (Or.inl (by decide +kernel)) (s_ald_n (j := 0) (by decide +kernel) rfl (s_ild_n (j := 1) (by decide +kernel) rfl (s_call (idx := 88) (by decide +kernel) ml12_88 rmk (s_if_eq (off := 7) (tgt := 313) (by decide +kernel) (by decide) (zMo_advance_313 hB) (zMo_advance_309 hB))))))))))))))
def qMo_advance_280 (d mc ms : Nat) (B : Nat → Pd) (K : Ps) : Pd := (i_puti 12 6 (qMo_advance_317 d mc ms B K))
theorem zMo_advance_280 {d mc ms : Nat} {B : Nat → Pd} {K : Ps} (hB : ∀ pc, Le (B pc) (G cMo_advance "VoyageCompanyModel" 4 none "advance" (rm (d + 1) mc ms) (QM mc ms K) pc)) : Le (qMo_advance_280 d mc ms B K) (G cMo_advance "VoyageCompanyModel" 4 none "advance" (rm (d + 1) mc ms) (QM mc ms K) 280) := by
  unfold qMo_advance_280
  exact (s_puti (idx := 65) (by decide +kernel) fl12_65 (by decide) (by decide) (Or.inl (by decide +kernel)) (s_goto (off := 34) (tgt := 317) (by decide +kernel) (by decide) (zMo_advance_317 hB)))
def qMo_advance_279 (d mc ms : Nat) (B : Nat → Pd) (K : Ps) : Pd := (i_ci 1 (qMo_advance_280 d mc ms B K))
theorem zMo_advance_279 {d mc ms : Nat} {B : Nat → Pd} {K : Ps} (hB : ∀ pc, Le (B pc) (G cMo_advance "VoyageCompanyModel" 4 none "advance" (rm (d + 1) mc ms) (QM mc ms K) pc)) : Le (qMo_advance_279 d mc ms B K) (G cMo_advance "VoyageCompanyModel" 4 none "advance" (rm (d + 1) mc ms) (QM mc ms K) 279) := by
  unfold qMo_advance_279
  exact (s_iconst (n := 1) (v := 1) (by decide +kernel) (by decide +kernel) (zMo_advance_280 hB))
def qMo_advance_275 (d mc ms : Nat) (B : Nat → Pd) (K : Ps) : Pd := (i_ci 4 (qMo_advance_280 d mc ms B K))
theorem zMo_advance_275 {d mc ms : Nat} {B : Nat → Pd} {K : Ps} (hB : ∀ pc, Le (B pc) (G cMo_advance "VoyageCompanyModel" 4 none "advance" (rm (d + 1) mc ms) (QM mc ms K) pc)) : Le (qMo_advance_275 d mc ms B K) (G cMo_advance "VoyageCompanyModel" 4 none "advance" (rm (d + 1) mc ms) (QM mc ms K) 275) := by
  unfold qMo_advance_275
  exact (s_iconst (n := 4) (v := 4) (by decide +kernel) (by decide +kernel) (s_goto (off := 4) (tgt := 280) (by decide +kernel) (by decide) (zMo_advance_280 hB)))
def qMo_advance_261 (d mc ms : Nat) (B : Nat → Pd) (K : Ps) : Pd := (i_ald 0 (i_ald 0 (i_geti 12 4 (i_ald 0 (i_geti 12 5 (i_isub (i_ci 5 (i_ic_le (qMo_advance_279 d mc ms B K) (qMo_advance_275 d mc ms B K)))))))))
theorem zMo_advance_261 {d mc ms : Nat} {B : Nat → Pd} {K : Ps} (hB : ∀ pc, Le (B pc) (G cMo_advance "VoyageCompanyModel" 4 none "advance" (rm (d + 1) mc ms) (QM mc ms K) pc)) : Le (qMo_advance_261 d mc ms B K) (G cMo_advance "VoyageCompanyModel" 4 none "advance" (rm (d + 1) mc ms) (QM mc ms K) 261) := by
  unfold qMo_advance_261
  exact (s_ald_n (j := 0) (by decide +kernel) rfl (s_ald_n (j := 0) (by decide +kernel) rfl (s_geti (idx := 55) (by decide +kernel) fl12_55 (by decide) (s_ald_n (j := 0) (by decide +kernel) rfl (s_geti (idx := 62) (by decide +kernel) fl12_62 (by decide) (s_isub (by decide +kernel) (s_iconst (n := 5) (v := 5) (by decide +kernel) (by decide +kernel) (s_ic_le (off := 7) (tgt := 279) (by decide +kernel) (by decide) (zMo_advance_279 hB) (zMo_advance_275 hB)))))))))
def qMo_advance_248 (d mc ms : Nat) (B : Nat → Pd) (K : Ps) : Pd := (i_ald 0 (i_dup (i_geti 12 4 (i_ci 1 (i_iadd (i_puti 12 4 (B 198)))))))
theorem zMo_advance_248 {d mc ms : Nat} {B : Nat → Pd} {K : Ps} (hB : ∀ pc, Le (B pc) (G cMo_advance "VoyageCompanyModel" 4 none "advance" (rm (d + 1) mc ms) (QM mc ms K) pc)) : Le (qMo_advance_248 d mc ms B K) (G cMo_advance "VoyageCompanyModel" 4 none "advance" (rm (d + 1) mc ms) (QM mc ms K) 248) := by
  unfold qMo_advance_248
  exact (s_ald_n (j := 0) (by decide +kernel) rfl (s_dup (by decide +kernel) (s_geti (idx := 55) (by decide +kernel) fl12_55 (by decide) (s_iconst (n := 1) (v := 1) (by decide +kernel) (by decide +kernel) (s_iadd (by decide +kernel) (s_puti (idx := 55) (by decide +kernel) fl12_55 (by decide) (by decide) (Or.inl (by decide +kernel)) (s_goto (off := (-60)) (tgt := 198) (by decide +kernel) (by decide) (hB 198))))))))
def qMo_advance_225 (d mc ms : Nat) (B : Nat → Pd) (K : Ps) : Pd := (i_ald 0 (i_ci 10 (i_ald 0 (i_geti 12 7 (i_imul (i_ald 0 (i_ald 0 (i_geti 12 4 (i_call 0 12 yMo_byteAt cMo_byteAt 2 (some .int) mc ms d 2 (i_iadd (i_ci 48 (i_isub (i_puti 12 7 (qMo_advance_248 d mc ms B K))))))))))))))
theorem zMo_advance_225 {d mc ms : Nat} {B : Nat → Pd} {K : Ps} (hB : ∀ pc, Le (B pc) (G cMo_advance "VoyageCompanyModel" 4 none "advance" (rm (d + 1) mc ms) (QM mc ms K) pc)) : Le (qMo_advance_225 d mc ms B K) (G cMo_advance "VoyageCompanyModel" 4 none "advance" (rm (d + 1) mc ms) (QM mc ms K) 225) := by
  unfold qMo_advance_225
  exact (s_ald_n (j := 0) (by decide +kernel) rfl (s_bipush (n := 10) (v := 10) (by decide +kernel) (by decide +kernel) (s_ald_n (j := 0) (by decide +kernel) rfl (s_geti (idx := 82) (by decide +kernel) fl12_82 (by decide) (s_imul (by decide +kernel) (s_ald_n (j := 0) (by decide +kernel) rfl (s_ald_n (j := 0) (by decide +kernel) rfl (s_geti (idx := 55) (by decide +kernel) fl12_55 (by decide) (s_call (idx := 58) (by decide +kernel) ml12_58 rmk (s_iadd (by decide +kernel) (s_bipush (n := 48) (v := 48) (by decide +kernel) (by decide +kernel) (s_isub (by decide +kernel) (s_puti (idx := 82) (by decide +kernel) fl12_82 (by decide) (by decide) (Or.inl (by decide +kernel)) (zMo_advance_248 hB))))))))))))))
def qMo_advance_212 (d mc ms : Nat) (B : Nat → Pd) (K : Ps) : Pd := (i_ald 0 (i_geti 12 4 (i_ald 0 (i_geti 12 5 (i_isub (i_ci 5 (i_ic_ge (qMo_advance_248 d mc ms B K) (qMo_advance_225 d mc ms B K))))))))
theorem zMo_advance_212 {d mc ms : Nat} {B : Nat → Pd} {K : Ps} (hB : ∀ pc, Le (B pc) (G cMo_advance "VoyageCompanyModel" 4 none "advance" (rm (d + 1) mc ms) (QM mc ms K) pc)) : Le (qMo_advance_212 d mc ms B K) (G cMo_advance "VoyageCompanyModel" 4 none "advance" (rm (d + 1) mc ms) (QM mc ms K) 212) := by
  unfold qMo_advance_212
  exact (s_ald_n (j := 0) (by decide +kernel) rfl (s_geti (idx := 55) (by decide +kernel) fl12_55 (by decide) (s_ald_n (j := 0) (by decide +kernel) rfl (s_geti (idx := 62) (by decide +kernel) fl12_62 (by decide) (s_isub (by decide +kernel) (s_iconst (n := 5) (v := 5) (by decide +kernel) (by decide +kernel) (s_ic_ge (off := 26) (tgt := 248) (by decide +kernel) (by decide) (zMo_advance_248 hB) (zMo_advance_225 hB))))))))
def qMo_advance_198 (d mc ms : Nat) (B : Nat → Pd) (K : Ps) : Pd := (i_ald 0 (i_ald 0 (i_geti 12 4 (i_call 0 12 yMo_byteAt cMo_byteAt 2 (some .int) mc ms d 2 (i_call 2 12 yMo_isDigit cMo_isDigit 1 (some .boolean) mc ms d 1 (i_if_eq (qMo_advance_261 d mc ms B K) (qMo_advance_212 d mc ms B K)))))))
theorem zMo_advance_198 {d mc ms : Nat} {B : Nat → Pd} {K : Ps} (hB : ∀ pc, Le (B pc) (G cMo_advance "VoyageCompanyModel" 4 none "advance" (rm (d + 1) mc ms) (QM mc ms K) pc)) : Le (qMo_advance_198 d mc ms B K) (G cMo_advance "VoyageCompanyModel" 4 none "advance" (rm (d + 1) mc ms) (QM mc ms K) 198) := by
  unfold qMo_advance_198
  exact (s_ald_n (j := 0) (by decide +kernel) rfl (s_ald_n (j := 0) (by decide +kernel) rfl (s_geti (idx := 55) (by decide +kernel) fl12_55 (by decide) (s_call (idx := 58) (by decide +kernel) ml12_58 rmk (s_call (idx := 79) (by decide +kernel) ml12_79 rmk (s_if_eq (off := 52) (tgt := 261) (by decide +kernel) (by decide) (zMo_advance_261 hB) (zMo_advance_212 hB)))))))
def qMo_advance_193 (d mc ms : Nat) (B : Nat → Pd) (K : Ps) : Pd := (i_ald 0 (i_ci 0 (i_puti 12 7 (B 198))))
theorem zMo_advance_193 {d mc ms : Nat} {B : Nat → Pd} {K : Ps} (hB : ∀ pc, Le (B pc) (G cMo_advance "VoyageCompanyModel" 4 none "advance" (rm (d + 1) mc ms) (QM mc ms K) pc)) : Le (qMo_advance_193 d mc ms B K) (G cMo_advance "VoyageCompanyModel" 4 none "advance" (rm (d + 1) mc ms) (QM mc ms K) 193) := by
  unfold qMo_advance_193
  exact (s_ald_n (j := 0) (by decide +kernel) rfl (s_iconst (n := 0) (v := 0) (by decide +kernel) (by decide +kernel) (s_puti (idx := 82) (by decide +kernel) fl12_82 (by decide) (by decide) (Or.inl (by decide +kernel)) (hB 198))))
def qMo_advance_186 (d mc ms : Nat) (B : Nat → Pd) (K : Ps) : Pd := (i_ild 1 (i_call 2 12 yMo_isDigit cMo_isDigit 1 (some .boolean) mc ms d 1 (i_if_eq (qMo_advance_286 d mc ms B K) (qMo_advance_193 d mc ms B K))))
theorem zMo_advance_186 {d mc ms : Nat} {B : Nat → Pd} {K : Ps} (hB : ∀ pc, Le (B pc) (G cMo_advance "VoyageCompanyModel" 4 none "advance" (rm (d + 1) mc ms) (QM mc ms K) pc)) : Le (qMo_advance_186 d mc ms B K) (G cMo_advance "VoyageCompanyModel" 4 none "advance" (rm (d + 1) mc ms) (QM mc ms K) 186) := by
  unfold qMo_advance_186
  exact (s_ild_n (j := 1) (by decide +kernel) rfl (s_call (idx := 79) (by decide +kernel) ml12_79 rmk (s_if_eq (off := 96) (tgt := 286) (by decide +kernel) (by decide) (zMo_advance_286 hB) (zMo_advance_193 hB))))
def qMo_advance_180 (d mc ms : Nat) (B : Nat → Pd) (K : Ps) : Pd := (i_puti 12 6 (qMo_advance_317 d mc ms B K))
theorem zMo_advance_180 {d mc ms : Nat} {B : Nat → Pd} {K : Ps} (hB : ∀ pc, Le (B pc) (G cMo_advance "VoyageCompanyModel" 4 none "advance" (rm (d + 1) mc ms) (QM mc ms K) pc)) : Le (qMo_advance_180 d mc ms B K) (G cMo_advance "VoyageCompanyModel" 4 none "advance" (rm (d + 1) mc ms) (QM mc ms K) 180) := by
  unfold qMo_advance_180
  exact (s_puti (idx := 65) (by decide +kernel) fl12_65 (by decide) (by decide) (Or.inl (by decide +kernel)) (s_goto (off := 134) (tgt := 317) (by decide +kernel) (by decide) (zMo_advance_317 hB)))
def qMo_advance_179 (d mc ms : Nat) (B : Nat → Pd) (K : Ps) : Pd := (i_ci 3 (qMo_advance_180 d mc ms B K))
theorem zMo_advance_179 {d mc ms : Nat} {B : Nat → Pd} {K : Ps} (hB : ∀ pc, Le (B pc) (G cMo_advance "VoyageCompanyModel" 4 none "advance" (rm (d + 1) mc ms) (QM mc ms K) pc)) : Le (qMo_advance_179 d mc ms B K) (G cMo_advance "VoyageCompanyModel" 4 none "advance" (rm (d + 1) mc ms) (QM mc ms K) 179) := by
  unfold qMo_advance_179
  exact (s_iconst (n := 3) (v := 3) (by decide +kernel) (by decide +kernel) (zMo_advance_180 hB))
def qMo_advance_175 (d mc ms : Nat) (B : Nat → Pd) (K : Ps) : Pd := (i_ci 4 (qMo_advance_180 d mc ms B K))
theorem zMo_advance_175 {d mc ms : Nat} {B : Nat → Pd} {K : Ps} (hB : ∀ pc, Le (B pc) (G cMo_advance "VoyageCompanyModel" 4 none "advance" (rm (d + 1) mc ms) (QM mc ms K) pc)) : Le (qMo_advance_175 d mc ms B K) (G cMo_advance "VoyageCompanyModel" 4 none "advance" (rm (d + 1) mc ms) (QM mc ms K) 175) := by
  unfold qMo_advance_175
  exact (s_iconst (n := 4) (v := 4) (by decide +kernel) (by decide +kernel) (s_goto (off := 4) (tgt := 180) (by decide +kernel) (by decide) (zMo_advance_180 hB)))
def qMo_advance_162 (d mc ms : Nat) (B : Nat → Pd) (K : Ps) : Pd := (i_puti 12 9 (i_ald 0 (i_ald 0 (i_geti 12 9 (i_ci 99 (i_ic_ne (qMo_advance_179 d mc ms B K) (qMo_advance_175 d mc ms B K)))))))
theorem zMo_advance_162 {d mc ms : Nat} {B : Nat → Pd} {K : Ps} (hB : ∀ pc, Le (B pc) (G cMo_advance "VoyageCompanyModel" 4 none "advance" (rm (d + 1) mc ms) (QM mc ms K) pc)) : Le (qMo_advance_162 d mc ms B K) (G cMo_advance "VoyageCompanyModel" 4 none "advance" (rm (d + 1) mc ms) (QM mc ms K) 162) := by
  unfold qMo_advance_162
  exact (s_puti (idx := 76) (by decide +kernel) fl12_76 (by decide) (by decide) (Or.inl (by decide +kernel)) (s_ald_n (j := 0) (by decide +kernel) rfl (s_ald_n (j := 0) (by decide +kernel) rfl (s_geti (idx := 76) (by decide +kernel) fl12_76 (by decide) (s_bipush (n := 99) (v := 99) (by decide +kernel) (by decide +kernel) (s_ic_ne (off := 7) (tgt := 179) (by decide +kernel) (by decide) (zMo_advance_179 hB) (zMo_advance_175 hB)))))))
def qMo_advance_158 (d mc ms : Nat) (B : Nat → Pd) (K : Ps) : Pd := (i_lld 2 (i_call 2 12 yMo_wordOf cMo_wordOf 2 (some .int) mc ms d 1 (qMo_advance_162 d mc ms B K)))
theorem zMo_advance_158 {d mc ms : Nat} {B : Nat → Pd} {K : Ps} (hB : ∀ pc, Le (B pc) (G cMo_advance "VoyageCompanyModel" 4 none "advance" (rm (d + 1) mc ms) (QM mc ms K) pc)) : Le (qMo_advance_158 d mc ms B K) (G cMo_advance "VoyageCompanyModel" 4 none "advance" (rm (d + 1) mc ms) (QM mc ms K) 158) := by
  unfold qMo_advance_158
  exact (s_lld_n (j := 2) (by decide +kernel) rfl (s_call (idx := 72) (by decide +kernel) ml12_72 rmk (zMo_advance_162 hB)))
def qMo_advance_153 (d mc ms : Nat) (B : Nat → Pd) (K : Ps) : Pd := (i_ci 99 (qMo_advance_162 d mc ms B K))
theorem zMo_advance_153 {d mc ms : Nat} {B : Nat → Pd} {K : Ps} (hB : ∀ pc, Le (B pc) (G cMo_advance "VoyageCompanyModel" 4 none "advance" (rm (d + 1) mc ms) (QM mc ms K) pc)) : Le (qMo_advance_153 d mc ms B K) (G cMo_advance "VoyageCompanyModel" 4 none "advance" (rm (d + 1) mc ms) (QM mc ms K) 153) := by
  unfold qMo_advance_153
  exact (s_bipush (n := 99) (v := 99) (by decide +kernel) (by decide +kernel) (s_goto (off := 7) (tgt := 162) (by decide +kernel) (by decide) (zMo_advance_162 hB)))
def qMo_advance_138 (d mc ms : Nat) (B : Nat → Pd) (K : Ps) : Pd := (i_ald 0 (i_ald 0 (i_geti 12 4 (i_ald 0 (i_geti 12 5 (i_isub (i_ci 6 (i_ic_le (qMo_advance_158 d mc ms B K) (qMo_advance_153 d mc ms B K)))))))))
theorem zMo_advance_138 {d mc ms : Nat} {B : Nat → Pd} {K : Ps} (hB : ∀ pc, Le (B pc) (G cMo_advance "VoyageCompanyModel" 4 none "advance" (rm (d + 1) mc ms) (QM mc ms K) pc)) : Le (qMo_advance_138 d mc ms B K) (G cMo_advance "VoyageCompanyModel" 4 none "advance" (rm (d + 1) mc ms) (QM mc ms K) 138) := by
  unfold qMo_advance_138
  exact (s_ald_n (j := 0) (by decide +kernel) rfl (s_ald_n (j := 0) (by decide +kernel) rfl (s_geti (idx := 55) (by decide +kernel) fl12_55 (by decide) (s_ald_n (j := 0) (by decide +kernel) rfl (s_geti (idx := 62) (by decide +kernel) fl12_62 (by decide) (s_isub (by decide +kernel) (s_bipush (n := 6) (v := 6) (by decide +kernel) (by decide +kernel) (s_ic_le (off := 8) (tgt := 158) (by decide +kernel) (by decide) (zMo_advance_158 hB) (zMo_advance_153 hB)))))))))
def qMo_advance_125 (d mc ms : Nat) (B : Nat → Pd) (K : Ps) : Pd := (i_ald 0 (i_dup (i_geti 12 4 (i_ci 1 (i_iadd (i_puti 12 4 (B 77)))))))
theorem zMo_advance_125 {d mc ms : Nat} {B : Nat → Pd} {K : Ps} (hB : ∀ pc, Le (B pc) (G cMo_advance "VoyageCompanyModel" 4 none "advance" (rm (d + 1) mc ms) (QM mc ms K) pc)) : Le (qMo_advance_125 d mc ms B K) (G cMo_advance "VoyageCompanyModel" 4 none "advance" (rm (d + 1) mc ms) (QM mc ms K) 125) := by
  unfold qMo_advance_125
  exact (s_ald_n (j := 0) (by decide +kernel) rfl (s_dup (by decide +kernel) (s_geti (idx := 55) (by decide +kernel) fl12_55 (by decide) (s_iconst (n := 1) (v := 1) (by decide +kernel) (by decide +kernel) (s_iadd (by decide +kernel) (s_puti (idx := 55) (by decide +kernel) fl12_55 (by decide) (by decide) (Or.inl (by decide +kernel)) (s_goto (off := (-58)) (tgt := 77) (by decide +kernel) (by decide) (hB 77))))))))
def qMo_advance_105 (d mc ms : Nat) (B : Nat → Pd) (K : Ps) : Pd := (i_cl 32 (i_lld 2 (i_lmul (i_ald 0 (i_ald 0 (i_geti 12 4 (i_call 0 12 yMo_byteAt cMo_byteAt 2 (some .int) mc ms d 2 (i_i2l (i_ladd (i_cl 96 (i_lsub (i_lst 2 (qMo_advance_125 d mc ms B K)))))))))))))
theorem zMo_advance_105 {d mc ms : Nat} {B : Nat → Pd} {K : Ps} (hB : ∀ pc, Le (B pc) (G cMo_advance "VoyageCompanyModel" 4 none "advance" (rm (d + 1) mc ms) (QM mc ms K) pc)) : Le (qMo_advance_105 d mc ms B K) (G cMo_advance "VoyageCompanyModel" 4 none "advance" (rm (d + 1) mc ms) (QM mc ms K) 105) := by
  unfold qMo_advance_105
  exact (s_ldc2 (n := 33) (v := 32) (by decide +kernel) (lw_gm (by decide +kernel) (by decide +kernel)) (s_lld_n (j := 2) (by decide +kernel) rfl (s_lmul (by decide +kernel) (s_ald_n (j := 0) (by decide +kernel) rfl (s_ald_n (j := 0) (by decide +kernel) rfl (s_geti (idx := 55) (by decide +kernel) fl12_55 (by decide) (s_call (idx := 58) (by decide +kernel) ml12_58 rmk (s_i2l (by decide +kernel) (s_ladd (by decide +kernel) (s_ldc2 (n := 35) (v := 96) (by decide +kernel) (lw_gm (by decide +kernel) (by decide +kernel)) (s_lsub (by decide +kernel) (s_lst_n (j := 2) (by decide +kernel) rfl (by decide) (zMo_advance_125 hB)))))))))))))
def qMo_advance_91 (d mc ms : Nat) (B : Nat → Pd) (K : Ps) : Pd := (i_ald 0 (i_geti 12 4 (i_ald 0 (i_geti 12 5 (i_isub (i_ci 7 (i_ic_ge (qMo_advance_125 d mc ms B K) (qMo_advance_105 d mc ms B K))))))))
theorem zMo_advance_91 {d mc ms : Nat} {B : Nat → Pd} {K : Ps} (hB : ∀ pc, Le (B pc) (G cMo_advance "VoyageCompanyModel" 4 none "advance" (rm (d + 1) mc ms) (QM mc ms K) pc)) : Le (qMo_advance_91 d mc ms B K) (G cMo_advance "VoyageCompanyModel" 4 none "advance" (rm (d + 1) mc ms) (QM mc ms K) 91) := by
  unfold qMo_advance_91
  exact (s_ald_n (j := 0) (by decide +kernel) rfl (s_geti (idx := 55) (by decide +kernel) fl12_55 (by decide) (s_ald_n (j := 0) (by decide +kernel) rfl (s_geti (idx := 62) (by decide +kernel) fl12_62 (by decide) (s_isub (by decide +kernel) (s_bipush (n := 7) (v := 7) (by decide +kernel) (by decide +kernel) (s_ic_ge (off := 23) (tgt := 125) (by decide +kernel) (by decide) (zMo_advance_125 hB) (zMo_advance_105 hB))))))))
def qMo_advance_77 (d mc ms : Nat) (B : Nat → Pd) (K : Ps) : Pd := (i_ald 0 (i_ald 0 (i_geti 12 4 (i_call 0 12 yMo_byteAt cMo_byteAt 2 (some .int) mc ms d 2 (i_call 2 12 yMo_isLetter cMo_isLetter 1 (some .boolean) mc ms d 1 (i_if_eq (qMo_advance_138 d mc ms B K) (qMo_advance_91 d mc ms B K)))))))
theorem zMo_advance_77 {d mc ms : Nat} {B : Nat → Pd} {K : Ps} (hB : ∀ pc, Le (B pc) (G cMo_advance "VoyageCompanyModel" 4 none "advance" (rm (d + 1) mc ms) (QM mc ms K) pc)) : Le (qMo_advance_77 d mc ms B K) (G cMo_advance "VoyageCompanyModel" 4 none "advance" (rm (d + 1) mc ms) (QM mc ms K) 77) := by
  unfold qMo_advance_77
  exact (s_ald_n (j := 0) (by decide +kernel) rfl (s_ald_n (j := 0) (by decide +kernel) rfl (s_geti (idx := 55) (by decide +kernel) fl12_55 (by decide) (s_call (idx := 58) (by decide +kernel) ml12_58 rmk (s_call (idx := 68) (by decide +kernel) ml12_68 rmk (s_if_eq (off := 50) (tgt := 138) (by decide +kernel) (by decide) (zMo_advance_138 hB) (zMo_advance_91 hB)))))))
def qMo_advance_75 (d mc ms : Nat) (B : Nat → Pd) (K : Ps) : Pd := (i_cl 0 (i_lst 2 (B 77)))
theorem zMo_advance_75 {d mc ms : Nat} {B : Nat → Pd} {K : Ps} (hB : ∀ pc, Le (B pc) (G cMo_advance "VoyageCompanyModel" 4 none "advance" (rm (d + 1) mc ms) (QM mc ms K) pc)) : Le (qMo_advance_75 d mc ms B K) (G cMo_advance "VoyageCompanyModel" 4 none "advance" (rm (d + 1) mc ms) (QM mc ms K) 75) := by
  unfold qMo_advance_75
  exact (s_lconst (n := 0) (v := 0) (by decide +kernel) (by decide +kernel) (s_lst_n (j := 2) (by decide +kernel) rfl (by decide) (hB 77)))
def qMo_advance_68 (d mc ms : Nat) (B : Nat → Pd) (K : Ps) : Pd := (i_ild 1 (i_call 2 12 yMo_isLetter cMo_isLetter 1 (some .boolean) mc ms d 1 (i_if_eq (qMo_advance_186 d mc ms B K) (qMo_advance_75 d mc ms B K))))
theorem zMo_advance_68 {d mc ms : Nat} {B : Nat → Pd} {K : Ps} (hB : ∀ pc, Le (B pc) (G cMo_advance "VoyageCompanyModel" 4 none "advance" (rm (d + 1) mc ms) (QM mc ms K) pc)) : Le (qMo_advance_68 d mc ms B K) (G cMo_advance "VoyageCompanyModel" 4 none "advance" (rm (d + 1) mc ms) (QM mc ms K) 68) := by
  unfold qMo_advance_68
  exact (s_ild_n (j := 1) (by decide +kernel) rfl (s_call (idx := 68) (by decide +kernel) ml12_68 rmk (s_if_eq (off := 114) (tgt := 186) (by decide +kernel) (by decide) (zMo_advance_186 hB) (zMo_advance_75 hB))))
def qMo_advance_60 (d mc ms : Nat) (B : Nat → Pd) (K : Ps) : Pd := (i_ald 0 (i_ci 0 (i_puti 12 6 (qMo_advance_317 d mc ms B K))))
theorem zMo_advance_60 {d mc ms : Nat} {B : Nat → Pd} {K : Ps} (hB : ∀ pc, Le (B pc) (G cMo_advance "VoyageCompanyModel" 4 none "advance" (rm (d + 1) mc ms) (QM mc ms K) pc)) : Le (qMo_advance_60 d mc ms B K) (G cMo_advance "VoyageCompanyModel" 4 none "advance" (rm (d + 1) mc ms) (QM mc ms K) 60) := by
  unfold qMo_advance_60
  exact (s_ald_n (j := 0) (by decide +kernel) rfl (s_iconst (n := 0) (v := 0) (by decide +kernel) (by decide +kernel) (s_puti (idx := 65) (by decide +kernel) fl12_65 (by decide) (by decide) (Or.inl (by decide +kernel)) (s_goto (off := 252) (tgt := 317) (by decide +kernel) (by decide) (zMo_advance_317 hB)))))
def qMo_advance_39 (d mc ms : Nat) (B : Nat → Pd) (K : Ps) : Pd := (i_ald 0 (i_ald 0 (i_geti 12 4 (i_puti 12 5 (i_ald 0 (i_ald 0 (i_geti 12 4 (i_call 0 12 yMo_byteAt cMo_byteAt 2 (some .int) mc ms d 2 (i_ist 1 (i_ild 1 (i_if_ge (qMo_advance_68 d mc ms B K) (qMo_advance_60 d mc ms B K))))))))))))
theorem zMo_advance_39 {d mc ms : Nat} {B : Nat → Pd} {K : Ps} (hB : ∀ pc, Le (B pc) (G cMo_advance "VoyageCompanyModel" 4 none "advance" (rm (d + 1) mc ms) (QM mc ms K) pc)) : Le (qMo_advance_39 d mc ms B K) (G cMo_advance "VoyageCompanyModel" 4 none "advance" (rm (d + 1) mc ms) (QM mc ms K) 39) := by
  unfold qMo_advance_39
  exact (s_ald_n (j := 0) (by decide +kernel) rfl (s_ald_n (j := 0) (by decide +kernel) rfl (s_geti (idx := 55) (by decide +kernel) fl12_55 (by decide) (s_puti (idx := 62) (by decide +kernel) fl12_62 (by decide) (by decide) (Or.inl (by decide +kernel)) (s_ald_n (j := 0) (by decide +kernel) rfl (s_ald_n (j := 0) (by decide +kernel) rfl (s_geti (idx := 55) (by decide +kernel) fl12_55 (by decide) (s_call (idx := 58) (by decide +kernel) ml12_58 rmk (s_ist_n (j := 1) (by decide +kernel) rfl (by decide) (s_ild_n (j := 1) (by decide +kernel) rfl (s_if_ge (off := 11) (tgt := 68) (by decide +kernel) (by decide) (zMo_advance_68 hB) (zMo_advance_60 hB))))))))))))
def qMo_advance_26 (d mc ms : Nat) (B : Nat → Pd) (K : Ps) : Pd := (i_ald 0 (i_dup (i_geti 12 4 (i_ci 1 (i_iadd (i_puti 12 4 (B 0)))))))
theorem zMo_advance_26 {d mc ms : Nat} {B : Nat → Pd} {K : Ps} (hB : ∀ pc, Le (B pc) (G cMo_advance "VoyageCompanyModel" 4 none "advance" (rm (d + 1) mc ms) (QM mc ms K) pc)) : Le (qMo_advance_26 d mc ms B K) (G cMo_advance "VoyageCompanyModel" 4 none "advance" (rm (d + 1) mc ms) (QM mc ms K) 26) := by
  unfold qMo_advance_26
  exact (s_ald_n (j := 0) (by decide +kernel) rfl (s_dup (by decide +kernel) (s_geti (idx := 55) (by decide +kernel) fl12_55 (by decide) (s_iconst (n := 1) (v := 1) (by decide +kernel) (by decide +kernel) (s_iadd (by decide +kernel) (s_puti (idx := 55) (by decide +kernel) fl12_55 (by decide) (by decide) (Or.inl (by decide +kernel)) (s_goto (off := (-36)) (tgt := 0) (by decide +kernel) (by decide) (hB 0))))))))
def qMo_advance_13 (d mc ms : Nat) (B : Nat → Pd) (K : Ps) : Pd := (i_ald 0 (i_ald 0 (i_geti 12 4 (i_call 0 12 yMo_byteAt cMo_byteAt 2 (some .int) mc ms d 2 (i_ci 32 (i_ic_ne (qMo_advance_39 d mc ms B K) (qMo_advance_26 d mc ms B K)))))))
theorem zMo_advance_13 {d mc ms : Nat} {B : Nat → Pd} {K : Ps} (hB : ∀ pc, Le (B pc) (G cMo_advance "VoyageCompanyModel" 4 none "advance" (rm (d + 1) mc ms) (QM mc ms K) pc)) : Le (qMo_advance_13 d mc ms B K) (G cMo_advance "VoyageCompanyModel" 4 none "advance" (rm (d + 1) mc ms) (QM mc ms K) 13) := by
  unfold qMo_advance_13
  exact (s_ald_n (j := 0) (by decide +kernel) rfl (s_ald_n (j := 0) (by decide +kernel) rfl (s_geti (idx := 55) (by decide +kernel) fl12_55 (by decide) (s_call (idx := 58) (by decide +kernel) ml12_58 rmk (s_bipush (n := 32) (v := 32) (by decide +kernel) (by decide +kernel) (s_ic_ne (off := 16) (tgt := 39) (by decide +kernel) (by decide) (zMo_advance_39 hB) (zMo_advance_26 hB)))))))
def qMo_advance_0 (d mc ms : Nat) (B : Nat → Pd) (K : Ps) : Pd := (i_ald 0 (i_ald 0 (i_geti 12 4 (i_call 0 12 yMo_byteAt cMo_byteAt 2 (some .int) mc ms d 2 (i_ci 10 (i_ic_eq (qMo_advance_26 d mc ms B K) (qMo_advance_13 d mc ms B K)))))))
theorem zMo_advance_0 {d mc ms : Nat} {B : Nat → Pd} {K : Ps} (hB : ∀ pc, Le (B pc) (G cMo_advance "VoyageCompanyModel" 4 none "advance" (rm (d + 1) mc ms) (QM mc ms K) pc)) : Le (qMo_advance_0 d mc ms B K) (G cMo_advance "VoyageCompanyModel" 4 none "advance" (rm (d + 1) mc ms) (QM mc ms K) 0) := by
  unfold qMo_advance_0
  exact (s_ald_n (j := 0) (by decide +kernel) rfl (s_ald_n (j := 0) (by decide +kernel) rfl (s_geti (idx := 55) (by decide +kernel) fl12_55 (by decide) (s_call (idx := 58) (by decide +kernel) ml12_58 rmk (s_bipush (n := 10) (v := 10) (by decide +kernel) (by decide +kernel) (s_ic_eq (off := 16) (tgt := 26) (by decide +kernel) (by decide) (zMo_advance_26 hB) (zMo_advance_13 hB)))))))
/-- VoyageCompanyModel.advance()V, at its places -/
def gMo_advance (d mc ms : Nat) (K : Ps) : Nat → Pd := G cMo_advance "VoyageCompanyModel" 4 none "advance" (rm (d + 1) mc ms) (QM mc ms K)
theorem eMo_advance {d mc ms : Nat} {K : Ps} {av : List Value} {E : Nat → Prop} {R : Nat → Nat → Value} {I : Nat → Nat → Int32} {J : Nat → Nat → Int64} (hn : (lg_sl av).length ≤ 4) (h : gMo_advance d mc ms K 0 (lv_args 0 av) [] E R I J 0 0) : CL yMo_advance cMo_advance 4 none (d + 1) mc ms av E R I J K :=
  CL.of (by decide +kernel) hn (h)
theorem lMo_advance_0 {d mc ms : Nat} {K : Ps} : Le (qMo_advance_0 d mc ms (gMo_advance d mc ms K) K) (gMo_advance d mc ms K 0) := zMo_advance_0 (fun _ => Le.refl)
theorem lMo_advance_77 {d mc ms : Nat} {K : Ps} : Le (qMo_advance_77 d mc ms (gMo_advance d mc ms K) K) (gMo_advance d mc ms K 77) := zMo_advance_77 (fun _ => Le.refl)
theorem lMo_advance_198 {d mc ms : Nat} {K : Ps} : Le (qMo_advance_198 d mc ms (gMo_advance d mc ms K) K) (gMo_advance d mc ms K 198) := zMo_advance_198 (fun _ => Le.refl)
def qMo_stops_8 (d mc ms : Nat) (B : Nat → Pd) (K : Ps) : Pd := (i_ald 0 (i_ci 1 (i_putz 12 10 (i_ald 0 (i_getr 12 0 (i_ci 5 (i_ci 1 (i_iast (i_ald 0 (i_getr 12 0 (i_ci 6 (i_ald 0 (i_geti 12 5 (i_iast (i_vret mc ms K)))))))))))))))
theorem zMo_stops_8 {d mc ms : Nat} {B : Nat → Pd} {K : Ps} (hB : ∀ pc, Le (B pc) (G cMo_stops "VoyageCompanyModel" 1 none "stops" (rm (d + 1) mc ms) (QM mc ms K) pc)) : Le (qMo_stops_8 d mc ms B K) (G cMo_stops "VoyageCompanyModel" 1 none "stops" (rm (d + 1) mc ms) (QM mc ms K) 8) := by
  unfold qMo_stops_8
  exact (s_ald_n (j := 0) (by decide +kernel) rfl (s_iconst (n := 1) (v := 1) (by decide +kernel) (by decide +kernel) (s_putz (idx := 91) (by decide +kernel) fl12_91 (by decide) (by decide) (Or.inl (by decide +kernel)) (s_ald_n (j := 0) (by decide +kernel) rfl (s_getr (idx := 8) (by decide +kernel) fl12_8 (by decide) (s_iconst (n := 5) (v := 5) (by decide +kernel) (by decide +kernel) (s_iconst (n := 1) (v := 1) (by decide +kernel) (by decide +kernel) (s_iast (by decide +kernel) (s_ald_n (j := 0) (by decide +kernel) rfl (s_getr (idx := 8) (by decide +kernel) fl12_8 (by decide) (s_bipush (n := 6) (v := 6) (by decide +kernel) (by decide +kernel) (s_ald_n (j := 0) (by decide +kernel) rfl (s_geti (idx := 62) (by decide +kernel) fl12_62 (by decide) (s_iast (by decide +kernel) (s_vret (by decide +kernel) rfl)))))))))))))))
def qMo_stops_7 (d mc ms : Nat) (B : Nat → Pd) (K : Ps) : Pd := (i_vret mc ms K)
theorem zMo_stops_7 {d mc ms : Nat} {B : Nat → Pd} {K : Ps} (hB : ∀ pc, Le (B pc) (G cMo_stops "VoyageCompanyModel" 1 none "stops" (rm (d + 1) mc ms) (QM mc ms K) pc)) : Le (qMo_stops_7 d mc ms B K) (G cMo_stops "VoyageCompanyModel" 1 none "stops" (rm (d + 1) mc ms) (QM mc ms K) 7) := by
  unfold qMo_stops_7
  exact (s_vret (by decide +kernel) rfl)
def qMo_stops_0 (d mc ms : Nat) (B : Nat → Pd) (K : Ps) : Pd := (i_ald 0 (i_geti 12 10 (i_if_eq (qMo_stops_8 d mc ms B K) (qMo_stops_7 d mc ms B K))))
theorem zMo_stops_0 {d mc ms : Nat} {B : Nat → Pd} {K : Ps} (hB : ∀ pc, Le (B pc) (G cMo_stops "VoyageCompanyModel" 1 none "stops" (rm (d + 1) mc ms) (QM mc ms K) pc)) : Le (qMo_stops_0 d mc ms B K) (G cMo_stops "VoyageCompanyModel" 1 none "stops" (rm (d + 1) mc ms) (QM mc ms K) 0) := by
  unfold qMo_stops_0
  exact (s_ald_n (j := 0) (by decide +kernel) rfl (s_geti (idx := 91) (by decide +kernel) fl12_91 (by decide) (s_if_eq (off := 4) (tgt := 8) (by decide +kernel) (by decide) (zMo_stops_8 hB) (zMo_stops_7 hB))))
/-- VoyageCompanyModel.stops()V, at its places -/
def gMo_stops (d mc ms : Nat) (K : Ps) : Nat → Pd := G cMo_stops "VoyageCompanyModel" 1 none "stops" (rm (d + 1) mc ms) (QM mc ms K)
theorem eMo_stops {d mc ms : Nat} {K : Ps} {av : List Value} {E : Nat → Prop} {R : Nat → Nat → Value} {I : Nat → Nat → Int32} {J : Nat → Nat → Int64} (hn : (lg_sl av).length ≤ 1) (h : qMo_stops_0 d mc ms (gMo_stops d mc ms K) K (lv_args 0 av) [] E R I J 0 0) : CL yMo_stops cMo_stops 1 none (d + 1) mc ms av E R I J K :=
  CL.of (by decide +kernel) hn (zMo_stops_0 (fun _ => Le.refl) _ _ _ _ _ _ _ _ h)
def qMo_tells_17 (d mc ms : Nat) (B : Nat → Pd) (K : Ps) : Pd := (i_ald 0 (i_getr 12 0 (i_ci 5 (i_ild 1 (i_iast (i_ald 0 (i_getr 12 0 (i_ci 6 (i_ild 2 (i_iast (i_vret mc ms K)))))))))))
theorem zMo_tells_17 {d mc ms : Nat} {B : Nat → Pd} {K : Ps} (hB : ∀ pc, Le (B pc) (G cMo_tells "VoyageCompanyModel" 3 none "tells" (rm (d + 1) mc ms) (QM mc ms K) pc)) : Le (qMo_tells_17 d mc ms B K) (G cMo_tells "VoyageCompanyModel" 3 none "tells" (rm (d + 1) mc ms) (QM mc ms K) 17) := by
  unfold qMo_tells_17
  exact (s_ald_n (j := 0) (by decide +kernel) rfl (s_getr (idx := 8) (by decide +kernel) fl12_8 (by decide) (s_iconst (n := 5) (v := 5) (by decide +kernel) (by decide +kernel) (s_ild_n (j := 1) (by decide +kernel) rfl (s_iast (by decide +kernel) (s_ald_n (j := 0) (by decide +kernel) rfl (s_getr (idx := 8) (by decide +kernel) fl12_8 (by decide) (s_bipush (n := 6) (v := 6) (by decide +kernel) (by decide +kernel) (s_ild_n (j := 2) (by decide +kernel) rfl (s_iast (by decide +kernel) (s_vret (by decide +kernel) rfl)))))))))))
def qMo_tells_16 (d mc ms : Nat) (B : Nat → Pd) (K : Ps) : Pd := (i_vret mc ms K)
theorem zMo_tells_16 {d mc ms : Nat} {B : Nat → Pd} {K : Ps} (hB : ∀ pc, Le (B pc) (G cMo_tells "VoyageCompanyModel" 3 none "tells" (rm (d + 1) mc ms) (QM mc ms K) pc)) : Le (qMo_tells_16 d mc ms B K) (G cMo_tells "VoyageCompanyModel" 3 none "tells" (rm (d + 1) mc ms) (QM mc ms K) 16) := by
  unfold qMo_tells_16
  exact (s_vret (by decide +kernel) rfl)
def qMo_tells_7 (d mc ms : Nat) (B : Nat → Pd) (K : Ps) : Pd := (i_ald 0 (i_getr 12 0 (i_ci 5 (i_iald (i_if_eq (qMo_tells_17 d mc ms B K) (qMo_tells_16 d mc ms B K))))))
theorem zMo_tells_7 {d mc ms : Nat} {B : Nat → Pd} {K : Ps} (hB : ∀ pc, Le (B pc) (G cMo_tells "VoyageCompanyModel" 3 none "tells" (rm (d + 1) mc ms) (QM mc ms K) pc)) : Le (qMo_tells_7 d mc ms B K) (G cMo_tells "VoyageCompanyModel" 3 none "tells" (rm (d + 1) mc ms) (QM mc ms K) 7) := by
  unfold qMo_tells_7
  exact (s_ald_n (j := 0) (by decide +kernel) rfl (s_getr (idx := 8) (by decide +kernel) fl12_8 (by decide) (s_iconst (n := 5) (v := 5) (by decide +kernel) (by decide +kernel) (s_iald (by decide +kernel) (s_if_eq (off := 4) (tgt := 17) (by decide +kernel) (by decide) (zMo_tells_17 hB) (zMo_tells_16 hB))))))
def qMo_tells_0 (d mc ms : Nat) (B : Nat → Pd) (K : Ps) : Pd := (i_ald 0 (i_geti 12 10 (i_if_ne (qMo_tells_16 d mc ms B K) (qMo_tells_7 d mc ms B K))))
theorem zMo_tells_0 {d mc ms : Nat} {B : Nat → Pd} {K : Ps} (hB : ∀ pc, Le (B pc) (G cMo_tells "VoyageCompanyModel" 3 none "tells" (rm (d + 1) mc ms) (QM mc ms K) pc)) : Le (qMo_tells_0 d mc ms B K) (G cMo_tells "VoyageCompanyModel" 3 none "tells" (rm (d + 1) mc ms) (QM mc ms K) 0) := by
  unfold qMo_tells_0
  exact (s_ald_n (j := 0) (by decide +kernel) rfl (s_geti (idx := 91) (by decide +kernel) fl12_91 (by decide) (s_if_ne (off := 12) (tgt := 16) (by decide +kernel) (by decide) (zMo_tells_16 hB) (zMo_tells_7 hB))))
/-- VoyageCompanyModel.tells(II)V, at its places -/
def gMo_tells (d mc ms : Nat) (K : Ps) : Nat → Pd := G cMo_tells "VoyageCompanyModel" 3 none "tells" (rm (d + 1) mc ms) (QM mc ms K)
theorem eMo_tells {d mc ms : Nat} {K : Ps} {av : List Value} {E : Nat → Prop} {R : Nat → Nat → Value} {I : Nat → Nat → Int32} {J : Nat → Nat → Int64} (hn : (lg_sl av).length ≤ 3) (h : qMo_tells_0 d mc ms (gMo_tells d mc ms K) K (lv_args 0 av) [] E R I J 0 0) : CL yMo_tells cMo_tells 3 none (d + 1) mc ms av E R I J K :=
  CL.of (by decide +kernel) hn (zMo_tells_0 (fun _ => Le.refl) _ _ _ _ _ _ _ _ h)
def qMo_takes_25 (d mc ms : Nat) (B : Nat → Pd) (K : Ps) : Pd := (i_ald 0 (i_call 0 12 yMo_advance cMo_advance 4 none mc ms d 1 (i_ci 1 (i_zret mc ms K))))
theorem zMo_takes_25 {d mc ms : Nat} {B : Nat → Pd} {K : Ps} (hB : ∀ pc, Le (B pc) (G cMo_takes "VoyageCompanyModel" 2 (some .boolean) "takes" (rm (d + 1) mc ms) (QM mc ms K) pc)) : Le (qMo_takes_25 d mc ms B K) (G cMo_takes "VoyageCompanyModel" 2 (some .boolean) "takes" (rm (d + 1) mc ms) (QM mc ms K) 25) := by
  unfold qMo_takes_25
  exact (s_ald_n (j := 0) (by decide +kernel) rfl (s_call (idx := 95) (by decide +kernel) ml12_95 rmk (s_iconst (n := 1) (v := 1) (by decide +kernel) (by decide +kernel) (s_zret (by decide +kernel) rfl))))
def qMo_takes_23 (d mc ms : Nat) (B : Nat → Pd) (K : Ps) : Pd := (i_ci 0 (i_zret mc ms K))
theorem zMo_takes_23 {d mc ms : Nat} {B : Nat → Pd} {K : Ps} (hB : ∀ pc, Le (B pc) (G cMo_takes "VoyageCompanyModel" 2 (some .boolean) "takes" (rm (d + 1) mc ms) (QM mc ms K) pc)) : Le (qMo_takes_23 d mc ms B K) (G cMo_takes "VoyageCompanyModel" 2 (some .boolean) "takes" (rm (d + 1) mc ms) (QM mc ms K) 23) := by
  unfold qMo_takes_23
  exact (s_iconst (n := 0) (v := 0) (by decide +kernel) (by decide +kernel) (s_zret (by decide +kernel) rfl))
def qMo_takes_15 (d mc ms : Nat) (B : Nat → Pd) (K : Ps) : Pd := (i_ald 0 (i_geti 12 9 (i_ild 1 (i_ic_eq (qMo_takes_25 d mc ms B K) (qMo_takes_23 d mc ms B K)))))
theorem zMo_takes_15 {d mc ms : Nat} {B : Nat → Pd} {K : Ps} (hB : ∀ pc, Le (B pc) (G cMo_takes "VoyageCompanyModel" 2 (some .boolean) "takes" (rm (d + 1) mc ms) (QM mc ms K) pc)) : Le (qMo_takes_15 d mc ms B K) (G cMo_takes "VoyageCompanyModel" 2 (some .boolean) "takes" (rm (d + 1) mc ms) (QM mc ms K) 15) := by
  unfold qMo_takes_15
  exact (s_ald_n (j := 0) (by decide +kernel) rfl (s_geti (idx := 76) (by decide +kernel) fl12_76 (by decide) (s_ild_n (j := 1) (by decide +kernel) rfl (s_ic_eq (off := 5) (tgt := 25) (by decide +kernel) (by decide) (zMo_takes_25 hB) (zMo_takes_23 hB)))))
def qMo_takes_7 (d mc ms : Nat) (B : Nat → Pd) (K : Ps) : Pd := (i_ald 0 (i_geti 12 6 (i_ci 3 (i_ic_ne (qMo_takes_23 d mc ms B K) (qMo_takes_15 d mc ms B K)))))
theorem zMo_takes_7 {d mc ms : Nat} {B : Nat → Pd} {K : Ps} (hB : ∀ pc, Le (B pc) (G cMo_takes "VoyageCompanyModel" 2 (some .boolean) "takes" (rm (d + 1) mc ms) (QM mc ms K) pc)) : Le (qMo_takes_7 d mc ms B K) (G cMo_takes "VoyageCompanyModel" 2 (some .boolean) "takes" (rm (d + 1) mc ms) (QM mc ms K) 7) := by
  unfold qMo_takes_7
  exact (s_ald_n (j := 0) (by decide +kernel) rfl (s_geti (idx := 65) (by decide +kernel) fl12_65 (by decide) (s_iconst (n := 3) (v := 3) (by decide +kernel) (by decide +kernel) (s_ic_ne (off := 11) (tgt := 23) (by decide +kernel) (by decide) (zMo_takes_23 hB) (zMo_takes_15 hB)))))
def qMo_takes_0 (d mc ms : Nat) (B : Nat → Pd) (K : Ps) : Pd := (i_ald 0 (i_geti 12 10 (i_if_ne (qMo_takes_23 d mc ms B K) (qMo_takes_7 d mc ms B K))))
theorem zMo_takes_0 {d mc ms : Nat} {B : Nat → Pd} {K : Ps} (hB : ∀ pc, Le (B pc) (G cMo_takes "VoyageCompanyModel" 2 (some .boolean) "takes" (rm (d + 1) mc ms) (QM mc ms K) pc)) : Le (qMo_takes_0 d mc ms B K) (G cMo_takes "VoyageCompanyModel" 2 (some .boolean) "takes" (rm (d + 1) mc ms) (QM mc ms K) 0) := by
  unfold qMo_takes_0
  exact (s_ald_n (j := 0) (by decide +kernel) rfl (s_geti (idx := 91) (by decide +kernel) fl12_91 (by decide) (s_if_ne (off := 19) (tgt := 23) (by decide +kernel) (by decide) (zMo_takes_23 hB) (zMo_takes_7 hB))))
/-- VoyageCompanyModel.takes(I)Z, at its places -/
def gMo_takes (d mc ms : Nat) (K : Ps) : Nat → Pd := G cMo_takes "VoyageCompanyModel" 2 (some .boolean) "takes" (rm (d + 1) mc ms) (QM mc ms K)
theorem eMo_takes {d mc ms : Nat} {K : Ps} {av : List Value} {E : Nat → Prop} {R : Nat → Nat → Value} {I : Nat → Nat → Int32} {J : Nat → Nat → Int64} (hn : (lg_sl av).length ≤ 2) (h : qMo_takes_0 d mc ms (gMo_takes d mc ms K) K (lv_args 0 av) [] E R I J 0 0) : CL yMo_takes cMo_takes 2 (some .boolean) (d + 1) mc ms av E R I J K :=
  CL.of (by decide +kernel) hn (zMo_takes_0 (fun _ => Le.refl) _ _ _ _ _ _ _ _ h)
def qMo_must_34 (d mc ms : Nat) (B : Nat → Pd) (K : Ps) : Pd := (i_vret mc ms K)
theorem zMo_must_34 {d mc ms : Nat} {B : Nat → Pd} {K : Ps} (hB : ∀ pc, Le (B pc) (G cMo_must "VoyageCompanyModel" 2 none "must" (rm (d + 1) mc ms) (QM mc ms K) pc)) : Le (qMo_must_34 d mc ms B K) (G cMo_must "VoyageCompanyModel" 2 none "must" (rm (d + 1) mc ms) (QM mc ms K) 34) := by
  unfold qMo_must_34
  exact (s_vret (by decide +kernel) rfl)
def qMo_must_30 (d mc ms : Nat) (B : Nat → Pd) (K : Ps) : Pd := (i_ald 0 (i_call 0 12 yMo_stops cMo_stops 1 none mc ms d 1 (qMo_must_34 d mc ms B K)))
theorem zMo_must_30 {d mc ms : Nat} {B : Nat → Pd} {K : Ps} (hB : ∀ pc, Le (B pc) (G cMo_must "VoyageCompanyModel" 2 none "must" (rm (d + 1) mc ms) (QM mc ms K) pc)) : Le (qMo_must_30 d mc ms B K) (G cMo_must "VoyageCompanyModel" 2 none "must" (rm (d + 1) mc ms) (QM mc ms K) 30) := by
  unfold qMo_must_30
  exact (s_ald_n (j := 0) (by decide +kernel) rfl (s_call (idx := 98) (by decide +kernel) ml12_98 rmk (zMo_must_34 hB)))
def qMo_must_23 (d mc ms : Nat) (B : Nat → Pd) (K : Ps) : Pd := (i_ald 0 (i_call 0 12 yMo_advance cMo_advance 4 none mc ms d 1 (qMo_must_34 d mc ms B K)))
theorem zMo_must_23 {d mc ms : Nat} {B : Nat → Pd} {K : Ps} (hB : ∀ pc, Le (B pc) (G cMo_must "VoyageCompanyModel" 2 none "must" (rm (d + 1) mc ms) (QM mc ms K) pc)) : Le (qMo_must_23 d mc ms B K) (G cMo_must "VoyageCompanyModel" 2 none "must" (rm (d + 1) mc ms) (QM mc ms K) 23) := by
  unfold qMo_must_23
  exact (s_ald_n (j := 0) (by decide +kernel) rfl (s_call (idx := 95) (by decide +kernel) ml12_95 rmk (s_goto (off := 7) (tgt := 34) (by decide +kernel) (by decide) (zMo_must_34 hB))))
def qMo_must_15 (d mc ms : Nat) (B : Nat → Pd) (K : Ps) : Pd := (i_ald 0 (i_geti 12 8 (i_ild 1 (i_ic_ne (qMo_must_30 d mc ms B K) (qMo_must_23 d mc ms B K)))))
theorem zMo_must_15 {d mc ms : Nat} {B : Nat → Pd} {K : Ps} (hB : ∀ pc, Le (B pc) (G cMo_must "VoyageCompanyModel" 2 none "must" (rm (d + 1) mc ms) (QM mc ms K) pc)) : Le (qMo_must_15 d mc ms B K) (G cMo_must "VoyageCompanyModel" 2 none "must" (rm (d + 1) mc ms) (QM mc ms K) 15) := by
  unfold qMo_must_15
  exact (s_ald_n (j := 0) (by decide +kernel) rfl (s_geti (idx := 85) (by decide +kernel) fl12_85 (by decide) (s_ild_n (j := 1) (by decide +kernel) rfl (s_ic_ne (off := 10) (tgt := 30) (by decide +kernel) (by decide) (zMo_must_30 hB) (zMo_must_23 hB)))))
def qMo_must_7 (d mc ms : Nat) (B : Nat → Pd) (K : Ps) : Pd := (i_ald 0 (i_geti 12 6 (i_ci 2 (i_ic_ne (qMo_must_30 d mc ms B K) (qMo_must_15 d mc ms B K)))))
theorem zMo_must_7 {d mc ms : Nat} {B : Nat → Pd} {K : Ps} (hB : ∀ pc, Le (B pc) (G cMo_must "VoyageCompanyModel" 2 none "must" (rm (d + 1) mc ms) (QM mc ms K) pc)) : Le (qMo_must_7 d mc ms B K) (G cMo_must "VoyageCompanyModel" 2 none "must" (rm (d + 1) mc ms) (QM mc ms K) 7) := by
  unfold qMo_must_7
  exact (s_ald_n (j := 0) (by decide +kernel) rfl (s_geti (idx := 65) (by decide +kernel) fl12_65 (by decide) (s_iconst (n := 2) (v := 2) (by decide +kernel) (by decide +kernel) (s_ic_ne (off := 18) (tgt := 30) (by decide +kernel) (by decide) (zMo_must_30 hB) (zMo_must_15 hB)))))
def qMo_must_0 (d mc ms : Nat) (B : Nat → Pd) (K : Ps) : Pd := (i_ald 0 (i_geti 12 10 (i_if_ne (qMo_must_30 d mc ms B K) (qMo_must_7 d mc ms B K))))
theorem zMo_must_0 {d mc ms : Nat} {B : Nat → Pd} {K : Ps} (hB : ∀ pc, Le (B pc) (G cMo_must "VoyageCompanyModel" 2 none "must" (rm (d + 1) mc ms) (QM mc ms K) pc)) : Le (qMo_must_0 d mc ms B K) (G cMo_must "VoyageCompanyModel" 2 none "must" (rm (d + 1) mc ms) (QM mc ms K) 0) := by
  unfold qMo_must_0
  exact (s_ald_n (j := 0) (by decide +kernel) rfl (s_geti (idx := 91) (by decide +kernel) fl12_91 (by decide) (s_if_ne (off := 26) (tgt := 30) (by decide +kernel) (by decide) (zMo_must_30 hB) (zMo_must_7 hB))))
/-- VoyageCompanyModel.must(I)V, at its places -/
def gMo_must (d mc ms : Nat) (K : Ps) : Nat → Pd := G cMo_must "VoyageCompanyModel" 2 none "must" (rm (d + 1) mc ms) (QM mc ms K)
theorem eMo_must {d mc ms : Nat} {K : Ps} {av : List Value} {E : Nat → Prop} {R : Nat → Nat → Value} {I : Nat → Nat → Int32} {J : Nat → Nat → Int64} (hn : (lg_sl av).length ≤ 2) (h : qMo_must_0 d mc ms (gMo_must d mc ms K) K (lv_args 0 av) [] E R I J 0 0) : CL yMo_must cMo_must 2 none (d + 1) mc ms av E R I J K :=
  CL.of (by decide +kernel) hn (zMo_must_0 (fun _ => Le.refl) _ _ _ _ _ _ _ _ h)
def qMo_numbered_31 (d mc ms : Nat) (B : Nat → Pd) (K : Ps) : Pd := (i_ild 1 (i_iret mc ms K))
theorem zMo_numbered_31 {d mc ms : Nat} {B : Nat → Pd} {K : Ps} (hB : ∀ pc, Le (B pc) (G cMo_numbered "VoyageCompanyModel" 2 (some .int) "numbered" (rm (d + 1) mc ms) (QM mc ms K) pc)) : Le (qMo_numbered_31 d mc ms B K) (G cMo_numbered "VoyageCompanyModel" 2 (some .int) "numbered" (rm (d + 1) mc ms) (QM mc ms K) 31) := by
  unfold qMo_numbered_31
  exact (s_ild_n (j := 1) (by decide +kernel) rfl (s_iret (by decide +kernel) rfl))
def qMo_numbered_27 (d mc ms : Nat) (B : Nat → Pd) (K : Ps) : Pd := (i_ald 0 (i_call 0 12 yMo_stops cMo_stops 1 none mc ms d 1 (qMo_numbered_31 d mc ms B K)))
theorem zMo_numbered_27 {d mc ms : Nat} {B : Nat → Pd} {K : Ps} (hB : ∀ pc, Le (B pc) (G cMo_numbered "VoyageCompanyModel" 2 (some .int) "numbered" (rm (d + 1) mc ms) (QM mc ms K) pc)) : Le (qMo_numbered_27 d mc ms B K) (G cMo_numbered "VoyageCompanyModel" 2 (some .int) "numbered" (rm (d + 1) mc ms) (QM mc ms K) 27) := by
  unfold qMo_numbered_27
  exact (s_ald_n (j := 0) (by decide +kernel) rfl (s_call (idx := 98) (by decide +kernel) ml12_98 rmk (zMo_numbered_31 hB)))
def qMo_numbered_20 (d mc ms : Nat) (B : Nat → Pd) (K : Ps) : Pd := (i_ald 0 (i_call 0 12 yMo_advance cMo_advance 4 none mc ms d 1 (qMo_numbered_31 d mc ms B K)))
theorem zMo_numbered_20 {d mc ms : Nat} {B : Nat → Pd} {K : Ps} (hB : ∀ pc, Le (B pc) (G cMo_numbered "VoyageCompanyModel" 2 (some .int) "numbered" (rm (d + 1) mc ms) (QM mc ms K) pc)) : Le (qMo_numbered_20 d mc ms B K) (G cMo_numbered "VoyageCompanyModel" 2 (some .int) "numbered" (rm (d + 1) mc ms) (QM mc ms K) 20) := by
  unfold qMo_numbered_20
  exact (s_ald_n (j := 0) (by decide +kernel) rfl (s_call (idx := 95) (by decide +kernel) ml12_95 rmk (s_goto (off := 7) (tgt := 31) (by decide +kernel) (by decide) (zMo_numbered_31 hB))))
def qMo_numbered_12 (d mc ms : Nat) (B : Nat → Pd) (K : Ps) : Pd := (i_ald 0 (i_geti 12 6 (i_ci 1 (i_ic_ne (qMo_numbered_27 d mc ms B K) (qMo_numbered_20 d mc ms B K)))))
theorem zMo_numbered_12 {d mc ms : Nat} {B : Nat → Pd} {K : Ps} (hB : ∀ pc, Le (B pc) (G cMo_numbered "VoyageCompanyModel" 2 (some .int) "numbered" (rm (d + 1) mc ms) (QM mc ms K) pc)) : Le (qMo_numbered_12 d mc ms B K) (G cMo_numbered "VoyageCompanyModel" 2 (some .int) "numbered" (rm (d + 1) mc ms) (QM mc ms K) 12) := by
  unfold qMo_numbered_12
  exact (s_ald_n (j := 0) (by decide +kernel) rfl (s_geti (idx := 65) (by decide +kernel) fl12_65 (by decide) (s_iconst (n := 1) (v := 1) (by decide +kernel) (by decide +kernel) (s_ic_ne (off := 10) (tgt := 27) (by decide +kernel) (by decide) (zMo_numbered_27 hB) (zMo_numbered_20 hB)))))
def qMo_numbered_0 (d mc ms : Nat) (B : Nat → Pd) (K : Ps) : Pd := (i_ald 0 (i_geti 12 7 (i_ist 1 (i_ald 0 (i_geti 12 10 (i_if_ne (qMo_numbered_27 d mc ms B K) (qMo_numbered_12 d mc ms B K)))))))
theorem zMo_numbered_0 {d mc ms : Nat} {B : Nat → Pd} {K : Ps} (hB : ∀ pc, Le (B pc) (G cMo_numbered "VoyageCompanyModel" 2 (some .int) "numbered" (rm (d + 1) mc ms) (QM mc ms K) pc)) : Le (qMo_numbered_0 d mc ms B K) (G cMo_numbered "VoyageCompanyModel" 2 (some .int) "numbered" (rm (d + 1) mc ms) (QM mc ms K) 0) := by
  unfold qMo_numbered_0
  exact (s_ald_n (j := 0) (by decide +kernel) rfl (s_geti (idx := 82) (by decide +kernel) fl12_82 (by decide) (s_ist_n (j := 1) (by decide +kernel) rfl (by decide) (s_ald_n (j := 0) (by decide +kernel) rfl (s_geti (idx := 91) (by decide +kernel) fl12_91 (by decide) (s_if_ne (off := 18) (tgt := 27) (by decide +kernel) (by decide) (zMo_numbered_27 hB) (zMo_numbered_12 hB)))))))
/-- VoyageCompanyModel.numbered()I, at its places -/
def gMo_numbered (d mc ms : Nat) (K : Ps) : Nat → Pd := G cMo_numbered "VoyageCompanyModel" 2 (some .int) "numbered" (rm (d + 1) mc ms) (QM mc ms K)
theorem eMo_numbered {d mc ms : Nat} {K : Ps} {av : List Value} {E : Nat → Prop} {R : Nat → Nat → Value} {I : Nat → Nat → Int32} {J : Nat → Nat → Int64} (hn : (lg_sl av).length ≤ 2) (h : qMo_numbered_0 d mc ms (gMo_numbered d mc ms K) K (lv_args 0 av) [] E R I J 0 0) : CL yMo_numbered cMo_numbered 2 (some .int) (d + 1) mc ms av E R I J K :=
  CL.of (by decide +kernel) hn (zMo_numbered_0 (fun _ => Le.refl) _ _ _ _ _ _ _ _ h)
def qMo_aGood_48 (d mc ms : Nat) (B : Nat → Pd) (K : Ps) : Pd := (i_ild 1 (i_iret mc ms K))
theorem zMo_aGood_48 {d mc ms : Nat} {B : Nat → Pd} {K : Ps} (hB : ∀ pc, Le (B pc) (G cMo_aGood "VoyageCompanyModel" 2 (some .int) "aGood" (rm (d + 1) mc ms) (QM mc ms K) pc)) : Le (qMo_aGood_48 d mc ms B K) (G cMo_aGood "VoyageCompanyModel" 2 (some .int) "aGood" (rm (d + 1) mc ms) (QM mc ms K) 48) := by
  unfold qMo_aGood_48
  exact (s_ild_n (j := 1) (by decide +kernel) rfl (s_iret (by decide +kernel) rfl))
def qMo_aGood_44 (d mc ms : Nat) (B : Nat → Pd) (K : Ps) : Pd := (i_ald 0 (i_call 0 12 yMo_stops cMo_stops 1 none mc ms d 1 (qMo_aGood_48 d mc ms B K)))
theorem zMo_aGood_44 {d mc ms : Nat} {B : Nat → Pd} {K : Ps} (hB : ∀ pc, Le (B pc) (G cMo_aGood "VoyageCompanyModel" 2 (some .int) "aGood" (rm (d + 1) mc ms) (QM mc ms K) pc)) : Le (qMo_aGood_44 d mc ms B K) (G cMo_aGood "VoyageCompanyModel" 2 (some .int) "aGood" (rm (d + 1) mc ms) (QM mc ms K) 44) := by
  unfold qMo_aGood_44
  exact (s_ald_n (j := 0) (by decide +kernel) rfl (s_call (idx := 98) (by decide +kernel) ml12_98 rmk (zMo_aGood_48 hB)))
def qMo_aGood_37 (d mc ms : Nat) (B : Nat → Pd) (K : Ps) : Pd := (i_ald 0 (i_call 0 12 yMo_advance cMo_advance 4 none mc ms d 1 (qMo_aGood_48 d mc ms B K)))
theorem zMo_aGood_37 {d mc ms : Nat} {B : Nat → Pd} {K : Ps} (hB : ∀ pc, Le (B pc) (G cMo_aGood "VoyageCompanyModel" 2 (some .int) "aGood" (rm (d + 1) mc ms) (QM mc ms K) pc)) : Le (qMo_aGood_37 d mc ms B K) (G cMo_aGood "VoyageCompanyModel" 2 (some .int) "aGood" (rm (d + 1) mc ms) (QM mc ms K) 37) := by
  unfold qMo_aGood_37
  exact (s_ald_n (j := 0) (by decide +kernel) rfl (s_call (idx := 95) (by decide +kernel) ml12_95 rmk (s_goto (off := 7) (tgt := 48) (by decide +kernel) (by decide) (zMo_aGood_48 hB))))
def qMo_aGood_23 (d mc ms : Nat) (B : Nat → Pd) (K : Ps) : Pd := (i_ald 0 (i_geti 12 9 (i_ci 11 (i_ci 13 (i_call 2 12 yMo_isIn cMo_isIn 3 (some .boolean) mc ms d 3 (i_if_eq (qMo_aGood_44 d mc ms B K) (qMo_aGood_37 d mc ms B K)))))))
theorem zMo_aGood_23 {d mc ms : Nat} {B : Nat → Pd} {K : Ps} (hB : ∀ pc, Le (B pc) (G cMo_aGood "VoyageCompanyModel" 2 (some .int) "aGood" (rm (d + 1) mc ms) (QM mc ms K) pc)) : Le (qMo_aGood_23 d mc ms B K) (G cMo_aGood "VoyageCompanyModel" 2 (some .int) "aGood" (rm (d + 1) mc ms) (QM mc ms K) 23) := by
  unfold qMo_aGood_23
  exact (s_ald_n (j := 0) (by decide +kernel) rfl (s_geti (idx := 76) (by decide +kernel) fl12_76 (by decide) (s_bipush (n := 11) (v := 11) (by decide +kernel) (by decide +kernel) (s_bipush (n := 13) (v := 13) (by decide +kernel) (by decide +kernel) (s_call (idx := 25) (by decide +kernel) ml12_25 rmk (s_if_eq (off := 10) (tgt := 44) (by decide +kernel) (by decide) (zMo_aGood_44 hB) (zMo_aGood_37 hB)))))))
def qMo_aGood_15 (d mc ms : Nat) (B : Nat → Pd) (K : Ps) : Pd := (i_ald 0 (i_geti 12 6 (i_ci 3 (i_ic_ne (qMo_aGood_44 d mc ms B K) (qMo_aGood_23 d mc ms B K)))))
theorem zMo_aGood_15 {d mc ms : Nat} {B : Nat → Pd} {K : Ps} (hB : ∀ pc, Le (B pc) (G cMo_aGood "VoyageCompanyModel" 2 (some .int) "aGood" (rm (d + 1) mc ms) (QM mc ms K) pc)) : Le (qMo_aGood_15 d mc ms B K) (G cMo_aGood "VoyageCompanyModel" 2 (some .int) "aGood" (rm (d + 1) mc ms) (QM mc ms K) 15) := by
  unfold qMo_aGood_15
  exact (s_ald_n (j := 0) (by decide +kernel) rfl (s_geti (idx := 65) (by decide +kernel) fl12_65 (by decide) (s_iconst (n := 3) (v := 3) (by decide +kernel) (by decide +kernel) (s_ic_ne (off := 24) (tgt := 44) (by decide +kernel) (by decide) (zMo_aGood_44 hB) (zMo_aGood_23 hB)))))
def qMo_aGood_0 (d mc ms : Nat) (B : Nat → Pd) (K : Ps) : Pd := (i_ald 0 (i_geti 12 9 (i_ci 10 (i_isub (i_ist 1 (i_ald 0 (i_geti 12 10 (i_if_ne (qMo_aGood_44 d mc ms B K) (qMo_aGood_15 d mc ms B K)))))))))
theorem zMo_aGood_0 {d mc ms : Nat} {B : Nat → Pd} {K : Ps} (hB : ∀ pc, Le (B pc) (G cMo_aGood "VoyageCompanyModel" 2 (some .int) "aGood" (rm (d + 1) mc ms) (QM mc ms K) pc)) : Le (qMo_aGood_0 d mc ms B K) (G cMo_aGood "VoyageCompanyModel" 2 (some .int) "aGood" (rm (d + 1) mc ms) (QM mc ms K) 0) := by
  unfold qMo_aGood_0
  exact (s_ald_n (j := 0) (by decide +kernel) rfl (s_geti (idx := 76) (by decide +kernel) fl12_76 (by decide) (s_bipush (n := 10) (v := 10) (by decide +kernel) (by decide +kernel) (s_isub (by decide +kernel) (s_ist_n (j := 1) (by decide +kernel) rfl (by decide) (s_ald_n (j := 0) (by decide +kernel) rfl (s_geti (idx := 91) (by decide +kernel) fl12_91 (by decide) (s_if_ne (off := 32) (tgt := 44) (by decide +kernel) (by decide) (zMo_aGood_44 hB) (zMo_aGood_15 hB)))))))))
/-- VoyageCompanyModel.aGood()I, at its places -/
def gMo_aGood (d mc ms : Nat) (K : Ps) : Nat → Pd := G cMo_aGood "VoyageCompanyModel" 2 (some .int) "aGood" (rm (d + 1) mc ms) (QM mc ms K)
theorem eMo_aGood {d mc ms : Nat} {K : Ps} {av : List Value} {E : Nat → Prop} {R : Nat → Nat → Value} {I : Nat → Nat → Int32} {J : Nat → Nat → Int64} (hn : (lg_sl av).length ≤ 2) (h : qMo_aGood_0 d mc ms (gMo_aGood d mc ms K) K (lv_args 0 av) [] E R I J 0 0) : CL yMo_aGood cMo_aGood 2 (some .int) (d + 1) mc ms av E R I J K :=
  CL.of (by decide +kernel) hn (zMo_aGood_0 (fun _ => Le.refl) _ _ _ _ _ _ _ _ h)
def qMo_puts_24 (d mc ms : Nat) (B : Nat → Pd) (K : Ps) : Pd := (i_vret mc ms K)
theorem zMo_puts_24 {d mc ms : Nat} {B : Nat → Pd} {K : Ps} (hB : ∀ pc, Le (B pc) (G cMo_puts "VoyageCompanyModel" 3 none "puts" (rm (d + 1) mc ms) (QM mc ms K) pc)) : Le (qMo_puts_24 d mc ms B K) (G cMo_puts "VoyageCompanyModel" 3 none "puts" (rm (d + 1) mc ms) (QM mc ms K) 24) := by
  unfold qMo_puts_24
  exact (s_vret (by decide +kernel) rfl)
def qMo_puts_9 (d mc ms : Nat) (B : Nat → Pd) (K : Ps) : Pd := (i_ald 0 (i_getr 12 12 (i_ci 20 (i_ald 0 (i_geti 12 11 (i_imul (i_ild 1 (i_iadd (i_ild 2 (i_iast (qMo_puts_24 d mc ms B K)))))))))))
theorem zMo_puts_9 {d mc ms : Nat} {B : Nat → Pd} {K : Ps} (hB : ∀ pc, Le (B pc) (G cMo_puts "VoyageCompanyModel" 3 none "puts" (rm (d + 1) mc ms) (QM mc ms K) pc)) : Le (qMo_puts_9 d mc ms B K) (G cMo_puts "VoyageCompanyModel" 3 none "puts" (rm (d + 1) mc ms) (QM mc ms K) 9) := by
  unfold qMo_puts_9
  exact (s_ald_n (j := 0) (by decide +kernel) rfl (s_getr (idx := 22) (by decide +kernel) fl12_22 (by decide) (s_bipush (n := 20) (v := 20) (by decide +kernel) (by decide +kernel) (s_ald_n (j := 0) (by decide +kernel) rfl (s_geti (idx := 101) (by decide +kernel) fl12_101 (by decide) (s_imul (by decide +kernel) (s_ild_n (j := 1) (by decide +kernel) rfl (s_iadd (by decide +kernel) (s_ild_n (j := 2) (by decide +kernel) rfl (s_iast (by decide +kernel) (zMo_puts_24 hB)))))))))))
def qMo_puts_0 (d mc ms : Nat) (B : Nat → Pd) (K : Ps) : Pd := (i_ald 0 (i_geti 12 11 (i_ci 16 (i_ic_ge (qMo_puts_24 d mc ms B K) (qMo_puts_9 d mc ms B K)))))
theorem zMo_puts_0 {d mc ms : Nat} {B : Nat → Pd} {K : Ps} (hB : ∀ pc, Le (B pc) (G cMo_puts "VoyageCompanyModel" 3 none "puts" (rm (d + 1) mc ms) (QM mc ms K) pc)) : Le (qMo_puts_0 d mc ms B K) (G cMo_puts "VoyageCompanyModel" 3 none "puts" (rm (d + 1) mc ms) (QM mc ms K) 0) := by
  unfold qMo_puts_0
  exact (s_ald_n (j := 0) (by decide +kernel) rfl (s_geti (idx := 101) (by decide +kernel) fl12_101 (by decide) (s_bipush (n := 16) (v := 16) (by decide +kernel) (by decide +kernel) (s_ic_ge (off := 18) (tgt := 24) (by decide +kernel) (by decide) (zMo_puts_24 hB) (zMo_puts_9 hB)))))
/-- VoyageCompanyModel.puts(II)V, at its places -/
def gMo_puts (d mc ms : Nat) (K : Ps) : Nat → Pd := G cMo_puts "VoyageCompanyModel" 3 none "puts" (rm (d + 1) mc ms) (QM mc ms K)
theorem eMo_puts {d mc ms : Nat} {K : Ps} {av : List Value} {E : Nat → Prop} {R : Nat → Nat → Value} {I : Nat → Nat → Int32} {J : Nat → Nat → Int64} (hn : (lg_sl av).length ≤ 3) (h : qMo_puts_0 d mc ms (gMo_puts d mc ms K) K (lv_args 0 av) [] E R I J 0 0) : CL yMo_puts cMo_puts 3 none (d + 1) mc ms av E R I J K :=
  CL.of (by decide +kernel) hn (zMo_puts_0 (fun _ => Le.refl) _ _ _ _ _ _ _ _ h)
def qMo_test_138 (d mc ms : Nat) (B : Nat → Pd) (K : Ps) : Pd := (i_ald 0 (i_ci 1 (i_ci 3 (i_ild 1 (i_imul (i_iadd (i_ild 2 (i_call 0 12 yMo_puts cMo_puts 3 none mc ms d 3 (i_ald 0 (i_ci 2 (i_ci 3 (i_ild 1 (i_imul (i_iadd (i_ild 3 (i_call 0 12 yMo_puts cMo_puts 3 none mc ms d 3 (i_ald 0 (i_ci 3 (i_ci 3 (i_ild 1 (i_imul (i_iadd (i_ild 4 (i_call 0 12 yMo_puts cMo_puts 3 none mc ms d 3 (i_vret mc ms K)))))))))))))))))))))))))
theorem zMo_test_138 {d mc ms : Nat} {B : Nat → Pd} {K : Ps} (hB : ∀ pc, Le (B pc) (G cMo_test "VoyageCompanyModel" 5 none "test" (rm (d + 1) mc ms) (QM mc ms K) pc)) : Le (qMo_test_138 d mc ms B K) (G cMo_test "VoyageCompanyModel" 5 none "test" (rm (d + 1) mc ms) (QM mc ms K) 138) := by
  unfold qMo_test_138
  exact (s_ald_n (j := 0) (by decide +kernel) rfl (s_iconst (n := 1) (v := 1) (by decide +kernel) (by decide +kernel) (s_iconst (n := 3) (v := 3) (by decide +kernel) (by decide +kernel) (s_ild_n (j := 1) (by decide +kernel) rfl (s_imul (by decide +kernel) (s_iadd (by decide +kernel) (s_ild_n (j := 2) (by decide +kernel) rfl (s_call (idx := 115) (by decide +kernel) ml12_115 rmk (s_ald_n (j := 0) (by decide +kernel) rfl (s_iconst (n := 2) (v := 2) (by decide +kernel) (by decide +kernel) (s_iconst (n := 3) (v := 3) (by decide +kernel) (by decide +kernel) (s_ild_n (j := 1) (by decide +kernel) rfl (s_imul (by decide +kernel) (s_iadd (by decide +kernel) (s_ild_n (j := 3) (by decide +kernel) rfl (s_call (idx := 115) (by decide +kernel) ml12_115 rmk (s_ald_n (j := 0) (by decide +kernel) rfl (s_iconst (n := 3) (v := 3) (by decide +kernel) (by decide +kernel) (s_iconst (n := 3) (v := 3) (by decide +kernel) (by decide +kernel) (s_ild_n (j := 1) (by decide +kernel) rfl (s_imul (by decide +kernel) (s_iadd (by decide +kernel) (s_ild (by decide +kernel) (s_call (idx := 115) (by decide +kernel) ml12_115 rmk (s_vret (by decide +kernel) rfl)))))))))))))))))))))))))
def qMo_test_137 (d mc ms : Nat) (B : Nat → Pd) (K : Ps) : Pd := (i_vret mc ms K)
theorem zMo_test_137 {d mc ms : Nat} {B : Nat → Pd} {K : Ps} (hB : ∀ pc, Le (B pc) (G cMo_test "VoyageCompanyModel" 5 none "test" (rm (d + 1) mc ms) (QM mc ms K) pc)) : Le (qMo_test_137 d mc ms B K) (G cMo_test "VoyageCompanyModel" 5 none "test" (rm (d + 1) mc ms) (QM mc ms K) 137) := by
  unfold qMo_test_137
  exact (s_vret (by decide +kernel) rfl)
def qMo_test_122 (d mc ms : Nat) (B : Nat → Pd) (K : Ps) : Pd := (i_ald 0 (i_call 0 12 yMo_advance cMo_advance 4 none mc ms d 1 (i_ald 0 (i_call 0 12 yMo_numbered cMo_numbered 2 (some .int) mc ms d 1 (i_ist 4 (i_ild 1 (i_ci 3 (i_ic_le (qMo_test_138 d mc ms B K) (qMo_test_137 d mc ms B K)))))))))
theorem zMo_test_122 {d mc ms : Nat} {B : Nat → Pd} {K : Ps} (hB : ∀ pc, Le (B pc) (G cMo_test "VoyageCompanyModel" 5 none "test" (rm (d + 1) mc ms) (QM mc ms K) pc)) : Le (qMo_test_122 d mc ms B K) (G cMo_test "VoyageCompanyModel" 5 none "test" (rm (d + 1) mc ms) (QM mc ms K) 122) := by
  unfold qMo_test_122
  exact (s_ald_n (j := 0) (by decide +kernel) rfl (s_call (idx := 95) (by decide +kernel) ml12_95 rmk (s_ald_n (j := 0) (by decide +kernel) rfl (s_call (idx := 112) (by decide +kernel) ml12_112 rmk (s_ist (by decide +kernel) (by decide) (s_ild_n (j := 1) (by decide +kernel) rfl (s_iconst (n := 3) (v := 3) (by decide +kernel) (by decide +kernel) (s_ic_le (off := 4) (tgt := 138) (by decide +kernel) (by decide) (zMo_test_138 hB) (zMo_test_137 hB)))))))))
def qMo_test_117 (d mc ms : Nat) (B : Nat → Pd) (K : Ps) : Pd := (i_ald 0 (i_call 0 12 yMo_stops cMo_stops 1 none mc ms d 1 (i_vret mc ms K)))
theorem zMo_test_117 {d mc ms : Nat} {B : Nat → Pd} {K : Ps} (hB : ∀ pc, Le (B pc) (G cMo_test "VoyageCompanyModel" 5 none "test" (rm (d + 1) mc ms) (QM mc ms K) pc)) : Le (qMo_test_117 d mc ms B K) (G cMo_test "VoyageCompanyModel" 5 none "test" (rm (d + 1) mc ms) (QM mc ms K) 117) := by
  unfold qMo_test_117
  exact (s_ald_n (j := 0) (by decide +kernel) rfl (s_call (idx := 98) (by decide +kernel) ml12_98 rmk (s_vret (by decide +kernel) rfl)))
def qMo_test_111 (d mc ms : Nat) (B : Nat → Pd) (K : Ps) : Pd := (i_ild 3 (i_ci 59 (i_ic_ne (qMo_test_122 d mc ms B K) (qMo_test_117 d mc ms B K))))
theorem zMo_test_111 {d mc ms : Nat} {B : Nat → Pd} {K : Ps} (hB : ∀ pc, Le (B pc) (G cMo_test "VoyageCompanyModel" 5 none "test" (rm (d + 1) mc ms) (QM mc ms K) pc)) : Le (qMo_test_111 d mc ms B K) (G cMo_test "VoyageCompanyModel" 5 none "test" (rm (d + 1) mc ms) (QM mc ms K) 111) := by
  unfold qMo_test_111
  exact (s_ild_n (j := 3) (by decide +kernel) rfl (s_bipush (n := 59) (v := 59) (by decide +kernel) (by decide +kernel) (s_ic_ne (off := 8) (tgt := 122) (by decide +kernel) (by decide) (zMo_test_122 hB) (zMo_test_117 hB))))
def qMo_test_105 (d mc ms : Nat) (B : Nat → Pd) (K : Ps) : Pd := (i_ild 3 (i_ci 58 (i_ic_eq (qMo_test_117 d mc ms B K) (qMo_test_111 d mc ms B K))))
theorem zMo_test_105 {d mc ms : Nat} {B : Nat → Pd} {K : Ps} (hB : ∀ pc, Le (B pc) (G cMo_test "VoyageCompanyModel" 5 none "test" (rm (d + 1) mc ms) (QM mc ms K) pc)) : Le (qMo_test_105 d mc ms B K) (G cMo_test "VoyageCompanyModel" 5 none "test" (rm (d + 1) mc ms) (QM mc ms K) 105) := by
  unfold qMo_test_105
  exact (s_ild_n (j := 3) (by decide +kernel) rfl (s_bipush (n := 58) (v := 58) (by decide +kernel) (by decide +kernel) (s_ic_eq (off := 9) (tgt := 117) (by decide +kernel) (by decide) (zMo_test_117 hB) (zMo_test_111 hB))))
def qMo_test_97 (d mc ms : Nat) (B : Nat → Pd) (K : Ps) : Pd := (i_ald 0 (i_geti 12 6 (i_ci 2 (i_ic_ne (qMo_test_117 d mc ms B K) (qMo_test_105 d mc ms B K)))))
theorem zMo_test_97 {d mc ms : Nat} {B : Nat → Pd} {K : Ps} (hB : ∀ pc, Le (B pc) (G cMo_test "VoyageCompanyModel" 5 none "test" (rm (d + 1) mc ms) (QM mc ms K) pc)) : Le (qMo_test_97 d mc ms B K) (G cMo_test "VoyageCompanyModel" 5 none "test" (rm (d + 1) mc ms) (QM mc ms K) 97) := by
  unfold qMo_test_97
  exact (s_ald_n (j := 0) (by decide +kernel) rfl (s_geti (idx := 65) (by decide +kernel) fl12_65 (by decide) (s_iconst (n := 2) (v := 2) (by decide +kernel) (by decide +kernel) (s_ic_ne (off := 15) (tgt := 117) (by decide +kernel) (by decide) (zMo_test_117 hB) (zMo_test_105 hB)))))
def qMo_test_85 (d mc ms : Nat) (B : Nat → Pd) (K : Ps) : Pd := (i_ald 0 (i_geti 12 8 (i_ist 3 (i_ald 0 (i_geti 12 10 (i_if_ne (qMo_test_117 d mc ms B K) (qMo_test_97 d mc ms B K)))))))
theorem zMo_test_85 {d mc ms : Nat} {B : Nat → Pd} {K : Ps} (hB : ∀ pc, Le (B pc) (G cMo_test "VoyageCompanyModel" 5 none "test" (rm (d + 1) mc ms) (QM mc ms K) pc)) : Le (qMo_test_85 d mc ms B K) (G cMo_test "VoyageCompanyModel" 5 none "test" (rm (d + 1) mc ms) (QM mc ms K) 85) := by
  unfold qMo_test_85
  exact (s_ald_n (j := 0) (by decide +kernel) rfl (s_geti (idx := 85) (by decide +kernel) fl12_85 (by decide) (s_ist_n (j := 3) (by decide +kernel) rfl (by decide) (s_ald_n (j := 0) (by decide +kernel) rfl (s_geti (idx := 91) (by decide +kernel) fl12_91 (by decide) (s_if_ne (off := 23) (tgt := 117) (by decide +kernel) (by decide) (zMo_test_117 hB) (zMo_test_97 hB)))))))
def qMo_test_77 (d mc ms : Nat) (B : Nat → Pd) (K : Ps) : Pd := (i_ci 20 (i_ald 0 (i_call 0 12 yMo_aGood cMo_aGood 2 (some .int) mc ms d 1 (i_iadd (i_ist 2 (qMo_test_85 d mc ms B K))))))
theorem zMo_test_77 {d mc ms : Nat} {B : Nat → Pd} {K : Ps} (hB : ∀ pc, Le (B pc) (G cMo_test "VoyageCompanyModel" 5 none "test" (rm (d + 1) mc ms) (QM mc ms K) pc)) : Le (qMo_test_77 d mc ms B K) (G cMo_test "VoyageCompanyModel" 5 none "test" (rm (d + 1) mc ms) (QM mc ms K) 77) := by
  unfold qMo_test_77
  exact (s_bipush (n := 20) (v := 20) (by decide +kernel) (by decide +kernel) (s_ald_n (j := 0) (by decide +kernel) rfl (s_call (idx := 108) (by decide +kernel) ml12_108 rmk (s_iadd (by decide +kernel) (s_ist_n (j := 2) (by decide +kernel) rfl (by decide) (zMo_test_85 hB))))))
def qMo_test_67 (d mc ms : Nat) (B : Nat → Pd) (K : Ps) : Pd := (i_ald 0 (i_call 0 12 yMo_advance cMo_advance 4 none mc ms d 1 (i_ild 2 (i_ci 6 (i_ic_ne (qMo_test_85 d mc ms B K) (qMo_test_77 d mc ms B K))))))
theorem zMo_test_67 {d mc ms : Nat} {B : Nat → Pd} {K : Ps} (hB : ∀ pc, Le (B pc) (G cMo_test "VoyageCompanyModel" 5 none "test" (rm (d + 1) mc ms) (QM mc ms K) pc)) : Le (qMo_test_67 d mc ms B K) (G cMo_test "VoyageCompanyModel" 5 none "test" (rm (d + 1) mc ms) (QM mc ms K) 67) := by
  unfold qMo_test_67
  exact (s_ald_n (j := 0) (by decide +kernel) rfl (s_call (idx := 95) (by decide +kernel) ml12_95 rmk (s_ild_n (j := 2) (by decide +kernel) rfl (s_bipush (n := 6) (v := 6) (by decide +kernel) (by decide +kernel) (s_ic_ne (off := 11) (tgt := 85) (by decide +kernel) (by decide) (zMo_test_85 hB) (zMo_test_77 hB))))))
def qMo_test_62 (d mc ms : Nat) (B : Nat → Pd) (K : Ps) : Pd := (i_ald 0 (i_call 0 12 yMo_stops cMo_stops 1 none mc ms d 1 (i_vret mc ms K)))
theorem zMo_test_62 {d mc ms : Nat} {B : Nat → Pd} {K : Ps} (hB : ∀ pc, Le (B pc) (G cMo_test "VoyageCompanyModel" 5 none "test" (rm (d + 1) mc ms) (QM mc ms K) pc)) : Le (qMo_test_62 d mc ms B K) (G cMo_test "VoyageCompanyModel" 5 none "test" (rm (d + 1) mc ms) (QM mc ms K) 62) := by
  unfold qMo_test_62
  exact (s_ald_n (j := 0) (by decide +kernel) rfl (s_call (idx := 98) (by decide +kernel) ml12_98 rmk (s_vret (by decide +kernel) rfl)))
def qMo_test_48 (d mc ms : Nat) (B : Nat → Pd) (K : Ps) : Pd := (i_ald 0 (i_geti 12 9 (i_ci 11 (i_ci 13 (i_call 2 12 yMo_isIn cMo_isIn 3 (some .boolean) mc ms d 3 (i_if_ne (qMo_test_67 d mc ms B K) (qMo_test_62 d mc ms B K)))))))
theorem zMo_test_48 {d mc ms : Nat} {B : Nat → Pd} {K : Ps} (hB : ∀ pc, Le (B pc) (G cMo_test "VoyageCompanyModel" 5 none "test" (rm (d + 1) mc ms) (QM mc ms K) pc)) : Le (qMo_test_48 d mc ms B K) (G cMo_test "VoyageCompanyModel" 5 none "test" (rm (d + 1) mc ms) (QM mc ms K) 48) := by
  unfold qMo_test_48
  exact (s_ald_n (j := 0) (by decide +kernel) rfl (s_geti (idx := 76) (by decide +kernel) fl12_76 (by decide) (s_bipush (n := 11) (v := 11) (by decide +kernel) (by decide +kernel) (s_bipush (n := 13) (v := 13) (by decide +kernel) (by decide +kernel) (s_call (idx := 25) (by decide +kernel) ml12_25 rmk (s_if_ne (off := 8) (tgt := 67) (by decide +kernel) (by decide) (zMo_test_67 hB) (zMo_test_62 hB)))))))
def qMo_test_35 (d mc ms : Nat) (B : Nat → Pd) (K : Ps) : Pd := (i_ald 0 (i_geti 12 9 (i_ci 1 (i_ci 6 (i_call 2 12 yMo_isIn cMo_isIn 3 (some .boolean) mc ms d 3 (i_if_ne (qMo_test_67 d mc ms B K) (qMo_test_48 d mc ms B K)))))))
theorem zMo_test_35 {d mc ms : Nat} {B : Nat → Pd} {K : Ps} (hB : ∀ pc, Le (B pc) (G cMo_test "VoyageCompanyModel" 5 none "test" (rm (d + 1) mc ms) (QM mc ms K) pc)) : Le (qMo_test_35 d mc ms B K) (G cMo_test "VoyageCompanyModel" 5 none "test" (rm (d + 1) mc ms) (QM mc ms K) 35) := by
  unfold qMo_test_35
  exact (s_ald_n (j := 0) (by decide +kernel) rfl (s_geti (idx := 76) (by decide +kernel) fl12_76 (by decide) (s_iconst (n := 1) (v := 1) (by decide +kernel) (by decide +kernel) (s_bipush (n := 6) (v := 6) (by decide +kernel) (by decide +kernel) (s_call (idx := 25) (by decide +kernel) ml12_25 rmk (s_if_ne (off := 22) (tgt := 67) (by decide +kernel) (by decide) (zMo_test_67 hB) (zMo_test_48 hB)))))))
def qMo_test_22 (d mc ms : Nat) (B : Nat → Pd) (K : Ps) : Pd := (i_ald 0 (i_geti 12 9 (i_ist 2 (i_ald 0 (i_geti 12 6 (i_ci 3 (i_ic_ne (qMo_test_62 d mc ms B K) (qMo_test_35 d mc ms B K))))))))
theorem zMo_test_22 {d mc ms : Nat} {B : Nat → Pd} {K : Ps} (hB : ∀ pc, Le (B pc) (G cMo_test "VoyageCompanyModel" 5 none "test" (rm (d + 1) mc ms) (QM mc ms K) pc)) : Le (qMo_test_22 d mc ms B K) (G cMo_test "VoyageCompanyModel" 5 none "test" (rm (d + 1) mc ms) (QM mc ms K) 22) := by
  unfold qMo_test_22
  exact (s_ald_n (j := 0) (by decide +kernel) rfl (s_geti (idx := 76) (by decide +kernel) fl12_76 (by decide) (s_ist_n (j := 2) (by decide +kernel) rfl (by decide) (s_ald_n (j := 0) (by decide +kernel) rfl (s_geti (idx := 65) (by decide +kernel) fl12_65 (by decide) (s_iconst (n := 3) (v := 3) (by decide +kernel) (by decide +kernel) (s_ic_ne (off := 30) (tgt := 62) (by decide +kernel) (by decide) (zMo_test_62 hB) (zMo_test_35 hB))))))))
def qMo_test_21 (d mc ms : Nat) (B : Nat → Pd) (K : Ps) : Pd := (i_vret mc ms K)
theorem zMo_test_21 {d mc ms : Nat} {B : Nat → Pd} {K : Ps} (hB : ∀ pc, Le (B pc) (G cMo_test "VoyageCompanyModel" 5 none "test" (rm (d + 1) mc ms) (QM mc ms K) pc)) : Le (qMo_test_21 d mc ms B K) (G cMo_test "VoyageCompanyModel" 5 none "test" (rm (d + 1) mc ms) (QM mc ms K) 21) := by
  unfold qMo_test_21
  exact (s_vret (by decide +kernel) rfl)
def qMo_test_14 (d mc ms : Nat) (B : Nat → Pd) (K : Ps) : Pd := (i_ald 0 (i_geti 12 10 (i_if_eq (qMo_test_22 d mc ms B K) (qMo_test_21 d mc ms B K))))
theorem zMo_test_14 {d mc ms : Nat} {B : Nat → Pd} {K : Ps} (hB : ∀ pc, Le (B pc) (G cMo_test "VoyageCompanyModel" 5 none "test" (rm (d + 1) mc ms) (QM mc ms K) pc)) : Le (qMo_test_14 d mc ms B K) (G cMo_test "VoyageCompanyModel" 5 none "test" (rm (d + 1) mc ms) (QM mc ms K) 14) := by
  unfold qMo_test_14
  exact (s_ald_n (j := 0) (by decide +kernel) rfl (s_geti (idx := 91) (by decide +kernel) fl12_91 (by decide) (s_if_eq (off := 4) (tgt := 22) (by decide +kernel) (by decide) (zMo_test_22 hB) (zMo_test_21 hB))))
def qMo_test_5 (d mc ms : Nat) (B : Nat → Pd) (K : Ps) : Pd := (i_ald 0 (i_ci 3 (i_ald 0 (i_geti 12 5 (i_call 0 12 yMo_tells cMo_tells 3 none mc ms d 3 (qMo_test_14 d mc ms B K))))))
theorem zMo_test_5 {d mc ms : Nat} {B : Nat → Pd} {K : Ps} (hB : ∀ pc, Le (B pc) (G cMo_test "VoyageCompanyModel" 5 none "test" (rm (d + 1) mc ms) (QM mc ms K) pc)) : Le (qMo_test_5 d mc ms B K) (G cMo_test "VoyageCompanyModel" 5 none "test" (rm (d + 1) mc ms) (QM mc ms K) 5) := by
  unfold qMo_test_5
  exact (s_ald_n (j := 0) (by decide +kernel) rfl (s_iconst (n := 3) (v := 3) (by decide +kernel) (by decide +kernel) (s_ald_n (j := 0) (by decide +kernel) rfl (s_geti (idx := 62) (by decide +kernel) fl12_62 (by decide) (s_call (idx := 104) (by decide +kernel) ml12_104 rmk (zMo_test_14 hB))))))
def qMo_test_0 (d mc ms : Nat) (B : Nat → Pd) (K : Ps) : Pd := (i_ild 1 (i_ci 3 (i_ic_le (qMo_test_14 d mc ms B K) (qMo_test_5 d mc ms B K))))
theorem zMo_test_0 {d mc ms : Nat} {B : Nat → Pd} {K : Ps} (hB : ∀ pc, Le (B pc) (G cMo_test "VoyageCompanyModel" 5 none "test" (rm (d + 1) mc ms) (QM mc ms K) pc)) : Le (qMo_test_0 d mc ms B K) (G cMo_test "VoyageCompanyModel" 5 none "test" (rm (d + 1) mc ms) (QM mc ms K) 0) := by
  unfold qMo_test_0
  exact (s_ild_n (j := 1) (by decide +kernel) rfl (s_iconst (n := 3) (v := 3) (by decide +kernel) (by decide +kernel) (s_ic_le (off := 12) (tgt := 14) (by decide +kernel) (by decide) (zMo_test_14 hB) (zMo_test_5 hB))))
/-- VoyageCompanyModel.test(I)V, at its places -/
def gMo_test (d mc ms : Nat) (K : Ps) : Nat → Pd := G cMo_test "VoyageCompanyModel" 5 none "test" (rm (d + 1) mc ms) (QM mc ms K)
theorem eMo_test {d mc ms : Nat} {K : Ps} {av : List Value} {E : Nat → Prop} {R : Nat → Nat → Value} {I : Nat → Nat → Int32} {J : Nat → Nat → Int64} (hn : (lg_sl av).length ≤ 5) (h : qMo_test_0 d mc ms (gMo_test d mc ms K) K (lv_args 0 av) [] E R I J 0 0) : CL yMo_test cMo_test 5 none (d + 1) mc ms av E R I J K :=
  CL.of (by decide +kernel) hn (zMo_test_0 (fun _ => Le.refl) _ _ _ _ _ _ _ _ h)
def qMo_aLine_164 (d mc ms : Nat) (B : Nat → Pd) (K : Ps) : Pd := (i_ald 0 (i_ci 59 (i_call 0 12 yMo_must cMo_must 2 none mc ms d 2 (i_ald 0 (i_ci 0 (i_ild 1 (i_call 0 12 yMo_puts cMo_puts 3 none mc ms d 3 (i_ald 0 (i_ci 17 (i_ild 2 (i_call 0 12 yMo_puts cMo_puts 3 none mc ms d 3 (i_ald 0 (i_ci 18 (i_ild 3 (i_call 0 12 yMo_puts cMo_puts 3 none mc ms d 3 (i_ald 0 (i_ci 19 (i_ild 4 (i_call 0 12 yMo_puts cMo_puts 3 none mc ms d 3 (i_ald 0 (i_dup (i_geti 12 11 (i_ci 1 (i_iadd (i_puti 12 11 (i_vret mc ms K))))))))))))))))))))))))))
theorem zMo_aLine_164 {d mc ms : Nat} {B : Nat → Pd} {K : Ps} (hB : ∀ pc, Le (B pc) (G cMo_aLine "VoyageCompanyModel" 6 none "aLine" (rm (d + 1) mc ms) (QM mc ms K) pc)) : Le (qMo_aLine_164 d mc ms B K) (G cMo_aLine "VoyageCompanyModel" 6 none "aLine" (rm (d + 1) mc ms) (QM mc ms K) 164) := by
  unfold qMo_aLine_164
  exact (s_ald_n (j := 0) (by decide +kernel) rfl (s_bipush (n := 59) (v := 59) (by decide +kernel) (by decide +kernel) (s_call (idx := 125) (by decide +kernel) ml12_125 rmk (s_ald_n (j := 0) (by decide +kernel) rfl (s_iconst (n := 0) (v := 0) (by decide +kernel) (by decide +kernel) (s_ild_n (j := 1) (by decide +kernel) rfl (s_call (idx := 115) (by decide +kernel) ml12_115 rmk (s_ald_n (j := 0) (by decide +kernel) rfl (s_bipush (n := 17) (v := 17) (by decide +kernel) (by decide +kernel) (s_ild_n (j := 2) (by decide +kernel) rfl (s_call (idx := 115) (by decide +kernel) ml12_115 rmk (s_ald_n (j := 0) (by decide +kernel) rfl (s_bipush (n := 18) (v := 18) (by decide +kernel) (by decide +kernel) (s_ild_n (j := 3) (by decide +kernel) rfl (s_call (idx := 115) (by decide +kernel) ml12_115 rmk (s_ald_n (j := 0) (by decide +kernel) rfl (s_bipush (n := 19) (v := 19) (by decide +kernel) (by decide +kernel) (s_ild (by decide +kernel) (s_call (idx := 115) (by decide +kernel) ml12_115 rmk (s_ald_n (j := 0) (by decide +kernel) rfl (s_dup (by decide +kernel) (s_geti (idx := 101) (by decide +kernel) fl12_101 (by decide) (s_iconst (n := 1) (v := 1) (by decide +kernel) (by decide +kernel) (s_iadd (by decide +kernel) (s_puti (idx := 101) (by decide +kernel) fl12_101 (by decide) (by decide) (Or.inl (by decide +kernel)) (s_vret (by decide +kernel) rfl))))))))))))))))))))))))))
def qMo_aLine_157 (d mc ms : Nat) (B : Nat → Pd) (K : Ps) : Pd := (i_ald 0 (i_ci 2 (i_ild 5 (i_call 0 12 yMo_tells cMo_tells 3 none mc ms d 3 (qMo_aLine_164 d mc ms B K)))))
theorem zMo_aLine_157 {d mc ms : Nat} {B : Nat → Pd} {K : Ps} (hB : ∀ pc, Le (B pc) (G cMo_aLine "VoyageCompanyModel" 6 none "aLine" (rm (d + 1) mc ms) (QM mc ms K) pc)) : Le (qMo_aLine_157 d mc ms B K) (G cMo_aLine "VoyageCompanyModel" 6 none "aLine" (rm (d + 1) mc ms) (QM mc ms K) 157) := by
  unfold qMo_aLine_157
  exact (s_ald_n (j := 0) (by decide +kernel) rfl (s_iconst (n := 2) (v := 2) (by decide +kernel) (by decide +kernel) (s_ild (by decide +kernel) (s_call (idx := 104) (by decide +kernel) ml12_104 rmk (zMo_aLine_164 hB)))))
def qMo_aLine_151 (d mc ms : Nat) (B : Nat → Pd) (K : Ps) : Pd := (i_ild 4 (i_ci 4 (i_ic_le (qMo_aLine_164 d mc ms B K) (qMo_aLine_157 d mc ms B K))))
theorem zMo_aLine_151 {d mc ms : Nat} {B : Nat → Pd} {K : Ps} (hB : ∀ pc, Le (B pc) (G cMo_aLine "VoyageCompanyModel" 6 none "aLine" (rm (d + 1) mc ms) (QM mc ms K) pc)) : Le (qMo_aLine_151 d mc ms B K) (G cMo_aLine "VoyageCompanyModel" 6 none "aLine" (rm (d + 1) mc ms) (QM mc ms K) 151) := by
  unfold qMo_aLine_151
  exact (s_ild (by decide +kernel) (s_iconst (n := 4) (v := 4) (by decide +kernel) (by decide +kernel) (s_ic_le (off := 10) (tgt := 164) (by decide +kernel) (by decide) (zMo_aLine_164 hB) (zMo_aLine_157 hB))))
def qMo_aLine_133 (d mc ms : Nat) (B : Nat → Pd) (K : Ps) : Pd := (i_ald 0 (i_geti 12 5 (i_ist 5 (i_ald 0 (i_call 0 12 yMo_numbered cMo_numbered 2 (some .int) mc ms d 1 (i_ist 4 (i_ild 2 (i_ci 25 (i_ic_ne (qMo_aLine_164 d mc ms B K) (qMo_aLine_151 d mc ms B K))))))))))
theorem zMo_aLine_133 {d mc ms : Nat} {B : Nat → Pd} {K : Ps} (hB : ∀ pc, Le (B pc) (G cMo_aLine "VoyageCompanyModel" 6 none "aLine" (rm (d + 1) mc ms) (QM mc ms K) pc)) : Le (qMo_aLine_133 d mc ms B K) (G cMo_aLine "VoyageCompanyModel" 6 none "aLine" (rm (d + 1) mc ms) (QM mc ms K) 133) := by
  unfold qMo_aLine_133
  exact (s_ald_n (j := 0) (by decide +kernel) rfl (s_geti (idx := 62) (by decide +kernel) fl12_62 (by decide) (s_ist (by decide +kernel) (by decide) (s_ald_n (j := 0) (by decide +kernel) rfl (s_call (idx := 112) (by decide +kernel) ml12_112 rmk (s_ist (by decide +kernel) (by decide) (s_ild_n (j := 2) (by decide +kernel) rfl (s_bipush (n := 25) (v := 25) (by decide +kernel) (by decide +kernel) (s_ic_ne (off := 16) (tgt := 164) (by decide +kernel) (by decide) (zMo_aLine_164 hB) (zMo_aLine_151 hB))))))))))
def qMo_aLine_127 (d mc ms : Nat) (B : Nat → Pd) (K : Ps) : Pd := (i_ild 2 (i_ci 25 (i_ic_ne (qMo_aLine_164 d mc ms B K) (qMo_aLine_133 d mc ms B K))))
theorem zMo_aLine_127 {d mc ms : Nat} {B : Nat → Pd} {K : Ps} (hB : ∀ pc, Le (B pc) (G cMo_aLine "VoyageCompanyModel" 6 none "aLine" (rm (d + 1) mc ms) (QM mc ms K) pc)) : Le (qMo_aLine_127 d mc ms B K) (G cMo_aLine "VoyageCompanyModel" 6 none "aLine" (rm (d + 1) mc ms) (QM mc ms K) 127) := by
  unfold qMo_aLine_127
  exact (s_ild_n (j := 2) (by decide +kernel) rfl (s_bipush (n := 25) (v := 25) (by decide +kernel) (by decide +kernel) (s_ic_ne (off := 34) (tgt := 164) (by decide +kernel) (by decide) (zMo_aLine_164 hB) (zMo_aLine_133 hB))))
def qMo_aLine_121 (d mc ms : Nat) (B : Nat → Pd) (K : Ps) : Pd := (i_ild 2 (i_ci 23 (i_ic_le (qMo_aLine_133 d mc ms B K) (qMo_aLine_127 d mc ms B K))))
theorem zMo_aLine_121 {d mc ms : Nat} {B : Nat → Pd} {K : Ps} (hB : ∀ pc, Le (B pc) (G cMo_aLine "VoyageCompanyModel" 6 none "aLine" (rm (d + 1) mc ms) (QM mc ms K) pc)) : Le (qMo_aLine_121 d mc ms B K) (G cMo_aLine "VoyageCompanyModel" 6 none "aLine" (rm (d + 1) mc ms) (QM mc ms K) 121) := by
  unfold qMo_aLine_121
  exact (s_ild_n (j := 2) (by decide +kernel) rfl (s_bipush (n := 23) (v := 23) (by decide +kernel) (by decide +kernel) (s_ic_le (off := 9) (tgt := 133) (by decide +kernel) (by decide) (zMo_aLine_133 hB) (zMo_aLine_127 hB))))
def qMo_aLine_116 (d mc ms : Nat) (B : Nat → Pd) (K : Ps) : Pd := (i_ald 0 (i_call 0 12 yMo_aGood cMo_aGood 2 (some .int) mc ms d 1 (i_ist 3 (qMo_aLine_121 d mc ms B K))))
theorem zMo_aLine_116 {d mc ms : Nat} {B : Nat → Pd} {K : Ps} (hB : ∀ pc, Le (B pc) (G cMo_aLine "VoyageCompanyModel" 6 none "aLine" (rm (d + 1) mc ms) (QM mc ms K) pc)) : Le (qMo_aLine_116 d mc ms B K) (G cMo_aLine "VoyageCompanyModel" 6 none "aLine" (rm (d + 1) mc ms) (QM mc ms K) 116) := by
  unfold qMo_aLine_116
  exact (s_ald_n (j := 0) (by decide +kernel) rfl (s_call (idx := 108) (by decide +kernel) ml12_108 rmk (s_ist_n (j := 3) (by decide +kernel) rfl (by decide) (zMo_aLine_121 hB))))
def qMo_aLine_96 (d mc ms : Nat) (B : Nat → Pd) (K : Ps) : Pd := (i_ald 0 (i_geti 12 9 (i_ist 2 (i_ci 0 (i_ist 3 (i_ci 0 (i_ist 4 (i_ald 0 (i_call 0 12 yMo_advance cMo_advance 4 none mc ms d 1 (i_ild 2 (i_ci 22 (i_ic_gt (qMo_aLine_121 d mc ms B K) (qMo_aLine_116 d mc ms B K)))))))))))))
theorem zMo_aLine_96 {d mc ms : Nat} {B : Nat → Pd} {K : Ps} (hB : ∀ pc, Le (B pc) (G cMo_aLine "VoyageCompanyModel" 6 none "aLine" (rm (d + 1) mc ms) (QM mc ms K) pc)) : Le (qMo_aLine_96 d mc ms B K) (G cMo_aLine "VoyageCompanyModel" 6 none "aLine" (rm (d + 1) mc ms) (QM mc ms K) 96) := by
  unfold qMo_aLine_96
  exact (s_ald_n (j := 0) (by decide +kernel) rfl (s_geti (idx := 76) (by decide +kernel) fl12_76 (by decide) (s_ist_n (j := 2) (by decide +kernel) rfl (by decide) (s_iconst (n := 0) (v := 0) (by decide +kernel) (by decide +kernel) (s_ist_n (j := 3) (by decide +kernel) rfl (by decide) (s_iconst (n := 0) (v := 0) (by decide +kernel) (by decide +kernel) (s_ist (by decide +kernel) (by decide) (s_ald_n (j := 0) (by decide +kernel) rfl (s_call (idx := 95) (by decide +kernel) ml12_95 rmk (s_ild_n (j := 2) (by decide +kernel) rfl (s_bipush (n := 22) (v := 22) (by decide +kernel) (by decide +kernel) (s_ic_gt (off := 8) (tgt := 121) (by decide +kernel) (by decide) (zMo_aLine_121 hB) (zMo_aLine_116 hB)))))))))))))
def qMo_aLine_91 (d mc ms : Nat) (B : Nat → Pd) (K : Ps) : Pd := (i_ald 0 (i_call 0 12 yMo_stops cMo_stops 1 none mc ms d 1 (i_vret mc ms K)))
theorem zMo_aLine_91 {d mc ms : Nat} {B : Nat → Pd} {K : Ps} (hB : ∀ pc, Le (B pc) (G cMo_aLine "VoyageCompanyModel" 6 none "aLine" (rm (d + 1) mc ms) (QM mc ms K) pc)) : Le (qMo_aLine_91 d mc ms B K) (G cMo_aLine "VoyageCompanyModel" 6 none "aLine" (rm (d + 1) mc ms) (QM mc ms K) 91) := by
  unfold qMo_aLine_91
  exact (s_ald_n (j := 0) (by decide +kernel) rfl (s_call (idx := 98) (by decide +kernel) ml12_98 rmk (s_vret (by decide +kernel) rfl)))
def qMo_aLine_77 (d mc ms : Nat) (B : Nat → Pd) (K : Ps) : Pd := (i_ald 0 (i_geti 12 9 (i_ci 20 (i_ci 26 (i_call 2 12 yMo_isIn cMo_isIn 3 (some .boolean) mc ms d 3 (i_if_ne (qMo_aLine_96 d mc ms B K) (qMo_aLine_91 d mc ms B K)))))))
theorem zMo_aLine_77 {d mc ms : Nat} {B : Nat → Pd} {K : Ps} (hB : ∀ pc, Le (B pc) (G cMo_aLine "VoyageCompanyModel" 6 none "aLine" (rm (d + 1) mc ms) (QM mc ms K) pc)) : Le (qMo_aLine_77 d mc ms B K) (G cMo_aLine "VoyageCompanyModel" 6 none "aLine" (rm (d + 1) mc ms) (QM mc ms K) 77) := by
  unfold qMo_aLine_77
  exact (s_ald_n (j := 0) (by decide +kernel) rfl (s_geti (idx := 76) (by decide +kernel) fl12_76 (by decide) (s_bipush (n := 20) (v := 20) (by decide +kernel) (by decide +kernel) (s_bipush (n := 26) (v := 26) (by decide +kernel) (by decide +kernel) (s_call (idx := 25) (by decide +kernel) ml12_25 rmk (s_if_ne (off := 8) (tgt := 96) (by decide +kernel) (by decide) (zMo_aLine_96 hB) (zMo_aLine_91 hB)))))))
def qMo_aLine_69 (d mc ms : Nat) (B : Nat → Pd) (K : Ps) : Pd := (i_ald 0 (i_geti 12 6 (i_ci 3 (i_ic_ne (qMo_aLine_91 d mc ms B K) (qMo_aLine_77 d mc ms B K)))))
theorem zMo_aLine_69 {d mc ms : Nat} {B : Nat → Pd} {K : Ps} (hB : ∀ pc, Le (B pc) (G cMo_aLine "VoyageCompanyModel" 6 none "aLine" (rm (d + 1) mc ms) (QM mc ms K) pc)) : Le (qMo_aLine_69 d mc ms B K) (G cMo_aLine "VoyageCompanyModel" 6 none "aLine" (rm (d + 1) mc ms) (QM mc ms K) 69) := by
  unfold qMo_aLine_69
  exact (s_ald_n (j := 0) (by decide +kernel) rfl (s_geti (idx := 65) (by decide +kernel) fl12_65 (by decide) (s_iconst (n := 3) (v := 3) (by decide +kernel) (by decide +kernel) (s_ic_ne (off := 17) (tgt := 91) (by decide +kernel) (by decide) (zMo_aLine_91 hB) (zMo_aLine_77 hB)))))
def qMo_aLine_62 (d mc ms : Nat) (B : Nat → Pd) (K : Ps) : Pd := (i_ald 0 (i_geti 12 10 (i_if_ne (qMo_aLine_91 d mc ms B K) (qMo_aLine_69 d mc ms B K))))
theorem zMo_aLine_62 {d mc ms : Nat} {B : Nat → Pd} {K : Ps} (hB : ∀ pc, Le (B pc) (G cMo_aLine "VoyageCompanyModel" 6 none "aLine" (rm (d + 1) mc ms) (QM mc ms K) pc)) : Le (qMo_aLine_62 d mc ms B K) (G cMo_aLine "VoyageCompanyModel" 6 none "aLine" (rm (d + 1) mc ms) (QM mc ms K) 62) := by
  unfold qMo_aLine_62
  exact (s_ald_n (j := 0) (by decide +kernel) rfl (s_geti (idx := 91) (by decide +kernel) fl12_91 (by decide) (s_if_ne (off := 25) (tgt := 91) (by decide +kernel) (by decide) (zMo_aLine_91 hB) (zMo_aLine_69 hB))))
def qMo_aLine_56 (d mc ms : Nat) (B : Nat → Pd) (K : Ps) : Pd := (i_ald 0 (i_ci 58 (i_call 0 12 yMo_must cMo_must 2 none mc ms d 2 (qMo_aLine_62 d mc ms B K))))
theorem zMo_aLine_56 {d mc ms : Nat} {B : Nat → Pd} {K : Ps} (hB : ∀ pc, Le (B pc) (G cMo_aLine "VoyageCompanyModel" 6 none "aLine" (rm (d + 1) mc ms) (QM mc ms K) pc)) : Le (qMo_aLine_56 d mc ms B K) (G cMo_aLine "VoyageCompanyModel" 6 none "aLine" (rm (d + 1) mc ms) (QM mc ms K) 56) := by
  unfold qMo_aLine_56
  exact (s_ald_n (j := 0) (by decide +kernel) rfl (s_bipush (n := 58) (v := 58) (by decide +kernel) (by decide +kernel) (s_call (idx := 125) (by decide +kernel) ml12_125 rmk (zMo_aLine_62 hB))))
def qMo_aLine_45 (d mc ms : Nat) (B : Nat → Pd) (K : Ps) : Pd := (i_ald 0 (i_ild 1 (i_call 0 12 yMo_test cMo_test 5 none mc ms d 2 (i_inc 1 1 (B 36)))))
theorem zMo_aLine_45 {d mc ms : Nat} {B : Nat → Pd} {K : Ps} (hB : ∀ pc, Le (B pc) (G cMo_aLine "VoyageCompanyModel" 6 none "aLine" (rm (d + 1) mc ms) (QM mc ms K) pc)) : Le (qMo_aLine_45 d mc ms B K) (G cMo_aLine "VoyageCompanyModel" 6 none "aLine" (rm (d + 1) mc ms) (QM mc ms K) 45) := by
  unfold qMo_aLine_45
  exact (s_ald_n (j := 0) (by decide +kernel) rfl (s_ild_n (j := 1) (by decide +kernel) rfl (s_call (idx := 121) (by decide +kernel) ml12_121 rmk (s_inc (z := 1) (by decide +kernel) (by decide +kernel) (by decide) (s_goto (off := (-17)) (tgt := 36) (by decide +kernel) (by decide) (hB 36))))))
def qMo_aLine_36 (d mc ms : Nat) (B : Nat → Pd) (K : Ps) : Pd := (i_ald 0 (i_ci 31 (i_call 0 12 yMo_takes cMo_takes 2 (some .boolean) mc ms d 2 (i_if_eq (qMo_aLine_56 d mc ms B K) (qMo_aLine_45 d mc ms B K)))))
theorem zMo_aLine_36 {d mc ms : Nat} {B : Nat → Pd} {K : Ps} (hB : ∀ pc, Le (B pc) (G cMo_aLine "VoyageCompanyModel" 6 none "aLine" (rm (d + 1) mc ms) (QM mc ms K) pc)) : Le (qMo_aLine_36 d mc ms B K) (G cMo_aLine "VoyageCompanyModel" 6 none "aLine" (rm (d + 1) mc ms) (QM mc ms K) 36) := by
  unfold qMo_aLine_36
  exact (s_ald_n (j := 0) (by decide +kernel) rfl (s_bipush (n := 31) (v := 31) (by decide +kernel) (by decide +kernel) (s_call (idx := 118) (by decide +kernel) ml12_118 rmk (s_if_eq (off := 14) (tgt := 56) (by decide +kernel) (by decide) (zMo_aLine_56 hB) (zMo_aLine_45 hB)))))
def qMo_aLine_29 (d mc ms : Nat) (B : Nat → Pd) (K : Ps) : Pd := (i_ald 0 (i_ci 0 (i_call 0 12 yMo_test cMo_test 5 none mc ms d 2 (i_ci 1 (i_ist 1 (B 36))))))
theorem zMo_aLine_29 {d mc ms : Nat} {B : Nat → Pd} {K : Ps} (hB : ∀ pc, Le (B pc) (G cMo_aLine "VoyageCompanyModel" 6 none "aLine" (rm (d + 1) mc ms) (QM mc ms K) pc)) : Le (qMo_aLine_29 d mc ms B K) (G cMo_aLine "VoyageCompanyModel" 6 none "aLine" (rm (d + 1) mc ms) (QM mc ms K) 29) := by
  unfold qMo_aLine_29
  exact (s_ald_n (j := 0) (by decide +kernel) rfl (s_iconst (n := 0) (v := 0) (by decide +kernel) (by decide +kernel) (s_call (idx := 121) (by decide +kernel) ml12_121 rmk (s_iconst (n := 1) (v := 1) (by decide +kernel) (by decide +kernel) (s_ist_n (j := 1) (by decide +kernel) rfl (by decide) (hB 36))))))
def qMo_aLine_18 (d mc ms : Nat) (B : Nat → Pd) (K : Ps) : Pd := (i_ci 0 (i_ist 1 (i_ald 0 (i_ci 30 (i_call 0 12 yMo_takes cMo_takes 2 (some .boolean) mc ms d 2 (i_if_eq (qMo_aLine_62 d mc ms B K) (qMo_aLine_29 d mc ms B K)))))))
theorem zMo_aLine_18 {d mc ms : Nat} {B : Nat → Pd} {K : Ps} (hB : ∀ pc, Le (B pc) (G cMo_aLine "VoyageCompanyModel" 6 none "aLine" (rm (d + 1) mc ms) (QM mc ms K) pc)) : Le (qMo_aLine_18 d mc ms B K) (G cMo_aLine "VoyageCompanyModel" 6 none "aLine" (rm (d + 1) mc ms) (QM mc ms K) 18) := by
  unfold qMo_aLine_18
  exact (s_iconst (n := 0) (v := 0) (by decide +kernel) (by decide +kernel) (s_ist_n (j := 1) (by decide +kernel) rfl (by decide) (s_ald_n (j := 0) (by decide +kernel) rfl (s_bipush (n := 30) (v := 30) (by decide +kernel) (by decide +kernel) (s_call (idx := 118) (by decide +kernel) ml12_118 rmk (s_if_eq (off := 36) (tgt := 62) (by decide +kernel) (by decide) (zMo_aLine_62 hB) (zMo_aLine_29 hB)))))))
def qMo_aLine_9 (d mc ms : Nat) (B : Nat → Pd) (K : Ps) : Pd := (i_ald 0 (i_ci 3 (i_ald 0 (i_geti 12 5 (i_call 0 12 yMo_tells cMo_tells 3 none mc ms d 3 (qMo_aLine_18 d mc ms B K))))))
theorem zMo_aLine_9 {d mc ms : Nat} {B : Nat → Pd} {K : Ps} (hB : ∀ pc, Le (B pc) (G cMo_aLine "VoyageCompanyModel" 6 none "aLine" (rm (d + 1) mc ms) (QM mc ms K) pc)) : Le (qMo_aLine_9 d mc ms B K) (G cMo_aLine "VoyageCompanyModel" 6 none "aLine" (rm (d + 1) mc ms) (QM mc ms K) 9) := by
  unfold qMo_aLine_9
  exact (s_ald_n (j := 0) (by decide +kernel) rfl (s_iconst (n := 3) (v := 3) (by decide +kernel) (by decide +kernel) (s_ald_n (j := 0) (by decide +kernel) rfl (s_geti (idx := 62) (by decide +kernel) fl12_62 (by decide) (s_call (idx := 104) (by decide +kernel) ml12_104 rmk (zMo_aLine_18 hB))))))
def qMo_aLine_0 (d mc ms : Nat) (B : Nat → Pd) (K : Ps) : Pd := (i_ald 0 (i_geti 12 11 (i_ci 16 (i_ic_lt (qMo_aLine_18 d mc ms B K) (qMo_aLine_9 d mc ms B K)))))
theorem zMo_aLine_0 {d mc ms : Nat} {B : Nat → Pd} {K : Ps} (hB : ∀ pc, Le (B pc) (G cMo_aLine "VoyageCompanyModel" 6 none "aLine" (rm (d + 1) mc ms) (QM mc ms K) pc)) : Le (qMo_aLine_0 d mc ms B K) (G cMo_aLine "VoyageCompanyModel" 6 none "aLine" (rm (d + 1) mc ms) (QM mc ms K) 0) := by
  unfold qMo_aLine_0
  exact (s_ald_n (j := 0) (by decide +kernel) rfl (s_geti (idx := 101) (by decide +kernel) fl12_101 (by decide) (s_bipush (n := 16) (v := 16) (by decide +kernel) (by decide +kernel) (s_ic_lt (off := 12) (tgt := 18) (by decide +kernel) (by decide) (zMo_aLine_18 hB) (zMo_aLine_9 hB)))))
/-- VoyageCompanyModel.aLine()V, at its places -/
def gMo_aLine (d mc ms : Nat) (K : Ps) : Nat → Pd := G cMo_aLine "VoyageCompanyModel" 6 none "aLine" (rm (d + 1) mc ms) (QM mc ms K)
theorem eMo_aLine {d mc ms : Nat} {K : Ps} {av : List Value} {E : Nat → Prop} {R : Nat → Nat → Value} {I : Nat → Nat → Int32} {J : Nat → Nat → Int64} (hn : (lg_sl av).length ≤ 6) (h : qMo_aLine_0 d mc ms (gMo_aLine d mc ms K) K (lv_args 0 av) [] E R I J 0 0) : CL yMo_aLine cMo_aLine 6 none (d + 1) mc ms av E R I J K :=
  CL.of (by decide +kernel) hn (zMo_aLine_0 (fun _ => Le.refl) _ _ _ _ _ _ _ _ h)
theorem lMo_aLine_36 {d mc ms : Nat} {K : Ps} : Le (qMo_aLine_36 d mc ms (gMo_aLine d mc ms K) K) (gMo_aLine d mc ms K 36) := zMo_aLine_36 (fun _ => Le.refl)
def qMo_orders_132 (d mc ms : Nat) (B : Nat → Pd) (K : Ps) : Pd := (i_ald 0 (i_getr 12 0 (i_ci 320 (i_ci 4 (i_ild 1 (i_imul (i_iadd (i_ald 0 (i_geti 12 11 (i_iast (i_ald 0 (i_geti 12 11 (i_iret mc ms K)))))))))))))
theorem zMo_orders_132 {d mc ms : Nat} {B : Nat → Pd} {K : Ps} (hB : ∀ pc, Le (B pc) (G cMo_orders "VoyageCompanyModel" 3 (some .int) "orders" (rm (d + 1) mc ms) (QM mc ms K) pc)) : Le (qMo_orders_132 d mc ms B K) (G cMo_orders "VoyageCompanyModel" 3 (some .int) "orders" (rm (d + 1) mc ms) (QM mc ms K) 132) := by
  unfold qMo_orders_132
  exact (s_ald_n (j := 0) (by decide +kernel) rfl (s_getr (idx := 8) (by decide +kernel) fl12_8 (by decide) (s_sipush (n := 320) (v := 320) (by decide +kernel) (by decide +kernel) (s_iconst (n := 4) (v := 4) (by decide +kernel) (by decide +kernel) (s_ild_n (j := 1) (by decide +kernel) rfl (s_imul (by decide +kernel) (s_iadd (by decide +kernel) (s_ald_n (j := 0) (by decide +kernel) rfl (s_geti (idx := 101) (by decide +kernel) fl12_101 (by decide) (s_iast (by decide +kernel) (s_ald_n (j := 0) (by decide +kernel) rfl (s_geti (idx := 101) (by decide +kernel) fl12_101 (by decide) (s_iret (by decide +kernel) rfl)))))))))))))
def qMo_orders_104 (d mc ms : Nat) (B : Nat → Pd) (K : Ps) : Pd := (i_ald 0 (i_getr 12 0 (i_ci 350 (i_ci 320 (i_ild 1 (i_imul (i_iadd (i_ild 2 (i_iadd (i_ald 0 (i_getr 12 12 (i_ild 2 (i_iald (i_iast (i_inc 2 1 (B 97))))))))))))))))
theorem zMo_orders_104 {d mc ms : Nat} {B : Nat → Pd} {K : Ps} (hB : ∀ pc, Le (B pc) (G cMo_orders "VoyageCompanyModel" 3 (some .int) "orders" (rm (d + 1) mc ms) (QM mc ms K) pc)) : Le (qMo_orders_104 d mc ms B K) (G cMo_orders "VoyageCompanyModel" 3 (some .int) "orders" (rm (d + 1) mc ms) (QM mc ms K) 104) := by
  unfold qMo_orders_104
  exact (s_ald_n (j := 0) (by decide +kernel) rfl (s_getr (idx := 8) (by decide +kernel) fl12_8 (by decide) (s_sipush (n := 350) (v := 350) (by decide +kernel) (by decide +kernel) (s_sipush (n := 320) (v := 320) (by decide +kernel) (by decide +kernel) (s_ild_n (j := 1) (by decide +kernel) rfl (s_imul (by decide +kernel) (s_iadd (by decide +kernel) (s_ild_n (j := 2) (by decide +kernel) rfl (s_iadd (by decide +kernel) (s_ald_n (j := 0) (by decide +kernel) rfl (s_getr (idx := 22) (by decide +kernel) fl12_22 (by decide) (s_ild_n (j := 2) (by decide +kernel) rfl (s_iald (by decide +kernel) (s_iast (by decide +kernel) (s_inc (z := 1) (by decide +kernel) (by decide +kernel) (by decide) (s_goto (off := (-32)) (tgt := 97) (by decide +kernel) (by decide) (hB 97)))))))))))))))))
def qMo_orders_97 (d mc ms : Nat) (B : Nat → Pd) (K : Ps) : Pd := (i_ild 2 (i_ci 320 (i_ic_ge (qMo_orders_132 d mc ms B K) (qMo_orders_104 d mc ms B K))))
theorem zMo_orders_97 {d mc ms : Nat} {B : Nat → Pd} {K : Ps} (hB : ∀ pc, Le (B pc) (G cMo_orders "VoyageCompanyModel" 3 (some .int) "orders" (rm (d + 1) mc ms) (QM mc ms K) pc)) : Le (qMo_orders_97 d mc ms B K) (G cMo_orders "VoyageCompanyModel" 3 (some .int) "orders" (rm (d + 1) mc ms) (QM mc ms K) 97) := by
  unfold qMo_orders_97
  exact (s_ild_n (j := 2) (by decide +kernel) rfl (s_sipush (n := 320) (v := 320) (by decide +kernel) (by decide +kernel) (s_ic_ge (off := 31) (tgt := 132) (by decide +kernel) (by decide) (zMo_orders_132 hB) (zMo_orders_104 hB))))
def qMo_orders_95 (d mc ms : Nat) (B : Nat → Pd) (K : Ps) : Pd := (i_ci 0 (i_ist 2 (B 97)))
theorem zMo_orders_95 {d mc ms : Nat} {B : Nat → Pd} {K : Ps} (hB : ∀ pc, Le (B pc) (G cMo_orders "VoyageCompanyModel" 3 (some .int) "orders" (rm (d + 1) mc ms) (QM mc ms K) pc)) : Le (qMo_orders_95 d mc ms B K) (G cMo_orders "VoyageCompanyModel" 3 (some .int) "orders" (rm (d + 1) mc ms) (QM mc ms K) 95) := by
  unfold qMo_orders_95
  exact (s_iconst (n := 0) (v := 0) (by decide +kernel) (by decide +kernel) (s_ist_n (j := 2) (by decide +kernel) rfl (by decide) (hB 97)))
def qMo_orders_93 (d mc ms : Nat) (B : Nat → Pd) (K : Ps) : Pd := (i_ci (-1) (i_iret mc ms K))
theorem zMo_orders_93 {d mc ms : Nat} {B : Nat → Pd} {K : Ps} (hB : ∀ pc, Le (B pc) (G cMo_orders "VoyageCompanyModel" 3 (some .int) "orders" (rm (d + 1) mc ms) (QM mc ms K) pc)) : Le (qMo_orders_93 d mc ms B K) (G cMo_orders "VoyageCompanyModel" 3 (some .int) "orders" (rm (d + 1) mc ms) (QM mc ms K) 93) := by
  unfold qMo_orders_93
  exact (s_iconst (n := (-1)) (v := (-1)) (by decide +kernel) (by decide +kernel) (s_iret (by decide +kernel) rfl))
def qMo_orders_84 (d mc ms : Nat) (B : Nat → Pd) (K : Ps) : Pd := (i_ald 0 (i_getr 12 0 (i_ci 5 (i_iald (i_if_eq (qMo_orders_95 d mc ms B K) (qMo_orders_93 d mc ms B K))))))
theorem zMo_orders_84 {d mc ms : Nat} {B : Nat → Pd} {K : Ps} (hB : ∀ pc, Le (B pc) (G cMo_orders "VoyageCompanyModel" 3 (some .int) "orders" (rm (d + 1) mc ms) (QM mc ms K) pc)) : Le (qMo_orders_84 d mc ms B K) (G cMo_orders "VoyageCompanyModel" 3 (some .int) "orders" (rm (d + 1) mc ms) (QM mc ms K) 84) := by
  unfold qMo_orders_84
  exact (s_ald_n (j := 0) (by decide +kernel) rfl (s_getr (idx := 8) (by decide +kernel) fl12_8 (by decide) (s_iconst (n := 5) (v := 5) (by decide +kernel) (by decide +kernel) (s_iald (by decide +kernel) (s_if_eq (off := 5) (tgt := 95) (by decide +kernel) (by decide) (zMo_orders_95 hB) (zMo_orders_93 hB))))))
def qMo_orders_77 (d mc ms : Nat) (B : Nat → Pd) (K : Ps) : Pd := (i_ald 0 (i_call 0 12 yMo_aLine cMo_aLine 6 none mc ms d 1 (B 63)))
theorem zMo_orders_77 {d mc ms : Nat} {B : Nat → Pd} {K : Ps} (hB : ∀ pc, Le (B pc) (G cMo_orders "VoyageCompanyModel" 3 (some .int) "orders" (rm (d + 1) mc ms) (QM mc ms K) pc)) : Le (qMo_orders_77 d mc ms B K) (G cMo_orders "VoyageCompanyModel" 3 (some .int) "orders" (rm (d + 1) mc ms) (QM mc ms K) 77) := by
  unfold qMo_orders_77
  exact (s_ald_n (j := 0) (by decide +kernel) rfl (s_call (idx := 128) (by decide +kernel) ml12_128 rmk (s_goto (off := (-18)) (tgt := 63) (by decide +kernel) (by decide) (hB 63))))
def qMo_orders_70 (d mc ms : Nat) (B : Nat → Pd) (K : Ps) : Pd := (i_ald 0 (i_geti 12 6 (i_if_eq (qMo_orders_84 d mc ms B K) (qMo_orders_77 d mc ms B K))))
theorem zMo_orders_70 {d mc ms : Nat} {B : Nat → Pd} {K : Ps} (hB : ∀ pc, Le (B pc) (G cMo_orders "VoyageCompanyModel" 3 (some .int) "orders" (rm (d + 1) mc ms) (QM mc ms K) pc)) : Le (qMo_orders_70 d mc ms B K) (G cMo_orders "VoyageCompanyModel" 3 (some .int) "orders" (rm (d + 1) mc ms) (QM mc ms K) 70) := by
  unfold qMo_orders_70
  exact (s_ald_n (j := 0) (by decide +kernel) rfl (s_geti (idx := 65) (by decide +kernel) fl12_65 (by decide) (s_if_eq (off := 10) (tgt := 84) (by decide +kernel) (by decide) (zMo_orders_84 hB) (zMo_orders_77 hB))))
def qMo_orders_63 (d mc ms : Nat) (B : Nat → Pd) (K : Ps) : Pd := (i_ald 0 (i_geti 12 10 (i_if_ne (qMo_orders_84 d mc ms B K) (qMo_orders_70 d mc ms B K))))
theorem zMo_orders_63 {d mc ms : Nat} {B : Nat → Pd} {K : Ps} (hB : ∀ pc, Le (B pc) (G cMo_orders "VoyageCompanyModel" 3 (some .int) "orders" (rm (d + 1) mc ms) (QM mc ms K) pc)) : Le (qMo_orders_63 d mc ms B K) (G cMo_orders "VoyageCompanyModel" 3 (some .int) "orders" (rm (d + 1) mc ms) (QM mc ms K) 63) := by
  unfold qMo_orders_63
  exact (s_ald_n (j := 0) (by decide +kernel) rfl (s_geti (idx := 91) (by decide +kernel) fl12_91 (by decide) (s_if_ne (off := 17) (tgt := 84) (by decide +kernel) (by decide) (zMo_orders_84 hB) (zMo_orders_70 hB))))
def qMo_orders_12 (d mc ms : Nat) (B : Nat → Pd) (K : Ps) : Pd := (i_ald 0 (i_ald 0 (i_getr 12 0 (i_ci 4 (i_iald (i_puti 12 3 (i_ald 0 (i_getr 12 0 (i_ci 4 (i_ci 0 (i_iast (i_ald 0 (i_ci 0 (i_puti 12 4 (i_ald 0 (i_getr 12 0 (i_ci 5 (i_ci 0 (i_iast (i_ald 0 (i_getr 12 0 (i_ci 6 (i_ci (-1) (i_iast (i_ald 0 (i_ci 0 (i_putz 12 10 (i_ald 0 (i_ci 0 (i_puti 12 11 (i_ald 0 (i_call 0 12 yMo_advance cMo_advance 4 none mc ms d 1 (B 63)))))))))))))))))))))))))))))))))
theorem zMo_orders_12 {d mc ms : Nat} {B : Nat → Pd} {K : Ps} (hB : ∀ pc, Le (B pc) (G cMo_orders "VoyageCompanyModel" 3 (some .int) "orders" (rm (d + 1) mc ms) (QM mc ms K) pc)) : Le (qMo_orders_12 d mc ms B K) (G cMo_orders "VoyageCompanyModel" 3 (some .int) "orders" (rm (d + 1) mc ms) (QM mc ms K) 12) := by
  unfold qMo_orders_12
  exact (s_ald_n (j := 0) (by decide +kernel) rfl (s_ald_n (j := 0) (by decide +kernel) rfl (s_getr (idx := 8) (by decide +kernel) fl12_8 (by decide) (s_iconst (n := 4) (v := 4) (by decide +kernel) (by decide +kernel) (s_iald (by decide +kernel) (s_puti (idx := 29) (by decide +kernel) fl12_29 (by decide) (by decide) (Or.inl (by decide +kernel)) (s_ald_n (j := 0) (by decide +kernel) rfl (s_getr (idx := 8) (by decide +kernel) fl12_8 (by decide) (s_iconst (n := 4) (v := 4) (by decide +kernel) (by decide +kernel) (s_iconst (n := 0) (v := 0) (by decide +kernel) (by decide +kernel) (s_iast (by decide +kernel) (s_ald_n (j := 0) (by decide +kernel) rfl (s_iconst (n := 0) (v := 0) (by decide +kernel) (by decide +kernel) (s_puti (idx := 55) (by decide +kernel) fl12_55 (by decide) (by decide) (Or.inl (by decide +kernel)) (s_ald_n (j := 0) (by decide +kernel) rfl (s_getr (idx := 8) (by decide +kernel) fl12_8 (by decide) (s_iconst (n := 5) (v := 5) (by decide +kernel) (by decide +kernel) (s_iconst (n := 0) (v := 0) (by decide +kernel) (by decide +kernel) (s_iast (by decide +kernel) (s_ald_n (j := 0) (by decide +kernel) rfl (s_getr (idx := 8) (by decide +kernel) fl12_8 (by decide) (s_bipush (n := 6) (v := 6) (by decide +kernel) (by decide +kernel) (s_iconst (n := (-1)) (v := (-1)) (by decide +kernel) (by decide +kernel) (s_iast (by decide +kernel) (s_ald_n (j := 0) (by decide +kernel) rfl (s_iconst (n := 0) (v := 0) (by decide +kernel) (by decide +kernel) (s_putz (idx := 91) (by decide +kernel) fl12_91 (by decide) (by decide) (Or.inl (by decide +kernel)) (s_ald_n (j := 0) (by decide +kernel) rfl (s_iconst (n := 0) (v := 0) (by decide +kernel) (by decide +kernel) (s_puti (idx := 101) (by decide +kernel) fl12_101 (by decide) (by decide) (Or.inl (by decide +kernel)) (s_ald_n (j := 0) (by decide +kernel) rfl (s_call (idx := 95) (by decide +kernel) ml12_95 rmk (hB 63)))))))))))))))))))))))))))))))))
def qMo_orders_9 (d mc ms : Nat) (B : Nat → Pd) (K : Ps) : Pd := (i_ci (-2) (i_iret mc ms K))
theorem zMo_orders_9 {d mc ms : Nat} {B : Nat → Pd} {K : Ps} (hB : ∀ pc, Le (B pc) (G cMo_orders "VoyageCompanyModel" 3 (some .int) "orders" (rm (d + 1) mc ms) (QM mc ms K) pc)) : Le (qMo_orders_9 d mc ms B K) (G cMo_orders "VoyageCompanyModel" 3 (some .int) "orders" (rm (d + 1) mc ms) (QM mc ms K) 9) := by
  unfold qMo_orders_9
  exact (s_bipush (n := (-2)) (v := (-2)) (by decide +kernel) (by decide +kernel) (s_iret (by decide +kernel) rfl))
def qMo_orders_0 (d mc ms : Nat) (B : Nat → Pd) (K : Ps) : Pd := (i_ild 1 (i_ci 1 (i_ci 4 (i_call 2 12 yMo_isIn cMo_isIn 3 (some .boolean) mc ms d 3 (i_if_ne (qMo_orders_12 d mc ms B K) (qMo_orders_9 d mc ms B K))))))
theorem zMo_orders_0 {d mc ms : Nat} {B : Nat → Pd} {K : Ps} (hB : ∀ pc, Le (B pc) (G cMo_orders "VoyageCompanyModel" 3 (some .int) "orders" (rm (d + 1) mc ms) (QM mc ms K) pc)) : Le (qMo_orders_0 d mc ms B K) (G cMo_orders "VoyageCompanyModel" 3 (some .int) "orders" (rm (d + 1) mc ms) (QM mc ms K) 0) := by
  unfold qMo_orders_0
  exact (s_ild_n (j := 1) (by decide +kernel) rfl (s_iconst (n := 1) (v := 1) (by decide +kernel) (by decide +kernel) (s_iconst (n := 4) (v := 4) (by decide +kernel) (by decide +kernel) (s_call (idx := 25) (by decide +kernel) ml12_25 rmk (s_if_ne (off := 6) (tgt := 12) (by decide +kernel) (by decide) (zMo_orders_12 hB) (zMo_orders_9 hB))))))
/-- VoyageCompanyModel.orders(I)I, at its places -/
def gMo_orders (d mc ms : Nat) (K : Ps) : Nat → Pd := G cMo_orders "VoyageCompanyModel" 3 (some .int) "orders" (rm (d + 1) mc ms) (QM mc ms K)
theorem eMo_orders {d mc ms : Nat} {K : Ps} {av : List Value} {E : Nat → Prop} {R : Nat → Nat → Value} {I : Nat → Nat → Int32} {J : Nat → Nat → Int64} (hn : (lg_sl av).length ≤ 3) (h : qMo_orders_0 d mc ms (gMo_orders d mc ms K) K (lv_args 0 av) [] E R I J 0 0) : CL yMo_orders cMo_orders 3 (some .int) (d + 1) mc ms av E R I J K :=
  CL.of (by decide +kernel) hn (zMo_orders_0 (fun _ => Le.refl) _ _ _ _ _ _ _ _ h)
theorem lMo_orders_63 {d mc ms : Nat} {K : Ps} : Le (qMo_orders_63 d mc ms (gMo_orders d mc ms K) K) (gMo_orders d mc ms K 63) := zMo_orders_63 (fun _ => Le.refl)
theorem lMo_orders_97 {d mc ms : Nat} {K : Ps} : Le (qMo_orders_97 d mc ms (gMo_orders d mc ms K) K) (gMo_orders d mc ms K 97) := zMo_orders_97 (fun _ => Le.refl)
def qMo_fault_29 (d mc ms : Nat) (B : Nat → Pd) (K : Ps) : Pd := (i_iret mc ms K)
theorem zMo_fault_29 {d mc ms : Nat} {B : Nat → Pd} {K : Ps} (hB : ∀ pc, Le (B pc) (G cMo_fault "VoyageCompanyModel" 2 (some .int) "fault" (rm (d + 1) mc ms) (QM mc ms K) pc)) : Le (qMo_fault_29 d mc ms B K) (G cMo_fault "VoyageCompanyModel" 2 (some .int) "fault" (rm (d + 1) mc ms) (QM mc ms K) 29) := by
  unfold qMo_fault_29
  exact (s_iret (by decide +kernel) rfl)
def qMo_fault_28 (d mc ms : Nat) (B : Nat → Pd) (K : Ps) : Pd := (i_ci (-1) (qMo_fault_29 d mc ms B K))
theorem zMo_fault_28 {d mc ms : Nat} {B : Nat → Pd} {K : Ps} (hB : ∀ pc, Le (B pc) (G cMo_fault "VoyageCompanyModel" 2 (some .int) "fault" (rm (d + 1) mc ms) (QM mc ms K) pc)) : Le (qMo_fault_28 d mc ms B K) (G cMo_fault "VoyageCompanyModel" 2 (some .int) "fault" (rm (d + 1) mc ms) (QM mc ms K) 28) := by
  unfold qMo_fault_28
  exact (s_iconst (n := (-1)) (v := (-1)) (by decide +kernel) (by decide +kernel) (zMo_fault_29 hB))
def qMo_fault_18 (d mc ms : Nat) (B : Nat → Pd) (K : Ps) : Pd := (i_ald 0 (i_getr 12 0 (i_ci 6 (i_iald (qMo_fault_29 d mc ms B K)))))
theorem zMo_fault_18 {d mc ms : Nat} {B : Nat → Pd} {K : Ps} (hB : ∀ pc, Le (B pc) (G cMo_fault "VoyageCompanyModel" 2 (some .int) "fault" (rm (d + 1) mc ms) (QM mc ms K) pc)) : Le (qMo_fault_18 d mc ms B K) (G cMo_fault "VoyageCompanyModel" 2 (some .int) "fault" (rm (d + 1) mc ms) (QM mc ms K) 18) := by
  unfold qMo_fault_18
  exact (s_ald_n (j := 0) (by decide +kernel) rfl (s_getr (idx := 8) (by decide +kernel) fl12_8 (by decide) (s_bipush (n := 6) (v := 6) (by decide +kernel) (by decide +kernel) (s_iald (by decide +kernel) (s_goto (off := 4) (tgt := 29) (by decide +kernel) (by decide) (zMo_fault_29 hB))))))
def qMo_fault_13 (d mc ms : Nat) (B : Nat → Pd) (K : Ps) : Pd := (i_ild 1 (i_ci 1 (i_ic_ne (qMo_fault_28 d mc ms B K) (qMo_fault_18 d mc ms B K))))
theorem zMo_fault_13 {d mc ms : Nat} {B : Nat → Pd} {K : Ps} (hB : ∀ pc, Le (B pc) (G cMo_fault "VoyageCompanyModel" 2 (some .int) "fault" (rm (d + 1) mc ms) (QM mc ms K) pc)) : Le (qMo_fault_13 d mc ms B K) (G cMo_fault "VoyageCompanyModel" 2 (some .int) "fault" (rm (d + 1) mc ms) (QM mc ms K) 13) := by
  unfold qMo_fault_13
  exact (s_ild_n (j := 1) (by decide +kernel) rfl (s_iconst (n := 1) (v := 1) (by decide +kernel) (by decide +kernel) (s_ic_ne (off := 13) (tgt := 28) (by decide +kernel) (by decide) (zMo_fault_28 hB) (zMo_fault_18 hB))))
def qMo_fault_4 (d mc ms : Nat) (B : Nat → Pd) (K : Ps) : Pd := (i_ald 0 (i_getr 12 0 (i_ci 5 (i_iald (qMo_fault_29 d mc ms B K)))))
theorem zMo_fault_4 {d mc ms : Nat} {B : Nat → Pd} {K : Ps} (hB : ∀ pc, Le (B pc) (G cMo_fault "VoyageCompanyModel" 2 (some .int) "fault" (rm (d + 1) mc ms) (QM mc ms K) pc)) : Le (qMo_fault_4 d mc ms B K) (G cMo_fault "VoyageCompanyModel" 2 (some .int) "fault" (rm (d + 1) mc ms) (QM mc ms K) 4) := by
  unfold qMo_fault_4
  exact (s_ald_n (j := 0) (by decide +kernel) rfl (s_getr (idx := 8) (by decide +kernel) fl12_8 (by decide) (s_iconst (n := 5) (v := 5) (by decide +kernel) (by decide +kernel) (s_iald (by decide +kernel) (s_goto (off := 19) (tgt := 29) (by decide +kernel) (by decide) (zMo_fault_29 hB))))))
def qMo_fault_0 (d mc ms : Nat) (B : Nat → Pd) (K : Ps) : Pd := (i_ild 1 (i_if_ne (qMo_fault_13 d mc ms B K) (qMo_fault_4 d mc ms B K)))
theorem zMo_fault_0 {d mc ms : Nat} {B : Nat → Pd} {K : Ps} (hB : ∀ pc, Le (B pc) (G cMo_fault "VoyageCompanyModel" 2 (some .int) "fault" (rm (d + 1) mc ms) (QM mc ms K) pc)) : Le (qMo_fault_0 d mc ms B K) (G cMo_fault "VoyageCompanyModel" 2 (some .int) "fault" (rm (d + 1) mc ms) (QM mc ms K) 0) := by
  unfold qMo_fault_0
  exact (s_ild_n (j := 1) (by decide +kernel) rfl (s_if_ne (off := 12) (tgt := 13) (by decide +kernel) (by decide) (zMo_fault_13 hB) (zMo_fault_4 hB)))
/-- VoyageCompanyModel.fault(I)I, at its places -/
def gMo_fault (d mc ms : Nat) (K : Ps) : Nat → Pd := G cMo_fault "VoyageCompanyModel" 2 (some .int) "fault" (rm (d + 1) mc ms) (QM mc ms K)
theorem eMo_fault {d mc ms : Nat} {K : Ps} {av : List Value} {E : Nat → Prop} {R : Nat → Nat → Value} {I : Nat → Nat → Int32} {J : Nat → Nat → Int64} (hn : (lg_sl av).length ≤ 2) (h : qMo_fault_0 d mc ms (gMo_fault d mc ms K) K (lv_args 0 av) [] E R I J 0 0) : CL yMo_fault cMo_fault 2 (some .int) (d + 1) mc ms av E R I J K :=
  CL.of (by decide +kernel) hn (zMo_fault_0 (fun _ => Le.refl) _ _ _ _ _ _ _ _ h)
def qMo_market_31 (d mc ms : Nat) (B : Nat → Pd) (K : Ps) : Pd := (i_ald 0 (i_getr 12 0 (i_ci 30 (i_ci 4 (i_ild 1 (i_imul (i_iadd (i_ild 2 (i_iadd (i_ild 3 (i_iast (i_ald 0 (i_getr 12 0 (i_ci 50 (i_ci 4 (i_ild 1 (i_imul (i_iadd (i_ild 2 (i_iadd (i_ild 3 (i_iast (i_ci 1 (i_zret mc ms K))))))))))))))))))))))))
theorem zMo_market_31 {d mc ms : Nat} {B : Nat → Pd} {K : Ps} (hB : ∀ pc, Le (B pc) (G cMo_market "VoyageCompanyModel" 4 (some .boolean) "market" (rm (d + 1) mc ms) (QM mc ms K) pc)) : Le (qMo_market_31 d mc ms B K) (G cMo_market "VoyageCompanyModel" 4 (some .boolean) "market" (rm (d + 1) mc ms) (QM mc ms K) 31) := by
  unfold qMo_market_31
  exact (s_ald_n (j := 0) (by decide +kernel) rfl (s_getr (idx := 8) (by decide +kernel) fl12_8 (by decide) (s_bipush (n := 30) (v := 30) (by decide +kernel) (by decide +kernel) (s_iconst (n := 4) (v := 4) (by decide +kernel) (by decide +kernel) (s_ild_n (j := 1) (by decide +kernel) rfl (s_imul (by decide +kernel) (s_iadd (by decide +kernel) (s_ild_n (j := 2) (by decide +kernel) rfl (s_iadd (by decide +kernel) (s_ild_n (j := 3) (by decide +kernel) rfl (s_iast (by decide +kernel) (s_ald_n (j := 0) (by decide +kernel) rfl (s_getr (idx := 8) (by decide +kernel) fl12_8 (by decide) (s_bipush (n := 50) (v := 50) (by decide +kernel) (by decide +kernel) (s_iconst (n := 4) (v := 4) (by decide +kernel) (by decide +kernel) (s_ild_n (j := 1) (by decide +kernel) rfl (s_imul (by decide +kernel) (s_iadd (by decide +kernel) (s_ild_n (j := 2) (by decide +kernel) rfl (s_iadd (by decide +kernel) (s_ild_n (j := 3) (by decide +kernel) rfl (s_iast (by decide +kernel) (s_iconst (n := 1) (v := 1) (by decide +kernel) (by decide +kernel) (s_zret (by decide +kernel) rfl))))))))))))))))))))))))
def qMo_market_29 (d mc ms : Nat) (B : Nat → Pd) (K : Ps) : Pd := (i_ci 0 (i_zret mc ms K))
theorem zMo_market_29 {d mc ms : Nat} {B : Nat → Pd} {K : Ps} (hB : ∀ pc, Le (B pc) (G cMo_market "VoyageCompanyModel" 4 (some .boolean) "market" (rm (d + 1) mc ms) (QM mc ms K) pc)) : Le (qMo_market_29 d mc ms B K) (G cMo_market "VoyageCompanyModel" 4 (some .boolean) "market" (rm (d + 1) mc ms) (QM mc ms K) 29) := by
  unfold qMo_market_29
  exact (s_iconst (n := 0) (v := 0) (by decide +kernel) (by decide +kernel) (s_zret (by decide +kernel) rfl))
def qMo_market_18 (d mc ms : Nat) (B : Nat → Pd) (K : Ps) : Pd := (i_ild 3 (i_ci 1 (i_ci 1000 (i_call 2 12 yMo_isIn cMo_isIn 3 (some .boolean) mc ms d 3 (i_if_ne (qMo_market_31 d mc ms B K) (qMo_market_29 d mc ms B K))))))
theorem zMo_market_18 {d mc ms : Nat} {B : Nat → Pd} {K : Ps} (hB : ∀ pc, Le (B pc) (G cMo_market "VoyageCompanyModel" 4 (some .boolean) "market" (rm (d + 1) mc ms) (QM mc ms K) pc)) : Le (qMo_market_18 d mc ms B K) (G cMo_market "VoyageCompanyModel" 4 (some .boolean) "market" (rm (d + 1) mc ms) (QM mc ms K) 18) := by
  unfold qMo_market_18
  exact (s_ild_n (j := 3) (by decide +kernel) rfl (s_iconst (n := 1) (v := 1) (by decide +kernel) (by decide +kernel) (s_sipush (n := 1000) (v := 1000) (by decide +kernel) (by decide +kernel) (s_call (idx := 25) (by decide +kernel) ml12_25 rmk (s_if_ne (off := 5) (tgt := 31) (by decide +kernel) (by decide) (zMo_market_31 hB) (zMo_market_29 hB))))))
def qMo_market_9 (d mc ms : Nat) (B : Nat → Pd) (K : Ps) : Pd := (i_ild 2 (i_ci 1 (i_ci 3 (i_call 2 12 yMo_isIn cMo_isIn 3 (some .boolean) mc ms d 3 (i_if_eq (qMo_market_29 d mc ms B K) (qMo_market_18 d mc ms B K))))))
theorem zMo_market_9 {d mc ms : Nat} {B : Nat → Pd} {K : Ps} (hB : ∀ pc, Le (B pc) (G cMo_market "VoyageCompanyModel" 4 (some .boolean) "market" (rm (d + 1) mc ms) (QM mc ms K) pc)) : Le (qMo_market_9 d mc ms B K) (G cMo_market "VoyageCompanyModel" 4 (some .boolean) "market" (rm (d + 1) mc ms) (QM mc ms K) 9) := by
  unfold qMo_market_9
  exact (s_ild_n (j := 2) (by decide +kernel) rfl (s_iconst (n := 1) (v := 1) (by decide +kernel) (by decide +kernel) (s_iconst (n := 3) (v := 3) (by decide +kernel) (by decide +kernel) (s_call (idx := 25) (by decide +kernel) ml12_25 rmk (s_if_eq (off := 14) (tgt := 29) (by decide +kernel) (by decide) (zMo_market_29 hB) (zMo_market_18 hB))))))
def qMo_market_0 (d mc ms : Nat) (B : Nat → Pd) (K : Ps) : Pd := (i_ild 1 (i_ci 1 (i_ci 4 (i_call 2 12 yMo_isIn cMo_isIn 3 (some .boolean) mc ms d 3 (i_if_eq (qMo_market_29 d mc ms B K) (qMo_market_9 d mc ms B K))))))
theorem zMo_market_0 {d mc ms : Nat} {B : Nat → Pd} {K : Ps} (hB : ∀ pc, Le (B pc) (G cMo_market "VoyageCompanyModel" 4 (some .boolean) "market" (rm (d + 1) mc ms) (QM mc ms K) pc)) : Le (qMo_market_0 d mc ms B K) (G cMo_market "VoyageCompanyModel" 4 (some .boolean) "market" (rm (d + 1) mc ms) (QM mc ms K) 0) := by
  unfold qMo_market_0
  exact (s_ild_n (j := 1) (by decide +kernel) rfl (s_iconst (n := 1) (v := 1) (by decide +kernel) (by decide +kernel) (s_iconst (n := 4) (v := 4) (by decide +kernel) (by decide +kernel) (s_call (idx := 25) (by decide +kernel) ml12_25 rmk (s_if_eq (off := 23) (tgt := 29) (by decide +kernel) (by decide) (zMo_market_29 hB) (zMo_market_9 hB))))))
/-- VoyageCompanyModel.market(III)Z, at its places -/
def gMo_market (d mc ms : Nat) (K : Ps) : Nat → Pd := G cMo_market "VoyageCompanyModel" 4 (some .boolean) "market" (rm (d + 1) mc ms) (QM mc ms K)
theorem eMo_market {d mc ms : Nat} {K : Ps} {av : List Value} {E : Nat → Prop} {R : Nat → Nat → Value} {I : Nat → Nat → Int32} {J : Nat → Nat → Int64} (hn : (lg_sl av).length ≤ 4) (h : qMo_market_0 d mc ms (gMo_market d mc ms K) K (lv_args 0 av) [] E R I J 0 0) : CL yMo_market cMo_market 4 (some .boolean) (d + 1) mc ms av E R I J K :=
  CL.of (by decide +kernel) hn (zMo_market_0 (fun _ => Le.refl) _ _ _ _ _ _ _ _ h)
def qMo_of_0 (d mc ms : Nat) (B : Nat → Pd) (K : Ps) : Pd := (i_ald 0 (i_getr 12 0 (i_ci 250 (i_ci 16 (i_ild 1 (i_imul (i_iadd (i_ild 2 (i_iadd (i_iald (i_iret mc ms K)))))))))))
theorem zMo_of_0 {d mc ms : Nat} {B : Nat → Pd} {K : Ps} (hB : ∀ pc, Le (B pc) (G cMo_of "VoyageCompanyModel" 3 (some .int) "of" (rm (d + 1) mc ms) (QM mc ms K) pc)) : Le (qMo_of_0 d mc ms B K) (G cMo_of "VoyageCompanyModel" 3 (some .int) "of" (rm (d + 1) mc ms) (QM mc ms K) 0) := by
  unfold qMo_of_0
  exact (s_ald_n (j := 0) (by decide +kernel) rfl (s_getr (idx := 8) (by decide +kernel) fl12_8 (by decide) (s_sipush (n := 250) (v := 250) (by decide +kernel) (by decide +kernel) (s_bipush (n := 16) (v := 16) (by decide +kernel) (by decide +kernel) (s_ild_n (j := 1) (by decide +kernel) rfl (s_imul (by decide +kernel) (s_iadd (by decide +kernel) (s_ild_n (j := 2) (by decide +kernel) rfl (s_iadd (by decide +kernel) (s_iald (by decide +kernel) (s_iret (by decide +kernel) rfl)))))))))))
/-- VoyageCompanyModel.of(II)I, at its places -/
def gMo_of (d mc ms : Nat) (K : Ps) : Nat → Pd := G cMo_of "VoyageCompanyModel" 3 (some .int) "of" (rm (d + 1) mc ms) (QM mc ms K)
theorem eMo_of {d mc ms : Nat} {K : Ps} {av : List Value} {E : Nat → Prop} {R : Nat → Nat → Value} {I : Nat → Nat → Int32} {J : Nat → Nat → Int64} (hn : (lg_sl av).length ≤ 3) (h : qMo_of_0 d mc ms (gMo_of d mc ms K) K (lv_args 0 av) [] E R I J 0 0) : CL yMo_of cMo_of 3 (some .int) (d + 1) mc ms av E R I J K :=
  CL.of (by decide +kernel) hn (zMo_of_0 (fun _ => Le.refl) _ _ _ _ _ _ _ _ h)
def qMo_sets_0 (d mc ms : Nat) (B : Nat → Pd) (K : Ps) : Pd := (i_ald 0 (i_getr 12 0 (i_ci 250 (i_ci 16 (i_ild 1 (i_imul (i_iadd (i_ild 2 (i_iadd (i_ild 3 (i_iast (i_vret mc ms K))))))))))))
theorem zMo_sets_0 {d mc ms : Nat} {B : Nat → Pd} {K : Ps} (hB : ∀ pc, Le (B pc) (G cMo_sets "VoyageCompanyModel" 4 none "sets" (rm (d + 1) mc ms) (QM mc ms K) pc)) : Le (qMo_sets_0 d mc ms B K) (G cMo_sets "VoyageCompanyModel" 4 none "sets" (rm (d + 1) mc ms) (QM mc ms K) 0) := by
  unfold qMo_sets_0
  exact (s_ald_n (j := 0) (by decide +kernel) rfl (s_getr (idx := 8) (by decide +kernel) fl12_8 (by decide) (s_sipush (n := 250) (v := 250) (by decide +kernel) (by decide +kernel) (s_bipush (n := 16) (v := 16) (by decide +kernel) (by decide +kernel) (s_ild_n (j := 1) (by decide +kernel) rfl (s_imul (by decide +kernel) (s_iadd (by decide +kernel) (s_ild_n (j := 2) (by decide +kernel) rfl (s_iadd (by decide +kernel) (s_ild_n (j := 3) (by decide +kernel) rfl (s_iast (by decide +kernel) (s_vret (by decide +kernel) rfl))))))))))))
/-- VoyageCompanyModel.sets(III)V, at its places -/
def gMo_sets (d mc ms : Nat) (K : Ps) : Nat → Pd := G cMo_sets "VoyageCompanyModel" 4 none "sets" (rm (d + 1) mc ms) (QM mc ms K)
theorem eMo_sets {d mc ms : Nat} {K : Ps} {av : List Value} {E : Nat → Prop} {R : Nat → Nat → Value} {I : Nat → Nat → Int32} {J : Nat → Nat → Int64} (hn : (lg_sl av).length ≤ 4) (h : qMo_sets_0 d mc ms (gMo_sets d mc ms K) K (lv_args 0 av) [] E R I J 0 0) : CL yMo_sets cMo_sets 4 none (d + 1) mc ms av E R I J K :=
  CL.of (by decide +kernel) hn (zMo_sets_0 (fun _ => Le.refl) _ _ _ _ _ _ _ _ h)
def qMo_adds_0 (d mc ms : Nat) (B : Nat → Pd) (K : Ps) : Pd := (i_ald 0 (i_getr 12 0 (i_ci 250 (i_ci 16 (i_ild 1 (i_imul (i_iadd (i_ild 2 (i_iadd (i_dup2 (i_iald (i_ild 3 (i_iadd (i_iast (i_vret mc ms K)))))))))))))))
theorem zMo_adds_0 {d mc ms : Nat} {B : Nat → Pd} {K : Ps} (hB : ∀ pc, Le (B pc) (G cMo_adds "VoyageCompanyModel" 4 none "adds" (rm (d + 1) mc ms) (QM mc ms K) pc)) : Le (qMo_adds_0 d mc ms B K) (G cMo_adds "VoyageCompanyModel" 4 none "adds" (rm (d + 1) mc ms) (QM mc ms K) 0) := by
  unfold qMo_adds_0
  exact (s_ald_n (j := 0) (by decide +kernel) rfl (s_getr (idx := 8) (by decide +kernel) fl12_8 (by decide) (s_sipush (n := 250) (v := 250) (by decide +kernel) (by decide +kernel) (s_bipush (n := 16) (v := 16) (by decide +kernel) (by decide +kernel) (s_ild_n (j := 1) (by decide +kernel) rfl (s_imul (by decide +kernel) (s_iadd (by decide +kernel) (s_ild_n (j := 2) (by decide +kernel) rfl (s_iadd (by decide +kernel) (s_dup2 (by decide +kernel) (s_iald (by decide +kernel) (s_ild_n (j := 3) (by decide +kernel) rfl (s_iadd (by decide +kernel) (s_iast (by decide +kernel) (s_vret (by decide +kernel) rfl)))))))))))))))
/-- VoyageCompanyModel.adds(III)V, at its places -/
def gMo_adds (d mc ms : Nat) (K : Ps) : Nat → Pd := G cMo_adds "VoyageCompanyModel" 4 none "adds" (rm (d + 1) mc ms) (QM mc ms K)
theorem eMo_adds {d mc ms : Nat} {K : Ps} {av : List Value} {E : Nat → Prop} {R : Nat → Nat → Value} {I : Nat → Nat → Int32} {J : Nat → Nat → Int64} (hn : (lg_sl av).length ≤ 4) (h : qMo_adds_0 d mc ms (gMo_adds d mc ms K) K (lv_args 0 av) [] E R I J 0 0) : CL yMo_adds cMo_adds 4 none (d + 1) mc ms av E R I J K :=
  CL.of (by decide +kernel) hn (zMo_adds_0 (fun _ => Le.refl) _ _ _ _ _ _ _ _ h)
def qMo_ship_86 (d mc ms : Nat) (B : Nat → Pd) (K : Ps) : Pd := (i_ald 0 (i_ild 5 (i_ci 0 (i_ild 1 (i_call 0 12 yMo_sets cMo_sets 4 none mc ms d 4 (i_ald 0 (i_ild 5 (i_ci 1 (i_ild 2 (i_call 0 12 yMo_sets cMo_sets 4 none mc ms d 4 (i_ald 0 (i_ild 5 (i_ci 2 (i_ild 3 (i_call 0 12 yMo_sets cMo_sets 4 none mc ms d 4 (i_ald 0 (i_ild 5 (i_ci 3 (i_ild 4 (i_call 0 12 yMo_sets cMo_sets 4 none mc ms d 4 (i_ald 0 (i_ild 5 (i_ci 5 (i_ci (-1) (i_call 0 12 yMo_sets cMo_sets 4 none mc ms d 4 (i_ald 0 (i_ild 5 (i_ci 6 (i_ci (-1) (i_call 0 12 yMo_sets cMo_sets 4 none mc ms d 4 (i_ild 5 (i_iret mc ms K))))))))))))))))))))))))))))))))
theorem zMo_ship_86 {d mc ms : Nat} {B : Nat → Pd} {K : Ps} (hB : ∀ pc, Le (B pc) (G cMo_ship "VoyageCompanyModel" 7 (some .int) "ship" (rm (d + 1) mc ms) (QM mc ms K) pc)) : Le (qMo_ship_86 d mc ms B K) (G cMo_ship "VoyageCompanyModel" 7 (some .int) "ship" (rm (d + 1) mc ms) (QM mc ms K) 86) := by
  unfold qMo_ship_86
  exact (s_ald_n (j := 0) (by decide +kernel) rfl (s_ild (by decide +kernel) (s_iconst (n := 0) (v := 0) (by decide +kernel) (by decide +kernel) (s_ild_n (j := 1) (by decide +kernel) rfl (s_call (idx := 131) (by decide +kernel) ml12_131 rmk (s_ald_n (j := 0) (by decide +kernel) rfl (s_ild (by decide +kernel) (s_iconst (n := 1) (v := 1) (by decide +kernel) (by decide +kernel) (s_ild_n (j := 2) (by decide +kernel) rfl (s_call (idx := 131) (by decide +kernel) ml12_131 rmk (s_ald_n (j := 0) (by decide +kernel) rfl (s_ild (by decide +kernel) (s_iconst (n := 2) (v := 2) (by decide +kernel) (by decide +kernel) (s_ild_n (j := 3) (by decide +kernel) rfl (s_call (idx := 131) (by decide +kernel) ml12_131 rmk (s_ald_n (j := 0) (by decide +kernel) rfl (s_ild (by decide +kernel) (s_iconst (n := 3) (v := 3) (by decide +kernel) (by decide +kernel) (s_ild (by decide +kernel) (s_call (idx := 131) (by decide +kernel) ml12_131 rmk (s_ald_n (j := 0) (by decide +kernel) rfl (s_ild (by decide +kernel) (s_iconst (n := 5) (v := 5) (by decide +kernel) (by decide +kernel) (s_iconst (n := (-1)) (v := (-1)) (by decide +kernel) (by decide +kernel) (s_call (idx := 131) (by decide +kernel) ml12_131 rmk (s_ald_n (j := 0) (by decide +kernel) rfl (s_ild (by decide +kernel) (s_bipush (n := 6) (v := 6) (by decide +kernel) (by decide +kernel) (s_iconst (n := (-1)) (v := (-1)) (by decide +kernel) (by decide +kernel) (s_call (idx := 131) (by decide +kernel) ml12_131 rmk (s_ild (by decide +kernel) (s_iret (by decide +kernel) rfl))))))))))))))))))))))))))))))))
def qMo_ship_71 (d mc ms : Nat) (B : Nat → Pd) (K : Ps) : Pd := (i_ald 0 (i_ild 5 (i_ild 6 (i_ci 0 (i_call 0 12 yMo_sets cMo_sets 4 none mc ms d 4 (i_inc 6 1 (B 64)))))))
theorem zMo_ship_71 {d mc ms : Nat} {B : Nat → Pd} {K : Ps} (hB : ∀ pc, Le (B pc) (G cMo_ship "VoyageCompanyModel" 7 (some .int) "ship" (rm (d + 1) mc ms) (QM mc ms K) pc)) : Le (qMo_ship_71 d mc ms B K) (G cMo_ship "VoyageCompanyModel" 7 (some .int) "ship" (rm (d + 1) mc ms) (QM mc ms K) 71) := by
  unfold qMo_ship_71
  exact (s_ald_n (j := 0) (by decide +kernel) rfl (s_ild (by decide +kernel) (s_ild (by decide +kernel) (s_iconst (n := 0) (v := 0) (by decide +kernel) (by decide +kernel) (s_call (idx := 131) (by decide +kernel) ml12_131 rmk (s_inc (z := 1) (by decide +kernel) (by decide +kernel) (by decide) (s_goto (off := (-19)) (tgt := 64) (by decide +kernel) (by decide) (hB 64))))))))
def qMo_ship_64 (d mc ms : Nat) (B : Nat → Pd) (K : Ps) : Pd := (i_ild 6 (i_ci 16 (i_ic_ge (qMo_ship_86 d mc ms B K) (qMo_ship_71 d mc ms B K))))
theorem zMo_ship_64 {d mc ms : Nat} {B : Nat → Pd} {K : Ps} (hB : ∀ pc, Le (B pc) (G cMo_ship "VoyageCompanyModel" 7 (some .int) "ship" (rm (d + 1) mc ms) (QM mc ms K) pc)) : Le (qMo_ship_64 d mc ms B K) (G cMo_ship "VoyageCompanyModel" 7 (some .int) "ship" (rm (d + 1) mc ms) (QM mc ms K) 64) := by
  unfold qMo_ship_64
  exact (s_ild (by decide +kernel) (s_bipush (n := 16) (v := 16) (by decide +kernel) (by decide +kernel) (s_ic_ge (off := 18) (tgt := 86) (by decide +kernel) (by decide) (zMo_ship_86 hB) (zMo_ship_71 hB))))
def qMo_ship_43 (d mc ms : Nat) (B : Nat → Pd) (K : Ps) : Pd := (i_ald 0 (i_getr 12 0 (i_ci 1 (i_iald (i_ist 5 (i_ald 0 (i_getr 12 0 (i_ci 1 (i_dup2 (i_iald (i_ci 1 (i_iadd (i_iast (i_ci 0 (i_ist 6 (B 64))))))))))))))))
theorem zMo_ship_43 {d mc ms : Nat} {B : Nat → Pd} {K : Ps} (hB : ∀ pc, Le (B pc) (G cMo_ship "VoyageCompanyModel" 7 (some .int) "ship" (rm (d + 1) mc ms) (QM mc ms K) pc)) : Le (qMo_ship_43 d mc ms B K) (G cMo_ship "VoyageCompanyModel" 7 (some .int) "ship" (rm (d + 1) mc ms) (QM mc ms K) 43) := by
  unfold qMo_ship_43
  exact (s_ald_n (j := 0) (by decide +kernel) rfl (s_getr (idx := 8) (by decide +kernel) fl12_8 (by decide) (s_iconst (n := 1) (v := 1) (by decide +kernel) (by decide +kernel) (s_iald (by decide +kernel) (s_ist (by decide +kernel) (by decide) (s_ald_n (j := 0) (by decide +kernel) rfl (s_getr (idx := 8) (by decide +kernel) fl12_8 (by decide) (s_iconst (n := 1) (v := 1) (by decide +kernel) (by decide +kernel) (s_dup2 (by decide +kernel) (s_iald (by decide +kernel) (s_iconst (n := 1) (v := 1) (by decide +kernel) (by decide +kernel) (s_iadd (by decide +kernel) (s_iast (by decide +kernel) (s_iconst (n := 0) (v := 0) (by decide +kernel) (by decide +kernel) (s_ist (by decide +kernel) (by decide) (hB 64))))))))))))))))
def qMo_ship_41 (d mc ms : Nat) (B : Nat → Pd) (K : Ps) : Pd := (i_ci (-1) (i_iret mc ms K))
theorem zMo_ship_41 {d mc ms : Nat} {B : Nat → Pd} {K : Ps} (hB : ∀ pc, Le (B pc) (G cMo_ship "VoyageCompanyModel" 7 (some .int) "ship" (rm (d + 1) mc ms) (QM mc ms K) pc)) : Le (qMo_ship_41 d mc ms B K) (G cMo_ship "VoyageCompanyModel" 7 (some .int) "ship" (rm (d + 1) mc ms) (QM mc ms K) 41) := by
  unfold qMo_ship_41
  exact (s_iconst (n := (-1)) (v := (-1)) (by decide +kernel) (by decide +kernel) (s_iret (by decide +kernel) rfl))
def qMo_ship_31 (d mc ms : Nat) (B : Nat → Pd) (K : Ps) : Pd := (i_ild 3 (i_ci 0 (i_ci 99 (i_call 2 12 yMo_isIn cMo_isIn 3 (some .boolean) mc ms d 3 (i_if_ne (qMo_ship_43 d mc ms B K) (qMo_ship_41 d mc ms B K))))))
theorem zMo_ship_31 {d mc ms : Nat} {B : Nat → Pd} {K : Ps} (hB : ∀ pc, Le (B pc) (G cMo_ship "VoyageCompanyModel" 7 (some .int) "ship" (rm (d + 1) mc ms) (QM mc ms K) pc)) : Le (qMo_ship_31 d mc ms B K) (G cMo_ship "VoyageCompanyModel" 7 (some .int) "ship" (rm (d + 1) mc ms) (QM mc ms K) 31) := by
  unfold qMo_ship_31
  exact (s_ild_n (j := 3) (by decide +kernel) rfl (s_iconst (n := 0) (v := 0) (by decide +kernel) (by decide +kernel) (s_bipush (n := 99) (v := 99) (by decide +kernel) (by decide +kernel) (s_call (idx := 25) (by decide +kernel) ml12_25 rmk (s_if_ne (off := 5) (tgt := 43) (by decide +kernel) (by decide) (zMo_ship_43 hB) (zMo_ship_41 hB))))))
def qMo_ship_21 (d mc ms : Nat) (B : Nat → Pd) (K : Ps) : Pd := (i_ild 2 (i_ci 0 (i_ci 50 (i_call 2 12 yMo_isIn cMo_isIn 3 (some .boolean) mc ms d 3 (i_if_eq (qMo_ship_41 d mc ms B K) (qMo_ship_31 d mc ms B K))))))
theorem zMo_ship_21 {d mc ms : Nat} {B : Nat → Pd} {K : Ps} (hB : ∀ pc, Le (B pc) (G cMo_ship "VoyageCompanyModel" 7 (some .int) "ship" (rm (d + 1) mc ms) (QM mc ms K) pc)) : Le (qMo_ship_21 d mc ms B K) (G cMo_ship "VoyageCompanyModel" 7 (some .int) "ship" (rm (d + 1) mc ms) (QM mc ms K) 21) := by
  unfold qMo_ship_21
  exact (s_ild_n (j := 2) (by decide +kernel) rfl (s_iconst (n := 0) (v := 0) (by decide +kernel) (by decide +kernel) (s_bipush (n := 50) (v := 50) (by decide +kernel) (by decide +kernel) (s_call (idx := 25) (by decide +kernel) ml12_25 rmk (s_if_eq (off := 13) (tgt := 41) (by decide +kernel) (by decide) (zMo_ship_41 hB) (zMo_ship_31 hB))))))
def qMo_ship_10 (d mc ms : Nat) (B : Nat → Pd) (K : Ps) : Pd := (i_ild 1 (i_ci 1 (i_ci 500 (i_call 2 12 yMo_isIn cMo_isIn 3 (some .boolean) mc ms d 3 (i_if_eq (qMo_ship_41 d mc ms B K) (qMo_ship_21 d mc ms B K))))))
theorem zMo_ship_10 {d mc ms : Nat} {B : Nat → Pd} {K : Ps} (hB : ∀ pc, Le (B pc) (G cMo_ship "VoyageCompanyModel" 7 (some .int) "ship" (rm (d + 1) mc ms) (QM mc ms K) pc)) : Le (qMo_ship_10 d mc ms B K) (G cMo_ship "VoyageCompanyModel" 7 (some .int) "ship" (rm (d + 1) mc ms) (QM mc ms K) 10) := by
  unfold qMo_ship_10
  exact (s_ild_n (j := 1) (by decide +kernel) rfl (s_iconst (n := 1) (v := 1) (by decide +kernel) (by decide +kernel) (s_sipush (n := 500) (v := 500) (by decide +kernel) (by decide +kernel) (s_call (idx := 25) (by decide +kernel) ml12_25 rmk (s_if_eq (off := 23) (tgt := 41) (by decide +kernel) (by decide) (zMo_ship_41 hB) (zMo_ship_21 hB))))))
def qMo_ship_0 (d mc ms : Nat) (B : Nat → Pd) (K : Ps) : Pd := (i_ald 0 (i_getr 12 0 (i_ci 1 (i_iald (i_ci 4 (i_ic_eq (qMo_ship_41 d mc ms B K) (qMo_ship_10 d mc ms B K)))))))
theorem zMo_ship_0 {d mc ms : Nat} {B : Nat → Pd} {K : Ps} (hB : ∀ pc, Le (B pc) (G cMo_ship "VoyageCompanyModel" 7 (some .int) "ship" (rm (d + 1) mc ms) (QM mc ms K) pc)) : Le (qMo_ship_0 d mc ms B K) (G cMo_ship "VoyageCompanyModel" 7 (some .int) "ship" (rm (d + 1) mc ms) (QM mc ms K) 0) := by
  unfold qMo_ship_0
  exact (s_ald_n (j := 0) (by decide +kernel) rfl (s_getr (idx := 8) (by decide +kernel) fl12_8 (by decide) (s_iconst (n := 1) (v := 1) (by decide +kernel) (by decide +kernel) (s_iald (by decide +kernel) (s_iconst (n := 4) (v := 4) (by decide +kernel) (by decide +kernel) (s_ic_eq (off := 34) (tgt := 41) (by decide +kernel) (by decide) (zMo_ship_41 hB) (zMo_ship_10 hB)))))))
/-- VoyageCompanyModel.ship(IIII)I, at its places -/
def gMo_ship (d mc ms : Nat) (K : Ps) : Nat → Pd := G cMo_ship "VoyageCompanyModel" 7 (some .int) "ship" (rm (d + 1) mc ms) (QM mc ms K)
theorem eMo_ship {d mc ms : Nat} {K : Ps} {av : List Value} {E : Nat → Prop} {R : Nat → Nat → Value} {I : Nat → Nat → Int32} {J : Nat → Nat → Int64} (hn : (lg_sl av).length ≤ 7) (h : qMo_ship_0 d mc ms (gMo_ship d mc ms K) K (lv_args 0 av) [] E R I J 0 0) : CL yMo_ship cMo_ship 7 (some .int) (d + 1) mc ms av E R I J K :=
  CL.of (by decide +kernel) hn (zMo_ship_0 (fun _ => Le.refl) _ _ _ _ _ _ _ _ h)
theorem lMo_ship_64 {d mc ms : Nat} {K : Ps} : Le (qMo_ship_64 d mc ms (gMo_ship d mc ms K) K) (gMo_ship d mc ms K 64) := zMo_ship_64 (fun _ => Le.refl)
def qMo_isShip_0 (d mc ms : Nat) (B : Nat → Pd) (K : Ps) : Pd := (i_ild 1 (i_ci 0 (i_ald 0 (i_getr 12 0 (i_ci 1 (i_iald (i_ci 1 (i_isub (i_call 2 12 yMo_isIn cMo_isIn 3 (some .boolean) mc ms d 3 (i_zret mc ms K))))))))))
theorem zMo_isShip_0 {d mc ms : Nat} {B : Nat → Pd} {K : Ps} (hB : ∀ pc, Le (B pc) (G cMo_isShip "VoyageCompanyModel" 2 (some .boolean) "isShip" (rm (d + 1) mc ms) (QM mc ms K) pc)) : Le (qMo_isShip_0 d mc ms B K) (G cMo_isShip "VoyageCompanyModel" 2 (some .boolean) "isShip" (rm (d + 1) mc ms) (QM mc ms K) 0) := by
  unfold qMo_isShip_0
  exact (s_ild_n (j := 1) (by decide +kernel) rfl (s_iconst (n := 0) (v := 0) (by decide +kernel) (by decide +kernel) (s_ald_n (j := 0) (by decide +kernel) rfl (s_getr (idx := 8) (by decide +kernel) fl12_8 (by decide) (s_iconst (n := 1) (v := 1) (by decide +kernel) (by decide +kernel) (s_iald (by decide +kernel) (s_iconst (n := 1) (v := 1) (by decide +kernel) (by decide +kernel) (s_isub (by decide +kernel) (s_call (idx := 25) (by decide +kernel) ml12_25 rmk (s_zret (by decide +kernel) rfl))))))))))
/-- VoyageCompanyModel.isShip(I)Z, at its places -/
def gMo_isShip (d mc ms : Nat) (K : Ps) : Nat → Pd := G cMo_isShip "VoyageCompanyModel" 2 (some .boolean) "isShip" (rm (d + 1) mc ms) (QM mc ms K)
theorem eMo_isShip {d mc ms : Nat} {K : Ps} {av : List Value} {E : Nat → Prop} {R : Nat → Nat → Value} {I : Nat → Nat → Int32} {J : Nat → Nat → Int64} (hn : (lg_sl av).length ≤ 2) (h : qMo_isShip_0 d mc ms (gMo_isShip d mc ms K) K (lv_args 0 av) [] E R I J 0 0) : CL yMo_isShip cMo_isShip 2 (some .boolean) (d + 1) mc ms av E R I J K :=
  CL.of (by decide +kernel) hn (zMo_isShip_0 (fun _ => Le.refl) _ _ _ _ _ _ _ _ h)
def qMo_isAtHome_22 (d mc ms : Nat) (B : Nat → Pd) (K : Ps) : Pd := (i_zret mc ms K)
theorem zMo_isAtHome_22 {d mc ms : Nat} {B : Nat → Pd} {K : Ps} (hB : ∀ pc, Le (B pc) (G cMo_isAtHome "VoyageCompanyModel" 2 (some .boolean) "isAtHome" (rm (d + 1) mc ms) (QM mc ms K) pc)) : Le (qMo_isAtHome_22 d mc ms B K) (G cMo_isAtHome "VoyageCompanyModel" 2 (some .boolean) "isAtHome" (rm (d + 1) mc ms) (QM mc ms K) 22) := by
  unfold qMo_isAtHome_22
  exact (s_zret (by decide +kernel) rfl)
def qMo_isAtHome_21 (d mc ms : Nat) (B : Nat → Pd) (K : Ps) : Pd := (i_ci 0 (qMo_isAtHome_22 d mc ms B K))
theorem zMo_isAtHome_21 {d mc ms : Nat} {B : Nat → Pd} {K : Ps} (hB : ∀ pc, Le (B pc) (G cMo_isAtHome "VoyageCompanyModel" 2 (some .boolean) "isAtHome" (rm (d + 1) mc ms) (QM mc ms K) pc)) : Le (qMo_isAtHome_21 d mc ms B K) (G cMo_isAtHome "VoyageCompanyModel" 2 (some .boolean) "isAtHome" (rm (d + 1) mc ms) (QM mc ms K) 21) := by
  unfold qMo_isAtHome_21
  exact (s_iconst (n := 0) (v := 0) (by decide +kernel) (by decide +kernel) (zMo_isAtHome_22 hB))
def qMo_isAtHome_17 (d mc ms : Nat) (B : Nat → Pd) (K : Ps) : Pd := (i_ci 1 (qMo_isAtHome_22 d mc ms B K))
theorem zMo_isAtHome_17 {d mc ms : Nat} {B : Nat → Pd} {K : Ps} (hB : ∀ pc, Le (B pc) (G cMo_isAtHome "VoyageCompanyModel" 2 (some .boolean) "isAtHome" (rm (d + 1) mc ms) (QM mc ms K) pc)) : Le (qMo_isAtHome_17 d mc ms B K) (G cMo_isAtHome "VoyageCompanyModel" 2 (some .boolean) "isAtHome" (rm (d + 1) mc ms) (QM mc ms K) 17) := by
  unfold qMo_isAtHome_17
  exact (s_iconst (n := 1) (v := 1) (by decide +kernel) (by decide +kernel) (s_goto (off := 4) (tgt := 22) (by decide +kernel) (by decide) (zMo_isAtHome_22 hB)))
def qMo_isAtHome_8 (d mc ms : Nat) (B : Nat → Pd) (K : Ps) : Pd := (i_ald 0 (i_ild 1 (i_ci 4 (i_call 0 12 yMo_of cMo_of 3 (some .int) mc ms d 3 (i_if_ne (qMo_isAtHome_21 d mc ms B K) (qMo_isAtHome_17 d mc ms B K))))))
theorem zMo_isAtHome_8 {d mc ms : Nat} {B : Nat → Pd} {K : Ps} (hB : ∀ pc, Le (B pc) (G cMo_isAtHome "VoyageCompanyModel" 2 (some .boolean) "isAtHome" (rm (d + 1) mc ms) (QM mc ms K) pc)) : Le (qMo_isAtHome_8 d mc ms B K) (G cMo_isAtHome "VoyageCompanyModel" 2 (some .boolean) "isAtHome" (rm (d + 1) mc ms) (QM mc ms K) 8) := by
  unfold qMo_isAtHome_8
  exact (s_ald_n (j := 0) (by decide +kernel) rfl (s_ild_n (j := 1) (by decide +kernel) rfl (s_iconst (n := 4) (v := 4) (by decide +kernel) (by decide +kernel) (s_call (idx := 138) (by decide +kernel) ml12_138 rmk (s_if_ne (off := 7) (tgt := 21) (by decide +kernel) (by decide) (zMo_isAtHome_21 hB) (zMo_isAtHome_17 hB))))))
def qMo_isAtHome_0 (d mc ms : Nat) (B : Nat → Pd) (K : Ps) : Pd := (i_ald 0 (i_ild 1 (i_call 0 12 yMo_isShip cMo_isShip 2 (some .boolean) mc ms d 2 (i_if_eq (qMo_isAtHome_21 d mc ms B K) (qMo_isAtHome_8 d mc ms B K)))))
theorem zMo_isAtHome_0 {d mc ms : Nat} {B : Nat → Pd} {K : Ps} (hB : ∀ pc, Le (B pc) (G cMo_isAtHome "VoyageCompanyModel" 2 (some .boolean) "isAtHome" (rm (d + 1) mc ms) (QM mc ms K) pc)) : Le (qMo_isAtHome_0 d mc ms B K) (G cMo_isAtHome "VoyageCompanyModel" 2 (some .boolean) "isAtHome" (rm (d + 1) mc ms) (QM mc ms K) 0) := by
  unfold qMo_isAtHome_0
  exact (s_ald_n (j := 0) (by decide +kernel) rfl (s_ild_n (j := 1) (by decide +kernel) rfl (s_call (idx := 135) (by decide +kernel) ml12_135 rmk (s_if_eq (off := 16) (tgt := 21) (by decide +kernel) (by decide) (zMo_isAtHome_21 hB) (zMo_isAtHome_8 hB)))))
/-- VoyageCompanyModel.isAtHome(I)Z, at its places -/
def gMo_isAtHome (d mc ms : Nat) (K : Ps) : Nat → Pd := G cMo_isAtHome "VoyageCompanyModel" 2 (some .boolean) "isAtHome" (rm (d + 1) mc ms) (QM mc ms K)
theorem eMo_isAtHome {d mc ms : Nat} {K : Ps} {av : List Value} {E : Nat → Prop} {R : Nat → Nat → Value} {I : Nat → Nat → Int32} {J : Nat → Nat → Int64} (hn : (lg_sl av).length ≤ 2) (h : qMo_isAtHome_0 d mc ms (gMo_isAtHome d mc ms K) K (lv_args 0 av) [] E R I J 0 0) : CL yMo_isAtHome cMo_isAtHome 2 (some .boolean) (d + 1) mc ms av E R I J K :=
  CL.of (by decide +kernel) hn (zMo_isAtHome_0 (fun _ => Le.refl) _ _ _ _ _ _ _ _ h)
def qMo_balesOf_0 (d mc ms : Nat) (B : Nat → Pd) (K : Ps) : Pd := (i_ald 0 (i_ild 1 (i_ci 11 (i_call 0 12 yMo_of cMo_of 3 (some .int) mc ms d 3 (i_ald 0 (i_ild 1 (i_ci 12 (i_call 0 12 yMo_of cMo_of 3 (some .int) mc ms d 3 (i_iadd (i_ald 0 (i_ild 1 (i_ci 13 (i_call 0 12 yMo_of cMo_of 3 (some .int) mc ms d 3 (i_iadd (i_iret mc ms K)))))))))))))))
theorem zMo_balesOf_0 {d mc ms : Nat} {B : Nat → Pd} {K : Ps} (hB : ∀ pc, Le (B pc) (G cMo_balesOf "VoyageCompanyModel" 2 (some .int) "balesOf" (rm (d + 1) mc ms) (QM mc ms K) pc)) : Le (qMo_balesOf_0 d mc ms B K) (G cMo_balesOf "VoyageCompanyModel" 2 (some .int) "balesOf" (rm (d + 1) mc ms) (QM mc ms K) 0) := by
  unfold qMo_balesOf_0
  exact (s_ald_n (j := 0) (by decide +kernel) rfl (s_ild_n (j := 1) (by decide +kernel) rfl (s_bipush (n := 11) (v := 11) (by decide +kernel) (by decide +kernel) (s_call (idx := 138) (by decide +kernel) ml12_138 rmk (s_ald_n (j := 0) (by decide +kernel) rfl (s_ild_n (j := 1) (by decide +kernel) rfl (s_bipush (n := 12) (v := 12) (by decide +kernel) (by decide +kernel) (s_call (idx := 138) (by decide +kernel) ml12_138 rmk (s_iadd (by decide +kernel) (s_ald_n (j := 0) (by decide +kernel) rfl (s_ild_n (j := 1) (by decide +kernel) rfl (s_bipush (n := 13) (v := 13) (by decide +kernel) (by decide +kernel) (s_call (idx := 138) (by decide +kernel) ml12_138 rmk (s_iadd (by decide +kernel) (s_iret (by decide +kernel) rfl)))))))))))))))
/-- VoyageCompanyModel.balesOf(I)I, at its places -/
def gMo_balesOf (d mc ms : Nat) (K : Ps) : Nat → Pd := G cMo_balesOf "VoyageCompanyModel" 2 (some .int) "balesOf" (rm (d + 1) mc ms) (QM mc ms K)
theorem eMo_balesOf {d mc ms : Nat} {K : Ps} {av : List Value} {E : Nat → Prop} {R : Nat → Nat → Value} {I : Nat → Nat → Int32} {J : Nat → Nat → Int64} (hn : (lg_sl av).length ≤ 2) (h : qMo_balesOf_0 d mc ms (gMo_balesOf d mc ms K) K (lv_args 0 av) [] E R I J 0 0) : CL yMo_balesOf cMo_balesOf 2 (some .int) (d + 1) mc ms av E R I J K :=
  CL.of (by decide +kernel) hn (zMo_balesOf_0 (fun _ => Le.refl) _ _ _ _ _ _ _ _ h)
def qMo_roomOf_0 (d mc ms : Nat) (B : Nat → Pd) (K : Ps) : Pd := (i_ald 0 (i_ild 1 (i_ci 0 (i_call 0 12 yMo_of cMo_of 3 (some .int) mc ms d 3 (i_ald 0 (i_ild 1 (i_ci 8 (i_call 0 12 yMo_of cMo_of 3 (some .int) mc ms d 3 (i_isub (i_ald 0 (i_ild 1 (i_call 0 12 yMo_balesOf cMo_balesOf 2 (some .int) mc ms d 2 (i_isub (i_iret mc ms K))))))))))))))
theorem zMo_roomOf_0 {d mc ms : Nat} {B : Nat → Pd} {K : Ps} (hB : ∀ pc, Le (B pc) (G cMo_roomOf "VoyageCompanyModel" 2 (some .int) "roomOf" (rm (d + 1) mc ms) (QM mc ms K) pc)) : Le (qMo_roomOf_0 d mc ms B K) (G cMo_roomOf "VoyageCompanyModel" 2 (some .int) "roomOf" (rm (d + 1) mc ms) (QM mc ms K) 0) := by
  unfold qMo_roomOf_0
  exact (s_ald_n (j := 0) (by decide +kernel) rfl (s_ild_n (j := 1) (by decide +kernel) rfl (s_iconst (n := 0) (v := 0) (by decide +kernel) (by decide +kernel) (s_call (idx := 138) (by decide +kernel) ml12_138 rmk (s_ald_n (j := 0) (by decide +kernel) rfl (s_ild_n (j := 1) (by decide +kernel) rfl (s_bipush (n := 8) (v := 8) (by decide +kernel) (by decide +kernel) (s_call (idx := 138) (by decide +kernel) ml12_138 rmk (s_isub (by decide +kernel) (s_ald_n (j := 0) (by decide +kernel) rfl (s_ild_n (j := 1) (by decide +kernel) rfl (s_call (idx := 142) (by decide +kernel) ml12_142 rmk (s_isub (by decide +kernel) (s_iret (by decide +kernel) rfl))))))))))))))
/-- VoyageCompanyModel.roomOf(I)I, at its places -/
def gMo_roomOf (d mc ms : Nat) (K : Ps) : Nat → Pd := G cMo_roomOf "VoyageCompanyModel" 2 (some .int) "roomOf" (rm (d + 1) mc ms) (QM mc ms K)
theorem eMo_roomOf {d mc ms : Nat} {K : Ps} {av : List Value} {E : Nat → Prop} {R : Nat → Nat → Value} {I : Nat → Nat → Int32} {J : Nat → Nat → Int64} (hn : (lg_sl av).length ≤ 2) (h : qMo_roomOf_0 d mc ms (gMo_roomOf d mc ms K) K (lv_args 0 av) [] E R I J 0 0) : CL yMo_roomOf cMo_roomOf 2 (some .int) (d + 1) mc ms av E R I J K :=
  CL.of (by decide +kernel) hn (zMo_roomOf_0 (fun _ => Le.refl) _ _ _ _ _ _ _ _ h)
def qMo_letter_22 (d mc ms : Nat) (B : Nat → Pd) (K : Ps) : Pd := (i_ald 0 (i_getr 12 0 (i_ci 0 (i_iald (i_ci 3 (i_ild 1 (i_imul (i_iadd (i_ist 3 (i_ald 0 (i_getr 12 0 (i_ci 2000 (i_ci 620 (i_ild 1 (i_imul (i_iadd (i_ild 3 (i_iadd (i_ild 2 (i_iast (i_ild 3 (i_iret mc ms K))))))))))))))))))))))
theorem zMo_letter_22 {d mc ms : Nat} {B : Nat → Pd} {K : Ps} (hB : ∀ pc, Le (B pc) (G cMo_letter "VoyageCompanyModel" 4 (some .int) "letter" (rm (d + 1) mc ms) (QM mc ms K) pc)) : Le (qMo_letter_22 d mc ms B K) (G cMo_letter "VoyageCompanyModel" 4 (some .int) "letter" (rm (d + 1) mc ms) (QM mc ms K) 22) := by
  unfold qMo_letter_22
  exact (s_ald_n (j := 0) (by decide +kernel) rfl (s_getr (idx := 8) (by decide +kernel) fl12_8 (by decide) (s_iconst (n := 0) (v := 0) (by decide +kernel) (by decide +kernel) (s_iald (by decide +kernel) (s_iconst (n := 3) (v := 3) (by decide +kernel) (by decide +kernel) (s_ild_n (j := 1) (by decide +kernel) rfl (s_imul (by decide +kernel) (s_iadd (by decide +kernel) (s_ist_n (j := 3) (by decide +kernel) rfl (by decide) (s_ald_n (j := 0) (by decide +kernel) rfl (s_getr (idx := 8) (by decide +kernel) fl12_8 (by decide) (s_sipush (n := 2000) (v := 2000) (by decide +kernel) (by decide +kernel) (s_sipush (n := 620) (v := 620) (by decide +kernel) (by decide +kernel) (s_ild_n (j := 1) (by decide +kernel) rfl (s_imul (by decide +kernel) (s_iadd (by decide +kernel) (s_ild_n (j := 3) (by decide +kernel) rfl (s_iadd (by decide +kernel) (s_ild_n (j := 2) (by decide +kernel) rfl (s_iast (by decide +kernel) (s_ild_n (j := 3) (by decide +kernel) rfl (s_iret (by decide +kernel) rfl))))))))))))))))))))))
def qMo_letter_20 (d mc ms : Nat) (B : Nat → Pd) (K : Ps) : Pd := (i_ci (-1) (i_iret mc ms K))
theorem zMo_letter_20 {d mc ms : Nat} {B : Nat → Pd} {K : Ps} (hB : ∀ pc, Le (B pc) (G cMo_letter "VoyageCompanyModel" 4 (some .int) "letter" (rm (d + 1) mc ms) (QM mc ms K) pc)) : Le (qMo_letter_20 d mc ms B K) (G cMo_letter "VoyageCompanyModel" 4 (some .int) "letter" (rm (d + 1) mc ms) (QM mc ms K) 20) := by
  unfold qMo_letter_20
  exact (s_iconst (n := (-1)) (v := (-1)) (by decide +kernel) (by decide +kernel) (s_iret (by decide +kernel) rfl))
def qMo_letter_11 (d mc ms : Nat) (B : Nat → Pd) (K : Ps) : Pd := (i_ild 1 (i_ci 1 (i_ci 4 (i_call 2 12 yMo_isIn cMo_isIn 3 (some .boolean) mc ms d 3 (i_if_ne (qMo_letter_22 d mc ms B K) (qMo_letter_20 d mc ms B K))))))
theorem zMo_letter_11 {d mc ms : Nat} {B : Nat → Pd} {K : Ps} (hB : ∀ pc, Le (B pc) (G cMo_letter "VoyageCompanyModel" 4 (some .int) "letter" (rm (d + 1) mc ms) (QM mc ms K) pc)) : Le (qMo_letter_11 d mc ms B K) (G cMo_letter "VoyageCompanyModel" 4 (some .int) "letter" (rm (d + 1) mc ms) (QM mc ms K) 11) := by
  unfold qMo_letter_11
  exact (s_ild_n (j := 1) (by decide +kernel) rfl (s_iconst (n := 1) (v := 1) (by decide +kernel) (by decide +kernel) (s_iconst (n := 4) (v := 4) (by decide +kernel) (by decide +kernel) (s_call (idx := 25) (by decide +kernel) ml12_25 rmk (s_if_ne (off := 5) (tgt := 22) (by decide +kernel) (by decide) (zMo_letter_22 hB) (zMo_letter_20 hB))))))
def qMo_letter_0 (d mc ms : Nat) (B : Nat → Pd) (K : Ps) : Pd := (i_ild 2 (i_ci 1 (i_ci 9999 (i_call 2 12 yMo_isIn cMo_isIn 3 (some .boolean) mc ms d 3 (i_if_eq (qMo_letter_20 d mc ms B K) (qMo_letter_11 d mc ms B K))))))
theorem zMo_letter_0 {d mc ms : Nat} {B : Nat → Pd} {K : Ps} (hB : ∀ pc, Le (B pc) (G cMo_letter "VoyageCompanyModel" 4 (some .int) "letter" (rm (d + 1) mc ms) (QM mc ms K) pc)) : Le (qMo_letter_0 d mc ms B K) (G cMo_letter "VoyageCompanyModel" 4 (some .int) "letter" (rm (d + 1) mc ms) (QM mc ms K) 0) := by
  unfold qMo_letter_0
  exact (s_ild_n (j := 2) (by decide +kernel) rfl (s_iconst (n := 1) (v := 1) (by decide +kernel) (by decide +kernel) (s_sipush (n := 9999) (v := 9999) (by decide +kernel) (by decide +kernel) (s_call (idx := 25) (by decide +kernel) ml12_25 rmk (s_if_eq (off := 12) (tgt := 20) (by decide +kernel) (by decide) (zMo_letter_20 hB) (zMo_letter_11 hB))))))
/-- VoyageCompanyModel.letter(II)I, at its places -/
def gMo_letter (d mc ms : Nat) (K : Ps) : Nat → Pd := G cMo_letter "VoyageCompanyModel" 4 (some .int) "letter" (rm (d + 1) mc ms) (QM mc ms K)
theorem eMo_letter {d mc ms : Nat} {K : Ps} {av : List Value} {E : Nat → Prop} {R : Nat → Nat → Value} {I : Nat → Nat → Int32} {J : Nat → Nat → Int64} (hn : (lg_sl av).length ≤ 4) (h : qMo_letter_0 d mc ms (gMo_letter d mc ms K) K (lv_args 0 av) [] E R I J 0 0) : CL yMo_letter cMo_letter 4 (some .int) (d + 1) mc ms av E R I J K :=
  CL.of (by decide +kernel) hn (zMo_letter_0 (fun _ => Le.refl) _ _ _ _ _ _ _ _ h)
def qMo_isPerson_0 (d mc ms : Nat) (B : Nat → Pd) (K : Ps) : Pd := (i_ild 0 (i_ci 0 (i_ci 9 (i_call 2 12 yMo_isIn cMo_isIn 3 (some .boolean) mc ms d 3 (i_zret mc ms K)))))
theorem zMo_isPerson_0 {d mc ms : Nat} {B : Nat → Pd} {K : Ps} (hB : ∀ pc, Le (B pc) (G cMo_isPerson "VoyageCompanyModel" 1 (some .boolean) "isPerson" (rm (d + 1) mc ms) (QM mc ms K) pc)) : Le (qMo_isPerson_0 d mc ms B K) (G cMo_isPerson "VoyageCompanyModel" 1 (some .boolean) "isPerson" (rm (d + 1) mc ms) (QM mc ms K) 0) := by
  unfold qMo_isPerson_0
  exact (s_ild_n (j := 0) (by decide +kernel) rfl (s_iconst (n := 0) (v := 0) (by decide +kernel) (by decide +kernel) (s_bipush (n := 9) (v := 9) (by decide +kernel) (by decide +kernel) (s_call (idx := 25) (by decide +kernel) ml12_25 rmk (s_zret (by decide +kernel) rfl)))))
/-- VoyageCompanyModel.isPerson(I)Z, at its places -/
def gMo_isPerson (d mc ms : Nat) (K : Ps) : Nat → Pd := G cMo_isPerson "VoyageCompanyModel" 1 (some .boolean) "isPerson" (rm (d + 1) mc ms) (QM mc ms K)
theorem eMo_isPerson {d mc ms : Nat} {K : Ps} {av : List Value} {E : Nat → Prop} {R : Nat → Nat → Value} {I : Nat → Nat → Int32} {J : Nat → Nat → Int64} (hn : (lg_sl av).length ≤ 1) (h : qMo_isPerson_0 d mc ms (gMo_isPerson d mc ms K) K (lv_args 0 av) [] E R I J 0 0) : CL yMo_isPerson cMo_isPerson 1 (some .boolean) (d + 1) mc ms av E R I J K :=
  CL.of (by decide +kernel) hn (zMo_isPerson_0 (fun _ => Le.refl) _ _ _ _ _ _ _ _ h)
def qMo_subscribe_38 (d mc ms : Nat) (B : Nat → Pd) (K : Ps) : Pd := (i_ald 0 (i_getr 12 0 (i_ci 2 (i_dup2 (i_iald (i_ild 2 (i_iadd (i_iast (i_ald 0 (i_getr 12 0 (i_ci 150 (i_ci 10 (i_ild 1 (i_imul (i_iadd (i_dup2 (i_iald (i_ild 2 (i_iadd (i_iast (i_ald 0 (i_getr 12 0 (i_ci 10 (i_dup2 (i_iald (i_ci 100 (i_ild 2 (i_imul (i_iadd (i_iast (i_ald 0 (i_getr 12 1 (i_ci 0 (i_dup2 (i_lald (i_ci 100 (i_ild 2 (i_imul (i_i2l (i_ladd (i_last (i_ald 0 (i_getr 12 0 (i_ci 150 (i_ci 10 (i_ild 1 (i_imul (i_iadd (i_iald (i_iret mc ms K))))))))))))))))))))))))))))))))))))))))))))))))))
theorem zMo_subscribe_38 {d mc ms : Nat} {B : Nat → Pd} {K : Ps} (hB : ∀ pc, Le (B pc) (G cMo_subscribe "VoyageCompanyModel" 3 (some .int) "subscribe" (rm (d + 1) mc ms) (QM mc ms K) pc)) : Le (qMo_subscribe_38 d mc ms B K) (G cMo_subscribe "VoyageCompanyModel" 3 (some .int) "subscribe" (rm (d + 1) mc ms) (QM mc ms K) 38) := by
  unfold qMo_subscribe_38
  exact (s_ald_n (j := 0) (by decide +kernel) rfl (s_getr (idx := 8) (by decide +kernel) fl12_8 (by decide) (s_iconst (n := 2) (v := 2) (by decide +kernel) (by decide +kernel) (s_dup2 (by decide +kernel) (s_iald (by decide +kernel) (s_ild_n (j := 2) (by decide +kernel) rfl (s_iadd (by decide +kernel) (s_iast (by decide +kernel) (s_ald_n (j := 0) (by decide +kernel) rfl (s_getr (idx := 8) (by decide +kernel) fl12_8 (by decide) (s_sipush (n := 150) (v := 150) (by decide +kernel) (by decide +kernel) (s_bipush (n := 10) (v := 10) (by decide +kernel) (by decide +kernel) (s_ild_n (j := 1) (by decide +kernel) rfl (s_imul (by decide +kernel) (s_iadd (by decide +kernel) (s_dup2 (by decide +kernel) (s_iald (by decide +kernel) (s_ild_n (j := 2) (by decide +kernel) rfl (s_iadd (by decide +kernel) (s_iast (by decide +kernel) (s_ald_n (j := 0) (by decide +kernel) rfl (s_getr (idx := 8) (by decide +kernel) fl12_8 (by decide) (s_bipush (n := 10) (v := 10) (by decide +kernel) (by decide +kernel) (s_dup2 (by decide +kernel) (s_iald (by decide +kernel) (s_bipush (n := 100) (v := 100) (by decide +kernel) (by decide +kernel) (s_ild_n (j := 2) (by decide +kernel) rfl (s_imul (by decide +kernel) (s_iadd (by decide +kernel) (s_iast (by decide +kernel) (s_ald_n (j := 0) (by decide +kernel) rfl (s_getr (idx := 14) (by decide +kernel) fl12_14 (by decide) (s_iconst (n := 0) (v := 0) (by decide +kernel) (by decide +kernel) (s_dup2 (by decide +kernel) (s_lald (by decide +kernel) (s_bipush (n := 100) (v := 100) (by decide +kernel) (by decide +kernel) (s_ild_n (j := 2) (by decide +kernel) rfl (s_imul (by decide +kernel) (s_i2l (by decide +kernel) (s_ladd (by decide +kernel) (s_last (by decide +kernel) (s_ald_n (j := 0) (by decide +kernel) rfl (s_getr (idx := 8) (by decide +kernel) fl12_8 (by decide) (s_sipush (n := 150) (v := 150) (by decide +kernel) (by decide +kernel) (s_bipush (n := 10) (v := 10) (by decide +kernel) (by decide +kernel) (s_ild_n (j := 1) (by decide +kernel) rfl (s_imul (by decide +kernel) (s_iadd (by decide +kernel) (s_iald (by decide +kernel) (s_iret (by decide +kernel) rfl))))))))))))))))))))))))))))))))))))))))))))))))))
def qMo_subscribe_36 (d mc ms : Nat) (B : Nat → Pd) (K : Ps) : Pd := (i_ci (-1) (i_iret mc ms K))
theorem zMo_subscribe_36 {d mc ms : Nat} {B : Nat → Pd} {K : Ps} (hB : ∀ pc, Le (B pc) (G cMo_subscribe "VoyageCompanyModel" 3 (some .int) "subscribe" (rm (d + 1) mc ms) (QM mc ms K) pc)) : Le (qMo_subscribe_36 d mc ms B K) (G cMo_subscribe "VoyageCompanyModel" 3 (some .int) "subscribe" (rm (d + 1) mc ms) (QM mc ms K) 36) := by
  unfold qMo_subscribe_36
  exact (s_iconst (n := (-1)) (v := (-1)) (by decide +kernel) (by decide +kernel) (s_iret (by decide +kernel) rfl))
def qMo_subscribe_26 (d mc ms : Nat) (B : Nat → Pd) (K : Ps) : Pd := (i_ald 0 (i_getr 12 0 (i_ci 3 (i_iald (i_ci 1 (i_ic_ne (qMo_subscribe_38 d mc ms B K) (qMo_subscribe_36 d mc ms B K)))))))
theorem zMo_subscribe_26 {d mc ms : Nat} {B : Nat → Pd} {K : Ps} (hB : ∀ pc, Le (B pc) (G cMo_subscribe "VoyageCompanyModel" 3 (some .int) "subscribe" (rm (d + 1) mc ms) (QM mc ms K) pc)) : Le (qMo_subscribe_26 d mc ms B K) (G cMo_subscribe "VoyageCompanyModel" 3 (some .int) "subscribe" (rm (d + 1) mc ms) (QM mc ms K) 26) := by
  unfold qMo_subscribe_26
  exact (s_ald_n (j := 0) (by decide +kernel) rfl (s_getr (idx := 8) (by decide +kernel) fl12_8 (by decide) (s_iconst (n := 3) (v := 3) (by decide +kernel) (by decide +kernel) (s_iald (by decide +kernel) (s_iconst (n := 1) (v := 1) (by decide +kernel) (by decide +kernel) (s_ic_ne (off := 5) (tgt := 38) (by decide +kernel) (by decide) (zMo_subscribe_38 hB) (zMo_subscribe_36 hB)))))))
def qMo_subscribe_12 (d mc ms : Nat) (B : Nat → Pd) (K : Ps) : Pd := (i_ild 2 (i_ci 1000 (i_ald 0 (i_getr 12 0 (i_ci 2 (i_iald (i_isub (i_ic_gt (qMo_subscribe_36 d mc ms B K) (qMo_subscribe_26 d mc ms B K)))))))))
theorem zMo_subscribe_12 {d mc ms : Nat} {B : Nat → Pd} {K : Ps} (hB : ∀ pc, Le (B pc) (G cMo_subscribe "VoyageCompanyModel" 3 (some .int) "subscribe" (rm (d + 1) mc ms) (QM mc ms K) pc)) : Le (qMo_subscribe_12 d mc ms B K) (G cMo_subscribe "VoyageCompanyModel" 3 (some .int) "subscribe" (rm (d + 1) mc ms) (QM mc ms K) 12) := by
  unfold qMo_subscribe_12
  exact (s_ild_n (j := 2) (by decide +kernel) rfl (s_sipush (n := 1000) (v := 1000) (by decide +kernel) (by decide +kernel) (s_ald_n (j := 0) (by decide +kernel) rfl (s_getr (idx := 8) (by decide +kernel) fl12_8 (by decide) (s_iconst (n := 2) (v := 2) (by decide +kernel) (by decide +kernel) (s_iald (by decide +kernel) (s_isub (by decide +kernel) (s_ic_gt (off := 13) (tgt := 36) (by decide +kernel) (by decide) (zMo_subscribe_36 hB) (zMo_subscribe_26 hB)))))))))
def qMo_subscribe_7 (d mc ms : Nat) (B : Nat → Pd) (K : Ps) : Pd := (i_ild 2 (i_ci 1 (i_ic_lt (qMo_subscribe_36 d mc ms B K) (qMo_subscribe_12 d mc ms B K))))
theorem zMo_subscribe_7 {d mc ms : Nat} {B : Nat → Pd} {K : Ps} (hB : ∀ pc, Le (B pc) (G cMo_subscribe "VoyageCompanyModel" 3 (some .int) "subscribe" (rm (d + 1) mc ms) (QM mc ms K) pc)) : Le (qMo_subscribe_7 d mc ms B K) (G cMo_subscribe "VoyageCompanyModel" 3 (some .int) "subscribe" (rm (d + 1) mc ms) (QM mc ms K) 7) := by
  unfold qMo_subscribe_7
  exact (s_ild_n (j := 2) (by decide +kernel) rfl (s_iconst (n := 1) (v := 1) (by decide +kernel) (by decide +kernel) (s_ic_lt (off := 27) (tgt := 36) (by decide +kernel) (by decide) (zMo_subscribe_36 hB) (zMo_subscribe_12 hB))))
def qMo_subscribe_0 (d mc ms : Nat) (B : Nat → Pd) (K : Ps) : Pd := (i_ild 1 (i_call 2 12 yMo_isPerson cMo_isPerson 1 (some .boolean) mc ms d 1 (i_if_eq (qMo_subscribe_36 d mc ms B K) (qMo_subscribe_7 d mc ms B K))))
theorem zMo_subscribe_0 {d mc ms : Nat} {B : Nat → Pd} {K : Ps} (hB : ∀ pc, Le (B pc) (G cMo_subscribe "VoyageCompanyModel" 3 (some .int) "subscribe" (rm (d + 1) mc ms) (QM mc ms K) pc)) : Le (qMo_subscribe_0 d mc ms B K) (G cMo_subscribe "VoyageCompanyModel" 3 (some .int) "subscribe" (rm (d + 1) mc ms) (QM mc ms K) 0) := by
  unfold qMo_subscribe_0
  exact (s_ild_n (j := 1) (by decide +kernel) rfl (s_call (idx := 145) (by decide +kernel) ml12_145 rmk (s_if_eq (off := 32) (tgt := 36) (by decide +kernel) (by decide) (zMo_subscribe_36 hB) (zMo_subscribe_7 hB))))
/-- VoyageCompanyModel.subscribe(II)I, at its places -/
def gMo_subscribe (d mc ms : Nat) (K : Ps) : Nat → Pd := G cMo_subscribe "VoyageCompanyModel" 3 (some .int) "subscribe" (rm (d + 1) mc ms) (QM mc ms K)
theorem eMo_subscribe {d mc ms : Nat} {K : Ps} {av : List Value} {E : Nat → Prop} {R : Nat → Nat → Value} {I : Nat → Nat → Int32} {J : Nat → Nat → Int64} (hn : (lg_sl av).length ≤ 3) (h : qMo_subscribe_0 d mc ms (gMo_subscribe d mc ms K) K (lv_args 0 av) [] E R I J 0 0) : CL yMo_subscribe cMo_subscribe 3 (some .int) (d + 1) mc ms av E R I J K :=
  CL.of (by decide +kernel) hn (zMo_subscribe_0 (fun _ => Le.refl) _ _ _ _ _ _ _ _ h)
def qMo_transfer_43 (d mc ms : Nat) (B : Nat → Pd) (K : Ps) : Pd := (i_ald 0 (i_getr 12 0 (i_ci 150 (i_ci 10 (i_ild 1 (i_imul (i_iadd (i_dup2 (i_iald (i_ild 3 (i_isub (i_iast (i_ald 0 (i_getr 12 0 (i_ci 150 (i_ci 10 (i_ild 2 (i_imul (i_iadd (i_dup2 (i_iald (i_ild 3 (i_iadd (i_iast (i_ci 1 (i_zret mc ms K))))))))))))))))))))))))))
theorem zMo_transfer_43 {d mc ms : Nat} {B : Nat → Pd} {K : Ps} (hB : ∀ pc, Le (B pc) (G cMo_transfer "VoyageCompanyModel" 4 (some .boolean) "transfer" (rm (d + 1) mc ms) (QM mc ms K) pc)) : Le (qMo_transfer_43 d mc ms B K) (G cMo_transfer "VoyageCompanyModel" 4 (some .boolean) "transfer" (rm (d + 1) mc ms) (QM mc ms K) 43) := by
  unfold qMo_transfer_43
  exact (s_ald_n (j := 0) (by decide +kernel) rfl (s_getr (idx := 8) (by decide +kernel) fl12_8 (by decide) (s_sipush (n := 150) (v := 150) (by decide +kernel) (by decide +kernel) (s_bipush (n := 10) (v := 10) (by decide +kernel) (by decide +kernel) (s_ild_n (j := 1) (by decide +kernel) rfl (s_imul (by decide +kernel) (s_iadd (by decide +kernel) (s_dup2 (by decide +kernel) (s_iald (by decide +kernel) (s_ild_n (j := 3) (by decide +kernel) rfl (s_isub (by decide +kernel) (s_iast (by decide +kernel) (s_ald_n (j := 0) (by decide +kernel) rfl (s_getr (idx := 8) (by decide +kernel) fl12_8 (by decide) (s_sipush (n := 150) (v := 150) (by decide +kernel) (by decide +kernel) (s_bipush (n := 10) (v := 10) (by decide +kernel) (by decide +kernel) (s_ild_n (j := 2) (by decide +kernel) rfl (s_imul (by decide +kernel) (s_iadd (by decide +kernel) (s_dup2 (by decide +kernel) (s_iald (by decide +kernel) (s_ild_n (j := 3) (by decide +kernel) rfl (s_iadd (by decide +kernel) (s_iast (by decide +kernel) (s_iconst (n := 1) (v := 1) (by decide +kernel) (by decide +kernel) (s_zret (by decide +kernel) rfl))))))))))))))))))))))))))
def qMo_transfer_41 (d mc ms : Nat) (B : Nat → Pd) (K : Ps) : Pd := (i_ci 0 (i_zret mc ms K))
theorem zMo_transfer_41 {d mc ms : Nat} {B : Nat → Pd} {K : Ps} (hB : ∀ pc, Le (B pc) (G cMo_transfer "VoyageCompanyModel" 4 (some .boolean) "transfer" (rm (d + 1) mc ms) (QM mc ms K) pc)) : Le (qMo_transfer_41 d mc ms B K) (G cMo_transfer "VoyageCompanyModel" 4 (some .boolean) "transfer" (rm (d + 1) mc ms) (QM mc ms K) 41) := by
  unfold qMo_transfer_41
  exact (s_iconst (n := 0) (v := 0) (by decide +kernel) (by decide +kernel) (s_zret (by decide +kernel) rfl))
def qMo_transfer_24 (d mc ms : Nat) (B : Nat → Pd) (K : Ps) : Pd := (i_ild 3 (i_ald 0 (i_getr 12 0 (i_ci 150 (i_ci 10 (i_ild 1 (i_imul (i_iadd (i_iald (i_ic_le (qMo_transfer_43 d mc ms B K) (qMo_transfer_41 d mc ms B K)))))))))))
theorem zMo_transfer_24 {d mc ms : Nat} {B : Nat → Pd} {K : Ps} (hB : ∀ pc, Le (B pc) (G cMo_transfer "VoyageCompanyModel" 4 (some .boolean) "transfer" (rm (d + 1) mc ms) (QM mc ms K) pc)) : Le (qMo_transfer_24 d mc ms B K) (G cMo_transfer "VoyageCompanyModel" 4 (some .boolean) "transfer" (rm (d + 1) mc ms) (QM mc ms K) 24) := by
  unfold qMo_transfer_24
  exact (s_ild_n (j := 3) (by decide +kernel) rfl (s_ald_n (j := 0) (by decide +kernel) rfl (s_getr (idx := 8) (by decide +kernel) fl12_8 (by decide) (s_sipush (n := 150) (v := 150) (by decide +kernel) (by decide +kernel) (s_bipush (n := 10) (v := 10) (by decide +kernel) (by decide +kernel) (s_ild_n (j := 1) (by decide +kernel) rfl (s_imul (by decide +kernel) (s_iadd (by decide +kernel) (s_iald (by decide +kernel) (s_ic_le (off := 5) (tgt := 43) (by decide +kernel) (by decide) (zMo_transfer_43 hB) (zMo_transfer_41 hB)))))))))))
def qMo_transfer_19 (d mc ms : Nat) (B : Nat → Pd) (K : Ps) : Pd := (i_ild 3 (i_ci 1 (i_ic_lt (qMo_transfer_41 d mc ms B K) (qMo_transfer_24 d mc ms B K))))
theorem zMo_transfer_19 {d mc ms : Nat} {B : Nat → Pd} {K : Ps} (hB : ∀ pc, Le (B pc) (G cMo_transfer "VoyageCompanyModel" 4 (some .boolean) "transfer" (rm (d + 1) mc ms) (QM mc ms K) pc)) : Le (qMo_transfer_19 d mc ms B K) (G cMo_transfer "VoyageCompanyModel" 4 (some .boolean) "transfer" (rm (d + 1) mc ms) (QM mc ms K) 19) := by
  unfold qMo_transfer_19
  exact (s_ild_n (j := 3) (by decide +kernel) rfl (s_iconst (n := 1) (v := 1) (by decide +kernel) (by decide +kernel) (s_ic_lt (off := 20) (tgt := 41) (by decide +kernel) (by decide) (zMo_transfer_41 hB) (zMo_transfer_24 hB))))
def qMo_transfer_14 (d mc ms : Nat) (B : Nat → Pd) (K : Ps) : Pd := (i_ild 1 (i_ild 2 (i_ic_eq (qMo_transfer_41 d mc ms B K) (qMo_transfer_19 d mc ms B K))))
theorem zMo_transfer_14 {d mc ms : Nat} {B : Nat → Pd} {K : Ps} (hB : ∀ pc, Le (B pc) (G cMo_transfer "VoyageCompanyModel" 4 (some .boolean) "transfer" (rm (d + 1) mc ms) (QM mc ms K) pc)) : Le (qMo_transfer_14 d mc ms B K) (G cMo_transfer "VoyageCompanyModel" 4 (some .boolean) "transfer" (rm (d + 1) mc ms) (QM mc ms K) 14) := by
  unfold qMo_transfer_14
  exact (s_ild_n (j := 1) (by decide +kernel) rfl (s_ild_n (j := 2) (by decide +kernel) rfl (s_ic_eq (off := 25) (tgt := 41) (by decide +kernel) (by decide) (zMo_transfer_41 hB) (zMo_transfer_19 hB))))
def qMo_transfer_7 (d mc ms : Nat) (B : Nat → Pd) (K : Ps) : Pd := (i_ild 2 (i_call 2 12 yMo_isPerson cMo_isPerson 1 (some .boolean) mc ms d 1 (i_if_eq (qMo_transfer_41 d mc ms B K) (qMo_transfer_14 d mc ms B K))))
theorem zMo_transfer_7 {d mc ms : Nat} {B : Nat → Pd} {K : Ps} (hB : ∀ pc, Le (B pc) (G cMo_transfer "VoyageCompanyModel" 4 (some .boolean) "transfer" (rm (d + 1) mc ms) (QM mc ms K) pc)) : Le (qMo_transfer_7 d mc ms B K) (G cMo_transfer "VoyageCompanyModel" 4 (some .boolean) "transfer" (rm (d + 1) mc ms) (QM mc ms K) 7) := by
  unfold qMo_transfer_7
  exact (s_ild_n (j := 2) (by decide +kernel) rfl (s_call (idx := 145) (by decide +kernel) ml12_145 rmk (s_if_eq (off := 30) (tgt := 41) (by decide +kernel) (by decide) (zMo_transfer_41 hB) (zMo_transfer_14 hB))))
def qMo_transfer_0 (d mc ms : Nat) (B : Nat → Pd) (K : Ps) : Pd := (i_ild 1 (i_call 2 12 yMo_isPerson cMo_isPerson 1 (some .boolean) mc ms d 1 (i_if_eq (qMo_transfer_41 d mc ms B K) (qMo_transfer_7 d mc ms B K))))
theorem zMo_transfer_0 {d mc ms : Nat} {B : Nat → Pd} {K : Ps} (hB : ∀ pc, Le (B pc) (G cMo_transfer "VoyageCompanyModel" 4 (some .boolean) "transfer" (rm (d + 1) mc ms) (QM mc ms K) pc)) : Le (qMo_transfer_0 d mc ms B K) (G cMo_transfer "VoyageCompanyModel" 4 (some .boolean) "transfer" (rm (d + 1) mc ms) (QM mc ms K) 0) := by
  unfold qMo_transfer_0
  exact (s_ild_n (j := 1) (by decide +kernel) rfl (s_call (idx := 145) (by decide +kernel) ml12_145 rmk (s_if_eq (off := 37) (tgt := 41) (by decide +kernel) (by decide) (zMo_transfer_41 hB) (zMo_transfer_7 hB))))
/-- VoyageCompanyModel.transfer(III)Z, at its places -/
def gMo_transfer (d mc ms : Nat) (K : Ps) : Nat → Pd := G cMo_transfer "VoyageCompanyModel" 4 (some .boolean) "transfer" (rm (d + 1) mc ms) (QM mc ms K)
theorem eMo_transfer {d mc ms : Nat} {K : Ps} {av : List Value} {E : Nat → Prop} {R : Nat → Nat → Value} {I : Nat → Nat → Int32} {J : Nat → Nat → Int64} (hn : (lg_sl av).length ≤ 4) (h : qMo_transfer_0 d mc ms (gMo_transfer d mc ms K) K (lv_args 0 av) [] E R I J 0 0) : CL yMo_transfer cMo_transfer 4 (some .boolean) (d + 1) mc ms av E R I J K :=
  CL.of (by decide +kernel) hn (zMo_transfer_0 (fun _ => Le.refl) _ _ _ _ _ _ _ _ h)
def qMo_shares_24 (d mc ms : Nat) (B : Nat → Pd) (K : Ps) : Pd := (i_iret mc ms K)
theorem zMo_shares_24 {d mc ms : Nat} {B : Nat → Pd} {K : Ps} (hB : ∀ pc, Le (B pc) (G cMo_shares "VoyageCompanyModel" 2 (some .int) "shares" (rm (d + 1) mc ms) (QM mc ms K) pc)) : Le (qMo_shares_24 d mc ms B K) (G cMo_shares "VoyageCompanyModel" 2 (some .int) "shares" (rm (d + 1) mc ms) (QM mc ms K) 24) := by
  unfold qMo_shares_24
  exact (s_iret (by decide +kernel) rfl)
def qMo_shares_23 (d mc ms : Nat) (B : Nat → Pd) (K : Ps) : Pd := (i_ci (-1) (qMo_shares_24 d mc ms B K))
theorem zMo_shares_23 {d mc ms : Nat} {B : Nat → Pd} {K : Ps} (hB : ∀ pc, Le (B pc) (G cMo_shares "VoyageCompanyModel" 2 (some .int) "shares" (rm (d + 1) mc ms) (QM mc ms K) pc)) : Le (qMo_shares_23 d mc ms B K) (G cMo_shares "VoyageCompanyModel" 2 (some .int) "shares" (rm (d + 1) mc ms) (QM mc ms K) 23) := by
  unfold qMo_shares_23
  exact (s_iconst (n := (-1)) (v := (-1)) (by decide +kernel) (by decide +kernel) (zMo_shares_24 hB))
def qMo_shares_7 (d mc ms : Nat) (B : Nat → Pd) (K : Ps) : Pd := (i_ald 0 (i_getr 12 0 (i_ci 150 (i_ci 10 (i_ild 1 (i_imul (i_iadd (i_iald (qMo_shares_24 d mc ms B K)))))))))
theorem zMo_shares_7 {d mc ms : Nat} {B : Nat → Pd} {K : Ps} (hB : ∀ pc, Le (B pc) (G cMo_shares "VoyageCompanyModel" 2 (some .int) "shares" (rm (d + 1) mc ms) (QM mc ms K) pc)) : Le (qMo_shares_7 d mc ms B K) (G cMo_shares "VoyageCompanyModel" 2 (some .int) "shares" (rm (d + 1) mc ms) (QM mc ms K) 7) := by
  unfold qMo_shares_7
  exact (s_ald_n (j := 0) (by decide +kernel) rfl (s_getr (idx := 8) (by decide +kernel) fl12_8 (by decide) (s_sipush (n := 150) (v := 150) (by decide +kernel) (by decide +kernel) (s_bipush (n := 10) (v := 10) (by decide +kernel) (by decide +kernel) (s_ild_n (j := 1) (by decide +kernel) rfl (s_imul (by decide +kernel) (s_iadd (by decide +kernel) (s_iald (by decide +kernel) (s_goto (off := 4) (tgt := 24) (by decide +kernel) (by decide) (zMo_shares_24 hB))))))))))
def qMo_shares_0 (d mc ms : Nat) (B : Nat → Pd) (K : Ps) : Pd := (i_ild 1 (i_call 2 12 yMo_isPerson cMo_isPerson 1 (some .boolean) mc ms d 1 (i_if_eq (qMo_shares_23 d mc ms B K) (qMo_shares_7 d mc ms B K))))
theorem zMo_shares_0 {d mc ms : Nat} {B : Nat → Pd} {K : Ps} (hB : ∀ pc, Le (B pc) (G cMo_shares "VoyageCompanyModel" 2 (some .int) "shares" (rm (d + 1) mc ms) (QM mc ms K) pc)) : Le (qMo_shares_0 d mc ms B K) (G cMo_shares "VoyageCompanyModel" 2 (some .int) "shares" (rm (d + 1) mc ms) (QM mc ms K) 0) := by
  unfold qMo_shares_0
  exact (s_ild_n (j := 1) (by decide +kernel) rfl (s_call (idx := 145) (by decide +kernel) ml12_145 rmk (s_if_eq (off := 19) (tgt := 23) (by decide +kernel) (by decide) (zMo_shares_23 hB) (zMo_shares_7 hB))))
/-- VoyageCompanyModel.shares(I)I, at its places -/
def gMo_shares (d mc ms : Nat) (K : Ps) : Nat → Pd := G cMo_shares "VoyageCompanyModel" 2 (some .int) "shares" (rm (d + 1) mc ms) (QM mc ms K)
theorem eMo_shares {d mc ms : Nat} {K : Ps} {av : List Value} {E : Nat → Prop} {R : Nat → Nat → Value} {I : Nat → Nat → Int32} {J : Nat → Nat → Int64} (hn : (lg_sl av).length ≤ 2) (h : qMo_shares_0 d mc ms (gMo_shares d mc ms K) K (lv_args 0 av) [] E R I J 0 0) : CL yMo_shares cMo_shares 2 (some .int) (d + 1) mc ms av E R I J K :=
  CL.of (by decide +kernel) hn (zMo_shares_0 (fun _ => Le.refl) _ _ _ _ _ _ _ _ h)
def qMo_carried_66 (d mc ms : Nat) (B : Nat → Pd) (K : Ps) : Pd := (i_iret mc ms K)
theorem zMo_carried_66 {d mc ms : Nat} {B : Nat → Pd} {K : Ps} (hB : ∀ pc, Le (B pc) (G cMo_carried "VoyageCompanyModel" 4 (some .int) "carried" (rm (d + 1) mc ms) (QM mc ms K) pc)) : Le (qMo_carried_66 d mc ms B K) (G cMo_carried "VoyageCompanyModel" 4 (some .int) "carried" (rm (d + 1) mc ms) (QM mc ms K) 66) := by
  unfold qMo_carried_66
  exact (s_iret (by decide +kernel) rfl)
def qMo_carried_58 (d mc ms : Nat) (B : Nat → Pd) (K : Ps) : Pd := (i_ild 2 (i_ald 0 (i_getr 12 0 (i_ci 2 (i_iald (i_idiv (qMo_carried_66 d mc ms B K)))))))
theorem zMo_carried_58 {d mc ms : Nat} {B : Nat → Pd} {K : Ps} (hB : ∀ pc, Le (B pc) (G cMo_carried "VoyageCompanyModel" 4 (some .int) "carried" (rm (d + 1) mc ms) (QM mc ms K) pc)) : Le (qMo_carried_58 d mc ms B K) (G cMo_carried "VoyageCompanyModel" 4 (some .int) "carried" (rm (d + 1) mc ms) (QM mc ms K) 58) := by
  unfold qMo_carried_58
  exact (s_ild_n (j := 2) (by decide +kernel) rfl (s_ald_n (j := 0) (by decide +kernel) rfl (s_getr (idx := 8) (by decide +kernel) fl12_8 (by decide) (s_iconst (n := 2) (v := 2) (by decide +kernel) (by decide +kernel) (s_iald (by decide +kernel) (s_idiv (by decide +kernel) (zMo_carried_66 hB)))))))
def qMo_carried_54 (d mc ms : Nat) (B : Nat → Pd) (K : Ps) : Pd := (i_ci 0 (qMo_carried_66 d mc ms B K))
theorem zMo_carried_54 {d mc ms : Nat} {B : Nat → Pd} {K : Ps} (hB : ∀ pc, Le (B pc) (G cMo_carried "VoyageCompanyModel" 4 (some .int) "carried" (rm (d + 1) mc ms) (QM mc ms K) pc)) : Le (qMo_carried_54 d mc ms B K) (G cMo_carried "VoyageCompanyModel" 4 (some .int) "carried" (rm (d + 1) mc ms) (QM mc ms K) 54) := by
  unfold qMo_carried_54
  exact (s_iconst (n := 0) (v := 0) (by decide +kernel) (by decide +kernel) (s_goto (off := 11) (tgt := 66) (by decide +kernel) (by decide) (zMo_carried_66 hB)))
def qMo_carried_45 (d mc ms : Nat) (B : Nat → Pd) (K : Ps) : Pd := (i_ald 0 (i_getr 12 0 (i_ci 2 (i_iald (i_if_ne (qMo_carried_58 d mc ms B K) (qMo_carried_54 d mc ms B K))))))
theorem zMo_carried_45 {d mc ms : Nat} {B : Nat → Pd} {K : Ps} (hB : ∀ pc, Le (B pc) (G cMo_carried "VoyageCompanyModel" 4 (some .int) "carried" (rm (d + 1) mc ms) (QM mc ms K) pc)) : Le (qMo_carried_45 d mc ms B K) (G cMo_carried "VoyageCompanyModel" 4 (some .int) "carried" (rm (d + 1) mc ms) (QM mc ms K) 45) := by
  unfold qMo_carried_45
  exact (s_ald_n (j := 0) (by decide +kernel) rfl (s_getr (idx := 8) (by decide +kernel) fl12_8 (by decide) (s_iconst (n := 2) (v := 2) (by decide +kernel) (by decide +kernel) (s_iald (by decide +kernel) (s_if_ne (off := 7) (tgt := 58) (by decide +kernel) (by decide) (zMo_carried_58 hB) (zMo_carried_54 hB))))))
def qMo_carried_19 (d mc ms : Nat) (B : Nat → Pd) (K : Ps) : Pd := (i_ild 2 (i_ald 0 (i_getr 12 0 (i_ci 150 (i_ci 10 (i_ild 3 (i_imul (i_iadd (i_ci 1 (i_iadd (i_ild 1 (i_iadd (i_iald (i_iadd (i_ist 2 (i_inc 3 1 (B 13)))))))))))))))))
theorem zMo_carried_19 {d mc ms : Nat} {B : Nat → Pd} {K : Ps} (hB : ∀ pc, Le (B pc) (G cMo_carried "VoyageCompanyModel" 4 (some .int) "carried" (rm (d + 1) mc ms) (QM mc ms K) pc)) : Le (qMo_carried_19 d mc ms B K) (G cMo_carried "VoyageCompanyModel" 4 (some .int) "carried" (rm (d + 1) mc ms) (QM mc ms K) 19) := by
  unfold qMo_carried_19
  exact (s_ild_n (j := 2) (by decide +kernel) rfl (s_ald_n (j := 0) (by decide +kernel) rfl (s_getr (idx := 8) (by decide +kernel) fl12_8 (by decide) (s_sipush (n := 150) (v := 150) (by decide +kernel) (by decide +kernel) (s_bipush (n := 10) (v := 10) (by decide +kernel) (by decide +kernel) (s_ild_n (j := 3) (by decide +kernel) rfl (s_imul (by decide +kernel) (s_iadd (by decide +kernel) (s_iconst (n := 1) (v := 1) (by decide +kernel) (by decide +kernel) (s_iadd (by decide +kernel) (s_ild_n (j := 1) (by decide +kernel) rfl (s_iadd (by decide +kernel) (s_iald (by decide +kernel) (s_iadd (by decide +kernel) (s_ist_n (j := 2) (by decide +kernel) rfl (by decide) (s_inc (z := 1) (by decide +kernel) (by decide +kernel) (by decide) (s_goto (off := (-29)) (tgt := 13) (by decide +kernel) (by decide) (hB 13))))))))))))))))))
def qMo_carried_13 (d mc ms : Nat) (B : Nat → Pd) (K : Ps) : Pd := (i_ild 3 (i_ci 10 (i_ic_ge (qMo_carried_45 d mc ms B K) (qMo_carried_19 d mc ms B K))))
theorem zMo_carried_13 {d mc ms : Nat} {B : Nat → Pd} {K : Ps} (hB : ∀ pc, Le (B pc) (G cMo_carried "VoyageCompanyModel" 4 (some .int) "carried" (rm (d + 1) mc ms) (QM mc ms K) pc)) : Le (qMo_carried_13 d mc ms B K) (G cMo_carried "VoyageCompanyModel" 4 (some .int) "carried" (rm (d + 1) mc ms) (QM mc ms K) 13) := by
  unfold qMo_carried_13
  exact (s_ild_n (j := 3) (by decide +kernel) rfl (s_bipush (n := 10) (v := 10) (by decide +kernel) (by decide +kernel) (s_ic_ge (off := 29) (tgt := 45) (by decide +kernel) (by decide) (zMo_carried_45 hB) (zMo_carried_19 hB))))
def qMo_carried_9 (d mc ms : Nat) (B : Nat → Pd) (K : Ps) : Pd := (i_ci 0 (i_ist 2 (i_ci 0 (i_ist 3 (B 13)))))
theorem zMo_carried_9 {d mc ms : Nat} {B : Nat → Pd} {K : Ps} (hB : ∀ pc, Le (B pc) (G cMo_carried "VoyageCompanyModel" 4 (some .int) "carried" (rm (d + 1) mc ms) (QM mc ms K) pc)) : Le (qMo_carried_9 d mc ms B K) (G cMo_carried "VoyageCompanyModel" 4 (some .int) "carried" (rm (d + 1) mc ms) (QM mc ms K) 9) := by
  unfold qMo_carried_9
  exact (s_iconst (n := 0) (v := 0) (by decide +kernel) (by decide +kernel) (s_ist_n (j := 2) (by decide +kernel) rfl (by decide) (s_iconst (n := 0) (v := 0) (by decide +kernel) (by decide +kernel) (s_ist_n (j := 3) (by decide +kernel) rfl (by decide) (hB 13)))))
def qMo_carried_7 (d mc ms : Nat) (B : Nat → Pd) (K : Ps) : Pd := (i_ci (-1) (i_iret mc ms K))
theorem zMo_carried_7 {d mc ms : Nat} {B : Nat → Pd} {K : Ps} (hB : ∀ pc, Le (B pc) (G cMo_carried "VoyageCompanyModel" 4 (some .int) "carried" (rm (d + 1) mc ms) (QM mc ms K) pc)) : Le (qMo_carried_7 d mc ms B K) (G cMo_carried "VoyageCompanyModel" 4 (some .int) "carried" (rm (d + 1) mc ms) (QM mc ms K) 7) := by
  unfold qMo_carried_7
  exact (s_iconst (n := (-1)) (v := (-1)) (by decide +kernel) (by decide +kernel) (s_iret (by decide +kernel) rfl))
def qMo_carried_0 (d mc ms : Nat) (B : Nat → Pd) (K : Ps) : Pd := (i_ild 1 (i_call 2 12 yMo_isGood cMo_isGood 1 (some .boolean) mc ms d 1 (i_if_ne (qMo_carried_9 d mc ms B K) (qMo_carried_7 d mc ms B K))))
theorem zMo_carried_0 {d mc ms : Nat} {B : Nat → Pd} {K : Ps} (hB : ∀ pc, Le (B pc) (G cMo_carried "VoyageCompanyModel" 4 (some .int) "carried" (rm (d + 1) mc ms) (QM mc ms K) pc)) : Le (qMo_carried_0 d mc ms B K) (G cMo_carried "VoyageCompanyModel" 4 (some .int) "carried" (rm (d + 1) mc ms) (QM mc ms K) 0) := by
  unfold qMo_carried_0
  exact (s_ild_n (j := 1) (by decide +kernel) rfl (s_call (idx := 148) (by decide +kernel) ml12_148 rmk (s_if_ne (off := 5) (tgt := 9) (by decide +kernel) (by decide) (zMo_carried_9 hB) (zMo_carried_7 hB))))
/-- VoyageCompanyModel.carried(I)I, at its places -/
def gMo_carried (d mc ms : Nat) (K : Ps) : Nat → Pd := G cMo_carried "VoyageCompanyModel" 4 (some .int) "carried" (rm (d + 1) mc ms) (QM mc ms K)
theorem eMo_carried {d mc ms : Nat} {K : Ps} {av : List Value} {E : Nat → Prop} {R : Nat → Nat → Value} {I : Nat → Nat → Int32} {J : Nat → Nat → Int64} (hn : (lg_sl av).length ≤ 4) (h : qMo_carried_0 d mc ms (gMo_carried d mc ms K) K (lv_args 0 av) [] E R I J 0 0) : CL yMo_carried cMo_carried 4 (some .int) (d + 1) mc ms av E R I J K :=
  CL.of (by decide +kernel) hn (zMo_carried_0 (fun _ => Le.refl) _ _ _ _ _ _ _ _ h)
theorem lMo_carried_13 {d mc ms : Nat} {K : Ps} : Le (qMo_carried_13 d mc ms (gMo_carried d mc ms K) K) (gMo_carried d mc ms K 13) := zMo_carried_13 (fun _ => Le.refl)
def qMo_divide_160 (d mc ms : Nat) (B : Nat → Pd) (K : Ps) : Pd := (i_ald 0 (i_getr 12 0 (i_ci 10 (i_ild 1 (i_iadd (i_dup2 (i_iald (i_ild 3 (i_isub (i_iast (i_ald 0 (i_getr 12 1 (i_ci 8 (i_ild 1 (i_imul (i_ci 3 (i_iadd (i_dup2 (i_lald (i_ild 3 (i_i2l (i_ladd (i_last (i_ild 3 (i_iret mc ms K)))))))))))))))))))))))))
theorem zMo_divide_160 {d mc ms : Nat} {B : Nat → Pd} {K : Ps} (hB : ∀ pc, Le (B pc) (G cMo_divide "VoyageCompanyModel" 9 (some .int) "divide" (rm (d + 1) mc ms) (QM mc ms K) pc)) : Le (qMo_divide_160 d mc ms B K) (G cMo_divide "VoyageCompanyModel" 9 (some .int) "divide" (rm (d + 1) mc ms) (QM mc ms K) 160) := by
  unfold qMo_divide_160
  exact (s_ald_n (j := 0) (by decide +kernel) rfl (s_getr (idx := 8) (by decide +kernel) fl12_8 (by decide) (s_bipush (n := 10) (v := 10) (by decide +kernel) (by decide +kernel) (s_ild_n (j := 1) (by decide +kernel) rfl (s_iadd (by decide +kernel) (s_dup2 (by decide +kernel) (s_iald (by decide +kernel) (s_ild_n (j := 3) (by decide +kernel) rfl (s_isub (by decide +kernel) (s_iast (by decide +kernel) (s_ald_n (j := 0) (by decide +kernel) rfl (s_getr (idx := 14) (by decide +kernel) fl12_14 (by decide) (s_bipush (n := 8) (v := 8) (by decide +kernel) (by decide +kernel) (s_ild_n (j := 1) (by decide +kernel) rfl (s_imul (by decide +kernel) (s_iconst (n := 3) (v := 3) (by decide +kernel) (by decide +kernel) (s_iadd (by decide +kernel) (s_dup2 (by decide +kernel) (s_lald (by decide +kernel) (s_ild_n (j := 3) (by decide +kernel) rfl (s_i2l (by decide +kernel) (s_ladd (by decide +kernel) (s_last (by decide +kernel) (s_ild_n (j := 3) (by decide +kernel) rfl (s_iret (by decide +kernel) rfl)))))))))))))))))))))))))
def qMo_divide_61 (d mc ms : Nat) (B : Nat → Pd) (K : Ps) : Pd := (i_ci 150 (i_ci 10 (i_ild 4 (i_imul (i_iadd (i_ist 5 (i_ald 0 (i_getr 12 0 (i_ild 5 (i_ci 1 (i_iadd (i_ild 1 (i_iadd (i_iald (i_i2l (i_ald 0 (i_getr 12 0 (i_ild 5 (i_iald (i_i2l (i_ild 2 (i_i2l (i_lmul (i_ladd (i_lst 6 (i_lld 6 (i_ald 0 (i_getr 12 0 (i_ci 2 (i_iald (i_i2l (i_ldiv (i_l2i (i_ist 8 (i_ald 0 (i_getr 12 0 (i_ild 5 (i_ci 1 (i_iadd (i_ild 1 (i_iadd (i_lld 6 (i_ald 0 (i_getr 12 0 (i_ci 2 (i_iald (i_i2l (i_lrem (i_l2i (i_iast (i_ald 0 (i_getr 12 0 (i_ild 5 (i_ci 5 (i_iadd (i_ild 1 (i_iadd (i_dup2 (i_iald (i_ild 8 (i_iadd (i_iast (i_ild 3 (i_ild 8 (i_iadd (i_ist 3 (i_inc 4 1 (B 54))))))))))))))))))))))))))))))))))))))))))))))))))))))))))))))))))))
theorem zMo_divide_61 {d mc ms : Nat} {B : Nat → Pd} {K : Ps} (hB : ∀ pc, Le (B pc) (G cMo_divide "VoyageCompanyModel" 9 (some .int) "divide" (rm (d + 1) mc ms) (QM mc ms K) pc)) : Le (qMo_divide_61 d mc ms B K) (G cMo_divide "VoyageCompanyModel" 9 (some .int) "divide" (rm (d + 1) mc ms) (QM mc ms K) 61) := by
  unfold qMo_divide_61
  exact (s_sipush (n := 150) (v := 150) (by decide +kernel) (by decide +kernel) (s_bipush (n := 10) (v := 10) (by decide +kernel) (by decide +kernel) (s_ild (by decide +kernel) (s_imul (by decide +kernel) (s_iadd (by decide +kernel) (s_ist (by decide +kernel) (by decide) (s_ald_n (j := 0) (by decide +kernel) rfl (s_getr (idx := 8) (by decide +kernel) fl12_8 (by decide) (s_ild (by decide +kernel) (s_iconst (n := 1) (v := 1) (by decide +kernel) (by decide +kernel) (s_iadd (by decide +kernel) (s_ild_n (j := 1) (by decide +kernel) rfl (s_iadd (by decide +kernel) (s_iald (by decide +kernel) (s_i2l (by decide +kernel) (s_ald_n (j := 0) (by decide +kernel) rfl (s_getr (idx := 8) (by decide +kernel) fl12_8 (by decide) (s_ild (by decide +kernel) (s_iald (by decide +kernel) (s_i2l (by decide +kernel) (s_ild_n (j := 2) (by decide +kernel) rfl (s_i2l (by decide +kernel) (s_lmul (by decide +kernel) (s_ladd (by decide +kernel) (s_lst (by decide +kernel) (by decide) (s_lld (by decide +kernel) (s_ald_n (j := 0) (by decide +kernel) rfl (s_getr (idx := 8) (by decide +kernel) fl12_8 (by decide) (s_iconst (n := 2) (v := 2) (by decide +kernel) (by decide +kernel) (s_iald (by decide +kernel) (s_i2l (by decide +kernel) (s_ldiv (by decide +kernel) (s_l2i (by decide +kernel) (s_ist (by decide +kernel) (by decide) (s_ald_n (j := 0) (by decide +kernel) rfl (s_getr (idx := 8) (by decide +kernel) fl12_8 (by decide) (s_ild (by decide +kernel) (s_iconst (n := 1) (v := 1) (by decide +kernel) (by decide +kernel) (s_iadd (by decide +kernel) (s_ild_n (j := 1) (by decide +kernel) rfl (s_iadd (by decide +kernel) (s_lld (by decide +kernel) (s_ald_n (j := 0) (by decide +kernel) rfl (s_getr (idx := 8) (by decide +kernel) fl12_8 (by decide) (s_iconst (n := 2) (v := 2) (by decide +kernel) (by decide +kernel) (s_iald (by decide +kernel) (s_i2l (by decide +kernel) (s_lrem (by decide +kernel) (s_l2i (by decide +kernel) (s_iast (by decide +kernel) (s_ald_n (j := 0) (by decide +kernel) rfl (s_getr (idx := 8) (by decide +kernel) fl12_8 (by decide) (s_ild (by decide +kernel) (s_iconst (n := 5) (v := 5) (by decide +kernel) (by decide +kernel) (s_iadd (by decide +kernel) (s_ild_n (j := 1) (by decide +kernel) rfl (s_iadd (by decide +kernel) (s_dup2 (by decide +kernel) (s_iald (by decide +kernel) (s_ild (by decide +kernel) (s_iadd (by decide +kernel) (s_iast (by decide +kernel) (s_ild_n (j := 3) (by decide +kernel) rfl (s_ild (by decide +kernel) (s_iadd (by decide +kernel) (s_ist_n (j := 3) (by decide +kernel) rfl (by decide) (s_inc (z := 1) (by decide +kernel) (by decide +kernel) (by decide) (s_goto (off := (-103)) (tgt := 54) (by decide +kernel) (by decide) (hB 54)))))))))))))))))))))))))))))))))))))))))))))))))))))))))))))))))))))
def qMo_divide_54 (d mc ms : Nat) (B : Nat → Pd) (K : Ps) : Pd := (i_ild 4 (i_ci 10 (i_ic_ge (qMo_divide_160 d mc ms B K) (qMo_divide_61 d mc ms B K))))
theorem zMo_divide_54 {d mc ms : Nat} {B : Nat → Pd} {K : Ps} (hB : ∀ pc, Le (B pc) (G cMo_divide "VoyageCompanyModel" 9 (some .int) "divide" (rm (d + 1) mc ms) (QM mc ms K) pc)) : Le (qMo_divide_54 d mc ms B K) (G cMo_divide "VoyageCompanyModel" 9 (some .int) "divide" (rm (d + 1) mc ms) (QM mc ms K) 54) := by
  unfold qMo_divide_54
  exact (s_ild (by decide +kernel) (s_bipush (n := 10) (v := 10) (by decide +kernel) (by decide +kernel) (s_ic_ge (off := 102) (tgt := 160) (by decide +kernel) (by decide) (zMo_divide_160 hB) (zMo_divide_61 hB))))
def qMo_divide_42 (d mc ms : Nat) (B : Nat → Pd) (K : Ps) : Pd := (i_ald 0 (i_getr 12 0 (i_ci 3 (i_ci 1 (i_iast (i_ci 0 (i_ist 3 (i_ci 0 (i_ist 4 (B 54))))))))))
theorem zMo_divide_42 {d mc ms : Nat} {B : Nat → Pd} {K : Ps} (hB : ∀ pc, Le (B pc) (G cMo_divide "VoyageCompanyModel" 9 (some .int) "divide" (rm (d + 1) mc ms) (QM mc ms K) pc)) : Le (qMo_divide_42 d mc ms B K) (G cMo_divide "VoyageCompanyModel" 9 (some .int) "divide" (rm (d + 1) mc ms) (QM mc ms K) 42) := by
  unfold qMo_divide_42
  exact (s_ald_n (j := 0) (by decide +kernel) rfl (s_getr (idx := 8) (by decide +kernel) fl12_8 (by decide) (s_iconst (n := 3) (v := 3) (by decide +kernel) (by decide +kernel) (s_iconst (n := 1) (v := 1) (by decide +kernel) (by decide +kernel) (s_iast (by decide +kernel) (s_iconst (n := 0) (v := 0) (by decide +kernel) (by decide +kernel) (s_ist_n (j := 3) (by decide +kernel) rfl (by decide) (s_iconst (n := 0) (v := 0) (by decide +kernel) (by decide +kernel) (s_ist (by decide +kernel) (by decide) (hB 54))))))))))
def qMo_divide_40 (d mc ms : Nat) (B : Nat → Pd) (K : Ps) : Pd := (i_ci (-1) (i_iret mc ms K))
theorem zMo_divide_40 {d mc ms : Nat} {B : Nat → Pd} {K : Ps} (hB : ∀ pc, Le (B pc) (G cMo_divide "VoyageCompanyModel" 9 (some .int) "divide" (rm (d + 1) mc ms) (QM mc ms K) pc)) : Le (qMo_divide_40 d mc ms B K) (G cMo_divide "VoyageCompanyModel" 9 (some .int) "divide" (rm (d + 1) mc ms) (QM mc ms K) 40) := by
  unfold qMo_divide_40
  exact (s_iconst (n := (-1)) (v := (-1)) (by decide +kernel) (by decide +kernel) (s_iret (by decide +kernel) rfl))
def qMo_divide_21 (d mc ms : Nat) (B : Nat → Pd) (K : Ps) : Pd := (i_ild 2 (i_ald 0 (i_getr 12 0 (i_ci 10 (i_ild 1 (i_iadd (i_iald (i_ald 0 (i_ild 1 (i_call 0 12 yMo_carried cMo_carried 4 (some .int) mc ms d 2 (i_isub (i_ic_le (qMo_divide_42 d mc ms B K) (qMo_divide_40 d mc ms B K)))))))))))))
theorem zMo_divide_21 {d mc ms : Nat} {B : Nat → Pd} {K : Ps} (hB : ∀ pc, Le (B pc) (G cMo_divide "VoyageCompanyModel" 9 (some .int) "divide" (rm (d + 1) mc ms) (QM mc ms K) pc)) : Le (qMo_divide_21 d mc ms B K) (G cMo_divide "VoyageCompanyModel" 9 (some .int) "divide" (rm (d + 1) mc ms) (QM mc ms K) 21) := by
  unfold qMo_divide_21
  exact (s_ild_n (j := 2) (by decide +kernel) rfl (s_ald_n (j := 0) (by decide +kernel) rfl (s_getr (idx := 8) (by decide +kernel) fl12_8 (by decide) (s_bipush (n := 10) (v := 10) (by decide +kernel) (by decide +kernel) (s_ild_n (j := 1) (by decide +kernel) rfl (s_iadd (by decide +kernel) (s_iald (by decide +kernel) (s_ald_n (j := 0) (by decide +kernel) rfl (s_ild_n (j := 1) (by decide +kernel) rfl (s_call (idx := 151) (by decide +kernel) ml12_151 rmk (s_isub (by decide +kernel) (s_ic_le (off := 5) (tgt := 42) (by decide +kernel) (by decide) (zMo_divide_42 hB) (zMo_divide_40 hB)))))))))))))
def qMo_divide_16 (d mc ms : Nat) (B : Nat → Pd) (K : Ps) : Pd := (i_ild 2 (i_ci 1 (i_ic_lt (qMo_divide_40 d mc ms B K) (qMo_divide_21 d mc ms B K))))
theorem zMo_divide_16 {d mc ms : Nat} {B : Nat → Pd} {K : Ps} (hB : ∀ pc, Le (B pc) (G cMo_divide "VoyageCompanyModel" 9 (some .int) "divide" (rm (d + 1) mc ms) (QM mc ms K) pc)) : Le (qMo_divide_16 d mc ms B K) (G cMo_divide "VoyageCompanyModel" 9 (some .int) "divide" (rm (d + 1) mc ms) (QM mc ms K) 16) := by
  unfold qMo_divide_16
  exact (s_ild_n (j := 2) (by decide +kernel) rfl (s_iconst (n := 1) (v := 1) (by decide +kernel) (by decide +kernel) (s_ic_lt (off := 22) (tgt := 40) (by decide +kernel) (by decide) (zMo_divide_40 hB) (zMo_divide_21 hB))))
def qMo_divide_7 (d mc ms : Nat) (B : Nat → Pd) (K : Ps) : Pd := (i_ald 0 (i_getr 12 0 (i_ci 2 (i_iald (i_if_eq (qMo_divide_40 d mc ms B K) (qMo_divide_16 d mc ms B K))))))
theorem zMo_divide_7 {d mc ms : Nat} {B : Nat → Pd} {K : Ps} (hB : ∀ pc, Le (B pc) (G cMo_divide "VoyageCompanyModel" 9 (some .int) "divide" (rm (d + 1) mc ms) (QM mc ms K) pc)) : Le (qMo_divide_7 d mc ms B K) (G cMo_divide "VoyageCompanyModel" 9 (some .int) "divide" (rm (d + 1) mc ms) (QM mc ms K) 7) := by
  unfold qMo_divide_7
  exact (s_ald_n (j := 0) (by decide +kernel) rfl (s_getr (idx := 8) (by decide +kernel) fl12_8 (by decide) (s_iconst (n := 2) (v := 2) (by decide +kernel) (by decide +kernel) (s_iald (by decide +kernel) (s_if_eq (off := 27) (tgt := 40) (by decide +kernel) (by decide) (zMo_divide_40 hB) (zMo_divide_16 hB))))))
def qMo_divide_0 (d mc ms : Nat) (B : Nat → Pd) (K : Ps) : Pd := (i_ild 1 (i_call 2 12 yMo_isGood cMo_isGood 1 (some .boolean) mc ms d 1 (i_if_eq (qMo_divide_40 d mc ms B K) (qMo_divide_7 d mc ms B K))))
theorem zMo_divide_0 {d mc ms : Nat} {B : Nat → Pd} {K : Ps} (hB : ∀ pc, Le (B pc) (G cMo_divide "VoyageCompanyModel" 9 (some .int) "divide" (rm (d + 1) mc ms) (QM mc ms K) pc)) : Le (qMo_divide_0 d mc ms B K) (G cMo_divide "VoyageCompanyModel" 9 (some .int) "divide" (rm (d + 1) mc ms) (QM mc ms K) 0) := by
  unfold qMo_divide_0
  exact (s_ild_n (j := 1) (by decide +kernel) rfl (s_call (idx := 148) (by decide +kernel) ml12_148 rmk (s_if_eq (off := 36) (tgt := 40) (by decide +kernel) (by decide) (zMo_divide_40 hB) (zMo_divide_7 hB))))
/-- VoyageCompanyModel.divide(II)I, at its places -/
def gMo_divide (d mc ms : Nat) (K : Ps) : Nat → Pd := G cMo_divide "VoyageCompanyModel" 9 (some .int) "divide" (rm (d + 1) mc ms) (QM mc ms K)
theorem eMo_divide {d mc ms : Nat} {K : Ps} {av : List Value} {E : Nat → Prop} {R : Nat → Nat → Value} {I : Nat → Nat → Int32} {J : Nat → Nat → Int64} (hn : (lg_sl av).length ≤ 9) (h : qMo_divide_0 d mc ms (gMo_divide d mc ms K) K (lv_args 0 av) [] E R I J 0 0) : CL yMo_divide cMo_divide 9 (some .int) (d + 1) mc ms av E R I J K :=
  CL.of (by decide +kernel) hn (zMo_divide_0 (fun _ => Le.refl) _ _ _ _ _ _ _ _ h)
theorem lMo_divide_54 {d mc ms : Nat} {K : Ps} : Le (qMo_divide_54 d mc ms (gMo_divide d mc ms K) K) (gMo_divide d mc ms K 54) := zMo_divide_54 (fun _ => Le.refl)
def qMo_got_35 (d mc ms : Nat) (B : Nat → Pd) (K : Ps) : Pd := (i_iret mc ms K)
theorem zMo_got_35 {d mc ms : Nat} {B : Nat → Pd} {K : Ps} (hB : ∀ pc, Le (B pc) (G cMo_got "VoyageCompanyModel" 3 (some .int) "got" (rm (d + 1) mc ms) (QM mc ms K) pc)) : Le (qMo_got_35 d mc ms B K) (G cMo_got "VoyageCompanyModel" 3 (some .int) "got" (rm (d + 1) mc ms) (QM mc ms K) 35) := by
  unfold qMo_got_35
  exact (s_iret (by decide +kernel) rfl)
def qMo_got_34 (d mc ms : Nat) (B : Nat → Pd) (K : Ps) : Pd := (i_ci (-1) (qMo_got_35 d mc ms B K))
theorem zMo_got_34 {d mc ms : Nat} {B : Nat → Pd} {K : Ps} (hB : ∀ pc, Le (B pc) (G cMo_got "VoyageCompanyModel" 3 (some .int) "got" (rm (d + 1) mc ms) (QM mc ms K) pc)) : Le (qMo_got_34 d mc ms B K) (G cMo_got "VoyageCompanyModel" 3 (some .int) "got" (rm (d + 1) mc ms) (QM mc ms K) 34) := by
  unfold qMo_got_34
  exact (s_iconst (n := (-1)) (v := (-1)) (by decide +kernel) (by decide +kernel) (zMo_got_35 hB))
def qMo_got_14 (d mc ms : Nat) (B : Nat → Pd) (K : Ps) : Pd := (i_ald 0 (i_getr 12 0 (i_ci 150 (i_ci 10 (i_ild 1 (i_imul (i_iadd (i_ci 5 (i_iadd (i_ild 2 (i_iadd (i_iald (qMo_got_35 d mc ms B K)))))))))))))
theorem zMo_got_14 {d mc ms : Nat} {B : Nat → Pd} {K : Ps} (hB : ∀ pc, Le (B pc) (G cMo_got "VoyageCompanyModel" 3 (some .int) "got" (rm (d + 1) mc ms) (QM mc ms K) pc)) : Le (qMo_got_14 d mc ms B K) (G cMo_got "VoyageCompanyModel" 3 (some .int) "got" (rm (d + 1) mc ms) (QM mc ms K) 14) := by
  unfold qMo_got_14
  exact (s_ald_n (j := 0) (by decide +kernel) rfl (s_getr (idx := 8) (by decide +kernel) fl12_8 (by decide) (s_sipush (n := 150) (v := 150) (by decide +kernel) (by decide +kernel) (s_bipush (n := 10) (v := 10) (by decide +kernel) (by decide +kernel) (s_ild_n (j := 1) (by decide +kernel) rfl (s_imul (by decide +kernel) (s_iadd (by decide +kernel) (s_iconst (n := 5) (v := 5) (by decide +kernel) (by decide +kernel) (s_iadd (by decide +kernel) (s_ild_n (j := 2) (by decide +kernel) rfl (s_iadd (by decide +kernel) (s_iald (by decide +kernel) (s_goto (off := 4) (tgt := 35) (by decide +kernel) (by decide) (zMo_got_35 hB))))))))))))))
def qMo_got_7 (d mc ms : Nat) (B : Nat → Pd) (K : Ps) : Pd := (i_ild 2 (i_call 2 12 yMo_isGood cMo_isGood 1 (some .boolean) mc ms d 1 (i_if_eq (qMo_got_34 d mc ms B K) (qMo_got_14 d mc ms B K))))
theorem zMo_got_7 {d mc ms : Nat} {B : Nat → Pd} {K : Ps} (hB : ∀ pc, Le (B pc) (G cMo_got "VoyageCompanyModel" 3 (some .int) "got" (rm (d + 1) mc ms) (QM mc ms K) pc)) : Le (qMo_got_7 d mc ms B K) (G cMo_got "VoyageCompanyModel" 3 (some .int) "got" (rm (d + 1) mc ms) (QM mc ms K) 7) := by
  unfold qMo_got_7
  exact (s_ild_n (j := 2) (by decide +kernel) rfl (s_call (idx := 148) (by decide +kernel) ml12_148 rmk (s_if_eq (off := 23) (tgt := 34) (by decide +kernel) (by decide) (zMo_got_34 hB) (zMo_got_14 hB))))
def qMo_got_0 (d mc ms : Nat) (B : Nat → Pd) (K : Ps) : Pd := (i_ild 1 (i_call 2 12 yMo_isPerson cMo_isPerson 1 (some .boolean) mc ms d 1 (i_if_eq (qMo_got_34 d mc ms B K) (qMo_got_7 d mc ms B K))))
theorem zMo_got_0 {d mc ms : Nat} {B : Nat → Pd} {K : Ps} (hB : ∀ pc, Le (B pc) (G cMo_got "VoyageCompanyModel" 3 (some .int) "got" (rm (d + 1) mc ms) (QM mc ms K) pc)) : Le (qMo_got_0 d mc ms B K) (G cMo_got "VoyageCompanyModel" 3 (some .int) "got" (rm (d + 1) mc ms) (QM mc ms K) 0) := by
  unfold qMo_got_0
  exact (s_ild_n (j := 1) (by decide +kernel) rfl (s_call (idx := 145) (by decide +kernel) ml12_145 rmk (s_if_eq (off := 30) (tgt := 34) (by decide +kernel) (by decide) (zMo_got_34 hB) (zMo_got_7 hB))))
/-- VoyageCompanyModel.got(II)I, at its places -/
def gMo_got (d mc ms : Nat) (K : Ps) : Nat → Pd := G cMo_got "VoyageCompanyModel" 3 (some .int) "got" (rm (d + 1) mc ms) (QM mc ms K)
theorem eMo_got {d mc ms : Nat} {K : Ps} {av : List Value} {E : Nat → Prop} {R : Nat → Nat → Value} {I : Nat → Nat → Int32} {J : Nat → Nat → Int64} (hn : (lg_sl av).length ≤ 3) (h : qMo_got_0 d mc ms (gMo_got d mc ms K) K (lv_args 0 av) [] E R I J 0 0) : CL yMo_got cMo_got 3 (some .int) (d + 1) mc ms av E R I J K :=
  CL.of (by decide +kernel) hn (zMo_got_0 (fun _ => Le.refl) _ _ _ _ _ _ _ _ h)
def qMo_load_54 (d mc ms : Nat) (B : Nat → Pd) (K : Ps) : Pd := (i_ald 0 (i_getr 12 0 (i_ci 10 (i_ild 2 (i_iadd (i_dup2 (i_iald (i_ild 3 (i_isub (i_iast (i_ald 0 (i_ild 1 (i_ci 10 (i_ild 2 (i_iadd (i_ild 3 (i_call 0 12 yMo_adds cMo_adds 4 none mc ms d 4 (i_ald 0 (i_ild 1 (i_ci 10 (i_ild 2 (i_iadd (i_call 0 12 yMo_of cMo_of 3 (some .int) mc ms d 3 (i_iret mc ms K))))))))))))))))))))))))
theorem zMo_load_54 {d mc ms : Nat} {B : Nat → Pd} {K : Ps} (hB : ∀ pc, Le (B pc) (G cMo_load "VoyageCompanyModel" 4 (some .int) "load" (rm (d + 1) mc ms) (QM mc ms K) pc)) : Le (qMo_load_54 d mc ms B K) (G cMo_load "VoyageCompanyModel" 4 (some .int) "load" (rm (d + 1) mc ms) (QM mc ms K) 54) := by
  unfold qMo_load_54
  exact (s_ald_n (j := 0) (by decide +kernel) rfl (s_getr (idx := 8) (by decide +kernel) fl12_8 (by decide) (s_bipush (n := 10) (v := 10) (by decide +kernel) (by decide +kernel) (s_ild_n (j := 2) (by decide +kernel) rfl (s_iadd (by decide +kernel) (s_dup2 (by decide +kernel) (s_iald (by decide +kernel) (s_ild_n (j := 3) (by decide +kernel) rfl (s_isub (by decide +kernel) (s_iast (by decide +kernel) (s_ald_n (j := 0) (by decide +kernel) rfl (s_ild_n (j := 1) (by decide +kernel) rfl (s_bipush (n := 10) (v := 10) (by decide +kernel) (by decide +kernel) (s_ild_n (j := 2) (by decide +kernel) rfl (s_iadd (by decide +kernel) (s_ild_n (j := 3) (by decide +kernel) rfl (s_call (idx := 160) (by decide +kernel) ml12_160 rmk (s_ald_n (j := 0) (by decide +kernel) rfl (s_ild_n (j := 1) (by decide +kernel) rfl (s_bipush (n := 10) (v := 10) (by decide +kernel) (by decide +kernel) (s_ild_n (j := 2) (by decide +kernel) rfl (s_iadd (by decide +kernel) (s_call (idx := 138) (by decide +kernel) ml12_138 rmk (s_iret (by decide +kernel) rfl))))))))))))))))))))))))
def qMo_load_52 (d mc ms : Nat) (B : Nat → Pd) (K : Ps) : Pd := (i_ci (-1) (i_iret mc ms K))
theorem zMo_load_52 {d mc ms : Nat} {B : Nat → Pd} {K : Ps} (hB : ∀ pc, Le (B pc) (G cMo_load "VoyageCompanyModel" 4 (some .int) "load" (rm (d + 1) mc ms) (QM mc ms K) pc)) : Le (qMo_load_52 d mc ms B K) (G cMo_load "VoyageCompanyModel" 4 (some .int) "load" (rm (d + 1) mc ms) (QM mc ms K) 52) := by
  unfold qMo_load_52
  exact (s_iconst (n := (-1)) (v := (-1)) (by decide +kernel) (by decide +kernel) (s_iret (by decide +kernel) rfl))
def qMo_load_43 (d mc ms : Nat) (B : Nat → Pd) (K : Ps) : Pd := (i_ild 3 (i_ald 0 (i_ild 1 (i_call 0 12 yMo_roomOf cMo_roomOf 2 (some .int) mc ms d 2 (i_ic_le (qMo_load_54 d mc ms B K) (qMo_load_52 d mc ms B K))))))
theorem zMo_load_43 {d mc ms : Nat} {B : Nat → Pd} {K : Ps} (hB : ∀ pc, Le (B pc) (G cMo_load "VoyageCompanyModel" 4 (some .int) "load" (rm (d + 1) mc ms) (QM mc ms K) pc)) : Le (qMo_load_43 d mc ms B K) (G cMo_load "VoyageCompanyModel" 4 (some .int) "load" (rm (d + 1) mc ms) (QM mc ms K) 43) := by
  unfold qMo_load_43
  exact (s_ild_n (j := 3) (by decide +kernel) rfl (s_ald_n (j := 0) (by decide +kernel) rfl (s_ild_n (j := 1) (by decide +kernel) rfl (s_call (idx := 157) (by decide +kernel) ml12_157 rmk (s_ic_le (off := 5) (tgt := 54) (by decide +kernel) (by decide) (zMo_load_54 hB) (zMo_load_52 hB))))))
def qMo_load_39 (d mc ms : Nat) (B : Nat → Pd) (K : Ps) : Pd := (i_ild 2 (i_if_eq (qMo_load_54 d mc ms B K) (qMo_load_43 d mc ms B K)))
theorem zMo_load_39 {d mc ms : Nat} {B : Nat → Pd} {K : Ps} (hB : ∀ pc, Le (B pc) (G cMo_load "VoyageCompanyModel" 4 (some .int) "load" (rm (d + 1) mc ms) (QM mc ms K) pc)) : Le (qMo_load_39 d mc ms B K) (G cMo_load "VoyageCompanyModel" 4 (some .int) "load" (rm (d + 1) mc ms) (QM mc ms K) 39) := by
  unfold qMo_load_39
  exact (s_ild_n (j := 2) (by decide +kernel) rfl (s_if_eq (off := 14) (tgt := 54) (by decide +kernel) (by decide) (zMo_load_54 hB) (zMo_load_43 hB)))
def qMo_load_20 (d mc ms : Nat) (B : Nat → Pd) (K : Ps) : Pd := (i_ild 3 (i_ald 0 (i_getr 12 0 (i_ci 10 (i_ild 2 (i_iadd (i_iald (i_ald 0 (i_ild 2 (i_call 0 12 yMo_carried cMo_carried 4 (some .int) mc ms d 2 (i_isub (i_ic_gt (qMo_load_52 d mc ms B K) (qMo_load_39 d mc ms B K)))))))))))))
theorem zMo_load_20 {d mc ms : Nat} {B : Nat → Pd} {K : Ps} (hB : ∀ pc, Le (B pc) (G cMo_load "VoyageCompanyModel" 4 (some .int) "load" (rm (d + 1) mc ms) (QM mc ms K) pc)) : Le (qMo_load_20 d mc ms B K) (G cMo_load "VoyageCompanyModel" 4 (some .int) "load" (rm (d + 1) mc ms) (QM mc ms K) 20) := by
  unfold qMo_load_20
  exact (s_ild_n (j := 3) (by decide +kernel) rfl (s_ald_n (j := 0) (by decide +kernel) rfl (s_getr (idx := 8) (by decide +kernel) fl12_8 (by decide) (s_bipush (n := 10) (v := 10) (by decide +kernel) (by decide +kernel) (s_ild_n (j := 2) (by decide +kernel) rfl (s_iadd (by decide +kernel) (s_iald (by decide +kernel) (s_ald_n (j := 0) (by decide +kernel) rfl (s_ild_n (j := 2) (by decide +kernel) rfl (s_call (idx := 151) (by decide +kernel) ml12_151 rmk (s_isub (by decide +kernel) (s_ic_gt (off := 16) (tgt := 52) (by decide +kernel) (by decide) (zMo_load_52 hB) (zMo_load_39 hB)))))))))))))
def qMo_load_15 (d mc ms : Nat) (B : Nat → Pd) (K : Ps) : Pd := (i_ild 3 (i_ci 1 (i_ic_lt (qMo_load_52 d mc ms B K) (qMo_load_20 d mc ms B K))))
theorem zMo_load_15 {d mc ms : Nat} {B : Nat → Pd} {K : Ps} (hB : ∀ pc, Le (B pc) (G cMo_load "VoyageCompanyModel" 4 (some .int) "load" (rm (d + 1) mc ms) (QM mc ms K) pc)) : Le (qMo_load_15 d mc ms B K) (G cMo_load "VoyageCompanyModel" 4 (some .int) "load" (rm (d + 1) mc ms) (QM mc ms K) 15) := by
  unfold qMo_load_15
  exact (s_ild_n (j := 3) (by decide +kernel) rfl (s_iconst (n := 1) (v := 1) (by decide +kernel) (by decide +kernel) (s_ic_lt (off := 35) (tgt := 52) (by decide +kernel) (by decide) (zMo_load_52 hB) (zMo_load_20 hB))))
def qMo_load_8 (d mc ms : Nat) (B : Nat → Pd) (K : Ps) : Pd := (i_ild 2 (i_call 2 12 yMo_isGood cMo_isGood 1 (some .boolean) mc ms d 1 (i_if_eq (qMo_load_52 d mc ms B K) (qMo_load_15 d mc ms B K))))
theorem zMo_load_8 {d mc ms : Nat} {B : Nat → Pd} {K : Ps} (hB : ∀ pc, Le (B pc) (G cMo_load "VoyageCompanyModel" 4 (some .int) "load" (rm (d + 1) mc ms) (QM mc ms K) pc)) : Le (qMo_load_8 d mc ms B K) (G cMo_load "VoyageCompanyModel" 4 (some .int) "load" (rm (d + 1) mc ms) (QM mc ms K) 8) := by
  unfold qMo_load_8
  exact (s_ild_n (j := 2) (by decide +kernel) rfl (s_call (idx := 148) (by decide +kernel) ml12_148 rmk (s_if_eq (off := 40) (tgt := 52) (by decide +kernel) (by decide) (zMo_load_52 hB) (zMo_load_15 hB))))
def qMo_load_0 (d mc ms : Nat) (B : Nat → Pd) (K : Ps) : Pd := (i_ald 0 (i_ild 1 (i_call 0 12 yMo_isAtHome cMo_isAtHome 2 (some .boolean) mc ms d 2 (i_if_eq (qMo_load_52 d mc ms B K) (qMo_load_8 d mc ms B K)))))
theorem zMo_load_0 {d mc ms : Nat} {B : Nat → Pd} {K : Ps} (hB : ∀ pc, Le (B pc) (G cMo_load "VoyageCompanyModel" 4 (some .int) "load" (rm (d + 1) mc ms) (QM mc ms K) pc)) : Le (qMo_load_0 d mc ms B K) (G cMo_load "VoyageCompanyModel" 4 (some .int) "load" (rm (d + 1) mc ms) (QM mc ms K) 0) := by
  unfold qMo_load_0
  exact (s_ald_n (j := 0) (by decide +kernel) rfl (s_ild_n (j := 1) (by decide +kernel) rfl (s_call (idx := 154) (by decide +kernel) ml12_154 rmk (s_if_eq (off := 47) (tgt := 52) (by decide +kernel) (by decide) (zMo_load_52 hB) (zMo_load_8 hB)))))
/-- VoyageCompanyModel.load(III)I, at its places -/
def gMo_load (d mc ms : Nat) (K : Ps) : Nat → Pd := G cMo_load "VoyageCompanyModel" 4 (some .int) "load" (rm (d + 1) mc ms) (QM mc ms K)
theorem eMo_load {d mc ms : Nat} {K : Ps} {av : List Value} {E : Nat → Prop} {R : Nat → Nat → Value} {I : Nat → Nat → Int32} {J : Nat → Nat → Int64} (hn : (lg_sl av).length ≤ 4) (h : qMo_load_0 d mc ms (gMo_load d mc ms K) K (lv_args 0 av) [] E R I J 0 0) : CL yMo_load cMo_load 4 (some .int) (d + 1) mc ms av E R I J K :=
  CL.of (by decide +kernel) hn (zMo_load_0 (fun _ => Le.refl) _ _ _ _ _ _ _ _ h)
def qMo_unloads_48 (d mc ms : Nat) (B : Nat → Pd) (K : Ps) : Pd := (i_vret mc ms K)
theorem zMo_unloads_48 {d mc ms : Nat} {B : Nat → Pd} {K : Ps} (hB : ∀ pc, Le (B pc) (G cMo_unloads "VoyageCompanyModel" 4 none "unloads" (rm (d + 1) mc ms) (QM mc ms K) pc)) : Le (qMo_unloads_48 d mc ms B K) (G cMo_unloads "VoyageCompanyModel" 4 none "unloads" (rm (d + 1) mc ms) (QM mc ms K) 48) := by
  unfold qMo_unloads_48
  exact (s_vret (by decide +kernel) rfl)
def qMo_unloads_7 (d mc ms : Nat) (B : Nat → Pd) (K : Ps) : Pd := (i_ald 0 (i_getr 12 0 (i_ci 10 (i_ci 4 (i_ild 2 (i_imul (i_iadd (i_ild 3 (i_iadd (i_dup2 (i_iald (i_ald 0 (i_ild 1 (i_ci 10 (i_ild 3 (i_iadd (i_call 0 12 yMo_of cMo_of 3 (some .int) mc ms d 3 (i_iadd (i_iast (i_ald 0 (i_ild 1 (i_ci 10 (i_ild 3 (i_iadd (i_ci 0 (i_call 0 12 yMo_sets cMo_sets 4 none mc ms d 4 (i_inc 3 1 (B 2))))))))))))))))))))))))))))
theorem zMo_unloads_7 {d mc ms : Nat} {B : Nat → Pd} {K : Ps} (hB : ∀ pc, Le (B pc) (G cMo_unloads "VoyageCompanyModel" 4 none "unloads" (rm (d + 1) mc ms) (QM mc ms K) pc)) : Le (qMo_unloads_7 d mc ms B K) (G cMo_unloads "VoyageCompanyModel" 4 none "unloads" (rm (d + 1) mc ms) (QM mc ms K) 7) := by
  unfold qMo_unloads_7
  exact (s_ald_n (j := 0) (by decide +kernel) rfl (s_getr (idx := 8) (by decide +kernel) fl12_8 (by decide) (s_bipush (n := 10) (v := 10) (by decide +kernel) (by decide +kernel) (s_iconst (n := 4) (v := 4) (by decide +kernel) (by decide +kernel) (s_ild_n (j := 2) (by decide +kernel) rfl (s_imul (by decide +kernel) (s_iadd (by decide +kernel) (s_ild_n (j := 3) (by decide +kernel) rfl (s_iadd (by decide +kernel) (s_dup2 (by decide +kernel) (s_iald (by decide +kernel) (s_ald_n (j := 0) (by decide +kernel) rfl (s_ild_n (j := 1) (by decide +kernel) rfl (s_bipush (n := 10) (v := 10) (by decide +kernel) (by decide +kernel) (s_ild_n (j := 3) (by decide +kernel) rfl (s_iadd (by decide +kernel) (s_call (idx := 138) (by decide +kernel) ml12_138 rmk (s_iadd (by decide +kernel) (s_iast (by decide +kernel) (s_ald_n (j := 0) (by decide +kernel) rfl (s_ild_n (j := 1) (by decide +kernel) rfl (s_bipush (n := 10) (v := 10) (by decide +kernel) (by decide +kernel) (s_ild_n (j := 3) (by decide +kernel) rfl (s_iadd (by decide +kernel) (s_iconst (n := 0) (v := 0) (by decide +kernel) (by decide +kernel) (s_call (idx := 131) (by decide +kernel) ml12_131 rmk (s_inc (z := 1) (by decide +kernel) (by decide +kernel) (by decide) (s_goto (off := (-43)) (tgt := 2) (by decide +kernel) (by decide) (hB 2)))))))))))))))))))))))))))))
def qMo_unloads_2 (d mc ms : Nat) (B : Nat → Pd) (K : Ps) : Pd := (i_ild 3 (i_ci 4 (i_ic_ge (qMo_unloads_48 d mc ms B K) (qMo_unloads_7 d mc ms B K))))
theorem zMo_unloads_2 {d mc ms : Nat} {B : Nat → Pd} {K : Ps} (hB : ∀ pc, Le (B pc) (G cMo_unloads "VoyageCompanyModel" 4 none "unloads" (rm (d + 1) mc ms) (QM mc ms K) pc)) : Le (qMo_unloads_2 d mc ms B K) (G cMo_unloads "VoyageCompanyModel" 4 none "unloads" (rm (d + 1) mc ms) (QM mc ms K) 2) := by
  unfold qMo_unloads_2
  exact (s_ild_n (j := 3) (by decide +kernel) rfl (s_iconst (n := 4) (v := 4) (by decide +kernel) (by decide +kernel) (s_ic_ge (off := 44) (tgt := 48) (by decide +kernel) (by decide) (zMo_unloads_48 hB) (zMo_unloads_7 hB))))
def qMo_unloads_0 (d mc ms : Nat) (B : Nat → Pd) (K : Ps) : Pd := (i_ci 0 (i_ist 3 (B 2)))
theorem zMo_unloads_0 {d mc ms : Nat} {B : Nat → Pd} {K : Ps} (hB : ∀ pc, Le (B pc) (G cMo_unloads "VoyageCompanyModel" 4 none "unloads" (rm (d + 1) mc ms) (QM mc ms K) pc)) : Le (qMo_unloads_0 d mc ms B K) (G cMo_unloads "VoyageCompanyModel" 4 none "unloads" (rm (d + 1) mc ms) (QM mc ms K) 0) := by
  unfold qMo_unloads_0
  exact (s_iconst (n := 0) (v := 0) (by decide +kernel) (by decide +kernel) (s_ist_n (j := 3) (by decide +kernel) rfl (by decide) (hB 2)))
/-- VoyageCompanyModel.unloads(II)V, at its places -/
def gMo_unloads (d mc ms : Nat) (K : Ps) : Nat → Pd := G cMo_unloads "VoyageCompanyModel" 4 none "unloads" (rm (d + 1) mc ms) (QM mc ms K)
theorem eMo_unloads {d mc ms : Nat} {K : Ps} {av : List Value} {E : Nat → Prop} {R : Nat → Nat → Value} {I : Nat → Nat → Int32} {J : Nat → Nat → Int64} (hn : (lg_sl av).length ≤ 4) (h : qMo_unloads_0 d mc ms (gMo_unloads d mc ms K) K (lv_args 0 av) [] E R I J 0 0) : CL yMo_unloads cMo_unloads 4 none (d + 1) mc ms av E R I J K :=
  CL.of (by decide +kernel) hn (zMo_unloads_0 (fun _ => Le.refl) _ _ _ _ _ _ _ _ h)
theorem lMo_unloads_2 {d mc ms : Nat} {K : Ps} : Le (qMo_unloads_2 d mc ms (gMo_unloads d mc ms K) K) (gMo_unloads d mc ms K 2) := zMo_unloads_2 (fun _ => Le.refl)
def qMo_unload_10 (d mc ms : Nat) (B : Nat → Pd) (K : Ps) : Pd := (i_ald 0 (i_ild 1 (i_call 0 12 yMo_balesOf cMo_balesOf 2 (some .int) mc ms d 2 (i_ist 2 (i_ald 0 (i_ild 1 (i_ci 0 (i_call 0 12 yMo_unloads cMo_unloads 4 none mc ms d 3 (i_ald 0 (i_getr 12 1 (i_ci 12 (i_dup2 (i_lald (i_ald 0 (i_ild 1 (i_ci 8 (i_call 0 12 yMo_of cMo_of 3 (some .int) mc ms d 3 (i_i2l (i_ladd (i_last (i_ald 0 (i_ild 1 (i_ci 8 (i_ci 0 (i_call 0 12 yMo_sets cMo_sets 4 none mc ms d 4 (i_ild 2 (i_iret mc ms K)))))))))))))))))))))))))))
theorem zMo_unload_10 {d mc ms : Nat} {B : Nat → Pd} {K : Ps} (hB : ∀ pc, Le (B pc) (G cMo_unload "VoyageCompanyModel" 3 (some .int) "unload" (rm (d + 1) mc ms) (QM mc ms K) pc)) : Le (qMo_unload_10 d mc ms B K) (G cMo_unload "VoyageCompanyModel" 3 (some .int) "unload" (rm (d + 1) mc ms) (QM mc ms K) 10) := by
  unfold qMo_unload_10
  exact (s_ald_n (j := 0) (by decide +kernel) rfl (s_ild_n (j := 1) (by decide +kernel) rfl (s_call (idx := 142) (by decide +kernel) ml12_142 rmk (s_ist_n (j := 2) (by decide +kernel) rfl (by decide) (s_ald_n (j := 0) (by decide +kernel) rfl (s_ild_n (j := 1) (by decide +kernel) rfl (s_iconst (n := 0) (v := 0) (by decide +kernel) (by decide +kernel) (s_call (idx := 163) (by decide +kernel) ml12_163 rmk (s_ald_n (j := 0) (by decide +kernel) rfl (s_getr (idx := 14) (by decide +kernel) fl12_14 (by decide) (s_bipush (n := 12) (v := 12) (by decide +kernel) (by decide +kernel) (s_dup2 (by decide +kernel) (s_lald (by decide +kernel) (s_ald_n (j := 0) (by decide +kernel) rfl (s_ild_n (j := 1) (by decide +kernel) rfl (s_bipush (n := 8) (v := 8) (by decide +kernel) (by decide +kernel) (s_call (idx := 138) (by decide +kernel) ml12_138 rmk (s_i2l (by decide +kernel) (s_ladd (by decide +kernel) (s_last (by decide +kernel) (s_ald_n (j := 0) (by decide +kernel) rfl (s_ild_n (j := 1) (by decide +kernel) rfl (s_bipush (n := 8) (v := 8) (by decide +kernel) (by decide +kernel) (s_iconst (n := 0) (v := 0) (by decide +kernel) (by decide +kernel) (s_call (idx := 131) (by decide +kernel) ml12_131 rmk (s_ild_n (j := 2) (by decide +kernel) rfl (s_iret (by decide +kernel) rfl)))))))))))))))))))))))))))
def qMo_unload_8 (d mc ms : Nat) (B : Nat → Pd) (K : Ps) : Pd := (i_ci (-1) (i_iret mc ms K))
theorem zMo_unload_8 {d mc ms : Nat} {B : Nat → Pd} {K : Ps} (hB : ∀ pc, Le (B pc) (G cMo_unload "VoyageCompanyModel" 3 (some .int) "unload" (rm (d + 1) mc ms) (QM mc ms K) pc)) : Le (qMo_unload_8 d mc ms B K) (G cMo_unload "VoyageCompanyModel" 3 (some .int) "unload" (rm (d + 1) mc ms) (QM mc ms K) 8) := by
  unfold qMo_unload_8
  exact (s_iconst (n := (-1)) (v := (-1)) (by decide +kernel) (by decide +kernel) (s_iret (by decide +kernel) rfl))
def qMo_unload_0 (d mc ms : Nat) (B : Nat → Pd) (K : Ps) : Pd := (i_ald 0 (i_ild 1 (i_call 0 12 yMo_isAtHome cMo_isAtHome 2 (some .boolean) mc ms d 2 (i_if_ne (qMo_unload_10 d mc ms B K) (qMo_unload_8 d mc ms B K)))))
theorem zMo_unload_0 {d mc ms : Nat} {B : Nat → Pd} {K : Ps} (hB : ∀ pc, Le (B pc) (G cMo_unload "VoyageCompanyModel" 3 (some .int) "unload" (rm (d + 1) mc ms) (QM mc ms K) pc)) : Le (qMo_unload_0 d mc ms B K) (G cMo_unload "VoyageCompanyModel" 3 (some .int) "unload" (rm (d + 1) mc ms) (QM mc ms K) 0) := by
  unfold qMo_unload_0
  exact (s_ald_n (j := 0) (by decide +kernel) rfl (s_ild_n (j := 1) (by decide +kernel) rfl (s_call (idx := 154) (by decide +kernel) ml12_154 rmk (s_if_ne (off := 5) (tgt := 10) (by decide +kernel) (by decide) (zMo_unload_10 hB) (zMo_unload_8 hB)))))
/-- VoyageCompanyModel.unload(I)I, at its places -/
def gMo_unload (d mc ms : Nat) (K : Ps) : Nat → Pd := G cMo_unload "VoyageCompanyModel" 3 (some .int) "unload" (rm (d + 1) mc ms) (QM mc ms K)
theorem eMo_unload {d mc ms : Nat} {K : Ps} {av : List Value} {E : Nat → Prop} {R : Nat → Nat → Value} {I : Nat → Nat → Int32} {J : Nat → Nat → Int64} (hn : (lg_sl av).length ≤ 3) (h : qMo_unload_0 d mc ms (gMo_unload d mc ms K) K (lv_args 0 av) [] E R I J 0 0) : CL yMo_unload cMo_unload 3 (some .int) (d + 1) mc ms av E R I J K :=
  CL.of (by decide +kernel) hn (zMo_unload_0 (fun _ => Le.refl) _ _ _ _ _ _ _ _ h)
def qMo_maySail_48 (d mc ms : Nat) (B : Nat → Pd) (K : Ps) : Pd := (i_zret mc ms K)
theorem zMo_maySail_48 {d mc ms : Nat} {B : Nat → Pd} {K : Ps} (hB : ∀ pc, Le (B pc) (G cMo_maySail "VoyageCompanyModel" 5 (some .boolean) "maySail" (rm (d + 1) mc ms) (QM mc ms K) pc)) : Le (qMo_maySail_48 d mc ms B K) (G cMo_maySail "VoyageCompanyModel" 5 (some .boolean) "maySail" (rm (d + 1) mc ms) (QM mc ms K) 48) := by
  unfold qMo_maySail_48
  exact (s_zret (by decide +kernel) rfl)
def qMo_maySail_47 (d mc ms : Nat) (B : Nat → Pd) (K : Ps) : Pd := (i_ci 0 (qMo_maySail_48 d mc ms B K))
theorem zMo_maySail_47 {d mc ms : Nat} {B : Nat → Pd} {K : Ps} (hB : ∀ pc, Le (B pc) (G cMo_maySail "VoyageCompanyModel" 5 (some .boolean) "maySail" (rm (d + 1) mc ms) (QM mc ms K) pc)) : Le (qMo_maySail_47 d mc ms B K) (G cMo_maySail "VoyageCompanyModel" 5 (some .boolean) "maySail" (rm (d + 1) mc ms) (QM mc ms K) 47) := by
  unfold qMo_maySail_47
  exact (s_iconst (n := 0) (v := 0) (by decide +kernel) (by decide +kernel) (zMo_maySail_48 hB))
def qMo_maySail_43 (d mc ms : Nat) (B : Nat → Pd) (K : Ps) : Pd := (i_ci 1 (qMo_maySail_48 d mc ms B K))
theorem zMo_maySail_43 {d mc ms : Nat} {B : Nat → Pd} {K : Ps} (hB : ∀ pc, Le (B pc) (G cMo_maySail "VoyageCompanyModel" 5 (some .boolean) "maySail" (rm (d + 1) mc ms) (QM mc ms K) pc)) : Le (qMo_maySail_43 d mc ms B K) (G cMo_maySail "VoyageCompanyModel" 5 (some .boolean) "maySail" (rm (d + 1) mc ms) (QM mc ms K) 43) := by
  unfold qMo_maySail_43
  exact (s_iconst (n := 1) (v := 1) (by decide +kernel) (by decide +kernel) (s_goto (off := 4) (tgt := 48) (by decide +kernel) (by decide) (zMo_maySail_48 hB)))
def qMo_maySail_40 (d mc ms : Nat) (B : Nat → Pd) (K : Ps) : Pd := (i_ic_ne (qMo_maySail_47 d mc ms B K) (qMo_maySail_43 d mc ms B K))
theorem zMo_maySail_40 {d mc ms : Nat} {B : Nat → Pd} {K : Ps} (hB : ∀ pc, Le (B pc) (G cMo_maySail "VoyageCompanyModel" 5 (some .boolean) "maySail" (rm (d + 1) mc ms) (QM mc ms K) pc)) : Le (qMo_maySail_40 d mc ms B K) (G cMo_maySail "VoyageCompanyModel" 5 (some .boolean) "maySail" (rm (d + 1) mc ms) (QM mc ms K) 40) := by
  unfold qMo_maySail_40
  exact (s_ic_ne (off := 7) (tgt := 47) (by decide +kernel) (by decide) (zMo_maySail_47 hB) (zMo_maySail_43 hB))
def qMo_maySail_39 (d mc ms : Nat) (B : Nat → Pd) (K : Ps) : Pd := (i_ci 0 (qMo_maySail_40 d mc ms B K))
theorem zMo_maySail_39 {d mc ms : Nat} {B : Nat → Pd} {K : Ps} (hB : ∀ pc, Le (B pc) (G cMo_maySail "VoyageCompanyModel" 5 (some .boolean) "maySail" (rm (d + 1) mc ms) (QM mc ms K) pc)) : Le (qMo_maySail_39 d mc ms B K) (G cMo_maySail "VoyageCompanyModel" 5 (some .boolean) "maySail" (rm (d + 1) mc ms) (QM mc ms K) 39) := by
  unfold qMo_maySail_39
  exact (s_iconst (n := 0) (v := 0) (by decide +kernel) (by decide +kernel) (zMo_maySail_40 hB))
def qMo_maySail_35 (d mc ms : Nat) (B : Nat → Pd) (K : Ps) : Pd := (i_ci 1 (qMo_maySail_40 d mc ms B K))
theorem zMo_maySail_35 {d mc ms : Nat} {B : Nat → Pd} {K : Ps} (hB : ∀ pc, Le (B pc) (G cMo_maySail "VoyageCompanyModel" 5 (some .boolean) "maySail" (rm (d + 1) mc ms) (QM mc ms K) pc)) : Le (qMo_maySail_35 d mc ms B K) (G cMo_maySail "VoyageCompanyModel" 5 (some .boolean) "maySail" (rm (d + 1) mc ms) (QM mc ms K) 35) := by
  unfold qMo_maySail_35
  exact (s_iconst (n := 1) (v := 1) (by decide +kernel) (by decide +kernel) (s_goto (off := 4) (tgt := 40) (by decide +kernel) (by decide) (zMo_maySail_40 hB)))
def qMo_maySail_28 (d mc ms : Nat) (B : Nat → Pd) (K : Ps) : Pd := (i_ild 4 (i_ild 1 (i_ild 0 (i_ic_le (qMo_maySail_39 d mc ms B K) (qMo_maySail_35 d mc ms B K)))))
theorem zMo_maySail_28 {d mc ms : Nat} {B : Nat → Pd} {K : Ps} (hB : ∀ pc, Le (B pc) (G cMo_maySail "VoyageCompanyModel" 5 (some .boolean) "maySail" (rm (d + 1) mc ms) (QM mc ms K) pc)) : Le (qMo_maySail_28 d mc ms B K) (G cMo_maySail "VoyageCompanyModel" 5 (some .boolean) "maySail" (rm (d + 1) mc ms) (QM mc ms K) 28) := by
  unfold qMo_maySail_28
  exact (s_ild (by decide +kernel) (s_ild_n (j := 1) (by decide +kernel) rfl (s_ild_n (j := 0) (by decide +kernel) rfl (s_ic_le (off := 7) (tgt := 39) (by decide +kernel) (by decide) (zMo_maySail_39 hB) (zMo_maySail_35 hB)))))
def qMo_maySail_21 (d mc ms : Nat) (B : Nat → Pd) (K : Ps) : Pd := (i_ist 4 (i_ild 0 (i_ild 1 (i_ic_eq (qMo_maySail_47 d mc ms B K) (qMo_maySail_28 d mc ms B K)))))
theorem zMo_maySail_21 {d mc ms : Nat} {B : Nat → Pd} {K : Ps} (hB : ∀ pc, Le (B pc) (G cMo_maySail "VoyageCompanyModel" 5 (some .boolean) "maySail" (rm (d + 1) mc ms) (QM mc ms K) pc)) : Le (qMo_maySail_21 d mc ms B K) (G cMo_maySail "VoyageCompanyModel" 5 (some .boolean) "maySail" (rm (d + 1) mc ms) (QM mc ms K) 21) := by
  unfold qMo_maySail_21
  exact (s_ist (by decide +kernel) (by decide) (s_ild_n (j := 0) (by decide +kernel) rfl (s_ild_n (j := 1) (by decide +kernel) rfl (s_ic_eq (off := 22) (tgt := 47) (by decide +kernel) (by decide) (zMo_maySail_47 hB) (zMo_maySail_28 hB)))))
def qMo_maySail_20 (d mc ms : Nat) (B : Nat → Pd) (K : Ps) : Pd := (i_ci 0 (qMo_maySail_21 d mc ms B K))
theorem zMo_maySail_20 {d mc ms : Nat} {B : Nat → Pd} {K : Ps} (hB : ∀ pc, Le (B pc) (G cMo_maySail "VoyageCompanyModel" 5 (some .boolean) "maySail" (rm (d + 1) mc ms) (QM mc ms K) pc)) : Le (qMo_maySail_20 d mc ms B K) (G cMo_maySail "VoyageCompanyModel" 5 (some .boolean) "maySail" (rm (d + 1) mc ms) (QM mc ms K) 20) := by
  unfold qMo_maySail_20
  exact (s_iconst (n := 0) (v := 0) (by decide +kernel) (by decide +kernel) (zMo_maySail_21 hB))
def qMo_maySail_16 (d mc ms : Nat) (B : Nat → Pd) (K : Ps) : Pd := (i_ci 1 (qMo_maySail_21 d mc ms B K))
theorem zMo_maySail_16 {d mc ms : Nat} {B : Nat → Pd} {K : Ps} (hB : ∀ pc, Le (B pc) (G cMo_maySail "VoyageCompanyModel" 5 (some .boolean) "maySail" (rm (d + 1) mc ms) (QM mc ms K) pc)) : Le (qMo_maySail_16 d mc ms B K) (G cMo_maySail "VoyageCompanyModel" 5 (some .boolean) "maySail" (rm (d + 1) mc ms) (QM mc ms K) 16) := by
  unfold qMo_maySail_16
  exact (s_iconst (n := 1) (v := 1) (by decide +kernel) (by decide +kernel) (s_goto (off := 4) (tgt := 21) (by decide +kernel) (by decide) (zMo_maySail_21 hB)))
def qMo_maySail_11 (d mc ms : Nat) (B : Nat → Pd) (K : Ps) : Pd := (i_ild 3 (i_ci 2 (i_ic_gt (qMo_maySail_20 d mc ms B K) (qMo_maySail_16 d mc ms B K))))
theorem zMo_maySail_11 {d mc ms : Nat} {B : Nat → Pd} {K : Ps} (hB : ∀ pc, Le (B pc) (G cMo_maySail "VoyageCompanyModel" 5 (some .boolean) "maySail" (rm (d + 1) mc ms) (QM mc ms K) pc)) : Le (qMo_maySail_11 d mc ms B K) (G cMo_maySail "VoyageCompanyModel" 5 (some .boolean) "maySail" (rm (d + 1) mc ms) (QM mc ms K) 11) := by
  unfold qMo_maySail_11
  exact (s_ild_n (j := 3) (by decide +kernel) rfl (s_iconst (n := 2) (v := 2) (by decide +kernel) (by decide +kernel) (s_ic_gt (off := 7) (tgt := 20) (by decide +kernel) (by decide) (zMo_maySail_20 hB) (zMo_maySail_16 hB))))
def qMo_maySail_0 (d mc ms : Nat) (B : Nat → Pd) (K : Ps) : Pd := (i_ild 2 (i_ci 12 (i_irem (i_ist 3 (i_ild 3 (i_ci 9 (i_ic_ge (qMo_maySail_16 d mc ms B K) (qMo_maySail_11 d mc ms B K))))))))
theorem zMo_maySail_0 {d mc ms : Nat} {B : Nat → Pd} {K : Ps} (hB : ∀ pc, Le (B pc) (G cMo_maySail "VoyageCompanyModel" 5 (some .boolean) "maySail" (rm (d + 1) mc ms) (QM mc ms K) pc)) : Le (qMo_maySail_0 d mc ms B K) (G cMo_maySail "VoyageCompanyModel" 5 (some .boolean) "maySail" (rm (d + 1) mc ms) (QM mc ms K) 0) := by
  unfold qMo_maySail_0
  exact (s_ild_n (j := 2) (by decide +kernel) rfl (s_bipush (n := 12) (v := 12) (by decide +kernel) (by decide +kernel) (s_irem (by decide +kernel) (s_ist_n (j := 3) (by decide +kernel) rfl (by decide) (s_ild_n (j := 3) (by decide +kernel) rfl (s_bipush (n := 9) (v := 9) (by decide +kernel) (by decide +kernel) (s_ic_ge (off := 8) (tgt := 16) (by decide +kernel) (by decide) (zMo_maySail_16 hB) (zMo_maySail_11 hB))))))))
/-- VoyageCompanyModel.maySail(III)Z, at its places -/
def gMo_maySail (d mc ms : Nat) (K : Ps) : Nat → Pd := G cMo_maySail "VoyageCompanyModel" 5 (some .boolean) "maySail" (rm (d + 1) mc ms) (QM mc ms K)
theorem eMo_maySail {d mc ms : Nat} {K : Ps} {av : List Value} {E : Nat → Prop} {R : Nat → Nat → Value} {I : Nat → Nat → Int32} {J : Nat → Nat → Int64} (hn : (lg_sl av).length ≤ 5) (h : qMo_maySail_0 d mc ms (gMo_maySail d mc ms K) K (lv_args 0 av) [] E R I J 0 0) : CL yMo_maySail cMo_maySail 5 (some .boolean) (d + 1) mc ms av E R I J K :=
  CL.of (by decide +kernel) hn (zMo_maySail_0 (fun _ => Le.refl) _ _ _ _ _ _ _ _ h)
def qMo_sails_72 (d mc ms : Nat) (B : Nat → Pd) (K : Ps) : Pd := (i_call 0 12 yMo_sets cMo_sets 4 none mc ms d 4 (i_ald 0 (i_ild 1 (i_ci 4 (i_ci (-1) (i_call 0 12 yMo_sets cMo_sets 4 none mc ms d 4 (i_ald 0 (i_ild 1 (i_ci 5 (i_ild 2 (i_call 0 12 yMo_sets cMo_sets 4 none mc ms d 4 (i_ald 0 (i_ild 1 (i_ci 6 (i_ald 0 (i_getr 12 0 (i_ci 0 (i_iald (i_ci 2 (i_ild 4 (i_imul (i_iadd (i_call 0 12 yMo_sets cMo_sets 4 none mc ms d 4 (i_ald 0 (i_ild 1 (i_ci 9 (i_ci 1 (i_call 0 12 yMo_adds cMo_adds 4 none mc ms d 4 (i_ald 0 (i_ild 1 (i_ci 6 (i_call 0 12 yMo_of cMo_of 3 (some .int) mc ms d 3 (i_iret mc ms K)))))))))))))))))))))))))))))))))
theorem zMo_sails_72 {d mc ms : Nat} {B : Nat → Pd} {K : Ps} (hB : ∀ pc, Le (B pc) (G cMo_sails "VoyageCompanyModel" 6 (some .int) "sails" (rm (d + 1) mc ms) (QM mc ms K) pc)) : Le (qMo_sails_72 d mc ms B K) (G cMo_sails "VoyageCompanyModel" 6 (some .int) "sails" (rm (d + 1) mc ms) (QM mc ms K) 72) := by
  unfold qMo_sails_72
  exact (s_call (idx := 131) (by decide +kernel) ml12_131 rmk (s_ald_n (j := 0) (by decide +kernel) rfl (s_ild_n (j := 1) (by decide +kernel) rfl (s_iconst (n := 4) (v := 4) (by decide +kernel) (by decide +kernel) (s_iconst (n := (-1)) (v := (-1)) (by decide +kernel) (by decide +kernel) (s_call (idx := 131) (by decide +kernel) ml12_131 rmk (s_ald_n (j := 0) (by decide +kernel) rfl (s_ild_n (j := 1) (by decide +kernel) rfl (s_iconst (n := 5) (v := 5) (by decide +kernel) (by decide +kernel) (s_ild_n (j := 2) (by decide +kernel) rfl (s_call (idx := 131) (by decide +kernel) ml12_131 rmk (s_ald_n (j := 0) (by decide +kernel) rfl (s_ild_n (j := 1) (by decide +kernel) rfl (s_bipush (n := 6) (v := 6) (by decide +kernel) (by decide +kernel) (s_ald_n (j := 0) (by decide +kernel) rfl (s_getr (idx := 8) (by decide +kernel) fl12_8 (by decide) (s_iconst (n := 0) (v := 0) (by decide +kernel) (by decide +kernel) (s_iald (by decide +kernel) (s_iconst (n := 2) (v := 2) (by decide +kernel) (by decide +kernel) (s_ild (by decide +kernel) (s_imul (by decide +kernel) (s_iadd (by decide +kernel) (s_call (idx := 131) (by decide +kernel) ml12_131 rmk (s_ald_n (j := 0) (by decide +kernel) rfl (s_ild_n (j := 1) (by decide +kernel) rfl (s_bipush (n := 9) (v := 9) (by decide +kernel) (by decide +kernel) (s_iconst (n := 1) (v := 1) (by decide +kernel) (by decide +kernel) (s_call (idx := 160) (by decide +kernel) ml12_160 rmk (s_ald_n (j := 0) (by decide +kernel) rfl (s_ild_n (j := 1) (by decide +kernel) rfl (s_bipush (n := 6) (v := 6) (by decide +kernel) (by decide +kernel) (s_call (idx := 138) (by decide +kernel) ml12_138 rmk (s_iret (by decide +kernel) rfl)))))))))))))))))))))))))))))))))
def qMo_sails_71 (d mc ms : Nat) (B : Nat → Pd) (K : Ps) : Pd := (i_ci 0 (qMo_sails_72 d mc ms B K))
theorem zMo_sails_71 {d mc ms : Nat} {B : Nat → Pd} {K : Ps} (hB : ∀ pc, Le (B pc) (G cMo_sails "VoyageCompanyModel" 6 (some .int) "sails" (rm (d + 1) mc ms) (QM mc ms K) pc)) : Le (qMo_sails_71 d mc ms B K) (G cMo_sails "VoyageCompanyModel" 6 (some .int) "sails" (rm (d + 1) mc ms) (QM mc ms K) 71) := by
  unfold qMo_sails_71
  exact (s_iconst (n := 0) (v := 0) (by decide +kernel) (by decide +kernel) (zMo_sails_72 hB))
def qMo_sails_67 (d mc ms : Nat) (B : Nat → Pd) (K : Ps) : Pd := (i_ci 1 (qMo_sails_72 d mc ms B K))
theorem zMo_sails_67 {d mc ms : Nat} {B : Nat → Pd} {K : Ps} (hB : ∀ pc, Le (B pc) (G cMo_sails "VoyageCompanyModel" 6 (some .int) "sails" (rm (d + 1) mc ms) (QM mc ms K) pc)) : Le (qMo_sails_67 d mc ms B K) (G cMo_sails "VoyageCompanyModel" 6 (some .int) "sails" (rm (d + 1) mc ms) (QM mc ms K) 67) := by
  unfold qMo_sails_67
  exact (s_iconst (n := 1) (v := 1) (by decide +kernel) (by decide +kernel) (s_goto (off := 4) (tgt := 72) (by decide +kernel) (by decide) (zMo_sails_72 hB)))
def qMo_sails_21 (d mc ms : Nat) (B : Nat → Pd) (K : Ps) : Pd := (i_ist 4 (i_ald 0 (i_ild 1 (i_ci 3 (i_call 0 12 yMo_of cMo_of 3 (some .int) mc ms d 3 (i_ci 1103515245 (i_imul (i_ci 12345 (i_iadd (i_ist 5 (i_ald 0 (i_ild 1 (i_ci 3 (i_ild 5 (i_call 0 12 yMo_sets cMo_sets 4 none mc ms d 4 (i_ald 0 (i_ild 1 (i_ci 7 (i_ild 5 (i_ci 16 (i_iushr (i_ci 100 (i_irem (i_ald 0 (i_ild 1 (i_ci 2 (i_call 0 12 yMo_of cMo_of 3 (some .int) mc ms d 3 (i_ic_ge (qMo_sails_71 d mc ms B K) (qMo_sails_67 d mc ms B K)))))))))))))))))))))))))))))
theorem zMo_sails_21 {d mc ms : Nat} {B : Nat → Pd} {K : Ps} (hB : ∀ pc, Le (B pc) (G cMo_sails "VoyageCompanyModel" 6 (some .int) "sails" (rm (d + 1) mc ms) (QM mc ms K) pc)) : Le (qMo_sails_21 d mc ms B K) (G cMo_sails "VoyageCompanyModel" 6 (some .int) "sails" (rm (d + 1) mc ms) (QM mc ms K) 21) := by
  unfold qMo_sails_21
  exact (s_ist (by decide +kernel) (by decide) (s_ald_n (j := 0) (by decide +kernel) rfl (s_ild_n (j := 1) (by decide +kernel) rfl (s_iconst (n := 3) (v := 3) (by decide +kernel) (by decide +kernel) (s_call (idx := 138) (by decide +kernel) ml12_138 rmk (s_ldc (n := 166) (v := 1103515245) (by decide +kernel) (lw_gm (by decide +kernel) (by decide +kernel)) (s_imul (by decide +kernel) (s_sipush (n := 12345) (v := 12345) (by decide +kernel) (by decide +kernel) (s_iadd (by decide +kernel) (s_ist (by decide +kernel) (by decide) (s_ald_n (j := 0) (by decide +kernel) rfl (s_ild_n (j := 1) (by decide +kernel) rfl (s_iconst (n := 3) (v := 3) (by decide +kernel) (by decide +kernel) (s_ild (by decide +kernel) (s_call (idx := 131) (by decide +kernel) ml12_131 rmk (s_ald_n (j := 0) (by decide +kernel) rfl (s_ild_n (j := 1) (by decide +kernel) rfl (s_bipush (n := 7) (v := 7) (by decide +kernel) (by decide +kernel) (s_ild (by decide +kernel) (s_bipush (n := 16) (v := 16) (by decide +kernel) (by decide +kernel) (s_iushr (by decide +kernel) (s_bipush (n := 100) (v := 100) (by decide +kernel) (by decide +kernel) (s_irem (by decide +kernel) (s_ald_n (j := 0) (by decide +kernel) rfl (s_ild_n (j := 1) (by decide +kernel) rfl (s_iconst (n := 2) (v := 2) (by decide +kernel) (by decide +kernel) (s_call (idx := 138) (by decide +kernel) ml12_138 rmk (s_ic_ge (off := 7) (tgt := 71) (by decide +kernel) (by decide) (zMo_sails_71 hB) (zMo_sails_67 hB)))))))))))))))))))))))))))))
def qMo_sails_18 (d mc ms : Nat) (B : Nat → Pd) (K : Ps) : Pd := (i_ild 3 (i_ild 2 (i_isub (qMo_sails_21 d mc ms B K))))
theorem zMo_sails_18 {d mc ms : Nat} {B : Nat → Pd} {K : Ps} (hB : ∀ pc, Le (B pc) (G cMo_sails "VoyageCompanyModel" 6 (some .int) "sails" (rm (d + 1) mc ms) (QM mc ms K) pc)) : Le (qMo_sails_18 d mc ms B K) (G cMo_sails "VoyageCompanyModel" 6 (some .int) "sails" (rm (d + 1) mc ms) (QM mc ms K) 18) := by
  unfold qMo_sails_18
  exact (s_ild_n (j := 3) (by decide +kernel) rfl (s_ild_n (j := 2) (by decide +kernel) rfl (s_isub (by decide +kernel) (zMo_sails_21 hB))))
def qMo_sails_12 (d mc ms : Nat) (B : Nat → Pd) (K : Ps) : Pd := (i_ild 2 (i_ild 3 (i_isub (qMo_sails_21 d mc ms B K))))
theorem zMo_sails_12 {d mc ms : Nat} {B : Nat → Pd} {K : Ps} (hB : ∀ pc, Le (B pc) (G cMo_sails "VoyageCompanyModel" 6 (some .int) "sails" (rm (d + 1) mc ms) (QM mc ms K) pc)) : Le (qMo_sails_12 d mc ms B K) (G cMo_sails "VoyageCompanyModel" 6 (some .int) "sails" (rm (d + 1) mc ms) (QM mc ms K) 12) := by
  unfold qMo_sails_12
  exact (s_ild_n (j := 2) (by decide +kernel) rfl (s_ild_n (j := 3) (by decide +kernel) rfl (s_isub (by decide +kernel) (s_goto (off := 6) (tgt := 21) (by decide +kernel) (by decide) (zMo_sails_21 hB)))))
def qMo_sails_0 (d mc ms : Nat) (B : Nat → Pd) (K : Ps) : Pd := (i_ald 0 (i_ild 1 (i_ci 4 (i_call 0 12 yMo_of cMo_of 3 (some .int) mc ms d 3 (i_ist 3 (i_ild 2 (i_ild 3 (i_ic_le (qMo_sails_18 d mc ms B K) (qMo_sails_12 d mc ms B K)))))))))
theorem zMo_sails_0 {d mc ms : Nat} {B : Nat → Pd} {K : Ps} (hB : ∀ pc, Le (B pc) (G cMo_sails "VoyageCompanyModel" 6 (some .int) "sails" (rm (d + 1) mc ms) (QM mc ms K) pc)) : Le (qMo_sails_0 d mc ms B K) (G cMo_sails "VoyageCompanyModel" 6 (some .int) "sails" (rm (d + 1) mc ms) (QM mc ms K) 0) := by
  unfold qMo_sails_0
  exact (s_ald_n (j := 0) (by decide +kernel) rfl (s_ild_n (j := 1) (by decide +kernel) rfl (s_iconst (n := 4) (v := 4) (by decide +kernel) (by decide +kernel) (s_call (idx := 138) (by decide +kernel) ml12_138 rmk (s_ist_n (j := 3) (by decide +kernel) rfl (by decide) (s_ild_n (j := 2) (by decide +kernel) rfl (s_ild_n (j := 3) (by decide +kernel) rfl (s_ic_le (off := 9) (tgt := 18) (by decide +kernel) (by decide) (zMo_sails_18 hB) (zMo_sails_12 hB)))))))))
/-- VoyageCompanyModel.sails(II)I, at its places -/
def gMo_sails (d mc ms : Nat) (K : Ps) : Nat → Pd := G cMo_sails "VoyageCompanyModel" 6 (some .int) "sails" (rm (d + 1) mc ms) (QM mc ms K)
theorem eMo_sails {d mc ms : Nat} {K : Ps} {av : List Value} {E : Nat → Prop} {R : Nat → Nat → Value} {I : Nat → Nat → Int32} {J : Nat → Nat → Int64} (hn : (lg_sl av).length ≤ 6) (h : qMo_sails_0 d mc ms (gMo_sails d mc ms K) K (lv_args 0 av) [] E R I J 0 0) : CL yMo_sails cMo_sails 6 (some .int) (d + 1) mc ms av E R I J K :=
  CL.of (by decide +kernel) hn (zMo_sails_0 (fun _ => Le.refl) _ _ _ _ _ _ _ _ h)
def qMo_sail_33 (d mc ms : Nat) (B : Nat → Pd) (K : Ps) : Pd := (i_ald 0 (i_ild 1 (i_ild 2 (i_call 0 12 yMo_sails cMo_sails 6 (some .int) mc ms d 3 (i_iret mc ms K)))))
theorem zMo_sail_33 {d mc ms : Nat} {B : Nat → Pd} {K : Ps} (hB : ∀ pc, Le (B pc) (G cMo_sail "VoyageCompanyModel" 3 (some .int) "sail" (rm (d + 1) mc ms) (QM mc ms K) pc)) : Le (qMo_sail_33 d mc ms B K) (G cMo_sail "VoyageCompanyModel" 3 (some .int) "sail" (rm (d + 1) mc ms) (QM mc ms K) 33) := by
  unfold qMo_sail_33
  exact (s_ald_n (j := 0) (by decide +kernel) rfl (s_ild_n (j := 1) (by decide +kernel) rfl (s_ild_n (j := 2) (by decide +kernel) rfl (s_call (idx := 170) (by decide +kernel) ml12_170 rmk (s_iret (by decide +kernel) rfl)))))
def qMo_sail_31 (d mc ms : Nat) (B : Nat → Pd) (K : Ps) : Pd := (i_ci (-1) (i_iret mc ms K))
theorem zMo_sail_31 {d mc ms : Nat} {B : Nat → Pd} {K : Ps} (hB : ∀ pc, Le (B pc) (G cMo_sail "VoyageCompanyModel" 3 (some .int) "sail" (rm (d + 1) mc ms) (QM mc ms K) pc)) : Le (qMo_sail_31 d mc ms B K) (G cMo_sail "VoyageCompanyModel" 3 (some .int) "sail" (rm (d + 1) mc ms) (QM mc ms K) 31) := by
  unfold qMo_sail_31
  exact (s_iconst (n := (-1)) (v := (-1)) (by decide +kernel) (by decide +kernel) (s_iret (by decide +kernel) rfl))
def qMo_sail_17 (d mc ms : Nat) (B : Nat → Pd) (K : Ps) : Pd := (i_ci 0 (i_ild 2 (i_ald 0 (i_getr 12 0 (i_ci 0 (i_iald (i_call 2 12 yMo_maySail cMo_maySail 5 (some .boolean) mc ms d 3 (i_if_ne (qMo_sail_33 d mc ms B K) (qMo_sail_31 d mc ms B K)))))))))
theorem zMo_sail_17 {d mc ms : Nat} {B : Nat → Pd} {K : Ps} (hB : ∀ pc, Le (B pc) (G cMo_sail "VoyageCompanyModel" 3 (some .int) "sail" (rm (d + 1) mc ms) (QM mc ms K) pc)) : Le (qMo_sail_17 d mc ms B K) (G cMo_sail "VoyageCompanyModel" 3 (some .int) "sail" (rm (d + 1) mc ms) (QM mc ms K) 17) := by
  unfold qMo_sail_17
  exact (s_iconst (n := 0) (v := 0) (by decide +kernel) (by decide +kernel) (s_ild_n (j := 2) (by decide +kernel) rfl (s_ald_n (j := 0) (by decide +kernel) rfl (s_getr (idx := 8) (by decide +kernel) fl12_8 (by decide) (s_iconst (n := 0) (v := 0) (by decide +kernel) (by decide +kernel) (s_iald (by decide +kernel) (s_call (idx := 167) (by decide +kernel) ml12_167 rmk (s_if_ne (off := 5) (tgt := 33) (by decide +kernel) (by decide) (zMo_sail_33 hB) (zMo_sail_31 hB)))))))))
def qMo_sail_8 (d mc ms : Nat) (B : Nat → Pd) (K : Ps) : Pd := (i_ild 2 (i_ci 1 (i_ci 4 (i_call 2 12 yMo_isIn cMo_isIn 3 (some .boolean) mc ms d 3 (i_if_eq (qMo_sail_31 d mc ms B K) (qMo_sail_17 d mc ms B K))))))
theorem zMo_sail_8 {d mc ms : Nat} {B : Nat → Pd} {K : Ps} (hB : ∀ pc, Le (B pc) (G cMo_sail "VoyageCompanyModel" 3 (some .int) "sail" (rm (d + 1) mc ms) (QM mc ms K) pc)) : Le (qMo_sail_8 d mc ms B K) (G cMo_sail "VoyageCompanyModel" 3 (some .int) "sail" (rm (d + 1) mc ms) (QM mc ms K) 8) := by
  unfold qMo_sail_8
  exact (s_ild_n (j := 2) (by decide +kernel) rfl (s_iconst (n := 1) (v := 1) (by decide +kernel) (by decide +kernel) (s_iconst (n := 4) (v := 4) (by decide +kernel) (by decide +kernel) (s_call (idx := 25) (by decide +kernel) ml12_25 rmk (s_if_eq (off := 17) (tgt := 31) (by decide +kernel) (by decide) (zMo_sail_31 hB) (zMo_sail_17 hB))))))
def qMo_sail_0 (d mc ms : Nat) (B : Nat → Pd) (K : Ps) : Pd := (i_ald 0 (i_ild 1 (i_call 0 12 yMo_isAtHome cMo_isAtHome 2 (some .boolean) mc ms d 2 (i_if_eq (qMo_sail_31 d mc ms B K) (qMo_sail_8 d mc ms B K)))))
theorem zMo_sail_0 {d mc ms : Nat} {B : Nat → Pd} {K : Ps} (hB : ∀ pc, Le (B pc) (G cMo_sail "VoyageCompanyModel" 3 (some .int) "sail" (rm (d + 1) mc ms) (QM mc ms K) pc)) : Le (qMo_sail_0 d mc ms B K) (G cMo_sail "VoyageCompanyModel" 3 (some .int) "sail" (rm (d + 1) mc ms) (QM mc ms K) 0) := by
  unfold qMo_sail_0
  exact (s_ald_n (j := 0) (by decide +kernel) rfl (s_ild_n (j := 1) (by decide +kernel) rfl (s_call (idx := 154) (by decide +kernel) ml12_154 rmk (s_if_eq (off := 26) (tgt := 31) (by decide +kernel) (by decide) (zMo_sail_31 hB) (zMo_sail_8 hB)))))
/-- VoyageCompanyModel.sail(II)I, at its places -/
def gMo_sail (d mc ms : Nat) (K : Ps) : Nat → Pd := G cMo_sail "VoyageCompanyModel" 3 (some .int) "sail" (rm (d + 1) mc ms) (QM mc ms K)
theorem eMo_sail {d mc ms : Nat} {K : Ps} {av : List Value} {E : Nat → Prop} {R : Nat → Nat → Value} {I : Nat → Nat → Int32} {J : Nat → Nat → Int64} (hn : (lg_sl av).length ≤ 3) (h : qMo_sail_0 d mc ms (gMo_sail d mc ms K) K (lv_args 0 av) [] E R I J 0 0) : CL yMo_sail cMo_sail 3 (some .int) (d + 1) mc ms av E R I J K :=
  CL.of (by decide +kernel) hn (zMo_sail_0 (fun _ => Le.refl) _ _ _ _ _ _ _ _ h)
def qMo_comes_149 (d mc ms : Nat) (B : Nat → Pd) (K : Ps) : Pd := (i_ald 0 (i_ild 1 (i_ci 8 (i_ci 0 (i_call 0 12 yMo_sets cMo_sets 4 none mc ms d 4 (i_vret mc ms K))))))
theorem zMo_comes_149 {d mc ms : Nat} {B : Nat → Pd} {K : Ps} (hB : ∀ pc, Le (B pc) (G cMo_comes "VoyageCompanyModel" 4 none "comes" (rm (d + 1) mc ms) (QM mc ms K) pc)) : Le (qMo_comes_149 d mc ms B K) (G cMo_comes "VoyageCompanyModel" 4 none "comes" (rm (d + 1) mc ms) (QM mc ms K) 149) := by
  unfold qMo_comes_149
  exact (s_ald_n (j := 0) (by decide +kernel) rfl (s_ild_n (j := 1) (by decide +kernel) rfl (s_bipush (n := 8) (v := 8) (by decide +kernel) (by decide +kernel) (s_iconst (n := 0) (v := 0) (by decide +kernel) (by decide +kernel) (s_call (idx := 131) (by decide +kernel) ml12_131 rmk (s_vret (by decide +kernel) rfl))))))
def qMo_comes_129 (d mc ms : Nat) (B : Nat → Pd) (K : Ps) : Pd := (i_iadd (i_i2l (i_ladd (i_last (i_ald 0 (i_ild 1 (i_ci 10 (i_ild 3 (i_iadd (i_ci 0 (i_call 0 12 yMo_sets cMo_sets 4 none mc ms d 4 (i_inc 3 1 (B 87)))))))))))))
theorem zMo_comes_129 {d mc ms : Nat} {B : Nat → Pd} {K : Ps} (hB : ∀ pc, Le (B pc) (G cMo_comes "VoyageCompanyModel" 4 none "comes" (rm (d + 1) mc ms) (QM mc ms K) pc)) : Le (qMo_comes_129 d mc ms B K) (G cMo_comes "VoyageCompanyModel" 4 none "comes" (rm (d + 1) mc ms) (QM mc ms K) 129) := by
  unfold qMo_comes_129
  exact (s_iadd (by decide +kernel) (s_i2l (by decide +kernel) (s_ladd (by decide +kernel) (s_last (by decide +kernel) (s_ald_n (j := 0) (by decide +kernel) rfl (s_ild_n (j := 1) (by decide +kernel) rfl (s_bipush (n := 10) (v := 10) (by decide +kernel) (by decide +kernel) (s_ild_n (j := 3) (by decide +kernel) rfl (s_iadd (by decide +kernel) (s_iconst (n := 0) (v := 0) (by decide +kernel) (by decide +kernel) (s_call (idx := 131) (by decide +kernel) ml12_131 rmk (s_inc (z := 1) (by decide +kernel) (by decide +kernel) (by decide) (s_goto (off := (-59)) (tgt := 87) (by decide +kernel) (by decide) (hB 87))))))))))))))
def qMo_comes_128 (d mc ms : Nat) (B : Nat → Pd) (K : Ps) : Pd := (i_ci 0 (qMo_comes_129 d mc ms B K))
theorem zMo_comes_128 {d mc ms : Nat} {B : Nat → Pd} {K : Ps} (hB : ∀ pc, Le (B pc) (G cMo_comes "VoyageCompanyModel" 4 none "comes" (rm (d + 1) mc ms) (QM mc ms K) pc)) : Le (qMo_comes_128 d mc ms B K) (G cMo_comes "VoyageCompanyModel" 4 none "comes" (rm (d + 1) mc ms) (QM mc ms K) 128) := by
  unfold qMo_comes_128
  exact (s_iconst (n := 0) (v := 0) (by decide +kernel) (by decide +kernel) (zMo_comes_129 hB))
def qMo_comes_118 (d mc ms : Nat) (B : Nat → Pd) (K : Ps) : Pd := (i_ald 0 (i_ild 1 (i_ci 8 (i_call 0 12 yMo_of cMo_of 3 (some .int) mc ms d 3 (qMo_comes_129 d mc ms B K)))))
theorem zMo_comes_118 {d mc ms : Nat} {B : Nat → Pd} {K : Ps} (hB : ∀ pc, Le (B pc) (G cMo_comes "VoyageCompanyModel" 4 none "comes" (rm (d + 1) mc ms) (QM mc ms K) pc)) : Le (qMo_comes_118 d mc ms B K) (G cMo_comes "VoyageCompanyModel" 4 none "comes" (rm (d + 1) mc ms) (QM mc ms K) 118) := by
  unfold qMo_comes_118
  exact (s_ald_n (j := 0) (by decide +kernel) rfl (s_ild_n (j := 1) (by decide +kernel) rfl (s_bipush (n := 8) (v := 8) (by decide +kernel) (by decide +kernel) (s_call (idx := 138) (by decide +kernel) ml12_138 rmk (s_goto (off := 4) (tgt := 129) (by decide +kernel) (by decide) (zMo_comes_129 hB))))))
def qMo_comes_92 (d mc ms : Nat) (B : Nat → Pd) (K : Ps) : Pd := (i_ald 0 (i_getr 12 1 (i_ci 8 (i_ild 3 (i_imul (i_ci 2 (i_iadd (i_dup2 (i_lald (i_ald 0 (i_ild 1 (i_ci 10 (i_ild 3 (i_iadd (i_call 0 12 yMo_of cMo_of 3 (some .int) mc ms d 3 (i_ild 3 (i_ci 1 (i_ic_ne (qMo_comes_128 d mc ms B K) (qMo_comes_118 d mc ms B K)))))))))))))))))))
theorem zMo_comes_92 {d mc ms : Nat} {B : Nat → Pd} {K : Ps} (hB : ∀ pc, Le (B pc) (G cMo_comes "VoyageCompanyModel" 4 none "comes" (rm (d + 1) mc ms) (QM mc ms K) pc)) : Le (qMo_comes_92 d mc ms B K) (G cMo_comes "VoyageCompanyModel" 4 none "comes" (rm (d + 1) mc ms) (QM mc ms K) 92) := by
  unfold qMo_comes_92
  exact (s_ald_n (j := 0) (by decide +kernel) rfl (s_getr (idx := 14) (by decide +kernel) fl12_14 (by decide) (s_bipush (n := 8) (v := 8) (by decide +kernel) (by decide +kernel) (s_ild_n (j := 3) (by decide +kernel) rfl (s_imul (by decide +kernel) (s_iconst (n := 2) (v := 2) (by decide +kernel) (by decide +kernel) (s_iadd (by decide +kernel) (s_dup2 (by decide +kernel) (s_lald (by decide +kernel) (s_ald_n (j := 0) (by decide +kernel) rfl (s_ild_n (j := 1) (by decide +kernel) rfl (s_bipush (n := 10) (v := 10) (by decide +kernel) (by decide +kernel) (s_ild_n (j := 3) (by decide +kernel) rfl (s_iadd (by decide +kernel) (s_call (idx := 138) (by decide +kernel) ml12_138 rmk (s_ild_n (j := 3) (by decide +kernel) rfl (s_iconst (n := 1) (v := 1) (by decide +kernel) (by decide +kernel) (s_ic_ne (off := 13) (tgt := 128) (by decide +kernel) (by decide) (zMo_comes_128 hB) (zMo_comes_118 hB)))))))))))))))))))
def qMo_comes_87 (d mc ms : Nat) (B : Nat → Pd) (K : Ps) : Pd := (i_ild 3 (i_ci 4 (i_ic_ge (qMo_comes_149 d mc ms B K) (qMo_comes_92 d mc ms B K))))
theorem zMo_comes_87 {d mc ms : Nat} {B : Nat → Pd} {K : Ps} (hB : ∀ pc, Le (B pc) (G cMo_comes "VoyageCompanyModel" 4 none "comes" (rm (d + 1) mc ms) (QM mc ms K) pc)) : Le (qMo_comes_87 d mc ms B K) (G cMo_comes "VoyageCompanyModel" 4 none "comes" (rm (d + 1) mc ms) (QM mc ms K) 87) := by
  unfold qMo_comes_87
  exact (s_ild_n (j := 3) (by decide +kernel) rfl (s_iconst (n := 4) (v := 4) (by decide +kernel) (by decide +kernel) (s_ic_ge (off := 60) (tgt := 149) (by decide +kernel) (by decide) (zMo_comes_149 hB) (zMo_comes_92 hB))))
def qMo_comes_85 (d mc ms : Nat) (B : Nat → Pd) (K : Ps) : Pd := (i_ci 0 (i_ist 3 (B 87)))
theorem zMo_comes_85 {d mc ms : Nat} {B : Nat → Pd} {K : Ps} (hB : ∀ pc, Le (B pc) (G cMo_comes "VoyageCompanyModel" 4 none "comes" (rm (d + 1) mc ms) (QM mc ms K) pc)) : Le (qMo_comes_85 d mc ms B K) (G cMo_comes "VoyageCompanyModel" 4 none "comes" (rm (d + 1) mc ms) (QM mc ms K) 85) := by
  unfold qMo_comes_85
  exact (s_iconst (n := 0) (v := 0) (by decide +kernel) (by decide +kernel) (s_ist_n (j := 3) (by decide +kernel) rfl (by decide) (hB 87)))
def qMo_comes_84 (d mc ms : Nat) (B : Nat → Pd) (K : Ps) : Pd := (i_vret mc ms K)
theorem zMo_comes_84 {d mc ms : Nat} {B : Nat → Pd} {K : Ps} (hB : ∀ pc, Le (B pc) (G cMo_comes "VoyageCompanyModel" 4 none "comes" (rm (d + 1) mc ms) (QM mc ms K) pc)) : Le (qMo_comes_84 d mc ms B K) (G cMo_comes "VoyageCompanyModel" 4 none "comes" (rm (d + 1) mc ms) (QM mc ms K) 84) := by
  unfold qMo_comes_84
  exact (s_vret (by decide +kernel) rfl)
def qMo_comes_62 (d mc ms : Nat) (B : Nat → Pd) (K : Ps) : Pd := (i_call 0 12 yMo_sets cMo_sets 4 none mc ms d 4 (i_ald 0 (i_ild 1 (i_ci 5 (i_ci (-1) (i_call 0 12 yMo_sets cMo_sets 4 none mc ms d 4 (i_ald 0 (i_ild 1 (i_ci 6 (i_ci (-1) (i_call 0 12 yMo_sets cMo_sets 4 none mc ms d 4 (i_ild 2 (i_if_ne (qMo_comes_85 d mc ms B K) (qMo_comes_84 d mc ms B K))))))))))))))
theorem zMo_comes_62 {d mc ms : Nat} {B : Nat → Pd} {K : Ps} (hB : ∀ pc, Le (B pc) (G cMo_comes "VoyageCompanyModel" 4 none "comes" (rm (d + 1) mc ms) (QM mc ms K) pc)) : Le (qMo_comes_62 d mc ms B K) (G cMo_comes "VoyageCompanyModel" 4 none "comes" (rm (d + 1) mc ms) (QM mc ms K) 62) := by
  unfold qMo_comes_62
  exact (s_call (idx := 131) (by decide +kernel) ml12_131 rmk (s_ald_n (j := 0) (by decide +kernel) rfl (s_ild_n (j := 1) (by decide +kernel) rfl (s_iconst (n := 5) (v := 5) (by decide +kernel) (by decide +kernel) (s_iconst (n := (-1)) (v := (-1)) (by decide +kernel) (by decide +kernel) (s_call (idx := 131) (by decide +kernel) ml12_131 rmk (s_ald_n (j := 0) (by decide +kernel) rfl (s_ild_n (j := 1) (by decide +kernel) rfl (s_bipush (n := 6) (v := 6) (by decide +kernel) (by decide +kernel) (s_iconst (n := (-1)) (v := (-1)) (by decide +kernel) (by decide +kernel) (s_call (idx := 131) (by decide +kernel) ml12_131 rmk (s_ild_n (j := 2) (by decide +kernel) rfl (s_if_ne (off := 4) (tgt := 85) (by decide +kernel) (by decide) (zMo_comes_85 hB) (zMo_comes_84 hB))))))))))))))
def qMo_comes_56 (d mc ms : Nat) (B : Nat → Pd) (K : Ps) : Pd := (i_ald 0 (i_ild 1 (i_ci 5 (i_call 0 12 yMo_of cMo_of 3 (some .int) mc ms d 3 (qMo_comes_62 d mc ms B K)))))
theorem zMo_comes_56 {d mc ms : Nat} {B : Nat → Pd} {K : Ps} (hB : ∀ pc, Le (B pc) (G cMo_comes "VoyageCompanyModel" 4 none "comes" (rm (d + 1) mc ms) (QM mc ms K) pc)) : Le (qMo_comes_56 d mc ms B K) (G cMo_comes "VoyageCompanyModel" 4 none "comes" (rm (d + 1) mc ms) (QM mc ms K) 56) := by
  unfold qMo_comes_56
  exact (s_ald_n (j := 0) (by decide +kernel) rfl (s_ild_n (j := 1) (by decide +kernel) rfl (s_iconst (n := 5) (v := 5) (by decide +kernel) (by decide +kernel) (s_call (idx := 138) (by decide +kernel) ml12_138 rmk (zMo_comes_62 hB)))))
def qMo_comes_51 (d mc ms : Nat) (B : Nat → Pd) (K : Ps) : Pd := (i_ci (-2) (qMo_comes_62 d mc ms B K))
theorem zMo_comes_51 {d mc ms : Nat} {B : Nat → Pd} {K : Ps} (hB : ∀ pc, Le (B pc) (G cMo_comes "VoyageCompanyModel" 4 none "comes" (rm (d + 1) mc ms) (QM mc ms K) pc)) : Le (qMo_comes_51 d mc ms B K) (G cMo_comes "VoyageCompanyModel" 4 none "comes" (rm (d + 1) mc ms) (QM mc ms K) 51) := by
  unfold qMo_comes_51
  exact (s_bipush (n := (-2)) (v := (-2)) (by decide +kernel) (by decide +kernel) (s_goto (off := 9) (tgt := 62) (by decide +kernel) (by decide) (zMo_comes_62 hB)))
def qMo_comes_43 (d mc ms : Nat) (B : Nat → Pd) (K : Ps) : Pd := (i_ist 2 (i_ald 0 (i_ild 1 (i_ci 4 (i_ild 2 (i_if_eq (qMo_comes_56 d mc ms B K) (qMo_comes_51 d mc ms B K)))))))
theorem zMo_comes_43 {d mc ms : Nat} {B : Nat → Pd} {K : Ps} (hB : ∀ pc, Le (B pc) (G cMo_comes "VoyageCompanyModel" 4 none "comes" (rm (d + 1) mc ms) (QM mc ms K) pc)) : Le (qMo_comes_43 d mc ms B K) (G cMo_comes "VoyageCompanyModel" 4 none "comes" (rm (d + 1) mc ms) (QM mc ms K) 43) := by
  unfold qMo_comes_43
  exact (s_ist_n (j := 2) (by decide +kernel) rfl (by decide) (s_ald_n (j := 0) (by decide +kernel) rfl (s_ild_n (j := 1) (by decide +kernel) rfl (s_iconst (n := 4) (v := 4) (by decide +kernel) (by decide +kernel) (s_ild_n (j := 2) (by decide +kernel) rfl (s_if_eq (off := 8) (tgt := 56) (by decide +kernel) (by decide) (zMo_comes_56 hB) (zMo_comes_51 hB)))))))
def qMo_comes_42 (d mc ms : Nat) (B : Nat → Pd) (K : Ps) : Pd := (i_ci 0 (qMo_comes_43 d mc ms B K))
theorem zMo_comes_42 {d mc ms : Nat} {B : Nat → Pd} {K : Ps} (hB : ∀ pc, Le (B pc) (G cMo_comes "VoyageCompanyModel" 4 none "comes" (rm (d + 1) mc ms) (QM mc ms K) pc)) : Le (qMo_comes_42 d mc ms B K) (G cMo_comes "VoyageCompanyModel" 4 none "comes" (rm (d + 1) mc ms) (QM mc ms K) 42) := by
  unfold qMo_comes_42
  exact (s_iconst (n := 0) (v := 0) (by decide +kernel) (by decide +kernel) (zMo_comes_43 hB))
def qMo_comes_38 (d mc ms : Nat) (B : Nat → Pd) (K : Ps) : Pd := (i_ci 1 (qMo_comes_43 d mc ms B K))
theorem zMo_comes_38 {d mc ms : Nat} {B : Nat → Pd} {K : Ps} (hB : ∀ pc, Le (B pc) (G cMo_comes "VoyageCompanyModel" 4 none "comes" (rm (d + 1) mc ms) (QM mc ms K) pc)) : Le (qMo_comes_38 d mc ms B K) (G cMo_comes "VoyageCompanyModel" 4 none "comes" (rm (d + 1) mc ms) (QM mc ms K) 38) := by
  unfold qMo_comes_38
  exact (s_iconst (n := 1) (v := 1) (by decide +kernel) (by decide +kernel) (s_goto (off := 4) (tgt := 43) (by decide +kernel) (by decide) (zMo_comes_43 hB)))
def qMo_comes_27 (d mc ms : Nat) (B : Nat → Pd) (K : Ps) : Pd := (i_ald 0 (i_ild 1 (i_ci 7 (i_call 0 12 yMo_of cMo_of 3 (some .int) mc ms d 3 (i_ci 1 (i_ic_ne (qMo_comes_42 d mc ms B K) (qMo_comes_38 d mc ms B K)))))))
theorem zMo_comes_27 {d mc ms : Nat} {B : Nat → Pd} {K : Ps} (hB : ∀ pc, Le (B pc) (G cMo_comes "VoyageCompanyModel" 4 none "comes" (rm (d + 1) mc ms) (QM mc ms K) pc)) : Le (qMo_comes_27 d mc ms B K) (G cMo_comes "VoyageCompanyModel" 4 none "comes" (rm (d + 1) mc ms) (QM mc ms K) 27) := by
  unfold qMo_comes_27
  exact (s_ald_n (j := 0) (by decide +kernel) rfl (s_ild_n (j := 1) (by decide +kernel) rfl (s_bipush (n := 7) (v := 7) (by decide +kernel) (by decide +kernel) (s_call (idx := 138) (by decide +kernel) ml12_138 rmk (s_iconst (n := 1) (v := 1) (by decide +kernel) (by decide +kernel) (s_ic_ne (off := 7) (tgt := 42) (by decide +kernel) (by decide) (zMo_comes_42 hB) (zMo_comes_38 hB)))))))
def qMo_comes_26 (d mc ms : Nat) (B : Nat → Pd) (K : Ps) : Pd := (i_vret mc ms K)
theorem zMo_comes_26 {d mc ms : Nat} {B : Nat → Pd} {K : Ps} (hB : ∀ pc, Le (B pc) (G cMo_comes "VoyageCompanyModel" 4 none "comes" (rm (d + 1) mc ms) (QM mc ms K) pc)) : Le (qMo_comes_26 d mc ms B K) (G cMo_comes "VoyageCompanyModel" 4 none "comes" (rm (d + 1) mc ms) (QM mc ms K) 26) := by
  unfold qMo_comes_26
  exact (s_vret (by decide +kernel) rfl)
def qMo_comes_10 (d mc ms : Nat) (B : Nat → Pd) (K : Ps) : Pd := (i_ald 0 (i_ild 1 (i_ci 6 (i_call 0 12 yMo_of cMo_of 3 (some .int) mc ms d 3 (i_ald 0 (i_getr 12 0 (i_ci 0 (i_iald (i_ic_eq (qMo_comes_27 d mc ms B K) (qMo_comes_26 d mc ms B K))))))))))
theorem zMo_comes_10 {d mc ms : Nat} {B : Nat → Pd} {K : Ps} (hB : ∀ pc, Le (B pc) (G cMo_comes "VoyageCompanyModel" 4 none "comes" (rm (d + 1) mc ms) (QM mc ms K) pc)) : Le (qMo_comes_10 d mc ms B K) (G cMo_comes "VoyageCompanyModel" 4 none "comes" (rm (d + 1) mc ms) (QM mc ms K) 10) := by
  unfold qMo_comes_10
  exact (s_ald_n (j := 0) (by decide +kernel) rfl (s_ild_n (j := 1) (by decide +kernel) rfl (s_bipush (n := 6) (v := 6) (by decide +kernel) (by decide +kernel) (s_call (idx := 138) (by decide +kernel) ml12_138 rmk (s_ald_n (j := 0) (by decide +kernel) rfl (s_getr (idx := 8) (by decide +kernel) fl12_8 (by decide) (s_iconst (n := 0) (v := 0) (by decide +kernel) (by decide +kernel) (s_iald (by decide +kernel) (s_ic_eq (off := 4) (tgt := 27) (by decide +kernel) (by decide) (zMo_comes_27 hB) (zMo_comes_26 hB))))))))))
def qMo_comes_0 (d mc ms : Nat) (B : Nat → Pd) (K : Ps) : Pd := (i_ald 0 (i_ild 1 (i_ci 4 (i_call 0 12 yMo_of cMo_of 3 (some .int) mc ms d 3 (i_ci (-1) (i_ic_ne (qMo_comes_26 d mc ms B K) (qMo_comes_10 d mc ms B K)))))))
theorem zMo_comes_0 {d mc ms : Nat} {B : Nat → Pd} {K : Ps} (hB : ∀ pc, Le (B pc) (G cMo_comes "VoyageCompanyModel" 4 none "comes" (rm (d + 1) mc ms) (QM mc ms K) pc)) : Le (qMo_comes_0 d mc ms B K) (G cMo_comes "VoyageCompanyModel" 4 none "comes" (rm (d + 1) mc ms) (QM mc ms K) 0) := by
  unfold qMo_comes_0
  exact (s_ald_n (j := 0) (by decide +kernel) rfl (s_ild_n (j := 1) (by decide +kernel) rfl (s_iconst (n := 4) (v := 4) (by decide +kernel) (by decide +kernel) (s_call (idx := 138) (by decide +kernel) ml12_138 rmk (s_iconst (n := (-1)) (v := (-1)) (by decide +kernel) (by decide +kernel) (s_ic_ne (off := 19) (tgt := 26) (by decide +kernel) (by decide) (zMo_comes_26 hB) (zMo_comes_10 hB)))))))
/-- VoyageCompanyModel.comes(I)V, at its places -/
def gMo_comes (d mc ms : Nat) (K : Ps) : Nat → Pd := G cMo_comes "VoyageCompanyModel" 4 none "comes" (rm (d + 1) mc ms) (QM mc ms K)
theorem eMo_comes {d mc ms : Nat} {K : Ps} {av : List Value} {E : Nat → Prop} {R : Nat → Nat → Value} {I : Nat → Nat → Int32} {J : Nat → Nat → Int64} (hn : (lg_sl av).length ≤ 4) (h : qMo_comes_0 d mc ms (gMo_comes d mc ms K) K (lv_args 0 av) [] E R I J 0 0) : CL yMo_comes cMo_comes 4 none (d + 1) mc ms av E R I J K :=
  CL.of (by decide +kernel) hn (zMo_comes_0 (fun _ => Le.refl) _ _ _ _ _ _ _ _ h)
theorem lMo_comes_87 {d mc ms : Nat} {K : Ps} : Le (qMo_comes_87 d mc ms (gMo_comes d mc ms K) K) (gMo_comes d mc ms K 87) := zMo_comes_87 (fun _ => Le.refl)
def qMo_theShip_30 (d mc ms : Nat) (B : Nat → Pd) (K : Ps) : Pd := (i_ci (-1) (i_iret mc ms K))
theorem zMo_theShip_30 {d mc ms : Nat} {B : Nat → Pd} {K : Ps} (hB : ∀ pc, Le (B pc) (G cMo_theShip "VoyageCompanyModel" 3 (some .int) "theShip" (rm (d + 1) mc ms) (QM mc ms K) pc)) : Le (qMo_theShip_30 d mc ms B K) (G cMo_theShip "VoyageCompanyModel" 3 (some .int) "theShip" (rm (d + 1) mc ms) (QM mc ms K) 30) := by
  unfold qMo_theShip_30
  exact (s_iconst (n := (-1)) (v := (-1)) (by decide +kernel) (by decide +kernel) (s_iret (by decide +kernel) rfl))
def qMo_theShip_24 (d mc ms : Nat) (B : Nat → Pd) (K : Ps) : Pd := (i_inc 2 1 (B 2))
theorem zMo_theShip_24 {d mc ms : Nat} {B : Nat → Pd} {K : Ps} (hB : ∀ pc, Le (B pc) (G cMo_theShip "VoyageCompanyModel" 3 (some .int) "theShip" (rm (d + 1) mc ms) (QM mc ms K) pc)) : Le (qMo_theShip_24 d mc ms B K) (G cMo_theShip "VoyageCompanyModel" 3 (some .int) "theShip" (rm (d + 1) mc ms) (QM mc ms K) 24) := by
  unfold qMo_theShip_24
  exact (s_inc (z := 1) (by decide +kernel) (by decide +kernel) (by decide) (s_goto (off := (-25)) (tgt := 2) (by decide +kernel) (by decide) (hB 2)))
def qMo_theShip_22 (d mc ms : Nat) (B : Nat → Pd) (K : Ps) : Pd := (i_ild 2 (i_iret mc ms K))
theorem zMo_theShip_22 {d mc ms : Nat} {B : Nat → Pd} {K : Ps} (hB : ∀ pc, Le (B pc) (G cMo_theShip "VoyageCompanyModel" 3 (some .int) "theShip" (rm (d + 1) mc ms) (QM mc ms K) pc)) : Le (qMo_theShip_22 d mc ms B K) (G cMo_theShip "VoyageCompanyModel" 3 (some .int) "theShip" (rm (d + 1) mc ms) (QM mc ms K) 22) := by
  unfold qMo_theShip_22
  exact (s_ild_n (j := 2) (by decide +kernel) rfl (s_iret (by decide +kernel) rfl))
def qMo_theShip_12 (d mc ms : Nat) (B : Nat → Pd) (K : Ps) : Pd := (i_ald 0 (i_ild 2 (i_ci 4 (i_call 0 12 yMo_of cMo_of 3 (some .int) mc ms d 3 (i_ild 1 (i_ic_ne (qMo_theShip_24 d mc ms B K) (qMo_theShip_22 d mc ms B K)))))))
theorem zMo_theShip_12 {d mc ms : Nat} {B : Nat → Pd} {K : Ps} (hB : ∀ pc, Le (B pc) (G cMo_theShip "VoyageCompanyModel" 3 (some .int) "theShip" (rm (d + 1) mc ms) (QM mc ms K) pc)) : Le (qMo_theShip_12 d mc ms B K) (G cMo_theShip "VoyageCompanyModel" 3 (some .int) "theShip" (rm (d + 1) mc ms) (QM mc ms K) 12) := by
  unfold qMo_theShip_12
  exact (s_ald_n (j := 0) (by decide +kernel) rfl (s_ild_n (j := 2) (by decide +kernel) rfl (s_iconst (n := 4) (v := 4) (by decide +kernel) (by decide +kernel) (s_call (idx := 138) (by decide +kernel) ml12_138 rmk (s_ild_n (j := 1) (by decide +kernel) rfl (s_ic_ne (off := 5) (tgt := 24) (by decide +kernel) (by decide) (zMo_theShip_24 hB) (zMo_theShip_22 hB)))))))
def qMo_theShip_2 (d mc ms : Nat) (B : Nat → Pd) (K : Ps) : Pd := (i_ild 2 (i_ald 0 (i_getr 12 0 (i_ci 1 (i_iald (i_ic_ge (qMo_theShip_30 d mc ms B K) (qMo_theShip_12 d mc ms B K)))))))
theorem zMo_theShip_2 {d mc ms : Nat} {B : Nat → Pd} {K : Ps} (hB : ∀ pc, Le (B pc) (G cMo_theShip "VoyageCompanyModel" 3 (some .int) "theShip" (rm (d + 1) mc ms) (QM mc ms K) pc)) : Le (qMo_theShip_2 d mc ms B K) (G cMo_theShip "VoyageCompanyModel" 3 (some .int) "theShip" (rm (d + 1) mc ms) (QM mc ms K) 2) := by
  unfold qMo_theShip_2
  exact (s_ild_n (j := 2) (by decide +kernel) rfl (s_ald_n (j := 0) (by decide +kernel) rfl (s_getr (idx := 8) (by decide +kernel) fl12_8 (by decide) (s_iconst (n := 1) (v := 1) (by decide +kernel) (by decide +kernel) (s_iald (by decide +kernel) (s_ic_ge (off := 21) (tgt := 30) (by decide +kernel) (by decide) (zMo_theShip_30 hB) (zMo_theShip_12 hB)))))))
def qMo_theShip_0 (d mc ms : Nat) (B : Nat → Pd) (K : Ps) : Pd := (i_ci 0 (i_ist 2 (B 2)))
theorem zMo_theShip_0 {d mc ms : Nat} {B : Nat → Pd} {K : Ps} (hB : ∀ pc, Le (B pc) (G cMo_theShip "VoyageCompanyModel" 3 (some .int) "theShip" (rm (d + 1) mc ms) (QM mc ms K) pc)) : Le (qMo_theShip_0 d mc ms B K) (G cMo_theShip "VoyageCompanyModel" 3 (some .int) "theShip" (rm (d + 1) mc ms) (QM mc ms K) 0) := by
  unfold qMo_theShip_0
  exact (s_iconst (n := 0) (v := 0) (by decide +kernel) (by decide +kernel) (s_ist_n (j := 2) (by decide +kernel) rfl (by decide) (hB 2)))
/-- VoyageCompanyModel.theShip(I)I, at its places -/
def gMo_theShip (d mc ms : Nat) (K : Ps) : Nat → Pd := G cMo_theShip "VoyageCompanyModel" 3 (some .int) "theShip" (rm (d + 1) mc ms) (QM mc ms K)
theorem eMo_theShip {d mc ms : Nat} {K : Ps} {av : List Value} {E : Nat → Prop} {R : Nat → Nat → Value} {I : Nat → Nat → Int32} {J : Nat → Nat → Int64} (hn : (lg_sl av).length ≤ 3) (h : qMo_theShip_0 d mc ms (gMo_theShip d mc ms K) K (lv_args 0 av) [] E R I J 0 0) : CL yMo_theShip cMo_theShip 3 (some .int) (d + 1) mc ms av E R I J K :=
  CL.of (by decide +kernel) hn (zMo_theShip_0 (fun _ => Le.refl) _ _ _ _ _ _ _ _ h)
theorem lMo_theShip_2 {d mc ms : Nat} {K : Ps} : Le (qMo_theShip_2 d mc ms (gMo_theShip d mc ms K) K) (gMo_theShip d mc ms K 2) := zMo_theShip_2 (fun _ => Le.refl)
def qMo_shipsAt_38 (d mc ms : Nat) (B : Nat → Pd) (K : Ps) : Pd := (i_ild 2 (i_iret mc ms K))
theorem zMo_shipsAt_38 {d mc ms : Nat} {B : Nat → Pd} {K : Ps} (hB : ∀ pc, Le (B pc) (G cMo_shipsAt "VoyageCompanyModel" 4 (some .int) "shipsAt" (rm (d + 1) mc ms) (QM mc ms K) pc)) : Le (qMo_shipsAt_38 d mc ms B K) (G cMo_shipsAt "VoyageCompanyModel" 4 (some .int) "shipsAt" (rm (d + 1) mc ms) (QM mc ms K) 38) := by
  unfold qMo_shipsAt_38
  exact (s_ild_n (j := 2) (by decide +kernel) rfl (s_iret (by decide +kernel) rfl))
def qMo_shipsAt_30 (d mc ms : Nat) (B : Nat → Pd) (K : Ps) : Pd := (i_iadd (i_ist 2 (i_inc 3 1 (B 4))))
theorem zMo_shipsAt_30 {d mc ms : Nat} {B : Nat → Pd} {K : Ps} (hB : ∀ pc, Le (B pc) (G cMo_shipsAt "VoyageCompanyModel" 4 (some .int) "shipsAt" (rm (d + 1) mc ms) (QM mc ms K) pc)) : Le (qMo_shipsAt_30 d mc ms B K) (G cMo_shipsAt "VoyageCompanyModel" 4 (some .int) "shipsAt" (rm (d + 1) mc ms) (QM mc ms K) 30) := by
  unfold qMo_shipsAt_30
  exact (s_iadd (by decide +kernel) (s_ist_n (j := 2) (by decide +kernel) rfl (by decide) (s_inc (z := 1) (by decide +kernel) (by decide +kernel) (by decide) (s_goto (off := (-31)) (tgt := 4) (by decide +kernel) (by decide) (hB 4)))))
def qMo_shipsAt_29 (d mc ms : Nat) (B : Nat → Pd) (K : Ps) : Pd := (i_ci 0 (qMo_shipsAt_30 d mc ms B K))
theorem zMo_shipsAt_29 {d mc ms : Nat} {B : Nat → Pd} {K : Ps} (hB : ∀ pc, Le (B pc) (G cMo_shipsAt "VoyageCompanyModel" 4 (some .int) "shipsAt" (rm (d + 1) mc ms) (QM mc ms K) pc)) : Le (qMo_shipsAt_29 d mc ms B K) (G cMo_shipsAt "VoyageCompanyModel" 4 (some .int) "shipsAt" (rm (d + 1) mc ms) (QM mc ms K) 29) := by
  unfold qMo_shipsAt_29
  exact (s_iconst (n := 0) (v := 0) (by decide +kernel) (by decide +kernel) (zMo_shipsAt_30 hB))
def qMo_shipsAt_25 (d mc ms : Nat) (B : Nat → Pd) (K : Ps) : Pd := (i_ci 1 (qMo_shipsAt_30 d mc ms B K))
theorem zMo_shipsAt_25 {d mc ms : Nat} {B : Nat → Pd} {K : Ps} (hB : ∀ pc, Le (B pc) (G cMo_shipsAt "VoyageCompanyModel" 4 (some .int) "shipsAt" (rm (d + 1) mc ms) (QM mc ms K) pc)) : Le (qMo_shipsAt_25 d mc ms B K) (G cMo_shipsAt "VoyageCompanyModel" 4 (some .int) "shipsAt" (rm (d + 1) mc ms) (QM mc ms K) 25) := by
  unfold qMo_shipsAt_25
  exact (s_iconst (n := 1) (v := 1) (by decide +kernel) (by decide +kernel) (s_goto (off := 4) (tgt := 30) (by decide +kernel) (by decide) (zMo_shipsAt_30 hB)))
def qMo_shipsAt_14 (d mc ms : Nat) (B : Nat → Pd) (K : Ps) : Pd := (i_ild 2 (i_ald 0 (i_ild 3 (i_ci 4 (i_call 0 12 yMo_of cMo_of 3 (some .int) mc ms d 3 (i_ild 1 (i_ic_ne (qMo_shipsAt_29 d mc ms B K) (qMo_shipsAt_25 d mc ms B K))))))))
theorem zMo_shipsAt_14 {d mc ms : Nat} {B : Nat → Pd} {K : Ps} (hB : ∀ pc, Le (B pc) (G cMo_shipsAt "VoyageCompanyModel" 4 (some .int) "shipsAt" (rm (d + 1) mc ms) (QM mc ms K) pc)) : Le (qMo_shipsAt_14 d mc ms B K) (G cMo_shipsAt "VoyageCompanyModel" 4 (some .int) "shipsAt" (rm (d + 1) mc ms) (QM mc ms K) 14) := by
  unfold qMo_shipsAt_14
  exact (s_ild_n (j := 2) (by decide +kernel) rfl (s_ald_n (j := 0) (by decide +kernel) rfl (s_ild_n (j := 3) (by decide +kernel) rfl (s_iconst (n := 4) (v := 4) (by decide +kernel) (by decide +kernel) (s_call (idx := 138) (by decide +kernel) ml12_138 rmk (s_ild_n (j := 1) (by decide +kernel) rfl (s_ic_ne (off := 7) (tgt := 29) (by decide +kernel) (by decide) (zMo_shipsAt_29 hB) (zMo_shipsAt_25 hB))))))))
def qMo_shipsAt_4 (d mc ms : Nat) (B : Nat → Pd) (K : Ps) : Pd := (i_ild 3 (i_ald 0 (i_getr 12 0 (i_ci 1 (i_iald (i_ic_ge (qMo_shipsAt_38 d mc ms B K) (qMo_shipsAt_14 d mc ms B K)))))))
theorem zMo_shipsAt_4 {d mc ms : Nat} {B : Nat → Pd} {K : Ps} (hB : ∀ pc, Le (B pc) (G cMo_shipsAt "VoyageCompanyModel" 4 (some .int) "shipsAt" (rm (d + 1) mc ms) (QM mc ms K) pc)) : Le (qMo_shipsAt_4 d mc ms B K) (G cMo_shipsAt "VoyageCompanyModel" 4 (some .int) "shipsAt" (rm (d + 1) mc ms) (QM mc ms K) 4) := by
  unfold qMo_shipsAt_4
  exact (s_ild_n (j := 3) (by decide +kernel) rfl (s_ald_n (j := 0) (by decide +kernel) rfl (s_getr (idx := 8) (by decide +kernel) fl12_8 (by decide) (s_iconst (n := 1) (v := 1) (by decide +kernel) (by decide +kernel) (s_iald (by decide +kernel) (s_ic_ge (off := 27) (tgt := 38) (by decide +kernel) (by decide) (zMo_shipsAt_38 hB) (zMo_shipsAt_14 hB)))))))
def qMo_shipsAt_0 (d mc ms : Nat) (B : Nat → Pd) (K : Ps) : Pd := (i_ci 0 (i_ist 2 (i_ci 0 (i_ist 3 (B 4)))))
theorem zMo_shipsAt_0 {d mc ms : Nat} {B : Nat → Pd} {K : Ps} (hB : ∀ pc, Le (B pc) (G cMo_shipsAt "VoyageCompanyModel" 4 (some .int) "shipsAt" (rm (d + 1) mc ms) (QM mc ms K) pc)) : Le (qMo_shipsAt_0 d mc ms B K) (G cMo_shipsAt "VoyageCompanyModel" 4 (some .int) "shipsAt" (rm (d + 1) mc ms) (QM mc ms K) 0) := by
  unfold qMo_shipsAt_0
  exact (s_iconst (n := 0) (v := 0) (by decide +kernel) (by decide +kernel) (s_ist_n (j := 2) (by decide +kernel) rfl (by decide) (s_iconst (n := 0) (v := 0) (by decide +kernel) (by decide +kernel) (s_ist_n (j := 3) (by decide +kernel) rfl (by decide) (hB 4)))))
/-- VoyageCompanyModel.shipsAt(I)I, at its places -/
def gMo_shipsAt (d mc ms : Nat) (K : Ps) : Nat → Pd := G cMo_shipsAt "VoyageCompanyModel" 4 (some .int) "shipsAt" (rm (d + 1) mc ms) (QM mc ms K)
theorem eMo_shipsAt {d mc ms : Nat} {K : Ps} {av : List Value} {E : Nat → Prop} {R : Nat → Nat → Value} {I : Nat → Nat → Int32} {J : Nat → Nat → Int64} (hn : (lg_sl av).length ≤ 4) (h : qMo_shipsAt_0 d mc ms (gMo_shipsAt d mc ms K) K (lv_args 0 av) [] E R I J 0 0) : CL yMo_shipsAt cMo_shipsAt 4 (some .int) (d + 1) mc ms av E R I J K :=
  CL.of (by decide +kernel) hn (zMo_shipsAt_0 (fun _ => Le.refl) _ _ _ _ _ _ _ _ h)
theorem lMo_shipsAt_4 {d mc ms : Nat} {K : Ps} : Le (qMo_shipsAt_4 d mc ms (gMo_shipsAt d mc ms K) K) (gMo_shipsAt d mc ms K 4) := zMo_shipsAt_4 (fun _ => Le.refl)
def qMo_told_146 (d mc ms : Nat) (B : Nat → Pd) (K : Ps) : Pd := (i_ald 0 (i_getr 12 0 (i_ci 50 (i_ci 4 (i_ild 1 (i_imul (i_iadd (i_ild 2 (i_iadd (i_ci 20 (i_isub (i_iald (i_iret mc ms K)))))))))))))
theorem zMo_told_146 {d mc ms : Nat} {B : Nat → Pd} {K : Ps} (hB : ∀ pc, Le (B pc) (G cMo_told "VoyageCompanyModel" 4 (some .int) "told" (rm (d + 1) mc ms) (QM mc ms K) pc)) : Le (qMo_told_146 d mc ms B K) (G cMo_told "VoyageCompanyModel" 4 (some .int) "told" (rm (d + 1) mc ms) (QM mc ms K) 146) := by
  unfold qMo_told_146
  exact (s_ald_n (j := 0) (by decide +kernel) rfl (s_getr (idx := 8) (by decide +kernel) fl12_8 (by decide) (s_bipush (n := 50) (v := 50) (by decide +kernel) (by decide +kernel) (s_iconst (n := 4) (v := 4) (by decide +kernel) (by decide +kernel) (s_ild_n (j := 1) (by decide +kernel) rfl (s_imul (by decide +kernel) (s_iadd (by decide +kernel) (s_ild_n (j := 2) (by decide +kernel) rfl (s_iadd (by decide +kernel) (s_bipush (n := 20) (v := 20) (by decide +kernel) (by decide +kernel) (s_isub (by decide +kernel) (s_iald (by decide +kernel) (s_iret (by decide +kernel) rfl)))))))))))))
def qMo_told_129 (d mc ms : Nat) (B : Nat → Pd) (K : Ps) : Pd := (i_ald 0 (i_getr 12 0 (i_ci 10 (i_ci 4 (i_ild 1 (i_imul (i_iadd (i_ild 2 (i_iadd (i_ci 10 (i_isub (i_iald (i_iret mc ms K)))))))))))))
theorem zMo_told_129 {d mc ms : Nat} {B : Nat → Pd} {K : Ps} (hB : ∀ pc, Le (B pc) (G cMo_told "VoyageCompanyModel" 4 (some .int) "told" (rm (d + 1) mc ms) (QM mc ms K) pc)) : Le (qMo_told_129 d mc ms B K) (G cMo_told "VoyageCompanyModel" 4 (some .int) "told" (rm (d + 1) mc ms) (QM mc ms K) 129) := by
  unfold qMo_told_129
  exact (s_ald_n (j := 0) (by decide +kernel) rfl (s_getr (idx := 8) (by decide +kernel) fl12_8 (by decide) (s_bipush (n := 10) (v := 10) (by decide +kernel) (by decide +kernel) (s_iconst (n := 4) (v := 4) (by decide +kernel) (by decide +kernel) (s_ild_n (j := 1) (by decide +kernel) rfl (s_imul (by decide +kernel) (s_iadd (by decide +kernel) (s_ild_n (j := 2) (by decide +kernel) rfl (s_iadd (by decide +kernel) (s_bipush (n := 10) (v := 10) (by decide +kernel) (by decide +kernel) (s_isub (by decide +kernel) (s_iald (by decide +kernel) (s_iret (by decide +kernel) rfl)))))))))))))
def qMo_told_117 (d mc ms : Nat) (B : Nat → Pd) (K : Ps) : Pd := (i_ald 0 (i_getr 12 0 (i_ci 10 (i_ci 4 (i_ild 1 (i_imul (i_iadd (i_iald (i_iret mc ms K)))))))))
theorem zMo_told_117 {d mc ms : Nat} {B : Nat → Pd} {K : Ps} (hB : ∀ pc, Le (B pc) (G cMo_told "VoyageCompanyModel" 4 (some .int) "told" (rm (d + 1) mc ms) (QM mc ms K) pc)) : Le (qMo_told_117 d mc ms B K) (G cMo_told "VoyageCompanyModel" 4 (some .int) "told" (rm (d + 1) mc ms) (QM mc ms K) 117) := by
  unfold qMo_told_117
  exact (s_ald_n (j := 0) (by decide +kernel) rfl (s_getr (idx := 8) (by decide +kernel) fl12_8 (by decide) (s_bipush (n := 10) (v := 10) (by decide +kernel) (by decide +kernel) (s_iconst (n := 4) (v := 4) (by decide +kernel) (by decide +kernel) (s_ild_n (j := 1) (by decide +kernel) rfl (s_imul (by decide +kernel) (s_iadd (by decide +kernel) (s_iald (by decide +kernel) (s_iret (by decide +kernel) rfl)))))))))
def qMo_told_116 (d mc ms : Nat) (B : Nat → Pd) (K : Ps) : Pd := (i_iret mc ms K)
theorem zMo_told_116 {d mc ms : Nat} {B : Nat → Pd} {K : Ps} (hB : ∀ pc, Le (B pc) (G cMo_told "VoyageCompanyModel" 4 (some .int) "told" (rm (d + 1) mc ms) (QM mc ms K) pc)) : Le (qMo_told_116 d mc ms B K) (G cMo_told "VoyageCompanyModel" 4 (some .int) "told" (rm (d + 1) mc ms) (QM mc ms K) 116) := by
  unfold qMo_told_116
  exact (s_iret (by decide +kernel) rfl)
def qMo_told_111 (d mc ms : Nat) (B : Nat → Pd) (K : Ps) : Pd := (i_ald 0 (i_ild 3 (i_call 0 12 yMo_roomOf cMo_roomOf 2 (some .int) mc ms d 2 (qMo_told_116 d mc ms B K))))
theorem zMo_told_111 {d mc ms : Nat} {B : Nat → Pd} {K : Ps} (hB : ∀ pc, Le (B pc) (G cMo_told "VoyageCompanyModel" 4 (some .int) "told" (rm (d + 1) mc ms) (QM mc ms K) pc)) : Le (qMo_told_111 d mc ms B K) (G cMo_told "VoyageCompanyModel" 4 (some .int) "told" (rm (d + 1) mc ms) (QM mc ms K) 111) := by
  unfold qMo_told_111
  exact (s_ald_n (j := 0) (by decide +kernel) rfl (s_ild_n (j := 3) (by decide +kernel) rfl (s_call (idx := 157) (by decide +kernel) ml12_157 rmk (zMo_told_116 hB))))
def qMo_told_107 (d mc ms : Nat) (B : Nat → Pd) (K : Ps) : Pd := (i_ci 0 (qMo_told_116 d mc ms B K))
theorem zMo_told_107 {d mc ms : Nat} {B : Nat → Pd} {K : Ps} (hB : ∀ pc, Le (B pc) (G cMo_told "VoyageCompanyModel" 4 (some .int) "told" (rm (d + 1) mc ms) (QM mc ms K) pc)) : Le (qMo_told_107 d mc ms B K) (G cMo_told "VoyageCompanyModel" 4 (some .int) "told" (rm (d + 1) mc ms) (QM mc ms K) 107) := by
  unfold qMo_told_107
  exact (s_iconst (n := 0) (v := 0) (by decide +kernel) (by decide +kernel) (s_goto (off := 8) (tgt := 116) (by decide +kernel) (by decide) (zMo_told_116 hB)))
def qMo_told_103 (d mc ms : Nat) (B : Nat → Pd) (K : Ps) : Pd := (i_ild 3 (i_if_ge (qMo_told_111 d mc ms B K) (qMo_told_107 d mc ms B K)))
theorem zMo_told_103 {d mc ms : Nat} {B : Nat → Pd} {K : Ps} (hB : ∀ pc, Le (B pc) (G cMo_told "VoyageCompanyModel" 4 (some .int) "told" (rm (d + 1) mc ms) (QM mc ms K) pc)) : Le (qMo_told_103 d mc ms B K) (G cMo_told "VoyageCompanyModel" 4 (some .int) "told" (rm (d + 1) mc ms) (QM mc ms K) 103) := by
  unfold qMo_told_103
  exact (s_ild_n (j := 3) (by decide +kernel) rfl (s_if_ge (off := 7) (tgt := 111) (by decide +kernel) (by decide) (zMo_told_111 hB) (zMo_told_107 hB)))
def qMo_told_97 (d mc ms : Nat) (B : Nat → Pd) (K : Ps) : Pd := (i_ald 0 (i_ild 1 (i_call 0 12 yMo_shipsAt cMo_shipsAt 4 (some .int) mc ms d 2 (i_iret mc ms K))))
theorem zMo_told_97 {d mc ms : Nat} {B : Nat → Pd} {K : Ps} (hB : ∀ pc, Le (B pc) (G cMo_told "VoyageCompanyModel" 4 (some .int) "told" (rm (d + 1) mc ms) (QM mc ms K) pc)) : Le (qMo_told_97 d mc ms B K) (G cMo_told "VoyageCompanyModel" 4 (some .int) "told" (rm (d + 1) mc ms) (QM mc ms K) 97) := by
  unfold qMo_told_97
  exact (s_ald_n (j := 0) (by decide +kernel) rfl (s_ild_n (j := 1) (by decide +kernel) rfl (s_call (idx := 176) (by decide +kernel) ml12_176 rmk (s_iret (by decide +kernel) rfl))))
def qMo_told_82 (d mc ms : Nat) (B : Nat → Pd) (K : Ps) : Pd := (i_ald 0 (i_getr 12 0 (i_ci 320 (i_ci 4 (i_ild 1 (i_imul (i_iadd (i_ci 2 (i_iadd (i_iald (i_iret mc ms K)))))))))))
theorem zMo_told_82 {d mc ms : Nat} {B : Nat → Pd} {K : Ps} (hB : ∀ pc, Le (B pc) (G cMo_told "VoyageCompanyModel" 4 (some .int) "told" (rm (d + 1) mc ms) (QM mc ms K) pc)) : Le (qMo_told_82 d mc ms B K) (G cMo_told "VoyageCompanyModel" 4 (some .int) "told" (rm (d + 1) mc ms) (QM mc ms K) 82) := by
  unfold qMo_told_82
  exact (s_ald_n (j := 0) (by decide +kernel) rfl (s_getr (idx := 8) (by decide +kernel) fl12_8 (by decide) (s_sipush (n := 320) (v := 320) (by decide +kernel) (by decide +kernel) (s_iconst (n := 4) (v := 4) (by decide +kernel) (by decide +kernel) (s_ild_n (j := 1) (by decide +kernel) rfl (s_imul (by decide +kernel) (s_iadd (by decide +kernel) (s_iconst (n := 2) (v := 2) (by decide +kernel) (by decide +kernel) (s_iadd (by decide +kernel) (s_iald (by decide +kernel) (s_iret (by decide +kernel) rfl)))))))))))
def qMo_told_72 (d mc ms : Nat) (B : Nat → Pd) (K : Ps) : Pd := (i_ald 0 (i_getr 12 0 (i_ci 0 (i_iald (i_ci 12 (i_irem (i_iret mc ms K)))))))
theorem zMo_told_72 {d mc ms : Nat} {B : Nat → Pd} {K : Ps} (hB : ∀ pc, Le (B pc) (G cMo_told "VoyageCompanyModel" 4 (some .int) "told" (rm (d + 1) mc ms) (QM mc ms K) pc)) : Le (qMo_told_72 d mc ms B K) (G cMo_told "VoyageCompanyModel" 4 (some .int) "told" (rm (d + 1) mc ms) (QM mc ms K) 72) := by
  unfold qMo_told_72
  exact (s_ald_n (j := 0) (by decide +kernel) rfl (s_getr (idx := 8) (by decide +kernel) fl12_8 (by decide) (s_iconst (n := 0) (v := 0) (by decide +kernel) (by decide +kernel) (s_iald (by decide +kernel) (s_bipush (n := 12) (v := 12) (by decide +kernel) (by decide +kernel) (s_irem (by decide +kernel) (s_iret (by decide +kernel) rfl)))))))
def qMo_told_0 (d mc ms : Nat) (B : Nat → Pd) (K : Ps) : Pd := (i_ald 0 (i_ild 1 (i_call 0 12 yMo_theShip cMo_theShip 3 (some .int) mc ms d 2 (i_ist 3 (i_ild 2 (i_sw [(1, (qMo_told_72 d mc ms B K)), (2, (qMo_told_82 d mc ms B K)), (3, (qMo_told_97 d mc ms B K)), (4, (qMo_told_103 d mc ms B K)), (5, (qMo_told_117 d mc ms B K)), (6, (qMo_told_146 d mc ms B K)), (7, (qMo_told_146 d mc ms B K)), (8, (qMo_told_146 d mc ms B K)), (9, (qMo_told_146 d mc ms B K)), (10, (qMo_told_146 d mc ms B K)), (11, (qMo_told_129 d mc ms B K)), (12, (qMo_told_129 d mc ms B K)), (13, (qMo_told_129 d mc ms B K))] (qMo_told_146 d mc ms B K)))))))
theorem zMo_told_0 {d mc ms : Nat} {B : Nat → Pd} {K : Ps} (hB : ∀ pc, Le (B pc) (G cMo_told "VoyageCompanyModel" 4 (some .int) "told" (rm (d + 1) mc ms) (QM mc ms K) pc)) : Le (qMo_told_0 d mc ms B K) (G cMo_told "VoyageCompanyModel" 4 (some .int) "told" (rm (d + 1) mc ms) (QM mc ms K) 0) := by
  unfold qMo_told_0
  exact (s_ald_n (j := 0) (by decide +kernel) rfl (s_ild_n (j := 1) (by decide +kernel) rfl (s_call (idx := 173) (by decide +kernel) ml12_173 rmk (s_ist_n (j := 3) (by decide +kernel) rfl (by decide) (s_ild_n (j := 2) (by decide +kernel) rfl (s_sw (fun x => by
    by_cases h0 : x = 1
    · subst h0
      exact ⟨72, sw_in (dflt := 139) (lo := 1) (hi := 13) (offs := #[65, 75, 90, 96, 110, 139, 139, 139, 139, 139, 122, 122, 122]) (len := 65) (off := 65) (by decide +kernel) (by decide +kernel) (by decide +kernel) (by decide +kernel) (by decide +kernel), by simpa [swp] using (zMo_told_72 hB)⟩
    by_cases h1 : x = 2
    · subst h1
      exact ⟨82, sw_in (dflt := 139) (lo := 1) (hi := 13) (offs := #[65, 75, 90, 96, 110, 139, 139, 139, 139, 139, 122, 122, 122]) (len := 65) (off := 75) (by decide +kernel) (by decide +kernel) (by decide +kernel) (by decide +kernel) (by decide +kernel), by simpa [swp] using (zMo_told_82 hB)⟩
    by_cases h2 : x = 3
    · subst h2
      exact ⟨97, sw_in (dflt := 139) (lo := 1) (hi := 13) (offs := #[65, 75, 90, 96, 110, 139, 139, 139, 139, 139, 122, 122, 122]) (len := 65) (off := 90) (by decide +kernel) (by decide +kernel) (by decide +kernel) (by decide +kernel) (by decide +kernel), by simpa [swp] using (zMo_told_97 hB)⟩
    by_cases h3 : x = 4
    · subst h3
      exact ⟨103, sw_in (dflt := 139) (lo := 1) (hi := 13) (offs := #[65, 75, 90, 96, 110, 139, 139, 139, 139, 139, 122, 122, 122]) (len := 65) (off := 96) (by decide +kernel) (by decide +kernel) (by decide +kernel) (by decide +kernel) (by decide +kernel), by simpa [swp] using (zMo_told_103 hB)⟩
    by_cases h4 : x = 5
    · subst h4
      exact ⟨117, sw_in (dflt := 139) (lo := 1) (hi := 13) (offs := #[65, 75, 90, 96, 110, 139, 139, 139, 139, 139, 122, 122, 122]) (len := 65) (off := 110) (by decide +kernel) (by decide +kernel) (by decide +kernel) (by decide +kernel) (by decide +kernel), by simpa [swp] using (zMo_told_117 hB)⟩
    by_cases h5 : x = 6
    · subst h5
      exact ⟨146, sw_in (dflt := 139) (lo := 1) (hi := 13) (offs := #[65, 75, 90, 96, 110, 139, 139, 139, 139, 139, 122, 122, 122]) (len := 65) (off := 139) (by decide +kernel) (by decide +kernel) (by decide +kernel) (by decide +kernel) (by decide +kernel), by simpa [swp] using (zMo_told_146 hB)⟩
    by_cases h6 : x = 7
    · subst h6
      exact ⟨146, sw_in (dflt := 139) (lo := 1) (hi := 13) (offs := #[65, 75, 90, 96, 110, 139, 139, 139, 139, 139, 122, 122, 122]) (len := 65) (off := 139) (by decide +kernel) (by decide +kernel) (by decide +kernel) (by decide +kernel) (by decide +kernel), by simpa [swp] using (zMo_told_146 hB)⟩
    by_cases h7 : x = 8
    · subst h7
      exact ⟨146, sw_in (dflt := 139) (lo := 1) (hi := 13) (offs := #[65, 75, 90, 96, 110, 139, 139, 139, 139, 139, 122, 122, 122]) (len := 65) (off := 139) (by decide +kernel) (by decide +kernel) (by decide +kernel) (by decide +kernel) (by decide +kernel), by simpa [swp] using (zMo_told_146 hB)⟩
    by_cases h8 : x = 9
    · subst h8
      exact ⟨146, sw_in (dflt := 139) (lo := 1) (hi := 13) (offs := #[65, 75, 90, 96, 110, 139, 139, 139, 139, 139, 122, 122, 122]) (len := 65) (off := 139) (by decide +kernel) (by decide +kernel) (by decide +kernel) (by decide +kernel) (by decide +kernel), by simpa [swp] using (zMo_told_146 hB)⟩
    by_cases h9 : x = 10
    · subst h9
      exact ⟨146, sw_in (dflt := 139) (lo := 1) (hi := 13) (offs := #[65, 75, 90, 96, 110, 139, 139, 139, 139, 139, 122, 122, 122]) (len := 65) (off := 139) (by decide +kernel) (by decide +kernel) (by decide +kernel) (by decide +kernel) (by decide +kernel), by simpa [swp] using (zMo_told_146 hB)⟩
    by_cases h10 : x = 11
    · subst h10
      exact ⟨129, sw_in (dflt := 139) (lo := 1) (hi := 13) (offs := #[65, 75, 90, 96, 110, 139, 139, 139, 139, 139, 122, 122, 122]) (len := 65) (off := 122) (by decide +kernel) (by decide +kernel) (by decide +kernel) (by decide +kernel) (by decide +kernel), by simpa [swp] using (zMo_told_129 hB)⟩
    by_cases h11 : x = 12
    · subst h11
      exact ⟨129, sw_in (dflt := 139) (lo := 1) (hi := 13) (offs := #[65, 75, 90, 96, 110, 139, 139, 139, 139, 139, 122, 122, 122]) (len := 65) (off := 122) (by decide +kernel) (by decide +kernel) (by decide +kernel) (by decide +kernel) (by decide +kernel), by simpa [swp] using (zMo_told_129 hB)⟩
    by_cases h12 : x = 13
    · subst h12
      exact ⟨129, sw_in (dflt := 139) (lo := 1) (hi := 13) (offs := #[65, 75, 90, 96, 110, 139, 139, 139, 139, 139, 122, 122, 122]) (len := 65) (off := 122) (by decide +kernel) (by decide +kernel) (by decide +kernel) (by decide +kernel) (by decide +kernel), by simpa [swp] using (zMo_told_129 hB)⟩
    have g0 := i32_ne (z := 1) (by decide +kernel) h0
    have g1 := i32_ne (z := 2) (by decide +kernel) h1
    have g2 := i32_ne (z := 3) (by decide +kernel) h2
    have g3 := i32_ne (z := 4) (by decide +kernel) h3
    have g4 := i32_ne (z := 5) (by decide +kernel) h4
    have g5 := i32_ne (z := 6) (by decide +kernel) h5
    have g6 := i32_ne (z := 7) (by decide +kernel) h6
    have g7 := i32_ne (z := 8) (by decide +kernel) h7
    have g8 := i32_ne (z := 9) (by decide +kernel) h8
    have g9 := i32_ne (z := 10) (by decide +kernel) h9
    have g10 := i32_ne (z := 11) (by decide +kernel) h10
    have g11 := i32_ne (z := 12) (by decide +kernel) h11
    have g12 := i32_ne (z := 13) (by decide +kernel) h12
    exact ⟨146, sw_out (dflt := 139) (lo := 1) (hi := 13) (offs := #[65, 75, 90, 96, 110, 139, 139, 139, 139, 139, 122, 122, 122]) (len := 65) (by decide +kernel) (by omega) (by decide +kernel), by simpa [swp, h0, h1, h2, h3, h4, h5, h6, h7, h8, h9, h10, h11, h12] using (zMo_told_146 hB)⟩)))))))
/-- VoyageCompanyModel.told(II)I, at its places -/
def gMo_told (d mc ms : Nat) (K : Ps) : Nat → Pd := G cMo_told "VoyageCompanyModel" 4 (some .int) "told" (rm (d + 1) mc ms) (QM mc ms K)
theorem eMo_told {d mc ms : Nat} {K : Ps} {av : List Value} {E : Nat → Prop} {R : Nat → Nat → Value} {I : Nat → Nat → Int32} {J : Nat → Nat → Int64} (hn : (lg_sl av).length ≤ 4) (h : qMo_told_0 d mc ms (gMo_told d mc ms K) K (lv_args 0 av) [] E R I J 0 0) : CL yMo_told cMo_told 4 (some .int) (d + 1) mc ms av E R I J K :=
  CL.of (by decide +kernel) hn (zMo_told_0 (fun _ => Le.refl) _ _ _ _ _ _ _ _ h)
def qMo_holds_151 (d mc ms : Nat) (B : Nat → Pd) (K : Ps) : Pd := (i_ild 4 (i_zret mc ms K))
theorem zMo_holds_151 {d mc ms : Nat} {B : Nat → Pd} {K : Ps} (hB : ∀ pc, Le (B pc) (G cMo_holds "VoyageCompanyModel" 9 (some .boolean) "holds" (rm (d + 1) mc ms) (QM mc ms K) pc)) : Le (qMo_holds_151 d mc ms B K) (G cMo_holds "VoyageCompanyModel" 9 (some .boolean) "holds" (rm (d + 1) mc ms) (QM mc ms K) 151) := by
  unfold qMo_holds_151
  exact (s_ild (by decide +kernel) (s_zret (by decide +kernel) rfl))
def qMo_holds_143 (d mc ms : Nat) (B : Nat → Pd) (K : Ps) : Pd := (i_ist 4 (i_inc 5 1 (B 21)))
theorem zMo_holds_143 {d mc ms : Nat} {B : Nat → Pd} {K : Ps} (hB : ∀ pc, Le (B pc) (G cMo_holds "VoyageCompanyModel" 9 (some .boolean) "holds" (rm (d + 1) mc ms) (QM mc ms K) pc)) : Le (qMo_holds_143 d mc ms B K) (G cMo_holds "VoyageCompanyModel" 9 (some .boolean) "holds" (rm (d + 1) mc ms) (QM mc ms K) 143) := by
  unfold qMo_holds_143
  exact (s_ist (by decide +kernel) (by decide) (s_inc (z := 1) (by decide +kernel) (by decide +kernel) (by decide) (s_goto (off := (-127)) (tgt := 21) (by decide +kernel) (by decide) (hB 21))))
def qMo_holds_142 (d mc ms : Nat) (B : Nat → Pd) (K : Ps) : Pd := (i_ci 0 (qMo_holds_143 d mc ms B K))
theorem zMo_holds_142 {d mc ms : Nat} {B : Nat → Pd} {K : Ps} (hB : ∀ pc, Le (B pc) (G cMo_holds "VoyageCompanyModel" 9 (some .boolean) "holds" (rm (d + 1) mc ms) (QM mc ms K) pc)) : Le (qMo_holds_142 d mc ms B K) (G cMo_holds "VoyageCompanyModel" 9 (some .boolean) "holds" (rm (d + 1) mc ms) (QM mc ms K) 142) := by
  unfold qMo_holds_142
  exact (s_iconst (n := 0) (v := 0) (by decide +kernel) (by decide +kernel) (zMo_holds_143 hB))
def qMo_holds_138 (d mc ms : Nat) (B : Nat → Pd) (K : Ps) : Pd := (i_ci 1 (qMo_holds_143 d mc ms B K))
theorem zMo_holds_138 {d mc ms : Nat} {B : Nat → Pd} {K : Ps} (hB : ∀ pc, Le (B pc) (G cMo_holds "VoyageCompanyModel" 9 (some .boolean) "holds" (rm (d + 1) mc ms) (QM mc ms K) pc)) : Le (qMo_holds_138 d mc ms B K) (G cMo_holds "VoyageCompanyModel" 9 (some .boolean) "holds" (rm (d + 1) mc ms) (QM mc ms K) 138) := by
  unfold qMo_holds_138
  exact (s_iconst (n := 1) (v := 1) (by decide +kernel) (by decide +kernel) (s_goto (off := 4) (tgt := 143) (by decide +kernel) (by decide) (zMo_holds_143 hB)))
def qMo_holds_131 (d mc ms : Nat) (B : Nat → Pd) (K : Ps) : Pd := (i_ild 6 (i_ild 7 (i_ic_ne (qMo_holds_142 d mc ms B K) (qMo_holds_138 d mc ms B K))))
theorem zMo_holds_131 {d mc ms : Nat} {B : Nat → Pd} {K : Ps} (hB : ∀ pc, Le (B pc) (G cMo_holds "VoyageCompanyModel" 9 (some .boolean) "holds" (rm (d + 1) mc ms) (QM mc ms K) pc)) : Le (qMo_holds_131 d mc ms B K) (G cMo_holds "VoyageCompanyModel" 9 (some .boolean) "holds" (rm (d + 1) mc ms) (QM mc ms K) 131) := by
  unfold qMo_holds_131
  exact (s_ild (by decide +kernel) (s_ild (by decide +kernel) (s_ic_ne (off := 7) (tgt := 142) (by decide +kernel) (by decide) (zMo_holds_142 hB) (zMo_holds_138 hB))))
def qMo_holds_127 (d mc ms : Nat) (B : Nat → Pd) (K : Ps) : Pd := (i_ci 0 (qMo_holds_143 d mc ms B K))
theorem zMo_holds_127 {d mc ms : Nat} {B : Nat → Pd} {K : Ps} (hB : ∀ pc, Le (B pc) (G cMo_holds "VoyageCompanyModel" 9 (some .boolean) "holds" (rm (d + 1) mc ms) (QM mc ms K) pc)) : Le (qMo_holds_127 d mc ms B K) (G cMo_holds "VoyageCompanyModel" 9 (some .boolean) "holds" (rm (d + 1) mc ms) (QM mc ms K) 127) := by
  unfold qMo_holds_127
  exact (s_iconst (n := 0) (v := 0) (by decide +kernel) (by decide +kernel) (s_goto (off := 15) (tgt := 143) (by decide +kernel) (by decide) (zMo_holds_143 hB)))
def qMo_holds_123 (d mc ms : Nat) (B : Nat → Pd) (K : Ps) : Pd := (i_ci 1 (qMo_holds_143 d mc ms B K))
theorem zMo_holds_123 {d mc ms : Nat} {B : Nat → Pd} {K : Ps} (hB : ∀ pc, Le (B pc) (G cMo_holds "VoyageCompanyModel" 9 (some .boolean) "holds" (rm (d + 1) mc ms) (QM mc ms K) pc)) : Le (qMo_holds_123 d mc ms B K) (G cMo_holds "VoyageCompanyModel" 9 (some .boolean) "holds" (rm (d + 1) mc ms) (QM mc ms K) 123) := by
  unfold qMo_holds_123
  exact (s_iconst (n := 1) (v := 1) (by decide +kernel) (by decide +kernel) (s_goto (off := 19) (tgt := 143) (by decide +kernel) (by decide) (zMo_holds_143 hB)))
def qMo_holds_116 (d mc ms : Nat) (B : Nat → Pd) (K : Ps) : Pd := (i_ild 6 (i_ild 7 (i_ic_le (qMo_holds_127 d mc ms B K) (qMo_holds_123 d mc ms B K))))
theorem zMo_holds_116 {d mc ms : Nat} {B : Nat → Pd} {K : Ps} (hB : ∀ pc, Le (B pc) (G cMo_holds "VoyageCompanyModel" 9 (some .boolean) "holds" (rm (d + 1) mc ms) (QM mc ms K) pc)) : Le (qMo_holds_116 d mc ms B K) (G cMo_holds "VoyageCompanyModel" 9 (some .boolean) "holds" (rm (d + 1) mc ms) (QM mc ms K) 116) := by
  unfold qMo_holds_116
  exact (s_ild (by decide +kernel) (s_ild (by decide +kernel) (s_ic_le (off := 7) (tgt := 127) (by decide +kernel) (by decide) (zMo_holds_127 hB) (zMo_holds_123 hB))))
def qMo_holds_109 (d mc ms : Nat) (B : Nat → Pd) (K : Ps) : Pd := (i_ild 8 (i_ci 62 (i_ic_ne (qMo_holds_131 d mc ms B K) (qMo_holds_116 d mc ms B K))))
theorem zMo_holds_109 {d mc ms : Nat} {B : Nat → Pd} {K : Ps} (hB : ∀ pc, Le (B pc) (G cMo_holds "VoyageCompanyModel" 9 (some .boolean) "holds" (rm (d + 1) mc ms) (QM mc ms K) pc)) : Le (qMo_holds_109 d mc ms B K) (G cMo_holds "VoyageCompanyModel" 9 (some .boolean) "holds" (rm (d + 1) mc ms) (QM mc ms K) 109) := by
  unfold qMo_holds_109
  exact (s_ild (by decide +kernel) (s_bipush (n := 62) (v := 62) (by decide +kernel) (by decide +kernel) (s_ic_ne (off := 18) (tgt := 131) (by decide +kernel) (by decide) (zMo_holds_131 hB) (zMo_holds_116 hB))))
def qMo_holds_105 (d mc ms : Nat) (B : Nat → Pd) (K : Ps) : Pd := (i_ci 0 (qMo_holds_143 d mc ms B K))
theorem zMo_holds_105 {d mc ms : Nat} {B : Nat → Pd} {K : Ps} (hB : ∀ pc, Le (B pc) (G cMo_holds "VoyageCompanyModel" 9 (some .boolean) "holds" (rm (d + 1) mc ms) (QM mc ms K) pc)) : Le (qMo_holds_105 d mc ms B K) (G cMo_holds "VoyageCompanyModel" 9 (some .boolean) "holds" (rm (d + 1) mc ms) (QM mc ms K) 105) := by
  unfold qMo_holds_105
  exact (s_iconst (n := 0) (v := 0) (by decide +kernel) (by decide +kernel) (s_goto (off := 37) (tgt := 143) (by decide +kernel) (by decide) (zMo_holds_143 hB)))
def qMo_holds_101 (d mc ms : Nat) (B : Nat → Pd) (K : Ps) : Pd := (i_ci 1 (qMo_holds_143 d mc ms B K))
theorem zMo_holds_101 {d mc ms : Nat} {B : Nat → Pd} {K : Ps} (hB : ∀ pc, Le (B pc) (G cMo_holds "VoyageCompanyModel" 9 (some .boolean) "holds" (rm (d + 1) mc ms) (QM mc ms K) pc)) : Le (qMo_holds_101 d mc ms B K) (G cMo_holds "VoyageCompanyModel" 9 (some .boolean) "holds" (rm (d + 1) mc ms) (QM mc ms K) 101) := by
  unfold qMo_holds_101
  exact (s_iconst (n := 1) (v := 1) (by decide +kernel) (by decide +kernel) (s_goto (off := 41) (tgt := 143) (by decide +kernel) (by decide) (zMo_holds_143 hB)))
def qMo_holds_94 (d mc ms : Nat) (B : Nat → Pd) (K : Ps) : Pd := (i_ild 6 (i_ild 7 (i_ic_ge (qMo_holds_105 d mc ms B K) (qMo_holds_101 d mc ms B K))))
theorem zMo_holds_94 {d mc ms : Nat} {B : Nat → Pd} {K : Ps} (hB : ∀ pc, Le (B pc) (G cMo_holds "VoyageCompanyModel" 9 (some .boolean) "holds" (rm (d + 1) mc ms) (QM mc ms K) pc)) : Le (qMo_holds_94 d mc ms B K) (G cMo_holds "VoyageCompanyModel" 9 (some .boolean) "holds" (rm (d + 1) mc ms) (QM mc ms K) 94) := by
  unfold qMo_holds_94
  exact (s_ild (by decide +kernel) (s_ild (by decide +kernel) (s_ic_ge (off := 7) (tgt := 105) (by decide +kernel) (by decide) (zMo_holds_105 hB) (zMo_holds_101 hB))))
def qMo_holds_37 (d mc ms : Nat) (B : Nat → Pd) (K : Ps) : Pd := (i_ald 0 (i_ild 1 (i_ald 0 (i_getr 12 0 (i_ild 3 (i_ci 1 (i_iadd (i_ci 3 (i_ild 5 (i_imul (i_iadd (i_iald (i_call 0 12 yMo_told cMo_told 4 (some .int) mc ms d 3 (i_ist 6 (i_ald 0 (i_getr 12 0 (i_ild 3 (i_ci 3 (i_iadd (i_ci 3 (i_ild 5 (i_imul (i_iadd (i_iald (i_ist 7 (i_ald 0 (i_getr 12 0 (i_ild 3 (i_ci 2 (i_iadd (i_ci 3 (i_ild 5 (i_imul (i_iadd (i_iald (i_ist 8 (i_ild 8 (i_ci 60 (i_ic_ne (qMo_holds_109 d mc ms B K) (qMo_holds_94 d mc ms B K))))))))))))))))))))))))))))))))))))))))
theorem zMo_holds_37 {d mc ms : Nat} {B : Nat → Pd} {K : Ps} (hB : ∀ pc, Le (B pc) (G cMo_holds "VoyageCompanyModel" 9 (some .boolean) "holds" (rm (d + 1) mc ms) (QM mc ms K) pc)) : Le (qMo_holds_37 d mc ms B K) (G cMo_holds "VoyageCompanyModel" 9 (some .boolean) "holds" (rm (d + 1) mc ms) (QM mc ms K) 37) := by
  unfold qMo_holds_37
  exact (s_ald_n (j := 0) (by decide +kernel) rfl (s_ild_n (j := 1) (by decide +kernel) rfl (s_ald_n (j := 0) (by decide +kernel) rfl (s_getr (idx := 8) (by decide +kernel) fl12_8 (by decide) (s_ild_n (j := 3) (by decide +kernel) rfl (s_iconst (n := 1) (v := 1) (by decide +kernel) (by decide +kernel) (s_iadd (by decide +kernel) (s_iconst (n := 3) (v := 3) (by decide +kernel) (by decide +kernel) (s_ild (by decide +kernel) (s_imul (by decide +kernel) (s_iadd (by decide +kernel) (s_iald (by decide +kernel) (s_call (idx := 179) (by decide +kernel) ml12_179 rmk (s_ist (by decide +kernel) (by decide) (s_ald_n (j := 0) (by decide +kernel) rfl (s_getr (idx := 8) (by decide +kernel) fl12_8 (by decide) (s_ild_n (j := 3) (by decide +kernel) rfl (s_iconst (n := 3) (v := 3) (by decide +kernel) (by decide +kernel) (s_iadd (by decide +kernel) (s_iconst (n := 3) (v := 3) (by decide +kernel) (by decide +kernel) (s_ild (by decide +kernel) (s_imul (by decide +kernel) (s_iadd (by decide +kernel) (s_iald (by decide +kernel) (s_ist (by decide +kernel) (by decide) (s_ald_n (j := 0) (by decide +kernel) rfl (s_getr (idx := 8) (by decide +kernel) fl12_8 (by decide) (s_ild_n (j := 3) (by decide +kernel) rfl (s_iconst (n := 2) (v := 2) (by decide +kernel) (by decide +kernel) (s_iadd (by decide +kernel) (s_iconst (n := 3) (v := 3) (by decide +kernel) (by decide +kernel) (s_ild (by decide +kernel) (s_imul (by decide +kernel) (s_iadd (by decide +kernel) (s_iald (by decide +kernel) (s_ist (by decide +kernel) (by decide) (s_ild (by decide +kernel) (s_bipush (n := 60) (v := 60) (by decide +kernel) (by decide +kernel) (s_ic_ne (off := 18) (tgt := 109) (by decide +kernel) (by decide) (zMo_holds_109 hB) (zMo_holds_94 hB))))))))))))))))))))))))))))))))))))))))
def qMo_holds_32 (d mc ms : Nat) (B : Nat → Pd) (K : Ps) : Pd := (i_ild 4 (i_if_eq (qMo_holds_151 d mc ms B K) (qMo_holds_37 d mc ms B K)))
theorem zMo_holds_32 {d mc ms : Nat} {B : Nat → Pd} {K : Ps} (hB : ∀ pc, Le (B pc) (G cMo_holds "VoyageCompanyModel" 9 (some .boolean) "holds" (rm (d + 1) mc ms) (QM mc ms K) pc)) : Le (qMo_holds_32 d mc ms B K) (G cMo_holds "VoyageCompanyModel" 9 (some .boolean) "holds" (rm (d + 1) mc ms) (QM mc ms K) 32) := by
  unfold qMo_holds_32
  exact (s_ild (by decide +kernel) (s_if_eq (off := 117) (tgt := 151) (by decide +kernel) (by decide) (zMo_holds_151 hB) (zMo_holds_37 hB)))
def qMo_holds_21 (d mc ms : Nat) (B : Nat → Pd) (K : Ps) : Pd := (i_ild 5 (i_ald 0 (i_getr 12 0 (i_ild 3 (i_iald (i_ic_ge (qMo_holds_151 d mc ms B K) (qMo_holds_32 d mc ms B K)))))))
theorem zMo_holds_21 {d mc ms : Nat} {B : Nat → Pd} {K : Ps} (hB : ∀ pc, Le (B pc) (G cMo_holds "VoyageCompanyModel" 9 (some .boolean) "holds" (rm (d + 1) mc ms) (QM mc ms K) pc)) : Le (qMo_holds_21 d mc ms B K) (G cMo_holds "VoyageCompanyModel" 9 (some .boolean) "holds" (rm (d + 1) mc ms) (QM mc ms K) 21) := by
  unfold qMo_holds_21
  exact (s_ild (by decide +kernel) (s_ald_n (j := 0) (by decide +kernel) rfl (s_getr (idx := 8) (by decide +kernel) fl12_8 (by decide) (s_ild_n (j := 3) (by decide +kernel) rfl (s_iald (by decide +kernel) (s_ic_ge (off := 122) (tgt := 151) (by decide +kernel) (by decide) (zMo_holds_151 hB) (zMo_holds_32 hB)))))))
def qMo_holds_0 (d mc ms : Nat) (B : Nat → Pd) (K : Ps) : Pd := (i_ci 350 (i_ci 320 (i_ild 1 (i_imul (i_iadd (i_ci 20 (i_ild 2 (i_imul (i_iadd (i_ist 3 (i_ci 1 (i_ist 4 (i_ci 0 (i_ist 5 (B 21)))))))))))))))
theorem zMo_holds_0 {d mc ms : Nat} {B : Nat → Pd} {K : Ps} (hB : ∀ pc, Le (B pc) (G cMo_holds "VoyageCompanyModel" 9 (some .boolean) "holds" (rm (d + 1) mc ms) (QM mc ms K) pc)) : Le (qMo_holds_0 d mc ms B K) (G cMo_holds "VoyageCompanyModel" 9 (some .boolean) "holds" (rm (d + 1) mc ms) (QM mc ms K) 0) := by
  unfold qMo_holds_0
  exact (s_sipush (n := 350) (v := 350) (by decide +kernel) (by decide +kernel) (s_sipush (n := 320) (v := 320) (by decide +kernel) (by decide +kernel) (s_ild_n (j := 1) (by decide +kernel) rfl (s_imul (by decide +kernel) (s_iadd (by decide +kernel) (s_bipush (n := 20) (v := 20) (by decide +kernel) (by decide +kernel) (s_ild_n (j := 2) (by decide +kernel) rfl (s_imul (by decide +kernel) (s_iadd (by decide +kernel) (s_ist_n (j := 3) (by decide +kernel) rfl (by decide) (s_iconst (n := 1) (v := 1) (by decide +kernel) (by decide +kernel) (s_ist (by decide +kernel) (by decide) (s_iconst (n := 0) (v := 0) (by decide +kernel) (by decide +kernel) (s_ist (by decide +kernel) (by decide) (hB 21)))))))))))))))
/-- VoyageCompanyModel.holds(II)Z, at its places -/
def gMo_holds (d mc ms : Nat) (K : Ps) : Nat → Pd := G cMo_holds "VoyageCompanyModel" 9 (some .boolean) "holds" (rm (d + 1) mc ms) (QM mc ms K)
theorem eMo_holds {d mc ms : Nat} {K : Ps} {av : List Value} {E : Nat → Prop} {R : Nat → Nat → Value} {I : Nat → Nat → Int32} {J : Nat → Nat → Int64} (hn : (lg_sl av).length ≤ 9) (h : qMo_holds_0 d mc ms (gMo_holds d mc ms K) K (lv_args 0 av) [] E R I J 0 0) : CL yMo_holds cMo_holds 9 (some .boolean) (d + 1) mc ms av E R I J K :=
  CL.of (by decide +kernel) hn (zMo_holds_0 (fun _ => Le.refl) _ _ _ _ _ _ _ _ h)
theorem lMo_holds_21 {d mc ms : Nat} {K : Ps} : Le (qMo_holds_21 d mc ms (gMo_holds d mc ms K) K) (gMo_holds d mc ms K 21) := zMo_holds_21 (fun _ => Le.refl)
def qMo_bale_58 (d mc ms : Nat) (B : Nat → Pd) (K : Ps) : Pd := (i_ald 0 (i_getr 12 1 (i_ci 8 (i_ild 2 (i_imul (i_dup2 (i_lald (i_cl 1 (i_ladd (i_last (i_ild 4 (i_iret mc ms K))))))))))))
theorem zMo_bale_58 {d mc ms : Nat} {B : Nat → Pd} {K : Ps} (hB : ∀ pc, Le (B pc) (G cMo_bale "VoyageCompanyModel" 5 (some .int) "bale" (rm (d + 1) mc ms) (QM mc ms K) pc)) : Le (qMo_bale_58 d mc ms B K) (G cMo_bale "VoyageCompanyModel" 5 (some .int) "bale" (rm (d + 1) mc ms) (QM mc ms K) 58) := by
  unfold qMo_bale_58
  exact (s_ald_n (j := 0) (by decide +kernel) rfl (s_getr (idx := 14) (by decide +kernel) fl12_14 (by decide) (s_bipush (n := 8) (v := 8) (by decide +kernel) (by decide +kernel) (s_ild_n (j := 2) (by decide +kernel) rfl (s_imul (by decide +kernel) (s_dup2 (by decide +kernel) (s_lald (by decide +kernel) (s_lconst (n := 1) (v := 1) (by decide +kernel) (by decide +kernel) (s_ladd (by decide +kernel) (s_last (by decide +kernel) (s_ild (by decide +kernel) (s_iret (by decide +kernel) rfl))))))))))))
def qMo_bale_45 (d mc ms : Nat) (B : Nat → Pd) (K : Ps) : Pd := (i_ald 0 (i_getr 12 0 (i_ci 50 (i_ild 3 (i_iadd (i_dup2 (i_iald (i_ci 1 (i_iadd (i_iast (qMo_bale_58 d mc ms B K)))))))))))
theorem zMo_bale_45 {d mc ms : Nat} {B : Nat → Pd} {K : Ps} (hB : ∀ pc, Le (B pc) (G cMo_bale "VoyageCompanyModel" 5 (some .int) "bale" (rm (d + 1) mc ms) (QM mc ms K) pc)) : Le (qMo_bale_45 d mc ms B K) (G cMo_bale "VoyageCompanyModel" 5 (some .int) "bale" (rm (d + 1) mc ms) (QM mc ms K) 45) := by
  unfold qMo_bale_45
  exact (s_ald_n (j := 0) (by decide +kernel) rfl (s_getr (idx := 8) (by decide +kernel) fl12_8 (by decide) (s_bipush (n := 50) (v := 50) (by decide +kernel) (by decide +kernel) (s_ild_n (j := 3) (by decide +kernel) rfl (s_iadd (by decide +kernel) (s_dup2 (by decide +kernel) (s_iald (by decide +kernel) (s_iconst (n := 1) (v := 1) (by decide +kernel) (by decide +kernel) (s_iadd (by decide +kernel) (s_iast (by decide +kernel) (zMo_bale_58 hB)))))))))))
def qMo_bale_0 (d mc ms : Nat) (B : Nat → Pd) (K : Ps) : Pd := (i_ci 4 (i_ild 1 (i_imul (i_ild 2 (i_iadd (i_ist 3 (i_ald 0 (i_getr 12 0 (i_ci 50 (i_ild 3 (i_iadd (i_iald (i_ist 4 (i_ald 0 (i_getr 12 0 (i_ci 70 (i_ild 3 (i_iadd (i_dup2 (i_iald (i_ci 1 (i_iadd (i_iast (i_ald 0 (i_getr 12 0 (i_ci 70 (i_ild 3 (i_iadd (i_iald (i_ci 10 (i_irem (i_if_ne (qMo_bale_58 d mc ms B K) (qMo_bale_45 d mc ms B K)))))))))))))))))))))))))))))))))
theorem zMo_bale_0 {d mc ms : Nat} {B : Nat → Pd} {K : Ps} (hB : ∀ pc, Le (B pc) (G cMo_bale "VoyageCompanyModel" 5 (some .int) "bale" (rm (d + 1) mc ms) (QM mc ms K) pc)) : Le (qMo_bale_0 d mc ms B K) (G cMo_bale "VoyageCompanyModel" 5 (some .int) "bale" (rm (d + 1) mc ms) (QM mc ms K) 0) := by
  unfold qMo_bale_0
  exact (s_iconst (n := 4) (v := 4) (by decide +kernel) (by decide +kernel) (s_ild_n (j := 1) (by decide +kernel) rfl (s_imul (by decide +kernel) (s_ild_n (j := 2) (by decide +kernel) rfl (s_iadd (by decide +kernel) (s_ist_n (j := 3) (by decide +kernel) rfl (by decide) (s_ald_n (j := 0) (by decide +kernel) rfl (s_getr (idx := 8) (by decide +kernel) fl12_8 (by decide) (s_bipush (n := 50) (v := 50) (by decide +kernel) (by decide +kernel) (s_ild_n (j := 3) (by decide +kernel) rfl (s_iadd (by decide +kernel) (s_iald (by decide +kernel) (s_ist (by decide +kernel) (by decide) (s_ald_n (j := 0) (by decide +kernel) rfl (s_getr (idx := 8) (by decide +kernel) fl12_8 (by decide) (s_bipush (n := 70) (v := 70) (by decide +kernel) (by decide +kernel) (s_ild_n (j := 3) (by decide +kernel) rfl (s_iadd (by decide +kernel) (s_dup2 (by decide +kernel) (s_iald (by decide +kernel) (s_iconst (n := 1) (v := 1) (by decide +kernel) (by decide +kernel) (s_iadd (by decide +kernel) (s_iast (by decide +kernel) (s_ald_n (j := 0) (by decide +kernel) rfl (s_getr (idx := 8) (by decide +kernel) fl12_8 (by decide) (s_bipush (n := 70) (v := 70) (by decide +kernel) (by decide +kernel) (s_ild_n (j := 3) (by decide +kernel) rfl (s_iadd (by decide +kernel) (s_iald (by decide +kernel) (s_bipush (n := 10) (v := 10) (by decide +kernel) (by decide +kernel) (s_irem (by decide +kernel) (s_if_ne (off := 16) (tgt := 58) (by decide +kernel) (by decide) (zMo_bale_58 hB) (zMo_bale_45 hB)))))))))))))))))))))))))))))))))
/-- VoyageCompanyModel.bale(II)I, at its places -/
def gMo_bale (d mc ms : Nat) (K : Ps) : Nat → Pd := G cMo_bale "VoyageCompanyModel" 5 (some .int) "bale" (rm (d + 1) mc ms) (QM mc ms K)
theorem eMo_bale {d mc ms : Nat} {K : Ps} {av : List Value} {E : Nat → Prop} {R : Nat → Nat → Value} {I : Nat → Nat → Int32} {J : Nat → Nat → Int64} (hn : (lg_sl av).length ≤ 5) (h : qMo_bale_0 d mc ms (gMo_bale d mc ms K) K (lv_args 0 av) [] E R I J 0 0) : CL yMo_bale cMo_bale 5 (some .int) (d + 1) mc ms av E R I J K :=
  CL.of (by decide +kernel) hn (zMo_bale_0 (fun _ => Le.refl) _ _ _ _ _ _ _ _ h)
def qMo_buys_95 (d mc ms : Nat) (B : Nat → Pd) (K : Ps) : Pd := (i_vret mc ms K)
theorem zMo_buys_95 {d mc ms : Nat} {B : Nat → Pd} {K : Ps} (hB : ∀ pc, Le (B pc) (G cMo_buys "VoyageCompanyModel" 6 none "buys" (rm (d + 1) mc ms) (QM mc ms K) pc)) : Le (qMo_buys_95 d mc ms B K) (G cMo_buys "VoyageCompanyModel" 6 none "buys" (rm (d + 1) mc ms) (QM mc ms K) 95) := by
  unfold qMo_buys_95
  exact (s_vret (by decide +kernel) rfl)
def qMo_buys_36 (d mc ms : Nat) (B : Nat → Pd) (K : Ps) : Pd := (i_ald 0 (i_ild 1 (i_ild 2 (i_call 0 12 yMo_bale cMo_bale 5 (some .int) mc ms d 3 (i_ist 5 (i_ald 0 (i_getr 12 0 (i_ci 10 (i_ci 4 (i_ild 1 (i_imul (i_iadd (i_dup2 (i_iald (i_ild 5 (i_isub (i_iast (i_ald 0 (i_getr 12 1 (i_ci 1 (i_dup2 (i_lald (i_ild 5 (i_i2l (i_ladd (i_last (i_ald 0 (i_getr 12 0 (i_ci 10 (i_ci 4 (i_ild 1 (i_imul (i_iadd (i_ild 2 (i_iadd (i_dup2 (i_iald (i_ci 1 (i_iadd (i_iast (i_inc 4 1 (B 3))))))))))))))))))))))))))))))))))))))))))
theorem zMo_buys_36 {d mc ms : Nat} {B : Nat → Pd} {K : Ps} (hB : ∀ pc, Le (B pc) (G cMo_buys "VoyageCompanyModel" 6 none "buys" (rm (d + 1) mc ms) (QM mc ms K) pc)) : Le (qMo_buys_36 d mc ms B K) (G cMo_buys "VoyageCompanyModel" 6 none "buys" (rm (d + 1) mc ms) (QM mc ms K) 36) := by
  unfold qMo_buys_36
  exact (s_ald_n (j := 0) (by decide +kernel) rfl (s_ild_n (j := 1) (by decide +kernel) rfl (s_ild_n (j := 2) (by decide +kernel) rfl (s_call (idx := 182) (by decide +kernel) ml12_182 rmk (s_ist (by decide +kernel) (by decide) (s_ald_n (j := 0) (by decide +kernel) rfl (s_getr (idx := 8) (by decide +kernel) fl12_8 (by decide) (s_bipush (n := 10) (v := 10) (by decide +kernel) (by decide +kernel) (s_iconst (n := 4) (v := 4) (by decide +kernel) (by decide +kernel) (s_ild_n (j := 1) (by decide +kernel) rfl (s_imul (by decide +kernel) (s_iadd (by decide +kernel) (s_dup2 (by decide +kernel) (s_iald (by decide +kernel) (s_ild (by decide +kernel) (s_isub (by decide +kernel) (s_iast (by decide +kernel) (s_ald_n (j := 0) (by decide +kernel) rfl (s_getr (idx := 14) (by decide +kernel) fl12_14 (by decide) (s_iconst (n := 1) (v := 1) (by decide +kernel) (by decide +kernel) (s_dup2 (by decide +kernel) (s_lald (by decide +kernel) (s_ild (by decide +kernel) (s_i2l (by decide +kernel) (s_ladd (by decide +kernel) (s_last (by decide +kernel) (s_ald_n (j := 0) (by decide +kernel) rfl (s_getr (idx := 8) (by decide +kernel) fl12_8 (by decide) (s_bipush (n := 10) (v := 10) (by decide +kernel) (by decide +kernel) (s_iconst (n := 4) (v := 4) (by decide +kernel) (by decide +kernel) (s_ild_n (j := 1) (by decide +kernel) rfl (s_imul (by decide +kernel) (s_iadd (by decide +kernel) (s_ild_n (j := 2) (by decide +kernel) rfl (s_iadd (by decide +kernel) (s_dup2 (by decide +kernel) (s_iald (by decide +kernel) (s_iconst (n := 1) (v := 1) (by decide +kernel) (by decide +kernel) (s_iadd (by decide +kernel) (s_iast (by decide +kernel) (s_inc (z := 1) (by decide +kernel) (by decide +kernel) (by decide) (s_goto (off := (-89)) (tgt := 3) (by decide +kernel) (by decide) (hB 3)))))))))))))))))))))))))))))))))))))))))))
def qMo_buys_9 (d mc ms : Nat) (B : Nat → Pd) (K : Ps) : Pd := (i_ald 0 (i_getr 12 0 (i_ci 10 (i_ci 4 (i_ild 1 (i_imul (i_iadd (i_iald (i_ald 0 (i_getr 12 0 (i_ci 50 (i_ci 4 (i_ild 1 (i_imul (i_iadd (i_ild 2 (i_iadd (i_iald (i_ic_lt (qMo_buys_95 d mc ms B K) (qMo_buys_36 d mc ms B K))))))))))))))))))))
theorem zMo_buys_9 {d mc ms : Nat} {B : Nat → Pd} {K : Ps} (hB : ∀ pc, Le (B pc) (G cMo_buys "VoyageCompanyModel" 6 none "buys" (rm (d + 1) mc ms) (QM mc ms K) pc)) : Le (qMo_buys_9 d mc ms B K) (G cMo_buys "VoyageCompanyModel" 6 none "buys" (rm (d + 1) mc ms) (QM mc ms K) 9) := by
  unfold qMo_buys_9
  exact (s_ald_n (j := 0) (by decide +kernel) rfl (s_getr (idx := 8) (by decide +kernel) fl12_8 (by decide) (s_bipush (n := 10) (v := 10) (by decide +kernel) (by decide +kernel) (s_iconst (n := 4) (v := 4) (by decide +kernel) (by decide +kernel) (s_ild_n (j := 1) (by decide +kernel) rfl (s_imul (by decide +kernel) (s_iadd (by decide +kernel) (s_iald (by decide +kernel) (s_ald_n (j := 0) (by decide +kernel) rfl (s_getr (idx := 8) (by decide +kernel) fl12_8 (by decide) (s_bipush (n := 50) (v := 50) (by decide +kernel) (by decide +kernel) (s_iconst (n := 4) (v := 4) (by decide +kernel) (by decide +kernel) (s_ild_n (j := 1) (by decide +kernel) rfl (s_imul (by decide +kernel) (s_iadd (by decide +kernel) (s_ild_n (j := 2) (by decide +kernel) rfl (s_iadd (by decide +kernel) (s_iald (by decide +kernel) (s_ic_lt (off := 62) (tgt := 95) (by decide +kernel) (by decide) (zMo_buys_95 hB) (zMo_buys_36 hB))))))))))))))))))))
def qMo_buys_3 (d mc ms : Nat) (B : Nat → Pd) (K : Ps) : Pd := (i_ild 4 (i_ild 3 (i_ic_ge (qMo_buys_95 d mc ms B K) (qMo_buys_9 d mc ms B K))))
theorem zMo_buys_3 {d mc ms : Nat} {B : Nat → Pd} {K : Ps} (hB : ∀ pc, Le (B pc) (G cMo_buys "VoyageCompanyModel" 6 none "buys" (rm (d + 1) mc ms) (QM mc ms K) pc)) : Le (qMo_buys_3 d mc ms B K) (G cMo_buys "VoyageCompanyModel" 6 none "buys" (rm (d + 1) mc ms) (QM mc ms K) 3) := by
  unfold qMo_buys_3
  exact (s_ild (by decide +kernel) (s_ild_n (j := 3) (by decide +kernel) rfl (s_ic_ge (off := 89) (tgt := 95) (by decide +kernel) (by decide) (zMo_buys_95 hB) (zMo_buys_9 hB))))
def qMo_buys_0 (d mc ms : Nat) (B : Nat → Pd) (K : Ps) : Pd := (i_ci 0 (i_ist 4 (B 3)))
theorem zMo_buys_0 {d mc ms : Nat} {B : Nat → Pd} {K : Ps} (hB : ∀ pc, Le (B pc) (G cMo_buys "VoyageCompanyModel" 6 none "buys" (rm (d + 1) mc ms) (QM mc ms K) pc)) : Le (qMo_buys_0 d mc ms B K) (G cMo_buys "VoyageCompanyModel" 6 none "buys" (rm (d + 1) mc ms) (QM mc ms K) 0) := by
  unfold qMo_buys_0
  exact (s_iconst (n := 0) (v := 0) (by decide +kernel) (by decide +kernel) (s_ist (by decide +kernel) (by decide) (hB 3)))
/-- VoyageCompanyModel.buys(III)V, at its places -/
def gMo_buys (d mc ms : Nat) (K : Ps) : Nat → Pd := G cMo_buys "VoyageCompanyModel" 6 none "buys" (rm (d + 1) mc ms) (QM mc ms K)
theorem eMo_buys {d mc ms : Nat} {K : Ps} {av : List Value} {E : Nat → Prop} {R : Nat → Nat → Value} {I : Nat → Nat → Int32} {J : Nat → Nat → Int64} (hn : (lg_sl av).length ≤ 6) (h : qMo_buys_0 d mc ms (gMo_buys d mc ms K) K (lv_args 0 av) [] E R I J 0 0) : CL yMo_buys cMo_buys 6 none (d + 1) mc ms av E R I J K :=
  CL.of (by decide +kernel) hn (zMo_buys_0 (fun _ => Le.refl) _ _ _ _ _ _ _ _ h)
theorem lMo_buys_3 {d mc ms : Nat} {K : Ps} : Le (qMo_buys_3 d mc ms (gMo_buys d mc ms K) K) (gMo_buys d mc ms K 3) := zMo_buys_3 (fun _ => Le.refl)
def qMo_sells_166 (d mc ms : Nat) (B : Nat → Pd) (K : Ps) : Pd := (i_vret mc ms K)
theorem zMo_sells_166 {d mc ms : Nat} {B : Nat → Pd} {K : Ps} (hB : ∀ pc, Le (B pc) (G cMo_sells "VoyageCompanyModel" 6 none "sells" (rm (d + 1) mc ms) (QM mc ms K) pc)) : Le (qMo_sells_166 d mc ms B K) (G cMo_sells "VoyageCompanyModel" 6 none "sells" (rm (d + 1) mc ms) (QM mc ms K) 166) := by
  unfold qMo_sells_166
  exact (s_vret (by decide +kernel) rfl)
def qMo_sells_160 (d mc ms : Nat) (B : Nat → Pd) (K : Ps) : Pd := (i_inc 5 1 (B 10))
theorem zMo_sells_160 {d mc ms : Nat} {B : Nat → Pd} {K : Ps} (hB : ∀ pc, Le (B pc) (G cMo_sells "VoyageCompanyModel" 6 none "sells" (rm (d + 1) mc ms) (QM mc ms K) pc)) : Le (qMo_sells_160 d mc ms B K) (G cMo_sells "VoyageCompanyModel" 6 none "sells" (rm (d + 1) mc ms) (QM mc ms K) 160) := by
  unfold qMo_sells_160
  exact (s_inc (z := 1) (by decide +kernel) (by decide +kernel) (by decide) (s_goto (off := (-153)) (tgt := 10) (by decide +kernel) (by decide) (hB 10)))
def qMo_sells_146 (d mc ms : Nat) (B : Nat → Pd) (K : Ps) : Pd := (i_ald 0 (i_getr 12 0 (i_ci 50 (i_ild 4 (i_iadd (i_dup2 (i_iald (i_ci 1 (i_isub (i_iast (qMo_sells_160 d mc ms B K)))))))))))
theorem zMo_sells_146 {d mc ms : Nat} {B : Nat → Pd} {K : Ps} (hB : ∀ pc, Le (B pc) (G cMo_sells "VoyageCompanyModel" 6 none "sells" (rm (d + 1) mc ms) (QM mc ms K) pc)) : Le (qMo_sells_146 d mc ms B K) (G cMo_sells "VoyageCompanyModel" 6 none "sells" (rm (d + 1) mc ms) (QM mc ms K) 146) := by
  unfold qMo_sells_146
  exact (s_ald_n (j := 0) (by decide +kernel) rfl (s_getr (idx := 8) (by decide +kernel) fl12_8 (by decide) (s_bipush (n := 50) (v := 50) (by decide +kernel) (by decide +kernel) (s_ild (by decide +kernel) (s_iadd (by decide +kernel) (s_dup2 (by decide +kernel) (s_iald (by decide +kernel) (s_iconst (n := 1) (v := 1) (by decide +kernel) (by decide +kernel) (s_isub (by decide +kernel) (s_iast (by decide +kernel) (zMo_sells_160 hB)))))))))))
def qMo_sells_132 (d mc ms : Nat) (B : Nat → Pd) (K : Ps) : Pd := (i_ald 0 (i_getr 12 0 (i_ci 50 (i_ild 4 (i_iadd (i_iald (i_ci 1 (i_ic_le (qMo_sells_160 d mc ms B K) (qMo_sells_146 d mc ms B K)))))))))
theorem zMo_sells_132 {d mc ms : Nat} {B : Nat → Pd} {K : Ps} (hB : ∀ pc, Le (B pc) (G cMo_sells "VoyageCompanyModel" 6 none "sells" (rm (d + 1) mc ms) (QM mc ms K) pc)) : Le (qMo_sells_132 d mc ms B K) (G cMo_sells "VoyageCompanyModel" 6 none "sells" (rm (d + 1) mc ms) (QM mc ms K) 132) := by
  unfold qMo_sells_132
  exact (s_ald_n (j := 0) (by decide +kernel) rfl (s_getr (idx := 8) (by decide +kernel) fl12_8 (by decide) (s_bipush (n := 50) (v := 50) (by decide +kernel) (by decide +kernel) (s_ild (by decide +kernel) (s_iadd (by decide +kernel) (s_iald (by decide +kernel) (s_iconst (n := 1) (v := 1) (by decide +kernel) (by decide +kernel) (s_ic_le (off := 17) (tgt := 160) (by decide +kernel) (by decide) (zMo_sells_160 hB) (zMo_sells_146 hB)))))))))
def qMo_sells_29 (d mc ms : Nat) (B : Nat → Pd) (K : Ps) : Pd := (i_ald 0 (i_getr 12 0 (i_ci 10 (i_ild 4 (i_iadd (i_dup2 (i_iald (i_ci 1 (i_isub (i_iast (i_ald 0 (i_getr 12 1 (i_ci 8 (i_ild 2 (i_imul (i_ci 1 (i_iadd (i_dup2 (i_lald (i_cl 1 (i_ladd (i_last (i_ald 0 (i_getr 12 0 (i_ci 10 (i_ci 4 (i_ild 1 (i_imul (i_iadd (i_dup2 (i_iald (i_ald 0 (i_getr 12 0 (i_ci 50 (i_ild 4 (i_iadd (i_iald (i_iadd (i_iast (i_ald 0 (i_getr 12 1 (i_ci 0 (i_dup2 (i_lald (i_ald 0 (i_getr 12 0 (i_ci 50 (i_ild 4 (i_iadd (i_iald (i_i2l (i_ladd (i_last (i_ald 0 (i_getr 12 0 (i_ci 90 (i_ild 4 (i_iadd (i_dup2 (i_iald (i_ci 1 (i_iadd (i_iast (i_ald 0 (i_getr 12 0 (i_ci 90 (i_ild 4 (i_iadd (i_iald (i_ci 10 (i_irem (i_if_ne (qMo_sells_160 d mc ms B K) (qMo_sells_132 d mc ms B K)))))))))))))))))))))))))))))))))))))))))))))))))))))))))))))))))))))))))
theorem zMo_sells_29 {d mc ms : Nat} {B : Nat → Pd} {K : Ps} (hB : ∀ pc, Le (B pc) (G cMo_sells "VoyageCompanyModel" 6 none "sells" (rm (d + 1) mc ms) (QM mc ms K) pc)) : Le (qMo_sells_29 d mc ms B K) (G cMo_sells "VoyageCompanyModel" 6 none "sells" (rm (d + 1) mc ms) (QM mc ms K) 29) := by
  unfold qMo_sells_29
  exact (s_ald_n (j := 0) (by decide +kernel) rfl (s_getr (idx := 8) (by decide +kernel) fl12_8 (by decide) (s_bipush (n := 10) (v := 10) (by decide +kernel) (by decide +kernel) (s_ild (by decide +kernel) (s_iadd (by decide +kernel) (s_dup2 (by decide +kernel) (s_iald (by decide +kernel) (s_iconst (n := 1) (v := 1) (by decide +kernel) (by decide +kernel) (s_isub (by decide +kernel) (s_iast (by decide +kernel) (s_ald_n (j := 0) (by decide +kernel) rfl (s_getr (idx := 14) (by decide +kernel) fl12_14 (by decide) (s_bipush (n := 8) (v := 8) (by decide +kernel) (by decide +kernel) (s_ild_n (j := 2) (by decide +kernel) rfl (s_imul (by decide +kernel) (s_iconst (n := 1) (v := 1) (by decide +kernel) (by decide +kernel) (s_iadd (by decide +kernel) (s_dup2 (by decide +kernel) (s_lald (by decide +kernel) (s_lconst (n := 1) (v := 1) (by decide +kernel) (by decide +kernel) (s_ladd (by decide +kernel) (s_last (by decide +kernel) (s_ald_n (j := 0) (by decide +kernel) rfl (s_getr (idx := 8) (by decide +kernel) fl12_8 (by decide) (s_bipush (n := 10) (v := 10) (by decide +kernel) (by decide +kernel) (s_iconst (n := 4) (v := 4) (by decide +kernel) (by decide +kernel) (s_ild_n (j := 1) (by decide +kernel) rfl (s_imul (by decide +kernel) (s_iadd (by decide +kernel) (s_dup2 (by decide +kernel) (s_iald (by decide +kernel) (s_ald_n (j := 0) (by decide +kernel) rfl (s_getr (idx := 8) (by decide +kernel) fl12_8 (by decide) (s_bipush (n := 50) (v := 50) (by decide +kernel) (by decide +kernel) (s_ild (by decide +kernel) (s_iadd (by decide +kernel) (s_iald (by decide +kernel) (s_iadd (by decide +kernel) (s_iast (by decide +kernel) (s_ald_n (j := 0) (by decide +kernel) rfl (s_getr (idx := 14) (by decide +kernel) fl12_14 (by decide) (s_iconst (n := 0) (v := 0) (by decide +kernel) (by decide +kernel) (s_dup2 (by decide +kernel) (s_lald (by decide +kernel) (s_ald_n (j := 0) (by decide +kernel) rfl (s_getr (idx := 8) (by decide +kernel) fl12_8 (by decide) (s_bipush (n := 50) (v := 50) (by decide +kernel) (by decide +kernel) (s_ild (by decide +kernel) (s_iadd (by decide +kernel) (s_iald (by decide +kernel) (s_i2l (by decide +kernel) (s_ladd (by decide +kernel) (s_last (by decide +kernel) (s_ald_n (j := 0) (by decide +kernel) rfl (s_getr (idx := 8) (by decide +kernel) fl12_8 (by decide) (s_bipush (n := 90) (v := 90) (by decide +kernel) (by decide +kernel) (s_ild (by decide +kernel) (s_iadd (by decide +kernel) (s_dup2 (by decide +kernel) (s_iald (by decide +kernel) (s_iconst (n := 1) (v := 1) (by decide +kernel) (by decide +kernel) (s_iadd (by decide +kernel) (s_iast (by decide +kernel) (s_ald_n (j := 0) (by decide +kernel) rfl (s_getr (idx := 8) (by decide +kernel) fl12_8 (by decide) (s_bipush (n := 90) (v := 90) (by decide +kernel) (by decide +kernel) (s_ild (by decide +kernel) (s_iadd (by decide +kernel) (s_iald (by decide +kernel) (s_bipush (n := 10) (v := 10) (by decide +kernel) (by decide +kernel) (s_irem (by decide +kernel) (s_if_ne (off := 31) (tgt := 160) (by decide +kernel) (by decide) (zMo_sells_160 hB) (zMo_sells_132 hB)))))))))))))))))))))))))))))))))))))))))))))))))))))))))))))))))))))))))
def qMo_sells_16 (d mc ms : Nat) (B : Nat → Pd) (K : Ps) : Pd := (i_ald 0 (i_getr 12 0 (i_ci 10 (i_ild 4 (i_iadd (i_iald (i_if_le (qMo_sells_166 d mc ms B K) (qMo_sells_29 d mc ms B K))))))))
theorem zMo_sells_16 {d mc ms : Nat} {B : Nat → Pd} {K : Ps} (hB : ∀ pc, Le (B pc) (G cMo_sells "VoyageCompanyModel" 6 none "sells" (rm (d + 1) mc ms) (QM mc ms K) pc)) : Le (qMo_sells_16 d mc ms B K) (G cMo_sells "VoyageCompanyModel" 6 none "sells" (rm (d + 1) mc ms) (QM mc ms K) 16) := by
  unfold qMo_sells_16
  exact (s_ald_n (j := 0) (by decide +kernel) rfl (s_getr (idx := 8) (by decide +kernel) fl12_8 (by decide) (s_bipush (n := 10) (v := 10) (by decide +kernel) (by decide +kernel) (s_ild (by decide +kernel) (s_iadd (by decide +kernel) (s_iald (by decide +kernel) (s_if_le (off := 140) (tgt := 166) (by decide +kernel) (by decide) (zMo_sells_166 hB) (zMo_sells_29 hB))))))))
def qMo_sells_10 (d mc ms : Nat) (B : Nat → Pd) (K : Ps) : Pd := (i_ild 5 (i_ild 3 (i_ic_ge (qMo_sells_166 d mc ms B K) (qMo_sells_16 d mc ms B K))))
theorem zMo_sells_10 {d mc ms : Nat} {B : Nat → Pd} {K : Ps} (hB : ∀ pc, Le (B pc) (G cMo_sells "VoyageCompanyModel" 6 none "sells" (rm (d + 1) mc ms) (QM mc ms K) pc)) : Le (qMo_sells_10 d mc ms B K) (G cMo_sells "VoyageCompanyModel" 6 none "sells" (rm (d + 1) mc ms) (QM mc ms K) 10) := by
  unfold qMo_sells_10
  exact (s_ild (by decide +kernel) (s_ild_n (j := 3) (by decide +kernel) rfl (s_ic_ge (off := 153) (tgt := 166) (by decide +kernel) (by decide) (zMo_sells_166 hB) (zMo_sells_16 hB))))
def qMo_sells_0 (d mc ms : Nat) (B : Nat → Pd) (K : Ps) : Pd := (i_ci 4 (i_ild 1 (i_imul (i_ild 2 (i_iadd (i_ist 4 (i_ci 0 (i_ist 5 (B 10)))))))))
theorem zMo_sells_0 {d mc ms : Nat} {B : Nat → Pd} {K : Ps} (hB : ∀ pc, Le (B pc) (G cMo_sells "VoyageCompanyModel" 6 none "sells" (rm (d + 1) mc ms) (QM mc ms K) pc)) : Le (qMo_sells_0 d mc ms B K) (G cMo_sells "VoyageCompanyModel" 6 none "sells" (rm (d + 1) mc ms) (QM mc ms K) 0) := by
  unfold qMo_sells_0
  exact (s_iconst (n := 4) (v := 4) (by decide +kernel) (by decide +kernel) (s_ild_n (j := 1) (by decide +kernel) rfl (s_imul (by decide +kernel) (s_ild_n (j := 2) (by decide +kernel) rfl (s_iadd (by decide +kernel) (s_ist (by decide +kernel) (by decide) (s_iconst (n := 0) (v := 0) (by decide +kernel) (by decide +kernel) (s_ist (by decide +kernel) (by decide) (hB 10)))))))))
/-- VoyageCompanyModel.sells(III)V, at its places -/
def gMo_sells (d mc ms : Nat) (K : Ps) : Nat → Pd := G cMo_sells "VoyageCompanyModel" 6 none "sells" (rm (d + 1) mc ms) (QM mc ms K)
theorem eMo_sells {d mc ms : Nat} {K : Ps} {av : List Value} {E : Nat → Prop} {R : Nat → Nat → Value} {I : Nat → Nat → Int32} {J : Nat → Nat → Int64} (hn : (lg_sl av).length ≤ 6) (h : qMo_sells_0 d mc ms (gMo_sells d mc ms K) K (lv_args 0 av) [] E R I J 0 0) : CL yMo_sells cMo_sells 6 none (d + 1) mc ms av E R I J K :=
  CL.of (by decide +kernel) hn (zMo_sells_0 (fun _ => Le.refl) _ _ _ _ _ _ _ _ h)
theorem lMo_sells_10 {d mc ms : Nat} {K : Ps} : Le (qMo_sells_10 d mc ms (gMo_sells d mc ms K) K) (gMo_sells d mc ms K 10) := zMo_sells_10 (fun _ => Le.refl)
def qMo_least_10 (d mc ms : Nat) (B : Nat → Pd) (K : Ps) : Pd := (i_iret mc ms K)
theorem zMo_least_10 {d mc ms : Nat} {B : Nat → Pd} {K : Ps} (hB : ∀ pc, Le (B pc) (G cMo_least "VoyageCompanyModel" 2 (some .int) "least" (rm (d + 1) mc ms) (QM mc ms K) pc)) : Le (qMo_least_10 d mc ms B K) (G cMo_least "VoyageCompanyModel" 2 (some .int) "least" (rm (d + 1) mc ms) (QM mc ms K) 10) := by
  unfold qMo_least_10
  exact (s_iret (by decide +kernel) rfl)
def qMo_least_9 (d mc ms : Nat) (B : Nat → Pd) (K : Ps) : Pd := (i_ild 1 (qMo_least_10 d mc ms B K))
theorem zMo_least_9 {d mc ms : Nat} {B : Nat → Pd} {K : Ps} (hB : ∀ pc, Le (B pc) (G cMo_least "VoyageCompanyModel" 2 (some .int) "least" (rm (d + 1) mc ms) (QM mc ms K) pc)) : Le (qMo_least_9 d mc ms B K) (G cMo_least "VoyageCompanyModel" 2 (some .int) "least" (rm (d + 1) mc ms) (QM mc ms K) 9) := by
  unfold qMo_least_9
  exact (s_ild_n (j := 1) (by decide +kernel) rfl (zMo_least_10 hB))
def qMo_least_5 (d mc ms : Nat) (B : Nat → Pd) (K : Ps) : Pd := (i_ild 0 (qMo_least_10 d mc ms B K))
theorem zMo_least_5 {d mc ms : Nat} {B : Nat → Pd} {K : Ps} (hB : ∀ pc, Le (B pc) (G cMo_least "VoyageCompanyModel" 2 (some .int) "least" (rm (d + 1) mc ms) (QM mc ms K) pc)) : Le (qMo_least_5 d mc ms B K) (G cMo_least "VoyageCompanyModel" 2 (some .int) "least" (rm (d + 1) mc ms) (QM mc ms K) 5) := by
  unfold qMo_least_5
  exact (s_ild_n (j := 0) (by decide +kernel) rfl (s_goto (off := 4) (tgt := 10) (by decide +kernel) (by decide) (zMo_least_10 hB)))
def qMo_least_0 (d mc ms : Nat) (B : Nat → Pd) (K : Ps) : Pd := (i_ild 0 (i_ild 1 (i_ic_ge (qMo_least_9 d mc ms B K) (qMo_least_5 d mc ms B K))))
theorem zMo_least_0 {d mc ms : Nat} {B : Nat → Pd} {K : Ps} (hB : ∀ pc, Le (B pc) (G cMo_least "VoyageCompanyModel" 2 (some .int) "least" (rm (d + 1) mc ms) (QM mc ms K) pc)) : Le (qMo_least_0 d mc ms B K) (G cMo_least "VoyageCompanyModel" 2 (some .int) "least" (rm (d + 1) mc ms) (QM mc ms K) 0) := by
  unfold qMo_least_0
  exact (s_ild_n (j := 0) (by decide +kernel) rfl (s_ild_n (j := 1) (by decide +kernel) rfl (s_ic_ge (off := 7) (tgt := 9) (by decide +kernel) (by decide) (zMo_least_9 hB) (zMo_least_5 hB))))
/-- VoyageCompanyModel.least(II)I, at its places -/
def gMo_least (d mc ms : Nat) (K : Ps) : Nat → Pd := G cMo_least "VoyageCompanyModel" 2 (some .int) "least" (rm (d + 1) mc ms) (QM mc ms K)
theorem eMo_least {d mc ms : Nat} {K : Ps} {av : List Value} {E : Nat → Prop} {R : Nat → Nat → Value} {I : Nat → Nat → Int32} {J : Nat → Nat → Int64} (hn : (lg_sl av).length ≤ 2) (h : qMo_least_0 d mc ms (gMo_least d mc ms K) K (lv_args 0 av) [] E R I J 0 0) : CL yMo_least cMo_least 2 (some .int) (d + 1) mc ms av E R I J K :=
  CL.of (by decide +kernel) hn (zMo_least_0 (fun _ => Le.refl) _ _ _ _ _ _ _ _ h)
def qMo_loads_49 (d mc ms : Nat) (B : Nat → Pd) (K : Ps) : Pd := (i_ald 0 (i_getr 12 0 (i_ci 10 (i_ci 4 (i_ild 1 (i_imul (i_iadd (i_ild 2 (i_iadd (i_dup2 (i_iald (i_ild 5 (i_isub (i_iast (i_ald 0 (i_ild 4 (i_ci 10 (i_ild 2 (i_iadd (i_ild 5 (i_call 0 12 yMo_adds cMo_adds 4 none mc ms d 4 (i_vret mc ms K))))))))))))))))))))))
theorem zMo_loads_49 {d mc ms : Nat} {B : Nat → Pd} {K : Ps} (hB : ∀ pc, Le (B pc) (G cMo_loads "VoyageCompanyModel" 6 none "loads" (rm (d + 1) mc ms) (QM mc ms K) pc)) : Le (qMo_loads_49 d mc ms B K) (G cMo_loads "VoyageCompanyModel" 6 none "loads" (rm (d + 1) mc ms) (QM mc ms K) 49) := by
  unfold qMo_loads_49
  exact (s_ald_n (j := 0) (by decide +kernel) rfl (s_getr (idx := 8) (by decide +kernel) fl12_8 (by decide) (s_bipush (n := 10) (v := 10) (by decide +kernel) (by decide +kernel) (s_iconst (n := 4) (v := 4) (by decide +kernel) (by decide +kernel) (s_ild_n (j := 1) (by decide +kernel) rfl (s_imul (by decide +kernel) (s_iadd (by decide +kernel) (s_ild_n (j := 2) (by decide +kernel) rfl (s_iadd (by decide +kernel) (s_dup2 (by decide +kernel) (s_iald (by decide +kernel) (s_ild (by decide +kernel) (s_isub (by decide +kernel) (s_iast (by decide +kernel) (s_ald_n (j := 0) (by decide +kernel) rfl (s_ild (by decide +kernel) (s_bipush (n := 10) (v := 10) (by decide +kernel) (by decide +kernel) (s_ild_n (j := 2) (by decide +kernel) rfl (s_iadd (by decide +kernel) (s_ild (by decide +kernel) (s_call (idx := 160) (by decide +kernel) ml12_160 rmk (s_vret (by decide +kernel) rfl))))))))))))))))))))))
def qMo_loads_36 (d mc ms : Nat) (B : Nat → Pd) (K : Ps) : Pd := (i_ild 5 (i_ald 0 (i_ild 4 (i_call 0 12 yMo_roomOf cMo_roomOf 2 (some .int) mc ms d 2 (i_call 2 12 yMo_least cMo_least 2 (some .int) mc ms d 2 (i_ist 5 (qMo_loads_49 d mc ms B K)))))))
theorem zMo_loads_36 {d mc ms : Nat} {B : Nat → Pd} {K : Ps} (hB : ∀ pc, Le (B pc) (G cMo_loads "VoyageCompanyModel" 6 none "loads" (rm (d + 1) mc ms) (QM mc ms K) pc)) : Le (qMo_loads_36 d mc ms B K) (G cMo_loads "VoyageCompanyModel" 6 none "loads" (rm (d + 1) mc ms) (QM mc ms K) 36) := by
  unfold qMo_loads_36
  exact (s_ild (by decide +kernel) (s_ald_n (j := 0) (by decide +kernel) rfl (s_ild (by decide +kernel) (s_call (idx := 157) (by decide +kernel) ml12_157 rmk (s_call (idx := 185) (by decide +kernel) ml12_185 rmk (s_ist (by decide +kernel) (by decide) (zMo_loads_49 hB)))))))
def qMo_loads_13 (d mc ms : Nat) (B : Nat → Pd) (K : Ps) : Pd := (i_ild 3 (i_ald 0 (i_getr 12 0 (i_ci 10 (i_ci 4 (i_ild 1 (i_imul (i_iadd (i_ild 2 (i_iadd (i_iald (i_call 2 12 yMo_least cMo_least 2 (some .int) mc ms d 2 (i_ist 5 (i_ild 2 (i_if_eq (qMo_loads_49 d mc ms B K) (qMo_loads_36 d mc ms B K))))))))))))))))
theorem zMo_loads_13 {d mc ms : Nat} {B : Nat → Pd} {K : Ps} (hB : ∀ pc, Le (B pc) (G cMo_loads "VoyageCompanyModel" 6 none "loads" (rm (d + 1) mc ms) (QM mc ms K) pc)) : Le (qMo_loads_13 d mc ms B K) (G cMo_loads "VoyageCompanyModel" 6 none "loads" (rm (d + 1) mc ms) (QM mc ms K) 13) := by
  unfold qMo_loads_13
  exact (s_ild_n (j := 3) (by decide +kernel) rfl (s_ald_n (j := 0) (by decide +kernel) rfl (s_getr (idx := 8) (by decide +kernel) fl12_8 (by decide) (s_bipush (n := 10) (v := 10) (by decide +kernel) (by decide +kernel) (s_iconst (n := 4) (v := 4) (by decide +kernel) (by decide +kernel) (s_ild_n (j := 1) (by decide +kernel) rfl (s_imul (by decide +kernel) (s_iadd (by decide +kernel) (s_ild_n (j := 2) (by decide +kernel) rfl (s_iadd (by decide +kernel) (s_iald (by decide +kernel) (s_call (idx := 185) (by decide +kernel) ml12_185 rmk (s_ist (by decide +kernel) (by decide) (s_ild_n (j := 2) (by decide +kernel) rfl (s_if_eq (off := 16) (tgt := 49) (by decide +kernel) (by decide) (zMo_loads_49 hB) (zMo_loads_36 hB))))))))))))))))
def qMo_loads_12 (d mc ms : Nat) (B : Nat → Pd) (K : Ps) : Pd := (i_vret mc ms K)
theorem zMo_loads_12 {d mc ms : Nat} {B : Nat → Pd} {K : Ps} (hB : ∀ pc, Le (B pc) (G cMo_loads "VoyageCompanyModel" 6 none "loads" (rm (d + 1) mc ms) (QM mc ms K) pc)) : Le (qMo_loads_12 d mc ms B K) (G cMo_loads "VoyageCompanyModel" 6 none "loads" (rm (d + 1) mc ms) (QM mc ms K) 12) := by
  unfold qMo_loads_12
  exact (s_vret (by decide +kernel) rfl)
def qMo_loads_0 (d mc ms : Nat) (B : Nat → Pd) (K : Ps) : Pd := (i_ald 0 (i_ild 1 (i_call 0 12 yMo_theShip cMo_theShip 3 (some .int) mc ms d 2 (i_ist 4 (i_ild 4 (i_if_ge (qMo_loads_13 d mc ms B K) (qMo_loads_12 d mc ms B K)))))))
theorem zMo_loads_0 {d mc ms : Nat} {B : Nat → Pd} {K : Ps} (hB : ∀ pc, Le (B pc) (G cMo_loads "VoyageCompanyModel" 6 none "loads" (rm (d + 1) mc ms) (QM mc ms K) pc)) : Le (qMo_loads_0 d mc ms B K) (G cMo_loads "VoyageCompanyModel" 6 none "loads" (rm (d + 1) mc ms) (QM mc ms K) 0) := by
  unfold qMo_loads_0
  exact (s_ald_n (j := 0) (by decide +kernel) rfl (s_ild_n (j := 1) (by decide +kernel) rfl (s_call (idx := 173) (by decide +kernel) ml12_173 rmk (s_ist (by decide +kernel) (by decide) (s_ild (by decide +kernel) (s_if_ge (off := 4) (tgt := 13) (by decide +kernel) (by decide) (zMo_loads_13 hB) (zMo_loads_12 hB)))))))
/-- VoyageCompanyModel.loads(III)V, at its places -/
def gMo_loads (d mc ms : Nat) (K : Ps) : Nat → Pd := G cMo_loads "VoyageCompanyModel" 6 none "loads" (rm (d + 1) mc ms) (QM mc ms K)
theorem eMo_loads {d mc ms : Nat} {K : Ps} {av : List Value} {E : Nat → Prop} {R : Nat → Nat → Value} {I : Nat → Nat → Int32} {J : Nat → Nat → Int64} (hn : (lg_sl av).length ≤ 6) (h : qMo_loads_0 d mc ms (gMo_loads d mc ms K) K (lv_args 0 av) [] E R I J 0 0) : CL yMo_loads cMo_loads 6 none (d + 1) mc ms av E R I J K :=
  CL.of (by decide +kernel) hn (zMo_loads_0 (fun _ => Le.refl) _ _ _ _ _ _ _ _ h)
def qMo_goes_68 (d mc ms : Nat) (B : Nat → Pd) (K : Ps) : Pd := (i_ald 0 (i_ild 3 (i_ild 2 (i_call 0 12 yMo_sails cMo_sails 6 (some .int) mc ms d 3 (i_ist 4 (i_vret mc ms K))))))
theorem zMo_goes_68 {d mc ms : Nat} {B : Nat → Pd} {K : Ps} (hB : ∀ pc, Le (B pc) (G cMo_goes "VoyageCompanyModel" 5 none "goes" (rm (d + 1) mc ms) (QM mc ms K) pc)) : Le (qMo_goes_68 d mc ms B K) (G cMo_goes "VoyageCompanyModel" 5 none "goes" (rm (d + 1) mc ms) (QM mc ms K) 68) := by
  unfold qMo_goes_68
  exact (s_ald_n (j := 0) (by decide +kernel) rfl (s_ild_n (j := 3) (by decide +kernel) rfl (s_ild_n (j := 2) (by decide +kernel) rfl (s_call (idx := 170) (by decide +kernel) ml12_170 rmk (s_ist (by decide +kernel) (by decide) (s_vret (by decide +kernel) rfl))))))
def qMo_goes_49 (d mc ms : Nat) (B : Nat → Pd) (K : Ps) : Pd := (i_ald 0 (i_ild 1 (i_ci 1 (i_call 0 12 yMo_bale cMo_bale 5 (some .int) mc ms d 3 (i_ist 4 (i_ald 0 (i_ild 3 (i_ci 8 (i_ci 1 (i_call 0 12 yMo_adds cMo_adds 4 none mc ms d 4 (B 25)))))))))))
theorem zMo_goes_49 {d mc ms : Nat} {B : Nat → Pd} {K : Ps} (hB : ∀ pc, Le (B pc) (G cMo_goes "VoyageCompanyModel" 5 none "goes" (rm (d + 1) mc ms) (QM mc ms K) pc)) : Le (qMo_goes_49 d mc ms B K) (G cMo_goes "VoyageCompanyModel" 5 none "goes" (rm (d + 1) mc ms) (QM mc ms K) 49) := by
  unfold qMo_goes_49
  exact (s_ald_n (j := 0) (by decide +kernel) rfl (s_ild_n (j := 1) (by decide +kernel) rfl (s_iconst (n := 1) (v := 1) (by decide +kernel) (by decide +kernel) (s_call (idx := 182) (by decide +kernel) ml12_182 rmk (s_ist (by decide +kernel) (by decide) (s_ald_n (j := 0) (by decide +kernel) rfl (s_ild_n (j := 3) (by decide +kernel) rfl (s_bipush (n := 8) (v := 8) (by decide +kernel) (by decide +kernel) (s_iconst (n := 1) (v := 1) (by decide +kernel) (by decide +kernel) (s_call (idx := 160) (by decide +kernel) ml12_160 rmk (s_goto (off := (-40)) (tgt := 25) (by decide +kernel) (by decide) (hB 25))))))))))))
def qMo_goes_41 (d mc ms : Nat) (B : Nat → Pd) (K : Ps) : Pd := (i_ald 0 (i_ild 3 (i_call 0 12 yMo_roomOf cMo_roomOf 2 (some .int) mc ms d 2 (i_if_le (qMo_goes_68 d mc ms B K) (qMo_goes_49 d mc ms B K)))))
theorem zMo_goes_41 {d mc ms : Nat} {B : Nat → Pd} {K : Ps} (hB : ∀ pc, Le (B pc) (G cMo_goes "VoyageCompanyModel" 5 none "goes" (rm (d + 1) mc ms) (QM mc ms K) pc)) : Le (qMo_goes_41 d mc ms B K) (G cMo_goes "VoyageCompanyModel" 5 none "goes" (rm (d + 1) mc ms) (QM mc ms K) 41) := by
  unfold qMo_goes_41
  exact (s_ald_n (j := 0) (by decide +kernel) rfl (s_ild_n (j := 3) (by decide +kernel) rfl (s_call (idx := 157) (by decide +kernel) ml12_157 rmk (s_if_le (off := 22) (tgt := 68) (by decide +kernel) (by decide) (zMo_goes_68 hB) (zMo_goes_49 hB)))))
def qMo_goes_25 (d mc ms : Nat) (B : Nat → Pd) (K : Ps) : Pd := (i_ald 0 (i_ild 3 (i_ci 8 (i_call 0 12 yMo_of cMo_of 3 (some .int) mc ms d 3 (i_ald 0 (i_ild 3 (i_ci 1 (i_call 0 12 yMo_of cMo_of 3 (some .int) mc ms d 3 (i_ic_ge (qMo_goes_68 d mc ms B K) (qMo_goes_41 d mc ms B K))))))))))
theorem zMo_goes_25 {d mc ms : Nat} {B : Nat → Pd} {K : Ps} (hB : ∀ pc, Le (B pc) (G cMo_goes "VoyageCompanyModel" 5 none "goes" (rm (d + 1) mc ms) (QM mc ms K) pc)) : Le (qMo_goes_25 d mc ms B K) (G cMo_goes "VoyageCompanyModel" 5 none "goes" (rm (d + 1) mc ms) (QM mc ms K) 25) := by
  unfold qMo_goes_25
  exact (s_ald_n (j := 0) (by decide +kernel) rfl (s_ild_n (j := 3) (by decide +kernel) rfl (s_bipush (n := 8) (v := 8) (by decide +kernel) (by decide +kernel) (s_call (idx := 138) (by decide +kernel) ml12_138 rmk (s_ald_n (j := 0) (by decide +kernel) rfl (s_ild_n (j := 3) (by decide +kernel) rfl (s_iconst (n := 1) (v := 1) (by decide +kernel) (by decide +kernel) (s_call (idx := 138) (by decide +kernel) ml12_138 rmk (s_ic_ge (off := 30) (tgt := 68) (by decide +kernel) (by decide) (zMo_goes_68 hB) (zMo_goes_41 hB))))))))))
def qMo_goes_24 (d mc ms : Nat) (B : Nat → Pd) (K : Ps) : Pd := (i_vret mc ms K)
theorem zMo_goes_24 {d mc ms : Nat} {B : Nat → Pd} {K : Ps} (hB : ∀ pc, Le (B pc) (G cMo_goes "VoyageCompanyModel" 5 none "goes" (rm (d + 1) mc ms) (QM mc ms K) pc)) : Le (qMo_goes_24 d mc ms B K) (G cMo_goes "VoyageCompanyModel" 5 none "goes" (rm (d + 1) mc ms) (QM mc ms K) 24) := by
  unfold qMo_goes_24
  exact (s_vret (by decide +kernel) rfl)
def qMo_goes_10 (d mc ms : Nat) (B : Nat → Pd) (K : Ps) : Pd := (i_ild 1 (i_ild 2 (i_ald 0 (i_getr 12 0 (i_ci 0 (i_iald (i_call 2 12 yMo_maySail cMo_maySail 5 (some .boolean) mc ms d 3 (i_if_ne (B 25) (qMo_goes_24 d mc ms B K)))))))))
theorem zMo_goes_10 {d mc ms : Nat} {B : Nat → Pd} {K : Ps} (hB : ∀ pc, Le (B pc) (G cMo_goes "VoyageCompanyModel" 5 none "goes" (rm (d + 1) mc ms) (QM mc ms K) pc)) : Le (qMo_goes_10 d mc ms B K) (G cMo_goes "VoyageCompanyModel" 5 none "goes" (rm (d + 1) mc ms) (QM mc ms K) 10) := by
  unfold qMo_goes_10
  exact (s_ild_n (j := 1) (by decide +kernel) rfl (s_ild_n (j := 2) (by decide +kernel) rfl (s_ald_n (j := 0) (by decide +kernel) rfl (s_getr (idx := 8) (by decide +kernel) fl12_8 (by decide) (s_iconst (n := 0) (v := 0) (by decide +kernel) (by decide +kernel) (s_iald (by decide +kernel) (s_call (idx := 167) (by decide +kernel) ml12_167 rmk (s_if_ne (off := 4) (tgt := 25) (by decide +kernel) (by decide) (hB 25) (zMo_goes_24 hB)))))))))
def qMo_goes_0 (d mc ms : Nat) (B : Nat → Pd) (K : Ps) : Pd := (i_ald 0 (i_ild 1 (i_call 0 12 yMo_theShip cMo_theShip 3 (some .int) mc ms d 2 (i_ist 3 (i_ild 3 (i_if_lt (qMo_goes_24 d mc ms B K) (qMo_goes_10 d mc ms B K)))))))
theorem zMo_goes_0 {d mc ms : Nat} {B : Nat → Pd} {K : Ps} (hB : ∀ pc, Le (B pc) (G cMo_goes "VoyageCompanyModel" 5 none "goes" (rm (d + 1) mc ms) (QM mc ms K) pc)) : Le (qMo_goes_0 d mc ms B K) (G cMo_goes "VoyageCompanyModel" 5 none "goes" (rm (d + 1) mc ms) (QM mc ms K) 0) := by
  unfold qMo_goes_0
  exact (s_ald_n (j := 0) (by decide +kernel) rfl (s_ild_n (j := 1) (by decide +kernel) rfl (s_call (idx := 173) (by decide +kernel) ml12_173 rmk (s_ist_n (j := 3) (by decide +kernel) rfl (by decide) (s_ild_n (j := 3) (by decide +kernel) rfl (s_if_lt (off := 17) (tgt := 24) (by decide +kernel) (by decide) (zMo_goes_24 hB) (zMo_goes_10 hB)))))))
/-- VoyageCompanyModel.goes(II)V, at its places -/
def gMo_goes (d mc ms : Nat) (K : Ps) : Nat → Pd := G cMo_goes "VoyageCompanyModel" 5 none "goes" (rm (d + 1) mc ms) (QM mc ms K)
theorem eMo_goes {d mc ms : Nat} {K : Ps} {av : List Value} {E : Nat → Prop} {R : Nat → Nat → Value} {I : Nat → Nat → Int32} {J : Nat → Nat → Int64} (hn : (lg_sl av).length ≤ 5) (h : qMo_goes_0 d mc ms (gMo_goes d mc ms K) K (lv_args 0 av) [] E R I J 0 0) : CL yMo_goes cMo_goes 5 none (d + 1) mc ms av E R I J K :=
  CL.of (by decide +kernel) hn (zMo_goes_0 (fun _ => Le.refl) _ _ _ _ _ _ _ _ h)
theorem lMo_goes_25 {d mc ms : Nat} {K : Ps} : Le (qMo_goes_25 d mc ms (gMo_goes d mc ms K) K) (gMo_goes d mc ms K 25) := zMo_goes_25 (fun _ => Le.refl)
def qMo_does_143 (d mc ms : Nat) (B : Nat → Pd) (K : Ps) : Pd := (i_vret mc ms K)
theorem zMo_does_143 {d mc ms : Nat} {B : Nat → Pd} {K : Ps} (hB : ∀ pc, Le (B pc) (G cMo_does "VoyageCompanyModel" 5 none "does" (rm (d + 1) mc ms) (QM mc ms K) pc)) : Le (qMo_does_143 d mc ms B K) (G cMo_does "VoyageCompanyModel" 5 none "does" (rm (d + 1) mc ms) (QM mc ms K) 143) := by
  unfold qMo_does_143
  exact (s_vret (by decide +kernel) rfl)
def qMo_does_133 (d mc ms : Nat) (B : Nat → Pd) (K : Ps) : Pd := (i_ald 0 (i_ild 1 (i_ild 4 (i_call 0 12 yMo_goes cMo_goes 5 none mc ms d 3 (qMo_does_143 d mc ms B K)))))
theorem zMo_does_133 {d mc ms : Nat} {B : Nat → Pd} {K : Ps} (hB : ∀ pc, Le (B pc) (G cMo_does "VoyageCompanyModel" 5 none "does" (rm (d + 1) mc ms) (QM mc ms K) pc)) : Le (qMo_does_133 d mc ms B K) (G cMo_does "VoyageCompanyModel" 5 none "does" (rm (d + 1) mc ms) (QM mc ms K) 133) := by
  unfold qMo_does_133
  exact (s_ald_n (j := 0) (by decide +kernel) rfl (s_ild_n (j := 1) (by decide +kernel) rfl (s_ild (by decide +kernel) (s_call (idx := 197) (by decide +kernel) ml12_197 rmk (s_goto (off := 3) (tgt := 143) (by decide +kernel) (by decide) (zMo_does_143 hB))))))
def qMo_does_120 (d mc ms : Nat) (B : Nat → Pd) (K : Ps) : Pd := (i_ald 0 (i_ald 0 (i_ild 1 (i_call 0 12 yMo_theShip cMo_theShip 3 (some .int) mc ms d 2 (i_ild 1 (i_call 0 12 yMo_unloads cMo_unloads 4 none mc ms d 3 (qMo_does_143 d mc ms B K)))))))
theorem zMo_does_120 {d mc ms : Nat} {B : Nat → Pd} {K : Ps} (hB : ∀ pc, Le (B pc) (G cMo_does "VoyageCompanyModel" 5 none "does" (rm (d + 1) mc ms) (QM mc ms K) pc)) : Le (qMo_does_120 d mc ms B K) (G cMo_does "VoyageCompanyModel" 5 none "does" (rm (d + 1) mc ms) (QM mc ms K) 120) := by
  unfold qMo_does_120
  exact (s_ald_n (j := 0) (by decide +kernel) rfl (s_ald_n (j := 0) (by decide +kernel) rfl (s_ild_n (j := 1) (by decide +kernel) rfl (s_call (idx := 173) (by decide +kernel) ml12_173 rmk (s_ild_n (j := 1) (by decide +kernel) rfl (s_call (idx := 163) (by decide +kernel) ml12_163 rmk (s_goto (off := 13) (tgt := 143) (by decide +kernel) (by decide) (zMo_does_143 hB))))))))
def qMo_does_112 (d mc ms : Nat) (B : Nat → Pd) (K : Ps) : Pd := (i_ald 0 (i_ild 1 (i_call 0 12 yMo_theShip cMo_theShip 3 (some .int) mc ms d 2 (i_if_lt (qMo_does_143 d mc ms B K) (qMo_does_120 d mc ms B K)))))
theorem zMo_does_112 {d mc ms : Nat} {B : Nat → Pd} {K : Ps} (hB : ∀ pc, Le (B pc) (G cMo_does "VoyageCompanyModel" 5 none "does" (rm (d + 1) mc ms) (QM mc ms K) pc)) : Le (qMo_does_112 d mc ms B K) (G cMo_does "VoyageCompanyModel" 5 none "does" (rm (d + 1) mc ms) (QM mc ms K) 112) := by
  unfold qMo_does_112
  exact (s_ald_n (j := 0) (by decide +kernel) rfl (s_ild_n (j := 1) (by decide +kernel) rfl (s_call (idx := 173) (by decide +kernel) ml12_173 rmk (s_if_lt (off := 26) (tgt := 143) (by decide +kernel) (by decide) (zMo_does_143 hB) (zMo_does_120 hB)))))
def qMo_does_101 (d mc ms : Nat) (B : Nat → Pd) (K : Ps) : Pd := (i_ald 0 (i_ild 1 (i_ci 0 (i_ild 4 (i_call 0 12 yMo_loads cMo_loads 6 none mc ms d 4 (qMo_does_143 d mc ms B K))))))
theorem zMo_does_101 {d mc ms : Nat} {B : Nat → Pd} {K : Ps} (hB : ∀ pc, Le (B pc) (G cMo_does "VoyageCompanyModel" 5 none "does" (rm (d + 1) mc ms) (QM mc ms K) pc)) : Le (qMo_does_101 d mc ms B K) (G cMo_does "VoyageCompanyModel" 5 none "does" (rm (d + 1) mc ms) (QM mc ms K) 101) := by
  unfold qMo_does_101
  exact (s_ald_n (j := 0) (by decide +kernel) rfl (s_ild_n (j := 1) (by decide +kernel) rfl (s_iconst (n := 0) (v := 0) (by decide +kernel) (by decide +kernel) (s_ild (by decide +kernel) (s_call (idx := 194) (by decide +kernel) ml12_194 rmk (s_goto (off := 34) (tgt := 143) (by decide +kernel) (by decide) (zMo_does_143 hB)))))))
def qMo_does_90 (d mc ms : Nat) (B : Nat → Pd) (K : Ps) : Pd := (i_ald 0 (i_ild 1 (i_ild 3 (i_ild 4 (i_call 0 12 yMo_loads cMo_loads 6 none mc ms d 4 (qMo_does_143 d mc ms B K))))))
theorem zMo_does_90 {d mc ms : Nat} {B : Nat → Pd} {K : Ps} (hB : ∀ pc, Le (B pc) (G cMo_does "VoyageCompanyModel" 5 none "does" (rm (d + 1) mc ms) (QM mc ms K) pc)) : Le (qMo_does_90 d mc ms B K) (G cMo_does "VoyageCompanyModel" 5 none "does" (rm (d + 1) mc ms) (QM mc ms K) 90) := by
  unfold qMo_does_90
  exact (s_ald_n (j := 0) (by decide +kernel) rfl (s_ild_n (j := 1) (by decide +kernel) rfl (s_ild_n (j := 3) (by decide +kernel) rfl (s_ild (by decide +kernel) (s_call (idx := 194) (by decide +kernel) ml12_194 rmk (s_goto (off := 45) (tgt := 143) (by decide +kernel) (by decide) (zMo_does_143 hB)))))))
def qMo_does_79 (d mc ms : Nat) (B : Nat → Pd) (K : Ps) : Pd := (i_ald 0 (i_ild 1 (i_ild 3 (i_ild 4 (i_call 0 12 yMo_sells cMo_sells 6 none mc ms d 4 (qMo_does_143 d mc ms B K))))))
theorem zMo_does_79 {d mc ms : Nat} {B : Nat → Pd} {K : Ps} (hB : ∀ pc, Le (B pc) (G cMo_does "VoyageCompanyModel" 5 none "does" (rm (d + 1) mc ms) (QM mc ms K) pc)) : Le (qMo_does_79 d mc ms B K) (G cMo_does "VoyageCompanyModel" 5 none "does" (rm (d + 1) mc ms) (QM mc ms K) 79) := by
  unfold qMo_does_79
  exact (s_ald_n (j := 0) (by decide +kernel) rfl (s_ild_n (j := 1) (by decide +kernel) rfl (s_ild_n (j := 3) (by decide +kernel) rfl (s_ild (by decide +kernel) (s_call (idx := 191) (by decide +kernel) ml12_191 rmk (s_goto (off := 56) (tgt := 143) (by decide +kernel) (by decide) (zMo_does_143 hB)))))))
def qMo_does_68 (d mc ms : Nat) (B : Nat → Pd) (K : Ps) : Pd := (i_ald 0 (i_ild 1 (i_ild 3 (i_ild 4 (i_call 0 12 yMo_buys cMo_buys 6 none mc ms d 4 (qMo_does_143 d mc ms B K))))))
theorem zMo_does_68 {d mc ms : Nat} {B : Nat → Pd} {K : Ps} (hB : ∀ pc, Le (B pc) (G cMo_does "VoyageCompanyModel" 5 none "does" (rm (d + 1) mc ms) (QM mc ms K) pc)) : Le (qMo_does_68 d mc ms B K) (G cMo_does "VoyageCompanyModel" 5 none "does" (rm (d + 1) mc ms) (QM mc ms K) 68) := by
  unfold qMo_does_68
  exact (s_ald_n (j := 0) (by decide +kernel) rfl (s_ild_n (j := 1) (by decide +kernel) rfl (s_ild_n (j := 3) (by decide +kernel) rfl (s_ild (by decide +kernel) (s_call (idx := 188) (by decide +kernel) ml12_188 rmk (s_goto (off := 67) (tgt := 143) (by decide +kernel) (by decide) (zMo_does_143 hB)))))))
def qMo_does_0 (d mc ms : Nat) (B : Nat → Pd) (K : Ps) : Pd := (i_ald 0 (i_getr 12 0 (i_ild 2 (i_ci 18 (i_iadd (i_iald (i_ist 3 (i_ald 0 (i_getr 12 0 (i_ild 2 (i_ci 19 (i_iadd (i_iald (i_ist 4 (i_ald 0 (i_getr 12 0 (i_ild 2 (i_ci 17 (i_iadd (i_iald (i_sw [(20, (qMo_does_68 d mc ms B K)), (21, (qMo_does_79 d mc ms B K)), (22, (qMo_does_90 d mc ms B K)), (23, (qMo_does_101 d mc ms B K)), (24, (qMo_does_112 d mc ms B K)), (25, (qMo_does_133 d mc ms B K))] (qMo_does_143 d mc ms B K))))))))))))))))))))))
theorem zMo_does_0 {d mc ms : Nat} {B : Nat → Pd} {K : Ps} (hB : ∀ pc, Le (B pc) (G cMo_does "VoyageCompanyModel" 5 none "does" (rm (d + 1) mc ms) (QM mc ms K) pc)) : Le (qMo_does_0 d mc ms B K) (G cMo_does "VoyageCompanyModel" 5 none "does" (rm (d + 1) mc ms) (QM mc ms K) 0) := by
  unfold qMo_does_0
  exact (s_ald_n (j := 0) (by decide +kernel) rfl (s_getr (idx := 8) (by decide +kernel) fl12_8 (by decide) (s_ild_n (j := 2) (by decide +kernel) rfl (s_bipush (n := 18) (v := 18) (by decide +kernel) (by decide +kernel) (s_iadd (by decide +kernel) (s_iald (by decide +kernel) (s_ist_n (j := 3) (by decide +kernel) rfl (by decide) (s_ald_n (j := 0) (by decide +kernel) rfl (s_getr (idx := 8) (by decide +kernel) fl12_8 (by decide) (s_ild_n (j := 2) (by decide +kernel) rfl (s_bipush (n := 19) (v := 19) (by decide +kernel) (by decide +kernel) (s_iadd (by decide +kernel) (s_iald (by decide +kernel) (s_ist (by decide +kernel) (by decide) (s_ald_n (j := 0) (by decide +kernel) rfl (s_getr (idx := 8) (by decide +kernel) fl12_8 (by decide) (s_ild_n (j := 2) (by decide +kernel) rfl (s_bipush (n := 17) (v := 17) (by decide +kernel) (by decide +kernel) (s_iadd (by decide +kernel) (s_iald (by decide +kernel) (s_sw (fun x => by
    by_cases h0 : x = 20
    · subst h0
      exact ⟨68, sw_in (dflt := 113) (lo := 20) (hi := 25) (offs := #[38, 49, 60, 71, 82, 103]) (len := 38) (off := 38) (by decide +kernel) (by decide +kernel) (by decide +kernel) (by decide +kernel) (by decide +kernel), by simpa [swp] using (zMo_does_68 hB)⟩
    by_cases h1 : x = 21
    · subst h1
      exact ⟨79, sw_in (dflt := 113) (lo := 20) (hi := 25) (offs := #[38, 49, 60, 71, 82, 103]) (len := 38) (off := 49) (by decide +kernel) (by decide +kernel) (by decide +kernel) (by decide +kernel) (by decide +kernel), by simpa [swp] using (zMo_does_79 hB)⟩
    by_cases h2 : x = 22
    · subst h2
      exact ⟨90, sw_in (dflt := 113) (lo := 20) (hi := 25) (offs := #[38, 49, 60, 71, 82, 103]) (len := 38) (off := 60) (by decide +kernel) (by decide +kernel) (by decide +kernel) (by decide +kernel) (by decide +kernel), by simpa [swp] using (zMo_does_90 hB)⟩
    by_cases h3 : x = 23
    · subst h3
      exact ⟨101, sw_in (dflt := 113) (lo := 20) (hi := 25) (offs := #[38, 49, 60, 71, 82, 103]) (len := 38) (off := 71) (by decide +kernel) (by decide +kernel) (by decide +kernel) (by decide +kernel) (by decide +kernel), by simpa [swp] using (zMo_does_101 hB)⟩
    by_cases h4 : x = 24
    · subst h4
      exact ⟨112, sw_in (dflt := 113) (lo := 20) (hi := 25) (offs := #[38, 49, 60, 71, 82, 103]) (len := 38) (off := 82) (by decide +kernel) (by decide +kernel) (by decide +kernel) (by decide +kernel) (by decide +kernel), by simpa [swp] using (zMo_does_112 hB)⟩
    by_cases h5 : x = 25
    · subst h5
      exact ⟨133, sw_in (dflt := 113) (lo := 20) (hi := 25) (offs := #[38, 49, 60, 71, 82, 103]) (len := 38) (off := 103) (by decide +kernel) (by decide +kernel) (by decide +kernel) (by decide +kernel) (by decide +kernel), by simpa [swp] using (zMo_does_133 hB)⟩
    have g0 := i32_ne (z := 20) (by decide +kernel) h0
    have g1 := i32_ne (z := 21) (by decide +kernel) h1
    have g2 := i32_ne (z := 22) (by decide +kernel) h2
    have g3 := i32_ne (z := 23) (by decide +kernel) h3
    have g4 := i32_ne (z := 24) (by decide +kernel) h4
    have g5 := i32_ne (z := 25) (by decide +kernel) h5
    exact ⟨143, sw_out (dflt := 113) (lo := 20) (hi := 25) (offs := #[38, 49, 60, 71, 82, 103]) (len := 38) (by decide +kernel) (by omega) (by decide +kernel), by simpa [swp, h0, h1, h2, h3, h4, h5] using (zMo_does_143 hB)⟩))))))))))))))))))))))
/-- VoyageCompanyModel.does(II)V, at its places -/
def gMo_does (d mc ms : Nat) (K : Ps) : Nat → Pd := G cMo_does "VoyageCompanyModel" 5 none "does" (rm (d + 1) mc ms) (QM mc ms K)
theorem eMo_does {d mc ms : Nat} {K : Ps} {av : List Value} {E : Nat → Prop} {R : Nat → Nat → Value} {I : Nat → Nat → Int32} {J : Nat → Nat → Int64} (hn : (lg_sl av).length ≤ 5) (h : qMo_does_0 d mc ms (gMo_does d mc ms K) K (lv_args 0 av) [] E R I J 0 0) : CL yMo_does cMo_does 5 none (d + 1) mc ms av E R I J K :=
  CL.of (by decide +kernel) hn (zMo_does_0 (fun _ => Le.refl) _ _ _ _ _ _ _ _ h)
def qMo_acts_86 (d mc ms : Nat) (B : Nat → Pd) (K : Ps) : Pd := (i_vret mc ms K)
theorem zMo_acts_86 {d mc ms : Nat} {B : Nat → Pd} {K : Ps} (hB : ∀ pc, Le (B pc) (G cMo_acts "VoyageCompanyModel" 3 none "acts" (rm (d + 1) mc ms) (QM mc ms K) pc)) : Le (qMo_acts_86 d mc ms B K) (G cMo_acts "VoyageCompanyModel" 3 none "acts" (rm (d + 1) mc ms) (QM mc ms K) 86) := by
  unfold qMo_acts_86
  exact (s_vret (by decide +kernel) rfl)
def qMo_acts_80 (d mc ms : Nat) (B : Nat → Pd) (K : Ps) : Pd := (i_inc 2 1 (B 17))
theorem zMo_acts_80 {d mc ms : Nat} {B : Nat → Pd} {K : Ps} (hB : ∀ pc, Le (B pc) (G cMo_acts "VoyageCompanyModel" 3 none "acts" (rm (d + 1) mc ms) (QM mc ms K) pc)) : Le (qMo_acts_80 d mc ms B K) (G cMo_acts "VoyageCompanyModel" 3 none "acts" (rm (d + 1) mc ms) (QM mc ms K) 80) := by
  unfold qMo_acts_80
  exact (s_inc (z := 1) (by decide +kernel) (by decide +kernel) (by decide) (s_goto (off := (-66)) (tgt := 17) (by decide +kernel) (by decide) (hB 17)))
def qMo_acts_45 (d mc ms : Nat) (B : Nat → Pd) (K : Ps) : Pd := (i_ald 0 (i_getr 12 0 (i_ci 320 (i_ci 4 (i_ild 1 (i_imul (i_iadd (i_ci 1 (i_iadd (i_ild 2 (i_iast (i_ald 0 (i_ild 1 (i_ci 350 (i_ci 320 (i_ild 1 (i_imul (i_iadd (i_ci 20 (i_ild 2 (i_imul (i_iadd (i_call 0 12 yMo_does cMo_does 5 none mc ms d 3 (i_vret mc ms K))))))))))))))))))))))))
theorem zMo_acts_45 {d mc ms : Nat} {B : Nat → Pd} {K : Ps} (hB : ∀ pc, Le (B pc) (G cMo_acts "VoyageCompanyModel" 3 none "acts" (rm (d + 1) mc ms) (QM mc ms K) pc)) : Le (qMo_acts_45 d mc ms B K) (G cMo_acts "VoyageCompanyModel" 3 none "acts" (rm (d + 1) mc ms) (QM mc ms K) 45) := by
  unfold qMo_acts_45
  exact (s_ald_n (j := 0) (by decide +kernel) rfl (s_getr (idx := 8) (by decide +kernel) fl12_8 (by decide) (s_sipush (n := 320) (v := 320) (by decide +kernel) (by decide +kernel) (s_iconst (n := 4) (v := 4) (by decide +kernel) (by decide +kernel) (s_ild_n (j := 1) (by decide +kernel) rfl (s_imul (by decide +kernel) (s_iadd (by decide +kernel) (s_iconst (n := 1) (v := 1) (by decide +kernel) (by decide +kernel) (s_iadd (by decide +kernel) (s_ild_n (j := 2) (by decide +kernel) rfl (s_iast (by decide +kernel) (s_ald_n (j := 0) (by decide +kernel) rfl (s_ild_n (j := 1) (by decide +kernel) rfl (s_sipush (n := 350) (v := 350) (by decide +kernel) (by decide +kernel) (s_sipush (n := 320) (v := 320) (by decide +kernel) (by decide +kernel) (s_ild_n (j := 1) (by decide +kernel) rfl (s_imul (by decide +kernel) (s_iadd (by decide +kernel) (s_bipush (n := 20) (v := 20) (by decide +kernel) (by decide +kernel) (s_ild_n (j := 2) (by decide +kernel) rfl (s_imul (by decide +kernel) (s_iadd (by decide +kernel) (s_call (idx := 204) (by decide +kernel) ml12_204 rmk (s_vret (by decide +kernel) rfl))))))))))))))))))))))))
def qMo_acts_42 (d mc ms : Nat) (B : Nat → Pd) (K : Ps) : Pd := (qMo_acts_80 d mc ms B K)
theorem zMo_acts_42 {d mc ms : Nat} {B : Nat → Pd} {K : Ps} (hB : ∀ pc, Le (B pc) (G cMo_acts "VoyageCompanyModel" 3 none "acts" (rm (d + 1) mc ms) (QM mc ms K) pc)) : Le (qMo_acts_42 d mc ms B K) (G cMo_acts "VoyageCompanyModel" 3 none "acts" (rm (d + 1) mc ms) (QM mc ms K) 42) := by
  unfold qMo_acts_42
  exact (s_goto (off := 38) (tgt := 80) (by decide +kernel) (by decide) (zMo_acts_80 hB))
def qMo_acts_33 (d mc ms : Nat) (B : Nat → Pd) (K : Ps) : Pd := (i_ald 0 (i_ild 1 (i_ild 2 (i_call 0 12 yMo_holds cMo_holds 9 (some .boolean) mc ms d 3 (i_if_ne (qMo_acts_45 d mc ms B K) (qMo_acts_42 d mc ms B K))))))
theorem zMo_acts_33 {d mc ms : Nat} {B : Nat → Pd} {K : Ps} (hB : ∀ pc, Le (B pc) (G cMo_acts "VoyageCompanyModel" 3 none "acts" (rm (d + 1) mc ms) (QM mc ms K) pc)) : Le (qMo_acts_33 d mc ms B K) (G cMo_acts "VoyageCompanyModel" 3 none "acts" (rm (d + 1) mc ms) (QM mc ms K) 33) := by
  unfold qMo_acts_33
  exact (s_ald_n (j := 0) (by decide +kernel) rfl (s_ild_n (j := 1) (by decide +kernel) rfl (s_ild_n (j := 2) (by decide +kernel) rfl (s_call (idx := 200) (by decide +kernel) ml12_200 rmk (s_if_ne (off := 6) (tgt := 45) (by decide +kernel) (by decide) (zMo_acts_45 hB) (zMo_acts_42 hB))))))
def qMo_acts_17 (d mc ms : Nat) (B : Nat → Pd) (K : Ps) : Pd := (i_ild 2 (i_ald 0 (i_getr 12 0 (i_ci 320 (i_ci 4 (i_ild 1 (i_imul (i_iadd (i_iald (i_ic_ge (qMo_acts_86 d mc ms B K) (qMo_acts_33 d mc ms B K)))))))))))
theorem zMo_acts_17 {d mc ms : Nat} {B : Nat → Pd} {K : Ps} (hB : ∀ pc, Le (B pc) (G cMo_acts "VoyageCompanyModel" 3 none "acts" (rm (d + 1) mc ms) (QM mc ms K) pc)) : Le (qMo_acts_17 d mc ms B K) (G cMo_acts "VoyageCompanyModel" 3 none "acts" (rm (d + 1) mc ms) (QM mc ms K) 17) := by
  unfold qMo_acts_17
  exact (s_ild_n (j := 2) (by decide +kernel) rfl (s_ald_n (j := 0) (by decide +kernel) rfl (s_getr (idx := 8) (by decide +kernel) fl12_8 (by decide) (s_sipush (n := 320) (v := 320) (by decide +kernel) (by decide +kernel) (s_iconst (n := 4) (v := 4) (by decide +kernel) (by decide +kernel) (s_ild_n (j := 1) (by decide +kernel) rfl (s_imul (by decide +kernel) (s_iadd (by decide +kernel) (s_iald (by decide +kernel) (s_ic_ge (off := 56) (tgt := 86) (by decide +kernel) (by decide) (zMo_acts_86 hB) (zMo_acts_33 hB)))))))))))
def qMo_acts_0 (d mc ms : Nat) (B : Nat → Pd) (K : Ps) : Pd := (i_ald 0 (i_getr 12 0 (i_ci 320 (i_ci 4 (i_ild 1 (i_imul (i_iadd (i_ci 1 (i_iadd (i_ci (-1) (i_iast (i_ci 0 (i_ist 2 (B 17))))))))))))))
theorem zMo_acts_0 {d mc ms : Nat} {B : Nat → Pd} {K : Ps} (hB : ∀ pc, Le (B pc) (G cMo_acts "VoyageCompanyModel" 3 none "acts" (rm (d + 1) mc ms) (QM mc ms K) pc)) : Le (qMo_acts_0 d mc ms B K) (G cMo_acts "VoyageCompanyModel" 3 none "acts" (rm (d + 1) mc ms) (QM mc ms K) 0) := by
  unfold qMo_acts_0
  exact (s_ald_n (j := 0) (by decide +kernel) rfl (s_getr (idx := 8) (by decide +kernel) fl12_8 (by decide) (s_sipush (n := 320) (v := 320) (by decide +kernel) (by decide +kernel) (s_iconst (n := 4) (v := 4) (by decide +kernel) (by decide +kernel) (s_ild_n (j := 1) (by decide +kernel) rfl (s_imul (by decide +kernel) (s_iadd (by decide +kernel) (s_iconst (n := 1) (v := 1) (by decide +kernel) (by decide +kernel) (s_iadd (by decide +kernel) (s_iconst (n := (-1)) (v := (-1)) (by decide +kernel) (by decide +kernel) (s_iast (by decide +kernel) (s_iconst (n := 0) (v := 0) (by decide +kernel) (by decide +kernel) (s_ist_n (j := 2) (by decide +kernel) rfl (by decide) (hB 17))))))))))))))
/-- VoyageCompanyModel.acts(I)V, at its places -/
def gMo_acts (d mc ms : Nat) (K : Ps) : Nat → Pd := G cMo_acts "VoyageCompanyModel" 3 none "acts" (rm (d + 1) mc ms) (QM mc ms K)
theorem eMo_acts {d mc ms : Nat} {K : Ps} {av : List Value} {E : Nat → Prop} {R : Nat → Nat → Value} {I : Nat → Nat → Int32} {J : Nat → Nat → Int64} (hn : (lg_sl av).length ≤ 3) (h : qMo_acts_0 d mc ms (gMo_acts d mc ms K) K (lv_args 0 av) [] E R I J 0 0) : CL yMo_acts cMo_acts 3 none (d + 1) mc ms av E R I J K :=
  CL.of (by decide +kernel) hn (zMo_acts_0 (fun _ => Le.refl) _ _ _ _ _ _ _ _ h)
theorem lMo_acts_17 {d mc ms : Nat} {K : Ps} : Le (qMo_acts_17 d mc ms (gMo_acts d mc ms K) K) (gMo_acts d mc ms K 17) := zMo_acts_17 (fun _ => Le.refl)
def qMo_aMonth_198 (d mc ms : Nat) (B : Nat → Pd) (K : Ps) : Pd := (i_ald 0 (i_getr 12 0 (i_ci 0 (i_dup2 (i_iald (i_ci 1 (i_iadd (i_iast (i_vret mc ms K)))))))))
theorem zMo_aMonth_198 {d mc ms : Nat} {B : Nat → Pd} {K : Ps} (hB : ∀ pc, Le (B pc) (G cMo_aMonth "VoyageCompanyModel" 4 none "aMonth" (rm (d + 1) mc ms) (QM mc ms K) pc)) : Le (qMo_aMonth_198 d mc ms B K) (G cMo_aMonth "VoyageCompanyModel" 4 none "aMonth" (rm (d + 1) mc ms) (QM mc ms K) 198) := by
  unfold qMo_aMonth_198
  exact (s_ald_n (j := 0) (by decide +kernel) rfl (s_getr (idx := 8) (by decide +kernel) fl12_8 (by decide) (s_iconst (n := 0) (v := 0) (by decide +kernel) (by decide +kernel) (s_dup2 (by decide +kernel) (s_iald (by decide +kernel) (s_iconst (n := 1) (v := 1) (by decide +kernel) (by decide +kernel) (s_iadd (by decide +kernel) (s_iast (by decide +kernel) (s_vret (by decide +kernel) rfl)))))))))
def qMo_aMonth_168 (d mc ms : Nat) (B : Nat → Pd) (K : Ps) : Pd := (i_ald 0 (i_getr 12 0 (i_ci 5100 (i_ci 20 (i_ild 1 (i_imul (i_iadd (i_ild 2 (i_iadd (i_ald 0 (i_getr 12 0 (i_ci 10 (i_ild 2 (i_iadd (i_iald (i_iast (i_inc 2 1 (B 162))))))))))))))))))
theorem zMo_aMonth_168 {d mc ms : Nat} {B : Nat → Pd} {K : Ps} (hB : ∀ pc, Le (B pc) (G cMo_aMonth "VoyageCompanyModel" 4 none "aMonth" (rm (d + 1) mc ms) (QM mc ms K) pc)) : Le (qMo_aMonth_168 d mc ms B K) (G cMo_aMonth "VoyageCompanyModel" 4 none "aMonth" (rm (d + 1) mc ms) (QM mc ms K) 168) := by
  unfold qMo_aMonth_168
  exact (s_ald_n (j := 0) (by decide +kernel) rfl (s_getr (idx := 8) (by decide +kernel) fl12_8 (by decide) (s_sipush (n := 5100) (v := 5100) (by decide +kernel) (by decide +kernel) (s_bipush (n := 20) (v := 20) (by decide +kernel) (by decide +kernel) (s_ild_n (j := 1) (by decide +kernel) rfl (s_imul (by decide +kernel) (s_iadd (by decide +kernel) (s_ild_n (j := 2) (by decide +kernel) rfl (s_iadd (by decide +kernel) (s_ald_n (j := 0) (by decide +kernel) rfl (s_getr (idx := 8) (by decide +kernel) fl12_8 (by decide) (s_bipush (n := 10) (v := 10) (by decide +kernel) (by decide +kernel) (s_ild_n (j := 2) (by decide +kernel) rfl (s_iadd (by decide +kernel) (s_iald (by decide +kernel) (s_iast (by decide +kernel) (s_inc (z := 1) (by decide +kernel) (by decide +kernel) (by decide) (s_goto (off := (-33)) (tgt := 162) (by decide +kernel) (by decide) (hB 162)))))))))))))))))))
def qMo_aMonth_162 (d mc ms : Nat) (B : Nat → Pd) (K : Ps) : Pd := (i_ild 2 (i_ci 20 (i_ic_ge (qMo_aMonth_198 d mc ms B K) (qMo_aMonth_168 d mc ms B K))))
theorem zMo_aMonth_162 {d mc ms : Nat} {B : Nat → Pd} {K : Ps} (hB : ∀ pc, Le (B pc) (G cMo_aMonth "VoyageCompanyModel" 4 none "aMonth" (rm (d + 1) mc ms) (QM mc ms K) pc)) : Le (qMo_aMonth_162 d mc ms B K) (G cMo_aMonth "VoyageCompanyModel" 4 none "aMonth" (rm (d + 1) mc ms) (QM mc ms K) 162) := by
  unfold qMo_aMonth_162
  exact (s_ild_n (j := 2) (by decide +kernel) rfl (s_bipush (n := 20) (v := 20) (by decide +kernel) (by decide +kernel) (s_ic_ge (off := 33) (tgt := 198) (by decide +kernel) (by decide) (zMo_aMonth_198 hB) (zMo_aMonth_168 hB))))
def qMo_aMonth_160 (d mc ms : Nat) (B : Nat → Pd) (K : Ps) : Pd := (i_ci 0 (i_ist 2 (B 162)))
theorem zMo_aMonth_160 {d mc ms : Nat} {B : Nat → Pd} {K : Ps} (hB : ∀ pc, Le (B pc) (G cMo_aMonth "VoyageCompanyModel" 4 none "aMonth" (rm (d + 1) mc ms) (QM mc ms K) pc)) : Le (qMo_aMonth_160 d mc ms B K) (G cMo_aMonth "VoyageCompanyModel" 4 none "aMonth" (rm (d + 1) mc ms) (QM mc ms K) 160) := by
  unfold qMo_aMonth_160
  exact (s_iconst (n := 0) (v := 0) (by decide +kernel) (by decide +kernel) (s_ist_n (j := 2) (by decide +kernel) rfl (by decide) (hB 162)))
def qMo_aMonth_152 (d mc ms : Nat) (B : Nat → Pd) (K : Ps) : Pd := (i_iadd (i_iast (i_inc 2 1 (B 99))))
theorem zMo_aMonth_152 {d mc ms : Nat} {B : Nat → Pd} {K : Ps} (hB : ∀ pc, Le (B pc) (G cMo_aMonth "VoyageCompanyModel" 4 none "aMonth" (rm (d + 1) mc ms) (QM mc ms K) pc)) : Le (qMo_aMonth_152 d mc ms B K) (G cMo_aMonth "VoyageCompanyModel" 4 none "aMonth" (rm (d + 1) mc ms) (QM mc ms K) 152) := by
  unfold qMo_aMonth_152
  exact (s_iadd (by decide +kernel) (s_iast (by decide +kernel) (s_inc (z := 1) (by decide +kernel) (by decide +kernel) (by decide) (s_goto (off := (-58)) (tgt := 99) (by decide +kernel) (by decide) (hB 99)))))
def qMo_aMonth_151 (d mc ms : Nat) (B : Nat → Pd) (K : Ps) : Pd := (i_ci 0 (qMo_aMonth_152 d mc ms B K))
theorem zMo_aMonth_151 {d mc ms : Nat} {B : Nat → Pd} {K : Ps} (hB : ∀ pc, Le (B pc) (G cMo_aMonth "VoyageCompanyModel" 4 none "aMonth" (rm (d + 1) mc ms) (QM mc ms K) pc)) : Le (qMo_aMonth_151 d mc ms B K) (G cMo_aMonth "VoyageCompanyModel" 4 none "aMonth" (rm (d + 1) mc ms) (QM mc ms K) 151) := by
  unfold qMo_aMonth_151
  exact (s_iconst (n := 0) (v := 0) (by decide +kernel) (by decide +kernel) (zMo_aMonth_152 hB))
def qMo_aMonth_147 (d mc ms : Nat) (B : Nat → Pd) (K : Ps) : Pd := (i_ci (-1) (qMo_aMonth_152 d mc ms B K))
theorem zMo_aMonth_147 {d mc ms : Nat} {B : Nat → Pd} {K : Ps} (hB : ∀ pc, Le (B pc) (G cMo_aMonth "VoyageCompanyModel" 4 none "aMonth" (rm (d + 1) mc ms) (QM mc ms K) pc)) : Le (qMo_aMonth_147 d mc ms B K) (G cMo_aMonth "VoyageCompanyModel" 4 none "aMonth" (rm (d + 1) mc ms) (QM mc ms K) 147) := by
  unfold qMo_aMonth_147
  exact (s_iconst (n := (-1)) (v := (-1)) (by decide +kernel) (by decide +kernel) (s_goto (off := 4) (tgt := 152) (by decide +kernel) (by decide) (zMo_aMonth_152 hB)))
def qMo_aMonth_143 (d mc ms : Nat) (B : Nat → Pd) (K : Ps) : Pd := (i_ild 3 (i_if_ge (qMo_aMonth_151 d mc ms B K) (qMo_aMonth_147 d mc ms B K)))
theorem zMo_aMonth_143 {d mc ms : Nat} {B : Nat → Pd} {K : Ps} (hB : ∀ pc, Le (B pc) (G cMo_aMonth "VoyageCompanyModel" 4 none "aMonth" (rm (d + 1) mc ms) (QM mc ms K) pc)) : Le (qMo_aMonth_143 d mc ms B K) (G cMo_aMonth "VoyageCompanyModel" 4 none "aMonth" (rm (d + 1) mc ms) (QM mc ms K) 143) := by
  unfold qMo_aMonth_143
  exact (s_ild_n (j := 3) (by decide +kernel) rfl (s_if_ge (off := 7) (tgt := 151) (by decide +kernel) (by decide) (zMo_aMonth_151 hB) (zMo_aMonth_147 hB)))
def qMo_aMonth_139 (d mc ms : Nat) (B : Nat → Pd) (K : Ps) : Pd := (i_ci 1 (qMo_aMonth_152 d mc ms B K))
theorem zMo_aMonth_139 {d mc ms : Nat} {B : Nat → Pd} {K : Ps} (hB : ∀ pc, Le (B pc) (G cMo_aMonth "VoyageCompanyModel" 4 none "aMonth" (rm (d + 1) mc ms) (QM mc ms K) pc)) : Le (qMo_aMonth_139 d mc ms B K) (G cMo_aMonth "VoyageCompanyModel" 4 none "aMonth" (rm (d + 1) mc ms) (QM mc ms K) 139) := by
  unfold qMo_aMonth_139
  exact (s_iconst (n := 1) (v := 1) (by decide +kernel) (by decide +kernel) (s_goto (off := 12) (tgt := 152) (by decide +kernel) (by decide) (zMo_aMonth_152 hB)))
def qMo_aMonth_105 (d mc ms : Nat) (B : Nat → Pd) (K : Ps) : Pd := (i_ald 0 (i_getr 12 0 (i_ci 30 (i_ild 2 (i_iadd (i_iald (i_ald 0 (i_getr 12 0 (i_ci 50 (i_ild 2 (i_iadd (i_iald (i_isub (i_ist 3 (i_ald 0 (i_getr 12 0 (i_ci 50 (i_ild 2 (i_iadd (i_dup2 (i_iald (i_ild 3 (i_if_le (qMo_aMonth_143 d mc ms B K) (qMo_aMonth_139 d mc ms B K))))))))))))))))))))))))
theorem zMo_aMonth_105 {d mc ms : Nat} {B : Nat → Pd} {K : Ps} (hB : ∀ pc, Le (B pc) (G cMo_aMonth "VoyageCompanyModel" 4 none "aMonth" (rm (d + 1) mc ms) (QM mc ms K) pc)) : Le (qMo_aMonth_105 d mc ms B K) (G cMo_aMonth "VoyageCompanyModel" 4 none "aMonth" (rm (d + 1) mc ms) (QM mc ms K) 105) := by
  unfold qMo_aMonth_105
  exact (s_ald_n (j := 0) (by decide +kernel) rfl (s_getr (idx := 8) (by decide +kernel) fl12_8 (by decide) (s_bipush (n := 30) (v := 30) (by decide +kernel) (by decide +kernel) (s_ild_n (j := 2) (by decide +kernel) rfl (s_iadd (by decide +kernel) (s_iald (by decide +kernel) (s_ald_n (j := 0) (by decide +kernel) rfl (s_getr (idx := 8) (by decide +kernel) fl12_8 (by decide) (s_bipush (n := 50) (v := 50) (by decide +kernel) (by decide +kernel) (s_ild_n (j := 2) (by decide +kernel) rfl (s_iadd (by decide +kernel) (s_iald (by decide +kernel) (s_isub (by decide +kernel) (s_ist_n (j := 3) (by decide +kernel) rfl (by decide) (s_ald_n (j := 0) (by decide +kernel) rfl (s_getr (idx := 8) (by decide +kernel) fl12_8 (by decide) (s_bipush (n := 50) (v := 50) (by decide +kernel) (by decide +kernel) (s_ild_n (j := 2) (by decide +kernel) rfl (s_iadd (by decide +kernel) (s_dup2 (by decide +kernel) (s_iald (by decide +kernel) (s_ild_n (j := 3) (by decide +kernel) rfl (s_if_le (off := 7) (tgt := 143) (by decide +kernel) (by decide) (zMo_aMonth_143 hB) (zMo_aMonth_139 hB))))))))))))))))))))))))
def qMo_aMonth_99 (d mc ms : Nat) (B : Nat → Pd) (K : Ps) : Pd := (i_ild 2 (i_ci 20 (i_ic_ge (qMo_aMonth_160 d mc ms B K) (qMo_aMonth_105 d mc ms B K))))
theorem zMo_aMonth_99 {d mc ms : Nat} {B : Nat → Pd} {K : Ps} (hB : ∀ pc, Le (B pc) (G cMo_aMonth "VoyageCompanyModel" 4 none "aMonth" (rm (d + 1) mc ms) (QM mc ms K) pc)) : Le (qMo_aMonth_99 d mc ms B K) (G cMo_aMonth "VoyageCompanyModel" 4 none "aMonth" (rm (d + 1) mc ms) (QM mc ms K) 99) := by
  unfold qMo_aMonth_99
  exact (s_ild_n (j := 2) (by decide +kernel) rfl (s_bipush (n := 20) (v := 20) (by decide +kernel) (by decide +kernel) (s_ic_ge (off := 58) (tgt := 160) (by decide +kernel) (by decide) (zMo_aMonth_160 hB) (zMo_aMonth_105 hB))))
def qMo_aMonth_97 (d mc ms : Nat) (B : Nat → Pd) (K : Ps) : Pd := (i_ci 0 (i_ist 2 (B 99)))
theorem zMo_aMonth_97 {d mc ms : Nat} {B : Nat → Pd} {K : Ps} (hB : ∀ pc, Le (B pc) (G cMo_aMonth "VoyageCompanyModel" 4 none "aMonth" (rm (d + 1) mc ms) (QM mc ms K) pc)) : Le (qMo_aMonth_97 d mc ms B K) (G cMo_aMonth "VoyageCompanyModel" 4 none "aMonth" (rm (d + 1) mc ms) (QM mc ms K) 97) := by
  unfold qMo_aMonth_97
  exact (s_iconst (n := 0) (v := 0) (by decide +kernel) (by decide +kernel) (s_ist_n (j := 2) (by decide +kernel) rfl (by decide) (hB 99)))
def qMo_aMonth_86 (d mc ms : Nat) (B : Nat → Pd) (K : Ps) : Pd := (i_ald 0 (i_ild 2 (i_call 0 12 yMo_acts cMo_acts 3 none mc ms d 2 (i_inc 2 1 (B 81)))))
theorem zMo_aMonth_86 {d mc ms : Nat} {B : Nat → Pd} {K : Ps} (hB : ∀ pc, Le (B pc) (G cMo_aMonth "VoyageCompanyModel" 4 none "aMonth" (rm (d + 1) mc ms) (QM mc ms K) pc)) : Le (qMo_aMonth_86 d mc ms B K) (G cMo_aMonth "VoyageCompanyModel" 4 none "aMonth" (rm (d + 1) mc ms) (QM mc ms K) 86) := by
  unfold qMo_aMonth_86
  exact (s_ald_n (j := 0) (by decide +kernel) rfl (s_ild_n (j := 2) (by decide +kernel) rfl (s_call (idx := 210) (by decide +kernel) ml12_210 rmk (s_inc (z := 1) (by decide +kernel) (by decide +kernel) (by decide) (s_goto (off := (-13)) (tgt := 81) (by decide +kernel) (by decide) (hB 81))))))
def qMo_aMonth_81 (d mc ms : Nat) (B : Nat → Pd) (K : Ps) : Pd := (i_ild 2 (i_ci 5 (i_ic_ge (qMo_aMonth_97 d mc ms B K) (qMo_aMonth_86 d mc ms B K))))
theorem zMo_aMonth_81 {d mc ms : Nat} {B : Nat → Pd} {K : Ps} (hB : ∀ pc, Le (B pc) (G cMo_aMonth "VoyageCompanyModel" 4 none "aMonth" (rm (d + 1) mc ms) (QM mc ms K) pc)) : Le (qMo_aMonth_81 d mc ms B K) (G cMo_aMonth "VoyageCompanyModel" 4 none "aMonth" (rm (d + 1) mc ms) (QM mc ms K) 81) := by
  unfold qMo_aMonth_81
  exact (s_ild_n (j := 2) (by decide +kernel) rfl (s_iconst (n := 5) (v := 5) (by decide +kernel) (by decide +kernel) (s_ic_ge (off := 14) (tgt := 97) (by decide +kernel) (by decide) (zMo_aMonth_97 hB) (zMo_aMonth_86 hB))))
def qMo_aMonth_79 (d mc ms : Nat) (B : Nat → Pd) (K : Ps) : Pd := (i_ci 1 (i_ist 2 (B 81)))
theorem zMo_aMonth_79 {d mc ms : Nat} {B : Nat → Pd} {K : Ps} (hB : ∀ pc, Le (B pc) (G cMo_aMonth "VoyageCompanyModel" 4 none "aMonth" (rm (d + 1) mc ms) (QM mc ms K) pc)) : Le (qMo_aMonth_79 d mc ms B K) (G cMo_aMonth "VoyageCompanyModel" 4 none "aMonth" (rm (d + 1) mc ms) (QM mc ms K) 79) := by
  unfold qMo_aMonth_79
  exact (s_iconst (n := 1) (v := 1) (by decide +kernel) (by decide +kernel) (s_ist_n (j := 2) (by decide +kernel) rfl (by decide) (hB 81)))
def qMo_aMonth_73 (d mc ms : Nat) (B : Nat → Pd) (K : Ps) : Pd := (i_inc 2 1 (B 32))
theorem zMo_aMonth_73 {d mc ms : Nat} {B : Nat → Pd} {K : Ps} (hB : ∀ pc, Le (B pc) (G cMo_aMonth "VoyageCompanyModel" 4 none "aMonth" (rm (d + 1) mc ms) (QM mc ms K) pc)) : Le (qMo_aMonth_73 d mc ms B K) (G cMo_aMonth "VoyageCompanyModel" 4 none "aMonth" (rm (d + 1) mc ms) (QM mc ms K) 73) := by
  unfold qMo_aMonth_73
  exact (s_inc (z := 1) (by decide +kernel) (by decide +kernel) (by decide) (s_goto (off := (-44)) (tgt := 32) (by decide +kernel) (by decide) (hB 32)))
def qMo_aMonth_58 (d mc ms : Nat) (B : Nat → Pd) (K : Ps) : Pd := (i_ald 0 (i_getr 12 0 (i_ci 320 (i_ci 4 (i_ild 2 (i_imul (i_iadd (i_ci 2 (i_iadd (i_ild 3 (i_iast (qMo_aMonth_73 d mc ms B K))))))))))))
theorem zMo_aMonth_58 {d mc ms : Nat} {B : Nat → Pd} {K : Ps} (hB : ∀ pc, Le (B pc) (G cMo_aMonth "VoyageCompanyModel" 4 none "aMonth" (rm (d + 1) mc ms) (QM mc ms K) pc)) : Le (qMo_aMonth_58 d mc ms B K) (G cMo_aMonth "VoyageCompanyModel" 4 none "aMonth" (rm (d + 1) mc ms) (QM mc ms K) 58) := by
  unfold qMo_aMonth_58
  exact (s_ald_n (j := 0) (by decide +kernel) rfl (s_getr (idx := 8) (by decide +kernel) fl12_8 (by decide) (s_sipush (n := 320) (v := 320) (by decide +kernel) (by decide +kernel) (s_iconst (n := 4) (v := 4) (by decide +kernel) (by decide +kernel) (s_ild_n (j := 2) (by decide +kernel) rfl (s_imul (by decide +kernel) (s_iadd (by decide +kernel) (s_iconst (n := 2) (v := 2) (by decide +kernel) (by decide +kernel) (s_iadd (by decide +kernel) (s_ild_n (j := 3) (by decide +kernel) rfl (s_iast (by decide +kernel) (zMo_aMonth_73 hB))))))))))))
def qMo_aMonth_37 (d mc ms : Nat) (B : Nat → Pd) (K : Ps) : Pd := (i_ald 0 (i_getr 12 0 (i_ci 2000 (i_ci 620 (i_ild 2 (i_imul (i_iadd (i_ild 1 (i_iadd (i_iald (i_ist 3 (i_ild 3 (i_if_le (qMo_aMonth_73 d mc ms B K) (qMo_aMonth_58 d mc ms B K))))))))))))))
theorem zMo_aMonth_37 {d mc ms : Nat} {B : Nat → Pd} {K : Ps} (hB : ∀ pc, Le (B pc) (G cMo_aMonth "VoyageCompanyModel" 4 none "aMonth" (rm (d + 1) mc ms) (QM mc ms K) pc)) : Le (qMo_aMonth_37 d mc ms B K) (G cMo_aMonth "VoyageCompanyModel" 4 none "aMonth" (rm (d + 1) mc ms) (QM mc ms K) 37) := by
  unfold qMo_aMonth_37
  exact (s_ald_n (j := 0) (by decide +kernel) rfl (s_getr (idx := 8) (by decide +kernel) fl12_8 (by decide) (s_sipush (n := 2000) (v := 2000) (by decide +kernel) (by decide +kernel) (s_sipush (n := 620) (v := 620) (by decide +kernel) (by decide +kernel) (s_ild_n (j := 2) (by decide +kernel) rfl (s_imul (by decide +kernel) (s_iadd (by decide +kernel) (s_ild_n (j := 1) (by decide +kernel) rfl (s_iadd (by decide +kernel) (s_iald (by decide +kernel) (s_ist_n (j := 3) (by decide +kernel) rfl (by decide) (s_ild_n (j := 3) (by decide +kernel) rfl (s_if_le (off := 18) (tgt := 73) (by decide +kernel) (by decide) (zMo_aMonth_73 hB) (zMo_aMonth_58 hB))))))))))))))
def qMo_aMonth_32 (d mc ms : Nat) (B : Nat → Pd) (K : Ps) : Pd := (i_ild 2 (i_ci 5 (i_ic_ge (qMo_aMonth_79 d mc ms B K) (qMo_aMonth_37 d mc ms B K))))
theorem zMo_aMonth_32 {d mc ms : Nat} {B : Nat → Pd} {K : Ps} (hB : ∀ pc, Le (B pc) (G cMo_aMonth "VoyageCompanyModel" 4 none "aMonth" (rm (d + 1) mc ms) (QM mc ms K) pc)) : Le (qMo_aMonth_32 d mc ms B K) (G cMo_aMonth "VoyageCompanyModel" 4 none "aMonth" (rm (d + 1) mc ms) (QM mc ms K) 32) := by
  unfold qMo_aMonth_32
  exact (s_ild_n (j := 2) (by decide +kernel) rfl (s_iconst (n := 5) (v := 5) (by decide +kernel) (by decide +kernel) (s_ic_ge (off := 45) (tgt := 79) (by decide +kernel) (by decide) (zMo_aMonth_79 hB) (zMo_aMonth_37 hB))))
def qMo_aMonth_30 (d mc ms : Nat) (B : Nat → Pd) (K : Ps) : Pd := (i_ci 1 (i_ist 2 (B 32)))
theorem zMo_aMonth_30 {d mc ms : Nat} {B : Nat → Pd} {K : Ps} (hB : ∀ pc, Le (B pc) (G cMo_aMonth "VoyageCompanyModel" 4 none "aMonth" (rm (d + 1) mc ms) (QM mc ms K) pc)) : Le (qMo_aMonth_30 d mc ms B K) (G cMo_aMonth "VoyageCompanyModel" 4 none "aMonth" (rm (d + 1) mc ms) (QM mc ms K) 30) := by
  unfold qMo_aMonth_30
  exact (s_iconst (n := 1) (v := 1) (by decide +kernel) (by decide +kernel) (s_ist_n (j := 2) (by decide +kernel) rfl (by decide) (hB 32)))
def qMo_aMonth_19 (d mc ms : Nat) (B : Nat → Pd) (K : Ps) : Pd := (i_ald 0 (i_ild 2 (i_call 0 12 yMo_comes cMo_comes 4 none mc ms d 2 (i_inc 2 1 (B 9)))))
theorem zMo_aMonth_19 {d mc ms : Nat} {B : Nat → Pd} {K : Ps} (hB : ∀ pc, Le (B pc) (G cMo_aMonth "VoyageCompanyModel" 4 none "aMonth" (rm (d + 1) mc ms) (QM mc ms K) pc)) : Le (qMo_aMonth_19 d mc ms B K) (G cMo_aMonth "VoyageCompanyModel" 4 none "aMonth" (rm (d + 1) mc ms) (QM mc ms K) 19) := by
  unfold qMo_aMonth_19
  exact (s_ald_n (j := 0) (by decide +kernel) rfl (s_ild_n (j := 2) (by decide +kernel) rfl (s_call (idx := 207) (by decide +kernel) ml12_207 rmk (s_inc (z := 1) (by decide +kernel) (by decide +kernel) (by decide) (s_goto (off := (-18)) (tgt := 9) (by decide +kernel) (by decide) (hB 9))))))
def qMo_aMonth_9 (d mc ms : Nat) (B : Nat → Pd) (K : Ps) : Pd := (i_ild 2 (i_ald 0 (i_getr 12 0 (i_ci 1 (i_iald (i_ic_ge (qMo_aMonth_30 d mc ms B K) (qMo_aMonth_19 d mc ms B K)))))))
theorem zMo_aMonth_9 {d mc ms : Nat} {B : Nat → Pd} {K : Ps} (hB : ∀ pc, Le (B pc) (G cMo_aMonth "VoyageCompanyModel" 4 none "aMonth" (rm (d + 1) mc ms) (QM mc ms K) pc)) : Le (qMo_aMonth_9 d mc ms B K) (G cMo_aMonth "VoyageCompanyModel" 4 none "aMonth" (rm (d + 1) mc ms) (QM mc ms K) 9) := by
  unfold qMo_aMonth_9
  exact (s_ild_n (j := 2) (by decide +kernel) rfl (s_ald_n (j := 0) (by decide +kernel) rfl (s_getr (idx := 8) (by decide +kernel) fl12_8 (by decide) (s_iconst (n := 1) (v := 1) (by decide +kernel) (by decide +kernel) (s_iald (by decide +kernel) (s_ic_ge (off := 14) (tgt := 30) (by decide +kernel) (by decide) (zMo_aMonth_30 hB) (zMo_aMonth_19 hB)))))))
def qMo_aMonth_0 (d mc ms : Nat) (B : Nat → Pd) (K : Ps) : Pd := (i_ald 0 (i_getr 12 0 (i_ci 0 (i_iald (i_ist 1 (i_ci 0 (i_ist 2 (B 9))))))))
theorem zMo_aMonth_0 {d mc ms : Nat} {B : Nat → Pd} {K : Ps} (hB : ∀ pc, Le (B pc) (G cMo_aMonth "VoyageCompanyModel" 4 none "aMonth" (rm (d + 1) mc ms) (QM mc ms K) pc)) : Le (qMo_aMonth_0 d mc ms B K) (G cMo_aMonth "VoyageCompanyModel" 4 none "aMonth" (rm (d + 1) mc ms) (QM mc ms K) 0) := by
  unfold qMo_aMonth_0
  exact (s_ald_n (j := 0) (by decide +kernel) rfl (s_getr (idx := 8) (by decide +kernel) fl12_8 (by decide) (s_iconst (n := 0) (v := 0) (by decide +kernel) (by decide +kernel) (s_iald (by decide +kernel) (s_ist_n (j := 1) (by decide +kernel) rfl (by decide) (s_iconst (n := 0) (v := 0) (by decide +kernel) (by decide +kernel) (s_ist_n (j := 2) (by decide +kernel) rfl (by decide) (hB 9))))))))
/-- VoyageCompanyModel.aMonth()V, at its places -/
def gMo_aMonth (d mc ms : Nat) (K : Ps) : Nat → Pd := G cMo_aMonth "VoyageCompanyModel" 4 none "aMonth" (rm (d + 1) mc ms) (QM mc ms K)
theorem eMo_aMonth {d mc ms : Nat} {K : Ps} {av : List Value} {E : Nat → Prop} {R : Nat → Nat → Value} {I : Nat → Nat → Int32} {J : Nat → Nat → Int64} (hn : (lg_sl av).length ≤ 4) (h : qMo_aMonth_0 d mc ms (gMo_aMonth d mc ms K) K (lv_args 0 av) [] E R I J 0 0) : CL yMo_aMonth cMo_aMonth 4 none (d + 1) mc ms av E R I J K :=
  CL.of (by decide +kernel) hn (zMo_aMonth_0 (fun _ => Le.refl) _ _ _ _ _ _ _ _ h)
theorem lMo_aMonth_9 {d mc ms : Nat} {K : Ps} : Le (qMo_aMonth_9 d mc ms (gMo_aMonth d mc ms K) K) (gMo_aMonth d mc ms K 9) := zMo_aMonth_9 (fun _ => Le.refl)
theorem lMo_aMonth_32 {d mc ms : Nat} {K : Ps} : Le (qMo_aMonth_32 d mc ms (gMo_aMonth d mc ms K) K) (gMo_aMonth d mc ms K 32) := zMo_aMonth_32 (fun _ => Le.refl)
theorem lMo_aMonth_81 {d mc ms : Nat} {K : Ps} : Le (qMo_aMonth_81 d mc ms (gMo_aMonth d mc ms K) K) (gMo_aMonth d mc ms K 81) := zMo_aMonth_81 (fun _ => Le.refl)
theorem lMo_aMonth_99 {d mc ms : Nat} {K : Ps} : Le (qMo_aMonth_99 d mc ms (gMo_aMonth d mc ms K) K) (gMo_aMonth d mc ms K 99) := zMo_aMonth_99 (fun _ => Le.refl)
theorem lMo_aMonth_162 {d mc ms : Nat} {K : Ps} : Le (qMo_aMonth_162 d mc ms (gMo_aMonth d mc ms K) K) (gMo_aMonth d mc ms K 162) := zMo_aMonth_162 (fun _ => Le.refl)
def qMo_months_43 (d mc ms : Nat) (B : Nat → Pd) (K : Ps) : Pd := (i_ald 0 (i_getr 12 0 (i_ci 0 (i_iald (i_iret mc ms K)))))
theorem zMo_months_43 {d mc ms : Nat} {B : Nat → Pd} {K : Ps} (hB : ∀ pc, Le (B pc) (G cMo_months "VoyageCompanyModel" 3 (some .int) "months" (rm (d + 1) mc ms) (QM mc ms K) pc)) : Le (qMo_months_43 d mc ms B K) (G cMo_months "VoyageCompanyModel" 3 (some .int) "months" (rm (d + 1) mc ms) (QM mc ms K) 43) := by
  unfold qMo_months_43
  exact (s_ald_n (j := 0) (by decide +kernel) rfl (s_getr (idx := 8) (by decide +kernel) fl12_8 (by decide) (s_iconst (n := 0) (v := 0) (by decide +kernel) (by decide +kernel) (s_iald (by decide +kernel) (s_iret (by decide +kernel) rfl)))))
def qMo_months_33 (d mc ms : Nat) (B : Nat → Pd) (K : Ps) : Pd := (i_ald 0 (i_call 0 12 yMo_aMonth cMo_aMonth 4 none mc ms d 1 (i_inc 2 1 (B 28))))
theorem zMo_months_33 {d mc ms : Nat} {B : Nat → Pd} {K : Ps} (hB : ∀ pc, Le (B pc) (G cMo_months "VoyageCompanyModel" 3 (some .int) "months" (rm (d + 1) mc ms) (QM mc ms K) pc)) : Le (qMo_months_33 d mc ms B K) (G cMo_months "VoyageCompanyModel" 3 (some .int) "months" (rm (d + 1) mc ms) (QM mc ms K) 33) := by
  unfold qMo_months_33
  exact (s_ald_n (j := 0) (by decide +kernel) rfl (s_call (idx := 213) (by decide +kernel) ml12_213 rmk (s_inc (z := 1) (by decide +kernel) (by decide +kernel) (by decide) (s_goto (off := (-12)) (tgt := 28) (by decide +kernel) (by decide) (hB 28)))))
def qMo_months_28 (d mc ms : Nat) (B : Nat → Pd) (K : Ps) : Pd := (i_ild 2 (i_ild 1 (i_ic_ge (qMo_months_43 d mc ms B K) (qMo_months_33 d mc ms B K))))
theorem zMo_months_28 {d mc ms : Nat} {B : Nat → Pd} {K : Ps} (hB : ∀ pc, Le (B pc) (G cMo_months "VoyageCompanyModel" 3 (some .int) "months" (rm (d + 1) mc ms) (QM mc ms K) pc)) : Le (qMo_months_28 d mc ms B K) (G cMo_months "VoyageCompanyModel" 3 (some .int) "months" (rm (d + 1) mc ms) (QM mc ms K) 28) := by
  unfold qMo_months_28
  exact (s_ild_n (j := 2) (by decide +kernel) rfl (s_ild_n (j := 1) (by decide +kernel) rfl (s_ic_ge (off := 13) (tgt := 43) (by decide +kernel) (by decide) (zMo_months_43 hB) (zMo_months_33 hB))))
def qMo_months_26 (d mc ms : Nat) (B : Nat → Pd) (K : Ps) : Pd := (i_ci 0 (i_ist 2 (B 28)))
theorem zMo_months_26 {d mc ms : Nat} {B : Nat → Pd} {K : Ps} (hB : ∀ pc, Le (B pc) (G cMo_months "VoyageCompanyModel" 3 (some .int) "months" (rm (d + 1) mc ms) (QM mc ms K) pc)) : Le (qMo_months_26 d mc ms B K) (G cMo_months "VoyageCompanyModel" 3 (some .int) "months" (rm (d + 1) mc ms) (QM mc ms K) 26) := by
  unfold qMo_months_26
  exact (s_iconst (n := 0) (v := 0) (by decide +kernel) (by decide +kernel) (s_ist_n (j := 2) (by decide +kernel) rfl (by decide) (hB 28)))
def qMo_months_24 (d mc ms : Nat) (B : Nat → Pd) (K : Ps) : Pd := (i_ci (-1) (i_iret mc ms K))
theorem zMo_months_24 {d mc ms : Nat} {B : Nat → Pd} {K : Ps} (hB : ∀ pc, Le (B pc) (G cMo_months "VoyageCompanyModel" 3 (some .int) "months" (rm (d + 1) mc ms) (QM mc ms K) pc)) : Le (qMo_months_24 d mc ms B K) (G cMo_months "VoyageCompanyModel" 3 (some .int) "months" (rm (d + 1) mc ms) (QM mc ms K) 24) := by
  unfold qMo_months_24
  exact (s_iconst (n := (-1)) (v := (-1)) (by decide +kernel) (by decide +kernel) (s_iret (by decide +kernel) rfl))
def qMo_months_10 (d mc ms : Nat) (B : Nat → Pd) (K : Ps) : Pd := (i_ald 0 (i_getr 12 0 (i_ci 0 (i_iald (i_ild 1 (i_iadd (i_ci 600 (i_ic_le (qMo_months_26 d mc ms B K) (qMo_months_24 d mc ms B K)))))))))
theorem zMo_months_10 {d mc ms : Nat} {B : Nat → Pd} {K : Ps} (hB : ∀ pc, Le (B pc) (G cMo_months "VoyageCompanyModel" 3 (some .int) "months" (rm (d + 1) mc ms) (QM mc ms K) pc)) : Le (qMo_months_10 d mc ms B K) (G cMo_months "VoyageCompanyModel" 3 (some .int) "months" (rm (d + 1) mc ms) (QM mc ms K) 10) := by
  unfold qMo_months_10
  exact (s_ald_n (j := 0) (by decide +kernel) rfl (s_getr (idx := 8) (by decide +kernel) fl12_8 (by decide) (s_iconst (n := 0) (v := 0) (by decide +kernel) (by decide +kernel) (s_iald (by decide +kernel) (s_ild_n (j := 1) (by decide +kernel) rfl (s_iadd (by decide +kernel) (s_sipush (n := 600) (v := 600) (by decide +kernel) (by decide +kernel) (s_ic_le (off := 5) (tgt := 26) (by decide +kernel) (by decide) (zMo_months_26 hB) (zMo_months_24 hB)))))))))
def qMo_months_0 (d mc ms : Nat) (B : Nat → Pd) (K : Ps) : Pd := (i_ild 1 (i_ci 1 (i_ci 60 (i_call 2 12 yMo_isIn cMo_isIn 3 (some .boolean) mc ms d 3 (i_if_eq (qMo_months_24 d mc ms B K) (qMo_months_10 d mc ms B K))))))
theorem zMo_months_0 {d mc ms : Nat} {B : Nat → Pd} {K : Ps} (hB : ∀ pc, Le (B pc) (G cMo_months "VoyageCompanyModel" 3 (some .int) "months" (rm (d + 1) mc ms) (QM mc ms K) pc)) : Le (qMo_months_0 d mc ms B K) (G cMo_months "VoyageCompanyModel" 3 (some .int) "months" (rm (d + 1) mc ms) (QM mc ms K) 0) := by
  unfold qMo_months_0
  exact (s_ild_n (j := 1) (by decide +kernel) rfl (s_iconst (n := 1) (v := 1) (by decide +kernel) (by decide +kernel) (s_bipush (n := 60) (v := 60) (by decide +kernel) (by decide +kernel) (s_call (idx := 25) (by decide +kernel) ml12_25 rmk (s_if_eq (off := 17) (tgt := 24) (by decide +kernel) (by decide) (zMo_months_24 hB) (zMo_months_10 hB))))))
/-- VoyageCompanyModel.months(I)I, at its places -/
def gMo_months (d mc ms : Nat) (K : Ps) : Nat → Pd := G cMo_months "VoyageCompanyModel" 3 (some .int) "months" (rm (d + 1) mc ms) (QM mc ms K)
theorem eMo_months {d mc ms : Nat} {K : Ps} {av : List Value} {E : Nat → Prop} {R : Nat → Nat → Value} {I : Nat → Nat → Int32} {J : Nat → Nat → Int64} (hn : (lg_sl av).length ≤ 3) (h : qMo_months_0 d mc ms (gMo_months d mc ms K) K (lv_args 0 av) [] E R I J 0 0) : CL yMo_months cMo_months 3 (some .int) (d + 1) mc ms av E R I J K :=
  CL.of (by decide +kernel) hn (zMo_months_0 (fun _ => Le.refl) _ _ _ _ _ _ _ _ h)
theorem lMo_months_28 {d mc ms : Nat} {K : Ps} : Le (qMo_months_28 d mc ms (gMo_months d mc ms K) K) (gMo_months d mc ms K 28) := zMo_months_28 (fun _ => Le.refl)
def qMo_store_31 (d mc ms : Nat) (B : Nat → Pd) (K : Ps) : Pd := (i_iret mc ms K)
theorem zMo_store_31 {d mc ms : Nat} {B : Nat → Pd} {K : Ps} (hB : ∀ pc, Le (B pc) (G cMo_store "VoyageCompanyModel" 3 (some .int) "store" (rm (d + 1) mc ms) (QM mc ms K) pc)) : Le (qMo_store_31 d mc ms B K) (G cMo_store "VoyageCompanyModel" 3 (some .int) "store" (rm (d + 1) mc ms) (QM mc ms K) 31) := by
  unfold qMo_store_31
  exact (s_iret (by decide +kernel) rfl)
def qMo_store_30 (d mc ms : Nat) (B : Nat → Pd) (K : Ps) : Pd := (i_ci (-1) (qMo_store_31 d mc ms B K))
theorem zMo_store_30 {d mc ms : Nat} {B : Nat → Pd} {K : Ps} (hB : ∀ pc, Le (B pc) (G cMo_store "VoyageCompanyModel" 3 (some .int) "store" (rm (d + 1) mc ms) (QM mc ms K) pc)) : Le (qMo_store_30 d mc ms B K) (G cMo_store "VoyageCompanyModel" 3 (some .int) "store" (rm (d + 1) mc ms) (QM mc ms K) 30) := by
  unfold qMo_store_30
  exact (s_iconst (n := (-1)) (v := (-1)) (by decide +kernel) (by decide +kernel) (zMo_store_31 hB))
def qMo_store_14 (d mc ms : Nat) (B : Nat → Pd) (K : Ps) : Pd := (i_ald 0 (i_getr 12 0 (i_ci 10 (i_ci 4 (i_ild 1 (i_imul (i_iadd (i_ild 2 (i_iadd (i_iald (qMo_store_31 d mc ms B K)))))))))))
theorem zMo_store_14 {d mc ms : Nat} {B : Nat → Pd} {K : Ps} (hB : ∀ pc, Le (B pc) (G cMo_store "VoyageCompanyModel" 3 (some .int) "store" (rm (d + 1) mc ms) (QM mc ms K) pc)) : Le (qMo_store_14 d mc ms B K) (G cMo_store "VoyageCompanyModel" 3 (some .int) "store" (rm (d + 1) mc ms) (QM mc ms K) 14) := by
  unfold qMo_store_14
  exact (s_ald_n (j := 0) (by decide +kernel) rfl (s_getr (idx := 8) (by decide +kernel) fl12_8 (by decide) (s_bipush (n := 10) (v := 10) (by decide +kernel) (by decide +kernel) (s_iconst (n := 4) (v := 4) (by decide +kernel) (by decide +kernel) (s_ild_n (j := 1) (by decide +kernel) rfl (s_imul (by decide +kernel) (s_iadd (by decide +kernel) (s_ild_n (j := 2) (by decide +kernel) rfl (s_iadd (by decide +kernel) (s_iald (by decide +kernel) (s_goto (off := 4) (tgt := 31) (by decide +kernel) (by decide) (zMo_store_31 hB))))))))))))
def qMo_store_7 (d mc ms : Nat) (B : Nat → Pd) (K : Ps) : Pd := (i_ild 2 (i_call 2 12 yMo_isGood cMo_isGood 1 (some .boolean) mc ms d 1 (i_if_eq (qMo_store_30 d mc ms B K) (qMo_store_14 d mc ms B K))))
theorem zMo_store_7 {d mc ms : Nat} {B : Nat → Pd} {K : Ps} (hB : ∀ pc, Le (B pc) (G cMo_store "VoyageCompanyModel" 3 (some .int) "store" (rm (d + 1) mc ms) (QM mc ms K) pc)) : Le (qMo_store_7 d mc ms B K) (G cMo_store "VoyageCompanyModel" 3 (some .int) "store" (rm (d + 1) mc ms) (QM mc ms K) 7) := by
  unfold qMo_store_7
  exact (s_ild_n (j := 2) (by decide +kernel) rfl (s_call (idx := 148) (by decide +kernel) ml12_148 rmk (s_if_eq (off := 19) (tgt := 30) (by decide +kernel) (by decide) (zMo_store_30 hB) (zMo_store_14 hB))))
def qMo_store_0 (d mc ms : Nat) (B : Nat → Pd) (K : Ps) : Pd := (i_ild 1 (i_call 2 12 yMo_isPort cMo_isPort 1 (some .boolean) mc ms d 1 (i_if_eq (qMo_store_30 d mc ms B K) (qMo_store_7 d mc ms B K))))
theorem zMo_store_0 {d mc ms : Nat} {B : Nat → Pd} {K : Ps} (hB : ∀ pc, Le (B pc) (G cMo_store "VoyageCompanyModel" 3 (some .int) "store" (rm (d + 1) mc ms) (QM mc ms K) pc)) : Le (qMo_store_0 d mc ms B K) (G cMo_store "VoyageCompanyModel" 3 (some .int) "store" (rm (d + 1) mc ms) (QM mc ms K) 0) := by
  unfold qMo_store_0
  exact (s_ild_n (j := 1) (by decide +kernel) rfl (s_call (idx := 216) (by decide +kernel) ml12_216 rmk (s_if_eq (off := 26) (tgt := 30) (by decide +kernel) (by decide) (zMo_store_30 hB) (zMo_store_7 hB))))
/-- VoyageCompanyModel.store(II)I, at its places -/
def gMo_store (d mc ms : Nat) (K : Ps) : Nat → Pd := G cMo_store "VoyageCompanyModel" 3 (some .int) "store" (rm (d + 1) mc ms) (QM mc ms K)
theorem eMo_store {d mc ms : Nat} {K : Ps} {av : List Value} {E : Nat → Prop} {R : Nat → Nat → Value} {I : Nat → Nat → Int32} {J : Nat → Nat → Int64} (hn : (lg_sl av).length ≤ 3) (h : qMo_store_0 d mc ms (gMo_store d mc ms K) K (lv_args 0 av) [] E R I J 0 0) : CL yMo_store cMo_store 3 (some .int) (d + 1) mc ms av E R I J K :=
  CL.of (by decide +kernel) hn (zMo_store_0 (fun _ => Le.refl) _ _ _ _ _ _ _ _ h)
def qMo_price_35 (d mc ms : Nat) (B : Nat → Pd) (K : Ps) : Pd := (i_iret mc ms K)
theorem zMo_price_35 {d mc ms : Nat} {B : Nat → Pd} {K : Ps} (hB : ∀ pc, Le (B pc) (G cMo_price "VoyageCompanyModel" 3 (some .int) "price" (rm (d + 1) mc ms) (QM mc ms K) pc)) : Le (qMo_price_35 d mc ms B K) (G cMo_price "VoyageCompanyModel" 3 (some .int) "price" (rm (d + 1) mc ms) (QM mc ms K) 35) := by
  unfold qMo_price_35
  exact (s_iret (by decide +kernel) rfl)
def qMo_price_34 (d mc ms : Nat) (B : Nat → Pd) (K : Ps) : Pd := (i_ci (-1) (qMo_price_35 d mc ms B K))
theorem zMo_price_34 {d mc ms : Nat} {B : Nat → Pd} {K : Ps} (hB : ∀ pc, Le (B pc) (G cMo_price "VoyageCompanyModel" 3 (some .int) "price" (rm (d + 1) mc ms) (QM mc ms K) pc)) : Le (qMo_price_34 d mc ms B K) (G cMo_price "VoyageCompanyModel" 3 (some .int) "price" (rm (d + 1) mc ms) (QM mc ms K) 34) := by
  unfold qMo_price_34
  exact (s_iconst (n := (-1)) (v := (-1)) (by decide +kernel) (by decide +kernel) (zMo_price_35 hB))
def qMo_price_18 (d mc ms : Nat) (B : Nat → Pd) (K : Ps) : Pd := (i_ald 0 (i_getr 12 0 (i_ci 50 (i_ci 4 (i_ild 1 (i_imul (i_iadd (i_ild 2 (i_iadd (i_iald (qMo_price_35 d mc ms B K)))))))))))
theorem zMo_price_18 {d mc ms : Nat} {B : Nat → Pd} {K : Ps} (hB : ∀ pc, Le (B pc) (G cMo_price "VoyageCompanyModel" 3 (some .int) "price" (rm (d + 1) mc ms) (QM mc ms K) pc)) : Le (qMo_price_18 d mc ms B K) (G cMo_price "VoyageCompanyModel" 3 (some .int) "price" (rm (d + 1) mc ms) (QM mc ms K) 18) := by
  unfold qMo_price_18
  exact (s_ald_n (j := 0) (by decide +kernel) rfl (s_getr (idx := 8) (by decide +kernel) fl12_8 (by decide) (s_bipush (n := 50) (v := 50) (by decide +kernel) (by decide +kernel) (s_iconst (n := 4) (v := 4) (by decide +kernel) (by decide +kernel) (s_ild_n (j := 1) (by decide +kernel) rfl (s_imul (by decide +kernel) (s_iadd (by decide +kernel) (s_ild_n (j := 2) (by decide +kernel) rfl (s_iadd (by decide +kernel) (s_iald (by decide +kernel) (s_goto (off := 4) (tgt := 35) (by decide +kernel) (by decide) (zMo_price_35 hB))))))))))))
def qMo_price_9 (d mc ms : Nat) (B : Nat → Pd) (K : Ps) : Pd := (i_ild 2 (i_ci 1 (i_ci 3 (i_call 2 12 yMo_isIn cMo_isIn 3 (some .boolean) mc ms d 3 (i_if_eq (qMo_price_34 d mc ms B K) (qMo_price_18 d mc ms B K))))))
theorem zMo_price_9 {d mc ms : Nat} {B : Nat → Pd} {K : Ps} (hB : ∀ pc, Le (B pc) (G cMo_price "VoyageCompanyModel" 3 (some .int) "price" (rm (d + 1) mc ms) (QM mc ms K) pc)) : Le (qMo_price_9 d mc ms B K) (G cMo_price "VoyageCompanyModel" 3 (some .int) "price" (rm (d + 1) mc ms) (QM mc ms K) 9) := by
  unfold qMo_price_9
  exact (s_ild_n (j := 2) (by decide +kernel) rfl (s_iconst (n := 1) (v := 1) (by decide +kernel) (by decide +kernel) (s_iconst (n := 3) (v := 3) (by decide +kernel) (by decide +kernel) (s_call (idx := 25) (by decide +kernel) ml12_25 rmk (s_if_eq (off := 19) (tgt := 34) (by decide +kernel) (by decide) (zMo_price_34 hB) (zMo_price_18 hB))))))
def qMo_price_0 (d mc ms : Nat) (B : Nat → Pd) (K : Ps) : Pd := (i_ild 1 (i_ci 1 (i_ci 4 (i_call 2 12 yMo_isIn cMo_isIn 3 (some .boolean) mc ms d 3 (i_if_eq (qMo_price_34 d mc ms B K) (qMo_price_9 d mc ms B K))))))
theorem zMo_price_0 {d mc ms : Nat} {B : Nat → Pd} {K : Ps} (hB : ∀ pc, Le (B pc) (G cMo_price "VoyageCompanyModel" 3 (some .int) "price" (rm (d + 1) mc ms) (QM mc ms K) pc)) : Le (qMo_price_0 d mc ms B K) (G cMo_price "VoyageCompanyModel" 3 (some .int) "price" (rm (d + 1) mc ms) (QM mc ms K) 0) := by
  unfold qMo_price_0
  exact (s_ild_n (j := 1) (by decide +kernel) rfl (s_iconst (n := 1) (v := 1) (by decide +kernel) (by decide +kernel) (s_iconst (n := 4) (v := 4) (by decide +kernel) (by decide +kernel) (s_call (idx := 25) (by decide +kernel) ml12_25 rmk (s_if_eq (off := 28) (tgt := 34) (by decide +kernel) (by decide) (zMo_price_34 hB) (zMo_price_9 hB))))))
/-- VoyageCompanyModel.price(II)I, at its places -/
def gMo_price (d mc ms : Nat) (K : Ps) : Nat → Pd := G cMo_price "VoyageCompanyModel" 3 (some .int) "price" (rm (d + 1) mc ms) (QM mc ms K)
theorem eMo_price {d mc ms : Nat} {K : Ps} {av : List Value} {E : Nat → Prop} {R : Nat → Nat → Value} {I : Nat → Nat → Int32} {J : Nat → Nat → Int64} (hn : (lg_sl av).length ≤ 3) (h : qMo_price_0 d mc ms (gMo_price d mc ms K) K (lv_args 0 av) [] E R I J 0 0) : CL yMo_price cMo_price 3 (some .int) (d + 1) mc ms av E R I J K :=
  CL.of (by decide +kernel) hn (zMo_price_0 (fun _ => Le.refl) _ _ _ _ _ _ _ _ h)
def qMo_tell_135 (d mc ms : Nat) (B : Nat → Pd) (K : Ps) : Pd := (i_ci (-9) (i_iret mc ms K))
theorem zMo_tell_135 {d mc ms : Nat} {B : Nat → Pd} {K : Ps} (hB : ∀ pc, Le (B pc) (G cMo_tell "VoyageCompanyModel" 3 (some .int) "tell" (rm (d + 1) mc ms) (QM mc ms K) pc)) : Le (qMo_tell_135 d mc ms B K) (G cMo_tell "VoyageCompanyModel" 3 (some .int) "tell" (rm (d + 1) mc ms) (QM mc ms K) 135) := by
  unfold qMo_tell_135
  exact (s_bipush (n := (-9)) (v := (-9)) (by decide +kernel) (by decide +kernel) (s_iret (by decide +kernel) rfl))
def qMo_tell_128 (d mc ms : Nat) (B : Nat → Pd) (K : Ps) : Pd := (i_ald 0 (i_ild 1 (i_ild 2 (i_call 0 12 yMo_of cMo_of 3 (some .int) mc ms d 3 (i_iret mc ms K)))))
theorem zMo_tell_128 {d mc ms : Nat} {B : Nat → Pd} {K : Ps} (hB : ∀ pc, Le (B pc) (G cMo_tell "VoyageCompanyModel" 3 (some .int) "tell" (rm (d + 1) mc ms) (QM mc ms K) pc)) : Le (qMo_tell_128 d mc ms B K) (G cMo_tell "VoyageCompanyModel" 3 (some .int) "tell" (rm (d + 1) mc ms) (QM mc ms K) 128) := by
  unfold qMo_tell_128
  exact (s_ald_n (j := 0) (by decide +kernel) rfl (s_ild_n (j := 1) (by decide +kernel) rfl (s_ild_n (j := 2) (by decide +kernel) rfl (s_call (idx := 138) (by decide +kernel) ml12_138 rmk (s_iret (by decide +kernel) rfl)))))
def qMo_tell_120 (d mc ms : Nat) (B : Nat → Pd) (K : Ps) : Pd := (i_ald 0 (i_ild 1 (i_ci 9 (i_call 0 12 yMo_of cMo_of 3 (some .int) mc ms d 3 (i_iret mc ms K)))))
theorem zMo_tell_120 {d mc ms : Nat} {B : Nat → Pd} {K : Ps} (hB : ∀ pc, Le (B pc) (G cMo_tell "VoyageCompanyModel" 3 (some .int) "tell" (rm (d + 1) mc ms) (QM mc ms K) pc)) : Le (qMo_tell_120 d mc ms B K) (G cMo_tell "VoyageCompanyModel" 3 (some .int) "tell" (rm (d + 1) mc ms) (QM mc ms K) 120) := by
  unfold qMo_tell_120
  exact (s_ald_n (j := 0) (by decide +kernel) rfl (s_ild_n (j := 1) (by decide +kernel) rfl (s_bipush (n := 9) (v := 9) (by decide +kernel) (by decide +kernel) (s_call (idx := 138) (by decide +kernel) ml12_138 rmk (s_iret (by decide +kernel) rfl)))))
def qMo_tell_112 (d mc ms : Nat) (B : Nat → Pd) (K : Ps) : Pd := (i_ald 0 (i_ild 1 (i_ci 8 (i_call 0 12 yMo_of cMo_of 3 (some .int) mc ms d 3 (i_iret mc ms K)))))
theorem zMo_tell_112 {d mc ms : Nat} {B : Nat → Pd} {K : Ps} (hB : ∀ pc, Le (B pc) (G cMo_tell "VoyageCompanyModel" 3 (some .int) "tell" (rm (d + 1) mc ms) (QM mc ms K) pc)) : Le (qMo_tell_112 d mc ms B K) (G cMo_tell "VoyageCompanyModel" 3 (some .int) "tell" (rm (d + 1) mc ms) (QM mc ms K) 112) := by
  unfold qMo_tell_112
  exact (s_ald_n (j := 0) (by decide +kernel) rfl (s_ild_n (j := 1) (by decide +kernel) rfl (s_bipush (n := 8) (v := 8) (by decide +kernel) (by decide +kernel) (s_call (idx := 138) (by decide +kernel) ml12_138 rmk (s_iret (by decide +kernel) rfl)))))
def qMo_tell_106 (d mc ms : Nat) (B : Nat → Pd) (K : Ps) : Pd := (i_ald 0 (i_ild 1 (i_call 0 12 yMo_roomOf cMo_roomOf 2 (some .int) mc ms d 2 (i_iret mc ms K))))
theorem zMo_tell_106 {d mc ms : Nat} {B : Nat → Pd} {K : Ps} (hB : ∀ pc, Le (B pc) (G cMo_tell "VoyageCompanyModel" 3 (some .int) "tell" (rm (d + 1) mc ms) (QM mc ms K) pc)) : Le (qMo_tell_106 d mc ms B K) (G cMo_tell "VoyageCompanyModel" 3 (some .int) "tell" (rm (d + 1) mc ms) (QM mc ms K) 106) := by
  unfold qMo_tell_106
  exact (s_ald_n (j := 0) (by decide +kernel) rfl (s_ild_n (j := 1) (by decide +kernel) rfl (s_call (idx := 157) (by decide +kernel) ml12_157 rmk (s_iret (by decide +kernel) rfl))))
def qMo_tell_98 (d mc ms : Nat) (B : Nat → Pd) (K : Ps) : Pd := (i_ald 0 (i_ild 1 (i_ci 6 (i_call 0 12 yMo_of cMo_of 3 (some .int) mc ms d 3 (i_iret mc ms K)))))
theorem zMo_tell_98 {d mc ms : Nat} {B : Nat → Pd} {K : Ps} (hB : ∀ pc, Le (B pc) (G cMo_tell "VoyageCompanyModel" 3 (some .int) "tell" (rm (d + 1) mc ms) (QM mc ms K) pc)) : Le (qMo_tell_98 d mc ms B K) (G cMo_tell "VoyageCompanyModel" 3 (some .int) "tell" (rm (d + 1) mc ms) (QM mc ms K) 98) := by
  unfold qMo_tell_98
  exact (s_ald_n (j := 0) (by decide +kernel) rfl (s_ild_n (j := 1) (by decide +kernel) rfl (s_bipush (n := 6) (v := 6) (by decide +kernel) (by decide +kernel) (s_call (idx := 138) (by decide +kernel) ml12_138 rmk (s_iret (by decide +kernel) rfl)))))
def qMo_tell_91 (d mc ms : Nat) (B : Nat → Pd) (K : Ps) : Pd := (i_ald 0 (i_ild 1 (i_ci 5 (i_call 0 12 yMo_of cMo_of 3 (some .int) mc ms d 3 (i_iret mc ms K)))))
theorem zMo_tell_91 {d mc ms : Nat} {B : Nat → Pd} {K : Ps} (hB : ∀ pc, Le (B pc) (G cMo_tell "VoyageCompanyModel" 3 (some .int) "tell" (rm (d + 1) mc ms) (QM mc ms K) pc)) : Le (qMo_tell_91 d mc ms B K) (G cMo_tell "VoyageCompanyModel" 3 (some .int) "tell" (rm (d + 1) mc ms) (QM mc ms K) 91) := by
  unfold qMo_tell_91
  exact (s_ald_n (j := 0) (by decide +kernel) rfl (s_ild_n (j := 1) (by decide +kernel) rfl (s_iconst (n := 5) (v := 5) (by decide +kernel) (by decide +kernel) (s_call (idx := 138) (by decide +kernel) ml12_138 rmk (s_iret (by decide +kernel) rfl)))))
def qMo_tell_84 (d mc ms : Nat) (B : Nat → Pd) (K : Ps) : Pd := (i_ald 0 (i_ild 1 (i_ci 4 (i_call 0 12 yMo_of cMo_of 3 (some .int) mc ms d 3 (i_iret mc ms K)))))
theorem zMo_tell_84 {d mc ms : Nat} {B : Nat → Pd} {K : Ps} (hB : ∀ pc, Le (B pc) (G cMo_tell "VoyageCompanyModel" 3 (some .int) "tell" (rm (d + 1) mc ms) (QM mc ms K) pc)) : Le (qMo_tell_84 d mc ms B K) (G cMo_tell "VoyageCompanyModel" 3 (some .int) "tell" (rm (d + 1) mc ms) (QM mc ms K) 84) := by
  unfold qMo_tell_84
  exact (s_ald_n (j := 0) (by decide +kernel) rfl (s_ild_n (j := 1) (by decide +kernel) rfl (s_iconst (n := 4) (v := 4) (by decide +kernel) (by decide +kernel) (s_call (idx := 138) (by decide +kernel) ml12_138 rmk (s_iret (by decide +kernel) rfl)))))
def qMo_tell_11 (d mc ms : Nat) (B : Nat → Pd) (K : Ps) : Pd := (i_ild 2 (i_sw [(0, (qMo_tell_84 d mc ms B K)), (1, (qMo_tell_91 d mc ms B K)), (2, (qMo_tell_98 d mc ms B K)), (3, (qMo_tell_106 d mc ms B K)), (4, (qMo_tell_112 d mc ms B K)), (5, (qMo_tell_120 d mc ms B K)), (6, (qMo_tell_135 d mc ms B K)), (7, (qMo_tell_135 d mc ms B K)), (8, (qMo_tell_135 d mc ms B K)), (9, (qMo_tell_135 d mc ms B K)), (10, (qMo_tell_128 d mc ms B K)), (11, (qMo_tell_128 d mc ms B K)), (12, (qMo_tell_128 d mc ms B K)), (13, (qMo_tell_128 d mc ms B K))] (qMo_tell_135 d mc ms B K)))
theorem zMo_tell_11 {d mc ms : Nat} {B : Nat → Pd} {K : Ps} (hB : ∀ pc, Le (B pc) (G cMo_tell "VoyageCompanyModel" 3 (some .int) "tell" (rm (d + 1) mc ms) (QM mc ms K) pc)) : Le (qMo_tell_11 d mc ms B K) (G cMo_tell "VoyageCompanyModel" 3 (some .int) "tell" (rm (d + 1) mc ms) (QM mc ms K) 11) := by
  unfold qMo_tell_11
  exact (s_ild_n (j := 2) (by decide +kernel) rfl (s_sw (fun x => by
    by_cases h0 : x = 0
    · subst h0
      exact ⟨84, sw_in (dflt := 123) (lo := 0) (hi := 13) (offs := #[72, 79, 86, 94, 100, 108, 123, 123, 123, 123, 116, 116, 116, 116]) (len := 72) (off := 72) (by decide +kernel) (by decide +kernel) (by decide +kernel) (by decide +kernel) (by decide +kernel), by simpa [swp] using (zMo_tell_84 hB)⟩
    by_cases h1 : x = 1
    · subst h1
      exact ⟨91, sw_in (dflt := 123) (lo := 0) (hi := 13) (offs := #[72, 79, 86, 94, 100, 108, 123, 123, 123, 123, 116, 116, 116, 116]) (len := 72) (off := 79) (by decide +kernel) (by decide +kernel) (by decide +kernel) (by decide +kernel) (by decide +kernel), by simpa [swp] using (zMo_tell_91 hB)⟩
    by_cases h2 : x = 2
    · subst h2
      exact ⟨98, sw_in (dflt := 123) (lo := 0) (hi := 13) (offs := #[72, 79, 86, 94, 100, 108, 123, 123, 123, 123, 116, 116, 116, 116]) (len := 72) (off := 86) (by decide +kernel) (by decide +kernel) (by decide +kernel) (by decide +kernel) (by decide +kernel), by simpa [swp] using (zMo_tell_98 hB)⟩
    by_cases h3 : x = 3
    · subst h3
      exact ⟨106, sw_in (dflt := 123) (lo := 0) (hi := 13) (offs := #[72, 79, 86, 94, 100, 108, 123, 123, 123, 123, 116, 116, 116, 116]) (len := 72) (off := 94) (by decide +kernel) (by decide +kernel) (by decide +kernel) (by decide +kernel) (by decide +kernel), by simpa [swp] using (zMo_tell_106 hB)⟩
    by_cases h4 : x = 4
    · subst h4
      exact ⟨112, sw_in (dflt := 123) (lo := 0) (hi := 13) (offs := #[72, 79, 86, 94, 100, 108, 123, 123, 123, 123, 116, 116, 116, 116]) (len := 72) (off := 100) (by decide +kernel) (by decide +kernel) (by decide +kernel) (by decide +kernel) (by decide +kernel), by simpa [swp] using (zMo_tell_112 hB)⟩
    by_cases h5 : x = 5
    · subst h5
      exact ⟨120, sw_in (dflt := 123) (lo := 0) (hi := 13) (offs := #[72, 79, 86, 94, 100, 108, 123, 123, 123, 123, 116, 116, 116, 116]) (len := 72) (off := 108) (by decide +kernel) (by decide +kernel) (by decide +kernel) (by decide +kernel) (by decide +kernel), by simpa [swp] using (zMo_tell_120 hB)⟩
    by_cases h6 : x = 6
    · subst h6
      exact ⟨135, sw_in (dflt := 123) (lo := 0) (hi := 13) (offs := #[72, 79, 86, 94, 100, 108, 123, 123, 123, 123, 116, 116, 116, 116]) (len := 72) (off := 123) (by decide +kernel) (by decide +kernel) (by decide +kernel) (by decide +kernel) (by decide +kernel), by simpa [swp] using (zMo_tell_135 hB)⟩
    by_cases h7 : x = 7
    · subst h7
      exact ⟨135, sw_in (dflt := 123) (lo := 0) (hi := 13) (offs := #[72, 79, 86, 94, 100, 108, 123, 123, 123, 123, 116, 116, 116, 116]) (len := 72) (off := 123) (by decide +kernel) (by decide +kernel) (by decide +kernel) (by decide +kernel) (by decide +kernel), by simpa [swp] using (zMo_tell_135 hB)⟩
    by_cases h8 : x = 8
    · subst h8
      exact ⟨135, sw_in (dflt := 123) (lo := 0) (hi := 13) (offs := #[72, 79, 86, 94, 100, 108, 123, 123, 123, 123, 116, 116, 116, 116]) (len := 72) (off := 123) (by decide +kernel) (by decide +kernel) (by decide +kernel) (by decide +kernel) (by decide +kernel), by simpa [swp] using (zMo_tell_135 hB)⟩
    by_cases h9 : x = 9
    · subst h9
      exact ⟨135, sw_in (dflt := 123) (lo := 0) (hi := 13) (offs := #[72, 79, 86, 94, 100, 108, 123, 123, 123, 123, 116, 116, 116, 116]) (len := 72) (off := 123) (by decide +kernel) (by decide +kernel) (by decide +kernel) (by decide +kernel) (by decide +kernel), by simpa [swp] using (zMo_tell_135 hB)⟩
    by_cases h10 : x = 10
    · subst h10
      exact ⟨128, sw_in (dflt := 123) (lo := 0) (hi := 13) (offs := #[72, 79, 86, 94, 100, 108, 123, 123, 123, 123, 116, 116, 116, 116]) (len := 72) (off := 116) (by decide +kernel) (by decide +kernel) (by decide +kernel) (by decide +kernel) (by decide +kernel), by simpa [swp] using (zMo_tell_128 hB)⟩
    by_cases h11 : x = 11
    · subst h11
      exact ⟨128, sw_in (dflt := 123) (lo := 0) (hi := 13) (offs := #[72, 79, 86, 94, 100, 108, 123, 123, 123, 123, 116, 116, 116, 116]) (len := 72) (off := 116) (by decide +kernel) (by decide +kernel) (by decide +kernel) (by decide +kernel) (by decide +kernel), by simpa [swp] using (zMo_tell_128 hB)⟩
    by_cases h12 : x = 12
    · subst h12
      exact ⟨128, sw_in (dflt := 123) (lo := 0) (hi := 13) (offs := #[72, 79, 86, 94, 100, 108, 123, 123, 123, 123, 116, 116, 116, 116]) (len := 72) (off := 116) (by decide +kernel) (by decide +kernel) (by decide +kernel) (by decide +kernel) (by decide +kernel), by simpa [swp] using (zMo_tell_128 hB)⟩
    by_cases h13 : x = 13
    · subst h13
      exact ⟨128, sw_in (dflt := 123) (lo := 0) (hi := 13) (offs := #[72, 79, 86, 94, 100, 108, 123, 123, 123, 123, 116, 116, 116, 116]) (len := 72) (off := 116) (by decide +kernel) (by decide +kernel) (by decide +kernel) (by decide +kernel) (by decide +kernel), by simpa [swp] using (zMo_tell_128 hB)⟩
    have g0 := i32_ne (z := 0) (by decide +kernel) h0
    have g1 := i32_ne (z := 1) (by decide +kernel) h1
    have g2 := i32_ne (z := 2) (by decide +kernel) h2
    have g3 := i32_ne (z := 3) (by decide +kernel) h3
    have g4 := i32_ne (z := 4) (by decide +kernel) h4
    have g5 := i32_ne (z := 5) (by decide +kernel) h5
    have g6 := i32_ne (z := 6) (by decide +kernel) h6
    have g7 := i32_ne (z := 7) (by decide +kernel) h7
    have g8 := i32_ne (z := 8) (by decide +kernel) h8
    have g9 := i32_ne (z := 9) (by decide +kernel) h9
    have g10 := i32_ne (z := 10) (by decide +kernel) h10
    have g11 := i32_ne (z := 11) (by decide +kernel) h11
    have g12 := i32_ne (z := 12) (by decide +kernel) h12
    have g13 := i32_ne (z := 13) (by decide +kernel) h13
    exact ⟨135, sw_out (dflt := 123) (lo := 0) (hi := 13) (offs := #[72, 79, 86, 94, 100, 108, 123, 123, 123, 123, 116, 116, 116, 116]) (len := 72) (by decide +kernel) (by omega) (by decide +kernel), by simpa [swp, h0, h1, h2, h3, h4, h5, h6, h7, h8, h9, h10, h11, h12, h13] using (zMo_tell_135 hB)⟩)))
def qMo_tell_8 (d mc ms : Nat) (B : Nat → Pd) (K : Ps) : Pd := (i_ci (-9) (i_iret mc ms K))
theorem zMo_tell_8 {d mc ms : Nat} {B : Nat → Pd} {K : Ps} (hB : ∀ pc, Le (B pc) (G cMo_tell "VoyageCompanyModel" 3 (some .int) "tell" (rm (d + 1) mc ms) (QM mc ms K) pc)) : Le (qMo_tell_8 d mc ms B K) (G cMo_tell "VoyageCompanyModel" 3 (some .int) "tell" (rm (d + 1) mc ms) (QM mc ms K) 8) := by
  unfold qMo_tell_8
  exact (s_bipush (n := (-9)) (v := (-9)) (by decide +kernel) (by decide +kernel) (s_iret (by decide +kernel) rfl))
def qMo_tell_0 (d mc ms : Nat) (B : Nat → Pd) (K : Ps) : Pd := (i_ald 0 (i_ild 1 (i_call 0 12 yMo_isShip cMo_isShip 2 (some .boolean) mc ms d 2 (i_if_ne (qMo_tell_11 d mc ms B K) (qMo_tell_8 d mc ms B K)))))
theorem zMo_tell_0 {d mc ms : Nat} {B : Nat → Pd} {K : Ps} (hB : ∀ pc, Le (B pc) (G cMo_tell "VoyageCompanyModel" 3 (some .int) "tell" (rm (d + 1) mc ms) (QM mc ms K) pc)) : Le (qMo_tell_0 d mc ms B K) (G cMo_tell "VoyageCompanyModel" 3 (some .int) "tell" (rm (d + 1) mc ms) (QM mc ms K) 0) := by
  unfold qMo_tell_0
  exact (s_ald_n (j := 0) (by decide +kernel) rfl (s_ild_n (j := 1) (by decide +kernel) rfl (s_call (idx := 135) (by decide +kernel) ml12_135 rmk (s_if_ne (off := 6) (tgt := 11) (by decide +kernel) (by decide) (zMo_tell_11 hB) (zMo_tell_8 hB)))))
/-- VoyageCompanyModel.tell(II)I, at its places -/
def gMo_tell (d mc ms : Nat) (K : Ps) : Nat → Pd := G cMo_tell "VoyageCompanyModel" 3 (some .int) "tell" (rm (d + 1) mc ms) (QM mc ms K)
theorem eMo_tell {d mc ms : Nat} {K : Ps} {av : List Value} {E : Nat → Prop} {R : Nat → Nat → Value} {I : Nat → Nat → Int32} {J : Nat → Nat → Int64} (hn : (lg_sl av).length ≤ 3) (h : qMo_tell_0 d mc ms (gMo_tell d mc ms K) K (lv_args 0 av) [] E R I J 0 0) : CL yMo_tell cMo_tell 3 (some .int) (d + 1) mc ms av E R I J K :=
  CL.of (by decide +kernel) hn (zMo_tell_0 (fun _ => Le.refl) _ _ _ _ _ _ _ _ h)
def qMo_factor_36 (d mc ms : Nat) (B : Nat → Pd) (K : Ps) : Pd := (i_iret mc ms K)
theorem zMo_factor_36 {d mc ms : Nat} {B : Nat → Pd} {K : Ps} (hB : ∀ pc, Le (B pc) (G cMo_factor "VoyageCompanyModel" 3 (some .int) "factor" (rm (d + 1) mc ms) (QM mc ms K) pc)) : Le (qMo_factor_36 d mc ms B K) (G cMo_factor "VoyageCompanyModel" 3 (some .int) "factor" (rm (d + 1) mc ms) (QM mc ms K) 36) := by
  unfold qMo_factor_36
  exact (s_iret (by decide +kernel) rfl)
def qMo_factor_35 (d mc ms : Nat) (B : Nat → Pd) (K : Ps) : Pd := (i_ci (-1) (qMo_factor_36 d mc ms B K))
theorem zMo_factor_35 {d mc ms : Nat} {B : Nat → Pd} {K : Ps} (hB : ∀ pc, Le (B pc) (G cMo_factor "VoyageCompanyModel" 3 (some .int) "factor" (rm (d + 1) mc ms) (QM mc ms K) pc)) : Le (qMo_factor_35 d mc ms B K) (G cMo_factor "VoyageCompanyModel" 3 (some .int) "factor" (rm (d + 1) mc ms) (QM mc ms K) 35) := by
  unfold qMo_factor_35
  exact (s_iconst (n := (-1)) (v := (-1)) (by decide +kernel) (by decide +kernel) (zMo_factor_36 hB))
def qMo_factor_18 (d mc ms : Nat) (B : Nat → Pd) (K : Ps) : Pd := (i_ald 0 (i_getr 12 0 (i_ci 320 (i_ci 4 (i_ild 1 (i_imul (i_iadd (i_ild 2 (i_iadd (i_iald (qMo_factor_36 d mc ms B K)))))))))))
theorem zMo_factor_18 {d mc ms : Nat} {B : Nat → Pd} {K : Ps} (hB : ∀ pc, Le (B pc) (G cMo_factor "VoyageCompanyModel" 3 (some .int) "factor" (rm (d + 1) mc ms) (QM mc ms K) pc)) : Le (qMo_factor_18 d mc ms B K) (G cMo_factor "VoyageCompanyModel" 3 (some .int) "factor" (rm (d + 1) mc ms) (QM mc ms K) 18) := by
  unfold qMo_factor_18
  exact (s_ald_n (j := 0) (by decide +kernel) rfl (s_getr (idx := 8) (by decide +kernel) fl12_8 (by decide) (s_sipush (n := 320) (v := 320) (by decide +kernel) (by decide +kernel) (s_iconst (n := 4) (v := 4) (by decide +kernel) (by decide +kernel) (s_ild_n (j := 1) (by decide +kernel) rfl (s_imul (by decide +kernel) (s_iadd (by decide +kernel) (s_ild_n (j := 2) (by decide +kernel) rfl (s_iadd (by decide +kernel) (s_iald (by decide +kernel) (s_goto (off := 4) (tgt := 36) (by decide +kernel) (by decide) (zMo_factor_36 hB))))))))))))
def qMo_factor_9 (d mc ms : Nat) (B : Nat → Pd) (K : Ps) : Pd := (i_ild 2 (i_ci 0 (i_ci 2 (i_call 2 12 yMo_isIn cMo_isIn 3 (some .boolean) mc ms d 3 (i_if_eq (qMo_factor_35 d mc ms B K) (qMo_factor_18 d mc ms B K))))))
theorem zMo_factor_9 {d mc ms : Nat} {B : Nat → Pd} {K : Ps} (hB : ∀ pc, Le (B pc) (G cMo_factor "VoyageCompanyModel" 3 (some .int) "factor" (rm (d + 1) mc ms) (QM mc ms K) pc)) : Le (qMo_factor_9 d mc ms B K) (G cMo_factor "VoyageCompanyModel" 3 (some .int) "factor" (rm (d + 1) mc ms) (QM mc ms K) 9) := by
  unfold qMo_factor_9
  exact (s_ild_n (j := 2) (by decide +kernel) rfl (s_iconst (n := 0) (v := 0) (by decide +kernel) (by decide +kernel) (s_iconst (n := 2) (v := 2) (by decide +kernel) (by decide +kernel) (s_call (idx := 25) (by decide +kernel) ml12_25 rmk (s_if_eq (off := 20) (tgt := 35) (by decide +kernel) (by decide) (zMo_factor_35 hB) (zMo_factor_18 hB))))))
def qMo_factor_0 (d mc ms : Nat) (B : Nat → Pd) (K : Ps) : Pd := (i_ild 1 (i_ci 1 (i_ci 4 (i_call 2 12 yMo_isIn cMo_isIn 3 (some .boolean) mc ms d 3 (i_if_eq (qMo_factor_35 d mc ms B K) (qMo_factor_9 d mc ms B K))))))
theorem zMo_factor_0 {d mc ms : Nat} {B : Nat → Pd} {K : Ps} (hB : ∀ pc, Le (B pc) (G cMo_factor "VoyageCompanyModel" 3 (some .int) "factor" (rm (d + 1) mc ms) (QM mc ms K) pc)) : Le (qMo_factor_0 d mc ms B K) (G cMo_factor "VoyageCompanyModel" 3 (some .int) "factor" (rm (d + 1) mc ms) (QM mc ms K) 0) := by
  unfold qMo_factor_0
  exact (s_ild_n (j := 1) (by decide +kernel) rfl (s_iconst (n := 1) (v := 1) (by decide +kernel) (by decide +kernel) (s_iconst (n := 4) (v := 4) (by decide +kernel) (by decide +kernel) (s_call (idx := 25) (by decide +kernel) ml12_25 rmk (s_if_eq (off := 29) (tgt := 35) (by decide +kernel) (by decide) (zMo_factor_35 hB) (zMo_factor_9 hB))))))
/-- VoyageCompanyModel.factor(II)I, at its places -/
def gMo_factor (d mc ms : Nat) (K : Ps) : Nat → Pd := G cMo_factor "VoyageCompanyModel" 3 (some .int) "factor" (rm (d + 1) mc ms) (QM mc ms K)
theorem eMo_factor {d mc ms : Nat} {K : Ps} {av : List Value} {E : Nat → Prop} {R : Nat → Nat → Value} {I : Nat → Nat → Int32} {J : Nat → Nat → Int64} (hn : (lg_sl av).length ≤ 3) (h : qMo_factor_0 d mc ms (gMo_factor d mc ms K) K (lv_args 0 av) [] E R I J 0 0) : CL yMo_factor cMo_factor 3 (some .int) (d + 1) mc ms av E R I J K :=
  CL.of (by decide +kernel) hn (zMo_factor_0 (fun _ => Le.refl) _ _ _ _ _ _ _ _ h)
def qMo_noted_53 (d mc ms : Nat) (B : Nat → Pd) (K : Ps) : Pd := (i_iret mc ms K)
theorem zMo_noted_53 {d mc ms : Nat} {B : Nat → Pd} {K : Ps} (hB : ∀ pc, Le (B pc) (G cMo_noted "VoyageCompanyModel" 4 (some .int) "noted" (rm (d + 1) mc ms) (QM mc ms K) pc)) : Le (qMo_noted_53 d mc ms B K) (G cMo_noted "VoyageCompanyModel" 4 (some .int) "noted" (rm (d + 1) mc ms) (QM mc ms K) 53) := by
  unfold qMo_noted_53
  exact (s_iret (by decide +kernel) rfl)
def qMo_noted_52 (d mc ms : Nat) (B : Nat → Pd) (K : Ps) : Pd := (i_ci (-1) (qMo_noted_53 d mc ms B K))
theorem zMo_noted_52 {d mc ms : Nat} {B : Nat → Pd} {K : Ps} (hB : ∀ pc, Le (B pc) (G cMo_noted "VoyageCompanyModel" 4 (some .int) "noted" (rm (d + 1) mc ms) (QM mc ms K) pc)) : Le (qMo_noted_52 d mc ms B K) (G cMo_noted "VoyageCompanyModel" 4 (some .int) "noted" (rm (d + 1) mc ms) (QM mc ms K) 52) := by
  unfold qMo_noted_52
  exact (s_iconst (n := (-1)) (v := (-1)) (by decide +kernel) (by decide +kernel) (zMo_noted_53 hB))
def qMo_noted_30 (d mc ms : Nat) (B : Nat → Pd) (K : Ps) : Pd := (i_ald 0 (i_getr 12 0 (i_ci 5100 (i_ci 20 (i_ild 3 (i_imul (i_iadd (i_ci 4 (i_ild 1 (i_imul (i_iadd (i_ild 2 (i_iadd (i_iald (qMo_noted_53 d mc ms B K)))))))))))))))
theorem zMo_noted_30 {d mc ms : Nat} {B : Nat → Pd} {K : Ps} (hB : ∀ pc, Le (B pc) (G cMo_noted "VoyageCompanyModel" 4 (some .int) "noted" (rm (d + 1) mc ms) (QM mc ms K) pc)) : Le (qMo_noted_30 d mc ms B K) (G cMo_noted "VoyageCompanyModel" 4 (some .int) "noted" (rm (d + 1) mc ms) (QM mc ms K) 30) := by
  unfold qMo_noted_30
  exact (s_ald_n (j := 0) (by decide +kernel) rfl (s_getr (idx := 8) (by decide +kernel) fl12_8 (by decide) (s_sipush (n := 5100) (v := 5100) (by decide +kernel) (by decide +kernel) (s_bipush (n := 20) (v := 20) (by decide +kernel) (by decide +kernel) (s_ild_n (j := 3) (by decide +kernel) rfl (s_imul (by decide +kernel) (s_iadd (by decide +kernel) (s_iconst (n := 4) (v := 4) (by decide +kernel) (by decide +kernel) (s_ild_n (j := 1) (by decide +kernel) rfl (s_imul (by decide +kernel) (s_iadd (by decide +kernel) (s_ild_n (j := 2) (by decide +kernel) rfl (s_iadd (by decide +kernel) (s_iald (by decide +kernel) (s_goto (off := 4) (tgt := 53) (by decide +kernel) (by decide) (zMo_noted_53 hB))))))))))))))))
def qMo_noted_14 (d mc ms : Nat) (B : Nat → Pd) (K : Ps) : Pd := (i_ild 3 (i_ci 0 (i_ald 0 (i_getr 12 0 (i_ci 0 (i_iald (i_ci 1 (i_isub (i_call 2 12 yMo_isIn cMo_isIn 3 (some .boolean) mc ms d 3 (i_if_eq (qMo_noted_52 d mc ms B K) (qMo_noted_30 d mc ms B K)))))))))))
theorem zMo_noted_14 {d mc ms : Nat} {B : Nat → Pd} {K : Ps} (hB : ∀ pc, Le (B pc) (G cMo_noted "VoyageCompanyModel" 4 (some .int) "noted" (rm (d + 1) mc ms) (QM mc ms K) pc)) : Le (qMo_noted_14 d mc ms B K) (G cMo_noted "VoyageCompanyModel" 4 (some .int) "noted" (rm (d + 1) mc ms) (QM mc ms K) 14) := by
  unfold qMo_noted_14
  exact (s_ild_n (j := 3) (by decide +kernel) rfl (s_iconst (n := 0) (v := 0) (by decide +kernel) (by decide +kernel) (s_ald_n (j := 0) (by decide +kernel) rfl (s_getr (idx := 8) (by decide +kernel) fl12_8 (by decide) (s_iconst (n := 0) (v := 0) (by decide +kernel) (by decide +kernel) (s_iald (by decide +kernel) (s_iconst (n := 1) (v := 1) (by decide +kernel) (by decide +kernel) (s_isub (by decide +kernel) (s_call (idx := 25) (by decide +kernel) ml12_25 rmk (s_if_eq (off := 25) (tgt := 52) (by decide +kernel) (by decide) (zMo_noted_52 hB) (zMo_noted_30 hB)))))))))))
def qMo_noted_7 (d mc ms : Nat) (B : Nat → Pd) (K : Ps) : Pd := (i_ild 2 (i_call 2 12 yMo_isGood cMo_isGood 1 (some .boolean) mc ms d 1 (i_if_eq (qMo_noted_52 d mc ms B K) (qMo_noted_14 d mc ms B K))))
theorem zMo_noted_7 {d mc ms : Nat} {B : Nat → Pd} {K : Ps} (hB : ∀ pc, Le (B pc) (G cMo_noted "VoyageCompanyModel" 4 (some .int) "noted" (rm (d + 1) mc ms) (QM mc ms K) pc)) : Le (qMo_noted_7 d mc ms B K) (G cMo_noted "VoyageCompanyModel" 4 (some .int) "noted" (rm (d + 1) mc ms) (QM mc ms K) 7) := by
  unfold qMo_noted_7
  exact (s_ild_n (j := 2) (by decide +kernel) rfl (s_call (idx := 148) (by decide +kernel) ml12_148 rmk (s_if_eq (off := 41) (tgt := 52) (by decide +kernel) (by decide) (zMo_noted_52 hB) (zMo_noted_14 hB))))
def qMo_noted_0 (d mc ms : Nat) (B : Nat → Pd) (K : Ps) : Pd := (i_ild 1 (i_call 2 12 yMo_isPort cMo_isPort 1 (some .boolean) mc ms d 1 (i_if_eq (qMo_noted_52 d mc ms B K) (qMo_noted_7 d mc ms B K))))
theorem zMo_noted_0 {d mc ms : Nat} {B : Nat → Pd} {K : Ps} (hB : ∀ pc, Le (B pc) (G cMo_noted "VoyageCompanyModel" 4 (some .int) "noted" (rm (d + 1) mc ms) (QM mc ms K) pc)) : Le (qMo_noted_0 d mc ms B K) (G cMo_noted "VoyageCompanyModel" 4 (some .int) "noted" (rm (d + 1) mc ms) (QM mc ms K) 0) := by
  unfold qMo_noted_0
  exact (s_ild_n (j := 1) (by decide +kernel) rfl (s_call (idx := 216) (by decide +kernel) ml12_216 rmk (s_if_eq (off := 48) (tgt := 52) (by decide +kernel) (by decide) (zMo_noted_52 hB) (zMo_noted_7 hB))))
/-- VoyageCompanyModel.noted(III)I, at its places -/
def gMo_noted (d mc ms : Nat) (K : Ps) : Nat → Pd := G cMo_noted "VoyageCompanyModel" 4 (some .int) "noted" (rm (d + 1) mc ms) (QM mc ms K)
theorem eMo_noted {d mc ms : Nat} {K : Ps} {av : List Value} {E : Nat → Prop} {R : Nat → Nat → Value} {I : Nat → Nat → Int32} {J : Nat → Nat → Int64} (hn : (lg_sl av).length ≤ 4) (h : qMo_noted_0 d mc ms (gMo_noted d mc ms K) K (lv_args 0 av) [] E R I J 0 0) : CL yMo_noted cMo_noted 4 (some .int) (d + 1) mc ms av E R I J K :=
  CL.of (by decide +kernel) hn (zMo_noted_0 (fun _ => Le.refl) _ _ _ _ _ _ _ _ h)
def qMo_known_29 (d mc ms : Nat) (B : Nat → Pd) (K : Ps) : Pd := (i_iret mc ms K)
theorem zMo_known_29 {d mc ms : Nat} {B : Nat → Pd} {K : Ps} (hB : ∀ pc, Le (B pc) (G cMo_known "VoyageCompanyModel" 3 (some .int) "known" (rm (d + 1) mc ms) (QM mc ms K) pc)) : Le (qMo_known_29 d mc ms B K) (G cMo_known "VoyageCompanyModel" 3 (some .int) "known" (rm (d + 1) mc ms) (QM mc ms K) 29) := by
  unfold qMo_known_29
  exact (s_iret (by decide +kernel) rfl)
def qMo_known_28 (d mc ms : Nat) (B : Nat → Pd) (K : Ps) : Pd := (i_ci (-1) (qMo_known_29 d mc ms B K))
theorem zMo_known_28 {d mc ms : Nat} {B : Nat → Pd} {K : Ps} (hB : ∀ pc, Le (B pc) (G cMo_known "VoyageCompanyModel" 3 (some .int) "known" (rm (d + 1) mc ms) (QM mc ms K) pc)) : Le (qMo_known_28 d mc ms B K) (G cMo_known "VoyageCompanyModel" 3 (some .int) "known" (rm (d + 1) mc ms) (QM mc ms K) 28) := by
  unfold qMo_known_28
  exact (s_iconst (n := (-1)) (v := (-1)) (by decide +kernel) (by decide +kernel) (zMo_known_29 hB))
def qMo_known_7 (d mc ms : Nat) (B : Nat → Pd) (K : Ps) : Pd := (i_ald 0 (i_ild 1 (i_ild 2 (i_ald 0 (i_getr 12 0 (i_ci 0 (i_iald (i_ci 1 (i_isub (i_ci 3 (i_ild 1 (i_imul (i_isub (i_call 0 12 yMo_noted cMo_noted 4 (some .int) mc ms d 4 (qMo_known_29 d mc ms B K)))))))))))))))
theorem zMo_known_7 {d mc ms : Nat} {B : Nat → Pd} {K : Ps} (hB : ∀ pc, Le (B pc) (G cMo_known "VoyageCompanyModel" 3 (some .int) "known" (rm (d + 1) mc ms) (QM mc ms K) pc)) : Le (qMo_known_7 d mc ms B K) (G cMo_known "VoyageCompanyModel" 3 (some .int) "known" (rm (d + 1) mc ms) (QM mc ms K) 7) := by
  unfold qMo_known_7
  exact (s_ald_n (j := 0) (by decide +kernel) rfl (s_ild_n (j := 1) (by decide +kernel) rfl (s_ild_n (j := 2) (by decide +kernel) rfl (s_ald_n (j := 0) (by decide +kernel) rfl (s_getr (idx := 8) (by decide +kernel) fl12_8 (by decide) (s_iconst (n := 0) (v := 0) (by decide +kernel) (by decide +kernel) (s_iald (by decide +kernel) (s_iconst (n := 1) (v := 1) (by decide +kernel) (by decide +kernel) (s_isub (by decide +kernel) (s_iconst (n := 3) (v := 3) (by decide +kernel) (by decide +kernel) (s_ild_n (j := 1) (by decide +kernel) rfl (s_imul (by decide +kernel) (s_isub (by decide +kernel) (s_call (idx := 219) (by decide +kernel) ml12_219 rmk (s_goto (off := 4) (tgt := 29) (by decide +kernel) (by decide) (zMo_known_29 hB))))))))))))))))
def qMo_known_0 (d mc ms : Nat) (B : Nat → Pd) (K : Ps) : Pd := (i_ild 1 (i_call 2 12 yMo_isPort cMo_isPort 1 (some .boolean) mc ms d 1 (i_if_eq (qMo_known_28 d mc ms B K) (qMo_known_7 d mc ms B K))))
theorem zMo_known_0 {d mc ms : Nat} {B : Nat → Pd} {K : Ps} (hB : ∀ pc, Le (B pc) (G cMo_known "VoyageCompanyModel" 3 (some .int) "known" (rm (d + 1) mc ms) (QM mc ms K) pc)) : Le (qMo_known_0 d mc ms B K) (G cMo_known "VoyageCompanyModel" 3 (some .int) "known" (rm (d + 1) mc ms) (QM mc ms K) 0) := by
  unfold qMo_known_0
  exact (s_ild_n (j := 1) (by decide +kernel) rfl (s_call (idx := 216) (by decide +kernel) ml12_216 rmk (s_if_eq (off := 24) (tgt := 28) (by decide +kernel) (by decide) (zMo_known_28 hB) (zMo_known_7 hB))))
/-- VoyageCompanyModel.known(II)I, at its places -/
def gMo_known (d mc ms : Nat) (K : Ps) : Nat → Pd := G cMo_known "VoyageCompanyModel" 3 (some .int) "known" (rm (d + 1) mc ms) (QM mc ms K)
theorem eMo_known {d mc ms : Nat} {K : Ps} {av : List Value} {E : Nat → Prop} {R : Nat → Nat → Value} {I : Nat → Nat → Int32} {J : Nat → Nat → Int64} (hn : (lg_sl av).length ≤ 3) (h : qMo_known_0 d mc ms (gMo_known d mc ms K) K (lv_args 0 av) [] E R I J 0 0) : CL yMo_known cMo_known 3 (some .int) (d + 1) mc ms av E R I J K :=
  CL.of (by decide +kernel) hn (zMo_known_0 (fun _ => Le.refl) _ _ _ _ _ _ _ _ h)
def qMo_sum_203 (d mc ms : Nat) (B : Nat → Pd) (K : Ps) : Pd := (i_cl (-1) (i_lret mc ms K))
theorem zMo_sum_203 {d mc ms : Nat} {B : Nat → Pd} {K : Ps} (hB : ∀ pc, Le (B pc) (G cMo_sum "VoyageCompanyModel" 6 (some .long) "sum" (rm (d + 1) mc ms) (QM mc ms K) pc)) : Le (qMo_sum_203 d mc ms B K) (G cMo_sum "VoyageCompanyModel" 6 (some .long) "sum" (rm (d + 1) mc ms) (QM mc ms K) 203) := by
  unfold qMo_sum_203
  exact (s_ldc2 (n := 223) (v := (-1)) (by decide +kernel) (lw_gm (by decide +kernel) (by decide +kernel)) (s_lret (by decide +kernel) rfl))
def qMo_sum_191 (d mc ms : Nat) (B : Nat → Pd) (K : Ps) : Pd := (i_ald 0 (i_getr 12 1 (i_ci 8 (i_ild 1 (i_imul (i_ci 4 (i_iadd (i_lald (i_lret mc ms K)))))))))
theorem zMo_sum_191 {d mc ms : Nat} {B : Nat → Pd} {K : Ps} (hB : ∀ pc, Le (B pc) (G cMo_sum "VoyageCompanyModel" 6 (some .long) "sum" (rm (d + 1) mc ms) (QM mc ms K) pc)) : Le (qMo_sum_191 d mc ms B K) (G cMo_sum "VoyageCompanyModel" 6 (some .long) "sum" (rm (d + 1) mc ms) (QM mc ms K) 191) := by
  unfold qMo_sum_191
  exact (s_ald_n (j := 0) (by decide +kernel) rfl (s_getr (idx := 14) (by decide +kernel) fl12_14 (by decide) (s_bipush (n := 8) (v := 8) (by decide +kernel) (by decide +kernel) (s_ild_n (j := 1) (by decide +kernel) rfl (s_imul (by decide +kernel) (s_iconst (n := 4) (v := 4) (by decide +kernel) (by decide +kernel) (s_iadd (by decide +kernel) (s_lald (by decide +kernel) (s_lret (by decide +kernel) rfl)))))))))
def qMo_sum_179 (d mc ms : Nat) (B : Nat → Pd) (K : Ps) : Pd := (i_ald 0 (i_getr 12 1 (i_ci 8 (i_ild 1 (i_imul (i_ci 3 (i_iadd (i_lald (i_lret mc ms K)))))))))
theorem zMo_sum_179 {d mc ms : Nat} {B : Nat → Pd} {K : Ps} (hB : ∀ pc, Le (B pc) (G cMo_sum "VoyageCompanyModel" 6 (some .long) "sum" (rm (d + 1) mc ms) (QM mc ms K) pc)) : Le (qMo_sum_179 d mc ms B K) (G cMo_sum "VoyageCompanyModel" 6 (some .long) "sum" (rm (d + 1) mc ms) (QM mc ms K) 179) := by
  unfold qMo_sum_179
  exact (s_ald_n (j := 0) (by decide +kernel) rfl (s_getr (idx := 14) (by decide +kernel) fl12_14 (by decide) (s_bipush (n := 8) (v := 8) (by decide +kernel) (by decide +kernel) (s_ild_n (j := 1) (by decide +kernel) rfl (s_imul (by decide +kernel) (s_iconst (n := 3) (v := 3) (by decide +kernel) (by decide +kernel) (s_iadd (by decide +kernel) (s_lald (by decide +kernel) (s_lret (by decide +kernel) rfl)))))))))
def qMo_sum_167 (d mc ms : Nat) (B : Nat → Pd) (K : Ps) : Pd := (i_ald 0 (i_getr 12 1 (i_ci 8 (i_ild 1 (i_imul (i_ci 2 (i_iadd (i_lald (i_lret mc ms K)))))))))
theorem zMo_sum_167 {d mc ms : Nat} {B : Nat → Pd} {K : Ps} (hB : ∀ pc, Le (B pc) (G cMo_sum "VoyageCompanyModel" 6 (some .long) "sum" (rm (d + 1) mc ms) (QM mc ms K) pc)) : Le (qMo_sum_167 d mc ms B K) (G cMo_sum "VoyageCompanyModel" 6 (some .long) "sum" (rm (d + 1) mc ms) (QM mc ms K) 167) := by
  unfold qMo_sum_167
  exact (s_ald_n (j := 0) (by decide +kernel) rfl (s_getr (idx := 14) (by decide +kernel) fl12_14 (by decide) (s_bipush (n := 8) (v := 8) (by decide +kernel) (by decide +kernel) (s_ild_n (j := 1) (by decide +kernel) rfl (s_imul (by decide +kernel) (s_iconst (n := 2) (v := 2) (by decide +kernel) (by decide +kernel) (s_iadd (by decide +kernel) (s_lald (by decide +kernel) (s_lret (by decide +kernel) rfl)))))))))
def qMo_sum_155 (d mc ms : Nat) (B : Nat → Pd) (K : Ps) : Pd := (i_ald 0 (i_getr 12 1 (i_ci 8 (i_ild 1 (i_imul (i_ci 1 (i_iadd (i_lald (i_lret mc ms K)))))))))
theorem zMo_sum_155 {d mc ms : Nat} {B : Nat → Pd} {K : Ps} (hB : ∀ pc, Le (B pc) (G cMo_sum "VoyageCompanyModel" 6 (some .long) "sum" (rm (d + 1) mc ms) (QM mc ms K) pc)) : Le (qMo_sum_155 d mc ms B K) (G cMo_sum "VoyageCompanyModel" 6 (some .long) "sum" (rm (d + 1) mc ms) (QM mc ms K) 155) := by
  unfold qMo_sum_155
  exact (s_ald_n (j := 0) (by decide +kernel) rfl (s_getr (idx := 14) (by decide +kernel) fl12_14 (by decide) (s_bipush (n := 8) (v := 8) (by decide +kernel) (by decide +kernel) (s_ild_n (j := 1) (by decide +kernel) rfl (s_imul (by decide +kernel) (s_iconst (n := 1) (v := 1) (by decide +kernel) (by decide +kernel) (s_iadd (by decide +kernel) (s_lald (by decide +kernel) (s_lret (by decide +kernel) rfl)))))))))
def qMo_sum_153 (d mc ms : Nat) (B : Nat → Pd) (K : Ps) : Pd := (i_lld 3 (i_lret mc ms K))
theorem zMo_sum_153 {d mc ms : Nat} {B : Nat → Pd} {K : Ps} (hB : ∀ pc, Le (B pc) (G cMo_sum "VoyageCompanyModel" 6 (some .long) "sum" (rm (d + 1) mc ms) (QM mc ms K) pc)) : Le (qMo_sum_153 d mc ms B K) (G cMo_sum "VoyageCompanyModel" 6 (some .long) "sum" (rm (d + 1) mc ms) (QM mc ms K) 153) := by
  unfold qMo_sum_153
  exact (s_lld_n (j := 3) (by decide +kernel) rfl (s_lret (by decide +kernel) rfl))
def qMo_sum_143 (d mc ms : Nat) (B : Nat → Pd) (K : Ps) : Pd := (i_iadd (i_i2l (i_ladd (i_lst 3 (i_inc 5 1 (B 104))))))
theorem zMo_sum_143 {d mc ms : Nat} {B : Nat → Pd} {K : Ps} (hB : ∀ pc, Le (B pc) (G cMo_sum "VoyageCompanyModel" 6 (some .long) "sum" (rm (d + 1) mc ms) (QM mc ms K) pc)) : Le (qMo_sum_143 d mc ms B K) (G cMo_sum "VoyageCompanyModel" 6 (some .long) "sum" (rm (d + 1) mc ms) (QM mc ms K) 143) := by
  unfold qMo_sum_143
  exact (s_iadd (by decide +kernel) (s_i2l (by decide +kernel) (s_ladd (by decide +kernel) (s_lst_n (j := 3) (by decide +kernel) rfl (by decide) (s_inc (z := 1) (by decide +kernel) (by decide +kernel) (by decide) (s_goto (off := (-46)) (tgt := 104) (by decide +kernel) (by decide) (hB 104)))))))
def qMo_sum_142 (d mc ms : Nat) (B : Nat → Pd) (K : Ps) : Pd := (i_ci 0 (qMo_sum_143 d mc ms B K))
theorem zMo_sum_142 {d mc ms : Nat} {B : Nat → Pd} {K : Ps} (hB : ∀ pc, Le (B pc) (G cMo_sum "VoyageCompanyModel" 6 (some .long) "sum" (rm (d + 1) mc ms) (QM mc ms K) pc)) : Le (qMo_sum_142 d mc ms B K) (G cMo_sum "VoyageCompanyModel" 6 (some .long) "sum" (rm (d + 1) mc ms) (QM mc ms K) 142) := by
  unfold qMo_sum_142
  exact (s_iconst (n := 0) (v := 0) (by decide +kernel) (by decide +kernel) (zMo_sum_143 hB))
def qMo_sum_131 (d mc ms : Nat) (B : Nat → Pd) (K : Ps) : Pd := (i_ald 0 (i_ild 5 (i_ci 8 (i_call 0 12 yMo_of cMo_of 3 (some .int) mc ms d 3 (qMo_sum_143 d mc ms B K)))))
theorem zMo_sum_131 {d mc ms : Nat} {B : Nat → Pd} {K : Ps} (hB : ∀ pc, Le (B pc) (G cMo_sum "VoyageCompanyModel" 6 (some .long) "sum" (rm (d + 1) mc ms) (QM mc ms K) pc)) : Le (qMo_sum_131 d mc ms B K) (G cMo_sum "VoyageCompanyModel" 6 (some .long) "sum" (rm (d + 1) mc ms) (QM mc ms K) 131) := by
  unfold qMo_sum_131
  exact (s_ald_n (j := 0) (by decide +kernel) rfl (s_ild (by decide +kernel) (s_bipush (n := 8) (v := 8) (by decide +kernel) (by decide +kernel) (s_call (idx := 138) (by decide +kernel) ml12_138 rmk (s_goto (off := 4) (tgt := 143) (by decide +kernel) (by decide) (zMo_sum_143 hB))))))
def qMo_sum_115 (d mc ms : Nat) (B : Nat → Pd) (K : Ps) : Pd := (i_lld 3 (i_ald 0 (i_ild 5 (i_ci 10 (i_ild 1 (i_iadd (i_call 0 12 yMo_of cMo_of 3 (some .int) mc ms d 3 (i_ild 1 (i_ci 1 (i_ic_ne (qMo_sum_142 d mc ms B K) (qMo_sum_131 d mc ms B K)))))))))))
theorem zMo_sum_115 {d mc ms : Nat} {B : Nat → Pd} {K : Ps} (hB : ∀ pc, Le (B pc) (G cMo_sum "VoyageCompanyModel" 6 (some .long) "sum" (rm (d + 1) mc ms) (QM mc ms K) pc)) : Le (qMo_sum_115 d mc ms B K) (G cMo_sum "VoyageCompanyModel" 6 (some .long) "sum" (rm (d + 1) mc ms) (QM mc ms K) 115) := by
  unfold qMo_sum_115
  exact (s_lld_n (j := 3) (by decide +kernel) rfl (s_ald_n (j := 0) (by decide +kernel) rfl (s_ild (by decide +kernel) (s_bipush (n := 10) (v := 10) (by decide +kernel) (by decide +kernel) (s_ild_n (j := 1) (by decide +kernel) rfl (s_iadd (by decide +kernel) (s_call (idx := 138) (by decide +kernel) ml12_138 rmk (s_ild_n (j := 1) (by decide +kernel) rfl (s_iconst (n := 1) (v := 1) (by decide +kernel) (by decide +kernel) (s_ic_ne (off := 14) (tgt := 142) (by decide +kernel) (by decide) (zMo_sum_142 hB) (zMo_sum_131 hB)))))))))))
def qMo_sum_104 (d mc ms : Nat) (B : Nat → Pd) (K : Ps) : Pd := (i_ild 5 (i_ald 0 (i_getr 12 0 (i_ci 1 (i_iald (i_ic_ge (qMo_sum_153 d mc ms B K) (qMo_sum_115 d mc ms B K)))))))
theorem zMo_sum_104 {d mc ms : Nat} {B : Nat → Pd} {K : Ps} (hB : ∀ pc, Le (B pc) (G cMo_sum "VoyageCompanyModel" 6 (some .long) "sum" (rm (d + 1) mc ms) (QM mc ms K) pc)) : Le (qMo_sum_104 d mc ms B K) (G cMo_sum "VoyageCompanyModel" 6 (some .long) "sum" (rm (d + 1) mc ms) (QM mc ms K) 104) := by
  unfold qMo_sum_104
  exact (s_ild (by decide +kernel) (s_ald_n (j := 0) (by decide +kernel) rfl (s_getr (idx := 8) (by decide +kernel) fl12_8 (by decide) (s_iconst (n := 1) (v := 1) (by decide +kernel) (by decide +kernel) (s_iald (by decide +kernel) (s_ic_ge (off := 41) (tgt := 153) (by decide +kernel) (by decide) (zMo_sum_153 hB) (zMo_sum_115 hB)))))))
def qMo_sum_101 (d mc ms : Nat) (B : Nat → Pd) (K : Ps) : Pd := (i_ci 0 (i_ist 5 (B 104)))
theorem zMo_sum_101 {d mc ms : Nat} {B : Nat → Pd} {K : Ps} (hB : ∀ pc, Le (B pc) (G cMo_sum "VoyageCompanyModel" 6 (some .long) "sum" (rm (d + 1) mc ms) (QM mc ms K) pc)) : Le (qMo_sum_101 d mc ms B K) (G cMo_sum "VoyageCompanyModel" 6 (some .long) "sum" (rm (d + 1) mc ms) (QM mc ms K) 101) := by
  unfold qMo_sum_101
  exact (s_iconst (n := 0) (v := 0) (by decide +kernel) (by decide +kernel) (s_ist (by decide +kernel) (by decide) (hB 104)))
def qMo_sum_99 (d mc ms : Nat) (B : Nat → Pd) (K : Ps) : Pd := (i_lld 3 (i_lret mc ms K))
theorem zMo_sum_99 {d mc ms : Nat} {B : Nat → Pd} {K : Ps} (hB : ∀ pc, Le (B pc) (G cMo_sum "VoyageCompanyModel" 6 (some .long) "sum" (rm (d + 1) mc ms) (QM mc ms K) pc)) : Le (qMo_sum_99 d mc ms B K) (G cMo_sum "VoyageCompanyModel" 6 (some .long) "sum" (rm (d + 1) mc ms) (QM mc ms K) 99) := by
  unfold qMo_sum_99
  exact (s_lld_n (j := 3) (by decide +kernel) rfl (s_lret (by decide +kernel) rfl))
def qMo_sum_75 (d mc ms : Nat) (B : Nat → Pd) (K : Ps) : Pd := (i_lld 3 (i_ald 0 (i_getr 12 0 (i_ci 10 (i_ci 4 (i_ild 5 (i_imul (i_iadd (i_ild 1 (i_iadd (i_iald (i_i2l (i_ladd (i_lst 3 (i_inc 5 1 (B 69))))))))))))))))
theorem zMo_sum_75 {d mc ms : Nat} {B : Nat → Pd} {K : Ps} (hB : ∀ pc, Le (B pc) (G cMo_sum "VoyageCompanyModel" 6 (some .long) "sum" (rm (d + 1) mc ms) (QM mc ms K) pc)) : Le (qMo_sum_75 d mc ms B K) (G cMo_sum "VoyageCompanyModel" 6 (some .long) "sum" (rm (d + 1) mc ms) (QM mc ms K) 75) := by
  unfold qMo_sum_75
  exact (s_lld_n (j := 3) (by decide +kernel) rfl (s_ald_n (j := 0) (by decide +kernel) rfl (s_getr (idx := 8) (by decide +kernel) fl12_8 (by decide) (s_bipush (n := 10) (v := 10) (by decide +kernel) (by decide +kernel) (s_iconst (n := 4) (v := 4) (by decide +kernel) (by decide +kernel) (s_ild (by decide +kernel) (s_imul (by decide +kernel) (s_iadd (by decide +kernel) (s_ild_n (j := 1) (by decide +kernel) rfl (s_iadd (by decide +kernel) (s_iald (by decide +kernel) (s_i2l (by decide +kernel) (s_ladd (by decide +kernel) (s_lst_n (j := 3) (by decide +kernel) rfl (by decide) (s_inc (z := 1) (by decide +kernel) (by decide +kernel) (by decide) (s_goto (off := (-27)) (tgt := 69) (by decide +kernel) (by decide) (hB 69)))))))))))))))))
def qMo_sum_69 (d mc ms : Nat) (B : Nat → Pd) (K : Ps) : Pd := (i_ild 5 (i_ci 5 (i_ic_ge (qMo_sum_99 d mc ms B K) (qMo_sum_75 d mc ms B K))))
theorem zMo_sum_69 {d mc ms : Nat} {B : Nat → Pd} {K : Ps} (hB : ∀ pc, Le (B pc) (G cMo_sum "VoyageCompanyModel" 6 (some .long) "sum" (rm (d + 1) mc ms) (QM mc ms K) pc)) : Le (qMo_sum_69 d mc ms B K) (G cMo_sum "VoyageCompanyModel" 6 (some .long) "sum" (rm (d + 1) mc ms) (QM mc ms K) 69) := by
  unfold qMo_sum_69
  exact (s_ild (by decide +kernel) (s_iconst (n := 5) (v := 5) (by decide +kernel) (by decide +kernel) (s_ic_ge (off := 27) (tgt := 99) (by decide +kernel) (by decide) (zMo_sum_99 hB) (zMo_sum_75 hB))))
def qMo_sum_66 (d mc ms : Nat) (B : Nat → Pd) (K : Ps) : Pd := (i_ci 0 (i_ist 5 (B 69)))
theorem zMo_sum_66 {d mc ms : Nat} {B : Nat → Pd} {K : Ps} (hB : ∀ pc, Le (B pc) (G cMo_sum "VoyageCompanyModel" 6 (some .long) "sum" (rm (d + 1) mc ms) (QM mc ms K) pc)) : Le (qMo_sum_66 d mc ms B K) (G cMo_sum "VoyageCompanyModel" 6 (some .long) "sum" (rm (d + 1) mc ms) (QM mc ms K) 66) := by
  unfold qMo_sum_66
  exact (s_iconst (n := 0) (v := 0) (by decide +kernel) (by decide +kernel) (s_ist (by decide +kernel) (by decide) (hB 69)))
def qMo_sum_56 (d mc ms : Nat) (B : Nat → Pd) (K : Ps) : Pd := (i_ald 0 (i_getr 12 1 (i_ci 8 (i_ild 1 (i_imul (i_lald (i_lret mc ms K)))))))
theorem zMo_sum_56 {d mc ms : Nat} {B : Nat → Pd} {K : Ps} (hB : ∀ pc, Le (B pc) (G cMo_sum "VoyageCompanyModel" 6 (some .long) "sum" (rm (d + 1) mc ms) (QM mc ms K) pc)) : Le (qMo_sum_56 d mc ms B K) (G cMo_sum "VoyageCompanyModel" 6 (some .long) "sum" (rm (d + 1) mc ms) (QM mc ms K) 56) := by
  unfold qMo_sum_56
  exact (s_ald_n (j := 0) (by decide +kernel) rfl (s_getr (idx := 14) (by decide +kernel) fl12_14 (by decide) (s_bipush (n := 8) (v := 8) (by decide +kernel) (by decide +kernel) (s_ild_n (j := 1) (by decide +kernel) rfl (s_imul (by decide +kernel) (s_lald (by decide +kernel) (s_lret (by decide +kernel) rfl)))))))
def qMo_sum_11 (d mc ms : Nat) (B : Nat → Pd) (K : Ps) : Pd := (i_cl 0 (i_lst 3 (i_ild 2 (i_sw [(0, (qMo_sum_56 d mc ms B K)), (1, (qMo_sum_66 d mc ms B K)), (2, (qMo_sum_101 d mc ms B K)), (3, (qMo_sum_155 d mc ms B K)), (4, (qMo_sum_167 d mc ms B K)), (5, (qMo_sum_179 d mc ms B K)), (6, (qMo_sum_191 d mc ms B K))] (qMo_sum_203 d mc ms B K)))))
theorem zMo_sum_11 {d mc ms : Nat} {B : Nat → Pd} {K : Ps} (hB : ∀ pc, Le (B pc) (G cMo_sum "VoyageCompanyModel" 6 (some .long) "sum" (rm (d + 1) mc ms) (QM mc ms K) pc)) : Le (qMo_sum_11 d mc ms B K) (G cMo_sum "VoyageCompanyModel" 6 (some .long) "sum" (rm (d + 1) mc ms) (QM mc ms K) 11) := by
  unfold qMo_sum_11
  exact (s_lconst (n := 0) (v := 0) (by decide +kernel) (by decide +kernel) (s_lst_n (j := 3) (by decide +kernel) rfl (by decide) (s_ild_n (j := 2) (by decide +kernel) rfl (s_sw (fun x => by
    by_cases h0 : x = 0
    · subst h0
      exact ⟨56, sw_in (dflt := 189) (lo := 0) (hi := 6) (offs := #[42, 52, 87, 141, 153, 165, 177]) (len := 42) (off := 42) (by decide +kernel) (by decide +kernel) (by decide +kernel) (by decide +kernel) (by decide +kernel), by simpa [swp] using (zMo_sum_56 hB)⟩
    by_cases h1 : x = 1
    · subst h1
      exact ⟨66, sw_in (dflt := 189) (lo := 0) (hi := 6) (offs := #[42, 52, 87, 141, 153, 165, 177]) (len := 42) (off := 52) (by decide +kernel) (by decide +kernel) (by decide +kernel) (by decide +kernel) (by decide +kernel), by simpa [swp] using (zMo_sum_66 hB)⟩
    by_cases h2 : x = 2
    · subst h2
      exact ⟨101, sw_in (dflt := 189) (lo := 0) (hi := 6) (offs := #[42, 52, 87, 141, 153, 165, 177]) (len := 42) (off := 87) (by decide +kernel) (by decide +kernel) (by decide +kernel) (by decide +kernel) (by decide +kernel), by simpa [swp] using (zMo_sum_101 hB)⟩
    by_cases h3 : x = 3
    · subst h3
      exact ⟨155, sw_in (dflt := 189) (lo := 0) (hi := 6) (offs := #[42, 52, 87, 141, 153, 165, 177]) (len := 42) (off := 141) (by decide +kernel) (by decide +kernel) (by decide +kernel) (by decide +kernel) (by decide +kernel), by simpa [swp] using (zMo_sum_155 hB)⟩
    by_cases h4 : x = 4
    · subst h4
      exact ⟨167, sw_in (dflt := 189) (lo := 0) (hi := 6) (offs := #[42, 52, 87, 141, 153, 165, 177]) (len := 42) (off := 153) (by decide +kernel) (by decide +kernel) (by decide +kernel) (by decide +kernel) (by decide +kernel), by simpa [swp] using (zMo_sum_167 hB)⟩
    by_cases h5 : x = 5
    · subst h5
      exact ⟨179, sw_in (dflt := 189) (lo := 0) (hi := 6) (offs := #[42, 52, 87, 141, 153, 165, 177]) (len := 42) (off := 165) (by decide +kernel) (by decide +kernel) (by decide +kernel) (by decide +kernel) (by decide +kernel), by simpa [swp] using (zMo_sum_179 hB)⟩
    by_cases h6 : x = 6
    · subst h6
      exact ⟨191, sw_in (dflt := 189) (lo := 0) (hi := 6) (offs := #[42, 52, 87, 141, 153, 165, 177]) (len := 42) (off := 177) (by decide +kernel) (by decide +kernel) (by decide +kernel) (by decide +kernel) (by decide +kernel), by simpa [swp] using (zMo_sum_191 hB)⟩
    have g0 := i32_ne (z := 0) (by decide +kernel) h0
    have g1 := i32_ne (z := 1) (by decide +kernel) h1
    have g2 := i32_ne (z := 2) (by decide +kernel) h2
    have g3 := i32_ne (z := 3) (by decide +kernel) h3
    have g4 := i32_ne (z := 4) (by decide +kernel) h4
    have g5 := i32_ne (z := 5) (by decide +kernel) h5
    have g6 := i32_ne (z := 6) (by decide +kernel) h6
    exact ⟨203, sw_out (dflt := 189) (lo := 0) (hi := 6) (offs := #[42, 52, 87, 141, 153, 165, 177]) (len := 42) (by decide +kernel) (by omega) (by decide +kernel), by simpa [swp, h0, h1, h2, h3, h4, h5, h6] using (zMo_sum_203 hB)⟩)))))
def qMo_sum_7 (d mc ms : Nat) (B : Nat → Pd) (K : Ps) : Pd := (i_cl (-1) (i_lret mc ms K))
theorem zMo_sum_7 {d mc ms : Nat} {B : Nat → Pd} {K : Ps} (hB : ∀ pc, Le (B pc) (G cMo_sum "VoyageCompanyModel" 6 (some .long) "sum" (rm (d + 1) mc ms) (QM mc ms K) pc)) : Le (qMo_sum_7 d mc ms B K) (G cMo_sum "VoyageCompanyModel" 6 (some .long) "sum" (rm (d + 1) mc ms) (QM mc ms K) 7) := by
  unfold qMo_sum_7
  exact (s_ldc2 (n := 223) (v := (-1)) (by decide +kernel) (lw_gm (by decide +kernel) (by decide +kernel)) (s_lret (by decide +kernel) rfl))
def qMo_sum_0 (d mc ms : Nat) (B : Nat → Pd) (K : Ps) : Pd := (i_ild 1 (i_call 2 12 yMo_isGood cMo_isGood 1 (some .boolean) mc ms d 1 (i_if_ne (qMo_sum_11 d mc ms B K) (qMo_sum_7 d mc ms B K))))
theorem zMo_sum_0 {d mc ms : Nat} {B : Nat → Pd} {K : Ps} (hB : ∀ pc, Le (B pc) (G cMo_sum "VoyageCompanyModel" 6 (some .long) "sum" (rm (d + 1) mc ms) (QM mc ms K) pc)) : Le (qMo_sum_0 d mc ms B K) (G cMo_sum "VoyageCompanyModel" 6 (some .long) "sum" (rm (d + 1) mc ms) (QM mc ms K) 0) := by
  unfold qMo_sum_0
  exact (s_ild_n (j := 1) (by decide +kernel) rfl (s_call (idx := 148) (by decide +kernel) ml12_148 rmk (s_if_ne (off := 7) (tgt := 11) (by decide +kernel) (by decide) (zMo_sum_11 hB) (zMo_sum_7 hB))))
/-- VoyageCompanyModel.sum(II)J, at its places -/
def gMo_sum (d mc ms : Nat) (K : Ps) : Nat → Pd := G cMo_sum "VoyageCompanyModel" 6 (some .long) "sum" (rm (d + 1) mc ms) (QM mc ms K)
theorem eMo_sum {d mc ms : Nat} {K : Ps} {av : List Value} {E : Nat → Prop} {R : Nat → Nat → Value} {I : Nat → Nat → Int32} {J : Nat → Nat → Int64} (hn : (lg_sl av).length ≤ 6) (h : qMo_sum_0 d mc ms (gMo_sum d mc ms K) K (lv_args 0 av) [] E R I J 0 0) : CL yMo_sum cMo_sum 6 (some .long) (d + 1) mc ms av E R I J K :=
  CL.of (by decide +kernel) hn (zMo_sum_0 (fun _ => Le.refl) _ _ _ _ _ _ _ _ h)
theorem lMo_sum_69 {d mc ms : Nat} {K : Ps} : Le (qMo_sum_69 d mc ms (gMo_sum d mc ms K) K) (gMo_sum d mc ms K 69) := zMo_sum_69 (fun _ => Le.refl)
theorem lMo_sum_104 {d mc ms : Nat} {K : Ps} : Le (qMo_sum_104 d mc ms (gMo_sum d mc ms K) K) (gMo_sum d mc ms K 104) := zMo_sum_104 (fun _ => Le.refl)
def qMo_count_95 (d mc ms : Nat) (B : Nat → Pd) (K : Ps) : Pd := (i_ci (-1) (i_iret mc ms K))
theorem zMo_count_95 {d mc ms : Nat} {B : Nat → Pd} {K : Ps} (hB : ∀ pc, Le (B pc) (G cMo_count "VoyageCompanyModel" 4 (some .int) "count" (rm (d + 1) mc ms) (QM mc ms K) pc)) : Le (qMo_count_95 d mc ms B K) (G cMo_count "VoyageCompanyModel" 4 (some .int) "count" (rm (d + 1) mc ms) (QM mc ms K) 95) := by
  unfold qMo_count_95
  exact (s_iconst (n := (-1)) (v := (-1)) (by decide +kernel) (by decide +kernel) (s_iret (by decide +kernel) rfl))
def qMo_count_93 (d mc ms : Nat) (B : Nat → Pd) (K : Ps) : Pd := (i_ild 2 (i_iret mc ms K))
theorem zMo_count_93 {d mc ms : Nat} {B : Nat → Pd} {K : Ps} (hB : ∀ pc, Le (B pc) (G cMo_count "VoyageCompanyModel" 4 (some .int) "count" (rm (d + 1) mc ms) (QM mc ms K) pc)) : Le (qMo_count_93 d mc ms B K) (G cMo_count "VoyageCompanyModel" 4 (some .int) "count" (rm (d + 1) mc ms) (QM mc ms K) 93) := by
  unfold qMo_count_93
  exact (s_ild_n (j := 2) (by decide +kernel) rfl (s_iret (by decide +kernel) rfl))
def qMo_count_86 (d mc ms : Nat) (B : Nat → Pd) (K : Ps) : Pd := (i_ald 0 (i_getr 12 0 (i_ci 2 (i_iald (i_iret mc ms K)))))
theorem zMo_count_86 {d mc ms : Nat} {B : Nat → Pd} {K : Ps} (hB : ∀ pc, Le (B pc) (G cMo_count "VoyageCompanyModel" 4 (some .int) "count" (rm (d + 1) mc ms) (QM mc ms K) pc)) : Le (qMo_count_86 d mc ms B K) (G cMo_count "VoyageCompanyModel" 4 (some .int) "count" (rm (d + 1) mc ms) (QM mc ms K) 86) := by
  unfold qMo_count_86
  exact (s_ald_n (j := 0) (by decide +kernel) rfl (s_getr (idx := 8) (by decide +kernel) fl12_8 (by decide) (s_iconst (n := 2) (v := 2) (by decide +kernel) (by decide +kernel) (s_iald (by decide +kernel) (s_iret (by decide +kernel) rfl)))))
def qMo_count_79 (d mc ms : Nat) (B : Nat → Pd) (K : Ps) : Pd := (i_ald 0 (i_getr 12 0 (i_ci 1 (i_iald (i_iret mc ms K)))))
theorem zMo_count_79 {d mc ms : Nat} {B : Nat → Pd} {K : Ps} (hB : ∀ pc, Le (B pc) (G cMo_count "VoyageCompanyModel" 4 (some .int) "count" (rm (d + 1) mc ms) (QM mc ms K) pc)) : Le (qMo_count_79 d mc ms B K) (G cMo_count "VoyageCompanyModel" 4 (some .int) "count" (rm (d + 1) mc ms) (QM mc ms K) 79) := by
  unfold qMo_count_79
  exact (s_ald_n (j := 0) (by decide +kernel) rfl (s_getr (idx := 8) (by decide +kernel) fl12_8 (by decide) (s_iconst (n := 1) (v := 1) (by decide +kernel) (by decide +kernel) (s_iald (by decide +kernel) (s_iret (by decide +kernel) rfl)))))
def qMo_count_72 (d mc ms : Nat) (B : Nat → Pd) (K : Ps) : Pd := (i_ald 0 (i_getr 12 0 (i_ci 0 (i_iald (i_iret mc ms K)))))
theorem zMo_count_72 {d mc ms : Nat} {B : Nat → Pd} {K : Ps} (hB : ∀ pc, Le (B pc) (G cMo_count "VoyageCompanyModel" 4 (some .int) "count" (rm (d + 1) mc ms) (QM mc ms K) pc)) : Le (qMo_count_72 d mc ms B K) (G cMo_count "VoyageCompanyModel" 4 (some .int) "count" (rm (d + 1) mc ms) (QM mc ms K) 72) := by
  unfold qMo_count_72
  exact (s_ald_n (j := 0) (by decide +kernel) rfl (s_getr (idx := 8) (by decide +kernel) fl12_8 (by decide) (s_iconst (n := 0) (v := 0) (by decide +kernel) (by decide +kernel) (s_iald (by decide +kernel) (s_iret (by decide +kernel) rfl)))))
def qMo_count_39 (d mc ms : Nat) (B : Nat → Pd) (K : Ps) : Pd := (i_ild 1 (i_sw [(0, (qMo_count_72 d mc ms B K)), (1, (qMo_count_79 d mc ms B K)), (2, (qMo_count_86 d mc ms B K)), (3, (qMo_count_93 d mc ms B K))] (qMo_count_95 d mc ms B K)))
theorem zMo_count_39 {d mc ms : Nat} {B : Nat → Pd} {K : Ps} (hB : ∀ pc, Le (B pc) (G cMo_count "VoyageCompanyModel" 4 (some .int) "count" (rm (d + 1) mc ms) (QM mc ms K) pc)) : Le (qMo_count_39 d mc ms B K) (G cMo_count "VoyageCompanyModel" 4 (some .int) "count" (rm (d + 1) mc ms) (QM mc ms K) 39) := by
  unfold qMo_count_39
  exact (s_ild_n (j := 1) (by decide +kernel) rfl (s_sw (fun x => by
    by_cases h0 : x = 0
    · subst h0
      exact ⟨72, sw_in (dflt := 55) (lo := 0) (hi := 3) (offs := #[32, 39, 46, 53]) (len := 32) (off := 32) (by decide +kernel) (by decide +kernel) (by decide +kernel) (by decide +kernel) (by decide +kernel), by simpa [swp] using (zMo_count_72 hB)⟩
    by_cases h1 : x = 1
    · subst h1
      exact ⟨79, sw_in (dflt := 55) (lo := 0) (hi := 3) (offs := #[32, 39, 46, 53]) (len := 32) (off := 39) (by decide +kernel) (by decide +kernel) (by decide +kernel) (by decide +kernel) (by decide +kernel), by simpa [swp] using (zMo_count_79 hB)⟩
    by_cases h2 : x = 2
    · subst h2
      exact ⟨86, sw_in (dflt := 55) (lo := 0) (hi := 3) (offs := #[32, 39, 46, 53]) (len := 32) (off := 46) (by decide +kernel) (by decide +kernel) (by decide +kernel) (by decide +kernel) (by decide +kernel), by simpa [swp] using (zMo_count_86 hB)⟩
    by_cases h3 : x = 3
    · subst h3
      exact ⟨93, sw_in (dflt := 55) (lo := 0) (hi := 3) (offs := #[32, 39, 46, 53]) (len := 32) (off := 53) (by decide +kernel) (by decide +kernel) (by decide +kernel) (by decide +kernel) (by decide +kernel), by simpa [swp] using (zMo_count_93 hB)⟩
    have g0 := i32_ne (z := 0) (by decide +kernel) h0
    have g1 := i32_ne (z := 1) (by decide +kernel) h1
    have g2 := i32_ne (z := 2) (by decide +kernel) h2
    have g3 := i32_ne (z := 3) (by decide +kernel) h3
    exact ⟨95, sw_out (dflt := 55) (lo := 0) (hi := 3) (offs := #[32, 39, 46, 53]) (len := 32) (by decide +kernel) (by omega) (by decide +kernel), by simpa [swp, h0, h1, h2, h3] using (zMo_count_95 hB)⟩)))
def qMo_count_31 (d mc ms : Nat) (B : Nat → Pd) (K : Ps) : Pd := (i_iadd (i_ist 2 (i_inc 3 1 (B 4))))
theorem zMo_count_31 {d mc ms : Nat} {B : Nat → Pd} {K : Ps} (hB : ∀ pc, Le (B pc) (G cMo_count "VoyageCompanyModel" 4 (some .int) "count" (rm (d + 1) mc ms) (QM mc ms K) pc)) : Le (qMo_count_31 d mc ms B K) (G cMo_count "VoyageCompanyModel" 4 (some .int) "count" (rm (d + 1) mc ms) (QM mc ms K) 31) := by
  unfold qMo_count_31
  exact (s_iadd (by decide +kernel) (s_ist_n (j := 2) (by decide +kernel) rfl (by decide) (s_inc (z := 1) (by decide +kernel) (by decide +kernel) (by decide) (s_goto (off := (-32)) (tgt := 4) (by decide +kernel) (by decide) (hB 4)))))
def qMo_count_30 (d mc ms : Nat) (B : Nat → Pd) (K : Ps) : Pd := (i_ci 0 (qMo_count_31 d mc ms B K))
theorem zMo_count_30 {d mc ms : Nat} {B : Nat → Pd} {K : Ps} (hB : ∀ pc, Le (B pc) (G cMo_count "VoyageCompanyModel" 4 (some .int) "count" (rm (d + 1) mc ms) (QM mc ms K) pc)) : Le (qMo_count_30 d mc ms B K) (G cMo_count "VoyageCompanyModel" 4 (some .int) "count" (rm (d + 1) mc ms) (QM mc ms K) 30) := by
  unfold qMo_count_30
  exact (s_iconst (n := 0) (v := 0) (by decide +kernel) (by decide +kernel) (zMo_count_31 hB))
def qMo_count_26 (d mc ms : Nat) (B : Nat → Pd) (K : Ps) : Pd := (i_ci 1 (qMo_count_31 d mc ms B K))
theorem zMo_count_26 {d mc ms : Nat} {B : Nat → Pd} {K : Ps} (hB : ∀ pc, Le (B pc) (G cMo_count "VoyageCompanyModel" 4 (some .int) "count" (rm (d + 1) mc ms) (QM mc ms K) pc)) : Le (qMo_count_26 d mc ms B K) (G cMo_count "VoyageCompanyModel" 4 (some .int) "count" (rm (d + 1) mc ms) (QM mc ms K) 26) := by
  unfold qMo_count_26
  exact (s_iconst (n := 1) (v := 1) (by decide +kernel) (by decide +kernel) (s_goto (off := 4) (tgt := 31) (by decide +kernel) (by decide) (zMo_count_31 hB)))
def qMo_count_14 (d mc ms : Nat) (B : Nat → Pd) (K : Ps) : Pd := (i_ild 2 (i_ald 0 (i_ild 3 (i_ci 4 (i_call 0 12 yMo_of cMo_of 3 (some .int) mc ms d 3 (i_ci (-2) (i_ic_ne (qMo_count_30 d mc ms B K) (qMo_count_26 d mc ms B K))))))))
theorem zMo_count_14 {d mc ms : Nat} {B : Nat → Pd} {K : Ps} (hB : ∀ pc, Le (B pc) (G cMo_count "VoyageCompanyModel" 4 (some .int) "count" (rm (d + 1) mc ms) (QM mc ms K) pc)) : Le (qMo_count_14 d mc ms B K) (G cMo_count "VoyageCompanyModel" 4 (some .int) "count" (rm (d + 1) mc ms) (QM mc ms K) 14) := by
  unfold qMo_count_14
  exact (s_ild_n (j := 2) (by decide +kernel) rfl (s_ald_n (j := 0) (by decide +kernel) rfl (s_ild_n (j := 3) (by decide +kernel) rfl (s_iconst (n := 4) (v := 4) (by decide +kernel) (by decide +kernel) (s_call (idx := 138) (by decide +kernel) ml12_138 rmk (s_bipush (n := (-2)) (v := (-2)) (by decide +kernel) (by decide +kernel) (s_ic_ne (off := 7) (tgt := 30) (by decide +kernel) (by decide) (zMo_count_30 hB) (zMo_count_26 hB))))))))
def qMo_count_4 (d mc ms : Nat) (B : Nat → Pd) (K : Ps) : Pd := (i_ild 3 (i_ald 0 (i_getr 12 0 (i_ci 1 (i_iald (i_ic_ge (qMo_count_39 d mc ms B K) (qMo_count_14 d mc ms B K)))))))
theorem zMo_count_4 {d mc ms : Nat} {B : Nat → Pd} {K : Ps} (hB : ∀ pc, Le (B pc) (G cMo_count "VoyageCompanyModel" 4 (some .int) "count" (rm (d + 1) mc ms) (QM mc ms K) pc)) : Le (qMo_count_4 d mc ms B K) (G cMo_count "VoyageCompanyModel" 4 (some .int) "count" (rm (d + 1) mc ms) (QM mc ms K) 4) := by
  unfold qMo_count_4
  exact (s_ild_n (j := 3) (by decide +kernel) rfl (s_ald_n (j := 0) (by decide +kernel) rfl (s_getr (idx := 8) (by decide +kernel) fl12_8 (by decide) (s_iconst (n := 1) (v := 1) (by decide +kernel) (by decide +kernel) (s_iald (by decide +kernel) (s_ic_ge (off := 28) (tgt := 39) (by decide +kernel) (by decide) (zMo_count_39 hB) (zMo_count_14 hB)))))))
def qMo_count_0 (d mc ms : Nat) (B : Nat → Pd) (K : Ps) : Pd := (i_ci 0 (i_ist 2 (i_ci 0 (i_ist 3 (B 4)))))
theorem zMo_count_0 {d mc ms : Nat} {B : Nat → Pd} {K : Ps} (hB : ∀ pc, Le (B pc) (G cMo_count "VoyageCompanyModel" 4 (some .int) "count" (rm (d + 1) mc ms) (QM mc ms K) pc)) : Le (qMo_count_0 d mc ms B K) (G cMo_count "VoyageCompanyModel" 4 (some .int) "count" (rm (d + 1) mc ms) (QM mc ms K) 0) := by
  unfold qMo_count_0
  exact (s_iconst (n := 0) (v := 0) (by decide +kernel) (by decide +kernel) (s_ist_n (j := 2) (by decide +kernel) rfl (by decide) (s_iconst (n := 0) (v := 0) (by decide +kernel) (by decide +kernel) (s_ist_n (j := 3) (by decide +kernel) rfl (by decide) (hB 4)))))
/-- VoyageCompanyModel.count(I)I, at its places -/
def gMo_count (d mc ms : Nat) (K : Ps) : Nat → Pd := G cMo_count "VoyageCompanyModel" 4 (some .int) "count" (rm (d + 1) mc ms) (QM mc ms K)
theorem eMo_count {d mc ms : Nat} {K : Ps} {av : List Value} {E : Nat → Prop} {R : Nat → Nat → Value} {I : Nat → Nat → Int32} {J : Nat → Nat → Int64} (hn : (lg_sl av).length ≤ 4) (h : qMo_count_0 d mc ms (gMo_count d mc ms K) K (lv_args 0 av) [] E R I J 0 0) : CL yMo_count cMo_count 4 (some .int) (d + 1) mc ms av E R I J K :=
  CL.of (by decide +kernel) hn (zMo_count_0 (fun _ => Le.refl) _ _ _ _ _ _ _ _ h)
theorem lMo_count_4 {d mc ms : Nat} {K : Ps} : Le (qMo_count_4 d mc ms (gMo_count d mc ms K) K) (gMo_count d mc ms K 4) := zMo_count_4 (fun _ => Le.refl)
def qMo_image_86 (d mc ms : Nat) (B : Nat → Pd) (K : Ps) : Pd := (i_ci 1 (i_zret mc ms K))
theorem zMo_image_86 {d mc ms : Nat} {B : Nat → Pd} {K : Ps} (hB : ∀ pc, Le (B pc) (G cMo_image "VoyageCompanyModel" 3 (some .boolean) "image" (rm (d + 1) mc ms) (QM mc ms K) pc)) : Le (qMo_image_86 d mc ms B K) (G cMo_image "VoyageCompanyModel" 3 (some .boolean) "image" (rm (d + 1) mc ms) (QM mc ms K) 86) := by
  unfold qMo_image_86
  exact (s_iconst (n := 1) (v := 1) (by decide +kernel) (by decide +kernel) (s_zret (by decide +kernel) rfl))
def qMo_image_61 (d mc ms : Nat) (B : Nat → Pd) (K : Ps) : Pd := (i_ald 0 (i_getr 12 1 (i_ci 40 (i_ild 1 (i_ci 1 (i_iadd (i_imul (i_ild 2 (i_iadd (i_ald 0 (i_getr 12 1 (i_ild 2 (i_lald (i_last (i_inc 2 1 (B 55))))))))))))))))
theorem zMo_image_61 {d mc ms : Nat} {B : Nat → Pd} {K : Ps} (hB : ∀ pc, Le (B pc) (G cMo_image "VoyageCompanyModel" 3 (some .boolean) "image" (rm (d + 1) mc ms) (QM mc ms K) pc)) : Le (qMo_image_61 d mc ms B K) (G cMo_image "VoyageCompanyModel" 3 (some .boolean) "image" (rm (d + 1) mc ms) (QM mc ms K) 61) := by
  unfold qMo_image_61
  exact (s_ald_n (j := 0) (by decide +kernel) rfl (s_getr (idx := 14) (by decide +kernel) fl12_14 (by decide) (s_bipush (n := 40) (v := 40) (by decide +kernel) (by decide +kernel) (s_ild_n (j := 1) (by decide +kernel) rfl (s_iconst (n := 1) (v := 1) (by decide +kernel) (by decide +kernel) (s_iadd (by decide +kernel) (s_imul (by decide +kernel) (s_ild_n (j := 2) (by decide +kernel) rfl (s_iadd (by decide +kernel) (s_ald_n (j := 0) (by decide +kernel) rfl (s_getr (idx := 14) (by decide +kernel) fl12_14 (by decide) (s_ild_n (j := 2) (by decide +kernel) rfl (s_lald (by decide +kernel) (s_last (by decide +kernel) (s_inc (z := 1) (by decide +kernel) (by decide +kernel) (by decide) (s_goto (off := (-28)) (tgt := 55) (by decide +kernel) (by decide) (hB 55)))))))))))))))))
def qMo_image_55 (d mc ms : Nat) (B : Nat → Pd) (K : Ps) : Pd := (i_ild 2 (i_ci 40 (i_ic_ge (qMo_image_86 d mc ms B K) (qMo_image_61 d mc ms B K))))
theorem zMo_image_55 {d mc ms : Nat} {B : Nat → Pd} {K : Ps} (hB : ∀ pc, Le (B pc) (G cMo_image "VoyageCompanyModel" 3 (some .boolean) "image" (rm (d + 1) mc ms) (QM mc ms K) pc)) : Le (qMo_image_55 d mc ms B K) (G cMo_image "VoyageCompanyModel" 3 (some .boolean) "image" (rm (d + 1) mc ms) (QM mc ms K) 55) := by
  unfold qMo_image_55
  exact (s_ild_n (j := 2) (by decide +kernel) rfl (s_bipush (n := 40) (v := 40) (by decide +kernel) (by decide +kernel) (s_ic_ge (off := 28) (tgt := 86) (by decide +kernel) (by decide) (zMo_image_86 hB) (zMo_image_61 hB))))
def qMo_image_53 (d mc ms : Nat) (B : Nat → Pd) (K : Ps) : Pd := (i_ci 0 (i_ist 2 (B 55)))
theorem zMo_image_53 {d mc ms : Nat} {B : Nat → Pd} {K : Ps} (hB : ∀ pc, Le (B pc) (G cMo_image "VoyageCompanyModel" 3 (some .boolean) "image" (rm (d + 1) mc ms) (QM mc ms K) pc)) : Le (qMo_image_53 d mc ms B K) (G cMo_image "VoyageCompanyModel" 3 (some .boolean) "image" (rm (d + 1) mc ms) (QM mc ms K) 53) := by
  unfold qMo_image_53
  exact (s_iconst (n := 0) (v := 0) (by decide +kernel) (by decide +kernel) (s_ist_n (j := 2) (by decide +kernel) rfl (by decide) (hB 55)))
def qMo_image_27 (d mc ms : Nat) (B : Nat → Pd) (K : Ps) : Pd := (i_ald 0 (i_getr 12 0 (i_ci 17600 (i_ild 1 (i_ci 1 (i_iadd (i_imul (i_ild 2 (i_iadd (i_ald 0 (i_getr 12 0 (i_ild 2 (i_iald (i_iast (i_inc 2 1 (B 20))))))))))))))))
theorem zMo_image_27 {d mc ms : Nat} {B : Nat → Pd} {K : Ps} (hB : ∀ pc, Le (B pc) (G cMo_image "VoyageCompanyModel" 3 (some .boolean) "image" (rm (d + 1) mc ms) (QM mc ms K) pc)) : Le (qMo_image_27 d mc ms B K) (G cMo_image "VoyageCompanyModel" 3 (some .boolean) "image" (rm (d + 1) mc ms) (QM mc ms K) 27) := by
  unfold qMo_image_27
  exact (s_ald_n (j := 0) (by decide +kernel) rfl (s_getr (idx := 8) (by decide +kernel) fl12_8 (by decide) (s_sipush (n := 17600) (v := 17600) (by decide +kernel) (by decide +kernel) (s_ild_n (j := 1) (by decide +kernel) rfl (s_iconst (n := 1) (v := 1) (by decide +kernel) (by decide +kernel) (s_iadd (by decide +kernel) (s_imul (by decide +kernel) (s_ild_n (j := 2) (by decide +kernel) rfl (s_iadd (by decide +kernel) (s_ald_n (j := 0) (by decide +kernel) rfl (s_getr (idx := 8) (by decide +kernel) fl12_8 (by decide) (s_ild_n (j := 2) (by decide +kernel) rfl (s_iald (by decide +kernel) (s_iast (by decide +kernel) (s_inc (z := 1) (by decide +kernel) (by decide +kernel) (by decide) (s_goto (off := (-30)) (tgt := 20) (by decide +kernel) (by decide) (hB 20)))))))))))))))))
def qMo_image_20 (d mc ms : Nat) (B : Nat → Pd) (K : Ps) : Pd := (i_ild 2 (i_ci 17600 (i_ic_ge (qMo_image_53 d mc ms B K) (qMo_image_27 d mc ms B K))))
theorem zMo_image_20 {d mc ms : Nat} {B : Nat → Pd} {K : Ps} (hB : ∀ pc, Le (B pc) (G cMo_image "VoyageCompanyModel" 3 (some .boolean) "image" (rm (d + 1) mc ms) (QM mc ms K) pc)) : Le (qMo_image_20 d mc ms B K) (G cMo_image "VoyageCompanyModel" 3 (some .boolean) "image" (rm (d + 1) mc ms) (QM mc ms K) 20) := by
  unfold qMo_image_20
  exact (s_ild_n (j := 2) (by decide +kernel) rfl (s_sipush (n := 17600) (v := 17600) (by decide +kernel) (by decide +kernel) (s_ic_ge (off := 29) (tgt := 53) (by decide +kernel) (by decide) (zMo_image_53 hB) (zMo_image_27 hB))))
def qMo_image_11 (d mc ms : Nat) (B : Nat → Pd) (K : Ps) : Pd := (i_ald 0 (i_getr 12 2 (i_ild 1 (i_ci 1 (i_zast (i_ci 0 (i_ist 2 (B 20))))))))
theorem zMo_image_11 {d mc ms : Nat} {B : Nat → Pd} {K : Ps} (hB : ∀ pc, Le (B pc) (G cMo_image "VoyageCompanyModel" 3 (some .boolean) "image" (rm (d + 1) mc ms) (QM mc ms K) pc)) : Le (qMo_image_11 d mc ms B K) (G cMo_image "VoyageCompanyModel" 3 (some .boolean) "image" (rm (d + 1) mc ms) (QM mc ms K) 11) := by
  unfold qMo_image_11
  exact (s_ald_n (j := 0) (by decide +kernel) rfl (s_getr (idx := 18) (by decide +kernel) fl12_18 (by decide) (s_ild_n (j := 1) (by decide +kernel) rfl (s_iconst (n := 1) (v := 1) (by decide +kernel) (by decide +kernel) (s_zast (by decide +kernel) (s_iconst (n := 0) (v := 0) (by decide +kernel) (by decide +kernel) (s_ist_n (j := 2) (by decide +kernel) rfl (by decide) (hB 20))))))))
def qMo_image_9 (d mc ms : Nat) (B : Nat → Pd) (K : Ps) : Pd := (i_ci 0 (i_zret mc ms K))
theorem zMo_image_9 {d mc ms : Nat} {B : Nat → Pd} {K : Ps} (hB : ∀ pc, Le (B pc) (G cMo_image "VoyageCompanyModel" 3 (some .boolean) "image" (rm (d + 1) mc ms) (QM mc ms K) pc)) : Le (qMo_image_9 d mc ms B K) (G cMo_image "VoyageCompanyModel" 3 (some .boolean) "image" (rm (d + 1) mc ms) (QM mc ms K) 9) := by
  unfold qMo_image_9
  exact (s_iconst (n := 0) (v := 0) (by decide +kernel) (by decide +kernel) (s_zret (by decide +kernel) rfl))
def qMo_image_0 (d mc ms : Nat) (B : Nat → Pd) (K : Ps) : Pd := (i_ild 1 (i_ci 0 (i_ci 2 (i_call 2 12 yMo_isIn cMo_isIn 3 (some .boolean) mc ms d 3 (i_if_ne (qMo_image_11 d mc ms B K) (qMo_image_9 d mc ms B K))))))
theorem zMo_image_0 {d mc ms : Nat} {B : Nat → Pd} {K : Ps} (hB : ∀ pc, Le (B pc) (G cMo_image "VoyageCompanyModel" 3 (some .boolean) "image" (rm (d + 1) mc ms) (QM mc ms K) pc)) : Le (qMo_image_0 d mc ms B K) (G cMo_image "VoyageCompanyModel" 3 (some .boolean) "image" (rm (d + 1) mc ms) (QM mc ms K) 0) := by
  unfold qMo_image_0
  exact (s_ild_n (j := 1) (by decide +kernel) rfl (s_iconst (n := 0) (v := 0) (by decide +kernel) (by decide +kernel) (s_iconst (n := 2) (v := 2) (by decide +kernel) (by decide +kernel) (s_call (idx := 25) (by decide +kernel) ml12_25 rmk (s_if_ne (off := 5) (tgt := 11) (by decide +kernel) (by decide) (zMo_image_11 hB) (zMo_image_9 hB))))))
/-- VoyageCompanyModel.image(I)Z, at its places -/
def gMo_image (d mc ms : Nat) (K : Ps) : Nat → Pd := G cMo_image "VoyageCompanyModel" 3 (some .boolean) "image" (rm (d + 1) mc ms) (QM mc ms K)
theorem eMo_image {d mc ms : Nat} {K : Ps} {av : List Value} {E : Nat → Prop} {R : Nat → Nat → Value} {I : Nat → Nat → Int32} {J : Nat → Nat → Int64} (hn : (lg_sl av).length ≤ 3) (h : qMo_image_0 d mc ms (gMo_image d mc ms K) K (lv_args 0 av) [] E R I J 0 0) : CL yMo_image cMo_image 3 (some .boolean) (d + 1) mc ms av E R I J K :=
  CL.of (by decide +kernel) hn (zMo_image_0 (fun _ => Le.refl) _ _ _ _ _ _ _ _ h)
theorem lMo_image_20 {d mc ms : Nat} {K : Ps} : Le (qMo_image_20 d mc ms (gMo_image d mc ms K) K) (gMo_image d mc ms K 20) := zMo_image_20 (fun _ => Le.refl)
theorem lMo_image_55 {d mc ms : Nat} {K : Ps} : Le (qMo_image_55 d mc ms (gMo_image d mc ms K) K) (gMo_image d mc ms K 55) := zMo_image_55 (fun _ => Le.refl)
def qMo_again_88 (d mc ms : Nat) (B : Nat → Pd) (K : Ps) : Pd := (i_ci 1 (i_zret mc ms K))
theorem zMo_again_88 {d mc ms : Nat} {B : Nat → Pd} {K : Ps} (hB : ∀ pc, Le (B pc) (G cMo_again "VoyageCompanyModel" 3 (some .boolean) "again" (rm (d + 1) mc ms) (QM mc ms K) pc)) : Le (qMo_again_88 d mc ms B K) (G cMo_again "VoyageCompanyModel" 3 (some .boolean) "again" (rm (d + 1) mc ms) (QM mc ms K) 88) := by
  unfold qMo_again_88
  exact (s_iconst (n := 1) (v := 1) (by decide +kernel) (by decide +kernel) (s_zret (by decide +kernel) rfl))
def qMo_again_63 (d mc ms : Nat) (B : Nat → Pd) (K : Ps) : Pd := (i_ald 0 (i_getr 12 1 (i_ild 2 (i_ald 0 (i_getr 12 1 (i_ci 40 (i_ild 1 (i_ci 1 (i_iadd (i_imul (i_ild 2 (i_iadd (i_lald (i_last (i_inc 2 1 (B 57))))))))))))))))
theorem zMo_again_63 {d mc ms : Nat} {B : Nat → Pd} {K : Ps} (hB : ∀ pc, Le (B pc) (G cMo_again "VoyageCompanyModel" 3 (some .boolean) "again" (rm (d + 1) mc ms) (QM mc ms K) pc)) : Le (qMo_again_63 d mc ms B K) (G cMo_again "VoyageCompanyModel" 3 (some .boolean) "again" (rm (d + 1) mc ms) (QM mc ms K) 63) := by
  unfold qMo_again_63
  exact (s_ald_n (j := 0) (by decide +kernel) rfl (s_getr (idx := 14) (by decide +kernel) fl12_14 (by decide) (s_ild_n (j := 2) (by decide +kernel) rfl (s_ald_n (j := 0) (by decide +kernel) rfl (s_getr (idx := 14) (by decide +kernel) fl12_14 (by decide) (s_bipush (n := 40) (v := 40) (by decide +kernel) (by decide +kernel) (s_ild_n (j := 1) (by decide +kernel) rfl (s_iconst (n := 1) (v := 1) (by decide +kernel) (by decide +kernel) (s_iadd (by decide +kernel) (s_imul (by decide +kernel) (s_ild_n (j := 2) (by decide +kernel) rfl (s_iadd (by decide +kernel) (s_lald (by decide +kernel) (s_last (by decide +kernel) (s_inc (z := 1) (by decide +kernel) (by decide +kernel) (by decide) (s_goto (off := (-28)) (tgt := 57) (by decide +kernel) (by decide) (hB 57)))))))))))))))))
def qMo_again_57 (d mc ms : Nat) (B : Nat → Pd) (K : Ps) : Pd := (i_ild 2 (i_ci 40 (i_ic_ge (qMo_again_88 d mc ms B K) (qMo_again_63 d mc ms B K))))
theorem zMo_again_57 {d mc ms : Nat} {B : Nat → Pd} {K : Ps} (hB : ∀ pc, Le (B pc) (G cMo_again "VoyageCompanyModel" 3 (some .boolean) "again" (rm (d + 1) mc ms) (QM mc ms K) pc)) : Le (qMo_again_57 d mc ms B K) (G cMo_again "VoyageCompanyModel" 3 (some .boolean) "again" (rm (d + 1) mc ms) (QM mc ms K) 57) := by
  unfold qMo_again_57
  exact (s_ild_n (j := 2) (by decide +kernel) rfl (s_bipush (n := 40) (v := 40) (by decide +kernel) (by decide +kernel) (s_ic_ge (off := 28) (tgt := 88) (by decide +kernel) (by decide) (zMo_again_88 hB) (zMo_again_63 hB))))
def qMo_again_55 (d mc ms : Nat) (B : Nat → Pd) (K : Ps) : Pd := (i_ci 0 (i_ist 2 (B 57)))
theorem zMo_again_55 {d mc ms : Nat} {B : Nat → Pd} {K : Ps} (hB : ∀ pc, Le (B pc) (G cMo_again "VoyageCompanyModel" 3 (some .boolean) "again" (rm (d + 1) mc ms) (QM mc ms K) pc)) : Le (qMo_again_55 d mc ms B K) (G cMo_again "VoyageCompanyModel" 3 (some .boolean) "again" (rm (d + 1) mc ms) (QM mc ms K) 55) := by
  unfold qMo_again_55
  exact (s_iconst (n := 0) (v := 0) (by decide +kernel) (by decide +kernel) (s_ist_n (j := 2) (by decide +kernel) rfl (by decide) (hB 57)))
def qMo_again_29 (d mc ms : Nat) (B : Nat → Pd) (K : Ps) : Pd := (i_ald 0 (i_getr 12 0 (i_ild 2 (i_ald 0 (i_getr 12 0 (i_ci 17600 (i_ild 1 (i_ci 1 (i_iadd (i_imul (i_ild 2 (i_iadd (i_iald (i_iast (i_inc 2 1 (B 22))))))))))))))))
theorem zMo_again_29 {d mc ms : Nat} {B : Nat → Pd} {K : Ps} (hB : ∀ pc, Le (B pc) (G cMo_again "VoyageCompanyModel" 3 (some .boolean) "again" (rm (d + 1) mc ms) (QM mc ms K) pc)) : Le (qMo_again_29 d mc ms B K) (G cMo_again "VoyageCompanyModel" 3 (some .boolean) "again" (rm (d + 1) mc ms) (QM mc ms K) 29) := by
  unfold qMo_again_29
  exact (s_ald_n (j := 0) (by decide +kernel) rfl (s_getr (idx := 8) (by decide +kernel) fl12_8 (by decide) (s_ild_n (j := 2) (by decide +kernel) rfl (s_ald_n (j := 0) (by decide +kernel) rfl (s_getr (idx := 8) (by decide +kernel) fl12_8 (by decide) (s_sipush (n := 17600) (v := 17600) (by decide +kernel) (by decide +kernel) (s_ild_n (j := 1) (by decide +kernel) rfl (s_iconst (n := 1) (v := 1) (by decide +kernel) (by decide +kernel) (s_iadd (by decide +kernel) (s_imul (by decide +kernel) (s_ild_n (j := 2) (by decide +kernel) rfl (s_iadd (by decide +kernel) (s_iald (by decide +kernel) (s_iast (by decide +kernel) (s_inc (z := 1) (by decide +kernel) (by decide +kernel) (by decide) (s_goto (off := (-30)) (tgt := 22) (by decide +kernel) (by decide) (hB 22)))))))))))))))))
def qMo_again_22 (d mc ms : Nat) (B : Nat → Pd) (K : Ps) : Pd := (i_ild 2 (i_ci 17600 (i_ic_ge (qMo_again_55 d mc ms B K) (qMo_again_29 d mc ms B K))))
theorem zMo_again_22 {d mc ms : Nat} {B : Nat → Pd} {K : Ps} (hB : ∀ pc, Le (B pc) (G cMo_again "VoyageCompanyModel" 3 (some .boolean) "again" (rm (d + 1) mc ms) (QM mc ms K) pc)) : Le (qMo_again_22 d mc ms B K) (G cMo_again "VoyageCompanyModel" 3 (some .boolean) "again" (rm (d + 1) mc ms) (QM mc ms K) 22) := by
  unfold qMo_again_22
  exact (s_ild_n (j := 2) (by decide +kernel) rfl (s_sipush (n := 17600) (v := 17600) (by decide +kernel) (by decide +kernel) (s_ic_ge (off := 29) (tgt := 55) (by decide +kernel) (by decide) (zMo_again_55 hB) (zMo_again_29 hB))))
def qMo_again_20 (d mc ms : Nat) (B : Nat → Pd) (K : Ps) : Pd := (i_ci 0 (i_ist 2 (B 22)))
theorem zMo_again_20 {d mc ms : Nat} {B : Nat → Pd} {K : Ps} (hB : ∀ pc, Le (B pc) (G cMo_again "VoyageCompanyModel" 3 (some .boolean) "again" (rm (d + 1) mc ms) (QM mc ms K) pc)) : Le (qMo_again_20 d mc ms B K) (G cMo_again "VoyageCompanyModel" 3 (some .boolean) "again" (rm (d + 1) mc ms) (QM mc ms K) 20) := by
  unfold qMo_again_20
  exact (s_iconst (n := 0) (v := 0) (by decide +kernel) (by decide +kernel) (s_ist_n (j := 2) (by decide +kernel) rfl (by decide) (hB 22)))
def qMo_again_18 (d mc ms : Nat) (B : Nat → Pd) (K : Ps) : Pd := (i_ci 0 (i_zret mc ms K))
theorem zMo_again_18 {d mc ms : Nat} {B : Nat → Pd} {K : Ps} (hB : ∀ pc, Le (B pc) (G cMo_again "VoyageCompanyModel" 3 (some .boolean) "again" (rm (d + 1) mc ms) (QM mc ms K) pc)) : Le (qMo_again_18 d mc ms B K) (G cMo_again "VoyageCompanyModel" 3 (some .boolean) "again" (rm (d + 1) mc ms) (QM mc ms K) 18) := by
  unfold qMo_again_18
  exact (s_iconst (n := 0) (v := 0) (by decide +kernel) (by decide +kernel) (s_zret (by decide +kernel) rfl))
def qMo_again_9 (d mc ms : Nat) (B : Nat → Pd) (K : Ps) : Pd := (i_ald 0 (i_getr 12 2 (i_ild 1 (i_zald (i_if_ne (qMo_again_20 d mc ms B K) (qMo_again_18 d mc ms B K))))))
theorem zMo_again_9 {d mc ms : Nat} {B : Nat → Pd} {K : Ps} (hB : ∀ pc, Le (B pc) (G cMo_again "VoyageCompanyModel" 3 (some .boolean) "again" (rm (d + 1) mc ms) (QM mc ms K) pc)) : Le (qMo_again_9 d mc ms B K) (G cMo_again "VoyageCompanyModel" 3 (some .boolean) "again" (rm (d + 1) mc ms) (QM mc ms K) 9) := by
  unfold qMo_again_9
  exact (s_ald_n (j := 0) (by decide +kernel) rfl (s_getr (idx := 18) (by decide +kernel) fl12_18 (by decide) (s_ild_n (j := 1) (by decide +kernel) rfl (s_zald (by decide +kernel) (s_if_ne (off := 5) (tgt := 20) (by decide +kernel) (by decide) (zMo_again_20 hB) (zMo_again_18 hB))))))
def qMo_again_0 (d mc ms : Nat) (B : Nat → Pd) (K : Ps) : Pd := (i_ild 1 (i_ci 0 (i_ci 2 (i_call 2 12 yMo_isIn cMo_isIn 3 (some .boolean) mc ms d 3 (i_if_eq (qMo_again_18 d mc ms B K) (qMo_again_9 d mc ms B K))))))
theorem zMo_again_0 {d mc ms : Nat} {B : Nat → Pd} {K : Ps} (hB : ∀ pc, Le (B pc) (G cMo_again "VoyageCompanyModel" 3 (some .boolean) "again" (rm (d + 1) mc ms) (QM mc ms K) pc)) : Le (qMo_again_0 d mc ms B K) (G cMo_again "VoyageCompanyModel" 3 (some .boolean) "again" (rm (d + 1) mc ms) (QM mc ms K) 0) := by
  unfold qMo_again_0
  exact (s_ild_n (j := 1) (by decide +kernel) rfl (s_iconst (n := 0) (v := 0) (by decide +kernel) (by decide +kernel) (s_iconst (n := 2) (v := 2) (by decide +kernel) (by decide +kernel) (s_call (idx := 25) (by decide +kernel) ml12_25 rmk (s_if_eq (off := 12) (tgt := 18) (by decide +kernel) (by decide) (zMo_again_18 hB) (zMo_again_9 hB))))))
/-- VoyageCompanyModel.again(I)Z, at its places -/
def gMo_again (d mc ms : Nat) (K : Ps) : Nat → Pd := G cMo_again "VoyageCompanyModel" 3 (some .boolean) "again" (rm (d + 1) mc ms) (QM mc ms K)
theorem eMo_again {d mc ms : Nat} {K : Ps} {av : List Value} {E : Nat → Prop} {R : Nat → Nat → Value} {I : Nat → Nat → Int32} {J : Nat → Nat → Int64} (hn : (lg_sl av).length ≤ 3) (h : qMo_again_0 d mc ms (gMo_again d mc ms K) K (lv_args 0 av) [] E R I J 0 0) : CL yMo_again cMo_again 3 (some .boolean) (d + 1) mc ms av E R I J K :=
  CL.of (by decide +kernel) hn (zMo_again_0 (fun _ => Le.refl) _ _ _ _ _ _ _ _ h)
theorem lMo_again_22 {d mc ms : Nat} {K : Ps} : Le (qMo_again_22 d mc ms (gMo_again d mc ms K) K) (gMo_again d mc ms K 22) := zMo_again_22 (fun _ => Le.refl)
theorem lMo_again_57 {d mc ms : Nat} {K : Ps} : Le (qMo_again_57 d mc ms (gMo_again d mc ms K) K) (gMo_again d mc ms K 57) := zMo_again_57 (fun _ => Le.refl)

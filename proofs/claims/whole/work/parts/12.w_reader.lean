theorem fl6_12 : FL "VoyageCompany$Reader" 12 6 0 := ⟨by decide, by decide, by decide +kernel, by decide +kernel⟩
theorem fl6_21 : FL "VoyageCompany$Reader" 21 6 3 := ⟨by decide, by decide, by decide +kernel, by decide +kernel⟩
theorem fl6_25 : FL "VoyageCompany$Reader" 25 6 1 := ⟨by decide, by decide, by decide +kernel, by decide +kernel⟩
theorem fl6_29 : FL "VoyageCompany$Reader" 29 6 2 := ⟨by decide, by decide, by decide +kernel, by decide +kernel⟩
theorem fl6_32 : FL "VoyageCompany$Reader" 32 3 0 := ⟨by decide, by decide, by decide +kernel, by decide +kernel⟩
theorem fl6_35 : FL "VoyageCompany$Reader" 35 6 4 := ⟨by decide, by decide, by decide +kernel, by decide +kernel⟩
theorem fl6_42 : FL "VoyageCompany$Reader" 42 10 4 := ⟨by decide, by decide, by decide +kernel, by decide +kernel⟩
theorem fl6_52 : FL "VoyageCompany$Reader" 52 10 2 := ⟨by decide, by decide, by decide +kernel, by decide +kernel⟩
theorem fl6_86 : FL "VoyageCompany$Reader" 86 6 5 := ⟨by decide, by decide, by decide +kernel, by decide +kernel⟩
theorem fl6_93 : FL "VoyageCompany$Reader" 93 6 6 := ⟨by decide, by decide, by decide +kernel, by decide +kernel⟩
theorem fl6_100 : FL "VoyageCompany$Reader" 100 6 7 := ⟨by decide, by decide, by decide +kernel, by decide +kernel⟩
theorem fl6_103 : FL "VoyageCompany$Reader" 103 10 5 := ⟨by decide, by decide, by decide +kernel, by decide +kernel⟩
theorem fl6_110 : FL "VoyageCompany$Reader" 110 6 8 := ⟨by decide, by decide, by decide +kernel, by decide +kernel⟩
theorem fl6_113 : FL "VoyageCompany$Reader" 113 6 9 := ⟨by decide, by decide, by decide +kernel, by decide +kernel⟩
theorem fl6_116 : FL "VoyageCompany$Reader" 116 6 10 := ⟨by decide, by decide, by decide +kernel, by decide +kernel⟩
theorem fl10_9 : FL "VoyageCompany$Tokens" 9 10 0 := ⟨by decide, by decide, by decide +kernel, by decide +kernel⟩
theorem fl10_15 : FL "VoyageCompany$Tokens" 15 9 0 := ⟨by decide, by decide, by decide +kernel, by decide +kernel⟩
theorem fl10_18 : FL "VoyageCompany$Tokens" 18 9 1 := ⟨by decide, by decide, by decide +kernel, by decide +kernel⟩
theorem fl10_28 : FL "VoyageCompany$Tokens" 28 10 1 := ⟨by decide, by decide, by decide +kernel, by decide +kernel⟩
theorem fl10_29 : FL "VoyageCompany$Tokens" 29 10 3 := ⟨by decide, by decide, by decide +kernel, by decide +kernel⟩
theorem fl10_39 : FL "VoyageCompany$Tokens" 39 10 2 := ⟨by decide, by decide, by decide +kernel, by decide +kernel⟩
theorem fl10_42 : FL "VoyageCompany$Tokens" 42 10 4 := ⟨by decide, by decide, by decide +kernel, by decide +kernel⟩
theorem fl10_68 : FL "VoyageCompany$Tokens" 68 10 5 := ⟨by decide, by decide, by decide +kernel, by decide +kernel⟩
theorem ml6_11 : ML "VoyageCompany$Reader" 11 1 3 yOrders_new cOrders_new 1 none 1 := by unfold ML; decide +kernel
theorem ml6_20 : ML "VoyageCompany$Reader" 20 1 10 yTokens_new cTokens_new 1 none 1 := by unfold ML; decide +kernel
theorem ml6_38 : ML "VoyageCompany$Reader" 38 0 10 yTokens_open cTokens_open 2 none 2 := by unfold ML; decide +kernel
theorem ml6_45 : ML "VoyageCompany$Reader" 45 0 6 yReader_take cReader_take 2 (some .int) 2 := by unfold ML; decide +kernel
theorem ml6_49 : ML "VoyageCompany$Reader" 49 0 10 yTokens_step cTokens_step 1 none 1 := by unfold ML; decide +kernel
theorem ml6_55 : ML "VoyageCompany$Reader" 55 0 6 yReader_takeLine cReader_takeLine 1 (some .int) 1 := by unfold ML; decide +kernel
theorem ml6_59 : ML "VoyageCompany$Reader" 59 0 6 yReader_takeWhat cReader_takeWhat 1 (some .int) 1 := by unfold ML; decide +kernel
theorem ml6_62 : ML "VoyageCompany$Reader" 62 0 6 yReader_takePricedGood cReader_takePricedGood 1 (some .int) 1 := by unfold ML; decide +kernel
theorem ml6_65 : ML "VoyageCompany$Reader" 65 0 6 yReader_takeComparison cReader_takeComparison 2 (some .int) 1 := by unfold ML; decide +kernel
theorem ml6_68 : ML "VoyageCompany$Reader" 68 0 6 yReader_takeTestNumber cReader_takeTestNumber 1 (some .int) 1 := by unfold ML; decide +kernel
theorem ml6_71 : ML "VoyageCompany$Reader" 71 0 6 yReader_takeAndOrColon cReader_takeAndOrColon 1 (some .int) 1 := by unfold ML; decide +kernel
theorem ml6_74 : ML "VoyageCompany$Reader" 74 0 6 yReader_takeAct cReader_takeAct 1 (some .int) 1 := by unfold ML; decide +kernel
theorem ml6_77 : ML "VoyageCompany$Reader" 77 0 6 yReader_takeActGood cReader_takeActGood 1 (some .int) 1 := by unfold ML; decide +kernel
theorem ml6_80 : ML "VoyageCompany$Reader" 80 0 6 yReader_takeActNumber cReader_takeActNumber 1 (some .int) 1 := by unfold ML; decide +kernel
theorem ml6_83 : ML "VoyageCompany$Reader" 83 0 6 yReader_takeStop cReader_takeStop 1 (some .int) 1 := by unfold ML; decide +kernel
theorem ml6_89 : ML "VoyageCompany$Reader" 89 0 6 yReader_mark cReader_mark 2 none 2 := by unfold ML; decide +kernel
theorem ml6_96 : ML "VoyageCompany$Reader" 96 0 6 yReader_isAtBales cReader_isAtBales 1 (some .boolean) 1 := by unfold ML; decide +kernel
theorem ml6_106 : ML "VoyageCompany$Reader" 106 0 3 yOrders_putTest cOrders_putTest 7 none 6 := by unfold ML; decide +kernel
theorem ml6_123 : ML "VoyageCompany$Reader" 123 0 3 yOrders_putLine cOrders_putLine 6 none 6 := by unfold ML; decide +kernel
theorem ml10_22 : ML "VoyageCompany$Tokens" 22 2 0 yJmath_min cJmath_min 2 (some .int) 2 := by unfold ML; decide +kernel
theorem ml10_32 : ML "VoyageCompany$Tokens" 32 0 10 yTokens_step cTokens_step 1 none 1 := by unfold ML; decide +kernel
theorem ml10_35 : ML "VoyageCompany$Tokens" 35 0 10 yTokens_behindBlanks cTokens_behindBlanks 3 (some .int) 2 := by unfold ML; decide +kernel
theorem ml10_45 : ML "VoyageCompany$Tokens" 45 2 10 yTokens_isDigit cTokens_isDigit 1 (some .boolean) 1 := by unfold ML; decide +kernel
theorem ml10_49 : ML "VoyageCompany$Tokens" 49 0 10 yTokens_behindDigits cTokens_behindDigits 3 (some .int) 2 := by unfold ML; decide +kernel
theorem ml10_52 : ML "VoyageCompany$Tokens" 52 0 10 yTokens_readNumber cTokens_readNumber 2 none 1 := by unfold ML; decide +kernel
theorem ml10_55 : ML "VoyageCompany$Tokens" 55 2 10 yTokens_isLetter cTokens_isLetter 1 (some .boolean) 1 := by unfold ML; decide +kernel
theorem ml10_58 : ML "VoyageCompany$Tokens" 58 0 10 yTokens_behindLetters cTokens_behindLetters 3 (some .int) 2 := by unfold ML; decide +kernel
theorem ml10_61 : ML "VoyageCompany$Tokens" 61 0 10 yTokens_wordCode cTokens_wordCode 1 (some .int) 1 := by unfold ML; decide +kernel
theorem ml10_65 : ML "VoyageCompany$Tokens" 65 2 10 yTokens_signCode cTokens_signCode 1 (some .int) 1 := by unfold ML; decide +kernel
theorem ml10_73 : ML "VoyageCompany$Tokens" 73 0 10 yTokens_spells cTokens_spells 3 (some .boolean) 2 := by unfold ML; decide +kernel
def qTokens_new_0 (d mc ms : Nat) (B : Nat → Pd) (K : Ps) : Pd := (i_ald 0 (i_obj (i_ald 0 (i_ci 0 (i_newi 13 mc ms (i_putr 10 0 (i_vret mc ms K)))))))
theorem zTokens_new_0 {d mc ms : Nat} {B : Nat → Pd} {K : Ps} (hB : ∀ pc, Le (B pc) (G cTokens_new "VoyageCompany$Tokens" 1 none "<init>" (rm (d + 1) mc ms) (QM mc ms K) pc)) : Le (qTokens_new_0 d mc ms B K) (G cTokens_new "VoyageCompany$Tokens" 1 none "<init>" (rm (d + 1) mc ms) (QM mc ms K) 0) := by
  unfold qTokens_new_0
  exact (s_ald_n (j := 0) (by decide +kernel) rfl (s_obj (idx := 3) (by decide +kernel) (lw_gm (by decide +kernel) (by decide +kernel)) rmo (s_ald_n (j := 0) (by decide +kernel) rfl (s_iconst (n := 0) (v := 0) (by decide +kernel) (by decide +kernel) (s_newi (at_ := .byte) (by decide +kernel) (by decide) (by decide) (lw_gm (by decide +kernel) (by decide +kernel)) rmn (s_putr (idx := 9) (by decide +kernel) fl10_9 (by decide) (by decide) (Or.inl (by decide +kernel)) (s_vret (by decide +kernel) rfl)))))))
/-- VoyageCompany$Tokens.<init>()V, at its places -/
def gTokens_new (d mc ms : Nat) (K : Ps) : Nat → Pd := G cTokens_new "VoyageCompany$Tokens" 1 none "<init>" (rm (d + 1) mc ms) (QM mc ms K)
theorem eTokens_new {d mc ms : Nat} {K : Ps} {av : List Value} {E : Nat → Prop} {R : Nat → Nat → Value} {I : Nat → Nat → Int32} {J : Nat → Nat → Int64} (hn : (lg_sl av).length ≤ 1) (h : qTokens_new_0 d mc ms (gTokens_new d mc ms K) K (lv_args 0 av) [] E R I J 0 0) : CL yTokens_new cTokens_new 1 none (d + 1) mc ms av E R I J K :=
  CL.of (by decide +kernel) hn (zTokens_new_0 (fun _ => Le.refl) _ _ _ _ _ _ _ _ h)
def qTokens_open_0 (d mc ms : Nat) (B : Nat → Pd) (K : Ps) : Pd := (i_ald 0 (i_ald 1 (i_getr 9 0 (i_putr 10 0 (i_ald 0 (i_ald 1 (i_geti 9 1 (i_ald 0 (i_getr 10 0 (i_alen (i_call 2 0 yJmath_min cJmath_min 2 (some .int) mc ms d 2 (i_puti 10 1 (i_ald 0 (i_ci 0 (i_puti 10 3 (i_ald 0 (i_call 0 10 yTokens_step cTokens_step 1 none mc ms d 1 (i_vret mc ms K))))))))))))))))))
theorem zTokens_open_0 {d mc ms : Nat} {B : Nat → Pd} {K : Ps} (hB : ∀ pc, Le (B pc) (G cTokens_open "VoyageCompany$Tokens" 2 none "open" (rm (d + 1) mc ms) (QM mc ms K) pc)) : Le (qTokens_open_0 d mc ms B K) (G cTokens_open "VoyageCompany$Tokens" 2 none "open" (rm (d + 1) mc ms) (QM mc ms K) 0) := by
  unfold qTokens_open_0
  exact (s_ald_n (j := 0) (by decide +kernel) rfl (s_ald_n (j := 1) (by decide +kernel) rfl (s_getr (idx := 15) (by decide +kernel) fl10_15 (by decide) (s_putr (idx := 9) (by decide +kernel) fl10_9 (by decide) (by decide) (Or.inl (by decide +kernel)) (s_ald_n (j := 0) (by decide +kernel) rfl (s_ald_n (j := 1) (by decide +kernel) rfl (s_geti (idx := 18) (by decide +kernel) fl10_18 (by decide) (s_ald_n (j := 0) (by decide +kernel) rfl (s_getr (idx := 9) (by decide +kernel) fl10_9 (by decide) (s_alen (by decide +kernel) (s_call (idx := 22) (by decide +kernel) ml10_22 rmk (s_puti (idx := 28) (by decide +kernel) fl10_28 (by decide) (by decide) (Or.inl (by decide +kernel)) (s_ald_n (j := 0) (by decide +kernel) rfl (s_iconst (n := 0) (v := 0) (by decide +kernel) (by decide +kernel) (s_puti (idx := 29) (by decide +kernel) fl10_29 (by decide) (by decide) (Or.inl (by decide +kernel)) (s_ald_n (j := 0) (by decide +kernel) rfl (s_call (idx := 32) (by decide +kernel) ml10_32 rmk (s_vret (by decide +kernel) rfl))))))))))))))))))
/-- VoyageCompany$Tokens.open(LVoyageCompany$Tape;)V, at its places -/
def gTokens_open (d mc ms : Nat) (K : Ps) : Nat → Pd := G cTokens_open "VoyageCompany$Tokens" 2 none "open" (rm (d + 1) mc ms) (QM mc ms K)
theorem eTokens_open {d mc ms : Nat} {K : Ps} {av : List Value} {E : Nat → Prop} {R : Nat → Nat → Value} {I : Nat → Nat → Int32} {J : Nat → Nat → Int64} (hn : (lg_sl av).length ≤ 2) (h : qTokens_open_0 d mc ms (gTokens_open d mc ms K) K (lv_args 0 av) [] E R I J 0 0) : CL yTokens_open cTokens_open 2 none (d + 1) mc ms av E R I J K :=
  CL.of (by decide +kernel) hn (zTokens_open_0 (fun _ => Le.refl) _ _ _ _ _ _ _ _ h)
def qTokens_step_137 (d mc ms : Nat) (B : Nat → Pd) (K : Ps) : Pd := (i_vret mc ms K)
theorem zTokens_step_137 {d mc ms : Nat} {B : Nat → Pd} {K : Ps} (hB : ∀ pc, Le (B pc) (G cTokens_step "VoyageCompany$Tokens" 1 none "step" (rm (d + 1) mc ms) (QM mc ms K) pc)) : Le (qTokens_step_137 d mc ms B K) (G cTokens_step "VoyageCompany$Tokens" 1 none "step" (rm (d + 1) mc ms) (QM mc ms K) 137) := by
  unfold qTokens_step_137
  exact (s_vret (by decide +kernel) rfl)
def qTokens_step_111 (d mc ms : Nat) (B : Nat → Pd) (K : Ps) : Pd := (i_ald 0 (i_ald 0 (i_geti 10 2 (i_ci 1 (i_iadd (i_puti 10 3 (i_ald 0 (i_ald 0 (i_getr 10 0 (i_ald 0 (i_geti 10 2 (i_bald (i_call 2 10 yTokens_signCode cTokens_signCode 1 (some .int) mc ms d 1 (i_puti 10 4 (qTokens_step_137 d mc ms B K)))))))))))))))
theorem zTokens_step_111 {d mc ms : Nat} {B : Nat → Pd} {K : Ps} (hB : ∀ pc, Le (B pc) (G cTokens_step "VoyageCompany$Tokens" 1 none "step" (rm (d + 1) mc ms) (QM mc ms K) pc)) : Le (qTokens_step_111 d mc ms B K) (G cTokens_step "VoyageCompany$Tokens" 1 none "step" (rm (d + 1) mc ms) (QM mc ms K) 111) := by
  unfold qTokens_step_111
  exact (s_ald_n (j := 0) (by decide +kernel) rfl (s_ald_n (j := 0) (by decide +kernel) rfl (s_geti (idx := 39) (by decide +kernel) fl10_39 (by decide) (s_iconst (n := 1) (v := 1) (by decide +kernel) (by decide +kernel) (s_iadd (by decide +kernel) (s_puti (idx := 29) (by decide +kernel) fl10_29 (by decide) (by decide) (Or.inl (by decide +kernel)) (s_ald_n (j := 0) (by decide +kernel) rfl (s_ald_n (j := 0) (by decide +kernel) rfl (s_getr (idx := 9) (by decide +kernel) fl10_9 (by decide) (s_ald_n (j := 0) (by decide +kernel) rfl (s_geti (idx := 39) (by decide +kernel) fl10_39 (by decide) (s_bald (by decide +kernel) (s_call (idx := 65) (by decide +kernel) ml10_65 rmk (s_puti (idx := 42) (by decide +kernel) fl10_42 (by decide) (by decide) (Or.inl (by decide +kernel)) (zTokens_step_137 hB)))))))))))))))
def qTokens_step_88 (d mc ms : Nat) (B : Nat → Pd) (K : Ps) : Pd := (i_ald 0 (i_ald 0 (i_ald 0 (i_geti 10 2 (i_call 0 10 yTokens_behindLetters cTokens_behindLetters 3 (some .int) mc ms d 2 (i_puti 10 3 (i_ald 0 (i_ald 0 (i_call 0 10 yTokens_wordCode cTokens_wordCode 1 (some .int) mc ms d 1 (i_puti 10 4 (qTokens_step_137 d mc ms B K)))))))))))
theorem zTokens_step_88 {d mc ms : Nat} {B : Nat → Pd} {K : Ps} (hB : ∀ pc, Le (B pc) (G cTokens_step "VoyageCompany$Tokens" 1 none "step" (rm (d + 1) mc ms) (QM mc ms K) pc)) : Le (qTokens_step_88 d mc ms B K) (G cTokens_step "VoyageCompany$Tokens" 1 none "step" (rm (d + 1) mc ms) (QM mc ms K) 88) := by
  unfold qTokens_step_88
  exact (s_ald_n (j := 0) (by decide +kernel) rfl (s_ald_n (j := 0) (by decide +kernel) rfl (s_ald_n (j := 0) (by decide +kernel) rfl (s_geti (idx := 39) (by decide +kernel) fl10_39 (by decide) (s_call (idx := 58) (by decide +kernel) ml10_58 rmk (s_puti (idx := 29) (by decide +kernel) fl10_29 (by decide) (by decide) (Or.inl (by decide +kernel)) (s_ald_n (j := 0) (by decide +kernel) rfl (s_ald_n (j := 0) (by decide +kernel) rfl (s_call (idx := 61) (by decide +kernel) ml10_61 rmk (s_puti (idx := 42) (by decide +kernel) fl10_42 (by decide) (by decide) (Or.inl (by decide +kernel)) (s_goto (off := 29) (tgt := 137) (by decide +kernel) (by decide) (zTokens_step_137 hB))))))))))))
def qTokens_step_73 (d mc ms : Nat) (B : Nat → Pd) (K : Ps) : Pd := (i_ald 0 (i_getr 10 0 (i_ald 0 (i_geti 10 2 (i_bald (i_call 2 10 yTokens_isLetter cTokens_isLetter 1 (some .boolean) mc ms d 1 (i_if_eq (qTokens_step_111 d mc ms B K) (qTokens_step_88 d mc ms B K))))))))
theorem zTokens_step_73 {d mc ms : Nat} {B : Nat → Pd} {K : Ps} (hB : ∀ pc, Le (B pc) (G cTokens_step "VoyageCompany$Tokens" 1 none "step" (rm (d + 1) mc ms) (QM mc ms K) pc)) : Le (qTokens_step_73 d mc ms B K) (G cTokens_step "VoyageCompany$Tokens" 1 none "step" (rm (d + 1) mc ms) (QM mc ms K) 73) := by
  unfold qTokens_step_73
  exact (s_ald_n (j := 0) (by decide +kernel) rfl (s_getr (idx := 9) (by decide +kernel) fl10_9 (by decide) (s_ald_n (j := 0) (by decide +kernel) rfl (s_geti (idx := 39) (by decide +kernel) fl10_39 (by decide) (s_bald (by decide +kernel) (s_call (idx := 55) (by decide +kernel) ml10_55 rmk (s_if_eq (off := 26) (tgt := 111) (by decide +kernel) (by decide) (zTokens_step_111 hB) (zTokens_step_88 hB))))))))
def qTokens_step_54 (d mc ms : Nat) (B : Nat → Pd) (K : Ps) : Pd := (i_ald 0 (i_ald 0 (i_ald 0 (i_geti 10 2 (i_call 0 10 yTokens_behindDigits cTokens_behindDigits 3 (some .int) mc ms d 2 (i_puti 10 3 (i_ald 0 (i_call 0 10 yTokens_readNumber cTokens_readNumber 2 none mc ms d 1 (qTokens_step_137 d mc ms B K)))))))))
theorem zTokens_step_54 {d mc ms : Nat} {B : Nat → Pd} {K : Ps} (hB : ∀ pc, Le (B pc) (G cTokens_step "VoyageCompany$Tokens" 1 none "step" (rm (d + 1) mc ms) (QM mc ms K) pc)) : Le (qTokens_step_54 d mc ms B K) (G cTokens_step "VoyageCompany$Tokens" 1 none "step" (rm (d + 1) mc ms) (QM mc ms K) 54) := by
  unfold qTokens_step_54
  exact (s_ald_n (j := 0) (by decide +kernel) rfl (s_ald_n (j := 0) (by decide +kernel) rfl (s_ald_n (j := 0) (by decide +kernel) rfl (s_geti (idx := 39) (by decide +kernel) fl10_39 (by decide) (s_call (idx := 49) (by decide +kernel) ml10_49 rmk (s_puti (idx := 29) (by decide +kernel) fl10_29 (by decide) (by decide) (Or.inl (by decide +kernel)) (s_ald_n (j := 0) (by decide +kernel) rfl (s_call (idx := 52) (by decide +kernel) ml10_52 rmk (s_goto (off := 67) (tgt := 137) (by decide +kernel) (by decide) (zTokens_step_137 hB))))))))))
def qTokens_step_39 (d mc ms : Nat) (B : Nat → Pd) (K : Ps) : Pd := (i_ald 0 (i_getr 10 0 (i_ald 0 (i_geti 10 2 (i_bald (i_call 2 10 yTokens_isDigit cTokens_isDigit 1 (some .boolean) mc ms d 1 (i_if_eq (qTokens_step_73 d mc ms B K) (qTokens_step_54 d mc ms B K))))))))
theorem zTokens_step_39 {d mc ms : Nat} {B : Nat → Pd} {K : Ps} (hB : ∀ pc, Le (B pc) (G cTokens_step "VoyageCompany$Tokens" 1 none "step" (rm (d + 1) mc ms) (QM mc ms K) pc)) : Le (qTokens_step_39 d mc ms B K) (G cTokens_step "VoyageCompany$Tokens" 1 none "step" (rm (d + 1) mc ms) (QM mc ms K) 39) := by
  unfold qTokens_step_39
  exact (s_ald_n (j := 0) (by decide +kernel) rfl (s_getr (idx := 9) (by decide +kernel) fl10_9 (by decide) (s_ald_n (j := 0) (by decide +kernel) rfl (s_geti (idx := 39) (by decide +kernel) fl10_39 (by decide) (s_bald (by decide +kernel) (s_call (idx := 45) (by decide +kernel) ml10_45 rmk (s_if_eq (off := 22) (tgt := 73) (by decide +kernel) (by decide) (zTokens_step_73 hB) (zTokens_step_54 hB))))))))
def qTokens_step_23 (d mc ms : Nat) (B : Nat → Pd) (K : Ps) : Pd := (i_ald 0 (i_ci 0 (i_puti 10 4 (i_ald 0 (i_ald 0 (i_geti 10 1 (i_puti 10 3 (qTokens_step_137 d mc ms B K))))))))
theorem zTokens_step_23 {d mc ms : Nat} {B : Nat → Pd} {K : Ps} (hB : ∀ pc, Le (B pc) (G cTokens_step "VoyageCompany$Tokens" 1 none "step" (rm (d + 1) mc ms) (QM mc ms K) pc)) : Le (qTokens_step_23 d mc ms B K) (G cTokens_step "VoyageCompany$Tokens" 1 none "step" (rm (d + 1) mc ms) (QM mc ms K) 23) := by
  unfold qTokens_step_23
  exact (s_ald_n (j := 0) (by decide +kernel) rfl (s_iconst (n := 0) (v := 0) (by decide +kernel) (by decide +kernel) (s_puti (idx := 42) (by decide +kernel) fl10_42 (by decide) (by decide) (Or.inl (by decide +kernel)) (s_ald_n (j := 0) (by decide +kernel) rfl (s_ald_n (j := 0) (by decide +kernel) rfl (s_geti (idx := 28) (by decide +kernel) fl10_28 (by decide) (s_puti (idx := 29) (by decide +kernel) fl10_29 (by decide) (by decide) (Or.inl (by decide +kernel)) (s_goto (off := 101) (tgt := 137) (by decide +kernel) (by decide) (zTokens_step_137 hB)))))))))
def qTokens_step_0 (d mc ms : Nat) (B : Nat → Pd) (K : Ps) : Pd := (i_ald 0 (i_ald 0 (i_ald 0 (i_geti 10 3 (i_call 0 10 yTokens_behindBlanks cTokens_behindBlanks 3 (some .int) mc ms d 2 (i_puti 10 2 (i_ald 0 (i_geti 10 2 (i_ald 0 (i_geti 10 1 (i_ic_lt (qTokens_step_39 d mc ms B K) (qTokens_step_23 d mc ms B K))))))))))))
theorem zTokens_step_0 {d mc ms : Nat} {B : Nat → Pd} {K : Ps} (hB : ∀ pc, Le (B pc) (G cTokens_step "VoyageCompany$Tokens" 1 none "step" (rm (d + 1) mc ms) (QM mc ms K) pc)) : Le (qTokens_step_0 d mc ms B K) (G cTokens_step "VoyageCompany$Tokens" 1 none "step" (rm (d + 1) mc ms) (QM mc ms K) 0) := by
  unfold qTokens_step_0
  exact (s_ald_n (j := 0) (by decide +kernel) rfl (s_ald_n (j := 0) (by decide +kernel) rfl (s_ald_n (j := 0) (by decide +kernel) rfl (s_geti (idx := 29) (by decide +kernel) fl10_29 (by decide) (s_call (idx := 35) (by decide +kernel) ml10_35 rmk (s_puti (idx := 39) (by decide +kernel) fl10_39 (by decide) (by decide) (Or.inl (by decide +kernel)) (s_ald_n (j := 0) (by decide +kernel) rfl (s_geti (idx := 39) (by decide +kernel) fl10_39 (by decide) (s_ald_n (j := 0) (by decide +kernel) rfl (s_geti (idx := 28) (by decide +kernel) fl10_28 (by decide) (s_ic_lt (off := 19) (tgt := 39) (by decide +kernel) (by decide) (zTokens_step_39 hB) (zTokens_step_23 hB))))))))))))
/-- VoyageCompany$Tokens.step()V, at its places -/
def gTokens_step (d mc ms : Nat) (K : Ps) : Nat → Pd := G cTokens_step "VoyageCompany$Tokens" 1 none "step" (rm (d + 1) mc ms) (QM mc ms K)
theorem eTokens_step {d mc ms : Nat} {K : Ps} {av : List Value} {E : Nat → Prop} {R : Nat → Nat → Value} {I : Nat → Nat → Int32} {J : Nat → Nat → Int64} (hn : (lg_sl av).length ≤ 1) (h : qTokens_step_0 d mc ms (gTokens_step d mc ms K) K (lv_args 0 av) [] E R I J 0 0) : CL yTokens_step cTokens_step 1 none (d + 1) mc ms av E R I J K :=
  CL.of (by decide +kernel) hn (zTokens_step_0 (fun _ => Le.refl) _ _ _ _ _ _ _ _ h)
def qTokens_behindBlanks_38 (d mc ms : Nat) (B : Nat → Pd) (K : Ps) : Pd := (i_ild 2 (i_iret mc ms K))
theorem zTokens_behindBlanks_38 {d mc ms : Nat} {B : Nat → Pd} {K : Ps} (hB : ∀ pc, Le (B pc) (G cTokens_behindBlanks "VoyageCompany$Tokens" 3 (some .int) "behindBlanks" (rm (d + 1) mc ms) (QM mc ms K) pc)) : Le (qTokens_behindBlanks_38 d mc ms B K) (G cTokens_behindBlanks "VoyageCompany$Tokens" 3 (some .int) "behindBlanks" (rm (d + 1) mc ms) (QM mc ms K) 38) := by
  unfold qTokens_behindBlanks_38
  exact (s_ild_n (j := 2) (by decide +kernel) rfl (s_iret (by decide +kernel) rfl))
def qTokens_behindBlanks_32 (d mc ms : Nat) (B : Nat → Pd) (K : Ps) : Pd := (i_inc 2 1 (B 2))
theorem zTokens_behindBlanks_32 {d mc ms : Nat} {B : Nat → Pd} {K : Ps} (hB : ∀ pc, Le (B pc) (G cTokens_behindBlanks "VoyageCompany$Tokens" 3 (some .int) "behindBlanks" (rm (d + 1) mc ms) (QM mc ms K) pc)) : Le (qTokens_behindBlanks_32 d mc ms B K) (G cTokens_behindBlanks "VoyageCompany$Tokens" 3 (some .int) "behindBlanks" (rm (d + 1) mc ms) (QM mc ms K) 32) := by
  unfold qTokens_behindBlanks_32
  exact (s_inc (z := 1) (by decide +kernel) (by decide +kernel) (by decide) (s_goto (off := (-33)) (tgt := 2) (by decide +kernel) (by decide) (hB 2)))
def qTokens_behindBlanks_21 (d mc ms : Nat) (B : Nat → Pd) (K : Ps) : Pd := (i_ald 0 (i_getr 10 0 (i_ild 2 (i_bald (i_ci 32 (i_ic_ne (qTokens_behindBlanks_38 d mc ms B K) (qTokens_behindBlanks_32 d mc ms B K)))))))
theorem zTokens_behindBlanks_21 {d mc ms : Nat} {B : Nat → Pd} {K : Ps} (hB : ∀ pc, Le (B pc) (G cTokens_behindBlanks "VoyageCompany$Tokens" 3 (some .int) "behindBlanks" (rm (d + 1) mc ms) (QM mc ms K) pc)) : Le (qTokens_behindBlanks_21 d mc ms B K) (G cTokens_behindBlanks "VoyageCompany$Tokens" 3 (some .int) "behindBlanks" (rm (d + 1) mc ms) (QM mc ms K) 21) := by
  unfold qTokens_behindBlanks_21
  exact (s_ald_n (j := 0) (by decide +kernel) rfl (s_getr (idx := 9) (by decide +kernel) fl10_9 (by decide) (s_ild_n (j := 2) (by decide +kernel) rfl (s_bald (by decide +kernel) (s_bipush (n := 32) (v := 32) (by decide +kernel) (by decide +kernel) (s_ic_ne (off := 9) (tgt := 38) (by decide +kernel) (by decide) (zTokens_behindBlanks_38 hB) (zTokens_behindBlanks_32 hB)))))))
def qTokens_behindBlanks_10 (d mc ms : Nat) (B : Nat → Pd) (K : Ps) : Pd := (i_ald 0 (i_getr 10 0 (i_ild 2 (i_bald (i_ci 10 (i_ic_eq (qTokens_behindBlanks_32 d mc ms B K) (qTokens_behindBlanks_21 d mc ms B K)))))))
theorem zTokens_behindBlanks_10 {d mc ms : Nat} {B : Nat → Pd} {K : Ps} (hB : ∀ pc, Le (B pc) (G cTokens_behindBlanks "VoyageCompany$Tokens" 3 (some .int) "behindBlanks" (rm (d + 1) mc ms) (QM mc ms K) pc)) : Le (qTokens_behindBlanks_10 d mc ms B K) (G cTokens_behindBlanks "VoyageCompany$Tokens" 3 (some .int) "behindBlanks" (rm (d + 1) mc ms) (QM mc ms K) 10) := by
  unfold qTokens_behindBlanks_10
  exact (s_ald_n (j := 0) (by decide +kernel) rfl (s_getr (idx := 9) (by decide +kernel) fl10_9 (by decide) (s_ild_n (j := 2) (by decide +kernel) rfl (s_bald (by decide +kernel) (s_bipush (n := 10) (v := 10) (by decide +kernel) (by decide +kernel) (s_ic_eq (off := 14) (tgt := 32) (by decide +kernel) (by decide) (zTokens_behindBlanks_32 hB) (zTokens_behindBlanks_21 hB)))))))
def qTokens_behindBlanks_2 (d mc ms : Nat) (B : Nat → Pd) (K : Ps) : Pd := (i_ild 2 (i_ald 0 (i_geti 10 1 (i_ic_ge (qTokens_behindBlanks_38 d mc ms B K) (qTokens_behindBlanks_10 d mc ms B K)))))
theorem zTokens_behindBlanks_2 {d mc ms : Nat} {B : Nat → Pd} {K : Ps} (hB : ∀ pc, Le (B pc) (G cTokens_behindBlanks "VoyageCompany$Tokens" 3 (some .int) "behindBlanks" (rm (d + 1) mc ms) (QM mc ms K) pc)) : Le (qTokens_behindBlanks_2 d mc ms B K) (G cTokens_behindBlanks "VoyageCompany$Tokens" 3 (some .int) "behindBlanks" (rm (d + 1) mc ms) (QM mc ms K) 2) := by
  unfold qTokens_behindBlanks_2
  exact (s_ild_n (j := 2) (by decide +kernel) rfl (s_ald_n (j := 0) (by decide +kernel) rfl (s_geti (idx := 28) (by decide +kernel) fl10_28 (by decide) (s_ic_ge (off := 31) (tgt := 38) (by decide +kernel) (by decide) (zTokens_behindBlanks_38 hB) (zTokens_behindBlanks_10 hB)))))
def qTokens_behindBlanks_0 (d mc ms : Nat) (B : Nat → Pd) (K : Ps) : Pd := (i_ild 1 (i_ist 2 (B 2)))
theorem zTokens_behindBlanks_0 {d mc ms : Nat} {B : Nat → Pd} {K : Ps} (hB : ∀ pc, Le (B pc) (G cTokens_behindBlanks "VoyageCompany$Tokens" 3 (some .int) "behindBlanks" (rm (d + 1) mc ms) (QM mc ms K) pc)) : Le (qTokens_behindBlanks_0 d mc ms B K) (G cTokens_behindBlanks "VoyageCompany$Tokens" 3 (some .int) "behindBlanks" (rm (d + 1) mc ms) (QM mc ms K) 0) := by
  unfold qTokens_behindBlanks_0
  exact (s_ild_n (j := 1) (by decide +kernel) rfl (s_ist_n (j := 2) (by decide +kernel) rfl (by decide) (hB 2)))
/-- VoyageCompany$Tokens.behindBlanks(I)I, at its places -/
def gTokens_behindBlanks (d mc ms : Nat) (K : Ps) : Nat → Pd := G cTokens_behindBlanks "VoyageCompany$Tokens" 3 (some .int) "behindBlanks" (rm (d + 1) mc ms) (QM mc ms K)
theorem eTokens_behindBlanks {d mc ms : Nat} {K : Ps} {av : List Value} {E : Nat → Prop} {R : Nat → Nat → Value} {I : Nat → Nat → Int32} {J : Nat → Nat → Int64} (hn : (lg_sl av).length ≤ 3) (h : qTokens_behindBlanks_0 d mc ms (gTokens_behindBlanks d mc ms K) K (lv_args 0 av) [] E R I J 0 0) : CL yTokens_behindBlanks cTokens_behindBlanks 3 (some .int) (d + 1) mc ms av E R I J K :=
  CL.of (by decide +kernel) hn (zTokens_behindBlanks_0 (fun _ => Le.refl) _ _ _ _ _ _ _ _ h)
theorem lTokens_behindBlanks_2 {d mc ms : Nat} {K : Ps} : Le (qTokens_behindBlanks_2 d mc ms (gTokens_behindBlanks d mc ms K) K) (gTokens_behindBlanks d mc ms K 2) := zTokens_behindBlanks_2 (fun _ => Le.refl)
def qTokens_behindDigits_28 (d mc ms : Nat) (B : Nat → Pd) (K : Ps) : Pd := (i_ild 2 (i_iret mc ms K))
theorem zTokens_behindDigits_28 {d mc ms : Nat} {B : Nat → Pd} {K : Ps} (hB : ∀ pc, Le (B pc) (G cTokens_behindDigits "VoyageCompany$Tokens" 3 (some .int) "behindDigits" (rm (d + 1) mc ms) (QM mc ms K) pc)) : Le (qTokens_behindDigits_28 d mc ms B K) (G cTokens_behindDigits "VoyageCompany$Tokens" 3 (some .int) "behindDigits" (rm (d + 1) mc ms) (QM mc ms K) 28) := by
  unfold qTokens_behindDigits_28
  exact (s_ild_n (j := 2) (by decide +kernel) rfl (s_iret (by decide +kernel) rfl))
def qTokens_behindDigits_22 (d mc ms : Nat) (B : Nat → Pd) (K : Ps) : Pd := (i_inc 2 1 (B 2))
theorem zTokens_behindDigits_22 {d mc ms : Nat} {B : Nat → Pd} {K : Ps} (hB : ∀ pc, Le (B pc) (G cTokens_behindDigits "VoyageCompany$Tokens" 3 (some .int) "behindDigits" (rm (d + 1) mc ms) (QM mc ms K) pc)) : Le (qTokens_behindDigits_22 d mc ms B K) (G cTokens_behindDigits "VoyageCompany$Tokens" 3 (some .int) "behindDigits" (rm (d + 1) mc ms) (QM mc ms K) 22) := by
  unfold qTokens_behindDigits_22
  exact (s_inc (z := 1) (by decide +kernel) (by decide +kernel) (by decide) (s_goto (off := (-23)) (tgt := 2) (by decide +kernel) (by decide) (hB 2)))
def qTokens_behindDigits_10 (d mc ms : Nat) (B : Nat → Pd) (K : Ps) : Pd := (i_ald 0 (i_getr 10 0 (i_ild 2 (i_bald (i_call 2 10 yTokens_isDigit cTokens_isDigit 1 (some .boolean) mc ms d 1 (i_if_eq (qTokens_behindDigits_28 d mc ms B K) (qTokens_behindDigits_22 d mc ms B K)))))))
theorem zTokens_behindDigits_10 {d mc ms : Nat} {B : Nat → Pd} {K : Ps} (hB : ∀ pc, Le (B pc) (G cTokens_behindDigits "VoyageCompany$Tokens" 3 (some .int) "behindDigits" (rm (d + 1) mc ms) (QM mc ms K) pc)) : Le (qTokens_behindDigits_10 d mc ms B K) (G cTokens_behindDigits "VoyageCompany$Tokens" 3 (some .int) "behindDigits" (rm (d + 1) mc ms) (QM mc ms K) 10) := by
  unfold qTokens_behindDigits_10
  exact (s_ald_n (j := 0) (by decide +kernel) rfl (s_getr (idx := 9) (by decide +kernel) fl10_9 (by decide) (s_ild_n (j := 2) (by decide +kernel) rfl (s_bald (by decide +kernel) (s_call (idx := 45) (by decide +kernel) ml10_45 rmk (s_if_eq (off := 9) (tgt := 28) (by decide +kernel) (by decide) (zTokens_behindDigits_28 hB) (zTokens_behindDigits_22 hB)))))))
def qTokens_behindDigits_2 (d mc ms : Nat) (B : Nat → Pd) (K : Ps) : Pd := (i_ild 2 (i_ald 0 (i_geti 10 1 (i_ic_ge (qTokens_behindDigits_28 d mc ms B K) (qTokens_behindDigits_10 d mc ms B K)))))
theorem zTokens_behindDigits_2 {d mc ms : Nat} {B : Nat → Pd} {K : Ps} (hB : ∀ pc, Le (B pc) (G cTokens_behindDigits "VoyageCompany$Tokens" 3 (some .int) "behindDigits" (rm (d + 1) mc ms) (QM mc ms K) pc)) : Le (qTokens_behindDigits_2 d mc ms B K) (G cTokens_behindDigits "VoyageCompany$Tokens" 3 (some .int) "behindDigits" (rm (d + 1) mc ms) (QM mc ms K) 2) := by
  unfold qTokens_behindDigits_2
  exact (s_ild_n (j := 2) (by decide +kernel) rfl (s_ald_n (j := 0) (by decide +kernel) rfl (s_geti (idx := 28) (by decide +kernel) fl10_28 (by decide) (s_ic_ge (off := 21) (tgt := 28) (by decide +kernel) (by decide) (zTokens_behindDigits_28 hB) (zTokens_behindDigits_10 hB)))))
def qTokens_behindDigits_0 (d mc ms : Nat) (B : Nat → Pd) (K : Ps) : Pd := (i_ild 1 (i_ist 2 (B 2)))
theorem zTokens_behindDigits_0 {d mc ms : Nat} {B : Nat → Pd} {K : Ps} (hB : ∀ pc, Le (B pc) (G cTokens_behindDigits "VoyageCompany$Tokens" 3 (some .int) "behindDigits" (rm (d + 1) mc ms) (QM mc ms K) pc)) : Le (qTokens_behindDigits_0 d mc ms B K) (G cTokens_behindDigits "VoyageCompany$Tokens" 3 (some .int) "behindDigits" (rm (d + 1) mc ms) (QM mc ms K) 0) := by
  unfold qTokens_behindDigits_0
  exact (s_ild_n (j := 1) (by decide +kernel) rfl (s_ist_n (j := 2) (by decide +kernel) rfl (by decide) (hB 2)))
/-- VoyageCompany$Tokens.behindDigits(I)I, at its places -/
def gTokens_behindDigits (d mc ms : Nat) (K : Ps) : Nat → Pd := G cTokens_behindDigits "VoyageCompany$Tokens" 3 (some .int) "behindDigits" (rm (d + 1) mc ms) (QM mc ms K)
theorem eTokens_behindDigits {d mc ms : Nat} {K : Ps} {av : List Value} {E : Nat → Prop} {R : Nat → Nat → Value} {I : Nat → Nat → Int32} {J : Nat → Nat → Int64} (hn : (lg_sl av).length ≤ 3) (h : qTokens_behindDigits_0 d mc ms (gTokens_behindDigits d mc ms K) K (lv_args 0 av) [] E R I J 0 0) : CL yTokens_behindDigits cTokens_behindDigits 3 (some .int) (d + 1) mc ms av E R I J K :=
  CL.of (by decide +kernel) hn (zTokens_behindDigits_0 (fun _ => Le.refl) _ _ _ _ _ _ _ _ h)
theorem lTokens_behindDigits_2 {d mc ms : Nat} {K : Ps} : Le (qTokens_behindDigits_2 d mc ms (gTokens_behindDigits d mc ms K) K) (gTokens_behindDigits d mc ms K 2) := zTokens_behindDigits_2 (fun _ => Le.refl)
def qTokens_behindLetters_28 (d mc ms : Nat) (B : Nat → Pd) (K : Ps) : Pd := (i_ild 2 (i_iret mc ms K))
theorem zTokens_behindLetters_28 {d mc ms : Nat} {B : Nat → Pd} {K : Ps} (hB : ∀ pc, Le (B pc) (G cTokens_behindLetters "VoyageCompany$Tokens" 3 (some .int) "behindLetters" (rm (d + 1) mc ms) (QM mc ms K) pc)) : Le (qTokens_behindLetters_28 d mc ms B K) (G cTokens_behindLetters "VoyageCompany$Tokens" 3 (some .int) "behindLetters" (rm (d + 1) mc ms) (QM mc ms K) 28) := by
  unfold qTokens_behindLetters_28
  exact (s_ild_n (j := 2) (by decide +kernel) rfl (s_iret (by decide +kernel) rfl))
def qTokens_behindLetters_22 (d mc ms : Nat) (B : Nat → Pd) (K : Ps) : Pd := (i_inc 2 1 (B 2))
theorem zTokens_behindLetters_22 {d mc ms : Nat} {B : Nat → Pd} {K : Ps} (hB : ∀ pc, Le (B pc) (G cTokens_behindLetters "VoyageCompany$Tokens" 3 (some .int) "behindLetters" (rm (d + 1) mc ms) (QM mc ms K) pc)) : Le (qTokens_behindLetters_22 d mc ms B K) (G cTokens_behindLetters "VoyageCompany$Tokens" 3 (some .int) "behindLetters" (rm (d + 1) mc ms) (QM mc ms K) 22) := by
  unfold qTokens_behindLetters_22
  exact (s_inc (z := 1) (by decide +kernel) (by decide +kernel) (by decide) (s_goto (off := (-23)) (tgt := 2) (by decide +kernel) (by decide) (hB 2)))
def qTokens_behindLetters_10 (d mc ms : Nat) (B : Nat → Pd) (K : Ps) : Pd := (i_ald 0 (i_getr 10 0 (i_ild 2 (i_bald (i_call 2 10 yTokens_isLetter cTokens_isLetter 1 (some .boolean) mc ms d 1 (i_if_eq (qTokens_behindLetters_28 d mc ms B K) (qTokens_behindLetters_22 d mc ms B K)))))))
theorem zTokens_behindLetters_10 {d mc ms : Nat} {B : Nat → Pd} {K : Ps} (hB : ∀ pc, Le (B pc) (G cTokens_behindLetters "VoyageCompany$Tokens" 3 (some .int) "behindLetters" (rm (d + 1) mc ms) (QM mc ms K) pc)) : Le (qTokens_behindLetters_10 d mc ms B K) (G cTokens_behindLetters "VoyageCompany$Tokens" 3 (some .int) "behindLetters" (rm (d + 1) mc ms) (QM mc ms K) 10) := by
  unfold qTokens_behindLetters_10
  exact (s_ald_n (j := 0) (by decide +kernel) rfl (s_getr (idx := 9) (by decide +kernel) fl10_9 (by decide) (s_ild_n (j := 2) (by decide +kernel) rfl (s_bald (by decide +kernel) (s_call (idx := 55) (by decide +kernel) ml10_55 rmk (s_if_eq (off := 9) (tgt := 28) (by decide +kernel) (by decide) (zTokens_behindLetters_28 hB) (zTokens_behindLetters_22 hB)))))))
def qTokens_behindLetters_2 (d mc ms : Nat) (B : Nat → Pd) (K : Ps) : Pd := (i_ild 2 (i_ald 0 (i_geti 10 1 (i_ic_ge (qTokens_behindLetters_28 d mc ms B K) (qTokens_behindLetters_10 d mc ms B K)))))
theorem zTokens_behindLetters_2 {d mc ms : Nat} {B : Nat → Pd} {K : Ps} (hB : ∀ pc, Le (B pc) (G cTokens_behindLetters "VoyageCompany$Tokens" 3 (some .int) "behindLetters" (rm (d + 1) mc ms) (QM mc ms K) pc)) : Le (qTokens_behindLetters_2 d mc ms B K) (G cTokens_behindLetters "VoyageCompany$Tokens" 3 (some .int) "behindLetters" (rm (d + 1) mc ms) (QM mc ms K) 2) := by
  unfold qTokens_behindLetters_2
  exact (s_ild_n (j := 2) (by decide +kernel) rfl (s_ald_n (j := 0) (by decide +kernel) rfl (s_geti (idx := 28) (by decide +kernel) fl10_28 (by decide) (s_ic_ge (off := 21) (tgt := 28) (by decide +kernel) (by decide) (zTokens_behindLetters_28 hB) (zTokens_behindLetters_10 hB)))))
def qTokens_behindLetters_0 (d mc ms : Nat) (B : Nat → Pd) (K : Ps) : Pd := (i_ild 1 (i_ist 2 (B 2)))
theorem zTokens_behindLetters_0 {d mc ms : Nat} {B : Nat → Pd} {K : Ps} (hB : ∀ pc, Le (B pc) (G cTokens_behindLetters "VoyageCompany$Tokens" 3 (some .int) "behindLetters" (rm (d + 1) mc ms) (QM mc ms K) pc)) : Le (qTokens_behindLetters_0 d mc ms B K) (G cTokens_behindLetters "VoyageCompany$Tokens" 3 (some .int) "behindLetters" (rm (d + 1) mc ms) (QM mc ms K) 0) := by
  unfold qTokens_behindLetters_0
  exact (s_ild_n (j := 1) (by decide +kernel) rfl (s_ist_n (j := 2) (by decide +kernel) rfl (by decide) (hB 2)))
/-- VoyageCompany$Tokens.behindLetters(I)I, at its places -/
def gTokens_behindLetters (d mc ms : Nat) (K : Ps) : Nat → Pd := G cTokens_behindLetters "VoyageCompany$Tokens" 3 (some .int) "behindLetters" (rm (d + 1) mc ms) (QM mc ms K)
theorem eTokens_behindLetters {d mc ms : Nat} {K : Ps} {av : List Value} {E : Nat → Prop} {R : Nat → Nat → Value} {I : Nat → Nat → Int32} {J : Nat → Nat → Int64} (hn : (lg_sl av).length ≤ 3) (h : qTokens_behindLetters_0 d mc ms (gTokens_behindLetters d mc ms K) K (lv_args 0 av) [] E R I J 0 0) : CL yTokens_behindLetters cTokens_behindLetters 3 (some .int) (d + 1) mc ms av E R I J K :=
  CL.of (by decide +kernel) hn (zTokens_behindLetters_0 (fun _ => Le.refl) _ _ _ _ _ _ _ _ h)
theorem lTokens_behindLetters_2 {d mc ms : Nat} {K : Ps} : Le (qTokens_behindLetters_2 d mc ms (gTokens_behindLetters d mc ms K) K) (gTokens_behindLetters d mc ms K 2) := zTokens_behindLetters_2 (fun _ => Le.refl)
def qTokens_isDigit_17 (d mc ms : Nat) (B : Nat → Pd) (K : Ps) : Pd := (i_zret mc ms K)
theorem zTokens_isDigit_17 {d mc ms : Nat} {B : Nat → Pd} {K : Ps} (hB : ∀ pc, Le (B pc) (G cTokens_isDigit "VoyageCompany$Tokens" 1 (some .boolean) "isDigit" (rm (d + 1) mc ms) (QM mc ms K) pc)) : Le (qTokens_isDigit_17 d mc ms B K) (G cTokens_isDigit "VoyageCompany$Tokens" 1 (some .boolean) "isDigit" (rm (d + 1) mc ms) (QM mc ms K) 17) := by
  unfold qTokens_isDigit_17
  exact (s_zret (by decide +kernel) rfl)
def qTokens_isDigit_16 (d mc ms : Nat) (B : Nat → Pd) (K : Ps) : Pd := (i_ci 0 (qTokens_isDigit_17 d mc ms B K))
theorem zTokens_isDigit_16 {d mc ms : Nat} {B : Nat → Pd} {K : Ps} (hB : ∀ pc, Le (B pc) (G cTokens_isDigit "VoyageCompany$Tokens" 1 (some .boolean) "isDigit" (rm (d + 1) mc ms) (QM mc ms K) pc)) : Le (qTokens_isDigit_16 d mc ms B K) (G cTokens_isDigit "VoyageCompany$Tokens" 1 (some .boolean) "isDigit" (rm (d + 1) mc ms) (QM mc ms K) 16) := by
  unfold qTokens_isDigit_16
  exact (s_iconst (n := 0) (v := 0) (by decide +kernel) (by decide +kernel) (zTokens_isDigit_17 hB))
def qTokens_isDigit_12 (d mc ms : Nat) (B : Nat → Pd) (K : Ps) : Pd := (i_ci 1 (qTokens_isDigit_17 d mc ms B K))
theorem zTokens_isDigit_12 {d mc ms : Nat} {B : Nat → Pd} {K : Ps} (hB : ∀ pc, Le (B pc) (G cTokens_isDigit "VoyageCompany$Tokens" 1 (some .boolean) "isDigit" (rm (d + 1) mc ms) (QM mc ms K) pc)) : Le (qTokens_isDigit_12 d mc ms B K) (G cTokens_isDigit "VoyageCompany$Tokens" 1 (some .boolean) "isDigit" (rm (d + 1) mc ms) (QM mc ms K) 12) := by
  unfold qTokens_isDigit_12
  exact (s_iconst (n := 1) (v := 1) (by decide +kernel) (by decide +kernel) (s_goto (off := 4) (tgt := 17) (by decide +kernel) (by decide) (zTokens_isDigit_17 hB)))
def qTokens_isDigit_6 (d mc ms : Nat) (B : Nat → Pd) (K : Ps) : Pd := (i_ild 0 (i_ci 57 (i_ic_gt (qTokens_isDigit_16 d mc ms B K) (qTokens_isDigit_12 d mc ms B K))))
theorem zTokens_isDigit_6 {d mc ms : Nat} {B : Nat → Pd} {K : Ps} (hB : ∀ pc, Le (B pc) (G cTokens_isDigit "VoyageCompany$Tokens" 1 (some .boolean) "isDigit" (rm (d + 1) mc ms) (QM mc ms K) pc)) : Le (qTokens_isDigit_6 d mc ms B K) (G cTokens_isDigit "VoyageCompany$Tokens" 1 (some .boolean) "isDigit" (rm (d + 1) mc ms) (QM mc ms K) 6) := by
  unfold qTokens_isDigit_6
  exact (s_ild_n (j := 0) (by decide +kernel) rfl (s_bipush (n := 57) (v := 57) (by decide +kernel) (by decide +kernel) (s_ic_gt (off := 7) (tgt := 16) (by decide +kernel) (by decide) (zTokens_isDigit_16 hB) (zTokens_isDigit_12 hB))))
def qTokens_isDigit_0 (d mc ms : Nat) (B : Nat → Pd) (K : Ps) : Pd := (i_ild 0 (i_ci 48 (i_ic_lt (qTokens_isDigit_16 d mc ms B K) (qTokens_isDigit_6 d mc ms B K))))
theorem zTokens_isDigit_0 {d mc ms : Nat} {B : Nat → Pd} {K : Ps} (hB : ∀ pc, Le (B pc) (G cTokens_isDigit "VoyageCompany$Tokens" 1 (some .boolean) "isDigit" (rm (d + 1) mc ms) (QM mc ms K) pc)) : Le (qTokens_isDigit_0 d mc ms B K) (G cTokens_isDigit "VoyageCompany$Tokens" 1 (some .boolean) "isDigit" (rm (d + 1) mc ms) (QM mc ms K) 0) := by
  unfold qTokens_isDigit_0
  exact (s_ild_n (j := 0) (by decide +kernel) rfl (s_bipush (n := 48) (v := 48) (by decide +kernel) (by decide +kernel) (s_ic_lt (off := 13) (tgt := 16) (by decide +kernel) (by decide) (zTokens_isDigit_16 hB) (zTokens_isDigit_6 hB))))
/-- VoyageCompany$Tokens.isDigit(I)Z, at its places -/
def gTokens_isDigit (d mc ms : Nat) (K : Ps) : Nat → Pd := G cTokens_isDigit "VoyageCompany$Tokens" 1 (some .boolean) "isDigit" (rm (d + 1) mc ms) (QM mc ms K)
theorem eTokens_isDigit {d mc ms : Nat} {K : Ps} {av : List Value} {E : Nat → Prop} {R : Nat → Nat → Value} {I : Nat → Nat → Int32} {J : Nat → Nat → Int64} (hn : (lg_sl av).length ≤ 1) (h : qTokens_isDigit_0 d mc ms (gTokens_isDigit d mc ms K) K (lv_args 0 av) [] E R I J 0 0) : CL yTokens_isDigit cTokens_isDigit 1 (some .boolean) (d + 1) mc ms av E R I J K :=
  CL.of (by decide +kernel) hn (zTokens_isDigit_0 (fun _ => Le.refl) _ _ _ _ _ _ _ _ h)
def qTokens_isLetter_17 (d mc ms : Nat) (B : Nat → Pd) (K : Ps) : Pd := (i_zret mc ms K)
theorem zTokens_isLetter_17 {d mc ms : Nat} {B : Nat → Pd} {K : Ps} (hB : ∀ pc, Le (B pc) (G cTokens_isLetter "VoyageCompany$Tokens" 1 (some .boolean) "isLetter" (rm (d + 1) mc ms) (QM mc ms K) pc)) : Le (qTokens_isLetter_17 d mc ms B K) (G cTokens_isLetter "VoyageCompany$Tokens" 1 (some .boolean) "isLetter" (rm (d + 1) mc ms) (QM mc ms K) 17) := by
  unfold qTokens_isLetter_17
  exact (s_zret (by decide +kernel) rfl)
def qTokens_isLetter_16 (d mc ms : Nat) (B : Nat → Pd) (K : Ps) : Pd := (i_ci 0 (qTokens_isLetter_17 d mc ms B K))
theorem zTokens_isLetter_16 {d mc ms : Nat} {B : Nat → Pd} {K : Ps} (hB : ∀ pc, Le (B pc) (G cTokens_isLetter "VoyageCompany$Tokens" 1 (some .boolean) "isLetter" (rm (d + 1) mc ms) (QM mc ms K) pc)) : Le (qTokens_isLetter_16 d mc ms B K) (G cTokens_isLetter "VoyageCompany$Tokens" 1 (some .boolean) "isLetter" (rm (d + 1) mc ms) (QM mc ms K) 16) := by
  unfold qTokens_isLetter_16
  exact (s_iconst (n := 0) (v := 0) (by decide +kernel) (by decide +kernel) (zTokens_isLetter_17 hB))
def qTokens_isLetter_12 (d mc ms : Nat) (B : Nat → Pd) (K : Ps) : Pd := (i_ci 1 (qTokens_isLetter_17 d mc ms B K))
theorem zTokens_isLetter_12 {d mc ms : Nat} {B : Nat → Pd} {K : Ps} (hB : ∀ pc, Le (B pc) (G cTokens_isLetter "VoyageCompany$Tokens" 1 (some .boolean) "isLetter" (rm (d + 1) mc ms) (QM mc ms K) pc)) : Le (qTokens_isLetter_12 d mc ms B K) (G cTokens_isLetter "VoyageCompany$Tokens" 1 (some .boolean) "isLetter" (rm (d + 1) mc ms) (QM mc ms K) 12) := by
  unfold qTokens_isLetter_12
  exact (s_iconst (n := 1) (v := 1) (by decide +kernel) (by decide +kernel) (s_goto (off := 4) (tgt := 17) (by decide +kernel) (by decide) (zTokens_isLetter_17 hB)))
def qTokens_isLetter_6 (d mc ms : Nat) (B : Nat → Pd) (K : Ps) : Pd := (i_ild 0 (i_ci 122 (i_ic_gt (qTokens_isLetter_16 d mc ms B K) (qTokens_isLetter_12 d mc ms B K))))
theorem zTokens_isLetter_6 {d mc ms : Nat} {B : Nat → Pd} {K : Ps} (hB : ∀ pc, Le (B pc) (G cTokens_isLetter "VoyageCompany$Tokens" 1 (some .boolean) "isLetter" (rm (d + 1) mc ms) (QM mc ms K) pc)) : Le (qTokens_isLetter_6 d mc ms B K) (G cTokens_isLetter "VoyageCompany$Tokens" 1 (some .boolean) "isLetter" (rm (d + 1) mc ms) (QM mc ms K) 6) := by
  unfold qTokens_isLetter_6
  exact (s_ild_n (j := 0) (by decide +kernel) rfl (s_bipush (n := 122) (v := 122) (by decide +kernel) (by decide +kernel) (s_ic_gt (off := 7) (tgt := 16) (by decide +kernel) (by decide) (zTokens_isLetter_16 hB) (zTokens_isLetter_12 hB))))
def qTokens_isLetter_0 (d mc ms : Nat) (B : Nat → Pd) (K : Ps) : Pd := (i_ild 0 (i_ci 97 (i_ic_lt (qTokens_isLetter_16 d mc ms B K) (qTokens_isLetter_6 d mc ms B K))))
theorem zTokens_isLetter_0 {d mc ms : Nat} {B : Nat → Pd} {K : Ps} (hB : ∀ pc, Le (B pc) (G cTokens_isLetter "VoyageCompany$Tokens" 1 (some .boolean) "isLetter" (rm (d + 1) mc ms) (QM mc ms K) pc)) : Le (qTokens_isLetter_0 d mc ms B K) (G cTokens_isLetter "VoyageCompany$Tokens" 1 (some .boolean) "isLetter" (rm (d + 1) mc ms) (QM mc ms K) 0) := by
  unfold qTokens_isLetter_0
  exact (s_ild_n (j := 0) (by decide +kernel) rfl (s_bipush (n := 97) (v := 97) (by decide +kernel) (by decide +kernel) (s_ic_lt (off := 13) (tgt := 16) (by decide +kernel) (by decide) (zTokens_isLetter_16 hB) (zTokens_isLetter_6 hB))))
/-- VoyageCompany$Tokens.isLetter(I)Z, at its places -/
def gTokens_isLetter (d mc ms : Nat) (K : Ps) : Nat → Pd := G cTokens_isLetter "VoyageCompany$Tokens" 1 (some .boolean) "isLetter" (rm (d + 1) mc ms) (QM mc ms K)
theorem eTokens_isLetter {d mc ms : Nat} {K : Ps} {av : List Value} {E : Nat → Prop} {R : Nat → Nat → Value} {I : Nat → Nat → Int32} {J : Nat → Nat → Int64} (hn : (lg_sl av).length ≤ 1) (h : qTokens_isLetter_0 d mc ms (gTokens_isLetter d mc ms K) K (lv_args 0 av) [] E R I J 0 0) : CL yTokens_isLetter cTokens_isLetter 1 (some .boolean) (d + 1) mc ms av E R I J K :=
  CL.of (by decide +kernel) hn (zTokens_isLetter_0 (fun _ => Le.refl) _ _ _ _ _ _ _ _ h)
def qTokens_readNumber_75 (d mc ms : Nat) (B : Nat → Pd) (K : Ps) : Pd := (i_vret mc ms K)
theorem zTokens_readNumber_75 {d mc ms : Nat} {B : Nat → Pd} {K : Ps} (hB : ∀ pc, Le (B pc) (G cTokens_readNumber "VoyageCompany$Tokens" 2 none "readNumber" (rm (d + 1) mc ms) (QM mc ms K) pc)) : Le (qTokens_readNumber_75 d mc ms B K) (G cTokens_readNumber "VoyageCompany$Tokens" 2 none "readNumber" (rm (d + 1) mc ms) (QM mc ms K) 75) := by
  unfold qTokens_readNumber_75
  exact (s_vret (by decide +kernel) rfl)
def qTokens_readNumber_48 (d mc ms : Nat) (B : Nat → Pd) (K : Ps) : Pd := (i_ald 0 (i_ald 0 (i_geti 10 5 (i_ci 10 (i_imul (i_ald 0 (i_getr 10 0 (i_ild 1 (i_bald (i_iadd (i_ci 48 (i_isub (i_puti 10 5 (i_inc 1 1 (B 32)))))))))))))))
theorem zTokens_readNumber_48 {d mc ms : Nat} {B : Nat → Pd} {K : Ps} (hB : ∀ pc, Le (B pc) (G cTokens_readNumber "VoyageCompany$Tokens" 2 none "readNumber" (rm (d + 1) mc ms) (QM mc ms K) pc)) : Le (qTokens_readNumber_48 d mc ms B K) (G cTokens_readNumber "VoyageCompany$Tokens" 2 none "readNumber" (rm (d + 1) mc ms) (QM mc ms K) 48) := by
  unfold qTokens_readNumber_48
  exact (s_ald_n (j := 0) (by decide +kernel) rfl (s_ald_n (j := 0) (by decide +kernel) rfl (s_geti (idx := 68) (by decide +kernel) fl10_68 (by decide) (s_bipush (n := 10) (v := 10) (by decide +kernel) (by decide +kernel) (s_imul (by decide +kernel) (s_ald_n (j := 0) (by decide +kernel) rfl (s_getr (idx := 9) (by decide +kernel) fl10_9 (by decide) (s_ild_n (j := 1) (by decide +kernel) rfl (s_bald (by decide +kernel) (s_iadd (by decide +kernel) (s_bipush (n := 48) (v := 48) (by decide +kernel) (by decide +kernel) (s_isub (by decide +kernel) (s_puti (idx := 68) (by decide +kernel) fl10_68 (by decide) (by decide) (Or.inl (by decide +kernel)) (s_inc (z := 1) (by decide +kernel) (by decide +kernel) (by decide) (s_goto (off := (-40)) (tgt := 32) (by decide +kernel) (by decide) (hB 32))))))))))))))))
def qTokens_readNumber_40 (d mc ms : Nat) (B : Nat → Pd) (K : Ps) : Pd := (i_ald 0 (i_geti 10 4 (i_ci 2 (i_ic_ne (qTokens_readNumber_75 d mc ms B K) (qTokens_readNumber_48 d mc ms B K)))))
theorem zTokens_readNumber_40 {d mc ms : Nat} {B : Nat → Pd} {K : Ps} (hB : ∀ pc, Le (B pc) (G cTokens_readNumber "VoyageCompany$Tokens" 2 none "readNumber" (rm (d + 1) mc ms) (QM mc ms K) pc)) : Le (qTokens_readNumber_40 d mc ms B K) (G cTokens_readNumber "VoyageCompany$Tokens" 2 none "readNumber" (rm (d + 1) mc ms) (QM mc ms K) 40) := by
  unfold qTokens_readNumber_40
  exact (s_ald_n (j := 0) (by decide +kernel) rfl (s_geti (idx := 42) (by decide +kernel) fl10_42 (by decide) (s_iconst (n := 2) (v := 2) (by decide +kernel) (by decide +kernel) (s_ic_ne (off := 30) (tgt := 75) (by decide +kernel) (by decide) (zTokens_readNumber_75 hB) (zTokens_readNumber_48 hB)))))
def qTokens_readNumber_32 (d mc ms : Nat) (B : Nat → Pd) (K : Ps) : Pd := (i_ild 1 (i_ald 0 (i_geti 10 3 (i_ic_ge (qTokens_readNumber_75 d mc ms B K) (qTokens_readNumber_40 d mc ms B K)))))
theorem zTokens_readNumber_32 {d mc ms : Nat} {B : Nat → Pd} {K : Ps} (hB : ∀ pc, Le (B pc) (G cTokens_readNumber "VoyageCompany$Tokens" 2 none "readNumber" (rm (d + 1) mc ms) (QM mc ms K) pc)) : Le (qTokens_readNumber_32 d mc ms B K) (G cTokens_readNumber "VoyageCompany$Tokens" 2 none "readNumber" (rm (d + 1) mc ms) (QM mc ms K) 32) := by
  unfold qTokens_readNumber_32
  exact (s_ild_n (j := 1) (by decide +kernel) rfl (s_ald_n (j := 0) (by decide +kernel) rfl (s_geti (idx := 29) (by decide +kernel) fl10_29 (by decide) (s_ic_ge (off := 38) (tgt := 75) (by decide +kernel) (by decide) (zTokens_readNumber_75 hB) (zTokens_readNumber_40 hB)))))
def qTokens_readNumber_24 (d mc ms : Nat) (B : Nat → Pd) (K : Ps) : Pd := (i_puti 10 4 (i_ald 0 (i_geti 10 2 (i_ist 1 (B 32)))))
theorem zTokens_readNumber_24 {d mc ms : Nat} {B : Nat → Pd} {K : Ps} (hB : ∀ pc, Le (B pc) (G cTokens_readNumber "VoyageCompany$Tokens" 2 none "readNumber" (rm (d + 1) mc ms) (QM mc ms K) pc)) : Le (qTokens_readNumber_24 d mc ms B K) (G cTokens_readNumber "VoyageCompany$Tokens" 2 none "readNumber" (rm (d + 1) mc ms) (QM mc ms K) 24) := by
  unfold qTokens_readNumber_24
  exact (s_puti (idx := 42) (by decide +kernel) fl10_42 (by decide) (by decide) (Or.inl (by decide +kernel)) (s_ald_n (j := 0) (by decide +kernel) rfl (s_geti (idx := 39) (by decide +kernel) fl10_39 (by decide) (s_ist_n (j := 1) (by decide +kernel) rfl (by decide) (hB 32)))))
def qTokens_readNumber_23 (d mc ms : Nat) (B : Nat → Pd) (K : Ps) : Pd := (i_ci 1 (qTokens_readNumber_24 d mc ms B K))
theorem zTokens_readNumber_23 {d mc ms : Nat} {B : Nat → Pd} {K : Ps} (hB : ∀ pc, Le (B pc) (G cTokens_readNumber "VoyageCompany$Tokens" 2 none "readNumber" (rm (d + 1) mc ms) (QM mc ms K) pc)) : Le (qTokens_readNumber_23 d mc ms B K) (G cTokens_readNumber "VoyageCompany$Tokens" 2 none "readNumber" (rm (d + 1) mc ms) (QM mc ms K) 23) := by
  unfold qTokens_readNumber_23
  exact (s_iconst (n := 1) (v := 1) (by decide +kernel) (by decide +kernel) (zTokens_readNumber_24 hB))
def qTokens_readNumber_19 (d mc ms : Nat) (B : Nat → Pd) (K : Ps) : Pd := (i_ci 2 (qTokens_readNumber_24 d mc ms B K))
theorem zTokens_readNumber_19 {d mc ms : Nat} {B : Nat → Pd} {K : Ps} (hB : ∀ pc, Le (B pc) (G cTokens_readNumber "VoyageCompany$Tokens" 2 none "readNumber" (rm (d + 1) mc ms) (QM mc ms K) pc)) : Le (qTokens_readNumber_19 d mc ms B K) (G cTokens_readNumber "VoyageCompany$Tokens" 2 none "readNumber" (rm (d + 1) mc ms) (QM mc ms K) 19) := by
  unfold qTokens_readNumber_19
  exact (s_iconst (n := 2) (v := 2) (by decide +kernel) (by decide +kernel) (s_goto (off := 4) (tgt := 24) (by decide +kernel) (by decide) (zTokens_readNumber_24 hB)))
def qTokens_readNumber_0 (d mc ms : Nat) (B : Nat → Pd) (K : Ps) : Pd := (i_ald 0 (i_ci 0 (i_puti 10 5 (i_ald 0 (i_ald 0 (i_geti 10 3 (i_ald 0 (i_geti 10 2 (i_isub (i_ci 5 (i_ic_gt (qTokens_readNumber_23 d mc ms B K) (qTokens_readNumber_19 d mc ms B K))))))))))))
theorem zTokens_readNumber_0 {d mc ms : Nat} {B : Nat → Pd} {K : Ps} (hB : ∀ pc, Le (B pc) (G cTokens_readNumber "VoyageCompany$Tokens" 2 none "readNumber" (rm (d + 1) mc ms) (QM mc ms K) pc)) : Le (qTokens_readNumber_0 d mc ms B K) (G cTokens_readNumber "VoyageCompany$Tokens" 2 none "readNumber" (rm (d + 1) mc ms) (QM mc ms K) 0) := by
  unfold qTokens_readNumber_0
  exact (s_ald_n (j := 0) (by decide +kernel) rfl (s_iconst (n := 0) (v := 0) (by decide +kernel) (by decide +kernel) (s_puti (idx := 68) (by decide +kernel) fl10_68 (by decide) (by decide) (Or.inl (by decide +kernel)) (s_ald_n (j := 0) (by decide +kernel) rfl (s_ald_n (j := 0) (by decide +kernel) rfl (s_geti (idx := 29) (by decide +kernel) fl10_29 (by decide) (s_ald_n (j := 0) (by decide +kernel) rfl (s_geti (idx := 39) (by decide +kernel) fl10_39 (by decide) (s_isub (by decide +kernel) (s_iconst (n := 5) (v := 5) (by decide +kernel) (by decide +kernel) (s_ic_gt (off := 7) (tgt := 23) (by decide +kernel) (by decide) (zTokens_readNumber_23 hB) (zTokens_readNumber_19 hB))))))))))))
/-- VoyageCompany$Tokens.readNumber()V, at its places -/
def gTokens_readNumber (d mc ms : Nat) (K : Ps) : Nat → Pd := G cTokens_readNumber "VoyageCompany$Tokens" 2 none "readNumber" (rm (d + 1) mc ms) (QM mc ms K)
theorem eTokens_readNumber {d mc ms : Nat} {K : Ps} {av : List Value} {E : Nat → Prop} {R : Nat → Nat → Value} {I : Nat → Nat → Int32} {J : Nat → Nat → Int64} (hn : (lg_sl av).length ≤ 2) (h : qTokens_readNumber_0 d mc ms (gTokens_readNumber d mc ms K) K (lv_args 0 av) [] E R I J 0 0) : CL yTokens_readNumber cTokens_readNumber 2 none (d + 1) mc ms av E R I J K :=
  CL.of (by decide +kernel) hn (zTokens_readNumber_0 (fun _ => Le.refl) _ _ _ _ _ _ _ _ h)
theorem lTokens_readNumber_32 {d mc ms : Nat} {K : Ps} : Le (qTokens_readNumber_32 d mc ms (gTokens_readNumber d mc ms K) K) (gTokens_readNumber d mc ms K 32) := zTokens_readNumber_32 (fun _ => Le.refl)
def qTokens_signCode_48 (d mc ms : Nat) (B : Nat → Pd) (K : Ps) : Pd := (i_ci 1 (i_iret mc ms K))
theorem zTokens_signCode_48 {d mc ms : Nat} {B : Nat → Pd} {K : Ps} (hB : ∀ pc, Le (B pc) (G cTokens_signCode "VoyageCompany$Tokens" 1 (some .int) "signCode" (rm (d + 1) mc ms) (QM mc ms K) pc)) : Le (qTokens_signCode_48 d mc ms B K) (G cTokens_signCode "VoyageCompany$Tokens" 1 (some .int) "signCode" (rm (d + 1) mc ms) (QM mc ms K) 48) := by
  unfold qTokens_signCode_48
  exact (s_iconst (n := 1) (v := 1) (by decide +kernel) (by decide +kernel) (s_iret (by decide +kernel) rfl))
def qTokens_signCode_45 (d mc ms : Nat) (B : Nat → Pd) (K : Ps) : Pd := (i_ci 7 (i_iret mc ms K))
theorem zTokens_signCode_45 {d mc ms : Nat} {B : Nat → Pd} {K : Ps} (hB : ∀ pc, Le (B pc) (G cTokens_signCode "VoyageCompany$Tokens" 1 (some .int) "signCode" (rm (d + 1) mc ms) (QM mc ms K) pc)) : Le (qTokens_signCode_45 d mc ms B K) (G cTokens_signCode "VoyageCompany$Tokens" 1 (some .int) "signCode" (rm (d + 1) mc ms) (QM mc ms K) 45) := by
  unfold qTokens_signCode_45
  exact (s_bipush (n := 7) (v := 7) (by decide +kernel) (by decide +kernel) (s_iret (by decide +kernel) rfl))
def qTokens_signCode_42 (d mc ms : Nat) (B : Nat → Pd) (K : Ps) : Pd := (i_ci 6 (i_iret mc ms K))
theorem zTokens_signCode_42 {d mc ms : Nat} {B : Nat → Pd} {K : Ps} (hB : ∀ pc, Le (B pc) (G cTokens_signCode "VoyageCompany$Tokens" 1 (some .int) "signCode" (rm (d + 1) mc ms) (QM mc ms K) pc)) : Le (qTokens_signCode_42 d mc ms B K) (G cTokens_signCode "VoyageCompany$Tokens" 1 (some .int) "signCode" (rm (d + 1) mc ms) (QM mc ms K) 42) := by
  unfold qTokens_signCode_42
  exact (s_bipush (n := 6) (v := 6) (by decide +kernel) (by decide +kernel) (s_iret (by decide +kernel) rfl))
def qTokens_signCode_40 (d mc ms : Nat) (B : Nat → Pd) (K : Ps) : Pd := (i_ci 5 (i_iret mc ms K))
theorem zTokens_signCode_40 {d mc ms : Nat} {B : Nat → Pd} {K : Ps} (hB : ∀ pc, Le (B pc) (G cTokens_signCode "VoyageCompany$Tokens" 1 (some .int) "signCode" (rm (d + 1) mc ms) (QM mc ms K) pc)) : Le (qTokens_signCode_40 d mc ms B K) (G cTokens_signCode "VoyageCompany$Tokens" 1 (some .int) "signCode" (rm (d + 1) mc ms) (QM mc ms K) 40) := by
  unfold qTokens_signCode_40
  exact (s_iconst (n := 5) (v := 5) (by decide +kernel) (by decide +kernel) (s_iret (by decide +kernel) rfl))
def qTokens_signCode_38 (d mc ms : Nat) (B : Nat → Pd) (K : Ps) : Pd := (i_ci 4 (i_iret mc ms K))
theorem zTokens_signCode_38 {d mc ms : Nat} {B : Nat → Pd} {K : Ps} (hB : ∀ pc, Le (B pc) (G cTokens_signCode "VoyageCompany$Tokens" 1 (some .int) "signCode" (rm (d + 1) mc ms) (QM mc ms K) pc)) : Le (qTokens_signCode_38 d mc ms B K) (G cTokens_signCode "VoyageCompany$Tokens" 1 (some .int) "signCode" (rm (d + 1) mc ms) (QM mc ms K) 38) := by
  unfold qTokens_signCode_38
  exact (s_iconst (n := 4) (v := 4) (by decide +kernel) (by decide +kernel) (s_iret (by decide +kernel) rfl))
def qTokens_signCode_36 (d mc ms : Nat) (B : Nat → Pd) (K : Ps) : Pd := (i_ci 3 (i_iret mc ms K))
theorem zTokens_signCode_36 {d mc ms : Nat} {B : Nat → Pd} {K : Ps} (hB : ∀ pc, Le (B pc) (G cTokens_signCode "VoyageCompany$Tokens" 1 (some .int) "signCode" (rm (d + 1) mc ms) (QM mc ms K) pc)) : Le (qTokens_signCode_36 d mc ms B K) (G cTokens_signCode "VoyageCompany$Tokens" 1 (some .int) "signCode" (rm (d + 1) mc ms) (QM mc ms K) 36) := by
  unfold qTokens_signCode_36
  exact (s_iconst (n := 3) (v := 3) (by decide +kernel) (by decide +kernel) (s_iret (by decide +kernel) rfl))
def qTokens_signCode_0 (d mc ms : Nat) (B : Nat → Pd) (K : Ps) : Pd := (i_ild 0 (i_sw [(58, (qTokens_signCode_36 d mc ms B K)), (59, (qTokens_signCode_38 d mc ms B K)), (60, (qTokens_signCode_40 d mc ms B K)), (61, (qTokens_signCode_45 d mc ms B K)), (62, (qTokens_signCode_42 d mc ms B K))] (qTokens_signCode_48 d mc ms B K)))
theorem zTokens_signCode_0 {d mc ms : Nat} {B : Nat → Pd} {K : Ps} (hB : ∀ pc, Le (B pc) (G cTokens_signCode "VoyageCompany$Tokens" 1 (some .int) "signCode" (rm (d + 1) mc ms) (QM mc ms K) pc)) : Le (qTokens_signCode_0 d mc ms B K) (G cTokens_signCode "VoyageCompany$Tokens" 1 (some .int) "signCode" (rm (d + 1) mc ms) (QM mc ms K) 0) := by
  unfold qTokens_signCode_0
  exact (s_ild_n (j := 0) (by decide +kernel) rfl (s_sw (fun x => by
    by_cases h0 : x = 58
    · subst h0
      exact ⟨36, sw_in (dflt := 47) (lo := 58) (hi := 62) (offs := #[35, 37, 39, 44, 41]) (len := 35) (off := 35) (by decide +kernel) (by decide +kernel) (by decide +kernel) (by decide +kernel) (by decide +kernel), by simpa [swp] using (zTokens_signCode_36 hB)⟩
    by_cases h1 : x = 59
    · subst h1
      exact ⟨38, sw_in (dflt := 47) (lo := 58) (hi := 62) (offs := #[35, 37, 39, 44, 41]) (len := 35) (off := 37) (by decide +kernel) (by decide +kernel) (by decide +kernel) (by decide +kernel) (by decide +kernel), by simpa [swp] using (zTokens_signCode_38 hB)⟩
    by_cases h2 : x = 60
    · subst h2
      exact ⟨40, sw_in (dflt := 47) (lo := 58) (hi := 62) (offs := #[35, 37, 39, 44, 41]) (len := 35) (off := 39) (by decide +kernel) (by decide +kernel) (by decide +kernel) (by decide +kernel) (by decide +kernel), by simpa [swp] using (zTokens_signCode_40 hB)⟩
    by_cases h3 : x = 61
    · subst h3
      exact ⟨45, sw_in (dflt := 47) (lo := 58) (hi := 62) (offs := #[35, 37, 39, 44, 41]) (len := 35) (off := 44) (by decide +kernel) (by decide +kernel) (by decide +kernel) (by decide +kernel) (by decide +kernel), by simpa [swp] using (zTokens_signCode_45 hB)⟩
    by_cases h4 : x = 62
    · subst h4
      exact ⟨42, sw_in (dflt := 47) (lo := 58) (hi := 62) (offs := #[35, 37, 39, 44, 41]) (len := 35) (off := 41) (by decide +kernel) (by decide +kernel) (by decide +kernel) (by decide +kernel) (by decide +kernel), by simpa [swp] using (zTokens_signCode_42 hB)⟩
    have g0 := i32_ne (z := 58) (by decide +kernel) h0
    have g1 := i32_ne (z := 59) (by decide +kernel) h1
    have g2 := i32_ne (z := 60) (by decide +kernel) h2
    have g3 := i32_ne (z := 61) (by decide +kernel) h3
    have g4 := i32_ne (z := 62) (by decide +kernel) h4
    exact ⟨48, sw_out (dflt := 47) (lo := 58) (hi := 62) (offs := #[35, 37, 39, 44, 41]) (len := 35) (by decide +kernel) (by omega) (by decide +kernel), by simpa [swp, h0, h1, h2, h3, h4] using (zTokens_signCode_48 hB)⟩)))
/-- VoyageCompany$Tokens.signCode(I)I, at its places -/
def gTokens_signCode (d mc ms : Nat) (K : Ps) : Nat → Pd := G cTokens_signCode "VoyageCompany$Tokens" 1 (some .int) "signCode" (rm (d + 1) mc ms) (QM mc ms K)
theorem eTokens_signCode {d mc ms : Nat} {K : Ps} {av : List Value} {E : Nat → Prop} {R : Nat → Nat → Value} {I : Nat → Nat → Int32} {J : Nat → Nat → Int64} (hn : (lg_sl av).length ≤ 1) (h : qTokens_signCode_0 d mc ms (gTokens_signCode d mc ms K) K (lv_args 0 av) [] E R I J 0 0) : CL yTokens_signCode cTokens_signCode 1 (some .int) (d + 1) mc ms av E R I J K :=
  CL.of (by decide +kernel) hn (zTokens_signCode_0 (fun _ => Le.refl) _ _ _ _ _ _ _ _ h)
def qTokens_wordCode_216 (d mc ms : Nat) (B : Nat → Pd) (K : Ps) : Pd := (i_ci 1 (i_iret mc ms K))
theorem zTokens_wordCode_216 {d mc ms : Nat} {B : Nat → Pd} {K : Ps} (hB : ∀ pc, Le (B pc) (G cTokens_wordCode "VoyageCompany$Tokens" 1 (some .int) "wordCode" (rm (d + 1) mc ms) (QM mc ms K) pc)) : Le (qTokens_wordCode_216 d mc ms B K) (G cTokens_wordCode "VoyageCompany$Tokens" 1 (some .int) "wordCode" (rm (d + 1) mc ms) (QM mc ms K) 216) := by
  unfold qTokens_wordCode_216
  exact (s_iconst (n := 1) (v := 1) (by decide +kernel) (by decide +kernel) (s_iret (by decide +kernel) rfl))
def qTokens_wordCode_213 (d mc ms : Nat) (B : Nat → Pd) (K : Ps) : Pd := (i_ci 25 (i_iret mc ms K))
theorem zTokens_wordCode_213 {d mc ms : Nat} {B : Nat → Pd} {K : Ps} (hB : ∀ pc, Le (B pc) (G cTokens_wordCode "VoyageCompany$Tokens" 1 (some .int) "wordCode" (rm (d + 1) mc ms) (QM mc ms K) pc)) : Le (qTokens_wordCode_213 d mc ms B K) (G cTokens_wordCode "VoyageCompany$Tokens" 1 (some .int) "wordCode" (rm (d + 1) mc ms) (QM mc ms K) 213) := by
  unfold qTokens_wordCode_213
  exact (s_bipush (n := 25) (v := 25) (by decide +kernel) (by decide +kernel) (s_iret (by decide +kernel) rfl))
def qTokens_wordCode_204 (d mc ms : Nat) (B : Nat → Pd) (K : Ps) : Pd := (i_ald 0 (i_cs 17 (i_call 0 10 yTokens_spells cTokens_spells 3 (some .boolean) mc ms d 2 (i_if_eq (qTokens_wordCode_216 d mc ms B K) (qTokens_wordCode_213 d mc ms B K)))))
theorem zTokens_wordCode_204 {d mc ms : Nat} {B : Nat → Pd} {K : Ps} (hB : ∀ pc, Le (B pc) (G cTokens_wordCode "VoyageCompany$Tokens" 1 (some .int) "wordCode" (rm (d + 1) mc ms) (QM mc ms K) pc)) : Le (qTokens_wordCode_204 d mc ms B K) (G cTokens_wordCode "VoyageCompany$Tokens" 1 (some .int) "wordCode" (rm (d + 1) mc ms) (QM mc ms K) 204) := by
  unfold qTokens_wordCode_204
  exact (s_ald_n (j := 0) (by decide +kernel) rfl (s_cs (idx := 109) (by decide +kernel) rfl (by decide) (by decide +kernel) (s_call (idx := 73) (by decide +kernel) ml10_73 rmk (s_if_eq (off := 6) (tgt := 216) (by decide +kernel) (by decide) (zTokens_wordCode_216 hB) (zTokens_wordCode_213 hB)))))
def qTokens_wordCode_201 (d mc ms : Nat) (B : Nat → Pd) (K : Ps) : Pd := (i_ci 24 (i_iret mc ms K))
theorem zTokens_wordCode_201 {d mc ms : Nat} {B : Nat → Pd} {K : Ps} (hB : ∀ pc, Le (B pc) (G cTokens_wordCode "VoyageCompany$Tokens" 1 (some .int) "wordCode" (rm (d + 1) mc ms) (QM mc ms K) pc)) : Le (qTokens_wordCode_201 d mc ms B K) (G cTokens_wordCode "VoyageCompany$Tokens" 1 (some .int) "wordCode" (rm (d + 1) mc ms) (QM mc ms K) 201) := by
  unfold qTokens_wordCode_201
  exact (s_bipush (n := 24) (v := 24) (by decide +kernel) (by decide +kernel) (s_iret (by decide +kernel) rfl))
def qTokens_wordCode_192 (d mc ms : Nat) (B : Nat → Pd) (K : Ps) : Pd := (i_ald 0 (i_cs 16 (i_call 0 10 yTokens_spells cTokens_spells 3 (some .boolean) mc ms d 2 (i_if_eq (qTokens_wordCode_204 d mc ms B K) (qTokens_wordCode_201 d mc ms B K)))))
theorem zTokens_wordCode_192 {d mc ms : Nat} {B : Nat → Pd} {K : Ps} (hB : ∀ pc, Le (B pc) (G cTokens_wordCode "VoyageCompany$Tokens" 1 (some .int) "wordCode" (rm (d + 1) mc ms) (QM mc ms K) pc)) : Le (qTokens_wordCode_192 d mc ms B K) (G cTokens_wordCode "VoyageCompany$Tokens" 1 (some .int) "wordCode" (rm (d + 1) mc ms) (QM mc ms K) 192) := by
  unfold qTokens_wordCode_192
  exact (s_ald_n (j := 0) (by decide +kernel) rfl (s_cs (idx := 107) (by decide +kernel) rfl (by decide) (by decide +kernel) (s_call (idx := 73) (by decide +kernel) ml10_73 rmk (s_if_eq (off := 6) (tgt := 204) (by decide +kernel) (by decide) (zTokens_wordCode_204 hB) (zTokens_wordCode_201 hB)))))
def qTokens_wordCode_189 (d mc ms : Nat) (B : Nat → Pd) (K : Ps) : Pd := (i_ci 23 (i_iret mc ms K))
theorem zTokens_wordCode_189 {d mc ms : Nat} {B : Nat → Pd} {K : Ps} (hB : ∀ pc, Le (B pc) (G cTokens_wordCode "VoyageCompany$Tokens" 1 (some .int) "wordCode" (rm (d + 1) mc ms) (QM mc ms K) pc)) : Le (qTokens_wordCode_189 d mc ms B K) (G cTokens_wordCode "VoyageCompany$Tokens" 1 (some .int) "wordCode" (rm (d + 1) mc ms) (QM mc ms K) 189) := by
  unfold qTokens_wordCode_189
  exact (s_bipush (n := 23) (v := 23) (by decide +kernel) (by decide +kernel) (s_iret (by decide +kernel) rfl))
def qTokens_wordCode_180 (d mc ms : Nat) (B : Nat → Pd) (K : Ps) : Pd := (i_ald 0 (i_cs 15 (i_call 0 10 yTokens_spells cTokens_spells 3 (some .boolean) mc ms d 2 (i_if_eq (qTokens_wordCode_192 d mc ms B K) (qTokens_wordCode_189 d mc ms B K)))))
theorem zTokens_wordCode_180 {d mc ms : Nat} {B : Nat → Pd} {K : Ps} (hB : ∀ pc, Le (B pc) (G cTokens_wordCode "VoyageCompany$Tokens" 1 (some .int) "wordCode" (rm (d + 1) mc ms) (QM mc ms K) pc)) : Le (qTokens_wordCode_180 d mc ms B K) (G cTokens_wordCode "VoyageCompany$Tokens" 1 (some .int) "wordCode" (rm (d + 1) mc ms) (QM mc ms K) 180) := by
  unfold qTokens_wordCode_180
  exact (s_ald_n (j := 0) (by decide +kernel) rfl (s_cs (idx := 105) (by decide +kernel) rfl (by decide) (by decide +kernel) (s_call (idx := 73) (by decide +kernel) ml10_73 rmk (s_if_eq (off := 6) (tgt := 192) (by decide +kernel) (by decide) (zTokens_wordCode_192 hB) (zTokens_wordCode_189 hB)))))
def qTokens_wordCode_177 (d mc ms : Nat) (B : Nat → Pd) (K : Ps) : Pd := (i_ci 22 (i_iret mc ms K))
theorem zTokens_wordCode_177 {d mc ms : Nat} {B : Nat → Pd} {K : Ps} (hB : ∀ pc, Le (B pc) (G cTokens_wordCode "VoyageCompany$Tokens" 1 (some .int) "wordCode" (rm (d + 1) mc ms) (QM mc ms K) pc)) : Le (qTokens_wordCode_177 d mc ms B K) (G cTokens_wordCode "VoyageCompany$Tokens" 1 (some .int) "wordCode" (rm (d + 1) mc ms) (QM mc ms K) 177) := by
  unfold qTokens_wordCode_177
  exact (s_bipush (n := 22) (v := 22) (by decide +kernel) (by decide +kernel) (s_iret (by decide +kernel) rfl))
def qTokens_wordCode_168 (d mc ms : Nat) (B : Nat → Pd) (K : Ps) : Pd := (i_ald 0 (i_cs 14 (i_call 0 10 yTokens_spells cTokens_spells 3 (some .boolean) mc ms d 2 (i_if_eq (qTokens_wordCode_180 d mc ms B K) (qTokens_wordCode_177 d mc ms B K)))))
theorem zTokens_wordCode_168 {d mc ms : Nat} {B : Nat → Pd} {K : Ps} (hB : ∀ pc, Le (B pc) (G cTokens_wordCode "VoyageCompany$Tokens" 1 (some .int) "wordCode" (rm (d + 1) mc ms) (QM mc ms K) pc)) : Le (qTokens_wordCode_168 d mc ms B K) (G cTokens_wordCode "VoyageCompany$Tokens" 1 (some .int) "wordCode" (rm (d + 1) mc ms) (QM mc ms K) 168) := by
  unfold qTokens_wordCode_168
  exact (s_ald_n (j := 0) (by decide +kernel) rfl (s_cs (idx := 103) (by decide +kernel) rfl (by decide) (by decide +kernel) (s_call (idx := 73) (by decide +kernel) ml10_73 rmk (s_if_eq (off := 6) (tgt := 180) (by decide +kernel) (by decide) (zTokens_wordCode_180 hB) (zTokens_wordCode_177 hB)))))
def qTokens_wordCode_165 (d mc ms : Nat) (B : Nat → Pd) (K : Ps) : Pd := (i_ci 21 (i_iret mc ms K))
theorem zTokens_wordCode_165 {d mc ms : Nat} {B : Nat → Pd} {K : Ps} (hB : ∀ pc, Le (B pc) (G cTokens_wordCode "VoyageCompany$Tokens" 1 (some .int) "wordCode" (rm (d + 1) mc ms) (QM mc ms K) pc)) : Le (qTokens_wordCode_165 d mc ms B K) (G cTokens_wordCode "VoyageCompany$Tokens" 1 (some .int) "wordCode" (rm (d + 1) mc ms) (QM mc ms K) 165) := by
  unfold qTokens_wordCode_165
  exact (s_bipush (n := 21) (v := 21) (by decide +kernel) (by decide +kernel) (s_iret (by decide +kernel) rfl))
def qTokens_wordCode_156 (d mc ms : Nat) (B : Nat → Pd) (K : Ps) : Pd := (i_ald 0 (i_cs 13 (i_call 0 10 yTokens_spells cTokens_spells 3 (some .boolean) mc ms d 2 (i_if_eq (qTokens_wordCode_168 d mc ms B K) (qTokens_wordCode_165 d mc ms B K)))))
theorem zTokens_wordCode_156 {d mc ms : Nat} {B : Nat → Pd} {K : Ps} (hB : ∀ pc, Le (B pc) (G cTokens_wordCode "VoyageCompany$Tokens" 1 (some .int) "wordCode" (rm (d + 1) mc ms) (QM mc ms K) pc)) : Le (qTokens_wordCode_156 d mc ms B K) (G cTokens_wordCode "VoyageCompany$Tokens" 1 (some .int) "wordCode" (rm (d + 1) mc ms) (QM mc ms K) 156) := by
  unfold qTokens_wordCode_156
  exact (s_ald_n (j := 0) (by decide +kernel) rfl (s_cs (idx := 101) (by decide +kernel) rfl (by decide) (by decide +kernel) (s_call (idx := 73) (by decide +kernel) ml10_73 rmk (s_if_eq (off := 6) (tgt := 168) (by decide +kernel) (by decide) (zTokens_wordCode_168 hB) (zTokens_wordCode_165 hB)))))
def qTokens_wordCode_153 (d mc ms : Nat) (B : Nat → Pd) (K : Ps) : Pd := (i_ci 20 (i_iret mc ms K))
theorem zTokens_wordCode_153 {d mc ms : Nat} {B : Nat → Pd} {K : Ps} (hB : ∀ pc, Le (B pc) (G cTokens_wordCode "VoyageCompany$Tokens" 1 (some .int) "wordCode" (rm (d + 1) mc ms) (QM mc ms K) pc)) : Le (qTokens_wordCode_153 d mc ms B K) (G cTokens_wordCode "VoyageCompany$Tokens" 1 (some .int) "wordCode" (rm (d + 1) mc ms) (QM mc ms K) 153) := by
  unfold qTokens_wordCode_153
  exact (s_bipush (n := 20) (v := 20) (by decide +kernel) (by decide +kernel) (s_iret (by decide +kernel) rfl))
def qTokens_wordCode_144 (d mc ms : Nat) (B : Nat → Pd) (K : Ps) : Pd := (i_ald 0 (i_cs 12 (i_call 0 10 yTokens_spells cTokens_spells 3 (some .boolean) mc ms d 2 (i_if_eq (qTokens_wordCode_156 d mc ms B K) (qTokens_wordCode_153 d mc ms B K)))))
theorem zTokens_wordCode_144 {d mc ms : Nat} {B : Nat → Pd} {K : Ps} (hB : ∀ pc, Le (B pc) (G cTokens_wordCode "VoyageCompany$Tokens" 1 (some .int) "wordCode" (rm (d + 1) mc ms) (QM mc ms K) pc)) : Le (qTokens_wordCode_144 d mc ms B K) (G cTokens_wordCode "VoyageCompany$Tokens" 1 (some .int) "wordCode" (rm (d + 1) mc ms) (QM mc ms K) 144) := by
  unfold qTokens_wordCode_144
  exact (s_ald_n (j := 0) (by decide +kernel) rfl (s_cs (idx := 99) (by decide +kernel) rfl (by decide) (by decide +kernel) (s_call (idx := 73) (by decide +kernel) ml10_73 rmk (s_if_eq (off := 6) (tgt := 156) (by decide +kernel) (by decide) (zTokens_wordCode_156 hB) (zTokens_wordCode_153 hB)))))
def qTokens_wordCode_141 (d mc ms : Nat) (B : Nat → Pd) (K : Ps) : Pd := (i_ci 19 (i_iret mc ms K))
theorem zTokens_wordCode_141 {d mc ms : Nat} {B : Nat → Pd} {K : Ps} (hB : ∀ pc, Le (B pc) (G cTokens_wordCode "VoyageCompany$Tokens" 1 (some .int) "wordCode" (rm (d + 1) mc ms) (QM mc ms K) pc)) : Le (qTokens_wordCode_141 d mc ms B K) (G cTokens_wordCode "VoyageCompany$Tokens" 1 (some .int) "wordCode" (rm (d + 1) mc ms) (QM mc ms K) 141) := by
  unfold qTokens_wordCode_141
  exact (s_bipush (n := 19) (v := 19) (by decide +kernel) (by decide +kernel) (s_iret (by decide +kernel) rfl))
def qTokens_wordCode_132 (d mc ms : Nat) (B : Nat → Pd) (K : Ps) : Pd := (i_ald 0 (i_cs 11 (i_call 0 10 yTokens_spells cTokens_spells 3 (some .boolean) mc ms d 2 (i_if_eq (qTokens_wordCode_144 d mc ms B K) (qTokens_wordCode_141 d mc ms B K)))))
theorem zTokens_wordCode_132 {d mc ms : Nat} {B : Nat → Pd} {K : Ps} (hB : ∀ pc, Le (B pc) (G cTokens_wordCode "VoyageCompany$Tokens" 1 (some .int) "wordCode" (rm (d + 1) mc ms) (QM mc ms K) pc)) : Le (qTokens_wordCode_132 d mc ms B K) (G cTokens_wordCode "VoyageCompany$Tokens" 1 (some .int) "wordCode" (rm (d + 1) mc ms) (QM mc ms K) 132) := by
  unfold qTokens_wordCode_132
  exact (s_ald_n (j := 0) (by decide +kernel) rfl (s_cs (idx := 97) (by decide +kernel) rfl (by decide) (by decide +kernel) (s_call (idx := 73) (by decide +kernel) ml10_73 rmk (s_if_eq (off := 6) (tgt := 144) (by decide +kernel) (by decide) (zTokens_wordCode_144 hB) (zTokens_wordCode_141 hB)))))
def qTokens_wordCode_129 (d mc ms : Nat) (B : Nat → Pd) (K : Ps) : Pd := (i_ci 18 (i_iret mc ms K))
theorem zTokens_wordCode_129 {d mc ms : Nat} {B : Nat → Pd} {K : Ps} (hB : ∀ pc, Le (B pc) (G cTokens_wordCode "VoyageCompany$Tokens" 1 (some .int) "wordCode" (rm (d + 1) mc ms) (QM mc ms K) pc)) : Le (qTokens_wordCode_129 d mc ms B K) (G cTokens_wordCode "VoyageCompany$Tokens" 1 (some .int) "wordCode" (rm (d + 1) mc ms) (QM mc ms K) 129) := by
  unfold qTokens_wordCode_129
  exact (s_bipush (n := 18) (v := 18) (by decide +kernel) (by decide +kernel) (s_iret (by decide +kernel) rfl))
def qTokens_wordCode_120 (d mc ms : Nat) (B : Nat → Pd) (K : Ps) : Pd := (i_ald 0 (i_cs 10 (i_call 0 10 yTokens_spells cTokens_spells 3 (some .boolean) mc ms d 2 (i_if_eq (qTokens_wordCode_132 d mc ms B K) (qTokens_wordCode_129 d mc ms B K)))))
theorem zTokens_wordCode_120 {d mc ms : Nat} {B : Nat → Pd} {K : Ps} (hB : ∀ pc, Le (B pc) (G cTokens_wordCode "VoyageCompany$Tokens" 1 (some .int) "wordCode" (rm (d + 1) mc ms) (QM mc ms K) pc)) : Le (qTokens_wordCode_120 d mc ms B K) (G cTokens_wordCode "VoyageCompany$Tokens" 1 (some .int) "wordCode" (rm (d + 1) mc ms) (QM mc ms K) 120) := by
  unfold qTokens_wordCode_120
  exact (s_ald_n (j := 0) (by decide +kernel) rfl (s_cs (idx := 95) (by decide +kernel) rfl (by decide) (by decide +kernel) (s_call (idx := 73) (by decide +kernel) ml10_73 rmk (s_if_eq (off := 6) (tgt := 132) (by decide +kernel) (by decide) (zTokens_wordCode_132 hB) (zTokens_wordCode_129 hB)))))
def qTokens_wordCode_117 (d mc ms : Nat) (B : Nat → Pd) (K : Ps) : Pd := (i_ci 17 (i_iret mc ms K))
theorem zTokens_wordCode_117 {d mc ms : Nat} {B : Nat → Pd} {K : Ps} (hB : ∀ pc, Le (B pc) (G cTokens_wordCode "VoyageCompany$Tokens" 1 (some .int) "wordCode" (rm (d + 1) mc ms) (QM mc ms K) pc)) : Le (qTokens_wordCode_117 d mc ms B K) (G cTokens_wordCode "VoyageCompany$Tokens" 1 (some .int) "wordCode" (rm (d + 1) mc ms) (QM mc ms K) 117) := by
  unfold qTokens_wordCode_117
  exact (s_bipush (n := 17) (v := 17) (by decide +kernel) (by decide +kernel) (s_iret (by decide +kernel) rfl))
def qTokens_wordCode_108 (d mc ms : Nat) (B : Nat → Pd) (K : Ps) : Pd := (i_ald 0 (i_cs 9 (i_call 0 10 yTokens_spells cTokens_spells 3 (some .boolean) mc ms d 2 (i_if_eq (qTokens_wordCode_120 d mc ms B K) (qTokens_wordCode_117 d mc ms B K)))))
theorem zTokens_wordCode_108 {d mc ms : Nat} {B : Nat → Pd} {K : Ps} (hB : ∀ pc, Le (B pc) (G cTokens_wordCode "VoyageCompany$Tokens" 1 (some .int) "wordCode" (rm (d + 1) mc ms) (QM mc ms K) pc)) : Le (qTokens_wordCode_108 d mc ms B K) (G cTokens_wordCode "VoyageCompany$Tokens" 1 (some .int) "wordCode" (rm (d + 1) mc ms) (QM mc ms K) 108) := by
  unfold qTokens_wordCode_108
  exact (s_ald_n (j := 0) (by decide +kernel) rfl (s_cs (idx := 93) (by decide +kernel) rfl (by decide) (by decide +kernel) (s_call (idx := 73) (by decide +kernel) ml10_73 rmk (s_if_eq (off := 6) (tgt := 120) (by decide +kernel) (by decide) (zTokens_wordCode_120 hB) (zTokens_wordCode_117 hB)))))
def qTokens_wordCode_105 (d mc ms : Nat) (B : Nat → Pd) (K : Ps) : Pd := (i_ci 16 (i_iret mc ms K))
theorem zTokens_wordCode_105 {d mc ms : Nat} {B : Nat → Pd} {K : Ps} (hB : ∀ pc, Le (B pc) (G cTokens_wordCode "VoyageCompany$Tokens" 1 (some .int) "wordCode" (rm (d + 1) mc ms) (QM mc ms K) pc)) : Le (qTokens_wordCode_105 d mc ms B K) (G cTokens_wordCode "VoyageCompany$Tokens" 1 (some .int) "wordCode" (rm (d + 1) mc ms) (QM mc ms K) 105) := by
  unfold qTokens_wordCode_105
  exact (s_bipush (n := 16) (v := 16) (by decide +kernel) (by decide +kernel) (s_iret (by decide +kernel) rfl))
def qTokens_wordCode_96 (d mc ms : Nat) (B : Nat → Pd) (K : Ps) : Pd := (i_ald 0 (i_cs 8 (i_call 0 10 yTokens_spells cTokens_spells 3 (some .boolean) mc ms d 2 (i_if_eq (qTokens_wordCode_108 d mc ms B K) (qTokens_wordCode_105 d mc ms B K)))))
theorem zTokens_wordCode_96 {d mc ms : Nat} {B : Nat → Pd} {K : Ps} (hB : ∀ pc, Le (B pc) (G cTokens_wordCode "VoyageCompany$Tokens" 1 (some .int) "wordCode" (rm (d + 1) mc ms) (QM mc ms K) pc)) : Le (qTokens_wordCode_96 d mc ms B K) (G cTokens_wordCode "VoyageCompany$Tokens" 1 (some .int) "wordCode" (rm (d + 1) mc ms) (QM mc ms K) 96) := by
  unfold qTokens_wordCode_96
  exact (s_ald_n (j := 0) (by decide +kernel) rfl (s_cs (idx := 91) (by decide +kernel) rfl (by decide) (by decide +kernel) (s_call (idx := 73) (by decide +kernel) ml10_73 rmk (s_if_eq (off := 6) (tgt := 108) (by decide +kernel) (by decide) (zTokens_wordCode_108 hB) (zTokens_wordCode_105 hB)))))
def qTokens_wordCode_93 (d mc ms : Nat) (B : Nat → Pd) (K : Ps) : Pd := (i_ci 15 (i_iret mc ms K))
theorem zTokens_wordCode_93 {d mc ms : Nat} {B : Nat → Pd} {K : Ps} (hB : ∀ pc, Le (B pc) (G cTokens_wordCode "VoyageCompany$Tokens" 1 (some .int) "wordCode" (rm (d + 1) mc ms) (QM mc ms K) pc)) : Le (qTokens_wordCode_93 d mc ms B K) (G cTokens_wordCode "VoyageCompany$Tokens" 1 (some .int) "wordCode" (rm (d + 1) mc ms) (QM mc ms K) 93) := by
  unfold qTokens_wordCode_93
  exact (s_bipush (n := 15) (v := 15) (by decide +kernel) (by decide +kernel) (s_iret (by decide +kernel) rfl))
def qTokens_wordCode_84 (d mc ms : Nat) (B : Nat → Pd) (K : Ps) : Pd := (i_ald 0 (i_cs 7 (i_call 0 10 yTokens_spells cTokens_spells 3 (some .boolean) mc ms d 2 (i_if_eq (qTokens_wordCode_96 d mc ms B K) (qTokens_wordCode_93 d mc ms B K)))))
theorem zTokens_wordCode_84 {d mc ms : Nat} {B : Nat → Pd} {K : Ps} (hB : ∀ pc, Le (B pc) (G cTokens_wordCode "VoyageCompany$Tokens" 1 (some .int) "wordCode" (rm (d + 1) mc ms) (QM mc ms K) pc)) : Le (qTokens_wordCode_84 d mc ms B K) (G cTokens_wordCode "VoyageCompany$Tokens" 1 (some .int) "wordCode" (rm (d + 1) mc ms) (QM mc ms K) 84) := by
  unfold qTokens_wordCode_84
  exact (s_ald_n (j := 0) (by decide +kernel) rfl (s_cs (idx := 89) (by decide +kernel) rfl (by decide) (by decide +kernel) (s_call (idx := 73) (by decide +kernel) ml10_73 rmk (s_if_eq (off := 6) (tgt := 96) (by decide +kernel) (by decide) (zTokens_wordCode_96 hB) (zTokens_wordCode_93 hB)))))
def qTokens_wordCode_81 (d mc ms : Nat) (B : Nat → Pd) (K : Ps) : Pd := (i_ci 14 (i_iret mc ms K))
theorem zTokens_wordCode_81 {d mc ms : Nat} {B : Nat → Pd} {K : Ps} (hB : ∀ pc, Le (B pc) (G cTokens_wordCode "VoyageCompany$Tokens" 1 (some .int) "wordCode" (rm (d + 1) mc ms) (QM mc ms K) pc)) : Le (qTokens_wordCode_81 d mc ms B K) (G cTokens_wordCode "VoyageCompany$Tokens" 1 (some .int) "wordCode" (rm (d + 1) mc ms) (QM mc ms K) 81) := by
  unfold qTokens_wordCode_81
  exact (s_bipush (n := 14) (v := 14) (by decide +kernel) (by decide +kernel) (s_iret (by decide +kernel) rfl))
def qTokens_wordCode_72 (d mc ms : Nat) (B : Nat → Pd) (K : Ps) : Pd := (i_ald 0 (i_cs 6 (i_call 0 10 yTokens_spells cTokens_spells 3 (some .boolean) mc ms d 2 (i_if_eq (qTokens_wordCode_84 d mc ms B K) (qTokens_wordCode_81 d mc ms B K)))))
theorem zTokens_wordCode_72 {d mc ms : Nat} {B : Nat → Pd} {K : Ps} (hB : ∀ pc, Le (B pc) (G cTokens_wordCode "VoyageCompany$Tokens" 1 (some .int) "wordCode" (rm (d + 1) mc ms) (QM mc ms K) pc)) : Le (qTokens_wordCode_72 d mc ms B K) (G cTokens_wordCode "VoyageCompany$Tokens" 1 (some .int) "wordCode" (rm (d + 1) mc ms) (QM mc ms K) 72) := by
  unfold qTokens_wordCode_72
  exact (s_ald_n (j := 0) (by decide +kernel) rfl (s_cs (idx := 87) (by decide +kernel) rfl (by decide) (by decide +kernel) (s_call (idx := 73) (by decide +kernel) ml10_73 rmk (s_if_eq (off := 6) (tgt := 84) (by decide +kernel) (by decide) (zTokens_wordCode_84 hB) (zTokens_wordCode_81 hB)))))
def qTokens_wordCode_69 (d mc ms : Nat) (B : Nat → Pd) (K : Ps) : Pd := (i_ci 13 (i_iret mc ms K))
theorem zTokens_wordCode_69 {d mc ms : Nat} {B : Nat → Pd} {K : Ps} (hB : ∀ pc, Le (B pc) (G cTokens_wordCode "VoyageCompany$Tokens" 1 (some .int) "wordCode" (rm (d + 1) mc ms) (QM mc ms K) pc)) : Le (qTokens_wordCode_69 d mc ms B K) (G cTokens_wordCode "VoyageCompany$Tokens" 1 (some .int) "wordCode" (rm (d + 1) mc ms) (QM mc ms K) 69) := by
  unfold qTokens_wordCode_69
  exact (s_bipush (n := 13) (v := 13) (by decide +kernel) (by decide +kernel) (s_iret (by decide +kernel) rfl))
def qTokens_wordCode_60 (d mc ms : Nat) (B : Nat → Pd) (K : Ps) : Pd := (i_ald 0 (i_cs 5 (i_call 0 10 yTokens_spells cTokens_spells 3 (some .boolean) mc ms d 2 (i_if_eq (qTokens_wordCode_72 d mc ms B K) (qTokens_wordCode_69 d mc ms B K)))))
theorem zTokens_wordCode_60 {d mc ms : Nat} {B : Nat → Pd} {K : Ps} (hB : ∀ pc, Le (B pc) (G cTokens_wordCode "VoyageCompany$Tokens" 1 (some .int) "wordCode" (rm (d + 1) mc ms) (QM mc ms K) pc)) : Le (qTokens_wordCode_60 d mc ms B K) (G cTokens_wordCode "VoyageCompany$Tokens" 1 (some .int) "wordCode" (rm (d + 1) mc ms) (QM mc ms K) 60) := by
  unfold qTokens_wordCode_60
  exact (s_ald_n (j := 0) (by decide +kernel) rfl (s_cs (idx := 85) (by decide +kernel) rfl (by decide) (by decide +kernel) (s_call (idx := 73) (by decide +kernel) ml10_73 rmk (s_if_eq (off := 6) (tgt := 72) (by decide +kernel) (by decide) (zTokens_wordCode_72 hB) (zTokens_wordCode_69 hB)))))
def qTokens_wordCode_57 (d mc ms : Nat) (B : Nat → Pd) (K : Ps) : Pd := (i_ci 12 (i_iret mc ms K))
theorem zTokens_wordCode_57 {d mc ms : Nat} {B : Nat → Pd} {K : Ps} (hB : ∀ pc, Le (B pc) (G cTokens_wordCode "VoyageCompany$Tokens" 1 (some .int) "wordCode" (rm (d + 1) mc ms) (QM mc ms K) pc)) : Le (qTokens_wordCode_57 d mc ms B K) (G cTokens_wordCode "VoyageCompany$Tokens" 1 (some .int) "wordCode" (rm (d + 1) mc ms) (QM mc ms K) 57) := by
  unfold qTokens_wordCode_57
  exact (s_bipush (n := 12) (v := 12) (by decide +kernel) (by decide +kernel) (s_iret (by decide +kernel) rfl))
def qTokens_wordCode_48 (d mc ms : Nat) (B : Nat → Pd) (K : Ps) : Pd := (i_ald 0 (i_cs 4 (i_call 0 10 yTokens_spells cTokens_spells 3 (some .boolean) mc ms d 2 (i_if_eq (qTokens_wordCode_60 d mc ms B K) (qTokens_wordCode_57 d mc ms B K)))))
theorem zTokens_wordCode_48 {d mc ms : Nat} {B : Nat → Pd} {K : Ps} (hB : ∀ pc, Le (B pc) (G cTokens_wordCode "VoyageCompany$Tokens" 1 (some .int) "wordCode" (rm (d + 1) mc ms) (QM mc ms K) pc)) : Le (qTokens_wordCode_48 d mc ms B K) (G cTokens_wordCode "VoyageCompany$Tokens" 1 (some .int) "wordCode" (rm (d + 1) mc ms) (QM mc ms K) 48) := by
  unfold qTokens_wordCode_48
  exact (s_ald_n (j := 0) (by decide +kernel) rfl (s_cs (idx := 83) (by decide +kernel) rfl (by decide) (by decide +kernel) (s_call (idx := 73) (by decide +kernel) ml10_73 rmk (s_if_eq (off := 6) (tgt := 60) (by decide +kernel) (by decide) (zTokens_wordCode_60 hB) (zTokens_wordCode_57 hB)))))
def qTokens_wordCode_45 (d mc ms : Nat) (B : Nat → Pd) (K : Ps) : Pd := (i_ci 11 (i_iret mc ms K))
theorem zTokens_wordCode_45 {d mc ms : Nat} {B : Nat → Pd} {K : Ps} (hB : ∀ pc, Le (B pc) (G cTokens_wordCode "VoyageCompany$Tokens" 1 (some .int) "wordCode" (rm (d + 1) mc ms) (QM mc ms K) pc)) : Le (qTokens_wordCode_45 d mc ms B K) (G cTokens_wordCode "VoyageCompany$Tokens" 1 (some .int) "wordCode" (rm (d + 1) mc ms) (QM mc ms K) 45) := by
  unfold qTokens_wordCode_45
  exact (s_bipush (n := 11) (v := 11) (by decide +kernel) (by decide +kernel) (s_iret (by decide +kernel) rfl))
def qTokens_wordCode_36 (d mc ms : Nat) (B : Nat → Pd) (K : Ps) : Pd := (i_ald 0 (i_cs 3 (i_call 0 10 yTokens_spells cTokens_spells 3 (some .boolean) mc ms d 2 (i_if_eq (qTokens_wordCode_48 d mc ms B K) (qTokens_wordCode_45 d mc ms B K)))))
theorem zTokens_wordCode_36 {d mc ms : Nat} {B : Nat → Pd} {K : Ps} (hB : ∀ pc, Le (B pc) (G cTokens_wordCode "VoyageCompany$Tokens" 1 (some .int) "wordCode" (rm (d + 1) mc ms) (QM mc ms K) pc)) : Le (qTokens_wordCode_36 d mc ms B K) (G cTokens_wordCode "VoyageCompany$Tokens" 1 (some .int) "wordCode" (rm (d + 1) mc ms) (QM mc ms K) 36) := by
  unfold qTokens_wordCode_36
  exact (s_ald_n (j := 0) (by decide +kernel) rfl (s_cs (idx := 81) (by decide +kernel) rfl (by decide) (by decide +kernel) (s_call (idx := 73) (by decide +kernel) ml10_73 rmk (s_if_eq (off := 6) (tgt := 48) (by decide +kernel) (by decide) (zTokens_wordCode_48 hB) (zTokens_wordCode_45 hB)))))
def qTokens_wordCode_33 (d mc ms : Nat) (B : Nat → Pd) (K : Ps) : Pd := (i_ci 10 (i_iret mc ms K))
theorem zTokens_wordCode_33 {d mc ms : Nat} {B : Nat → Pd} {K : Ps} (hB : ∀ pc, Le (B pc) (G cTokens_wordCode "VoyageCompany$Tokens" 1 (some .int) "wordCode" (rm (d + 1) mc ms) (QM mc ms K) pc)) : Le (qTokens_wordCode_33 d mc ms B K) (G cTokens_wordCode "VoyageCompany$Tokens" 1 (some .int) "wordCode" (rm (d + 1) mc ms) (QM mc ms K) 33) := by
  unfold qTokens_wordCode_33
  exact (s_bipush (n := 10) (v := 10) (by decide +kernel) (by decide +kernel) (s_iret (by decide +kernel) rfl))
def qTokens_wordCode_24 (d mc ms : Nat) (B : Nat → Pd) (K : Ps) : Pd := (i_ald 0 (i_cs 2 (i_call 0 10 yTokens_spells cTokens_spells 3 (some .boolean) mc ms d 2 (i_if_eq (qTokens_wordCode_36 d mc ms B K) (qTokens_wordCode_33 d mc ms B K)))))
theorem zTokens_wordCode_24 {d mc ms : Nat} {B : Nat → Pd} {K : Ps} (hB : ∀ pc, Le (B pc) (G cTokens_wordCode "VoyageCompany$Tokens" 1 (some .int) "wordCode" (rm (d + 1) mc ms) (QM mc ms K) pc)) : Le (qTokens_wordCode_24 d mc ms B K) (G cTokens_wordCode "VoyageCompany$Tokens" 1 (some .int) "wordCode" (rm (d + 1) mc ms) (QM mc ms K) 24) := by
  unfold qTokens_wordCode_24
  exact (s_ald_n (j := 0) (by decide +kernel) rfl (s_cs (idx := 79) (by decide +kernel) rfl (by decide) (by decide +kernel) (s_call (idx := 73) (by decide +kernel) ml10_73 rmk (s_if_eq (off := 6) (tgt := 36) (by decide +kernel) (by decide) (zTokens_wordCode_36 hB) (zTokens_wordCode_33 hB)))))
def qTokens_wordCode_21 (d mc ms : Nat) (B : Nat → Pd) (K : Ps) : Pd := (i_ci 9 (i_iret mc ms K))
theorem zTokens_wordCode_21 {d mc ms : Nat} {B : Nat → Pd} {K : Ps} (hB : ∀ pc, Le (B pc) (G cTokens_wordCode "VoyageCompany$Tokens" 1 (some .int) "wordCode" (rm (d + 1) mc ms) (QM mc ms K) pc)) : Le (qTokens_wordCode_21 d mc ms B K) (G cTokens_wordCode "VoyageCompany$Tokens" 1 (some .int) "wordCode" (rm (d + 1) mc ms) (QM mc ms K) 21) := by
  unfold qTokens_wordCode_21
  exact (s_bipush (n := 9) (v := 9) (by decide +kernel) (by decide +kernel) (s_iret (by decide +kernel) rfl))
def qTokens_wordCode_12 (d mc ms : Nat) (B : Nat → Pd) (K : Ps) : Pd := (i_ald 0 (i_cs 1 (i_call 0 10 yTokens_spells cTokens_spells 3 (some .boolean) mc ms d 2 (i_if_eq (qTokens_wordCode_24 d mc ms B K) (qTokens_wordCode_21 d mc ms B K)))))
theorem zTokens_wordCode_12 {d mc ms : Nat} {B : Nat → Pd} {K : Ps} (hB : ∀ pc, Le (B pc) (G cTokens_wordCode "VoyageCompany$Tokens" 1 (some .int) "wordCode" (rm (d + 1) mc ms) (QM mc ms K) pc)) : Le (qTokens_wordCode_12 d mc ms B K) (G cTokens_wordCode "VoyageCompany$Tokens" 1 (some .int) "wordCode" (rm (d + 1) mc ms) (QM mc ms K) 12) := by
  unfold qTokens_wordCode_12
  exact (s_ald_n (j := 0) (by decide +kernel) rfl (s_cs (idx := 77) (by decide +kernel) rfl (by decide) (by decide +kernel) (s_call (idx := 73) (by decide +kernel) ml10_73 rmk (s_if_eq (off := 6) (tgt := 24) (by decide +kernel) (by decide) (zTokens_wordCode_24 hB) (zTokens_wordCode_21 hB)))))
def qTokens_wordCode_9 (d mc ms : Nat) (B : Nat → Pd) (K : Ps) : Pd := (i_ci 8 (i_iret mc ms K))
theorem zTokens_wordCode_9 {d mc ms : Nat} {B : Nat → Pd} {K : Ps} (hB : ∀ pc, Le (B pc) (G cTokens_wordCode "VoyageCompany$Tokens" 1 (some .int) "wordCode" (rm (d + 1) mc ms) (QM mc ms K) pc)) : Le (qTokens_wordCode_9 d mc ms B K) (G cTokens_wordCode "VoyageCompany$Tokens" 1 (some .int) "wordCode" (rm (d + 1) mc ms) (QM mc ms K) 9) := by
  unfold qTokens_wordCode_9
  exact (s_bipush (n := 8) (v := 8) (by decide +kernel) (by decide +kernel) (s_iret (by decide +kernel) rfl))
def qTokens_wordCode_0 (d mc ms : Nat) (B : Nat → Pd) (K : Ps) : Pd := (i_ald 0 (i_cs 0 (i_call 0 10 yTokens_spells cTokens_spells 3 (some .boolean) mc ms d 2 (i_if_eq (qTokens_wordCode_12 d mc ms B K) (qTokens_wordCode_9 d mc ms B K)))))
theorem zTokens_wordCode_0 {d mc ms : Nat} {B : Nat → Pd} {K : Ps} (hB : ∀ pc, Le (B pc) (G cTokens_wordCode "VoyageCompany$Tokens" 1 (some .int) "wordCode" (rm (d + 1) mc ms) (QM mc ms K) pc)) : Le (qTokens_wordCode_0 d mc ms B K) (G cTokens_wordCode "VoyageCompany$Tokens" 1 (some .int) "wordCode" (rm (d + 1) mc ms) (QM mc ms K) 0) := by
  unfold qTokens_wordCode_0
  exact (s_ald_n (j := 0) (by decide +kernel) rfl (s_cs (idx := 71) (by decide +kernel) rfl (by decide) (by decide +kernel) (s_call (idx := 73) (by decide +kernel) ml10_73 rmk (s_if_eq (off := 6) (tgt := 12) (by decide +kernel) (by decide) (zTokens_wordCode_12 hB) (zTokens_wordCode_9 hB)))))
/-- VoyageCompany$Tokens.wordCode()I, at its places -/
def gTokens_wordCode (d mc ms : Nat) (K : Ps) : Nat → Pd := G cTokens_wordCode "VoyageCompany$Tokens" 1 (some .int) "wordCode" (rm (d + 1) mc ms) (QM mc ms K)
theorem eTokens_wordCode {d mc ms : Nat} {K : Ps} {av : List Value} {E : Nat → Prop} {R : Nat → Nat → Value} {I : Nat → Nat → Int32} {J : Nat → Nat → Int64} (hn : (lg_sl av).length ≤ 1) (h : qTokens_wordCode_0 d mc ms (gTokens_wordCode d mc ms K) K (lv_args 0 av) [] E R I J 0 0) : CL yTokens_wordCode cTokens_wordCode 1 (some .int) (d + 1) mc ms av E R I J K :=
  CL.of (by decide +kernel) hn (zTokens_wordCode_0 (fun _ => Le.refl) _ _ _ _ _ _ _ _ h)
def qTokens_spells_55 (d mc ms : Nat) (B : Nat → Pd) (K : Ps) : Pd := (i_ci 1 (i_zret mc ms K))
theorem zTokens_spells_55 {d mc ms : Nat} {B : Nat → Pd} {K : Ps} (hB : ∀ pc, Le (B pc) (G cTokens_spells "VoyageCompany$Tokens" 3 (some .boolean) "spells" (rm (d + 1) mc ms) (QM mc ms K) pc)) : Le (qTokens_spells_55 d mc ms B K) (G cTokens_spells "VoyageCompany$Tokens" 3 (some .boolean) "spells" (rm (d + 1) mc ms) (QM mc ms K) 55) := by
  unfold qTokens_spells_55
  exact (s_iconst (n := 1) (v := 1) (by decide +kernel) (by decide +kernel) (s_zret (by decide +kernel) rfl))
def qTokens_spells_49 (d mc ms : Nat) (B : Nat → Pd) (K : Ps) : Pd := (i_inc 2 1 (B 20))
theorem zTokens_spells_49 {d mc ms : Nat} {B : Nat → Pd} {K : Ps} (hB : ∀ pc, Le (B pc) (G cTokens_spells "VoyageCompany$Tokens" 3 (some .boolean) "spells" (rm (d + 1) mc ms) (QM mc ms K) pc)) : Le (qTokens_spells_49 d mc ms B K) (G cTokens_spells "VoyageCompany$Tokens" 3 (some .boolean) "spells" (rm (d + 1) mc ms) (QM mc ms K) 49) := by
  unfold qTokens_spells_49
  exact (s_inc (z := 1) (by decide +kernel) (by decide +kernel) (by decide) (s_goto (off := (-32)) (tgt := 20) (by decide +kernel) (by decide) (hB 20)))
def qTokens_spells_47 (d mc ms : Nat) (B : Nat → Pd) (K : Ps) : Pd := (i_ci 0 (i_zret mc ms K))
theorem zTokens_spells_47 {d mc ms : Nat} {B : Nat → Pd} {K : Ps} (hB : ∀ pc, Le (B pc) (G cTokens_spells "VoyageCompany$Tokens" 3 (some .boolean) "spells" (rm (d + 1) mc ms) (QM mc ms K) pc)) : Le (qTokens_spells_47 d mc ms B K) (G cTokens_spells "VoyageCompany$Tokens" 3 (some .boolean) "spells" (rm (d + 1) mc ms) (QM mc ms K) 47) := by
  unfold qTokens_spells_47
  exact (s_iconst (n := 0) (v := 0) (by decide +kernel) (by decide +kernel) (s_zret (by decide +kernel) rfl))
def qTokens_spells_28 (d mc ms : Nat) (B : Nat → Pd) (K : Ps) : Pd := (i_ald 0 (i_getr 10 0 (i_ald 0 (i_geti 10 2 (i_ild 2 (i_iadd (i_bald (i_ald 1 (i_ild 2 (i_callT yJstr_charAt cJstr_charAt 2 (some .char) mc ms d 2 (i_ic_eq (qTokens_spells_49 d mc ms B K) (qTokens_spells_47 d mc ms B K))))))))))))
theorem zTokens_spells_28 {d mc ms : Nat} {B : Nat → Pd} {K : Ps} (hB : ∀ pc, Le (B pc) (G cTokens_spells "VoyageCompany$Tokens" 3 (some .boolean) "spells" (rm (d + 1) mc ms) (QM mc ms K) pc)) : Le (qTokens_spells_28 d mc ms B K) (G cTokens_spells "VoyageCompany$Tokens" 3 (some .boolean) "spells" (rm (d + 1) mc ms) (QM mc ms K) 28) := by
  unfold qTokens_spells_28
  exact (s_ald_n (j := 0) (by decide +kernel) rfl (s_getr (idx := 9) (by decide +kernel) fl10_9 (by decide) (s_ald_n (j := 0) (by decide +kernel) rfl (s_geti (idx := 39) (by decide +kernel) fl10_39 (by decide) (s_ild_n (j := 2) (by decide +kernel) rfl (s_iadd (by decide +kernel) (s_bald (by decide +kernel) (s_ald_n (j := 1) (by decide +kernel) rfl (s_ild_n (j := 2) (by decide +kernel) rfl (s_callT (idx := 115) (by decide +kernel) (by decide +kernel) rmk (s_ic_eq (off := 5) (tgt := 49) (by decide +kernel) (by decide) (zTokens_spells_49 hB) (zTokens_spells_47 hB))))))))))))
def qTokens_spells_20 (d mc ms : Nat) (B : Nat → Pd) (K : Ps) : Pd := (i_ild 2 (i_ald 1 (i_callT yJstr_length cJstr_length 1 (some .int) mc ms d 1 (i_ic_ge (qTokens_spells_55 d mc ms B K) (qTokens_spells_28 d mc ms B K)))))
theorem zTokens_spells_20 {d mc ms : Nat} {B : Nat → Pd} {K : Ps} (hB : ∀ pc, Le (B pc) (G cTokens_spells "VoyageCompany$Tokens" 3 (some .boolean) "spells" (rm (d + 1) mc ms) (QM mc ms K) pc)) : Le (qTokens_spells_20 d mc ms B K) (G cTokens_spells "VoyageCompany$Tokens" 3 (some .boolean) "spells" (rm (d + 1) mc ms) (QM mc ms K) 20) := by
  unfold qTokens_spells_20
  exact (s_ild_n (j := 2) (by decide +kernel) rfl (s_ald_n (j := 1) (by decide +kernel) rfl (s_callT (idx := 111) (by decide +kernel) (by decide +kernel) rmk (s_ic_ge (off := 30) (tgt := 55) (by decide +kernel) (by decide) (zTokens_spells_55 hB) (zTokens_spells_28 hB)))))
def qTokens_spells_18 (d mc ms : Nat) (B : Nat → Pd) (K : Ps) : Pd := (i_ci 0 (i_ist 2 (B 20)))
theorem zTokens_spells_18 {d mc ms : Nat} {B : Nat → Pd} {K : Ps} (hB : ∀ pc, Le (B pc) (G cTokens_spells "VoyageCompany$Tokens" 3 (some .boolean) "spells" (rm (d + 1) mc ms) (QM mc ms K) pc)) : Le (qTokens_spells_18 d mc ms B K) (G cTokens_spells "VoyageCompany$Tokens" 3 (some .boolean) "spells" (rm (d + 1) mc ms) (QM mc ms K) 18) := by
  unfold qTokens_spells_18
  exact (s_iconst (n := 0) (v := 0) (by decide +kernel) (by decide +kernel) (s_ist_n (j := 2) (by decide +kernel) rfl (by decide) (hB 20)))
def qTokens_spells_16 (d mc ms : Nat) (B : Nat → Pd) (K : Ps) : Pd := (i_ci 0 (i_zret mc ms K))
theorem zTokens_spells_16 {d mc ms : Nat} {B : Nat → Pd} {K : Ps} (hB : ∀ pc, Le (B pc) (G cTokens_spells "VoyageCompany$Tokens" 3 (some .boolean) "spells" (rm (d + 1) mc ms) (QM mc ms K) pc)) : Le (qTokens_spells_16 d mc ms B K) (G cTokens_spells "VoyageCompany$Tokens" 3 (some .boolean) "spells" (rm (d + 1) mc ms) (QM mc ms K) 16) := by
  unfold qTokens_spells_16
  exact (s_iconst (n := 0) (v := 0) (by decide +kernel) (by decide +kernel) (s_zret (by decide +kernel) rfl))
def qTokens_spells_0 (d mc ms : Nat) (B : Nat → Pd) (K : Ps) : Pd := (i_ald 0 (i_geti 10 3 (i_ald 0 (i_geti 10 2 (i_isub (i_ald 1 (i_callT yJstr_length cJstr_length 1 (some .int) mc ms d 1 (i_ic_eq (qTokens_spells_18 d mc ms B K) (qTokens_spells_16 d mc ms B K)))))))))
theorem zTokens_spells_0 {d mc ms : Nat} {B : Nat → Pd} {K : Ps} (hB : ∀ pc, Le (B pc) (G cTokens_spells "VoyageCompany$Tokens" 3 (some .boolean) "spells" (rm (d + 1) mc ms) (QM mc ms K) pc)) : Le (qTokens_spells_0 d mc ms B K) (G cTokens_spells "VoyageCompany$Tokens" 3 (some .boolean) "spells" (rm (d + 1) mc ms) (QM mc ms K) 0) := by
  unfold qTokens_spells_0
  exact (s_ald_n (j := 0) (by decide +kernel) rfl (s_geti (idx := 29) (by decide +kernel) fl10_29 (by decide) (s_ald_n (j := 0) (by decide +kernel) rfl (s_geti (idx := 39) (by decide +kernel) fl10_39 (by decide) (s_isub (by decide +kernel) (s_ald_n (j := 1) (by decide +kernel) rfl (s_callT (idx := 111) (by decide +kernel) (by decide +kernel) rmk (s_ic_eq (off := 5) (tgt := 18) (by decide +kernel) (by decide) (zTokens_spells_18 hB) (zTokens_spells_16 hB)))))))))
/-- VoyageCompany$Tokens.spells(Ljava/lang/String;)Z, at its places -/
def gTokens_spells (d mc ms : Nat) (K : Ps) : Nat → Pd := G cTokens_spells "VoyageCompany$Tokens" 3 (some .boolean) "spells" (rm (d + 1) mc ms) (QM mc ms K)
theorem eTokens_spells {d mc ms : Nat} {K : Ps} {av : List Value} {E : Nat → Prop} {R : Nat → Nat → Value} {I : Nat → Nat → Int32} {J : Nat → Nat → Int64} (hn : (lg_sl av).length ≤ 3) (h : qTokens_spells_0 d mc ms (gTokens_spells d mc ms K) K (lv_args 0 av) [] E R I J 0 0) : CL yTokens_spells cTokens_spells 3 (some .boolean) (d + 1) mc ms av E R I J K :=
  CL.of (by decide +kernel) hn (zTokens_spells_0 (fun _ => Le.refl) _ _ _ _ _ _ _ _ h)
theorem lTokens_spells_20 {d mc ms : Nat} {K : Ps} : Le (qTokens_spells_20 d mc ms (gTokens_spells d mc ms K) K) (gTokens_spells d mc ms K 20) := zTokens_spells_20 (fun _ => Le.refl)
def qReader_new_0 (d mc ms : Nat) (B : Nat → Pd) (K : Ps) : Pd := (i_ald 0 (i_obj (i_ald 0 (i_new 3 mc ms (i_dup (i_callA 1 3 yOrders_new cOrders_new 1 none mc ms d 1 (i_putr 6 0 (i_ald 0 (i_new 10 mc ms (i_dup (i_callA 1 10 yTokens_new cTokens_new 1 none mc ms d 1 (i_putr 6 3 (i_vret mc ms K)))))))))))))
theorem zReader_new_0 {d mc ms : Nat} {B : Nat → Pd} {K : Ps} (hB : ∀ pc, Le (B pc) (G cReader_new "VoyageCompany$Reader" 1 none "<init>" (rm (d + 1) mc ms) (QM mc ms K) pc)) : Le (qReader_new_0 d mc ms B K) (G cReader_new "VoyageCompany$Reader" 1 none "<init>" (rm (d + 1) mc ms) (QM mc ms K) 0) := by
  unfold qReader_new_0
  exact (s_ald_n (j := 0) (by decide +kernel) rfl (s_obj (idx := 3) (by decide +kernel) (lw_gm (by decide +kernel) (by decide +kernel)) rmo (s_ald_n (j := 0) (by decide +kernel) rfl (s_new (idx := 9) (by decide +kernel) (by decide) (lw_gm (by decide +kernel) (by decide +kernel)) rmn (s_dup (by decide +kernel) (s_callA (idx := 11) (by decide +kernel) ml6_11 rmk (s_putr (idx := 12) (by decide +kernel) fl6_12 (by decide) (by decide) (Or.inr ⟨rfl, by decide +kernel, by decide +kernel⟩) (s_ald_n (j := 0) (by decide +kernel) rfl (s_new (idx := 18) (by decide +kernel) (by decide) (lw_gm (by decide +kernel) (by decide +kernel)) rmn (s_dup (by decide +kernel) (s_callA (idx := 20) (by decide +kernel) ml6_20 rmk (s_putr (idx := 21) (by decide +kernel) fl6_21 (by decide) (by decide) (Or.inr ⟨rfl, by decide +kernel, by decide +kernel⟩) (s_vret (by decide +kernel) rfl)))))))))))))
/-- VoyageCompany$Reader.<init>()V, at its places -/
def gReader_new (d mc ms : Nat) (K : Ps) : Nat → Pd := G cReader_new "VoyageCompany$Reader" 1 none "<init>" (rm (d + 1) mc ms) (QM mc ms K)
theorem eReader_new {d mc ms : Nat} {K : Ps} {av : List Value} {E : Nat → Prop} {R : Nat → Nat → Value} {I : Nat → Nat → Int32} {J : Nat → Nat → Int64} (hn : (lg_sl av).length ≤ 1) (h : qReader_new_0 d mc ms (gReader_new d mc ms K) K (lv_args 0 av) [] E R I J 0 0) : CL yReader_new cReader_new 1 none (d + 1) mc ms av E R I J K :=
  CL.of (by decide +kernel) hn (zReader_new_0 (fun _ => Le.refl) _ _ _ _ _ _ _ _ h)
def qReader_read_103 (d mc ms : Nat) (B : Nat → Pd) (K : Ps) : Pd := (i_vret mc ms K)
theorem zReader_read_103 {d mc ms : Nat} {B : Nat → Pd} {K : Ps} (hB : ∀ pc, Le (B pc) (G cReader_read "VoyageCompany$Reader" 4 none "read" (rm (d + 1) mc ms) (QM mc ms K) pc)) : Le (qReader_read_103 d mc ms B K) (G cReader_read "VoyageCompany$Reader" 4 none "read" (rm (d + 1) mc ms) (QM mc ms K) 103) := by
  unfold qReader_read_103
  exact (s_vret (by decide +kernel) rfl)
def qReader_read_87 (d mc ms : Nat) (B : Nat → Pd) (K : Ps) : Pd := (i_ald 0 (i_ci 1 (i_puti 6 1 (i_ald 0 (i_ald 0 (i_getr 6 3 (i_geti 10 2 (i_puti 6 2 (qReader_read_103 d mc ms B K)))))))))
theorem zReader_read_87 {d mc ms : Nat} {B : Nat → Pd} {K : Ps} (hB : ∀ pc, Le (B pc) (G cReader_read "VoyageCompany$Reader" 4 none "read" (rm (d + 1) mc ms) (QM mc ms K) pc)) : Le (qReader_read_87 d mc ms B K) (G cReader_read "VoyageCompany$Reader" 4 none "read" (rm (d + 1) mc ms) (QM mc ms K) 87) := by
  unfold qReader_read_87
  exact (s_ald_n (j := 0) (by decide +kernel) rfl (s_iconst (n := 1) (v := 1) (by decide +kernel) (by decide +kernel) (s_puti (idx := 25) (by decide +kernel) fl6_25 (by decide) (by decide) (Or.inl (by decide +kernel)) (s_ald_n (j := 0) (by decide +kernel) rfl (s_ald_n (j := 0) (by decide +kernel) rfl (s_getr (idx := 21) (by decide +kernel) fl6_21 (by decide) (s_geti (idx := 52) (by decide +kernel) fl6_52 (by decide) (s_puti (idx := 29) (by decide +kernel) fl6_29 (by decide) (by decide) (Or.inl (by decide +kernel)) (zReader_read_103 hB)))))))))
def qReader_read_83 (d mc ms : Nat) (B : Nat → Pd) (K : Ps) : Pd := (i_ild 2 (i_if_eq (qReader_read_103 d mc ms B K) (qReader_read_87 d mc ms B K)))
theorem zReader_read_83 {d mc ms : Nat} {B : Nat → Pd} {K : Ps} (hB : ∀ pc, Le (B pc) (G cReader_read "VoyageCompany$Reader" 4 none "read" (rm (d + 1) mc ms) (QM mc ms K) pc)) : Le (qReader_read_83 d mc ms B K) (G cReader_read "VoyageCompany$Reader" 4 none "read" (rm (d + 1) mc ms) (QM mc ms K) 83) := by
  unfold qReader_read_83
  exact (s_ild_n (j := 2) (by decide +kernel) rfl (s_if_eq (off := 19) (tgt := 103) (by decide +kernel) (by decide) (zReader_read_103 hB) (zReader_read_87 hB)))
def qReader_read_77 (d mc ms : Nat) (B : Nat → Pd) (K : Ps) : Pd := (i_inc 3 1 (B 35))
theorem zReader_read_77 {d mc ms : Nat} {B : Nat → Pd} {K : Ps} (hB : ∀ pc, Le (B pc) (G cReader_read "VoyageCompany$Reader" 4 none "read" (rm (d + 1) mc ms) (QM mc ms K) pc)) : Le (qReader_read_77 d mc ms B K) (G cReader_read "VoyageCompany$Reader" 4 none "read" (rm (d + 1) mc ms) (QM mc ms K) 77) := by
  unfold qReader_read_77
  exact (s_inc (z := 1) (by decide +kernel) (by decide +kernel) (by decide) (s_goto (off := (-45)) (tgt := 35) (by decide +kernel) (by decide) (hB 35)))
def qReader_read_70 (d mc ms : Nat) (B : Nat → Pd) (K : Ps) : Pd := (i_ald 0 (i_getr 6 3 (i_call 0 10 yTokens_step cTokens_step 1 none mc ms d 1 (qReader_read_77 d mc ms B K))))
theorem zReader_read_70 {d mc ms : Nat} {B : Nat → Pd} {K : Ps} (hB : ∀ pc, Le (B pc) (G cReader_read "VoyageCompany$Reader" 4 none "read" (rm (d + 1) mc ms) (QM mc ms K) pc)) : Le (qReader_read_70 d mc ms B K) (G cReader_read "VoyageCompany$Reader" 4 none "read" (rm (d + 1) mc ms) (QM mc ms K) 70) := by
  unfold qReader_read_70
  exact (s_ald_n (j := 0) (by decide +kernel) rfl (s_getr (idx := 21) (by decide +kernel) fl6_21 (by decide) (s_call (idx := 49) (by decide +kernel) ml6_49 rmk (zReader_read_77 hB))))
def qReader_read_58 (d mc ms : Nat) (B : Nat → Pd) (K : Ps) : Pd := (i_ald 0 (i_ild 2 (i_call 0 6 yReader_take cReader_take 2 (some .int) mc ms d 2 (i_ist 2 (i_ild 2 (i_ci 10 (i_ic_eq (qReader_read_77 d mc ms B K) (qReader_read_70 d mc ms B K))))))))
theorem zReader_read_58 {d mc ms : Nat} {B : Nat → Pd} {K : Ps} (hB : ∀ pc, Le (B pc) (G cReader_read "VoyageCompany$Reader" 4 none "read" (rm (d + 1) mc ms) (QM mc ms K) pc)) : Le (qReader_read_58 d mc ms B K) (G cReader_read "VoyageCompany$Reader" 4 none "read" (rm (d + 1) mc ms) (QM mc ms K) 58) := by
  unfold qReader_read_58
  exact (s_ald_n (j := 0) (by decide +kernel) rfl (s_ild_n (j := 2) (by decide +kernel) rfl (s_call (idx := 45) (by decide +kernel) ml6_45 rmk (s_ist_n (j := 2) (by decide +kernel) rfl (by decide) (s_ild_n (j := 2) (by decide +kernel) rfl (s_bipush (n := 10) (v := 10) (by decide +kernel) (by decide +kernel) (s_ic_eq (off := 10) (tgt := 77) (by decide +kernel) (by decide) (zReader_read_77 hB) (zReader_read_70 hB))))))))
def qReader_read_52 (d mc ms : Nat) (B : Nat → Pd) (K : Ps) : Pd := (i_ild 2 (i_ci 10 (i_ic_eq (qReader_read_83 d mc ms B K) (qReader_read_58 d mc ms B K))))
theorem zReader_read_52 {d mc ms : Nat} {B : Nat → Pd} {K : Ps} (hB : ∀ pc, Le (B pc) (G cReader_read "VoyageCompany$Reader" 4 none "read" (rm (d + 1) mc ms) (QM mc ms K) pc)) : Le (qReader_read_52 d mc ms B K) (G cReader_read "VoyageCompany$Reader" 4 none "read" (rm (d + 1) mc ms) (QM mc ms K) 52) := by
  unfold qReader_read_52
  exact (s_ild_n (j := 2) (by decide +kernel) rfl (s_bipush (n := 10) (v := 10) (by decide +kernel) (by decide +kernel) (s_ic_eq (off := 28) (tgt := 83) (by decide +kernel) (by decide) (zReader_read_83 hB) (zReader_read_58 hB))))
def qReader_read_42 (d mc ms : Nat) (B : Nat → Pd) (K : Ps) : Pd := (i_ald 0 (i_getr 6 3 (i_geti 10 4 (i_if_eq (qReader_read_83 d mc ms B K) (qReader_read_52 d mc ms B K)))))
theorem zReader_read_42 {d mc ms : Nat} {B : Nat → Pd} {K : Ps} (hB : ∀ pc, Le (B pc) (G cReader_read "VoyageCompany$Reader" 4 none "read" (rm (d + 1) mc ms) (QM mc ms K) pc)) : Le (qReader_read_42 d mc ms B K) (G cReader_read "VoyageCompany$Reader" 4 none "read" (rm (d + 1) mc ms) (QM mc ms K) 42) := by
  unfold qReader_read_42
  exact (s_ald_n (j := 0) (by decide +kernel) rfl (s_getr (idx := 21) (by decide +kernel) fl6_21 (by decide) (s_geti (idx := 42) (by decide +kernel) fl6_42 (by decide) (s_if_eq (off := 34) (tgt := 83) (by decide +kernel) (by decide) (zReader_read_83 hB) (zReader_read_52 hB)))))
def qReader_read_35 (d mc ms : Nat) (B : Nat → Pd) (K : Ps) : Pd := (i_ild 3 (i_ci 500 (i_ic_gt (qReader_read_83 d mc ms B K) (qReader_read_42 d mc ms B K))))
theorem zReader_read_35 {d mc ms : Nat} {B : Nat → Pd} {K : Ps} (hB : ∀ pc, Le (B pc) (G cReader_read "VoyageCompany$Reader" 4 none "read" (rm (d + 1) mc ms) (QM mc ms K) pc)) : Le (qReader_read_35 d mc ms B K) (G cReader_read "VoyageCompany$Reader" 4 none "read" (rm (d + 1) mc ms) (QM mc ms K) 35) := by
  unfold qReader_read_35
  exact (s_ild_n (j := 3) (by decide +kernel) rfl (s_sipush (n := 500) (v := 500) (by decide +kernel) (by decide +kernel) (s_ic_gt (off := 44) (tgt := 83) (by decide +kernel) (by decide) (zReader_read_83 hB) (zReader_read_42 hB))))
def qReader_read_0 (d mc ms : Nat) (B : Nat → Pd) (K : Ps) : Pd := (i_ald 0 (i_ci 0 (i_puti 6 1 (i_ald 0 (i_ci (-1) (i_puti 6 2 (i_ald 0 (i_getr 6 0 (i_ci 0 (i_puti 3 0 (i_ald 0 (i_ci (-1) (i_puti 6 4 (i_ald 0 (i_getr 6 3 (i_ald 1 (i_call 0 10 yTokens_open cTokens_open 2 none mc ms d 2 (i_ci 0 (i_ist 2 (i_ci 0 (i_ist 3 (B 35))))))))))))))))))))))
theorem zReader_read_0 {d mc ms : Nat} {B : Nat → Pd} {K : Ps} (hB : ∀ pc, Le (B pc) (G cReader_read "VoyageCompany$Reader" 4 none "read" (rm (d + 1) mc ms) (QM mc ms K) pc)) : Le (qReader_read_0 d mc ms B K) (G cReader_read "VoyageCompany$Reader" 4 none "read" (rm (d + 1) mc ms) (QM mc ms K) 0) := by
  unfold qReader_read_0
  exact (s_ald_n (j := 0) (by decide +kernel) rfl (s_iconst (n := 0) (v := 0) (by decide +kernel) (by decide +kernel) (s_puti (idx := 25) (by decide +kernel) fl6_25 (by decide) (by decide) (Or.inl (by decide +kernel)) (s_ald_n (j := 0) (by decide +kernel) rfl (s_iconst (n := (-1)) (v := (-1)) (by decide +kernel) (by decide +kernel) (s_puti (idx := 29) (by decide +kernel) fl6_29 (by decide) (by decide) (Or.inl (by decide +kernel)) (s_ald_n (j := 0) (by decide +kernel) rfl (s_getr (idx := 12) (by decide +kernel) fl6_12 (by decide) (s_iconst (n := 0) (v := 0) (by decide +kernel) (by decide +kernel) (s_puti (idx := 32) (by decide +kernel) fl6_32 (by decide) (by decide) (Or.inl (by decide +kernel)) (s_ald_n (j := 0) (by decide +kernel) rfl (s_iconst (n := (-1)) (v := (-1)) (by decide +kernel) (by decide +kernel) (s_puti (idx := 35) (by decide +kernel) fl6_35 (by decide) (by decide) (Or.inl (by decide +kernel)) (s_ald_n (j := 0) (by decide +kernel) rfl (s_getr (idx := 21) (by decide +kernel) fl6_21 (by decide) (s_ald_n (j := 1) (by decide +kernel) rfl (s_call (idx := 38) (by decide +kernel) ml6_38 rmk (s_iconst (n := 0) (v := 0) (by decide +kernel) (by decide +kernel) (s_ist_n (j := 2) (by decide +kernel) rfl (by decide) (s_iconst (n := 0) (v := 0) (by decide +kernel) (by decide +kernel) (s_ist_n (j := 3) (by decide +kernel) rfl (by decide) (hB 35))))))))))))))))))))))
/-- VoyageCompany$Reader.read(LVoyageCompany$Tape;)V, at its places -/
def gReader_read (d mc ms : Nat) (K : Ps) : Nat → Pd := G cReader_read "VoyageCompany$Reader" 4 none "read" (rm (d + 1) mc ms) (QM mc ms K)
theorem eReader_read {d mc ms : Nat} {K : Ps} {av : List Value} {E : Nat → Prop} {R : Nat → Nat → Value} {I : Nat → Nat → Int32} {J : Nat → Nat → Int64} (hn : (lg_sl av).length ≤ 4) (h : qReader_read_0 d mc ms (gReader_read d mc ms K) K (lv_args 0 av) [] E R I J 0 0) : CL yReader_read cReader_read 4 none (d + 1) mc ms av E R I J K :=
  CL.of (by decide +kernel) hn (zReader_read_0 (fun _ => Le.refl) _ _ _ _ _ _ _ _ h)
theorem lReader_read_35 {d mc ms : Nat} {K : Ps} : Le (qReader_read_35 d mc ms (gReader_read d mc ms K) K) (gReader_read d mc ms K 35) := zReader_read_35 (fun _ => Le.refl)
def qReader_mark_23 (d mc ms : Nat) (B : Nat → Pd) (K : Ps) : Pd := (i_vret mc ms K)
theorem zReader_mark_23 {d mc ms : Nat} {B : Nat → Pd} {K : Ps} (hB : ∀ pc, Le (B pc) (G cReader_mark "VoyageCompany$Reader" 2 none "mark" (rm (d + 1) mc ms) (QM mc ms K) pc)) : Le (qReader_mark_23 d mc ms B K) (G cReader_mark "VoyageCompany$Reader" 2 none "mark" (rm (d + 1) mc ms) (QM mc ms K) 23) := by
  unfold qReader_mark_23
  exact (s_vret (by decide +kernel) rfl)
def qReader_mark_7 (d mc ms : Nat) (B : Nat → Pd) (K : Ps) : Pd := (i_ald 0 (i_ild 1 (i_puti 6 1 (i_ald 0 (i_ald 0 (i_getr 6 3 (i_geti 10 2 (i_puti 6 2 (qReader_mark_23 d mc ms B K)))))))))
theorem zReader_mark_7 {d mc ms : Nat} {B : Nat → Pd} {K : Ps} (hB : ∀ pc, Le (B pc) (G cReader_mark "VoyageCompany$Reader" 2 none "mark" (rm (d + 1) mc ms) (QM mc ms K) pc)) : Le (qReader_mark_7 d mc ms B K) (G cReader_mark "VoyageCompany$Reader" 2 none "mark" (rm (d + 1) mc ms) (QM mc ms K) 7) := by
  unfold qReader_mark_7
  exact (s_ald_n (j := 0) (by decide +kernel) rfl (s_ild_n (j := 1) (by decide +kernel) rfl (s_puti (idx := 25) (by decide +kernel) fl6_25 (by decide) (by decide) (Or.inl (by decide +kernel)) (s_ald_n (j := 0) (by decide +kernel) rfl (s_ald_n (j := 0) (by decide +kernel) rfl (s_getr (idx := 21) (by decide +kernel) fl6_21 (by decide) (s_geti (idx := 52) (by decide +kernel) fl6_52 (by decide) (s_puti (idx := 29) (by decide +kernel) fl6_29 (by decide) (by decide) (Or.inl (by decide +kernel)) (zReader_mark_23 hB)))))))))
def qReader_mark_0 (d mc ms : Nat) (B : Nat → Pd) (K : Ps) : Pd := (i_ald 0 (i_geti 6 1 (i_if_ne (qReader_mark_23 d mc ms B K) (qReader_mark_7 d mc ms B K))))
theorem zReader_mark_0 {d mc ms : Nat} {B : Nat → Pd} {K : Ps} (hB : ∀ pc, Le (B pc) (G cReader_mark "VoyageCompany$Reader" 2 none "mark" (rm (d + 1) mc ms) (QM mc ms K) pc)) : Le (qReader_mark_0 d mc ms B K) (G cReader_mark "VoyageCompany$Reader" 2 none "mark" (rm (d + 1) mc ms) (QM mc ms K) 0) := by
  unfold qReader_mark_0
  exact (s_ald_n (j := 0) (by decide +kernel) rfl (s_geti (idx := 25) (by decide +kernel) fl6_25 (by decide) (s_if_ne (off := 19) (tgt := 23) (by decide +kernel) (by decide) (zReader_mark_23 hB) (zReader_mark_7 hB))))
/-- VoyageCompany$Reader.mark(I)V, at its places -/
def gReader_mark (d mc ms : Nat) (K : Ps) : Nat → Pd := G cReader_mark "VoyageCompany$Reader" 2 none "mark" (rm (d + 1) mc ms) (QM mc ms K)
theorem eReader_mark {d mc ms : Nat} {K : Ps} {av : List Value} {E : Nat → Prop} {R : Nat → Nat → Value} {I : Nat → Nat → Int32} {J : Nat → Nat → Int64} (hn : (lg_sl av).length ≤ 2) (h : qReader_mark_0 d mc ms (gReader_mark d mc ms K) K (lv_args 0 av) [] E R I J 0 0) : CL yReader_mark cReader_mark 2 none (d + 1) mc ms av E R I J K :=
  CL.of (by decide +kernel) hn (zReader_mark_0 (fun _ => Le.refl) _ _ _ _ _ _ _ _ h)
def qReader_take_106 (d mc ms : Nat) (B : Nat → Pd) (K : Ps) : Pd := (i_ci 10 (i_iret mc ms K))
theorem zReader_take_106 {d mc ms : Nat} {B : Nat → Pd} {K : Ps} (hB : ∀ pc, Le (B pc) (G cReader_take "VoyageCompany$Reader" 2 (some .int) "take" (rm (d + 1) mc ms) (QM mc ms K) pc)) : Le (qReader_take_106 d mc ms B K) (G cReader_take "VoyageCompany$Reader" 2 (some .int) "take" (rm (d + 1) mc ms) (QM mc ms K) 106) := by
  unfold qReader_take_106
  exact (s_bipush (n := 10) (v := 10) (by decide +kernel) (by decide +kernel) (s_iret (by decide +kernel) rfl))
def qReader_take_101 (d mc ms : Nat) (B : Nat → Pd) (K : Ps) : Pd := (i_ald 0 (i_call 0 6 yReader_takeStop cReader_takeStop 1 (some .int) mc ms d 1 (i_iret mc ms K)))
theorem zReader_take_101 {d mc ms : Nat} {B : Nat → Pd} {K : Ps} (hB : ∀ pc, Le (B pc) (G cReader_take "VoyageCompany$Reader" 2 (some .int) "take" (rm (d + 1) mc ms) (QM mc ms K) pc)) : Le (qReader_take_101 d mc ms B K) (G cReader_take "VoyageCompany$Reader" 2 (some .int) "take" (rm (d + 1) mc ms) (QM mc ms K) 101) := by
  unfold qReader_take_101
  exact (s_ald_n (j := 0) (by decide +kernel) rfl (s_call (idx := 83) (by decide +kernel) ml6_83 rmk (s_iret (by decide +kernel) rfl)))
def qReader_take_96 (d mc ms : Nat) (B : Nat → Pd) (K : Ps) : Pd := (i_ald 0 (i_call 0 6 yReader_takeActNumber cReader_takeActNumber 1 (some .int) mc ms d 1 (i_iret mc ms K)))
theorem zReader_take_96 {d mc ms : Nat} {B : Nat → Pd} {K : Ps} (hB : ∀ pc, Le (B pc) (G cReader_take "VoyageCompany$Reader" 2 (some .int) "take" (rm (d + 1) mc ms) (QM mc ms K) pc)) : Le (qReader_take_96 d mc ms B K) (G cReader_take "VoyageCompany$Reader" 2 (some .int) "take" (rm (d + 1) mc ms) (QM mc ms K) 96) := by
  unfold qReader_take_96
  exact (s_ald_n (j := 0) (by decide +kernel) rfl (s_call (idx := 80) (by decide +kernel) ml6_80 rmk (s_iret (by decide +kernel) rfl)))
def qReader_take_91 (d mc ms : Nat) (B : Nat → Pd) (K : Ps) : Pd := (i_ald 0 (i_call 0 6 yReader_takeActGood cReader_takeActGood 1 (some .int) mc ms d 1 (i_iret mc ms K)))
theorem zReader_take_91 {d mc ms : Nat} {B : Nat → Pd} {K : Ps} (hB : ∀ pc, Le (B pc) (G cReader_take "VoyageCompany$Reader" 2 (some .int) "take" (rm (d + 1) mc ms) (QM mc ms K) pc)) : Le (qReader_take_91 d mc ms B K) (G cReader_take "VoyageCompany$Reader" 2 (some .int) "take" (rm (d + 1) mc ms) (QM mc ms K) 91) := by
  unfold qReader_take_91
  exact (s_ald_n (j := 0) (by decide +kernel) rfl (s_call (idx := 77) (by decide +kernel) ml6_77 rmk (s_iret (by decide +kernel) rfl)))
def qReader_take_86 (d mc ms : Nat) (B : Nat → Pd) (K : Ps) : Pd := (i_ald 0 (i_call 0 6 yReader_takeAct cReader_takeAct 1 (some .int) mc ms d 1 (i_iret mc ms K)))
theorem zReader_take_86 {d mc ms : Nat} {B : Nat → Pd} {K : Ps} (hB : ∀ pc, Le (B pc) (G cReader_take "VoyageCompany$Reader" 2 (some .int) "take" (rm (d + 1) mc ms) (QM mc ms K) pc)) : Le (qReader_take_86 d mc ms B K) (G cReader_take "VoyageCompany$Reader" 2 (some .int) "take" (rm (d + 1) mc ms) (QM mc ms K) 86) := by
  unfold qReader_take_86
  exact (s_ald_n (j := 0) (by decide +kernel) rfl (s_call (idx := 74) (by decide +kernel) ml6_74 rmk (s_iret (by decide +kernel) rfl)))
def qReader_take_81 (d mc ms : Nat) (B : Nat → Pd) (K : Ps) : Pd := (i_ald 0 (i_call 0 6 yReader_takeAndOrColon cReader_takeAndOrColon 1 (some .int) mc ms d 1 (i_iret mc ms K)))
theorem zReader_take_81 {d mc ms : Nat} {B : Nat → Pd} {K : Ps} (hB : ∀ pc, Le (B pc) (G cReader_take "VoyageCompany$Reader" 2 (some .int) "take" (rm (d + 1) mc ms) (QM mc ms K) pc)) : Le (qReader_take_81 d mc ms B K) (G cReader_take "VoyageCompany$Reader" 2 (some .int) "take" (rm (d + 1) mc ms) (QM mc ms K) 81) := by
  unfold qReader_take_81
  exact (s_ald_n (j := 0) (by decide +kernel) rfl (s_call (idx := 71) (by decide +kernel) ml6_71 rmk (s_iret (by decide +kernel) rfl)))
def qReader_take_76 (d mc ms : Nat) (B : Nat → Pd) (K : Ps) : Pd := (i_ald 0 (i_call 0 6 yReader_takeTestNumber cReader_takeTestNumber 1 (some .int) mc ms d 1 (i_iret mc ms K)))
theorem zReader_take_76 {d mc ms : Nat} {B : Nat → Pd} {K : Ps} (hB : ∀ pc, Le (B pc) (G cReader_take "VoyageCompany$Reader" 2 (some .int) "take" (rm (d + 1) mc ms) (QM mc ms K) pc)) : Le (qReader_take_76 d mc ms B K) (G cReader_take "VoyageCompany$Reader" 2 (some .int) "take" (rm (d + 1) mc ms) (QM mc ms K) 76) := by
  unfold qReader_take_76
  exact (s_ald_n (j := 0) (by decide +kernel) rfl (s_call (idx := 68) (by decide +kernel) ml6_68 rmk (s_iret (by decide +kernel) rfl)))
def qReader_take_71 (d mc ms : Nat) (B : Nat → Pd) (K : Ps) : Pd := (i_ald 0 (i_call 0 6 yReader_takeComparison cReader_takeComparison 2 (some .int) mc ms d 1 (i_iret mc ms K)))
theorem zReader_take_71 {d mc ms : Nat} {B : Nat → Pd} {K : Ps} (hB : ∀ pc, Le (B pc) (G cReader_take "VoyageCompany$Reader" 2 (some .int) "take" (rm (d + 1) mc ms) (QM mc ms K) pc)) : Le (qReader_take_71 d mc ms B K) (G cReader_take "VoyageCompany$Reader" 2 (some .int) "take" (rm (d + 1) mc ms) (QM mc ms K) 71) := by
  unfold qReader_take_71
  exact (s_ald_n (j := 0) (by decide +kernel) rfl (s_call (idx := 65) (by decide +kernel) ml6_65 rmk (s_iret (by decide +kernel) rfl)))
def qReader_take_66 (d mc ms : Nat) (B : Nat → Pd) (K : Ps) : Pd := (i_ald 0 (i_call 0 6 yReader_takePricedGood cReader_takePricedGood 1 (some .int) mc ms d 1 (i_iret mc ms K)))
theorem zReader_take_66 {d mc ms : Nat} {B : Nat → Pd} {K : Ps} (hB : ∀ pc, Le (B pc) (G cReader_take "VoyageCompany$Reader" 2 (some .int) "take" (rm (d + 1) mc ms) (QM mc ms K) pc)) : Le (qReader_take_66 d mc ms B K) (G cReader_take "VoyageCompany$Reader" 2 (some .int) "take" (rm (d + 1) mc ms) (QM mc ms K) 66) := by
  unfold qReader_take_66
  exact (s_ald_n (j := 0) (by decide +kernel) rfl (s_call (idx := 62) (by decide +kernel) ml6_62 rmk (s_iret (by decide +kernel) rfl)))
def qReader_take_61 (d mc ms : Nat) (B : Nat → Pd) (K : Ps) : Pd := (i_ald 0 (i_call 0 6 yReader_takeWhat cReader_takeWhat 1 (some .int) mc ms d 1 (i_iret mc ms K)))
theorem zReader_take_61 {d mc ms : Nat} {B : Nat → Pd} {K : Ps} (hB : ∀ pc, Le (B pc) (G cReader_take "VoyageCompany$Reader" 2 (some .int) "take" (rm (d + 1) mc ms) (QM mc ms K) pc)) : Le (qReader_take_61 d mc ms B K) (G cReader_take "VoyageCompany$Reader" 2 (some .int) "take" (rm (d + 1) mc ms) (QM mc ms K) 61) := by
  unfold qReader_take_61
  exact (s_ald_n (j := 0) (by decide +kernel) rfl (s_call (idx := 59) (by decide +kernel) ml6_59 rmk (s_iret (by decide +kernel) rfl)))
def qReader_take_56 (d mc ms : Nat) (B : Nat → Pd) (K : Ps) : Pd := (i_ald 0 (i_call 0 6 yReader_takeLine cReader_takeLine 1 (some .int) mc ms d 1 (i_iret mc ms K)))
theorem zReader_take_56 {d mc ms : Nat} {B : Nat → Pd} {K : Ps} (hB : ∀ pc, Le (B pc) (G cReader_take "VoyageCompany$Reader" 2 (some .int) "take" (rm (d + 1) mc ms) (QM mc ms K) pc)) : Le (qReader_take_56 d mc ms B K) (G cReader_take "VoyageCompany$Reader" 2 (some .int) "take" (rm (d + 1) mc ms) (QM mc ms K) 56) := by
  unfold qReader_take_56
  exact (s_ald_n (j := 0) (by decide +kernel) rfl (s_call (idx := 55) (by decide +kernel) ml6_55 rmk (s_iret (by decide +kernel) rfl)))
def qReader_take_0 (d mc ms : Nat) (B : Nat → Pd) (K : Ps) : Pd := (i_ild 1 (i_sw [(0, (qReader_take_56 d mc ms B K)), (1, (qReader_take_61 d mc ms B K)), (2, (qReader_take_66 d mc ms B K)), (3, (qReader_take_71 d mc ms B K)), (4, (qReader_take_76 d mc ms B K)), (5, (qReader_take_81 d mc ms B K)), (6, (qReader_take_86 d mc ms B K)), (7, (qReader_take_91 d mc ms B K)), (8, (qReader_take_96 d mc ms B K)), (9, (qReader_take_101 d mc ms B K))] (qReader_take_106 d mc ms B K)))
theorem zReader_take_0 {d mc ms : Nat} {B : Nat → Pd} {K : Ps} (hB : ∀ pc, Le (B pc) (G cReader_take "VoyageCompany$Reader" 2 (some .int) "take" (rm (d + 1) mc ms) (QM mc ms K) pc)) : Le (qReader_take_0 d mc ms B K) (G cReader_take "VoyageCompany$Reader" 2 (some .int) "take" (rm (d + 1) mc ms) (QM mc ms K) 0) := by
  unfold qReader_take_0
  exact (s_ild_n (j := 1) (by decide +kernel) rfl (s_sw (fun x => by
    by_cases h0 : x = 0
    · subst h0
      exact ⟨56, sw_in (dflt := 105) (lo := 0) (hi := 9) (offs := #[55, 60, 65, 70, 75, 80, 85, 90, 95, 100]) (len := 55) (off := 55) (by decide +kernel) (by decide +kernel) (by decide +kernel) (by decide +kernel) (by decide +kernel), by simpa [swp] using (zReader_take_56 hB)⟩
    by_cases h1 : x = 1
    · subst h1
      exact ⟨61, sw_in (dflt := 105) (lo := 0) (hi := 9) (offs := #[55, 60, 65, 70, 75, 80, 85, 90, 95, 100]) (len := 55) (off := 60) (by decide +kernel) (by decide +kernel) (by decide +kernel) (by decide +kernel) (by decide +kernel), by simpa [swp] using (zReader_take_61 hB)⟩
    by_cases h2 : x = 2
    · subst h2
      exact ⟨66, sw_in (dflt := 105) (lo := 0) (hi := 9) (offs := #[55, 60, 65, 70, 75, 80, 85, 90, 95, 100]) (len := 55) (off := 65) (by decide +kernel) (by decide +kernel) (by decide +kernel) (by decide +kernel) (by decide +kernel), by simpa [swp] using (zReader_take_66 hB)⟩
    by_cases h3 : x = 3
    · subst h3
      exact ⟨71, sw_in (dflt := 105) (lo := 0) (hi := 9) (offs := #[55, 60, 65, 70, 75, 80, 85, 90, 95, 100]) (len := 55) (off := 70) (by decide +kernel) (by decide +kernel) (by decide +kernel) (by decide +kernel) (by decide +kernel), by simpa [swp] using (zReader_take_71 hB)⟩
    by_cases h4 : x = 4
    · subst h4
      exact ⟨76, sw_in (dflt := 105) (lo := 0) (hi := 9) (offs := #[55, 60, 65, 70, 75, 80, 85, 90, 95, 100]) (len := 55) (off := 75) (by decide +kernel) (by decide +kernel) (by decide +kernel) (by decide +kernel) (by decide +kernel), by simpa [swp] using (zReader_take_76 hB)⟩
    by_cases h5 : x = 5
    · subst h5
      exact ⟨81, sw_in (dflt := 105) (lo := 0) (hi := 9) (offs := #[55, 60, 65, 70, 75, 80, 85, 90, 95, 100]) (len := 55) (off := 80) (by decide +kernel) (by decide +kernel) (by decide +kernel) (by decide +kernel) (by decide +kernel), by simpa [swp] using (zReader_take_81 hB)⟩
    by_cases h6 : x = 6
    · subst h6
      exact ⟨86, sw_in (dflt := 105) (lo := 0) (hi := 9) (offs := #[55, 60, 65, 70, 75, 80, 85, 90, 95, 100]) (len := 55) (off := 85) (by decide +kernel) (by decide +kernel) (by decide +kernel) (by decide +kernel) (by decide +kernel), by simpa [swp] using (zReader_take_86 hB)⟩
    by_cases h7 : x = 7
    · subst h7
      exact ⟨91, sw_in (dflt := 105) (lo := 0) (hi := 9) (offs := #[55, 60, 65, 70, 75, 80, 85, 90, 95, 100]) (len := 55) (off := 90) (by decide +kernel) (by decide +kernel) (by decide +kernel) (by decide +kernel) (by decide +kernel), by simpa [swp] using (zReader_take_91 hB)⟩
    by_cases h8 : x = 8
    · subst h8
      exact ⟨96, sw_in (dflt := 105) (lo := 0) (hi := 9) (offs := #[55, 60, 65, 70, 75, 80, 85, 90, 95, 100]) (len := 55) (off := 95) (by decide +kernel) (by decide +kernel) (by decide +kernel) (by decide +kernel) (by decide +kernel), by simpa [swp] using (zReader_take_96 hB)⟩
    by_cases h9 : x = 9
    · subst h9
      exact ⟨101, sw_in (dflt := 105) (lo := 0) (hi := 9) (offs := #[55, 60, 65, 70, 75, 80, 85, 90, 95, 100]) (len := 55) (off := 100) (by decide +kernel) (by decide +kernel) (by decide +kernel) (by decide +kernel) (by decide +kernel), by simpa [swp] using (zReader_take_101 hB)⟩
    have g0 := i32_ne (z := 0) (by decide +kernel) h0
    have g1 := i32_ne (z := 1) (by decide +kernel) h1
    have g2 := i32_ne (z := 2) (by decide +kernel) h2
    have g3 := i32_ne (z := 3) (by decide +kernel) h3
    have g4 := i32_ne (z := 4) (by decide +kernel) h4
    have g5 := i32_ne (z := 5) (by decide +kernel) h5
    have g6 := i32_ne (z := 6) (by decide +kernel) h6
    have g7 := i32_ne (z := 7) (by decide +kernel) h7
    have g8 := i32_ne (z := 8) (by decide +kernel) h8
    have g9 := i32_ne (z := 9) (by decide +kernel) h9
    exact ⟨106, sw_out (dflt := 105) (lo := 0) (hi := 9) (offs := #[55, 60, 65, 70, 75, 80, 85, 90, 95, 100]) (len := 55) (by decide +kernel) (by omega) (by decide +kernel), by simpa [swp, h0, h1, h2, h3, h4, h5, h6, h7, h8, h9] using (zReader_take_106 hB)⟩)))
/-- VoyageCompany$Reader.take(I)I, at its places -/
def gReader_take (d mc ms : Nat) (K : Ps) : Nat → Pd := G cReader_take "VoyageCompany$Reader" 2 (some .int) "take" (rm (d + 1) mc ms) (QM mc ms K)
theorem eReader_take {d mc ms : Nat} {K : Ps} {av : List Value} {E : Nat → Prop} {R : Nat → Nat → Value} {I : Nat → Nat → Int32} {J : Nat → Nat → Int64} (hn : (lg_sl av).length ≤ 2) (h : qReader_take_0 d mc ms (gReader_take d mc ms K) K (lv_args 0 av) [] E R I J 0 0) : CL yReader_take cReader_take 2 (some .int) (d + 1) mc ms av E R I J K :=
  CL.of (by decide +kernel) hn (zReader_take_0 (fun _ => Le.refl) _ _ _ _ _ _ _ _ h)
def qReader_takeLine_49 (d mc ms : Nat) (B : Nat → Pd) (K : Ps) : Pd := (i_iret mc ms K)
theorem zReader_takeLine_49 {d mc ms : Nat} {B : Nat → Pd} {K : Ps} (hB : ∀ pc, Le (B pc) (G cReader_takeLine "VoyageCompany$Reader" 1 (some .int) "takeLine" (rm (d + 1) mc ms) (QM mc ms K) pc)) : Le (qReader_takeLine_49 d mc ms B K) (G cReader_takeLine "VoyageCompany$Reader" 1 (some .int) "takeLine" (rm (d + 1) mc ms) (QM mc ms K) 49) := by
  unfold qReader_takeLine_49
  exact (s_iret (by decide +kernel) rfl)
def qReader_takeLine_45 (d mc ms : Nat) (B : Nat → Pd) (K : Ps) : Pd := (i_ald 0 (i_call 0 6 yReader_takeAct cReader_takeAct 1 (some .int) mc ms d 1 (qReader_takeLine_49 d mc ms B K)))
theorem zReader_takeLine_45 {d mc ms : Nat} {B : Nat → Pd} {K : Ps} (hB : ∀ pc, Le (B pc) (G cReader_takeLine "VoyageCompany$Reader" 1 (some .int) "takeLine" (rm (d + 1) mc ms) (QM mc ms K) pc)) : Le (qReader_takeLine_45 d mc ms B K) (G cReader_takeLine "VoyageCompany$Reader" 1 (some .int) "takeLine" (rm (d + 1) mc ms) (QM mc ms K) 45) := by
  unfold qReader_takeLine_45
  exact (s_ald_n (j := 0) (by decide +kernel) rfl (s_call (idx := 74) (by decide +kernel) ml6_74 rmk (zReader_takeLine_49 hB)))
def qReader_takeLine_41 (d mc ms : Nat) (B : Nat → Pd) (K : Ps) : Pd := (i_ci 1 (qReader_takeLine_49 d mc ms B K))
theorem zReader_takeLine_41 {d mc ms : Nat} {B : Nat → Pd} {K : Ps} (hB : ∀ pc, Le (B pc) (G cReader_takeLine "VoyageCompany$Reader" 1 (some .int) "takeLine" (rm (d + 1) mc ms) (QM mc ms K) pc)) : Le (qReader_takeLine_41 d mc ms B K) (G cReader_takeLine "VoyageCompany$Reader" 1 (some .int) "takeLine" (rm (d + 1) mc ms) (QM mc ms K) 41) := by
  unfold qReader_takeLine_41
  exact (s_iconst (n := 1) (v := 1) (by decide +kernel) (by decide +kernel) (s_goto (off := 7) (tgt := 49) (by decide +kernel) (by decide) (zReader_takeLine_49 hB)))
def qReader_takeLine_29 (d mc ms : Nat) (B : Nat → Pd) (K : Ps) : Pd := (i_ald 0 (i_getr 6 3 (i_geti 10 4 (i_ci 8 (i_ic_ne (qReader_takeLine_45 d mc ms B K) (qReader_takeLine_41 d mc ms B K))))))
theorem zReader_takeLine_29 {d mc ms : Nat} {B : Nat → Pd} {K : Ps} (hB : ∀ pc, Le (B pc) (G cReader_takeLine "VoyageCompany$Reader" 1 (some .int) "takeLine" (rm (d + 1) mc ms) (QM mc ms K) pc)) : Le (qReader_takeLine_29 d mc ms B K) (G cReader_takeLine "VoyageCompany$Reader" 1 (some .int) "takeLine" (rm (d + 1) mc ms) (QM mc ms K) 29) := by
  unfold qReader_takeLine_29
  exact (s_ald_n (j := 0) (by decide +kernel) rfl (s_getr (idx := 21) (by decide +kernel) fl6_21 (by decide) (s_geti (idx := 42) (by decide +kernel) fl6_42 (by decide) (s_bipush (n := 8) (v := 8) (by decide +kernel) (by decide +kernel) (s_ic_ne (off := 7) (tgt := 45) (by decide +kernel) (by decide) (zReader_takeLine_45 hB) (zReader_takeLine_41 hB))))))
def qReader_takeLine_24 (d mc ms : Nat) (B : Nat → Pd) (K : Ps) : Pd := (i_ald 0 (i_ci 3 (i_call 0 6 yReader_mark cReader_mark 2 none mc ms d 2 (qReader_takeLine_29 d mc ms B K))))
theorem zReader_takeLine_24 {d mc ms : Nat} {B : Nat → Pd} {K : Ps} (hB : ∀ pc, Le (B pc) (G cReader_takeLine "VoyageCompany$Reader" 1 (some .int) "takeLine" (rm (d + 1) mc ms) (QM mc ms K) pc)) : Le (qReader_takeLine_24 d mc ms B K) (G cReader_takeLine "VoyageCompany$Reader" 1 (some .int) "takeLine" (rm (d + 1) mc ms) (QM mc ms K) 24) := by
  unfold qReader_takeLine_24
  exact (s_ald_n (j := 0) (by decide +kernel) rfl (s_iconst (n := 3) (v := 3) (by decide +kernel) (by decide +kernel) (s_call (idx := 89) (by decide +kernel) ml6_89 rmk (zReader_takeLine_29 hB))))
def qReader_takeLine_0 (d mc ms : Nat) (B : Nat → Pd) (K : Ps) : Pd := (i_ald 0 (i_dup (i_geti 6 4 (i_ci 1 (i_iadd (i_puti 6 4 (i_ald 0 (i_ci 0 (i_puti 6 5 (i_ald 0 (i_geti 6 4 (i_ci 16 (i_ic_lt (qReader_takeLine_29 d mc ms B K) (qReader_takeLine_24 d mc ms B K))))))))))))))
theorem zReader_takeLine_0 {d mc ms : Nat} {B : Nat → Pd} {K : Ps} (hB : ∀ pc, Le (B pc) (G cReader_takeLine "VoyageCompany$Reader" 1 (some .int) "takeLine" (rm (d + 1) mc ms) (QM mc ms K) pc)) : Le (qReader_takeLine_0 d mc ms B K) (G cReader_takeLine "VoyageCompany$Reader" 1 (some .int) "takeLine" (rm (d + 1) mc ms) (QM mc ms K) 0) := by
  unfold qReader_takeLine_0
  exact (s_ald_n (j := 0) (by decide +kernel) rfl (s_dup (by decide +kernel) (s_geti (idx := 35) (by decide +kernel) fl6_35 (by decide) (s_iconst (n := 1) (v := 1) (by decide +kernel) (by decide +kernel) (s_iadd (by decide +kernel) (s_puti (idx := 35) (by decide +kernel) fl6_35 (by decide) (by decide) (Or.inl (by decide +kernel)) (s_ald_n (j := 0) (by decide +kernel) rfl (s_iconst (n := 0) (v := 0) (by decide +kernel) (by decide +kernel) (s_puti (idx := 86) (by decide +kernel) fl6_86 (by decide) (by decide) (Or.inl (by decide +kernel)) (s_ald_n (j := 0) (by decide +kernel) rfl (s_geti (idx := 35) (by decide +kernel) fl6_35 (by decide) (s_bipush (n := 16) (v := 16) (by decide +kernel) (by decide +kernel) (s_ic_lt (off := 8) (tgt := 29) (by decide +kernel) (by decide) (zReader_takeLine_29 hB) (zReader_takeLine_24 hB))))))))))))))
/-- VoyageCompany$Reader.takeLine()I, at its places -/
def gReader_takeLine (d mc ms : Nat) (K : Ps) : Nat → Pd := G cReader_takeLine "VoyageCompany$Reader" 1 (some .int) "takeLine" (rm (d + 1) mc ms) (QM mc ms K)
theorem eReader_takeLine {d mc ms : Nat} {K : Ps} {av : List Value} {E : Nat → Prop} {R : Nat → Nat → Value} {I : Nat → Nat → Int32} {J : Nat → Nat → Int64} (hn : (lg_sl av).length ≤ 1) (h : qReader_takeLine_0 d mc ms (gReader_takeLine d mc ms K) K (lv_args 0 av) [] E R I J 0 0) : CL yReader_takeLine cReader_takeLine 1 (some .int) (d + 1) mc ms av E R I J K :=
  CL.of (by decide +kernel) hn (zReader_takeLine_0 (fun _ => Le.refl) _ _ _ _ _ _ _ _ h)
def qReader_takeWhat_120 (d mc ms : Nat) (B : Nat → Pd) (K : Ps) : Pd := (i_ci 10 (i_iret mc ms K))
theorem zReader_takeWhat_120 {d mc ms : Nat} {B : Nat → Pd} {K : Ps} (hB : ∀ pc, Le (B pc) (G cReader_takeWhat "VoyageCompany$Reader" 1 (some .int) "takeWhat" (rm (d + 1) mc ms) (QM mc ms K) pc)) : Le (qReader_takeWhat_120 d mc ms B K) (G cReader_takeWhat "VoyageCompany$Reader" 1 (some .int) "takeWhat" (rm (d + 1) mc ms) (QM mc ms K) 120) := by
  unfold qReader_takeWhat_120
  exact (s_bipush (n := 10) (v := 10) (by decide +kernel) (by decide +kernel) (s_iret (by decide +kernel) rfl))
def qReader_takeWhat_102 (d mc ms : Nat) (B : Nat → Pd) (K : Ps) : Pd := (i_ald 0 (i_ci 4 (i_ald 0 (i_getr 6 3 (i_geti 10 4 (i_iadd (i_ci 15 (i_isub (i_puti 6 6 (i_ci 3 (i_iret mc ms K)))))))))))
theorem zReader_takeWhat_102 {d mc ms : Nat} {B : Nat → Pd} {K : Ps} (hB : ∀ pc, Le (B pc) (G cReader_takeWhat "VoyageCompany$Reader" 1 (some .int) "takeWhat" (rm (d + 1) mc ms) (QM mc ms K) pc)) : Le (qReader_takeWhat_102 d mc ms B K) (G cReader_takeWhat "VoyageCompany$Reader" 1 (some .int) "takeWhat" (rm (d + 1) mc ms) (QM mc ms K) 102) := by
  unfold qReader_takeWhat_102
  exact (s_ald_n (j := 0) (by decide +kernel) rfl (s_iconst (n := 4) (v := 4) (by decide +kernel) (by decide +kernel) (s_ald_n (j := 0) (by decide +kernel) rfl (s_getr (idx := 21) (by decide +kernel) fl6_21 (by decide) (s_geti (idx := 42) (by decide +kernel) fl6_42 (by decide) (s_iadd (by decide +kernel) (s_bipush (n := 15) (v := 15) (by decide +kernel) (by decide +kernel) (s_isub (by decide +kernel) (s_puti (idx := 93) (by decide +kernel) fl6_93 (by decide) (by decide) (Or.inl (by decide +kernel)) (s_iconst (n := 3) (v := 3) (by decide +kernel) (by decide +kernel) (s_iret (by decide +kernel) rfl)))))))))))
def qReader_takeWhat_100 (d mc ms : Nat) (B : Nat → Pd) (K : Ps) : Pd := (i_ci 2 (i_iret mc ms K))
theorem zReader_takeWhat_100 {d mc ms : Nat} {B : Nat → Pd} {K : Ps} (hB : ∀ pc, Le (B pc) (G cReader_takeWhat "VoyageCompany$Reader" 1 (some .int) "takeWhat" (rm (d + 1) mc ms) (QM mc ms K) pc)) : Le (qReader_takeWhat_100 d mc ms B K) (G cReader_takeWhat "VoyageCompany$Reader" 1 (some .int) "takeWhat" (rm (d + 1) mc ms) (QM mc ms K) 100) := by
  unfold qReader_takeWhat_100
  exact (s_iconst (n := 2) (v := 2) (by decide +kernel) (by decide +kernel) (s_iret (by decide +kernel) rfl))
def qReader_takeWhat_93 (d mc ms : Nat) (B : Nat → Pd) (K : Ps) : Pd := (i_ald 0 (i_ci 3 (i_puti 6 6 (i_ci 3 (i_iret mc ms K)))))
theorem zReader_takeWhat_93 {d mc ms : Nat} {B : Nat → Pd} {K : Ps} (hB : ∀ pc, Le (B pc) (G cReader_takeWhat "VoyageCompany$Reader" 1 (some .int) "takeWhat" (rm (d + 1) mc ms) (QM mc ms K) pc)) : Le (qReader_takeWhat_93 d mc ms B K) (G cReader_takeWhat "VoyageCompany$Reader" 1 (some .int) "takeWhat" (rm (d + 1) mc ms) (QM mc ms K) 93) := by
  unfold qReader_takeWhat_93
  exact (s_ald_n (j := 0) (by decide +kernel) rfl (s_iconst (n := 3) (v := 3) (by decide +kernel) (by decide +kernel) (s_puti (idx := 93) (by decide +kernel) fl6_93 (by decide) (by decide) (Or.inl (by decide +kernel)) (s_iconst (n := 3) (v := 3) (by decide +kernel) (by decide +kernel) (s_iret (by decide +kernel) rfl)))))
def qReader_takeWhat_86 (d mc ms : Nat) (B : Nat → Pd) (K : Ps) : Pd := (i_ald 0 (i_ci 2 (i_puti 6 6 (i_ci 3 (i_iret mc ms K)))))
theorem zReader_takeWhat_86 {d mc ms : Nat} {B : Nat → Pd} {K : Ps} (hB : ∀ pc, Le (B pc) (G cReader_takeWhat "VoyageCompany$Reader" 1 (some .int) "takeWhat" (rm (d + 1) mc ms) (QM mc ms K) pc)) : Le (qReader_takeWhat_86 d mc ms B K) (G cReader_takeWhat "VoyageCompany$Reader" 1 (some .int) "takeWhat" (rm (d + 1) mc ms) (QM mc ms K) 86) := by
  unfold qReader_takeWhat_86
  exact (s_ald_n (j := 0) (by decide +kernel) rfl (s_iconst (n := 2) (v := 2) (by decide +kernel) (by decide +kernel) (s_puti (idx := 93) (by decide +kernel) fl6_93 (by decide) (by decide) (Or.inl (by decide +kernel)) (s_iconst (n := 3) (v := 3) (by decide +kernel) (by decide +kernel) (s_iret (by decide +kernel) rfl)))))
def qReader_takeWhat_79 (d mc ms : Nat) (B : Nat → Pd) (K : Ps) : Pd := (i_ald 0 (i_ci 1 (i_puti 6 6 (i_ci 3 (i_iret mc ms K)))))
theorem zReader_takeWhat_79 {d mc ms : Nat} {B : Nat → Pd} {K : Ps} (hB : ∀ pc, Le (B pc) (G cReader_takeWhat "VoyageCompany$Reader" 1 (some .int) "takeWhat" (rm (d + 1) mc ms) (QM mc ms K) pc)) : Le (qReader_takeWhat_79 d mc ms B K) (G cReader_takeWhat "VoyageCompany$Reader" 1 (some .int) "takeWhat" (rm (d + 1) mc ms) (QM mc ms K) 79) := by
  unfold qReader_takeWhat_79
  exact (s_ald_n (j := 0) (by decide +kernel) rfl (s_iconst (n := 1) (v := 1) (by decide +kernel) (by decide +kernel) (s_puti (idx := 93) (by decide +kernel) fl6_93 (by decide) (by decide) (Or.inl (by decide +kernel)) (s_iconst (n := 3) (v := 3) (by decide +kernel) (by decide +kernel) (s_iret (by decide +kernel) rfl)))))
def qReader_takeWhat_72 (d mc ms : Nat) (B : Nat → Pd) (K : Ps) : Pd := (i_ald 0 (i_ci 0 (i_puti 6 6 (i_ci 3 (i_iret mc ms K)))))
theorem zReader_takeWhat_72 {d mc ms : Nat} {B : Nat → Pd} {K : Ps} (hB : ∀ pc, Le (B pc) (G cReader_takeWhat "VoyageCompany$Reader" 1 (some .int) "takeWhat" (rm (d + 1) mc ms) (QM mc ms K) pc)) : Le (qReader_takeWhat_72 d mc ms B K) (G cReader_takeWhat "VoyageCompany$Reader" 1 (some .int) "takeWhat" (rm (d + 1) mc ms) (QM mc ms K) 72) := by
  unfold qReader_takeWhat_72
  exact (s_ald_n (j := 0) (by decide +kernel) rfl (s_iconst (n := 0) (v := 0) (by decide +kernel) (by decide +kernel) (s_puti (idx := 93) (by decide +kernel) fl6_93 (by decide) (by decide) (Or.inl (by decide +kernel)) (s_iconst (n := 3) (v := 3) (by decide +kernel) (by decide +kernel) (s_iret (by decide +kernel) rfl)))))
def qReader_takeWhat_13 (d mc ms : Nat) (B : Nat → Pd) (K : Ps) : Pd := (i_ald 0 (i_getr 6 3 (i_geti 10 4 (i_sw [(10, (qReader_takeWhat_72 d mc ms B K)), (11, (qReader_takeWhat_79 d mc ms B K)), (12, (qReader_takeWhat_86 d mc ms B K)), (13, (qReader_takeWhat_93 d mc ms B K)), (14, (qReader_takeWhat_100 d mc ms B K)), (15, (qReader_takeWhat_102 d mc ms B K)), (16, (qReader_takeWhat_102 d mc ms B K)), (17, (qReader_takeWhat_102 d mc ms B K)), (18, (qReader_takeWhat_102 d mc ms B K))] (qReader_takeWhat_120 d mc ms B K)))))
theorem zReader_takeWhat_13 {d mc ms : Nat} {B : Nat → Pd} {K : Ps} (hB : ∀ pc, Le (B pc) (G cReader_takeWhat "VoyageCompany$Reader" 1 (some .int) "takeWhat" (rm (d + 1) mc ms) (QM mc ms K) pc)) : Le (qReader_takeWhat_13 d mc ms B K) (G cReader_takeWhat "VoyageCompany$Reader" 1 (some .int) "takeWhat" (rm (d + 1) mc ms) (QM mc ms K) 13) := by
  unfold qReader_takeWhat_13
  exact (s_ald_n (j := 0) (by decide +kernel) rfl (s_getr (idx := 21) (by decide +kernel) fl6_21 (by decide) (s_geti (idx := 42) (by decide +kernel) fl6_42 (by decide) (s_sw (fun x => by
    by_cases h0 : x = 10
    · subst h0
      exact ⟨72, sw_in (dflt := 100) (lo := 10) (hi := 18) (offs := #[52, 59, 66, 73, 80, 82, 82, 82, 82]) (len := 52) (off := 52) (by decide +kernel) (by decide +kernel) (by decide +kernel) (by decide +kernel) (by decide +kernel), by simpa [swp] using (zReader_takeWhat_72 hB)⟩
    by_cases h1 : x = 11
    · subst h1
      exact ⟨79, sw_in (dflt := 100) (lo := 10) (hi := 18) (offs := #[52, 59, 66, 73, 80, 82, 82, 82, 82]) (len := 52) (off := 59) (by decide +kernel) (by decide +kernel) (by decide +kernel) (by decide +kernel) (by decide +kernel), by simpa [swp] using (zReader_takeWhat_79 hB)⟩
    by_cases h2 : x = 12
    · subst h2
      exact ⟨86, sw_in (dflt := 100) (lo := 10) (hi := 18) (offs := #[52, 59, 66, 73, 80, 82, 82, 82, 82]) (len := 52) (off := 66) (by decide +kernel) (by decide +kernel) (by decide +kernel) (by decide +kernel) (by decide +kernel), by simpa [swp] using (zReader_takeWhat_86 hB)⟩
    by_cases h3 : x = 13
    · subst h3
      exact ⟨93, sw_in (dflt := 100) (lo := 10) (hi := 18) (offs := #[52, 59, 66, 73, 80, 82, 82, 82, 82]) (len := 52) (off := 73) (by decide +kernel) (by decide +kernel) (by decide +kernel) (by decide +kernel) (by decide +kernel), by simpa [swp] using (zReader_takeWhat_93 hB)⟩
    by_cases h4 : x = 14
    · subst h4
      exact ⟨100, sw_in (dflt := 100) (lo := 10) (hi := 18) (offs := #[52, 59, 66, 73, 80, 82, 82, 82, 82]) (len := 52) (off := 80) (by decide +kernel) (by decide +kernel) (by decide +kernel) (by decide +kernel) (by decide +kernel), by simpa [swp] using (zReader_takeWhat_100 hB)⟩
    by_cases h5 : x = 15
    · subst h5
      exact ⟨102, sw_in (dflt := 100) (lo := 10) (hi := 18) (offs := #[52, 59, 66, 73, 80, 82, 82, 82, 82]) (len := 52) (off := 82) (by decide +kernel) (by decide +kernel) (by decide +kernel) (by decide +kernel) (by decide +kernel), by simpa [swp] using (zReader_takeWhat_102 hB)⟩
    by_cases h6 : x = 16
    · subst h6
      exact ⟨102, sw_in (dflt := 100) (lo := 10) (hi := 18) (offs := #[52, 59, 66, 73, 80, 82, 82, 82, 82]) (len := 52) (off := 82) (by decide +kernel) (by decide +kernel) (by decide +kernel) (by decide +kernel) (by decide +kernel), by simpa [swp] using (zReader_takeWhat_102 hB)⟩
    by_cases h7 : x = 17
    · subst h7
      exact ⟨102, sw_in (dflt := 100) (lo := 10) (hi := 18) (offs := #[52, 59, 66, 73, 80, 82, 82, 82, 82]) (len := 52) (off := 82) (by decide +kernel) (by decide +kernel) (by decide +kernel) (by decide +kernel) (by decide +kernel), by simpa [swp] using (zReader_takeWhat_102 hB)⟩
    by_cases h8 : x = 18
    · subst h8
      exact ⟨102, sw_in (dflt := 100) (lo := 10) (hi := 18) (offs := #[52, 59, 66, 73, 80, 82, 82, 82, 82]) (len := 52) (off := 82) (by decide +kernel) (by decide +kernel) (by decide +kernel) (by decide +kernel) (by decide +kernel), by simpa [swp] using (zReader_takeWhat_102 hB)⟩
    have g0 := i32_ne (z := 10) (by decide +kernel) h0
    have g1 := i32_ne (z := 11) (by decide +kernel) h1
    have g2 := i32_ne (z := 12) (by decide +kernel) h2
    have g3 := i32_ne (z := 13) (by decide +kernel) h3
    have g4 := i32_ne (z := 14) (by decide +kernel) h4
    have g5 := i32_ne (z := 15) (by decide +kernel) h5
    have g6 := i32_ne (z := 16) (by decide +kernel) h6
    have g7 := i32_ne (z := 17) (by decide +kernel) h7
    have g8 := i32_ne (z := 18) (by decide +kernel) h8
    exact ⟨120, sw_out (dflt := 100) (lo := 10) (hi := 18) (offs := #[52, 59, 66, 73, 80, 82, 82, 82, 82]) (len := 52) (by decide +kernel) (by omega) (by decide +kernel), by simpa [swp, h0, h1, h2, h3, h4, h5, h6, h7, h8] using (zReader_takeWhat_120 hB)⟩)))))
def qReader_takeWhat_8 (d mc ms : Nat) (B : Nat → Pd) (K : Ps) : Pd := (i_ald 0 (i_ci 3 (i_call 0 6 yReader_mark cReader_mark 2 none mc ms d 2 (qReader_takeWhat_13 d mc ms B K))))
theorem zReader_takeWhat_8 {d mc ms : Nat} {B : Nat → Pd} {K : Ps} (hB : ∀ pc, Le (B pc) (G cReader_takeWhat "VoyageCompany$Reader" 1 (some .int) "takeWhat" (rm (d + 1) mc ms) (QM mc ms K) pc)) : Le (qReader_takeWhat_8 d mc ms B K) (G cReader_takeWhat "VoyageCompany$Reader" 1 (some .int) "takeWhat" (rm (d + 1) mc ms) (QM mc ms K) 8) := by
  unfold qReader_takeWhat_8
  exact (s_ald_n (j := 0) (by decide +kernel) rfl (s_iconst (n := 3) (v := 3) (by decide +kernel) (by decide +kernel) (s_call (idx := 89) (by decide +kernel) ml6_89 rmk (zReader_takeWhat_13 hB))))
def qReader_takeWhat_0 (d mc ms : Nat) (B : Nat → Pd) (K : Ps) : Pd := (i_ald 0 (i_geti 6 5 (i_ci 4 (i_ic_lt (qReader_takeWhat_13 d mc ms B K) (qReader_takeWhat_8 d mc ms B K)))))
theorem zReader_takeWhat_0 {d mc ms : Nat} {B : Nat → Pd} {K : Ps} (hB : ∀ pc, Le (B pc) (G cReader_takeWhat "VoyageCompany$Reader" 1 (some .int) "takeWhat" (rm (d + 1) mc ms) (QM mc ms K) pc)) : Le (qReader_takeWhat_0 d mc ms B K) (G cReader_takeWhat "VoyageCompany$Reader" 1 (some .int) "takeWhat" (rm (d + 1) mc ms) (QM mc ms K) 0) := by
  unfold qReader_takeWhat_0
  exact (s_ald_n (j := 0) (by decide +kernel) rfl (s_geti (idx := 86) (by decide +kernel) fl6_86 (by decide) (s_iconst (n := 4) (v := 4) (by decide +kernel) (by decide +kernel) (s_ic_lt (off := 8) (tgt := 13) (by decide +kernel) (by decide) (zReader_takeWhat_13 hB) (zReader_takeWhat_8 hB)))))
/-- VoyageCompany$Reader.takeWhat()I, at its places -/
def gReader_takeWhat (d mc ms : Nat) (K : Ps) : Nat → Pd := G cReader_takeWhat "VoyageCompany$Reader" 1 (some .int) "takeWhat" (rm (d + 1) mc ms) (QM mc ms K)
theorem eReader_takeWhat {d mc ms : Nat} {K : Ps} {av : List Value} {E : Nat → Prop} {R : Nat → Nat → Value} {I : Nat → Nat → Int32} {J : Nat → Nat → Int64} (hn : (lg_sl av).length ≤ 1) (h : qReader_takeWhat_0 d mc ms (gReader_takeWhat d mc ms K) K (lv_args 0 av) [] E R I J 0 0) : CL yReader_takeWhat cReader_takeWhat 1 (some .int) (d + 1) mc ms av E R I J K :=
  CL.of (by decide +kernel) hn (zReader_takeWhat_0 (fun _ => Le.refl) _ _ _ _ _ _ _ _ h)
def qReader_isAtBales_29 (d mc ms : Nat) (B : Nat → Pd) (K : Ps) : Pd := (i_zret mc ms K)
theorem zReader_isAtBales_29 {d mc ms : Nat} {B : Nat → Pd} {K : Ps} (hB : ∀ pc, Le (B pc) (G cReader_isAtBales "VoyageCompany$Reader" 1 (some .boolean) "isAtBales" (rm (d + 1) mc ms) (QM mc ms K) pc)) : Le (qReader_isAtBales_29 d mc ms B K) (G cReader_isAtBales "VoyageCompany$Reader" 1 (some .boolean) "isAtBales" (rm (d + 1) mc ms) (QM mc ms K) 29) := by
  unfold qReader_isAtBales_29
  exact (s_zret (by decide +kernel) rfl)
def qReader_isAtBales_28 (d mc ms : Nat) (B : Nat → Pd) (K : Ps) : Pd := (i_ci 0 (qReader_isAtBales_29 d mc ms B K))
theorem zReader_isAtBales_28 {d mc ms : Nat} {B : Nat → Pd} {K : Ps} (hB : ∀ pc, Le (B pc) (G cReader_isAtBales "VoyageCompany$Reader" 1 (some .boolean) "isAtBales" (rm (d + 1) mc ms) (QM mc ms K) pc)) : Le (qReader_isAtBales_28 d mc ms B K) (G cReader_isAtBales "VoyageCompany$Reader" 1 (some .boolean) "isAtBales" (rm (d + 1) mc ms) (QM mc ms K) 28) := by
  unfold qReader_isAtBales_28
  exact (s_iconst (n := 0) (v := 0) (by decide +kernel) (by decide +kernel) (zReader_isAtBales_29 hB))
def qReader_isAtBales_24 (d mc ms : Nat) (B : Nat → Pd) (K : Ps) : Pd := (i_ci 1 (qReader_isAtBales_29 d mc ms B K))
theorem zReader_isAtBales_24 {d mc ms : Nat} {B : Nat → Pd} {K : Ps} (hB : ∀ pc, Le (B pc) (G cReader_isAtBales "VoyageCompany$Reader" 1 (some .boolean) "isAtBales" (rm (d + 1) mc ms) (QM mc ms K) pc)) : Le (qReader_isAtBales_24 d mc ms B K) (G cReader_isAtBales "VoyageCompany$Reader" 1 (some .boolean) "isAtBales" (rm (d + 1) mc ms) (QM mc ms K) 24) := by
  unfold qReader_isAtBales_24
  exact (s_iconst (n := 1) (v := 1) (by decide +kernel) (by decide +kernel) (s_goto (off := 4) (tgt := 29) (by decide +kernel) (by decide) (zReader_isAtBales_29 hB)))
def qReader_isAtBales_12 (d mc ms : Nat) (B : Nat → Pd) (K : Ps) : Pd := (i_ald 0 (i_getr 6 3 (i_geti 10 4 (i_ci 18 (i_ic_gt (qReader_isAtBales_28 d mc ms B K) (qReader_isAtBales_24 d mc ms B K))))))
theorem zReader_isAtBales_12 {d mc ms : Nat} {B : Nat → Pd} {K : Ps} (hB : ∀ pc, Le (B pc) (G cReader_isAtBales "VoyageCompany$Reader" 1 (some .boolean) "isAtBales" (rm (d + 1) mc ms) (QM mc ms K) pc)) : Le (qReader_isAtBales_12 d mc ms B K) (G cReader_isAtBales "VoyageCompany$Reader" 1 (some .boolean) "isAtBales" (rm (d + 1) mc ms) (QM mc ms K) 12) := by
  unfold qReader_isAtBales_12
  exact (s_ald_n (j := 0) (by decide +kernel) rfl (s_getr (idx := 21) (by decide +kernel) fl6_21 (by decide) (s_geti (idx := 42) (by decide +kernel) fl6_42 (by decide) (s_bipush (n := 18) (v := 18) (by decide +kernel) (by decide +kernel) (s_ic_gt (off := 7) (tgt := 28) (by decide +kernel) (by decide) (zReader_isAtBales_28 hB) (zReader_isAtBales_24 hB))))))
def qReader_isAtBales_0 (d mc ms : Nat) (B : Nat → Pd) (K : Ps) : Pd := (i_ald 0 (i_getr 6 3 (i_geti 10 4 (i_ci 16 (i_ic_lt (qReader_isAtBales_28 d mc ms B K) (qReader_isAtBales_12 d mc ms B K))))))
theorem zReader_isAtBales_0 {d mc ms : Nat} {B : Nat → Pd} {K : Ps} (hB : ∀ pc, Le (B pc) (G cReader_isAtBales "VoyageCompany$Reader" 1 (some .boolean) "isAtBales" (rm (d + 1) mc ms) (QM mc ms K) pc)) : Le (qReader_isAtBales_0 d mc ms B K) (G cReader_isAtBales "VoyageCompany$Reader" 1 (some .boolean) "isAtBales" (rm (d + 1) mc ms) (QM mc ms K) 0) := by
  unfold qReader_isAtBales_0
  exact (s_ald_n (j := 0) (by decide +kernel) rfl (s_getr (idx := 21) (by decide +kernel) fl6_21 (by decide) (s_geti (idx := 42) (by decide +kernel) fl6_42 (by decide) (s_bipush (n := 16) (v := 16) (by decide +kernel) (by decide +kernel) (s_ic_lt (off := 19) (tgt := 28) (by decide +kernel) (by decide) (zReader_isAtBales_28 hB) (zReader_isAtBales_12 hB))))))
/-- VoyageCompany$Reader.isAtBales()Z, at its places -/
def gReader_isAtBales (d mc ms : Nat) (K : Ps) : Nat → Pd := G cReader_isAtBales "VoyageCompany$Reader" 1 (some .boolean) "isAtBales" (rm (d + 1) mc ms) (QM mc ms K)
theorem eReader_isAtBales {d mc ms : Nat} {K : Ps} {av : List Value} {E : Nat → Prop} {R : Nat → Nat → Value} {I : Nat → Nat → Int32} {J : Nat → Nat → Int64} (hn : (lg_sl av).length ≤ 1) (h : qReader_isAtBales_0 d mc ms (gReader_isAtBales d mc ms K) K (lv_args 0 av) [] E R I J 0 0) : CL yReader_isAtBales cReader_isAtBales 1 (some .boolean) (d + 1) mc ms av E R I J K :=
  CL.of (by decide +kernel) hn (zReader_isAtBales_0 (fun _ => Le.refl) _ _ _ _ _ _ _ _ h)
def qReader_takePricedGood_10 (d mc ms : Nat) (B : Nat → Pd) (K : Ps) : Pd := (i_ald 0 (i_ci 8 (i_ald 0 (i_getr 6 3 (i_geti 10 4 (i_iadd (i_ci 15 (i_isub (i_puti 6 6 (i_ci 3 (i_iret mc ms K)))))))))))
theorem zReader_takePricedGood_10 {d mc ms : Nat} {B : Nat → Pd} {K : Ps} (hB : ∀ pc, Le (B pc) (G cReader_takePricedGood "VoyageCompany$Reader" 1 (some .int) "takePricedGood" (rm (d + 1) mc ms) (QM mc ms K) pc)) : Le (qReader_takePricedGood_10 d mc ms B K) (G cReader_takePricedGood "VoyageCompany$Reader" 1 (some .int) "takePricedGood" (rm (d + 1) mc ms) (QM mc ms K) 10) := by
  unfold qReader_takePricedGood_10
  exact (s_ald_n (j := 0) (by decide +kernel) rfl (s_bipush (n := 8) (v := 8) (by decide +kernel) (by decide +kernel) (s_ald_n (j := 0) (by decide +kernel) rfl (s_getr (idx := 21) (by decide +kernel) fl6_21 (by decide) (s_geti (idx := 42) (by decide +kernel) fl6_42 (by decide) (s_iadd (by decide +kernel) (s_bipush (n := 15) (v := 15) (by decide +kernel) (by decide +kernel) (s_isub (by decide +kernel) (s_puti (idx := 93) (by decide +kernel) fl6_93 (by decide) (by decide) (Or.inl (by decide +kernel)) (s_iconst (n := 3) (v := 3) (by decide +kernel) (by decide +kernel) (s_iret (by decide +kernel) rfl)))))))))))
def qReader_takePricedGood_7 (d mc ms : Nat) (B : Nat → Pd) (K : Ps) : Pd := (i_ci 10 (i_iret mc ms K))
theorem zReader_takePricedGood_7 {d mc ms : Nat} {B : Nat → Pd} {K : Ps} (hB : ∀ pc, Le (B pc) (G cReader_takePricedGood "VoyageCompany$Reader" 1 (some .int) "takePricedGood" (rm (d + 1) mc ms) (QM mc ms K) pc)) : Le (qReader_takePricedGood_7 d mc ms B K) (G cReader_takePricedGood "VoyageCompany$Reader" 1 (some .int) "takePricedGood" (rm (d + 1) mc ms) (QM mc ms K) 7) := by
  unfold qReader_takePricedGood_7
  exact (s_bipush (n := 10) (v := 10) (by decide +kernel) (by decide +kernel) (s_iret (by decide +kernel) rfl))
def qReader_takePricedGood_0 (d mc ms : Nat) (B : Nat → Pd) (K : Ps) : Pd := (i_ald 0 (i_call 0 6 yReader_isAtBales cReader_isAtBales 1 (some .boolean) mc ms d 1 (i_if_ne (qReader_takePricedGood_10 d mc ms B K) (qReader_takePricedGood_7 d mc ms B K))))
theorem zReader_takePricedGood_0 {d mc ms : Nat} {B : Nat → Pd} {K : Ps} (hB : ∀ pc, Le (B pc) (G cReader_takePricedGood "VoyageCompany$Reader" 1 (some .int) "takePricedGood" (rm (d + 1) mc ms) (QM mc ms K) pc)) : Le (qReader_takePricedGood_0 d mc ms B K) (G cReader_takePricedGood "VoyageCompany$Reader" 1 (some .int) "takePricedGood" (rm (d + 1) mc ms) (QM mc ms K) 0) := by
  unfold qReader_takePricedGood_0
  exact (s_ald_n (j := 0) (by decide +kernel) rfl (s_call (idx := 96) (by decide +kernel) ml6_96 rmk (s_if_ne (off := 6) (tgt := 10) (by decide +kernel) (by decide) (zReader_takePricedGood_10 hB) (zReader_takePricedGood_7 hB))))
/-- VoyageCompany$Reader.takePricedGood()I, at its places -/
def gReader_takePricedGood (d mc ms : Nat) (K : Ps) : Nat → Pd := G cReader_takePricedGood "VoyageCompany$Reader" 1 (some .int) "takePricedGood" (rm (d + 1) mc ms) (QM mc ms K)
theorem eReader_takePricedGood {d mc ms : Nat} {K : Ps} {av : List Value} {E : Nat → Prop} {R : Nat → Nat → Value} {I : Nat → Nat → Int32} {J : Nat → Nat → Int64} (hn : (lg_sl av).length ≤ 1) (h : qReader_takePricedGood_0 d mc ms (gReader_takePricedGood d mc ms K) K (lv_args 0 av) [] E R I J 0 0) : CL yReader_takePricedGood cReader_takePricedGood 1 (some .int) (d + 1) mc ms av E R I J K :=
  CL.of (by decide +kernel) hn (zReader_takePricedGood_0 (fun _ => Le.refl) _ _ _ _ _ _ _ _ h)
def qReader_takeComparison_53 (d mc ms : Nat) (B : Nat → Pd) (K : Ps) : Pd := (i_iret mc ms K)
theorem zReader_takeComparison_53 {d mc ms : Nat} {B : Nat → Pd} {K : Ps} (hB : ∀ pc, Le (B pc) (G cReader_takeComparison "VoyageCompany$Reader" 2 (some .int) "takeComparison" (rm (d + 1) mc ms) (QM mc ms K) pc)) : Le (qReader_takeComparison_53 d mc ms B K) (G cReader_takeComparison "VoyageCompany$Reader" 2 (some .int) "takeComparison" (rm (d + 1) mc ms) (QM mc ms K) 53) := by
  unfold qReader_takeComparison_53
  exact (s_iret (by decide +kernel) rfl)
def qReader_takeComparison_51 (d mc ms : Nat) (B : Nat → Pd) (K : Ps) : Pd := (i_ci 10 (qReader_takeComparison_53 d mc ms B K))
theorem zReader_takeComparison_51 {d mc ms : Nat} {B : Nat → Pd} {K : Ps} (hB : ∀ pc, Le (B pc) (G cReader_takeComparison "VoyageCompany$Reader" 2 (some .int) "takeComparison" (rm (d + 1) mc ms) (QM mc ms K) pc)) : Le (qReader_takeComparison_51 d mc ms B K) (G cReader_takeComparison "VoyageCompany$Reader" 2 (some .int) "takeComparison" (rm (d + 1) mc ms) (QM mc ms K) 51) := by
  unfold qReader_takeComparison_51
  exact (s_bipush (n := 10) (v := 10) (by decide +kernel) (by decide +kernel) (zReader_takeComparison_53 hB))
def qReader_takeComparison_47 (d mc ms : Nat) (B : Nat → Pd) (K : Ps) : Pd := (i_ci 4 (qReader_takeComparison_53 d mc ms B K))
theorem zReader_takeComparison_47 {d mc ms : Nat} {B : Nat → Pd} {K : Ps} (hB : ∀ pc, Le (B pc) (G cReader_takeComparison "VoyageCompany$Reader" 2 (some .int) "takeComparison" (rm (d + 1) mc ms) (QM mc ms K) pc)) : Le (qReader_takeComparison_47 d mc ms B K) (G cReader_takeComparison "VoyageCompany$Reader" 2 (some .int) "takeComparison" (rm (d + 1) mc ms) (QM mc ms K) 47) := by
  unfold qReader_takeComparison_47
  exact (s_iconst (n := 4) (v := 4) (by decide +kernel) (by decide +kernel) (s_goto (off := 5) (tgt := 53) (by decide +kernel) (by decide) (zReader_takeComparison_53 hB)))
def qReader_takeComparison_42 (d mc ms : Nat) (B : Nat → Pd) (K : Ps) : Pd := (i_ist 1 (i_ild 1 (i_if_eq (qReader_takeComparison_51 d mc ms B K) (qReader_takeComparison_47 d mc ms B K))))
theorem zReader_takeComparison_42 {d mc ms : Nat} {B : Nat → Pd} {K : Ps} (hB : ∀ pc, Le (B pc) (G cReader_takeComparison "VoyageCompany$Reader" 2 (some .int) "takeComparison" (rm (d + 1) mc ms) (QM mc ms K) pc)) : Le (qReader_takeComparison_42 d mc ms B K) (G cReader_takeComparison "VoyageCompany$Reader" 2 (some .int) "takeComparison" (rm (d + 1) mc ms) (QM mc ms K) 42) := by
  unfold qReader_takeComparison_42
  exact (s_ist_n (j := 1) (by decide +kernel) rfl (by decide) (s_ild_n (j := 1) (by decide +kernel) rfl (s_if_eq (off := 7) (tgt := 51) (by decide +kernel) (by decide) (zReader_takeComparison_51 hB) (zReader_takeComparison_47 hB))))
def qReader_takeComparison_41 (d mc ms : Nat) (B : Nat → Pd) (K : Ps) : Pd := (i_ci 0 (qReader_takeComparison_42 d mc ms B K))
theorem zReader_takeComparison_41 {d mc ms : Nat} {B : Nat → Pd} {K : Ps} (hB : ∀ pc, Le (B pc) (G cReader_takeComparison "VoyageCompany$Reader" 2 (some .int) "takeComparison" (rm (d + 1) mc ms) (QM mc ms K) pc)) : Le (qReader_takeComparison_41 d mc ms B K) (G cReader_takeComparison "VoyageCompany$Reader" 2 (some .int) "takeComparison" (rm (d + 1) mc ms) (QM mc ms K) 41) := by
  unfold qReader_takeComparison_41
  exact (s_iconst (n := 0) (v := 0) (by decide +kernel) (by decide +kernel) (zReader_takeComparison_42 hB))
def qReader_takeComparison_37 (d mc ms : Nat) (B : Nat → Pd) (K : Ps) : Pd := (i_ci 1 (qReader_takeComparison_42 d mc ms B K))
theorem zReader_takeComparison_37 {d mc ms : Nat} {B : Nat → Pd} {K : Ps} (hB : ∀ pc, Le (B pc) (G cReader_takeComparison "VoyageCompany$Reader" 2 (some .int) "takeComparison" (rm (d + 1) mc ms) (QM mc ms K) pc)) : Le (qReader_takeComparison_37 d mc ms B K) (G cReader_takeComparison "VoyageCompany$Reader" 2 (some .int) "takeComparison" (rm (d + 1) mc ms) (QM mc ms K) 37) := by
  unfold qReader_takeComparison_37
  exact (s_iconst (n := 1) (v := 1) (by decide +kernel) (by decide +kernel) (s_goto (off := 4) (tgt := 42) (by decide +kernel) (by decide) (zReader_takeComparison_42 hB)))
def qReader_takeComparison_28 (d mc ms : Nat) (B : Nat → Pd) (K : Ps) : Pd := (i_ald 0 (i_geti 6 7 (i_ci 7 (i_ic_ne (qReader_takeComparison_41 d mc ms B K) (qReader_takeComparison_37 d mc ms B K)))))
theorem zReader_takeComparison_28 {d mc ms : Nat} {B : Nat → Pd} {K : Ps} (hB : ∀ pc, Le (B pc) (G cReader_takeComparison "VoyageCompany$Reader" 2 (some .int) "takeComparison" (rm (d + 1) mc ms) (QM mc ms K) pc)) : Le (qReader_takeComparison_28 d mc ms B K) (G cReader_takeComparison "VoyageCompany$Reader" 2 (some .int) "takeComparison" (rm (d + 1) mc ms) (QM mc ms K) 28) := by
  unfold qReader_takeComparison_28
  exact (s_ald_n (j := 0) (by decide +kernel) rfl (s_geti (idx := 100) (by decide +kernel) fl6_100 (by decide) (s_bipush (n := 7) (v := 7) (by decide +kernel) (by decide +kernel) (s_ic_ne (off := 7) (tgt := 41) (by decide +kernel) (by decide) (zReader_takeComparison_41 hB) (zReader_takeComparison_37 hB)))))
def qReader_takeComparison_19 (d mc ms : Nat) (B : Nat → Pd) (K : Ps) : Pd := (i_ald 0 (i_geti 6 7 (i_ci 6 (i_ic_eq (qReader_takeComparison_37 d mc ms B K) (qReader_takeComparison_28 d mc ms B K)))))
theorem zReader_takeComparison_19 {d mc ms : Nat} {B : Nat → Pd} {K : Ps} (hB : ∀ pc, Le (B pc) (G cReader_takeComparison "VoyageCompany$Reader" 2 (some .int) "takeComparison" (rm (d + 1) mc ms) (QM mc ms K) pc)) : Le (qReader_takeComparison_19 d mc ms B K) (G cReader_takeComparison "VoyageCompany$Reader" 2 (some .int) "takeComparison" (rm (d + 1) mc ms) (QM mc ms K) 19) := by
  unfold qReader_takeComparison_19
  exact (s_ald_n (j := 0) (by decide +kernel) rfl (s_geti (idx := 100) (by decide +kernel) fl6_100 (by decide) (s_bipush (n := 6) (v := 6) (by decide +kernel) (by decide +kernel) (s_ic_eq (off := 12) (tgt := 37) (by decide +kernel) (by decide) (zReader_takeComparison_37 hB) (zReader_takeComparison_28 hB)))))
def qReader_takeComparison_0 (d mc ms : Nat) (B : Nat → Pd) (K : Ps) : Pd := (i_ald 0 (i_ald 0 (i_getr 6 3 (i_geti 10 4 (i_puti 6 7 (i_ald 0 (i_geti 6 7 (i_ci 5 (i_ic_eq (qReader_takeComparison_37 d mc ms B K) (qReader_takeComparison_19 d mc ms B K))))))))))
theorem zReader_takeComparison_0 {d mc ms : Nat} {B : Nat → Pd} {K : Ps} (hB : ∀ pc, Le (B pc) (G cReader_takeComparison "VoyageCompany$Reader" 2 (some .int) "takeComparison" (rm (d + 1) mc ms) (QM mc ms K) pc)) : Le (qReader_takeComparison_0 d mc ms B K) (G cReader_takeComparison "VoyageCompany$Reader" 2 (some .int) "takeComparison" (rm (d + 1) mc ms) (QM mc ms K) 0) := by
  unfold qReader_takeComparison_0
  exact (s_ald_n (j := 0) (by decide +kernel) rfl (s_ald_n (j := 0) (by decide +kernel) rfl (s_getr (idx := 21) (by decide +kernel) fl6_21 (by decide) (s_geti (idx := 42) (by decide +kernel) fl6_42 (by decide) (s_puti (idx := 100) (by decide +kernel) fl6_100 (by decide) (by decide) (Or.inl (by decide +kernel)) (s_ald_n (j := 0) (by decide +kernel) rfl (s_geti (idx := 100) (by decide +kernel) fl6_100 (by decide) (s_iconst (n := 5) (v := 5) (by decide +kernel) (by decide +kernel) (s_ic_eq (off := 21) (tgt := 37) (by decide +kernel) (by decide) (zReader_takeComparison_37 hB) (zReader_takeComparison_19 hB))))))))))
/-- VoyageCompany$Reader.takeComparison()I, at its places -/
def gReader_takeComparison (d mc ms : Nat) (K : Ps) : Nat → Pd := G cReader_takeComparison "VoyageCompany$Reader" 2 (some .int) "takeComparison" (rm (d + 1) mc ms) (QM mc ms K)
theorem eReader_takeComparison {d mc ms : Nat} {K : Ps} {av : List Value} {E : Nat → Prop} {R : Nat → Nat → Value} {I : Nat → Nat → Int32} {J : Nat → Nat → Int64} (hn : (lg_sl av).length ≤ 2) (h : qReader_takeComparison_0 d mc ms (gReader_takeComparison d mc ms K) K (lv_args 0 av) [] E R I J 0 0) : CL yReader_takeComparison cReader_takeComparison 2 (some .int) (d + 1) mc ms av E R I J K :=
  CL.of (by decide +kernel) hn (zReader_takeComparison_0 (fun _ => Le.refl) _ _ _ _ _ _ _ _ h)
def qReader_takeTestNumber_14 (d mc ms : Nat) (B : Nat → Pd) (K : Ps) : Pd := (i_ald 0 (i_getr 6 0 (i_ald 0 (i_geti 6 4 (i_ald 0 (i_geti 6 5 (i_ald 0 (i_geti 6 6 (i_ald 0 (i_geti 6 7 (i_ald 0 (i_getr 6 3 (i_geti 10 5 (i_call 0 3 yOrders_putTest cOrders_putTest 7 none mc ms d 6 (i_ald 0 (i_dup (i_geti 6 5 (i_ci 1 (i_iadd (i_puti 6 5 (i_ci 5 (i_iret mc ms K))))))))))))))))))))))
theorem zReader_takeTestNumber_14 {d mc ms : Nat} {B : Nat → Pd} {K : Ps} (hB : ∀ pc, Le (B pc) (G cReader_takeTestNumber "VoyageCompany$Reader" 1 (some .int) "takeTestNumber" (rm (d + 1) mc ms) (QM mc ms K) pc)) : Le (qReader_takeTestNumber_14 d mc ms B K) (G cReader_takeTestNumber "VoyageCompany$Reader" 1 (some .int) "takeTestNumber" (rm (d + 1) mc ms) (QM mc ms K) 14) := by
  unfold qReader_takeTestNumber_14
  exact (s_ald_n (j := 0) (by decide +kernel) rfl (s_getr (idx := 12) (by decide +kernel) fl6_12 (by decide) (s_ald_n (j := 0) (by decide +kernel) rfl (s_geti (idx := 35) (by decide +kernel) fl6_35 (by decide) (s_ald_n (j := 0) (by decide +kernel) rfl (s_geti (idx := 86) (by decide +kernel) fl6_86 (by decide) (s_ald_n (j := 0) (by decide +kernel) rfl (s_geti (idx := 93) (by decide +kernel) fl6_93 (by decide) (s_ald_n (j := 0) (by decide +kernel) rfl (s_geti (idx := 100) (by decide +kernel) fl6_100 (by decide) (s_ald_n (j := 0) (by decide +kernel) rfl (s_getr (idx := 21) (by decide +kernel) fl6_21 (by decide) (s_geti (idx := 103) (by decide +kernel) fl6_103 (by decide) (s_call (idx := 106) (by decide +kernel) ml6_106 rmk (s_ald_n (j := 0) (by decide +kernel) rfl (s_dup (by decide +kernel) (s_geti (idx := 86) (by decide +kernel) fl6_86 (by decide) (s_iconst (n := 1) (v := 1) (by decide +kernel) (by decide +kernel) (s_iadd (by decide +kernel) (s_puti (idx := 86) (by decide +kernel) fl6_86 (by decide) (by decide) (Or.inl (by decide +kernel)) (s_iconst (n := 5) (v := 5) (by decide +kernel) (by decide +kernel) (s_iret (by decide +kernel) rfl))))))))))))))))))))))
def qReader_takeTestNumber_11 (d mc ms : Nat) (B : Nat → Pd) (K : Ps) : Pd := (i_ci 10 (i_iret mc ms K))
theorem zReader_takeTestNumber_11 {d mc ms : Nat} {B : Nat → Pd} {K : Ps} (hB : ∀ pc, Le (B pc) (G cReader_takeTestNumber "VoyageCompany$Reader" 1 (some .int) "takeTestNumber" (rm (d + 1) mc ms) (QM mc ms K) pc)) : Le (qReader_takeTestNumber_11 d mc ms B K) (G cReader_takeTestNumber "VoyageCompany$Reader" 1 (some .int) "takeTestNumber" (rm (d + 1) mc ms) (QM mc ms K) 11) := by
  unfold qReader_takeTestNumber_11
  exact (s_bipush (n := 10) (v := 10) (by decide +kernel) (by decide +kernel) (s_iret (by decide +kernel) rfl))
def qReader_takeTestNumber_0 (d mc ms : Nat) (B : Nat → Pd) (K : Ps) : Pd := (i_ald 0 (i_getr 6 3 (i_geti 10 4 (i_ci 2 (i_ic_eq (qReader_takeTestNumber_14 d mc ms B K) (qReader_takeTestNumber_11 d mc ms B K))))))
theorem zReader_takeTestNumber_0 {d mc ms : Nat} {B : Nat → Pd} {K : Ps} (hB : ∀ pc, Le (B pc) (G cReader_takeTestNumber "VoyageCompany$Reader" 1 (some .int) "takeTestNumber" (rm (d + 1) mc ms) (QM mc ms K) pc)) : Le (qReader_takeTestNumber_0 d mc ms B K) (G cReader_takeTestNumber "VoyageCompany$Reader" 1 (some .int) "takeTestNumber" (rm (d + 1) mc ms) (QM mc ms K) 0) := by
  unfold qReader_takeTestNumber_0
  exact (s_ald_n (j := 0) (by decide +kernel) rfl (s_getr (idx := 21) (by decide +kernel) fl6_21 (by decide) (s_geti (idx := 42) (by decide +kernel) fl6_42 (by decide) (s_iconst (n := 2) (v := 2) (by decide +kernel) (by decide +kernel) (s_ic_eq (off := 6) (tgt := 14) (by decide +kernel) (by decide) (zReader_takeTestNumber_14 hB) (zReader_takeTestNumber_11 hB))))))
/-- VoyageCompany$Reader.takeTestNumber()I, at its places -/
def gReader_takeTestNumber (d mc ms : Nat) (K : Ps) : Nat → Pd := G cReader_takeTestNumber "VoyageCompany$Reader" 1 (some .int) "takeTestNumber" (rm (d + 1) mc ms) (QM mc ms K)
theorem eReader_takeTestNumber {d mc ms : Nat} {K : Ps} {av : List Value} {E : Nat → Prop} {R : Nat → Nat → Value} {I : Nat → Nat → Int32} {J : Nat → Nat → Int64} (hn : (lg_sl av).length ≤ 1) (h : qReader_takeTestNumber_0 d mc ms (gReader_takeTestNumber d mc ms K) K (lv_args 0 av) [] E R I J 0 0) : CL yReader_takeTestNumber cReader_takeTestNumber 1 (some .int) (d + 1) mc ms av E R I J K :=
  CL.of (by decide +kernel) hn (zReader_takeTestNumber_0 (fun _ => Le.refl) _ _ _ _ _ _ _ _ h)
def qReader_takeAndOrColon_37 (d mc ms : Nat) (B : Nat → Pd) (K : Ps) : Pd := (i_ci 10 (i_iret mc ms K))
theorem zReader_takeAndOrColon_37 {d mc ms : Nat} {B : Nat → Pd} {K : Ps} (hB : ∀ pc, Le (B pc) (G cReader_takeAndOrColon "VoyageCompany$Reader" 1 (some .int) "takeAndOrColon" (rm (d + 1) mc ms) (QM mc ms K) pc)) : Le (qReader_takeAndOrColon_37 d mc ms B K) (G cReader_takeAndOrColon "VoyageCompany$Reader" 1 (some .int) "takeAndOrColon" (rm (d + 1) mc ms) (QM mc ms K) 37) := by
  unfold qReader_takeAndOrColon_37
  exact (s_bipush (n := 10) (v := 10) (by decide +kernel) (by decide +kernel) (s_iret (by decide +kernel) rfl))
def qReader_takeAndOrColon_34 (d mc ms : Nat) (B : Nat → Pd) (K : Ps) : Pd := (i_ci 6 (i_iret mc ms K))
theorem zReader_takeAndOrColon_34 {d mc ms : Nat} {B : Nat → Pd} {K : Ps} (hB : ∀ pc, Le (B pc) (G cReader_takeAndOrColon "VoyageCompany$Reader" 1 (some .int) "takeAndOrColon" (rm (d + 1) mc ms) (QM mc ms K) pc)) : Le (qReader_takeAndOrColon_34 d mc ms B K) (G cReader_takeAndOrColon "VoyageCompany$Reader" 1 (some .int) "takeAndOrColon" (rm (d + 1) mc ms) (QM mc ms K) 34) := by
  unfold qReader_takeAndOrColon_34
  exact (s_bipush (n := 6) (v := 6) (by decide +kernel) (by decide +kernel) (s_iret (by decide +kernel) rfl))
def qReader_takeAndOrColon_32 (d mc ms : Nat) (B : Nat → Pd) (K : Ps) : Pd := (i_ci 1 (i_iret mc ms K))
theorem zReader_takeAndOrColon_32 {d mc ms : Nat} {B : Nat → Pd} {K : Ps} (hB : ∀ pc, Le (B pc) (G cReader_takeAndOrColon "VoyageCompany$Reader" 1 (some .int) "takeAndOrColon" (rm (d + 1) mc ms) (QM mc ms K) pc)) : Le (qReader_takeAndOrColon_32 d mc ms B K) (G cReader_takeAndOrColon "VoyageCompany$Reader" 1 (some .int) "takeAndOrColon" (rm (d + 1) mc ms) (QM mc ms K) 32) := by
  unfold qReader_takeAndOrColon_32
  exact (s_iconst (n := 1) (v := 1) (by decide +kernel) (by decide +kernel) (s_iret (by decide +kernel) rfl))
def qReader_takeAndOrColon_0 (d mc ms : Nat) (B : Nat → Pd) (K : Ps) : Pd := (i_ald 0 (i_getr 6 3 (i_geti 10 4 (i_sw [(3, (qReader_takeAndOrColon_34 d mc ms B K)), (9, (qReader_takeAndOrColon_32 d mc ms B K))] (qReader_takeAndOrColon_37 d mc ms B K)))))
theorem zReader_takeAndOrColon_0 {d mc ms : Nat} {B : Nat → Pd} {K : Ps} (hB : ∀ pc, Le (B pc) (G cReader_takeAndOrColon "VoyageCompany$Reader" 1 (some .int) "takeAndOrColon" (rm (d + 1) mc ms) (QM mc ms K) pc)) : Le (qReader_takeAndOrColon_0 d mc ms B K) (G cReader_takeAndOrColon "VoyageCompany$Reader" 1 (some .int) "takeAndOrColon" (rm (d + 1) mc ms) (QM mc ms K) 0) := by
  unfold qReader_takeAndOrColon_0
  exact (s_ald_n (j := 0) (by decide +kernel) rfl (s_getr (idx := 21) (by decide +kernel) fl6_21 (by decide) (s_geti (idx := 42) (by decide +kernel) fl6_42 (by decide) (s_sw (fun x => by
    by_cases h0 : x = 3
    · subst h0
      exact ⟨34, sw_lk (dflt := 30) (ps := #[(3, 27), (9, 25)]) (len := 25) (off := 27) (by decide +kernel) (by decide +kernel) (by decide +kernel) (by decide +kernel), by simpa [swp] using (zReader_takeAndOrColon_34 hB)⟩
    by_cases h1 : x = 9
    · subst h1
      exact ⟨32, sw_lk (dflt := 30) (ps := #[(3, 27), (9, 25)]) (len := 25) (off := 25) (by decide +kernel) (by decide +kernel) (by decide +kernel) (by decide +kernel), by simpa [swp] using (zReader_takeAndOrColon_32 hB)⟩
    have g0 := i32_ne (z := 3) (by decide +kernel) h0
    have g1 := i32_ne (z := 9) (by decide +kernel) h1
    exact ⟨37, sw_lk (dflt := 30) (ps := #[(3, 27), (9, 25)]) (len := 25) (off := 30) (by decide +kernel) (by decide +kernel) (by simp [Op.lookupswitch.offset, g0, g1, Ne.symm g0, Ne.symm g1]) (by decide +kernel), by simpa [swp, h0, h1] using (zReader_takeAndOrColon_37 hB)⟩)))))
/-- VoyageCompany$Reader.takeAndOrColon()I, at its places -/
def gReader_takeAndOrColon (d mc ms : Nat) (K : Ps) : Nat → Pd := G cReader_takeAndOrColon "VoyageCompany$Reader" 1 (some .int) "takeAndOrColon" (rm (d + 1) mc ms) (QM mc ms K)
theorem eReader_takeAndOrColon {d mc ms : Nat} {K : Ps} {av : List Value} {E : Nat → Prop} {R : Nat → Nat → Value} {I : Nat → Nat → Int32} {J : Nat → Nat → Int64} (hn : (lg_sl av).length ≤ 1) (h : qReader_takeAndOrColon_0 d mc ms (gReader_takeAndOrColon d mc ms K) K (lv_args 0 av) [] E R I J 0 0) : CL yReader_takeAndOrColon cReader_takeAndOrColon 1 (some .int) (d + 1) mc ms av E R I J K :=
  CL.of (by decide +kernel) hn (zReader_takeAndOrColon_0 (fun _ => Le.refl) _ _ _ _ _ _ _ _ h)
def qReader_takeAct_77 (d mc ms : Nat) (B : Nat → Pd) (K : Ps) : Pd := (i_ci 10 (i_iret mc ms K))
theorem zReader_takeAct_77 {d mc ms : Nat} {B : Nat → Pd} {K : Ps} (hB : ∀ pc, Le (B pc) (G cReader_takeAct "VoyageCompany$Reader" 1 (some .int) "takeAct" (rm (d + 1) mc ms) (QM mc ms K) pc)) : Le (qReader_takeAct_77 d mc ms B K) (G cReader_takeAct "VoyageCompany$Reader" 1 (some .int) "takeAct" (rm (d + 1) mc ms) (QM mc ms K) 77) := by
  unfold qReader_takeAct_77
  exact (s_bipush (n := 10) (v := 10) (by decide +kernel) (by decide +kernel) (s_iret (by decide +kernel) rfl))
def qReader_takeAct_74 (d mc ms : Nat) (B : Nat → Pd) (K : Ps) : Pd := (i_ci 9 (i_iret mc ms K))
theorem zReader_takeAct_74 {d mc ms : Nat} {B : Nat → Pd} {K : Ps} (hB : ∀ pc, Le (B pc) (G cReader_takeAct "VoyageCompany$Reader" 1 (some .int) "takeAct" (rm (d + 1) mc ms) (QM mc ms K) pc)) : Le (qReader_takeAct_74 d mc ms B K) (G cReader_takeAct "VoyageCompany$Reader" 1 (some .int) "takeAct" (rm (d + 1) mc ms) (QM mc ms K) 74) := by
  unfold qReader_takeAct_74
  exact (s_bipush (n := 9) (v := 9) (by decide +kernel) (by decide +kernel) (s_iret (by decide +kernel) rfl))
def qReader_takeAct_71 (d mc ms : Nat) (B : Nat → Pd) (K : Ps) : Pd := (i_ci 8 (i_iret mc ms K))
theorem zReader_takeAct_71 {d mc ms : Nat} {B : Nat → Pd} {K : Ps} (hB : ∀ pc, Le (B pc) (G cReader_takeAct "VoyageCompany$Reader" 1 (some .int) "takeAct" (rm (d + 1) mc ms) (QM mc ms K) pc)) : Le (qReader_takeAct_71 d mc ms B K) (G cReader_takeAct "VoyageCompany$Reader" 1 (some .int) "takeAct" (rm (d + 1) mc ms) (QM mc ms K) 71) := by
  unfold qReader_takeAct_71
  exact (s_bipush (n := 8) (v := 8) (by decide +kernel) (by decide +kernel) (s_iret (by decide +kernel) rfl))
def qReader_takeAct_68 (d mc ms : Nat) (B : Nat → Pd) (K : Ps) : Pd := (i_ci 7 (i_iret mc ms K))
theorem zReader_takeAct_68 {d mc ms : Nat} {B : Nat → Pd} {K : Ps} (hB : ∀ pc, Le (B pc) (G cReader_takeAct "VoyageCompany$Reader" 1 (some .int) "takeAct" (rm (d + 1) mc ms) (QM mc ms K) pc)) : Le (qReader_takeAct_68 d mc ms B K) (G cReader_takeAct "VoyageCompany$Reader" 1 (some .int) "takeAct" (rm (d + 1) mc ms) (QM mc ms K) 68) := by
  unfold qReader_takeAct_68
  exact (s_bipush (n := 7) (v := 7) (by decide +kernel) (by decide +kernel) (s_iret (by decide +kernel) rfl))
def qReader_takeAct_0 (d mc ms : Nat) (B : Nat → Pd) (K : Ps) : Pd := (i_ald 0 (i_ald 0 (i_getr 6 3 (i_geti 10 4 (i_puti 6 8 (i_ald 0 (i_ci 0 (i_puti 6 9 (i_ald 0 (i_ci 0 (i_puti 6 10 (i_ald 0 (i_geti 6 8 (i_sw [(19, (qReader_takeAct_68 d mc ms B K)), (20, (qReader_takeAct_68 d mc ms B K)), (21, (qReader_takeAct_68 d mc ms B K)), (22, (qReader_takeAct_71 d mc ms B K)), (23, (qReader_takeAct_74 d mc ms B K)), (24, (qReader_takeAct_71 d mc ms B K)), (25, (qReader_takeAct_74 d mc ms B K))] (qReader_takeAct_77 d mc ms B K)))))))))))))))
theorem zReader_takeAct_0 {d mc ms : Nat} {B : Nat → Pd} {K : Ps} (hB : ∀ pc, Le (B pc) (G cReader_takeAct "VoyageCompany$Reader" 1 (some .int) "takeAct" (rm (d + 1) mc ms) (QM mc ms K) pc)) : Le (qReader_takeAct_0 d mc ms B K) (G cReader_takeAct "VoyageCompany$Reader" 1 (some .int) "takeAct" (rm (d + 1) mc ms) (QM mc ms K) 0) := by
  unfold qReader_takeAct_0
  exact (s_ald_n (j := 0) (by decide +kernel) rfl (s_ald_n (j := 0) (by decide +kernel) rfl (s_getr (idx := 21) (by decide +kernel) fl6_21 (by decide) (s_geti (idx := 42) (by decide +kernel) fl6_42 (by decide) (s_puti (idx := 110) (by decide +kernel) fl6_110 (by decide) (by decide) (Or.inl (by decide +kernel)) (s_ald_n (j := 0) (by decide +kernel) rfl (s_iconst (n := 0) (v := 0) (by decide +kernel) (by decide +kernel) (s_puti (idx := 113) (by decide +kernel) fl6_113 (by decide) (by decide) (Or.inl (by decide +kernel)) (s_ald_n (j := 0) (by decide +kernel) rfl (s_iconst (n := 0) (v := 0) (by decide +kernel) (by decide +kernel) (s_puti (idx := 116) (by decide +kernel) fl6_116 (by decide) (by decide) (Or.inl (by decide +kernel)) (s_ald_n (j := 0) (by decide +kernel) rfl (s_geti (idx := 110) (by decide +kernel) fl6_110 (by decide) (s_sw (fun x => by
    by_cases h0 : x = 19
    · subst h0
      exact ⟨68, sw_in (dflt := 52) (lo := 19) (hi := 25) (offs := #[43, 43, 43, 46, 49, 46, 49]) (len := 43) (off := 43) (by decide +kernel) (by decide +kernel) (by decide +kernel) (by decide +kernel) (by decide +kernel), by simpa [swp] using (zReader_takeAct_68 hB)⟩
    by_cases h1 : x = 20
    · subst h1
      exact ⟨68, sw_in (dflt := 52) (lo := 19) (hi := 25) (offs := #[43, 43, 43, 46, 49, 46, 49]) (len := 43) (off := 43) (by decide +kernel) (by decide +kernel) (by decide +kernel) (by decide +kernel) (by decide +kernel), by simpa [swp] using (zReader_takeAct_68 hB)⟩
    by_cases h2 : x = 21
    · subst h2
      exact ⟨68, sw_in (dflt := 52) (lo := 19) (hi := 25) (offs := #[43, 43, 43, 46, 49, 46, 49]) (len := 43) (off := 43) (by decide +kernel) (by decide +kernel) (by decide +kernel) (by decide +kernel) (by decide +kernel), by simpa [swp] using (zReader_takeAct_68 hB)⟩
    by_cases h3 : x = 22
    · subst h3
      exact ⟨71, sw_in (dflt := 52) (lo := 19) (hi := 25) (offs := #[43, 43, 43, 46, 49, 46, 49]) (len := 43) (off := 46) (by decide +kernel) (by decide +kernel) (by decide +kernel) (by decide +kernel) (by decide +kernel), by simpa [swp] using (zReader_takeAct_71 hB)⟩
    by_cases h4 : x = 23
    · subst h4
      exact ⟨74, sw_in (dflt := 52) (lo := 19) (hi := 25) (offs := #[43, 43, 43, 46, 49, 46, 49]) (len := 43) (off := 49) (by decide +kernel) (by decide +kernel) (by decide +kernel) (by decide +kernel) (by decide +kernel), by simpa [swp] using (zReader_takeAct_74 hB)⟩
    by_cases h5 : x = 24
    · subst h5
      exact ⟨71, sw_in (dflt := 52) (lo := 19) (hi := 25) (offs := #[43, 43, 43, 46, 49, 46, 49]) (len := 43) (off := 46) (by decide +kernel) (by decide +kernel) (by decide +kernel) (by decide +kernel) (by decide +kernel), by simpa [swp] using (zReader_takeAct_71 hB)⟩
    by_cases h6 : x = 25
    · subst h6
      exact ⟨74, sw_in (dflt := 52) (lo := 19) (hi := 25) (offs := #[43, 43, 43, 46, 49, 46, 49]) (len := 43) (off := 49) (by decide +kernel) (by decide +kernel) (by decide +kernel) (by decide +kernel) (by decide +kernel), by simpa [swp] using (zReader_takeAct_74 hB)⟩
    have g0 := i32_ne (z := 19) (by decide +kernel) h0
    have g1 := i32_ne (z := 20) (by decide +kernel) h1
    have g2 := i32_ne (z := 21) (by decide +kernel) h2
    have g3 := i32_ne (z := 22) (by decide +kernel) h3
    have g4 := i32_ne (z := 23) (by decide +kernel) h4
    have g5 := i32_ne (z := 24) (by decide +kernel) h5
    have g6 := i32_ne (z := 25) (by decide +kernel) h6
    exact ⟨77, sw_out (dflt := 52) (lo := 19) (hi := 25) (offs := #[43, 43, 43, 46, 49, 46, 49]) (len := 43) (by decide +kernel) (by omega) (by decide +kernel), by simpa [swp, h0, h1, h2, h3, h4, h5, h6] using (zReader_takeAct_77 hB)⟩)))))))))))))))
/-- VoyageCompany$Reader.takeAct()I, at its places -/
def gReader_takeAct (d mc ms : Nat) (K : Ps) : Nat → Pd := G cReader_takeAct "VoyageCompany$Reader" 1 (some .int) "takeAct" (rm (d + 1) mc ms) (QM mc ms K)
theorem eReader_takeAct {d mc ms : Nat} {K : Ps} {av : List Value} {E : Nat → Prop} {R : Nat → Nat → Value} {I : Nat → Nat → Int32} {J : Nat → Nat → Int64} (hn : (lg_sl av).length ≤ 1) (h : qReader_takeAct_0 d mc ms (gReader_takeAct d mc ms K) K (lv_args 0 av) [] E R I J 0 0) : CL yReader_takeAct cReader_takeAct 1 (some .int) (d + 1) mc ms av E R I J K :=
  CL.of (by decide +kernel) hn (zReader_takeAct_0 (fun _ => Le.refl) _ _ _ _ _ _ _ _ h)
def qReader_takeActGood_10 (d mc ms : Nat) (B : Nat → Pd) (K : Ps) : Pd := (i_ald 0 (i_ald 0 (i_getr 6 3 (i_geti 10 4 (i_ci 15 (i_isub (i_puti 6 9 (i_ci 8 (i_iret mc ms K)))))))))
theorem zReader_takeActGood_10 {d mc ms : Nat} {B : Nat → Pd} {K : Ps} (hB : ∀ pc, Le (B pc) (G cReader_takeActGood "VoyageCompany$Reader" 1 (some .int) "takeActGood" (rm (d + 1) mc ms) (QM mc ms K) pc)) : Le (qReader_takeActGood_10 d mc ms B K) (G cReader_takeActGood "VoyageCompany$Reader" 1 (some .int) "takeActGood" (rm (d + 1) mc ms) (QM mc ms K) 10) := by
  unfold qReader_takeActGood_10
  exact (s_ald_n (j := 0) (by decide +kernel) rfl (s_ald_n (j := 0) (by decide +kernel) rfl (s_getr (idx := 21) (by decide +kernel) fl6_21 (by decide) (s_geti (idx := 42) (by decide +kernel) fl6_42 (by decide) (s_bipush (n := 15) (v := 15) (by decide +kernel) (by decide +kernel) (s_isub (by decide +kernel) (s_puti (idx := 113) (by decide +kernel) fl6_113 (by decide) (by decide) (Or.inl (by decide +kernel)) (s_bipush (n := 8) (v := 8) (by decide +kernel) (by decide +kernel) (s_iret (by decide +kernel) rfl)))))))))
def qReader_takeActGood_7 (d mc ms : Nat) (B : Nat → Pd) (K : Ps) : Pd := (i_ci 10 (i_iret mc ms K))
theorem zReader_takeActGood_7 {d mc ms : Nat} {B : Nat → Pd} {K : Ps} (hB : ∀ pc, Le (B pc) (G cReader_takeActGood "VoyageCompany$Reader" 1 (some .int) "takeActGood" (rm (d + 1) mc ms) (QM mc ms K) pc)) : Le (qReader_takeActGood_7 d mc ms B K) (G cReader_takeActGood "VoyageCompany$Reader" 1 (some .int) "takeActGood" (rm (d + 1) mc ms) (QM mc ms K) 7) := by
  unfold qReader_takeActGood_7
  exact (s_bipush (n := 10) (v := 10) (by decide +kernel) (by decide +kernel) (s_iret (by decide +kernel) rfl))
def qReader_takeActGood_0 (d mc ms : Nat) (B : Nat → Pd) (K : Ps) : Pd := (i_ald 0 (i_call 0 6 yReader_isAtBales cReader_isAtBales 1 (some .boolean) mc ms d 1 (i_if_ne (qReader_takeActGood_10 d mc ms B K) (qReader_takeActGood_7 d mc ms B K))))
theorem zReader_takeActGood_0 {d mc ms : Nat} {B : Nat → Pd} {K : Ps} (hB : ∀ pc, Le (B pc) (G cReader_takeActGood "VoyageCompany$Reader" 1 (some .int) "takeActGood" (rm (d + 1) mc ms) (QM mc ms K) pc)) : Le (qReader_takeActGood_0 d mc ms B K) (G cReader_takeActGood "VoyageCompany$Reader" 1 (some .int) "takeActGood" (rm (d + 1) mc ms) (QM mc ms K) 0) := by
  unfold qReader_takeActGood_0
  exact (s_ald_n (j := 0) (by decide +kernel) rfl (s_call (idx := 96) (by decide +kernel) ml6_96 rmk (s_if_ne (off := 6) (tgt := 10) (by decide +kernel) (by decide) (zReader_takeActGood_10 hB) (zReader_takeActGood_7 hB))))
/-- VoyageCompany$Reader.takeActGood()I, at its places -/
def gReader_takeActGood (d mc ms : Nat) (K : Ps) : Nat → Pd := G cReader_takeActGood "VoyageCompany$Reader" 1 (some .int) "takeActGood" (rm (d + 1) mc ms) (QM mc ms K)
theorem eReader_takeActGood {d mc ms : Nat} {K : Ps} {av : List Value} {E : Nat → Prop} {R : Nat → Nat → Value} {I : Nat → Nat → Int32} {J : Nat → Nat → Int64} (hn : (lg_sl av).length ≤ 1) (h : qReader_takeActGood_0 d mc ms (gReader_takeActGood d mc ms K) K (lv_args 0 av) [] E R I J 0 0) : CL yReader_takeActGood cReader_takeActGood 1 (some .int) (d + 1) mc ms av E R I J K :=
  CL.of (by decide +kernel) hn (zReader_takeActGood_0 (fun _ => Le.refl) _ _ _ _ _ _ _ _ h)
def qReader_takeActNumber_49 (d mc ms : Nat) (B : Nat → Pd) (K : Ps) : Pd := (i_ci 9 (i_iret mc ms K))
theorem zReader_takeActNumber_49 {d mc ms : Nat} {B : Nat → Pd} {K : Ps} (hB : ∀ pc, Le (B pc) (G cReader_takeActNumber "VoyageCompany$Reader" 1 (some .int) "takeActNumber" (rm (d + 1) mc ms) (QM mc ms K) pc)) : Le (qReader_takeActNumber_49 d mc ms B K) (G cReader_takeActNumber "VoyageCompany$Reader" 1 (some .int) "takeActNumber" (rm (d + 1) mc ms) (QM mc ms K) 49) := by
  unfold qReader_takeActNumber_49
  exact (s_bipush (n := 9) (v := 9) (by decide +kernel) (by decide +kernel) (s_iret (by decide +kernel) rfl))
def qReader_takeActNumber_44 (d mc ms : Nat) (B : Nat → Pd) (K : Ps) : Pd := (i_ald 0 (i_ci 2 (i_call 0 6 yReader_mark cReader_mark 2 none mc ms d 2 (qReader_takeActNumber_49 d mc ms B K))))
theorem zReader_takeActNumber_44 {d mc ms : Nat} {B : Nat → Pd} {K : Ps} (hB : ∀ pc, Le (B pc) (G cReader_takeActNumber "VoyageCompany$Reader" 1 (some .int) "takeActNumber" (rm (d + 1) mc ms) (QM mc ms K) pc)) : Le (qReader_takeActNumber_44 d mc ms B K) (G cReader_takeActNumber "VoyageCompany$Reader" 1 (some .int) "takeActNumber" (rm (d + 1) mc ms) (QM mc ms K) 44) := by
  unfold qReader_takeActNumber_44
  exact (s_ald_n (j := 0) (by decide +kernel) rfl (s_iconst (n := 2) (v := 2) (by decide +kernel) (by decide +kernel) (s_call (idx := 89) (by decide +kernel) ml6_89 rmk (zReader_takeActNumber_49 hB))))
def qReader_takeActNumber_34 (d mc ms : Nat) (B : Nat → Pd) (K : Ps) : Pd := (i_ald 0 (i_geti 6 10 (i_call 2 11 yIsPort cVC_isPort 1 (some .boolean) mc ms d 1 (i_if_ne (qReader_takeActNumber_49 d mc ms B K) (qReader_takeActNumber_44 d mc ms B K)))))
theorem zReader_takeActNumber_34 {d mc ms : Nat} {B : Nat → Pd} {K : Ps} (hB : ∀ pc, Le (B pc) (G cReader_takeActNumber "VoyageCompany$Reader" 1 (some .int) "takeActNumber" (rm (d + 1) mc ms) (QM mc ms K) pc)) : Le (qReader_takeActNumber_34 d mc ms B K) (G cReader_takeActNumber "VoyageCompany$Reader" 1 (some .int) "takeActNumber" (rm (d + 1) mc ms) (QM mc ms K) 34) := by
  unfold qReader_takeActNumber_34
  exact (s_ald_n (j := 0) (by decide +kernel) rfl (s_geti (idx := 116) (by decide +kernel) fl6_116 (by decide) (s_callP (by decide +kernel) rfl (by decide +kernel) (by decide) rmk (s_if_ne (off := 8) (tgt := 49) (by decide +kernel) (by decide) (zReader_takeActNumber_49 hB) (zReader_takeActNumber_44 hB)))))
def qReader_takeActNumber_14 (d mc ms : Nat) (B : Nat → Pd) (K : Ps) : Pd := (i_ald 0 (i_ald 0 (i_getr 6 3 (i_geti 10 5 (i_puti 6 10 (i_ald 0 (i_geti 6 8 (i_ci 24 (i_ic_ne (qReader_takeActNumber_49 d mc ms B K) (qReader_takeActNumber_34 d mc ms B K))))))))))
theorem zReader_takeActNumber_14 {d mc ms : Nat} {B : Nat → Pd} {K : Ps} (hB : ∀ pc, Le (B pc) (G cReader_takeActNumber "VoyageCompany$Reader" 1 (some .int) "takeActNumber" (rm (d + 1) mc ms) (QM mc ms K) pc)) : Le (qReader_takeActNumber_14 d mc ms B K) (G cReader_takeActNumber "VoyageCompany$Reader" 1 (some .int) "takeActNumber" (rm (d + 1) mc ms) (QM mc ms K) 14) := by
  unfold qReader_takeActNumber_14
  exact (s_ald_n (j := 0) (by decide +kernel) rfl (s_ald_n (j := 0) (by decide +kernel) rfl (s_getr (idx := 21) (by decide +kernel) fl6_21 (by decide) (s_geti (idx := 103) (by decide +kernel) fl6_103 (by decide) (s_puti (idx := 116) (by decide +kernel) fl6_116 (by decide) (by decide) (Or.inl (by decide +kernel)) (s_ald_n (j := 0) (by decide +kernel) rfl (s_geti (idx := 110) (by decide +kernel) fl6_110 (by decide) (s_bipush (n := 24) (v := 24) (by decide +kernel) (by decide +kernel) (s_ic_ne (off := 18) (tgt := 49) (by decide +kernel) (by decide) (zReader_takeActNumber_49 hB) (zReader_takeActNumber_34 hB))))))))))
def qReader_takeActNumber_11 (d mc ms : Nat) (B : Nat → Pd) (K : Ps) : Pd := (i_ci 10 (i_iret mc ms K))
theorem zReader_takeActNumber_11 {d mc ms : Nat} {B : Nat → Pd} {K : Ps} (hB : ∀ pc, Le (B pc) (G cReader_takeActNumber "VoyageCompany$Reader" 1 (some .int) "takeActNumber" (rm (d + 1) mc ms) (QM mc ms K) pc)) : Le (qReader_takeActNumber_11 d mc ms B K) (G cReader_takeActNumber "VoyageCompany$Reader" 1 (some .int) "takeActNumber" (rm (d + 1) mc ms) (QM mc ms K) 11) := by
  unfold qReader_takeActNumber_11
  exact (s_bipush (n := 10) (v := 10) (by decide +kernel) (by decide +kernel) (s_iret (by decide +kernel) rfl))
def qReader_takeActNumber_0 (d mc ms : Nat) (B : Nat → Pd) (K : Ps) : Pd := (i_ald 0 (i_getr 6 3 (i_geti 10 4 (i_ci 2 (i_ic_eq (qReader_takeActNumber_14 d mc ms B K) (qReader_takeActNumber_11 d mc ms B K))))))
theorem zReader_takeActNumber_0 {d mc ms : Nat} {B : Nat → Pd} {K : Ps} (hB : ∀ pc, Le (B pc) (G cReader_takeActNumber "VoyageCompany$Reader" 1 (some .int) "takeActNumber" (rm (d + 1) mc ms) (QM mc ms K) pc)) : Le (qReader_takeActNumber_0 d mc ms B K) (G cReader_takeActNumber "VoyageCompany$Reader" 1 (some .int) "takeActNumber" (rm (d + 1) mc ms) (QM mc ms K) 0) := by
  unfold qReader_takeActNumber_0
  exact (s_ald_n (j := 0) (by decide +kernel) rfl (s_getr (idx := 21) (by decide +kernel) fl6_21 (by decide) (s_geti (idx := 42) (by decide +kernel) fl6_42 (by decide) (s_iconst (n := 2) (v := 2) (by decide +kernel) (by decide +kernel) (s_ic_eq (off := 6) (tgt := 14) (by decide +kernel) (by decide) (zReader_takeActNumber_14 hB) (zReader_takeActNumber_11 hB))))))
/-- VoyageCompany$Reader.takeActNumber()I, at its places -/
def gReader_takeActNumber (d mc ms : Nat) (K : Ps) : Nat → Pd := G cReader_takeActNumber "VoyageCompany$Reader" 1 (some .int) "takeActNumber" (rm (d + 1) mc ms) (QM mc ms K)
theorem eReader_takeActNumber {d mc ms : Nat} {K : Ps} {av : List Value} {E : Nat → Prop} {R : Nat → Nat → Value} {I : Nat → Nat → Int32} {J : Nat → Nat → Int64} (hn : (lg_sl av).length ≤ 1) (h : qReader_takeActNumber_0 d mc ms (gReader_takeActNumber d mc ms K) K (lv_args 0 av) [] E R I J 0 0) : CL yReader_takeActNumber cReader_takeActNumber 1 (some .int) (d + 1) mc ms av E R I J K :=
  CL.of (by decide +kernel) hn (zReader_takeActNumber_0 (fun _ => Le.refl) _ _ _ _ _ _ _ _ h)
def qReader_takeStop_14 (d mc ms : Nat) (B : Nat → Pd) (K : Ps) : Pd := (i_ald 0 (i_getr 6 0 (i_ald 0 (i_geti 6 4 (i_ald 0 (i_geti 6 5 (i_ald 0 (i_geti 6 8 (i_ald 0 (i_geti 6 9 (i_ald 0 (i_geti 6 10 (i_call 0 3 yOrders_putLine cOrders_putLine 6 none mc ms d 6 (i_ci 0 (i_iret mc ms K)))))))))))))))
theorem zReader_takeStop_14 {d mc ms : Nat} {B : Nat → Pd} {K : Ps} (hB : ∀ pc, Le (B pc) (G cReader_takeStop "VoyageCompany$Reader" 1 (some .int) "takeStop" (rm (d + 1) mc ms) (QM mc ms K) pc)) : Le (qReader_takeStop_14 d mc ms B K) (G cReader_takeStop "VoyageCompany$Reader" 1 (some .int) "takeStop" (rm (d + 1) mc ms) (QM mc ms K) 14) := by
  unfold qReader_takeStop_14
  exact (s_ald_n (j := 0) (by decide +kernel) rfl (s_getr (idx := 12) (by decide +kernel) fl6_12 (by decide) (s_ald_n (j := 0) (by decide +kernel) rfl (s_geti (idx := 35) (by decide +kernel) fl6_35 (by decide) (s_ald_n (j := 0) (by decide +kernel) rfl (s_geti (idx := 86) (by decide +kernel) fl6_86 (by decide) (s_ald_n (j := 0) (by decide +kernel) rfl (s_geti (idx := 110) (by decide +kernel) fl6_110 (by decide) (s_ald_n (j := 0) (by decide +kernel) rfl (s_geti (idx := 113) (by decide +kernel) fl6_113 (by decide) (s_ald_n (j := 0) (by decide +kernel) rfl (s_geti (idx := 116) (by decide +kernel) fl6_116 (by decide) (s_call (idx := 123) (by decide +kernel) ml6_123 rmk (s_iconst (n := 0) (v := 0) (by decide +kernel) (by decide +kernel) (s_iret (by decide +kernel) rfl)))))))))))))))
def qReader_takeStop_11 (d mc ms : Nat) (B : Nat → Pd) (K : Ps) : Pd := (i_ci 10 (i_iret mc ms K))
theorem zReader_takeStop_11 {d mc ms : Nat} {B : Nat → Pd} {K : Ps} (hB : ∀ pc, Le (B pc) (G cReader_takeStop "VoyageCompany$Reader" 1 (some .int) "takeStop" (rm (d + 1) mc ms) (QM mc ms K) pc)) : Le (qReader_takeStop_11 d mc ms B K) (G cReader_takeStop "VoyageCompany$Reader" 1 (some .int) "takeStop" (rm (d + 1) mc ms) (QM mc ms K) 11) := by
  unfold qReader_takeStop_11
  exact (s_bipush (n := 10) (v := 10) (by decide +kernel) (by decide +kernel) (s_iret (by decide +kernel) rfl))
def qReader_takeStop_0 (d mc ms : Nat) (B : Nat → Pd) (K : Ps) : Pd := (i_ald 0 (i_getr 6 3 (i_geti 10 4 (i_ci 4 (i_ic_eq (qReader_takeStop_14 d mc ms B K) (qReader_takeStop_11 d mc ms B K))))))
theorem zReader_takeStop_0 {d mc ms : Nat} {B : Nat → Pd} {K : Ps} (hB : ∀ pc, Le (B pc) (G cReader_takeStop "VoyageCompany$Reader" 1 (some .int) "takeStop" (rm (d + 1) mc ms) (QM mc ms K) pc)) : Le (qReader_takeStop_0 d mc ms B K) (G cReader_takeStop "VoyageCompany$Reader" 1 (some .int) "takeStop" (rm (d + 1) mc ms) (QM mc ms K) 0) := by
  unfold qReader_takeStop_0
  exact (s_ald_n (j := 0) (by decide +kernel) rfl (s_getr (idx := 21) (by decide +kernel) fl6_21 (by decide) (s_geti (idx := 42) (by decide +kernel) fl6_42 (by decide) (s_iconst (n := 4) (v := 4) (by decide +kernel) (by decide +kernel) (s_ic_eq (off := 6) (tgt := 14) (by decide +kernel) (by decide) (zReader_takeStop_14 hB) (zReader_takeStop_11 hB))))))
/-- VoyageCompany$Reader.takeStop()I, at its places -/
def gReader_takeStop (d mc ms : Nat) (K : Ps) : Nat → Pd := G cReader_takeStop "VoyageCompany$Reader" 1 (some .int) "takeStop" (rm (d + 1) mc ms) (QM mc ms K)
theorem eReader_takeStop {d mc ms : Nat} {K : Ps} {av : List Value} {E : Nat → Prop} {R : Nat → Nat → Value} {I : Nat → Nat → Int32} {J : Nat → Nat → Int64} (hn : (lg_sl av).length ≤ 1) (h : qReader_takeStop_0 d mc ms (gReader_takeStop d mc ms K) K (lv_args 0 av) [] E R I J 0 0) : CL yReader_takeStop cReader_takeStop 1 (some .int) (d + 1) mc ms av E R I J K :=
  CL.of (by decide +kernel) hn (zReader_takeStop_0 (fun _ => Le.refl) _ _ _ _ _ _ _ _ h)

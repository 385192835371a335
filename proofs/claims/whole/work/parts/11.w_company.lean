theorem fl1_9 : FL "VoyageCompany$Company" 9 1 3 := ⟨by decide, by decide, by decide +kernel, by decide +kernel⟩
theorem fl1_18 : FL "VoyageCompany$Company" 18 1 4 := ⟨by decide, by decide, by decide +kernel, by decide +kernel⟩
theorem fl1_24 : FL "VoyageCompany$Company" 24 1 5 := ⟨by decide, by decide, by decide +kernel, by decide +kernel⟩
theorem fl1_33 : FL "VoyageCompany$Company" 33 1 6 := ⟨by decide, by decide, by decide +kernel, by decide +kernel⟩
theorem fl1_41 : FL "VoyageCompany$Company" 41 1 7 := ⟨by decide, by decide, by decide +kernel, by decide +kernel⟩
theorem fl1_48 : FL "VoyageCompany$Company" 48 1 8 := ⟨by decide, by decide, by decide +kernel, by decide +kernel⟩
theorem fl1_54 : FL "VoyageCompany$Company" 54 1 9 := ⟨by decide, by decide, by decide +kernel, by decide +kernel⟩
theorem fl1_58 : FL "VoyageCompany$Company" 58 1 0 := ⟨by decide, by decide, by decide +kernel, by decide +kernel⟩
theorem fl1_61 : FL "VoyageCompany$Company" 61 1 1 := ⟨by decide, by decide, by decide +kernel, by decide +kernel⟩
theorem fl1_64 : FL "VoyageCompany$Company" 64 1 2 := ⟨by decide, by decide, by decide +kernel, by decide +kernel⟩
theorem fl1_95 : FL "VoyageCompany$Company" 95 7 6 := ⟨by decide, by decide, by decide +kernel, by decide +kernel⟩
theorem fl1_98 : FL "VoyageCompany$Company" 98 5 1 := ⟨by decide, by decide, by decide +kernel, by decide +kernel⟩
theorem fl1_102 : FL "VoyageCompany$Company" 102 8 5 := ⟨by decide, by decide, by decide +kernel, by decide +kernel⟩
theorem fl1_105 : FL "VoyageCompany$Company" 105 7 4 := ⟨by decide, by decide, by decide +kernel, by decide +kernel⟩
theorem fl1_108 : FL "VoyageCompany$Company" 108 7 5 := ⟨by decide, by decide, by decide +kernel, by decide +kernel⟩
theorem fl1_111 : FL "VoyageCompany$Company" 111 4 0 := ⟨by decide, by decide, by decide +kernel, by decide +kernel⟩
theorem fl1_133 : FL "VoyageCompany$Company" 133 7 8 := ⟨by decide, by decide, by decide +kernel, by decide +kernel⟩
theorem fl1_136 : FL "VoyageCompany$Company" 136 7 9 := ⟨by decide, by decide, by decide +kernel, by decide +kernel⟩
theorem fl1_143 : FL "VoyageCompany$Company" 143 7 7 := ⟨by decide, by decide, by decide +kernel, by decide +kernel⟩
theorem fl1_150 : FL "VoyageCompany$Company" 150 5 6 := ⟨by decide, by decide, by decide +kernel, by decide +kernel⟩
theorem fl1_153 : FL "VoyageCompany$Company" 153 5 5 := ⟨by decide, by decide, by decide +kernel, by decide +kernel⟩
theorem fl1_162 : FL "VoyageCompany$Company" 162 5 0 := ⟨by decide, by decide, by decide +kernel, by decide +kernel⟩
theorem fl1_173 : FL "VoyageCompany$Company" 173 5 4 := ⟨by decide, by decide, by decide +kernel, by decide +kernel⟩
theorem fl1_180 : FL "VoyageCompany$Company" 180 5 3 := ⟨by decide, by decide, by decide +kernel, by decide +kernel⟩
theorem fl1_184 : FL "VoyageCompany$Company" 184 3 0 := ⟨by decide, by decide, by decide +kernel, by decide +kernel⟩
theorem fl1_193 : FL "VoyageCompany$Company" 193 3 4 := ⟨by decide, by decide, by decide +kernel, by decide +kernel⟩
theorem fl1_199 : FL "VoyageCompany$Company" 199 3 5 := ⟨by decide, by decide, by decide +kernel, by decide +kernel⟩
theorem fl1_206 : FL "VoyageCompany$Company" 206 3 6 := ⟨by decide, by decide, by decide +kernel, by decide +kernel⟩
theorem fl1_209 : FL "VoyageCompany$Company" 209 3 7 := ⟨by decide, by decide, by decide +kernel, by decide +kernel⟩
theorem fl1_216 : FL "VoyageCompany$Company" 216 5 2 := ⟨by decide, by decide, by decide +kernel, by decide +kernel⟩
theorem fl1_220 : FL "VoyageCompany$Company" 220 2 1 := ⟨by decide, by decide, by decide +kernel, by decide +kernel⟩
theorem fl1_233 : FL "VoyageCompany$Company" 233 3 1 := ⟨by decide, by decide, by decide +kernel, by decide +kernel⟩
theorem fl1_236 : FL "VoyageCompany$Company" 236 3 2 := ⟨by decide, by decide, by decide +kernel, by decide +kernel⟩
theorem fl1_239 : FL "VoyageCompany$Company" 239 3 3 := ⟨by decide, by decide, by decide +kernel, by decide +kernel⟩
theorem fl1_284 : FL "VoyageCompany$Company" 284 7 1 := ⟨by decide, by decide, by decide +kernel, by decide +kernel⟩
theorem ml1_17 : ML "VoyageCompany$Company" 17 1 9 yTape_new cTape_new 1 none 1 := by unfold ML; decide +kernel
theorem ml1_28 : ML "VoyageCompany$Company" 28 1 5 yPort_new cPort_new 3 none 2 := by unfold ML; decide +kernel
theorem ml1_37 : ML "VoyageCompany$Company" 37 1 7 yShip_new cShip_new 1 none 1 := by unfold ML; decide +kernel
theorem ml1_40 : ML "VoyageCompany$Company" 40 1 8 yStock_new cStock_new 1 none 1 := by unfold ML; decide +kernel
theorem ml1_47 : ML "VoyageCompany$Company" 47 1 0 yBooks_new cBooks_new 1 none 1 := by unfold ML; decide +kernel
theorem ml1_67 : ML "VoyageCompany$Company" 67 0 9 yTape_copyFrom cTape_copyFrom 2 none 2 := by unfold ML; decide +kernel
theorem ml1_71 : ML "VoyageCompany$Company" 71 0 5 yPort_copyFrom cPort_copyFrom 3 none 2 := by unfold ML; decide +kernel
theorem ml1_74 : ML "VoyageCompany$Company" 74 0 7 yShip_copyFrom cShip_copyFrom 2 none 2 := by unfold ML; decide +kernel
theorem ml1_77 : ML "VoyageCompany$Company" 77 0 8 yStock_copyFrom cStock_copyFrom 2 none 2 := by unfold ML; decide +kernel
theorem ml1_80 : ML "VoyageCompany$Company" 80 0 0 yBooks_copyFrom cBooks_copyFrom 2 none 2 := by unfold ML; decide +kernel
theorem ml1_83 : ML "VoyageCompany$Company" 83 0 1 yCompany_copyPages cCompany_copyPages 3 none 2 := by unfold ML; decide +kernel
theorem ml1_87 : ML "VoyageCompany$Company" 87 0 1 yCompany_pageOf cCompany_pageOf 2 (some (.object "VoyageCompany$Page")) 2 := by unfold ML; decide +kernel
theorem ml1_91 : ML "VoyageCompany$Company" 91 0 4 yPage_copyFrom cPage_copyFrom 2 none 2 := by unfold ML; decide +kernel
theorem ml1_94 : ML "VoyageCompany$Company" 94 1 4 yPage_new cPage_new 1 none 1 := by unfold ML; decide +kernel
theorem ml1_114 : ML "VoyageCompany$Company" 114 2 4 yPage_placeOf cPage_placeOf 2 (some .int) 2 := by unfold ML; decide +kernel
theorem ml1_118 : ML "VoyageCompany$Company" 118 0 1 yCompany_bringShips cCompany_bringShips 3 none 1 := by unfold ML; decide +kernel
theorem ml1_121 : ML "VoyageCompany$Company" 121 0 1 yCompany_bringLetters cCompany_bringLetters 4 none 1 := by unfold ML; decide +kernel
theorem ml1_124 : ML "VoyageCompany$Company" 124 0 1 yCompany_obeyOrders cCompany_obeyOrders 3 none 2 := by unfold ML; decide +kernel
theorem ml1_127 : ML "VoyageCompany$Company" 127 0 5 yPort_settlePrices cPort_settlePrices 2 none 1 := by unfold ML; decide +kernel
theorem ml1_130 : ML "VoyageCompany$Company" 130 0 1 yCompany_noteStores cCompany_noteStores 4 none 1 := by unfold ML; decide +kernel
theorem ml1_140 : ML "VoyageCompany$Company" 140 0 1 yCompany_writeOff cCompany_writeOff 3 none 2 := by unfold ML; decide +kernel
theorem ml1_146 : ML "VoyageCompany$Company" 146 0 0 yBooks_enter cBooks_enter 4 none 4 := by unfold ML; decide +kernel
theorem ml1_165 : ML "VoyageCompany$Company" 165 0 1 yCompany_firstShipAt cCompany_firstShipAt 3 (some (.object "VoyageCompany$Ship")) 2 := by unfold ML; decide +kernel
theorem ml1_169 : ML "VoyageCompany$Company" 169 0 1 yCompany_firstLineThatHolds cCompany_firstLineThatHolds 4 (some .int) 3 := by unfold ML; decide +kernel
theorem ml1_176 : ML "VoyageCompany$Company" 176 0 1 yCompany_obeyLine cCompany_obeyLine 7 none 4 := by unfold ML; decide +kernel
theorem ml1_189 : ML "VoyageCompany$Company" 189 0 1 yCompany_lineHolds cCompany_lineHolds 8 (some .boolean) 4 := by unfold ML; decide +kernel
theorem ml1_196 : ML "VoyageCompany$Company" 196 2 3 yOrders_testPlace cOrders_testPlace 2 (some .int) 2 := by unfold ML; decide +kernel
theorem ml1_202 : ML "VoyageCompany$Company" 202 0 1 yCompany_valueOf cCompany_valueOf 4 (some .int) 4 := by unfold ML; decide +kernel
theorem ml1_212 : ML "VoyageCompany$Company" 212 2 1 yCompany_compares cCompany_compares 3 (some .boolean) 3 := by unfold ML; decide +kernel
theorem ml1_225 : ML "VoyageCompany$Company" 225 0 1 yCompany_shipsAt cCompany_shipsAt 4 (some .int) 2 := by unfold ML; decide +kernel
theorem ml1_229 : ML "VoyageCompany$Company" 229 0 7 yShip_room cShip_room 3 (some .int) 1 := by unfold ML; decide +kernel
theorem ml1_242 : ML "VoyageCompany$Company" 242 0 1 yCompany_buyBales cCompany_buyBales 6 none 4 := by unfold ML; decide +kernel
theorem ml1_246 : ML "VoyageCompany$Company" 246 0 1 yCompany_sellBales cCompany_sellBales 6 none 4 := by unfold ML; decide +kernel
theorem ml1_249 : ML "VoyageCompany$Company" 249 0 1 yCompany_orderShip cCompany_orderShip 6 none 6 := by unfold ML; decide +kernel
theorem ml1_253 : ML "VoyageCompany$Company" 253 2 0 yJmath_min cJmath_min 2 (some .int) 2 := by unfold ML; decide +kernel
theorem ml1_258 : ML "VoyageCompany$Company" 258 0 7 yShip_takeIn cShip_takeIn 5 none 4 := by unfold ML; decide +kernel
theorem ml1_262 : ML "VoyageCompany$Company" 262 0 7 yShip_discharge cShip_discharge 3 none 2 := by unfold ML; decide +kernel
theorem ml1_266 : ML "VoyageCompany$Company" 266 0 1 yCompany_windsAllow cCompany_windsAllow 5 (some .boolean) 3 := by unfold ML; decide +kernel
theorem ml1_270 : ML "VoyageCompany$Company" 270 0 1 yCompany_buyForMaster cCompany_buyForMaster 5 none 3 := by unfold ML; decide +kernel
theorem ml1_274 : ML "VoyageCompany$Company" 274 0 7 yShip_leaveFor cShip_leaveFor 3 none 3 := by unfold ML; decide +kernel
theorem ml1_278 : ML "VoyageCompany$Company" 278 0 2 yMarket_countBought cMarket_countBought 1 none 1 := by unfold ML; decide +kernel
theorem ml1_281 : ML "VoyageCompany$Company" 281 0 2 yMarket_countSold cMarket_countSold 1 none 1 := by unfold ML; decide +kernel
def qCompany_new_89 (d mc ms : Nat) (B : Nat → Pd) (K : Ps) : Pd := (i_ald 0 (i_new 8 mc ms (i_dup (i_callA 1 8 yStock_new cStock_new 1 none mc ms d 1 (i_putr 1 7 (i_ald 0 (i_new 0 mc ms (i_dup (i_callA 1 0 yBooks_new cBooks_new 1 none mc ms d 1 (i_putr 1 8 (i_ald 0 (i_ci 10 (i_newq 19 mc ms (i_putr 1 9 (i_vret mc ms K)))))))))))))))
theorem zCompany_new_89 {d mc ms : Nat} {B : Nat → Pd} {K : Ps} (hB : ∀ pc, Le (B pc) (G cCompany_new "VoyageCompany$Company" 2 none "<init>" (rm (d + 1) mc ms) (QM mc ms K) pc)) : Le (qCompany_new_89 d mc ms B K) (G cCompany_new "VoyageCompany$Company" 2 none "<init>" (rm (d + 1) mc ms) (QM mc ms K) 89) := by
  unfold qCompany_new_89
  exact (s_ald_n (j := 0) (by decide +kernel) rfl (s_new (idx := 38) (by decide +kernel) (by decide) (lw_gm (by decide +kernel) (by decide +kernel)) rmn (s_dup (by decide +kernel) (s_callA (idx := 40) (by decide +kernel) ml1_40 rmk (s_putr (idx := 41) (by decide +kernel) fl1_41 (by decide) (by decide) (Or.inr ⟨rfl, by decide +kernel, by decide +kernel⟩) (s_ald_n (j := 0) (by decide +kernel) rfl (s_new (idx := 45) (by decide +kernel) (by decide) (lw_gm (by decide +kernel) (by decide +kernel)) rmn (s_dup (by decide +kernel) (s_callA (idx := 47) (by decide +kernel) ml1_47 rmk (s_putr (idx := 48) (by decide +kernel) fl1_48 (by decide) (by decide) (Or.inr ⟨rfl, by decide +kernel, by decide +kernel⟩) (s_ald_n (j := 0) (by decide +kernel) rfl (s_bipush (n := 10) (v := 10) (by decide +kernel) (by decide +kernel) (s_newq (ci := 4) (idx := 52) (by decide +kernel) (by decide +kernel) (lw_gm (by decide +kernel) (by decide +kernel)) rmn (s_putr (idx := 54) (by decide +kernel) fl1_54 (by decide) (by decide) (Or.inr ⟨rfl, by decide +kernel, by decide +kernel⟩) (s_vret (by decide +kernel) rfl)))))))))))))))
def qCompany_new_70 (d mc ms : Nat) (B : Nat → Pd) (K : Ps) : Pd := (i_ald 0 (i_getr 1 6 (i_ild 1 (i_new 7 mc ms (i_dup (i_callA 1 7 yShip_new cShip_new 1 none mc ms d 1 (i_aast 21 7 (i_inc 1 1 (B 65)))))))))
theorem zCompany_new_70 {d mc ms : Nat} {B : Nat → Pd} {K : Ps} (hB : ∀ pc, Le (B pc) (G cCompany_new "VoyageCompany$Company" 2 none "<init>" (rm (d + 1) mc ms) (QM mc ms K) pc)) : Le (qCompany_new_70 d mc ms B K) (G cCompany_new "VoyageCompany$Company" 2 none "<init>" (rm (d + 1) mc ms) (QM mc ms K) 70) := by
  unfold qCompany_new_70
  exact (s_ald_n (j := 0) (by decide +kernel) rfl (s_getr (idx := 33) (by decide +kernel) fl1_33 (by decide) (s_ild_n (j := 1) (by decide +kernel) rfl (s_new (idx := 31) (by decide +kernel) (by decide) (lw_gm (by decide +kernel) (by decide +kernel)) rmn (s_dup (by decide +kernel) (s_callA (idx := 37) (by decide +kernel) ml1_37 rmk (s_aast (by decide +kernel) (by decide +kernel) (s_inc (z := 1) (by decide +kernel) (by decide +kernel) (by decide) (s_goto (off := (-21)) (tgt := 65) (by decide +kernel) (by decide) (hB 65))))))))))
def qCompany_new_65 (d mc ms : Nat) (B : Nat → Pd) (K : Ps) : Pd := (i_ild 1 (i_ci 4 (i_ic_ge (qCompany_new_89 d mc ms B K) (qCompany_new_70 d mc ms B K))))
theorem zCompany_new_65 {d mc ms : Nat} {B : Nat → Pd} {K : Ps} (hB : ∀ pc, Le (B pc) (G cCompany_new "VoyageCompany$Company" 2 none "<init>" (rm (d + 1) mc ms) (QM mc ms K) pc)) : Le (qCompany_new_65 d mc ms B K) (G cCompany_new "VoyageCompany$Company" 2 none "<init>" (rm (d + 1) mc ms) (QM mc ms K) 65) := by
  unfold qCompany_new_65
  exact (s_ild_n (j := 1) (by decide +kernel) rfl (s_iconst (n := 4) (v := 4) (by decide +kernel) (by decide +kernel) (s_ic_ge (off := 22) (tgt := 89) (by decide +kernel) (by decide) (zCompany_new_89 hB) (zCompany_new_70 hB))))
def qCompany_new_55 (d mc ms : Nat) (B : Nat → Pd) (K : Ps) : Pd := (i_ald 0 (i_ci 4 (i_newq 21 mc ms (i_putr 1 6 (i_ci 0 (i_ist 1 (B 65)))))))
theorem zCompany_new_55 {d mc ms : Nat} {B : Nat → Pd} {K : Ps} (hB : ∀ pc, Le (B pc) (G cCompany_new "VoyageCompany$Company" 2 none "<init>" (rm (d + 1) mc ms) (QM mc ms K) pc)) : Le (qCompany_new_55 d mc ms B K) (G cCompany_new "VoyageCompany$Company" 2 none "<init>" (rm (d + 1) mc ms) (QM mc ms K) 55) := by
  unfold qCompany_new_55
  exact (s_ald_n (j := 0) (by decide +kernel) rfl (s_iconst (n := 4) (v := 4) (by decide +kernel) (by decide +kernel) (s_newq (ci := 7) (idx := 31) (by decide +kernel) (by decide +kernel) (lw_gm (by decide +kernel) (by decide +kernel)) rmn (s_putr (idx := 33) (by decide +kernel) fl1_33 (by decide) (by decide) (Or.inr ⟨rfl, by decide +kernel, by decide +kernel⟩) (s_iconst (n := 0) (v := 0) (by decide +kernel) (by decide +kernel) (s_ist_n (j := 1) (by decide +kernel) rfl (by decide) (hB 65)))))))
def qCompany_new_35 (d mc ms : Nat) (B : Nat → Pd) (K : Ps) : Pd := (i_ald 0 (i_getr 1 5 (i_ild 1 (i_new 5 mc ms (i_dup (i_ild 1 (i_callA 1 5 yPort_new cPort_new 3 none mc ms d 2 (i_aast 20 5 (i_inc 1 1 (B 30))))))))))
theorem zCompany_new_35 {d mc ms : Nat} {B : Nat → Pd} {K : Ps} (hB : ∀ pc, Le (B pc) (G cCompany_new "VoyageCompany$Company" 2 none "<init>" (rm (d + 1) mc ms) (QM mc ms K) pc)) : Le (qCompany_new_35 d mc ms B K) (G cCompany_new "VoyageCompany$Company" 2 none "<init>" (rm (d + 1) mc ms) (QM mc ms K) 35) := by
  unfold qCompany_new_35
  exact (s_ald_n (j := 0) (by decide +kernel) rfl (s_getr (idx := 24) (by decide +kernel) fl1_24 (by decide) (s_ild_n (j := 1) (by decide +kernel) rfl (s_new (idx := 22) (by decide +kernel) (by decide) (lw_gm (by decide +kernel) (by decide +kernel)) rmn (s_dup (by decide +kernel) (s_ild_n (j := 1) (by decide +kernel) rfl (s_callA (idx := 28) (by decide +kernel) ml1_28 rmk (s_aast (by decide +kernel) (by decide +kernel) (s_inc (z := 1) (by decide +kernel) (by decide +kernel) (by decide) (s_goto (off := (-22)) (tgt := 30) (by decide +kernel) (by decide) (hB 30)))))))))))
def qCompany_new_30 (d mc ms : Nat) (B : Nat → Pd) (K : Ps) : Pd := (i_ild 1 (i_ci 5 (i_ic_ge (qCompany_new_55 d mc ms B K) (qCompany_new_35 d mc ms B K))))
theorem zCompany_new_30 {d mc ms : Nat} {B : Nat → Pd} {K : Ps} (hB : ∀ pc, Le (B pc) (G cCompany_new "VoyageCompany$Company" 2 none "<init>" (rm (d + 1) mc ms) (QM mc ms K) pc)) : Le (qCompany_new_30 d mc ms B K) (G cCompany_new "VoyageCompany$Company" 2 none "<init>" (rm (d + 1) mc ms) (QM mc ms K) 30) := by
  unfold qCompany_new_30
  exact (s_ild_n (j := 1) (by decide +kernel) rfl (s_iconst (n := 5) (v := 5) (by decide +kernel) (by decide +kernel) (s_ic_ge (off := 23) (tgt := 55) (by decide +kernel) (by decide) (zCompany_new_55 hB) (zCompany_new_35 hB))))
def qCompany_new_0 (d mc ms : Nat) (B : Nat → Pd) (K : Ps) : Pd := (i_ald 0 (i_obj (i_ald 0 (i_ci (-1) (i_puti 1 3 (i_ald 0 (i_new 9 mc ms (i_dup (i_callA 1 9 yTape_new cTape_new 1 none mc ms d 1 (i_putr 1 4 (i_ald 0 (i_ci 5 (i_newq 20 mc ms (i_putr 1 5 (i_ci 0 (i_ist 1 (B 30)))))))))))))))))
theorem zCompany_new_0 {d mc ms : Nat} {B : Nat → Pd} {K : Ps} (hB : ∀ pc, Le (B pc) (G cCompany_new "VoyageCompany$Company" 2 none "<init>" (rm (d + 1) mc ms) (QM mc ms K) pc)) : Le (qCompany_new_0 d mc ms B K) (G cCompany_new "VoyageCompany$Company" 2 none "<init>" (rm (d + 1) mc ms) (QM mc ms K) 0) := by
  unfold qCompany_new_0
  exact (s_ald_n (j := 0) (by decide +kernel) rfl (s_obj (idx := 3) (by decide +kernel) (lw_gm (by decide +kernel) (by decide +kernel)) rmo (s_ald_n (j := 0) (by decide +kernel) rfl (s_iconst (n := (-1)) (v := (-1)) (by decide +kernel) (by decide +kernel) (s_puti (idx := 9) (by decide +kernel) fl1_9 (by decide) (by decide) (Or.inl (by decide +kernel)) (s_ald_n (j := 0) (by decide +kernel) rfl (s_new (idx := 15) (by decide +kernel) (by decide) (lw_gm (by decide +kernel) (by decide +kernel)) rmn (s_dup (by decide +kernel) (s_callA (idx := 17) (by decide +kernel) ml1_17 rmk (s_putr (idx := 18) (by decide +kernel) fl1_18 (by decide) (by decide) (Or.inr ⟨rfl, by decide +kernel, by decide +kernel⟩) (s_ald_n (j := 0) (by decide +kernel) rfl (s_iconst (n := 5) (v := 5) (by decide +kernel) (by decide +kernel) (s_newq (ci := 5) (idx := 22) (by decide +kernel) (by decide +kernel) (lw_gm (by decide +kernel) (by decide +kernel)) rmn (s_putr (idx := 24) (by decide +kernel) fl1_24 (by decide) (by decide) (Or.inr ⟨rfl, by decide +kernel, by decide +kernel⟩) (s_iconst (n := 0) (v := 0) (by decide +kernel) (by decide +kernel) (s_ist_n (j := 1) (by decide +kernel) rfl (by decide) (hB 30)))))))))))))))))
/-- VoyageCompany$Company.<init>()V, at its places -/
def gCompany_new (d mc ms : Nat) (K : Ps) : Nat → Pd := G cCompany_new "VoyageCompany$Company" 2 none "<init>" (rm (d + 1) mc ms) (QM mc ms K)
theorem eCompany_new {d mc ms : Nat} {K : Ps} {av : List Value} {E : Nat → Prop} {R : Nat → Nat → Value} {I : Nat → Nat → Int32} {J : Nat → Nat → Int64} (hn : (lg_sl av).length ≤ 2) (h : qCompany_new_0 d mc ms (gCompany_new d mc ms K) K (lv_args 0 av) [] E R I J 0 0) : CL yCompany_new cCompany_new 2 none (d + 1) mc ms av E R I J K :=
  CL.of (by decide +kernel) hn (zCompany_new_0 (fun _ => Le.refl) _ _ _ _ _ _ _ _ h)
theorem lCompany_new_30 {d mc ms : Nat} {K : Ps} : Le (qCompany_new_30 d mc ms (gCompany_new d mc ms K) K) (gCompany_new d mc ms K 30) := zCompany_new_30 (fun _ => Le.refl)
theorem lCompany_new_65 {d mc ms : Nat} {K : Ps} : Le (qCompany_new_65 d mc ms (gCompany_new d mc ms K) K) (gCompany_new d mc ms K 65) := zCompany_new_65 (fun _ => Le.refl)
def qCompany_copyFrom_99 (d mc ms : Nat) (B : Nat → Pd) (K : Ps) : Pd := (i_ald 0 (i_getr 1 7 (i_ald 1 (i_getr 1 7 (i_call 0 8 yStock_copyFrom cStock_copyFrom 2 none mc ms d 2 (i_ald 0 (i_getr 1 8 (i_ald 1 (i_getr 1 8 (i_call 0 0 yBooks_copyFrom cBooks_copyFrom 2 none mc ms d 2 (i_ald 0 (i_ald 1 (i_callA 0 1 yCompany_copyPages cCompany_copyPages 3 none mc ms d 2 (i_vret mc ms K))))))))))))))
theorem zCompany_copyFrom_99 {d mc ms : Nat} {B : Nat → Pd} {K : Ps} (hB : ∀ pc, Le (B pc) (G cCompany_copyFrom "VoyageCompany$Company" 3 none "copyFrom" (rm (d + 1) mc ms) (QM mc ms K) pc)) : Le (qCompany_copyFrom_99 d mc ms B K) (G cCompany_copyFrom "VoyageCompany$Company" 3 none "copyFrom" (rm (d + 1) mc ms) (QM mc ms K) 99) := by
  unfold qCompany_copyFrom_99
  exact (s_ald_n (j := 0) (by decide +kernel) rfl (s_getr (idx := 41) (by decide +kernel) fl1_41 (by decide) (s_ald_n (j := 1) (by decide +kernel) rfl (s_getr (idx := 41) (by decide +kernel) fl1_41 (by decide) (s_call (idx := 77) (by decide +kernel) ml1_77 rmk (s_ald_n (j := 0) (by decide +kernel) rfl (s_getr (idx := 48) (by decide +kernel) fl1_48 (by decide) (s_ald_n (j := 1) (by decide +kernel) rfl (s_getr (idx := 48) (by decide +kernel) fl1_48 (by decide) (s_call (idx := 80) (by decide +kernel) ml1_80 rmk (s_ald_n (j := 0) (by decide +kernel) rfl (s_ald_n (j := 1) (by decide +kernel) rfl (s_callA (idx := 83) (by decide +kernel) ml1_83 rmk (s_vret (by decide +kernel) rfl))))))))))))))
def qCompany_copyFrom_78 (d mc ms : Nat) (B : Nat → Pd) (K : Ps) : Pd := (i_ald 0 (i_getr 1 6 (i_ild 2 (i_aald (i_ald 1 (i_getr 1 6 (i_ild 2 (i_aald (i_call 0 7 yShip_copyFrom cShip_copyFrom 2 none mc ms d 2 (i_inc 2 1 (B 73)))))))))))
theorem zCompany_copyFrom_78 {d mc ms : Nat} {B : Nat → Pd} {K : Ps} (hB : ∀ pc, Le (B pc) (G cCompany_copyFrom "VoyageCompany$Company" 3 none "copyFrom" (rm (d + 1) mc ms) (QM mc ms K) pc)) : Le (qCompany_copyFrom_78 d mc ms B K) (G cCompany_copyFrom "VoyageCompany$Company" 3 none "copyFrom" (rm (d + 1) mc ms) (QM mc ms K) 78) := by
  unfold qCompany_copyFrom_78
  exact (s_ald_n (j := 0) (by decide +kernel) rfl (s_getr (idx := 33) (by decide +kernel) fl1_33 (by decide) (s_ild_n (j := 2) (by decide +kernel) rfl (s_aald (by decide +kernel) (s_ald_n (j := 1) (by decide +kernel) rfl (s_getr (idx := 33) (by decide +kernel) fl1_33 (by decide) (s_ild_n (j := 2) (by decide +kernel) rfl (s_aald (by decide +kernel) (s_call (idx := 74) (by decide +kernel) ml1_74 rmk (s_inc (z := 1) (by decide +kernel) (by decide +kernel) (by decide) (s_goto (off := (-23)) (tgt := 73) (by decide +kernel) (by decide) (hB 73))))))))))))
def qCompany_copyFrom_73 (d mc ms : Nat) (B : Nat → Pd) (K : Ps) : Pd := (i_ild 2 (i_ci 4 (i_ic_ge (qCompany_copyFrom_99 d mc ms B K) (qCompany_copyFrom_78 d mc ms B K))))
theorem zCompany_copyFrom_73 {d mc ms : Nat} {B : Nat → Pd} {K : Ps} (hB : ∀ pc, Le (B pc) (G cCompany_copyFrom "VoyageCompany$Company" 3 none "copyFrom" (rm (d + 1) mc ms) (QM mc ms K) pc)) : Le (qCompany_copyFrom_73 d mc ms B K) (G cCompany_copyFrom "VoyageCompany$Company" 3 none "copyFrom" (rm (d + 1) mc ms) (QM mc ms K) 73) := by
  unfold qCompany_copyFrom_73
  exact (s_ild_n (j := 2) (by decide +kernel) rfl (s_iconst (n := 4) (v := 4) (by decide +kernel) (by decide +kernel) (s_ic_ge (off := 24) (tgt := 99) (by decide +kernel) (by decide) (zCompany_copyFrom_99 hB) (zCompany_copyFrom_78 hB))))
def qCompany_copyFrom_71 (d mc ms : Nat) (B : Nat → Pd) (K : Ps) : Pd := (i_ci 0 (i_ist 2 (B 73)))
theorem zCompany_copyFrom_71 {d mc ms : Nat} {B : Nat → Pd} {K : Ps} (hB : ∀ pc, Le (B pc) (G cCompany_copyFrom "VoyageCompany$Company" 3 none "copyFrom" (rm (d + 1) mc ms) (QM mc ms K) pc)) : Le (qCompany_copyFrom_71 d mc ms B K) (G cCompany_copyFrom "VoyageCompany$Company" 3 none "copyFrom" (rm (d + 1) mc ms) (QM mc ms K) 71) := by
  unfold qCompany_copyFrom_71
  exact (s_iconst (n := 0) (v := 0) (by decide +kernel) (by decide +kernel) (s_ist_n (j := 2) (by decide +kernel) rfl (by decide) (hB 73)))
def qCompany_copyFrom_50 (d mc ms : Nat) (B : Nat → Pd) (K : Ps) : Pd := (i_ald 0 (i_getr 1 5 (i_ild 2 (i_aald (i_ald 1 (i_getr 1 5 (i_ild 2 (i_aald (i_call 0 5 yPort_copyFrom cPort_copyFrom 3 none mc ms d 2 (i_inc 2 1 (B 45)))))))))))
theorem zCompany_copyFrom_50 {d mc ms : Nat} {B : Nat → Pd} {K : Ps} (hB : ∀ pc, Le (B pc) (G cCompany_copyFrom "VoyageCompany$Company" 3 none "copyFrom" (rm (d + 1) mc ms) (QM mc ms K) pc)) : Le (qCompany_copyFrom_50 d mc ms B K) (G cCompany_copyFrom "VoyageCompany$Company" 3 none "copyFrom" (rm (d + 1) mc ms) (QM mc ms K) 50) := by
  unfold qCompany_copyFrom_50
  exact (s_ald_n (j := 0) (by decide +kernel) rfl (s_getr (idx := 24) (by decide +kernel) fl1_24 (by decide) (s_ild_n (j := 2) (by decide +kernel) rfl (s_aald (by decide +kernel) (s_ald_n (j := 1) (by decide +kernel) rfl (s_getr (idx := 24) (by decide +kernel) fl1_24 (by decide) (s_ild_n (j := 2) (by decide +kernel) rfl (s_aald (by decide +kernel) (s_call (idx := 71) (by decide +kernel) ml1_71 rmk (s_inc (z := 1) (by decide +kernel) (by decide +kernel) (by decide) (s_goto (off := (-23)) (tgt := 45) (by decide +kernel) (by decide) (hB 45))))))))))))
def qCompany_copyFrom_45 (d mc ms : Nat) (B : Nat → Pd) (K : Ps) : Pd := (i_ild 2 (i_ci 5 (i_ic_ge (qCompany_copyFrom_71 d mc ms B K) (qCompany_copyFrom_50 d mc ms B K))))
theorem zCompany_copyFrom_45 {d mc ms : Nat} {B : Nat → Pd} {K : Ps} (hB : ∀ pc, Le (B pc) (G cCompany_copyFrom "VoyageCompany$Company" 3 none "copyFrom" (rm (d + 1) mc ms) (QM mc ms K) pc)) : Le (qCompany_copyFrom_45 d mc ms B K) (G cCompany_copyFrom "VoyageCompany$Company" 3 none "copyFrom" (rm (d + 1) mc ms) (QM mc ms K) 45) := by
  unfold qCompany_copyFrom_45
  exact (s_ild_n (j := 2) (by decide +kernel) rfl (s_iconst (n := 5) (v := 5) (by decide +kernel) (by decide +kernel) (s_ic_ge (off := 24) (tgt := 71) (by decide +kernel) (by decide) (zCompany_copyFrom_71 hB) (zCompany_copyFrom_50 hB))))
def qCompany_copyFrom_0 (d mc ms : Nat) (B : Nat → Pd) (K : Ps) : Pd := (i_ald 0 (i_ald 1 (i_geti 1 0 (i_puti 1 0 (i_ald 0 (i_ald 1 (i_geti 1 1 (i_puti 1 1 (i_ald 0 (i_ald 1 (i_geti 1 2 (i_puti 1 2 (i_ald 0 (i_ald 1 (i_geti 1 3 (i_puti 1 3 (i_ald 0 (i_getr 1 4 (i_ald 1 (i_getr 1 4 (i_call 0 9 yTape_copyFrom cTape_copyFrom 2 none mc ms d 2 (i_ci 0 (i_ist 2 (B 45))))))))))))))))))))))))
theorem zCompany_copyFrom_0 {d mc ms : Nat} {B : Nat → Pd} {K : Ps} (hB : ∀ pc, Le (B pc) (G cCompany_copyFrom "VoyageCompany$Company" 3 none "copyFrom" (rm (d + 1) mc ms) (QM mc ms K) pc)) : Le (qCompany_copyFrom_0 d mc ms B K) (G cCompany_copyFrom "VoyageCompany$Company" 3 none "copyFrom" (rm (d + 1) mc ms) (QM mc ms K) 0) := by
  unfold qCompany_copyFrom_0
  exact (s_ald_n (j := 0) (by decide +kernel) rfl (s_ald_n (j := 1) (by decide +kernel) rfl (s_geti (idx := 58) (by decide +kernel) fl1_58 (by decide) (s_puti (idx := 58) (by decide +kernel) fl1_58 (by decide) (by decide) (Or.inl (by decide +kernel)) (s_ald_n (j := 0) (by decide +kernel) rfl (s_ald_n (j := 1) (by decide +kernel) rfl (s_geti (idx := 61) (by decide +kernel) fl1_61 (by decide) (s_puti (idx := 61) (by decide +kernel) fl1_61 (by decide) (by decide) (Or.inl (by decide +kernel)) (s_ald_n (j := 0) (by decide +kernel) rfl (s_ald_n (j := 1) (by decide +kernel) rfl (s_geti (idx := 64) (by decide +kernel) fl1_64 (by decide) (s_puti (idx := 64) (by decide +kernel) fl1_64 (by decide) (by decide) (Or.inl (by decide +kernel)) (s_ald_n (j := 0) (by decide +kernel) rfl (s_ald_n (j := 1) (by decide +kernel) rfl (s_geti (idx := 9) (by decide +kernel) fl1_9 (by decide) (s_puti (idx := 9) (by decide +kernel) fl1_9 (by decide) (by decide) (Or.inl (by decide +kernel)) (s_ald_n (j := 0) (by decide +kernel) rfl (s_getr (idx := 18) (by decide +kernel) fl1_18 (by decide) (s_ald_n (j := 1) (by decide +kernel) rfl (s_getr (idx := 18) (by decide +kernel) fl1_18 (by decide) (s_call (idx := 67) (by decide +kernel) ml1_67 rmk (s_iconst (n := 0) (v := 0) (by decide +kernel) (by decide +kernel) (s_ist_n (j := 2) (by decide +kernel) rfl (by decide) (hB 45))))))))))))))))))))))))
/-- VoyageCompany$Company.copyFrom(LVoyageCompany$Company;)V, at its places -/
def gCompany_copyFrom (d mc ms : Nat) (K : Ps) : Nat → Pd := G cCompany_copyFrom "VoyageCompany$Company" 3 none "copyFrom" (rm (d + 1) mc ms) (QM mc ms K)
theorem eCompany_copyFrom {d mc ms : Nat} {K : Ps} {av : List Value} {E : Nat → Prop} {R : Nat → Nat → Value} {I : Nat → Nat → Int32} {J : Nat → Nat → Int64} (hn : (lg_sl av).length ≤ 3) (h : qCompany_copyFrom_0 d mc ms (gCompany_copyFrom d mc ms K) K (lv_args 0 av) [] E R I J 0 0) : CL yCompany_copyFrom cCompany_copyFrom 3 none (d + 1) mc ms av E R I J K :=
  CL.of (by decide +kernel) hn (zCompany_copyFrom_0 (fun _ => Le.refl) _ _ _ _ _ _ _ _ h)
theorem lCompany_copyFrom_45 {d mc ms : Nat} {K : Ps} : Le (qCompany_copyFrom_45 d mc ms (gCompany_copyFrom d mc ms K) K) (gCompany_copyFrom d mc ms K 45) := zCompany_copyFrom_45 (fun _ => Le.refl)
theorem lCompany_copyFrom_73 {d mc ms : Nat} {K : Ps} : Le (qCompany_copyFrom_73 d mc ms (gCompany_copyFrom d mc ms K) K) (gCompany_copyFrom d mc ms K 73) := zCompany_copyFrom_73 (fun _ => Le.refl)
def qCompany_copyPages_51 (d mc ms : Nat) (B : Nat → Pd) (K : Ps) : Pd := (i_vret mc ms K)
theorem zCompany_copyPages_51 {d mc ms : Nat} {B : Nat → Pd} {K : Ps} (hB : ∀ pc, Le (B pc) (G cCompany_copyPages "VoyageCompany$Company" 3 none "copyPages" (rm (d + 1) mc ms) (QM mc ms K) pc)) : Le (qCompany_copyPages_51 d mc ms B K) (G cCompany_copyPages "VoyageCompany$Company" 3 none "copyPages" (rm (d + 1) mc ms) (QM mc ms K) 51) := by
  unfold qCompany_copyPages_51
  exact (s_vret (by decide +kernel) rfl)
def qCompany_copyPages_45 (d mc ms : Nat) (B : Nat → Pd) (K : Ps) : Pd := (i_inc 2 1 (B 2))
theorem zCompany_copyPages_45 {d mc ms : Nat} {B : Nat → Pd} {K : Ps} (hB : ∀ pc, Le (B pc) (G cCompany_copyPages "VoyageCompany$Company" 3 none "copyPages" (rm (d + 1) mc ms) (QM mc ms K) pc)) : Le (qCompany_copyPages_45 d mc ms B K) (G cCompany_copyPages "VoyageCompany$Company" 3 none "copyPages" (rm (d + 1) mc ms) (QM mc ms K) 45) := by
  unfold qCompany_copyPages_45
  exact (s_inc (z := 1) (by decide +kernel) (by decide +kernel) (by decide) (s_goto (off := (-46)) (tgt := 2) (by decide +kernel) (by decide) (hB 2)))
def qCompany_copyPages_31 (d mc ms : Nat) (B : Nat → Pd) (K : Ps) : Pd := (i_ald 0 (i_ild 2 (i_callA 0 1 yCompany_pageOf cCompany_pageOf 2 (some (.object "VoyageCompany$Page")) mc ms d 2 (i_ald 1 (i_getr 1 9 (i_ild 2 (i_aald (i_call 0 4 yPage_copyFrom cPage_copyFrom 2 none mc ms d 2 (qCompany_copyPages_45 d mc ms B K)))))))))
theorem zCompany_copyPages_31 {d mc ms : Nat} {B : Nat → Pd} {K : Ps} (hB : ∀ pc, Le (B pc) (G cCompany_copyPages "VoyageCompany$Company" 3 none "copyPages" (rm (d + 1) mc ms) (QM mc ms K) pc)) : Le (qCompany_copyPages_31 d mc ms B K) (G cCompany_copyPages "VoyageCompany$Company" 3 none "copyPages" (rm (d + 1) mc ms) (QM mc ms K) 31) := by
  unfold qCompany_copyPages_31
  exact (s_ald_n (j := 0) (by decide +kernel) rfl (s_ild_n (j := 2) (by decide +kernel) rfl (s_callA (idx := 87) (by decide +kernel) ml1_87 rmk (s_ald_n (j := 1) (by decide +kernel) rfl (s_getr (idx := 54) (by decide +kernel) fl1_54 (by decide) (s_ild_n (j := 2) (by decide +kernel) rfl (s_aald (by decide +kernel) (s_call (idx := 91) (by decide +kernel) ml1_91 rmk (zCompany_copyPages_45 hB)))))))))
def qCompany_copyPages_22 (d mc ms : Nat) (B : Nat → Pd) (K : Ps) : Pd := (i_ald 1 (i_getr 1 9 (i_ild 2 (i_aald (i_ifnull (qCompany_copyPages_45 d mc ms B K) (qCompany_copyPages_31 d mc ms B K))))))
theorem zCompany_copyPages_22 {d mc ms : Nat} {B : Nat → Pd} {K : Ps} (hB : ∀ pc, Le (B pc) (G cCompany_copyPages "VoyageCompany$Company" 3 none "copyPages" (rm (d + 1) mc ms) (QM mc ms K) pc)) : Le (qCompany_copyPages_22 d mc ms B K) (G cCompany_copyPages "VoyageCompany$Company" 3 none "copyPages" (rm (d + 1) mc ms) (QM mc ms K) 22) := by
  unfold qCompany_copyPages_22
  exact (s_ald_n (j := 1) (by decide +kernel) rfl (s_getr (idx := 54) (by decide +kernel) fl1_54 (by decide) (s_ild_n (j := 2) (by decide +kernel) rfl (s_aald (by decide +kernel) (s_ifnull (off := 17) (tgt := 45) (by decide +kernel) (by decide) (zCompany_copyPages_45 hB) (zCompany_copyPages_31 hB))))))
def qCompany_copyPages_11 (d mc ms : Nat) (B : Nat → Pd) (K : Ps) : Pd := (i_ild 2 (i_ci 60 (i_imul (i_ald 0 (i_geti 1 0 (i_ic_ge (qCompany_copyPages_51 d mc ms B K) (qCompany_copyPages_22 d mc ms B K)))))))
theorem zCompany_copyPages_11 {d mc ms : Nat} {B : Nat → Pd} {K : Ps} (hB : ∀ pc, Le (B pc) (G cCompany_copyPages "VoyageCompany$Company" 3 none "copyPages" (rm (d + 1) mc ms) (QM mc ms K) pc)) : Le (qCompany_copyPages_11 d mc ms B K) (G cCompany_copyPages "VoyageCompany$Company" 3 none "copyPages" (rm (d + 1) mc ms) (QM mc ms K) 11) := by
  unfold qCompany_copyPages_11
  exact (s_ild_n (j := 2) (by decide +kernel) rfl (s_bipush (n := 60) (v := 60) (by decide +kernel) (by decide +kernel) (s_imul (by decide +kernel) (s_ald_n (j := 0) (by decide +kernel) rfl (s_geti (idx := 58) (by decide +kernel) fl1_58 (by decide) (s_ic_ge (off := 32) (tgt := 51) (by decide +kernel) (by decide) (zCompany_copyPages_51 hB) (zCompany_copyPages_22 hB)))))))
def qCompany_copyPages_2 (d mc ms : Nat) (B : Nat → Pd) (K : Ps) : Pd := (i_ild 2 (i_ald 0 (i_getr 1 9 (i_alen (i_ic_ge (qCompany_copyPages_51 d mc ms B K) (qCompany_copyPages_11 d mc ms B K))))))
theorem zCompany_copyPages_2 {d mc ms : Nat} {B : Nat → Pd} {K : Ps} (hB : ∀ pc, Le (B pc) (G cCompany_copyPages "VoyageCompany$Company" 3 none "copyPages" (rm (d + 1) mc ms) (QM mc ms K) pc)) : Le (qCompany_copyPages_2 d mc ms B K) (G cCompany_copyPages "VoyageCompany$Company" 3 none "copyPages" (rm (d + 1) mc ms) (QM mc ms K) 2) := by
  unfold qCompany_copyPages_2
  exact (s_ild_n (j := 2) (by decide +kernel) rfl (s_ald_n (j := 0) (by decide +kernel) rfl (s_getr (idx := 54) (by decide +kernel) fl1_54 (by decide) (s_alen (by decide +kernel) (s_ic_ge (off := 43) (tgt := 51) (by decide +kernel) (by decide) (zCompany_copyPages_51 hB) (zCompany_copyPages_11 hB))))))
def qCompany_copyPages_0 (d mc ms : Nat) (B : Nat → Pd) (K : Ps) : Pd := (i_ci 0 (i_ist 2 (B 2)))
theorem zCompany_copyPages_0 {d mc ms : Nat} {B : Nat → Pd} {K : Ps} (hB : ∀ pc, Le (B pc) (G cCompany_copyPages "VoyageCompany$Company" 3 none "copyPages" (rm (d + 1) mc ms) (QM mc ms K) pc)) : Le (qCompany_copyPages_0 d mc ms B K) (G cCompany_copyPages "VoyageCompany$Company" 3 none "copyPages" (rm (d + 1) mc ms) (QM mc ms K) 0) := by
  unfold qCompany_copyPages_0
  exact (s_iconst (n := 0) (v := 0) (by decide +kernel) (by decide +kernel) (s_ist_n (j := 2) (by decide +kernel) rfl (by decide) (hB 2)))
/-- VoyageCompany$Company.copyPages(LVoyageCompany$Company;)V, at its places -/
def gCompany_copyPages (d mc ms : Nat) (K : Ps) : Nat → Pd := G cCompany_copyPages "VoyageCompany$Company" 3 none "copyPages" (rm (d + 1) mc ms) (QM mc ms K)
theorem eCompany_copyPages {d mc ms : Nat} {K : Ps} {av : List Value} {E : Nat → Prop} {R : Nat → Nat → Value} {I : Nat → Nat → Int32} {J : Nat → Nat → Int64} (hn : (lg_sl av).length ≤ 3) (h : qCompany_copyPages_0 d mc ms (gCompany_copyPages d mc ms K) K (lv_args 0 av) [] E R I J 0 0) : CL yCompany_copyPages cCompany_copyPages 3 none (d + 1) mc ms av E R I J K :=
  CL.of (by decide +kernel) hn (zCompany_copyPages_0 (fun _ => Le.refl) _ _ _ _ _ _ _ _ h)
theorem lCompany_copyPages_2 {d mc ms : Nat} {K : Ps} : Le (qCompany_copyPages_2 d mc ms (gCompany_copyPages d mc ms K) K) (gCompany_copyPages d mc ms K 2) := zCompany_copyPages_2 (fun _ => Le.refl)
def qCompany_pageOf_22 (d mc ms : Nat) (B : Nat → Pd) (K : Ps) : Pd := (i_ald 0 (i_getr 1 9 (i_ild 1 (i_aald (i_aret mc ms K)))))
theorem zCompany_pageOf_22 {d mc ms : Nat} {B : Nat → Pd} {K : Ps} (hB : ∀ pc, Le (B pc) (G cCompany_pageOf "VoyageCompany$Company" 2 (some (.object "VoyageCompany$Page")) "pageOf" (rm (d + 1) mc ms) (QM mc ms K) pc)) : Le (qCompany_pageOf_22 d mc ms B K) (G cCompany_pageOf "VoyageCompany$Company" 2 (some (.object "VoyageCompany$Page")) "pageOf" (rm (d + 1) mc ms) (QM mc ms K) 22) := by
  unfold qCompany_pageOf_22
  exact (s_ald_n (j := 0) (by decide +kernel) rfl (s_getr (idx := 54) (by decide +kernel) fl1_54 (by decide) (s_ild_n (j := 1) (by decide +kernel) rfl (s_aald (by decide +kernel) (s_aret (by decide +kernel) rfl)))))
def qCompany_pageOf_9 (d mc ms : Nat) (B : Nat → Pd) (K : Ps) : Pd := (i_ald 0 (i_getr 1 9 (i_ild 1 (i_new 4 mc ms (i_dup (i_callA 1 4 yPage_new cPage_new 1 none mc ms d 1 (i_aast 19 4 (qCompany_pageOf_22 d mc ms B K))))))))
theorem zCompany_pageOf_9 {d mc ms : Nat} {B : Nat → Pd} {K : Ps} (hB : ∀ pc, Le (B pc) (G cCompany_pageOf "VoyageCompany$Company" 2 (some (.object "VoyageCompany$Page")) "pageOf" (rm (d + 1) mc ms) (QM mc ms K) pc)) : Le (qCompany_pageOf_9 d mc ms B K) (G cCompany_pageOf "VoyageCompany$Company" 2 (some (.object "VoyageCompany$Page")) "pageOf" (rm (d + 1) mc ms) (QM mc ms K) 9) := by
  unfold qCompany_pageOf_9
  exact (s_ald_n (j := 0) (by decide +kernel) rfl (s_getr (idx := 54) (by decide +kernel) fl1_54 (by decide) (s_ild_n (j := 1) (by decide +kernel) rfl (s_new (idx := 52) (by decide +kernel) (by decide) (lw_gm (by decide +kernel) (by decide +kernel)) rmn (s_dup (by decide +kernel) (s_callA (idx := 94) (by decide +kernel) ml1_94 rmk (s_aast (by decide +kernel) (by decide +kernel) (zCompany_pageOf_22 hB))))))))
def qCompany_pageOf_0 (d mc ms : Nat) (B : Nat → Pd) (K : Ps) : Pd := (i_ald 0 (i_getr 1 9 (i_ild 1 (i_aald (i_ifnonnull (qCompany_pageOf_22 d mc ms B K) (qCompany_pageOf_9 d mc ms B K))))))
theorem zCompany_pageOf_0 {d mc ms : Nat} {B : Nat → Pd} {K : Ps} (hB : ∀ pc, Le (B pc) (G cCompany_pageOf "VoyageCompany$Company" 2 (some (.object "VoyageCompany$Page")) "pageOf" (rm (d + 1) mc ms) (QM mc ms K) pc)) : Le (qCompany_pageOf_0 d mc ms B K) (G cCompany_pageOf "VoyageCompany$Company" 2 (some (.object "VoyageCompany$Page")) "pageOf" (rm (d + 1) mc ms) (QM mc ms K) 0) := by
  unfold qCompany_pageOf_0
  exact (s_ald_n (j := 0) (by decide +kernel) rfl (s_getr (idx := 54) (by decide +kernel) fl1_54 (by decide) (s_ild_n (j := 1) (by decide +kernel) rfl (s_aald (by decide +kernel) (s_ifnonnull (off := 16) (tgt := 22) (by decide +kernel) (by decide) (zCompany_pageOf_22 hB) (zCompany_pageOf_9 hB))))))
/-- VoyageCompany$Company.pageOf(I)LVoyageCompany$Page;, at its places -/
def gCompany_pageOf (d mc ms : Nat) (K : Ps) : Nat → Pd := G cCompany_pageOf "VoyageCompany$Company" 2 (some (.object "VoyageCompany$Page")) "pageOf" (rm (d + 1) mc ms) (QM mc ms K)
theorem eCompany_pageOf {d mc ms : Nat} {K : Ps} {av : List Value} {E : Nat → Prop} {R : Nat → Nat → Value} {I : Nat → Nat → Int32} {J : Nat → Nat → Int64} (hn : (lg_sl av).length ≤ 2) (h : qCompany_pageOf_0 d mc ms (gCompany_pageOf d mc ms K) K (lv_args 0 av) [] E R I J 0 0) : CL yCompany_pageOf cCompany_pageOf 2 (some (.object "VoyageCompany$Page")) (d + 1) mc ms av E R I J K :=
  CL.of (by decide +kernel) hn (zCompany_pageOf_0 (fun _ => Le.refl) _ _ _ _ _ _ _ _ h)
def qCompany_isShipAtHome_29 (d mc ms : Nat) (B : Nat → Pd) (K : Ps) : Pd := (i_zret mc ms K)
theorem zCompany_isShipAtHome_29 {d mc ms : Nat} {B : Nat → Pd} {K : Ps} (hB : ∀ pc, Le (B pc) (G cCompany_isShipAtHome "VoyageCompany$Company" 2 (some .boolean) "isShipAtHome" (rm (d + 1) mc ms) (QM mc ms K) pc)) : Le (qCompany_isShipAtHome_29 d mc ms B K) (G cCompany_isShipAtHome "VoyageCompany$Company" 2 (some .boolean) "isShipAtHome" (rm (d + 1) mc ms) (QM mc ms K) 29) := by
  unfold qCompany_isShipAtHome_29
  exact (s_zret (by decide +kernel) rfl)
def qCompany_isShipAtHome_28 (d mc ms : Nat) (B : Nat → Pd) (K : Ps) : Pd := (i_ci 0 (qCompany_isShipAtHome_29 d mc ms B K))
theorem zCompany_isShipAtHome_28 {d mc ms : Nat} {B : Nat → Pd} {K : Ps} (hB : ∀ pc, Le (B pc) (G cCompany_isShipAtHome "VoyageCompany$Company" 2 (some .boolean) "isShipAtHome" (rm (d + 1) mc ms) (QM mc ms K) pc)) : Le (qCompany_isShipAtHome_28 d mc ms B K) (G cCompany_isShipAtHome "VoyageCompany$Company" 2 (some .boolean) "isShipAtHome" (rm (d + 1) mc ms) (QM mc ms K) 28) := by
  unfold qCompany_isShipAtHome_28
  exact (s_iconst (n := 0) (v := 0) (by decide +kernel) (by decide +kernel) (zCompany_isShipAtHome_29 hB))
def qCompany_isShipAtHome_24 (d mc ms : Nat) (B : Nat → Pd) (K : Ps) : Pd := (i_ci 1 (qCompany_isShipAtHome_29 d mc ms B K))
theorem zCompany_isShipAtHome_24 {d mc ms : Nat} {B : Nat → Pd} {K : Ps} (hB : ∀ pc, Le (B pc) (G cCompany_isShipAtHome "VoyageCompany$Company" 2 (some .boolean) "isShipAtHome" (rm (d + 1) mc ms) (QM mc ms K) pc)) : Le (qCompany_isShipAtHome_24 d mc ms B K) (G cCompany_isShipAtHome "VoyageCompany$Company" 2 (some .boolean) "isShipAtHome" (rm (d + 1) mc ms) (QM mc ms K) 24) := by
  unfold qCompany_isShipAtHome_24
  exact (s_iconst (n := 1) (v := 1) (by decide +kernel) (by decide +kernel) (s_goto (off := 4) (tgt := 29) (by decide +kernel) (by decide) (zCompany_isShipAtHome_29 hB)))
def qCompany_isShipAtHome_12 (d mc ms : Nat) (B : Nat → Pd) (K : Ps) : Pd := (i_ald 0 (i_getr 1 6 (i_ild 1 (i_aald (i_geti 7 6 (i_if_ne (qCompany_isShipAtHome_28 d mc ms B K) (qCompany_isShipAtHome_24 d mc ms B K)))))))
theorem zCompany_isShipAtHome_12 {d mc ms : Nat} {B : Nat → Pd} {K : Ps} (hB : ∀ pc, Le (B pc) (G cCompany_isShipAtHome "VoyageCompany$Company" 2 (some .boolean) "isShipAtHome" (rm (d + 1) mc ms) (QM mc ms K) pc)) : Le (qCompany_isShipAtHome_12 d mc ms B K) (G cCompany_isShipAtHome "VoyageCompany$Company" 2 (some .boolean) "isShipAtHome" (rm (d + 1) mc ms) (QM mc ms K) 12) := by
  unfold qCompany_isShipAtHome_12
  exact (s_ald_n (j := 0) (by decide +kernel) rfl (s_getr (idx := 33) (by decide +kernel) fl1_33 (by decide) (s_ild_n (j := 1) (by decide +kernel) rfl (s_aald (by decide +kernel) (s_geti (idx := 95) (by decide +kernel) fl1_95 (by decide) (s_if_ne (off := 7) (tgt := 28) (by decide +kernel) (by decide) (zCompany_isShipAtHome_28 hB) (zCompany_isShipAtHome_24 hB)))))))
def qCompany_isShipAtHome_4 (d mc ms : Nat) (B : Nat → Pd) (K : Ps) : Pd := (i_ild 1 (i_ald 0 (i_geti 1 1 (i_ic_ge (qCompany_isShipAtHome_28 d mc ms B K) (qCompany_isShipAtHome_12 d mc ms B K)))))
theorem zCompany_isShipAtHome_4 {d mc ms : Nat} {B : Nat → Pd} {K : Ps} (hB : ∀ pc, Le (B pc) (G cCompany_isShipAtHome "VoyageCompany$Company" 2 (some .boolean) "isShipAtHome" (rm (d + 1) mc ms) (QM mc ms K) pc)) : Le (qCompany_isShipAtHome_4 d mc ms B K) (G cCompany_isShipAtHome "VoyageCompany$Company" 2 (some .boolean) "isShipAtHome" (rm (d + 1) mc ms) (QM mc ms K) 4) := by
  unfold qCompany_isShipAtHome_4
  exact (s_ild_n (j := 1) (by decide +kernel) rfl (s_ald_n (j := 0) (by decide +kernel) rfl (s_geti (idx := 61) (by decide +kernel) fl1_61 (by decide) (s_ic_ge (off := 19) (tgt := 28) (by decide +kernel) (by decide) (zCompany_isShipAtHome_28 hB) (zCompany_isShipAtHome_12 hB)))))
def qCompany_isShipAtHome_0 (d mc ms : Nat) (B : Nat → Pd) (K : Ps) : Pd := (i_ild 1 (i_if_lt (qCompany_isShipAtHome_28 d mc ms B K) (qCompany_isShipAtHome_4 d mc ms B K)))
theorem zCompany_isShipAtHome_0 {d mc ms : Nat} {B : Nat → Pd} {K : Ps} (hB : ∀ pc, Le (B pc) (G cCompany_isShipAtHome "VoyageCompany$Company" 2 (some .boolean) "isShipAtHome" (rm (d + 1) mc ms) (QM mc ms K) pc)) : Le (qCompany_isShipAtHome_0 d mc ms B K) (G cCompany_isShipAtHome "VoyageCompany$Company" 2 (some .boolean) "isShipAtHome" (rm (d + 1) mc ms) (QM mc ms K) 0) := by
  unfold qCompany_isShipAtHome_0
  exact (s_ild_n (j := 1) (by decide +kernel) rfl (s_if_lt (off := 27) (tgt := 28) (by decide +kernel) (by decide) (zCompany_isShipAtHome_28 hB) (zCompany_isShipAtHome_4 hB)))
/-- VoyageCompany$Company.isShipAtHome(I)Z, at its places -/
def gCompany_isShipAtHome (d mc ms : Nat) (K : Ps) : Nat → Pd := G cCompany_isShipAtHome "VoyageCompany$Company" 2 (some .boolean) "isShipAtHome" (rm (d + 1) mc ms) (QM mc ms K)
theorem eCompany_isShipAtHome {d mc ms : Nat} {K : Ps} {av : List Value} {E : Nat → Prop} {R : Nat → Nat → Value} {I : Nat → Nat → Int32} {J : Nat → Nat → Int64} (hn : (lg_sl av).length ≤ 2) (h : qCompany_isShipAtHome_0 d mc ms (gCompany_isShipAtHome d mc ms K) K (lv_args 0 av) [] E R I J 0 0) : CL yCompany_isShipAtHome cCompany_isShipAtHome 2 (some .boolean) (d + 1) mc ms av E R I J K :=
  CL.of (by decide +kernel) hn (zCompany_isShipAtHome_0 (fun _ => Le.refl) _ _ _ _ _ _ _ _ h)
def qCompany_freeAtHome_0 (d mc ms : Nat) (B : Nat → Pd) (K : Ps) : Pd := (i_ald 0 (i_getr 1 5 (i_ci 0 (i_aald (i_getr 5 1 (i_ild 1 (i_iald (i_ald 0 (i_getr 1 7 (i_getr 8 5 (i_ild 1 (i_iald (i_isub (i_iret mc ms K))))))))))))))
theorem zCompany_freeAtHome_0 {d mc ms : Nat} {B : Nat → Pd} {K : Ps} (hB : ∀ pc, Le (B pc) (G cCompany_freeAtHome "VoyageCompany$Company" 2 (some .int) "freeAtHome" (rm (d + 1) mc ms) (QM mc ms K) pc)) : Le (qCompany_freeAtHome_0 d mc ms B K) (G cCompany_freeAtHome "VoyageCompany$Company" 2 (some .int) "freeAtHome" (rm (d + 1) mc ms) (QM mc ms K) 0) := by
  unfold qCompany_freeAtHome_0
  exact (s_ald_n (j := 0) (by decide +kernel) rfl (s_getr (idx := 24) (by decide +kernel) fl1_24 (by decide) (s_iconst (n := 0) (v := 0) (by decide +kernel) (by decide +kernel) (s_aald (by decide +kernel) (s_getr (idx := 98) (by decide +kernel) fl1_98 (by decide) (s_ild_n (j := 1) (by decide +kernel) rfl (s_iald (by decide +kernel) (s_ald_n (j := 0) (by decide +kernel) rfl (s_getr (idx := 41) (by decide +kernel) fl1_41 (by decide) (s_getr (idx := 102) (by decide +kernel) fl1_102 (by decide) (s_ild_n (j := 1) (by decide +kernel) rfl (s_iald (by decide +kernel) (s_isub (by decide +kernel) (s_iret (by decide +kernel) rfl))))))))))))))
/-- VoyageCompany$Company.freeAtHome(I)I, at its places -/
def gCompany_freeAtHome (d mc ms : Nat) (K : Ps) : Nat → Pd := G cCompany_freeAtHome "VoyageCompany$Company" 2 (some .int) "freeAtHome" (rm (d + 1) mc ms) (QM mc ms K)
theorem eCompany_freeAtHome {d mc ms : Nat} {K : Ps} {av : List Value} {E : Nat → Prop} {R : Nat → Nat → Value} {I : Nat → Nat → Int32} {J : Nat → Nat → Int64} (hn : (lg_sl av).length ≤ 2) (h : qCompany_freeAtHome_0 d mc ms (gCompany_freeAtHome d mc ms K) K (lv_args 0 av) [] E R I J 0 0) : CL yCompany_freeAtHome cCompany_freeAtHome 2 (some .int) (d + 1) mc ms av E R I J K :=
  CL.of (by decide +kernel) hn (zCompany_freeAtHome_0 (fun _ => Le.refl) _ _ _ _ _ _ _ _ h)
def qCompany_windsAllow_51 (d mc ms : Nat) (B : Nat → Pd) (K : Ps) : Pd := (i_zret mc ms K)
theorem zCompany_windsAllow_51 {d mc ms : Nat} {B : Nat → Pd} {K : Ps} (hB : ∀ pc, Le (B pc) (G cCompany_windsAllow "VoyageCompany$Company" 5 (some .boolean) "windsAllow" (rm (d + 1) mc ms) (QM mc ms K) pc)) : Le (qCompany_windsAllow_51 d mc ms B K) (G cCompany_windsAllow "VoyageCompany$Company" 5 (some .boolean) "windsAllow" (rm (d + 1) mc ms) (QM mc ms K) 51) := by
  unfold qCompany_windsAllow_51
  exact (s_zret (by decide +kernel) rfl)
def qCompany_windsAllow_50 (d mc ms : Nat) (B : Nat → Pd) (K : Ps) : Pd := (i_ci 0 (qCompany_windsAllow_51 d mc ms B K))
theorem zCompany_windsAllow_50 {d mc ms : Nat} {B : Nat → Pd} {K : Ps} (hB : ∀ pc, Le (B pc) (G cCompany_windsAllow "VoyageCompany$Company" 5 (some .boolean) "windsAllow" (rm (d + 1) mc ms) (QM mc ms K) pc)) : Le (qCompany_windsAllow_50 d mc ms B K) (G cCompany_windsAllow "VoyageCompany$Company" 5 (some .boolean) "windsAllow" (rm (d + 1) mc ms) (QM mc ms K) 50) := by
  unfold qCompany_windsAllow_50
  exact (s_iconst (n := 0) (v := 0) (by decide +kernel) (by decide +kernel) (zCompany_windsAllow_51 hB))
def qCompany_windsAllow_46 (d mc ms : Nat) (B : Nat → Pd) (K : Ps) : Pd := (i_ci 1 (qCompany_windsAllow_51 d mc ms B K))
theorem zCompany_windsAllow_46 {d mc ms : Nat} {B : Nat → Pd} {K : Ps} (hB : ∀ pc, Le (B pc) (G cCompany_windsAllow "VoyageCompany$Company" 5 (some .boolean) "windsAllow" (rm (d + 1) mc ms) (QM mc ms K) pc)) : Le (qCompany_windsAllow_46 d mc ms B K) (G cCompany_windsAllow "VoyageCompany$Company" 5 (some .boolean) "windsAllow" (rm (d + 1) mc ms) (QM mc ms K) 46) := by
  unfold qCompany_windsAllow_46
  exact (s_iconst (n := 1) (v := 1) (by decide +kernel) (by decide +kernel) (s_goto (off := 4) (tgt := 51) (by decide +kernel) (by decide) (zCompany_windsAllow_51 hB)))
def qCompany_windsAllow_41 (d mc ms : Nat) (B : Nat → Pd) (K : Ps) : Pd := (i_ild 4 (i_ic_ne (qCompany_windsAllow_50 d mc ms B K) (qCompany_windsAllow_46 d mc ms B K)))
theorem zCompany_windsAllow_41 {d mc ms : Nat} {B : Nat → Pd} {K : Ps} (hB : ∀ pc, Le (B pc) (G cCompany_windsAllow "VoyageCompany$Company" 5 (some .boolean) "windsAllow" (rm (d + 1) mc ms) (QM mc ms K) pc)) : Le (qCompany_windsAllow_41 d mc ms B K) (G cCompany_windsAllow "VoyageCompany$Company" 5 (some .boolean) "windsAllow" (rm (d + 1) mc ms) (QM mc ms K) 41) := by
  unfold qCompany_windsAllow_41
  exact (s_ild (by decide +kernel) (s_ic_ne (off := 7) (tgt := 50) (by decide +kernel) (by decide) (zCompany_windsAllow_50 hB) (zCompany_windsAllow_46 hB)))
def qCompany_windsAllow_40 (d mc ms : Nat) (B : Nat → Pd) (K : Ps) : Pd := (i_ci 0 (qCompany_windsAllow_41 d mc ms B K))
theorem zCompany_windsAllow_40 {d mc ms : Nat} {B : Nat → Pd} {K : Ps} (hB : ∀ pc, Le (B pc) (G cCompany_windsAllow "VoyageCompany$Company" 5 (some .boolean) "windsAllow" (rm (d + 1) mc ms) (QM mc ms K) pc)) : Le (qCompany_windsAllow_40 d mc ms B K) (G cCompany_windsAllow "VoyageCompany$Company" 5 (some .boolean) "windsAllow" (rm (d + 1) mc ms) (QM mc ms K) 40) := by
  unfold qCompany_windsAllow_40
  exact (s_iconst (n := 0) (v := 0) (by decide +kernel) (by decide +kernel) (zCompany_windsAllow_41 hB))
def qCompany_windsAllow_36 (d mc ms : Nat) (B : Nat → Pd) (K : Ps) : Pd := (i_ci 1 (qCompany_windsAllow_41 d mc ms B K))
theorem zCompany_windsAllow_36 {d mc ms : Nat} {B : Nat → Pd} {K : Ps} (hB : ∀ pc, Le (B pc) (G cCompany_windsAllow "VoyageCompany$Company" 5 (some .boolean) "windsAllow" (rm (d + 1) mc ms) (QM mc ms K) pc)) : Le (qCompany_windsAllow_36 d mc ms B K) (G cCompany_windsAllow "VoyageCompany$Company" 5 (some .boolean) "windsAllow" (rm (d + 1) mc ms) (QM mc ms K) 36) := by
  unfold qCompany_windsAllow_36
  exact (s_iconst (n := 1) (v := 1) (by decide +kernel) (by decide +kernel) (s_goto (off := 4) (tgt := 41) (by decide +kernel) (by decide) (zCompany_windsAllow_41 hB)))
def qCompany_windsAllow_31 (d mc ms : Nat) (B : Nat → Pd) (K : Ps) : Pd := (i_ild 2 (i_ild 1 (i_ic_le (qCompany_windsAllow_40 d mc ms B K) (qCompany_windsAllow_36 d mc ms B K))))
theorem zCompany_windsAllow_31 {d mc ms : Nat} {B : Nat → Pd} {K : Ps} (hB : ∀ pc, Le (B pc) (G cCompany_windsAllow "VoyageCompany$Company" 5 (some .boolean) "windsAllow" (rm (d + 1) mc ms) (QM mc ms K) pc)) : Le (qCompany_windsAllow_31 d mc ms B K) (G cCompany_windsAllow "VoyageCompany$Company" 5 (some .boolean) "windsAllow" (rm (d + 1) mc ms) (QM mc ms K) 31) := by
  unfold qCompany_windsAllow_31
  exact (s_ild_n (j := 2) (by decide +kernel) rfl (s_ild_n (j := 1) (by decide +kernel) rfl (s_ic_le (off := 7) (tgt := 40) (by decide +kernel) (by decide) (zCompany_windsAllow_40 hB) (zCompany_windsAllow_36 hB))))
def qCompany_windsAllow_24 (d mc ms : Nat) (B : Nat → Pd) (K : Ps) : Pd := (i_ist 4 (i_ild 2 (i_ild 1 (i_ic_eq (qCompany_windsAllow_50 d mc ms B K) (qCompany_windsAllow_31 d mc ms B K)))))
theorem zCompany_windsAllow_24 {d mc ms : Nat} {B : Nat → Pd} {K : Ps} (hB : ∀ pc, Le (B pc) (G cCompany_windsAllow "VoyageCompany$Company" 5 (some .boolean) "windsAllow" (rm (d + 1) mc ms) (QM mc ms K) pc)) : Le (qCompany_windsAllow_24 d mc ms B K) (G cCompany_windsAllow "VoyageCompany$Company" 5 (some .boolean) "windsAllow" (rm (d + 1) mc ms) (QM mc ms K) 24) := by
  unfold qCompany_windsAllow_24
  exact (s_ist (by decide +kernel) (by decide) (s_ild_n (j := 2) (by decide +kernel) rfl (s_ild_n (j := 1) (by decide +kernel) rfl (s_ic_eq (off := 22) (tgt := 50) (by decide +kernel) (by decide) (zCompany_windsAllow_50 hB) (zCompany_windsAllow_31 hB)))))
def qCompany_windsAllow_23 (d mc ms : Nat) (B : Nat → Pd) (K : Ps) : Pd := (i_ci 0 (qCompany_windsAllow_24 d mc ms B K))
theorem zCompany_windsAllow_23 {d mc ms : Nat} {B : Nat → Pd} {K : Ps} (hB : ∀ pc, Le (B pc) (G cCompany_windsAllow "VoyageCompany$Company" 5 (some .boolean) "windsAllow" (rm (d + 1) mc ms) (QM mc ms K) pc)) : Le (qCompany_windsAllow_23 d mc ms B K) (G cCompany_windsAllow "VoyageCompany$Company" 5 (some .boolean) "windsAllow" (rm (d + 1) mc ms) (QM mc ms K) 23) := by
  unfold qCompany_windsAllow_23
  exact (s_iconst (n := 0) (v := 0) (by decide +kernel) (by decide +kernel) (zCompany_windsAllow_24 hB))
def qCompany_windsAllow_19 (d mc ms : Nat) (B : Nat → Pd) (K : Ps) : Pd := (i_ci 1 (qCompany_windsAllow_24 d mc ms B K))
theorem zCompany_windsAllow_19 {d mc ms : Nat} {B : Nat → Pd} {K : Ps} (hB : ∀ pc, Le (B pc) (G cCompany_windsAllow "VoyageCompany$Company" 5 (some .boolean) "windsAllow" (rm (d + 1) mc ms) (QM mc ms K) pc)) : Le (qCompany_windsAllow_19 d mc ms B K) (G cCompany_windsAllow "VoyageCompany$Company" 5 (some .boolean) "windsAllow" (rm (d + 1) mc ms) (QM mc ms K) 19) := by
  unfold qCompany_windsAllow_19
  exact (s_iconst (n := 1) (v := 1) (by decide +kernel) (by decide +kernel) (s_goto (off := 4) (tgt := 24) (by decide +kernel) (by decide) (zCompany_windsAllow_24 hB)))
def qCompany_windsAllow_14 (d mc ms : Nat) (B : Nat → Pd) (K : Ps) : Pd := (i_ild 3 (i_ci 2 (i_ic_gt (qCompany_windsAllow_23 d mc ms B K) (qCompany_windsAllow_19 d mc ms B K))))
theorem zCompany_windsAllow_14 {d mc ms : Nat} {B : Nat → Pd} {K : Ps} (hB : ∀ pc, Le (B pc) (G cCompany_windsAllow "VoyageCompany$Company" 5 (some .boolean) "windsAllow" (rm (d + 1) mc ms) (QM mc ms K) pc)) : Le (qCompany_windsAllow_14 d mc ms B K) (G cCompany_windsAllow "VoyageCompany$Company" 5 (some .boolean) "windsAllow" (rm (d + 1) mc ms) (QM mc ms K) 14) := by
  unfold qCompany_windsAllow_14
  exact (s_ild_n (j := 3) (by decide +kernel) rfl (s_iconst (n := 2) (v := 2) (by decide +kernel) (by decide +kernel) (s_ic_gt (off := 7) (tgt := 23) (by decide +kernel) (by decide) (zCompany_windsAllow_23 hB) (zCompany_windsAllow_19 hB))))
def qCompany_windsAllow_0 (d mc ms : Nat) (B : Nat → Pd) (K : Ps) : Pd := (i_ald 0 (i_geti 1 0 (i_ci 12 (i_irem (i_ist 3 (i_ild 3 (i_ci 9 (i_ic_ge (qCompany_windsAllow_19 d mc ms B K) (qCompany_windsAllow_14 d mc ms B K)))))))))
theorem zCompany_windsAllow_0 {d mc ms : Nat} {B : Nat → Pd} {K : Ps} (hB : ∀ pc, Le (B pc) (G cCompany_windsAllow "VoyageCompany$Company" 5 (some .boolean) "windsAllow" (rm (d + 1) mc ms) (QM mc ms K) pc)) : Le (qCompany_windsAllow_0 d mc ms B K) (G cCompany_windsAllow "VoyageCompany$Company" 5 (some .boolean) "windsAllow" (rm (d + 1) mc ms) (QM mc ms K) 0) := by
  unfold qCompany_windsAllow_0
  exact (s_ald_n (j := 0) (by decide +kernel) rfl (s_geti (idx := 58) (by decide +kernel) fl1_58 (by decide) (s_bipush (n := 12) (v := 12) (by decide +kernel) (by decide +kernel) (s_irem (by decide +kernel) (s_ist_n (j := 3) (by decide +kernel) rfl (by decide) (s_ild_n (j := 3) (by decide +kernel) rfl (s_bipush (n := 9) (v := 9) (by decide +kernel) (by decide +kernel) (s_ic_ge (off := 8) (tgt := 19) (by decide +kernel) (by decide) (zCompany_windsAllow_19 hB) (zCompany_windsAllow_14 hB)))))))))
/-- VoyageCompany$Company.windsAllow(II)Z, at its places -/
def gCompany_windsAllow (d mc ms : Nat) (K : Ps) : Nat → Pd := G cCompany_windsAllow "VoyageCompany$Company" 5 (some .boolean) "windsAllow" (rm (d + 1) mc ms) (QM mc ms K)
theorem eCompany_windsAllow {d mc ms : Nat} {K : Ps} {av : List Value} {E : Nat → Prop} {R : Nat → Nat → Value} {I : Nat → Nat → Int32} {J : Nat → Nat → Int64} (hn : (lg_sl av).length ≤ 5) (h : qCompany_windsAllow_0 d mc ms (gCompany_windsAllow d mc ms K) K (lv_args 0 av) [] E R I J 0 0) : CL yCompany_windsAllow cCompany_windsAllow 5 (some .boolean) (d + 1) mc ms av E R I J K :=
  CL.of (by decide +kernel) hn (zCompany_windsAllow_0 (fun _ => Le.refl) _ _ _ _ _ _ _ _ h)
def qCompany_shipsAt_34 (d mc ms : Nat) (B : Nat → Pd) (K : Ps) : Pd := (i_ild 2 (i_iret mc ms K))
theorem zCompany_shipsAt_34 {d mc ms : Nat} {B : Nat → Pd} {K : Ps} (hB : ∀ pc, Le (B pc) (G cCompany_shipsAt "VoyageCompany$Company" 4 (some .int) "shipsAt" (rm (d + 1) mc ms) (QM mc ms K) pc)) : Le (qCompany_shipsAt_34 d mc ms B K) (G cCompany_shipsAt "VoyageCompany$Company" 4 (some .int) "shipsAt" (rm (d + 1) mc ms) (QM mc ms K) 34) := by
  unfold qCompany_shipsAt_34
  exact (s_ild_n (j := 2) (by decide +kernel) rfl (s_iret (by decide +kernel) rfl))
def qCompany_shipsAt_28 (d mc ms : Nat) (B : Nat → Pd) (K : Ps) : Pd := (i_inc 3 1 (B 4))
theorem zCompany_shipsAt_28 {d mc ms : Nat} {B : Nat → Pd} {K : Ps} (hB : ∀ pc, Le (B pc) (G cCompany_shipsAt "VoyageCompany$Company" 4 (some .int) "shipsAt" (rm (d + 1) mc ms) (QM mc ms K) pc)) : Le (qCompany_shipsAt_28 d mc ms B K) (G cCompany_shipsAt "VoyageCompany$Company" 4 (some .int) "shipsAt" (rm (d + 1) mc ms) (QM mc ms K) 28) := by
  unfold qCompany_shipsAt_28
  exact (s_inc (z := 1) (by decide +kernel) (by decide +kernel) (by decide) (s_goto (off := (-27)) (tgt := 4) (by decide +kernel) (by decide) (hB 4)))
def qCompany_shipsAt_25 (d mc ms : Nat) (B : Nat → Pd) (K : Ps) : Pd := (i_inc 2 1 (qCompany_shipsAt_28 d mc ms B K))
theorem zCompany_shipsAt_25 {d mc ms : Nat} {B : Nat → Pd} {K : Ps} (hB : ∀ pc, Le (B pc) (G cCompany_shipsAt "VoyageCompany$Company" 4 (some .int) "shipsAt" (rm (d + 1) mc ms) (QM mc ms K) pc)) : Le (qCompany_shipsAt_25 d mc ms B K) (G cCompany_shipsAt "VoyageCompany$Company" 4 (some .int) "shipsAt" (rm (d + 1) mc ms) (QM mc ms K) 25) := by
  unfold qCompany_shipsAt_25
  exact (s_inc (z := 1) (by decide +kernel) (by decide +kernel) (by decide) (zCompany_shipsAt_28 hB))
def qCompany_shipsAt_12 (d mc ms : Nat) (B : Nat → Pd) (K : Ps) : Pd := (i_ald 0 (i_getr 1 6 (i_ild 3 (i_aald (i_geti 7 6 (i_ild 1 (i_ic_ne (qCompany_shipsAt_28 d mc ms B K) (qCompany_shipsAt_25 d mc ms B K))))))))
theorem zCompany_shipsAt_12 {d mc ms : Nat} {B : Nat → Pd} {K : Ps} (hB : ∀ pc, Le (B pc) (G cCompany_shipsAt "VoyageCompany$Company" 4 (some .int) "shipsAt" (rm (d + 1) mc ms) (QM mc ms K) pc)) : Le (qCompany_shipsAt_12 d mc ms B K) (G cCompany_shipsAt "VoyageCompany$Company" 4 (some .int) "shipsAt" (rm (d + 1) mc ms) (QM mc ms K) 12) := by
  unfold qCompany_shipsAt_12
  exact (s_ald_n (j := 0) (by decide +kernel) rfl (s_getr (idx := 33) (by decide +kernel) fl1_33 (by decide) (s_ild_n (j := 3) (by decide +kernel) rfl (s_aald (by decide +kernel) (s_geti (idx := 95) (by decide +kernel) fl1_95 (by decide) (s_ild_n (j := 1) (by decide +kernel) rfl (s_ic_ne (off := 6) (tgt := 28) (by decide +kernel) (by decide) (zCompany_shipsAt_28 hB) (zCompany_shipsAt_25 hB))))))))
def qCompany_shipsAt_4 (d mc ms : Nat) (B : Nat → Pd) (K : Ps) : Pd := (i_ild 3 (i_ald 0 (i_geti 1 1 (i_ic_ge (qCompany_shipsAt_34 d mc ms B K) (qCompany_shipsAt_12 d mc ms B K)))))
theorem zCompany_shipsAt_4 {d mc ms : Nat} {B : Nat → Pd} {K : Ps} (hB : ∀ pc, Le (B pc) (G cCompany_shipsAt "VoyageCompany$Company" 4 (some .int) "shipsAt" (rm (d + 1) mc ms) (QM mc ms K) pc)) : Le (qCompany_shipsAt_4 d mc ms B K) (G cCompany_shipsAt "VoyageCompany$Company" 4 (some .int) "shipsAt" (rm (d + 1) mc ms) (QM mc ms K) 4) := by
  unfold qCompany_shipsAt_4
  exact (s_ild_n (j := 3) (by decide +kernel) rfl (s_ald_n (j := 0) (by decide +kernel) rfl (s_geti (idx := 61) (by decide +kernel) fl1_61 (by decide) (s_ic_ge (off := 25) (tgt := 34) (by decide +kernel) (by decide) (zCompany_shipsAt_34 hB) (zCompany_shipsAt_12 hB)))))
def qCompany_shipsAt_0 (d mc ms : Nat) (B : Nat → Pd) (K : Ps) : Pd := (i_ci 0 (i_ist 2 (i_ci 0 (i_ist 3 (B 4)))))
theorem zCompany_shipsAt_0 {d mc ms : Nat} {B : Nat → Pd} {K : Ps} (hB : ∀ pc, Le (B pc) (G cCompany_shipsAt "VoyageCompany$Company" 4 (some .int) "shipsAt" (rm (d + 1) mc ms) (QM mc ms K) pc)) : Le (qCompany_shipsAt_0 d mc ms B K) (G cCompany_shipsAt "VoyageCompany$Company" 4 (some .int) "shipsAt" (rm (d + 1) mc ms) (QM mc ms K) 0) := by
  unfold qCompany_shipsAt_0
  exact (s_iconst (n := 0) (v := 0) (by decide +kernel) (by decide +kernel) (s_ist_n (j := 2) (by decide +kernel) rfl (by decide) (s_iconst (n := 0) (v := 0) (by decide +kernel) (by decide +kernel) (s_ist_n (j := 3) (by decide +kernel) rfl (by decide) (hB 4)))))
/-- VoyageCompany$Company.shipsAt(I)I, at its places -/
def gCompany_shipsAt (d mc ms : Nat) (K : Ps) : Nat → Pd := G cCompany_shipsAt "VoyageCompany$Company" 4 (some .int) "shipsAt" (rm (d + 1) mc ms) (QM mc ms K)
theorem eCompany_shipsAt {d mc ms : Nat} {K : Ps} {av : List Value} {E : Nat → Prop} {R : Nat → Nat → Value} {I : Nat → Nat → Int32} {J : Nat → Nat → Int64} (hn : (lg_sl av).length ≤ 4) (h : qCompany_shipsAt_0 d mc ms (gCompany_shipsAt d mc ms K) K (lv_args 0 av) [] E R I J 0 0) : CL yCompany_shipsAt cCompany_shipsAt 4 (some .int) (d + 1) mc ms av E R I J K :=
  CL.of (by decide +kernel) hn (zCompany_shipsAt_0 (fun _ => Le.refl) _ _ _ _ _ _ _ _ h)
theorem lCompany_shipsAt_4 {d mc ms : Nat} {K : Ps} : Le (qCompany_shipsAt_4 d mc ms (gCompany_shipsAt d mc ms K) K) (gCompany_shipsAt d mc ms K 4) := zCompany_shipsAt_4 (fun _ => Le.refl)
def qCompany_inStores_33 (d mc ms : Nat) (B : Nat → Pd) (K : Ps) : Pd := (i_lld 2 (i_lret mc ms K))
theorem zCompany_inStores_33 {d mc ms : Nat} {B : Nat → Pd} {K : Ps} (hB : ∀ pc, Le (B pc) (G cCompany_inStores "VoyageCompany$Company" 5 (some .long) "inStores" (rm (d + 1) mc ms) (QM mc ms K) pc)) : Le (qCompany_inStores_33 d mc ms B K) (G cCompany_inStores "VoyageCompany$Company" 5 (some .long) "inStores" (rm (d + 1) mc ms) (QM mc ms K) 33) := by
  unfold qCompany_inStores_33
  exact (s_lld_n (j := 2) (by decide +kernel) rfl (s_lret (by decide +kernel) rfl))
def qCompany_inStores_11 (d mc ms : Nat) (B : Nat → Pd) (K : Ps) : Pd := (i_lld 2 (i_ald 0 (i_getr 1 5 (i_ild 4 (i_aald (i_getr 5 1 (i_ild 1 (i_iald (i_i2l (i_ladd (i_lst 2 (i_inc 4 1 (B 5)))))))))))))
theorem zCompany_inStores_11 {d mc ms : Nat} {B : Nat → Pd} {K : Ps} (hB : ∀ pc, Le (B pc) (G cCompany_inStores "VoyageCompany$Company" 5 (some .long) "inStores" (rm (d + 1) mc ms) (QM mc ms K) pc)) : Le (qCompany_inStores_11 d mc ms B K) (G cCompany_inStores "VoyageCompany$Company" 5 (some .long) "inStores" (rm (d + 1) mc ms) (QM mc ms K) 11) := by
  unfold qCompany_inStores_11
  exact (s_lld_n (j := 2) (by decide +kernel) rfl (s_ald_n (j := 0) (by decide +kernel) rfl (s_getr (idx := 24) (by decide +kernel) fl1_24 (by decide) (s_ild (by decide +kernel) (s_aald (by decide +kernel) (s_getr (idx := 98) (by decide +kernel) fl1_98 (by decide) (s_ild_n (j := 1) (by decide +kernel) rfl (s_iald (by decide +kernel) (s_i2l (by decide +kernel) (s_ladd (by decide +kernel) (s_lst_n (j := 2) (by decide +kernel) rfl (by decide) (s_inc (z := 1) (by decide +kernel) (by decide +kernel) (by decide) (s_goto (off := (-25)) (tgt := 5) (by decide +kernel) (by decide) (hB 5))))))))))))))
def qCompany_inStores_5 (d mc ms : Nat) (B : Nat → Pd) (K : Ps) : Pd := (i_ild 4 (i_ci 5 (i_ic_ge (qCompany_inStores_33 d mc ms B K) (qCompany_inStores_11 d mc ms B K))))
theorem zCompany_inStores_5 {d mc ms : Nat} {B : Nat → Pd} {K : Ps} (hB : ∀ pc, Le (B pc) (G cCompany_inStores "VoyageCompany$Company" 5 (some .long) "inStores" (rm (d + 1) mc ms) (QM mc ms K) pc)) : Le (qCompany_inStores_5 d mc ms B K) (G cCompany_inStores "VoyageCompany$Company" 5 (some .long) "inStores" (rm (d + 1) mc ms) (QM mc ms K) 5) := by
  unfold qCompany_inStores_5
  exact (s_ild (by decide +kernel) (s_iconst (n := 5) (v := 5) (by decide +kernel) (by decide +kernel) (s_ic_ge (off := 25) (tgt := 33) (by decide +kernel) (by decide) (zCompany_inStores_33 hB) (zCompany_inStores_11 hB))))
def qCompany_inStores_0 (d mc ms : Nat) (B : Nat → Pd) (K : Ps) : Pd := (i_cl 0 (i_lst 2 (i_ci 0 (i_ist 4 (B 5)))))
theorem zCompany_inStores_0 {d mc ms : Nat} {B : Nat → Pd} {K : Ps} (hB : ∀ pc, Le (B pc) (G cCompany_inStores "VoyageCompany$Company" 5 (some .long) "inStores" (rm (d + 1) mc ms) (QM mc ms K) pc)) : Le (qCompany_inStores_0 d mc ms B K) (G cCompany_inStores "VoyageCompany$Company" 5 (some .long) "inStores" (rm (d + 1) mc ms) (QM mc ms K) 0) := by
  unfold qCompany_inStores_0
  exact (s_lconst (n := 0) (v := 0) (by decide +kernel) (by decide +kernel) (s_lst_n (j := 2) (by decide +kernel) rfl (by decide) (s_iconst (n := 0) (v := 0) (by decide +kernel) (by decide +kernel) (s_ist (by decide +kernel) (by decide) (hB 5)))))
/-- VoyageCompany$Company.inStores(I)J, at its places -/
def gCompany_inStores (d mc ms : Nat) (K : Ps) : Nat → Pd := G cCompany_inStores "VoyageCompany$Company" 5 (some .long) "inStores" (rm (d + 1) mc ms) (QM mc ms K)
theorem eCompany_inStores {d mc ms : Nat} {K : Ps} {av : List Value} {E : Nat → Prop} {R : Nat → Nat → Value} {I : Nat → Nat → Int32} {J : Nat → Nat → Int64} (hn : (lg_sl av).length ≤ 5) (h : qCompany_inStores_0 d mc ms (gCompany_inStores d mc ms K) K (lv_args 0 av) [] E R I J 0 0) : CL yCompany_inStores cCompany_inStores 5 (some .long) (d + 1) mc ms av E R I J K :=
  CL.of (by decide +kernel) hn (zCompany_inStores_0 (fun _ => Le.refl) _ _ _ _ _ _ _ _ h)
theorem lCompany_inStores_5 {d mc ms : Nat} {K : Ps} : Le (qCompany_inStores_5 d mc ms (gCompany_inStores d mc ms K) K) (gCompany_inStores d mc ms K 5) := zCompany_inStores_5 (fun _ => Le.refl)
def qCompany_inShips_55 (d mc ms : Nat) (B : Nat → Pd) (K : Ps) : Pd := (i_lld 2 (i_lret mc ms K))
theorem zCompany_inShips_55 {d mc ms : Nat} {B : Nat → Pd} {K : Ps} (hB : ∀ pc, Le (B pc) (G cCompany_inShips "VoyageCompany$Company" 5 (some .long) "inShips" (rm (d + 1) mc ms) (QM mc ms K) pc)) : Le (qCompany_inShips_55 d mc ms B K) (G cCompany_inShips "VoyageCompany$Company" 5 (some .long) "inShips" (rm (d + 1) mc ms) (QM mc ms K) 55) := by
  unfold qCompany_inShips_55
  exact (s_lld_n (j := 2) (by decide +kernel) rfl (s_lret (by decide +kernel) rfl))
def qCompany_inShips_49 (d mc ms : Nat) (B : Nat → Pd) (K : Ps) : Pd := (i_inc 4 1 (B 5))
theorem zCompany_inShips_49 {d mc ms : Nat} {B : Nat → Pd} {K : Ps} (hB : ∀ pc, Le (B pc) (G cCompany_inShips "VoyageCompany$Company" 5 (some .long) "inShips" (rm (d + 1) mc ms) (QM mc ms K) pc)) : Le (qCompany_inShips_49 d mc ms B K) (G cCompany_inShips "VoyageCompany$Company" 5 (some .long) "inShips" (rm (d + 1) mc ms) (QM mc ms K) 49) := by
  unfold qCompany_inShips_49
  exact (s_inc (z := 1) (by decide +kernel) (by decide +kernel) (by decide) (s_goto (off := (-47)) (tgt := 5) (by decide +kernel) (by decide) (hB 5)))
def qCompany_inShips_35 (d mc ms : Nat) (B : Nat → Pd) (K : Ps) : Pd := (i_lld 2 (i_ald 0 (i_getr 1 6 (i_ild 4 (i_aald (i_geti 7 5 (i_i2l (i_ladd (i_lst 2 (qCompany_inShips_49 d mc ms B K))))))))))
theorem zCompany_inShips_35 {d mc ms : Nat} {B : Nat → Pd} {K : Ps} (hB : ∀ pc, Le (B pc) (G cCompany_inShips "VoyageCompany$Company" 5 (some .long) "inShips" (rm (d + 1) mc ms) (QM mc ms K) pc)) : Le (qCompany_inShips_35 d mc ms B K) (G cCompany_inShips "VoyageCompany$Company" 5 (some .long) "inShips" (rm (d + 1) mc ms) (QM mc ms K) 35) := by
  unfold qCompany_inShips_35
  exact (s_lld_n (j := 2) (by decide +kernel) rfl (s_ald_n (j := 0) (by decide +kernel) rfl (s_getr (idx := 33) (by decide +kernel) fl1_33 (by decide) (s_ild (by decide +kernel) (s_aald (by decide +kernel) (s_geti (idx := 108) (by decide +kernel) fl1_108 (by decide) (s_i2l (by decide +kernel) (s_ladd (by decide +kernel) (s_lst_n (j := 2) (by decide +kernel) rfl (by decide) (zCompany_inShips_49 hB))))))))))
def qCompany_inShips_14 (d mc ms : Nat) (B : Nat → Pd) (K : Ps) : Pd := (i_lld 2 (i_ald 0 (i_getr 1 6 (i_ild 4 (i_aald (i_getr 7 4 (i_ild 1 (i_iald (i_i2l (i_ladd (i_lst 2 (i_ild 1 (i_ci 1 (i_ic_ne (qCompany_inShips_49 d mc ms B K) (qCompany_inShips_35 d mc ms B K)))))))))))))))
theorem zCompany_inShips_14 {d mc ms : Nat} {B : Nat → Pd} {K : Ps} (hB : ∀ pc, Le (B pc) (G cCompany_inShips "VoyageCompany$Company" 5 (some .long) "inShips" (rm (d + 1) mc ms) (QM mc ms K) pc)) : Le (qCompany_inShips_14 d mc ms B K) (G cCompany_inShips "VoyageCompany$Company" 5 (some .long) "inShips" (rm (d + 1) mc ms) (QM mc ms K) 14) := by
  unfold qCompany_inShips_14
  exact (s_lld_n (j := 2) (by decide +kernel) rfl (s_ald_n (j := 0) (by decide +kernel) rfl (s_getr (idx := 33) (by decide +kernel) fl1_33 (by decide) (s_ild (by decide +kernel) (s_aald (by decide +kernel) (s_getr (idx := 105) (by decide +kernel) fl1_105 (by decide) (s_ild_n (j := 1) (by decide +kernel) rfl (s_iald (by decide +kernel) (s_i2l (by decide +kernel) (s_ladd (by decide +kernel) (s_lst_n (j := 2) (by decide +kernel) rfl (by decide) (s_ild_n (j := 1) (by decide +kernel) rfl (s_iconst (n := 1) (v := 1) (by decide +kernel) (by decide +kernel) (s_ic_ne (off := 17) (tgt := 49) (by decide +kernel) (by decide) (zCompany_inShips_49 hB) (zCompany_inShips_35 hB)))))))))))))))
def qCompany_inShips_5 (d mc ms : Nat) (B : Nat → Pd) (K : Ps) : Pd := (i_ild 4 (i_ald 0 (i_geti 1 1 (i_ic_ge (qCompany_inShips_55 d mc ms B K) (qCompany_inShips_14 d mc ms B K)))))
theorem zCompany_inShips_5 {d mc ms : Nat} {B : Nat → Pd} {K : Ps} (hB : ∀ pc, Le (B pc) (G cCompany_inShips "VoyageCompany$Company" 5 (some .long) "inShips" (rm (d + 1) mc ms) (QM mc ms K) pc)) : Le (qCompany_inShips_5 d mc ms B K) (G cCompany_inShips "VoyageCompany$Company" 5 (some .long) "inShips" (rm (d + 1) mc ms) (QM mc ms K) 5) := by
  unfold qCompany_inShips_5
  exact (s_ild (by decide +kernel) (s_ald_n (j := 0) (by decide +kernel) rfl (s_geti (idx := 61) (by decide +kernel) fl1_61 (by decide) (s_ic_ge (off := 44) (tgt := 55) (by decide +kernel) (by decide) (zCompany_inShips_55 hB) (zCompany_inShips_14 hB)))))
def qCompany_inShips_0 (d mc ms : Nat) (B : Nat → Pd) (K : Ps) : Pd := (i_cl 0 (i_lst 2 (i_ci 0 (i_ist 4 (B 5)))))
theorem zCompany_inShips_0 {d mc ms : Nat} {B : Nat → Pd} {K : Ps} (hB : ∀ pc, Le (B pc) (G cCompany_inShips "VoyageCompany$Company" 5 (some .long) "inShips" (rm (d + 1) mc ms) (QM mc ms K) pc)) : Le (qCompany_inShips_0 d mc ms B K) (G cCompany_inShips "VoyageCompany$Company" 5 (some .long) "inShips" (rm (d + 1) mc ms) (QM mc ms K) 0) := by
  unfold qCompany_inShips_0
  exact (s_lconst (n := 0) (v := 0) (by decide +kernel) (by decide +kernel) (s_lst_n (j := 2) (by decide +kernel) rfl (by decide) (s_iconst (n := 0) (v := 0) (by decide +kernel) (by decide +kernel) (s_ist (by decide +kernel) (by decide) (hB 5)))))
/-- VoyageCompany$Company.inShips(I)J, at its places -/
def gCompany_inShips (d mc ms : Nat) (K : Ps) : Nat → Pd := G cCompany_inShips "VoyageCompany$Company" 5 (some .long) "inShips" (rm (d + 1) mc ms) (QM mc ms K)
theorem eCompany_inShips {d mc ms : Nat} {K : Ps} {av : List Value} {E : Nat → Prop} {R : Nat → Nat → Value} {I : Nat → Nat → Int32} {J : Nat → Nat → Int64} (hn : (lg_sl av).length ≤ 5) (h : qCompany_inShips_0 d mc ms (gCompany_inShips d mc ms K) K (lv_args 0 av) [] E R I J 0 0) : CL yCompany_inShips cCompany_inShips 5 (some .long) (d + 1) mc ms av E R I J K :=
  CL.of (by decide +kernel) hn (zCompany_inShips_0 (fun _ => Le.refl) _ _ _ _ _ _ _ _ h)
theorem lCompany_inShips_5 {d mc ms : Nat} {K : Ps} : Le (qCompany_inShips_5 d mc ms (gCompany_inShips d mc ms K) K) (gCompany_inShips d mc ms K 5) := zCompany_inShips_5 (fun _ => Le.refl)
def qCompany_storeBehind_47 (d mc ms : Nat) (B : Nat → Pd) (K : Ps) : Pd := (i_iret mc ms K)
theorem zCompany_storeBehind_47 {d mc ms : Nat} {B : Nat → Pd} {K : Ps} (hB : ∀ pc, Le (B pc) (G cCompany_storeBehind "VoyageCompany$Company" 5 (some .int) "storeBehind" (rm (d + 1) mc ms) (QM mc ms K) pc)) : Le (qCompany_storeBehind_47 d mc ms B K) (G cCompany_storeBehind "VoyageCompany$Company" 5 (some .int) "storeBehind" (rm (d + 1) mc ms) (QM mc ms K) 47) := by
  unfold qCompany_storeBehind_47
  exact (s_iret (by decide +kernel) rfl)
def qCompany_storeBehind_34 (d mc ms : Nat) (B : Nat → Pd) (K : Ps) : Pd := (i_ald 4 (i_getr 4 0 (i_ild 3 (i_ild 1 (i_call 2 4 yPage_placeOf cPage_placeOf 2 (some .int) mc ms d 2 (i_ild 2 (i_iadd (i_iald (qCompany_storeBehind_47 d mc ms B K)))))))))
theorem zCompany_storeBehind_34 {d mc ms : Nat} {B : Nat → Pd} {K : Ps} (hB : ∀ pc, Le (B pc) (G cCompany_storeBehind "VoyageCompany$Company" 5 (some .int) "storeBehind" (rm (d + 1) mc ms) (QM mc ms K) pc)) : Le (qCompany_storeBehind_34 d mc ms B K) (G cCompany_storeBehind "VoyageCompany$Company" 5 (some .int) "storeBehind" (rm (d + 1) mc ms) (QM mc ms K) 34) := by
  unfold qCompany_storeBehind_34
  exact (s_ald (by decide +kernel) (s_getr (idx := 111) (by decide +kernel) fl1_111 (by decide) (s_ild_n (j := 3) (by decide +kernel) rfl (s_ild_n (j := 1) (by decide +kernel) rfl (s_call (idx := 114) (by decide +kernel) ml1_114 rmk (s_ild_n (j := 2) (by decide +kernel) rfl (s_iadd (by decide +kernel) (s_iald (by decide +kernel) (zCompany_storeBehind_47 hB)))))))))
def qCompany_storeBehind_30 (d mc ms : Nat) (B : Nat → Pd) (K : Ps) : Pd := (i_ci (-1) (qCompany_storeBehind_47 d mc ms B K))
theorem zCompany_storeBehind_30 {d mc ms : Nat} {B : Nat → Pd} {K : Ps} (hB : ∀ pc, Le (B pc) (G cCompany_storeBehind "VoyageCompany$Company" 5 (some .int) "storeBehind" (rm (d + 1) mc ms) (QM mc ms K) pc)) : Le (qCompany_storeBehind_30 d mc ms B K) (G cCompany_storeBehind "VoyageCompany$Company" 5 (some .int) "storeBehind" (rm (d + 1) mc ms) (QM mc ms K) 30) := by
  unfold qCompany_storeBehind_30
  exact (s_iconst (n := (-1)) (v := (-1)) (by decide +kernel) (by decide +kernel) (s_goto (off := 16) (tgt := 47) (by decide +kernel) (by decide) (zCompany_storeBehind_47 hB)))
def qCompany_storeBehind_14 (d mc ms : Nat) (B : Nat → Pd) (K : Ps) : Pd := (i_ald 0 (i_getr 1 9 (i_ild 3 (i_ci 60 (i_idiv (i_aald (i_ast 4 (i_ald 4 (i_ifnonnull (qCompany_storeBehind_34 d mc ms B K) (qCompany_storeBehind_30 d mc ms B K))))))))))
theorem zCompany_storeBehind_14 {d mc ms : Nat} {B : Nat → Pd} {K : Ps} (hB : ∀ pc, Le (B pc) (G cCompany_storeBehind "VoyageCompany$Company" 5 (some .int) "storeBehind" (rm (d + 1) mc ms) (QM mc ms K) pc)) : Le (qCompany_storeBehind_14 d mc ms B K) (G cCompany_storeBehind "VoyageCompany$Company" 5 (some .int) "storeBehind" (rm (d + 1) mc ms) (QM mc ms K) 14) := by
  unfold qCompany_storeBehind_14
  exact (s_ald_n (j := 0) (by decide +kernel) rfl (s_getr (idx := 54) (by decide +kernel) fl1_54 (by decide) (s_ild_n (j := 3) (by decide +kernel) rfl (s_bipush (n := 60) (v := 60) (by decide +kernel) (by decide +kernel) (s_idiv (by decide +kernel) (s_aald (by decide +kernel) (s_ast (by decide +kernel) (by decide) (s_ald (by decide +kernel) (s_ifnonnull (off := 7) (tgt := 34) (by decide +kernel) (by decide) (zCompany_storeBehind_34 hB) (zCompany_storeBehind_30 hB))))))))))
def qCompany_storeBehind_12 (d mc ms : Nat) (B : Nat → Pd) (K : Ps) : Pd := (i_ci (-1) (i_iret mc ms K))
theorem zCompany_storeBehind_12 {d mc ms : Nat} {B : Nat → Pd} {K : Ps} (hB : ∀ pc, Le (B pc) (G cCompany_storeBehind "VoyageCompany$Company" 5 (some .int) "storeBehind" (rm (d + 1) mc ms) (QM mc ms K) pc)) : Le (qCompany_storeBehind_12 d mc ms B K) (G cCompany_storeBehind "VoyageCompany$Company" 5 (some .int) "storeBehind" (rm (d + 1) mc ms) (QM mc ms K) 12) := by
  unfold qCompany_storeBehind_12
  exact (s_iconst (n := (-1)) (v := (-1)) (by decide +kernel) (by decide +kernel) (s_iret (by decide +kernel) rfl))
def qCompany_storeBehind_4 (d mc ms : Nat) (B : Nat → Pd) (K : Ps) : Pd := (i_ild 3 (i_ald 0 (i_geti 1 0 (i_ic_lt (qCompany_storeBehind_14 d mc ms B K) (qCompany_storeBehind_12 d mc ms B K)))))
theorem zCompany_storeBehind_4 {d mc ms : Nat} {B : Nat → Pd} {K : Ps} (hB : ∀ pc, Le (B pc) (G cCompany_storeBehind "VoyageCompany$Company" 5 (some .int) "storeBehind" (rm (d + 1) mc ms) (QM mc ms K) pc)) : Le (qCompany_storeBehind_4 d mc ms B K) (G cCompany_storeBehind "VoyageCompany$Company" 5 (some .int) "storeBehind" (rm (d + 1) mc ms) (QM mc ms K) 4) := by
  unfold qCompany_storeBehind_4
  exact (s_ild_n (j := 3) (by decide +kernel) rfl (s_ald_n (j := 0) (by decide +kernel) rfl (s_geti (idx := 58) (by decide +kernel) fl1_58 (by decide) (s_ic_lt (off := 5) (tgt := 14) (by decide +kernel) (by decide) (zCompany_storeBehind_14 hB) (zCompany_storeBehind_12 hB)))))
def qCompany_storeBehind_0 (d mc ms : Nat) (B : Nat → Pd) (K : Ps) : Pd := (i_ild 3 (i_if_lt (qCompany_storeBehind_12 d mc ms B K) (qCompany_storeBehind_4 d mc ms B K)))
theorem zCompany_storeBehind_0 {d mc ms : Nat} {B : Nat → Pd} {K : Ps} (hB : ∀ pc, Le (B pc) (G cCompany_storeBehind "VoyageCompany$Company" 5 (some .int) "storeBehind" (rm (d + 1) mc ms) (QM mc ms K) pc)) : Le (qCompany_storeBehind_0 d mc ms B K) (G cCompany_storeBehind "VoyageCompany$Company" 5 (some .int) "storeBehind" (rm (d + 1) mc ms) (QM mc ms K) 0) := by
  unfold qCompany_storeBehind_0
  exact (s_ild_n (j := 3) (by decide +kernel) rfl (s_if_lt (off := 11) (tgt := 12) (by decide +kernel) (by decide) (zCompany_storeBehind_12 hB) (zCompany_storeBehind_4 hB)))
/-- VoyageCompany$Company.storeBehind(III)I, at its places -/
def gCompany_storeBehind (d mc ms : Nat) (K : Ps) : Nat → Pd := G cCompany_storeBehind "VoyageCompany$Company" 5 (some .int) "storeBehind" (rm (d + 1) mc ms) (QM mc ms K)
theorem eCompany_storeBehind {d mc ms : Nat} {K : Ps} {av : List Value} {E : Nat → Prop} {R : Nat → Nat → Value} {I : Nat → Nat → Int32} {J : Nat → Nat → Int64} (hn : (lg_sl av).length ≤ 5) (h : qCompany_storeBehind_0 d mc ms (gCompany_storeBehind d mc ms K) K (lv_args 0 av) [] E R I J 0 0) : CL yCompany_storeBehind cCompany_storeBehind 5 (some .int) (d + 1) mc ms av E R I J K :=
  CL.of (by decide +kernel) hn (zCompany_storeBehind_0 (fun _ => Le.refl) _ _ _ _ _ _ _ _ h)
def qCompany_passMonth_53 (d mc ms : Nat) (B : Nat → Pd) (K : Ps) : Pd := (i_ald 0 (i_callA 0 1 yCompany_noteStores cCompany_noteStores 4 none mc ms d 1 (i_ald 0 (i_dup (i_geti 1 0 (i_ci 1 (i_iadd (i_puti 1 0 (i_vret mc ms K)))))))))
theorem zCompany_passMonth_53 {d mc ms : Nat} {B : Nat → Pd} {K : Ps} (hB : ∀ pc, Le (B pc) (G cCompany_passMonth "VoyageCompany$Company" 2 none "passMonth" (rm (d + 1) mc ms) (QM mc ms K) pc)) : Le (qCompany_passMonth_53 d mc ms B K) (G cCompany_passMonth "VoyageCompany$Company" 2 none "passMonth" (rm (d + 1) mc ms) (QM mc ms K) 53) := by
  unfold qCompany_passMonth_53
  exact (s_ald_n (j := 0) (by decide +kernel) rfl (s_callA (idx := 130) (by decide +kernel) ml1_130 rmk (s_ald_n (j := 0) (by decide +kernel) rfl (s_dup (by decide +kernel) (s_geti (idx := 58) (by decide +kernel) fl1_58 (by decide) (s_iconst (n := 1) (v := 1) (by decide +kernel) (by decide +kernel) (s_iadd (by decide +kernel) (s_puti (idx := 58) (by decide +kernel) fl1_58 (by decide) (by decide) (Or.inl (by decide +kernel)) (s_vret (by decide +kernel) rfl)))))))))
def qCompany_passMonth_38 (d mc ms : Nat) (B : Nat → Pd) (K : Ps) : Pd := (i_ald 0 (i_getr 1 5 (i_ild 1 (i_aald (i_call 0 5 yPort_settlePrices cPort_settlePrices 2 none mc ms d 1 (i_inc 1 1 (B 33)))))))
theorem zCompany_passMonth_38 {d mc ms : Nat} {B : Nat → Pd} {K : Ps} (hB : ∀ pc, Le (B pc) (G cCompany_passMonth "VoyageCompany$Company" 2 none "passMonth" (rm (d + 1) mc ms) (QM mc ms K) pc)) : Le (qCompany_passMonth_38 d mc ms B K) (G cCompany_passMonth "VoyageCompany$Company" 2 none "passMonth" (rm (d + 1) mc ms) (QM mc ms K) 38) := by
  unfold qCompany_passMonth_38
  exact (s_ald_n (j := 0) (by decide +kernel) rfl (s_getr (idx := 24) (by decide +kernel) fl1_24 (by decide) (s_ild_n (j := 1) (by decide +kernel) rfl (s_aald (by decide +kernel) (s_call (idx := 127) (by decide +kernel) ml1_127 rmk (s_inc (z := 1) (by decide +kernel) (by decide +kernel) (by decide) (s_goto (off := (-17)) (tgt := 33) (by decide +kernel) (by decide) (hB 33))))))))
def qCompany_passMonth_33 (d mc ms : Nat) (B : Nat → Pd) (K : Ps) : Pd := (i_ild 1 (i_ci 5 (i_ic_ge (qCompany_passMonth_53 d mc ms B K) (qCompany_passMonth_38 d mc ms B K))))
theorem zCompany_passMonth_33 {d mc ms : Nat} {B : Nat → Pd} {K : Ps} (hB : ∀ pc, Le (B pc) (G cCompany_passMonth "VoyageCompany$Company" 2 none "passMonth" (rm (d + 1) mc ms) (QM mc ms K) pc)) : Le (qCompany_passMonth_33 d mc ms B K) (G cCompany_passMonth "VoyageCompany$Company" 2 none "passMonth" (rm (d + 1) mc ms) (QM mc ms K) 33) := by
  unfold qCompany_passMonth_33
  exact (s_ild_n (j := 1) (by decide +kernel) rfl (s_iconst (n := 5) (v := 5) (by decide +kernel) (by decide +kernel) (s_ic_ge (off := 18) (tgt := 53) (by decide +kernel) (by decide) (zCompany_passMonth_53 hB) (zCompany_passMonth_38 hB))))
def qCompany_passMonth_31 (d mc ms : Nat) (B : Nat → Pd) (K : Ps) : Pd := (i_ci 1 (i_ist 1 (B 33)))
theorem zCompany_passMonth_31 {d mc ms : Nat} {B : Nat → Pd} {K : Ps} (hB : ∀ pc, Le (B pc) (G cCompany_passMonth "VoyageCompany$Company" 2 none "passMonth" (rm (d + 1) mc ms) (QM mc ms K) pc)) : Le (qCompany_passMonth_31 d mc ms B K) (G cCompany_passMonth "VoyageCompany$Company" 2 none "passMonth" (rm (d + 1) mc ms) (QM mc ms K) 31) := by
  unfold qCompany_passMonth_31
  exact (s_iconst (n := 1) (v := 1) (by decide +kernel) (by decide +kernel) (s_ist_n (j := 1) (by decide +kernel) rfl (by decide) (hB 33)))
def qCompany_passMonth_15 (d mc ms : Nat) (B : Nat → Pd) (K : Ps) : Pd := (i_ald 0 (i_ald 0 (i_getr 1 5 (i_ild 1 (i_aald (i_call 0 1 yCompany_obeyOrders cCompany_obeyOrders 3 none mc ms d 2 (i_inc 1 1 (B 10))))))))
theorem zCompany_passMonth_15 {d mc ms : Nat} {B : Nat → Pd} {K : Ps} (hB : ∀ pc, Le (B pc) (G cCompany_passMonth "VoyageCompany$Company" 2 none "passMonth" (rm (d + 1) mc ms) (QM mc ms K) pc)) : Le (qCompany_passMonth_15 d mc ms B K) (G cCompany_passMonth "VoyageCompany$Company" 2 none "passMonth" (rm (d + 1) mc ms) (QM mc ms K) 15) := by
  unfold qCompany_passMonth_15
  exact (s_ald_n (j := 0) (by decide +kernel) rfl (s_ald_n (j := 0) (by decide +kernel) rfl (s_getr (idx := 24) (by decide +kernel) fl1_24 (by decide) (s_ild_n (j := 1) (by decide +kernel) rfl (s_aald (by decide +kernel) (s_call (idx := 124) (by decide +kernel) ml1_124 rmk (s_inc (z := 1) (by decide +kernel) (by decide +kernel) (by decide) (s_goto (off := (-18)) (tgt := 10) (by decide +kernel) (by decide) (hB 10)))))))))
def qCompany_passMonth_10 (d mc ms : Nat) (B : Nat → Pd) (K : Ps) : Pd := (i_ild 1 (i_ci 5 (i_ic_ge (qCompany_passMonth_31 d mc ms B K) (qCompany_passMonth_15 d mc ms B K))))
theorem zCompany_passMonth_10 {d mc ms : Nat} {B : Nat → Pd} {K : Ps} (hB : ∀ pc, Le (B pc) (G cCompany_passMonth "VoyageCompany$Company" 2 none "passMonth" (rm (d + 1) mc ms) (QM mc ms K) pc)) : Le (qCompany_passMonth_10 d mc ms B K) (G cCompany_passMonth "VoyageCompany$Company" 2 none "passMonth" (rm (d + 1) mc ms) (QM mc ms K) 10) := by
  unfold qCompany_passMonth_10
  exact (s_ild_n (j := 1) (by decide +kernel) rfl (s_iconst (n := 5) (v := 5) (by decide +kernel) (by decide +kernel) (s_ic_ge (off := 19) (tgt := 31) (by decide +kernel) (by decide) (zCompany_passMonth_31 hB) (zCompany_passMonth_15 hB))))
def qCompany_passMonth_0 (d mc ms : Nat) (B : Nat → Pd) (K : Ps) : Pd := (i_ald 0 (i_call 0 1 yCompany_bringShips cCompany_bringShips 3 none mc ms d 1 (i_ald 0 (i_call 0 1 yCompany_bringLetters cCompany_bringLetters 4 none mc ms d 1 (i_ci 1 (i_ist 1 (B 10)))))))
theorem zCompany_passMonth_0 {d mc ms : Nat} {B : Nat → Pd} {K : Ps} (hB : ∀ pc, Le (B pc) (G cCompany_passMonth "VoyageCompany$Company" 2 none "passMonth" (rm (d + 1) mc ms) (QM mc ms K) pc)) : Le (qCompany_passMonth_0 d mc ms B K) (G cCompany_passMonth "VoyageCompany$Company" 2 none "passMonth" (rm (d + 1) mc ms) (QM mc ms K) 0) := by
  unfold qCompany_passMonth_0
  exact (s_ald_n (j := 0) (by decide +kernel) rfl (s_call (idx := 118) (by decide +kernel) ml1_118 rmk (s_ald_n (j := 0) (by decide +kernel) rfl (s_call (idx := 121) (by decide +kernel) ml1_121 rmk (s_iconst (n := 1) (v := 1) (by decide +kernel) (by decide +kernel) (s_ist_n (j := 1) (by decide +kernel) rfl (by decide) (hB 10)))))))
/-- VoyageCompany$Company.passMonth()V, at its places -/
def gCompany_passMonth (d mc ms : Nat) (K : Ps) : Nat → Pd := G cCompany_passMonth "VoyageCompany$Company" 2 none "passMonth" (rm (d + 1) mc ms) (QM mc ms K)
theorem eCompany_passMonth {d mc ms : Nat} {K : Ps} {av : List Value} {E : Nat → Prop} {R : Nat → Nat → Value} {I : Nat → Nat → Int32} {J : Nat → Nat → Int64} (hn : (lg_sl av).length ≤ 2) (h : qCompany_passMonth_0 d mc ms (gCompany_passMonth d mc ms K) K (lv_args 0 av) [] E R I J 0 0) : CL yCompany_passMonth cCompany_passMonth 2 none (d + 1) mc ms av E R I J K :=
  CL.of (by decide +kernel) hn (zCompany_passMonth_0 (fun _ => Le.refl) _ _ _ _ _ _ _ _ h)
theorem lCompany_passMonth_10 {d mc ms : Nat} {K : Ps} : Le (qCompany_passMonth_10 d mc ms (gCompany_passMonth d mc ms K) K) (gCompany_passMonth d mc ms K 10) := zCompany_passMonth_10 (fun _ => Le.refl)
theorem lCompany_passMonth_33 {d mc ms : Nat} {K : Ps} : Le (qCompany_passMonth_33 d mc ms (gCompany_passMonth d mc ms K) K) (gCompany_passMonth d mc ms K 33) := zCompany_passMonth_33 (fun _ => Le.refl)
def qCompany_bringShips_74 (d mc ms : Nat) (B : Nat → Pd) (K : Ps) : Pd := (i_vret mc ms K)
theorem zCompany_bringShips_74 {d mc ms : Nat} {B : Nat → Pd} {K : Ps} (hB : ∀ pc, Le (B pc) (G cCompany_bringShips "VoyageCompany$Company" 3 none "bringShips" (rm (d + 1) mc ms) (QM mc ms K) pc)) : Le (qCompany_bringShips_74 d mc ms B K) (G cCompany_bringShips "VoyageCompany$Company" 3 none "bringShips" (rm (d + 1) mc ms) (QM mc ms K) 74) := by
  unfold qCompany_bringShips_74
  exact (s_vret (by decide +kernel) rfl)
def qCompany_bringShips_68 (d mc ms : Nat) (B : Nat → Pd) (K : Ps) : Pd := (i_inc 1 1 (B 2))
theorem zCompany_bringShips_68 {d mc ms : Nat} {B : Nat → Pd} {K : Ps} (hB : ∀ pc, Le (B pc) (G cCompany_bringShips "VoyageCompany$Company" 3 none "bringShips" (rm (d + 1) mc ms) (QM mc ms K) pc)) : Le (qCompany_bringShips_68 d mc ms B K) (G cCompany_bringShips "VoyageCompany$Company" 3 none "bringShips" (rm (d + 1) mc ms) (QM mc ms K) 68) := by
  unfold qCompany_bringShips_68
  exact (s_inc (z := 1) (by decide +kernel) (by decide +kernel) (by decide) (s_goto (off := (-69)) (tgt := 2) (by decide +kernel) (by decide) (hB 2)))
def qCompany_bringShips_65 (d mc ms : Nat) (B : Nat → Pd) (K : Ps) : Pd := (i_puti 7 6 (qCompany_bringShips_68 d mc ms B K))
theorem zCompany_bringShips_65 {d mc ms : Nat} {B : Nat → Pd} {K : Ps} (hB : ∀ pc, Le (B pc) (G cCompany_bringShips "VoyageCompany$Company" 3 none "bringShips" (rm (d + 1) mc ms) (QM mc ms K) pc)) : Le (qCompany_bringShips_65 d mc ms B K) (G cCompany_bringShips "VoyageCompany$Company" 3 none "bringShips" (rm (d + 1) mc ms) (QM mc ms K) 65) := by
  unfold qCompany_bringShips_65
  exact (s_puti (idx := 95) (by decide +kernel) fl1_95 (by decide) (by decide) (Or.inl (by decide +kernel)) (zCompany_bringShips_68 hB))
def qCompany_bringShips_61 (d mc ms : Nat) (B : Nat → Pd) (K : Ps) : Pd := (i_ald 2 (i_geti 7 7 (qCompany_bringShips_65 d mc ms B K)))
theorem zCompany_bringShips_61 {d mc ms : Nat} {B : Nat → Pd} {K : Ps} (hB : ∀ pc, Le (B pc) (G cCompany_bringShips "VoyageCompany$Company" 3 none "bringShips" (rm (d + 1) mc ms) (QM mc ms K) pc)) : Le (qCompany_bringShips_61 d mc ms B K) (G cCompany_bringShips "VoyageCompany$Company" 3 none "bringShips" (rm (d + 1) mc ms) (QM mc ms K) 61) := by
  unfold qCompany_bringShips_61
  exact (s_ald_n (j := 2) (by decide +kernel) rfl (s_geti (idx := 143) (by decide +kernel) fl1_143 (by decide) (zCompany_bringShips_65 hB)))
def qCompany_bringShips_56 (d mc ms : Nat) (B : Nat → Pd) (K : Ps) : Pd := (i_ci (-2) (qCompany_bringShips_65 d mc ms B K))
theorem zCompany_bringShips_56 {d mc ms : Nat} {B : Nat → Pd} {K : Ps} (hB : ∀ pc, Le (B pc) (G cCompany_bringShips "VoyageCompany$Company" 3 none "bringShips" (rm (d + 1) mc ms) (QM mc ms K) pc)) : Le (qCompany_bringShips_56 d mc ms B K) (G cCompany_bringShips "VoyageCompany$Company" 3 none "bringShips" (rm (d + 1) mc ms) (QM mc ms K) 56) := by
  unfold qCompany_bringShips_56
  exact (s_bipush (n := (-2)) (v := (-2)) (by decide +kernel) (by decide +kernel) (s_goto (off := 7) (tgt := 65) (by decide +kernel) (by decide) (zCompany_bringShips_65 hB)))
def qCompany_bringShips_48 (d mc ms : Nat) (B : Nat → Pd) (K : Ps) : Pd := (i_ald 2 (i_ald 2 (i_geti 7 9 (i_if_eq (qCompany_bringShips_61 d mc ms B K) (qCompany_bringShips_56 d mc ms B K)))))
theorem zCompany_bringShips_48 {d mc ms : Nat} {B : Nat → Pd} {K : Ps} (hB : ∀ pc, Le (B pc) (G cCompany_bringShips "VoyageCompany$Company" 3 none "bringShips" (rm (d + 1) mc ms) (QM mc ms K) pc)) : Le (qCompany_bringShips_48 d mc ms B K) (G cCompany_bringShips "VoyageCompany$Company" 3 none "bringShips" (rm (d + 1) mc ms) (QM mc ms K) 48) := by
  unfold qCompany_bringShips_48
  exact (s_ald_n (j := 2) (by decide +kernel) rfl (s_ald_n (j := 2) (by decide +kernel) rfl (s_geti (idx := 136) (by decide +kernel) fl1_136 (by decide) (s_if_eq (off := 8) (tgt := 61) (by decide +kernel) (by decide) (zCompany_bringShips_61 hB) (zCompany_bringShips_56 hB)))))
def qCompany_bringShips_43 (d mc ms : Nat) (B : Nat → Pd) (K : Ps) : Pd := (i_ald 0 (i_ald 2 (i_call 0 1 yCompany_writeOff cCompany_writeOff 3 none mc ms d 2 (qCompany_bringShips_48 d mc ms B K))))
theorem zCompany_bringShips_43 {d mc ms : Nat} {B : Nat → Pd} {K : Ps} (hB : ∀ pc, Le (B pc) (G cCompany_bringShips "VoyageCompany$Company" 3 none "bringShips" (rm (d + 1) mc ms) (QM mc ms K) pc)) : Le (qCompany_bringShips_43 d mc ms B K) (G cCompany_bringShips "VoyageCompany$Company" 3 none "bringShips" (rm (d + 1) mc ms) (QM mc ms K) 43) := by
  unfold qCompany_bringShips_43
  exact (s_ald_n (j := 0) (by decide +kernel) rfl (s_ald_n (j := 2) (by decide +kernel) rfl (s_call (idx := 140) (by decide +kernel) ml1_140 rmk (zCompany_bringShips_48 hB))))
def qCompany_bringShips_36 (d mc ms : Nat) (B : Nat → Pd) (K : Ps) : Pd := (i_ald 2 (i_geti 7 9 (i_if_eq (qCompany_bringShips_48 d mc ms B K) (qCompany_bringShips_43 d mc ms B K))))
theorem zCompany_bringShips_36 {d mc ms : Nat} {B : Nat → Pd} {K : Ps} (hB : ∀ pc, Le (B pc) (G cCompany_bringShips "VoyageCompany$Company" 3 none "bringShips" (rm (d + 1) mc ms) (QM mc ms K) pc)) : Le (qCompany_bringShips_36 d mc ms B K) (G cCompany_bringShips "VoyageCompany$Company" 3 none "bringShips" (rm (d + 1) mc ms) (QM mc ms K) 36) := by
  unfold qCompany_bringShips_36
  exact (s_ald_n (j := 2) (by decide +kernel) rfl (s_geti (idx := 136) (by decide +kernel) fl1_136 (by decide) (s_if_eq (off := 8) (tgt := 48) (by decide +kernel) (by decide) (zCompany_bringShips_48 hB) (zCompany_bringShips_43 hB))))
def qCompany_bringShips_25 (d mc ms : Nat) (B : Nat → Pd) (K : Ps) : Pd := (i_ald 2 (i_geti 7 8 (i_ald 0 (i_geti 1 0 (i_ic_ne (qCompany_bringShips_68 d mc ms B K) (qCompany_bringShips_36 d mc ms B K))))))
theorem zCompany_bringShips_25 {d mc ms : Nat} {B : Nat → Pd} {K : Ps} (hB : ∀ pc, Le (B pc) (G cCompany_bringShips "VoyageCompany$Company" 3 none "bringShips" (rm (d + 1) mc ms) (QM mc ms K) pc)) : Le (qCompany_bringShips_25 d mc ms B K) (G cCompany_bringShips "VoyageCompany$Company" 3 none "bringShips" (rm (d + 1) mc ms) (QM mc ms K) 25) := by
  unfold qCompany_bringShips_25
  exact (s_ald_n (j := 2) (by decide +kernel) rfl (s_geti (idx := 133) (by decide +kernel) fl1_133 (by decide) (s_ald_n (j := 0) (by decide +kernel) rfl (s_geti (idx := 58) (by decide +kernel) fl1_58 (by decide) (s_ic_ne (off := 35) (tgt := 68) (by decide +kernel) (by decide) (zCompany_bringShips_68 hB) (zCompany_bringShips_36 hB))))))
def qCompany_bringShips_10 (d mc ms : Nat) (B : Nat → Pd) (K : Ps) : Pd := (i_ald 0 (i_getr 1 6 (i_ild 1 (i_aald (i_ast 2 (i_ald 2 (i_geti 7 6 (i_ci (-1) (i_ic_ne (qCompany_bringShips_68 d mc ms B K) (qCompany_bringShips_25 d mc ms B K))))))))))
theorem zCompany_bringShips_10 {d mc ms : Nat} {B : Nat → Pd} {K : Ps} (hB : ∀ pc, Le (B pc) (G cCompany_bringShips "VoyageCompany$Company" 3 none "bringShips" (rm (d + 1) mc ms) (QM mc ms K) pc)) : Le (qCompany_bringShips_10 d mc ms B K) (G cCompany_bringShips "VoyageCompany$Company" 3 none "bringShips" (rm (d + 1) mc ms) (QM mc ms K) 10) := by
  unfold qCompany_bringShips_10
  exact (s_ald_n (j := 0) (by decide +kernel) rfl (s_getr (idx := 33) (by decide +kernel) fl1_33 (by decide) (s_ild_n (j := 1) (by decide +kernel) rfl (s_aald (by decide +kernel) (s_ast_n (j := 2) (by decide +kernel) rfl (by decide) (s_ald_n (j := 2) (by decide +kernel) rfl (s_geti (idx := 95) (by decide +kernel) fl1_95 (by decide) (s_iconst (n := (-1)) (v := (-1)) (by decide +kernel) (by decide +kernel) (s_ic_ne (off := 46) (tgt := 68) (by decide +kernel) (by decide) (zCompany_bringShips_68 hB) (zCompany_bringShips_25 hB))))))))))
def qCompany_bringShips_2 (d mc ms : Nat) (B : Nat → Pd) (K : Ps) : Pd := (i_ild 1 (i_ald 0 (i_geti 1 1 (i_ic_ge (qCompany_bringShips_74 d mc ms B K) (qCompany_bringShips_10 d mc ms B K)))))
theorem zCompany_bringShips_2 {d mc ms : Nat} {B : Nat → Pd} {K : Ps} (hB : ∀ pc, Le (B pc) (G cCompany_bringShips "VoyageCompany$Company" 3 none "bringShips" (rm (d + 1) mc ms) (QM mc ms K) pc)) : Le (qCompany_bringShips_2 d mc ms B K) (G cCompany_bringShips "VoyageCompany$Company" 3 none "bringShips" (rm (d + 1) mc ms) (QM mc ms K) 2) := by
  unfold qCompany_bringShips_2
  exact (s_ild_n (j := 1) (by decide +kernel) rfl (s_ald_n (j := 0) (by decide +kernel) rfl (s_geti (idx := 61) (by decide +kernel) fl1_61 (by decide) (s_ic_ge (off := 67) (tgt := 74) (by decide +kernel) (by decide) (zCompany_bringShips_74 hB) (zCompany_bringShips_10 hB)))))
def qCompany_bringShips_0 (d mc ms : Nat) (B : Nat → Pd) (K : Ps) : Pd := (i_ci 0 (i_ist 1 (B 2)))
theorem zCompany_bringShips_0 {d mc ms : Nat} {B : Nat → Pd} {K : Ps} (hB : ∀ pc, Le (B pc) (G cCompany_bringShips "VoyageCompany$Company" 3 none "bringShips" (rm (d + 1) mc ms) (QM mc ms K) pc)) : Le (qCompany_bringShips_0 d mc ms B K) (G cCompany_bringShips "VoyageCompany$Company" 3 none "bringShips" (rm (d + 1) mc ms) (QM mc ms K) 0) := by
  unfold qCompany_bringShips_0
  exact (s_iconst (n := 0) (v := 0) (by decide +kernel) (by decide +kernel) (s_ist_n (j := 1) (by decide +kernel) rfl (by decide) (hB 2)))
/-- VoyageCompany$Company.bringShips()V, at its places -/
def gCompany_bringShips (d mc ms : Nat) (K : Ps) : Nat → Pd := G cCompany_bringShips "VoyageCompany$Company" 3 none "bringShips" (rm (d + 1) mc ms) (QM mc ms K)
theorem eCompany_bringShips {d mc ms : Nat} {K : Ps} {av : List Value} {E : Nat → Prop} {R : Nat → Nat → Value} {I : Nat → Nat → Int32} {J : Nat → Nat → Int64} (hn : (lg_sl av).length ≤ 3) (h : qCompany_bringShips_0 d mc ms (gCompany_bringShips d mc ms K) K (lv_args 0 av) [] E R I J 0 0) : CL yCompany_bringShips cCompany_bringShips 3 none (d + 1) mc ms av E R I J K :=
  CL.of (by decide +kernel) hn (zCompany_bringShips_0 (fun _ => Le.refl) _ _ _ _ _ _ _ _ h)
theorem lCompany_bringShips_2 {d mc ms : Nat} {K : Ps} : Le (qCompany_bringShips_2 d mc ms (gCompany_bringShips d mc ms K) K) (gCompany_bringShips d mc ms K 2) := zCompany_bringShips_2 (fun _ => Le.refl)
def qCompany_writeOff_35 (d mc ms : Nat) (B : Nat → Pd) (K : Ps) : Pd := (i_ald 0 (i_getr 1 8 (i_ci 1 (i_ci 4 (i_ald 1 (i_geti 7 5 (i_call 0 0 yBooks_enter cBooks_enter 4 none mc ms d 4 (i_ald 1 (i_ci 0 (i_puti 7 5 (i_vret mc ms K)))))))))))
theorem zCompany_writeOff_35 {d mc ms : Nat} {B : Nat → Pd} {K : Ps} (hB : ∀ pc, Le (B pc) (G cCompany_writeOff "VoyageCompany$Company" 3 none "writeOff" (rm (d + 1) mc ms) (QM mc ms K) pc)) : Le (qCompany_writeOff_35 d mc ms B K) (G cCompany_writeOff "VoyageCompany$Company" 3 none "writeOff" (rm (d + 1) mc ms) (QM mc ms K) 35) := by
  unfold qCompany_writeOff_35
  exact (s_ald_n (j := 0) (by decide +kernel) rfl (s_getr (idx := 48) (by decide +kernel) fl1_48 (by decide) (s_iconst (n := 1) (v := 1) (by decide +kernel) (by decide +kernel) (s_iconst (n := 4) (v := 4) (by decide +kernel) (by decide +kernel) (s_ald_n (j := 1) (by decide +kernel) rfl (s_geti (idx := 108) (by decide +kernel) fl1_108 (by decide) (s_call (idx := 146) (by decide +kernel) ml1_146 rmk (s_ald_n (j := 1) (by decide +kernel) rfl (s_iconst (n := 0) (v := 0) (by decide +kernel) (by decide +kernel) (s_puti (idx := 108) (by decide +kernel) fl1_108 (by decide) (by decide) (Or.inl (by decide +kernel)) (s_vret (by decide +kernel) rfl)))))))))))
def qCompany_writeOff_7 (d mc ms : Nat) (B : Nat → Pd) (K : Ps) : Pd := (i_ald 0 (i_getr 1 8 (i_ild 2 (i_ci 4 (i_ald 1 (i_getr 7 4 (i_ild 2 (i_iald (i_call 0 0 yBooks_enter cBooks_enter 4 none mc ms d 4 (i_ald 1 (i_getr 7 4 (i_ild 2 (i_ci 0 (i_iast (i_inc 2 1 (B 2))))))))))))))))
theorem zCompany_writeOff_7 {d mc ms : Nat} {B : Nat → Pd} {K : Ps} (hB : ∀ pc, Le (B pc) (G cCompany_writeOff "VoyageCompany$Company" 3 none "writeOff" (rm (d + 1) mc ms) (QM mc ms K) pc)) : Le (qCompany_writeOff_7 d mc ms B K) (G cCompany_writeOff "VoyageCompany$Company" 3 none "writeOff" (rm (d + 1) mc ms) (QM mc ms K) 7) := by
  unfold qCompany_writeOff_7
  exact (s_ald_n (j := 0) (by decide +kernel) rfl (s_getr (idx := 48) (by decide +kernel) fl1_48 (by decide) (s_ild_n (j := 2) (by decide +kernel) rfl (s_iconst (n := 4) (v := 4) (by decide +kernel) (by decide +kernel) (s_ald_n (j := 1) (by decide +kernel) rfl (s_getr (idx := 105) (by decide +kernel) fl1_105 (by decide) (s_ild_n (j := 2) (by decide +kernel) rfl (s_iald (by decide +kernel) (s_call (idx := 146) (by decide +kernel) ml1_146 rmk (s_ald_n (j := 1) (by decide +kernel) rfl (s_getr (idx := 105) (by decide +kernel) fl1_105 (by decide) (s_ild_n (j := 2) (by decide +kernel) rfl (s_iconst (n := 0) (v := 0) (by decide +kernel) (by decide +kernel) (s_iast (by decide +kernel) (s_inc (z := 1) (by decide +kernel) (by decide +kernel) (by decide) (s_goto (off := (-30)) (tgt := 2) (by decide +kernel) (by decide) (hB 2)))))))))))))))))
def qCompany_writeOff_2 (d mc ms : Nat) (B : Nat → Pd) (K : Ps) : Pd := (i_ild 2 (i_ci 4 (i_ic_ge (qCompany_writeOff_35 d mc ms B K) (qCompany_writeOff_7 d mc ms B K))))
theorem zCompany_writeOff_2 {d mc ms : Nat} {B : Nat → Pd} {K : Ps} (hB : ∀ pc, Le (B pc) (G cCompany_writeOff "VoyageCompany$Company" 3 none "writeOff" (rm (d + 1) mc ms) (QM mc ms K) pc)) : Le (qCompany_writeOff_2 d mc ms B K) (G cCompany_writeOff "VoyageCompany$Company" 3 none "writeOff" (rm (d + 1) mc ms) (QM mc ms K) 2) := by
  unfold qCompany_writeOff_2
  exact (s_ild_n (j := 2) (by decide +kernel) rfl (s_iconst (n := 4) (v := 4) (by decide +kernel) (by decide +kernel) (s_ic_ge (off := 31) (tgt := 35) (by decide +kernel) (by decide) (zCompany_writeOff_35 hB) (zCompany_writeOff_7 hB))))
def qCompany_writeOff_0 (d mc ms : Nat) (B : Nat → Pd) (K : Ps) : Pd := (i_ci 0 (i_ist 2 (B 2)))
theorem zCompany_writeOff_0 {d mc ms : Nat} {B : Nat → Pd} {K : Ps} (hB : ∀ pc, Le (B pc) (G cCompany_writeOff "VoyageCompany$Company" 3 none "writeOff" (rm (d + 1) mc ms) (QM mc ms K) pc)) : Le (qCompany_writeOff_0 d mc ms B K) (G cCompany_writeOff "VoyageCompany$Company" 3 none "writeOff" (rm (d + 1) mc ms) (QM mc ms K) 0) := by
  unfold qCompany_writeOff_0
  exact (s_iconst (n := 0) (v := 0) (by decide +kernel) (by decide +kernel) (s_ist_n (j := 2) (by decide +kernel) rfl (by decide) (hB 2)))
/-- VoyageCompany$Company.writeOff(LVoyageCompany$Ship;)V, at its places -/
def gCompany_writeOff (d mc ms : Nat) (K : Ps) : Nat → Pd := G cCompany_writeOff "VoyageCompany$Company" 3 none "writeOff" (rm (d + 1) mc ms) (QM mc ms K)
theorem eCompany_writeOff {d mc ms : Nat} {K : Ps} {av : List Value} {E : Nat → Prop} {R : Nat → Nat → Value} {I : Nat → Nat → Int32} {J : Nat → Nat → Int64} (hn : (lg_sl av).length ≤ 3) (h : qCompany_writeOff_0 d mc ms (gCompany_writeOff d mc ms K) K (lv_args 0 av) [] E R I J 0 0) : CL yCompany_writeOff cCompany_writeOff 3 none (d + 1) mc ms av E R I J K :=
  CL.of (by decide +kernel) hn (zCompany_writeOff_0 (fun _ => Le.refl) _ _ _ _ _ _ _ _ h)
theorem lCompany_writeOff_2 {d mc ms : Nat} {K : Ps} : Le (qCompany_writeOff_2 d mc ms (gCompany_writeOff d mc ms K) K) (gCompany_writeOff d mc ms K 2) := zCompany_writeOff_2 (fun _ => Le.refl)
def qCompany_bringLetters_53 (d mc ms : Nat) (B : Nat → Pd) (K : Ps) : Pd := (i_vret mc ms K)
theorem zCompany_bringLetters_53 {d mc ms : Nat} {B : Nat → Pd} {K : Ps} (hB : ∀ pc, Le (B pc) (G cCompany_bringLetters "VoyageCompany$Company" 4 none "bringLetters" (rm (d + 1) mc ms) (QM mc ms K) pc)) : Le (qCompany_bringLetters_53 d mc ms B K) (G cCompany_bringLetters "VoyageCompany$Company" 4 none "bringLetters" (rm (d + 1) mc ms) (QM mc ms K) 53) := by
  unfold qCompany_bringLetters_53
  exact (s_vret (by decide +kernel) rfl)
def qCompany_bringLetters_47 (d mc ms : Nat) (B : Nat → Pd) (K : Ps) : Pd := (i_inc 2 1 (B 10))
theorem zCompany_bringLetters_47 {d mc ms : Nat} {B : Nat → Pd} {K : Ps} (hB : ∀ pc, Le (B pc) (G cCompany_bringLetters "VoyageCompany$Company" 4 none "bringLetters" (rm (d + 1) mc ms) (QM mc ms K) pc)) : Le (qCompany_bringLetters_47 d mc ms B K) (G cCompany_bringLetters "VoyageCompany$Company" 4 none "bringLetters" (rm (d + 1) mc ms) (QM mc ms K) 47) := by
  unfold qCompany_bringLetters_47
  exact (s_inc (z := 1) (by decide +kernel) (by decide +kernel) (by decide) (s_goto (off := (-40)) (tgt := 10) (by decide +kernel) (by decide) (hB 10)))
def qCompany_bringLetters_31 (d mc ms : Nat) (B : Nat → Pd) (K : Ps) : Pd := (i_ald 0 (i_getr 1 5 (i_ild 2 (i_aald (i_ald 3 (i_ild 1 (i_iald (i_puti 5 5 (i_ald 3 (i_ild 1 (i_ci 0 (i_iast (qCompany_bringLetters_47 d mc ms B K)))))))))))))
theorem zCompany_bringLetters_31 {d mc ms : Nat} {B : Nat → Pd} {K : Ps} (hB : ∀ pc, Le (B pc) (G cCompany_bringLetters "VoyageCompany$Company" 4 none "bringLetters" (rm (d + 1) mc ms) (QM mc ms K) pc)) : Le (qCompany_bringLetters_31 d mc ms B K) (G cCompany_bringLetters "VoyageCompany$Company" 4 none "bringLetters" (rm (d + 1) mc ms) (QM mc ms K) 31) := by
  unfold qCompany_bringLetters_31
  exact (s_ald_n (j := 0) (by decide +kernel) rfl (s_getr (idx := 24) (by decide +kernel) fl1_24 (by decide) (s_ild_n (j := 2) (by decide +kernel) rfl (s_aald (by decide +kernel) (s_ald_n (j := 3) (by decide +kernel) rfl (s_ild_n (j := 1) (by decide +kernel) rfl (s_iald (by decide +kernel) (s_puti (idx := 153) (by decide +kernel) fl1_153 (by decide) (by decide) (Or.inl (by decide +kernel)) (s_ald_n (j := 3) (by decide +kernel) rfl (s_ild_n (j := 1) (by decide +kernel) rfl (s_iconst (n := 0) (v := 0) (by decide +kernel) (by decide +kernel) (s_iast (by decide +kernel) (zCompany_bringLetters_47 hB)))))))))))))
def qCompany_bringLetters_15 (d mc ms : Nat) (B : Nat → Pd) (K : Ps) : Pd := (i_ald 0 (i_getr 1 5 (i_ild 2 (i_aald (i_getr 5 6 (i_ast 3 (i_ald 3 (i_ild 1 (i_iald (i_if_eq (qCompany_bringLetters_47 d mc ms B K) (qCompany_bringLetters_31 d mc ms B K)))))))))))
theorem zCompany_bringLetters_15 {d mc ms : Nat} {B : Nat → Pd} {K : Ps} (hB : ∀ pc, Le (B pc) (G cCompany_bringLetters "VoyageCompany$Company" 4 none "bringLetters" (rm (d + 1) mc ms) (QM mc ms K) pc)) : Le (qCompany_bringLetters_15 d mc ms B K) (G cCompany_bringLetters "VoyageCompany$Company" 4 none "bringLetters" (rm (d + 1) mc ms) (QM mc ms K) 15) := by
  unfold qCompany_bringLetters_15
  exact (s_ald_n (j := 0) (by decide +kernel) rfl (s_getr (idx := 24) (by decide +kernel) fl1_24 (by decide) (s_ild_n (j := 2) (by decide +kernel) rfl (s_aald (by decide +kernel) (s_getr (idx := 150) (by decide +kernel) fl1_150 (by decide) (s_ast_n (j := 3) (by decide +kernel) rfl (by decide) (s_ald_n (j := 3) (by decide +kernel) rfl (s_ild_n (j := 1) (by decide +kernel) rfl (s_iald (by decide +kernel) (s_if_eq (off := 19) (tgt := 47) (by decide +kernel) (by decide) (zCompany_bringLetters_47 hB) (zCompany_bringLetters_31 hB)))))))))))
def qCompany_bringLetters_10 (d mc ms : Nat) (B : Nat → Pd) (K : Ps) : Pd := (i_ild 2 (i_ci 5 (i_ic_ge (qCompany_bringLetters_53 d mc ms B K) (qCompany_bringLetters_15 d mc ms B K))))
theorem zCompany_bringLetters_10 {d mc ms : Nat} {B : Nat → Pd} {K : Ps} (hB : ∀ pc, Le (B pc) (G cCompany_bringLetters "VoyageCompany$Company" 4 none "bringLetters" (rm (d + 1) mc ms) (QM mc ms K) pc)) : Le (qCompany_bringLetters_10 d mc ms B K) (G cCompany_bringLetters "VoyageCompany$Company" 4 none "bringLetters" (rm (d + 1) mc ms) (QM mc ms K) 10) := by
  unfold qCompany_bringLetters_10
  exact (s_ild_n (j := 2) (by decide +kernel) rfl (s_iconst (n := 5) (v := 5) (by decide +kernel) (by decide +kernel) (s_ic_ge (off := 41) (tgt := 53) (by decide +kernel) (by decide) (zCompany_bringLetters_53 hB) (zCompany_bringLetters_15 hB))))
def qCompany_bringLetters_0 (d mc ms : Nat) (B : Nat → Pd) (K : Ps) : Pd := (i_ald 0 (i_geti 1 0 (i_ci 13 (i_irem (i_ist 1 (i_ci 1 (i_ist 2 (B 10))))))))
theorem zCompany_bringLetters_0 {d mc ms : Nat} {B : Nat → Pd} {K : Ps} (hB : ∀ pc, Le (B pc) (G cCompany_bringLetters "VoyageCompany$Company" 4 none "bringLetters" (rm (d + 1) mc ms) (QM mc ms K) pc)) : Le (qCompany_bringLetters_0 d mc ms B K) (G cCompany_bringLetters "VoyageCompany$Company" 4 none "bringLetters" (rm (d + 1) mc ms) (QM mc ms K) 0) := by
  unfold qCompany_bringLetters_0
  exact (s_ald_n (j := 0) (by decide +kernel) rfl (s_geti (idx := 58) (by decide +kernel) fl1_58 (by decide) (s_bipush (n := 13) (v := 13) (by decide +kernel) (by decide +kernel) (s_irem (by decide +kernel) (s_ist_n (j := 1) (by decide +kernel) rfl (by decide) (s_iconst (n := 1) (v := 1) (by decide +kernel) (by decide +kernel) (s_ist_n (j := 2) (by decide +kernel) rfl (by decide) (hB 10))))))))
/-- VoyageCompany$Company.bringLetters()V, at its places -/
def gCompany_bringLetters (d mc ms : Nat) (K : Ps) : Nat → Pd := G cCompany_bringLetters "VoyageCompany$Company" 4 none "bringLetters" (rm (d + 1) mc ms) (QM mc ms K)
theorem eCompany_bringLetters {d mc ms : Nat} {K : Ps} {av : List Value} {E : Nat → Prop} {R : Nat → Nat → Value} {I : Nat → Nat → Int32} {J : Nat → Nat → Int64} (hn : (lg_sl av).length ≤ 4) (h : qCompany_bringLetters_0 d mc ms (gCompany_bringLetters d mc ms K) K (lv_args 0 av) [] E R I J 0 0) : CL yCompany_bringLetters cCompany_bringLetters 4 none (d + 1) mc ms av E R I J K :=
  CL.of (by decide +kernel) hn (zCompany_bringLetters_0 (fun _ => Le.refl) _ _ _ _ _ _ _ _ h)
theorem lCompany_bringLetters_10 {d mc ms : Nat} {K : Ps} : Le (qCompany_bringLetters_10 d mc ms (gCompany_bringLetters d mc ms K) K) (gCompany_bringLetters d mc ms K 10) := zCompany_bringLetters_10 (fun _ => Le.refl)
def qCompany_noteStores_63 (d mc ms : Nat) (B : Nat → Pd) (K : Ps) : Pd := (i_vret mc ms K)
theorem zCompany_noteStores_63 {d mc ms : Nat} {B : Nat → Pd} {K : Ps} (hB : ∀ pc, Le (B pc) (G cCompany_noteStores "VoyageCompany$Company" 4 none "noteStores" (rm (d + 1) mc ms) (QM mc ms K) pc)) : Le (qCompany_noteStores_63 d mc ms B K) (G cCompany_noteStores "VoyageCompany$Company" 4 none "noteStores" (rm (d + 1) mc ms) (QM mc ms K) 63) := by
  unfold qCompany_noteStores_63
  exact (s_vret (by decide +kernel) rfl)
def qCompany_noteStores_34 (d mc ms : Nat) (B : Nat → Pd) (K : Ps) : Pd := (i_ald 0 (i_getr 1 5 (i_ild 3 (i_aald (i_getr 5 1 (i_ci 0 (i_ald 2 (i_ald 0 (i_geti 1 0 (i_ild 3 (i_call 2 4 yPage_placeOf cPage_placeOf 2 (some .int) mc ms d 2 (i_ci 4 (i_acpy 14 (i_inc 3 1 (B 29)))))))))))))))
theorem zCompany_noteStores_34 {d mc ms : Nat} {B : Nat → Pd} {K : Ps} (hB : ∀ pc, Le (B pc) (G cCompany_noteStores "VoyageCompany$Company" 4 none "noteStores" (rm (d + 1) mc ms) (QM mc ms K) pc)) : Le (qCompany_noteStores_34 d mc ms B K) (G cCompany_noteStores "VoyageCompany$Company" 4 none "noteStores" (rm (d + 1) mc ms) (QM mc ms K) 34) := by
  unfold qCompany_noteStores_34
  exact (s_ald_n (j := 0) (by decide +kernel) rfl (s_getr (idx := 24) (by decide +kernel) fl1_24 (by decide) (s_ild_n (j := 3) (by decide +kernel) rfl (s_aald (by decide +kernel) (s_getr (idx := 98) (by decide +kernel) fl1_98 (by decide) (s_iconst (n := 0) (v := 0) (by decide +kernel) (by decide +kernel) (s_ald_n (j := 2) (by decide +kernel) rfl (s_ald_n (j := 0) (by decide +kernel) rfl (s_geti (idx := 58) (by decide +kernel) fl1_58 (by decide) (s_ild_n (j := 3) (by decide +kernel) rfl (s_call (idx := 114) (by decide +kernel) ml1_114 rmk (s_iconst (n := 4) (v := 4) (by decide +kernel) (by decide +kernel) (s_acpy (idx := 156) (by decide +kernel) (by decide) (lw_gm (by decide +kernel) (by decide +kernel)) rmo (s_inc (z := 1) (by decide +kernel) (by decide +kernel) (by decide) (s_goto (off := (-31)) (tgt := 29) (by decide +kernel) (by decide) (hB 29))))))))))))))))
def qCompany_noteStores_29 (d mc ms : Nat) (B : Nat → Pd) (K : Ps) : Pd := (i_ild 3 (i_ci 5 (i_ic_ge (qCompany_noteStores_63 d mc ms B K) (qCompany_noteStores_34 d mc ms B K))))
theorem zCompany_noteStores_29 {d mc ms : Nat} {B : Nat → Pd} {K : Ps} (hB : ∀ pc, Le (B pc) (G cCompany_noteStores "VoyageCompany$Company" 4 none "noteStores" (rm (d + 1) mc ms) (QM mc ms K) pc)) : Le (qCompany_noteStores_29 d mc ms B K) (G cCompany_noteStores "VoyageCompany$Company" 4 none "noteStores" (rm (d + 1) mc ms) (QM mc ms K) 29) := by
  unfold qCompany_noteStores_29
  exact (s_ild_n (j := 3) (by decide +kernel) rfl (s_iconst (n := 5) (v := 5) (by decide +kernel) (by decide +kernel) (s_ic_ge (off := 32) (tgt := 63) (by decide +kernel) (by decide) (zCompany_noteStores_63 hB) (zCompany_noteStores_34 hB))))
def qCompany_noteStores_18 (d mc ms : Nat) (B : Nat → Pd) (K : Ps) : Pd := (i_ald 0 (i_ild 1 (i_callA 0 1 yCompany_pageOf cCompany_pageOf 2 (some (.object "VoyageCompany$Page")) mc ms d 2 (i_getr 4 0 (i_ast 2 (i_ci 0 (i_ist 3 (B 29))))))))
theorem zCompany_noteStores_18 {d mc ms : Nat} {B : Nat → Pd} {K : Ps} (hB : ∀ pc, Le (B pc) (G cCompany_noteStores "VoyageCompany$Company" 4 none "noteStores" (rm (d + 1) mc ms) (QM mc ms K) pc)) : Le (qCompany_noteStores_18 d mc ms B K) (G cCompany_noteStores "VoyageCompany$Company" 4 none "noteStores" (rm (d + 1) mc ms) (QM mc ms K) 18) := by
  unfold qCompany_noteStores_18
  exact (s_ald_n (j := 0) (by decide +kernel) rfl (s_ild_n (j := 1) (by decide +kernel) rfl (s_callA (idx := 87) (by decide +kernel) ml1_87 rmk (s_getr (idx := 111) (by decide +kernel) fl1_111 (by decide) (s_ast_n (j := 2) (by decide +kernel) rfl (by decide) (s_iconst (n := 0) (v := 0) (by decide +kernel) (by decide +kernel) (s_ist_n (j := 3) (by decide +kernel) rfl (by decide) (hB 29))))))))
def qCompany_noteStores_17 (d mc ms : Nat) (B : Nat → Pd) (K : Ps) : Pd := (i_vret mc ms K)
theorem zCompany_noteStores_17 {d mc ms : Nat} {B : Nat → Pd} {K : Ps} (hB : ∀ pc, Le (B pc) (G cCompany_noteStores "VoyageCompany$Company" 4 none "noteStores" (rm (d + 1) mc ms) (QM mc ms K) pc)) : Le (qCompany_noteStores_17 d mc ms B K) (G cCompany_noteStores "VoyageCompany$Company" 4 none "noteStores" (rm (d + 1) mc ms) (QM mc ms K) 17) := by
  unfold qCompany_noteStores_17
  exact (s_vret (by decide +kernel) rfl)
def qCompany_noteStores_0 (d mc ms : Nat) (B : Nat → Pd) (K : Ps) : Pd := (i_ald 0 (i_geti 1 0 (i_ci 60 (i_idiv (i_ist 1 (i_ild 1 (i_ald 0 (i_getr 1 9 (i_alen (i_ic_lt (qCompany_noteStores_18 d mc ms B K) (qCompany_noteStores_17 d mc ms B K)))))))))))
theorem zCompany_noteStores_0 {d mc ms : Nat} {B : Nat → Pd} {K : Ps} (hB : ∀ pc, Le (B pc) (G cCompany_noteStores "VoyageCompany$Company" 4 none "noteStores" (rm (d + 1) mc ms) (QM mc ms K) pc)) : Le (qCompany_noteStores_0 d mc ms B K) (G cCompany_noteStores "VoyageCompany$Company" 4 none "noteStores" (rm (d + 1) mc ms) (QM mc ms K) 0) := by
  unfold qCompany_noteStores_0
  exact (s_ald_n (j := 0) (by decide +kernel) rfl (s_geti (idx := 58) (by decide +kernel) fl1_58 (by decide) (s_bipush (n := 60) (v := 60) (by decide +kernel) (by decide +kernel) (s_idiv (by decide +kernel) (s_ist_n (j := 1) (by decide +kernel) rfl (by decide) (s_ild_n (j := 1) (by decide +kernel) rfl (s_ald_n (j := 0) (by decide +kernel) rfl (s_getr (idx := 54) (by decide +kernel) fl1_54 (by decide) (s_alen (by decide +kernel) (s_ic_lt (off := 4) (tgt := 18) (by decide +kernel) (by decide) (zCompany_noteStores_18 hB) (zCompany_noteStores_17 hB)))))))))))
/-- VoyageCompany$Company.noteStores()V, at its places -/
def gCompany_noteStores (d mc ms : Nat) (K : Ps) : Nat → Pd := G cCompany_noteStores "VoyageCompany$Company" 4 none "noteStores" (rm (d + 1) mc ms) (QM mc ms K)
theorem eCompany_noteStores {d mc ms : Nat} {K : Ps} {av : List Value} {E : Nat → Prop} {R : Nat → Nat → Value} {I : Nat → Nat → Int32} {J : Nat → Nat → Int64} (hn : (lg_sl av).length ≤ 4) (h : qCompany_noteStores_0 d mc ms (gCompany_noteStores d mc ms K) K (lv_args 0 av) [] E R I J 0 0) : CL yCompany_noteStores cCompany_noteStores 4 none (d + 1) mc ms av E R I J K :=
  CL.of (by decide +kernel) hn (zCompany_noteStores_0 (fun _ => Le.refl) _ _ _ _ _ _ _ _ h)
theorem lCompany_noteStores_29 {d mc ms : Nat} {K : Ps} : Le (qCompany_noteStores_29 d mc ms (gCompany_noteStores d mc ms K) K) (gCompany_noteStores d mc ms K 29) := zCompany_noteStores_29 (fun _ => Le.refl)
def qCompany_obeyOrders_37 (d mc ms : Nat) (B : Nat → Pd) (K : Ps) : Pd := (i_vret mc ms K)
theorem zCompany_obeyOrders_37 {d mc ms : Nat} {B : Nat → Pd} {K : Ps} (hB : ∀ pc, Le (B pc) (G cCompany_obeyOrders "VoyageCompany$Company" 3 none "obeyOrders" (rm (d + 1) mc ms) (QM mc ms K) pc)) : Le (qCompany_obeyOrders_37 d mc ms B K) (G cCompany_obeyOrders "VoyageCompany$Company" 3 none "obeyOrders" (rm (d + 1) mc ms) (QM mc ms K) 37) := by
  unfold qCompany_obeyOrders_37
  exact (s_vret (by decide +kernel) rfl)
def qCompany_obeyOrders_27 (d mc ms : Nat) (B : Nat → Pd) (K : Ps) : Pd := (i_ald 0 (i_ald 1 (i_ald 2 (i_ald 1 (i_geti 5 4 (i_call 0 1 yCompany_obeyLine cCompany_obeyLine 7 none mc ms d 4 (qCompany_obeyOrders_37 d mc ms B K)))))))
theorem zCompany_obeyOrders_27 {d mc ms : Nat} {B : Nat → Pd} {K : Ps} (hB : ∀ pc, Le (B pc) (G cCompany_obeyOrders "VoyageCompany$Company" 3 none "obeyOrders" (rm (d + 1) mc ms) (QM mc ms K) pc)) : Le (qCompany_obeyOrders_27 d mc ms B K) (G cCompany_obeyOrders "VoyageCompany$Company" 3 none "obeyOrders" (rm (d + 1) mc ms) (QM mc ms K) 27) := by
  unfold qCompany_obeyOrders_27
  exact (s_ald_n (j := 0) (by decide +kernel) rfl (s_ald_n (j := 1) (by decide +kernel) rfl (s_ald_n (j := 2) (by decide +kernel) rfl (s_ald_n (j := 1) (by decide +kernel) rfl (s_geti (idx := 173) (by decide +kernel) fl1_173 (by decide) (s_call (idx := 176) (by decide +kernel) ml1_176 rmk (zCompany_obeyOrders_37 hB)))))))
def qCompany_obeyOrders_0 (d mc ms : Nat) (B : Nat → Pd) (K : Ps) : Pd := (i_ald 0 (i_ald 1 (i_geti 5 0 (i_call 0 1 yCompany_firstShipAt cCompany_firstShipAt 3 (some (.object "VoyageCompany$Ship")) mc ms d 2 (i_ast 2 (i_ald 1 (i_ald 0 (i_ald 1 (i_ald 2 (i_call 0 1 yCompany_firstLineThatHolds cCompany_firstLineThatHolds 4 (some .int) mc ms d 3 (i_puti 5 4 (i_ald 1 (i_geti 5 4 (i_ci (-1) (i_ic_eq (qCompany_obeyOrders_37 d mc ms B K) (qCompany_obeyOrders_27 d mc ms B K))))))))))))))))
theorem zCompany_obeyOrders_0 {d mc ms : Nat} {B : Nat → Pd} {K : Ps} (hB : ∀ pc, Le (B pc) (G cCompany_obeyOrders "VoyageCompany$Company" 3 none "obeyOrders" (rm (d + 1) mc ms) (QM mc ms K) pc)) : Le (qCompany_obeyOrders_0 d mc ms B K) (G cCompany_obeyOrders "VoyageCompany$Company" 3 none "obeyOrders" (rm (d + 1) mc ms) (QM mc ms K) 0) := by
  unfold qCompany_obeyOrders_0
  exact (s_ald_n (j := 0) (by decide +kernel) rfl (s_ald_n (j := 1) (by decide +kernel) rfl (s_geti (idx := 162) (by decide +kernel) fl1_162 (by decide) (s_call (idx := 165) (by decide +kernel) ml1_165 rmk (s_ast_n (j := 2) (by decide +kernel) rfl (by decide) (s_ald_n (j := 1) (by decide +kernel) rfl (s_ald_n (j := 0) (by decide +kernel) rfl (s_ald_n (j := 1) (by decide +kernel) rfl (s_ald_n (j := 2) (by decide +kernel) rfl (s_call (idx := 169) (by decide +kernel) ml1_169 rmk (s_puti (idx := 173) (by decide +kernel) fl1_173 (by decide) (by decide) (Or.inl (by decide +kernel)) (s_ald_n (j := 1) (by decide +kernel) rfl (s_geti (idx := 173) (by decide +kernel) fl1_173 (by decide) (s_iconst (n := (-1)) (v := (-1)) (by decide +kernel) (by decide +kernel) (s_ic_eq (off := 13) (tgt := 37) (by decide +kernel) (by decide) (zCompany_obeyOrders_37 hB) (zCompany_obeyOrders_27 hB))))))))))))))))
/-- VoyageCompany$Company.obeyOrders(LVoyageCompany$Port;)V, at its places -/
def gCompany_obeyOrders (d mc ms : Nat) (K : Ps) : Nat → Pd := G cCompany_obeyOrders "VoyageCompany$Company" 3 none "obeyOrders" (rm (d + 1) mc ms) (QM mc ms K)
theorem eCompany_obeyOrders {d mc ms : Nat} {K : Ps} {av : List Value} {E : Nat → Prop} {R : Nat → Nat → Value} {I : Nat → Nat → Int32} {J : Nat → Nat → Int64} (hn : (lg_sl av).length ≤ 3) (h : qCompany_obeyOrders_0 d mc ms (gCompany_obeyOrders d mc ms K) K (lv_args 0 av) [] E R I J 0 0) : CL yCompany_obeyOrders cCompany_obeyOrders 3 none (d + 1) mc ms av E R I J K :=
  CL.of (by decide +kernel) hn (zCompany_obeyOrders_0 (fun _ => Le.refl) _ _ _ _ _ _ _ _ h)
def qCompany_firstShipAt_36 (d mc ms : Nat) (B : Nat → Pd) (K : Ps) : Pd := (i_null (i_aret mc ms K))
theorem zCompany_firstShipAt_36 {d mc ms : Nat} {B : Nat → Pd} {K : Ps} (hB : ∀ pc, Le (B pc) (G cCompany_firstShipAt "VoyageCompany$Company" 3 (some (.object "VoyageCompany$Ship")) "firstShipAt" (rm (d + 1) mc ms) (QM mc ms K) pc)) : Le (qCompany_firstShipAt_36 d mc ms B K) (G cCompany_firstShipAt "VoyageCompany$Company" 3 (some (.object "VoyageCompany$Ship")) "firstShipAt" (rm (d + 1) mc ms) (QM mc ms K) 36) := by
  unfold qCompany_firstShipAt_36
  exact (s_null (by decide +kernel) (s_aret (by decide +kernel) rfl))
def qCompany_firstShipAt_30 (d mc ms : Nat) (B : Nat → Pd) (K : Ps) : Pd := (i_inc 2 1 (B 2))
theorem zCompany_firstShipAt_30 {d mc ms : Nat} {B : Nat → Pd} {K : Ps} (hB : ∀ pc, Le (B pc) (G cCompany_firstShipAt "VoyageCompany$Company" 3 (some (.object "VoyageCompany$Ship")) "firstShipAt" (rm (d + 1) mc ms) (QM mc ms K) pc)) : Le (qCompany_firstShipAt_30 d mc ms B K) (G cCompany_firstShipAt "VoyageCompany$Company" 3 (some (.object "VoyageCompany$Ship")) "firstShipAt" (rm (d + 1) mc ms) (QM mc ms K) 30) := by
  unfold qCompany_firstShipAt_30
  exact (s_inc (z := 1) (by decide +kernel) (by decide +kernel) (by decide) (s_goto (off := (-31)) (tgt := 2) (by decide +kernel) (by decide) (hB 2)))
def qCompany_firstShipAt_23 (d mc ms : Nat) (B : Nat → Pd) (K : Ps) : Pd := (i_ald 0 (i_getr 1 6 (i_ild 2 (i_aald (i_aret mc ms K)))))
theorem zCompany_firstShipAt_23 {d mc ms : Nat} {B : Nat → Pd} {K : Ps} (hB : ∀ pc, Le (B pc) (G cCompany_firstShipAt "VoyageCompany$Company" 3 (some (.object "VoyageCompany$Ship")) "firstShipAt" (rm (d + 1) mc ms) (QM mc ms K) pc)) : Le (qCompany_firstShipAt_23 d mc ms B K) (G cCompany_firstShipAt "VoyageCompany$Company" 3 (some (.object "VoyageCompany$Ship")) "firstShipAt" (rm (d + 1) mc ms) (QM mc ms K) 23) := by
  unfold qCompany_firstShipAt_23
  exact (s_ald_n (j := 0) (by decide +kernel) rfl (s_getr (idx := 33) (by decide +kernel) fl1_33 (by decide) (s_ild_n (j := 2) (by decide +kernel) rfl (s_aald (by decide +kernel) (s_aret (by decide +kernel) rfl)))))
def qCompany_firstShipAt_10 (d mc ms : Nat) (B : Nat → Pd) (K : Ps) : Pd := (i_ald 0 (i_getr 1 6 (i_ild 2 (i_aald (i_geti 7 6 (i_ild 1 (i_ic_ne (qCompany_firstShipAt_30 d mc ms B K) (qCompany_firstShipAt_23 d mc ms B K))))))))
theorem zCompany_firstShipAt_10 {d mc ms : Nat} {B : Nat → Pd} {K : Ps} (hB : ∀ pc, Le (B pc) (G cCompany_firstShipAt "VoyageCompany$Company" 3 (some (.object "VoyageCompany$Ship")) "firstShipAt" (rm (d + 1) mc ms) (QM mc ms K) pc)) : Le (qCompany_firstShipAt_10 d mc ms B K) (G cCompany_firstShipAt "VoyageCompany$Company" 3 (some (.object "VoyageCompany$Ship")) "firstShipAt" (rm (d + 1) mc ms) (QM mc ms K) 10) := by
  unfold qCompany_firstShipAt_10
  exact (s_ald_n (j := 0) (by decide +kernel) rfl (s_getr (idx := 33) (by decide +kernel) fl1_33 (by decide) (s_ild_n (j := 2) (by decide +kernel) rfl (s_aald (by decide +kernel) (s_geti (idx := 95) (by decide +kernel) fl1_95 (by decide) (s_ild_n (j := 1) (by decide +kernel) rfl (s_ic_ne (off := 10) (tgt := 30) (by decide +kernel) (by decide) (zCompany_firstShipAt_30 hB) (zCompany_firstShipAt_23 hB))))))))
def qCompany_firstShipAt_2 (d mc ms : Nat) (B : Nat → Pd) (K : Ps) : Pd := (i_ild 2 (i_ald 0 (i_geti 1 1 (i_ic_ge (qCompany_firstShipAt_36 d mc ms B K) (qCompany_firstShipAt_10 d mc ms B K)))))
theorem zCompany_firstShipAt_2 {d mc ms : Nat} {B : Nat → Pd} {K : Ps} (hB : ∀ pc, Le (B pc) (G cCompany_firstShipAt "VoyageCompany$Company" 3 (some (.object "VoyageCompany$Ship")) "firstShipAt" (rm (d + 1) mc ms) (QM mc ms K) pc)) : Le (qCompany_firstShipAt_2 d mc ms B K) (G cCompany_firstShipAt "VoyageCompany$Company" 3 (some (.object "VoyageCompany$Ship")) "firstShipAt" (rm (d + 1) mc ms) (QM mc ms K) 2) := by
  unfold qCompany_firstShipAt_2
  exact (s_ild_n (j := 2) (by decide +kernel) rfl (s_ald_n (j := 0) (by decide +kernel) rfl (s_geti (idx := 61) (by decide +kernel) fl1_61 (by decide) (s_ic_ge (off := 29) (tgt := 36) (by decide +kernel) (by decide) (zCompany_firstShipAt_36 hB) (zCompany_firstShipAt_10 hB)))))
def qCompany_firstShipAt_0 (d mc ms : Nat) (B : Nat → Pd) (K : Ps) : Pd := (i_ci 0 (i_ist 2 (B 2)))
theorem zCompany_firstShipAt_0 {d mc ms : Nat} {B : Nat → Pd} {K : Ps} (hB : ∀ pc, Le (B pc) (G cCompany_firstShipAt "VoyageCompany$Company" 3 (some (.object "VoyageCompany$Ship")) "firstShipAt" (rm (d + 1) mc ms) (QM mc ms K) pc)) : Le (qCompany_firstShipAt_0 d mc ms B K) (G cCompany_firstShipAt "VoyageCompany$Company" 3 (some (.object "VoyageCompany$Ship")) "firstShipAt" (rm (d + 1) mc ms) (QM mc ms K) 0) := by
  unfold qCompany_firstShipAt_0
  exact (s_iconst (n := 0) (v := 0) (by decide +kernel) (by decide +kernel) (s_ist_n (j := 2) (by decide +kernel) rfl (by decide) (hB 2)))
/-- VoyageCompany$Company.firstShipAt(I)LVoyageCompany$Ship;, at its places -/
def gCompany_firstShipAt (d mc ms : Nat) (K : Ps) : Nat → Pd := G cCompany_firstShipAt "VoyageCompany$Company" 3 (some (.object "VoyageCompany$Ship")) "firstShipAt" (rm (d + 1) mc ms) (QM mc ms K)
theorem eCompany_firstShipAt {d mc ms : Nat} {K : Ps} {av : List Value} {E : Nat → Prop} {R : Nat → Nat → Value} {I : Nat → Nat → Int32} {J : Nat → Nat → Int64} (hn : (lg_sl av).length ≤ 3) (h : qCompany_firstShipAt_0 d mc ms (gCompany_firstShipAt d mc ms K) K (lv_args 0 av) [] E R I J 0 0) : CL yCompany_firstShipAt cCompany_firstShipAt 3 (some (.object "VoyageCompany$Ship")) (d + 1) mc ms av E R I J K :=
  CL.of (by decide +kernel) hn (zCompany_firstShipAt_0 (fun _ => Le.refl) _ _ _ _ _ _ _ _ h)
theorem lCompany_firstShipAt_2 {d mc ms : Nat} {K : Ps} : Le (qCompany_firstShipAt_2 d mc ms (gCompany_firstShipAt d mc ms K) K) (gCompany_firstShipAt d mc ms K 2) := zCompany_firstShipAt_2 (fun _ => Le.refl)
def qCompany_firstLineThatHolds_31 (d mc ms : Nat) (B : Nat → Pd) (K : Ps) : Pd := (i_ci (-1) (i_iret mc ms K))
theorem zCompany_firstLineThatHolds_31 {d mc ms : Nat} {B : Nat → Pd} {K : Ps} (hB : ∀ pc, Le (B pc) (G cCompany_firstLineThatHolds "VoyageCompany$Company" 4 (some .int) "firstLineThatHolds" (rm (d + 1) mc ms) (QM mc ms K) pc)) : Le (qCompany_firstLineThatHolds_31 d mc ms B K) (G cCompany_firstLineThatHolds "VoyageCompany$Company" 4 (some .int) "firstLineThatHolds" (rm (d + 1) mc ms) (QM mc ms K) 31) := by
  unfold qCompany_firstLineThatHolds_31
  exact (s_iconst (n := (-1)) (v := (-1)) (by decide +kernel) (by decide +kernel) (s_iret (by decide +kernel) rfl))
def qCompany_firstLineThatHolds_25 (d mc ms : Nat) (B : Nat → Pd) (K : Ps) : Pd := (i_inc 3 1 (B 2))
theorem zCompany_firstLineThatHolds_25 {d mc ms : Nat} {B : Nat → Pd} {K : Ps} (hB : ∀ pc, Le (B pc) (G cCompany_firstLineThatHolds "VoyageCompany$Company" 4 (some .int) "firstLineThatHolds" (rm (d + 1) mc ms) (QM mc ms K) pc)) : Le (qCompany_firstLineThatHolds_25 d mc ms B K) (G cCompany_firstLineThatHolds "VoyageCompany$Company" 4 (some .int) "firstLineThatHolds" (rm (d + 1) mc ms) (QM mc ms K) 25) := by
  unfold qCompany_firstLineThatHolds_25
  exact (s_inc (z := 1) (by decide +kernel) (by decide +kernel) (by decide) (s_goto (off := (-26)) (tgt := 2) (by decide +kernel) (by decide) (hB 2)))
def qCompany_firstLineThatHolds_23 (d mc ms : Nat) (B : Nat → Pd) (K : Ps) : Pd := (i_ild 3 (i_iret mc ms K))
theorem zCompany_firstLineThatHolds_23 {d mc ms : Nat} {B : Nat → Pd} {K : Ps} (hB : ∀ pc, Le (B pc) (G cCompany_firstLineThatHolds "VoyageCompany$Company" 4 (some .int) "firstLineThatHolds" (rm (d + 1) mc ms) (QM mc ms K) pc)) : Le (qCompany_firstLineThatHolds_23 d mc ms B K) (G cCompany_firstLineThatHolds "VoyageCompany$Company" 4 (some .int) "firstLineThatHolds" (rm (d + 1) mc ms) (QM mc ms K) 23) := by
  unfold qCompany_firstLineThatHolds_23
  exact (s_ild_n (j := 3) (by decide +kernel) rfl (s_iret (by decide +kernel) rfl))
def qCompany_firstLineThatHolds_13 (d mc ms : Nat) (B : Nat → Pd) (K : Ps) : Pd := (i_ald 0 (i_ald 1 (i_ald 2 (i_ild 3 (i_call 0 1 yCompany_lineHolds cCompany_lineHolds 8 (some .boolean) mc ms d 4 (i_if_eq (qCompany_firstLineThatHolds_25 d mc ms B K) (qCompany_firstLineThatHolds_23 d mc ms B K)))))))
theorem zCompany_firstLineThatHolds_13 {d mc ms : Nat} {B : Nat → Pd} {K : Ps} (hB : ∀ pc, Le (B pc) (G cCompany_firstLineThatHolds "VoyageCompany$Company" 4 (some .int) "firstLineThatHolds" (rm (d + 1) mc ms) (QM mc ms K) pc)) : Le (qCompany_firstLineThatHolds_13 d mc ms B K) (G cCompany_firstLineThatHolds "VoyageCompany$Company" 4 (some .int) "firstLineThatHolds" (rm (d + 1) mc ms) (QM mc ms K) 13) := by
  unfold qCompany_firstLineThatHolds_13
  exact (s_ald_n (j := 0) (by decide +kernel) rfl (s_ald_n (j := 1) (by decide +kernel) rfl (s_ald_n (j := 2) (by decide +kernel) rfl (s_ild_n (j := 3) (by decide +kernel) rfl (s_call (idx := 189) (by decide +kernel) ml1_189 rmk (s_if_eq (off := 5) (tgt := 25) (by decide +kernel) (by decide) (zCompany_firstLineThatHolds_25 hB) (zCompany_firstLineThatHolds_23 hB)))))))
def qCompany_firstLineThatHolds_2 (d mc ms : Nat) (B : Nat → Pd) (K : Ps) : Pd := (i_ild 3 (i_ald 1 (i_getr 5 3 (i_geti 3 0 (i_ic_ge (qCompany_firstLineThatHolds_31 d mc ms B K) (qCompany_firstLineThatHolds_13 d mc ms B K))))))
theorem zCompany_firstLineThatHolds_2 {d mc ms : Nat} {B : Nat → Pd} {K : Ps} (hB : ∀ pc, Le (B pc) (G cCompany_firstLineThatHolds "VoyageCompany$Company" 4 (some .int) "firstLineThatHolds" (rm (d + 1) mc ms) (QM mc ms K) pc)) : Le (qCompany_firstLineThatHolds_2 d mc ms B K) (G cCompany_firstLineThatHolds "VoyageCompany$Company" 4 (some .int) "firstLineThatHolds" (rm (d + 1) mc ms) (QM mc ms K) 2) := by
  unfold qCompany_firstLineThatHolds_2
  exact (s_ild_n (j := 3) (by decide +kernel) rfl (s_ald_n (j := 1) (by decide +kernel) rfl (s_getr (idx := 180) (by decide +kernel) fl1_180 (by decide) (s_geti (idx := 184) (by decide +kernel) fl1_184 (by decide) (s_ic_ge (off := 21) (tgt := 31) (by decide +kernel) (by decide) (zCompany_firstLineThatHolds_31 hB) (zCompany_firstLineThatHolds_13 hB))))))
def qCompany_firstLineThatHolds_0 (d mc ms : Nat) (B : Nat → Pd) (K : Ps) : Pd := (i_ci 0 (i_ist 3 (B 2)))
theorem zCompany_firstLineThatHolds_0 {d mc ms : Nat} {B : Nat → Pd} {K : Ps} (hB : ∀ pc, Le (B pc) (G cCompany_firstLineThatHolds "VoyageCompany$Company" 4 (some .int) "firstLineThatHolds" (rm (d + 1) mc ms) (QM mc ms K) pc)) : Le (qCompany_firstLineThatHolds_0 d mc ms B K) (G cCompany_firstLineThatHolds "VoyageCompany$Company" 4 (some .int) "firstLineThatHolds" (rm (d + 1) mc ms) (QM mc ms K) 0) := by
  unfold qCompany_firstLineThatHolds_0
  exact (s_iconst (n := 0) (v := 0) (by decide +kernel) (by decide +kernel) (s_ist_n (j := 3) (by decide +kernel) rfl (by decide) (hB 2)))
/-- VoyageCompany$Company.firstLineThatHolds(LVoyageCompany$Port;LVoyageCompany$Ship;)I, at its places -/
def gCompany_firstLineThatHolds (d mc ms : Nat) (K : Ps) : Nat → Pd := G cCompany_firstLineThatHolds "VoyageCompany$Company" 4 (some .int) "firstLineThatHolds" (rm (d + 1) mc ms) (QM mc ms K)
theorem eCompany_firstLineThatHolds {d mc ms : Nat} {K : Ps} {av : List Value} {E : Nat → Prop} {R : Nat → Nat → Value} {I : Nat → Nat → Int32} {J : Nat → Nat → Int64} (hn : (lg_sl av).length ≤ 4) (h : qCompany_firstLineThatHolds_0 d mc ms (gCompany_firstLineThatHolds d mc ms K) K (lv_args 0 av) [] E R I J 0 0) : CL yCompany_firstLineThatHolds cCompany_firstLineThatHolds 4 (some .int) (d + 1) mc ms av E R I J K :=
  CL.of (by decide +kernel) hn (zCompany_firstLineThatHolds_0 (fun _ => Le.refl) _ _ _ _ _ _ _ _ h)
theorem lCompany_firstLineThatHolds_2 {d mc ms : Nat} {K : Ps} : Le (qCompany_firstLineThatHolds_2 d mc ms (gCompany_firstLineThatHolds d mc ms K) K) (gCompany_firstLineThatHolds d mc ms K 2) := zCompany_firstLineThatHolds_2 (fun _ => Le.refl)
def qCompany_lineHolds_77 (d mc ms : Nat) (B : Nat → Pd) (K : Ps) : Pd := (i_ci 1 (i_zret mc ms K))
theorem zCompany_lineHolds_77 {d mc ms : Nat} {B : Nat → Pd} {K : Ps} (hB : ∀ pc, Le (B pc) (G cCompany_lineHolds "VoyageCompany$Company" 8 (some .boolean) "lineHolds" (rm (d + 1) mc ms) (QM mc ms K) pc)) : Le (qCompany_lineHolds_77 d mc ms B K) (G cCompany_lineHolds "VoyageCompany$Company" 8 (some .boolean) "lineHolds" (rm (d + 1) mc ms) (QM mc ms K) 77) := by
  unfold qCompany_lineHolds_77
  exact (s_iconst (n := 1) (v := 1) (by decide +kernel) (by decide +kernel) (s_zret (by decide +kernel) rfl))
def qCompany_lineHolds_71 (d mc ms : Nat) (B : Nat → Pd) (K : Ps) : Pd := (i_inc 5 1 (B 9))
theorem zCompany_lineHolds_71 {d mc ms : Nat} {B : Nat → Pd} {K : Ps} (hB : ∀ pc, Le (B pc) (G cCompany_lineHolds "VoyageCompany$Company" 8 (some .boolean) "lineHolds" (rm (d + 1) mc ms) (QM mc ms K) pc)) : Le (qCompany_lineHolds_71 d mc ms B K) (G cCompany_lineHolds "VoyageCompany$Company" 8 (some .boolean) "lineHolds" (rm (d + 1) mc ms) (QM mc ms K) 71) := by
  unfold qCompany_lineHolds_71
  exact (s_inc (z := 1) (by decide +kernel) (by decide +kernel) (by decide) (s_goto (off := (-65)) (tgt := 9) (by decide +kernel) (by decide) (hB 9)))
def qCompany_lineHolds_69 (d mc ms : Nat) (B : Nat → Pd) (K : Ps) : Pd := (i_ci 0 (i_zret mc ms K))
theorem zCompany_lineHolds_69 {d mc ms : Nat} {B : Nat → Pd} {K : Ps} (hB : ∀ pc, Le (B pc) (G cCompany_lineHolds "VoyageCompany$Company" 8 (some .boolean) "lineHolds" (rm (d + 1) mc ms) (QM mc ms K) pc)) : Le (qCompany_lineHolds_69 d mc ms B K) (G cCompany_lineHolds "VoyageCompany$Company" 8 (some .boolean) "lineHolds" (rm (d + 1) mc ms) (QM mc ms K) 69) := by
  unfold qCompany_lineHolds_69
  exact (s_iconst (n := 0) (v := 0) (by decide +kernel) (by decide +kernel) (s_zret (by decide +kernel) rfl))
def qCompany_lineHolds_21 (d mc ms : Nat) (B : Nat → Pd) (K : Ps) : Pd := (i_ild 3 (i_ild 5 (i_call 2 3 yOrders_testPlace cOrders_testPlace 2 (some .int) mc ms d 2 (i_ist 6 (i_ald 0 (i_ald 4 (i_getr 3 5 (i_ild 6 (i_iald (i_ald 1 (i_ald 2 (i_call 0 1 yCompany_valueOf cCompany_valueOf 4 (some .int) mc ms d 4 (i_ist 7 (i_ild 7 (i_ald 4 (i_getr 3 6 (i_ild 6 (i_iald (i_ald 4 (i_getr 3 7 (i_ild 6 (i_iald (i_call 2 1 yCompany_compares cCompany_compares 3 (some .boolean) mc ms d 3 (i_if_ne (qCompany_lineHolds_71 d mc ms B K) (qCompany_lineHolds_69 d mc ms B K)))))))))))))))))))))))))
theorem zCompany_lineHolds_21 {d mc ms : Nat} {B : Nat → Pd} {K : Ps} (hB : ∀ pc, Le (B pc) (G cCompany_lineHolds "VoyageCompany$Company" 8 (some .boolean) "lineHolds" (rm (d + 1) mc ms) (QM mc ms K) pc)) : Le (qCompany_lineHolds_21 d mc ms B K) (G cCompany_lineHolds "VoyageCompany$Company" 8 (some .boolean) "lineHolds" (rm (d + 1) mc ms) (QM mc ms K) 21) := by
  unfold qCompany_lineHolds_21
  exact (s_ild_n (j := 3) (by decide +kernel) rfl (s_ild (by decide +kernel) (s_call (idx := 196) (by decide +kernel) ml1_196 rmk (s_ist (by decide +kernel) (by decide) (s_ald_n (j := 0) (by decide +kernel) rfl (s_ald (by decide +kernel) (s_getr (idx := 199) (by decide +kernel) fl1_199 (by decide) (s_ild (by decide +kernel) (s_iald (by decide +kernel) (s_ald_n (j := 1) (by decide +kernel) rfl (s_ald_n (j := 2) (by decide +kernel) rfl (s_call (idx := 202) (by decide +kernel) ml1_202 rmk (s_ist (by decide +kernel) (by decide) (s_ild (by decide +kernel) (s_ald (by decide +kernel) (s_getr (idx := 206) (by decide +kernel) fl1_206 (by decide) (s_ild (by decide +kernel) (s_iald (by decide +kernel) (s_ald (by decide +kernel) (s_getr (idx := 209) (by decide +kernel) fl1_209 (by decide) (s_ild (by decide +kernel) (s_iald (by decide +kernel) (s_call (idx := 212) (by decide +kernel) ml1_212 rmk (s_if_ne (off := 5) (tgt := 71) (by decide +kernel) (by decide) (zCompany_lineHolds_71 hB) (zCompany_lineHolds_69 hB)))))))))))))))))))))))))
def qCompany_lineHolds_9 (d mc ms : Nat) (B : Nat → Pd) (K : Ps) : Pd := (i_ild 5 (i_ald 4 (i_getr 3 4 (i_ild 3 (i_iald (i_ic_ge (qCompany_lineHolds_77 d mc ms B K) (qCompany_lineHolds_21 d mc ms B K)))))))
theorem zCompany_lineHolds_9 {d mc ms : Nat} {B : Nat → Pd} {K : Ps} (hB : ∀ pc, Le (B pc) (G cCompany_lineHolds "VoyageCompany$Company" 8 (some .boolean) "lineHolds" (rm (d + 1) mc ms) (QM mc ms K) pc)) : Le (qCompany_lineHolds_9 d mc ms B K) (G cCompany_lineHolds "VoyageCompany$Company" 8 (some .boolean) "lineHolds" (rm (d + 1) mc ms) (QM mc ms K) 9) := by
  unfold qCompany_lineHolds_9
  exact (s_ild (by decide +kernel) (s_ald (by decide +kernel) (s_getr (idx := 193) (by decide +kernel) fl1_193 (by decide) (s_ild_n (j := 3) (by decide +kernel) rfl (s_iald (by decide +kernel) (s_ic_ge (off := 59) (tgt := 77) (by decide +kernel) (by decide) (zCompany_lineHolds_77 hB) (zCompany_lineHolds_21 hB)))))))
def qCompany_lineHolds_0 (d mc ms : Nat) (B : Nat → Pd) (K : Ps) : Pd := (i_ald 1 (i_getr 5 3 (i_ast 4 (i_ci 0 (i_ist 5 (B 9))))))
theorem zCompany_lineHolds_0 {d mc ms : Nat} {B : Nat → Pd} {K : Ps} (hB : ∀ pc, Le (B pc) (G cCompany_lineHolds "VoyageCompany$Company" 8 (some .boolean) "lineHolds" (rm (d + 1) mc ms) (QM mc ms K) pc)) : Le (qCompany_lineHolds_0 d mc ms B K) (G cCompany_lineHolds "VoyageCompany$Company" 8 (some .boolean) "lineHolds" (rm (d + 1) mc ms) (QM mc ms K) 0) := by
  unfold qCompany_lineHolds_0
  exact (s_ald_n (j := 1) (by decide +kernel) rfl (s_getr (idx := 180) (by decide +kernel) fl1_180 (by decide) (s_ast (by decide +kernel) (by decide) (s_iconst (n := 0) (v := 0) (by decide +kernel) (by decide +kernel) (s_ist (by decide +kernel) (by decide) (hB 9))))))
/-- VoyageCompany$Company.lineHolds(LVoyageCompany$Port;LVoyageCompany$Ship;I)Z, at its places -/
def gCompany_lineHolds (d mc ms : Nat) (K : Ps) : Nat → Pd := G cCompany_lineHolds "VoyageCompany$Company" 8 (some .boolean) "lineHolds" (rm (d + 1) mc ms) (QM mc ms K)
theorem eCompany_lineHolds {d mc ms : Nat} {K : Ps} {av : List Value} {E : Nat → Prop} {R : Nat → Nat → Value} {I : Nat → Nat → Int32} {J : Nat → Nat → Int64} (hn : (lg_sl av).length ≤ 8) (h : qCompany_lineHolds_0 d mc ms (gCompany_lineHolds d mc ms K) K (lv_args 0 av) [] E R I J 0 0) : CL yCompany_lineHolds cCompany_lineHolds 8 (some .boolean) (d + 1) mc ms av E R I J K :=
  CL.of (by decide +kernel) hn (zCompany_lineHolds_0 (fun _ => Le.refl) _ _ _ _ _ _ _ _ h)
theorem lCompany_lineHolds_9 {d mc ms : Nat} {K : Ps} : Le (qCompany_lineHolds_9 d mc ms (gCompany_lineHolds d mc ms K) K) (gCompany_lineHolds d mc ms K 9) := zCompany_lineHolds_9 (fun _ => Le.refl)
def qCompany_compares_60 (d mc ms : Nat) (B : Nat → Pd) (K : Ps) : Pd := (i_zret mc ms K)
theorem zCompany_compares_60 {d mc ms : Nat} {B : Nat → Pd} {K : Ps} (hB : ∀ pc, Le (B pc) (G cCompany_compares "VoyageCompany$Company" 3 (some .boolean) "compares" (rm (d + 1) mc ms) (QM mc ms K) pc)) : Le (qCompany_compares_60 d mc ms B K) (G cCompany_compares "VoyageCompany$Company" 3 (some .boolean) "compares" (rm (d + 1) mc ms) (QM mc ms K) 60) := by
  unfold qCompany_compares_60
  exact (s_zret (by decide +kernel) rfl)
def qCompany_compares_59 (d mc ms : Nat) (B : Nat → Pd) (K : Ps) : Pd := (i_ci 0 (qCompany_compares_60 d mc ms B K))
theorem zCompany_compares_59 {d mc ms : Nat} {B : Nat → Pd} {K : Ps} (hB : ∀ pc, Le (B pc) (G cCompany_compares "VoyageCompany$Company" 3 (some .boolean) "compares" (rm (d + 1) mc ms) (QM mc ms K) pc)) : Le (qCompany_compares_59 d mc ms B K) (G cCompany_compares "VoyageCompany$Company" 3 (some .boolean) "compares" (rm (d + 1) mc ms) (QM mc ms K) 59) := by
  unfold qCompany_compares_59
  exact (s_iconst (n := 0) (v := 0) (by decide +kernel) (by decide +kernel) (zCompany_compares_60 hB))
def qCompany_compares_55 (d mc ms : Nat) (B : Nat → Pd) (K : Ps) : Pd := (i_ci 1 (qCompany_compares_60 d mc ms B K))
theorem zCompany_compares_55 {d mc ms : Nat} {B : Nat → Pd} {K : Ps} (hB : ∀ pc, Le (B pc) (G cCompany_compares "VoyageCompany$Company" 3 (some .boolean) "compares" (rm (d + 1) mc ms) (QM mc ms K) pc)) : Le (qCompany_compares_55 d mc ms B K) (G cCompany_compares "VoyageCompany$Company" 3 (some .boolean) "compares" (rm (d + 1) mc ms) (QM mc ms K) 55) := by
  unfold qCompany_compares_55
  exact (s_iconst (n := 1) (v := 1) (by decide +kernel) (by decide +kernel) (s_goto (off := 4) (tgt := 60) (by decide +kernel) (by decide) (zCompany_compares_60 hB)))
def qCompany_compares_50 (d mc ms : Nat) (B : Nat → Pd) (K : Ps) : Pd := (i_ild 0 (i_ild 2 (i_ic_ne (qCompany_compares_59 d mc ms B K) (qCompany_compares_55 d mc ms B K))))
theorem zCompany_compares_50 {d mc ms : Nat} {B : Nat → Pd} {K : Ps} (hB : ∀ pc, Le (B pc) (G cCompany_compares "VoyageCompany$Company" 3 (some .boolean) "compares" (rm (d + 1) mc ms) (QM mc ms K) pc)) : Le (qCompany_compares_50 d mc ms B K) (G cCompany_compares "VoyageCompany$Company" 3 (some .boolean) "compares" (rm (d + 1) mc ms) (QM mc ms K) 50) := by
  unfold qCompany_compares_50
  exact (s_ild_n (j := 0) (by decide +kernel) rfl (s_ild_n (j := 2) (by decide +kernel) rfl (s_ic_ne (off := 7) (tgt := 59) (by decide +kernel) (by decide) (zCompany_compares_59 hB) (zCompany_compares_55 hB))))
def qCompany_compares_49 (d mc ms : Nat) (B : Nat → Pd) (K : Ps) : Pd := (i_zret mc ms K)
theorem zCompany_compares_49 {d mc ms : Nat} {B : Nat → Pd} {K : Ps} (hB : ∀ pc, Le (B pc) (G cCompany_compares "VoyageCompany$Company" 3 (some .boolean) "compares" (rm (d + 1) mc ms) (QM mc ms K) pc)) : Le (qCompany_compares_49 d mc ms B K) (G cCompany_compares "VoyageCompany$Company" 3 (some .boolean) "compares" (rm (d + 1) mc ms) (QM mc ms K) 49) := by
  unfold qCompany_compares_49
  exact (s_zret (by decide +kernel) rfl)
def qCompany_compares_48 (d mc ms : Nat) (B : Nat → Pd) (K : Ps) : Pd := (i_ci 0 (qCompany_compares_49 d mc ms B K))
theorem zCompany_compares_48 {d mc ms : Nat} {B : Nat → Pd} {K : Ps} (hB : ∀ pc, Le (B pc) (G cCompany_compares "VoyageCompany$Company" 3 (some .boolean) "compares" (rm (d + 1) mc ms) (QM mc ms K) pc)) : Le (qCompany_compares_48 d mc ms B K) (G cCompany_compares "VoyageCompany$Company" 3 (some .boolean) "compares" (rm (d + 1) mc ms) (QM mc ms K) 48) := by
  unfold qCompany_compares_48
  exact (s_iconst (n := 0) (v := 0) (by decide +kernel) (by decide +kernel) (zCompany_compares_49 hB))
def qCompany_compares_44 (d mc ms : Nat) (B : Nat → Pd) (K : Ps) : Pd := (i_ci 1 (qCompany_compares_49 d mc ms B K))
theorem zCompany_compares_44 {d mc ms : Nat} {B : Nat → Pd} {K : Ps} (hB : ∀ pc, Le (B pc) (G cCompany_compares "VoyageCompany$Company" 3 (some .boolean) "compares" (rm (d + 1) mc ms) (QM mc ms K) pc)) : Le (qCompany_compares_44 d mc ms B K) (G cCompany_compares "VoyageCompany$Company" 3 (some .boolean) "compares" (rm (d + 1) mc ms) (QM mc ms K) 44) := by
  unfold qCompany_compares_44
  exact (s_iconst (n := 1) (v := 1) (by decide +kernel) (by decide +kernel) (s_goto (off := 4) (tgt := 49) (by decide +kernel) (by decide) (zCompany_compares_49 hB)))
def qCompany_compares_39 (d mc ms : Nat) (B : Nat → Pd) (K : Ps) : Pd := (i_ild 0 (i_ild 2 (i_ic_le (qCompany_compares_48 d mc ms B K) (qCompany_compares_44 d mc ms B K))))
theorem zCompany_compares_39 {d mc ms : Nat} {B : Nat → Pd} {K : Ps} (hB : ∀ pc, Le (B pc) (G cCompany_compares "VoyageCompany$Company" 3 (some .boolean) "compares" (rm (d + 1) mc ms) (QM mc ms K) pc)) : Le (qCompany_compares_39 d mc ms B K) (G cCompany_compares "VoyageCompany$Company" 3 (some .boolean) "compares" (rm (d + 1) mc ms) (QM mc ms K) 39) := by
  unfold qCompany_compares_39
  exact (s_ild_n (j := 0) (by decide +kernel) rfl (s_ild_n (j := 2) (by decide +kernel) rfl (s_ic_le (off := 7) (tgt := 48) (by decide +kernel) (by decide) (zCompany_compares_48 hB) (zCompany_compares_44 hB))))
def qCompany_compares_38 (d mc ms : Nat) (B : Nat → Pd) (K : Ps) : Pd := (i_zret mc ms K)
theorem zCompany_compares_38 {d mc ms : Nat} {B : Nat → Pd} {K : Ps} (hB : ∀ pc, Le (B pc) (G cCompany_compares "VoyageCompany$Company" 3 (some .boolean) "compares" (rm (d + 1) mc ms) (QM mc ms K) pc)) : Le (qCompany_compares_38 d mc ms B K) (G cCompany_compares "VoyageCompany$Company" 3 (some .boolean) "compares" (rm (d + 1) mc ms) (QM mc ms K) 38) := by
  unfold qCompany_compares_38
  exact (s_zret (by decide +kernel) rfl)
def qCompany_compares_37 (d mc ms : Nat) (B : Nat → Pd) (K : Ps) : Pd := (i_ci 0 (qCompany_compares_38 d mc ms B K))
theorem zCompany_compares_37 {d mc ms : Nat} {B : Nat → Pd} {K : Ps} (hB : ∀ pc, Le (B pc) (G cCompany_compares "VoyageCompany$Company" 3 (some .boolean) "compares" (rm (d + 1) mc ms) (QM mc ms K) pc)) : Le (qCompany_compares_37 d mc ms B K) (G cCompany_compares "VoyageCompany$Company" 3 (some .boolean) "compares" (rm (d + 1) mc ms) (QM mc ms K) 37) := by
  unfold qCompany_compares_37
  exact (s_iconst (n := 0) (v := 0) (by decide +kernel) (by decide +kernel) (zCompany_compares_38 hB))
def qCompany_compares_33 (d mc ms : Nat) (B : Nat → Pd) (K : Ps) : Pd := (i_ci 1 (qCompany_compares_38 d mc ms B K))
theorem zCompany_compares_33 {d mc ms : Nat} {B : Nat → Pd} {K : Ps} (hB : ∀ pc, Le (B pc) (G cCompany_compares "VoyageCompany$Company" 3 (some .boolean) "compares" (rm (d + 1) mc ms) (QM mc ms K) pc)) : Le (qCompany_compares_33 d mc ms B K) (G cCompany_compares "VoyageCompany$Company" 3 (some .boolean) "compares" (rm (d + 1) mc ms) (QM mc ms K) 33) := by
  unfold qCompany_compares_33
  exact (s_iconst (n := 1) (v := 1) (by decide +kernel) (by decide +kernel) (s_goto (off := 4) (tgt := 38) (by decide +kernel) (by decide) (zCompany_compares_38 hB)))
def qCompany_compares_28 (d mc ms : Nat) (B : Nat → Pd) (K : Ps) : Pd := (i_ild 0 (i_ild 2 (i_ic_ge (qCompany_compares_37 d mc ms B K) (qCompany_compares_33 d mc ms B K))))
theorem zCompany_compares_28 {d mc ms : Nat} {B : Nat → Pd} {K : Ps} (hB : ∀ pc, Le (B pc) (G cCompany_compares "VoyageCompany$Company" 3 (some .boolean) "compares" (rm (d + 1) mc ms) (QM mc ms K) pc)) : Le (qCompany_compares_28 d mc ms B K) (G cCompany_compares "VoyageCompany$Company" 3 (some .boolean) "compares" (rm (d + 1) mc ms) (QM mc ms K) 28) := by
  unfold qCompany_compares_28
  exact (s_ild_n (j := 0) (by decide +kernel) rfl (s_ild_n (j := 2) (by decide +kernel) rfl (s_ic_ge (off := 7) (tgt := 37) (by decide +kernel) (by decide) (zCompany_compares_37 hB) (zCompany_compares_33 hB))))
def qCompany_compares_0 (d mc ms : Nat) (B : Nat → Pd) (K : Ps) : Pd := (i_ild 1 (i_sw [(5, (qCompany_compares_28 d mc ms B K)), (6, (qCompany_compares_39 d mc ms B K))] (qCompany_compares_50 d mc ms B K)))
theorem zCompany_compares_0 {d mc ms : Nat} {B : Nat → Pd} {K : Ps} (hB : ∀ pc, Le (B pc) (G cCompany_compares "VoyageCompany$Company" 3 (some .boolean) "compares" (rm (d + 1) mc ms) (QM mc ms K) pc)) : Le (qCompany_compares_0 d mc ms B K) (G cCompany_compares "VoyageCompany$Company" 3 (some .boolean) "compares" (rm (d + 1) mc ms) (QM mc ms K) 0) := by
  unfold qCompany_compares_0
  exact (s_ild_n (j := 1) (by decide +kernel) rfl (s_sw (fun x => by
    by_cases h0 : x = 5
    · subst h0
      exact ⟨28, sw_lk (dflt := 49) (ps := #[(5, 27), (6, 38)]) (len := 27) (off := 27) (by decide +kernel) (by decide +kernel) (by decide +kernel) (by decide +kernel), by simpa [swp] using (zCompany_compares_28 hB)⟩
    by_cases h1 : x = 6
    · subst h1
      exact ⟨39, sw_lk (dflt := 49) (ps := #[(5, 27), (6, 38)]) (len := 27) (off := 38) (by decide +kernel) (by decide +kernel) (by decide +kernel) (by decide +kernel), by simpa [swp] using (zCompany_compares_39 hB)⟩
    have g0 := i32_ne (z := 5) (by decide +kernel) h0
    have g1 := i32_ne (z := 6) (by decide +kernel) h1
    exact ⟨50, sw_lk (dflt := 49) (ps := #[(5, 27), (6, 38)]) (len := 27) (off := 49) (by decide +kernel) (by decide +kernel) (by simp [Op.lookupswitch.offset, g0, g1, Ne.symm g0, Ne.symm g1]) (by decide +kernel), by simpa [swp, h0, h1] using (zCompany_compares_50 hB)⟩)))
/-- VoyageCompany$Company.compares(III)Z, at its places -/
def gCompany_compares (d mc ms : Nat) (K : Ps) : Nat → Pd := G cCompany_compares "VoyageCompany$Company" 3 (some .boolean) "compares" (rm (d + 1) mc ms) (QM mc ms K)
theorem eCompany_compares {d mc ms : Nat} {K : Ps} {av : List Value} {E : Nat → Prop} {R : Nat → Nat → Value} {I : Nat → Nat → Int32} {J : Nat → Nat → Int64} (hn : (lg_sl av).length ≤ 3) (h : qCompany_compares_0 d mc ms (gCompany_compares d mc ms K) K (lv_args 0 av) [] E R I J 0 0) : CL yCompany_compares cCompany_compares 3 (some .boolean) (d + 1) mc ms av E R I J K :=
  CL.of (by decide +kernel) hn (zCompany_compares_0 (fun _ => Le.refl) _ _ _ _ _ _ _ _ h)
def qCompany_valueOf_94 (d mc ms : Nat) (B : Nat → Pd) (K : Ps) : Pd := (i_iret mc ms K)
theorem zCompany_valueOf_94 {d mc ms : Nat} {B : Nat → Pd} {K : Ps} (hB : ∀ pc, Le (B pc) (G cCompany_valueOf "VoyageCompany$Company" 4 (some .int) "valueOf" (rm (d + 1) mc ms) (QM mc ms K) pc)) : Le (qCompany_valueOf_94 d mc ms B K) (G cCompany_valueOf "VoyageCompany$Company" 4 (some .int) "valueOf" (rm (d + 1) mc ms) (QM mc ms K) 94) := by
  unfold qCompany_valueOf_94
  exact (s_iret (by decide +kernel) rfl)
def qCompany_valueOf_90 (d mc ms : Nat) (B : Nat → Pd) (K : Ps) : Pd := (i_ald 3 (i_call 0 7 yShip_room cShip_room 3 (some .int) mc ms d 1 (qCompany_valueOf_94 d mc ms B K)))
theorem zCompany_valueOf_90 {d mc ms : Nat} {B : Nat → Pd} {K : Ps} (hB : ∀ pc, Le (B pc) (G cCompany_valueOf "VoyageCompany$Company" 4 (some .int) "valueOf" (rm (d + 1) mc ms) (QM mc ms K) pc)) : Le (qCompany_valueOf_90 d mc ms B K) (G cCompany_valueOf "VoyageCompany$Company" 4 (some .int) "valueOf" (rm (d + 1) mc ms) (QM mc ms K) 90) := by
  unfold qCompany_valueOf_90
  exact (s_ald_n (j := 3) (by decide +kernel) rfl (s_call (idx := 229) (by decide +kernel) ml1_229 rmk (zCompany_valueOf_94 hB)))
def qCompany_valueOf_86 (d mc ms : Nat) (B : Nat → Pd) (K : Ps) : Pd := (i_ci 0 (qCompany_valueOf_94 d mc ms B K))
theorem zCompany_valueOf_86 {d mc ms : Nat} {B : Nat → Pd} {K : Ps} (hB : ∀ pc, Le (B pc) (G cCompany_valueOf "VoyageCompany$Company" 4 (some .int) "valueOf" (rm (d + 1) mc ms) (QM mc ms K) pc)) : Le (qCompany_valueOf_86 d mc ms B K) (G cCompany_valueOf "VoyageCompany$Company" 4 (some .int) "valueOf" (rm (d + 1) mc ms) (QM mc ms K) 86) := by
  unfold qCompany_valueOf_86
  exact (s_iconst (n := 0) (v := 0) (by decide +kernel) (by decide +kernel) (s_goto (off := 7) (tgt := 94) (by decide +kernel) (by decide) (zCompany_valueOf_94 hB)))
def qCompany_valueOf_82 (d mc ms : Nat) (B : Nat → Pd) (K : Ps) : Pd := (i_ald 3 (i_ifnonnull (qCompany_valueOf_90 d mc ms B K) (qCompany_valueOf_86 d mc ms B K)))
theorem zCompany_valueOf_82 {d mc ms : Nat} {B : Nat → Pd} {K : Ps} (hB : ∀ pc, Le (B pc) (G cCompany_valueOf "VoyageCompany$Company" 4 (some .int) "valueOf" (rm (d + 1) mc ms) (QM mc ms K) pc)) : Le (qCompany_valueOf_82 d mc ms B K) (G cCompany_valueOf "VoyageCompany$Company" 4 (some .int) "valueOf" (rm (d + 1) mc ms) (QM mc ms K) 82) := by
  unfold qCompany_valueOf_82
  exact (s_ald_n (j := 3) (by decide +kernel) rfl (s_ifnonnull (off := 7) (tgt := 90) (by decide +kernel) (by decide) (zCompany_valueOf_90 hB) (zCompany_valueOf_86 hB)))
def qCompany_valueOf_73 (d mc ms : Nat) (B : Nat → Pd) (K : Ps) : Pd := (i_ald 0 (i_ald 2 (i_geti 5 0 (i_call 0 1 yCompany_shipsAt cCompany_shipsAt 4 (some .int) mc ms d 2 (i_iret mc ms K)))))
theorem zCompany_valueOf_73 {d mc ms : Nat} {B : Nat → Pd} {K : Ps} (hB : ∀ pc, Le (B pc) (G cCompany_valueOf "VoyageCompany$Company" 4 (some .int) "valueOf" (rm (d + 1) mc ms) (QM mc ms K) pc)) : Le (qCompany_valueOf_73 d mc ms B K) (G cCompany_valueOf "VoyageCompany$Company" 4 (some .int) "valueOf" (rm (d + 1) mc ms) (QM mc ms K) 73) := by
  unfold qCompany_valueOf_73
  exact (s_ald_n (j := 0) (by decide +kernel) rfl (s_ald_n (j := 2) (by decide +kernel) rfl (s_geti (idx := 162) (by decide +kernel) fl1_162 (by decide) (s_call (idx := 225) (by decide +kernel) ml1_225 rmk (s_iret (by decide +kernel) rfl)))))
def qCompany_valueOf_68 (d mc ms : Nat) (B : Nat → Pd) (K : Ps) : Pd := (i_ald 2 (i_geti 5 5 (i_iret mc ms K)))
theorem zCompany_valueOf_68 {d mc ms : Nat} {B : Nat → Pd} {K : Ps} (hB : ∀ pc, Le (B pc) (G cCompany_valueOf "VoyageCompany$Company" 4 (some .int) "valueOf" (rm (d + 1) mc ms) (QM mc ms K) pc)) : Le (qCompany_valueOf_68 d mc ms B K) (G cCompany_valueOf "VoyageCompany$Company" 4 (some .int) "valueOf" (rm (d + 1) mc ms) (QM mc ms K) 68) := by
  unfold qCompany_valueOf_68
  exact (s_ald_n (j := 2) (by decide +kernel) rfl (s_geti (idx := 153) (by decide +kernel) fl1_153 (by decide) (s_iret (by decide +kernel) rfl)))
def qCompany_valueOf_60 (d mc ms : Nat) (B : Nat → Pd) (K : Ps) : Pd := (i_ald 0 (i_geti 1 0 (i_ci 12 (i_irem (i_iret mc ms K)))))
theorem zCompany_valueOf_60 {d mc ms : Nat} {B : Nat → Pd} {K : Ps} (hB : ∀ pc, Le (B pc) (G cCompany_valueOf "VoyageCompany$Company" 4 (some .int) "valueOf" (rm (d + 1) mc ms) (QM mc ms K) pc)) : Le (qCompany_valueOf_60 d mc ms B K) (G cCompany_valueOf "VoyageCompany$Company" 4 (some .int) "valueOf" (rm (d + 1) mc ms) (QM mc ms K) 60) := by
  unfold qCompany_valueOf_60
  exact (s_ald_n (j := 0) (by decide +kernel) rfl (s_geti (idx := 58) (by decide +kernel) fl1_58 (by decide) (s_bipush (n := 12) (v := 12) (by decide +kernel) (by decide +kernel) (s_irem (by decide +kernel) (s_iret (by decide +kernel) rfl)))))
def qCompany_valueOf_33 (d mc ms : Nat) (B : Nat → Pd) (K : Ps) : Pd := (i_ild 1 (i_sw [(0, (qCompany_valueOf_60 d mc ms B K)), (1, (qCompany_valueOf_68 d mc ms B K)), (2, (qCompany_valueOf_73 d mc ms B K))] (qCompany_valueOf_82 d mc ms B K)))
theorem zCompany_valueOf_33 {d mc ms : Nat} {B : Nat → Pd} {K : Ps} (hB : ∀ pc, Le (B pc) (G cCompany_valueOf "VoyageCompany$Company" 4 (some .int) "valueOf" (rm (d + 1) mc ms) (QM mc ms K) pc)) : Le (qCompany_valueOf_33 d mc ms B K) (G cCompany_valueOf "VoyageCompany$Company" 4 (some .int) "valueOf" (rm (d + 1) mc ms) (QM mc ms K) 33) := by
  unfold qCompany_valueOf_33
  exact (s_ild_n (j := 1) (by decide +kernel) rfl (s_sw (fun x => by
    by_cases h0 : x = 0
    · subst h0
      exact ⟨60, sw_in (dflt := 48) (lo := 0) (hi := 2) (offs := #[26, 34, 39]) (len := 26) (off := 26) (by decide +kernel) (by decide +kernel) (by decide +kernel) (by decide +kernel) (by decide +kernel), by simpa [swp] using (zCompany_valueOf_60 hB)⟩
    by_cases h1 : x = 1
    · subst h1
      exact ⟨68, sw_in (dflt := 48) (lo := 0) (hi := 2) (offs := #[26, 34, 39]) (len := 26) (off := 34) (by decide +kernel) (by decide +kernel) (by decide +kernel) (by decide +kernel) (by decide +kernel), by simpa [swp] using (zCompany_valueOf_68 hB)⟩
    by_cases h2 : x = 2
    · subst h2
      exact ⟨73, sw_in (dflt := 48) (lo := 0) (hi := 2) (offs := #[26, 34, 39]) (len := 26) (off := 39) (by decide +kernel) (by decide +kernel) (by decide +kernel) (by decide +kernel) (by decide +kernel), by simpa [swp] using (zCompany_valueOf_73 hB)⟩
    have g0 := i32_ne (z := 0) (by decide +kernel) h0
    have g1 := i32_ne (z := 1) (by decide +kernel) h1
    have g2 := i32_ne (z := 2) (by decide +kernel) h2
    exact ⟨82, sw_out (dflt := 48) (lo := 0) (hi := 2) (offs := #[26, 34, 39]) (len := 26) (by decide +kernel) (by omega) (by decide +kernel), by simpa [swp, h0, h1, h2] using (zCompany_valueOf_82 hB)⟩)))
def qCompany_valueOf_24 (d mc ms : Nat) (B : Nat → Pd) (K : Ps) : Pd := (i_ald 2 (i_getr 5 1 (i_ild 1 (i_ci 4 (i_isub (i_iald (i_iret mc ms K)))))))
theorem zCompany_valueOf_24 {d mc ms : Nat} {B : Nat → Pd} {K : Ps} (hB : ∀ pc, Le (B pc) (G cCompany_valueOf "VoyageCompany$Company" 4 (some .int) "valueOf" (rm (d + 1) mc ms) (QM mc ms K) pc)) : Le (qCompany_valueOf_24 d mc ms B K) (G cCompany_valueOf "VoyageCompany$Company" 4 (some .int) "valueOf" (rm (d + 1) mc ms) (QM mc ms K) 24) := by
  unfold qCompany_valueOf_24
  exact (s_ald_n (j := 2) (by decide +kernel) rfl (s_getr (idx := 98) (by decide +kernel) fl1_98 (by decide) (s_ild_n (j := 1) (by decide +kernel) rfl (s_iconst (n := 4) (v := 4) (by decide +kernel) (by decide +kernel) (s_isub (by decide +kernel) (s_iald (by decide +kernel) (s_iret (by decide +kernel) rfl)))))))
def qCompany_valueOf_19 (d mc ms : Nat) (B : Nat → Pd) (K : Ps) : Pd := (i_ild 1 (i_ci 4 (i_ic_lt (qCompany_valueOf_33 d mc ms B K) (qCompany_valueOf_24 d mc ms B K))))
theorem zCompany_valueOf_19 {d mc ms : Nat} {B : Nat → Pd} {K : Ps} (hB : ∀ pc, Le (B pc) (G cCompany_valueOf "VoyageCompany$Company" 4 (some .int) "valueOf" (rm (d + 1) mc ms) (QM mc ms K) pc)) : Le (qCompany_valueOf_19 d mc ms B K) (G cCompany_valueOf "VoyageCompany$Company" 4 (some .int) "valueOf" (rm (d + 1) mc ms) (QM mc ms K) 19) := by
  unfold qCompany_valueOf_19
  exact (s_ild_n (j := 1) (by decide +kernel) rfl (s_iconst (n := 4) (v := 4) (by decide +kernel) (by decide +kernel) (s_ic_lt (off := 12) (tgt := 33) (by decide +kernel) (by decide) (zCompany_valueOf_33 hB) (zCompany_valueOf_24 hB))))
def qCompany_valueOf_6 (d mc ms : Nat) (B : Nat → Pd) (K : Ps) : Pd := (i_ald 2 (i_getr 5 2 (i_ild 1 (i_ci 8 (i_isub (i_aald (i_geti 2 1 (i_iret mc ms K))))))))
theorem zCompany_valueOf_6 {d mc ms : Nat} {B : Nat → Pd} {K : Ps} (hB : ∀ pc, Le (B pc) (G cCompany_valueOf "VoyageCompany$Company" 4 (some .int) "valueOf" (rm (d + 1) mc ms) (QM mc ms K) pc)) : Le (qCompany_valueOf_6 d mc ms B K) (G cCompany_valueOf "VoyageCompany$Company" 4 (some .int) "valueOf" (rm (d + 1) mc ms) (QM mc ms K) 6) := by
  unfold qCompany_valueOf_6
  exact (s_ald_n (j := 2) (by decide +kernel) rfl (s_getr (idx := 216) (by decide +kernel) fl1_216 (by decide) (s_ild_n (j := 1) (by decide +kernel) rfl (s_bipush (n := 8) (v := 8) (by decide +kernel) (by decide +kernel) (s_isub (by decide +kernel) (s_aald (by decide +kernel) (s_geti (idx := 220) (by decide +kernel) fl1_220 (by decide) (s_iret (by decide +kernel) rfl))))))))
def qCompany_valueOf_0 (d mc ms : Nat) (B : Nat → Pd) (K : Ps) : Pd := (i_ild 1 (i_ci 8 (i_ic_lt (qCompany_valueOf_19 d mc ms B K) (qCompany_valueOf_6 d mc ms B K))))
theorem zCompany_valueOf_0 {d mc ms : Nat} {B : Nat → Pd} {K : Ps} (hB : ∀ pc, Le (B pc) (G cCompany_valueOf "VoyageCompany$Company" 4 (some .int) "valueOf" (rm (d + 1) mc ms) (QM mc ms K) pc)) : Le (qCompany_valueOf_0 d mc ms B K) (G cCompany_valueOf "VoyageCompany$Company" 4 (some .int) "valueOf" (rm (d + 1) mc ms) (QM mc ms K) 0) := by
  unfold qCompany_valueOf_0
  exact (s_ild_n (j := 1) (by decide +kernel) rfl (s_bipush (n := 8) (v := 8) (by decide +kernel) (by decide +kernel) (s_ic_lt (off := 16) (tgt := 19) (by decide +kernel) (by decide) (zCompany_valueOf_19 hB) (zCompany_valueOf_6 hB))))
/-- VoyageCompany$Company.valueOf(ILVoyageCompany$Port;LVoyageCompany$Ship;)I, at its places -/
def gCompany_valueOf (d mc ms : Nat) (K : Ps) : Nat → Pd := G cCompany_valueOf "VoyageCompany$Company" 4 (some .int) "valueOf" (rm (d + 1) mc ms) (QM mc ms K)
theorem eCompany_valueOf {d mc ms : Nat} {K : Ps} {av : List Value} {E : Nat → Prop} {R : Nat → Nat → Value} {I : Nat → Nat → Int32} {J : Nat → Nat → Int64} (hn : (lg_sl av).length ≤ 4) (h : qCompany_valueOf_0 d mc ms (gCompany_valueOf d mc ms K) K (lv_args 0 av) [] E R I J 0 0) : CL yCompany_valueOf cCompany_valueOf 4 (some .int) (d + 1) mc ms av E R I J K :=
  CL.of (by decide +kernel) hn (zCompany_valueOf_0 (fun _ => Le.refl) _ _ _ _ _ _ _ _ h)
def qCompany_obeyLine_87 (d mc ms : Nat) (B : Nat → Pd) (K : Ps) : Pd := (i_vret mc ms K)
theorem zCompany_obeyLine_87 {d mc ms : Nat} {B : Nat → Pd} {K : Ps} (hB : ∀ pc, Le (B pc) (G cCompany_obeyLine "VoyageCompany$Company" 7 none "obeyLine" (rm (d + 1) mc ms) (QM mc ms K) pc)) : Le (qCompany_obeyLine_87 d mc ms B K) (G cCompany_obeyLine "VoyageCompany$Company" 7 none "obeyLine" (rm (d + 1) mc ms) (QM mc ms K) 87) := by
  unfold qCompany_obeyLine_87
  exact (s_vret (by decide +kernel) rfl)
def qCompany_obeyLine_75 (d mc ms : Nat) (B : Nat → Pd) (K : Ps) : Pd := (i_ald 0 (i_ald 1 (i_ald 2 (i_ild 4 (i_ild 5 (i_ild 6 (i_call 0 1 yCompany_orderShip cCompany_orderShip 6 none mc ms d 6 (qCompany_obeyLine_87 d mc ms B K))))))))
theorem zCompany_obeyLine_75 {d mc ms : Nat} {B : Nat → Pd} {K : Ps} (hB : ∀ pc, Le (B pc) (G cCompany_obeyLine "VoyageCompany$Company" 7 none "obeyLine" (rm (d + 1) mc ms) (QM mc ms K) pc)) : Le (qCompany_obeyLine_75 d mc ms B K) (G cCompany_obeyLine "VoyageCompany$Company" 7 none "obeyLine" (rm (d + 1) mc ms) (QM mc ms K) 75) := by
  unfold qCompany_obeyLine_75
  exact (s_ald_n (j := 0) (by decide +kernel) rfl (s_ald_n (j := 1) (by decide +kernel) rfl (s_ald_n (j := 2) (by decide +kernel) rfl (s_ild (by decide +kernel) (s_ild (by decide +kernel) (s_ild (by decide +kernel) (s_call (idx := 249) (by decide +kernel) ml1_249 rmk (zCompany_obeyLine_87 hB))))))))
def qCompany_obeyLine_71 (d mc ms : Nat) (B : Nat → Pd) (K : Ps) : Pd := (i_ald 2 (i_ifnull (qCompany_obeyLine_87 d mc ms B K) (qCompany_obeyLine_75 d mc ms B K)))
theorem zCompany_obeyLine_71 {d mc ms : Nat} {B : Nat → Pd} {K : Ps} (hB : ∀ pc, Le (B pc) (G cCompany_obeyLine "VoyageCompany$Company" 7 none "obeyLine" (rm (d + 1) mc ms) (QM mc ms K) pc)) : Le (qCompany_obeyLine_71 d mc ms B K) (G cCompany_obeyLine "VoyageCompany$Company" 7 none "obeyLine" (rm (d + 1) mc ms) (QM mc ms K) 71) := by
  unfold qCompany_obeyLine_71
  exact (s_ald_n (j := 2) (by decide +kernel) rfl (s_ifnull (off := 15) (tgt := 87) (by decide +kernel) (by decide) (zCompany_obeyLine_87 hB) (zCompany_obeyLine_75 hB)))
def qCompany_obeyLine_59 (d mc ms : Nat) (B : Nat → Pd) (K : Ps) : Pd := (i_ald 0 (i_ald 1 (i_ild 5 (i_ild 6 (i_call 0 1 yCompany_sellBales cCompany_sellBales 6 none mc ms d 4 (qCompany_obeyLine_87 d mc ms B K))))))
theorem zCompany_obeyLine_59 {d mc ms : Nat} {B : Nat → Pd} {K : Ps} (hB : ∀ pc, Le (B pc) (G cCompany_obeyLine "VoyageCompany$Company" 7 none "obeyLine" (rm (d + 1) mc ms) (QM mc ms K) pc)) : Le (qCompany_obeyLine_59 d mc ms B K) (G cCompany_obeyLine "VoyageCompany$Company" 7 none "obeyLine" (rm (d + 1) mc ms) (QM mc ms K) 59) := by
  unfold qCompany_obeyLine_59
  exact (s_ald_n (j := 0) (by decide +kernel) rfl (s_ald_n (j := 1) (by decide +kernel) rfl (s_ild (by decide +kernel) (s_ild (by decide +kernel) (s_call (idx := 246) (by decide +kernel) ml1_246 rmk (s_goto (off := 19) (tgt := 87) (by decide +kernel) (by decide) (zCompany_obeyLine_87 hB)))))))
def qCompany_obeyLine_52 (d mc ms : Nat) (B : Nat → Pd) (K : Ps) : Pd := (i_ild 4 (i_ci 20 (i_ic_ne (qCompany_obeyLine_71 d mc ms B K) (qCompany_obeyLine_59 d mc ms B K))))
theorem zCompany_obeyLine_52 {d mc ms : Nat} {B : Nat → Pd} {K : Ps} (hB : ∀ pc, Le (B pc) (G cCompany_obeyLine "VoyageCompany$Company" 7 none "obeyLine" (rm (d + 1) mc ms) (QM mc ms K) pc)) : Le (qCompany_obeyLine_52 d mc ms B K) (G cCompany_obeyLine "VoyageCompany$Company" 7 none "obeyLine" (rm (d + 1) mc ms) (QM mc ms K) 52) := by
  unfold qCompany_obeyLine_52
  exact (s_ild (by decide +kernel) (s_bipush (n := 20) (v := 20) (by decide +kernel) (by decide +kernel) (s_ic_ne (off := 15) (tgt := 71) (by decide +kernel) (by decide) (zCompany_obeyLine_71 hB) (zCompany_obeyLine_59 hB))))
def qCompany_obeyLine_40 (d mc ms : Nat) (B : Nat → Pd) (K : Ps) : Pd := (i_ald 0 (i_ald 1 (i_ild 5 (i_ild 6 (i_call 0 1 yCompany_buyBales cCompany_buyBales 6 none mc ms d 4 (qCompany_obeyLine_87 d mc ms B K))))))
theorem zCompany_obeyLine_40 {d mc ms : Nat} {B : Nat → Pd} {K : Ps} (hB : ∀ pc, Le (B pc) (G cCompany_obeyLine "VoyageCompany$Company" 7 none "obeyLine" (rm (d + 1) mc ms) (QM mc ms K) pc)) : Le (qCompany_obeyLine_40 d mc ms B K) (G cCompany_obeyLine "VoyageCompany$Company" 7 none "obeyLine" (rm (d + 1) mc ms) (QM mc ms K) 40) := by
  unfold qCompany_obeyLine_40
  exact (s_ald_n (j := 0) (by decide +kernel) rfl (s_ald_n (j := 1) (by decide +kernel) rfl (s_ild (by decide +kernel) (s_ild (by decide +kernel) (s_call (idx := 242) (by decide +kernel) ml1_242 rmk (s_goto (off := 38) (tgt := 87) (by decide +kernel) (by decide) (zCompany_obeyLine_87 hB)))))))
def qCompany_obeyLine_0 (d mc ms : Nat) (B : Nat → Pd) (K : Ps) : Pd := (i_ald 1 (i_getr 5 3 (i_getr 3 1 (i_ild 3 (i_iald (i_ist 4 (i_ald 1 (i_getr 5 3 (i_getr 3 2 (i_ild 3 (i_iald (i_ist 5 (i_ald 1 (i_getr 5 3 (i_getr 3 3 (i_ild 3 (i_iald (i_ist 6 (i_ild 4 (i_ci 19 (i_ic_ne (qCompany_obeyLine_52 d mc ms B K) (qCompany_obeyLine_40 d mc ms B K))))))))))))))))))))))
theorem zCompany_obeyLine_0 {d mc ms : Nat} {B : Nat → Pd} {K : Ps} (hB : ∀ pc, Le (B pc) (G cCompany_obeyLine "VoyageCompany$Company" 7 none "obeyLine" (rm (d + 1) mc ms) (QM mc ms K) pc)) : Le (qCompany_obeyLine_0 d mc ms B K) (G cCompany_obeyLine "VoyageCompany$Company" 7 none "obeyLine" (rm (d + 1) mc ms) (QM mc ms K) 0) := by
  unfold qCompany_obeyLine_0
  exact (s_ald_n (j := 1) (by decide +kernel) rfl (s_getr (idx := 180) (by decide +kernel) fl1_180 (by decide) (s_getr (idx := 233) (by decide +kernel) fl1_233 (by decide) (s_ild_n (j := 3) (by decide +kernel) rfl (s_iald (by decide +kernel) (s_ist (by decide +kernel) (by decide) (s_ald_n (j := 1) (by decide +kernel) rfl (s_getr (idx := 180) (by decide +kernel) fl1_180 (by decide) (s_getr (idx := 236) (by decide +kernel) fl1_236 (by decide) (s_ild_n (j := 3) (by decide +kernel) rfl (s_iald (by decide +kernel) (s_ist (by decide +kernel) (by decide) (s_ald_n (j := 1) (by decide +kernel) rfl (s_getr (idx := 180) (by decide +kernel) fl1_180 (by decide) (s_getr (idx := 239) (by decide +kernel) fl1_239 (by decide) (s_ild_n (j := 3) (by decide +kernel) rfl (s_iald (by decide +kernel) (s_ist (by decide +kernel) (by decide) (s_ild (by decide +kernel) (s_bipush (n := 19) (v := 19) (by decide +kernel) (by decide +kernel) (s_ic_ne (off := 15) (tgt := 52) (by decide +kernel) (by decide) (zCompany_obeyLine_52 hB) (zCompany_obeyLine_40 hB))))))))))))))))))))))
/-- VoyageCompany$Company.obeyLine(LVoyageCompany$Port;LVoyageCompany$Ship;I)V, at its places -/
def gCompany_obeyLine (d mc ms : Nat) (K : Ps) : Nat → Pd := G cCompany_obeyLine "VoyageCompany$Company" 7 none "obeyLine" (rm (d + 1) mc ms) (QM mc ms K)
theorem eCompany_obeyLine {d mc ms : Nat} {K : Ps} {av : List Value} {E : Nat → Prop} {R : Nat → Nat → Value} {I : Nat → Nat → Int32} {J : Nat → Nat → Int64} (hn : (lg_sl av).length ≤ 7) (h : qCompany_obeyLine_0 d mc ms (gCompany_obeyLine d mc ms K) K (lv_args 0 av) [] E R I J 0 0) : CL yCompany_obeyLine cCompany_obeyLine 7 none (d + 1) mc ms av E R I J K :=
  CL.of (by decide +kernel) hn (zCompany_obeyLine_0 (fun _ => Le.refl) _ _ _ _ _ _ _ _ h)
def qCompany_orderShip_111 (d mc ms : Nat) (B : Nat → Pd) (K : Ps) : Pd := (i_vret mc ms K)
theorem zCompany_orderShip_111 {d mc ms : Nat} {B : Nat → Pd} {K : Ps} (hB : ∀ pc, Le (B pc) (G cCompany_orderShip "VoyageCompany$Company" 6 none "orderShip" (rm (d + 1) mc ms) (QM mc ms K) pc)) : Le (qCompany_orderShip_111 d mc ms B K) (G cCompany_orderShip "VoyageCompany$Company" 6 none "orderShip" (rm (d + 1) mc ms) (QM mc ms K) 111) := by
  unfold qCompany_orderShip_111
  exact (s_vret (by decide +kernel) rfl)
def qCompany_orderShip_92 (d mc ms : Nat) (B : Nat → Pd) (K : Ps) : Pd := (i_ald 0 (i_ald 1 (i_ald 2 (i_call 0 1 yCompany_buyForMaster cCompany_buyForMaster 5 none mc ms d 3 (i_ald 2 (i_ild 5 (i_ald 0 (i_geti 1 0 (i_call 0 7 yShip_leaveFor cShip_leaveFor 3 none mc ms d 3 (qCompany_orderShip_111 d mc ms B K))))))))))
theorem zCompany_orderShip_92 {d mc ms : Nat} {B : Nat → Pd} {K : Ps} (hB : ∀ pc, Le (B pc) (G cCompany_orderShip "VoyageCompany$Company" 6 none "orderShip" (rm (d + 1) mc ms) (QM mc ms K) pc)) : Le (qCompany_orderShip_92 d mc ms B K) (G cCompany_orderShip "VoyageCompany$Company" 6 none "orderShip" (rm (d + 1) mc ms) (QM mc ms K) 92) := by
  unfold qCompany_orderShip_92
  exact (s_ald_n (j := 0) (by decide +kernel) rfl (s_ald_n (j := 1) (by decide +kernel) rfl (s_ald_n (j := 2) (by decide +kernel) rfl (s_call (idx := 270) (by decide +kernel) ml1_270 rmk (s_ald_n (j := 2) (by decide +kernel) rfl (s_ild (by decide +kernel) (s_ald_n (j := 0) (by decide +kernel) rfl (s_geti (idx := 58) (by decide +kernel) fl1_58 (by decide) (s_call (idx := 274) (by decide +kernel) ml1_274 rmk (s_goto (off := 3) (tgt := 111) (by decide +kernel) (by decide) (zCompany_orderShip_111 hB)))))))))))
def qCompany_orderShip_79 (d mc ms : Nat) (B : Nat → Pd) (K : Ps) : Pd := (i_ald 0 (i_ald 1 (i_geti 5 0 (i_ild 5 (i_call 0 1 yCompany_windsAllow cCompany_windsAllow 5 (some .boolean) mc ms d 3 (i_if_eq (qCompany_orderShip_111 d mc ms B K) (qCompany_orderShip_92 d mc ms B K)))))))
theorem zCompany_orderShip_79 {d mc ms : Nat} {B : Nat → Pd} {K : Ps} (hB : ∀ pc, Le (B pc) (G cCompany_orderShip "VoyageCompany$Company" 6 none "orderShip" (rm (d + 1) mc ms) (QM mc ms K) pc)) : Le (qCompany_orderShip_79 d mc ms B K) (G cCompany_orderShip "VoyageCompany$Company" 6 none "orderShip" (rm (d + 1) mc ms) (QM mc ms K) 79) := by
  unfold qCompany_orderShip_79
  exact (s_ald_n (j := 0) (by decide +kernel) rfl (s_ald_n (j := 1) (by decide +kernel) rfl (s_geti (idx := 162) (by decide +kernel) fl1_162 (by decide) (s_ild (by decide +kernel) (s_call (idx := 266) (by decide +kernel) ml1_266 rmk (s_if_eq (off := 22) (tgt := 111) (by decide +kernel) (by decide) (zCompany_orderShip_111 hB) (zCompany_orderShip_92 hB)))))))
def qCompany_orderShip_68 (d mc ms : Nat) (B : Nat → Pd) (K : Ps) : Pd := (i_ald 2 (i_ald 1 (i_getr 5 1 (i_call 0 7 yShip_discharge cShip_discharge 3 none mc ms d 2 (qCompany_orderShip_111 d mc ms B K)))))
theorem zCompany_orderShip_68 {d mc ms : Nat} {B : Nat → Pd} {K : Ps} (hB : ∀ pc, Le (B pc) (G cCompany_orderShip "VoyageCompany$Company" 6 none "orderShip" (rm (d + 1) mc ms) (QM mc ms K) pc)) : Le (qCompany_orderShip_68 d mc ms B K) (G cCompany_orderShip "VoyageCompany$Company" 6 none "orderShip" (rm (d + 1) mc ms) (QM mc ms K) 68) := by
  unfold qCompany_orderShip_68
  exact (s_ald_n (j := 2) (by decide +kernel) rfl (s_ald_n (j := 1) (by decide +kernel) rfl (s_getr (idx := 98) (by decide +kernel) fl1_98 (by decide) (s_call (idx := 262) (by decide +kernel) ml1_262 rmk (s_goto (off := 35) (tgt := 111) (by decide +kernel) (by decide) (zCompany_orderShip_111 hB))))))
def qCompany_orderShip_54 (d mc ms : Nat) (B : Nat → Pd) (K : Ps) : Pd := (i_ald 2 (i_ald 1 (i_getr 5 1 (i_ci 0 (i_ild 5 (i_call 0 7 yShip_takeIn cShip_takeIn 5 none mc ms d 4 (qCompany_orderShip_111 d mc ms B K)))))))
theorem zCompany_orderShip_54 {d mc ms : Nat} {B : Nat → Pd} {K : Ps} (hB : ∀ pc, Le (B pc) (G cCompany_orderShip "VoyageCompany$Company" 6 none "orderShip" (rm (d + 1) mc ms) (QM mc ms K) pc)) : Le (qCompany_orderShip_54 d mc ms B K) (G cCompany_orderShip "VoyageCompany$Company" 6 none "orderShip" (rm (d + 1) mc ms) (QM mc ms K) 54) := by
  unfold qCompany_orderShip_54
  exact (s_ald_n (j := 2) (by decide +kernel) rfl (s_ald_n (j := 1) (by decide +kernel) rfl (s_getr (idx := 98) (by decide +kernel) fl1_98 (by decide) (s_iconst (n := 0) (v := 0) (by decide +kernel) (by decide +kernel) (s_ild (by decide +kernel) (s_call (idx := 258) (by decide +kernel) ml1_258 rmk (s_goto (off := 46) (tgt := 111) (by decide +kernel) (by decide) (zCompany_orderShip_111 hB))))))))
def qCompany_orderShip_32 (d mc ms : Nat) (B : Nat → Pd) (K : Ps) : Pd := (i_ald 2 (i_ald 1 (i_getr 5 1 (i_ild 4 (i_ild 5 (i_ald 2 (i_call 0 7 yShip_room cShip_room 3 (some .int) mc ms d 1 (i_call 2 0 yJmath_min cJmath_min 2 (some .int) mc ms d 2 (i_call 0 7 yShip_takeIn cShip_takeIn 5 none mc ms d 4 (qCompany_orderShip_111 d mc ms B K))))))))))
theorem zCompany_orderShip_32 {d mc ms : Nat} {B : Nat → Pd} {K : Ps} (hB : ∀ pc, Le (B pc) (G cCompany_orderShip "VoyageCompany$Company" 6 none "orderShip" (rm (d + 1) mc ms) (QM mc ms K) pc)) : Le (qCompany_orderShip_32 d mc ms B K) (G cCompany_orderShip "VoyageCompany$Company" 6 none "orderShip" (rm (d + 1) mc ms) (QM mc ms K) 32) := by
  unfold qCompany_orderShip_32
  exact (s_ald_n (j := 2) (by decide +kernel) rfl (s_ald_n (j := 1) (by decide +kernel) rfl (s_getr (idx := 98) (by decide +kernel) fl1_98 (by decide) (s_ild (by decide +kernel) (s_ild (by decide +kernel) (s_ald_n (j := 2) (by decide +kernel) rfl (s_call (idx := 229) (by decide +kernel) ml1_229 rmk (s_call (idx := 253) (by decide +kernel) ml1_253 rmk (s_call (idx := 258) (by decide +kernel) ml1_258 rmk (s_goto (off := 60) (tgt := 111) (by decide +kernel) (by decide) (zCompany_orderShip_111 hB)))))))))))
def qCompany_orderShip_0 (d mc ms : Nat) (B : Nat → Pd) (K : Ps) : Pd := (i_ild 3 (i_sw [(21, (qCompany_orderShip_32 d mc ms B K)), (22, (qCompany_orderShip_54 d mc ms B K)), (23, (qCompany_orderShip_68 d mc ms B K)), (24, (qCompany_orderShip_79 d mc ms B K))] (qCompany_orderShip_111 d mc ms B K)))
theorem zCompany_orderShip_0 {d mc ms : Nat} {B : Nat → Pd} {K : Ps} (hB : ∀ pc, Le (B pc) (G cCompany_orderShip "VoyageCompany$Company" 6 none "orderShip" (rm (d + 1) mc ms) (QM mc ms K) pc)) : Le (qCompany_orderShip_0 d mc ms B K) (G cCompany_orderShip "VoyageCompany$Company" 6 none "orderShip" (rm (d + 1) mc ms) (QM mc ms K) 0) := by
  unfold qCompany_orderShip_0
  exact (s_ild_n (j := 3) (by decide +kernel) rfl (s_sw (fun x => by
    by_cases h0 : x = 21
    · subst h0
      exact ⟨32, sw_in (dflt := 110) (lo := 21) (hi := 24) (offs := #[31, 53, 67, 78]) (len := 31) (off := 31) (by decide +kernel) (by decide +kernel) (by decide +kernel) (by decide +kernel) (by decide +kernel), by simpa [swp] using (zCompany_orderShip_32 hB)⟩
    by_cases h1 : x = 22
    · subst h1
      exact ⟨54, sw_in (dflt := 110) (lo := 21) (hi := 24) (offs := #[31, 53, 67, 78]) (len := 31) (off := 53) (by decide +kernel) (by decide +kernel) (by decide +kernel) (by decide +kernel) (by decide +kernel), by simpa [swp] using (zCompany_orderShip_54 hB)⟩
    by_cases h2 : x = 23
    · subst h2
      exact ⟨68, sw_in (dflt := 110) (lo := 21) (hi := 24) (offs := #[31, 53, 67, 78]) (len := 31) (off := 67) (by decide +kernel) (by decide +kernel) (by decide +kernel) (by decide +kernel) (by decide +kernel), by simpa [swp] using (zCompany_orderShip_68 hB)⟩
    by_cases h3 : x = 24
    · subst h3
      exact ⟨79, sw_in (dflt := 110) (lo := 21) (hi := 24) (offs := #[31, 53, 67, 78]) (len := 31) (off := 78) (by decide +kernel) (by decide +kernel) (by decide +kernel) (by decide +kernel) (by decide +kernel), by simpa [swp] using (zCompany_orderShip_79 hB)⟩
    have g0 := i32_ne (z := 21) (by decide +kernel) h0
    have g1 := i32_ne (z := 22) (by decide +kernel) h1
    have g2 := i32_ne (z := 23) (by decide +kernel) h2
    have g3 := i32_ne (z := 24) (by decide +kernel) h3
    exact ⟨111, sw_out (dflt := 110) (lo := 21) (hi := 24) (offs := #[31, 53, 67, 78]) (len := 31) (by decide +kernel) (by omega) (by decide +kernel), by simpa [swp, h0, h1, h2, h3] using (zCompany_orderShip_111 hB)⟩)))
/-- VoyageCompany$Company.orderShip(LVoyageCompany$Port;LVoyageCompany$Ship;III)V, at its places -/
def gCompany_orderShip (d mc ms : Nat) (K : Ps) : Nat → Pd := G cCompany_orderShip "VoyageCompany$Company" 6 none "orderShip" (rm (d + 1) mc ms) (QM mc ms K)
theorem eCompany_orderShip {d mc ms : Nat} {K : Ps} {av : List Value} {E : Nat → Prop} {R : Nat → Nat → Value} {I : Nat → Nat → Int32} {J : Nat → Nat → Int64} (hn : (lg_sl av).length ≤ 6) (h : qCompany_orderShip_0 d mc ms (gCompany_orderShip d mc ms K) K (lv_args 0 av) [] E R I J 0 0) : CL yCompany_orderShip cCompany_orderShip 6 none (d + 1) mc ms av E R I J K :=
  CL.of (by decide +kernel) hn (zCompany_orderShip_0 (fun _ => Le.refl) _ _ _ _ _ _ _ _ h)
def qCompany_buyBales_90 (d mc ms : Nat) (B : Nat → Pd) (K : Ps) : Pd := (i_vret mc ms K)
theorem zCompany_buyBales_90 {d mc ms : Nat} {B : Nat → Pd} {K : Ps} (hB : ∀ pc, Le (B pc) (G cCompany_buyBales "VoyageCompany$Company" 6 none "buyBales" (rm (d + 1) mc ms) (QM mc ms K) pc)) : Le (qCompany_buyBales_90 d mc ms B K) (G cCompany_buyBales "VoyageCompany$Company" 6 none "buyBales" (rm (d + 1) mc ms) (QM mc ms K) 90) := by
  unfold qCompany_buyBales_90
  exact (s_vret (by decide +kernel) rfl)
def qCompany_buyBales_31 (d mc ms : Nat) (B : Nat → Pd) (K : Ps) : Pd := (i_ald 1 (i_getr 5 1 (i_ci 0 (i_dup2 (i_iald (i_ald 4 (i_geti 2 1 (i_isub (i_iast (i_ald 1 (i_getr 5 1 (i_ild 2 (i_dup2 (i_iald (i_ci 1 (i_iadd (i_iast (i_ald 0 (i_getr 1 8 (i_ci 0 (i_ci 3 (i_ald 4 (i_geti 2 1 (i_call 0 0 yBooks_enter cBooks_enter 4 none mc ms d 4 (i_ald 0 (i_getr 1 8 (i_ild 2 (i_ci 0 (i_ci 1 (i_call 0 0 yBooks_enter cBooks_enter 4 none mc ms d 4 (i_ald 4 (i_call 0 2 yMarket_countBought cMarket_countBought 1 none mc ms d 1 (i_inc 5 1 (B 11))))))))))))))))))))))))))))))))))
theorem zCompany_buyBales_31 {d mc ms : Nat} {B : Nat → Pd} {K : Ps} (hB : ∀ pc, Le (B pc) (G cCompany_buyBales "VoyageCompany$Company" 6 none "buyBales" (rm (d + 1) mc ms) (QM mc ms K) pc)) : Le (qCompany_buyBales_31 d mc ms B K) (G cCompany_buyBales "VoyageCompany$Company" 6 none "buyBales" (rm (d + 1) mc ms) (QM mc ms K) 31) := by
  unfold qCompany_buyBales_31
  exact (s_ald_n (j := 1) (by decide +kernel) rfl (s_getr (idx := 98) (by decide +kernel) fl1_98 (by decide) (s_iconst (n := 0) (v := 0) (by decide +kernel) (by decide +kernel) (s_dup2 (by decide +kernel) (s_iald (by decide +kernel) (s_ald (by decide +kernel) (s_geti (idx := 220) (by decide +kernel) fl1_220 (by decide) (s_isub (by decide +kernel) (s_iast (by decide +kernel) (s_ald_n (j := 1) (by decide +kernel) rfl (s_getr (idx := 98) (by decide +kernel) fl1_98 (by decide) (s_ild_n (j := 2) (by decide +kernel) rfl (s_dup2 (by decide +kernel) (s_iald (by decide +kernel) (s_iconst (n := 1) (v := 1) (by decide +kernel) (by decide +kernel) (s_iadd (by decide +kernel) (s_iast (by decide +kernel) (s_ald_n (j := 0) (by decide +kernel) rfl (s_getr (idx := 48) (by decide +kernel) fl1_48 (by decide) (s_iconst (n := 0) (v := 0) (by decide +kernel) (by decide +kernel) (s_iconst (n := 3) (v := 3) (by decide +kernel) (by decide +kernel) (s_ald (by decide +kernel) (s_geti (idx := 220) (by decide +kernel) fl1_220 (by decide) (s_call (idx := 146) (by decide +kernel) ml1_146 rmk (s_ald_n (j := 0) (by decide +kernel) rfl (s_getr (idx := 48) (by decide +kernel) fl1_48 (by decide) (s_ild_n (j := 2) (by decide +kernel) rfl (s_iconst (n := 0) (v := 0) (by decide +kernel) (by decide +kernel) (s_iconst (n := 1) (v := 1) (by decide +kernel) (by decide +kernel) (s_call (idx := 146) (by decide +kernel) ml1_146 rmk (s_ald (by decide +kernel) (s_call (idx := 278) (by decide +kernel) ml1_278 rmk (s_inc (z := 1) (by decide +kernel) (by decide +kernel) (by decide) (s_goto (off := (-76)) (tgt := 11) (by decide +kernel) (by decide) (hB 11)))))))))))))))))))))))))))))))))))
def qCompany_buyBales_17 (d mc ms : Nat) (B : Nat → Pd) (K : Ps) : Pd := (i_ald 1 (i_getr 5 1 (i_ci 0 (i_iald (i_ald 4 (i_geti 2 1 (i_ic_lt (qCompany_buyBales_90 d mc ms B K) (qCompany_buyBales_31 d mc ms B K))))))))
theorem zCompany_buyBales_17 {d mc ms : Nat} {B : Nat → Pd} {K : Ps} (hB : ∀ pc, Le (B pc) (G cCompany_buyBales "VoyageCompany$Company" 6 none "buyBales" (rm (d + 1) mc ms) (QM mc ms K) pc)) : Le (qCompany_buyBales_17 d mc ms B K) (G cCompany_buyBales "VoyageCompany$Company" 6 none "buyBales" (rm (d + 1) mc ms) (QM mc ms K) 17) := by
  unfold qCompany_buyBales_17
  exact (s_ald_n (j := 1) (by decide +kernel) rfl (s_getr (idx := 98) (by decide +kernel) fl1_98 (by decide) (s_iconst (n := 0) (v := 0) (by decide +kernel) (by decide +kernel) (s_iald (by decide +kernel) (s_ald (by decide +kernel) (s_geti (idx := 220) (by decide +kernel) fl1_220 (by decide) (s_ic_lt (off := 62) (tgt := 90) (by decide +kernel) (by decide) (zCompany_buyBales_90 hB) (zCompany_buyBales_31 hB))))))))
def qCompany_buyBales_11 (d mc ms : Nat) (B : Nat → Pd) (K : Ps) : Pd := (i_ild 5 (i_ild 3 (i_ic_ge (qCompany_buyBales_90 d mc ms B K) (qCompany_buyBales_17 d mc ms B K))))
theorem zCompany_buyBales_11 {d mc ms : Nat} {B : Nat → Pd} {K : Ps} (hB : ∀ pc, Le (B pc) (G cCompany_buyBales "VoyageCompany$Company" 6 none "buyBales" (rm (d + 1) mc ms) (QM mc ms K) pc)) : Le (qCompany_buyBales_11 d mc ms B K) (G cCompany_buyBales "VoyageCompany$Company" 6 none "buyBales" (rm (d + 1) mc ms) (QM mc ms K) 11) := by
  unfold qCompany_buyBales_11
  exact (s_ild (by decide +kernel) (s_ild_n (j := 3) (by decide +kernel) rfl (s_ic_ge (off := 76) (tgt := 90) (by decide +kernel) (by decide) (zCompany_buyBales_90 hB) (zCompany_buyBales_17 hB))))
def qCompany_buyBales_0 (d mc ms : Nat) (B : Nat → Pd) (K : Ps) : Pd := (i_ald 1 (i_getr 5 2 (i_ild 2 (i_aald (i_ast 4 (i_ci 0 (i_ist 5 (B 11))))))))
theorem zCompany_buyBales_0 {d mc ms : Nat} {B : Nat → Pd} {K : Ps} (hB : ∀ pc, Le (B pc) (G cCompany_buyBales "VoyageCompany$Company" 6 none "buyBales" (rm (d + 1) mc ms) (QM mc ms K) pc)) : Le (qCompany_buyBales_0 d mc ms B K) (G cCompany_buyBales "VoyageCompany$Company" 6 none "buyBales" (rm (d + 1) mc ms) (QM mc ms K) 0) := by
  unfold qCompany_buyBales_0
  exact (s_ald_n (j := 1) (by decide +kernel) rfl (s_getr (idx := 216) (by decide +kernel) fl1_216 (by decide) (s_ild_n (j := 2) (by decide +kernel) rfl (s_aald (by decide +kernel) (s_ast (by decide +kernel) (by decide) (s_iconst (n := 0) (v := 0) (by decide +kernel) (by decide +kernel) (s_ist (by decide +kernel) (by decide) (hB 11))))))))
/-- VoyageCompany$Company.buyBales(LVoyageCompany$Port;II)V, at its places -/
def gCompany_buyBales (d mc ms : Nat) (K : Ps) : Nat → Pd := G cCompany_buyBales "VoyageCompany$Company" 6 none "buyBales" (rm (d + 1) mc ms) (QM mc ms K)
theorem eCompany_buyBales {d mc ms : Nat} {K : Ps} {av : List Value} {E : Nat → Prop} {R : Nat → Nat → Value} {I : Nat → Nat → Int32} {J : Nat → Nat → Int64} (hn : (lg_sl av).length ≤ 6) (h : qCompany_buyBales_0 d mc ms (gCompany_buyBales d mc ms K) K (lv_args 0 av) [] E R I J 0 0) : CL yCompany_buyBales cCompany_buyBales 6 none (d + 1) mc ms av E R I J K :=
  CL.of (by decide +kernel) hn (zCompany_buyBales_0 (fun _ => Le.refl) _ _ _ _ _ _ _ _ h)
theorem lCompany_buyBales_11 {d mc ms : Nat} {K : Ps} : Le (qCompany_buyBales_11 d mc ms (gCompany_buyBales d mc ms K) K) (gCompany_buyBales d mc ms K 11) := zCompany_buyBales_11 (fun _ => Le.refl)
def qCompany_sellBales_85 (d mc ms : Nat) (B : Nat → Pd) (K : Ps) : Pd := (i_vret mc ms K)
theorem zCompany_sellBales_85 {d mc ms : Nat} {B : Nat → Pd} {K : Ps} (hB : ∀ pc, Le (B pc) (G cCompany_sellBales "VoyageCompany$Company" 6 none "sellBales" (rm (d + 1) mc ms) (QM mc ms K) pc)) : Le (qCompany_sellBales_85 d mc ms B K) (G cCompany_sellBales "VoyageCompany$Company" 6 none "sellBales" (rm (d + 1) mc ms) (QM mc ms K) 85) := by
  unfold qCompany_sellBales_85
  exact (s_vret (by decide +kernel) rfl)
def qCompany_sellBales_26 (d mc ms : Nat) (B : Nat → Pd) (K : Ps) : Pd := (i_ald 1 (i_getr 5 1 (i_ild 2 (i_dup2 (i_iald (i_ci 1 (i_isub (i_iast (i_ald 1 (i_getr 5 1 (i_ci 0 (i_dup2 (i_iald (i_ald 4 (i_geti 2 1 (i_iadd (i_iast (i_ald 0 (i_getr 1 8 (i_ild 2 (i_ci 3 (i_ci 1 (i_call 0 0 yBooks_enter cBooks_enter 4 none mc ms d 4 (i_ald 0 (i_getr 1 8 (i_ci 0 (i_ci 0 (i_ald 4 (i_geti 2 1 (i_call 0 0 yBooks_enter cBooks_enter 4 none mc ms d 4 (i_ald 4 (i_call 0 2 yMarket_countSold cMarket_countSold 1 none mc ms d 1 (i_inc 5 1 (B 11))))))))))))))))))))))))))))))))))
theorem zCompany_sellBales_26 {d mc ms : Nat} {B : Nat → Pd} {K : Ps} (hB : ∀ pc, Le (B pc) (G cCompany_sellBales "VoyageCompany$Company" 6 none "sellBales" (rm (d + 1) mc ms) (QM mc ms K) pc)) : Le (qCompany_sellBales_26 d mc ms B K) (G cCompany_sellBales "VoyageCompany$Company" 6 none "sellBales" (rm (d + 1) mc ms) (QM mc ms K) 26) := by
  unfold qCompany_sellBales_26
  exact (s_ald_n (j := 1) (by decide +kernel) rfl (s_getr (idx := 98) (by decide +kernel) fl1_98 (by decide) (s_ild_n (j := 2) (by decide +kernel) rfl (s_dup2 (by decide +kernel) (s_iald (by decide +kernel) (s_iconst (n := 1) (v := 1) (by decide +kernel) (by decide +kernel) (s_isub (by decide +kernel) (s_iast (by decide +kernel) (s_ald_n (j := 1) (by decide +kernel) rfl (s_getr (idx := 98) (by decide +kernel) fl1_98 (by decide) (s_iconst (n := 0) (v := 0) (by decide +kernel) (by decide +kernel) (s_dup2 (by decide +kernel) (s_iald (by decide +kernel) (s_ald (by decide +kernel) (s_geti (idx := 220) (by decide +kernel) fl1_220 (by decide) (s_iadd (by decide +kernel) (s_iast (by decide +kernel) (s_ald_n (j := 0) (by decide +kernel) rfl (s_getr (idx := 48) (by decide +kernel) fl1_48 (by decide) (s_ild_n (j := 2) (by decide +kernel) rfl (s_iconst (n := 3) (v := 3) (by decide +kernel) (by decide +kernel) (s_iconst (n := 1) (v := 1) (by decide +kernel) (by decide +kernel) (s_call (idx := 146) (by decide +kernel) ml1_146 rmk (s_ald_n (j := 0) (by decide +kernel) rfl (s_getr (idx := 48) (by decide +kernel) fl1_48 (by decide) (s_iconst (n := 0) (v := 0) (by decide +kernel) (by decide +kernel) (s_iconst (n := 0) (v := 0) (by decide +kernel) (by decide +kernel) (s_ald (by decide +kernel) (s_geti (idx := 220) (by decide +kernel) fl1_220 (by decide) (s_call (idx := 146) (by decide +kernel) ml1_146 rmk (s_ald (by decide +kernel) (s_call (idx := 281) (by decide +kernel) ml1_281 rmk (s_inc (z := 1) (by decide +kernel) (by decide +kernel) (by decide) (s_goto (off := (-71)) (tgt := 11) (by decide +kernel) (by decide) (hB 11)))))))))))))))))))))))))))))))))))
def qCompany_sellBales_17 (d mc ms : Nat) (B : Nat → Pd) (K : Ps) : Pd := (i_ald 1 (i_getr 5 1 (i_ild 2 (i_iald (i_if_le (qCompany_sellBales_85 d mc ms B K) (qCompany_sellBales_26 d mc ms B K))))))
theorem zCompany_sellBales_17 {d mc ms : Nat} {B : Nat → Pd} {K : Ps} (hB : ∀ pc, Le (B pc) (G cCompany_sellBales "VoyageCompany$Company" 6 none "sellBales" (rm (d + 1) mc ms) (QM mc ms K) pc)) : Le (qCompany_sellBales_17 d mc ms B K) (G cCompany_sellBales "VoyageCompany$Company" 6 none "sellBales" (rm (d + 1) mc ms) (QM mc ms K) 17) := by
  unfold qCompany_sellBales_17
  exact (s_ald_n (j := 1) (by decide +kernel) rfl (s_getr (idx := 98) (by decide +kernel) fl1_98 (by decide) (s_ild_n (j := 2) (by decide +kernel) rfl (s_iald (by decide +kernel) (s_if_le (off := 62) (tgt := 85) (by decide +kernel) (by decide) (zCompany_sellBales_85 hB) (zCompany_sellBales_26 hB))))))
def qCompany_sellBales_11 (d mc ms : Nat) (B : Nat → Pd) (K : Ps) : Pd := (i_ild 5 (i_ild 3 (i_ic_ge (qCompany_sellBales_85 d mc ms B K) (qCompany_sellBales_17 d mc ms B K))))
theorem zCompany_sellBales_11 {d mc ms : Nat} {B : Nat → Pd} {K : Ps} (hB : ∀ pc, Le (B pc) (G cCompany_sellBales "VoyageCompany$Company" 6 none "sellBales" (rm (d + 1) mc ms) (QM mc ms K) pc)) : Le (qCompany_sellBales_11 d mc ms B K) (G cCompany_sellBales "VoyageCompany$Company" 6 none "sellBales" (rm (d + 1) mc ms) (QM mc ms K) 11) := by
  unfold qCompany_sellBales_11
  exact (s_ild (by decide +kernel) (s_ild_n (j := 3) (by decide +kernel) rfl (s_ic_ge (off := 71) (tgt := 85) (by decide +kernel) (by decide) (zCompany_sellBales_85 hB) (zCompany_sellBales_17 hB))))
def qCompany_sellBales_0 (d mc ms : Nat) (B : Nat → Pd) (K : Ps) : Pd := (i_ald 1 (i_getr 5 2 (i_ild 2 (i_aald (i_ast 4 (i_ci 0 (i_ist 5 (B 11))))))))
theorem zCompany_sellBales_0 {d mc ms : Nat} {B : Nat → Pd} {K : Ps} (hB : ∀ pc, Le (B pc) (G cCompany_sellBales "VoyageCompany$Company" 6 none "sellBales" (rm (d + 1) mc ms) (QM mc ms K) pc)) : Le (qCompany_sellBales_0 d mc ms B K) (G cCompany_sellBales "VoyageCompany$Company" 6 none "sellBales" (rm (d + 1) mc ms) (QM mc ms K) 0) := by
  unfold qCompany_sellBales_0
  exact (s_ald_n (j := 1) (by decide +kernel) rfl (s_getr (idx := 216) (by decide +kernel) fl1_216 (by decide) (s_ild_n (j := 2) (by decide +kernel) rfl (s_aald (by decide +kernel) (s_ast (by decide +kernel) (by decide) (s_iconst (n := 0) (v := 0) (by decide +kernel) (by decide +kernel) (s_ist (by decide +kernel) (by decide) (hB 11))))))))
/-- VoyageCompany$Company.sellBales(LVoyageCompany$Port;II)V, at its places -/
def gCompany_sellBales (d mc ms : Nat) (K : Ps) : Nat → Pd := G cCompany_sellBales "VoyageCompany$Company" 6 none "sellBales" (rm (d + 1) mc ms) (QM mc ms K)
theorem eCompany_sellBales {d mc ms : Nat} {K : Ps} {av : List Value} {E : Nat → Prop} {R : Nat → Nat → Value} {I : Nat → Nat → Int32} {J : Nat → Nat → Int64} (hn : (lg_sl av).length ≤ 6) (h : qCompany_sellBales_0 d mc ms (gCompany_sellBales d mc ms K) K (lv_args 0 av) [] E R I J 0 0) : CL yCompany_sellBales cCompany_sellBales 6 none (d + 1) mc ms av E R I J K :=
  CL.of (by decide +kernel) hn (zCompany_sellBales_0 (fun _ => Le.refl) _ _ _ _ _ _ _ _ h)
theorem lCompany_sellBales_11 {d mc ms : Nat} {K : Ps} : Le (qCompany_sellBales_11 d mc ms (gCompany_sellBales d mc ms K) K) (gCompany_sellBales d mc ms K 11) := zCompany_sellBales_11 (fun _ => Le.refl)
def qCompany_buyForMaster_61 (d mc ms : Nat) (B : Nat → Pd) (K : Ps) : Pd := (i_vret mc ms K)
theorem zCompany_buyForMaster_61 {d mc ms : Nat} {B : Nat → Pd} {K : Ps} (hB : ∀ pc, Le (B pc) (G cCompany_buyForMaster "VoyageCompany$Company" 5 none "buyForMaster" (rm (d + 1) mc ms) (QM mc ms K) pc)) : Le (qCompany_buyForMaster_61 d mc ms B K) (G cCompany_buyForMaster "VoyageCompany$Company" 5 none "buyForMaster" (rm (d + 1) mc ms) (QM mc ms K) 61) := by
  unfold qCompany_buyForMaster_61
  exact (s_vret (by decide +kernel) rfl)
def qCompany_buyForMaster_26 (d mc ms : Nat) (B : Nat → Pd) (K : Ps) : Pd := (i_ald 2 (i_dup (i_geti 7 5 (i_ci 1 (i_iadd (i_puti 7 5 (i_ald 0 (i_getr 1 8 (i_ci 1 (i_ci 0 (i_ci 1 (i_call 0 0 yBooks_enter cBooks_enter 4 none mc ms d 4 (i_ald 1 (i_getr 5 2 (i_ci 1 (i_aald (i_call 0 2 yMarket_countBought cMarket_countBought 1 none mc ms d 1 (i_inc 4 1 (B 20)))))))))))))))))))
theorem zCompany_buyForMaster_26 {d mc ms : Nat} {B : Nat → Pd} {K : Ps} (hB : ∀ pc, Le (B pc) (G cCompany_buyForMaster "VoyageCompany$Company" 5 none "buyForMaster" (rm (d + 1) mc ms) (QM mc ms K) pc)) : Le (qCompany_buyForMaster_26 d mc ms B K) (G cCompany_buyForMaster "VoyageCompany$Company" 5 none "buyForMaster" (rm (d + 1) mc ms) (QM mc ms K) 26) := by
  unfold qCompany_buyForMaster_26
  exact (s_ald_n (j := 2) (by decide +kernel) rfl (s_dup (by decide +kernel) (s_geti (idx := 108) (by decide +kernel) fl1_108 (by decide) (s_iconst (n := 1) (v := 1) (by decide +kernel) (by decide +kernel) (s_iadd (by decide +kernel) (s_puti (idx := 108) (by decide +kernel) fl1_108 (by decide) (by decide) (Or.inl (by decide +kernel)) (s_ald_n (j := 0) (by decide +kernel) rfl (s_getr (idx := 48) (by decide +kernel) fl1_48 (by decide) (s_iconst (n := 1) (v := 1) (by decide +kernel) (by decide +kernel) (s_iconst (n := 0) (v := 0) (by decide +kernel) (by decide +kernel) (s_iconst (n := 1) (v := 1) (by decide +kernel) (by decide +kernel) (s_call (idx := 146) (by decide +kernel) ml1_146 rmk (s_ald_n (j := 1) (by decide +kernel) rfl (s_getr (idx := 216) (by decide +kernel) fl1_216 (by decide) (s_iconst (n := 1) (v := 1) (by decide +kernel) (by decide +kernel) (s_aald (by decide +kernel) (s_call (idx := 278) (by decide +kernel) ml1_278 rmk (s_inc (z := 1) (by decide +kernel) (by decide +kernel) (by decide) (s_goto (off := (-38)) (tgt := 20) (by decide +kernel) (by decide) (hB 20))))))))))))))))))))
def qCompany_buyForMaster_20 (d mc ms : Nat) (B : Nat → Pd) (K : Ps) : Pd := (i_ild 4 (i_ild 3 (i_ic_ge (qCompany_buyForMaster_61 d mc ms B K) (qCompany_buyForMaster_26 d mc ms B K))))
theorem zCompany_buyForMaster_20 {d mc ms : Nat} {B : Nat → Pd} {K : Ps} (hB : ∀ pc, Le (B pc) (G cCompany_buyForMaster "VoyageCompany$Company" 5 none "buyForMaster" (rm (d + 1) mc ms) (QM mc ms K) pc)) : Le (qCompany_buyForMaster_20 d mc ms B K) (G cCompany_buyForMaster "VoyageCompany$Company" 5 none "buyForMaster" (rm (d + 1) mc ms) (QM mc ms K) 20) := by
  unfold qCompany_buyForMaster_20
  exact (s_ild (by decide +kernel) (s_ild_n (j := 3) (by decide +kernel) rfl (s_ic_ge (off := 38) (tgt := 61) (by decide +kernel) (by decide) (zCompany_buyForMaster_61 hB) (zCompany_buyForMaster_26 hB))))
def qCompany_buyForMaster_0 (d mc ms : Nat) (B : Nat → Pd) (K : Ps) : Pd := (i_ald 2 (i_geti 7 1 (i_ald 2 (i_geti 7 5 (i_isub (i_ald 2 (i_call 0 7 yShip_room cShip_room 3 (some .int) mc ms d 1 (i_call 2 0 yJmath_min cJmath_min 2 (some .int) mc ms d 2 (i_ist 3 (i_ci 0 (i_ist 4 (B 20))))))))))))
theorem zCompany_buyForMaster_0 {d mc ms : Nat} {B : Nat → Pd} {K : Ps} (hB : ∀ pc, Le (B pc) (G cCompany_buyForMaster "VoyageCompany$Company" 5 none "buyForMaster" (rm (d + 1) mc ms) (QM mc ms K) pc)) : Le (qCompany_buyForMaster_0 d mc ms B K) (G cCompany_buyForMaster "VoyageCompany$Company" 5 none "buyForMaster" (rm (d + 1) mc ms) (QM mc ms K) 0) := by
  unfold qCompany_buyForMaster_0
  exact (s_ald_n (j := 2) (by decide +kernel) rfl (s_geti (idx := 284) (by decide +kernel) fl1_284 (by decide) (s_ald_n (j := 2) (by decide +kernel) rfl (s_geti (idx := 108) (by decide +kernel) fl1_108 (by decide) (s_isub (by decide +kernel) (s_ald_n (j := 2) (by decide +kernel) rfl (s_call (idx := 229) (by decide +kernel) ml1_229 rmk (s_call (idx := 253) (by decide +kernel) ml1_253 rmk (s_ist_n (j := 3) (by decide +kernel) rfl (by decide) (s_iconst (n := 0) (v := 0) (by decide +kernel) (by decide +kernel) (s_ist (by decide +kernel) (by decide) (hB 20))))))))))))
/-- VoyageCompany$Company.buyForMaster(LVoyageCompany$Port;LVoyageCompany$Ship;)V, at its places -/
def gCompany_buyForMaster (d mc ms : Nat) (K : Ps) : Nat → Pd := G cCompany_buyForMaster "VoyageCompany$Company" 5 none "buyForMaster" (rm (d + 1) mc ms) (QM mc ms K)
theorem eCompany_buyForMaster {d mc ms : Nat} {K : Ps} {av : List Value} {E : Nat → Prop} {R : Nat → Nat → Value} {I : Nat → Nat → Int32} {J : Nat → Nat → Int64} (hn : (lg_sl av).length ≤ 5) (h : qCompany_buyForMaster_0 d mc ms (gCompany_buyForMaster d mc ms K) K (lv_args 0 av) [] E R I J 0 0) : CL yCompany_buyForMaster cCompany_buyForMaster 5 none (d + 1) mc ms av E R I J K :=
  CL.of (by decide +kernel) hn (zCompany_buyForMaster_0 (fun _ => Le.refl) _ _ _ _ _ _ _ _ h)
theorem lCompany_buyForMaster_20 {d mc ms : Nat} {K : Ps} : Le (qCompany_buyForMaster_20 d mc ms (gCompany_buyForMaster d mc ms K) K) (gCompany_buyForMaster d mc ms K 20) := zCompany_buyForMaster_20 (fun _ => Le.refl)

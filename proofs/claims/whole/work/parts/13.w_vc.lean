theorem fl11_10 : FL "VoyageCompany" 10 11 0 := ⟨by decide, by decide, by decide +kernel, by decide +kernel⟩
theorem fl11_16 : FL "VoyageCompany" 16 11 1 := ⟨by decide, by decide, by decide +kernel, by decide +kernel⟩
theorem fl11_23 : FL "VoyageCompany" 23 11 2 := ⟨by decide, by decide, by decide +kernel, by decide +kernel⟩
theorem fl11_27 : FL "VoyageCompany" 27 1 4 := ⟨by decide, by decide, by decide +kernel, by decide +kernel⟩
theorem fl11_31 : FL "VoyageCompany" 31 9 1 := ⟨by decide, by decide, by decide +kernel, by decide +kernel⟩
theorem fl11_49 : FL "VoyageCompany" 49 6 1 := ⟨by decide, by decide, by decide +kernel, by decide +kernel⟩
theorem fl11_52 : FL "VoyageCompany" 52 1 2 := ⟨by decide, by decide, by decide +kernel, by decide +kernel⟩
theorem fl11_53 : FL "VoyageCompany" 53 6 2 := ⟨by decide, by decide, by decide +kernel, by decide +kernel⟩
theorem fl11_56 : FL "VoyageCompany" 56 1 3 := ⟨by decide, by decide, by decide +kernel, by decide +kernel⟩
theorem fl11_59 : FL "VoyageCompany" 59 1 5 := ⟨by decide, by decide, by decide +kernel, by decide +kernel⟩
theorem fl11_63 : FL "VoyageCompany" 63 5 3 := ⟨by decide, by decide, by decide +kernel, by decide +kernel⟩
theorem fl11_69 : FL "VoyageCompany" 69 6 0 := ⟨by decide, by decide, by decide +kernel, by decide +kernel⟩
theorem fl11_78 : FL "VoyageCompany" 78 3 0 := ⟨by decide, by decide, by decide +kernel, by decide +kernel⟩
theorem fl11_85 : FL "VoyageCompany" 85 5 2 := ⟨by decide, by decide, by decide +kernel, by decide +kernel⟩
theorem fl11_89 : FL "VoyageCompany" 89 2 0 := ⟨by decide, by decide, by decide +kernel, by decide +kernel⟩
theorem fl11_94 : FL "VoyageCompany" 94 2 1 := ⟨by decide, by decide, by decide +kernel, by decide +kernel⟩
theorem fl11_97 : FL "VoyageCompany" 97 1 1 := ⟨by decide, by decide, by decide +kernel, by decide +kernel⟩
theorem fl11_100 : FL "VoyageCompany" 100 1 6 := ⟨by decide, by decide, by decide +kernel, by decide +kernel⟩
theorem fl11_104 : FL "VoyageCompany" 104 7 0 := ⟨by decide, by decide, by decide +kernel, by decide +kernel⟩
theorem fl11_109 : FL "VoyageCompany" 109 7 1 := ⟨by decide, by decide, by decide +kernel, by decide +kernel⟩
theorem fl11_112 : FL "VoyageCompany" 112 7 2 := ⟨by decide, by decide, by decide +kernel, by decide +kernel⟩
theorem fl11_115 : FL "VoyageCompany" 115 7 3 := ⟨by decide, by decide, by decide +kernel, by decide +kernel⟩
theorem fl11_118 : FL "VoyageCompany" 118 1 0 := ⟨by decide, by decide, by decide +kernel, by decide +kernel⟩
theorem fl11_121 : FL "VoyageCompany" 121 5 6 := ⟨by decide, by decide, by decide +kernel, by decide +kernel⟩
theorem fl11_125 : FL "VoyageCompany" 125 1 7 := ⟨by decide, by decide, by decide +kernel, by decide +kernel⟩
theorem fl11_132 : FL "VoyageCompany" 132 8 1 := ⟨by decide, by decide, by decide +kernel, by decide +kernel⟩
theorem fl11_137 : FL "VoyageCompany" 137 8 2 := ⟨by decide, by decide, by decide +kernel, by decide +kernel⟩
theorem fl11_141 : FL "VoyageCompany" 141 8 0 := ⟨by decide, by decide, by decide +kernel, by decide +kernel⟩
theorem fl11_144 : FL "VoyageCompany" 144 5 1 := ⟨by decide, by decide, by decide +kernel, by decide +kernel⟩
theorem fl11_147 : FL "VoyageCompany" 147 1 8 := ⟨by decide, by decide, by decide +kernel, by decide +kernel⟩
theorem fl11_171 : FL "VoyageCompany" 171 7 4 := ⟨by decide, by decide, by decide +kernel, by decide +kernel⟩
theorem fl11_181 : FL "VoyageCompany" 181 7 5 := ⟨by decide, by decide, by decide +kernel, by decide +kernel⟩
theorem fl11_191 : FL "VoyageCompany" 191 7 8 := ⟨by decide, by decide, by decide +kernel, by decide +kernel⟩
theorem fl11_200 : FL "VoyageCompany" 200 7 6 := ⟨by decide, by decide, by decide +kernel, by decide +kernel⟩
theorem fl11_201 : FL "VoyageCompany" 201 7 7 := ⟨by decide, by decide, by decide +kernel, by decide +kernel⟩
theorem fl11_204 : FL "VoyageCompany" 204 7 10 := ⟨by decide, by decide, by decide +kernel, by decide +kernel⟩
theorem fl11_207 : FL "VoyageCompany" 207 5 4 := ⟨by decide, by decide, by decide +kernel, by decide +kernel⟩
theorem fl11_210 : FL "VoyageCompany" 210 5 5 := ⟨by decide, by decide, by decide +kernel, by decide +kernel⟩
theorem fl11_234 : FL "VoyageCompany" 234 8 4 := ⟨by decide, by decide, by decide +kernel, by decide +kernel⟩
theorem fl11_237 : FL "VoyageCompany" 237 8 5 := ⟨by decide, by decide, by decide +kernel, by decide +kernel⟩
theorem ml11_9 : ML "VoyageCompany" 9 1 1 yCompany_new cCompany_new 2 none 1 := by unfold ML; decide +kernel
theorem ml11_22 : ML "VoyageCompany" 22 1 6 yReader_new cReader_new 1 none 1 := by unfold ML; decide +kernel
theorem ml11_37 : ML "VoyageCompany" 37 0 9 yTape_append cTape_append 3 none 2 := by unfold ML; decide +kernel
theorem ml11_41 : ML "VoyageCompany" 41 2 11 yVC_isFarPort cVC_isFarPort 1 (some .boolean) 1 := by unfold ML; decide +kernel
theorem ml11_45 : ML "VoyageCompany" 45 0 6 yReader_read cReader_read 4 none 2 := by unfold ML; decide +kernel
theorem ml11_72 : ML "VoyageCompany" 72 0 3 yOrders_copyFrom cOrders_copyFrom 3 none 2 := by unfold ML; decide +kernel
theorem ml11_81 : ML "VoyageCompany" 81 2 11 yVC_isMarket cVC_isMarket 2 (some .boolean) 2 := by unfold ML; decide +kernel
theorem ml11_129 : ML "VoyageCompany" 129 2 11 yVC_isPerson cVC_isPerson 1 (some .boolean) 1 := by unfold ML; decide +kernel
theorem ml11_151 : ML "VoyageCompany" 151 0 0 yBooks_enter cBooks_enter 4 none 4 := by unfold ML; decide +kernel
theorem ml11_157 : ML "VoyageCompany" 157 0 1 yCompany_isShipAtHome cCompany_isShipAtHome 2 (some .boolean) 2 := by unfold ML; decide +kernel
theorem ml11_160 : ML "VoyageCompany" 160 2 11 yVC_isGood cVC_isGood 1 (some .boolean) 1 := by unfold ML; decide +kernel
theorem ml11_163 : ML "VoyageCompany" 163 0 1 yCompany_freeAtHome cCompany_freeAtHome 2 (some .int) 2 := by unfold ML; decide +kernel
theorem ml11_167 : ML "VoyageCompany" 167 0 7 yShip_room cShip_room 3 (some .int) 1 := by unfold ML; decide +kernel
theorem ml11_174 : ML "VoyageCompany" 174 0 7 yShip_bales cShip_bales 1 (some .int) 1 := by unfold ML; decide +kernel
theorem ml11_177 : ML "VoyageCompany" 177 0 7 yShip_discharge cShip_discharge 3 none 2 := by unfold ML; decide +kernel
theorem ml11_184 : ML "VoyageCompany" 184 0 1 yCompany_windsAllow cCompany_windsAllow 5 (some .boolean) 3 := by unfold ML; decide +kernel
theorem ml11_187 : ML "VoyageCompany" 187 0 7 yShip_leaveFor cShip_leaveFor 3 none 3 := by unfold ML; decide +kernel
theorem ml11_194 : ML "VoyageCompany" 194 0 1 yCompany_passMonth cCompany_passMonth 2 none 1 := by unfold ML; decide +kernel
theorem ml11_197 : ML "VoyageCompany" 197 2 11 yVC_isPort cVC_isPort 1 (some .boolean) 1 := by unfold ML; decide +kernel
theorem ml11_213 : ML "VoyageCompany" 213 0 1 yCompany_storeBehind cCompany_storeBehind 5 (some .int) 4 := by unfold ML; decide +kernel
theorem ml11_219 : ML "VoyageCompany" 219 0 1 yCompany_inStores cCompany_inStores 5 (some .long) 2 := by unfold ML; decide +kernel
theorem ml11_223 : ML "VoyageCompany" 223 0 1 yCompany_inShips cCompany_inShips 5 (some .long) 2 := by unfold ML; decide +kernel
theorem ml11_226 : ML "VoyageCompany" 226 0 0 yBooks_entered cBooks_entered 3 (some .long) 3 := by unfold ML; decide +kernel
theorem ml11_230 : ML "VoyageCompany" 230 0 8 yStock_share cStock_share 9 (some .int) 3 := by unfold ML; decide +kernel
theorem ml11_240 : ML "VoyageCompany" 240 0 1 yCompany_shipsAt cCompany_shipsAt 4 (some .int) 2 := by unfold ML; decide +kernel
theorem ml11_243 : ML "VoyageCompany" 243 0 1 yCompany_copyFrom cCompany_copyFrom 3 none 2 := by unfold ML; decide +kernel
def qVC_new_0 (d mc ms : Nat) (B : Nat → Pd) (K : Ps) : Pd := (i_ald 0 (i_obj (i_ald 0 (i_new 1 mc ms (i_dup (i_callA 1 1 yCompany_new cCompany_new 2 none mc ms d 1 (i_putr 11 0 (i_ald 0 (i_ci 3 (i_newq 17 mc ms (i_putr 11 1 (i_ald 0 (i_new 6 mc ms (i_dup (i_callA 1 6 yReader_new cReader_new 1 none mc ms d 1 (i_putr 11 2 (i_vret mc ms K)))))))))))))))))
theorem zVC_new_0 {d mc ms : Nat} {B : Nat → Pd} {K : Ps} (hB : ∀ pc, Le (B pc) (G cVC_new "VoyageCompany" 1 none "<init>" (rm (d + 1) mc ms) (QM mc ms K) pc)) : Le (qVC_new_0 d mc ms B K) (G cVC_new "VoyageCompany" 1 none "<init>" (rm (d + 1) mc ms) (QM mc ms K) 0) := by
  unfold qVC_new_0
  exact (s_ald_n (j := 0) (by decide +kernel) rfl (s_obj (idx := 1) (by decide +kernel) (lw_gm (by decide +kernel) (by decide +kernel)) rmo (s_ald_n (j := 0) (by decide +kernel) rfl (s_new (idx := 7) (by decide +kernel) (by decide) (lw_gm (by decide +kernel) (by decide +kernel)) rmn (s_dup (by decide +kernel) (s_callA (idx := 9) (by decide +kernel) ml11_9 rmk (s_putr (idx := 10) (by decide +kernel) fl11_10 (by decide) (by decide) (Or.inr ⟨rfl, by decide +kernel, by decide +kernel⟩) (s_ald_n (j := 0) (by decide +kernel) rfl (s_iconst (n := 3) (v := 3) (by decide +kernel) (by decide +kernel) (s_newq (ci := 1) (idx := 7) (by decide +kernel) (by decide +kernel) (lw_gm (by decide +kernel) (by decide +kernel)) rmn (s_putr (idx := 16) (by decide +kernel) fl11_16 (by decide) (by decide) (Or.inr ⟨rfl, by decide +kernel, by decide +kernel⟩) (s_ald_n (j := 0) (by decide +kernel) rfl (s_new (idx := 20) (by decide +kernel) (by decide) (lw_gm (by decide +kernel) (by decide +kernel)) rmn (s_dup (by decide +kernel) (s_callA (idx := 22) (by decide +kernel) ml11_22 rmk (s_putr (idx := 23) (by decide +kernel) fl11_23 (by decide) (by decide) (Or.inr ⟨rfl, by decide +kernel, by decide +kernel⟩) (s_vret (by decide +kernel) rfl)))))))))))))))))
/-- VoyageCompany.<init>()V, at its places -/
def gVC_new (d mc ms : Nat) (K : Ps) : Nat → Pd := G cVC_new "VoyageCompany" 1 none "<init>" (rm (d + 1) mc ms) (QM mc ms K)
theorem eVC_new {d mc ms : Nat} {K : Ps} {av : List Value} {E : Nat → Prop} {R : Nat → Nat → Value} {I : Nat → Nat → Int32} {J : Nat → Nat → Int64} (hn : (lg_sl av).length ≤ 1) (h : qVC_new_0 d mc ms (gVC_new d mc ms K) K (lv_args 0 av) [] E R I J 0 0) : CL yVC_new cVC_new 1 none (d + 1) mc ms av E R I J K :=
  CL.of (by decide +kernel) hn (zVC_new_0 (fun _ => Le.refl) _ _ _ _ _ _ _ _ h)
def qVC_feed_25 (d mc ms : Nat) (B : Nat → Pd) (K : Ps) : Pd := (i_ald 6 (i_ild 1 (i_call 0 9 yTape_append cTape_append 3 none mc ms d 2 (i_ald 6 (i_ild 2 (i_call 0 9 yTape_append cTape_append 3 none mc ms d 2 (i_ald 6 (i_ild 3 (i_call 0 9 yTape_append cTape_append 3 none mc ms d 2 (i_ald 6 (i_ild 4 (i_call 0 9 yTape_append cTape_append 3 none mc ms d 2 (i_ald 6 (i_ild 5 (i_call 0 9 yTape_append cTape_append 3 none mc ms d 2 (i_ald 6 (i_geti 9 1 (i_iret mc ms K))))))))))))))))))
theorem zVC_feed_25 {d mc ms : Nat} {B : Nat → Pd} {K : Ps} (hB : ∀ pc, Le (B pc) (G cVC_feed "VoyageCompany" 7 (some .int) "feed" (rm (d + 1) mc ms) (QM mc ms K) pc)) : Le (qVC_feed_25 d mc ms B K) (G cVC_feed "VoyageCompany" 7 (some .int) "feed" (rm (d + 1) mc ms) (QM mc ms K) 25) := by
  unfold qVC_feed_25
  exact (s_ald (by decide +kernel) (s_ild_n (j := 1) (by decide +kernel) rfl (s_call (idx := 37) (by decide +kernel) ml11_37 rmk (s_ald (by decide +kernel) (s_ild_n (j := 2) (by decide +kernel) rfl (s_call (idx := 37) (by decide +kernel) ml11_37 rmk (s_ald (by decide +kernel) (s_ild_n (j := 3) (by decide +kernel) rfl (s_call (idx := 37) (by decide +kernel) ml11_37 rmk (s_ald (by decide +kernel) (s_ild (by decide +kernel) (s_call (idx := 37) (by decide +kernel) ml11_37 rmk (s_ald (by decide +kernel) (s_ild (by decide +kernel) (s_call (idx := 37) (by decide +kernel) ml11_37 rmk (s_ald (by decide +kernel) (s_geti (idx := 31) (by decide +kernel) fl11_31 (by decide) (s_iret (by decide +kernel) rfl))))))))))))))))))
def qVC_feed_23 (d mc ms : Nat) (B : Nat → Pd) (K : Ps) : Pd := (i_ci (-1) (i_iret mc ms K))
theorem zVC_feed_23 {d mc ms : Nat} {B : Nat → Pd} {K : Ps} (hB : ∀ pc, Le (B pc) (G cVC_feed "VoyageCompany" 7 (some .int) "feed" (rm (d + 1) mc ms) (QM mc ms K) pc)) : Le (qVC_feed_23 d mc ms B K) (G cVC_feed "VoyageCompany" 7 (some .int) "feed" (rm (d + 1) mc ms) (QM mc ms K) 23) := by
  unfold qVC_feed_23
  exact (s_iconst (n := (-1)) (v := (-1)) (by decide +kernel) (by decide +kernel) (s_iret (by decide +kernel) rfl))
def qVC_feed_0 (d mc ms : Nat) (B : Nat → Pd) (K : Ps) : Pd := (i_ald 0 (i_getr 11 0 (i_getr 1 4 (i_ast 6 (i_ald 6 (i_geti 9 1 (i_ci 20 (i_iadd (i_ci 500 (i_ic_le (qVC_feed_25 d mc ms B K) (qVC_feed_23 d mc ms B K)))))))))))
theorem zVC_feed_0 {d mc ms : Nat} {B : Nat → Pd} {K : Ps} (hB : ∀ pc, Le (B pc) (G cVC_feed "VoyageCompany" 7 (some .int) "feed" (rm (d + 1) mc ms) (QM mc ms K) pc)) : Le (qVC_feed_0 d mc ms B K) (G cVC_feed "VoyageCompany" 7 (some .int) "feed" (rm (d + 1) mc ms) (QM mc ms K) 0) := by
  unfold qVC_feed_0
  exact (s_ald_n (j := 0) (by decide +kernel) rfl (s_getr (idx := 10) (by decide +kernel) fl11_10 (by decide) (s_getr (idx := 27) (by decide +kernel) fl11_27 (by decide) (s_ast (by decide +kernel) (by decide) (s_ald (by decide +kernel) (s_geti (idx := 31) (by decide +kernel) fl11_31 (by decide) (s_bipush (n := 20) (v := 20) (by decide +kernel) (by decide +kernel) (s_iadd (by decide +kernel) (s_sipush (n := 500) (v := 500) (by decide +kernel) (by decide +kernel) (s_ic_le (off := 5) (tgt := 25) (by decide +kernel) (by decide) (zVC_feed_25 hB) (zVC_feed_23 hB)))))))))))
/-- VoyageCompany.feed(IIIII)I, at its places -/
def gVC_feed (d mc ms : Nat) (K : Ps) : Nat → Pd := G cVC_feed "VoyageCompany" 7 (some .int) "feed" (rm (d + 1) mc ms) (QM mc ms K)
theorem eVC_feed {d mc ms : Nat} {K : Ps} {av : List Value} {E : Nat → Prop} {R : Nat → Nat → Value} {I : Nat → Nat → Int32} {J : Nat → Nat → Int64} (hn : (lg_sl av).length ≤ 7) (h : qVC_feed_0 d mc ms (gVC_feed d mc ms K) K (lv_args 0 av) [] E R I J 0 0) : CL yVC_feed cVC_feed 7 (some .int) (d + 1) mc ms av E R I J K :=
  CL.of (by decide +kernel) hn (zVC_feed_0 (fun _ => Le.refl) _ _ _ _ _ _ _ _ h)
def qVC_end_20 (d mc ms : Nat) (B : Nat → Pd) (K : Ps) : Pd := (i_ald 0 (i_getr 11 0 (i_getr 1 4 (i_ild 1 (i_puti 9 1 (i_ild 1 (i_iret mc ms K)))))))
theorem zVC_end_20 {d mc ms : Nat} {B : Nat → Pd} {K : Ps} (hB : ∀ pc, Le (B pc) (G cVC_end "VoyageCompany" 2 (some .int) "end" (rm (d + 1) mc ms) (QM mc ms K) pc)) : Le (qVC_end_20 d mc ms B K) (G cVC_end "VoyageCompany" 2 (some .int) "end" (rm (d + 1) mc ms) (QM mc ms K) 20) := by
  unfold qVC_end_20
  exact (s_ald_n (j := 0) (by decide +kernel) rfl (s_getr (idx := 10) (by decide +kernel) fl11_10 (by decide) (s_getr (idx := 27) (by decide +kernel) fl11_27 (by decide) (s_ild_n (j := 1) (by decide +kernel) rfl (s_puti (idx := 31) (by decide +kernel) fl11_31 (by decide) (by decide) (Or.inl (by decide +kernel)) (s_ild_n (j := 1) (by decide +kernel) rfl (s_iret (by decide +kernel) rfl)))))))
def qVC_end_18 (d mc ms : Nat) (B : Nat → Pd) (K : Ps) : Pd := (i_ci (-1) (i_iret mc ms K))
theorem zVC_end_18 {d mc ms : Nat} {B : Nat → Pd} {K : Ps} (hB : ∀ pc, Le (B pc) (G cVC_end "VoyageCompany" 2 (some .int) "end" (rm (d + 1) mc ms) (QM mc ms K) pc)) : Le (qVC_end_18 d mc ms B K) (G cVC_end "VoyageCompany" 2 (some .int) "end" (rm (d + 1) mc ms) (QM mc ms K) 18) := by
  unfold qVC_end_18
  exact (s_iconst (n := (-1)) (v := (-1)) (by decide +kernel) (by decide +kernel) (s_iret (by decide +kernel) rfl))
def qVC_end_4 (d mc ms : Nat) (B : Nat → Pd) (K : Ps) : Pd := (i_ild 1 (i_ald 0 (i_getr 11 0 (i_getr 1 4 (i_geti 9 1 (i_ic_le (qVC_end_20 d mc ms B K) (qVC_end_18 d mc ms B K)))))))
theorem zVC_end_4 {d mc ms : Nat} {B : Nat → Pd} {K : Ps} (hB : ∀ pc, Le (B pc) (G cVC_end "VoyageCompany" 2 (some .int) "end" (rm (d + 1) mc ms) (QM mc ms K) pc)) : Le (qVC_end_4 d mc ms B K) (G cVC_end "VoyageCompany" 2 (some .int) "end" (rm (d + 1) mc ms) (QM mc ms K) 4) := by
  unfold qVC_end_4
  exact (s_ild_n (j := 1) (by decide +kernel) rfl (s_ald_n (j := 0) (by decide +kernel) rfl (s_getr (idx := 10) (by decide +kernel) fl11_10 (by decide) (s_getr (idx := 27) (by decide +kernel) fl11_27 (by decide) (s_geti (idx := 31) (by decide +kernel) fl11_31 (by decide) (s_ic_le (off := 5) (tgt := 20) (by decide +kernel) (by decide) (zVC_end_20 hB) (zVC_end_18 hB)))))))
def qVC_end_0 (d mc ms : Nat) (B : Nat → Pd) (K : Ps) : Pd := (i_ild 1 (i_if_lt (qVC_end_18 d mc ms B K) (qVC_end_4 d mc ms B K)))
theorem zVC_end_0 {d mc ms : Nat} {B : Nat → Pd} {K : Ps} (hB : ∀ pc, Le (B pc) (G cVC_end "VoyageCompany" 2 (some .int) "end" (rm (d + 1) mc ms) (QM mc ms K) pc)) : Le (qVC_end_0 d mc ms B K) (G cVC_end "VoyageCompany" 2 (some .int) "end" (rm (d + 1) mc ms) (QM mc ms K) 0) := by
  unfold qVC_end_0
  exact (s_ild_n (j := 1) (by decide +kernel) rfl (s_if_lt (off := 17) (tgt := 18) (by decide +kernel) (by decide) (zVC_end_18 hB) (zVC_end_4 hB)))
/-- VoyageCompany.end(I)I, at its places -/
def gVC_end (d mc ms : Nat) (K : Ps) : Nat → Pd := G cVC_end "VoyageCompany" 2 (some .int) "end" (rm (d + 1) mc ms) (QM mc ms K)
theorem eVC_end {d mc ms : Nat} {K : Ps} {av : List Value} {E : Nat → Prop} {R : Nat → Nat → Value} {I : Nat → Nat → Int32} {J : Nat → Nat → Int64} (hn : (lg_sl av).length ≤ 2) (h : qVC_end_0 d mc ms (gVC_end d mc ms K) K (lv_args 0 av) [] E R I J 0 0) : CL yVC_end cVC_end 2 (some .int) (d + 1) mc ms av E R I J K :=
  CL.of (by decide +kernel) hn (zVC_end_0 (fun _ => Le.refl) _ _ _ _ _ _ _ _ h)
def qVC_orders_75 (d mc ms : Nat) (B : Nat → Pd) (K : Ps) : Pd := (i_ald 0 (i_getr 11 0 (i_getr 1 5 (i_ild 1 (i_aald (i_getr 5 3 (i_ald 0 (i_getr 11 2 (i_getr 6 0 (i_call 0 3 yOrders_copyFrom cOrders_copyFrom 3 none mc ms d 2 (i_ald 0 (i_getr 11 2 (i_getr 6 0 (i_geti 3 0 (i_iret mc ms K)))))))))))))))
theorem zVC_orders_75 {d mc ms : Nat} {B : Nat → Pd} {K : Ps} (hB : ∀ pc, Le (B pc) (G cVC_orders "VoyageCompany" 2 (some .int) "orders" (rm (d + 1) mc ms) (QM mc ms K) pc)) : Le (qVC_orders_75 d mc ms B K) (G cVC_orders "VoyageCompany" 2 (some .int) "orders" (rm (d + 1) mc ms) (QM mc ms K) 75) := by
  unfold qVC_orders_75
  exact (s_ald_n (j := 0) (by decide +kernel) rfl (s_getr (idx := 10) (by decide +kernel) fl11_10 (by decide) (s_getr (idx := 59) (by decide +kernel) fl11_59 (by decide) (s_ild_n (j := 1) (by decide +kernel) rfl (s_aald (by decide +kernel) (s_getr (idx := 63) (by decide +kernel) fl11_63 (by decide) (s_ald_n (j := 0) (by decide +kernel) rfl (s_getr (idx := 23) (by decide +kernel) fl11_23 (by decide) (s_getr (idx := 69) (by decide +kernel) fl11_69 (by decide) (s_call (idx := 72) (by decide +kernel) ml11_72 rmk (s_ald_n (j := 0) (by decide +kernel) rfl (s_getr (idx := 23) (by decide +kernel) fl11_23 (by decide) (s_getr (idx := 69) (by decide +kernel) fl11_69 (by decide) (s_geti (idx := 78) (by decide +kernel) fl11_78 (by decide) (s_iret (by decide +kernel) rfl)))))))))))))))
def qVC_orders_73 (d mc ms : Nat) (B : Nat → Pd) (K : Ps) : Pd := (i_ci (-1) (i_iret mc ms K))
theorem zVC_orders_73 {d mc ms : Nat} {B : Nat → Pd} {K : Ps} (hB : ∀ pc, Le (B pc) (G cVC_orders "VoyageCompany" 2 (some .int) "orders" (rm (d + 1) mc ms) (QM mc ms K) pc)) : Le (qVC_orders_73 d mc ms B K) (G cVC_orders "VoyageCompany" 2 (some .int) "orders" (rm (d + 1) mc ms) (QM mc ms K) 73) := by
  unfold qVC_orders_73
  exact (s_iconst (n := (-1)) (v := (-1)) (by decide +kernel) (by decide +kernel) (s_iret (by decide +kernel) rfl))
def qVC_orders_10 (d mc ms : Nat) (B : Nat → Pd) (K : Ps) : Pd := (i_ald 0 (i_getr 11 2 (i_ald 0 (i_getr 11 0 (i_getr 1 4 (i_call 0 6 yReader_read cReader_read 4 none mc ms d 2 (i_ald 0 (i_getr 11 0 (i_getr 1 4 (i_ci 0 (i_puti 9 1 (i_ald 0 (i_getr 11 0 (i_ald 0 (i_getr 11 2 (i_geti 6 1 (i_puti 1 2 (i_ald 0 (i_getr 11 0 (i_ald 0 (i_getr 11 2 (i_geti 6 2 (i_puti 1 3 (i_ald 0 (i_getr 11 2 (i_geti 6 1 (i_if_eq (qVC_orders_75 d mc ms B K) (qVC_orders_73 d mc ms B K))))))))))))))))))))))))))))
theorem zVC_orders_10 {d mc ms : Nat} {B : Nat → Pd} {K : Ps} (hB : ∀ pc, Le (B pc) (G cVC_orders "VoyageCompany" 2 (some .int) "orders" (rm (d + 1) mc ms) (QM mc ms K) pc)) : Le (qVC_orders_10 d mc ms B K) (G cVC_orders "VoyageCompany" 2 (some .int) "orders" (rm (d + 1) mc ms) (QM mc ms K) 10) := by
  unfold qVC_orders_10
  exact (s_ald_n (j := 0) (by decide +kernel) rfl (s_getr (idx := 23) (by decide +kernel) fl11_23 (by decide) (s_ald_n (j := 0) (by decide +kernel) rfl (s_getr (idx := 10) (by decide +kernel) fl11_10 (by decide) (s_getr (idx := 27) (by decide +kernel) fl11_27 (by decide) (s_call (idx := 45) (by decide +kernel) ml11_45 rmk (s_ald_n (j := 0) (by decide +kernel) rfl (s_getr (idx := 10) (by decide +kernel) fl11_10 (by decide) (s_getr (idx := 27) (by decide +kernel) fl11_27 (by decide) (s_iconst (n := 0) (v := 0) (by decide +kernel) (by decide +kernel) (s_puti (idx := 31) (by decide +kernel) fl11_31 (by decide) (by decide) (Or.inl (by decide +kernel)) (s_ald_n (j := 0) (by decide +kernel) rfl (s_getr (idx := 10) (by decide +kernel) fl11_10 (by decide) (s_ald_n (j := 0) (by decide +kernel) rfl (s_getr (idx := 23) (by decide +kernel) fl11_23 (by decide) (s_geti (idx := 49) (by decide +kernel) fl11_49 (by decide) (s_puti (idx := 52) (by decide +kernel) fl11_52 (by decide) (by decide) (Or.inl (by decide +kernel)) (s_ald_n (j := 0) (by decide +kernel) rfl (s_getr (idx := 10) (by decide +kernel) fl11_10 (by decide) (s_ald_n (j := 0) (by decide +kernel) rfl (s_getr (idx := 23) (by decide +kernel) fl11_23 (by decide) (s_geti (idx := 53) (by decide +kernel) fl11_53 (by decide) (s_puti (idx := 56) (by decide +kernel) fl11_56 (by decide) (by decide) (Or.inl (by decide +kernel)) (s_ald_n (j := 0) (by decide +kernel) rfl (s_getr (idx := 23) (by decide +kernel) fl11_23 (by decide) (s_geti (idx := 49) (by decide +kernel) fl11_49 (by decide) (s_if_eq (off := 5) (tgt := 75) (by decide +kernel) (by decide) (zVC_orders_75 hB) (zVC_orders_73 hB))))))))))))))))))))))))))))
def qVC_orders_7 (d mc ms : Nat) (B : Nat → Pd) (K : Ps) : Pd := (i_ci (-2) (i_iret mc ms K))
theorem zVC_orders_7 {d mc ms : Nat} {B : Nat → Pd} {K : Ps} (hB : ∀ pc, Le (B pc) (G cVC_orders "VoyageCompany" 2 (some .int) "orders" (rm (d + 1) mc ms) (QM mc ms K) pc)) : Le (qVC_orders_7 d mc ms B K) (G cVC_orders "VoyageCompany" 2 (some .int) "orders" (rm (d + 1) mc ms) (QM mc ms K) 7) := by
  unfold qVC_orders_7
  exact (s_bipush (n := (-2)) (v := (-2)) (by decide +kernel) (by decide +kernel) (s_iret (by decide +kernel) rfl))
def qVC_orders_0 (d mc ms : Nat) (B : Nat → Pd) (K : Ps) : Pd := (i_ild 1 (i_call 2 11 yVC_isFarPort cVC_isFarPort 1 (some .boolean) mc ms d 1 (i_if_ne (qVC_orders_10 d mc ms B K) (qVC_orders_7 d mc ms B K))))
theorem zVC_orders_0 {d mc ms : Nat} {B : Nat → Pd} {K : Ps} (hB : ∀ pc, Le (B pc) (G cVC_orders "VoyageCompany" 2 (some .int) "orders" (rm (d + 1) mc ms) (QM mc ms K) pc)) : Le (qVC_orders_0 d mc ms B K) (G cVC_orders "VoyageCompany" 2 (some .int) "orders" (rm (d + 1) mc ms) (QM mc ms K) 0) := by
  unfold qVC_orders_0
  exact (s_ild_n (j := 1) (by decide +kernel) rfl (s_call (idx := 41) (by decide +kernel) ml11_41 rmk (s_if_ne (off := 6) (tgt := 10) (by decide +kernel) (by decide) (zVC_orders_10 hB) (zVC_orders_7 hB))))
/-- VoyageCompany.orders(I)I, at its places -/
def gVC_orders (d mc ms : Nat) (K : Ps) : Nat → Pd := G cVC_orders "VoyageCompany" 2 (some .int) "orders" (rm (d + 1) mc ms) (QM mc ms K)
theorem eVC_orders {d mc ms : Nat} {K : Ps} {av : List Value} {E : Nat → Prop} {R : Nat → Nat → Value} {I : Nat → Nat → Int32} {J : Nat → Nat → Int64} (hn : (lg_sl av).length ≤ 2) (h : qVC_orders_0 d mc ms (gVC_orders d mc ms K) K (lv_args 0 av) [] E R I J 0 0) : CL yVC_orders cVC_orders 2 (some .int) (d + 1) mc ms av E R I J K :=
  CL.of (by decide +kernel) hn (zVC_orders_0 (fun _ => Le.refl) _ _ _ _ _ _ _ _ h)
def qVC_fault_44 (d mc ms : Nat) (B : Nat → Pd) (K : Ps) : Pd := (i_ci (-1) (i_iret mc ms K))
theorem zVC_fault_44 {d mc ms : Nat} {B : Nat → Pd} {K : Ps} (hB : ∀ pc, Le (B pc) (G cVC_fault "VoyageCompany" 2 (some .int) "fault" (rm (d + 1) mc ms) (QM mc ms K) pc)) : Le (qVC_fault_44 d mc ms B K) (G cVC_fault "VoyageCompany" 2 (some .int) "fault" (rm (d + 1) mc ms) (QM mc ms K) 44) := by
  unfold qVC_fault_44
  exact (s_iconst (n := (-1)) (v := (-1)) (by decide +kernel) (by decide +kernel) (s_iret (by decide +kernel) rfl))
def qVC_fault_36 (d mc ms : Nat) (B : Nat → Pd) (K : Ps) : Pd := (i_ald 0 (i_getr 11 0 (i_geti 1 3 (i_iret mc ms K))))
theorem zVC_fault_36 {d mc ms : Nat} {B : Nat → Pd} {K : Ps} (hB : ∀ pc, Le (B pc) (G cVC_fault "VoyageCompany" 2 (some .int) "fault" (rm (d + 1) mc ms) (QM mc ms K) pc)) : Le (qVC_fault_36 d mc ms B K) (G cVC_fault "VoyageCompany" 2 (some .int) "fault" (rm (d + 1) mc ms) (QM mc ms K) 36) := by
  unfold qVC_fault_36
  exact (s_ald_n (j := 0) (by decide +kernel) rfl (s_getr (idx := 10) (by decide +kernel) fl11_10 (by decide) (s_geti (idx := 56) (by decide +kernel) fl11_56 (by decide) (s_iret (by decide +kernel) rfl))))
def qVC_fault_28 (d mc ms : Nat) (B : Nat → Pd) (K : Ps) : Pd := (i_ald 0 (i_getr 11 0 (i_geti 1 2 (i_iret mc ms K))))
theorem zVC_fault_28 {d mc ms : Nat} {B : Nat → Pd} {K : Ps} (hB : ∀ pc, Le (B pc) (G cVC_fault "VoyageCompany" 2 (some .int) "fault" (rm (d + 1) mc ms) (QM mc ms K) pc)) : Le (qVC_fault_28 d mc ms B K) (G cVC_fault "VoyageCompany" 2 (some .int) "fault" (rm (d + 1) mc ms) (QM mc ms K) 28) := by
  unfold qVC_fault_28
  exact (s_ald_n (j := 0) (by decide +kernel) rfl (s_getr (idx := 10) (by decide +kernel) fl11_10 (by decide) (s_geti (idx := 52) (by decide +kernel) fl11_52 (by decide) (s_iret (by decide +kernel) rfl))))
def qVC_fault_0 (d mc ms : Nat) (B : Nat → Pd) (K : Ps) : Pd := (i_ild 1 (i_sw [(0, (qVC_fault_28 d mc ms B K)), (1, (qVC_fault_36 d mc ms B K))] (qVC_fault_44 d mc ms B K)))
theorem zVC_fault_0 {d mc ms : Nat} {B : Nat → Pd} {K : Ps} (hB : ∀ pc, Le (B pc) (G cVC_fault "VoyageCompany" 2 (some .int) "fault" (rm (d + 1) mc ms) (QM mc ms K) pc)) : Le (qVC_fault_0 d mc ms B K) (G cVC_fault "VoyageCompany" 2 (some .int) "fault" (rm (d + 1) mc ms) (QM mc ms K) 0) := by
  unfold qVC_fault_0
  exact (s_ild_n (j := 1) (by decide +kernel) rfl (s_sw (fun x => by
    by_cases h0 : x = 0
    · subst h0
      exact ⟨28, sw_lk (dflt := 43) (ps := #[(0, 27), (1, 35)]) (len := 27) (off := 27) (by decide +kernel) (by decide +kernel) (by decide +kernel) (by decide +kernel), by simpa [swp] using (zVC_fault_28 hB)⟩
    by_cases h1 : x = 1
    · subst h1
      exact ⟨36, sw_lk (dflt := 43) (ps := #[(0, 27), (1, 35)]) (len := 27) (off := 35) (by decide +kernel) (by decide +kernel) (by decide +kernel) (by decide +kernel), by simpa [swp] using (zVC_fault_36 hB)⟩
    have g0 := i32_ne (z := 0) (by decide +kernel) h0
    have g1 := i32_ne (z := 1) (by decide +kernel) h1
    exact ⟨44, sw_lk (dflt := 43) (ps := #[(0, 27), (1, 35)]) (len := 27) (off := 43) (by decide +kernel) (by decide +kernel) (by simp [Op.lookupswitch.offset, g0, g1, Ne.symm g0, Ne.symm g1]) (by decide +kernel), by simpa [swp, h0, h1] using (zVC_fault_44 hB)⟩)))
/-- VoyageCompany.fault(I)I, at its places -/
def gVC_fault (d mc ms : Nat) (K : Ps) : Nat → Pd := G cVC_fault "VoyageCompany" 2 (some .int) "fault" (rm (d + 1) mc ms) (QM mc ms K)
theorem eVC_fault {d mc ms : Nat} {K : Ps} {av : List Value} {E : Nat → Prop} {R : Nat → Nat → Value} {I : Nat → Nat → Int32} {J : Nat → Nat → Int64} (hn : (lg_sl av).length ≤ 2) (h : qVC_fault_0 d mc ms (gVC_fault d mc ms K) K (lv_args 0 av) [] E R I J 0 0) : CL yVC_fault cVC_fault 2 (some .int) (d + 1) mc ms av E R I J K :=
  CL.of (by decide +kernel) hn (zVC_fault_0 (fun _ => Le.refl) _ _ _ _ _ _ _ _ h)
def qVC_market_22 (d mc ms : Nat) (B : Nat → Pd) (K : Ps) : Pd := (i_ald 0 (i_getr 11 0 (i_getr 1 5 (i_ild 1 (i_aald (i_getr 5 2 (i_ild 2 (i_aald (i_ast 4 (i_ald 4 (i_ild 3 (i_puti 2 0 (i_ald 4 (i_ild 3 (i_puti 2 1 (i_ci 1 (i_zret mc ms K)))))))))))))))))
theorem zVC_market_22 {d mc ms : Nat} {B : Nat → Pd} {K : Ps} (hB : ∀ pc, Le (B pc) (G cVC_market "VoyageCompany" 5 (some .boolean) "market" (rm (d + 1) mc ms) (QM mc ms K) pc)) : Le (qVC_market_22 d mc ms B K) (G cVC_market "VoyageCompany" 5 (some .boolean) "market" (rm (d + 1) mc ms) (QM mc ms K) 22) := by
  unfold qVC_market_22
  exact (s_ald_n (j := 0) (by decide +kernel) rfl (s_getr (idx := 10) (by decide +kernel) fl11_10 (by decide) (s_getr (idx := 59) (by decide +kernel) fl11_59 (by decide) (s_ild_n (j := 1) (by decide +kernel) rfl (s_aald (by decide +kernel) (s_getr (idx := 85) (by decide +kernel) fl11_85 (by decide) (s_ild_n (j := 2) (by decide +kernel) rfl (s_aald (by decide +kernel) (s_ast (by decide +kernel) (by decide) (s_ald (by decide +kernel) (s_ild_n (j := 3) (by decide +kernel) rfl (s_puti (idx := 89) (by decide +kernel) fl11_89 (by decide) (by decide) (Or.inl (by decide +kernel)) (s_ald (by decide +kernel) (s_ild_n (j := 3) (by decide +kernel) rfl (s_puti (idx := 94) (by decide +kernel) fl11_94 (by decide) (by decide) (Or.inl (by decide +kernel)) (s_iconst (n := 1) (v := 1) (by decide +kernel) (by decide +kernel) (s_zret (by decide +kernel) rfl)))))))))))))))))
def qVC_market_20 (d mc ms : Nat) (B : Nat → Pd) (K : Ps) : Pd := (i_ci 0 (i_zret mc ms K))
theorem zVC_market_20 {d mc ms : Nat} {B : Nat → Pd} {K : Ps} (hB : ∀ pc, Le (B pc) (G cVC_market "VoyageCompany" 5 (some .boolean) "market" (rm (d + 1) mc ms) (QM mc ms K) pc)) : Le (qVC_market_20 d mc ms B K) (G cVC_market "VoyageCompany" 5 (some .boolean) "market" (rm (d + 1) mc ms) (QM mc ms K) 20) := by
  unfold qVC_market_20
  exact (s_iconst (n := 0) (v := 0) (by decide +kernel) (by decide +kernel) (s_zret (by decide +kernel) rfl))
def qVC_market_13 (d mc ms : Nat) (B : Nat → Pd) (K : Ps) : Pd := (i_ild 3 (i_ci 1000 (i_ic_le (qVC_market_22 d mc ms B K) (qVC_market_20 d mc ms B K))))
theorem zVC_market_13 {d mc ms : Nat} {B : Nat → Pd} {K : Ps} (hB : ∀ pc, Le (B pc) (G cVC_market "VoyageCompany" 5 (some .boolean) "market" (rm (d + 1) mc ms) (QM mc ms K) pc)) : Le (qVC_market_13 d mc ms B K) (G cVC_market "VoyageCompany" 5 (some .boolean) "market" (rm (d + 1) mc ms) (QM mc ms K) 13) := by
  unfold qVC_market_13
  exact (s_ild_n (j := 3) (by decide +kernel) rfl (s_sipush (n := 1000) (v := 1000) (by decide +kernel) (by decide +kernel) (s_ic_le (off := 5) (tgt := 22) (by decide +kernel) (by decide) (zVC_market_22 hB) (zVC_market_20 hB))))
def qVC_market_8 (d mc ms : Nat) (B : Nat → Pd) (K : Ps) : Pd := (i_ild 3 (i_ci 1 (i_ic_lt (qVC_market_20 d mc ms B K) (qVC_market_13 d mc ms B K))))
theorem zVC_market_8 {d mc ms : Nat} {B : Nat → Pd} {K : Ps} (hB : ∀ pc, Le (B pc) (G cVC_market "VoyageCompany" 5 (some .boolean) "market" (rm (d + 1) mc ms) (QM mc ms K) pc)) : Le (qVC_market_8 d mc ms B K) (G cVC_market "VoyageCompany" 5 (some .boolean) "market" (rm (d + 1) mc ms) (QM mc ms K) 8) := by
  unfold qVC_market_8
  exact (s_ild_n (j := 3) (by decide +kernel) rfl (s_iconst (n := 1) (v := 1) (by decide +kernel) (by decide +kernel) (s_ic_lt (off := 10) (tgt := 20) (by decide +kernel) (by decide) (zVC_market_20 hB) (zVC_market_13 hB))))
def qVC_market_0 (d mc ms : Nat) (B : Nat → Pd) (K : Ps) : Pd := (i_ild 1 (i_ild 2 (i_call 2 11 yVC_isMarket cVC_isMarket 2 (some .boolean) mc ms d 2 (i_if_eq (qVC_market_20 d mc ms B K) (qVC_market_8 d mc ms B K)))))
theorem zVC_market_0 {d mc ms : Nat} {B : Nat → Pd} {K : Ps} (hB : ∀ pc, Le (B pc) (G cVC_market "VoyageCompany" 5 (some .boolean) "market" (rm (d + 1) mc ms) (QM mc ms K) pc)) : Le (qVC_market_0 d mc ms B K) (G cVC_market "VoyageCompany" 5 (some .boolean) "market" (rm (d + 1) mc ms) (QM mc ms K) 0) := by
  unfold qVC_market_0
  exact (s_ild_n (j := 1) (by decide +kernel) rfl (s_ild_n (j := 2) (by decide +kernel) rfl (s_call (idx := 81) (by decide +kernel) ml11_81 rmk (s_if_eq (off := 15) (tgt := 20) (by decide +kernel) (by decide) (zVC_market_20 hB) (zVC_market_8 hB)))))
/-- VoyageCompany.market(III)Z, at its places -/
def gVC_market (d mc ms : Nat) (K : Ps) : Nat → Pd := G cVC_market "VoyageCompany" 5 (some .boolean) "market" (rm (d + 1) mc ms) (QM mc ms K)
theorem eVC_market {d mc ms : Nat} {K : Ps} {av : List Value} {E : Nat → Prop} {R : Nat → Nat → Value} {I : Nat → Nat → Int32} {J : Nat → Nat → Int64} (hn : (lg_sl av).length ≤ 5) (h : qVC_market_0 d mc ms (gVC_market d mc ms K) K (lv_args 0 av) [] E R I J 0 0) : CL yVC_market cVC_market 5 (some .boolean) (d + 1) mc ms av E R I J K :=
  CL.of (by decide +kernel) hn (zVC_market_0 (fun _ => Le.refl) _ _ _ _ _ _ _ _ h)
def qVC_ship_57 (d mc ms : Nat) (B : Nat → Pd) (K : Ps) : Pd := (i_ald 0 (i_getr 11 0 (i_geti 1 1 (i_ist 6 (i_ald 0 (i_getr 11 0 (i_getr 1 6 (i_ild 6 (i_aald (i_ast 7 (i_ald 7 (i_ild 1 (i_puti 7 0 (i_ald 7 (i_ild 2 (i_puti 7 1 (i_ald 7 (i_ild 3 (i_puti 7 2 (i_ald 7 (i_ild 4 (i_puti 7 3 (i_ald 0 (i_getr 11 0 (i_dup (i_geti 1 1 (i_ci 1 (i_iadd (i_puti 1 1 (i_ild 6 (i_iret mc ms K)))))))))))))))))))))))))))))))
theorem zVC_ship_57 {d mc ms : Nat} {B : Nat → Pd} {K : Ps} (hB : ∀ pc, Le (B pc) (G cVC_ship "VoyageCompany" 8 (some .int) "ship" (rm (d + 1) mc ms) (QM mc ms K) pc)) : Le (qVC_ship_57 d mc ms B K) (G cVC_ship "VoyageCompany" 8 (some .int) "ship" (rm (d + 1) mc ms) (QM mc ms K) 57) := by
  unfold qVC_ship_57
  exact (s_ald_n (j := 0) (by decide +kernel) rfl (s_getr (idx := 10) (by decide +kernel) fl11_10 (by decide) (s_geti (idx := 97) (by decide +kernel) fl11_97 (by decide) (s_ist (by decide +kernel) (by decide) (s_ald_n (j := 0) (by decide +kernel) rfl (s_getr (idx := 10) (by decide +kernel) fl11_10 (by decide) (s_getr (idx := 100) (by decide +kernel) fl11_100 (by decide) (s_ild (by decide +kernel) (s_aald (by decide +kernel) (s_ast (by decide +kernel) (by decide) (s_ald (by decide +kernel) (s_ild_n (j := 1) (by decide +kernel) rfl (s_puti (idx := 104) (by decide +kernel) fl11_104 (by decide) (by decide) (Or.inl (by decide +kernel)) (s_ald (by decide +kernel) (s_ild_n (j := 2) (by decide +kernel) rfl (s_puti (idx := 109) (by decide +kernel) fl11_109 (by decide) (by decide) (Or.inl (by decide +kernel)) (s_ald (by decide +kernel) (s_ild_n (j := 3) (by decide +kernel) rfl (s_puti (idx := 112) (by decide +kernel) fl11_112 (by decide) (by decide) (Or.inl (by decide +kernel)) (s_ald (by decide +kernel) (s_ild (by decide +kernel) (s_puti (idx := 115) (by decide +kernel) fl11_115 (by decide) (by decide) (Or.inl (by decide +kernel)) (s_ald_n (j := 0) (by decide +kernel) rfl (s_getr (idx := 10) (by decide +kernel) fl11_10 (by decide) (s_dup (by decide +kernel) (s_geti (idx := 97) (by decide +kernel) fl11_97 (by decide) (s_iconst (n := 1) (v := 1) (by decide +kernel) (by decide +kernel) (s_iadd (by decide +kernel) (s_puti (idx := 97) (by decide +kernel) fl11_97 (by decide) (by decide) (Or.inl (by decide +kernel)) (s_ild (by decide +kernel) (s_iret (by decide +kernel) rfl)))))))))))))))))))))))))))))))
def qVC_ship_55 (d mc ms : Nat) (B : Nat → Pd) (K : Ps) : Pd := (i_ci (-1) (i_iret mc ms K))
theorem zVC_ship_55 {d mc ms : Nat} {B : Nat → Pd} {K : Ps} (hB : ∀ pc, Le (B pc) (G cVC_ship "VoyageCompany" 8 (some .int) "ship" (rm (d + 1) mc ms) (QM mc ms K) pc)) : Le (qVC_ship_55 d mc ms B K) (G cVC_ship "VoyageCompany" 8 (some .int) "ship" (rm (d + 1) mc ms) (QM mc ms K) 55) := by
  unfold qVC_ship_55
  exact (s_iconst (n := (-1)) (v := (-1)) (by decide +kernel) (by decide +kernel) (s_iret (by decide +kernel) rfl))
def qVC_ship_44 (d mc ms : Nat) (B : Nat → Pd) (K : Ps) : Pd := (i_ald 0 (i_getr 11 0 (i_geti 1 1 (i_ci 4 (i_ic_lt (qVC_ship_57 d mc ms B K) (qVC_ship_55 d mc ms B K))))))
theorem zVC_ship_44 {d mc ms : Nat} {B : Nat → Pd} {K : Ps} (hB : ∀ pc, Le (B pc) (G cVC_ship "VoyageCompany" 8 (some .int) "ship" (rm (d + 1) mc ms) (QM mc ms K) pc)) : Le (qVC_ship_44 d mc ms B K) (G cVC_ship "VoyageCompany" 8 (some .int) "ship" (rm (d + 1) mc ms) (QM mc ms K) 44) := by
  unfold qVC_ship_44
  exact (s_ald_n (j := 0) (by decide +kernel) rfl (s_getr (idx := 10) (by decide +kernel) fl11_10 (by decide) (s_geti (idx := 97) (by decide +kernel) fl11_97 (by decide) (s_iconst (n := 4) (v := 4) (by decide +kernel) (by decide +kernel) (s_ic_lt (off := 5) (tgt := 57) (by decide +kernel) (by decide) (zVC_ship_57 hB) (zVC_ship_55 hB))))))
def qVC_ship_37 (d mc ms : Nat) (B : Nat → Pd) (K : Ps) : Pd := (i_ist 5 (i_ild 5 (i_if_eq (qVC_ship_55 d mc ms B K) (qVC_ship_44 d mc ms B K))))
theorem zVC_ship_37 {d mc ms : Nat} {B : Nat → Pd} {K : Ps} (hB : ∀ pc, Le (B pc) (G cVC_ship "VoyageCompany" 8 (some .int) "ship" (rm (d + 1) mc ms) (QM mc ms K) pc)) : Le (qVC_ship_37 d mc ms B K) (G cVC_ship "VoyageCompany" 8 (some .int) "ship" (rm (d + 1) mc ms) (QM mc ms K) 37) := by
  unfold qVC_ship_37
  exact (s_ist (by decide +kernel) (by decide) (s_ild (by decide +kernel) (s_if_eq (off := 14) (tgt := 55) (by decide +kernel) (by decide) (zVC_ship_55 hB) (zVC_ship_44 hB))))
def qVC_ship_36 (d mc ms : Nat) (B : Nat → Pd) (K : Ps) : Pd := (i_ci 0 (qVC_ship_37 d mc ms B K))
theorem zVC_ship_36 {d mc ms : Nat} {B : Nat → Pd} {K : Ps} (hB : ∀ pc, Le (B pc) (G cVC_ship "VoyageCompany" 8 (some .int) "ship" (rm (d + 1) mc ms) (QM mc ms K) pc)) : Le (qVC_ship_36 d mc ms B K) (G cVC_ship "VoyageCompany" 8 (some .int) "ship" (rm (d + 1) mc ms) (QM mc ms K) 36) := by
  unfold qVC_ship_36
  exact (s_iconst (n := 0) (v := 0) (by decide +kernel) (by decide +kernel) (zVC_ship_37 hB))
def qVC_ship_32 (d mc ms : Nat) (B : Nat → Pd) (K : Ps) : Pd := (i_ci 1 (qVC_ship_37 d mc ms B K))
theorem zVC_ship_32 {d mc ms : Nat} {B : Nat → Pd} {K : Ps} (hB : ∀ pc, Le (B pc) (G cVC_ship "VoyageCompany" 8 (some .int) "ship" (rm (d + 1) mc ms) (QM mc ms K) pc)) : Le (qVC_ship_32 d mc ms B K) (G cVC_ship "VoyageCompany" 8 (some .int) "ship" (rm (d + 1) mc ms) (QM mc ms K) 32) := by
  unfold qVC_ship_32
  exact (s_iconst (n := 1) (v := 1) (by decide +kernel) (by decide +kernel) (s_goto (off := 4) (tgt := 37) (by decide +kernel) (by decide) (zVC_ship_37 hB)))
def qVC_ship_26 (d mc ms : Nat) (B : Nat → Pd) (K : Ps) : Pd := (i_ild 3 (i_ci 99 (i_ic_gt (qVC_ship_36 d mc ms B K) (qVC_ship_32 d mc ms B K))))
theorem zVC_ship_26 {d mc ms : Nat} {B : Nat → Pd} {K : Ps} (hB : ∀ pc, Le (B pc) (G cVC_ship "VoyageCompany" 8 (some .int) "ship" (rm (d + 1) mc ms) (QM mc ms K) pc)) : Le (qVC_ship_26 d mc ms B K) (G cVC_ship "VoyageCompany" 8 (some .int) "ship" (rm (d + 1) mc ms) (QM mc ms K) 26) := by
  unfold qVC_ship_26
  exact (s_ild_n (j := 3) (by decide +kernel) rfl (s_bipush (n := 99) (v := 99) (by decide +kernel) (by decide +kernel) (s_ic_gt (off := 7) (tgt := 36) (by decide +kernel) (by decide) (zVC_ship_36 hB) (zVC_ship_32 hB))))
def qVC_ship_22 (d mc ms : Nat) (B : Nat → Pd) (K : Ps) : Pd := (i_ild 3 (i_if_lt (qVC_ship_36 d mc ms B K) (qVC_ship_26 d mc ms B K)))
theorem zVC_ship_22 {d mc ms : Nat} {B : Nat → Pd} {K : Ps} (hB : ∀ pc, Le (B pc) (G cVC_ship "VoyageCompany" 8 (some .int) "ship" (rm (d + 1) mc ms) (QM mc ms K) pc)) : Le (qVC_ship_22 d mc ms B K) (G cVC_ship "VoyageCompany" 8 (some .int) "ship" (rm (d + 1) mc ms) (QM mc ms K) 22) := by
  unfold qVC_ship_22
  exact (s_ild_n (j := 3) (by decide +kernel) rfl (s_if_lt (off := 13) (tgt := 36) (by decide +kernel) (by decide) (zVC_ship_36 hB) (zVC_ship_26 hB)))
def qVC_ship_16 (d mc ms : Nat) (B : Nat → Pd) (K : Ps) : Pd := (i_ild 2 (i_ci 50 (i_ic_gt (qVC_ship_36 d mc ms B K) (qVC_ship_22 d mc ms B K))))
theorem zVC_ship_16 {d mc ms : Nat} {B : Nat → Pd} {K : Ps} (hB : ∀ pc, Le (B pc) (G cVC_ship "VoyageCompany" 8 (some .int) "ship" (rm (d + 1) mc ms) (QM mc ms K) pc)) : Le (qVC_ship_16 d mc ms B K) (G cVC_ship "VoyageCompany" 8 (some .int) "ship" (rm (d + 1) mc ms) (QM mc ms K) 16) := by
  unfold qVC_ship_16
  exact (s_ild_n (j := 2) (by decide +kernel) rfl (s_bipush (n := 50) (v := 50) (by decide +kernel) (by decide +kernel) (s_ic_gt (off := 17) (tgt := 36) (by decide +kernel) (by decide) (zVC_ship_36 hB) (zVC_ship_22 hB))))
def qVC_ship_12 (d mc ms : Nat) (B : Nat → Pd) (K : Ps) : Pd := (i_ild 2 (i_if_lt (qVC_ship_36 d mc ms B K) (qVC_ship_16 d mc ms B K)))
theorem zVC_ship_12 {d mc ms : Nat} {B : Nat → Pd} {K : Ps} (hB : ∀ pc, Le (B pc) (G cVC_ship "VoyageCompany" 8 (some .int) "ship" (rm (d + 1) mc ms) (QM mc ms K) pc)) : Le (qVC_ship_12 d mc ms B K) (G cVC_ship "VoyageCompany" 8 (some .int) "ship" (rm (d + 1) mc ms) (QM mc ms K) 12) := by
  unfold qVC_ship_12
  exact (s_ild_n (j := 2) (by decide +kernel) rfl (s_if_lt (off := 23) (tgt := 36) (by decide +kernel) (by decide) (zVC_ship_36 hB) (zVC_ship_16 hB)))
def qVC_ship_5 (d mc ms : Nat) (B : Nat → Pd) (K : Ps) : Pd := (i_ild 1 (i_ci 500 (i_ic_gt (qVC_ship_36 d mc ms B K) (qVC_ship_12 d mc ms B K))))
theorem zVC_ship_5 {d mc ms : Nat} {B : Nat → Pd} {K : Ps} (hB : ∀ pc, Le (B pc) (G cVC_ship "VoyageCompany" 8 (some .int) "ship" (rm (d + 1) mc ms) (QM mc ms K) pc)) : Le (qVC_ship_5 d mc ms B K) (G cVC_ship "VoyageCompany" 8 (some .int) "ship" (rm (d + 1) mc ms) (QM mc ms K) 5) := by
  unfold qVC_ship_5
  exact (s_ild_n (j := 1) (by decide +kernel) rfl (s_sipush (n := 500) (v := 500) (by decide +kernel) (by decide +kernel) (s_ic_gt (off := 27) (tgt := 36) (by decide +kernel) (by decide) (zVC_ship_36 hB) (zVC_ship_12 hB))))
def qVC_ship_0 (d mc ms : Nat) (B : Nat → Pd) (K : Ps) : Pd := (i_ild 1 (i_ci 1 (i_ic_lt (qVC_ship_36 d mc ms B K) (qVC_ship_5 d mc ms B K))))
theorem zVC_ship_0 {d mc ms : Nat} {B : Nat → Pd} {K : Ps} (hB : ∀ pc, Le (B pc) (G cVC_ship "VoyageCompany" 8 (some .int) "ship" (rm (d + 1) mc ms) (QM mc ms K) pc)) : Le (qVC_ship_0 d mc ms B K) (G cVC_ship "VoyageCompany" 8 (some .int) "ship" (rm (d + 1) mc ms) (QM mc ms K) 0) := by
  unfold qVC_ship_0
  exact (s_ild_n (j := 1) (by decide +kernel) rfl (s_iconst (n := 1) (v := 1) (by decide +kernel) (by decide +kernel) (s_ic_lt (off := 34) (tgt := 36) (by decide +kernel) (by decide) (zVC_ship_36 hB) (zVC_ship_5 hB))))
/-- VoyageCompany.ship(IIII)I, at its places -/
def gVC_ship (d mc ms : Nat) (K : Ps) : Nat → Pd := G cVC_ship "VoyageCompany" 8 (some .int) "ship" (rm (d + 1) mc ms) (QM mc ms K)
theorem eVC_ship {d mc ms : Nat} {K : Ps} {av : List Value} {E : Nat → Prop} {R : Nat → Nat → Value} {I : Nat → Nat → Int32} {J : Nat → Nat → Int64} (hn : (lg_sl av).length ≤ 8) (h : qVC_ship_0 d mc ms (gVC_ship d mc ms K) K (lv_args 0 av) [] E R I J 0 0) : CL yVC_ship cVC_ship 8 (some .int) (d + 1) mc ms av E R I J K :=
  CL.of (by decide +kernel) hn (zVC_ship_0 (fun _ => Le.refl) _ _ _ _ _ _ _ _ h)
def qVC_letter_21 (d mc ms : Nat) (B : Nat → Pd) (K : Ps) : Pd := (i_ald 0 (i_getr 11 0 (i_geti 1 0 (i_ci 3 (i_ild 1 (i_imul (i_iadd (i_ist 3 (i_ald 0 (i_getr 11 0 (i_getr 1 5 (i_ild 1 (i_aald (i_getr 5 6 (i_ild 3 (i_ci 13 (i_irem (i_ild 2 (i_iast (i_ild 3 (i_iret mc ms K)))))))))))))))))))))
theorem zVC_letter_21 {d mc ms : Nat} {B : Nat → Pd} {K : Ps} (hB : ∀ pc, Le (B pc) (G cVC_letter "VoyageCompany" 4 (some .int) "letter" (rm (d + 1) mc ms) (QM mc ms K) pc)) : Le (qVC_letter_21 d mc ms B K) (G cVC_letter "VoyageCompany" 4 (some .int) "letter" (rm (d + 1) mc ms) (QM mc ms K) 21) := by
  unfold qVC_letter_21
  exact (s_ald_n (j := 0) (by decide +kernel) rfl (s_getr (idx := 10) (by decide +kernel) fl11_10 (by decide) (s_geti (idx := 118) (by decide +kernel) fl11_118 (by decide) (s_iconst (n := 3) (v := 3) (by decide +kernel) (by decide +kernel) (s_ild_n (j := 1) (by decide +kernel) rfl (s_imul (by decide +kernel) (s_iadd (by decide +kernel) (s_ist_n (j := 3) (by decide +kernel) rfl (by decide) (s_ald_n (j := 0) (by decide +kernel) rfl (s_getr (idx := 10) (by decide +kernel) fl11_10 (by decide) (s_getr (idx := 59) (by decide +kernel) fl11_59 (by decide) (s_ild_n (j := 1) (by decide +kernel) rfl (s_aald (by decide +kernel) (s_getr (idx := 121) (by decide +kernel) fl11_121 (by decide) (s_ild_n (j := 3) (by decide +kernel) rfl (s_bipush (n := 13) (v := 13) (by decide +kernel) (by decide +kernel) (s_irem (by decide +kernel) (s_ild_n (j := 2) (by decide +kernel) rfl (s_iast (by decide +kernel) (s_ild_n (j := 3) (by decide +kernel) rfl (s_iret (by decide +kernel) rfl)))))))))))))))))))))
def qVC_letter_19 (d mc ms : Nat) (B : Nat → Pd) (K : Ps) : Pd := (i_ci (-1) (i_iret mc ms K))
theorem zVC_letter_19 {d mc ms : Nat} {B : Nat → Pd} {K : Ps} (hB : ∀ pc, Le (B pc) (G cVC_letter "VoyageCompany" 4 (some .int) "letter" (rm (d + 1) mc ms) (QM mc ms K) pc)) : Le (qVC_letter_19 d mc ms B K) (G cVC_letter "VoyageCompany" 4 (some .int) "letter" (rm (d + 1) mc ms) (QM mc ms K) 19) := by
  unfold qVC_letter_19
  exact (s_iconst (n := (-1)) (v := (-1)) (by decide +kernel) (by decide +kernel) (s_iret (by decide +kernel) rfl))
def qVC_letter_12 (d mc ms : Nat) (B : Nat → Pd) (K : Ps) : Pd := (i_ild 2 (i_ci 9999 (i_ic_le (qVC_letter_21 d mc ms B K) (qVC_letter_19 d mc ms B K))))
theorem zVC_letter_12 {d mc ms : Nat} {B : Nat → Pd} {K : Ps} (hB : ∀ pc, Le (B pc) (G cVC_letter "VoyageCompany" 4 (some .int) "letter" (rm (d + 1) mc ms) (QM mc ms K) pc)) : Le (qVC_letter_12 d mc ms B K) (G cVC_letter "VoyageCompany" 4 (some .int) "letter" (rm (d + 1) mc ms) (QM mc ms K) 12) := by
  unfold qVC_letter_12
  exact (s_ild_n (j := 2) (by decide +kernel) rfl (s_sipush (n := 9999) (v := 9999) (by decide +kernel) (by decide +kernel) (s_ic_le (off := 5) (tgt := 21) (by decide +kernel) (by decide) (zVC_letter_21 hB) (zVC_letter_19 hB))))
def qVC_letter_7 (d mc ms : Nat) (B : Nat → Pd) (K : Ps) : Pd := (i_ild 2 (i_ci 1 (i_ic_lt (qVC_letter_19 d mc ms B K) (qVC_letter_12 d mc ms B K))))
theorem zVC_letter_7 {d mc ms : Nat} {B : Nat → Pd} {K : Ps} (hB : ∀ pc, Le (B pc) (G cVC_letter "VoyageCompany" 4 (some .int) "letter" (rm (d + 1) mc ms) (QM mc ms K) pc)) : Le (qVC_letter_7 d mc ms B K) (G cVC_letter "VoyageCompany" 4 (some .int) "letter" (rm (d + 1) mc ms) (QM mc ms K) 7) := by
  unfold qVC_letter_7
  exact (s_ild_n (j := 2) (by decide +kernel) rfl (s_iconst (n := 1) (v := 1) (by decide +kernel) (by decide +kernel) (s_ic_lt (off := 10) (tgt := 19) (by decide +kernel) (by decide) (zVC_letter_19 hB) (zVC_letter_12 hB))))
def qVC_letter_0 (d mc ms : Nat) (B : Nat → Pd) (K : Ps) : Pd := (i_ild 1 (i_call 2 11 yVC_isFarPort cVC_isFarPort 1 (some .boolean) mc ms d 1 (i_if_eq (qVC_letter_19 d mc ms B K) (qVC_letter_7 d mc ms B K))))
theorem zVC_letter_0 {d mc ms : Nat} {B : Nat → Pd} {K : Ps} (hB : ∀ pc, Le (B pc) (G cVC_letter "VoyageCompany" 4 (some .int) "letter" (rm (d + 1) mc ms) (QM mc ms K) pc)) : Le (qVC_letter_0 d mc ms B K) (G cVC_letter "VoyageCompany" 4 (some .int) "letter" (rm (d + 1) mc ms) (QM mc ms K) 0) := by
  unfold qVC_letter_0
  exact (s_ild_n (j := 1) (by decide +kernel) rfl (s_call (idx := 41) (by decide +kernel) ml11_41 rmk (s_if_eq (off := 15) (tgt := 19) (by decide +kernel) (by decide) (zVC_letter_19 hB) (zVC_letter_7 hB))))
/-- VoyageCompany.letter(II)I, at its places -/
def gVC_letter (d mc ms : Nat) (K : Ps) : Nat → Pd := G cVC_letter "VoyageCompany" 4 (some .int) "letter" (rm (d + 1) mc ms) (QM mc ms K)
theorem eVC_letter {d mc ms : Nat} {K : Ps} {av : List Value} {E : Nat → Prop} {R : Nat → Nat → Value} {I : Nat → Nat → Int32} {J : Nat → Nat → Int64} (hn : (lg_sl av).length ≤ 4) (h : qVC_letter_0 d mc ms (gVC_letter d mc ms K) K (lv_args 0 av) [] E R I J 0 0) : CL yVC_letter cVC_letter 4 (some .int) (d + 1) mc ms av E R I J K :=
  CL.of (by decide +kernel) hn (zVC_letter_0 (fun _ => Le.refl) _ _ _ _ _ _ _ _ h)
def qVC_subscribe_41 (d mc ms : Nat) (B : Nat → Pd) (K : Ps) : Pd := (i_ald 3 (i_getr 8 0 (i_ild 1 (i_dup2 (i_iald (i_ild 2 (i_iadd (i_iast (i_ald 3 (i_dup (i_geti 8 1 (i_ild 2 (i_iadd (i_puti 8 1 (i_ild 2 (i_ci 100 (i_imul (i_ist 4 (i_ald 0 (i_getr 11 0 (i_getr 1 5 (i_ci 0 (i_aald (i_getr 5 1 (i_ci 0 (i_dup2 (i_iald (i_ild 4 (i_iadd (i_iast (i_ald 0 (i_getr 11 0 (i_getr 1 8 (i_ci 0 (i_ci 0 (i_ild 4 (i_call 0 0 yBooks_enter cBooks_enter 4 none mc ms d 4 (i_ald 3 (i_getr 8 0 (i_ild 1 (i_iald (i_iret mc ms K))))))))))))))))))))))))))))))))))))))))))
theorem zVC_subscribe_41 {d mc ms : Nat} {B : Nat → Pd} {K : Ps} (hB : ∀ pc, Le (B pc) (G cVC_subscribe "VoyageCompany" 5 (some .int) "subscribe" (rm (d + 1) mc ms) (QM mc ms K) pc)) : Le (qVC_subscribe_41 d mc ms B K) (G cVC_subscribe "VoyageCompany" 5 (some .int) "subscribe" (rm (d + 1) mc ms) (QM mc ms K) 41) := by
  unfold qVC_subscribe_41
  exact (s_ald_n (j := 3) (by decide +kernel) rfl (s_getr (idx := 141) (by decide +kernel) fl11_141 (by decide) (s_ild_n (j := 1) (by decide +kernel) rfl (s_dup2 (by decide +kernel) (s_iald (by decide +kernel) (s_ild_n (j := 2) (by decide +kernel) rfl (s_iadd (by decide +kernel) (s_iast (by decide +kernel) (s_ald_n (j := 3) (by decide +kernel) rfl (s_dup (by decide +kernel) (s_geti (idx := 132) (by decide +kernel) fl11_132 (by decide) (s_ild_n (j := 2) (by decide +kernel) rfl (s_iadd (by decide +kernel) (s_puti (idx := 132) (by decide +kernel) fl11_132 (by decide) (by decide) (Or.inl (by decide +kernel)) (s_ild_n (j := 2) (by decide +kernel) rfl (s_bipush (n := 100) (v := 100) (by decide +kernel) (by decide +kernel) (s_imul (by decide +kernel) (s_ist (by decide +kernel) (by decide) (s_ald_n (j := 0) (by decide +kernel) rfl (s_getr (idx := 10) (by decide +kernel) fl11_10 (by decide) (s_getr (idx := 59) (by decide +kernel) fl11_59 (by decide) (s_iconst (n := 0) (v := 0) (by decide +kernel) (by decide +kernel) (s_aald (by decide +kernel) (s_getr (idx := 144) (by decide +kernel) fl11_144 (by decide) (s_iconst (n := 0) (v := 0) (by decide +kernel) (by decide +kernel) (s_dup2 (by decide +kernel) (s_iald (by decide +kernel) (s_ild (by decide +kernel) (s_iadd (by decide +kernel) (s_iast (by decide +kernel) (s_ald_n (j := 0) (by decide +kernel) rfl (s_getr (idx := 10) (by decide +kernel) fl11_10 (by decide) (s_getr (idx := 147) (by decide +kernel) fl11_147 (by decide) (s_iconst (n := 0) (v := 0) (by decide +kernel) (by decide +kernel) (s_iconst (n := 0) (v := 0) (by decide +kernel) (by decide +kernel) (s_ild (by decide +kernel) (s_call (idx := 151) (by decide +kernel) ml11_151 rmk (s_ald_n (j := 3) (by decide +kernel) rfl (s_getr (idx := 141) (by decide +kernel) fl11_141 (by decide) (s_ild_n (j := 1) (by decide +kernel) rfl (s_iald (by decide +kernel) (s_iret (by decide +kernel) rfl))))))))))))))))))))))))))))))))))))))))))
def qVC_subscribe_39 (d mc ms : Nat) (B : Nat → Pd) (K : Ps) : Pd := (i_ci (-1) (i_iret mc ms K))
theorem zVC_subscribe_39 {d mc ms : Nat} {B : Nat → Pd} {K : Ps} (hB : ∀ pc, Le (B pc) (G cVC_subscribe "VoyageCompany" 5 (some .int) "subscribe" (rm (d + 1) mc ms) (QM mc ms K) pc)) : Le (qVC_subscribe_39 d mc ms B K) (G cVC_subscribe "VoyageCompany" 5 (some .int) "subscribe" (rm (d + 1) mc ms) (QM mc ms K) 39) := by
  unfold qVC_subscribe_39
  exact (s_iconst (n := (-1)) (v := (-1)) (by decide +kernel) (by decide +kernel) (s_iret (by decide +kernel) rfl))
def qVC_subscribe_32 (d mc ms : Nat) (B : Nat → Pd) (K : Ps) : Pd := (i_ald 3 (i_geti 8 2 (i_if_eq (qVC_subscribe_41 d mc ms B K) (qVC_subscribe_39 d mc ms B K))))
theorem zVC_subscribe_32 {d mc ms : Nat} {B : Nat → Pd} {K : Ps} (hB : ∀ pc, Le (B pc) (G cVC_subscribe "VoyageCompany" 5 (some .int) "subscribe" (rm (d + 1) mc ms) (QM mc ms K) pc)) : Le (qVC_subscribe_32 d mc ms B K) (G cVC_subscribe "VoyageCompany" 5 (some .int) "subscribe" (rm (d + 1) mc ms) (QM mc ms K) 32) := by
  unfold qVC_subscribe_32
  exact (s_ald_n (j := 3) (by decide +kernel) rfl (s_geti (idx := 137) (by decide +kernel) fl11_137 (by decide) (s_if_eq (off := 5) (tgt := 41) (by decide +kernel) (by decide) (zVC_subscribe_41 hB) (zVC_subscribe_39 hB))))
def qVC_subscribe_20 (d mc ms : Nat) (B : Nat → Pd) (K : Ps) : Pd := (i_ild 2 (i_ci 1000 (i_ald 3 (i_geti 8 1 (i_isub (i_ic_gt (qVC_subscribe_39 d mc ms B K) (qVC_subscribe_32 d mc ms B K)))))))
theorem zVC_subscribe_20 {d mc ms : Nat} {B : Nat → Pd} {K : Ps} (hB : ∀ pc, Le (B pc) (G cVC_subscribe "VoyageCompany" 5 (some .int) "subscribe" (rm (d + 1) mc ms) (QM mc ms K) pc)) : Le (qVC_subscribe_20 d mc ms B K) (G cVC_subscribe "VoyageCompany" 5 (some .int) "subscribe" (rm (d + 1) mc ms) (QM mc ms K) 20) := by
  unfold qVC_subscribe_20
  exact (s_ild_n (j := 2) (by decide +kernel) rfl (s_sipush (n := 1000) (v := 1000) (by decide +kernel) (by decide +kernel) (s_ald_n (j := 3) (by decide +kernel) rfl (s_geti (idx := 132) (by decide +kernel) fl11_132 (by decide) (s_isub (by decide +kernel) (s_ic_gt (off := 10) (tgt := 39) (by decide +kernel) (by decide) (zVC_subscribe_39 hB) (zVC_subscribe_32 hB)))))))
def qVC_subscribe_15 (d mc ms : Nat) (B : Nat → Pd) (K : Ps) : Pd := (i_ild 2 (i_ci 1 (i_ic_lt (qVC_subscribe_39 d mc ms B K) (qVC_subscribe_20 d mc ms B K))))
theorem zVC_subscribe_15 {d mc ms : Nat} {B : Nat → Pd} {K : Ps} (hB : ∀ pc, Le (B pc) (G cVC_subscribe "VoyageCompany" 5 (some .int) "subscribe" (rm (d + 1) mc ms) (QM mc ms K) pc)) : Le (qVC_subscribe_15 d mc ms B K) (G cVC_subscribe "VoyageCompany" 5 (some .int) "subscribe" (rm (d + 1) mc ms) (QM mc ms K) 15) := by
  unfold qVC_subscribe_15
  exact (s_ild_n (j := 2) (by decide +kernel) rfl (s_iconst (n := 1) (v := 1) (by decide +kernel) (by decide +kernel) (s_ic_lt (off := 22) (tgt := 39) (by decide +kernel) (by decide) (zVC_subscribe_39 hB) (zVC_subscribe_20 hB))))
def qVC_subscribe_0 (d mc ms : Nat) (B : Nat → Pd) (K : Ps) : Pd := (i_ald 0 (i_getr 11 0 (i_getr 1 7 (i_ast 3 (i_ild 1 (i_call 2 11 yVC_isPerson cVC_isPerson 1 (some .boolean) mc ms d 1 (i_if_eq (qVC_subscribe_39 d mc ms B K) (qVC_subscribe_15 d mc ms B K))))))))
theorem zVC_subscribe_0 {d mc ms : Nat} {B : Nat → Pd} {K : Ps} (hB : ∀ pc, Le (B pc) (G cVC_subscribe "VoyageCompany" 5 (some .int) "subscribe" (rm (d + 1) mc ms) (QM mc ms K) pc)) : Le (qVC_subscribe_0 d mc ms B K) (G cVC_subscribe "VoyageCompany" 5 (some .int) "subscribe" (rm (d + 1) mc ms) (QM mc ms K) 0) := by
  unfold qVC_subscribe_0
  exact (s_ald_n (j := 0) (by decide +kernel) rfl (s_getr (idx := 10) (by decide +kernel) fl11_10 (by decide) (s_getr (idx := 125) (by decide +kernel) fl11_125 (by decide) (s_ast_n (j := 3) (by decide +kernel) rfl (by decide) (s_ild_n (j := 1) (by decide +kernel) rfl (s_call (idx := 129) (by decide +kernel) ml11_129 rmk (s_if_eq (off := 27) (tgt := 39) (by decide +kernel) (by decide) (zVC_subscribe_39 hB) (zVC_subscribe_15 hB))))))))
/-- VoyageCompany.subscribe(II)I, at its places -/
def gVC_subscribe (d mc ms : Nat) (K : Ps) : Nat → Pd := G cVC_subscribe "VoyageCompany" 5 (some .int) "subscribe" (rm (d + 1) mc ms) (QM mc ms K)
theorem eVC_subscribe {d mc ms : Nat} {K : Ps} {av : List Value} {E : Nat → Prop} {R : Nat → Nat → Value} {I : Nat → Nat → Int32} {J : Nat → Nat → Int64} (hn : (lg_sl av).length ≤ 5) (h : qVC_subscribe_0 d mc ms (gVC_subscribe d mc ms K) K (lv_args 0 av) [] E R I J 0 0) : CL yVC_subscribe cVC_subscribe 5 (some .int) (d + 1) mc ms av E R I J K :=
  CL.of (by decide +kernel) hn (zVC_subscribe_0 (fun _ => Le.refl) _ _ _ _ _ _ _ _ h)
def qVC_transfer_48 (d mc ms : Nat) (B : Nat → Pd) (K : Ps) : Pd := (i_ald 4 (i_ild 1 (i_dup2 (i_iald (i_ild 3 (i_isub (i_iast (i_ald 4 (i_ild 2 (i_dup2 (i_iald (i_ild 3 (i_iadd (i_iast (i_ci 1 (i_zret mc ms K))))))))))))))))
theorem zVC_transfer_48 {d mc ms : Nat} {B : Nat → Pd} {K : Ps} (hB : ∀ pc, Le (B pc) (G cVC_transfer "VoyageCompany" 5 (some .boolean) "transfer" (rm (d + 1) mc ms) (QM mc ms K) pc)) : Le (qVC_transfer_48 d mc ms B K) (G cVC_transfer "VoyageCompany" 5 (some .boolean) "transfer" (rm (d + 1) mc ms) (QM mc ms K) 48) := by
  unfold qVC_transfer_48
  exact (s_ald (by decide +kernel) (s_ild_n (j := 1) (by decide +kernel) rfl (s_dup2 (by decide +kernel) (s_iald (by decide +kernel) (s_ild_n (j := 3) (by decide +kernel) rfl (s_isub (by decide +kernel) (s_iast (by decide +kernel) (s_ald (by decide +kernel) (s_ild_n (j := 2) (by decide +kernel) rfl (s_dup2 (by decide +kernel) (s_iald (by decide +kernel) (s_ild_n (j := 3) (by decide +kernel) rfl (s_iadd (by decide +kernel) (s_iast (by decide +kernel) (s_iconst (n := 1) (v := 1) (by decide +kernel) (by decide +kernel) (s_zret (by decide +kernel) rfl))))))))))))))))
def qVC_transfer_46 (d mc ms : Nat) (B : Nat → Pd) (K : Ps) : Pd := (i_ci 0 (i_zret mc ms K))
theorem zVC_transfer_46 {d mc ms : Nat} {B : Nat → Pd} {K : Ps} (hB : ∀ pc, Le (B pc) (G cVC_transfer "VoyageCompany" 5 (some .boolean) "transfer" (rm (d + 1) mc ms) (QM mc ms K) pc)) : Le (qVC_transfer_46 d mc ms B K) (G cVC_transfer "VoyageCompany" 5 (some .boolean) "transfer" (rm (d + 1) mc ms) (QM mc ms K) 46) := by
  unfold qVC_transfer_46
  exact (s_iconst (n := 0) (v := 0) (by decide +kernel) (by decide +kernel) (s_zret (by decide +kernel) rfl))
def qVC_transfer_26 (d mc ms : Nat) (B : Nat → Pd) (K : Ps) : Pd := (i_ald 0 (i_getr 11 0 (i_getr 1 7 (i_getr 8 0 (i_ast 4 (i_ald 4 (i_ild 1 (i_iald (i_ild 3 (i_ic_ge (qVC_transfer_48 d mc ms B K) (qVC_transfer_46 d mc ms B K)))))))))))
theorem zVC_transfer_26 {d mc ms : Nat} {B : Nat → Pd} {K : Ps} (hB : ∀ pc, Le (B pc) (G cVC_transfer "VoyageCompany" 5 (some .boolean) "transfer" (rm (d + 1) mc ms) (QM mc ms K) pc)) : Le (qVC_transfer_26 d mc ms B K) (G cVC_transfer "VoyageCompany" 5 (some .boolean) "transfer" (rm (d + 1) mc ms) (QM mc ms K) 26) := by
  unfold qVC_transfer_26
  exact (s_ald_n (j := 0) (by decide +kernel) rfl (s_getr (idx := 10) (by decide +kernel) fl11_10 (by decide) (s_getr (idx := 125) (by decide +kernel) fl11_125 (by decide) (s_getr (idx := 141) (by decide +kernel) fl11_141 (by decide) (s_ast (by decide +kernel) (by decide) (s_ald (by decide +kernel) (s_ild_n (j := 1) (by decide +kernel) rfl (s_iald (by decide +kernel) (s_ild_n (j := 3) (by decide +kernel) rfl (s_ic_ge (off := 5) (tgt := 48) (by decide +kernel) (by decide) (zVC_transfer_48 hB) (zVC_transfer_46 hB)))))))))))
def qVC_transfer_24 (d mc ms : Nat) (B : Nat → Pd) (K : Ps) : Pd := (i_ci 0 (i_zret mc ms K))
theorem zVC_transfer_24 {d mc ms : Nat} {B : Nat → Pd} {K : Ps} (hB : ∀ pc, Le (B pc) (G cVC_transfer "VoyageCompany" 5 (some .boolean) "transfer" (rm (d + 1) mc ms) (QM mc ms K) pc)) : Le (qVC_transfer_24 d mc ms B K) (G cVC_transfer "VoyageCompany" 5 (some .boolean) "transfer" (rm (d + 1) mc ms) (QM mc ms K) 24) := by
  unfold qVC_transfer_24
  exact (s_iconst (n := 0) (v := 0) (by decide +kernel) (by decide +kernel) (s_zret (by decide +kernel) rfl))
def qVC_transfer_19 (d mc ms : Nat) (B : Nat → Pd) (K : Ps) : Pd := (i_ild 3 (i_ci 1 (i_ic_ge (qVC_transfer_26 d mc ms B K) (qVC_transfer_24 d mc ms B K))))
theorem zVC_transfer_19 {d mc ms : Nat} {B : Nat → Pd} {K : Ps} (hB : ∀ pc, Le (B pc) (G cVC_transfer "VoyageCompany" 5 (some .boolean) "transfer" (rm (d + 1) mc ms) (QM mc ms K) pc)) : Le (qVC_transfer_19 d mc ms B K) (G cVC_transfer "VoyageCompany" 5 (some .boolean) "transfer" (rm (d + 1) mc ms) (QM mc ms K) 19) := by
  unfold qVC_transfer_19
  exact (s_ild_n (j := 3) (by decide +kernel) rfl (s_iconst (n := 1) (v := 1) (by decide +kernel) (by decide +kernel) (s_ic_ge (off := 5) (tgt := 26) (by decide +kernel) (by decide) (zVC_transfer_26 hB) (zVC_transfer_24 hB))))
def qVC_transfer_14 (d mc ms : Nat) (B : Nat → Pd) (K : Ps) : Pd := (i_ild 1 (i_ild 2 (i_ic_eq (qVC_transfer_24 d mc ms B K) (qVC_transfer_19 d mc ms B K))))
theorem zVC_transfer_14 {d mc ms : Nat} {B : Nat → Pd} {K : Ps} (hB : ∀ pc, Le (B pc) (G cVC_transfer "VoyageCompany" 5 (some .boolean) "transfer" (rm (d + 1) mc ms) (QM mc ms K) pc)) : Le (qVC_transfer_14 d mc ms B K) (G cVC_transfer "VoyageCompany" 5 (some .boolean) "transfer" (rm (d + 1) mc ms) (QM mc ms K) 14) := by
  unfold qVC_transfer_14
  exact (s_ild_n (j := 1) (by decide +kernel) rfl (s_ild_n (j := 2) (by decide +kernel) rfl (s_ic_eq (off := 8) (tgt := 24) (by decide +kernel) (by decide) (zVC_transfer_24 hB) (zVC_transfer_19 hB))))
def qVC_transfer_7 (d mc ms : Nat) (B : Nat → Pd) (K : Ps) : Pd := (i_ild 2 (i_call 2 11 yVC_isPerson cVC_isPerson 1 (some .boolean) mc ms d 1 (i_if_eq (qVC_transfer_24 d mc ms B K) (qVC_transfer_14 d mc ms B K))))
theorem zVC_transfer_7 {d mc ms : Nat} {B : Nat → Pd} {K : Ps} (hB : ∀ pc, Le (B pc) (G cVC_transfer "VoyageCompany" 5 (some .boolean) "transfer" (rm (d + 1) mc ms) (QM mc ms K) pc)) : Le (qVC_transfer_7 d mc ms B K) (G cVC_transfer "VoyageCompany" 5 (some .boolean) "transfer" (rm (d + 1) mc ms) (QM mc ms K) 7) := by
  unfold qVC_transfer_7
  exact (s_ild_n (j := 2) (by decide +kernel) rfl (s_call (idx := 129) (by decide +kernel) ml11_129 rmk (s_if_eq (off := 13) (tgt := 24) (by decide +kernel) (by decide) (zVC_transfer_24 hB) (zVC_transfer_14 hB))))
def qVC_transfer_0 (d mc ms : Nat) (B : Nat → Pd) (K : Ps) : Pd := (i_ild 1 (i_call 2 11 yVC_isPerson cVC_isPerson 1 (some .boolean) mc ms d 1 (i_if_eq (qVC_transfer_24 d mc ms B K) (qVC_transfer_7 d mc ms B K))))
theorem zVC_transfer_0 {d mc ms : Nat} {B : Nat → Pd} {K : Ps} (hB : ∀ pc, Le (B pc) (G cVC_transfer "VoyageCompany" 5 (some .boolean) "transfer" (rm (d + 1) mc ms) (QM mc ms K) pc)) : Le (qVC_transfer_0 d mc ms B K) (G cVC_transfer "VoyageCompany" 5 (some .boolean) "transfer" (rm (d + 1) mc ms) (QM mc ms K) 0) := by
  unfold qVC_transfer_0
  exact (s_ild_n (j := 1) (by decide +kernel) rfl (s_call (idx := 129) (by decide +kernel) ml11_129 rmk (s_if_eq (off := 20) (tgt := 24) (by decide +kernel) (by decide) (zVC_transfer_24 hB) (zVC_transfer_7 hB))))
/-- VoyageCompany.transfer(III)Z, at its places -/
def gVC_transfer (d mc ms : Nat) (K : Ps) : Nat → Pd := G cVC_transfer "VoyageCompany" 5 (some .boolean) "transfer" (rm (d + 1) mc ms) (QM mc ms K)
theorem eVC_transfer {d mc ms : Nat} {K : Ps} {av : List Value} {E : Nat → Prop} {R : Nat → Nat → Value} {I : Nat → Nat → Int32} {J : Nat → Nat → Int64} (hn : (lg_sl av).length ≤ 5) (h : qVC_transfer_0 d mc ms (gVC_transfer d mc ms K) K (lv_args 0 av) [] E R I J 0 0) : CL yVC_transfer cVC_transfer 5 (some .boolean) (d + 1) mc ms av E R I J K :=
  CL.of (by decide +kernel) hn (zVC_transfer_0 (fun _ => Le.refl) _ _ _ _ _ _ _ _ h)
def qVC_shares_23 (d mc ms : Nat) (B : Nat → Pd) (K : Ps) : Pd := (i_iret mc ms K)
theorem zVC_shares_23 {d mc ms : Nat} {B : Nat → Pd} {K : Ps} (hB : ∀ pc, Le (B pc) (G cVC_shares "VoyageCompany" 2 (some .int) "shares" (rm (d + 1) mc ms) (QM mc ms K) pc)) : Le (qVC_shares_23 d mc ms B K) (G cVC_shares "VoyageCompany" 2 (some .int) "shares" (rm (d + 1) mc ms) (QM mc ms K) 23) := by
  unfold qVC_shares_23
  exact (s_iret (by decide +kernel) rfl)
def qVC_shares_22 (d mc ms : Nat) (B : Nat → Pd) (K : Ps) : Pd := (i_ci (-1) (qVC_shares_23 d mc ms B K))
theorem zVC_shares_22 {d mc ms : Nat} {B : Nat → Pd} {K : Ps} (hB : ∀ pc, Le (B pc) (G cVC_shares "VoyageCompany" 2 (some .int) "shares" (rm (d + 1) mc ms) (QM mc ms K) pc)) : Le (qVC_shares_22 d mc ms B K) (G cVC_shares "VoyageCompany" 2 (some .int) "shares" (rm (d + 1) mc ms) (QM mc ms K) 22) := by
  unfold qVC_shares_22
  exact (s_iconst (n := (-1)) (v := (-1)) (by decide +kernel) (by decide +kernel) (zVC_shares_23 hB))
def qVC_shares_7 (d mc ms : Nat) (B : Nat → Pd) (K : Ps) : Pd := (i_ald 0 (i_getr 11 0 (i_getr 1 7 (i_getr 8 0 (i_ild 1 (i_iald (qVC_shares_23 d mc ms B K)))))))
theorem zVC_shares_7 {d mc ms : Nat} {B : Nat → Pd} {K : Ps} (hB : ∀ pc, Le (B pc) (G cVC_shares "VoyageCompany" 2 (some .int) "shares" (rm (d + 1) mc ms) (QM mc ms K) pc)) : Le (qVC_shares_7 d mc ms B K) (G cVC_shares "VoyageCompany" 2 (some .int) "shares" (rm (d + 1) mc ms) (QM mc ms K) 7) := by
  unfold qVC_shares_7
  exact (s_ald_n (j := 0) (by decide +kernel) rfl (s_getr (idx := 10) (by decide +kernel) fl11_10 (by decide) (s_getr (idx := 125) (by decide +kernel) fl11_125 (by decide) (s_getr (idx := 141) (by decide +kernel) fl11_141 (by decide) (s_ild_n (j := 1) (by decide +kernel) rfl (s_iald (by decide +kernel) (s_goto (off := 4) (tgt := 23) (by decide +kernel) (by decide) (zVC_shares_23 hB))))))))
def qVC_shares_0 (d mc ms : Nat) (B : Nat → Pd) (K : Ps) : Pd := (i_ild 1 (i_call 2 11 yVC_isPerson cVC_isPerson 1 (some .boolean) mc ms d 1 (i_if_eq (qVC_shares_22 d mc ms B K) (qVC_shares_7 d mc ms B K))))
theorem zVC_shares_0 {d mc ms : Nat} {B : Nat → Pd} {K : Ps} (hB : ∀ pc, Le (B pc) (G cVC_shares "VoyageCompany" 2 (some .int) "shares" (rm (d + 1) mc ms) (QM mc ms K) pc)) : Le (qVC_shares_0 d mc ms B K) (G cVC_shares "VoyageCompany" 2 (some .int) "shares" (rm (d + 1) mc ms) (QM mc ms K) 0) := by
  unfold qVC_shares_0
  exact (s_ild_n (j := 1) (by decide +kernel) rfl (s_call (idx := 129) (by decide +kernel) ml11_129 rmk (s_if_eq (off := 18) (tgt := 22) (by decide +kernel) (by decide) (zVC_shares_22 hB) (zVC_shares_7 hB))))
/-- VoyageCompany.shares(I)I, at its places -/
def gVC_shares (d mc ms : Nat) (K : Ps) : Nat → Pd := G cVC_shares "VoyageCompany" 2 (some .int) "shares" (rm (d + 1) mc ms) (QM mc ms K)
theorem eVC_shares {d mc ms : Nat} {K : Ps} {av : List Value} {E : Nat → Prop} {R : Nat → Nat → Value} {I : Nat → Nat → Int32} {J : Nat → Nat → Int64} (hn : (lg_sl av).length ≤ 2) (h : qVC_shares_0 d mc ms (gVC_shares d mc ms K) K (lv_args 0 av) [] E R I J 0 0) : CL yVC_shares cVC_shares 2 (some .int) (d + 1) mc ms av E R I J K :=
  CL.of (by decide +kernel) hn (zVC_shares_0 (fun _ => Le.refl) _ _ _ _ _ _ _ _ h)
def qVC_load_63 (d mc ms : Nat) (B : Nat → Pd) (K : Ps) : Pd := (i_ald 0 (i_getr 11 0 (i_getr 1 5 (i_ci 0 (i_aald (i_getr 5 1 (i_ild 2 (i_dup2 (i_iald (i_ild 3 (i_isub (i_iast (i_ald 4 (i_getr 7 4 (i_ild 2 (i_dup2 (i_iald (i_ild 3 (i_iadd (i_iast (i_ald 4 (i_getr 7 4 (i_ild 2 (i_iald (i_iret mc ms K)))))))))))))))))))))))))
theorem zVC_load_63 {d mc ms : Nat} {B : Nat → Pd} {K : Ps} (hB : ∀ pc, Le (B pc) (G cVC_load "VoyageCompany" 5 (some .int) "load" (rm (d + 1) mc ms) (QM mc ms K) pc)) : Le (qVC_load_63 d mc ms B K) (G cVC_load "VoyageCompany" 5 (some .int) "load" (rm (d + 1) mc ms) (QM mc ms K) 63) := by
  unfold qVC_load_63
  exact (s_ald_n (j := 0) (by decide +kernel) rfl (s_getr (idx := 10) (by decide +kernel) fl11_10 (by decide) (s_getr (idx := 59) (by decide +kernel) fl11_59 (by decide) (s_iconst (n := 0) (v := 0) (by decide +kernel) (by decide +kernel) (s_aald (by decide +kernel) (s_getr (idx := 144) (by decide +kernel) fl11_144 (by decide) (s_ild_n (j := 2) (by decide +kernel) rfl (s_dup2 (by decide +kernel) (s_iald (by decide +kernel) (s_ild_n (j := 3) (by decide +kernel) rfl (s_isub (by decide +kernel) (s_iast (by decide +kernel) (s_ald (by decide +kernel) (s_getr (idx := 171) (by decide +kernel) fl11_171 (by decide) (s_ild_n (j := 2) (by decide +kernel) rfl (s_dup2 (by decide +kernel) (s_iald (by decide +kernel) (s_ild_n (j := 3) (by decide +kernel) rfl (s_iadd (by decide +kernel) (s_iast (by decide +kernel) (s_ald (by decide +kernel) (s_getr (idx := 171) (by decide +kernel) fl11_171 (by decide) (s_ild_n (j := 2) (by decide +kernel) rfl (s_iald (by decide +kernel) (s_iret (by decide +kernel) rfl)))))))))))))))))))))))))
def qVC_load_61 (d mc ms : Nat) (B : Nat → Pd) (K : Ps) : Pd := (i_ci (-1) (i_iret mc ms K))
theorem zVC_load_61 {d mc ms : Nat} {B : Nat → Pd} {K : Ps} (hB : ∀ pc, Le (B pc) (G cVC_load "VoyageCompany" 5 (some .int) "load" (rm (d + 1) mc ms) (QM mc ms K) pc)) : Le (qVC_load_61 d mc ms B K) (G cVC_load "VoyageCompany" 5 (some .int) "load" (rm (d + 1) mc ms) (QM mc ms K) 61) := by
  unfold qVC_load_61
  exact (s_iconst (n := (-1)) (v := (-1)) (by decide +kernel) (by decide +kernel) (s_iret (by decide +kernel) rfl))
def qVC_load_52 (d mc ms : Nat) (B : Nat → Pd) (K : Ps) : Pd := (i_ild 3 (i_ald 4 (i_call 0 7 yShip_room cShip_room 3 (some .int) mc ms d 1 (i_ic_le (qVC_load_63 d mc ms B K) (qVC_load_61 d mc ms B K)))))
theorem zVC_load_52 {d mc ms : Nat} {B : Nat → Pd} {K : Ps} (hB : ∀ pc, Le (B pc) (G cVC_load "VoyageCompany" 5 (some .int) "load" (rm (d + 1) mc ms) (QM mc ms K) pc)) : Le (qVC_load_52 d mc ms B K) (G cVC_load "VoyageCompany" 5 (some .int) "load" (rm (d + 1) mc ms) (QM mc ms K) 52) := by
  unfold qVC_load_52
  exact (s_ild_n (j := 3) (by decide +kernel) rfl (s_ald (by decide +kernel) (s_call (idx := 167) (by decide +kernel) ml11_167 rmk (s_ic_le (off := 5) (tgt := 63) (by decide +kernel) (by decide) (zVC_load_63 hB) (zVC_load_61 hB)))))
def qVC_load_37 (d mc ms : Nat) (B : Nat → Pd) (K : Ps) : Pd := (i_ald 0 (i_getr 11 0 (i_getr 1 6 (i_ild 1 (i_aald (i_ast 4 (i_ild 2 (i_if_eq (qVC_load_63 d mc ms B K) (qVC_load_52 d mc ms B K)))))))))
theorem zVC_load_37 {d mc ms : Nat} {B : Nat → Pd} {K : Ps} (hB : ∀ pc, Le (B pc) (G cVC_load "VoyageCompany" 5 (some .int) "load" (rm (d + 1) mc ms) (QM mc ms K) pc)) : Le (qVC_load_37 d mc ms B K) (G cVC_load "VoyageCompany" 5 (some .int) "load" (rm (d + 1) mc ms) (QM mc ms K) 37) := by
  unfold qVC_load_37
  exact (s_ald_n (j := 0) (by decide +kernel) rfl (s_getr (idx := 10) (by decide +kernel) fl11_10 (by decide) (s_getr (idx := 100) (by decide +kernel) fl11_100 (by decide) (s_ild_n (j := 1) (by decide +kernel) rfl (s_aald (by decide +kernel) (s_ast (by decide +kernel) (by decide) (s_ild_n (j := 2) (by decide +kernel) rfl (s_if_eq (off := 14) (tgt := 63) (by decide +kernel) (by decide) (zVC_load_63 hB) (zVC_load_52 hB)))))))))
def qVC_load_35 (d mc ms : Nat) (B : Nat → Pd) (K : Ps) : Pd := (i_ci (-1) (i_iret mc ms K))
theorem zVC_load_35 {d mc ms : Nat} {B : Nat → Pd} {K : Ps} (hB : ∀ pc, Le (B pc) (G cVC_load "VoyageCompany" 5 (some .int) "load" (rm (d + 1) mc ms) (QM mc ms K) pc)) : Le (qVC_load_35 d mc ms B K) (G cVC_load "VoyageCompany" 5 (some .int) "load" (rm (d + 1) mc ms) (QM mc ms K) 35) := by
  unfold qVC_load_35
  exact (s_iconst (n := (-1)) (v := (-1)) (by decide +kernel) (by decide +kernel) (s_iret (by decide +kernel) rfl))
def qVC_load_23 (d mc ms : Nat) (B : Nat → Pd) (K : Ps) : Pd := (i_ild 3 (i_ald 0 (i_getr 11 0 (i_ild 2 (i_call 0 1 yCompany_freeAtHome cCompany_freeAtHome 2 (some .int) mc ms d 2 (i_ic_le (qVC_load_37 d mc ms B K) (qVC_load_35 d mc ms B K)))))))
theorem zVC_load_23 {d mc ms : Nat} {B : Nat → Pd} {K : Ps} (hB : ∀ pc, Le (B pc) (G cVC_load "VoyageCompany" 5 (some .int) "load" (rm (d + 1) mc ms) (QM mc ms K) pc)) : Le (qVC_load_23 d mc ms B K) (G cVC_load "VoyageCompany" 5 (some .int) "load" (rm (d + 1) mc ms) (QM mc ms K) 23) := by
  unfold qVC_load_23
  exact (s_ild_n (j := 3) (by decide +kernel) rfl (s_ald_n (j := 0) (by decide +kernel) rfl (s_getr (idx := 10) (by decide +kernel) fl11_10 (by decide) (s_ild_n (j := 2) (by decide +kernel) rfl (s_call (idx := 163) (by decide +kernel) ml11_163 rmk (s_ic_le (off := 5) (tgt := 37) (by decide +kernel) (by decide) (zVC_load_37 hB) (zVC_load_35 hB)))))))
def qVC_load_18 (d mc ms : Nat) (B : Nat → Pd) (K : Ps) : Pd := (i_ild 3 (i_ci 1 (i_ic_lt (qVC_load_35 d mc ms B K) (qVC_load_23 d mc ms B K))))
theorem zVC_load_18 {d mc ms : Nat} {B : Nat → Pd} {K : Ps} (hB : ∀ pc, Le (B pc) (G cVC_load "VoyageCompany" 5 (some .int) "load" (rm (d + 1) mc ms) (QM mc ms K) pc)) : Le (qVC_load_18 d mc ms B K) (G cVC_load "VoyageCompany" 5 (some .int) "load" (rm (d + 1) mc ms) (QM mc ms K) 18) := by
  unfold qVC_load_18
  exact (s_ild_n (j := 3) (by decide +kernel) rfl (s_iconst (n := 1) (v := 1) (by decide +kernel) (by decide +kernel) (s_ic_lt (off := 15) (tgt := 35) (by decide +kernel) (by decide) (zVC_load_35 hB) (zVC_load_23 hB))))
def qVC_load_11 (d mc ms : Nat) (B : Nat → Pd) (K : Ps) : Pd := (i_ild 2 (i_call 2 11 yVC_isGood cVC_isGood 1 (some .boolean) mc ms d 1 (i_if_eq (qVC_load_35 d mc ms B K) (qVC_load_18 d mc ms B K))))
theorem zVC_load_11 {d mc ms : Nat} {B : Nat → Pd} {K : Ps} (hB : ∀ pc, Le (B pc) (G cVC_load "VoyageCompany" 5 (some .int) "load" (rm (d + 1) mc ms) (QM mc ms K) pc)) : Le (qVC_load_11 d mc ms B K) (G cVC_load "VoyageCompany" 5 (some .int) "load" (rm (d + 1) mc ms) (QM mc ms K) 11) := by
  unfold qVC_load_11
  exact (s_ild_n (j := 2) (by decide +kernel) rfl (s_call (idx := 160) (by decide +kernel) ml11_160 rmk (s_if_eq (off := 20) (tgt := 35) (by decide +kernel) (by decide) (zVC_load_35 hB) (zVC_load_18 hB))))
def qVC_load_0 (d mc ms : Nat) (B : Nat → Pd) (K : Ps) : Pd := (i_ald 0 (i_getr 11 0 (i_ild 1 (i_call 0 1 yCompany_isShipAtHome cCompany_isShipAtHome 2 (some .boolean) mc ms d 2 (i_if_eq (qVC_load_35 d mc ms B K) (qVC_load_11 d mc ms B K))))))
theorem zVC_load_0 {d mc ms : Nat} {B : Nat → Pd} {K : Ps} (hB : ∀ pc, Le (B pc) (G cVC_load "VoyageCompany" 5 (some .int) "load" (rm (d + 1) mc ms) (QM mc ms K) pc)) : Le (qVC_load_0 d mc ms B K) (G cVC_load "VoyageCompany" 5 (some .int) "load" (rm (d + 1) mc ms) (QM mc ms K) 0) := by
  unfold qVC_load_0
  exact (s_ald_n (j := 0) (by decide +kernel) rfl (s_getr (idx := 10) (by decide +kernel) fl11_10 (by decide) (s_ild_n (j := 1) (by decide +kernel) rfl (s_call (idx := 157) (by decide +kernel) ml11_157 rmk (s_if_eq (off := 27) (tgt := 35) (by decide +kernel) (by decide) (zVC_load_35 hB) (zVC_load_11 hB))))))
/-- VoyageCompany.load(III)I, at its places -/
def gVC_load (d mc ms : Nat) (K : Ps) : Nat → Pd := G cVC_load "VoyageCompany" 5 (some .int) "load" (rm (d + 1) mc ms) (QM mc ms K)
theorem eVC_load {d mc ms : Nat} {K : Ps} {av : List Value} {E : Nat → Prop} {R : Nat → Nat → Value} {I : Nat → Nat → Int32} {J : Nat → Nat → Int64} (hn : (lg_sl av).length ≤ 5) (h : qVC_load_0 d mc ms (gVC_load d mc ms K) K (lv_args 0 av) [] E R I J 0 0) : CL yVC_load cVC_load 5 (some .int) (d + 1) mc ms av E R I J K :=
  CL.of (by decide +kernel) hn (zVC_load_0 (fun _ => Le.refl) _ _ _ _ _ _ _ _ h)
def qVC_unload_13 (d mc ms : Nat) (B : Nat → Pd) (K : Ps) : Pd := (i_ald 0 (i_getr 11 0 (i_getr 1 6 (i_ild 1 (i_aald (i_ast 2 (i_ald 2 (i_call 0 7 yShip_bales cShip_bales 1 (some .int) mc ms d 1 (i_ist 3 (i_ald 2 (i_ald 0 (i_getr 11 0 (i_getr 1 5 (i_ci 0 (i_aald (i_getr 5 1 (i_call 0 7 yShip_discharge cShip_discharge 3 none mc ms d 2 (i_ald 0 (i_getr 11 0 (i_getr 1 8 (i_ci 1 (i_ci 6 (i_ald 2 (i_geti 7 5 (i_call 0 0 yBooks_enter cBooks_enter 4 none mc ms d 4 (i_ald 2 (i_ci 0 (i_puti 7 5 (i_ild 3 (i_iret mc ms K))))))))))))))))))))))))))))))
theorem zVC_unload_13 {d mc ms : Nat} {B : Nat → Pd} {K : Ps} (hB : ∀ pc, Le (B pc) (G cVC_unload "VoyageCompany" 4 (some .int) "unload" (rm (d + 1) mc ms) (QM mc ms K) pc)) : Le (qVC_unload_13 d mc ms B K) (G cVC_unload "VoyageCompany" 4 (some .int) "unload" (rm (d + 1) mc ms) (QM mc ms K) 13) := by
  unfold qVC_unload_13
  exact (s_ald_n (j := 0) (by decide +kernel) rfl (s_getr (idx := 10) (by decide +kernel) fl11_10 (by decide) (s_getr (idx := 100) (by decide +kernel) fl11_100 (by decide) (s_ild_n (j := 1) (by decide +kernel) rfl (s_aald (by decide +kernel) (s_ast_n (j := 2) (by decide +kernel) rfl (by decide) (s_ald_n (j := 2) (by decide +kernel) rfl (s_call (idx := 174) (by decide +kernel) ml11_174 rmk (s_ist_n (j := 3) (by decide +kernel) rfl (by decide) (s_ald_n (j := 2) (by decide +kernel) rfl (s_ald_n (j := 0) (by decide +kernel) rfl (s_getr (idx := 10) (by decide +kernel) fl11_10 (by decide) (s_getr (idx := 59) (by decide +kernel) fl11_59 (by decide) (s_iconst (n := 0) (v := 0) (by decide +kernel) (by decide +kernel) (s_aald (by decide +kernel) (s_getr (idx := 144) (by decide +kernel) fl11_144 (by decide) (s_call (idx := 177) (by decide +kernel) ml11_177 rmk (s_ald_n (j := 0) (by decide +kernel) rfl (s_getr (idx := 10) (by decide +kernel) fl11_10 (by decide) (s_getr (idx := 147) (by decide +kernel) fl11_147 (by decide) (s_iconst (n := 1) (v := 1) (by decide +kernel) (by decide +kernel) (s_bipush (n := 6) (v := 6) (by decide +kernel) (by decide +kernel) (s_ald_n (j := 2) (by decide +kernel) rfl (s_geti (idx := 181) (by decide +kernel) fl11_181 (by decide) (s_call (idx := 151) (by decide +kernel) ml11_151 rmk (s_ald_n (j := 2) (by decide +kernel) rfl (s_iconst (n := 0) (v := 0) (by decide +kernel) (by decide +kernel) (s_puti (idx := 181) (by decide +kernel) fl11_181 (by decide) (by decide) (Or.inl (by decide +kernel)) (s_ild_n (j := 3) (by decide +kernel) rfl (s_iret (by decide +kernel) rfl))))))))))))))))))))))))))))))
def qVC_unload_11 (d mc ms : Nat) (B : Nat → Pd) (K : Ps) : Pd := (i_ci (-1) (i_iret mc ms K))
theorem zVC_unload_11 {d mc ms : Nat} {B : Nat → Pd} {K : Ps} (hB : ∀ pc, Le (B pc) (G cVC_unload "VoyageCompany" 4 (some .int) "unload" (rm (d + 1) mc ms) (QM mc ms K) pc)) : Le (qVC_unload_11 d mc ms B K) (G cVC_unload "VoyageCompany" 4 (some .int) "unload" (rm (d + 1) mc ms) (QM mc ms K) 11) := by
  unfold qVC_unload_11
  exact (s_iconst (n := (-1)) (v := (-1)) (by decide +kernel) (by decide +kernel) (s_iret (by decide +kernel) rfl))
def qVC_unload_0 (d mc ms : Nat) (B : Nat → Pd) (K : Ps) : Pd := (i_ald 0 (i_getr 11 0 (i_ild 1 (i_call 0 1 yCompany_isShipAtHome cCompany_isShipAtHome 2 (some .boolean) mc ms d 2 (i_if_ne (qVC_unload_13 d mc ms B K) (qVC_unload_11 d mc ms B K))))))
theorem zVC_unload_0 {d mc ms : Nat} {B : Nat → Pd} {K : Ps} (hB : ∀ pc, Le (B pc) (G cVC_unload "VoyageCompany" 4 (some .int) "unload" (rm (d + 1) mc ms) (QM mc ms K) pc)) : Le (qVC_unload_0 d mc ms B K) (G cVC_unload "VoyageCompany" 4 (some .int) "unload" (rm (d + 1) mc ms) (QM mc ms K) 0) := by
  unfold qVC_unload_0
  exact (s_ald_n (j := 0) (by decide +kernel) rfl (s_getr (idx := 10) (by decide +kernel) fl11_10 (by decide) (s_ild_n (j := 1) (by decide +kernel) rfl (s_call (idx := 157) (by decide +kernel) ml11_157 rmk (s_if_ne (off := 5) (tgt := 13) (by decide +kernel) (by decide) (zVC_unload_13 hB) (zVC_unload_11 hB))))))
/-- VoyageCompany.unload(I)I, at its places -/
def gVC_unload (d mc ms : Nat) (K : Ps) : Nat → Pd := G cVC_unload "VoyageCompany" 4 (some .int) "unload" (rm (d + 1) mc ms) (QM mc ms K)
theorem eVC_unload {d mc ms : Nat} {K : Ps} {av : List Value} {E : Nat → Prop} {R : Nat → Nat → Value} {I : Nat → Nat → Int32} {J : Nat → Nat → Int64} (hn : (lg_sl av).length ≤ 4) (h : qVC_unload_0 d mc ms (gVC_unload d mc ms K) K (lv_args 0 av) [] E R I J 0 0) : CL yVC_unload cVC_unload 4 (some .int) (d + 1) mc ms av E R I J K :=
  CL.of (by decide +kernel) hn (zVC_unload_0 (fun _ => Le.refl) _ _ _ _ _ _ _ _ h)
def qVC_sail_32 (d mc ms : Nat) (B : Nat → Pd) (K : Ps) : Pd := (i_ald 0 (i_getr 11 0 (i_getr 1 6 (i_ild 1 (i_aald (i_ast 3 (i_ald 3 (i_ild 2 (i_ald 0 (i_getr 11 0 (i_geti 1 0 (i_call 0 7 yShip_leaveFor cShip_leaveFor 3 none mc ms d 3 (i_ald 3 (i_geti 7 8 (i_iret mc ms K)))))))))))))))
theorem zVC_sail_32 {d mc ms : Nat} {B : Nat → Pd} {K : Ps} (hB : ∀ pc, Le (B pc) (G cVC_sail "VoyageCompany" 4 (some .int) "sail" (rm (d + 1) mc ms) (QM mc ms K) pc)) : Le (qVC_sail_32 d mc ms B K) (G cVC_sail "VoyageCompany" 4 (some .int) "sail" (rm (d + 1) mc ms) (QM mc ms K) 32) := by
  unfold qVC_sail_32
  exact (s_ald_n (j := 0) (by decide +kernel) rfl (s_getr (idx := 10) (by decide +kernel) fl11_10 (by decide) (s_getr (idx := 100) (by decide +kernel) fl11_100 (by decide) (s_ild_n (j := 1) (by decide +kernel) rfl (s_aald (by decide +kernel) (s_ast_n (j := 3) (by decide +kernel) rfl (by decide) (s_ald_n (j := 3) (by decide +kernel) rfl (s_ild_n (j := 2) (by decide +kernel) rfl (s_ald_n (j := 0) (by decide +kernel) rfl (s_getr (idx := 10) (by decide +kernel) fl11_10 (by decide) (s_geti (idx := 118) (by decide +kernel) fl11_118 (by decide) (s_call (idx := 187) (by decide +kernel) ml11_187 rmk (s_ald_n (j := 3) (by decide +kernel) rfl (s_geti (idx := 191) (by decide +kernel) fl11_191 (by decide) (s_iret (by decide +kernel) rfl)))))))))))))))
def qVC_sail_30 (d mc ms : Nat) (B : Nat → Pd) (K : Ps) : Pd := (i_ci (-1) (i_iret mc ms K))
theorem zVC_sail_30 {d mc ms : Nat} {B : Nat → Pd} {K : Ps} (hB : ∀ pc, Le (B pc) (G cVC_sail "VoyageCompany" 4 (some .int) "sail" (rm (d + 1) mc ms) (QM mc ms K) pc)) : Le (qVC_sail_30 d mc ms B K) (G cVC_sail "VoyageCompany" 4 (some .int) "sail" (rm (d + 1) mc ms) (QM mc ms K) 30) := by
  unfold qVC_sail_30
  exact (s_iconst (n := (-1)) (v := (-1)) (by decide +kernel) (by decide +kernel) (s_iret (by decide +kernel) rfl))
def qVC_sail_18 (d mc ms : Nat) (B : Nat → Pd) (K : Ps) : Pd := (i_ald 0 (i_getr 11 0 (i_ci 0 (i_ild 2 (i_call 0 1 yCompany_windsAllow cCompany_windsAllow 5 (some .boolean) mc ms d 3 (i_if_ne (qVC_sail_32 d mc ms B K) (qVC_sail_30 d mc ms B K)))))))
theorem zVC_sail_18 {d mc ms : Nat} {B : Nat → Pd} {K : Ps} (hB : ∀ pc, Le (B pc) (G cVC_sail "VoyageCompany" 4 (some .int) "sail" (rm (d + 1) mc ms) (QM mc ms K) pc)) : Le (qVC_sail_18 d mc ms B K) (G cVC_sail "VoyageCompany" 4 (some .int) "sail" (rm (d + 1) mc ms) (QM mc ms K) 18) := by
  unfold qVC_sail_18
  exact (s_ald_n (j := 0) (by decide +kernel) rfl (s_getr (idx := 10) (by decide +kernel) fl11_10 (by decide) (s_iconst (n := 0) (v := 0) (by decide +kernel) (by decide +kernel) (s_ild_n (j := 2) (by decide +kernel) rfl (s_call (idx := 184) (by decide +kernel) ml11_184 rmk (s_if_ne (off := 5) (tgt := 32) (by decide +kernel) (by decide) (zVC_sail_32 hB) (zVC_sail_30 hB)))))))
def qVC_sail_11 (d mc ms : Nat) (B : Nat → Pd) (K : Ps) : Pd := (i_ild 2 (i_call 2 11 yVC_isFarPort cVC_isFarPort 1 (some .boolean) mc ms d 1 (i_if_eq (qVC_sail_30 d mc ms B K) (qVC_sail_18 d mc ms B K))))
theorem zVC_sail_11 {d mc ms : Nat} {B : Nat → Pd} {K : Ps} (hB : ∀ pc, Le (B pc) (G cVC_sail "VoyageCompany" 4 (some .int) "sail" (rm (d + 1) mc ms) (QM mc ms K) pc)) : Le (qVC_sail_11 d mc ms B K) (G cVC_sail "VoyageCompany" 4 (some .int) "sail" (rm (d + 1) mc ms) (QM mc ms K) 11) := by
  unfold qVC_sail_11
  exact (s_ild_n (j := 2) (by decide +kernel) rfl (s_call (idx := 41) (by decide +kernel) ml11_41 rmk (s_if_eq (off := 15) (tgt := 30) (by decide +kernel) (by decide) (zVC_sail_30 hB) (zVC_sail_18 hB))))
def qVC_sail_0 (d mc ms : Nat) (B : Nat → Pd) (K : Ps) : Pd := (i_ald 0 (i_getr 11 0 (i_ild 1 (i_call 0 1 yCompany_isShipAtHome cCompany_isShipAtHome 2 (some .boolean) mc ms d 2 (i_if_eq (qVC_sail_30 d mc ms B K) (qVC_sail_11 d mc ms B K))))))
theorem zVC_sail_0 {d mc ms : Nat} {B : Nat → Pd} {K : Ps} (hB : ∀ pc, Le (B pc) (G cVC_sail "VoyageCompany" 4 (some .int) "sail" (rm (d + 1) mc ms) (QM mc ms K) pc)) : Le (qVC_sail_0 d mc ms B K) (G cVC_sail "VoyageCompany" 4 (some .int) "sail" (rm (d + 1) mc ms) (QM mc ms K) 0) := by
  unfold qVC_sail_0
  exact (s_ald_n (j := 0) (by decide +kernel) rfl (s_getr (idx := 10) (by decide +kernel) fl11_10 (by decide) (s_ild_n (j := 1) (by decide +kernel) rfl (s_call (idx := 157) (by decide +kernel) ml11_157 rmk (s_if_eq (off := 22) (tgt := 30) (by decide +kernel) (by decide) (zVC_sail_30 hB) (zVC_sail_11 hB))))))
/-- VoyageCompany.sail(II)I, at its places -/
def gVC_sail (d mc ms : Nat) (K : Ps) : Nat → Pd := G cVC_sail "VoyageCompany" 4 (some .int) "sail" (rm (d + 1) mc ms) (QM mc ms K)
theorem eVC_sail {d mc ms : Nat} {K : Ps} {av : List Value} {E : Nat → Prop} {R : Nat → Nat → Value} {I : Nat → Nat → Int32} {J : Nat → Nat → Int64} (hn : (lg_sl av).length ≤ 4) (h : qVC_sail_0 d mc ms (gVC_sail d mc ms K) K (lv_args 0 av) [] E R I J 0 0) : CL yVC_sail cVC_sail 4 (some .int) (d + 1) mc ms av E R I J K :=
  CL.of (by decide +kernel) hn (zVC_sail_0 (fun _ => Le.refl) _ _ _ _ _ _ _ _ h)
def qVC_months_48 (d mc ms : Nat) (B : Nat → Pd) (K : Ps) : Pd := (i_ald 0 (i_getr 11 0 (i_geti 1 0 (i_iret mc ms K))))
theorem zVC_months_48 {d mc ms : Nat} {B : Nat → Pd} {K : Ps} (hB : ∀ pc, Le (B pc) (G cVC_months "VoyageCompany" 3 (some .int) "months" (rm (d + 1) mc ms) (QM mc ms K) pc)) : Le (qVC_months_48 d mc ms B K) (G cVC_months "VoyageCompany" 3 (some .int) "months" (rm (d + 1) mc ms) (QM mc ms K) 48) := by
  unfold qVC_months_48
  exact (s_ald_n (j := 0) (by decide +kernel) rfl (s_getr (idx := 10) (by decide +kernel) fl11_10 (by decide) (s_geti (idx := 118) (by decide +kernel) fl11_118 (by decide) (s_iret (by decide +kernel) rfl))))
def qVC_months_35 (d mc ms : Nat) (B : Nat → Pd) (K : Ps) : Pd := (i_ald 0 (i_getr 11 0 (i_callA 0 1 yCompany_passMonth cCompany_passMonth 2 none mc ms d 1 (i_inc 2 1 (B 30)))))
theorem zVC_months_35 {d mc ms : Nat} {B : Nat → Pd} {K : Ps} (hB : ∀ pc, Le (B pc) (G cVC_months "VoyageCompany" 3 (some .int) "months" (rm (d + 1) mc ms) (QM mc ms K) pc)) : Le (qVC_months_35 d mc ms B K) (G cVC_months "VoyageCompany" 3 (some .int) "months" (rm (d + 1) mc ms) (QM mc ms K) 35) := by
  unfold qVC_months_35
  exact (s_ald_n (j := 0) (by decide +kernel) rfl (s_getr (idx := 10) (by decide +kernel) fl11_10 (by decide) (s_callA (idx := 194) (by decide +kernel) ml11_194 rmk (s_inc (z := 1) (by decide +kernel) (by decide +kernel) (by decide) (s_goto (off := (-15)) (tgt := 30) (by decide +kernel) (by decide) (hB 30))))))
def qVC_months_30 (d mc ms : Nat) (B : Nat → Pd) (K : Ps) : Pd := (i_ild 2 (i_ild 1 (i_ic_ge (qVC_months_48 d mc ms B K) (qVC_months_35 d mc ms B K))))
theorem zVC_months_30 {d mc ms : Nat} {B : Nat → Pd} {K : Ps} (hB : ∀ pc, Le (B pc) (G cVC_months "VoyageCompany" 3 (some .int) "months" (rm (d + 1) mc ms) (QM mc ms K) pc)) : Le (qVC_months_30 d mc ms B K) (G cVC_months "VoyageCompany" 3 (some .int) "months" (rm (d + 1) mc ms) (QM mc ms K) 30) := by
  unfold qVC_months_30
  exact (s_ild_n (j := 2) (by decide +kernel) rfl (s_ild_n (j := 1) (by decide +kernel) rfl (s_ic_ge (off := 16) (tgt := 48) (by decide +kernel) (by decide) (zVC_months_48 hB) (zVC_months_35 hB))))
def qVC_months_28 (d mc ms : Nat) (B : Nat → Pd) (K : Ps) : Pd := (i_ci 0 (i_ist 2 (B 30)))
theorem zVC_months_28 {d mc ms : Nat} {B : Nat → Pd} {K : Ps} (hB : ∀ pc, Le (B pc) (G cVC_months "VoyageCompany" 3 (some .int) "months" (rm (d + 1) mc ms) (QM mc ms K) pc)) : Le (qVC_months_28 d mc ms B K) (G cVC_months "VoyageCompany" 3 (some .int) "months" (rm (d + 1) mc ms) (QM mc ms K) 28) := by
  unfold qVC_months_28
  exact (s_iconst (n := 0) (v := 0) (by decide +kernel) (by decide +kernel) (s_ist_n (j := 2) (by decide +kernel) rfl (by decide) (hB 30)))
def qVC_months_26 (d mc ms : Nat) (B : Nat → Pd) (K : Ps) : Pd := (i_ci (-1) (i_iret mc ms K))
theorem zVC_months_26 {d mc ms : Nat} {B : Nat → Pd} {K : Ps} (hB : ∀ pc, Le (B pc) (G cVC_months "VoyageCompany" 3 (some .int) "months" (rm (d + 1) mc ms) (QM mc ms K) pc)) : Le (qVC_months_26 d mc ms B K) (G cVC_months "VoyageCompany" 3 (some .int) "months" (rm (d + 1) mc ms) (QM mc ms K) 26) := by
  unfold qVC_months_26
  exact (s_iconst (n := (-1)) (v := (-1)) (by decide +kernel) (by decide +kernel) (s_iret (by decide +kernel) rfl))
def qVC_months_11 (d mc ms : Nat) (B : Nat → Pd) (K : Ps) : Pd := (i_ald 0 (i_getr 11 0 (i_geti 1 0 (i_ild 1 (i_iadd (i_ci 600 (i_ic_le (qVC_months_28 d mc ms B K) (qVC_months_26 d mc ms B K))))))))
theorem zVC_months_11 {d mc ms : Nat} {B : Nat → Pd} {K : Ps} (hB : ∀ pc, Le (B pc) (G cVC_months "VoyageCompany" 3 (some .int) "months" (rm (d + 1) mc ms) (QM mc ms K) pc)) : Le (qVC_months_11 d mc ms B K) (G cVC_months "VoyageCompany" 3 (some .int) "months" (rm (d + 1) mc ms) (QM mc ms K) 11) := by
  unfold qVC_months_11
  exact (s_ald_n (j := 0) (by decide +kernel) rfl (s_getr (idx := 10) (by decide +kernel) fl11_10 (by decide) (s_geti (idx := 118) (by decide +kernel) fl11_118 (by decide) (s_ild_n (j := 1) (by decide +kernel) rfl (s_iadd (by decide +kernel) (s_sipush (n := 600) (v := 600) (by decide +kernel) (by decide +kernel) (s_ic_le (off := 5) (tgt := 28) (by decide +kernel) (by decide) (zVC_months_28 hB) (zVC_months_26 hB))))))))
def qVC_months_5 (d mc ms : Nat) (B : Nat → Pd) (K : Ps) : Pd := (i_ild 1 (i_ci 60 (i_ic_gt (qVC_months_26 d mc ms B K) (qVC_months_11 d mc ms B K))))
theorem zVC_months_5 {d mc ms : Nat} {B : Nat → Pd} {K : Ps} (hB : ∀ pc, Le (B pc) (G cVC_months "VoyageCompany" 3 (some .int) "months" (rm (d + 1) mc ms) (QM mc ms K) pc)) : Le (qVC_months_5 d mc ms B K) (G cVC_months "VoyageCompany" 3 (some .int) "months" (rm (d + 1) mc ms) (QM mc ms K) 5) := by
  unfold qVC_months_5
  exact (s_ild_n (j := 1) (by decide +kernel) rfl (s_bipush (n := 60) (v := 60) (by decide +kernel) (by decide +kernel) (s_ic_gt (off := 18) (tgt := 26) (by decide +kernel) (by decide) (zVC_months_26 hB) (zVC_months_11 hB))))
def qVC_months_0 (d mc ms : Nat) (B : Nat → Pd) (K : Ps) : Pd := (i_ild 1 (i_ci 1 (i_ic_lt (qVC_months_26 d mc ms B K) (qVC_months_5 d mc ms B K))))
theorem zVC_months_0 {d mc ms : Nat} {B : Nat → Pd} {K : Ps} (hB : ∀ pc, Le (B pc) (G cVC_months "VoyageCompany" 3 (some .int) "months" (rm (d + 1) mc ms) (QM mc ms K) pc)) : Le (qVC_months_0 d mc ms B K) (G cVC_months "VoyageCompany" 3 (some .int) "months" (rm (d + 1) mc ms) (QM mc ms K) 0) := by
  unfold qVC_months_0
  exact (s_ild_n (j := 1) (by decide +kernel) rfl (s_iconst (n := 1) (v := 1) (by decide +kernel) (by decide +kernel) (s_ic_lt (off := 24) (tgt := 26) (by decide +kernel) (by decide) (zVC_months_26 hB) (zVC_months_5 hB))))
/-- VoyageCompany.months(I)I, at its places -/
def gVC_months (d mc ms : Nat) (K : Ps) : Nat → Pd := G cVC_months "VoyageCompany" 3 (some .int) "months" (rm (d + 1) mc ms) (QM mc ms K)
theorem eVC_months {d mc ms : Nat} {K : Ps} {av : List Value} {E : Nat → Prop} {R : Nat → Nat → Value} {I : Nat → Nat → Int32} {J : Nat → Nat → Int64} (hn : (lg_sl av).length ≤ 3) (h : qVC_months_0 d mc ms (gVC_months d mc ms K) K (lv_args 0 av) [] E R I J 0 0) : CL yVC_months cVC_months 3 (some .int) (d + 1) mc ms av E R I J K :=
  CL.of (by decide +kernel) hn (zVC_months_0 (fun _ => Le.refl) _ _ _ _ _ _ _ _ h)
theorem lVC_months_30 {d mc ms : Nat} {K : Ps} : Le (qVC_months_30 d mc ms (gVC_months d mc ms K) K) (gVC_months d mc ms K 30) := zVC_months_30 (fun _ => Le.refl)
def qVC_store_32 (d mc ms : Nat) (B : Nat → Pd) (K : Ps) : Pd := (i_iret mc ms K)
theorem zVC_store_32 {d mc ms : Nat} {B : Nat → Pd} {K : Ps} (hB : ∀ pc, Le (B pc) (G cVC_store "VoyageCompany" 3 (some .int) "store" (rm (d + 1) mc ms) (QM mc ms K) pc)) : Le (qVC_store_32 d mc ms B K) (G cVC_store "VoyageCompany" 3 (some .int) "store" (rm (d + 1) mc ms) (QM mc ms K) 32) := by
  unfold qVC_store_32
  exact (s_iret (by decide +kernel) rfl)
def qVC_store_31 (d mc ms : Nat) (B : Nat → Pd) (K : Ps) : Pd := (i_ci (-1) (qVC_store_32 d mc ms B K))
theorem zVC_store_31 {d mc ms : Nat} {B : Nat → Pd} {K : Ps} (hB : ∀ pc, Le (B pc) (G cVC_store "VoyageCompany" 3 (some .int) "store" (rm (d + 1) mc ms) (QM mc ms K) pc)) : Le (qVC_store_31 d mc ms B K) (G cVC_store "VoyageCompany" 3 (some .int) "store" (rm (d + 1) mc ms) (QM mc ms K) 31) := by
  unfold qVC_store_31
  exact (s_iconst (n := (-1)) (v := (-1)) (by decide +kernel) (by decide +kernel) (zVC_store_32 hB))
def qVC_store_14 (d mc ms : Nat) (B : Nat → Pd) (K : Ps) : Pd := (i_ald 0 (i_getr 11 0 (i_getr 1 5 (i_ild 1 (i_aald (i_getr 5 1 (i_ild 2 (i_iald (qVC_store_32 d mc ms B K)))))))))
theorem zVC_store_14 {d mc ms : Nat} {B : Nat → Pd} {K : Ps} (hB : ∀ pc, Le (B pc) (G cVC_store "VoyageCompany" 3 (some .int) "store" (rm (d + 1) mc ms) (QM mc ms K) pc)) : Le (qVC_store_14 d mc ms B K) (G cVC_store "VoyageCompany" 3 (some .int) "store" (rm (d + 1) mc ms) (QM mc ms K) 14) := by
  unfold qVC_store_14
  exact (s_ald_n (j := 0) (by decide +kernel) rfl (s_getr (idx := 10) (by decide +kernel) fl11_10 (by decide) (s_getr (idx := 59) (by decide +kernel) fl11_59 (by decide) (s_ild_n (j := 1) (by decide +kernel) rfl (s_aald (by decide +kernel) (s_getr (idx := 144) (by decide +kernel) fl11_144 (by decide) (s_ild_n (j := 2) (by decide +kernel) rfl (s_iald (by decide +kernel) (s_goto (off := 4) (tgt := 32) (by decide +kernel) (by decide) (zVC_store_32 hB))))))))))
def qVC_store_7 (d mc ms : Nat) (B : Nat → Pd) (K : Ps) : Pd := (i_ild 2 (i_call 2 11 yVC_isGood cVC_isGood 1 (some .boolean) mc ms d 1 (i_if_eq (qVC_store_31 d mc ms B K) (qVC_store_14 d mc ms B K))))
theorem zVC_store_7 {d mc ms : Nat} {B : Nat → Pd} {K : Ps} (hB : ∀ pc, Le (B pc) (G cVC_store "VoyageCompany" 3 (some .int) "store" (rm (d + 1) mc ms) (QM mc ms K) pc)) : Le (qVC_store_7 d mc ms B K) (G cVC_store "VoyageCompany" 3 (some .int) "store" (rm (d + 1) mc ms) (QM mc ms K) 7) := by
  unfold qVC_store_7
  exact (s_ild_n (j := 2) (by decide +kernel) rfl (s_call (idx := 160) (by decide +kernel) ml11_160 rmk (s_if_eq (off := 20) (tgt := 31) (by decide +kernel) (by decide) (zVC_store_31 hB) (zVC_store_14 hB))))
def qVC_store_0 (d mc ms : Nat) (B : Nat → Pd) (K : Ps) : Pd := (i_ild 1 (i_call 2 11 yVC_isPort cVC_isPort 1 (some .boolean) mc ms d 1 (i_if_eq (qVC_store_31 d mc ms B K) (qVC_store_7 d mc ms B K))))
theorem zVC_store_0 {d mc ms : Nat} {B : Nat → Pd} {K : Ps} (hB : ∀ pc, Le (B pc) (G cVC_store "VoyageCompany" 3 (some .int) "store" (rm (d + 1) mc ms) (QM mc ms K) pc)) : Le (qVC_store_0 d mc ms B K) (G cVC_store "VoyageCompany" 3 (some .int) "store" (rm (d + 1) mc ms) (QM mc ms K) 0) := by
  unfold qVC_store_0
  exact (s_ild_n (j := 1) (by decide +kernel) rfl (s_call (idx := 197) (by decide +kernel) ml11_197 rmk (s_if_eq (off := 27) (tgt := 31) (by decide +kernel) (by decide) (zVC_store_31 hB) (zVC_store_7 hB))))
/-- VoyageCompany.store(II)I, at its places -/
def gVC_store (d mc ms : Nat) (K : Ps) : Nat → Pd := G cVC_store "VoyageCompany" 3 (some .int) "store" (rm (d + 1) mc ms) (QM mc ms K)
theorem eVC_store {d mc ms : Nat} {K : Ps} {av : List Value} {E : Nat → Prop} {R : Nat → Nat → Value} {I : Nat → Nat → Int32} {J : Nat → Nat → Int64} (hn : (lg_sl av).length ≤ 3) (h : qVC_store_0 d mc ms (gVC_store d mc ms K) K (lv_args 0 av) [] E R I J 0 0) : CL yVC_store cVC_store 3 (some .int) (d + 1) mc ms av E R I J K :=
  CL.of (by decide +kernel) hn (zVC_store_0 (fun _ => Le.refl) _ _ _ _ _ _ _ _ h)
def qVC_price_29 (d mc ms : Nat) (B : Nat → Pd) (K : Ps) : Pd := (i_iret mc ms K)
theorem zVC_price_29 {d mc ms : Nat} {B : Nat → Pd} {K : Ps} (hB : ∀ pc, Le (B pc) (G cVC_price "VoyageCompany" 3 (some .int) "price" (rm (d + 1) mc ms) (QM mc ms K) pc)) : Le (qVC_price_29 d mc ms B K) (G cVC_price "VoyageCompany" 3 (some .int) "price" (rm (d + 1) mc ms) (QM mc ms K) 29) := by
  unfold qVC_price_29
  exact (s_iret (by decide +kernel) rfl)
def qVC_price_28 (d mc ms : Nat) (B : Nat → Pd) (K : Ps) : Pd := (i_ci (-1) (qVC_price_29 d mc ms B K))
theorem zVC_price_28 {d mc ms : Nat} {B : Nat → Pd} {K : Ps} (hB : ∀ pc, Le (B pc) (G cVC_price "VoyageCompany" 3 (some .int) "price" (rm (d + 1) mc ms) (QM mc ms K) pc)) : Le (qVC_price_28 d mc ms B K) (G cVC_price "VoyageCompany" 3 (some .int) "price" (rm (d + 1) mc ms) (QM mc ms K) 28) := by
  unfold qVC_price_28
  exact (s_iconst (n := (-1)) (v := (-1)) (by decide +kernel) (by decide +kernel) (zVC_price_29 hB))
def qVC_price_8 (d mc ms : Nat) (B : Nat → Pd) (K : Ps) : Pd := (i_ald 0 (i_getr 11 0 (i_getr 1 5 (i_ild 1 (i_aald (i_getr 5 2 (i_ild 2 (i_aald (i_geti 2 1 (qVC_price_29 d mc ms B K))))))))))
theorem zVC_price_8 {d mc ms : Nat} {B : Nat → Pd} {K : Ps} (hB : ∀ pc, Le (B pc) (G cVC_price "VoyageCompany" 3 (some .int) "price" (rm (d + 1) mc ms) (QM mc ms K) pc)) : Le (qVC_price_8 d mc ms B K) (G cVC_price "VoyageCompany" 3 (some .int) "price" (rm (d + 1) mc ms) (QM mc ms K) 8) := by
  unfold qVC_price_8
  exact (s_ald_n (j := 0) (by decide +kernel) rfl (s_getr (idx := 10) (by decide +kernel) fl11_10 (by decide) (s_getr (idx := 59) (by decide +kernel) fl11_59 (by decide) (s_ild_n (j := 1) (by decide +kernel) rfl (s_aald (by decide +kernel) (s_getr (idx := 85) (by decide +kernel) fl11_85 (by decide) (s_ild_n (j := 2) (by decide +kernel) rfl (s_aald (by decide +kernel) (s_geti (idx := 94) (by decide +kernel) fl11_94 (by decide) (s_goto (off := 4) (tgt := 29) (by decide +kernel) (by decide) (zVC_price_29 hB)))))))))))
def qVC_price_0 (d mc ms : Nat) (B : Nat → Pd) (K : Ps) : Pd := (i_ild 1 (i_ild 2 (i_call 2 11 yVC_isMarket cVC_isMarket 2 (some .boolean) mc ms d 2 (i_if_eq (qVC_price_28 d mc ms B K) (qVC_price_8 d mc ms B K)))))
theorem zVC_price_0 {d mc ms : Nat} {B : Nat → Pd} {K : Ps} (hB : ∀ pc, Le (B pc) (G cVC_price "VoyageCompany" 3 (some .int) "price" (rm (d + 1) mc ms) (QM mc ms K) pc)) : Le (qVC_price_0 d mc ms B K) (G cVC_price "VoyageCompany" 3 (some .int) "price" (rm (d + 1) mc ms) (QM mc ms K) 0) := by
  unfold qVC_price_0
  exact (s_ild_n (j := 1) (by decide +kernel) rfl (s_ild_n (j := 2) (by decide +kernel) rfl (s_call (idx := 81) (by decide +kernel) ml11_81 rmk (s_if_eq (off := 23) (tgt := 28) (by decide +kernel) (by decide) (zVC_price_28 hB) (zVC_price_8 hB)))))
/-- VoyageCompany.price(II)I, at its places -/
def gVC_price (d mc ms : Nat) (K : Ps) : Nat → Pd := G cVC_price "VoyageCompany" 3 (some .int) "price" (rm (d + 1) mc ms) (QM mc ms K)
theorem eVC_price {d mc ms : Nat} {K : Ps} {av : List Value} {E : Nat → Prop} {R : Nat → Nat → Value} {I : Nat → Nat → Int32} {J : Nat → Nat → Int64} (hn : (lg_sl av).length ≤ 3) (h : qVC_price_0 d mc ms (gVC_price d mc ms K) K (lv_args 0 av) [] E R I J 0 0) : CL yVC_price cVC_price 3 (some .int) (d + 1) mc ms av E R I J K :=
  CL.of (by decide +kernel) hn (zVC_price_0 (fun _ => Le.refl) _ _ _ _ _ _ _ _ h)
def qVC_tell_174 (d mc ms : Nat) (B : Nat → Pd) (K : Ps) : Pd := (i_ci (-9) (i_iret mc ms K))
theorem zVC_tell_174 {d mc ms : Nat} {B : Nat → Pd} {K : Ps} (hB : ∀ pc, Le (B pc) (G cVC_tell "VoyageCompany" 5 (some .int) "tell" (rm (d + 1) mc ms) (QM mc ms K) pc)) : Le (qVC_tell_174 d mc ms B K) (G cVC_tell "VoyageCompany" 5 (some .int) "tell" (rm (d + 1) mc ms) (QM mc ms K) 174) := by
  unfold qVC_tell_174
  exact (s_bipush (n := (-9)) (v := (-9)) (by decide +kernel) (by decide +kernel) (s_iret (by decide +kernel) rfl))
def qVC_tell_164 (d mc ms : Nat) (B : Nat → Pd) (K : Ps) : Pd := (i_ald 3 (i_getr 7 4 (i_ild 2 (i_ci 10 (i_isub (i_iald (i_iret mc ms K)))))))
theorem zVC_tell_164 {d mc ms : Nat} {B : Nat → Pd} {K : Ps} (hB : ∀ pc, Le (B pc) (G cVC_tell "VoyageCompany" 5 (some .int) "tell" (rm (d + 1) mc ms) (QM mc ms K) pc)) : Le (qVC_tell_164 d mc ms B K) (G cVC_tell "VoyageCompany" 5 (some .int) "tell" (rm (d + 1) mc ms) (QM mc ms K) 164) := by
  unfold qVC_tell_164
  exact (s_ald_n (j := 3) (by decide +kernel) rfl (s_getr (idx := 171) (by decide +kernel) fl11_171 (by decide) (s_ild_n (j := 2) (by decide +kernel) rfl (s_bipush (n := 10) (v := 10) (by decide +kernel) (by decide +kernel) (s_isub (by decide +kernel) (s_iald (by decide +kernel) (s_iret (by decide +kernel) rfl)))))))
def qVC_tell_159 (d mc ms : Nat) (B : Nat → Pd) (K : Ps) : Pd := (i_ald 3 (i_geti 7 10 (i_iret mc ms K)))
theorem zVC_tell_159 {d mc ms : Nat} {B : Nat → Pd} {K : Ps} (hB : ∀ pc, Le (B pc) (G cVC_tell "VoyageCompany" 5 (some .int) "tell" (rm (d + 1) mc ms) (QM mc ms K) pc)) : Le (qVC_tell_159 d mc ms B K) (G cVC_tell "VoyageCompany" 5 (some .int) "tell" (rm (d + 1) mc ms) (QM mc ms K) 159) := by
  unfold qVC_tell_159
  exact (s_ald_n (j := 3) (by decide +kernel) rfl (s_geti (idx := 204) (by decide +kernel) fl11_204 (by decide) (s_iret (by decide +kernel) rfl)))
def qVC_tell_154 (d mc ms : Nat) (B : Nat → Pd) (K : Ps) : Pd := (i_ald 3 (i_geti 7 5 (i_iret mc ms K)))
theorem zVC_tell_154 {d mc ms : Nat} {B : Nat → Pd} {K : Ps} (hB : ∀ pc, Le (B pc) (G cVC_tell "VoyageCompany" 5 (some .int) "tell" (rm (d + 1) mc ms) (QM mc ms K) pc)) : Le (qVC_tell_154 d mc ms B K) (G cVC_tell "VoyageCompany" 5 (some .int) "tell" (rm (d + 1) mc ms) (QM mc ms K) 154) := by
  unfold qVC_tell_154
  exact (s_ald_n (j := 3) (by decide +kernel) rfl (s_geti (idx := 181) (by decide +kernel) fl11_181 (by decide) (s_iret (by decide +kernel) rfl)))
def qVC_tell_149 (d mc ms : Nat) (B : Nat → Pd) (K : Ps) : Pd := (i_ald 3 (i_call 0 7 yShip_room cShip_room 3 (some .int) mc ms d 1 (i_iret mc ms K)))
theorem zVC_tell_149 {d mc ms : Nat} {B : Nat → Pd} {K : Ps} (hB : ∀ pc, Le (B pc) (G cVC_tell "VoyageCompany" 5 (some .int) "tell" (rm (d + 1) mc ms) (QM mc ms K) pc)) : Le (qVC_tell_149 d mc ms B K) (G cVC_tell "VoyageCompany" 5 (some .int) "tell" (rm (d + 1) mc ms) (QM mc ms K) 149) := by
  unfold qVC_tell_149
  exact (s_ald_n (j := 3) (by decide +kernel) rfl (s_call (idx := 167) (by decide +kernel) ml11_167 rmk (s_iret (by decide +kernel) rfl)))
def qVC_tell_148 (d mc ms : Nat) (B : Nat → Pd) (K : Ps) : Pd := (i_iret mc ms K)
theorem zVC_tell_148 {d mc ms : Nat} {B : Nat → Pd} {K : Ps} (hB : ∀ pc, Le (B pc) (G cVC_tell "VoyageCompany" 5 (some .int) "tell" (rm (d + 1) mc ms) (QM mc ms K) pc)) : Le (qVC_tell_148 d mc ms B K) (G cVC_tell "VoyageCompany" 5 (some .int) "tell" (rm (d + 1) mc ms) (QM mc ms K) 148) := by
  unfold qVC_tell_148
  exact (s_iret (by decide +kernel) rfl)
def qVC_tell_147 (d mc ms : Nat) (B : Nat → Pd) (K : Ps) : Pd := (i_ci (-1) (qVC_tell_148 d mc ms B K))
theorem zVC_tell_147 {d mc ms : Nat} {B : Nat → Pd} {K : Ps} (hB : ∀ pc, Le (B pc) (G cVC_tell "VoyageCompany" 5 (some .int) "tell" (rm (d + 1) mc ms) (QM mc ms K) pc)) : Le (qVC_tell_147 d mc ms B K) (G cVC_tell "VoyageCompany" 5 (some .int) "tell" (rm (d + 1) mc ms) (QM mc ms K) 147) := by
  unfold qVC_tell_147
  exact (s_iconst (n := (-1)) (v := (-1)) (by decide +kernel) (by decide +kernel) (zVC_tell_148 hB))
def qVC_tell_140 (d mc ms : Nat) (B : Nat → Pd) (K : Ps) : Pd := (i_ald 3 (i_geti 7 8 (qVC_tell_148 d mc ms B K)))
theorem zVC_tell_140 {d mc ms : Nat} {B : Nat → Pd} {K : Ps} (hB : ∀ pc, Le (B pc) (G cVC_tell "VoyageCompany" 5 (some .int) "tell" (rm (d + 1) mc ms) (QM mc ms K) pc)) : Le (qVC_tell_140 d mc ms B K) (G cVC_tell "VoyageCompany" 5 (some .int) "tell" (rm (d + 1) mc ms) (QM mc ms K) 140) := by
  unfold qVC_tell_140
  exact (s_ald_n (j := 3) (by decide +kernel) rfl (s_geti (idx := 191) (by decide +kernel) fl11_191 (by decide) (s_goto (off := 4) (tgt := 148) (by decide +kernel) (by decide) (zVC_tell_148 hB))))
def qVC_tell_135 (d mc ms : Nat) (B : Nat → Pd) (K : Ps) : Pd := (i_ild 4 (i_if_eq (qVC_tell_147 d mc ms B K) (qVC_tell_140 d mc ms B K)))
theorem zVC_tell_135 {d mc ms : Nat} {B : Nat → Pd} {K : Ps} (hB : ∀ pc, Le (B pc) (G cVC_tell "VoyageCompany" 5 (some .int) "tell" (rm (d + 1) mc ms) (QM mc ms K) pc)) : Le (qVC_tell_135 d mc ms B K) (G cVC_tell "VoyageCompany" 5 (some .int) "tell" (rm (d + 1) mc ms) (QM mc ms K) 135) := by
  unfold qVC_tell_135
  exact (s_ild (by decide +kernel) (s_if_eq (off := 10) (tgt := 147) (by decide +kernel) (by decide) (zVC_tell_147 hB) (zVC_tell_140 hB)))
def qVC_tell_134 (d mc ms : Nat) (B : Nat → Pd) (K : Ps) : Pd := (i_iret mc ms K)
theorem zVC_tell_134 {d mc ms : Nat} {B : Nat → Pd} {K : Ps} (hB : ∀ pc, Le (B pc) (G cVC_tell "VoyageCompany" 5 (some .int) "tell" (rm (d + 1) mc ms) (QM mc ms K) pc)) : Le (qVC_tell_134 d mc ms B K) (G cVC_tell "VoyageCompany" 5 (some .int) "tell" (rm (d + 1) mc ms) (QM mc ms K) 134) := by
  unfold qVC_tell_134
  exact (s_iret (by decide +kernel) rfl)
def qVC_tell_133 (d mc ms : Nat) (B : Nat → Pd) (K : Ps) : Pd := (i_ci (-1) (qVC_tell_134 d mc ms B K))
theorem zVC_tell_133 {d mc ms : Nat} {B : Nat → Pd} {K : Ps} (hB : ∀ pc, Le (B pc) (G cVC_tell "VoyageCompany" 5 (some .int) "tell" (rm (d + 1) mc ms) (QM mc ms K) pc)) : Le (qVC_tell_133 d mc ms B K) (G cVC_tell "VoyageCompany" 5 (some .int) "tell" (rm (d + 1) mc ms) (QM mc ms K) 133) := by
  unfold qVC_tell_133
  exact (s_iconst (n := (-1)) (v := (-1)) (by decide +kernel) (by decide +kernel) (zVC_tell_134 hB))
def qVC_tell_126 (d mc ms : Nat) (B : Nat → Pd) (K : Ps) : Pd := (i_ald 3 (i_geti 7 7 (qVC_tell_134 d mc ms B K)))
theorem zVC_tell_126 {d mc ms : Nat} {B : Nat → Pd} {K : Ps} (hB : ∀ pc, Le (B pc) (G cVC_tell "VoyageCompany" 5 (some .int) "tell" (rm (d + 1) mc ms) (QM mc ms K) pc)) : Le (qVC_tell_126 d mc ms B K) (G cVC_tell "VoyageCompany" 5 (some .int) "tell" (rm (d + 1) mc ms) (QM mc ms K) 126) := by
  unfold qVC_tell_126
  exact (s_ald_n (j := 3) (by decide +kernel) rfl (s_geti (idx := 201) (by decide +kernel) fl11_201 (by decide) (s_goto (off := 4) (tgt := 134) (by decide +kernel) (by decide) (zVC_tell_134 hB))))
def qVC_tell_121 (d mc ms : Nat) (B : Nat → Pd) (K : Ps) : Pd := (i_ild 4 (i_if_eq (qVC_tell_133 d mc ms B K) (qVC_tell_126 d mc ms B K)))
theorem zVC_tell_121 {d mc ms : Nat} {B : Nat → Pd} {K : Ps} (hB : ∀ pc, Le (B pc) (G cVC_tell "VoyageCompany" 5 (some .int) "tell" (rm (d + 1) mc ms) (QM mc ms K) pc)) : Le (qVC_tell_121 d mc ms B K) (G cVC_tell "VoyageCompany" 5 (some .int) "tell" (rm (d + 1) mc ms) (QM mc ms K) 121) := by
  unfold qVC_tell_121
  exact (s_ild (by decide +kernel) (s_if_eq (off := 10) (tgt := 133) (by decide +kernel) (by decide) (zVC_tell_133 hB) (zVC_tell_126 hB)))
def qVC_tell_116 (d mc ms : Nat) (B : Nat → Pd) (K : Ps) : Pd := (i_ald 3 (i_geti 7 6 (i_iret mc ms K)))
theorem zVC_tell_116 {d mc ms : Nat} {B : Nat → Pd} {K : Ps} (hB : ∀ pc, Le (B pc) (G cVC_tell "VoyageCompany" 5 (some .int) "tell" (rm (d + 1) mc ms) (QM mc ms K) pc)) : Le (qVC_tell_116 d mc ms B K) (G cVC_tell "VoyageCompany" 5 (some .int) "tell" (rm (d + 1) mc ms) (QM mc ms K) 116) := by
  unfold qVC_tell_116
  exact (s_ald_n (j := 3) (by decide +kernel) rfl (s_geti (idx := 200) (by decide +kernel) fl11_200 (by decide) (s_iret (by decide +kernel) rfl)))
def qVC_tell_41 (d mc ms : Nat) (B : Nat → Pd) (K : Ps) : Pd := (i_ist 4 (i_ild 2 (i_sw [(0, (qVC_tell_116 d mc ms B K)), (1, (qVC_tell_121 d mc ms B K)), (2, (qVC_tell_135 d mc ms B K)), (3, (qVC_tell_149 d mc ms B K)), (4, (qVC_tell_154 d mc ms B K)), (5, (qVC_tell_159 d mc ms B K)), (6, (qVC_tell_174 d mc ms B K)), (7, (qVC_tell_174 d mc ms B K)), (8, (qVC_tell_174 d mc ms B K)), (9, (qVC_tell_174 d mc ms B K)), (10, (qVC_tell_164 d mc ms B K)), (11, (qVC_tell_164 d mc ms B K)), (12, (qVC_tell_164 d mc ms B K)), (13, (qVC_tell_164 d mc ms B K))] (qVC_tell_174 d mc ms B K))))
theorem zVC_tell_41 {d mc ms : Nat} {B : Nat → Pd} {K : Ps} (hB : ∀ pc, Le (B pc) (G cVC_tell "VoyageCompany" 5 (some .int) "tell" (rm (d + 1) mc ms) (QM mc ms K) pc)) : Le (qVC_tell_41 d mc ms B K) (G cVC_tell "VoyageCompany" 5 (some .int) "tell" (rm (d + 1) mc ms) (QM mc ms K) 41) := by
  unfold qVC_tell_41
  exact (s_ist (by decide +kernel) (by decide) (s_ild_n (j := 2) (by decide +kernel) rfl (s_sw (fun x => by
    by_cases h0 : x = 0
    · subst h0
      exact ⟨116, sw_in (dflt := 130) (lo := 0) (hi := 13) (offs := #[72, 77, 91, 105, 110, 115, 130, 130, 130, 130, 120, 120, 120, 120]) (len := 72) (off := 72) (by decide +kernel) (by decide +kernel) (by decide +kernel) (by decide +kernel) (by decide +kernel), by simpa [swp] using (zVC_tell_116 hB)⟩
    by_cases h1 : x = 1
    · subst h1
      exact ⟨121, sw_in (dflt := 130) (lo := 0) (hi := 13) (offs := #[72, 77, 91, 105, 110, 115, 130, 130, 130, 130, 120, 120, 120, 120]) (len := 72) (off := 77) (by decide +kernel) (by decide +kernel) (by decide +kernel) (by decide +kernel) (by decide +kernel), by simpa [swp] using (zVC_tell_121 hB)⟩
    by_cases h2 : x = 2
    · subst h2
      exact ⟨135, sw_in (dflt := 130) (lo := 0) (hi := 13) (offs := #[72, 77, 91, 105, 110, 115, 130, 130, 130, 130, 120, 120, 120, 120]) (len := 72) (off := 91) (by decide +kernel) (by decide +kernel) (by decide +kernel) (by decide +kernel) (by decide +kernel), by simpa [swp] using (zVC_tell_135 hB)⟩
    by_cases h3 : x = 3
    · subst h3
      exact ⟨149, sw_in (dflt := 130) (lo := 0) (hi := 13) (offs := #[72, 77, 91, 105, 110, 115, 130, 130, 130, 130, 120, 120, 120, 120]) (len := 72) (off := 105) (by decide +kernel) (by decide +kernel) (by decide +kernel) (by decide +kernel) (by decide +kernel), by simpa [swp] using (zVC_tell_149 hB)⟩
    by_cases h4 : x = 4
    · subst h4
      exact ⟨154, sw_in (dflt := 130) (lo := 0) (hi := 13) (offs := #[72, 77, 91, 105, 110, 115, 130, 130, 130, 130, 120, 120, 120, 120]) (len := 72) (off := 110) (by decide +kernel) (by decide +kernel) (by decide +kernel) (by decide +kernel) (by decide +kernel), by simpa [swp] using (zVC_tell_154 hB)⟩
    by_cases h5 : x = 5
    · subst h5
      exact ⟨159, sw_in (dflt := 130) (lo := 0) (hi := 13) (offs := #[72, 77, 91, 105, 110, 115, 130, 130, 130, 130, 120, 120, 120, 120]) (len := 72) (off := 115) (by decide +kernel) (by decide +kernel) (by decide +kernel) (by decide +kernel) (by decide +kernel), by simpa [swp] using (zVC_tell_159 hB)⟩
    by_cases h6 : x = 6
    · subst h6
      exact ⟨174, sw_in (dflt := 130) (lo := 0) (hi := 13) (offs := #[72, 77, 91, 105, 110, 115, 130, 130, 130, 130, 120, 120, 120, 120]) (len := 72) (off := 130) (by decide +kernel) (by decide +kernel) (by decide +kernel) (by decide +kernel) (by decide +kernel), by simpa [swp] using (zVC_tell_174 hB)⟩
    by_cases h7 : x = 7
    · subst h7
      exact ⟨174, sw_in (dflt := 130) (lo := 0) (hi := 13) (offs := #[72, 77, 91, 105, 110, 115, 130, 130, 130, 130, 120, 120, 120, 120]) (len := 72) (off := 130) (by decide +kernel) (by decide +kernel) (by decide +kernel) (by decide +kernel) (by decide +kernel), by simpa [swp] using (zVC_tell_174 hB)⟩
    by_cases h8 : x = 8
    · subst h8
      exact ⟨174, sw_in (dflt := 130) (lo := 0) (hi := 13) (offs := #[72, 77, 91, 105, 110, 115, 130, 130, 130, 130, 120, 120, 120, 120]) (len := 72) (off := 130) (by decide +kernel) (by decide +kernel) (by decide +kernel) (by decide +kernel) (by decide +kernel), by simpa [swp] using (zVC_tell_174 hB)⟩
    by_cases h9 : x = 9
    · subst h9
      exact ⟨174, sw_in (dflt := 130) (lo := 0) (hi := 13) (offs := #[72, 77, 91, 105, 110, 115, 130, 130, 130, 130, 120, 120, 120, 120]) (len := 72) (off := 130) (by decide +kernel) (by decide +kernel) (by decide +kernel) (by decide +kernel) (by decide +kernel), by simpa [swp] using (zVC_tell_174 hB)⟩
    by_cases h10 : x = 10
    · subst h10
      exact ⟨164, sw_in (dflt := 130) (lo := 0) (hi := 13) (offs := #[72, 77, 91, 105, 110, 115, 130, 130, 130, 130, 120, 120, 120, 120]) (len := 72) (off := 120) (by decide +kernel) (by decide +kernel) (by decide +kernel) (by decide +kernel) (by decide +kernel), by simpa [swp] using (zVC_tell_164 hB)⟩
    by_cases h11 : x = 11
    · subst h11
      exact ⟨164, sw_in (dflt := 130) (lo := 0) (hi := 13) (offs := #[72, 77, 91, 105, 110, 115, 130, 130, 130, 130, 120, 120, 120, 120]) (len := 72) (off := 120) (by decide +kernel) (by decide +kernel) (by decide +kernel) (by decide +kernel) (by decide +kernel), by simpa [swp] using (zVC_tell_164 hB)⟩
    by_cases h12 : x = 12
    · subst h12
      exact ⟨164, sw_in (dflt := 130) (lo := 0) (hi := 13) (offs := #[72, 77, 91, 105, 110, 115, 130, 130, 130, 130, 120, 120, 120, 120]) (len := 72) (off := 120) (by decide +kernel) (by decide +kernel) (by decide +kernel) (by decide +kernel) (by decide +kernel), by simpa [swp] using (zVC_tell_164 hB)⟩
    by_cases h13 : x = 13
    · subst h13
      exact ⟨164, sw_in (dflt := 130) (lo := 0) (hi := 13) (offs := #[72, 77, 91, 105, 110, 115, 130, 130, 130, 130, 120, 120, 120, 120]) (len := 72) (off := 120) (by decide +kernel) (by decide +kernel) (by decide +kernel) (by decide +kernel) (by decide +kernel), by simpa [swp] using (zVC_tell_164 hB)⟩
    have g0 := i32_ne (z := 0) (by decide +kernel) h0
    have g1 := i32_ne (z := 1) (by decide +kernel) h1
    have g2 := i32_ne (z := 2) (by decide +kernel) h2
    have g3 := i32_ne (z := 3) (by decide +kernel) h3
    have g4 := i32_ne (z := 4) (by decide +kernel) h4
    have g5 := i32_ne (z := 5) (by decide +kernel) h5
    have g6 := i32_ne (z := 6) (by decide +kernel) h6
    have g7 := i32_ne (z := 7) (by decide +kernel) h7
    have g8 := i32_ne (z := 8) (by decide +kernel) h8
    have g9 := i32_ne (z := 9) (by decide +kernel) h9
    have g10 := i32_ne (z := 10) (by decide +kernel) h10
    have g11 := i32_ne (z := 11) (by decide +kernel) h11
    have g12 := i32_ne (z := 12) (by decide +kernel) h12
    have g13 := i32_ne (z := 13) (by decide +kernel) h13
    exact ⟨174, sw_out (dflt := 130) (lo := 0) (hi := 13) (offs := #[72, 77, 91, 105, 110, 115, 130, 130, 130, 130, 120, 120, 120, 120]) (len := 72) (by decide +kernel) (by omega) (by decide +kernel), by simpa [swp, h0, h1, h2, h3, h4, h5, h6, h7, h8, h9, h10, h11, h12, h13] using (zVC_tell_174 hB)⟩))))
def qVC_tell_40 (d mc ms : Nat) (B : Nat → Pd) (K : Ps) : Pd := (i_ci 0 (qVC_tell_41 d mc ms B K))
theorem zVC_tell_40 {d mc ms : Nat} {B : Nat → Pd} {K : Ps} (hB : ∀ pc, Le (B pc) (G cVC_tell "VoyageCompany" 5 (some .int) "tell" (rm (d + 1) mc ms) (QM mc ms K) pc)) : Le (qVC_tell_40 d mc ms B K) (G cVC_tell "VoyageCompany" 5 (some .int) "tell" (rm (d + 1) mc ms) (QM mc ms K) 40) := by
  unfold qVC_tell_40
  exact (s_iconst (n := 0) (v := 0) (by decide +kernel) (by decide +kernel) (zVC_tell_41 hB))
def qVC_tell_36 (d mc ms : Nat) (B : Nat → Pd) (K : Ps) : Pd := (i_ci 1 (qVC_tell_41 d mc ms B K))
theorem zVC_tell_36 {d mc ms : Nat} {B : Nat → Pd} {K : Ps} (hB : ∀ pc, Le (B pc) (G cVC_tell "VoyageCompany" 5 (some .int) "tell" (rm (d + 1) mc ms) (QM mc ms K) pc)) : Le (qVC_tell_36 d mc ms B K) (G cVC_tell "VoyageCompany" 5 (some .int) "tell" (rm (d + 1) mc ms) (QM mc ms K) 36) := by
  unfold qVC_tell_36
  exact (s_iconst (n := 1) (v := 1) (by decide +kernel) (by decide +kernel) (s_goto (off := 4) (tgt := 41) (by decide +kernel) (by decide) (zVC_tell_41 hB)))
def qVC_tell_18 (d mc ms : Nat) (B : Nat → Pd) (K : Ps) : Pd := (i_ald 0 (i_getr 11 0 (i_getr 1 6 (i_ild 1 (i_aald (i_ast 3 (i_ald 3 (i_geti 7 6 (i_ci (-1) (i_ic_ne (qVC_tell_40 d mc ms B K) (qVC_tell_36 d mc ms B K)))))))))))
theorem zVC_tell_18 {d mc ms : Nat} {B : Nat → Pd} {K : Ps} (hB : ∀ pc, Le (B pc) (G cVC_tell "VoyageCompany" 5 (some .int) "tell" (rm (d + 1) mc ms) (QM mc ms K) pc)) : Le (qVC_tell_18 d mc ms B K) (G cVC_tell "VoyageCompany" 5 (some .int) "tell" (rm (d + 1) mc ms) (QM mc ms K) 18) := by
  unfold qVC_tell_18
  exact (s_ald_n (j := 0) (by decide +kernel) rfl (s_getr (idx := 10) (by decide +kernel) fl11_10 (by decide) (s_getr (idx := 100) (by decide +kernel) fl11_100 (by decide) (s_ild_n (j := 1) (by decide +kernel) rfl (s_aald (by decide +kernel) (s_ast_n (j := 3) (by decide +kernel) rfl (by decide) (s_ald_n (j := 3) (by decide +kernel) rfl (s_geti (idx := 200) (by decide +kernel) fl11_200 (by decide) (s_iconst (n := (-1)) (v := (-1)) (by decide +kernel) (by decide +kernel) (s_ic_ne (off := 7) (tgt := 40) (by decide +kernel) (by decide) (zVC_tell_40 hB) (zVC_tell_36 hB)))))))))))
def qVC_tell_15 (d mc ms : Nat) (B : Nat → Pd) (K : Ps) : Pd := (i_ci (-9) (i_iret mc ms K))
theorem zVC_tell_15 {d mc ms : Nat} {B : Nat → Pd} {K : Ps} (hB : ∀ pc, Le (B pc) (G cVC_tell "VoyageCompany" 5 (some .int) "tell" (rm (d + 1) mc ms) (QM mc ms K) pc)) : Le (qVC_tell_15 d mc ms B K) (G cVC_tell "VoyageCompany" 5 (some .int) "tell" (rm (d + 1) mc ms) (QM mc ms K) 15) := by
  unfold qVC_tell_15
  exact (s_bipush (n := (-9)) (v := (-9)) (by decide +kernel) (by decide +kernel) (s_iret (by decide +kernel) rfl))
def qVC_tell_4 (d mc ms : Nat) (B : Nat → Pd) (K : Ps) : Pd := (i_ild 1 (i_ald 0 (i_getr 11 0 (i_geti 1 1 (i_ic_lt (qVC_tell_18 d mc ms B K) (qVC_tell_15 d mc ms B K))))))
theorem zVC_tell_4 {d mc ms : Nat} {B : Nat → Pd} {K : Ps} (hB : ∀ pc, Le (B pc) (G cVC_tell "VoyageCompany" 5 (some .int) "tell" (rm (d + 1) mc ms) (QM mc ms K) pc)) : Le (qVC_tell_4 d mc ms B K) (G cVC_tell "VoyageCompany" 5 (some .int) "tell" (rm (d + 1) mc ms) (QM mc ms K) 4) := by
  unfold qVC_tell_4
  exact (s_ild_n (j := 1) (by decide +kernel) rfl (s_ald_n (j := 0) (by decide +kernel) rfl (s_getr (idx := 10) (by decide +kernel) fl11_10 (by decide) (s_geti (idx := 97) (by decide +kernel) fl11_97 (by decide) (s_ic_lt (off := 6) (tgt := 18) (by decide +kernel) (by decide) (zVC_tell_18 hB) (zVC_tell_15 hB))))))
def qVC_tell_0 (d mc ms : Nat) (B : Nat → Pd) (K : Ps) : Pd := (i_ild 1 (i_if_lt (qVC_tell_15 d mc ms B K) (qVC_tell_4 d mc ms B K)))
theorem zVC_tell_0 {d mc ms : Nat} {B : Nat → Pd} {K : Ps} (hB : ∀ pc, Le (B pc) (G cVC_tell "VoyageCompany" 5 (some .int) "tell" (rm (d + 1) mc ms) (QM mc ms K) pc)) : Le (qVC_tell_0 d mc ms B K) (G cVC_tell "VoyageCompany" 5 (some .int) "tell" (rm (d + 1) mc ms) (QM mc ms K) 0) := by
  unfold qVC_tell_0
  exact (s_ild_n (j := 1) (by decide +kernel) rfl (s_if_lt (off := 14) (tgt := 15) (by decide +kernel) (by decide) (zVC_tell_15 hB) (zVC_tell_4 hB)))
/-- VoyageCompany.tell(II)I, at its places -/
def gVC_tell (d mc ms : Nat) (K : Ps) : Nat → Pd := G cVC_tell "VoyageCompany" 5 (some .int) "tell" (rm (d + 1) mc ms) (QM mc ms K)
theorem eVC_tell {d mc ms : Nat} {K : Ps} {av : List Value} {E : Nat → Prop} {R : Nat → Nat → Value} {I : Nat → Nat → Int32} {J : Nat → Nat → Int64} (hn : (lg_sl av).length ≤ 5) (h : qVC_tell_0 d mc ms (gVC_tell d mc ms K) K (lv_args 0 av) [] E R I J 0 0) : CL yVC_tell cVC_tell 5 (some .int) (d + 1) mc ms av E R I J K :=
  CL.of (by decide +kernel) hn (zVC_tell_0 (fun _ => Le.refl) _ _ _ _ _ _ _ _ h)
def qVC_factor_66 (d mc ms : Nat) (B : Nat → Pd) (K : Ps) : Pd := (i_ci (-1) (i_iret mc ms K))
theorem zVC_factor_66 {d mc ms : Nat} {B : Nat → Pd} {K : Ps} (hB : ∀ pc, Le (B pc) (G cVC_factor "VoyageCompany" 4 (some .int) "factor" (rm (d + 1) mc ms) (QM mc ms K) pc)) : Le (qVC_factor_66 d mc ms B K) (G cVC_factor "VoyageCompany" 4 (some .int) "factor" (rm (d + 1) mc ms) (QM mc ms K) 66) := by
  unfold qVC_factor_66
  exact (s_iconst (n := (-1)) (v := (-1)) (by decide +kernel) (by decide +kernel) (s_iret (by decide +kernel) rfl))
def qVC_factor_61 (d mc ms : Nat) (B : Nat → Pd) (K : Ps) : Pd := (i_ald 3 (i_geti 5 5 (i_iret mc ms K)))
theorem zVC_factor_61 {d mc ms : Nat} {B : Nat → Pd} {K : Ps} (hB : ∀ pc, Le (B pc) (G cVC_factor "VoyageCompany" 4 (some .int) "factor" (rm (d + 1) mc ms) (QM mc ms K) pc)) : Le (qVC_factor_61 d mc ms B K) (G cVC_factor "VoyageCompany" 4 (some .int) "factor" (rm (d + 1) mc ms) (QM mc ms K) 61) := by
  unfold qVC_factor_61
  exact (s_ald_n (j := 3) (by decide +kernel) rfl (s_geti (idx := 210) (by decide +kernel) fl11_210 (by decide) (s_iret (by decide +kernel) rfl)))
def qVC_factor_56 (d mc ms : Nat) (B : Nat → Pd) (K : Ps) : Pd := (i_ald 3 (i_geti 5 4 (i_iret mc ms K)))
theorem zVC_factor_56 {d mc ms : Nat} {B : Nat → Pd} {K : Ps} (hB : ∀ pc, Le (B pc) (G cVC_factor "VoyageCompany" 4 (some .int) "factor" (rm (d + 1) mc ms) (QM mc ms K) pc)) : Le (qVC_factor_56 d mc ms B K) (G cVC_factor "VoyageCompany" 4 (some .int) "factor" (rm (d + 1) mc ms) (QM mc ms K) 56) := by
  unfold qVC_factor_56
  exact (s_ald_n (j := 3) (by decide +kernel) rfl (s_geti (idx := 207) (by decide +kernel) fl11_207 (by decide) (s_iret (by decide +kernel) rfl)))
def qVC_factor_48 (d mc ms : Nat) (B : Nat → Pd) (K : Ps) : Pd := (i_ald 3 (i_getr 5 3 (i_geti 3 0 (i_iret mc ms K))))
theorem zVC_factor_48 {d mc ms : Nat} {B : Nat → Pd} {K : Ps} (hB : ∀ pc, Le (B pc) (G cVC_factor "VoyageCompany" 4 (some .int) "factor" (rm (d + 1) mc ms) (QM mc ms K) pc)) : Le (qVC_factor_48 d mc ms B K) (G cVC_factor "VoyageCompany" 4 (some .int) "factor" (rm (d + 1) mc ms) (QM mc ms K) 48) := by
  unfold qVC_factor_48
  exact (s_ald_n (j := 3) (by decide +kernel) rfl (s_getr (idx := 63) (by decide +kernel) fl11_63 (by decide) (s_geti (idx := 78) (by decide +kernel) fl11_78 (by decide) (s_iret (by decide +kernel) rfl))))
def qVC_factor_9 (d mc ms : Nat) (B : Nat → Pd) (K : Ps) : Pd := (i_ald 0 (i_getr 11 0 (i_getr 1 5 (i_ild 1 (i_aald (i_ast 3 (i_ild 2 (i_sw [(0, (qVC_factor_48 d mc ms B K)), (1, (qVC_factor_56 d mc ms B K)), (2, (qVC_factor_61 d mc ms B K))] (qVC_factor_66 d mc ms B K)))))))))
theorem zVC_factor_9 {d mc ms : Nat} {B : Nat → Pd} {K : Ps} (hB : ∀ pc, Le (B pc) (G cVC_factor "VoyageCompany" 4 (some .int) "factor" (rm (d + 1) mc ms) (QM mc ms K) pc)) : Le (qVC_factor_9 d mc ms B K) (G cVC_factor "VoyageCompany" 4 (some .int) "factor" (rm (d + 1) mc ms) (QM mc ms K) 9) := by
  unfold qVC_factor_9
  exact (s_ald_n (j := 0) (by decide +kernel) rfl (s_getr (idx := 10) (by decide +kernel) fl11_10 (by decide) (s_getr (idx := 59) (by decide +kernel) fl11_59 (by decide) (s_ild_n (j := 1) (by decide +kernel) rfl (s_aald (by decide +kernel) (s_ast_n (j := 3) (by decide +kernel) rfl (by decide) (s_ild_n (j := 2) (by decide +kernel) rfl (s_sw (fun x => by
    by_cases h0 : x = 0
    · subst h0
      exact ⟨48, sw_in (dflt := 46) (lo := 0) (hi := 2) (offs := #[28, 36, 41]) (len := 28) (off := 28) (by decide +kernel) (by decide +kernel) (by decide +kernel) (by decide +kernel) (by decide +kernel), by simpa [swp] using (zVC_factor_48 hB)⟩
    by_cases h1 : x = 1
    · subst h1
      exact ⟨56, sw_in (dflt := 46) (lo := 0) (hi := 2) (offs := #[28, 36, 41]) (len := 28) (off := 36) (by decide +kernel) (by decide +kernel) (by decide +kernel) (by decide +kernel) (by decide +kernel), by simpa [swp] using (zVC_factor_56 hB)⟩
    by_cases h2 : x = 2
    · subst h2
      exact ⟨61, sw_in (dflt := 46) (lo := 0) (hi := 2) (offs := #[28, 36, 41]) (len := 28) (off := 41) (by decide +kernel) (by decide +kernel) (by decide +kernel) (by decide +kernel) (by decide +kernel), by simpa [swp] using (zVC_factor_61 hB)⟩
    have g0 := i32_ne (z := 0) (by decide +kernel) h0
    have g1 := i32_ne (z := 1) (by decide +kernel) h1
    have g2 := i32_ne (z := 2) (by decide +kernel) h2
    exact ⟨66, sw_out (dflt := 46) (lo := 0) (hi := 2) (offs := #[28, 36, 41]) (len := 28) (by decide +kernel) (by omega) (by decide +kernel), by simpa [swp, h0, h1, h2] using (zVC_factor_66 hB)⟩)))))))))
def qVC_factor_7 (d mc ms : Nat) (B : Nat → Pd) (K : Ps) : Pd := (i_ci (-1) (i_iret mc ms K))
theorem zVC_factor_7 {d mc ms : Nat} {B : Nat → Pd} {K : Ps} (hB : ∀ pc, Le (B pc) (G cVC_factor "VoyageCompany" 4 (some .int) "factor" (rm (d + 1) mc ms) (QM mc ms K) pc)) : Le (qVC_factor_7 d mc ms B K) (G cVC_factor "VoyageCompany" 4 (some .int) "factor" (rm (d + 1) mc ms) (QM mc ms K) 7) := by
  unfold qVC_factor_7
  exact (s_iconst (n := (-1)) (v := (-1)) (by decide +kernel) (by decide +kernel) (s_iret (by decide +kernel) rfl))
def qVC_factor_0 (d mc ms : Nat) (B : Nat → Pd) (K : Ps) : Pd := (i_ild 1 (i_call 2 11 yVC_isFarPort cVC_isFarPort 1 (some .boolean) mc ms d 1 (i_if_ne (qVC_factor_9 d mc ms B K) (qVC_factor_7 d mc ms B K))))
theorem zVC_factor_0 {d mc ms : Nat} {B : Nat → Pd} {K : Ps} (hB : ∀ pc, Le (B pc) (G cVC_factor "VoyageCompany" 4 (some .int) "factor" (rm (d + 1) mc ms) (QM mc ms K) pc)) : Le (qVC_factor_0 d mc ms B K) (G cVC_factor "VoyageCompany" 4 (some .int) "factor" (rm (d + 1) mc ms) (QM mc ms K) 0) := by
  unfold qVC_factor_0
  exact (s_ild_n (j := 1) (by decide +kernel) rfl (s_call (idx := 41) (by decide +kernel) ml11_41 rmk (s_if_ne (off := 5) (tgt := 9) (by decide +kernel) (by decide) (zVC_factor_9 hB) (zVC_factor_7 hB))))
/-- VoyageCompany.factor(II)I, at its places -/
def gVC_factor (d mc ms : Nat) (K : Ps) : Nat → Pd := G cVC_factor "VoyageCompany" 4 (some .int) "factor" (rm (d + 1) mc ms) (QM mc ms K)
theorem eVC_factor {d mc ms : Nat} {K : Ps} {av : List Value} {E : Nat → Prop} {R : Nat → Nat → Value} {I : Nat → Nat → Int32} {J : Nat → Nat → Int64} (hn : (lg_sl av).length ≤ 4) (h : qVC_factor_0 d mc ms (gVC_factor d mc ms K) K (lv_args 0 av) [] E R I J 0 0) : CL yVC_factor cVC_factor 4 (some .int) (d + 1) mc ms av E R I J K :=
  CL.of (by decide +kernel) hn (zVC_factor_0 (fun _ => Le.refl) _ _ _ _ _ _ _ _ h)
def qVC_known_16 (d mc ms : Nat) (B : Nat → Pd) (K : Ps) : Pd := (i_ald 0 (i_getr 11 0 (i_ild 1 (i_ild 2 (i_ald 0 (i_getr 11 0 (i_geti 1 0 (i_ci 1 (i_isub (i_ci 3 (i_ild 1 (i_imul (i_isub (i_call 0 1 yCompany_storeBehind cCompany_storeBehind 5 (some .int) mc ms d 4 (i_iret mc ms K)))))))))))))))
theorem zVC_known_16 {d mc ms : Nat} {B : Nat → Pd} {K : Ps} (hB : ∀ pc, Le (B pc) (G cVC_known "VoyageCompany" 3 (some .int) "known" (rm (d + 1) mc ms) (QM mc ms K) pc)) : Le (qVC_known_16 d mc ms B K) (G cVC_known "VoyageCompany" 3 (some .int) "known" (rm (d + 1) mc ms) (QM mc ms K) 16) := by
  unfold qVC_known_16
  exact (s_ald_n (j := 0) (by decide +kernel) rfl (s_getr (idx := 10) (by decide +kernel) fl11_10 (by decide) (s_ild_n (j := 1) (by decide +kernel) rfl (s_ild_n (j := 2) (by decide +kernel) rfl (s_ald_n (j := 0) (by decide +kernel) rfl (s_getr (idx := 10) (by decide +kernel) fl11_10 (by decide) (s_geti (idx := 118) (by decide +kernel) fl11_118 (by decide) (s_iconst (n := 1) (v := 1) (by decide +kernel) (by decide +kernel) (s_isub (by decide +kernel) (s_iconst (n := 3) (v := 3) (by decide +kernel) (by decide +kernel) (s_ild_n (j := 1) (by decide +kernel) rfl (s_imul (by decide +kernel) (s_isub (by decide +kernel) (s_call (idx := 213) (by decide +kernel) ml11_213 rmk (s_iret (by decide +kernel) rfl)))))))))))))))
def qVC_known_14 (d mc ms : Nat) (B : Nat → Pd) (K : Ps) : Pd := (i_ci (-1) (i_iret mc ms K))
theorem zVC_known_14 {d mc ms : Nat} {B : Nat → Pd} {K : Ps} (hB : ∀ pc, Le (B pc) (G cVC_known "VoyageCompany" 3 (some .int) "known" (rm (d + 1) mc ms) (QM mc ms K) pc)) : Le (qVC_known_14 d mc ms B K) (G cVC_known "VoyageCompany" 3 (some .int) "known" (rm (d + 1) mc ms) (QM mc ms K) 14) := by
  unfold qVC_known_14
  exact (s_iconst (n := (-1)) (v := (-1)) (by decide +kernel) (by decide +kernel) (s_iret (by decide +kernel) rfl))
def qVC_known_7 (d mc ms : Nat) (B : Nat → Pd) (K : Ps) : Pd := (i_ild 2 (i_call 2 11 yVC_isGood cVC_isGood 1 (some .boolean) mc ms d 1 (i_if_ne (qVC_known_16 d mc ms B K) (qVC_known_14 d mc ms B K))))
theorem zVC_known_7 {d mc ms : Nat} {B : Nat → Pd} {K : Ps} (hB : ∀ pc, Le (B pc) (G cVC_known "VoyageCompany" 3 (some .int) "known" (rm (d + 1) mc ms) (QM mc ms K) pc)) : Le (qVC_known_7 d mc ms B K) (G cVC_known "VoyageCompany" 3 (some .int) "known" (rm (d + 1) mc ms) (QM mc ms K) 7) := by
  unfold qVC_known_7
  exact (s_ild_n (j := 2) (by decide +kernel) rfl (s_call (idx := 160) (by decide +kernel) ml11_160 rmk (s_if_ne (off := 5) (tgt := 16) (by decide +kernel) (by decide) (zVC_known_16 hB) (zVC_known_14 hB))))
def qVC_known_0 (d mc ms : Nat) (B : Nat → Pd) (K : Ps) : Pd := (i_ild 1 (i_call 2 11 yVC_isPort cVC_isPort 1 (some .boolean) mc ms d 1 (i_if_eq (qVC_known_14 d mc ms B K) (qVC_known_7 d mc ms B K))))
theorem zVC_known_0 {d mc ms : Nat} {B : Nat → Pd} {K : Ps} (hB : ∀ pc, Le (B pc) (G cVC_known "VoyageCompany" 3 (some .int) "known" (rm (d + 1) mc ms) (QM mc ms K) pc)) : Le (qVC_known_0 d mc ms B K) (G cVC_known "VoyageCompany" 3 (some .int) "known" (rm (d + 1) mc ms) (QM mc ms K) 0) := by
  unfold qVC_known_0
  exact (s_ild_n (j := 1) (by decide +kernel) rfl (s_call (idx := 197) (by decide +kernel) ml11_197 rmk (s_if_eq (off := 10) (tgt := 14) (by decide +kernel) (by decide) (zVC_known_14 hB) (zVC_known_7 hB))))
/-- VoyageCompany.known(II)I, at its places -/
def gVC_known (d mc ms : Nat) (K : Ps) : Nat → Pd := G cVC_known "VoyageCompany" 3 (some .int) "known" (rm (d + 1) mc ms) (QM mc ms K)
theorem eVC_known {d mc ms : Nat} {K : Ps} {av : List Value} {E : Nat → Prop} {R : Nat → Nat → Value} {I : Nat → Nat → Int32} {J : Nat → Nat → Int64} (hn : (lg_sl av).length ≤ 3) (h : qVC_known_0 d mc ms (gVC_known d mc ms K) K (lv_args 0 av) [] E R I J 0 0) : CL yVC_known cVC_known 3 (some .int) (d + 1) mc ms av E R I J K :=
  CL.of (by decide +kernel) hn (zVC_known_0 (fun _ => Le.refl) _ _ _ _ _ _ _ _ h)
def qVC_noted_16 (d mc ms : Nat) (B : Nat → Pd) (K : Ps) : Pd := (i_ald 0 (i_getr 11 0 (i_ild 1 (i_ild 2 (i_ild 3 (i_call 0 1 yCompany_storeBehind cCompany_storeBehind 5 (some .int) mc ms d 4 (i_iret mc ms K)))))))
theorem zVC_noted_16 {d mc ms : Nat} {B : Nat → Pd} {K : Ps} (hB : ∀ pc, Le (B pc) (G cVC_noted "VoyageCompany" 4 (some .int) "noted" (rm (d + 1) mc ms) (QM mc ms K) pc)) : Le (qVC_noted_16 d mc ms B K) (G cVC_noted "VoyageCompany" 4 (some .int) "noted" (rm (d + 1) mc ms) (QM mc ms K) 16) := by
  unfold qVC_noted_16
  exact (s_ald_n (j := 0) (by decide +kernel) rfl (s_getr (idx := 10) (by decide +kernel) fl11_10 (by decide) (s_ild_n (j := 1) (by decide +kernel) rfl (s_ild_n (j := 2) (by decide +kernel) rfl (s_ild_n (j := 3) (by decide +kernel) rfl (s_call (idx := 213) (by decide +kernel) ml11_213 rmk (s_iret (by decide +kernel) rfl)))))))
def qVC_noted_14 (d mc ms : Nat) (B : Nat → Pd) (K : Ps) : Pd := (i_ci (-1) (i_iret mc ms K))
theorem zVC_noted_14 {d mc ms : Nat} {B : Nat → Pd} {K : Ps} (hB : ∀ pc, Le (B pc) (G cVC_noted "VoyageCompany" 4 (some .int) "noted" (rm (d + 1) mc ms) (QM mc ms K) pc)) : Le (qVC_noted_14 d mc ms B K) (G cVC_noted "VoyageCompany" 4 (some .int) "noted" (rm (d + 1) mc ms) (QM mc ms K) 14) := by
  unfold qVC_noted_14
  exact (s_iconst (n := (-1)) (v := (-1)) (by decide +kernel) (by decide +kernel) (s_iret (by decide +kernel) rfl))
def qVC_noted_7 (d mc ms : Nat) (B : Nat → Pd) (K : Ps) : Pd := (i_ild 2 (i_call 2 11 yVC_isGood cVC_isGood 1 (some .boolean) mc ms d 1 (i_if_ne (qVC_noted_16 d mc ms B K) (qVC_noted_14 d mc ms B K))))
theorem zVC_noted_7 {d mc ms : Nat} {B : Nat → Pd} {K : Ps} (hB : ∀ pc, Le (B pc) (G cVC_noted "VoyageCompany" 4 (some .int) "noted" (rm (d + 1) mc ms) (QM mc ms K) pc)) : Le (qVC_noted_7 d mc ms B K) (G cVC_noted "VoyageCompany" 4 (some .int) "noted" (rm (d + 1) mc ms) (QM mc ms K) 7) := by
  unfold qVC_noted_7
  exact (s_ild_n (j := 2) (by decide +kernel) rfl (s_call (idx := 160) (by decide +kernel) ml11_160 rmk (s_if_ne (off := 5) (tgt := 16) (by decide +kernel) (by decide) (zVC_noted_16 hB) (zVC_noted_14 hB))))
def qVC_noted_0 (d mc ms : Nat) (B : Nat → Pd) (K : Ps) : Pd := (i_ild 1 (i_call 2 11 yVC_isPort cVC_isPort 1 (some .boolean) mc ms d 1 (i_if_eq (qVC_noted_14 d mc ms B K) (qVC_noted_7 d mc ms B K))))
theorem zVC_noted_0 {d mc ms : Nat} {B : Nat → Pd} {K : Ps} (hB : ∀ pc, Le (B pc) (G cVC_noted "VoyageCompany" 4 (some .int) "noted" (rm (d + 1) mc ms) (QM mc ms K) pc)) : Le (qVC_noted_0 d mc ms B K) (G cVC_noted "VoyageCompany" 4 (some .int) "noted" (rm (d + 1) mc ms) (QM mc ms K) 0) := by
  unfold qVC_noted_0
  exact (s_ild_n (j := 1) (by decide +kernel) rfl (s_call (idx := 197) (by decide +kernel) ml11_197 rmk (s_if_eq (off := 10) (tgt := 14) (by decide +kernel) (by decide) (zVC_noted_14 hB) (zVC_noted_7 hB))))
/-- VoyageCompany.noted(III)I, at its places -/
def gVC_noted (d mc ms : Nat) (K : Ps) : Nat → Pd := G cVC_noted "VoyageCompany" 4 (some .int) "noted" (rm (d + 1) mc ms) (QM mc ms K)
theorem eVC_noted {d mc ms : Nat} {K : Ps} {av : List Value} {E : Nat → Prop} {R : Nat → Nat → Value} {I : Nat → Nat → Int32} {J : Nat → Nat → Int64} (hn : (lg_sl av).length ≤ 4) (h : qVC_noted_0 d mc ms (gVC_noted d mc ms K) K (lv_args 0 av) [] E R I J 0 0) : CL yVC_noted cVC_noted 4 (some .int) (d + 1) mc ms av E R I J K :=
  CL.of (by decide +kernel) hn (zVC_noted_0 (fun _ => Le.refl) _ _ _ _ _ _ _ _ h)
def qVC_sum_66 (d mc ms : Nat) (B : Nat → Pd) (K : Ps) : Pd := (i_ald 0 (i_getr 11 0 (i_getr 1 8 (i_ild 1 (i_ild 2 (i_call 0 0 yBooks_entered cBooks_entered 3 (some .long) mc ms d 3 (i_lret mc ms K)))))))
theorem zVC_sum_66 {d mc ms : Nat} {B : Nat → Pd} {K : Ps} (hB : ∀ pc, Le (B pc) (G cVC_sum "VoyageCompany" 3 (some .long) "sum" (rm (d + 1) mc ms) (QM mc ms K) pc)) : Le (qVC_sum_66 d mc ms B K) (G cVC_sum "VoyageCompany" 3 (some .long) "sum" (rm (d + 1) mc ms) (QM mc ms K) 66) := by
  unfold qVC_sum_66
  exact (s_ald_n (j := 0) (by decide +kernel) rfl (s_getr (idx := 10) (by decide +kernel) fl11_10 (by decide) (s_getr (idx := 147) (by decide +kernel) fl11_147 (by decide) (s_ild_n (j := 1) (by decide +kernel) rfl (s_ild_n (j := 2) (by decide +kernel) rfl (s_call (idx := 226) (by decide +kernel) ml11_226 rmk (s_lret (by decide +kernel) rfl)))))))
def qVC_sum_57 (d mc ms : Nat) (B : Nat → Pd) (K : Ps) : Pd := (i_ald 0 (i_getr 11 0 (i_ild 1 (i_call 0 1 yCompany_inShips cCompany_inShips 5 (some .long) mc ms d 2 (i_lret mc ms K)))))
theorem zVC_sum_57 {d mc ms : Nat} {B : Nat → Pd} {K : Ps} (hB : ∀ pc, Le (B pc) (G cVC_sum "VoyageCompany" 3 (some .long) "sum" (rm (d + 1) mc ms) (QM mc ms K) pc)) : Le (qVC_sum_57 d mc ms B K) (G cVC_sum "VoyageCompany" 3 (some .long) "sum" (rm (d + 1) mc ms) (QM mc ms K) 57) := by
  unfold qVC_sum_57
  exact (s_ald_n (j := 0) (by decide +kernel) rfl (s_getr (idx := 10) (by decide +kernel) fl11_10 (by decide) (s_ild_n (j := 1) (by decide +kernel) rfl (s_call (idx := 223) (by decide +kernel) ml11_223 rmk (s_lret (by decide +kernel) rfl)))))
def qVC_sum_48 (d mc ms : Nat) (B : Nat → Pd) (K : Ps) : Pd := (i_ald 0 (i_getr 11 0 (i_ild 1 (i_call 0 1 yCompany_inStores cCompany_inStores 5 (some .long) mc ms d 2 (i_lret mc ms K)))))
theorem zVC_sum_48 {d mc ms : Nat} {B : Nat → Pd} {K : Ps} (hB : ∀ pc, Le (B pc) (G cVC_sum "VoyageCompany" 3 (some .long) "sum" (rm (d + 1) mc ms) (QM mc ms K) pc)) : Le (qVC_sum_48 d mc ms B K) (G cVC_sum "VoyageCompany" 3 (some .long) "sum" (rm (d + 1) mc ms) (QM mc ms K) 48) := by
  unfold qVC_sum_48
  exact (s_ald_n (j := 0) (by decide +kernel) rfl (s_getr (idx := 10) (by decide +kernel) fl11_10 (by decide) (s_ild_n (j := 1) (by decide +kernel) rfl (s_call (idx := 219) (by decide +kernel) ml11_219 rmk (s_lret (by decide +kernel) rfl)))))
def qVC_sum_21 (d mc ms : Nat) (B : Nat → Pd) (K : Ps) : Pd := (i_ild 2 (i_sw [(1, (qVC_sum_48 d mc ms B K)), (2, (qVC_sum_57 d mc ms B K))] (qVC_sum_66 d mc ms B K)))
theorem zVC_sum_21 {d mc ms : Nat} {B : Nat → Pd} {K : Ps} (hB : ∀ pc, Le (B pc) (G cVC_sum "VoyageCompany" 3 (some .long) "sum" (rm (d + 1) mc ms) (QM mc ms K) pc)) : Le (qVC_sum_21 d mc ms B K) (G cVC_sum "VoyageCompany" 3 (some .long) "sum" (rm (d + 1) mc ms) (QM mc ms K) 21) := by
  unfold qVC_sum_21
  exact (s_ild_n (j := 2) (by decide +kernel) rfl (s_sw (fun x => by
    by_cases h0 : x = 1
    · subst h0
      exact ⟨48, sw_lk (dflt := 44) (ps := #[(1, 26), (2, 35)]) (len := 26) (off := 26) (by decide +kernel) (by decide +kernel) (by decide +kernel) (by decide +kernel), by simpa [swp] using (zVC_sum_48 hB)⟩
    by_cases h1 : x = 2
    · subst h1
      exact ⟨57, sw_lk (dflt := 44) (ps := #[(1, 26), (2, 35)]) (len := 26) (off := 35) (by decide +kernel) (by decide +kernel) (by decide +kernel) (by decide +kernel), by simpa [swp] using (zVC_sum_57 hB)⟩
    have g0 := i32_ne (z := 1) (by decide +kernel) h0
    have g1 := i32_ne (z := 2) (by decide +kernel) h1
    exact ⟨66, sw_lk (dflt := 44) (ps := #[(1, 26), (2, 35)]) (len := 26) (off := 44) (by decide +kernel) (by decide +kernel) (by simp [Op.lookupswitch.offset, g0, g1, Ne.symm g0, Ne.symm g1]) (by decide +kernel), by simpa [swp, h0, h1] using (zVC_sum_66 hB)⟩)))
def qVC_sum_17 (d mc ms : Nat) (B : Nat → Pd) (K : Ps) : Pd := (i_cl (-1) (i_lret mc ms K))
theorem zVC_sum_17 {d mc ms : Nat} {B : Nat → Pd} {K : Ps} (hB : ∀ pc, Le (B pc) (G cVC_sum "VoyageCompany" 3 (some .long) "sum" (rm (d + 1) mc ms) (QM mc ms K) pc)) : Le (qVC_sum_17 d mc ms B K) (G cVC_sum "VoyageCompany" 3 (some .long) "sum" (rm (d + 1) mc ms) (QM mc ms K) 17) := by
  unfold qVC_sum_17
  exact (s_ldc2 (n := 217) (v := (-1)) (by decide +kernel) (lw_gm (by decide +kernel) (by decide +kernel)) (s_lret (by decide +kernel) rfl))
def qVC_sum_11 (d mc ms : Nat) (B : Nat → Pd) (K : Ps) : Pd := (i_ild 2 (i_ci 7 (i_ic_lt (qVC_sum_21 d mc ms B K) (qVC_sum_17 d mc ms B K))))
theorem zVC_sum_11 {d mc ms : Nat} {B : Nat → Pd} {K : Ps} (hB : ∀ pc, Le (B pc) (G cVC_sum "VoyageCompany" 3 (some .long) "sum" (rm (d + 1) mc ms) (QM mc ms K) pc)) : Le (qVC_sum_11 d mc ms B K) (G cVC_sum "VoyageCompany" 3 (some .long) "sum" (rm (d + 1) mc ms) (QM mc ms K) 11) := by
  unfold qVC_sum_11
  exact (s_ild_n (j := 2) (by decide +kernel) rfl (s_bipush (n := 7) (v := 7) (by decide +kernel) (by decide +kernel) (s_ic_lt (off := 7) (tgt := 21) (by decide +kernel) (by decide) (zVC_sum_21 hB) (zVC_sum_17 hB))))
def qVC_sum_7 (d mc ms : Nat) (B : Nat → Pd) (K : Ps) : Pd := (i_ild 2 (i_if_lt (qVC_sum_17 d mc ms B K) (qVC_sum_11 d mc ms B K)))
theorem zVC_sum_7 {d mc ms : Nat} {B : Nat → Pd} {K : Ps} (hB : ∀ pc, Le (B pc) (G cVC_sum "VoyageCompany" 3 (some .long) "sum" (rm (d + 1) mc ms) (QM mc ms K) pc)) : Le (qVC_sum_7 d mc ms B K) (G cVC_sum "VoyageCompany" 3 (some .long) "sum" (rm (d + 1) mc ms) (QM mc ms K) 7) := by
  unfold qVC_sum_7
  exact (s_ild_n (j := 2) (by decide +kernel) rfl (s_if_lt (off := 9) (tgt := 17) (by decide +kernel) (by decide) (zVC_sum_17 hB) (zVC_sum_11 hB)))
def qVC_sum_0 (d mc ms : Nat) (B : Nat → Pd) (K : Ps) : Pd := (i_ild 1 (i_call 2 11 yVC_isGood cVC_isGood 1 (some .boolean) mc ms d 1 (i_if_eq (qVC_sum_17 d mc ms B K) (qVC_sum_7 d mc ms B K))))
theorem zVC_sum_0 {d mc ms : Nat} {B : Nat → Pd} {K : Ps} (hB : ∀ pc, Le (B pc) (G cVC_sum "VoyageCompany" 3 (some .long) "sum" (rm (d + 1) mc ms) (QM mc ms K) pc)) : Le (qVC_sum_0 d mc ms B K) (G cVC_sum "VoyageCompany" 3 (some .long) "sum" (rm (d + 1) mc ms) (QM mc ms K) 0) := by
  unfold qVC_sum_0
  exact (s_ild_n (j := 1) (by decide +kernel) rfl (s_call (idx := 160) (by decide +kernel) ml11_160 rmk (s_if_eq (off := 13) (tgt := 17) (by decide +kernel) (by decide) (zVC_sum_17 hB) (zVC_sum_7 hB))))
/-- VoyageCompany.sum(II)J, at its places -/
def gVC_sum (d mc ms : Nat) (K : Ps) : Nat → Pd := G cVC_sum "VoyageCompany" 3 (some .long) "sum" (rm (d + 1) mc ms) (QM mc ms K)
theorem eVC_sum {d mc ms : Nat} {K : Ps} {av : List Value} {E : Nat → Prop} {R : Nat → Nat → Value} {I : Nat → Nat → Int32} {J : Nat → Nat → Int64} (hn : (lg_sl av).length ≤ 3) (h : qVC_sum_0 d mc ms (gVC_sum d mc ms K) K (lv_args 0 av) [] E R I J 0 0) : CL yVC_sum cVC_sum 3 (some .long) (d + 1) mc ms av E R I J K :=
  CL.of (by decide +kernel) hn (zVC_sum_0 (fun _ => Le.refl) _ _ _ _ _ _ _ _ h)
def qVC_divide_40 (d mc ms : Nat) (B : Nat → Pd) (K : Ps) : Pd := (i_ald 0 (i_getr 11 0 (i_getr 1 7 (i_ild 1 (i_ild 2 (i_call 0 8 yStock_share cStock_share 9 (some .int) mc ms d 3 (i_ist 3 (i_ald 0 (i_getr 11 0 (i_getr 1 5 (i_ci 0 (i_aald (i_getr 5 1 (i_ild 1 (i_dup2 (i_iald (i_ild 3 (i_isub (i_iast (i_ald 0 (i_getr 11 0 (i_getr 1 8 (i_ild 1 (i_ci 5 (i_ild 3 (i_call 0 0 yBooks_enter cBooks_enter 4 none mc ms d 4 (i_ild 3 (i_iret mc ms K))))))))))))))))))))))))))))
theorem zVC_divide_40 {d mc ms : Nat} {B : Nat → Pd} {K : Ps} (hB : ∀ pc, Le (B pc) (G cVC_divide "VoyageCompany" 4 (some .int) "divide" (rm (d + 1) mc ms) (QM mc ms K) pc)) : Le (qVC_divide_40 d mc ms B K) (G cVC_divide "VoyageCompany" 4 (some .int) "divide" (rm (d + 1) mc ms) (QM mc ms K) 40) := by
  unfold qVC_divide_40
  exact (s_ald_n (j := 0) (by decide +kernel) rfl (s_getr (idx := 10) (by decide +kernel) fl11_10 (by decide) (s_getr (idx := 125) (by decide +kernel) fl11_125 (by decide) (s_ild_n (j := 1) (by decide +kernel) rfl (s_ild_n (j := 2) (by decide +kernel) rfl (s_call (idx := 230) (by decide +kernel) ml11_230 rmk (s_ist_n (j := 3) (by decide +kernel) rfl (by decide) (s_ald_n (j := 0) (by decide +kernel) rfl (s_getr (idx := 10) (by decide +kernel) fl11_10 (by decide) (s_getr (idx := 59) (by decide +kernel) fl11_59 (by decide) (s_iconst (n := 0) (v := 0) (by decide +kernel) (by decide +kernel) (s_aald (by decide +kernel) (s_getr (idx := 144) (by decide +kernel) fl11_144 (by decide) (s_ild_n (j := 1) (by decide +kernel) rfl (s_dup2 (by decide +kernel) (s_iald (by decide +kernel) (s_ild_n (j := 3) (by decide +kernel) rfl (s_isub (by decide +kernel) (s_iast (by decide +kernel) (s_ald_n (j := 0) (by decide +kernel) rfl (s_getr (idx := 10) (by decide +kernel) fl11_10 (by decide) (s_getr (idx := 147) (by decide +kernel) fl11_147 (by decide) (s_ild_n (j := 1) (by decide +kernel) rfl (s_iconst (n := 5) (v := 5) (by decide +kernel) (by decide +kernel) (s_ild_n (j := 3) (by decide +kernel) rfl (s_call (idx := 151) (by decide +kernel) ml11_151 rmk (s_ild_n (j := 3) (by decide +kernel) rfl (s_iret (by decide +kernel) rfl))))))))))))))))))))))))))))
def qVC_divide_38 (d mc ms : Nat) (B : Nat → Pd) (K : Ps) : Pd := (i_ci (-1) (i_iret mc ms K))
theorem zVC_divide_38 {d mc ms : Nat} {B : Nat → Pd} {K : Ps} (hB : ∀ pc, Le (B pc) (G cVC_divide "VoyageCompany" 4 (some .int) "divide" (rm (d + 1) mc ms) (QM mc ms K) pc)) : Le (qVC_divide_38 d mc ms B K) (G cVC_divide "VoyageCompany" 4 (some .int) "divide" (rm (d + 1) mc ms) (QM mc ms K) 38) := by
  unfold qVC_divide_38
  exact (s_iconst (n := (-1)) (v := (-1)) (by decide +kernel) (by decide +kernel) (s_iret (by decide +kernel) rfl))
def qVC_divide_26 (d mc ms : Nat) (B : Nat → Pd) (K : Ps) : Pd := (i_ild 2 (i_ald 0 (i_getr 11 0 (i_ild 1 (i_call 0 1 yCompany_freeAtHome cCompany_freeAtHome 2 (some .int) mc ms d 2 (i_ic_le (qVC_divide_40 d mc ms B K) (qVC_divide_38 d mc ms B K)))))))
theorem zVC_divide_26 {d mc ms : Nat} {B : Nat → Pd} {K : Ps} (hB : ∀ pc, Le (B pc) (G cVC_divide "VoyageCompany" 4 (some .int) "divide" (rm (d + 1) mc ms) (QM mc ms K) pc)) : Le (qVC_divide_26 d mc ms B K) (G cVC_divide "VoyageCompany" 4 (some .int) "divide" (rm (d + 1) mc ms) (QM mc ms K) 26) := by
  unfold qVC_divide_26
  exact (s_ild_n (j := 2) (by decide +kernel) rfl (s_ald_n (j := 0) (by decide +kernel) rfl (s_getr (idx := 10) (by decide +kernel) fl11_10 (by decide) (s_ild_n (j := 1) (by decide +kernel) rfl (s_call (idx := 163) (by decide +kernel) ml11_163 rmk (s_ic_le (off := 5) (tgt := 40) (by decide +kernel) (by decide) (zVC_divide_40 hB) (zVC_divide_38 hB)))))))
def qVC_divide_21 (d mc ms : Nat) (B : Nat → Pd) (K : Ps) : Pd := (i_ild 2 (i_ci 1 (i_ic_lt (qVC_divide_38 d mc ms B K) (qVC_divide_26 d mc ms B K))))
theorem zVC_divide_21 {d mc ms : Nat} {B : Nat → Pd} {K : Ps} (hB : ∀ pc, Le (B pc) (G cVC_divide "VoyageCompany" 4 (some .int) "divide" (rm (d + 1) mc ms) (QM mc ms K) pc)) : Le (qVC_divide_21 d mc ms B K) (G cVC_divide "VoyageCompany" 4 (some .int) "divide" (rm (d + 1) mc ms) (QM mc ms K) 21) := by
  unfold qVC_divide_21
  exact (s_ild_n (j := 2) (by decide +kernel) rfl (s_iconst (n := 1) (v := 1) (by decide +kernel) (by decide +kernel) (s_ic_lt (off := 15) (tgt := 38) (by decide +kernel) (by decide) (zVC_divide_38 hB) (zVC_divide_26 hB))))
def qVC_divide_7 (d mc ms : Nat) (B : Nat → Pd) (K : Ps) : Pd := (i_ald 0 (i_getr 11 0 (i_getr 1 7 (i_geti 8 1 (i_ci 1 (i_ic_lt (qVC_divide_38 d mc ms B K) (qVC_divide_21 d mc ms B K)))))))
theorem zVC_divide_7 {d mc ms : Nat} {B : Nat → Pd} {K : Ps} (hB : ∀ pc, Le (B pc) (G cVC_divide "VoyageCompany" 4 (some .int) "divide" (rm (d + 1) mc ms) (QM mc ms K) pc)) : Le (qVC_divide_7 d mc ms B K) (G cVC_divide "VoyageCompany" 4 (some .int) "divide" (rm (d + 1) mc ms) (QM mc ms K) 7) := by
  unfold qVC_divide_7
  exact (s_ald_n (j := 0) (by decide +kernel) rfl (s_getr (idx := 10) (by decide +kernel) fl11_10 (by decide) (s_getr (idx := 125) (by decide +kernel) fl11_125 (by decide) (s_geti (idx := 132) (by decide +kernel) fl11_132 (by decide) (s_iconst (n := 1) (v := 1) (by decide +kernel) (by decide +kernel) (s_ic_lt (off := 20) (tgt := 38) (by decide +kernel) (by decide) (zVC_divide_38 hB) (zVC_divide_21 hB)))))))
def qVC_divide_0 (d mc ms : Nat) (B : Nat → Pd) (K : Ps) : Pd := (i_ild 1 (i_call 2 11 yVC_isGood cVC_isGood 1 (some .boolean) mc ms d 1 (i_if_eq (qVC_divide_38 d mc ms B K) (qVC_divide_7 d mc ms B K))))
theorem zVC_divide_0 {d mc ms : Nat} {B : Nat → Pd} {K : Ps} (hB : ∀ pc, Le (B pc) (G cVC_divide "VoyageCompany" 4 (some .int) "divide" (rm (d + 1) mc ms) (QM mc ms K) pc)) : Le (qVC_divide_0 d mc ms B K) (G cVC_divide "VoyageCompany" 4 (some .int) "divide" (rm (d + 1) mc ms) (QM mc ms K) 0) := by
  unfold qVC_divide_0
  exact (s_ild_n (j := 1) (by decide +kernel) rfl (s_call (idx := 160) (by decide +kernel) ml11_160 rmk (s_if_eq (off := 34) (tgt := 38) (by decide +kernel) (by decide) (zVC_divide_38 hB) (zVC_divide_7 hB))))
/-- VoyageCompany.divide(II)I, at its places -/
def gVC_divide (d mc ms : Nat) (K : Ps) : Nat → Pd := G cVC_divide "VoyageCompany" 4 (some .int) "divide" (rm (d + 1) mc ms) (QM mc ms K)
theorem eVC_divide {d mc ms : Nat} {K : Ps} {av : List Value} {E : Nat → Prop} {R : Nat → Nat → Value} {I : Nat → Nat → Int32} {J : Nat → Nat → Int64} (hn : (lg_sl av).length ≤ 4) (h : qVC_divide_0 d mc ms (gVC_divide d mc ms K) K (lv_args 0 av) [] E R I J 0 0) : CL yVC_divide cVC_divide 4 (some .int) (d + 1) mc ms av E R I J K :=
  CL.of (by decide +kernel) hn (zVC_divide_0 (fun _ => Le.refl) _ _ _ _ _ _ _ _ h)
def qVC_got_34 (d mc ms : Nat) (B : Nat → Pd) (K : Ps) : Pd := (i_iret mc ms K)
theorem zVC_got_34 {d mc ms : Nat} {B : Nat → Pd} {K : Ps} (hB : ∀ pc, Le (B pc) (G cVC_got "VoyageCompany" 3 (some .int) "got" (rm (d + 1) mc ms) (QM mc ms K) pc)) : Le (qVC_got_34 d mc ms B K) (G cVC_got "VoyageCompany" 3 (some .int) "got" (rm (d + 1) mc ms) (QM mc ms K) 34) := by
  unfold qVC_got_34
  exact (s_iret (by decide +kernel) rfl)
def qVC_got_33 (d mc ms : Nat) (B : Nat → Pd) (K : Ps) : Pd := (i_ci (-1) (qVC_got_34 d mc ms B K))
theorem zVC_got_33 {d mc ms : Nat} {B : Nat → Pd} {K : Ps} (hB : ∀ pc, Le (B pc) (G cVC_got "VoyageCompany" 3 (some .int) "got" (rm (d + 1) mc ms) (QM mc ms K) pc)) : Le (qVC_got_33 d mc ms B K) (G cVC_got "VoyageCompany" 3 (some .int) "got" (rm (d + 1) mc ms) (QM mc ms K) 33) := by
  unfold qVC_got_33
  exact (s_iconst (n := (-1)) (v := (-1)) (by decide +kernel) (by decide +kernel) (zVC_got_34 hB))
def qVC_got_14 (d mc ms : Nat) (B : Nat → Pd) (K : Ps) : Pd := (i_ald 0 (i_getr 11 0 (i_getr 1 7 (i_getr 8 4 (i_ild 1 (i_ci 4 (i_imul (i_ild 2 (i_iadd (i_iald (qVC_got_34 d mc ms B K)))))))))))
theorem zVC_got_14 {d mc ms : Nat} {B : Nat → Pd} {K : Ps} (hB : ∀ pc, Le (B pc) (G cVC_got "VoyageCompany" 3 (some .int) "got" (rm (d + 1) mc ms) (QM mc ms K) pc)) : Le (qVC_got_14 d mc ms B K) (G cVC_got "VoyageCompany" 3 (some .int) "got" (rm (d + 1) mc ms) (QM mc ms K) 14) := by
  unfold qVC_got_14
  exact (s_ald_n (j := 0) (by decide +kernel) rfl (s_getr (idx := 10) (by decide +kernel) fl11_10 (by decide) (s_getr (idx := 125) (by decide +kernel) fl11_125 (by decide) (s_getr (idx := 234) (by decide +kernel) fl11_234 (by decide) (s_ild_n (j := 1) (by decide +kernel) rfl (s_iconst (n := 4) (v := 4) (by decide +kernel) (by decide +kernel) (s_imul (by decide +kernel) (s_ild_n (j := 2) (by decide +kernel) rfl (s_iadd (by decide +kernel) (s_iald (by decide +kernel) (s_goto (off := 4) (tgt := 34) (by decide +kernel) (by decide) (zVC_got_34 hB))))))))))))
def qVC_got_7 (d mc ms : Nat) (B : Nat → Pd) (K : Ps) : Pd := (i_ild 2 (i_call 2 11 yVC_isGood cVC_isGood 1 (some .boolean) mc ms d 1 (i_if_eq (qVC_got_33 d mc ms B K) (qVC_got_14 d mc ms B K))))
theorem zVC_got_7 {d mc ms : Nat} {B : Nat → Pd} {K : Ps} (hB : ∀ pc, Le (B pc) (G cVC_got "VoyageCompany" 3 (some .int) "got" (rm (d + 1) mc ms) (QM mc ms K) pc)) : Le (qVC_got_7 d mc ms B K) (G cVC_got "VoyageCompany" 3 (some .int) "got" (rm (d + 1) mc ms) (QM mc ms K) 7) := by
  unfold qVC_got_7
  exact (s_ild_n (j := 2) (by decide +kernel) rfl (s_call (idx := 160) (by decide +kernel) ml11_160 rmk (s_if_eq (off := 22) (tgt := 33) (by decide +kernel) (by decide) (zVC_got_33 hB) (zVC_got_14 hB))))
def qVC_got_0 (d mc ms : Nat) (B : Nat → Pd) (K : Ps) : Pd := (i_ild 1 (i_call 2 11 yVC_isPerson cVC_isPerson 1 (some .boolean) mc ms d 1 (i_if_eq (qVC_got_33 d mc ms B K) (qVC_got_7 d mc ms B K))))
theorem zVC_got_0 {d mc ms : Nat} {B : Nat → Pd} {K : Ps} (hB : ∀ pc, Le (B pc) (G cVC_got "VoyageCompany" 3 (some .int) "got" (rm (d + 1) mc ms) (QM mc ms K) pc)) : Le (qVC_got_0 d mc ms B K) (G cVC_got "VoyageCompany" 3 (some .int) "got" (rm (d + 1) mc ms) (QM mc ms K) 0) := by
  unfold qVC_got_0
  exact (s_ild_n (j := 1) (by decide +kernel) rfl (s_call (idx := 129) (by decide +kernel) ml11_129 rmk (s_if_eq (off := 29) (tgt := 33) (by decide +kernel) (by decide) (zVC_got_33 hB) (zVC_got_7 hB))))
/-- VoyageCompany.got(II)I, at its places -/
def gVC_got (d mc ms : Nat) (K : Ps) : Nat → Pd := G cVC_got "VoyageCompany" 3 (some .int) "got" (rm (d + 1) mc ms) (QM mc ms K)
theorem eVC_got {d mc ms : Nat} {K : Ps} {av : List Value} {E : Nat → Prop} {R : Nat → Nat → Value} {I : Nat → Nat → Int32} {J : Nat → Nat → Int64} (hn : (lg_sl av).length ≤ 3) (h : qVC_got_0 d mc ms (gVC_got d mc ms K) K (lv_args 0 av) [] E R I J 0 0) : CL yVC_got cVC_got 3 (some .int) (d + 1) mc ms av E R I J K :=
  CL.of (by decide +kernel) hn (zVC_got_0 (fun _ => Le.refl) _ _ _ _ _ _ _ _ h)
def qVC_carried_23 (d mc ms : Nat) (B : Nat → Pd) (K : Ps) : Pd := (i_iret mc ms K)
theorem zVC_carried_23 {d mc ms : Nat} {B : Nat → Pd} {K : Ps} (hB : ∀ pc, Le (B pc) (G cVC_carried "VoyageCompany" 2 (some .int) "carried" (rm (d + 1) mc ms) (QM mc ms K) pc)) : Le (qVC_carried_23 d mc ms B K) (G cVC_carried "VoyageCompany" 2 (some .int) "carried" (rm (d + 1) mc ms) (QM mc ms K) 23) := by
  unfold qVC_carried_23
  exact (s_iret (by decide +kernel) rfl)
def qVC_carried_22 (d mc ms : Nat) (B : Nat → Pd) (K : Ps) : Pd := (i_ci (-1) (qVC_carried_23 d mc ms B K))
theorem zVC_carried_22 {d mc ms : Nat} {B : Nat → Pd} {K : Ps} (hB : ∀ pc, Le (B pc) (G cVC_carried "VoyageCompany" 2 (some .int) "carried" (rm (d + 1) mc ms) (QM mc ms K) pc)) : Le (qVC_carried_22 d mc ms B K) (G cVC_carried "VoyageCompany" 2 (some .int) "carried" (rm (d + 1) mc ms) (QM mc ms K) 22) := by
  unfold qVC_carried_22
  exact (s_iconst (n := (-1)) (v := (-1)) (by decide +kernel) (by decide +kernel) (zVC_carried_23 hB))
def qVC_carried_7 (d mc ms : Nat) (B : Nat → Pd) (K : Ps) : Pd := (i_ald 0 (i_getr 11 0 (i_getr 1 7 (i_getr 8 5 (i_ild 1 (i_iald (qVC_carried_23 d mc ms B K)))))))
theorem zVC_carried_7 {d mc ms : Nat} {B : Nat → Pd} {K : Ps} (hB : ∀ pc, Le (B pc) (G cVC_carried "VoyageCompany" 2 (some .int) "carried" (rm (d + 1) mc ms) (QM mc ms K) pc)) : Le (qVC_carried_7 d mc ms B K) (G cVC_carried "VoyageCompany" 2 (some .int) "carried" (rm (d + 1) mc ms) (QM mc ms K) 7) := by
  unfold qVC_carried_7
  exact (s_ald_n (j := 0) (by decide +kernel) rfl (s_getr (idx := 10) (by decide +kernel) fl11_10 (by decide) (s_getr (idx := 125) (by decide +kernel) fl11_125 (by decide) (s_getr (idx := 237) (by decide +kernel) fl11_237 (by decide) (s_ild_n (j := 1) (by decide +kernel) rfl (s_iald (by decide +kernel) (s_goto (off := 4) (tgt := 23) (by decide +kernel) (by decide) (zVC_carried_23 hB))))))))
def qVC_carried_0 (d mc ms : Nat) (B : Nat → Pd) (K : Ps) : Pd := (i_ild 1 (i_call 2 11 yVC_isGood cVC_isGood 1 (some .boolean) mc ms d 1 (i_if_eq (qVC_carried_22 d mc ms B K) (qVC_carried_7 d mc ms B K))))
theorem zVC_carried_0 {d mc ms : Nat} {B : Nat → Pd} {K : Ps} (hB : ∀ pc, Le (B pc) (G cVC_carried "VoyageCompany" 2 (some .int) "carried" (rm (d + 1) mc ms) (QM mc ms K) pc)) : Le (qVC_carried_0 d mc ms B K) (G cVC_carried "VoyageCompany" 2 (some .int) "carried" (rm (d + 1) mc ms) (QM mc ms K) 0) := by
  unfold qVC_carried_0
  exact (s_ild_n (j := 1) (by decide +kernel) rfl (s_call (idx := 160) (by decide +kernel) ml11_160 rmk (s_if_eq (off := 18) (tgt := 22) (by decide +kernel) (by decide) (zVC_carried_22 hB) (zVC_carried_7 hB))))
/-- VoyageCompany.carried(I)I, at its places -/
def gVC_carried (d mc ms : Nat) (K : Ps) : Nat → Pd := G cVC_carried "VoyageCompany" 2 (some .int) "carried" (rm (d + 1) mc ms) (QM mc ms K)
theorem eVC_carried {d mc ms : Nat} {K : Ps} {av : List Value} {E : Nat → Prop} {R : Nat → Nat → Value} {I : Nat → Nat → Int32} {J : Nat → Nat → Int64} (hn : (lg_sl av).length ≤ 2) (h : qVC_carried_0 d mc ms (gVC_carried d mc ms K) K (lv_args 0 av) [] E R I J 0 0) : CL yVC_carried cVC_carried 2 (some .int) (d + 1) mc ms av E R I J K :=
  CL.of (by decide +kernel) hn (zVC_carried_0 (fun _ => Le.refl) _ _ _ _ _ _ _ _ h)
def qVC_count_69 (d mc ms : Nat) (B : Nat → Pd) (K : Ps) : Pd := (i_ci (-1) (i_iret mc ms K))
theorem zVC_count_69 {d mc ms : Nat} {B : Nat → Pd} {K : Ps} (hB : ∀ pc, Le (B pc) (G cVC_count "VoyageCompany" 2 (some .int) "count" (rm (d + 1) mc ms) (QM mc ms K) pc)) : Le (qVC_count_69 d mc ms B K) (G cVC_count "VoyageCompany" 2 (some .int) "count" (rm (d + 1) mc ms) (QM mc ms K) 69) := by
  unfold qVC_count_69
  exact (s_iconst (n := (-1)) (v := (-1)) (by decide +kernel) (by decide +kernel) (s_iret (by decide +kernel) rfl))
def qVC_count_59 (d mc ms : Nat) (B : Nat → Pd) (K : Ps) : Pd := (i_ald 0 (i_getr 11 0 (i_ci (-2) (i_call 0 1 yCompany_shipsAt cCompany_shipsAt 4 (some .int) mc ms d 2 (i_iret mc ms K)))))
theorem zVC_count_59 {d mc ms : Nat} {B : Nat → Pd} {K : Ps} (hB : ∀ pc, Le (B pc) (G cVC_count "VoyageCompany" 2 (some .int) "count" (rm (d + 1) mc ms) (QM mc ms K) pc)) : Le (qVC_count_59 d mc ms B K) (G cVC_count "VoyageCompany" 2 (some .int) "count" (rm (d + 1) mc ms) (QM mc ms K) 59) := by
  unfold qVC_count_59
  exact (s_ald_n (j := 0) (by decide +kernel) rfl (s_getr (idx := 10) (by decide +kernel) fl11_10 (by decide) (s_bipush (n := (-2)) (v := (-2)) (by decide +kernel) (by decide +kernel) (s_call (idx := 240) (by decide +kernel) ml11_240 rmk (s_iret (by decide +kernel) rfl)))))
def qVC_count_48 (d mc ms : Nat) (B : Nat → Pd) (K : Ps) : Pd := (i_ald 0 (i_getr 11 0 (i_getr 1 7 (i_geti 8 1 (i_iret mc ms K)))))
theorem zVC_count_48 {d mc ms : Nat} {B : Nat → Pd} {K : Ps} (hB : ∀ pc, Le (B pc) (G cVC_count "VoyageCompany" 2 (some .int) "count" (rm (d + 1) mc ms) (QM mc ms K) pc)) : Le (qVC_count_48 d mc ms B K) (G cVC_count "VoyageCompany" 2 (some .int) "count" (rm (d + 1) mc ms) (QM mc ms K) 48) := by
  unfold qVC_count_48
  exact (s_ald_n (j := 0) (by decide +kernel) rfl (s_getr (idx := 10) (by decide +kernel) fl11_10 (by decide) (s_getr (idx := 125) (by decide +kernel) fl11_125 (by decide) (s_geti (idx := 132) (by decide +kernel) fl11_132 (by decide) (s_iret (by decide +kernel) rfl)))))
def qVC_count_40 (d mc ms : Nat) (B : Nat → Pd) (K : Ps) : Pd := (i_ald 0 (i_getr 11 0 (i_geti 1 1 (i_iret mc ms K))))
theorem zVC_count_40 {d mc ms : Nat} {B : Nat → Pd} {K : Ps} (hB : ∀ pc, Le (B pc) (G cVC_count "VoyageCompany" 2 (some .int) "count" (rm (d + 1) mc ms) (QM mc ms K) pc)) : Le (qVC_count_40 d mc ms B K) (G cVC_count "VoyageCompany" 2 (some .int) "count" (rm (d + 1) mc ms) (QM mc ms K) 40) := by
  unfold qVC_count_40
  exact (s_ald_n (j := 0) (by decide +kernel) rfl (s_getr (idx := 10) (by decide +kernel) fl11_10 (by decide) (s_geti (idx := 97) (by decide +kernel) fl11_97 (by decide) (s_iret (by decide +kernel) rfl))))
def qVC_count_32 (d mc ms : Nat) (B : Nat → Pd) (K : Ps) : Pd := (i_ald 0 (i_getr 11 0 (i_geti 1 0 (i_iret mc ms K))))
theorem zVC_count_32 {d mc ms : Nat} {B : Nat → Pd} {K : Ps} (hB : ∀ pc, Le (B pc) (G cVC_count "VoyageCompany" 2 (some .int) "count" (rm (d + 1) mc ms) (QM mc ms K) pc)) : Le (qVC_count_32 d mc ms B K) (G cVC_count "VoyageCompany" 2 (some .int) "count" (rm (d + 1) mc ms) (QM mc ms K) 32) := by
  unfold qVC_count_32
  exact (s_ald_n (j := 0) (by decide +kernel) rfl (s_getr (idx := 10) (by decide +kernel) fl11_10 (by decide) (s_geti (idx := 118) (by decide +kernel) fl11_118 (by decide) (s_iret (by decide +kernel) rfl))))
def qVC_count_0 (d mc ms : Nat) (B : Nat → Pd) (K : Ps) : Pd := (i_ild 1 (i_sw [(0, (qVC_count_32 d mc ms B K)), (1, (qVC_count_40 d mc ms B K)), (2, (qVC_count_48 d mc ms B K)), (3, (qVC_count_59 d mc ms B K))] (qVC_count_69 d mc ms B K)))
theorem zVC_count_0 {d mc ms : Nat} {B : Nat → Pd} {K : Ps} (hB : ∀ pc, Le (B pc) (G cVC_count "VoyageCompany" 2 (some .int) "count" (rm (d + 1) mc ms) (QM mc ms K) pc)) : Le (qVC_count_0 d mc ms B K) (G cVC_count "VoyageCompany" 2 (some .int) "count" (rm (d + 1) mc ms) (QM mc ms K) 0) := by
  unfold qVC_count_0
  exact (s_ild_n (j := 1) (by decide +kernel) rfl (s_sw (fun x => by
    by_cases h0 : x = 0
    · subst h0
      exact ⟨32, sw_in (dflt := 68) (lo := 0) (hi := 3) (offs := #[31, 39, 47, 58]) (len := 31) (off := 31) (by decide +kernel) (by decide +kernel) (by decide +kernel) (by decide +kernel) (by decide +kernel), by simpa [swp] using (zVC_count_32 hB)⟩
    by_cases h1 : x = 1
    · subst h1
      exact ⟨40, sw_in (dflt := 68) (lo := 0) (hi := 3) (offs := #[31, 39, 47, 58]) (len := 31) (off := 39) (by decide +kernel) (by decide +kernel) (by decide +kernel) (by decide +kernel) (by decide +kernel), by simpa [swp] using (zVC_count_40 hB)⟩
    by_cases h2 : x = 2
    · subst h2
      exact ⟨48, sw_in (dflt := 68) (lo := 0) (hi := 3) (offs := #[31, 39, 47, 58]) (len := 31) (off := 47) (by decide +kernel) (by decide +kernel) (by decide +kernel) (by decide +kernel) (by decide +kernel), by simpa [swp] using (zVC_count_48 hB)⟩
    by_cases h3 : x = 3
    · subst h3
      exact ⟨59, sw_in (dflt := 68) (lo := 0) (hi := 3) (offs := #[31, 39, 47, 58]) (len := 31) (off := 58) (by decide +kernel) (by decide +kernel) (by decide +kernel) (by decide +kernel) (by decide +kernel), by simpa [swp] using (zVC_count_59 hB)⟩
    have g0 := i32_ne (z := 0) (by decide +kernel) h0
    have g1 := i32_ne (z := 1) (by decide +kernel) h1
    have g2 := i32_ne (z := 2) (by decide +kernel) h2
    have g3 := i32_ne (z := 3) (by decide +kernel) h3
    exact ⟨69, sw_out (dflt := 68) (lo := 0) (hi := 3) (offs := #[31, 39, 47, 58]) (len := 31) (by decide +kernel) (by omega) (by decide +kernel), by simpa [swp, h0, h1, h2, h3] using (zVC_count_69 hB)⟩)))
/-- VoyageCompany.count(I)I, at its places -/
def gVC_count (d mc ms : Nat) (K : Ps) : Nat → Pd := G cVC_count "VoyageCompany" 2 (some .int) "count" (rm (d + 1) mc ms) (QM mc ms K)
theorem eVC_count {d mc ms : Nat} {K : Ps} {av : List Value} {E : Nat → Prop} {R : Nat → Nat → Value} {I : Nat → Nat → Int32} {J : Nat → Nat → Int64} (hn : (lg_sl av).length ≤ 2) (h : qVC_count_0 d mc ms (gVC_count d mc ms K) K (lv_args 0 av) [] E R I J 0 0) : CL yVC_count cVC_count 2 (some .int) (d + 1) mc ms av E R I J K :=
  CL.of (by decide +kernel) hn (zVC_count_0 (fun _ => Le.refl) _ _ _ _ _ _ _ _ h)
def qVC_image_33 (d mc ms : Nat) (B : Nat → Pd) (K : Ps) : Pd := (i_ald 0 (i_getr 11 1 (i_ild 1 (i_aald (i_ald 0 (i_getr 11 0 (i_callA 0 1 yCompany_copyFrom cCompany_copyFrom 3 none mc ms d 2 (i_ci 1 (i_zret mc ms K)))))))))
theorem zVC_image_33 {d mc ms : Nat} {B : Nat → Pd} {K : Ps} (hB : ∀ pc, Le (B pc) (G cVC_image "VoyageCompany" 2 (some .boolean) "image" (rm (d + 1) mc ms) (QM mc ms K) pc)) : Le (qVC_image_33 d mc ms B K) (G cVC_image "VoyageCompany" 2 (some .boolean) "image" (rm (d + 1) mc ms) (QM mc ms K) 33) := by
  unfold qVC_image_33
  exact (s_ald_n (j := 0) (by decide +kernel) rfl (s_getr (idx := 16) (by decide +kernel) fl11_16 (by decide) (s_ild_n (j := 1) (by decide +kernel) rfl (s_aald (by decide +kernel) (s_ald_n (j := 0) (by decide +kernel) rfl (s_getr (idx := 10) (by decide +kernel) fl11_10 (by decide) (s_callA (idx := 243) (by decide +kernel) ml11_243 rmk (s_iconst (n := 1) (v := 1) (by decide +kernel) (by decide +kernel) (s_zret (by decide +kernel) rfl)))))))))
def qVC_image_20 (d mc ms : Nat) (B : Nat → Pd) (K : Ps) : Pd := (i_ald 0 (i_getr 11 1 (i_ild 1 (i_new 1 mc ms (i_dup (i_callA 1 1 yCompany_new cCompany_new 2 none mc ms d 1 (i_aast 17 1 (qVC_image_33 d mc ms B K))))))))
theorem zVC_image_20 {d mc ms : Nat} {B : Nat → Pd} {K : Ps} (hB : ∀ pc, Le (B pc) (G cVC_image "VoyageCompany" 2 (some .boolean) "image" (rm (d + 1) mc ms) (QM mc ms K) pc)) : Le (qVC_image_20 d mc ms B K) (G cVC_image "VoyageCompany" 2 (some .boolean) "image" (rm (d + 1) mc ms) (QM mc ms K) 20) := by
  unfold qVC_image_20
  exact (s_ald_n (j := 0) (by decide +kernel) rfl (s_getr (idx := 16) (by decide +kernel) fl11_16 (by decide) (s_ild_n (j := 1) (by decide +kernel) rfl (s_new (idx := 7) (by decide +kernel) (by decide) (lw_gm (by decide +kernel) (by decide +kernel)) rmn (s_dup (by decide +kernel) (s_callA (idx := 9) (by decide +kernel) ml11_9 rmk (s_aast (by decide +kernel) (by decide +kernel) (zVC_image_33 hB))))))))
def qVC_image_11 (d mc ms : Nat) (B : Nat → Pd) (K : Ps) : Pd := (i_ald 0 (i_getr 11 1 (i_ild 1 (i_aald (i_ifnonnull (qVC_image_33 d mc ms B K) (qVC_image_20 d mc ms B K))))))
theorem zVC_image_11 {d mc ms : Nat} {B : Nat → Pd} {K : Ps} (hB : ∀ pc, Le (B pc) (G cVC_image "VoyageCompany" 2 (some .boolean) "image" (rm (d + 1) mc ms) (QM mc ms K) pc)) : Le (qVC_image_11 d mc ms B K) (G cVC_image "VoyageCompany" 2 (some .boolean) "image" (rm (d + 1) mc ms) (QM mc ms K) 11) := by
  unfold qVC_image_11
  exact (s_ald_n (j := 0) (by decide +kernel) rfl (s_getr (idx := 16) (by decide +kernel) fl11_16 (by decide) (s_ild_n (j := 1) (by decide +kernel) rfl (s_aald (by decide +kernel) (s_ifnonnull (off := 16) (tgt := 33) (by decide +kernel) (by decide) (zVC_image_33 hB) (zVC_image_20 hB))))))
def qVC_image_9 (d mc ms : Nat) (B : Nat → Pd) (K : Ps) : Pd := (i_ci 0 (i_zret mc ms K))
theorem zVC_image_9 {d mc ms : Nat} {B : Nat → Pd} {K : Ps} (hB : ∀ pc, Le (B pc) (G cVC_image "VoyageCompany" 2 (some .boolean) "image" (rm (d + 1) mc ms) (QM mc ms K) pc)) : Le (qVC_image_9 d mc ms B K) (G cVC_image "VoyageCompany" 2 (some .boolean) "image" (rm (d + 1) mc ms) (QM mc ms K) 9) := by
  unfold qVC_image_9
  exact (s_iconst (n := 0) (v := 0) (by decide +kernel) (by decide +kernel) (s_zret (by decide +kernel) rfl))
def qVC_image_4 (d mc ms : Nat) (B : Nat → Pd) (K : Ps) : Pd := (i_ild 1 (i_ci 3 (i_ic_lt (qVC_image_11 d mc ms B K) (qVC_image_9 d mc ms B K))))
theorem zVC_image_4 {d mc ms : Nat} {B : Nat → Pd} {K : Ps} (hB : ∀ pc, Le (B pc) (G cVC_image "VoyageCompany" 2 (some .boolean) "image" (rm (d + 1) mc ms) (QM mc ms K) pc)) : Le (qVC_image_4 d mc ms B K) (G cVC_image "VoyageCompany" 2 (some .boolean) "image" (rm (d + 1) mc ms) (QM mc ms K) 4) := by
  unfold qVC_image_4
  exact (s_ild_n (j := 1) (by decide +kernel) rfl (s_iconst (n := 3) (v := 3) (by decide +kernel) (by decide +kernel) (s_ic_lt (off := 5) (tgt := 11) (by decide +kernel) (by decide) (zVC_image_11 hB) (zVC_image_9 hB))))
def qVC_image_0 (d mc ms : Nat) (B : Nat → Pd) (K : Ps) : Pd := (i_ild 1 (i_if_lt (qVC_image_9 d mc ms B K) (qVC_image_4 d mc ms B K)))
theorem zVC_image_0 {d mc ms : Nat} {B : Nat → Pd} {K : Ps} (hB : ∀ pc, Le (B pc) (G cVC_image "VoyageCompany" 2 (some .boolean) "image" (rm (d + 1) mc ms) (QM mc ms K) pc)) : Le (qVC_image_0 d mc ms B K) (G cVC_image "VoyageCompany" 2 (some .boolean) "image" (rm (d + 1) mc ms) (QM mc ms K) 0) := by
  unfold qVC_image_0
  exact (s_ild_n (j := 1) (by decide +kernel) rfl (s_if_lt (off := 8) (tgt := 9) (by decide +kernel) (by decide) (zVC_image_9 hB) (zVC_image_4 hB)))
/-- VoyageCompany.image(I)Z, at its places -/
def gVC_image (d mc ms : Nat) (K : Ps) : Nat → Pd := G cVC_image "VoyageCompany" 2 (some .boolean) "image" (rm (d + 1) mc ms) (QM mc ms K)
theorem eVC_image {d mc ms : Nat} {K : Ps} {av : List Value} {E : Nat → Prop} {R : Nat → Nat → Value} {I : Nat → Nat → Int32} {J : Nat → Nat → Int64} (hn : (lg_sl av).length ≤ 2) (h : qVC_image_0 d mc ms (gVC_image d mc ms K) K (lv_args 0 av) [] E R I J 0 0) : CL yVC_image cVC_image 2 (some .boolean) (d + 1) mc ms av E R I J K :=
  CL.of (by decide +kernel) hn (zVC_image_0 (fun _ => Le.refl) _ _ _ _ _ _ _ _ h)
def qVC_again_20 (d mc ms : Nat) (B : Nat → Pd) (K : Ps) : Pd := (i_ald 0 (i_getr 11 0 (i_ald 0 (i_getr 11 1 (i_ild 1 (i_aald (i_callA 0 1 yCompany_copyFrom cCompany_copyFrom 3 none mc ms d 2 (i_ci 1 (i_zret mc ms K)))))))))
theorem zVC_again_20 {d mc ms : Nat} {B : Nat → Pd} {K : Ps} (hB : ∀ pc, Le (B pc) (G cVC_again "VoyageCompany" 2 (some .boolean) "again" (rm (d + 1) mc ms) (QM mc ms K) pc)) : Le (qVC_again_20 d mc ms B K) (G cVC_again "VoyageCompany" 2 (some .boolean) "again" (rm (d + 1) mc ms) (QM mc ms K) 20) := by
  unfold qVC_again_20
  exact (s_ald_n (j := 0) (by decide +kernel) rfl (s_getr (idx := 10) (by decide +kernel) fl11_10 (by decide) (s_ald_n (j := 0) (by decide +kernel) rfl (s_getr (idx := 16) (by decide +kernel) fl11_16 (by decide) (s_ild_n (j := 1) (by decide +kernel) rfl (s_aald (by decide +kernel) (s_callA (idx := 243) (by decide +kernel) ml11_243 rmk (s_iconst (n := 1) (v := 1) (by decide +kernel) (by decide +kernel) (s_zret (by decide +kernel) rfl)))))))))
def qVC_again_18 (d mc ms : Nat) (B : Nat → Pd) (K : Ps) : Pd := (i_ci 0 (i_zret mc ms K))
theorem zVC_again_18 {d mc ms : Nat} {B : Nat → Pd} {K : Ps} (hB : ∀ pc, Le (B pc) (G cVC_again "VoyageCompany" 2 (some .boolean) "again" (rm (d + 1) mc ms) (QM mc ms K) pc)) : Le (qVC_again_18 d mc ms B K) (G cVC_again "VoyageCompany" 2 (some .boolean) "again" (rm (d + 1) mc ms) (QM mc ms K) 18) := by
  unfold qVC_again_18
  exact (s_iconst (n := 0) (v := 0) (by decide +kernel) (by decide +kernel) (s_zret (by decide +kernel) rfl))
def qVC_again_9 (d mc ms : Nat) (B : Nat → Pd) (K : Ps) : Pd := (i_ald 0 (i_getr 11 1 (i_ild 1 (i_aald (i_ifnonnull (qVC_again_20 d mc ms B K) (qVC_again_18 d mc ms B K))))))
theorem zVC_again_9 {d mc ms : Nat} {B : Nat → Pd} {K : Ps} (hB : ∀ pc, Le (B pc) (G cVC_again "VoyageCompany" 2 (some .boolean) "again" (rm (d + 1) mc ms) (QM mc ms K) pc)) : Le (qVC_again_9 d mc ms B K) (G cVC_again "VoyageCompany" 2 (some .boolean) "again" (rm (d + 1) mc ms) (QM mc ms K) 9) := by
  unfold qVC_again_9
  exact (s_ald_n (j := 0) (by decide +kernel) rfl (s_getr (idx := 16) (by decide +kernel) fl11_16 (by decide) (s_ild_n (j := 1) (by decide +kernel) rfl (s_aald (by decide +kernel) (s_ifnonnull (off := 5) (tgt := 20) (by decide +kernel) (by decide) (zVC_again_20 hB) (zVC_again_18 hB))))))
def qVC_again_4 (d mc ms : Nat) (B : Nat → Pd) (K : Ps) : Pd := (i_ild 1 (i_ci 3 (i_ic_ge (qVC_again_18 d mc ms B K) (qVC_again_9 d mc ms B K))))
theorem zVC_again_4 {d mc ms : Nat} {B : Nat → Pd} {K : Ps} (hB : ∀ pc, Le (B pc) (G cVC_again "VoyageCompany" 2 (some .boolean) "again" (rm (d + 1) mc ms) (QM mc ms K) pc)) : Le (qVC_again_4 d mc ms B K) (G cVC_again "VoyageCompany" 2 (some .boolean) "again" (rm (d + 1) mc ms) (QM mc ms K) 4) := by
  unfold qVC_again_4
  exact (s_ild_n (j := 1) (by decide +kernel) rfl (s_iconst (n := 3) (v := 3) (by decide +kernel) (by decide +kernel) (s_ic_ge (off := 12) (tgt := 18) (by decide +kernel) (by decide) (zVC_again_18 hB) (zVC_again_9 hB))))
def qVC_again_0 (d mc ms : Nat) (B : Nat → Pd) (K : Ps) : Pd := (i_ild 1 (i_if_lt (qVC_again_18 d mc ms B K) (qVC_again_4 d mc ms B K)))
theorem zVC_again_0 {d mc ms : Nat} {B : Nat → Pd} {K : Ps} (hB : ∀ pc, Le (B pc) (G cVC_again "VoyageCompany" 2 (some .boolean) "again" (rm (d + 1) mc ms) (QM mc ms K) pc)) : Le (qVC_again_0 d mc ms B K) (G cVC_again "VoyageCompany" 2 (some .boolean) "again" (rm (d + 1) mc ms) (QM mc ms K) 0) := by
  unfold qVC_again_0
  exact (s_ild_n (j := 1) (by decide +kernel) rfl (s_if_lt (off := 17) (tgt := 18) (by decide +kernel) (by decide) (zVC_again_18 hB) (zVC_again_4 hB)))
/-- VoyageCompany.again(I)Z, at its places -/
def gVC_again (d mc ms : Nat) (K : Ps) : Nat → Pd := G cVC_again "VoyageCompany" 2 (some .boolean) "again" (rm (d + 1) mc ms) (QM mc ms K)
theorem eVC_again {d mc ms : Nat} {K : Ps} {av : List Value} {E : Nat → Prop} {R : Nat → Nat → Value} {I : Nat → Nat → Int32} {J : Nat → Nat → Int64} (hn : (lg_sl av).length ≤ 2) (h : qVC_again_0 d mc ms (gVC_again d mc ms K) K (lv_args 0 av) [] E R I J 0 0) : CL yVC_again cVC_again 2 (some .boolean) (d + 1) mc ms av E R I J K :=
  CL.of (by decide +kernel) hn (zVC_again_0 (fun _ => Le.refl) _ _ _ _ _ _ _ _ h)
def qVC_isPort_14 (d mc ms : Nat) (B : Nat → Pd) (K : Ps) : Pd := (i_zret mc ms K)
theorem zVC_isPort_14 {d mc ms : Nat} {B : Nat → Pd} {K : Ps} (hB : ∀ pc, Le (B pc) (G cVC_isPort "VoyageCompany" 1 (some .boolean) "isPort" (rm (d + 1) mc ms) (QM mc ms K) pc)) : Le (qVC_isPort_14 d mc ms B K) (G cVC_isPort "VoyageCompany" 1 (some .boolean) "isPort" (rm (d + 1) mc ms) (QM mc ms K) 14) := by
  unfold qVC_isPort_14
  exact (s_zret (by decide +kernel) rfl)
def qVC_isPort_13 (d mc ms : Nat) (B : Nat → Pd) (K : Ps) : Pd := (i_ci 0 (qVC_isPort_14 d mc ms B K))
theorem zVC_isPort_13 {d mc ms : Nat} {B : Nat → Pd} {K : Ps} (hB : ∀ pc, Le (B pc) (G cVC_isPort "VoyageCompany" 1 (some .boolean) "isPort" (rm (d + 1) mc ms) (QM mc ms K) pc)) : Le (qVC_isPort_13 d mc ms B K) (G cVC_isPort "VoyageCompany" 1 (some .boolean) "isPort" (rm (d + 1) mc ms) (QM mc ms K) 13) := by
  unfold qVC_isPort_13
  exact (s_iconst (n := 0) (v := 0) (by decide +kernel) (by decide +kernel) (zVC_isPort_14 hB))
def qVC_isPort_9 (d mc ms : Nat) (B : Nat → Pd) (K : Ps) : Pd := (i_ci 1 (qVC_isPort_14 d mc ms B K))
theorem zVC_isPort_9 {d mc ms : Nat} {B : Nat → Pd} {K : Ps} (hB : ∀ pc, Le (B pc) (G cVC_isPort "VoyageCompany" 1 (some .boolean) "isPort" (rm (d + 1) mc ms) (QM mc ms K) pc)) : Le (qVC_isPort_9 d mc ms B K) (G cVC_isPort "VoyageCompany" 1 (some .boolean) "isPort" (rm (d + 1) mc ms) (QM mc ms K) 9) := by
  unfold qVC_isPort_9
  exact (s_iconst (n := 1) (v := 1) (by decide +kernel) (by decide +kernel) (s_goto (off := 4) (tgt := 14) (by decide +kernel) (by decide) (zVC_isPort_14 hB)))
def qVC_isPort_4 (d mc ms : Nat) (B : Nat → Pd) (K : Ps) : Pd := (i_ild 0 (i_ci 5 (i_ic_ge (qVC_isPort_13 d mc ms B K) (qVC_isPort_9 d mc ms B K))))
theorem zVC_isPort_4 {d mc ms : Nat} {B : Nat → Pd} {K : Ps} (hB : ∀ pc, Le (B pc) (G cVC_isPort "VoyageCompany" 1 (some .boolean) "isPort" (rm (d + 1) mc ms) (QM mc ms K) pc)) : Le (qVC_isPort_4 d mc ms B K) (G cVC_isPort "VoyageCompany" 1 (some .boolean) "isPort" (rm (d + 1) mc ms) (QM mc ms K) 4) := by
  unfold qVC_isPort_4
  exact (s_ild_n (j := 0) (by decide +kernel) rfl (s_iconst (n := 5) (v := 5) (by decide +kernel) (by decide +kernel) (s_ic_ge (off := 7) (tgt := 13) (by decide +kernel) (by decide) (zVC_isPort_13 hB) (zVC_isPort_9 hB))))
def qVC_isPort_0 (d mc ms : Nat) (B : Nat → Pd) (K : Ps) : Pd := (i_ild 0 (i_if_lt (qVC_isPort_13 d mc ms B K) (qVC_isPort_4 d mc ms B K)))
theorem zVC_isPort_0 {d mc ms : Nat} {B : Nat → Pd} {K : Ps} (hB : ∀ pc, Le (B pc) (G cVC_isPort "VoyageCompany" 1 (some .boolean) "isPort" (rm (d + 1) mc ms) (QM mc ms K) pc)) : Le (qVC_isPort_0 d mc ms B K) (G cVC_isPort "VoyageCompany" 1 (some .boolean) "isPort" (rm (d + 1) mc ms) (QM mc ms K) 0) := by
  unfold qVC_isPort_0
  exact (s_ild_n (j := 0) (by decide +kernel) rfl (s_if_lt (off := 12) (tgt := 13) (by decide +kernel) (by decide) (zVC_isPort_13 hB) (zVC_isPort_4 hB)))
/-- VoyageCompany.isPort(I)Z, at its places -/
def gVC_isPort (d mc ms : Nat) (K : Ps) : Nat → Pd := G cVC_isPort "VoyageCompany" 1 (some .boolean) "isPort" (rm (d + 1) mc ms) (QM mc ms K)
theorem eVC_isPort {d mc ms : Nat} {K : Ps} {av : List Value} {E : Nat → Prop} {R : Nat → Nat → Value} {I : Nat → Nat → Int32} {J : Nat → Nat → Int64} (hn : (lg_sl av).length ≤ 1) (h : qVC_isPort_0 d mc ms (gVC_isPort d mc ms K) K (lv_args 0 av) [] E R I J 0 0) : CL yVC_isPort cVC_isPort 1 (some .boolean) (d + 1) mc ms av E R I J K :=
  CL.of (by decide +kernel) hn (zVC_isPort_0 (fun _ => Le.refl) _ _ _ _ _ _ _ _ h)
def qVC_isFarPort_14 (d mc ms : Nat) (B : Nat → Pd) (K : Ps) : Pd := (i_zret mc ms K)
theorem zVC_isFarPort_14 {d mc ms : Nat} {B : Nat → Pd} {K : Ps} (hB : ∀ pc, Le (B pc) (G cVC_isFarPort "VoyageCompany" 1 (some .boolean) "isFarPort" (rm (d + 1) mc ms) (QM mc ms K) pc)) : Le (qVC_isFarPort_14 d mc ms B K) (G cVC_isFarPort "VoyageCompany" 1 (some .boolean) "isFarPort" (rm (d + 1) mc ms) (QM mc ms K) 14) := by
  unfold qVC_isFarPort_14
  exact (s_zret (by decide +kernel) rfl)
def qVC_isFarPort_13 (d mc ms : Nat) (B : Nat → Pd) (K : Ps) : Pd := (i_ci 0 (qVC_isFarPort_14 d mc ms B K))
theorem zVC_isFarPort_13 {d mc ms : Nat} {B : Nat → Pd} {K : Ps} (hB : ∀ pc, Le (B pc) (G cVC_isFarPort "VoyageCompany" 1 (some .boolean) "isFarPort" (rm (d + 1) mc ms) (QM mc ms K) pc)) : Le (qVC_isFarPort_13 d mc ms B K) (G cVC_isFarPort "VoyageCompany" 1 (some .boolean) "isFarPort" (rm (d + 1) mc ms) (QM mc ms K) 13) := by
  unfold qVC_isFarPort_13
  exact (s_iconst (n := 0) (v := 0) (by decide +kernel) (by decide +kernel) (zVC_isFarPort_14 hB))
def qVC_isFarPort_9 (d mc ms : Nat) (B : Nat → Pd) (K : Ps) : Pd := (i_ci 1 (qVC_isFarPort_14 d mc ms B K))
theorem zVC_isFarPort_9 {d mc ms : Nat} {B : Nat → Pd} {K : Ps} (hB : ∀ pc, Le (B pc) (G cVC_isFarPort "VoyageCompany" 1 (some .boolean) "isFarPort" (rm (d + 1) mc ms) (QM mc ms K) pc)) : Le (qVC_isFarPort_9 d mc ms B K) (G cVC_isFarPort "VoyageCompany" 1 (some .boolean) "isFarPort" (rm (d + 1) mc ms) (QM mc ms K) 9) := by
  unfold qVC_isFarPort_9
  exact (s_iconst (n := 1) (v := 1) (by decide +kernel) (by decide +kernel) (s_goto (off := 4) (tgt := 14) (by decide +kernel) (by decide) (zVC_isFarPort_14 hB)))
def qVC_isFarPort_4 (d mc ms : Nat) (B : Nat → Pd) (K : Ps) : Pd := (i_ild 0 (i_ci 5 (i_ic_ge (qVC_isFarPort_13 d mc ms B K) (qVC_isFarPort_9 d mc ms B K))))
theorem zVC_isFarPort_4 {d mc ms : Nat} {B : Nat → Pd} {K : Ps} (hB : ∀ pc, Le (B pc) (G cVC_isFarPort "VoyageCompany" 1 (some .boolean) "isFarPort" (rm (d + 1) mc ms) (QM mc ms K) pc)) : Le (qVC_isFarPort_4 d mc ms B K) (G cVC_isFarPort "VoyageCompany" 1 (some .boolean) "isFarPort" (rm (d + 1) mc ms) (QM mc ms K) 4) := by
  unfold qVC_isFarPort_4
  exact (s_ild_n (j := 0) (by decide +kernel) rfl (s_iconst (n := 5) (v := 5) (by decide +kernel) (by decide +kernel) (s_ic_ge (off := 7) (tgt := 13) (by decide +kernel) (by decide) (zVC_isFarPort_13 hB) (zVC_isFarPort_9 hB))))
def qVC_isFarPort_0 (d mc ms : Nat) (B : Nat → Pd) (K : Ps) : Pd := (i_ild 0 (i_if_le (qVC_isFarPort_13 d mc ms B K) (qVC_isFarPort_4 d mc ms B K)))
theorem zVC_isFarPort_0 {d mc ms : Nat} {B : Nat → Pd} {K : Ps} (hB : ∀ pc, Le (B pc) (G cVC_isFarPort "VoyageCompany" 1 (some .boolean) "isFarPort" (rm (d + 1) mc ms) (QM mc ms K) pc)) : Le (qVC_isFarPort_0 d mc ms B K) (G cVC_isFarPort "VoyageCompany" 1 (some .boolean) "isFarPort" (rm (d + 1) mc ms) (QM mc ms K) 0) := by
  unfold qVC_isFarPort_0
  exact (s_ild_n (j := 0) (by decide +kernel) rfl (s_if_le (off := 12) (tgt := 13) (by decide +kernel) (by decide) (zVC_isFarPort_13 hB) (zVC_isFarPort_4 hB)))
/-- VoyageCompany.isFarPort(I)Z, at its places -/
def gVC_isFarPort (d mc ms : Nat) (K : Ps) : Nat → Pd := G cVC_isFarPort "VoyageCompany" 1 (some .boolean) "isFarPort" (rm (d + 1) mc ms) (QM mc ms K)
theorem eVC_isFarPort {d mc ms : Nat} {K : Ps} {av : List Value} {E : Nat → Prop} {R : Nat → Nat → Value} {I : Nat → Nat → Int32} {J : Nat → Nat → Int64} (hn : (lg_sl av).length ≤ 1) (h : qVC_isFarPort_0 d mc ms (gVC_isFarPort d mc ms K) K (lv_args 0 av) [] E R I J 0 0) : CL yVC_isFarPort cVC_isFarPort 1 (some .boolean) (d + 1) mc ms av E R I J K :=
  CL.of (by decide +kernel) hn (zVC_isFarPort_0 (fun _ => Le.refl) _ _ _ _ _ _ _ _ h)
def qVC_isGood_14 (d mc ms : Nat) (B : Nat → Pd) (K : Ps) : Pd := (i_zret mc ms K)
theorem zVC_isGood_14 {d mc ms : Nat} {B : Nat → Pd} {K : Ps} (hB : ∀ pc, Le (B pc) (G cVC_isGood "VoyageCompany" 1 (some .boolean) "isGood" (rm (d + 1) mc ms) (QM mc ms K) pc)) : Le (qVC_isGood_14 d mc ms B K) (G cVC_isGood "VoyageCompany" 1 (some .boolean) "isGood" (rm (d + 1) mc ms) (QM mc ms K) 14) := by
  unfold qVC_isGood_14
  exact (s_zret (by decide +kernel) rfl)
def qVC_isGood_13 (d mc ms : Nat) (B : Nat → Pd) (K : Ps) : Pd := (i_ci 0 (qVC_isGood_14 d mc ms B K))
theorem zVC_isGood_13 {d mc ms : Nat} {B : Nat → Pd} {K : Ps} (hB : ∀ pc, Le (B pc) (G cVC_isGood "VoyageCompany" 1 (some .boolean) "isGood" (rm (d + 1) mc ms) (QM mc ms K) pc)) : Le (qVC_isGood_13 d mc ms B K) (G cVC_isGood "VoyageCompany" 1 (some .boolean) "isGood" (rm (d + 1) mc ms) (QM mc ms K) 13) := by
  unfold qVC_isGood_13
  exact (s_iconst (n := 0) (v := 0) (by decide +kernel) (by decide +kernel) (zVC_isGood_14 hB))
def qVC_isGood_9 (d mc ms : Nat) (B : Nat → Pd) (K : Ps) : Pd := (i_ci 1 (qVC_isGood_14 d mc ms B K))
theorem zVC_isGood_9 {d mc ms : Nat} {B : Nat → Pd} {K : Ps} (hB : ∀ pc, Le (B pc) (G cVC_isGood "VoyageCompany" 1 (some .boolean) "isGood" (rm (d + 1) mc ms) (QM mc ms K) pc)) : Le (qVC_isGood_9 d mc ms B K) (G cVC_isGood "VoyageCompany" 1 (some .boolean) "isGood" (rm (d + 1) mc ms) (QM mc ms K) 9) := by
  unfold qVC_isGood_9
  exact (s_iconst (n := 1) (v := 1) (by decide +kernel) (by decide +kernel) (s_goto (off := 4) (tgt := 14) (by decide +kernel) (by decide) (zVC_isGood_14 hB)))
def qVC_isGood_4 (d mc ms : Nat) (B : Nat → Pd) (K : Ps) : Pd := (i_ild 0 (i_ci 4 (i_ic_ge (qVC_isGood_13 d mc ms B K) (qVC_isGood_9 d mc ms B K))))
theorem zVC_isGood_4 {d mc ms : Nat} {B : Nat → Pd} {K : Ps} (hB : ∀ pc, Le (B pc) (G cVC_isGood "VoyageCompany" 1 (some .boolean) "isGood" (rm (d + 1) mc ms) (QM mc ms K) pc)) : Le (qVC_isGood_4 d mc ms B K) (G cVC_isGood "VoyageCompany" 1 (some .boolean) "isGood" (rm (d + 1) mc ms) (QM mc ms K) 4) := by
  unfold qVC_isGood_4
  exact (s_ild_n (j := 0) (by decide +kernel) rfl (s_iconst (n := 4) (v := 4) (by decide +kernel) (by decide +kernel) (s_ic_ge (off := 7) (tgt := 13) (by decide +kernel) (by decide) (zVC_isGood_13 hB) (zVC_isGood_9 hB))))
def qVC_isGood_0 (d mc ms : Nat) (B : Nat → Pd) (K : Ps) : Pd := (i_ild 0 (i_if_lt (qVC_isGood_13 d mc ms B K) (qVC_isGood_4 d mc ms B K)))
theorem zVC_isGood_0 {d mc ms : Nat} {B : Nat → Pd} {K : Ps} (hB : ∀ pc, Le (B pc) (G cVC_isGood "VoyageCompany" 1 (some .boolean) "isGood" (rm (d + 1) mc ms) (QM mc ms K) pc)) : Le (qVC_isGood_0 d mc ms B K) (G cVC_isGood "VoyageCompany" 1 (some .boolean) "isGood" (rm (d + 1) mc ms) (QM mc ms K) 0) := by
  unfold qVC_isGood_0
  exact (s_ild_n (j := 0) (by decide +kernel) rfl (s_if_lt (off := 12) (tgt := 13) (by decide +kernel) (by decide) (zVC_isGood_13 hB) (zVC_isGood_4 hB)))
/-- VoyageCompany.isGood(I)Z, at its places -/
def gVC_isGood (d mc ms : Nat) (K : Ps) : Nat → Pd := G cVC_isGood "VoyageCompany" 1 (some .boolean) "isGood" (rm (d + 1) mc ms) (QM mc ms K)
theorem eVC_isGood {d mc ms : Nat} {K : Ps} {av : List Value} {E : Nat → Prop} {R : Nat → Nat → Value} {I : Nat → Nat → Int32} {J : Nat → Nat → Int64} (hn : (lg_sl av).length ≤ 1) (h : qVC_isGood_0 d mc ms (gVC_isGood d mc ms K) K (lv_args 0 av) [] E R I J 0 0) : CL yVC_isGood cVC_isGood 1 (some .boolean) (d + 1) mc ms av E R I J K :=
  CL.of (by decide +kernel) hn (zVC_isGood_0 (fun _ => Le.refl) _ _ _ _ _ _ _ _ h)
def qVC_isMarket_23 (d mc ms : Nat) (B : Nat → Pd) (K : Ps) : Pd := (i_zret mc ms K)
theorem zVC_isMarket_23 {d mc ms : Nat} {B : Nat → Pd} {K : Ps} (hB : ∀ pc, Le (B pc) (G cVC_isMarket "VoyageCompany" 2 (some .boolean) "isMarket" (rm (d + 1) mc ms) (QM mc ms K) pc)) : Le (qVC_isMarket_23 d mc ms B K) (G cVC_isMarket "VoyageCompany" 2 (some .boolean) "isMarket" (rm (d + 1) mc ms) (QM mc ms K) 23) := by
  unfold qVC_isMarket_23
  exact (s_zret (by decide +kernel) rfl)
def qVC_isMarket_22 (d mc ms : Nat) (B : Nat → Pd) (K : Ps) : Pd := (i_ci 0 (qVC_isMarket_23 d mc ms B K))
theorem zVC_isMarket_22 {d mc ms : Nat} {B : Nat → Pd} {K : Ps} (hB : ∀ pc, Le (B pc) (G cVC_isMarket "VoyageCompany" 2 (some .boolean) "isMarket" (rm (d + 1) mc ms) (QM mc ms K) pc)) : Le (qVC_isMarket_22 d mc ms B K) (G cVC_isMarket "VoyageCompany" 2 (some .boolean) "isMarket" (rm (d + 1) mc ms) (QM mc ms K) 22) := by
  unfold qVC_isMarket_22
  exact (s_iconst (n := 0) (v := 0) (by decide +kernel) (by decide +kernel) (zVC_isMarket_23 hB))
def qVC_isMarket_18 (d mc ms : Nat) (B : Nat → Pd) (K : Ps) : Pd := (i_ci 1 (qVC_isMarket_23 d mc ms B K))
theorem zVC_isMarket_18 {d mc ms : Nat} {B : Nat → Pd} {K : Ps} (hB : ∀ pc, Le (B pc) (G cVC_isMarket "VoyageCompany" 2 (some .boolean) "isMarket" (rm (d + 1) mc ms) (QM mc ms K) pc)) : Le (qVC_isMarket_18 d mc ms B K) (G cVC_isMarket "VoyageCompany" 2 (some .boolean) "isMarket" (rm (d + 1) mc ms) (QM mc ms K) 18) := by
  unfold qVC_isMarket_18
  exact (s_iconst (n := 1) (v := 1) (by decide +kernel) (by decide +kernel) (s_goto (off := 4) (tgt := 23) (by decide +kernel) (by decide) (zVC_isMarket_23 hB)))
def qVC_isMarket_14 (d mc ms : Nat) (B : Nat → Pd) (K : Ps) : Pd := (i_ild 1 (i_if_eq (qVC_isMarket_22 d mc ms B K) (qVC_isMarket_18 d mc ms B K)))
theorem zVC_isMarket_14 {d mc ms : Nat} {B : Nat → Pd} {K : Ps} (hB : ∀ pc, Le (B pc) (G cVC_isMarket "VoyageCompany" 2 (some .boolean) "isMarket" (rm (d + 1) mc ms) (QM mc ms K) pc)) : Le (qVC_isMarket_14 d mc ms B K) (G cVC_isMarket "VoyageCompany" 2 (some .boolean) "isMarket" (rm (d + 1) mc ms) (QM mc ms K) 14) := by
  unfold qVC_isMarket_14
  exact (s_ild_n (j := 1) (by decide +kernel) rfl (s_if_eq (off := 7) (tgt := 22) (by decide +kernel) (by decide) (zVC_isMarket_22 hB) (zVC_isMarket_18 hB)))
def qVC_isMarket_7 (d mc ms : Nat) (B : Nat → Pd) (K : Ps) : Pd := (i_ild 1 (i_call 2 11 yVC_isGood cVC_isGood 1 (some .boolean) mc ms d 1 (i_if_eq (qVC_isMarket_22 d mc ms B K) (qVC_isMarket_14 d mc ms B K))))
theorem zVC_isMarket_7 {d mc ms : Nat} {B : Nat → Pd} {K : Ps} (hB : ∀ pc, Le (B pc) (G cVC_isMarket "VoyageCompany" 2 (some .boolean) "isMarket" (rm (d + 1) mc ms) (QM mc ms K) pc)) : Le (qVC_isMarket_7 d mc ms B K) (G cVC_isMarket "VoyageCompany" 2 (some .boolean) "isMarket" (rm (d + 1) mc ms) (QM mc ms K) 7) := by
  unfold qVC_isMarket_7
  exact (s_ild_n (j := 1) (by decide +kernel) rfl (s_call (idx := 160) (by decide +kernel) ml11_160 rmk (s_if_eq (off := 11) (tgt := 22) (by decide +kernel) (by decide) (zVC_isMarket_22 hB) (zVC_isMarket_14 hB))))
def qVC_isMarket_0 (d mc ms : Nat) (B : Nat → Pd) (K : Ps) : Pd := (i_ild 0 (i_call 2 11 yVC_isFarPort cVC_isFarPort 1 (some .boolean) mc ms d 1 (i_if_eq (qVC_isMarket_22 d mc ms B K) (qVC_isMarket_7 d mc ms B K))))
theorem zVC_isMarket_0 {d mc ms : Nat} {B : Nat → Pd} {K : Ps} (hB : ∀ pc, Le (B pc) (G cVC_isMarket "VoyageCompany" 2 (some .boolean) "isMarket" (rm (d + 1) mc ms) (QM mc ms K) pc)) : Le (qVC_isMarket_0 d mc ms B K) (G cVC_isMarket "VoyageCompany" 2 (some .boolean) "isMarket" (rm (d + 1) mc ms) (QM mc ms K) 0) := by
  unfold qVC_isMarket_0
  exact (s_ild_n (j := 0) (by decide +kernel) rfl (s_call (idx := 41) (by decide +kernel) ml11_41 rmk (s_if_eq (off := 18) (tgt := 22) (by decide +kernel) (by decide) (zVC_isMarket_22 hB) (zVC_isMarket_7 hB))))
/-- VoyageCompany.isMarket(II)Z, at its places -/
def gVC_isMarket (d mc ms : Nat) (K : Ps) : Nat → Pd := G cVC_isMarket "VoyageCompany" 2 (some .boolean) "isMarket" (rm (d + 1) mc ms) (QM mc ms K)
theorem eVC_isMarket {d mc ms : Nat} {K : Ps} {av : List Value} {E : Nat → Prop} {R : Nat → Nat → Value} {I : Nat → Nat → Int32} {J : Nat → Nat → Int64} (hn : (lg_sl av).length ≤ 2) (h : qVC_isMarket_0 d mc ms (gVC_isMarket d mc ms K) K (lv_args 0 av) [] E R I J 0 0) : CL yVC_isMarket cVC_isMarket 2 (some .boolean) (d + 1) mc ms av E R I J K :=
  CL.of (by decide +kernel) hn (zVC_isMarket_0 (fun _ => Le.refl) _ _ _ _ _ _ _ _ h)
def qVC_isPerson_15 (d mc ms : Nat) (B : Nat → Pd) (K : Ps) : Pd := (i_zret mc ms K)
theorem zVC_isPerson_15 {d mc ms : Nat} {B : Nat → Pd} {K : Ps} (hB : ∀ pc, Le (B pc) (G cVC_isPerson "VoyageCompany" 1 (some .boolean) "isPerson" (rm (d + 1) mc ms) (QM mc ms K) pc)) : Le (qVC_isPerson_15 d mc ms B K) (G cVC_isPerson "VoyageCompany" 1 (some .boolean) "isPerson" (rm (d + 1) mc ms) (QM mc ms K) 15) := by
  unfold qVC_isPerson_15
  exact (s_zret (by decide +kernel) rfl)
def qVC_isPerson_14 (d mc ms : Nat) (B : Nat → Pd) (K : Ps) : Pd := (i_ci 0 (qVC_isPerson_15 d mc ms B K))
theorem zVC_isPerson_14 {d mc ms : Nat} {B : Nat → Pd} {K : Ps} (hB : ∀ pc, Le (B pc) (G cVC_isPerson "VoyageCompany" 1 (some .boolean) "isPerson" (rm (d + 1) mc ms) (QM mc ms K) pc)) : Le (qVC_isPerson_14 d mc ms B K) (G cVC_isPerson "VoyageCompany" 1 (some .boolean) "isPerson" (rm (d + 1) mc ms) (QM mc ms K) 14) := by
  unfold qVC_isPerson_14
  exact (s_iconst (n := 0) (v := 0) (by decide +kernel) (by decide +kernel) (zVC_isPerson_15 hB))
def qVC_isPerson_10 (d mc ms : Nat) (B : Nat → Pd) (K : Ps) : Pd := (i_ci 1 (qVC_isPerson_15 d mc ms B K))
theorem zVC_isPerson_10 {d mc ms : Nat} {B : Nat → Pd} {K : Ps} (hB : ∀ pc, Le (B pc) (G cVC_isPerson "VoyageCompany" 1 (some .boolean) "isPerson" (rm (d + 1) mc ms) (QM mc ms K) pc)) : Le (qVC_isPerson_10 d mc ms B K) (G cVC_isPerson "VoyageCompany" 1 (some .boolean) "isPerson" (rm (d + 1) mc ms) (QM mc ms K) 10) := by
  unfold qVC_isPerson_10
  exact (s_iconst (n := 1) (v := 1) (by decide +kernel) (by decide +kernel) (s_goto (off := 4) (tgt := 15) (by decide +kernel) (by decide) (zVC_isPerson_15 hB)))
def qVC_isPerson_4 (d mc ms : Nat) (B : Nat → Pd) (K : Ps) : Pd := (i_ild 0 (i_ci 10 (i_ic_ge (qVC_isPerson_14 d mc ms B K) (qVC_isPerson_10 d mc ms B K))))
theorem zVC_isPerson_4 {d mc ms : Nat} {B : Nat → Pd} {K : Ps} (hB : ∀ pc, Le (B pc) (G cVC_isPerson "VoyageCompany" 1 (some .boolean) "isPerson" (rm (d + 1) mc ms) (QM mc ms K) pc)) : Le (qVC_isPerson_4 d mc ms B K) (G cVC_isPerson "VoyageCompany" 1 (some .boolean) "isPerson" (rm (d + 1) mc ms) (QM mc ms K) 4) := by
  unfold qVC_isPerson_4
  exact (s_ild_n (j := 0) (by decide +kernel) rfl (s_bipush (n := 10) (v := 10) (by decide +kernel) (by decide +kernel) (s_ic_ge (off := 7) (tgt := 14) (by decide +kernel) (by decide) (zVC_isPerson_14 hB) (zVC_isPerson_10 hB))))
def qVC_isPerson_0 (d mc ms : Nat) (B : Nat → Pd) (K : Ps) : Pd := (i_ild 0 (i_if_lt (qVC_isPerson_14 d mc ms B K) (qVC_isPerson_4 d mc ms B K)))
theorem zVC_isPerson_0 {d mc ms : Nat} {B : Nat → Pd} {K : Ps} (hB : ∀ pc, Le (B pc) (G cVC_isPerson "VoyageCompany" 1 (some .boolean) "isPerson" (rm (d + 1) mc ms) (QM mc ms K) pc)) : Le (qVC_isPerson_0 d mc ms B K) (G cVC_isPerson "VoyageCompany" 1 (some .boolean) "isPerson" (rm (d + 1) mc ms) (QM mc ms K) 0) := by
  unfold qVC_isPerson_0
  exact (s_ild_n (j := 0) (by decide +kernel) rfl (s_if_lt (off := 13) (tgt := 14) (by decide +kernel) (by decide) (zVC_isPerson_14 hB) (zVC_isPerson_4 hB)))
/-- VoyageCompany.isPerson(I)Z, at its places -/
def gVC_isPerson (d mc ms : Nat) (K : Ps) : Nat → Pd := G cVC_isPerson "VoyageCompany" 1 (some .boolean) "isPerson" (rm (d + 1) mc ms) (QM mc ms K)
theorem eVC_isPerson {d mc ms : Nat} {K : Ps} {av : List Value} {E : Nat → Prop} {R : Nat → Nat → Value} {I : Nat → Nat → Int32} {J : Nat → Nat → Int64} (hn : (lg_sl av).length ≤ 1) (h : qVC_isPerson_0 d mc ms (gVC_isPerson d mc ms K) K (lv_args 0 av) [] E R I J 0 0) : CL yVC_isPerson cVC_isPerson 1 (some .boolean) (d + 1) mc ms av E R I J K :=
  CL.of (by decide +kernel) hn (zVC_isPerson_0 (fun _ => Le.refl) _ _ _ _ _ _ _ _ h)

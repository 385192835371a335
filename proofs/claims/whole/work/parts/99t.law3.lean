def qL_law_450 (B : Nat → Pd) : Pd := (i_ald 1 (i_ald 0 (i_ild 3 (i_ci 1 (i_iadd (i_iald (i_ald 0 (i_ild 3 (i_ci 2 (i_iadd (i_iald (i_ald 0 (i_ild 3 (i_ci 3 (i_iadd (i_iald (i_call 0 11 yVC_transfer cVC_transfer 5 (some .boolean) 600000 7302250 11 4 (i_ald 2 (i_ald 0 (i_ild 3 (i_ci 1 (i_iadd (i_iald (i_ald 0 (i_ild 3 (i_ci 2 (i_iadd (i_iald (i_ald 0 (i_ild 3 (i_ci 3 (i_iadd (i_iald (i_call 0 12 yMo_transfer cMo_transfer 4 (some .boolean) 600000 7302250 11 4 (i_ic_eq (qL_law_1038 B) (qL_law_491 B))))))))))))))))))))))))))))))))))))
theorem zL_law_450 {nm : String} {B : Nat → Pd} (hB : ∀ pc, Le (B pc) (G code "VoyageCompanyLaw" 4 ret nm room_1 LQ pc)) : Le (qL_law_450 B) (G code "VoyageCompanyLaw" 4 ret nm room_1 LQ 450) := by
  unfold qL_law_450
  exact (s_ald_n (j := 1) (by decide +kernel) rfl (s_ald_n (j := 0) (by decide +kernel) rfl (s_ild_n (j := 3) (by decide +kernel) rfl (s_iconst (n := 1) (v := 1) (by decide +kernel) (by decide +kernel) (s_iadd (by decide +kernel) (s_iald (by decide +kernel) (s_ald_n (j := 0) (by decide +kernel) rfl (s_ild_n (j := 3) (by decide +kernel) rfl (s_iconst (n := 2) (v := 2) (by decide +kernel) (by decide +kernel) (s_iadd (by decide +kernel) (s_iald (by decide +kernel) (s_ald_n (j := 0) (by decide +kernel) rfl (s_ild_n (j := 3) (by decide +kernel) rfl (s_iconst (n := 3) (v := 3) (by decide +kernel) (by decide +kernel) (s_iadd (by decide +kernel) (s_iald (by decide +kernel) (s_call (idx := 50) (by decide +kernel) ml13_50 rmL (s_ald_n (j := 2) (by decide +kernel) rfl (s_ald_n (j := 0) (by decide +kernel) rfl (s_ild_n (j := 3) (by decide +kernel) rfl (s_iconst (n := 1) (v := 1) (by decide +kernel) (by decide +kernel) (s_iadd (by decide +kernel) (s_iald (by decide +kernel) (s_ald_n (j := 0) (by decide +kernel) rfl (s_ild_n (j := 3) (by decide +kernel) rfl (s_iconst (n := 2) (v := 2) (by decide +kernel) (by decide +kernel) (s_iadd (by decide +kernel) (s_iald (by decide +kernel) (s_ald_n (j := 0) (by decide +kernel) rfl (s_ild_n (j := 3) (by decide +kernel) rfl (s_iconst (n := 3) (v := 3) (by decide +kernel) (by decide +kernel) (s_iadd (by decide +kernel) (s_iald (by decide +kernel) (s_call (idx := 53) (by decide +kernel) ml13_53 rmL (s_ic_eq (off := 550) (tgt := 1038) (by decide +kernel) (by decide) (zL_law_1038 hB) (zL_law_491 hB))))))))))))))))))))))))))))))))))))
def qL_law_448 (B : Nat → Pd) : Pd := (i_ci 0 i_law1)
theorem zL_law_448 {nm : String} {B : Nat → Pd} (hB : ∀ pc, Le (B pc) (G code "VoyageCompanyLaw" 4 ret nm room_1 LQ pc)) : Le (qL_law_448 B) (G code "VoyageCompanyLaw" 4 ret nm room_1 LQ 448) := by
  unfold qL_law_448
  exact (s_iconst (n := 0) (v := 0) (by decide +kernel) (by decide +kernel) (s_law1 (by decide +kernel)))
def qL_law_417 (B : Nat → Pd) : Pd := (i_ald 1 (i_ald 0 (i_ild 3 (i_ci 1 (i_iadd (i_iald (i_ald 0 (i_ild 3 (i_ci 2 (i_iadd (i_iald (i_call 0 11 yVC_subscribe cVC_subscribe 5 (some .int) 600000 7302250 11 3 (i_ald 2 (i_ald 0 (i_ild 3 (i_ci 1 (i_iadd (i_iald (i_ald 0 (i_ild 3 (i_ci 2 (i_iadd (i_iald (i_call 0 12 yMo_subscribe cMo_subscribe 3 (some .int) 600000 7302250 11 3 (i_ic_eq (qL_law_1038 B) (qL_law_448 B))))))))))))))))))))))))))
theorem zL_law_417 {nm : String} {B : Nat → Pd} (hB : ∀ pc, Le (B pc) (G code "VoyageCompanyLaw" 4 ret nm room_1 LQ pc)) : Le (qL_law_417 B) (G code "VoyageCompanyLaw" 4 ret nm room_1 LQ 417) := by
  unfold qL_law_417
  exact (s_ald_n (j := 1) (by decide +kernel) rfl (s_ald_n (j := 0) (by decide +kernel) rfl (s_ild_n (j := 3) (by decide +kernel) rfl (s_iconst (n := 1) (v := 1) (by decide +kernel) (by decide +kernel) (s_iadd (by decide +kernel) (s_iald (by decide +kernel) (s_ald_n (j := 0) (by decide +kernel) rfl (s_ild_n (j := 3) (by decide +kernel) rfl (s_iconst (n := 2) (v := 2) (by decide +kernel) (by decide +kernel) (s_iadd (by decide +kernel) (s_iald (by decide +kernel) (s_call (idx := 46) (by decide +kernel) ml13_46 rmL (s_ald_n (j := 2) (by decide +kernel) rfl (s_ald_n (j := 0) (by decide +kernel) rfl (s_ild_n (j := 3) (by decide +kernel) rfl (s_iconst (n := 1) (v := 1) (by decide +kernel) (by decide +kernel) (s_iadd (by decide +kernel) (s_iald (by decide +kernel) (s_ald_n (j := 0) (by decide +kernel) rfl (s_ild_n (j := 3) (by decide +kernel) rfl (s_iconst (n := 2) (v := 2) (by decide +kernel) (by decide +kernel) (s_iadd (by decide +kernel) (s_iald (by decide +kernel) (s_call (idx := 49) (by decide +kernel) ml13_49 rmL (s_ic_eq (off := 593) (tgt := 1038) (by decide +kernel) (by decide) (zL_law_1038 hB) (zL_law_448 hB))))))))))))))))))))))))))
def qL_law_415 (B : Nat → Pd) : Pd := (i_ci 0 i_law1)
theorem zL_law_415 {nm : String} {B : Nat → Pd} (hB : ∀ pc, Le (B pc) (G code "VoyageCompanyLaw" 4 ret nm room_1 LQ pc)) : Le (qL_law_415 B) (G code "VoyageCompanyLaw" 4 ret nm room_1 LQ 415) := by
  unfold qL_law_415
  exact (s_iconst (n := 0) (v := 0) (by decide +kernel) (by decide +kernel) (s_law1 (by decide +kernel)))
def qL_law_384 (B : Nat → Pd) : Pd := (i_ald 1 (i_ald 0 (i_ild 3 (i_ci 1 (i_iadd (i_iald (i_ald 0 (i_ild 3 (i_ci 2 (i_iadd (i_iald (i_call 0 11 yVC_letter cVC_letter 4 (some .int) 600000 7302250 11 3 (i_ald 2 (i_ald 0 (i_ild 3 (i_ci 1 (i_iadd (i_iald (i_ald 0 (i_ild 3 (i_ci 2 (i_iadd (i_iald (i_call 0 12 yMo_letter cMo_letter 4 (some .int) 600000 7302250 11 3 (i_ic_eq (qL_law_1038 B) (qL_law_415 B))))))))))))))))))))))))))
theorem zL_law_384 {nm : String} {B : Nat → Pd} (hB : ∀ pc, Le (B pc) (G code "VoyageCompanyLaw" 4 ret nm room_1 LQ pc)) : Le (qL_law_384 B) (G code "VoyageCompanyLaw" 4 ret nm room_1 LQ 384) := by
  unfold qL_law_384
  exact (s_ald_n (j := 1) (by decide +kernel) rfl (s_ald_n (j := 0) (by decide +kernel) rfl (s_ild_n (j := 3) (by decide +kernel) rfl (s_iconst (n := 1) (v := 1) (by decide +kernel) (by decide +kernel) (s_iadd (by decide +kernel) (s_iald (by decide +kernel) (s_ald_n (j := 0) (by decide +kernel) rfl (s_ild_n (j := 3) (by decide +kernel) rfl (s_iconst (n := 2) (v := 2) (by decide +kernel) (by decide +kernel) (s_iadd (by decide +kernel) (s_iald (by decide +kernel) (s_call (idx := 41) (by decide +kernel) ml13_41 rmL (s_ald_n (j := 2) (by decide +kernel) rfl (s_ald_n (j := 0) (by decide +kernel) rfl (s_ild_n (j := 3) (by decide +kernel) rfl (s_iconst (n := 1) (v := 1) (by decide +kernel) (by decide +kernel) (s_iadd (by decide +kernel) (s_iald (by decide +kernel) (s_ald_n (j := 0) (by decide +kernel) rfl (s_ild_n (j := 3) (by decide +kernel) rfl (s_iconst (n := 2) (v := 2) (by decide +kernel) (by decide +kernel) (s_iadd (by decide +kernel) (s_iald (by decide +kernel) (s_call (idx := 45) (by decide +kernel) ml13_45 rmL (s_ic_eq (off := 626) (tgt := 1038) (by decide +kernel) (by decide) (zL_law_1038 hB) (zL_law_415 hB))))))))))))))))))))))))))
def qL_law_382 (B : Nat → Pd) : Pd := (i_ci 0 i_law1)
theorem zL_law_382 {nm : String} {B : Nat → Pd} (hB : ∀ pc, Le (B pc) (G code "VoyageCompanyLaw" 4 ret nm room_1 LQ pc)) : Le (qL_law_382 B) (G code "VoyageCompanyLaw" 4 ret nm room_1 LQ 382) := by
  unfold qL_law_382
  exact (s_iconst (n := 0) (v := 0) (by decide +kernel) (by decide +kernel) (s_law1 (by decide +kernel)))
def qL_law_331 (B : Nat → Pd) : Pd := (i_ald 1 (i_ald 0 (i_ild 3 (i_ci 1 (i_iadd (i_iald (i_ald 0 (i_ild 3 (i_ci 2 (i_iadd (i_iald (i_ald 0 (i_ild 3 (i_ci 3 (i_iadd (i_iald (i_ald 0 (i_ild 3 (i_ci 4 (i_iadd (i_iald (i_call 0 11 yVC_ship cVC_ship 8 (some .int) 600000 7302250 11 5 (i_ald 2 (i_ald 0 (i_ild 3 (i_ci 1 (i_iadd (i_iald (i_ald 0 (i_ild 3 (i_ci 2 (i_iadd (i_iald (i_ald 0 (i_ild 3 (i_ci 3 (i_iadd (i_iald (i_ald 0 (i_ild 3 (i_ci 4 (i_iadd (i_iald (i_call 0 12 yMo_ship cMo_ship 7 (some .int) 600000 7302250 11 5 (i_ic_eq (qL_law_1038 B) (qL_law_382 B))))))))))))))))))))))))))))))))))))))))))))))
theorem zL_law_331 {nm : String} {B : Nat → Pd} (hB : ∀ pc, Le (B pc) (G code "VoyageCompanyLaw" 4 ret nm room_1 LQ pc)) : Le (qL_law_331 B) (G code "VoyageCompanyLaw" 4 ret nm room_1 LQ 331) := by
  unfold qL_law_331
  exact (s_ald_n (j := 1) (by decide +kernel) rfl (s_ald_n (j := 0) (by decide +kernel) rfl (s_ild_n (j := 3) (by decide +kernel) rfl (s_iconst (n := 1) (v := 1) (by decide +kernel) (by decide +kernel) (s_iadd (by decide +kernel) (s_iald (by decide +kernel) (s_ald_n (j := 0) (by decide +kernel) rfl (s_ild_n (j := 3) (by decide +kernel) rfl (s_iconst (n := 2) (v := 2) (by decide +kernel) (by decide +kernel) (s_iadd (by decide +kernel) (s_iald (by decide +kernel) (s_ald_n (j := 0) (by decide +kernel) rfl (s_ild_n (j := 3) (by decide +kernel) rfl (s_iconst (n := 3) (v := 3) (by decide +kernel) (by decide +kernel) (s_iadd (by decide +kernel) (s_iald (by decide +kernel) (s_ald_n (j := 0) (by decide +kernel) rfl (s_ild_n (j := 3) (by decide +kernel) rfl (s_iconst (n := 4) (v := 4) (by decide +kernel) (by decide +kernel) (s_iadd (by decide +kernel) (s_iald (by decide +kernel) (s_call (idx := 36) (by decide +kernel) ml13_36 rmL (s_ald_n (j := 2) (by decide +kernel) rfl (s_ald_n (j := 0) (by decide +kernel) rfl (s_ild_n (j := 3) (by decide +kernel) rfl (s_iconst (n := 1) (v := 1) (by decide +kernel) (by decide +kernel) (s_iadd (by decide +kernel) (s_iald (by decide +kernel) (s_ald_n (j := 0) (by decide +kernel) rfl (s_ild_n (j := 3) (by decide +kernel) rfl (s_iconst (n := 2) (v := 2) (by decide +kernel) (by decide +kernel) (s_iadd (by decide +kernel) (s_iald (by decide +kernel) (s_ald_n (j := 0) (by decide +kernel) rfl (s_ild_n (j := 3) (by decide +kernel) rfl (s_iconst (n := 3) (v := 3) (by decide +kernel) (by decide +kernel) (s_iadd (by decide +kernel) (s_iald (by decide +kernel) (s_ald_n (j := 0) (by decide +kernel) rfl (s_ild_n (j := 3) (by decide +kernel) rfl (s_iconst (n := 4) (v := 4) (by decide +kernel) (by decide +kernel) (s_iadd (by decide +kernel) (s_iald (by decide +kernel) (s_call (idx := 40) (by decide +kernel) ml13_40 rmL (s_ic_eq (off := 659) (tgt := 1038) (by decide +kernel) (by decide) (zL_law_1038 hB) (zL_law_382 hB))))))))))))))))))))))))))))))))))))))))))))))
def qL_law_329 (B : Nat → Pd) : Pd := (i_ci 0 i_law1)
theorem zL_law_329 {nm : String} {B : Nat → Pd} (hB : ∀ pc, Le (B pc) (G code "VoyageCompanyLaw" 4 ret nm room_1 LQ pc)) : Le (qL_law_329 B) (G code "VoyageCompanyLaw" 4 ret nm room_1 LQ 329) := by
  unfold qL_law_329
  exact (s_iconst (n := 0) (v := 0) (by decide +kernel) (by decide +kernel) (s_law1 (by decide +kernel)))
def qL_law_288 (B : Nat → Pd) : Pd := (i_ald 1 (i_ald 0 (i_ild 3 (i_ci 1 (i_iadd (i_iald (i_ald 0 (i_ild 3 (i_ci 2 (i_iadd (i_iald (i_ald 0 (i_ild 3 (i_ci 3 (i_iadd (i_iald (i_call 0 11 yVC_market cVC_market 5 (some .boolean) 600000 7302250 11 4 (i_ald 2 (i_ald 0 (i_ild 3 (i_ci 1 (i_iadd (i_iald (i_ald 0 (i_ild 3 (i_ci 2 (i_iadd (i_iald (i_ald 0 (i_ild 3 (i_ci 3 (i_iadd (i_iald (i_call 0 12 yMo_market cMo_market 4 (some .boolean) 600000 7302250 11 4 (i_ic_eq (qL_law_1038 B) (qL_law_329 B))))))))))))))))))))))))))))))))))))
theorem zL_law_288 {nm : String} {B : Nat → Pd} (hB : ∀ pc, Le (B pc) (G code "VoyageCompanyLaw" 4 ret nm room_1 LQ pc)) : Le (qL_law_288 B) (G code "VoyageCompanyLaw" 4 ret nm room_1 LQ 288) := by
  unfold qL_law_288
  exact (s_ald_n (j := 1) (by decide +kernel) rfl (s_ald_n (j := 0) (by decide +kernel) rfl (s_ild_n (j := 3) (by decide +kernel) rfl (s_iconst (n := 1) (v := 1) (by decide +kernel) (by decide +kernel) (s_iadd (by decide +kernel) (s_iald (by decide +kernel) (s_ald_n (j := 0) (by decide +kernel) rfl (s_ild_n (j := 3) (by decide +kernel) rfl (s_iconst (n := 2) (v := 2) (by decide +kernel) (by decide +kernel) (s_iadd (by decide +kernel) (s_iald (by decide +kernel) (s_ald_n (j := 0) (by decide +kernel) rfl (s_ild_n (j := 3) (by decide +kernel) rfl (s_iconst (n := 3) (v := 3) (by decide +kernel) (by decide +kernel) (s_iadd (by decide +kernel) (s_iald (by decide +kernel) (s_call (idx := 31) (by decide +kernel) ml13_31 rmL (s_ald_n (j := 2) (by decide +kernel) rfl (s_ald_n (j := 0) (by decide +kernel) rfl (s_ild_n (j := 3) (by decide +kernel) rfl (s_iconst (n := 1) (v := 1) (by decide +kernel) (by decide +kernel) (s_iadd (by decide +kernel) (s_iald (by decide +kernel) (s_ald_n (j := 0) (by decide +kernel) rfl (s_ild_n (j := 3) (by decide +kernel) rfl (s_iconst (n := 2) (v := 2) (by decide +kernel) (by decide +kernel) (s_iadd (by decide +kernel) (s_iald (by decide +kernel) (s_ald_n (j := 0) (by decide +kernel) rfl (s_ild_n (j := 3) (by decide +kernel) rfl (s_iconst (n := 3) (v := 3) (by decide +kernel) (by decide +kernel) (s_iadd (by decide +kernel) (s_iald (by decide +kernel) (s_call (idx := 35) (by decide +kernel) ml13_35 rmL (s_ic_eq (off := 712) (tgt := 1038) (by decide +kernel) (by decide) (zL_law_1038 hB) (zL_law_329 hB))))))))))))))))))))))))))))))))))))
def qL_law_286 (B : Nat → Pd) : Pd := (i_ci 0 i_law1)
theorem zL_law_286 {nm : String} {B : Nat → Pd} (hB : ∀ pc, Le (B pc) (G code "VoyageCompanyLaw" 4 ret nm room_1 LQ pc)) : Le (qL_law_286 B) (G code "VoyageCompanyLaw" 4 ret nm room_1 LQ 286) := by
  unfold qL_law_286
  exact (s_iconst (n := 0) (v := 0) (by decide +kernel) (by decide +kernel) (s_law1 (by decide +kernel)))
def qL_law_265 (B : Nat → Pd) : Pd := (i_ald 1 (i_ald 0 (i_ild 3 (i_ci 1 (i_iadd (i_iald (i_call 0 11 yVC_fault cVC_fault 2 (some .int) 600000 7302250 11 2 (i_ald 2 (i_ald 0 (i_ild 3 (i_ci 1 (i_iadd (i_iald (i_call 0 12 yMo_fault cMo_fault 2 (some .int) 600000 7302250 11 2 (i_ic_eq (qL_law_1038 B) (qL_law_286 B))))))))))))))))
theorem zL_law_265 {nm : String} {B : Nat → Pd} (hB : ∀ pc, Le (B pc) (G code "VoyageCompanyLaw" 4 ret nm room_1 LQ pc)) : Le (qL_law_265 B) (G code "VoyageCompanyLaw" 4 ret nm room_1 LQ 265) := by
  unfold qL_law_265
  exact (s_ald_n (j := 1) (by decide +kernel) rfl (s_ald_n (j := 0) (by decide +kernel) rfl (s_ild_n (j := 3) (by decide +kernel) rfl (s_iconst (n := 1) (v := 1) (by decide +kernel) (by decide +kernel) (s_iadd (by decide +kernel) (s_iald (by decide +kernel) (s_call (idx := 27) (by decide +kernel) ml13_27 rmL (s_ald_n (j := 2) (by decide +kernel) rfl (s_ald_n (j := 0) (by decide +kernel) rfl (s_ild_n (j := 3) (by decide +kernel) rfl (s_iconst (n := 1) (v := 1) (by decide +kernel) (by decide +kernel) (s_iadd (by decide +kernel) (s_iald (by decide +kernel) (s_call (idx := 30) (by decide +kernel) ml13_30 rmL (s_ic_eq (off := 755) (tgt := 1038) (by decide +kernel) (by decide) (zL_law_1038 hB) (zL_law_286 hB))))))))))))))))
def qL_law_263 (B : Nat → Pd) : Pd := (i_ci 0 i_law1)
theorem zL_law_263 {nm : String} {B : Nat → Pd} (hB : ∀ pc, Le (B pc) (G code "VoyageCompanyLaw" 4 ret nm room_1 LQ pc)) : Le (qL_law_263 B) (G code "VoyageCompanyLaw" 4 ret nm room_1 LQ 263) := by
  unfold qL_law_263
  exact (s_iconst (n := 0) (v := 0) (by decide +kernel) (by decide +kernel) (s_law1 (by decide +kernel)))
def qL_law_242 (B : Nat → Pd) : Pd := (i_ald 1 (i_ald 0 (i_ild 3 (i_ci 1 (i_iadd (i_iald (i_call 0 11 yVC_orders cVC_orders 2 (some .int) 600000 7302250 11 2 (i_ald 2 (i_ald 0 (i_ild 3 (i_ci 1 (i_iadd (i_iald (i_call 0 12 yMo_orders cMo_orders 3 (some .int) 600000 7302250 11 2 (i_ic_eq (qL_law_1038 B) (qL_law_263 B))))))))))))))))
theorem zL_law_242 {nm : String} {B : Nat → Pd} (hB : ∀ pc, Le (B pc) (G code "VoyageCompanyLaw" 4 ret nm room_1 LQ pc)) : Le (qL_law_242 B) (G code "VoyageCompanyLaw" 4 ret nm room_1 LQ 242) := by
  unfold qL_law_242
  exact (s_ald_n (j := 1) (by decide +kernel) rfl (s_ald_n (j := 0) (by decide +kernel) rfl (s_ild_n (j := 3) (by decide +kernel) rfl (s_iconst (n := 1) (v := 1) (by decide +kernel) (by decide +kernel) (s_iadd (by decide +kernel) (s_iald (by decide +kernel) (s_call (idx := 23) (by decide +kernel) ml13_23 rmL (s_ald_n (j := 2) (by decide +kernel) rfl (s_ald_n (j := 0) (by decide +kernel) rfl (s_ild_n (j := 3) (by decide +kernel) rfl (s_iconst (n := 1) (v := 1) (by decide +kernel) (by decide +kernel) (s_iadd (by decide +kernel) (s_iald (by decide +kernel) (s_call (idx := 26) (by decide +kernel) ml13_26 rmL (s_ic_eq (off := 778) (tgt := 1038) (by decide +kernel) (by decide) (zL_law_1038 hB) (zL_law_263 hB))))))))))))))))
def qL_law_240 (B : Nat → Pd) : Pd := (i_ci 0 i_law1)
theorem zL_law_240 {nm : String} {B : Nat → Pd} (hB : ∀ pc, Le (B pc) (G code "VoyageCompanyLaw" 4 ret nm room_1 LQ pc)) : Le (qL_law_240 B) (G code "VoyageCompanyLaw" 4 ret nm room_1 LQ 240) := by
  unfold qL_law_240
  exact (s_iconst (n := 0) (v := 0) (by decide +kernel) (by decide +kernel) (s_law1 (by decide +kernel)))
def qL_law_219 (B : Nat → Pd) : Pd := (i_ald 1 (i_ald 0 (i_ild 3 (i_ci 1 (i_iadd (i_iald (i_call 0 11 yVC_end cVC_end 2 (some .int) 600000 7302250 11 2 (i_ald 2 (i_ald 0 (i_ild 3 (i_ci 1 (i_iadd (i_iald (i_call 0 12 yMo_end cMo_end 2 (some .int) 600000 7302250 11 2 (i_ic_eq (qL_law_1038 B) (qL_law_240 B))))))))))))))))
theorem zL_law_219 {nm : String} {B : Nat → Pd} (hB : ∀ pc, Le (B pc) (G code "VoyageCompanyLaw" 4 ret nm room_1 LQ pc)) : Le (qL_law_219 B) (G code "VoyageCompanyLaw" 4 ret nm room_1 LQ 219) := by
  unfold qL_law_219
  exact (s_ald_n (j := 1) (by decide +kernel) rfl (s_ald_n (j := 0) (by decide +kernel) rfl (s_ild_n (j := 3) (by decide +kernel) rfl (s_iconst (n := 1) (v := 1) (by decide +kernel) (by decide +kernel) (s_iadd (by decide +kernel) (s_iald (by decide +kernel) (s_call (idx := 18) (by decide +kernel) ml13_18 rmL (s_ald_n (j := 2) (by decide +kernel) rfl (s_ald_n (j := 0) (by decide +kernel) rfl (s_ild_n (j := 3) (by decide +kernel) rfl (s_iconst (n := 1) (v := 1) (by decide +kernel) (by decide +kernel) (s_iadd (by decide +kernel) (s_iald (by decide +kernel) (s_call (idx := 22) (by decide +kernel) ml13_22 rmL (s_ic_eq (off := 801) (tgt := 1038) (by decide +kernel) (by decide) (zL_law_1038 hB) (zL_law_240 hB))))))))))))))))
def qL_law_217 (B : Nat → Pd) : Pd := (i_ci 0 i_law1)
theorem zL_law_217 {nm : String} {B : Nat → Pd} (hB : ∀ pc, Le (B pc) (G code "VoyageCompanyLaw" 4 ret nm room_1 LQ pc)) : Le (qL_law_217 B) (G code "VoyageCompanyLaw" 4 ret nm room_1 LQ 217) := by
  unfold qL_law_217
  exact (s_iconst (n := 0) (v := 0) (by decide +kernel) (by decide +kernel) (s_law1 (by decide +kernel)))
def qL_law_156 (B : Nat → Pd) : Pd := (i_ald 1 (i_ald 0 (i_ild 3 (i_ci 1 (i_iadd (i_iald (i_ald 0 (i_ild 3 (i_ci 2 (i_iadd (i_iald (i_ald 0 (i_ild 3 (i_ci 3 (i_iadd (i_iald (i_ald 0 (i_ild 3 (i_ci 4 (i_iadd (i_iald (i_ald 0 (i_ild 3 (i_ci 5 (i_iadd (i_iald (i_call 0 11 yVC_feed cVC_feed 7 (some .int) 600000 7302250 11 6 (i_ald 2 (i_ald 0 (i_ild 3 (i_ci 1 (i_iadd (i_iald (i_ald 0 (i_ild 3 (i_ci 2 (i_iadd (i_iald (i_ald 0 (i_ild 3 (i_ci 3 (i_iadd (i_iald (i_ald 0 (i_ild 3 (i_ci 4 (i_iadd (i_iald (i_ald 0 (i_ild 3 (i_ci 5 (i_iadd (i_iald (i_call 0 12 yMo_feed cMo_feed 8 (some .int) 600000 7302250 11 6 (i_ic_eq (qL_law_1038 B) (qL_law_217 B))))))))))))))))))))))))))))))))))))))))))))))))))))))))
theorem zL_law_156 {nm : String} {B : Nat → Pd} (hB : ∀ pc, Le (B pc) (G code "VoyageCompanyLaw" 4 ret nm room_1 LQ pc)) : Le (qL_law_156 B) (G code "VoyageCompanyLaw" 4 ret nm room_1 LQ 156) := by
  unfold qL_law_156
  exact (s_ald_n (j := 1) (by decide +kernel) rfl (s_ald_n (j := 0) (by decide +kernel) rfl (s_ild_n (j := 3) (by decide +kernel) rfl (s_iconst (n := 1) (v := 1) (by decide +kernel) (by decide +kernel) (s_iadd (by decide +kernel) (s_iald (by decide +kernel) (s_ald_n (j := 0) (by decide +kernel) rfl (s_ild_n (j := 3) (by decide +kernel) rfl (s_iconst (n := 2) (v := 2) (by decide +kernel) (by decide +kernel) (s_iadd (by decide +kernel) (s_iald (by decide +kernel) (s_ald_n (j := 0) (by decide +kernel) rfl (s_ild_n (j := 3) (by decide +kernel) rfl (s_iconst (n := 3) (v := 3) (by decide +kernel) (by decide +kernel) (s_iadd (by decide +kernel) (s_iald (by decide +kernel) (s_ald_n (j := 0) (by decide +kernel) rfl (s_ild_n (j := 3) (by decide +kernel) rfl (s_iconst (n := 4) (v := 4) (by decide +kernel) (by decide +kernel) (s_iadd (by decide +kernel) (s_iald (by decide +kernel) (s_ald_n (j := 0) (by decide +kernel) rfl (s_ild_n (j := 3) (by decide +kernel) rfl (s_iconst (n := 5) (v := 5) (by decide +kernel) (by decide +kernel) (s_iadd (by decide +kernel) (s_iald (by decide +kernel) (s_call (idx := 13) (by decide +kernel) ml13_13 rmL (s_ald_n (j := 2) (by decide +kernel) rfl (s_ald_n (j := 0) (by decide +kernel) rfl (s_ild_n (j := 3) (by decide +kernel) rfl (s_iconst (n := 1) (v := 1) (by decide +kernel) (by decide +kernel) (s_iadd (by decide +kernel) (s_iald (by decide +kernel) (s_ald_n (j := 0) (by decide +kernel) rfl (s_ild_n (j := 3) (by decide +kernel) rfl (s_iconst (n := 2) (v := 2) (by decide +kernel) (by decide +kernel) (s_iadd (by decide +kernel) (s_iald (by decide +kernel) (s_ald_n (j := 0) (by decide +kernel) rfl (s_ild_n (j := 3) (by decide +kernel) rfl (s_iconst (n := 3) (v := 3) (by decide +kernel) (by decide +kernel) (s_iadd (by decide +kernel) (s_iald (by decide +kernel) (s_ald_n (j := 0) (by decide +kernel) rfl (s_ild_n (j := 3) (by decide +kernel) rfl (s_iconst (n := 4) (v := 4) (by decide +kernel) (by decide +kernel) (s_iadd (by decide +kernel) (s_iald (by decide +kernel) (s_ald_n (j := 0) (by decide +kernel) rfl (s_ild_n (j := 3) (by decide +kernel) rfl (s_iconst (n := 5) (v := 5) (by decide +kernel) (by decide +kernel) (s_iadd (by decide +kernel) (s_iald (by decide +kernel) (s_call (idx := 17) (by decide +kernel) ml13_17 rmL (s_ic_eq (off := 824) (tgt := 1038) (by decide +kernel) (by decide) (zL_law_1038 hB) (zL_law_217 hB))))))))))))))))))))))))))))))))))))))))))))))))))))))))
def qL_law_27 (B : Nat → Pd) : Pd := (i_ald 0 (i_ild 3 (i_iald (i_ci 31 (i_iand (i_sw [(0, (qL_law_156 B)), (1, (qL_law_219 B)), (2, (qL_law_242 B)), (3, (qL_law_265 B)), (4, (qL_law_288 B)), (5, (qL_law_331 B)), (6, (qL_law_384 B)), (7, (qL_law_417 B)), (8, (qL_law_450 B)), (9, (qL_law_493 B)), (10, (qL_law_516 B)), (11, (qL_law_559 B)), (12, (qL_law_582 B)), (13, (qL_law_615 B)), (14, (qL_law_638 B)), (15, (qL_law_671 B)), (16, (qL_law_704 B)), (17, (qL_law_737 B)), (18, (qL_law_770 B)), (19, (qL_law_803 B)), (20, (qL_law_846 B)), (21, (qL_law_880 B)), (22, (qL_law_913 B)), (23, (qL_law_946 B)), (24, (qL_law_969 B)), (25, (qL_law_992 B)), (26, (qL_law_1015 B))] (qL_law_1038 B)))))))
theorem zL_law_27 {nm : String} {B : Nat → Pd} (hB : ∀ pc, Le (B pc) (G code "VoyageCompanyLaw" 4 ret nm room_1 LQ pc)) : Le (qL_law_27 B) (G code "VoyageCompanyLaw" 4 ret nm room_1 LQ 27) := by
  unfold qL_law_27
  exact (s_ald_n (j := 0) (by decide +kernel) rfl (s_ild_n (j := 3) (by decide +kernel) rfl (s_iald (by decide +kernel) (s_bipush (n := 31) (v := 31) (by decide +kernel) (by decide +kernel) (s_iand (by decide +kernel) (s_sw (fun x => by
    by_cases h0 : x = 0
    · subst h0
      exact ⟨156, sw_in (dflt := 1005) (lo := 0) (hi := 26) (offs := #[123, 186, 209, 232, 255, 298, 351, 384, 417, 460, 483, 526, 549, 582, 605, 638, 671, 704, 737, 770, 813, 847, 880, 913, 936, 959, 982]) (len := 123) (off := 123) (by decide +kernel) (by decide +kernel) (by decide +kernel) (by decide +kernel) (by decide +kernel), by simpa [swp] using (zL_law_156 hB)⟩
    by_cases h1 : x = 1
    · subst h1
      exact ⟨219, sw_in (dflt := 1005) (lo := 0) (hi := 26) (offs := #[123, 186, 209, 232, 255, 298, 351, 384, 417, 460, 483, 526, 549, 582, 605, 638, 671, 704, 737, 770, 813, 847, 880, 913, 936, 959, 982]) (len := 123) (off := 186) (by decide +kernel) (by decide +kernel) (by decide +kernel) (by decide +kernel) (by decide +kernel), by simpa [swp] using (zL_law_219 hB)⟩
    by_cases h2 : x = 2
    · subst h2
      exact ⟨242, sw_in (dflt := 1005) (lo := 0) (hi := 26) (offs := #[123, 186, 209, 232, 255, 298, 351, 384, 417, 460, 483, 526, 549, 582, 605, 638, 671, 704, 737, 770, 813, 847, 880, 913, 936, 959, 982]) (len := 123) (off := 209) (by decide +kernel) (by decide +kernel) (by decide +kernel) (by decide +kernel) (by decide +kernel), by simpa [swp] using (zL_law_242 hB)⟩
    by_cases h3 : x = 3
    · subst h3
      exact ⟨265, sw_in (dflt := 1005) (lo := 0) (hi := 26) (offs := #[123, 186, 209, 232, 255, 298, 351, 384, 417, 460, 483, 526, 549, 582, 605, 638, 671, 704, 737, 770, 813, 847, 880, 913, 936, 959, 982]) (len := 123) (off := 232) (by decide +kernel) (by decide +kernel) (by decide +kernel) (by decide +kernel) (by decide +kernel), by simpa [swp] using (zL_law_265 hB)⟩
    by_cases h4 : x = 4
    · subst h4
      exact ⟨288, sw_in (dflt := 1005) (lo := 0) (hi := 26) (offs := #[123, 186, 209, 232, 255, 298, 351, 384, 417, 460, 483, 526, 549, 582, 605, 638, 671, 704, 737, 770, 813, 847, 880, 913, 936, 959, 982]) (len := 123) (off := 255) (by decide +kernel) (by decide +kernel) (by decide +kernel) (by decide +kernel) (by decide +kernel), by simpa [swp] using (zL_law_288 hB)⟩
    by_cases h5 : x = 5
    · subst h5
      exact ⟨331, sw_in (dflt := 1005) (lo := 0) (hi := 26) (offs := #[123, 186, 209, 232, 255, 298, 351, 384, 417, 460, 483, 526, 549, 582, 605, 638, 671, 704, 737, 770, 813, 847, 880, 913, 936, 959, 982]) (len := 123) (off := 298) (by decide +kernel) (by decide +kernel) (by decide +kernel) (by decide +kernel) (by decide +kernel), by simpa [swp] using (zL_law_331 hB)⟩
    by_cases h6 : x = 6
    · subst h6
      exact ⟨384, sw_in (dflt := 1005) (lo := 0) (hi := 26) (offs := #[123, 186, 209, 232, 255, 298, 351, 384, 417, 460, 483, 526, 549, 582, 605, 638, 671, 704, 737, 770, 813, 847, 880, 913, 936, 959, 982]) (len := 123) (off := 351) (by decide +kernel) (by decide +kernel) (by decide +kernel) (by decide +kernel) (by decide +kernel), by simpa [swp] using (zL_law_384 hB)⟩
    by_cases h7 : x = 7
    · subst h7
      exact ⟨417, sw_in (dflt := 1005) (lo := 0) (hi := 26) (offs := #[123, 186, 209, 232, 255, 298, 351, 384, 417, 460, 483, 526, 549, 582, 605, 638, 671, 704, 737, 770, 813, 847, 880, 913, 936, 959, 982]) (len := 123) (off := 384) (by decide +kernel) (by decide +kernel) (by decide +kernel) (by decide +kernel) (by decide +kernel), by simpa [swp] using (zL_law_417 hB)⟩
    by_cases h8 : x = 8
    · subst h8
      exact ⟨450, sw_in (dflt := 1005) (lo := 0) (hi := 26) (offs := #[123, 186, 209, 232, 255, 298, 351, 384, 417, 460, 483, 526, 549, 582, 605, 638, 671, 704, 737, 770, 813, 847, 880, 913, 936, 959, 982]) (len := 123) (off := 417) (by decide +kernel) (by decide +kernel) (by decide +kernel) (by decide +kernel) (by decide +kernel), by simpa [swp] using (zL_law_450 hB)⟩
    by_cases h9 : x = 9
    · subst h9
      exact ⟨493, sw_in (dflt := 1005) (lo := 0) (hi := 26) (offs := #[123, 186, 209, 232, 255, 298, 351, 384, 417, 460, 483, 526, 549, 582, 605, 638, 671, 704, 737, 770, 813, 847, 880, 913, 936, 959, 982]) (len := 123) (off := 460) (by decide +kernel) (by decide +kernel) (by decide +kernel) (by decide +kernel) (by decide +kernel), by simpa [swp] using (zL_law_493 hB)⟩
    by_cases h10 : x = 10
    · subst h10
      exact ⟨516, sw_in (dflt := 1005) (lo := 0) (hi := 26) (offs := #[123, 186, 209, 232, 255, 298, 351, 384, 417, 460, 483, 526, 549, 582, 605, 638, 671, 704, 737, 770, 813, 847, 880, 913, 936, 959, 982]) (len := 123) (off := 483) (by decide +kernel) (by decide +kernel) (by decide +kernel) (by decide +kernel) (by decide +kernel), by simpa [swp] using (zL_law_516 hB)⟩
    by_cases h11 : x = 11
    · subst h11
      exact ⟨559, sw_in (dflt := 1005) (lo := 0) (hi := 26) (offs := #[123, 186, 209, 232, 255, 298, 351, 384, 417, 460, 483, 526, 549, 582, 605, 638, 671, 704, 737, 770, 813, 847, 880, 913, 936, 959, 982]) (len := 123) (off := 526) (by decide +kernel) (by decide +kernel) (by decide +kernel) (by decide +kernel) (by decide +kernel), by simpa [swp] using (zL_law_559 hB)⟩
    by_cases h12 : x = 12
    · subst h12
      exact ⟨582, sw_in (dflt := 1005) (lo := 0) (hi := 26) (offs := #[123, 186, 209, 232, 255, 298, 351, 384, 417, 460, 483, 526, 549, 582, 605, 638, 671, 704, 737, 770, 813, 847, 880, 913, 936, 959, 982]) (len := 123) (off := 549) (by decide +kernel) (by decide +kernel) (by decide +kernel) (by decide +kernel) (by decide +kernel), by simpa [swp] using (zL_law_582 hB)⟩
    by_cases h13 : x = 13
    · subst h13
      exact ⟨615, sw_in (dflt := 1005) (lo := 0) (hi := 26) (offs := #[123, 186, 209, 232, 255, 298, 351, 384, 417, 460, 483, 526, 549, 582, 605, 638, 671, 704, 737, 770, 813, 847, 880, 913, 936, 959, 982]) (len := 123) (off := 582) (by decide +kernel) (by decide +kernel) (by decide +kernel) (by decide +kernel) (by decide +kernel), by simpa [swp] using (zL_law_615 hB)⟩
    by_cases h14 : x = 14
    · subst h14
      exact ⟨638, sw_in (dflt := 1005) (lo := 0) (hi := 26) (offs := #[123, 186, 209, 232, 255, 298, 351, 384, 417, 460, 483, 526, 549, 582, 605, 638, 671, 704, 737, 770, 813, 847, 880, 913, 936, 959, 982]) (len := 123) (off := 605) (by decide +kernel) (by decide +kernel) (by decide +kernel) (by decide +kernel) (by decide +kernel), by simpa [swp] using (zL_law_638 hB)⟩
    by_cases h15 : x = 15
    · subst h15
      exact ⟨671, sw_in (dflt := 1005) (lo := 0) (hi := 26) (offs := #[123, 186, 209, 232, 255, 298, 351, 384, 417, 460, 483, 526, 549, 582, 605, 638, 671, 704, 737, 770, 813, 847, 880, 913, 936, 959, 982]) (len := 123) (off := 638) (by decide +kernel) (by decide +kernel) (by decide +kernel) (by decide +kernel) (by decide +kernel), by simpa [swp] using (zL_law_671 hB)⟩
    by_cases h16 : x = 16
    · subst h16
      exact ⟨704, sw_in (dflt := 1005) (lo := 0) (hi := 26) (offs := #[123, 186, 209, 232, 255, 298, 351, 384, 417, 460, 483, 526, 549, 582, 605, 638, 671, 704, 737, 770, 813, 847, 880, 913, 936, 959, 982]) (len := 123) (off := 671) (by decide +kernel) (by decide +kernel) (by decide +kernel) (by decide +kernel) (by decide +kernel), by simpa [swp] using (zL_law_704 hB)⟩
    by_cases h17 : x = 17
    · subst h17
      exact ⟨737, sw_in (dflt := 1005) (lo := 0) (hi := 26) (offs := #[123, 186, 209, 232, 255, 298, 351, 384, 417, 460, 483, 526, 549, 582, 605, 638, 671, 704, 737, 770, 813, 847, 880, 913, 936, 959, 982]) (len := 123) (off := 704) (by decide +kernel) (by decide +kernel) (by decide +kernel) (by decide +kernel) (by decide +kernel), by simpa [swp] using (zL_law_737 hB)⟩
    by_cases h18 : x = 18
    · subst h18
      exact ⟨770, sw_in (dflt := 1005) (lo := 0) (hi := 26) (offs := #[123, 186, 209, 232, 255, 298, 351, 384, 417, 460, 483, 526, 549, 582, 605, 638, 671, 704, 737, 770, 813, 847, 880, 913, 936, 959, 982]) (len := 123) (off := 737) (by decide +kernel) (by decide +kernel) (by decide +kernel) (by decide +kernel) (by decide +kernel), by simpa [swp] using (zL_law_770 hB)⟩
    by_cases h19 : x = 19
    · subst h19
      exact ⟨803, sw_in (dflt := 1005) (lo := 0) (hi := 26) (offs := #[123, 186, 209, 232, 255, 298, 351, 384, 417, 460, 483, 526, 549, 582, 605, 638, 671, 704, 737, 770, 813, 847, 880, 913, 936, 959, 982]) (len := 123) (off := 770) (by decide +kernel) (by decide +kernel) (by decide +kernel) (by decide +kernel) (by decide +kernel), by simpa [swp] using (zL_law_803 hB)⟩
    by_cases h20 : x = 20
    · subst h20
      exact ⟨846, sw_in (dflt := 1005) (lo := 0) (hi := 26) (offs := #[123, 186, 209, 232, 255, 298, 351, 384, 417, 460, 483, 526, 549, 582, 605, 638, 671, 704, 737, 770, 813, 847, 880, 913, 936, 959, 982]) (len := 123) (off := 813) (by decide +kernel) (by decide +kernel) (by decide +kernel) (by decide +kernel) (by decide +kernel), by simpa [swp] using (zL_law_846 hB)⟩
    by_cases h21 : x = 21
    · subst h21
      exact ⟨880, sw_in (dflt := 1005) (lo := 0) (hi := 26) (offs := #[123, 186, 209, 232, 255, 298, 351, 384, 417, 460, 483, 526, 549, 582, 605, 638, 671, 704, 737, 770, 813, 847, 880, 913, 936, 959, 982]) (len := 123) (off := 847) (by decide +kernel) (by decide +kernel) (by decide +kernel) (by decide +kernel) (by decide +kernel), by simpa [swp] using (zL_law_880 hB)⟩
    by_cases h22 : x = 22
    · subst h22
      exact ⟨913, sw_in (dflt := 1005) (lo := 0) (hi := 26) (offs := #[123, 186, 209, 232, 255, 298, 351, 384, 417, 460, 483, 526, 549, 582, 605, 638, 671, 704, 737, 770, 813, 847, 880, 913, 936, 959, 982]) (len := 123) (off := 880) (by decide +kernel) (by decide +kernel) (by decide +kernel) (by decide +kernel) (by decide +kernel), by simpa [swp] using (zL_law_913 hB)⟩
    by_cases h23 : x = 23
    · subst h23
      exact ⟨946, sw_in (dflt := 1005) (lo := 0) (hi := 26) (offs := #[123, 186, 209, 232, 255, 298, 351, 384, 417, 460, 483, 526, 549, 582, 605, 638, 671, 704, 737, 770, 813, 847, 880, 913, 936, 959, 982]) (len := 123) (off := 913) (by decide +kernel) (by decide +kernel) (by decide +kernel) (by decide +kernel) (by decide +kernel), by simpa [swp] using (zL_law_946 hB)⟩
    by_cases h24 : x = 24
    · subst h24
      exact ⟨969, sw_in (dflt := 1005) (lo := 0) (hi := 26) (offs := #[123, 186, 209, 232, 255, 298, 351, 384, 417, 460, 483, 526, 549, 582, 605, 638, 671, 704, 737, 770, 813, 847, 880, 913, 936, 959, 982]) (len := 123) (off := 936) (by decide +kernel) (by decide +kernel) (by decide +kernel) (by decide +kernel) (by decide +kernel), by simpa [swp] using (zL_law_969 hB)⟩
    by_cases h25 : x = 25
    · subst h25
      exact ⟨992, sw_in (dflt := 1005) (lo := 0) (hi := 26) (offs := #[123, 186, 209, 232, 255, 298, 351, 384, 417, 460, 483, 526, 549, 582, 605, 638, 671, 704, 737, 770, 813, 847, 880, 913, 936, 959, 982]) (len := 123) (off := 959) (by decide +kernel) (by decide +kernel) (by decide +kernel) (by decide +kernel) (by decide +kernel), by simpa [swp] using (zL_law_992 hB)⟩
    by_cases h26 : x = 26
    · subst h26
      exact ⟨1015, sw_in (dflt := 1005) (lo := 0) (hi := 26) (offs := #[123, 186, 209, 232, 255, 298, 351, 384, 417, 460, 483, 526, 549, 582, 605, 638, 671, 704, 737, 770, 813, 847, 880, 913, 936, 959, 982]) (len := 123) (off := 982) (by decide +kernel) (by decide +kernel) (by decide +kernel) (by decide +kernel) (by decide +kernel), by simpa [swp] using (zL_law_1015 hB)⟩
    have g0 := i32_ne (z := 0) (by decide +kernel) h0
    have g1 := i32_ne (z := 1) (by decide +kernel) h1
    have g2 := i32_ne (z := 2) (by decide +kernel) h2
    have g3 := i32_ne (z := 3) (by decide +kernel) h3
    have g4 := i32_ne (z := 4) (by decide +kernel) h4
    have g5 := i32_ne (z := 5) (by decide +kernel) h5
    have g6 := i32_ne (z := 6) (by decide +kernel) h6
    have g7 := i32_ne (z := 7) (by decide +kernel) h7
    have g8 := i32_ne (z := 8) (by decide +kernel) h8
    have g9 := i32_ne (z := 9) (by decide +kernel) h9
    have g10 := i32_ne (z := 10) (by decide +kernel) h10
    have g11 := i32_ne (z := 11) (by decide +kernel) h11
    have g12 := i32_ne (z := 12) (by decide +kernel) h12
    have g13 := i32_ne (z := 13) (by decide +kernel) h13
    have g14 := i32_ne (z := 14) (by decide +kernel) h14
    have g15 := i32_ne (z := 15) (by decide +kernel) h15
    have g16 := i32_ne (z := 16) (by decide +kernel) h16
    have g17 := i32_ne (z := 17) (by decide +kernel) h17
    have g18 := i32_ne (z := 18) (by decide +kernel) h18
    have g19 := i32_ne (z := 19) (by decide +kernel) h19
    have g20 := i32_ne (z := 20) (by decide +kernel) h20
    have g21 := i32_ne (z := 21) (by decide +kernel) h21
    have g22 := i32_ne (z := 22) (by decide +kernel) h22
    have g23 := i32_ne (z := 23) (by decide +kernel) h23
    have g24 := i32_ne (z := 24) (by decide +kernel) h24
    have g25 := i32_ne (z := 25) (by decide +kernel) h25
    have g26 := i32_ne (z := 26) (by decide +kernel) h26
    exact ⟨1038, sw_out (dflt := 1005) (lo := 0) (hi := 26) (offs := #[123, 186, 209, 232, 255, 298, 351, 384, 417, 460, 483, 526, 549, 582, 605, 638, 671, 704, 737, 770, 813, 847, 880, 913, 936, 959, 982]) (len := 123) (by decide +kernel) (by omega) (by decide +kernel), by simpa [swp, h0, h1, h2, h3, h4, h5, h6, h7, h8, h9, h10, h11, h12, h13, h14, h15, h16, h17, h18, h19, h20, h21, h22, h23, h24, h25, h26] using (zL_law_1038 hB)⟩)))))))
def qL_law_18 (B : Nat → Pd) : Pd := (i_ild 3 (i_ald 0 (i_alen (i_ci 6 (i_isub (i_ic_gt (qL_law_1044 B) (qL_law_27 B)))))))
theorem zL_law_18 {nm : String} {B : Nat → Pd} (hB : ∀ pc, Le (B pc) (G code "VoyageCompanyLaw" 4 ret nm room_1 LQ pc)) : Le (qL_law_18 B) (G code "VoyageCompanyLaw" 4 ret nm room_1 LQ 18) := by
  unfold qL_law_18
  exact (s_ild_n (j := 3) (by decide +kernel) rfl (s_ald_n (j := 0) (by decide +kernel) rfl (s_alen (by decide +kernel) (s_bipush (n := 6) (v := 6) (by decide +kernel) (by decide +kernel) (s_isub (by decide +kernel) (s_ic_gt (off := 1020) (tgt := 1044) (by decide +kernel) (by decide) (zL_law_1044 hB) (zL_law_27 hB)))))))
def qL_law_0 (B : Nat → Pd) : Pd := (i_new 11 600000 7302250 (i_dup (i_callA 1 11 yVC_new cVC_new 1 none 600000 7302250 11 1 (i_ast 1 (i_new 12 600000 7302250 (i_dup (i_callA 1 12 yMo_new cMo_new 2 none 600000 7302250 11 1 (i_ast 2 (i_ci 0 (i_ist 3 (B 18)))))))))))
theorem zL_law_0 {nm : String} {B : Nat → Pd} (hB : ∀ pc, Le (B pc) (G code "VoyageCompanyLaw" 4 ret nm room_1 LQ pc)) : Le (qL_law_0 B) (G code "VoyageCompanyLaw" 4 ret nm room_1 LQ 0) := by
  unfold qL_law_0
  exact (s_new (idx := 7) (by decide +kernel) (by decide) (lw_gm (by decide +kernel) (by decide +kernel)) rmLn (s_dup (by decide +kernel) (s_callA (idx := 9) (by decide +kernel) ml13_9 rmL (s_ast_n (j := 1) (by decide +kernel) rfl (by decide) (s_new (idx := 10) (by decide +kernel) (by decide) (lw_gm (by decide +kernel) (by decide +kernel)) rmLn (s_dup (by decide +kernel) (s_callA (idx := 12) (by decide +kernel) ml13_12 rmL (s_ast_n (j := 2) (by decide +kernel) rfl (by decide) (s_iconst (n := 0) (v := 0) (by decide +kernel) (by decide +kernel) (s_ist_n (j := 3) (by decide +kernel) rfl (by decide) (hB 18)))))))))))
/-- the law, at its places -/
def gL_law (nm : String) : Nat → Pd := G code "VoyageCompanyLaw" 4 ret nm room_1 LQ
theorem eL_law {nm : String} : Le (qL_law_0 (gL_law nm)) (gL_law nm 0) := zL_law_0 (fun _ => Le.refl)
theorem lL_law_18 {nm : String} : Le (qL_law_18 (gL_law nm)) (gL_law nm 18) := zL_law_18 (fun _ => Le.refl)

theorem ml13_9 : ML "VoyageCompanyLaw" 9 1 11 yVC_new cVC_new 1 none 1 := by unfold ML; decide +kernel
theorem ml13_12 : ML "VoyageCompanyLaw" 12 1 12 yMo_new cMo_new 2 none 1 := by unfold ML; decide +kernel
theorem ml13_13 : ML "VoyageCompanyLaw" 13 0 11 yVC_feed cVC_feed 7 (some .int) 6 := by unfold ML; decide +kernel
theorem ml13_17 : ML "VoyageCompanyLaw" 17 0 12 yMo_feed cMo_feed 8 (some .int) 6 := by unfold ML; decide +kernel
theorem ml13_18 : ML "VoyageCompanyLaw" 18 0 11 yVC_end cVC_end 2 (some .int) 2 := by unfold ML; decide +kernel
theorem ml13_22 : ML "VoyageCompanyLaw" 22 0 12 yMo_end cMo_end 2 (some .int) 2 := by unfold ML; decide +kernel
theorem ml13_23 : ML "VoyageCompanyLaw" 23 0 11 yVC_orders cVC_orders 2 (some .int) 2 := by unfold ML; decide +kernel
theorem ml13_26 : ML "VoyageCompanyLaw" 26 0 12 yMo_orders cMo_orders 3 (some .int) 2 := by unfold ML; decide +kernel
theorem ml13_27 : ML "VoyageCompanyLaw" 27 0 11 yVC_fault cVC_fault 2 (some .int) 2 := by unfold ML; decide +kernel
theorem ml13_30 : ML "VoyageCompanyLaw" 30 0 12 yMo_fault cMo_fault 2 (some .int) 2 := by unfold ML; decide +kernel
theorem ml13_31 : ML "VoyageCompanyLaw" 31 0 11 yVC_market cVC_market 5 (some .boolean) 4 := by unfold ML; decide +kernel
theorem ml13_35 : ML "VoyageCompanyLaw" 35 0 12 yMo_market cMo_market 4 (some .boolean) 4 := by unfold ML; decide +kernel
theorem ml13_36 : ML "VoyageCompanyLaw" 36 0 11 yVC_ship cVC_ship 8 (some .int) 5 := by unfold ML; decide +kernel
theorem ml13_40 : ML "VoyageCompanyLaw" 40 0 12 yMo_ship cMo_ship 7 (some .int) 5 := by unfold ML; decide +kernel
theorem ml13_41 : ML "VoyageCompanyLaw" 41 0 11 yVC_letter cVC_letter 4 (some .int) 3 := by unfold ML; decide +kernel
theorem ml13_45 : ML "VoyageCompanyLaw" 45 0 12 yMo_letter cMo_letter 4 (some .int) 3 := by unfold ML; decide +kernel
theorem ml13_46 : ML "VoyageCompanyLaw" 46 0 11 yVC_subscribe cVC_subscribe 5 (some .int) 3 := by unfold ML; decide +kernel
theorem ml13_49 : ML "VoyageCompanyLaw" 49 0 12 yMo_subscribe cMo_subscribe 3 (some .int) 3 := by unfold ML; decide +kernel
theorem ml13_50 : ML "VoyageCompanyLaw" 50 0 11 yVC_transfer cVC_transfer 5 (some .boolean) 4 := by unfold ML; decide +kernel
theorem ml13_53 : ML "VoyageCompanyLaw" 53 0 12 yMo_transfer cMo_transfer 4 (some .boolean) 4 := by unfold ML; decide +kernel
theorem ml13_54 : ML "VoyageCompanyLaw" 54 0 11 yVC_shares cVC_shares 2 (some .int) 2 := by unfold ML; decide +kernel
theorem ml13_57 : ML "VoyageCompanyLaw" 57 0 12 yMo_shares cMo_shares 2 (some .int) 2 := by unfold ML; decide +kernel
theorem ml13_58 : ML "VoyageCompanyLaw" 58 0 11 yVC_load cVC_load 5 (some .int) 4 := by unfold ML; decide +kernel
theorem ml13_62 : ML "VoyageCompanyLaw" 62 0 12 yMo_load cMo_load 4 (some .int) 4 := by unfold ML; decide +kernel
theorem ml13_63 : ML "VoyageCompanyLaw" 63 0 11 yVC_unload cVC_unload 4 (some .int) 2 := by unfold ML; decide +kernel
theorem ml13_66 : ML "VoyageCompanyLaw" 66 0 12 yMo_unload cMo_unload 3 (some .int) 2 := by unfold ML; decide +kernel
theorem ml13_67 : ML "VoyageCompanyLaw" 67 0 11 yVC_sail cVC_sail 4 (some .int) 3 := by unfold ML; decide +kernel
theorem ml13_70 : ML "VoyageCompanyLaw" 70 0 12 yMo_sail cMo_sail 3 (some .int) 3 := by unfold ML; decide +kernel
theorem ml13_71 : ML "VoyageCompanyLaw" 71 0 11 yVC_months cVC_months 3 (some .int) 2 := by unfold ML; decide +kernel
theorem ml13_74 : ML "VoyageCompanyLaw" 74 0 12 yMo_months cMo_months 3 (some .int) 2 := by unfold ML; decide +kernel
theorem ml13_75 : ML "VoyageCompanyLaw" 75 0 11 yVC_store cVC_store 3 (some .int) 3 := by unfold ML; decide +kernel
theorem ml13_78 : ML "VoyageCompanyLaw" 78 0 12 yMo_store cMo_store 3 (some .int) 3 := by unfold ML; decide +kernel
theorem ml13_79 : ML "VoyageCompanyLaw" 79 0 11 yVC_price cVC_price 3 (some .int) 3 := by unfold ML; decide +kernel
theorem ml13_82 : ML "VoyageCompanyLaw" 82 0 12 yMo_price cMo_price 3 (some .int) 3 := by unfold ML; decide +kernel
theorem ml13_83 : ML "VoyageCompanyLaw" 83 0 11 yVC_tell cVC_tell 5 (some .int) 3 := by unfold ML; decide +kernel
theorem ml13_86 : ML "VoyageCompanyLaw" 86 0 12 yMo_tell cMo_tell 3 (some .int) 3 := by unfold ML; decide +kernel
theorem ml13_87 : ML "VoyageCompanyLaw" 87 0 11 yVC_factor cVC_factor 4 (some .int) 3 := by unfold ML; decide +kernel
theorem ml13_90 : ML "VoyageCompanyLaw" 90 0 12 yMo_factor cMo_factor 3 (some .int) 3 := by unfold ML; decide +kernel
theorem ml13_91 : ML "VoyageCompanyLaw" 91 0 11 yVC_known cVC_known 3 (some .int) 3 := by unfold ML; decide +kernel
theorem ml13_94 : ML "VoyageCompanyLaw" 94 0 12 yMo_known cMo_known 3 (some .int) 3 := by unfold ML; decide +kernel
theorem ml13_95 : ML "VoyageCompanyLaw" 95 0 11 yVC_noted cVC_noted 4 (some .int) 4 := by unfold ML; decide +kernel
theorem ml13_98 : ML "VoyageCompanyLaw" 98 0 12 yMo_noted cMo_noted 4 (some .int) 4 := by unfold ML; decide +kernel
theorem ml13_99 : ML "VoyageCompanyLaw" 99 0 11 yVC_sum cVC_sum 3 (some .long) 3 := by unfold ML; decide +kernel
theorem ml13_103 : ML "VoyageCompanyLaw" 103 0 12 yMo_sum cMo_sum 6 (some .long) 3 := by unfold ML; decide +kernel
theorem ml13_104 : ML "VoyageCompanyLaw" 104 0 11 yVC_divide cVC_divide 4 (some .int) 3 := by unfold ML; decide +kernel
theorem ml13_107 : ML "VoyageCompanyLaw" 107 0 12 yMo_divide cMo_divide 9 (some .int) 3 := by unfold ML; decide +kernel
theorem ml13_108 : ML "VoyageCompanyLaw" 108 0 11 yVC_got cVC_got 3 (some .int) 3 := by unfold ML; decide +kernel
theorem ml13_111 : ML "VoyageCompanyLaw" 111 0 12 yMo_got cMo_got 3 (some .int) 3 := by unfold ML; decide +kernel
theorem ml13_112 : ML "VoyageCompanyLaw" 112 0 11 yVC_carried cVC_carried 2 (some .int) 2 := by unfold ML; decide +kernel
theorem ml13_115 : ML "VoyageCompanyLaw" 115 0 12 yMo_carried cMo_carried 4 (some .int) 2 := by unfold ML; decide +kernel
theorem ml13_116 : ML "VoyageCompanyLaw" 116 0 11 yVC_count cVC_count 2 (some .int) 2 := by unfold ML; decide +kernel
theorem ml13_119 : ML "VoyageCompanyLaw" 119 0 12 yMo_count cMo_count 4 (some .int) 2 := by unfold ML; decide +kernel
theorem ml13_120 : ML "VoyageCompanyLaw" 120 0 11 yVC_image cVC_image 2 (some .boolean) 2 := by unfold ML; decide +kernel
theorem ml13_124 : ML "VoyageCompanyLaw" 124 0 12 yMo_image cMo_image 3 (some .boolean) 2 := by unfold ML; decide +kernel
theorem ml13_125 : ML "VoyageCompanyLaw" 125 0 11 yVC_again cVC_again 2 (some .boolean) 2 := by unfold ML; decide +kernel
theorem ml13_128 : ML "VoyageCompanyLaw" 128 0 12 yMo_again cMo_again 3 (some .boolean) 2 := by unfold ML; decide +kernel
def qL_law_1044 (B : Nat → Pd) : Pd := (i_ci 1 i_law1)
theorem zL_law_1044 {nm : String} {B : Nat → Pd} (hB : ∀ pc, Le (B pc) (G code "VoyageCompanyLaw" 4 ret nm room_1 LQ pc)) : Le (qL_law_1044 B) (G code "VoyageCompanyLaw" 4 ret nm room_1 LQ 1044) := by
  unfold qL_law_1044
  exact (s_iconst (n := 1) (v := 1) (by decide +kernel) (by decide +kernel) (s_law1 (by decide +kernel)))
def qL_law_1038 (B : Nat → Pd) : Pd := (i_inc 3 6 (B 18))
theorem zL_law_1038 {nm : String} {B : Nat → Pd} (hB : ∀ pc, Le (B pc) (G code "VoyageCompanyLaw" 4 ret nm room_1 LQ pc)) : Le (qL_law_1038 B) (G code "VoyageCompanyLaw" 4 ret nm room_1 LQ 1038) := by
  unfold qL_law_1038
  exact (s_inc (z := 6) (by decide +kernel) (by decide +kernel) (by decide) (s_goto (off := (-1023)) (tgt := 18) (by decide +kernel) (by decide) (hB 18)))
def qL_law_1036 (B : Nat → Pd) : Pd := (i_ci 0 i_law1)
theorem zL_law_1036 {nm : String} {B : Nat → Pd} (hB : ∀ pc, Le (B pc) (G code "VoyageCompanyLaw" 4 ret nm room_1 LQ pc)) : Le (qL_law_1036 B) (G code "VoyageCompanyLaw" 4 ret nm room_1 LQ 1036) := by
  unfold qL_law_1036
  exact (s_iconst (n := 0) (v := 0) (by decide +kernel) (by decide +kernel) (s_law1 (by decide +kernel)))
def qL_law_1015 (B : Nat → Pd) : Pd := (i_ald 1 (i_ald 0 (i_ild 3 (i_ci 1 (i_iadd (i_iald (i_callA 0 11 yVC_again cVC_again 2 (some .boolean) 600000 7302250 11 2 (i_ald 2 (i_ald 0 (i_ild 3 (i_ci 1 (i_iadd (i_iald (i_call 0 12 yMo_again cMo_again 3 (some .boolean) 600000 7302250 11 2 (i_ic_eq (qL_law_1038 B) (qL_law_1036 B))))))))))))))))
theorem zL_law_1015 {nm : String} {B : Nat → Pd} (hB : ∀ pc, Le (B pc) (G code "VoyageCompanyLaw" 4 ret nm room_1 LQ pc)) : Le (qL_law_1015 B) (G code "VoyageCompanyLaw" 4 ret nm room_1 LQ 1015) := by
  unfold qL_law_1015
  exact (s_ald_n (j := 1) (by decide +kernel) rfl (s_ald_n (j := 0) (by decide +kernel) rfl (s_ild_n (j := 3) (by decide +kernel) rfl (s_iconst (n := 1) (v := 1) (by decide +kernel) (by decide +kernel) (s_iadd (by decide +kernel) (s_iald (by decide +kernel) (s_callA (idx := 125) (by decide +kernel) ml13_125 rmL (s_ald_n (j := 2) (by decide +kernel) rfl (s_ald_n (j := 0) (by decide +kernel) rfl (s_ild_n (j := 3) (by decide +kernel) rfl (s_iconst (n := 1) (v := 1) (by decide +kernel) (by decide +kernel) (s_iadd (by decide +kernel) (s_iald (by decide +kernel) (s_call (idx := 128) (by decide +kernel) ml13_128 rmL (s_ic_eq (off := 5) (tgt := 1038) (by decide +kernel) (by decide) (zL_law_1038 hB) (zL_law_1036 hB))))))))))))))))
def qL_law_1013 (B : Nat → Pd) : Pd := (i_ci 0 i_law1)
theorem zL_law_1013 {nm : String} {B : Nat → Pd} (hB : ∀ pc, Le (B pc) (G code "VoyageCompanyLaw" 4 ret nm room_1 LQ pc)) : Le (qL_law_1013 B) (G code "VoyageCompanyLaw" 4 ret nm room_1 LQ 1013) := by
  unfold qL_law_1013
  exact (s_iconst (n := 0) (v := 0) (by decide +kernel) (by decide +kernel) (s_law1 (by decide +kernel)))
def qL_law_992 (B : Nat → Pd) : Pd := (i_ald 1 (i_ald 0 (i_ild 3 (i_ci 1 (i_iadd (i_iald (i_callA 0 11 yVC_image cVC_image 2 (some .boolean) 600000 7302250 11 2 (i_ald 2 (i_ald 0 (i_ild 3 (i_ci 1 (i_iadd (i_iald (i_call 0 12 yMo_image cMo_image 3 (some .boolean) 600000 7302250 11 2 (i_ic_eq (qL_law_1038 B) (qL_law_1013 B))))))))))))))))
theorem zL_law_992 {nm : String} {B : Nat → Pd} (hB : ∀ pc, Le (B pc) (G code "VoyageCompanyLaw" 4 ret nm room_1 LQ pc)) : Le (qL_law_992 B) (G code "VoyageCompanyLaw" 4 ret nm room_1 LQ 992) := by
  unfold qL_law_992
  exact (s_ald_n (j := 1) (by decide +kernel) rfl (s_ald_n (j := 0) (by decide +kernel) rfl (s_ild_n (j := 3) (by decide +kernel) rfl (s_iconst (n := 1) (v := 1) (by decide +kernel) (by decide +kernel) (s_iadd (by decide +kernel) (s_iald (by decide +kernel) (s_callA (idx := 120) (by decide +kernel) ml13_120 rmL (s_ald_n (j := 2) (by decide +kernel) rfl (s_ald_n (j := 0) (by decide +kernel) rfl (s_ild_n (j := 3) (by decide +kernel) rfl (s_iconst (n := 1) (v := 1) (by decide +kernel) (by decide +kernel) (s_iadd (by decide +kernel) (s_iald (by decide +kernel) (s_call (idx := 124) (by decide +kernel) ml13_124 rmL (s_ic_eq (off := 28) (tgt := 1038) (by decide +kernel) (by decide) (zL_law_1038 hB) (zL_law_1013 hB))))))))))))))))
def qL_law_990 (B : Nat → Pd) : Pd := (i_ci 0 i_law1)
theorem zL_law_990 {nm : String} {B : Nat → Pd} (hB : ∀ pc, Le (B pc) (G code "VoyageCompanyLaw" 4 ret nm room_1 LQ pc)) : Le (qL_law_990 B) (G code "VoyageCompanyLaw" 4 ret nm room_1 LQ 990) := by
  unfold qL_law_990
  exact (s_iconst (n := 0) (v := 0) (by decide +kernel) (by decide +kernel) (s_law1 (by decide +kernel)))
def qL_law_969 (B : Nat → Pd) : Pd := (i_ald 1 (i_ald 0 (i_ild 3 (i_ci 1 (i_iadd (i_iald (i_call 0 11 yVC_count cVC_count 2 (some .int) 600000 7302250 11 2 (i_ald 2 (i_ald 0 (i_ild 3 (i_ci 1 (i_iadd (i_iald (i_call 0 12 yMo_count cMo_count 4 (some .int) 600000 7302250 11 2 (i_ic_eq (qL_law_1038 B) (qL_law_990 B))))))))))))))))
theorem zL_law_969 {nm : String} {B : Nat → Pd} (hB : ∀ pc, Le (B pc) (G code "VoyageCompanyLaw" 4 ret nm room_1 LQ pc)) : Le (qL_law_969 B) (G code "VoyageCompanyLaw" 4 ret nm room_1 LQ 969) := by
  unfold qL_law_969
  exact (s_ald_n (j := 1) (by decide +kernel) rfl (s_ald_n (j := 0) (by decide +kernel) rfl (s_ild_n (j := 3) (by decide +kernel) rfl (s_iconst (n := 1) (v := 1) (by decide +kernel) (by decide +kernel) (s_iadd (by decide +kernel) (s_iald (by decide +kernel) (s_call (idx := 116) (by decide +kernel) ml13_116 rmL (s_ald_n (j := 2) (by decide +kernel) rfl (s_ald_n (j := 0) (by decide +kernel) rfl (s_ild_n (j := 3) (by decide +kernel) rfl (s_iconst (n := 1) (v := 1) (by decide +kernel) (by decide +kernel) (s_iadd (by decide +kernel) (s_iald (by decide +kernel) (s_call (idx := 119) (by decide +kernel) ml13_119 rmL (s_ic_eq (off := 51) (tgt := 1038) (by decide +kernel) (by decide) (zL_law_1038 hB) (zL_law_990 hB))))))))))))))))
def qL_law_967 (B : Nat → Pd) : Pd := (i_ci 0 i_law1)
theorem zL_law_967 {nm : String} {B : Nat → Pd} (hB : ∀ pc, Le (B pc) (G code "VoyageCompanyLaw" 4 ret nm room_1 LQ pc)) : Le (qL_law_967 B) (G code "VoyageCompanyLaw" 4 ret nm room_1 LQ 967) := by
  unfold qL_law_967
  exact (s_iconst (n := 0) (v := 0) (by decide +kernel) (by decide +kernel) (s_law1 (by decide +kernel)))
def qL_law_946 (B : Nat → Pd) : Pd := (i_ald 1 (i_ald 0 (i_ild 3 (i_ci 1 (i_iadd (i_iald (i_call 0 11 yVC_carried cVC_carried 2 (some .int) 600000 7302250 11 2 (i_ald 2 (i_ald 0 (i_ild 3 (i_ci 1 (i_iadd (i_iald (i_call 0 12 yMo_carried cMo_carried 4 (some .int) 600000 7302250 11 2 (i_ic_eq (qL_law_1038 B) (qL_law_967 B))))))))))))))))
theorem zL_law_946 {nm : String} {B : Nat → Pd} (hB : ∀ pc, Le (B pc) (G code "VoyageCompanyLaw" 4 ret nm room_1 LQ pc)) : Le (qL_law_946 B) (G code "VoyageCompanyLaw" 4 ret nm room_1 LQ 946) := by
  unfold qL_law_946
  exact (s_ald_n (j := 1) (by decide +kernel) rfl (s_ald_n (j := 0) (by decide +kernel) rfl (s_ild_n (j := 3) (by decide +kernel) rfl (s_iconst (n := 1) (v := 1) (by decide +kernel) (by decide +kernel) (s_iadd (by decide +kernel) (s_iald (by decide +kernel) (s_call (idx := 112) (by decide +kernel) ml13_112 rmL (s_ald_n (j := 2) (by decide +kernel) rfl (s_ald_n (j := 0) (by decide +kernel) rfl (s_ild_n (j := 3) (by decide +kernel) rfl (s_iconst (n := 1) (v := 1) (by decide +kernel) (by decide +kernel) (s_iadd (by decide +kernel) (s_iald (by decide +kernel) (s_call (idx := 115) (by decide +kernel) ml13_115 rmL (s_ic_eq (off := 74) (tgt := 1038) (by decide +kernel) (by decide) (zL_law_1038 hB) (zL_law_967 hB))))))))))))))))
def qL_law_944 (B : Nat → Pd) : Pd := (i_ci 0 i_law1)
theorem zL_law_944 {nm : String} {B : Nat → Pd} (hB : ∀ pc, Le (B pc) (G code "VoyageCompanyLaw" 4 ret nm room_1 LQ pc)) : Le (qL_law_944 B) (G code "VoyageCompanyLaw" 4 ret nm room_1 LQ 944) := by
  unfold qL_law_944
  exact (s_iconst (n := 0) (v := 0) (by decide +kernel) (by decide +kernel) (s_law1 (by decide +kernel)))
def qL_law_913 (B : Nat → Pd) : Pd := (i_ald 1 (i_ald 0 (i_ild 3 (i_ci 1 (i_iadd (i_iald (i_ald 0 (i_ild 3 (i_ci 2 (i_iadd (i_iald (i_call 0 11 yVC_got cVC_got 3 (some .int) 600000 7302250 11 3 (i_ald 2 (i_ald 0 (i_ild 3 (i_ci 1 (i_iadd (i_iald (i_ald 0 (i_ild 3 (i_ci 2 (i_iadd (i_iald (i_call 0 12 yMo_got cMo_got 3 (some .int) 600000 7302250 11 3 (i_ic_eq (qL_law_1038 B) (qL_law_944 B))))))))))))))))))))))))))
theorem zL_law_913 {nm : String} {B : Nat → Pd} (hB : ∀ pc, Le (B pc) (G code "VoyageCompanyLaw" 4 ret nm room_1 LQ pc)) : Le (qL_law_913 B) (G code "VoyageCompanyLaw" 4 ret nm room_1 LQ 913) := by
  unfold qL_law_913
  exact (s_ald_n (j := 1) (by decide +kernel) rfl (s_ald_n (j := 0) (by decide +kernel) rfl (s_ild_n (j := 3) (by decide +kernel) rfl (s_iconst (n := 1) (v := 1) (by decide +kernel) (by decide +kernel) (s_iadd (by decide +kernel) (s_iald (by decide +kernel) (s_ald_n (j := 0) (by decide +kernel) rfl (s_ild_n (j := 3) (by decide +kernel) rfl (s_iconst (n := 2) (v := 2) (by decide +kernel) (by decide +kernel) (s_iadd (by decide +kernel) (s_iald (by decide +kernel) (s_call (idx := 108) (by decide +kernel) ml13_108 rmL (s_ald_n (j := 2) (by decide +kernel) rfl (s_ald_n (j := 0) (by decide +kernel) rfl (s_ild_n (j := 3) (by decide +kernel) rfl (s_iconst (n := 1) (v := 1) (by decide +kernel) (by decide +kernel) (s_iadd (by decide +kernel) (s_iald (by decide +kernel) (s_ald_n (j := 0) (by decide +kernel) rfl (s_ild_n (j := 3) (by decide +kernel) rfl (s_iconst (n := 2) (v := 2) (by decide +kernel) (by decide +kernel) (s_iadd (by decide +kernel) (s_iald (by decide +kernel) (s_call (idx := 111) (by decide +kernel) ml13_111 rmL (s_ic_eq (off := 97) (tgt := 1038) (by decide +kernel) (by decide) (zL_law_1038 hB) (zL_law_944 hB))))))))))))))))))))))))))
def qL_law_911 (B : Nat → Pd) : Pd := (i_ci 0 i_law1)
theorem zL_law_911 {nm : String} {B : Nat → Pd} (hB : ∀ pc, Le (B pc) (G code "VoyageCompanyLaw" 4 ret nm room_1 LQ pc)) : Le (qL_law_911 B) (G code "VoyageCompanyLaw" 4 ret nm room_1 LQ 911) := by
  unfold qL_law_911
  exact (s_iconst (n := 0) (v := 0) (by decide +kernel) (by decide +kernel) (s_law1 (by decide +kernel)))
def qL_law_880 (B : Nat → Pd) : Pd := (i_ald 1 (i_ald 0 (i_ild 3 (i_ci 1 (i_iadd (i_iald (i_ald 0 (i_ild 3 (i_ci 2 (i_iadd (i_iald (i_call 0 11 yVC_divide cVC_divide 4 (some .int) 600000 7302250 11 3 (i_ald 2 (i_ald 0 (i_ild 3 (i_ci 1 (i_iadd (i_iald (i_ald 0 (i_ild 3 (i_ci 2 (i_iadd (i_iald (i_call 0 12 yMo_divide cMo_divide 9 (some .int) 600000 7302250 11 3 (i_ic_eq (qL_law_1038 B) (qL_law_911 B))))))))))))))))))))))))))
theorem zL_law_880 {nm : String} {B : Nat → Pd} (hB : ∀ pc, Le (B pc) (G code "VoyageCompanyLaw" 4 ret nm room_1 LQ pc)) : Le (qL_law_880 B) (G code "VoyageCompanyLaw" 4 ret nm room_1 LQ 880) := by
  unfold qL_law_880
  exact (s_ald_n (j := 1) (by decide +kernel) rfl (s_ald_n (j := 0) (by decide +kernel) rfl (s_ild_n (j := 3) (by decide +kernel) rfl (s_iconst (n := 1) (v := 1) (by decide +kernel) (by decide +kernel) (s_iadd (by decide +kernel) (s_iald (by decide +kernel) (s_ald_n (j := 0) (by decide +kernel) rfl (s_ild_n (j := 3) (by decide +kernel) rfl (s_iconst (n := 2) (v := 2) (by decide +kernel) (by decide +kernel) (s_iadd (by decide +kernel) (s_iald (by decide +kernel) (s_call (idx := 104) (by decide +kernel) ml13_104 rmL (s_ald_n (j := 2) (by decide +kernel) rfl (s_ald_n (j := 0) (by decide +kernel) rfl (s_ild_n (j := 3) (by decide +kernel) rfl (s_iconst (n := 1) (v := 1) (by decide +kernel) (by decide +kernel) (s_iadd (by decide +kernel) (s_iald (by decide +kernel) (s_ald_n (j := 0) (by decide +kernel) rfl (s_ild_n (j := 3) (by decide +kernel) rfl (s_iconst (n := 2) (v := 2) (by decide +kernel) (by decide +kernel) (s_iadd (by decide +kernel) (s_iald (by decide +kernel) (s_call (idx := 107) (by decide +kernel) ml13_107 rmL (s_ic_eq (off := 130) (tgt := 1038) (by decide +kernel) (by decide) (zL_law_1038 hB) (zL_law_911 hB))))))))))))))))))))))))))
def qL_law_878 (B : Nat → Pd) : Pd := (i_ci 0 i_law1)
theorem zL_law_878 {nm : String} {B : Nat → Pd} (hB : ∀ pc, Le (B pc) (G code "VoyageCompanyLaw" 4 ret nm room_1 LQ pc)) : Le (qL_law_878 B) (G code "VoyageCompanyLaw" 4 ret nm room_1 LQ 878) := by
  unfold qL_law_878
  exact (s_iconst (n := 0) (v := 0) (by decide +kernel) (by decide +kernel) (s_law1 (by decide +kernel)))
def qL_law_846 (B : Nat → Pd) : Pd := (i_ald 1 (i_ald 0 (i_ild 3 (i_ci 1 (i_iadd (i_iald (i_ald 0 (i_ild 3 (i_ci 2 (i_iadd (i_iald (i_call 0 11 yVC_sum cVC_sum 3 (some .long) 600000 7302250 11 3 (i_ald 2 (i_ald 0 (i_ild 3 (i_ci 1 (i_iadd (i_iald (i_ald 0 (i_ild 3 (i_ci 2 (i_iadd (i_iald (i_call 0 12 yMo_sum cMo_sum 6 (some .long) 600000 7302250 11 3 (i_lcmp (i_if_eq (qL_law_1038 B) (qL_law_878 B)))))))))))))))))))))))))))
theorem zL_law_846 {nm : String} {B : Nat → Pd} (hB : ∀ pc, Le (B pc) (G code "VoyageCompanyLaw" 4 ret nm room_1 LQ pc)) : Le (qL_law_846 B) (G code "VoyageCompanyLaw" 4 ret nm room_1 LQ 846) := by
  unfold qL_law_846
  exact (s_ald_n (j := 1) (by decide +kernel) rfl (s_ald_n (j := 0) (by decide +kernel) rfl (s_ild_n (j := 3) (by decide +kernel) rfl (s_iconst (n := 1) (v := 1) (by decide +kernel) (by decide +kernel) (s_iadd (by decide +kernel) (s_iald (by decide +kernel) (s_ald_n (j := 0) (by decide +kernel) rfl (s_ild_n (j := 3) (by decide +kernel) rfl (s_iconst (n := 2) (v := 2) (by decide +kernel) (by decide +kernel) (s_iadd (by decide +kernel) (s_iald (by decide +kernel) (s_call (idx := 99) (by decide +kernel) ml13_99 rmL (s_ald_n (j := 2) (by decide +kernel) rfl (s_ald_n (j := 0) (by decide +kernel) rfl (s_ild_n (j := 3) (by decide +kernel) rfl (s_iconst (n := 1) (v := 1) (by decide +kernel) (by decide +kernel) (s_iadd (by decide +kernel) (s_iald (by decide +kernel) (s_ald_n (j := 0) (by decide +kernel) rfl (s_ild_n (j := 3) (by decide +kernel) rfl (s_iconst (n := 2) (v := 2) (by decide +kernel) (by decide +kernel) (s_iadd (by decide +kernel) (s_iald (by decide +kernel) (s_call (idx := 103) (by decide +kernel) ml13_103 rmL (s_lcmp (by decide +kernel) (s_if_eq (off := 163) (tgt := 1038) (by decide +kernel) (by decide) (zL_law_1038 hB) (zL_law_878 hB)))))))))))))))))))))))))))
def qL_law_844 (B : Nat → Pd) : Pd := (i_ci 0 i_law1)
theorem zL_law_844 {nm : String} {B : Nat → Pd} (hB : ∀ pc, Le (B pc) (G code "VoyageCompanyLaw" 4 ret nm room_1 LQ pc)) : Le (qL_law_844 B) (G code "VoyageCompanyLaw" 4 ret nm room_1 LQ 844) := by
  unfold qL_law_844
  exact (s_iconst (n := 0) (v := 0) (by decide +kernel) (by decide +kernel) (s_law1 (by decide +kernel)))
def qL_law_803 (B : Nat → Pd) : Pd := (i_ald 1 (i_ald 0 (i_ild 3 (i_ci 1 (i_iadd (i_iald (i_ald 0 (i_ild 3 (i_ci 2 (i_iadd (i_iald (i_ald 0 (i_ild 3 (i_ci 3 (i_iadd (i_iald (i_call 0 11 yVC_noted cVC_noted 4 (some .int) 600000 7302250 11 4 (i_ald 2 (i_ald 0 (i_ild 3 (i_ci 1 (i_iadd (i_iald (i_ald 0 (i_ild 3 (i_ci 2 (i_iadd (i_iald (i_ald 0 (i_ild 3 (i_ci 3 (i_iadd (i_iald (i_call 0 12 yMo_noted cMo_noted 4 (some .int) 600000 7302250 11 4 (i_ic_eq (qL_law_1038 B) (qL_law_844 B))))))))))))))))))))))))))))))))))))
theorem zL_law_803 {nm : String} {B : Nat → Pd} (hB : ∀ pc, Le (B pc) (G code "VoyageCompanyLaw" 4 ret nm room_1 LQ pc)) : Le (qL_law_803 B) (G code "VoyageCompanyLaw" 4 ret nm room_1 LQ 803) := by
  unfold qL_law_803
  exact (s_ald_n (j := 1) (by decide +kernel) rfl (s_ald_n (j := 0) (by decide +kernel) rfl (s_ild_n (j := 3) (by decide +kernel) rfl (s_iconst (n := 1) (v := 1) (by decide +kernel) (by decide +kernel) (s_iadd (by decide +kernel) (s_iald (by decide +kernel) (s_ald_n (j := 0) (by decide +kernel) rfl (s_ild_n (j := 3) (by decide +kernel) rfl (s_iconst (n := 2) (v := 2) (by decide +kernel) (by decide +kernel) (s_iadd (by decide +kernel) (s_iald (by decide +kernel) (s_ald_n (j := 0) (by decide +kernel) rfl (s_ild_n (j := 3) (by decide +kernel) rfl (s_iconst (n := 3) (v := 3) (by decide +kernel) (by decide +kernel) (s_iadd (by decide +kernel) (s_iald (by decide +kernel) (s_call (idx := 95) (by decide +kernel) ml13_95 rmL (s_ald_n (j := 2) (by decide +kernel) rfl (s_ald_n (j := 0) (by decide +kernel) rfl (s_ild_n (j := 3) (by decide +kernel) rfl (s_iconst (n := 1) (v := 1) (by decide +kernel) (by decide +kernel) (s_iadd (by decide +kernel) (s_iald (by decide +kernel) (s_ald_n (j := 0) (by decide +kernel) rfl (s_ild_n (j := 3) (by decide +kernel) rfl (s_iconst (n := 2) (v := 2) (by decide +kernel) (by decide +kernel) (s_iadd (by decide +kernel) (s_iald (by decide +kernel) (s_ald_n (j := 0) (by decide +kernel) rfl (s_ild_n (j := 3) (by decide +kernel) rfl (s_iconst (n := 3) (v := 3) (by decide +kernel) (by decide +kernel) (s_iadd (by decide +kernel) (s_iald (by decide +kernel) (s_call (idx := 98) (by decide +kernel) ml13_98 rmL (s_ic_eq (off := 197) (tgt := 1038) (by decide +kernel) (by decide) (zL_law_1038 hB) (zL_law_844 hB))))))))))))))))))))))))))))))))))))
def qL_law_801 (B : Nat → Pd) : Pd := (i_ci 0 i_law1)
theorem zL_law_801 {nm : String} {B : Nat → Pd} (hB : ∀ pc, Le (B pc) (G code "VoyageCompanyLaw" 4 ret nm room_1 LQ pc)) : Le (qL_law_801 B) (G code "VoyageCompanyLaw" 4 ret nm room_1 LQ 801) := by
  unfold qL_law_801
  exact (s_iconst (n := 0) (v := 0) (by decide +kernel) (by decide +kernel) (s_law1 (by decide +kernel)))

/-! a logical heap: cells by codes; a code is a role and a number -/
def rc (r o : Nat) : Nat := r + 64 * o
def kdr (r : Nat) : Nat := [0, 1, 2, 3, 4, 5, 6, 7, 8, 9, 10, 11, 12, 13, 13, 15, 20, 21, 19, 14, 14, 14, 14, 14, 14, 14, 14, 14, 18, 14, 14, 14, 14, 14, 14, 17, 14, 15, 16, 14].getD r (if r = 60 ∨ r = 61 ∨ r = 62 then 23 else if r = 63 then 22 else 24)
def lnr (r : Nat) : Nat := [0, 0, 0, 0, 0, 0, 0, 0, 0, 0, 0, 0, 0, 500, 0, 28, 5, 4, 10, 16, 16, 16, 16, 64, 64, 64, 1200, 4, 4, 13, 4, 10, 40, 40, 4, 3, 70400, 160, 3, 320].getD r 0
def kd (c : Nat) : Nat := kdr (c % 64)
def ln (c : Nat) : Nat := if c % 64 = 63 then c / 64 - 100000 else lnr (c % 64)
def aty (k : Nat) : FieldType := [FieldType.byte, .int, .long, .boolean, .object vcR1, .object vcR2, .object vcR4, .object vcR5, .object vcR7].getD (k - 13) .int
def tyl (cy : Nat → ClassId) : List (ClassId × FieldType) := (List.range 9).map (fun i => (cy (13 + i), aty (13 + i)))
def mv (ad : Nat → Nat) (v : Value) : Value := match v with
  | .ref c => .ref (ad c)
  | .int x => .int x
  | .long x => .long x
  | .float x => .float x
  | .double x => .double x
  | .null => .null
  | .retAddr x => .retAddr x
def rfo (ad : Nat → Nat) (v : Value) : Option Nat := match v with
  | .ref c => some (ad c)
  | _ => none
def Cn (cy : Nat → ClassId) (ad : Nat → Nat) (R : Nat → Nat → Value) (I : Nat → Nat → Int32) (J : Nat → Nat → Int64) (c : Nat) : va_E :=
  if kd c < 13 then .inr (kd c, (List.range (vcN (kd c))).map (fun k => if isR (kd c) k then mv ad (R c k) else .int (I c k)))
  else if kd c = 15 then .inl (cy 15, ln c, .inr (.inl (J c)))
  else if kd c < 17 then .inl (cy (kd c), ln c, .inl (I c))
  else .inl (cy (kd c), ln c, .inr (.inr (.inr (.inr (fun j => rfo ad (R c j))))))
def en (cy : Nat → ClassId) (ad : Nat → Nat) (R : Nat → Nat → Value) (I : Nat → Nat → Int32) (J : Nat → Nat → Int64) (c : Nat) : Nat × va_E := (ad c, Cn cy ad R I J c)
def txI : List Nat := [71, 77, 79, 81, 83, 85, 87, 89, 91, 93, 95, 97, 99, 101, 103, 105, 107, 109]
def txS : List String := ["if", "and", "month", "letter", "ships", "room", "price", "coin", "pepper", "cloth", "silk", "buy", "sell", "load", "pay", "unload", "sail", "wait"]
def txL : List Nat := [2, 3, 5, 6, 5, 4, 5, 4, 6, 5, 4, 3, 4, 4, 3, 6, 4, 4]
def txB : List (List Int32) := [[105, 102], [97, 110, 100], [109, 111, 110, 116, 104], [108, 101, 116, 116, 101, 114], [115, 104, 105, 112, 115], [114, 111, 111, 109], [112, 114, 105, 99, 101], [99, 111, 105, 110], [112, 101, 112, 112, 101, 114], [99, 108, 111, 116, 104], [115, 105, 108, 107], [98, 117, 121], [115, 101, 108, 108], [108, 111, 97, 100], [112, 97, 121], [117, 110, 108, 111, 97, 100], [115, 97, 105, 108], [119, 97, 105, 116]]
def ok (E : Nat → Prop) (v : Value) : Prop := ∀ c, v = .ref c → E c ∨ kd c = 23
def yIsPort : MethodName := ⟨"VoyageCompany", "isPort", "(I)Z"⟩
/-- what is known of the tables and of the cells that nobody writes -/
def Sy (D : va_G) (cy adV ad : Nat → Nat) (A : Nat → Prop) (U : State) (H : Heap) : Prop :=
  va_K D vcl (tyl cy) U ∧ va_Nw (.methodLinkNest "VoyageCompany$Reader" 119 yIsPort "VoyageCompany") U ∧ (∀ C ∈ [vcR1, vcR2, vcR4, vcR5, vcR7], va_AO C U)
  ∧ (∀ i, i < 18 → vk_R "VoyageCompany$Tokens" (txI.getD i 0) (txS.getD i "") (ad (rc 62 i)) U) ∧ vk_S 18 txL txB (fun i => ad (rc 62 i)) adV A U H ∧ va_Z "java/lang/String" "COMPACT_STRINGS" "Z" (.int 1) A U H
  ∧ (∀ i, i < 18 → ad (rc 61 i) = adV i) ∧ (va_Z "jdk/internal/util/Preconditions" "SIOOBE_FORMATTER" "Ljava/util/function/BiFunction;" .null A U H ∨ va_Z "jdk/internal/util/Preconditions" "SIOOBE_FORMATTER" "Ljava/util/function/BiFunction;" (.ref (ad (rc 60 0))) A U H)
/-- the heap H holds the logical heap E R I J at the addresses ad -/
def HS (D : va_G) (cy adV ad : Nat → Nat) (E : Nat → Prop) (R : Nat → Nat → Value) (I : Nat → Nat → Int32) (J : Nat → Nat → Int64) (A : Nat → Prop) (U : State) (H : Heap) : Prop :=
  Sy D cy adV ad A U H ∧ (∃ L : List Nat, (∀ c, c ∈ L ↔ (E c ∧ kd c < 22)) ∧ va_P D vcl (L.map (en cy ad R I J)) H ∧ va_D A (L.map (en cy ad R I J)))
  ∧ (∀ c k, E c → ok E (R c k)) ∧ (∀ c, E c → kd c = 22 → va_X (ad c) (ln c) (I c) U H ∧ ¬ A (ad c))
abbrev Pd : Type := List (Nat × Value) → List Value → (Nat → Prop) → (Nat → Nat → Value) → (Nat → Nat → Int32) → (Nat → Nat → Int64) → Nat → Nat → Prop
abbrev Ps : Type := Option Value → (Nat → Prop) → (Nat → Nat → Value) → (Nat → Nat → Int32) → (Nat → Nat → Int64) → Prop
abbrev Qf : Type := State → Array Value → List Frame → va_G → (Nat → Nat) → (Nat → Nat) → (Nat → Nat) → (Nat → Prop) → (Nat → Prop) → State → Prop
def Cx (cc : ByteArray) (own : String) (nL : Nat) (ret : Option FieldType) (nm : String) (p : Program) (s : State) (m : MethodId) (args : Array Value) (meth : Method) (c : Code) : Prop :=
  p.tables.exec = Jvm.exec ∧ c.code = cc ∧ meth.sig.returnType = ret ∧ c.maxLocals = nL ∧ s.vm.findClass own = some m.cls ∧ (∀ w ∈ lw_good, w.before args s = true) ∧ meth.locks = false ∧ meth.name = nm
def Fr (E0 : Nat → Prop) (ad0 : Nat → Nat) (E : Nat → Prop) (ad : Nat → Nat) : Prop := (∀ c, E0 c → E c) ∧ (∀ c, E0 c ∨ kd c = 23 → ad c = ad0 c) ∧ ∀ c, E c → 22 ≤ kd c → E0 c
def mvl (ad : Nat → Nat) (ls : List (Nat × Value)) : List (Nat × Value) := ls.map (fun q => (q.1, mv ad q.2))
def G (cc : ByteArray) (own : String) (nL : Nat) (ret : Option FieldType) (nm : String) (Rm : Room) (Q : Qf) (pc : Nat) : Pd := fun ls st E R I J a b =>
  ∀ (p : Program) (l : Launch) (e : Env) (s : State) (m : MethodId) (args : Array Value) (below : List Frame) (meth : Method) (c : Code) (D : va_G) (cy adV ad0 ad : Nat → Nat) (E0 A : Nat → Prop) (H : Heap) (locs : List Loc) (la : Array Slot),
    Cx cc own nL ret nm p s m args meth c → (∀ q, s.heap.size ≤ q → A q) → HS D cy adV ad E R I J A s H → va_S A s.heap H locs → Fr E0 ad0 E ad → lv_has la nL (mvl ad ls) → (∀ q ∈ ls, ok E q.2) → (∀ v ∈ st, ok E v) →
    W p l e Rm s m args below meth c H locs a b (Q s args below D cy adV ad0 E0 A) (F0 m pc la (st.map (mv ad)))
def Le (k g : Pd) : Prop := ∀ ls st E R I J a b, k ls st E R I J a b → g ls st E R I J a b
theorem ok_i {E : Nat → Prop} {x : Int32} : ok E (.int x) := fun c h => by cases h
theorem ok_l {E : Nat → Prop} {x : Int64} : ok E (.long x) := fun c h => by cases h
theorem ok_n {E : Nat → Prop} : ok E .null := fun c h => by cases h
theorem ok_r {E : Nat → Prop} {c : Nat} (h : E c) : ok E (.ref c) := fun c' e => by cases e; exact Or.inl h
theorem okc {E : Nat → Prop} {v : Value} {st : List Value} (h : ok E v) (ht : ∀ v ∈ st, ok E v) : ∀ w ∈ v :: st, ok E w := fun w hw => (List.mem_cons.mp hw).elim (fun e => e ▸ h) (ht w)
theorem okh {E : Nat → Prop} {v : Value} {st : List Value} (h : ∀ w ∈ v :: st, ok E w) : ok E v := h v List.mem_cons_self
theorem okt {E : Nat → Prop} {v : Value} {st : List Value} (h : ∀ w ∈ v :: st, ok E w) : ∀ w ∈ st, ok E w := fun w hw => h w (List.mem_cons_of_mem _ hw)
theorem mv_cat (ad : Nat → Nat) (v : Value) : (mv ad v).category = v.category := by cases v <;> rfl
/-! locals -/
def lk : List (Nat × Value) → Nat → Option Value
  | [], _ => none
  | (j, v) :: t, i => if j = i then some v else lk t i
def ins (i : Nat) (v : Value) : List (Nat × Value) → List (Nat × Value)
  | [] => [(i, v)]
  | (j, w) :: t => if i < j then (i, v) :: (j, w) :: t else (j, w) :: ins i v t
def st1 (ls : List (Nat × Value)) (i : Nat) (v : Value) : List (Nat × Value) := ins i v (ls.filter (fun q => !(q.1 == i) && !(q.1 + 1 == i && q.2.category == 2)))
def st2 (ls : List (Nat × Value)) (i : Nat) (v : Value) : List (Nat × Value) := ins i v (ls.filter (fun q => !(q.1 == i) && (!(q.1 == i + 1) && !(q.1 + 1 == i && q.2.category == 2))))
theorem mem_ins {i : Nat} {v : Value} {q : Nat × Value} : ∀ {l : List (Nat × Value)}, q ∈ ins i v l ↔ q = (i, v) ∨ q ∈ l
  | [] => by simp [ins]
  | (j, w) :: t => by
    unfold ins
    split
    · simp
    · rw [List.mem_cons, mem_ins (l := t), List.mem_cons]
      constructor
      · rintro (h | h | h) <;> simp [h]
      · rintro (h | h | h) <;> simp [h]
theorem lk_mem : ∀ {ls : List (Nat × Value)} {i : Nat} {v : Value}, lk ls i = some v → (i, v) ∈ ls
  | (j, w) :: t, i, v, h => by
    unfold lk at h
    split at h
    next e => cases h; subst e; exact List.mem_cons_self
    next => exact List.mem_cons_of_mem _ (lk_mem h)
theorem lv_lk {la : Array Slot} {nL i : Nat} {ls : List (Nat × Value)} {ad : Nat → Nat} {v : Value} (h : lv_has la nL (mvl ad ls)) (hk : lk ls i = some v) : la[i]? = some (.val (mv ad v)) :=
  h.2.2 (i, mv ad v) (List.mem_map.mpr ⟨(i, v), lk_mem hk, rfl⟩)
theorem mvl_filter (ad : Nat → Nat) (f : Nat × Value → Bool) (hf : ∀ i v, f (i, mv ad v) = f (i, v)) (ls : List (Nat × Value)) : (mvl ad ls).filter f = mvl ad (ls.filter f) := by
  unfold mvl
  rw [List.filter_map]
  congr 1
  apply List.filter_congr
  intro q _
  exact hf q.1 q.2
theorem lv_ins {la : Array Slot} {nL i : Nat} {v : Value} {ad : Nat → Nat} {ls : List (Nat × Value)} (h : lv_has la nL ((i, mv ad v) :: mvl ad ls)) : lv_has la nL (mvl ad (ins i v ls)) := by
  refine ⟨h.1, h.2.1, fun q hq => ?_⟩
  obtain ⟨q', hq', rfl⟩ := List.mem_map.mp hq
  rcases mem_ins.mp hq' with rfl | h2
  · exact h.2.2 _ List.mem_cons_self
  · exact h.2.2 _ (List.mem_cons_of_mem _ (List.mem_map.mpr ⟨q', h2, rfl⟩))
theorem ok_st1 {E : Nat → Prop} {ls : List (Nat × Value)} {i : Nat} {v : Value} (hv : ok E v) (h : ∀ q ∈ ls, ok E q.2) : ∀ q ∈ st1 ls i v, ok E q.2 := by
  intro q hq
  rcases mem_ins.mp hq with rfl | h2
  · exact hv
  · exact h q (List.mem_filter.mp h2).1
theorem ok_st2 {E : Nat → Prop} {ls : List (Nat × Value)} {i : Nat} {v : Value} (hv : ok E v) (h : ∀ q ∈ ls, ok E q.2) : ∀ q ∈ st2 ls i v, ok E q.2 := by
  intro q hq
  rcases mem_ins.mp hq with rfl | h2
  · exact hv
  · exact h q (List.mem_filter.mp h2).1
section Rows
variable {cc : ByteArray} {own : String} {nL : Nat} {ret : Option FieldType} {nm : String} {Rm : Room} {Q : Qf} {pc : Nat}
def i_iadd (k : Pd) : Pd := fun ls st E R I J a b => match st with
  | .int y :: .int x :: st => k ls (.int (x + y) :: st) E R I J a b
  | _ => False
theorem s_iadd {k : Pd} (hd : decode cc pc = .ok (.iadd, 1)) (hk : Le k (G cc own nL ret nm Rm Q (pc + 1))) : Le (i_iadd k) (G cc own nL ret nm Rm Q pc) := by
  intro ls st E R I J a b h
  match st, h with
  | .int y :: .int x :: st, h =>
    intro p l e s m args below meth c D cy adV ad0 ad E0 A H locs la C hA hH hS hF hl hL hT
    exact lv_iadd C.1 C.2.1 hd  (hk _ _ _ _ _ _ _ _ h p l e s m args below meth c D cy adV ad0 ad E0 A H locs la C hA hH hS hF hl hL (okc ok_i (okt (okt hT))))
def i_isub (k : Pd) : Pd := fun ls st E R I J a b => match st with
  | .int y :: .int x :: st => k ls (.int (x - y) :: st) E R I J a b
  | _ => False
theorem s_isub {k : Pd} (hd : decode cc pc = .ok (.isub, 1)) (hk : Le k (G cc own nL ret nm Rm Q (pc + 1))) : Le (i_isub k) (G cc own nL ret nm Rm Q pc) := by
  intro ls st E R I J a b h
  match st, h with
  | .int y :: .int x :: st, h =>
    intro p l e s m args below meth c D cy adV ad0 ad E0 A H locs la C hA hH hS hF hl hL hT
    exact lv_isub C.1 C.2.1 hd  (hk _ _ _ _ _ _ _ _ h p l e s m args below meth c D cy adV ad0 ad E0 A H locs la C hA hH hS hF hl hL (okc ok_i (okt (okt hT))))
def i_imul (k : Pd) : Pd := fun ls st E R I J a b => match st with
  | .int y :: .int x :: st => k ls (.int (x * y) :: st) E R I J a b
  | _ => False
theorem s_imul {k : Pd} (hd : decode cc pc = .ok (.imul, 1)) (hk : Le k (G cc own nL ret nm Rm Q (pc + 1))) : Le (i_imul k) (G cc own nL ret nm Rm Q pc) := by
  intro ls st E R I J a b h
  match st, h with
  | .int y :: .int x :: st, h =>
    intro p l e s m args below meth c D cy adV ad0 ad E0 A H locs la C hA hH hS hF hl hL hT
    exact lv_imul C.1 C.2.1 hd  (hk _ _ _ _ _ _ _ _ h p l e s m args below meth c D cy adV ad0 ad E0 A H locs la C hA hH hS hF hl hL (okc ok_i (okt (okt hT))))
def i_iand (k : Pd) : Pd := fun ls st E R I J a b => match st with
  | .int y :: .int x :: st => k ls (.int (x &&& y) :: st) E R I J a b
  | _ => False
theorem s_iand {k : Pd} (hd : decode cc pc = .ok (.iand, 1)) (hk : Le k (G cc own nL ret nm Rm Q (pc + 1))) : Le (i_iand k) (G cc own nL ret nm Rm Q pc) := by
  intro ls st E R I J a b h
  match st, h with
  | .int y :: .int x :: st, h =>
    intro p l e s m args below meth c D cy adV ad0 ad E0 A H locs la C hA hH hS hF hl hL hT
    exact lv_iand C.1 C.2.1 hd  (hk _ _ _ _ _ _ _ _ h p l e s m args below meth c D cy adV ad0 ad E0 A H locs la C hA hH hS hF hl hL (okc ok_i (okt (okt hT))))
def i_ishr (k : Pd) : Pd := fun ls st E R I J a b => match st with
  | .int y :: .int x :: st => k ls (.int (x >>> (y &&& 31)) :: st) E R I J a b
  | _ => False
theorem s_ishr {k : Pd} (hd : decode cc pc = .ok (.ishr, 1)) (hk : Le k (G cc own nL ret nm Rm Q (pc + 1))) : Le (i_ishr k) (G cc own nL ret nm Rm Q pc) := by
  intro ls st E R I J a b h
  match st, h with
  | .int y :: .int x :: st, h =>
    intro p l e s m args below meth c D cy adV ad0 ad E0 A H locs la C hA hH hS hF hl hL hT
    exact lv_ishr C.1 C.2.1 hd  (hk _ _ _ _ _ _ _ _ h p l e s m args below meth c D cy adV ad0 ad E0 A H locs la C hA hH hS hF hl hL (okc ok_i (okt (okt hT))))
def i_iushr (k : Pd) : Pd := fun ls st E R I J a b => match st with
  | .int y :: .int x :: st => k ls (.int ((x.toUInt32 >>> (y.toUInt32 &&& Int32.toUInt32 31)).toInt32) :: st) E R I J a b
  | _ => False
theorem s_iushr {k : Pd} (hd : decode cc pc = .ok (.iushr, 1)) (hk : Le k (G cc own nL ret nm Rm Q (pc + 1))) : Le (i_iushr k) (G cc own nL ret nm Rm Q pc) := by
  intro ls st E R I J a b h
  match st, h with
  | .int y :: .int x :: st, h =>
    intro p l e s m args below meth c D cy adV ad0 ad E0 A H locs la C hA hH hS hF hl hL hT
    exact lv_iushr C.1 C.2.1 hd rfl (hk _ _ _ _ _ _ _ _ h p l e s m args below meth c D cy adV ad0 ad E0 A H locs la C hA hH hS hF hl hL (okc ok_i (okt (okt hT))))
def i_idiv (k : Pd) : Pd := fun ls st E R I J a b => match st with
  | .int y :: .int x :: st => (¬ y = 0) ∧ k ls (.int (x / y) :: st) E R I J a b
  | _ => False
theorem s_idiv {k : Pd} (hd : decode cc pc = .ok (.idiv, 1)) (hk : Le k (G cc own nL ret nm Rm Q (pc + 1))) : Le (i_idiv k) (G cc own nL ret nm Rm Q pc) := by
  intro ls st E R I J a b h
  match st, h with
  | .int y :: .int x :: st, h =>
    intro p l e s m args below meth c D cy adV ad0 ad E0 A H locs la C hA hH hS hF hl hL hT
    exact lv_idiv C.1 C.2.1 hd h.1 (hk _ _ _ _ _ _ _ _ h.2 p l e s m args below meth c D cy adV ad0 ad E0 A H locs la C hA hH hS hF hl hL (okc ok_i (okt (okt hT))))
def i_irem (k : Pd) : Pd := fun ls st E R I J a b => match st with
  | .int y :: .int x :: st => (¬ y = 0) ∧ k ls (.int (x - x / y * y) :: st) E R I J a b
  | _ => False
theorem s_irem {k : Pd} (hd : decode cc pc = .ok (.irem, 1)) (hk : Le k (G cc own nL ret nm Rm Q (pc + 1))) : Le (i_irem k) (G cc own nL ret nm Rm Q pc) := by
  intro ls st E R I J a b h
  match st, h with
  | .int y :: .int x :: st, h =>
    intro p l e s m args below meth c D cy adV ad0 ad E0 A H locs la C hA hH hS hF hl hL hT
    exact lv_irem C.1 C.2.1 hd h.1 (hk _ _ _ _ _ _ _ _ h.2 p l e s m args below meth c D cy adV ad0 ad E0 A H locs la C hA hH hS hF hl hL (okc ok_i (okt (okt hT))))
def i_ladd (k : Pd) : Pd := fun ls st E R I J a b => match st with
  | .long y :: .long x :: st => k ls (.long (x + y) :: st) E R I J a b
  | _ => False
theorem s_ladd {k : Pd} (hd : decode cc pc = .ok (.ladd, 1)) (hk : Le k (G cc own nL ret nm Rm Q (pc + 1))) : Le (i_ladd k) (G cc own nL ret nm Rm Q pc) := by
  intro ls st E R I J a b h
  match st, h with
  | .long y :: .long x :: st, h =>
    intro p l e s m args below meth c D cy adV ad0 ad E0 A H locs la C hA hH hS hF hl hL hT
    exact lv_ladd C.1 C.2.1 hd  (hk _ _ _ _ _ _ _ _ h p l e s m args below meth c D cy adV ad0 ad E0 A H locs la C hA hH hS hF hl hL (okc ok_l (okt (okt hT))))
def i_lsub (k : Pd) : Pd := fun ls st E R I J a b => match st with
  | .long y :: .long x :: st => k ls (.long (x - y) :: st) E R I J a b
  | _ => False
theorem s_lsub {k : Pd} (hd : decode cc pc = .ok (.lsub, 1)) (hk : Le k (G cc own nL ret nm Rm Q (pc + 1))) : Le (i_lsub k) (G cc own nL ret nm Rm Q pc) := by
  intro ls st E R I J a b h
  match st, h with
  | .long y :: .long x :: st, h =>
    intro p l e s m args below meth c D cy adV ad0 ad E0 A H locs la C hA hH hS hF hl hL hT
    exact lv_lsub C.1 C.2.1 hd  (hk _ _ _ _ _ _ _ _ h p l e s m args below meth c D cy adV ad0 ad E0 A H locs la C hA hH hS hF hl hL (okc ok_l (okt (okt hT))))
def i_lmul (k : Pd) : Pd := fun ls st E R I J a b => match st with
  | .long y :: .long x :: st => k ls (.long (x * y) :: st) E R I J a b
  | _ => False
theorem s_lmul {k : Pd} (hd : decode cc pc = .ok (.lmul, 1)) (hk : Le k (G cc own nL ret nm Rm Q (pc + 1))) : Le (i_lmul k) (G cc own nL ret nm Rm Q pc) := by
  intro ls st E R I J a b h
  match st, h with
  | .long y :: .long x :: st, h =>
    intro p l e s m args below meth c D cy adV ad0 ad E0 A H locs la C hA hH hS hF hl hL hT
    exact lv_lmul C.1 C.2.1 hd  (hk _ _ _ _ _ _ _ _ h p l e s m args below meth c D cy adV ad0 ad E0 A H locs la C hA hH hS hF hl hL (okc ok_l (okt (okt hT))))
def i_ldiv (k : Pd) : Pd := fun ls st E R I J a b => match st with
  | .long y :: .long x :: st => (¬ y = 0) ∧ k ls (.long (x / y) :: st) E R I J a b
  | _ => False
theorem s_ldiv {k : Pd} (hd : decode cc pc = .ok (.ldiv, 1)) (hk : Le k (G cc own nL ret nm Rm Q (pc + 1))) : Le (i_ldiv k) (G cc own nL ret nm Rm Q pc) := by
  intro ls st E R I J a b h
  match st, h with
  | .long y :: .long x :: st, h =>
    intro p l e s m args below meth c D cy adV ad0 ad E0 A H locs la C hA hH hS hF hl hL hT
    exact lv_ldiv C.1 C.2.1 hd h.1 (hk _ _ _ _ _ _ _ _ h.2 p l e s m args below meth c D cy adV ad0 ad E0 A H locs la C hA hH hS hF hl hL (okc ok_l (okt (okt hT))))
def i_lrem (k : Pd) : Pd := fun ls st E R I J a b => match st with
  | .long y :: .long x :: st => (¬ y = 0) ∧ k ls (.long (x - x / y * y) :: st) E R I J a b
  | _ => False
theorem s_lrem {k : Pd} (hd : decode cc pc = .ok (.lrem, 1)) (hk : Le k (G cc own nL ret nm Rm Q (pc + 1))) : Le (i_lrem k) (G cc own nL ret nm Rm Q pc) := by
  intro ls st E R I J a b h
  match st, h with
  | .long y :: .long x :: st, h =>
    intro p l e s m args below meth c D cy adV ad0 ad E0 A H locs la C hA hH hS hF hl hL hT
    exact lv_lrem C.1 C.2.1 hd h.1 (hk _ _ _ _ _ _ _ _ h.2 p l e s m args below meth c D cy adV ad0 ad E0 A H locs la C hA hH hS hF hl hL (okc ok_l (okt (okt hT))))
def i_lcmp (k : Pd) : Pd := fun ls st E R I J a b => match st with
  | .long y :: .long x :: st => k ls (.int (lg_cmp x y) :: st) E R I J a b
  | _ => False
theorem s_lcmp {k : Pd} (hd : decode cc pc = .ok (.lcmp, 1)) (hk : Le k (G cc own nL ret nm Rm Q (pc + 1))) : Le (i_lcmp k) (G cc own nL ret nm Rm Q pc) := by
  intro ls st E R I J a b h
  match st, h with
  | .long y :: .long x :: st, h =>
    intro p l e s m args below meth c D cy adV ad0 ad E0 A H locs la C hA hH hS hF hl hL hT
    exact W.lcmp C.1 C.2.1 hd  (hk _ _ _ _ _ _ _ _ h p l e s m args below meth c D cy adV ad0 ad E0 A H locs la C hA hH hS hF hl hL (okc ok_i (okt (okt hT))))
def i_ineg (k : Pd) : Pd := fun ls st E R I J a b => match st with
  | .int x :: st => k ls (.int (-x) :: st) E R I J a b
  | _ => False
theorem s_ineg {k : Pd} (hd : decode cc pc = .ok (.ineg, 1)) (hk : Le k (G cc own nL ret nm Rm Q (pc + 1))) : Le (i_ineg k) (G cc own nL ret nm Rm Q pc) := by
  intro ls st E R I J a b h
  match st, h with
  | .int x :: st, h =>
    intro p l e s m args below meth c D cy adV ad0 ad E0 A H locs la C hA hH hS hF hl hL hT
    exact lv_ineg C.1 C.2.1 hd  (hk _ _ _ _ _ _ _ _ h p l e s m args below meth c D cy adV ad0 ad E0 A H locs la C hA hH hS hF hl hL (okc ok_i (okt hT)))
def i_i2l (k : Pd) : Pd := fun ls st E R I J a b => match st with
  | .int x :: st => k ls (.long x.toInt64 :: st) E R I J a b
  | _ => False
theorem s_i2l {k : Pd} (hd : decode cc pc = .ok (.i2l, 1)) (hk : Le k (G cc own nL ret nm Rm Q (pc + 1))) : Le (i_i2l k) (G cc own nL ret nm Rm Q pc) := by
  intro ls st E R I J a b h
  match st, h with
  | .int x :: st, h =>
    intro p l e s m args below meth c D cy adV ad0 ad E0 A H locs la C hA hH hS hF hl hL hT
    exact lv_i2l C.1 C.2.1 hd rfl (hk _ _ _ _ _ _ _ _ h p l e s m args below meth c D cy adV ad0 ad E0 A H locs la C hA hH hS hF hl hL (okc ok_l (okt hT)))
def i_l2i (k : Pd) : Pd := fun ls st E R I J a b => match st with
  | .long x :: st => k ls (.int x.toInt32 :: st) E R I J a b
  | _ => False
theorem s_l2i {k : Pd} (hd : decode cc pc = .ok (.l2i, 1)) (hk : Le k (G cc own nL ret nm Rm Q (pc + 1))) : Le (i_l2i k) (G cc own nL ret nm Rm Q pc) := by
  intro ls st E R I J a b h
  match st, h with
  | .long x :: st, h =>
    intro p l e s m args below meth c D cy adV ad0 ad E0 A H locs la C hA hH hS hF hl hL hT
    exact lv_l2i C.1 C.2.1 hd rfl (hk _ _ _ _ _ _ _ _ h p l e s m args below meth c D cy adV ad0 ad E0 A H locs la C hA hH hS hF hl hL (okc ok_i (okt hT)))
def i_i2b (k : Pd) : Pd := fun ls st E R I J a b => match st with
  | .int x :: st => k ls (.int x.toInt8.toInt32 :: st) E R I J a b
  | _ => False
theorem s_i2b {k : Pd} (hd : decode cc pc = .ok (.i2b, 1)) (hk : Le k (G cc own nL ret nm Rm Q (pc + 1))) : Le (i_i2b k) (G cc own nL ret nm Rm Q pc) := by
  intro ls st E R I J a b h
  match st, h with
  | .int x :: st, h =>
    intro p l e s m args below meth c D cy adV ad0 ad E0 A H locs la C hA hH hS hF hl hL hT
    exact lv_i2b C.1 C.2.1 hd rfl (hk _ _ _ _ _ _ _ _ h p l e s m args below meth c D cy adV ad0 ad E0 A H locs la C hA hH hS hF hl hL (okc ok_i (okt hT)))
def i_ci (v : Int32) (k : Pd) : Pd := fun ls st E R I J a b => k ls (.int v :: st) E R I J a b
def i_cl (v : Int64) (k : Pd) : Pd := fun ls st E R I J a b => k ls (.long v :: st) E R I J a b
def i_null (k : Pd) : Pd := fun ls st E R I J a b => k ls (.null :: st) E R I J a b
theorem s_iconst {n : Int} {v : Int32} {k : Pd} (hd : decode cc pc = .ok (.iconst n, 1)) (hv : Int32.ofInt n = v) (hk : Le k (G cc own nL ret nm Rm Q (pc + 1))) : Le (i_ci v k) (G cc own nL ret nm Rm Q pc) := by
  intro ls st E R I J a b h
  intro p l e s m args below meth c D cy adV ad0 ad E0 A H locs la C hA hH hS hF hl hL hT
  exact lv_iconst C.1 C.2.1 hd hv (hk _ _ _ _ _ _ _ _ h p l e s m args below meth c D cy adV ad0 ad E0 A H locs la C hA hH hS hF hl hL (okc ok_i hT))
theorem s_bipush {n : Int} {v : Int32} {k : Pd} (hd : decode cc pc = .ok (.bipush n, 2)) (hv : (Int8.ofInt n).toInt32 = v) (hk : Le k (G cc own nL ret nm Rm Q (pc + 2))) : Le (i_ci v k) (G cc own nL ret nm Rm Q pc) := by
  intro ls st E R I J a b h
  intro p l e s m args below meth c D cy adV ad0 ad E0 A H locs la C hA hH hS hF hl hL hT
  exact lv_bipush C.1 C.2.1 hd hv (hk _ _ _ _ _ _ _ _ h p l e s m args below meth c D cy adV ad0 ad E0 A H locs la C hA hH hS hF hl hL (okc ok_i hT))
theorem s_sipush {n : Int} {v : Int32} {k : Pd} (hd : decode cc pc = .ok (.sipush n, 3)) (hv : (Int16.ofInt n).toInt32 = v) (hk : Le k (G cc own nL ret nm Rm Q (pc + 3))) : Le (i_ci v k) (G cc own nL ret nm Rm Q pc) := by
  intro ls st E R I J a b h
  intro p l e s m args below meth c D cy adV ad0 ad E0 A H locs la C hA hH hS hF hl hL hT
  exact lv_sipush C.1 C.2.1 hd hv (hk _ _ _ _ _ _ _ _ h p l e s m args below meth c D cy adV ad0 ad E0 A H locs la C hA hH hS hF hl hL (okc ok_i hT))
theorem s_lconst {n : Fin 2} {v : Int64} {k : Pd} (hd : decode cc pc = .ok (.lconst n, 1)) (hv : Int64.ofNat (n : Nat) = v) (hk : Le k (G cc own nL ret nm Rm Q (pc + 1))) : Le (i_cl v k) (G cc own nL ret nm Rm Q pc) := by
  intro ls st E R I J a b h
  intro p l e s m args below meth c D cy adV ad0 ad E0 A H locs la C hA hH hS hF hl hL hT
  exact lv_lconst C.1 C.2.1 hd hv (hk _ _ _ _ _ _ _ _ h p l e s m args below meth c D cy adV ad0 ad E0 A H locs la C hA hH hS hF hl hL (okc ok_l hT))
theorem s_ldc {n : Nat} {v : Int32} {k : Pd} (hd : decode cc pc = .ok (.ldc n, 2)) (hv : Jvm.Cond.constant own n v ∈ lw_good) (hk : Le k (G cc own nL ret nm Rm Q (pc + 2))) : Le (i_ci v k) (G cc own nL ret nm Rm Q pc) := by
  intro ls st E R I J a b h
  intro p l e s m args below meth c D cy adV ad0 ad E0 A H locs la C hA hH hS hF hl hL hT
  exact lv_ldc C.1 C.2.1 C.2.2.2.2.1 (C.2.2.2.2.2.1 _ hv) hd (hk _ _ _ _ _ _ _ _ h p l e s m args below meth c D cy adV ad0 ad E0 A H locs la C hA hH hS hF hl hL (okc ok_i hT))
theorem s_ldc2 {n : Nat} {v : Int64} {k : Pd} (hd : decode cc pc = .ok (.ldc2_w n, 3)) (hv : Jvm.Cond.constantLong own n v ∈ lw_good) (hk : Le k (G cc own nL ret nm Rm Q (pc + 3))) : Le (i_cl v k) (G cc own nL ret nm Rm Q pc) := by
  intro ls st E R I J a b h
  intro p l e s m args below meth c D cy adV ad0 ad E0 A H locs la C hA hH hS hF hl hL hT
  exact lv_ldc2 C.1 C.2.1 C.2.2.2.2.1 (C.2.2.2.2.2.1 _ hv) hd (hk _ _ _ _ _ _ _ _ h p l e s m args below meth c D cy adV ad0 ad E0 A H locs la C hA hH hS hF hl hL (okc ok_l hT))
theorem s_null  {k : Pd} (hd : decode cc pc = .ok (.aconst_null, 1))  (hk : Le k (G cc own nL ret nm Rm Q (pc + 1))) : Le (i_null k) (G cc own nL ret nm Rm Q pc) := by
  intro ls st E R I J a b h
  intro p l e s m args below meth c D cy adV ad0 ad E0 A H locs la C hA hH hS hF hl hL hT
  exact lv_null C.1 C.2.1 hd (hk _ _ _ _ _ _ _ _ h p l e s m args below meth c D cy adV ad0 ad E0 A H locs la C hA hH hS hF hl hL (okc ok_n hT))
def i_ild (i : Nat) (k : Pd) : Pd := fun ls st E R I J a b => match lk ls i with
  | some (.int x) => k ls (.int x :: st) E R I J a b
  | _ => False
theorem s_ild_n {j : Fin 4} {i : Nat} {k : Pd} (hd : decode cc pc = .ok (.iload_n j, 1)) (hi : (j : Nat) = i) (hk : Le k (G cc own nL ret nm Rm Q (pc + 1))) : Le (i_ild i k) (G cc own nL ret nm Rm Q pc) := by
  intro ls st E R I J a b h
  unfold i_ild at h
  split at h
  next x hx =>
    intro p l e s m args below meth c D cy adV ad0 ad E0 A H locs la C hA hH hS hF hl hL hT
    exact lv_iload_n C.1 C.2.1 hd hi (lv_lk hl hx) (hk _ _ _ _ _ _ _ _ h p l e s m args below meth c D cy adV ad0 ad E0 A H locs la C hA hH hS hF hl hL (okc ok_i hT))
  next => exact h.elim
theorem s_ild  {i : Nat} {k : Pd} (hd : decode cc pc = .ok (.iload i, 2)) (hk : Le k (G cc own nL ret nm Rm Q (pc + 2))) : Le (i_ild i k) (G cc own nL ret nm Rm Q pc) := by
  intro ls st E R I J a b h
  unfold i_ild at h
  split at h
  next x hx =>
    intro p l e s m args below meth c D cy adV ad0 ad E0 A H locs la C hA hH hS hF hl hL hT
    exact lv_iload C.1 C.2.1 hd  (lv_lk hl hx) (hk _ _ _ _ _ _ _ _ h p l e s m args below meth c D cy adV ad0 ad E0 A H locs la C hA hH hS hF hl hL (okc ok_i hT))
  next => exact h.elim
def i_lld (i : Nat) (k : Pd) : Pd := fun ls st E R I J a b => match lk ls i with
  | some (.long x) => k ls (.long x :: st) E R I J a b
  | _ => False
theorem s_lld_n {j : Fin 4} {i : Nat} {k : Pd} (hd : decode cc pc = .ok (.lload_n j, 1)) (hi : (j : Nat) = i) (hk : Le k (G cc own nL ret nm Rm Q (pc + 1))) : Le (i_lld i k) (G cc own nL ret nm Rm Q pc) := by
  intro ls st E R I J a b h
  unfold i_lld at h
  split at h
  next x hx =>
    intro p l e s m args below meth c D cy adV ad0 ad E0 A H locs la C hA hH hS hF hl hL hT
    exact lv_lload_n C.1 C.2.1 hd hi (lv_lk hl hx) (hk _ _ _ _ _ _ _ _ h p l e s m args below meth c D cy adV ad0 ad E0 A H locs la C hA hH hS hF hl hL (okc ok_l hT))
  next => exact h.elim
theorem s_lld  {i : Nat} {k : Pd} (hd : decode cc pc = .ok (.lload i, 2)) (hk : Le k (G cc own nL ret nm Rm Q (pc + 2))) : Le (i_lld i k) (G cc own nL ret nm Rm Q pc) := by
  intro ls st E R I J a b h
  unfold i_lld at h
  split at h
  next x hx =>
    intro p l e s m args below meth c D cy adV ad0 ad E0 A H locs la C hA hH hS hF hl hL hT
    exact lv_lload C.1 C.2.1 hd  (lv_lk hl hx) (hk _ _ _ _ _ _ _ _ h p l e s m args below meth c D cy adV ad0 ad E0 A H locs la C hA hH hS hF hl hL (okc ok_l hT))
  next => exact h.elim
def i_ald (i : Nat) (k : Pd) : Pd := fun ls st E R I J a b => match lk ls i with
  | some (.ref x) => k ls (.ref x :: st) E R I J a b
  | some .null => k ls (.null :: st) E R I J a b
  | _ => False
theorem s_ald_n {j : Fin 4} {i : Nat} {k : Pd} (hd : decode cc pc = .ok (.aload_n j, 1)) (hi : (j : Nat) = i) (hk : Le k (G cc own nL ret nm Rm Q (pc + 1))) : Le (i_ald i k) (G cc own nL ret nm Rm Q pc) := by
  intro ls st E R I J a b h
  unfold i_ald at h
  split at h
  next x hx =>
    intro p l e s m args below meth c D cy adV ad0 ad E0 A H locs la C hA hH hS hF hl hL hT
    exact lv_aload_n C.1 C.2.1 hd hi (lv_lk hl hx) (hk _ _ _ _ _ _ _ _ h p l e s m args below meth c D cy adV ad0 ad E0 A H locs la C hA hH hS hF hl hL (okc (hL _ (lk_mem hx)) hT))
  next hx =>
    intro p l e s m args below meth c D cy adV ad0 ad E0 A H locs la C hA hH hS hF hl hL hT
    exact lv_aload_nN C.1 C.2.1 hd hi (lv_lk hl hx) (hk _ _ _ _ _ _ _ _ h p l e s m args below meth c D cy adV ad0 ad E0 A H locs la C hA hH hS hF hl hL (okc ok_n hT))
  next => exact h.elim
theorem s_ald  {i : Nat} {k : Pd} (hd : decode cc pc = .ok (.aload i, 2)) (hk : Le k (G cc own nL ret nm Rm Q (pc + 2))) : Le (i_ald i k) (G cc own nL ret nm Rm Q pc) := by
  intro ls st E R I J a b h
  unfold i_ald at h
  split at h
  next x hx =>
    intro p l e s m args below meth c D cy adV ad0 ad E0 A H locs la C hA hH hS hF hl hL hT
    exact lv_aload C.1 C.2.1 hd  (lv_lk hl hx) (hk _ _ _ _ _ _ _ _ h p l e s m args below meth c D cy adV ad0 ad E0 A H locs la C hA hH hS hF hl hL (okc (hL _ (lk_mem hx)) hT))
  next hx =>
    intro p l e s m args below meth c D cy adV ad0 ad E0 A H locs la C hA hH hS hF hl hL hT
    exact lv_aloadN C.1 C.2.1 hd  (lv_lk hl hx) (hk _ _ _ _ _ _ _ _ h p l e s m args below meth c D cy adV ad0 ad E0 A H locs la C hA hH hS hF hl hL (okc ok_n hT))
  next => exact h.elim
def i_ist (i : Nat) (k : Pd) : Pd := fun ls st E R I J a b => match st with
  | .int x :: st => k (st1 ls i (.int x)) st E R I J a b
  | _ => False
theorem s_ist_n {j : Fin 4} {i : Nat} {k : Pd} (hd : decode cc pc = .ok (.istore_n j, 1)) (hi : (j : Nat) = i) (hn : i < nL) (hk : Le k (G cc own nL ret nm Rm Q (pc + 1))) : Le (i_ist i k) (G cc own nL ret nm Rm Q pc) := by
  intro ls st E R I J a b h
  match st, h with
  | .int x :: st, h =>
    intro p l e s m args below meth c D cy adV ad0 ad E0 A H locs la C hA hH hS hF hl hL hT
    refine lv_istore_n C.1 C.2.1 hd hi hl hn rfl (fun la2 hl2 => ?_)
    rw [mvl_filter ad _ (fun i v => by simp [mv_cat])] at hl2
    exact hk _ _ _ _ _ _ _ _ h p l e s m args below meth c D cy adV ad0 ad E0 A H locs la2 C hA hH hS hF (lv_ins (v := .int x) hl2) (ok_st1 ok_i hL) (okt hT)
theorem s_ist  {i : Nat} {k : Pd} (hd : decode cc pc = .ok (.istore i, 2)) (hn : i < nL) (hk : Le k (G cc own nL ret nm Rm Q (pc + 2))) : Le (i_ist i k) (G cc own nL ret nm Rm Q pc) := by
  intro ls st E R I J a b h
  match st, h with
  | .int x :: st, h =>
    intro p l e s m args below meth c D cy adV ad0 ad E0 A H locs la C hA hH hS hF hl hL hT
    refine lv_istore C.1 C.2.1 hd  hl hn rfl (fun la2 hl2 => ?_)
    rw [mvl_filter ad _ (fun i v => by simp [mv_cat])] at hl2
    exact hk _ _ _ _ _ _ _ _ h p l e s m args below meth c D cy adV ad0 ad E0 A H locs la2 C hA hH hS hF (lv_ins (v := .int x) hl2) (ok_st1 ok_i hL) (okt hT)
def i_lst (i : Nat) (k : Pd) : Pd := fun ls st E R I J a b => match st with
  | .long x :: st => k (st2 ls i (.long x)) st E R I J a b
  | _ => False
theorem s_lst_n {j : Fin 4} {i : Nat} {k : Pd} (hd : decode cc pc = .ok (.lstore_n j, 1)) (hi : (j : Nat) = i) (hn : i + 1 < nL) (hk : Le k (G cc own nL ret nm Rm Q (pc + 1))) : Le (i_lst i k) (G cc own nL ret nm Rm Q pc) := by
  intro ls st E R I J a b h
  match st, h with
  | .long x :: st, h =>
    intro p l e s m args below meth c D cy adV ad0 ad E0 A H locs la C hA hH hS hF hl hL hT
    refine lv_lstore_n C.1 C.2.1 hd hi hl hn rfl (fun la2 hl2 => ?_)
    rw [mvl_filter ad _ (fun i v => by simp [mv_cat])] at hl2
    exact hk _ _ _ _ _ _ _ _ h p l e s m args below meth c D cy adV ad0 ad E0 A H locs la2 C hA hH hS hF (lv_ins (v := .long x) hl2) (ok_st2 ok_l hL) (okt hT)
theorem s_lst  {i : Nat} {k : Pd} (hd : decode cc pc = .ok (.lstore i, 2)) (hn : i + 1 < nL) (hk : Le k (G cc own nL ret nm Rm Q (pc + 2))) : Le (i_lst i k) (G cc own nL ret nm Rm Q pc) := by
  intro ls st E R I J a b h
  match st, h with
  | .long x :: st, h =>
    intro p l e s m args below meth c D cy adV ad0 ad E0 A H locs la C hA hH hS hF hl hL hT
    refine lv_lstore C.1 C.2.1 hd  hl hn rfl (fun la2 hl2 => ?_)
    rw [mvl_filter ad _ (fun i v => by simp [mv_cat])] at hl2
    exact hk _ _ _ _ _ _ _ _ h p l e s m args below meth c D cy adV ad0 ad E0 A H locs la2 C hA hH hS hF (lv_ins (v := .long x) hl2) (ok_st2 ok_l hL) (okt hT)
def i_ast (i : Nat) (k : Pd) : Pd := fun ls st E R I J a b => match st with
  | .ref x :: st => k (st1 ls i (.ref x)) st E R I J a b
  | .null :: st => k (st1 ls i .null) st E R I J a b
  | _ => False
theorem s_ast_n {j : Fin 4} {i : Nat} {k : Pd} (hd : decode cc pc = .ok (.astore_n j, 1)) (hi : (j : Nat) = i) (hn : i < nL) (hk : Le k (G cc own nL ret nm Rm Q (pc + 1))) : Le (i_ast i k) (G cc own nL ret nm Rm Q pc) := by
  intro ls st E R I J a b h
  match st, h with
  | .ref x :: st, h =>
    intro p l e s m args below meth c D cy adV ad0 ad E0 A H locs la C hA hH hS hF hl hL hT
    refine lv_astore_n C.1 C.2.1 hd hi hl hn rfl (fun la2 hl2 => ?_)
    rw [mvl_filter ad _ (fun i v => by simp [mv_cat])] at hl2
    exact hk _ _ _ _ _ _ _ _ h p l e s m args below meth c D cy adV ad0 ad E0 A H locs la2 C hA hH hS hF (lv_ins (v := .ref x) hl2) (ok_st1 (okh hT) hL) (okt hT)
  | .null :: st, h =>
    intro p l e s m args below meth c D cy adV ad0 ad E0 A H locs la C hA hH hS hF hl hL hT
    refine lv_astore_nN C.1 C.2.1 hd hi hl hn rfl (fun la2 hl2 => ?_)
    rw [mvl_filter ad _ (fun i v => by simp [mv_cat])] at hl2
    exact hk _ _ _ _ _ _ _ _ h p l e s m args below meth c D cy adV ad0 ad E0 A H locs la2 C hA hH hS hF (lv_ins (v := .null) hl2) (ok_st1 ok_n hL) (okt hT)
theorem s_ast  {i : Nat} {k : Pd} (hd : decode cc pc = .ok (.astore i, 2)) (hn : i < nL) (hk : Le k (G cc own nL ret nm Rm Q (pc + 2))) : Le (i_ast i k) (G cc own nL ret nm Rm Q pc) := by
  intro ls st E R I J a b h
  match st, h with
  | .ref x :: st, h =>
    intro p l e s m args below meth c D cy adV ad0 ad E0 A H locs la C hA hH hS hF hl hL hT
    refine lv_astore C.1 C.2.1 hd  hl hn rfl (fun la2 hl2 => ?_)
    rw [mvl_filter ad _ (fun i v => by simp [mv_cat])] at hl2
    exact hk _ _ _ _ _ _ _ _ h p l e s m args below meth c D cy adV ad0 ad E0 A H locs la2 C hA hH hS hF (lv_ins (v := .ref x) hl2) (ok_st1 (okh hT) hL) (okt hT)
  | .null :: st, h =>
    intro p l e s m args below meth c D cy adV ad0 ad E0 A H locs la C hA hH hS hF hl hL hT
    refine lv_astoreN C.1 C.2.1 hd  hl hn rfl (fun la2 hl2 => ?_)
    rw [mvl_filter ad _ (fun i v => by simp [mv_cat])] at hl2
    exact hk _ _ _ _ _ _ _ _ h p l e s m args below meth c D cy adV ad0 ad E0 A H locs la2 C hA hH hS hF (lv_ins (v := .null) hl2) (ok_st1 ok_n hL) (okt hT)
def i_inc (i : Nat) (n : Int32) (k : Pd) : Pd := fun ls st E R I J a b => match lk ls i with
  | some (.int x) => k (st1 ls i (.int (x + n))) st E R I J a b
  | _ => False
theorem s_inc {i : Nat} {z : Int} {n : Int32} {k : Pd} (hd : decode cc pc = .ok (.iinc i z, 3)) (hz : Int32.ofInt z = n) (hn : i < nL) (hk : Le k (G cc own nL ret nm Rm Q (pc + 3))) : Le (i_inc i n k) (G cc own nL ret nm Rm Q pc) := by
  intro ls st E R I J a b h
  unfold i_inc at h
  split at h
  next x hx =>
    intro p l e s m args below meth c D cy adV ad0 ad E0 A H locs la C hA hH hS hF hl hL hT
    obtain ⟨q, hq⟩ := List.getElem?_of_mem (List.mem_map.mpr ⟨(i, .int x), lk_mem hx, rfl⟩ : (i, Value.int x) ∈ mvl ad ls)
    refine lv_iinc (v := x + n) C.1 C.2.1 hd hl (k := q) (x := x) hq (by rw [hz]) hn rfl (fun la2 hl2 => ?_)
    rw [mvl_filter ad _ (fun i v => by simp [mv_cat])] at hl2
    exact hk _ _ _ _ _ _ _ _ h p l e s m args below meth c D cy adV ad0 ad E0 A H locs la2 C hA hH hS hF (lv_ins (v := .int (x + n)) hl2) (ok_st1 ok_i hL) hT
  next => exact h.elim
def i_dup (k : Pd) : Pd := fun ls st E R I J a b => match st with
  | v :: st => v.category = 1 ∧ k ls (v :: v :: st) E R I J a b
  | _ => False
theorem s_dup {k : Pd} (hd : decode cc pc = .ok (.dup, 1)) (hk : Le k (G cc own nL ret nm Rm Q (pc + 1))) : Le (i_dup k) (G cc own nL ret nm Rm Q pc) := by
  intro ls st E R I J a b h
  match st, h with
  | v :: st, h =>
    intro p l e s m args below meth c D cy adV ad0 ad E0 A H locs la C hA hH hS hF hl hL hT
    exact lv_dup C.1 C.2.1 hd (by rw [mv_cat]; exact h.1) (hk _ _ _ _ _ _ _ _ h.2 p l e s m args below meth c D cy adV ad0 ad E0 A H locs la C hA hH hS hF hl hL (okc (okh hT) hT))
def i_dup2 (k : Pd) : Pd := fun ls st E R I J a b => match st with
  | v :: u :: st => v.category = 1 ∧ u.category = 1 ∧ k ls (v :: u :: v :: u :: st) E R I J a b
  | _ => False
theorem s_dup2 {k : Pd} (hd : decode cc pc = .ok (.dup2, 1)) (hk : Le k (G cc own nL ret nm Rm Q (pc + 1))) : Le (i_dup2 k) (G cc own nL ret nm Rm Q pc) := by
  intro ls st E R I J a b h
  match st, h with
  | v :: u :: st, h =>
    intro p l e s m args below meth c D cy adV ad0 ad E0 A H locs la C hA hH hS hF hl hL hT
    exact lv_dup2_11 C.1 C.2.1 hd (by rw [mv_cat]; exact h.1) (by rw [mv_cat]; exact h.2.1) (hk _ _ _ _ _ _ _ _ h.2.2 p l e s m args below meth c D cy adV ad0 ad E0 A H locs la C hA hH hS hF hl hL (okc (okh hT) (okc (okh (okt hT)) hT)))
def i_if_eq (kt kf : Pd) : Pd := fun ls st E R I J a b => match st with
  | .int x :: st => if x = 0 then kt ls st E R I J a b else kf ls st E R I J a b
  | _ => False
theorem s_if_eq {kt kf : Pd} {off : Int} {tgt : Nat} (hd : decode cc pc = .ok (.ifCond .eq off, 3)) (ht : (pc : Int) + off = (tgt : Int)) (hkt : Le kt (G cc own nL ret nm Rm Q tgt)) (hkf : Le kf (G cc own nL ret nm Rm Q (pc + 3))) : Le (i_if_eq kt kf) (G cc own nL ret nm Rm Q pc) := by
  intro ls st E R I J a b h
  match st, h with
  | .int x :: st, h =>
    intro p l e s m args below meth c D cy adV ad0 ad E0 A H locs la C hA hH hS hF hl hL hT
    unfold i_if_eq at h
    exact lv_if_eq C.1 C.2.1 hd ht (fun q => hkt _ _ _ _ _ _ _ _ (by simpa [q] using h) p l e s m args below meth c D cy adV ad0 ad E0 A H locs la C hA hH hS hF hl hL (okt hT)) (fun q => hkf _ _ _ _ _ _ _ _ (by simpa [q] using h) p l e s m args below meth c D cy adV ad0 ad E0 A H locs la C hA hH hS hF hl hL (okt hT))
def i_if_ne (kt kf : Pd) : Pd := fun ls st E R I J a b => match st with
  | .int x :: st => if x = 0 then kf ls st E R I J a b else kt ls st E R I J a b
  | _ => False
theorem s_if_ne {kt kf : Pd} {off : Int} {tgt : Nat} (hd : decode cc pc = .ok (.ifCond .ne off, 3)) (ht : (pc : Int) + off = (tgt : Int)) (hkt : Le kt (G cc own nL ret nm Rm Q tgt)) (hkf : Le kf (G cc own nL ret nm Rm Q (pc + 3))) : Le (i_if_ne kt kf) (G cc own nL ret nm Rm Q pc) := by
  intro ls st E R I J a b h
  match st, h with
  | .int x :: st, h =>
    intro p l e s m args below meth c D cy adV ad0 ad E0 A H locs la C hA hH hS hF hl hL hT
    unfold i_if_ne at h
    exact lv_if_ne C.1 C.2.1 hd ht (fun q => hkt _ _ _ _ _ _ _ _ (by simpa [q] using h) p l e s m args below meth c D cy adV ad0 ad E0 A H locs la C hA hH hS hF hl hL (okt hT)) (fun q => hkf _ _ _ _ _ _ _ _ (by simpa [q] using h) p l e s m args below meth c D cy adV ad0 ad E0 A H locs la C hA hH hS hF hl hL (okt hT))
def i_if_lt (kt kf : Pd) : Pd := fun ls st E R I J a b => match st with
  | .int x :: st => if x < 0 then kt ls st E R I J a b else kf ls st E R I J a b
  | _ => False
theorem s_if_lt {kt kf : Pd} {off : Int} {tgt : Nat} (hd : decode cc pc = .ok (.ifCond .lt off, 3)) (ht : (pc : Int) + off = (tgt : Int)) (hkt : Le kt (G cc own nL ret nm Rm Q tgt)) (hkf : Le kf (G cc own nL ret nm Rm Q (pc + 3))) : Le (i_if_lt kt kf) (G cc own nL ret nm Rm Q pc) := by
  intro ls st E R I J a b h
  match st, h with
  | .int x :: st, h =>
    intro p l e s m args below meth c D cy adV ad0 ad E0 A H locs la C hA hH hS hF hl hL hT
    unfold i_if_lt at h
    exact lv_if_lt C.1 C.2.1 hd ht (fun q => hkt _ _ _ _ _ _ _ _ (by simpa [q] using h) p l e s m args below meth c D cy adV ad0 ad E0 A H locs la C hA hH hS hF hl hL (okt hT)) (fun q => hkf _ _ _ _ _ _ _ _ (by simpa [q] using h) p l e s m args below meth c D cy adV ad0 ad E0 A H locs la C hA hH hS hF hl hL (okt hT))
def i_if_ge (kt kf : Pd) : Pd := fun ls st E R I J a b => match st with
  | .int x :: st => if 0 ≤ x then kt ls st E R I J a b else kf ls st E R I J a b
  | _ => False
theorem s_if_ge {kt kf : Pd} {off : Int} {tgt : Nat} (hd : decode cc pc = .ok (.ifCond .ge off, 3)) (ht : (pc : Int) + off = (tgt : Int)) (hkt : Le kt (G cc own nL ret nm Rm Q tgt)) (hkf : Le kf (G cc own nL ret nm Rm Q (pc + 3))) : Le (i_if_ge kt kf) (G cc own nL ret nm Rm Q pc) := by
  intro ls st E R I J a b h
  match st, h with
  | .int x :: st, h =>
    intro p l e s m args below meth c D cy adV ad0 ad E0 A H locs la C hA hH hS hF hl hL hT
    unfold i_if_ge at h
    exact lv_if_ge C.1 C.2.1 hd ht (fun q => hkt _ _ _ _ _ _ _ _ (by simpa [q] using h) p l e s m args below meth c D cy adV ad0 ad E0 A H locs la C hA hH hS hF hl hL (okt hT)) (fun q => hkf _ _ _ _ _ _ _ _ (by simpa [q] using h) p l e s m args below meth c D cy adV ad0 ad E0 A H locs la C hA hH hS hF hl hL (okt hT))
def i_if_gt (kt kf : Pd) : Pd := fun ls st E R I J a b => match st with
  | .int x :: st => if 0 < x then kt ls st E R I J a b else kf ls st E R I J a b
  | _ => False
theorem s_if_gt {kt kf : Pd} {off : Int} {tgt : Nat} (hd : decode cc pc = .ok (.ifCond .gt off, 3)) (ht : (pc : Int) + off = (tgt : Int)) (hkt : Le kt (G cc own nL ret nm Rm Q tgt)) (hkf : Le kf (G cc own nL ret nm Rm Q (pc + 3))) : Le (i_if_gt kt kf) (G cc own nL ret nm Rm Q pc) := by
  intro ls st E R I J a b h
  match st, h with
  | .int x :: st, h =>
    intro p l e s m args below meth c D cy adV ad0 ad E0 A H locs la C hA hH hS hF hl hL hT
    unfold i_if_gt at h
    exact lv_if_gt C.1 C.2.1 hd ht (fun q => hkt _ _ _ _ _ _ _ _ (by simpa [q] using h) p l e s m args below meth c D cy adV ad0 ad E0 A H locs la C hA hH hS hF hl hL (okt hT)) (fun q => hkf _ _ _ _ _ _ _ _ (by simpa [q] using h) p l e s m args below meth c D cy adV ad0 ad E0 A H locs la C hA hH hS hF hl hL (okt hT))
def i_if_le (kt kf : Pd) : Pd := fun ls st E R I J a b => match st with
  | .int x :: st => if x ≤ 0 then kt ls st E R I J a b else kf ls st E R I J a b
  | _ => False
theorem s_if_le {kt kf : Pd} {off : Int} {tgt : Nat} (hd : decode cc pc = .ok (.ifCond .le off, 3)) (ht : (pc : Int) + off = (tgt : Int)) (hkt : Le kt (G cc own nL ret nm Rm Q tgt)) (hkf : Le kf (G cc own nL ret nm Rm Q (pc + 3))) : Le (i_if_le kt kf) (G cc own nL ret nm Rm Q pc) := by
  intro ls st E R I J a b h
  match st, h with
  | .int x :: st, h =>
    intro p l e s m args below meth c D cy adV ad0 ad E0 A H locs la C hA hH hS hF hl hL hT
    unfold i_if_le at h
    exact lv_if_le C.1 C.2.1 hd ht (fun q => hkt _ _ _ _ _ _ _ _ (by simpa [q] using h) p l e s m args below meth c D cy adV ad0 ad E0 A H locs la C hA hH hS hF hl hL (okt hT)) (fun q => hkf _ _ _ _ _ _ _ _ (by simpa [q] using h) p l e s m args below meth c D cy adV ad0 ad E0 A H locs la C hA hH hS hF hl hL (okt hT))
def i_ic_eq (kt kf : Pd) : Pd := fun ls st E R I J a b => match st with
  | .int y :: .int x :: st => if x = y then kt ls st E R I J a b else kf ls st E R I J a b
  | _ => False
theorem s_ic_eq {kt kf : Pd} {off : Int} {tgt : Nat} (hd : decode cc pc = .ok (.if_icmp .eq off, 3)) (ht : (pc : Int) + off = (tgt : Int)) (hkt : Le kt (G cc own nL ret nm Rm Q tgt)) (hkf : Le kf (G cc own nL ret nm Rm Q (pc + 3))) : Le (i_ic_eq kt kf) (G cc own nL ret nm Rm Q pc) := by
  intro ls st E R I J a b h
  match st, h with
  | .int y :: .int x :: st, h =>
    intro p l e s m args below meth c D cy adV ad0 ad E0 A H locs la C hA hH hS hF hl hL hT
    unfold i_ic_eq at h
    exact lv_icmp_eq C.1 C.2.1 hd ht (fun q => hkt _ _ _ _ _ _ _ _ (by simpa [q] using h) p l e s m args below meth c D cy adV ad0 ad E0 A H locs la C hA hH hS hF hl hL (okt (okt hT))) (fun q => hkf _ _ _ _ _ _ _ _ (by simpa [q] using h) p l e s m args below meth c D cy adV ad0 ad E0 A H locs la C hA hH hS hF hl hL (okt (okt hT)))
def i_ic_ne (kt kf : Pd) : Pd := fun ls st E R I J a b => match st with
  | .int y :: .int x :: st => if x = y then kf ls st E R I J a b else kt ls st E R I J a b
  | _ => False
theorem s_ic_ne {kt kf : Pd} {off : Int} {tgt : Nat} (hd : decode cc pc = .ok (.if_icmp .ne off, 3)) (ht : (pc : Int) + off = (tgt : Int)) (hkt : Le kt (G cc own nL ret nm Rm Q tgt)) (hkf : Le kf (G cc own nL ret nm Rm Q (pc + 3))) : Le (i_ic_ne kt kf) (G cc own nL ret nm Rm Q pc) := by
  intro ls st E R I J a b h
  match st, h with
  | .int y :: .int x :: st, h =>
    intro p l e s m args below meth c D cy adV ad0 ad E0 A H locs la C hA hH hS hF hl hL hT
    unfold i_ic_ne at h
    exact lv_icmp_ne C.1 C.2.1 hd ht (fun q => hkt _ _ _ _ _ _ _ _ (by simpa [q] using h) p l e s m args below meth c D cy adV ad0 ad E0 A H locs la C hA hH hS hF hl hL (okt (okt hT))) (fun q => hkf _ _ _ _ _ _ _ _ (by simpa [q] using h) p l e s m args below meth c D cy adV ad0 ad E0 A H locs la C hA hH hS hF hl hL (okt (okt hT)))
def i_ic_lt (kt kf : Pd) : Pd := fun ls st E R I J a b => match st with
  | .int y :: .int x :: st => if x < y then kt ls st E R I J a b else kf ls st E R I J a b
  | _ => False
theorem s_ic_lt {kt kf : Pd} {off : Int} {tgt : Nat} (hd : decode cc pc = .ok (.if_icmp .lt off, 3)) (ht : (pc : Int) + off = (tgt : Int)) (hkt : Le kt (G cc own nL ret nm Rm Q tgt)) (hkf : Le kf (G cc own nL ret nm Rm Q (pc + 3))) : Le (i_ic_lt kt kf) (G cc own nL ret nm Rm Q pc) := by
  intro ls st E R I J a b h
  match st, h with
  | .int y :: .int x :: st, h =>
    intro p l e s m args below meth c D cy adV ad0 ad E0 A H locs la C hA hH hS hF hl hL hT
    unfold i_ic_lt at h
    exact lv_icmp_lt C.1 C.2.1 hd ht (fun q => hkt _ _ _ _ _ _ _ _ (by simpa [q] using h) p l e s m args below meth c D cy adV ad0 ad E0 A H locs la C hA hH hS hF hl hL (okt (okt hT))) (fun q => hkf _ _ _ _ _ _ _ _ (by simpa [q] using h) p l e s m args below meth c D cy adV ad0 ad E0 A H locs la C hA hH hS hF hl hL (okt (okt hT)))
def i_ic_ge (kt kf : Pd) : Pd := fun ls st E R I J a b => match st with
  | .int y :: .int x :: st => if y ≤ x then kt ls st E R I J a b else kf ls st E R I J a b
  | _ => False
theorem s_ic_ge {kt kf : Pd} {off : Int} {tgt : Nat} (hd : decode cc pc = .ok (.if_icmp .ge off, 3)) (ht : (pc : Int) + off = (tgt : Int)) (hkt : Le kt (G cc own nL ret nm Rm Q tgt)) (hkf : Le kf (G cc own nL ret nm Rm Q (pc + 3))) : Le (i_ic_ge kt kf) (G cc own nL ret nm Rm Q pc) := by
  intro ls st E R I J a b h
  match st, h with
  | .int y :: .int x :: st, h =>
    intro p l e s m args below meth c D cy adV ad0 ad E0 A H locs la C hA hH hS hF hl hL hT
    unfold i_ic_ge at h
    exact lv_icmp_ge C.1 C.2.1 hd ht (fun q => hkt _ _ _ _ _ _ _ _ (by simpa [q] using h) p l e s m args below meth c D cy adV ad0 ad E0 A H locs la C hA hH hS hF hl hL (okt (okt hT))) (fun q => hkf _ _ _ _ _ _ _ _ (by simpa [q] using h) p l e s m args below meth c D cy adV ad0 ad E0 A H locs la C hA hH hS hF hl hL (okt (okt hT)))
def i_ic_gt (kt kf : Pd) : Pd := fun ls st E R I J a b => match st with
  | .int y :: .int x :: st => if y < x then kt ls st E R I J a b else kf ls st E R I J a b
  | _ => False
theorem s_ic_gt {kt kf : Pd} {off : Int} {tgt : Nat} (hd : decode cc pc = .ok (.if_icmp .gt off, 3)) (ht : (pc : Int) + off = (tgt : Int)) (hkt : Le kt (G cc own nL ret nm Rm Q tgt)) (hkf : Le kf (G cc own nL ret nm Rm Q (pc + 3))) : Le (i_ic_gt kt kf) (G cc own nL ret nm Rm Q pc) := by
  intro ls st E R I J a b h
  match st, h with
  | .int y :: .int x :: st, h =>
    intro p l e s m args below meth c D cy adV ad0 ad E0 A H locs la C hA hH hS hF hl hL hT
    unfold i_ic_gt at h
    exact lv_icmp_gt C.1 C.2.1 hd ht (fun q => hkt _ _ _ _ _ _ _ _ (by simpa [q] using h) p l e s m args below meth c D cy adV ad0 ad E0 A H locs la C hA hH hS hF hl hL (okt (okt hT))) (fun q => hkf _ _ _ _ _ _ _ _ (by simpa [q] using h) p l e s m args below meth c D cy adV ad0 ad E0 A H locs la C hA hH hS hF hl hL (okt (okt hT)))
def i_ic_le (kt kf : Pd) : Pd := fun ls st E R I J a b => match st with
  | .int y :: .int x :: st => if x ≤ y then kt ls st E R I J a b else kf ls st E R I J a b
  | _ => False
theorem s_ic_le {kt kf : Pd} {off : Int} {tgt : Nat} (hd : decode cc pc = .ok (.if_icmp .le off, 3)) (ht : (pc : Int) + off = (tgt : Int)) (hkt : Le kt (G cc own nL ret nm Rm Q tgt)) (hkf : Le kf (G cc own nL ret nm Rm Q (pc + 3))) : Le (i_ic_le kt kf) (G cc own nL ret nm Rm Q pc) := by
  intro ls st E R I J a b h
  match st, h with
  | .int y :: .int x :: st, h =>
    intro p l e s m args below meth c D cy adV ad0 ad E0 A H locs la C hA hH hS hF hl hL hT
    unfold i_ic_le at h
    exact lv_icmp_le C.1 C.2.1 hd ht (fun q => hkt _ _ _ _ _ _ _ _ (by simpa [q] using h) p l e s m args below meth c D cy adV ad0 ad E0 A H locs la C hA hH hS hF hl hL (okt (okt hT))) (fun q => hkf _ _ _ _ _ _ _ _ (by simpa [q] using h) p l e s m args below meth c D cy adV ad0 ad E0 A H locs la C hA hH hS hF hl hL (okt (okt hT)))
theorem s_goto {k : Pd} {off : Int} {tgt : Nat} (hd : decode cc pc = .ok (.goto off, 3)) (ht : (pc : Int) + off = (tgt : Int)) (hk : Le k (G cc own nL ret nm Rm Q tgt)) : Le k (G cc own nL ret nm Rm Q pc) := by
  intro ls st E R I J a b h
  intro p l e s m args below meth c D cy adV ad0 ad E0 A H locs la C hA hH hS hF hl hL hT
  exact lv_goto C.1 C.2.1 hd ht (hk _ _ _ _ _ _ _ _ h p l e s m args below meth c D cy adV ad0 ad E0 A H locs la C hA hH hS hF hl hL hT)
def i_ifnull (kt kf : Pd) : Pd := fun ls st E R I J a b => match st with
  | .null :: st => kt ls st E R I J a b
  | .ref _ :: st => kf ls st E R I J a b
  | _ => False
def i_ifnonnull (kt kf : Pd) : Pd := fun ls st E R I J a b => match st with
  | .null :: st => kf ls st E R I J a b
  | .ref _ :: st => kt ls st E R I J a b
  | _ => False
theorem s_ifnull {kt kf : Pd} {off : Int} {tgt : Nat} (hd : decode cc pc = .ok (.ifnull off, 3)) (ht : (pc : Int) + off = (tgt : Int)) (hkt : Le kt (G cc own nL ret nm Rm Q tgt)) (hkf : Le kf (G cc own nL ret nm Rm Q (pc + 3))) : Le (i_ifnull kt kf) (G cc own nL ret nm Rm Q pc) := by
  intro ls st E R I J a b h
  match st, h with
  | .null :: st, h =>
    intro p l e s m args below meth c D cy adV ad0 ad E0 A H locs la C hA hH hS hF hl hL hT
    exact lv_ifnullN C.1 C.2.1 hd ht (hkt _ _ _ _ _ _ _ _ h p l e s m args below meth c D cy adV ad0 ad E0 A H locs la C hA hH hS hF hl hL (okt hT))
  | .ref x :: st, h =>
    intro p l e s m args below meth c D cy adV ad0 ad E0 A H locs la C hA hH hS hF hl hL hT
    exact lv_ifnull C.1 C.2.1 hd (hkf _ _ _ _ _ _ _ _ h p l e s m args below meth c D cy adV ad0 ad E0 A H locs la C hA hH hS hF hl hL (okt hT))
theorem s_ifnonnull {kt kf : Pd} {off : Int} {tgt : Nat} (hd : decode cc pc = .ok (.ifnonnull off, 3)) (ht : (pc : Int) + off = (tgt : Int)) (hkt : Le kt (G cc own nL ret nm Rm Q tgt)) (hkf : Le kf (G cc own nL ret nm Rm Q (pc + 3))) : Le (i_ifnonnull kt kf) (G cc own nL ret nm Rm Q pc) := by
  intro ls st E R I J a b h
  match st, h with
  | .null :: st, h =>
    intro p l e s m args below meth c D cy adV ad0 ad E0 A H locs la C hA hH hS hF hl hL hT
    exact lv_ifnonnullN C.1 C.2.1 hd (hkf _ _ _ _ _ _ _ _ h p l e s m args below meth c D cy adV ad0 ad E0 A H locs la C hA hH hS hF hl hL (okt hT))
  | .ref x :: st, h =>
    intro p l e s m args below meth c D cy adV ad0 ad E0 A H locs la C hA hH hS hF hl hL hT
    exact lv_ifnonnull C.1 C.2.1 hd ht (hkt _ _ _ _ _ _ _ _ h p l e s m args below meth c D cy adV ad0 ad E0 A H locs la C hA hH hS hF hl hL (okt hT))
def swp (x : Int32) : List (Int32 × Pd) → Pd → Pd
  | [], kd => kd
  | (v, k) :: t, kd => if x = v then k else swp x t kd
def i_sw (cs : List (Int32 × Pd)) (kd : Pd) : Pd := fun ls st E R I J a b => match st with
  | .int x :: st => swp x cs kd ls st E R I J a b
  | _ => False
/-- the machine goes at pc with x on the stack to tgt -/
def Sw (cc : ByteArray) (pc : Nat) (x : Int32) (tgt : Nat) : Prop := ∀ (p : Program) (l : Launch) (e : Env) (R : Room) (s : State) (m : MethodId) (args : Array Value) (below : List Frame) (meth : Method) (c : Code) (H : Heap) (locs : List Loc) (cells slots : Nat) (Q : State → Prop) (ls : Array Slot) (rest : List Value), p.tables.exec = Jvm.exec → c.code = cc →
  W p l e R s m args below meth c H locs cells slots Q (F0 m tgt ls rest) → W p l e R s m args below meth c H locs cells slots Q (F0 m pc ls (.int x :: rest))
theorem s_sw {cs : List (Int32 × Pd)} {kd : Pd} (hh : ∀ x : Int32, ∃ tgt, Sw cc pc x tgt ∧ Le (swp x cs kd) (G cc own nL ret nm Rm Q tgt)) : Le (i_sw cs kd) (G cc own nL ret nm Rm Q pc) := by
  intro ls st E R I J a b h
  match st, h with
  | .int x :: st, h =>
    intro p l e s m args below meth c D cy adV ad0 ad E0 A H locs la C hA hH hS hF hl hL hT
    obtain ⟨tgt, h1, h2⟩ := hh x
    exact h1 p l e Rm s m args below meth c H locs a b _ la _ C.1 C.2.1 (h2 _ _ _ _ _ _ _ _ h p l e s m args below meth c D cy adV ad0 ad E0 A H locs la C hA hH hS hF hl hL (okt hT))
theorem sw_lk {dflt : Int} {ps : Array (Int × Int)} {len : Nat} {x : Int32} {off : Int} {tgt : Nat} (hd : decode cc pc = .ok (.lookupswitch dflt ps, len)) (hp : (ps.toList.zip (ps.toList.drop 1)).all (fun (a, next) => a.1 < next.1) = true) (ho : Op.lookupswitch.offset ps.toList dflt x.toInt = off) (ht : (pc : Int) + off = (tgt : Int)) : Sw cc pc x tgt :=
  fun _ _ _ _ _ _ _ _ _ _ _ _ _ _ _ _ _ h1 h2 h3 => lv_lookup h1 h2 hd hp ho ht h3
theorem sw_out {dflt lo hi : Int} {offs : Array Int} {len : Nat} {x : Int32} {tgt : Nat} (hd : decode cc pc = .ok (.tableswitch dflt lo hi offs, len)) (h : x.toInt < lo ∨ hi < x.toInt) (ht : (pc : Int) + dflt = (tgt : Int)) : Sw cc pc x tgt :=
  fun _ _ _ _ _ _ _ _ _ _ _ _ _ _ _ _ _ h1 h2 h3 => lv_tableOut h1 h2 hd h ht h3
theorem sw_in {dflt lo hi : Int} {offs : Array Int} {len : Nat} {x : Int32} {off : Int} {tgt : Nat} (hd : decode cc pc = .ok (.tableswitch dflt lo hi offs, len)) (h1 : ¬ x.toInt < lo) (h2 : ¬ hi < x.toInt) (ho : offs[(x.toInt - lo).toNat]? = some off) (ht : (pc : Int) + off = (tgt : Int)) : Sw cc pc x tgt :=
  fun _ _ _ _ _ _ _ _ _ _ _ _ _ _ _ _ _ g1 g2 g3 => lv_tableIn g1 g2 hd h1 h2 ho ht g3
end Rows

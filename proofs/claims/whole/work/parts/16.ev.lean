/-! applied equations of the combinators -/
section EV
variable {k kt kf kk : Pd} {K : Ps} {ls : List (Nat × Value)} {st : List Value} {E : Nat → Prop} {R : Nat → Nat → Value} {I : Nat → Nat → Int32} {J : Nat → Nat → Int64} {a b : Nat}
theorem ev_iadd {x y : Int32} : i_iadd k ls (.int y :: .int x :: st) E R I J a b = (k ls (.int (x + y) :: st) E R I J a b) := rfl
theorem ev_isub {x y : Int32} : i_isub k ls (.int y :: .int x :: st) E R I J a b = (k ls (.int (x - y) :: st) E R I J a b) := rfl
theorem ev_imul {x y : Int32} : i_imul k ls (.int y :: .int x :: st) E R I J a b = (k ls (.int (x * y) :: st) E R I J a b) := rfl
theorem ev_iand {x y : Int32} : i_iand k ls (.int y :: .int x :: st) E R I J a b = (k ls (.int (x &&& y) :: st) E R I J a b) := rfl
theorem ev_ishr {x y : Int32} : i_ishr k ls (.int y :: .int x :: st) E R I J a b = (k ls (.int (x >>> (y &&& 31)) :: st) E R I J a b) := rfl
theorem ev_iushr {x y : Int32} : i_iushr k ls (.int y :: .int x :: st) E R I J a b = (k ls (.int ((x.toUInt32 >>> (y.toUInt32 &&& Int32.toUInt32 31)).toInt32) :: st) E R I J a b) := rfl
theorem ev_idiv {x y : Int32} : i_idiv k ls (.int y :: .int x :: st) E R I J a b = ((¬ y = 0) ∧ k ls (.int (x / y) :: st) E R I J a b) := rfl
theorem ev_irem {x y : Int32} : i_irem k ls (.int y :: .int x :: st) E R I J a b = ((¬ y = 0) ∧ k ls (.int (x - x / y * y) :: st) E R I J a b) := rfl
theorem ev_ladd {x y : Int64} : i_ladd k ls (.long y :: .long x :: st) E R I J a b = (k ls (.long (x + y) :: st) E R I J a b) := rfl
theorem ev_lsub {x y : Int64} : i_lsub k ls (.long y :: .long x :: st) E R I J a b = (k ls (.long (x - y) :: st) E R I J a b) := rfl
theorem ev_lmul {x y : Int64} : i_lmul k ls (.long y :: .long x :: st) E R I J a b = (k ls (.long (x * y) :: st) E R I J a b) := rfl
theorem ev_ldiv {x y : Int64} : i_ldiv k ls (.long y :: .long x :: st) E R I J a b = ((¬ y = 0) ∧ k ls (.long (x / y) :: st) E R I J a b) := rfl
theorem ev_lrem {x y : Int64} : i_lrem k ls (.long y :: .long x :: st) E R I J a b = ((¬ y = 0) ∧ k ls (.long (x - x / y * y) :: st) E R I J a b) := rfl
theorem ev_lcmp {x y : Int64} : i_lcmp k ls (.long y :: .long x :: st) E R I J a b = (k ls (.int (lg_cmp x y) :: st) E R I J a b) := rfl
theorem ev_ineg {x : Int32} : i_ineg k ls (.int x :: st) E R I J a b = (k ls (.int (-x) :: st) E R I J a b) := rfl
theorem ev_i2l {x : Int32} : i_i2l k ls (.int x :: st) E R I J a b = (k ls (.long x.toInt64 :: st) E R I J a b) := rfl
theorem ev_i2b {x : Int32} : i_i2b k ls (.int x :: st) E R I J a b = (k ls (.int x.toInt8.toInt32 :: st) E R I J a b) := rfl
theorem ev_i2c {x : Int32} : i_i2c k ls (.int x :: st) E R I J a b = (k ls (.int (x.toUInt32 % 65536).toInt32 :: st) E R I J a b) := rfl
theorem ev_l2i {x : Int64} : i_l2i k ls (.long x :: st) E R I J a b = (k ls (.int x.toInt32 :: st) E R I J a b) := rfl
theorem ev_pop {x : Int32} : i_pop k ls (.int x :: st) E R I J a b = (k ls st E R I J a b) := rfl
theorem ev_ci {v : Int32} : i_ci v k ls st E R I J a b = (k ls (.int v :: st) E R I J a b) := rfl
theorem ev_cl {v : Int64} : i_cl v k ls st E R I J a b = (k ls (.long v :: st) E R I J a b) := rfl
theorem ev_null  : i_null k ls st E R I J a b = (k ls (.null :: st) E R I J a b) := rfl
theorem ev_cs {i : Nat} : i_cs i k ls st E R I J a b = (k ls (.ref (rc 62 i) :: st) E R I J a b) := rfl
theorem ev_gcs  : i_gcs k ls st E R I J a b = (k ls (.int 1 :: st) E R I J a b) := rfl
theorem ev_fmt  : i_fmt k ls st E R I J a b = (k ls (.null :: st) E R I J a b ∧ k ls (.ref (rc 60 0) :: st) E R I J a b) := rfl
def f_ild (o : Option Value) (k : Pd) : Pd := fun ls st E R I J a b => match o with
  | some (.int x) => k ls (.int x :: st) E R I J a b
  | _ => False
theorem ev_ild {i : Nat} : i_ild i k ls st E R I J a b = (f_ild (lk ls i) k ls st E R I J a b) := rfl
theorem ev_ild_int {x : Int32} : f_ild (some (.int x)) k ls st E R I J a b = (k ls (.int x :: st) E R I J a b) := rfl
def f_lld (o : Option Value) (k : Pd) : Pd := fun ls st E R I J a b => match o with
  | some (.long x) => k ls (.long x :: st) E R I J a b
  | _ => False
theorem ev_lld {i : Nat} : i_lld i k ls st E R I J a b = (f_lld (lk ls i) k ls st E R I J a b) := rfl
theorem ev_lld_long {x : Int64} : f_lld (some (.long x)) k ls st E R I J a b = (k ls (.long x :: st) E R I J a b) := rfl
def f_ald (o : Option Value) (k : Pd) : Pd := fun ls st E R I J a b => match o with
  | some (.ref x) => k ls (.ref x :: st) E R I J a b
  | some (.null) => k ls (.null :: st) E R I J a b
  | _ => False
theorem ev_ald {i : Nat} : i_ald i k ls st E R I J a b = (f_ald (lk ls i) k ls st E R I J a b) := rfl
theorem ev_ald_ref {x : Nat} : f_ald (some (.ref x)) k ls st E R I J a b = (k ls (.ref x :: st) E R I J a b) := rfl
theorem ev_ald_null  : f_ald (some (.null)) k ls st E R I J a b = (k ls (.null :: st) E R I J a b) := rfl
def f_inc (o : Option Value) (i : Nat) (n : Int32) (k : Pd) : Pd := fun ls st E R I J a b => match o with
  | some (.int x) => k (st1 ls i (.int (x + n))) st E R I J a b
  | _ => False
theorem ev_inc {i : Nat} {n : Int32} : i_inc i n k ls st E R I J a b = (f_inc (lk ls i) i n k ls st E R I J a b) := rfl
theorem ev_inc_int {i : Nat} {x n : Int32} : f_inc (some (.int x)) i n k ls st E R I J a b = (k (st1 ls i (.int (x + n))) st E R I J a b) := rfl
theorem ev_ist {i : Nat} {x : Int32} : i_ist i k ls (.int x :: st) E R I J a b = (k (st1 ls i (.int x)) st E R I J a b) := rfl
theorem ev_lst {i : Nat} {x : Int64} : i_lst i k ls (.long x :: st) E R I J a b = (k (st2 ls i (.long x)) st E R I J a b) := rfl
theorem ev_ast {i x : Nat} : i_ast i k ls (.ref x :: st) E R I J a b = (k (st1 ls i (.ref x)) st E R I J a b) := rfl
theorem ev_ast_null {i : Nat} : i_ast i k ls (.null :: st) E R I J a b = (k (st1 ls i .null) st E R I J a b) := rfl
theorem ev_dup {v : Value} : i_dup k ls (v :: st) E R I J a b = (v.category = 1 ∧ k ls (v :: v :: st) E R I J a b) := rfl
theorem ev_dup2 {v u : Value} : i_dup2 k ls (v :: u :: st) E R I J a b = (v.category = 1 ∧ u.category = 1 ∧ k ls (v :: u :: v :: u :: st) E R I J a b) := rfl
theorem ev_if_eq {x : Int32} : i_if_eq kt kf ls (.int x :: st) E R I J a b = (if x = 0 then kt ls st E R I J a b else kf ls st E R I J a b) := rfl
theorem ev_if_ne {x : Int32} : i_if_ne kt kf ls (.int x :: st) E R I J a b = (if x = 0 then kf ls st E R I J a b else kt ls st E R I J a b) := rfl
theorem ev_if_lt {x : Int32} : i_if_lt kt kf ls (.int x :: st) E R I J a b = (if x < 0 then kt ls st E R I J a b else kf ls st E R I J a b) := rfl
theorem ev_if_ge {x : Int32} : i_if_ge kt kf ls (.int x :: st) E R I J a b = (if 0 ≤ x then kt ls st E R I J a b else kf ls st E R I J a b) := rfl
theorem ev_if_gt {x : Int32} : i_if_gt kt kf ls (.int x :: st) E R I J a b = (if 0 < x then kt ls st E R I J a b else kf ls st E R I J a b) := rfl
theorem ev_if_le {x : Int32} : i_if_le kt kf ls (.int x :: st) E R I J a b = (if x ≤ 0 then kt ls st E R I J a b else kf ls st E R I J a b) := rfl
theorem ev_ic_eq {x y : Int32} : i_ic_eq kt kf ls (.int y :: .int x :: st) E R I J a b = (if x = y then kt ls st E R I J a b else kf ls st E R I J a b) := rfl
theorem ev_ic_ne {x y : Int32} : i_ic_ne kt kf ls (.int y :: .int x :: st) E R I J a b = (if x = y then kf ls st E R I J a b else kt ls st E R I J a b) := rfl
theorem ev_ic_lt {x y : Int32} : i_ic_lt kt kf ls (.int y :: .int x :: st) E R I J a b = (if x < y then kt ls st E R I J a b else kf ls st E R I J a b) := rfl
theorem ev_ic_ge {x y : Int32} : i_ic_ge kt kf ls (.int y :: .int x :: st) E R I J a b = (if y ≤ x then kt ls st E R I J a b else kf ls st E R I J a b) := rfl
theorem ev_ic_gt {x y : Int32} : i_ic_gt kt kf ls (.int y :: .int x :: st) E R I J a b = (if y < x then kt ls st E R I J a b else kf ls st E R I J a b) := rfl
theorem ev_ic_le {x y : Int32} : i_ic_le kt kf ls (.int y :: .int x :: st) E R I J a b = (if x ≤ y then kt ls st E R I J a b else kf ls st E R I J a b) := rfl
theorem ev_ifnull_n  : i_ifnull kt kf ls (.null :: st) E R I J a b = (kt ls st E R I J a b) := rfl
theorem ev_ifnull_r {c : Nat} : i_ifnull kt kf ls (.ref c :: st) E R I J a b = (kf ls st E R I J a b) := rfl
theorem ev_ifnonnull_n  : i_ifnonnull kt kf ls (.null :: st) E R I J a b = (kf ls st E R I J a b) := rfl
theorem ev_ifnonnull_r {c : Nat} : i_ifnonnull kt kf ls (.ref c :: st) E R I J a b = (kt ls st E R I J a b) := rfl
theorem ev_sw {cs : List (Int32 × Pd)} {x : Int32} : i_sw cs k ls (.int x :: st) E R I J a b = (swp x cs k ls st E R I J a b) := rfl
theorem ev_geti {ci n c : Nat} : i_geti ci n k ls (.ref c :: st) E R I J a b = (kd c = ci ∧ k ls (.int (I c n) :: st) E R I J a b) := rfl
theorem ev_getr {ci n c : Nat} : i_getr ci n k ls (.ref c :: st) E R I J a b = (kd c = ci ∧ k ls (R c n :: st) E R I J a b) := rfl
theorem ev_puti {ci n c : Nat} {v : Int32} : i_puti ci n k ls (.int v :: .ref c :: st) E R I J a b = (kd c = ci ∧ k ls st E R (ui I c n v) J a b) := rfl
theorem ev_putz {ci n c : Nat} {v : Int32} : i_putz ci n k ls (.int v :: .ref c :: st) E R I J a b = (kd c = ci ∧ (v = 0 ∨ v = 1) ∧ k ls st E R (ui I c n v) J a b) := rfl
theorem ev_putr {ci n c : Nat} {v : Nat} : i_putr ci n k ls (.ref v :: .ref c :: st) E R I J a b = (kd c = ci ∧ k ls st E (ur R c n (.ref v)) I J a b) := rfl
theorem ev_iald {i : Int32} {c : Nat} : i_iald k ls (.int i :: .ref c :: st) E R I J a b = ((kd c = 14 ∨ kd c = 22) ∧ vp_in i (ln c) ∧ k ls (.int (I c i.toNatClampNeg) :: st) E R I J a b) := rfl
theorem ev_bald {i : Int32} {c : Nat} : i_bald k ls (.int i :: .ref c :: st) E R I J a b = (kd c = 13 ∧ vp_in i (ln c) ∧ k ls (.int (I c i.toNatClampNeg) :: st) E R I J a b) := rfl
theorem ev_zald {i : Int32} {c : Nat} : i_zald k ls (.int i :: .ref c :: st) E R I J a b = (kd c = 16 ∧ vp_in i (ln c) ∧ k ls (.int (I c i.toNatClampNeg) :: st) E R I J a b) := rfl
theorem ev_lald {i : Int32} {c : Nat} : i_lald k ls (.int i :: .ref c :: st) E R I J a b = (kd c = 15 ∧ vp_in i (ln c) ∧ k ls (.long (J c i.toNatClampNeg) :: st) E R I J a b) := rfl
theorem ev_aald {i : Int32} {c : Nat} : i_aald k ls (.int i :: .ref c :: st) E R I J a b = ((17 ≤ kd c ∧ kd c < 22) ∧ vp_in i (ln c) ∧ (R c i.toNatClampNeg = .null ∨ ∃ c', R c i.toNatClampNeg = .ref c') ∧ k ls (R c i.toNatClampNeg :: st) E R I J a b) := rfl
theorem ev_alen {c : Nat} : i_alen k ls (.ref c :: st) E R I J a b = ((13 ≤ kd c ∧ kd c < 23) ∧ k ls (.int (nI (ln c)) :: st) E R I J a b) := rfl
theorem ev_iast {x i : Int32} {c : Nat} : i_iast k ls (.int x :: .int i :: .ref c :: st) E R I J a b = (kd c = 14 ∧ vp_in i (ln c) ∧ k ls st E R (ui I c i.toNatClampNeg x) J a b) := rfl
theorem ev_bast {x i : Int32} {c : Nat} : i_bast k ls (.int x :: .int i :: .ref c :: st) E R I J a b = (kd c = 13 ∧ vp_in i (ln c) ∧ k ls st E R (ui I c i.toNatClampNeg (vp_nar .byte x)) J a b) := rfl
theorem ev_zast {x i : Int32} {c : Nat} : i_zast k ls (.int x :: .int i :: .ref c :: st) E R I J a b = (kd c = 16 ∧ vp_in i (ln c) ∧ k ls st E R (ui I c i.toNatClampNeg (vp_nar .boolean x)) J a b) := rfl
theorem ev_last {x : Int64} {i : Int32} {c : Nat} : i_last k ls (.long x :: .int i :: .ref c :: st) E R I J a b = (kd c = 15 ∧ vp_in i (ln c) ∧ k ls st E R I (uj J c i.toNatClampNeg x) a b) := rfl
theorem ev_aast {ak ci v c : Nat} {i : Int32} : i_aast ak ci k ls (.ref v :: .int i :: .ref c :: st) E R I J a b = (kd c = ak ∧ kd v = ci ∧ vp_in i (ln c) ∧ k ls st E (ur R c i.toNatClampNeg (.ref v)) I J a b) := rfl
theorem ev_iret {mc ms : Nat} {v : Int32} : i_iret mc ms K ls [.int v] E R I J a b = (a ≤ mc ∧ b ≤ ms ∧ K (some (.int v)) E R I J) := rfl
theorem ev_zret {mc ms : Nat} {v : Int32} : i_zret mc ms K ls [.int v] E R I J a b = ((v = 0 ∨ v = 1) ∧ a ≤ mc ∧ b ≤ ms ∧ K (some (.int v)) E R I J) := rfl
theorem ev_lret {mc ms : Nat} {v : Int64} : i_lret mc ms K ls [.long v] E R I J a b = (a ≤ mc ∧ b ≤ ms ∧ K (some (.long v)) E R I J) := rfl
theorem ev_aret {mc ms : Nat} {v : Nat} : i_aret mc ms K ls [.ref v] E R I J a b = (a ≤ mc ∧ b ≤ ms ∧ K (some (.ref v)) E R I J) := rfl
theorem ev_aret_n {mc ms : Nat} : i_aret mc ms K ls [.null] E R I J a b = (a ≤ mc ∧ b ≤ ms ∧ K (some .null) E R I J) := rfl
theorem ev_vret {mc ms : Nat} : i_vret mc ms K ls [] E R I J a b = (a ≤ mc ∧ b ≤ ms ∧ K none E R I J) := rfl
theorem ev_nret {mc ms : Nat} {v : Int32} {ty : FieldType} : i_nret ty mc ms K ls [.int v] E R I J a b = (narrow ty (.int v) = .int v ∧ a ≤ mc ∧ b ≤ ms ∧ K (some (.int v)) E R I J) := rfl
theorem ev_obj {c : Nat} : i_obj k ls (.ref c :: st) E R I J a b = (st.length ≤ 4 ∧ k ls st E R I J a b) := rfl
def f_call (o : Option (List Value × List Value)) (kind ci : Nat) (y : MethodName) (cc' : ByteArray) (nL' : Nat) (ret' : Option FieldType) (MC MS d' : Nat) (kk : Pd) (ls : List (Nat × Value)) (E : Nat → Prop) (R : Nat → Nat → Value) (I : Nat → Nat → Int32) (J : Nat → Nat → Int64) (a b : Nat) : Prop :=
  match o with
  | some (av, st') => (a ≤ MC ∧ b ≤ MS ∧ st'.length ≤ 4) ∧ (kind = 2 ∨ rcv ci av) ∧ CL y cc' nL' ret' d' 0 0 av E R I J (fun r E' R' I' J' => kk ls (r.toList ++ st') E' R' I' J' a b)
  | none => False
def f_callA (o : Option (List Value × List Value)) (kind ci : Nat) (y : MethodName) (cc' : ByteArray) (nL' : Nat) (ret' : Option FieldType) (MC MS d' : Nat) (kk : Pd) (ls : List (Nat × Value)) (E : Nat → Prop) (R : Nat → Nat → Value) (I : Nat → Nat → Int32) (J : Nat → Nat → Int64) (a b : Nat) : Prop :=
  match o with
  | some (av, st') => st'.length ≤ 4 ∧ (kind = 2 ∨ rcv ci av) ∧ ∃ mc' ms', (a + mc' ≤ MC ∧ b + ms' ≤ MS) ∧ CL y cc' nL' ret' d' mc' ms' av E R I J (fun r E' R' I' J' => kk ls (r.toList ++ st') E' R' I' J' (a + mc') (b + ms'))
  | none => False
def f_callT (o : Option (List Value × List Value)) (y : MethodName) (cc' : ByteArray) (nL' : Nat) (ret' : Option FieldType) (MC MS d' : Nat) (kk : Pd) (ls : List (Nat × Value)) (E : Nat → Prop) (R : Nat → Nat → Value) (I : Nat → Nat → Int32) (J : Nat → Nat → Int64) (a b : Nat) : Prop :=
  match o with
  | some (av, st') => (a ≤ MC ∧ b ≤ MS ∧ st'.length ≤ 4) ∧ (∃ i av', i < 18 ∧ av = .ref (rc 62 i) :: av') ∧ CL y cc' nL' ret' d' 0 0 av E R I J (fun r E' R' I' J' => kk ls (r.toList ++ st') E' R' I' J' a b)
  | none => False
theorem ev_call {kind ci nL MC MS d n : Nat} {y : MethodName} {cc : ByteArray} {ret : Option FieldType} : i_call kind ci y cc nL ret MC MS d n k ls st E R I J a b = (f_call (sa n [] st) kind ci y cc nL ret MC MS d k ls E R I J a b) := rfl
theorem ev_callA {kind ci nL MC MS d n : Nat} {y : MethodName} {cc : ByteArray} {ret : Option FieldType} : i_callA kind ci y cc nL ret MC MS d n k ls st E R I J a b = (f_callA (sa n [] st) kind ci y cc nL ret MC MS d k ls E R I J a b) := rfl
theorem ev_callT {kind ci nL MC MS d n : Nat} {y : MethodName} {cc : ByteArray} {ret : Option FieldType} : i_callT y cc nL ret MC MS d n k ls st E R I J a b = (f_callT (sa n [] st) y cc nL ret MC MS d k ls E R I J a b) := rfl
theorem ev_call_s {kind ci nL MC MS d : Nat} {y : MethodName} {cc : ByteArray} {ret : Option FieldType} {av st' : List Value} : f_call (some (av, st')) kind ci y cc nL ret MC MS d k ls E R I J a b = ((a ≤ MC ∧ b ≤ MS ∧ st'.length ≤ 4) ∧ (kind = 2 ∨ rcv ci av) ∧ CL y cc nL ret d 0 0 av E R I J (fun r E' R' I' J' => k ls (r.toList ++ st') E' R' I' J' a b)) := rfl
theorem ev_callA_s {kind ci nL MC MS d : Nat} {y : MethodName} {cc : ByteArray} {ret : Option FieldType} {av st' : List Value} : f_callA (some (av, st')) kind ci y cc nL ret MC MS d k ls E R I J a b = (st'.length ≤ 4 ∧ (kind = 2 ∨ rcv ci av) ∧ ∃ mc' ms', (a + mc' ≤ MC ∧ b + ms' ≤ MS) ∧ CL y cc nL ret d mc' ms' av E R I J (fun r E' R' I' J' => k ls (r.toList ++ st') E' R' I' J' (a + mc') (b + ms'))) := rfl
theorem ev_callT_s {nL MC MS d : Nat} {y : MethodName} {cc : ByteArray} {ret : Option FieldType} {av st' : List Value} : f_callT (some (av, st')) y cc nL ret MC MS d k ls E R I J a b = ((a ≤ MC ∧ b ≤ MS ∧ st'.length ≤ 4) ∧ (∃ i av', i < 18 ∧ av = .ref (rc 62 i) :: av') ∧ CL y cc nL ret d 0 0 av E R I J (fun r E' R' I' J' => k ls (r.toList ++ st') E' R' I' J' a b)) := rfl
theorem ev_new {ci MC MS : Nat} : i_new ci MC MS k ls st E R I J a b = (∃ c, kd c = ci ∧ ¬ E c ∧ (a + 1 ≤ MC ∧ b + vcN ci ≤ MS) ∧ k ls (.ref c :: st) (ue E c) (ua R c (fun _ => .null)) (ua I c (fun _ => 0)) J (a + 1) (b + vcN ci)) := rfl
theorem ev_newi {ak MC MS : Nat} {n : Int32} : i_newi ak MC MS k ls (.int n :: st) E R I J a b = (∃ c, kd c = ak ∧ ¬ E c ∧ (n = nI (ln c) ∧ ln c ≤ 100000) ∧ (a + 1 ≤ MC ∧ b + ln c ≤ MS) ∧ k ls (.ref c :: st) (ue E c) (ua R c (fun _ => .null)) (ua I c (fun _ => 0)) J (a + 1) (b + ln c)) := rfl
theorem ev_newl {MC MS : Nat} {n : Int32} : i_newl MC MS k ls (.int n :: st) E R I J a b = (∃ c, kd c = 15 ∧ ¬ E c ∧ (n = nI (ln c) ∧ ln c ≤ 100000) ∧ (a + 1 ≤ MC ∧ b + ln c ≤ MS) ∧ k ls (.ref c :: st) (ue E c) (ua R c (fun _ => .null)) I (ua J c (fun _ => 0)) (a + 1) (b + ln c)) := rfl
theorem ev_newq {ak MC MS : Nat} {n : Int32} : i_newq ak MC MS k ls (.int n :: st) E R I J a b = (∃ c, kd c = ak ∧ ¬ E c ∧ (n = nI (ln c) ∧ ln c ≤ 100000) ∧ (a + 1 ≤ MC ∧ b + ln c ≤ MS) ∧ k ls (.ref c :: st) (ue E c) (ua R c (fun _ => .null)) I J (a + 1) (b + ln c)) := rfl
theorem ev_acpy {ak dst src : Nat} {n dp sp : Int32} : i_acpy ak k ls (.int n :: .int dp :: .ref dst :: .int sp :: .ref src :: st) E R I J a b = ((kd src = ak ∧ kd dst = ak ∧ st.length ≤ 4) ∧ (¬ sp < 0 ∧ ¬ dp < 0 ∧ ¬ n < 0 ∧ sp.toNatClampNeg + n.toNatClampNeg ≤ ln src ∧ dp.toNatClampNeg + n.toNatClampNeg ≤ ln dst) ∧ (∀ i, i < n.toNatClampNeg → fits (aty ak) (.int (I src (sp.toNatClampNeg + i))) = true) ∧ k ls st E R (ua I dst (va_cpy (I src) (I dst) sp.toNatClampNeg dp.toNatClampNeg n.toNatClampNeg)) J a b) := rfl
theorem ev_acpl {dst src : Nat} {n dp sp : Int32} : i_acpl k ls (.int n :: .int dp :: .ref dst :: .int sp :: .ref src :: st) E R I J a b = ((kd src = 15 ∧ kd dst = 15 ∧ st.length ≤ 4) ∧ (¬ sp < 0 ∧ ¬ dp < 0 ∧ ¬ n < 0 ∧ sp.toNatClampNeg + n.toNatClampNeg ≤ ln src ∧ dp.toNatClampNeg + n.toNatClampNeg ≤ ln dst) ∧ k ls st E R I (ua J dst (va_cpy (J src) (J dst) sp.toNatClampNeg dp.toNatClampNeg n.toNatClampNeg)) a b) := rfl
theorem ev_sval {c : Nat} : i_sval k ls (.ref c :: st) E R I J a b = (∃ i, i < 18 ∧ c = rc 62 i ∧ k ls (.ref (rc 61 i) :: st) E R I J a b) := rfl
theorem ev_scod {c : Nat} : i_scod k ls (.ref c :: st) E R I J a b = (∃ i, i < 18 ∧ c = rc 62 i ∧ k ls (.int 0 :: st) E R I J a b) := rfl
theorem ev_sal {c : Nat} : i_sal k ls (.ref c :: st) E R I J a b = (∃ i, i < 18 ∧ c = rc 61 i ∧ k ls (.int (nI (txL.getD i 0)) :: st) E R I J a b) := rfl
theorem ev_sbl {j : Int32} {c : Nat} : i_sbl k ls (.int j :: .ref c :: st) E R I J a b = (∃ i, i < 18 ∧ c = rc 61 i ∧ vp_in j (txL.getD i 0) ∧ k ls (.int ((txB.getD i []).getD j.toNatClampNeg 0) :: st) E R I J a b) := rfl
theorem ev_dead : i_dead ls st E R I J a b ↔ False := Iff.rfl
end EV

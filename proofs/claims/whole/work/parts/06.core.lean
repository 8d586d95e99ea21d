/-! ===== the judgement of the walks: the heap, the locals and the machine's context out of sight ===== -/
abbrev KX : Type := va_G × ClassId × ClassId × ClassId
abbrev ty3 (K : KX) : List (ClassId × FieldType) := [(K.2.1, .int), (K.2.2.1, .boolean), (K.2.2.2, .long)]
def b2i (b : Bool) : Int32 := match b with
  | true => 1
  | false => 0
abbrev WX : Type := Program × Launch × Env × Room × State × MethodId × Array Value × List Frame × Method × Code × (State → Prop) × (Nat → Prop)
abbrev xs (X : WX) : State := X.2.2.2.2.1
abbrev xm (X : WX) : MethodId := X.2.2.2.2.2.1
abbrev xa (X : WX) : Array Value := X.2.2.2.2.2.2.1
abbrev xR (X : WX) : Room := X.2.2.2.1
abbrev xM (X : WX) : Method := X.2.2.2.2.2.2.2.2.1
abbrev xc (X : WX) : Code := X.2.2.2.2.2.2.2.2.2.1
abbrev xA (X : WX) : Nat → Prop := X.2.2.2.2.2.2.2.2.2.2.2
abbrev xW (X : WX) (H : Heap) (locs : List Loc) (cells slots : Nat) (g : JFrame) : Prop :=
  W X.1 X.2.1 X.2.2.1 X.2.2.2.1 X.2.2.2.2.1 X.2.2.2.2.2.1 X.2.2.2.2.2.2.1 X.2.2.2.2.2.2.2.1 X.2.2.2.2.2.2.2.2.1 X.2.2.2.2.2.2.2.2.2.1 H locs cells slots X.2.2.2.2.2.2.2.2.2.2.1 g
def WD (X : WX) (K : KX) (nL cells slots : Nat) (wd : va_W) (lv : List (Nat × Value)) (pc : Nat) (st : List Value) : Prop :=
  ∀ (H : Heap) (locs : List Loc) (ls : Array Slot), va_P K.1 vwCl wd H → va_D (xA X) wd → va_S (xA X) (xs X).heap H locs → lv_has ls nL lv → xW X H locs cells slots (F0 (xm X) pc ls st)
/-- what a walk stands on: the machine, the code, the words, the tables, the room -/
def Cx (X : WX) (K : KX) (cc : ByteArray) (nL : Nat) (own : String) (rm : Room) : Prop :=
  X.1.tables.exec = Jvm.exec ∧ (xc X).code = cc ∧ (xc X).maxLocals = nL ∧ (xs X).vm.findClass own = some (xm X).cls ∧ (∀ w ∈ TW, w.before (xa X) (xs X) = true) ∧ va_K K.1 vwCl (ty3 K) (xs X) ∧ (∀ q, (xs X).heap.size ≤ q → xA X q) ∧ xR X = rm
theorem Cx.fr {X : WX} {K : KX} {cc : ByteArray} {nL : Nat} {own : String} {rm : Room} (C : Cx X K cc nL own rm) {n : Nat} (h : n ≤ rm.frames) : n ≤ X.2.2.2.1.frames := by
  have e : X.2.2.2.1 = rm := C.2.2.2.2.2.2.2
  rw [e]; exact h
theorem Cx.lo {X : WX} {K : KX} {cc : ByteArray} {nL : Nat} {own : String} {rm : Room} (C : Cx X K cc nL own rm) {n : Nat} (h : n ≤ rm.locals) : n ≤ X.2.2.2.1.locals := by
  have e : X.2.2.2.1 = rm := C.2.2.2.2.2.2.2
  rw [e]; exact h
theorem Cx.ce {X : WX} {K : KX} {cc : ByteArray} {nL : Nat} {own : String} {rm : Room} (C : Cx X K cc nL own rm) {n : Nat} (h : n ≤ rm.cells) : n ≤ X.2.2.2.1.cells := by
  have e : X.2.2.2.1 = rm := C.2.2.2.2.2.2.2
  rw [e]; exact h
theorem Cx.sl {X : WX} {K : KX} {cc : ByteArray} {nL : Nat} {own : String} {rm : Room} (C : Cx X K cc nL own rm) {n : Nat} (h : n ≤ rm.slots) : n ≤ X.2.2.2.1.slots := by
  have e : X.2.2.2.1 = rm := C.2.2.2.2.2.2.2
  rw [e]; exact h
section CORE
variable {X : WX} {K : KX} {cc : ByteArray} {nL cells slots : Nat} {own : String} {rm : Room} {wd : va_W} {lv : List (Nat × Value)} {pc : Nat} {st : List Value}
theorem wd_iconst (C : Cx X K cc nL own rm) {n : Int} {v : Int32} (hd : decode cc pc = .ok (.iconst n, 1)) (hv : Int32.ofInt n = v) (k : WD X K nL cells slots wd lv (pc + 1) (.int v :: st)) : WD X K nL cells slots wd lv pc st :=
  fun H locs ls hP hD hS hl => lv_iconst C.1 C.2.1 hd hv (k H locs ls hP hD hS hl)
theorem wd_bipush (C : Cx X K cc nL own rm) {n : Int} {v : Int32} (hd : decode cc pc = .ok (.bipush n, 2)) (hv : (Int8.ofInt n).toInt32 = v) (k : WD X K nL cells slots wd lv (pc + 2) (.int v :: st)) : WD X K nL cells slots wd lv pc st :=
  fun H locs ls hP hD hS hl => lv_bipush C.1 C.2.1 hd hv (k H locs ls hP hD hS hl)
theorem wd_sipush (C : Cx X K cc nL own rm) {n : Int} {v : Int32} (hd : decode cc pc = .ok (.sipush n, 3)) (hv : (Int16.ofInt n).toInt32 = v) (k : WD X K nL cells slots wd lv (pc + 3) (.int v :: st)) : WD X K nL cells slots wd lv pc st :=
  fun H locs ls hP hD hS hl => lv_sipush C.1 C.2.1 hd hv (k H locs ls hP hD hS hl)
theorem wd_ldc (C : Cx X K cc nL own rm) {i : Nat} {v : Int32} (hw : Cond.constant own i v ∈ TW) (hd : decode cc pc = .ok (.ldc i, 2)) (k : WD X K nL cells slots wd lv (pc + 2) (.int v :: st)) : WD X K nL cells slots wd lv pc st :=
  fun H locs ls hP hD hS hl => lv_ldc C.1 C.2.1 C.2.2.2.1 (C.2.2.2.2.1 _ hw) hd (k H locs ls hP hD hS hl)
theorem wd_ldc2 (C : Cx X K cc nL own rm) {i : Nat} {v : Int64} (hw : Cond.constantLong own i v ∈ TW) (hd : decode cc pc = .ok (.ldc2_w i, 3)) (k : WD X K nL cells slots wd lv (pc + 3) (.long v :: st)) : WD X K nL cells slots wd lv pc st :=
  fun H locs ls hP hD hS hl => lv_ldc2 C.1 C.2.1 C.2.2.2.1 (C.2.2.2.2.1 _ hw) hd (k H locs ls hP hD hS hl)
theorem wd_iload_n (C : Cx X K cc nL own rm) {k4 : Fin 4} {i : Nat} {x : Int32} (hd : decode cc pc = .ok (.iload_n k4, 1)) (hi : (k4 : Nat) = i) (j : Nat) (hj : lv[j]? = some (i, .int x)) (k : WD X K nL cells slots wd lv (pc + 1) (.int x :: st)) : WD X K nL cells slots wd lv pc st :=
  fun H locs ls hP hD hS hl => lv_iload_n C.1 C.2.1 hd hi (lv_at hl j hj) (k H locs ls hP hD hS hl)
theorem wd_iload (C : Cx X K cc nL own rm) {i : Nat} {x : Int32} (hd : decode cc pc = .ok (.iload i, 2)) (j : Nat) (hj : lv[j]? = some (i, .int x)) (k : WD X K nL cells slots wd lv (pc + 2) (.int x :: st)) : WD X K nL cells slots wd lv pc st :=
  fun H locs ls hP hD hS hl => lv_iload C.1 C.2.1 hd (lv_at hl j hj) (k H locs ls hP hD hS hl)
theorem wd_lload_n (C : Cx X K cc nL own rm) {k4 : Fin 4} {i : Nat} {x : Int64} (hd : decode cc pc = .ok (.lload_n k4, 1)) (hi : (k4 : Nat) = i) (j : Nat) (hj : lv[j]? = some (i, .long x)) (k : WD X K nL cells slots wd lv (pc + 1) (.long x :: st)) : WD X K nL cells slots wd lv pc st :=
  fun H locs ls hP hD hS hl => lv_lload_n C.1 C.2.1 hd hi (lv_at hl j hj) (k H locs ls hP hD hS hl)
theorem wd_aload_n (C : Cx X K cc nL own rm) {k4 : Fin 4} {i x : Nat} (hd : decode cc pc = .ok (.aload_n k4, 1)) (hi : (k4 : Nat) = i) (j : Nat) (hj : lv[j]? = some (i, .ref x)) (k : WD X K nL cells slots wd lv (pc + 1) (.ref x :: st)) : WD X K nL cells slots wd lv pc st :=
  fun H locs ls hP hD hS hl => lv_aload_n C.1 C.2.1 hd hi (lv_at hl j hj) (k H locs ls hP hD hS hl)
theorem wd_aload (C : Cx X K cc nL own rm) {i x : Nat} (hd : decode cc pc = .ok (.aload i, 2)) (j : Nat) (hj : lv[j]? = some (i, .ref x)) (k : WD X K nL cells slots wd lv (pc + 2) (.ref x :: st)) : WD X K nL cells slots wd lv pc st :=
  fun H locs ls hP hD hS hl => lv_aload C.1 C.2.1 hd (lv_at hl j hj) (k H locs ls hP hD hS hl)
theorem wd_istore_n (C : Cx X K cc nL own rm) {k4 : Fin 4} {i : Nat} {x : Int32} (lv' : List (Nat × Value)) (hd : decode cc pc = .ok (.istore_n k4, 1)) (hi : (k4 : Nat) = i) (hn : i < nL) (hl2 : (i, Value.int x) :: lv.filter (fun q => !(q.1 == i) && !(q.1 + 1 == i && q.2.category == 2)) = lv') (k : WD X K nL cells slots wd lv' (pc + 1) st) : WD X K nL cells slots wd lv pc (.int x :: st) :=
  fun H locs ls hP hD hS hl => lv_istore_n C.1 C.2.1 hd hi hl hn hl2 (fun ls hl => k H locs ls hP hD hS hl)
theorem wd_istore (C : Cx X K cc nL own rm) {i : Nat} {x : Int32} (lv' : List (Nat × Value)) (hd : decode cc pc = .ok (.istore i, 2)) (hn : i < nL) (hl2 : (i, Value.int x) :: lv.filter (fun q => !(q.1 == i) && !(q.1 + 1 == i && q.2.category == 2)) = lv') (k : WD X K nL cells slots wd lv' (pc + 2) st) : WD X K nL cells slots wd lv pc (.int x :: st) :=
  fun H locs ls hP hD hS hl => lv_istore C.1 C.2.1 hd hl hn hl2 (fun ls hl => k H locs ls hP hD hS hl)
theorem wd_astore_n (C : Cx X K cc nL own rm) {k4 : Fin 4} {i x : Nat} (lv' : List (Nat × Value)) (hd : decode cc pc = .ok (.astore_n k4, 1)) (hi : (k4 : Nat) = i) (hn : i < nL) (hl2 : (i, Value.ref x) :: lv.filter (fun q => !(q.1 == i) && !(q.1 + 1 == i && q.2.category == 2)) = lv') (k : WD X K nL cells slots wd lv' (pc + 1) st) : WD X K nL cells slots wd lv pc (.ref x :: st) :=
  fun H locs ls hP hD hS hl => lv_astore_n C.1 C.2.1 hd hi hl hn hl2 (fun ls hl => k H locs ls hP hD hS hl)
theorem wd_iinc (C : Cx X K cc nL own rm) {i : Nat} {n : Int} {x v : Int32} (lv' : List (Nat × Value)) (hd : decode cc pc = .ok (.iinc i n, 3)) (j : Nat) (hj : lv[j]? = some (i, .int x)) (hv : x + Int32.ofInt n = v) (hn : i < nL) (hl2 : (i, Value.int v) :: lv.filter (fun q => !(q.1 == i) && !(q.1 + 1 == i && q.2.category == 2)) = lv') (k : WD X K nL cells slots wd lv' (pc + 3) st) : WD X K nL cells slots wd lv pc st :=
  fun H locs ls hP hD hS hl => lv_iinc C.1 C.2.1 hd hl hj hv hn hl2 (fun ls hl => k H locs ls hP hD hS hl)
theorem wd_iadd (C : Cx X K cc nL own rm) {x y : Int32} (hd : decode cc pc = .ok (.iadd, 1)) (k : WD X K nL cells slots wd lv (pc + 1) (.int (x + y) :: st)) : WD X K nL cells slots wd lv pc (.int y :: .int x :: st) :=
  fun H locs ls hP hD hS hl => lv_iadd C.1 C.2.1 hd (k H locs ls hP hD hS hl)
theorem wd_isub (C : Cx X K cc nL own rm) {x y : Int32} (hd : decode cc pc = .ok (.isub, 1)) (k : WD X K nL cells slots wd lv (pc + 1) (.int (x - y) :: st)) : WD X K nL cells slots wd lv pc (.int y :: .int x :: st) :=
  fun H locs ls hP hD hS hl => lv_isub C.1 C.2.1 hd (k H locs ls hP hD hS hl)
theorem wd_imul (C : Cx X K cc nL own rm) {x y : Int32} (hd : decode cc pc = .ok (.imul, 1)) (k : WD X K nL cells slots wd lv (pc + 1) (.int (x * y) :: st)) : WD X K nL cells slots wd lv pc (.int y :: .int x :: st) :=
  fun H locs ls hP hD hS hl => lv_imul C.1 C.2.1 hd (k H locs ls hP hD hS hl)
theorem wd_iand (C : Cx X K cc nL own rm) {x y : Int32} (hd : decode cc pc = .ok (.iand, 1)) (k : WD X K nL cells slots wd lv (pc + 1) (.int (x &&& y) :: st)) : WD X K nL cells slots wd lv pc (.int y :: .int x :: st) :=
  fun H locs ls hP hD hS hl => lv_iand C.1 C.2.1 hd (k H locs ls hP hD hS hl)
theorem wd_ior (C : Cx X K cc nL own rm) {x y : Int32} (hd : decode cc pc = .ok (.ior, 1)) (k : WD X K nL cells slots wd lv (pc + 1) (.int (x ||| y) :: st)) : WD X K nL cells slots wd lv pc (.int y :: .int x :: st) :=
  fun H locs ls hP hD hS hl => lv_ior C.1 C.2.1 hd (k H locs ls hP hD hS hl)
theorem wd_ixor (C : Cx X K cc nL own rm) {x y : Int32} (hd : decode cc pc = .ok (.ixor, 1)) (k : WD X K nL cells slots wd lv (pc + 1) (.int (x ^^^ y) :: st)) : WD X K nL cells slots wd lv pc (.int y :: .int x :: st) :=
  fun H locs ls hP hD hS hl => lv_ixor C.1 C.2.1 hd (k H locs ls hP hD hS hl)
theorem wd_idiv (C : Cx X K cc nL own rm) {x y : Int32} (hd : decode cc pc = .ok (.idiv, 1)) (hne : ¬ y = 0) (k : WD X K nL cells slots wd lv (pc + 1) (.int (x / y) :: st)) : WD X K nL cells slots wd lv pc (.int y :: .int x :: st) :=
  fun H locs ls hP hD hS hl => lv_idiv C.1 C.2.1 hd hne (k H locs ls hP hD hS hl)
theorem wd_irem (C : Cx X K cc nL own rm) {x y : Int32} (hd : decode cc pc = .ok (.irem, 1)) (hne : ¬ y = 0) (k : WD X K nL cells slots wd lv (pc + 1) (.int (x - x / y * y) :: st)) : WD X K nL cells slots wd lv pc (.int y :: .int x :: st) :=
  fun H locs ls hP hD hS hl => lv_irem C.1 C.2.1 hd hne (k H locs ls hP hD hS hl)
theorem wd_ineg (C : Cx X K cc nL own rm) {x : Int32} (hd : decode cc pc = .ok (.ineg, 1)) (k : WD X K nL cells slots wd lv (pc + 1) (.int (-x) :: st)) : WD X K nL cells slots wd lv pc (.int x :: st) :=
  fun H locs ls hP hD hS hl => lv_ineg C.1 C.2.1 hd (k H locs ls hP hD hS hl)
theorem wd_ishl (C : Cx X K cc nL own rm) {x y : Int32} (hd : decode cc pc = .ok (.ishl, 1)) (k : WD X K nL cells slots wd lv (pc + 1) (.int (x <<< (y &&& 31)) :: st)) : WD X K nL cells slots wd lv pc (.int y :: .int x :: st) :=
  fun H locs ls hP hD hS hl => lv_ishl C.1 C.2.1 hd (k H locs ls hP hD hS hl)
theorem wd_ishr (C : Cx X K cc nL own rm) {x y : Int32} (hd : decode cc pc = .ok (.ishr, 1)) (k : WD X K nL cells slots wd lv (pc + 1) (.int (x >>> (y &&& 31)) :: st)) : WD X K nL cells slots wd lv pc (.int y :: .int x :: st) :=
  fun H locs ls hP hD hS hl => lv_ishr C.1 C.2.1 hd (k H locs ls hP hD hS hl)
theorem wd_i2l (C : Cx X K cc nL own rm) {x : Int32} (hd : decode cc pc = .ok (.i2l, 1)) (k : WD X K nL cells slots wd lv (pc + 1) (.long x.toInt64 :: st)) : WD X K nL cells slots wd lv pc (.int x :: st) :=
  fun H locs ls hP hD hS hl => lv_i2l C.1 C.2.1 hd rfl (k H locs ls hP hD hS hl)
theorem wd_l2i (C : Cx X K cc nL own rm) {x : Int64} (hd : decode cc pc = .ok (.l2i, 1)) (k : WD X K nL cells slots wd lv (pc + 1) (.int x.toInt32 :: st)) : WD X K nL cells slots wd lv pc (.long x :: st) :=
  fun H locs ls hP hD hS hl => lv_l2i C.1 C.2.1 hd rfl (k H locs ls hP hD hS hl)
theorem wd_lushr (C : Cx X K cc nL own rm) {x : Int64} {y : Int32} (hd : decode cc pc = .ok (.lushr, 1)) (k : WD X K nL cells slots wd lv (pc + 1) (.long (x.toUInt64 >>> (y.toInt64.toUInt64 &&& Int64.toUInt64 63)).toInt64 :: st)) : WD X K nL cells slots wd lv pc (.int y :: .long x :: st) :=
  fun H locs ls hP hD hS hl => lv_lushr C.1 C.2.1 hd rfl (k H locs ls hP hD hS hl)
theorem wd_lshr (C : Cx X K cc nL own rm) {x : Int64} {y : Int32} (hd : decode cc pc = .ok (.lshr, 1)) (k : WD X K nL cells slots wd lv (pc + 1) (.long (x >>> (y.toInt64 &&& 63)) :: st)) : WD X K nL cells slots wd lv pc (.int y :: .long x :: st) :=
  fun H locs ls hP hD hS hl => lv_lshr C.1 C.2.1 hd rfl (k H locs ls hP hD hS hl)
theorem wd_lshl (C : Cx X K cc nL own rm) {x : Int64} {y : Int32} (hd : decode cc pc = .ok (.lshl, 1)) (k : WD X K nL cells slots wd lv (pc + 1) (.long (x <<< (y.toInt64 &&& 63)) :: st)) : WD X K nL cells slots wd lv pc (.int y :: .long x :: st) :=
  fun H locs ls hP hD hS hl => lv_lshl C.1 C.2.1 hd rfl (k H locs ls hP hD hS hl)
theorem wd_land (C : Cx X K cc nL own rm) {x y : Int64} (hd : decode cc pc = .ok (.land, 1)) (k : WD X K nL cells slots wd lv (pc + 1) (.long (x &&& y) :: st)) : WD X K nL cells slots wd lv pc (.long y :: .long x :: st) :=
  fun H locs ls hP hD hS hl => lv_land C.1 C.2.1 hd (k H locs ls hP hD hS hl)
theorem wd_lor (C : Cx X K cc nL own rm) {x y : Int64} (hd : decode cc pc = .ok (.lor, 1)) (k : WD X K nL cells slots wd lv (pc + 1) (.long (x ||| y) :: st)) : WD X K nL cells slots wd lv pc (.long y :: .long x :: st) :=
  fun H locs ls hP hD hS hl => lv_lor C.1 C.2.1 hd (k H locs ls hP hD hS hl)
theorem wd_dup (C : Cx X K cc nL own rm) {v : Value} (hd : decode cc pc = .ok (.dup, 1)) (hv : v.category = 1) (k : WD X K nL cells slots wd lv (pc + 1) (v :: v :: st)) : WD X K nL cells slots wd lv pc (v :: st) :=
  fun H locs ls hP hD hS hl => lv_dup C.1 C.2.1 hd hv (k H locs ls hP hD hS hl)
theorem wd_pop (C : Cx X K cc nL own rm) {v : Value} (hd : decode cc pc = .ok (.pop, 1)) (hv : v.category = 1) (k : WD X K nL cells slots wd lv (pc + 1) st) : WD X K nL cells slots wd lv pc (v :: st) :=
  fun H locs ls hP hD hS hl => lv_pop C.1 C.2.1 hd hv (k H locs ls hP hD hS hl)
theorem wd_dup_x1 (C : Cx X K cc nL own rm) {v w : Value} (hd : decode cc pc = .ok (.dup_x1, 1)) (hv : v.category = 1) (hw : w.category = 1) (k : WD X K nL cells slots wd lv (pc + 1) (v :: w :: v :: st)) : WD X K nL cells slots wd lv pc (v :: w :: st) :=
  fun H locs ls hP hD hS hl => lv_dup_x1 C.1 C.2.1 hd hv hw (k H locs ls hP hD hS hl)
theorem wd_goto (C : Cx X K cc nL own rm) {off : Int} (tgt : Nat) (hd : decode cc pc = .ok (.goto off, 3)) (ht : (pc : Int) + off = (tgt : Int)) (k : WD X K nL cells slots wd lv tgt st) : WD X K nL cells slots wd lv pc st :=
  fun H locs ls hP hD hS hl => lv_goto C.1 C.2.1 hd ht (k H locs ls hP hD hS hl)
theorem wd_if_eq (C : Cx X K cc nL own rm) {x : Int32} {off : Int} (tgt : Nat) (hd : decode cc pc = .ok (.ifCond .eq off, 3)) (ht : (pc : Int) + off = (tgt : Int)) (kt : x = 0 → WD X K nL cells slots wd lv tgt st) (kf : ¬ x = 0 → WD X K nL cells slots wd lv (pc + 3) st) : WD X K nL cells slots wd lv pc (.int x :: st) :=
  fun H locs ls hP hD hS hl => lv_if_eq C.1 C.2.1 hd ht (fun c => kt c H locs ls hP hD hS hl) (fun c => kf c H locs ls hP hD hS hl)
theorem wd_icmp_eq (C : Cx X K cc nL own rm) {x y : Int32} {off : Int} (tgt : Nat) (hd : decode cc pc = .ok (.if_icmp .eq off, 3)) (ht : (pc : Int) + off = (tgt : Int)) (kt : x = y → WD X K nL cells slots wd lv tgt st) (kf : ¬ x = y → WD X K nL cells slots wd lv (pc + 3) st) : WD X K nL cells slots wd lv pc (.int y :: .int x :: st) :=
  fun H locs ls hP hD hS hl => lv_icmp_eq C.1 C.2.1 hd ht (fun c => kt c H locs ls hP hD hS hl) (fun c => kf c H locs ls hP hD hS hl)
theorem wd_if_ne (C : Cx X K cc nL own rm) {x : Int32} {off : Int} (tgt : Nat) (hd : decode cc pc = .ok (.ifCond .ne off, 3)) (ht : (pc : Int) + off = (tgt : Int)) (kt : ¬ x = 0 → WD X K nL cells slots wd lv tgt st) (kf : x = 0 → WD X K nL cells slots wd lv (pc + 3) st) : WD X K nL cells slots wd lv pc (.int x :: st) :=
  fun H locs ls hP hD hS hl => lv_if_ne C.1 C.2.1 hd ht (fun c => kt c H locs ls hP hD hS hl) (fun c => kf c H locs ls hP hD hS hl)
theorem wd_icmp_ne (C : Cx X K cc nL own rm) {x y : Int32} {off : Int} (tgt : Nat) (hd : decode cc pc = .ok (.if_icmp .ne off, 3)) (ht : (pc : Int) + off = (tgt : Int)) (kt : ¬ x = y → WD X K nL cells slots wd lv tgt st) (kf : x = y → WD X K nL cells slots wd lv (pc + 3) st) : WD X K nL cells slots wd lv pc (.int y :: .int x :: st) :=
  fun H locs ls hP hD hS hl => lv_icmp_ne C.1 C.2.1 hd ht (fun c => kt c H locs ls hP hD hS hl) (fun c => kf c H locs ls hP hD hS hl)
theorem wd_if_lt (C : Cx X K cc nL own rm) {x : Int32} {off : Int} (tgt : Nat) (hd : decode cc pc = .ok (.ifCond .lt off, 3)) (ht : (pc : Int) + off = (tgt : Int)) (kt : x < 0 → WD X K nL cells slots wd lv tgt st) (kf : ¬ x < 0 → WD X K nL cells slots wd lv (pc + 3) st) : WD X K nL cells slots wd lv pc (.int x :: st) :=
  fun H locs ls hP hD hS hl => lv_if_lt C.1 C.2.1 hd ht (fun c => kt c H locs ls hP hD hS hl) (fun c => kf c H locs ls hP hD hS hl)
theorem wd_icmp_lt (C : Cx X K cc nL own rm) {x y : Int32} {off : Int} (tgt : Nat) (hd : decode cc pc = .ok (.if_icmp .lt off, 3)) (ht : (pc : Int) + off = (tgt : Int)) (kt : x < y → WD X K nL cells slots wd lv tgt st) (kf : ¬ x < y → WD X K nL cells slots wd lv (pc + 3) st) : WD X K nL cells slots wd lv pc (.int y :: .int x :: st) :=
  fun H locs ls hP hD hS hl => lv_icmp_lt C.1 C.2.1 hd ht (fun c => kt c H locs ls hP hD hS hl) (fun c => kf c H locs ls hP hD hS hl)
theorem wd_if_ge (C : Cx X K cc nL own rm) {x : Int32} {off : Int} (tgt : Nat) (hd : decode cc pc = .ok (.ifCond .ge off, 3)) (ht : (pc : Int) + off = (tgt : Int)) (kt : 0 ≤ x → WD X K nL cells slots wd lv tgt st) (kf : ¬ 0 ≤ x → WD X K nL cells slots wd lv (pc + 3) st) : WD X K nL cells slots wd lv pc (.int x :: st) :=
  fun H locs ls hP hD hS hl => lv_if_ge C.1 C.2.1 hd ht (fun c => kt c H locs ls hP hD hS hl) (fun c => kf c H locs ls hP hD hS hl)
theorem wd_icmp_ge (C : Cx X K cc nL own rm) {x y : Int32} {off : Int} (tgt : Nat) (hd : decode cc pc = .ok (.if_icmp .ge off, 3)) (ht : (pc : Int) + off = (tgt : Int)) (kt : y ≤ x → WD X K nL cells slots wd lv tgt st) (kf : ¬ y ≤ x → WD X K nL cells slots wd lv (pc + 3) st) : WD X K nL cells slots wd lv pc (.int y :: .int x :: st) :=
  fun H locs ls hP hD hS hl => lv_icmp_ge C.1 C.2.1 hd ht (fun c => kt c H locs ls hP hD hS hl) (fun c => kf c H locs ls hP hD hS hl)
theorem wd_if_gt (C : Cx X K cc nL own rm) {x : Int32} {off : Int} (tgt : Nat) (hd : decode cc pc = .ok (.ifCond .gt off, 3)) (ht : (pc : Int) + off = (tgt : Int)) (kt : 0 < x → WD X K nL cells slots wd lv tgt st) (kf : ¬ 0 < x → WD X K nL cells slots wd lv (pc + 3) st) : WD X K nL cells slots wd lv pc (.int x :: st) :=
  fun H locs ls hP hD hS hl => lv_if_gt C.1 C.2.1 hd ht (fun c => kt c H locs ls hP hD hS hl) (fun c => kf c H locs ls hP hD hS hl)
theorem wd_icmp_gt (C : Cx X K cc nL own rm) {x y : Int32} {off : Int} (tgt : Nat) (hd : decode cc pc = .ok (.if_icmp .gt off, 3)) (ht : (pc : Int) + off = (tgt : Int)) (kt : y < x → WD X K nL cells slots wd lv tgt st) (kf : ¬ y < x → WD X K nL cells slots wd lv (pc + 3) st) : WD X K nL cells slots wd lv pc (.int y :: .int x :: st) :=
  fun H locs ls hP hD hS hl => lv_icmp_gt C.1 C.2.1 hd ht (fun c => kt c H locs ls hP hD hS hl) (fun c => kf c H locs ls hP hD hS hl)
theorem wd_if_le (C : Cx X K cc nL own rm) {x : Int32} {off : Int} (tgt : Nat) (hd : decode cc pc = .ok (.ifCond .le off, 3)) (ht : (pc : Int) + off = (tgt : Int)) (kt : x ≤ 0 → WD X K nL cells slots wd lv tgt st) (kf : ¬ x ≤ 0 → WD X K nL cells slots wd lv (pc + 3) st) : WD X K nL cells slots wd lv pc (.int x :: st) :=
  fun H locs ls hP hD hS hl => lv_if_le C.1 C.2.1 hd ht (fun c => kt c H locs ls hP hD hS hl) (fun c => kf c H locs ls hP hD hS hl)
theorem wd_icmp_le (C : Cx X K cc nL own rm) {x y : Int32} {off : Int} (tgt : Nat) (hd : decode cc pc = .ok (.if_icmp .le off, 3)) (ht : (pc : Int) + off = (tgt : Int)) (kt : x ≤ y → WD X K nL cells slots wd lv tgt st) (kf : ¬ x ≤ y → WD X K nL cells slots wd lv (pc + 3) st) : WD X K nL cells slots wd lv pc (.int y :: .int x :: st) :=
  fun H locs ls hP hD hS hl => lv_icmp_le C.1 C.2.1 hd ht (fun c => kt c H locs ls hP hD hS hl) (fun c => kf c H locs ls hP hD hS hl)
theorem b2i_0 {b : Bool} : b2i b = 0 ↔ ¬ b = true := by cases b <;> decide
theorem wd_if_eqB (C : Cx X K cc nL own rm) {b : Bool} {off : Int} (tgt : Nat) (hd : decode cc pc = .ok (.ifCond .eq off, 3)) (ht : (pc : Int) + off = (tgt : Int)) (kt : ¬ b = true → WD X K nL cells slots wd lv tgt st) (kf : b = true → WD X K nL cells slots wd lv (pc + 3) st) : WD X K nL cells slots wd lv pc (.int (b2i b) :: st) :=
  wd_if_eq C tgt hd ht (fun c => kt (b2i_0.mp c)) (fun c => kf (Decidable.not_not.mp (fun z => c (b2i_0.mpr z))))
theorem wd_if_neB (C : Cx X K cc nL own rm) {b : Bool} {off : Int} (tgt : Nat) (hd : decode cc pc = .ok (.ifCond .ne off, 3)) (ht : (pc : Int) + off = (tgt : Int)) (kt : b = true → WD X K nL cells slots wd lv tgt st) (kf : ¬ b = true → WD X K nL cells slots wd lv (pc + 3) st) : WD X K nL cells slots wd lv pc (.int (b2i b) :: st) :=
  wd_if_ne C tgt hd ht (fun c => kt (Decidable.not_not.mp (fun z => c (b2i_0.mpr z)))) (fun c => kf (b2i_0.mp c))
theorem wd_ifnonnull (C : Cx X K cc nL own rm) {x : Nat} {off : Int} (tgt : Nat) (hd : decode cc pc = .ok (.ifnonnull off, 3)) (ht : (pc : Int) + off = (tgt : Int)) (k : WD X K nL cells slots wd lv tgt st) : WD X K nL cells slots wd lv pc (.ref x :: st) :=
  fun H locs ls hP hD hS hl => lv_ifnonnull C.1 C.2.1 hd ht (k H locs ls hP hD hS hl)
/-- getfield of the cell at place q0, field k -/
theorem wd_get (C : Cx X K cc nL own rm) {ref N C' : _} {T : u_T} {ci idx a : Nat} (q0 : Nat) {fs : List Value} (hin : ∀ w ∈ u_ws C' T N, w ∈ TW) (he : wd[q0]? = some (a, .inr (ci, fs))) (hc : vwCl[ci]? = some (C', T, N)) (k : Nat) (hk : k < N) (hsame : (T k).1 = ref) (hw : Cond.fieldLink own idx ref (T k).2.1 (T k).2.2.1 ∈ TW) {v : Value} (hv : fs[k]? = some v) (hd : decode cc pc = .ok (.getfield idx, 3)) (kk : WD X K nL cells slots wd lv (pc + 3) (v :: st)) : WD X K nL cells slots wd lv pc (.ref a :: st) :=
  fun H locs ls hP hD hS hl => va_get C.1 C.2.1 C.2.2.2.2.1 hin C.2.2.2.1 C.2.2.2.2.2.1 hP q0 he hc k hk (C.2.2.2.2.1 _ hw) (fun _ h => by rw [← hsame]; exact h) hv hd (kk H locs ls hP hD hS hl)
theorem wd_put (C : Cx X K cc nL own rm) {ref N C' : _} {T : u_T} {ci idx a : Nat} (q0 : Nat) {fs : List Value} (wd' : va_W) (hin : ∀ w ∈ u_ws C' T N, w ∈ TW) (ty0 : Nat → FieldType) (hty : ∀ k, k < N → parseFieldDescriptor (T k).2.2.1 = some (ty0 k)) (hnm : ∀ a, a < N → ∀ b, b < N → a ≠ b → (T a).2.1 ≠ (T b).2.1) (he : wd[q0]? = some (a, .inr (ci, fs))) (hc : vwCl[ci]? = some (C', T, N)) (k : Nat) (hk : k < N) (hsame : (T k).1 = ref) (hw : Cond.fieldLink own idx ref (T k).2.1 (T k).2.2.1 ∈ TW) (hfin : (T k).2.2.2 = false) {v : Value} (hn : narrow (ty0 k) v = v) (hfit : fits (ty0 k) v = true) (hlen : k < fs.length) (hset : wd.set q0 (a, .inr (ci, fs.set k v)) = wd') (hd : decode cc pc = .ok (.putfield idx, 3)) (kk : WD X K nL cells slots wd' lv (pc + 3) st) : WD X K nL cells slots wd lv pc (v :: .ref a :: st) := by
  subst hset
  exact fun H locs ls hP hD hS hl => va_put C.1 C.2.1 C.2.2.2.2.1 hin ty0 hty hnm C.2.2.2.1 C.2.2.2.2.2.1 hP hD hS q0 he hc k hk (C.2.2.2.2.1 _ hw) (fun _ h => by rw [← hsame]; exact h) hfin (hty k hk) hn hfit hlen hd (fun H1 locs1 hP1 hD1 hS1 => kk H1 locs1 ls hP1 hD1 hS1 hl)
theorem wd_iald (C : Cx X K cc nL own rm) {a n : Nat} {f : Nat → Int32} (q0 : Nat) (ha : wd[q0]? = some (a, .inl (K.2.1, n, .inl f))) {i : Int32} (hin : vp_in i n) (hd : decode cc pc = .ok (.iaload, 1)) (kk : WD X K nL cells slots wd lv (pc + 1) (.int (f i.toNatClampNeg) :: st)) : WD X K nL cells slots wd lv pc (.int i :: .ref a :: st) :=
  fun H locs ls hP hD hS hl => va_iald C.1 C.2.1 C.2.2.2.2.2.1 hP q0 0 ha rfl hin hd (kk H locs ls hP hD hS hl)
theorem wd_zald (C : Cx X K cc nL own rm) {a n : Nat} {f : Nat → Int32} (q0 : Nat) (ha : wd[q0]? = some (a, .inl (K.2.2.1, n, .inl f))) {i : Int32} (hin : vp_in i n) (hd : decode cc pc = .ok (.baload, 1)) (kk : WD X K nL cells slots wd lv (pc + 1) (.int (f i.toNatClampNeg) :: st)) : WD X K nL cells slots wd lv pc (.int i :: .ref a :: st) :=
  fun H locs ls hP hD hS hl => va_zald C.1 C.2.1 C.2.2.2.2.2.1 hP q0 1 ha rfl hin hd (kk H locs ls hP hD hS hl)
theorem wd_iast (C : Cx X K cc nL own rm) {a n : Nat} {f : Nat → Int32} (q0 : Nat) (wd' : va_W) (ha : wd[q0]? = some (a, .inl (K.2.1, n, .inl f))) {i x : Int32} (hin : vp_in i n) (hset : wd.set q0 (a, .inl (K.2.1, n, .inl (upd f i.toNatClampNeg x))) = wd') (hd : decode cc pc = .ok (.iastore, 1)) (kk : WD X K nL cells slots wd' lv (pc + 1) st) : WD X K nL cells slots wd lv pc (.int x :: .int i :: .ref a :: st) := by
  subst hset
  exact fun H locs ls hP hD hS hl => va_iast C.1 C.2.1 C.2.2.2.2.2.1 hP hD hS q0 0 ha rfl hin hd (fun H1 locs1 hP1 hD1 hS1 => kk H1 locs1 ls hP1 hD1 hS1 hl)
theorem wd_zast (C : Cx X K cc nL own rm) {a n : Nat} {f : Nat → Int32} (q0 : Nat) (wd' : va_W) (ha : wd[q0]? = some (a, .inl (K.2.2.1, n, .inl f))) {i x : Int32} (hin : vp_in i n) (hset : wd.set q0 (a, .inl (K.2.2.1, n, .inl (upd f i.toNatClampNeg (vp_nar .boolean x)))) = wd') (hd : decode cc pc = .ok (.bastore, 1)) (kk : WD X K nL cells slots wd' lv (pc + 1) st) : WD X K nL cells slots wd lv pc (.int x :: .int i :: .ref a :: st) := by
  subst hset
  exact fun H locs ls hP hD hS hl => va_zast C.1 C.2.1 C.2.2.2.2.2.1 hP hD hS q0 1 ha rfl hin hd (fun H1 locs1 hP1 hD1 hS1 => kk H1 locs1 ls hP1 hD1 hS1 hl)
theorem wd_max (C : Cx X K cc nL own rm) {i : Nat} {x y : Int32} (hw : Cond.methodLink own i Lib.Math.max.name ∈ TW) (hfr : 1 ≤ rm.frames) (hlo : (st.map fun v => v.category).sum + 13 ≤ rm.locals) (hc : cells ≤ rm.cells) (hs : slots ≤ rm.slots) (hd : decode cc pc = .ok (.invokestatic i, 3)) (kk : WD X K nL cells slots wd lv (pc + 3) (.int (if x < y then y else x) :: st)) : WD X K nL cells slots wd lv pc (.int y :: .int x :: st) :=
  fun H locs ls hP hD hS hl => va_mmax C.1 C.2.1 (C.2.2.1.trans hl.1.symm) C.2.2.2.1 (C.2.2.2.2.1 _ hw) (C.2.2.2.2.1 _ tw_mx1) (C.2.2.2.2.1 _ tw_mx2) (C.2.2.2.2.1 _ tw_mx3) (Cx.fr C hfr) (Cx.lo C hlo) (Cx.ce C hc) (Cx.sl C hs) hd (kk H locs ls hP hD hS hl)
theorem wd_min (C : Cx X K cc nL own rm) {i : Nat} {x y : Int32} (hw : Cond.methodLink own i Lib.Math.min.name ∈ TW) (hfr : 1 ≤ rm.frames) (hlo : (st.map fun v => v.category).sum + 13 ≤ rm.locals) (hc : cells ≤ rm.cells) (hs : slots ≤ rm.slots) (hd : decode cc pc = .ok (.invokestatic i, 3)) (kk : WD X K nL cells slots wd lv (pc + 3) (.int (if y < x then y else x) :: st)) : WD X K nL cells slots wd lv pc (.int y :: .int x :: st) :=
  fun H locs ls hP hD hS hl => va_mmin C.1 C.2.1 (C.2.2.1.trans hl.1.symm) C.2.2.2.1 (C.2.2.2.2.1 _ hw) (C.2.2.2.2.1 _ tw_mn1) (C.2.2.2.2.1 _ tw_mx2) (C.2.2.2.2.1 _ tw_mn3) (Cx.fr C hfr) (Cx.lo C hlo) (Cx.ce C hc) (Cx.sl C hs) hd (kk H locs ls hP hD hS hl)
/-- the value on top, the locals, the world by another name -/
theorem wd_eq {wd' : va_W} {lv' : List (Nat × Value)} {st' : List Value} (h1 : wd = wd') (h2 : lv = lv') (h3 : st = st') (k : WD X K nL cells slots wd' lv' pc st') : WD X K nL cells slots wd lv pc st := by
  subst h1; subst h2; subst h3; exact k
/-- locals by their places -/
theorem wd_lv (ks : List Nat) (lv' : List (Nat × Value)) (h : lv_pick lv ks = lv') (k : WD X K nL cells slots wd lv' pc st) : WD X K nL cells slots wd lv pc st :=
  fun H locs ls hP hD hS hl => k H locs ls hP hD hS (lv_sub hl ks h)
end CORE
/-! ===== contracts: from the world wd, with the arguments avs, the method answers res and leaves the world wd' ===== -/
def Qm (K : KX) (res : Option Value) (wd wd' : va_W) (sz : Nat) : Array Value → State → Outcome → State → Prop := fun _ s o t =>
  (o = .returned res ∧ va_P K.1 vwCl wd' t.heap ∧ va_K K.1 vwCl (ty3 K) t ∧ va_D (va_A wd sz) wd') ∧ va_F (va_A wd sz) s t
def Pm (K : KX) (avs : List Value) (wd : va_W) (sz : Nat) : Array Value → State → Prop :=
  va_Pc avs (fun U => U.heap.size = sz ∧ va_P K.1 vwCl wd U.heap ∧ va_K K.1 vwCl (ty3 K) U ∧ va_D (fun _ => True) wd)
def Mt (l : Launch) (K : KX) (y : MethodName) (cc : ByteArray) (nL : Nat) (ret : Option FieldType) (rm : Room) (avs : List Value) (wd : va_W) (res : Option Value) (wd' : va_W) : Prop :=
  ∀ sz : Nat, Met l y (.code y cc nL ret :: TW) rm (Pm K avs wd sz) (Qm K res wd wd' sz) 0 0 (va_A wd sz)
theorem Pm_blind {K : KX} {avs : List Value} {wd : va_W} {sz : Nat} : FrameBlind (Pm K avs wd sz) := fun a U g mk q => by
  obtain ⟨q0, q1, qP, qK, qD⟩ := q
  exact ⟨q0, q1, qP, va_K.moved (u := U) (U := U.calling g mk a) (Vm.Alike.refl U.vm) qK, qD⟩
section OF
variable {l : Launch} {K : KX} {y : MethodName} {cc : ByteArray} {nL : Nat} {rm : Room} {avs : List Value} {wd wd' : va_W}
theorem Mt.start {ret : Option FieldType} {res : Option Value} (hy : plainName y.cls = true) (hav : (lg_sl avs).length ≤ nL)
    (body : ∀ (X : WX), Cx X K cc nL y.cls rm → X.2.2.2.2.2.2.2.2.1.sig.returnType = ret → X.2.2.2.2.2.2.2.2.1.locks = false → X.2.2.2.2.2.2.2.2.1.name = y.name →
      X.2.2.2.2.2.2.2.2.2.2.1 = MQ X.2.2.2.2.2.2.2.1 (Qm K res wd wd' (xs X).heap.size) (xa X) (xs X) 0 0 (va_A wd (xs X).heap.size) → xA X = va_A wd (xs X).heap.size → WD X K nL 0 0 wd (lv_args 0 avs) 0 []) :
    Mt l K y cc nL ret rm avs wd res wd' := by
  intro sz
  refine Met.ofW (cc := cc) (maxL := nL) (ret := ret) hy rfl ?_
  intro p e s m args below meth c s₁ B hml hv
  obtain ⟨rfl, hsz, hP, hK, hD0⟩ := hv
  subst hsz
  have hts := atoms_spec (ws := .code y cc nL ret :: TW) B.pre
  have hown : s.vm.findClass y.cls = some m.cls := findClass_of_methodNamed B.named
  have hk := body (p, l, e, rm, s, m, avs.toArray, below, meth, c, MQ below (Qm K res wd wd' s.heap.size) avs.toArray s 0 0 (va_A wd s.heap.size), va_A wd s.heap.size)
    ⟨B.exec, B.bytes, hml, hown, fun w h => hts w (List.mem_cons_of_mem _ h), hK, fun q h => Or.inr h, rfl⟩ B.returns B.notSynchronized (name_of_methodNamed B.named B.method).1 rfl rfl
  have hl := lv_entry avs (n := nL) hav
  rw [lg_entry_eq]
  exact hk s.heap [] _ hP hD0.self va_S.rf hl
variable {X : WX} {cells slots : Nat}
theorem wd_vret {own : String} {res : Option Value} (C : Cx X K cc nL own rm) (hr : (xM X).sig.returnType = none) (hlk : (xM X).locks = false) (hQ : X.2.2.2.2.2.2.2.2.2.2.1 = MQ X.2.2.2.2.2.2.2.1 (Qm K none wd wd' (xs X).heap.size) (xa X) (xs X) cells slots (va_A wd (xs X).heap.size)) (hA : xA X = va_A wd (xs X).heap.size)
    {w : va_W} {lv : List (Nat × Value)} {pc : Nat} (hw : w = wd') (hd : decode cc pc = .ok (.return_, 1)) : WD X K nL cells slots w lv pc [] := by
  subst hw
  obtain ⟨p, l, e, R, s, m, args, below, meth, c, Q, A⟩ := X
  replace hQ : Q = MQ below (Qm K none wd w s.heap.size) args s cells slots (va_A wd s.heap.size) := hQ
  replace hA : A = va_A wd s.heap.size := hA
  subst hQ; subst hA
  replace hlk : meth.locks = false := hlk
  intro H locs ls hP hD hS hl
  exact W.vret C.1 C.2.1 hr (fun t ht hW => ⟨⟨rfl, by rw [ht]; exact hP, va_K.moved hW.alike C.2.2.2.2.2.1, hD⟩, hS.F ht⟩) hS.2.2 hd
theorem wd_iret {own : String} {r v : Int32} {ty : FieldType} (C : Cx X K cc nL own rm) (hr : (xM X).sig.returnType = some ty) (hlk : (xM X).locks = false) (hQ : X.2.2.2.2.2.2.2.2.2.2.1 = MQ X.2.2.2.2.2.2.2.1 (Qm K (some (.int r)) wd wd' (xs X).heap.size) (xa X) (xs X) cells slots (va_A wd (xs X).heap.size)) (hA : xA X = va_A wd (xs X).heap.size)
    {w : va_W} {lv : List (Nat × Value)} {pc : Nat} (hn : narrow ty (.int v) = .int v) (hv : v = r) (hw : w = wd') (hd : decode cc pc = .ok (.ireturn, 1)) : WD X K nL cells slots w lv pc [.int v] := by
  subst hw; subst hv
  obtain ⟨p, l, e, R, s, m, args, below, meth, c, Q, A⟩ := X
  replace hQ : Q = MQ below (Qm K (some (.int v)) wd w s.heap.size) args s cells slots (va_A wd s.heap.size) := hQ
  replace hA : A = va_A wd s.heap.size := hA
  subst hQ; subst hA
  replace hlk : meth.locks = false := hlk
  intro H locs ls hP hD hS hl
  exact W.zret C.1 C.2.1 hr hn (fun t ht hW => ⟨⟨rfl, by rw [ht]; exact hP, va_K.moved hW.alike C.2.2.2.2.2.1, hD⟩, hS.F ht⟩) hS.2.2 hd
theorem wd_aret {own : String} {r v : Nat} {ty : FieldType} (C : Cx X K cc nL own rm) (hr : (xM X).sig.returnType = some ty) (hty : ∃ n, ty = .object n) (hlk : (xM X).locks = false) (hQ : X.2.2.2.2.2.2.2.2.2.2.1 = MQ X.2.2.2.2.2.2.2.1 (Qm K (some (.ref r)) wd wd' (xs X).heap.size) (xa X) (xs X) cells slots (va_A wd (xs X).heap.size)) (hA : xA X = va_A wd (xs X).heap.size)
    {w : va_W} {lv : List (Nat × Value)} {pc : Nat} (hv : v = r) (hw : w = wd') (hd : decode cc pc = .ok (.areturn, 1)) : WD X K nL cells slots w lv pc [.ref v] := by
  subst hw; subst hv
  obtain ⟨p, l, e, R, s, m, args, below, meth, c, Q, A⟩ := X
  replace hQ : Q = MQ below (Qm K (some (.ref v)) wd w s.heap.size) args s cells slots (va_A wd s.heap.size) := hQ
  replace hA : A = va_A wd s.heap.size := hA
  subst hQ; subst hA
  replace hlk : meth.locks = false := hlk
  intro H locs ls hP hD hS hl
  exact W.aret C.1 C.2.1 hr (Or.inl hty) (Or.inr ⟨_, rfl⟩) (fun t ht hW => ⟨⟨rfl, by rw [ht]; exact hP, va_K.moved hW.alike C.2.2.2.2.2.1, hD⟩, hS.F ht⟩) hS.2.2 hd
/-- a method without answer -/
theorem Mt.v (hy : plainName y.cls = true) (hav : (lg_sl avs).length ≤ nL) (body : ∀ (X : WX), Cx X K cc nL y.cls rm → (∀ (w : va_W) (lv : List (Nat × Value)) (pc : Nat), w = wd' → decode cc pc = .ok (.return_, 1) → WD X K nL 0 0 w lv pc []) → WD X K nL 0 0 wd (lv_args 0 avs) 0 []) :
    Mt l K y cc nL none rm avs wd none wd' :=
  Mt.start hy hav (fun X C hr hlk _ hQ hA => body X C (fun _ _ _ hw hd => wd_vret (res := none) C hr hlk hQ hA hw hd))
/-- a method that answers an int -/
theorem Mt.i {r : Int32} (hy : plainName y.cls = true) (hav : (lg_sl avs).length ≤ nL) (body : ∀ (X : WX), Cx X K cc nL y.cls rm → (∀ (v : Int32) (w : va_W) (lv : List (Nat × Value)) (pc : Nat), v = r → w = wd' → decode cc pc = .ok (.ireturn, 1) → WD X K nL 0 0 w lv pc [.int v]) → WD X K nL 0 0 wd (lv_args 0 avs) 0 []) :
    Mt l K y cc nL (some .int) rm avs wd (some (.int r)) wd' :=
  Mt.start hy hav (fun X C hr hlk _ hQ hA => body X C (fun _ _ _ _ hv hw hd => wd_iret C hr hlk hQ hA rfl hv hw hd))
theorem nar_b (b : Bool) : narrow .boolean (.int (b2i b)) = .int (b2i b) := by cases b <;> rfl
theorem fit_b (b : Bool) : fits .boolean (.int (b2i b)) = true := by cases b <;> rfl
/-- a method that answers a boolean -/
theorem Mt.z {r : Bool} (hy : plainName y.cls = true) (hav : (lg_sl avs).length ≤ nL) (body : ∀ (X : WX), Cx X K cc nL y.cls rm → (∀ (v : Bool) (w : va_W) (lv : List (Nat × Value)) (pc : Nat), v = r → w = wd' → decode cc pc = .ok (.ireturn, 1) → WD X K nL 0 0 w lv pc [.int (b2i v)]) → WD X K nL 0 0 wd (lv_args 0 avs) 0 []) :
    Mt l K y cc nL (some .boolean) rm avs wd (some (.int (b2i r))) wd' :=
  Mt.start hy hav (fun X C hr hlk _ hQ hA => body X C (fun _ _ _ _ hv hw hd => wd_iret C hr hlk hQ hA (nar_b _) (by rw [hv]) hw hd))
/-- a method that answers a reference -/
theorem Mt.a {r : Nat} {n : String} (hy : plainName y.cls = true) (hav : (lg_sl avs).length ≤ nL) (body : ∀ (X : WX), Cx X K cc nL y.cls rm → (∀ (v : Nat) (w : va_W) (lv : List (Nat × Value)) (pc : Nat), v = r → w = wd' → decode cc pc = .ok (.areturn, 1) → WD X K nL 0 0 w lv pc [.ref v]) → WD X K nL 0 0 wd (lv_args 0 avs) 0 []) :
    Mt l K y cc nL (some (.object n)) rm avs wd (some (.ref r)) wd' :=
  Mt.start hy hav (fun X C hr hlk _ hQ hA => body X C (fun _ _ _ _ hv hw hd => wd_aret C hr ⟨_, rfl⟩ hlk hQ hA hv hw hd))
end OF
/-! ===== calls: the callee's contract speaks of the whole world in sight ===== -/
theorem tw_GoodIn : ∀ w ∈ TW, (w.onTables && w.keeps) = true ∨ ∃ ty, w = .arrayClass ty := fun w h => good_of_word (tw_good w h)
section CALL
variable {X : WX} {K : KX} {cc : ByteArray} {nL cells slots : Nat} {own : String} {rm : Room} {wd wd' : va_W} {lv : List (Nat × Value)} {pc : Nat} {st : List Value}
theorem wd_hws (C : Cx X K cc nL own rm) {y : MethodName} {bytes : ByteArray} {maxL : Nat} {ret : Option FieldType} (hcode : Cond.code y bytes maxL ret ∈ TW) : ∀ w ∈ (Cond.code y bytes maxL ret :: TW), ∀ (a' : Array Value) (U : State), (xs X).WarmedH U.vm → w.before a' U = true :=
  fun w h a' U hW => by
    have hw : w ∈ TW := (List.mem_cons.mp h).elim (fun e => by rw [e]; exact hcode) id
    exact word_at hW (tw_GoodIn w hw) (C.2.2.2.2.1 w hw)
/-- behind a call -/
theorem wd_back (C : Cx X K cc nL own rm) {res : Option Value} {a : Array Value} {H : Heap} {locs : List Loc} {ls : Array Slot} {st0 : List Value} (hP : va_P K.1 vwCl wd H) (hD : va_D (xA X) wd) (hS : va_S (xA X) (xs X).heap H locs) (hl : lv_has ls nL lv)
    (hr : va_Run X.1 X.2.1 X.2.2.1 X.2.2.2.1 X.2.2.2.2.1 X.2.2.2.2.2.1 X.2.2.2.2.2.2.1 X.2.2.2.2.2.2.2.1 X.2.2.2.2.2.2.2.2.1 X.2.2.2.2.2.2.2.2.2.1 H locs cells slots 0 0 (F0 (xm X) pc ls st0) st (Qm K res wd wd' H.size a) (va_A wd H.size))
    (kk : WD X K nL cells slots wd' lv (pc + 3) (res.toList ++ st)) : xW X H locs cells slots (F0 (xm X) pc ls st0) := by
  intro T hT XX
  obtain ⟨v, st₀, t, T', L, h0, X', hL, e1, e2, ⟨⟨hv, hP1, hK1, hD1⟩, hz, hk⟩, stp⟩ := hr T hT XX
  cases hv
  rw [h0] at hz hk
  have hA : ∀ q, va_A wd H.size q → xA X q := fun q h => by
    rcases h with ⟨k, e, h⟩ | h
    · exact hD.2 k (q, e) h
    · exact C.2.2.2.2.2.2.1 q (Nat.le_trans hS.1 h)
  rw [← e1] at hP1 hz hk
  have hS1 : va_S (xA X) (xs X).heap T'.heap (locs ++ L) := ⟨Nat.le_trans hS.1 hz, fun q h1 h2 => by rw [hk q (Nat.lt_of_lt_of_le h1 hS.1) (fun z => h2 (hA q z))]; exact hS.2.1 q h1 h2, fun q hq => by
      rcases List.mem_append.mp hq with h | h
      · exact hS.2.2 q h
      · exact hA _ (hL q h)⟩
  obtain ⟨t2, a1, b1⟩ := kk T'.heap (locs ++ L) ls hP1 (hD1.weaken (fun _ q _ h => hA q.1 h)) hS1 hl T' rfl X'
  exact ⟨t2, stp t2 a1, b1⟩
theorem wd_pre (C : Cx X K cc nL own rm) {avs : List Value} {H : Heap} (hP : va_P K.1 vwCl wd H) (hD : va_D (xA X) wd) : ∀ U : State, U.heap = H → (xs X).WarmedH U.vm → Pm K avs wd H.size avs.toArray U :=
  fun U hU hW => ⟨rfl, by rw [hU], by rw [hU]; exact hP, va_K.moved hW.alike C.2.2.2.2.2.1, hD.weaken (fun _ _ _ _ => trivial)⟩
/-- invokevirtual -/
theorem wd_callV (C : Cx X K cc nL own rm) {y : MethodName} {bytes : ByteArray} {maxL idx b ci : Nat} {ret : Option FieldType} {rc : Room} {As : List Value} {res : Option Value} {fs : List Value} {q : vw_C} (n : Nat)
    (hM : Mt X.2.1 K y bytes maxL ret rc (.ref b :: As) wd res wd') (q0 : Nat) (he : wd[q0]? = some (b, .inr (ci, fs))) (hc : vwCl[ci]? = some q) (hcq : q.1 = y.cls)
    (hlink : Cond.methodLink own idx y ∈ TW) (hin : Cond.instanceMethod y ∈ TW) (hsel : Cond.selects y.cls y y ∈ TW) (hini : Cond.initialized y.cls ∈ TW) (hcode : Cond.code y bytes maxL ret ∈ TW)
    (hy : y.cls ≠ "java/lang/invoke/MethodHandle" ∧ y.cls ≠ "java/lang/invoke/VarHandle" ∧ (parseMethodDescriptor y.desc).map (fun d => d.parameters.length) = some n) (hn : As.length = n)
    (hR : rc.cells = 0 ∧ rc.slots = 0 ∧ rc.frames + 1 ≤ rm.frames ∧ 8 + (maxL + 11) + rc.locals ≤ rm.locals ∧ cells ≤ rm.cells ∧ slots ≤ rm.slots) (hst : (st.map fun v => v.category).sum ≤ 8)
    (hd : decode cc pc = .ok (.invokevirtual idx, 3)) (st0 : List Value) (hst0 : As.reverse ++ .ref b :: st = st0) (kk : WD X K nL cells slots wd' lv (pc + 3) (res.toList ++ st)) : WD X K nL cells slots wd lv pc st0 := by
  subst hst0
  obtain ⟨h1, h2, h3, h4, h5, h6⟩ := hR
  intro H locs ls hP hD hS hl
  refine wd_back C hP hD hS hl (va_runV (As := As) (rest := st) (bytes := bytes) (maxL := maxL) (ret := ret) (n := n) (C := y.cls) ⟨C.1, C.2.1, C.2.2.1, C.2.2.2.1, C.2.2.2.2.1⟩ (hM H.size)
    ⟨⟨h1, h2, Cx.fr C h3, Cx.lo C h4, wd_hws C hcode, List.mem_cons_self, C.2.2.2.2.1 _ hcode, C.2.2.2.2.1 _ hini, ⟨hy.1, hy.2.1⟩, fun sig h => by have h9 := hy.2.2; rw [h] at h9; exact (Option.some.inj h9).symm, C.2.2.2.2.1 _ hlink⟩, C.2.2.2.2.1 _ hin, C.2.2.2.2.1 _ hsel⟩
    ⟨Pm_blind, by rw [← hcq]; exact va_recv C.2.2.2.2.2.1 hP hc he, wd_pre C hP hD⟩ rfl hn hl.1 rfl (lv_room hst) hd ⟨Cx.ce C h5, Cx.sl C h6⟩) kk
/-- invokestatic of a method of the same own -/
theorem wd_callS (C : Cx X K cc nL own rm) {y : MethodName} {bytes : ByteArray} {maxL idx : Nat} {ret : Option FieldType} {rc : Room} {As : List Value} {res : Option Value} (n : Nat)
    (hM : Mt X.2.1 K y bytes maxL ret rc As wd res wd')
    (hlink : Cond.methodLink own idx y ∈ TW) (hsta : Cond.static y ∈ TW) (hini : Cond.initialized y.cls ∈ TW) (hcode : Cond.code y bytes maxL ret ∈ TW)
    (hy : y.cls ≠ "java/lang/invoke/MethodHandle" ∧ y.cls ≠ "java/lang/invoke/VarHandle" ∧ (parseMethodDescriptor y.desc).map (fun d => d.parameters.length) = some n) (hn : As.length = n)
    (hR : rc.cells = 0 ∧ rc.slots = 0 ∧ rc.frames + 1 ≤ rm.frames ∧ 8 + (maxL + 11) + rc.locals ≤ rm.locals ∧ cells ≤ rm.cells ∧ slots ≤ rm.slots) (hst : (st.map fun v => v.category).sum ≤ 8)
    (hd : decode cc pc = .ok (.invokestatic idx, 3)) (st0 : List Value) (hst0 : As.reverse ++ st = st0) (kk : WD X K nL cells slots wd' lv (pc + 3) (res.toList ++ st)) : WD X K nL cells slots wd lv pc st0 := by
  subst hst0
  obtain ⟨h1, h2, h3, h4, h5, h6⟩ := hR
  intro H locs ls hP hD hS hl
  refine wd_back C hP hD hS hl (va_runS (As := As) (rest := st) (bytes := bytes) (maxL := maxL) (ret := ret) (n := n) ⟨C.1, C.2.1, C.2.2.1, C.2.2.2.1, C.2.2.2.2.1⟩ (hM H.size)
    ⟨⟨h1, h2, Cx.fr C h3, Cx.lo C h4, wd_hws C hcode, List.mem_cons_self, C.2.2.2.2.1 _ hcode, C.2.2.2.2.1 _ hini, ⟨hy.1, hy.2.1⟩, fun sig h => by have h9 := hy.2.2; rw [h] at h9; exact (Option.some.inj h9).symm, C.2.2.2.2.1 _ hlink⟩, C.2.2.2.2.1 _ hsta⟩
    ⟨Pm_blind, wd_pre C hP hD⟩ rfl hn hl.1 rfl (lv_room hst) hd ⟨Cx.ce C h5, Cx.sl C h6⟩) kk
end CALL
/-! ===== the frame rule at the level of contracts: a contract of some cells is one of a larger world ===== -/
theorem va_A_sub {ws wc : va_W} {sz : Nat} (isC : List Nat) (hC : isC.map (fun i => ws[i]?) = wc.map some) : ∀ q, va_A wc sz q → va_A ws sz q := by
  intro q h
  rcases h with ⟨k, e, h⟩ | h
  · have h1 : (isC.map (fun i => ws[i]?))[k]? = some (some (q, e)) := by rw [hC, List.getElem?_map, h]; rfl
    rw [List.getElem?_map] at h1
    cases hi : isC[k]? with
    | none => rw [hi] at h1; cases h1
    | some i => rw [hi] at h1; exact Or.inl ⟨i, e, Option.some.inj h1⟩
  · exact Or.inr h
theorem Mt.lift {l : Launch} {K : KX} {y : MethodName} {cc : ByteArray} {nL : Nat} {ret : Option FieldType} {rm : Room} {avs : List Value} {wc wc' wr wd wd' : va_W} {res : Option Value} (h : Mt l K y cc nL ret rm avs wc res wc')
    (isC isR pm : List Nat) (hC : isC.map (fun i => wd[i]?) = wc.map some) (hnC : va_nd isC = true) (hR : isR.map (fun i => wd[i]?) = wr.map some) (hn : va_nd isR = true) (hdis : ∀ i ∈ isR, i ∉ isC) (hp : pm.map (fun i => (wr ++ wc')[i]?) = wd'.map some) (hnp : va_nd pm = true) :
    Mt l K y cc nL ret rm avs wd res wd' := by
  have sub : ∀ {D : va_G} {H : Heap} {is : List Nat} {w w2 : va_W}, is.map (fun i => w[i]?) = w2.map some → va_P D vwCl w H → va_P D vwCl w2 H := by
    intro D H is w w2 hs hP k q hq
    have h1 : (is.map (fun i => w[i]?))[k]? = some (some q) := by rw [hs, List.getElem?_map, hq]; rfl
    rw [List.getElem?_map] at h1
    cases hi : is[k]? with
    | none => rw [hi] at h1; cases h1
    | some i => rw [hi] at h1; exact hP i q (Option.some.inj h1)
  intro sz
  refine MetFree.mono (h sz) ?_ (fun _ _ _ _ _ z => z) ?_
  · intro a s hv
    obtain ⟨h0, h1, hP, hK, hD⟩ := hv
    exact ⟨h0, h1, sub hC hP, hK, hD.sub isC hnC hC⟩
  · intro a s o t hv hq
    obtain ⟨h0, h1, hP, hK, hD⟩ := hv
    obtain ⟨⟨⟨ho, hP1, hK1, hD1⟩, hz, hk⟩, L, hF, hL⟩ := hq
    subst h1
    have hA := va_A_sub (sz := s.heap.size) isC hC
    obtain ⟨hP2, hD2⟩ := va_join (A0 := va_A wd s.heap.size) hP hD.self isC isR hC hR hn hdis hk hA hP1 hD1
    exact ⟨⟨⟨ho, sub hp hP2, hK1, hD2.sub pm hnp hp⟩, hz, fun q h2 h3 => hk q h2 (fun z => h3 (hA q z))⟩, L, hF, fun q hq => hA _ (hL q hq)⟩
/-! ===== switches ===== -/
def swT (dflt lo hi : Int) (offs : Array Int) (x : Int) : Int := if x < lo ∨ hi < x then dflt else (offs[(x - lo).toNat]?).getD dflt
theorem swT_d {dflt lo hi : Int} {offs : Array Int} {x : Int} (ks : List Int) (hks : ∀ k ∈ ks, ¬ x = k) (hchk : (List.range offs.size).all (fun n => decide ((offs[n]?).getD dflt = dflt) || decide ((lo + n) ∈ ks)) = true) : swT dflt lo hi offs x = dflt := by
  unfold swT
  by_cases h : x < lo ∨ hi < x
  · rw [if_pos h]
  · rw [if_neg h]
    by_cases hs : (x - lo).toNat < offs.size
    · have h1 := List.all_eq_true.mp hchk (x - lo).toNat (List.mem_range.mpr hs)
      rcases Bool.or_eq_true_iff.mp h1 with h2 | h2
      · exact of_decide_eq_true h2
      · have h3 := of_decide_eq_true h2
        exact absurd (show x = lo + ((x - lo).toNat : Int) by omega) (hks _ h3)
    · rw [Array.getElem?_eq_none (by omega)]; rfl
section SW
variable {X : WX} {K : KX} {cc : ByteArray} {nL cells slots : Nat} {own : String} {rm : Room} {wd : va_W} {lv : List (Nat × Value)} {pc : Nat} {st : List Value}
theorem wd_tsw (C : Cx X K cc nL own rm) {dflt lo hi : Int} {offs : Array Int} {len : Nat} {x : Int32} (tgt : Nat) (hd : decode cc pc = .ok (.tableswitch dflt lo hi offs, len)) (hsz : (hi - lo + 1).toNat = offs.size) (ht : (pc : Int) + swT dflt lo hi offs x.toInt = (tgt : Int)) (k : WD X K nL cells slots wd lv tgt st) : WD X K nL cells slots wd lv pc (.int x :: st) := by
  intro H locs ls hP hD hS hl
  unfold swT at ht
  by_cases h : x.toInt < lo ∨ hi < x.toInt
  · rw [if_pos h] at ht
    exact lv_tableOut C.1 C.2.1 hd h ht (k H locs ls hP hD hS hl)
  · rw [if_neg h] at ht
    have hlt : (x.toInt - lo).toNat < offs.size := by omega
    rw [Array.getElem?_eq_getElem hlt] at ht
    exact lv_tableIn C.1 C.2.1 hd (fun z => h (Or.inl z)) (fun z => h (Or.inr z)) (Array.getElem?_eq_getElem hlt) ht (k H locs ls hP hD hS hl)
theorem wd_lsw (C : Cx X K cc nL own rm) {dflt : Int} {ps : Array (Int × Int)} {len : Nat} {x : Int32} {off : Int} (tgt : Nat) (hd : decode cc pc = .ok (.lookupswitch dflt ps, len)) (hp : (ps.toList.zip (ps.toList.drop 1)).all (fun (a, next) => a.1 < next.1) = true) (ho : Op.lookupswitch.offset ps.toList dflt x.toInt = off) (ht : (pc : Int) + off = (tgt : Int)) (k : WD X K nL cells slots wd lv tgt st) : WD X K nL cells slots wd lv pc (.int x :: st) :=
  fun H locs ls hP hD hS hl => lv_lookup C.1 C.2.1 hd hp ho ht (k H locs ls hP hD hS hl)
end SW
theorem Mt.liftF {l : Launch} {K : KX} {y : MethodName} {cc : ByteArray} {nL : Nat} {ret : Option FieldType} {rm : Room} {avs : List Value} {wc wc' wd wd' : va_W} {res : Option Value} (h : Mt l K y cc nL ret rm avs wc res wc')
    (isC isR pm : List Nat) (hC : isC.map (fun i => wd[i]?) = wc.map some) (hnC : va_nd isC = true) (hR : isR.map (fun i => wd[i]?) = (isR.filterMap (fun i => wd[i]?)).map some) (hn : va_nd isR = true) (hdis : ∀ i ∈ isR, i ∉ isC) (hp : pm.map (fun i => ((isR.filterMap (fun i => wd[i]?)) ++ wc')[i]?) = wd'.map some) (hnp : va_nd pm = true) :
    Mt l K y cc nL ret rm avs wd res wd' := h.lift isC isR pm hC hnC hR hn hdis hp hnp

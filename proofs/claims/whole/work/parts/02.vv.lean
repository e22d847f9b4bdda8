/-! The walker's own judgement: vv = W over a world, listed locals, a pc and a stack; every row turns vv at an instruction into vv at the next. -/
def vv (p : Program) (l : Launch) (e : Env) (R : Room) (s : State) (m : MethodId) (args : Array Value) (below : List Frame) (meth : Method) (c : Code) (nL : Nat) (D : va_G) (cl : List vw_C) (A : Nat → Prop) (Z : Heap → List Loc → Prop) (cells slots : Nat) (Q : State → Prop) (w : va_W) (lv : List (Nat × Value)) (pc : Nat) (st : List Value) : Prop :=
  ∀ (H : Heap) (locs : List Loc) (ls : Array Slot), Z H locs → lv_has ls nL lv → va_P D cl w H → va_D A w → va_S A s.heap H locs → W p l e R s m args below meth c H locs cells slots Q (F0 m pc ls st)
def vc (p : Program) (s : State) (m : MethodId) (args : Array Value) (meth : Method) (c : Code) (cc : ByteArray) (nL : Nat) (D : va_G) (cl : List vw_C) (tys : List (ClassId × FieldType)) (A : Nat → Prop) (Ts : List Cond) (own : String) : Prop :=
  p.tables.exec = Jvm.exec ∧ c.code = cc ∧ c.maxLocals = nL ∧ s.vm.findClass own = some m.cls ∧ (∀ w ∈ Ts, w.before args s = true) ∧ va_K D cl tys s ∧ (∀ q, s.heap.size ≤ q → A q) ∧ meth.locks = false
/-- the mode in which nothing is known of the heap but the world; and the one in which nothing has been written -/
abbrev vT : Heap → List Loc → Prop := fun _ _ => True
abbrev vR (s : State) : Heap → List Loc → Prop := fun H locs => H = s.heap ∧ locs = []
/-- a method's start: a world, its tables, its size -/
def wP (D : va_G) (cl : List vw_C) (tys : List (ClassId × FieldType)) (w : va_W) (sz : Nat) (U : State) : Prop := U.heap.size = sz ∧ va_P D cl w U.heap ∧ va_K D cl tys U ∧ va_D (fun _ => True) w
/-- a world behind a method -/
def wB (D : va_G) (cl : List vw_C) (tys : List (ClassId × FieldType)) (A : Nat → Prop) (w : va_W) (t : State) : Prop := va_P D cl w t.heap ∧ va_K D cl tys t ∧ va_D A w
/-- contracts by values: from the world w with the arguments av it answers r and leaves the world w1 -/
def Ki (l : Launch) (y : MethodName) (ws : List Cond) (rm : Room) (D : va_G) (cl : List vw_C) (tys : List (ClassId × FieldType)) (av : List Value) (w : va_W) (r : Int32) (w1 : va_W) : Prop :=
  ∀ sz : Nat, Met l y ws rm (va_Pc av (wP D cl tys w sz)) (va_Qi (fun (x : Int32) (_ : Unit) => x = r) (fun _ => wB D cl tys (va_A w sz) w1) (va_A w sz)) 0 0 (va_A w sz)
def Kv (l : Launch) (y : MethodName) (ws : List Cond) (rm : Room) (D : va_G) (cl : List vw_C) (tys : List (ClassId × FieldType)) (av : List Value) (w : va_W) (w1 : va_W) : Prop :=
  ∀ sz : Nat, Met l y ws rm (va_Pc av (wP D cl tys w sz)) (va_Qv (fun (_ : Unit) => True) (fun _ => wB D cl tys (va_A w sz) w1) (va_A w sz)) 0 0 (va_A w sz)
/-- a method that only reads: it answers r, the heap is the same -/
def Kr (l : Launch) (y : MethodName) (ws : List Cond) (rm : Room) (D : va_G) (cl : List vw_C) (tys : List (ClassId × FieldType)) (av : List Value) (w : va_W) (r : Int32) : Prop :=
  ∀ sz : Nat, Met l y ws rm (va_Pc av (wP D cl tys w sz)) (fun _ st oc t => oc = .returned (some (.int r)) ∧ t.heap = st.heap) 0 0 (fun _ => False)
theorem wP_blind {D : va_G} {cl : List vw_C} {tys : List (ClassId × FieldType)} {w : va_W} {sz : Nat} {av : List Value} : FrameBlind (va_Pc av (wP D cl tys w sz)) := by
  intro a U g mk q
  obtain ⟨q0, q1, qP, qK, qD⟩ := q
  exact ⟨q0, q1, qP, va_K.moved (u := U) (U := U.calling g mk a) (Vm.Alike.refl U.vm) qK, qD⟩
section VVR
variable {p : Program} {l : Launch} {e : Env} {R : Room} {s : State} {m : MethodId} {args : Array Value} {below : List Frame} {meth : Method} {c : Code} {cells slots : Nat} {Q : State → Prop}
variable {cc : ByteArray} {pc nL : Nat} {st : List Value} {D : va_G} {cl : List vw_C} {tys : List (ClassId × FieldType)} {A : Nat → Prop} {Z : Heap → List Loc → Prop} {w : va_W} {lv : List (Nat × Value)} {Ts : List Cond} {own : String}
theorem v_iconst (C : vc p s m args meth c cc nL D cl tys A Ts own) {n : Int} {v : Int32} (hdg : decode cc pc = .ok (.iconst n, 1)) (hv : Int32.ofInt n = v) (k : vv p l e R s m args below meth c nL D cl A Z cells slots Q w lv (pc + 1) (.int v :: st)) : vv p l e R s m args below meth c nL D cl A Z cells slots Q w lv pc st :=
  fun H locs ls hZ hl hP hD hS => lv_iconst C.1 C.2.1 hdg hv (k H locs ls hZ hl hP hD hS)
theorem v_bipush (C : vc p s m args meth c cc nL D cl tys A Ts own) {n : Int} {v : Int32} (hdg : decode cc pc = .ok (.bipush n, 2)) (hv : (Int8.ofInt n).toInt32 = v) (k : vv p l e R s m args below meth c nL D cl A Z cells slots Q w lv (pc + 2) (.int v :: st)) : vv p l e R s m args below meth c nL D cl A Z cells slots Q w lv pc st :=
  fun H locs ls hZ hl hP hD hS => lv_bipush C.1 C.2.1 hdg hv (k H locs ls hZ hl hP hD hS)
theorem v_sipush (C : vc p s m args meth c cc nL D cl tys A Ts own) {n : Int} {v : Int32} (hdg : decode cc pc = .ok (.sipush n, 3)) (hv : (Int16.ofInt n).toInt32 = v) (k : vv p l e R s m args below meth c nL D cl A Z cells slots Q w lv (pc + 3) (.int v :: st)) : vv p l e R s m args below meth c nL D cl A Z cells slots Q w lv pc st :=
  fun H locs ls hZ hl hP hD hS => lv_sipush C.1 C.2.1 hdg hv (k H locs ls hZ hl hP hD hS)
theorem v_ldc (C : vc p s m args meth c cc nL D cl tys A Ts own) {index : Nat} {v : Int32} (hconst : Cond.constant own index v ∈ Ts) (hdg : decode cc pc = .ok (.ldc index, 2)) (k : vv p l e R s m args below meth c nL D cl A Z cells slots Q w lv (pc + 2) (.int v :: st)) : vv p l e R s m args below meth c nL D cl A Z cells slots Q w lv pc st :=
  fun H locs ls hZ hl hP hD hS => lv_ldc C.1 C.2.1 C.2.2.2.1 (C.2.2.2.2.1 _ hconst) hdg (k H locs ls hZ hl hP hD hS)
theorem v_ldcw (C : vc p s m args meth c cc nL D cl tys A Ts own) {index : Nat} {v : Int32} (hconst : Cond.constant own index v ∈ Ts) (hdg : decode cc pc = .ok (.ldc_w index, 3)) (k : vv p l e R s m args below meth c nL D cl A Z cells slots Q w lv (pc + 3) (.int v :: st)) : vv p l e R s m args below meth c nL D cl A Z cells slots Q w lv pc st :=
  fun H locs ls hZ hl hP hD hS => lv_ldcw C.1 C.2.1 C.2.2.2.1 (C.2.2.2.2.1 _ hconst) hdg (k H locs ls hZ hl hP hD hS)
theorem v_iload_n (C : vc p s m args meth c cc nL D cl tys A Ts own) {j : Fin 4} {i : Nat} {x : Int32} (k : Nat) (hdg : decode cc pc = .ok (.iload_n j, 1)) (hi : (j : Nat) = i) (hk : lv[k]? = some (i, .int x)) (kk : vv p l e R s m args below meth c nL D cl A Z cells slots Q w lv (pc + 1) (.int x :: st)) : vv p l e R s m args below meth c nL D cl A Z cells slots Q w lv pc st :=
  fun H locs ls hZ hl hP hD hS => lv_iload_n C.1 C.2.1 hdg hi (lv_at hl k hk) (kk H locs ls hZ hl hP hD hS)
theorem v_iload (C : vc p s m args meth c cc nL D cl tys A Ts own) {i : Nat} {x : Int32} (k : Nat) (hdg : decode cc pc = .ok (.iload i, 2)) (hk : lv[k]? = some (i, .int x)) (kk : vv p l e R s m args below meth c nL D cl A Z cells slots Q w lv (pc + 2) (.int x :: st)) : vv p l e R s m args below meth c nL D cl A Z cells slots Q w lv pc st :=
  fun H locs ls hZ hl hP hD hS => lv_iload C.1 C.2.1 hdg (lv_at hl k hk) (kk H locs ls hZ hl hP hD hS)
theorem v_aload_n (C : vc p s m args meth c cc nL D cl tys A Ts own) {j : Fin 4} {i : Nat} {x : Nat} (k : Nat) (hdg : decode cc pc = .ok (.aload_n j, 1)) (hi : (j : Nat) = i) (hk : lv[k]? = some (i, .ref x)) (kk : vv p l e R s m args below meth c nL D cl A Z cells slots Q w lv (pc + 1) (.ref x :: st)) : vv p l e R s m args below meth c nL D cl A Z cells slots Q w lv pc st :=
  fun H locs ls hZ hl hP hD hS => lv_aload_n C.1 C.2.1 hdg hi (lv_at hl k hk) (kk H locs ls hZ hl hP hD hS)
theorem v_aload (C : vc p s m args meth c cc nL D cl tys A Ts own) {i : Nat} {x : Nat} (k : Nat) (hdg : decode cc pc = .ok (.aload i, 2)) (hk : lv[k]? = some (i, .ref x)) (kk : vv p l e R s m args below meth c nL D cl A Z cells slots Q w lv (pc + 2) (.ref x :: st)) : vv p l e R s m args below meth c nL D cl A Z cells slots Q w lv pc st :=
  fun H locs ls hZ hl hP hD hS => lv_aload C.1 C.2.1 hdg (lv_at hl k hk) (kk H locs ls hZ hl hP hD hS)
theorem v_istore_n (C : vc p s m args meth c cc nL D cl tys A Ts own) {j : Fin 4} {i : Nat} {x : Int32} {lv' : List (Nat × Value)} (ks : List Nat) (hdg : decode cc pc = .ok (.istore_n j, 1)) (hi : (j : Nat) = i) (hn : i < nL) (hl' : lv_pick ((i, Value.int x) :: lv.filter (fun q => !(q.1 == i) && !(q.1 + 1 == i && q.2.category == 2))) ks = lv') (kk : vv p l e R s m args below meth c nL D cl A Z cells slots Q w lv' (pc + 1) st) : vv p l e R s m args below meth c nL D cl A Z cells slots Q w lv pc (.int x :: st) :=
  fun H locs ls hZ hl hP hD hS => lv_istore_n C.1 C.2.1 hdg hi hl hn rfl (fun ls' h' => kk H locs ls' hZ (lv_sub h' ks hl') hP hD hS)
theorem v_istore (C : vc p s m args meth c cc nL D cl tys A Ts own) {i : Nat} {x : Int32} {lv' : List (Nat × Value)} (ks : List Nat) (hdg : decode cc pc = .ok (.istore i, 2)) (hn : i < nL) (hl' : lv_pick ((i, Value.int x) :: lv.filter (fun q => !(q.1 == i) && !(q.1 + 1 == i && q.2.category == 2))) ks = lv') (kk : vv p l e R s m args below meth c nL D cl A Z cells slots Q w lv' (pc + 2) st) : vv p l e R s m args below meth c nL D cl A Z cells slots Q w lv pc (.int x :: st) :=
  fun H locs ls hZ hl hP hD hS => lv_istore C.1 C.2.1 hdg hl hn rfl (fun ls' h' => kk H locs ls' hZ (lv_sub h' ks hl') hP hD hS)
theorem v_astore_n (C : vc p s m args meth c cc nL D cl tys A Ts own) {j : Fin 4} {i : Nat} {x : Nat} {lv' : List (Nat × Value)} (ks : List Nat) (hdg : decode cc pc = .ok (.astore_n j, 1)) (hi : (j : Nat) = i) (hn : i < nL) (hl' : lv_pick ((i, Value.ref x) :: lv.filter (fun q => !(q.1 == i) && !(q.1 + 1 == i && q.2.category == 2))) ks = lv') (kk : vv p l e R s m args below meth c nL D cl A Z cells slots Q w lv' (pc + 1) st) : vv p l e R s m args below meth c nL D cl A Z cells slots Q w lv pc (.ref x :: st) :=
  fun H locs ls hZ hl hP hD hS => lv_astore_n C.1 C.2.1 hdg hi hl hn rfl (fun ls' h' => kk H locs ls' hZ (lv_sub h' ks hl') hP hD hS)
theorem v_astore (C : vc p s m args meth c cc nL D cl tys A Ts own) {i : Nat} {x : Nat} {lv' : List (Nat × Value)} (ks : List Nat) (hdg : decode cc pc = .ok (.astore i, 2)) (hn : i < nL) (hl' : lv_pick ((i, Value.ref x) :: lv.filter (fun q => !(q.1 == i) && !(q.1 + 1 == i && q.2.category == 2))) ks = lv') (kk : vv p l e R s m args below meth c nL D cl A Z cells slots Q w lv' (pc + 2) st) : vv p l e R s m args below meth c nL D cl A Z cells slots Q w lv pc (.ref x :: st) :=
  fun H locs ls hZ hl hP hD hS => lv_astore C.1 C.2.1 hdg hl hn rfl (fun ls' h' => kk H locs ls' hZ (lv_sub h' ks hl') hP hD hS)
theorem v_iinc (C : vc p s m args meth c cc nL D cl tys A Ts own) {i : Nat} {n : Int} {x v : Int32} {lv' : List (Nat × Value)} (k : Nat) (ks : List Nat) (hdg : decode cc pc = .ok (.iinc i n, 3)) (hk : lv[k]? = some (i, .int x)) (hv : x + Int32.ofInt n = v) (hn : i < nL) (hl' : lv_pick ((i, Value.int v) :: lv.filter (fun q => !(q.1 == i) && !(q.1 + 1 == i && q.2.category == 2))) ks = lv') (kk : vv p l e R s m args below meth c nL D cl A Z cells slots Q w lv' (pc + 3) st) : vv p l e R s m args below meth c nL D cl A Z cells slots Q w lv pc st :=
  fun H locs ls hZ hl hP hD hS => lv_iinc C.1 C.2.1 hdg hl hk hv hn rfl (fun ls' h' => kk H locs ls' hZ (lv_sub h' ks hl') hP hD hS)
/-- fewer locals, in another order -/
theorem v_loc {lv' : List (Nat × Value)} (ks : List Nat) (hl' : lv_pick lv ks = lv') (kk : vv p l e R s m args below meth c nL D cl A Z cells slots Q w lv' pc st) : vv p l e R s m args below meth c nL D cl A Z cells slots Q w lv pc st :=
  fun H locs ls hZ hl hP hD hS => kk H locs ls hZ (lv_sub hl ks hl') hP hD hS
/-- the top of the stack by an equal number -/
theorem v_top {x y : Int32} (h : x = y) (kk : vv p l e R s m args below meth c nL D cl A Z cells slots Q w lv pc (.int y :: st)) : vv p l e R s m args below meth c nL D cl A Z cells slots Q w lv pc (.int x :: st) := h ▸ kk
theorem v_iadd (C : vc p s m args meth c cc nL D cl tys A Ts own) {x y : Int32} (hdg : decode cc pc = .ok (.iadd, 1)) (k : vv p l e R s m args below meth c nL D cl A Z cells slots Q w lv (pc + 1) (.int (x + y) :: st)) : vv p l e R s m args below meth c nL D cl A Z cells slots Q w lv pc (.int y :: .int x :: st) :=
  fun H locs ls hZ hl hP hD hS => lv_iadd C.1 C.2.1 hdg (k H locs ls hZ hl hP hD hS)
theorem v_isub (C : vc p s m args meth c cc nL D cl tys A Ts own) {x y : Int32} (hdg : decode cc pc = .ok (.isub, 1)) (k : vv p l e R s m args below meth c nL D cl A Z cells slots Q w lv (pc + 1) (.int (x - y) :: st)) : vv p l e R s m args below meth c nL D cl A Z cells slots Q w lv pc (.int y :: .int x :: st) :=
  fun H locs ls hZ hl hP hD hS => lv_isub C.1 C.2.1 hdg (k H locs ls hZ hl hP hD hS)
theorem v_imul (C : vc p s m args meth c cc nL D cl tys A Ts own) {x y : Int32} (hdg : decode cc pc = .ok (.imul, 1)) (k : vv p l e R s m args below meth c nL D cl A Z cells slots Q w lv (pc + 1) (.int (x * y) :: st)) : vv p l e R s m args below meth c nL D cl A Z cells slots Q w lv pc (.int y :: .int x :: st) :=
  fun H locs ls hZ hl hP hD hS => lv_imul C.1 C.2.1 hdg (k H locs ls hZ hl hP hD hS)
theorem v_iand (C : vc p s m args meth c cc nL D cl tys A Ts own) {x y : Int32} (hdg : decode cc pc = .ok (.iand, 1)) (k : vv p l e R s m args below meth c nL D cl A Z cells slots Q w lv (pc + 1) (.int (x &&& y) :: st)) : vv p l e R s m args below meth c nL D cl A Z cells slots Q w lv pc (.int y :: .int x :: st) :=
  fun H locs ls hZ hl hP hD hS => lv_iand C.1 C.2.1 hdg (k H locs ls hZ hl hP hD hS)
theorem v_ior (C : vc p s m args meth c cc nL D cl tys A Ts own) {x y : Int32} (hdg : decode cc pc = .ok (.ior, 1)) (k : vv p l e R s m args below meth c nL D cl A Z cells slots Q w lv (pc + 1) (.int (x ||| y) :: st)) : vv p l e R s m args below meth c nL D cl A Z cells slots Q w lv pc (.int y :: .int x :: st) :=
  fun H locs ls hZ hl hP hD hS => lv_ior C.1 C.2.1 hdg (k H locs ls hZ hl hP hD hS)
theorem v_ixor (C : vc p s m args meth c cc nL D cl tys A Ts own) {x y : Int32} (hdg : decode cc pc = .ok (.ixor, 1)) (k : vv p l e R s m args below meth c nL D cl A Z cells slots Q w lv (pc + 1) (.int (x ^^^ y) :: st)) : vv p l e R s m args below meth c nL D cl A Z cells slots Q w lv pc (.int y :: .int x :: st) :=
  fun H locs ls hZ hl hP hD hS => lv_ixor C.1 C.2.1 hdg (k H locs ls hZ hl hP hD hS)
theorem v_ishl (C : vc p s m args meth c cc nL D cl tys A Ts own) {x y : Int32} (hdg : decode cc pc = .ok (.ishl, 1)) (k : vv p l e R s m args below meth c nL D cl A Z cells slots Q w lv (pc + 1) (.int (x <<< (y &&& 31)) :: st)) : vv p l e R s m args below meth c nL D cl A Z cells slots Q w lv pc (.int y :: .int x :: st) :=
  fun H locs ls hZ hl hP hD hS => lv_ishl C.1 C.2.1 hdg (k H locs ls hZ hl hP hD hS)
theorem v_ishr (C : vc p s m args meth c cc nL D cl tys A Ts own) {x y : Int32} (hdg : decode cc pc = .ok (.ishr, 1)) (k : vv p l e R s m args below meth c nL D cl A Z cells slots Q w lv (pc + 1) (.int (x >>> (y &&& 31)) :: st)) : vv p l e R s m args below meth c nL D cl A Z cells slots Q w lv pc (.int y :: .int x :: st) :=
  fun H locs ls hZ hl hP hD hS => lv_ishr C.1 C.2.1 hdg (k H locs ls hZ hl hP hD hS)
theorem v_iushr (C : vc p s m args meth c cc nL D cl tys A Ts own) {x y : Int32} (hdg : decode cc pc = .ok (.iushr, 1)) (k : vv p l e R s m args below meth c nL D cl A Z cells slots Q w lv (pc + 1) (.int ((x.toUInt32 >>> (y.toUInt32 &&& Int32.toUInt32 31)).toInt32) :: st)) : vv p l e R s m args below meth c nL D cl A Z cells slots Q w lv pc (.int y :: .int x :: st) :=
  fun H locs ls hZ hl hP hD hS => lv_iushr C.1 C.2.1 hdg rfl (k H locs ls hZ hl hP hD hS)
theorem v_i2l (C : vc p s m args meth c cc nL D cl tys A Ts own) {x : Int32} (hdg : decode cc pc = .ok (.i2l, 1)) (k : vv p l e R s m args below meth c nL D cl A Z cells slots Q w lv (pc + 1) (.long x.toInt64 :: st)) : vv p l e R s m args below meth c nL D cl A Z cells slots Q w lv pc (.int x :: st) :=
  fun H locs ls hZ hl hP hD hS => lv_i2l C.1 C.2.1 hdg rfl (k H locs ls hZ hl hP hD hS)
theorem v_dup (C : vc p s m args meth c cc nL D cl tys A Ts own) {va : Value} (hdg : decode cc pc = .ok (.dup, 1)) (hva : va.category = 1) (k : vv p l e R s m args below meth c nL D cl A Z cells slots Q w lv (pc + 1) (va :: va :: st)) : vv p l e R s m args below meth c nL D cl A Z cells slots Q w lv pc (va :: st) :=
  fun H locs ls hZ hl hP hD hS => lv_dup C.1 C.2.1 hdg hva (k H locs ls hZ hl hP hD hS)
theorem v_dup2 (C : vc p s m args meth c cc nL D cl tys A Ts own) {va vb : Value} (hdg : decode cc pc = .ok (.dup2, 1)) (hva : va.category = 1) (hvb : vb.category = 1) (k : vv p l e R s m args below meth c nL D cl A Z cells slots Q w lv (pc + 1) (va :: vb :: va :: vb :: st)) : vv p l e R s m args below meth c nL D cl A Z cells slots Q w lv pc (va :: vb :: st) :=
  fun H locs ls hZ hl hP hD hS => lv_dup2_11 C.1 C.2.1 hdg hva hvb (k H locs ls hZ hl hP hD hS)
theorem v_pop (C : vc p s m args meth c cc nL D cl tys A Ts own) {va : Value} (hdg : decode cc pc = .ok (.pop, 1)) (hva : va.category = 1) (k : vv p l e R s m args below meth c nL D cl A Z cells slots Q w lv (pc + 1) st) : vv p l e R s m args below meth c nL D cl A Z cells slots Q w lv pc (va :: st) :=
  fun H locs ls hZ hl hP hD hS => lv_pop C.1 C.2.1 hdg hva (k H locs ls hZ hl hP hD hS)
theorem v_goto (C : vc p s m args meth c cc nL D cl tys A Ts own) {off : Int} {tgt : Nat} (hdg : decode cc pc = .ok (.goto off, 3)) (ht : (pc : Int) + off = (tgt : Int)) (k : vv p l e R s m args below meth c nL D cl A Z cells slots Q w lv tgt st) : vv p l e R s m args below meth c nL D cl A Z cells slots Q w lv pc st :=
  fun H locs ls hZ hl hP hD hS => lv_goto C.1 C.2.1 hdg ht (k H locs ls hZ hl hP hD hS)
theorem v_if_eq (C : vc p s m args meth c cc nL D cl tys A Ts own) {x : Int32} {off : Int} {tgt : Nat} (hdg : decode cc pc = .ok (.ifCond .eq off, 3)) (ht : (pc : Int) + off = (tgt : Int)) (kt : x = 0 → vv p l e R s m args below meth c nL D cl A Z cells slots Q w lv tgt st) (kf : ¬ x = 0 → vv p l e R s m args below meth c nL D cl A Z cells slots Q w lv (pc + 3) st) : vv p l e R s m args below meth c nL D cl A Z cells slots Q w lv pc (.int x :: st) :=
  fun H locs ls hZ hl hP hD hS => lv_if_eq C.1 C.2.1 hdg ht (fun h => kt h H locs ls hZ hl hP hD hS) (fun h => kf h H locs ls hZ hl hP hD hS)
theorem v_if_ne (C : vc p s m args meth c cc nL D cl tys A Ts own) {x : Int32} {off : Int} {tgt : Nat} (hdg : decode cc pc = .ok (.ifCond .ne off, 3)) (ht : (pc : Int) + off = (tgt : Int)) (kt : ¬ x = 0 → vv p l e R s m args below meth c nL D cl A Z cells slots Q w lv tgt st) (kf : x = 0 → vv p l e R s m args below meth c nL D cl A Z cells slots Q w lv (pc + 3) st) : vv p l e R s m args below meth c nL D cl A Z cells slots Q w lv pc (.int x :: st) :=
  fun H locs ls hZ hl hP hD hS => lv_if_ne C.1 C.2.1 hdg ht (fun h => kt h H locs ls hZ hl hP hD hS) (fun h => kf h H locs ls hZ hl hP hD hS)
theorem v_if_lt (C : vc p s m args meth c cc nL D cl tys A Ts own) {x : Int32} {off : Int} {tgt : Nat} (hdg : decode cc pc = .ok (.ifCond .lt off, 3)) (ht : (pc : Int) + off = (tgt : Int)) (kt : x < 0 → vv p l e R s m args below meth c nL D cl A Z cells slots Q w lv tgt st) (kf : ¬ x < 0 → vv p l e R s m args below meth c nL D cl A Z cells slots Q w lv (pc + 3) st) : vv p l e R s m args below meth c nL D cl A Z cells slots Q w lv pc (.int x :: st) :=
  fun H locs ls hZ hl hP hD hS => lv_if_lt C.1 C.2.1 hdg ht (fun h => kt h H locs ls hZ hl hP hD hS) (fun h => kf h H locs ls hZ hl hP hD hS)
theorem v_if_ge (C : vc p s m args meth c cc nL D cl tys A Ts own) {x : Int32} {off : Int} {tgt : Nat} (hdg : decode cc pc = .ok (.ifCond .ge off, 3)) (ht : (pc : Int) + off = (tgt : Int)) (kt : 0 ≤ x → vv p l e R s m args below meth c nL D cl A Z cells slots Q w lv tgt st) (kf : ¬ 0 ≤ x → vv p l e R s m args below meth c nL D cl A Z cells slots Q w lv (pc + 3) st) : vv p l e R s m args below meth c nL D cl A Z cells slots Q w lv pc (.int x :: st) :=
  fun H locs ls hZ hl hP hD hS => lv_if_ge C.1 C.2.1 hdg ht (fun h => kt h H locs ls hZ hl hP hD hS) (fun h => kf h H locs ls hZ hl hP hD hS)
theorem v_if_gt (C : vc p s m args meth c cc nL D cl tys A Ts own) {x : Int32} {off : Int} {tgt : Nat} (hdg : decode cc pc = .ok (.ifCond .gt off, 3)) (ht : (pc : Int) + off = (tgt : Int)) (kt : 0 < x → vv p l e R s m args below meth c nL D cl A Z cells slots Q w lv tgt st) (kf : ¬ 0 < x → vv p l e R s m args below meth c nL D cl A Z cells slots Q w lv (pc + 3) st) : vv p l e R s m args below meth c nL D cl A Z cells slots Q w lv pc (.int x :: st) :=
  fun H locs ls hZ hl hP hD hS => lv_if_gt C.1 C.2.1 hdg ht (fun h => kt h H locs ls hZ hl hP hD hS) (fun h => kf h H locs ls hZ hl hP hD hS)
theorem v_if_le (C : vc p s m args meth c cc nL D cl tys A Ts own) {x : Int32} {off : Int} {tgt : Nat} (hdg : decode cc pc = .ok (.ifCond .le off, 3)) (ht : (pc : Int) + off = (tgt : Int)) (kt : x ≤ 0 → vv p l e R s m args below meth c nL D cl A Z cells slots Q w lv tgt st) (kf : ¬ x ≤ 0 → vv p l e R s m args below meth c nL D cl A Z cells slots Q w lv (pc + 3) st) : vv p l e R s m args below meth c nL D cl A Z cells slots Q w lv pc (.int x :: st) :=
  fun H locs ls hZ hl hP hD hS => lv_if_le C.1 C.2.1 hdg ht (fun h => kt h H locs ls hZ hl hP hD hS) (fun h => kf h H locs ls hZ hl hP hD hS)
theorem v_icmp_eq (C : vc p s m args meth c cc nL D cl tys A Ts own) {x y : Int32} {off : Int} {tgt : Nat} (hdg : decode cc pc = .ok (.if_icmp .eq off, 3)) (ht : (pc : Int) + off = (tgt : Int)) (kt : x = y → vv p l e R s m args below meth c nL D cl A Z cells slots Q w lv tgt st) (kf : ¬ x = y → vv p l e R s m args below meth c nL D cl A Z cells slots Q w lv (pc + 3) st) : vv p l e R s m args below meth c nL D cl A Z cells slots Q w lv pc (.int y :: .int x :: st) :=
  fun H locs ls hZ hl hP hD hS => lv_icmp_eq C.1 C.2.1 hdg ht (fun h => kt h H locs ls hZ hl hP hD hS) (fun h => kf h H locs ls hZ hl hP hD hS)
theorem v_icmp_ne (C : vc p s m args meth c cc nL D cl tys A Ts own) {x y : Int32} {off : Int} {tgt : Nat} (hdg : decode cc pc = .ok (.if_icmp .ne off, 3)) (ht : (pc : Int) + off = (tgt : Int)) (kt : ¬ x = y → vv p l e R s m args below meth c nL D cl A Z cells slots Q w lv tgt st) (kf : x = y → vv p l e R s m args below meth c nL D cl A Z cells slots Q w lv (pc + 3) st) : vv p l e R s m args below meth c nL D cl A Z cells slots Q w lv pc (.int y :: .int x :: st) :=
  fun H locs ls hZ hl hP hD hS => lv_icmp_ne C.1 C.2.1 hdg ht (fun h => kt h H locs ls hZ hl hP hD hS) (fun h => kf h H locs ls hZ hl hP hD hS)
theorem v_icmp_lt (C : vc p s m args meth c cc nL D cl tys A Ts own) {x y : Int32} {off : Int} {tgt : Nat} (hdg : decode cc pc = .ok (.if_icmp .lt off, 3)) (ht : (pc : Int) + off = (tgt : Int)) (kt : x < y → vv p l e R s m args below meth c nL D cl A Z cells slots Q w lv tgt st) (kf : ¬ x < y → vv p l e R s m args below meth c nL D cl A Z cells slots Q w lv (pc + 3) st) : vv p l e R s m args below meth c nL D cl A Z cells slots Q w lv pc (.int y :: .int x :: st) :=
  fun H locs ls hZ hl hP hD hS => lv_icmp_lt C.1 C.2.1 hdg ht (fun h => kt h H locs ls hZ hl hP hD hS) (fun h => kf h H locs ls hZ hl hP hD hS)
theorem v_icmp_ge (C : vc p s m args meth c cc nL D cl tys A Ts own) {x y : Int32} {off : Int} {tgt : Nat} (hdg : decode cc pc = .ok (.if_icmp .ge off, 3)) (ht : (pc : Int) + off = (tgt : Int)) (kt : y ≤ x → vv p l e R s m args below meth c nL D cl A Z cells slots Q w lv tgt st) (kf : ¬ y ≤ x → vv p l e R s m args below meth c nL D cl A Z cells slots Q w lv (pc + 3) st) : vv p l e R s m args below meth c nL D cl A Z cells slots Q w lv pc (.int y :: .int x :: st) :=
  fun H locs ls hZ hl hP hD hS => lv_icmp_ge C.1 C.2.1 hdg ht (fun h => kt h H locs ls hZ hl hP hD hS) (fun h => kf h H locs ls hZ hl hP hD hS)
theorem v_icmp_gt (C : vc p s m args meth c cc nL D cl tys A Ts own) {x y : Int32} {off : Int} {tgt : Nat} (hdg : decode cc pc = .ok (.if_icmp .gt off, 3)) (ht : (pc : Int) + off = (tgt : Int)) (kt : y < x → vv p l e R s m args below meth c nL D cl A Z cells slots Q w lv tgt st) (kf : ¬ y < x → vv p l e R s m args below meth c nL D cl A Z cells slots Q w lv (pc + 3) st) : vv p l e R s m args below meth c nL D cl A Z cells slots Q w lv pc (.int y :: .int x :: st) :=
  fun H locs ls hZ hl hP hD hS => lv_icmp_gt C.1 C.2.1 hdg ht (fun h => kt h H locs ls hZ hl hP hD hS) (fun h => kf h H locs ls hZ hl hP hD hS)
theorem v_icmp_le (C : vc p s m args meth c cc nL D cl tys A Ts own) {x y : Int32} {off : Int} {tgt : Nat} (hdg : decode cc pc = .ok (.if_icmp .le off, 3)) (ht : (pc : Int) + off = (tgt : Int)) (kt : x ≤ y → vv p l e R s m args below meth c nL D cl A Z cells slots Q w lv tgt st) (kf : ¬ x ≤ y → vv p l e R s m args below meth c nL D cl A Z cells slots Q w lv (pc + 3) st) : vv p l e R s m args below meth c nL D cl A Z cells slots Q w lv pc (.int y :: .int x :: st) :=
  fun H locs ls hZ hl hP hD hS => lv_icmp_le C.1 C.2.1 hdg ht (fun h => kt h H locs ls hZ hl hP hD hS) (fun h => kf h H locs ls hZ hl hP hD hS)
theorem v_get (C : vc p s m args meth c cc nL D cl tys A Ts own) {ref CN : String} {T : u_T} {N ci index a : Nat} (hin : ∀ x ∈ u_ws CN T N, x ∈ Ts) (q0 : Nat) {fs : List Value} (he : w[q0]? = some (a, .inr (ci, fs))) (hc : cl[ci]? = some (CN, T, N)) (k : Nat) (hk : k < N) (hlink : Cond.fieldLink own index ref (T k).2.1 (T k).2.2.1 ∈ Ts) (href : (T k).1 = ref) {v : Value} (hv : fs[k]? = some v) (hdg : decode cc pc = .ok (.getfield index, 3)) (kk : vv p l e R s m args below meth c nL D cl A Z cells slots Q w lv (pc + 3) (v :: st)) : vv p l e R s m args below meth c nL D cl A Z cells slots Q w lv pc (.ref a :: st) :=
  fun H locs ls hZ hl hP hD hS => va_get C.1 C.2.1 C.2.2.2.2.1 hin C.2.2.2.1 C.2.2.2.2.2.1 hP q0 he hc k hk (C.2.2.2.2.1 _ hlink) (fun x h => by rw [← href]; exact h) hv hdg (kk H locs ls hZ hl hP hD hS)
theorem v_put (C : vc p s m args meth c cc nL D cl tys A Ts own) {ref CN : String} {T : u_T} {N ci index a : Nat} (hin : ∀ x ∈ u_ws CN T N, x ∈ Ts) (ty0 : Nat → FieldType) (hty : ∀ k, k < N → parseFieldDescriptor (T k).2.2.1 = some (ty0 k)) (hnm : ∀ a, a < N → ∀ b, b < N → a ≠ b → (T a).2.1 ≠ (T b).2.1) (q0 : Nat) {fs : List Value} (he : w[q0]? = some (a, .inr (ci, fs))) (hc : cl[ci]? = some (CN, T, N)) (k : Nat) (hk : k < N) (hlink : Cond.fieldLink own index ref (T k).2.1 (T k).2.2.1 ∈ Ts) (href : (T k).1 = ref) (hfin : (T k).2.2.2 = false) {v : Value} (hn : narrow (ty0 k) v = v) (hfit : fits (ty0 k) v = true) (hlen : k < fs.length) (hdg : decode cc pc = .ok (.putfield index, 3)) {w1 : va_W} (hw : w.set q0 (a, .inr (ci, fs.set k v)) = w1) (kk : vv p l e R s m args below meth c nL D cl A vT cells slots Q w1 lv (pc + 3) st) : vv p l e R s m args below meth c nL D cl A Z cells slots Q w lv pc (v :: .ref a :: st) :=
  fun H locs ls hZ hl hP hD hS => va_put C.1 C.2.1 C.2.2.2.2.1 hin ty0 hty hnm C.2.2.2.1 C.2.2.2.2.2.1 hP hD hS q0 he hc k hk (C.2.2.2.2.1 _ hlink) (fun x h => by rw [← href]; exact h) hfin (hty k hk) hn hfit hlen hdg (fun H1 locs1 hP1 hD1 hS1 => kk H1 locs1 ls trivial hl (hw ▸ hP1) (hw ▸ hD1) hS1)
theorem v_putF (C : vc p s m args meth c cc nL D cl tys A Ts own) {ref CN : String} {T : u_T} {N ci index a : Nat} (hin : ∀ x ∈ u_ws CN T N, x ∈ Ts) (ty0 : Nat → FieldType) (hty : ∀ k, k < N → parseFieldDescriptor (T k).2.2.1 = some (ty0 k)) (hnm : ∀ a, a < N → ∀ b, b < N → a ≠ b → (T a).2.1 ≠ (T b).2.1) (q0 : Nat) {fs : List Value} (he : w[q0]? = some (a, .inr (ci, fs))) (hc : cl[ci]? = some (CN, T, N)) (k : Nat) (hk : k < N) (hlink : Cond.fieldLink own index ref (T k).2.1 (T k).2.2.1 ∈ Ts) (href : (T k).1 = ref) (hfin : (T k).2.2.2 = true) (hin2 : meth.name = "<init>") (hdecl : (T k).1 = own) {v : Value} (hn : narrow (ty0 k) v = v) (hfit : fits (ty0 k) v = true) (hlen : k < fs.length) (hdg : decode cc pc = .ok (.putfield index, 3)) {w1 : va_W} (hw : w.set q0 (a, .inr (ci, fs.set k v)) = w1) (kk : vv p l e R s m args below meth c nL D cl A vT cells slots Q w1 lv (pc + 3) st) : vv p l e R s m args below meth c nL D cl A Z cells slots Q w lv pc (v :: .ref a :: st) :=
  fun H locs ls hZ hl hP hD hS => va_putF C.1 C.2.1 C.2.2.2.2.1 hin ty0 hty hnm C.2.2.2.1 C.2.2.2.2.2.1 hP hD hS q0 he hc k hk (C.2.2.2.2.1 _ hlink) (fun x h => by rw [← href]; exact h) hfin hin2 hdecl (hty k hk) hn hfit hlen hdg (fun H1 locs1 hP1 hD1 hS1 => kk H1 locs1 ls trivial hl (hw ▸ hP1) (hw ▸ hD1) hS1)
theorem v_iald (C : vc p s m args meth c cc nL D cl tys A Ts own) (q0 t0 : Nat) {cA : ClassId} {n a : Nat} {f : Nat → Int32} (ha : w[q0]? = some (a, .inl (cA, n, .inl f))) (ht : tys[t0]? = some (cA, .int)) {i y : Int32} {j : Nat} (hj : i.toNatClampNeg = j) (hy : f j = y) (hin : vp_in i n) (hdg : decode cc pc = .ok (.iaload, 1)) (kk : vv p l e R s m args below meth c nL D cl A Z cells slots Q w lv (pc + 1) (.int y :: st)) : vv p l e R s m args below meth c nL D cl A Z cells slots Q w lv pc (.int i :: .ref a :: st) :=
  fun H locs ls hZ hl hP hD hS => va_iald C.1 C.2.1 C.2.2.2.2.2.1 hP q0 t0 ha ht hin hdg (by rw [hj, hy]; exact kk H locs ls hZ hl hP hD hS)
theorem v_zald (C : vc p s m args meth c cc nL D cl tys A Ts own) (q0 t0 : Nat) {cA : ClassId} {n a : Nat} {f : Nat → Int32} (ha : w[q0]? = some (a, .inl (cA, n, .inl f))) (ht : tys[t0]? = some (cA, .boolean)) {i y : Int32} {j : Nat} (hj : i.toNatClampNeg = j) (hy : f j = y) (hin : vp_in i n) (hdg : decode cc pc = .ok (.baload, 1)) (kk : vv p l e R s m args below meth c nL D cl A Z cells slots Q w lv (pc + 1) (.int y :: st)) : vv p l e R s m args below meth c nL D cl A Z cells slots Q w lv pc (.int i :: .ref a :: st) :=
  fun H locs ls hZ hl hP hD hS => va_zald C.1 C.2.1 C.2.2.2.2.2.1 hP q0 t0 ha ht hin hdg (by rw [hj, hy]; exact kk H locs ls hZ hl hP hD hS)
theorem v_lald (C : vc p s m args meth c cc nL D cl tys A Ts own) (q0 t0 : Nat) {cA : ClassId} {n a : Nat} {f : Nat → Int64} (ha : w[q0]? = some (a, .inl (cA, n, .inr (.inl f)))) (ht : tys[t0]? = some (cA, .long)) {i : Int32} {y : Int64} {j : Nat} (hj : i.toNatClampNeg = j) (hy : f j = y) (hin : vp_in i n) (hdg : decode cc pc = .ok (.laload, 1)) (kk : vv p l e R s m args below meth c nL D cl A Z cells slots Q w lv (pc + 1) (.long y :: st)) : vv p l e R s m args below meth c nL D cl A Z cells slots Q w lv pc (.int i :: .ref a :: st) :=
  fun H locs ls hZ hl hP hD hS => va_lald C.1 C.2.1 C.2.2.2.2.2.1 hP q0 t0 ha ht hin hdg (by rw [hj, hy]; exact kk H locs ls hZ hl hP hD hS)
theorem v_iast (C : vc p s m args meth c cc nL D cl tys A Ts own) (q0 t0 : Nat) {cA : ClassId} {n a : Nat} {f : Nat → Int32} (ha : w[q0]? = some (a, .inl (cA, n, .inl f))) (ht : tys[t0]? = some (cA, .int)) {i x : Int32} {j : Nat} {f1 : Nat → Int32} (hj : i.toNatClampNeg = j) (hf : upd f j x = f1) (hin : vp_in i n) (hdg : decode cc pc = .ok (.iastore, 1)) {w1 : va_W} (hw : w.set q0 (a, .inl (cA, n, .inl f1)) = w1) (kk : vv p l e R s m args below meth c nL D cl A vT cells slots Q w1 lv (pc + 1) st) : vv p l e R s m args below meth c nL D cl A Z cells slots Q w lv pc (.int x :: .int i :: .ref a :: st) :=
  fun H locs ls hZ hl hP hD hS => va_iast C.1 C.2.1 C.2.2.2.2.2.1 hP hD hS q0 t0 ha ht hin hdg (fun H1 locs1 hP1 hD1 hS1 => by rw [hj, hf, hw] at hP1 hD1; exact kk H1 locs1 ls trivial hl hP1 hD1 hS1)
theorem v_zast (C : vc p s m args meth c cc nL D cl tys A Ts own) (q0 t0 : Nat) {cA : ClassId} {n a : Nat} {f : Nat → Int32} (ha : w[q0]? = some (a, .inl (cA, n, .inl f))) (ht : tys[t0]? = some (cA, .boolean)) {i x y : Int32} {j : Nat} {f1 : Nat → Int32} (hj : i.toNatClampNeg = j) (hx : vp_nar .boolean x = y) (hf : upd f j y = f1) (hin : vp_in i n) (hdg : decode cc pc = .ok (.bastore, 1)) {w1 : va_W} (hw : w.set q0 (a, .inl (cA, n, .inl f1)) = w1) (kk : vv p l e R s m args below meth c nL D cl A vT cells slots Q w1 lv (pc + 1) st) : vv p l e R s m args below meth c nL D cl A Z cells slots Q w lv pc (.int x :: .int i :: .ref a :: st) :=
  fun H locs ls hZ hl hP hD hS => va_zast C.1 C.2.1 C.2.2.2.2.2.1 hP hD hS q0 t0 ha ht hin hdg (fun H1 locs1 hP1 hD1 hS1 => by rw [hj, hx, hf, hw] at hP1 hD1; exact kk H1 locs1 ls trivial hl hP1 hD1 hS1)
end VVR
theorem fm_of_map {α β : Type} {f : α → Option β} {l : List α} {m : List β} (h : l.map f = m.map some) : l.filterMap f = m := by
  have h1 : l.filterMap f = (l.map f).filterMap id := by rw [List.filterMap_map]; rfl
  rw [h1, h]
  simp
theorem rng_map {α : Type} (w : List α) : (List.range w.length).map (fun i => w[i]?) = w.map some := by
  apply List.ext_getElem?
  intro i
  by_cases h : i < w.length
  · simp [List.getElem?_map, h]
  · simp [List.getElem?_map, h]
/-- THE HEAD OF ANY METHOD -/
theorem v_ent {l : Launch} {y : MethodName} {ws ws' : List Cond} {rm : Room} {D : va_G} {cl : List vw_C} {tys : List (ClassId × FieldType)} {av : List Value} {w : va_W} {sz : Nat} {cc : ByteArray} {maxL mc ms : Nat} {ret : Option FieldType} {Qc : (Nat → Prop) → Array Value → State → Outcome → State → Prop} {fr : (Nat → Prop) → Nat → Prop} {own : String}
    (ho : y.cls = own) (hy : plainName y.cls = true) (hw : ws = Cond.code y cc maxL ret :: ws') (hlen : (lg_sl av).length ≤ maxL) {lv : List (Nat × Value)} (hlv : lv_args 0 av = lv)
    (body : ∀ (p : Program) (e : Env) (s : State) (m : MethodId) (args : Array Value) (below : List Frame) (meth : Method) (c : Code) (A : Nat → Prop), vc p s m args meth c cc maxL D cl tys A ws own → meth.sig.returnType = ret → meth.name = y.name →
      vv p l e (headSpec ws rm).room s m args below meth c maxL D cl A (vR s) 0 0 (MQ below (Qc A) args s mc ms (fr A)) w lv 0 []) :
    Met l y ws rm (va_Pc av (wP D cl tys w sz)) (Qc (va_A w sz)) mc ms (fr (va_A w sz)) := by
  refine Met.ofW (cc := cc) (maxL := maxL) (ret := ret) hy hw ?_
  intro p e s m args below meth c s₁ B hml hv
  obtain ⟨rfl, hsz, hP, hK, hD0⟩ := hv
  subst hsz
  have hts := atoms_spec (ws := ws) B.pre
  have hown : s.vm.findClass own = some m.cls := ho ▸ findClass_of_methodNamed B.named
  rw [lg_entry_eq]
  exact body p e s m _ below meth c (va_A w s.heap.size) ⟨B.exec, B.bytes, hml, hown, hts, hK, fun q h => Or.inr h, B.notSynchronized⟩ B.returns (name_of_methodNamed B.named B.method).1 s.heap [] _ ⟨rfl, rfl⟩ (hlv ▸ lv_entry av hlen) hP hD0.self va_S.rf
section VVC
variable {p : Program} {l : Launch} {e : Env} {R : Room} {s : State} {m : MethodId} {args : Array Value} {below : List Frame} {meth : Method} {c : Code} {cells slots : Nat} {Q : State → Prop}
variable {cc : ByteArray} {pc nL : Nat} {st : List Value} {D : va_G} {cl : List vw_C} {tys : List (ClassId × FieldType)} {A : Nat → Prop} {Z : Heap → List Loc → Prop} {w : va_W} {lv : List (Nat × Value)} {Ts : List Cond} {own : String}
/-- the end: an int -/
theorem v_iret (C : vc p s m args meth c cc nL D cl tys A Ts own) (hr : meth.sig.returnType = some .int) {x r : Int32} (hx : x = r) {w1 : va_W} (hw : w = w1) (hdg : decode cc pc = .ok (.ireturn, 1)) :
    vv p l e R s m args below meth c nL D cl A Z cells slots (MQ below (va_Qi (fun (x : Int32) (_ : Unit) => x = r) (fun _ => wB D cl tys A w1) A) args s cells slots A) w lv pc [.int x] :=
  fun H locs ls hZ hl hP hD hS => W.iret C.1 C.2.1 hr (fun t ht hW => ⟨⟨x, (), rfl, hx, by rw [ht, ← hw]; exact hP, va_K.moved hW.alike C.2.2.2.2.2.1, hw ▸ hD⟩, hS.F ht⟩) hS.2.2 hdg C.2.2.2.2.2.2.2
/-- the end: a boolean (byte, short, char) -/
theorem v_zret (C : vc p s m args meth c cc nL D cl tys A Ts own) {ty : FieldType} (hr : meth.sig.returnType = some ty) {x r : Int32} (hn : narrow ty (.int x) = .int x) (hx : x = r) {w1 : va_W} (hw : w = w1) (hdg : decode cc pc = .ok (.ireturn, 1)) :
    vv p l e R s m args below meth c nL D cl A Z cells slots (MQ below (va_Qi (fun (x : Int32) (_ : Unit) => x = r) (fun _ => wB D cl tys A w1) A) args s cells slots A) w lv pc [.int x] :=
  fun H locs ls hZ hl hP hD hS => W.zret C.1 C.2.1 hr hn (fun t ht hW => ⟨⟨x, (), rfl, hx, by rw [ht, ← hw]; exact hP, va_K.moved hW.alike C.2.2.2.2.2.1, hw ▸ hD⟩, hS.F ht⟩) hS.2.2 hdg C.2.2.2.2.2.2.2
theorem v_irr (C : vc p s m args meth c cc nL D cl tys A Ts own) (hr : meth.sig.returnType = some .int) {x r : Int32} (hx : x = r) (hdg : decode cc pc = .ok (.ireturn, 1)) :
    vv p l e R s m args below meth c nL D cl A (vR s) cells slots (MQ below (fun _ st oc t => oc = .returned (some (.int r)) ∧ t.heap = st.heap) args s cells slots (fun _ => False)) w lv pc [.int x] :=
  fun H locs ls hZ hl hP hD hS => W.iret C.1 C.2.1 hr (fun t ht hW => ⟨by rw [hx], ht.trans hZ.1⟩) (by rw [hZ.2]; intro q hq; cases hq) hdg C.2.2.2.2.2.2.2
theorem v_zrr (C : vc p s m args meth c cc nL D cl tys A Ts own) {ty : FieldType} (hr : meth.sig.returnType = some ty) {x r : Int32} (hn : narrow ty (.int x) = .int x) (hx : x = r) (hdg : decode cc pc = .ok (.ireturn, 1)) :
    vv p l e R s m args below meth c nL D cl A (vR s) cells slots (MQ below (fun _ st oc t => oc = .returned (some (.int r)) ∧ t.heap = st.heap) args s cells slots (fun _ => False)) w lv pc [.int x] :=
  fun H locs ls hZ hl hP hD hS => W.zret C.1 C.2.1 hr hn (fun t ht hW => ⟨by rw [hx], ht.trans hZ.1⟩) (by rw [hZ.2]; intro q hq; cases hq) hdg C.2.2.2.2.2.2.2
/-- the end: nothing -/
theorem v_vret (C : vc p s m args meth c cc nL D cl tys A Ts own) (hr : meth.sig.returnType = none) {w1 : va_W} (hw : w = w1) (hdg : decode cc pc = .ok (.return_, 1)) :
    vv p l e R s m args below meth c nL D cl A Z cells slots (MQ below (va_Qv (fun (_ : Unit) => True) (fun _ => wB D cl tys A w1) A) args s cells slots A) w lv pc [] :=
  fun H locs ls hZ hl hP hD hS => W.vret C.1 C.2.1 hr (fun t ht hW => ⟨⟨(), rfl, trivial, by rw [ht, ← hw]; exact hP, va_K.moved hW.alike C.2.2.2.2.2.1, hw ▸ hD⟩, hS.F ht⟩) hS.2.2 hdg C.2.2.2.2.2.2.2
/-- a call: the callee's cells out, the rest beside what came back, in the order that isF says -/
theorem v_calli {wc w1 wr w' : va_W} {r : Int32} {st0 : List Value} {a : Array Value} (C : vc p s m args meth c cc nL D cl tys A Ts own) (isC isR isF : List Nat) (hnC : va_nd isC = true) (hC : isC.map (fun i => w[i]?) = wc.map some) (hR : isR.map (fun i => w[i]?) = wr.map some) (hn : va_nd isR = true) (hdis : ∀ i ∈ isR, i ∉ isC) (hnF : va_nd isF = true) (hF : isF.map (fun i => (wr ++ w1)[i]?) = w'.map some)
    (hrun : ∀ (H : Heap) (locs : List Loc) (ls : Array Slot), ls.size = nL → va_P D cl wc H → va_D (fun _ => True) wc → va_Run p l e R s m args below meth c H locs cells slots 0 0 (F0 m pc ls st0) st (va_Qi (fun (x : Int32) (_ : Unit) => x = r) (fun _ => wB D cl tys (va_A wc H.size) w1) (va_A wc H.size) a) (va_A wc H.size))
    (kk : vv p l e R s m args below meth c nL D cl A vT cells slots Q w' lv (pc + 3) (.int r :: st)) : vv p l e R s m args below meth c nL D cl A Z cells slots Q w lv pc st0 := by
  intro H locs ls hZ hl hP hD hS
  have hPc : va_P D cl wc H := hP.sub isC (fm_of_map hC)
  have hFc := va_free (wc := wc) hD hS C.2.2.2.2.2.2.1 isC hC
  have hDc : va_D (fun _ => True) wc := (hD.sub isC hnC hC).weaken (fun _ _ _ _ => trivial)
  refine va_calli (hrun H locs ls hl.1 hPc hDc) hS (fun q _ h => hFc q h) hFc (fun x u t H1 locs1 ht hvm hw hB hz1 hk1 hS1 => ?_)
  obtain ⟨hP1, hK1, hD1⟩ := hB
  rw [ht] at hP1
  obtain ⟨hP2, hD2⟩ := va_join (wr := wr) (w1 := w1) hP hD isC isR hC hR hn hdis hk1 hFc hP1 hD1
  have hw : x = r := hw
  subst hw
  exact kk H1 locs1 ls trivial hl (hP2.sub isF (fm_of_map hF)) (hD2.sub isF hnF hF) hS1
theorem v_callv {wc w1 wr w' : va_W} {st0 : List Value} {a : Array Value} (C : vc p s m args meth c cc nL D cl tys A Ts own) (isC isR isF : List Nat) (hnC : va_nd isC = true) (hC : isC.map (fun i => w[i]?) = wc.map some) (hR : isR.map (fun i => w[i]?) = wr.map some) (hn : va_nd isR = true) (hdis : ∀ i ∈ isR, i ∉ isC) (hnF : va_nd isF = true) (hF : isF.map (fun i => (wr ++ w1)[i]?) = w'.map some)
    (hrun : ∀ (H : Heap) (locs : List Loc) (ls : Array Slot), ls.size = nL → va_P D cl wc H → va_D (fun _ => True) wc → va_Run p l e R s m args below meth c H locs cells slots 0 0 (F0 m pc ls st0) st (va_Qv (fun (_ : Unit) => True) (fun _ => wB D cl tys (va_A wc H.size) w1) (va_A wc H.size) a) (va_A wc H.size))
    (kk : vv p l e R s m args below meth c nL D cl A vT cells slots Q w' lv (pc + 3) (st)) : vv p l e R s m args below meth c nL D cl A Z cells slots Q w lv pc st0 := by
  intro H locs ls hZ hl hP hD hS
  have hPc : va_P D cl wc H := hP.sub isC (fm_of_map hC)
  have hFc := va_free (wc := wc) hD hS C.2.2.2.2.2.2.1 isC hC
  have hDc : va_D (fun _ => True) wc := (hD.sub isC hnC hC).weaken (fun _ _ _ _ => trivial)
  refine va_callv (hrun H locs ls hl.1 hPc hDc) hS (fun q _ h => hFc q h) hFc (fun u t H1 locs1 ht hvm hw hB hz1 hk1 hS1 => ?_)
  obtain ⟨hP1, hK1, hD1⟩ := hB
  rw [ht] at hP1
  obtain ⟨hP2, hD2⟩ := va_join (wr := wr) (w1 := w1) hP hD isC isR hC hR hn hdis hk1 hFc hP1 hD1
  exact kk H1 locs1 ls trivial hl (hP2.sub isF (fm_of_map hF)) (hD2.sub isF hnF hF) hS1
theorem v_calliF {w1 : va_W} {r : Int32} {st0 : List Value} {a : Array Value} (C : vc p s m args meth c cc nL D cl tys A Ts own)
    (hrun : ∀ (H : Heap) (locs : List Loc) (ls : Array Slot), ls.size = nL → va_P D cl w H → va_D (fun _ => True) w → va_Run p l e R s m args below meth c H locs cells slots 0 0 (F0 m pc ls st0) st (va_Qi (fun (x : Int32) (_ : Unit) => x = r) (fun _ => wB D cl tys (va_A w H.size) w1) (va_A w H.size) a) (va_A w H.size))
    (kk : vv p l e R s m args below meth c nL D cl A vT cells slots Q w1 lv (pc + 3) (.int r :: st)) : vv p l e R s m args below meth c nL D cl A Z cells slots Q w lv pc st0 := by
  intro H locs ls hZ hl hP hD hS
  have hFc := va_free (wc := w) hD hS C.2.2.2.2.2.2.1 (List.range w.length) (rng_map w)
  refine va_calli (hrun H locs ls hl.1 hP (hD.weaken (fun _ _ _ _ => trivial))) hS (fun q _ h => hFc q h) hFc (fun x u t H1 locs1 ht hvm hw hB hz1 hk1 hS1 => ?_)
  obtain ⟨hP1, hK1, hD1⟩ := hB
  rw [ht] at hP1
  have hw : x = r := hw
  subst hw
  exact kk H1 locs1 ls trivial hl hP1 (hD1.weaken (fun _ q _ h => hFc _ h)) hS1
theorem v_callvF {w1 : va_W} {st0 : List Value} {a : Array Value} (C : vc p s m args meth c cc nL D cl tys A Ts own)
    (hrun : ∀ (H : Heap) (locs : List Loc) (ls : Array Slot), ls.size = nL → va_P D cl w H → va_D (fun _ => True) w → va_Run p l e R s m args below meth c H locs cells slots 0 0 (F0 m pc ls st0) st (va_Qv (fun (_ : Unit) => True) (fun _ => wB D cl tys (va_A w H.size) w1) (va_A w H.size) a) (va_A w H.size))
    (kk : vv p l e R s m args below meth c nL D cl A vT cells slots Q w1 lv (pc + 3) (st)) : vv p l e R s m args below meth c nL D cl A Z cells slots Q w lv pc st0 := by
  intro H locs ls hZ hl hP hD hS
  have hFc := va_free (wc := w) hD hS C.2.2.2.2.2.2.1 (List.range w.length) (rng_map w)
  refine va_callv (hrun H locs ls hl.1 hP (hD.weaken (fun _ _ _ _ => trivial))) hS (fun q _ h => hFc q h) hFc (fun u t H1 locs1 ht hvm hw hB hz1 hk1 hS1 => ?_)
  obtain ⟨hP1, hK1, hD1⟩ := hB
  rw [ht] at hP1
  exact kk H1 locs1 ls trivial hl hP1 (hD1.weaken (fun _ q _ h => hFc _ h)) hS1
theorem v_calli0 {r : Int32} {st0 : List Value} {a : Array Value} (C : vc p s m args meth c cc nL D cl tys A Ts own)
    (hrun : ∀ (H : Heap) (locs : List Loc) (ls : Array Slot), ls.size = nL → va_P D cl [] H → va_D (fun _ => True) ([] : va_W) → va_Run p l e R s m args below meth c H locs cells slots 0 0 (F0 m pc ls st0) st (va_Qi (fun (x : Int32) (_ : Unit) => x = r) (fun _ => wB D cl tys (va_A [] H.size) []) (va_A [] H.size) a) (va_A [] H.size))
    (kk : vv p l e R s m args below meth c nL D cl A vT cells slots Q w lv (pc + 3) (.int r :: st)) : vv p l e R s m args below meth c nL D cl A Z cells slots Q w lv pc st0 := by
  intro H locs ls hZ hl hP hD hS
  have hFc := va_free (wc := []) hD hS C.2.2.2.2.2.2.1 [] rfl
  refine va_calli (hrun H locs ls hl.1 (fun k q h => by cases h) ⟨fun i j p q h => (by cases h), fun k q h => (by cases h)⟩) hS (fun q _ h => hFc q h) hFc (fun x u t H1 locs1 ht hvm hw hB hz1 hk1 hS1 => ?_)
  have hw : x = r := hw
  subst hw
  have hP2 : va_P D cl w H1 := hP.kept (fun k q hq => hk1 q.1 ((hP k q hq).lt) (fun hA => by
    rcases hA with ⟨k, e, h⟩ | h
    · cases h
    · exact absurd ((hP _ _ hq).lt) (Nat.not_lt.mpr h)))
  exact kk H1 locs1 ls trivial hl hP2 hD hS1
end VVC
section VVK
variable {p : Program} {l : Launch} {e : Env} {R : Room} {s : State} {m : MethodId} {args : Array Value} {below : List Frame} {meth : Method} {c : Code} {cells slots : Nat} {Q : State → Prop}
variable {cc : ByteArray} {pc nL : Nat} {st : List Value} {D : va_G} {cl : List vw_C} {tys : List (ClassId × FieldType)} {A : Nat → Prop} {Z : Heap → List Loc → Prop} {w : va_W} {lv : List (Nat × Value)} {Ts : List Cond} {own : String}
variable {y : MethodName} {ws : List Cond} {rm : Room} {CN : String} {index maxL n : Nat} {bytes : ByteArray} {ret : Option FieldType} {wc w1 wr w' : va_W} {r : Int32} {As st0 : List Value} {b ci N : Nat} {fs : List Value} {T : u_T}
theorem v_callr (C : vc p s m args meth c cc nL D cl tys A Ts own)
    (hrun : ∀ (H : Heap) (locs : List Loc) (ls : Array Slot), ls.size = nL → va_P D cl w H → va_D A w → va_Run p l e R s m args below meth c H locs cells slots 0 0 (F0 m pc ls st0) st (fun (st1 : State) (oc : Outcome) (t : State) => oc = .returned (some (.int r)) ∧ t.heap = st1.heap) (fun _ => False))
    (kk : vv p l e R s m args below meth c nL D cl A Z cells slots Q w lv (pc + 3) (.int r :: st)) : vv p l e R s m args below meth c nL D cl A Z cells slots Q w lv pc st0 := by
  intro H locs ls hZ hl hP hD hS T hT X
  obtain ⟨v, st₀, t, T', L, h0, X', hL, hh, hvm, ⟨hv, hq⟩, hgo⟩ := hrun H locs ls hl.1 hP hD T hT X
  have hL0 : L = [] := List.eq_nil_iff_forall_not_mem.mpr (fun q hq => hL q hq)
  subst hL0
  rw [List.append_nil] at X'
  have hv : v = some (.int r) := by cases hv; rfl
  subst hv
  obtain ⟨tt, a1, b1⟩ := kk H locs ls hZ hl hP hD hS T' (by rw [hh, hq, h0]) X'
  exact ⟨tt, hgo tt a1, b1⟩
theorem v_cVr (C : vc p s m args meth c cc nL D cl tys A Ts own) (hM : Kr l y ws rm D cl tys (.ref b :: As) wc r) (cw : CallW R s args own CN index y bytes maxL ret ws rm 0 0 n) (q0 : Nat) (he : wc[q0]? = some (b, .inr (ci, fs))) (hc : cl[ci]? = some (CN, T, N)) (hnA : As.length = n) (hst : st0 = As.reverse ++ .ref b :: st) (hwt : (st.map fun v => v.category).sum ≤ 8) (hcs : cells ≤ R.cells ∧ slots ≤ R.slots) (hdg : decode cc pc = .ok (.invokevirtual index, 3)) (isC : List Nat) (hnC : va_nd isC = true) (hC : isC.map (fun i => w[i]?) = wc.map some) (kk : vv p l e R s m args below meth c nL D cl A Z cells slots Q w lv (pc + 3) (.int r :: st)) : vv p l e R s m args below meth c nL D cl A Z cells slots Q w lv pc st0 :=
  v_callr C (fun H locs ls hls hP0 hD0 => by
    have hP : va_P D cl wc H := hP0.sub isC (fm_of_map hC)
    have hD : va_D (fun _ => True) wc := (hD0.sub isC hnC hC).weaken (fun _ _ _ _ => trivial)
    exact va_runV ⟨C.1, C.2.1, C.2.2.1, C.2.2.2.1, C.2.2.2.2.1⟩ (hM H.size) cw ⟨wP_blind, va_recv C.2.2.2.2.2.1 hP hc he, fun U hU hW => ⟨rfl, by rw [hU], by rw [hU]; exact hP, va_K.moved hW.alike C.2.2.2.2.2.1, hD⟩⟩ rfl hnA hls hst (lv_room hwt) hdg hcs) kk
theorem v_cVrF (C : vc p s m args meth c cc nL D cl tys A Ts own) (hM : Kr l y ws rm D cl tys (.ref b :: As) w r) (cw : CallW R s args own CN index y bytes maxL ret ws rm 0 0 n) (q0 : Nat) (he : w[q0]? = some (b, .inr (ci, fs))) (hc : cl[ci]? = some (CN, T, N)) (hnA : As.length = n) (hst : st0 = As.reverse ++ .ref b :: st) (hwt : (st.map fun v => v.category).sum ≤ 8) (hcs : cells ≤ R.cells ∧ slots ≤ R.slots) (hdg : decode cc pc = .ok (.invokevirtual index, 3)) (kk : vv p l e R s m args below meth c nL D cl A Z cells slots Q w lv (pc + 3) (.int r :: st)) : vv p l e R s m args below meth c nL D cl A Z cells slots Q w lv pc st0 :=
  v_callr C (fun H locs ls hls hP hD0 => by
    have hD : va_D (fun _ => True) w := hD0.weaken (fun _ _ _ _ => trivial)
    exact va_runV ⟨C.1, C.2.1, C.2.2.1, C.2.2.2.1, C.2.2.2.2.1⟩ (hM H.size) cw ⟨wP_blind, va_recv C.2.2.2.2.2.1 hP hc he, fun U hU hW => ⟨rfl, by rw [hU], by rw [hU]; exact hP, va_K.moved hW.alike C.2.2.2.2.2.1, hD⟩⟩ rfl hnA hls hst (lv_room hwt) hdg hcs) kk
theorem v_cSr0 (C : vc p s m args meth c cc nL D cl tys A Ts own) (hM : Kr l y ws rm D cl tys As [] r) (cw : CallB R s args own index y bytes maxL ret ws rm 0 0 n ∧ (Cond.static y).before args s = true) (hnA : As.length = n) (hst : st0 = As.reverse ++ st) (hwt : (st.map fun v => v.category).sum ≤ 8) (hcs : cells ≤ R.cells ∧ slots ≤ R.slots) (hdg : decode cc pc = .ok (.invokestatic index, 3)) (kk : vv p l e R s m args below meth c nL D cl A Z cells slots Q w lv (pc + 3) (.int r :: st)) : vv p l e R s m args below meth c nL D cl A Z cells slots Q w lv pc st0 :=
  v_callr C (fun H locs ls hls hP0 hD0 => by
    have hP : va_P D cl [] H := fun k q h => by cases h
    have hD : va_D (fun _ => True) ([] : va_W) := ⟨fun i j p q h => (by cases h), fun k q h => (by cases h)⟩
    exact va_runS ⟨C.1, C.2.1, C.2.2.1, C.2.2.2.1, C.2.2.2.2.1⟩ (hM H.size) cw ⟨wP_blind, fun U hU hW => ⟨rfl, by rw [hU], by rw [hU]; exact hP, va_K.moved hW.alike C.2.2.2.2.2.1, hD⟩⟩ rfl hnA hls hst (lv_room hwt) hdg hcs) kk
theorem v_cSr (C : vc p s m args meth c cc nL D cl tys A Ts own) (hM : Kr l y ws rm D cl tys As wc r) (cw : CallB R s args own index y bytes maxL ret ws rm 0 0 n ∧ (Cond.static y).before args s = true) (hnA : As.length = n) (hst : st0 = As.reverse ++ st) (hwt : (st.map fun v => v.category).sum ≤ 8) (hcs : cells ≤ R.cells ∧ slots ≤ R.slots) (hdg : decode cc pc = .ok (.invokestatic index, 3)) (isC : List Nat) (hnC : va_nd isC = true) (hC : isC.map (fun i => w[i]?) = wc.map some) (kk : vv p l e R s m args below meth c nL D cl A Z cells slots Q w lv (pc + 3) (.int r :: st)) : vv p l e R s m args below meth c nL D cl A Z cells slots Q w lv pc st0 :=
  v_callr C (fun H locs ls hls hP0 hD0 => by
    have hP : va_P D cl wc H := hP0.sub isC (fm_of_map hC)
    have hD : va_D (fun _ => True) wc := (hD0.sub isC hnC hC).weaken (fun _ _ _ _ => trivial)
    exact va_runS ⟨C.1, C.2.1, C.2.2.1, C.2.2.2.1, C.2.2.2.2.1⟩ (hM H.size) cw ⟨wP_blind, fun U hU hW => ⟨rfl, by rw [hU], by rw [hU]; exact hP, va_K.moved hW.alike C.2.2.2.2.2.1, hD⟩⟩ rfl hnA hls hst (lv_room hwt) hdg hcs) kk
theorem v_cViF (C : vc p s m args meth c cc nL D cl tys A Ts own) (hM : Ki l y ws rm D cl tys (.ref b :: As) w r w1) (cw : CallW R s args own CN index y bytes maxL ret ws rm 0 0 n) (q0 : Nat) (he : w[q0]? = some (b, .inr (ci, fs))) (hc : cl[ci]? = some (CN, T, N)) (hnA : As.length = n) (hst : st0 = As.reverse ++ .ref b :: st) (hwt : (st.map fun v => v.category).sum ≤ 8) (hcs : cells ≤ R.cells ∧ slots ≤ R.slots) (hdg : decode cc pc = .ok (.invokevirtual index, 3)) (kk : vv p l e R s m args below meth c nL D cl A vT cells slots Q w1 lv (pc + 3) (.int r :: st)) : vv p l e R s m args below meth c nL D cl A Z cells slots Q w lv pc st0 :=
  v_calliF C (fun H locs ls hls hP hD => va_runV ⟨C.1, C.2.1, C.2.2.1, C.2.2.2.1, C.2.2.2.2.1⟩ (hM H.size) cw ⟨wP_blind, va_recv C.2.2.2.2.2.1 hP hc he, fun U hU hW => ⟨rfl, by rw [hU], by rw [hU]; exact hP, va_K.moved hW.alike C.2.2.2.2.2.1, hD⟩⟩ rfl hnA hls hst (lv_room hwt) hdg hcs) kk
theorem v_cViP (C : vc p s m args meth c cc nL D cl tys A Ts own) (hM : Ki l y ws rm D cl tys (.ref b :: As) wc r w1) (cw : CallW R s args own CN index y bytes maxL ret ws rm 0 0 n) (q0 : Nat) (he : wc[q0]? = some (b, .inr (ci, fs))) (hc : cl[ci]? = some (CN, T, N)) (hnA : As.length = n) (hst : st0 = As.reverse ++ .ref b :: st) (hwt : (st.map fun v => v.category).sum ≤ 8) (hcs : cells ≤ R.cells ∧ slots ≤ R.slots) (hdg : decode cc pc = .ok (.invokevirtual index, 3)) (isC isR isF : List Nat) (hnC : va_nd isC = true) (hC : isC.map (fun i => w[i]?) = wc.map some) (hR : isR.map (fun i => w[i]?) = wr.map some) (hn : va_nd isR = true) (hdis : ∀ i ∈ isR, i ∉ isC) (hnF : va_nd isF = true) (hF : isF.map (fun i => (wr ++ w1)[i]?) = w'.map some) (kk : vv p l e R s m args below meth c nL D cl A vT cells slots Q w' lv (pc + 3) (.int r :: st)) : vv p l e R s m args below meth c nL D cl A Z cells slots Q w lv pc st0 :=
  v_calli C isC isR isF hnC hC hR hn hdis hnF hF (fun H locs ls hls hP hD => va_runV ⟨C.1, C.2.1, C.2.2.1, C.2.2.2.1, C.2.2.2.2.1⟩ (hM H.size) cw ⟨wP_blind, va_recv C.2.2.2.2.2.1 hP hc he, fun U hU hW => ⟨rfl, by rw [hU], by rw [hU]; exact hP, va_K.moved hW.alike C.2.2.2.2.2.1, hD⟩⟩ rfl hnA hls hst (lv_room hwt) hdg hcs) kk
theorem v_cVvF (C : vc p s m args meth c cc nL D cl tys A Ts own) (hM : Kv l y ws rm D cl tys (.ref b :: As) w w1) (cw : CallW R s args own CN index y bytes maxL ret ws rm 0 0 n) (q0 : Nat) (he : w[q0]? = some (b, .inr (ci, fs))) (hc : cl[ci]? = some (CN, T, N)) (hnA : As.length = n) (hst : st0 = As.reverse ++ .ref b :: st) (hwt : (st.map fun v => v.category).sum ≤ 8) (hcs : cells ≤ R.cells ∧ slots ≤ R.slots) (hdg : decode cc pc = .ok (.invokevirtual index, 3)) (kk : vv p l e R s m args below meth c nL D cl A vT cells slots Q w1 lv (pc + 3) (st)) : vv p l e R s m args below meth c nL D cl A Z cells slots Q w lv pc st0 :=
  v_callvF C (fun H locs ls hls hP hD => va_runV ⟨C.1, C.2.1, C.2.2.1, C.2.2.2.1, C.2.2.2.2.1⟩ (hM H.size) cw ⟨wP_blind, va_recv C.2.2.2.2.2.1 hP hc he, fun U hU hW => ⟨rfl, by rw [hU], by rw [hU]; exact hP, va_K.moved hW.alike C.2.2.2.2.2.1, hD⟩⟩ rfl hnA hls hst (lv_room hwt) hdg hcs) kk
theorem v_cVvP (C : vc p s m args meth c cc nL D cl tys A Ts own) (hM : Kv l y ws rm D cl tys (.ref b :: As) wc w1) (cw : CallW R s args own CN index y bytes maxL ret ws rm 0 0 n) (q0 : Nat) (he : wc[q0]? = some (b, .inr (ci, fs))) (hc : cl[ci]? = some (CN, T, N)) (hnA : As.length = n) (hst : st0 = As.reverse ++ .ref b :: st) (hwt : (st.map fun v => v.category).sum ≤ 8) (hcs : cells ≤ R.cells ∧ slots ≤ R.slots) (hdg : decode cc pc = .ok (.invokevirtual index, 3)) (isC isR isF : List Nat) (hnC : va_nd isC = true) (hC : isC.map (fun i => w[i]?) = wc.map some) (hR : isR.map (fun i => w[i]?) = wr.map some) (hn : va_nd isR = true) (hdis : ∀ i ∈ isR, i ∉ isC) (hnF : va_nd isF = true) (hF : isF.map (fun i => (wr ++ w1)[i]?) = w'.map some) (kk : vv p l e R s m args below meth c nL D cl A vT cells slots Q w' lv (pc + 3) (st)) : vv p l e R s m args below meth c nL D cl A Z cells slots Q w lv pc st0 :=
  v_callv C isC isR isF hnC hC hR hn hdis hnF hF (fun H locs ls hls hP hD => va_runV ⟨C.1, C.2.1, C.2.2.1, C.2.2.2.1, C.2.2.2.2.1⟩ (hM H.size) cw ⟨wP_blind, va_recv C.2.2.2.2.2.1 hP hc he, fun U hU hW => ⟨rfl, by rw [hU], by rw [hU]; exact hP, va_K.moved hW.alike C.2.2.2.2.2.1, hD⟩⟩ rfl hnA hls hst (lv_room hwt) hdg hcs) kk
theorem v_cSi0 (C : vc p s m args meth c cc nL D cl tys A Ts own) (hM : Ki l y ws rm D cl tys As [] r []) (cw : CallB R s args own index y bytes maxL ret ws rm 0 0 n ∧ (Cond.static y).before args s = true) (hnA : As.length = n) (hst : st0 = As.reverse ++ st) (hwt : (st.map fun v => v.category).sum ≤ 8) (hcs : cells ≤ R.cells ∧ slots ≤ R.slots) (hdg : decode cc pc = .ok (.invokestatic index, 3)) (kk : vv p l e R s m args below meth c nL D cl A vT cells slots Q w lv (pc + 3) (.int r :: st)) : vv p l e R s m args below meth c nL D cl A Z cells slots Q w lv pc st0 :=
  v_calli0 C (fun H locs ls hls hP hD => va_runS ⟨C.1, C.2.1, C.2.2.1, C.2.2.2.1, C.2.2.2.2.1⟩ (hM H.size) cw ⟨wP_blind, fun U hU hW => ⟨rfl, by rw [hU], by rw [hU]; exact hP, va_K.moved hW.alike C.2.2.2.2.2.1, hD⟩⟩ rfl hnA hls hst (lv_room hwt) hdg hcs) kk
theorem v_cSiP (C : vc p s m args meth c cc nL D cl tys A Ts own) (hM : Ki l y ws rm D cl tys As wc r w1) (cw : CallB R s args own index y bytes maxL ret ws rm 0 0 n ∧ (Cond.static y).before args s = true) (hnA : As.length = n) (hst : st0 = As.reverse ++ st) (hwt : (st.map fun v => v.category).sum ≤ 8) (hcs : cells ≤ R.cells ∧ slots ≤ R.slots) (hdg : decode cc pc = .ok (.invokestatic index, 3)) (isC isR isF : List Nat) (hnC : va_nd isC = true) (hC : isC.map (fun i => w[i]?) = wc.map some) (hR : isR.map (fun i => w[i]?) = wr.map some) (hn : va_nd isR = true) (hdis : ∀ i ∈ isR, i ∉ isC) (hnF : va_nd isF = true) (hF : isF.map (fun i => (wr ++ w1)[i]?) = w'.map some) (kk : vv p l e R s m args below meth c nL D cl A vT cells slots Q w' lv (pc + 3) (.int r :: st)) : vv p l e R s m args below meth c nL D cl A Z cells slots Q w lv pc st0 :=
  v_calli C isC isR isF hnC hC hR hn hdis hnF hF (fun H locs ls hls hP hD => va_runS ⟨C.1, C.2.1, C.2.2.1, C.2.2.2.1, C.2.2.2.2.1⟩ (hM H.size) cw ⟨wP_blind, fun U hU hW => ⟨rfl, by rw [hU], by rw [hU]; exact hP, va_K.moved hW.alike C.2.2.2.2.2.1, hD⟩⟩ rfl hnA hls hst (lv_room hwt) hdg hcs) kk
theorem v_cSiF (C : vc p s m args meth c cc nL D cl tys A Ts own) (hM : Ki l y ws rm D cl tys As w r w1) (cw : CallB R s args own index y bytes maxL ret ws rm 0 0 n ∧ (Cond.static y).before args s = true) (hnA : As.length = n) (hst : st0 = As.reverse ++ st) (hwt : (st.map fun v => v.category).sum ≤ 8) (hcs : cells ≤ R.cells ∧ slots ≤ R.slots) (hdg : decode cc pc = .ok (.invokestatic index, 3)) (kk : vv p l e R s m args below meth c nL D cl A vT cells slots Q w1 lv (pc + 3) (.int r :: st)) : vv p l e R s m args below meth c nL D cl A Z cells slots Q w lv pc st0 :=
  v_calliF C (fun H locs ls hls hP hD => va_runS ⟨C.1, C.2.1, C.2.2.1, C.2.2.2.1, C.2.2.2.2.1⟩ (hM H.size) cw ⟨wP_blind, fun U hU hW => ⟨rfl, by rw [hU], by rw [hU]; exact hP, va_K.moved hW.alike C.2.2.2.2.2.1, hD⟩⟩ rfl hnA hls hst (lv_room hwt) hdg hcs) kk
theorem v_mmax (C : vc p s m args meth c cc nL D cl tys A Ts own) (h1 : Cond.methodLink own index Lib.Math.max.name ∈ Ts) (h2 : Cond.static Lib.Math.max.name ∈ Ts) (h3 : Cond.initialized "java/lang/Math" ∈ Ts) (h4 : Cond.code Lib.Math.max.name Lib.Math.max.code 2 (some .int) ∈ Ts) (hfr : 1 ≤ R.frames) (hlo : (st.map fun v => v.category).sum + 13 ≤ R.locals) (hcl : cells ≤ R.cells) (hsl : slots ≤ R.slots) {x y : Int32} (hdg : decode cc pc = .ok (.invokestatic index, 3)) (kk : vv p l e R s m args below meth c nL D cl A Z cells slots Q w lv (pc + 3) (.int (if x < y then y else x) :: st)) : vv p l e R s m args below meth c nL D cl A Z cells slots Q w lv pc (.int y :: .int x :: st) :=
  fun H locs ls hZ hl hP hD hS => va_mmax C.1 C.2.1 (C.2.2.1.trans hl.1.symm) C.2.2.2.1 (C.2.2.2.2.1 _ h1) (C.2.2.2.2.1 _ h2) (C.2.2.2.2.1 _ h3) (C.2.2.2.2.1 _ h4) hfr hlo hcl hsl hdg (kk H locs ls hZ hl hP hD hS)
theorem v_mmin (C : vc p s m args meth c cc nL D cl tys A Ts own) (h1 : Cond.methodLink own index Lib.Math.min.name ∈ Ts) (h2 : Cond.static Lib.Math.min.name ∈ Ts) (h3 : Cond.initialized "java/lang/Math" ∈ Ts) (h4 : Cond.code Lib.Math.min.name Lib.Math.min.code 2 (some .int) ∈ Ts) (hfr : 1 ≤ R.frames) (hlo : (st.map fun v => v.category).sum + 13 ≤ R.locals) (hcl : cells ≤ R.cells) (hsl : slots ≤ R.slots) {x y : Int32} (hdg : decode cc pc = .ok (.invokestatic index, 3)) (kk : vv p l e R s m args below meth c nL D cl A Z cells slots Q w lv (pc + 3) (.int (if y < x then y else x) :: st)) : vv p l e R s m args below meth c nL D cl A Z cells slots Q w lv pc (.int y :: .int x :: st) :=
  fun H locs ls hZ hl hP hD hS => va_mmin C.1 C.2.1 (C.2.2.1.trans hl.1.symm) C.2.2.2.1 (C.2.2.2.2.1 _ h1) (C.2.2.2.2.1 _ h2) (C.2.2.2.2.1 _ h3) (C.2.2.2.2.1 _ h4) hfr hlo hcl hsl hdg (kk H locs ls hZ hl hP hD hS)
theorem v_loop0 (N : Nat) (Wd : Nat → va_W) (Lv : Nat → List (Nat × Value)) (Inv : Nat → Nat → Prop)
    (hs : ∀ (k i : Nat), i + (k + 1) = N → Inv (k + 1) i → (Inv k (i + 1) → vv p l e R s m args below meth c nL D cl A Z cells slots Q (Wd (i + 1)) (Lv (i + 1)) pc []) → vv p l e R s m args below meth c nL D cl A Z cells slots Q (Wd i) (Lv i) pc [])
    (he : Inv 0 N → vv p l e R s m args below meth c nL D cl A Z cells slots Q (Wd N) (Lv N) pc []) : ∀ (k i : Nat), i + k = N → Inv k i → vv p l e R s m args below meth c nL D cl A Z cells slots Q (Wd i) (Lv i) pc [] := by
  intro k
  induction k with
  | zero =>
    intro i h hI
    have h : i = N := h
    subst h
    exact he hI
  | succ k ih => exact fun i h hI => hs k i h hI (fun hJ => ih (i + 1) (by omega) hJ)
theorem v_loop1 {A0 : Type} (N : Nat) (Wd : Nat → A0 → va_W) (Lv : Nat → A0 → List (Nat × Value)) (Inv : Nat → Nat → A0 → Prop)
    (hs : ∀ (k i : Nat) (x0 : A0), i + (k + 1) = N → Inv (k + 1) i x0 → (∀ (y0 : A0), Inv k (i + 1) y0 → vv p l e R s m args below meth c nL D cl A Z cells slots Q (Wd (i + 1) y0) (Lv (i + 1) y0) pc []) → vv p l e R s m args below meth c nL D cl A Z cells slots Q (Wd i x0) (Lv i x0) pc [])
    (he : ∀ (x0 : A0), Inv 0 N x0 → vv p l e R s m args below meth c nL D cl A Z cells slots Q (Wd N x0) (Lv N x0) pc []) : ∀ (k i : Nat) (x0 : A0), i + k = N → Inv k i x0 → vv p l e R s m args below meth c nL D cl A Z cells slots Q (Wd i x0) (Lv i x0) pc [] := by
  intro k
  induction k with
  | zero =>
    intro i x0 h hI
    have h : i = N := h
    subst h
    exact he x0 hI
  | succ k ih => exact fun i x0 h hI => hs k i x0 h hI (fun y0 hJ => ih (i + 1) y0 (by omega) hJ)
theorem v_loop2 {A0 : Type} {A1 : Type} (N : Nat) (Wd : Nat → A0 → A1 → va_W) (Lv : Nat → A0 → A1 → List (Nat × Value)) (Inv : Nat → Nat → A0 → A1 → Prop)
    (hs : ∀ (k i : Nat) (x0 : A0) (x1 : A1), i + (k + 1) = N → Inv (k + 1) i x0 x1 → (∀ (y0 : A0) (y1 : A1), Inv k (i + 1) y0 y1 → vv p l e R s m args below meth c nL D cl A Z cells slots Q (Wd (i + 1) y0 y1) (Lv (i + 1) y0 y1) pc []) → vv p l e R s m args below meth c nL D cl A Z cells slots Q (Wd i x0 x1) (Lv i x0 x1) pc [])
    (he : ∀ (x0 : A0) (x1 : A1), Inv 0 N x0 x1 → vv p l e R s m args below meth c nL D cl A Z cells slots Q (Wd N x0 x1) (Lv N x0 x1) pc []) : ∀ (k i : Nat) (x0 : A0) (x1 : A1), i + k = N → Inv k i x0 x1 → vv p l e R s m args below meth c nL D cl A Z cells slots Q (Wd i x0 x1) (Lv i x0 x1) pc [] := by
  intro k
  induction k with
  | zero =>
    intro i x0 x1 h hI
    have h : i = N := h
    subst h
    exact he x0 x1 hI
  | succ k ih => exact fun i x0 x1 h hI => hs k i x0 x1 h hI (fun y0 y1 hJ => ih (i + 1) y0 y1 (by omega) hJ)
theorem v_loop3 {A0 : Type} {A1 : Type} {A2 : Type} (N : Nat) (Wd : Nat → A0 → A1 → A2 → va_W) (Lv : Nat → A0 → A1 → A2 → List (Nat × Value)) (Inv : Nat → Nat → A0 → A1 → A2 → Prop)
    (hs : ∀ (k i : Nat) (x0 : A0) (x1 : A1) (x2 : A2), i + (k + 1) = N → Inv (k + 1) i x0 x1 x2 → (∀ (y0 : A0) (y1 : A1) (y2 : A2), Inv k (i + 1) y0 y1 y2 → vv p l e R s m args below meth c nL D cl A Z cells slots Q (Wd (i + 1) y0 y1 y2) (Lv (i + 1) y0 y1 y2) pc []) → vv p l e R s m args below meth c nL D cl A Z cells slots Q (Wd i x0 x1 x2) (Lv i x0 x1 x2) pc [])
    (he : ∀ (x0 : A0) (x1 : A1) (x2 : A2), Inv 0 N x0 x1 x2 → vv p l e R s m args below meth c nL D cl A Z cells slots Q (Wd N x0 x1 x2) (Lv N x0 x1 x2) pc []) : ∀ (k i : Nat) (x0 : A0) (x1 : A1) (x2 : A2), i + k = N → Inv k i x0 x1 x2 → vv p l e R s m args below meth c nL D cl A Z cells slots Q (Wd i x0 x1 x2) (Lv i x0 x1 x2) pc [] := by
  intro k
  induction k with
  | zero =>
    intro i x0 x1 x2 h hI
    have h : i = N := h
    subst h
    exact he x0 x1 x2 hI
  | succ k ih => exact fun i x0 x1 x2 h hI => hs k i x0 x1 x2 h hI (fun y0 y1 y2 hJ => ih (i + 1) y0 y1 y2 (by omega) hJ)
theorem v_loop4 {A0 : Type} {A1 : Type} {A2 : Type} {A3 : Type} (N : Nat) (Wd : Nat → A0 → A1 → A2 → A3 → va_W) (Lv : Nat → A0 → A1 → A2 → A3 → List (Nat × Value)) (Inv : Nat → Nat → A0 → A1 → A2 → A3 → Prop)
    (hs : ∀ (k i : Nat) (x0 : A0) (x1 : A1) (x2 : A2) (x3 : A3), i + (k + 1) = N → Inv (k + 1) i x0 x1 x2 x3 → (∀ (y0 : A0) (y1 : A1) (y2 : A2) (y3 : A3), Inv k (i + 1) y0 y1 y2 y3 → vv p l e R s m args below meth c nL D cl A Z cells slots Q (Wd (i + 1) y0 y1 y2 y3) (Lv (i + 1) y0 y1 y2 y3) pc []) → vv p l e R s m args below meth c nL D cl A Z cells slots Q (Wd i x0 x1 x2 x3) (Lv i x0 x1 x2 x3) pc [])
    (he : ∀ (x0 : A0) (x1 : A1) (x2 : A2) (x3 : A3), Inv 0 N x0 x1 x2 x3 → vv p l e R s m args below meth c nL D cl A Z cells slots Q (Wd N x0 x1 x2 x3) (Lv N x0 x1 x2 x3) pc []) : ∀ (k i : Nat) (x0 : A0) (x1 : A1) (x2 : A2) (x3 : A3), i + k = N → Inv k i x0 x1 x2 x3 → vv p l e R s m args below meth c nL D cl A Z cells slots Q (Wd i x0 x1 x2 x3) (Lv i x0 x1 x2 x3) pc [] := by
  intro k
  induction k with
  | zero =>
    intro i x0 x1 x2 x3 h hI
    have h : i = N := h
    subst h
    exact he x0 x1 x2 x3 hI
  | succ k ih => exact fun i x0 x1 x2 x3 h hI => hs k i x0 x1 x2 x3 h hI (fun y0 y1 y2 y3 hJ => ih (i + 1) y0 y1 y2 y3 (by omega) hJ)
theorem v_loop5 {A0 : Type} {A1 : Type} {A2 : Type} {A3 : Type} {A4 : Type} (N : Nat) (Wd : Nat → A0 → A1 → A2 → A3 → A4 → va_W) (Lv : Nat → A0 → A1 → A2 → A3 → A4 → List (Nat × Value)) (Inv : Nat → Nat → A0 → A1 → A2 → A3 → A4 → Prop)
    (hs : ∀ (k i : Nat) (x0 : A0) (x1 : A1) (x2 : A2) (x3 : A3) (x4 : A4), i + (k + 1) = N → Inv (k + 1) i x0 x1 x2 x3 x4 → (∀ (y0 : A0) (y1 : A1) (y2 : A2) (y3 : A3) (y4 : A4), Inv k (i + 1) y0 y1 y2 y3 y4 → vv p l e R s m args below meth c nL D cl A Z cells slots Q (Wd (i + 1) y0 y1 y2 y3 y4) (Lv (i + 1) y0 y1 y2 y3 y4) pc []) → vv p l e R s m args below meth c nL D cl A Z cells slots Q (Wd i x0 x1 x2 x3 x4) (Lv i x0 x1 x2 x3 x4) pc [])
    (he : ∀ (x0 : A0) (x1 : A1) (x2 : A2) (x3 : A3) (x4 : A4), Inv 0 N x0 x1 x2 x3 x4 → vv p l e R s m args below meth c nL D cl A Z cells slots Q (Wd N x0 x1 x2 x3 x4) (Lv N x0 x1 x2 x3 x4) pc []) : ∀ (k i : Nat) (x0 : A0) (x1 : A1) (x2 : A2) (x3 : A3) (x4 : A4), i + k = N → Inv k i x0 x1 x2 x3 x4 → vv p l e R s m args below meth c nL D cl A Z cells slots Q (Wd i x0 x1 x2 x3 x4) (Lv i x0 x1 x2 x3 x4) pc [] := by
  intro k
  induction k with
  | zero =>
    intro i x0 x1 x2 x3 x4 h hI
    have h : i = N := h
    subst h
    exact he x0 x1 x2 x3 x4 hI
  | succ k ih => exact fun i x0 x1 x2 x3 x4 h hI => hs k i x0 x1 x2 x3 x4 h hI (fun y0 y1 y2 y3 y4 hJ => ih (i + 1) y0 y1 y2 y3 y4 (by omega) hJ)
end VVK
theorem v_as {p : Program} {l : Launch} {e : Env} {R : Room} {s : State} {m : MethodId} {args : Array Value} {below : List Frame} {meth : Method} {c : Code} {nL : Nat} {D : va_G} {cl : List vw_C} {A : Nat → Prop} {Z : Heap → List Loc → Prop} {cells slots : Nat} {Q : State → Prop} {w w' : va_W} {lv lv' : List (Nat × Value)} {pc : Nat} {st : List Value} (hw : w = w') (hl : lv = lv') (k : vv p l e R s m args below meth c nL D cl A Z cells slots Q w' lv' pc st) : vv p l e R s m args below meth c nL D cl A Z cells slots Q w lv pc st := by
  subst hw; subst hl; exact k
theorem v_cut {p : Program} {l : Launch} {e : Env} {R : Room} {s : State} {m : MethodId} {args : Array Value} {below : List Frame} {meth : Method} {c : Code} {nL : Nat} {D : va_G} {cl : List vw_C} {A : Nat → Prop} {Z : Heap → List Loc → Prop} {cells slots : Nat} {Q : State → Prop} {w wj : va_W} {lv lj : List (Nat × Value)} {pc pj : Nat} {st : List Value} (k : vv p l e R s m args below meth c nL D cl A Z cells slots Q wj lj pj []) (h : vv p l e R s m args below meth c nL D cl A Z cells slots Q wj lj pj [] → vv p l e R s m args below meth c nL D cl A Z cells slots Q w lv pc st) : vv p l e R s m args below meth c nL D cl A Z cells slots Q w lv pc st := h k
theorem v_free {p : Program} {l : Launch} {e : Env} {R : Room} {s : State} {m : MethodId} {args : Array Value} {below : List Frame} {meth : Method} {c : Code} {nL : Nat} {D : va_G} {cl : List vw_C} {A : Nat → Prop} {Z : Heap → List Loc → Prop} {cells slots : Nat} {Q : State → Prop} {w : va_W} {lv : List (Nat × Value)} {pc : Nat} {st : List Value} (k : vv p l e R s m args below meth c nL D cl A vT cells slots Q w lv pc st) : vv p l e R s m args below meth c nL D cl A Z cells slots Q w lv pc st :=
  fun H locs ls _ hl hP hD hS => k H locs ls trivial hl hP hD hS

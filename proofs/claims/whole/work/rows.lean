section
/-! ===== BEGIN words of one list among another's, by their places ===== -/
theorem goodIn_r {big : List Cond} (ws : List Cond) (ps : List Nat) (hp : ws = ps.filterMap (fun i => big[i]?)) (h : ws.all goodWord = true) : GoodIn big ws := by
  intro w hw
  have h1 := List.all_eq_true.mp h w hw
  rw [hp] at hw
  obtain ⟨i, -, hi⟩ := List.mem_filterMap.mp hw
  have hm : w ∈ big := by first | exact List.mem_of_getElem? hi | exact List.getElem?_mem hi
  exact ⟨hm, good_of_word h1⟩
theorem goodIn_app {big a b : List Cond} (ha : GoodIn big a) (hb : GoodIn big b) : GoodIn big (a ++ b) := fun w h => (List.mem_append.mp h).elim (ha w) (hb w)
theorem goodIn_ca {big a b : List Cond} {c : Cond} (ha : GoodIn big (c :: a)) (hb : GoodIn big b) : GoodIn big (c :: (a ++ b)) := fun w h => (List.mem_cons.mp h).elim (fun e => ha w (List.mem_cons.mpr (Or.inl e))) (fun h => (List.mem_append.mp h).elim (fun h => ha w (List.mem_cons.mpr (Or.inr h))) (hb w))
theorem goodIn_sub {big ws : List Cond} (hm : ∀ w ∈ ws, w ∈ big) (h : ws.all goodWord = true) : GoodIn big ws := fun w hw => ⟨hm w hw, good_of_word (List.all_eq_true.mp h w hw)⟩
/-! ===== END ===== -/
end
section
/-! The walker's own judgement: vv = W over a world, listed locals, a pc and a stack; every row turns vv at an instruction into vv at the next. -/
def vv (p : Program) (l : Launch) (e : Env) (R : Room) (s : State) (m : MethodId) (args : Array Value) (below : List Frame) (meth : Method) (c : Code) (nL : Nat) (D : va_G) (cl : List vw_C) (A : Nat → Prop) (Z : Heap → List Loc → Prop) (cells slots : Nat) (Q : State → Prop) (w : va_W) (lv : List (Nat × Value)) (pc : Nat) (st : List Value) : Prop :=
  ∀ (H : Heap) (locs : List Loc) (ls : Array Slot), Z H locs → lv_has ls nL lv → va_P D cl w H → va_D A w → va_S A s.heap H locs → W p l e R s m args below meth c H locs cells slots Q (F0 m pc ls st)
def vc (p : Program) (s : State) (m : MethodId) (args : Array Value) (meth : Method) (c : Code) (cc : ByteArray) (nL : Nat) (D : va_G) (cl : List vw_C) (tys : List (ClassId × FieldType)) (A : Nat → Prop) (Ts : List Cond) (own : String) : Prop :=
  p.tables.exec = Jvm.exec ∧ c.code = cc ∧ c.maxLocals = nL ∧ s.vm.findClass own = some m.cls ∧ (∀ w ∈ Ts, w.before args s = true) ∧ va_K D cl tys s ∧ (∀ q, s.heap.size ≤ q → A q) ∧ meth.locks = false
/-- the mode in which nothing is known of the heap but the world; and the one in which nothing has been written -/
abbrev vT : Heap → List Loc → Prop := fun _ _ => True
abbrev vR (s : State) : Heap → List Loc → Prop := fun H locs => H = s.heap ∧ locs = []
/-- a method's start: a world, its tables, its size -/
def wP (D : va_G) (cl : List vw_C) (tys : List (ClassId × FieldType)) (w : va_W) (sz : Nat) (U : State) : Prop := U.heap.size = sz ∧ va_P D cl w U.heap ∧ va_K D cl tys U ∧ va_D (fun _ => True) w
/-- a world behind a method -/
def wB (D : va_G) (cl : List vw_C) (tys : List (ClassId × FieldType)) (A : Nat → Prop) (w : va_W) (t : State) : Prop := va_P D cl w t.heap ∧ va_K D cl tys t ∧ va_D A w
/-- contracts by values: from the world w with the arguments av it answers r and leaves the world w1 -/
def Ki (l : Launch) (y : MethodName) (ws : List Cond) (rm : Room) (D : va_G) (cl : List vw_C) (tys : List (ClassId × FieldType)) (av : List Value) (w : va_W) (r : Int32) (w1 : va_W) : Prop :=
  ∀ sz : Nat, Met l y ws rm (va_Pc av (wP D cl tys w sz)) (va_Qi (fun (x : Int32) (_ : Unit) => x = r) (fun _ => wB D cl tys (va_A w sz) w1) (va_A w sz)) 0 0 (va_A w sz)
def Kv (l : Launch) (y : MethodName) (ws : List Cond) (rm : Room) (D : va_G) (cl : List vw_C) (tys : List (ClassId × FieldType)) (av : List Value) (w : va_W) (w1 : va_W) : Prop :=
  ∀ sz : Nat, Met l y ws rm (va_Pc av (wP D cl tys w sz)) (va_Qv (fun (_ : Unit) => True) (fun _ => wB D cl tys (va_A w sz) w1) (va_A w sz)) 0 0 (va_A w sz)
/-- a method that only reads: it answers r, the heap is the same -/
def Kr (l : Launch) (y : MethodName) (ws : List Cond) (rm : Room) (D : va_G) (cl : List vw_C) (tys : List (ClassId × FieldType)) (av : List Value) (w : va_W) (r : Int32) : Prop :=
  ∀ sz : Nat, Met l y ws rm (va_Pc av (wP D cl tys w sz)) (fun _ st oc t => oc = .returned (some (.int r)) ∧ t.heap = st.heap) 0 0 (fun _ => False)
theorem wP_blind {D : va_G} {cl : List vw_C} {tys : List (ClassId × FieldType)} {w : va_W} {sz : Nat} {av : List Value} : FrameBlind (va_Pc av (wP D cl tys w sz)) := by
  intro a U g mk q
  obtain ⟨q0, q1, qP, qK, qD⟩ := q
  exact ⟨q0, q1, qP, va_K.moved (u := U) (U := U.calling g mk a) (Vm.Alike.refl U.vm) qK, qD⟩
section VVR
variable {p : Program} {l : Launch} {e : Env} {R : Room} {s : State} {m : MethodId} {args : Array Value} {below : List Frame} {meth : Method} {c : Code} {cells slots : Nat} {Q : State → Prop}
variable {cc : ByteArray} {pc nL : Nat} {st : List Value} {D : va_G} {cl : List vw_C} {tys : List (ClassId × FieldType)} {A : Nat → Prop} {Z : Heap → List Loc → Prop} {w : va_W} {lv : List (Nat × Value)} {Ts : List Cond} {own : String}
theorem v_iconst (C : vc p s m args meth c cc nL D cl tys A Ts own) {n : Int} {v : Int32} (hdg : decode cc pc = .ok (.iconst n, 1)) (hv : Int32.ofInt n = v) (k : vv p l e R s m args below meth c nL D cl A Z cells slots Q w lv (pc + 1) (.int v :: st)) : vv p l e R s m args below meth c nL D cl A Z cells slots Q w lv pc st :=
  fun H locs ls hZ hl hP hD hS => lv_iconst C.1 C.2.1 hdg hv (k H locs ls hZ hl hP hD hS)
theorem v_bipush (C : vc p s m args meth c cc nL D cl tys A Ts own) {n : Int} {v : Int32} (hdg : decode cc pc = .ok (.bipush n, 2)) (hv : (Int8.ofInt n).toInt32 = v) (k : vv p l e R s m args below meth c nL D cl A Z cells slots Q w lv (pc + 2) (.int v :: st)) : vv p l e R s m args below meth c nL D cl A Z cells slots Q w lv pc st :=
  fun H locs ls hZ hl hP hD hS => lv_bipush C.1 C.2.1 hdg hv (k H locs ls hZ hl hP hD hS)
theorem v_sipush (C : vc p s m args meth c cc nL D cl tys A Ts own) {n : Int} {v : Int32} (hdg : decode cc pc = .ok (.sipush n, 3)) (hv : (Int16.ofInt n).toInt32 = v) (k : vv p l e R s m args below meth c nL D cl A Z cells slots Q w lv (pc + 3) (.int v :: st)) : vv p l e R s m args below meth c nL D cl A Z cells slots Q w lv pc st :=
  fun H locs ls hZ hl hP hD hS => lv_sipush C.1 C.2.1 hdg hv (k H locs ls hZ hl hP hD hS)
theorem v_ldc (C : vc p s m args meth c cc nL D cl tys A Ts own) {index : Nat} {v : Int32} (hconst : Cond.constant own index v ∈ Ts) (hdg : decode cc pc = .ok (.ldc index, 2)) (k : vv p l e R s m args below meth c nL D cl A Z cells slots Q w lv (pc + 2) (.int v :: st)) : vv p l e R s m args below meth c nL D cl A Z cells slots Q w lv pc st :=
  fun H locs ls hZ hl hP hD hS => lv_ldc C.1 C.2.1 C.2.2.2.1 (C.2.2.2.2.1 _ hconst) hdg (k H locs ls hZ hl hP hD hS)
theorem v_ldcw (C : vc p s m args meth c cc nL D cl tys A Ts own) {index : Nat} {v : Int32} (hconst : Cond.constant own index v ∈ Ts) (hdg : decode cc pc = .ok (.ldc_w index, 3)) (k : vv p l e R s m args below meth c nL D cl A Z cells slots Q w lv (pc + 3) (.int v :: st)) : vv p l e R s m args below meth c nL D cl A Z cells slots Q w lv pc st :=
  fun H locs ls hZ hl hP hD hS => lv_ldcw C.1 C.2.1 C.2.2.2.1 (C.2.2.2.2.1 _ hconst) hdg (k H locs ls hZ hl hP hD hS)
theorem v_iload_n (C : vc p s m args meth c cc nL D cl tys A Ts own) {j : Fin 4} {i : Nat} {x : Int32} (k : Nat) (hdg : decode cc pc = .ok (.iload_n j, 1)) (hi : (j : Nat) = i) (hk : lv[k]? = some (i, .int x)) (kk : vv p l e R s m args below meth c nL D cl A Z cells slots Q w lv (pc + 1) (.int x :: st)) : vv p l e R s m args below meth c nL D cl A Z cells slots Q w lv pc st :=
  fun H locs ls hZ hl hP hD hS => lv_iload_n C.1 C.2.1 hdg hi (lv_at hl k hk) (kk H locs ls hZ hl hP hD hS)
theorem v_iload (C : vc p s m args meth c cc nL D cl tys A Ts own) {i : Nat} {x : Int32} (k : Nat) (hdg : decode cc pc = .ok (.iload i, 2)) (hk : lv[k]? = some (i, .int x)) (kk : vv p l e R s m args below meth c nL D cl A Z cells slots Q w lv (pc + 2) (.int x :: st)) : vv p l e R s m args below meth c nL D cl A Z cells slots Q w lv pc st :=
  fun H locs ls hZ hl hP hD hS => lv_iload C.1 C.2.1 hdg (lv_at hl k hk) (kk H locs ls hZ hl hP hD hS)
theorem v_aload_n (C : vc p s m args meth c cc nL D cl tys A Ts own) {j : Fin 4} {i : Nat} {x : Nat} (k : Nat) (hdg : decode cc pc = .ok (.aload_n j, 1)) (hi : (j : Nat) = i) (hk : lv[k]? = some (i, .ref x)) (kk : vv p l e R s m args below meth c nL D cl A Z cells slots Q w lv (pc + 1) (.ref x :: st)) : vv p l e R s m args below meth c nL D cl A Z cells slots Q w lv pc st :=
  fun H locs ls hZ hl hP hD hS => lv_aload_n C.1 C.2.1 hdg hi (lv_at hl k hk) (kk H locs ls hZ hl hP hD hS)
theorem v_aload (C : vc p s m args meth c cc nL D cl tys A Ts own) {i : Nat} {x : Nat} (k : Nat) (hdg : decode cc pc = .ok (.aload i, 2)) (hk : lv[k]? = some (i, .ref x)) (kk : vv p l e R s m args below meth c nL D cl A Z cells slots Q w lv (pc + 2) (.ref x :: st)) : vv p l e R s m args below meth c nL D cl A Z cells slots Q w lv pc st :=
  fun H locs ls hZ hl hP hD hS => lv_aload C.1 C.2.1 hdg (lv_at hl k hk) (kk H locs ls hZ hl hP hD hS)
theorem v_istore_n (C : vc p s m args meth c cc nL D cl tys A Ts own) {j : Fin 4} {i : Nat} {x : Int32} {lv' : List (Nat × Value)} (ks : List Nat) (hdg : decode cc pc = .ok (.istore_n j, 1)) (hi : (j : Nat) = i) (hn : i < nL) (hl' : lv_pick ((i, Value.int x) :: lv.filter (fun q => !(q.1 == i) && !(q.1 + 1 == i && q.2.category == 2))) ks = lv') (kk : vv p l e R s m args below meth c nL D cl A Z cells slots Q w lv' (pc + 1) st) : vv p l e R s m args below meth c nL D cl A Z cells slots Q w lv pc (.int x :: st) :=
  fun H locs ls hZ hl hP hD hS => lv_istore_n C.1 C.2.1 hdg hi hl hn rfl (fun ls' h' => kk H locs ls' hZ (lv_sub h' ks hl') hP hD hS)
theorem v_istore (C : vc p s m args meth c cc nL D cl tys A Ts own) {i : Nat} {x : Int32} {lv' : List (Nat × Value)} (ks : List Nat) (hdg : decode cc pc = .ok (.istore i, 2)) (hn : i < nL) (hl' : lv_pick ((i, Value.int x) :: lv.filter (fun q => !(q.1 == i) && !(q.1 + 1 == i && q.2.category == 2))) ks = lv') (kk : vv p l e R s m args below meth c nL D cl A Z cells slots Q w lv' (pc + 2) st) : vv p l e R s m args below meth c nL D cl A Z cells slots Q w lv pc (.int x :: st) :=
  fun H locs ls hZ hl hP hD hS => lv_istore C.1 C.2.1 hdg hl hn rfl (fun ls' h' => kk H locs ls' hZ (lv_sub h' ks hl') hP hD hS)
theorem v_astore_n (C : vc p s m args meth c cc nL D cl tys A Ts own) {j : Fin 4} {i : Nat} {x : Nat} {lv' : List (Nat × Value)} (ks : List Nat) (hdg : decode cc pc = .ok (.astore_n j, 1)) (hi : (j : Nat) = i) (hn : i < nL) (hl' : lv_pick ((i, Value.ref x) :: lv.filter (fun q => !(q.1 == i) && !(q.1 + 1 == i && q.2.category == 2))) ks = lv') (kk : vv p l e R s m args below meth c nL D cl A Z cells slots Q w lv' (pc + 1) st) : vv p l e R s m args below meth c nL D cl A Z cells slots Q w lv pc (.ref x :: st) :=
  fun H locs ls hZ hl hP hD hS => lv_astore_n C.1 C.2.1 hdg hi hl hn rfl (fun ls' h' => kk H locs ls' hZ (lv_sub h' ks hl') hP hD hS)
theorem v_astore (C : vc p s m args meth c cc nL D cl tys A Ts own) {i : Nat} {x : Nat} {lv' : List (Nat × Value)} (ks : List Nat) (hdg : decode cc pc = .ok (.astore i, 2)) (hn : i < nL) (hl' : lv_pick ((i, Value.ref x) :: lv.filter (fun q => !(q.1 == i) && !(q.1 + 1 == i && q.2.category == 2))) ks = lv') (kk : vv p l e R s m args below meth c nL D cl A Z cells slots Q w lv' (pc + 2) st) : vv p l e R s m args below meth c nL D cl A Z cells slots Q w lv pc (.ref x :: st) :=
  fun H locs ls hZ hl hP hD hS => lv_astore C.1 C.2.1 hdg hl hn rfl (fun ls' h' => kk H locs ls' hZ (lv_sub h' ks hl') hP hD hS)
theorem v_iinc (C : vc p s m args meth c cc nL D cl tys A Ts own) {i : Nat} {n : Int} {x v : Int32} {lv' : List (Nat × Value)} (k : Nat) (ks : List Nat) (hdg : decode cc pc = .ok (.iinc i n, 3)) (hk : lv[k]? = some (i, .int x)) (hv : x + Int32.ofInt n = v) (hn : i < nL) (hl' : lv_pick ((i, Value.int v) :: lv.filter (fun q => !(q.1 == i) && !(q.1 + 1 == i && q.2.category == 2))) ks = lv') (kk : vv p l e R s m args below meth c nL D cl A Z cells slots Q w lv' (pc + 3) st) : vv p l e R s m args below meth c nL D cl A Z cells slots Q w lv pc st :=
  fun H locs ls hZ hl hP hD hS => lv_iinc C.1 C.2.1 hdg hl hk hv hn rfl (fun ls' h' => kk H locs ls' hZ (lv_sub h' ks hl') hP hD hS)
/-- fewer locals, in another order -/
theorem v_loc {lv' : List (Nat × Value)} (ks : List Nat) (hl' : lv_pick lv ks = lv') (kk : vv p l e R s m args below meth c nL D cl A Z cells slots Q w lv' pc st) : vv p l e R s m args below meth c nL D cl A Z cells slots Q w lv pc st :=
  fun H locs ls hZ hl hP hD hS => kk H locs ls hZ (lv_sub hl ks hl') hP hD hS
/-- the top of the stack by an equal number -/
theorem v_top {x y : Int32} (h : x = y) (kk : vv p l e R s m args below meth c nL D cl A Z cells slots Q w lv pc (.int y :: st)) : vv p l e R s m args below meth c nL D cl A Z cells slots Q w lv pc (.int x :: st) := h ▸ kk
theorem v_iadd (C : vc p s m args meth c cc nL D cl tys A Ts own) {x y : Int32} (hdg : decode cc pc = .ok (.iadd, 1)) (k : vv p l e R s m args below meth c nL D cl A Z cells slots Q w lv (pc + 1) (.int (x + y) :: st)) : vv p l e R s m args below meth c nL D cl A Z cells slots Q w lv pc (.int y :: .int x :: st) :=
  fun H locs ls hZ hl hP hD hS => lv_iadd C.1 C.2.1 hdg (k H locs ls hZ hl hP hD hS)
theorem v_isub (C : vc p s m args meth c cc nL D cl tys A Ts own) {x y : Int32} (hdg : decode cc pc = .ok (.isub, 1)) (k : vv p l e R s m args below meth c nL D cl A Z cells slots Q w lv (pc + 1) (.int (x - y) :: st)) : vv p l e R s m args below meth c nL D cl A Z cells slots Q w lv pc (.int y :: .int x :: st) :=
  fun H locs ls hZ hl hP hD hS => lv_isub C.1 C.2.1 hdg (k H locs ls hZ hl hP hD hS)
theorem v_imul (C : vc p s m args meth c cc nL D cl tys A Ts own) {x y : Int32} (hdg : decode cc pc = .ok (.imul, 1)) (k : vv p l e R s m args below meth c nL D cl A Z cells slots Q w lv (pc + 1) (.int (x * y) :: st)) : vv p l e R s m args below meth c nL D cl A Z cells slots Q w lv pc (.int y :: .int x :: st) :=
  fun H locs ls hZ hl hP hD hS => lv_imul C.1 C.2.1 hdg (k H locs ls hZ hl hP hD hS)
theorem v_iand (C : vc p s m args meth c cc nL D cl tys A Ts own) {x y : Int32} (hdg : decode cc pc = .ok (.iand, 1)) (k : vv p l e R s m args below meth c nL D cl A Z cells slots Q w lv (pc + 1) (.int (x &&& y) :: st)) : vv p l e R s m args below meth c nL D cl A Z cells slots Q w lv pc (.int y :: .int x :: st) :=
  fun H locs ls hZ hl hP hD hS => lv_iand C.1 C.2.1 hdg (k H locs ls hZ hl hP hD hS)
theorem v_ior (C : vc p s m args meth c cc nL D cl tys A Ts own) {x y : Int32} (hdg : decode cc pc = .ok (.ior, 1)) (k : vv p l e R s m args below meth c nL D cl A Z cells slots Q w lv (pc + 1) (.int (x ||| y) :: st)) : vv p l e R s m args below meth c nL D cl A Z cells slots Q w lv pc (.int y :: .int x :: st) :=
  fun H locs ls hZ hl hP hD hS => lv_ior C.1 C.2.1 hdg (k H locs ls hZ hl hP hD hS)
theorem v_ixor (C : vc p s m args meth c cc nL D cl tys A Ts own) {x y : Int32} (hdg : decode cc pc = .ok (.ixor, 1)) (k : vv p l e R s m args below meth c nL D cl A Z cells slots Q w lv (pc + 1) (.int (x ^^^ y) :: st)) : vv p l e R s m args below meth c nL D cl A Z cells slots Q w lv pc (.int y :: .int x :: st) :=
  fun H locs ls hZ hl hP hD hS => lv_ixor C.1 C.2.1 hdg (k H locs ls hZ hl hP hD hS)
theorem v_ishl (C : vc p s m args meth c cc nL D cl tys A Ts own) {x y : Int32} (hdg : decode cc pc = .ok (.ishl, 1)) (k : vv p l e R s m args below meth c nL D cl A Z cells slots Q w lv (pc + 1) (.int (x <<< (y &&& 31)) :: st)) : vv p l e R s m args below meth c nL D cl A Z cells slots Q w lv pc (.int y :: .int x :: st) :=
  fun H locs ls hZ hl hP hD hS => lv_ishl C.1 C.2.1 hdg (k H locs ls hZ hl hP hD hS)
theorem v_ishr (C : vc p s m args meth c cc nL D cl tys A Ts own) {x y : Int32} (hdg : decode cc pc = .ok (.ishr, 1)) (k : vv p l e R s m args below meth c nL D cl A Z cells slots Q w lv (pc + 1) (.int (x >>> (y &&& 31)) :: st)) : vv p l e R s m args below meth c nL D cl A Z cells slots Q w lv pc (.int y :: .int x :: st) :=
  fun H locs ls hZ hl hP hD hS => lv_ishr C.1 C.2.1 hdg (k H locs ls hZ hl hP hD hS)
theorem v_iushr (C : vc p s m args meth c cc nL D cl tys A Ts own) {x y : Int32} (hdg : decode cc pc = .ok (.iushr, 1)) (k : vv p l e R s m args below meth c nL D cl A Z cells slots Q w lv (pc + 1) (.int ((x.toUInt32 >>> (y.toUInt32 &&& Int32.toUInt32 31)).toInt32) :: st)) : vv p l e R s m args below meth c nL D cl A Z cells slots Q w lv pc (.int y :: .int x :: st) :=
  fun H locs ls hZ hl hP hD hS => lv_iushr C.1 C.2.1 hdg rfl (k H locs ls hZ hl hP hD hS)
theorem v_i2l (C : vc p s m args meth c cc nL D cl tys A Ts own) {x : Int32} (hdg : decode cc pc = .ok (.i2l, 1)) (k : vv p l e R s m args below meth c nL D cl A Z cells slots Q w lv (pc + 1) (.long x.toInt64 :: st)) : vv p l e R s m args below meth c nL D cl A Z cells slots Q w lv pc (.int x :: st) :=
  fun H locs ls hZ hl hP hD hS => lv_i2l C.1 C.2.1 hdg rfl (k H locs ls hZ hl hP hD hS)
theorem v_dup (C : vc p s m args meth c cc nL D cl tys A Ts own) {va : Value} (hdg : decode cc pc = .ok (.dup, 1)) (hva : va.category = 1) (k : vv p l e R s m args below meth c nL D cl A Z cells slots Q w lv (pc + 1) (va :: va :: st)) : vv p l e R s m args below meth c nL D cl A Z cells slots Q w lv pc (va :: st) :=
  fun H locs ls hZ hl hP hD hS => lv_dup C.1 C.2.1 hdg hva (k H locs ls hZ hl hP hD hS)
theorem v_dup2 (C : vc p s m args meth c cc nL D cl tys A Ts own) {va vb : Value} (hdg : decode cc pc = .ok (.dup2, 1)) (hva : va.category = 1) (hvb : vb.category = 1) (k : vv p l e R s m args below meth c nL D cl A Z cells slots Q w lv (pc + 1) (va :: vb :: va :: vb :: st)) : vv p l e R s m args below meth c nL D cl A Z cells slots Q w lv pc (va :: vb :: st) :=
  fun H locs ls hZ hl hP hD hS => lv_dup2_11 C.1 C.2.1 hdg hva hvb (k H locs ls hZ hl hP hD hS)
theorem v_pop (C : vc p s m args meth c cc nL D cl tys A Ts own) {va : Value} (hdg : decode cc pc = .ok (.pop, 1)) (hva : va.category = 1) (k : vv p l e R s m args below meth c nL D cl A Z cells slots Q w lv (pc + 1) st) : vv p l e R s m args below meth c nL D cl A Z cells slots Q w lv pc (va :: st) :=
  fun H locs ls hZ hl hP hD hS => lv_pop C.1 C.2.1 hdg hva (k H locs ls hZ hl hP hD hS)
theorem v_goto (C : vc p s m args meth c cc nL D cl tys A Ts own) {off : Int} {tgt : Nat} (hdg : decode cc pc = .ok (.goto off, 3)) (ht : (pc : Int) + off = (tgt : Int)) (k : vv p l e R s m args below meth c nL D cl A Z cells slots Q w lv tgt st) : vv p l e R s m args below meth c nL D cl A Z cells slots Q w lv pc st :=
  fun H locs ls hZ hl hP hD hS => lv_goto C.1 C.2.1 hdg ht (k H locs ls hZ hl hP hD hS)
theorem v_if_eq (C : vc p s m args meth c cc nL D cl tys A Ts own) {x : Int32} {off : Int} {tgt : Nat} (hdg : decode cc pc = .ok (.ifCond .eq off, 3)) (ht : (pc : Int) + off = (tgt : Int)) (kt : x = 0 → vv p l e R s m args below meth c nL D cl A Z cells slots Q w lv tgt st) (kf : ¬ x = 0 → vv p l e R s m args below meth c nL D cl A Z cells slots Q w lv (pc + 3) st) : vv p l e R s m args below meth c nL D cl A Z cells slots Q w lv pc (.int x :: st) :=
  fun H locs ls hZ hl hP hD hS => lv_if_eq C.1 C.2.1 hdg ht (fun h => kt h H locs ls hZ hl hP hD hS) (fun h => kf h H locs ls hZ hl hP hD hS)
theorem v_if_ne (C : vc p s m args meth c cc nL D cl tys A Ts own) {x : Int32} {off : Int} {tgt : Nat} (hdg : decode cc pc = .ok (.ifCond .ne off, 3)) (ht : (pc : Int) + off = (tgt : Int)) (kt : ¬ x = 0 → vv p l e R s m args below meth c nL D cl A Z cells slots Q w lv tgt st) (kf : x = 0 → vv p l e R s m args below meth c nL D cl A Z cells slots Q w lv (pc + 3) st) : vv p l e R s m args below meth c nL D cl A Z cells slots Q w lv pc (.int x :: st) :=
  fun H locs ls hZ hl hP hD hS => lv_if_ne C.1 C.2.1 hdg ht (fun h => kt h H locs ls hZ hl hP hD hS) (fun h => kf h H locs ls hZ hl hP hD hS)
theorem v_if_lt (C : vc p s m args meth c cc nL D cl tys A Ts own) {x : Int32} {off : Int} {tgt : Nat} (hdg : decode cc pc = .ok (.ifCond .lt off, 3)) (ht : (pc : Int) + off = (tgt : Int)) (kt : x < 0 → vv p l e R s m args below meth c nL D cl A Z cells slots Q w lv tgt st) (kf : ¬ x < 0 → vv p l e R s m args below meth c nL D cl A Z cells slots Q w lv (pc + 3) st) : vv p l e R s m args below meth c nL D cl A Z cells slots Q w lv pc (.int x :: st) :=
  fun H locs ls hZ hl hP hD hS => lv_if_lt C.1 C.2.1 hdg ht (fun h => kt h H locs ls hZ hl hP hD hS) (fun h => kf h H locs ls hZ hl hP hD hS)
theorem v_if_ge (C : vc p s m args meth c cc nL D cl tys A Ts own) {x : Int32} {off : Int} {tgt : Nat} (hdg : decode cc pc = .ok (.ifCond .ge off, 3)) (ht : (pc : Int) + off = (tgt : Int)) (kt : 0 ≤ x → vv p l e R s m args below meth c nL D cl A Z cells slots Q w lv tgt st) (kf : ¬ 0 ≤ x → vv p l e R s m args below meth c nL D cl A Z cells slots Q w lv (pc + 3) st) : vv p l e R s m args below meth c nL D cl A Z cells slots Q w lv pc (.int x :: st) :=
  fun H locs ls hZ hl hP hD hS => lv_if_ge C.1 C.2.1 hdg ht (fun h => kt h H locs ls hZ hl hP hD hS) (fun h => kf h H locs ls hZ hl hP hD hS)
theorem v_if_gt (C : vc p s m args meth c cc nL D cl tys A Ts own) {x : Int32} {off : Int} {tgt : Nat} (hdg : decode cc pc = .ok (.ifCond .gt off, 3)) (ht : (pc : Int) + off = (tgt : Int)) (kt : 0 < x → vv p l e R s m args below meth c nL D cl A Z cells slots Q w lv tgt st) (kf : ¬ 0 < x → vv p l e R s m args below meth c nL D cl A Z cells slots Q w lv (pc + 3) st) : vv p l e R s m args below meth c nL D cl A Z cells slots Q w lv pc (.int x :: st) :=
  fun H locs ls hZ hl hP hD hS => lv_if_gt C.1 C.2.1 hdg ht (fun h => kt h H locs ls hZ hl hP hD hS) (fun h => kf h H locs ls hZ hl hP hD hS)
theorem v_if_le (C : vc p s m args meth c cc nL D cl tys A Ts own) {x : Int32} {off : Int} {tgt : Nat} (hdg : decode cc pc = .ok (.ifCond .le off, 3)) (ht : (pc : Int) + off = (tgt : Int)) (kt : x ≤ 0 → vv p l e R s m args below meth c nL D cl A Z cells slots Q w lv tgt st) (kf : ¬ x ≤ 0 → vv p l e R s m args below meth c nL D cl A Z cells slots Q w lv (pc + 3) st) : vv p l e R s m args below meth c nL D cl A Z cells slots Q w lv pc (.int x :: st) :=
  fun H locs ls hZ hl hP hD hS => lv_if_le C.1 C.2.1 hdg ht (fun h => kt h H locs ls hZ hl hP hD hS) (fun h => kf h H locs ls hZ hl hP hD hS)
theorem v_icmp_eq (C : vc p s m args meth c cc nL D cl tys A Ts own) {x y : Int32} {off : Int} {tgt : Nat} (hdg : decode cc pc = .ok (.if_icmp .eq off, 3)) (ht : (pc : Int) + off = (tgt : Int)) (kt : x = y → vv p l e R s m args below meth c nL D cl A Z cells slots Q w lv tgt st) (kf : ¬ x = y → vv p l e R s m args below meth c nL D cl A Z cells slots Q w lv (pc + 3) st) : vv p l e R s m args below meth c nL D cl A Z cells slots Q w lv pc (.int y :: .int x :: st) :=
  fun H locs ls hZ hl hP hD hS => lv_icmp_eq C.1 C.2.1 hdg ht (fun h => kt h H locs ls hZ hl hP hD hS) (fun h => kf h H locs ls hZ hl hP hD hS)
theorem v_icmp_ne (C : vc p s m args meth c cc nL D cl tys A Ts own) {x y : Int32} {off : Int} {tgt : Nat} (hdg : decode cc pc = .ok (.if_icmp .ne off, 3)) (ht : (pc : Int) + off = (tgt : Int)) (kt : ¬ x = y → vv p l e R s m args below meth c nL D cl A Z cells slots Q w lv tgt st) (kf : x = y → vv p l e R s m args below meth c nL D cl A Z cells slots Q w lv (pc + 3) st) : vv p l e R s m args below meth c nL D cl A Z cells slots Q w lv pc (.int y :: .int x :: st) :=
  fun H locs ls hZ hl hP hD hS => lv_icmp_ne C.1 C.2.1 hdg ht (fun h => kt h H locs ls hZ hl hP hD hS) (fun h => kf h H locs ls hZ hl hP hD hS)
theorem v_icmp_lt (C : vc p s m args meth c cc nL D cl tys A Ts own) {x y : Int32} {off : Int} {tgt : Nat} (hdg : decode cc pc = .ok (.if_icmp .lt off, 3)) (ht : (pc : Int) + off = (tgt : Int)) (kt : x < y → vv p l e R s m args below meth c nL D cl A Z cells slots Q w lv tgt st) (kf : ¬ x < y → vv p l e R s m args below meth c nL D cl A Z cells slots Q w lv (pc + 3) st) : vv p l e R s m args below meth c nL D cl A Z cells slots Q w lv pc (.int y :: .int x :: st) :=
  fun H locs ls hZ hl hP hD hS => lv_icmp_lt C.1 C.2.1 hdg ht (fun h => kt h H locs ls hZ hl hP hD hS) (fun h => kf h H locs ls hZ hl hP hD hS)
theorem v_icmp_ge (C : vc p s m args meth c cc nL D cl tys A Ts own) {x y : Int32} {off : Int} {tgt : Nat} (hdg : decode cc pc = .ok (.if_icmp .ge off, 3)) (ht : (pc : Int) + off = (tgt : Int)) (kt : y ≤ x → vv p l e R s m args below meth c nL D cl A Z cells slots Q w lv tgt st) (kf : ¬ y ≤ x → vv p l e R s m args below meth c nL D cl A Z cells slots Q w lv (pc + 3) st) : vv p l e R s m args below meth c nL D cl A Z cells slots Q w lv pc (.int y :: .int x :: st) :=
  fun H locs ls hZ hl hP hD hS => lv_icmp_ge C.1 C.2.1 hdg ht (fun h => kt h H locs ls hZ hl hP hD hS) (fun h => kf h H locs ls hZ hl hP hD hS)
theorem v_icmp_gt (C : vc p s m args meth c cc nL D cl tys A Ts own) {x y : Int32} {off : Int} {tgt : Nat} (hdg : decode cc pc = .ok (.if_icmp .gt off, 3)) (ht : (pc : Int) + off = (tgt : Int)) (kt : y < x → vv p l e R s m args below meth c nL D cl A Z cells slots Q w lv tgt st) (kf : ¬ y < x → vv p l e R s m args below meth c nL D cl A Z cells slots Q w lv (pc + 3) st) : vv p l e R s m args below meth c nL D cl A Z cells slots Q w lv pc (.int y :: .int x :: st) :=
  fun H locs ls hZ hl hP hD hS => lv_icmp_gt C.1 C.2.1 hdg ht (fun h => kt h H locs ls hZ hl hP hD hS) (fun h => kf h H locs ls hZ hl hP hD hS)
theorem v_icmp_le (C : vc p s m args meth c cc nL D cl tys A Ts own) {x y : Int32} {off : Int} {tgt : Nat} (hdg : decode cc pc = .ok (.if_icmp .le off, 3)) (ht : (pc : Int) + off = (tgt : Int)) (kt : x ≤ y → vv p l e R s m args below meth c nL D cl A Z cells slots Q w lv tgt st) (kf : ¬ x ≤ y → vv p l e R s m args below meth c nL D cl A Z cells slots Q w lv (pc + 3) st) : vv p l e R s m args below meth c nL D cl A Z cells slots Q w lv pc (.int y :: .int x :: st) :=
  fun H locs ls hZ hl hP hD hS => lv_icmp_le C.1 C.2.1 hdg ht (fun h => kt h H locs ls hZ hl hP hD hS) (fun h => kf h H locs ls hZ hl hP hD hS)
theorem v_get (C : vc p s m args meth c cc nL D cl tys A Ts own) {ref CN : String} {T : u_T} {N ci index a : Nat} (hin : ∀ x ∈ u_ws CN T N, x ∈ Ts) (q0 : Nat) {fs : List Value} (he : w[q0]? = some (a, .inr (ci, fs))) (hc : cl[ci]? = some (CN, T, N)) (k : Nat) (hk : k < N) (hlink : Cond.fieldLink own index ref (T k).2.1 (T k).2.2.1 ∈ Ts) (href : (T k).1 = ref) {v : Value} (hv : fs[k]? = some v) (hdg : decode cc pc = .ok (.getfield index, 3)) (kk : vv p l e R s m args below meth c nL D cl A Z cells slots Q w lv (pc + 3) (v :: st)) : vv p l e R s m args below meth c nL D cl A Z cells slots Q w lv pc (.ref a :: st) :=
  fun H locs ls hZ hl hP hD hS => va_get C.1 C.2.1 C.2.2.2.2.1 hin C.2.2.2.1 C.2.2.2.2.2.1 hP q0 he hc k hk (C.2.2.2.2.1 _ hlink) (fun x h => by rw [← href]; exact h) hv hdg (kk H locs ls hZ hl hP hD hS)
theorem v_put (C : vc p s m args meth c cc nL D cl tys A Ts own) {ref CN : String} {T : u_T} {N ci index a : Nat} (hin : ∀ x ∈ u_ws CN T N, x ∈ Ts) (ty0 : Nat → FieldType) (hty : ∀ k, k < N → parseFieldDescriptor (T k).2.2.1 = some (ty0 k)) (hnm : ∀ a, a < N → ∀ b, b < N → a ≠ b → (T a).2.1 ≠ (T b).2.1) (q0 : Nat) {fs : List Value} (he : w[q0]? = some (a, .inr (ci, fs))) (hc : cl[ci]? = some (CN, T, N)) (k : Nat) (hk : k < N) (hlink : Cond.fieldLink own index ref (T k).2.1 (T k).2.2.1 ∈ Ts) (href : (T k).1 = ref) (hfin : (T k).2.2.2 = false) {v : Value} (hn : narrow (ty0 k) v = v) (hfit : fits (ty0 k) v = true) (hlen : k < fs.length) (hdg : decode cc pc = .ok (.putfield index, 3)) {w1 : va_W} (hw : w.set q0 (a, .inr (ci, fs.set k v)) = w1) (kk : vv p l e R s m args below meth c nL D cl A vT cells slots Q w1 lv (pc + 3) st) : vv p l e R s m args below meth c nL D cl A Z cells slots Q w lv pc (v :: .ref a :: st) :=
  fun H locs ls hZ hl hP hD hS => va_put C.1 C.2.1 C.2.2.2.2.1 hin ty0 hty hnm C.2.2.2.1 C.2.2.2.2.2.1 hP hD hS q0 he hc k hk (C.2.2.2.2.1 _ hlink) (fun x h => by rw [← href]; exact h) hfin (hty k hk) hn hfit hlen hdg (fun H1 locs1 hP1 hD1 hS1 => kk H1 locs1 ls trivial hl (hw ▸ hP1) (hw ▸ hD1) hS1)
theorem v_putF (C : vc p s m args meth c cc nL D cl tys A Ts own) {ref CN : String} {T : u_T} {N ci index a : Nat} (hin : ∀ x ∈ u_ws CN T N, x ∈ Ts) (ty0 : Nat → FieldType) (hty : ∀ k, k < N → parseFieldDescriptor (T k).2.2.1 = some (ty0 k)) (hnm : ∀ a, a < N → ∀ b, b < N → a ≠ b → (T a).2.1 ≠ (T b).2.1) (q0 : Nat) {fs : List Value} (he : w[q0]? = some (a, .inr (ci, fs))) (hc : cl[ci]? = some (CN, T, N)) (k : Nat) (hk : k < N) (hlink : Cond.fieldLink own index ref (T k).2.1 (T k).2.2.1 ∈ Ts) (href : (T k).1 = ref) (hfin : (T k).2.2.2 = true) (hin2 : meth.name = "<init>") (hdecl : (T k).1 = own) {v : Value} (hn : narrow (ty0 k) v = v) (hfit : fits (ty0 k) v = true) (hlen : k < fs.length) (hdg : decode cc pc = .ok (.putfield index, 3)) {w1 : va_W} (hw : w.set q0 (a, .inr (ci, fs.set k v)) = w1) (kk : vv p l e R s m args below meth c nL D cl A vT cells slots Q w1 lv (pc + 3) st) : vv p l e R s m args below meth c nL D cl A Z cells slots Q w lv pc (v :: .ref a :: st) :=
  fun H locs ls hZ hl hP hD hS => va_putF C.1 C.2.1 C.2.2.2.2.1 hin ty0 hty hnm C.2.2.2.1 C.2.2.2.2.2.1 hP hD hS q0 he hc k hk (C.2.2.2.2.1 _ hlink) (fun x h => by rw [← href]; exact h) hfin hin2 hdecl (hty k hk) hn hfit hlen hdg (fun H1 locs1 hP1 hD1 hS1 => kk H1 locs1 ls trivial hl (hw ▸ hP1) (hw ▸ hD1) hS1)
theorem v_iald (C : vc p s m args meth c cc nL D cl tys A Ts own) (q0 t0 : Nat) {cA : ClassId} {n a : Nat} {f : Nat → Int32} (ha : w[q0]? = some (a, .inl (cA, n, .inl f))) (ht : tys[t0]? = some (cA, .int)) {i y : Int32} {j : Nat} (hj : i.toNatClampNeg = j) (hy : f j = y) (hin : vp_in i n) (hdg : decode cc pc = .ok (.iaload, 1)) (kk : vv p l e R s m args below meth c nL D cl A Z cells slots Q w lv (pc + 1) (.int y :: st)) : vv p l e R s m args below meth c nL D cl A Z cells slots Q w lv pc (.int i :: .ref a :: st) :=
  fun H locs ls hZ hl hP hD hS => va_iald C.1 C.2.1 C.2.2.2.2.2.1 hP q0 t0 ha ht hin hdg (by rw [hj, hy]; exact kk H locs ls hZ hl hP hD hS)
theorem v_zald (C : vc p s m args meth c cc nL D cl tys A Ts own) (q0 t0 : Nat) {cA : ClassId} {n a : Nat} {f : Nat → Int32} (ha : w[q0]? = some (a, .inl (cA, n, .inl f))) (ht : tys[t0]? = some (cA, .boolean)) {i y : Int32} {j : Nat} (hj : i.toNatClampNeg = j) (hy : f j = y) (hin : vp_in i n) (hdg : decode cc pc = .ok (.baload, 1)) (kk : vv p l e R s m args below meth c nL D cl A Z cells slots Q w lv (pc + 1) (.int y :: st)) : vv p l e R s m args below meth c nL D cl A Z cells slots Q w lv pc (.int i :: .ref a :: st) :=
  fun H locs ls hZ hl hP hD hS => va_zald C.1 C.2.1 C.2.2.2.2.2.1 hP q0 t0 ha ht hin hdg (by rw [hj, hy]; exact kk H locs ls hZ hl hP hD hS)
theorem v_lald (C : vc p s m args meth c cc nL D cl tys A Ts own) (q0 t0 : Nat) {cA : ClassId} {n a : Nat} {f : Nat → Int64} (ha : w[q0]? = some (a, .inl (cA, n, .inr (.inl f)))) (ht : tys[t0]? = some (cA, .long)) {i : Int32} {y : Int64} {j : Nat} (hj : i.toNatClampNeg = j) (hy : f j = y) (hin : vp_in i n) (hdg : decode cc pc = .ok (.laload, 1)) (kk : vv p l e R s m args below meth c nL D cl A Z cells slots Q w lv (pc + 1) (.long y :: st)) : vv p l e R s m args below meth c nL D cl A Z cells slots Q w lv pc (.int i :: .ref a :: st) :=
  fun H locs ls hZ hl hP hD hS => va_lald C.1 C.2.1 C.2.2.2.2.2.1 hP q0 t0 ha ht hin hdg (by rw [hj, hy]; exact kk H locs ls hZ hl hP hD hS)
theorem v_iast (C : vc p s m args meth c cc nL D cl tys A Ts own) (q0 t0 : Nat) {cA : ClassId} {n a : Nat} {f : Nat → Int32} (ha : w[q0]? = some (a, .inl (cA, n, .inl f))) (ht : tys[t0]? = some (cA, .int)) {i x : Int32} {j : Nat} {f1 : Nat → Int32} (hj : i.toNatClampNeg = j) (hf : upd f j x = f1) (hin : vp_in i n) (hdg : decode cc pc = .ok (.iastore, 1)) {w1 : va_W} (hw : w.set q0 (a, .inl (cA, n, .inl f1)) = w1) (kk : vv p l e R s m args below meth c nL D cl A vT cells slots Q w1 lv (pc + 1) st) : vv p l e R s m args below meth c nL D cl A Z cells slots Q w lv pc (.int x :: .int i :: .ref a :: st) :=
  fun H locs ls hZ hl hP hD hS => va_iast C.1 C.2.1 C.2.2.2.2.2.1 hP hD hS q0 t0 ha ht hin hdg (fun H1 locs1 hP1 hD1 hS1 => by rw [hj, hf, hw] at hP1 hD1; exact kk H1 locs1 ls trivial hl hP1 hD1 hS1)
theorem v_zast (C : vc p s m args meth c cc nL D cl tys A Ts own) (q0 t0 : Nat) {cA : ClassId} {n a : Nat} {f : Nat → Int32} (ha : w[q0]? = some (a, .inl (cA, n, .inl f))) (ht : tys[t0]? = some (cA, .boolean)) {i x y : Int32} {j : Nat} {f1 : Nat → Int32} (hj : i.toNatClampNeg = j) (hx : vp_nar .boolean x = y) (hf : upd f j y = f1) (hin : vp_in i n) (hdg : decode cc pc = .ok (.bastore, 1)) {w1 : va_W} (hw : w.set q0 (a, .inl (cA, n, .inl f1)) = w1) (kk : vv p l e R s m args below meth c nL D cl A vT cells slots Q w1 lv (pc + 1) st) : vv p l e R s m args below meth c nL D cl A Z cells slots Q w lv pc (.int x :: .int i :: .ref a :: st) :=
  fun H locs ls hZ hl hP hD hS => va_zast C.1 C.2.1 C.2.2.2.2.2.1 hP hD hS q0 t0 ha ht hin hdg (fun H1 locs1 hP1 hD1 hS1 => by rw [hj, hx, hf, hw] at hP1 hD1; exact kk H1 locs1 ls trivial hl hP1 hD1 hS1)
end VVR
theorem fm_of_map {α β : Type} {f : α → Option β} {l : List α} {m : List β} (h : l.map f = m.map some) : l.filterMap f = m := by
  have h1 : l.filterMap f = (l.map f).filterMap id := by rw [List.filterMap_map]; rfl
  rw [h1, h]
  simp
theorem rng_map {α : Type} (w : List α) : (List.range w.length).map (fun i => w[i]?) = w.map some := by
  apply List.ext_getElem?
  intro i
  by_cases h : i < w.length
  · simp [List.getElem?_map, h]
  · simp [List.getElem?_map, h]
/-- THE HEAD OF ANY METHOD -/
theorem v_ent {l : Launch} {y : MethodName} {ws ws' : List Cond} {rm : Room} {D : va_G} {cl : List vw_C} {tys : List (ClassId × FieldType)} {av : List Value} {w : va_W} {sz : Nat} {cc : ByteArray} {maxL mc ms : Nat} {ret : Option FieldType} {Qc : (Nat → Prop) → Array Value → State → Outcome → State → Prop} {fr : (Nat → Prop) → Nat → Prop} {own : String}
    (ho : y.cls = own) (hy : plainName y.cls = true) (hw : ws = Cond.code y cc maxL ret :: ws') (hlen : (lg_sl av).length ≤ maxL) {lv : List (Nat × Value)} (hlv : lv_args 0 av = lv)
    (body : ∀ (p : Program) (e : Env) (s : State) (m : MethodId) (args : Array Value) (below : List Frame) (meth : Method) (c : Code) (A : Nat → Prop), vc p s m args meth c cc maxL D cl tys A ws own → meth.sig.returnType = ret → meth.name = y.name →
      vv p l e (headSpec ws rm).room s m args below meth c maxL D cl A (vR s) 0 0 (MQ below (Qc A) args s mc ms (fr A)) w lv 0 []) :
    Met l y ws rm (va_Pc av (wP D cl tys w sz)) (Qc (va_A w sz)) mc ms (fr (va_A w sz)) := by
  refine Met.ofW (cc := cc) (maxL := maxL) (ret := ret) hy hw ?_
  intro p e s m args below meth c s₁ B hml hv
  obtain ⟨rfl, hsz, hP, hK, hD0⟩ := hv
  subst hsz
  have hts := atoms_spec (ws := ws) B.pre
  have hown : s.vm.findClass own = some m.cls := ho ▸ findClass_of_methodNamed B.named
  rw [lg_entry_eq]
  exact body p e s m _ below meth c (va_A w s.heap.size) ⟨B.exec, B.bytes, hml, hown, hts, hK, fun q h => Or.inr h, B.notSynchronized⟩ B.returns (name_of_methodNamed B.named B.method).1 s.heap [] _ ⟨rfl, rfl⟩ (hlv ▸ lv_entry av hlen) hP hD0.self va_S.rf
section VVC
variable {p : Program} {l : Launch} {e : Env} {R : Room} {s : State} {m : MethodId} {args : Array Value} {below : List Frame} {meth : Method} {c : Code} {cells slots : Nat} {Q : State → Prop}
variable {cc : ByteArray} {pc nL : Nat} {st : List Value} {D : va_G} {cl : List vw_C} {tys : List (ClassId × FieldType)} {A : Nat → Prop} {Z : Heap → List Loc → Prop} {w : va_W} {lv : List (Nat × Value)} {Ts : List Cond} {own : String}
/-- the end: an int -/
theorem v_iret (C : vc p s m args meth c cc nL D cl tys A Ts own) (hr : meth.sig.returnType = some .int) {x r : Int32} (hx : x = r) {w1 : va_W} (hw : w = w1) (hdg : decode cc pc = .ok (.ireturn, 1)) :
    vv p l e R s m args below meth c nL D cl A Z cells slots (MQ below (va_Qi (fun (x : Int32) (_ : Unit) => x = r) (fun _ => wB D cl tys A w1) A) args s cells slots A) w lv pc [.int x] :=
  fun H locs ls hZ hl hP hD hS => W.iret C.1 C.2.1 hr (fun t ht hW => ⟨⟨x, (), rfl, hx, by rw [ht, ← hw]; exact hP, va_K.moved hW.alike C.2.2.2.2.2.1, hw ▸ hD⟩, hS.F ht⟩) hS.2.2 hdg C.2.2.2.2.2.2.2
/-- the end: a boolean (byte, short, char) -/
theorem v_zret (C : vc p s m args meth c cc nL D cl tys A Ts own) {ty : FieldType} (hr : meth.sig.returnType = some ty) {x r : Int32} (hn : narrow ty (.int x) = .int x) (hx : x = r) {w1 : va_W} (hw : w = w1) (hdg : decode cc pc = .ok (.ireturn, 1)) :
    vv p l e R s m args below meth c nL D cl A Z cells slots (MQ below (va_Qi (fun (x : Int32) (_ : Unit) => x = r) (fun _ => wB D cl tys A w1) A) args s cells slots A) w lv pc [.int x] :=
  fun H locs ls hZ hl hP hD hS => W.zret C.1 C.2.1 hr hn (fun t ht hW => ⟨⟨x, (), rfl, hx, by rw [ht, ← hw]; exact hP, va_K.moved hW.alike C.2.2.2.2.2.1, hw ▸ hD⟩, hS.F ht⟩) hS.2.2 hdg C.2.2.2.2.2.2.2
theorem v_irr (C : vc p s m args meth c cc nL D cl tys A Ts own) (hr : meth.sig.returnType = some .int) {x r : Int32} (hx : x = r) (hdg : decode cc pc = .ok (.ireturn, 1)) :
    vv p l e R s m args below meth c nL D cl A (vR s) cells slots (MQ below (fun _ st oc t => oc = .returned (some (.int r)) ∧ t.heap = st.heap) args s cells slots (fun _ => False)) w lv pc [.int x] :=
  fun H locs ls hZ hl hP hD hS => W.iret C.1 C.2.1 hr (fun t ht hW => ⟨by rw [hx], ht.trans hZ.1⟩) (by rw [hZ.2]; intro q hq; cases hq) hdg C.2.2.2.2.2.2.2
theorem v_zrr (C : vc p s m args meth c cc nL D cl tys A Ts own) {ty : FieldType} (hr : meth.sig.returnType = some ty) {x r : Int32} (hn : narrow ty (.int x) = .int x) (hx : x = r) (hdg : decode cc pc = .ok (.ireturn, 1)) :
    vv p l e R s m args below meth c nL D cl A (vR s) cells slots (MQ below (fun _ st oc t => oc = .returned (some (.int r)) ∧ t.heap = st.heap) args s cells slots (fun _ => False)) w lv pc [.int x] :=
  fun H locs ls hZ hl hP hD hS => W.zret C.1 C.2.1 hr hn (fun t ht hW => ⟨by rw [hx], ht.trans hZ.1⟩) (by rw [hZ.2]; intro q hq; cases hq) hdg C.2.2.2.2.2.2.2
/-- the end: nothing -/
theorem v_vret (C : vc p s m args meth c cc nL D cl tys A Ts own) (hr : meth.sig.returnType = none) {w1 : va_W} (hw : w = w1) (hdg : decode cc pc = .ok (.return_, 1)) :
    vv p l e R s m args below meth c nL D cl A Z cells slots (MQ below (va_Qv (fun (_ : Unit) => True) (fun _ => wB D cl tys A w1) A) args s cells slots A) w lv pc [] :=
  fun H locs ls hZ hl hP hD hS => W.vret C.1 C.2.1 hr (fun t ht hW => ⟨⟨(), rfl, trivial, by rw [ht, ← hw]; exact hP, va_K.moved hW.alike C.2.2.2.2.2.1, hw ▸ hD⟩, hS.F ht⟩) hS.2.2 hdg C.2.2.2.2.2.2.2
/-- a call: the callee's cells out, the rest beside what came back, in the order that isF says -/
theorem v_calli {wc w1 wr w' : va_W} {r : Int32} {st0 : List Value} {a : Array Value} (C : vc p s m args meth c cc nL D cl tys A Ts own) (isC isR isF : List Nat) (hnC : va_nd isC = true) (hC : isC.map (fun i => w[i]?) = wc.map some) (hR : isR.map (fun i => w[i]?) = wr.map some) (hn : va_nd isR = true) (hdis : ∀ i ∈ isR, i ∉ isC) (hnF : va_nd isF = true) (hF : isF.map (fun i => (wr ++ w1)[i]?) = w'.map some)
    (hrun : ∀ (H : Heap) (locs : List Loc) (ls : Array Slot), ls.size = nL → va_P D cl wc H → va_D (fun _ => True) wc → va_Run p l e R s m args below meth c H locs cells slots 0 0 (F0 m pc ls st0) st (va_Qi (fun (x : Int32) (_ : Unit) => x = r) (fun _ => wB D cl tys (va_A wc H.size) w1) (va_A wc H.size) a) (va_A wc H.size))
    (kk : vv p l e R s m args below meth c nL D cl A vT cells slots Q w' lv (pc + 3) (.int r :: st)) : vv p l e R s m args below meth c nL D cl A Z cells slots Q w lv pc st0 := by
  intro H locs ls hZ hl hP hD hS
  have hPc : va_P D cl wc H := hP.sub isC (fm_of_map hC)
  have hFc := va_free (wc := wc) hD hS C.2.2.2.2.2.2.1 isC hC
  have hDc : va_D (fun _ => True) wc := (hD.sub isC hnC hC).weaken (fun _ _ _ _ => trivial)
  refine va_calli (hrun H locs ls hl.1 hPc hDc) hS (fun q _ h => hFc q h) hFc (fun x u t H1 locs1 ht hvm hw hB hz1 hk1 hS1 => ?_)
  obtain ⟨hP1, hK1, hD1⟩ := hB
  rw [ht] at hP1
  obtain ⟨hP2, hD2⟩ := va_join (wr := wr) (w1 := w1) hP hD isC isR hC hR hn hdis hk1 hFc hP1 hD1
  have hw : x = r := hw
  subst hw
  exact kk H1 locs1 ls trivial hl (hP2.sub isF (fm_of_map hF)) (hD2.sub isF hnF hF) hS1
theorem v_callv {wc w1 wr w' : va_W} {st0 : List Value} {a : Array Value} (C : vc p s m args meth c cc nL D cl tys A Ts own) (isC isR isF : List Nat) (hnC : va_nd isC = true) (hC : isC.map (fun i => w[i]?) = wc.map some) (hR : isR.map (fun i => w[i]?) = wr.map some) (hn : va_nd isR = true) (hdis : ∀ i ∈ isR, i ∉ isC) (hnF : va_nd isF = true) (hF : isF.map (fun i => (wr ++ w1)[i]?) = w'.map some)
    (hrun : ∀ (H : Heap) (locs : List Loc) (ls : Array Slot), ls.size = nL → va_P D cl wc H → va_D (fun _ => True) wc → va_Run p l e R s m args below meth c H locs cells slots 0 0 (F0 m pc ls st0) st (va_Qv (fun (_ : Unit) => True) (fun _ => wB D cl tys (va_A wc H.size) w1) (va_A wc H.size) a) (va_A wc H.size))
    (kk : vv p l e R s m args below meth c nL D cl A vT cells slots Q w' lv (pc + 3) (st)) : vv p l e R s m args below meth c nL D cl A Z cells slots Q w lv pc st0 := by
  intro H locs ls hZ hl hP hD hS
  have hPc : va_P D cl wc H := hP.sub isC (fm_of_map hC)
  have hFc := va_free (wc := wc) hD hS C.2.2.2.2.2.2.1 isC hC
  have hDc : va_D (fun _ => True) wc := (hD.sub isC hnC hC).weaken (fun _ _ _ _ => trivial)
  refine va_callv (hrun H locs ls hl.1 hPc hDc) hS (fun q _ h => hFc q h) hFc (fun u t H1 locs1 ht hvm hw hB hz1 hk1 hS1 => ?_)
  obtain ⟨hP1, hK1, hD1⟩ := hB
  rw [ht] at hP1
  obtain ⟨hP2, hD2⟩ := va_join (wr := wr) (w1 := w1) hP hD isC isR hC hR hn hdis hk1 hFc hP1 hD1
  exact kk H1 locs1 ls trivial hl (hP2.sub isF (fm_of_map hF)) (hD2.sub isF hnF hF) hS1
theorem v_calliF {w1 : va_W} {r : Int32} {st0 : List Value} {a : Array Value} (C : vc p s m args meth c cc nL D cl tys A Ts own)
    (hrun : ∀ (H : Heap) (locs : List Loc) (ls : Array Slot), ls.size = nL → va_P D cl w H → va_D (fun _ => True) w → va_Run p l e R s m args below meth c H locs cells slots 0 0 (F0 m pc ls st0) st (va_Qi (fun (x : Int32) (_ : Unit) => x = r) (fun _ => wB D cl tys (va_A w H.size) w1) (va_A w H.size) a) (va_A w H.size))
    (kk : vv p l e R s m args below meth c nL D cl A vT cells slots Q w1 lv (pc + 3) (.int r :: st)) : vv p l e R s m args below meth c nL D cl A Z cells slots Q w lv pc st0 := by
  intro H locs ls hZ hl hP hD hS
  have hFc := va_free (wc := w) hD hS C.2.2.2.2.2.2.1 (List.range w.length) (rng_map w)
  refine va_calli (hrun H locs ls hl.1 hP (hD.weaken (fun _ _ _ _ => trivial))) hS (fun q _ h => hFc q h) hFc (fun x u t H1 locs1 ht hvm hw hB hz1 hk1 hS1 => ?_)
  obtain ⟨hP1, hK1, hD1⟩ := hB
  rw [ht] at hP1
  have hw : x = r := hw
  subst hw
  exact kk H1 locs1 ls trivial hl hP1 (hD1.weaken (fun _ q _ h => hFc _ h)) hS1
theorem v_callvF {w1 : va_W} {st0 : List Value} {a : Array Value} (C : vc p s m args meth c cc nL D cl tys A Ts own)
    (hrun : ∀ (H : Heap) (locs : List Loc) (ls : Array Slot), ls.size = nL → va_P D cl w H → va_D (fun _ => True) w → va_Run p l e R s m args below meth c H locs cells slots 0 0 (F0 m pc ls st0) st (va_Qv (fun (_ : Unit) => True) (fun _ => wB D cl tys (va_A w H.size) w1) (va_A w H.size) a) (va_A w H.size))
    (kk : vv p l e R s m args below meth c nL D cl A vT cells slots Q w1 lv (pc + 3) (st)) : vv p l e R s m args below meth c nL D cl A Z cells slots Q w lv pc st0 := by
  intro H locs ls hZ hl hP hD hS
  have hFc := va_free (wc := w) hD hS C.2.2.2.2.2.2.1 (List.range w.length) (rng_map w)
  refine va_callv (hrun H locs ls hl.1 hP (hD.weaken (fun _ _ _ _ => trivial))) hS (fun q _ h => hFc q h) hFc (fun u t H1 locs1 ht hvm hw hB hz1 hk1 hS1 => ?_)
  obtain ⟨hP1, hK1, hD1⟩ := hB
  rw [ht] at hP1
  exact kk H1 locs1 ls trivial hl hP1 (hD1.weaken (fun _ q _ h => hFc _ h)) hS1
theorem v_calli0 {r : Int32} {st0 : List Value} {a : Array Value} (C : vc p s m args meth c cc nL D cl tys A Ts own)
    (hrun : ∀ (H : Heap) (locs : List Loc) (ls : Array Slot), ls.size = nL → va_P D cl [] H → va_D (fun _ => True) ([] : va_W) → va_Run p l e R s m args below meth c H locs cells slots 0 0 (F0 m pc ls st0) st (va_Qi (fun (x : Int32) (_ : Unit) => x = r) (fun _ => wB D cl tys (va_A [] H.size) []) (va_A [] H.size) a) (va_A [] H.size))
    (kk : vv p l e R s m args below meth c nL D cl A vT cells slots Q w lv (pc + 3) (.int r :: st)) : vv p l e R s m args below meth c nL D cl A Z cells slots Q w lv pc st0 := by
  intro H locs ls hZ hl hP hD hS
  have hFc := va_free (wc := []) hD hS C.2.2.2.2.2.2.1 [] rfl
  refine va_calli (hrun H locs ls hl.1 (fun k q h => by cases h) ⟨fun i j p q h => (by cases h), fun k q h => (by cases h)⟩) hS (fun q _ h => hFc q h) hFc (fun x u t H1 locs1 ht hvm hw hB hz1 hk1 hS1 => ?_)
  have hw : x = r := hw
  subst hw
  have hP2 : va_P D cl w H1 := hP.kept (fun k q hq => hk1 q.1 ((hP k q hq).lt) (fun hA => by
    rcases hA with ⟨k, e, h⟩ | h
    · cases h
    · exact absurd ((hP _ _ hq).lt) (Nat.not_lt.mpr h)))
  exact kk H1 locs1 ls trivial hl hP2 hD hS1
end VVC
section VVK
variable {p : Program} {l : Launch} {e : Env} {R : Room} {s : State} {m : MethodId} {args : Array Value} {below : List Frame} {meth : Method} {c : Code} {cells slots : Nat} {Q : State → Prop}
variable {cc : ByteArray} {pc nL : Nat} {st : List Value} {D : va_G} {cl : List vw_C} {tys : List (ClassId × FieldType)} {A : Nat → Prop} {Z : Heap → List Loc → Prop} {w : va_W} {lv : List (Nat × Value)} {Ts : List Cond} {own : String}
variable {y : MethodName} {ws : List Cond} {rm : Room} {CN : String} {index maxL n : Nat} {bytes : ByteArray} {ret : Option FieldType} {wc w1 wr w' : va_W} {r : Int32} {As st0 : List Value} {b ci N : Nat} {fs : List Value} {T : u_T}
theorem v_callr (C : vc p s m args meth c cc nL D cl tys A Ts own)
    (hrun : ∀ (H : Heap) (locs : List Loc) (ls : Array Slot), ls.size = nL → va_P D cl w H → va_D A w → va_Run p l e R s m args below meth c H locs cells slots 0 0 (F0 m pc ls st0) st (fun (st1 : State) (oc : Outcome) (t : State) => oc = .returned (some (.int r)) ∧ t.heap = st1.heap) (fun _ => False))
    (kk : vv p l e R s m args below meth c nL D cl A Z cells slots Q w lv (pc + 3) (.int r :: st)) : vv p l e R s m args below meth c nL D cl A Z cells slots Q w lv pc st0 := by
  intro H locs ls hZ hl hP hD hS T hT X
  obtain ⟨v, st₀, t, T', L, h0, X', hL, hh, hvm, ⟨hv, hq⟩, hgo⟩ := hrun H locs ls hl.1 hP hD T hT X
  have hL0 : L = [] := List.eq_nil_iff_forall_not_mem.mpr (fun q hq => hL q hq)
  subst hL0
  rw [List.append_nil] at X'
  have hv : v = some (.int r) := by cases hv; rfl
  subst hv
  obtain ⟨tt, a1, b1⟩ := kk H locs ls hZ hl hP hD hS T' (by rw [hh, hq, h0]) X'
  exact ⟨tt, hgo tt a1, b1⟩
theorem v_cVr (C : vc p s m args meth c cc nL D cl tys A Ts own) (hM : Kr l y ws rm D cl tys (.ref b :: As) wc r) (cw : CallW R s args own CN index y bytes maxL ret ws rm 0 0 n) (q0 : Nat) (he : wc[q0]? = some (b, .inr (ci, fs))) (hc : cl[ci]? = some (CN, T, N)) (hnA : As.length = n) (hst : st0 = As.reverse ++ .ref b :: st) (hwt : (st.map fun v => v.category).sum ≤ 8) (hcs : cells ≤ R.cells ∧ slots ≤ R.slots) (hdg : decode cc pc = .ok (.invokevirtual index, 3)) (isC : List Nat) (hnC : va_nd isC = true) (hC : isC.map (fun i => w[i]?) = wc.map some) (kk : vv p l e R s m args below meth c nL D cl A Z cells slots Q w lv (pc + 3) (.int r :: st)) : vv p l e R s m args below meth c nL D cl A Z cells slots Q w lv pc st0 :=
  v_callr C (fun H locs ls hls hP0 hD0 => by
    have hP : va_P D cl wc H := hP0.sub isC (fm_of_map hC)
    have hD : va_D (fun _ => True) wc := (hD0.sub isC hnC hC).weaken (fun _ _ _ _ => trivial)
    exact va_runV ⟨C.1, C.2.1, C.2.2.1, C.2.2.2.1, C.2.2.2.2.1⟩ (hM H.size) cw ⟨wP_blind, va_recv C.2.2.2.2.2.1 hP hc he, fun U hU hW => ⟨rfl, by rw [hU], by rw [hU]; exact hP, va_K.moved hW.alike C.2.2.2.2.2.1, hD⟩⟩ rfl hnA hls hst (lv_room hwt) hdg hcs) kk
theorem v_cVrF (C : vc p s m args meth c cc nL D cl tys A Ts own) (hM : Kr l y ws rm D cl tys (.ref b :: As) w r) (cw : CallW R s args own CN index y bytes maxL ret ws rm 0 0 n) (q0 : Nat) (he : w[q0]? = some (b, .inr (ci, fs))) (hc : cl[ci]? = some (CN, T, N)) (hnA : As.length = n) (hst : st0 = As.reverse ++ .ref b :: st) (hwt : (st.map fun v => v.category).sum ≤ 8) (hcs : cells ≤ R.cells ∧ slots ≤ R.slots) (hdg : decode cc pc = .ok (.invokevirtual index, 3)) (kk : vv p l e R s m args below meth c nL D cl A Z cells slots Q w lv (pc + 3) (.int r :: st)) : vv p l e R s m args below meth c nL D cl A Z cells slots Q w lv pc st0 :=
  v_callr C (fun H locs ls hls hP hD0 => by
    have hD : va_D (fun _ => True) w := hD0.weaken (fun _ _ _ _ => trivial)
    exact va_runV ⟨C.1, C.2.1, C.2.2.1, C.2.2.2.1, C.2.2.2.2.1⟩ (hM H.size) cw ⟨wP_blind, va_recv C.2.2.2.2.2.1 hP hc he, fun U hU hW => ⟨rfl, by rw [hU], by rw [hU]; exact hP, va_K.moved hW.alike C.2.2.2.2.2.1, hD⟩⟩ rfl hnA hls hst (lv_room hwt) hdg hcs) kk
theorem v_cSr0 (C : vc p s m args meth c cc nL D cl tys A Ts own) (hM : Kr l y ws rm D cl tys As [] r) (cw : CallB R s args own index y bytes maxL ret ws rm 0 0 n ∧ (Cond.static y).before args s = true) (hnA : As.length = n) (hst : st0 = As.reverse ++ st) (hwt : (st.map fun v => v.category).sum ≤ 8) (hcs : cells ≤ R.cells ∧ slots ≤ R.slots) (hdg : decode cc pc = .ok (.invokestatic index, 3)) (kk : vv p l e R s m args below meth c nL D cl A Z cells slots Q w lv (pc + 3) (.int r :: st)) : vv p l e R s m args below meth c nL D cl A Z cells slots Q w lv pc st0 :=
  v_callr C (fun H locs ls hls hP0 hD0 => by
    have hP : va_P D cl [] H := fun k q h => by cases h
    have hD : va_D (fun _ => True) ([] : va_W) := ⟨fun i j p q h => (by cases h), fun k q h => (by cases h)⟩
    exact va_runS ⟨C.1, C.2.1, C.2.2.1, C.2.2.2.1, C.2.2.2.2.1⟩ (hM H.size) cw ⟨wP_blind, fun U hU hW => ⟨rfl, by rw [hU], by rw [hU]; exact hP, va_K.moved hW.alike C.2.2.2.2.2.1, hD⟩⟩ rfl hnA hls hst (lv_room hwt) hdg hcs) kk
theorem v_cSr (C : vc p s m args meth c cc nL D cl tys A Ts own) (hM : Kr l y ws rm D cl tys As wc r) (cw : CallB R s args own index y bytes maxL ret ws rm 0 0 n ∧ (Cond.static y).before args s = true) (hnA : As.length = n) (hst : st0 = As.reverse ++ st) (hwt : (st.map fun v => v.category).sum ≤ 8) (hcs : cells ≤ R.cells ∧ slots ≤ R.slots) (hdg : decode cc pc = .ok (.invokestatic index, 3)) (isC : List Nat) (hnC : va_nd isC = true) (hC : isC.map (fun i => w[i]?) = wc.map some) (kk : vv p l e R s m args below meth c nL D cl A Z cells slots Q w lv (pc + 3) (.int r :: st)) : vv p l e R s m args below meth c nL D cl A Z cells slots Q w lv pc st0 :=
  v_callr C (fun H locs ls hls hP0 hD0 => by
    have hP : va_P D cl wc H := hP0.sub isC (fm_of_map hC)
    have hD : va_D (fun _ => True) wc := (hD0.sub isC hnC hC).weaken (fun _ _ _ _ => trivial)
    exact va_runS ⟨C.1, C.2.1, C.2.2.1, C.2.2.2.1, C.2.2.2.2.1⟩ (hM H.size) cw ⟨wP_blind, fun U hU hW => ⟨rfl, by rw [hU], by rw [hU]; exact hP, va_K.moved hW.alike C.2.2.2.2.2.1, hD⟩⟩ rfl hnA hls hst (lv_room hwt) hdg hcs) kk
theorem v_cViF (C : vc p s m args meth c cc nL D cl tys A Ts own) (hM : Ki l y ws rm D cl tys (.ref b :: As) w r w1) (cw : CallW R s args own CN index y bytes maxL ret ws rm 0 0 n) (q0 : Nat) (he : w[q0]? = some (b, .inr (ci, fs))) (hc : cl[ci]? = some (CN, T, N)) (hnA : As.length = n) (hst : st0 = As.reverse ++ .ref b :: st) (hwt : (st.map fun v => v.category).sum ≤ 8) (hcs : cells ≤ R.cells ∧ slots ≤ R.slots) (hdg : decode cc pc = .ok (.invokevirtual index, 3)) (kk : vv p l e R s m args below meth c nL D cl A vT cells slots Q w1 lv (pc + 3) (.int r :: st)) : vv p l e R s m args below meth c nL D cl A Z cells slots Q w lv pc st0 :=
  v_calliF C (fun H locs ls hls hP hD => va_runV ⟨C.1, C.2.1, C.2.2.1, C.2.2.2.1, C.2.2.2.2.1⟩ (hM H.size) cw ⟨wP_blind, va_recv C.2.2.2.2.2.1 hP hc he, fun U hU hW => ⟨rfl, by rw [hU], by rw [hU]; exact hP, va_K.moved hW.alike C.2.2.2.2.2.1, hD⟩⟩ rfl hnA hls hst (lv_room hwt) hdg hcs) kk
theorem v_cViP (C : vc p s m args meth c cc nL D cl tys A Ts own) (hM : Ki l y ws rm D cl tys (.ref b :: As) wc r w1) (cw : CallW R s args own CN index y bytes maxL ret ws rm 0 0 n) (q0 : Nat) (he : wc[q0]? = some (b, .inr (ci, fs))) (hc : cl[ci]? = some (CN, T, N)) (hnA : As.length = n) (hst : st0 = As.reverse ++ .ref b :: st) (hwt : (st.map fun v => v.category).sum ≤ 8) (hcs : cells ≤ R.cells ∧ slots ≤ R.slots) (hdg : decode cc pc = .ok (.invokevirtual index, 3)) (isC isR isF : List Nat) (hnC : va_nd isC = true) (hC : isC.map (fun i => w[i]?) = wc.map some) (hR : isR.map (fun i => w[i]?) = wr.map some) (hn : va_nd isR = true) (hdis : ∀ i ∈ isR, i ∉ isC) (hnF : va_nd isF = true) (hF : isF.map (fun i => (wr ++ w1)[i]?) = w'.map some) (kk : vv p l e R s m args below meth c nL D cl A vT cells slots Q w' lv (pc + 3) (.int r :: st)) : vv p l e R s m args below meth c nL D cl A Z cells slots Q w lv pc st0 :=
  v_calli C isC isR isF hnC hC hR hn hdis hnF hF (fun H locs ls hls hP hD => va_runV ⟨C.1, C.2.1, C.2.2.1, C.2.2.2.1, C.2.2.2.2.1⟩ (hM H.size) cw ⟨wP_blind, va_recv C.2.2.2.2.2.1 hP hc he, fun U hU hW => ⟨rfl, by rw [hU], by rw [hU]; exact hP, va_K.moved hW.alike C.2.2.2.2.2.1, hD⟩⟩ rfl hnA hls hst (lv_room hwt) hdg hcs) kk
theorem v_cVvF (C : vc p s m args meth c cc nL D cl tys A Ts own) (hM : Kv l y ws rm D cl tys (.ref b :: As) w w1) (cw : CallW R s args own CN index y bytes maxL ret ws rm 0 0 n) (q0 : Nat) (he : w[q0]? = some (b, .inr (ci, fs))) (hc : cl[ci]? = some (CN, T, N)) (hnA : As.length = n) (hst : st0 = As.reverse ++ .ref b :: st) (hwt : (st.map fun v => v.category).sum ≤ 8) (hcs : cells ≤ R.cells ∧ slots ≤ R.slots) (hdg : decode cc pc = .ok (.invokevirtual index, 3)) (kk : vv p l e R s m args below meth c nL D cl A vT cells slots Q w1 lv (pc + 3) (st)) : vv p l e R s m args below meth c nL D cl A Z cells slots Q w lv pc st0 :=
  v_callvF C (fun H locs ls hls hP hD => va_runV ⟨C.1, C.2.1, C.2.2.1, C.2.2.2.1, C.2.2.2.2.1⟩ (hM H.size) cw ⟨wP_blind, va_recv C.2.2.2.2.2.1 hP hc he, fun U hU hW => ⟨rfl, by rw [hU], by rw [hU]; exact hP, va_K.moved hW.alike C.2.2.2.2.2.1, hD⟩⟩ rfl hnA hls hst (lv_room hwt) hdg hcs) kk
theorem v_cVvP (C : vc p s m args meth c cc nL D cl tys A Ts own) (hM : Kv l y ws rm D cl tys (.ref b :: As) wc w1) (cw : CallW R s args own CN index y bytes maxL ret ws rm 0 0 n) (q0 : Nat) (he : wc[q0]? = some (b, .inr (ci, fs))) (hc : cl[ci]? = some (CN, T, N)) (hnA : As.length = n) (hst : st0 = As.reverse ++ .ref b :: st) (hwt : (st.map fun v => v.category).sum ≤ 8) (hcs : cells ≤ R.cells ∧ slots ≤ R.slots) (hdg : decode cc pc = .ok (.invokevirtual index, 3)) (isC isR isF : List Nat) (hnC : va_nd isC = true) (hC : isC.map (fun i => w[i]?) = wc.map some) (hR : isR.map (fun i => w[i]?) = wr.map some) (hn : va_nd isR = true) (hdis : ∀ i ∈ isR, i ∉ isC) (hnF : va_nd isF = true) (hF : isF.map (fun i => (wr ++ w1)[i]?) = w'.map some) (kk : vv p l e R s m args below meth c nL D cl A vT cells slots Q w' lv (pc + 3) (st)) : vv p l e R s m args below meth c nL D cl A Z cells slots Q w lv pc st0 :=
  v_callv C isC isR isF hnC hC hR hn hdis hnF hF (fun H locs ls hls hP hD => va_runV ⟨C.1, C.2.1, C.2.2.1, C.2.2.2.1, C.2.2.2.2.1⟩ (hM H.size) cw ⟨wP_blind, va_recv C.2.2.2.2.2.1 hP hc he, fun U hU hW => ⟨rfl, by rw [hU], by rw [hU]; exact hP, va_K.moved hW.alike C.2.2.2.2.2.1, hD⟩⟩ rfl hnA hls hst (lv_room hwt) hdg hcs) kk
theorem v_cSi0 (C : vc p s m args meth c cc nL D cl tys A Ts own) (hM : Ki l y ws rm D cl tys As [] r []) (cw : CallB R s args own index y bytes maxL ret ws rm 0 0 n ∧ (Cond.static y).before args s = true) (hnA : As.length = n) (hst : st0 = As.reverse ++ st) (hwt : (st.map fun v => v.category).sum ≤ 8) (hcs : cells ≤ R.cells ∧ slots ≤ R.slots) (hdg : decode cc pc = .ok (.invokestatic index, 3)) (kk : vv p l e R s m args below meth c nL D cl A vT cells slots Q w lv (pc + 3) (.int r :: st)) : vv p l e R s m args below meth c nL D cl A Z cells slots Q w lv pc st0 :=
  v_calli0 C (fun H locs ls hls hP hD => va_runS ⟨C.1, C.2.1, C.2.2.1, C.2.2.2.1, C.2.2.2.2.1⟩ (hM H.size) cw ⟨wP_blind, fun U hU hW => ⟨rfl, by rw [hU], by rw [hU]; exact hP, va_K.moved hW.alike C.2.2.2.2.2.1, hD⟩⟩ rfl hnA hls hst (lv_room hwt) hdg hcs) kk
theorem v_cSiP (C : vc p s m args meth c cc nL D cl tys A Ts own) (hM : Ki l y ws rm D cl tys As wc r w1) (cw : CallB R s args own index y bytes maxL ret ws rm 0 0 n ∧ (Cond.static y).before args s = true) (hnA : As.length = n) (hst : st0 = As.reverse ++ st) (hwt : (st.map fun v => v.category).sum ≤ 8) (hcs : cells ≤ R.cells ∧ slots ≤ R.slots) (hdg : decode cc pc = .ok (.invokestatic index, 3)) (isC isR isF : List Nat) (hnC : va_nd isC = true) (hC : isC.map (fun i => w[i]?) = wc.map some) (hR : isR.map (fun i => w[i]?) = wr.map some) (hn : va_nd isR = true) (hdis : ∀ i ∈ isR, i ∉ isC) (hnF : va_nd isF = true) (hF : isF.map (fun i => (wr ++ w1)[i]?) = w'.map some) (kk : vv p l e R s m args below meth c nL D cl A vT cells slots Q w' lv (pc + 3) (.int r :: st)) : vv p l e R s m args below meth c nL D cl A Z cells slots Q w lv pc st0 :=
  v_calli C isC isR isF hnC hC hR hn hdis hnF hF (fun H locs ls hls hP hD => va_runS ⟨C.1, C.2.1, C.2.2.1, C.2.2.2.1, C.2.2.2.2.1⟩ (hM H.size) cw ⟨wP_blind, fun U hU hW => ⟨rfl, by rw [hU], by rw [hU]; exact hP, va_K.moved hW.alike C.2.2.2.2.2.1, hD⟩⟩ rfl hnA hls hst (lv_room hwt) hdg hcs) kk
theorem v_cSiF (C : vc p s m args meth c cc nL D cl tys A Ts own) (hM : Ki l y ws rm D cl tys As w r w1) (cw : CallB R s args own index y bytes maxL ret ws rm 0 0 n ∧ (Cond.static y).before args s = true) (hnA : As.length = n) (hst : st0 = As.reverse ++ st) (hwt : (st.map fun v => v.category).sum ≤ 8) (hcs : cells ≤ R.cells ∧ slots ≤ R.slots) (hdg : decode cc pc = .ok (.invokestatic index, 3)) (kk : vv p l e R s m args below meth c nL D cl A vT cells slots Q w1 lv (pc + 3) (.int r :: st)) : vv p l e R s m args below meth c nL D cl A Z cells slots Q w lv pc st0 :=
  v_calliF C (fun H locs ls hls hP hD => va_runS ⟨C.1, C.2.1, C.2.2.1, C.2.2.2.1, C.2.2.2.2.1⟩ (hM H.size) cw ⟨wP_blind, fun U hU hW => ⟨rfl, by rw [hU], by rw [hU]; exact hP, va_K.moved hW.alike C.2.2.2.2.2.1, hD⟩⟩ rfl hnA hls hst (lv_room hwt) hdg hcs) kk
theorem v_mmax (C : vc p s m args meth c cc nL D cl tys A Ts own) (h1 : Cond.methodLink own index Lib.Math.max.name ∈ Ts) (h2 : Cond.static Lib.Math.max.name ∈ Ts) (h3 : Cond.initialized "java/lang/Math" ∈ Ts) (h4 : Cond.code Lib.Math.max.name Lib.Math.max.code 2 (some .int) ∈ Ts) (hfr : 1 ≤ R.frames) (hlo : (st.map fun v => v.category).sum + 13 ≤ R.locals) (hcl : cells ≤ R.cells) (hsl : slots ≤ R.slots) {x y : Int32} (hdg : decode cc pc = .ok (.invokestatic index, 3)) (kk : vv p l e R s m args below meth c nL D cl A Z cells slots Q w lv (pc + 3) (.int (if x < y then y else x) :: st)) : vv p l e R s m args below meth c nL D cl A Z cells slots Q w lv pc (.int y :: .int x :: st) :=
  fun H locs ls hZ hl hP hD hS => va_mmax C.1 C.2.1 (C.2.2.1.trans hl.1.symm) C.2.2.2.1 (C.2.2.2.2.1 _ h1) (C.2.2.2.2.1 _ h2) (C.2.2.2.2.1 _ h3) (C.2.2.2.2.1 _ h4) hfr hlo hcl hsl hdg (kk H locs ls hZ hl hP hD hS)
theorem v_mmin (C : vc p s m args meth c cc nL D cl tys A Ts own) (h1 : Cond.methodLink own index Lib.Math.min.name ∈ Ts) (h2 : Cond.static Lib.Math.min.name ∈ Ts) (h3 : Cond.initialized "java/lang/Math" ∈ Ts) (h4 : Cond.code Lib.Math.min.name Lib.Math.min.code 2 (some .int) ∈ Ts) (hfr : 1 ≤ R.frames) (hlo : (st.map fun v => v.category).sum + 13 ≤ R.locals) (hcl : cells ≤ R.cells) (hsl : slots ≤ R.slots) {x y : Int32} (hdg : decode cc pc = .ok (.invokestatic index, 3)) (kk : vv p l e R s m args below meth c nL D cl A Z cells slots Q w lv (pc + 3) (.int (if y < x then y else x) :: st)) : vv p l e R s m args below meth c nL D cl A Z cells slots Q w lv pc (.int y :: .int x :: st) :=
  fun H locs ls hZ hl hP hD hS => va_mmin C.1 C.2.1 (C.2.2.1.trans hl.1.symm) C.2.2.2.1 (C.2.2.2.2.1 _ h1) (C.2.2.2.2.1 _ h2) (C.2.2.2.2.1 _ h3) (C.2.2.2.2.1 _ h4) hfr hlo hcl hsl hdg (kk H locs ls hZ hl hP hD hS)
theorem v_loop0 (N : Nat) (Wd : Nat → va_W) (Lv : Nat → List (Nat × Value)) (Inv : Nat → Nat → Prop)
    (hs : ∀ (k i : Nat), i + (k + 1) = N → Inv (k + 1) i → (Inv k (i + 1) → vv p l e R s m args below meth c nL D cl A Z cells slots Q (Wd (i + 1)) (Lv (i + 1)) pc []) → vv p l e R s m args below meth c nL D cl A Z cells slots Q (Wd i) (Lv i) pc [])
    (he : Inv 0 N → vv p l e R s m args below meth c nL D cl A Z cells slots Q (Wd N) (Lv N) pc []) : ∀ (k i : Nat), i + k = N → Inv k i → vv p l e R s m args below meth c nL D cl A Z cells slots Q (Wd i) (Lv i) pc [] := by
  intro k
  induction k with
  | zero =>
    intro i h hI
    have h : i = N := h
    subst h
    exact he hI
  | succ k ih => exact fun i h hI => hs k i h hI (fun hJ => ih (i + 1) (by omega) hJ)
theorem v_loop1 {A0 : Type} (N : Nat) (Wd : Nat → A0 → va_W) (Lv : Nat → A0 → List (Nat × Value)) (Inv : Nat → Nat → A0 → Prop)
    (hs : ∀ (k i : Nat) (x0 : A0), i + (k + 1) = N → Inv (k + 1) i x0 → (∀ (y0 : A0), Inv k (i + 1) y0 → vv p l e R s m args below meth c nL D cl A Z cells slots Q (Wd (i + 1) y0) (Lv (i + 1) y0) pc []) → vv p l e R s m args below meth c nL D cl A Z cells slots Q (Wd i x0) (Lv i x0) pc [])
    (he : ∀ (x0 : A0), Inv 0 N x0 → vv p l e R s m args below meth c nL D cl A Z cells slots Q (Wd N x0) (Lv N x0) pc []) : ∀ (k i : Nat) (x0 : A0), i + k = N → Inv k i x0 → vv p l e R s m args below meth c nL D cl A Z cells slots Q (Wd i x0) (Lv i x0) pc [] := by
  intro k
  induction k with
  | zero =>
    intro i x0 h hI
    have h : i = N := h
    subst h
    exact he x0 hI
  | succ k ih => exact fun i x0 h hI => hs k i x0 h hI (fun y0 hJ => ih (i + 1) y0 (by omega) hJ)
theorem v_loop2 {A0 : Type} {A1 : Type} (N : Nat) (Wd : Nat → A0 → A1 → va_W) (Lv : Nat → A0 → A1 → List (Nat × Value)) (Inv : Nat → Nat → A0 → A1 → Prop)
    (hs : ∀ (k i : Nat) (x0 : A0) (x1 : A1), i + (k + 1) = N → Inv (k + 1) i x0 x1 → (∀ (y0 : A0) (y1 : A1), Inv k (i + 1) y0 y1 → vv p l e R s m args below meth c nL D cl A Z cells slots Q (Wd (i + 1) y0 y1) (Lv (i + 1) y0 y1) pc []) → vv p l e R s m args below meth c nL D cl A Z cells slots Q (Wd i x0 x1) (Lv i x0 x1) pc [])
    (he : ∀ (x0 : A0) (x1 : A1), Inv 0 N x0 x1 → vv p l e R s m args below meth c nL D cl A Z cells slots Q (Wd N x0 x1) (Lv N x0 x1) pc []) : ∀ (k i : Nat) (x0 : A0) (x1 : A1), i + k = N → Inv k i x0 x1 → vv p l e R s m args below meth c nL D cl A Z cells slots Q (Wd i x0 x1) (Lv i x0 x1) pc [] := by
  intro k
  induction k with
  | zero =>
    intro i x0 x1 h hI
    have h : i = N := h
    subst h
    exact he x0 x1 hI
  | succ k ih => exact fun i x0 x1 h hI => hs k i x0 x1 h hI (fun y0 y1 hJ => ih (i + 1) y0 y1 (by omega) hJ)
theorem v_loop3 {A0 : Type} {A1 : Type} {A2 : Type} (N : Nat) (Wd : Nat → A0 → A1 → A2 → va_W) (Lv : Nat → A0 → A1 → A2 → List (Nat × Value)) (Inv : Nat → Nat → A0 → A1 → A2 → Prop)
    (hs : ∀ (k i : Nat) (x0 : A0) (x1 : A1) (x2 : A2), i + (k + 1) = N → Inv (k + 1) i x0 x1 x2 → (∀ (y0 : A0) (y1 : A1) (y2 : A2), Inv k (i + 1) y0 y1 y2 → vv p l e R s m args below meth c nL D cl A Z cells slots Q (Wd (i + 1) y0 y1 y2) (Lv (i + 1) y0 y1 y2) pc []) → vv p l e R s m args below meth c nL D cl A Z cells slots Q (Wd i x0 x1 x2) (Lv i x0 x1 x2) pc [])
    (he : ∀ (x0 : A0) (x1 : A1) (x2 : A2), Inv 0 N x0 x1 x2 → vv p l e R s m args below meth c nL D cl A Z cells slots Q (Wd N x0 x1 x2) (Lv N x0 x1 x2) pc []) : ∀ (k i : Nat) (x0 : A0) (x1 : A1) (x2 : A2), i + k = N → Inv k i x0 x1 x2 → vv p l e R s m args below meth c nL D cl A Z cells slots Q (Wd i x0 x1 x2) (Lv i x0 x1 x2) pc [] := by
  intro k
  induction k with
  | zero =>
    intro i x0 x1 x2 h hI
    have h : i = N := h
    subst h
    exact he x0 x1 x2 hI
  | succ k ih => exact fun i x0 x1 x2 h hI => hs k i x0 x1 x2 h hI (fun y0 y1 y2 hJ => ih (i + 1) y0 y1 y2 (by omega) hJ)
theorem v_loop4 {A0 : Type} {A1 : Type} {A2 : Type} {A3 : Type} (N : Nat) (Wd : Nat → A0 → A1 → A2 → A3 → va_W) (Lv : Nat → A0 → A1 → A2 → A3 → List (Nat × Value)) (Inv : Nat → Nat → A0 → A1 → A2 → A3 → Prop)
    (hs : ∀ (k i : Nat) (x0 : A0) (x1 : A1) (x2 : A2) (x3 : A3), i + (k + 1) = N → Inv (k + 1) i x0 x1 x2 x3 → (∀ (y0 : A0) (y1 : A1) (y2 : A2) (y3 : A3), Inv k (i + 1) y0 y1 y2 y3 → vv p l e R s m args below meth c nL D cl A Z cells slots Q (Wd (i + 1) y0 y1 y2 y3) (Lv (i + 1) y0 y1 y2 y3) pc []) → vv p l e R s m args below meth c nL D cl A Z cells slots Q (Wd i x0 x1 x2 x3) (Lv i x0 x1 x2 x3) pc [])
    (he : ∀ (x0 : A0) (x1 : A1) (x2 : A2) (x3 : A3), Inv 0 N x0 x1 x2 x3 → vv p l e R s m args below meth c nL D cl A Z cells slots Q (Wd N x0 x1 x2 x3) (Lv N x0 x1 x2 x3) pc []) : ∀ (k i : Nat) (x0 : A0) (x1 : A1) (x2 : A2) (x3 : A3), i + k = N → Inv k i x0 x1 x2 x3 → vv p l e R s m args below meth c nL D cl A Z cells slots Q (Wd i x0 x1 x2 x3) (Lv i x0 x1 x2 x3) pc [] := by
  intro k
  induction k with
  | zero =>
    intro i x0 x1 x2 x3 h hI
    have h : i = N := h
    subst h
    exact he x0 x1 x2 x3 hI
  | succ k ih => exact fun i x0 x1 x2 x3 h hI => hs k i x0 x1 x2 x3 h hI (fun y0 y1 y2 y3 hJ => ih (i + 1) y0 y1 y2 y3 (by omega) hJ)
theorem v_loop5 {A0 : Type} {A1 : Type} {A2 : Type} {A3 : Type} {A4 : Type} (N : Nat) (Wd : Nat → A0 → A1 → A2 → A3 → A4 → va_W) (Lv : Nat → A0 → A1 → A2 → A3 → A4 → List (Nat × Value)) (Inv : Nat → Nat → A0 → A1 → A2 → A3 → A4 → Prop)
    (hs : ∀ (k i : Nat) (x0 : A0) (x1 : A1) (x2 : A2) (x3 : A3) (x4 : A4), i + (k + 1) = N → Inv (k + 1) i x0 x1 x2 x3 x4 → (∀ (y0 : A0) (y1 : A1) (y2 : A2) (y3 : A3) (y4 : A4), Inv k (i + 1) y0 y1 y2 y3 y4 → vv p l e R s m args below meth c nL D cl A Z cells slots Q (Wd (i + 1) y0 y1 y2 y3 y4) (Lv (i + 1) y0 y1 y2 y3 y4) pc []) → vv p l e R s m args below meth c nL D cl A Z cells slots Q (Wd i x0 x1 x2 x3 x4) (Lv i x0 x1 x2 x3 x4) pc [])
    (he : ∀ (x0 : A0) (x1 : A1) (x2 : A2) (x3 : A3) (x4 : A4), Inv 0 N x0 x1 x2 x3 x4 → vv p l e R s m args below meth c nL D cl A Z cells slots Q (Wd N x0 x1 x2 x3 x4) (Lv N x0 x1 x2 x3 x4) pc []) : ∀ (k i : Nat) (x0 : A0) (x1 : A1) (x2 : A2) (x3 : A3) (x4 : A4), i + k = N → Inv k i x0 x1 x2 x3 x4 → vv p l e R s m args below meth c nL D cl A Z cells slots Q (Wd i x0 x1 x2 x3 x4) (Lv i x0 x1 x2 x3 x4) pc [] := by
  intro k
  induction k with
  | zero =>
    intro i x0 x1 x2 x3 x4 h hI
    have h : i = N := h
    subst h
    exact he x0 x1 x2 x3 x4 hI
  | succ k ih => exact fun i x0 x1 x2 x3 x4 h hI => hs k i x0 x1 x2 x3 x4 h hI (fun y0 y1 y2 y3 y4 hJ => ih (i + 1) y0 y1 y2 y3 y4 (by omega) hJ)
end VVK
theorem v_as {p : Program} {l : Launch} {e : Env} {R : Room} {s : State} {m : MethodId} {args : Array Value} {below : List Frame} {meth : Method} {c : Code} {nL : Nat} {D : va_G} {cl : List vw_C} {A : Nat → Prop} {Z : Heap → List Loc → Prop} {cells slots : Nat} {Q : State → Prop} {w w' : va_W} {lv lv' : List (Nat × Value)} {pc : Nat} {st : List Value} (hw : w = w') (hl : lv = lv') (k : vv p l e R s m args below meth c nL D cl A Z cells slots Q w' lv' pc st) : vv p l e R s m args below meth c nL D cl A Z cells slots Q w lv pc st := by
  subst hw; subst hl; exact k
theorem v_cut {p : Program} {l : Launch} {e : Env} {R : Room} {s : State} {m : MethodId} {args : Array Value} {below : List Frame} {meth : Method} {c : Code} {nL : Nat} {D : va_G} {cl : List vw_C} {A : Nat → Prop} {Z : Heap → List Loc → Prop} {cells slots : Nat} {Q : State → Prop} {w wj : va_W} {lv lj : List (Nat × Value)} {pc pj : Nat} {st : List Value} (k : vv p l e R s m args below meth c nL D cl A Z cells slots Q wj lj pj []) (h : vv p l e R s m args below meth c nL D cl A Z cells slots Q wj lj pj [] → vv p l e R s m args below meth c nL D cl A Z cells slots Q w lv pc st) : vv p l e R s m args below meth c nL D cl A Z cells slots Q w lv pc st := h k
theorem v_free {p : Program} {l : Launch} {e : Env} {R : Room} {s : State} {m : MethodId} {args : Array Value} {below : List Frame} {meth : Method} {c : Code} {nL : Nat} {D : va_G} {cl : List vw_C} {A : Nat → Prop} {Z : Heap → List Loc → Prop} {cells slots : Nat} {Q : State → Prop} {w : va_W} {lv : List (Nat × Value)} {pc : Nat} {st : List Value} (k : vv p l e R s m args below meth c nL D cl A vT cells slots Q w lv pc st) : vv p l e R s m args below meth c nL D cl A Z cells slots Q w lv pc st :=
  fun H locs ls _ hl hP hD hS => k H locs ls trivial hl hP hD hS
end
section
def RcX : String := "SwapDesk"
def RcG : String := "SwapDesk$Graph"
def RcR : String := "SwapDesk$Row"
def RcM : String := "SwapDeskModel"
def RcL : String := "SwapDeskLaw"
def RcJ : String := "java/lang/Integer"
def TcX : u_T := fun k => match k with
  | 0 => ("SwapDesk", "parties", "I", true)
  | 1 => ("SwapDesk", "delay", "I", true)
  | 2 => ("SwapDesk", "graph", "LSwapDesk$Graph;", true)
  | 3 => ("SwapDesk", "payers", "[I", true)
  | 4 => ("SwapDesk", "payees", "[I", true)
  | 5 => ("SwapDesk", "states", "[I", true)
  | 6 => ("SwapDesk", "openLocks", "[I", true)
  | 7 => ("SwapDesk", "keys", "[I", true)
  | 8 => ("SwapDesk", "arcs", "I", false)
  | 9 => ("SwapDesk", "planned", "Z", false)
  | 10 => ("SwapDesk", "leaderSet", "I", false)
  | 11 => ("SwapDesk", "span", "I", false)
  | 12 => ("SwapDesk", "begin", "I", false)
  | 13 => ("SwapDesk", "time", "I", false)
  | 14 => ("SwapDesk", "deviants", "I", false)
  | _ => ("SwapDesk", "atHand", "I", false)
def tycX : Nat → FieldType := fun k => match k with
  | 0 => .int
  | 1 => .int
  | 2 => .object "SwapDesk$Graph"
  | 3 => .array .int
  | 4 => .array .int
  | 5 => .array .int
  | 6 => .array .int
  | 7 => .array .int
  | 8 => .int
  | 9 => .boolean
  | 10 => .int
  | 11 => .int
  | 12 => .int
  | 13 => .int
  | 14 => .int
  | _ => .int
abbrev wcX : List Cond := u_ws RcX TcX 16
theorem nmcX : ∀ a, a < 16 → ∀ b, b < 16 → a ≠ b → (TcX a).2.1 ≠ (TcX b).2.1 := by decide +kernel
theorem tycX_ok : ∀ k, k < 16 → parseFieldDescriptor (TcX k).2.2.1 = some (tycX k) := by decide +kernel
def TcG : u_T := fun k => match k with
  | 0 => ("SwapDesk$Graph", "parties", "I", true)
  | 1 => ("SwapDesk$Graph", "everyone", "I", true)
  | _ => ("SwapDesk$Graph", "nexts", "[I", true)
def tycG : Nat → FieldType := fun k => match k with
  | 0 => .int
  | 1 => .int
  | _ => .array .int
abbrev wcG : List Cond := u_ws RcG TcG 3
theorem nmcG : ∀ a, a < 3 → ∀ b, b < 3 → a ≠ b → (TcG a).2.1 ≠ (TcG b).2.1 := by decide +kernel
theorem tycG_ok : ∀ k, k < 3 → parseFieldDescriptor (TcG k).2.2.1 = some (tycG k) := by decide +kernel
def TcM : u_T := fun k => match k with
  | 0 => ("SwapDeskModel", "parties", "I", true)
  | 1 => ("SwapDeskModel", "unit", "I", true)
  | 2 => ("SwapDeskModel", "code", "I", false)
  | 3 => ("SwapDeskModel", "time", "I", false)
  | 4 => ("SwapDeskModel", "planned", "Z", false)
  | 5 => ("SwapDeskModel", "begin", "I", false)
  | 6 => ("SwapDeskModel", "span", "I", false)
  | 7 => ("SwapDeskModel", "leaders", "I", false)
  | 8 => ("SwapDeskModel", "deviants", "I", false)
  | 9 => ("SwapDeskModel", "arcs", "I", false)
  | 10 => ("SwapDeskModel", "payer", "[I", true)
  | 11 => ("SwapDeskModel", "payee", "[I", true)
  | 12 => ("SwapDeskModel", "state", "[I", true)
  | 13 => ("SwapDeskModel", "open", "[I", true)
  | 14 => ("SwapDeskModel", "keys", "[I", true)
  | 15 => ("SwapDeskModel", "to", "[I", true)
  | 16 => ("SwapDeskModel", "ends", "[Z", true)
  | _ => ("SwapDeskModel", "path", "I", false)
def tycM : Nat → FieldType := fun k => match k with
  | 0 => .int
  | 1 => .int
  | 2 => .int
  | 3 => .int
  | 4 => .boolean
  | 5 => .int
  | 6 => .int
  | 7 => .int
  | 8 => .int
  | 9 => .int
  | 10 => .array .int
  | 11 => .array .int
  | 12 => .array .int
  | 13 => .array .int
  | 14 => .array .int
  | 15 => .array .int
  | 16 => .array .boolean
  | _ => .int
abbrev wcM : List Cond := u_ws RcM TcM 18
theorem nmcM : ∀ a, a < 18 → ∀ b, b < 18 → a ≠ b → (TcM a).2.1 ≠ (TcM b).2.1 := by decide +kernel
theorem tycM_ok : ∀ k, k < 18 → parseFieldDescriptor (TcM k).2.2.1 = some (tycM k) := by decide +kernel
abbrev vwCl : List vw_C := [(RcX, TcX, 16), (RcG, TcG, 3), (RcM, TcM, 18)]
abbrev tyG (cI cZ cJ : ClassId) : List (ClassId × FieldType) := [(cI, .int), (cZ, .boolean), (cJ, .long)]
abbrev bR_party : ByteArray := prog_3_method_2_code
def yR_party : MethodName := ⟨RcR, "party", "(II)I"⟩
abbrev bR_size : ByteArray := prog_3_method_3_code
def yR_size : MethodName := ⟨RcR, "size", "(I)I"⟩
abbrev bR_first : ByteArray := prog_3_method_4_code
def yR_first : MethodName := ⟨RcR, "first", "(I)I"⟩
abbrev bR_last : ByteArray := prog_3_method_5_code
def yR_last : MethodName := ⟨RcR, "last", "(I)I"⟩
abbrev bR_rest : ByteArray := prog_3_method_6_code
def yR_rest : MethodName := ⟨RcR, "rest", "(I)I"⟩
abbrev bR_withFirst : ByteArray := prog_3_method_7_code
def yR_withFirst : MethodName := ⟨RcR, "withFirst", "(II)I"⟩
abbrev bR_withLast : ByteArray := prog_3_method_8_code
def yR_withLast : MethodName := ⟨RcR, "withLast", "(II)I"⟩
abbrev bR_has : ByteArray := prog_3_method_9_code
def yR_has : MethodName := ⟨RcR, "has", "(II)Z"⟩
abbrev bJ_bitCount : ByteArray := prog_10_method_49_code
def yJ_bitCount : MethodName := ⟨RcJ, "bitCount", "(I)I"⟩
abbrev bG_init : ByteArray := prog_2_method_1_code
def yG_init : MethodName := ⟨RcG, "<init>", "(I)V"⟩
abbrev bG_holds : ByteArray := prog_2_method_2_code
def yG_holds : MethodName := ⟨RcG, "holds", "(I)Z"⟩
abbrev bG_join : ByteArray := prog_2_method_3_code
def yG_join : MethodName := ⟨RcG, "join", "(II)V"⟩
abbrev bG_joins : ByteArray := prog_2_method_4_code
def yG_joins : MethodName := ⟨RcG, "joins", "(II)Z"⟩
abbrev bG_isPath : ByteArray := prog_2_method_5_code
def yG_isPath : MethodName := ⟨RcG, "isPath", "(I)Z"⟩
abbrev bG_isStrong : ByteArray := prog_2_method_6_code
def yG_isStrong : MethodName := ⟨RcG, "isStrong", "()Z"⟩
abbrev bG_reach : ByteArray := prog_2_method_7_code
def yG_reach : MethodName := ⟨RcG, "reach", "(I)I"⟩
abbrev bG_fewestLeaders : ByteArray := prog_2_method_8_code
def yG_fewestLeaders : MethodName := ⟨RcG, "fewestLeaders", "()I"⟩
abbrev bG_endsAllWalks : ByteArray := prog_2_method_9_code
def yG_endsAllWalks : MethodName := ⟨RcG, "endsAllWalks", "(I)Z"⟩
abbrev bG_longestPath : ByteArray := prog_2_method_10_code
def yG_longestPath : MethodName := ⟨RcG, "longestPath", "()I"⟩
abbrev bG_longestFrom : ByteArray := prog_2_method_11_code
def yG_longestFrom : MethodName := ⟨RcG, "longestFrom", "([IIII)I"⟩
abbrev bX_init : ByteArray := prog_1_method_1_code
def yX_init : MethodName := ⟨RcX, "<init>", "(II)V"⟩
abbrev bX_arc : ByteArray := prog_1_method_2_code
def yX_arc : MethodName := ⟨RcX, "arc", "(II)I"⟩
abbrev bX_plan : ByteArray := prog_1_method_3_code
def yX_plan : MethodName := ⟨RcX, "plan", "()I"⟩
abbrev bX_leaders : ByteArray := prog_1_method_4_code
def yX_leaders : MethodName := ⟨RcX, "leaders", "()I"⟩
abbrev bX_conform : ByteArray := prog_1_method_5_code
def yX_conform : MethodName := ⟨RcX, "conform", "(IZ)Z"⟩
abbrev bX_act : ByteArray := prog_1_method_6_code
def yX_act : MethodName := ⟨RcX, "act", "(I)I"⟩
abbrev bX_run : ByteArray := prog_1_method_7_code
def yX_run : MethodName := ⟨RcX, "run", "(I)I"⟩
abbrev bX_deploy : ByteArray := prog_1_method_8_code
def yX_deploy : MethodName := ⟨RcX, "deploy", "(I)V"⟩
abbrev bX_step : ByteArray := prog_1_method_9_code
def yX_step : MethodName := ⟨RcX, "step", "(I)I"⟩
abbrev bX_show : ByteArray := prog_1_method_10_code
def yX_show : MethodName := ⟨RcX, "show", "(I)I"⟩
abbrev bX_clear : ByteArray := prog_1_method_11_code
def yX_clear : MethodName := ⟨RcX, "clear", "()V"⟩
abbrev bX_back : ByteArray := prog_1_method_12_code
def yX_back : MethodName := ⟨RcX, "back", "(I)V"⟩
abbrev bX_pass : ByteArray := prog_1_method_13_code
def yX_pass : MethodName := ⟨RcX, "pass", "(I)I"⟩
abbrev bX_state : ByteArray := prog_1_method_14_code
def yX_state : MethodName := ⟨RcX, "state", "(I)I"⟩
abbrev bX_open : ByteArray := prog_1_method_15_code
def yX_open : MethodName := ⟨RcX, "open", "(I)I"⟩
abbrev bX_key : ByteArray := prog_1_method_16_code
def yX_key : MethodName := ⟨RcX, "key", "(III)I"⟩
abbrev bX_outcome : ByteArray := prog_1_method_17_code
def yX_outcome : MethodName := ⟨RcX, "outcome", "(I)I"⟩
abbrev bX_isParty : ByteArray := prog_1_method_18_code
def yX_isParty : MethodName := ⟨RcX, "isParty", "(I)Z"⟩
abbrev bX_isArc : ByteArray := prog_1_method_19_code
def yX_isArc : MethodName := ⟨RcX, "isArc", "(I)Z"⟩
abbrev bX_isLeader : ByteArray := prog_1_method_20_code
def yX_isLeader : MethodName := ⟨RcX, "isLeader", "(I)Z"⟩
abbrev bX_conforms : ByteArray := prog_1_method_21_code
def yX_conforms : MethodName := ⟨RcX, "conforms", "(I)Z"⟩
abbrev bX_isOver : ByteArray := prog_1_method_22_code
def yX_isOver : MethodName := ⟨RcX, "isOver", "()Z"⟩
abbrev bX_isInTime : ByteArray := prog_1_method_23_code
def yX_isInTime : MethodName := ⟨RcX, "isInTime", "(I)Z"⟩
abbrev bX_hashkey : ByteArray := prog_1_method_24_code
def yX_hashkey : MethodName := ⟨RcX, "hashkey", "(II)I"⟩
abbrev bX_isUnlocked : ByteArray := prog_1_method_25_code
def yX_isUnlocked : MethodName := ⟨RcX, "isUnlocked", "(II)Z"⟩
abbrev bX_unlock : ByteArray := prog_1_method_26_code
def yX_unlock : MethodName := ⟨RcX, "unlock", "(III)V"⟩
abbrev bX_mayShow : ByteArray := prog_1_method_27_code
def yX_mayShow : MethodName := ⟨RcX, "mayShow", "(II)Z"⟩
abbrev bX_doDeeds : ByteArray := prog_1_method_28_code
def yX_doDeeds : MethodName := ⟨RcX, "doDeeds", "(I)I"⟩
abbrev bX_deployAll : ByteArray := prog_1_method_29_code
def yX_deployAll : MethodName := ⟨RcX, "deployAll", "(I)I"⟩
abbrev bX_showItself : ByteArray := prog_1_method_30_code
def yX_showItself : MethodName := ⟨RcX, "showItself", "(I)I"⟩
abbrev bX_showOthers : ByteArray := prog_1_method_31_code
def yX_showOthers : MethodName := ⟨RcX, "showOthers", "(I)I"⟩
abbrev bX_takeAllBack : ByteArray := prog_1_method_32_code
def yX_takeAllBack : MethodName := ⟨RcX, "takeAllBack", "(I)I"⟩
abbrev bX_isSecured : ByteArray := prog_1_method_33_code
def yX_isSecured : MethodName := ⟨RcX, "isSecured", "(I)Z"⟩
abbrev bX_moveAll : ByteArray := prog_1_method_34_code
def yX_moveAll : MethodName := ⟨RcX, "moveAll", "(III)I"⟩
abbrev bX_shortestLearnt : ByteArray := prog_1_method_35_code
def yX_shortestLearnt : MethodName := ⟨RcX, "shortestLearnt", "(II)I"⟩
abbrev bX_showToAll : ByteArray := prog_1_method_36_code
def yX_showToAll : MethodName := ⟨RcX, "showToAll", "(III)I"⟩
abbrev bX_countArcs : ByteArray := prog_1_method_37_code
def yX_countArcs : MethodName := ⟨RcX, "countArcs", "([II)I"⟩
abbrev bX_countPaid : ByteArray := prog_1_method_38_code
def yX_countPaid : MethodName := ⟨RcX, "countPaid", "([II)I"⟩
abbrev bM_init : ByteArray := prog_5_method_1_code
def yM_init : MethodName := ⟨RcM, "<init>", "(II)V"⟩
abbrev bM_thrown : ByteArray := prog_5_method_2_code
def yM_thrown : MethodName := ⟨RcM, "thrown", "()I"⟩
abbrev bM_fail : ByteArray := prog_5_method_3_code
def yM_fail : MethodName := ⟨RcM, "fail", "(I)I"⟩
abbrev bM_isParty : ByteArray := prog_5_method_4_code
def yM_isParty : MethodName := ⟨RcM, "isParty", "(I)Z"⟩
abbrev bM_isArc : ByteArray := prog_5_method_5_code
def yM_isArc : MethodName := ⟨RcM, "isArc", "(I)Z"⟩
abbrev bM_has : ByteArray := prog_5_method_6_code
def yM_has : MethodName := ⟨RcM, "has", "(II)Z"⟩
abbrev bM_arc : ByteArray := prog_5_method_7_code
def yM_arc : MethodName := ⟨RcM, "arc", "(II)I"⟩
abbrev bM_reached : ByteArray := prog_5_method_8_code
def yM_reached : MethodName := ⟨RcM, "reached", "(I)I"⟩
abbrev bM_size : ByteArray := prog_5_method_9_code
def yM_size : MethodName := ⟨RcM, "size", "(I)I"⟩
abbrev bM_greatest : ByteArray := prog_5_method_10_code
def yM_greatest : MethodName := ⟨RcM, "greatest", "()I"⟩
abbrev bM_isOpen : ByteArray := prog_5_method_11_code
def yM_isOpen : MethodName := ⟨RcM, "isOpen", "(I)Z"⟩
abbrev bM_fewest : ByteArray := prog_5_method_12_code
def yM_fewest : MethodName := ⟨RcM, "fewest", "()I"⟩
abbrev bM_plan : ByteArray := prog_5_method_13_code
def yM_plan : MethodName := ⟨RcM, "plan", "()I"⟩
abbrev bM_leaders : ByteArray := prog_5_method_14_code
def yM_leaders : MethodName := ⟨RcM, "leaders", "()I"⟩
abbrev bM_many : ByteArray := prog_5_method_15_code
def yM_many : MethodName := ⟨RcM, "many", "(I)I"⟩
abbrev bM_member : ByteArray := prog_5_method_16_code
def yM_member : MethodName := ⟨RcM, "member", "(II)I"⟩
abbrev bM_members : ByteArray := prog_5_method_17_code
def yM_members : MethodName := ⟨RcM, "members", "(I)I"⟩
abbrev bM_before : ByteArray := prog_5_method_18_code
def yM_before : MethodName := ⟨RcM, "before", "(II)I"⟩
abbrev bM_behind : ByteArray := prog_5_method_19_code
def yM_behind : MethodName := ⟨RcM, "behind", "(I)I"⟩
abbrev bM_isInTime : ByteArray := prog_5_method_20_code
def yM_isInTime : MethodName := ⟨RcM, "isInTime", "(I)Z"⟩
abbrev bM_isLate : ByteArray := prog_5_method_21_code
def yM_isLate : MethodName := ⟨RcM, "isLate", "()Z"⟩
abbrev bM_unlock : ByteArray := prog_5_method_22_code
def yM_unlock : MethodName := ⟨RcM, "unlock", "(II)V"⟩
abbrev bM_isCovered : ByteArray := prog_5_method_23_code
def yM_isCovered : MethodName := ⟨RcM, "isCovered", "(I)Z"⟩
abbrev bM_deeds : ByteArray := prog_5_method_24_code
def yM_deeds : MethodName := ⟨RcM, "deeds", "(I)I"⟩
abbrev bM_shownBy : ByteArray := prog_5_method_25_code
def yM_shownBy : MethodName := ⟨RcM, "shownBy", "(III)I"⟩
abbrev bM_shortest : ByteArray := prog_5_method_26_code
def yM_shortest : MethodName := ⟨RcM, "shortest", "(II)I"⟩
abbrev bM_conform : ByteArray := prog_5_method_27_code
def yM_conform : MethodName := ⟨RcM, "conform", "(IZ)Z"⟩
abbrev bM_act : ByteArray := prog_5_method_28_code
def yM_act : MethodName := ⟨RcM, "act", "(I)I"⟩
abbrev bM_run : ByteArray := prog_5_method_29_code
def yM_run : MethodName := ⟨RcM, "run", "(I)I"⟩
abbrev bM_deploy : ByteArray := prog_5_method_30_code
def yM_deploy : MethodName := ⟨RcM, "deploy", "(I)V"⟩
abbrev bM_step : ByteArray := prog_5_method_31_code
def yM_step : MethodName := ⟨RcM, "step", "(I)I"⟩
abbrev bM_clear : ByteArray := prog_5_method_32_code
def yM_clear : MethodName := ⟨RcM, "clear", "()V"⟩
abbrev bM_isPath : ByteArray := prog_5_method_33_code
def yM_isPath : MethodName := ⟨RcM, "isPath", "(I)Z"⟩
abbrev bM_isKnown : ByteArray := prog_5_method_34_code
def yM_isKnown : MethodName := ⟨RcM, "isKnown", "()Z"⟩
abbrev bM_show : ByteArray := prog_5_method_35_code
def yM_show : MethodName := ⟨RcM, "show", "(I)I"⟩
abbrev bM_back : ByteArray := prog_5_method_36_code
def yM_back : MethodName := ⟨RcM, "back", "(I)V"⟩
abbrev bM_pass : ByteArray := prog_5_method_37_code
def yM_pass : MethodName := ⟨RcM, "pass", "(I)I"⟩
abbrev bM_state : ByteArray := prog_5_method_38_code
def yM_state : MethodName := ⟨RcM, "state", "(I)I"⟩
abbrev bM_open : ByteArray := prog_5_method_39_code
def yM_open : MethodName := ⟨RcM, "open", "(I)I"⟩
abbrev bM_key : ByteArray := prog_5_method_40_code
def yM_key : MethodName := ⟨RcM, "key", "(III)I"⟩
abbrev bM_outcome : ByteArray := prog_5_method_41_code
def yM_outcome : MethodName := ⟨RcM, "outcome", "(I)I"⟩
def q0 : Cond := .methodLink RcR 11 yR_party
def q1 : Cond := .static yR_party
def q2 : Cond := .initialized RcR
def q3 : Cond := .code yR_party bR_party 2 (some .int)
def q4 : Cond := .methodLink RcR 15 yR_size
def q5 : Cond := .static yR_size
def q6 : Cond := .code yR_size bR_size 2 (some .int)
def q7 : Cond := .constant RcJ 265 1431655765
def q8 : Cond := .constant RcJ 266 858993459
def q9 : Cond := .constant RcJ 267 252645135
def q10 : Cond := .methodLink RcG 3 objectInit
def q11 : Cond := .instanceMethod objectInit
def q12 : Cond := .code objectInit ⟨#[0xb1]⟩ 1 none
def q13 : Cond := .arrayClass .int
def q14 : Cond := .fieldLink RcG 9 "SwapDesk$Graph" "nexts" "[I"
def q15 : Cond := .fieldLink RcG 15 "SwapDesk$Graph" "parties" "I"
def q16 : Cond := .fieldLink RcG 19 "SwapDesk$Graph" "everyone" "I"
def q17 : Cond := .methodLink RcG 22 yG_holds
def q18 : Cond := .instanceMethod yG_holds
def q19 : Cond := .selects RcG yG_holds yG_holds
def q20 : Cond := .initialized RcG
def q21 : Cond := .code yG_holds bG_holds 2 (some .boolean)
def q22 : Cond := .methodLink RcG 26 yR_size
def q23 : Cond := .methodLink RcG 32 yR_party
def q24 : Cond := .methodLink RcG 36 yG_joins
def q25 : Cond := .instanceMethod yG_joins
def q26 : Cond := .selects RcG yG_joins yG_joins
def q27 : Cond := .code yG_joins bG_joins 3 (some .boolean)
def q28 : Cond := .methodLink RcG 40 yG_reach
def q29 : Cond := .instanceMethod yG_reach
def q30 : Cond := .selects RcG yG_reach yG_reach
def q31 : Cond := .code yG_reach bG_reach 5 (some .int)
def q32 : Cond := .methodLink RcG 43 yJ_bitCount
def q33 : Cond := .static yJ_bitCount
def q34 : Cond := .initialized RcJ
def q35 : Cond := .methodLink RcG 48 yG_endsAllWalks
def q36 : Cond := .instanceMethod yG_endsAllWalks
def q37 : Cond := .selects RcG yG_endsAllWalks yG_endsAllWalks
def q38 : Cond := .code yJ_bitCount bJ_bitCount 1 (some .int)
def q39 : Cond := .code yG_endsAllWalks bG_endsAllWalks 5 (some .boolean)
def q40 : Cond := .methodLink RcG 51 yG_longestFrom
def q41 : Cond := .static yG_longestFrom
def q42 : Cond := .methodLink RcG 55 Lib.Math.max.name
def q43 : Cond := .static Lib.Math.max.name
def q44 : Cond := .initialized "java/lang/Math"
def q45 : Cond := .code Lib.Math.max.name Lib.Math.max.code 2 (some .int)
def q46 : Cond := .code yG_longestFrom bG_longestFrom 6 (some .int)
def q47 : Cond := .methodLink RcX 1 objectInit
def q48 : Cond := .fieldLink RcX 9 "SwapDesk" "payers" "[I"
def q49 : Cond := .fieldLink RcX 13 "SwapDesk" "payees" "[I"
def q50 : Cond := .fieldLink RcX 16 "SwapDesk" "states" "[I"
def q51 : Cond := .fieldLink RcX 19 "SwapDesk" "openLocks" "[I"
def q52 : Cond := .fieldLink RcX 22 "SwapDesk" "keys" "[I"
def q53 : Cond := .fieldLink RcX 27 "SwapDesk" "atHand" "I"
def q54 : Cond := .methodLink RcX 31 Lib.Math.min.name
def q55 : Cond := .static Lib.Math.min.name
def q56 : Cond := .code Lib.Math.min.name Lib.Math.min.code 2 (some .int)
def q57 : Cond := .fieldLink RcX 37 "SwapDesk" "parties" "I"
def q58 : Cond := .fieldLink RcX 40 "SwapDesk" "delay" "I"
def q59 : Cond := .classLink RcX 43 RcG
def q60 : Cond := .instantiable RcG 3
def q61 : Cond := .methodLink RcX 45 yG_init
def q62 : Cond := .instanceMethod yG_init
def q63 : Cond := .fieldLink RcX 48 "SwapDesk" "graph" "LSwapDesk$Graph;"
def q64 : Cond := .code yG_init bG_init 2 none
def q65 : Cond := .methodLink RcX 52 yX_isParty
def q66 : Cond := .instanceMethod yX_isParty
def q67 : Cond := .selects RcX yX_isParty yX_isParty
def q68 : Cond := .initialized RcX
def q69 : Cond := .methodLink RcX 56 yG_joins
def q70 : Cond := .fieldLink RcX 67 "SwapDesk" "planned" "Z"
def q71 : Cond := .fieldLink RcX 71 "SwapDesk" "arcs" "I"
def q72 : Cond := .methodLink RcX 79 yG_join
def q73 : Cond := .instanceMethod yG_join
def q74 : Cond := .selects RcG yG_join yG_join
def q75 : Cond := .code yX_isParty bX_isParty 2 (some .boolean)
def q76 : Cond := .code yG_join bG_join 3 none
def q77 : Cond := .methodLink RcX 88 yG_isStrong
def q78 : Cond := .instanceMethod yG_isStrong
def q79 : Cond := .selects RcG yG_isStrong yG_isStrong
def q80 : Cond := .fieldLink RcX 94 "SwapDesk" "time" "I"
def q81 : Cond := .fieldLink RcX 97 "SwapDesk" "begin" "I"
def q82 : Cond := .methodLink RcX 100 yG_longestPath
def q83 : Cond := .instanceMethod yG_longestPath
def q84 : Cond := .selects RcG yG_longestPath yG_longestPath
def q85 : Cond := .fieldLink RcX 104 "SwapDesk" "span" "I"
def q86 : Cond := .methodLink RcX 107 yG_fewestLeaders
def q87 : Cond := .instanceMethod yG_fewestLeaders
def q88 : Cond := .selects RcG yG_fewestLeaders yG_fewestLeaders
def q89 : Cond := .fieldLink RcX 110 "SwapDesk" "leaderSet" "I"
def q90 : Cond := .code yG_isStrong bG_isStrong 2 (some .boolean)
def q91 : Cond := .code yG_longestPath bG_longestPath 3 (some .int)
def q92 : Cond := .code yG_fewestLeaders bG_fewestLeaders 3 (some .int)
def q93 : Cond := .methodLink RcX 113 yX_conforms
def q94 : Cond := .instanceMethod yX_conforms
def q95 : Cond := .selects RcX yX_conforms yX_conforms
def q96 : Cond := .fieldLink RcX 116 "SwapDesk" "deviants" "I"
def q97 : Cond := .code yX_conforms bX_conforms 2 (some .boolean)
def q98 : Cond := .methodLink RcX 125 yX_doDeeds
def q99 : Cond := .instanceMethod yX_doDeeds
def q100 : Cond := .selects RcX yX_doDeeds yX_doDeeds
def q101 : Cond := .code yX_doDeeds bX_doDeeds 3 (some .int)
def q102 : Cond := .methodLink RcX 206 yX_deployAll
def q103 : Cond := .instanceMethod yX_deployAll
def q104 : Cond := .selects RcX yX_deployAll yX_deployAll
def q105 : Cond := .methodLink RcX 209 yX_showItself
def q106 : Cond := .instanceMethod yX_showItself
def q107 : Cond := .selects RcX yX_showItself yX_showItself
def q108 : Cond := .methodLink RcX 212 yX_showOthers
def q109 : Cond := .instanceMethod yX_showOthers
def q110 : Cond := .selects RcX yX_showOthers yX_showOthers
def q111 : Cond := .methodLink RcX 215 yX_takeAllBack
def q112 : Cond := .instanceMethod yX_takeAllBack
def q113 : Cond := .selects RcX yX_takeAllBack yX_takeAllBack
def q114 : Cond := .code yX_deployAll bX_deployAll 2 (some .int)
def q115 : Cond := .methodLink RcX 185 yX_isOver
def q116 : Cond := .instanceMethod yX_isOver
def q117 : Cond := .selects RcX yX_isOver yX_isOver
def q118 : Cond := .methodLink RcX 156 yX_isLeader
def q119 : Cond := .instanceMethod yX_isLeader
def q120 : Cond := .selects RcX yX_isLeader yX_isLeader
def q121 : Cond := .methodLink RcX 218 yX_isSecured
def q122 : Cond := .instanceMethod yX_isSecured
def q123 : Cond := .selects RcX yX_isSecured yX_isSecured
def q124 : Cond := .methodLink RcX 221 yX_moveAll
def q125 : Cond := .instanceMethod yX_moveAll
def q126 : Cond := .selects RcX yX_moveAll yX_moveAll
def q127 : Cond := .code yX_isOver bX_isOver 1 (some .boolean)
def q128 : Cond := .code yX_isLeader bX_isLeader 2 (some .boolean)
def q129 : Cond := .code yX_isSecured bX_isSecured 3 (some .boolean)
def q130 : Cond := .code yX_moveAll bX_moveAll 6 (some .int)
def q131 : Cond := .code yX_showItself bX_showItself 2 (some .int)
def q132 : Cond := .methodLink RcX 225 yR_withFirst
def q133 : Cond := .static yR_withFirst
def q134 : Cond := .methodLink RcX 228 yX_showToAll
def q135 : Cond := .instanceMethod yX_showToAll
def q136 : Cond := .selects RcX yX_showToAll yX_showToAll
def q137 : Cond := .code yR_withFirst bR_withFirst 2 (some .int)
def q138 : Cond := .code yX_showToAll bX_showToAll 6 (some .int)
def q139 : Cond := .methodLink RcX 166 yX_isInTime
def q140 : Cond := .instanceMethod yX_isInTime
def q141 : Cond := .selects RcX yX_isInTime yX_isInTime
def q142 : Cond := .methodLink RcX 161 yX_isUnlocked
def q143 : Cond := .instanceMethod yX_isUnlocked
def q144 : Cond := .selects RcX yX_isUnlocked yX_isUnlocked
def q145 : Cond := .methodLink RcX 174 yX_unlock
def q146 : Cond := .instanceMethod yX_unlock
def q147 : Cond := .selects RcX yX_unlock yX_unlock
def q148 : Cond := .code yX_isInTime bX_isInTime 3 (some .boolean)
def q149 : Cond := .methodLink RcX 141 yR_size
def q150 : Cond := .code yX_isUnlocked bX_isUnlocked 3 (some .boolean)
def q151 : Cond := .code yX_unlock bX_unlock 4 none
def q152 : Cond := .code yX_showOthers bX_showOthers 5 (some .int)
def q153 : Cond := .methodLink RcX 231 yX_shortestLearnt
def q154 : Cond := .instanceMethod yX_shortestLearnt
def q155 : Cond := .selects RcX yX_shortestLearnt yX_shortestLearnt
def q156 : Cond := .code yX_shortestLearnt bX_shortestLearnt 7 (some .int)
def q157 : Cond := .methodLink RcX 190 yX_hashkey
def q158 : Cond := .instanceMethod yX_hashkey
def q159 : Cond := .selects RcX yX_hashkey yX_hashkey
def q160 : Cond := .methodLink RcX 234 yR_has
def q161 : Cond := .static yR_has
def q162 : Cond := .code yX_hashkey bX_hashkey 3 (some .int)
def q163 : Cond := .methodLink RcX 131 yX_isArc
def q164 : Cond := .instanceMethod yX_isArc
def q165 : Cond := .selects RcX yX_isArc yX_isArc
def q166 : Cond := .code yX_isArc bX_isArc 2 (some .boolean)
def q167 : Cond := .code yR_has bR_has 3 (some .boolean)
def q168 : Cond := .code yX_takeAllBack bX_takeAllBack 2 (some .int)
def q169 : Cond := .methodLink RcX 144 yR_withLast
def q170 : Cond := .static yR_withLast
def q171 : Cond := .code yR_withLast bR_withLast 2 (some .int)
def q172 : Cond := .methodLink RcX 147 yR_last
def q173 : Cond := .static yR_last
def q174 : Cond := .methodLink RcX 150 yR_first
def q175 : Cond := .static yR_first
def q176 : Cond := .methodLink RcX 153 yG_isPath
def q177 : Cond := .instanceMethod yG_isPath
def q178 : Cond := .selects RcG yG_isPath yG_isPath
def q179 : Cond := .methodLink RcX 169 yX_mayShow
def q180 : Cond := .instanceMethod yX_mayShow
def q181 : Cond := .selects RcX yX_mayShow yX_mayShow
def q182 : Cond := .methodLink RcX 178 yJ_bitCount
def q183 : Cond := .code yR_last bR_last 1 (some .int)
def q184 : Cond := .code yR_first bR_first 1 (some .int)
def q185 : Cond := .code yG_isPath bG_isPath 7 (some .boolean)
def q186 : Cond := .code yX_mayShow bX_mayShow 5 (some .boolean)
def q187 : Cond := .methodLink RcX 203 yR_rest
def q188 : Cond := .static yR_rest
def q189 : Cond := .code yR_rest bR_rest 1 (some .int)
def q190 : Cond := .methodLink RcX 193 yR_party
def q191 : Cond := .methodLink RcX 196 yX_countPaid
def q192 : Cond := .instanceMethod yX_countPaid
def q193 : Cond := .selects RcX yX_countPaid yX_countPaid
def q194 : Cond := .methodLink RcX 200 yX_countArcs
def q195 : Cond := .instanceMethod yX_countArcs
def q196 : Cond := .selects RcX yX_countArcs yX_countArcs
def q197 : Cond := .code yX_countPaid bX_countPaid 5 (some .int)
def q198 : Cond := .code yX_countArcs bX_countArcs 5 (some .int)
def q199 : Cond := .methodLink RcM 1 objectInit
def q200 : Cond := .fieldLink RcM 7 "SwapDeskModel" "payer" "[I"
def q201 : Cond := .fieldLink RcM 13 "SwapDeskModel" "payee" "[I"
def q202 : Cond := .fieldLink RcM 16 "SwapDeskModel" "state" "[I"
def q203 : Cond := .fieldLink RcM 19 "SwapDeskModel" "open" "[I"
def q204 : Cond := .fieldLink RcM 22 "SwapDeskModel" "keys" "[I"
def q205 : Cond := .fieldLink RcM 25 "SwapDeskModel" "to" "[I"
def q206 : Cond := .arrayClass .boolean
def q207 : Cond := .fieldLink RcM 28 "SwapDeskModel" "ends" "[Z"
def q208 : Cond := .fieldLink RcM 32 "SwapDeskModel" "parties" "I"
def q209 : Cond := .fieldLink RcM 36 "SwapDeskModel" "unit" "I"
def q210 : Cond := .fieldLink RcM 39 "SwapDeskModel" "code" "I"
def q211 : Cond := .fieldLink RcM 42 "SwapDeskModel" "arcs" "I"
def q212 : Cond := .methodLink RcM 45 yM_isParty
def q213 : Cond := .instanceMethod yM_isParty
def q214 : Cond := .selects RcM yM_isParty yM_isParty
def q215 : Cond := .initialized RcM
def q216 : Cond := .methodLink RcM 49 yM_has
def q217 : Cond := .static yM_has
def q218 : Cond := .methodLink RcM 53 yM_fail
def q219 : Cond := .instanceMethod yM_fail
def q220 : Cond := .selects RcM yM_fail yM_fail
def q221 : Cond := .fieldLink RcM 57 "SwapDeskModel" "planned" "Z"
def q222 : Cond := .code yM_isParty bM_isParty 2 (some .boolean)
def q223 : Cond := .code yM_has bM_has 2 (some .boolean)
def q224 : Cond := .code yM_fail bM_fail 2 (some .int)
def q225 : Cond := .methodLink RcM 61 yM_size
def q226 : Cond := .static yM_size
def q227 : Cond := .code yM_size bM_size 3 (some .int)
def q228 : Cond := .methodLink RcM 64 yM_isOpen
def q229 : Cond := .instanceMethod yM_isOpen
def q230 : Cond := .selects RcM yM_isOpen yM_isOpen
def q231 : Cond := .code yM_isOpen bM_isOpen 5 (some .boolean)
def q232 : Cond := .methodLink RcM 67 yM_reached
def q233 : Cond := .instanceMethod yM_reached
def q234 : Cond := .selects RcM yM_reached yM_reached
def q235 : Cond := .fieldLink RcM 70 "SwapDeskModel" "time" "I"
def q236 : Cond := .fieldLink RcM 73 "SwapDeskModel" "begin" "I"
def q237 : Cond := .methodLink RcM 76 yM_greatest
def q238 : Cond := .instanceMethod yM_greatest
def q239 : Cond := .selects RcM yM_greatest yM_greatest
def q240 : Cond := .fieldLink RcM 80 "SwapDeskModel" "span" "I"
def q241 : Cond := .methodLink RcM 83 yM_fewest
def q242 : Cond := .instanceMethod yM_fewest
def q243 : Cond := .selects RcM yM_fewest yM_fewest
def q244 : Cond := .fieldLink RcM 86 "SwapDeskModel" "leaders" "I"
def q245 : Cond := .code yM_reached bM_reached 5 (some .int)
def q246 : Cond := .code yM_greatest bM_greatest 6 (some .int)
def q247 : Cond := .code yM_fewest bM_fewest 4 (some .int)
def q248 : Cond := .methodLink RcM 89 yM_many
def q249 : Cond := .static yM_many
def q250 : Cond := .methodLink RcM 92 yM_member
def q251 : Cond := .static yM_member
def q252 : Cond := .code yM_many bM_many 1 (some .int)
def q253 : Cond := .code yM_member bM_member 2 (some .int)
def q254 : Cond := .constant RcM 96 262143
def q255 : Cond := .methodLink RcM 97 yM_isCovered
def q256 : Cond := .instanceMethod yM_isCovered
def q257 : Cond := .selects RcM yM_isCovered yM_isCovered
def q258 : Cond := .methodLink RcM 100 yM_isLate
def q259 : Cond := .instanceMethod yM_isLate
def q260 : Cond := .selects RcM yM_isLate yM_isLate
def q261 : Cond := .methodLink RcM 104 yM_before
def q262 : Cond := .static yM_before
def q263 : Cond := .methodLink RcM 107 yM_shownBy
def q264 : Cond := .instanceMethod yM_shownBy
def q265 : Cond := .selects RcM yM_shownBy yM_shownBy
def q266 : Cond := .methodLink RcM 111 yM_shortest
def q267 : Cond := .instanceMethod yM_shortest
def q268 : Cond := .selects RcM yM_shortest yM_shortest
def q269 : Cond := .code yM_isCovered bM_isCovered 4 (some .boolean)
def q270 : Cond := .code yM_isLate bM_isLate 1 (some .boolean)
def q271 : Cond := .code yM_before bM_before 2 (some .int)
def q272 : Cond := .code yM_shownBy bM_shownBy 6 (some .int)
def q273 : Cond := .methodLink RcM 114 yM_isInTime
def q274 : Cond := .instanceMethod yM_isInTime
def q275 : Cond := .selects RcM yM_isInTime yM_isInTime
def q276 : Cond := .methodLink RcM 117 yM_unlock
def q277 : Cond := .instanceMethod yM_unlock
def q278 : Cond := .selects RcM yM_unlock yM_unlock
def q279 : Cond := .code yM_isInTime bM_isInTime 2 (some .boolean)
def q280 : Cond := .code yM_unlock bM_unlock 4 none
def q281 : Cond := .code yM_shortest bM_shortest 6 (some .int)
def q282 : Cond := .methodLink RcM 121 yM_members
def q283 : Cond := .static yM_members
def q284 : Cond := .code yM_members bM_members 3 (some .int)
def q285 : Cond := .fieldLink RcM 124 "SwapDeskModel" "deviants" "I"
def q286 : Cond := .methodLink RcM 127 yM_deeds
def q287 : Cond := .instanceMethod yM_deeds
def q288 : Cond := .selects RcM yM_deeds yM_deeds
def q289 : Cond := .code yM_deeds bM_deeds 7 (some .int)
def q290 : Cond := .methodLink RcM 130 yM_isArc
def q291 : Cond := .instanceMethod yM_isArc
def q292 : Cond := .selects RcM yM_isArc yM_isArc
def q293 : Cond := .code yM_isArc bM_isArc 2 (some .boolean)
def q294 : Cond := .fieldLink RcM 133 "SwapDeskModel" "path" "I"
def q295 : Cond := .methodLink RcM 136 yM_behind
def q296 : Cond := .static yM_behind
def q297 : Cond := .code yM_behind bM_behind 1 (some .int)
def q298 : Cond := .methodLink RcM 139 yM_isPath
def q299 : Cond := .instanceMethod yM_isPath
def q300 : Cond := .selects RcM yM_isPath yM_isPath
def q301 : Cond := .methodLink RcM 142 yM_isKnown
def q302 : Cond := .instanceMethod yM_isKnown
def q303 : Cond := .selects RcM yM_isKnown yM_isKnown
def q304 : Cond := .code yM_isPath bM_isPath 5 (some .boolean)
def q305 : Cond := .code yM_isKnown bM_isKnown 5 (some .boolean)
def wR_party : List Cond := .code yR_party bR_party 2 (some .int) :: ([])
def wR_size : List Cond := .code yR_size bR_size 2 (some .int) :: ([])
def wR_first : List Cond := .code yR_first bR_first 1 (some .int) :: ([q0, q1, q2, q3])
def wR_last : List Cond := .code yR_last bR_last 1 (some .int) :: ([q4, q5, q2, q0, q1, q6, q3])
def wR_rest : List Cond := .code yR_rest bR_rest 1 (some .int) :: ([])
def wR_withFirst : List Cond := .code yR_withFirst bR_withFirst 2 (some .int) :: ([])
def wR_withLast : List Cond := .code yR_withLast bR_withLast 2 (some .int) :: ([q4, q5, q2, q6])
def wR_has : List Cond := .code yR_has bR_has 3 (some .boolean) :: ([q0, q1, q2, q3])
def wJ_bitCount : List Cond := .code yJ_bitCount bJ_bitCount 1 (some .int) :: ([q7, q8, q9])
def wG_init : List Cond := .code yG_init bG_init 2 none :: ([q10, q11, q12, q13, q14, q15, q16] ++ wcG)
def wG_holds : List Cond := .code yG_holds bG_holds 2 (some .boolean) :: ([q15] ++ wcG)
def wG_join : List Cond := .code yG_join bG_join 3 none :: ([q17, q18, q19, q20, q14, q21, q15] ++ wcG)
def wG_joins : List Cond := .code yG_joins bG_joins 3 (some .boolean) :: ([q17, q18, q19, q20, q14, q21, q15] ++ wcG)
def wG_isPath : List Cond := .code yG_isPath bG_isPath 7 (some .boolean) :: ([q22, q5, q2, q23, q1, q17, q18, q19, q20, q24, q25, q26, q6, q3, q21, q15, q27, q14] ++ wcG)
def wG_isStrong : List Cond := .code yG_isStrong bG_isStrong 2 (some .boolean) :: ([q15, q28, q29, q30, q20, q16, q31, q14] ++ wcG)
def wG_reach : List Cond := .code yG_reach bG_reach 5 (some .int) :: ([q15, q14] ++ wcG)
def wG_fewestLeaders : List Cond := .code yG_fewestLeaders bG_fewestLeaders 3 (some .int) :: ([q16, q32, q33, q34, q35, q36, q37, q20, q38, q7, q8, q9, q39, q15, q14] ++ wcG)
def wG_endsAllWalks : List Cond := .code yG_endsAllWalks bG_endsAllWalks 5 (some .boolean) :: ([q15, q14] ++ wcG)
def wG_longestPath : List Cond := .code yG_longestPath bG_longestPath 3 (some .int) :: ([q15, q14, q40, q41, q20, q42, q43, q44, q45, q46] ++ wcG)
def wG_longestFrom : List Cond := .code yG_longestFrom bG_longestFrom 6 (some .int) :: ([q40, q41, q20, q42, q43, q44, q45])
def wX_init : List Cond := .code yX_init bX_init 3 none :: ([q47, q11, q12, q13, q48, q49, q50, q51, q52, q53, q54, q55, q44, q56, q57, q58, q59, q60, q20, q61, q62, q63, q64, q10, q14, q15, q16] ++ wcX ++ wcG)
def wX_arc : List Cond := .code yX_arc bX_arc 4 (some .int) :: ([q65, q66, q67, q68, q63, q69, q25, q26, q20, q70, q71, q72, q73, q74, q48, q49, q75, q57, q27, q17, q18, q19, q14, q21, q15, q76] ++ wcX ++ wcG)
def wX_plan : List Cond := .code yX_plan bX_plan 1 (some .int) :: ([q70, q63, q77, q78, q79, q20, q80, q81, q82, q83, q84, q85, q86, q87, q88, q89, q90, q15, q28, q29, q30, q16, q31, q14, q91, q40, q41, q42, q43, q44, q45, q46, q92, q32, q33, q34, q35, q36, q37, q38, q7, q8, q9, q39] ++ wcX ++ wcG)
def wX_leaders : List Cond := .code yX_leaders bX_leaders 1 (some .int) :: ([q89] ++ wcX)
def wX_conform : List Cond := .code yX_conform bX_conform 3 (some .boolean) :: ([q65, q66, q67, q68, q93, q94, q95, q96, q75, q57, q97] ++ wcX)
def wX_act : List Cond := .code yX_act bX_act 2 (some .int) :: ([q65, q66, q67, q68, q70, q93, q94, q95, q98, q99, q100, q75, q57, q97, q96, q101, q102, q103, q104, q105, q106, q107, q108, q109, q110, q111, q112, q113, q114, q115, q116, q117, q118, q119, q120, q121, q122, q123, q124, q125, q126, q127, q80, q81, q85, q58, q128, q89, q129, q71, q49, q50, q130, q48, q131, q132, q133, q2, q134, q135, q136, q137, q138, q139, q140, q141, q142, q143, q144, q145, q146, q147, q148, q149, q5, q6, q150, q51, q151, q52, q152, q153, q154, q155, q156, q157, q158, q159, q160, q161, q162, q163, q164, q165, q166, q167, q0, q1, q3, q168] ++ wcX)
def wX_run : List Cond := .code yX_run bX_run 5 (some .int) :: ([q57, q70, q93, q94, q95, q68, q98, q99, q100, q80, q97, q96, q101, q102, q103, q104, q105, q106, q107, q108, q109, q110, q111, q112, q113, q114, q115, q116, q117, q118, q119, q120, q121, q122, q123, q124, q125, q126, q127, q81, q85, q58, q128, q65, q66, q67, q89, q75, q129, q71, q49, q50, q130, q48, q131, q132, q133, q2, q134, q135, q136, q137, q138, q139, q140, q141, q142, q143, q144, q145, q146, q147, q148, q149, q5, q6, q150, q51, q151, q52, q152, q153, q154, q155, q156, q157, q158, q159, q160, q161, q162, q163, q164, q165, q166, q167, q0, q1, q3, q168] ++ wcX)
def wX_deploy : List Cond := .code yX_deploy bX_deploy 2 none :: ([q163, q164, q165, q68, q70, q50, q166, q71] ++ wcX)
def wX_step : List Cond := .code yX_step bX_step 3 (some .int) :: ([q53, q149, q5, q2, q65, q66, q67, q68, q169, q170, q6, q75, q57, q171, q4] ++ wcX)
def wX_show : List Cond := .code yX_show bX_show 3 (some .int) :: ([q163, q164, q165, q68, q53, q172, q173, q2, q174, q175, q49, q63, q176, q177, q178, q20, q118, q119, q120, q70, q50, q142, q143, q144, q139, q140, q141, q179, q180, q181, q145, q146, q147, q51, q182, q33, q34, q166, q71, q183, q4, q5, q0, q1, q6, q3, q184, q185, q22, q23, q17, q18, q19, q24, q25, q26, q21, q15, q27, q14, q128, q65, q66, q67, q89, q75, q57, q150, q148, q149, q80, q81, q85, q58, q186, q187, q188, q157, q158, q159, q189, q162, q52, q151, q38, q7, q8, q9] ++ wcX ++ wcG)
def wX_clear : List Cond := .code yX_clear bX_clear 1 none :: ([q53] ++ wcX)
def wX_back : List Cond := .code yX_back bX_back 2 none :: ([q163, q164, q165, q68, q50, q115, q116, q117, q166, q71, q127, q80, q81, q85, q58] ++ wcX)
def wX_pass : List Cond := .code yX_pass bX_pass 2 (some .int) :: ([q80] ++ wcX)
def wX_state : List Cond := .code yX_state bX_state 2 (some .int) :: ([q163, q164, q165, q68, q50, q166, q71] ++ wcX)
def wX_open : List Cond := .code yX_open bX_open 2 (some .int) :: ([q163, q164, q165, q68, q51, q166, q71] ++ wcX)
def wX_key : List Cond := .code yX_key bX_key 4 (some .int) :: ([q163, q164, q165, q68, q157, q158, q159, q190, q1, q2, q166, q71, q162, q65, q66, q67, q52, q75, q57, q3] ++ wcX)
def wX_outcome : List Cond := .code yX_outcome bX_outcome 4 (some .int) :: ([q65, q66, q67, q68, q49, q191, q192, q193, q48, q194, q195, q196, q75, q57, q197, q71, q50, q198] ++ wcX)
def wX_isParty : List Cond := .code yX_isParty bX_isParty 2 (some .boolean) :: ([q57] ++ wcX)
def wX_isArc : List Cond := .code yX_isArc bX_isArc 2 (some .boolean) :: ([q71] ++ wcX)
def wX_isLeader : List Cond := .code yX_isLeader bX_isLeader 2 (some .boolean) :: ([q65, q66, q67, q68, q89, q75, q57] ++ wcX)
def wX_conforms : List Cond := .code yX_conforms bX_conforms 2 (some .boolean) :: ([q96] ++ wcX)
def wX_isOver : List Cond := .code yX_isOver bX_isOver 1 (some .boolean) :: ([q80, q81, q85, q58] ++ wcX)
def wX_isInTime : List Cond := .code yX_isInTime bX_isInTime 3 (some .boolean) :: ([q149, q5, q2, q80, q81, q85, q58, q6] ++ wcX)
def wX_hashkey : List Cond := .code yX_hashkey bX_hashkey 3 (some .int) :: ([q163, q164, q165, q68, q65, q66, q67, q52, q166, q71, q75, q57] ++ wcX)
def wX_isUnlocked : List Cond := .code yX_isUnlocked bX_isUnlocked 3 (some .boolean) :: ([q51] ++ wcX)
def wX_unlock : List Cond := .code yX_unlock bX_unlock 4 none :: ([q52, q51, q89, q50] ++ wcX)
def wX_mayShow : List Cond := .code yX_mayShow bX_mayShow 5 (some .boolean) :: ([q187, q188, q2, q71, q157, q158, q159, q68, q189, q162, q163, q164, q165, q65, q66, q67, q52, q166, q75, q57] ++ wcX)
def wX_doDeeds : List Cond := .code yX_doDeeds bX_doDeeds 3 (some .int) :: ([q102, q103, q104, q68, q105, q106, q107, q108, q109, q110, q111, q112, q113, q114, q115, q116, q117, q118, q119, q120, q121, q122, q123, q124, q125, q126, q127, q80, q81, q85, q58, q128, q65, q66, q67, q89, q75, q57, q129, q71, q49, q50, q130, q48, q131, q132, q133, q2, q134, q135, q136, q137, q138, q139, q140, q141, q142, q143, q144, q145, q146, q147, q148, q149, q5, q6, q150, q51, q151, q52, q152, q153, q154, q155, q156, q157, q158, q159, q160, q161, q162, q163, q164, q165, q166, q167, q0, q1, q3, q168] ++ wcX)
def wX_deployAll : List Cond := .code yX_deployAll bX_deployAll 2 (some .int) :: ([q115, q116, q117, q68, q118, q119, q120, q121, q122, q123, q124, q125, q126, q127, q80, q81, q85, q58, q128, q65, q66, q67, q89, q75, q57, q129, q71, q49, q50, q130, q48] ++ wcX)
def wX_showItself : List Cond := .code yX_showItself bX_showItself 2 (some .int) :: ([q118, q119, q120, q68, q121, q122, q123, q132, q133, q2, q134, q135, q136, q128, q65, q66, q67, q89, q75, q57, q129, q71, q49, q50, q137, q138, q139, q140, q141, q142, q143, q144, q145, q146, q147, q148, q149, q5, q80, q81, q85, q58, q6, q150, q51, q151, q52] ++ wcX)
def wX_showOthers : List Cond := .code yX_showOthers bX_showOthers 5 (some .int) :: ([q57, q118, q119, q120, q68, q153, q154, q155, q132, q133, q2, q134, q135, q136, q128, q65, q66, q67, q89, q75, q156, q71, q48, q157, q158, q159, q160, q161, q149, q5, q162, q163, q164, q165, q52, q166, q167, q0, q1, q3, q6, q137, q138, q139, q140, q141, q49, q50, q142, q143, q144, q145, q146, q147, q148, q80, q81, q85, q58, q150, q51, q151] ++ wcX)
def wX_takeAllBack : List Cond := .code yX_takeAllBack bX_takeAllBack 2 (some .int) :: ([q115, q116, q117, q68, q124, q125, q126, q127, q80, q81, q85, q58, q130, q71, q48, q50] ++ wcX)
def wX_isSecured : List Cond := .code yX_isSecured bX_isSecured 3 (some .boolean) :: ([q71, q49, q50] ++ wcX)
def wX_moveAll : List Cond := .code yX_moveAll bX_moveAll 6 (some .int) :: ([q71, q48, q50] ++ wcX)
def wX_shortestLearnt : List Cond := .code yX_shortestLearnt bX_shortestLearnt 7 (some .int) :: ([q71, q48, q157, q158, q159, q68, q160, q161, q2, q149, q5, q162, q163, q164, q165, q65, q66, q67, q52, q166, q75, q57, q167, q0, q1, q3, q6] ++ wcX)
def wX_showToAll : List Cond := .code yX_showToAll bX_showToAll 6 (some .int) :: ([q139, q140, q141, q68, q71, q49, q50, q142, q143, q144, q145, q146, q147, q148, q149, q5, q2, q80, q81, q85, q58, q6, q150, q51, q151, q52, q89] ++ wcX)
def wX_countArcs : List Cond := .code yX_countArcs bX_countArcs 5 (some .int) :: ([q71] ++ wcX)
def wX_countPaid : List Cond := .code yX_countPaid bX_countPaid 5 (some .int) :: ([q71, q50] ++ wcX)
def wM_init : List Cond := .code yM_init bM_init 3 none :: ([q199, q11, q12, q13, q200, q201, q202, q203, q204, q205, q206, q207, q208, q209] ++ wcM)
def wM_thrown : List Cond := .code yM_thrown bM_thrown 1 (some .int) :: ([q210] ++ wcM)
def wM_fail : List Cond := .code yM_fail bM_fail 2 (some .int) :: ([q210] ++ wcM)
def wM_isParty : List Cond := .code yM_isParty bM_isParty 2 (some .boolean) :: ([q208] ++ wcM)
def wM_isArc : List Cond := .code yM_isArc bM_isArc 2 (some .boolean) :: ([q211] ++ wcM)
def wM_has : List Cond := .code yM_has bM_has 2 (some .boolean) :: ([])
def wM_arc : List Cond := .code yM_arc bM_arc 3 (some .int) :: ([q210, q212, q213, q214, q215, q205, q216, q217, q218, q219, q220, q221, q211, q200, q201, q222, q208, q223, q224] ++ wcM)
def wM_reached : List Cond := .code yM_reached bM_reached 5 (some .int) :: ([q208, q216, q217, q215, q205, q223] ++ wcM)
def wM_size : List Cond := .code yM_size bM_size 3 (some .int) :: ([])
def wM_greatest : List Cond := .code yM_greatest bM_greatest 6 (some .int) :: ([q208, q216, q217, q215, q205, q207, q225, q226, q223, q227] ++ wcM)
def wM_isOpen : List Cond := .code yM_isOpen bM_isOpen 5 (some .boolean) :: ([q208, q216, q217, q215, q205, q223] ++ wcM)
def wM_fewest : List Cond := .code yM_fewest bM_fewest 4 (some .int) :: ([q208, q225, q226, q215, q228, q229, q230, q227, q231, q216, q217, q205, q223] ++ wcM)
def wM_plan : List Cond := .code yM_plan bM_plan 2 (some .int) :: ([q210, q221, q218, q219, q220, q215, q208, q232, q233, q234, q235, q236, q237, q238, q239, q240, q241, q242, q243, q244, q224, q245, q216, q217, q205, q223, q246, q207, q225, q226, q227, q247, q228, q229, q230, q231] ++ wcM)
def wM_leaders : List Cond := .code yM_leaders bM_leaders 1 (some .int) :: ([q210, q244] ++ wcM)
def wM_many : List Cond := .code yM_many bM_many 1 (some .int) :: ([])
def wM_member : List Cond := .code yM_member bM_member 2 (some .int) :: ([])
def wM_members : List Cond := .code yM_members bM_members 3 (some .int) :: ([q248, q249, q215, q250, q251, q252, q253])
def wM_before : List Cond := .code yM_before bM_before 2 (some .int) :: ([q254, q248, q249, q215, q252])
def wM_behind : List Cond := .code yM_behind bM_behind 1 (some .int) :: ([q254, q248, q249, q215, q252])
def wM_isInTime : List Cond := .code yM_isInTime bM_isInTime 2 (some .boolean) :: ([q235, q236, q240, q209] ++ wcM)
def wM_isLate : List Cond := .code yM_isLate bM_isLate 1 (some .boolean) :: ([q235, q236, q240, q209] ++ wcM)
def wM_unlock : List Cond := .code yM_unlock bM_unlock 4 none :: ([q248, q249, q215, q250, q251, q203, q204, q244, q202, q252, q253] ++ wcM)
def wM_isCovered : List Cond := .code yM_isCovered bM_isCovered 4 (some .boolean) :: ([q211, q201, q202] ++ wcM)
def wM_deeds : List Cond := .code yM_deeds bM_deeds 7 (some .int) :: ([q244, q216, q217, q215, q255, q256, q257, q211, q200, q202, q258, q259, q260, q261, q262, q263, q264, q265, q208, q266, q267, q268, q223, q269, q201, q270, q235, q236, q240, q209, q271, q254, q248, q249, q252, q272, q203, q273, q274, q275, q276, q277, q278, q279, q280, q250, q251, q204, q253, q281, q282, q283, q284] ++ wcM)
def wM_shownBy : List Cond := .code yM_shownBy bM_shownBy 6 (some .int) :: ([q211, q201, q202, q203, q216, q217, q215, q248, q249, q273, q274, q275, q276, q277, q278, q223, q252, q279, q235, q236, q240, q209, q280, q250, q251, q204, q244, q253] ++ wcM)
def wM_shortest : List Cond := .code yM_shortest bM_shortest 6 (some .int) :: ([q211, q204, q200, q203, q216, q217, q215, q282, q283, q248, q249, q223, q284, q250, q251, q252, q253] ++ wcM)
def wM_conform : List Cond := .code yM_conform bM_conform 3 (some .boolean) :: ([q210, q212, q213, q214, q215, q285, q216, q217, q222, q208, q223] ++ wcM)
def wM_act : List Cond := .code yM_act bM_act 2 (some .int) :: ([q210, q212, q213, q214, q215, q218, q219, q220, q221, q285, q216, q217, q286, q287, q288, q222, q208, q224, q223, q289, q244, q255, q256, q257, q211, q200, q202, q258, q259, q260, q261, q262, q263, q264, q265, q266, q267, q268, q269, q201, q270, q235, q236, q240, q209, q271, q254, q248, q249, q252, q272, q203, q273, q274, q275, q276, q277, q278, q279, q280, q250, q251, q204, q253, q281, q282, q283, q284] ++ wcM)
def wM_run : List Cond := .code yM_run bM_run 5 (some .int) :: ([q210, q218, q219, q220, q215, q208, q221, q285, q216, q217, q286, q287, q288, q235, q224, q223, q289, q244, q255, q256, q257, q211, q200, q202, q258, q259, q260, q261, q262, q263, q264, q265, q266, q267, q268, q269, q201, q270, q236, q240, q209, q271, q254, q248, q249, q252, q272, q203, q273, q274, q275, q276, q277, q278, q279, q280, q250, q251, q204, q253, q281, q282, q283, q284] ++ wcM)
def wM_deploy : List Cond := .code yM_deploy bM_deploy 2 none :: ([q290, q291, q292, q215, q221, q202, q210, q293, q211] ++ wcM)
def wM_step : List Cond := .code yM_step bM_step 3 (some .int) :: ([q210, q212, q213, q214, q215, q294, q248, q249, q254, q222, q208, q252] ++ wcM)
def wM_clear : List Cond := .code yM_clear bM_clear 1 none :: ([q210, q294] ++ wcM)
def wM_isPath : List Cond := .code yM_isPath bM_isPath 5 (some .boolean) :: ([q294, q248, q249, q215, q250, q251, q282, q283, q225, q226, q244, q216, q217, q205, q252, q253, q284, q227, q223] ++ wcM)
def wM_isKnown : List Cond := .code yM_isKnown bM_isKnown 5 (some .boolean) :: ([q294, q248, q249, q215, q295, q296, q250, q251, q211, q203, q216, q217, q204, q252, q297, q254, q253, q223] ++ wcM)
def wM_show : List Cond := .code yM_show bM_show 2 (some .int) :: ([q210, q290, q291, q292, q215, q218, q219, q220, q201, q298, q299, q300, q221, q202, q203, q294, q248, q249, q250, q251, q216, q217, q273, q274, q275, q301, q302, q303, q276, q277, q278, q225, q226, q293, q211, q224, q304, q282, q283, q244, q205, q252, q253, q284, q227, q223, q279, q235, q236, q240, q209, q305, q295, q296, q204, q297, q254, q280] ++ wcM)
def wM_back : List Cond := .code yM_back bM_back 2 none :: ([q290, q291, q292, q215, q202, q258, q259, q260, q210, q293, q211, q270, q235, q236, q240, q209] ++ wcM)
def wM_pass : List Cond := .code yM_pass bM_pass 2 (some .int) :: ([q210, q235] ++ wcM)
def wM_state : List Cond := .code yM_state bM_state 2 (some .int) :: ([q210, q290, q291, q292, q215, q202, q218, q219, q220, q293, q211, q224] ++ wcM)
def wM_open : List Cond := .code yM_open bM_open 2 (some .int) :: ([q210, q290, q291, q292, q215, q203, q218, q219, q220, q293, q211, q224] ++ wcM)
def wM_key : List Cond := .code yM_key bM_key 5 (some .int) :: ([q210, q290, q291, q292, q215, q218, q219, q220, q212, q213, q214, q203, q216, q217, q204, q248, q249, q250, q251, q293, q211, q224, q222, q208, q223, q252, q253] ++ wcM)
def wM_outcome : List Cond := .code yM_outcome bM_outcome 8 (some .int) :: ([q210, q212, q213, q214, q215, q218, q219, q220, q211, q202, q201, q200, q222, q208, q224] ++ wcM)
end
section
/-! The state's words: numbers and arrays, the worlds of the class, its graph, the model. -/
abbrev FT : Type := Nat → Int32
abbrev AT : Type := Nat → Nat → Int32
def updA (f : AT) (k : Nat) (x : Nat → Int32) : AT := fun j => if j = k then x else f j
def wX (cI : ClassId) (b : Nat → Nat) (F : FT) (a : AT) : va_W := [(b 0, .inr (0, [.int (F 0), .int (F 1), .ref (b 1), .ref (b 2), .ref (b 3), .ref (b 4), .ref (b 5), .ref (b 6), .int (F 8), .int (F 9), .int (F 10), .int (F 11), .int (F 12), .int (F 13), .int (F 14), .int (F 15)])),
  (b 1, .inr (1, [.int (F 20), .int (F 21), .ref (b 7)])), (b 2, .inl (cI, 14, .inl (a 3))), (b 3, .inl (cI, 14, .inl (a 4))), (b 4, .inl (cI, 14, .inl (a 5))), (b 5, .inl (cI, 14, .inl (a 6))), (b 6, .inl (cI, 84, .inl (a 7))), (b 7, .inl (cI, 6, .inl (a 22)))]
def wG (cI : ClassId) (b : Nat → Nat) (F : FT) (a : AT) : va_W := [(b 1, .inr (1, [.int (F 20), .int (F 21), .ref (b 7)])), (b 7, .inl (cI, 6, .inl (a 22)))]
def wN (cI : ClassId) (b : Nat → Nat) (a : AT) : va_W := [(b 7, .inl (cI, 6, .inl (a 22)))]
def wM (cI cZ : ClassId) (b : Nat → Nat) (F : FT) (a : AT) : va_W := [(b 0, .inr (2, [.int (F 0), .int (F 1), .int (F 2), .int (F 3), .int (F 4), .int (F 5), .int (F 6), .int (F 7), .int (F 8), .int (F 9), .ref (b 1), .ref (b 2), .ref (b 3), .ref (b 4), .ref (b 5), .ref (b 6), .ref (b 7), .int (F 17)])),
  (b 1, .inl (cI, 14, .inl (a 10))), (b 2, .inl (cI, 14, .inl (a 11))), (b 3, .inl (cI, 14, .inl (a 12))), (b 4, .inl (cI, 14, .inl (a 13))), (b 5, .inl (cI, 84, .inl (a 14))), (b 6, .inl (cI, 6, .inl (a 15))), (b 7, .inl (cZ, 384, .inl (a 16)))]
def szNL (row : Int32) : Nat → Nat → Nat
  | 0, _ => 6
  | k + 1, i => if (row.toUInt32 >>> ((3 * nI i).toUInt32 &&& Int32.toUInt32 31)).toInt32 = 0 then i else szNL row k (i + 1)
def szN (row : Int32) : Nat := szNL row 6 0
end
section
def rParty (row : Int32) (k : Int32) : Int32 :=
  if k < 0 then
    (-1)
  else
    if k < 6 then
      (((row.toUInt32 >>> (((3 : Int32) * k).toUInt32 &&& Int32.toUInt32 31)).toInt32) &&& (7 : Int32)) - (1 : Int32)
    else
      (-1)
def rSizeL (row : Int32) : Nat → Nat → Int32
  | 0, i => nI 6
  | ki + 1, i => if ((row.toUInt32 >>> (((3 : Int32) * (nI i)).toUInt32 &&& Int32.toUInt32 31)).toInt32) = 0 then
      nI i
    else
      rSizeL row ki (i + 1)
def rSize (row : Int32) : Int32 :=
  rSizeL row 6 0
def rFirst (row : Int32) : Int32 :=
  rParty row 0
def rLast (row : Int32) : Int32 :=
  rParty row ((rSize row) - (1 : Int32))
def rRest (row : Int32) : Int32 :=
  (row.toUInt32 >>> ((3 : Int32).toUInt32 &&& Int32.toUInt32 31)).toInt32
def rWithFirst (x : Int32) (row : Int32) : Int32 :=
  (row <<< ((3 : Int32) &&& 31)) ||| (x + (1 : Int32))
def rWithLast (row : Int32) (x : Int32) : Int32 :=
  row ||| ((x + (1 : Int32)) <<< (((3 : Int32) * (rSize row)) &&& 31))
def rHasL (row : Int32) (x : Int32) : Nat → Nat → Int32
  | 0, i => 0
  | ki + 1, i => if x < 0 then
      rHasL row x ki (i + 1)
    else
      if (rParty row (nI i)) = x then
        1
      else
        rHasL row x ki (i + 1)
def rHas (row : Int32) (x : Int32) : Int32 :=
  rHasL row x 6 0
def bitCountF (x : Int32) : Int32 :=
  (((((((x - (((x.toUInt32 >>> ((1 : Int32).toUInt32 &&& Int32.toUInt32 31)).toInt32) &&& (1431655765 : Int32))) &&& (858993459 : Int32)) + ((((x - (((x.toUInt32 >>> ((1 : Int32).toUInt32 &&& Int32.toUInt32 31)).toInt32) &&& (1431655765 : Int32))).toUInt32 >>> ((2 : Int32).toUInt32 &&& Int32.toUInt32 31)).toInt32) &&& (858993459 : Int32))) + (((((x - (((x.toUInt32 >>> ((1 : Int32).toUInt32 &&& Int32.toUInt32 31)).toInt32) &&& (1431655765 : Int32))) &&& (858993459 : Int32)) + ((((x - (((x.toUInt32 >>> ((1 : Int32).toUInt32 &&& Int32.toUInt32 31)).toInt32) &&& (1431655765 : Int32))).toUInt32 >>> ((2 : Int32).toUInt32 &&& Int32.toUInt32 31)).toInt32) &&& (858993459 : Int32))).toUInt32 >>> ((4 : Int32).toUInt32 &&& Int32.toUInt32 31)).toInt32)) &&& (252645135 : Int32)) + (((((((x - (((x.toUInt32 >>> ((1 : Int32).toUInt32 &&& Int32.toUInt32 31)).toInt32) &&& (1431655765 : Int32))) &&& (858993459 : Int32)) + ((((x - (((x.toUInt32 >>> ((1 : Int32).toUInt32 &&& Int32.toUInt32 31)).toInt32) &&& (1431655765 : Int32))).toUInt32 >>> ((2 : Int32).toUInt32 &&& Int32.toUInt32 31)).toInt32) &&& (858993459 : Int32))) + (((((x - (((x.toUInt32 >>> ((1 : Int32).toUInt32 &&& Int32.toUInt32 31)).toInt32) &&& (1431655765 : Int32))) &&& (858993459 : Int32)) + ((((x - (((x.toUInt32 >>> ((1 : Int32).toUInt32 &&& Int32.toUInt32 31)).toInt32) &&& (1431655765 : Int32))).toUInt32 >>> ((2 : Int32).toUInt32 &&& Int32.toUInt32 31)).toInt32) &&& (858993459 : Int32))).toUInt32 >>> ((4 : Int32).toUInt32 &&& Int32.toUInt32 31)).toInt32)) &&& (252645135 : Int32)).toUInt32 >>> ((8 : Int32).toUInt32 &&& Int32.toUInt32 31)).toInt32)) + ((((((((x - (((x.toUInt32 >>> ((1 : Int32).toUInt32 &&& Int32.toUInt32 31)).toInt32) &&& (1431655765 : Int32))) &&& (858993459 : Int32)) + ((((x - (((x.toUInt32 >>> ((1 : Int32).toUInt32 &&& Int32.toUInt32 31)).toInt32) &&& (1431655765 : Int32))).toUInt32 >>> ((2 : Int32).toUInt32 &&& Int32.toUInt32 31)).toInt32) &&& (858993459 : Int32))) + (((((x - (((x.toUInt32 >>> ((1 : Int32).toUInt32 &&& Int32.toUInt32 31)).toInt32) &&& (1431655765 : Int32))) &&& (858993459 : Int32)) + ((((x - (((x.toUInt32 >>> ((1 : Int32).toUInt32 &&& Int32.toUInt32 31)).toInt32) &&& (1431655765 : Int32))).toUInt32 >>> ((2 : Int32).toUInt32 &&& Int32.toUInt32 31)).toInt32) &&& (858993459 : Int32))).toUInt32 >>> ((4 : Int32).toUInt32 &&& Int32.toUInt32 31)).toInt32)) &&& (252645135 : Int32)) + (((((((x - (((x.toUInt32 >>> ((1 : Int32).toUInt32 &&& Int32.toUInt32 31)).toInt32) &&& (1431655765 : Int32))) &&& (858993459 : Int32)) + ((((x - (((x.toUInt32 >>> ((1 : Int32).toUInt32 &&& Int32.toUInt32 31)).toInt32) &&& (1431655765 : Int32))).toUInt32 >>> ((2 : Int32).toUInt32 &&& Int32.toUInt32 31)).toInt32) &&& (858993459 : Int32))) + (((((x - (((x.toUInt32 >>> ((1 : Int32).toUInt32 &&& Int32.toUInt32 31)).toInt32) &&& (1431655765 : Int32))) &&& (858993459 : Int32)) + ((((x - (((x.toUInt32 >>> ((1 : Int32).toUInt32 &&& Int32.toUInt32 31)).toInt32) &&& (1431655765 : Int32))).toUInt32 >>> ((2 : Int32).toUInt32 &&& Int32.toUInt32 31)).toInt32) &&& (858993459 : Int32))).toUInt32 >>> ((4 : Int32).toUInt32 &&& Int32.toUInt32 31)).toInt32)) &&& (252645135 : Int32)).toUInt32 >>> ((8 : Int32).toUInt32 &&& Int32.toUInt32 31)).toInt32)).toUInt32 >>> ((16 : Int32).toUInt32 &&& Int32.toUInt32 31)).toInt32)) &&& (63 : Int32)
def gHolds (F : FT) (a : AT) (x : Int32) : Int32 :=
  if x < 0 then
    0
  else
    if (F 20) ≤ x then
      0
    else
      1
def gJoin (F : FT) (a : AT) (x : Int32) (y : Int32) : AT :=
  if (gHolds F a x) = 0 then
    a
  else
    if (gHolds F a y) = 0 then
      a
    else
      updA a 22 (upd (a 22) x.toNatClampNeg (((a 22) x.toNatClampNeg) ||| ((1 : Int32) <<< (y &&& 31))))
def gJoins (F : FT) (a : AT) (x : Int32) (y : Int32) : Int32 :=
  if (gHolds F a x) = 0 then
    0
  else
    if (gHolds F a y) = 0 then
      0
    else
      if ((((a 22) x.toNatClampNeg) >>> (y &&& 31)) &&& (1 : Int32)) = 1 then
        1
      else
        0
def gIsPathL (F : FT) (a : AT) (P : Nat) (row : Int32) : Nat → Nat → Int32 → Int32
  | 0, i, seen => if (nI (szN row)) ≤ 0 then
      0
    else
      1
  | ki + 1, i, seen => if (gHolds F a (rParty row (nI i))) = 0 then
      0
    else
      if ((seen >>> ((rParty row (nI i)) &&& 31)) &&& (1 : Int32)) = 0 then
        if (nI i) ≤ 0 then
          gIsPathL F a P row ki (i + 1) (seen ||| ((1 : Int32) <<< ((rParty row (nI i)) &&& 31)))
        else
          if (gJoins F a (rParty row ((nI i) - (1 : Int32))) (rParty row (nI i))) = 0 then
            0
          else
            gIsPathL F a P row ki (i + 1) (seen ||| ((1 : Int32) <<< ((rParty row (nI i)) &&& 31)))
      else
        0
def gIsPath (F : FT) (a : AT) (P : Nat) (row : Int32) : Int32 :=
  gIsPathL F a P row (szN row) 0 0
def gReachI (F : FT) (a : AT) (P : Nat) (x : Int32) : Nat → Nat → Int32 → Int32
  | 0, qq, v => v
  | kqq + 1, qq, v => if ((v >>> ((nI qq) &&& 31)) &&& (1 : Int32)) = 1 then
      gReachI F a P x kqq (qq + 1) (v ||| ((a 22) qq))
    else
      gReachI F a P x kqq (qq + 1) v
def gReachL (F : FT) (a : AT) (P : Nat) (x : Int32) : Nat → Nat → Int32 → Int32
  | 0, rr, u => u
  | krr + 1, rr, u => gReachL F a P x krr (rr + 1) (gReachI F a P x P 0 u)
def gReach (F : FT) (a : AT) (P : Nat) (x : Int32) : Int32 :=
  gReachL F a P x (P - 1) 1 ((1 : Int32) <<< (x &&& 31))
def gIsStrongL (F : FT) (a : AT) (P : Nat) : Nat → Nat → Int32
  | 0, i => 1
  | ki + 1, i => if (gReach F a P (nI i)) = (F 21) then
      gIsStrongL F a P ki (i + 1)
    else
      0
def gIsStrong (F : FT) (a : AT) (P : Nat) : Int32 :=
  gIsStrongL F a P P 0
def gEndsI (F : FT) (a : AT) (P : Nat) (x : Int32) : Nat → Nat → Int32 → Int32
  | 0, qq, v => v
  | kqq + 1, qq, v => if (((a 22) qq) &&& v) = 0 then
      gEndsI F a P x kqq (qq + 1) (v &&& (((1 : Int32) <<< ((nI qq) &&& 31)) ^^^ ((-1) : Int32)))
    else
      gEndsI F a P x kqq (qq + 1) v
def gEndsL (F : FT) (a : AT) (P : Nat) (x : Int32) : Nat → Nat → Int32 → Int32
  | 0, rr, u => u
  | krr + 1, rr, u => gEndsL F a P x krr (rr + 1) (gEndsI F a P x P 0 u)
def gEnds (F : FT) (a : AT) (P : Nat) (x : Int32) : Int32 :=
  if (gEndsL F a P x P 0 x) = 0 then
    1
  else
    0
def gFewestL (F : FT) (a : AT) (P : Nat) (E : Nat) : Nat → Nat → Int32 → Int32
  | 0, qq, best => best
  | kqq + 1, qq, best => if (bitCountF best) ≤ (bitCountF (nI qq)) then
      gFewestL F a P E kqq (qq + 1) best
    else
      if (gEnds F a P ((nI E) &&& ((nI qq) ^^^ ((-1) : Int32)))) = 0 then
        gFewestL F a P E kqq (qq + 1) best
      else
        gFewestL F a P E kqq (qq + 1) (nI qq)
def gFewest (F : FT) (a : AT) (P : Nat) (E : Nat) : Int32 :=
  gFewestL F a P E E 0 (nI E)
def isPartyF (F : FT) (a : AT) (x : Int32) : Int32 :=
  if x < 0 then
    0
  else
    if (F 0) ≤ x then
      0
    else
      1
def isArcF (F : FT) (a : AT) (x : Int32) : Int32 :=
  if x < 0 then
    0
  else
    if (F 8) ≤ x then
      0
    else
      1
def isLeaderF (F : FT) (a : AT) (x : Int32) : Int32 :=
  if (isPartyF F a x) = 0 then
    0
  else
    if (((F 10) >>> (x &&& 31)) &&& (1 : Int32)) = 1 then
      1
    else
      0
def conformsF (F : FT) (a : AT) (x : Int32) : Int32 :=
  if (((F 14) >>> (x &&& 31)) &&& (1 : Int32)) = 0 then
    1
  else
    0
def isOverF (F : FT) (a : AT) : Int32 :=
  if (F 13) < ((F 12) + (((2 : Int32) * (F 11)) * (F 1))) then
    0
  else
    1
def isInTimeF (F : FT) (a : AT) (row : Int32) : Int32 :=
  if ((F 12) + (((F 11) + ((rSize row) - (1 : Int32))) * (F 1))) ≤ (F 13) then
    0
  else
    1
def hashkeyF (F : FT) (a : AT) (x : Int32) (y : Int32) : Int32 :=
  if (isArcF F a x) = 0 then
    0
  else
    if (isPartyF F a y) = 0 then
      0
    else
      (a 7) (((x * (6 : Int32)) + y).toNatClampNeg)
def isUnlockedF (F : FT) (a : AT) (x : Int32) (y : Int32) : Int32 :=
  if ((((a 6) x.toNatClampNeg) >>> (y &&& 31)) &&& (1 : Int32)) = 1 then
    1
  else
    0
def unlockF (F : FT) (a : AT) (x : Int32) (y : Int32) (row : Int32) : AT :=
  if ((upd (a 6) x.toNatClampNeg (((a 6) x.toNatClampNeg) ||| ((1 : Int32) <<< (y &&& 31)))) x.toNatClampNeg) = (F 10) then
    updA (updA (updA a 7 (upd (a 7) (((x * (6 : Int32)) + y).toNatClampNeg) row)) 6 (upd (a 6) x.toNatClampNeg (((a 6) x.toNatClampNeg) ||| ((1 : Int32) <<< (y &&& 31))))) 5 (upd (a 5) x.toNatClampNeg 2)
  else
    updA (updA a 7 (upd (a 7) (((x * (6 : Int32)) + y).toNatClampNeg) row)) 6 (upd (a 6) x.toNatClampNeg (((a 6) x.toNatClampNeg) ||| ((1 : Int32) <<< (y &&& 31))))
def mayShowL (F : FT) (a : AT) (n : Nat) (P : Nat) (x : Int32) (row : Int32) : Nat → Nat → Int32
  | 0, i => 0
  | ki + 1, i => if (hashkeyF F a (nI i) x) = (rRest row) then
      1
    else
      mayShowL F a n P x row ki (i + 1)
def mayShowF (F : FT) (a : AT) (n : Nat) (P : Nat) (x : Int32) (row : Int32) : Int32 :=
  if (rRest row) = 0 then
    1
  else
    mayShowL F a n P x row n 0
def isSecuredL (F : FT) (a : AT) (n : Nat) (x : Int32) : Nat → Nat → Int32
  | 0, i => 1
  | ki + 1, i => if ((a 4) i) = x then
      if ((a 5) i) = 1 then
        isSecuredL F a n x ki (i + 1)
      else
        if ((a 5) i) = 2 then
          isSecuredL F a n x ki (i + 1)
        else
          0
    else
      isSecuredL F a n x ki (i + 1)
def isSecuredF (F : FT) (a : AT) (n : Nat) (x : Int32) : Int32 :=
  isSecuredL F a n x n 0
def moveAllL (F : FT) (n : Nat) (x : Int32) (y : Int32) (z : Int32) : Nat → Nat → Int32 → AT → Int32 × AT
  | 0, i, d, a1 => (d, a1)
  | ki + 1, i, d, a1 => if ((a1 3) i) = x then
      if ((a1 5) i) = y then
        moveAllL F n x y z ki (i + 1) (d + 1) (updA a1 5 (upd (a1 5) i z))
      else
        moveAllL F n x y z ki (i + 1) d a1
    else
      moveAllL F n x y z ki (i + 1) d a1
def moveAllF (F : FT) (a : AT) (n : Nat) (x : Int32) (y : Int32) (z : Int32) : Int32 × AT :=
  ((moveAllL F n x y z n 0 0 a).1, (moveAllL F n x y z n 0 0 a).2)
def shortestL (F : FT) (a : AT) (n : Nat) (P : Nat) (x : Int32) (y : Int32) : Nat → Nat → Int32 → Int32
  | 0, i, best => best
  | ki + 1, i, best => if ((a 3) i) = x then
      if (hashkeyF F a (nI i) y) = 0 then
        shortestL F a n P x y ki (i + 1) best
      else
        if (rHas (hashkeyF F a (nI i) y) x) = 0 then
          if best = 0 then
            shortestL F a n P x y ki (i + 1) (hashkeyF F a (nI i) y)
          else
            if (rSize best) ≤ (rSize (hashkeyF F a (nI i) y)) then
              shortestL F a n P x y ki (i + 1) best
            else
              shortestL F a n P x y ki (i + 1) (hashkeyF F a (nI i) y)
        else
          shortestL F a n P x y ki (i + 1) best
    else
      shortestL F a n P x y ki (i + 1) best
def shortestF (F : FT) (a : AT) (n : Nat) (P : Nat) (x : Int32) (y : Int32) : Int32 :=
  shortestL F a n P x y n 0 0
def showToAllL (F : FT) (n : Nat) (x : Int32) (y : Int32) (row : Int32) : Nat → Nat → Int32 → AT → Int32 × AT
  | 0, i, d, a1 => (d, a1)
  | ki + 1, i, d, a1 => if ((a1 4) i) = x then
      if ((a1 5) i) = 1 then
        if (isUnlockedF F a1 (nI i) y) = 0 then
          showToAllL F n x y row ki (i + 1) (d + 1) (unlockF F a1 (nI i) y row)
        else
          showToAllL F n x y row ki (i + 1) d a1
      else
        showToAllL F n x y row ki (i + 1) d a1
    else
      showToAllL F n x y row ki (i + 1) d a1
def showToAllF (F : FT) (a : AT) (n : Nat) (x : Int32) (y : Int32) (row : Int32) : Int32 × AT :=
  if (isInTimeF F a row) = 0 then
    (0, a)
  else
    ((showToAllL F n x y row n 0 0 a).1, (showToAllL F n x y row n 0 0 a).2)
def countArcs3L (F : FT) (a : AT) (n : Nat) (x : Int32) : Nat → Nat → Int32 → Int32
  | 0, i, d => d
  | ki + 1, i, d => if ((a 3) i) = x then
      countArcs3L F a n x ki (i + 1) (d + 1)
    else
      countArcs3L F a n x ki (i + 1) d
def countArcs3F (F : FT) (a : AT) (n : Nat) (x : Int32) : Int32 :=
  countArcs3L F a n x n 0 0
def countArcs4L (F : FT) (a : AT) (n : Nat) (x : Int32) : Nat → Nat → Int32 → Int32
  | 0, i, d => d
  | ki + 1, i, d => if ((a 4) i) = x then
      countArcs4L F a n x ki (i + 1) (d + 1)
    else
      countArcs4L F a n x ki (i + 1) d
def countArcs4F (F : FT) (a : AT) (n : Nat) (x : Int32) : Int32 :=
  countArcs4L F a n x n 0 0
def countPaid3L (F : FT) (a : AT) (n : Nat) (x : Int32) : Nat → Nat → Int32 → Int32
  | 0, i, d => d
  | ki + 1, i, d => if ((a 3) i) = x then
      if ((a 5) i) = 2 then
        countPaid3L F a n x ki (i + 1) (d + 1)
      else
        countPaid3L F a n x ki (i + 1) d
    else
      countPaid3L F a n x ki (i + 1) d
def countPaid3F (F : FT) (a : AT) (n : Nat) (x : Int32) : Int32 :=
  countPaid3L F a n x n 0 0
def countPaid4L (F : FT) (a : AT) (n : Nat) (x : Int32) : Nat → Nat → Int32 → Int32
  | 0, i, d => d
  | ki + 1, i, d => if ((a 4) i) = x then
      if ((a 5) i) = 2 then
        countPaid4L F a n x ki (i + 1) (d + 1)
      else
        countPaid4L F a n x ki (i + 1) d
    else
      countPaid4L F a n x ki (i + 1) d
def countPaid4F (F : FT) (a : AT) (n : Nat) (x : Int32) : Int32 :=
  countPaid4L F a n x n 0 0
def deployAllF (F : FT) (a : AT) (n : Nat) (x : Int32) : Int32 × AT :=
  if (isOverF F a) = 0 then
    if (isLeaderF F a x) = 0 then
      if (isSecuredF F a n x) = 0 then
        (0, a)
      else
        ((moveAllF F a n x 0 1).1, (moveAllF F a n x 0 1).2)
    else
      ((moveAllF F a n x 0 1).1, (moveAllF F a n x 0 1).2)
  else
    (0, a)
def showItselfF (F : FT) (a : AT) (n : Nat) (x : Int32) : Int32 × AT :=
  if (isLeaderF F a x) = 0 then
    (0, a)
  else
    if (isSecuredF F a n x) = 0 then
      (0, a)
    else
      ((showToAllF F a n x x (rWithFirst x 0)).1, (showToAllF F a n x x (rWithFirst x 0)).2)
def showOthersL (F : FT) (n : Nat) (P : Nat) (x : Int32) : Nat → Nat → Int32 → AT → Int32 × AT
  | 0, j, d, a1 => (d, a1)
  | kj + 1, j, d, a1 => if (isLeaderF F a1 (nI j)) = 0 then
      showOthersL F n P x kj (j + 1) d a1
    else
      if (shortestF F a1 n P x (nI j)) = 0 then
        showOthersL F n P x kj (j + 1) d a1
      else
        showOthersL F n P x kj (j + 1) (d + ((showToAllF F a1 n x (nI j) (rWithFirst x (shortestF F a1 n P x (nI j)))).1)) ((showToAllF F a1 n x (nI j) (rWithFirst x (shortestF F a1 n P x (nI j)))).2)
def showOthersF (F : FT) (a : AT) (n : Nat) (P : Nat) (x : Int32) : Int32 × AT :=
  ((showOthersL F n P x P 0 0 a).1, (showOthersL F n P x P 0 0 a).2)
def takeAllBackF (F : FT) (a : AT) (n : Nat) (x : Int32) : Int32 × AT :=
  if (isOverF F a) = 0 then
    (0, a)
  else
    ((moveAllF F a n x 1 3).1, (moveAllF F a n x 1 3).2)
def doDeedsF (F : FT) (a : AT) (n : Nat) (P : Nat) (x : Int32) : Int32 × AT :=
  (((((deployAllF F a n x).1) + ((showItselfF F ((deployAllF F a n x).2) n x).1)) + ((showOthersF F ((showItselfF F ((deployAllF F a n x).2) n x).2) n P x).1)) + ((takeAllBackF F ((showOthersF F ((showItselfF F ((deployAllF F a n x).2) n x).2) n P x).2) n x).1), (takeAllBackF F ((showOthersF F ((showItselfF F ((deployAllF F a n x).2) n x).2) n P x).2) n x).2)
def leadersF (F : FT) (a : AT) : Int32 :=
  F 10
def conformF (F : FT) (a : AT) (x : Int32) (y : Int32) : Int32 × FT :=
  if (isPartyF F a x) = 0 then
    (0, F)
  else
    if (conformsF F a x) = y then
      (0, F)
    else
      (1, upd F 14 ((F 14) ^^^ ((1 : Int32) <<< (x &&& 31))))
def stepF (F : FT) (a : AT) (x : Int32) : Int32 × FT :=
  if (isPartyF F a x) = 0 then
    ((-1), F)
  else
    if (rSize (F 15)) < 6 then
      ((rSize (F 15)) + (1 : Int32), upd F 15 (rWithLast (F 15) x))
    else
      ((-1), F)
def clearF (F : FT) (a : AT) : FT :=
  upd F 15 0
def passF (F : FT) (a : AT) (x : Int32) : Int32 × FT :=
  if x < 0 then
    ((-1), F)
  else
    if x ≤ 100 then
      ((F 13) + x, upd F 13 ((F 13) + x))
    else
      ((-1), F)
def mThrown (F : FT) (a : AT) : Int32 :=
  F 2
def mFail (F : FT) (a : AT) (x : Int32) : Int32 × FT :=
  (0, upd F 2 x)
def mIsParty (F : FT) (a : AT) (x : Int32) : Int32 :=
  if x < 0 then
    0
  else
    if (F 0) ≤ x then
      0
    else
      1
def mIsArc (F : FT) (a : AT) (x : Int32) : Int32 :=
  if x < 0 then
    0
  else
    if (F 9) ≤ x then
      0
    else
      1
def mHas (x : Int32) (y : Int32) : Int32 :=
  if ((x >>> (y &&& 31)) &&& (1 : Int32)) = 1 then
    1
  else
    0
def mSizeL (x : Int32) : Nat → Nat → Int32 → Int32
  | 0, i, u => u
  | ki + 1, i, u => mSizeL x ki (i + 1) (u + ((x >>> ((nI i) &&& 31)) &&& (1 : Int32)))
def mSize (x : Int32) : Int32 :=
  mSizeL x 6 0 0
def mMany (row : Int32) : Int32 :=
  row >>> ((18 : Int32) &&& 31)
def mMember (row : Int32) (k : Int32) : Int32 :=
  (row >>> (((3 : Int32) * k) &&& 31)) &&& (7 : Int32)
def mMembersL (mm : Nat) (row : Int32) : Nat → Nat → Int32 → Int32
  | 0, i, u => u
  | ki + 1, i, u => mMembersL mm row ki (i + 1) (u ||| ((1 : Int32) <<< ((mMember row (nI i)) &&& 31)))
def mMembers (mm : Nat) (row : Int32) : Int32 :=
  mMembersL mm row mm 0 0
def mBefore (x : Int32) (row : Int32) : Int32 :=
  ((((row &&& (262143 : Int32)) <<< ((3 : Int32) &&& 31)) &&& (262143 : Int32)) ||| x) ||| (((mMany row) + (1 : Int32)) <<< ((18 : Int32) &&& 31))
def mBehind (row : Int32) : Int32 :=
  ((row &&& (262143 : Int32)) >>> ((3 : Int32) &&& 31)) ||| (((mMany row) - (1 : Int32)) <<< ((18 : Int32) &&& 31))
def mIsInTime (F : FT) (a : AT) (x : Int32) : Int32 :=
  if ((F 5) + (((F 6) + x) * (F 1))) ≤ (F 3) then
    0
  else
    1
def mIsLate (F : FT) (a : AT) : Int32 :=
  if (F 3) < ((F 5) + (((2 : Int32) * (F 6)) * (F 1))) then
    0
  else
    1
def mReachedI (F : FT) (a : AT) (P : Nat) (x : Int32) : Nat → Nat → Int32 → Int32
  | 0, qq, v => v
  | kqq + 1, qq, v => if (mHas v (nI qq)) = 0 then
      mReachedI F a P x kqq (qq + 1) v
    else
      mReachedI F a P x kqq (qq + 1) (v ||| ((a 15) qq))
def mReachedL (F : FT) (a : AT) (P : Nat) (x : Int32) : Nat → Nat → Int32 → Int32
  | 0, r, u => u
  | kr + 1, r, u => mReachedL F a P x kr (r + 1) (mReachedI F a P x P 0 u)
def mReached (F : FT) (a : AT) (P : Nat) (x : Int32) : Int32 :=
  mReachedL F a P x P 0 ((1 : Int32) <<< (x &&& 31))
def mIsOpenI (F : FT) (a : AT) (P : Nat) (x : Int32) : Nat → Nat → Int32 → Int32
  | 0, qq, v => v
  | kqq + 1, qq, v => if (mHas v (nI qq)) = 0 then
      mIsOpenI F a P x kqq (qq + 1) v
    else
      if (((a 15) qq) &&& v) = 0 then
        mIsOpenI F a P x kqq (qq + 1) (v &&& (((1 : Int32) <<< ((nI qq) &&& 31)) ^^^ ((-1) : Int32)))
      else
        mIsOpenI F a P x kqq (qq + 1) v
def mIsOpenL (F : FT) (a : AT) (P : Nat) (x : Int32) : Nat → Nat → Int32 → Int32
  | 0, r, u => u
  | kr + 1, r, u => mIsOpenL F a P x kr (r + 1) (mIsOpenI F a P x P 0 u)
def mIsOpen (F : FT) (a : AT) (P : Nat) (x : Int32) : Int32 :=
  if (mIsOpenL F a P x P 0 x) = 0 then
    1
  else
    0
def mGreatI (F : FT) (a2 : AT) (P : Nat) (ss : Nat) (pp : Nat) : Nat → Nat → Int32 → Int32
  | 0, qq, can => can
  | kqq + 1, qq, can => if (mHas (nI ss) (nI pp)) = 0 then
      can
    else
      if can = 0 then
        if (nI qq) = (nI pp) then
          mGreatI F a2 P ss pp kqq (qq + 1) 0
        else
          if (mHas (nI ss) (nI qq)) = 0 then
            mGreatI F a2 P ss pp kqq (qq + 1) 0
          else
            if (mHas ((a2 15) qq) (nI pp)) = 0 then
              mGreatI F a2 P ss pp kqq (qq + 1) 0
            else
              if ((a2 16) ((((6 : Int32) * ((nI ss) &&& (((1 : Int32) <<< ((nI pp) &&& 31)) ^^^ ((-1) : Int32)))) + (nI qq)).toNatClampNeg)) = 0 then
                mGreatI F a2 P ss pp kqq (qq + 1) 0
              else
                mGreatI F a2 P ss pp kqq (qq + 1) 1
      else
        mGreatI F a2 P ss pp kqq (qq + 1) 1
def mCan0 (ss : Nat) (pp : Nat) : Int32 :=
  if (nI ss) = ((1 : Int32) <<< ((nI pp) &&& 31)) then
    1
  else
    0
def mGreatM (F : FT) (P : Nat) (ss : Nat) : Nat → Nat → Int32 → AT → Int32 × AT
  | 0, pp, v, a2 => (v, a2)
  | kpp + 1, pp, v, a2 => if (mHas (nI ss) (nI pp)) = 0 then
      mGreatM F P ss kpp (pp + 1) v (updA a2 16 (upd (a2 16) ((((6 : Int32) * (nI ss)) + (nI pp)).toNatClampNeg) 0))
    else
      if (mGreatI F a2 P ss pp P 0 (mCan0 ss pp)) = 0 then
        mGreatM F P ss kpp (pp + 1) v (updA a2 16 (upd (a2 16) ((((6 : Int32) * (nI ss)) + (nI pp)).toNatClampNeg) 0))
      else
        if ((mSize (nI ss)) - (1 : Int32)) ≤ v then
          mGreatM F P ss kpp (pp + 1) v (updA a2 16 (upd (a2 16) ((((6 : Int32) * (nI ss)) + (nI pp)).toNatClampNeg) 1))
        else
          mGreatM F P ss kpp (pp + 1) ((mSize (nI ss)) - (1 : Int32)) (updA a2 16 (upd (a2 16) ((((6 : Int32) * (nI ss)) + (nI pp)).toNatClampNeg) 1))
def mGreatL (F : FT) (P : Nat) : Nat → Nat → Int32 → AT → Int32 × AT
  | 0, ss, u, a1 => (u, a1)
  | kss + 1, ss, u, a1 => mGreatL F P kss (ss + 1) ((mGreatM F P ss P 0 u a1).1) ((mGreatM F P ss P 0 u a1).2)
def mGreat (F : FT) (a : AT) (P : Nat) : Int32 × AT :=
  ((mGreatL F P (2 ^ P - 1) 1 0 a).1, (mGreatL F P (2 ^ P - 1) 1 0 a).2)
def mUnlock (F : FT) (a : AT) (x : Int32) (row : Int32) : AT :=
  if ((upd (a 13) x.toNatClampNeg (((a 13) x.toNatClampNeg) ||| ((1 : Int32) <<< ((mMember row ((mMany row) - (1 : Int32))) &&& 31)))) x.toNatClampNeg) = (F 7) then
    updA (updA (updA a 13 (upd (a 13) x.toNatClampNeg (((a 13) x.toNatClampNeg) ||| ((1 : Int32) <<< ((mMember row ((mMany row) - (1 : Int32))) &&& 31))))) 14 (upd (a 14) ((((6 : Int32) * x) + (mMember row ((mMany row) - (1 : Int32)))).toNatClampNeg) row)) 12 (upd (a 12) x.toNatClampNeg 2)
  else
    updA (updA a 13 (upd (a 13) x.toNatClampNeg (((a 13) x.toNatClampNeg) ||| ((1 : Int32) <<< ((mMember row ((mMany row) - (1 : Int32))) &&& 31))))) 14 (upd (a 14) ((((6 : Int32) * x) + (mMember row ((mMany row) - (1 : Int32)))).toNatClampNeg) row)
def mCoveredL (F : FT) (a : AT) (n : Nat) (x : Int32) : Nat → Nat → Int32 → Int32
  | 0, i, u => u
  | ki + 1, i, u => if u = 0 then
      mCoveredL F a n x ki (i + 1) 0
    else
      if ((a 11) i) = x then
        if ((a 12) i) = 1 then
          mCoveredL F a n x ki (i + 1) 1
        else
          if ((a 12) i) = 2 then
            mCoveredL F a n x ki (i + 1) 1
          else
            mCoveredL F a n x ki (i + 1) 0
      else
        mCoveredL F a n x ki (i + 1) 1
def mCovered (F : FT) (a : AT) (n : Nat) (x : Int32) : Int32 :=
  mCoveredL F a n x n 0 1
def mShownByL (F : FT) (n : Nat) (x : Int32) (y : Int32) (row : Int32) : Nat → Nat → Int32 → AT → Int32 × AT
  | 0, i, d, a1 => (d, a1)
  | ki + 1, i, d, a1 => if ((a1 11) i) = x then
      if ((a1 12) i) = 1 then
        if (mHas ((a1 13) i) y) = 0 then
          if (mIsInTime F a1 ((mMany row) - (1 : Int32))) = 0 then
            mShownByL F n x y row ki (i + 1) d a1
          else
            mShownByL F n x y row ki (i + 1) (d + 1) (mUnlock F a1 (nI i) row)
        else
          mShownByL F n x y row ki (i + 1) d a1
      else
        mShownByL F n x y row ki (i + 1) d a1
    else
      mShownByL F n x y row ki (i + 1) d a1
def mShownBy (F : FT) (a : AT) (n : Nat) (x : Int32) (y : Int32) (row : Int32) : Int32 × AT :=
  ((mShownByL F n x y row n 0 0 a).1, (mShownByL F n x y row n 0 0 a).2)
def mShortestL (F : FT) (a : AT) (n : Nat) (x : Int32) (y : Int32) : Nat → Nat → Int32 → Int32
  | 0, i, best => best
  | ki + 1, i, best => if ((a 10) i) = x then
      if (mHas ((a 13) i) y) = 0 then
        mShortestL F a n x y ki (i + 1) best
      else
        if (mHas (mMembers ((mMany ((a 14) ((((6 : Int32) * (nI i)) + y).toNatClampNeg))).toNatClampNeg) ((a 14) ((((6 : Int32) * (nI i)) + y).toNatClampNeg))) x) = 0 then
          if best = 0 then
            mShortestL F a n x y ki (i + 1) ((a 14) ((((6 : Int32) * (nI i)) + y).toNatClampNeg))
          else
            if (mMany best) ≤ (mMany ((a 14) ((((6 : Int32) * (nI i)) + y).toNatClampNeg))) then
              mShortestL F a n x y ki (i + 1) best
            else
              mShortestL F a n x y ki (i + 1) ((a 14) ((((6 : Int32) * (nI i)) + y).toNatClampNeg))
        else
          mShortestL F a n x y ki (i + 1) best
    else
      mShortestL F a n x y ki (i + 1) best
def mShortest (F : FT) (a : AT) (n : Nat) (x : Int32) (y : Int32) : Int32 :=
  mShortestL F a n x y n 0 0
def mFewestI (F : FT) (a : AT) (P : Nat) (i : Nat) (K : Int32) : Nat → Nat → Int32
  | 0, j => K
  | kj + 1, j => if (mSize (nI j)) = (nI i) then
      if (mIsOpen F a P ((nI (2 ^ P - 1)) &&& ((nI j) ^^^ ((-1) : Int32)))) = 0 then
        mFewestI F a P i K kj (j + 1)
      else
        nI j
    else
      mFewestI F a P i K kj (j + 1)
def mFewestL (F : FT) (a : AT) (P : Nat) : Nat → Nat → Int32
  | 0, i => nI (2 ^ P - 1)
  | ki + 1, i => mFewestI F a P i (mFewestL F a P ki (i + 1)) (2 ^ P) 0
def mFewest (F : FT) (a : AT) (P : Nat) : Int32 :=
  mFewestL F a P (P + 1) 0
def mPlanL (F : FT) (a : AT) (P : Nat) : Nat → Nat → Int32 × FT × AT
  | 0, i => ((mGreat (upd (upd (upd F 2 0) 4 1) 5 (F 3)) a P).1, upd (upd (upd (upd (upd F 2 0) 4 1) 5 (F 3)) 6 ((mGreat (upd (upd (upd F 2 0) 4 1) 5 (F 3)) a P).1)) 7 (mFewest (upd (upd (upd (upd F 2 0) 4 1) 5 (F 3)) 6 ((mGreat (upd (upd (upd F 2 0) 4 1) 5 (F 3)) a P).1)) ((mGreat (upd (upd (upd F 2 0) 4 1) 5 (F 3)) a P).2) P), (mGreat (upd (upd (upd F 2 0) 4 1) 5 (F 3)) a P).2)
  | ki + 1, i => if (mReached (upd F 2 0) a P (nI i)) = (nI (2 ^ P - 1)) then
      mPlanL F a P ki (i + 1)
    else
      ((mFail (upd F 2 0) a 2).1, (mFail (upd F 2 0) a 2).2, a)
def mPlan (F : FT) (a : AT) (P : Nat) : Int32 × FT × AT :=
  if (F 4) = 0 then
    mPlanL F a P P 0
  else
    ((mFail (upd F 2 0) a 1).1, (mFail (upd F 2 0) a 1).2, a)
def mDeploy (F : FT) (a : AT) (x : Int32) : FT × AT :=
  if (mIsArc F a x) = 0 then
    (upd F 2 1, a)
  else
    if (F 4) = 0 then
      (upd F 2 2, a)
    else
      if ((a 12) x.toNatClampNeg) = 0 then
        (upd F 2 0, updA a 12 (upd (a 12) x.toNatClampNeg 1))
      else
        (upd F 2 2, a)
def mBack (F : FT) (a : AT) (x : Int32) : FT × AT :=
  if (mIsArc F a x) = 0 then
    (upd F 2 1, a)
  else
    if ((a 12) x.toNatClampNeg) = 1 then
      if (mIsLate F a) = 0 then
        (upd F 2 3, a)
      else
        (upd F 2 0, updA a 12 (upd (a 12) x.toNatClampNeg 3))
    else
      (upd F 2 2, a)
def mState (F : FT) (a : AT) (x : Int32) : Int32 × FT :=
  if (mIsArc (upd F 2 0) a x) = 0 then
    ((mFail (upd F 2 0) a 1).1, (mFail (upd F 2 0) a 1).2)
  else
    ((a 12) x.toNatClampNeg, upd F 2 0)
def mOpen (F : FT) (a : AT) (x : Int32) : Int32 × FT :=
  if (mIsArc (upd F 2 0) a x) = 0 then
    ((mFail (upd F 2 0) a 1).1, (mFail (upd F 2 0) a 1).2)
  else
    ((a 13) x.toNatClampNeg, upd F 2 0)
def mKey (F : FT) (a : AT) (x : Int32) (y : Int32) (z : Int32) : Int32 × FT :=
  if (mIsArc (upd F 2 0) a x) = 0 then
    ((mFail (upd F 2 0) a 1).1, (mFail (upd F 2 0) a 1).2)
  else
    if (mIsParty (upd F 2 0) a y) = 0 then
      ((-1), upd F 2 0)
    else
      if (mHas ((a 13) x.toNatClampNeg) y) = 0 then
        ((-1), upd F 2 0)
      else
        if z < 0 then
          ((-1), upd F 2 0)
        else
          if (mMany ((a 14) ((((6 : Int32) * x) + y).toNatClampNeg))) ≤ z then
            ((-1), upd F 2 0)
          else
            (mMember ((a 14) ((((6 : Int32) * x) + y).toNatClampNeg)) z, upd F 2 0)
def mOutcomeL (F : FT) (a : AT) (n : Nat) (x : Int32) : Nat → Nat → Int32 → Int32 → Int32 → Int32 → Int32 × Int32 × Int32 × Int32
  | 0, i, u2, u3, u4, u5 => (u2, u3, u4, u5)
  | ki + 1, i, u2, u3, u4, u5 => if ((a 12) i) = 2 then
      if ((a 11) i) = x then
        if ((a 10) i) = x then
          mOutcomeL F a n x ki (i + 1) (u2 + 1) (u3 + 1) (u4 + 1) (u5 + 1)
        else
          mOutcomeL F a n x ki (i + 1) (u2 + 1) u3 (u4 + 1) u5
      else
        if ((a 10) i) = x then
          mOutcomeL F a n x ki (i + 1) u2 (u3 + 1) u4 (u5 + 1)
        else
          mOutcomeL F a n x ki (i + 1) u2 u3 u4 u5
    else
      if ((a 11) i) = x then
        if ((a 10) i) = x then
          mOutcomeL F a n x ki (i + 1) u2 u3 (u4 + 1) (u5 + 1)
        else
          mOutcomeL F a n x ki (i + 1) u2 u3 (u4 + 1) u5
      else
        if ((a 10) i) = x then
          mOutcomeL F a n x ki (i + 1) u2 u3 u4 (u5 + 1)
        else
          mOutcomeL F a n x ki (i + 1) u2 u3 u4 u5
def mOutcome (F : FT) (a : AT) (n : Nat) (x : Int32) : Int32 × FT :=
  if (mIsParty (upd F 2 0) a x) = 0 then
    ((mFail (upd F 2 0) a 1).1, (mFail (upd F 2 0) a 1).2)
  else
    if ((mOutcomeL F a n x n 0 0 0 0 0).1) = 0 then
      if ((mOutcomeL F a n x n 0 0 0 0 0).2.1) = 0 then
        (0, upd F 2 0)
      else
        if ((mOutcomeL F a n x n 0 0 0 0 0).1) = ((mOutcomeL F a n x n 0 0 0 0 0).2.2.1) then
          if ((mOutcomeL F a n x n 0 0 0 0 0).2.1) = ((mOutcomeL F a n x n 0 0 0 0 0).2.2.2) then
            (1, upd F 2 0)
          else
            (2, upd F 2 0)
        else
          if ((mOutcomeL F a n x n 0 0 0 0 0).1) ≤ 0 then
            (4, upd F 2 0)
          else
            (4, upd F 2 0)
    else
      if ((mOutcomeL F a n x n 0 0 0 0 0).1) = ((mOutcomeL F a n x n 0 0 0 0 0).2.2.1) then
        if ((mOutcomeL F a n x n 0 0 0 0 0).2.1) = ((mOutcomeL F a n x n 0 0 0 0 0).2.2.2) then
          (1, upd F 2 0)
        else
          (2, upd F 2 0)
      else
        if ((mOutcomeL F a n x n 0 0 0 0 0).1) ≤ 0 then
          (4, upd F 2 0)
        else
          if ((mOutcomeL F a n x n 0 0 0 0 0).2.1) = 0 then
            (3, upd F 2 0)
          else
            (4, upd F 2 0)
def mArc (F : FT) (a : AT) (x : Int32) (y : Int32) : Int32 × FT × AT :=
  if (mIsParty (upd F 2 0) a x) = 0 then
    ((mFail (upd F 2 0) a 1).1, (mFail (upd F 2 0) a 1).2, a)
  else
    if (mIsParty (upd F 2 0) a y) = 0 then
      ((mFail (upd F 2 0) a 1).1, (mFail (upd F 2 0) a 1).2, a)
    else
      if x = y then
        ((mFail (upd F 2 0) a 1).1, (mFail (upd F 2 0) a 1).2, a)
      else
        if (mHas ((a 15) x.toNatClampNeg) y) = 0 then
          if (F 4) = 0 then
            if (F 9) = 14 then
              ((mFail (upd F 2 0) a 2).1, (mFail (upd F 2 0) a 2).2, a)
            else
              (((F 9) + (1 : Int32)) - (1 : Int32), upd (upd F 2 0) 9 ((F 9) + (1 : Int32)), updA (updA (updA a 10 (upd (a 10) ((F 9).toNatClampNeg) x)) 11 (upd (a 11) ((F 9).toNatClampNeg) y)) 15 (upd (a 15) x.toNatClampNeg (((a 15) x.toNatClampNeg) ||| ((1 : Int32) <<< (y &&& 31)))))
          else
            ((mFail (upd F 2 0) a 2).1, (mFail (upd F 2 0) a 2).2, a)
        else
          ((mFail (upd F 2 0) a 1).1, (mFail (upd F 2 0) a 1).2, a)
def mIsPathL (F : FT) (a : AT) (mm : Nat) (x : Int32) : Nat → Nat → Int32 → Int32
  | 0, i, u => u
  | ki + 1, i, u => if u = 0 then
      mIsPathL F a mm x ki (i + 1) 0
    else
      if (mHas ((a 15) ((mMember (F 17) (nI i)).toNatClampNeg)) (mMember (F 17) (nI (i + 1)))) = 0 then
        mIsPathL F a mm x ki (i + 1) 0
      else
        mIsPathL F a mm x ki (i + 1) 1
def mIsPath (F : FT) (a : AT) (mm : Nat) (x : Int32) : Int32 :=
  if (nI mm) = 0 then
    0
  else
    if (mMember (F 17) 0) = x then
      if (mSize (mMembers mm (F 17))) = (nI mm) then
        if (mHas (F 7) (mMember (F 17) ((nI mm) - (1 : Int32)))) = 0 then
          0
        else
          mIsPathL F a mm x (mm - 1) 0 1
      else
        0
    else
      0
def mIsKnownL (F : FT) (a : AT) (mm : Nat) (n : Nat) : Nat → Nat → Int32 → Int32
  | 0, i, u => u
  | ki + 1, i, u => if u = 0 then
      if (mHas ((a 13) i) (mMember (F 17) ((nI mm) - (1 : Int32)))) = 0 then
        mIsKnownL F a mm n ki (i + 1) 0
      else
        if ((a 14) ((((6 : Int32) * (nI i)) + (mMember (F 17) ((nI mm) - (1 : Int32)))).toNatClampNeg)) = (mBehind (F 17)) then
          mIsKnownL F a mm n ki (i + 1) 1
        else
          mIsKnownL F a mm n ki (i + 1) 0
    else
      mIsKnownL F a mm n ki (i + 1) 1
def mIsKnown (F : FT) (a : AT) (mm : Nat) (n : Nat) : Int32 :=
  if (nI mm) = 1 then
    1
  else
    mIsKnownL F a mm n n 0 0
def mLeaders (F : FT) (a : AT) : Int32 × FT :=
  (F 7, upd F 2 0)
def mConform (F : FT) (a : AT) (x : Int32) (y : Int32) : Int32 × FT :=
  if (mIsParty (upd F 2 0) a x) = 0 then
    (0, upd F 2 0)
  else
    if (mHas (F 8) x) = y then
      (1, upd (upd F 2 0) 8 ((F 8) ^^^ ((1 : Int32) <<< (x &&& 31))))
    else
      (0, upd F 2 0)
def mStep (F : FT) (a : AT) (x : Int32) : Int32 × FT :=
  if (mIsParty (upd F 2 0) a x) = 0 then
    ((-1), upd F 2 0)
  else
    if (mMany (F 17)) = 6 then
      ((-1), upd F 2 0)
    else
      ((mMany (F 17)) + (1 : Int32), upd (upd F 2 0) 17 ((((F 17) &&& (262143 : Int32)) ||| (x <<< (((3 : Int32) * (mMany (F 17))) &&& 31))) ||| (((mMany (F 17)) + (1 : Int32)) <<< ((18 : Int32) &&& 31))))
def mClear (F : FT) (a : AT) : FT :=
  upd (upd F 2 0) 17 0
def mPass (F : FT) (a : AT) (x : Int32) : Int32 × FT :=
  if x < 0 then
    ((-1), upd F 2 0)
  else
    if x ≤ 100 then
      ((F 3) + x, upd (upd F 2 0) 3 ((F 3) + x))
    else
      ((-1), upd F 2 0)
end
section
/-! Bounds and small facts of the pure functions. -/
theorem ix_nat {x N : Int32} {n : Nat} (hN : N = nI n) (hn : n < 2 ^ 31) (h0 : ¬ x < 0) (h1 : ¬ N ≤ x) : ∃ j : Nat, j < n ∧ x = nI j := by
  subst hN
  rcases pk_ix x hn with h | h | h
  · exact absurd h h0
  · exact absurd h h1
  · exact h
theorem arc_nat {F : FT} {a : AT} {x : Int32} {n : Nat} (h : ¬ isArcF F a x = 0) (hn : F 8 = nI n) (hn4 : n ≤ 14) : ∃ j : Nat, j < n ∧ x = nI j := by
  unfold isArcF at h
  by_cases h0 : x < 0
  · rw [if_pos h0] at h; exact absurd rfl h
  · rw [if_neg h0] at h
    by_cases h1 : F 8 ≤ x
    · rw [if_pos h1] at h; exact absurd rfl h
    · exact ix_nat hn (by omega) h0 h1
theorem party_nat {F : FT} {a : AT} {x : Int32} {P : Nat} (h : ¬ isPartyF F a x = 0) (hp : F 0 = nI P) (hp6 : P ≤ 6) : ∃ j : Nat, j < P ∧ x = nI j := by
  unfold isPartyF at h
  by_cases h0 : x < 0
  · rw [if_pos h0] at h; exact absurd rfl h
  · rw [if_neg h0] at h
    by_cases h1 : F 0 ≤ x
    · rw [if_pos h1] at h; exact absurd rfl h
    · exact ix_nat hp (by omega) h0 h1
theorem vp_arc {F : FT} {a : AT} {x : Int32} {n : Nat} (h : ¬ isArcF F a x = 0) (hn : F 8 = nI n) (hn4 : n ≤ 14) : vp_in x 14 := by
  obtain ⟨j, hj, rfl⟩ := arc_nat h hn hn4
  exact vp_in_nI (by omega) (by decide)
theorem vp_key {F : FT} {a : AT} {x y : Int32} {n P : Nat} (h : ¬ isArcF F a x = 0) (h2 : ¬ isPartyF F a y = 0) (hn : F 8 = nI n) (hn4 : n ≤ 14) (hp : F 0 = nI P) (hp6 : P ≤ 6) : vp_in (x * (6 : Int32) + y) 84 := by
  obtain ⟨j, hj, rfl⟩ := arc_nat h hn hn4
  obtain ⟨t, ht, rfl⟩ := party_nat h2 hp hp6
  show vp_in (nI j * nI 6 + nI t) 84
  rw [pk_mul, nI_add]
  exact vp_in_nI (by omega) (by decide)
theorem vp_key2 {i : Nat} {y : Int32} (hi : i < 14) (hl : vp_in y 6) : vp_in (nI i * (6 : Int32) + y) 84 := by
  obtain ⟨t, ht, rfl⟩ := vp_in_of hl (by decide)
  show vp_in (nI i * nI 6 + nI t) 84
  rw [pk_mul, nI_add]
  exact vp_in_nI (by omega) (by decide)
theorem vp_key3 {i : Nat} {y : Int32} (hi : i < 14) (hl : vp_in y 6) : vp_in ((6 : Int32) * nI i + y) 84 := by
  obtain ⟨t, ht, rfl⟩ := vp_in_of hl (by decide)
  show vp_in (nI 6 * nI i + nI t) 84
  rw [pk_mul, nI_add]
  exact vp_in_nI (by omega) (by decide)
theorem vp_holds {F : FT} {a : AT} {x : Int32} {P : Nat} (h : ¬ gHolds F a x = 0) (hg : F 20 = nI P) (hp6 : P ≤ 6) : vp_in x 6 := by
  unfold gHolds at h
  by_cases h0 : x < 0
  · rw [if_pos h0] at h; exact absurd rfl h
  · rw [if_neg h0] at h
    by_cases h1 : F 20 ≤ x
    · rw [if_pos h1] at h; exact absurd rfl h
    · obtain ⟨j, hj, rfl⟩ := ix_nat hg (by omega) h0 h1
      exact vp_in_nI (by omega) (by decide)
theorem vp_leader {F : FT} {a : AT} {x : Int32} {P : Nat} (h : ¬ isLeaderF F a x = 0) (hp : F 0 = nI P) (hp6 : P ≤ 6) : vp_in x 6 := by
  unfold isLeaderF at h
  by_cases h0 : isPartyF F a x = 0
  · rw [if_pos h0] at h; exact absurd rfl h
  · obtain ⟨j, hj, rfl⟩ := party_nat h0 hp hp6
    exact vp_in_nI (by omega) (by decide)
theorem vp_lt {x : Int32} {n : Nat} (h : vp_in x n) : x.toNatClampNeg < n := Nat.not_le.mp fun q => h (Or.inr q)
theorem shl_P {P : Nat} (h : P ≤ 6) : (1 : Int32) <<< (nI P &&& 31) = nI (2 ^ P) := by
  have h7 : P = 0 ∨ P = 1 ∨ P = 2 ∨ P = 3 ∨ P = 4 ∨ P = 5 ∨ P = 6 := by omega
  rcases h7 with rfl | rfl | rfl | rfl | rfl | rfl | rfl <;> decide +kernel
theorem pow_P {P : Nat} (h : P ≤ 6) : 1 ≤ 2 ^ P ∧ 2 ^ P ≤ 64 := by
  have h7 : P = 0 ∨ P = 1 ∨ P = 2 ∨ P = 3 ∨ P = 4 ∨ P = 5 ∨ P = 6 := by omega
  rcases h7 with rfl | rfl | rfl | rfl | rfl | rfl | rfl <;> decide
theorem pw_sub {P : Nat} (h : P ≤ 6) : nI (2 ^ P) - 1 = nI (2 ^ P - 1) := pk_sub (b := 1) (pow_P h).1
theorem nI_pos1 {m : Nat} (h : ¬ nI m = 0) : 1 ≤ m := by
  rcases Nat.eq_zero_or_pos m with h0 | h0
  · subst h0; exact absurd rfl h
  · exact h0
def clr (s p : Nat) : Nat := s - s / 2 ^ p % 2 * 2 ^ p
theorem clr_eq : ∀ s, s < 64 → ∀ p, p < 6 → nI s &&& (((1 : Int32) <<< (nI p &&& 31)) ^^^ (-1 : Int32)) = nI (clr s p) := by decide +kernel
theorem clr_lt : ∀ s, s < 64 → ∀ p, p < 6 → clr s p < 64 := by decide +kernel
theorem vp_ends1 {s p q : Nat} (hs : s < 64) (hp : p < 6) (hq : q < 6) : vp_in ((6 : Int32) * (nI s &&& (((1 : Int32) <<< (nI p &&& 31)) ^^^ (-1 : Int32))) + nI q) 384 := by
  rw [clr_eq s hs p hp]
  have := clr_lt s hs p hp
  show vp_in (nI 6 * nI (clr s p) + nI q) 384
  rw [pk_mul, nI_add]
  exact vp_in_nI (by omega) (by decide)
theorem vp_ends2 {s p : Nat} (hs : s < 64) (hp : p < 6) : vp_in ((6 : Int32) * nI s + nI p) 384 := by
  show vp_in (nI 6 * nI s + nI p) 384
  rw [pk_mul, nI_add]
  exact vp_in_nI (by omega) (by decide)
theorem rSizeL_n (row : Int32) : ∀ k i, rSizeL row k i = nI (szNL row k i) := by
  intro k
  induction k with
  | zero => intro i; rfl
  | succ k ih =>
    intro i
    simp only [rSizeL, szNL]
    by_cases h : (row.toUInt32 >>> ((3 * nI i).toUInt32 &&& Int32.toUInt32 31)).toInt32 = 0
    · rw [if_pos h, if_pos h]
    · rw [if_neg h, if_neg h]; exact ih (i + 1)
theorem rSize_n (row : Int32) : rSize row = nI (szN row) := rSizeL_n row 6 0
theorem szNL_le (row : Int32) : ∀ k i, i + k = 6 → szNL row k i ≤ 6 := by
  intro k
  induction k with
  | zero => intro i _; exact Nat.le_refl 6
  | succ k ih =>
    intro i h
    simp only [szNL]
    by_cases h1 : (row.toUInt32 >>> ((3 * nI i).toUInt32 &&& Int32.toUInt32 31)).toInt32 = 0
    · rw [if_pos h1]; omega
    · rw [if_neg h1]; exact ih (i + 1) (by omega)
theorem szN_le (row : Int32) : szN row ≤ 6 := szNL_le row 6 0 rfl
theorem arcM_nat {F : FT} {a : AT} {x : Int32} {n : Nat} (h : ¬ mIsArc F a x = 0) (hn : F 9 = nI n) (hn4 : n ≤ 14) : ∃ j : Nat, j < n ∧ x = nI j := by
  unfold mIsArc at h
  by_cases h0 : x < 0
  · rw [if_pos h0] at h; exact absurd rfl h
  · rw [if_neg h0] at h
    by_cases h1 : F 9 ≤ x
    · rw [if_pos h1] at h; exact absurd rfl h
    · exact ix_nat hn (by omega) h0 h1
theorem partyM_nat {F : FT} {a : AT} {x : Int32} {P : Nat} (h : ¬ mIsParty F a x = 0) (hp : F 0 = nI P) (hp6 : P ≤ 6) : ∃ j : Nat, j < P ∧ x = nI j := by
  unfold mIsParty at h
  by_cases h0 : x < 0
  · rw [if_pos h0] at h; exact absurd rfl h
  · rw [if_neg h0] at h
    by_cases h1 : F 0 ≤ x
    · rw [if_pos h1] at h; exact absurd rfl h
    · exact ix_nat hp (by omega) h0 h1
theorem vp_arcM {F : FT} {a : AT} {x : Int32} {n : Nat} (h : ¬ mIsArc F a x = 0) (hn : F 9 = nI n) (hn4 : n ≤ 14) : vp_in x 14 := by
  obtain ⟨j, hj, rfl⟩ := arcM_nat h hn hn4
  exact vp_in_nI (by omega) (by decide)
theorem vp_partyM {F : FT} {a : AT} {x : Int32} {P : Nat} (h : ¬ mIsParty F a x = 0) (hp : F 0 = nI P) (hp6 : P ≤ 6) : vp_in x 6 := by
  obtain ⟨j, hj, rfl⟩ := partyM_nat h hp hp6
  exact vp_in_nI (by omega) (by decide)
theorem vp_keyM {F : FT} {a : AT} {x y : Int32} {n P : Nat} (h : ¬ mIsArc F a x = 0) (h2 : ¬ mIsParty F a y = 0) (hn : F 9 = nI n) (hn4 : n ≤ 14) (hp : F 0 = nI P) (hp6 : P ≤ 6) : vp_in ((6 : Int32) * x + y) 84 := by
  obtain ⟨j, hj, rfl⟩ := arcM_nat h hn hn4
  exact vp_key3 (by omega) (vp_partyM h2 hp hp6)
theorem vp_room {F : FT} {n : Nat} (hn : F 9 = nI n) (hn4 : n ≤ 14) (h : ¬ F 9 = 14) : vp_in (F 9) 14 := by
  rw [hn] at h ⊢
  have : n ≠ 14 := fun e => h (by rw [e]; rfl)
  exact vp_in_nI (by omega) (by decide)
def RowM (r : Int32) : Prop := mMany r = nI (mMany r).toNatClampNeg ∧ (mMany r).toNatClampNeg ≤ 6
theorem z01 {x : Int32} (h : x = 0 ∨ x = 1) : narrow .boolean (.int x) = .int x := by
  rcases h with rfl | rfl <;> decide
theorem mCoveredL_z (F : FT) (a : AT) (n : Nat) (x : Int32) : ∀ k i u, (u = 0 ∨ u = 1) → (mCoveredL F a n x k i u = 0 ∨ mCoveredL F a n x k i u = 1) := by
  intro k
  induction k with
  | zero => intro i u h; exact h
  | succ k ih =>
    intro i u h
    simp only [mCoveredL]
    repeat' split
    all_goals first | exact ih _ _ (Or.inl rfl) | exact ih _ _ (Or.inr rfl)
theorem mIsPathL_z (F : FT) (a : AT) (n : Nat) (x : Int32) : ∀ k i u, (u = 0 ∨ u = 1) → (mIsPathL F a n x k i u = 0 ∨ mIsPathL F a n x k i u = 1) := by
  intro k
  induction k with
  | zero => intro i u h; exact h
  | succ k ih =>
    intro i u h
    simp only [mIsPathL]
    repeat' split
    all_goals first | exact ih _ _ (Or.inl rfl) | exact ih _ _ (Or.inr rfl)
theorem mIsKnownL_z (F : FT) (a : AT) (mm n : Nat) : ∀ k i u, (u = 0 ∨ u = 1) → (mIsKnownL F a mm n k i u = 0 ∨ mIsKnownL F a mm n k i u = 1) := by
  intro k
  induction k with
  | zero => intro i u h; exact h
  | succ k ih =>
    intro i u h
    simp only [mIsKnownL]
    repeat' split
    all_goals first | exact ih _ _ (Or.inl rfl) | exact ih _ _ (Or.inr rfl)
end
section
theorem dR_party_0 : decode bR_party 0 = .ok (.iload_n 1, 1) := by decide +kernel
theorem dR_party_1 : decode bR_party 1 = .ok (.ifCond .lt 9, 3) := by decide +kernel
theorem dR_party_4 : decode bR_party 4 = .ok (.iload_n 1, 1) := by decide +kernel
theorem dR_party_5 : decode bR_party 5 = .ok (.bipush 6, 2) := by decide +kernel
theorem dR_party_7 : decode bR_party 7 = .ok (.if_icmp .lt 7, 3) := by decide +kernel
theorem dR_party_10 : decode bR_party 10 = .ok (.iconst (-1), 1) := by decide +kernel
theorem dR_party_11 : decode bR_party 11 = .ok (.goto 13, 3) := by decide +kernel
theorem dR_party_14 : decode bR_party 14 = .ok (.iload_n 0, 1) := by decide +kernel
theorem dR_party_15 : decode bR_party 15 = .ok (.iconst 3, 1) := by decide +kernel
theorem dR_party_16 : decode bR_party 16 = .ok (.iload_n 1, 1) := by decide +kernel
theorem dR_party_17 : decode bR_party 17 = .ok (.imul, 1) := by decide +kernel
theorem dR_party_18 : decode bR_party 18 = .ok (.iushr, 1) := by decide +kernel
theorem dR_party_19 : decode bR_party 19 = .ok (.bipush 7, 2) := by decide +kernel
theorem dR_party_21 : decode bR_party 21 = .ok (.iand, 1) := by decide +kernel
theorem dR_party_22 : decode bR_party 22 = .ok (.iconst 1, 1) := by decide +kernel
theorem dR_party_23 : decode bR_party 23 = .ok (.isub, 1) := by decide +kernel
theorem dR_party_24 : decode bR_party 24 = .ok (.ireturn, 1) := by decide +kernel
theorem dR_size_0 : decode bR_size 0 = .ok (.iconst 0, 1) := by decide +kernel
theorem dR_size_1 : decode bR_size 1 = .ok (.istore_n 1, 1) := by decide +kernel
theorem dR_size_2 : decode bR_size 2 = .ok (.iload_n 1, 1) := by decide +kernel
theorem dR_size_3 : decode bR_size 3 = .ok (.bipush 6, 2) := by decide +kernel
theorem dR_size_5 : decode bR_size 5 = .ok (.if_icmp .ge 17, 3) := by decide +kernel
theorem dR_size_8 : decode bR_size 8 = .ok (.iload_n 0, 1) := by decide +kernel
theorem dR_size_9 : decode bR_size 9 = .ok (.iconst 3, 1) := by decide +kernel
theorem dR_size_10 : decode bR_size 10 = .ok (.iload_n 1, 1) := by decide +kernel
theorem dR_size_11 : decode bR_size 11 = .ok (.imul, 1) := by decide +kernel
theorem dR_size_12 : decode bR_size 12 = .ok (.iushr, 1) := by decide +kernel
theorem dR_size_13 : decode bR_size 13 = .ok (.ifCond .eq 9, 3) := by decide +kernel
theorem dR_size_16 : decode bR_size 16 = .ok (.iinc 1 1, 3) := by decide +kernel
theorem dR_size_19 : decode bR_size 19 = .ok (.goto (-17), 3) := by decide +kernel
theorem dR_size_22 : decode bR_size 22 = .ok (.iload_n 1, 1) := by decide +kernel
theorem dR_size_23 : decode bR_size 23 = .ok (.ireturn, 1) := by decide +kernel
theorem dR_first_0 : decode bR_first 0 = .ok (.iload_n 0, 1) := by decide +kernel
theorem dR_first_1 : decode bR_first 1 = .ok (.iconst 0, 1) := by decide +kernel
theorem dR_first_2 : decode bR_first 2 = .ok (.invokestatic 11, 3) := by decide +kernel
theorem dR_first_5 : decode bR_first 5 = .ok (.ireturn, 1) := by decide +kernel
theorem dR_last_0 : decode bR_last 0 = .ok (.iload_n 0, 1) := by decide +kernel
theorem dR_last_1 : decode bR_last 1 = .ok (.iload_n 0, 1) := by decide +kernel
theorem dR_last_2 : decode bR_last 2 = .ok (.invokestatic 15, 3) := by decide +kernel
theorem dR_last_5 : decode bR_last 5 = .ok (.iconst 1, 1) := by decide +kernel
theorem dR_last_6 : decode bR_last 6 = .ok (.isub, 1) := by decide +kernel
theorem dR_last_7 : decode bR_last 7 = .ok (.invokestatic 11, 3) := by decide +kernel
theorem dR_last_10 : decode bR_last 10 = .ok (.ireturn, 1) := by decide +kernel
theorem dR_rest_0 : decode bR_rest 0 = .ok (.iload_n 0, 1) := by decide +kernel
theorem dR_rest_1 : decode bR_rest 1 = .ok (.iconst 3, 1) := by decide +kernel
theorem dR_rest_2 : decode bR_rest 2 = .ok (.iushr, 1) := by decide +kernel
theorem dR_rest_3 : decode bR_rest 3 = .ok (.ireturn, 1) := by decide +kernel
theorem dR_withFirst_0 : decode bR_withFirst 0 = .ok (.iload_n 1, 1) := by decide +kernel
theorem dR_withFirst_1 : decode bR_withFirst 1 = .ok (.iconst 3, 1) := by decide +kernel
theorem dR_withFirst_2 : decode bR_withFirst 2 = .ok (.ishl, 1) := by decide +kernel
theorem dR_withFirst_3 : decode bR_withFirst 3 = .ok (.iload_n 0, 1) := by decide +kernel
theorem dR_withFirst_4 : decode bR_withFirst 4 = .ok (.iconst 1, 1) := by decide +kernel
theorem dR_withFirst_5 : decode bR_withFirst 5 = .ok (.iadd, 1) := by decide +kernel
theorem dR_withFirst_6 : decode bR_withFirst 6 = .ok (.ior, 1) := by decide +kernel
theorem dR_withFirst_7 : decode bR_withFirst 7 = .ok (.ireturn, 1) := by decide +kernel
theorem dR_withLast_0 : decode bR_withLast 0 = .ok (.iload_n 0, 1) := by decide +kernel
theorem dR_withLast_1 : decode bR_withLast 1 = .ok (.iload_n 1, 1) := by decide +kernel
theorem dR_withLast_2 : decode bR_withLast 2 = .ok (.iconst 1, 1) := by decide +kernel
theorem dR_withLast_3 : decode bR_withLast 3 = .ok (.iadd, 1) := by decide +kernel
theorem dR_withLast_4 : decode bR_withLast 4 = .ok (.iconst 3, 1) := by decide +kernel
theorem dR_withLast_5 : decode bR_withLast 5 = .ok (.iload_n 0, 1) := by decide +kernel
theorem dR_withLast_6 : decode bR_withLast 6 = .ok (.invokestatic 15, 3) := by decide +kernel
theorem dR_withLast_9 : decode bR_withLast 9 = .ok (.imul, 1) := by decide +kernel
theorem dR_withLast_10 : decode bR_withLast 10 = .ok (.ishl, 1) := by decide +kernel
theorem dR_withLast_11 : decode bR_withLast 11 = .ok (.ior, 1) := by decide +kernel
theorem dR_withLast_12 : decode bR_withLast 12 = .ok (.ireturn, 1) := by decide +kernel
theorem dR_has_0 : decode bR_has 0 = .ok (.iconst 0, 1) := by decide +kernel
theorem dR_has_1 : decode bR_has 1 = .ok (.istore_n 2, 1) := by decide +kernel
theorem dR_has_2 : decode bR_has 2 = .ok (.iload_n 2, 1) := by decide +kernel
theorem dR_has_3 : decode bR_has 3 = .ok (.bipush 6, 2) := by decide +kernel
theorem dR_has_5 : decode bR_has 5 = .ok (.if_icmp .ge 24, 3) := by decide +kernel
theorem dR_has_8 : decode bR_has 8 = .ok (.iload_n 1, 1) := by decide +kernel
theorem dR_has_9 : decode bR_has 9 = .ok (.ifCond .lt 14, 3) := by decide +kernel
theorem dR_has_12 : decode bR_has 12 = .ok (.iload_n 0, 1) := by decide +kernel
theorem dR_has_13 : decode bR_has 13 = .ok (.iload_n 2, 1) := by decide +kernel
theorem dR_has_14 : decode bR_has 14 = .ok (.invokestatic 11, 3) := by decide +kernel
theorem dR_has_17 : decode bR_has 17 = .ok (.iload_n 1, 1) := by decide +kernel
theorem dR_has_18 : decode bR_has 18 = .ok (.if_icmp .ne 5, 3) := by decide +kernel
theorem dR_has_21 : decode bR_has 21 = .ok (.iconst 1, 1) := by decide +kernel
theorem dR_has_22 : decode bR_has 22 = .ok (.ireturn, 1) := by decide +kernel
theorem dR_has_23 : decode bR_has 23 = .ok (.iinc 2 1, 3) := by decide +kernel
theorem dR_has_26 : decode bR_has 26 = .ok (.goto (-24), 3) := by decide +kernel
theorem dR_has_29 : decode bR_has 29 = .ok (.iconst 0, 1) := by decide +kernel
theorem dR_has_30 : decode bR_has 30 = .ok (.ireturn, 1) := by decide +kernel
set_option maxRecDepth 20000 in
theorem gR_first_R_party : GoodIn wR_first (va_wsS RcR 11 yR_party wR_party) := goodIn_app (goodIn_of _ (by decide +kernel)) (goodIn_r _ [4] (by decide +kernel) (by decide +kernel))
set_option maxRecDepth 20000 in
theorem gR_last_R_size : GoodIn wR_last (va_wsS RcR 15 yR_size wR_size) := goodIn_app (goodIn_of _ (by decide +kernel)) (goodIn_r _ [6] (by decide +kernel) (by decide +kernel))
set_option maxRecDepth 20000 in
theorem gR_last_R_party : GoodIn wR_last (va_wsS RcR 11 yR_party wR_party) := goodIn_app (goodIn_of _ (by decide +kernel)) (goodIn_r _ [7] (by decide +kernel) (by decide +kernel))
set_option maxRecDepth 20000 in
theorem gR_withLast_R_size : GoodIn wR_withLast (va_wsS RcR 15 yR_size wR_size) := goodIn_app (goodIn_of _ (by decide +kernel)) (goodIn_r _ [4] (by decide +kernel) (by decide +kernel))
set_option maxRecDepth 20000 in
theorem gR_has_R_party : GoodIn wR_has (va_wsS RcR 11 yR_party wR_party) := goodIn_app (goodIn_of _ (by decide +kernel)) (goodIn_r _ [4] (by decide +kernel) (by decide +kernel))
end
section
set_option maxHeartbeats 4000000 in
set_option maxRecDepth 100000 in
theorem c_rParty (l : Launch) (D : va_G) (cI cZ cJ : ClassId) (row : Int32) (k : Int32) : Kr l yR_party wR_party ({ frames := 0, cells := 0, slots := 0, locals := 0 } : Room) D vwCl (tyG cI cZ cJ) [.int row, .int k] ([]) (rParty row k) := by
  intro sz
  refine v_ent (cc := bR_party) (maxL := 2) (ret := (some .int)) (Qc := (fun _ _ st oc t => oc = .returned (some (.int (rParty row k))) ∧ t.heap = st.heap)) (fr := (fun _ _ => False)) (own := RcR) rfl (by decide) rfl (Nat.le_of_ble_eq_true rfl) rfl ?_
  intro p e s m args below meth c A C hr _
  refine v_iload_n C 1 dR_party_0 rfl rfl ?_
  refine v_if_lt C dR_party_1 (tgt := 10) (by decide) (fun h1 => ?_) (fun h1 => ?_)
  · skip
    refine v_iconst C (v := (-1)) dR_party_10 (by decide) ?_
    refine v_goto C dR_party_11 (tgt := 24) (by decide) ?_
    exact v_irr C hr (by unfold rParty; rw [if_pos h1]) dR_party_24
  · skip
    refine v_iload_n C 1 dR_party_4 rfl rfl ?_
    refine v_bipush C (v := 6) dR_party_5 (by decide) ?_
    refine v_icmp_lt C dR_party_7 (tgt := 14) (by decide) (fun h2 => ?_) (fun h2 => ?_)
    · skip
      refine v_iload_n C 0 dR_party_14 rfl rfl ?_
      refine v_iconst C (v := 3) dR_party_15 (by decide) ?_
      refine v_iload_n C 1 dR_party_16 rfl rfl ?_
      refine v_imul C dR_party_17 ?_
      refine v_iushr C dR_party_18 ?_
      refine v_bipush C (v := 7) dR_party_19 (by decide) ?_
      refine v_iand C dR_party_21 ?_
      refine v_iconst C (v := 1) dR_party_22 (by decide) ?_
      refine v_isub C dR_party_23 ?_
      exact v_irr C hr (by unfold rParty; rw [if_neg h1, if_pos h2]) dR_party_24
    · skip
      refine v_iconst C (v := (-1)) dR_party_10 (by decide) ?_
      refine v_goto C dR_party_11 (tgt := 24) (by decide) ?_
      exact v_irr C hr (by unfold rParty; rw [if_neg h1, if_neg h2]) dR_party_24
set_option maxHeartbeats 4000000 in
set_option maxRecDepth 100000 in
theorem c_rSize (l : Launch) (D : va_G) (cI cZ cJ : ClassId) (row : Int32) : Kr l yR_size wR_size ({ frames := 0, cells := 0, slots := 0, locals := 0 } : Room) D vwCl (tyG cI cZ cJ) [.int row] ([]) (rSize row) := by
  intro sz
  refine v_ent (cc := bR_size) (maxL := 2) (ret := (some .int)) (Qc := (fun _ _ st oc t => oc = .returned (some (.int (rSize row))) ∧ t.heap = st.heap)) (fr := (fun _ _ => False)) (own := RcR) rfl (by decide) rfl (Nat.le_of_ble_eq_true rfl) rfl ?_
  intro p e s m args below meth c A C hr _
  refine v_iconst C (v := 0) dR_size_0 (by decide) ?_
  refine v_istore_n C (lv' := [(0, .int row), (1, .int 0)]) [1, 0] dR_size_1 rfl (by decide) rfl ?_
  refine v_loop0 6 (fun (i : Nat) => []) (fun (i : Nat) => [(0, .int row), (1, .int (nI i))]) (fun (ki i : Nat) => rSizeL row ki i = rSize row) ?_ ?_ 6 0  (by omega) (by unfold rSize; rfl)
  · skip
    intro ki i hki hIi ihi
    have hIi : rSizeL row (ki + 1) i = rSize row := hIi
    refine v_as (w' := []) (lv' := [(0, .int row), (1, .int (nI i))]) rfl rfl ?_
    refine v_iload_n C 1 dR_size_2 rfl rfl ?_
    refine v_bipush C (v := 6) dR_size_3 (by decide) ?_
    refine v_icmp_ge C dR_size_5 (tgt := 22) (by decide) (fun h => absurd h (nI_ge (a := i) (b := 6) (by omega) (by omega))) (fun _ => ?_)
    refine v_iload_n C 0 dR_size_8 rfl rfl ?_
    refine v_iconst C (v := 3) dR_size_9 (by decide) ?_
    refine v_iload_n C 1 dR_size_10 rfl rfl ?_
    refine v_imul C dR_size_11 ?_
    refine v_iushr C dR_size_12 ?_
    refine v_if_eq C dR_size_13 (tgt := 22) (by decide) (fun h1 => ?_) (fun h1 => ?_)
    · skip
      refine v_iload_n C 1 dR_size_22 rfl rfl ?_
      exact v_irr C hr (by rw [← hIi]; simp only [rSizeL]; rw [if_pos h1]) dR_size_23
    · skip
      refine v_iinc C (v := nI (i + 1)) (lv' := [(0, .int row), (1, .int (nI (i + 1)))]) 1 [1, 0] dR_size_16 rfl (nI_1 i) (by decide) rfl ?_
      refine v_goto C dR_size_19 (tgt := 2) (by decide) ?_
      have hL : rSizeL row ki (i + 1) = rSize row := (by rw [← hIi]; simp only [rSizeL]; rw [if_neg h1])
      exact ihi  hL
  · skip
    intro hIi
    have hIi : rSizeL row 0 6 = rSize row := hIi
    refine v_as (w' := []) (lv' := [(0, .int row), (1, .int (nI 6))]) rfl rfl ?_
    refine v_iload_n C 1 dR_size_2 rfl rfl ?_
    refine v_bipush C (v := 6) dR_size_3 (by decide) ?_
    refine v_icmp_ge C dR_size_5 (tgt := 22) (by decide) (fun _ => ?_) (fun h => absurd (nI_le (a := 6) (b := 6) (by omega) (by omega)) h)
    refine v_iload_n C 1 dR_size_22 rfl rfl ?_
    exact v_irr C hr (by rw [← hIi]; simp only [rSizeL]) dR_size_23
set_option maxHeartbeats 4000000 in
set_option maxRecDepth 100000 in
theorem c_rFirst (l : Launch) (D : va_G) (cI cZ cJ : ClassId) (row : Int32) : Kr l yR_first wR_first ({ frames := 1, cells := 0, slots := 0, locals := 21 } : Room) D vwCl (tyG cI cZ cJ) [.int row] ([]) (rFirst row) := by
  intro sz
  refine v_ent (cc := bR_first) (maxL := 1) (ret := (some .int)) (Qc := (fun _ _ st oc t => oc = .returned (some (.int (rFirst row))) ∧ t.heap = st.heap)) (fr := (fun _ _ => False)) (own := RcR) rfl (by decide) rfl (Nat.le_of_ble_eq_true rfl) rfl ?_
  intro p e s m args below meth c A C hr _
  refine v_iload_n C 0 dR_first_0 rfl rfl ?_
  refine v_iconst C (v := 0) dR_first_1 (by decide) ?_
  refine v_cSr0 (As := [.int row, .int 0]) C (c_rParty l D cI cZ cJ row 0) (va_cwS 2 C.2.2.2.2.1 gR_first_R_party rfl rfl rfl (by decide +kernel) ⟨Nat.le_of_ble_eq_true rfl, Nat.le_of_ble_eq_true rfl⟩) rfl rfl (Nat.le_of_ble_eq_true rfl) ⟨Nat.zero_le _, Nat.zero_le _⟩ dR_first_2 ?_
  exact v_irr C hr (by unfold rFirst; rfl) dR_first_5
set_option maxHeartbeats 4000000 in
set_option maxRecDepth 100000 in
theorem c_rLast (l : Launch) (D : va_G) (cI cZ cJ : ClassId) (row : Int32) : Kr l yR_last wR_last ({ frames := 1, cells := 0, slots := 0, locals := 21 } : Room) D vwCl (tyG cI cZ cJ) [.int row] ([]) (rLast row) := by
  intro sz
  refine v_ent (cc := bR_last) (maxL := 1) (ret := (some .int)) (Qc := (fun _ _ st oc t => oc = .returned (some (.int (rLast row))) ∧ t.heap = st.heap)) (fr := (fun _ _ => False)) (own := RcR) rfl (by decide) rfl (Nat.le_of_ble_eq_true rfl) rfl ?_
  intro p e s m args below meth c A C hr _
  refine v_iload_n C 0 dR_last_0 rfl rfl ?_
  refine v_iload_n C 0 dR_last_1 rfl rfl ?_
  refine v_cSr0 (As := [.int row]) C (c_rSize l D cI cZ cJ row) (va_cwS 1 C.2.2.2.2.1 gR_last_R_size rfl rfl rfl (by decide +kernel) ⟨Nat.le_of_ble_eq_true rfl, Nat.le_of_ble_eq_true rfl⟩) rfl rfl (Nat.le_of_ble_eq_true rfl) ⟨Nat.zero_le _, Nat.zero_le _⟩ dR_last_2 ?_
  refine v_iconst C (v := 1) dR_last_5 (by decide) ?_
  refine v_isub C dR_last_6 ?_
  refine v_cSr0 (As := [.int row, .int ((rSize row) - (1 : Int32))]) C (c_rParty l D cI cZ cJ row ((rSize row) - (1 : Int32))) (va_cwS 2 C.2.2.2.2.1 gR_last_R_party rfl rfl rfl (by decide +kernel) ⟨Nat.le_of_ble_eq_true rfl, Nat.le_of_ble_eq_true rfl⟩) rfl rfl (Nat.le_of_ble_eq_true rfl) ⟨Nat.zero_le _, Nat.zero_le _⟩ dR_last_7 ?_
  exact v_irr C hr (by unfold rLast; rfl) dR_last_10
set_option maxHeartbeats 4000000 in
set_option maxRecDepth 100000 in
theorem c_rRest (l : Launch) (D : va_G) (cI cZ cJ : ClassId) (row : Int32) : Kr l yR_rest wR_rest ({ frames := 0, cells := 0, slots := 0, locals := 0 } : Room) D vwCl (tyG cI cZ cJ) [.int row] ([]) (rRest row) := by
  intro sz
  refine v_ent (cc := bR_rest) (maxL := 1) (ret := (some .int)) (Qc := (fun _ _ st oc t => oc = .returned (some (.int (rRest row))) ∧ t.heap = st.heap)) (fr := (fun _ _ => False)) (own := RcR) rfl (by decide) rfl (Nat.le_of_ble_eq_true rfl) rfl ?_
  intro p e s m args below meth c A C hr _
  refine v_iload_n C 0 dR_rest_0 rfl rfl ?_
  refine v_iconst C (v := 3) dR_rest_1 (by decide) ?_
  refine v_iushr C dR_rest_2 ?_
  exact v_irr C hr (by unfold rRest; rfl) dR_rest_3
set_option maxHeartbeats 4000000 in
set_option maxRecDepth 100000 in
theorem c_rWithFirst (l : Launch) (D : va_G) (cI cZ cJ : ClassId) (x : Int32) (row : Int32) : Kr l yR_withFirst wR_withFirst ({ frames := 0, cells := 0, slots := 0, locals := 0 } : Room) D vwCl (tyG cI cZ cJ) [.int x, .int row] ([]) (rWithFirst x row) := by
  intro sz
  refine v_ent (cc := bR_withFirst) (maxL := 2) (ret := (some .int)) (Qc := (fun _ _ st oc t => oc = .returned (some (.int (rWithFirst x row))) ∧ t.heap = st.heap)) (fr := (fun _ _ => False)) (own := RcR) rfl (by decide) rfl (Nat.le_of_ble_eq_true rfl) rfl ?_
  intro p e s m args below meth c A C hr _
  refine v_iload_n C 1 dR_withFirst_0 rfl rfl ?_
  refine v_iconst C (v := 3) dR_withFirst_1 (by decide) ?_
  refine v_ishl C dR_withFirst_2 ?_
  refine v_iload_n C 0 dR_withFirst_3 rfl rfl ?_
  refine v_iconst C (v := 1) dR_withFirst_4 (by decide) ?_
  refine v_iadd C dR_withFirst_5 ?_
  refine v_ior C dR_withFirst_6 ?_
  exact v_irr C hr (by unfold rWithFirst; rfl) dR_withFirst_7
set_option maxHeartbeats 4000000 in
set_option maxRecDepth 100000 in
theorem c_rWithLast (l : Launch) (D : va_G) (cI cZ cJ : ClassId) (row : Int32) (x : Int32) : Kr l yR_withLast wR_withLast ({ frames := 1, cells := 0, slots := 0, locals := 21 } : Room) D vwCl (tyG cI cZ cJ) [.int row, .int x] ([]) (rWithLast row x) := by
  intro sz
  refine v_ent (cc := bR_withLast) (maxL := 2) (ret := (some .int)) (Qc := (fun _ _ st oc t => oc = .returned (some (.int (rWithLast row x))) ∧ t.heap = st.heap)) (fr := (fun _ _ => False)) (own := RcR) rfl (by decide) rfl (Nat.le_of_ble_eq_true rfl) rfl ?_
  intro p e s m args below meth c A C hr _
  refine v_iload_n C 0 dR_withLast_0 rfl rfl ?_
  refine v_iload_n C 1 dR_withLast_1 rfl rfl ?_
  refine v_iconst C (v := 1) dR_withLast_2 (by decide) ?_
  refine v_iadd C dR_withLast_3 ?_
  refine v_iconst C (v := 3) dR_withLast_4 (by decide) ?_
  refine v_iload_n C 0 dR_withLast_5 rfl rfl ?_
  refine v_cSr0 (As := [.int row]) C (c_rSize l D cI cZ cJ row) (va_cwS 1 C.2.2.2.2.1 gR_withLast_R_size rfl rfl rfl (by decide +kernel) ⟨Nat.le_of_ble_eq_true rfl, Nat.le_of_ble_eq_true rfl⟩) rfl rfl (Nat.le_of_ble_eq_true rfl) ⟨Nat.zero_le _, Nat.zero_le _⟩ dR_withLast_6 ?_
  refine v_imul C dR_withLast_9 ?_
  refine v_ishl C dR_withLast_10 ?_
  refine v_ior C dR_withLast_11 ?_
  exact v_irr C hr (by unfold rWithLast; rfl) dR_withLast_12
set_option maxHeartbeats 4000000 in
set_option maxRecDepth 100000 in
theorem c_rHas (l : Launch) (D : va_G) (cI cZ cJ : ClassId) (row : Int32) (x : Int32) : Kr l yR_has wR_has ({ frames := 1, cells := 0, slots := 0, locals := 21 } : Room) D vwCl (tyG cI cZ cJ) [.int row, .int x] ([]) (rHas row x) := by
  intro sz
  refine v_ent (cc := bR_has) (maxL := 3) (ret := (some .boolean)) (Qc := (fun _ _ st oc t => oc = .returned (some (.int (rHas row x))) ∧ t.heap = st.heap)) (fr := (fun _ _ => False)) (own := RcR) rfl (by decide) rfl (Nat.le_of_ble_eq_true rfl) rfl ?_
  intro p e s m args below meth c A C hr _
  refine v_iconst C (v := 0) dR_has_0 (by decide) ?_
  refine v_istore_n C (lv' := [(0, .int row), (1, .int x), (2, .int 0)]) [1, 2, 0] dR_has_1 rfl (by decide) rfl ?_
  refine v_loop0 6 (fun (i : Nat) => []) (fun (i : Nat) => [(0, .int row), (1, .int x), (2, .int (nI i))]) (fun (ki i : Nat) => rHasL row x ki i = rHas row x) ?_ ?_ 6 0  (by omega) (by unfold rHas; rfl)
  · skip
    intro ki i hki hIi ihi
    have hIi : rHasL row x (ki + 1) i = rHas row x := hIi
    refine v_as (w' := []) (lv' := [(0, .int row), (1, .int x), (2, .int (nI i))]) rfl rfl ?_
    refine v_iload_n C 2 dR_has_2 rfl rfl ?_
    refine v_bipush C (v := 6) dR_has_3 (by decide) ?_
    refine v_icmp_ge C dR_has_5 (tgt := 29) (by decide) (fun h => absurd h (nI_ge (a := i) (b := 6) (by omega) (by omega))) (fun _ => ?_)
    refine v_iload_n C 1 dR_has_8 rfl rfl ?_
    refine v_if_lt C dR_has_9 (tgt := 23) (by decide) (fun h1 => ?_) (fun h1 => ?_)
    · skip
      refine v_iinc C (v := nI (i + 1)) (lv' := [(0, .int row), (1, .int x), (2, .int (nI (i + 1)))]) 2 [1, 2, 0] dR_has_23 rfl (nI_1 i) (by decide) rfl ?_
      refine v_goto C dR_has_26 (tgt := 2) (by decide) ?_
      have hL : rHasL row x ki (i + 1) = rHas row x := (by rw [← hIi]; simp only [rHasL]; rw [if_pos h1])
      exact ihi  hL
    · skip
      refine v_iload_n C 0 dR_has_12 rfl rfl ?_
      refine v_iload_n C 2 dR_has_13 rfl rfl ?_
      refine v_cSr0 (As := [.int row, .int (nI i)]) C (c_rParty l D cI cZ cJ row (nI i)) (va_cwS 2 C.2.2.2.2.1 gR_has_R_party rfl rfl rfl (by decide +kernel) ⟨Nat.le_of_ble_eq_true rfl, Nat.le_of_ble_eq_true rfl⟩) rfl rfl (Nat.le_of_ble_eq_true rfl) ⟨Nat.zero_le _, Nat.zero_le _⟩ dR_has_14 ?_
      refine v_iload_n C 1 dR_has_17 rfl rfl ?_
      refine v_icmp_ne C dR_has_18 (tgt := 23) (by decide) (fun h2 => ?_) (fun h2 => ?_)
      · skip
        refine v_iinc C (v := nI (i + 1)) (lv' := [(0, .int row), (1, .int x), (2, .int (nI (i + 1)))]) 2 [1, 2, 0] dR_has_23 rfl (nI_1 i) (by decide) rfl ?_
        refine v_goto C dR_has_26 (tgt := 2) (by decide) ?_
        have hL : rHasL row x ki (i + 1) = rHas row x := (by rw [← hIi]; simp only [rHasL]; rw [if_neg h1, if_neg h2])
        exact ihi  hL
      · skip
        refine v_iconst C (v := 1) dR_has_21 (by decide) ?_
        exact v_zrr C hr (by decide) (by rw [← hIi]; simp only [rHasL]; rw [if_neg h1, if_pos h2]) dR_has_22
  · skip
    intro hIi
    have hIi : rHasL row x 0 6 = rHas row x := hIi
    refine v_as (w' := []) (lv' := [(0, .int row), (1, .int x), (2, .int (nI 6))]) rfl rfl ?_
    refine v_iload_n C 2 dR_has_2 rfl rfl ?_
    refine v_bipush C (v := 6) dR_has_3 (by decide) ?_
    refine v_icmp_ge C dR_has_5 (tgt := 29) (by decide) (fun _ => ?_) (fun h => absurd (nI_le (a := 6) (b := 6) (by omega) (by omega)) h)
    refine v_iconst C (v := 0) dR_has_29 (by decide) ?_
    exact v_zrr C hr (by decide) (by rw [← hIi]; simp only [rHasL]) dR_has_30
end
section
theorem dJ_bitCount_0 : decode bJ_bitCount 0 = .ok (.iload_n 0, 1) := by decide +kernel
theorem dJ_bitCount_1 : decode bJ_bitCount 1 = .ok (.iload_n 0, 1) := by decide +kernel
theorem dJ_bitCount_2 : decode bJ_bitCount 2 = .ok (.iconst 1, 1) := by decide +kernel
theorem dJ_bitCount_3 : decode bJ_bitCount 3 = .ok (.iushr, 1) := by decide +kernel
theorem dJ_bitCount_4 : decode bJ_bitCount 4 = .ok (.ldc_w 265, 3) := by decide +kernel
theorem dJ_bitCount_7 : decode bJ_bitCount 7 = .ok (.iand, 1) := by decide +kernel
theorem dJ_bitCount_8 : decode bJ_bitCount 8 = .ok (.isub, 1) := by decide +kernel
theorem dJ_bitCount_9 : decode bJ_bitCount 9 = .ok (.istore_n 0, 1) := by decide +kernel
theorem dJ_bitCount_10 : decode bJ_bitCount 10 = .ok (.iload_n 0, 1) := by decide +kernel
theorem dJ_bitCount_11 : decode bJ_bitCount 11 = .ok (.ldc_w 266, 3) := by decide +kernel
theorem dJ_bitCount_14 : decode bJ_bitCount 14 = .ok (.iand, 1) := by decide +kernel
theorem dJ_bitCount_15 : decode bJ_bitCount 15 = .ok (.iload_n 0, 1) := by decide +kernel
theorem dJ_bitCount_16 : decode bJ_bitCount 16 = .ok (.iconst 2, 1) := by decide +kernel
theorem dJ_bitCount_17 : decode bJ_bitCount 17 = .ok (.iushr, 1) := by decide +kernel
theorem dJ_bitCount_18 : decode bJ_bitCount 18 = .ok (.ldc_w 266, 3) := by decide +kernel
theorem dJ_bitCount_21 : decode bJ_bitCount 21 = .ok (.iand, 1) := by decide +kernel
theorem dJ_bitCount_22 : decode bJ_bitCount 22 = .ok (.iadd, 1) := by decide +kernel
theorem dJ_bitCount_23 : decode bJ_bitCount 23 = .ok (.istore_n 0, 1) := by decide +kernel
theorem dJ_bitCount_24 : decode bJ_bitCount 24 = .ok (.iload_n 0, 1) := by decide +kernel
theorem dJ_bitCount_25 : decode bJ_bitCount 25 = .ok (.iload_n 0, 1) := by decide +kernel
theorem dJ_bitCount_26 : decode bJ_bitCount 26 = .ok (.iconst 4, 1) := by decide +kernel
theorem dJ_bitCount_27 : decode bJ_bitCount 27 = .ok (.iushr, 1) := by decide +kernel
theorem dJ_bitCount_28 : decode bJ_bitCount 28 = .ok (.iadd, 1) := by decide +kernel
theorem dJ_bitCount_29 : decode bJ_bitCount 29 = .ok (.ldc_w 267, 3) := by decide +kernel
theorem dJ_bitCount_32 : decode bJ_bitCount 32 = .ok (.iand, 1) := by decide +kernel
theorem dJ_bitCount_33 : decode bJ_bitCount 33 = .ok (.istore_n 0, 1) := by decide +kernel
theorem dJ_bitCount_34 : decode bJ_bitCount 34 = .ok (.iload_n 0, 1) := by decide +kernel
theorem dJ_bitCount_35 : decode bJ_bitCount 35 = .ok (.iload_n 0, 1) := by decide +kernel
theorem dJ_bitCount_36 : decode bJ_bitCount 36 = .ok (.bipush 8, 2) := by decide +kernel
theorem dJ_bitCount_38 : decode bJ_bitCount 38 = .ok (.iushr, 1) := by decide +kernel
theorem dJ_bitCount_39 : decode bJ_bitCount 39 = .ok (.iadd, 1) := by decide +kernel
theorem dJ_bitCount_40 : decode bJ_bitCount 40 = .ok (.istore_n 0, 1) := by decide +kernel
theorem dJ_bitCount_41 : decode bJ_bitCount 41 = .ok (.iload_n 0, 1) := by decide +kernel
theorem dJ_bitCount_42 : decode bJ_bitCount 42 = .ok (.iload_n 0, 1) := by decide +kernel
theorem dJ_bitCount_43 : decode bJ_bitCount 43 = .ok (.bipush 16, 2) := by decide +kernel
theorem dJ_bitCount_45 : decode bJ_bitCount 45 = .ok (.iushr, 1) := by decide +kernel
theorem dJ_bitCount_46 : decode bJ_bitCount 46 = .ok (.iadd, 1) := by decide +kernel
theorem dJ_bitCount_47 : decode bJ_bitCount 47 = .ok (.istore_n 0, 1) := by decide +kernel
theorem dJ_bitCount_48 : decode bJ_bitCount 48 = .ok (.iload_n 0, 1) := by decide +kernel
theorem dJ_bitCount_49 : decode bJ_bitCount 49 = .ok (.bipush 63, 2) := by decide +kernel
theorem dJ_bitCount_51 : decode bJ_bitCount 51 = .ok (.iand, 1) := by decide +kernel
theorem dJ_bitCount_52 : decode bJ_bitCount 52 = .ok (.ireturn, 1) := by decide +kernel
end
section
set_option maxHeartbeats 4000000 in
set_option maxRecDepth 100000 in
theorem c_bitCountF (l : Launch) (D : va_G) (cI cZ cJ : ClassId) (x : Int32) : Kr l yJ_bitCount wJ_bitCount ({ frames := 0, cells := 0, slots := 0, locals := 0 } : Room) D vwCl (tyG cI cZ cJ) [.int x] ([]) (bitCountF x) := by
  intro sz
  refine v_ent (cc := bJ_bitCount) (maxL := 1) (ret := (some .int)) (Qc := (fun _ _ st oc t => oc = .returned (some (.int (bitCountF x))) ∧ t.heap = st.heap)) (fr := (fun _ _ => False)) (own := RcJ) rfl (by decide) rfl (Nat.le_of_ble_eq_true rfl) rfl ?_
  intro p e s m args below meth c A C hr _
  refine v_iload_n C 0 dJ_bitCount_0 rfl rfl ?_
  refine v_iload_n C 0 dJ_bitCount_1 rfl rfl ?_
  refine v_iconst C (v := 1) dJ_bitCount_2 (by decide) ?_
  refine v_iushr C dJ_bitCount_3 ?_
  refine v_ldcw C (v := 1431655765) (by decide +kernel) dJ_bitCount_4 ?_
  refine v_iand C dJ_bitCount_7 ?_
  refine v_isub C dJ_bitCount_8 ?_
  refine v_istore_n C (lv' := [(0, .int (x - (((x.toUInt32 >>> ((1 : Int32).toUInt32 &&& Int32.toUInt32 31)).toInt32) &&& (1431655765 : Int32))))]) [0] dJ_bitCount_9 rfl (by decide) rfl ?_
  refine v_iload_n C 0 dJ_bitCount_10 rfl rfl ?_
  refine v_ldcw C (v := 858993459) (by decide +kernel) dJ_bitCount_11 ?_
  refine v_iand C dJ_bitCount_14 ?_
  refine v_iload_n C 0 dJ_bitCount_15 rfl rfl ?_
  refine v_iconst C (v := 2) dJ_bitCount_16 (by decide) ?_
  refine v_iushr C dJ_bitCount_17 ?_
  refine v_ldcw C (v := 858993459) (by decide +kernel) dJ_bitCount_18 ?_
  refine v_iand C dJ_bitCount_21 ?_
  refine v_iadd C dJ_bitCount_22 ?_
  refine v_istore_n C (lv' := [(0, .int (((x - (((x.toUInt32 >>> ((1 : Int32).toUInt32 &&& Int32.toUInt32 31)).toInt32) &&& (1431655765 : Int32))) &&& (858993459 : Int32)) + ((((x - (((x.toUInt32 >>> ((1 : Int32).toUInt32 &&& Int32.toUInt32 31)).toInt32) &&& (1431655765 : Int32))).toUInt32 >>> ((2 : Int32).toUInt32 &&& Int32.toUInt32 31)).toInt32) &&& (858993459 : Int32))))]) [0] dJ_bitCount_23 rfl (by decide) rfl ?_
  refine v_iload_n C 0 dJ_bitCount_24 rfl rfl ?_
  refine v_iload_n C 0 dJ_bitCount_25 rfl rfl ?_
  refine v_iconst C (v := 4) dJ_bitCount_26 (by decide) ?_
  refine v_iushr C dJ_bitCount_27 ?_
  refine v_iadd C dJ_bitCount_28 ?_
  refine v_ldcw C (v := 252645135) (by decide +kernel) dJ_bitCount_29 ?_
  refine v_iand C dJ_bitCount_32 ?_
  refine v_istore_n C (lv' := [(0, .int (((((x - (((x.toUInt32 >>> ((1 : Int32).toUInt32 &&& Int32.toUInt32 31)).toInt32) &&& (1431655765 : Int32))) &&& (858993459 : Int32)) + ((((x - (((x.toUInt32 >>> ((1 : Int32).toUInt32 &&& Int32.toUInt32 31)).toInt32) &&& (1431655765 : Int32))).toUInt32 >>> ((2 : Int32).toUInt32 &&& Int32.toUInt32 31)).toInt32) &&& (858993459 : Int32))) + (((((x - (((x.toUInt32 >>> ((1 : Int32).toUInt32 &&& Int32.toUInt32 31)).toInt32) &&& (1431655765 : Int32))) &&& (858993459 : Int32)) + ((((x - (((x.toUInt32 >>> ((1 : Int32).toUInt32 &&& Int32.toUInt32 31)).toInt32) &&& (1431655765 : Int32))).toUInt32 >>> ((2 : Int32).toUInt32 &&& Int32.toUInt32 31)).toInt32) &&& (858993459 : Int32))).toUInt32 >>> ((4 : Int32).toUInt32 &&& Int32.toUInt32 31)).toInt32)) &&& (252645135 : Int32)))]) [0] dJ_bitCount_33 rfl (by decide) rfl ?_
  refine v_iload_n C 0 dJ_bitCount_34 rfl rfl ?_
  refine v_iload_n C 0 dJ_bitCount_35 rfl rfl ?_
  refine v_bipush C (v := 8) dJ_bitCount_36 (by decide) ?_
  refine v_iushr C dJ_bitCount_38 ?_
  refine v_iadd C dJ_bitCount_39 ?_
  refine v_istore_n C (lv' := [(0, .int ((((((x - (((x.toUInt32 >>> ((1 : Int32).toUInt32 &&& Int32.toUInt32 31)).toInt32) &&& (1431655765 : Int32))) &&& (858993459 : Int32)) + ((((x - (((x.toUInt32 >>> ((1 : Int32).toUInt32 &&& Int32.toUInt32 31)).toInt32) &&& (1431655765 : Int32))).toUInt32 >>> ((2 : Int32).toUInt32 &&& Int32.toUInt32 31)).toInt32) &&& (858993459 : Int32))) + (((((x - (((x.toUInt32 >>> ((1 : Int32).toUInt32 &&& Int32.toUInt32 31)).toInt32) &&& (1431655765 : Int32))) &&& (858993459 : Int32)) + ((((x - (((x.toUInt32 >>> ((1 : Int32).toUInt32 &&& Int32.toUInt32 31)).toInt32) &&& (1431655765 : Int32))).toUInt32 >>> ((2 : Int32).toUInt32 &&& Int32.toUInt32 31)).toInt32) &&& (858993459 : Int32))).toUInt32 >>> ((4 : Int32).toUInt32 &&& Int32.toUInt32 31)).toInt32)) &&& (252645135 : Int32)) + (((((((x - (((x.toUInt32 >>> ((1 : Int32).toUInt32 &&& Int32.toUInt32 31)).toInt32) &&& (1431655765 : Int32))) &&& (858993459 : Int32)) + ((((x - (((x.toUInt32 >>> ((1 : Int32).toUInt32 &&& Int32.toUInt32 31)).toInt32) &&& (1431655765 : Int32))).toUInt32 >>> ((2 : Int32).toUInt32 &&& Int32.toUInt32 31)).toInt32) &&& (858993459 : Int32))) + (((((x - (((x.toUInt32 >>> ((1 : Int32).toUInt32 &&& Int32.toUInt32 31)).toInt32) &&& (1431655765 : Int32))) &&& (858993459 : Int32)) + ((((x - (((x.toUInt32 >>> ((1 : Int32).toUInt32 &&& Int32.toUInt32 31)).toInt32) &&& (1431655765 : Int32))).toUInt32 >>> ((2 : Int32).toUInt32 &&& Int32.toUInt32 31)).toInt32) &&& (858993459 : Int32))).toUInt32 >>> ((4 : Int32).toUInt32 &&& Int32.toUInt32 31)).toInt32)) &&& (252645135 : Int32)).toUInt32 >>> ((8 : Int32).toUInt32 &&& Int32.toUInt32 31)).toInt32)))]) [0] dJ_bitCount_40 rfl (by decide) rfl ?_
  refine v_iload_n C 0 dJ_bitCount_41 rfl rfl ?_
  refine v_iload_n C 0 dJ_bitCount_42 rfl rfl ?_
  refine v_bipush C (v := 16) dJ_bitCount_43 (by decide) ?_
  refine v_iushr C dJ_bitCount_45 ?_
  refine v_iadd C dJ_bitCount_46 ?_
  refine v_istore_n C (lv' := [(0, .int (((((((x - (((x.toUInt32 >>> ((1 : Int32).toUInt32 &&& Int32.toUInt32 31)).toInt32) &&& (1431655765 : Int32))) &&& (858993459 : Int32)) + ((((x - (((x.toUInt32 >>> ((1 : Int32).toUInt32 &&& Int32.toUInt32 31)).toInt32) &&& (1431655765 : Int32))).toUInt32 >>> ((2 : Int32).toUInt32 &&& Int32.toUInt32 31)).toInt32) &&& (858993459 : Int32))) + (((((x - (((x.toUInt32 >>> ((1 : Int32).toUInt32 &&& Int32.toUInt32 31)).toInt32) &&& (1431655765 : Int32))) &&& (858993459 : Int32)) + ((((x - (((x.toUInt32 >>> ((1 : Int32).toUInt32 &&& Int32.toUInt32 31)).toInt32) &&& (1431655765 : Int32))).toUInt32 >>> ((2 : Int32).toUInt32 &&& Int32.toUInt32 31)).toInt32) &&& (858993459 : Int32))).toUInt32 >>> ((4 : Int32).toUInt32 &&& Int32.toUInt32 31)).toInt32)) &&& (252645135 : Int32)) + (((((((x - (((x.toUInt32 >>> ((1 : Int32).toUInt32 &&& Int32.toUInt32 31)).toInt32) &&& (1431655765 : Int32))) &&& (858993459 : Int32)) + ((((x - (((x.toUInt32 >>> ((1 : Int32).toUInt32 &&& Int32.toUInt32 31)).toInt32) &&& (1431655765 : Int32))).toUInt32 >>> ((2 : Int32).toUInt32 &&& Int32.toUInt32 31)).toInt32) &&& (858993459 : Int32))) + (((((x - (((x.toUInt32 >>> ((1 : Int32).toUInt32 &&& Int32.toUInt32 31)).toInt32) &&& (1431655765 : Int32))) &&& (858993459 : Int32)) + ((((x - (((x.toUInt32 >>> ((1 : Int32).toUInt32 &&& Int32.toUInt32 31)).toInt32) &&& (1431655765 : Int32))).toUInt32 >>> ((2 : Int32).toUInt32 &&& Int32.toUInt32 31)).toInt32) &&& (858993459 : Int32))).toUInt32 >>> ((4 : Int32).toUInt32 &&& Int32.toUInt32 31)).toInt32)) &&& (252645135 : Int32)).toUInt32 >>> ((8 : Int32).toUInt32 &&& Int32.toUInt32 31)).toInt32)) + ((((((((x - (((x.toUInt32 >>> ((1 : Int32).toUInt32 &&& Int32.toUInt32 31)).toInt32) &&& (1431655765 : Int32))) &&& (858993459 : Int32)) + ((((x - (((x.toUInt32 >>> ((1 : Int32).toUInt32 &&& Int32.toUInt32 31)).toInt32) &&& (1431655765 : Int32))).toUInt32 >>> ((2 : Int32).toUInt32 &&& Int32.toUInt32 31)).toInt32) &&& (858993459 : Int32))) + (((((x - (((x.toUInt32 >>> ((1 : Int32).toUInt32 &&& Int32.toUInt32 31)).toInt32) &&& (1431655765 : Int32))) &&& (858993459 : Int32)) + ((((x - (((x.toUInt32 >>> ((1 : Int32).toUInt32 &&& Int32.toUInt32 31)).toInt32) &&& (1431655765 : Int32))).toUInt32 >>> ((2 : Int32).toUInt32 &&& Int32.toUInt32 31)).toInt32) &&& (858993459 : Int32))).toUInt32 >>> ((4 : Int32).toUInt32 &&& Int32.toUInt32 31)).toInt32)) &&& (252645135 : Int32)) + (((((((x - (((x.toUInt32 >>> ((1 : Int32).toUInt32 &&& Int32.toUInt32 31)).toInt32) &&& (1431655765 : Int32))) &&& (858993459 : Int32)) + ((((x - (((x.toUInt32 >>> ((1 : Int32).toUInt32 &&& Int32.toUInt32 31)).toInt32) &&& (1431655765 : Int32))).toUInt32 >>> ((2 : Int32).toUInt32 &&& Int32.toUInt32 31)).toInt32) &&& (858993459 : Int32))) + (((((x - (((x.toUInt32 >>> ((1 : Int32).toUInt32 &&& Int32.toUInt32 31)).toInt32) &&& (1431655765 : Int32))) &&& (858993459 : Int32)) + ((((x - (((x.toUInt32 >>> ((1 : Int32).toUInt32 &&& Int32.toUInt32 31)).toInt32) &&& (1431655765 : Int32))).toUInt32 >>> ((2 : Int32).toUInt32 &&& Int32.toUInt32 31)).toInt32) &&& (858993459 : Int32))).toUInt32 >>> ((4 : Int32).toUInt32 &&& Int32.toUInt32 31)).toInt32)) &&& (252645135 : Int32)).toUInt32 >>> ((8 : Int32).toUInt32 &&& Int32.toUInt32 31)).toInt32)).toUInt32 >>> ((16 : Int32).toUInt32 &&& Int32.toUInt32 31)).toInt32)))]) [0] dJ_bitCount_47 rfl (by decide) rfl ?_
  refine v_iload_n C 0 dJ_bitCount_48 rfl rfl ?_
  refine v_bipush C (v := 63) dJ_bitCount_49 (by decide) ?_
  refine v_iand C dJ_bitCount_51 ?_
  exact v_irr C hr (by unfold bitCountF; rfl) dJ_bitCount_52
end
section
theorem dG_holds_0 : decode bG_holds 0 = .ok (.iload_n 1, 1) := by decide +kernel
theorem dG_holds_1 : decode bG_holds 1 = .ok (.ifCond .lt 15, 3) := by decide +kernel
theorem dG_holds_4 : decode bG_holds 4 = .ok (.iload_n 1, 1) := by decide +kernel
theorem dG_holds_5 : decode bG_holds 5 = .ok (.aload_n 0, 1) := by decide +kernel
theorem dG_holds_6 : decode bG_holds 6 = .ok (.getfield 15, 3) := by decide +kernel
theorem dG_holds_9 : decode bG_holds 9 = .ok (.if_icmp .ge 7, 3) := by decide +kernel
theorem dG_holds_12 : decode bG_holds 12 = .ok (.iconst 1, 1) := by decide +kernel
theorem dG_holds_13 : decode bG_holds 13 = .ok (.goto 4, 3) := by decide +kernel
theorem dG_holds_16 : decode bG_holds 16 = .ok (.iconst 0, 1) := by decide +kernel
theorem dG_holds_17 : decode bG_holds 17 = .ok (.ireturn, 1) := by decide +kernel
theorem dG_join_0 : decode bG_join 0 = .ok (.aload_n 0, 1) := by decide +kernel
theorem dG_join_1 : decode bG_join 1 = .ok (.iload_n 1, 1) := by decide +kernel
theorem dG_join_2 : decode bG_join 2 = .ok (.invokevirtual 22, 3) := by decide +kernel
theorem dG_join_5 : decode bG_join 5 = .ok (.ifCond .eq 23, 3) := by decide +kernel
theorem dG_join_8 : decode bG_join 8 = .ok (.aload_n 0, 1) := by decide +kernel
theorem dG_join_9 : decode bG_join 9 = .ok (.iload_n 2, 1) := by decide +kernel
theorem dG_join_10 : decode bG_join 10 = .ok (.invokevirtual 22, 3) := by decide +kernel
theorem dG_join_13 : decode bG_join 13 = .ok (.ifCond .eq 15, 3) := by decide +kernel
theorem dG_join_16 : decode bG_join 16 = .ok (.aload_n 0, 1) := by decide +kernel
theorem dG_join_17 : decode bG_join 17 = .ok (.getfield 9, 3) := by decide +kernel
theorem dG_join_20 : decode bG_join 20 = .ok (.iload_n 1, 1) := by decide +kernel
theorem dG_join_21 : decode bG_join 21 = .ok (.dup2, 1) := by decide +kernel
theorem dG_join_22 : decode bG_join 22 = .ok (.iaload, 1) := by decide +kernel
theorem dG_join_23 : decode bG_join 23 = .ok (.iconst 1, 1) := by decide +kernel
theorem dG_join_24 : decode bG_join 24 = .ok (.iload_n 2, 1) := by decide +kernel
theorem dG_join_25 : decode bG_join 25 = .ok (.ishl, 1) := by decide +kernel
theorem dG_join_26 : decode bG_join 26 = .ok (.ior, 1) := by decide +kernel
theorem dG_join_27 : decode bG_join 27 = .ok (.iastore, 1) := by decide +kernel
theorem dG_join_28 : decode bG_join 28 = .ok (.return_, 1) := by decide +kernel
theorem dG_joins_0 : decode bG_joins 0 = .ok (.aload_n 0, 1) := by decide +kernel
theorem dG_joins_1 : decode bG_joins 1 = .ok (.iload_n 1, 1) := by decide +kernel
theorem dG_joins_2 : decode bG_joins 2 = .ok (.invokevirtual 22, 3) := by decide +kernel
theorem dG_joins_5 : decode bG_joins 5 = .ok (.ifCond .eq 29, 3) := by decide +kernel
theorem dG_joins_8 : decode bG_joins 8 = .ok (.aload_n 0, 1) := by decide +kernel
theorem dG_joins_9 : decode bG_joins 9 = .ok (.iload_n 2, 1) := by decide +kernel
theorem dG_joins_10 : decode bG_joins 10 = .ok (.invokevirtual 22, 3) := by decide +kernel
theorem dG_joins_13 : decode bG_joins 13 = .ok (.ifCond .eq 21, 3) := by decide +kernel
theorem dG_joins_16 : decode bG_joins 16 = .ok (.aload_n 0, 1) := by decide +kernel
theorem dG_joins_17 : decode bG_joins 17 = .ok (.getfield 9, 3) := by decide +kernel
theorem dG_joins_20 : decode bG_joins 20 = .ok (.iload_n 1, 1) := by decide +kernel
theorem dG_joins_21 : decode bG_joins 21 = .ok (.iaload, 1) := by decide +kernel
theorem dG_joins_22 : decode bG_joins 22 = .ok (.iload_n 2, 1) := by decide +kernel
theorem dG_joins_23 : decode bG_joins 23 = .ok (.ishr, 1) := by decide +kernel
theorem dG_joins_24 : decode bG_joins 24 = .ok (.iconst 1, 1) := by decide +kernel
theorem dG_joins_25 : decode bG_joins 25 = .ok (.iand, 1) := by decide +kernel
theorem dG_joins_26 : decode bG_joins 26 = .ok (.iconst 1, 1) := by decide +kernel
theorem dG_joins_27 : decode bG_joins 27 = .ok (.if_icmp .ne 7, 3) := by decide +kernel
theorem dG_joins_30 : decode bG_joins 30 = .ok (.iconst 1, 1) := by decide +kernel
theorem dG_joins_31 : decode bG_joins 31 = .ok (.goto 4, 3) := by decide +kernel
theorem dG_joins_34 : decode bG_joins 34 = .ok (.iconst 0, 1) := by decide +kernel
theorem dG_joins_35 : decode bG_joins 35 = .ok (.ireturn, 1) := by decide +kernel
theorem dG_isPath_0 : decode bG_isPath 0 = .ok (.iload_n 1, 1) := by decide +kernel
theorem dG_isPath_1 : decode bG_isPath 1 = .ok (.invokestatic 26, 3) := by decide +kernel
theorem dG_isPath_4 : decode bG_isPath 4 = .ok (.istore_n 2, 1) := by decide +kernel
theorem dG_isPath_5 : decode bG_isPath 5 = .ok (.iconst 0, 1) := by decide +kernel
theorem dG_isPath_6 : decode bG_isPath 6 = .ok (.istore_n 3, 1) := by decide +kernel
theorem dG_isPath_7 : decode bG_isPath 7 = .ok (.iconst 0, 1) := by decide +kernel
theorem dG_isPath_8 : decode bG_isPath 8 = .ok (.istore 4, 2) := by decide +kernel
theorem dG_isPath_10 : decode bG_isPath 10 = .ok (.iload 4, 2) := by decide +kernel
theorem dG_isPath_12 : decode bG_isPath 12 = .ok (.iload_n 2, 1) := by decide +kernel
theorem dG_isPath_13 : decode bG_isPath 13 = .ok (.if_icmp .ge 78, 3) := by decide +kernel
theorem dG_isPath_16 : decode bG_isPath 16 = .ok (.iload_n 1, 1) := by decide +kernel
theorem dG_isPath_17 : decode bG_isPath 17 = .ok (.iload 4, 2) := by decide +kernel
theorem dG_isPath_19 : decode bG_isPath 19 = .ok (.invokestatic 32, 3) := by decide +kernel
theorem dG_isPath_22 : decode bG_isPath 22 = .ok (.istore 5, 2) := by decide +kernel
theorem dG_isPath_24 : decode bG_isPath 24 = .ok (.aload_n 0, 1) := by decide +kernel
theorem dG_isPath_25 : decode bG_isPath 25 = .ok (.iload 5, 2) := by decide +kernel
theorem dG_isPath_27 : decode bG_isPath 27 = .ok (.invokevirtual 22, 3) := by decide +kernel
theorem dG_isPath_30 : decode bG_isPath 30 = .ok (.ifCond .eq 16, 3) := by decide +kernel
theorem dG_isPath_33 : decode bG_isPath 33 = .ok (.iload_n 3, 1) := by decide +kernel
theorem dG_isPath_34 : decode bG_isPath 34 = .ok (.iload 5, 2) := by decide +kernel
theorem dG_isPath_36 : decode bG_isPath 36 = .ok (.ishr, 1) := by decide +kernel
theorem dG_isPath_37 : decode bG_isPath 37 = .ok (.iconst 1, 1) := by decide +kernel
theorem dG_isPath_38 : decode bG_isPath 38 = .ok (.iand, 1) := by decide +kernel
theorem dG_isPath_39 : decode bG_isPath 39 = .ok (.ifCond .ne 7, 3) := by decide +kernel
theorem dG_isPath_42 : decode bG_isPath 42 = .ok (.iconst 1, 1) := by decide +kernel
theorem dG_isPath_43 : decode bG_isPath 43 = .ok (.goto 4, 3) := by decide +kernel
theorem dG_isPath_46 : decode bG_isPath 46 = .ok (.iconst 0, 1) := by decide +kernel
theorem dG_isPath_47 : decode bG_isPath 47 = .ok (.istore 6, 2) := by decide +kernel
theorem dG_isPath_49 : decode bG_isPath 49 = .ok (.iload 6, 2) := by decide +kernel
theorem dG_isPath_51 : decode bG_isPath 51 = .ok (.ifCond .eq 25, 3) := by decide +kernel
theorem dG_isPath_54 : decode bG_isPath 54 = .ok (.iload 4, 2) := by decide +kernel
theorem dG_isPath_56 : decode bG_isPath 56 = .ok (.ifCond .le 22, 3) := by decide +kernel
theorem dG_isPath_59 : decode bG_isPath 59 = .ok (.aload_n 0, 1) := by decide +kernel
theorem dG_isPath_60 : decode bG_isPath 60 = .ok (.iload_n 1, 1) := by decide +kernel
theorem dG_isPath_61 : decode bG_isPath 61 = .ok (.iload 4, 2) := by decide +kernel
theorem dG_isPath_63 : decode bG_isPath 63 = .ok (.iconst 1, 1) := by decide +kernel
theorem dG_isPath_64 : decode bG_isPath 64 = .ok (.isub, 1) := by decide +kernel
theorem dG_isPath_65 : decode bG_isPath 65 = .ok (.invokestatic 32, 3) := by decide +kernel
theorem dG_isPath_68 : decode bG_isPath 68 = .ok (.iload 5, 2) := by decide +kernel
theorem dG_isPath_70 : decode bG_isPath 70 = .ok (.invokevirtual 36, 3) := by decide +kernel
theorem dG_isPath_73 : decode bG_isPath 73 = .ok (.ifCond .ne 5, 3) := by decide +kernel
theorem dG_isPath_76 : decode bG_isPath 76 = .ok (.iconst 0, 1) := by decide +kernel
theorem dG_isPath_77 : decode bG_isPath 77 = .ok (.ireturn, 1) := by decide +kernel
theorem dG_isPath_78 : decode bG_isPath 78 = .ok (.iload_n 3, 1) := by decide +kernel
theorem dG_isPath_79 : decode bG_isPath 79 = .ok (.iconst 1, 1) := by decide +kernel
theorem dG_isPath_80 : decode bG_isPath 80 = .ok (.iload 5, 2) := by decide +kernel
theorem dG_isPath_82 : decode bG_isPath 82 = .ok (.ishl, 1) := by decide +kernel
theorem dG_isPath_83 : decode bG_isPath 83 = .ok (.ior, 1) := by decide +kernel
theorem dG_isPath_84 : decode bG_isPath 84 = .ok (.istore_n 3, 1) := by decide +kernel
theorem dG_isPath_85 : decode bG_isPath 85 = .ok (.iinc 4 1, 3) := by decide +kernel
theorem dG_isPath_88 : decode bG_isPath 88 = .ok (.goto (-78), 3) := by decide +kernel
theorem dG_isPath_91 : decode bG_isPath 91 = .ok (.iload_n 2, 1) := by decide +kernel
theorem dG_isPath_92 : decode bG_isPath 92 = .ok (.ifCond .le 7, 3) := by decide +kernel
theorem dG_isPath_95 : decode bG_isPath 95 = .ok (.iconst 1, 1) := by decide +kernel
theorem dG_isPath_96 : decode bG_isPath 96 = .ok (.goto 4, 3) := by decide +kernel
theorem dG_isPath_99 : decode bG_isPath 99 = .ok (.iconst 0, 1) := by decide +kernel
theorem dG_isPath_100 : decode bG_isPath 100 = .ok (.ireturn, 1) := by decide +kernel
theorem dG_reach_0 : decode bG_reach 0 = .ok (.iconst 1, 1) := by decide +kernel
theorem dG_reach_1 : decode bG_reach 1 = .ok (.iload_n 1, 1) := by decide +kernel
theorem dG_reach_2 : decode bG_reach 2 = .ok (.ishl, 1) := by decide +kernel
theorem dG_reach_3 : decode bG_reach 3 = .ok (.istore_n 2, 1) := by decide +kernel
theorem dG_reach_4 : decode bG_reach 4 = .ok (.iconst 1, 1) := by decide +kernel
theorem dG_reach_5 : decode bG_reach 5 = .ok (.istore_n 3, 1) := by decide +kernel
theorem dG_reach_6 : decode bG_reach 6 = .ok (.iload_n 3, 1) := by decide +kernel
theorem dG_reach_7 : decode bG_reach 7 = .ok (.aload_n 0, 1) := by decide +kernel
theorem dG_reach_8 : decode bG_reach 8 = .ok (.getfield 15, 3) := by decide +kernel
theorem dG_reach_11 : decode bG_reach 11 = .ok (.if_icmp .ge 47, 3) := by decide +kernel
theorem dG_reach_14 : decode bG_reach 14 = .ok (.iconst 0, 1) := by decide +kernel
theorem dG_reach_15 : decode bG_reach 15 = .ok (.istore 4, 2) := by decide +kernel
theorem dG_reach_17 : decode bG_reach 17 = .ok (.iload 4, 2) := by decide +kernel
theorem dG_reach_19 : decode bG_reach 19 = .ok (.aload_n 0, 1) := by decide +kernel
theorem dG_reach_20 : decode bG_reach 20 = .ok (.getfield 15, 3) := by decide +kernel
theorem dG_reach_23 : decode bG_reach 23 = .ok (.if_icmp .ge 29, 3) := by decide +kernel
theorem dG_reach_26 : decode bG_reach 26 = .ok (.iload_n 2, 1) := by decide +kernel
theorem dG_reach_27 : decode bG_reach 27 = .ok (.iload 4, 2) := by decide +kernel
theorem dG_reach_29 : decode bG_reach 29 = .ok (.ishr, 1) := by decide +kernel
theorem dG_reach_30 : decode bG_reach 30 = .ok (.iconst 1, 1) := by decide +kernel
theorem dG_reach_31 : decode bG_reach 31 = .ok (.iand, 1) := by decide +kernel
theorem dG_reach_32 : decode bG_reach 32 = .ok (.iconst 1, 1) := by decide +kernel
theorem dG_reach_33 : decode bG_reach 33 = .ok (.if_icmp .ne 13, 3) := by decide +kernel
theorem dG_reach_36 : decode bG_reach 36 = .ok (.iload_n 2, 1) := by decide +kernel
theorem dG_reach_37 : decode bG_reach 37 = .ok (.aload_n 0, 1) := by decide +kernel
theorem dG_reach_38 : decode bG_reach 38 = .ok (.getfield 9, 3) := by decide +kernel
theorem dG_reach_41 : decode bG_reach 41 = .ok (.iload 4, 2) := by decide +kernel
theorem dG_reach_43 : decode bG_reach 43 = .ok (.iaload, 1) := by decide +kernel
theorem dG_reach_44 : decode bG_reach 44 = .ok (.ior, 1) := by decide +kernel
theorem dG_reach_45 : decode bG_reach 45 = .ok (.istore_n 2, 1) := by decide +kernel
theorem dG_reach_46 : decode bG_reach 46 = .ok (.iinc 4 1, 3) := by decide +kernel
theorem dG_reach_49 : decode bG_reach 49 = .ok (.goto (-32), 3) := by decide +kernel
theorem dG_reach_52 : decode bG_reach 52 = .ok (.iinc 3 1, 3) := by decide +kernel
theorem dG_reach_55 : decode bG_reach 55 = .ok (.goto (-49), 3) := by decide +kernel
theorem dG_reach_58 : decode bG_reach 58 = .ok (.iload_n 2, 1) := by decide +kernel
theorem dG_reach_59 : decode bG_reach 59 = .ok (.ireturn, 1) := by decide +kernel
theorem dG_isStrong_0 : decode bG_isStrong 0 = .ok (.iconst 0, 1) := by decide +kernel
theorem dG_isStrong_1 : decode bG_isStrong 1 = .ok (.istore_n 1, 1) := by decide +kernel
theorem dG_isStrong_2 : decode bG_isStrong 2 = .ok (.iload_n 1, 1) := by decide +kernel
theorem dG_isStrong_3 : decode bG_isStrong 3 = .ok (.aload_n 0, 1) := by decide +kernel
theorem dG_isStrong_4 : decode bG_isStrong 4 = .ok (.getfield 15, 3) := by decide +kernel
theorem dG_isStrong_7 : decode bG_isStrong 7 = .ok (.if_icmp .ge 23, 3) := by decide +kernel
theorem dG_isStrong_10 : decode bG_isStrong 10 = .ok (.aload_n 0, 1) := by decide +kernel
theorem dG_isStrong_11 : decode bG_isStrong 11 = .ok (.iload_n 1, 1) := by decide +kernel
theorem dG_isStrong_12 : decode bG_isStrong 12 = .ok (.invokevirtual 40, 3) := by decide +kernel
theorem dG_isStrong_15 : decode bG_isStrong 15 = .ok (.aload_n 0, 1) := by decide +kernel
theorem dG_isStrong_16 : decode bG_isStrong 16 = .ok (.getfield 19, 3) := by decide +kernel
theorem dG_isStrong_19 : decode bG_isStrong 19 = .ok (.if_icmp .eq 5, 3) := by decide +kernel
theorem dG_isStrong_22 : decode bG_isStrong 22 = .ok (.iconst 0, 1) := by decide +kernel
theorem dG_isStrong_23 : decode bG_isStrong 23 = .ok (.ireturn, 1) := by decide +kernel
theorem dG_isStrong_24 : decode bG_isStrong 24 = .ok (.iinc 1 1, 3) := by decide +kernel
theorem dG_isStrong_27 : decode bG_isStrong 27 = .ok (.goto (-25), 3) := by decide +kernel
theorem dG_isStrong_30 : decode bG_isStrong 30 = .ok (.iconst 1, 1) := by decide +kernel
theorem dG_isStrong_31 : decode bG_isStrong 31 = .ok (.ireturn, 1) := by decide +kernel
theorem dG_endsAllWalks_0 : decode bG_endsAllWalks 0 = .ok (.iload_n 1, 1) := by decide +kernel
theorem dG_endsAllWalks_1 : decode bG_endsAllWalks 1 = .ok (.istore_n 2, 1) := by decide +kernel
theorem dG_endsAllWalks_2 : decode bG_endsAllWalks 2 = .ok (.iconst 0, 1) := by decide +kernel
theorem dG_endsAllWalks_3 : decode bG_endsAllWalks 3 = .ok (.istore_n 3, 1) := by decide +kernel
theorem dG_endsAllWalks_4 : decode bG_endsAllWalks 4 = .ok (.iload_n 3, 1) := by decide +kernel
theorem dG_endsAllWalks_5 : decode bG_endsAllWalks 5 = .ok (.aload_n 0, 1) := by decide +kernel
theorem dG_endsAllWalks_6 : decode bG_endsAllWalks 6 = .ok (.getfield 15, 3) := by decide +kernel
theorem dG_endsAllWalks_9 : decode bG_endsAllWalks 9 = .ok (.if_icmp .ge 48, 3) := by decide +kernel
theorem dG_endsAllWalks_12 : decode bG_endsAllWalks 12 = .ok (.iconst 0, 1) := by decide +kernel
theorem dG_endsAllWalks_13 : decode bG_endsAllWalks 13 = .ok (.istore 4, 2) := by decide +kernel
theorem dG_endsAllWalks_15 : decode bG_endsAllWalks 15 = .ok (.iload 4, 2) := by decide +kernel
theorem dG_endsAllWalks_17 : decode bG_endsAllWalks 17 = .ok (.aload_n 0, 1) := by decide +kernel
theorem dG_endsAllWalks_18 : decode bG_endsAllWalks 18 = .ok (.getfield 15, 3) := by decide +kernel
theorem dG_endsAllWalks_21 : decode bG_endsAllWalks 21 = .ok (.if_icmp .ge 30, 3) := by decide +kernel
theorem dG_endsAllWalks_24 : decode bG_endsAllWalks 24 = .ok (.aload_n 0, 1) := by decide +kernel
theorem dG_endsAllWalks_25 : decode bG_endsAllWalks 25 = .ok (.getfield 9, 3) := by decide +kernel
theorem dG_endsAllWalks_28 : decode bG_endsAllWalks 28 = .ok (.iload 4, 2) := by decide +kernel
theorem dG_endsAllWalks_30 : decode bG_endsAllWalks 30 = .ok (.iaload, 1) := by decide +kernel
theorem dG_endsAllWalks_31 : decode bG_endsAllWalks 31 = .ok (.iload_n 2, 1) := by decide +kernel
theorem dG_endsAllWalks_32 : decode bG_endsAllWalks 32 = .ok (.iand, 1) := by decide +kernel
theorem dG_endsAllWalks_33 : decode bG_endsAllWalks 33 = .ok (.ifCond .ne 12, 3) := by decide +kernel
theorem dG_endsAllWalks_36 : decode bG_endsAllWalks 36 = .ok (.iload_n 2, 1) := by decide +kernel
theorem dG_endsAllWalks_37 : decode bG_endsAllWalks 37 = .ok (.iconst 1, 1) := by decide +kernel
theorem dG_endsAllWalks_38 : decode bG_endsAllWalks 38 = .ok (.iload 4, 2) := by decide +kernel
theorem dG_endsAllWalks_40 : decode bG_endsAllWalks 40 = .ok (.ishl, 1) := by decide +kernel
theorem dG_endsAllWalks_41 : decode bG_endsAllWalks 41 = .ok (.iconst (-1), 1) := by decide +kernel
theorem dG_endsAllWalks_42 : decode bG_endsAllWalks 42 = .ok (.ixor, 1) := by decide +kernel
theorem dG_endsAllWalks_43 : decode bG_endsAllWalks 43 = .ok (.iand, 1) := by decide +kernel
theorem dG_endsAllWalks_44 : decode bG_endsAllWalks 44 = .ok (.istore_n 2, 1) := by decide +kernel
theorem dG_endsAllWalks_45 : decode bG_endsAllWalks 45 = .ok (.iinc 4 1, 3) := by decide +kernel
theorem dG_endsAllWalks_48 : decode bG_endsAllWalks 48 = .ok (.goto (-33), 3) := by decide +kernel
theorem dG_endsAllWalks_51 : decode bG_endsAllWalks 51 = .ok (.iinc 3 1, 3) := by decide +kernel
theorem dG_endsAllWalks_54 : decode bG_endsAllWalks 54 = .ok (.goto (-50), 3) := by decide +kernel
theorem dG_endsAllWalks_57 : decode bG_endsAllWalks 57 = .ok (.iload_n 2, 1) := by decide +kernel
theorem dG_endsAllWalks_58 : decode bG_endsAllWalks 58 = .ok (.ifCond .ne 7, 3) := by decide +kernel
theorem dG_endsAllWalks_61 : decode bG_endsAllWalks 61 = .ok (.iconst 1, 1) := by decide +kernel
theorem dG_endsAllWalks_62 : decode bG_endsAllWalks 62 = .ok (.goto 4, 3) := by decide +kernel
theorem dG_endsAllWalks_65 : decode bG_endsAllWalks 65 = .ok (.iconst 0, 1) := by decide +kernel
theorem dG_endsAllWalks_66 : decode bG_endsAllWalks 66 = .ok (.ireturn, 1) := by decide +kernel
theorem dG_fewestLeaders_0 : decode bG_fewestLeaders 0 = .ok (.aload_n 0, 1) := by decide +kernel
theorem dG_fewestLeaders_1 : decode bG_fewestLeaders 1 = .ok (.getfield 19, 3) := by decide +kernel
theorem dG_fewestLeaders_4 : decode bG_fewestLeaders 4 = .ok (.istore_n 1, 1) := by decide +kernel
theorem dG_fewestLeaders_5 : decode bG_fewestLeaders 5 = .ok (.iconst 0, 1) := by decide +kernel
theorem dG_fewestLeaders_6 : decode bG_fewestLeaders 6 = .ok (.istore_n 2, 1) := by decide +kernel
theorem dG_fewestLeaders_7 : decode bG_fewestLeaders 7 = .ok (.iload_n 2, 1) := by decide +kernel
theorem dG_fewestLeaders_8 : decode bG_fewestLeaders 8 = .ok (.aload_n 0, 1) := by decide +kernel
theorem dG_fewestLeaders_9 : decode bG_fewestLeaders 9 = .ok (.getfield 19, 3) := by decide +kernel
theorem dG_fewestLeaders_12 : decode bG_fewestLeaders 12 = .ok (.if_icmp .ge 37, 3) := by decide +kernel
theorem dG_fewestLeaders_15 : decode bG_fewestLeaders 15 = .ok (.iload_n 2, 1) := by decide +kernel
theorem dG_fewestLeaders_16 : decode bG_fewestLeaders 16 = .ok (.invokestatic 43, 3) := by decide +kernel
theorem dG_fewestLeaders_19 : decode bG_fewestLeaders 19 = .ok (.iload_n 1, 1) := by decide +kernel
theorem dG_fewestLeaders_20 : decode bG_fewestLeaders 20 = .ok (.invokestatic 43, 3) := by decide +kernel
theorem dG_fewestLeaders_23 : decode bG_fewestLeaders 23 = .ok (.if_icmp .ge 20, 3) := by decide +kernel
theorem dG_fewestLeaders_26 : decode bG_fewestLeaders 26 = .ok (.aload_n 0, 1) := by decide +kernel
theorem dG_fewestLeaders_27 : decode bG_fewestLeaders 27 = .ok (.aload_n 0, 1) := by decide +kernel
theorem dG_fewestLeaders_28 : decode bG_fewestLeaders 28 = .ok (.getfield 19, 3) := by decide +kernel
theorem dG_fewestLeaders_31 : decode bG_fewestLeaders 31 = .ok (.iload_n 2, 1) := by decide +kernel
theorem dG_fewestLeaders_32 : decode bG_fewestLeaders 32 = .ok (.iconst (-1), 1) := by decide +kernel
theorem dG_fewestLeaders_33 : decode bG_fewestLeaders 33 = .ok (.ixor, 1) := by decide +kernel
theorem dG_fewestLeaders_34 : decode bG_fewestLeaders 34 = .ok (.iand, 1) := by decide +kernel
theorem dG_fewestLeaders_35 : decode bG_fewestLeaders 35 = .ok (.invokevirtual 48, 3) := by decide +kernel
theorem dG_fewestLeaders_38 : decode bG_fewestLeaders 38 = .ok (.ifCond .eq 5, 3) := by decide +kernel
theorem dG_fewestLeaders_41 : decode bG_fewestLeaders 41 = .ok (.iload_n 2, 1) := by decide +kernel
theorem dG_fewestLeaders_42 : decode bG_fewestLeaders 42 = .ok (.istore_n 1, 1) := by decide +kernel
theorem dG_fewestLeaders_43 : decode bG_fewestLeaders 43 = .ok (.iinc 2 1, 3) := by decide +kernel
theorem dG_fewestLeaders_46 : decode bG_fewestLeaders 46 = .ok (.goto (-39), 3) := by decide +kernel
theorem dG_fewestLeaders_49 : decode bG_fewestLeaders 49 = .ok (.iload_n 1, 1) := by decide +kernel
theorem dG_fewestLeaders_50 : decode bG_fewestLeaders 50 = .ok (.ireturn, 1) := by decide +kernel
theorem inG_holds_G : ∀ x ∈ u_ws RcG TcG 3, x ∈ wG_holds := by decide +kernel
set_option maxRecDepth 20000 in
theorem gG_join_G_holds : GoodIn wG_join (wsV RcG 22 RcG yG_holds wG_holds) := goodIn_app (goodIn_of _ (by decide +kernel)) (goodIn_r _ [6, 7, 8, 9, 10] (by decide +kernel) (by decide +kernel))
theorem inG_join_G : ∀ x ∈ u_ws RcG TcG 3, x ∈ wG_join := by decide +kernel
set_option maxRecDepth 20000 in
theorem gG_joins_G_holds : GoodIn wG_joins (wsV RcG 22 RcG yG_holds wG_holds) := goodIn_app (goodIn_of _ (by decide +kernel)) (goodIn_r _ [6, 7, 8, 9, 10] (by decide +kernel) (by decide +kernel))
theorem inG_joins_G : ∀ x ∈ u_ws RcG TcG 3, x ∈ wG_joins := by decide +kernel
set_option maxRecDepth 20000 in
theorem gG_isPath_R_size : GoodIn wG_isPath (va_wsS RcG 26 yR_size wR_size) := goodIn_app (goodIn_of _ (by decide +kernel)) (goodIn_r _ [13] (by decide +kernel) (by decide +kernel))
set_option maxRecDepth 20000 in
theorem gG_isPath_R_party : GoodIn wG_isPath (va_wsS RcG 32 yR_party wR_party) := goodIn_app (goodIn_of _ (by decide +kernel)) (goodIn_r _ [14] (by decide +kernel) (by decide +kernel))
set_option maxRecDepth 20000 in
theorem gG_isPath_G_holds : GoodIn wG_isPath (wsV RcG 22 RcG yG_holds wG_holds) := goodIn_app (goodIn_of _ (by decide +kernel)) (goodIn_r _ [15, 16, 19, 20, 21] (by decide +kernel) (by decide +kernel))
set_option maxRecDepth 20000 in
theorem gG_isPath_G_joins : GoodIn wG_isPath (wsV RcG 36 RcG yG_joins wG_joins) := goodIn_app (goodIn_of _ (by decide +kernel)) (goodIn_r _ [17, 6, 7, 8, 9, 18, 15, 16, 19, 20, 21] (by decide +kernel) (by decide +kernel))
theorem inG_reach_G : ∀ x ∈ u_ws RcG TcG 3, x ∈ wG_reach := by decide +kernel
theorem inG_isStrong_G : ∀ x ∈ u_ws RcG TcG 3, x ∈ wG_isStrong := by decide +kernel
set_option maxRecDepth 20000 in
theorem gG_isStrong_G_reach : GoodIn wG_isStrong (wsV RcG 40 RcG yG_reach wG_reach) := goodIn_app (goodIn_of _ (by decide +kernel)) (goodIn_r _ [7, 1, 8, 9, 10, 11] (by decide +kernel) (by decide +kernel))
theorem inG_endsAllWalks_G : ∀ x ∈ u_ws RcG TcG 3, x ∈ wG_endsAllWalks := by decide +kernel
theorem inG_fewestLeaders_G : ∀ x ∈ u_ws RcG TcG 3, x ∈ wG_fewestLeaders := by decide +kernel
set_option maxRecDepth 20000 in
theorem gG_fewestLeaders_J_bitCount : GoodIn wG_fewestLeaders (va_wsS RcG 43 yJ_bitCount wJ_bitCount) := goodIn_app (goodIn_of _ (by decide +kernel)) (goodIn_r _ [9, 10, 11, 12] (by decide +kernel) (by decide +kernel))
set_option maxRecDepth 20000 in
theorem gG_fewestLeaders_G_endsAllWalks : GoodIn wG_fewestLeaders (wsV RcG 48 RcG yG_endsAllWalks wG_endsAllWalks) := goodIn_app (goodIn_of _ (by decide +kernel)) (goodIn_r _ [13, 14, 15, 16, 17, 18] (by decide +kernel) (by decide +kernel))
end
section
set_option maxHeartbeats 4000000 in
set_option maxRecDepth 100000 in
theorem c_gHolds (l : Launch) (D : va_G) (cI cZ cJ : ClassId) (b : Nat → Nat) (F : FT) (a : AT) (x : Int32) : Kr l yG_holds wG_holds ({ frames := 0, cells := 0, slots := 0, locals := 0 } : Room) D vwCl (tyG cI cZ cJ) [.ref (b 1), .int x] (wG cI b F a) (gHolds F a x) := by
  intro sz
  refine v_ent (cc := bG_holds) (maxL := 2) (ret := (some .boolean)) (Qc := (fun _ _ st oc t => oc = .returned (some (.int (gHolds F a x))) ∧ t.heap = st.heap)) (fr := (fun _ _ => False)) (own := RcG) rfl (by decide) rfl (Nat.le_of_ble_eq_true rfl) rfl ?_
  intro p e s m args below meth c A C hr _
  refine v_iload_n C 1 dG_holds_0 rfl rfl ?_
  refine v_if_lt C dG_holds_1 (tgt := 16) (by decide) (fun h1 => ?_) (fun h1 => ?_)
  · skip
    refine v_iconst C (v := 0) dG_holds_16 (by decide) ?_
    exact v_zrr C hr (by decide) (by unfold gHolds; rw [if_pos h1]) dG_holds_17
  · skip
    refine v_iload_n C 1 dG_holds_4 rfl rfl ?_
    refine v_aload_n C 0 dG_holds_5 rfl rfl ?_
    refine v_get C (T := TcG) (N := 3) (ci := 1) (v := .int (F 20)) inG_holds_G 0 rfl rfl 0 (by decide) (by decide +kernel) rfl rfl dG_holds_6 ?_
    refine v_icmp_ge C dG_holds_9 (tgt := 16) (by decide) (fun h2 => ?_) (fun h2 => ?_)
    · skip
      refine v_iconst C (v := 0) dG_holds_16 (by decide) ?_
      exact v_zrr C hr (by decide) (by unfold gHolds; rw [if_neg h1, if_pos h2]) dG_holds_17
    · skip
      refine v_iconst C (v := 1) dG_holds_12 (by decide) ?_
      refine v_goto C dG_holds_13 (tgt := 17) (by decide) ?_
      exact v_zrr C hr (by decide) (by unfold gHolds; rw [if_neg h1, if_neg h2]) dG_holds_17
set_option maxHeartbeats 4000000 in
set_option maxRecDepth 100000 in
theorem c_gJoin (l : Launch) (D : va_G) (cI cZ cJ : ClassId) (b : Nat → Nat) (F : FT) (a : AT) (P : Nat) (x : Int32) (y : Int32) (hg : F 20 = nI P) (hp6 : P ≤ 6) : Kv l yG_join wG_join ({ frames := 1, cells := 0, slots := 0, locals := 21 } : Room) D vwCl (tyG cI cZ cJ) [.ref (b 1), .int x, .int y] (wG cI b F a) (wG cI b F (gJoin F a x y)) := by
  intro sz
  refine v_ent (cc := bG_join) (maxL := 3) (ret := none) (Qc := (fun A => va_Qv (fun (_ : Unit) => True) (fun _ => wB D vwCl (tyG cI cZ cJ) A (wG cI b F (gJoin F a x y))) A)) (fr := (fun A => A)) (own := RcG) rfl (by decide) rfl (Nat.le_of_ble_eq_true rfl) rfl ?_
  intro p e s m args below meth c A C hr _
  refine v_free ?_
  refine v_aload_n C 0 dG_join_0 rfl rfl ?_
  refine v_iload_n C 1 dG_join_1 rfl rfl ?_
  refine v_cVrF (As := [.int x]) C (c_gHolds l D cI cZ cJ b F a x) (cwV 1 C.2.2.2.2.1 gG_join_G_holds rfl rfl rfl (by decide +kernel) ⟨Nat.le_of_ble_eq_true rfl, Nat.le_of_ble_eq_true rfl⟩) 0 rfl (T := TcG) (N := 3) rfl rfl rfl (Nat.le_of_ble_eq_true rfl) ⟨Nat.zero_le _, Nat.zero_le _⟩ dG_join_2 ?_
  refine v_if_eq C dG_join_5 (tgt := 28) (by decide) (fun h1 => ?_) (fun h1 => ?_)
  · skip
    have hE : a = gJoin F a x y := (by unfold gJoin; rw [if_pos h1])
    exact v_vret C hr (by rw [← hE]) dG_join_28
  · skip
    refine v_aload_n C 0 dG_join_8 rfl rfl ?_
    refine v_iload_n C 2 dG_join_9 rfl rfl ?_
    refine v_cVrF (As := [.int y]) C (c_gHolds l D cI cZ cJ b F a y) (cwV 1 C.2.2.2.2.1 gG_join_G_holds rfl rfl rfl (by decide +kernel) ⟨Nat.le_of_ble_eq_true rfl, Nat.le_of_ble_eq_true rfl⟩) 0 rfl (T := TcG) (N := 3) rfl rfl rfl (Nat.le_of_ble_eq_true rfl) ⟨Nat.zero_le _, Nat.zero_le _⟩ dG_join_10 ?_
    refine v_if_eq C dG_join_13 (tgt := 28) (by decide) (fun h2 => ?_) (fun h2 => ?_)
    · skip
      have hE : a = gJoin F a x y := (by unfold gJoin; rw [if_neg h1, if_pos h2])
      exact v_vret C hr (by rw [← hE]) dG_join_28
    · skip
      have hx : vp_in x 6 := (vp_holds h1 hg hp6)
      refine v_aload_n C 0 dG_join_16 rfl rfl ?_
      refine v_get C (T := TcG) (N := 3) (ci := 1) (v := .ref (b 7)) inG_join_G 0 rfl rfl 2 (by decide) (by decide +kernel) rfl rfl dG_join_17 ?_
      refine v_iload_n C 1 dG_join_20 rfl rfl ?_
      refine v_dup2 C dG_join_21 rfl rfl ?_
      refine v_iald C 1 0 (f := a 22) (y := (a 22) x.toNatClampNeg) (j := x.toNatClampNeg) rfl rfl rfl rfl hx dG_join_22 ?_
      refine v_iconst C (v := 1) dG_join_23 (by decide) ?_
      refine v_iload_n C 2 dG_join_24 rfl rfl ?_
      refine v_ishl C dG_join_25 ?_
      refine v_ior C dG_join_26 ?_
      obtain ⟨zz1, hzz1⟩ : ∃ z9, upd (a 22) x.toNatClampNeg (((a 22) x.toNatClampNeg) ||| ((1 : Int32) <<< (y &&& 31))) = z9 := ⟨_, rfl⟩
      refine v_iast C 1 0 (f := a 22) (j := x.toNatClampNeg) (f1 := zz1) rfl rfl rfl hzz1 hx dG_join_27 (w1 := wG cI b F (updA a 22 zz1)) rfl ?_
      have hE : updA a 22 zz1 = gJoin F a x y := (by unfold gJoin; rw [hzz1, if_neg h1, if_neg h2])
      exact v_vret C hr (by rw [← hE]) dG_join_28
set_option maxHeartbeats 4000000 in
set_option maxRecDepth 100000 in
theorem c_gJoins (l : Launch) (D : va_G) (cI cZ cJ : ClassId) (b : Nat → Nat) (F : FT) (a : AT) (P : Nat) (x : Int32) (y : Int32) (hg : F 20 = nI P) (hp6 : P ≤ 6) : Kr l yG_joins wG_joins ({ frames := 1, cells := 0, slots := 0, locals := 21 } : Room) D vwCl (tyG cI cZ cJ) [.ref (b 1), .int x, .int y] (wG cI b F a) (gJoins F a x y) := by
  intro sz
  refine v_ent (cc := bG_joins) (maxL := 3) (ret := (some .boolean)) (Qc := (fun _ _ st oc t => oc = .returned (some (.int (gJoins F a x y))) ∧ t.heap = st.heap)) (fr := (fun _ _ => False)) (own := RcG) rfl (by decide) rfl (Nat.le_of_ble_eq_true rfl) rfl ?_
  intro p e s m args below meth c A C hr _
  refine v_aload_n C 0 dG_joins_0 rfl rfl ?_
  refine v_iload_n C 1 dG_joins_1 rfl rfl ?_
  refine v_cVrF (As := [.int x]) C (c_gHolds l D cI cZ cJ b F a x) (cwV 1 C.2.2.2.2.1 gG_joins_G_holds rfl rfl rfl (by decide +kernel) ⟨Nat.le_of_ble_eq_true rfl, Nat.le_of_ble_eq_true rfl⟩) 0 rfl (T := TcG) (N := 3) rfl rfl rfl (Nat.le_of_ble_eq_true rfl) ⟨Nat.zero_le _, Nat.zero_le _⟩ dG_joins_2 ?_
  refine v_if_eq C dG_joins_5 (tgt := 34) (by decide) (fun h1 => ?_) (fun h1 => ?_)
  · skip
    refine v_iconst C (v := 0) dG_joins_34 (by decide) ?_
    exact v_zrr C hr (by decide) (by unfold gJoins; rw [if_pos h1]) dG_joins_35
  · skip
    refine v_aload_n C 0 dG_joins_8 rfl rfl ?_
    refine v_iload_n C 2 dG_joins_9 rfl rfl ?_
    refine v_cVrF (As := [.int y]) C (c_gHolds l D cI cZ cJ b F a y) (cwV 1 C.2.2.2.2.1 gG_joins_G_holds rfl rfl rfl (by decide +kernel) ⟨Nat.le_of_ble_eq_true rfl, Nat.le_of_ble_eq_true rfl⟩) 0 rfl (T := TcG) (N := 3) rfl rfl rfl (Nat.le_of_ble_eq_true rfl) ⟨Nat.zero_le _, Nat.zero_le _⟩ dG_joins_10 ?_
    refine v_if_eq C dG_joins_13 (tgt := 34) (by decide) (fun h2 => ?_) (fun h2 => ?_)
    · skip
      refine v_iconst C (v := 0) dG_joins_34 (by decide) ?_
      exact v_zrr C hr (by decide) (by unfold gJoins; rw [if_neg h1, if_pos h2]) dG_joins_35
    · skip
      have hx : vp_in x 6 := (vp_holds h1 hg hp6)
      refine v_aload_n C 0 dG_joins_16 rfl rfl ?_
      refine v_get C (T := TcG) (N := 3) (ci := 1) (v := .ref (b 7)) inG_joins_G 0 rfl rfl 2 (by decide) (by decide +kernel) rfl rfl dG_joins_17 ?_
      refine v_iload_n C 1 dG_joins_20 rfl rfl ?_
      refine v_iald C 1 0 (f := a 22) (y := (a 22) x.toNatClampNeg) (j := x.toNatClampNeg) rfl rfl rfl rfl hx dG_joins_21 ?_
      refine v_iload_n C 2 dG_joins_22 rfl rfl ?_
      refine v_ishr C dG_joins_23 ?_
      refine v_iconst C (v := 1) dG_joins_24 (by decide) ?_
      refine v_iand C dG_joins_25 ?_
      refine v_iconst C (v := 1) dG_joins_26 (by decide) ?_
      refine v_icmp_ne C dG_joins_27 (tgt := 34) (by decide) (fun h3 => ?_) (fun h3 => ?_)
      · skip
        refine v_iconst C (v := 0) dG_joins_34 (by decide) ?_
        exact v_zrr C hr (by decide) (by unfold gJoins; rw [if_neg h1, if_neg h2, if_neg h3]) dG_joins_35
      · skip
        refine v_iconst C (v := 1) dG_joins_30 (by decide) ?_
        refine v_goto C dG_joins_31 (tgt := 35) (by decide) ?_
        exact v_zrr C hr (by decide) (by unfold gJoins; rw [if_neg h1, if_neg h2, if_pos h3]) dG_joins_35
set_option maxHeartbeats 4000000 in
set_option maxRecDepth 100000 in
theorem c_gIsPath (l : Launch) (D : va_G) (cI cZ cJ : ClassId) (b : Nat → Nat) (F : FT) (a : AT) (P : Nat) (row : Int32) (hg : F 20 = nI P) (hp6 : P ≤ 6) : Kr l yG_isPath wG_isPath ({ frames := 2, cells := 0, slots := 0, locals := 43 } : Room) D vwCl (tyG cI cZ cJ) [.ref (b 1), .int row] (wG cI b F a) (gIsPath F a P row) := by
  intro sz
  refine v_ent (cc := bG_isPath) (maxL := 7) (ret := (some .boolean)) (Qc := (fun _ _ st oc t => oc = .returned (some (.int (gIsPath F a P row))) ∧ t.heap = st.heap)) (fr := (fun _ _ => False)) (own := RcG) rfl (by decide) rfl (Nat.le_of_ble_eq_true rfl) rfl ?_
  intro p e s m args below meth c A C hr _
  refine v_iload_n C 1 dG_isPath_0 rfl rfl ?_
  refine v_cSr0 (As := [.int row]) C (c_rSize l D cI cZ cJ row) (va_cwS 1 C.2.2.2.2.1 gG_isPath_R_size rfl rfl rfl (by decide +kernel) ⟨Nat.le_of_ble_eq_true rfl, Nat.le_of_ble_eq_true rfl⟩) rfl rfl (Nat.le_of_ble_eq_true rfl) ⟨Nat.zero_le _, Nat.zero_le _⟩ dG_isPath_1 ?_
  refine v_top (y := nI (szN row)) (rSize_n row) ?_
  refine v_istore_n C (lv' := [(0, .ref (b 1)), (1, .int row), (2, .int (nI (szN row)))]) [1, 2, 0] dG_isPath_4 rfl (by decide) rfl ?_
  have hsz := szN_le row
  refine v_iconst C (v := 0) dG_isPath_5 (by decide) ?_
  refine v_istore_n C (lv' := [(0, .ref (b 1)), (1, .int row), (2, .int (nI (szN row))), (3, .int 0)]) [1, 2, 3, 0] dG_isPath_6 rfl (by decide) rfl ?_
  refine v_iconst C (v := 0) dG_isPath_7 (by decide) ?_
  refine v_istore C (lv' := [(0, .ref (b 1)), (1, .int row), (2, .int (nI (szN row))), (3, .int 0), (4, .int 0)]) [1, 2, 3, 4, 0] dG_isPath_8 (by decide) rfl ?_
  refine v_loop1 (szN row) (fun (i : Nat) (seen : Int32) => wG cI b F a) (fun (i : Nat) (seen : Int32) => [(0, .ref (b 1)), (1, .int row), (2, .int (nI (szN row))), (3, .int seen), (4, .int (nI i))]) (fun (ki i : Nat) (seen : Int32) => gIsPathL F a P row ki i seen = gIsPath F a P row) ?_ ?_ (szN row) 0 0 (by omega) (by unfold gIsPath; rfl)
  · skip
    intro ki i seen hki hIi ihi
    have hIi : gIsPathL F a P row (ki + 1) i seen = gIsPath F a P row := hIi
    refine v_as (w' := wG cI b F a) (lv' := [(0, .ref (b 1)), (1, .int row), (2, .int (nI (szN row))), (3, .int seen), (4, .int (nI i))]) rfl rfl ?_
    refine v_iload C 4 dG_isPath_10 rfl ?_
    refine v_iload_n C 2 dG_isPath_12 rfl rfl ?_
    refine v_icmp_ge C dG_isPath_13 (tgt := 91) (by decide) (fun h => absurd h (nI_ge (a := i) (b := szN row) (by omega) (by omega))) (fun _ => ?_)
    refine v_iload_n C 1 dG_isPath_16 rfl rfl ?_
    refine v_iload C 4 dG_isPath_17 rfl ?_
    refine v_cSr0 (As := [.int row, .int (nI i)]) C (c_rParty l D cI cZ cJ row (nI i)) (va_cwS 2 C.2.2.2.2.1 gG_isPath_R_party rfl rfl rfl (by decide +kernel) ⟨Nat.le_of_ble_eq_true rfl, Nat.le_of_ble_eq_true rfl⟩) rfl rfl (Nat.le_of_ble_eq_true rfl) ⟨Nat.zero_le _, Nat.zero_le _⟩ dG_isPath_19 ?_
    refine v_istore C (lv' := [(0, .ref (b 1)), (1, .int row), (2, .int (nI (szN row))), (3, .int seen), (4, .int (nI i)), (5, .int (rParty row (nI i)))]) [1, 2, 3, 4, 5, 0] dG_isPath_22 (by decide) rfl ?_
    refine v_aload_n C 0 dG_isPath_24 rfl rfl ?_
    refine v_iload C 5 dG_isPath_25 rfl ?_
    refine v_cVrF (As := [.int (rParty row (nI i))]) C (c_gHolds l D cI cZ cJ b F a (rParty row (nI i))) (cwV 1 C.2.2.2.2.1 gG_isPath_G_holds rfl rfl rfl (by decide +kernel) ⟨Nat.le_of_ble_eq_true rfl, Nat.le_of_ble_eq_true rfl⟩) 0 rfl (T := TcG) (N := 3) rfl rfl rfl (Nat.le_of_ble_eq_true rfl) ⟨Nat.zero_le _, Nat.zero_le _⟩ dG_isPath_27 ?_
    refine v_if_eq C dG_isPath_30 (tgt := 46) (by decide) (fun h1 => ?_) (fun h1 => ?_)
    · skip
      refine v_iconst C (v := 0) dG_isPath_46 (by decide) ?_
      refine v_istore C (lv' := [(0, .ref (b 1)), (1, .int row), (2, .int (nI (szN row))), (3, .int seen), (4, .int (nI i)), (5, .int (rParty row (nI i))), (6, .int 0)]) [1, 2, 3, 4, 5, 6, 0] dG_isPath_47 (by decide) rfl ?_
      refine v_iload C 6 dG_isPath_49 rfl ?_
      refine v_if_eq C dG_isPath_51 (tgt := 76) (by decide) (fun _ => ?_) (fun h => absurd h (by decide))
      refine v_iconst C (v := 0) dG_isPath_76 (by decide) ?_
      exact v_zrr C hr (by decide) (by rw [← hIi]; simp only [gIsPathL]; rw [if_pos h1]) dG_isPath_77
    · skip
      refine v_iload_n C 3 dG_isPath_33 rfl rfl ?_
      refine v_iload C 5 dG_isPath_34 rfl ?_
      refine v_ishr C dG_isPath_36 ?_
      refine v_iconst C (v := 1) dG_isPath_37 (by decide) ?_
      refine v_iand C dG_isPath_38 ?_
      refine v_if_ne C dG_isPath_39 (tgt := 46) (by decide) (fun h2 => ?_) (fun h2 => ?_)
      · skip
        refine v_iconst C (v := 0) dG_isPath_46 (by decide) ?_
        refine v_istore C (lv' := [(0, .ref (b 1)), (1, .int row), (2, .int (nI (szN row))), (3, .int seen), (4, .int (nI i)), (5, .int (rParty row (nI i))), (6, .int 0)]) [1, 2, 3, 4, 5, 6, 0] dG_isPath_47 (by decide) rfl ?_
        refine v_iload C 6 dG_isPath_49 rfl ?_
        refine v_if_eq C dG_isPath_51 (tgt := 76) (by decide) (fun _ => ?_) (fun h => absurd h (by decide))
        refine v_iconst C (v := 0) dG_isPath_76 (by decide) ?_
        exact v_zrr C hr (by decide) (by rw [← hIi]; simp only [gIsPathL]; rw [if_neg h1, if_neg h2]) dG_isPath_77
      · skip
        refine v_iconst C (v := 1) dG_isPath_42 (by decide) ?_
        refine v_goto C dG_isPath_43 (tgt := 47) (by decide) ?_
        refine v_istore C (lv' := [(0, .ref (b 1)), (1, .int row), (2, .int (nI (szN row))), (3, .int seen), (4, .int (nI i)), (5, .int (rParty row (nI i))), (6, .int 1)]) [1, 2, 3, 4, 5, 6, 0] dG_isPath_47 (by decide) rfl ?_
        refine v_iload C 6 dG_isPath_49 rfl ?_
        refine v_if_eq C dG_isPath_51 (tgt := 76) (by decide) (fun h => absurd h (by decide)) (fun _ => ?_)
        refine v_iload C 4 dG_isPath_54 rfl ?_
        refine v_if_le C dG_isPath_56 (tgt := 78) (by decide) (fun h3 => ?_) (fun h3 => ?_)
        · skip
          refine v_iload_n C 3 dG_isPath_78 rfl rfl ?_
          refine v_iconst C (v := 1) dG_isPath_79 (by decide) ?_
          refine v_iload C 5 dG_isPath_80 rfl ?_
          refine v_ishl C dG_isPath_82 ?_
          refine v_ior C dG_isPath_83 ?_
          refine v_istore_n C (lv' := [(0, .ref (b 1)), (1, .int row), (2, .int (nI (szN row))), (3, .int (seen ||| ((1 : Int32) <<< ((rParty row (nI i)) &&& 31)))), (4, .int (nI i)), (5, .int (rParty row (nI i))), (6, .int 1)]) [1, 2, 3, 0, 4, 5, 6] dG_isPath_84 rfl (by decide) rfl ?_
          refine v_iinc C (v := nI (i + 1)) (lv' := [(0, .ref (b 1)), (1, .int row), (2, .int (nI (szN row))), (3, .int (seen ||| ((1 : Int32) <<< ((rParty row (nI i)) &&& 31)))), (4, .int (nI (i + 1))), (5, .int (rParty row (nI i))), (6, .int 1)]) 4 [1, 2, 3, 4, 0, 5, 6] dG_isPath_85 rfl (nI_1 i) (by decide) rfl ?_
          refine v_goto C dG_isPath_88 (tgt := 10) (by decide) ?_
          refine v_loc (lv' := [(0, .ref (b 1)), (1, .int row), (2, .int (nI (szN row))), (3, .int (seen ||| ((1 : Int32) <<< ((rParty row (nI i)) &&& 31)))), (4, .int (nI (i + 1)))]) [0, 1, 2, 3, 4] rfl ?_
          have hL : gIsPathL F a P row ki (i + 1) (seen ||| ((1 : Int32) <<< ((rParty row (nI i)) &&& 31))) = gIsPath F a P row := (by rw [← hIi]; simp only [gIsPathL]; rw [if_neg h1, if_pos h2, if_pos h3])
          exact ihi (seen ||| ((1 : Int32) <<< ((rParty row (nI i)) &&& 31))) hL
        · skip
          refine v_aload_n C 0 dG_isPath_59 rfl rfl ?_
          refine v_iload_n C 1 dG_isPath_60 rfl rfl ?_
          refine v_iload C 4 dG_isPath_61 rfl ?_
          refine v_iconst C (v := 1) dG_isPath_63 (by decide) ?_
          refine v_isub C dG_isPath_64 ?_
          refine v_cSr0 (As := [.int row, .int ((nI i) - (1 : Int32))]) C (c_rParty l D cI cZ cJ row ((nI i) - (1 : Int32))) (va_cwS 2 C.2.2.2.2.1 gG_isPath_R_party rfl rfl rfl (by decide +kernel) ⟨Nat.le_of_ble_eq_true rfl, Nat.le_of_ble_eq_true rfl⟩) rfl rfl (Nat.le_of_ble_eq_true rfl) ⟨Nat.zero_le _, Nat.zero_le _⟩ dG_isPath_65 ?_
          refine v_iload C 5 dG_isPath_68 rfl ?_
          refine v_cVrF (As := [.int (rParty row ((nI i) - (1 : Int32))), .int (rParty row (nI i))]) C (c_gJoins l D cI cZ cJ b F a P (rParty row ((nI i) - (1 : Int32))) (rParty row (nI i)) hg hp6) (cwV 2 C.2.2.2.2.1 gG_isPath_G_joins rfl rfl rfl (by decide +kernel) ⟨Nat.le_of_ble_eq_true rfl, Nat.le_of_ble_eq_true rfl⟩) 0 rfl (T := TcG) (N := 3) rfl rfl rfl (Nat.le_of_ble_eq_true rfl) ⟨Nat.zero_le _, Nat.zero_le _⟩ dG_isPath_70 ?_
          refine v_if_ne C dG_isPath_73 (tgt := 78) (by decide) (fun h4 => ?_) (fun h4 => ?_)
          · skip
            refine v_iload_n C 3 dG_isPath_78 rfl rfl ?_
            refine v_iconst C (v := 1) dG_isPath_79 (by decide) ?_
            refine v_iload C 5 dG_isPath_80 rfl ?_
            refine v_ishl C dG_isPath_82 ?_
            refine v_ior C dG_isPath_83 ?_
            refine v_istore_n C (lv' := [(0, .ref (b 1)), (1, .int row), (2, .int (nI (szN row))), (3, .int (seen ||| ((1 : Int32) <<< ((rParty row (nI i)) &&& 31)))), (4, .int (nI i)), (5, .int (rParty row (nI i))), (6, .int 1)]) [1, 2, 3, 0, 4, 5, 6] dG_isPath_84 rfl (by decide) rfl ?_
            refine v_iinc C (v := nI (i + 1)) (lv' := [(0, .ref (b 1)), (1, .int row), (2, .int (nI (szN row))), (3, .int (seen ||| ((1 : Int32) <<< ((rParty row (nI i)) &&& 31)))), (4, .int (nI (i + 1))), (5, .int (rParty row (nI i))), (6, .int 1)]) 4 [1, 2, 3, 4, 0, 5, 6] dG_isPath_85 rfl (nI_1 i) (by decide) rfl ?_
            refine v_goto C dG_isPath_88 (tgt := 10) (by decide) ?_
            refine v_loc (lv' := [(0, .ref (b 1)), (1, .int row), (2, .int (nI (szN row))), (3, .int (seen ||| ((1 : Int32) <<< ((rParty row (nI i)) &&& 31)))), (4, .int (nI (i + 1)))]) [0, 1, 2, 3, 4] rfl ?_
            have hL : gIsPathL F a P row ki (i + 1) (seen ||| ((1 : Int32) <<< ((rParty row (nI i)) &&& 31))) = gIsPath F a P row := (by rw [← hIi]; simp only [gIsPathL]; rw [if_neg h1, if_pos h2, if_neg h3, if_neg h4])
            exact ihi (seen ||| ((1 : Int32) <<< ((rParty row (nI i)) &&& 31))) hL
          · skip
            refine v_iconst C (v := 0) dG_isPath_76 (by decide) ?_
            exact v_zrr C hr (by decide) (by rw [← hIi]; simp only [gIsPathL]; rw [if_neg h1, if_pos h2, if_neg h3, if_pos h4]) dG_isPath_77
  · skip
    intro seen hIi
    have hIi : gIsPathL F a P row 0 (szN row) seen = gIsPath F a P row := hIi
    refine v_as (w' := wG cI b F a) (lv' := [(0, .ref (b 1)), (1, .int row), (2, .int (nI (szN row))), (3, .int seen), (4, .int (nI (szN row)))]) rfl rfl ?_
    refine v_iload C 4 dG_isPath_10 rfl ?_
    refine v_iload_n C 2 dG_isPath_12 rfl rfl ?_
    refine v_icmp_ge C dG_isPath_13 (tgt := 91) (by decide) (fun _ => ?_) (fun h => absurd (nI_le (a := szN row) (b := szN row) (by omega) (by omega)) h)
    refine v_iload_n C 2 dG_isPath_91 rfl rfl ?_
    refine v_if_le C dG_isPath_92 (tgt := 99) (by decide) (fun h5 => ?_) (fun h5 => ?_)
    · skip
      refine v_iconst C (v := 0) dG_isPath_99 (by decide) ?_
      exact v_zrr C hr (by decide) (by rw [← hIi]; simp only [gIsPathL]; rw [if_pos h5]) dG_isPath_100
    · skip
      refine v_iconst C (v := 1) dG_isPath_95 (by decide) ?_
      refine v_goto C dG_isPath_96 (tgt := 100) (by decide) ?_
      exact v_zrr C hr (by decide) (by rw [← hIi]; simp only [gIsPathL]; rw [if_neg h5]) dG_isPath_100
set_option maxHeartbeats 4000000 in
set_option maxRecDepth 100000 in
theorem c_gReach (l : Launch) (D : va_G) (cI cZ cJ : ClassId) (b : Nat → Nat) (F : FT) (a : AT) (P : Nat) (x : Int32) (hg : F 20 = nI P) (hp6 : P ≤ 6) (hP1 : 1 ≤ P) : Kr l yG_reach wG_reach ({ frames := 0, cells := 0, slots := 0, locals := 0 } : Room) D vwCl (tyG cI cZ cJ) [.ref (b 1), .int x] (wG cI b F a) (gReach F a P x) := by
  intro sz
  refine v_ent (cc := bG_reach) (maxL := 5) (ret := (some .int)) (Qc := (fun _ _ st oc t => oc = .returned (some (.int (gReach F a P x))) ∧ t.heap = st.heap)) (fr := (fun _ _ => False)) (own := RcG) rfl (by decide) rfl (Nat.le_of_ble_eq_true rfl) rfl ?_
  intro p e s m args below meth c A C hr _
  refine v_iconst C (v := 1) dG_reach_0 (by decide) ?_
  refine v_iload_n C 1 dG_reach_1 rfl rfl ?_
  refine v_ishl C dG_reach_2 ?_
  refine v_istore_n C (lv' := [(0, .ref (b 1)), (1, .int x), (2, .int ((1 : Int32) <<< (x &&& 31)))]) [1, 2, 0] dG_reach_3 rfl (by decide) rfl ?_
  refine v_iconst C (v := 1) dG_reach_4 (by decide) ?_
  refine v_istore_n C (lv' := [(0, .ref (b 1)), (1, .int x), (2, .int ((1 : Int32) <<< (x &&& 31))), (3, .int 1)]) [1, 2, 3, 0] dG_reach_5 rfl (by decide) rfl ?_
  refine v_loop1 P (fun (rr : Nat) (u : Int32) => wG cI b F a) (fun (rr : Nat) (u : Int32) => [(0, .ref (b 1)), (1, .int x), (2, .int u), (3, .int (nI rr))]) (fun (krr rr : Nat) (u : Int32) => gReachL F a P x krr rr u = gReachL F a P x (P - 1) 1 ((1 : Int32) <<< (x &&& 31))) ?_ ?_ (P - 1) 1 ((1 : Int32) <<< (x &&& 31)) (by omega) rfl
  · skip
    intro krr rr u hkrr hIrr ihrr
    have hIrr : gReachL F a P x (krr + 1) rr u = gReachL F a P x (P - 1) 1 ((1 : Int32) <<< (x &&& 31)) := hIrr
    refine v_as (w' := wG cI b F a) (lv' := [(0, .ref (b 1)), (1, .int x), (2, .int u), (3, .int (nI rr))]) rfl rfl ?_
    refine v_iload_n C 3 dG_reach_6 rfl rfl ?_
    refine v_aload_n C 0 dG_reach_7 rfl rfl ?_
    refine v_get C (T := TcG) (N := 3) (ci := 1) (v := .int (F 20)) inG_reach_G 0 rfl rfl 0 (by decide) (by decide +kernel) rfl rfl dG_reach_8 ?_
    refine v_top (y := nI P) hg ?_
    refine v_icmp_ge C dG_reach_11 (tgt := 58) (by decide) (fun h => absurd h (nI_ge (a := rr) (b := P) (by omega) (by omega))) (fun _ => ?_)
    refine v_iconst C (v := 0) dG_reach_14 (by decide) ?_
    refine v_istore C (lv' := [(0, .ref (b 1)), (1, .int x), (2, .int u), (3, .int (nI rr)), (4, .int 0)]) [1, 2, 3, 4, 0] dG_reach_15 (by decide) rfl ?_
    refine v_loop1 P (fun (qq : Nat) (v : Int32) => wG cI b F a) (fun (qq : Nat) (v : Int32) => [(0, .ref (b 1)), (1, .int x), (2, .int v), (3, .int (nI rr)), (4, .int (nI qq))]) (fun (kqq qq : Nat) (v : Int32) => gReachI F a P x kqq qq v = gReachI F a P x P 0 u) ?_ ?_ P 0 u (by omega) rfl
    · skip
      intro kqq qq v hkqq hIqq ihqq
      have hIqq : gReachI F a P x (kqq + 1) qq v = gReachI F a P x P 0 u := hIqq
      refine v_as (w' := wG cI b F a) (lv' := [(0, .ref (b 1)), (1, .int x), (2, .int v), (3, .int (nI rr)), (4, .int (nI qq))]) rfl rfl ?_
      refine v_iload C 4 dG_reach_17 rfl ?_
      refine v_aload_n C 0 dG_reach_19 rfl rfl ?_
      refine v_get C (T := TcG) (N := 3) (ci := 1) (v := .int (F 20)) inG_reach_G 0 rfl rfl 0 (by decide) (by decide +kernel) rfl rfl dG_reach_20 ?_
      refine v_top (y := nI P) hg ?_
      refine v_icmp_ge C dG_reach_23 (tgt := 52) (by decide) (fun h => absurd h (nI_ge (a := qq) (b := P) (by omega) (by omega))) (fun _ => ?_)
      refine v_iload_n C 2 dG_reach_26 rfl rfl ?_
      refine v_iload C 4 dG_reach_27 rfl ?_
      refine v_ishr C dG_reach_29 ?_
      refine v_iconst C (v := 1) dG_reach_30 (by decide) ?_
      refine v_iand C dG_reach_31 ?_
      refine v_iconst C (v := 1) dG_reach_32 (by decide) ?_
      refine v_icmp_ne C dG_reach_33 (tgt := 46) (by decide) (fun h1 => ?_) (fun h1 => ?_)
      · skip
        refine v_iinc C (v := nI (qq + 1)) (lv' := [(0, .ref (b 1)), (1, .int x), (2, .int v), (3, .int (nI rr)), (4, .int (nI (qq + 1)))]) 4 [1, 2, 3, 4, 0] dG_reach_46 rfl (nI_1 qq) (by decide) rfl ?_
        refine v_goto C dG_reach_49 (tgt := 17) (by decide) ?_
        have hL : gReachI F a P x kqq (qq + 1) v = gReachI F a P x P 0 u := (by rw [← hIqq]; simp only [gReachI]; rw [if_neg h1])
        exact ihqq v hL
      · skip
        refine v_iload_n C 2 dG_reach_36 rfl rfl ?_
        refine v_aload_n C 0 dG_reach_37 rfl rfl ?_
        refine v_get C (T := TcG) (N := 3) (ci := 1) (v := .ref (b 7)) inG_reach_G 0 rfl rfl 2 (by decide) (by decide +kernel) rfl rfl dG_reach_38 ?_
        refine v_iload C 4 dG_reach_41 rfl ?_
        refine v_iald C 1 0 (f := a 22) (y := (a 22) qq) (j := qq) rfl rfl (nI_clamp (by omega)) rfl (vp_in_nI (by omega) (by decide)) dG_reach_43 ?_
        refine v_ior C dG_reach_44 ?_
        refine v_istore_n C (lv' := [(0, .ref (b 1)), (1, .int x), (2, .int (v ||| ((a 22) qq))), (3, .int (nI rr)), (4, .int (nI qq))]) [1, 2, 0, 3, 4] dG_reach_45 rfl (by decide) rfl ?_
        refine v_iinc C (v := nI (qq + 1)) (lv' := [(0, .ref (b 1)), (1, .int x), (2, .int (v ||| ((a 22) qq))), (3, .int (nI rr)), (4, .int (nI (qq + 1)))]) 4 [1, 2, 3, 4, 0] dG_reach_46 rfl (nI_1 qq) (by decide) rfl ?_
        refine v_goto C dG_reach_49 (tgt := 17) (by decide) ?_
        have hL : gReachI F a P x kqq (qq + 1) (v ||| ((a 22) qq)) = gReachI F a P x P 0 u := (by rw [← hIqq]; simp only [gReachI]; rw [if_pos h1])
        exact ihqq (v ||| ((a 22) qq)) hL
    · skip
      intro v hIqq
      have hIqq : gReachI F a P x 0 P v = gReachI F a P x P 0 u := hIqq
      refine v_as (w' := wG cI b F a) (lv' := [(0, .ref (b 1)), (1, .int x), (2, .int v), (3, .int (nI rr)), (4, .int (nI P))]) rfl rfl ?_
      have hIqq : v = gReachI F a P x P 0 u := hIqq
      subst hIqq
      refine v_iload C 4 dG_reach_17 rfl ?_
      refine v_aload_n C 0 dG_reach_19 rfl rfl ?_
      refine v_get C (T := TcG) (N := 3) (ci := 1) (v := .int (F 20)) inG_reach_G 0 rfl rfl 0 (by decide) (by decide +kernel) rfl rfl dG_reach_20 ?_
      refine v_top (y := nI P) hg ?_
      refine v_icmp_ge C dG_reach_23 (tgt := 52) (by decide) (fun _ => ?_) (fun h => absurd (nI_le (a := P) (b := P) (by omega) (by omega)) h)
      refine v_iinc C (v := nI (rr + 1)) (lv' := [(0, .ref (b 1)), (1, .int x), (2, .int (gReachI F a P x P 0 u)), (3, .int (nI (rr + 1))), (4, .int (nI P))]) 3 [1, 2, 3, 0, 4] dG_reach_52 rfl (nI_1 rr) (by decide) rfl ?_
      refine v_goto C dG_reach_55 (tgt := 6) (by decide) ?_
      refine v_loc (lv' := [(0, .ref (b 1)), (1, .int x), (2, .int (gReachI F a P x P 0 u)), (3, .int (nI (rr + 1)))]) [0, 1, 2, 3] rfl ?_
      have hL : gReachL F a P x krr (rr + 1) (gReachI F a P x P 0 u) = gReachL F a P x (P - 1) 1 ((1 : Int32) <<< (x &&& 31)) := (by rw [← hIrr]; simp only [gReachL])
      exact ihrr (gReachI F a P x P 0 u) hL
  · skip
    intro u hIrr
    have hIrr : gReachL F a P x 0 P u = gReachL F a P x (P - 1) 1 ((1 : Int32) <<< (x &&& 31)) := hIrr
    refine v_as (w' := wG cI b F a) (lv' := [(0, .ref (b 1)), (1, .int x), (2, .int u), (3, .int (nI P))]) rfl rfl ?_
    have hIrr : u = gReachL F a P x (P - 1) 1 ((1 : Int32) <<< (x &&& 31)) := hIrr
    subst hIrr
    refine v_iload_n C 3 dG_reach_6 rfl rfl ?_
    refine v_aload_n C 0 dG_reach_7 rfl rfl ?_
    refine v_get C (T := TcG) (N := 3) (ci := 1) (v := .int (F 20)) inG_reach_G 0 rfl rfl 0 (by decide) (by decide +kernel) rfl rfl dG_reach_8 ?_
    refine v_top (y := nI P) hg ?_
    refine v_icmp_ge C dG_reach_11 (tgt := 58) (by decide) (fun _ => ?_) (fun h => absurd (nI_le (a := P) (b := P) (by omega) (by omega)) h)
    refine v_iload_n C 2 dG_reach_58 rfl rfl ?_
    exact v_irr C hr (by unfold gReach; rfl) dG_reach_59
set_option maxHeartbeats 4000000 in
set_option maxRecDepth 100000 in
theorem c_gIsStrong (l : Launch) (D : va_G) (cI cZ cJ : ClassId) (b : Nat → Nat) (F : FT) (a : AT) (P : Nat) (hg : F 20 = nI P) (hp6 : P ≤ 6) (hP1 : 1 ≤ P) : Kr l yG_isStrong wG_isStrong ({ frames := 1, cells := 0, slots := 0, locals := 24 } : Room) D vwCl (tyG cI cZ cJ) [.ref (b 1)] (wG cI b F a) (gIsStrong F a P) := by
  intro sz
  refine v_ent (cc := bG_isStrong) (maxL := 2) (ret := (some .boolean)) (Qc := (fun _ _ st oc t => oc = .returned (some (.int (gIsStrong F a P))) ∧ t.heap = st.heap)) (fr := (fun _ _ => False)) (own := RcG) rfl (by decide) rfl (Nat.le_of_ble_eq_true rfl) rfl ?_
  intro p e s m args below meth c A C hr _
  refine v_iconst C (v := 0) dG_isStrong_0 (by decide) ?_
  refine v_istore_n C (lv' := [(0, .ref (b 1)), (1, .int 0)]) [1, 0] dG_isStrong_1 rfl (by decide) rfl ?_
  refine v_loop0 P (fun (i : Nat) => wG cI b F a) (fun (i : Nat) => [(0, .ref (b 1)), (1, .int (nI i))]) (fun (ki i : Nat) => gIsStrongL F a P ki i = gIsStrong F a P) ?_ ?_ P 0  (by omega) (by unfold gIsStrong; rfl)
  · skip
    intro ki i hki hIi ihi
    have hIi : gIsStrongL F a P (ki + 1) i = gIsStrong F a P := hIi
    refine v_as (w' := wG cI b F a) (lv' := [(0, .ref (b 1)), (1, .int (nI i))]) rfl rfl ?_
    refine v_iload_n C 1 dG_isStrong_2 rfl rfl ?_
    refine v_aload_n C 0 dG_isStrong_3 rfl rfl ?_
    refine v_get C (T := TcG) (N := 3) (ci := 1) (v := .int (F 20)) inG_isStrong_G 0 rfl rfl 0 (by decide) (by decide +kernel) rfl rfl dG_isStrong_4 ?_
    refine v_top (y := nI P) hg ?_
    refine v_icmp_ge C dG_isStrong_7 (tgt := 30) (by decide) (fun h => absurd h (nI_ge (a := i) (b := P) (by omega) (by omega))) (fun _ => ?_)
    refine v_aload_n C 0 dG_isStrong_10 rfl rfl ?_
    refine v_iload_n C 1 dG_isStrong_11 rfl rfl ?_
    refine v_cVrF (As := [.int (nI i)]) C (c_gReach l D cI cZ cJ b F a P (nI i) hg hp6 hP1) (cwV 1 C.2.2.2.2.1 gG_isStrong_G_reach rfl rfl rfl (by decide +kernel) ⟨Nat.le_of_ble_eq_true rfl, Nat.le_of_ble_eq_true rfl⟩) 0 rfl (T := TcG) (N := 3) rfl rfl rfl (Nat.le_of_ble_eq_true rfl) ⟨Nat.zero_le _, Nat.zero_le _⟩ dG_isStrong_12 ?_
    refine v_aload_n C 0 dG_isStrong_15 rfl rfl ?_
    refine v_get C (T := TcG) (N := 3) (ci := 1) (v := .int (F 21)) inG_isStrong_G 0 rfl rfl 1 (by decide) (by decide +kernel) rfl rfl dG_isStrong_16 ?_
    refine v_icmp_eq C dG_isStrong_19 (tgt := 24) (by decide) (fun h1 => ?_) (fun h1 => ?_)
    · skip
      refine v_iinc C (v := nI (i + 1)) (lv' := [(0, .ref (b 1)), (1, .int (nI (i + 1)))]) 1 [1, 0] dG_isStrong_24 rfl (nI_1 i) (by decide) rfl ?_
      refine v_goto C dG_isStrong_27 (tgt := 2) (by decide) ?_
      have hL : gIsStrongL F a P ki (i + 1) = gIsStrong F a P := (by rw [← hIi]; simp only [gIsStrongL]; rw [if_pos h1])
      exact ihi  hL
    · skip
      refine v_iconst C (v := 0) dG_isStrong_22 (by decide) ?_
      exact v_zrr C hr (by decide) (by rw [← hIi]; simp only [gIsStrongL]; rw [if_neg h1]) dG_isStrong_23
  · skip
    intro hIi
    have hIi : gIsStrongL F a P 0 P = gIsStrong F a P := hIi
    refine v_as (w' := wG cI b F a) (lv' := [(0, .ref (b 1)), (1, .int (nI P))]) rfl rfl ?_
    refine v_iload_n C 1 dG_isStrong_2 rfl rfl ?_
    refine v_aload_n C 0 dG_isStrong_3 rfl rfl ?_
    refine v_get C (T := TcG) (N := 3) (ci := 1) (v := .int (F 20)) inG_isStrong_G 0 rfl rfl 0 (by decide) (by decide +kernel) rfl rfl dG_isStrong_4 ?_
    refine v_top (y := nI P) hg ?_
    refine v_icmp_ge C dG_isStrong_7 (tgt := 30) (by decide) (fun _ => ?_) (fun h => absurd (nI_le (a := P) (b := P) (by omega) (by omega)) h)
    refine v_iconst C (v := 1) dG_isStrong_30 (by decide) ?_
    exact v_zrr C hr (by decide) (by rw [← hIi]; simp only [gIsStrongL]) dG_isStrong_31
set_option maxHeartbeats 4000000 in
set_option maxRecDepth 100000 in
theorem c_gEnds (l : Launch) (D : va_G) (cI cZ cJ : ClassId) (b : Nat → Nat) (F : FT) (a : AT) (P : Nat) (x : Int32) (hg : F 20 = nI P) (hp6 : P ≤ 6) : Kr l yG_endsAllWalks wG_endsAllWalks ({ frames := 0, cells := 0, slots := 0, locals := 0 } : Room) D vwCl (tyG cI cZ cJ) [.ref (b 1), .int x] (wG cI b F a) (gEnds F a P x) := by
  intro sz
  refine v_ent (cc := bG_endsAllWalks) (maxL := 5) (ret := (some .boolean)) (Qc := (fun _ _ st oc t => oc = .returned (some (.int (gEnds F a P x))) ∧ t.heap = st.heap)) (fr := (fun _ _ => False)) (own := RcG) rfl (by decide) rfl (Nat.le_of_ble_eq_true rfl) rfl ?_
  intro p e s m args below meth c A C hr _
  refine v_iload_n C 1 dG_endsAllWalks_0 rfl rfl ?_
  refine v_istore_n C (lv' := [(0, .ref (b 1)), (1, .int x), (2, .int x)]) [1, 2, 0] dG_endsAllWalks_1 rfl (by decide) rfl ?_
  refine v_iconst C (v := 0) dG_endsAllWalks_2 (by decide) ?_
  refine v_istore_n C (lv' := [(0, .ref (b 1)), (1, .int x), (2, .int x), (3, .int 0)]) [1, 2, 3, 0] dG_endsAllWalks_3 rfl (by decide) rfl ?_
  refine v_loop1 P (fun (rr : Nat) (u : Int32) => wG cI b F a) (fun (rr : Nat) (u : Int32) => [(0, .ref (b 1)), (1, .int x), (2, .int u), (3, .int (nI rr))]) (fun (krr rr : Nat) (u : Int32) => gEndsL F a P x krr rr u = gEndsL F a P x P 0 x) ?_ ?_ P 0 x (by omega) rfl
  · skip
    intro krr rr u hkrr hIrr ihrr
    have hIrr : gEndsL F a P x (krr + 1) rr u = gEndsL F a P x P 0 x := hIrr
    refine v_as (w' := wG cI b F a) (lv' := [(0, .ref (b 1)), (1, .int x), (2, .int u), (3, .int (nI rr))]) rfl rfl ?_
    refine v_iload_n C 3 dG_endsAllWalks_4 rfl rfl ?_
    refine v_aload_n C 0 dG_endsAllWalks_5 rfl rfl ?_
    refine v_get C (T := TcG) (N := 3) (ci := 1) (v := .int (F 20)) inG_endsAllWalks_G 0 rfl rfl 0 (by decide) (by decide +kernel) rfl rfl dG_endsAllWalks_6 ?_
    refine v_top (y := nI P) hg ?_
    refine v_icmp_ge C dG_endsAllWalks_9 (tgt := 57) (by decide) (fun h => absurd h (nI_ge (a := rr) (b := P) (by omega) (by omega))) (fun _ => ?_)
    refine v_iconst C (v := 0) dG_endsAllWalks_12 (by decide) ?_
    refine v_istore C (lv' := [(0, .ref (b 1)), (1, .int x), (2, .int u), (3, .int (nI rr)), (4, .int 0)]) [1, 2, 3, 4, 0] dG_endsAllWalks_13 (by decide) rfl ?_
    refine v_loop1 P (fun (qq : Nat) (v : Int32) => wG cI b F a) (fun (qq : Nat) (v : Int32) => [(0, .ref (b 1)), (1, .int x), (2, .int v), (3, .int (nI rr)), (4, .int (nI qq))]) (fun (kqq qq : Nat) (v : Int32) => gEndsI F a P x kqq qq v = gEndsI F a P x P 0 u) ?_ ?_ P 0 u (by omega) rfl
    · skip
      intro kqq qq v hkqq hIqq ihqq
      have hIqq : gEndsI F a P x (kqq + 1) qq v = gEndsI F a P x P 0 u := hIqq
      refine v_as (w' := wG cI b F a) (lv' := [(0, .ref (b 1)), (1, .int x), (2, .int v), (3, .int (nI rr)), (4, .int (nI qq))]) rfl rfl ?_
      refine v_iload C 4 dG_endsAllWalks_15 rfl ?_
      refine v_aload_n C 0 dG_endsAllWalks_17 rfl rfl ?_
      refine v_get C (T := TcG) (N := 3) (ci := 1) (v := .int (F 20)) inG_endsAllWalks_G 0 rfl rfl 0 (by decide) (by decide +kernel) rfl rfl dG_endsAllWalks_18 ?_
      refine v_top (y := nI P) hg ?_
      refine v_icmp_ge C dG_endsAllWalks_21 (tgt := 51) (by decide) (fun h => absurd h (nI_ge (a := qq) (b := P) (by omega) (by omega))) (fun _ => ?_)
      refine v_aload_n C 0 dG_endsAllWalks_24 rfl rfl ?_
      refine v_get C (T := TcG) (N := 3) (ci := 1) (v := .ref (b 7)) inG_endsAllWalks_G 0 rfl rfl 2 (by decide) (by decide +kernel) rfl rfl dG_endsAllWalks_25 ?_
      refine v_iload C 4 dG_endsAllWalks_28 rfl ?_
      refine v_iald C 1 0 (f := a 22) (y := (a 22) qq) (j := qq) rfl rfl (nI_clamp (by omega)) rfl (vp_in_nI (by omega) (by decide)) dG_endsAllWalks_30 ?_
      refine v_iload_n C 2 dG_endsAllWalks_31 rfl rfl ?_
      refine v_iand C dG_endsAllWalks_32 ?_
      refine v_if_ne C dG_endsAllWalks_33 (tgt := 45) (by decide) (fun h1 => ?_) (fun h1 => ?_)
      · skip
        refine v_iinc C (v := nI (qq + 1)) (lv' := [(0, .ref (b 1)), (1, .int x), (2, .int v), (3, .int (nI rr)), (4, .int (nI (qq + 1)))]) 4 [1, 2, 3, 4, 0] dG_endsAllWalks_45 rfl (nI_1 qq) (by decide) rfl ?_
        refine v_goto C dG_endsAllWalks_48 (tgt := 15) (by decide) ?_
        have hL : gEndsI F a P x kqq (qq + 1) v = gEndsI F a P x P 0 u := (by rw [← hIqq]; simp only [gEndsI]; rw [if_neg h1])
        exact ihqq v hL
      · skip
        refine v_iload_n C 2 dG_endsAllWalks_36 rfl rfl ?_
        refine v_iconst C (v := 1) dG_endsAllWalks_37 (by decide) ?_
        refine v_iload C 4 dG_endsAllWalks_38 rfl ?_
        refine v_ishl C dG_endsAllWalks_40 ?_
        refine v_iconst C (v := (-1)) dG_endsAllWalks_41 (by decide) ?_
        refine v_ixor C dG_endsAllWalks_42 ?_
        refine v_iand C dG_endsAllWalks_43 ?_
        refine v_istore_n C (lv' := [(0, .ref (b 1)), (1, .int x), (2, .int (v &&& (((1 : Int32) <<< ((nI qq) &&& 31)) ^^^ ((-1) : Int32)))), (3, .int (nI rr)), (4, .int (nI qq))]) [1, 2, 0, 3, 4] dG_endsAllWalks_44 rfl (by decide) rfl ?_
        refine v_iinc C (v := nI (qq + 1)) (lv' := [(0, .ref (b 1)), (1, .int x), (2, .int (v &&& (((1 : Int32) <<< ((nI qq) &&& 31)) ^^^ ((-1) : Int32)))), (3, .int (nI rr)), (4, .int (nI (qq + 1)))]) 4 [1, 2, 3, 4, 0] dG_endsAllWalks_45 rfl (nI_1 qq) (by decide) rfl ?_
        refine v_goto C dG_endsAllWalks_48 (tgt := 15) (by decide) ?_
        have hL : gEndsI F a P x kqq (qq + 1) (v &&& (((1 : Int32) <<< ((nI qq) &&& 31)) ^^^ ((-1) : Int32))) = gEndsI F a P x P 0 u := (by rw [← hIqq]; simp only [gEndsI]; rw [if_pos h1])
        exact ihqq (v &&& (((1 : Int32) <<< ((nI qq) &&& 31)) ^^^ ((-1) : Int32))) hL
    · skip
      intro v hIqq
      have hIqq : gEndsI F a P x 0 P v = gEndsI F a P x P 0 u := hIqq
      refine v_as (w' := wG cI b F a) (lv' := [(0, .ref (b 1)), (1, .int x), (2, .int v), (3, .int (nI rr)), (4, .int (nI P))]) rfl rfl ?_
      have hIqq : v = gEndsI F a P x P 0 u := hIqq
      subst hIqq
      refine v_iload C 4 dG_endsAllWalks_15 rfl ?_
      refine v_aload_n C 0 dG_endsAllWalks_17 rfl rfl ?_
      refine v_get C (T := TcG) (N := 3) (ci := 1) (v := .int (F 20)) inG_endsAllWalks_G 0 rfl rfl 0 (by decide) (by decide +kernel) rfl rfl dG_endsAllWalks_18 ?_
      refine v_top (y := nI P) hg ?_
      refine v_icmp_ge C dG_endsAllWalks_21 (tgt := 51) (by decide) (fun _ => ?_) (fun h => absurd (nI_le (a := P) (b := P) (by omega) (by omega)) h)
      refine v_iinc C (v := nI (rr + 1)) (lv' := [(0, .ref (b 1)), (1, .int x), (2, .int (gEndsI F a P x P 0 u)), (3, .int (nI (rr + 1))), (4, .int (nI P))]) 3 [1, 2, 3, 0, 4] dG_endsAllWalks_51 rfl (nI_1 rr) (by decide) rfl ?_
      refine v_goto C dG_endsAllWalks_54 (tgt := 4) (by decide) ?_
      refine v_loc (lv' := [(0, .ref (b 1)), (1, .int x), (2, .int (gEndsI F a P x P 0 u)), (3, .int (nI (rr + 1)))]) [0, 1, 2, 3] rfl ?_
      have hL : gEndsL F a P x krr (rr + 1) (gEndsI F a P x P 0 u) = gEndsL F a P x P 0 x := (by rw [← hIrr]; simp only [gEndsL])
      exact ihrr (gEndsI F a P x P 0 u) hL
  · skip
    intro u hIrr
    have hIrr : gEndsL F a P x 0 P u = gEndsL F a P x P 0 x := hIrr
    refine v_as (w' := wG cI b F a) (lv' := [(0, .ref (b 1)), (1, .int x), (2, .int u), (3, .int (nI P))]) rfl rfl ?_
    have hIrr : u = gEndsL F a P x P 0 x := hIrr
    subst hIrr
    refine v_iload_n C 3 dG_endsAllWalks_4 rfl rfl ?_
    refine v_aload_n C 0 dG_endsAllWalks_5 rfl rfl ?_
    refine v_get C (T := TcG) (N := 3) (ci := 1) (v := .int (F 20)) inG_endsAllWalks_G 0 rfl rfl 0 (by decide) (by decide +kernel) rfl rfl dG_endsAllWalks_6 ?_
    refine v_top (y := nI P) hg ?_
    refine v_icmp_ge C dG_endsAllWalks_9 (tgt := 57) (by decide) (fun _ => ?_) (fun h => absurd (nI_le (a := P) (b := P) (by omega) (by omega)) h)
    refine v_iload_n C 2 dG_endsAllWalks_57 rfl rfl ?_
    refine v_if_ne C dG_endsAllWalks_58 (tgt := 65) (by decide) (fun h2 => ?_) (fun h2 => ?_)
    · skip
      refine v_iconst C (v := 0) dG_endsAllWalks_65 (by decide) ?_
      exact v_zrr C hr (by decide) (by unfold gEnds; rw [if_neg h2]) dG_endsAllWalks_66
    · skip
      refine v_iconst C (v := 1) dG_endsAllWalks_61 (by decide) ?_
      refine v_goto C dG_endsAllWalks_62 (tgt := 66) (by decide) ?_
      exact v_zrr C hr (by decide) (by unfold gEnds; rw [if_pos h2]) dG_endsAllWalks_66
set_option maxHeartbeats 4000000 in
set_option maxRecDepth 100000 in
theorem c_gFewest (l : Launch) (D : va_G) (cI cZ cJ : ClassId) (b : Nat → Nat) (F : FT) (a : AT) (P : Nat) (E : Nat) (hg : F 20 = nI P) (hp6 : P ≤ 6) (he : F 21 = nI E) (hE : E < 64) : Kr l yG_fewestLeaders wG_fewestLeaders ({ frames := 1, cells := 0, slots := 0, locals := 24 } : Room) D vwCl (tyG cI cZ cJ) [.ref (b 1)] (wG cI b F a) (gFewest F a P E) := by
  intro sz
  refine v_ent (cc := bG_fewestLeaders) (maxL := 3) (ret := (some .int)) (Qc := (fun _ _ st oc t => oc = .returned (some (.int (gFewest F a P E))) ∧ t.heap = st.heap)) (fr := (fun _ _ => False)) (own := RcG) rfl (by decide) rfl (Nat.le_of_ble_eq_true rfl) rfl ?_
  intro p e s m args below meth c A C hr _
  refine v_aload_n C 0 dG_fewestLeaders_0 rfl rfl ?_
  refine v_get C (T := TcG) (N := 3) (ci := 1) (v := .int (F 21)) inG_fewestLeaders_G 0 rfl rfl 1 (by decide) (by decide +kernel) rfl rfl dG_fewestLeaders_1 ?_
  refine v_top (y := nI E) he ?_
  refine v_istore_n C (lv' := [(0, .ref (b 1)), (1, .int (nI E))]) [1, 0] dG_fewestLeaders_4 rfl (by decide) rfl ?_
  refine v_iconst C (v := 0) dG_fewestLeaders_5 (by decide) ?_
  refine v_istore_n C (lv' := [(0, .ref (b 1)), (1, .int (nI E)), (2, .int 0)]) [1, 2, 0] dG_fewestLeaders_6 rfl (by decide) rfl ?_
  refine v_loop1 E (fun (qq : Nat) (best : Int32) => wG cI b F a) (fun (qq : Nat) (best : Int32) => [(0, .ref (b 1)), (1, .int best), (2, .int (nI qq))]) (fun (kqq qq : Nat) (best : Int32) => gFewestL F a P E kqq qq best = gFewestL F a P E E 0 (nI E)) ?_ ?_ E 0 (nI E) (by omega) rfl
  · skip
    intro kqq qq best hkqq hIqq ihqq
    have hIqq : gFewestL F a P E (kqq + 1) qq best = gFewestL F a P E E 0 (nI E) := hIqq
    refine v_as (w' := wG cI b F a) (lv' := [(0, .ref (b 1)), (1, .int best), (2, .int (nI qq))]) rfl rfl ?_
    refine v_iload_n C 2 dG_fewestLeaders_7 rfl rfl ?_
    refine v_aload_n C 0 dG_fewestLeaders_8 rfl rfl ?_
    refine v_get C (T := TcG) (N := 3) (ci := 1) (v := .int (F 21)) inG_fewestLeaders_G 0 rfl rfl 1 (by decide) (by decide +kernel) rfl rfl dG_fewestLeaders_9 ?_
    refine v_top (y := nI E) he ?_
    refine v_icmp_ge C dG_fewestLeaders_12 (tgt := 49) (by decide) (fun h => absurd h (nI_ge (a := qq) (b := E) (by omega) (by omega))) (fun _ => ?_)
    refine v_iload_n C 2 dG_fewestLeaders_15 rfl rfl ?_
    refine v_cSr0 (As := [.int (nI qq)]) C (c_bitCountF l D cI cZ cJ (nI qq)) (va_cwS 1 C.2.2.2.2.1 gG_fewestLeaders_J_bitCount rfl rfl rfl (by decide +kernel) ⟨Nat.le_of_ble_eq_true rfl, Nat.le_of_ble_eq_true rfl⟩) rfl rfl (Nat.le_of_ble_eq_true rfl) ⟨Nat.zero_le _, Nat.zero_le _⟩ dG_fewestLeaders_16 ?_
    refine v_iload_n C 1 dG_fewestLeaders_19 rfl rfl ?_
    refine v_cSr0 (As := [.int best]) C (c_bitCountF l D cI cZ cJ best) (va_cwS 1 C.2.2.2.2.1 gG_fewestLeaders_J_bitCount rfl rfl rfl (by decide +kernel) ⟨Nat.le_of_ble_eq_true rfl, Nat.le_of_ble_eq_true rfl⟩) rfl rfl (Nat.le_of_ble_eq_true rfl) ⟨Nat.zero_le _, Nat.zero_le _⟩ dG_fewestLeaders_20 ?_
    refine v_icmp_ge C dG_fewestLeaders_23 (tgt := 43) (by decide) (fun h1 => ?_) (fun h1 => ?_)
    · skip
      refine v_iinc C (v := nI (qq + 1)) (lv' := [(0, .ref (b 1)), (1, .int best), (2, .int (nI (qq + 1)))]) 2 [1, 2, 0] dG_fewestLeaders_43 rfl (nI_1 qq) (by decide) rfl ?_
      refine v_goto C dG_fewestLeaders_46 (tgt := 7) (by decide) ?_
      have hL : gFewestL F a P E kqq (qq + 1) best = gFewestL F a P E E 0 (nI E) := (by rw [← hIqq]; simp only [gFewestL]; rw [if_pos h1])
      exact ihqq best hL
    · skip
      refine v_aload_n C 0 dG_fewestLeaders_26 rfl rfl ?_
      refine v_aload_n C 0 dG_fewestLeaders_27 rfl rfl ?_
      refine v_get C (T := TcG) (N := 3) (ci := 1) (v := .int (F 21)) inG_fewestLeaders_G 0 rfl rfl 1 (by decide) (by decide +kernel) rfl rfl dG_fewestLeaders_28 ?_
      refine v_top (y := nI E) he ?_
      refine v_iload_n C 2 dG_fewestLeaders_31 rfl rfl ?_
      refine v_iconst C (v := (-1)) dG_fewestLeaders_32 (by decide) ?_
      refine v_ixor C dG_fewestLeaders_33 ?_
      refine v_iand C dG_fewestLeaders_34 ?_
      refine v_cVrF (As := [.int ((nI E) &&& ((nI qq) ^^^ ((-1) : Int32)))]) C (c_gEnds l D cI cZ cJ b F a P ((nI E) &&& ((nI qq) ^^^ ((-1) : Int32))) hg hp6) (cwV 1 C.2.2.2.2.1 gG_fewestLeaders_G_endsAllWalks rfl rfl rfl (by decide +kernel) ⟨Nat.le_of_ble_eq_true rfl, Nat.le_of_ble_eq_true rfl⟩) 0 rfl (T := TcG) (N := 3) rfl rfl rfl (Nat.le_of_ble_eq_true rfl) ⟨Nat.zero_le _, Nat.zero_le _⟩ dG_fewestLeaders_35 ?_
      refine v_if_eq C dG_fewestLeaders_38 (tgt := 43) (by decide) (fun h2 => ?_) (fun h2 => ?_)
      · skip
        refine v_iinc C (v := nI (qq + 1)) (lv' := [(0, .ref (b 1)), (1, .int best), (2, .int (nI (qq + 1)))]) 2 [1, 2, 0] dG_fewestLeaders_43 rfl (nI_1 qq) (by decide) rfl ?_
        refine v_goto C dG_fewestLeaders_46 (tgt := 7) (by decide) ?_
        have hL : gFewestL F a P E kqq (qq + 1) best = gFewestL F a P E E 0 (nI E) := (by rw [← hIqq]; simp only [gFewestL]; rw [if_neg h1, if_pos h2])
        exact ihqq best hL
      · skip
        refine v_iload_n C 2 dG_fewestLeaders_41 rfl rfl ?_
        refine v_istore_n C (lv' := [(0, .ref (b 1)), (1, .int (nI qq)), (2, .int (nI qq))]) [1, 0, 2] dG_fewestLeaders_42 rfl (by decide) rfl ?_
        refine v_iinc C (v := nI (qq + 1)) (lv' := [(0, .ref (b 1)), (1, .int (nI qq)), (2, .int (nI (qq + 1)))]) 2 [1, 2, 0] dG_fewestLeaders_43 rfl (nI_1 qq) (by decide) rfl ?_
        refine v_goto C dG_fewestLeaders_46 (tgt := 7) (by decide) ?_
        have hL : gFewestL F a P E kqq (qq + 1) (nI qq) = gFewestL F a P E E 0 (nI E) := (by rw [← hIqq]; simp only [gFewestL]; rw [if_neg h1, if_neg h2])
        exact ihqq (nI qq) hL
  · skip
    intro best hIqq
    have hIqq : gFewestL F a P E 0 E best = gFewestL F a P E E 0 (nI E) := hIqq
    refine v_as (w' := wG cI b F a) (lv' := [(0, .ref (b 1)), (1, .int best), (2, .int (nI E))]) rfl rfl ?_
    have hIqq : best = gFewestL F a P E E 0 (nI E) := hIqq
    subst hIqq
    refine v_iload_n C 2 dG_fewestLeaders_7 rfl rfl ?_
    refine v_aload_n C 0 dG_fewestLeaders_8 rfl rfl ?_
    refine v_get C (T := TcG) (N := 3) (ci := 1) (v := .int (F 21)) inG_fewestLeaders_G 0 rfl rfl 1 (by decide) (by decide +kernel) rfl rfl dG_fewestLeaders_9 ?_
    refine v_top (y := nI E) he ?_
    refine v_icmp_ge C dG_fewestLeaders_12 (tgt := 49) (by decide) (fun _ => ?_) (fun h => absurd (nI_le (a := E) (b := E) (by omega) (by omega)) h)
    refine v_iload_n C 1 dG_fewestLeaders_49 rfl rfl ?_
    exact v_irr C hr (by unfold gFewest; rfl) dG_fewestLeaders_50
end
section
def gLongL (a : AT) (K : Int32 → Int32 → Int32) (x : Int32) (y : Int32) : Nat → Nat → Int32 → Int32
  | 0, i, u => u
  | ki + 1, i, u => if ((((a 22) x.toNatClampNeg) &&& (y ^^^ ((-1) : Int32))) &&& ((1 : Int32) <<< ((nI i) &&& 31))) = 0 then
      gLongL a K x y ki (i + 1) u
    else
      gLongL a K x y ki (i + 1) (if u < ((1 : Int32) + (K (nI i) (y ||| ((1 : Int32) <<< ((nI i) &&& 31))))) then (1 : Int32) + (K (nI i) (y ||| ((1 : Int32) <<< ((nI i) &&& 31)))) else u)
def gLong (a : AT) : Nat → Int32 → Int32 → Int32
  | 0, _, _ => 0
  | z + 1, x, y => gLongL a (gLong a z) x y 6 0 0
theorem dG_longestFrom_0 : decode bG_longestFrom 0 = .ok (.iconst 0, 1) := by decide +kernel
theorem dG_longestFrom_1 : decode bG_longestFrom 1 = .ok (.istore 4, 2) := by decide +kernel
theorem dG_longestFrom_3 : decode bG_longestFrom 3 = .ok (.iload_n 3, 1) := by decide +kernel
theorem dG_longestFrom_4 : decode bG_longestFrom 4 = .ok (.bipush 6, 2) := by decide +kernel
theorem dG_longestFrom_6 : decode bG_longestFrom 6 = .ok (.if_icmp .lt 6, 3) := by decide +kernel
theorem dG_longestFrom_9 : decode bG_longestFrom 9 = .ok (.iload 4, 2) := by decide +kernel
theorem dG_longestFrom_11 : decode bG_longestFrom 11 = .ok (.ireturn, 1) := by decide +kernel
theorem dG_longestFrom_12 : decode bG_longestFrom 12 = .ok (.iconst 0, 1) := by decide +kernel
theorem dG_longestFrom_13 : decode bG_longestFrom 13 = .ok (.istore 5, 2) := by decide +kernel
theorem dG_longestFrom_15 : decode bG_longestFrom 15 = .ok (.iload 5, 2) := by decide +kernel
theorem dG_longestFrom_17 : decode bG_longestFrom 17 = .ok (.bipush 6, 2) := by decide +kernel
theorem dG_longestFrom_19 : decode bG_longestFrom 19 = .ok (.if_icmp .ge 48, 3) := by decide +kernel
theorem dG_longestFrom_22 : decode bG_longestFrom 22 = .ok (.aload_n 0, 1) := by decide +kernel
theorem dG_longestFrom_23 : decode bG_longestFrom 23 = .ok (.iload_n 1, 1) := by decide +kernel
theorem dG_longestFrom_24 : decode bG_longestFrom 24 = .ok (.iaload, 1) := by decide +kernel
theorem dG_longestFrom_25 : decode bG_longestFrom 25 = .ok (.iload_n 2, 1) := by decide +kernel
theorem dG_longestFrom_26 : decode bG_longestFrom 26 = .ok (.iconst (-1), 1) := by decide +kernel
theorem dG_longestFrom_27 : decode bG_longestFrom 27 = .ok (.ixor, 1) := by decide +kernel
theorem dG_longestFrom_28 : decode bG_longestFrom 28 = .ok (.iand, 1) := by decide +kernel
theorem dG_longestFrom_29 : decode bG_longestFrom 29 = .ok (.iconst 1, 1) := by decide +kernel
theorem dG_longestFrom_30 : decode bG_longestFrom 30 = .ok (.iload 5, 2) := by decide +kernel
theorem dG_longestFrom_32 : decode bG_longestFrom 32 = .ok (.ishl, 1) := by decide +kernel
theorem dG_longestFrom_33 : decode bG_longestFrom 33 = .ok (.iand, 1) := by decide +kernel
theorem dG_longestFrom_34 : decode bG_longestFrom 34 = .ok (.ifCond .eq 27, 3) := by decide +kernel
theorem dG_longestFrom_37 : decode bG_longestFrom 37 = .ok (.iload 4, 2) := by decide +kernel
theorem dG_longestFrom_39 : decode bG_longestFrom 39 = .ok (.iconst 1, 1) := by decide +kernel
theorem dG_longestFrom_40 : decode bG_longestFrom 40 = .ok (.aload_n 0, 1) := by decide +kernel
theorem dG_longestFrom_41 : decode bG_longestFrom 41 = .ok (.iload 5, 2) := by decide +kernel
theorem dG_longestFrom_43 : decode bG_longestFrom 43 = .ok (.iload_n 2, 1) := by decide +kernel
theorem dG_longestFrom_44 : decode bG_longestFrom 44 = .ok (.iconst 1, 1) := by decide +kernel
theorem dG_longestFrom_45 : decode bG_longestFrom 45 = .ok (.iload 5, 2) := by decide +kernel
theorem dG_longestFrom_47 : decode bG_longestFrom 47 = .ok (.ishl, 1) := by decide +kernel
theorem dG_longestFrom_48 : decode bG_longestFrom 48 = .ok (.ior, 1) := by decide +kernel
theorem dG_longestFrom_49 : decode bG_longestFrom 49 = .ok (.iload_n 3, 1) := by decide +kernel
theorem dG_longestFrom_50 : decode bG_longestFrom 50 = .ok (.iconst 1, 1) := by decide +kernel
theorem dG_longestFrom_51 : decode bG_longestFrom 51 = .ok (.iadd, 1) := by decide +kernel
theorem dG_longestFrom_52 : decode bG_longestFrom 52 = .ok (.invokestatic 51, 3) := by decide +kernel
theorem dG_longestFrom_55 : decode bG_longestFrom 55 = .ok (.iadd, 1) := by decide +kernel
theorem dG_longestFrom_56 : decode bG_longestFrom 56 = .ok (.invokestatic 55, 3) := by decide +kernel
theorem dG_longestFrom_59 : decode bG_longestFrom 59 = .ok (.istore 4, 2) := by decide +kernel
theorem dG_longestFrom_61 : decode bG_longestFrom 61 = .ok (.iinc 5 1, 3) := by decide +kernel
theorem dG_longestFrom_64 : decode bG_longestFrom 64 = .ok (.goto (-49), 3) := by decide +kernel
theorem dG_longestFrom_67 : decode bG_longestFrom 67 = .ok (.iload 4, 2) := by decide +kernel
theorem dG_longestFrom_69 : decode bG_longestFrom 69 = .ok (.ireturn, 1) := by decide +kernel
set_option maxRecDepth 20000 in
theorem gG_longestFrom_G_longestFrom : GoodIn wG_longestFrom (va_wsS RcG 51 yG_longestFrom wG_longestFrom) := goodIn_app (goodIn_of _ (by decide +kernel)) (goodIn_r _ [0, 1, 2, 3, 4, 5, 6, 7] (by decide +kernel) (by decide +kernel))
set_option maxHeartbeats 4000000 in
set_option maxRecDepth 100000 in
theorem c_gLong (l : Launch) (D : va_G) (cI cZ cJ : ClassId) (b : Nat → Nat) (a : AT) : ∀ (z sz : Nat) (x y : Int32), sz + z = 6 → vp_in x 6 → Kr l yG_longestFrom wG_longestFrom ({ frames := z + 1, cells := 0, slots := 0, locals := 25 * z + 21 } : Room) D vwCl (tyG cI cZ cJ) [.ref (b 7), .int x, .int y, .int (nI sz)] (wN cI b a) (gLong a z x y) := by
  intro z
  induction z with
  | zero =>
    intro sz x y hz hx sz9
    refine v_ent (cc := bG_longestFrom) (maxL := 6) (ret := (some .int)) (Qc := (fun _ _ st oc t => oc = .returned (some (.int (gLong a 0 x y))) ∧ t.heap = st.heap)) (fr := (fun _ _ => False)) (own := RcG) rfl (by decide) rfl (Nat.le_of_ble_eq_true rfl) rfl ?_
    intro p e s m args below meth c A C hr _
    refine v_iconst C (v := 0) dG_longestFrom_0 (by decide) ?_
    refine v_istore C (lv' := [(0, .ref (b 7)), (1, .int x), (2, .int y), (3, .int (nI sz)), (4, .int 0)]) [1, 2, 3, 4, 0] dG_longestFrom_1 (by decide) rfl ?_
    refine v_iload_n C 3 dG_longestFrom_3 rfl rfl ?_
    refine v_bipush C (v := 6) dG_longestFrom_4 (by decide) ?_
    refine v_icmp_lt C dG_longestFrom_6 (tgt := 12) (by decide) (fun h => absurd h (nI_nlt (a := sz) (b := 6) (by omega) (by omega))) (fun _ => ?_)
    refine v_iload C 4 dG_longestFrom_9 rfl ?_
    exact v_irr C hr rfl dG_longestFrom_11
  | succ z ih =>
    intro sz x y hz hx sz9
    refine v_ent (cc := bG_longestFrom) (maxL := 6) (ret := (some .int)) (Qc := (fun _ _ st oc t => oc = .returned (some (.int (gLong a (z + 1) x y))) ∧ t.heap = st.heap)) (fr := (fun _ _ => False)) (own := RcG) rfl (by decide) rfl (Nat.le_of_ble_eq_true rfl) rfl ?_
    intro p e s m args below meth c A C hr _
    refine v_iconst C (v := 0) dG_longestFrom_0 (by decide) ?_
    refine v_istore C (lv' := [(0, .ref (b 7)), (1, .int x), (2, .int y), (3, .int (nI sz)), (4, .int 0)]) [1, 2, 3, 4, 0] dG_longestFrom_1 (by decide) rfl ?_
    refine v_iload_n C 3 dG_longestFrom_3 rfl rfl ?_
    refine v_bipush C (v := 6) dG_longestFrom_4 (by decide) ?_
    refine v_icmp_lt C dG_longestFrom_6 (tgt := 12) (by decide) (fun _ => ?_) (fun h => absurd (nI_lt (a := sz) (b := 6) (by omega) (by omega)) h)
    refine v_iconst C (v := 0) dG_longestFrom_12 (by decide) ?_
    refine v_istore C (lv' := [(0, .ref (b 7)), (1, .int x), (2, .int y), (3, .int (nI sz)), (4, .int 0), (5, .int 0)]) [1, 2, 3, 4, 5, 0] dG_longestFrom_13 (by decide) rfl ?_
    refine v_loop1 6 (fun (i : Nat) (u : Int32) => wN cI b a) (fun (i : Nat) (u : Int32) => [(0, .ref (b 7)), (1, .int x), (2, .int y), (3, .int (nI sz)), (4, .int u), (5, .int (nI i))]) (fun (ki i : Nat) (u : Int32) => gLongL a (gLong a z) x y ki i u = gLongL a (gLong a z) x y 6 0 0) ?_ ?_ 6 0 0 (by omega) rfl
    · skip
      intro ki i u hki hIi ihi
      have hIi : gLongL a (gLong a z) x y (ki + 1) i u = gLongL a (gLong a z) x y 6 0 0 := hIi
      refine v_as (w' := wN cI b a) (lv' := [(0, .ref (b 7)), (1, .int x), (2, .int y), (3, .int (nI sz)), (4, .int u), (5, .int (nI i))]) rfl rfl ?_
      refine v_iload C 5 dG_longestFrom_15 rfl ?_
      refine v_bipush C (v := 6) dG_longestFrom_17 (by decide) ?_
      refine v_icmp_ge C dG_longestFrom_19 (tgt := 67) (by decide) (fun h => absurd h (nI_ge (a := i) (b := 6) (by omega) (by omega))) (fun _ => ?_)
      refine v_aload_n C 0 dG_longestFrom_22 rfl rfl ?_
      refine v_iload_n C 1 dG_longestFrom_23 rfl rfl ?_
      refine v_iald C 0 0 (f := a 22) (y := (a 22) x.toNatClampNeg) (j := x.toNatClampNeg) rfl rfl rfl rfl hx dG_longestFrom_24 ?_
      refine v_iload_n C 2 dG_longestFrom_25 rfl rfl ?_
      refine v_iconst C (v := (-1)) dG_longestFrom_26 (by decide) ?_
      refine v_ixor C dG_longestFrom_27 ?_
      refine v_iand C dG_longestFrom_28 ?_
      refine v_iconst C (v := 1) dG_longestFrom_29 (by decide) ?_
      refine v_iload C 5 dG_longestFrom_30 rfl ?_
      refine v_ishl C dG_longestFrom_32 ?_
      refine v_iand C dG_longestFrom_33 ?_
      refine v_if_eq C dG_longestFrom_34 (tgt := 61) (by decide) (fun h1 => ?_) (fun h1 => ?_)
      · skip
        refine v_iinc C (v := nI (i + 1)) (lv' := [(0, .ref (b 7)), (1, .int x), (2, .int y), (3, .int (nI sz)), (4, .int u), (5, .int (nI (i + 1)))]) 5 [1, 2, 3, 4, 5, 0] dG_longestFrom_61 rfl (nI_1 i) (by decide) rfl ?_
        refine v_goto C dG_longestFrom_64 (tgt := 15) (by decide) ?_
        have hL : gLongL a (gLong a z) x y ki (i + 1) u = gLongL a (gLong a z) x y 6 0 0 := (by rw [← hIi]; simp only [gLongL]; rw [if_pos h1])
        exact ihi u hL
      · skip
        refine v_iload C 4 dG_longestFrom_37 rfl ?_
        refine v_iconst C (v := 1) dG_longestFrom_39 (by decide) ?_
        refine v_aload_n C 0 dG_longestFrom_40 rfl rfl ?_
        refine v_iload C 5 dG_longestFrom_41 rfl ?_
        refine v_iload_n C 2 dG_longestFrom_43 rfl rfl ?_
        refine v_iconst C (v := 1) dG_longestFrom_44 (by decide) ?_
        refine v_iload C 5 dG_longestFrom_45 rfl ?_
        refine v_ishl C dG_longestFrom_47 ?_
        refine v_ior C dG_longestFrom_48 ?_
        refine v_iload_n C 3 dG_longestFrom_49 rfl rfl ?_
        refine v_iconst C (v := 1) dG_longestFrom_50 (by decide) ?_
        refine v_iadd C dG_longestFrom_51 ?_
        refine v_top (y := nI (sz + 1)) (nI_1 sz) ?_
        refine v_cSr (As := [.ref (b 7), .int (nI i), .int (y ||| ((1 : Int32) <<< ((nI i) &&& 31))), .int (nI (sz + 1))]) C (ih (sz + 1) (nI i) (y ||| ((1 : Int32) <<< ((nI i) &&& 31))) (by omega) (vp_in_nI (by omega) (by decide))) (va_cwS 4 C.2.2.2.2.1 gG_longestFrom_G_longestFrom rfl rfl rfl (by decide +kernel) ⟨Nat.le_refl _, by show 8 + (6 + 11) + (25 * z + 21) ≤ 25 * (z + 1) + 21; omega⟩) rfl rfl (Nat.le_of_ble_eq_true rfl) ⟨Nat.zero_le _, Nat.zero_le _⟩ dG_longestFrom_52 [0] rfl rfl ?_
        refine v_iadd C dG_longestFrom_55 ?_
        refine v_mmax C (by decide +kernel) (by decide +kernel) (by decide +kernel) (by decide +kernel) (by show 1 ≤ z + 1 + 1; omega) (by show 0 + 13 ≤ 25 * (z + 1) + 21; omega) (Nat.zero_le _) (Nat.zero_le _) dG_longestFrom_56 ?_
        refine v_istore C (lv' := [(0, .ref (b 7)), (1, .int x), (2, .int y), (3, .int (nI sz)), (4, .int (if u < ((1 : Int32) + (gLong a z (nI i) (y ||| ((1 : Int32) <<< ((nI i) &&& 31))))) then (1 : Int32) + (gLong a z (nI i) (y ||| ((1 : Int32) <<< ((nI i) &&& 31)))) else u)), (5, .int (nI i))]) [1, 2, 3, 4, 0, 5] dG_longestFrom_59 (by decide) rfl ?_
        refine v_iinc C (v := nI (i + 1)) (lv' := [(0, .ref (b 7)), (1, .int x), (2, .int y), (3, .int (nI sz)), (4, .int (if u < ((1 : Int32) + (gLong a z (nI i) (y ||| ((1 : Int32) <<< ((nI i) &&& 31))))) then (1 : Int32) + (gLong a z (nI i) (y ||| ((1 : Int32) <<< ((nI i) &&& 31)))) else u)), (5, .int (nI (i + 1)))]) 5 [1, 2, 3, 4, 5, 0] dG_longestFrom_61 rfl (nI_1 i) (by decide) rfl ?_
        refine v_goto C dG_longestFrom_64 (tgt := 15) (by decide) ?_
        have hL : gLongL a (gLong a z) x y ki (i + 1) (if u < ((1 : Int32) + (gLong a z (nI i) (y ||| ((1 : Int32) <<< ((nI i) &&& 31))))) then (1 : Int32) + (gLong a z (nI i) (y ||| ((1 : Int32) <<< ((nI i) &&& 31)))) else u) = gLongL a (gLong a z) x y 6 0 0 := (by rw [← hIi]; simp only [gLongL]; rw [if_neg h1])
        exact ihi (if u < ((1 : Int32) + (gLong a z (nI i) (y ||| ((1 : Int32) <<< ((nI i) &&& 31))))) then (1 : Int32) + (gLong a z (nI i) (y ||| ((1 : Int32) <<< ((nI i) &&& 31)))) else u) hL
    · skip
      intro u hIi
      have hIi : gLongL a (gLong a z) x y 0 6 u = gLongL a (gLong a z) x y 6 0 0 := hIi
      refine v_as (w' := wN cI b a) (lv' := [(0, .ref (b 7)), (1, .int x), (2, .int y), (3, .int (nI sz)), (4, .int u), (5, .int (nI 6))]) rfl rfl ?_
      have hIi : u = gLongL a (gLong a z) x y 6 0 0 := hIi
      subst hIi
      refine v_iload C 5 dG_longestFrom_15 rfl ?_
      refine v_bipush C (v := 6) dG_longestFrom_17 (by decide) ?_
      refine v_icmp_ge C dG_longestFrom_19 (tgt := 67) (by decide) (fun _ => ?_) (fun h => absurd (nI_le (a := 6) (b := 6) (by omega) (by omega)) h)
      refine v_iload C 4 dG_longestFrom_67 rfl ?_
      exact v_irr C hr (by simp only [gLong]) dG_longestFrom_69
end
section
theorem dX_isParty_0 : decode bX_isParty 0 = .ok (.iload_n 1, 1) := by decide +kernel
theorem dX_isParty_1 : decode bX_isParty 1 = .ok (.ifCond .lt 15, 3) := by decide +kernel
theorem dX_isParty_4 : decode bX_isParty 4 = .ok (.iload_n 1, 1) := by decide +kernel
theorem dX_isParty_5 : decode bX_isParty 5 = .ok (.aload_n 0, 1) := by decide +kernel
theorem dX_isParty_6 : decode bX_isParty 6 = .ok (.getfield 37, 3) := by decide +kernel
theorem dX_isParty_9 : decode bX_isParty 9 = .ok (.if_icmp .ge 7, 3) := by decide +kernel
theorem dX_isParty_12 : decode bX_isParty 12 = .ok (.iconst 1, 1) := by decide +kernel
theorem dX_isParty_13 : decode bX_isParty 13 = .ok (.goto 4, 3) := by decide +kernel
theorem dX_isParty_16 : decode bX_isParty 16 = .ok (.iconst 0, 1) := by decide +kernel
theorem dX_isParty_17 : decode bX_isParty 17 = .ok (.ireturn, 1) := by decide +kernel
theorem dX_isArc_0 : decode bX_isArc 0 = .ok (.iload_n 1, 1) := by decide +kernel
theorem dX_isArc_1 : decode bX_isArc 1 = .ok (.ifCond .lt 15, 3) := by decide +kernel
theorem dX_isArc_4 : decode bX_isArc 4 = .ok (.iload_n 1, 1) := by decide +kernel
theorem dX_isArc_5 : decode bX_isArc 5 = .ok (.aload_n 0, 1) := by decide +kernel
theorem dX_isArc_6 : decode bX_isArc 6 = .ok (.getfield 71, 3) := by decide +kernel
theorem dX_isArc_9 : decode bX_isArc 9 = .ok (.if_icmp .ge 7, 3) := by decide +kernel
theorem dX_isArc_12 : decode bX_isArc 12 = .ok (.iconst 1, 1) := by decide +kernel
theorem dX_isArc_13 : decode bX_isArc 13 = .ok (.goto 4, 3) := by decide +kernel
theorem dX_isArc_16 : decode bX_isArc 16 = .ok (.iconst 0, 1) := by decide +kernel
theorem dX_isArc_17 : decode bX_isArc 17 = .ok (.ireturn, 1) := by decide +kernel
theorem dX_isLeader_0 : decode bX_isLeader 0 = .ok (.aload_n 0, 1) := by decide +kernel
theorem dX_isLeader_1 : decode bX_isLeader 1 = .ok (.iload_n 1, 1) := by decide +kernel
theorem dX_isLeader_2 : decode bX_isLeader 2 = .ok (.invokevirtual 52, 3) := by decide +kernel
theorem dX_isLeader_5 : decode bX_isLeader 5 = .ok (.ifCond .eq 19, 3) := by decide +kernel
theorem dX_isLeader_8 : decode bX_isLeader 8 = .ok (.aload_n 0, 1) := by decide +kernel
theorem dX_isLeader_9 : decode bX_isLeader 9 = .ok (.getfield 110, 3) := by decide +kernel
theorem dX_isLeader_12 : decode bX_isLeader 12 = .ok (.iload_n 1, 1) := by decide +kernel
theorem dX_isLeader_13 : decode bX_isLeader 13 = .ok (.ishr, 1) := by decide +kernel
theorem dX_isLeader_14 : decode bX_isLeader 14 = .ok (.iconst 1, 1) := by decide +kernel
theorem dX_isLeader_15 : decode bX_isLeader 15 = .ok (.iand, 1) := by decide +kernel
theorem dX_isLeader_16 : decode bX_isLeader 16 = .ok (.iconst 1, 1) := by decide +kernel
theorem dX_isLeader_17 : decode bX_isLeader 17 = .ok (.if_icmp .ne 7, 3) := by decide +kernel
theorem dX_isLeader_20 : decode bX_isLeader 20 = .ok (.iconst 1, 1) := by decide +kernel
theorem dX_isLeader_21 : decode bX_isLeader 21 = .ok (.goto 4, 3) := by decide +kernel
theorem dX_isLeader_24 : decode bX_isLeader 24 = .ok (.iconst 0, 1) := by decide +kernel
theorem dX_isLeader_25 : decode bX_isLeader 25 = .ok (.ireturn, 1) := by decide +kernel
theorem dX_conforms_0 : decode bX_conforms 0 = .ok (.aload_n 0, 1) := by decide +kernel
theorem dX_conforms_1 : decode bX_conforms 1 = .ok (.getfield 116, 3) := by decide +kernel
theorem dX_conforms_4 : decode bX_conforms 4 = .ok (.iload_n 1, 1) := by decide +kernel
theorem dX_conforms_5 : decode bX_conforms 5 = .ok (.ishr, 1) := by decide +kernel
theorem dX_conforms_6 : decode bX_conforms 6 = .ok (.iconst 1, 1) := by decide +kernel
theorem dX_conforms_7 : decode bX_conforms 7 = .ok (.iand, 1) := by decide +kernel
theorem dX_conforms_8 : decode bX_conforms 8 = .ok (.ifCond .ne 7, 3) := by decide +kernel
theorem dX_conforms_11 : decode bX_conforms 11 = .ok (.iconst 1, 1) := by decide +kernel
theorem dX_conforms_12 : decode bX_conforms 12 = .ok (.goto 4, 3) := by decide +kernel
theorem dX_conforms_15 : decode bX_conforms 15 = .ok (.iconst 0, 1) := by decide +kernel
theorem dX_conforms_16 : decode bX_conforms 16 = .ok (.ireturn, 1) := by decide +kernel
theorem dX_isOver_0 : decode bX_isOver 0 = .ok (.aload_n 0, 1) := by decide +kernel
theorem dX_isOver_1 : decode bX_isOver 1 = .ok (.getfield 94, 3) := by decide +kernel
theorem dX_isOver_4 : decode bX_isOver 4 = .ok (.aload_n 0, 1) := by decide +kernel
theorem dX_isOver_5 : decode bX_isOver 5 = .ok (.getfield 97, 3) := by decide +kernel
theorem dX_isOver_8 : decode bX_isOver 8 = .ok (.iconst 2, 1) := by decide +kernel
theorem dX_isOver_9 : decode bX_isOver 9 = .ok (.aload_n 0, 1) := by decide +kernel
theorem dX_isOver_10 : decode bX_isOver 10 = .ok (.getfield 104, 3) := by decide +kernel
theorem dX_isOver_13 : decode bX_isOver 13 = .ok (.imul, 1) := by decide +kernel
theorem dX_isOver_14 : decode bX_isOver 14 = .ok (.aload_n 0, 1) := by decide +kernel
theorem dX_isOver_15 : decode bX_isOver 15 = .ok (.getfield 40, 3) := by decide +kernel
theorem dX_isOver_18 : decode bX_isOver 18 = .ok (.imul, 1) := by decide +kernel
theorem dX_isOver_19 : decode bX_isOver 19 = .ok (.iadd, 1) := by decide +kernel
theorem dX_isOver_20 : decode bX_isOver 20 = .ok (.if_icmp .lt 7, 3) := by decide +kernel
theorem dX_isOver_23 : decode bX_isOver 23 = .ok (.iconst 1, 1) := by decide +kernel
theorem dX_isOver_24 : decode bX_isOver 24 = .ok (.goto 4, 3) := by decide +kernel
theorem dX_isOver_27 : decode bX_isOver 27 = .ok (.iconst 0, 1) := by decide +kernel
theorem dX_isOver_28 : decode bX_isOver 28 = .ok (.ireturn, 1) := by decide +kernel
theorem dX_isInTime_0 : decode bX_isInTime 0 = .ok (.iload_n 1, 1) := by decide +kernel
theorem dX_isInTime_1 : decode bX_isInTime 1 = .ok (.invokestatic 141, 3) := by decide +kernel
theorem dX_isInTime_4 : decode bX_isInTime 4 = .ok (.iconst 1, 1) := by decide +kernel
theorem dX_isInTime_5 : decode bX_isInTime 5 = .ok (.isub, 1) := by decide +kernel
theorem dX_isInTime_6 : decode bX_isInTime 6 = .ok (.istore_n 2, 1) := by decide +kernel
theorem dX_isInTime_7 : decode bX_isInTime 7 = .ok (.aload_n 0, 1) := by decide +kernel
theorem dX_isInTime_8 : decode bX_isInTime 8 = .ok (.getfield 94, 3) := by decide +kernel
theorem dX_isInTime_11 : decode bX_isInTime 11 = .ok (.aload_n 0, 1) := by decide +kernel
theorem dX_isInTime_12 : decode bX_isInTime 12 = .ok (.getfield 97, 3) := by decide +kernel
theorem dX_isInTime_15 : decode bX_isInTime 15 = .ok (.aload_n 0, 1) := by decide +kernel
theorem dX_isInTime_16 : decode bX_isInTime 16 = .ok (.getfield 104, 3) := by decide +kernel
theorem dX_isInTime_19 : decode bX_isInTime 19 = .ok (.iload_n 2, 1) := by decide +kernel
theorem dX_isInTime_20 : decode bX_isInTime 20 = .ok (.iadd, 1) := by decide +kernel
theorem dX_isInTime_21 : decode bX_isInTime 21 = .ok (.aload_n 0, 1) := by decide +kernel
theorem dX_isInTime_22 : decode bX_isInTime 22 = .ok (.getfield 40, 3) := by decide +kernel
theorem dX_isInTime_25 : decode bX_isInTime 25 = .ok (.imul, 1) := by decide +kernel
theorem dX_isInTime_26 : decode bX_isInTime 26 = .ok (.iadd, 1) := by decide +kernel
theorem dX_isInTime_27 : decode bX_isInTime 27 = .ok (.if_icmp .ge 7, 3) := by decide +kernel
theorem dX_isInTime_30 : decode bX_isInTime 30 = .ok (.iconst 1, 1) := by decide +kernel
theorem dX_isInTime_31 : decode bX_isInTime 31 = .ok (.goto 4, 3) := by decide +kernel
theorem dX_isInTime_34 : decode bX_isInTime 34 = .ok (.iconst 0, 1) := by decide +kernel
theorem dX_isInTime_35 : decode bX_isInTime 35 = .ok (.ireturn, 1) := by decide +kernel
theorem dX_hashkey_0 : decode bX_hashkey 0 = .ok (.aload_n 0, 1) := by decide +kernel
theorem dX_hashkey_1 : decode bX_hashkey 1 = .ok (.iload_n 1, 1) := by decide +kernel
theorem dX_hashkey_2 : decode bX_hashkey 2 = .ok (.invokevirtual 131, 3) := by decide +kernel
theorem dX_hashkey_5 : decode bX_hashkey 5 = .ok (.ifCond .eq 25, 3) := by decide +kernel
theorem dX_hashkey_8 : decode bX_hashkey 8 = .ok (.aload_n 0, 1) := by decide +kernel
theorem dX_hashkey_9 : decode bX_hashkey 9 = .ok (.iload_n 2, 1) := by decide +kernel
theorem dX_hashkey_10 : decode bX_hashkey 10 = .ok (.invokevirtual 52, 3) := by decide +kernel
theorem dX_hashkey_13 : decode bX_hashkey 13 = .ok (.ifCond .eq 17, 3) := by decide +kernel
theorem dX_hashkey_16 : decode bX_hashkey 16 = .ok (.aload_n 0, 1) := by decide +kernel
theorem dX_hashkey_17 : decode bX_hashkey 17 = .ok (.getfield 22, 3) := by decide +kernel
theorem dX_hashkey_20 : decode bX_hashkey 20 = .ok (.iload_n 1, 1) := by decide +kernel
theorem dX_hashkey_21 : decode bX_hashkey 21 = .ok (.bipush 6, 2) := by decide +kernel
theorem dX_hashkey_23 : decode bX_hashkey 23 = .ok (.imul, 1) := by decide +kernel
theorem dX_hashkey_24 : decode bX_hashkey 24 = .ok (.iload_n 2, 1) := by decide +kernel
theorem dX_hashkey_25 : decode bX_hashkey 25 = .ok (.iadd, 1) := by decide +kernel
theorem dX_hashkey_26 : decode bX_hashkey 26 = .ok (.iaload, 1) := by decide +kernel
theorem dX_hashkey_27 : decode bX_hashkey 27 = .ok (.goto 4, 3) := by decide +kernel
theorem dX_hashkey_30 : decode bX_hashkey 30 = .ok (.iconst 0, 1) := by decide +kernel
theorem dX_hashkey_31 : decode bX_hashkey 31 = .ok (.ireturn, 1) := by decide +kernel
theorem dX_isUnlocked_0 : decode bX_isUnlocked 0 = .ok (.aload_n 0, 1) := by decide +kernel
theorem dX_isUnlocked_1 : decode bX_isUnlocked 1 = .ok (.getfield 19, 3) := by decide +kernel
theorem dX_isUnlocked_4 : decode bX_isUnlocked 4 = .ok (.iload_n 1, 1) := by decide +kernel
theorem dX_isUnlocked_5 : decode bX_isUnlocked 5 = .ok (.iaload, 1) := by decide +kernel
theorem dX_isUnlocked_6 : decode bX_isUnlocked 6 = .ok (.iload_n 2, 1) := by decide +kernel
theorem dX_isUnlocked_7 : decode bX_isUnlocked 7 = .ok (.ishr, 1) := by decide +kernel
theorem dX_isUnlocked_8 : decode bX_isUnlocked 8 = .ok (.iconst 1, 1) := by decide +kernel
theorem dX_isUnlocked_9 : decode bX_isUnlocked 9 = .ok (.iand, 1) := by decide +kernel
theorem dX_isUnlocked_10 : decode bX_isUnlocked 10 = .ok (.iconst 1, 1) := by decide +kernel
theorem dX_isUnlocked_11 : decode bX_isUnlocked 11 = .ok (.if_icmp .ne 7, 3) := by decide +kernel
theorem dX_isUnlocked_14 : decode bX_isUnlocked 14 = .ok (.iconst 1, 1) := by decide +kernel
theorem dX_isUnlocked_15 : decode bX_isUnlocked 15 = .ok (.goto 4, 3) := by decide +kernel
theorem dX_isUnlocked_18 : decode bX_isUnlocked 18 = .ok (.iconst 0, 1) := by decide +kernel
theorem dX_isUnlocked_19 : decode bX_isUnlocked 19 = .ok (.ireturn, 1) := by decide +kernel
theorem dX_unlock_0 : decode bX_unlock 0 = .ok (.aload_n 0, 1) := by decide +kernel
theorem dX_unlock_1 : decode bX_unlock 1 = .ok (.getfield 22, 3) := by decide +kernel
theorem dX_unlock_4 : decode bX_unlock 4 = .ok (.iload_n 1, 1) := by decide +kernel
theorem dX_unlock_5 : decode bX_unlock 5 = .ok (.bipush 6, 2) := by decide +kernel
theorem dX_unlock_7 : decode bX_unlock 7 = .ok (.imul, 1) := by decide +kernel
theorem dX_unlock_8 : decode bX_unlock 8 = .ok (.iload_n 2, 1) := by decide +kernel
theorem dX_unlock_9 : decode bX_unlock 9 = .ok (.iadd, 1) := by decide +kernel
theorem dX_unlock_10 : decode bX_unlock 10 = .ok (.iload_n 3, 1) := by decide +kernel
theorem dX_unlock_11 : decode bX_unlock 11 = .ok (.iastore, 1) := by decide +kernel
theorem dX_unlock_12 : decode bX_unlock 12 = .ok (.aload_n 0, 1) := by decide +kernel
theorem dX_unlock_13 : decode bX_unlock 13 = .ok (.getfield 19, 3) := by decide +kernel
theorem dX_unlock_16 : decode bX_unlock 16 = .ok (.iload_n 1, 1) := by decide +kernel
theorem dX_unlock_17 : decode bX_unlock 17 = .ok (.dup2, 1) := by decide +kernel
theorem dX_unlock_18 : decode bX_unlock 18 = .ok (.iaload, 1) := by decide +kernel
theorem dX_unlock_19 : decode bX_unlock 19 = .ok (.iconst 1, 1) := by decide +kernel
theorem dX_unlock_20 : decode bX_unlock 20 = .ok (.iload_n 2, 1) := by decide +kernel
theorem dX_unlock_21 : decode bX_unlock 21 = .ok (.ishl, 1) := by decide +kernel
theorem dX_unlock_22 : decode bX_unlock 22 = .ok (.ior, 1) := by decide +kernel
theorem dX_unlock_23 : decode bX_unlock 23 = .ok (.iastore, 1) := by decide +kernel
theorem dX_unlock_24 : decode bX_unlock 24 = .ok (.aload_n 0, 1) := by decide +kernel
theorem dX_unlock_25 : decode bX_unlock 25 = .ok (.getfield 19, 3) := by decide +kernel
theorem dX_unlock_28 : decode bX_unlock 28 = .ok (.iload_n 1, 1) := by decide +kernel
theorem dX_unlock_29 : decode bX_unlock 29 = .ok (.iaload, 1) := by decide +kernel
theorem dX_unlock_30 : decode bX_unlock 30 = .ok (.aload_n 0, 1) := by decide +kernel
theorem dX_unlock_31 : decode bX_unlock 31 = .ok (.getfield 110, 3) := by decide +kernel
theorem dX_unlock_34 : decode bX_unlock 34 = .ok (.if_icmp .ne 10, 3) := by decide +kernel
theorem dX_unlock_37 : decode bX_unlock 37 = .ok (.aload_n 0, 1) := by decide +kernel
theorem dX_unlock_38 : decode bX_unlock 38 = .ok (.getfield 16, 3) := by decide +kernel
theorem dX_unlock_41 : decode bX_unlock 41 = .ok (.iload_n 1, 1) := by decide +kernel
theorem dX_unlock_42 : decode bX_unlock 42 = .ok (.iconst 2, 1) := by decide +kernel
theorem dX_unlock_43 : decode bX_unlock 43 = .ok (.iastore, 1) := by decide +kernel
theorem dX_unlock_44 : decode bX_unlock 44 = .ok (.return_, 1) := by decide +kernel
theorem dX_mayShow_0 : decode bX_mayShow 0 = .ok (.iload_n 2, 1) := by decide +kernel
theorem dX_mayShow_1 : decode bX_mayShow 1 = .ok (.invokestatic 203, 3) := by decide +kernel
theorem dX_mayShow_4 : decode bX_mayShow 4 = .ok (.istore_n 3, 1) := by decide +kernel
theorem dX_mayShow_5 : decode bX_mayShow 5 = .ok (.iload_n 3, 1) := by decide +kernel
theorem dX_mayShow_6 : decode bX_mayShow 6 = .ok (.ifCond .ne 5, 3) := by decide +kernel
theorem dX_mayShow_9 : decode bX_mayShow 9 = .ok (.iconst 1, 1) := by decide +kernel
theorem dX_mayShow_10 : decode bX_mayShow 10 = .ok (.ireturn, 1) := by decide +kernel
theorem dX_mayShow_11 : decode bX_mayShow 11 = .ok (.iconst 0, 1) := by decide +kernel
theorem dX_mayShow_12 : decode bX_mayShow 12 = .ok (.istore 4, 2) := by decide +kernel
theorem dX_mayShow_14 : decode bX_mayShow 14 = .ok (.iload 4, 2) := by decide +kernel
theorem dX_mayShow_16 : decode bX_mayShow 16 = .ok (.aload_n 0, 1) := by decide +kernel
theorem dX_mayShow_17 : decode bX_mayShow 17 = .ok (.getfield 71, 3) := by decide +kernel
theorem dX_mayShow_20 : decode bX_mayShow 20 = .ok (.if_icmp .ge 22, 3) := by decide +kernel
theorem dX_mayShow_23 : decode bX_mayShow 23 = .ok (.aload_n 0, 1) := by decide +kernel
theorem dX_mayShow_24 : decode bX_mayShow 24 = .ok (.iload 4, 2) := by decide +kernel
theorem dX_mayShow_26 : decode bX_mayShow 26 = .ok (.iload_n 1, 1) := by decide +kernel
theorem dX_mayShow_27 : decode bX_mayShow 27 = .ok (.invokevirtual 190, 3) := by decide +kernel
theorem dX_mayShow_30 : decode bX_mayShow 30 = .ok (.iload_n 3, 1) := by decide +kernel
theorem dX_mayShow_31 : decode bX_mayShow 31 = .ok (.if_icmp .ne 5, 3) := by decide +kernel
theorem dX_mayShow_34 : decode bX_mayShow 34 = .ok (.iconst 1, 1) := by decide +kernel
theorem dX_mayShow_35 : decode bX_mayShow 35 = .ok (.ireturn, 1) := by decide +kernel
theorem dX_mayShow_36 : decode bX_mayShow 36 = .ok (.iinc 4 1, 3) := by decide +kernel
theorem dX_mayShow_39 : decode bX_mayShow 39 = .ok (.goto (-25), 3) := by decide +kernel
theorem dX_mayShow_42 : decode bX_mayShow 42 = .ok (.iconst 0, 1) := by decide +kernel
theorem dX_mayShow_43 : decode bX_mayShow 43 = .ok (.ireturn, 1) := by decide +kernel
theorem dX_isSecured_0 : decode bX_isSecured 0 = .ok (.iconst 0, 1) := by decide +kernel
theorem dX_isSecured_1 : decode bX_isSecured 1 = .ok (.istore_n 2, 1) := by decide +kernel
theorem dX_isSecured_2 : decode bX_isSecured 2 = .ok (.iload_n 2, 1) := by decide +kernel
theorem dX_isSecured_3 : decode bX_isSecured 3 = .ok (.aload_n 0, 1) := by decide +kernel
theorem dX_isSecured_4 : decode bX_isSecured 4 = .ok (.getfield 71, 3) := by decide +kernel
theorem dX_isSecured_7 : decode bX_isSecured 7 = .ok (.if_icmp .ge 41, 3) := by decide +kernel
theorem dX_isSecured_10 : decode bX_isSecured 10 = .ok (.aload_n 0, 1) := by decide +kernel
theorem dX_isSecured_11 : decode bX_isSecured 11 = .ok (.getfield 13, 3) := by decide +kernel
theorem dX_isSecured_14 : decode bX_isSecured 14 = .ok (.iload_n 2, 1) := by decide +kernel
theorem dX_isSecured_15 : decode bX_isSecured 15 = .ok (.iaload, 1) := by decide +kernel
theorem dX_isSecured_16 : decode bX_isSecured 16 = .ok (.iload_n 1, 1) := by decide +kernel
theorem dX_isSecured_17 : decode bX_isSecured 17 = .ok (.if_icmp .ne 25, 3) := by decide +kernel
theorem dX_isSecured_20 : decode bX_isSecured 20 = .ok (.aload_n 0, 1) := by decide +kernel
theorem dX_isSecured_21 : decode bX_isSecured 21 = .ok (.getfield 16, 3) := by decide +kernel
theorem dX_isSecured_24 : decode bX_isSecured 24 = .ok (.iload_n 2, 1) := by decide +kernel
theorem dX_isSecured_25 : decode bX_isSecured 25 = .ok (.iaload, 1) := by decide +kernel
theorem dX_isSecured_26 : decode bX_isSecured 26 = .ok (.iconst 1, 1) := by decide +kernel
theorem dX_isSecured_27 : decode bX_isSecured 27 = .ok (.if_icmp .eq 15, 3) := by decide +kernel
theorem dX_isSecured_30 : decode bX_isSecured 30 = .ok (.aload_n 0, 1) := by decide +kernel
theorem dX_isSecured_31 : decode bX_isSecured 31 = .ok (.getfield 16, 3) := by decide +kernel
theorem dX_isSecured_34 : decode bX_isSecured 34 = .ok (.iload_n 2, 1) := by decide +kernel
theorem dX_isSecured_35 : decode bX_isSecured 35 = .ok (.iaload, 1) := by decide +kernel
theorem dX_isSecured_36 : decode bX_isSecured 36 = .ok (.iconst 2, 1) := by decide +kernel
theorem dX_isSecured_37 : decode bX_isSecured 37 = .ok (.if_icmp .eq 5, 3) := by decide +kernel
theorem dX_isSecured_40 : decode bX_isSecured 40 = .ok (.iconst 0, 1) := by decide +kernel
theorem dX_isSecured_41 : decode bX_isSecured 41 = .ok (.ireturn, 1) := by decide +kernel
theorem dX_isSecured_42 : decode bX_isSecured 42 = .ok (.iinc 2 1, 3) := by decide +kernel
theorem dX_isSecured_45 : decode bX_isSecured 45 = .ok (.goto (-43), 3) := by decide +kernel
theorem dX_isSecured_48 : decode bX_isSecured 48 = .ok (.iconst 1, 1) := by decide +kernel
theorem dX_isSecured_49 : decode bX_isSecured 49 = .ok (.ireturn, 1) := by decide +kernel
theorem inX_isParty_X : ∀ x ∈ u_ws RcX TcX 16, x ∈ wX_isParty := by decide +kernel
theorem inX_isArc_X : ∀ x ∈ u_ws RcX TcX 16, x ∈ wX_isArc := by decide +kernel
set_option maxRecDepth 20000 in
theorem gX_isLeader_X_isParty : GoodIn wX_isLeader (wsV RcX 52 RcX yX_isParty wX_isParty) := goodIn_app (goodIn_of _ (by decide +kernel)) (goodIn_r _ [6, 7, 8, 9, 10, 11, 12, 13, 14, 15, 16, 17, 18, 19, 20, 21, 22, 23] (by decide +kernel) (by decide +kernel))
theorem inX_isLeader_X : ∀ x ∈ u_ws RcX TcX 16, x ∈ wX_isLeader := by decide +kernel
theorem inX_conforms_X : ∀ x ∈ u_ws RcX TcX 16, x ∈ wX_conforms := by decide +kernel
theorem inX_isOver_X : ∀ x ∈ u_ws RcX TcX 16, x ∈ wX_isOver := by decide +kernel
set_option maxRecDepth 20000 in
theorem gX_isInTime_R_size : GoodIn wX_isInTime (va_wsS RcX 141 yR_size wR_size) := goodIn_app (goodIn_of _ (by decide +kernel)) (goodIn_r _ [8] (by decide +kernel) (by decide +kernel))
theorem inX_isInTime_X : ∀ x ∈ u_ws RcX TcX 16, x ∈ wX_isInTime := by decide +kernel
set_option maxRecDepth 20000 in
theorem gX_hashkey_X_isArc : GoodIn wX_hashkey (wsV RcX 131 RcX yX_isArc wX_isArc) := goodIn_app (goodIn_of _ (by decide +kernel)) (goodIn_r _ [9, 10, 13, 14, 15, 16, 17, 18, 19, 20, 21, 22, 23, 24, 25, 26, 27, 28] (by decide +kernel) (by decide +kernel))
set_option maxRecDepth 20000 in
theorem gX_hashkey_X_isParty : GoodIn wX_hashkey (wsV RcX 52 RcX yX_isParty wX_isParty) := goodIn_app (goodIn_of _ (by decide +kernel)) (goodIn_r _ [11, 12, 13, 14, 15, 16, 17, 18, 19, 20, 21, 22, 23, 24, 25, 26, 27, 28] (by decide +kernel) (by decide +kernel))
theorem inX_hashkey_X : ∀ x ∈ u_ws RcX TcX 16, x ∈ wX_hashkey := by decide +kernel
theorem inX_isUnlocked_X : ∀ x ∈ u_ws RcX TcX 16, x ∈ wX_isUnlocked := by decide +kernel
theorem inX_unlock_X : ∀ x ∈ u_ws RcX TcX 16, x ∈ wX_unlock := by decide +kernel
set_option maxRecDepth 20000 in
theorem gX_mayShow_R_rest : GoodIn wX_mayShow (va_wsS RcX 203 yR_rest wR_rest) := goodIn_app (goodIn_of _ (by decide +kernel)) (goodIn_r _ [9] (by decide +kernel) (by decide +kernel))
theorem inX_mayShow_X : ∀ x ∈ u_ws RcX TcX 16, x ∈ wX_mayShow := by decide +kernel
set_option maxRecDepth 20000 in
theorem gX_mayShow_X_hashkey : GoodIn wX_mayShow (wsV RcX 190 RcX yX_hashkey wX_hashkey) := goodIn_app (goodIn_of _ (by decide +kernel)) (goodIn_r _ [10, 11, 12, 13, 8, 14, 15, 16, 17, 18, 4, 19, 20, 21, 22, 23, 24, 25, 26, 27, 28, 29, 30, 31, 32, 33, 34, 35, 36] (by decide +kernel) (by decide +kernel))
theorem inX_isSecured_X : ∀ x ∈ u_ws RcX TcX 16, x ∈ wX_isSecured := by decide +kernel
end
section
set_option maxHeartbeats 4000000 in
set_option maxRecDepth 100000 in
theorem c_isPartyF (l : Launch) (D : va_G) (cI cZ cJ : ClassId) (b : Nat → Nat) (F : FT) (a : AT) (x : Int32) : Kr l yX_isParty wX_isParty ({ frames := 0, cells := 0, slots := 0, locals := 0 } : Room) D vwCl (tyG cI cZ cJ) [.ref (b 0), .int x] (wX cI b F a) (isPartyF F a x) := by
  intro sz
  refine v_ent (cc := bX_isParty) (maxL := 2) (ret := (some .boolean)) (Qc := (fun _ _ st oc t => oc = .returned (some (.int (isPartyF F a x))) ∧ t.heap = st.heap)) (fr := (fun _ _ => False)) (own := RcX) rfl (by decide) rfl (Nat.le_of_ble_eq_true rfl) rfl ?_
  intro p e s m args below meth c A C hr _
  refine v_iload_n C 1 dX_isParty_0 rfl rfl ?_
  refine v_if_lt C dX_isParty_1 (tgt := 16) (by decide) (fun h1 => ?_) (fun h1 => ?_)
  · skip
    refine v_iconst C (v := 0) dX_isParty_16 (by decide) ?_
    exact v_zrr C hr (by decide) (by unfold isPartyF; rw [if_pos h1]) dX_isParty_17
  · skip
    refine v_iload_n C 1 dX_isParty_4 rfl rfl ?_
    refine v_aload_n C 0 dX_isParty_5 rfl rfl ?_
    refine v_get C (T := TcX) (N := 16) (ci := 0) (v := .int (F 0)) inX_isParty_X 0 rfl rfl 0 (by decide) (by decide +kernel) rfl rfl dX_isParty_6 ?_
    refine v_icmp_ge C dX_isParty_9 (tgt := 16) (by decide) (fun h2 => ?_) (fun h2 => ?_)
    · skip
      refine v_iconst C (v := 0) dX_isParty_16 (by decide) ?_
      exact v_zrr C hr (by decide) (by unfold isPartyF; rw [if_neg h1, if_pos h2]) dX_isParty_17
    · skip
      refine v_iconst C (v := 1) dX_isParty_12 (by decide) ?_
      refine v_goto C dX_isParty_13 (tgt := 17) (by decide) ?_
      exact v_zrr C hr (by decide) (by unfold isPartyF; rw [if_neg h1, if_neg h2]) dX_isParty_17
set_option maxHeartbeats 4000000 in
set_option maxRecDepth 100000 in
theorem c_isArcF (l : Launch) (D : va_G) (cI cZ cJ : ClassId) (b : Nat → Nat) (F : FT) (a : AT) (x : Int32) : Kr l yX_isArc wX_isArc ({ frames := 0, cells := 0, slots := 0, locals := 0 } : Room) D vwCl (tyG cI cZ cJ) [.ref (b 0), .int x] (wX cI b F a) (isArcF F a x) := by
  intro sz
  refine v_ent (cc := bX_isArc) (maxL := 2) (ret := (some .boolean)) (Qc := (fun _ _ st oc t => oc = .returned (some (.int (isArcF F a x))) ∧ t.heap = st.heap)) (fr := (fun _ _ => False)) (own := RcX) rfl (by decide) rfl (Nat.le_of_ble_eq_true rfl) rfl ?_
  intro p e s m args below meth c A C hr _
  refine v_iload_n C 1 dX_isArc_0 rfl rfl ?_
  refine v_if_lt C dX_isArc_1 (tgt := 16) (by decide) (fun h1 => ?_) (fun h1 => ?_)
  · skip
    refine v_iconst C (v := 0) dX_isArc_16 (by decide) ?_
    exact v_zrr C hr (by decide) (by unfold isArcF; rw [if_pos h1]) dX_isArc_17
  · skip
    refine v_iload_n C 1 dX_isArc_4 rfl rfl ?_
    refine v_aload_n C 0 dX_isArc_5 rfl rfl ?_
    refine v_get C (T := TcX) (N := 16) (ci := 0) (v := .int (F 8)) inX_isArc_X 0 rfl rfl 8 (by decide) (by decide +kernel) rfl rfl dX_isArc_6 ?_
    refine v_icmp_ge C dX_isArc_9 (tgt := 16) (by decide) (fun h2 => ?_) (fun h2 => ?_)
    · skip
      refine v_iconst C (v := 0) dX_isArc_16 (by decide) ?_
      exact v_zrr C hr (by decide) (by unfold isArcF; rw [if_neg h1, if_pos h2]) dX_isArc_17
    · skip
      refine v_iconst C (v := 1) dX_isArc_12 (by decide) ?_
      refine v_goto C dX_isArc_13 (tgt := 17) (by decide) ?_
      exact v_zrr C hr (by decide) (by unfold isArcF; rw [if_neg h1, if_neg h2]) dX_isArc_17
set_option maxHeartbeats 4000000 in
set_option maxRecDepth 100000 in
theorem c_isLeaderF (l : Launch) (D : va_G) (cI cZ cJ : ClassId) (b : Nat → Nat) (F : FT) (a : AT) (x : Int32) : Kr l yX_isLeader wX_isLeader ({ frames := 1, cells := 0, slots := 0, locals := 21 } : Room) D vwCl (tyG cI cZ cJ) [.ref (b 0), .int x] (wX cI b F a) (isLeaderF F a x) := by
  intro sz
  refine v_ent (cc := bX_isLeader) (maxL := 2) (ret := (some .boolean)) (Qc := (fun _ _ st oc t => oc = .returned (some (.int (isLeaderF F a x))) ∧ t.heap = st.heap)) (fr := (fun _ _ => False)) (own := RcX) rfl (by decide) rfl (Nat.le_of_ble_eq_true rfl) rfl ?_
  intro p e s m args below meth c A C hr _
  refine v_aload_n C 0 dX_isLeader_0 rfl rfl ?_
  refine v_iload_n C 1 dX_isLeader_1 rfl rfl ?_
  refine v_cVrF (As := [.int x]) C (c_isPartyF l D cI cZ cJ b F a x) (cwV 1 C.2.2.2.2.1 gX_isLeader_X_isParty rfl rfl rfl (by decide +kernel) ⟨Nat.le_of_ble_eq_true rfl, Nat.le_of_ble_eq_true rfl⟩) 0 rfl (T := TcX) (N := 16) rfl rfl rfl (Nat.le_of_ble_eq_true rfl) ⟨Nat.zero_le _, Nat.zero_le _⟩ dX_isLeader_2 ?_
  refine v_if_eq C dX_isLeader_5 (tgt := 24) (by decide) (fun h1 => ?_) (fun h1 => ?_)
  · skip
    refine v_iconst C (v := 0) dX_isLeader_24 (by decide) ?_
    exact v_zrr C hr (by decide) (by unfold isLeaderF; rw [if_pos h1]) dX_isLeader_25
  · skip
    refine v_aload_n C 0 dX_isLeader_8 rfl rfl ?_
    refine v_get C (T := TcX) (N := 16) (ci := 0) (v := .int (F 10)) inX_isLeader_X 0 rfl rfl 10 (by decide) (by decide +kernel) rfl rfl dX_isLeader_9 ?_
    refine v_iload_n C 1 dX_isLeader_12 rfl rfl ?_
    refine v_ishr C dX_isLeader_13 ?_
    refine v_iconst C (v := 1) dX_isLeader_14 (by decide) ?_
    refine v_iand C dX_isLeader_15 ?_
    refine v_iconst C (v := 1) dX_isLeader_16 (by decide) ?_
    refine v_icmp_ne C dX_isLeader_17 (tgt := 24) (by decide) (fun h2 => ?_) (fun h2 => ?_)
    · skip
      refine v_iconst C (v := 0) dX_isLeader_24 (by decide) ?_
      exact v_zrr C hr (by decide) (by unfold isLeaderF; rw [if_neg h1, if_neg h2]) dX_isLeader_25
    · skip
      refine v_iconst C (v := 1) dX_isLeader_20 (by decide) ?_
      refine v_goto C dX_isLeader_21 (tgt := 25) (by decide) ?_
      exact v_zrr C hr (by decide) (by unfold isLeaderF; rw [if_neg h1, if_pos h2]) dX_isLeader_25
set_option maxHeartbeats 4000000 in
set_option maxRecDepth 100000 in
theorem c_conformsF (l : Launch) (D : va_G) (cI cZ cJ : ClassId) (b : Nat → Nat) (F : FT) (a : AT) (x : Int32) : Kr l yX_conforms wX_conforms ({ frames := 0, cells := 0, slots := 0, locals := 0 } : Room) D vwCl (tyG cI cZ cJ) [.ref (b 0), .int x] (wX cI b F a) (conformsF F a x) := by
  intro sz
  refine v_ent (cc := bX_conforms) (maxL := 2) (ret := (some .boolean)) (Qc := (fun _ _ st oc t => oc = .returned (some (.int (conformsF F a x))) ∧ t.heap = st.heap)) (fr := (fun _ _ => False)) (own := RcX) rfl (by decide) rfl (Nat.le_of_ble_eq_true rfl) rfl ?_
  intro p e s m args below meth c A C hr _
  refine v_aload_n C 0 dX_conforms_0 rfl rfl ?_
  refine v_get C (T := TcX) (N := 16) (ci := 0) (v := .int (F 14)) inX_conforms_X 0 rfl rfl 14 (by decide) (by decide +kernel) rfl rfl dX_conforms_1 ?_
  refine v_iload_n C 1 dX_conforms_4 rfl rfl ?_
  refine v_ishr C dX_conforms_5 ?_
  refine v_iconst C (v := 1) dX_conforms_6 (by decide) ?_
  refine v_iand C dX_conforms_7 ?_
  refine v_if_ne C dX_conforms_8 (tgt := 15) (by decide) (fun h1 => ?_) (fun h1 => ?_)
  · skip
    refine v_iconst C (v := 0) dX_conforms_15 (by decide) ?_
    exact v_zrr C hr (by decide) (by unfold conformsF; rw [if_neg h1]) dX_conforms_16
  · skip
    refine v_iconst C (v := 1) dX_conforms_11 (by decide) ?_
    refine v_goto C dX_conforms_12 (tgt := 16) (by decide) ?_
    exact v_zrr C hr (by decide) (by unfold conformsF; rw [if_pos h1]) dX_conforms_16
set_option maxHeartbeats 4000000 in
set_option maxRecDepth 100000 in
theorem c_isOverF (l : Launch) (D : va_G) (cI cZ cJ : ClassId) (b : Nat → Nat) (F : FT) (a : AT) : Kr l yX_isOver wX_isOver ({ frames := 0, cells := 0, slots := 0, locals := 0 } : Room) D vwCl (tyG cI cZ cJ) [.ref (b 0)] (wX cI b F a) (isOverF F a) := by
  intro sz
  refine v_ent (cc := bX_isOver) (maxL := 1) (ret := (some .boolean)) (Qc := (fun _ _ st oc t => oc = .returned (some (.int (isOverF F a))) ∧ t.heap = st.heap)) (fr := (fun _ _ => False)) (own := RcX) rfl (by decide) rfl (Nat.le_of_ble_eq_true rfl) rfl ?_
  intro p e s m args below meth c A C hr _
  refine v_aload_n C 0 dX_isOver_0 rfl rfl ?_
  refine v_get C (T := TcX) (N := 16) (ci := 0) (v := .int (F 13)) inX_isOver_X 0 rfl rfl 13 (by decide) (by decide +kernel) rfl rfl dX_isOver_1 ?_
  refine v_aload_n C 0 dX_isOver_4 rfl rfl ?_
  refine v_get C (T := TcX) (N := 16) (ci := 0) (v := .int (F 12)) inX_isOver_X 0 rfl rfl 12 (by decide) (by decide +kernel) rfl rfl dX_isOver_5 ?_
  refine v_iconst C (v := 2) dX_isOver_8 (by decide) ?_
  refine v_aload_n C 0 dX_isOver_9 rfl rfl ?_
  refine v_get C (T := TcX) (N := 16) (ci := 0) (v := .int (F 11)) inX_isOver_X 0 rfl rfl 11 (by decide) (by decide +kernel) rfl rfl dX_isOver_10 ?_
  refine v_imul C dX_isOver_13 ?_
  refine v_aload_n C 0 dX_isOver_14 rfl rfl ?_
  refine v_get C (T := TcX) (N := 16) (ci := 0) (v := .int (F 1)) inX_isOver_X 0 rfl rfl 1 (by decide) (by decide +kernel) rfl rfl dX_isOver_15 ?_
  refine v_imul C dX_isOver_18 ?_
  refine v_iadd C dX_isOver_19 ?_
  refine v_icmp_lt C dX_isOver_20 (tgt := 27) (by decide) (fun h1 => ?_) (fun h1 => ?_)
  · skip
    refine v_iconst C (v := 0) dX_isOver_27 (by decide) ?_
    exact v_zrr C hr (by decide) (by unfold isOverF; rw [if_pos h1]) dX_isOver_28
  · skip
    refine v_iconst C (v := 1) dX_isOver_23 (by decide) ?_
    refine v_goto C dX_isOver_24 (tgt := 28) (by decide) ?_
    exact v_zrr C hr (by decide) (by unfold isOverF; rw [if_neg h1]) dX_isOver_28
set_option maxHeartbeats 4000000 in
set_option maxRecDepth 100000 in
theorem c_isInTimeF (l : Launch) (D : va_G) (cI cZ cJ : ClassId) (b : Nat → Nat) (F : FT) (a : AT) (row : Int32) : Kr l yX_isInTime wX_isInTime ({ frames := 1, cells := 0, slots := 0, locals := 21 } : Room) D vwCl (tyG cI cZ cJ) [.ref (b 0), .int row] (wX cI b F a) (isInTimeF F a row) := by
  intro sz
  refine v_ent (cc := bX_isInTime) (maxL := 3) (ret := (some .boolean)) (Qc := (fun _ _ st oc t => oc = .returned (some (.int (isInTimeF F a row))) ∧ t.heap = st.heap)) (fr := (fun _ _ => False)) (own := RcX) rfl (by decide) rfl (Nat.le_of_ble_eq_true rfl) rfl ?_
  intro p e s m args below meth c A C hr _
  refine v_iload_n C 1 dX_isInTime_0 rfl rfl ?_
  refine v_cSr0 (As := [.int row]) C (c_rSize l D cI cZ cJ row) (va_cwS 1 C.2.2.2.2.1 gX_isInTime_R_size rfl rfl rfl (by decide +kernel) ⟨Nat.le_of_ble_eq_true rfl, Nat.le_of_ble_eq_true rfl⟩) rfl rfl (Nat.le_of_ble_eq_true rfl) ⟨Nat.zero_le _, Nat.zero_le _⟩ dX_isInTime_1 ?_
  refine v_iconst C (v := 1) dX_isInTime_4 (by decide) ?_
  refine v_isub C dX_isInTime_5 ?_
  refine v_istore_n C (lv' := [(0, .ref (b 0)), (1, .int row), (2, .int ((rSize row) - (1 : Int32)))]) [1, 2, 0] dX_isInTime_6 rfl (by decide) rfl ?_
  refine v_aload_n C 0 dX_isInTime_7 rfl rfl ?_
  refine v_get C (T := TcX) (N := 16) (ci := 0) (v := .int (F 13)) inX_isInTime_X 0 rfl rfl 13 (by decide) (by decide +kernel) rfl rfl dX_isInTime_8 ?_
  refine v_aload_n C 0 dX_isInTime_11 rfl rfl ?_
  refine v_get C (T := TcX) (N := 16) (ci := 0) (v := .int (F 12)) inX_isInTime_X 0 rfl rfl 12 (by decide) (by decide +kernel) rfl rfl dX_isInTime_12 ?_
  refine v_aload_n C 0 dX_isInTime_15 rfl rfl ?_
  refine v_get C (T := TcX) (N := 16) (ci := 0) (v := .int (F 11)) inX_isInTime_X 0 rfl rfl 11 (by decide) (by decide +kernel) rfl rfl dX_isInTime_16 ?_
  refine v_iload_n C 2 dX_isInTime_19 rfl rfl ?_
  refine v_iadd C dX_isInTime_20 ?_
  refine v_aload_n C 0 dX_isInTime_21 rfl rfl ?_
  refine v_get C (T := TcX) (N := 16) (ci := 0) (v := .int (F 1)) inX_isInTime_X 0 rfl rfl 1 (by decide) (by decide +kernel) rfl rfl dX_isInTime_22 ?_
  refine v_imul C dX_isInTime_25 ?_
  refine v_iadd C dX_isInTime_26 ?_
  refine v_icmp_ge C dX_isInTime_27 (tgt := 34) (by decide) (fun h1 => ?_) (fun h1 => ?_)
  · skip
    refine v_iconst C (v := 0) dX_isInTime_34 (by decide) ?_
    exact v_zrr C hr (by decide) (by unfold isInTimeF; rw [if_pos h1]) dX_isInTime_35
  · skip
    refine v_iconst C (v := 1) dX_isInTime_30 (by decide) ?_
    refine v_goto C dX_isInTime_31 (tgt := 35) (by decide) ?_
    exact v_zrr C hr (by decide) (by unfold isInTimeF; rw [if_neg h1]) dX_isInTime_35
set_option maxHeartbeats 4000000 in
set_option maxRecDepth 100000 in
theorem c_hashkeyF (l : Launch) (D : va_G) (cI cZ cJ : ClassId) (b : Nat → Nat) (F : FT) (a : AT) (n : Nat) (P : Nat) (x : Int32) (y : Int32) (hn : F 8 = nI n) (hn4 : n ≤ 14) (hp : F 0 = nI P) (hp6 : P ≤ 6) : Kr l yX_hashkey wX_hashkey ({ frames := 1, cells := 0, slots := 0, locals := 21 } : Room) D vwCl (tyG cI cZ cJ) [.ref (b 0), .int x, .int y] (wX cI b F a) (hashkeyF F a x y) := by
  intro sz
  refine v_ent (cc := bX_hashkey) (maxL := 3) (ret := (some .int)) (Qc := (fun _ _ st oc t => oc = .returned (some (.int (hashkeyF F a x y))) ∧ t.heap = st.heap)) (fr := (fun _ _ => False)) (own := RcX) rfl (by decide) rfl (Nat.le_of_ble_eq_true rfl) rfl ?_
  intro p e s m args below meth c A C hr _
  refine v_aload_n C 0 dX_hashkey_0 rfl rfl ?_
  refine v_iload_n C 1 dX_hashkey_1 rfl rfl ?_
  refine v_cVrF (As := [.int x]) C (c_isArcF l D cI cZ cJ b F a x) (cwV 1 C.2.2.2.2.1 gX_hashkey_X_isArc rfl rfl rfl (by decide +kernel) ⟨Nat.le_of_ble_eq_true rfl, Nat.le_of_ble_eq_true rfl⟩) 0 rfl (T := TcX) (N := 16) rfl rfl rfl (Nat.le_of_ble_eq_true rfl) ⟨Nat.zero_le _, Nat.zero_le _⟩ dX_hashkey_2 ?_
  refine v_if_eq C dX_hashkey_5 (tgt := 30) (by decide) (fun h1 => ?_) (fun h1 => ?_)
  · skip
    refine v_iconst C (v := 0) dX_hashkey_30 (by decide) ?_
    exact v_irr C hr (by unfold hashkeyF; rw [if_pos h1]) dX_hashkey_31
  · skip
    refine v_aload_n C 0 dX_hashkey_8 rfl rfl ?_
    refine v_iload_n C 2 dX_hashkey_9 rfl rfl ?_
    refine v_cVrF (As := [.int y]) C (c_isPartyF l D cI cZ cJ b F a y) (cwV 1 C.2.2.2.2.1 gX_hashkey_X_isParty rfl rfl rfl (by decide +kernel) ⟨Nat.le_of_ble_eq_true rfl, Nat.le_of_ble_eq_true rfl⟩) 0 rfl (T := TcX) (N := 16) rfl rfl rfl (Nat.le_of_ble_eq_true rfl) ⟨Nat.zero_le _, Nat.zero_le _⟩ dX_hashkey_10 ?_
    refine v_if_eq C dX_hashkey_13 (tgt := 30) (by decide) (fun h2 => ?_) (fun h2 => ?_)
    · skip
      refine v_iconst C (v := 0) dX_hashkey_30 (by decide) ?_
      exact v_irr C hr (by unfold hashkeyF; rw [if_neg h1, if_pos h2]) dX_hashkey_31
    · skip
      refine v_aload_n C 0 dX_hashkey_16 rfl rfl ?_
      refine v_get C (T := TcX) (N := 16) (ci := 0) (v := .ref (b 6)) inX_hashkey_X 0 rfl rfl 7 (by decide) (by decide +kernel) rfl rfl dX_hashkey_17 ?_
      refine v_iload_n C 1 dX_hashkey_20 rfl rfl ?_
      refine v_bipush C (v := 6) dX_hashkey_21 (by decide) ?_
      refine v_imul C dX_hashkey_23 ?_
      refine v_iload_n C 2 dX_hashkey_24 rfl rfl ?_
      refine v_iadd C dX_hashkey_25 ?_
      refine v_iald C 6 0 (f := a 7) (y := (a 7) (((x * (6 : Int32)) + y).toNatClampNeg)) (j := ((x * (6 : Int32)) + y).toNatClampNeg) rfl rfl rfl rfl (vp_key (by assumption) (by assumption) hn hn4 hp hp6) dX_hashkey_26 ?_
      refine v_goto C dX_hashkey_27 (tgt := 31) (by decide) ?_
      exact v_irr C hr (by unfold hashkeyF; rw [if_neg h1, if_neg h2]) dX_hashkey_31
set_option maxHeartbeats 4000000 in
set_option maxRecDepth 100000 in
theorem c_isUnlockedF (l : Launch) (D : va_G) (cI cZ cJ : ClassId) (b : Nat → Nat) (F : FT) (a : AT) (x : Int32) (y : Int32) (hx : vp_in x 14) : Kr l yX_isUnlocked wX_isUnlocked ({ frames := 0, cells := 0, slots := 0, locals := 0 } : Room) D vwCl (tyG cI cZ cJ) [.ref (b 0), .int x, .int y] (wX cI b F a) (isUnlockedF F a x y) := by
  intro sz
  refine v_ent (cc := bX_isUnlocked) (maxL := 3) (ret := (some .boolean)) (Qc := (fun _ _ st oc t => oc = .returned (some (.int (isUnlockedF F a x y))) ∧ t.heap = st.heap)) (fr := (fun _ _ => False)) (own := RcX) rfl (by decide) rfl (Nat.le_of_ble_eq_true rfl) rfl ?_
  intro p e s m args below meth c A C hr _
  refine v_aload_n C 0 dX_isUnlocked_0 rfl rfl ?_
  refine v_get C (T := TcX) (N := 16) (ci := 0) (v := .ref (b 5)) inX_isUnlocked_X 0 rfl rfl 6 (by decide) (by decide +kernel) rfl rfl dX_isUnlocked_1 ?_
  refine v_iload_n C 1 dX_isUnlocked_4 rfl rfl ?_
  refine v_iald C 5 0 (f := a 6) (y := (a 6) x.toNatClampNeg) (j := x.toNatClampNeg) rfl rfl rfl rfl hx dX_isUnlocked_5 ?_
  refine v_iload_n C 2 dX_isUnlocked_6 rfl rfl ?_
  refine v_ishr C dX_isUnlocked_7 ?_
  refine v_iconst C (v := 1) dX_isUnlocked_8 (by decide) ?_
  refine v_iand C dX_isUnlocked_9 ?_
  refine v_iconst C (v := 1) dX_isUnlocked_10 (by decide) ?_
  refine v_icmp_ne C dX_isUnlocked_11 (tgt := 18) (by decide) (fun h1 => ?_) (fun h1 => ?_)
  · skip
    refine v_iconst C (v := 0) dX_isUnlocked_18 (by decide) ?_
    exact v_zrr C hr (by decide) (by unfold isUnlockedF; rw [if_neg h1]) dX_isUnlocked_19
  · skip
    refine v_iconst C (v := 1) dX_isUnlocked_14 (by decide) ?_
    refine v_goto C dX_isUnlocked_15 (tgt := 19) (by decide) ?_
    exact v_zrr C hr (by decide) (by unfold isUnlockedF; rw [if_pos h1]) dX_isUnlocked_19
set_option maxHeartbeats 4000000 in
set_option maxRecDepth 100000 in
theorem c_unlockF (l : Launch) (D : va_G) (cI cZ cJ : ClassId) (b : Nat → Nat) (F : FT) (a : AT) (x : Int32) (y : Int32) (row : Int32) (hx : vp_in x 14) (hy : vp_in (x * 6 + y) 84) : Kv l yX_unlock wX_unlock ({ frames := 0, cells := 0, slots := 0, locals := 0 } : Room) D vwCl (tyG cI cZ cJ) [.ref (b 0), .int x, .int y, .int row] (wX cI b F a) (wX cI b F (unlockF F a x y row)) := by
  intro sz
  refine v_ent (cc := bX_unlock) (maxL := 4) (ret := none) (Qc := (fun A => va_Qv (fun (_ : Unit) => True) (fun _ => wB D vwCl (tyG cI cZ cJ) A (wX cI b F (unlockF F a x y row))) A)) (fr := (fun A => A)) (own := RcX) rfl (by decide) rfl (Nat.le_of_ble_eq_true rfl) rfl ?_
  intro p e s m args below meth c A C hr _
  refine v_free ?_
  refine v_aload_n C 0 dX_unlock_0 rfl rfl ?_
  refine v_get C (T := TcX) (N := 16) (ci := 0) (v := .ref (b 6)) inX_unlock_X 0 rfl rfl 7 (by decide) (by decide +kernel) rfl rfl dX_unlock_1 ?_
  refine v_iload_n C 1 dX_unlock_4 rfl rfl ?_
  refine v_bipush C (v := 6) dX_unlock_5 (by decide) ?_
  refine v_imul C dX_unlock_7 ?_
  refine v_iload_n C 2 dX_unlock_8 rfl rfl ?_
  refine v_iadd C dX_unlock_9 ?_
  refine v_iload_n C 3 dX_unlock_10 rfl rfl ?_
  obtain ⟨zz1, hzz1⟩ : ∃ z9, upd (a 7) (((x * (6 : Int32)) + y).toNatClampNeg) row = z9 := ⟨_, rfl⟩
  refine v_iast C 6 0 (f := a 7) (j := ((x * (6 : Int32)) + y).toNatClampNeg) (f1 := zz1) rfl rfl rfl hzz1 hy dX_unlock_11 (w1 := wX cI b F (updA a 7 zz1)) rfl ?_
  refine v_aload_n C 0 dX_unlock_12 rfl rfl ?_
  refine v_get C (T := TcX) (N := 16) (ci := 0) (v := .ref (b 5)) inX_unlock_X 0 rfl rfl 6 (by decide) (by decide +kernel) rfl rfl dX_unlock_13 ?_
  refine v_iload_n C 1 dX_unlock_16 rfl rfl ?_
  refine v_dup2 C dX_unlock_17 rfl rfl ?_
  refine v_iald C 5 0 (f := a 6) (y := (a 6) x.toNatClampNeg) (j := x.toNatClampNeg) rfl rfl rfl rfl hx dX_unlock_18 ?_
  refine v_iconst C (v := 1) dX_unlock_19 (by decide) ?_
  refine v_iload_n C 2 dX_unlock_20 rfl rfl ?_
  refine v_ishl C dX_unlock_21 ?_
  refine v_ior C dX_unlock_22 ?_
  obtain ⟨zz2, hzz2⟩ : ∃ z9, upd (a 6) x.toNatClampNeg (((a 6) x.toNatClampNeg) ||| ((1 : Int32) <<< (y &&& 31))) = z9 := ⟨_, rfl⟩
  refine v_iast C 5 0 (f := a 6) (j := x.toNatClampNeg) (f1 := zz2) rfl rfl rfl hzz2 hx dX_unlock_23 (w1 := wX cI b F (updA (updA a 7 zz1) 6 zz2)) rfl ?_
  refine v_aload_n C 0 dX_unlock_24 rfl rfl ?_
  refine v_get C (T := TcX) (N := 16) (ci := 0) (v := .ref (b 5)) inX_unlock_X 0 rfl rfl 6 (by decide) (by decide +kernel) rfl rfl dX_unlock_25 ?_
  refine v_iload_n C 1 dX_unlock_28 rfl rfl ?_
  refine v_iald C 5 0 (f := zz2) (y := zz2 x.toNatClampNeg) (j := x.toNatClampNeg) rfl rfl rfl rfl hx dX_unlock_29 ?_
  refine v_aload_n C 0 dX_unlock_30 rfl rfl ?_
  refine v_get C (T := TcX) (N := 16) (ci := 0) (v := .int (F 10)) inX_unlock_X 0 rfl rfl 10 (by decide) (by decide +kernel) rfl rfl dX_unlock_31 ?_
  refine v_icmp_ne C dX_unlock_34 (tgt := 44) (by decide) (fun h1 => ?_) (fun h1 => ?_)
  · skip
    have hE : updA (updA a 7 zz1) 6 zz2 = unlockF F a x y row := (by unfold unlockF; rw [hzz1, hzz2, if_neg h1])
    exact v_vret C hr (by rw [← hE]) dX_unlock_44
  · skip
    refine v_aload_n C 0 dX_unlock_37 rfl rfl ?_
    refine v_get C (T := TcX) (N := 16) (ci := 0) (v := .ref (b 4)) inX_unlock_X 0 rfl rfl 5 (by decide) (by decide +kernel) rfl rfl dX_unlock_38 ?_
    refine v_iload_n C 1 dX_unlock_41 rfl rfl ?_
    refine v_iconst C (v := 2) dX_unlock_42 (by decide) ?_
    obtain ⟨zz3, hzz3⟩ : ∃ z9, upd (a 5) x.toNatClampNeg 2 = z9 := ⟨_, rfl⟩
    refine v_iast C 4 0 (f := a 5) (j := x.toNatClampNeg) (f1 := zz3) rfl rfl rfl hzz3 hx dX_unlock_43 (w1 := wX cI b F (updA (updA (updA a 7 zz1) 6 zz2) 5 zz3)) rfl ?_
    have hE : updA (updA (updA a 7 zz1) 6 zz2) 5 zz3 = unlockF F a x y row := (by unfold unlockF; rw [hzz1, hzz2, hzz3, if_pos h1])
    exact v_vret C hr (by rw [← hE]) dX_unlock_44
set_option maxHeartbeats 4000000 in
set_option maxRecDepth 100000 in
theorem c_mayShowF (l : Launch) (D : va_G) (cI cZ cJ : ClassId) (b : Nat → Nat) (F : FT) (a : AT) (n : Nat) (P : Nat) (x : Int32) (row : Int32) (hn : F 8 = nI n) (hn4 : n ≤ 14) (hp : F 0 = nI P) (hp6 : P ≤ 6) : Kr l yX_mayShow wX_mayShow ({ frames := 2, cells := 0, slots := 0, locals := 43 } : Room) D vwCl (tyG cI cZ cJ) [.ref (b 0), .int x, .int row] (wX cI b F a) (mayShowF F a n P x row) := by
  intro sz
  refine v_ent (cc := bX_mayShow) (maxL := 5) (ret := (some .boolean)) (Qc := (fun _ _ st oc t => oc = .returned (some (.int (mayShowF F a n P x row))) ∧ t.heap = st.heap)) (fr := (fun _ _ => False)) (own := RcX) rfl (by decide) rfl (Nat.le_of_ble_eq_true rfl) rfl ?_
  intro p e s m args below meth c A C hr _
  refine v_iload_n C 2 dX_mayShow_0 rfl rfl ?_
  refine v_cSr0 (As := [.int row]) C (c_rRest l D cI cZ cJ row) (va_cwS 1 C.2.2.2.2.1 gX_mayShow_R_rest rfl rfl rfl (by decide +kernel) ⟨Nat.le_of_ble_eq_true rfl, Nat.le_of_ble_eq_true rfl⟩) rfl rfl (Nat.le_of_ble_eq_true rfl) ⟨Nat.zero_le _, Nat.zero_le _⟩ dX_mayShow_1 ?_
  refine v_istore_n C (lv' := [(0, .ref (b 0)), (1, .int x), (2, .int row), (3, .int (rRest row))]) [1, 2, 3, 0] dX_mayShow_4 rfl (by decide) rfl ?_
  refine v_iload_n C 3 dX_mayShow_5 rfl rfl ?_
  refine v_if_ne C dX_mayShow_6 (tgt := 11) (by decide) (fun h1 => ?_) (fun h1 => ?_)
  · skip
    refine v_iconst C (v := 0) dX_mayShow_11 (by decide) ?_
    refine v_istore C (lv' := [(0, .ref (b 0)), (1, .int x), (2, .int row), (3, .int (rRest row)), (4, .int 0)]) [1, 2, 3, 4, 0] dX_mayShow_12 (by decide) rfl ?_
    refine v_loop0 n (fun (i : Nat) => wX cI b F a) (fun (i : Nat) => [(0, .ref (b 0)), (1, .int x), (2, .int row), (3, .int (rRest row)), (4, .int (nI i))]) (fun (ki i : Nat) => mayShowL F a n P x row ki i = mayShowF F a n P x row) ?_ ?_ n 0  (by omega) (by unfold mayShowF; rw [if_neg h1])
    · skip
      intro ki i hki hIi ihi
      have hIi : mayShowL F a n P x row (ki + 1) i = mayShowF F a n P x row := hIi
      refine v_as (w' := wX cI b F a) (lv' := [(0, .ref (b 0)), (1, .int x), (2, .int row), (3, .int (rRest row)), (4, .int (nI i))]) rfl rfl ?_
      refine v_iload C 4 dX_mayShow_14 rfl ?_
      refine v_aload_n C 0 dX_mayShow_16 rfl rfl ?_
      refine v_get C (T := TcX) (N := 16) (ci := 0) (v := .int (F 8)) inX_mayShow_X 0 rfl rfl 8 (by decide) (by decide +kernel) rfl rfl dX_mayShow_17 ?_
      refine v_top (y := nI n) hn ?_
      refine v_icmp_ge C dX_mayShow_20 (tgt := 42) (by decide) (fun h => absurd h (nI_ge (a := i) (b := n) (by omega) (by omega))) (fun _ => ?_)
      refine v_aload_n C 0 dX_mayShow_23 rfl rfl ?_
      refine v_iload C 4 dX_mayShow_24 rfl ?_
      refine v_iload_n C 1 dX_mayShow_26 rfl rfl ?_
      refine v_cVrF (As := [.int (nI i), .int x]) C (c_hashkeyF l D cI cZ cJ b F a n P (nI i) x hn hn4 hp hp6) (cwV 2 C.2.2.2.2.1 gX_mayShow_X_hashkey rfl rfl rfl (by decide +kernel) ⟨Nat.le_of_ble_eq_true rfl, Nat.le_of_ble_eq_true rfl⟩) 0 rfl (T := TcX) (N := 16) rfl rfl rfl (Nat.le_of_ble_eq_true rfl) ⟨Nat.zero_le _, Nat.zero_le _⟩ dX_mayShow_27 ?_
      refine v_iload_n C 3 dX_mayShow_30 rfl rfl ?_
      refine v_icmp_ne C dX_mayShow_31 (tgt := 36) (by decide) (fun h2 => ?_) (fun h2 => ?_)
      · skip
        refine v_iinc C (v := nI (i + 1)) (lv' := [(0, .ref (b 0)), (1, .int x), (2, .int row), (3, .int (rRest row)), (4, .int (nI (i + 1)))]) 4 [1, 2, 3, 4, 0] dX_mayShow_36 rfl (nI_1 i) (by decide) rfl ?_
        refine v_goto C dX_mayShow_39 (tgt := 14) (by decide) ?_
        have hL : mayShowL F a n P x row ki (i + 1) = mayShowF F a n P x row := (by rw [← hIi]; simp only [mayShowL]; rw [if_neg h2])
        exact ihi  hL
      · skip
        refine v_iconst C (v := 1) dX_mayShow_34 (by decide) ?_
        exact v_zrr C hr (by decide) (by rw [← hIi]; simp only [mayShowL]; rw [if_pos h2]) dX_mayShow_35
    · skip
      intro hIi
      have hIi : mayShowL F a n P x row 0 n = mayShowF F a n P x row := hIi
      refine v_as (w' := wX cI b F a) (lv' := [(0, .ref (b 0)), (1, .int x), (2, .int row), (3, .int (rRest row)), (4, .int (nI n))]) rfl rfl ?_
      refine v_iload C 4 dX_mayShow_14 rfl ?_
      refine v_aload_n C 0 dX_mayShow_16 rfl rfl ?_
      refine v_get C (T := TcX) (N := 16) (ci := 0) (v := .int (F 8)) inX_mayShow_X 0 rfl rfl 8 (by decide) (by decide +kernel) rfl rfl dX_mayShow_17 ?_
      refine v_top (y := nI n) hn ?_
      refine v_icmp_ge C dX_mayShow_20 (tgt := 42) (by decide) (fun _ => ?_) (fun h => absurd (nI_le (a := n) (b := n) (by omega) (by omega)) h)
      refine v_iconst C (v := 0) dX_mayShow_42 (by decide) ?_
      exact v_zrr C hr (by decide) (by rw [← hIi]; simp only [mayShowL]) dX_mayShow_43
  · skip
    refine v_iconst C (v := 1) dX_mayShow_9 (by decide) ?_
    exact v_zrr C hr (by decide) (by unfold mayShowF; rw [if_pos h1]) dX_mayShow_10
set_option maxHeartbeats 4000000 in
set_option maxRecDepth 100000 in
theorem c_isSecuredF (l : Launch) (D : va_G) (cI cZ cJ : ClassId) (b : Nat → Nat) (F : FT) (a : AT) (n : Nat) (x : Int32) (hn : F 8 = nI n) (hn4 : n ≤ 14) : Kr l yX_isSecured wX_isSecured ({ frames := 0, cells := 0, slots := 0, locals := 0 } : Room) D vwCl (tyG cI cZ cJ) [.ref (b 0), .int x] (wX cI b F a) (isSecuredF F a n x) := by
  intro sz
  refine v_ent (cc := bX_isSecured) (maxL := 3) (ret := (some .boolean)) (Qc := (fun _ _ st oc t => oc = .returned (some (.int (isSecuredF F a n x))) ∧ t.heap = st.heap)) (fr := (fun _ _ => False)) (own := RcX) rfl (by decide) rfl (Nat.le_of_ble_eq_true rfl) rfl ?_
  intro p e s m args below meth c A C hr _
  refine v_iconst C (v := 0) dX_isSecured_0 (by decide) ?_
  refine v_istore_n C (lv' := [(0, .ref (b 0)), (1, .int x), (2, .int 0)]) [1, 2, 0] dX_isSecured_1 rfl (by decide) rfl ?_
  refine v_loop0 n (fun (i : Nat) => wX cI b F a) (fun (i : Nat) => [(0, .ref (b 0)), (1, .int x), (2, .int (nI i))]) (fun (ki i : Nat) => isSecuredL F a n x ki i = isSecuredF F a n x) ?_ ?_ n 0  (by omega) (by unfold isSecuredF; rfl)
  · skip
    intro ki i hki hIi ihi
    have hIi : isSecuredL F a n x (ki + 1) i = isSecuredF F a n x := hIi
    refine v_as (w' := wX cI b F a) (lv' := [(0, .ref (b 0)), (1, .int x), (2, .int (nI i))]) rfl rfl ?_
    refine v_iload_n C 2 dX_isSecured_2 rfl rfl ?_
    refine v_aload_n C 0 dX_isSecured_3 rfl rfl ?_
    refine v_get C (T := TcX) (N := 16) (ci := 0) (v := .int (F 8)) inX_isSecured_X 0 rfl rfl 8 (by decide) (by decide +kernel) rfl rfl dX_isSecured_4 ?_
    refine v_top (y := nI n) hn ?_
    refine v_icmp_ge C dX_isSecured_7 (tgt := 48) (by decide) (fun h => absurd h (nI_ge (a := i) (b := n) (by omega) (by omega))) (fun _ => ?_)
    refine v_aload_n C 0 dX_isSecured_10 rfl rfl ?_
    refine v_get C (T := TcX) (N := 16) (ci := 0) (v := .ref (b 3)) inX_isSecured_X 0 rfl rfl 4 (by decide) (by decide +kernel) rfl rfl dX_isSecured_11 ?_
    refine v_iload_n C 2 dX_isSecured_14 rfl rfl ?_
    refine v_iald C 3 0 (f := a 4) (y := (a 4) i) (j := i) rfl rfl (nI_clamp (by omega)) rfl (vp_in_nI (by omega) (by decide)) dX_isSecured_15 ?_
    refine v_iload_n C 1 dX_isSecured_16 rfl rfl ?_
    refine v_icmp_ne C dX_isSecured_17 (tgt := 42) (by decide) (fun h1 => ?_) (fun h1 => ?_)
    · skip
      refine v_iinc C (v := nI (i + 1)) (lv' := [(0, .ref (b 0)), (1, .int x), (2, .int (nI (i + 1)))]) 2 [1, 2, 0] dX_isSecured_42 rfl (nI_1 i) (by decide) rfl ?_
      refine v_goto C dX_isSecured_45 (tgt := 2) (by decide) ?_
      have hL : isSecuredL F a n x ki (i + 1) = isSecuredF F a n x := (by rw [← hIi]; simp only [isSecuredL]; rw [if_neg h1])
      exact ihi  hL
    · skip
      refine v_aload_n C 0 dX_isSecured_20 rfl rfl ?_
      refine v_get C (T := TcX) (N := 16) (ci := 0) (v := .ref (b 4)) inX_isSecured_X 0 rfl rfl 5 (by decide) (by decide +kernel) rfl rfl dX_isSecured_21 ?_
      refine v_iload_n C 2 dX_isSecured_24 rfl rfl ?_
      refine v_iald C 4 0 (f := a 5) (y := (a 5) i) (j := i) rfl rfl (nI_clamp (by omega)) rfl (vp_in_nI (by omega) (by decide)) dX_isSecured_25 ?_
      refine v_iconst C (v := 1) dX_isSecured_26 (by decide) ?_
      refine v_icmp_eq C dX_isSecured_27 (tgt := 42) (by decide) (fun h2 => ?_) (fun h2 => ?_)
      · skip
        refine v_iinc C (v := nI (i + 1)) (lv' := [(0, .ref (b 0)), (1, .int x), (2, .int (nI (i + 1)))]) 2 [1, 2, 0] dX_isSecured_42 rfl (nI_1 i) (by decide) rfl ?_
        refine v_goto C dX_isSecured_45 (tgt := 2) (by decide) ?_
        have hL : isSecuredL F a n x ki (i + 1) = isSecuredF F a n x := (by rw [← hIi]; simp only [isSecuredL]; rw [if_pos h1, if_pos h2])
        exact ihi  hL
      · skip
        refine v_aload_n C 0 dX_isSecured_30 rfl rfl ?_
        refine v_get C (T := TcX) (N := 16) (ci := 0) (v := .ref (b 4)) inX_isSecured_X 0 rfl rfl 5 (by decide) (by decide +kernel) rfl rfl dX_isSecured_31 ?_
        refine v_iload_n C 2 dX_isSecured_34 rfl rfl ?_
        refine v_iald C 4 0 (f := a 5) (y := (a 5) i) (j := i) rfl rfl (nI_clamp (by omega)) rfl (vp_in_nI (by omega) (by decide)) dX_isSecured_35 ?_
        refine v_iconst C (v := 2) dX_isSecured_36 (by decide) ?_
        refine v_icmp_eq C dX_isSecured_37 (tgt := 42) (by decide) (fun h3 => ?_) (fun h3 => ?_)
        · skip
          refine v_iinc C (v := nI (i + 1)) (lv' := [(0, .ref (b 0)), (1, .int x), (2, .int (nI (i + 1)))]) 2 [1, 2, 0] dX_isSecured_42 rfl (nI_1 i) (by decide) rfl ?_
          refine v_goto C dX_isSecured_45 (tgt := 2) (by decide) ?_
          have hL : isSecuredL F a n x ki (i + 1) = isSecuredF F a n x := (by rw [← hIi]; simp only [isSecuredL]; rw [if_pos h1, if_neg h2, if_pos h3])
          exact ihi  hL
        · skip
          refine v_iconst C (v := 0) dX_isSecured_40 (by decide) ?_
          exact v_zrr C hr (by decide) (by rw [← hIi]; simp only [isSecuredL]; rw [if_pos h1, if_neg h2, if_neg h3]) dX_isSecured_41
  · skip
    intro hIi
    have hIi : isSecuredL F a n x 0 n = isSecuredF F a n x := hIi
    refine v_as (w' := wX cI b F a) (lv' := [(0, .ref (b 0)), (1, .int x), (2, .int (nI n))]) rfl rfl ?_
    refine v_iload_n C 2 dX_isSecured_2 rfl rfl ?_
    refine v_aload_n C 0 dX_isSecured_3 rfl rfl ?_
    refine v_get C (T := TcX) (N := 16) (ci := 0) (v := .int (F 8)) inX_isSecured_X 0 rfl rfl 8 (by decide) (by decide +kernel) rfl rfl dX_isSecured_4 ?_
    refine v_top (y := nI n) hn ?_
    refine v_icmp_ge C dX_isSecured_7 (tgt := 48) (by decide) (fun _ => ?_) (fun h => absurd (nI_le (a := n) (b := n) (by omega) (by omega)) h)
    refine v_iconst C (v := 1) dX_isSecured_48 (by decide) ?_
    exact v_zrr C hr (by decide) (by rw [← hIi]; simp only [isSecuredL]) dX_isSecured_49
end
section
theorem dX_moveAll_0 : decode bX_moveAll 0 = .ok (.iconst 0, 1) := by decide +kernel
theorem dX_moveAll_1 : decode bX_moveAll 1 = .ok (.istore 4, 2) := by decide +kernel
theorem dX_moveAll_3 : decode bX_moveAll 3 = .ok (.iconst 0, 1) := by decide +kernel
theorem dX_moveAll_4 : decode bX_moveAll 4 = .ok (.istore 5, 2) := by decide +kernel
theorem dX_moveAll_6 : decode bX_moveAll 6 = .ok (.iload 5, 2) := by decide +kernel
theorem dX_moveAll_8 : decode bX_moveAll 8 = .ok (.aload_n 0, 1) := by decide +kernel
theorem dX_moveAll_9 : decode bX_moveAll 9 = .ok (.getfield 71, 3) := by decide +kernel
theorem dX_moveAll_12 : decode bX_moveAll 12 = .ok (.if_icmp .ge 42, 3) := by decide +kernel
theorem dX_moveAll_15 : decode bX_moveAll 15 = .ok (.aload_n 0, 1) := by decide +kernel
theorem dX_moveAll_16 : decode bX_moveAll 16 = .ok (.getfield 9, 3) := by decide +kernel
theorem dX_moveAll_19 : decode bX_moveAll 19 = .ok (.iload 5, 2) := by decide +kernel
theorem dX_moveAll_21 : decode bX_moveAll 21 = .ok (.iaload, 1) := by decide +kernel
theorem dX_moveAll_22 : decode bX_moveAll 22 = .ok (.iload_n 1, 1) := by decide +kernel
theorem dX_moveAll_23 : decode bX_moveAll 23 = .ok (.if_icmp .ne 25, 3) := by decide +kernel
theorem dX_moveAll_26 : decode bX_moveAll 26 = .ok (.aload_n 0, 1) := by decide +kernel
theorem dX_moveAll_27 : decode bX_moveAll 27 = .ok (.getfield 16, 3) := by decide +kernel
theorem dX_moveAll_30 : decode bX_moveAll 30 = .ok (.iload 5, 2) := by decide +kernel
theorem dX_moveAll_32 : decode bX_moveAll 32 = .ok (.iaload, 1) := by decide +kernel
theorem dX_moveAll_33 : decode bX_moveAll 33 = .ok (.iload_n 2, 1) := by decide +kernel
theorem dX_moveAll_34 : decode bX_moveAll 34 = .ok (.if_icmp .ne 14, 3) := by decide +kernel
theorem dX_moveAll_37 : decode bX_moveAll 37 = .ok (.aload_n 0, 1) := by decide +kernel
theorem dX_moveAll_38 : decode bX_moveAll 38 = .ok (.getfield 16, 3) := by decide +kernel
theorem dX_moveAll_41 : decode bX_moveAll 41 = .ok (.iload 5, 2) := by decide +kernel
theorem dX_moveAll_43 : decode bX_moveAll 43 = .ok (.iload_n 3, 1) := by decide +kernel
theorem dX_moveAll_44 : decode bX_moveAll 44 = .ok (.iastore, 1) := by decide +kernel
theorem dX_moveAll_45 : decode bX_moveAll 45 = .ok (.iinc 4 1, 3) := by decide +kernel
theorem dX_moveAll_48 : decode bX_moveAll 48 = .ok (.iinc 5 1, 3) := by decide +kernel
theorem dX_moveAll_51 : decode bX_moveAll 51 = .ok (.goto (-45), 3) := by decide +kernel
theorem dX_moveAll_54 : decode bX_moveAll 54 = .ok (.iload 4, 2) := by decide +kernel
theorem dX_moveAll_56 : decode bX_moveAll 56 = .ok (.ireturn, 1) := by decide +kernel
theorem dX_shortestLearnt_0 : decode bX_shortestLearnt 0 = .ok (.iconst 0, 1) := by decide +kernel
theorem dX_shortestLearnt_1 : decode bX_shortestLearnt 1 = .ok (.istore_n 3, 1) := by decide +kernel
theorem dX_shortestLearnt_2 : decode bX_shortestLearnt 2 = .ok (.iconst 0, 1) := by decide +kernel
theorem dX_shortestLearnt_3 : decode bX_shortestLearnt 3 = .ok (.istore 4, 2) := by decide +kernel
theorem dX_shortestLearnt_5 : decode bX_shortestLearnt 5 = .ok (.iload 4, 2) := by decide +kernel
theorem dX_shortestLearnt_7 : decode bX_shortestLearnt 7 = .ok (.aload_n 0, 1) := by decide +kernel
theorem dX_shortestLearnt_8 : decode bX_shortestLearnt 8 = .ok (.getfield 71, 3) := by decide +kernel
theorem dX_shortestLearnt_11 : decode bX_shortestLearnt 11 = .ok (.if_icmp .ge 78, 3) := by decide +kernel
theorem dX_shortestLearnt_14 : decode bX_shortestLearnt 14 = .ok (.aload_n 0, 1) := by decide +kernel
theorem dX_shortestLearnt_15 : decode bX_shortestLearnt 15 = .ok (.getfield 9, 3) := by decide +kernel
theorem dX_shortestLearnt_18 : decode bX_shortestLearnt 18 = .ok (.iload 4, 2) := by decide +kernel
theorem dX_shortestLearnt_20 : decode bX_shortestLearnt 20 = .ok (.iaload, 1) := by decide +kernel
theorem dX_shortestLearnt_21 : decode bX_shortestLearnt 21 = .ok (.iload_n 1, 1) := by decide +kernel
theorem dX_shortestLearnt_22 : decode bX_shortestLearnt 22 = .ok (.if_icmp .ne 13, 3) := by decide +kernel
theorem dX_shortestLearnt_25 : decode bX_shortestLearnt 25 = .ok (.aload_n 0, 1) := by decide +kernel
theorem dX_shortestLearnt_26 : decode bX_shortestLearnt 26 = .ok (.iload 4, 2) := by decide +kernel
theorem dX_shortestLearnt_28 : decode bX_shortestLearnt 28 = .ok (.iload_n 2, 1) := by decide +kernel
theorem dX_shortestLearnt_29 : decode bX_shortestLearnt 29 = .ok (.invokevirtual 190, 3) := by decide +kernel
theorem dX_shortestLearnt_32 : decode bX_shortestLearnt 32 = .ok (.goto 4, 3) := by decide +kernel
theorem dX_shortestLearnt_35 : decode bX_shortestLearnt 35 = .ok (.iconst 0, 1) := by decide +kernel
theorem dX_shortestLearnt_36 : decode bX_shortestLearnt 36 = .ok (.istore 5, 2) := by decide +kernel
theorem dX_shortestLearnt_38 : decode bX_shortestLearnt 38 = .ok (.iload 5, 2) := by decide +kernel
theorem dX_shortestLearnt_40 : decode bX_shortestLearnt 40 = .ok (.ifCond .eq 16, 3) := by decide +kernel
theorem dX_shortestLearnt_43 : decode bX_shortestLearnt 43 = .ok (.iload 5, 2) := by decide +kernel
theorem dX_shortestLearnt_45 : decode bX_shortestLearnt 45 = .ok (.iload_n 1, 1) := by decide +kernel
theorem dX_shortestLearnt_46 : decode bX_shortestLearnt 46 = .ok (.invokestatic 234, 3) := by decide +kernel
theorem dX_shortestLearnt_49 : decode bX_shortestLearnt 49 = .ok (.ifCond .ne 7, 3) := by decide +kernel
theorem dX_shortestLearnt_52 : decode bX_shortestLearnt 52 = .ok (.iconst 1, 1) := by decide +kernel
theorem dX_shortestLearnt_53 : decode bX_shortestLearnt 53 = .ok (.goto 4, 3) := by decide +kernel
theorem dX_shortestLearnt_56 : decode bX_shortestLearnt 56 = .ok (.iconst 0, 1) := by decide +kernel
theorem dX_shortestLearnt_57 : decode bX_shortestLearnt 57 = .ok (.istore 6, 2) := by decide +kernel
theorem dX_shortestLearnt_59 : decode bX_shortestLearnt 59 = .ok (.iload 6, 2) := by decide +kernel
theorem dX_shortestLearnt_61 : decode bX_shortestLearnt 61 = .ok (.ifCond .eq 22, 3) := by decide +kernel
theorem dX_shortestLearnt_64 : decode bX_shortestLearnt 64 = .ok (.iload_n 3, 1) := by decide +kernel
theorem dX_shortestLearnt_65 : decode bX_shortestLearnt 65 = .ok (.ifCond .eq 15, 3) := by decide +kernel
theorem dX_shortestLearnt_68 : decode bX_shortestLearnt 68 = .ok (.iload 5, 2) := by decide +kernel
theorem dX_shortestLearnt_70 : decode bX_shortestLearnt 70 = .ok (.invokestatic 141, 3) := by decide +kernel
theorem dX_shortestLearnt_73 : decode bX_shortestLearnt 73 = .ok (.iload_n 3, 1) := by decide +kernel
theorem dX_shortestLearnt_74 : decode bX_shortestLearnt 74 = .ok (.invokestatic 141, 3) := by decide +kernel
theorem dX_shortestLearnt_77 : decode bX_shortestLearnt 77 = .ok (.if_icmp .ge 6, 3) := by decide +kernel
theorem dX_shortestLearnt_80 : decode bX_shortestLearnt 80 = .ok (.iload 5, 2) := by decide +kernel
theorem dX_shortestLearnt_82 : decode bX_shortestLearnt 82 = .ok (.istore_n 3, 1) := by decide +kernel
theorem dX_shortestLearnt_83 : decode bX_shortestLearnt 83 = .ok (.iinc 4 1, 3) := by decide +kernel
theorem dX_shortestLearnt_86 : decode bX_shortestLearnt 86 = .ok (.goto (-81), 3) := by decide +kernel
theorem dX_shortestLearnt_89 : decode bX_shortestLearnt 89 = .ok (.iload_n 3, 1) := by decide +kernel
theorem dX_shortestLearnt_90 : decode bX_shortestLearnt 90 = .ok (.ireturn, 1) := by decide +kernel
theorem dX_showToAll_0 : decode bX_showToAll 0 = .ok (.aload_n 0, 1) := by decide +kernel
theorem dX_showToAll_1 : decode bX_showToAll 1 = .ok (.iload_n 3, 1) := by decide +kernel
theorem dX_showToAll_2 : decode bX_showToAll 2 = .ok (.invokevirtual 166, 3) := by decide +kernel
theorem dX_showToAll_5 : decode bX_showToAll 5 = .ok (.ifCond .ne 5, 3) := by decide +kernel
theorem dX_showToAll_8 : decode bX_showToAll 8 = .ok (.iconst 0, 1) := by decide +kernel
theorem dX_showToAll_9 : decode bX_showToAll 9 = .ok (.ireturn, 1) := by decide +kernel
theorem dX_showToAll_10 : decode bX_showToAll 10 = .ok (.iconst 0, 1) := by decide +kernel
theorem dX_showToAll_11 : decode bX_showToAll 11 = .ok (.istore 4, 2) := by decide +kernel
theorem dX_showToAll_13 : decode bX_showToAll 13 = .ok (.iconst 0, 1) := by decide +kernel
theorem dX_showToAll_14 : decode bX_showToAll 14 = .ok (.istore 5, 2) := by decide +kernel
theorem dX_showToAll_16 : decode bX_showToAll 16 = .ok (.iload 5, 2) := by decide +kernel
theorem dX_showToAll_18 : decode bX_showToAll 18 = .ok (.aload_n 0, 1) := by decide +kernel
theorem dX_showToAll_19 : decode bX_showToAll 19 = .ok (.getfield 71, 3) := by decide +kernel
theorem dX_showToAll_22 : decode bX_showToAll 22 = .ok (.if_icmp .ge 52, 3) := by decide +kernel
theorem dX_showToAll_25 : decode bX_showToAll 25 = .ok (.aload_n 0, 1) := by decide +kernel
theorem dX_showToAll_26 : decode bX_showToAll 26 = .ok (.getfield 13, 3) := by decide +kernel
theorem dX_showToAll_29 : decode bX_showToAll 29 = .ok (.iload 5, 2) := by decide +kernel
theorem dX_showToAll_31 : decode bX_showToAll 31 = .ok (.iaload, 1) := by decide +kernel
theorem dX_showToAll_32 : decode bX_showToAll 32 = .ok (.iload_n 1, 1) := by decide +kernel
theorem dX_showToAll_33 : decode bX_showToAll 33 = .ok (.if_icmp .ne 35, 3) := by decide +kernel
theorem dX_showToAll_36 : decode bX_showToAll 36 = .ok (.aload_n 0, 1) := by decide +kernel
theorem dX_showToAll_37 : decode bX_showToAll 37 = .ok (.getfield 16, 3) := by decide +kernel
theorem dX_showToAll_40 : decode bX_showToAll 40 = .ok (.iload 5, 2) := by decide +kernel
theorem dX_showToAll_42 : decode bX_showToAll 42 = .ok (.iaload, 1) := by decide +kernel
theorem dX_showToAll_43 : decode bX_showToAll 43 = .ok (.iconst 1, 1) := by decide +kernel
theorem dX_showToAll_44 : decode bX_showToAll 44 = .ok (.if_icmp .ne 24, 3) := by decide +kernel
theorem dX_showToAll_47 : decode bX_showToAll 47 = .ok (.aload_n 0, 1) := by decide +kernel
theorem dX_showToAll_48 : decode bX_showToAll 48 = .ok (.iload 5, 2) := by decide +kernel
theorem dX_showToAll_50 : decode bX_showToAll 50 = .ok (.iload_n 2, 1) := by decide +kernel
theorem dX_showToAll_51 : decode bX_showToAll 51 = .ok (.invokevirtual 161, 3) := by decide +kernel
theorem dX_showToAll_54 : decode bX_showToAll 54 = .ok (.ifCond .ne 14, 3) := by decide +kernel
theorem dX_showToAll_57 : decode bX_showToAll 57 = .ok (.aload_n 0, 1) := by decide +kernel
theorem dX_showToAll_58 : decode bX_showToAll 58 = .ok (.iload 5, 2) := by decide +kernel
theorem dX_showToAll_60 : decode bX_showToAll 60 = .ok (.iload_n 2, 1) := by decide +kernel
theorem dX_showToAll_61 : decode bX_showToAll 61 = .ok (.iload_n 3, 1) := by decide +kernel
theorem dX_showToAll_62 : decode bX_showToAll 62 = .ok (.invokevirtual 174, 3) := by decide +kernel
theorem dX_showToAll_65 : decode bX_showToAll 65 = .ok (.iinc 4 1, 3) := by decide +kernel
theorem dX_showToAll_68 : decode bX_showToAll 68 = .ok (.iinc 5 1, 3) := by decide +kernel
theorem dX_showToAll_71 : decode bX_showToAll 71 = .ok (.goto (-55), 3) := by decide +kernel
theorem dX_showToAll_74 : decode bX_showToAll 74 = .ok (.iload 4, 2) := by decide +kernel
theorem dX_showToAll_76 : decode bX_showToAll 76 = .ok (.ireturn, 1) := by decide +kernel
theorem inX_moveAll_X : ∀ x ∈ u_ws RcX TcX 16, x ∈ wX_moveAll := by decide +kernel
theorem inX_shortestLearnt_X : ∀ x ∈ u_ws RcX TcX 16, x ∈ wX_shortestLearnt := by decide +kernel
set_option maxRecDepth 20000 in
theorem gX_shortestLearnt_X_hashkey : GoodIn wX_shortestLearnt (wsV RcX 190 RcX yX_hashkey wX_hashkey) := goodIn_app (goodIn_of _ (by decide +kernel)) (goodIn_r _ [12, 13, 14, 15, 6, 16, 17, 18, 19, 20, 1, 21, 22, 28, 29, 30, 31, 32, 33, 34, 35, 36, 37, 38, 39, 40, 41, 42, 43] (by decide +kernel) (by decide +kernel))
set_option maxRecDepth 20000 in
theorem gX_shortestLearnt_R_has : GoodIn wX_shortestLearnt (va_wsS RcX 234 yR_has wR_has) := goodIn_app (goodIn_of _ (by decide +kernel)) (goodIn_r _ [23, 24, 25, 9, 26] (by decide +kernel) (by decide +kernel))
set_option maxRecDepth 20000 in
theorem gX_shortestLearnt_R_size : GoodIn wX_shortestLearnt (va_wsS RcX 141 yR_size wR_size) := goodIn_app (goodIn_of _ (by decide +kernel)) (goodIn_r _ [27] (by decide +kernel) (by decide +kernel))
set_option maxRecDepth 20000 in
theorem gX_showToAll_X_isInTime : GoodIn wX_showToAll (wsV RcX 166 RcX yX_isInTime wX_isInTime) := goodIn_app (goodIn_of _ (by decide +kernel)) (goodIn_r _ [14, 15, 16, 17, 18, 19, 20, 21, 22, 28, 29, 30, 31, 32, 33, 34, 35, 36, 37, 38, 39, 40, 41, 42, 43] (by decide +kernel) (by decide +kernel))
theorem inX_showToAll_X : ∀ x ∈ u_ws RcX TcX 16, x ∈ wX_showToAll := by decide +kernel
set_option maxRecDepth 20000 in
theorem gX_showToAll_X_isUnlocked : GoodIn wX_showToAll (wsV RcX 161 RcX yX_isUnlocked wX_isUnlocked) := goodIn_app (goodIn_of _ (by decide +kernel)) (goodIn_r _ [23, 24, 28, 29, 30, 31, 32, 33, 34, 35, 36, 37, 38, 39, 40, 41, 42, 43] (by decide +kernel) (by decide +kernel))
set_option maxRecDepth 20000 in
theorem gX_showToAll_X_unlock : GoodIn wX_showToAll (wsV RcX 174 RcX yX_unlock wX_unlock) := goodIn_app (goodIn_of _ (by decide +kernel)) (goodIn_r _ [25, 26, 24, 27, 7, 28, 29, 30, 31, 32, 33, 34, 35, 36, 37, 38, 39, 40, 41, 42, 43] (by decide +kernel) (by decide +kernel))
end
section
set_option maxHeartbeats 4000000 in
set_option maxRecDepth 100000 in
theorem c_moveAllF (l : Launch) (D : va_G) (cI cZ cJ : ClassId) (b : Nat → Nat) (F : FT) (a : AT) (n : Nat) (x : Int32) (y : Int32) (z : Int32) (hn : F 8 = nI n) (hn4 : n ≤ 14) : Ki l yX_moveAll wX_moveAll ({ frames := 0, cells := 0, slots := 0, locals := 0 } : Room) D vwCl (tyG cI cZ cJ) [.ref (b 0), .int x, .int y, .int z] (wX cI b F a) ((moveAllF F a n x y z).1) (wX cI b F ((moveAllF F a n x y z).2)) := by
  intro sz
  refine v_ent (cc := bX_moveAll) (maxL := 6) (ret := (some .int)) (Qc := (fun A => va_Qi (fun (x9 : Int32) (_ : Unit) => x9 = (moveAllF F a n x y z).1) (fun _ => wB D vwCl (tyG cI cZ cJ) A (wX cI b F ((moveAllF F a n x y z).2))) A)) (fr := (fun A => A)) (own := RcX) rfl (by decide) rfl (Nat.le_of_ble_eq_true rfl) rfl ?_
  intro p e s m args below meth c A C hr _
  refine v_free ?_
  refine v_iconst C (v := 0) dX_moveAll_0 (by decide) ?_
  refine v_istore C (lv' := [(0, .ref (b 0)), (1, .int x), (2, .int y), (3, .int z), (4, .int 0)]) [1, 2, 3, 4, 0] dX_moveAll_1 (by decide) rfl ?_
  refine v_iconst C (v := 0) dX_moveAll_3 (by decide) ?_
  refine v_istore C (lv' := [(0, .ref (b 0)), (1, .int x), (2, .int y), (3, .int z), (4, .int 0), (5, .int 0)]) [1, 2, 3, 4, 5, 0] dX_moveAll_4 (by decide) rfl ?_
  refine v_loop2 n (fun (i : Nat) (d : Int32) (a1 : AT) => wX cI b F a1) (fun (i : Nat) (d : Int32) (a1 : AT) => [(0, .ref (b 0)), (1, .int x), (2, .int y), (3, .int z), (4, .int d), (5, .int (nI i))]) (fun (ki i : Nat) (d : Int32) (a1 : AT) => moveAllL F n x y z ki i d a1 = moveAllL F n x y z n 0 0 a) ?_ ?_ n 0 0 a (by omega) rfl
  · skip
    intro ki i d a1 hki hIi ihi
    have hIi : moveAllL F n x y z (ki + 1) i d a1 = moveAllL F n x y z n 0 0 a := hIi
    refine v_as (w' := wX cI b F a1) (lv' := [(0, .ref (b 0)), (1, .int x), (2, .int y), (3, .int z), (4, .int d), (5, .int (nI i))]) rfl rfl ?_
    refine v_iload C 5 dX_moveAll_6 rfl ?_
    refine v_aload_n C 0 dX_moveAll_8 rfl rfl ?_
    refine v_get C (T := TcX) (N := 16) (ci := 0) (v := .int (F 8)) inX_moveAll_X 0 rfl rfl 8 (by decide) (by decide +kernel) rfl rfl dX_moveAll_9 ?_
    refine v_top (y := nI n) hn ?_
    refine v_icmp_ge C dX_moveAll_12 (tgt := 54) (by decide) (fun h => absurd h (nI_ge (a := i) (b := n) (by omega) (by omega))) (fun _ => ?_)
    refine v_aload_n C 0 dX_moveAll_15 rfl rfl ?_
    refine v_get C (T := TcX) (N := 16) (ci := 0) (v := .ref (b 2)) inX_moveAll_X 0 rfl rfl 3 (by decide) (by decide +kernel) rfl rfl dX_moveAll_16 ?_
    refine v_iload C 5 dX_moveAll_19 rfl ?_
    refine v_iald C 2 0 (f := a1 3) (y := (a1 3) i) (j := i) rfl rfl (nI_clamp (by omega)) rfl (vp_in_nI (by omega) (by decide)) dX_moveAll_21 ?_
    refine v_iload_n C 1 dX_moveAll_22 rfl rfl ?_
    refine v_icmp_ne C dX_moveAll_23 (tgt := 48) (by decide) (fun h1 => ?_) (fun h1 => ?_)
    · skip
      refine v_iinc C (v := nI (i + 1)) (lv' := [(0, .ref (b 0)), (1, .int x), (2, .int y), (3, .int z), (4, .int d), (5, .int (nI (i + 1)))]) 5 [1, 2, 3, 4, 5, 0] dX_moveAll_48 rfl (nI_1 i) (by decide) rfl ?_
      refine v_goto C dX_moveAll_51 (tgt := 6) (by decide) ?_
      have hL : moveAllL F n x y z ki (i + 1) d a1 = moveAllL F n x y z n 0 0 a := (by rw [← hIi]; simp only [moveAllL]; rw [if_neg h1])
      exact ihi d a1 hL
    · skip
      refine v_aload_n C 0 dX_moveAll_26 rfl rfl ?_
      refine v_get C (T := TcX) (N := 16) (ci := 0) (v := .ref (b 4)) inX_moveAll_X 0 rfl rfl 5 (by decide) (by decide +kernel) rfl rfl dX_moveAll_27 ?_
      refine v_iload C 5 dX_moveAll_30 rfl ?_
      refine v_iald C 4 0 (f := a1 5) (y := (a1 5) i) (j := i) rfl rfl (nI_clamp (by omega)) rfl (vp_in_nI (by omega) (by decide)) dX_moveAll_32 ?_
      refine v_iload_n C 2 dX_moveAll_33 rfl rfl ?_
      refine v_icmp_ne C dX_moveAll_34 (tgt := 48) (by decide) (fun h2 => ?_) (fun h2 => ?_)
      · skip
        refine v_iinc C (v := nI (i + 1)) (lv' := [(0, .ref (b 0)), (1, .int x), (2, .int y), (3, .int z), (4, .int d), (5, .int (nI (i + 1)))]) 5 [1, 2, 3, 4, 5, 0] dX_moveAll_48 rfl (nI_1 i) (by decide) rfl ?_
        refine v_goto C dX_moveAll_51 (tgt := 6) (by decide) ?_
        have hL : moveAllL F n x y z ki (i + 1) d a1 = moveAllL F n x y z n 0 0 a := (by rw [← hIi]; simp only [moveAllL]; rw [if_pos h1, if_neg h2])
        exact ihi d a1 hL
      · skip
        refine v_aload_n C 0 dX_moveAll_37 rfl rfl ?_
        refine v_get C (T := TcX) (N := 16) (ci := 0) (v := .ref (b 4)) inX_moveAll_X 0 rfl rfl 5 (by decide) (by decide +kernel) rfl rfl dX_moveAll_38 ?_
        refine v_iload C 5 dX_moveAll_41 rfl ?_
        refine v_iload_n C 3 dX_moveAll_43 rfl rfl ?_
        obtain ⟨zz1, hzz1⟩ : ∃ z9, upd (a1 5) i z = z9 := ⟨_, rfl⟩
        refine v_iast C 4 0 (f := a1 5) (j := i) (f1 := zz1) rfl rfl (nI_clamp (by omega)) hzz1 (vp_in_nI (by omega) (by decide)) dX_moveAll_44 (w1 := wX cI b F (updA a1 5 zz1)) rfl ?_
        refine v_iinc C (v := d + 1) (lv' := [(0, .ref (b 0)), (1, .int x), (2, .int y), (3, .int z), (4, .int (d + 1)), (5, .int (nI i))]) 4 [1, 2, 3, 4, 0, 5] dX_moveAll_45 rfl rfl (by decide) rfl ?_
        refine v_iinc C (v := nI (i + 1)) (lv' := [(0, .ref (b 0)), (1, .int x), (2, .int y), (3, .int z), (4, .int (d + 1)), (5, .int (nI (i + 1)))]) 5 [1, 2, 3, 4, 5, 0] dX_moveAll_48 rfl (nI_1 i) (by decide) rfl ?_
        refine v_goto C dX_moveAll_51 (tgt := 6) (by decide) ?_
        have hL : moveAllL F n x y z ki (i + 1) (d + 1) (updA a1 5 zz1) = moveAllL F n x y z n 0 0 a := (by rw [← hIi]; simp only [moveAllL]; rw [hzz1, if_pos h1, if_pos h2])
        exact ihi (d + 1) (updA a1 5 zz1) hL
  · skip
    intro d a1 hIi
    have hIi : moveAllL F n x y z 0 n d a1 = moveAllL F n x y z n 0 0 a := hIi
    refine v_as (w' := wX cI b F a1) (lv' := [(0, .ref (b 0)), (1, .int x), (2, .int y), (3, .int z), (4, .int d), (5, .int (nI n))]) rfl rfl ?_
    obtain ⟨rfl, rfl⟩ : d = (moveAllL F n x y z n 0 0 a).1 ∧ a1 = (moveAllL F n x y z n 0 0 a).2 := by rw [← hIi]; exact ⟨rfl, rfl⟩
    refine v_iload C 5 dX_moveAll_6 rfl ?_
    refine v_aload_n C 0 dX_moveAll_8 rfl rfl ?_
    refine v_get C (T := TcX) (N := 16) (ci := 0) (v := .int (F 8)) inX_moveAll_X 0 rfl rfl 8 (by decide) (by decide +kernel) rfl rfl dX_moveAll_9 ?_
    refine v_top (y := nI n) hn ?_
    refine v_icmp_ge C dX_moveAll_12 (tgt := 54) (by decide) (fun _ => ?_) (fun h => absurd (nI_le (a := n) (b := n) (by omega) (by omega)) h)
    refine v_iload C 4 dX_moveAll_54 rfl ?_
    have hE : ((moveAllL F n x y z n 0 0 a).1, (moveAllL F n x y z n 0 0 a).2) = moveAllF F a n x y z := (by unfold moveAllF; rfl)
    exact v_iret C hr (by rw [← hE]) (by rw [← hE]) dX_moveAll_56
set_option maxHeartbeats 4000000 in
set_option maxRecDepth 100000 in
theorem c_shortestF (l : Launch) (D : va_G) (cI cZ cJ : ClassId) (b : Nat → Nat) (F : FT) (a : AT) (n : Nat) (P : Nat) (x : Int32) (y : Int32) (hn : F 8 = nI n) (hn4 : n ≤ 14) (hp : F 0 = nI P) (hp6 : P ≤ 6) : Kr l yX_shortestLearnt wX_shortestLearnt ({ frames := 2, cells := 0, slots := 0, locals := 43 } : Room) D vwCl (tyG cI cZ cJ) [.ref (b 0), .int x, .int y] (wX cI b F a) (shortestF F a n P x y) := by
  intro sz
  refine v_ent (cc := bX_shortestLearnt) (maxL := 7) (ret := (some .int)) (Qc := (fun _ _ st oc t => oc = .returned (some (.int (shortestF F a n P x y))) ∧ t.heap = st.heap)) (fr := (fun _ _ => False)) (own := RcX) rfl (by decide) rfl (Nat.le_of_ble_eq_true rfl) rfl ?_
  intro p e s m args below meth c A C hr _
  refine v_iconst C (v := 0) dX_shortestLearnt_0 (by decide) ?_
  refine v_istore_n C (lv' := [(0, .ref (b 0)), (1, .int x), (2, .int y), (3, .int 0)]) [1, 2, 3, 0] dX_shortestLearnt_1 rfl (by decide) rfl ?_
  refine v_iconst C (v := 0) dX_shortestLearnt_2 (by decide) ?_
  refine v_istore C (lv' := [(0, .ref (b 0)), (1, .int x), (2, .int y), (3, .int 0), (4, .int 0)]) [1, 2, 3, 4, 0] dX_shortestLearnt_3 (by decide) rfl ?_
  refine v_loop1 n (fun (i : Nat) (best : Int32) => wX cI b F a) (fun (i : Nat) (best : Int32) => [(0, .ref (b 0)), (1, .int x), (2, .int y), (3, .int best), (4, .int (nI i))]) (fun (ki i : Nat) (best : Int32) => shortestL F a n P x y ki i best = shortestL F a n P x y n 0 0) ?_ ?_ n 0 0 (by omega) rfl
  · skip
    intro ki i best hki hIi ihi
    have hIi : shortestL F a n P x y (ki + 1) i best = shortestL F a n P x y n 0 0 := hIi
    refine v_as (w' := wX cI b F a) (lv' := [(0, .ref (b 0)), (1, .int x), (2, .int y), (3, .int best), (4, .int (nI i))]) rfl rfl ?_
    refine v_iload C 4 dX_shortestLearnt_5 rfl ?_
    refine v_aload_n C 0 dX_shortestLearnt_7 rfl rfl ?_
    refine v_get C (T := TcX) (N := 16) (ci := 0) (v := .int (F 8)) inX_shortestLearnt_X 0 rfl rfl 8 (by decide) (by decide +kernel) rfl rfl dX_shortestLearnt_8 ?_
    refine v_top (y := nI n) hn ?_
    refine v_icmp_ge C dX_shortestLearnt_11 (tgt := 89) (by decide) (fun h => absurd h (nI_ge (a := i) (b := n) (by omega) (by omega))) (fun _ => ?_)
    refine v_aload_n C 0 dX_shortestLearnt_14 rfl rfl ?_
    refine v_get C (T := TcX) (N := 16) (ci := 0) (v := .ref (b 2)) inX_shortestLearnt_X 0 rfl rfl 3 (by decide) (by decide +kernel) rfl rfl dX_shortestLearnt_15 ?_
    refine v_iload C 4 dX_shortestLearnt_18 rfl ?_
    refine v_iald C 2 0 (f := a 3) (y := (a 3) i) (j := i) rfl rfl (nI_clamp (by omega)) rfl (vp_in_nI (by omega) (by decide)) dX_shortestLearnt_20 ?_
    refine v_iload_n C 1 dX_shortestLearnt_21 rfl rfl ?_
    refine v_icmp_ne C dX_shortestLearnt_22 (tgt := 35) (by decide) (fun h1 => ?_) (fun h1 => ?_)
    · skip
      refine v_iconst C (v := 0) dX_shortestLearnt_35 (by decide) ?_
      refine v_istore C (lv' := [(0, .ref (b 0)), (1, .int x), (2, .int y), (3, .int best), (4, .int (nI i)), (5, .int 0)]) [1, 2, 3, 4, 5, 0] dX_shortestLearnt_36 (by decide) rfl ?_
      refine v_iload C 5 dX_shortestLearnt_38 rfl ?_
      refine v_if_eq C dX_shortestLearnt_40 (tgt := 56) (by decide) (fun _ => ?_) (fun h => absurd h (by decide))
      refine v_iconst C (v := 0) dX_shortestLearnt_56 (by decide) ?_
      refine v_istore C (lv' := [(0, .ref (b 0)), (1, .int x), (2, .int y), (3, .int best), (4, .int (nI i)), (5, .int 0), (6, .int 0)]) [1, 2, 3, 4, 5, 6, 0] dX_shortestLearnt_57 (by decide) rfl ?_
      refine v_iload C 6 dX_shortestLearnt_59 rfl ?_
      refine v_if_eq C dX_shortestLearnt_61 (tgt := 83) (by decide) (fun _ => ?_) (fun h => absurd h (by decide))
      refine v_iinc C (v := nI (i + 1)) (lv' := [(0, .ref (b 0)), (1, .int x), (2, .int y), (3, .int best), (4, .int (nI (i + 1))), (5, .int 0), (6, .int 0)]) 4 [1, 2, 3, 4, 0, 5, 6] dX_shortestLearnt_83 rfl (nI_1 i) (by decide) rfl ?_
      refine v_goto C dX_shortestLearnt_86 (tgt := 5) (by decide) ?_
      refine v_loc (lv' := [(0, .ref (b 0)), (1, .int x), (2, .int y), (3, .int best), (4, .int (nI (i + 1)))]) [0, 1, 2, 3, 4] rfl ?_
      have hL : shortestL F a n P x y ki (i + 1) best = shortestL F a n P x y n 0 0 := (by rw [← hIi]; simp only [shortestL]; rw [if_neg h1])
      exact ihi best hL
    · skip
      refine v_aload_n C 0 dX_shortestLearnt_25 rfl rfl ?_
      refine v_iload C 4 dX_shortestLearnt_26 rfl ?_
      refine v_iload_n C 2 dX_shortestLearnt_28 rfl rfl ?_
      refine v_cVrF (As := [.int (nI i), .int y]) C (c_hashkeyF l D cI cZ cJ b F a n P (nI i) y hn hn4 hp hp6) (cwV 2 C.2.2.2.2.1 gX_shortestLearnt_X_hashkey rfl rfl rfl (by decide +kernel) ⟨Nat.le_of_ble_eq_true rfl, Nat.le_of_ble_eq_true rfl⟩) 0 rfl (T := TcX) (N := 16) rfl rfl rfl (Nat.le_of_ble_eq_true rfl) ⟨Nat.zero_le _, Nat.zero_le _⟩ dX_shortestLearnt_29 ?_
      refine v_goto C dX_shortestLearnt_32 (tgt := 36) (by decide) ?_
      refine v_istore C (lv' := [(0, .ref (b 0)), (1, .int x), (2, .int y), (3, .int best), (4, .int (nI i)), (5, .int (hashkeyF F a (nI i) y))]) [1, 2, 3, 4, 5, 0] dX_shortestLearnt_36 (by decide) rfl ?_
      refine v_iload C 5 dX_shortestLearnt_38 rfl ?_
      refine v_if_eq C dX_shortestLearnt_40 (tgt := 56) (by decide) (fun h2 => ?_) (fun h2 => ?_)
      · skip
        refine v_iconst C (v := 0) dX_shortestLearnt_56 (by decide) ?_
        refine v_istore C (lv' := [(0, .ref (b 0)), (1, .int x), (2, .int y), (3, .int best), (4, .int (nI i)), (5, .int (hashkeyF F a (nI i) y)), (6, .int 0)]) [1, 2, 3, 4, 5, 6, 0] dX_shortestLearnt_57 (by decide) rfl ?_
        refine v_iload C 6 dX_shortestLearnt_59 rfl ?_
        refine v_if_eq C dX_shortestLearnt_61 (tgt := 83) (by decide) (fun _ => ?_) (fun h => absurd h (by decide))
        refine v_iinc C (v := nI (i + 1)) (lv' := [(0, .ref (b 0)), (1, .int x), (2, .int y), (3, .int best), (4, .int (nI (i + 1))), (5, .int (hashkeyF F a (nI i) y)), (6, .int 0)]) 4 [1, 2, 3, 4, 0, 5, 6] dX_shortestLearnt_83 rfl (nI_1 i) (by decide) rfl ?_
        refine v_goto C dX_shortestLearnt_86 (tgt := 5) (by decide) ?_
        refine v_loc (lv' := [(0, .ref (b 0)), (1, .int x), (2, .int y), (3, .int best), (4, .int (nI (i + 1)))]) [0, 1, 2, 3, 4] rfl ?_
        have hL : shortestL F a n P x y ki (i + 1) best = shortestL F a n P x y n 0 0 := (by rw [← hIi]; simp only [shortestL]; rw [if_pos h1, if_pos h2])
        exact ihi best hL
      · skip
        refine v_iload C 5 dX_shortestLearnt_43 rfl ?_
        refine v_iload_n C 1 dX_shortestLearnt_45 rfl rfl ?_
        refine v_cSr0 (As := [.int (hashkeyF F a (nI i) y), .int x]) C (c_rHas l D cI cZ cJ (hashkeyF F a (nI i) y) x) (va_cwS 2 C.2.2.2.2.1 gX_shortestLearnt_R_has rfl rfl rfl (by decide +kernel) ⟨Nat.le_of_ble_eq_true rfl, Nat.le_of_ble_eq_true rfl⟩) rfl rfl (Nat.le_of_ble_eq_true rfl) ⟨Nat.zero_le _, Nat.zero_le _⟩ dX_shortestLearnt_46 ?_
        refine v_if_ne C dX_shortestLearnt_49 (tgt := 56) (by decide) (fun h3 => ?_) (fun h3 => ?_)
        · skip
          refine v_iconst C (v := 0) dX_shortestLearnt_56 (by decide) ?_
          refine v_istore C (lv' := [(0, .ref (b 0)), (1, .int x), (2, .int y), (3, .int best), (4, .int (nI i)), (5, .int (hashkeyF F a (nI i) y)), (6, .int 0)]) [1, 2, 3, 4, 5, 6, 0] dX_shortestLearnt_57 (by decide) rfl ?_
          refine v_iload C 6 dX_shortestLearnt_59 rfl ?_
          refine v_if_eq C dX_shortestLearnt_61 (tgt := 83) (by decide) (fun _ => ?_) (fun h => absurd h (by decide))
          refine v_iinc C (v := nI (i + 1)) (lv' := [(0, .ref (b 0)), (1, .int x), (2, .int y), (3, .int best), (4, .int (nI (i + 1))), (5, .int (hashkeyF F a (nI i) y)), (6, .int 0)]) 4 [1, 2, 3, 4, 0, 5, 6] dX_shortestLearnt_83 rfl (nI_1 i) (by decide) rfl ?_
          refine v_goto C dX_shortestLearnt_86 (tgt := 5) (by decide) ?_
          refine v_loc (lv' := [(0, .ref (b 0)), (1, .int x), (2, .int y), (3, .int best), (4, .int (nI (i + 1)))]) [0, 1, 2, 3, 4] rfl ?_
          have hL : shortestL F a n P x y ki (i + 1) best = shortestL F a n P x y n 0 0 := (by rw [← hIi]; simp only [shortestL]; rw [if_pos h1, if_neg h2, if_neg h3])
          exact ihi best hL
        · skip
          refine v_iconst C (v := 1) dX_shortestLearnt_52 (by decide) ?_
          refine v_goto C dX_shortestLearnt_53 (tgt := 57) (by decide) ?_
          refine v_istore C (lv' := [(0, .ref (b 0)), (1, .int x), (2, .int y), (3, .int best), (4, .int (nI i)), (5, .int (hashkeyF F a (nI i) y)), (6, .int 1)]) [1, 2, 3, 4, 5, 6, 0] dX_shortestLearnt_57 (by decide) rfl ?_
          refine v_iload C 6 dX_shortestLearnt_59 rfl ?_
          refine v_if_eq C dX_shortestLearnt_61 (tgt := 83) (by decide) (fun h => absurd h (by decide)) (fun _ => ?_)
          refine v_iload_n C 3 dX_shortestLearnt_64 rfl rfl ?_
          refine v_if_eq C dX_shortestLearnt_65 (tgt := 80) (by decide) (fun h4 => ?_) (fun h4 => ?_)
          · skip
            refine v_iload C 5 dX_shortestLearnt_80 rfl ?_
            refine v_istore_n C (lv' := [(0, .ref (b 0)), (1, .int x), (2, .int y), (3, .int (hashkeyF F a (nI i) y)), (4, .int (nI i)), (5, .int (hashkeyF F a (nI i) y)), (6, .int 1)]) [1, 2, 3, 0, 4, 5, 6] dX_shortestLearnt_82 rfl (by decide) rfl ?_
            refine v_iinc C (v := nI (i + 1)) (lv' := [(0, .ref (b 0)), (1, .int x), (2, .int y), (3, .int (hashkeyF F a (nI i) y)), (4, .int (nI (i + 1))), (5, .int (hashkeyF F a (nI i) y)), (6, .int 1)]) 4 [1, 2, 3, 4, 0, 5, 6] dX_shortestLearnt_83 rfl (nI_1 i) (by decide) rfl ?_
            refine v_goto C dX_shortestLearnt_86 (tgt := 5) (by decide) ?_
            refine v_loc (lv' := [(0, .ref (b 0)), (1, .int x), (2, .int y), (3, .int (hashkeyF F a (nI i) y)), (4, .int (nI (i + 1)))]) [0, 1, 2, 3, 4] rfl ?_
            have hL : shortestL F a n P x y ki (i + 1) (hashkeyF F a (nI i) y) = shortestL F a n P x y n 0 0 := (by rw [← hIi]; simp only [shortestL]; rw [if_pos h1, if_neg h2, if_pos h3, if_pos h4])
            exact ihi (hashkeyF F a (nI i) y) hL
          · skip
            refine v_iload C 5 dX_shortestLearnt_68 rfl ?_
            refine v_cSr0 (As := [.int (hashkeyF F a (nI i) y)]) C (c_rSize l D cI cZ cJ (hashkeyF F a (nI i) y)) (va_cwS 1 C.2.2.2.2.1 gX_shortestLearnt_R_size rfl rfl rfl (by decide +kernel) ⟨Nat.le_of_ble_eq_true rfl, Nat.le_of_ble_eq_true rfl⟩) rfl rfl (Nat.le_of_ble_eq_true rfl) ⟨Nat.zero_le _, Nat.zero_le _⟩ dX_shortestLearnt_70 ?_
            refine v_iload_n C 3 dX_shortestLearnt_73 rfl rfl ?_
            refine v_cSr0 (As := [.int best]) C (c_rSize l D cI cZ cJ best) (va_cwS 1 C.2.2.2.2.1 gX_shortestLearnt_R_size rfl rfl rfl (by decide +kernel) ⟨Nat.le_of_ble_eq_true rfl, Nat.le_of_ble_eq_true rfl⟩) rfl rfl (Nat.le_of_ble_eq_true rfl) ⟨Nat.zero_le _, Nat.zero_le _⟩ dX_shortestLearnt_74 ?_
            refine v_icmp_ge C dX_shortestLearnt_77 (tgt := 83) (by decide) (fun h5 => ?_) (fun h5 => ?_)
            · skip
              refine v_iinc C (v := nI (i + 1)) (lv' := [(0, .ref (b 0)), (1, .int x), (2, .int y), (3, .int best), (4, .int (nI (i + 1))), (5, .int (hashkeyF F a (nI i) y)), (6, .int 1)]) 4 [1, 2, 3, 4, 0, 5, 6] dX_shortestLearnt_83 rfl (nI_1 i) (by decide) rfl ?_
              refine v_goto C dX_shortestLearnt_86 (tgt := 5) (by decide) ?_
              refine v_loc (lv' := [(0, .ref (b 0)), (1, .int x), (2, .int y), (3, .int best), (4, .int (nI (i + 1)))]) [0, 1, 2, 3, 4] rfl ?_
              have hL : shortestL F a n P x y ki (i + 1) best = shortestL F a n P x y n 0 0 := (by rw [← hIi]; simp only [shortestL]; rw [if_pos h1, if_neg h2, if_pos h3, if_neg h4, if_pos h5])
              exact ihi best hL
            · skip
              refine v_iload C 5 dX_shortestLearnt_80 rfl ?_
              refine v_istore_n C (lv' := [(0, .ref (b 0)), (1, .int x), (2, .int y), (3, .int (hashkeyF F a (nI i) y)), (4, .int (nI i)), (5, .int (hashkeyF F a (nI i) y)), (6, .int 1)]) [1, 2, 3, 0, 4, 5, 6] dX_shortestLearnt_82 rfl (by decide) rfl ?_
              refine v_iinc C (v := nI (i + 1)) (lv' := [(0, .ref (b 0)), (1, .int x), (2, .int y), (3, .int (hashkeyF F a (nI i) y)), (4, .int (nI (i + 1))), (5, .int (hashkeyF F a (nI i) y)), (6, .int 1)]) 4 [1, 2, 3, 4, 0, 5, 6] dX_shortestLearnt_83 rfl (nI_1 i) (by decide) rfl ?_
              refine v_goto C dX_shortestLearnt_86 (tgt := 5) (by decide) ?_
              refine v_loc (lv' := [(0, .ref (b 0)), (1, .int x), (2, .int y), (3, .int (hashkeyF F a (nI i) y)), (4, .int (nI (i + 1)))]) [0, 1, 2, 3, 4] rfl ?_
              have hL : shortestL F a n P x y ki (i + 1) (hashkeyF F a (nI i) y) = shortestL F a n P x y n 0 0 := (by rw [← hIi]; simp only [shortestL]; rw [if_pos h1, if_neg h2, if_pos h3, if_neg h4, if_neg h5])
              exact ihi (hashkeyF F a (nI i) y) hL
  · skip
    intro best hIi
    have hIi : shortestL F a n P x y 0 n best = shortestL F a n P x y n 0 0 := hIi
    refine v_as (w' := wX cI b F a) (lv' := [(0, .ref (b 0)), (1, .int x), (2, .int y), (3, .int best), (4, .int (nI n))]) rfl rfl ?_
    have hIi : best = shortestL F a n P x y n 0 0 := hIi
    subst hIi
    refine v_iload C 4 dX_shortestLearnt_5 rfl ?_
    refine v_aload_n C 0 dX_shortestLearnt_7 rfl rfl ?_
    refine v_get C (T := TcX) (N := 16) (ci := 0) (v := .int (F 8)) inX_shortestLearnt_X 0 rfl rfl 8 (by decide) (by decide +kernel) rfl rfl dX_shortestLearnt_8 ?_
    refine v_top (y := nI n) hn ?_
    refine v_icmp_ge C dX_shortestLearnt_11 (tgt := 89) (by decide) (fun _ => ?_) (fun h => absurd (nI_le (a := n) (b := n) (by omega) (by omega)) h)
    refine v_iload_n C 3 dX_shortestLearnt_89 rfl rfl ?_
    exact v_irr C hr (by unfold shortestF; rfl) dX_shortestLearnt_90
set_option maxHeartbeats 4000000 in
set_option maxRecDepth 100000 in
theorem c_showToAllF (l : Launch) (D : va_G) (cI cZ cJ : ClassId) (b : Nat → Nat) (F : FT) (a : AT) (n : Nat) (x : Int32) (y : Int32) (row : Int32) (hn : F 8 = nI n) (hn4 : n ≤ 14) (hl : vp_in y 6) : Ki l yX_showToAll wX_showToAll ({ frames := 2, cells := 0, slots := 0, locals := 43 } : Room) D vwCl (tyG cI cZ cJ) [.ref (b 0), .int x, .int y, .int row] (wX cI b F a) ((showToAllF F a n x y row).1) (wX cI b F ((showToAllF F a n x y row).2)) := by
  intro sz
  refine v_ent (cc := bX_showToAll) (maxL := 6) (ret := (some .int)) (Qc := (fun A => va_Qi (fun (x9 : Int32) (_ : Unit) => x9 = (showToAllF F a n x y row).1) (fun _ => wB D vwCl (tyG cI cZ cJ) A (wX cI b F ((showToAllF F a n x y row).2))) A)) (fr := (fun A => A)) (own := RcX) rfl (by decide) rfl (Nat.le_of_ble_eq_true rfl) rfl ?_
  intro p e s m args below meth c A C hr _
  refine v_free ?_
  refine v_aload_n C 0 dX_showToAll_0 rfl rfl ?_
  refine v_iload_n C 3 dX_showToAll_1 rfl rfl ?_
  refine v_cVrF (As := [.int row]) C (c_isInTimeF l D cI cZ cJ b F a row) (cwV 1 C.2.2.2.2.1 gX_showToAll_X_isInTime rfl rfl rfl (by decide +kernel) ⟨Nat.le_of_ble_eq_true rfl, Nat.le_of_ble_eq_true rfl⟩) 0 rfl (T := TcX) (N := 16) rfl rfl rfl (Nat.le_of_ble_eq_true rfl) ⟨Nat.zero_le _, Nat.zero_le _⟩ dX_showToAll_2 ?_
  refine v_if_ne C dX_showToAll_5 (tgt := 10) (by decide) (fun h1 => ?_) (fun h1 => ?_)
  · skip
    refine v_iconst C (v := 0) dX_showToAll_10 (by decide) ?_
    refine v_istore C (lv' := [(0, .ref (b 0)), (1, .int x), (2, .int y), (3, .int row), (4, .int 0)]) [1, 2, 3, 4, 0] dX_showToAll_11 (by decide) rfl ?_
    refine v_iconst C (v := 0) dX_showToAll_13 (by decide) ?_
    refine v_istore C (lv' := [(0, .ref (b 0)), (1, .int x), (2, .int y), (3, .int row), (4, .int 0), (5, .int 0)]) [1, 2, 3, 4, 5, 0] dX_showToAll_14 (by decide) rfl ?_
    refine v_loop2 n (fun (i : Nat) (d : Int32) (a1 : AT) => wX cI b F a1) (fun (i : Nat) (d : Int32) (a1 : AT) => [(0, .ref (b 0)), (1, .int x), (2, .int y), (3, .int row), (4, .int d), (5, .int (nI i))]) (fun (ki i : Nat) (d : Int32) (a1 : AT) => showToAllL F n x y row ki i d a1 = showToAllL F n x y row n 0 0 a) ?_ ?_ n 0 0 a (by omega) rfl
    · skip
      intro ki i d a1 hki hIi ihi
      have hIi : showToAllL F n x y row (ki + 1) i d a1 = showToAllL F n x y row n 0 0 a := hIi
      refine v_as (w' := wX cI b F a1) (lv' := [(0, .ref (b 0)), (1, .int x), (2, .int y), (3, .int row), (4, .int d), (5, .int (nI i))]) rfl rfl ?_
      refine v_iload C 5 dX_showToAll_16 rfl ?_
      refine v_aload_n C 0 dX_showToAll_18 rfl rfl ?_
      refine v_get C (T := TcX) (N := 16) (ci := 0) (v := .int (F 8)) inX_showToAll_X 0 rfl rfl 8 (by decide) (by decide +kernel) rfl rfl dX_showToAll_19 ?_
      refine v_top (y := nI n) hn ?_
      refine v_icmp_ge C dX_showToAll_22 (tgt := 74) (by decide) (fun h => absurd h (nI_ge (a := i) (b := n) (by omega) (by omega))) (fun _ => ?_)
      refine v_aload_n C 0 dX_showToAll_25 rfl rfl ?_
      refine v_get C (T := TcX) (N := 16) (ci := 0) (v := .ref (b 3)) inX_showToAll_X 0 rfl rfl 4 (by decide) (by decide +kernel) rfl rfl dX_showToAll_26 ?_
      refine v_iload C 5 dX_showToAll_29 rfl ?_
      refine v_iald C 3 0 (f := a1 4) (y := (a1 4) i) (j := i) rfl rfl (nI_clamp (by omega)) rfl (vp_in_nI (by omega) (by decide)) dX_showToAll_31 ?_
      refine v_iload_n C 1 dX_showToAll_32 rfl rfl ?_
      refine v_icmp_ne C dX_showToAll_33 (tgt := 68) (by decide) (fun h2 => ?_) (fun h2 => ?_)
      · skip
        refine v_iinc C (v := nI (i + 1)) (lv' := [(0, .ref (b 0)), (1, .int x), (2, .int y), (3, .int row), (4, .int d), (5, .int (nI (i + 1)))]) 5 [1, 2, 3, 4, 5, 0] dX_showToAll_68 rfl (nI_1 i) (by decide) rfl ?_
        refine v_goto C dX_showToAll_71 (tgt := 16) (by decide) ?_
        have hL : showToAllL F n x y row ki (i + 1) d a1 = showToAllL F n x y row n 0 0 a := (by rw [← hIi]; simp only [showToAllL]; rw [if_neg h2])
        exact ihi d a1 hL
      · skip
        refine v_aload_n C 0 dX_showToAll_36 rfl rfl ?_
        refine v_get C (T := TcX) (N := 16) (ci := 0) (v := .ref (b 4)) inX_showToAll_X 0 rfl rfl 5 (by decide) (by decide +kernel) rfl rfl dX_showToAll_37 ?_
        refine v_iload C 5 dX_showToAll_40 rfl ?_
        refine v_iald C 4 0 (f := a1 5) (y := (a1 5) i) (j := i) rfl rfl (nI_clamp (by omega)) rfl (vp_in_nI (by omega) (by decide)) dX_showToAll_42 ?_
        refine v_iconst C (v := 1) dX_showToAll_43 (by decide) ?_
        refine v_icmp_ne C dX_showToAll_44 (tgt := 68) (by decide) (fun h3 => ?_) (fun h3 => ?_)
        · skip
          refine v_iinc C (v := nI (i + 1)) (lv' := [(0, .ref (b 0)), (1, .int x), (2, .int y), (3, .int row), (4, .int d), (5, .int (nI (i + 1)))]) 5 [1, 2, 3, 4, 5, 0] dX_showToAll_68 rfl (nI_1 i) (by decide) rfl ?_
          refine v_goto C dX_showToAll_71 (tgt := 16) (by decide) ?_
          have hL : showToAllL F n x y row ki (i + 1) d a1 = showToAllL F n x y row n 0 0 a := (by rw [← hIi]; simp only [showToAllL]; rw [if_pos h2, if_neg h3])
          exact ihi d a1 hL
        · skip
          refine v_aload_n C 0 dX_showToAll_47 rfl rfl ?_
          refine v_iload C 5 dX_showToAll_48 rfl ?_
          refine v_iload_n C 2 dX_showToAll_50 rfl rfl ?_
          refine v_cVrF (As := [.int (nI i), .int y]) C (c_isUnlockedF l D cI cZ cJ b F a1 (nI i) y (vp_in_nI (by omega) (by decide))) (cwV 2 C.2.2.2.2.1 gX_showToAll_X_isUnlocked rfl rfl rfl (by decide +kernel) ⟨Nat.le_of_ble_eq_true rfl, Nat.le_of_ble_eq_true rfl⟩) 0 rfl (T := TcX) (N := 16) rfl rfl rfl (Nat.le_of_ble_eq_true rfl) ⟨Nat.zero_le _, Nat.zero_le _⟩ dX_showToAll_51 ?_
          refine v_if_ne C dX_showToAll_54 (tgt := 68) (by decide) (fun h4 => ?_) (fun h4 => ?_)
          · skip
            refine v_iinc C (v := nI (i + 1)) (lv' := [(0, .ref (b 0)), (1, .int x), (2, .int y), (3, .int row), (4, .int d), (5, .int (nI (i + 1)))]) 5 [1, 2, 3, 4, 5, 0] dX_showToAll_68 rfl (nI_1 i) (by decide) rfl ?_
            refine v_goto C dX_showToAll_71 (tgt := 16) (by decide) ?_
            have hL : showToAllL F n x y row ki (i + 1) d a1 = showToAllL F n x y row n 0 0 a := (by rw [← hIi]; simp only [showToAllL]; rw [if_pos h2, if_pos h3, if_neg h4])
            exact ihi d a1 hL
          · skip
            refine v_aload_n C 0 dX_showToAll_57 rfl rfl ?_
            refine v_iload C 5 dX_showToAll_58 rfl ?_
            refine v_iload_n C 2 dX_showToAll_60 rfl rfl ?_
            refine v_iload_n C 3 dX_showToAll_61 rfl rfl ?_
            refine v_cVvF (As := [.int (nI i), .int y, .int row]) C (c_unlockF l D cI cZ cJ b F a1 (nI i) y row (vp_in_nI (by omega) (by decide)) (vp_key2 (by omega) hl)) (cwV 3 C.2.2.2.2.1 gX_showToAll_X_unlock rfl rfl rfl (by decide +kernel) ⟨Nat.le_of_ble_eq_true rfl, Nat.le_of_ble_eq_true rfl⟩) 0 rfl (T := TcX) (N := 16) rfl rfl rfl (Nat.le_of_ble_eq_true rfl) ⟨Nat.zero_le _, Nat.zero_le _⟩ dX_showToAll_62 ?_
            refine v_iinc C (v := d + 1) (lv' := [(0, .ref (b 0)), (1, .int x), (2, .int y), (3, .int row), (4, .int (d + 1)), (5, .int (nI i))]) 4 [1, 2, 3, 4, 0, 5] dX_showToAll_65 rfl rfl (by decide) rfl ?_
            refine v_iinc C (v := nI (i + 1)) (lv' := [(0, .ref (b 0)), (1, .int x), (2, .int y), (3, .int row), (4, .int (d + 1)), (5, .int (nI (i + 1)))]) 5 [1, 2, 3, 4, 5, 0] dX_showToAll_68 rfl (nI_1 i) (by decide) rfl ?_
            refine v_goto C dX_showToAll_71 (tgt := 16) (by decide) ?_
            have hL : showToAllL F n x y row ki (i + 1) (d + 1) (unlockF F a1 (nI i) y row) = showToAllL F n x y row n 0 0 a := (by rw [← hIi]; simp only [showToAllL]; rw [if_pos h2, if_pos h3, if_pos h4])
            exact ihi (d + 1) (unlockF F a1 (nI i) y row) hL
    · skip
      intro d a1 hIi
      have hIi : showToAllL F n x y row 0 n d a1 = showToAllL F n x y row n 0 0 a := hIi
      refine v_as (w' := wX cI b F a1) (lv' := [(0, .ref (b 0)), (1, .int x), (2, .int y), (3, .int row), (4, .int d), (5, .int (nI n))]) rfl rfl ?_
      obtain ⟨rfl, rfl⟩ : d = (showToAllL F n x y row n 0 0 a).1 ∧ a1 = (showToAllL F n x y row n 0 0 a).2 := by rw [← hIi]; exact ⟨rfl, rfl⟩
      refine v_iload C 5 dX_showToAll_16 rfl ?_
      refine v_aload_n C 0 dX_showToAll_18 rfl rfl ?_
      refine v_get C (T := TcX) (N := 16) (ci := 0) (v := .int (F 8)) inX_showToAll_X 0 rfl rfl 8 (by decide) (by decide +kernel) rfl rfl dX_showToAll_19 ?_
      refine v_top (y := nI n) hn ?_
      refine v_icmp_ge C dX_showToAll_22 (tgt := 74) (by decide) (fun _ => ?_) (fun h => absurd (nI_le (a := n) (b := n) (by omega) (by omega)) h)
      refine v_iload C 4 dX_showToAll_74 rfl ?_
      have hE : ((showToAllL F n x y row n 0 0 a).1, (showToAllL F n x y row n 0 0 a).2) = showToAllF F a n x y row := (by unfold showToAllF; rw [if_neg h1])
      exact v_iret C hr (by rw [← hE]) (by rw [← hE]) dX_showToAll_76
  · skip
    refine v_iconst C (v := 0) dX_showToAll_8 (by decide) ?_
    have hE : (0, a) = showToAllF F a n x y row := (by unfold showToAllF; rw [if_pos h1])
    exact v_iret C hr (by rw [← hE]) (by rw [← hE]) dX_showToAll_9
end
section
theorem dX_countArcs_0 : decode bX_countArcs 0 = .ok (.iconst 0, 1) := by decide +kernel
theorem dX_countArcs_1 : decode bX_countArcs 1 = .ok (.istore_n 3, 1) := by decide +kernel
theorem dX_countArcs_2 : decode bX_countArcs 2 = .ok (.iconst 0, 1) := by decide +kernel
theorem dX_countArcs_3 : decode bX_countArcs 3 = .ok (.istore 4, 2) := by decide +kernel
theorem dX_countArcs_5 : decode bX_countArcs 5 = .ok (.iload 4, 2) := by decide +kernel
theorem dX_countArcs_7 : decode bX_countArcs 7 = .ok (.aload_n 0, 1) := by decide +kernel
theorem dX_countArcs_8 : decode bX_countArcs 8 = .ok (.getfield 71, 3) := by decide +kernel
theorem dX_countArcs_11 : decode bX_countArcs 11 = .ok (.if_icmp .ge 20, 3) := by decide +kernel
theorem dX_countArcs_14 : decode bX_countArcs 14 = .ok (.aload_n 1, 1) := by decide +kernel
theorem dX_countArcs_15 : decode bX_countArcs 15 = .ok (.iload 4, 2) := by decide +kernel
theorem dX_countArcs_17 : decode bX_countArcs 17 = .ok (.iaload, 1) := by decide +kernel
theorem dX_countArcs_18 : decode bX_countArcs 18 = .ok (.iload_n 2, 1) := by decide +kernel
theorem dX_countArcs_19 : decode bX_countArcs 19 = .ok (.if_icmp .ne 6, 3) := by decide +kernel
theorem dX_countArcs_22 : decode bX_countArcs 22 = .ok (.iinc 3 1, 3) := by decide +kernel
theorem dX_countArcs_25 : decode bX_countArcs 25 = .ok (.iinc 4 1, 3) := by decide +kernel
theorem dX_countArcs_28 : decode bX_countArcs 28 = .ok (.goto (-23), 3) := by decide +kernel
theorem dX_countArcs_31 : decode bX_countArcs 31 = .ok (.iload_n 3, 1) := by decide +kernel
theorem dX_countArcs_32 : decode bX_countArcs 32 = .ok (.ireturn, 1) := by decide +kernel
theorem dX_countPaid_0 : decode bX_countPaid 0 = .ok (.iconst 0, 1) := by decide +kernel
theorem dX_countPaid_1 : decode bX_countPaid 1 = .ok (.istore_n 3, 1) := by decide +kernel
theorem dX_countPaid_2 : decode bX_countPaid 2 = .ok (.iconst 0, 1) := by decide +kernel
theorem dX_countPaid_3 : decode bX_countPaid 3 = .ok (.istore 4, 2) := by decide +kernel
theorem dX_countPaid_5 : decode bX_countPaid 5 = .ok (.iload 4, 2) := by decide +kernel
theorem dX_countPaid_7 : decode bX_countPaid 7 = .ok (.aload_n 0, 1) := by decide +kernel
theorem dX_countPaid_8 : decode bX_countPaid 8 = .ok (.getfield 71, 3) := by decide +kernel
theorem dX_countPaid_11 : decode bX_countPaid 11 = .ok (.if_icmp .ge 31, 3) := by decide +kernel
theorem dX_countPaid_14 : decode bX_countPaid 14 = .ok (.aload_n 1, 1) := by decide +kernel
theorem dX_countPaid_15 : decode bX_countPaid 15 = .ok (.iload 4, 2) := by decide +kernel
theorem dX_countPaid_17 : decode bX_countPaid 17 = .ok (.iaload, 1) := by decide +kernel
theorem dX_countPaid_18 : decode bX_countPaid 18 = .ok (.iload_n 2, 1) := by decide +kernel
theorem dX_countPaid_19 : decode bX_countPaid 19 = .ok (.if_icmp .ne 17, 3) := by decide +kernel
theorem dX_countPaid_22 : decode bX_countPaid 22 = .ok (.aload_n 0, 1) := by decide +kernel
theorem dX_countPaid_23 : decode bX_countPaid 23 = .ok (.getfield 16, 3) := by decide +kernel
theorem dX_countPaid_26 : decode bX_countPaid 26 = .ok (.iload 4, 2) := by decide +kernel
theorem dX_countPaid_28 : decode bX_countPaid 28 = .ok (.iaload, 1) := by decide +kernel
theorem dX_countPaid_29 : decode bX_countPaid 29 = .ok (.iconst 2, 1) := by decide +kernel
theorem dX_countPaid_30 : decode bX_countPaid 30 = .ok (.if_icmp .ne 6, 3) := by decide +kernel
theorem dX_countPaid_33 : decode bX_countPaid 33 = .ok (.iinc 3 1, 3) := by decide +kernel
theorem dX_countPaid_36 : decode bX_countPaid 36 = .ok (.iinc 4 1, 3) := by decide +kernel
theorem dX_countPaid_39 : decode bX_countPaid 39 = .ok (.goto (-34), 3) := by decide +kernel
theorem dX_countPaid_42 : decode bX_countPaid 42 = .ok (.iload_n 3, 1) := by decide +kernel
theorem dX_countPaid_43 : decode bX_countPaid 43 = .ok (.ireturn, 1) := by decide +kernel
theorem dX_deployAll_0 : decode bX_deployAll 0 = .ok (.aload_n 0, 1) := by decide +kernel
theorem dX_deployAll_1 : decode bX_deployAll 1 = .ok (.invokevirtual 185, 3) := by decide +kernel
theorem dX_deployAll_4 : decode bX_deployAll 4 = .ok (.ifCond .ne 19, 3) := by decide +kernel
theorem dX_deployAll_7 : decode bX_deployAll 7 = .ok (.aload_n 0, 1) := by decide +kernel
theorem dX_deployAll_8 : decode bX_deployAll 8 = .ok (.iload_n 1, 1) := by decide +kernel
theorem dX_deployAll_9 : decode bX_deployAll 9 = .ok (.invokevirtual 156, 3) := by decide +kernel
theorem dX_deployAll_12 : decode bX_deployAll 12 = .ok (.ifCond .ne 13, 3) := by decide +kernel
theorem dX_deployAll_15 : decode bX_deployAll 15 = .ok (.aload_n 0, 1) := by decide +kernel
theorem dX_deployAll_16 : decode bX_deployAll 16 = .ok (.iload_n 1, 1) := by decide +kernel
theorem dX_deployAll_17 : decode bX_deployAll 17 = .ok (.invokevirtual 218, 3) := by decide +kernel
theorem dX_deployAll_20 : decode bX_deployAll 20 = .ok (.ifCond .ne 5, 3) := by decide +kernel
theorem dX_deployAll_23 : decode bX_deployAll 23 = .ok (.iconst 0, 1) := by decide +kernel
theorem dX_deployAll_24 : decode bX_deployAll 24 = .ok (.ireturn, 1) := by decide +kernel
theorem dX_deployAll_25 : decode bX_deployAll 25 = .ok (.aload_n 0, 1) := by decide +kernel
theorem dX_deployAll_26 : decode bX_deployAll 26 = .ok (.iload_n 1, 1) := by decide +kernel
theorem dX_deployAll_27 : decode bX_deployAll 27 = .ok (.iconst 0, 1) := by decide +kernel
theorem dX_deployAll_28 : decode bX_deployAll 28 = .ok (.iconst 1, 1) := by decide +kernel
theorem dX_deployAll_29 : decode bX_deployAll 29 = .ok (.invokevirtual 221, 3) := by decide +kernel
theorem dX_deployAll_32 : decode bX_deployAll 32 = .ok (.ireturn, 1) := by decide +kernel
theorem dX_showItself_0 : decode bX_showItself 0 = .ok (.aload_n 0, 1) := by decide +kernel
theorem dX_showItself_1 : decode bX_showItself 1 = .ok (.iload_n 1, 1) := by decide +kernel
theorem dX_showItself_2 : decode bX_showItself 2 = .ok (.invokevirtual 156, 3) := by decide +kernel
theorem dX_showItself_5 : decode bX_showItself 5 = .ok (.ifCond .eq 11, 3) := by decide +kernel
theorem dX_showItself_8 : decode bX_showItself 8 = .ok (.aload_n 0, 1) := by decide +kernel
theorem dX_showItself_9 : decode bX_showItself 9 = .ok (.iload_n 1, 1) := by decide +kernel
theorem dX_showItself_10 : decode bX_showItself 10 = .ok (.invokevirtual 218, 3) := by decide +kernel
theorem dX_showItself_13 : decode bX_showItself 13 = .ok (.ifCond .ne 5, 3) := by decide +kernel
theorem dX_showItself_16 : decode bX_showItself 16 = .ok (.iconst 0, 1) := by decide +kernel
theorem dX_showItself_17 : decode bX_showItself 17 = .ok (.ireturn, 1) := by decide +kernel
theorem dX_showItself_18 : decode bX_showItself 18 = .ok (.aload_n 0, 1) := by decide +kernel
theorem dX_showItself_19 : decode bX_showItself 19 = .ok (.iload_n 1, 1) := by decide +kernel
theorem dX_showItself_20 : decode bX_showItself 20 = .ok (.iload_n 1, 1) := by decide +kernel
theorem dX_showItself_21 : decode bX_showItself 21 = .ok (.iload_n 1, 1) := by decide +kernel
theorem dX_showItself_22 : decode bX_showItself 22 = .ok (.iconst 0, 1) := by decide +kernel
theorem dX_showItself_23 : decode bX_showItself 23 = .ok (.invokestatic 225, 3) := by decide +kernel
theorem dX_showItself_26 : decode bX_showItself 26 = .ok (.invokevirtual 228, 3) := by decide +kernel
theorem dX_showItself_29 : decode bX_showItself 29 = .ok (.ireturn, 1) := by decide +kernel
theorem dX_showOthers_0 : decode bX_showOthers 0 = .ok (.iconst 0, 1) := by decide +kernel
theorem dX_showOthers_1 : decode bX_showOthers 1 = .ok (.istore_n 2, 1) := by decide +kernel
theorem dX_showOthers_2 : decode bX_showOthers 2 = .ok (.iconst 0, 1) := by decide +kernel
theorem dX_showOthers_3 : decode bX_showOthers 3 = .ok (.istore_n 3, 1) := by decide +kernel
theorem dX_showOthers_4 : decode bX_showOthers 4 = .ok (.iload_n 3, 1) := by decide +kernel
theorem dX_showOthers_5 : decode bX_showOthers 5 = .ok (.aload_n 0, 1) := by decide +kernel
theorem dX_showOthers_6 : decode bX_showOthers 6 = .ok (.getfield 37, 3) := by decide +kernel
theorem dX_showOthers_9 : decode bX_showOthers 9 = .ok (.if_icmp .ge 49, 3) := by decide +kernel
theorem dX_showOthers_12 : decode bX_showOthers 12 = .ok (.aload_n 0, 1) := by decide +kernel
theorem dX_showOthers_13 : decode bX_showOthers 13 = .ok (.iload_n 3, 1) := by decide +kernel
theorem dX_showOthers_14 : decode bX_showOthers 14 = .ok (.invokevirtual 156, 3) := by decide +kernel
theorem dX_showOthers_17 : decode bX_showOthers 17 = .ok (.ifCond .eq 12, 3) := by decide +kernel
theorem dX_showOthers_20 : decode bX_showOthers 20 = .ok (.aload_n 0, 1) := by decide +kernel
theorem dX_showOthers_21 : decode bX_showOthers 21 = .ok (.iload_n 1, 1) := by decide +kernel
theorem dX_showOthers_22 : decode bX_showOthers 22 = .ok (.iload_n 3, 1) := by decide +kernel
theorem dX_showOthers_23 : decode bX_showOthers 23 = .ok (.invokevirtual 231, 3) := by decide +kernel
theorem dX_showOthers_26 : decode bX_showOthers 26 = .ok (.goto 4, 3) := by decide +kernel
theorem dX_showOthers_29 : decode bX_showOthers 29 = .ok (.iconst 0, 1) := by decide +kernel
theorem dX_showOthers_30 : decode bX_showOthers 30 = .ok (.istore 4, 2) := by decide +kernel
theorem dX_showOthers_32 : decode bX_showOthers 32 = .ok (.iload 4, 2) := by decide +kernel
theorem dX_showOthers_34 : decode bX_showOthers 34 = .ok (.ifCond .eq 18, 3) := by decide +kernel
theorem dX_showOthers_37 : decode bX_showOthers 37 = .ok (.iload_n 2, 1) := by decide +kernel
theorem dX_showOthers_38 : decode bX_showOthers 38 = .ok (.aload_n 0, 1) := by decide +kernel
theorem dX_showOthers_39 : decode bX_showOthers 39 = .ok (.iload_n 1, 1) := by decide +kernel
theorem dX_showOthers_40 : decode bX_showOthers 40 = .ok (.iload_n 3, 1) := by decide +kernel
theorem dX_showOthers_41 : decode bX_showOthers 41 = .ok (.iload_n 1, 1) := by decide +kernel
theorem dX_showOthers_42 : decode bX_showOthers 42 = .ok (.iload 4, 2) := by decide +kernel
theorem dX_showOthers_44 : decode bX_showOthers 44 = .ok (.invokestatic 225, 3) := by decide +kernel
theorem dX_showOthers_47 : decode bX_showOthers 47 = .ok (.invokevirtual 228, 3) := by decide +kernel
theorem dX_showOthers_50 : decode bX_showOthers 50 = .ok (.iadd, 1) := by decide +kernel
theorem dX_showOthers_51 : decode bX_showOthers 51 = .ok (.istore_n 2, 1) := by decide +kernel
theorem dX_showOthers_52 : decode bX_showOthers 52 = .ok (.iinc 3 1, 3) := by decide +kernel
theorem dX_showOthers_55 : decode bX_showOthers 55 = .ok (.goto (-51), 3) := by decide +kernel
theorem dX_showOthers_58 : decode bX_showOthers 58 = .ok (.iload_n 2, 1) := by decide +kernel
theorem dX_showOthers_59 : decode bX_showOthers 59 = .ok (.ireturn, 1) := by decide +kernel
theorem dX_takeAllBack_0 : decode bX_takeAllBack 0 = .ok (.aload_n 0, 1) := by decide +kernel
theorem dX_takeAllBack_1 : decode bX_takeAllBack 1 = .ok (.invokevirtual 185, 3) := by decide +kernel
theorem dX_takeAllBack_4 : decode bX_takeAllBack 4 = .ok (.ifCond .eq 13, 3) := by decide +kernel
theorem dX_takeAllBack_7 : decode bX_takeAllBack 7 = .ok (.aload_n 0, 1) := by decide +kernel
theorem dX_takeAllBack_8 : decode bX_takeAllBack 8 = .ok (.iload_n 1, 1) := by decide +kernel
theorem dX_takeAllBack_9 : decode bX_takeAllBack 9 = .ok (.iconst 1, 1) := by decide +kernel
theorem dX_takeAllBack_10 : decode bX_takeAllBack 10 = .ok (.iconst 3, 1) := by decide +kernel
theorem dX_takeAllBack_11 : decode bX_takeAllBack 11 = .ok (.invokevirtual 221, 3) := by decide +kernel
theorem dX_takeAllBack_14 : decode bX_takeAllBack 14 = .ok (.goto 4, 3) := by decide +kernel
theorem dX_takeAllBack_17 : decode bX_takeAllBack 17 = .ok (.iconst 0, 1) := by decide +kernel
theorem dX_takeAllBack_18 : decode bX_takeAllBack 18 = .ok (.ireturn, 1) := by decide +kernel
theorem dX_doDeeds_0 : decode bX_doDeeds 0 = .ok (.aload_n 0, 1) := by decide +kernel
theorem dX_doDeeds_1 : decode bX_doDeeds 1 = .ok (.iload_n 1, 1) := by decide +kernel
theorem dX_doDeeds_2 : decode bX_doDeeds 2 = .ok (.invokevirtual 206, 3) := by decide +kernel
theorem dX_doDeeds_5 : decode bX_doDeeds 5 = .ok (.istore_n 2, 1) := by decide +kernel
theorem dX_doDeeds_6 : decode bX_doDeeds 6 = .ok (.iload_n 2, 1) := by decide +kernel
theorem dX_doDeeds_7 : decode bX_doDeeds 7 = .ok (.aload_n 0, 1) := by decide +kernel
theorem dX_doDeeds_8 : decode bX_doDeeds 8 = .ok (.iload_n 1, 1) := by decide +kernel
theorem dX_doDeeds_9 : decode bX_doDeeds 9 = .ok (.invokevirtual 209, 3) := by decide +kernel
theorem dX_doDeeds_12 : decode bX_doDeeds 12 = .ok (.iadd, 1) := by decide +kernel
theorem dX_doDeeds_13 : decode bX_doDeeds 13 = .ok (.istore_n 2, 1) := by decide +kernel
theorem dX_doDeeds_14 : decode bX_doDeeds 14 = .ok (.iload_n 2, 1) := by decide +kernel
theorem dX_doDeeds_15 : decode bX_doDeeds 15 = .ok (.aload_n 0, 1) := by decide +kernel
theorem dX_doDeeds_16 : decode bX_doDeeds 16 = .ok (.iload_n 1, 1) := by decide +kernel
theorem dX_doDeeds_17 : decode bX_doDeeds 17 = .ok (.invokevirtual 212, 3) := by decide +kernel
theorem dX_doDeeds_20 : decode bX_doDeeds 20 = .ok (.iadd, 1) := by decide +kernel
theorem dX_doDeeds_21 : decode bX_doDeeds 21 = .ok (.istore_n 2, 1) := by decide +kernel
theorem dX_doDeeds_22 : decode bX_doDeeds 22 = .ok (.iload_n 2, 1) := by decide +kernel
theorem dX_doDeeds_23 : decode bX_doDeeds 23 = .ok (.aload_n 0, 1) := by decide +kernel
theorem dX_doDeeds_24 : decode bX_doDeeds 24 = .ok (.iload_n 1, 1) := by decide +kernel
theorem dX_doDeeds_25 : decode bX_doDeeds 25 = .ok (.invokevirtual 215, 3) := by decide +kernel
theorem dX_doDeeds_28 : decode bX_doDeeds 28 = .ok (.iadd, 1) := by decide +kernel
theorem dX_doDeeds_29 : decode bX_doDeeds 29 = .ok (.istore_n 2, 1) := by decide +kernel
theorem dX_doDeeds_30 : decode bX_doDeeds 30 = .ok (.iload_n 2, 1) := by decide +kernel
theorem dX_doDeeds_31 : decode bX_doDeeds 31 = .ok (.ireturn, 1) := by decide +kernel
theorem dX_leaders_0 : decode bX_leaders 0 = .ok (.aload_n 0, 1) := by decide +kernel
theorem dX_leaders_1 : decode bX_leaders 1 = .ok (.getfield 110, 3) := by decide +kernel
theorem dX_leaders_4 : decode bX_leaders 4 = .ok (.ireturn, 1) := by decide +kernel
theorem dX_conform_0 : decode bX_conform 0 = .ok (.aload_n 0, 1) := by decide +kernel
theorem dX_conform_1 : decode bX_conform 1 = .ok (.iload_n 1, 1) := by decide +kernel
theorem dX_conform_2 : decode bX_conform 2 = .ok (.invokevirtual 52, 3) := by decide +kernel
theorem dX_conform_5 : decode bX_conform 5 = .ok (.ifCond .eq 12, 3) := by decide +kernel
theorem dX_conform_8 : decode bX_conform 8 = .ok (.aload_n 0, 1) := by decide +kernel
theorem dX_conform_9 : decode bX_conform 9 = .ok (.iload_n 1, 1) := by decide +kernel
theorem dX_conform_10 : decode bX_conform 10 = .ok (.invokevirtual 113, 3) := by decide +kernel
theorem dX_conform_13 : decode bX_conform 13 = .ok (.iload_n 2, 1) := by decide +kernel
theorem dX_conform_14 : decode bX_conform 14 = .ok (.if_icmp .ne 5, 3) := by decide +kernel
theorem dX_conform_17 : decode bX_conform 17 = .ok (.iconst 0, 1) := by decide +kernel
theorem dX_conform_18 : decode bX_conform 18 = .ok (.ireturn, 1) := by decide +kernel
theorem dX_conform_19 : decode bX_conform 19 = .ok (.aload_n 0, 1) := by decide +kernel
theorem dX_conform_20 : decode bX_conform 20 = .ok (.dup, 1) := by decide +kernel
theorem dX_conform_21 : decode bX_conform 21 = .ok (.getfield 116, 3) := by decide +kernel
theorem dX_conform_24 : decode bX_conform 24 = .ok (.iconst 1, 1) := by decide +kernel
theorem dX_conform_25 : decode bX_conform 25 = .ok (.iload_n 1, 1) := by decide +kernel
theorem dX_conform_26 : decode bX_conform 26 = .ok (.ishl, 1) := by decide +kernel
theorem dX_conform_27 : decode bX_conform 27 = .ok (.ixor, 1) := by decide +kernel
theorem dX_conform_28 : decode bX_conform 28 = .ok (.putfield 116, 3) := by decide +kernel
theorem dX_conform_31 : decode bX_conform 31 = .ok (.iconst 1, 1) := by decide +kernel
theorem dX_conform_32 : decode bX_conform 32 = .ok (.ireturn, 1) := by decide +kernel
theorem dX_step_0 : decode bX_step 0 = .ok (.aload_n 0, 1) := by decide +kernel
theorem dX_step_1 : decode bX_step 1 = .ok (.getfield 27, 3) := by decide +kernel
theorem dX_step_4 : decode bX_step 4 = .ok (.invokestatic 141, 3) := by decide +kernel
theorem dX_step_7 : decode bX_step 7 = .ok (.istore_n 2, 1) := by decide +kernel
theorem dX_step_8 : decode bX_step 8 = .ok (.aload_n 0, 1) := by decide +kernel
theorem dX_step_9 : decode bX_step 9 = .ok (.iload_n 1, 1) := by decide +kernel
theorem dX_step_10 : decode bX_step 10 = .ok (.invokevirtual 52, 3) := by decide +kernel
theorem dX_step_13 : decode bX_step 13 = .ok (.ifCond .eq 9, 3) := by decide +kernel
theorem dX_step_16 : decode bX_step 16 = .ok (.iload_n 2, 1) := by decide +kernel
theorem dX_step_17 : decode bX_step 17 = .ok (.bipush 6, 2) := by decide +kernel
theorem dX_step_19 : decode bX_step 19 = .ok (.if_icmp .lt 5, 3) := by decide +kernel
theorem dX_step_22 : decode bX_step 22 = .ok (.iconst (-1), 1) := by decide +kernel
theorem dX_step_23 : decode bX_step 23 = .ok (.ireturn, 1) := by decide +kernel
theorem dX_step_24 : decode bX_step 24 = .ok (.aload_n 0, 1) := by decide +kernel
theorem dX_step_25 : decode bX_step 25 = .ok (.aload_n 0, 1) := by decide +kernel
theorem dX_step_26 : decode bX_step 26 = .ok (.getfield 27, 3) := by decide +kernel
theorem dX_step_29 : decode bX_step 29 = .ok (.iload_n 1, 1) := by decide +kernel
theorem dX_step_30 : decode bX_step 30 = .ok (.invokestatic 144, 3) := by decide +kernel
theorem dX_step_33 : decode bX_step 33 = .ok (.putfield 27, 3) := by decide +kernel
theorem dX_step_36 : decode bX_step 36 = .ok (.iload_n 2, 1) := by decide +kernel
theorem dX_step_37 : decode bX_step 37 = .ok (.iconst 1, 1) := by decide +kernel
theorem dX_step_38 : decode bX_step 38 = .ok (.iadd, 1) := by decide +kernel
theorem dX_step_39 : decode bX_step 39 = .ok (.ireturn, 1) := by decide +kernel
theorem dX_clear_0 : decode bX_clear 0 = .ok (.aload_n 0, 1) := by decide +kernel
theorem dX_clear_1 : decode bX_clear 1 = .ok (.iconst 0, 1) := by decide +kernel
theorem dX_clear_2 : decode bX_clear 2 = .ok (.putfield 27, 3) := by decide +kernel
theorem dX_clear_5 : decode bX_clear 5 = .ok (.return_, 1) := by decide +kernel
theorem dX_pass_0 : decode bX_pass 0 = .ok (.iload_n 1, 1) := by decide +kernel
theorem dX_pass_1 : decode bX_pass 1 = .ok (.ifCond .lt 9, 3) := by decide +kernel
theorem dX_pass_4 : decode bX_pass 4 = .ok (.iload_n 1, 1) := by decide +kernel
theorem dX_pass_5 : decode bX_pass 5 = .ok (.bipush 100, 2) := by decide +kernel
theorem dX_pass_7 : decode bX_pass 7 = .ok (.if_icmp .le 5, 3) := by decide +kernel
theorem dX_pass_10 : decode bX_pass 10 = .ok (.iconst (-1), 1) := by decide +kernel
theorem dX_pass_11 : decode bX_pass 11 = .ok (.ireturn, 1) := by decide +kernel
theorem dX_pass_12 : decode bX_pass 12 = .ok (.aload_n 0, 1) := by decide +kernel
theorem dX_pass_13 : decode bX_pass 13 = .ok (.dup, 1) := by decide +kernel
theorem dX_pass_14 : decode bX_pass 14 = .ok (.getfield 94, 3) := by decide +kernel
theorem dX_pass_17 : decode bX_pass 17 = .ok (.iload_n 1, 1) := by decide +kernel
theorem dX_pass_18 : decode bX_pass 18 = .ok (.iadd, 1) := by decide +kernel
theorem dX_pass_19 : decode bX_pass 19 = .ok (.putfield 94, 3) := by decide +kernel
theorem dX_pass_22 : decode bX_pass 22 = .ok (.aload_n 0, 1) := by decide +kernel
theorem dX_pass_23 : decode bX_pass 23 = .ok (.getfield 94, 3) := by decide +kernel
theorem dX_pass_26 : decode bX_pass 26 = .ok (.ireturn, 1) := by decide +kernel
theorem inX_countArcs_X : ∀ x ∈ u_ws RcX TcX 16, x ∈ wX_countArcs := by decide +kernel
theorem inX_countPaid_X : ∀ x ∈ u_ws RcX TcX 16, x ∈ wX_countPaid := by decide +kernel
set_option maxRecDepth 20000 in
theorem gX_deployAll_X_isOver : GoodIn wX_deployAll (wsV RcX 185 RcX yX_isOver wX_isOver) := goodIn_app (goodIn_of _ (by decide +kernel)) (goodIn_r _ [14, 15, 16, 17, 18, 32, 33, 34, 35, 36, 37, 38, 39, 40, 41, 42, 43, 44, 45, 46, 47] (by decide +kernel) (by decide +kernel))
set_option maxRecDepth 20000 in
theorem gX_deployAll_X_isLeader : GoodIn wX_deployAll (wsV RcX 156 RcX yX_isLeader wX_isLeader) := goodIn_app (goodIn_of _ (by decide +kernel)) (goodIn_r _ [19, 20, 21, 22, 4, 23, 24, 25, 32, 33, 34, 35, 36, 37, 38, 39, 40, 41, 42, 43, 44, 45, 46, 47] (by decide +kernel) (by decide +kernel))
set_option maxRecDepth 20000 in
theorem gX_deployAll_X_moveAll : GoodIn wX_deployAll (wsV RcX 221 RcX yX_moveAll wX_moveAll) := goodIn_app (goodIn_of _ (by decide +kernel)) (goodIn_r _ [30, 27, 31, 29, 32, 33, 34, 35, 36, 37, 38, 39, 40, 41, 42, 43, 44, 45, 46, 47] (by decide +kernel) (by decide +kernel))
set_option maxRecDepth 20000 in
theorem gX_deployAll_X_isSecured : GoodIn wX_deployAll (wsV RcX 218 RcX yX_isSecured wX_isSecured) := goodIn_app (goodIn_of _ (by decide +kernel)) (goodIn_r _ [26, 27, 28, 29, 32, 33, 34, 35, 36, 37, 38, 39, 40, 41, 42, 43, 44, 45, 46, 47] (by decide +kernel) (by decide +kernel))
set_option maxRecDepth 20000 in
theorem gX_showItself_X_isLeader : GoodIn wX_showItself (wsV RcX 156 RcX yX_isLeader wX_isLeader) := goodIn_app (goodIn_of _ (by decide +kernel)) (goodIn_r _ [14, 15, 16, 17, 4, 18, 19, 20, 48, 49, 50, 51, 52, 53, 54, 55, 56, 57, 58, 59, 60, 61, 62, 63] (by decide +kernel) (by decide +kernel))
set_option maxRecDepth 20000 in
theorem gX_showItself_X_isSecured : GoodIn wX_showItself (wsV RcX 218 RcX yX_isSecured wX_isSecured) := goodIn_app (goodIn_of _ (by decide +kernel)) (goodIn_r _ [21, 22, 23, 24, 48, 49, 50, 51, 52, 53, 54, 55, 56, 57, 58, 59, 60, 61, 62, 63] (by decide +kernel) (by decide +kernel))
set_option maxRecDepth 20000 in
theorem gX_showItself_R_withFirst : GoodIn wX_showItself (va_wsS RcX 225 yR_withFirst wR_withFirst) := goodIn_app (goodIn_of _ (by decide +kernel)) (goodIn_r _ [25] (by decide +kernel) (by decide +kernel))
set_option maxRecDepth 20000 in
theorem gX_showItself_X_showToAll : GoodIn wX_showItself (wsV RcX 228 RcX yX_showToAll wX_showToAll) := goodIn_app (goodIn_of _ (by decide +kernel)) (goodIn_r _ [26, 27, 28, 29, 4, 22, 23, 24, 30, 31, 32, 33, 34, 35, 36, 37, 38, 10, 39, 40, 41, 42, 43, 44, 45, 46, 47, 18, 48, 49, 50, 51, 52, 53, 54, 55, 56, 57, 58, 59, 60, 61, 62, 63] (by decide +kernel) (by decide +kernel))
theorem inX_showOthers_X : ∀ x ∈ u_ws RcX TcX 16, x ∈ wX_showOthers := by decide +kernel
set_option maxRecDepth 20000 in
theorem gX_showOthers_X_isLeader : GoodIn wX_showOthers (wsV RcX 156 RcX yX_isLeader wX_isLeader) := goodIn_app (goodIn_of _ (by decide +kernel)) (goodIn_r _ [15, 16, 17, 18, 5, 19, 20, 1, 63, 64, 65, 66, 67, 68, 69, 70, 71, 72, 73, 74, 75, 76, 77, 78] (by decide +kernel) (by decide +kernel))
set_option maxRecDepth 20000 in
theorem gX_showOthers_X_shortestLearnt : GoodIn wX_showOthers (wsV RcX 231 RcX yX_shortestLearnt wX_shortestLearnt) := goodIn_app (goodIn_of _ (by decide +kernel)) (goodIn_r _ [21, 22, 23, 24, 25, 26, 5, 27, 28, 11, 29, 30, 31, 32, 33, 34, 16, 17, 18, 35, 36, 20, 1, 37, 38, 39, 40, 41, 63, 64, 65, 66, 67, 68, 69, 70, 71, 72, 73, 74, 75, 76, 77, 78] (by decide +kernel) (by decide +kernel))
set_option maxRecDepth 20000 in
theorem gX_showOthers_R_withFirst : GoodIn wX_showOthers (va_wsS RcX 225 yR_withFirst wR_withFirst) := goodIn_app (goodIn_of _ (by decide +kernel)) (goodIn_r _ [42] (by decide +kernel) (by decide +kernel))
set_option maxRecDepth 20000 in
theorem gX_showOthers_X_showToAll : GoodIn wX_showOthers (wsV RcX 228 RcX yX_showToAll wX_showToAll) := goodIn_app (goodIn_of _ (by decide +kernel)) (goodIn_r _ [43, 44, 45, 46, 5, 22, 47, 48, 49, 50, 51, 52, 53, 54, 55, 29, 30, 11, 56, 57, 58, 59, 41, 60, 61, 62, 35, 19, 63, 64, 65, 66, 67, 68, 69, 70, 71, 72, 73, 74, 75, 76, 77, 78] (by decide +kernel) (by decide +kernel))
set_option maxRecDepth 20000 in
theorem gX_takeAllBack_X_isOver : GoodIn wX_takeAllBack (wsV RcX 185 RcX yX_isOver wX_isOver) := goodIn_app (goodIn_of _ (by decide +kernel)) (goodIn_r _ [8, 9, 10, 11, 12, 17, 18, 19, 20, 21, 22, 23, 24, 25, 26, 27, 28, 29, 30, 31, 32] (by decide +kernel) (by decide +kernel))
set_option maxRecDepth 20000 in
theorem gX_takeAllBack_X_moveAll : GoodIn wX_takeAllBack (wsV RcX 221 RcX yX_moveAll wX_moveAll) := goodIn_app (goodIn_of _ (by decide +kernel)) (goodIn_r _ [13, 14, 15, 16, 17, 18, 19, 20, 21, 22, 23, 24, 25, 26, 27, 28, 29, 30, 31, 32] (by decide +kernel) (by decide +kernel))
set_option maxRecDepth 20000 in
theorem gX_doDeeds_X_deployAll : GoodIn wX_doDeeds (wsV RcX 206 RcX yX_deployAll wX_deployAll) := goodIn_app (goodIn_of _ (by decide +kernel)) (goodIn_r _ [14, 15, 16, 17, 4, 18, 19, 20, 21, 22, 23, 24, 25, 26, 27, 28, 29, 30, 31, 32, 33, 34, 35, 36, 37, 38, 39, 40, 41, 42, 43, 44, 91, 92, 93, 94, 95, 96, 97, 98, 99, 100, 101, 102, 103, 104, 105, 106] (by decide +kernel) (by decide +kernel))
set_option maxRecDepth 20000 in
theorem gX_doDeeds_X_showItself : GoodIn wX_doDeeds (wsV RcX 209 RcX yX_showItself wX_showItself) := goodIn_app (goodIn_of _ (by decide +kernel)) (goodIn_r _ [45, 18, 19, 20, 4, 21, 22, 23, 46, 47, 48, 49, 50, 51, 32, 33, 34, 35, 36, 37, 38, 39, 40, 41, 42, 52, 53, 54, 55, 56, 57, 58, 59, 60, 61, 62, 63, 64, 65, 28, 29, 30, 31, 66, 67, 68, 69, 70, 91, 92, 93, 94, 95, 96, 97, 98, 99, 100, 101, 102, 103, 104, 105, 106] (by decide +kernel) (by decide +kernel))
set_option maxRecDepth 20000 in
theorem gX_doDeeds_X_showOthers : GoodIn wX_doDeeds (wsV RcX 212 RcX yX_showOthers wX_showOthers) := goodIn_app (goodIn_of _ (by decide +kernel)) (goodIn_r _ [71, 38, 18, 19, 20, 4, 72, 73, 74, 46, 47, 48, 49, 50, 51, 32, 33, 34, 35, 36, 37, 75, 40, 44, 76, 77, 78, 79, 80, 64, 65, 81, 82, 83, 84, 70, 85, 86, 87, 88, 89, 66, 52, 53, 54, 55, 56, 41, 42, 57, 58, 59, 60, 61, 62, 63, 28, 29, 30, 31, 67, 68, 69, 91, 92, 93, 94, 95, 96, 97, 98, 99, 100, 101, 102, 103, 104, 105, 106] (by decide +kernel) (by decide +kernel))
set_option maxRecDepth 20000 in
theorem gX_doDeeds_X_takeAllBack : GoodIn wX_doDeeds (wsV RcX 215 RcX yX_takeAllBack wX_takeAllBack) := goodIn_app (goodIn_of _ (by decide +kernel)) (goodIn_r _ [90, 15, 16, 17, 4, 24, 25, 26, 27, 28, 29, 30, 31, 43, 40, 44, 42, 91, 92, 93, 94, 95, 96, 97, 98, 99, 100, 101, 102, 103, 104, 105, 106] (by decide +kernel) (by decide +kernel))
theorem inX_leaders_X : ∀ x ∈ u_ws RcX TcX 16, x ∈ wX_leaders := by decide +kernel
set_option maxRecDepth 20000 in
theorem gX_conform_X_isParty : GoodIn wX_conform (wsV RcX 52 RcX yX_isParty wX_isParty) := goodIn_app (goodIn_of _ (by decide +kernel)) (goodIn_r _ [9, 10, 12, 13, 14, 15, 16, 17, 18, 19, 20, 21, 22, 23, 24, 25, 26, 27] (by decide +kernel) (by decide +kernel))
set_option maxRecDepth 20000 in
theorem gX_conform_X_conforms : GoodIn wX_conform (wsV RcX 113 RcX yX_conforms wX_conforms) := goodIn_app (goodIn_of _ (by decide +kernel)) (goodIn_r _ [11, 8, 12, 13, 14, 15, 16, 17, 18, 19, 20, 21, 22, 23, 24, 25, 26, 27] (by decide +kernel) (by decide +kernel))
theorem inX_conform_X : ∀ x ∈ u_ws RcX TcX 16, x ∈ wX_conform := by decide +kernel
theorem inX_step_X : ∀ x ∈ u_ws RcX TcX 16, x ∈ wX_step := by decide +kernel
set_option maxRecDepth 20000 in
theorem gX_step_R_size : GoodIn wX_step (va_wsS RcX 141 yR_size wR_size) := goodIn_app (goodIn_of _ (by decide +kernel)) (goodIn_r _ [11] (by decide +kernel) (by decide +kernel))
set_option maxRecDepth 20000 in
theorem gX_step_X_isParty : GoodIn wX_step (wsV RcX 52 RcX yX_isParty wX_isParty) := goodIn_app (goodIn_of _ (by decide +kernel)) (goodIn_r _ [12, 13, 16, 17, 18, 19, 20, 21, 22, 23, 24, 25, 26, 27, 28, 29, 30, 31] (by decide +kernel) (by decide +kernel))
set_option maxRecDepth 20000 in
theorem gX_step_R_withLast : GoodIn wX_step (va_wsS RcX 144 yR_withLast wR_withLast) := goodIn_app (goodIn_of _ (by decide +kernel)) (goodIn_r _ [14, 15, 3, 4, 11] (by decide +kernel) (by decide +kernel))
theorem inX_clear_X : ∀ x ∈ u_ws RcX TcX 16, x ∈ wX_clear := by decide +kernel
theorem inX_pass_X : ∀ x ∈ u_ws RcX TcX 16, x ∈ wX_pass := by decide +kernel
end
section
set_option maxHeartbeats 4000000 in
set_option maxRecDepth 100000 in
theorem c_countArcs3F (l : Launch) (D : va_G) (cI cZ cJ : ClassId) (b : Nat → Nat) (F : FT) (a : AT) (n : Nat) (x : Int32) (hn : F 8 = nI n) (hn4 : n ≤ 14) : Kr l yX_countArcs wX_countArcs ({ frames := 0, cells := 0, slots := 0, locals := 0 } : Room) D vwCl (tyG cI cZ cJ) [.ref (b 0), .ref (b 2), .int x] (wX cI b F a) (countArcs3F F a n x) := by
  intro sz
  refine v_ent (cc := bX_countArcs) (maxL := 5) (ret := (some .int)) (Qc := (fun _ _ st oc t => oc = .returned (some (.int (countArcs3F F a n x))) ∧ t.heap = st.heap)) (fr := (fun _ _ => False)) (own := RcX) rfl (by decide) rfl (Nat.le_of_ble_eq_true rfl) rfl ?_
  intro p e s m args below meth c A C hr _
  refine v_iconst C (v := 0) dX_countArcs_0 (by decide) ?_
  refine v_istore_n C (lv' := [(0, .ref (b 0)), (1, .ref (b 2)), (2, .int x), (3, .int 0)]) [1, 2, 3, 0] dX_countArcs_1 rfl (by decide) rfl ?_
  refine v_iconst C (v := 0) dX_countArcs_2 (by decide) ?_
  refine v_istore C (lv' := [(0, .ref (b 0)), (1, .ref (b 2)), (2, .int x), (3, .int 0), (4, .int 0)]) [1, 2, 3, 4, 0] dX_countArcs_3 (by decide) rfl ?_
  refine v_loop1 n (fun (i : Nat) (d : Int32) => wX cI b F a) (fun (i : Nat) (d : Int32) => [(0, .ref (b 0)), (1, .ref (b 2)), (2, .int x), (3, .int d), (4, .int (nI i))]) (fun (ki i : Nat) (d : Int32) => countArcs3L F a n x ki i d = countArcs3L F a n x n 0 0) ?_ ?_ n 0 0 (by omega) rfl
  · skip
    intro ki i d hki hIi ihi
    have hIi : countArcs3L F a n x (ki + 1) i d = countArcs3L F a n x n 0 0 := hIi
    refine v_as (w' := wX cI b F a) (lv' := [(0, .ref (b 0)), (1, .ref (b 2)), (2, .int x), (3, .int d), (4, .int (nI i))]) rfl rfl ?_
    refine v_iload C 4 dX_countArcs_5 rfl ?_
    refine v_aload_n C 0 dX_countArcs_7 rfl rfl ?_
    refine v_get C (T := TcX) (N := 16) (ci := 0) (v := .int (F 8)) inX_countArcs_X 0 rfl rfl 8 (by decide) (by decide +kernel) rfl rfl dX_countArcs_8 ?_
    refine v_top (y := nI n) hn ?_
    refine v_icmp_ge C dX_countArcs_11 (tgt := 31) (by decide) (fun h => absurd h (nI_ge (a := i) (b := n) (by omega) (by omega))) (fun _ => ?_)
    refine v_aload_n C 1 dX_countArcs_14 rfl rfl ?_
    refine v_iload C 4 dX_countArcs_15 rfl ?_
    refine v_iald C 2 0 (f := a 3) (y := (a 3) i) (j := i) rfl rfl (nI_clamp (by omega)) rfl (vp_in_nI (by omega) (by decide)) dX_countArcs_17 ?_
    refine v_iload_n C 2 dX_countArcs_18 rfl rfl ?_
    refine v_icmp_ne C dX_countArcs_19 (tgt := 25) (by decide) (fun h1 => ?_) (fun h1 => ?_)
    · skip
      refine v_iinc C (v := nI (i + 1)) (lv' := [(0, .ref (b 0)), (1, .ref (b 2)), (2, .int x), (3, .int d), (4, .int (nI (i + 1)))]) 4 [1, 2, 3, 4, 0] dX_countArcs_25 rfl (nI_1 i) (by decide) rfl ?_
      refine v_goto C dX_countArcs_28 (tgt := 5) (by decide) ?_
      have hL : countArcs3L F a n x ki (i + 1) d = countArcs3L F a n x n 0 0 := (by rw [← hIi]; simp only [countArcs3L]; rw [if_neg h1])
      exact ihi d hL
    · skip
      refine v_iinc C (v := d + 1) (lv' := [(0, .ref (b 0)), (1, .ref (b 2)), (2, .int x), (3, .int (d + 1)), (4, .int (nI i))]) 3 [1, 2, 3, 0, 4] dX_countArcs_22 rfl rfl (by decide) rfl ?_
      refine v_iinc C (v := nI (i + 1)) (lv' := [(0, .ref (b 0)), (1, .ref (b 2)), (2, .int x), (3, .int (d + 1)), (4, .int (nI (i + 1)))]) 4 [1, 2, 3, 4, 0] dX_countArcs_25 rfl (nI_1 i) (by decide) rfl ?_
      refine v_goto C dX_countArcs_28 (tgt := 5) (by decide) ?_
      have hL : countArcs3L F a n x ki (i + 1) (d + 1) = countArcs3L F a n x n 0 0 := (by rw [← hIi]; simp only [countArcs3L]; rw [if_pos h1])
      exact ihi (d + 1) hL
  · skip
    intro d hIi
    have hIi : countArcs3L F a n x 0 n d = countArcs3L F a n x n 0 0 := hIi
    refine v_as (w' := wX cI b F a) (lv' := [(0, .ref (b 0)), (1, .ref (b 2)), (2, .int x), (3, .int d), (4, .int (nI n))]) rfl rfl ?_
    have hIi : d = countArcs3L F a n x n 0 0 := hIi
    subst hIi
    refine v_iload C 4 dX_countArcs_5 rfl ?_
    refine v_aload_n C 0 dX_countArcs_7 rfl rfl ?_
    refine v_get C (T := TcX) (N := 16) (ci := 0) (v := .int (F 8)) inX_countArcs_X 0 rfl rfl 8 (by decide) (by decide +kernel) rfl rfl dX_countArcs_8 ?_
    refine v_top (y := nI n) hn ?_
    refine v_icmp_ge C dX_countArcs_11 (tgt := 31) (by decide) (fun _ => ?_) (fun h => absurd (nI_le (a := n) (b := n) (by omega) (by omega)) h)
    refine v_iload_n C 3 dX_countArcs_31 rfl rfl ?_
    exact v_irr C hr (by unfold countArcs3F; rfl) dX_countArcs_32
set_option maxHeartbeats 4000000 in
set_option maxRecDepth 100000 in
theorem c_countArcs4F (l : Launch) (D : va_G) (cI cZ cJ : ClassId) (b : Nat → Nat) (F : FT) (a : AT) (n : Nat) (x : Int32) (hn : F 8 = nI n) (hn4 : n ≤ 14) : Kr l yX_countArcs wX_countArcs ({ frames := 0, cells := 0, slots := 0, locals := 0 } : Room) D vwCl (tyG cI cZ cJ) [.ref (b 0), .ref (b 3), .int x] (wX cI b F a) (countArcs4F F a n x) := by
  intro sz
  refine v_ent (cc := bX_countArcs) (maxL := 5) (ret := (some .int)) (Qc := (fun _ _ st oc t => oc = .returned (some (.int (countArcs4F F a n x))) ∧ t.heap = st.heap)) (fr := (fun _ _ => False)) (own := RcX) rfl (by decide) rfl (Nat.le_of_ble_eq_true rfl) rfl ?_
  intro p e s m args below meth c A C hr _
  refine v_iconst C (v := 0) dX_countArcs_0 (by decide) ?_
  refine v_istore_n C (lv' := [(0, .ref (b 0)), (1, .ref (b 3)), (2, .int x), (3, .int 0)]) [1, 2, 3, 0] dX_countArcs_1 rfl (by decide) rfl ?_
  refine v_iconst C (v := 0) dX_countArcs_2 (by decide) ?_
  refine v_istore C (lv' := [(0, .ref (b 0)), (1, .ref (b 3)), (2, .int x), (3, .int 0), (4, .int 0)]) [1, 2, 3, 4, 0] dX_countArcs_3 (by decide) rfl ?_
  refine v_loop1 n (fun (i : Nat) (d : Int32) => wX cI b F a) (fun (i : Nat) (d : Int32) => [(0, .ref (b 0)), (1, .ref (b 3)), (2, .int x), (3, .int d), (4, .int (nI i))]) (fun (ki i : Nat) (d : Int32) => countArcs4L F a n x ki i d = countArcs4L F a n x n 0 0) ?_ ?_ n 0 0 (by omega) rfl
  · skip
    intro ki i d hki hIi ihi
    have hIi : countArcs4L F a n x (ki + 1) i d = countArcs4L F a n x n 0 0 := hIi
    refine v_as (w' := wX cI b F a) (lv' := [(0, .ref (b 0)), (1, .ref (b 3)), (2, .int x), (3, .int d), (4, .int (nI i))]) rfl rfl ?_
    refine v_iload C 4 dX_countArcs_5 rfl ?_
    refine v_aload_n C 0 dX_countArcs_7 rfl rfl ?_
    refine v_get C (T := TcX) (N := 16) (ci := 0) (v := .int (F 8)) inX_countArcs_X 0 rfl rfl 8 (by decide) (by decide +kernel) rfl rfl dX_countArcs_8 ?_
    refine v_top (y := nI n) hn ?_
    refine v_icmp_ge C dX_countArcs_11 (tgt := 31) (by decide) (fun h => absurd h (nI_ge (a := i) (b := n) (by omega) (by omega))) (fun _ => ?_)
    refine v_aload_n C 1 dX_countArcs_14 rfl rfl ?_
    refine v_iload C 4 dX_countArcs_15 rfl ?_
    refine v_iald C 3 0 (f := a 4) (y := (a 4) i) (j := i) rfl rfl (nI_clamp (by omega)) rfl (vp_in_nI (by omega) (by decide)) dX_countArcs_17 ?_
    refine v_iload_n C 2 dX_countArcs_18 rfl rfl ?_
    refine v_icmp_ne C dX_countArcs_19 (tgt := 25) (by decide) (fun h1 => ?_) (fun h1 => ?_)
    · skip
      refine v_iinc C (v := nI (i + 1)) (lv' := [(0, .ref (b 0)), (1, .ref (b 3)), (2, .int x), (3, .int d), (4, .int (nI (i + 1)))]) 4 [1, 2, 3, 4, 0] dX_countArcs_25 rfl (nI_1 i) (by decide) rfl ?_
      refine v_goto C dX_countArcs_28 (tgt := 5) (by decide) ?_
      have hL : countArcs4L F a n x ki (i + 1) d = countArcs4L F a n x n 0 0 := (by rw [← hIi]; simp only [countArcs4L]; rw [if_neg h1])
      exact ihi d hL
    · skip
      refine v_iinc C (v := d + 1) (lv' := [(0, .ref (b 0)), (1, .ref (b 3)), (2, .int x), (3, .int (d + 1)), (4, .int (nI i))]) 3 [1, 2, 3, 0, 4] dX_countArcs_22 rfl rfl (by decide) rfl ?_
      refine v_iinc C (v := nI (i + 1)) (lv' := [(0, .ref (b 0)), (1, .ref (b 3)), (2, .int x), (3, .int (d + 1)), (4, .int (nI (i + 1)))]) 4 [1, 2, 3, 4, 0] dX_countArcs_25 rfl (nI_1 i) (by decide) rfl ?_
      refine v_goto C dX_countArcs_28 (tgt := 5) (by decide) ?_
      have hL : countArcs4L F a n x ki (i + 1) (d + 1) = countArcs4L F a n x n 0 0 := (by rw [← hIi]; simp only [countArcs4L]; rw [if_pos h1])
      exact ihi (d + 1) hL
  · skip
    intro d hIi
    have hIi : countArcs4L F a n x 0 n d = countArcs4L F a n x n 0 0 := hIi
    refine v_as (w' := wX cI b F a) (lv' := [(0, .ref (b 0)), (1, .ref (b 3)), (2, .int x), (3, .int d), (4, .int (nI n))]) rfl rfl ?_
    have hIi : d = countArcs4L F a n x n 0 0 := hIi
    subst hIi
    refine v_iload C 4 dX_countArcs_5 rfl ?_
    refine v_aload_n C 0 dX_countArcs_7 rfl rfl ?_
    refine v_get C (T := TcX) (N := 16) (ci := 0) (v := .int (F 8)) inX_countArcs_X 0 rfl rfl 8 (by decide) (by decide +kernel) rfl rfl dX_countArcs_8 ?_
    refine v_top (y := nI n) hn ?_
    refine v_icmp_ge C dX_countArcs_11 (tgt := 31) (by decide) (fun _ => ?_) (fun h => absurd (nI_le (a := n) (b := n) (by omega) (by omega)) h)
    refine v_iload_n C 3 dX_countArcs_31 rfl rfl ?_
    exact v_irr C hr (by unfold countArcs4F; rfl) dX_countArcs_32
set_option maxHeartbeats 4000000 in
set_option maxRecDepth 100000 in
theorem c_countPaid3F (l : Launch) (D : va_G) (cI cZ cJ : ClassId) (b : Nat → Nat) (F : FT) (a : AT) (n : Nat) (x : Int32) (hn : F 8 = nI n) (hn4 : n ≤ 14) : Kr l yX_countPaid wX_countPaid ({ frames := 0, cells := 0, slots := 0, locals := 0 } : Room) D vwCl (tyG cI cZ cJ) [.ref (b 0), .ref (b 2), .int x] (wX cI b F a) (countPaid3F F a n x) := by
  intro sz
  refine v_ent (cc := bX_countPaid) (maxL := 5) (ret := (some .int)) (Qc := (fun _ _ st oc t => oc = .returned (some (.int (countPaid3F F a n x))) ∧ t.heap = st.heap)) (fr := (fun _ _ => False)) (own := RcX) rfl (by decide) rfl (Nat.le_of_ble_eq_true rfl) rfl ?_
  intro p e s m args below meth c A C hr _
  refine v_iconst C (v := 0) dX_countPaid_0 (by decide) ?_
  refine v_istore_n C (lv' := [(0, .ref (b 0)), (1, .ref (b 2)), (2, .int x), (3, .int 0)]) [1, 2, 3, 0] dX_countPaid_1 rfl (by decide) rfl ?_
  refine v_iconst C (v := 0) dX_countPaid_2 (by decide) ?_
  refine v_istore C (lv' := [(0, .ref (b 0)), (1, .ref (b 2)), (2, .int x), (3, .int 0), (4, .int 0)]) [1, 2, 3, 4, 0] dX_countPaid_3 (by decide) rfl ?_
  refine v_loop1 n (fun (i : Nat) (d : Int32) => wX cI b F a) (fun (i : Nat) (d : Int32) => [(0, .ref (b 0)), (1, .ref (b 2)), (2, .int x), (3, .int d), (4, .int (nI i))]) (fun (ki i : Nat) (d : Int32) => countPaid3L F a n x ki i d = countPaid3L F a n x n 0 0) ?_ ?_ n 0 0 (by omega) rfl
  · skip
    intro ki i d hki hIi ihi
    have hIi : countPaid3L F a n x (ki + 1) i d = countPaid3L F a n x n 0 0 := hIi
    refine v_as (w' := wX cI b F a) (lv' := [(0, .ref (b 0)), (1, .ref (b 2)), (2, .int x), (3, .int d), (4, .int (nI i))]) rfl rfl ?_
    refine v_iload C 4 dX_countPaid_5 rfl ?_
    refine v_aload_n C 0 dX_countPaid_7 rfl rfl ?_
    refine v_get C (T := TcX) (N := 16) (ci := 0) (v := .int (F 8)) inX_countPaid_X 0 rfl rfl 8 (by decide) (by decide +kernel) rfl rfl dX_countPaid_8 ?_
    refine v_top (y := nI n) hn ?_
    refine v_icmp_ge C dX_countPaid_11 (tgt := 42) (by decide) (fun h => absurd h (nI_ge (a := i) (b := n) (by omega) (by omega))) (fun _ => ?_)
    refine v_aload_n C 1 dX_countPaid_14 rfl rfl ?_
    refine v_iload C 4 dX_countPaid_15 rfl ?_
    refine v_iald C 2 0 (f := a 3) (y := (a 3) i) (j := i) rfl rfl (nI_clamp (by omega)) rfl (vp_in_nI (by omega) (by decide)) dX_countPaid_17 ?_
    refine v_iload_n C 2 dX_countPaid_18 rfl rfl ?_
    refine v_icmp_ne C dX_countPaid_19 (tgt := 36) (by decide) (fun h1 => ?_) (fun h1 => ?_)
    · skip
      refine v_iinc C (v := nI (i + 1)) (lv' := [(0, .ref (b 0)), (1, .ref (b 2)), (2, .int x), (3, .int d), (4, .int (nI (i + 1)))]) 4 [1, 2, 3, 4, 0] dX_countPaid_36 rfl (nI_1 i) (by decide) rfl ?_
      refine v_goto C dX_countPaid_39 (tgt := 5) (by decide) ?_
      have hL : countPaid3L F a n x ki (i + 1) d = countPaid3L F a n x n 0 0 := (by rw [← hIi]; simp only [countPaid3L]; rw [if_neg h1])
      exact ihi d hL
    · skip
      refine v_aload_n C 0 dX_countPaid_22 rfl rfl ?_
      refine v_get C (T := TcX) (N := 16) (ci := 0) (v := .ref (b 4)) inX_countPaid_X 0 rfl rfl 5 (by decide) (by decide +kernel) rfl rfl dX_countPaid_23 ?_
      refine v_iload C 4 dX_countPaid_26 rfl ?_
      refine v_iald C 4 0 (f := a 5) (y := (a 5) i) (j := i) rfl rfl (nI_clamp (by omega)) rfl (vp_in_nI (by omega) (by decide)) dX_countPaid_28 ?_
      refine v_iconst C (v := 2) dX_countPaid_29 (by decide) ?_
      refine v_icmp_ne C dX_countPaid_30 (tgt := 36) (by decide) (fun h2 => ?_) (fun h2 => ?_)
      · skip
        refine v_iinc C (v := nI (i + 1)) (lv' := [(0, .ref (b 0)), (1, .ref (b 2)), (2, .int x), (3, .int d), (4, .int (nI (i + 1)))]) 4 [1, 2, 3, 4, 0] dX_countPaid_36 rfl (nI_1 i) (by decide) rfl ?_
        refine v_goto C dX_countPaid_39 (tgt := 5) (by decide) ?_
        have hL : countPaid3L F a n x ki (i + 1) d = countPaid3L F a n x n 0 0 := (by rw [← hIi]; simp only [countPaid3L]; rw [if_pos h1, if_neg h2])
        exact ihi d hL
      · skip
        refine v_iinc C (v := d + 1) (lv' := [(0, .ref (b 0)), (1, .ref (b 2)), (2, .int x), (3, .int (d + 1)), (4, .int (nI i))]) 3 [1, 2, 3, 0, 4] dX_countPaid_33 rfl rfl (by decide) rfl ?_
        refine v_iinc C (v := nI (i + 1)) (lv' := [(0, .ref (b 0)), (1, .ref (b 2)), (2, .int x), (3, .int (d + 1)), (4, .int (nI (i + 1)))]) 4 [1, 2, 3, 4, 0] dX_countPaid_36 rfl (nI_1 i) (by decide) rfl ?_
        refine v_goto C dX_countPaid_39 (tgt := 5) (by decide) ?_
        have hL : countPaid3L F a n x ki (i + 1) (d + 1) = countPaid3L F a n x n 0 0 := (by rw [← hIi]; simp only [countPaid3L]; rw [if_pos h1, if_pos h2])
        exact ihi (d + 1) hL
  · skip
    intro d hIi
    have hIi : countPaid3L F a n x 0 n d = countPaid3L F a n x n 0 0 := hIi
    refine v_as (w' := wX cI b F a) (lv' := [(0, .ref (b 0)), (1, .ref (b 2)), (2, .int x), (3, .int d), (4, .int (nI n))]) rfl rfl ?_
    have hIi : d = countPaid3L F a n x n 0 0 := hIi
    subst hIi
    refine v_iload C 4 dX_countPaid_5 rfl ?_
    refine v_aload_n C 0 dX_countPaid_7 rfl rfl ?_
    refine v_get C (T := TcX) (N := 16) (ci := 0) (v := .int (F 8)) inX_countPaid_X 0 rfl rfl 8 (by decide) (by decide +kernel) rfl rfl dX_countPaid_8 ?_
    refine v_top (y := nI n) hn ?_
    refine v_icmp_ge C dX_countPaid_11 (tgt := 42) (by decide) (fun _ => ?_) (fun h => absurd (nI_le (a := n) (b := n) (by omega) (by omega)) h)
    refine v_iload_n C 3 dX_countPaid_42 rfl rfl ?_
    exact v_irr C hr (by unfold countPaid3F; rfl) dX_countPaid_43
set_option maxHeartbeats 4000000 in
set_option maxRecDepth 100000 in
theorem c_countPaid4F (l : Launch) (D : va_G) (cI cZ cJ : ClassId) (b : Nat → Nat) (F : FT) (a : AT) (n : Nat) (x : Int32) (hn : F 8 = nI n) (hn4 : n ≤ 14) : Kr l yX_countPaid wX_countPaid ({ frames := 0, cells := 0, slots := 0, locals := 0 } : Room) D vwCl (tyG cI cZ cJ) [.ref (b 0), .ref (b 3), .int x] (wX cI b F a) (countPaid4F F a n x) := by
  intro sz
  refine v_ent (cc := bX_countPaid) (maxL := 5) (ret := (some .int)) (Qc := (fun _ _ st oc t => oc = .returned (some (.int (countPaid4F F a n x))) ∧ t.heap = st.heap)) (fr := (fun _ _ => False)) (own := RcX) rfl (by decide) rfl (Nat.le_of_ble_eq_true rfl) rfl ?_
  intro p e s m args below meth c A C hr _
  refine v_iconst C (v := 0) dX_countPaid_0 (by decide) ?_
  refine v_istore_n C (lv' := [(0, .ref (b 0)), (1, .ref (b 3)), (2, .int x), (3, .int 0)]) [1, 2, 3, 0] dX_countPaid_1 rfl (by decide) rfl ?_
  refine v_iconst C (v := 0) dX_countPaid_2 (by decide) ?_
  refine v_istore C (lv' := [(0, .ref (b 0)), (1, .ref (b 3)), (2, .int x), (3, .int 0), (4, .int 0)]) [1, 2, 3, 4, 0] dX_countPaid_3 (by decide) rfl ?_
  refine v_loop1 n (fun (i : Nat) (d : Int32) => wX cI b F a) (fun (i : Nat) (d : Int32) => [(0, .ref (b 0)), (1, .ref (b 3)), (2, .int x), (3, .int d), (4, .int (nI i))]) (fun (ki i : Nat) (d : Int32) => countPaid4L F a n x ki i d = countPaid4L F a n x n 0 0) ?_ ?_ n 0 0 (by omega) rfl
  · skip
    intro ki i d hki hIi ihi
    have hIi : countPaid4L F a n x (ki + 1) i d = countPaid4L F a n x n 0 0 := hIi
    refine v_as (w' := wX cI b F a) (lv' := [(0, .ref (b 0)), (1, .ref (b 3)), (2, .int x), (3, .int d), (4, .int (nI i))]) rfl rfl ?_
    refine v_iload C 4 dX_countPaid_5 rfl ?_
    refine v_aload_n C 0 dX_countPaid_7 rfl rfl ?_
    refine v_get C (T := TcX) (N := 16) (ci := 0) (v := .int (F 8)) inX_countPaid_X 0 rfl rfl 8 (by decide) (by decide +kernel) rfl rfl dX_countPaid_8 ?_
    refine v_top (y := nI n) hn ?_
    refine v_icmp_ge C dX_countPaid_11 (tgt := 42) (by decide) (fun h => absurd h (nI_ge (a := i) (b := n) (by omega) (by omega))) (fun _ => ?_)
    refine v_aload_n C 1 dX_countPaid_14 rfl rfl ?_
    refine v_iload C 4 dX_countPaid_15 rfl ?_
    refine v_iald C 3 0 (f := a 4) (y := (a 4) i) (j := i) rfl rfl (nI_clamp (by omega)) rfl (vp_in_nI (by omega) (by decide)) dX_countPaid_17 ?_
    refine v_iload_n C 2 dX_countPaid_18 rfl rfl ?_
    refine v_icmp_ne C dX_countPaid_19 (tgt := 36) (by decide) (fun h1 => ?_) (fun h1 => ?_)
    · skip
      refine v_iinc C (v := nI (i + 1)) (lv' := [(0, .ref (b 0)), (1, .ref (b 3)), (2, .int x), (3, .int d), (4, .int (nI (i + 1)))]) 4 [1, 2, 3, 4, 0] dX_countPaid_36 rfl (nI_1 i) (by decide) rfl ?_
      refine v_goto C dX_countPaid_39 (tgt := 5) (by decide) ?_
      have hL : countPaid4L F a n x ki (i + 1) d = countPaid4L F a n x n 0 0 := (by rw [← hIi]; simp only [countPaid4L]; rw [if_neg h1])
      exact ihi d hL
    · skip
      refine v_aload_n C 0 dX_countPaid_22 rfl rfl ?_
      refine v_get C (T := TcX) (N := 16) (ci := 0) (v := .ref (b 4)) inX_countPaid_X 0 rfl rfl 5 (by decide) (by decide +kernel) rfl rfl dX_countPaid_23 ?_
      refine v_iload C 4 dX_countPaid_26 rfl ?_
      refine v_iald C 4 0 (f := a 5) (y := (a 5) i) (j := i) rfl rfl (nI_clamp (by omega)) rfl (vp_in_nI (by omega) (by decide)) dX_countPaid_28 ?_
      refine v_iconst C (v := 2) dX_countPaid_29 (by decide) ?_
      refine v_icmp_ne C dX_countPaid_30 (tgt := 36) (by decide) (fun h2 => ?_) (fun h2 => ?_)
      · skip
        refine v_iinc C (v := nI (i + 1)) (lv' := [(0, .ref (b 0)), (1, .ref (b 3)), (2, .int x), (3, .int d), (4, .int (nI (i + 1)))]) 4 [1, 2, 3, 4, 0] dX_countPaid_36 rfl (nI_1 i) (by decide) rfl ?_
        refine v_goto C dX_countPaid_39 (tgt := 5) (by decide) ?_
        have hL : countPaid4L F a n x ki (i + 1) d = countPaid4L F a n x n 0 0 := (by rw [← hIi]; simp only [countPaid4L]; rw [if_pos h1, if_neg h2])
        exact ihi d hL
      · skip
        refine v_iinc C (v := d + 1) (lv' := [(0, .ref (b 0)), (1, .ref (b 3)), (2, .int x), (3, .int (d + 1)), (4, .int (nI i))]) 3 [1, 2, 3, 0, 4] dX_countPaid_33 rfl rfl (by decide) rfl ?_
        refine v_iinc C (v := nI (i + 1)) (lv' := [(0, .ref (b 0)), (1, .ref (b 3)), (2, .int x), (3, .int (d + 1)), (4, .int (nI (i + 1)))]) 4 [1, 2, 3, 4, 0] dX_countPaid_36 rfl (nI_1 i) (by decide) rfl ?_
        refine v_goto C dX_countPaid_39 (tgt := 5) (by decide) ?_
        have hL : countPaid4L F a n x ki (i + 1) (d + 1) = countPaid4L F a n x n 0 0 := (by rw [← hIi]; simp only [countPaid4L]; rw [if_pos h1, if_pos h2])
        exact ihi (d + 1) hL
  · skip
    intro d hIi
    have hIi : countPaid4L F a n x 0 n d = countPaid4L F a n x n 0 0 := hIi
    refine v_as (w' := wX cI b F a) (lv' := [(0, .ref (b 0)), (1, .ref (b 3)), (2, .int x), (3, .int d), (4, .int (nI n))]) rfl rfl ?_
    have hIi : d = countPaid4L F a n x n 0 0 := hIi
    subst hIi
    refine v_iload C 4 dX_countPaid_5 rfl ?_
    refine v_aload_n C 0 dX_countPaid_7 rfl rfl ?_
    refine v_get C (T := TcX) (N := 16) (ci := 0) (v := .int (F 8)) inX_countPaid_X 0 rfl rfl 8 (by decide) (by decide +kernel) rfl rfl dX_countPaid_8 ?_
    refine v_top (y := nI n) hn ?_
    refine v_icmp_ge C dX_countPaid_11 (tgt := 42) (by decide) (fun _ => ?_) (fun h => absurd (nI_le (a := n) (b := n) (by omega) (by omega)) h)
    refine v_iload_n C 3 dX_countPaid_42 rfl rfl ?_
    exact v_irr C hr (by unfold countPaid4F; rfl) dX_countPaid_43
set_option maxHeartbeats 4000000 in
set_option maxRecDepth 100000 in
theorem c_deployAllF (l : Launch) (D : va_G) (cI cZ cJ : ClassId) (b : Nat → Nat) (F : FT) (a : AT) (n : Nat) (x : Int32) (hn : F 8 = nI n) (hn4 : n ≤ 14) : Ki l yX_deployAll wX_deployAll ({ frames := 2, cells := 0, slots := 0, locals := 42 } : Room) D vwCl (tyG cI cZ cJ) [.ref (b 0), .int x] (wX cI b F a) ((deployAllF F a n x).1) (wX cI b F ((deployAllF F a n x).2)) := by
  intro sz
  refine v_ent (cc := bX_deployAll) (maxL := 2) (ret := (some .int)) (Qc := (fun A => va_Qi (fun (x9 : Int32) (_ : Unit) => x9 = (deployAllF F a n x).1) (fun _ => wB D vwCl (tyG cI cZ cJ) A (wX cI b F ((deployAllF F a n x).2))) A)) (fr := (fun A => A)) (own := RcX) rfl (by decide) rfl (Nat.le_of_ble_eq_true rfl) rfl ?_
  intro p e s m args below meth c A C hr _
  refine v_free ?_
  refine v_aload_n C 0 dX_deployAll_0 rfl rfl ?_
  refine v_cVrF (As := []) C (c_isOverF l D cI cZ cJ b F a) (cwV 0 C.2.2.2.2.1 gX_deployAll_X_isOver rfl rfl rfl (by decide +kernel) ⟨Nat.le_of_ble_eq_true rfl, Nat.le_of_ble_eq_true rfl⟩) 0 rfl (T := TcX) (N := 16) rfl rfl rfl (Nat.le_of_ble_eq_true rfl) ⟨Nat.zero_le _, Nat.zero_le _⟩ dX_deployAll_1 ?_
  refine v_if_ne C dX_deployAll_4 (tgt := 23) (by decide) (fun h1 => ?_) (fun h1 => ?_)
  · skip
    refine v_iconst C (v := 0) dX_deployAll_23 (by decide) ?_
    have hE : (0, a) = deployAllF F a n x := (by unfold deployAllF; rw [if_neg h1])
    exact v_iret C hr (by rw [← hE]) (by rw [← hE]) dX_deployAll_24
  · skip
    refine v_aload_n C 0 dX_deployAll_7 rfl rfl ?_
    refine v_iload_n C 1 dX_deployAll_8 rfl rfl ?_
    refine v_cVrF (As := [.int x]) C (c_isLeaderF l D cI cZ cJ b F a x) (cwV 1 C.2.2.2.2.1 gX_deployAll_X_isLeader rfl rfl rfl (by decide +kernel) ⟨Nat.le_of_ble_eq_true rfl, Nat.le_of_ble_eq_true rfl⟩) 0 rfl (T := TcX) (N := 16) rfl rfl rfl (Nat.le_of_ble_eq_true rfl) ⟨Nat.zero_le _, Nat.zero_le _⟩ dX_deployAll_9 ?_
    refine v_if_ne C dX_deployAll_12 (tgt := 25) (by decide) (fun h2 => ?_) (fun h2 => ?_)
    · skip
      refine v_aload_n C 0 dX_deployAll_25 rfl rfl ?_
      refine v_iload_n C 1 dX_deployAll_26 rfl rfl ?_
      refine v_iconst C (v := 0) dX_deployAll_27 (by decide) ?_
      refine v_iconst C (v := 1) dX_deployAll_28 (by decide) ?_
      refine v_cViF (As := [.int x, .int 0, .int 1]) C (c_moveAllF l D cI cZ cJ b F a n x 0 1 hn hn4) (cwV 3 C.2.2.2.2.1 gX_deployAll_X_moveAll rfl rfl rfl (by decide +kernel) ⟨Nat.le_of_ble_eq_true rfl, Nat.le_of_ble_eq_true rfl⟩) 0 rfl (T := TcX) (N := 16) rfl rfl rfl (Nat.le_of_ble_eq_true rfl) ⟨Nat.zero_le _, Nat.zero_le _⟩ dX_deployAll_29 ?_
      have hE : ((moveAllF F a n x 0 1).1, (moveAllF F a n x 0 1).2) = deployAllF F a n x := (by unfold deployAllF; rw [if_pos h1, if_neg h2])
      exact v_iret C hr (by rw [← hE]) (by rw [← hE]) dX_deployAll_32
    · skip
      refine v_aload_n C 0 dX_deployAll_15 rfl rfl ?_
      refine v_iload_n C 1 dX_deployAll_16 rfl rfl ?_
      refine v_cVrF (As := [.int x]) C (c_isSecuredF l D cI cZ cJ b F a n x hn hn4) (cwV 1 C.2.2.2.2.1 gX_deployAll_X_isSecured rfl rfl rfl (by decide +kernel) ⟨Nat.le_of_ble_eq_true rfl, Nat.le_of_ble_eq_true rfl⟩) 0 rfl (T := TcX) (N := 16) rfl rfl rfl (Nat.le_of_ble_eq_true rfl) ⟨Nat.zero_le _, Nat.zero_le _⟩ dX_deployAll_17 ?_
      refine v_if_ne C dX_deployAll_20 (tgt := 25) (by decide) (fun h3 => ?_) (fun h3 => ?_)
      · skip
        refine v_aload_n C 0 dX_deployAll_25 rfl rfl ?_
        refine v_iload_n C 1 dX_deployAll_26 rfl rfl ?_
        refine v_iconst C (v := 0) dX_deployAll_27 (by decide) ?_
        refine v_iconst C (v := 1) dX_deployAll_28 (by decide) ?_
        refine v_cViF (As := [.int x, .int 0, .int 1]) C (c_moveAllF l D cI cZ cJ b F a n x 0 1 hn hn4) (cwV 3 C.2.2.2.2.1 gX_deployAll_X_moveAll rfl rfl rfl (by decide +kernel) ⟨Nat.le_of_ble_eq_true rfl, Nat.le_of_ble_eq_true rfl⟩) 0 rfl (T := TcX) (N := 16) rfl rfl rfl (Nat.le_of_ble_eq_true rfl) ⟨Nat.zero_le _, Nat.zero_le _⟩ dX_deployAll_29 ?_
        have hE : ((moveAllF F a n x 0 1).1, (moveAllF F a n x 0 1).2) = deployAllF F a n x := (by unfold deployAllF; rw [if_pos h1, if_pos h2, if_neg h3])
        exact v_iret C hr (by rw [← hE]) (by rw [← hE]) dX_deployAll_32
      · skip
        refine v_iconst C (v := 0) dX_deployAll_23 (by decide) ?_
        have hE : (0, a) = deployAllF F a n x := (by unfold deployAllF; rw [if_pos h1, if_pos h2, if_pos h3])
        exact v_iret C hr (by rw [← hE]) (by rw [← hE]) dX_deployAll_24
set_option maxHeartbeats 4000000 in
set_option maxRecDepth 100000 in
theorem c_showItselfF (l : Launch) (D : va_G) (cI cZ cJ : ClassId) (b : Nat → Nat) (F : FT) (a : AT) (n : Nat) (P : Nat) (x : Int32) (hn : F 8 = nI n) (hn4 : n ≤ 14) (hp : F 0 = nI P) (hp6 : P ≤ 6) : Ki l yX_showItself wX_showItself ({ frames := 3, cells := 0, slots := 0, locals := 68 } : Room) D vwCl (tyG cI cZ cJ) [.ref (b 0), .int x] (wX cI b F a) ((showItselfF F a n x).1) (wX cI b F ((showItselfF F a n x).2)) := by
  intro sz
  refine v_ent (cc := bX_showItself) (maxL := 2) (ret := (some .int)) (Qc := (fun A => va_Qi (fun (x9 : Int32) (_ : Unit) => x9 = (showItselfF F a n x).1) (fun _ => wB D vwCl (tyG cI cZ cJ) A (wX cI b F ((showItselfF F a n x).2))) A)) (fr := (fun A => A)) (own := RcX) rfl (by decide) rfl (Nat.le_of_ble_eq_true rfl) rfl ?_
  intro p e s m args below meth c A C hr _
  refine v_free ?_
  refine v_aload_n C 0 dX_showItself_0 rfl rfl ?_
  refine v_iload_n C 1 dX_showItself_1 rfl rfl ?_
  refine v_cVrF (As := [.int x]) C (c_isLeaderF l D cI cZ cJ b F a x) (cwV 1 C.2.2.2.2.1 gX_showItself_X_isLeader rfl rfl rfl (by decide +kernel) ⟨Nat.le_of_ble_eq_true rfl, Nat.le_of_ble_eq_true rfl⟩) 0 rfl (T := TcX) (N := 16) rfl rfl rfl (Nat.le_of_ble_eq_true rfl) ⟨Nat.zero_le _, Nat.zero_le _⟩ dX_showItself_2 ?_
  refine v_if_eq C dX_showItself_5 (tgt := 16) (by decide) (fun h1 => ?_) (fun h1 => ?_)
  · skip
    refine v_iconst C (v := 0) dX_showItself_16 (by decide) ?_
    have hE : (0, a) = showItselfF F a n x := (by unfold showItselfF; rw [if_pos h1])
    exact v_iret C hr (by rw [← hE]) (by rw [← hE]) dX_showItself_17
  · skip
    refine v_aload_n C 0 dX_showItself_8 rfl rfl ?_
    refine v_iload_n C 1 dX_showItself_9 rfl rfl ?_
    refine v_cVrF (As := [.int x]) C (c_isSecuredF l D cI cZ cJ b F a n x hn hn4) (cwV 1 C.2.2.2.2.1 gX_showItself_X_isSecured rfl rfl rfl (by decide +kernel) ⟨Nat.le_of_ble_eq_true rfl, Nat.le_of_ble_eq_true rfl⟩) 0 rfl (T := TcX) (N := 16) rfl rfl rfl (Nat.le_of_ble_eq_true rfl) ⟨Nat.zero_le _, Nat.zero_le _⟩ dX_showItself_10 ?_
    refine v_if_ne C dX_showItself_13 (tgt := 18) (by decide) (fun h2 => ?_) (fun h2 => ?_)
    · skip
      refine v_aload_n C 0 dX_showItself_18 rfl rfl ?_
      refine v_iload_n C 1 dX_showItself_19 rfl rfl ?_
      refine v_iload_n C 1 dX_showItself_20 rfl rfl ?_
      refine v_iload_n C 1 dX_showItself_21 rfl rfl ?_
      refine v_iconst C (v := 0) dX_showItself_22 (by decide) ?_
      refine v_cSr0 (As := [.int x, .int 0]) C (c_rWithFirst l D cI cZ cJ x 0) (va_cwS 2 C.2.2.2.2.1 gX_showItself_R_withFirst rfl rfl rfl (by decide +kernel) ⟨Nat.le_of_ble_eq_true rfl, Nat.le_of_ble_eq_true rfl⟩) rfl rfl (Nat.le_of_ble_eq_true rfl) ⟨Nat.zero_le _, Nat.zero_le _⟩ dX_showItself_23 ?_
      refine v_cViF (As := [.int x, .int x, .int (rWithFirst x 0)]) C (c_showToAllF l D cI cZ cJ b F a n x x (rWithFirst x 0) hn hn4 (vp_leader h1 hp hp6)) (cwV 3 C.2.2.2.2.1 gX_showItself_X_showToAll rfl rfl rfl (by decide +kernel) ⟨Nat.le_of_ble_eq_true rfl, Nat.le_of_ble_eq_true rfl⟩) 0 rfl (T := TcX) (N := 16) rfl rfl rfl (Nat.le_of_ble_eq_true rfl) ⟨Nat.zero_le _, Nat.zero_le _⟩ dX_showItself_26 ?_
      have hE : ((showToAllF F a n x x (rWithFirst x 0)).1, (showToAllF F a n x x (rWithFirst x 0)).2) = showItselfF F a n x := (by unfold showItselfF; rw [if_neg h1, if_neg h2])
      exact v_iret C hr (by rw [← hE]) (by rw [← hE]) dX_showItself_29
    · skip
      refine v_iconst C (v := 0) dX_showItself_16 (by decide) ?_
      have hE : (0, a) = showItselfF F a n x := (by unfold showItselfF; rw [if_neg h1, if_pos h2])
      exact v_iret C hr (by rw [← hE]) (by rw [← hE]) dX_showItself_17
set_option maxHeartbeats 4000000 in
set_option maxRecDepth 100000 in
theorem c_showOthersF (l : Launch) (D : va_G) (cI cZ cJ : ClassId) (b : Nat → Nat) (F : FT) (a : AT) (n : Nat) (P : Nat) (x : Int32) (hn : F 8 = nI n) (hn4 : n ≤ 14) (hp : F 0 = nI P) (hp6 : P ≤ 6) : Ki l yX_showOthers wX_showOthers ({ frames := 3, cells := 0, slots := 0, locals := 69 } : Room) D vwCl (tyG cI cZ cJ) [.ref (b 0), .int x] (wX cI b F a) ((showOthersF F a n P x).1) (wX cI b F ((showOthersF F a n P x).2)) := by
  intro sz
  refine v_ent (cc := bX_showOthers) (maxL := 5) (ret := (some .int)) (Qc := (fun A => va_Qi (fun (x9 : Int32) (_ : Unit) => x9 = (showOthersF F a n P x).1) (fun _ => wB D vwCl (tyG cI cZ cJ) A (wX cI b F ((showOthersF F a n P x).2))) A)) (fr := (fun A => A)) (own := RcX) rfl (by decide) rfl (Nat.le_of_ble_eq_true rfl) rfl ?_
  intro p e s m args below meth c A C hr _
  refine v_free ?_
  refine v_iconst C (v := 0) dX_showOthers_0 (by decide) ?_
  refine v_istore_n C (lv' := [(0, .ref (b 0)), (1, .int x), (2, .int 0)]) [1, 2, 0] dX_showOthers_1 rfl (by decide) rfl ?_
  refine v_iconst C (v := 0) dX_showOthers_2 (by decide) ?_
  refine v_istore_n C (lv' := [(0, .ref (b 0)), (1, .int x), (2, .int 0), (3, .int 0)]) [1, 2, 3, 0] dX_showOthers_3 rfl (by decide) rfl ?_
  refine v_loop2 P (fun (j : Nat) (d : Int32) (a1 : AT) => wX cI b F a1) (fun (j : Nat) (d : Int32) (a1 : AT) => [(0, .ref (b 0)), (1, .int x), (2, .int d), (3, .int (nI j))]) (fun (kj j : Nat) (d : Int32) (a1 : AT) => showOthersL F n P x kj j d a1 = showOthersL F n P x P 0 0 a) ?_ ?_ P 0 0 a (by omega) rfl
  · skip
    intro kj j d a1 hkj hIj ihj
    have hIj : showOthersL F n P x (kj + 1) j d a1 = showOthersL F n P x P 0 0 a := hIj
    refine v_as (w' := wX cI b F a1) (lv' := [(0, .ref (b 0)), (1, .int x), (2, .int d), (3, .int (nI j))]) rfl rfl ?_
    refine v_iload_n C 3 dX_showOthers_4 rfl rfl ?_
    refine v_aload_n C 0 dX_showOthers_5 rfl rfl ?_
    refine v_get C (T := TcX) (N := 16) (ci := 0) (v := .int (F 0)) inX_showOthers_X 0 rfl rfl 0 (by decide) (by decide +kernel) rfl rfl dX_showOthers_6 ?_
    refine v_top (y := nI P) hp ?_
    refine v_icmp_ge C dX_showOthers_9 (tgt := 58) (by decide) (fun h => absurd h (nI_ge (a := j) (b := P) (by omega) (by omega))) (fun _ => ?_)
    refine v_aload_n C 0 dX_showOthers_12 rfl rfl ?_
    refine v_iload_n C 3 dX_showOthers_13 rfl rfl ?_
    refine v_cVrF (As := [.int (nI j)]) C (c_isLeaderF l D cI cZ cJ b F a1 (nI j)) (cwV 1 C.2.2.2.2.1 gX_showOthers_X_isLeader rfl rfl rfl (by decide +kernel) ⟨Nat.le_of_ble_eq_true rfl, Nat.le_of_ble_eq_true rfl⟩) 0 rfl (T := TcX) (N := 16) rfl rfl rfl (Nat.le_of_ble_eq_true rfl) ⟨Nat.zero_le _, Nat.zero_le _⟩ dX_showOthers_14 ?_
    refine v_if_eq C dX_showOthers_17 (tgt := 29) (by decide) (fun h1 => ?_) (fun h1 => ?_)
    · skip
      refine v_iconst C (v := 0) dX_showOthers_29 (by decide) ?_
      refine v_istore C (lv' := [(0, .ref (b 0)), (1, .int x), (2, .int d), (3, .int (nI j)), (4, .int 0)]) [1, 2, 3, 4, 0] dX_showOthers_30 (by decide) rfl ?_
      refine v_iload C 4 dX_showOthers_32 rfl ?_
      refine v_if_eq C dX_showOthers_34 (tgt := 52) (by decide) (fun _ => ?_) (fun h => absurd h (by decide))
      refine v_iinc C (v := nI (j + 1)) (lv' := [(0, .ref (b 0)), (1, .int x), (2, .int d), (3, .int (nI (j + 1))), (4, .int 0)]) 3 [1, 2, 3, 0, 4] dX_showOthers_52 rfl (nI_1 j) (by decide) rfl ?_
      refine v_goto C dX_showOthers_55 (tgt := 4) (by decide) ?_
      refine v_loc (lv' := [(0, .ref (b 0)), (1, .int x), (2, .int d), (3, .int (nI (j + 1)))]) [0, 1, 2, 3] rfl ?_
      have hL : showOthersL F n P x kj (j + 1) d a1 = showOthersL F n P x P 0 0 a := (by rw [← hIj]; simp only [showOthersL]; rw [if_pos h1])
      exact ihj d a1 hL
    · skip
      refine v_aload_n C 0 dX_showOthers_20 rfl rfl ?_
      refine v_iload_n C 1 dX_showOthers_21 rfl rfl ?_
      refine v_iload_n C 3 dX_showOthers_22 rfl rfl ?_
      refine v_cVrF (As := [.int x, .int (nI j)]) C (c_shortestF l D cI cZ cJ b F a1 n P x (nI j) hn hn4 hp hp6) (cwV 2 C.2.2.2.2.1 gX_showOthers_X_shortestLearnt rfl rfl rfl (by decide +kernel) ⟨Nat.le_of_ble_eq_true rfl, Nat.le_of_ble_eq_true rfl⟩) 0 rfl (T := TcX) (N := 16) rfl rfl rfl (Nat.le_of_ble_eq_true rfl) ⟨Nat.zero_le _, Nat.zero_le _⟩ dX_showOthers_23 ?_
      refine v_goto C dX_showOthers_26 (tgt := 30) (by decide) ?_
      refine v_istore C (lv' := [(0, .ref (b 0)), (1, .int x), (2, .int d), (3, .int (nI j)), (4, .int (shortestF F a1 n P x (nI j)))]) [1, 2, 3, 4, 0] dX_showOthers_30 (by decide) rfl ?_
      refine v_iload C 4 dX_showOthers_32 rfl ?_
      refine v_if_eq C dX_showOthers_34 (tgt := 52) (by decide) (fun h2 => ?_) (fun h2 => ?_)
      · skip
        refine v_iinc C (v := nI (j + 1)) (lv' := [(0, .ref (b 0)), (1, .int x), (2, .int d), (3, .int (nI (j + 1))), (4, .int (shortestF F a1 n P x (nI j)))]) 3 [1, 2, 3, 0, 4] dX_showOthers_52 rfl (nI_1 j) (by decide) rfl ?_
        refine v_goto C dX_showOthers_55 (tgt := 4) (by decide) ?_
        refine v_loc (lv' := [(0, .ref (b 0)), (1, .int x), (2, .int d), (3, .int (nI (j + 1)))]) [0, 1, 2, 3] rfl ?_
        have hL : showOthersL F n P x kj (j + 1) d a1 = showOthersL F n P x P 0 0 a := (by rw [← hIj]; simp only [showOthersL]; rw [if_neg h1, if_pos h2])
        exact ihj d a1 hL
      · skip
        refine v_iload_n C 2 dX_showOthers_37 rfl rfl ?_
        refine v_aload_n C 0 dX_showOthers_38 rfl rfl ?_
        refine v_iload_n C 1 dX_showOthers_39 rfl rfl ?_
        refine v_iload_n C 3 dX_showOthers_40 rfl rfl ?_
        refine v_iload_n C 1 dX_showOthers_41 rfl rfl ?_
        refine v_iload C 4 dX_showOthers_42 rfl ?_
        refine v_cSr0 (As := [.int x, .int (shortestF F a1 n P x (nI j))]) C (c_rWithFirst l D cI cZ cJ x (shortestF F a1 n P x (nI j))) (va_cwS 2 C.2.2.2.2.1 gX_showOthers_R_withFirst rfl rfl rfl (by decide +kernel) ⟨Nat.le_of_ble_eq_true rfl, Nat.le_of_ble_eq_true rfl⟩) rfl rfl (Nat.le_of_ble_eq_true rfl) ⟨Nat.zero_le _, Nat.zero_le _⟩ dX_showOthers_44 ?_
        refine v_cViF (As := [.int x, .int (nI j), .int (rWithFirst x (shortestF F a1 n P x (nI j)))]) C (c_showToAllF l D cI cZ cJ b F a1 n x (nI j) (rWithFirst x (shortestF F a1 n P x (nI j))) hn hn4 (vp_in_nI (by omega) (by decide))) (cwV 3 C.2.2.2.2.1 gX_showOthers_X_showToAll rfl rfl rfl (by decide +kernel) ⟨Nat.le_of_ble_eq_true rfl, Nat.le_of_ble_eq_true rfl⟩) 0 rfl (T := TcX) (N := 16) rfl rfl rfl (Nat.le_of_ble_eq_true rfl) ⟨Nat.zero_le _, Nat.zero_le _⟩ dX_showOthers_47 ?_
        refine v_iadd C dX_showOthers_50 ?_
        refine v_istore_n C (lv' := [(0, .ref (b 0)), (1, .int x), (2, .int (d + ((showToAllF F a1 n x (nI j) (rWithFirst x (shortestF F a1 n P x (nI j)))).1))), (3, .int (nI j)), (4, .int (shortestF F a1 n P x (nI j)))]) [1, 2, 0, 3, 4] dX_showOthers_51 rfl (by decide) rfl ?_
        refine v_iinc C (v := nI (j + 1)) (lv' := [(0, .ref (b 0)), (1, .int x), (2, .int (d + ((showToAllF F a1 n x (nI j) (rWithFirst x (shortestF F a1 n P x (nI j)))).1))), (3, .int (nI (j + 1))), (4, .int (shortestF F a1 n P x (nI j)))]) 3 [1, 2, 3, 0, 4] dX_showOthers_52 rfl (nI_1 j) (by decide) rfl ?_
        refine v_goto C dX_showOthers_55 (tgt := 4) (by decide) ?_
        refine v_loc (lv' := [(0, .ref (b 0)), (1, .int x), (2, .int (d + ((showToAllF F a1 n x (nI j) (rWithFirst x (shortestF F a1 n P x (nI j)))).1))), (3, .int (nI (j + 1)))]) [0, 1, 2, 3] rfl ?_
        have hL : showOthersL F n P x kj (j + 1) (d + ((showToAllF F a1 n x (nI j) (rWithFirst x (shortestF F a1 n P x (nI j)))).1)) ((showToAllF F a1 n x (nI j) (rWithFirst x (shortestF F a1 n P x (nI j)))).2) = showOthersL F n P x P 0 0 a := (by rw [← hIj]; simp only [showOthersL]; rw [if_neg h1, if_neg h2])
        exact ihj (d + ((showToAllF F a1 n x (nI j) (rWithFirst x (shortestF F a1 n P x (nI j)))).1)) ((showToAllF F a1 n x (nI j) (rWithFirst x (shortestF F a1 n P x (nI j)))).2) hL
  · skip
    intro d a1 hIj
    have hIj : showOthersL F n P x 0 P d a1 = showOthersL F n P x P 0 0 a := hIj
    refine v_as (w' := wX cI b F a1) (lv' := [(0, .ref (b 0)), (1, .int x), (2, .int d), (3, .int (nI P))]) rfl rfl ?_
    obtain ⟨rfl, rfl⟩ : d = (showOthersL F n P x P 0 0 a).1 ∧ a1 = (showOthersL F n P x P 0 0 a).2 := by rw [← hIj]; exact ⟨rfl, rfl⟩
    refine v_iload_n C 3 dX_showOthers_4 rfl rfl ?_
    refine v_aload_n C 0 dX_showOthers_5 rfl rfl ?_
    refine v_get C (T := TcX) (N := 16) (ci := 0) (v := .int (F 0)) inX_showOthers_X 0 rfl rfl 0 (by decide) (by decide +kernel) rfl rfl dX_showOthers_6 ?_
    refine v_top (y := nI P) hp ?_
    refine v_icmp_ge C dX_showOthers_9 (tgt := 58) (by decide) (fun _ => ?_) (fun h => absurd (nI_le (a := P) (b := P) (by omega) (by omega)) h)
    refine v_iload_n C 2 dX_showOthers_58 rfl rfl ?_
    have hE : ((showOthersL F n P x P 0 0 a).1, (showOthersL F n P x P 0 0 a).2) = showOthersF F a n P x := (by unfold showOthersF; rfl)
    exact v_iret C hr (by rw [← hE]) (by rw [← hE]) dX_showOthers_59
set_option maxHeartbeats 4000000 in
set_option maxRecDepth 100000 in
theorem c_takeAllBackF (l : Launch) (D : va_G) (cI cZ cJ : ClassId) (b : Nat → Nat) (F : FT) (a : AT) (n : Nat) (x : Int32) (hn : F 8 = nI n) (hn4 : n ≤ 14) : Ki l yX_takeAllBack wX_takeAllBack ({ frames := 1, cells := 0, slots := 0, locals := 25 } : Room) D vwCl (tyG cI cZ cJ) [.ref (b 0), .int x] (wX cI b F a) ((takeAllBackF F a n x).1) (wX cI b F ((takeAllBackF F a n x).2)) := by
  intro sz
  refine v_ent (cc := bX_takeAllBack) (maxL := 2) (ret := (some .int)) (Qc := (fun A => va_Qi (fun (x9 : Int32) (_ : Unit) => x9 = (takeAllBackF F a n x).1) (fun _ => wB D vwCl (tyG cI cZ cJ) A (wX cI b F ((takeAllBackF F a n x).2))) A)) (fr := (fun A => A)) (own := RcX) rfl (by decide) rfl (Nat.le_of_ble_eq_true rfl) rfl ?_
  intro p e s m args below meth c A C hr _
  refine v_free ?_
  refine v_aload_n C 0 dX_takeAllBack_0 rfl rfl ?_
  refine v_cVrF (As := []) C (c_isOverF l D cI cZ cJ b F a) (cwV 0 C.2.2.2.2.1 gX_takeAllBack_X_isOver rfl rfl rfl (by decide +kernel) ⟨Nat.le_of_ble_eq_true rfl, Nat.le_of_ble_eq_true rfl⟩) 0 rfl (T := TcX) (N := 16) rfl rfl rfl (Nat.le_of_ble_eq_true rfl) ⟨Nat.zero_le _, Nat.zero_le _⟩ dX_takeAllBack_1 ?_
  refine v_if_eq C dX_takeAllBack_4 (tgt := 17) (by decide) (fun h1 => ?_) (fun h1 => ?_)
  · skip
    refine v_iconst C (v := 0) dX_takeAllBack_17 (by decide) ?_
    have hE : (0, a) = takeAllBackF F a n x := (by unfold takeAllBackF; rw [if_pos h1])
    exact v_iret C hr (by rw [← hE]) (by rw [← hE]) dX_takeAllBack_18
  · skip
    refine v_aload_n C 0 dX_takeAllBack_7 rfl rfl ?_
    refine v_iload_n C 1 dX_takeAllBack_8 rfl rfl ?_
    refine v_iconst C (v := 1) dX_takeAllBack_9 (by decide) ?_
    refine v_iconst C (v := 3) dX_takeAllBack_10 (by decide) ?_
    refine v_cViF (As := [.int x, .int 1, .int 3]) C (c_moveAllF l D cI cZ cJ b F a n x 1 3 hn hn4) (cwV 3 C.2.2.2.2.1 gX_takeAllBack_X_moveAll rfl rfl rfl (by decide +kernel) ⟨Nat.le_of_ble_eq_true rfl, Nat.le_of_ble_eq_true rfl⟩) 0 rfl (T := TcX) (N := 16) rfl rfl rfl (Nat.le_of_ble_eq_true rfl) ⟨Nat.zero_le _, Nat.zero_le _⟩ dX_takeAllBack_11 ?_
    refine v_goto C dX_takeAllBack_14 (tgt := 18) (by decide) ?_
    have hE : ((moveAllF F a n x 1 3).1, (moveAllF F a n x 1 3).2) = takeAllBackF F a n x := (by unfold takeAllBackF; rw [if_neg h1])
    exact v_iret C hr (by rw [← hE]) (by rw [← hE]) dX_takeAllBack_18
set_option maxHeartbeats 4000000 in
set_option maxRecDepth 100000 in
theorem c_doDeedsF (l : Launch) (D : va_G) (cI cZ cJ : ClassId) (b : Nat → Nat) (F : FT) (a : AT) (n : Nat) (P : Nat) (x : Int32) (hn : F 8 = nI n) (hn4 : n ≤ 14) (hp : F 0 = nI P) (hp6 : P ≤ 6) : Ki l yX_doDeeds wX_doDeeds ({ frames := 4, cells := 0, slots := 0, locals := 93 } : Room) D vwCl (tyG cI cZ cJ) [.ref (b 0), .int x] (wX cI b F a) ((doDeedsF F a n P x).1) (wX cI b F ((doDeedsF F a n P x).2)) := by
  intro sz
  refine v_ent (cc := bX_doDeeds) (maxL := 3) (ret := (some .int)) (Qc := (fun A => va_Qi (fun (x9 : Int32) (_ : Unit) => x9 = (doDeedsF F a n P x).1) (fun _ => wB D vwCl (tyG cI cZ cJ) A (wX cI b F ((doDeedsF F a n P x).2))) A)) (fr := (fun A => A)) (own := RcX) rfl (by decide) rfl (Nat.le_of_ble_eq_true rfl) rfl ?_
  intro p e s m args below meth c A C hr _
  refine v_free ?_
  refine v_aload_n C 0 dX_doDeeds_0 rfl rfl ?_
  refine v_iload_n C 1 dX_doDeeds_1 rfl rfl ?_
  refine v_cViF (As := [.int x]) C (c_deployAllF l D cI cZ cJ b F a n x hn hn4) (cwV 1 C.2.2.2.2.1 gX_doDeeds_X_deployAll rfl rfl rfl (by decide +kernel) ⟨Nat.le_of_ble_eq_true rfl, Nat.le_of_ble_eq_true rfl⟩) 0 rfl (T := TcX) (N := 16) rfl rfl rfl (Nat.le_of_ble_eq_true rfl) ⟨Nat.zero_le _, Nat.zero_le _⟩ dX_doDeeds_2 ?_
  refine v_istore_n C (lv' := [(0, .ref (b 0)), (1, .int x), (2, .int ((deployAllF F a n x).1))]) [1, 2, 0] dX_doDeeds_5 rfl (by decide) rfl ?_
  refine v_iload_n C 2 dX_doDeeds_6 rfl rfl ?_
  refine v_aload_n C 0 dX_doDeeds_7 rfl rfl ?_
  refine v_iload_n C 1 dX_doDeeds_8 rfl rfl ?_
  refine v_cViF (As := [.int x]) C (c_showItselfF l D cI cZ cJ b F ((deployAllF F a n x).2) n P x hn hn4 hp hp6) (cwV 1 C.2.2.2.2.1 gX_doDeeds_X_showItself rfl rfl rfl (by decide +kernel) ⟨Nat.le_of_ble_eq_true rfl, Nat.le_of_ble_eq_true rfl⟩) 0 rfl (T := TcX) (N := 16) rfl rfl rfl (Nat.le_of_ble_eq_true rfl) ⟨Nat.zero_le _, Nat.zero_le _⟩ dX_doDeeds_9 ?_
  refine v_iadd C dX_doDeeds_12 ?_
  refine v_istore_n C (lv' := [(0, .ref (b 0)), (1, .int x), (2, .int (((deployAllF F a n x).1) + ((showItselfF F ((deployAllF F a n x).2) n x).1)))]) [1, 2, 0] dX_doDeeds_13 rfl (by decide) rfl ?_
  refine v_iload_n C 2 dX_doDeeds_14 rfl rfl ?_
  refine v_aload_n C 0 dX_doDeeds_15 rfl rfl ?_
  refine v_iload_n C 1 dX_doDeeds_16 rfl rfl ?_
  refine v_cViF (As := [.int x]) C (c_showOthersF l D cI cZ cJ b F ((showItselfF F ((deployAllF F a n x).2) n x).2) n P x hn hn4 hp hp6) (cwV 1 C.2.2.2.2.1 gX_doDeeds_X_showOthers rfl rfl rfl (by decide +kernel) ⟨Nat.le_of_ble_eq_true rfl, Nat.le_of_ble_eq_true rfl⟩) 0 rfl (T := TcX) (N := 16) rfl rfl rfl (Nat.le_of_ble_eq_true rfl) ⟨Nat.zero_le _, Nat.zero_le _⟩ dX_doDeeds_17 ?_
  refine v_iadd C dX_doDeeds_20 ?_
  refine v_istore_n C (lv' := [(0, .ref (b 0)), (1, .int x), (2, .int ((((deployAllF F a n x).1) + ((showItselfF F ((deployAllF F a n x).2) n x).1)) + ((showOthersF F ((showItselfF F ((deployAllF F a n x).2) n x).2) n P x).1)))]) [1, 2, 0] dX_doDeeds_21 rfl (by decide) rfl ?_
  refine v_iload_n C 2 dX_doDeeds_22 rfl rfl ?_
  refine v_aload_n C 0 dX_doDeeds_23 rfl rfl ?_
  refine v_iload_n C 1 dX_doDeeds_24 rfl rfl ?_
  refine v_cViF (As := [.int x]) C (c_takeAllBackF l D cI cZ cJ b F ((showOthersF F ((showItselfF F ((deployAllF F a n x).2) n x).2) n P x).2) n x hn hn4) (cwV 1 C.2.2.2.2.1 gX_doDeeds_X_takeAllBack rfl rfl rfl (by decide +kernel) ⟨Nat.le_of_ble_eq_true rfl, Nat.le_of_ble_eq_true rfl⟩) 0 rfl (T := TcX) (N := 16) rfl rfl rfl (Nat.le_of_ble_eq_true rfl) ⟨Nat.zero_le _, Nat.zero_le _⟩ dX_doDeeds_25 ?_
  refine v_iadd C dX_doDeeds_28 ?_
  refine v_istore_n C (lv' := [(0, .ref (b 0)), (1, .int x), (2, .int (((((deployAllF F a n x).1) + ((showItselfF F ((deployAllF F a n x).2) n x).1)) + ((showOthersF F ((showItselfF F ((deployAllF F a n x).2) n x).2) n P x).1)) + ((takeAllBackF F ((showOthersF F ((showItselfF F ((deployAllF F a n x).2) n x).2) n P x).2) n x).1)))]) [1, 2, 0] dX_doDeeds_29 rfl (by decide) rfl ?_
  refine v_iload_n C 2 dX_doDeeds_30 rfl rfl ?_
  have hE : (((((deployAllF F a n x).1) + ((showItselfF F ((deployAllF F a n x).2) n x).1)) + ((showOthersF F ((showItselfF F ((deployAllF F a n x).2) n x).2) n P x).1)) + ((takeAllBackF F ((showOthersF F ((showItselfF F ((deployAllF F a n x).2) n x).2) n P x).2) n x).1), (takeAllBackF F ((showOthersF F ((showItselfF F ((deployAllF F a n x).2) n x).2) n P x).2) n x).2) = doDeedsF F a n P x := (by unfold doDeedsF; rfl)
  exact v_iret C hr (by rw [← hE]) (by rw [← hE]) dX_doDeeds_31
set_option maxHeartbeats 4000000 in
set_option maxRecDepth 100000 in
theorem c_leadersF (l : Launch) (D : va_G) (cI cZ cJ : ClassId) (b : Nat → Nat) (F : FT) (a : AT) : Kr l yX_leaders wX_leaders ({ frames := 0, cells := 0, slots := 0, locals := 0 } : Room) D vwCl (tyG cI cZ cJ) [.ref (b 0)] (wX cI b F a) (leadersF F a) := by
  intro sz
  refine v_ent (cc := bX_leaders) (maxL := 1) (ret := (some .int)) (Qc := (fun _ _ st oc t => oc = .returned (some (.int (leadersF F a))) ∧ t.heap = st.heap)) (fr := (fun _ _ => False)) (own := RcX) rfl (by decide) rfl (Nat.le_of_ble_eq_true rfl) rfl ?_
  intro p e s m args below meth c A C hr _
  refine v_aload_n C 0 dX_leaders_0 rfl rfl ?_
  refine v_get C (T := TcX) (N := 16) (ci := 0) (v := .int (F 10)) inX_leaders_X 0 rfl rfl 10 (by decide) (by decide +kernel) rfl rfl dX_leaders_1 ?_
  exact v_irr C hr (by unfold leadersF; rfl) dX_leaders_4
set_option maxHeartbeats 4000000 in
set_option maxRecDepth 100000 in
theorem c_conformF (l : Launch) (D : va_G) (cI cZ cJ : ClassId) (b : Nat → Nat) (F : FT) (a : AT) (x : Int32) (y : Int32) : Ki l yX_conform wX_conform ({ frames := 1, cells := 0, slots := 0, locals := 21 } : Room) D vwCl (tyG cI cZ cJ) [.ref (b 0), .int x, .int y] (wX cI b F a) ((conformF F a x y).1) (wX cI b ((conformF F a x y).2) a) := by
  intro sz
  refine v_ent (cc := bX_conform) (maxL := 3) (ret := (some .boolean)) (Qc := (fun A => va_Qi (fun (x9 : Int32) (_ : Unit) => x9 = (conformF F a x y).1) (fun _ => wB D vwCl (tyG cI cZ cJ) A (wX cI b ((conformF F a x y).2) a)) A)) (fr := (fun A => A)) (own := RcX) rfl (by decide) rfl (Nat.le_of_ble_eq_true rfl) rfl ?_
  intro p e s m args below meth c A C hr _
  refine v_free ?_
  refine v_aload_n C 0 dX_conform_0 rfl rfl ?_
  refine v_iload_n C 1 dX_conform_1 rfl rfl ?_
  refine v_cVrF (As := [.int x]) C (c_isPartyF l D cI cZ cJ b F a x) (cwV 1 C.2.2.2.2.1 gX_conform_X_isParty rfl rfl rfl (by decide +kernel) ⟨Nat.le_of_ble_eq_true rfl, Nat.le_of_ble_eq_true rfl⟩) 0 rfl (T := TcX) (N := 16) rfl rfl rfl (Nat.le_of_ble_eq_true rfl) ⟨Nat.zero_le _, Nat.zero_le _⟩ dX_conform_2 ?_
  refine v_if_eq C dX_conform_5 (tgt := 17) (by decide) (fun h1 => ?_) (fun h1 => ?_)
  · skip
    refine v_iconst C (v := 0) dX_conform_17 (by decide) ?_
    have hE : (0, F) = conformF F a x y := (by unfold conformF; rw [if_pos h1])
    exact v_zret C hr (by decide) (by rw [← hE]) (by rw [← hE]) dX_conform_18
  · skip
    refine v_aload_n C 0 dX_conform_8 rfl rfl ?_
    refine v_iload_n C 1 dX_conform_9 rfl rfl ?_
    refine v_cVrF (As := [.int x]) C (c_conformsF l D cI cZ cJ b F a x) (cwV 1 C.2.2.2.2.1 gX_conform_X_conforms rfl rfl rfl (by decide +kernel) ⟨Nat.le_of_ble_eq_true rfl, Nat.le_of_ble_eq_true rfl⟩) 0 rfl (T := TcX) (N := 16) rfl rfl rfl (Nat.le_of_ble_eq_true rfl) ⟨Nat.zero_le _, Nat.zero_le _⟩ dX_conform_10 ?_
    refine v_iload_n C 2 dX_conform_13 rfl rfl ?_
    refine v_icmp_ne C dX_conform_14 (tgt := 19) (by decide) (fun h2 => ?_) (fun h2 => ?_)
    · skip
      refine v_aload_n C 0 dX_conform_19 rfl rfl ?_
      refine v_dup C dX_conform_20 rfl ?_
      refine v_get C (T := TcX) (N := 16) (ci := 0) (v := .int (F 14)) inX_conform_X 0 rfl rfl 14 (by decide) (by decide +kernel) rfl rfl dX_conform_21 ?_
      refine v_iconst C (v := 1) dX_conform_24 (by decide) ?_
      refine v_iload_n C 1 dX_conform_25 rfl rfl ?_
      refine v_ishl C dX_conform_26 ?_
      refine v_ixor C dX_conform_27 ?_
      refine v_put C (T := TcX) (N := 16) (ci := 0) (v := .int ((F 14) ^^^ ((1 : Int32) <<< (x &&& 31)))) inX_conform_X tycX tycX_ok nmcX 0 rfl rfl 14 (by decide) (by decide +kernel) rfl rfl rfl rfl (Nat.le_of_ble_eq_true rfl) dX_conform_28 (w1 := wX cI b (upd F 14 ((F 14) ^^^ ((1 : Int32) <<< (x &&& 31)))) a) rfl ?_
      refine v_iconst C (v := 1) dX_conform_31 (by decide) ?_
      have hE : (1, upd F 14 ((F 14) ^^^ ((1 : Int32) <<< (x &&& 31)))) = conformF F a x y := (by unfold conformF; rw [if_neg h1, if_neg h2])
      exact v_zret C hr (by decide) (by rw [← hE]) (by rw [← hE]) dX_conform_32
    · skip
      refine v_iconst C (v := 0) dX_conform_17 (by decide) ?_
      have hE : (0, F) = conformF F a x y := (by unfold conformF; rw [if_neg h1, if_pos h2])
      exact v_zret C hr (by decide) (by rw [← hE]) (by rw [← hE]) dX_conform_18
set_option maxHeartbeats 4000000 in
set_option maxRecDepth 100000 in
theorem c_stepF (l : Launch) (D : va_G) (cI cZ cJ : ClassId) (b : Nat → Nat) (F : FT) (a : AT) (x : Int32) : Ki l yX_step wX_step ({ frames := 2, cells := 0, slots := 0, locals := 42 } : Room) D vwCl (tyG cI cZ cJ) [.ref (b 0), .int x] (wX cI b F a) ((stepF F a x).1) (wX cI b ((stepF F a x).2) a) := by
  intro sz
  refine v_ent (cc := bX_step) (maxL := 3) (ret := (some .int)) (Qc := (fun A => va_Qi (fun (x9 : Int32) (_ : Unit) => x9 = (stepF F a x).1) (fun _ => wB D vwCl (tyG cI cZ cJ) A (wX cI b ((stepF F a x).2) a)) A)) (fr := (fun A => A)) (own := RcX) rfl (by decide) rfl (Nat.le_of_ble_eq_true rfl) rfl ?_
  intro p e s m args below meth c A C hr _
  refine v_free ?_
  refine v_aload_n C 0 dX_step_0 rfl rfl ?_
  refine v_get C (T := TcX) (N := 16) (ci := 0) (v := .int (F 15)) inX_step_X 0 rfl rfl 15 (by decide) (by decide +kernel) rfl rfl dX_step_1 ?_
  refine v_cSr0 (As := [.int (F 15)]) C (c_rSize l D cI cZ cJ (F 15)) (va_cwS 1 C.2.2.2.2.1 gX_step_R_size rfl rfl rfl (by decide +kernel) ⟨Nat.le_of_ble_eq_true rfl, Nat.le_of_ble_eq_true rfl⟩) rfl rfl (Nat.le_of_ble_eq_true rfl) ⟨Nat.zero_le _, Nat.zero_le _⟩ dX_step_4 ?_
  refine v_istore_n C (lv' := [(0, .ref (b 0)), (1, .int x), (2, .int (rSize (F 15)))]) [1, 2, 0] dX_step_7 rfl (by decide) rfl ?_
  refine v_aload_n C 0 dX_step_8 rfl rfl ?_
  refine v_iload_n C 1 dX_step_9 rfl rfl ?_
  refine v_cVrF (As := [.int x]) C (c_isPartyF l D cI cZ cJ b F a x) (cwV 1 C.2.2.2.2.1 gX_step_X_isParty rfl rfl rfl (by decide +kernel) ⟨Nat.le_of_ble_eq_true rfl, Nat.le_of_ble_eq_true rfl⟩) 0 rfl (T := TcX) (N := 16) rfl rfl rfl (Nat.le_of_ble_eq_true rfl) ⟨Nat.zero_le _, Nat.zero_le _⟩ dX_step_10 ?_
  refine v_if_eq C dX_step_13 (tgt := 22) (by decide) (fun h1 => ?_) (fun h1 => ?_)
  · skip
    refine v_iconst C (v := (-1)) dX_step_22 (by decide) ?_
    have hE : ((-1), F) = stepF F a x := (by unfold stepF; rw [if_pos h1])
    exact v_iret C hr (by rw [← hE]) (by rw [← hE]) dX_step_23
  · skip
    refine v_iload_n C 2 dX_step_16 rfl rfl ?_
    refine v_bipush C (v := 6) dX_step_17 (by decide) ?_
    refine v_icmp_lt C dX_step_19 (tgt := 24) (by decide) (fun h2 => ?_) (fun h2 => ?_)
    · skip
      refine v_aload_n C 0 dX_step_24 rfl rfl ?_
      refine v_aload_n C 0 dX_step_25 rfl rfl ?_
      refine v_get C (T := TcX) (N := 16) (ci := 0) (v := .int (F 15)) inX_step_X 0 rfl rfl 15 (by decide) (by decide +kernel) rfl rfl dX_step_26 ?_
      refine v_iload_n C 1 dX_step_29 rfl rfl ?_
      refine v_cSr0 (As := [.int (F 15), .int x]) C (c_rWithLast l D cI cZ cJ (F 15) x) (va_cwS 2 C.2.2.2.2.1 gX_step_R_withLast rfl rfl rfl (by decide +kernel) ⟨Nat.le_of_ble_eq_true rfl, Nat.le_of_ble_eq_true rfl⟩) rfl rfl (Nat.le_of_ble_eq_true rfl) ⟨Nat.zero_le _, Nat.zero_le _⟩ dX_step_30 ?_
      refine v_put C (T := TcX) (N := 16) (ci := 0) (v := .int (rWithLast (F 15) x)) inX_step_X tycX tycX_ok nmcX 0 rfl rfl 15 (by decide) (by decide +kernel) rfl rfl rfl rfl (Nat.le_of_ble_eq_true rfl) dX_step_33 (w1 := wX cI b (upd F 15 (rWithLast (F 15) x)) a) rfl ?_
      refine v_iload_n C 2 dX_step_36 rfl rfl ?_
      refine v_iconst C (v := 1) dX_step_37 (by decide) ?_
      refine v_iadd C dX_step_38 ?_
      have hE : ((rSize (F 15)) + (1 : Int32), upd F 15 (rWithLast (F 15) x)) = stepF F a x := (by unfold stepF; rw [if_neg h1, if_pos h2])
      exact v_iret C hr (by rw [← hE]) (by rw [← hE]) dX_step_39
    · skip
      refine v_iconst C (v := (-1)) dX_step_22 (by decide) ?_
      have hE : ((-1), F) = stepF F a x := (by unfold stepF; rw [if_neg h1, if_neg h2])
      exact v_iret C hr (by rw [← hE]) (by rw [← hE]) dX_step_23
set_option maxHeartbeats 4000000 in
set_option maxRecDepth 100000 in
theorem c_clearF (l : Launch) (D : va_G) (cI cZ cJ : ClassId) (b : Nat → Nat) (F : FT) (a : AT) : Kv l yX_clear wX_clear ({ frames := 0, cells := 0, slots := 0, locals := 0 } : Room) D vwCl (tyG cI cZ cJ) [.ref (b 0)] (wX cI b F a) (wX cI b (clearF F a) a) := by
  intro sz
  refine v_ent (cc := bX_clear) (maxL := 1) (ret := none) (Qc := (fun A => va_Qv (fun (_ : Unit) => True) (fun _ => wB D vwCl (tyG cI cZ cJ) A (wX cI b (clearF F a) a)) A)) (fr := (fun A => A)) (own := RcX) rfl (by decide) rfl (Nat.le_of_ble_eq_true rfl) rfl ?_
  intro p e s m args below meth c A C hr _
  refine v_free ?_
  refine v_aload_n C 0 dX_clear_0 rfl rfl ?_
  refine v_iconst C (v := 0) dX_clear_1 (by decide) ?_
  refine v_put C (T := TcX) (N := 16) (ci := 0) (v := .int 0) inX_clear_X tycX tycX_ok nmcX 0 rfl rfl 15 (by decide) (by decide +kernel) rfl rfl rfl rfl (Nat.le_of_ble_eq_true rfl) dX_clear_2 (w1 := wX cI b (upd F 15 0) a) rfl ?_
  have hE : upd F 15 0 = clearF F a := (by unfold clearF; rfl)
  exact v_vret C hr (by rw [← hE]) dX_clear_5
set_option maxHeartbeats 4000000 in
set_option maxRecDepth 100000 in
theorem c_passF (l : Launch) (D : va_G) (cI cZ cJ : ClassId) (b : Nat → Nat) (F : FT) (a : AT) (x : Int32) : Ki l yX_pass wX_pass ({ frames := 0, cells := 0, slots := 0, locals := 0 } : Room) D vwCl (tyG cI cZ cJ) [.ref (b 0), .int x] (wX cI b F a) ((passF F a x).1) (wX cI b ((passF F a x).2) a) := by
  intro sz
  refine v_ent (cc := bX_pass) (maxL := 2) (ret := (some .int)) (Qc := (fun A => va_Qi (fun (x9 : Int32) (_ : Unit) => x9 = (passF F a x).1) (fun _ => wB D vwCl (tyG cI cZ cJ) A (wX cI b ((passF F a x).2) a)) A)) (fr := (fun A => A)) (own := RcX) rfl (by decide) rfl (Nat.le_of_ble_eq_true rfl) rfl ?_
  intro p e s m args below meth c A C hr _
  refine v_free ?_
  refine v_iload_n C 1 dX_pass_0 rfl rfl ?_
  refine v_if_lt C dX_pass_1 (tgt := 10) (by decide) (fun h1 => ?_) (fun h1 => ?_)
  · skip
    refine v_iconst C (v := (-1)) dX_pass_10 (by decide) ?_
    have hE : ((-1), F) = passF F a x := (by unfold passF; rw [if_pos h1])
    exact v_iret C hr (by rw [← hE]) (by rw [← hE]) dX_pass_11
  · skip
    refine v_iload_n C 1 dX_pass_4 rfl rfl ?_
    refine v_bipush C (v := 100) dX_pass_5 (by decide) ?_
    refine v_icmp_le C dX_pass_7 (tgt := 12) (by decide) (fun h2 => ?_) (fun h2 => ?_)
    · skip
      refine v_aload_n C 0 dX_pass_12 rfl rfl ?_
      refine v_dup C dX_pass_13 rfl ?_
      refine v_get C (T := TcX) (N := 16) (ci := 0) (v := .int (F 13)) inX_pass_X 0 rfl rfl 13 (by decide) (by decide +kernel) rfl rfl dX_pass_14 ?_
      refine v_iload_n C 1 dX_pass_17 rfl rfl ?_
      refine v_iadd C dX_pass_18 ?_
      refine v_put C (T := TcX) (N := 16) (ci := 0) (v := .int ((F 13) + x)) inX_pass_X tycX tycX_ok nmcX 0 rfl rfl 13 (by decide) (by decide +kernel) rfl rfl rfl rfl (Nat.le_of_ble_eq_true rfl) dX_pass_19 (w1 := wX cI b (upd F 13 ((F 13) + x)) a) rfl ?_
      refine v_aload_n C 0 dX_pass_22 rfl rfl ?_
      refine v_get C (T := TcX) (N := 16) (ci := 0) (v := .int ((F 13) + x)) inX_pass_X 0 rfl rfl 13 (by decide) (by decide +kernel) rfl rfl dX_pass_23 ?_
      have hE : ((F 13) + x, upd F 13 ((F 13) + x)) = passF F a x := (by unfold passF; rw [if_neg h1, if_pos h2])
      exact v_iret C hr (by rw [← hE]) (by rw [← hE]) dX_pass_26
    · skip
      refine v_iconst C (v := (-1)) dX_pass_10 (by decide) ?_
      have hE : ((-1), F) = passF F a x := (by unfold passF; rw [if_neg h1, if_neg h2])
      exact v_iret C hr (by rw [← hE]) (by rw [← hE]) dX_pass_11
end
section
theorem dM_thrown_0 : decode bM_thrown 0 = .ok (.aload_n 0, 1) := by decide +kernel
theorem dM_thrown_1 : decode bM_thrown 1 = .ok (.getfield 39, 3) := by decide +kernel
theorem dM_thrown_4 : decode bM_thrown 4 = .ok (.ireturn, 1) := by decide +kernel
theorem dM_fail_0 : decode bM_fail 0 = .ok (.aload_n 0, 1) := by decide +kernel
theorem dM_fail_1 : decode bM_fail 1 = .ok (.iload_n 1, 1) := by decide +kernel
theorem dM_fail_2 : decode bM_fail 2 = .ok (.putfield 39, 3) := by decide +kernel
theorem dM_fail_5 : decode bM_fail 5 = .ok (.iconst 0, 1) := by decide +kernel
theorem dM_fail_6 : decode bM_fail 6 = .ok (.ireturn, 1) := by decide +kernel
theorem dM_isParty_0 : decode bM_isParty 0 = .ok (.iload_n 1, 1) := by decide +kernel
theorem dM_isParty_1 : decode bM_isParty 1 = .ok (.ifCond .lt 15, 3) := by decide +kernel
theorem dM_isParty_4 : decode bM_isParty 4 = .ok (.iload_n 1, 1) := by decide +kernel
theorem dM_isParty_5 : decode bM_isParty 5 = .ok (.aload_n 0, 1) := by decide +kernel
theorem dM_isParty_6 : decode bM_isParty 6 = .ok (.getfield 32, 3) := by decide +kernel
theorem dM_isParty_9 : decode bM_isParty 9 = .ok (.if_icmp .ge 7, 3) := by decide +kernel
theorem dM_isParty_12 : decode bM_isParty 12 = .ok (.iconst 1, 1) := by decide +kernel
theorem dM_isParty_13 : decode bM_isParty 13 = .ok (.goto 4, 3) := by decide +kernel
theorem dM_isParty_16 : decode bM_isParty 16 = .ok (.iconst 0, 1) := by decide +kernel
theorem dM_isParty_17 : decode bM_isParty 17 = .ok (.ireturn, 1) := by decide +kernel
theorem dM_isArc_0 : decode bM_isArc 0 = .ok (.iload_n 1, 1) := by decide +kernel
theorem dM_isArc_1 : decode bM_isArc 1 = .ok (.ifCond .lt 15, 3) := by decide +kernel
theorem dM_isArc_4 : decode bM_isArc 4 = .ok (.iload_n 1, 1) := by decide +kernel
theorem dM_isArc_5 : decode bM_isArc 5 = .ok (.aload_n 0, 1) := by decide +kernel
theorem dM_isArc_6 : decode bM_isArc 6 = .ok (.getfield 42, 3) := by decide +kernel
theorem dM_isArc_9 : decode bM_isArc 9 = .ok (.if_icmp .ge 7, 3) := by decide +kernel
theorem dM_isArc_12 : decode bM_isArc 12 = .ok (.iconst 1, 1) := by decide +kernel
theorem dM_isArc_13 : decode bM_isArc 13 = .ok (.goto 4, 3) := by decide +kernel
theorem dM_isArc_16 : decode bM_isArc 16 = .ok (.iconst 0, 1) := by decide +kernel
theorem dM_isArc_17 : decode bM_isArc 17 = .ok (.ireturn, 1) := by decide +kernel
theorem dM_has_0 : decode bM_has 0 = .ok (.iload_n 0, 1) := by decide +kernel
theorem dM_has_1 : decode bM_has 1 = .ok (.iload_n 1, 1) := by decide +kernel
theorem dM_has_2 : decode bM_has 2 = .ok (.ishr, 1) := by decide +kernel
theorem dM_has_3 : decode bM_has 3 = .ok (.iconst 1, 1) := by decide +kernel
theorem dM_has_4 : decode bM_has 4 = .ok (.iand, 1) := by decide +kernel
theorem dM_has_5 : decode bM_has 5 = .ok (.iconst 1, 1) := by decide +kernel
theorem dM_has_6 : decode bM_has 6 = .ok (.if_icmp .ne 7, 3) := by decide +kernel
theorem dM_has_9 : decode bM_has 9 = .ok (.iconst 1, 1) := by decide +kernel
theorem dM_has_10 : decode bM_has 10 = .ok (.goto 4, 3) := by decide +kernel
theorem dM_has_13 : decode bM_has 13 = .ok (.iconst 0, 1) := by decide +kernel
theorem dM_has_14 : decode bM_has 14 = .ok (.ireturn, 1) := by decide +kernel
theorem dM_size_0 : decode bM_size 0 = .ok (.iconst 0, 1) := by decide +kernel
theorem dM_size_1 : decode bM_size 1 = .ok (.istore_n 1, 1) := by decide +kernel
theorem dM_size_2 : decode bM_size 2 = .ok (.iconst 0, 1) := by decide +kernel
theorem dM_size_3 : decode bM_size 3 = .ok (.istore_n 2, 1) := by decide +kernel
theorem dM_size_4 : decode bM_size 4 = .ok (.iload_n 2, 1) := by decide +kernel
theorem dM_size_5 : decode bM_size 5 = .ok (.bipush 6, 2) := by decide +kernel
theorem dM_size_7 : decode bM_size 7 = .ok (.if_icmp .ge 17, 3) := by decide +kernel
theorem dM_size_10 : decode bM_size 10 = .ok (.iload_n 1, 1) := by decide +kernel
theorem dM_size_11 : decode bM_size 11 = .ok (.iload_n 0, 1) := by decide +kernel
theorem dM_size_12 : decode bM_size 12 = .ok (.iload_n 2, 1) := by decide +kernel
theorem dM_size_13 : decode bM_size 13 = .ok (.ishr, 1) := by decide +kernel
theorem dM_size_14 : decode bM_size 14 = .ok (.iconst 1, 1) := by decide +kernel
theorem dM_size_15 : decode bM_size 15 = .ok (.iand, 1) := by decide +kernel
theorem dM_size_16 : decode bM_size 16 = .ok (.iadd, 1) := by decide +kernel
theorem dM_size_17 : decode bM_size 17 = .ok (.istore_n 1, 1) := by decide +kernel
theorem dM_size_18 : decode bM_size 18 = .ok (.iinc 2 1, 3) := by decide +kernel
theorem dM_size_21 : decode bM_size 21 = .ok (.goto (-17), 3) := by decide +kernel
theorem dM_size_24 : decode bM_size 24 = .ok (.iload_n 1, 1) := by decide +kernel
theorem dM_size_25 : decode bM_size 25 = .ok (.ireturn, 1) := by decide +kernel
theorem dM_many_0 : decode bM_many 0 = .ok (.iload_n 0, 1) := by decide +kernel
theorem dM_many_1 : decode bM_many 1 = .ok (.bipush 18, 2) := by decide +kernel
theorem dM_many_3 : decode bM_many 3 = .ok (.ishr, 1) := by decide +kernel
theorem dM_many_4 : decode bM_many 4 = .ok (.ireturn, 1) := by decide +kernel
theorem dM_member_0 : decode bM_member 0 = .ok (.iload_n 0, 1) := by decide +kernel
theorem dM_member_1 : decode bM_member 1 = .ok (.iconst 3, 1) := by decide +kernel
theorem dM_member_2 : decode bM_member 2 = .ok (.iload_n 1, 1) := by decide +kernel
theorem dM_member_3 : decode bM_member 3 = .ok (.imul, 1) := by decide +kernel
theorem dM_member_4 : decode bM_member 4 = .ok (.ishr, 1) := by decide +kernel
theorem dM_member_5 : decode bM_member 5 = .ok (.bipush 7, 2) := by decide +kernel
theorem dM_member_7 : decode bM_member 7 = .ok (.iand, 1) := by decide +kernel
theorem dM_member_8 : decode bM_member 8 = .ok (.ireturn, 1) := by decide +kernel
theorem dM_members_0 : decode bM_members 0 = .ok (.iconst 0, 1) := by decide +kernel
theorem dM_members_1 : decode bM_members 1 = .ok (.istore_n 1, 1) := by decide +kernel
theorem dM_members_2 : decode bM_members 2 = .ok (.iconst 0, 1) := by decide +kernel
theorem dM_members_3 : decode bM_members 3 = .ok (.istore_n 2, 1) := by decide +kernel
theorem dM_members_4 : decode bM_members 4 = .ok (.iload_n 2, 1) := by decide +kernel
theorem dM_members_5 : decode bM_members 5 = .ok (.iload_n 0, 1) := by decide +kernel
theorem dM_members_6 : decode bM_members 6 = .ok (.invokestatic 89, 3) := by decide +kernel
theorem dM_members_9 : decode bM_members 9 = .ok (.if_icmp .ge 19, 3) := by decide +kernel
theorem dM_members_12 : decode bM_members 12 = .ok (.iload_n 1, 1) := by decide +kernel
theorem dM_members_13 : decode bM_members 13 = .ok (.iconst 1, 1) := by decide +kernel
theorem dM_members_14 : decode bM_members 14 = .ok (.iload_n 0, 1) := by decide +kernel
theorem dM_members_15 : decode bM_members 15 = .ok (.iload_n 2, 1) := by decide +kernel
theorem dM_members_16 : decode bM_members 16 = .ok (.invokestatic 92, 3) := by decide +kernel
theorem dM_members_19 : decode bM_members 19 = .ok (.ishl, 1) := by decide +kernel
theorem dM_members_20 : decode bM_members 20 = .ok (.ior, 1) := by decide +kernel
theorem dM_members_21 : decode bM_members 21 = .ok (.istore_n 1, 1) := by decide +kernel
theorem dM_members_22 : decode bM_members 22 = .ok (.iinc 2 1, 3) := by decide +kernel
theorem dM_members_25 : decode bM_members 25 = .ok (.goto (-21), 3) := by decide +kernel
theorem dM_members_28 : decode bM_members 28 = .ok (.iload_n 1, 1) := by decide +kernel
theorem dM_members_29 : decode bM_members 29 = .ok (.ireturn, 1) := by decide +kernel
theorem dM_before_0 : decode bM_before 0 = .ok (.iload_n 1, 1) := by decide +kernel
theorem dM_before_1 : decode bM_before 1 = .ok (.ldc 96, 2) := by decide +kernel
theorem dM_before_3 : decode bM_before 3 = .ok (.iand, 1) := by decide +kernel
theorem dM_before_4 : decode bM_before 4 = .ok (.iconst 3, 1) := by decide +kernel
theorem dM_before_5 : decode bM_before 5 = .ok (.ishl, 1) := by decide +kernel
theorem dM_before_6 : decode bM_before 6 = .ok (.ldc 96, 2) := by decide +kernel
theorem dM_before_8 : decode bM_before 8 = .ok (.iand, 1) := by decide +kernel
theorem dM_before_9 : decode bM_before 9 = .ok (.iload_n 0, 1) := by decide +kernel
theorem dM_before_10 : decode bM_before 10 = .ok (.ior, 1) := by decide +kernel
theorem dM_before_11 : decode bM_before 11 = .ok (.iload_n 1, 1) := by decide +kernel
theorem dM_before_12 : decode bM_before 12 = .ok (.invokestatic 89, 3) := by decide +kernel
theorem dM_before_15 : decode bM_before 15 = .ok (.iconst 1, 1) := by decide +kernel
theorem dM_before_16 : decode bM_before 16 = .ok (.iadd, 1) := by decide +kernel
theorem dM_before_17 : decode bM_before 17 = .ok (.bipush 18, 2) := by decide +kernel
theorem dM_before_19 : decode bM_before 19 = .ok (.ishl, 1) := by decide +kernel
theorem dM_before_20 : decode bM_before 20 = .ok (.ior, 1) := by decide +kernel
theorem dM_before_21 : decode bM_before 21 = .ok (.ireturn, 1) := by decide +kernel
theorem dM_behind_0 : decode bM_behind 0 = .ok (.iload_n 0, 1) := by decide +kernel
theorem dM_behind_1 : decode bM_behind 1 = .ok (.ldc 96, 2) := by decide +kernel
theorem dM_behind_3 : decode bM_behind 3 = .ok (.iand, 1) := by decide +kernel
theorem dM_behind_4 : decode bM_behind 4 = .ok (.iconst 3, 1) := by decide +kernel
theorem dM_behind_5 : decode bM_behind 5 = .ok (.ishr, 1) := by decide +kernel
theorem dM_behind_6 : decode bM_behind 6 = .ok (.iload_n 0, 1) := by decide +kernel
theorem dM_behind_7 : decode bM_behind 7 = .ok (.invokestatic 89, 3) := by decide +kernel
theorem dM_behind_10 : decode bM_behind 10 = .ok (.iconst 1, 1) := by decide +kernel
theorem dM_behind_11 : decode bM_behind 11 = .ok (.isub, 1) := by decide +kernel
theorem dM_behind_12 : decode bM_behind 12 = .ok (.bipush 18, 2) := by decide +kernel
theorem dM_behind_14 : decode bM_behind 14 = .ok (.ishl, 1) := by decide +kernel
theorem dM_behind_15 : decode bM_behind 15 = .ok (.ior, 1) := by decide +kernel
theorem dM_behind_16 : decode bM_behind 16 = .ok (.ireturn, 1) := by decide +kernel
theorem dM_isInTime_0 : decode bM_isInTime 0 = .ok (.aload_n 0, 1) := by decide +kernel
theorem dM_isInTime_1 : decode bM_isInTime 1 = .ok (.getfield 70, 3) := by decide +kernel
theorem dM_isInTime_4 : decode bM_isInTime 4 = .ok (.aload_n 0, 1) := by decide +kernel
theorem dM_isInTime_5 : decode bM_isInTime 5 = .ok (.getfield 73, 3) := by decide +kernel
theorem dM_isInTime_8 : decode bM_isInTime 8 = .ok (.aload_n 0, 1) := by decide +kernel
theorem dM_isInTime_9 : decode bM_isInTime 9 = .ok (.getfield 80, 3) := by decide +kernel
theorem dM_isInTime_12 : decode bM_isInTime 12 = .ok (.iload_n 1, 1) := by decide +kernel
theorem dM_isInTime_13 : decode bM_isInTime 13 = .ok (.iadd, 1) := by decide +kernel
theorem dM_isInTime_14 : decode bM_isInTime 14 = .ok (.aload_n 0, 1) := by decide +kernel
theorem dM_isInTime_15 : decode bM_isInTime 15 = .ok (.getfield 36, 3) := by decide +kernel
theorem dM_isInTime_18 : decode bM_isInTime 18 = .ok (.imul, 1) := by decide +kernel
theorem dM_isInTime_19 : decode bM_isInTime 19 = .ok (.iadd, 1) := by decide +kernel
theorem dM_isInTime_20 : decode bM_isInTime 20 = .ok (.if_icmp .ge 7, 3) := by decide +kernel
theorem dM_isInTime_23 : decode bM_isInTime 23 = .ok (.iconst 1, 1) := by decide +kernel
theorem dM_isInTime_24 : decode bM_isInTime 24 = .ok (.goto 4, 3) := by decide +kernel
theorem dM_isInTime_27 : decode bM_isInTime 27 = .ok (.iconst 0, 1) := by decide +kernel
theorem dM_isInTime_28 : decode bM_isInTime 28 = .ok (.ireturn, 1) := by decide +kernel
theorem dM_isLate_0 : decode bM_isLate 0 = .ok (.aload_n 0, 1) := by decide +kernel
theorem dM_isLate_1 : decode bM_isLate 1 = .ok (.getfield 70, 3) := by decide +kernel
theorem dM_isLate_4 : decode bM_isLate 4 = .ok (.aload_n 0, 1) := by decide +kernel
theorem dM_isLate_5 : decode bM_isLate 5 = .ok (.getfield 73, 3) := by decide +kernel
theorem dM_isLate_8 : decode bM_isLate 8 = .ok (.iconst 2, 1) := by decide +kernel
theorem dM_isLate_9 : decode bM_isLate 9 = .ok (.aload_n 0, 1) := by decide +kernel
theorem dM_isLate_10 : decode bM_isLate 10 = .ok (.getfield 80, 3) := by decide +kernel
theorem dM_isLate_13 : decode bM_isLate 13 = .ok (.imul, 1) := by decide +kernel
theorem dM_isLate_14 : decode bM_isLate 14 = .ok (.aload_n 0, 1) := by decide +kernel
theorem dM_isLate_15 : decode bM_isLate 15 = .ok (.getfield 36, 3) := by decide +kernel
theorem dM_isLate_18 : decode bM_isLate 18 = .ok (.imul, 1) := by decide +kernel
theorem dM_isLate_19 : decode bM_isLate 19 = .ok (.iadd, 1) := by decide +kernel
theorem dM_isLate_20 : decode bM_isLate 20 = .ok (.if_icmp .lt 7, 3) := by decide +kernel
theorem dM_isLate_23 : decode bM_isLate 23 = .ok (.iconst 1, 1) := by decide +kernel
theorem dM_isLate_24 : decode bM_isLate 24 = .ok (.goto 4, 3) := by decide +kernel
theorem dM_isLate_27 : decode bM_isLate 27 = .ok (.iconst 0, 1) := by decide +kernel
theorem dM_isLate_28 : decode bM_isLate 28 = .ok (.ireturn, 1) := by decide +kernel
theorem inM_thrown_M : ∀ x ∈ u_ws RcM TcM 18, x ∈ wM_thrown := by decide +kernel
theorem inM_fail_M : ∀ x ∈ u_ws RcM TcM 18, x ∈ wM_fail := by decide +kernel
theorem inM_isParty_M : ∀ x ∈ u_ws RcM TcM 18, x ∈ wM_isParty := by decide +kernel
theorem inM_isArc_M : ∀ x ∈ u_ws RcM TcM 18, x ∈ wM_isArc := by decide +kernel
set_option maxRecDepth 20000 in
theorem gM_members_M_many : GoodIn wM_members (va_wsS RcM 89 yM_many wM_many) := goodIn_app (goodIn_of _ (by decide +kernel)) (goodIn_r _ [6] (by decide +kernel) (by decide +kernel))
set_option maxRecDepth 20000 in
theorem gM_members_M_member : GoodIn wM_members (va_wsS RcM 92 yM_member wM_member) := goodIn_app (goodIn_of _ (by decide +kernel)) (goodIn_r _ [7] (by decide +kernel) (by decide +kernel))
set_option maxRecDepth 20000 in
theorem gM_before_M_many : GoodIn wM_before (va_wsS RcM 89 yM_many wM_many) := goodIn_app (goodIn_of _ (by decide +kernel)) (goodIn_r _ [5] (by decide +kernel) (by decide +kernel))
set_option maxRecDepth 20000 in
theorem gM_behind_M_many : GoodIn wM_behind (va_wsS RcM 89 yM_many wM_many) := goodIn_app (goodIn_of _ (by decide +kernel)) (goodIn_r _ [5] (by decide +kernel) (by decide +kernel))
theorem inM_isInTime_M : ∀ x ∈ u_ws RcM TcM 18, x ∈ wM_isInTime := by decide +kernel
theorem inM_isLate_M : ∀ x ∈ u_ws RcM TcM 18, x ∈ wM_isLate := by decide +kernel
end
section
set_option maxHeartbeats 4000000 in
set_option maxRecDepth 100000 in
theorem c_mThrown (l : Launch) (D : va_G) (cI cZ cJ : ClassId) (b : Nat → Nat) (F : FT) (a : AT) : Kr l yM_thrown wM_thrown ({ frames := 0, cells := 0, slots := 0, locals := 0 } : Room) D vwCl (tyG cI cZ cJ) [.ref (b 0)] (wM cI cZ b F a) (mThrown F a) := by
  intro sz
  refine v_ent (cc := bM_thrown) (maxL := 1) (ret := (some .int)) (Qc := (fun _ _ st oc t => oc = .returned (some (.int (mThrown F a))) ∧ t.heap = st.heap)) (fr := (fun _ _ => False)) (own := RcM) rfl (by decide) rfl (Nat.le_of_ble_eq_true rfl) rfl ?_
  intro p e s m args below meth c A C hr _
  refine v_aload_n C 0 dM_thrown_0 rfl rfl ?_
  refine v_get C (T := TcM) (N := 18) (ci := 2) (v := .int (F 2)) inM_thrown_M 0 rfl rfl 2 (by decide) (by decide +kernel) rfl rfl dM_thrown_1 ?_
  exact v_irr C hr (by unfold mThrown; rfl) dM_thrown_4
set_option maxHeartbeats 4000000 in
set_option maxRecDepth 100000 in
theorem c_mFail (l : Launch) (D : va_G) (cI cZ cJ : ClassId) (b : Nat → Nat) (F : FT) (a : AT) (x : Int32) : Ki l yM_fail wM_fail ({ frames := 0, cells := 0, slots := 0, locals := 0 } : Room) D vwCl (tyG cI cZ cJ) [.ref (b 0), .int x] (wM cI cZ b F a) ((mFail F a x).1) (wM cI cZ b ((mFail F a x).2) a) := by
  intro sz
  refine v_ent (cc := bM_fail) (maxL := 2) (ret := (some .int)) (Qc := (fun A => va_Qi (fun (x9 : Int32) (_ : Unit) => x9 = (mFail F a x).1) (fun _ => wB D vwCl (tyG cI cZ cJ) A (wM cI cZ b ((mFail F a x).2) a)) A)) (fr := (fun A => A)) (own := RcM) rfl (by decide) rfl (Nat.le_of_ble_eq_true rfl) rfl ?_
  intro p e s m args below meth c A C hr _
  refine v_free ?_
  refine v_aload_n C 0 dM_fail_0 rfl rfl ?_
  refine v_iload_n C 1 dM_fail_1 rfl rfl ?_
  refine v_put C (T := TcM) (N := 18) (ci := 2) (v := .int x) inM_fail_M tycM tycM_ok nmcM 0 rfl rfl 2 (by decide) (by decide +kernel) rfl rfl rfl rfl (Nat.le_of_ble_eq_true rfl) dM_fail_2 (w1 := wM cI cZ b (upd F 2 x) a) rfl ?_
  refine v_iconst C (v := 0) dM_fail_5 (by decide) ?_
  have hE : (0, upd F 2 x) = mFail F a x := (by unfold mFail; rfl)
  exact v_iret C hr (by rw [← hE]) (by rw [← hE]) dM_fail_6
set_option maxHeartbeats 4000000 in
set_option maxRecDepth 100000 in
theorem c_mIsParty (l : Launch) (D : va_G) (cI cZ cJ : ClassId) (b : Nat → Nat) (F : FT) (a : AT) (x : Int32) : Kr l yM_isParty wM_isParty ({ frames := 0, cells := 0, slots := 0, locals := 0 } : Room) D vwCl (tyG cI cZ cJ) [.ref (b 0), .int x] (wM cI cZ b F a) (mIsParty F a x) := by
  intro sz
  refine v_ent (cc := bM_isParty) (maxL := 2) (ret := (some .boolean)) (Qc := (fun _ _ st oc t => oc = .returned (some (.int (mIsParty F a x))) ∧ t.heap = st.heap)) (fr := (fun _ _ => False)) (own := RcM) rfl (by decide) rfl (Nat.le_of_ble_eq_true rfl) rfl ?_
  intro p e s m args below meth c A C hr _
  refine v_iload_n C 1 dM_isParty_0 rfl rfl ?_
  refine v_if_lt C dM_isParty_1 (tgt := 16) (by decide) (fun h1 => ?_) (fun h1 => ?_)
  · skip
    refine v_iconst C (v := 0) dM_isParty_16 (by decide) ?_
    exact v_zrr C hr (by decide) (by unfold mIsParty; rw [if_pos h1]) dM_isParty_17
  · skip
    refine v_iload_n C 1 dM_isParty_4 rfl rfl ?_
    refine v_aload_n C 0 dM_isParty_5 rfl rfl ?_
    refine v_get C (T := TcM) (N := 18) (ci := 2) (v := .int (F 0)) inM_isParty_M 0 rfl rfl 0 (by decide) (by decide +kernel) rfl rfl dM_isParty_6 ?_
    refine v_icmp_ge C dM_isParty_9 (tgt := 16) (by decide) (fun h2 => ?_) (fun h2 => ?_)
    · skip
      refine v_iconst C (v := 0) dM_isParty_16 (by decide) ?_
      exact v_zrr C hr (by decide) (by unfold mIsParty; rw [if_neg h1, if_pos h2]) dM_isParty_17
    · skip
      refine v_iconst C (v := 1) dM_isParty_12 (by decide) ?_
      refine v_goto C dM_isParty_13 (tgt := 17) (by decide) ?_
      exact v_zrr C hr (by decide) (by unfold mIsParty; rw [if_neg h1, if_neg h2]) dM_isParty_17
set_option maxHeartbeats 4000000 in
set_option maxRecDepth 100000 in
theorem c_mIsArc (l : Launch) (D : va_G) (cI cZ cJ : ClassId) (b : Nat → Nat) (F : FT) (a : AT) (x : Int32) : Kr l yM_isArc wM_isArc ({ frames := 0, cells := 0, slots := 0, locals := 0 } : Room) D vwCl (tyG cI cZ cJ) [.ref (b 0), .int x] (wM cI cZ b F a) (mIsArc F a x) := by
  intro sz
  refine v_ent (cc := bM_isArc) (maxL := 2) (ret := (some .boolean)) (Qc := (fun _ _ st oc t => oc = .returned (some (.int (mIsArc F a x))) ∧ t.heap = st.heap)) (fr := (fun _ _ => False)) (own := RcM) rfl (by decide) rfl (Nat.le_of_ble_eq_true rfl) rfl ?_
  intro p e s m args below meth c A C hr _
  refine v_iload_n C 1 dM_isArc_0 rfl rfl ?_
  refine v_if_lt C dM_isArc_1 (tgt := 16) (by decide) (fun h1 => ?_) (fun h1 => ?_)
  · skip
    refine v_iconst C (v := 0) dM_isArc_16 (by decide) ?_
    exact v_zrr C hr (by decide) (by unfold mIsArc; rw [if_pos h1]) dM_isArc_17
  · skip
    refine v_iload_n C 1 dM_isArc_4 rfl rfl ?_
    refine v_aload_n C 0 dM_isArc_5 rfl rfl ?_
    refine v_get C (T := TcM) (N := 18) (ci := 2) (v := .int (F 9)) inM_isArc_M 0 rfl rfl 9 (by decide) (by decide +kernel) rfl rfl dM_isArc_6 ?_
    refine v_icmp_ge C dM_isArc_9 (tgt := 16) (by decide) (fun h2 => ?_) (fun h2 => ?_)
    · skip
      refine v_iconst C (v := 0) dM_isArc_16 (by decide) ?_
      exact v_zrr C hr (by decide) (by unfold mIsArc; rw [if_neg h1, if_pos h2]) dM_isArc_17
    · skip
      refine v_iconst C (v := 1) dM_isArc_12 (by decide) ?_
      refine v_goto C dM_isArc_13 (tgt := 17) (by decide) ?_
      exact v_zrr C hr (by decide) (by unfold mIsArc; rw [if_neg h1, if_neg h2]) dM_isArc_17
set_option maxHeartbeats 4000000 in
set_option maxRecDepth 100000 in
theorem c_mHas (l : Launch) (D : va_G) (cI cZ cJ : ClassId) (x : Int32) (y : Int32) : Kr l yM_has wM_has ({ frames := 0, cells := 0, slots := 0, locals := 0 } : Room) D vwCl (tyG cI cZ cJ) [.int x, .int y] ([]) (mHas x y) := by
  intro sz
  refine v_ent (cc := bM_has) (maxL := 2) (ret := (some .boolean)) (Qc := (fun _ _ st oc t => oc = .returned (some (.int (mHas x y))) ∧ t.heap = st.heap)) (fr := (fun _ _ => False)) (own := RcM) rfl (by decide) rfl (Nat.le_of_ble_eq_true rfl) rfl ?_
  intro p e s m args below meth c A C hr _
  refine v_iload_n C 0 dM_has_0 rfl rfl ?_
  refine v_iload_n C 1 dM_has_1 rfl rfl ?_
  refine v_ishr C dM_has_2 ?_
  refine v_iconst C (v := 1) dM_has_3 (by decide) ?_
  refine v_iand C dM_has_4 ?_
  refine v_iconst C (v := 1) dM_has_5 (by decide) ?_
  refine v_icmp_ne C dM_has_6 (tgt := 13) (by decide) (fun h1 => ?_) (fun h1 => ?_)
  · skip
    refine v_iconst C (v := 0) dM_has_13 (by decide) ?_
    exact v_zrr C hr (by decide) (by unfold mHas; rw [if_neg h1]) dM_has_14
  · skip
    refine v_iconst C (v := 1) dM_has_9 (by decide) ?_
    refine v_goto C dM_has_10 (tgt := 14) (by decide) ?_
    exact v_zrr C hr (by decide) (by unfold mHas; rw [if_pos h1]) dM_has_14
set_option maxHeartbeats 4000000 in
set_option maxRecDepth 100000 in
theorem c_mSize (l : Launch) (D : va_G) (cI cZ cJ : ClassId) (x : Int32) : Kr l yM_size wM_size ({ frames := 0, cells := 0, slots := 0, locals := 0 } : Room) D vwCl (tyG cI cZ cJ) [.int x] ([]) (mSize x) := by
  intro sz
  refine v_ent (cc := bM_size) (maxL := 3) (ret := (some .int)) (Qc := (fun _ _ st oc t => oc = .returned (some (.int (mSize x))) ∧ t.heap = st.heap)) (fr := (fun _ _ => False)) (own := RcM) rfl (by decide) rfl (Nat.le_of_ble_eq_true rfl) rfl ?_
  intro p e s m args below meth c A C hr _
  refine v_iconst C (v := 0) dM_size_0 (by decide) ?_
  refine v_istore_n C (lv' := [(0, .int x), (1, .int 0)]) [1, 0] dM_size_1 rfl (by decide) rfl ?_
  refine v_iconst C (v := 0) dM_size_2 (by decide) ?_
  refine v_istore_n C (lv' := [(0, .int x), (1, .int 0), (2, .int 0)]) [1, 2, 0] dM_size_3 rfl (by decide) rfl ?_
  refine v_loop1 6 (fun (i : Nat) (u : Int32) => []) (fun (i : Nat) (u : Int32) => [(0, .int x), (1, .int u), (2, .int (nI i))]) (fun (ki i : Nat) (u : Int32) => mSizeL x ki i u = mSizeL x 6 0 0) ?_ ?_ 6 0 0 (by omega) rfl
  · skip
    intro ki i u hki hIi ihi
    have hIi : mSizeL x (ki + 1) i u = mSizeL x 6 0 0 := hIi
    refine v_as (w' := []) (lv' := [(0, .int x), (1, .int u), (2, .int (nI i))]) rfl rfl ?_
    refine v_iload_n C 2 dM_size_4 rfl rfl ?_
    refine v_bipush C (v := 6) dM_size_5 (by decide) ?_
    refine v_icmp_ge C dM_size_7 (tgt := 24) (by decide) (fun h => absurd h (nI_ge (a := i) (b := 6) (by omega) (by omega))) (fun _ => ?_)
    refine v_iload_n C 1 dM_size_10 rfl rfl ?_
    refine v_iload_n C 0 dM_size_11 rfl rfl ?_
    refine v_iload_n C 2 dM_size_12 rfl rfl ?_
    refine v_ishr C dM_size_13 ?_
    refine v_iconst C (v := 1) dM_size_14 (by decide) ?_
    refine v_iand C dM_size_15 ?_
    refine v_iadd C dM_size_16 ?_
    refine v_istore_n C (lv' := [(0, .int x), (1, .int (u + ((x >>> ((nI i) &&& 31)) &&& (1 : Int32)))), (2, .int (nI i))]) [1, 0, 2] dM_size_17 rfl (by decide) rfl ?_
    refine v_iinc C (v := nI (i + 1)) (lv' := [(0, .int x), (1, .int (u + ((x >>> ((nI i) &&& 31)) &&& (1 : Int32)))), (2, .int (nI (i + 1)))]) 2 [1, 2, 0] dM_size_18 rfl (nI_1 i) (by decide) rfl ?_
    refine v_goto C dM_size_21 (tgt := 4) (by decide) ?_
    have hL : mSizeL x ki (i + 1) (u + ((x >>> ((nI i) &&& 31)) &&& (1 : Int32))) = mSizeL x 6 0 0 := (by rw [← hIi]; simp only [mSizeL])
    exact ihi (u + ((x >>> ((nI i) &&& 31)) &&& (1 : Int32))) hL
  · skip
    intro u hIi
    have hIi : mSizeL x 0 6 u = mSizeL x 6 0 0 := hIi
    refine v_as (w' := []) (lv' := [(0, .int x), (1, .int u), (2, .int (nI 6))]) rfl rfl ?_
    have hIi : u = mSizeL x 6 0 0 := hIi
    subst hIi
    refine v_iload_n C 2 dM_size_4 rfl rfl ?_
    refine v_bipush C (v := 6) dM_size_5 (by decide) ?_
    refine v_icmp_ge C dM_size_7 (tgt := 24) (by decide) (fun _ => ?_) (fun h => absurd (nI_le (a := 6) (b := 6) (by omega) (by omega)) h)
    refine v_iload_n C 1 dM_size_24 rfl rfl ?_
    exact v_irr C hr (by unfold mSize; rfl) dM_size_25
set_option maxHeartbeats 4000000 in
set_option maxRecDepth 100000 in
theorem c_mMany (l : Launch) (D : va_G) (cI cZ cJ : ClassId) (row : Int32) : Kr l yM_many wM_many ({ frames := 0, cells := 0, slots := 0, locals := 0 } : Room) D vwCl (tyG cI cZ cJ) [.int row] ([]) (mMany row) := by
  intro sz
  refine v_ent (cc := bM_many) (maxL := 1) (ret := (some .int)) (Qc := (fun _ _ st oc t => oc = .returned (some (.int (mMany row))) ∧ t.heap = st.heap)) (fr := (fun _ _ => False)) (own := RcM) rfl (by decide) rfl (Nat.le_of_ble_eq_true rfl) rfl ?_
  intro p e s m args below meth c A C hr _
  refine v_iload_n C 0 dM_many_0 rfl rfl ?_
  refine v_bipush C (v := 18) dM_many_1 (by decide) ?_
  refine v_ishr C dM_many_3 ?_
  exact v_irr C hr (by unfold mMany; rfl) dM_many_4
set_option maxHeartbeats 4000000 in
set_option maxRecDepth 100000 in
theorem c_mMember (l : Launch) (D : va_G) (cI cZ cJ : ClassId) (row : Int32) (k : Int32) : Kr l yM_member wM_member ({ frames := 0, cells := 0, slots := 0, locals := 0 } : Room) D vwCl (tyG cI cZ cJ) [.int row, .int k] ([]) (mMember row k) := by
  intro sz
  refine v_ent (cc := bM_member) (maxL := 2) (ret := (some .int)) (Qc := (fun _ _ st oc t => oc = .returned (some (.int (mMember row k))) ∧ t.heap = st.heap)) (fr := (fun _ _ => False)) (own := RcM) rfl (by decide) rfl (Nat.le_of_ble_eq_true rfl) rfl ?_
  intro p e s m args below meth c A C hr _
  refine v_iload_n C 0 dM_member_0 rfl rfl ?_
  refine v_iconst C (v := 3) dM_member_1 (by decide) ?_
  refine v_iload_n C 1 dM_member_2 rfl rfl ?_
  refine v_imul C dM_member_3 ?_
  refine v_ishr C dM_member_4 ?_
  refine v_bipush C (v := 7) dM_member_5 (by decide) ?_
  refine v_iand C dM_member_7 ?_
  exact v_irr C hr (by unfold mMember; rfl) dM_member_8
set_option maxHeartbeats 4000000 in
set_option maxRecDepth 100000 in
theorem c_mMembers (l : Launch) (D : va_G) (cI cZ cJ : ClassId) (mm : Nat) (row : Int32) (hm : mMany row = nI mm) (hm6 : mm ≤ 6) : Kr l yM_members wM_members ({ frames := 1, cells := 0, slots := 0, locals := 21 } : Room) D vwCl (tyG cI cZ cJ) [.int row] ([]) (mMembers mm row) := by
  intro sz
  refine v_ent (cc := bM_members) (maxL := 3) (ret := (some .int)) (Qc := (fun _ _ st oc t => oc = .returned (some (.int (mMembers mm row))) ∧ t.heap = st.heap)) (fr := (fun _ _ => False)) (own := RcM) rfl (by decide) rfl (Nat.le_of_ble_eq_true rfl) rfl ?_
  intro p e s m args below meth c A C hr _
  refine v_iconst C (v := 0) dM_members_0 (by decide) ?_
  refine v_istore_n C (lv' := [(0, .int row), (1, .int 0)]) [1, 0] dM_members_1 rfl (by decide) rfl ?_
  refine v_iconst C (v := 0) dM_members_2 (by decide) ?_
  refine v_istore_n C (lv' := [(0, .int row), (1, .int 0), (2, .int 0)]) [1, 2, 0] dM_members_3 rfl (by decide) rfl ?_
  refine v_loop1 mm (fun (i : Nat) (u : Int32) => []) (fun (i : Nat) (u : Int32) => [(0, .int row), (1, .int u), (2, .int (nI i))]) (fun (ki i : Nat) (u : Int32) => mMembersL mm row ki i u = mMembersL mm row mm 0 0) ?_ ?_ mm 0 0 (by omega) rfl
  · skip
    intro ki i u hki hIi ihi
    have hIi : mMembersL mm row (ki + 1) i u = mMembersL mm row mm 0 0 := hIi
    refine v_as (w' := []) (lv' := [(0, .int row), (1, .int u), (2, .int (nI i))]) rfl rfl ?_
    refine v_iload_n C 2 dM_members_4 rfl rfl ?_
    refine v_iload_n C 0 dM_members_5 rfl rfl ?_
    refine v_cSr0 (As := [.int row]) C (c_mMany l D cI cZ cJ row) (va_cwS 1 C.2.2.2.2.1 gM_members_M_many rfl rfl rfl (by decide +kernel) ⟨Nat.le_of_ble_eq_true rfl, Nat.le_of_ble_eq_true rfl⟩) rfl rfl (Nat.le_of_ble_eq_true rfl) ⟨Nat.zero_le _, Nat.zero_le _⟩ dM_members_6 ?_
    refine v_top (y := nI mm) hm ?_
    refine v_icmp_ge C dM_members_9 (tgt := 28) (by decide) (fun h => absurd h (nI_ge (a := i) (b := mm) (by omega) (by omega))) (fun _ => ?_)
    refine v_iload_n C 1 dM_members_12 rfl rfl ?_
    refine v_iconst C (v := 1) dM_members_13 (by decide) ?_
    refine v_iload_n C 0 dM_members_14 rfl rfl ?_
    refine v_iload_n C 2 dM_members_15 rfl rfl ?_
    refine v_cSr0 (As := [.int row, .int (nI i)]) C (c_mMember l D cI cZ cJ row (nI i)) (va_cwS 2 C.2.2.2.2.1 gM_members_M_member rfl rfl rfl (by decide +kernel) ⟨Nat.le_of_ble_eq_true rfl, Nat.le_of_ble_eq_true rfl⟩) rfl rfl (Nat.le_of_ble_eq_true rfl) ⟨Nat.zero_le _, Nat.zero_le _⟩ dM_members_16 ?_
    refine v_ishl C dM_members_19 ?_
    refine v_ior C dM_members_20 ?_
    refine v_istore_n C (lv' := [(0, .int row), (1, .int (u ||| ((1 : Int32) <<< ((mMember row (nI i)) &&& 31)))), (2, .int (nI i))]) [1, 0, 2] dM_members_21 rfl (by decide) rfl ?_
    refine v_iinc C (v := nI (i + 1)) (lv' := [(0, .int row), (1, .int (u ||| ((1 : Int32) <<< ((mMember row (nI i)) &&& 31)))), (2, .int (nI (i + 1)))]) 2 [1, 2, 0] dM_members_22 rfl (nI_1 i) (by decide) rfl ?_
    refine v_goto C dM_members_25 (tgt := 4) (by decide) ?_
    have hL : mMembersL mm row ki (i + 1) (u ||| ((1 : Int32) <<< ((mMember row (nI i)) &&& 31))) = mMembersL mm row mm 0 0 := (by rw [← hIi]; simp only [mMembersL])
    exact ihi (u ||| ((1 : Int32) <<< ((mMember row (nI i)) &&& 31))) hL
  · skip
    intro u hIi
    have hIi : mMembersL mm row 0 mm u = mMembersL mm row mm 0 0 := hIi
    refine v_as (w' := []) (lv' := [(0, .int row), (1, .int u), (2, .int (nI mm))]) rfl rfl ?_
    have hIi : u = mMembersL mm row mm 0 0 := hIi
    subst hIi
    refine v_iload_n C 2 dM_members_4 rfl rfl ?_
    refine v_iload_n C 0 dM_members_5 rfl rfl ?_
    refine v_cSr0 (As := [.int row]) C (c_mMany l D cI cZ cJ row) (va_cwS 1 C.2.2.2.2.1 gM_members_M_many rfl rfl rfl (by decide +kernel) ⟨Nat.le_of_ble_eq_true rfl, Nat.le_of_ble_eq_true rfl⟩) rfl rfl (Nat.le_of_ble_eq_true rfl) ⟨Nat.zero_le _, Nat.zero_le _⟩ dM_members_6 ?_
    refine v_top (y := nI mm) hm ?_
    refine v_icmp_ge C dM_members_9 (tgt := 28) (by decide) (fun _ => ?_) (fun h => absurd (nI_le (a := mm) (b := mm) (by omega) (by omega)) h)
    refine v_iload_n C 1 dM_members_28 rfl rfl ?_
    exact v_irr C hr (by unfold mMembers; rfl) dM_members_29
set_option maxHeartbeats 4000000 in
set_option maxRecDepth 100000 in
theorem c_mBefore (l : Launch) (D : va_G) (cI cZ cJ : ClassId) (x : Int32) (row : Int32) : Kr l yM_before wM_before ({ frames := 1, cells := 0, slots := 0, locals := 20 } : Room) D vwCl (tyG cI cZ cJ) [.int x, .int row] ([]) (mBefore x row) := by
  intro sz
  refine v_ent (cc := bM_before) (maxL := 2) (ret := (some .int)) (Qc := (fun _ _ st oc t => oc = .returned (some (.int (mBefore x row))) ∧ t.heap = st.heap)) (fr := (fun _ _ => False)) (own := RcM) rfl (by decide) rfl (Nat.le_of_ble_eq_true rfl) rfl ?_
  intro p e s m args below meth c A C hr _
  refine v_iload_n C 1 dM_before_0 rfl rfl ?_
  refine v_ldc C (v := 262143) (by decide +kernel) dM_before_1 ?_
  refine v_iand C dM_before_3 ?_
  refine v_iconst C (v := 3) dM_before_4 (by decide) ?_
  refine v_ishl C dM_before_5 ?_
  refine v_ldc C (v := 262143) (by decide +kernel) dM_before_6 ?_
  refine v_iand C dM_before_8 ?_
  refine v_iload_n C 0 dM_before_9 rfl rfl ?_
  refine v_ior C dM_before_10 ?_
  refine v_iload_n C 1 dM_before_11 rfl rfl ?_
  refine v_cSr0 (As := [.int row]) C (c_mMany l D cI cZ cJ row) (va_cwS 1 C.2.2.2.2.1 gM_before_M_many rfl rfl rfl (by decide +kernel) ⟨Nat.le_of_ble_eq_true rfl, Nat.le_of_ble_eq_true rfl⟩) rfl rfl (Nat.le_of_ble_eq_true rfl) ⟨Nat.zero_le _, Nat.zero_le _⟩ dM_before_12 ?_
  refine v_iconst C (v := 1) dM_before_15 (by decide) ?_
  refine v_iadd C dM_before_16 ?_
  refine v_bipush C (v := 18) dM_before_17 (by decide) ?_
  refine v_ishl C dM_before_19 ?_
  refine v_ior C dM_before_20 ?_
  exact v_irr C hr (by unfold mBefore; rfl) dM_before_21
set_option maxHeartbeats 4000000 in
set_option maxRecDepth 100000 in
theorem c_mBehind (l : Launch) (D : va_G) (cI cZ cJ : ClassId) (row : Int32) : Kr l yM_behind wM_behind ({ frames := 1, cells := 0, slots := 0, locals := 20 } : Room) D vwCl (tyG cI cZ cJ) [.int row] ([]) (mBehind row) := by
  intro sz
  refine v_ent (cc := bM_behind) (maxL := 1) (ret := (some .int)) (Qc := (fun _ _ st oc t => oc = .returned (some (.int (mBehind row))) ∧ t.heap = st.heap)) (fr := (fun _ _ => False)) (own := RcM) rfl (by decide) rfl (Nat.le_of_ble_eq_true rfl) rfl ?_
  intro p e s m args below meth c A C hr _
  refine v_iload_n C 0 dM_behind_0 rfl rfl ?_
  refine v_ldc C (v := 262143) (by decide +kernel) dM_behind_1 ?_
  refine v_iand C dM_behind_3 ?_
  refine v_iconst C (v := 3) dM_behind_4 (by decide) ?_
  refine v_ishr C dM_behind_5 ?_
  refine v_iload_n C 0 dM_behind_6 rfl rfl ?_
  refine v_cSr0 (As := [.int row]) C (c_mMany l D cI cZ cJ row) (va_cwS 1 C.2.2.2.2.1 gM_behind_M_many rfl rfl rfl (by decide +kernel) ⟨Nat.le_of_ble_eq_true rfl, Nat.le_of_ble_eq_true rfl⟩) rfl rfl (Nat.le_of_ble_eq_true rfl) ⟨Nat.zero_le _, Nat.zero_le _⟩ dM_behind_7 ?_
  refine v_iconst C (v := 1) dM_behind_10 (by decide) ?_
  refine v_isub C dM_behind_11 ?_
  refine v_bipush C (v := 18) dM_behind_12 (by decide) ?_
  refine v_ishl C dM_behind_14 ?_
  refine v_ior C dM_behind_15 ?_
  exact v_irr C hr (by unfold mBehind; rfl) dM_behind_16
set_option maxHeartbeats 4000000 in
set_option maxRecDepth 100000 in
theorem c_mIsInTime (l : Launch) (D : va_G) (cI cZ cJ : ClassId) (b : Nat → Nat) (F : FT) (a : AT) (x : Int32) : Kr l yM_isInTime wM_isInTime ({ frames := 0, cells := 0, slots := 0, locals := 0 } : Room) D vwCl (tyG cI cZ cJ) [.ref (b 0), .int x] (wM cI cZ b F a) (mIsInTime F a x) := by
  intro sz
  refine v_ent (cc := bM_isInTime) (maxL := 2) (ret := (some .boolean)) (Qc := (fun _ _ st oc t => oc = .returned (some (.int (mIsInTime F a x))) ∧ t.heap = st.heap)) (fr := (fun _ _ => False)) (own := RcM) rfl (by decide) rfl (Nat.le_of_ble_eq_true rfl) rfl ?_
  intro p e s m args below meth c A C hr _
  refine v_aload_n C 0 dM_isInTime_0 rfl rfl ?_
  refine v_get C (T := TcM) (N := 18) (ci := 2) (v := .int (F 3)) inM_isInTime_M 0 rfl rfl 3 (by decide) (by decide +kernel) rfl rfl dM_isInTime_1 ?_
  refine v_aload_n C 0 dM_isInTime_4 rfl rfl ?_
  refine v_get C (T := TcM) (N := 18) (ci := 2) (v := .int (F 5)) inM_isInTime_M 0 rfl rfl 5 (by decide) (by decide +kernel) rfl rfl dM_isInTime_5 ?_
  refine v_aload_n C 0 dM_isInTime_8 rfl rfl ?_
  refine v_get C (T := TcM) (N := 18) (ci := 2) (v := .int (F 6)) inM_isInTime_M 0 rfl rfl 6 (by decide) (by decide +kernel) rfl rfl dM_isInTime_9 ?_
  refine v_iload_n C 1 dM_isInTime_12 rfl rfl ?_
  refine v_iadd C dM_isInTime_13 ?_
  refine v_aload_n C 0 dM_isInTime_14 rfl rfl ?_
  refine v_get C (T := TcM) (N := 18) (ci := 2) (v := .int (F 1)) inM_isInTime_M 0 rfl rfl 1 (by decide) (by decide +kernel) rfl rfl dM_isInTime_15 ?_
  refine v_imul C dM_isInTime_18 ?_
  refine v_iadd C dM_isInTime_19 ?_
  refine v_icmp_ge C dM_isInTime_20 (tgt := 27) (by decide) (fun h1 => ?_) (fun h1 => ?_)
  · skip
    refine v_iconst C (v := 0) dM_isInTime_27 (by decide) ?_
    exact v_zrr C hr (by decide) (by unfold mIsInTime; rw [if_pos h1]) dM_isInTime_28
  · skip
    refine v_iconst C (v := 1) dM_isInTime_23 (by decide) ?_
    refine v_goto C dM_isInTime_24 (tgt := 28) (by decide) ?_
    exact v_zrr C hr (by decide) (by unfold mIsInTime; rw [if_neg h1]) dM_isInTime_28
set_option maxHeartbeats 4000000 in
set_option maxRecDepth 100000 in
theorem c_mIsLate (l : Launch) (D : va_G) (cI cZ cJ : ClassId) (b : Nat → Nat) (F : FT) (a : AT) : Kr l yM_isLate wM_isLate ({ frames := 0, cells := 0, slots := 0, locals := 0 } : Room) D vwCl (tyG cI cZ cJ) [.ref (b 0)] (wM cI cZ b F a) (mIsLate F a) := by
  intro sz
  refine v_ent (cc := bM_isLate) (maxL := 1) (ret := (some .boolean)) (Qc := (fun _ _ st oc t => oc = .returned (some (.int (mIsLate F a))) ∧ t.heap = st.heap)) (fr := (fun _ _ => False)) (own := RcM) rfl (by decide) rfl (Nat.le_of_ble_eq_true rfl) rfl ?_
  intro p e s m args below meth c A C hr _
  refine v_aload_n C 0 dM_isLate_0 rfl rfl ?_
  refine v_get C (T := TcM) (N := 18) (ci := 2) (v := .int (F 3)) inM_isLate_M 0 rfl rfl 3 (by decide) (by decide +kernel) rfl rfl dM_isLate_1 ?_
  refine v_aload_n C 0 dM_isLate_4 rfl rfl ?_
  refine v_get C (T := TcM) (N := 18) (ci := 2) (v := .int (F 5)) inM_isLate_M 0 rfl rfl 5 (by decide) (by decide +kernel) rfl rfl dM_isLate_5 ?_
  refine v_iconst C (v := 2) dM_isLate_8 (by decide) ?_
  refine v_aload_n C 0 dM_isLate_9 rfl rfl ?_
  refine v_get C (T := TcM) (N := 18) (ci := 2) (v := .int (F 6)) inM_isLate_M 0 rfl rfl 6 (by decide) (by decide +kernel) rfl rfl dM_isLate_10 ?_
  refine v_imul C dM_isLate_13 ?_
  refine v_aload_n C 0 dM_isLate_14 rfl rfl ?_
  refine v_get C (T := TcM) (N := 18) (ci := 2) (v := .int (F 1)) inM_isLate_M 0 rfl rfl 1 (by decide) (by decide +kernel) rfl rfl dM_isLate_15 ?_
  refine v_imul C dM_isLate_18 ?_
  refine v_iadd C dM_isLate_19 ?_
  refine v_icmp_lt C dM_isLate_20 (tgt := 27) (by decide) (fun h1 => ?_) (fun h1 => ?_)
  · skip
    refine v_iconst C (v := 0) dM_isLate_27 (by decide) ?_
    exact v_zrr C hr (by decide) (by unfold mIsLate; rw [if_pos h1]) dM_isLate_28
  · skip
    refine v_iconst C (v := 1) dM_isLate_23 (by decide) ?_
    refine v_goto C dM_isLate_24 (tgt := 28) (by decide) ?_
    exact v_zrr C hr (by decide) (by unfold mIsLate; rw [if_neg h1]) dM_isLate_28
end
section
theorem dM_reached_0 : decode bM_reached 0 = .ok (.iconst 1, 1) := by decide +kernel
theorem dM_reached_1 : decode bM_reached 1 = .ok (.iload_n 1, 1) := by decide +kernel
theorem dM_reached_2 : decode bM_reached 2 = .ok (.ishl, 1) := by decide +kernel
theorem dM_reached_3 : decode bM_reached 3 = .ok (.istore_n 2, 1) := by decide +kernel
theorem dM_reached_4 : decode bM_reached 4 = .ok (.iconst 0, 1) := by decide +kernel
theorem dM_reached_5 : decode bM_reached 5 = .ok (.istore_n 3, 1) := by decide +kernel
theorem dM_reached_6 : decode bM_reached 6 = .ok (.iload_n 3, 1) := by decide +kernel
theorem dM_reached_7 : decode bM_reached 7 = .ok (.aload_n 0, 1) := by decide +kernel
theorem dM_reached_8 : decode bM_reached 8 = .ok (.getfield 32, 3) := by decide +kernel
theorem dM_reached_11 : decode bM_reached 11 = .ok (.if_icmp .ge 46, 3) := by decide +kernel
theorem dM_reached_14 : decode bM_reached 14 = .ok (.iconst 0, 1) := by decide +kernel
theorem dM_reached_15 : decode bM_reached 15 = .ok (.istore 4, 2) := by decide +kernel
theorem dM_reached_17 : decode bM_reached 17 = .ok (.iload 4, 2) := by decide +kernel
theorem dM_reached_19 : decode bM_reached 19 = .ok (.aload_n 0, 1) := by decide +kernel
theorem dM_reached_20 : decode bM_reached 20 = .ok (.getfield 32, 3) := by decide +kernel
theorem dM_reached_23 : decode bM_reached 23 = .ok (.if_icmp .ge 28, 3) := by decide +kernel
theorem dM_reached_26 : decode bM_reached 26 = .ok (.iload_n 2, 1) := by decide +kernel
theorem dM_reached_27 : decode bM_reached 27 = .ok (.iload 4, 2) := by decide +kernel
theorem dM_reached_29 : decode bM_reached 29 = .ok (.invokestatic 49, 3) := by decide +kernel
theorem dM_reached_32 : decode bM_reached 32 = .ok (.ifCond .eq 13, 3) := by decide +kernel
theorem dM_reached_35 : decode bM_reached 35 = .ok (.iload_n 2, 1) := by decide +kernel
theorem dM_reached_36 : decode bM_reached 36 = .ok (.aload_n 0, 1) := by decide +kernel
theorem dM_reached_37 : decode bM_reached 37 = .ok (.getfield 25, 3) := by decide +kernel
theorem dM_reached_40 : decode bM_reached 40 = .ok (.iload 4, 2) := by decide +kernel
theorem dM_reached_42 : decode bM_reached 42 = .ok (.iaload, 1) := by decide +kernel
theorem dM_reached_43 : decode bM_reached 43 = .ok (.ior, 1) := by decide +kernel
theorem dM_reached_44 : decode bM_reached 44 = .ok (.istore_n 2, 1) := by decide +kernel
theorem dM_reached_45 : decode bM_reached 45 = .ok (.iinc 4 1, 3) := by decide +kernel
theorem dM_reached_48 : decode bM_reached 48 = .ok (.goto (-31), 3) := by decide +kernel
theorem dM_reached_51 : decode bM_reached 51 = .ok (.iinc 3 1, 3) := by decide +kernel
theorem dM_reached_54 : decode bM_reached 54 = .ok (.goto (-48), 3) := by decide +kernel
theorem dM_reached_57 : decode bM_reached 57 = .ok (.iload_n 2, 1) := by decide +kernel
theorem dM_reached_58 : decode bM_reached 58 = .ok (.ireturn, 1) := by decide +kernel
theorem dM_isOpen_0 : decode bM_isOpen 0 = .ok (.iload_n 1, 1) := by decide +kernel
theorem dM_isOpen_1 : decode bM_isOpen 1 = .ok (.istore_n 2, 1) := by decide +kernel
theorem dM_isOpen_2 : decode bM_isOpen 2 = .ok (.iconst 0, 1) := by decide +kernel
theorem dM_isOpen_3 : decode bM_isOpen 3 = .ok (.istore_n 3, 1) := by decide +kernel
theorem dM_isOpen_4 : decode bM_isOpen 4 = .ok (.iload_n 3, 1) := by decide +kernel
theorem dM_isOpen_5 : decode bM_isOpen 5 = .ok (.aload_n 0, 1) := by decide +kernel
theorem dM_isOpen_6 : decode bM_isOpen 6 = .ok (.getfield 32, 3) := by decide +kernel
theorem dM_isOpen_9 : decode bM_isOpen 9 = .ok (.if_icmp .ge 57, 3) := by decide +kernel
theorem dM_isOpen_12 : decode bM_isOpen 12 = .ok (.iconst 0, 1) := by decide +kernel
theorem dM_isOpen_13 : decode bM_isOpen 13 = .ok (.istore 4, 2) := by decide +kernel
theorem dM_isOpen_15 : decode bM_isOpen 15 = .ok (.iload 4, 2) := by decide +kernel
theorem dM_isOpen_17 : decode bM_isOpen 17 = .ok (.aload_n 0, 1) := by decide +kernel
theorem dM_isOpen_18 : decode bM_isOpen 18 = .ok (.getfield 32, 3) := by decide +kernel
theorem dM_isOpen_21 : decode bM_isOpen 21 = .ok (.if_icmp .ge 39, 3) := by decide +kernel
theorem dM_isOpen_24 : decode bM_isOpen 24 = .ok (.iload_n 2, 1) := by decide +kernel
theorem dM_isOpen_25 : decode bM_isOpen 25 = .ok (.iload 4, 2) := by decide +kernel
theorem dM_isOpen_27 : decode bM_isOpen 27 = .ok (.invokestatic 49, 3) := by decide +kernel
theorem dM_isOpen_30 : decode bM_isOpen 30 = .ok (.ifCond .eq 24, 3) := by decide +kernel
theorem dM_isOpen_33 : decode bM_isOpen 33 = .ok (.aload_n 0, 1) := by decide +kernel
theorem dM_isOpen_34 : decode bM_isOpen 34 = .ok (.getfield 25, 3) := by decide +kernel
theorem dM_isOpen_37 : decode bM_isOpen 37 = .ok (.iload 4, 2) := by decide +kernel
theorem dM_isOpen_39 : decode bM_isOpen 39 = .ok (.iaload, 1) := by decide +kernel
theorem dM_isOpen_40 : decode bM_isOpen 40 = .ok (.iload_n 2, 1) := by decide +kernel
theorem dM_isOpen_41 : decode bM_isOpen 41 = .ok (.iand, 1) := by decide +kernel
theorem dM_isOpen_42 : decode bM_isOpen 42 = .ok (.ifCond .ne 12, 3) := by decide +kernel
theorem dM_isOpen_45 : decode bM_isOpen 45 = .ok (.iload_n 2, 1) := by decide +kernel
theorem dM_isOpen_46 : decode bM_isOpen 46 = .ok (.iconst 1, 1) := by decide +kernel
theorem dM_isOpen_47 : decode bM_isOpen 47 = .ok (.iload 4, 2) := by decide +kernel
theorem dM_isOpen_49 : decode bM_isOpen 49 = .ok (.ishl, 1) := by decide +kernel
theorem dM_isOpen_50 : decode bM_isOpen 50 = .ok (.iconst (-1), 1) := by decide +kernel
theorem dM_isOpen_51 : decode bM_isOpen 51 = .ok (.ixor, 1) := by decide +kernel
theorem dM_isOpen_52 : decode bM_isOpen 52 = .ok (.iand, 1) := by decide +kernel
theorem dM_isOpen_53 : decode bM_isOpen 53 = .ok (.istore_n 2, 1) := by decide +kernel
theorem dM_isOpen_54 : decode bM_isOpen 54 = .ok (.iinc 4 1, 3) := by decide +kernel
theorem dM_isOpen_57 : decode bM_isOpen 57 = .ok (.goto (-42), 3) := by decide +kernel
theorem dM_isOpen_60 : decode bM_isOpen 60 = .ok (.iinc 3 1, 3) := by decide +kernel
theorem dM_isOpen_63 : decode bM_isOpen 63 = .ok (.goto (-59), 3) := by decide +kernel
theorem dM_isOpen_66 : decode bM_isOpen 66 = .ok (.iload_n 2, 1) := by decide +kernel
theorem dM_isOpen_67 : decode bM_isOpen 67 = .ok (.ifCond .ne 7, 3) := by decide +kernel
theorem dM_isOpen_70 : decode bM_isOpen 70 = .ok (.iconst 1, 1) := by decide +kernel
theorem dM_isOpen_71 : decode bM_isOpen 71 = .ok (.goto 4, 3) := by decide +kernel
theorem dM_isOpen_74 : decode bM_isOpen 74 = .ok (.iconst 0, 1) := by decide +kernel
theorem dM_isOpen_75 : decode bM_isOpen 75 = .ok (.ireturn, 1) := by decide +kernel
theorem dM_greatest_0 : decode bM_greatest 0 = .ok (.iconst 0, 1) := by decide +kernel
theorem dM_greatest_1 : decode bM_greatest 1 = .ok (.istore_n 1, 1) := by decide +kernel
theorem dM_greatest_2 : decode bM_greatest 2 = .ok (.iconst 1, 1) := by decide +kernel
theorem dM_greatest_3 : decode bM_greatest 3 = .ok (.istore_n 2, 1) := by decide +kernel
theorem dM_greatest_4 : decode bM_greatest 4 = .ok (.iload_n 2, 1) := by decide +kernel
theorem dM_greatest_5 : decode bM_greatest 5 = .ok (.iconst 1, 1) := by decide +kernel
theorem dM_greatest_6 : decode bM_greatest 6 = .ok (.aload_n 0, 1) := by decide +kernel
theorem dM_greatest_7 : decode bM_greatest 7 = .ok (.getfield 32, 3) := by decide +kernel
theorem dM_greatest_10 : decode bM_greatest 10 = .ok (.ishl, 1) := by decide +kernel
theorem dM_greatest_11 : decode bM_greatest 11 = .ok (.if_icmp .ge 186, 3) := by decide +kernel
theorem dM_greatest_14 : decode bM_greatest 14 = .ok (.iconst 0, 1) := by decide +kernel
theorem dM_greatest_15 : decode bM_greatest 15 = .ok (.istore_n 3, 1) := by decide +kernel
theorem dM_greatest_16 : decode bM_greatest 16 = .ok (.iload_n 3, 1) := by decide +kernel
theorem dM_greatest_17 : decode bM_greatest 17 = .ok (.aload_n 0, 1) := by decide +kernel
theorem dM_greatest_18 : decode bM_greatest 18 = .ok (.getfield 32, 3) := by decide +kernel
theorem dM_greatest_21 : decode bM_greatest 21 = .ok (.if_icmp .ge 170, 3) := by decide +kernel
theorem dM_greatest_24 : decode bM_greatest 24 = .ok (.iload_n 2, 1) := by decide +kernel
theorem dM_greatest_25 : decode bM_greatest 25 = .ok (.iconst 1, 1) := by decide +kernel
theorem dM_greatest_26 : decode bM_greatest 26 = .ok (.iload_n 3, 1) := by decide +kernel
theorem dM_greatest_27 : decode bM_greatest 27 = .ok (.ishl, 1) := by decide +kernel
theorem dM_greatest_28 : decode bM_greatest 28 = .ok (.if_icmp .ne 7, 3) := by decide +kernel
theorem dM_greatest_31 : decode bM_greatest 31 = .ok (.iconst 1, 1) := by decide +kernel
theorem dM_greatest_32 : decode bM_greatest 32 = .ok (.goto 4, 3) := by decide +kernel
theorem dM_greatest_35 : decode bM_greatest 35 = .ok (.iconst 0, 1) := by decide +kernel
theorem dM_greatest_36 : decode bM_greatest 36 = .ok (.istore 4, 2) := by decide +kernel
theorem dM_greatest_38 : decode bM_greatest 38 = .ok (.iconst 0, 1) := by decide +kernel
theorem dM_greatest_39 : decode bM_greatest 39 = .ok (.istore 5, 2) := by decide +kernel
theorem dM_greatest_41 : decode bM_greatest 41 = .ok (.iload 5, 2) := by decide +kernel
theorem dM_greatest_43 : decode bM_greatest 43 = .ok (.aload_n 0, 1) := by decide +kernel
theorem dM_greatest_44 : decode bM_greatest 44 = .ok (.getfield 32, 3) := by decide +kernel
theorem dM_greatest_47 : decode bM_greatest 47 = .ok (.if_icmp .ge 79, 3) := by decide +kernel
theorem dM_greatest_50 : decode bM_greatest 50 = .ok (.iload_n 2, 1) := by decide +kernel
theorem dM_greatest_51 : decode bM_greatest 51 = .ok (.iload_n 3, 1) := by decide +kernel
theorem dM_greatest_52 : decode bM_greatest 52 = .ok (.invokestatic 49, 3) := by decide +kernel
theorem dM_greatest_55 : decode bM_greatest 55 = .ok (.ifCond .eq 71, 3) := by decide +kernel
theorem dM_greatest_58 : decode bM_greatest 58 = .ok (.iload 4, 2) := by decide +kernel
theorem dM_greatest_60 : decode bM_greatest 60 = .ok (.ifCond .ne 53, 3) := by decide +kernel
theorem dM_greatest_63 : decode bM_greatest 63 = .ok (.iload 5, 2) := by decide +kernel
theorem dM_greatest_65 : decode bM_greatest 65 = .ok (.iload_n 3, 1) := by decide +kernel
theorem dM_greatest_66 : decode bM_greatest 66 = .ok (.if_icmp .eq 51, 3) := by decide +kernel
theorem dM_greatest_69 : decode bM_greatest 69 = .ok (.iload_n 2, 1) := by decide +kernel
theorem dM_greatest_70 : decode bM_greatest 70 = .ok (.iload 5, 2) := by decide +kernel
theorem dM_greatest_72 : decode bM_greatest 72 = .ok (.invokestatic 49, 3) := by decide +kernel
theorem dM_greatest_75 : decode bM_greatest 75 = .ok (.ifCond .eq 42, 3) := by decide +kernel
theorem dM_greatest_78 : decode bM_greatest 78 = .ok (.aload_n 0, 1) := by decide +kernel
theorem dM_greatest_79 : decode bM_greatest 79 = .ok (.getfield 25, 3) := by decide +kernel
theorem dM_greatest_82 : decode bM_greatest 82 = .ok (.iload 5, 2) := by decide +kernel
theorem dM_greatest_84 : decode bM_greatest 84 = .ok (.iaload, 1) := by decide +kernel
theorem dM_greatest_85 : decode bM_greatest 85 = .ok (.iload_n 3, 1) := by decide +kernel
theorem dM_greatest_86 : decode bM_greatest 86 = .ok (.invokestatic 49, 3) := by decide +kernel
theorem dM_greatest_89 : decode bM_greatest 89 = .ok (.ifCond .eq 28, 3) := by decide +kernel
theorem dM_greatest_92 : decode bM_greatest 92 = .ok (.aload_n 0, 1) := by decide +kernel
theorem dM_greatest_93 : decode bM_greatest 93 = .ok (.getfield 28, 3) := by decide +kernel
theorem dM_greatest_96 : decode bM_greatest 96 = .ok (.bipush 6, 2) := by decide +kernel
theorem dM_greatest_98 : decode bM_greatest 98 = .ok (.iload_n 2, 1) := by decide +kernel
theorem dM_greatest_99 : decode bM_greatest 99 = .ok (.iconst 1, 1) := by decide +kernel
theorem dM_greatest_100 : decode bM_greatest 100 = .ok (.iload_n 3, 1) := by decide +kernel
theorem dM_greatest_101 : decode bM_greatest 101 = .ok (.ishl, 1) := by decide +kernel
theorem dM_greatest_102 : decode bM_greatest 102 = .ok (.iconst (-1), 1) := by decide +kernel
theorem dM_greatest_103 : decode bM_greatest 103 = .ok (.ixor, 1) := by decide +kernel
theorem dM_greatest_104 : decode bM_greatest 104 = .ok (.iand, 1) := by decide +kernel
theorem dM_greatest_105 : decode bM_greatest 105 = .ok (.imul, 1) := by decide +kernel
theorem dM_greatest_106 : decode bM_greatest 106 = .ok (.iload 5, 2) := by decide +kernel
theorem dM_greatest_108 : decode bM_greatest 108 = .ok (.iadd, 1) := by decide +kernel
theorem dM_greatest_109 : decode bM_greatest 109 = .ok (.baload, 1) := by decide +kernel
theorem dM_greatest_110 : decode bM_greatest 110 = .ok (.ifCond .eq 7, 3) := by decide +kernel
theorem dM_greatest_113 : decode bM_greatest 113 = .ok (.iconst 1, 1) := by decide +kernel
theorem dM_greatest_114 : decode bM_greatest 114 = .ok (.goto 4, 3) := by decide +kernel
theorem dM_greatest_117 : decode bM_greatest 117 = .ok (.iconst 0, 1) := by decide +kernel
theorem dM_greatest_118 : decode bM_greatest 118 = .ok (.istore 4, 2) := by decide +kernel
theorem dM_greatest_120 : decode bM_greatest 120 = .ok (.iinc 5 1, 3) := by decide +kernel
theorem dM_greatest_123 : decode bM_greatest 123 = .ok (.goto (-82), 3) := by decide +kernel
theorem dM_greatest_126 : decode bM_greatest 126 = .ok (.aload_n 0, 1) := by decide +kernel
theorem dM_greatest_127 : decode bM_greatest 127 = .ok (.getfield 28, 3) := by decide +kernel
theorem dM_greatest_130 : decode bM_greatest 130 = .ok (.bipush 6, 2) := by decide +kernel
theorem dM_greatest_132 : decode bM_greatest 132 = .ok (.iload_n 2, 1) := by decide +kernel
theorem dM_greatest_133 : decode bM_greatest 133 = .ok (.imul, 1) := by decide +kernel
theorem dM_greatest_134 : decode bM_greatest 134 = .ok (.iload_n 3, 1) := by decide +kernel
theorem dM_greatest_135 : decode bM_greatest 135 = .ok (.iadd, 1) := by decide +kernel
theorem dM_greatest_136 : decode bM_greatest 136 = .ok (.iload_n 2, 1) := by decide +kernel
theorem dM_greatest_137 : decode bM_greatest 137 = .ok (.iload_n 3, 1) := by decide +kernel
theorem dM_greatest_138 : decode bM_greatest 138 = .ok (.invokestatic 49, 3) := by decide +kernel
theorem dM_greatest_141 : decode bM_greatest 141 = .ok (.ifCond .eq 12, 3) := by decide +kernel
theorem dM_greatest_144 : decode bM_greatest 144 = .ok (.iload 4, 2) := by decide +kernel
theorem dM_greatest_146 : decode bM_greatest 146 = .ok (.ifCond .eq 7, 3) := by decide +kernel
theorem dM_greatest_149 : decode bM_greatest 149 = .ok (.iconst 1, 1) := by decide +kernel
theorem dM_greatest_150 : decode bM_greatest 150 = .ok (.goto 4, 3) := by decide +kernel
theorem dM_greatest_153 : decode bM_greatest 153 = .ok (.iconst 0, 1) := by decide +kernel
theorem dM_greatest_154 : decode bM_greatest 154 = .ok (.bastore, 1) := by decide +kernel
theorem dM_greatest_155 : decode bM_greatest 155 = .ok (.iload_n 2, 1) := by decide +kernel
theorem dM_greatest_156 : decode bM_greatest 156 = .ok (.iload_n 3, 1) := by decide +kernel
theorem dM_greatest_157 : decode bM_greatest 157 = .ok (.invokestatic 49, 3) := by decide +kernel
theorem dM_greatest_160 : decode bM_greatest 160 = .ok (.ifCond .eq 25, 3) := by decide +kernel
theorem dM_greatest_163 : decode bM_greatest 163 = .ok (.iload 4, 2) := by decide +kernel
theorem dM_greatest_165 : decode bM_greatest 165 = .ok (.ifCond .eq 20, 3) := by decide +kernel
theorem dM_greatest_168 : decode bM_greatest 168 = .ok (.iload_n 2, 1) := by decide +kernel
theorem dM_greatest_169 : decode bM_greatest 169 = .ok (.invokestatic 61, 3) := by decide +kernel
theorem dM_greatest_172 : decode bM_greatest 172 = .ok (.iconst 1, 1) := by decide +kernel
theorem dM_greatest_173 : decode bM_greatest 173 = .ok (.isub, 1) := by decide +kernel
theorem dM_greatest_174 : decode bM_greatest 174 = .ok (.iload_n 1, 1) := by decide +kernel
theorem dM_greatest_175 : decode bM_greatest 175 = .ok (.if_icmp .le 10, 3) := by decide +kernel
theorem dM_greatest_178 : decode bM_greatest 178 = .ok (.iload_n 2, 1) := by decide +kernel
theorem dM_greatest_179 : decode bM_greatest 179 = .ok (.invokestatic 61, 3) := by decide +kernel
theorem dM_greatest_182 : decode bM_greatest 182 = .ok (.iconst 1, 1) := by decide +kernel
theorem dM_greatest_183 : decode bM_greatest 183 = .ok (.isub, 1) := by decide +kernel
theorem dM_greatest_184 : decode bM_greatest 184 = .ok (.istore_n 1, 1) := by decide +kernel
theorem dM_greatest_185 : decode bM_greatest 185 = .ok (.iinc 3 1, 3) := by decide +kernel
theorem dM_greatest_188 : decode bM_greatest 188 = .ok (.goto (-172), 3) := by decide +kernel
theorem dM_greatest_191 : decode bM_greatest 191 = .ok (.iinc 2 1, 3) := by decide +kernel
theorem dM_greatest_194 : decode bM_greatest 194 = .ok (.goto (-190), 3) := by decide +kernel
theorem dM_greatest_197 : decode bM_greatest 197 = .ok (.iload_n 1, 1) := by decide +kernel
theorem dM_greatest_198 : decode bM_greatest 198 = .ok (.ireturn, 1) := by decide +kernel
theorem inM_reached_M : ∀ x ∈ u_ws RcM TcM 18, x ∈ wM_reached := by decide +kernel
set_option maxRecDepth 20000 in
theorem gM_reached_M_has : GoodIn wM_reached (va_wsS RcM 49 yM_has wM_has) := goodIn_app (goodIn_of _ (by decide +kernel)) (goodIn_r _ [6] (by decide +kernel) (by decide +kernel))
theorem inM_isOpen_M : ∀ x ∈ u_ws RcM TcM 18, x ∈ wM_isOpen := by decide +kernel
set_option maxRecDepth 20000 in
theorem gM_isOpen_M_has : GoodIn wM_isOpen (va_wsS RcM 49 yM_has wM_has) := goodIn_app (goodIn_of _ (by decide +kernel)) (goodIn_r _ [6] (by decide +kernel) (by decide +kernel))
theorem inM_greatest_M : ∀ x ∈ u_ws RcM TcM 18, x ∈ wM_greatest := by decide +kernel
set_option maxRecDepth 20000 in
theorem gM_greatest_M_has : GoodIn wM_greatest (va_wsS RcM 49 yM_has wM_has) := goodIn_app (goodIn_of _ (by decide +kernel)) (goodIn_r _ [9] (by decide +kernel) (by decide +kernel))
set_option maxRecDepth 20000 in
theorem gM_greatest_M_size : GoodIn wM_greatest (va_wsS RcM 61 yM_size wM_size) := goodIn_app (goodIn_of _ (by decide +kernel)) (goodIn_r _ [10] (by decide +kernel) (by decide +kernel))
end
section
set_option maxHeartbeats 4000000 in
set_option maxRecDepth 100000 in
theorem c_mReached (l : Launch) (D : va_G) (cI cZ cJ : ClassId) (b : Nat → Nat) (F : FT) (a : AT) (P : Nat) (x : Int32) (hp : F 0 = nI P) (hp6 : P ≤ 6) : Kr l yM_reached wM_reached ({ frames := 1, cells := 0, slots := 0, locals := 21 } : Room) D vwCl (tyG cI cZ cJ) [.ref (b 0), .int x] (wM cI cZ b F a) (mReached F a P x) := by
  intro sz
  refine v_ent (cc := bM_reached) (maxL := 5) (ret := (some .int)) (Qc := (fun _ _ st oc t => oc = .returned (some (.int (mReached F a P x))) ∧ t.heap = st.heap)) (fr := (fun _ _ => False)) (own := RcM) rfl (by decide) rfl (Nat.le_of_ble_eq_true rfl) rfl ?_
  intro p e s m args below meth c A C hr _
  refine v_iconst C (v := 1) dM_reached_0 (by decide) ?_
  refine v_iload_n C 1 dM_reached_1 rfl rfl ?_
  refine v_ishl C dM_reached_2 ?_
  refine v_istore_n C (lv' := [(0, .ref (b 0)), (1, .int x), (2, .int ((1 : Int32) <<< (x &&& 31)))]) [1, 2, 0] dM_reached_3 rfl (by decide) rfl ?_
  refine v_iconst C (v := 0) dM_reached_4 (by decide) ?_
  refine v_istore_n C (lv' := [(0, .ref (b 0)), (1, .int x), (2, .int ((1 : Int32) <<< (x &&& 31))), (3, .int 0)]) [1, 2, 3, 0] dM_reached_5 rfl (by decide) rfl ?_
  refine v_loop1 P (fun (r : Nat) (u : Int32) => wM cI cZ b F a) (fun (r : Nat) (u : Int32) => [(0, .ref (b 0)), (1, .int x), (2, .int u), (3, .int (nI r))]) (fun (kr r : Nat) (u : Int32) => mReachedL F a P x kr r u = mReachedL F a P x P 0 ((1 : Int32) <<< (x &&& 31))) ?_ ?_ P 0 ((1 : Int32) <<< (x &&& 31)) (by omega) rfl
  · skip
    intro kr r u hkr hIr ihr
    have hIr : mReachedL F a P x (kr + 1) r u = mReachedL F a P x P 0 ((1 : Int32) <<< (x &&& 31)) := hIr
    refine v_as (w' := wM cI cZ b F a) (lv' := [(0, .ref (b 0)), (1, .int x), (2, .int u), (3, .int (nI r))]) rfl rfl ?_
    refine v_iload_n C 3 dM_reached_6 rfl rfl ?_
    refine v_aload_n C 0 dM_reached_7 rfl rfl ?_
    refine v_get C (T := TcM) (N := 18) (ci := 2) (v := .int (F 0)) inM_reached_M 0 rfl rfl 0 (by decide) (by decide +kernel) rfl rfl dM_reached_8 ?_
    refine v_top (y := nI P) hp ?_
    refine v_icmp_ge C dM_reached_11 (tgt := 57) (by decide) (fun h => absurd h (nI_ge (a := r) (b := P) (by omega) (by omega))) (fun _ => ?_)
    refine v_iconst C (v := 0) dM_reached_14 (by decide) ?_
    refine v_istore C (lv' := [(0, .ref (b 0)), (1, .int x), (2, .int u), (3, .int (nI r)), (4, .int 0)]) [1, 2, 3, 4, 0] dM_reached_15 (by decide) rfl ?_
    refine v_loop1 P (fun (qq : Nat) (v : Int32) => wM cI cZ b F a) (fun (qq : Nat) (v : Int32) => [(0, .ref (b 0)), (1, .int x), (2, .int v), (3, .int (nI r)), (4, .int (nI qq))]) (fun (kqq qq : Nat) (v : Int32) => mReachedI F a P x kqq qq v = mReachedI F a P x P 0 u) ?_ ?_ P 0 u (by omega) rfl
    · skip
      intro kqq qq v hkqq hIqq ihqq
      have hIqq : mReachedI F a P x (kqq + 1) qq v = mReachedI F a P x P 0 u := hIqq
      refine v_as (w' := wM cI cZ b F a) (lv' := [(0, .ref (b 0)), (1, .int x), (2, .int v), (3, .int (nI r)), (4, .int (nI qq))]) rfl rfl ?_
      refine v_iload C 4 dM_reached_17 rfl ?_
      refine v_aload_n C 0 dM_reached_19 rfl rfl ?_
      refine v_get C (T := TcM) (N := 18) (ci := 2) (v := .int (F 0)) inM_reached_M 0 rfl rfl 0 (by decide) (by decide +kernel) rfl rfl dM_reached_20 ?_
      refine v_top (y := nI P) hp ?_
      refine v_icmp_ge C dM_reached_23 (tgt := 51) (by decide) (fun h => absurd h (nI_ge (a := qq) (b := P) (by omega) (by omega))) (fun _ => ?_)
      refine v_iload_n C 2 dM_reached_26 rfl rfl ?_
      refine v_iload C 4 dM_reached_27 rfl ?_
      refine v_cSr0 (As := [.int v, .int (nI qq)]) C (c_mHas l D cI cZ cJ v (nI qq)) (va_cwS 2 C.2.2.2.2.1 gM_reached_M_has rfl rfl rfl (by decide +kernel) ⟨Nat.le_of_ble_eq_true rfl, Nat.le_of_ble_eq_true rfl⟩) rfl rfl (Nat.le_of_ble_eq_true rfl) ⟨Nat.zero_le _, Nat.zero_le _⟩ dM_reached_29 ?_
      refine v_if_eq C dM_reached_32 (tgt := 45) (by decide) (fun h1 => ?_) (fun h1 => ?_)
      · skip
        refine v_iinc C (v := nI (qq + 1)) (lv' := [(0, .ref (b 0)), (1, .int x), (2, .int v), (3, .int (nI r)), (4, .int (nI (qq + 1)))]) 4 [1, 2, 3, 4, 0] dM_reached_45 rfl (nI_1 qq) (by decide) rfl ?_
        refine v_goto C dM_reached_48 (tgt := 17) (by decide) ?_
        have hL : mReachedI F a P x kqq (qq + 1) v = mReachedI F a P x P 0 u := (by rw [← hIqq]; simp only [mReachedI]; rw [if_pos h1])
        exact ihqq v hL
      · skip
        refine v_iload_n C 2 dM_reached_35 rfl rfl ?_
        refine v_aload_n C 0 dM_reached_36 rfl rfl ?_
        refine v_get C (T := TcM) (N := 18) (ci := 2) (v := .ref (b 6)) inM_reached_M 0 rfl rfl 15 (by decide) (by decide +kernel) rfl rfl dM_reached_37 ?_
        refine v_iload C 4 dM_reached_40 rfl ?_
        refine v_iald C 6 0 (f := a 15) (y := (a 15) qq) (j := qq) rfl rfl (nI_clamp (by omega)) rfl (vp_in_nI (by omega) (by decide)) dM_reached_42 ?_
        refine v_ior C dM_reached_43 ?_
        refine v_istore_n C (lv' := [(0, .ref (b 0)), (1, .int x), (2, .int (v ||| ((a 15) qq))), (3, .int (nI r)), (4, .int (nI qq))]) [1, 2, 0, 3, 4] dM_reached_44 rfl (by decide) rfl ?_
        refine v_iinc C (v := nI (qq + 1)) (lv' := [(0, .ref (b 0)), (1, .int x), (2, .int (v ||| ((a 15) qq))), (3, .int (nI r)), (4, .int (nI (qq + 1)))]) 4 [1, 2, 3, 4, 0] dM_reached_45 rfl (nI_1 qq) (by decide) rfl ?_
        refine v_goto C dM_reached_48 (tgt := 17) (by decide) ?_
        have hL : mReachedI F a P x kqq (qq + 1) (v ||| ((a 15) qq)) = mReachedI F a P x P 0 u := (by rw [← hIqq]; simp only [mReachedI]; rw [if_neg h1])
        exact ihqq (v ||| ((a 15) qq)) hL
    · skip
      intro v hIqq
      have hIqq : mReachedI F a P x 0 P v = mReachedI F a P x P 0 u := hIqq
      refine v_as (w' := wM cI cZ b F a) (lv' := [(0, .ref (b 0)), (1, .int x), (2, .int v), (3, .int (nI r)), (4, .int (nI P))]) rfl rfl ?_
      have hIqq : v = mReachedI F a P x P 0 u := hIqq
      subst hIqq
      refine v_iload C 4 dM_reached_17 rfl ?_
      refine v_aload_n C 0 dM_reached_19 rfl rfl ?_
      refine v_get C (T := TcM) (N := 18) (ci := 2) (v := .int (F 0)) inM_reached_M 0 rfl rfl 0 (by decide) (by decide +kernel) rfl rfl dM_reached_20 ?_
      refine v_top (y := nI P) hp ?_
      refine v_icmp_ge C dM_reached_23 (tgt := 51) (by decide) (fun _ => ?_) (fun h => absurd (nI_le (a := P) (b := P) (by omega) (by omega)) h)
      refine v_iinc C (v := nI (r + 1)) (lv' := [(0, .ref (b 0)), (1, .int x), (2, .int (mReachedI F a P x P 0 u)), (3, .int (nI (r + 1))), (4, .int (nI P))]) 3 [1, 2, 3, 0, 4] dM_reached_51 rfl (nI_1 r) (by decide) rfl ?_
      refine v_goto C dM_reached_54 (tgt := 6) (by decide) ?_
      refine v_loc (lv' := [(0, .ref (b 0)), (1, .int x), (2, .int (mReachedI F a P x P 0 u)), (3, .int (nI (r + 1)))]) [0, 1, 2, 3] rfl ?_
      have hL : mReachedL F a P x kr (r + 1) (mReachedI F a P x P 0 u) = mReachedL F a P x P 0 ((1 : Int32) <<< (x &&& 31)) := (by rw [← hIr]; simp only [mReachedL])
      exact ihr (mReachedI F a P x P 0 u) hL
  · skip
    intro u hIr
    have hIr : mReachedL F a P x 0 P u = mReachedL F a P x P 0 ((1 : Int32) <<< (x &&& 31)) := hIr
    refine v_as (w' := wM cI cZ b F a) (lv' := [(0, .ref (b 0)), (1, .int x), (2, .int u), (3, .int (nI P))]) rfl rfl ?_
    have hIr : u = mReachedL F a P x P 0 ((1 : Int32) <<< (x &&& 31)) := hIr
    subst hIr
    refine v_iload_n C 3 dM_reached_6 rfl rfl ?_
    refine v_aload_n C 0 dM_reached_7 rfl rfl ?_
    refine v_get C (T := TcM) (N := 18) (ci := 2) (v := .int (F 0)) inM_reached_M 0 rfl rfl 0 (by decide) (by decide +kernel) rfl rfl dM_reached_8 ?_
    refine v_top (y := nI P) hp ?_
    refine v_icmp_ge C dM_reached_11 (tgt := 57) (by decide) (fun _ => ?_) (fun h => absurd (nI_le (a := P) (b := P) (by omega) (by omega)) h)
    refine v_iload_n C 2 dM_reached_57 rfl rfl ?_
    exact v_irr C hr (by unfold mReached; rfl) dM_reached_58
set_option maxHeartbeats 4000000 in
set_option maxRecDepth 100000 in
theorem c_mIsOpen (l : Launch) (D : va_G) (cI cZ cJ : ClassId) (b : Nat → Nat) (F : FT) (a : AT) (P : Nat) (x : Int32) (hp : F 0 = nI P) (hp6 : P ≤ 6) : Kr l yM_isOpen wM_isOpen ({ frames := 1, cells := 0, slots := 0, locals := 21 } : Room) D vwCl (tyG cI cZ cJ) [.ref (b 0), .int x] (wM cI cZ b F a) (mIsOpen F a P x) := by
  intro sz
  refine v_ent (cc := bM_isOpen) (maxL := 5) (ret := (some .boolean)) (Qc := (fun _ _ st oc t => oc = .returned (some (.int (mIsOpen F a P x))) ∧ t.heap = st.heap)) (fr := (fun _ _ => False)) (own := RcM) rfl (by decide) rfl (Nat.le_of_ble_eq_true rfl) rfl ?_
  intro p e s m args below meth c A C hr _
  refine v_iload_n C 1 dM_isOpen_0 rfl rfl ?_
  refine v_istore_n C (lv' := [(0, .ref (b 0)), (1, .int x), (2, .int x)]) [1, 2, 0] dM_isOpen_1 rfl (by decide) rfl ?_
  refine v_iconst C (v := 0) dM_isOpen_2 (by decide) ?_
  refine v_istore_n C (lv' := [(0, .ref (b 0)), (1, .int x), (2, .int x), (3, .int 0)]) [1, 2, 3, 0] dM_isOpen_3 rfl (by decide) rfl ?_
  refine v_loop1 P (fun (r : Nat) (u : Int32) => wM cI cZ b F a) (fun (r : Nat) (u : Int32) => [(0, .ref (b 0)), (1, .int x), (2, .int u), (3, .int (nI r))]) (fun (kr r : Nat) (u : Int32) => mIsOpenL F a P x kr r u = mIsOpenL F a P x P 0 x) ?_ ?_ P 0 x (by omega) rfl
  · skip
    intro kr r u hkr hIr ihr
    have hIr : mIsOpenL F a P x (kr + 1) r u = mIsOpenL F a P x P 0 x := hIr
    refine v_as (w' := wM cI cZ b F a) (lv' := [(0, .ref (b 0)), (1, .int x), (2, .int u), (3, .int (nI r))]) rfl rfl ?_
    refine v_iload_n C 3 dM_isOpen_4 rfl rfl ?_
    refine v_aload_n C 0 dM_isOpen_5 rfl rfl ?_
    refine v_get C (T := TcM) (N := 18) (ci := 2) (v := .int (F 0)) inM_isOpen_M 0 rfl rfl 0 (by decide) (by decide +kernel) rfl rfl dM_isOpen_6 ?_
    refine v_top (y := nI P) hp ?_
    refine v_icmp_ge C dM_isOpen_9 (tgt := 66) (by decide) (fun h => absurd h (nI_ge (a := r) (b := P) (by omega) (by omega))) (fun _ => ?_)
    refine v_iconst C (v := 0) dM_isOpen_12 (by decide) ?_
    refine v_istore C (lv' := [(0, .ref (b 0)), (1, .int x), (2, .int u), (3, .int (nI r)), (4, .int 0)]) [1, 2, 3, 4, 0] dM_isOpen_13 (by decide) rfl ?_
    refine v_loop1 P (fun (qq : Nat) (v : Int32) => wM cI cZ b F a) (fun (qq : Nat) (v : Int32) => [(0, .ref (b 0)), (1, .int x), (2, .int v), (3, .int (nI r)), (4, .int (nI qq))]) (fun (kqq qq : Nat) (v : Int32) => mIsOpenI F a P x kqq qq v = mIsOpenI F a P x P 0 u) ?_ ?_ P 0 u (by omega) rfl
    · skip
      intro kqq qq v hkqq hIqq ihqq
      have hIqq : mIsOpenI F a P x (kqq + 1) qq v = mIsOpenI F a P x P 0 u := hIqq
      refine v_as (w' := wM cI cZ b F a) (lv' := [(0, .ref (b 0)), (1, .int x), (2, .int v), (3, .int (nI r)), (4, .int (nI qq))]) rfl rfl ?_
      refine v_iload C 4 dM_isOpen_15 rfl ?_
      refine v_aload_n C 0 dM_isOpen_17 rfl rfl ?_
      refine v_get C (T := TcM) (N := 18) (ci := 2) (v := .int (F 0)) inM_isOpen_M 0 rfl rfl 0 (by decide) (by decide +kernel) rfl rfl dM_isOpen_18 ?_
      refine v_top (y := nI P) hp ?_
      refine v_icmp_ge C dM_isOpen_21 (tgt := 60) (by decide) (fun h => absurd h (nI_ge (a := qq) (b := P) (by omega) (by omega))) (fun _ => ?_)
      refine v_iload_n C 2 dM_isOpen_24 rfl rfl ?_
      refine v_iload C 4 dM_isOpen_25 rfl ?_
      refine v_cSr0 (As := [.int v, .int (nI qq)]) C (c_mHas l D cI cZ cJ v (nI qq)) (va_cwS 2 C.2.2.2.2.1 gM_isOpen_M_has rfl rfl rfl (by decide +kernel) ⟨Nat.le_of_ble_eq_true rfl, Nat.le_of_ble_eq_true rfl⟩) rfl rfl (Nat.le_of_ble_eq_true rfl) ⟨Nat.zero_le _, Nat.zero_le _⟩ dM_isOpen_27 ?_
      refine v_if_eq C dM_isOpen_30 (tgt := 54) (by decide) (fun h1 => ?_) (fun h1 => ?_)
      · skip
        refine v_iinc C (v := nI (qq + 1)) (lv' := [(0, .ref (b 0)), (1, .int x), (2, .int v), (3, .int (nI r)), (4, .int (nI (qq + 1)))]) 4 [1, 2, 3, 4, 0] dM_isOpen_54 rfl (nI_1 qq) (by decide) rfl ?_
        refine v_goto C dM_isOpen_57 (tgt := 15) (by decide) ?_
        have hL : mIsOpenI F a P x kqq (qq + 1) v = mIsOpenI F a P x P 0 u := (by rw [← hIqq]; simp only [mIsOpenI]; rw [if_pos h1])
        exact ihqq v hL
      · skip
        refine v_aload_n C 0 dM_isOpen_33 rfl rfl ?_
        refine v_get C (T := TcM) (N := 18) (ci := 2) (v := .ref (b 6)) inM_isOpen_M 0 rfl rfl 15 (by decide) (by decide +kernel) rfl rfl dM_isOpen_34 ?_
        refine v_iload C 4 dM_isOpen_37 rfl ?_
        refine v_iald C 6 0 (f := a 15) (y := (a 15) qq) (j := qq) rfl rfl (nI_clamp (by omega)) rfl (vp_in_nI (by omega) (by decide)) dM_isOpen_39 ?_
        refine v_iload_n C 2 dM_isOpen_40 rfl rfl ?_
        refine v_iand C dM_isOpen_41 ?_
        refine v_if_ne C dM_isOpen_42 (tgt := 54) (by decide) (fun h2 => ?_) (fun h2 => ?_)
        · skip
          refine v_iinc C (v := nI (qq + 1)) (lv' := [(0, .ref (b 0)), (1, .int x), (2, .int v), (3, .int (nI r)), (4, .int (nI (qq + 1)))]) 4 [1, 2, 3, 4, 0] dM_isOpen_54 rfl (nI_1 qq) (by decide) rfl ?_
          refine v_goto C dM_isOpen_57 (tgt := 15) (by decide) ?_
          have hL : mIsOpenI F a P x kqq (qq + 1) v = mIsOpenI F a P x P 0 u := (by rw [← hIqq]; simp only [mIsOpenI]; rw [if_neg h1, if_neg h2])
          exact ihqq v hL
        · skip
          refine v_iload_n C 2 dM_isOpen_45 rfl rfl ?_
          refine v_iconst C (v := 1) dM_isOpen_46 (by decide) ?_
          refine v_iload C 4 dM_isOpen_47 rfl ?_
          refine v_ishl C dM_isOpen_49 ?_
          refine v_iconst C (v := (-1)) dM_isOpen_50 (by decide) ?_
          refine v_ixor C dM_isOpen_51 ?_
          refine v_iand C dM_isOpen_52 ?_
          refine v_istore_n C (lv' := [(0, .ref (b 0)), (1, .int x), (2, .int (v &&& (((1 : Int32) <<< ((nI qq) &&& 31)) ^^^ ((-1) : Int32)))), (3, .int (nI r)), (4, .int (nI qq))]) [1, 2, 0, 3, 4] dM_isOpen_53 rfl (by decide) rfl ?_
          refine v_iinc C (v := nI (qq + 1)) (lv' := [(0, .ref (b 0)), (1, .int x), (2, .int (v &&& (((1 : Int32) <<< ((nI qq) &&& 31)) ^^^ ((-1) : Int32)))), (3, .int (nI r)), (4, .int (nI (qq + 1)))]) 4 [1, 2, 3, 4, 0] dM_isOpen_54 rfl (nI_1 qq) (by decide) rfl ?_
          refine v_goto C dM_isOpen_57 (tgt := 15) (by decide) ?_
          have hL : mIsOpenI F a P x kqq (qq + 1) (v &&& (((1 : Int32) <<< ((nI qq) &&& 31)) ^^^ ((-1) : Int32))) = mIsOpenI F a P x P 0 u := (by rw [← hIqq]; simp only [mIsOpenI]; rw [if_neg h1, if_pos h2])
          exact ihqq (v &&& (((1 : Int32) <<< ((nI qq) &&& 31)) ^^^ ((-1) : Int32))) hL
    · skip
      intro v hIqq
      have hIqq : mIsOpenI F a P x 0 P v = mIsOpenI F a P x P 0 u := hIqq
      refine v_as (w' := wM cI cZ b F a) (lv' := [(0, .ref (b 0)), (1, .int x), (2, .int v), (3, .int (nI r)), (4, .int (nI P))]) rfl rfl ?_
      have hIqq : v = mIsOpenI F a P x P 0 u := hIqq
      subst hIqq
      refine v_iload C 4 dM_isOpen_15 rfl ?_
      refine v_aload_n C 0 dM_isOpen_17 rfl rfl ?_
      refine v_get C (T := TcM) (N := 18) (ci := 2) (v := .int (F 0)) inM_isOpen_M 0 rfl rfl 0 (by decide) (by decide +kernel) rfl rfl dM_isOpen_18 ?_
      refine v_top (y := nI P) hp ?_
      refine v_icmp_ge C dM_isOpen_21 (tgt := 60) (by decide) (fun _ => ?_) (fun h => absurd (nI_le (a := P) (b := P) (by omega) (by omega)) h)
      refine v_iinc C (v := nI (r + 1)) (lv' := [(0, .ref (b 0)), (1, .int x), (2, .int (mIsOpenI F a P x P 0 u)), (3, .int (nI (r + 1))), (4, .int (nI P))]) 3 [1, 2, 3, 0, 4] dM_isOpen_60 rfl (nI_1 r) (by decide) rfl ?_
      refine v_goto C dM_isOpen_63 (tgt := 4) (by decide) ?_
      refine v_loc (lv' := [(0, .ref (b 0)), (1, .int x), (2, .int (mIsOpenI F a P x P 0 u)), (3, .int (nI (r + 1)))]) [0, 1, 2, 3] rfl ?_
      have hL : mIsOpenL F a P x kr (r + 1) (mIsOpenI F a P x P 0 u) = mIsOpenL F a P x P 0 x := (by rw [← hIr]; simp only [mIsOpenL])
      exact ihr (mIsOpenI F a P x P 0 u) hL
  · skip
    intro u hIr
    have hIr : mIsOpenL F a P x 0 P u = mIsOpenL F a P x P 0 x := hIr
    refine v_as (w' := wM cI cZ b F a) (lv' := [(0, .ref (b 0)), (1, .int x), (2, .int u), (3, .int (nI P))]) rfl rfl ?_
    have hIr : u = mIsOpenL F a P x P 0 x := hIr
    subst hIr
    refine v_iload_n C 3 dM_isOpen_4 rfl rfl ?_
    refine v_aload_n C 0 dM_isOpen_5 rfl rfl ?_
    refine v_get C (T := TcM) (N := 18) (ci := 2) (v := .int (F 0)) inM_isOpen_M 0 rfl rfl 0 (by decide) (by decide +kernel) rfl rfl dM_isOpen_6 ?_
    refine v_top (y := nI P) hp ?_
    refine v_icmp_ge C dM_isOpen_9 (tgt := 66) (by decide) (fun _ => ?_) (fun h => absurd (nI_le (a := P) (b := P) (by omega) (by omega)) h)
    refine v_iload_n C 2 dM_isOpen_66 rfl rfl ?_
    refine v_if_ne C dM_isOpen_67 (tgt := 74) (by decide) (fun h3 => ?_) (fun h3 => ?_)
    · skip
      refine v_iconst C (v := 0) dM_isOpen_74 (by decide) ?_
      exact v_zrr C hr (by decide) (by unfold mIsOpen; rw [if_neg h3]) dM_isOpen_75
    · skip
      refine v_iconst C (v := 1) dM_isOpen_70 (by decide) ?_
      refine v_goto C dM_isOpen_71 (tgt := 75) (by decide) ?_
      exact v_zrr C hr (by decide) (by unfold mIsOpen; rw [if_pos h3]) dM_isOpen_75
set_option maxHeartbeats 4000000 in
set_option maxRecDepth 100000 in
theorem c_mGreat (l : Launch) (D : va_G) (cI cZ cJ : ClassId) (b : Nat → Nat) (F : FT) (a : AT) (P : Nat) (hp : F 0 = nI P) (hp6 : P ≤ 6) : Ki l yM_greatest wM_greatest ({ frames := 1, cells := 0, slots := 0, locals := 22 } : Room) D vwCl (tyG cI cZ cJ) [.ref (b 0)] (wM cI cZ b F a) ((mGreat F a P).1) (wM cI cZ b F ((mGreat F a P).2)) := by
  intro sz
  refine v_ent (cc := bM_greatest) (maxL := 6) (ret := (some .int)) (Qc := (fun A => va_Qi (fun (x9 : Int32) (_ : Unit) => x9 = (mGreat F a P).1) (fun _ => wB D vwCl (tyG cI cZ cJ) A (wM cI cZ b F ((mGreat F a P).2))) A)) (fr := (fun A => A)) (own := RcM) rfl (by decide) rfl (Nat.le_of_ble_eq_true rfl) rfl ?_
  intro p e s m args below meth c A C hr _
  refine v_free ?_
  have hPP := pow_P hp6
  refine v_iconst C (v := 0) dM_greatest_0 (by decide) ?_
  refine v_istore_n C (lv' := [(0, .ref (b 0)), (1, .int 0)]) [1, 0] dM_greatest_1 rfl (by decide) rfl ?_
  refine v_iconst C (v := 1) dM_greatest_2 (by decide) ?_
  refine v_istore_n C (lv' := [(0, .ref (b 0)), (1, .int 0), (2, .int 1)]) [1, 2, 0] dM_greatest_3 rfl (by decide) rfl ?_
  refine v_loop2 (2 ^ P) (fun (ss : Nat) (u : Int32) (a1 : AT) => wM cI cZ b F a1) (fun (ss : Nat) (u : Int32) (a1 : AT) => [(0, .ref (b 0)), (1, .int u), (2, .int (nI ss))]) (fun (kss ss : Nat) (u : Int32) (a1 : AT) => mGreatL F P kss ss u a1 = mGreatL F P (2 ^ P - 1) 1 0 a) ?_ ?_ (2 ^ P - 1) 1 0 a (by omega) rfl
  · skip
    intro kss ss u a1 hkss hIss ihss
    have hIss : mGreatL F P (kss + 1) ss u a1 = mGreatL F P (2 ^ P - 1) 1 0 a := hIss
    refine v_as (w' := wM cI cZ b F a1) (lv' := [(0, .ref (b 0)), (1, .int u), (2, .int (nI ss))]) rfl rfl ?_
    refine v_iload_n C 2 dM_greatest_4 rfl rfl ?_
    refine v_iconst C (v := 1) dM_greatest_5 (by decide) ?_
    refine v_aload_n C 0 dM_greatest_6 rfl rfl ?_
    refine v_get C (T := TcM) (N := 18) (ci := 2) (v := .int (F 0)) inM_greatest_M 0 rfl rfl 0 (by decide) (by decide +kernel) rfl rfl dM_greatest_7 ?_
    refine v_top (y := nI P) hp ?_
    refine v_ishl C dM_greatest_10 ?_
    refine v_top (y := nI (2 ^ P)) (shl_P hp6) ?_
    refine v_icmp_ge C dM_greatest_11 (tgt := 197) (by decide) (fun h => absurd h (nI_ge (a := ss) (b := 2 ^ P) (by omega) (by omega))) (fun _ => ?_)
    refine v_iconst C (v := 0) dM_greatest_14 (by decide) ?_
    refine v_istore_n C (lv' := [(0, .ref (b 0)), (1, .int u), (2, .int (nI ss)), (3, .int 0)]) [1, 2, 3, 0] dM_greatest_15 rfl (by decide) rfl ?_
    refine v_loop2 P (fun (pp : Nat) (v : Int32) (a2 : AT) => wM cI cZ b F a2) (fun (pp : Nat) (v : Int32) (a2 : AT) => [(0, .ref (b 0)), (1, .int v), (2, .int (nI ss)), (3, .int (nI pp))]) (fun (kpp pp : Nat) (v : Int32) (a2 : AT) => mGreatM F P ss kpp pp v a2 = mGreatM F P ss P 0 u a1) ?_ ?_ P 0 u a1 (by omega) rfl
    · skip
      intro kpp pp v a2 hkpp hIpp ihpp
      have hIpp : mGreatM F P ss (kpp + 1) pp v a2 = mGreatM F P ss P 0 u a1 := hIpp
      refine v_as (w' := wM cI cZ b F a2) (lv' := [(0, .ref (b 0)), (1, .int v), (2, .int (nI ss)), (3, .int (nI pp))]) rfl rfl ?_
      refine v_iload_n C 3 dM_greatest_16 rfl rfl ?_
      refine v_aload_n C 0 dM_greatest_17 rfl rfl ?_
      refine v_get C (T := TcM) (N := 18) (ci := 2) (v := .int (F 0)) inM_greatest_M 0 rfl rfl 0 (by decide) (by decide +kernel) rfl rfl dM_greatest_18 ?_
      refine v_top (y := nI P) hp ?_
      refine v_icmp_ge C dM_greatest_21 (tgt := 191) (by decide) (fun h => absurd h (nI_ge (a := pp) (b := P) (by omega) (by omega))) (fun _ => ?_)
      refine v_cut (pj := 38) (wj := wM cI cZ b F a2) (lj := [(0, .ref (b 0)), (1, .int v), (2, .int (nI ss)), (3, .int (nI pp)), (4, .int (mCan0 ss pp))]) ?_ (fun hJ => ?_)
      · skip
        refine v_iconst C (v := 0) dM_greatest_38 (by decide) ?_
        refine v_istore C (lv' := [(0, .ref (b 0)), (1, .int v), (2, .int (nI ss)), (3, .int (nI pp)), (4, .int (mCan0 ss pp)), (5, .int 0)]) [1, 2, 3, 4, 5, 0] dM_greatest_39 (by decide) rfl ?_
        refine v_loop1 P (fun (qq : Nat) (can : Int32) => wM cI cZ b F a2) (fun (qq : Nat) (can : Int32) => [(0, .ref (b 0)), (1, .int v), (2, .int (nI ss)), (3, .int (nI pp)), (4, .int can), (5, .int (nI qq))]) (fun (kqq qq : Nat) (can : Int32) => mGreatI F a2 P ss pp kqq qq can = mGreatI F a2 P ss pp P 0 (mCan0 ss pp)) ?_ ?_ P 0 (mCan0 ss pp) (by omega) rfl
        · skip
          intro kqq qq can hkqq hIqq ihqq
          have hIqq : mGreatI F a2 P ss pp (kqq + 1) qq can = mGreatI F a2 P ss pp P 0 (mCan0 ss pp) := hIqq
          refine v_as (w' := wM cI cZ b F a2) (lv' := [(0, .ref (b 0)), (1, .int v), (2, .int (nI ss)), (3, .int (nI pp)), (4, .int can), (5, .int (nI qq))]) rfl rfl ?_
          refine v_iload C 5 dM_greatest_41 rfl ?_
          refine v_aload_n C 0 dM_greatest_43 rfl rfl ?_
          refine v_get C (T := TcM) (N := 18) (ci := 2) (v := .int (F 0)) inM_greatest_M 0 rfl rfl 0 (by decide) (by decide +kernel) rfl rfl dM_greatest_44 ?_
          refine v_top (y := nI P) hp ?_
          refine v_icmp_ge C dM_greatest_47 (tgt := 126) (by decide) (fun h => absurd h (nI_ge (a := qq) (b := P) (by omega) (by omega))) (fun _ => ?_)
          refine v_iload_n C 2 dM_greatest_50 rfl rfl ?_
          refine v_iload_n C 3 dM_greatest_51 rfl rfl ?_
          refine v_cSr0 (As := [.int (nI ss), .int (nI pp)]) C (c_mHas l D cI cZ cJ (nI ss) (nI pp)) (va_cwS 2 C.2.2.2.2.1 gM_greatest_M_has rfl rfl rfl (by decide +kernel) ⟨Nat.le_of_ble_eq_true rfl, Nat.le_of_ble_eq_true rfl⟩) rfl rfl (Nat.le_of_ble_eq_true rfl) ⟨Nat.zero_le _, Nat.zero_le _⟩ dM_greatest_52 ?_
          refine v_if_eq C dM_greatest_55 (tgt := 126) (by decide) (fun h1 => ?_) (fun h1 => ?_)
          · skip
            have hX : can = mGreatI F a2 P ss pp P 0 (mCan0 ss pp) := (by rw [← hIqq]; simp only [mGreatI]; rw [if_pos h1])
            rw [show can = mGreatI F a2 P ss pp P 0 (mCan0 ss pp) from hX]
            refine v_aload_n C 0 dM_greatest_126 rfl rfl ?_
            refine v_get C (T := TcM) (N := 18) (ci := 2) (v := .ref (b 7)) inM_greatest_M 0 rfl rfl 16 (by decide) (by decide +kernel) rfl rfl dM_greatest_127 ?_
            refine v_bipush C (v := 6) dM_greatest_130 (by decide) ?_
            refine v_iload_n C 2 dM_greatest_132 rfl rfl ?_
            refine v_imul C dM_greatest_133 ?_
            refine v_iload_n C 3 dM_greatest_134 rfl rfl ?_
            refine v_iadd C dM_greatest_135 ?_
            refine v_iload_n C 2 dM_greatest_136 rfl rfl ?_
            refine v_iload_n C 3 dM_greatest_137 rfl rfl ?_
            refine v_cSr0 (As := [.int (nI ss), .int (nI pp)]) C (c_mHas l D cI cZ cJ (nI ss) (nI pp)) (va_cwS 2 C.2.2.2.2.1 gM_greatest_M_has rfl rfl rfl (by decide +kernel) ⟨Nat.le_of_ble_eq_true rfl, Nat.le_of_ble_eq_true rfl⟩) rfl rfl (Nat.le_of_ble_eq_true rfl) ⟨Nat.zero_le _, Nat.zero_le _⟩ dM_greatest_138 ?_
            refine v_if_eq C dM_greatest_141 (tgt := 153) (by decide) (fun _ => ?_) (fun h => absurd h1 h)
            refine v_iconst C (v := 0) dM_greatest_153 (by decide) ?_
            obtain ⟨zz1, hzz1⟩ : ∃ z9, upd (a2 16) ((((6 : Int32) * (nI ss)) + (nI pp)).toNatClampNeg) 0 = z9 := ⟨_, rfl⟩
            refine v_zast C 7 1 (f := a2 16) (j := (((6 : Int32) * (nI ss)) + (nI pp)).toNatClampNeg) (y := 0) (f1 := zz1) rfl rfl rfl (by decide) hzz1 (vp_ends2 (by omega) (by omega)) dM_greatest_154 (w1 := wM cI cZ b F (updA a2 16 zz1)) rfl ?_
            refine v_iload_n C 2 dM_greatest_155 rfl rfl ?_
            refine v_iload_n C 3 dM_greatest_156 rfl rfl ?_
            refine v_cSr0 (As := [.int (nI ss), .int (nI pp)]) C (c_mHas l D cI cZ cJ (nI ss) (nI pp)) (va_cwS 2 C.2.2.2.2.1 gM_greatest_M_has rfl rfl rfl (by decide +kernel) ⟨Nat.le_of_ble_eq_true rfl, Nat.le_of_ble_eq_true rfl⟩) rfl rfl (Nat.le_of_ble_eq_true rfl) ⟨Nat.zero_le _, Nat.zero_le _⟩ dM_greatest_157 ?_
            refine v_if_eq C dM_greatest_160 (tgt := 185) (by decide) (fun _ => ?_) (fun h => absurd h1 h)
            refine v_iinc C (v := nI (pp + 1)) (lv' := [(0, .ref (b 0)), (1, .int v), (2, .int (nI ss)), (3, .int (nI (pp + 1))), (4, .int (mGreatI F a2 P ss pp P 0 (mCan0 ss pp))), (5, .int (nI qq))]) 3 [1, 2, 3, 0, 4, 5] dM_greatest_185 rfl (nI_1 pp) (by decide) rfl ?_
            refine v_goto C dM_greatest_188 (tgt := 16) (by decide) ?_
            refine v_loc (lv' := [(0, .ref (b 0)), (1, .int v), (2, .int (nI ss)), (3, .int (nI (pp + 1)))]) [0, 1, 2, 3] rfl ?_
            have hL : mGreatM F P ss kpp (pp + 1) v (updA a2 16 zz1) = mGreatM F P ss P 0 u a1 := (by rw [← hIpp]; simp only [mGreatM]; rw [hzz1, if_pos h1])
            exact ihpp v (updA a2 16 zz1) hL
          · skip
            refine v_iload C 4 dM_greatest_58 rfl ?_
            refine v_if_ne C dM_greatest_60 (tgt := 113) (by decide) (fun h2 => ?_) (fun h2 => ?_)
            · skip
              refine v_iconst C (v := 1) dM_greatest_113 (by decide) ?_
              refine v_goto C dM_greatest_114 (tgt := 118) (by decide) ?_
              refine v_istore C (lv' := [(0, .ref (b 0)), (1, .int v), (2, .int (nI ss)), (3, .int (nI pp)), (4, .int 1), (5, .int (nI qq))]) [1, 2, 3, 4, 0, 5] dM_greatest_118 (by decide) rfl ?_
              refine v_iinc C (v := nI (qq + 1)) (lv' := [(0, .ref (b 0)), (1, .int v), (2, .int (nI ss)), (3, .int (nI pp)), (4, .int 1), (5, .int (nI (qq + 1)))]) 5 [1, 2, 3, 4, 5, 0] dM_greatest_120 rfl (nI_1 qq) (by decide) rfl ?_
              refine v_goto C dM_greatest_123 (tgt := 41) (by decide) ?_
              have hL : mGreatI F a2 P ss pp kqq (qq + 1) 1 = mGreatI F a2 P ss pp P 0 (mCan0 ss pp) := (by rw [← hIqq]; simp only [mGreatI]; rw [if_neg h1, if_neg h2])
              exact ihqq 1 hL
            · skip
              refine v_iload C 5 dM_greatest_63 rfl ?_
              refine v_iload_n C 3 dM_greatest_65 rfl rfl ?_
              refine v_icmp_eq C dM_greatest_66 (tgt := 117) (by decide) (fun h3 => ?_) (fun h3 => ?_)
              · skip
                refine v_iconst C (v := 0) dM_greatest_117 (by decide) ?_
                refine v_istore C (lv' := [(0, .ref (b 0)), (1, .int v), (2, .int (nI ss)), (3, .int (nI pp)), (4, .int 0), (5, .int (nI qq))]) [1, 2, 3, 4, 0, 5] dM_greatest_118 (by decide) rfl ?_
                refine v_iinc C (v := nI (qq + 1)) (lv' := [(0, .ref (b 0)), (1, .int v), (2, .int (nI ss)), (3, .int (nI pp)), (4, .int 0), (5, .int (nI (qq + 1)))]) 5 [1, 2, 3, 4, 5, 0] dM_greatest_120 rfl (nI_1 qq) (by decide) rfl ?_
                refine v_goto C dM_greatest_123 (tgt := 41) (by decide) ?_
                have hL : mGreatI F a2 P ss pp kqq (qq + 1) 0 = mGreatI F a2 P ss pp P 0 (mCan0 ss pp) := (by rw [← hIqq]; simp only [mGreatI]; rw [if_neg h1, if_pos h2, if_pos h3])
                exact ihqq 0 hL
              · skip
                refine v_iload_n C 2 dM_greatest_69 rfl rfl ?_
                refine v_iload C 5 dM_greatest_70 rfl ?_
                refine v_cSr0 (As := [.int (nI ss), .int (nI qq)]) C (c_mHas l D cI cZ cJ (nI ss) (nI qq)) (va_cwS 2 C.2.2.2.2.1 gM_greatest_M_has rfl rfl rfl (by decide +kernel) ⟨Nat.le_of_ble_eq_true rfl, Nat.le_of_ble_eq_true rfl⟩) rfl rfl (Nat.le_of_ble_eq_true rfl) ⟨Nat.zero_le _, Nat.zero_le _⟩ dM_greatest_72 ?_
                refine v_if_eq C dM_greatest_75 (tgt := 117) (by decide) (fun h4 => ?_) (fun h4 => ?_)
                · skip
                  refine v_iconst C (v := 0) dM_greatest_117 (by decide) ?_
                  refine v_istore C (lv' := [(0, .ref (b 0)), (1, .int v), (2, .int (nI ss)), (3, .int (nI pp)), (4, .int 0), (5, .int (nI qq))]) [1, 2, 3, 4, 0, 5] dM_greatest_118 (by decide) rfl ?_
                  refine v_iinc C (v := nI (qq + 1)) (lv' := [(0, .ref (b 0)), (1, .int v), (2, .int (nI ss)), (3, .int (nI pp)), (4, .int 0), (5, .int (nI (qq + 1)))]) 5 [1, 2, 3, 4, 5, 0] dM_greatest_120 rfl (nI_1 qq) (by decide) rfl ?_
                  refine v_goto C dM_greatest_123 (tgt := 41) (by decide) ?_
                  have hL : mGreatI F a2 P ss pp kqq (qq + 1) 0 = mGreatI F a2 P ss pp P 0 (mCan0 ss pp) := (by rw [← hIqq]; simp only [mGreatI]; rw [if_neg h1, if_pos h2, if_neg h3, if_pos h4])
                  exact ihqq 0 hL
                · skip
                  refine v_aload_n C 0 dM_greatest_78 rfl rfl ?_
                  refine v_get C (T := TcM) (N := 18) (ci := 2) (v := .ref (b 6)) inM_greatest_M 0 rfl rfl 15 (by decide) (by decide +kernel) rfl rfl dM_greatest_79 ?_
                  refine v_iload C 5 dM_greatest_82 rfl ?_
                  refine v_iald C 6 0 (f := a2 15) (y := (a2 15) qq) (j := qq) rfl rfl (nI_clamp (by omega)) rfl (vp_in_nI (by omega) (by decide)) dM_greatest_84 ?_
                  refine v_iload_n C 3 dM_greatest_85 rfl rfl ?_
                  refine v_cSr0 (As := [.int ((a2 15) qq), .int (nI pp)]) C (c_mHas l D cI cZ cJ ((a2 15) qq) (nI pp)) (va_cwS 2 C.2.2.2.2.1 gM_greatest_M_has rfl rfl rfl (by decide +kernel) ⟨Nat.le_of_ble_eq_true rfl, Nat.le_of_ble_eq_true rfl⟩) rfl rfl (Nat.le_of_ble_eq_true rfl) ⟨Nat.zero_le _, Nat.zero_le _⟩ dM_greatest_86 ?_
                  refine v_if_eq C dM_greatest_89 (tgt := 117) (by decide) (fun h5 => ?_) (fun h5 => ?_)
                  · skip
                    refine v_iconst C (v := 0) dM_greatest_117 (by decide) ?_
                    refine v_istore C (lv' := [(0, .ref (b 0)), (1, .int v), (2, .int (nI ss)), (3, .int (nI pp)), (4, .int 0), (5, .int (nI qq))]) [1, 2, 3, 4, 0, 5] dM_greatest_118 (by decide) rfl ?_
                    refine v_iinc C (v := nI (qq + 1)) (lv' := [(0, .ref (b 0)), (1, .int v), (2, .int (nI ss)), (3, .int (nI pp)), (4, .int 0), (5, .int (nI (qq + 1)))]) 5 [1, 2, 3, 4, 5, 0] dM_greatest_120 rfl (nI_1 qq) (by decide) rfl ?_
                    refine v_goto C dM_greatest_123 (tgt := 41) (by decide) ?_
                    have hL : mGreatI F a2 P ss pp kqq (qq + 1) 0 = mGreatI F a2 P ss pp P 0 (mCan0 ss pp) := (by rw [← hIqq]; simp only [mGreatI]; rw [if_neg h1, if_pos h2, if_neg h3, if_neg h4, if_pos h5])
                    exact ihqq 0 hL
                  · skip
                    refine v_aload_n C 0 dM_greatest_92 rfl rfl ?_
                    refine v_get C (T := TcM) (N := 18) (ci := 2) (v := .ref (b 7)) inM_greatest_M 0 rfl rfl 16 (by decide) (by decide +kernel) rfl rfl dM_greatest_93 ?_
                    refine v_bipush C (v := 6) dM_greatest_96 (by decide) ?_
                    refine v_iload_n C 2 dM_greatest_98 rfl rfl ?_
                    refine v_iconst C (v := 1) dM_greatest_99 (by decide) ?_
                    refine v_iload_n C 3 dM_greatest_100 rfl rfl ?_
                    refine v_ishl C dM_greatest_101 ?_
                    refine v_iconst C (v := (-1)) dM_greatest_102 (by decide) ?_
                    refine v_ixor C dM_greatest_103 ?_
                    refine v_iand C dM_greatest_104 ?_
                    refine v_imul C dM_greatest_105 ?_
                    refine v_iload C 5 dM_greatest_106 rfl ?_
                    refine v_iadd C dM_greatest_108 ?_
                    refine v_zald C 7 1 (f := a2 16) (y := (a2 16) ((((6 : Int32) * ((nI ss) &&& (((1 : Int32) <<< ((nI pp) &&& 31)) ^^^ ((-1) : Int32)))) + (nI qq)).toNatClampNeg)) (j := (((6 : Int32) * ((nI ss) &&& (((1 : Int32) <<< ((nI pp) &&& 31)) ^^^ ((-1) : Int32)))) + (nI qq)).toNatClampNeg) rfl rfl rfl rfl (vp_ends1 (by omega) (by omega) (by omega)) dM_greatest_109 ?_
                    refine v_if_eq C dM_greatest_110 (tgt := 117) (by decide) (fun h6 => ?_) (fun h6 => ?_)
                    · skip
                      refine v_iconst C (v := 0) dM_greatest_117 (by decide) ?_
                      refine v_istore C (lv' := [(0, .ref (b 0)), (1, .int v), (2, .int (nI ss)), (3, .int (nI pp)), (4, .int 0), (5, .int (nI qq))]) [1, 2, 3, 4, 0, 5] dM_greatest_118 (by decide) rfl ?_
                      refine v_iinc C (v := nI (qq + 1)) (lv' := [(0, .ref (b 0)), (1, .int v), (2, .int (nI ss)), (3, .int (nI pp)), (4, .int 0), (5, .int (nI (qq + 1)))]) 5 [1, 2, 3, 4, 5, 0] dM_greatest_120 rfl (nI_1 qq) (by decide) rfl ?_
                      refine v_goto C dM_greatest_123 (tgt := 41) (by decide) ?_
                      have hL : mGreatI F a2 P ss pp kqq (qq + 1) 0 = mGreatI F a2 P ss pp P 0 (mCan0 ss pp) := (by rw [← hIqq]; simp only [mGreatI]; rw [if_neg h1, if_pos h2, if_neg h3, if_neg h4, if_neg h5, if_pos h6])
                      exact ihqq 0 hL
                    · skip
                      refine v_iconst C (v := 1) dM_greatest_113 (by decide) ?_
                      refine v_goto C dM_greatest_114 (tgt := 118) (by decide) ?_
                      refine v_istore C (lv' := [(0, .ref (b 0)), (1, .int v), (2, .int (nI ss)), (3, .int (nI pp)), (4, .int 1), (5, .int (nI qq))]) [1, 2, 3, 4, 0, 5] dM_greatest_118 (by decide) rfl ?_
                      refine v_iinc C (v := nI (qq + 1)) (lv' := [(0, .ref (b 0)), (1, .int v), (2, .int (nI ss)), (3, .int (nI pp)), (4, .int 1), (5, .int (nI (qq + 1)))]) 5 [1, 2, 3, 4, 5, 0] dM_greatest_120 rfl (nI_1 qq) (by decide) rfl ?_
                      refine v_goto C dM_greatest_123 (tgt := 41) (by decide) ?_
                      have hL : mGreatI F a2 P ss pp kqq (qq + 1) 1 = mGreatI F a2 P ss pp P 0 (mCan0 ss pp) := (by rw [← hIqq]; simp only [mGreatI]; rw [if_neg h1, if_pos h2, if_neg h3, if_neg h4, if_neg h5, if_neg h6])
                      exact ihqq 1 hL
        · skip
          intro can hIqq
          have hIqq : mGreatI F a2 P ss pp 0 P can = mGreatI F a2 P ss pp P 0 (mCan0 ss pp) := hIqq
          refine v_as (w' := wM cI cZ b F a2) (lv' := [(0, .ref (b 0)), (1, .int v), (2, .int (nI ss)), (3, .int (nI pp)), (4, .int can), (5, .int (nI P))]) rfl rfl ?_
          have hIqq : can = mGreatI F a2 P ss pp P 0 (mCan0 ss pp) := hIqq
          subst hIqq
          refine v_iload C 5 dM_greatest_41 rfl ?_
          refine v_aload_n C 0 dM_greatest_43 rfl rfl ?_
          refine v_get C (T := TcM) (N := 18) (ci := 2) (v := .int (F 0)) inM_greatest_M 0 rfl rfl 0 (by decide) (by decide +kernel) rfl rfl dM_greatest_44 ?_
          refine v_top (y := nI P) hp ?_
          refine v_icmp_ge C dM_greatest_47 (tgt := 126) (by decide) (fun _ => ?_) (fun h => absurd (nI_le (a := P) (b := P) (by omega) (by omega)) h)
          refine v_aload_n C 0 dM_greatest_126 rfl rfl ?_
          refine v_get C (T := TcM) (N := 18) (ci := 2) (v := .ref (b 7)) inM_greatest_M 0 rfl rfl 16 (by decide) (by decide +kernel) rfl rfl dM_greatest_127 ?_
          refine v_bipush C (v := 6) dM_greatest_130 (by decide) ?_
          refine v_iload_n C 2 dM_greatest_132 rfl rfl ?_
          refine v_imul C dM_greatest_133 ?_
          refine v_iload_n C 3 dM_greatest_134 rfl rfl ?_
          refine v_iadd C dM_greatest_135 ?_
          refine v_iload_n C 2 dM_greatest_136 rfl rfl ?_
          refine v_iload_n C 3 dM_greatest_137 rfl rfl ?_
          refine v_cSr0 (As := [.int (nI ss), .int (nI pp)]) C (c_mHas l D cI cZ cJ (nI ss) (nI pp)) (va_cwS 2 C.2.2.2.2.1 gM_greatest_M_has rfl rfl rfl (by decide +kernel) ⟨Nat.le_of_ble_eq_true rfl, Nat.le_of_ble_eq_true rfl⟩) rfl rfl (Nat.le_of_ble_eq_true rfl) ⟨Nat.zero_le _, Nat.zero_le _⟩ dM_greatest_138 ?_
          refine v_if_eq C dM_greatest_141 (tgt := 153) (by decide) (fun h7 => ?_) (fun h7 => ?_)
          · skip
            refine v_iconst C (v := 0) dM_greatest_153 (by decide) ?_
            obtain ⟨zz2, hzz2⟩ : ∃ z9, upd (a2 16) ((((6 : Int32) * (nI ss)) + (nI pp)).toNatClampNeg) 0 = z9 := ⟨_, rfl⟩
            refine v_zast C 7 1 (f := a2 16) (j := (((6 : Int32) * (nI ss)) + (nI pp)).toNatClampNeg) (y := 0) (f1 := zz2) rfl rfl rfl (by decide) hzz2 (vp_ends2 (by omega) (by omega)) dM_greatest_154 (w1 := wM cI cZ b F (updA a2 16 zz2)) rfl ?_
            refine v_iload_n C 2 dM_greatest_155 rfl rfl ?_
            refine v_iload_n C 3 dM_greatest_156 rfl rfl ?_
            refine v_cSr0 (As := [.int (nI ss), .int (nI pp)]) C (c_mHas l D cI cZ cJ (nI ss) (nI pp)) (va_cwS 2 C.2.2.2.2.1 gM_greatest_M_has rfl rfl rfl (by decide +kernel) ⟨Nat.le_of_ble_eq_true rfl, Nat.le_of_ble_eq_true rfl⟩) rfl rfl (Nat.le_of_ble_eq_true rfl) ⟨Nat.zero_le _, Nat.zero_le _⟩ dM_greatest_157 ?_
            refine v_if_eq C dM_greatest_160 (tgt := 185) (by decide) (fun _ => ?_) (fun h => absurd h7 h)
            refine v_iinc C (v := nI (pp + 1)) (lv' := [(0, .ref (b 0)), (1, .int v), (2, .int (nI ss)), (3, .int (nI (pp + 1))), (4, .int (mGreatI F a2 P ss pp P 0 (mCan0 ss pp))), (5, .int (nI P))]) 3 [1, 2, 3, 0, 4, 5] dM_greatest_185 rfl (nI_1 pp) (by decide) rfl ?_
            refine v_goto C dM_greatest_188 (tgt := 16) (by decide) ?_
            refine v_loc (lv' := [(0, .ref (b 0)), (1, .int v), (2, .int (nI ss)), (3, .int (nI (pp + 1)))]) [0, 1, 2, 3] rfl ?_
            have hL : mGreatM F P ss kpp (pp + 1) v (updA a2 16 zz2) = mGreatM F P ss P 0 u a1 := (by rw [← hIpp]; simp only [mGreatM]; rw [hzz2, if_pos h7])
            exact ihpp v (updA a2 16 zz2) hL
          · skip
            refine v_iload C 4 dM_greatest_144 rfl ?_
            refine v_if_eq C dM_greatest_146 (tgt := 153) (by decide) (fun h8 => ?_) (fun h8 => ?_)
            · skip
              refine v_iconst C (v := 0) dM_greatest_153 (by decide) ?_
              obtain ⟨zz3, hzz3⟩ : ∃ z9, upd (a2 16) ((((6 : Int32) * (nI ss)) + (nI pp)).toNatClampNeg) 0 = z9 := ⟨_, rfl⟩
              refine v_zast C 7 1 (f := a2 16) (j := (((6 : Int32) * (nI ss)) + (nI pp)).toNatClampNeg) (y := 0) (f1 := zz3) rfl rfl rfl (by decide) hzz3 (vp_ends2 (by omega) (by omega)) dM_greatest_154 (w1 := wM cI cZ b F (updA a2 16 zz3)) rfl ?_
              refine v_iload_n C 2 dM_greatest_155 rfl rfl ?_
              refine v_iload_n C 3 dM_greatest_156 rfl rfl ?_
              refine v_cSr0 (As := [.int (nI ss), .int (nI pp)]) C (c_mHas l D cI cZ cJ (nI ss) (nI pp)) (va_cwS 2 C.2.2.2.2.1 gM_greatest_M_has rfl rfl rfl (by decide +kernel) ⟨Nat.le_of_ble_eq_true rfl, Nat.le_of_ble_eq_true rfl⟩) rfl rfl (Nat.le_of_ble_eq_true rfl) ⟨Nat.zero_le _, Nat.zero_le _⟩ dM_greatest_157 ?_
              refine v_if_eq C dM_greatest_160 (tgt := 185) (by decide) (fun h => absurd h h7) (fun _ => ?_)
              refine v_iload C 4 dM_greatest_163 rfl ?_
              refine v_if_eq C dM_greatest_165 (tgt := 185) (by decide) (fun _ => ?_) (fun h => absurd h8 h)
              refine v_iinc C (v := nI (pp + 1)) (lv' := [(0, .ref (b 0)), (1, .int v), (2, .int (nI ss)), (3, .int (nI (pp + 1))), (4, .int (mGreatI F a2 P ss pp P 0 (mCan0 ss pp))), (5, .int (nI P))]) 3 [1, 2, 3, 0, 4, 5] dM_greatest_185 rfl (nI_1 pp) (by decide) rfl ?_
              refine v_goto C dM_greatest_188 (tgt := 16) (by decide) ?_
              refine v_loc (lv' := [(0, .ref (b 0)), (1, .int v), (2, .int (nI ss)), (3, .int (nI (pp + 1)))]) [0, 1, 2, 3] rfl ?_
              have hL : mGreatM F P ss kpp (pp + 1) v (updA a2 16 zz3) = mGreatM F P ss P 0 u a1 := (by rw [← hIpp]; simp only [mGreatM]; rw [hzz3, if_neg h7, if_pos h8])
              exact ihpp v (updA a2 16 zz3) hL
            · skip
              refine v_iconst C (v := 1) dM_greatest_149 (by decide) ?_
              refine v_goto C dM_greatest_150 (tgt := 154) (by decide) ?_
              obtain ⟨zz4, hzz4⟩ : ∃ z9, upd (a2 16) ((((6 : Int32) * (nI ss)) + (nI pp)).toNatClampNeg) 1 = z9 := ⟨_, rfl⟩
              refine v_zast C 7 1 (f := a2 16) (j := (((6 : Int32) * (nI ss)) + (nI pp)).toNatClampNeg) (y := 1) (f1 := zz4) rfl rfl rfl (by decide) hzz4 (vp_ends2 (by omega) (by omega)) dM_greatest_154 (w1 := wM cI cZ b F (updA a2 16 zz4)) rfl ?_
              refine v_iload_n C 2 dM_greatest_155 rfl rfl ?_
              refine v_iload_n C 3 dM_greatest_156 rfl rfl ?_
              refine v_cSr0 (As := [.int (nI ss), .int (nI pp)]) C (c_mHas l D cI cZ cJ (nI ss) (nI pp)) (va_cwS 2 C.2.2.2.2.1 gM_greatest_M_has rfl rfl rfl (by decide +kernel) ⟨Nat.le_of_ble_eq_true rfl, Nat.le_of_ble_eq_true rfl⟩) rfl rfl (Nat.le_of_ble_eq_true rfl) ⟨Nat.zero_le _, Nat.zero_le _⟩ dM_greatest_157 ?_
              refine v_if_eq C dM_greatest_160 (tgt := 185) (by decide) (fun h => absurd h h7) (fun _ => ?_)
              refine v_iload C 4 dM_greatest_163 rfl ?_
              refine v_if_eq C dM_greatest_165 (tgt := 185) (by decide) (fun h => absurd h h8) (fun _ => ?_)
              refine v_iload_n C 2 dM_greatest_168 rfl rfl ?_
              refine v_cSr0 (As := [.int (nI ss)]) C (c_mSize l D cI cZ cJ (nI ss)) (va_cwS 1 C.2.2.2.2.1 gM_greatest_M_size rfl rfl rfl (by decide +kernel) ⟨Nat.le_of_ble_eq_true rfl, Nat.le_of_ble_eq_true rfl⟩) rfl rfl (Nat.le_of_ble_eq_true rfl) ⟨Nat.zero_le _, Nat.zero_le _⟩ dM_greatest_169 ?_
              refine v_iconst C (v := 1) dM_greatest_172 (by decide) ?_
              refine v_isub C dM_greatest_173 ?_
              refine v_iload_n C 1 dM_greatest_174 rfl rfl ?_
              refine v_icmp_le C dM_greatest_175 (tgt := 185) (by decide) (fun h9 => ?_) (fun h9 => ?_)
              · skip
                refine v_iinc C (v := nI (pp + 1)) (lv' := [(0, .ref (b 0)), (1, .int v), (2, .int (nI ss)), (3, .int (nI (pp + 1))), (4, .int (mGreatI F a2 P ss pp P 0 (mCan0 ss pp))), (5, .int (nI P))]) 3 [1, 2, 3, 0, 4, 5] dM_greatest_185 rfl (nI_1 pp) (by decide) rfl ?_
                refine v_goto C dM_greatest_188 (tgt := 16) (by decide) ?_
                refine v_loc (lv' := [(0, .ref (b 0)), (1, .int v), (2, .int (nI ss)), (3, .int (nI (pp + 1)))]) [0, 1, 2, 3] rfl ?_
                have hL : mGreatM F P ss kpp (pp + 1) v (updA a2 16 zz4) = mGreatM F P ss P 0 u a1 := (by rw [← hIpp]; simp only [mGreatM]; rw [hzz4, if_neg h7, if_neg h8, if_pos h9])
                exact ihpp v (updA a2 16 zz4) hL
              · skip
                refine v_iload_n C 2 dM_greatest_178 rfl rfl ?_
                refine v_cSr0 (As := [.int (nI ss)]) C (c_mSize l D cI cZ cJ (nI ss)) (va_cwS 1 C.2.2.2.2.1 gM_greatest_M_size rfl rfl rfl (by decide +kernel) ⟨Nat.le_of_ble_eq_true rfl, Nat.le_of_ble_eq_true rfl⟩) rfl rfl (Nat.le_of_ble_eq_true rfl) ⟨Nat.zero_le _, Nat.zero_le _⟩ dM_greatest_179 ?_
                refine v_iconst C (v := 1) dM_greatest_182 (by decide) ?_
                refine v_isub C dM_greatest_183 ?_
                refine v_istore_n C (lv' := [(0, .ref (b 0)), (1, .int ((mSize (nI ss)) - (1 : Int32))), (2, .int (nI ss)), (3, .int (nI pp)), (4, .int (mGreatI F a2 P ss pp P 0 (mCan0 ss pp))), (5, .int (nI P))]) [1, 0, 2, 3, 4, 5] dM_greatest_184 rfl (by decide) rfl ?_
                refine v_iinc C (v := nI (pp + 1)) (lv' := [(0, .ref (b 0)), (1, .int ((mSize (nI ss)) - (1 : Int32))), (2, .int (nI ss)), (3, .int (nI (pp + 1))), (4, .int (mGreatI F a2 P ss pp P 0 (mCan0 ss pp))), (5, .int (nI P))]) 3 [1, 2, 3, 0, 4, 5] dM_greatest_185 rfl (nI_1 pp) (by decide) rfl ?_
                refine v_goto C dM_greatest_188 (tgt := 16) (by decide) ?_
                refine v_loc (lv' := [(0, .ref (b 0)), (1, .int ((mSize (nI ss)) - (1 : Int32))), (2, .int (nI ss)), (3, .int (nI (pp + 1)))]) [0, 1, 2, 3] rfl ?_
                have hL : mGreatM F P ss kpp (pp + 1) ((mSize (nI ss)) - (1 : Int32)) (updA a2 16 zz4) = mGreatM F P ss P 0 u a1 := (by rw [← hIpp]; simp only [mGreatM]; rw [hzz4, if_neg h7, if_neg h8, if_neg h9])
                exact ihpp ((mSize (nI ss)) - (1 : Int32)) (updA a2 16 zz4) hL
      · skip
        refine v_iload_n C 2 dM_greatest_24 rfl rfl ?_
        refine v_iconst C (v := 1) dM_greatest_25 (by decide) ?_
        refine v_iload_n C 3 dM_greatest_26 rfl rfl ?_
        refine v_ishl C dM_greatest_27 ?_
        refine v_icmp_ne C dM_greatest_28 (tgt := 35) (by decide) (fun h10 => ?_) (fun h10 => ?_)
        · skip
          refine v_iconst C (v := 0) dM_greatest_35 (by decide) ?_
          refine v_istore C (lv' := [(0, .ref (b 0)), (1, .int v), (2, .int (nI ss)), (3, .int (nI pp)), (4, .int 0)]) [1, 2, 3, 4, 0] dM_greatest_36 (by decide) rfl ?_
          have hE : mCan0 ss pp = 0 := by unfold mCan0; rw [if_neg h10]
          rw [hE] at hJ
          exact hJ
        · skip
          refine v_iconst C (v := 1) dM_greatest_31 (by decide) ?_
          refine v_goto C dM_greatest_32 (tgt := 36) (by decide) ?_
          refine v_istore C (lv' := [(0, .ref (b 0)), (1, .int v), (2, .int (nI ss)), (3, .int (nI pp)), (4, .int 1)]) [1, 2, 3, 4, 0] dM_greatest_36 (by decide) rfl ?_
          have hE : mCan0 ss pp = 1 := by unfold mCan0; rw [if_pos h10]
          rw [hE] at hJ
          exact hJ
    · skip
      intro v a2 hIpp
      have hIpp : mGreatM F P ss 0 P v a2 = mGreatM F P ss P 0 u a1 := hIpp
      refine v_as (w' := wM cI cZ b F a2) (lv' := [(0, .ref (b 0)), (1, .int v), (2, .int (nI ss)), (3, .int (nI P))]) rfl rfl ?_
      obtain ⟨rfl, rfl⟩ : v = (mGreatM F P ss P 0 u a1).1 ∧ a2 = (mGreatM F P ss P 0 u a1).2 := by rw [← hIpp]; exact ⟨rfl, rfl⟩
      refine v_iload_n C 3 dM_greatest_16 rfl rfl ?_
      refine v_aload_n C 0 dM_greatest_17 rfl rfl ?_
      refine v_get C (T := TcM) (N := 18) (ci := 2) (v := .int (F 0)) inM_greatest_M 0 rfl rfl 0 (by decide) (by decide +kernel) rfl rfl dM_greatest_18 ?_
      refine v_top (y := nI P) hp ?_
      refine v_icmp_ge C dM_greatest_21 (tgt := 191) (by decide) (fun _ => ?_) (fun h => absurd (nI_le (a := P) (b := P) (by omega) (by omega)) h)
      refine v_iinc C (v := nI (ss + 1)) (lv' := [(0, .ref (b 0)), (1, .int ((mGreatM F P ss P 0 u a1).1)), (2, .int (nI (ss + 1))), (3, .int (nI P))]) 2 [1, 2, 0, 3] dM_greatest_191 rfl (nI_1 ss) (by decide) rfl ?_
      refine v_goto C dM_greatest_194 (tgt := 4) (by decide) ?_
      refine v_loc (lv' := [(0, .ref (b 0)), (1, .int ((mGreatM F P ss P 0 u a1).1)), (2, .int (nI (ss + 1)))]) [0, 1, 2] rfl ?_
      have hL : mGreatL F P kss (ss + 1) ((mGreatM F P ss P 0 u a1).1) ((mGreatM F P ss P 0 u a1).2) = mGreatL F P (2 ^ P - 1) 1 0 a := (by rw [← hIss]; simp only [mGreatL])
      exact ihss ((mGreatM F P ss P 0 u a1).1) ((mGreatM F P ss P 0 u a1).2) hL
  · skip
    intro u a1 hIss
    have hIss : mGreatL F P 0 (2 ^ P) u a1 = mGreatL F P (2 ^ P - 1) 1 0 a := hIss
    refine v_as (w' := wM cI cZ b F a1) (lv' := [(0, .ref (b 0)), (1, .int u), (2, .int (nI (2 ^ P)))]) rfl rfl ?_
    obtain ⟨rfl, rfl⟩ : u = (mGreatL F P (2 ^ P - 1) 1 0 a).1 ∧ a1 = (mGreatL F P (2 ^ P - 1) 1 0 a).2 := by rw [← hIss]; exact ⟨rfl, rfl⟩
    refine v_iload_n C 2 dM_greatest_4 rfl rfl ?_
    refine v_iconst C (v := 1) dM_greatest_5 (by decide) ?_
    refine v_aload_n C 0 dM_greatest_6 rfl rfl ?_
    refine v_get C (T := TcM) (N := 18) (ci := 2) (v := .int (F 0)) inM_greatest_M 0 rfl rfl 0 (by decide) (by decide +kernel) rfl rfl dM_greatest_7 ?_
    refine v_top (y := nI P) hp ?_
    refine v_ishl C dM_greatest_10 ?_
    refine v_top (y := nI (2 ^ P)) (shl_P hp6) ?_
    refine v_icmp_ge C dM_greatest_11 (tgt := 197) (by decide) (fun _ => ?_) (fun h => absurd (nI_le (a := 2 ^ P) (b := 2 ^ P) (by omega) (by omega)) h)
    refine v_iload_n C 1 dM_greatest_197 rfl rfl ?_
    have hE : ((mGreatL F P (2 ^ P - 1) 1 0 a).1, (mGreatL F P (2 ^ P - 1) 1 0 a).2) = mGreat F a P := (by unfold mGreat; rfl)
    exact v_iret C hr (by rw [← hE]) (by rw [← hE]) dM_greatest_198
end
section
theorem dM_unlock_0 : decode bM_unlock 0 = .ok (.iload_n 2, 1) := by decide +kernel
theorem dM_unlock_1 : decode bM_unlock 1 = .ok (.iload_n 2, 1) := by decide +kernel
theorem dM_unlock_2 : decode bM_unlock 2 = .ok (.invokestatic 89, 3) := by decide +kernel
theorem dM_unlock_5 : decode bM_unlock 5 = .ok (.iconst 1, 1) := by decide +kernel
theorem dM_unlock_6 : decode bM_unlock 6 = .ok (.isub, 1) := by decide +kernel
theorem dM_unlock_7 : decode bM_unlock 7 = .ok (.invokestatic 92, 3) := by decide +kernel
theorem dM_unlock_10 : decode bM_unlock 10 = .ok (.istore_n 3, 1) := by decide +kernel
theorem dM_unlock_11 : decode bM_unlock 11 = .ok (.aload_n 0, 1) := by decide +kernel
theorem dM_unlock_12 : decode bM_unlock 12 = .ok (.getfield 19, 3) := by decide +kernel
theorem dM_unlock_15 : decode bM_unlock 15 = .ok (.iload_n 1, 1) := by decide +kernel
theorem dM_unlock_16 : decode bM_unlock 16 = .ok (.dup2, 1) := by decide +kernel
theorem dM_unlock_17 : decode bM_unlock 17 = .ok (.iaload, 1) := by decide +kernel
theorem dM_unlock_18 : decode bM_unlock 18 = .ok (.iconst 1, 1) := by decide +kernel
theorem dM_unlock_19 : decode bM_unlock 19 = .ok (.iload_n 3, 1) := by decide +kernel
theorem dM_unlock_20 : decode bM_unlock 20 = .ok (.ishl, 1) := by decide +kernel
theorem dM_unlock_21 : decode bM_unlock 21 = .ok (.ior, 1) := by decide +kernel
theorem dM_unlock_22 : decode bM_unlock 22 = .ok (.iastore, 1) := by decide +kernel
theorem dM_unlock_23 : decode bM_unlock 23 = .ok (.aload_n 0, 1) := by decide +kernel
theorem dM_unlock_24 : decode bM_unlock 24 = .ok (.getfield 22, 3) := by decide +kernel
theorem dM_unlock_27 : decode bM_unlock 27 = .ok (.bipush 6, 2) := by decide +kernel
theorem dM_unlock_29 : decode bM_unlock 29 = .ok (.iload_n 1, 1) := by decide +kernel
theorem dM_unlock_30 : decode bM_unlock 30 = .ok (.imul, 1) := by decide +kernel
theorem dM_unlock_31 : decode bM_unlock 31 = .ok (.iload_n 3, 1) := by decide +kernel
theorem dM_unlock_32 : decode bM_unlock 32 = .ok (.iadd, 1) := by decide +kernel
theorem dM_unlock_33 : decode bM_unlock 33 = .ok (.iload_n 2, 1) := by decide +kernel
theorem dM_unlock_34 : decode bM_unlock 34 = .ok (.iastore, 1) := by decide +kernel
theorem dM_unlock_35 : decode bM_unlock 35 = .ok (.aload_n 0, 1) := by decide +kernel
theorem dM_unlock_36 : decode bM_unlock 36 = .ok (.getfield 19, 3) := by decide +kernel
theorem dM_unlock_39 : decode bM_unlock 39 = .ok (.iload_n 1, 1) := by decide +kernel
theorem dM_unlock_40 : decode bM_unlock 40 = .ok (.iaload, 1) := by decide +kernel
theorem dM_unlock_41 : decode bM_unlock 41 = .ok (.aload_n 0, 1) := by decide +kernel
theorem dM_unlock_42 : decode bM_unlock 42 = .ok (.getfield 86, 3) := by decide +kernel
theorem dM_unlock_45 : decode bM_unlock 45 = .ok (.if_icmp .ne 10, 3) := by decide +kernel
theorem dM_unlock_48 : decode bM_unlock 48 = .ok (.aload_n 0, 1) := by decide +kernel
theorem dM_unlock_49 : decode bM_unlock 49 = .ok (.getfield 16, 3) := by decide +kernel
theorem dM_unlock_52 : decode bM_unlock 52 = .ok (.iload_n 1, 1) := by decide +kernel
theorem dM_unlock_53 : decode bM_unlock 53 = .ok (.iconst 2, 1) := by decide +kernel
theorem dM_unlock_54 : decode bM_unlock 54 = .ok (.iastore, 1) := by decide +kernel
theorem dM_unlock_55 : decode bM_unlock 55 = .ok (.return_, 1) := by decide +kernel
theorem dM_isCovered_0 : decode bM_isCovered 0 = .ok (.iconst 1, 1) := by decide +kernel
theorem dM_isCovered_1 : decode bM_isCovered 1 = .ok (.istore_n 2, 1) := by decide +kernel
theorem dM_isCovered_2 : decode bM_isCovered 2 = .ok (.iconst 0, 1) := by decide +kernel
theorem dM_isCovered_3 : decode bM_isCovered 3 = .ok (.istore_n 3, 1) := by decide +kernel
theorem dM_isCovered_4 : decode bM_isCovered 4 = .ok (.iload_n 3, 1) := by decide +kernel
theorem dM_isCovered_5 : decode bM_isCovered 5 = .ok (.aload_n 0, 1) := by decide +kernel
theorem dM_isCovered_6 : decode bM_isCovered 6 = .ok (.getfield 42, 3) := by decide +kernel
theorem dM_isCovered_9 : decode bM_isCovered 9 = .ok (.if_icmp .ge 49, 3) := by decide +kernel
theorem dM_isCovered_12 : decode bM_isCovered 12 = .ok (.iload_n 2, 1) := by decide +kernel
theorem dM_isCovered_13 : decode bM_isCovered 13 = .ok (.ifCond .eq 37, 3) := by decide +kernel
theorem dM_isCovered_16 : decode bM_isCovered 16 = .ok (.aload_n 0, 1) := by decide +kernel
theorem dM_isCovered_17 : decode bM_isCovered 17 = .ok (.getfield 13, 3) := by decide +kernel
theorem dM_isCovered_20 : decode bM_isCovered 20 = .ok (.iload_n 3, 1) := by decide +kernel
theorem dM_isCovered_21 : decode bM_isCovered 21 = .ok (.iaload, 1) := by decide +kernel
theorem dM_isCovered_22 : decode bM_isCovered 22 = .ok (.iload_n 1, 1) := by decide +kernel
theorem dM_isCovered_23 : decode bM_isCovered 23 = .ok (.if_icmp .ne 23, 3) := by decide +kernel
theorem dM_isCovered_26 : decode bM_isCovered 26 = .ok (.aload_n 0, 1) := by decide +kernel
theorem dM_isCovered_27 : decode bM_isCovered 27 = .ok (.getfield 16, 3) := by decide +kernel
theorem dM_isCovered_30 : decode bM_isCovered 30 = .ok (.iload_n 3, 1) := by decide +kernel
theorem dM_isCovered_31 : decode bM_isCovered 31 = .ok (.iaload, 1) := by decide +kernel
theorem dM_isCovered_32 : decode bM_isCovered 32 = .ok (.iconst 1, 1) := by decide +kernel
theorem dM_isCovered_33 : decode bM_isCovered 33 = .ok (.if_icmp .eq 13, 3) := by decide +kernel
theorem dM_isCovered_36 : decode bM_isCovered 36 = .ok (.aload_n 0, 1) := by decide +kernel
theorem dM_isCovered_37 : decode bM_isCovered 37 = .ok (.getfield 16, 3) := by decide +kernel
theorem dM_isCovered_40 : decode bM_isCovered 40 = .ok (.iload_n 3, 1) := by decide +kernel
theorem dM_isCovered_41 : decode bM_isCovered 41 = .ok (.iaload, 1) := by decide +kernel
theorem dM_isCovered_42 : decode bM_isCovered 42 = .ok (.iconst 2, 1) := by decide +kernel
theorem dM_isCovered_43 : decode bM_isCovered 43 = .ok (.if_icmp .ne 7, 3) := by decide +kernel
theorem dM_isCovered_46 : decode bM_isCovered 46 = .ok (.iconst 1, 1) := by decide +kernel
theorem dM_isCovered_47 : decode bM_isCovered 47 = .ok (.goto 4, 3) := by decide +kernel
theorem dM_isCovered_50 : decode bM_isCovered 50 = .ok (.iconst 0, 1) := by decide +kernel
theorem dM_isCovered_51 : decode bM_isCovered 51 = .ok (.istore_n 2, 1) := by decide +kernel
theorem dM_isCovered_52 : decode bM_isCovered 52 = .ok (.iinc 3 1, 3) := by decide +kernel
theorem dM_isCovered_55 : decode bM_isCovered 55 = .ok (.goto (-51), 3) := by decide +kernel
theorem dM_isCovered_58 : decode bM_isCovered 58 = .ok (.iload_n 2, 1) := by decide +kernel
theorem dM_isCovered_59 : decode bM_isCovered 59 = .ok (.ireturn, 1) := by decide +kernel
theorem dM_shownBy_0 : decode bM_shownBy 0 = .ok (.iconst 0, 1) := by decide +kernel
theorem dM_shownBy_1 : decode bM_shownBy 1 = .ok (.istore 4, 2) := by decide +kernel
theorem dM_shownBy_3 : decode bM_shownBy 3 = .ok (.iconst 0, 1) := by decide +kernel
theorem dM_shownBy_4 : decode bM_shownBy 4 = .ok (.istore 5, 2) := by decide +kernel
theorem dM_shownBy_6 : decode bM_shownBy 6 = .ok (.iload 5, 2) := by decide +kernel
theorem dM_shownBy_8 : decode bM_shownBy 8 = .ok (.aload_n 0, 1) := by decide +kernel
theorem dM_shownBy_9 : decode bM_shownBy 9 = .ok (.getfield 42, 3) := by decide +kernel
theorem dM_shownBy_12 : decode bM_shownBy 12 = .ok (.if_icmp .ge 71, 3) := by decide +kernel
theorem dM_shownBy_15 : decode bM_shownBy 15 = .ok (.aload_n 0, 1) := by decide +kernel
theorem dM_shownBy_16 : decode bM_shownBy 16 = .ok (.getfield 13, 3) := by decide +kernel
theorem dM_shownBy_19 : decode bM_shownBy 19 = .ok (.iload 5, 2) := by decide +kernel
theorem dM_shownBy_21 : decode bM_shownBy 21 = .ok (.iaload, 1) := by decide +kernel
theorem dM_shownBy_22 : decode bM_shownBy 22 = .ok (.iload_n 1, 1) := by decide +kernel
theorem dM_shownBy_23 : decode bM_shownBy 23 = .ok (.if_icmp .ne 54, 3) := by decide +kernel
theorem dM_shownBy_26 : decode bM_shownBy 26 = .ok (.aload_n 0, 1) := by decide +kernel
theorem dM_shownBy_27 : decode bM_shownBy 27 = .ok (.getfield 16, 3) := by decide +kernel
theorem dM_shownBy_30 : decode bM_shownBy 30 = .ok (.iload 5, 2) := by decide +kernel
theorem dM_shownBy_32 : decode bM_shownBy 32 = .ok (.iaload, 1) := by decide +kernel
theorem dM_shownBy_33 : decode bM_shownBy 33 = .ok (.iconst 1, 1) := by decide +kernel
theorem dM_shownBy_34 : decode bM_shownBy 34 = .ok (.if_icmp .ne 43, 3) := by decide +kernel
theorem dM_shownBy_37 : decode bM_shownBy 37 = .ok (.aload_n 0, 1) := by decide +kernel
theorem dM_shownBy_38 : decode bM_shownBy 38 = .ok (.getfield 19, 3) := by decide +kernel
theorem dM_shownBy_41 : decode bM_shownBy 41 = .ok (.iload 5, 2) := by decide +kernel
theorem dM_shownBy_43 : decode bM_shownBy 43 = .ok (.iaload, 1) := by decide +kernel
theorem dM_shownBy_44 : decode bM_shownBy 44 = .ok (.iload_n 2, 1) := by decide +kernel
theorem dM_shownBy_45 : decode bM_shownBy 45 = .ok (.invokestatic 49, 3) := by decide +kernel
theorem dM_shownBy_48 : decode bM_shownBy 48 = .ok (.ifCond .ne 29, 3) := by decide +kernel
theorem dM_shownBy_51 : decode bM_shownBy 51 = .ok (.aload_n 0, 1) := by decide +kernel
theorem dM_shownBy_52 : decode bM_shownBy 52 = .ok (.iload_n 3, 1) := by decide +kernel
theorem dM_shownBy_53 : decode bM_shownBy 53 = .ok (.invokestatic 89, 3) := by decide +kernel
theorem dM_shownBy_56 : decode bM_shownBy 56 = .ok (.iconst 1, 1) := by decide +kernel
theorem dM_shownBy_57 : decode bM_shownBy 57 = .ok (.isub, 1) := by decide +kernel
theorem dM_shownBy_58 : decode bM_shownBy 58 = .ok (.invokevirtual 114, 3) := by decide +kernel
theorem dM_shownBy_61 : decode bM_shownBy 61 = .ok (.ifCond .ne 6, 3) := by decide +kernel
theorem dM_shownBy_64 : decode bM_shownBy 64 = .ok (.goto 13, 3) := by decide +kernel
theorem dM_shownBy_67 : decode bM_shownBy 67 = .ok (.aload_n 0, 1) := by decide +kernel
theorem dM_shownBy_68 : decode bM_shownBy 68 = .ok (.iload 5, 2) := by decide +kernel
theorem dM_shownBy_70 : decode bM_shownBy 70 = .ok (.iload_n 3, 1) := by decide +kernel
theorem dM_shownBy_71 : decode bM_shownBy 71 = .ok (.invokevirtual 117, 3) := by decide +kernel
theorem dM_shownBy_74 : decode bM_shownBy 74 = .ok (.iinc 4 1, 3) := by decide +kernel
theorem dM_shownBy_77 : decode bM_shownBy 77 = .ok (.iinc 5 1, 3) := by decide +kernel
theorem dM_shownBy_80 : decode bM_shownBy 80 = .ok (.goto (-74), 3) := by decide +kernel
theorem dM_shownBy_83 : decode bM_shownBy 83 = .ok (.iload 4, 2) := by decide +kernel
theorem dM_shownBy_85 : decode bM_shownBy 85 = .ok (.ireturn, 1) := by decide +kernel
theorem dM_shortest_0 : decode bM_shortest 0 = .ok (.iconst 0, 1) := by decide +kernel
theorem dM_shortest_1 : decode bM_shortest 1 = .ok (.istore_n 3, 1) := by decide +kernel
theorem dM_shortest_2 : decode bM_shortest 2 = .ok (.iconst 0, 1) := by decide +kernel
theorem dM_shortest_3 : decode bM_shortest 3 = .ok (.istore 4, 2) := by decide +kernel
theorem dM_shortest_5 : decode bM_shortest 5 = .ok (.iload 4, 2) := by decide +kernel
theorem dM_shortest_7 : decode bM_shortest 7 = .ok (.aload_n 0, 1) := by decide +kernel
theorem dM_shortest_8 : decode bM_shortest 8 = .ok (.getfield 42, 3) := by decide +kernel
theorem dM_shortest_11 : decode bM_shortest 11 = .ok (.if_icmp .ge 82, 3) := by decide +kernel
theorem dM_shortest_14 : decode bM_shortest 14 = .ok (.aload_n 0, 1) := by decide +kernel
theorem dM_shortest_15 : decode bM_shortest 15 = .ok (.getfield 22, 3) := by decide +kernel
theorem dM_shortest_18 : decode bM_shortest 18 = .ok (.bipush 6, 2) := by decide +kernel
theorem dM_shortest_20 : decode bM_shortest 20 = .ok (.iload 4, 2) := by decide +kernel
theorem dM_shortest_22 : decode bM_shortest 22 = .ok (.imul, 1) := by decide +kernel
theorem dM_shortest_23 : decode bM_shortest 23 = .ok (.iload_n 2, 1) := by decide +kernel
theorem dM_shortest_24 : decode bM_shortest 24 = .ok (.iadd, 1) := by decide +kernel
theorem dM_shortest_25 : decode bM_shortest 25 = .ok (.iaload, 1) := by decide +kernel
theorem dM_shortest_26 : decode bM_shortest 26 = .ok (.istore 5, 2) := by decide +kernel
theorem dM_shortest_28 : decode bM_shortest 28 = .ok (.aload_n 0, 1) := by decide +kernel
theorem dM_shortest_29 : decode bM_shortest 29 = .ok (.getfield 7, 3) := by decide +kernel
theorem dM_shortest_32 : decode bM_shortest 32 = .ok (.iload 4, 2) := by decide +kernel
theorem dM_shortest_34 : decode bM_shortest 34 = .ok (.iaload, 1) := by decide +kernel
theorem dM_shortest_35 : decode bM_shortest 35 = .ok (.iload_n 1, 1) := by decide +kernel
theorem dM_shortest_36 : decode bM_shortest 36 = .ok (.if_icmp .ne 51, 3) := by decide +kernel
theorem dM_shortest_39 : decode bM_shortest 39 = .ok (.aload_n 0, 1) := by decide +kernel
theorem dM_shortest_40 : decode bM_shortest 40 = .ok (.getfield 19, 3) := by decide +kernel
theorem dM_shortest_43 : decode bM_shortest 43 = .ok (.iload 4, 2) := by decide +kernel
theorem dM_shortest_45 : decode bM_shortest 45 = .ok (.iaload, 1) := by decide +kernel
theorem dM_shortest_46 : decode bM_shortest 46 = .ok (.iload_n 2, 1) := by decide +kernel
theorem dM_shortest_47 : decode bM_shortest 47 = .ok (.invokestatic 49, 3) := by decide +kernel
theorem dM_shortest_50 : decode bM_shortest 50 = .ok (.ifCond .eq 37, 3) := by decide +kernel
theorem dM_shortest_53 : decode bM_shortest 53 = .ok (.iload 5, 2) := by decide +kernel
theorem dM_shortest_55 : decode bM_shortest 55 = .ok (.invokestatic 121, 3) := by decide +kernel
theorem dM_shortest_58 : decode bM_shortest 58 = .ok (.iload_n 1, 1) := by decide +kernel
theorem dM_shortest_59 : decode bM_shortest 59 = .ok (.invokestatic 49, 3) := by decide +kernel
theorem dM_shortest_62 : decode bM_shortest 62 = .ok (.ifCond .eq 6, 3) := by decide +kernel
theorem dM_shortest_65 : decode bM_shortest 65 = .ok (.goto 22, 3) := by decide +kernel
theorem dM_shortest_68 : decode bM_shortest 68 = .ok (.iload_n 3, 1) := by decide +kernel
theorem dM_shortest_69 : decode bM_shortest 69 = .ok (.ifCond .eq 15, 3) := by decide +kernel
theorem dM_shortest_72 : decode bM_shortest 72 = .ok (.iload 5, 2) := by decide +kernel
theorem dM_shortest_74 : decode bM_shortest 74 = .ok (.invokestatic 89, 3) := by decide +kernel
theorem dM_shortest_77 : decode bM_shortest 77 = .ok (.iload_n 3, 1) := by decide +kernel
theorem dM_shortest_78 : decode bM_shortest 78 = .ok (.invokestatic 89, 3) := by decide +kernel
theorem dM_shortest_81 : decode bM_shortest 81 = .ok (.if_icmp .ge 6, 3) := by decide +kernel
theorem dM_shortest_84 : decode bM_shortest 84 = .ok (.iload 5, 2) := by decide +kernel
theorem dM_shortest_86 : decode bM_shortest 86 = .ok (.istore_n 3, 1) := by decide +kernel
theorem dM_shortest_87 : decode bM_shortest 87 = .ok (.iinc 4 1, 3) := by decide +kernel
theorem dM_shortest_90 : decode bM_shortest 90 = .ok (.goto (-85), 3) := by decide +kernel
theorem dM_shortest_93 : decode bM_shortest 93 = .ok (.iload_n 3, 1) := by decide +kernel
theorem dM_shortest_94 : decode bM_shortest 94 = .ok (.ireturn, 1) := by decide +kernel
set_option maxRecDepth 20000 in
theorem gM_unlock_M_many : GoodIn wM_unlock (va_wsS RcM 89 yM_many wM_many) := goodIn_app (goodIn_of _ (by decide +kernel)) (goodIn_r _ [10] (by decide +kernel) (by decide +kernel))
set_option maxRecDepth 20000 in
theorem gM_unlock_M_member : GoodIn wM_unlock (va_wsS RcM 92 yM_member wM_member) := goodIn_app (goodIn_of _ (by decide +kernel)) (goodIn_r _ [11] (by decide +kernel) (by decide +kernel))
theorem inM_unlock_M : ∀ x ∈ u_ws RcM TcM 18, x ∈ wM_unlock := by decide +kernel
theorem inM_isCovered_M : ∀ x ∈ u_ws RcM TcM 18, x ∈ wM_isCovered := by decide +kernel
theorem inM_shownBy_M : ∀ x ∈ u_ws RcM TcM 18, x ∈ wM_shownBy := by decide +kernel
set_option maxRecDepth 20000 in
theorem gM_shownBy_M_has : GoodIn wM_shownBy (va_wsS RcM 49 yM_has wM_has) := goodIn_app (goodIn_of _ (by decide +kernel)) (goodIn_r _ [16] (by decide +kernel) (by decide +kernel))
set_option maxRecDepth 20000 in
theorem gM_shownBy_M_many : GoodIn wM_shownBy (va_wsS RcM 89 yM_many wM_many) := goodIn_app (goodIn_of _ (by decide +kernel)) (goodIn_r _ [17] (by decide +kernel) (by decide +kernel))
set_option maxRecDepth 20000 in
theorem gM_shownBy_M_isInTime : GoodIn wM_shownBy (wsV RcM 114 RcM yM_isInTime wM_isInTime) := goodIn_app (goodIn_of _ (by decide +kernel)) (goodIn_r _ [18, 19, 20, 21, 22, 29, 30, 31, 32, 33, 34, 35, 36, 37, 38, 39, 40, 41, 42, 43, 44, 45, 46] (by decide +kernel) (by decide +kernel))
set_option maxRecDepth 20000 in
theorem gM_shownBy_M_unlock : GoodIn wM_shownBy (wsV RcM 117 RcM yM_unlock wM_unlock) := goodIn_app (goodIn_of _ (by decide +kernel)) (goodIn_r _ [23, 8, 9, 7, 24, 25, 4, 26, 27, 3, 17, 28, 29, 30, 31, 32, 33, 34, 35, 36, 37, 38, 39, 40, 41, 42, 43, 44, 45, 46] (by decide +kernel) (by decide +kernel))
theorem inM_shortest_M : ∀ x ∈ u_ws RcM TcM 18, x ∈ wM_shortest := by decide +kernel
set_option maxRecDepth 20000 in
theorem gM_shortest_M_has : GoodIn wM_shortest (va_wsS RcM 49 yM_has wM_has) := goodIn_app (goodIn_of _ (by decide +kernel)) (goodIn_r _ [12] (by decide +kernel) (by decide +kernel))
set_option maxRecDepth 20000 in
theorem gM_shortest_M_members : GoodIn wM_shortest (va_wsS RcM 121 yM_members wM_members) := goodIn_app (goodIn_of _ (by decide +kernel)) (goodIn_r _ [13, 10, 11, 7, 14, 15, 16, 17] (by decide +kernel) (by decide +kernel))
set_option maxRecDepth 20000 in
theorem gM_shortest_M_many : GoodIn wM_shortest (va_wsS RcM 89 yM_many wM_many) := goodIn_app (goodIn_of _ (by decide +kernel)) (goodIn_r _ [16] (by decide +kernel) (by decide +kernel))
end
section
set_option maxHeartbeats 4000000 in
set_option maxRecDepth 100000 in
theorem c_mUnlock (l : Launch) (D : va_G) (cI cZ cJ : ClassId) (b : Nat → Nat) (F : FT) (a : AT) (x : Int32) (row : Int32) (hx : vp_in x 14) (hy : vp_in ((6 : Int32) * x + mMember row (mMany row - 1)) 84) : Kv l yM_unlock wM_unlock ({ frames := 1, cells := 0, slots := 0, locals := 21 } : Room) D vwCl (tyG cI cZ cJ) [.ref (b 0), .int x, .int row] (wM cI cZ b F a) (wM cI cZ b F (mUnlock F a x row)) := by
  intro sz
  refine v_ent (cc := bM_unlock) (maxL := 4) (ret := none) (Qc := (fun A => va_Qv (fun (_ : Unit) => True) (fun _ => wB D vwCl (tyG cI cZ cJ) A (wM cI cZ b F (mUnlock F a x row))) A)) (fr := (fun A => A)) (own := RcM) rfl (by decide) rfl (Nat.le_of_ble_eq_true rfl) rfl ?_
  intro p e s m args below meth c A C hr _
  refine v_free ?_
  refine v_iload_n C 2 dM_unlock_0 rfl rfl ?_
  refine v_iload_n C 2 dM_unlock_1 rfl rfl ?_
  refine v_cSr0 (As := [.int row]) C (c_mMany l D cI cZ cJ row) (va_cwS 1 C.2.2.2.2.1 gM_unlock_M_many rfl rfl rfl (by decide +kernel) ⟨Nat.le_of_ble_eq_true rfl, Nat.le_of_ble_eq_true rfl⟩) rfl rfl (Nat.le_of_ble_eq_true rfl) ⟨Nat.zero_le _, Nat.zero_le _⟩ dM_unlock_2 ?_
  refine v_iconst C (v := 1) dM_unlock_5 (by decide) ?_
  refine v_isub C dM_unlock_6 ?_
  refine v_cSr0 (As := [.int row, .int ((mMany row) - (1 : Int32))]) C (c_mMember l D cI cZ cJ row ((mMany row) - (1 : Int32))) (va_cwS 2 C.2.2.2.2.1 gM_unlock_M_member rfl rfl rfl (by decide +kernel) ⟨Nat.le_of_ble_eq_true rfl, Nat.le_of_ble_eq_true rfl⟩) rfl rfl (Nat.le_of_ble_eq_true rfl) ⟨Nat.zero_le _, Nat.zero_le _⟩ dM_unlock_7 ?_
  refine v_istore_n C (lv' := [(0, .ref (b 0)), (1, .int x), (2, .int row), (3, .int (mMember row ((mMany row) - (1 : Int32))))]) [1, 2, 3, 0] dM_unlock_10 rfl (by decide) rfl ?_
  refine v_aload_n C 0 dM_unlock_11 rfl rfl ?_
  refine v_get C (T := TcM) (N := 18) (ci := 2) (v := .ref (b 4)) inM_unlock_M 0 rfl rfl 13 (by decide) (by decide +kernel) rfl rfl dM_unlock_12 ?_
  refine v_iload_n C 1 dM_unlock_15 rfl rfl ?_
  refine v_dup2 C dM_unlock_16 rfl rfl ?_
  refine v_iald C 4 0 (f := a 13) (y := (a 13) x.toNatClampNeg) (j := x.toNatClampNeg) rfl rfl rfl rfl hx dM_unlock_17 ?_
  refine v_iconst C (v := 1) dM_unlock_18 (by decide) ?_
  refine v_iload_n C 3 dM_unlock_19 rfl rfl ?_
  refine v_ishl C dM_unlock_20 ?_
  refine v_ior C dM_unlock_21 ?_
  obtain ⟨zz1, hzz1⟩ : ∃ z9, upd (a 13) x.toNatClampNeg (((a 13) x.toNatClampNeg) ||| ((1 : Int32) <<< ((mMember row ((mMany row) - (1 : Int32))) &&& 31))) = z9 := ⟨_, rfl⟩
  refine v_iast C 4 0 (f := a 13) (j := x.toNatClampNeg) (f1 := zz1) rfl rfl rfl hzz1 hx dM_unlock_22 (w1 := wM cI cZ b F (updA a 13 zz1)) rfl ?_
  refine v_aload_n C 0 dM_unlock_23 rfl rfl ?_
  refine v_get C (T := TcM) (N := 18) (ci := 2) (v := .ref (b 5)) inM_unlock_M 0 rfl rfl 14 (by decide) (by decide +kernel) rfl rfl dM_unlock_24 ?_
  refine v_bipush C (v := 6) dM_unlock_27 (by decide) ?_
  refine v_iload_n C 1 dM_unlock_29 rfl rfl ?_
  refine v_imul C dM_unlock_30 ?_
  refine v_iload_n C 3 dM_unlock_31 rfl rfl ?_
  refine v_iadd C dM_unlock_32 ?_
  refine v_iload_n C 2 dM_unlock_33 rfl rfl ?_
  obtain ⟨zz2, hzz2⟩ : ∃ z9, upd (a 14) ((((6 : Int32) * x) + (mMember row ((mMany row) - (1 : Int32)))).toNatClampNeg) row = z9 := ⟨_, rfl⟩
  refine v_iast C 5 0 (f := a 14) (j := (((6 : Int32) * x) + (mMember row ((mMany row) - (1 : Int32)))).toNatClampNeg) (f1 := zz2) rfl rfl rfl hzz2 hy dM_unlock_34 (w1 := wM cI cZ b F (updA (updA a 13 zz1) 14 zz2)) rfl ?_
  refine v_aload_n C 0 dM_unlock_35 rfl rfl ?_
  refine v_get C (T := TcM) (N := 18) (ci := 2) (v := .ref (b 4)) inM_unlock_M 0 rfl rfl 13 (by decide) (by decide +kernel) rfl rfl dM_unlock_36 ?_
  refine v_iload_n C 1 dM_unlock_39 rfl rfl ?_
  refine v_iald C 4 0 (f := zz1) (y := zz1 x.toNatClampNeg) (j := x.toNatClampNeg) rfl rfl rfl rfl hx dM_unlock_40 ?_
  refine v_aload_n C 0 dM_unlock_41 rfl rfl ?_
  refine v_get C (T := TcM) (N := 18) (ci := 2) (v := .int (F 7)) inM_unlock_M 0 rfl rfl 7 (by decide) (by decide +kernel) rfl rfl dM_unlock_42 ?_
  refine v_icmp_ne C dM_unlock_45 (tgt := 55) (by decide) (fun h1 => ?_) (fun h1 => ?_)
  · skip
    have hE : updA (updA a 13 zz1) 14 zz2 = mUnlock F a x row := (by unfold mUnlock; rw [hzz1, hzz2, if_neg h1])
    exact v_vret C hr (by rw [← hE]) dM_unlock_55
  · skip
    refine v_aload_n C 0 dM_unlock_48 rfl rfl ?_
    refine v_get C (T := TcM) (N := 18) (ci := 2) (v := .ref (b 3)) inM_unlock_M 0 rfl rfl 12 (by decide) (by decide +kernel) rfl rfl dM_unlock_49 ?_
    refine v_iload_n C 1 dM_unlock_52 rfl rfl ?_
    refine v_iconst C (v := 2) dM_unlock_53 (by decide) ?_
    obtain ⟨zz3, hzz3⟩ : ∃ z9, upd (a 12) x.toNatClampNeg 2 = z9 := ⟨_, rfl⟩
    refine v_iast C 3 0 (f := a 12) (j := x.toNatClampNeg) (f1 := zz3) rfl rfl rfl hzz3 hx dM_unlock_54 (w1 := wM cI cZ b F (updA (updA (updA a 13 zz1) 14 zz2) 12 zz3)) rfl ?_
    have hE : updA (updA (updA a 13 zz1) 14 zz2) 12 zz3 = mUnlock F a x row := (by unfold mUnlock; rw [hzz1, hzz2, hzz3, if_pos h1])
    exact v_vret C hr (by rw [← hE]) dM_unlock_55
set_option maxHeartbeats 4000000 in
set_option maxRecDepth 100000 in
theorem c_mCovered (l : Launch) (D : va_G) (cI cZ cJ : ClassId) (b : Nat → Nat) (F : FT) (a : AT) (n : Nat) (x : Int32) (hn : F 9 = nI n) (hn4 : n ≤ 14) : Kr l yM_isCovered wM_isCovered ({ frames := 0, cells := 0, slots := 0, locals := 0 } : Room) D vwCl (tyG cI cZ cJ) [.ref (b 0), .int x] (wM cI cZ b F a) (mCovered F a n x) := by
  intro sz
  refine v_ent (cc := bM_isCovered) (maxL := 4) (ret := (some .boolean)) (Qc := (fun _ _ st oc t => oc = .returned (some (.int (mCovered F a n x))) ∧ t.heap = st.heap)) (fr := (fun _ _ => False)) (own := RcM) rfl (by decide) rfl (Nat.le_of_ble_eq_true rfl) rfl ?_
  intro p e s m args below meth c A C hr _
  refine v_iconst C (v := 1) dM_isCovered_0 (by decide) ?_
  refine v_istore_n C (lv' := [(0, .ref (b 0)), (1, .int x), (2, .int 1)]) [1, 2, 0] dM_isCovered_1 rfl (by decide) rfl ?_
  refine v_iconst C (v := 0) dM_isCovered_2 (by decide) ?_
  refine v_istore_n C (lv' := [(0, .ref (b 0)), (1, .int x), (2, .int 1), (3, .int 0)]) [1, 2, 3, 0] dM_isCovered_3 rfl (by decide) rfl ?_
  refine v_loop1 n (fun (i : Nat) (u : Int32) => wM cI cZ b F a) (fun (i : Nat) (u : Int32) => [(0, .ref (b 0)), (1, .int x), (2, .int u), (3, .int (nI i))]) (fun (ki i : Nat) (u : Int32) => mCoveredL F a n x ki i u = mCoveredL F a n x n 0 1) ?_ ?_ n 0 1 (by omega) rfl
  · skip
    intro ki i u hki hIi ihi
    have hIi : mCoveredL F a n x (ki + 1) i u = mCoveredL F a n x n 0 1 := hIi
    refine v_as (w' := wM cI cZ b F a) (lv' := [(0, .ref (b 0)), (1, .int x), (2, .int u), (3, .int (nI i))]) rfl rfl ?_
    refine v_iload_n C 3 dM_isCovered_4 rfl rfl ?_
    refine v_aload_n C 0 dM_isCovered_5 rfl rfl ?_
    refine v_get C (T := TcM) (N := 18) (ci := 2) (v := .int (F 9)) inM_isCovered_M 0 rfl rfl 9 (by decide) (by decide +kernel) rfl rfl dM_isCovered_6 ?_
    refine v_top (y := nI n) hn ?_
    refine v_icmp_ge C dM_isCovered_9 (tgt := 58) (by decide) (fun h => absurd h (nI_ge (a := i) (b := n) (by omega) (by omega))) (fun _ => ?_)
    refine v_iload_n C 2 dM_isCovered_12 rfl rfl ?_
    refine v_if_eq C dM_isCovered_13 (tgt := 50) (by decide) (fun h1 => ?_) (fun h1 => ?_)
    · skip
      refine v_iconst C (v := 0) dM_isCovered_50 (by decide) ?_
      refine v_istore_n C (lv' := [(0, .ref (b 0)), (1, .int x), (2, .int 0), (3, .int (nI i))]) [1, 2, 0, 3] dM_isCovered_51 rfl (by decide) rfl ?_
      refine v_iinc C (v := nI (i + 1)) (lv' := [(0, .ref (b 0)), (1, .int x), (2, .int 0), (3, .int (nI (i + 1)))]) 3 [1, 2, 3, 0] dM_isCovered_52 rfl (nI_1 i) (by decide) rfl ?_
      refine v_goto C dM_isCovered_55 (tgt := 4) (by decide) ?_
      have hL : mCoveredL F a n x ki (i + 1) 0 = mCoveredL F a n x n 0 1 := (by rw [← hIi]; simp only [mCoveredL]; rw [if_pos h1])
      exact ihi 0 hL
    · skip
      refine v_aload_n C 0 dM_isCovered_16 rfl rfl ?_
      refine v_get C (T := TcM) (N := 18) (ci := 2) (v := .ref (b 2)) inM_isCovered_M 0 rfl rfl 11 (by decide) (by decide +kernel) rfl rfl dM_isCovered_17 ?_
      refine v_iload_n C 3 dM_isCovered_20 rfl rfl ?_
      refine v_iald C 2 0 (f := a 11) (y := (a 11) i) (j := i) rfl rfl (nI_clamp (by omega)) rfl (vp_in_nI (by omega) (by decide)) dM_isCovered_21 ?_
      refine v_iload_n C 1 dM_isCovered_22 rfl rfl ?_
      refine v_icmp_ne C dM_isCovered_23 (tgt := 46) (by decide) (fun h2 => ?_) (fun h2 => ?_)
      · skip
        refine v_iconst C (v := 1) dM_isCovered_46 (by decide) ?_
        refine v_goto C dM_isCovered_47 (tgt := 51) (by decide) ?_
        refine v_istore_n C (lv' := [(0, .ref (b 0)), (1, .int x), (2, .int 1), (3, .int (nI i))]) [1, 2, 0, 3] dM_isCovered_51 rfl (by decide) rfl ?_
        refine v_iinc C (v := nI (i + 1)) (lv' := [(0, .ref (b 0)), (1, .int x), (2, .int 1), (3, .int (nI (i + 1)))]) 3 [1, 2, 3, 0] dM_isCovered_52 rfl (nI_1 i) (by decide) rfl ?_
        refine v_goto C dM_isCovered_55 (tgt := 4) (by decide) ?_
        have hL : mCoveredL F a n x ki (i + 1) 1 = mCoveredL F a n x n 0 1 := (by rw [← hIi]; simp only [mCoveredL]; rw [if_neg h1, if_neg h2])
        exact ihi 1 hL
      · skip
        refine v_aload_n C 0 dM_isCovered_26 rfl rfl ?_
        refine v_get C (T := TcM) (N := 18) (ci := 2) (v := .ref (b 3)) inM_isCovered_M 0 rfl rfl 12 (by decide) (by decide +kernel) rfl rfl dM_isCovered_27 ?_
        refine v_iload_n C 3 dM_isCovered_30 rfl rfl ?_
        refine v_iald C 3 0 (f := a 12) (y := (a 12) i) (j := i) rfl rfl (nI_clamp (by omega)) rfl (vp_in_nI (by omega) (by decide)) dM_isCovered_31 ?_
        refine v_iconst C (v := 1) dM_isCovered_32 (by decide) ?_
        refine v_icmp_eq C dM_isCovered_33 (tgt := 46) (by decide) (fun h3 => ?_) (fun h3 => ?_)
        · skip
          refine v_iconst C (v := 1) dM_isCovered_46 (by decide) ?_
          refine v_goto C dM_isCovered_47 (tgt := 51) (by decide) ?_
          refine v_istore_n C (lv' := [(0, .ref (b 0)), (1, .int x), (2, .int 1), (3, .int (nI i))]) [1, 2, 0, 3] dM_isCovered_51 rfl (by decide) rfl ?_
          refine v_iinc C (v := nI (i + 1)) (lv' := [(0, .ref (b 0)), (1, .int x), (2, .int 1), (3, .int (nI (i + 1)))]) 3 [1, 2, 3, 0] dM_isCovered_52 rfl (nI_1 i) (by decide) rfl ?_
          refine v_goto C dM_isCovered_55 (tgt := 4) (by decide) ?_
          have hL : mCoveredL F a n x ki (i + 1) 1 = mCoveredL F a n x n 0 1 := (by rw [← hIi]; simp only [mCoveredL]; rw [if_neg h1, if_pos h2, if_pos h3])
          exact ihi 1 hL
        · skip
          refine v_aload_n C 0 dM_isCovered_36 rfl rfl ?_
          refine v_get C (T := TcM) (N := 18) (ci := 2) (v := .ref (b 3)) inM_isCovered_M 0 rfl rfl 12 (by decide) (by decide +kernel) rfl rfl dM_isCovered_37 ?_
          refine v_iload_n C 3 dM_isCovered_40 rfl rfl ?_
          refine v_iald C 3 0 (f := a 12) (y := (a 12) i) (j := i) rfl rfl (nI_clamp (by omega)) rfl (vp_in_nI (by omega) (by decide)) dM_isCovered_41 ?_
          refine v_iconst C (v := 2) dM_isCovered_42 (by decide) ?_
          refine v_icmp_ne C dM_isCovered_43 (tgt := 50) (by decide) (fun h4 => ?_) (fun h4 => ?_)
          · skip
            refine v_iconst C (v := 0) dM_isCovered_50 (by decide) ?_
            refine v_istore_n C (lv' := [(0, .ref (b 0)), (1, .int x), (2, .int 0), (3, .int (nI i))]) [1, 2, 0, 3] dM_isCovered_51 rfl (by decide) rfl ?_
            refine v_iinc C (v := nI (i + 1)) (lv' := [(0, .ref (b 0)), (1, .int x), (2, .int 0), (3, .int (nI (i + 1)))]) 3 [1, 2, 3, 0] dM_isCovered_52 rfl (nI_1 i) (by decide) rfl ?_
            refine v_goto C dM_isCovered_55 (tgt := 4) (by decide) ?_
            have hL : mCoveredL F a n x ki (i + 1) 0 = mCoveredL F a n x n 0 1 := (by rw [← hIi]; simp only [mCoveredL]; rw [if_neg h1, if_pos h2, if_neg h3, if_neg h4])
            exact ihi 0 hL
          · skip
            refine v_iconst C (v := 1) dM_isCovered_46 (by decide) ?_
            refine v_goto C dM_isCovered_47 (tgt := 51) (by decide) ?_
            refine v_istore_n C (lv' := [(0, .ref (b 0)), (1, .int x), (2, .int 1), (3, .int (nI i))]) [1, 2, 0, 3] dM_isCovered_51 rfl (by decide) rfl ?_
            refine v_iinc C (v := nI (i + 1)) (lv' := [(0, .ref (b 0)), (1, .int x), (2, .int 1), (3, .int (nI (i + 1)))]) 3 [1, 2, 3, 0] dM_isCovered_52 rfl (nI_1 i) (by decide) rfl ?_
            refine v_goto C dM_isCovered_55 (tgt := 4) (by decide) ?_
            have hL : mCoveredL F a n x ki (i + 1) 1 = mCoveredL F a n x n 0 1 := (by rw [← hIi]; simp only [mCoveredL]; rw [if_neg h1, if_pos h2, if_neg h3, if_pos h4])
            exact ihi 1 hL
  · skip
    intro u hIi
    have hIi : mCoveredL F a n x 0 n u = mCoveredL F a n x n 0 1 := hIi
    refine v_as (w' := wM cI cZ b F a) (lv' := [(0, .ref (b 0)), (1, .int x), (2, .int u), (3, .int (nI n))]) rfl rfl ?_
    have hIi : u = mCoveredL F a n x n 0 1 := hIi
    subst hIi
    refine v_iload_n C 3 dM_isCovered_4 rfl rfl ?_
    refine v_aload_n C 0 dM_isCovered_5 rfl rfl ?_
    refine v_get C (T := TcM) (N := 18) (ci := 2) (v := .int (F 9)) inM_isCovered_M 0 rfl rfl 9 (by decide) (by decide +kernel) rfl rfl dM_isCovered_6 ?_
    refine v_top (y := nI n) hn ?_
    refine v_icmp_ge C dM_isCovered_9 (tgt := 58) (by decide) (fun _ => ?_) (fun h => absurd (nI_le (a := n) (b := n) (by omega) (by omega)) h)
    refine v_iload_n C 2 dM_isCovered_58 rfl rfl ?_
    exact v_zrr C hr (z01 (mCoveredL_z _ _ _ _ _ _ _ (Or.inr rfl))) (by unfold mCovered; rfl) dM_isCovered_59
set_option maxHeartbeats 4000000 in
set_option maxRecDepth 100000 in
theorem c_mShownBy (l : Launch) (D : va_G) (cI cZ cJ : ClassId) (b : Nat → Nat) (F : FT) (a : AT) (n : Nat) (x : Int32) (y : Int32) (row : Int32) (hn : F 9 = nI n) (hn4 : n ≤ 14) (hl : vp_in (mMember row (mMany row - 1)) 6) : Ki l yM_shownBy wM_shownBy ({ frames := 2, cells := 0, slots := 0, locals := 44 } : Room) D vwCl (tyG cI cZ cJ) [.ref (b 0), .int x, .int y, .int row] (wM cI cZ b F a) ((mShownBy F a n x y row).1) (wM cI cZ b F ((mShownBy F a n x y row).2)) := by
  intro sz
  refine v_ent (cc := bM_shownBy) (maxL := 6) (ret := (some .int)) (Qc := (fun A => va_Qi (fun (x9 : Int32) (_ : Unit) => x9 = (mShownBy F a n x y row).1) (fun _ => wB D vwCl (tyG cI cZ cJ) A (wM cI cZ b F ((mShownBy F a n x y row).2))) A)) (fr := (fun A => A)) (own := RcM) rfl (by decide) rfl (Nat.le_of_ble_eq_true rfl) rfl ?_
  intro p e s m args below meth c A C hr _
  refine v_free ?_
  refine v_iconst C (v := 0) dM_shownBy_0 (by decide) ?_
  refine v_istore C (lv' := [(0, .ref (b 0)), (1, .int x), (2, .int y), (3, .int row), (4, .int 0)]) [1, 2, 3, 4, 0] dM_shownBy_1 (by decide) rfl ?_
  refine v_iconst C (v := 0) dM_shownBy_3 (by decide) ?_
  refine v_istore C (lv' := [(0, .ref (b 0)), (1, .int x), (2, .int y), (3, .int row), (4, .int 0), (5, .int 0)]) [1, 2, 3, 4, 5, 0] dM_shownBy_4 (by decide) rfl ?_
  refine v_loop2 n (fun (i : Nat) (d : Int32) (a1 : AT) => wM cI cZ b F a1) (fun (i : Nat) (d : Int32) (a1 : AT) => [(0, .ref (b 0)), (1, .int x), (2, .int y), (3, .int row), (4, .int d), (5, .int (nI i))]) (fun (ki i : Nat) (d : Int32) (a1 : AT) => mShownByL F n x y row ki i d a1 = mShownByL F n x y row n 0 0 a) ?_ ?_ n 0 0 a (by omega) rfl
  · skip
    intro ki i d a1 hki hIi ihi
    have hIi : mShownByL F n x y row (ki + 1) i d a1 = mShownByL F n x y row n 0 0 a := hIi
    refine v_as (w' := wM cI cZ b F a1) (lv' := [(0, .ref (b 0)), (1, .int x), (2, .int y), (3, .int row), (4, .int d), (5, .int (nI i))]) rfl rfl ?_
    refine v_iload C 5 dM_shownBy_6 rfl ?_
    refine v_aload_n C 0 dM_shownBy_8 rfl rfl ?_
    refine v_get C (T := TcM) (N := 18) (ci := 2) (v := .int (F 9)) inM_shownBy_M 0 rfl rfl 9 (by decide) (by decide +kernel) rfl rfl dM_shownBy_9 ?_
    refine v_top (y := nI n) hn ?_
    refine v_icmp_ge C dM_shownBy_12 (tgt := 83) (by decide) (fun h => absurd h (nI_ge (a := i) (b := n) (by omega) (by omega))) (fun _ => ?_)
    refine v_aload_n C 0 dM_shownBy_15 rfl rfl ?_
    refine v_get C (T := TcM) (N := 18) (ci := 2) (v := .ref (b 2)) inM_shownBy_M 0 rfl rfl 11 (by decide) (by decide +kernel) rfl rfl dM_shownBy_16 ?_
    refine v_iload C 5 dM_shownBy_19 rfl ?_
    refine v_iald C 2 0 (f := a1 11) (y := (a1 11) i) (j := i) rfl rfl (nI_clamp (by omega)) rfl (vp_in_nI (by omega) (by decide)) dM_shownBy_21 ?_
    refine v_iload_n C 1 dM_shownBy_22 rfl rfl ?_
    refine v_icmp_ne C dM_shownBy_23 (tgt := 77) (by decide) (fun h1 => ?_) (fun h1 => ?_)
    · skip
      refine v_iinc C (v := nI (i + 1)) (lv' := [(0, .ref (b 0)), (1, .int x), (2, .int y), (3, .int row), (4, .int d), (5, .int (nI (i + 1)))]) 5 [1, 2, 3, 4, 5, 0] dM_shownBy_77 rfl (nI_1 i) (by decide) rfl ?_
      refine v_goto C dM_shownBy_80 (tgt := 6) (by decide) ?_
      have hL : mShownByL F n x y row ki (i + 1) d a1 = mShownByL F n x y row n 0 0 a := (by rw [← hIi]; simp only [mShownByL]; rw [if_neg h1])
      exact ihi d a1 hL
    · skip
      refine v_aload_n C 0 dM_shownBy_26 rfl rfl ?_
      refine v_get C (T := TcM) (N := 18) (ci := 2) (v := .ref (b 3)) inM_shownBy_M 0 rfl rfl 12 (by decide) (by decide +kernel) rfl rfl dM_shownBy_27 ?_
      refine v_iload C 5 dM_shownBy_30 rfl ?_
      refine v_iald C 3 0 (f := a1 12) (y := (a1 12) i) (j := i) rfl rfl (nI_clamp (by omega)) rfl (vp_in_nI (by omega) (by decide)) dM_shownBy_32 ?_
      refine v_iconst C (v := 1) dM_shownBy_33 (by decide) ?_
      refine v_icmp_ne C dM_shownBy_34 (tgt := 77) (by decide) (fun h2 => ?_) (fun h2 => ?_)
      · skip
        refine v_iinc C (v := nI (i + 1)) (lv' := [(0, .ref (b 0)), (1, .int x), (2, .int y), (3, .int row), (4, .int d), (5, .int (nI (i + 1)))]) 5 [1, 2, 3, 4, 5, 0] dM_shownBy_77 rfl (nI_1 i) (by decide) rfl ?_
        refine v_goto C dM_shownBy_80 (tgt := 6) (by decide) ?_
        have hL : mShownByL F n x y row ki (i + 1) d a1 = mShownByL F n x y row n 0 0 a := (by rw [← hIi]; simp only [mShownByL]; rw [if_pos h1, if_neg h2])
        exact ihi d a1 hL
      · skip
        refine v_aload_n C 0 dM_shownBy_37 rfl rfl ?_
        refine v_get C (T := TcM) (N := 18) (ci := 2) (v := .ref (b 4)) inM_shownBy_M 0 rfl rfl 13 (by decide) (by decide +kernel) rfl rfl dM_shownBy_38 ?_
        refine v_iload C 5 dM_shownBy_41 rfl ?_
        refine v_iald C 4 0 (f := a1 13) (y := (a1 13) i) (j := i) rfl rfl (nI_clamp (by omega)) rfl (vp_in_nI (by omega) (by decide)) dM_shownBy_43 ?_
        refine v_iload_n C 2 dM_shownBy_44 rfl rfl ?_
        refine v_cSr0 (As := [.int ((a1 13) i), .int y]) C (c_mHas l D cI cZ cJ ((a1 13) i) y) (va_cwS 2 C.2.2.2.2.1 gM_shownBy_M_has rfl rfl rfl (by decide +kernel) ⟨Nat.le_of_ble_eq_true rfl, Nat.le_of_ble_eq_true rfl⟩) rfl rfl (Nat.le_of_ble_eq_true rfl) ⟨Nat.zero_le _, Nat.zero_le _⟩ dM_shownBy_45 ?_
        refine v_if_ne C dM_shownBy_48 (tgt := 77) (by decide) (fun h3 => ?_) (fun h3 => ?_)
        · skip
          refine v_iinc C (v := nI (i + 1)) (lv' := [(0, .ref (b 0)), (1, .int x), (2, .int y), (3, .int row), (4, .int d), (5, .int (nI (i + 1)))]) 5 [1, 2, 3, 4, 5, 0] dM_shownBy_77 rfl (nI_1 i) (by decide) rfl ?_
          refine v_goto C dM_shownBy_80 (tgt := 6) (by decide) ?_
          have hL : mShownByL F n x y row ki (i + 1) d a1 = mShownByL F n x y row n 0 0 a := (by rw [← hIi]; simp only [mShownByL]; rw [if_pos h1, if_pos h2, if_neg h3])
          exact ihi d a1 hL
        · skip
          refine v_aload_n C 0 dM_shownBy_51 rfl rfl ?_
          refine v_iload_n C 3 dM_shownBy_52 rfl rfl ?_
          refine v_cSr0 (As := [.int row]) C (c_mMany l D cI cZ cJ row) (va_cwS 1 C.2.2.2.2.1 gM_shownBy_M_many rfl rfl rfl (by decide +kernel) ⟨Nat.le_of_ble_eq_true rfl, Nat.le_of_ble_eq_true rfl⟩) rfl rfl (Nat.le_of_ble_eq_true rfl) ⟨Nat.zero_le _, Nat.zero_le _⟩ dM_shownBy_53 ?_
          refine v_iconst C (v := 1) dM_shownBy_56 (by decide) ?_
          refine v_isub C dM_shownBy_57 ?_
          refine v_cVrF (As := [.int ((mMany row) - (1 : Int32))]) C (c_mIsInTime l D cI cZ cJ b F a1 ((mMany row) - (1 : Int32))) (cwV 1 C.2.2.2.2.1 gM_shownBy_M_isInTime rfl rfl rfl (by decide +kernel) ⟨Nat.le_of_ble_eq_true rfl, Nat.le_of_ble_eq_true rfl⟩) 0 rfl (T := TcM) (N := 18) rfl rfl rfl (Nat.le_of_ble_eq_true rfl) ⟨Nat.zero_le _, Nat.zero_le _⟩ dM_shownBy_58 ?_
          refine v_if_ne C dM_shownBy_61 (tgt := 67) (by decide) (fun h4 => ?_) (fun h4 => ?_)
          · skip
            refine v_aload_n C 0 dM_shownBy_67 rfl rfl ?_
            refine v_iload C 5 dM_shownBy_68 rfl ?_
            refine v_iload_n C 3 dM_shownBy_70 rfl rfl ?_
            refine v_cVvF (As := [.int (nI i), .int row]) C (c_mUnlock l D cI cZ cJ b F a1 (nI i) row (vp_in_nI (by omega) (by decide)) (vp_key3 (by omega) hl)) (cwV 2 C.2.2.2.2.1 gM_shownBy_M_unlock rfl rfl rfl (by decide +kernel) ⟨Nat.le_of_ble_eq_true rfl, Nat.le_of_ble_eq_true rfl⟩) 0 rfl (T := TcM) (N := 18) rfl rfl rfl (Nat.le_of_ble_eq_true rfl) ⟨Nat.zero_le _, Nat.zero_le _⟩ dM_shownBy_71 ?_
            refine v_iinc C (v := d + 1) (lv' := [(0, .ref (b 0)), (1, .int x), (2, .int y), (3, .int row), (4, .int (d + 1)), (5, .int (nI i))]) 4 [1, 2, 3, 4, 0, 5] dM_shownBy_74 rfl rfl (by decide) rfl ?_
            refine v_iinc C (v := nI (i + 1)) (lv' := [(0, .ref (b 0)), (1, .int x), (2, .int y), (3, .int row), (4, .int (d + 1)), (5, .int (nI (i + 1)))]) 5 [1, 2, 3, 4, 5, 0] dM_shownBy_77 rfl (nI_1 i) (by decide) rfl ?_
            refine v_goto C dM_shownBy_80 (tgt := 6) (by decide) ?_
            have hL : mShownByL F n x y row ki (i + 1) (d + 1) (mUnlock F a1 (nI i) row) = mShownByL F n x y row n 0 0 a := (by rw [← hIi]; simp only [mShownByL]; rw [if_pos h1, if_pos h2, if_pos h3, if_neg h4])
            exact ihi (d + 1) (mUnlock F a1 (nI i) row) hL
          · skip
            refine v_goto C dM_shownBy_64 (tgt := 77) (by decide) ?_
            refine v_iinc C (v := nI (i + 1)) (lv' := [(0, .ref (b 0)), (1, .int x), (2, .int y), (3, .int row), (4, .int d), (5, .int (nI (i + 1)))]) 5 [1, 2, 3, 4, 5, 0] dM_shownBy_77 rfl (nI_1 i) (by decide) rfl ?_
            refine v_goto C dM_shownBy_80 (tgt := 6) (by decide) ?_
            have hL : mShownByL F n x y row ki (i + 1) d a1 = mShownByL F n x y row n 0 0 a := (by rw [← hIi]; simp only [mShownByL]; rw [if_pos h1, if_pos h2, if_pos h3, if_pos h4])
            exact ihi d a1 hL
  · skip
    intro d a1 hIi
    have hIi : mShownByL F n x y row 0 n d a1 = mShownByL F n x y row n 0 0 a := hIi
    refine v_as (w' := wM cI cZ b F a1) (lv' := [(0, .ref (b 0)), (1, .int x), (2, .int y), (3, .int row), (4, .int d), (5, .int (nI n))]) rfl rfl ?_
    obtain ⟨rfl, rfl⟩ : d = (mShownByL F n x y row n 0 0 a).1 ∧ a1 = (mShownByL F n x y row n 0 0 a).2 := by rw [← hIi]; exact ⟨rfl, rfl⟩
    refine v_iload C 5 dM_shownBy_6 rfl ?_
    refine v_aload_n C 0 dM_shownBy_8 rfl rfl ?_
    refine v_get C (T := TcM) (N := 18) (ci := 2) (v := .int (F 9)) inM_shownBy_M 0 rfl rfl 9 (by decide) (by decide +kernel) rfl rfl dM_shownBy_9 ?_
    refine v_top (y := nI n) hn ?_
    refine v_icmp_ge C dM_shownBy_12 (tgt := 83) (by decide) (fun _ => ?_) (fun h => absurd (nI_le (a := n) (b := n) (by omega) (by omega)) h)
    refine v_iload C 4 dM_shownBy_83 rfl ?_
    have hE : ((mShownByL F n x y row n 0 0 a).1, (mShownByL F n x y row n 0 0 a).2) = mShownBy F a n x y row := (by unfold mShownBy; rfl)
    exact v_iret C hr (by rw [← hE]) (by rw [← hE]) dM_shownBy_85
set_option maxHeartbeats 4000000 in
set_option maxRecDepth 100000 in
theorem c_mShortest (l : Launch) (D : va_G) (cI cZ cJ : ClassId) (b : Nat → Nat) (F : FT) (a : AT) (n : Nat) (x : Int32) (y : Int32) (hn : F 9 = nI n) (hn4 : n ≤ 14) (hl : vp_in y 6) (hK : ∀ j, j < 84 → RowM (a 14 j)) : Kr l yM_shortest wM_shortest ({ frames := 2, cells := 0, slots := 0, locals := 43 } : Room) D vwCl (tyG cI cZ cJ) [.ref (b 0), .int x, .int y] (wM cI cZ b F a) (mShortest F a n x y) := by
  intro sz
  refine v_ent (cc := bM_shortest) (maxL := 6) (ret := (some .int)) (Qc := (fun _ _ st oc t => oc = .returned (some (.int (mShortest F a n x y))) ∧ t.heap = st.heap)) (fr := (fun _ _ => False)) (own := RcM) rfl (by decide) rfl (Nat.le_of_ble_eq_true rfl) rfl ?_
  intro p e s m args below meth c A C hr _
  refine v_iconst C (v := 0) dM_shortest_0 (by decide) ?_
  refine v_istore_n C (lv' := [(0, .ref (b 0)), (1, .int x), (2, .int y), (3, .int 0)]) [1, 2, 3, 0] dM_shortest_1 rfl (by decide) rfl ?_
  refine v_iconst C (v := 0) dM_shortest_2 (by decide) ?_
  refine v_istore C (lv' := [(0, .ref (b 0)), (1, .int x), (2, .int y), (3, .int 0), (4, .int 0)]) [1, 2, 3, 4, 0] dM_shortest_3 (by decide) rfl ?_
  refine v_loop1 n (fun (i : Nat) (best : Int32) => wM cI cZ b F a) (fun (i : Nat) (best : Int32) => [(0, .ref (b 0)), (1, .int x), (2, .int y), (3, .int best), (4, .int (nI i))]) (fun (ki i : Nat) (best : Int32) => mShortestL F a n x y ki i best = mShortestL F a n x y n 0 0) ?_ ?_ n 0 0 (by omega) rfl
  · skip
    intro ki i best hki hIi ihi
    have hIi : mShortestL F a n x y (ki + 1) i best = mShortestL F a n x y n 0 0 := hIi
    refine v_as (w' := wM cI cZ b F a) (lv' := [(0, .ref (b 0)), (1, .int x), (2, .int y), (3, .int best), (4, .int (nI i))]) rfl rfl ?_
    refine v_iload C 4 dM_shortest_5 rfl ?_
    refine v_aload_n C 0 dM_shortest_7 rfl rfl ?_
    refine v_get C (T := TcM) (N := 18) (ci := 2) (v := .int (F 9)) inM_shortest_M 0 rfl rfl 9 (by decide) (by decide +kernel) rfl rfl dM_shortest_8 ?_
    refine v_top (y := nI n) hn ?_
    refine v_icmp_ge C dM_shortest_11 (tgt := 93) (by decide) (fun h => absurd h (nI_ge (a := i) (b := n) (by omega) (by omega))) (fun _ => ?_)
    refine v_aload_n C 0 dM_shortest_14 rfl rfl ?_
    refine v_get C (T := TcM) (N := 18) (ci := 2) (v := .ref (b 5)) inM_shortest_M 0 rfl rfl 14 (by decide) (by decide +kernel) rfl rfl dM_shortest_15 ?_
    refine v_bipush C (v := 6) dM_shortest_18 (by decide) ?_
    refine v_iload C 4 dM_shortest_20 rfl ?_
    refine v_imul C dM_shortest_22 ?_
    refine v_iload_n C 2 dM_shortest_23 rfl rfl ?_
    refine v_iadd C dM_shortest_24 ?_
    refine v_iald C 5 0 (f := a 14) (y := (a 14) ((((6 : Int32) * (nI i)) + y).toNatClampNeg)) (j := (((6 : Int32) * (nI i)) + y).toNatClampNeg) rfl rfl rfl rfl (vp_key3 (by omega) hl) dM_shortest_25 ?_
    refine v_istore C (lv' := [(0, .ref (b 0)), (1, .int x), (2, .int y), (3, .int best), (4, .int (nI i)), (5, .int ((a 14) ((((6 : Int32) * (nI i)) + y).toNatClampNeg)))]) [1, 2, 3, 4, 5, 0] dM_shortest_26 (by decide) rfl ?_
    refine v_aload_n C 0 dM_shortest_28 rfl rfl ?_
    refine v_get C (T := TcM) (N := 18) (ci := 2) (v := .ref (b 1)) inM_shortest_M 0 rfl rfl 10 (by decide) (by decide +kernel) rfl rfl dM_shortest_29 ?_
    refine v_iload C 4 dM_shortest_32 rfl ?_
    refine v_iald C 1 0 (f := a 10) (y := (a 10) i) (j := i) rfl rfl (nI_clamp (by omega)) rfl (vp_in_nI (by omega) (by decide)) dM_shortest_34 ?_
    refine v_iload_n C 1 dM_shortest_35 rfl rfl ?_
    refine v_icmp_ne C dM_shortest_36 (tgt := 87) (by decide) (fun h1 => ?_) (fun h1 => ?_)
    · skip
      refine v_iinc C (v := nI (i + 1)) (lv' := [(0, .ref (b 0)), (1, .int x), (2, .int y), (3, .int best), (4, .int (nI (i + 1))), (5, .int ((a 14) ((((6 : Int32) * (nI i)) + y).toNatClampNeg)))]) 4 [1, 2, 3, 4, 0, 5] dM_shortest_87 rfl (nI_1 i) (by decide) rfl ?_
      refine v_goto C dM_shortest_90 (tgt := 5) (by decide) ?_
      refine v_loc (lv' := [(0, .ref (b 0)), (1, .int x), (2, .int y), (3, .int best), (4, .int (nI (i + 1)))]) [0, 1, 2, 3, 4] rfl ?_
      have hL : mShortestL F a n x y ki (i + 1) best = mShortestL F a n x y n 0 0 := (by rw [← hIi]; simp only [mShortestL]; rw [if_neg h1])
      exact ihi best hL
    · skip
      refine v_aload_n C 0 dM_shortest_39 rfl rfl ?_
      refine v_get C (T := TcM) (N := 18) (ci := 2) (v := .ref (b 4)) inM_shortest_M 0 rfl rfl 13 (by decide) (by decide +kernel) rfl rfl dM_shortest_40 ?_
      refine v_iload C 4 dM_shortest_43 rfl ?_
      refine v_iald C 4 0 (f := a 13) (y := (a 13) i) (j := i) rfl rfl (nI_clamp (by omega)) rfl (vp_in_nI (by omega) (by decide)) dM_shortest_45 ?_
      refine v_iload_n C 2 dM_shortest_46 rfl rfl ?_
      refine v_cSr0 (As := [.int ((a 13) i), .int y]) C (c_mHas l D cI cZ cJ ((a 13) i) y) (va_cwS 2 C.2.2.2.2.1 gM_shortest_M_has rfl rfl rfl (by decide +kernel) ⟨Nat.le_of_ble_eq_true rfl, Nat.le_of_ble_eq_true rfl⟩) rfl rfl (Nat.le_of_ble_eq_true rfl) ⟨Nat.zero_le _, Nat.zero_le _⟩ dM_shortest_47 ?_
      refine v_if_eq C dM_shortest_50 (tgt := 87) (by decide) (fun h2 => ?_) (fun h2 => ?_)
      · skip
        refine v_iinc C (v := nI (i + 1)) (lv' := [(0, .ref (b 0)), (1, .int x), (2, .int y), (3, .int best), (4, .int (nI (i + 1))), (5, .int ((a 14) ((((6 : Int32) * (nI i)) + y).toNatClampNeg)))]) 4 [1, 2, 3, 4, 0, 5] dM_shortest_87 rfl (nI_1 i) (by decide) rfl ?_
        refine v_goto C dM_shortest_90 (tgt := 5) (by decide) ?_
        refine v_loc (lv' := [(0, .ref (b 0)), (1, .int x), (2, .int y), (3, .int best), (4, .int (nI (i + 1)))]) [0, 1, 2, 3, 4] rfl ?_
        have hL : mShortestL F a n x y ki (i + 1) best = mShortestL F a n x y n 0 0 := (by rw [← hIi]; simp only [mShortestL]; rw [if_pos h1, if_pos h2])
        exact ihi best hL
      · skip
        refine v_iload C 5 dM_shortest_53 rfl ?_
        refine v_cSr0 (As := [.int ((a 14) ((((6 : Int32) * (nI i)) + y).toNatClampNeg))]) C (c_mMembers l D cI cZ cJ ((mMany ((a 14) ((((6 : Int32) * (nI i)) + y).toNatClampNeg))).toNatClampNeg) ((a 14) ((((6 : Int32) * (nI i)) + y).toNatClampNeg)) (hK _ (vp_lt (vp_key3 (by omega) hl))).1 (hK _ (vp_lt (vp_key3 (by omega) hl))).2) (va_cwS 1 C.2.2.2.2.1 gM_shortest_M_members rfl rfl rfl (by decide +kernel) ⟨Nat.le_of_ble_eq_true rfl, Nat.le_of_ble_eq_true rfl⟩) rfl rfl (Nat.le_of_ble_eq_true rfl) ⟨Nat.zero_le _, Nat.zero_le _⟩ dM_shortest_55 ?_
        refine v_iload_n C 1 dM_shortest_58 rfl rfl ?_
        refine v_cSr0 (As := [.int (mMembers ((mMany ((a 14) ((((6 : Int32) * (nI i)) + y).toNatClampNeg))).toNatClampNeg) ((a 14) ((((6 : Int32) * (nI i)) + y).toNatClampNeg))), .int x]) C (c_mHas l D cI cZ cJ (mMembers ((mMany ((a 14) ((((6 : Int32) * (nI i)) + y).toNatClampNeg))).toNatClampNeg) ((a 14) ((((6 : Int32) * (nI i)) + y).toNatClampNeg))) x) (va_cwS 2 C.2.2.2.2.1 gM_shortest_M_has rfl rfl rfl (by decide +kernel) ⟨Nat.le_of_ble_eq_true rfl, Nat.le_of_ble_eq_true rfl⟩) rfl rfl (Nat.le_of_ble_eq_true rfl) ⟨Nat.zero_le _, Nat.zero_le _⟩ dM_shortest_59 ?_
        refine v_if_eq C dM_shortest_62 (tgt := 68) (by decide) (fun h3 => ?_) (fun h3 => ?_)
        · skip
          refine v_iload_n C 3 dM_shortest_68 rfl rfl ?_
          refine v_if_eq C dM_shortest_69 (tgt := 84) (by decide) (fun h4 => ?_) (fun h4 => ?_)
          · skip
            refine v_iload C 5 dM_shortest_84 rfl ?_
            refine v_istore_n C (lv' := [(0, .ref (b 0)), (1, .int x), (2, .int y), (3, .int ((a 14) ((((6 : Int32) * (nI i)) + y).toNatClampNeg))), (4, .int (nI i)), (5, .int ((a 14) ((((6 : Int32) * (nI i)) + y).toNatClampNeg)))]) [1, 2, 3, 0, 4, 5] dM_shortest_86 rfl (by decide) rfl ?_
            refine v_iinc C (v := nI (i + 1)) (lv' := [(0, .ref (b 0)), (1, .int x), (2, .int y), (3, .int ((a 14) ((((6 : Int32) * (nI i)) + y).toNatClampNeg))), (4, .int (nI (i + 1))), (5, .int ((a 14) ((((6 : Int32) * (nI i)) + y).toNatClampNeg)))]) 4 [1, 2, 3, 4, 0, 5] dM_shortest_87 rfl (nI_1 i) (by decide) rfl ?_
            refine v_goto C dM_shortest_90 (tgt := 5) (by decide) ?_
            refine v_loc (lv' := [(0, .ref (b 0)), (1, .int x), (2, .int y), (3, .int ((a 14) ((((6 : Int32) * (nI i)) + y).toNatClampNeg))), (4, .int (nI (i + 1)))]) [0, 1, 2, 3, 4] rfl ?_
            have hL : mShortestL F a n x y ki (i + 1) ((a 14) ((((6 : Int32) * (nI i)) + y).toNatClampNeg)) = mShortestL F a n x y n 0 0 := (by rw [← hIi]; simp only [mShortestL]; rw [if_pos h1, if_neg h2, if_pos h3, if_pos h4])
            exact ihi ((a 14) ((((6 : Int32) * (nI i)) + y).toNatClampNeg)) hL
          · skip
            refine v_iload C 5 dM_shortest_72 rfl ?_
            refine v_cSr0 (As := [.int ((a 14) ((((6 : Int32) * (nI i)) + y).toNatClampNeg))]) C (c_mMany l D cI cZ cJ ((a 14) ((((6 : Int32) * (nI i)) + y).toNatClampNeg))) (va_cwS 1 C.2.2.2.2.1 gM_shortest_M_many rfl rfl rfl (by decide +kernel) ⟨Nat.le_of_ble_eq_true rfl, Nat.le_of_ble_eq_true rfl⟩) rfl rfl (Nat.le_of_ble_eq_true rfl) ⟨Nat.zero_le _, Nat.zero_le _⟩ dM_shortest_74 ?_
            refine v_iload_n C 3 dM_shortest_77 rfl rfl ?_
            refine v_cSr0 (As := [.int best]) C (c_mMany l D cI cZ cJ best) (va_cwS 1 C.2.2.2.2.1 gM_shortest_M_many rfl rfl rfl (by decide +kernel) ⟨Nat.le_of_ble_eq_true rfl, Nat.le_of_ble_eq_true rfl⟩) rfl rfl (Nat.le_of_ble_eq_true rfl) ⟨Nat.zero_le _, Nat.zero_le _⟩ dM_shortest_78 ?_
            refine v_icmp_ge C dM_shortest_81 (tgt := 87) (by decide) (fun h5 => ?_) (fun h5 => ?_)
            · skip
              refine v_iinc C (v := nI (i + 1)) (lv' := [(0, .ref (b 0)), (1, .int x), (2, .int y), (3, .int best), (4, .int (nI (i + 1))), (5, .int ((a 14) ((((6 : Int32) * (nI i)) + y).toNatClampNeg)))]) 4 [1, 2, 3, 4, 0, 5] dM_shortest_87 rfl (nI_1 i) (by decide) rfl ?_
              refine v_goto C dM_shortest_90 (tgt := 5) (by decide) ?_
              refine v_loc (lv' := [(0, .ref (b 0)), (1, .int x), (2, .int y), (3, .int best), (4, .int (nI (i + 1)))]) [0, 1, 2, 3, 4] rfl ?_
              have hL : mShortestL F a n x y ki (i + 1) best = mShortestL F a n x y n 0 0 := (by rw [← hIi]; simp only [mShortestL]; rw [if_pos h1, if_neg h2, if_pos h3, if_neg h4, if_pos h5])
              exact ihi best hL
            · skip
              refine v_iload C 5 dM_shortest_84 rfl ?_
              refine v_istore_n C (lv' := [(0, .ref (b 0)), (1, .int x), (2, .int y), (3, .int ((a 14) ((((6 : Int32) * (nI i)) + y).toNatClampNeg))), (4, .int (nI i)), (5, .int ((a 14) ((((6 : Int32) * (nI i)) + y).toNatClampNeg)))]) [1, 2, 3, 0, 4, 5] dM_shortest_86 rfl (by decide) rfl ?_
              refine v_iinc C (v := nI (i + 1)) (lv' := [(0, .ref (b 0)), (1, .int x), (2, .int y), (3, .int ((a 14) ((((6 : Int32) * (nI i)) + y).toNatClampNeg))), (4, .int (nI (i + 1))), (5, .int ((a 14) ((((6 : Int32) * (nI i)) + y).toNatClampNeg)))]) 4 [1, 2, 3, 4, 0, 5] dM_shortest_87 rfl (nI_1 i) (by decide) rfl ?_
              refine v_goto C dM_shortest_90 (tgt := 5) (by decide) ?_
              refine v_loc (lv' := [(0, .ref (b 0)), (1, .int x), (2, .int y), (3, .int ((a 14) ((((6 : Int32) * (nI i)) + y).toNatClampNeg))), (4, .int (nI (i + 1)))]) [0, 1, 2, 3, 4] rfl ?_
              have hL : mShortestL F a n x y ki (i + 1) ((a 14) ((((6 : Int32) * (nI i)) + y).toNatClampNeg)) = mShortestL F a n x y n 0 0 := (by rw [← hIi]; simp only [mShortestL]; rw [if_pos h1, if_neg h2, if_pos h3, if_neg h4, if_neg h5])
              exact ihi ((a 14) ((((6 : Int32) * (nI i)) + y).toNatClampNeg)) hL
        · skip
          refine v_goto C dM_shortest_65 (tgt := 87) (by decide) ?_
          refine v_iinc C (v := nI (i + 1)) (lv' := [(0, .ref (b 0)), (1, .int x), (2, .int y), (3, .int best), (4, .int (nI (i + 1))), (5, .int ((a 14) ((((6 : Int32) * (nI i)) + y).toNatClampNeg)))]) 4 [1, 2, 3, 4, 0, 5] dM_shortest_87 rfl (nI_1 i) (by decide) rfl ?_
          refine v_goto C dM_shortest_90 (tgt := 5) (by decide) ?_
          refine v_loc (lv' := [(0, .ref (b 0)), (1, .int x), (2, .int y), (3, .int best), (4, .int (nI (i + 1)))]) [0, 1, 2, 3, 4] rfl ?_
          have hL : mShortestL F a n x y ki (i + 1) best = mShortestL F a n x y n 0 0 := (by rw [← hIi]; simp only [mShortestL]; rw [if_pos h1, if_neg h2, if_neg h3])
          exact ihi best hL
  · skip
    intro best hIi
    have hIi : mShortestL F a n x y 0 n best = mShortestL F a n x y n 0 0 := hIi
    refine v_as (w' := wM cI cZ b F a) (lv' := [(0, .ref (b 0)), (1, .int x), (2, .int y), (3, .int best), (4, .int (nI n))]) rfl rfl ?_
    have hIi : best = mShortestL F a n x y n 0 0 := hIi
    subst hIi
    refine v_iload C 4 dM_shortest_5 rfl ?_
    refine v_aload_n C 0 dM_shortest_7 rfl rfl ?_
    refine v_get C (T := TcM) (N := 18) (ci := 2) (v := .int (F 9)) inM_shortest_M 0 rfl rfl 9 (by decide) (by decide +kernel) rfl rfl dM_shortest_8 ?_
    refine v_top (y := nI n) hn ?_
    refine v_icmp_ge C dM_shortest_11 (tgt := 93) (by decide) (fun _ => ?_) (fun h => absurd (nI_le (a := n) (b := n) (by omega) (by omega)) h)
    refine v_iload_n C 3 dM_shortest_93 rfl rfl ?_
    exact v_irr C hr (by unfold mShortest; rfl) dM_shortest_94
end
section
theorem dM_fewest_0 : decode bM_fewest 0 = .ok (.iconst 1, 1) := by decide +kernel
theorem dM_fewest_1 : decode bM_fewest 1 = .ok (.aload_n 0, 1) := by decide +kernel
theorem dM_fewest_2 : decode bM_fewest 2 = .ok (.getfield 32, 3) := by decide +kernel
theorem dM_fewest_5 : decode bM_fewest 5 = .ok (.ishl, 1) := by decide +kernel
theorem dM_fewest_6 : decode bM_fewest 6 = .ok (.iconst 1, 1) := by decide +kernel
theorem dM_fewest_7 : decode bM_fewest 7 = .ok (.isub, 1) := by decide +kernel
theorem dM_fewest_8 : decode bM_fewest 8 = .ok (.istore_n 1, 1) := by decide +kernel
theorem dM_fewest_9 : decode bM_fewest 9 = .ok (.iconst 0, 1) := by decide +kernel
theorem dM_fewest_10 : decode bM_fewest 10 = .ok (.istore_n 2, 1) := by decide +kernel
theorem dM_fewest_11 : decode bM_fewest 11 = .ok (.iload_n 2, 1) := by decide +kernel
theorem dM_fewest_12 : decode bM_fewest 12 = .ok (.aload_n 0, 1) := by decide +kernel
theorem dM_fewest_13 : decode bM_fewest 13 = .ok (.getfield 32, 3) := by decide +kernel
theorem dM_fewest_16 : decode bM_fewest 16 = .ok (.if_icmp .gt 44, 3) := by decide +kernel
theorem dM_fewest_19 : decode bM_fewest 19 = .ok (.iconst 0, 1) := by decide +kernel
theorem dM_fewest_20 : decode bM_fewest 20 = .ok (.istore_n 3, 1) := by decide +kernel
theorem dM_fewest_21 : decode bM_fewest 21 = .ok (.iload_n 3, 1) := by decide +kernel
theorem dM_fewest_22 : decode bM_fewest 22 = .ok (.iload_n 1, 1) := by decide +kernel
theorem dM_fewest_23 : decode bM_fewest 23 = .ok (.if_icmp .gt 31, 3) := by decide +kernel
theorem dM_fewest_26 : decode bM_fewest 26 = .ok (.iload_n 3, 1) := by decide +kernel
theorem dM_fewest_27 : decode bM_fewest 27 = .ok (.invokestatic 61, 3) := by decide +kernel
theorem dM_fewest_30 : decode bM_fewest 30 = .ok (.iload_n 2, 1) := by decide +kernel
theorem dM_fewest_31 : decode bM_fewest 31 = .ok (.if_icmp .ne 17, 3) := by decide +kernel
theorem dM_fewest_34 : decode bM_fewest 34 = .ok (.aload_n 0, 1) := by decide +kernel
theorem dM_fewest_35 : decode bM_fewest 35 = .ok (.iload_n 1, 1) := by decide +kernel
theorem dM_fewest_36 : decode bM_fewest 36 = .ok (.iload_n 3, 1) := by decide +kernel
theorem dM_fewest_37 : decode bM_fewest 37 = .ok (.iconst (-1), 1) := by decide +kernel
theorem dM_fewest_38 : decode bM_fewest 38 = .ok (.ixor, 1) := by decide +kernel
theorem dM_fewest_39 : decode bM_fewest 39 = .ok (.iand, 1) := by decide +kernel
theorem dM_fewest_40 : decode bM_fewest 40 = .ok (.invokevirtual 64, 3) := by decide +kernel
theorem dM_fewest_43 : decode bM_fewest 43 = .ok (.ifCond .eq 5, 3) := by decide +kernel
theorem dM_fewest_46 : decode bM_fewest 46 = .ok (.iload_n 3, 1) := by decide +kernel
theorem dM_fewest_47 : decode bM_fewest 47 = .ok (.ireturn, 1) := by decide +kernel
theorem dM_fewest_48 : decode bM_fewest 48 = .ok (.iinc 3 1, 3) := by decide +kernel
theorem dM_fewest_51 : decode bM_fewest 51 = .ok (.goto (-30), 3) := by decide +kernel
theorem dM_fewest_54 : decode bM_fewest 54 = .ok (.iinc 2 1, 3) := by decide +kernel
theorem dM_fewest_57 : decode bM_fewest 57 = .ok (.goto (-46), 3) := by decide +kernel
theorem dM_fewest_60 : decode bM_fewest 60 = .ok (.iload_n 1, 1) := by decide +kernel
theorem dM_fewest_61 : decode bM_fewest 61 = .ok (.ireturn, 1) := by decide +kernel
theorem dM_plan_0 : decode bM_plan 0 = .ok (.aload_n 0, 1) := by decide +kernel
theorem dM_plan_1 : decode bM_plan 1 = .ok (.iconst 0, 1) := by decide +kernel
theorem dM_plan_2 : decode bM_plan 2 = .ok (.putfield 39, 3) := by decide +kernel
theorem dM_plan_5 : decode bM_plan 5 = .ok (.aload_n 0, 1) := by decide +kernel
theorem dM_plan_6 : decode bM_plan 6 = .ok (.getfield 57, 3) := by decide +kernel
theorem dM_plan_9 : decode bM_plan 9 = .ok (.ifCond .eq 9, 3) := by decide +kernel
theorem dM_plan_12 : decode bM_plan 12 = .ok (.aload_n 0, 1) := by decide +kernel
theorem dM_plan_13 : decode bM_plan 13 = .ok (.iconst 1, 1) := by decide +kernel
theorem dM_plan_14 : decode bM_plan 14 = .ok (.invokevirtual 53, 3) := by decide +kernel
theorem dM_plan_17 : decode bM_plan 17 = .ok (.ireturn, 1) := by decide +kernel
theorem dM_plan_18 : decode bM_plan 18 = .ok (.iconst 0, 1) := by decide +kernel
theorem dM_plan_19 : decode bM_plan 19 = .ok (.istore_n 1, 1) := by decide +kernel
theorem dM_plan_20 : decode bM_plan 20 = .ok (.iload_n 1, 1) := by decide +kernel
theorem dM_plan_21 : decode bM_plan 21 = .ok (.aload_n 0, 1) := by decide +kernel
theorem dM_plan_22 : decode bM_plan 22 = .ok (.getfield 32, 3) := by decide +kernel
theorem dM_plan_25 : decode bM_plan 25 = .ok (.if_icmp .ge 31, 3) := by decide +kernel
theorem dM_plan_28 : decode bM_plan 28 = .ok (.aload_n 0, 1) := by decide +kernel
theorem dM_plan_29 : decode bM_plan 29 = .ok (.iload_n 1, 1) := by decide +kernel
theorem dM_plan_30 : decode bM_plan 30 = .ok (.invokevirtual 67, 3) := by decide +kernel
theorem dM_plan_33 : decode bM_plan 33 = .ok (.iconst 1, 1) := by decide +kernel
theorem dM_plan_34 : decode bM_plan 34 = .ok (.aload_n 0, 1) := by decide +kernel
theorem dM_plan_35 : decode bM_plan 35 = .ok (.getfield 32, 3) := by decide +kernel
theorem dM_plan_38 : decode bM_plan 38 = .ok (.ishl, 1) := by decide +kernel
theorem dM_plan_39 : decode bM_plan 39 = .ok (.iconst 1, 1) := by decide +kernel
theorem dM_plan_40 : decode bM_plan 40 = .ok (.isub, 1) := by decide +kernel
theorem dM_plan_41 : decode bM_plan 41 = .ok (.if_icmp .eq 9, 3) := by decide +kernel
theorem dM_plan_44 : decode bM_plan 44 = .ok (.aload_n 0, 1) := by decide +kernel
theorem dM_plan_45 : decode bM_plan 45 = .ok (.iconst 2, 1) := by decide +kernel
theorem dM_plan_46 : decode bM_plan 46 = .ok (.invokevirtual 53, 3) := by decide +kernel
theorem dM_plan_49 : decode bM_plan 49 = .ok (.ireturn, 1) := by decide +kernel
theorem dM_plan_50 : decode bM_plan 50 = .ok (.iinc 1 1, 3) := by decide +kernel
theorem dM_plan_53 : decode bM_plan 53 = .ok (.goto (-33), 3) := by decide +kernel
theorem dM_plan_56 : decode bM_plan 56 = .ok (.aload_n 0, 1) := by decide +kernel
theorem dM_plan_57 : decode bM_plan 57 = .ok (.iconst 1, 1) := by decide +kernel
theorem dM_plan_58 : decode bM_plan 58 = .ok (.putfield 57, 3) := by decide +kernel
theorem dM_plan_61 : decode bM_plan 61 = .ok (.aload_n 0, 1) := by decide +kernel
theorem dM_plan_62 : decode bM_plan 62 = .ok (.aload_n 0, 1) := by decide +kernel
theorem dM_plan_63 : decode bM_plan 63 = .ok (.getfield 70, 3) := by decide +kernel
theorem dM_plan_66 : decode bM_plan 66 = .ok (.putfield 73, 3) := by decide +kernel
theorem dM_plan_69 : decode bM_plan 69 = .ok (.aload_n 0, 1) := by decide +kernel
theorem dM_plan_70 : decode bM_plan 70 = .ok (.aload_n 0, 1) := by decide +kernel
theorem dM_plan_71 : decode bM_plan 71 = .ok (.invokevirtual 76, 3) := by decide +kernel
theorem dM_plan_74 : decode bM_plan 74 = .ok (.putfield 80, 3) := by decide +kernel
theorem dM_plan_77 : decode bM_plan 77 = .ok (.aload_n 0, 1) := by decide +kernel
theorem dM_plan_78 : decode bM_plan 78 = .ok (.aload_n 0, 1) := by decide +kernel
theorem dM_plan_79 : decode bM_plan 79 = .ok (.invokevirtual 83, 3) := by decide +kernel
theorem dM_plan_82 : decode bM_plan 82 = .ok (.putfield 86, 3) := by decide +kernel
theorem dM_plan_85 : decode bM_plan 85 = .ok (.aload_n 0, 1) := by decide +kernel
theorem dM_plan_86 : decode bM_plan 86 = .ok (.getfield 80, 3) := by decide +kernel
theorem dM_plan_89 : decode bM_plan 89 = .ok (.ireturn, 1) := by decide +kernel
theorem dM_deploy_0 : decode bM_deploy 0 = .ok (.aload_n 0, 1) := by decide +kernel
theorem dM_deploy_1 : decode bM_deploy 1 = .ok (.aload_n 0, 1) := by decide +kernel
theorem dM_deploy_2 : decode bM_deploy 2 = .ok (.iload_n 1, 1) := by decide +kernel
theorem dM_deploy_3 : decode bM_deploy 3 = .ok (.invokevirtual 130, 3) := by decide +kernel
theorem dM_deploy_6 : decode bM_deploy 6 = .ok (.ifCond .ne 7, 3) := by decide +kernel
theorem dM_deploy_9 : decode bM_deploy 9 = .ok (.iconst 1, 1) := by decide +kernel
theorem dM_deploy_10 : decode bM_deploy 10 = .ok (.goto 24, 3) := by decide +kernel
theorem dM_deploy_13 : decode bM_deploy 13 = .ok (.aload_n 0, 1) := by decide +kernel
theorem dM_deploy_14 : decode bM_deploy 14 = .ok (.getfield 57, 3) := by decide +kernel
theorem dM_deploy_17 : decode bM_deploy 17 = .ok (.ifCond .eq 12, 3) := by decide +kernel
theorem dM_deploy_20 : decode bM_deploy 20 = .ok (.aload_n 0, 1) := by decide +kernel
theorem dM_deploy_21 : decode bM_deploy 21 = .ok (.getfield 16, 3) := by decide +kernel
theorem dM_deploy_24 : decode bM_deploy 24 = .ok (.iload_n 1, 1) := by decide +kernel
theorem dM_deploy_25 : decode bM_deploy 25 = .ok (.iaload, 1) := by decide +kernel
theorem dM_deploy_26 : decode bM_deploy 26 = .ok (.ifCond .eq 7, 3) := by decide +kernel
theorem dM_deploy_29 : decode bM_deploy 29 = .ok (.iconst 2, 1) := by decide +kernel
theorem dM_deploy_30 : decode bM_deploy 30 = .ok (.goto 4, 3) := by decide +kernel
theorem dM_deploy_33 : decode bM_deploy 33 = .ok (.iconst 0, 1) := by decide +kernel
theorem dM_deploy_34 : decode bM_deploy 34 = .ok (.putfield 39, 3) := by decide +kernel
theorem dM_deploy_37 : decode bM_deploy 37 = .ok (.aload_n 0, 1) := by decide +kernel
theorem dM_deploy_38 : decode bM_deploy 38 = .ok (.getfield 39, 3) := by decide +kernel
theorem dM_deploy_41 : decode bM_deploy 41 = .ok (.ifCond .ne 10, 3) := by decide +kernel
theorem dM_deploy_44 : decode bM_deploy 44 = .ok (.aload_n 0, 1) := by decide +kernel
theorem dM_deploy_45 : decode bM_deploy 45 = .ok (.getfield 16, 3) := by decide +kernel
theorem dM_deploy_48 : decode bM_deploy 48 = .ok (.iload_n 1, 1) := by decide +kernel
theorem dM_deploy_49 : decode bM_deploy 49 = .ok (.iconst 1, 1) := by decide +kernel
theorem dM_deploy_50 : decode bM_deploy 50 = .ok (.iastore, 1) := by decide +kernel
theorem dM_deploy_51 : decode bM_deploy 51 = .ok (.return_, 1) := by decide +kernel
theorem dM_back_0 : decode bM_back 0 = .ok (.aload_n 0, 1) := by decide +kernel
theorem dM_back_1 : decode bM_back 1 = .ok (.aload_n 0, 1) := by decide +kernel
theorem dM_back_2 : decode bM_back 2 = .ok (.iload_n 1, 1) := by decide +kernel
theorem dM_back_3 : decode bM_back 3 = .ok (.invokevirtual 130, 3) := by decide +kernel
theorem dM_back_6 : decode bM_back 6 = .ok (.ifCond .ne 7, 3) := by decide +kernel
theorem dM_back_9 : decode bM_back 9 = .ok (.iconst 1, 1) := by decide +kernel
theorem dM_back_10 : decode bM_back 10 = .ok (.goto 29, 3) := by decide +kernel
theorem dM_back_13 : decode bM_back 13 = .ok (.aload_n 0, 1) := by decide +kernel
theorem dM_back_14 : decode bM_back 14 = .ok (.getfield 16, 3) := by decide +kernel
theorem dM_back_17 : decode bM_back 17 = .ok (.iload_n 1, 1) := by decide +kernel
theorem dM_back_18 : decode bM_back 18 = .ok (.iaload, 1) := by decide +kernel
theorem dM_back_19 : decode bM_back 19 = .ok (.iconst 1, 1) := by decide +kernel
theorem dM_back_20 : decode bM_back 20 = .ok (.if_icmp .eq 7, 3) := by decide +kernel
theorem dM_back_23 : decode bM_back 23 = .ok (.iconst 2, 1) := by decide +kernel
theorem dM_back_24 : decode bM_back 24 = .ok (.goto 15, 3) := by decide +kernel
theorem dM_back_27 : decode bM_back 27 = .ok (.aload_n 0, 1) := by decide +kernel
theorem dM_back_28 : decode bM_back 28 = .ok (.invokevirtual 100, 3) := by decide +kernel
theorem dM_back_31 : decode bM_back 31 = .ok (.ifCond .ne 7, 3) := by decide +kernel
theorem dM_back_34 : decode bM_back 34 = .ok (.iconst 3, 1) := by decide +kernel
theorem dM_back_35 : decode bM_back 35 = .ok (.goto 4, 3) := by decide +kernel
theorem dM_back_38 : decode bM_back 38 = .ok (.iconst 0, 1) := by decide +kernel
theorem dM_back_39 : decode bM_back 39 = .ok (.putfield 39, 3) := by decide +kernel
theorem dM_back_42 : decode bM_back 42 = .ok (.aload_n 0, 1) := by decide +kernel
theorem dM_back_43 : decode bM_back 43 = .ok (.getfield 39, 3) := by decide +kernel
theorem dM_back_46 : decode bM_back 46 = .ok (.ifCond .ne 10, 3) := by decide +kernel
theorem dM_back_49 : decode bM_back 49 = .ok (.aload_n 0, 1) := by decide +kernel
theorem dM_back_50 : decode bM_back 50 = .ok (.getfield 16, 3) := by decide +kernel
theorem dM_back_53 : decode bM_back 53 = .ok (.iload_n 1, 1) := by decide +kernel
theorem dM_back_54 : decode bM_back 54 = .ok (.iconst 3, 1) := by decide +kernel
theorem dM_back_55 : decode bM_back 55 = .ok (.iastore, 1) := by decide +kernel
theorem dM_back_56 : decode bM_back 56 = .ok (.return_, 1) := by decide +kernel
theorem inM_fewest_M : ∀ x ∈ u_ws RcM TcM 18, x ∈ wM_fewest := by decide +kernel
set_option maxRecDepth 20000 in
theorem gM_fewest_M_size : GoodIn wM_fewest (va_wsS RcM 61 yM_size wM_size) := goodIn_app (goodIn_of _ (by decide +kernel)) (goodIn_r _ [8] (by decide +kernel) (by decide +kernel))
set_option maxRecDepth 20000 in
theorem gM_fewest_M_isOpen : GoodIn wM_fewest (wsV RcM 64 RcM yM_isOpen wM_isOpen) := goodIn_app (goodIn_of _ (by decide +kernel)) (goodIn_r _ [9, 1, 10, 11, 4, 12, 13, 14, 15, 16, 17, 18, 19, 20, 21, 22, 23, 24, 25, 26, 27, 28, 29, 30, 31] (by decide +kernel) (by decide +kernel))
theorem inM_plan_M : ∀ x ∈ u_ws RcM TcM 18, x ∈ wM_plan := by decide +kernel
set_option maxRecDepth 20000 in
theorem gM_plan_M_reached : GoodIn wM_plan (wsV RcM 67 RcM yM_reached wM_reached) := goodIn_app (goodIn_of _ (by decide +kernel)) (goodIn_r _ [22, 7, 23, 24, 6, 25, 26, 37, 38, 39, 40, 41, 42, 43, 44, 45, 46, 47, 48, 49, 50, 51, 52, 53, 54] (by decide +kernel) (by decide +kernel))
set_option maxRecDepth 20000 in
theorem gM_plan_M_fail : GoodIn wM_plan (wsV RcM 53 RcM yM_fail wM_fail) := goodIn_app (goodIn_of _ (by decide +kernel)) (goodIn_r _ [21, 1, 37, 38, 39, 40, 41, 42, 43, 44, 45, 46, 47, 48, 49, 50, 51, 52, 53, 54] (by decide +kernel) (by decide +kernel))
set_option maxRecDepth 20000 in
theorem gM_plan_M_greatest : GoodIn wM_plan (wsV RcM 76 RcM yM_greatest wM_greatest) := goodIn_app (goodIn_of _ (by decide +kernel)) (goodIn_r _ [27, 7, 23, 24, 6, 25, 28, 29, 30, 26, 31, 37, 38, 39, 40, 41, 42, 43, 44, 45, 46, 47, 48, 49, 50, 51, 52, 53, 54] (by decide +kernel) (by decide +kernel))
set_option maxRecDepth 20000 in
theorem gM_plan_M_fewest : GoodIn wM_plan (wsV RcM 83 RcM yM_fewest wM_fewest) := goodIn_app (goodIn_of _ (by decide +kernel)) (goodIn_r _ [32, 7, 29, 30, 6, 33, 34, 35, 31, 36, 23, 24, 25, 26, 37, 38, 39, 40, 41, 42, 43, 44, 45, 46, 47, 48, 49, 50, 51, 52, 53, 54] (by decide +kernel) (by decide +kernel))
set_option maxRecDepth 20000 in
theorem gM_deploy_M_isArc : GoodIn wM_deploy (wsV RcM 130 RcM yM_isArc wM_isArc) := goodIn_app (goodIn_of _ (by decide +kernel)) (goodIn_r _ [8, 9, 10, 11, 12, 13, 14, 15, 16, 17, 18, 19, 20, 21, 22, 23, 24, 25, 26, 27] (by decide +kernel) (by decide +kernel))
theorem inM_deploy_M : ∀ x ∈ u_ws RcM TcM 18, x ∈ wM_deploy := by decide +kernel
set_option maxRecDepth 20000 in
theorem gM_back_M_isArc : GoodIn wM_back (wsV RcM 130 RcM yM_isArc wM_isArc) := goodIn_app (goodIn_of _ (by decide +kernel)) (goodIn_r _ [10, 11, 17, 18, 19, 20, 21, 22, 23, 24, 25, 26, 27, 28, 29, 30, 31, 32, 33, 34] (by decide +kernel) (by decide +kernel))
theorem inM_back_M : ∀ x ∈ u_ws RcM TcM 18, x ∈ wM_back := by decide +kernel
set_option maxRecDepth 20000 in
theorem gM_back_M_isLate : GoodIn wM_back (wsV RcM 100 RcM yM_isLate wM_isLate) := goodIn_app (goodIn_of _ (by decide +kernel)) (goodIn_r _ [12, 13, 14, 15, 16, 17, 18, 19, 20, 21, 22, 23, 24, 25, 26, 27, 28, 29, 30, 31, 32, 33, 34] (by decide +kernel) (by decide +kernel))
end
section
set_option maxHeartbeats 4000000 in
set_option maxRecDepth 100000 in
theorem c_mFewest (l : Launch) (D : va_G) (cI cZ cJ : ClassId) (b : Nat → Nat) (F : FT) (a : AT) (P : Nat) (hp : F 0 = nI P) (hp6 : P ≤ 6) : Kr l yM_fewest wM_fewest ({ frames := 2, cells := 0, slots := 0, locals := 45 } : Room) D vwCl (tyG cI cZ cJ) [.ref (b 0)] (wM cI cZ b F a) (mFewest F a P) := by
  intro sz
  refine v_ent (cc := bM_fewest) (maxL := 4) (ret := (some .int)) (Qc := (fun _ _ st oc t => oc = .returned (some (.int (mFewest F a P))) ∧ t.heap = st.heap)) (fr := (fun _ _ => False)) (own := RcM) rfl (by decide) rfl (Nat.le_of_ble_eq_true rfl) rfl ?_
  intro p e s m args below meth c A C hr _
  refine v_iconst C (v := 1) dM_fewest_0 (by decide) ?_
  refine v_aload_n C 0 dM_fewest_1 rfl rfl ?_
  refine v_get C (T := TcM) (N := 18) (ci := 2) (v := .int (F 0)) inM_fewest_M 0 rfl rfl 0 (by decide) (by decide +kernel) rfl rfl dM_fewest_2 ?_
  refine v_top (y := nI P) hp ?_
  refine v_ishl C dM_fewest_5 ?_
  refine v_top (y := nI (2 ^ P)) (shl_P hp6) ?_
  refine v_iconst C (v := 1) dM_fewest_6 (by decide) ?_
  refine v_isub C dM_fewest_7 ?_
  refine v_top (y := nI (2 ^ P - 1)) (pw_sub hp6) ?_
  refine v_istore_n C (lv' := [(0, .ref (b 0)), (1, .int (nI (2 ^ P - 1)))]) [1, 0] dM_fewest_8 rfl (by decide) rfl ?_
  have hPP := pow_P hp6
  refine v_iconst C (v := 0) dM_fewest_9 (by decide) ?_
  refine v_istore_n C (lv' := [(0, .ref (b 0)), (1, .int (nI (2 ^ P - 1))), (2, .int 0)]) [1, 2, 0] dM_fewest_10 rfl (by decide) rfl ?_
  refine v_loop0 (P + 1) (fun (i : Nat) => wM cI cZ b F a) (fun (i : Nat) => [(0, .ref (b 0)), (1, .int (nI (2 ^ P - 1))), (2, .int (nI i))]) (fun (ki i : Nat) => mFewestL F a P ki i = mFewest F a P) ?_ ?_ (P + 1) 0  (by omega) (by unfold mFewest; rfl)
  · skip
    intro ki i hki hIi ihi
    have hIi : mFewestL F a P (ki + 1) i = mFewest F a P := hIi
    refine v_as (w' := wM cI cZ b F a) (lv' := [(0, .ref (b 0)), (1, .int (nI (2 ^ P - 1))), (2, .int (nI i))]) rfl rfl ?_
    refine v_iload_n C 2 dM_fewest_11 rfl rfl ?_
    refine v_aload_n C 0 dM_fewest_12 rfl rfl ?_
    refine v_get C (T := TcM) (N := 18) (ci := 2) (v := .int (F 0)) inM_fewest_M 0 rfl rfl 0 (by decide) (by decide +kernel) rfl rfl dM_fewest_13 ?_
    refine v_top (y := nI P) hp ?_
    refine v_icmp_gt C dM_fewest_16 (tgt := 60) (by decide) (fun h => absurd h (nI_nlt (a := P) (b := i) (by omega) (by omega))) (fun _ => ?_)
    refine v_iconst C (v := 0) dM_fewest_19 (by decide) ?_
    refine v_istore_n C (lv' := [(0, .ref (b 0)), (1, .int (nI (2 ^ P - 1))), (2, .int (nI i)), (3, .int 0)]) [1, 2, 3, 0] dM_fewest_20 rfl (by decide) rfl ?_
    refine v_loop0 (2 ^ P) (fun (j : Nat) => wM cI cZ b F a) (fun (j : Nat) => [(0, .ref (b 0)), (1, .int (nI (2 ^ P - 1))), (2, .int (nI i)), (3, .int (nI j))]) (fun (kj j : Nat) => mFewestI F a P i (mFewestL F a P ki (i + 1)) kj j = mFewest F a P) ?_ ?_ (2 ^ P) 0  (by omega) (by rw [← hIi]; simp only [mFewestL])
    · skip
      intro kj j hkj hIj ihj
      have hIj : mFewestI F a P i (mFewestL F a P ki (i + 1)) (kj + 1) j = mFewest F a P := hIj
      refine v_as (w' := wM cI cZ b F a) (lv' := [(0, .ref (b 0)), (1, .int (nI (2 ^ P - 1))), (2, .int (nI i)), (3, .int (nI j))]) rfl rfl ?_
      refine v_iload_n C 3 dM_fewest_21 rfl rfl ?_
      refine v_iload_n C 1 dM_fewest_22 rfl rfl ?_
      refine v_icmp_gt C dM_fewest_23 (tgt := 54) (by decide) (fun h => absurd h (nI_nlt (a := 2 ^ P - 1) (b := j) (by omega) (by omega))) (fun _ => ?_)
      refine v_iload_n C 3 dM_fewest_26 rfl rfl ?_
      refine v_cSr0 (As := [.int (nI j)]) C (c_mSize l D cI cZ cJ (nI j)) (va_cwS 1 C.2.2.2.2.1 gM_fewest_M_size rfl rfl rfl (by decide +kernel) ⟨Nat.le_of_ble_eq_true rfl, Nat.le_of_ble_eq_true rfl⟩) rfl rfl (Nat.le_of_ble_eq_true rfl) ⟨Nat.zero_le _, Nat.zero_le _⟩ dM_fewest_27 ?_
      refine v_iload_n C 2 dM_fewest_30 rfl rfl ?_
      refine v_icmp_ne C dM_fewest_31 (tgt := 48) (by decide) (fun h1 => ?_) (fun h1 => ?_)
      · skip
        refine v_iinc C (v := nI (j + 1)) (lv' := [(0, .ref (b 0)), (1, .int (nI (2 ^ P - 1))), (2, .int (nI i)), (3, .int (nI (j + 1)))]) 3 [1, 2, 3, 0] dM_fewest_48 rfl (nI_1 j) (by decide) rfl ?_
        refine v_goto C dM_fewest_51 (tgt := 21) (by decide) ?_
        have hL : mFewestI F a P i (mFewestL F a P ki (i + 1)) kj (j + 1) = mFewest F a P := (by rw [← hIj]; simp only [mFewestI]; rw [if_neg h1])
        exact ihj  hL
      · skip
        refine v_aload_n C 0 dM_fewest_34 rfl rfl ?_
        refine v_iload_n C 1 dM_fewest_35 rfl rfl ?_
        refine v_iload_n C 3 dM_fewest_36 rfl rfl ?_
        refine v_iconst C (v := (-1)) dM_fewest_37 (by decide) ?_
        refine v_ixor C dM_fewest_38 ?_
        refine v_iand C dM_fewest_39 ?_
        refine v_cVrF (As := [.int ((nI (2 ^ P - 1)) &&& ((nI j) ^^^ ((-1) : Int32)))]) C (c_mIsOpen l D cI cZ cJ b F a P ((nI (2 ^ P - 1)) &&& ((nI j) ^^^ ((-1) : Int32))) hp hp6) (cwV 1 C.2.2.2.2.1 gM_fewest_M_isOpen rfl rfl rfl (by decide +kernel) ⟨Nat.le_of_ble_eq_true rfl, Nat.le_of_ble_eq_true rfl⟩) 0 rfl (T := TcM) (N := 18) rfl rfl rfl (Nat.le_of_ble_eq_true rfl) ⟨Nat.zero_le _, Nat.zero_le _⟩ dM_fewest_40 ?_
        refine v_if_eq C dM_fewest_43 (tgt := 48) (by decide) (fun h2 => ?_) (fun h2 => ?_)
        · skip
          refine v_iinc C (v := nI (j + 1)) (lv' := [(0, .ref (b 0)), (1, .int (nI (2 ^ P - 1))), (2, .int (nI i)), (3, .int (nI (j + 1)))]) 3 [1, 2, 3, 0] dM_fewest_48 rfl (nI_1 j) (by decide) rfl ?_
          refine v_goto C dM_fewest_51 (tgt := 21) (by decide) ?_
          have hL : mFewestI F a P i (mFewestL F a P ki (i + 1)) kj (j + 1) = mFewest F a P := (by rw [← hIj]; simp only [mFewestI]; rw [if_pos h1, if_pos h2])
          exact ihj  hL
        · skip
          refine v_iload_n C 3 dM_fewest_46 rfl rfl ?_
          exact v_irr C hr (by rw [← hIj]; simp only [mFewestI]; rw [if_pos h1, if_neg h2]) dM_fewest_47
    · skip
      intro hIj
      have hIj : mFewestI F a P i (mFewestL F a P ki (i + 1)) 0 (2 ^ P) = mFewest F a P := hIj
      refine v_as (w' := wM cI cZ b F a) (lv' := [(0, .ref (b 0)), (1, .int (nI (2 ^ P - 1))), (2, .int (nI i)), (3, .int (nI (2 ^ P)))]) rfl rfl ?_
      have hKj : mFewestL F a P ki (i + 1) = mFewest F a P := hIj
      refine v_iload_n C 3 dM_fewest_21 rfl rfl ?_
      refine v_iload_n C 1 dM_fewest_22 rfl rfl ?_
      refine v_icmp_gt C dM_fewest_23 (tgt := 54) (by decide) (fun _ => ?_) (fun h => absurd (nI_lt (a := 2 ^ P - 1) (b := 2 ^ P) (by omega) (by omega)) h)
      refine v_iinc C (v := nI (i + 1)) (lv' := [(0, .ref (b 0)), (1, .int (nI (2 ^ P - 1))), (2, .int (nI (i + 1))), (3, .int (nI (2 ^ P)))]) 2 [1, 2, 0, 3] dM_fewest_54 rfl (nI_1 i) (by decide) rfl ?_
      refine v_goto C dM_fewest_57 (tgt := 11) (by decide) ?_
      refine v_loc (lv' := [(0, .ref (b 0)), (1, .int (nI (2 ^ P - 1))), (2, .int (nI (i + 1)))]) [0, 1, 2] rfl ?_
      have hL : mFewestL F a P ki (i + 1) = mFewest F a P := hKj
      exact ihi  hL
  · skip
    intro hIi
    have hIi : mFewestL F a P 0 (P + 1) = mFewest F a P := hIi
    refine v_as (w' := wM cI cZ b F a) (lv' := [(0, .ref (b 0)), (1, .int (nI (2 ^ P - 1))), (2, .int (nI (P + 1)))]) rfl rfl ?_
    refine v_iload_n C 2 dM_fewest_11 rfl rfl ?_
    refine v_aload_n C 0 dM_fewest_12 rfl rfl ?_
    refine v_get C (T := TcM) (N := 18) (ci := 2) (v := .int (F 0)) inM_fewest_M 0 rfl rfl 0 (by decide) (by decide +kernel) rfl rfl dM_fewest_13 ?_
    refine v_top (y := nI P) hp ?_
    refine v_icmp_gt C dM_fewest_16 (tgt := 60) (by decide) (fun _ => ?_) (fun h => absurd (nI_lt (a := P) (b := P + 1) (by omega) (by omega)) h)
    refine v_iload_n C 1 dM_fewest_60 rfl rfl ?_
    exact v_irr C hr (by rw [← hIi]; simp only [mFewestL]) dM_fewest_61
set_option maxHeartbeats 4000000 in
set_option maxRecDepth 100000 in
theorem c_mPlan (l : Launch) (D : va_G) (cI cZ cJ : ClassId) (b : Nat → Nat) (F : FT) (a : AT) (P : Nat) (hp : F 0 = nI P) (hp6 : P ≤ 6) : Ki l yM_plan wM_plan ({ frames := 3, cells := 0, slots := 0, locals := 68 } : Room) D vwCl (tyG cI cZ cJ) [.ref (b 0)] (wM cI cZ b F a) ((mPlan F a P).1) (wM cI cZ b ((mPlan F a P).2.1) ((mPlan F a P).2.2)) := by
  intro sz
  refine v_ent (cc := bM_plan) (maxL := 2) (ret := (some .int)) (Qc := (fun A => va_Qi (fun (x9 : Int32) (_ : Unit) => x9 = (mPlan F a P).1) (fun _ => wB D vwCl (tyG cI cZ cJ) A (wM cI cZ b ((mPlan F a P).2.1) ((mPlan F a P).2.2))) A)) (fr := (fun A => A)) (own := RcM) rfl (by decide) rfl (Nat.le_of_ble_eq_true rfl) rfl ?_
  intro p e s m args below meth c A C hr _
  refine v_free ?_
  refine v_aload_n C 0 dM_plan_0 rfl rfl ?_
  refine v_iconst C (v := 0) dM_plan_1 (by decide) ?_
  refine v_put C (T := TcM) (N := 18) (ci := 2) (v := .int 0) inM_plan_M tycM tycM_ok nmcM 0 rfl rfl 2 (by decide) (by decide +kernel) rfl rfl rfl rfl (Nat.le_of_ble_eq_true rfl) dM_plan_2 (w1 := wM cI cZ b (upd F 2 0) a) rfl ?_
  refine v_aload_n C 0 dM_plan_5 rfl rfl ?_
  refine v_get C (T := TcM) (N := 18) (ci := 2) (v := .int (F 4)) inM_plan_M 0 rfl rfl 4 (by decide) (by decide +kernel) rfl rfl dM_plan_6 ?_
  refine v_if_eq C dM_plan_9 (tgt := 18) (by decide) (fun h1 => ?_) (fun h1 => ?_)
  · skip
    have hPP := pow_P hp6
    refine v_iconst C (v := 0) dM_plan_18 (by decide) ?_
    refine v_istore_n C (lv' := [(0, .ref (b 0)), (1, .int 0)]) [1, 0] dM_plan_19 rfl (by decide) rfl ?_
    refine v_loop0 P (fun (i : Nat) => wM cI cZ b (upd F 2 0) a) (fun (i : Nat) => [(0, .ref (b 0)), (1, .int (nI i))]) (fun (ki i : Nat) => mPlanL F a P ki i = mPlan F a P) ?_ ?_ P 0  (by omega) (by unfold mPlan; rw [if_pos h1])
    · skip
      intro ki i hki hIi ihi
      have hIi : mPlanL F a P (ki + 1) i = mPlan F a P := hIi
      refine v_as (w' := wM cI cZ b (upd F 2 0) a) (lv' := [(0, .ref (b 0)), (1, .int (nI i))]) rfl rfl ?_
      refine v_iload_n C 1 dM_plan_20 rfl rfl ?_
      refine v_aload_n C 0 dM_plan_21 rfl rfl ?_
      refine v_get C (T := TcM) (N := 18) (ci := 2) (v := .int (F 0)) inM_plan_M 0 rfl rfl 0 (by decide) (by decide +kernel) rfl rfl dM_plan_22 ?_
      refine v_top (y := nI P) hp ?_
      refine v_icmp_ge C dM_plan_25 (tgt := 56) (by decide) (fun h => absurd h (nI_ge (a := i) (b := P) (by omega) (by omega))) (fun _ => ?_)
      refine v_aload_n C 0 dM_plan_28 rfl rfl ?_
      refine v_iload_n C 1 dM_plan_29 rfl rfl ?_
      refine v_cVrF (As := [.int (nI i)]) C (c_mReached l D cI cZ cJ b (upd F 2 0) a P (nI i) hp hp6) (cwV 1 C.2.2.2.2.1 gM_plan_M_reached rfl rfl rfl (by decide +kernel) ⟨Nat.le_of_ble_eq_true rfl, Nat.le_of_ble_eq_true rfl⟩) 0 rfl (T := TcM) (N := 18) rfl rfl rfl (Nat.le_of_ble_eq_true rfl) ⟨Nat.zero_le _, Nat.zero_le _⟩ dM_plan_30 ?_
      refine v_iconst C (v := 1) dM_plan_33 (by decide) ?_
      refine v_aload_n C 0 dM_plan_34 rfl rfl ?_
      refine v_get C (T := TcM) (N := 18) (ci := 2) (v := .int (F 0)) inM_plan_M 0 rfl rfl 0 (by decide) (by decide +kernel) rfl rfl dM_plan_35 ?_
      refine v_top (y := nI P) hp ?_
      refine v_ishl C dM_plan_38 ?_
      refine v_top (y := nI (2 ^ P)) (shl_P hp6) ?_
      refine v_iconst C (v := 1) dM_plan_39 (by decide) ?_
      refine v_isub C dM_plan_40 ?_
      refine v_top (y := nI (2 ^ P - 1)) (pw_sub hp6) ?_
      refine v_icmp_eq C dM_plan_41 (tgt := 50) (by decide) (fun h2 => ?_) (fun h2 => ?_)
      · skip
        refine v_iinc C (v := nI (i + 1)) (lv' := [(0, .ref (b 0)), (1, .int (nI (i + 1)))]) 1 [1, 0] dM_plan_50 rfl (nI_1 i) (by decide) rfl ?_
        refine v_goto C dM_plan_53 (tgt := 20) (by decide) ?_
        have hL : mPlanL F a P ki (i + 1) = mPlan F a P := (by rw [← hIi]; simp only [mPlanL]; rw [if_pos h2])
        exact ihi  hL
      · skip
        refine v_aload_n C 0 dM_plan_44 rfl rfl ?_
        refine v_iconst C (v := 2) dM_plan_45 (by decide) ?_
        refine v_cViF (As := [.int 2]) C (c_mFail l D cI cZ cJ b (upd F 2 0) a 2) (cwV 1 C.2.2.2.2.1 gM_plan_M_fail rfl rfl rfl (by decide +kernel) ⟨Nat.le_of_ble_eq_true rfl, Nat.le_of_ble_eq_true rfl⟩) 0 rfl (T := TcM) (N := 18) rfl rfl rfl (Nat.le_of_ble_eq_true rfl) ⟨Nat.zero_le _, Nat.zero_le _⟩ dM_plan_46 ?_
        have hE : ((mFail (upd F 2 0) a 2).1, (mFail (upd F 2 0) a 2).2, a) = mPlan F a P := (by rw [← hIi]; simp only [mPlanL]; rw [if_neg h2])
        exact v_iret C hr (by rw [← hE]) (by rw [← hE]) dM_plan_49
    · skip
      intro hIi
      have hIi : mPlanL F a P 0 P = mPlan F a P := hIi
      refine v_as (w' := wM cI cZ b (upd F 2 0) a) (lv' := [(0, .ref (b 0)), (1, .int (nI P))]) rfl rfl ?_
      refine v_iload_n C 1 dM_plan_20 rfl rfl ?_
      refine v_aload_n C 0 dM_plan_21 rfl rfl ?_
      refine v_get C (T := TcM) (N := 18) (ci := 2) (v := .int (F 0)) inM_plan_M 0 rfl rfl 0 (by decide) (by decide +kernel) rfl rfl dM_plan_22 ?_
      refine v_top (y := nI P) hp ?_
      refine v_icmp_ge C dM_plan_25 (tgt := 56) (by decide) (fun _ => ?_) (fun h => absurd (nI_le (a := P) (b := P) (by omega) (by omega)) h)
      refine v_aload_n C 0 dM_plan_56 rfl rfl ?_
      refine v_iconst C (v := 1) dM_plan_57 (by decide) ?_
      refine v_put C (T := TcM) (N := 18) (ci := 2) (v := .int 1) inM_plan_M tycM tycM_ok nmcM 0 rfl rfl 4 (by decide) (by decide +kernel) rfl rfl (by decide) (by rfl) (Nat.le_of_ble_eq_true rfl) dM_plan_58 (w1 := wM cI cZ b (upd (upd F 2 0) 4 1) a) rfl ?_
      refine v_aload_n C 0 dM_plan_61 rfl rfl ?_
      refine v_aload_n C 0 dM_plan_62 rfl rfl ?_
      refine v_get C (T := TcM) (N := 18) (ci := 2) (v := .int (F 3)) inM_plan_M 0 rfl rfl 3 (by decide) (by decide +kernel) rfl rfl dM_plan_63 ?_
      refine v_put C (T := TcM) (N := 18) (ci := 2) (v := .int (F 3)) inM_plan_M tycM tycM_ok nmcM 0 rfl rfl 5 (by decide) (by decide +kernel) rfl rfl rfl rfl (Nat.le_of_ble_eq_true rfl) dM_plan_66 (w1 := wM cI cZ b (upd (upd (upd F 2 0) 4 1) 5 (F 3)) a) rfl ?_
      refine v_aload_n C 0 dM_plan_69 rfl rfl ?_
      refine v_aload_n C 0 dM_plan_70 rfl rfl ?_
      refine v_cViF (As := []) C (c_mGreat l D cI cZ cJ b (upd (upd (upd F 2 0) 4 1) 5 (F 3)) a P hp hp6) (cwV 0 C.2.2.2.2.1 gM_plan_M_greatest rfl rfl rfl (by decide +kernel) ⟨Nat.le_of_ble_eq_true rfl, Nat.le_of_ble_eq_true rfl⟩) 0 rfl (T := TcM) (N := 18) rfl rfl rfl (Nat.le_of_ble_eq_true rfl) ⟨Nat.zero_le _, Nat.zero_le _⟩ dM_plan_71 ?_
      refine v_put C (T := TcM) (N := 18) (ci := 2) (v := .int ((mGreat (upd (upd (upd F 2 0) 4 1) 5 (F 3)) a P).1)) inM_plan_M tycM tycM_ok nmcM 0 rfl rfl 6 (by decide) (by decide +kernel) rfl rfl rfl rfl (Nat.le_of_ble_eq_true rfl) dM_plan_74 (w1 := wM cI cZ b (upd (upd (upd (upd F 2 0) 4 1) 5 (F 3)) 6 ((mGreat (upd (upd (upd F 2 0) 4 1) 5 (F 3)) a P).1)) ((mGreat (upd (upd (upd F 2 0) 4 1) 5 (F 3)) a P).2)) rfl ?_
      refine v_aload_n C 0 dM_plan_77 rfl rfl ?_
      refine v_aload_n C 0 dM_plan_78 rfl rfl ?_
      refine v_cVrF (As := []) C (c_mFewest l D cI cZ cJ b (upd (upd (upd (upd F 2 0) 4 1) 5 (F 3)) 6 ((mGreat (upd (upd (upd F 2 0) 4 1) 5 (F 3)) a P).1)) ((mGreat (upd (upd (upd F 2 0) 4 1) 5 (F 3)) a P).2) P hp hp6) (cwV 0 C.2.2.2.2.1 gM_plan_M_fewest rfl rfl rfl (by decide +kernel) ⟨Nat.le_of_ble_eq_true rfl, Nat.le_of_ble_eq_true rfl⟩) 0 rfl (T := TcM) (N := 18) rfl rfl rfl (Nat.le_of_ble_eq_true rfl) ⟨Nat.zero_le _, Nat.zero_le _⟩ dM_plan_79 ?_
      refine v_put C (T := TcM) (N := 18) (ci := 2) (v := .int (mFewest (upd (upd (upd (upd F 2 0) 4 1) 5 (F 3)) 6 ((mGreat (upd (upd (upd F 2 0) 4 1) 5 (F 3)) a P).1)) ((mGreat (upd (upd (upd F 2 0) 4 1) 5 (F 3)) a P).2) P)) inM_plan_M tycM tycM_ok nmcM 0 rfl rfl 7 (by decide) (by decide +kernel) rfl rfl rfl rfl (Nat.le_of_ble_eq_true rfl) dM_plan_82 (w1 := wM cI cZ b (upd (upd (upd (upd (upd F 2 0) 4 1) 5 (F 3)) 6 ((mGreat (upd (upd (upd F 2 0) 4 1) 5 (F 3)) a P).1)) 7 (mFewest (upd (upd (upd (upd F 2 0) 4 1) 5 (F 3)) 6 ((mGreat (upd (upd (upd F 2 0) 4 1) 5 (F 3)) a P).1)) ((mGreat (upd (upd (upd F 2 0) 4 1) 5 (F 3)) a P).2) P)) ((mGreat (upd (upd (upd F 2 0) 4 1) 5 (F 3)) a P).2)) rfl ?_
      refine v_aload_n C 0 dM_plan_85 rfl rfl ?_
      refine v_get C (T := TcM) (N := 18) (ci := 2) (v := .int ((mGreat (upd (upd (upd F 2 0) 4 1) 5 (F 3)) a P).1)) inM_plan_M 0 rfl rfl 6 (by decide) (by decide +kernel) rfl rfl dM_plan_86 ?_
      have hE : ((mGreat (upd (upd (upd F 2 0) 4 1) 5 (F 3)) a P).1, upd (upd (upd (upd (upd F 2 0) 4 1) 5 (F 3)) 6 ((mGreat (upd (upd (upd F 2 0) 4 1) 5 (F 3)) a P).1)) 7 (mFewest (upd (upd (upd (upd F 2 0) 4 1) 5 (F 3)) 6 ((mGreat (upd (upd (upd F 2 0) 4 1) 5 (F 3)) a P).1)) ((mGreat (upd (upd (upd F 2 0) 4 1) 5 (F 3)) a P).2) P), (mGreat (upd (upd (upd F 2 0) 4 1) 5 (F 3)) a P).2) = mPlan F a P := (by rw [← hIi]; simp only [mPlanL])
      exact v_iret C hr (by rw [← hE]) (by rw [← hE]) dM_plan_89
  · skip
    refine v_aload_n C 0 dM_plan_12 rfl rfl ?_
    refine v_iconst C (v := 1) dM_plan_13 (by decide) ?_
    refine v_cViF (As := [.int 1]) C (c_mFail l D cI cZ cJ b (upd F 2 0) a 1) (cwV 1 C.2.2.2.2.1 gM_plan_M_fail rfl rfl rfl (by decide +kernel) ⟨Nat.le_of_ble_eq_true rfl, Nat.le_of_ble_eq_true rfl⟩) 0 rfl (T := TcM) (N := 18) rfl rfl rfl (Nat.le_of_ble_eq_true rfl) ⟨Nat.zero_le _, Nat.zero_le _⟩ dM_plan_14 ?_
    have hE : ((mFail (upd F 2 0) a 1).1, (mFail (upd F 2 0) a 1).2, a) = mPlan F a P := (by unfold mPlan; rw [if_neg h1])
    exact v_iret C hr (by rw [← hE]) (by rw [← hE]) dM_plan_17
set_option maxHeartbeats 4000000 in
set_option maxRecDepth 100000 in
theorem c_mDeploy (l : Launch) (D : va_G) (cI cZ cJ : ClassId) (b : Nat → Nat) (F : FT) (a : AT) (n : Nat) (x : Int32) (hn : F 9 = nI n) (hn4 : n ≤ 14) : Kv l yM_deploy wM_deploy ({ frames := 1, cells := 0, slots := 0, locals := 21 } : Room) D vwCl (tyG cI cZ cJ) [.ref (b 0), .int x] (wM cI cZ b F a) (wM cI cZ b ((mDeploy F a x).1) ((mDeploy F a x).2)) := by
  intro sz
  refine v_ent (cc := bM_deploy) (maxL := 2) (ret := none) (Qc := (fun A => va_Qv (fun (_ : Unit) => True) (fun _ => wB D vwCl (tyG cI cZ cJ) A (wM cI cZ b ((mDeploy F a x).1) ((mDeploy F a x).2))) A)) (fr := (fun A => A)) (own := RcM) rfl (by decide) rfl (Nat.le_of_ble_eq_true rfl) rfl ?_
  intro p e s m args below meth c A C hr _
  refine v_free ?_
  refine v_aload_n C 0 dM_deploy_0 rfl rfl ?_
  refine v_aload_n C 0 dM_deploy_1 rfl rfl ?_
  refine v_iload_n C 1 dM_deploy_2 rfl rfl ?_
  refine v_cVrF (As := [.int x]) C (c_mIsArc l D cI cZ cJ b F a x) (cwV 1 C.2.2.2.2.1 gM_deploy_M_isArc rfl rfl rfl (by decide +kernel) ⟨Nat.le_of_ble_eq_true rfl, Nat.le_of_ble_eq_true rfl⟩) 0 rfl (T := TcM) (N := 18) rfl rfl rfl (Nat.le_of_ble_eq_true rfl) ⟨Nat.zero_le _, Nat.zero_le _⟩ dM_deploy_3 ?_
  refine v_if_ne C dM_deploy_6 (tgt := 13) (by decide) (fun h1 => ?_) (fun h1 => ?_)
  · skip
    have hx : vp_in x 14 := vp_arcM (by assumption) hn hn4
    refine v_aload_n C 0 dM_deploy_13 rfl rfl ?_
    refine v_get C (T := TcM) (N := 18) (ci := 2) (v := .int (F 4)) inM_deploy_M 0 rfl rfl 4 (by decide) (by decide +kernel) rfl rfl dM_deploy_14 ?_
    refine v_if_eq C dM_deploy_17 (tgt := 29) (by decide) (fun h2 => ?_) (fun h2 => ?_)
    · skip
      refine v_iconst C (v := 2) dM_deploy_29 (by decide) ?_
      refine v_goto C dM_deploy_30 (tgt := 34) (by decide) ?_
      refine v_put C (T := TcM) (N := 18) (ci := 2) (v := .int 2) inM_deploy_M tycM tycM_ok nmcM 0 rfl rfl 2 (by decide) (by decide +kernel) rfl rfl rfl rfl (Nat.le_of_ble_eq_true rfl) dM_deploy_34 (w1 := wM cI cZ b (upd F 2 2) a) rfl ?_
      refine v_aload_n C 0 dM_deploy_37 rfl rfl ?_
      refine v_get C (T := TcM) (N := 18) (ci := 2) (v := .int 2) inM_deploy_M 0 rfl rfl 2 (by decide) (by decide +kernel) rfl rfl dM_deploy_38 ?_
      refine v_if_ne C dM_deploy_41 (tgt := 51) (by decide) (fun _ => ?_) (fun h => absurd h (by decide))
      have hE : (upd F 2 2, a) = mDeploy F a x := (by unfold mDeploy; rw [if_neg h1, if_pos h2])
      exact v_vret C hr (by rw [← hE]) dM_deploy_51
    · skip
      refine v_aload_n C 0 dM_deploy_20 rfl rfl ?_
      refine v_get C (T := TcM) (N := 18) (ci := 2) (v := .ref (b 3)) inM_deploy_M 0 rfl rfl 12 (by decide) (by decide +kernel) rfl rfl dM_deploy_21 ?_
      refine v_iload_n C 1 dM_deploy_24 rfl rfl ?_
      refine v_iald C 3 0 (f := a 12) (y := (a 12) x.toNatClampNeg) (j := x.toNatClampNeg) rfl rfl rfl rfl hx dM_deploy_25 ?_
      refine v_if_eq C dM_deploy_26 (tgt := 33) (by decide) (fun h3 => ?_) (fun h3 => ?_)
      · skip
        refine v_iconst C (v := 0) dM_deploy_33 (by decide) ?_
        refine v_put C (T := TcM) (N := 18) (ci := 2) (v := .int 0) inM_deploy_M tycM tycM_ok nmcM 0 rfl rfl 2 (by decide) (by decide +kernel) rfl rfl rfl rfl (Nat.le_of_ble_eq_true rfl) dM_deploy_34 (w1 := wM cI cZ b (upd F 2 0) a) rfl ?_
        refine v_aload_n C 0 dM_deploy_37 rfl rfl ?_
        refine v_get C (T := TcM) (N := 18) (ci := 2) (v := .int 0) inM_deploy_M 0 rfl rfl 2 (by decide) (by decide +kernel) rfl rfl dM_deploy_38 ?_
        refine v_if_ne C dM_deploy_41 (tgt := 51) (by decide) (fun h => absurd h (by decide)) (fun _ => ?_)
        refine v_aload_n C 0 dM_deploy_44 rfl rfl ?_
        refine v_get C (T := TcM) (N := 18) (ci := 2) (v := .ref (b 3)) inM_deploy_M 0 rfl rfl 12 (by decide) (by decide +kernel) rfl rfl dM_deploy_45 ?_
        refine v_iload_n C 1 dM_deploy_48 rfl rfl ?_
        refine v_iconst C (v := 1) dM_deploy_49 (by decide) ?_
        obtain ⟨zz1, hzz1⟩ : ∃ z9, upd (a 12) x.toNatClampNeg 1 = z9 := ⟨_, rfl⟩
        refine v_iast C 3 0 (f := a 12) (j := x.toNatClampNeg) (f1 := zz1) rfl rfl rfl hzz1 hx dM_deploy_50 (w1 := wM cI cZ b (upd F 2 0) (updA a 12 zz1)) rfl ?_
        have hE : (upd F 2 0, updA a 12 zz1) = mDeploy F a x := (by unfold mDeploy; rw [hzz1, if_neg h1, if_neg h2, if_pos h3])
        exact v_vret C hr (by rw [← hE]) dM_deploy_51
      · skip
        refine v_iconst C (v := 2) dM_deploy_29 (by decide) ?_
        refine v_goto C dM_deploy_30 (tgt := 34) (by decide) ?_
        refine v_put C (T := TcM) (N := 18) (ci := 2) (v := .int 2) inM_deploy_M tycM tycM_ok nmcM 0 rfl rfl 2 (by decide) (by decide +kernel) rfl rfl rfl rfl (Nat.le_of_ble_eq_true rfl) dM_deploy_34 (w1 := wM cI cZ b (upd F 2 2) a) rfl ?_
        refine v_aload_n C 0 dM_deploy_37 rfl rfl ?_
        refine v_get C (T := TcM) (N := 18) (ci := 2) (v := .int 2) inM_deploy_M 0 rfl rfl 2 (by decide) (by decide +kernel) rfl rfl dM_deploy_38 ?_
        refine v_if_ne C dM_deploy_41 (tgt := 51) (by decide) (fun _ => ?_) (fun h => absurd h (by decide))
        have hE : (upd F 2 2, a) = mDeploy F a x := (by unfold mDeploy; rw [if_neg h1, if_neg h2, if_neg h3])
        exact v_vret C hr (by rw [← hE]) dM_deploy_51
  · skip
    refine v_iconst C (v := 1) dM_deploy_9 (by decide) ?_
    refine v_goto C dM_deploy_10 (tgt := 34) (by decide) ?_
    refine v_put C (T := TcM) (N := 18) (ci := 2) (v := .int 1) inM_deploy_M tycM tycM_ok nmcM 0 rfl rfl 2 (by decide) (by decide +kernel) rfl rfl rfl rfl (Nat.le_of_ble_eq_true rfl) dM_deploy_34 (w1 := wM cI cZ b (upd F 2 1) a) rfl ?_
    refine v_aload_n C 0 dM_deploy_37 rfl rfl ?_
    refine v_get C (T := TcM) (N := 18) (ci := 2) (v := .int 1) inM_deploy_M 0 rfl rfl 2 (by decide) (by decide +kernel) rfl rfl dM_deploy_38 ?_
    refine v_if_ne C dM_deploy_41 (tgt := 51) (by decide) (fun _ => ?_) (fun h => absurd h (by decide))
    have hE : (upd F 2 1, a) = mDeploy F a x := (by unfold mDeploy; rw [if_pos h1])
    exact v_vret C hr (by rw [← hE]) dM_deploy_51
set_option maxHeartbeats 4000000 in
set_option maxRecDepth 100000 in
theorem c_mBack (l : Launch) (D : va_G) (cI cZ cJ : ClassId) (b : Nat → Nat) (F : FT) (a : AT) (n : Nat) (x : Int32) (hn : F 9 = nI n) (hn4 : n ≤ 14) : Kv l yM_back wM_back ({ frames := 1, cells := 0, slots := 0, locals := 21 } : Room) D vwCl (tyG cI cZ cJ) [.ref (b 0), .int x] (wM cI cZ b F a) (wM cI cZ b ((mBack F a x).1) ((mBack F a x).2)) := by
  intro sz
  refine v_ent (cc := bM_back) (maxL := 2) (ret := none) (Qc := (fun A => va_Qv (fun (_ : Unit) => True) (fun _ => wB D vwCl (tyG cI cZ cJ) A (wM cI cZ b ((mBack F a x).1) ((mBack F a x).2))) A)) (fr := (fun A => A)) (own := RcM) rfl (by decide) rfl (Nat.le_of_ble_eq_true rfl) rfl ?_
  intro p e s m args below meth c A C hr _
  refine v_free ?_
  refine v_aload_n C 0 dM_back_0 rfl rfl ?_
  refine v_aload_n C 0 dM_back_1 rfl rfl ?_
  refine v_iload_n C 1 dM_back_2 rfl rfl ?_
  refine v_cVrF (As := [.int x]) C (c_mIsArc l D cI cZ cJ b F a x) (cwV 1 C.2.2.2.2.1 gM_back_M_isArc rfl rfl rfl (by decide +kernel) ⟨Nat.le_of_ble_eq_true rfl, Nat.le_of_ble_eq_true rfl⟩) 0 rfl (T := TcM) (N := 18) rfl rfl rfl (Nat.le_of_ble_eq_true rfl) ⟨Nat.zero_le _, Nat.zero_le _⟩ dM_back_3 ?_
  refine v_if_ne C dM_back_6 (tgt := 13) (by decide) (fun h1 => ?_) (fun h1 => ?_)
  · skip
    have hx : vp_in x 14 := vp_arcM (by assumption) hn hn4
    refine v_aload_n C 0 dM_back_13 rfl rfl ?_
    refine v_get C (T := TcM) (N := 18) (ci := 2) (v := .ref (b 3)) inM_back_M 0 rfl rfl 12 (by decide) (by decide +kernel) rfl rfl dM_back_14 ?_
    refine v_iload_n C 1 dM_back_17 rfl rfl ?_
    refine v_iald C 3 0 (f := a 12) (y := (a 12) x.toNatClampNeg) (j := x.toNatClampNeg) rfl rfl rfl rfl hx dM_back_18 ?_
    refine v_iconst C (v := 1) dM_back_19 (by decide) ?_
    refine v_icmp_eq C dM_back_20 (tgt := 27) (by decide) (fun h2 => ?_) (fun h2 => ?_)
    · skip
      refine v_aload_n C 0 dM_back_27 rfl rfl ?_
      refine v_cVrF (As := []) C (c_mIsLate l D cI cZ cJ b F a) (cwV 0 C.2.2.2.2.1 gM_back_M_isLate rfl rfl rfl (by decide +kernel) ⟨Nat.le_of_ble_eq_true rfl, Nat.le_of_ble_eq_true rfl⟩) 0 rfl (T := TcM) (N := 18) rfl rfl rfl (Nat.le_of_ble_eq_true rfl) ⟨Nat.zero_le _, Nat.zero_le _⟩ dM_back_28 ?_
      refine v_if_ne C dM_back_31 (tgt := 38) (by decide) (fun h3 => ?_) (fun h3 => ?_)
      · skip
        refine v_iconst C (v := 0) dM_back_38 (by decide) ?_
        refine v_put C (T := TcM) (N := 18) (ci := 2) (v := .int 0) inM_back_M tycM tycM_ok nmcM 0 rfl rfl 2 (by decide) (by decide +kernel) rfl rfl rfl rfl (Nat.le_of_ble_eq_true rfl) dM_back_39 (w1 := wM cI cZ b (upd F 2 0) a) rfl ?_
        refine v_aload_n C 0 dM_back_42 rfl rfl ?_
        refine v_get C (T := TcM) (N := 18) (ci := 2) (v := .int 0) inM_back_M 0 rfl rfl 2 (by decide) (by decide +kernel) rfl rfl dM_back_43 ?_
        refine v_if_ne C dM_back_46 (tgt := 56) (by decide) (fun h => absurd h (by decide)) (fun _ => ?_)
        refine v_aload_n C 0 dM_back_49 rfl rfl ?_
        refine v_get C (T := TcM) (N := 18) (ci := 2) (v := .ref (b 3)) inM_back_M 0 rfl rfl 12 (by decide) (by decide +kernel) rfl rfl dM_back_50 ?_
        refine v_iload_n C 1 dM_back_53 rfl rfl ?_
        refine v_iconst C (v := 3) dM_back_54 (by decide) ?_
        obtain ⟨zz1, hzz1⟩ : ∃ z9, upd (a 12) x.toNatClampNeg 3 = z9 := ⟨_, rfl⟩
        refine v_iast C 3 0 (f := a 12) (j := x.toNatClampNeg) (f1 := zz1) rfl rfl rfl hzz1 hx dM_back_55 (w1 := wM cI cZ b (upd F 2 0) (updA a 12 zz1)) rfl ?_
        have hE : (upd F 2 0, updA a 12 zz1) = mBack F a x := (by unfold mBack; rw [hzz1, if_neg h1, if_pos h2, if_neg h3])
        exact v_vret C hr (by rw [← hE]) dM_back_56
      · skip
        refine v_iconst C (v := 3) dM_back_34 (by decide) ?_
        refine v_goto C dM_back_35 (tgt := 39) (by decide) ?_
        refine v_put C (T := TcM) (N := 18) (ci := 2) (v := .int 3) inM_back_M tycM tycM_ok nmcM 0 rfl rfl 2 (by decide) (by decide +kernel) rfl rfl rfl rfl (Nat.le_of_ble_eq_true rfl) dM_back_39 (w1 := wM cI cZ b (upd F 2 3) a) rfl ?_
        refine v_aload_n C 0 dM_back_42 rfl rfl ?_
        refine v_get C (T := TcM) (N := 18) (ci := 2) (v := .int 3) inM_back_M 0 rfl rfl 2 (by decide) (by decide +kernel) rfl rfl dM_back_43 ?_
        refine v_if_ne C dM_back_46 (tgt := 56) (by decide) (fun _ => ?_) (fun h => absurd h (by decide))
        have hE : (upd F 2 3, a) = mBack F a x := (by unfold mBack; rw [if_neg h1, if_pos h2, if_pos h3])
        exact v_vret C hr (by rw [← hE]) dM_back_56
    · skip
      refine v_iconst C (v := 2) dM_back_23 (by decide) ?_
      refine v_goto C dM_back_24 (tgt := 39) (by decide) ?_
      refine v_put C (T := TcM) (N := 18) (ci := 2) (v := .int 2) inM_back_M tycM tycM_ok nmcM 0 rfl rfl 2 (by decide) (by decide +kernel) rfl rfl rfl rfl (Nat.le_of_ble_eq_true rfl) dM_back_39 (w1 := wM cI cZ b (upd F 2 2) a) rfl ?_
      refine v_aload_n C 0 dM_back_42 rfl rfl ?_
      refine v_get C (T := TcM) (N := 18) (ci := 2) (v := .int 2) inM_back_M 0 rfl rfl 2 (by decide) (by decide +kernel) rfl rfl dM_back_43 ?_
      refine v_if_ne C dM_back_46 (tgt := 56) (by decide) (fun _ => ?_) (fun h => absurd h (by decide))
      have hE : (upd F 2 2, a) = mBack F a x := (by unfold mBack; rw [if_neg h1, if_neg h2])
      exact v_vret C hr (by rw [← hE]) dM_back_56
  · skip
    refine v_iconst C (v := 1) dM_back_9 (by decide) ?_
    refine v_goto C dM_back_10 (tgt := 39) (by decide) ?_
    refine v_put C (T := TcM) (N := 18) (ci := 2) (v := .int 1) inM_back_M tycM tycM_ok nmcM 0 rfl rfl 2 (by decide) (by decide +kernel) rfl rfl rfl rfl (Nat.le_of_ble_eq_true rfl) dM_back_39 (w1 := wM cI cZ b (upd F 2 1) a) rfl ?_
    refine v_aload_n C 0 dM_back_42 rfl rfl ?_
    refine v_get C (T := TcM) (N := 18) (ci := 2) (v := .int 1) inM_back_M 0 rfl rfl 2 (by decide) (by decide +kernel) rfl rfl dM_back_43 ?_
    refine v_if_ne C dM_back_46 (tgt := 56) (by decide) (fun _ => ?_) (fun h => absurd h (by decide))
    have hE : (upd F 2 1, a) = mBack F a x := (by unfold mBack; rw [if_pos h1])
    exact v_vret C hr (by rw [← hE]) dM_back_56
end
section
theorem dM_state_0 : decode bM_state 0 = .ok (.aload_n 0, 1) := by decide +kernel
theorem dM_state_1 : decode bM_state 1 = .ok (.iconst 0, 1) := by decide +kernel
theorem dM_state_2 : decode bM_state 2 = .ok (.putfield 39, 3) := by decide +kernel
theorem dM_state_5 : decode bM_state 5 = .ok (.aload_n 0, 1) := by decide +kernel
theorem dM_state_6 : decode bM_state 6 = .ok (.iload_n 1, 1) := by decide +kernel
theorem dM_state_7 : decode bM_state 7 = .ok (.invokevirtual 130, 3) := by decide +kernel
theorem dM_state_10 : decode bM_state 10 = .ok (.ifCond .eq 12, 3) := by decide +kernel
theorem dM_state_13 : decode bM_state 13 = .ok (.aload_n 0, 1) := by decide +kernel
theorem dM_state_14 : decode bM_state 14 = .ok (.getfield 16, 3) := by decide +kernel
theorem dM_state_17 : decode bM_state 17 = .ok (.iload_n 1, 1) := by decide +kernel
theorem dM_state_18 : decode bM_state 18 = .ok (.iaload, 1) := by decide +kernel
theorem dM_state_19 : decode bM_state 19 = .ok (.goto 8, 3) := by decide +kernel
theorem dM_state_22 : decode bM_state 22 = .ok (.aload_n 0, 1) := by decide +kernel
theorem dM_state_23 : decode bM_state 23 = .ok (.iconst 1, 1) := by decide +kernel
theorem dM_state_24 : decode bM_state 24 = .ok (.invokevirtual 53, 3) := by decide +kernel
theorem dM_state_27 : decode bM_state 27 = .ok (.ireturn, 1) := by decide +kernel
theorem dM_open_0 : decode bM_open 0 = .ok (.aload_n 0, 1) := by decide +kernel
theorem dM_open_1 : decode bM_open 1 = .ok (.iconst 0, 1) := by decide +kernel
theorem dM_open_2 : decode bM_open 2 = .ok (.putfield 39, 3) := by decide +kernel
theorem dM_open_5 : decode bM_open 5 = .ok (.aload_n 0, 1) := by decide +kernel
theorem dM_open_6 : decode bM_open 6 = .ok (.iload_n 1, 1) := by decide +kernel
theorem dM_open_7 : decode bM_open 7 = .ok (.invokevirtual 130, 3) := by decide +kernel
theorem dM_open_10 : decode bM_open 10 = .ok (.ifCond .eq 12, 3) := by decide +kernel
theorem dM_open_13 : decode bM_open 13 = .ok (.aload_n 0, 1) := by decide +kernel
theorem dM_open_14 : decode bM_open 14 = .ok (.getfield 19, 3) := by decide +kernel
theorem dM_open_17 : decode bM_open 17 = .ok (.iload_n 1, 1) := by decide +kernel
theorem dM_open_18 : decode bM_open 18 = .ok (.iaload, 1) := by decide +kernel
theorem dM_open_19 : decode bM_open 19 = .ok (.goto 8, 3) := by decide +kernel
theorem dM_open_22 : decode bM_open 22 = .ok (.aload_n 0, 1) := by decide +kernel
theorem dM_open_23 : decode bM_open 23 = .ok (.iconst 1, 1) := by decide +kernel
theorem dM_open_24 : decode bM_open 24 = .ok (.invokevirtual 53, 3) := by decide +kernel
theorem dM_open_27 : decode bM_open 27 = .ok (.ireturn, 1) := by decide +kernel
theorem dM_key_0 : decode bM_key 0 = .ok (.aload_n 0, 1) := by decide +kernel
theorem dM_key_1 : decode bM_key 1 = .ok (.iconst 0, 1) := by decide +kernel
theorem dM_key_2 : decode bM_key 2 = .ok (.putfield 39, 3) := by decide +kernel
theorem dM_key_5 : decode bM_key 5 = .ok (.aload_n 0, 1) := by decide +kernel
theorem dM_key_6 : decode bM_key 6 = .ok (.iload_n 1, 1) := by decide +kernel
theorem dM_key_7 : decode bM_key 7 = .ok (.invokevirtual 130, 3) := by decide +kernel
theorem dM_key_10 : decode bM_key 10 = .ok (.ifCond .ne 9, 3) := by decide +kernel
theorem dM_key_13 : decode bM_key 13 = .ok (.aload_n 0, 1) := by decide +kernel
theorem dM_key_14 : decode bM_key 14 = .ok (.iconst 1, 1) := by decide +kernel
theorem dM_key_15 : decode bM_key 15 = .ok (.invokevirtual 53, 3) := by decide +kernel
theorem dM_key_18 : decode bM_key 18 = .ok (.ireturn, 1) := by decide +kernel
theorem dM_key_19 : decode bM_key 19 = .ok (.aload_n 0, 1) := by decide +kernel
theorem dM_key_20 : decode bM_key 20 = .ok (.iload_n 2, 1) := by decide +kernel
theorem dM_key_21 : decode bM_key 21 = .ok (.invokevirtual 45, 3) := by decide +kernel
theorem dM_key_24 : decode bM_key 24 = .ok (.ifCond .eq 16, 3) := by decide +kernel
theorem dM_key_27 : decode bM_key 27 = .ok (.aload_n 0, 1) := by decide +kernel
theorem dM_key_28 : decode bM_key 28 = .ok (.getfield 19, 3) := by decide +kernel
theorem dM_key_31 : decode bM_key 31 = .ok (.iload_n 1, 1) := by decide +kernel
theorem dM_key_32 : decode bM_key 32 = .ok (.iaload, 1) := by decide +kernel
theorem dM_key_33 : decode bM_key 33 = .ok (.iload_n 2, 1) := by decide +kernel
theorem dM_key_34 : decode bM_key 34 = .ok (.invokestatic 49, 3) := by decide +kernel
theorem dM_key_37 : decode bM_key 37 = .ok (.ifCond .ne 5, 3) := by decide +kernel
theorem dM_key_40 : decode bM_key 40 = .ok (.iconst (-1), 1) := by decide +kernel
theorem dM_key_41 : decode bM_key 41 = .ok (.ireturn, 1) := by decide +kernel
theorem dM_key_42 : decode bM_key 42 = .ok (.aload_n 0, 1) := by decide +kernel
theorem dM_key_43 : decode bM_key 43 = .ok (.getfield 22, 3) := by decide +kernel
theorem dM_key_46 : decode bM_key 46 = .ok (.bipush 6, 2) := by decide +kernel
theorem dM_key_48 : decode bM_key 48 = .ok (.iload_n 1, 1) := by decide +kernel
theorem dM_key_49 : decode bM_key 49 = .ok (.imul, 1) := by decide +kernel
theorem dM_key_50 : decode bM_key 50 = .ok (.iload_n 2, 1) := by decide +kernel
theorem dM_key_51 : decode bM_key 51 = .ok (.iadd, 1) := by decide +kernel
theorem dM_key_52 : decode bM_key 52 = .ok (.iaload, 1) := by decide +kernel
theorem dM_key_53 : decode bM_key 53 = .ok (.istore 4, 2) := by decide +kernel
theorem dM_key_55 : decode bM_key 55 = .ok (.iload_n 3, 1) := by decide +kernel
theorem dM_key_56 : decode bM_key 56 = .ok (.ifCond .lt 21, 3) := by decide +kernel
theorem dM_key_59 : decode bM_key 59 = .ok (.iload_n 3, 1) := by decide +kernel
theorem dM_key_60 : decode bM_key 60 = .ok (.iload 4, 2) := by decide +kernel
theorem dM_key_62 : decode bM_key 62 = .ok (.invokestatic 89, 3) := by decide +kernel
theorem dM_key_65 : decode bM_key 65 = .ok (.if_icmp .ge 12, 3) := by decide +kernel
theorem dM_key_68 : decode bM_key 68 = .ok (.iload 4, 2) := by decide +kernel
theorem dM_key_70 : decode bM_key 70 = .ok (.iload_n 3, 1) := by decide +kernel
theorem dM_key_71 : decode bM_key 71 = .ok (.invokestatic 92, 3) := by decide +kernel
theorem dM_key_74 : decode bM_key 74 = .ok (.goto 4, 3) := by decide +kernel
theorem dM_key_77 : decode bM_key 77 = .ok (.iconst (-1), 1) := by decide +kernel
theorem dM_key_78 : decode bM_key 78 = .ok (.ireturn, 1) := by decide +kernel
theorem dM_outcome_0 : decode bM_outcome 0 = .ok (.aload_n 0, 1) := by decide +kernel
theorem dM_outcome_1 : decode bM_outcome 1 = .ok (.iconst 0, 1) := by decide +kernel
theorem dM_outcome_2 : decode bM_outcome 2 = .ok (.putfield 39, 3) := by decide +kernel
theorem dM_outcome_5 : decode bM_outcome 5 = .ok (.aload_n 0, 1) := by decide +kernel
theorem dM_outcome_6 : decode bM_outcome 6 = .ok (.iload_n 1, 1) := by decide +kernel
theorem dM_outcome_7 : decode bM_outcome 7 = .ok (.invokevirtual 45, 3) := by decide +kernel
theorem dM_outcome_10 : decode bM_outcome 10 = .ok (.ifCond .ne 9, 3) := by decide +kernel
theorem dM_outcome_13 : decode bM_outcome 13 = .ok (.aload_n 0, 1) := by decide +kernel
theorem dM_outcome_14 : decode bM_outcome 14 = .ok (.iconst 1, 1) := by decide +kernel
theorem dM_outcome_15 : decode bM_outcome 15 = .ok (.invokevirtual 53, 3) := by decide +kernel
theorem dM_outcome_18 : decode bM_outcome 18 = .ok (.ireturn, 1) := by decide +kernel
theorem dM_outcome_19 : decode bM_outcome 19 = .ok (.iconst 0, 1) := by decide +kernel
theorem dM_outcome_20 : decode bM_outcome 20 = .ok (.istore_n 2, 1) := by decide +kernel
theorem dM_outcome_21 : decode bM_outcome 21 = .ok (.iconst 0, 1) := by decide +kernel
theorem dM_outcome_22 : decode bM_outcome 22 = .ok (.istore_n 3, 1) := by decide +kernel
theorem dM_outcome_23 : decode bM_outcome 23 = .ok (.iconst 0, 1) := by decide +kernel
theorem dM_outcome_24 : decode bM_outcome 24 = .ok (.istore 4, 2) := by decide +kernel
theorem dM_outcome_26 : decode bM_outcome 26 = .ok (.iconst 0, 1) := by decide +kernel
theorem dM_outcome_27 : decode bM_outcome 27 = .ok (.istore 5, 2) := by decide +kernel
theorem dM_outcome_29 : decode bM_outcome 29 = .ok (.iconst 0, 1) := by decide +kernel
theorem dM_outcome_30 : decode bM_outcome 30 = .ok (.istore 6, 2) := by decide +kernel
theorem dM_outcome_32 : decode bM_outcome 32 = .ok (.iload 6, 2) := by decide +kernel
theorem dM_outcome_34 : decode bM_outcome 34 = .ok (.aload_n 0, 1) := by decide +kernel
theorem dM_outcome_35 : decode bM_outcome 35 = .ok (.getfield 42, 3) := by decide +kernel
theorem dM_outcome_38 : decode bM_outcome 38 = .ok (.if_icmp .ge 93, 3) := by decide +kernel
theorem dM_outcome_41 : decode bM_outcome 41 = .ok (.aload_n 0, 1) := by decide +kernel
theorem dM_outcome_42 : decode bM_outcome 42 = .ok (.getfield 16, 3) := by decide +kernel
theorem dM_outcome_45 : decode bM_outcome 45 = .ok (.iload 6, 2) := by decide +kernel
theorem dM_outcome_47 : decode bM_outcome 47 = .ok (.iaload, 1) := by decide +kernel
theorem dM_outcome_48 : decode bM_outcome 48 = .ok (.iconst 2, 1) := by decide +kernel
theorem dM_outcome_49 : decode bM_outcome 49 = .ok (.if_icmp .ne 7, 3) := by decide +kernel
theorem dM_outcome_52 : decode bM_outcome 52 = .ok (.iconst 1, 1) := by decide +kernel
theorem dM_outcome_53 : decode bM_outcome 53 = .ok (.goto 4, 3) := by decide +kernel
theorem dM_outcome_56 : decode bM_outcome 56 = .ok (.iconst 0, 1) := by decide +kernel
theorem dM_outcome_57 : decode bM_outcome 57 = .ok (.istore 7, 2) := by decide +kernel
theorem dM_outcome_59 : decode bM_outcome 59 = .ok (.aload_n 0, 1) := by decide +kernel
theorem dM_outcome_60 : decode bM_outcome 60 = .ok (.getfield 13, 3) := by decide +kernel
theorem dM_outcome_63 : decode bM_outcome 63 = .ok (.iload 6, 2) := by decide +kernel
theorem dM_outcome_65 : decode bM_outcome 65 = .ok (.iaload, 1) := by decide +kernel
theorem dM_outcome_66 : decode bM_outcome 66 = .ok (.iload_n 1, 1) := by decide +kernel
theorem dM_outcome_67 : decode bM_outcome 67 = .ok (.if_icmp .ne 6, 3) := by decide +kernel
theorem dM_outcome_70 : decode bM_outcome 70 = .ok (.iinc 4 1, 3) := by decide +kernel
theorem dM_outcome_73 : decode bM_outcome 73 = .ok (.aload_n 0, 1) := by decide +kernel
theorem dM_outcome_74 : decode bM_outcome 74 = .ok (.getfield 7, 3) := by decide +kernel
theorem dM_outcome_77 : decode bM_outcome 77 = .ok (.iload 6, 2) := by decide +kernel
theorem dM_outcome_79 : decode bM_outcome 79 = .ok (.iaload, 1) := by decide +kernel
theorem dM_outcome_80 : decode bM_outcome 80 = .ok (.iload_n 1, 1) := by decide +kernel
theorem dM_outcome_81 : decode bM_outcome 81 = .ok (.if_icmp .ne 6, 3) := by decide +kernel
theorem dM_outcome_84 : decode bM_outcome 84 = .ok (.iinc 5 1, 3) := by decide +kernel
theorem dM_outcome_87 : decode bM_outcome 87 = .ok (.aload_n 0, 1) := by decide +kernel
theorem dM_outcome_88 : decode bM_outcome 88 = .ok (.getfield 13, 3) := by decide +kernel
theorem dM_outcome_91 : decode bM_outcome 91 = .ok (.iload 6, 2) := by decide +kernel
theorem dM_outcome_93 : decode bM_outcome 93 = .ok (.iaload, 1) := by decide +kernel
theorem dM_outcome_94 : decode bM_outcome 94 = .ok (.iload_n 1, 1) := by decide +kernel
theorem dM_outcome_95 : decode bM_outcome 95 = .ok (.if_icmp .ne 11, 3) := by decide +kernel
theorem dM_outcome_98 : decode bM_outcome 98 = .ok (.iload 7, 2) := by decide +kernel
theorem dM_outcome_100 : decode bM_outcome 100 = .ok (.ifCond .eq 6, 3) := by decide +kernel
theorem dM_outcome_103 : decode bM_outcome 103 = .ok (.iinc 2 1, 3) := by decide +kernel
theorem dM_outcome_106 : decode bM_outcome 106 = .ok (.aload_n 0, 1) := by decide +kernel
theorem dM_outcome_107 : decode bM_outcome 107 = .ok (.getfield 7, 3) := by decide +kernel
theorem dM_outcome_110 : decode bM_outcome 110 = .ok (.iload 6, 2) := by decide +kernel
theorem dM_outcome_112 : decode bM_outcome 112 = .ok (.iaload, 1) := by decide +kernel
theorem dM_outcome_113 : decode bM_outcome 113 = .ok (.iload_n 1, 1) := by decide +kernel
theorem dM_outcome_114 : decode bM_outcome 114 = .ok (.if_icmp .ne 11, 3) := by decide +kernel
theorem dM_outcome_117 : decode bM_outcome 117 = .ok (.iload 7, 2) := by decide +kernel
theorem dM_outcome_119 : decode bM_outcome 119 = .ok (.ifCond .eq 6, 3) := by decide +kernel
theorem dM_outcome_122 : decode bM_outcome 122 = .ok (.iinc 3 1, 3) := by decide +kernel
theorem dM_outcome_125 : decode bM_outcome 125 = .ok (.iinc 6 1, 3) := by decide +kernel
theorem dM_outcome_128 : decode bM_outcome 128 = .ok (.goto (-96), 3) := by decide +kernel
theorem dM_outcome_131 : decode bM_outcome 131 = .ok (.iload_n 2, 1) := by decide +kernel
theorem dM_outcome_132 : decode bM_outcome 132 = .ok (.ifCond .ne 9, 3) := by decide +kernel
theorem dM_outcome_135 : decode bM_outcome 135 = .ok (.iload_n 3, 1) := by decide +kernel
theorem dM_outcome_136 : decode bM_outcome 136 = .ok (.ifCond .ne 5, 3) := by decide +kernel
theorem dM_outcome_139 : decode bM_outcome 139 = .ok (.iconst 0, 1) := by decide +kernel
theorem dM_outcome_140 : decode bM_outcome 140 = .ok (.ireturn, 1) := by decide +kernel
theorem dM_outcome_141 : decode bM_outcome 141 = .ok (.iload_n 2, 1) := by decide +kernel
theorem dM_outcome_142 : decode bM_outcome 142 = .ok (.iload 4, 2) := by decide +kernel
theorem dM_outcome_144 : decode bM_outcome 144 = .ok (.if_icmp .ne 15, 3) := by decide +kernel
theorem dM_outcome_147 : decode bM_outcome 147 = .ok (.iload_n 3, 1) := by decide +kernel
theorem dM_outcome_148 : decode bM_outcome 148 = .ok (.iload 5, 2) := by decide +kernel
theorem dM_outcome_150 : decode bM_outcome 150 = .ok (.if_icmp .ne 7, 3) := by decide +kernel
theorem dM_outcome_153 : decode bM_outcome 153 = .ok (.iconst 1, 1) := by decide +kernel
theorem dM_outcome_154 : decode bM_outcome 154 = .ok (.goto 4, 3) := by decide +kernel
theorem dM_outcome_157 : decode bM_outcome 157 = .ok (.iconst 2, 1) := by decide +kernel
theorem dM_outcome_158 : decode bM_outcome 158 = .ok (.ireturn, 1) := by decide +kernel
theorem dM_outcome_159 : decode bM_outcome 159 = .ok (.iload_n 2, 1) := by decide +kernel
theorem dM_outcome_160 : decode bM_outcome 160 = .ok (.ifCond .le 11, 3) := by decide +kernel
theorem dM_outcome_163 : decode bM_outcome 163 = .ok (.iload_n 3, 1) := by decide +kernel
theorem dM_outcome_164 : decode bM_outcome 164 = .ok (.ifCond .ne 7, 3) := by decide +kernel
theorem dM_outcome_167 : decode bM_outcome 167 = .ok (.iconst 3, 1) := by decide +kernel
theorem dM_outcome_168 : decode bM_outcome 168 = .ok (.goto 4, 3) := by decide +kernel
theorem dM_outcome_171 : decode bM_outcome 171 = .ok (.iconst 4, 1) := by decide +kernel
theorem dM_outcome_172 : decode bM_outcome 172 = .ok (.ireturn, 1) := by decide +kernel
theorem dM_arc_0 : decode bM_arc 0 = .ok (.aload_n 0, 1) := by decide +kernel
theorem dM_arc_1 : decode bM_arc 1 = .ok (.iconst 0, 1) := by decide +kernel
theorem dM_arc_2 : decode bM_arc 2 = .ok (.putfield 39, 3) := by decide +kernel
theorem dM_arc_5 : decode bM_arc 5 = .ok (.aload_n 0, 1) := by decide +kernel
theorem dM_arc_6 : decode bM_arc 6 = .ok (.iload_n 1, 1) := by decide +kernel
theorem dM_arc_7 : decode bM_arc 7 = .ok (.invokevirtual 45, 3) := by decide +kernel
theorem dM_arc_10 : decode bM_arc 10 = .ok (.ifCond .eq 29, 3) := by decide +kernel
theorem dM_arc_13 : decode bM_arc 13 = .ok (.aload_n 0, 1) := by decide +kernel
theorem dM_arc_14 : decode bM_arc 14 = .ok (.iload_n 2, 1) := by decide +kernel
theorem dM_arc_15 : decode bM_arc 15 = .ok (.invokevirtual 45, 3) := by decide +kernel
theorem dM_arc_18 : decode bM_arc 18 = .ok (.ifCond .eq 21, 3) := by decide +kernel
theorem dM_arc_21 : decode bM_arc 21 = .ok (.iload_n 1, 1) := by decide +kernel
theorem dM_arc_22 : decode bM_arc 22 = .ok (.iload_n 2, 1) := by decide +kernel
theorem dM_arc_23 : decode bM_arc 23 = .ok (.if_icmp .eq 16, 3) := by decide +kernel
theorem dM_arc_26 : decode bM_arc 26 = .ok (.aload_n 0, 1) := by decide +kernel
theorem dM_arc_27 : decode bM_arc 27 = .ok (.getfield 25, 3) := by decide +kernel
theorem dM_arc_30 : decode bM_arc 30 = .ok (.iload_n 1, 1) := by decide +kernel
theorem dM_arc_31 : decode bM_arc 31 = .ok (.iaload, 1) := by decide +kernel
theorem dM_arc_32 : decode bM_arc 32 = .ok (.iload_n 2, 1) := by decide +kernel
theorem dM_arc_33 : decode bM_arc 33 = .ok (.invokestatic 49, 3) := by decide +kernel
theorem dM_arc_36 : decode bM_arc 36 = .ok (.ifCond .eq 9, 3) := by decide +kernel
theorem dM_arc_39 : decode bM_arc 39 = .ok (.aload_n 0, 1) := by decide +kernel
theorem dM_arc_40 : decode bM_arc 40 = .ok (.iconst 1, 1) := by decide +kernel
theorem dM_arc_41 : decode bM_arc 41 = .ok (.invokevirtual 53, 3) := by decide +kernel
theorem dM_arc_44 : decode bM_arc 44 = .ok (.ireturn, 1) := by decide +kernel
theorem dM_arc_45 : decode bM_arc 45 = .ok (.aload_n 0, 1) := by decide +kernel
theorem dM_arc_46 : decode bM_arc 46 = .ok (.getfield 57, 3) := by decide +kernel
theorem dM_arc_49 : decode bM_arc 49 = .ok (.ifCond .ne 12, 3) := by decide +kernel
theorem dM_arc_52 : decode bM_arc 52 = .ok (.aload_n 0, 1) := by decide +kernel
theorem dM_arc_53 : decode bM_arc 53 = .ok (.getfield 42, 3) := by decide +kernel
theorem dM_arc_56 : decode bM_arc 56 = .ok (.bipush 14, 2) := by decide +kernel
theorem dM_arc_58 : decode bM_arc 58 = .ok (.if_icmp .ne 9, 3) := by decide +kernel
theorem dM_arc_61 : decode bM_arc 61 = .ok (.aload_n 0, 1) := by decide +kernel
theorem dM_arc_62 : decode bM_arc 62 = .ok (.iconst 2, 1) := by decide +kernel
theorem dM_arc_63 : decode bM_arc 63 = .ok (.invokevirtual 53, 3) := by decide +kernel
theorem dM_arc_66 : decode bM_arc 66 = .ok (.ireturn, 1) := by decide +kernel
theorem dM_arc_67 : decode bM_arc 67 = .ok (.aload_n 0, 1) := by decide +kernel
theorem dM_arc_68 : decode bM_arc 68 = .ok (.getfield 7, 3) := by decide +kernel
theorem dM_arc_71 : decode bM_arc 71 = .ok (.aload_n 0, 1) := by decide +kernel
theorem dM_arc_72 : decode bM_arc 72 = .ok (.getfield 42, 3) := by decide +kernel
theorem dM_arc_75 : decode bM_arc 75 = .ok (.iload_n 1, 1) := by decide +kernel
theorem dM_arc_76 : decode bM_arc 76 = .ok (.iastore, 1) := by decide +kernel
theorem dM_arc_77 : decode bM_arc 77 = .ok (.aload_n 0, 1) := by decide +kernel
theorem dM_arc_78 : decode bM_arc 78 = .ok (.getfield 13, 3) := by decide +kernel
theorem dM_arc_81 : decode bM_arc 81 = .ok (.aload_n 0, 1) := by decide +kernel
theorem dM_arc_82 : decode bM_arc 82 = .ok (.getfield 42, 3) := by decide +kernel
theorem dM_arc_85 : decode bM_arc 85 = .ok (.iload_n 2, 1) := by decide +kernel
theorem dM_arc_86 : decode bM_arc 86 = .ok (.iastore, 1) := by decide +kernel
theorem dM_arc_87 : decode bM_arc 87 = .ok (.aload_n 0, 1) := by decide +kernel
theorem dM_arc_88 : decode bM_arc 88 = .ok (.getfield 25, 3) := by decide +kernel
theorem dM_arc_91 : decode bM_arc 91 = .ok (.iload_n 1, 1) := by decide +kernel
theorem dM_arc_92 : decode bM_arc 92 = .ok (.dup2, 1) := by decide +kernel
theorem dM_arc_93 : decode bM_arc 93 = .ok (.iaload, 1) := by decide +kernel
theorem dM_arc_94 : decode bM_arc 94 = .ok (.iconst 1, 1) := by decide +kernel
theorem dM_arc_95 : decode bM_arc 95 = .ok (.iload_n 2, 1) := by decide +kernel
theorem dM_arc_96 : decode bM_arc 96 = .ok (.ishl, 1) := by decide +kernel
theorem dM_arc_97 : decode bM_arc 97 = .ok (.ior, 1) := by decide +kernel
theorem dM_arc_98 : decode bM_arc 98 = .ok (.iastore, 1) := by decide +kernel
theorem dM_arc_99 : decode bM_arc 99 = .ok (.aload_n 0, 1) := by decide +kernel
theorem dM_arc_100 : decode bM_arc 100 = .ok (.dup, 1) := by decide +kernel
theorem dM_arc_101 : decode bM_arc 101 = .ok (.getfield 42, 3) := by decide +kernel
theorem dM_arc_104 : decode bM_arc 104 = .ok (.iconst 1, 1) := by decide +kernel
theorem dM_arc_105 : decode bM_arc 105 = .ok (.iadd, 1) := by decide +kernel
theorem dM_arc_106 : decode bM_arc 106 = .ok (.putfield 42, 3) := by decide +kernel
theorem dM_arc_109 : decode bM_arc 109 = .ok (.aload_n 0, 1) := by decide +kernel
theorem dM_arc_110 : decode bM_arc 110 = .ok (.getfield 42, 3) := by decide +kernel
theorem dM_arc_113 : decode bM_arc 113 = .ok (.iconst 1, 1) := by decide +kernel
theorem dM_arc_114 : decode bM_arc 114 = .ok (.isub, 1) := by decide +kernel
theorem dM_arc_115 : decode bM_arc 115 = .ok (.ireturn, 1) := by decide +kernel
theorem dM_isPath_0 : decode bM_isPath 0 = .ok (.aload_n 0, 1) := by decide +kernel
theorem dM_isPath_1 : decode bM_isPath 1 = .ok (.getfield 133, 3) := by decide +kernel
theorem dM_isPath_4 : decode bM_isPath 4 = .ok (.invokestatic 89, 3) := by decide +kernel
theorem dM_isPath_7 : decode bM_isPath 7 = .ok (.istore_n 2, 1) := by decide +kernel
theorem dM_isPath_8 : decode bM_isPath 8 = .ok (.iload_n 2, 1) := by decide +kernel
theorem dM_isPath_9 : decode bM_isPath 9 = .ok (.ifCond .eq 49, 3) := by decide +kernel
theorem dM_isPath_12 : decode bM_isPath 12 = .ok (.aload_n 0, 1) := by decide +kernel
theorem dM_isPath_13 : decode bM_isPath 13 = .ok (.getfield 133, 3) := by decide +kernel
theorem dM_isPath_16 : decode bM_isPath 16 = .ok (.iconst 0, 1) := by decide +kernel
theorem dM_isPath_17 : decode bM_isPath 17 = .ok (.invokestatic 92, 3) := by decide +kernel
theorem dM_isPath_20 : decode bM_isPath 20 = .ok (.iload_n 1, 1) := by decide +kernel
theorem dM_isPath_21 : decode bM_isPath 21 = .ok (.if_icmp .ne 37, 3) := by decide +kernel
theorem dM_isPath_24 : decode bM_isPath 24 = .ok (.aload_n 0, 1) := by decide +kernel
theorem dM_isPath_25 : decode bM_isPath 25 = .ok (.getfield 133, 3) := by decide +kernel
theorem dM_isPath_28 : decode bM_isPath 28 = .ok (.invokestatic 121, 3) := by decide +kernel
theorem dM_isPath_31 : decode bM_isPath 31 = .ok (.invokestatic 61, 3) := by decide +kernel
theorem dM_isPath_34 : decode bM_isPath 34 = .ok (.iload_n 2, 1) := by decide +kernel
theorem dM_isPath_35 : decode bM_isPath 35 = .ok (.if_icmp .ne 23, 3) := by decide +kernel
theorem dM_isPath_38 : decode bM_isPath 38 = .ok (.aload_n 0, 1) := by decide +kernel
theorem dM_isPath_39 : decode bM_isPath 39 = .ok (.getfield 86, 3) := by decide +kernel
theorem dM_isPath_42 : decode bM_isPath 42 = .ok (.aload_n 0, 1) := by decide +kernel
theorem dM_isPath_43 : decode bM_isPath 43 = .ok (.getfield 133, 3) := by decide +kernel
theorem dM_isPath_46 : decode bM_isPath 46 = .ok (.iload_n 2, 1) := by decide +kernel
theorem dM_isPath_47 : decode bM_isPath 47 = .ok (.iconst 1, 1) := by decide +kernel
theorem dM_isPath_48 : decode bM_isPath 48 = .ok (.isub, 1) := by decide +kernel
theorem dM_isPath_49 : decode bM_isPath 49 = .ok (.invokestatic 92, 3) := by decide +kernel
theorem dM_isPath_52 : decode bM_isPath 52 = .ok (.invokestatic 49, 3) := by decide +kernel
theorem dM_isPath_55 : decode bM_isPath 55 = .ok (.ifCond .ne 5, 3) := by decide +kernel
theorem dM_isPath_58 : decode bM_isPath 58 = .ok (.iconst 0, 1) := by decide +kernel
theorem dM_isPath_59 : decode bM_isPath 59 = .ok (.ireturn, 1) := by decide +kernel
theorem dM_isPath_60 : decode bM_isPath 60 = .ok (.iconst 1, 1) := by decide +kernel
theorem dM_isPath_61 : decode bM_isPath 61 = .ok (.istore_n 3, 1) := by decide +kernel
theorem dM_isPath_62 : decode bM_isPath 62 = .ok (.iconst 0, 1) := by decide +kernel
theorem dM_isPath_63 : decode bM_isPath 63 = .ok (.istore 4, 2) := by decide +kernel
theorem dM_isPath_65 : decode bM_isPath 65 = .ok (.iload 4, 2) := by decide +kernel
theorem dM_isPath_67 : decode bM_isPath 67 = .ok (.iconst 1, 1) := by decide +kernel
theorem dM_isPath_68 : decode bM_isPath 68 = .ok (.iadd, 1) := by decide +kernel
theorem dM_isPath_69 : decode bM_isPath 69 = .ok (.iload_n 2, 1) := by decide +kernel
theorem dM_isPath_70 : decode bM_isPath 70 = .ok (.if_icmp .ge 50, 3) := by decide +kernel
theorem dM_isPath_73 : decode bM_isPath 73 = .ok (.iload_n 3, 1) := by decide +kernel
theorem dM_isPath_74 : decode bM_isPath 74 = .ok (.ifCond .eq 38, 3) := by decide +kernel
theorem dM_isPath_77 : decode bM_isPath 77 = .ok (.aload_n 0, 1) := by decide +kernel
theorem dM_isPath_78 : decode bM_isPath 78 = .ok (.getfield 25, 3) := by decide +kernel
theorem dM_isPath_81 : decode bM_isPath 81 = .ok (.aload_n 0, 1) := by decide +kernel
theorem dM_isPath_82 : decode bM_isPath 82 = .ok (.getfield 133, 3) := by decide +kernel
theorem dM_isPath_85 : decode bM_isPath 85 = .ok (.iload 4, 2) := by decide +kernel
theorem dM_isPath_87 : decode bM_isPath 87 = .ok (.invokestatic 92, 3) := by decide +kernel
theorem dM_isPath_90 : decode bM_isPath 90 = .ok (.iaload, 1) := by decide +kernel
theorem dM_isPath_91 : decode bM_isPath 91 = .ok (.aload_n 0, 1) := by decide +kernel
theorem dM_isPath_92 : decode bM_isPath 92 = .ok (.getfield 133, 3) := by decide +kernel
theorem dM_isPath_95 : decode bM_isPath 95 = .ok (.iload 4, 2) := by decide +kernel
theorem dM_isPath_97 : decode bM_isPath 97 = .ok (.iconst 1, 1) := by decide +kernel
theorem dM_isPath_98 : decode bM_isPath 98 = .ok (.iadd, 1) := by decide +kernel
theorem dM_isPath_99 : decode bM_isPath 99 = .ok (.invokestatic 92, 3) := by decide +kernel
theorem dM_isPath_102 : decode bM_isPath 102 = .ok (.invokestatic 49, 3) := by decide +kernel
theorem dM_isPath_105 : decode bM_isPath 105 = .ok (.ifCond .eq 7, 3) := by decide +kernel
theorem dM_isPath_108 : decode bM_isPath 108 = .ok (.iconst 1, 1) := by decide +kernel
theorem dM_isPath_109 : decode bM_isPath 109 = .ok (.goto 4, 3) := by decide +kernel
theorem dM_isPath_112 : decode bM_isPath 112 = .ok (.iconst 0, 1) := by decide +kernel
theorem dM_isPath_113 : decode bM_isPath 113 = .ok (.istore_n 3, 1) := by decide +kernel
theorem dM_isPath_114 : decode bM_isPath 114 = .ok (.iinc 4 1, 3) := by decide +kernel
theorem dM_isPath_117 : decode bM_isPath 117 = .ok (.goto (-52), 3) := by decide +kernel
theorem dM_isPath_120 : decode bM_isPath 120 = .ok (.iload_n 3, 1) := by decide +kernel
theorem dM_isPath_121 : decode bM_isPath 121 = .ok (.ireturn, 1) := by decide +kernel
theorem dM_isKnown_0 : decode bM_isKnown 0 = .ok (.aload_n 0, 1) := by decide +kernel
theorem dM_isKnown_1 : decode bM_isKnown 1 = .ok (.getfield 133, 3) := by decide +kernel
theorem dM_isKnown_4 : decode bM_isKnown 4 = .ok (.invokestatic 89, 3) := by decide +kernel
theorem dM_isKnown_7 : decode bM_isKnown 7 = .ok (.iconst 1, 1) := by decide +kernel
theorem dM_isKnown_8 : decode bM_isKnown 8 = .ok (.if_icmp .ne 5, 3) := by decide +kernel
theorem dM_isKnown_11 : decode bM_isKnown 11 = .ok (.iconst 1, 1) := by decide +kernel
theorem dM_isKnown_12 : decode bM_isKnown 12 = .ok (.ireturn, 1) := by decide +kernel
theorem dM_isKnown_13 : decode bM_isKnown 13 = .ok (.aload_n 0, 1) := by decide +kernel
theorem dM_isKnown_14 : decode bM_isKnown 14 = .ok (.getfield 133, 3) := by decide +kernel
theorem dM_isKnown_17 : decode bM_isKnown 17 = .ok (.invokestatic 136, 3) := by decide +kernel
theorem dM_isKnown_20 : decode bM_isKnown 20 = .ok (.istore_n 1, 1) := by decide +kernel
theorem dM_isKnown_21 : decode bM_isKnown 21 = .ok (.aload_n 0, 1) := by decide +kernel
theorem dM_isKnown_22 : decode bM_isKnown 22 = .ok (.getfield 133, 3) := by decide +kernel
theorem dM_isKnown_25 : decode bM_isKnown 25 = .ok (.aload_n 0, 1) := by decide +kernel
theorem dM_isKnown_26 : decode bM_isKnown 26 = .ok (.getfield 133, 3) := by decide +kernel
theorem dM_isKnown_29 : decode bM_isKnown 29 = .ok (.invokestatic 89, 3) := by decide +kernel
theorem dM_isKnown_32 : decode bM_isKnown 32 = .ok (.iconst 1, 1) := by decide +kernel
theorem dM_isKnown_33 : decode bM_isKnown 33 = .ok (.isub, 1) := by decide +kernel
theorem dM_isKnown_34 : decode bM_isKnown 34 = .ok (.invokestatic 92, 3) := by decide +kernel
theorem dM_isKnown_37 : decode bM_isKnown 37 = .ok (.istore_n 2, 1) := by decide +kernel
theorem dM_isKnown_38 : decode bM_isKnown 38 = .ok (.iconst 0, 1) := by decide +kernel
theorem dM_isKnown_39 : decode bM_isKnown 39 = .ok (.istore_n 3, 1) := by decide +kernel
theorem dM_isKnown_40 : decode bM_isKnown 40 = .ok (.iconst 0, 1) := by decide +kernel
theorem dM_isKnown_41 : decode bM_isKnown 41 = .ok (.istore 4, 2) := by decide +kernel
theorem dM_isKnown_43 : decode bM_isKnown 43 = .ok (.iload 4, 2) := by decide +kernel
theorem dM_isKnown_45 : decode bM_isKnown 45 = .ok (.aload_n 0, 1) := by decide +kernel
theorem dM_isKnown_46 : decode bM_isKnown 46 = .ok (.getfield 42, 3) := by decide +kernel
theorem dM_isKnown_49 : decode bM_isKnown 49 = .ok (.if_icmp .ge 49, 3) := by decide +kernel
theorem dM_isKnown_52 : decode bM_isKnown 52 = .ok (.iload_n 3, 1) := by decide +kernel
theorem dM_isKnown_53 : decode bM_isKnown 53 = .ok (.ifCond .ne 33, 3) := by decide +kernel
theorem dM_isKnown_56 : decode bM_isKnown 56 = .ok (.aload_n 0, 1) := by decide +kernel
theorem dM_isKnown_57 : decode bM_isKnown 57 = .ok (.getfield 19, 3) := by decide +kernel
theorem dM_isKnown_60 : decode bM_isKnown 60 = .ok (.iload 4, 2) := by decide +kernel
theorem dM_isKnown_62 : decode bM_isKnown 62 = .ok (.iaload, 1) := by decide +kernel
theorem dM_isKnown_63 : decode bM_isKnown 63 = .ok (.iload_n 2, 1) := by decide +kernel
theorem dM_isKnown_64 : decode bM_isKnown 64 = .ok (.invokestatic 49, 3) := by decide +kernel
theorem dM_isKnown_67 : decode bM_isKnown 67 = .ok (.ifCond .eq 23, 3) := by decide +kernel
theorem dM_isKnown_70 : decode bM_isKnown 70 = .ok (.aload_n 0, 1) := by decide +kernel
theorem dM_isKnown_71 : decode bM_isKnown 71 = .ok (.getfield 22, 3) := by decide +kernel
theorem dM_isKnown_74 : decode bM_isKnown 74 = .ok (.bipush 6, 2) := by decide +kernel
theorem dM_isKnown_76 : decode bM_isKnown 76 = .ok (.iload 4, 2) := by decide +kernel
theorem dM_isKnown_78 : decode bM_isKnown 78 = .ok (.imul, 1) := by decide +kernel
theorem dM_isKnown_79 : decode bM_isKnown 79 = .ok (.iload_n 2, 1) := by decide +kernel
theorem dM_isKnown_80 : decode bM_isKnown 80 = .ok (.iadd, 1) := by decide +kernel
theorem dM_isKnown_81 : decode bM_isKnown 81 = .ok (.iaload, 1) := by decide +kernel
theorem dM_isKnown_82 : decode bM_isKnown 82 = .ok (.iload_n 1, 1) := by decide +kernel
theorem dM_isKnown_83 : decode bM_isKnown 83 = .ok (.if_icmp .ne 7, 3) := by decide +kernel
theorem dM_isKnown_86 : decode bM_isKnown 86 = .ok (.iconst 1, 1) := by decide +kernel
theorem dM_isKnown_87 : decode bM_isKnown 87 = .ok (.goto 4, 3) := by decide +kernel
theorem dM_isKnown_90 : decode bM_isKnown 90 = .ok (.iconst 0, 1) := by decide +kernel
theorem dM_isKnown_91 : decode bM_isKnown 91 = .ok (.istore_n 3, 1) := by decide +kernel
theorem dM_isKnown_92 : decode bM_isKnown 92 = .ok (.iinc 4 1, 3) := by decide +kernel
theorem dM_isKnown_95 : decode bM_isKnown 95 = .ok (.goto (-52), 3) := by decide +kernel
theorem dM_isKnown_98 : decode bM_isKnown 98 = .ok (.iload_n 3, 1) := by decide +kernel
theorem dM_isKnown_99 : decode bM_isKnown 99 = .ok (.ireturn, 1) := by decide +kernel
theorem dM_leaders_0 : decode bM_leaders 0 = .ok (.aload_n 0, 1) := by decide +kernel
theorem dM_leaders_1 : decode bM_leaders 1 = .ok (.iconst 0, 1) := by decide +kernel
theorem dM_leaders_2 : decode bM_leaders 2 = .ok (.putfield 39, 3) := by decide +kernel
theorem dM_leaders_5 : decode bM_leaders 5 = .ok (.aload_n 0, 1) := by decide +kernel
theorem dM_leaders_6 : decode bM_leaders 6 = .ok (.getfield 86, 3) := by decide +kernel
theorem dM_leaders_9 : decode bM_leaders 9 = .ok (.ireturn, 1) := by decide +kernel
theorem dM_conform_0 : decode bM_conform 0 = .ok (.aload_n 0, 1) := by decide +kernel
theorem dM_conform_1 : decode bM_conform 1 = .ok (.iconst 0, 1) := by decide +kernel
theorem dM_conform_2 : decode bM_conform 2 = .ok (.putfield 39, 3) := by decide +kernel
theorem dM_conform_5 : decode bM_conform 5 = .ok (.aload_n 0, 1) := by decide +kernel
theorem dM_conform_6 : decode bM_conform 6 = .ok (.iload_n 1, 1) := by decide +kernel
theorem dM_conform_7 : decode bM_conform 7 = .ok (.invokevirtual 45, 3) := by decide +kernel
theorem dM_conform_10 : decode bM_conform 10 = .ok (.ifCond .eq 15, 3) := by decide +kernel
theorem dM_conform_13 : decode bM_conform 13 = .ok (.aload_n 0, 1) := by decide +kernel
theorem dM_conform_14 : decode bM_conform 14 = .ok (.getfield 124, 3) := by decide +kernel
theorem dM_conform_17 : decode bM_conform 17 = .ok (.iload_n 1, 1) := by decide +kernel
theorem dM_conform_18 : decode bM_conform 18 = .ok (.invokestatic 49, 3) := by decide +kernel
theorem dM_conform_21 : decode bM_conform 21 = .ok (.iload_n 2, 1) := by decide +kernel
theorem dM_conform_22 : decode bM_conform 22 = .ok (.if_icmp .eq 5, 3) := by decide +kernel
theorem dM_conform_25 : decode bM_conform 25 = .ok (.iconst 0, 1) := by decide +kernel
theorem dM_conform_26 : decode bM_conform 26 = .ok (.ireturn, 1) := by decide +kernel
theorem dM_conform_27 : decode bM_conform 27 = .ok (.aload_n 0, 1) := by decide +kernel
theorem dM_conform_28 : decode bM_conform 28 = .ok (.dup, 1) := by decide +kernel
theorem dM_conform_29 : decode bM_conform 29 = .ok (.getfield 124, 3) := by decide +kernel
theorem dM_conform_32 : decode bM_conform 32 = .ok (.iconst 1, 1) := by decide +kernel
theorem dM_conform_33 : decode bM_conform 33 = .ok (.iload_n 1, 1) := by decide +kernel
theorem dM_conform_34 : decode bM_conform 34 = .ok (.ishl, 1) := by decide +kernel
theorem dM_conform_35 : decode bM_conform 35 = .ok (.ixor, 1) := by decide +kernel
theorem dM_conform_36 : decode bM_conform 36 = .ok (.putfield 124, 3) := by decide +kernel
theorem dM_conform_39 : decode bM_conform 39 = .ok (.iconst 1, 1) := by decide +kernel
theorem dM_conform_40 : decode bM_conform 40 = .ok (.ireturn, 1) := by decide +kernel
theorem dM_step_0 : decode bM_step 0 = .ok (.aload_n 0, 1) := by decide +kernel
theorem dM_step_1 : decode bM_step 1 = .ok (.iconst 0, 1) := by decide +kernel
theorem dM_step_2 : decode bM_step 2 = .ok (.putfield 39, 3) := by decide +kernel
theorem dM_step_5 : decode bM_step 5 = .ok (.aload_n 0, 1) := by decide +kernel
theorem dM_step_6 : decode bM_step 6 = .ok (.iload_n 1, 1) := by decide +kernel
theorem dM_step_7 : decode bM_step 7 = .ok (.invokevirtual 45, 3) := by decide +kernel
theorem dM_step_10 : decode bM_step 10 = .ok (.ifCond .eq 15, 3) := by decide +kernel
theorem dM_step_13 : decode bM_step 13 = .ok (.aload_n 0, 1) := by decide +kernel
theorem dM_step_14 : decode bM_step 14 = .ok (.getfield 133, 3) := by decide +kernel
theorem dM_step_17 : decode bM_step 17 = .ok (.invokestatic 89, 3) := by decide +kernel
theorem dM_step_20 : decode bM_step 20 = .ok (.bipush 6, 2) := by decide +kernel
theorem dM_step_22 : decode bM_step 22 = .ok (.if_icmp .ne 5, 3) := by decide +kernel
theorem dM_step_25 : decode bM_step 25 = .ok (.iconst (-1), 1) := by decide +kernel
theorem dM_step_26 : decode bM_step 26 = .ok (.ireturn, 1) := by decide +kernel
theorem dM_step_27 : decode bM_step 27 = .ok (.aload_n 0, 1) := by decide +kernel
theorem dM_step_28 : decode bM_step 28 = .ok (.getfield 133, 3) := by decide +kernel
theorem dM_step_31 : decode bM_step 31 = .ok (.invokestatic 89, 3) := by decide +kernel
theorem dM_step_34 : decode bM_step 34 = .ok (.istore_n 2, 1) := by decide +kernel
theorem dM_step_35 : decode bM_step 35 = .ok (.aload_n 0, 1) := by decide +kernel
theorem dM_step_36 : decode bM_step 36 = .ok (.aload_n 0, 1) := by decide +kernel
theorem dM_step_37 : decode bM_step 37 = .ok (.getfield 133, 3) := by decide +kernel
theorem dM_step_40 : decode bM_step 40 = .ok (.ldc 96, 2) := by decide +kernel
theorem dM_step_42 : decode bM_step 42 = .ok (.iand, 1) := by decide +kernel
theorem dM_step_43 : decode bM_step 43 = .ok (.iload_n 1, 1) := by decide +kernel
theorem dM_step_44 : decode bM_step 44 = .ok (.iconst 3, 1) := by decide +kernel
theorem dM_step_45 : decode bM_step 45 = .ok (.iload_n 2, 1) := by decide +kernel
theorem dM_step_46 : decode bM_step 46 = .ok (.imul, 1) := by decide +kernel
theorem dM_step_47 : decode bM_step 47 = .ok (.ishl, 1) := by decide +kernel
theorem dM_step_48 : decode bM_step 48 = .ok (.ior, 1) := by decide +kernel
theorem dM_step_49 : decode bM_step 49 = .ok (.iload_n 2, 1) := by decide +kernel
theorem dM_step_50 : decode bM_step 50 = .ok (.iconst 1, 1) := by decide +kernel
theorem dM_step_51 : decode bM_step 51 = .ok (.iadd, 1) := by decide +kernel
theorem dM_step_52 : decode bM_step 52 = .ok (.bipush 18, 2) := by decide +kernel
theorem dM_step_54 : decode bM_step 54 = .ok (.ishl, 1) := by decide +kernel
theorem dM_step_55 : decode bM_step 55 = .ok (.ior, 1) := by decide +kernel
theorem dM_step_56 : decode bM_step 56 = .ok (.putfield 133, 3) := by decide +kernel
theorem dM_step_59 : decode bM_step 59 = .ok (.iload_n 2, 1) := by decide +kernel
theorem dM_step_60 : decode bM_step 60 = .ok (.iconst 1, 1) := by decide +kernel
theorem dM_step_61 : decode bM_step 61 = .ok (.iadd, 1) := by decide +kernel
theorem dM_step_62 : decode bM_step 62 = .ok (.ireturn, 1) := by decide +kernel
theorem dM_clear_0 : decode bM_clear 0 = .ok (.aload_n 0, 1) := by decide +kernel
theorem dM_clear_1 : decode bM_clear 1 = .ok (.iconst 0, 1) := by decide +kernel
theorem dM_clear_2 : decode bM_clear 2 = .ok (.putfield 39, 3) := by decide +kernel
theorem dM_clear_5 : decode bM_clear 5 = .ok (.aload_n 0, 1) := by decide +kernel
theorem dM_clear_6 : decode bM_clear 6 = .ok (.iconst 0, 1) := by decide +kernel
theorem dM_clear_7 : decode bM_clear 7 = .ok (.putfield 133, 3) := by decide +kernel
theorem dM_clear_10 : decode bM_clear 10 = .ok (.return_, 1) := by decide +kernel
theorem dM_pass_0 : decode bM_pass 0 = .ok (.aload_n 0, 1) := by decide +kernel
theorem dM_pass_1 : decode bM_pass 1 = .ok (.iconst 0, 1) := by decide +kernel
theorem dM_pass_2 : decode bM_pass 2 = .ok (.putfield 39, 3) := by decide +kernel
theorem dM_pass_5 : decode bM_pass 5 = .ok (.iload_n 1, 1) := by decide +kernel
theorem dM_pass_6 : decode bM_pass 6 = .ok (.ifCond .lt 9, 3) := by decide +kernel
theorem dM_pass_9 : decode bM_pass 9 = .ok (.iload_n 1, 1) := by decide +kernel
theorem dM_pass_10 : decode bM_pass 10 = .ok (.bipush 100, 2) := by decide +kernel
theorem dM_pass_12 : decode bM_pass 12 = .ok (.if_icmp .le 5, 3) := by decide +kernel
theorem dM_pass_15 : decode bM_pass 15 = .ok (.iconst (-1), 1) := by decide +kernel
theorem dM_pass_16 : decode bM_pass 16 = .ok (.ireturn, 1) := by decide +kernel
theorem dM_pass_17 : decode bM_pass 17 = .ok (.aload_n 0, 1) := by decide +kernel
theorem dM_pass_18 : decode bM_pass 18 = .ok (.dup, 1) := by decide +kernel
theorem dM_pass_19 : decode bM_pass 19 = .ok (.getfield 70, 3) := by decide +kernel
theorem dM_pass_22 : decode bM_pass 22 = .ok (.iload_n 1, 1) := by decide +kernel
theorem dM_pass_23 : decode bM_pass 23 = .ok (.iadd, 1) := by decide +kernel
theorem dM_pass_24 : decode bM_pass 24 = .ok (.putfield 70, 3) := by decide +kernel
theorem dM_pass_27 : decode bM_pass 27 = .ok (.aload_n 0, 1) := by decide +kernel
theorem dM_pass_28 : decode bM_pass 28 = .ok (.getfield 70, 3) := by decide +kernel
theorem dM_pass_31 : decode bM_pass 31 = .ok (.ireturn, 1) := by decide +kernel
theorem inM_state_M : ∀ x ∈ u_ws RcM TcM 18, x ∈ wM_state := by decide +kernel
set_option maxRecDepth 20000 in
theorem gM_state_M_isArc : GoodIn wM_state (wsV RcM 130 RcM yM_isArc wM_isArc) := goodIn_app (goodIn_of _ (by decide +kernel)) (goodIn_r _ [10, 11, 13, 14, 15, 16, 17, 18, 19, 20, 21, 22, 23, 24, 25, 26, 27, 28, 29, 30] (by decide +kernel) (by decide +kernel))
set_option maxRecDepth 20000 in
theorem gM_state_M_fail : GoodIn wM_state (wsV RcM 53 RcM yM_fail wM_fail) := goodIn_app (goodIn_of _ (by decide +kernel)) (goodIn_r _ [12, 1, 13, 14, 15, 16, 17, 18, 19, 20, 21, 22, 23, 24, 25, 26, 27, 28, 29, 30] (by decide +kernel) (by decide +kernel))
theorem inM_open_M : ∀ x ∈ u_ws RcM TcM 18, x ∈ wM_open := by decide +kernel
set_option maxRecDepth 20000 in
theorem gM_open_M_isArc : GoodIn wM_open (wsV RcM 130 RcM yM_isArc wM_isArc) := goodIn_app (goodIn_of _ (by decide +kernel)) (goodIn_r _ [10, 11, 13, 14, 15, 16, 17, 18, 19, 20, 21, 22, 23, 24, 25, 26, 27, 28, 29, 30] (by decide +kernel) (by decide +kernel))
set_option maxRecDepth 20000 in
theorem gM_open_M_fail : GoodIn wM_open (wsV RcM 53 RcM yM_fail wM_fail) := goodIn_app (goodIn_of _ (by decide +kernel)) (goodIn_r _ [12, 1, 13, 14, 15, 16, 17, 18, 19, 20, 21, 22, 23, 24, 25, 26, 27, 28, 29, 30] (by decide +kernel) (by decide +kernel))
theorem inM_key_M : ∀ x ∈ u_ws RcM TcM 18, x ∈ wM_key := by decide +kernel
set_option maxRecDepth 20000 in
theorem gM_key_M_isArc : GoodIn wM_key (wsV RcM 130 RcM yM_isArc wM_isArc) := goodIn_app (goodIn_of _ (by decide +kernel)) (goodIn_r _ [20, 21, 28, 29, 30, 31, 32, 33, 34, 35, 36, 37, 38, 39, 40, 41, 42, 43, 44, 45] (by decide +kernel) (by decide +kernel))
set_option maxRecDepth 20000 in
theorem gM_key_M_isParty : GoodIn wM_key (wsV RcM 45 RcM yM_isParty wM_isParty) := goodIn_app (goodIn_of _ (by decide +kernel)) (goodIn_r _ [23, 24, 28, 29, 30, 31, 32, 33, 34, 35, 36, 37, 38, 39, 40, 41, 42, 43, 44, 45] (by decide +kernel) (by decide +kernel))
set_option maxRecDepth 20000 in
theorem gM_key_M_has : GoodIn wM_key (va_wsS RcM 49 yM_has wM_has) := goodIn_app (goodIn_of _ (by decide +kernel)) (goodIn_r _ [25] (by decide +kernel) (by decide +kernel))
set_option maxRecDepth 20000 in
theorem gM_key_M_many : GoodIn wM_key (va_wsS RcM 89 yM_many wM_many) := goodIn_app (goodIn_of _ (by decide +kernel)) (goodIn_r _ [26] (by decide +kernel) (by decide +kernel))
set_option maxRecDepth 20000 in
theorem gM_key_M_member : GoodIn wM_key (va_wsS RcM 92 yM_member wM_member) := goodIn_app (goodIn_of _ (by decide +kernel)) (goodIn_r _ [27] (by decide +kernel) (by decide +kernel))
set_option maxRecDepth 20000 in
theorem gM_key_M_fail : GoodIn wM_key (wsV RcM 53 RcM yM_fail wM_fail) := goodIn_app (goodIn_of _ (by decide +kernel)) (goodIn_r _ [22, 1, 28, 29, 30, 31, 32, 33, 34, 35, 36, 37, 38, 39, 40, 41, 42, 43, 44, 45] (by decide +kernel) (by decide +kernel))
theorem inM_outcome_M : ∀ x ∈ u_ws RcM TcM 18, x ∈ wM_outcome := by decide +kernel
set_option maxRecDepth 20000 in
theorem gM_outcome_M_isParty : GoodIn wM_outcome (wsV RcM 45 RcM yM_isParty wM_isParty) := goodIn_app (goodIn_of _ (by decide +kernel)) (goodIn_r _ [13, 14, 16, 17, 18, 19, 20, 21, 22, 23, 24, 25, 26, 27, 28, 29, 30, 31, 32, 33] (by decide +kernel) (by decide +kernel))
set_option maxRecDepth 20000 in
theorem gM_outcome_M_fail : GoodIn wM_outcome (wsV RcM 53 RcM yM_fail wM_fail) := goodIn_app (goodIn_of _ (by decide +kernel)) (goodIn_r _ [15, 1, 16, 17, 18, 19, 20, 21, 22, 23, 24, 25, 26, 27, 28, 29, 30, 31, 32, 33] (by decide +kernel) (by decide +kernel))
theorem inM_arc_M : ∀ x ∈ u_ws RcM TcM 18, x ∈ wM_arc := by decide +kernel
set_option maxRecDepth 20000 in
theorem gM_arc_M_isParty : GoodIn wM_arc (wsV RcM 45 RcM yM_isParty wM_isParty) := goodIn_app (goodIn_of _ (by decide +kernel)) (goodIn_r _ [16, 17, 20, 21, 22, 23, 24, 25, 26, 27, 28, 29, 30, 31, 32, 33, 34, 35, 36, 37] (by decide +kernel) (by decide +kernel))
set_option maxRecDepth 20000 in
theorem gM_arc_M_fail : GoodIn wM_arc (wsV RcM 53 RcM yM_fail wM_fail) := goodIn_app (goodIn_of _ (by decide +kernel)) (goodIn_r _ [19, 1, 20, 21, 22, 23, 24, 25, 26, 27, 28, 29, 30, 31, 32, 33, 34, 35, 36, 37] (by decide +kernel) (by decide +kernel))
set_option maxRecDepth 20000 in
theorem gM_arc_M_has : GoodIn wM_arc (va_wsS RcM 49 yM_has wM_has) := goodIn_app (goodIn_of _ (by decide +kernel)) (goodIn_r _ [18] (by decide +kernel) (by decide +kernel))
theorem inM_isPath_M : ∀ x ∈ u_ws RcM TcM 18, x ∈ wM_isPath := by decide +kernel
set_option maxRecDepth 20000 in
theorem gM_isPath_M_many : GoodIn wM_isPath (va_wsS RcM 89 yM_many wM_many) := goodIn_app (goodIn_of _ (by decide +kernel)) (goodIn_r _ [15] (by decide +kernel) (by decide +kernel))
set_option maxRecDepth 20000 in
theorem gM_isPath_M_member : GoodIn wM_isPath (va_wsS RcM 92 yM_member wM_member) := goodIn_app (goodIn_of _ (by decide +kernel)) (goodIn_r _ [16] (by decide +kernel) (by decide +kernel))
set_option maxRecDepth 20000 in
theorem gM_isPath_M_members : GoodIn wM_isPath (va_wsS RcM 121 yM_members wM_members) := goodIn_app (goodIn_of _ (by decide +kernel)) (goodIn_r _ [17, 2, 3, 4, 5, 6, 15, 16] (by decide +kernel) (by decide +kernel))
set_option maxRecDepth 20000 in
theorem gM_isPath_M_size : GoodIn wM_isPath (va_wsS RcM 61 yM_size wM_size) := goodIn_app (goodIn_of _ (by decide +kernel)) (goodIn_r _ [18] (by decide +kernel) (by decide +kernel))
set_option maxRecDepth 20000 in
theorem gM_isPath_M_has : GoodIn wM_isPath (va_wsS RcM 49 yM_has wM_has) := goodIn_app (goodIn_of _ (by decide +kernel)) (goodIn_r _ [19] (by decide +kernel) (by decide +kernel))
theorem inM_isKnown_M : ∀ x ∈ u_ws RcM TcM 18, x ∈ wM_isKnown := by decide +kernel
set_option maxRecDepth 20000 in
theorem gM_isKnown_M_many : GoodIn wM_isKnown (va_wsS RcM 89 yM_many wM_many) := goodIn_app (goodIn_of _ (by decide +kernel)) (goodIn_r _ [14] (by decide +kernel) (by decide +kernel))
set_option maxRecDepth 20000 in
theorem gM_isKnown_M_behind : GoodIn wM_isKnown (va_wsS RcM 136 yM_behind wM_behind) := goodIn_app (goodIn_of _ (by decide +kernel)) (goodIn_r _ [15, 16, 2, 3, 4, 14] (by decide +kernel) (by decide +kernel))
set_option maxRecDepth 20000 in
theorem gM_isKnown_M_member : GoodIn wM_isKnown (va_wsS RcM 92 yM_member wM_member) := goodIn_app (goodIn_of _ (by decide +kernel)) (goodIn_r _ [17] (by decide +kernel) (by decide +kernel))
set_option maxRecDepth 20000 in
theorem gM_isKnown_M_has : GoodIn wM_isKnown (va_wsS RcM 49 yM_has wM_has) := goodIn_app (goodIn_of _ (by decide +kernel)) (goodIn_r _ [18] (by decide +kernel) (by decide +kernel))
theorem inM_leaders_M : ∀ x ∈ u_ws RcM TcM 18, x ∈ wM_leaders := by decide +kernel
theorem inM_conform_M : ∀ x ∈ u_ws RcM TcM 18, x ∈ wM_conform := by decide +kernel
set_option maxRecDepth 20000 in
theorem gM_conform_M_isParty : GoodIn wM_conform (wsV RcM 45 RcM yM_isParty wM_isParty) := goodIn_app (goodIn_of _ (by decide +kernel)) (goodIn_r _ [9, 10, 12, 13, 14, 15, 16, 17, 18, 19, 20, 21, 22, 23, 24, 25, 26, 27, 28, 29] (by decide +kernel) (by decide +kernel))
set_option maxRecDepth 20000 in
theorem gM_conform_M_has : GoodIn wM_conform (va_wsS RcM 49 yM_has wM_has) := goodIn_app (goodIn_of _ (by decide +kernel)) (goodIn_r _ [11] (by decide +kernel) (by decide +kernel))
theorem inM_step_M : ∀ x ∈ u_ws RcM TcM 18, x ∈ wM_step := by decide +kernel
set_option maxRecDepth 20000 in
theorem gM_step_M_isParty : GoodIn wM_step (wsV RcM 45 RcM yM_isParty wM_isParty) := goodIn_app (goodIn_of _ (by decide +kernel)) (goodIn_r _ [10, 11, 13, 14, 15, 16, 17, 18, 19, 20, 21, 22, 23, 24, 25, 26, 27, 28, 29, 30] (by decide +kernel) (by decide +kernel))
set_option maxRecDepth 20000 in
theorem gM_step_M_many : GoodIn wM_step (va_wsS RcM 89 yM_many wM_many) := goodIn_app (goodIn_of _ (by decide +kernel)) (goodIn_r _ [12] (by decide +kernel) (by decide +kernel))
theorem inM_clear_M : ∀ x ∈ u_ws RcM TcM 18, x ∈ wM_clear := by decide +kernel
theorem inM_pass_M : ∀ x ∈ u_ws RcM TcM 18, x ∈ wM_pass := by decide +kernel
end
section
set_option maxHeartbeats 4000000 in
set_option maxRecDepth 100000 in
theorem c_mState (l : Launch) (D : va_G) (cI cZ cJ : ClassId) (b : Nat → Nat) (F : FT) (a : AT) (n : Nat) (x : Int32) (hn : F 9 = nI n) (hn4 : n ≤ 14) : Ki l yM_state wM_state ({ frames := 1, cells := 0, slots := 0, locals := 21 } : Room) D vwCl (tyG cI cZ cJ) [.ref (b 0), .int x] (wM cI cZ b F a) ((mState F a x).1) (wM cI cZ b ((mState F a x).2) a) := by
  intro sz
  refine v_ent (cc := bM_state) (maxL := 2) (ret := (some .int)) (Qc := (fun A => va_Qi (fun (x9 : Int32) (_ : Unit) => x9 = (mState F a x).1) (fun _ => wB D vwCl (tyG cI cZ cJ) A (wM cI cZ b ((mState F a x).2) a)) A)) (fr := (fun A => A)) (own := RcM) rfl (by decide) rfl (Nat.le_of_ble_eq_true rfl) rfl ?_
  intro p e s m args below meth c A C hr _
  refine v_free ?_
  refine v_aload_n C 0 dM_state_0 rfl rfl ?_
  refine v_iconst C (v := 0) dM_state_1 (by decide) ?_
  refine v_put C (T := TcM) (N := 18) (ci := 2) (v := .int 0) inM_state_M tycM tycM_ok nmcM 0 rfl rfl 2 (by decide) (by decide +kernel) rfl rfl rfl rfl (Nat.le_of_ble_eq_true rfl) dM_state_2 (w1 := wM cI cZ b (upd F 2 0) a) rfl ?_
  refine v_aload_n C 0 dM_state_5 rfl rfl ?_
  refine v_iload_n C 1 dM_state_6 rfl rfl ?_
  refine v_cVrF (As := [.int x]) C (c_mIsArc l D cI cZ cJ b (upd F 2 0) a x) (cwV 1 C.2.2.2.2.1 gM_state_M_isArc rfl rfl rfl (by decide +kernel) ⟨Nat.le_of_ble_eq_true rfl, Nat.le_of_ble_eq_true rfl⟩) 0 rfl (T := TcM) (N := 18) rfl rfl rfl (Nat.le_of_ble_eq_true rfl) ⟨Nat.zero_le _, Nat.zero_le _⟩ dM_state_7 ?_
  refine v_if_eq C dM_state_10 (tgt := 22) (by decide) (fun h1 => ?_) (fun h1 => ?_)
  · skip
    refine v_aload_n C 0 dM_state_22 rfl rfl ?_
    refine v_iconst C (v := 1) dM_state_23 (by decide) ?_
    refine v_cViF (As := [.int 1]) C (c_mFail l D cI cZ cJ b (upd F 2 0) a 1) (cwV 1 C.2.2.2.2.1 gM_state_M_fail rfl rfl rfl (by decide +kernel) ⟨Nat.le_of_ble_eq_true rfl, Nat.le_of_ble_eq_true rfl⟩) 0 rfl (T := TcM) (N := 18) rfl rfl rfl (Nat.le_of_ble_eq_true rfl) ⟨Nat.zero_le _, Nat.zero_le _⟩ dM_state_24 ?_
    have hE : ((mFail (upd F 2 0) a 1).1, (mFail (upd F 2 0) a 1).2) = mState F a x := (by unfold mState; rw [if_pos h1])
    exact v_iret C hr (by rw [← hE]) (by rw [← hE]) dM_state_27
  · skip
    have hx : vp_in x 14 := vp_arcM (F := upd F 2 0) (a := a) (by assumption) hn hn4
    refine v_aload_n C 0 dM_state_13 rfl rfl ?_
    refine v_get C (T := TcM) (N := 18) (ci := 2) (v := .ref (b 3)) inM_state_M 0 rfl rfl 12 (by decide) (by decide +kernel) rfl rfl dM_state_14 ?_
    refine v_iload_n C 1 dM_state_17 rfl rfl ?_
    refine v_iald C 3 0 (f := a 12) (y := (a 12) x.toNatClampNeg) (j := x.toNatClampNeg) rfl rfl rfl rfl hx dM_state_18 ?_
    refine v_goto C dM_state_19 (tgt := 27) (by decide) ?_
    have hE : ((a 12) x.toNatClampNeg, upd F 2 0) = mState F a x := (by unfold mState; rw [if_neg h1])
    exact v_iret C hr (by rw [← hE]) (by rw [← hE]) dM_state_27
set_option maxHeartbeats 4000000 in
set_option maxRecDepth 100000 in
theorem c_mOpen (l : Launch) (D : va_G) (cI cZ cJ : ClassId) (b : Nat → Nat) (F : FT) (a : AT) (n : Nat) (x : Int32) (hn : F 9 = nI n) (hn4 : n ≤ 14) : Ki l yM_open wM_open ({ frames := 1, cells := 0, slots := 0, locals := 21 } : Room) D vwCl (tyG cI cZ cJ) [.ref (b 0), .int x] (wM cI cZ b F a) ((mOpen F a x).1) (wM cI cZ b ((mOpen F a x).2) a) := by
  intro sz
  refine v_ent (cc := bM_open) (maxL := 2) (ret := (some .int)) (Qc := (fun A => va_Qi (fun (x9 : Int32) (_ : Unit) => x9 = (mOpen F a x).1) (fun _ => wB D vwCl (tyG cI cZ cJ) A (wM cI cZ b ((mOpen F a x).2) a)) A)) (fr := (fun A => A)) (own := RcM) rfl (by decide) rfl (Nat.le_of_ble_eq_true rfl) rfl ?_
  intro p e s m args below meth c A C hr _
  refine v_free ?_
  refine v_aload_n C 0 dM_open_0 rfl rfl ?_
  refine v_iconst C (v := 0) dM_open_1 (by decide) ?_
  refine v_put C (T := TcM) (N := 18) (ci := 2) (v := .int 0) inM_open_M tycM tycM_ok nmcM 0 rfl rfl 2 (by decide) (by decide +kernel) rfl rfl rfl rfl (Nat.le_of_ble_eq_true rfl) dM_open_2 (w1 := wM cI cZ b (upd F 2 0) a) rfl ?_
  refine v_aload_n C 0 dM_open_5 rfl rfl ?_
  refine v_iload_n C 1 dM_open_6 rfl rfl ?_
  refine v_cVrF (As := [.int x]) C (c_mIsArc l D cI cZ cJ b (upd F 2 0) a x) (cwV 1 C.2.2.2.2.1 gM_open_M_isArc rfl rfl rfl (by decide +kernel) ⟨Nat.le_of_ble_eq_true rfl, Nat.le_of_ble_eq_true rfl⟩) 0 rfl (T := TcM) (N := 18) rfl rfl rfl (Nat.le_of_ble_eq_true rfl) ⟨Nat.zero_le _, Nat.zero_le _⟩ dM_open_7 ?_
  refine v_if_eq C dM_open_10 (tgt := 22) (by decide) (fun h1 => ?_) (fun h1 => ?_)
  · skip
    refine v_aload_n C 0 dM_open_22 rfl rfl ?_
    refine v_iconst C (v := 1) dM_open_23 (by decide) ?_
    refine v_cViF (As := [.int 1]) C (c_mFail l D cI cZ cJ b (upd F 2 0) a 1) (cwV 1 C.2.2.2.2.1 gM_open_M_fail rfl rfl rfl (by decide +kernel) ⟨Nat.le_of_ble_eq_true rfl, Nat.le_of_ble_eq_true rfl⟩) 0 rfl (T := TcM) (N := 18) rfl rfl rfl (Nat.le_of_ble_eq_true rfl) ⟨Nat.zero_le _, Nat.zero_le _⟩ dM_open_24 ?_
    have hE : ((mFail (upd F 2 0) a 1).1, (mFail (upd F 2 0) a 1).2) = mOpen F a x := (by unfold mOpen; rw [if_pos h1])
    exact v_iret C hr (by rw [← hE]) (by rw [← hE]) dM_open_27
  · skip
    have hx : vp_in x 14 := vp_arcM (F := upd F 2 0) (a := a) (by assumption) hn hn4
    refine v_aload_n C 0 dM_open_13 rfl rfl ?_
    refine v_get C (T := TcM) (N := 18) (ci := 2) (v := .ref (b 4)) inM_open_M 0 rfl rfl 13 (by decide) (by decide +kernel) rfl rfl dM_open_14 ?_
    refine v_iload_n C 1 dM_open_17 rfl rfl ?_
    refine v_iald C 4 0 (f := a 13) (y := (a 13) x.toNatClampNeg) (j := x.toNatClampNeg) rfl rfl rfl rfl hx dM_open_18 ?_
    refine v_goto C dM_open_19 (tgt := 27) (by decide) ?_
    have hE : ((a 13) x.toNatClampNeg, upd F 2 0) = mOpen F a x := (by unfold mOpen; rw [if_neg h1])
    exact v_iret C hr (by rw [← hE]) (by rw [← hE]) dM_open_27
set_option maxHeartbeats 4000000 in
set_option maxRecDepth 100000 in
theorem c_mKey (l : Launch) (D : va_G) (cI cZ cJ : ClassId) (b : Nat → Nat) (F : FT) (a : AT) (n : Nat) (P : Nat) (x : Int32) (y : Int32) (z : Int32) (hn : F 9 = nI n) (hn4 : n ≤ 14) (hp : F 0 = nI P) (hp6 : P ≤ 6) : Ki l yM_key wM_key ({ frames := 1, cells := 0, slots := 0, locals := 21 } : Room) D vwCl (tyG cI cZ cJ) [.ref (b 0), .int x, .int y, .int z] (wM cI cZ b F a) ((mKey F a x y z).1) (wM cI cZ b ((mKey F a x y z).2) a) := by
  intro sz
  refine v_ent (cc := bM_key) (maxL := 5) (ret := (some .int)) (Qc := (fun A => va_Qi (fun (x9 : Int32) (_ : Unit) => x9 = (mKey F a x y z).1) (fun _ => wB D vwCl (tyG cI cZ cJ) A (wM cI cZ b ((mKey F a x y z).2) a)) A)) (fr := (fun A => A)) (own := RcM) rfl (by decide) rfl (Nat.le_of_ble_eq_true rfl) rfl ?_
  intro p e s m args below meth c A C hr _
  refine v_free ?_
  refine v_aload_n C 0 dM_key_0 rfl rfl ?_
  refine v_iconst C (v := 0) dM_key_1 (by decide) ?_
  refine v_put C (T := TcM) (N := 18) (ci := 2) (v := .int 0) inM_key_M tycM tycM_ok nmcM 0 rfl rfl 2 (by decide) (by decide +kernel) rfl rfl rfl rfl (Nat.le_of_ble_eq_true rfl) dM_key_2 (w1 := wM cI cZ b (upd F 2 0) a) rfl ?_
  refine v_aload_n C 0 dM_key_5 rfl rfl ?_
  refine v_iload_n C 1 dM_key_6 rfl rfl ?_
  refine v_cVrF (As := [.int x]) C (c_mIsArc l D cI cZ cJ b (upd F 2 0) a x) (cwV 1 C.2.2.2.2.1 gM_key_M_isArc rfl rfl rfl (by decide +kernel) ⟨Nat.le_of_ble_eq_true rfl, Nat.le_of_ble_eq_true rfl⟩) 0 rfl (T := TcM) (N := 18) rfl rfl rfl (Nat.le_of_ble_eq_true rfl) ⟨Nat.zero_le _, Nat.zero_le _⟩ dM_key_7 ?_
  refine v_if_ne C dM_key_10 (tgt := 19) (by decide) (fun h1 => ?_) (fun h1 => ?_)
  · skip
    have hx : vp_in x 14 := vp_arcM (F := upd F 2 0) (a := a) (by assumption) hn hn4
    refine v_aload_n C 0 dM_key_19 rfl rfl ?_
    refine v_iload_n C 2 dM_key_20 rfl rfl ?_
    refine v_cVrF (As := [.int y]) C (c_mIsParty l D cI cZ cJ b (upd F 2 0) a y) (cwV 1 C.2.2.2.2.1 gM_key_M_isParty rfl rfl rfl (by decide +kernel) ⟨Nat.le_of_ble_eq_true rfl, Nat.le_of_ble_eq_true rfl⟩) 0 rfl (T := TcM) (N := 18) rfl rfl rfl (Nat.le_of_ble_eq_true rfl) ⟨Nat.zero_le _, Nat.zero_le _⟩ dM_key_21 ?_
    refine v_if_eq C dM_key_24 (tgt := 40) (by decide) (fun h2 => ?_) (fun h2 => ?_)
    · skip
      refine v_iconst C (v := (-1)) dM_key_40 (by decide) ?_
      have hE : ((-1), upd F 2 0) = mKey F a x y z := (by unfold mKey; rw [if_neg h1, if_pos h2])
      exact v_iret C hr (by rw [← hE]) (by rw [← hE]) dM_key_41
    · skip
      refine v_aload_n C 0 dM_key_27 rfl rfl ?_
      refine v_get C (T := TcM) (N := 18) (ci := 2) (v := .ref (b 4)) inM_key_M 0 rfl rfl 13 (by decide) (by decide +kernel) rfl rfl dM_key_28 ?_
      refine v_iload_n C 1 dM_key_31 rfl rfl ?_
      refine v_iald C 4 0 (f := a 13) (y := (a 13) x.toNatClampNeg) (j := x.toNatClampNeg) rfl rfl rfl rfl hx dM_key_32 ?_
      refine v_iload_n C 2 dM_key_33 rfl rfl ?_
      refine v_cSr0 (As := [.int ((a 13) x.toNatClampNeg), .int y]) C (c_mHas l D cI cZ cJ ((a 13) x.toNatClampNeg) y) (va_cwS 2 C.2.2.2.2.1 gM_key_M_has rfl rfl rfl (by decide +kernel) ⟨Nat.le_of_ble_eq_true rfl, Nat.le_of_ble_eq_true rfl⟩) rfl rfl (Nat.le_of_ble_eq_true rfl) ⟨Nat.zero_le _, Nat.zero_le _⟩ dM_key_34 ?_
      refine v_if_ne C dM_key_37 (tgt := 42) (by decide) (fun h3 => ?_) (fun h3 => ?_)
      · skip
        have hy : vp_in (6 * x + y) 84 := vp_keyM (F := upd F 2 0) (a := a) (by assumption) (by assumption) hn hn4 hp hp6
        refine v_aload_n C 0 dM_key_42 rfl rfl ?_
        refine v_get C (T := TcM) (N := 18) (ci := 2) (v := .ref (b 5)) inM_key_M 0 rfl rfl 14 (by decide) (by decide +kernel) rfl rfl dM_key_43 ?_
        refine v_bipush C (v := 6) dM_key_46 (by decide) ?_
        refine v_iload_n C 1 dM_key_48 rfl rfl ?_
        refine v_imul C dM_key_49 ?_
        refine v_iload_n C 2 dM_key_50 rfl rfl ?_
        refine v_iadd C dM_key_51 ?_
        refine v_iald C 5 0 (f := a 14) (y := (a 14) ((((6 : Int32) * x) + y).toNatClampNeg)) (j := (((6 : Int32) * x) + y).toNatClampNeg) rfl rfl rfl rfl hy dM_key_52 ?_
        refine v_istore C (lv' := [(0, .ref (b 0)), (1, .int x), (2, .int y), (3, .int z), (4, .int ((a 14) ((((6 : Int32) * x) + y).toNatClampNeg)))]) [1, 2, 3, 4, 0] dM_key_53 (by decide) rfl ?_
        refine v_iload_n C 3 dM_key_55 rfl rfl ?_
        refine v_if_lt C dM_key_56 (tgt := 77) (by decide) (fun h4 => ?_) (fun h4 => ?_)
        · skip
          refine v_iconst C (v := (-1)) dM_key_77 (by decide) ?_
          have hE : ((-1), upd F 2 0) = mKey F a x y z := (by unfold mKey; rw [if_neg h1, if_neg h2, if_neg h3, if_pos h4])
          exact v_iret C hr (by rw [← hE]) (by rw [← hE]) dM_key_78
        · skip
          refine v_iload_n C 3 dM_key_59 rfl rfl ?_
          refine v_iload C 4 dM_key_60 rfl ?_
          refine v_cSr0 (As := [.int ((a 14) ((((6 : Int32) * x) + y).toNatClampNeg))]) C (c_mMany l D cI cZ cJ ((a 14) ((((6 : Int32) * x) + y).toNatClampNeg))) (va_cwS 1 C.2.2.2.2.1 gM_key_M_many rfl rfl rfl (by decide +kernel) ⟨Nat.le_of_ble_eq_true rfl, Nat.le_of_ble_eq_true rfl⟩) rfl rfl (Nat.le_of_ble_eq_true rfl) ⟨Nat.zero_le _, Nat.zero_le _⟩ dM_key_62 ?_
          refine v_icmp_ge C dM_key_65 (tgt := 77) (by decide) (fun h5 => ?_) (fun h5 => ?_)
          · skip
            refine v_iconst C (v := (-1)) dM_key_77 (by decide) ?_
            have hE : ((-1), upd F 2 0) = mKey F a x y z := (by unfold mKey; rw [if_neg h1, if_neg h2, if_neg h3, if_neg h4, if_pos h5])
            exact v_iret C hr (by rw [← hE]) (by rw [← hE]) dM_key_78
          · skip
            refine v_iload C 4 dM_key_68 rfl ?_
            refine v_iload_n C 3 dM_key_70 rfl rfl ?_
            refine v_cSr0 (As := [.int ((a 14) ((((6 : Int32) * x) + y).toNatClampNeg)), .int z]) C (c_mMember l D cI cZ cJ ((a 14) ((((6 : Int32) * x) + y).toNatClampNeg)) z) (va_cwS 2 C.2.2.2.2.1 gM_key_M_member rfl rfl rfl (by decide +kernel) ⟨Nat.le_of_ble_eq_true rfl, Nat.le_of_ble_eq_true rfl⟩) rfl rfl (Nat.le_of_ble_eq_true rfl) ⟨Nat.zero_le _, Nat.zero_le _⟩ dM_key_71 ?_
            refine v_goto C dM_key_74 (tgt := 78) (by decide) ?_
            have hE : (mMember ((a 14) ((((6 : Int32) * x) + y).toNatClampNeg)) z, upd F 2 0) = mKey F a x y z := (by unfold mKey; rw [if_neg h1, if_neg h2, if_neg h3, if_neg h4, if_neg h5])
            exact v_iret C hr (by rw [← hE]) (by rw [← hE]) dM_key_78
      · skip
        refine v_iconst C (v := (-1)) dM_key_40 (by decide) ?_
        have hE : ((-1), upd F 2 0) = mKey F a x y z := (by unfold mKey; rw [if_neg h1, if_neg h2, if_pos h3])
        exact v_iret C hr (by rw [← hE]) (by rw [← hE]) dM_key_41
  · skip
    refine v_aload_n C 0 dM_key_13 rfl rfl ?_
    refine v_iconst C (v := 1) dM_key_14 (by decide) ?_
    refine v_cViF (As := [.int 1]) C (c_mFail l D cI cZ cJ b (upd F 2 0) a 1) (cwV 1 C.2.2.2.2.1 gM_key_M_fail rfl rfl rfl (by decide +kernel) ⟨Nat.le_of_ble_eq_true rfl, Nat.le_of_ble_eq_true rfl⟩) 0 rfl (T := TcM) (N := 18) rfl rfl rfl (Nat.le_of_ble_eq_true rfl) ⟨Nat.zero_le _, Nat.zero_le _⟩ dM_key_15 ?_
    have hE : ((mFail (upd F 2 0) a 1).1, (mFail (upd F 2 0) a 1).2) = mKey F a x y z := (by unfold mKey; rw [if_pos h1])
    exact v_iret C hr (by rw [← hE]) (by rw [← hE]) dM_key_18
set_option maxHeartbeats 4000000 in
set_option maxRecDepth 100000 in
theorem c_mOutcome (l : Launch) (D : va_G) (cI cZ cJ : ClassId) (b : Nat → Nat) (F : FT) (a : AT) (n : Nat) (x : Int32) (hn : F 9 = nI n) (hn4 : n ≤ 14) : Ki l yM_outcome wM_outcome ({ frames := 1, cells := 0, slots := 0, locals := 21 } : Room) D vwCl (tyG cI cZ cJ) [.ref (b 0), .int x] (wM cI cZ b F a) ((mOutcome F a n x).1) (wM cI cZ b ((mOutcome F a n x).2) a) := by
  intro sz
  refine v_ent (cc := bM_outcome) (maxL := 8) (ret := (some .int)) (Qc := (fun A => va_Qi (fun (x9 : Int32) (_ : Unit) => x9 = (mOutcome F a n x).1) (fun _ => wB D vwCl (tyG cI cZ cJ) A (wM cI cZ b ((mOutcome F a n x).2) a)) A)) (fr := (fun A => A)) (own := RcM) rfl (by decide) rfl (Nat.le_of_ble_eq_true rfl) rfl ?_
  intro p e s m args below meth c A C hr _
  refine v_free ?_
  refine v_aload_n C 0 dM_outcome_0 rfl rfl ?_
  refine v_iconst C (v := 0) dM_outcome_1 (by decide) ?_
  refine v_put C (T := TcM) (N := 18) (ci := 2) (v := .int 0) inM_outcome_M tycM tycM_ok nmcM 0 rfl rfl 2 (by decide) (by decide +kernel) rfl rfl rfl rfl (Nat.le_of_ble_eq_true rfl) dM_outcome_2 (w1 := wM cI cZ b (upd F 2 0) a) rfl ?_
  refine v_aload_n C 0 dM_outcome_5 rfl rfl ?_
  refine v_iload_n C 1 dM_outcome_6 rfl rfl ?_
  refine v_cVrF (As := [.int x]) C (c_mIsParty l D cI cZ cJ b (upd F 2 0) a x) (cwV 1 C.2.2.2.2.1 gM_outcome_M_isParty rfl rfl rfl (by decide +kernel) ⟨Nat.le_of_ble_eq_true rfl, Nat.le_of_ble_eq_true rfl⟩) 0 rfl (T := TcM) (N := 18) rfl rfl rfl (Nat.le_of_ble_eq_true rfl) ⟨Nat.zero_le _, Nat.zero_le _⟩ dM_outcome_7 ?_
  refine v_if_ne C dM_outcome_10 (tgt := 19) (by decide) (fun h1 => ?_) (fun h1 => ?_)
  · skip
    refine v_iconst C (v := 0) dM_outcome_19 (by decide) ?_
    refine v_istore_n C (lv' := [(0, .ref (b 0)), (1, .int x), (2, .int 0)]) [1, 2, 0] dM_outcome_20 rfl (by decide) rfl ?_
    refine v_iconst C (v := 0) dM_outcome_21 (by decide) ?_
    refine v_istore_n C (lv' := [(0, .ref (b 0)), (1, .int x), (2, .int 0), (3, .int 0)]) [1, 2, 3, 0] dM_outcome_22 rfl (by decide) rfl ?_
    refine v_iconst C (v := 0) dM_outcome_23 (by decide) ?_
    refine v_istore C (lv' := [(0, .ref (b 0)), (1, .int x), (2, .int 0), (3, .int 0), (4, .int 0)]) [1, 2, 3, 4, 0] dM_outcome_24 (by decide) rfl ?_
    refine v_iconst C (v := 0) dM_outcome_26 (by decide) ?_
    refine v_istore C (lv' := [(0, .ref (b 0)), (1, .int x), (2, .int 0), (3, .int 0), (4, .int 0), (5, .int 0)]) [1, 2, 3, 4, 5, 0] dM_outcome_27 (by decide) rfl ?_
    refine v_iconst C (v := 0) dM_outcome_29 (by decide) ?_
    refine v_istore C (lv' := [(0, .ref (b 0)), (1, .int x), (2, .int 0), (3, .int 0), (4, .int 0), (5, .int 0), (6, .int 0)]) [1, 2, 3, 4, 5, 6, 0] dM_outcome_30 (by decide) rfl ?_
    refine v_loop4 n (fun (i : Nat) (u2 : Int32) (u3 : Int32) (u4 : Int32) (u5 : Int32) => wM cI cZ b (upd F 2 0) a) (fun (i : Nat) (u2 : Int32) (u3 : Int32) (u4 : Int32) (u5 : Int32) => [(0, .ref (b 0)), (1, .int x), (2, .int u2), (3, .int u3), (4, .int u4), (5, .int u5), (6, .int (nI i))]) (fun (ki i : Nat) (u2 : Int32) (u3 : Int32) (u4 : Int32) (u5 : Int32) => mOutcomeL F a n x ki i u2 u3 u4 u5 = mOutcomeL F a n x n 0 0 0 0 0) ?_ ?_ n 0 0 0 0 0 (by omega) rfl
    · skip
      intro ki i u2 u3 u4 u5 hki hIi ihi
      have hIi : mOutcomeL F a n x (ki + 1) i u2 u3 u4 u5 = mOutcomeL F a n x n 0 0 0 0 0 := hIi
      refine v_as (w' := wM cI cZ b (upd F 2 0) a) (lv' := [(0, .ref (b 0)), (1, .int x), (2, .int u2), (3, .int u3), (4, .int u4), (5, .int u5), (6, .int (nI i))]) rfl rfl ?_
      refine v_iload C 6 dM_outcome_32 rfl ?_
      refine v_aload_n C 0 dM_outcome_34 rfl rfl ?_
      refine v_get C (T := TcM) (N := 18) (ci := 2) (v := .int (F 9)) inM_outcome_M 0 rfl rfl 9 (by decide) (by decide +kernel) rfl rfl dM_outcome_35 ?_
      refine v_top (y := nI n) hn ?_
      refine v_icmp_ge C dM_outcome_38 (tgt := 131) (by decide) (fun h => absurd h (nI_ge (a := i) (b := n) (by omega) (by omega))) (fun _ => ?_)
      refine v_aload_n C 0 dM_outcome_41 rfl rfl ?_
      refine v_get C (T := TcM) (N := 18) (ci := 2) (v := .ref (b 3)) inM_outcome_M 0 rfl rfl 12 (by decide) (by decide +kernel) rfl rfl dM_outcome_42 ?_
      refine v_iload C 6 dM_outcome_45 rfl ?_
      refine v_iald C 3 0 (f := a 12) (y := (a 12) i) (j := i) rfl rfl (nI_clamp (by omega)) rfl (vp_in_nI (by omega) (by decide)) dM_outcome_47 ?_
      refine v_iconst C (v := 2) dM_outcome_48 (by decide) ?_
      refine v_icmp_ne C dM_outcome_49 (tgt := 56) (by decide) (fun h2 => ?_) (fun h2 => ?_)
      · skip
        refine v_iconst C (v := 0) dM_outcome_56 (by decide) ?_
        refine v_istore C (lv' := [(0, .ref (b 0)), (1, .int x), (2, .int u2), (3, .int u3), (4, .int u4), (5, .int u5), (6, .int (nI i)), (7, .int 0)]) [1, 2, 3, 4, 5, 6, 7, 0] dM_outcome_57 (by decide) rfl ?_
        refine v_aload_n C 0 dM_outcome_59 rfl rfl ?_
        refine v_get C (T := TcM) (N := 18) (ci := 2) (v := .ref (b 2)) inM_outcome_M 0 rfl rfl 11 (by decide) (by decide +kernel) rfl rfl dM_outcome_60 ?_
        refine v_iload C 6 dM_outcome_63 rfl ?_
        refine v_iald C 2 0 (f := a 11) (y := (a 11) i) (j := i) rfl rfl (nI_clamp (by omega)) rfl (vp_in_nI (by omega) (by decide)) dM_outcome_65 ?_
        refine v_iload_n C 1 dM_outcome_66 rfl rfl ?_
        refine v_icmp_ne C dM_outcome_67 (tgt := 73) (by decide) (fun h3 => ?_) (fun h3 => ?_)
        · skip
          refine v_aload_n C 0 dM_outcome_73 rfl rfl ?_
          refine v_get C (T := TcM) (N := 18) (ci := 2) (v := .ref (b 1)) inM_outcome_M 0 rfl rfl 10 (by decide) (by decide +kernel) rfl rfl dM_outcome_74 ?_
          refine v_iload C 6 dM_outcome_77 rfl ?_
          refine v_iald C 1 0 (f := a 10) (y := (a 10) i) (j := i) rfl rfl (nI_clamp (by omega)) rfl (vp_in_nI (by omega) (by decide)) dM_outcome_79 ?_
          refine v_iload_n C 1 dM_outcome_80 rfl rfl ?_
          refine v_icmp_ne C dM_outcome_81 (tgt := 87) (by decide) (fun h4 => ?_) (fun h4 => ?_)
          · skip
            refine v_aload_n C 0 dM_outcome_87 rfl rfl ?_
            refine v_get C (T := TcM) (N := 18) (ci := 2) (v := .ref (b 2)) inM_outcome_M 0 rfl rfl 11 (by decide) (by decide +kernel) rfl rfl dM_outcome_88 ?_
            refine v_iload C 6 dM_outcome_91 rfl ?_
            refine v_iald C 2 0 (f := a 11) (y := (a 11) i) (j := i) rfl rfl (nI_clamp (by omega)) rfl (vp_in_nI (by omega) (by decide)) dM_outcome_93 ?_
            refine v_iload_n C 1 dM_outcome_94 rfl rfl ?_
            refine v_icmp_ne C dM_outcome_95 (tgt := 106) (by decide) (fun _ => ?_) (fun h => absurd h h3)
            refine v_aload_n C 0 dM_outcome_106 rfl rfl ?_
            refine v_get C (T := TcM) (N := 18) (ci := 2) (v := .ref (b 1)) inM_outcome_M 0 rfl rfl 10 (by decide) (by decide +kernel) rfl rfl dM_outcome_107 ?_
            refine v_iload C 6 dM_outcome_110 rfl ?_
            refine v_iald C 1 0 (f := a 10) (y := (a 10) i) (j := i) rfl rfl (nI_clamp (by omega)) rfl (vp_in_nI (by omega) (by decide)) dM_outcome_112 ?_
            refine v_iload_n C 1 dM_outcome_113 rfl rfl ?_
            refine v_icmp_ne C dM_outcome_114 (tgt := 125) (by decide) (fun _ => ?_) (fun h => absurd h h4)
            refine v_iinc C (v := nI (i + 1)) (lv' := [(0, .ref (b 0)), (1, .int x), (2, .int u2), (3, .int u3), (4, .int u4), (5, .int u5), (6, .int (nI (i + 1))), (7, .int 0)]) 6 [1, 2, 3, 4, 5, 6, 0, 7] dM_outcome_125 rfl (nI_1 i) (by decide) rfl ?_
            refine v_goto C dM_outcome_128 (tgt := 32) (by decide) ?_
            refine v_loc (lv' := [(0, .ref (b 0)), (1, .int x), (2, .int u2), (3, .int u3), (4, .int u4), (5, .int u5), (6, .int (nI (i + 1)))]) [0, 1, 2, 3, 4, 5, 6] rfl ?_
            have hL : mOutcomeL F a n x ki (i + 1) u2 u3 u4 u5 = mOutcomeL F a n x n 0 0 0 0 0 := (by rw [← hIi]; simp only [mOutcomeL]; rw [if_neg h2, if_neg h3, if_neg h4])
            exact ihi u2 u3 u4 u5 hL
          · skip
            refine v_iinc C (v := u5 + 1) (lv' := [(0, .ref (b 0)), (1, .int x), (2, .int u2), (3, .int u3), (4, .int u4), (5, .int (u5 + 1)), (6, .int (nI i)), (7, .int 0)]) 5 [1, 2, 3, 4, 5, 0, 6, 7] dM_outcome_84 rfl rfl (by decide) rfl ?_
            refine v_aload_n C 0 dM_outcome_87 rfl rfl ?_
            refine v_get C (T := TcM) (N := 18) (ci := 2) (v := .ref (b 2)) inM_outcome_M 0 rfl rfl 11 (by decide) (by decide +kernel) rfl rfl dM_outcome_88 ?_
            refine v_iload C 6 dM_outcome_91 rfl ?_
            refine v_iald C 2 0 (f := a 11) (y := (a 11) i) (j := i) rfl rfl (nI_clamp (by omega)) rfl (vp_in_nI (by omega) (by decide)) dM_outcome_93 ?_
            refine v_iload_n C 1 dM_outcome_94 rfl rfl ?_
            refine v_icmp_ne C dM_outcome_95 (tgt := 106) (by decide) (fun _ => ?_) (fun h => absurd h h3)
            refine v_aload_n C 0 dM_outcome_106 rfl rfl ?_
            refine v_get C (T := TcM) (N := 18) (ci := 2) (v := .ref (b 1)) inM_outcome_M 0 rfl rfl 10 (by decide) (by decide +kernel) rfl rfl dM_outcome_107 ?_
            refine v_iload C 6 dM_outcome_110 rfl ?_
            refine v_iald C 1 0 (f := a 10) (y := (a 10) i) (j := i) rfl rfl (nI_clamp (by omega)) rfl (vp_in_nI (by omega) (by decide)) dM_outcome_112 ?_
            refine v_iload_n C 1 dM_outcome_113 rfl rfl ?_
            refine v_icmp_ne C dM_outcome_114 (tgt := 125) (by decide) (fun h => absurd h4 h) (fun _ => ?_)
            refine v_iload C 7 dM_outcome_117 rfl ?_
            refine v_if_eq C dM_outcome_119 (tgt := 125) (by decide) (fun _ => ?_) (fun h => absurd h (by decide))
            refine v_iinc C (v := nI (i + 1)) (lv' := [(0, .ref (b 0)), (1, .int x), (2, .int u2), (3, .int u3), (4, .int u4), (5, .int (u5 + 1)), (6, .int (nI (i + 1))), (7, .int 0)]) 6 [1, 2, 3, 4, 5, 6, 0, 7] dM_outcome_125 rfl (nI_1 i) (by decide) rfl ?_
            refine v_goto C dM_outcome_128 (tgt := 32) (by decide) ?_
            refine v_loc (lv' := [(0, .ref (b 0)), (1, .int x), (2, .int u2), (3, .int u3), (4, .int u4), (5, .int (u5 + 1)), (6, .int (nI (i + 1)))]) [0, 1, 2, 3, 4, 5, 6] rfl ?_
            have hL : mOutcomeL F a n x ki (i + 1) u2 u3 u4 (u5 + 1) = mOutcomeL F a n x n 0 0 0 0 0 := (by rw [← hIi]; simp only [mOutcomeL]; rw [if_neg h2, if_neg h3, if_pos h4])
            exact ihi u2 u3 u4 (u5 + 1) hL
        · skip
          refine v_iinc C (v := u4 + 1) (lv' := [(0, .ref (b 0)), (1, .int x), (2, .int u2), (3, .int u3), (4, .int (u4 + 1)), (5, .int u5), (6, .int (nI i)), (7, .int 0)]) 4 [1, 2, 3, 4, 0, 5, 6, 7] dM_outcome_70 rfl rfl (by decide) rfl ?_
          refine v_aload_n C 0 dM_outcome_73 rfl rfl ?_
          refine v_get C (T := TcM) (N := 18) (ci := 2) (v := .ref (b 1)) inM_outcome_M 0 rfl rfl 10 (by decide) (by decide +kernel) rfl rfl dM_outcome_74 ?_
          refine v_iload C 6 dM_outcome_77 rfl ?_
          refine v_iald C 1 0 (f := a 10) (y := (a 10) i) (j := i) rfl rfl (nI_clamp (by omega)) rfl (vp_in_nI (by omega) (by decide)) dM_outcome_79 ?_
          refine v_iload_n C 1 dM_outcome_80 rfl rfl ?_
          refine v_icmp_ne C dM_outcome_81 (tgt := 87) (by decide) (fun h5 => ?_) (fun h5 => ?_)
          · skip
            refine v_aload_n C 0 dM_outcome_87 rfl rfl ?_
            refine v_get C (T := TcM) (N := 18) (ci := 2) (v := .ref (b 2)) inM_outcome_M 0 rfl rfl 11 (by decide) (by decide +kernel) rfl rfl dM_outcome_88 ?_
            refine v_iload C 6 dM_outcome_91 rfl ?_
            refine v_iald C 2 0 (f := a 11) (y := (a 11) i) (j := i) rfl rfl (nI_clamp (by omega)) rfl (vp_in_nI (by omega) (by decide)) dM_outcome_93 ?_
            refine v_iload_n C 1 dM_outcome_94 rfl rfl ?_
            refine v_icmp_ne C dM_outcome_95 (tgt := 106) (by decide) (fun h => absurd h3 h) (fun _ => ?_)
            refine v_iload C 7 dM_outcome_98 rfl ?_
            refine v_if_eq C dM_outcome_100 (tgt := 106) (by decide) (fun _ => ?_) (fun h => absurd h (by decide))
            refine v_aload_n C 0 dM_outcome_106 rfl rfl ?_
            refine v_get C (T := TcM) (N := 18) (ci := 2) (v := .ref (b 1)) inM_outcome_M 0 rfl rfl 10 (by decide) (by decide +kernel) rfl rfl dM_outcome_107 ?_
            refine v_iload C 6 dM_outcome_110 rfl ?_
            refine v_iald C 1 0 (f := a 10) (y := (a 10) i) (j := i) rfl rfl (nI_clamp (by omega)) rfl (vp_in_nI (by omega) (by decide)) dM_outcome_112 ?_
            refine v_iload_n C 1 dM_outcome_113 rfl rfl ?_
            refine v_icmp_ne C dM_outcome_114 (tgt := 125) (by decide) (fun _ => ?_) (fun h => absurd h h5)
            refine v_iinc C (v := nI (i + 1)) (lv' := [(0, .ref (b 0)), (1, .int x), (2, .int u2), (3, .int u3), (4, .int (u4 + 1)), (5, .int u5), (6, .int (nI (i + 1))), (7, .int 0)]) 6 [1, 2, 3, 4, 5, 6, 0, 7] dM_outcome_125 rfl (nI_1 i) (by decide) rfl ?_
            refine v_goto C dM_outcome_128 (tgt := 32) (by decide) ?_
            refine v_loc (lv' := [(0, .ref (b 0)), (1, .int x), (2, .int u2), (3, .int u3), (4, .int (u4 + 1)), (5, .int u5), (6, .int (nI (i + 1)))]) [0, 1, 2, 3, 4, 5, 6] rfl ?_
            have hL : mOutcomeL F a n x ki (i + 1) u2 u3 (u4 + 1) u5 = mOutcomeL F a n x n 0 0 0 0 0 := (by rw [← hIi]; simp only [mOutcomeL]; rw [if_neg h2, if_pos h3, if_neg h5])
            exact ihi u2 u3 (u4 + 1) u5 hL
          · skip
            refine v_iinc C (v := u5 + 1) (lv' := [(0, .ref (b 0)), (1, .int x), (2, .int u2), (3, .int u3), (4, .int (u4 + 1)), (5, .int (u5 + 1)), (6, .int (nI i)), (7, .int 0)]) 5 [1, 2, 3, 4, 5, 0, 6, 7] dM_outcome_84 rfl rfl (by decide) rfl ?_
            refine v_aload_n C 0 dM_outcome_87 rfl rfl ?_
            refine v_get C (T := TcM) (N := 18) (ci := 2) (v := .ref (b 2)) inM_outcome_M 0 rfl rfl 11 (by decide) (by decide +kernel) rfl rfl dM_outcome_88 ?_
            refine v_iload C 6 dM_outcome_91 rfl ?_
            refine v_iald C 2 0 (f := a 11) (y := (a 11) i) (j := i) rfl rfl (nI_clamp (by omega)) rfl (vp_in_nI (by omega) (by decide)) dM_outcome_93 ?_
            refine v_iload_n C 1 dM_outcome_94 rfl rfl ?_
            refine v_icmp_ne C dM_outcome_95 (tgt := 106) (by decide) (fun h => absurd h3 h) (fun _ => ?_)
            refine v_iload C 7 dM_outcome_98 rfl ?_
            refine v_if_eq C dM_outcome_100 (tgt := 106) (by decide) (fun _ => ?_) (fun h => absurd h (by decide))
            refine v_aload_n C 0 dM_outcome_106 rfl rfl ?_
            refine v_get C (T := TcM) (N := 18) (ci := 2) (v := .ref (b 1)) inM_outcome_M 0 rfl rfl 10 (by decide) (by decide +kernel) rfl rfl dM_outcome_107 ?_
            refine v_iload C 6 dM_outcome_110 rfl ?_
            refine v_iald C 1 0 (f := a 10) (y := (a 10) i) (j := i) rfl rfl (nI_clamp (by omega)) rfl (vp_in_nI (by omega) (by decide)) dM_outcome_112 ?_
            refine v_iload_n C 1 dM_outcome_113 rfl rfl ?_
            refine v_icmp_ne C dM_outcome_114 (tgt := 125) (by decide) (fun h => absurd h5 h) (fun _ => ?_)
            refine v_iload C 7 dM_outcome_117 rfl ?_
            refine v_if_eq C dM_outcome_119 (tgt := 125) (by decide) (fun _ => ?_) (fun h => absurd h (by decide))
            refine v_iinc C (v := nI (i + 1)) (lv' := [(0, .ref (b 0)), (1, .int x), (2, .int u2), (3, .int u3), (4, .int (u4 + 1)), (5, .int (u5 + 1)), (6, .int (nI (i + 1))), (7, .int 0)]) 6 [1, 2, 3, 4, 5, 6, 0, 7] dM_outcome_125 rfl (nI_1 i) (by decide) rfl ?_
            refine v_goto C dM_outcome_128 (tgt := 32) (by decide) ?_
            refine v_loc (lv' := [(0, .ref (b 0)), (1, .int x), (2, .int u2), (3, .int u3), (4, .int (u4 + 1)), (5, .int (u5 + 1)), (6, .int (nI (i + 1)))]) [0, 1, 2, 3, 4, 5, 6] rfl ?_
            have hL : mOutcomeL F a n x ki (i + 1) u2 u3 (u4 + 1) (u5 + 1) = mOutcomeL F a n x n 0 0 0 0 0 := (by rw [← hIi]; simp only [mOutcomeL]; rw [if_neg h2, if_pos h3, if_pos h5])
            exact ihi u2 u3 (u4 + 1) (u5 + 1) hL
      · skip
        refine v_iconst C (v := 1) dM_outcome_52 (by decide) ?_
        refine v_goto C dM_outcome_53 (tgt := 57) (by decide) ?_
        refine v_istore C (lv' := [(0, .ref (b 0)), (1, .int x), (2, .int u2), (3, .int u3), (4, .int u4), (5, .int u5), (6, .int (nI i)), (7, .int 1)]) [1, 2, 3, 4, 5, 6, 7, 0] dM_outcome_57 (by decide) rfl ?_
        refine v_aload_n C 0 dM_outcome_59 rfl rfl ?_
        refine v_get C (T := TcM) (N := 18) (ci := 2) (v := .ref (b 2)) inM_outcome_M 0 rfl rfl 11 (by decide) (by decide +kernel) rfl rfl dM_outcome_60 ?_
        refine v_iload C 6 dM_outcome_63 rfl ?_
        refine v_iald C 2 0 (f := a 11) (y := (a 11) i) (j := i) rfl rfl (nI_clamp (by omega)) rfl (vp_in_nI (by omega) (by decide)) dM_outcome_65 ?_
        refine v_iload_n C 1 dM_outcome_66 rfl rfl ?_
        refine v_icmp_ne C dM_outcome_67 (tgt := 73) (by decide) (fun h6 => ?_) (fun h6 => ?_)
        · skip
          refine v_aload_n C 0 dM_outcome_73 rfl rfl ?_
          refine v_get C (T := TcM) (N := 18) (ci := 2) (v := .ref (b 1)) inM_outcome_M 0 rfl rfl 10 (by decide) (by decide +kernel) rfl rfl dM_outcome_74 ?_
          refine v_iload C 6 dM_outcome_77 rfl ?_
          refine v_iald C 1 0 (f := a 10) (y := (a 10) i) (j := i) rfl rfl (nI_clamp (by omega)) rfl (vp_in_nI (by omega) (by decide)) dM_outcome_79 ?_
          refine v_iload_n C 1 dM_outcome_80 rfl rfl ?_
          refine v_icmp_ne C dM_outcome_81 (tgt := 87) (by decide) (fun h7 => ?_) (fun h7 => ?_)
          · skip
            refine v_aload_n C 0 dM_outcome_87 rfl rfl ?_
            refine v_get C (T := TcM) (N := 18) (ci := 2) (v := .ref (b 2)) inM_outcome_M 0 rfl rfl 11 (by decide) (by decide +kernel) rfl rfl dM_outcome_88 ?_
            refine v_iload C 6 dM_outcome_91 rfl ?_
            refine v_iald C 2 0 (f := a 11) (y := (a 11) i) (j := i) rfl rfl (nI_clamp (by omega)) rfl (vp_in_nI (by omega) (by decide)) dM_outcome_93 ?_
            refine v_iload_n C 1 dM_outcome_94 rfl rfl ?_
            refine v_icmp_ne C dM_outcome_95 (tgt := 106) (by decide) (fun _ => ?_) (fun h => absurd h h6)
            refine v_aload_n C 0 dM_outcome_106 rfl rfl ?_
            refine v_get C (T := TcM) (N := 18) (ci := 2) (v := .ref (b 1)) inM_outcome_M 0 rfl rfl 10 (by decide) (by decide +kernel) rfl rfl dM_outcome_107 ?_
            refine v_iload C 6 dM_outcome_110 rfl ?_
            refine v_iald C 1 0 (f := a 10) (y := (a 10) i) (j := i) rfl rfl (nI_clamp (by omega)) rfl (vp_in_nI (by omega) (by decide)) dM_outcome_112 ?_
            refine v_iload_n C 1 dM_outcome_113 rfl rfl ?_
            refine v_icmp_ne C dM_outcome_114 (tgt := 125) (by decide) (fun _ => ?_) (fun h => absurd h h7)
            refine v_iinc C (v := nI (i + 1)) (lv' := [(0, .ref (b 0)), (1, .int x), (2, .int u2), (3, .int u3), (4, .int u4), (5, .int u5), (6, .int (nI (i + 1))), (7, .int 1)]) 6 [1, 2, 3, 4, 5, 6, 0, 7] dM_outcome_125 rfl (nI_1 i) (by decide) rfl ?_
            refine v_goto C dM_outcome_128 (tgt := 32) (by decide) ?_
            refine v_loc (lv' := [(0, .ref (b 0)), (1, .int x), (2, .int u2), (3, .int u3), (4, .int u4), (5, .int u5), (6, .int (nI (i + 1)))]) [0, 1, 2, 3, 4, 5, 6] rfl ?_
            have hL : mOutcomeL F a n x ki (i + 1) u2 u3 u4 u5 = mOutcomeL F a n x n 0 0 0 0 0 := (by rw [← hIi]; simp only [mOutcomeL]; rw [if_pos h2, if_neg h6, if_neg h7])
            exact ihi u2 u3 u4 u5 hL
          · skip
            refine v_iinc C (v := u5 + 1) (lv' := [(0, .ref (b 0)), (1, .int x), (2, .int u2), (3, .int u3), (4, .int u4), (5, .int (u5 + 1)), (6, .int (nI i)), (7, .int 1)]) 5 [1, 2, 3, 4, 5, 0, 6, 7] dM_outcome_84 rfl rfl (by decide) rfl ?_
            refine v_aload_n C 0 dM_outcome_87 rfl rfl ?_
            refine v_get C (T := TcM) (N := 18) (ci := 2) (v := .ref (b 2)) inM_outcome_M 0 rfl rfl 11 (by decide) (by decide +kernel) rfl rfl dM_outcome_88 ?_
            refine v_iload C 6 dM_outcome_91 rfl ?_
            refine v_iald C 2 0 (f := a 11) (y := (a 11) i) (j := i) rfl rfl (nI_clamp (by omega)) rfl (vp_in_nI (by omega) (by decide)) dM_outcome_93 ?_
            refine v_iload_n C 1 dM_outcome_94 rfl rfl ?_
            refine v_icmp_ne C dM_outcome_95 (tgt := 106) (by decide) (fun _ => ?_) (fun h => absurd h h6)
            refine v_aload_n C 0 dM_outcome_106 rfl rfl ?_
            refine v_get C (T := TcM) (N := 18) (ci := 2) (v := .ref (b 1)) inM_outcome_M 0 rfl rfl 10 (by decide) (by decide +kernel) rfl rfl dM_outcome_107 ?_
            refine v_iload C 6 dM_outcome_110 rfl ?_
            refine v_iald C 1 0 (f := a 10) (y := (a 10) i) (j := i) rfl rfl (nI_clamp (by omega)) rfl (vp_in_nI (by omega) (by decide)) dM_outcome_112 ?_
            refine v_iload_n C 1 dM_outcome_113 rfl rfl ?_
            refine v_icmp_ne C dM_outcome_114 (tgt := 125) (by decide) (fun h => absurd h7 h) (fun _ => ?_)
            refine v_iload C 7 dM_outcome_117 rfl ?_
            refine v_if_eq C dM_outcome_119 (tgt := 125) (by decide) (fun h => absurd h (by decide)) (fun _ => ?_)
            refine v_iinc C (v := u3 + 1) (lv' := [(0, .ref (b 0)), (1, .int x), (2, .int u2), (3, .int (u3 + 1)), (4, .int u4), (5, .int (u5 + 1)), (6, .int (nI i)), (7, .int 1)]) 3 [1, 2, 3, 0, 4, 5, 6, 7] dM_outcome_122 rfl rfl (by decide) rfl ?_
            refine v_iinc C (v := nI (i + 1)) (lv' := [(0, .ref (b 0)), (1, .int x), (2, .int u2), (3, .int (u3 + 1)), (4, .int u4), (5, .int (u5 + 1)), (6, .int (nI (i + 1))), (7, .int 1)]) 6 [1, 2, 3, 4, 5, 6, 0, 7] dM_outcome_125 rfl (nI_1 i) (by decide) rfl ?_
            refine v_goto C dM_outcome_128 (tgt := 32) (by decide) ?_
            refine v_loc (lv' := [(0, .ref (b 0)), (1, .int x), (2, .int u2), (3, .int (u3 + 1)), (4, .int u4), (5, .int (u5 + 1)), (6, .int (nI (i + 1)))]) [0, 1, 2, 3, 4, 5, 6] rfl ?_
            have hL : mOutcomeL F a n x ki (i + 1) u2 (u3 + 1) u4 (u5 + 1) = mOutcomeL F a n x n 0 0 0 0 0 := (by rw [← hIi]; simp only [mOutcomeL]; rw [if_pos h2, if_neg h6, if_pos h7])
            exact ihi u2 (u3 + 1) u4 (u5 + 1) hL
        · skip
          refine v_iinc C (v := u4 + 1) (lv' := [(0, .ref (b 0)), (1, .int x), (2, .int u2), (3, .int u3), (4, .int (u4 + 1)), (5, .int u5), (6, .int (nI i)), (7, .int 1)]) 4 [1, 2, 3, 4, 0, 5, 6, 7] dM_outcome_70 rfl rfl (by decide) rfl ?_
          refine v_aload_n C 0 dM_outcome_73 rfl rfl ?_
          refine v_get C (T := TcM) (N := 18) (ci := 2) (v := .ref (b 1)) inM_outcome_M 0 rfl rfl 10 (by decide) (by decide +kernel) rfl rfl dM_outcome_74 ?_
          refine v_iload C 6 dM_outcome_77 rfl ?_
          refine v_iald C 1 0 (f := a 10) (y := (a 10) i) (j := i) rfl rfl (nI_clamp (by omega)) rfl (vp_in_nI (by omega) (by decide)) dM_outcome_79 ?_
          refine v_iload_n C 1 dM_outcome_80 rfl rfl ?_
          refine v_icmp_ne C dM_outcome_81 (tgt := 87) (by decide) (fun h8 => ?_) (fun h8 => ?_)
          · skip
            refine v_aload_n C 0 dM_outcome_87 rfl rfl ?_
            refine v_get C (T := TcM) (N := 18) (ci := 2) (v := .ref (b 2)) inM_outcome_M 0 rfl rfl 11 (by decide) (by decide +kernel) rfl rfl dM_outcome_88 ?_
            refine v_iload C 6 dM_outcome_91 rfl ?_
            refine v_iald C 2 0 (f := a 11) (y := (a 11) i) (j := i) rfl rfl (nI_clamp (by omega)) rfl (vp_in_nI (by omega) (by decide)) dM_outcome_93 ?_
            refine v_iload_n C 1 dM_outcome_94 rfl rfl ?_
            refine v_icmp_ne C dM_outcome_95 (tgt := 106) (by decide) (fun h => absurd h6 h) (fun _ => ?_)
            refine v_iload C 7 dM_outcome_98 rfl ?_
            refine v_if_eq C dM_outcome_100 (tgt := 106) (by decide) (fun h => absurd h (by decide)) (fun _ => ?_)
            refine v_iinc C (v := u2 + 1) (lv' := [(0, .ref (b 0)), (1, .int x), (2, .int (u2 + 1)), (3, .int u3), (4, .int (u4 + 1)), (5, .int u5), (6, .int (nI i)), (7, .int 1)]) 2 [1, 2, 0, 3, 4, 5, 6, 7] dM_outcome_103 rfl rfl (by decide) rfl ?_
            refine v_aload_n C 0 dM_outcome_106 rfl rfl ?_
            refine v_get C (T := TcM) (N := 18) (ci := 2) (v := .ref (b 1)) inM_outcome_M 0 rfl rfl 10 (by decide) (by decide +kernel) rfl rfl dM_outcome_107 ?_
            refine v_iload C 6 dM_outcome_110 rfl ?_
            refine v_iald C 1 0 (f := a 10) (y := (a 10) i) (j := i) rfl rfl (nI_clamp (by omega)) rfl (vp_in_nI (by omega) (by decide)) dM_outcome_112 ?_
            refine v_iload_n C 1 dM_outcome_113 rfl rfl ?_
            refine v_icmp_ne C dM_outcome_114 (tgt := 125) (by decide) (fun _ => ?_) (fun h => absurd h h8)
            refine v_iinc C (v := nI (i + 1)) (lv' := [(0, .ref (b 0)), (1, .int x), (2, .int (u2 + 1)), (3, .int u3), (4, .int (u4 + 1)), (5, .int u5), (6, .int (nI (i + 1))), (7, .int 1)]) 6 [1, 2, 3, 4, 5, 6, 0, 7] dM_outcome_125 rfl (nI_1 i) (by decide) rfl ?_
            refine v_goto C dM_outcome_128 (tgt := 32) (by decide) ?_
            refine v_loc (lv' := [(0, .ref (b 0)), (1, .int x), (2, .int (u2 + 1)), (3, .int u3), (4, .int (u4 + 1)), (5, .int u5), (6, .int (nI (i + 1)))]) [0, 1, 2, 3, 4, 5, 6] rfl ?_
            have hL : mOutcomeL F a n x ki (i + 1) (u2 + 1) u3 (u4 + 1) u5 = mOutcomeL F a n x n 0 0 0 0 0 := (by rw [← hIi]; simp only [mOutcomeL]; rw [if_pos h2, if_pos h6, if_neg h8])
            exact ihi (u2 + 1) u3 (u4 + 1) u5 hL
          · skip
            refine v_iinc C (v := u5 + 1) (lv' := [(0, .ref (b 0)), (1, .int x), (2, .int u2), (3, .int u3), (4, .int (u4 + 1)), (5, .int (u5 + 1)), (6, .int (nI i)), (7, .int 1)]) 5 [1, 2, 3, 4, 5, 0, 6, 7] dM_outcome_84 rfl rfl (by decide) rfl ?_
            refine v_aload_n C 0 dM_outcome_87 rfl rfl ?_
            refine v_get C (T := TcM) (N := 18) (ci := 2) (v := .ref (b 2)) inM_outcome_M 0 rfl rfl 11 (by decide) (by decide +kernel) rfl rfl dM_outcome_88 ?_
            refine v_iload C 6 dM_outcome_91 rfl ?_
            refine v_iald C 2 0 (f := a 11) (y := (a 11) i) (j := i) rfl rfl (nI_clamp (by omega)) rfl (vp_in_nI (by omega) (by decide)) dM_outcome_93 ?_
            refine v_iload_n C 1 dM_outcome_94 rfl rfl ?_
            refine v_icmp_ne C dM_outcome_95 (tgt := 106) (by decide) (fun h => absurd h6 h) (fun _ => ?_)
            refine v_iload C 7 dM_outcome_98 rfl ?_
            refine v_if_eq C dM_outcome_100 (tgt := 106) (by decide) (fun h => absurd h (by decide)) (fun _ => ?_)
            refine v_iinc C (v := u2 + 1) (lv' := [(0, .ref (b 0)), (1, .int x), (2, .int (u2 + 1)), (3, .int u3), (4, .int (u4 + 1)), (5, .int (u5 + 1)), (6, .int (nI i)), (7, .int 1)]) 2 [1, 2, 0, 3, 4, 5, 6, 7] dM_outcome_103 rfl rfl (by decide) rfl ?_
            refine v_aload_n C 0 dM_outcome_106 rfl rfl ?_
            refine v_get C (T := TcM) (N := 18) (ci := 2) (v := .ref (b 1)) inM_outcome_M 0 rfl rfl 10 (by decide) (by decide +kernel) rfl rfl dM_outcome_107 ?_
            refine v_iload C 6 dM_outcome_110 rfl ?_
            refine v_iald C 1 0 (f := a 10) (y := (a 10) i) (j := i) rfl rfl (nI_clamp (by omega)) rfl (vp_in_nI (by omega) (by decide)) dM_outcome_112 ?_
            refine v_iload_n C 1 dM_outcome_113 rfl rfl ?_
            refine v_icmp_ne C dM_outcome_114 (tgt := 125) (by decide) (fun h => absurd h8 h) (fun _ => ?_)
            refine v_iload C 7 dM_outcome_117 rfl ?_
            refine v_if_eq C dM_outcome_119 (tgt := 125) (by decide) (fun h => absurd h (by decide)) (fun _ => ?_)
            refine v_iinc C (v := u3 + 1) (lv' := [(0, .ref (b 0)), (1, .int x), (2, .int (u2 + 1)), (3, .int (u3 + 1)), (4, .int (u4 + 1)), (5, .int (u5 + 1)), (6, .int (nI i)), (7, .int 1)]) 3 [1, 2, 3, 0, 4, 5, 6, 7] dM_outcome_122 rfl rfl (by decide) rfl ?_
            refine v_iinc C (v := nI (i + 1)) (lv' := [(0, .ref (b 0)), (1, .int x), (2, .int (u2 + 1)), (3, .int (u3 + 1)), (4, .int (u4 + 1)), (5, .int (u5 + 1)), (6, .int (nI (i + 1))), (7, .int 1)]) 6 [1, 2, 3, 4, 5, 6, 0, 7] dM_outcome_125 rfl (nI_1 i) (by decide) rfl ?_
            refine v_goto C dM_outcome_128 (tgt := 32) (by decide) ?_
            refine v_loc (lv' := [(0, .ref (b 0)), (1, .int x), (2, .int (u2 + 1)), (3, .int (u3 + 1)), (4, .int (u4 + 1)), (5, .int (u5 + 1)), (6, .int (nI (i + 1)))]) [0, 1, 2, 3, 4, 5, 6] rfl ?_
            have hL : mOutcomeL F a n x ki (i + 1) (u2 + 1) (u3 + 1) (u4 + 1) (u5 + 1) = mOutcomeL F a n x n 0 0 0 0 0 := (by rw [← hIi]; simp only [mOutcomeL]; rw [if_pos h2, if_pos h6, if_pos h8])
            exact ihi (u2 + 1) (u3 + 1) (u4 + 1) (u5 + 1) hL
    · skip
      intro u2 u3 u4 u5 hIi
      have hIi : mOutcomeL F a n x 0 n u2 u3 u4 u5 = mOutcomeL F a n x n 0 0 0 0 0 := hIi
      refine v_as (w' := wM cI cZ b (upd F 2 0) a) (lv' := [(0, .ref (b 0)), (1, .int x), (2, .int u2), (3, .int u3), (4, .int u4), (5, .int u5), (6, .int (nI n))]) rfl rfl ?_
      obtain ⟨rfl, rfl, rfl, rfl⟩ : u2 = (mOutcomeL F a n x n 0 0 0 0 0).1 ∧ u3 = (mOutcomeL F a n x n 0 0 0 0 0).2.1 ∧ u4 = (mOutcomeL F a n x n 0 0 0 0 0).2.2.1 ∧ u5 = (mOutcomeL F a n x n 0 0 0 0 0).2.2.2 := by rw [← hIi]; exact ⟨rfl, rfl, rfl, rfl⟩
      refine v_iload C 6 dM_outcome_32 rfl ?_
      refine v_aload_n C 0 dM_outcome_34 rfl rfl ?_
      refine v_get C (T := TcM) (N := 18) (ci := 2) (v := .int (F 9)) inM_outcome_M 0 rfl rfl 9 (by decide) (by decide +kernel) rfl rfl dM_outcome_35 ?_
      refine v_top (y := nI n) hn ?_
      refine v_icmp_ge C dM_outcome_38 (tgt := 131) (by decide) (fun _ => ?_) (fun h => absurd (nI_le (a := n) (b := n) (by omega) (by omega)) h)
      refine v_iload_n C 2 dM_outcome_131 rfl rfl ?_
      refine v_if_ne C dM_outcome_132 (tgt := 141) (by decide) (fun h9 => ?_) (fun h9 => ?_)
      · skip
        refine v_iload_n C 2 dM_outcome_141 rfl rfl ?_
        refine v_iload C 4 dM_outcome_142 rfl ?_
        refine v_icmp_ne C dM_outcome_144 (tgt := 159) (by decide) (fun h10 => ?_) (fun h10 => ?_)
        · skip
          refine v_iload_n C 2 dM_outcome_159 rfl rfl ?_
          refine v_if_le C dM_outcome_160 (tgt := 171) (by decide) (fun h11 => ?_) (fun h11 => ?_)
          · skip
            refine v_iconst C (v := 4) dM_outcome_171 (by decide) ?_
            have hE : (4, upd F 2 0) = mOutcome F a n x := (by unfold mOutcome; rw [if_neg h1, if_neg h9, if_neg h10, if_pos h11])
            exact v_iret C hr (by rw [← hE]) (by rw [← hE]) dM_outcome_172
          · skip
            refine v_iload_n C 3 dM_outcome_163 rfl rfl ?_
            refine v_if_ne C dM_outcome_164 (tgt := 171) (by decide) (fun h12 => ?_) (fun h12 => ?_)
            · skip
              refine v_iconst C (v := 4) dM_outcome_171 (by decide) ?_
              have hE : (4, upd F 2 0) = mOutcome F a n x := (by unfold mOutcome; rw [if_neg h1, if_neg h9, if_neg h10, if_neg h11, if_neg h12])
              exact v_iret C hr (by rw [← hE]) (by rw [← hE]) dM_outcome_172
            · skip
              refine v_iconst C (v := 3) dM_outcome_167 (by decide) ?_
              refine v_goto C dM_outcome_168 (tgt := 172) (by decide) ?_
              have hE : (3, upd F 2 0) = mOutcome F a n x := (by unfold mOutcome; rw [if_neg h1, if_neg h9, if_neg h10, if_neg h11, if_pos h12])
              exact v_iret C hr (by rw [← hE]) (by rw [← hE]) dM_outcome_172
        · skip
          refine v_iload_n C 3 dM_outcome_147 rfl rfl ?_
          refine v_iload C 5 dM_outcome_148 rfl ?_
          refine v_icmp_ne C dM_outcome_150 (tgt := 157) (by decide) (fun h13 => ?_) (fun h13 => ?_)
          · skip
            refine v_iconst C (v := 2) dM_outcome_157 (by decide) ?_
            have hE : (2, upd F 2 0) = mOutcome F a n x := (by unfold mOutcome; rw [if_neg h1, if_neg h9, if_pos h10, if_neg h13])
            exact v_iret C hr (by rw [← hE]) (by rw [← hE]) dM_outcome_158
          · skip
            refine v_iconst C (v := 1) dM_outcome_153 (by decide) ?_
            refine v_goto C dM_outcome_154 (tgt := 158) (by decide) ?_
            have hE : (1, upd F 2 0) = mOutcome F a n x := (by unfold mOutcome; rw [if_neg h1, if_neg h9, if_pos h10, if_pos h13])
            exact v_iret C hr (by rw [← hE]) (by rw [← hE]) dM_outcome_158
      · skip
        refine v_iload_n C 3 dM_outcome_135 rfl rfl ?_
        refine v_if_ne C dM_outcome_136 (tgt := 141) (by decide) (fun h14 => ?_) (fun h14 => ?_)
        · skip
          refine v_iload_n C 2 dM_outcome_141 rfl rfl ?_
          refine v_iload C 4 dM_outcome_142 rfl ?_
          refine v_icmp_ne C dM_outcome_144 (tgt := 159) (by decide) (fun h15 => ?_) (fun h15 => ?_)
          · skip
            refine v_iload_n C 2 dM_outcome_159 rfl rfl ?_
            refine v_if_le C dM_outcome_160 (tgt := 171) (by decide) (fun h16 => ?_) (fun h16 => ?_)
            · skip
              refine v_iconst C (v := 4) dM_outcome_171 (by decide) ?_
              have hE : (4, upd F 2 0) = mOutcome F a n x := (by unfold mOutcome; rw [if_neg h1, if_pos h9, if_neg h14, if_neg h15, if_pos h16])
              exact v_iret C hr (by rw [← hE]) (by rw [← hE]) dM_outcome_172
            · skip
              refine v_iload_n C 3 dM_outcome_163 rfl rfl ?_
              refine v_if_ne C dM_outcome_164 (tgt := 171) (by decide) (fun _ => ?_) (fun h => absurd h h14)
              refine v_iconst C (v := 4) dM_outcome_171 (by decide) ?_
              have hE : (4, upd F 2 0) = mOutcome F a n x := (by unfold mOutcome; rw [if_neg h1, if_pos h9, if_neg h14, if_neg h15, if_neg h16])
              exact v_iret C hr (by rw [← hE]) (by rw [← hE]) dM_outcome_172
          · skip
            refine v_iload_n C 3 dM_outcome_147 rfl rfl ?_
            refine v_iload C 5 dM_outcome_148 rfl ?_
            refine v_icmp_ne C dM_outcome_150 (tgt := 157) (by decide) (fun h17 => ?_) (fun h17 => ?_)
            · skip
              refine v_iconst C (v := 2) dM_outcome_157 (by decide) ?_
              have hE : (2, upd F 2 0) = mOutcome F a n x := (by unfold mOutcome; rw [if_neg h1, if_pos h9, if_neg h14, if_pos h15, if_neg h17])
              exact v_iret C hr (by rw [← hE]) (by rw [← hE]) dM_outcome_158
            · skip
              refine v_iconst C (v := 1) dM_outcome_153 (by decide) ?_
              refine v_goto C dM_outcome_154 (tgt := 158) (by decide) ?_
              have hE : (1, upd F 2 0) = mOutcome F a n x := (by unfold mOutcome; rw [if_neg h1, if_pos h9, if_neg h14, if_pos h15, if_pos h17])
              exact v_iret C hr (by rw [← hE]) (by rw [← hE]) dM_outcome_158
        · skip
          refine v_iconst C (v := 0) dM_outcome_139 (by decide) ?_
          have hE : (0, upd F 2 0) = mOutcome F a n x := (by unfold mOutcome; rw [if_neg h1, if_pos h9, if_pos h14])
          exact v_iret C hr (by rw [← hE]) (by rw [← hE]) dM_outcome_140
  · skip
    refine v_aload_n C 0 dM_outcome_13 rfl rfl ?_
    refine v_iconst C (v := 1) dM_outcome_14 (by decide) ?_
    refine v_cViF (As := [.int 1]) C (c_mFail l D cI cZ cJ b (upd F 2 0) a 1) (cwV 1 C.2.2.2.2.1 gM_outcome_M_fail rfl rfl rfl (by decide +kernel) ⟨Nat.le_of_ble_eq_true rfl, Nat.le_of_ble_eq_true rfl⟩) 0 rfl (T := TcM) (N := 18) rfl rfl rfl (Nat.le_of_ble_eq_true rfl) ⟨Nat.zero_le _, Nat.zero_le _⟩ dM_outcome_15 ?_
    have hE : ((mFail (upd F 2 0) a 1).1, (mFail (upd F 2 0) a 1).2) = mOutcome F a n x := (by unfold mOutcome; rw [if_pos h1])
    exact v_iret C hr (by rw [← hE]) (by rw [← hE]) dM_outcome_18
set_option maxHeartbeats 4000000 in
set_option maxRecDepth 100000 in
theorem c_mArc (l : Launch) (D : va_G) (cI cZ cJ : ClassId) (b : Nat → Nat) (F : FT) (a : AT) (n : Nat) (P : Nat) (x : Int32) (y : Int32) (hn : F 9 = nI n) (hn4 : n ≤ 14) (hp : F 0 = nI P) (hp6 : P ≤ 6) : Ki l yM_arc wM_arc ({ frames := 1, cells := 0, slots := 0, locals := 21 } : Room) D vwCl (tyG cI cZ cJ) [.ref (b 0), .int x, .int y] (wM cI cZ b F a) ((mArc F a x y).1) (wM cI cZ b ((mArc F a x y).2.1) ((mArc F a x y).2.2)) := by
  intro sz
  refine v_ent (cc := bM_arc) (maxL := 3) (ret := (some .int)) (Qc := (fun A => va_Qi (fun (x9 : Int32) (_ : Unit) => x9 = (mArc F a x y).1) (fun _ => wB D vwCl (tyG cI cZ cJ) A (wM cI cZ b ((mArc F a x y).2.1) ((mArc F a x y).2.2))) A)) (fr := (fun A => A)) (own := RcM) rfl (by decide) rfl (Nat.le_of_ble_eq_true rfl) rfl ?_
  intro p e s m args below meth c A C hr _
  refine v_free ?_
  refine v_aload_n C 0 dM_arc_0 rfl rfl ?_
  refine v_iconst C (v := 0) dM_arc_1 (by decide) ?_
  refine v_put C (T := TcM) (N := 18) (ci := 2) (v := .int 0) inM_arc_M tycM tycM_ok nmcM 0 rfl rfl 2 (by decide) (by decide +kernel) rfl rfl rfl rfl (Nat.le_of_ble_eq_true rfl) dM_arc_2 (w1 := wM cI cZ b (upd F 2 0) a) rfl ?_
  refine v_aload_n C 0 dM_arc_5 rfl rfl ?_
  refine v_iload_n C 1 dM_arc_6 rfl rfl ?_
  refine v_cVrF (As := [.int x]) C (c_mIsParty l D cI cZ cJ b (upd F 2 0) a x) (cwV 1 C.2.2.2.2.1 gM_arc_M_isParty rfl rfl rfl (by decide +kernel) ⟨Nat.le_of_ble_eq_true rfl, Nat.le_of_ble_eq_true rfl⟩) 0 rfl (T := TcM) (N := 18) rfl rfl rfl (Nat.le_of_ble_eq_true rfl) ⟨Nat.zero_le _, Nat.zero_le _⟩ dM_arc_7 ?_
  refine v_if_eq C dM_arc_10 (tgt := 39) (by decide) (fun h1 => ?_) (fun h1 => ?_)
  · skip
    refine v_aload_n C 0 dM_arc_39 rfl rfl ?_
    refine v_iconst C (v := 1) dM_arc_40 (by decide) ?_
    refine v_cViF (As := [.int 1]) C (c_mFail l D cI cZ cJ b (upd F 2 0) a 1) (cwV 1 C.2.2.2.2.1 gM_arc_M_fail rfl rfl rfl (by decide +kernel) ⟨Nat.le_of_ble_eq_true rfl, Nat.le_of_ble_eq_true rfl⟩) 0 rfl (T := TcM) (N := 18) rfl rfl rfl (Nat.le_of_ble_eq_true rfl) ⟨Nat.zero_le _, Nat.zero_le _⟩ dM_arc_41 ?_
    have hE : ((mFail (upd F 2 0) a 1).1, (mFail (upd F 2 0) a 1).2, a) = mArc F a x y := (by unfold mArc; rw [if_pos h1])
    exact v_iret C hr (by rw [← hE]) (by rw [← hE]) dM_arc_44
  · skip
    refine v_aload_n C 0 dM_arc_13 rfl rfl ?_
    refine v_iload_n C 2 dM_arc_14 rfl rfl ?_
    refine v_cVrF (As := [.int y]) C (c_mIsParty l D cI cZ cJ b (upd F 2 0) a y) (cwV 1 C.2.2.2.2.1 gM_arc_M_isParty rfl rfl rfl (by decide +kernel) ⟨Nat.le_of_ble_eq_true rfl, Nat.le_of_ble_eq_true rfl⟩) 0 rfl (T := TcM) (N := 18) rfl rfl rfl (Nat.le_of_ble_eq_true rfl) ⟨Nat.zero_le _, Nat.zero_le _⟩ dM_arc_15 ?_
    refine v_if_eq C dM_arc_18 (tgt := 39) (by decide) (fun h2 => ?_) (fun h2 => ?_)
    · skip
      refine v_aload_n C 0 dM_arc_39 rfl rfl ?_
      refine v_iconst C (v := 1) dM_arc_40 (by decide) ?_
      refine v_cViF (As := [.int 1]) C (c_mFail l D cI cZ cJ b (upd F 2 0) a 1) (cwV 1 C.2.2.2.2.1 gM_arc_M_fail rfl rfl rfl (by decide +kernel) ⟨Nat.le_of_ble_eq_true rfl, Nat.le_of_ble_eq_true rfl⟩) 0 rfl (T := TcM) (N := 18) rfl rfl rfl (Nat.le_of_ble_eq_true rfl) ⟨Nat.zero_le _, Nat.zero_le _⟩ dM_arc_41 ?_
      have hE : ((mFail (upd F 2 0) a 1).1, (mFail (upd F 2 0) a 1).2, a) = mArc F a x y := (by unfold mArc; rw [if_neg h1, if_pos h2])
      exact v_iret C hr (by rw [← hE]) (by rw [← hE]) dM_arc_44
    · skip
      refine v_iload_n C 1 dM_arc_21 rfl rfl ?_
      refine v_iload_n C 2 dM_arc_22 rfl rfl ?_
      refine v_icmp_eq C dM_arc_23 (tgt := 39) (by decide) (fun h3 => ?_) (fun h3 => ?_)
      · skip
        refine v_aload_n C 0 dM_arc_39 rfl rfl ?_
        refine v_iconst C (v := 1) dM_arc_40 (by decide) ?_
        refine v_cViF (As := [.int 1]) C (c_mFail l D cI cZ cJ b (upd F 2 0) a 1) (cwV 1 C.2.2.2.2.1 gM_arc_M_fail rfl rfl rfl (by decide +kernel) ⟨Nat.le_of_ble_eq_true rfl, Nat.le_of_ble_eq_true rfl⟩) 0 rfl (T := TcM) (N := 18) rfl rfl rfl (Nat.le_of_ble_eq_true rfl) ⟨Nat.zero_le _, Nat.zero_le _⟩ dM_arc_41 ?_
        have hE : ((mFail (upd F 2 0) a 1).1, (mFail (upd F 2 0) a 1).2, a) = mArc F a x y := (by unfold mArc; rw [if_neg h1, if_neg h2, if_pos h3])
        exact v_iret C hr (by rw [← hE]) (by rw [← hE]) dM_arc_44
      · skip
        have hx : vp_in x 6 := vp_partyM (F := upd F 2 0) (a := a) (by assumption) hp hp6
        refine v_aload_n C 0 dM_arc_26 rfl rfl ?_
        refine v_get C (T := TcM) (N := 18) (ci := 2) (v := .ref (b 6)) inM_arc_M 0 rfl rfl 15 (by decide) (by decide +kernel) rfl rfl dM_arc_27 ?_
        refine v_iload_n C 1 dM_arc_30 rfl rfl ?_
        refine v_iald C 6 0 (f := a 15) (y := (a 15) x.toNatClampNeg) (j := x.toNatClampNeg) rfl rfl rfl rfl hx dM_arc_31 ?_
        refine v_iload_n C 2 dM_arc_32 rfl rfl ?_
        refine v_cSr0 (As := [.int ((a 15) x.toNatClampNeg), .int y]) C (c_mHas l D cI cZ cJ ((a 15) x.toNatClampNeg) y) (va_cwS 2 C.2.2.2.2.1 gM_arc_M_has rfl rfl rfl (by decide +kernel) ⟨Nat.le_of_ble_eq_true rfl, Nat.le_of_ble_eq_true rfl⟩) rfl rfl (Nat.le_of_ble_eq_true rfl) ⟨Nat.zero_le _, Nat.zero_le _⟩ dM_arc_33 ?_
        refine v_if_eq C dM_arc_36 (tgt := 45) (by decide) (fun h4 => ?_) (fun h4 => ?_)
        · skip
          refine v_aload_n C 0 dM_arc_45 rfl rfl ?_
          refine v_get C (T := TcM) (N := 18) (ci := 2) (v := .int (F 4)) inM_arc_M 0 rfl rfl 4 (by decide) (by decide +kernel) rfl rfl dM_arc_46 ?_
          refine v_if_ne C dM_arc_49 (tgt := 61) (by decide) (fun h5 => ?_) (fun h5 => ?_)
          · skip
            refine v_aload_n C 0 dM_arc_61 rfl rfl ?_
            refine v_iconst C (v := 2) dM_arc_62 (by decide) ?_
            refine v_cViF (As := [.int 2]) C (c_mFail l D cI cZ cJ b (upd F 2 0) a 2) (cwV 1 C.2.2.2.2.1 gM_arc_M_fail rfl rfl rfl (by decide +kernel) ⟨Nat.le_of_ble_eq_true rfl, Nat.le_of_ble_eq_true rfl⟩) 0 rfl (T := TcM) (N := 18) rfl rfl rfl (Nat.le_of_ble_eq_true rfl) ⟨Nat.zero_le _, Nat.zero_le _⟩ dM_arc_63 ?_
            have hE : ((mFail (upd F 2 0) a 2).1, (mFail (upd F 2 0) a 2).2, a) = mArc F a x y := (by unfold mArc; rw [if_neg h1, if_neg h2, if_neg h3, if_pos h4, if_neg h5])
            exact v_iret C hr (by rw [← hE]) (by rw [← hE]) dM_arc_66
          · skip
            refine v_aload_n C 0 dM_arc_52 rfl rfl ?_
            refine v_get C (T := TcM) (N := 18) (ci := 2) (v := .int (F 9)) inM_arc_M 0 rfl rfl 9 (by decide) (by decide +kernel) rfl rfl dM_arc_53 ?_
            refine v_bipush C (v := 14) dM_arc_56 (by decide) ?_
            refine v_icmp_ne C dM_arc_58 (tgt := 67) (by decide) (fun h6 => ?_) (fun h6 => ?_)
            · skip
              have hxx : vp_in (F 9) 14 := vp_room hn hn4 (by assumption)
              refine v_aload_n C 0 dM_arc_67 rfl rfl ?_
              refine v_get C (T := TcM) (N := 18) (ci := 2) (v := .ref (b 1)) inM_arc_M 0 rfl rfl 10 (by decide) (by decide +kernel) rfl rfl dM_arc_68 ?_
              refine v_aload_n C 0 dM_arc_71 rfl rfl ?_
              refine v_get C (T := TcM) (N := 18) (ci := 2) (v := .int (F 9)) inM_arc_M 0 rfl rfl 9 (by decide) (by decide +kernel) rfl rfl dM_arc_72 ?_
              refine v_iload_n C 1 dM_arc_75 rfl rfl ?_
              obtain ⟨zz1, hzz1⟩ : ∃ z9, upd (a 10) ((F 9).toNatClampNeg) x = z9 := ⟨_, rfl⟩
              refine v_iast C 1 0 (f := a 10) (j := (F 9).toNatClampNeg) (f1 := zz1) rfl rfl rfl hzz1 hxx dM_arc_76 (w1 := wM cI cZ b (upd F 2 0) (updA a 10 zz1)) rfl ?_
              refine v_aload_n C 0 dM_arc_77 rfl rfl ?_
              refine v_get C (T := TcM) (N := 18) (ci := 2) (v := .ref (b 2)) inM_arc_M 0 rfl rfl 11 (by decide) (by decide +kernel) rfl rfl dM_arc_78 ?_
              refine v_aload_n C 0 dM_arc_81 rfl rfl ?_
              refine v_get C (T := TcM) (N := 18) (ci := 2) (v := .int (F 9)) inM_arc_M 0 rfl rfl 9 (by decide) (by decide +kernel) rfl rfl dM_arc_82 ?_
              refine v_iload_n C 2 dM_arc_85 rfl rfl ?_
              obtain ⟨zz2, hzz2⟩ : ∃ z9, upd (a 11) ((F 9).toNatClampNeg) y = z9 := ⟨_, rfl⟩
              refine v_iast C 2 0 (f := a 11) (j := (F 9).toNatClampNeg) (f1 := zz2) rfl rfl rfl hzz2 hxx dM_arc_86 (w1 := wM cI cZ b (upd F 2 0) (updA (updA a 10 zz1) 11 zz2)) rfl ?_
              refine v_aload_n C 0 dM_arc_87 rfl rfl ?_
              refine v_get C (T := TcM) (N := 18) (ci := 2) (v := .ref (b 6)) inM_arc_M 0 rfl rfl 15 (by decide) (by decide +kernel) rfl rfl dM_arc_88 ?_
              refine v_iload_n C 1 dM_arc_91 rfl rfl ?_
              refine v_dup2 C dM_arc_92 rfl rfl ?_
              refine v_iald C 6 0 (f := a 15) (y := (a 15) x.toNatClampNeg) (j := x.toNatClampNeg) rfl rfl rfl rfl hx dM_arc_93 ?_
              refine v_iconst C (v := 1) dM_arc_94 (by decide) ?_
              refine v_iload_n C 2 dM_arc_95 rfl rfl ?_
              refine v_ishl C dM_arc_96 ?_
              refine v_ior C dM_arc_97 ?_
              obtain ⟨zz3, hzz3⟩ : ∃ z9, upd (a 15) x.toNatClampNeg (((a 15) x.toNatClampNeg) ||| ((1 : Int32) <<< (y &&& 31))) = z9 := ⟨_, rfl⟩
              refine v_iast C 6 0 (f := a 15) (j := x.toNatClampNeg) (f1 := zz3) rfl rfl rfl hzz3 hx dM_arc_98 (w1 := wM cI cZ b (upd F 2 0) (updA (updA (updA a 10 zz1) 11 zz2) 15 zz3)) rfl ?_
              refine v_aload_n C 0 dM_arc_99 rfl rfl ?_
              refine v_dup C dM_arc_100 rfl ?_
              refine v_get C (T := TcM) (N := 18) (ci := 2) (v := .int (F 9)) inM_arc_M 0 rfl rfl 9 (by decide) (by decide +kernel) rfl rfl dM_arc_101 ?_
              refine v_iconst C (v := 1) dM_arc_104 (by decide) ?_
              refine v_iadd C dM_arc_105 ?_
              refine v_put C (T := TcM) (N := 18) (ci := 2) (v := .int ((F 9) + (1 : Int32))) inM_arc_M tycM tycM_ok nmcM 0 rfl rfl 9 (by decide) (by decide +kernel) rfl rfl rfl rfl (Nat.le_of_ble_eq_true rfl) dM_arc_106 (w1 := wM cI cZ b (upd (upd F 2 0) 9 ((F 9) + (1 : Int32))) (updA (updA (updA a 10 zz1) 11 zz2) 15 zz3)) rfl ?_
              refine v_aload_n C 0 dM_arc_109 rfl rfl ?_
              refine v_get C (T := TcM) (N := 18) (ci := 2) (v := .int ((F 9) + (1 : Int32))) inM_arc_M 0 rfl rfl 9 (by decide) (by decide +kernel) rfl rfl dM_arc_110 ?_
              refine v_iconst C (v := 1) dM_arc_113 (by decide) ?_
              refine v_isub C dM_arc_114 ?_
              have hE : (((F 9) + (1 : Int32)) - (1 : Int32), upd (upd F 2 0) 9 ((F 9) + (1 : Int32)), updA (updA (updA a 10 zz1) 11 zz2) 15 zz3) = mArc F a x y := (by unfold mArc; rw [hzz1, hzz2, hzz3, if_neg h1, if_neg h2, if_neg h3, if_pos h4, if_pos h5, if_neg h6])
              exact v_iret C hr (by rw [← hE]) (by rw [← hE]) dM_arc_115
            · skip
              refine v_aload_n C 0 dM_arc_61 rfl rfl ?_
              refine v_iconst C (v := 2) dM_arc_62 (by decide) ?_
              refine v_cViF (As := [.int 2]) C (c_mFail l D cI cZ cJ b (upd F 2 0) a 2) (cwV 1 C.2.2.2.2.1 gM_arc_M_fail rfl rfl rfl (by decide +kernel) ⟨Nat.le_of_ble_eq_true rfl, Nat.le_of_ble_eq_true rfl⟩) 0 rfl (T := TcM) (N := 18) rfl rfl rfl (Nat.le_of_ble_eq_true rfl) ⟨Nat.zero_le _, Nat.zero_le _⟩ dM_arc_63 ?_
              have hE : ((mFail (upd F 2 0) a 2).1, (mFail (upd F 2 0) a 2).2, a) = mArc F a x y := (by unfold mArc; rw [if_neg h1, if_neg h2, if_neg h3, if_pos h4, if_pos h5, if_pos h6])
              exact v_iret C hr (by rw [← hE]) (by rw [← hE]) dM_arc_66
        · skip
          refine v_aload_n C 0 dM_arc_39 rfl rfl ?_
          refine v_iconst C (v := 1) dM_arc_40 (by decide) ?_
          refine v_cViF (As := [.int 1]) C (c_mFail l D cI cZ cJ b (upd F 2 0) a 1) (cwV 1 C.2.2.2.2.1 gM_arc_M_fail rfl rfl rfl (by decide +kernel) ⟨Nat.le_of_ble_eq_true rfl, Nat.le_of_ble_eq_true rfl⟩) 0 rfl (T := TcM) (N := 18) rfl rfl rfl (Nat.le_of_ble_eq_true rfl) ⟨Nat.zero_le _, Nat.zero_le _⟩ dM_arc_41 ?_
          have hE : ((mFail (upd F 2 0) a 1).1, (mFail (upd F 2 0) a 1).2, a) = mArc F a x y := (by unfold mArc; rw [if_neg h1, if_neg h2, if_neg h3, if_neg h4])
          exact v_iret C hr (by rw [← hE]) (by rw [← hE]) dM_arc_44
set_option maxHeartbeats 4000000 in
set_option maxRecDepth 100000 in
theorem c_mIsPath (l : Launch) (D : va_G) (cI cZ cJ : ClassId) (b : Nat → Nat) (F : FT) (a : AT) (mm : Nat) (x : Int32) (hm : mMany (F 17) = nI mm) (hm6 : mm ≤ 6) (hmem : ∀ i, i < mm → vp_in (mMember (F 17) (nI i)) 6) : Kr l yM_isPath wM_isPath ({ frames := 2, cells := 0, slots := 0, locals := 43 } : Room) D vwCl (tyG cI cZ cJ) [.ref (b 0), .int x] (wM cI cZ b F a) (mIsPath F a mm x) := by
  intro sz
  refine v_ent (cc := bM_isPath) (maxL := 5) (ret := (some .boolean)) (Qc := (fun _ _ st oc t => oc = .returned (some (.int (mIsPath F a mm x))) ∧ t.heap = st.heap)) (fr := (fun _ _ => False)) (own := RcM) rfl (by decide) rfl (Nat.le_of_ble_eq_true rfl) rfl ?_
  intro p e s m args below meth c A C hr _
  refine v_aload_n C 0 dM_isPath_0 rfl rfl ?_
  refine v_get C (T := TcM) (N := 18) (ci := 2) (v := .int (F 17)) inM_isPath_M 0 rfl rfl 17 (by decide) (by decide +kernel) rfl rfl dM_isPath_1 ?_
  refine v_cSr0 (As := [.int (F 17)]) C (c_mMany l D cI cZ cJ (F 17)) (va_cwS 1 C.2.2.2.2.1 gM_isPath_M_many rfl rfl rfl (by decide +kernel) ⟨Nat.le_of_ble_eq_true rfl, Nat.le_of_ble_eq_true rfl⟩) rfl rfl (Nat.le_of_ble_eq_true rfl) ⟨Nat.zero_le _, Nat.zero_le _⟩ dM_isPath_4 ?_
  refine v_top (y := nI mm) hm ?_
  refine v_istore_n C (lv' := [(0, .ref (b 0)), (1, .int x), (2, .int (nI mm))]) [1, 2, 0] dM_isPath_7 rfl (by decide) rfl ?_
  refine v_iload_n C 2 dM_isPath_8 rfl rfl ?_
  refine v_if_eq C dM_isPath_9 (tgt := 58) (by decide) (fun h1 => ?_) (fun h1 => ?_)
  · skip
    refine v_iconst C (v := 0) dM_isPath_58 (by decide) ?_
    exact v_zrr C hr (by decide) (by unfold mIsPath; rw [if_pos h1]) dM_isPath_59
  · skip
    refine v_aload_n C 0 dM_isPath_12 rfl rfl ?_
    refine v_get C (T := TcM) (N := 18) (ci := 2) (v := .int (F 17)) inM_isPath_M 0 rfl rfl 17 (by decide) (by decide +kernel) rfl rfl dM_isPath_13 ?_
    refine v_iconst C (v := 0) dM_isPath_16 (by decide) ?_
    refine v_cSr0 (As := [.int (F 17), .int 0]) C (c_mMember l D cI cZ cJ (F 17) 0) (va_cwS 2 C.2.2.2.2.1 gM_isPath_M_member rfl rfl rfl (by decide +kernel) ⟨Nat.le_of_ble_eq_true rfl, Nat.le_of_ble_eq_true rfl⟩) rfl rfl (Nat.le_of_ble_eq_true rfl) ⟨Nat.zero_le _, Nat.zero_le _⟩ dM_isPath_17 ?_
    refine v_iload_n C 1 dM_isPath_20 rfl rfl ?_
    refine v_icmp_ne C dM_isPath_21 (tgt := 58) (by decide) (fun h2 => ?_) (fun h2 => ?_)
    · skip
      refine v_iconst C (v := 0) dM_isPath_58 (by decide) ?_
      exact v_zrr C hr (by decide) (by unfold mIsPath; rw [if_neg h1, if_neg h2]) dM_isPath_59
    · skip
      refine v_aload_n C 0 dM_isPath_24 rfl rfl ?_
      refine v_get C (T := TcM) (N := 18) (ci := 2) (v := .int (F 17)) inM_isPath_M 0 rfl rfl 17 (by decide) (by decide +kernel) rfl rfl dM_isPath_25 ?_
      refine v_cSr0 (As := [.int (F 17)]) C (c_mMembers l D cI cZ cJ mm (F 17) hm hm6) (va_cwS 1 C.2.2.2.2.1 gM_isPath_M_members rfl rfl rfl (by decide +kernel) ⟨Nat.le_of_ble_eq_true rfl, Nat.le_of_ble_eq_true rfl⟩) rfl rfl (Nat.le_of_ble_eq_true rfl) ⟨Nat.zero_le _, Nat.zero_le _⟩ dM_isPath_28 ?_
      refine v_cSr0 (As := [.int (mMembers mm (F 17))]) C (c_mSize l D cI cZ cJ (mMembers mm (F 17))) (va_cwS 1 C.2.2.2.2.1 gM_isPath_M_size rfl rfl rfl (by decide +kernel) ⟨Nat.le_of_ble_eq_true rfl, Nat.le_of_ble_eq_true rfl⟩) rfl rfl (Nat.le_of_ble_eq_true rfl) ⟨Nat.zero_le _, Nat.zero_le _⟩ dM_isPath_31 ?_
      refine v_iload_n C 2 dM_isPath_34 rfl rfl ?_
      refine v_icmp_ne C dM_isPath_35 (tgt := 58) (by decide) (fun h3 => ?_) (fun h3 => ?_)
      · skip
        refine v_iconst C (v := 0) dM_isPath_58 (by decide) ?_
        exact v_zrr C hr (by decide) (by unfold mIsPath; rw [if_neg h1, if_pos h2, if_neg h3]) dM_isPath_59
      · skip
        refine v_aload_n C 0 dM_isPath_38 rfl rfl ?_
        refine v_get C (T := TcM) (N := 18) (ci := 2) (v := .int (F 7)) inM_isPath_M 0 rfl rfl 7 (by decide) (by decide +kernel) rfl rfl dM_isPath_39 ?_
        refine v_aload_n C 0 dM_isPath_42 rfl rfl ?_
        refine v_get C (T := TcM) (N := 18) (ci := 2) (v := .int (F 17)) inM_isPath_M 0 rfl rfl 17 (by decide) (by decide +kernel) rfl rfl dM_isPath_43 ?_
        refine v_iload_n C 2 dM_isPath_46 rfl rfl ?_
        refine v_iconst C (v := 1) dM_isPath_47 (by decide) ?_
        refine v_isub C dM_isPath_48 ?_
        refine v_cSr0 (As := [.int (F 17), .int ((nI mm) - (1 : Int32))]) C (c_mMember l D cI cZ cJ (F 17) ((nI mm) - (1 : Int32))) (va_cwS 2 C.2.2.2.2.1 gM_isPath_M_member rfl rfl rfl (by decide +kernel) ⟨Nat.le_of_ble_eq_true rfl, Nat.le_of_ble_eq_true rfl⟩) rfl rfl (Nat.le_of_ble_eq_true rfl) ⟨Nat.zero_le _, Nat.zero_le _⟩ dM_isPath_49 ?_
        refine v_cSr0 (As := [.int (F 7), .int (mMember (F 17) ((nI mm) - (1 : Int32)))]) C (c_mHas l D cI cZ cJ (F 7) (mMember (F 17) ((nI mm) - (1 : Int32)))) (va_cwS 2 C.2.2.2.2.1 gM_isPath_M_has rfl rfl rfl (by decide +kernel) ⟨Nat.le_of_ble_eq_true rfl, Nat.le_of_ble_eq_true rfl⟩) rfl rfl (Nat.le_of_ble_eq_true rfl) ⟨Nat.zero_le _, Nat.zero_le _⟩ dM_isPath_52 ?_
        refine v_if_ne C dM_isPath_55 (tgt := 60) (by decide) (fun h4 => ?_) (fun h4 => ?_)
        · skip
          have hm1 : 1 ≤ mm := nI_pos1 (by assumption)
          refine v_iconst C (v := 1) dM_isPath_60 (by decide) ?_
          refine v_istore_n C (lv' := [(0, .ref (b 0)), (1, .int x), (2, .int (nI mm)), (3, .int 1)]) [1, 2, 3, 0] dM_isPath_61 rfl (by decide) rfl ?_
          refine v_iconst C (v := 0) dM_isPath_62 (by decide) ?_
          refine v_istore C (lv' := [(0, .ref (b 0)), (1, .int x), (2, .int (nI mm)), (3, .int 1), (4, .int 0)]) [1, 2, 3, 4, 0] dM_isPath_63 (by decide) rfl ?_
          refine v_loop1 (mm - 1) (fun (i : Nat) (u : Int32) => wM cI cZ b F a) (fun (i : Nat) (u : Int32) => [(0, .ref (b 0)), (1, .int x), (2, .int (nI mm)), (3, .int u), (4, .int (nI i))]) (fun (ki i : Nat) (u : Int32) => mIsPathL F a mm x ki i u = mIsPathL F a mm x (mm - 1) 0 1) ?_ ?_ (mm - 1) 0 1 (by omega) rfl
          · skip
            intro ki i u hki hIi ihi
            have hIi : mIsPathL F a mm x (ki + 1) i u = mIsPathL F a mm x (mm - 1) 0 1 := hIi
            refine v_as (w' := wM cI cZ b F a) (lv' := [(0, .ref (b 0)), (1, .int x), (2, .int (nI mm)), (3, .int u), (4, .int (nI i))]) rfl rfl ?_
            refine v_iload C 4 dM_isPath_65 rfl ?_
            refine v_iconst C (v := 1) dM_isPath_67 (by decide) ?_
            refine v_iadd C dM_isPath_68 ?_
            refine v_top (y := nI (i + 1)) (nI_1 i) ?_
            refine v_iload_n C 2 dM_isPath_69 rfl rfl ?_
            refine v_icmp_ge C dM_isPath_70 (tgt := 120) (by decide) (fun h => absurd h (nI_ge (a := i + 1) (b := mm) (by omega) (by omega))) (fun _ => ?_)
            refine v_iload_n C 3 dM_isPath_73 rfl rfl ?_
            refine v_if_eq C dM_isPath_74 (tgt := 112) (by decide) (fun h5 => ?_) (fun h5 => ?_)
            · skip
              refine v_iconst C (v := 0) dM_isPath_112 (by decide) ?_
              refine v_istore_n C (lv' := [(0, .ref (b 0)), (1, .int x), (2, .int (nI mm)), (3, .int 0), (4, .int (nI i))]) [1, 2, 3, 0, 4] dM_isPath_113 rfl (by decide) rfl ?_
              refine v_iinc C (v := nI (i + 1)) (lv' := [(0, .ref (b 0)), (1, .int x), (2, .int (nI mm)), (3, .int 0), (4, .int (nI (i + 1)))]) 4 [1, 2, 3, 4, 0] dM_isPath_114 rfl (nI_1 i) (by decide) rfl ?_
              refine v_goto C dM_isPath_117 (tgt := 65) (by decide) ?_
              have hL : mIsPathL F a mm x ki (i + 1) 0 = mIsPathL F a mm x (mm - 1) 0 1 := (by rw [← hIi]; simp only [mIsPathL]; rw [if_pos h5])
              exact ihi 0 hL
            · skip
              refine v_aload_n C 0 dM_isPath_77 rfl rfl ?_
              refine v_get C (T := TcM) (N := 18) (ci := 2) (v := .ref (b 6)) inM_isPath_M 0 rfl rfl 15 (by decide) (by decide +kernel) rfl rfl dM_isPath_78 ?_
              refine v_aload_n C 0 dM_isPath_81 rfl rfl ?_
              refine v_get C (T := TcM) (N := 18) (ci := 2) (v := .int (F 17)) inM_isPath_M 0 rfl rfl 17 (by decide) (by decide +kernel) rfl rfl dM_isPath_82 ?_
              refine v_iload C 4 dM_isPath_85 rfl ?_
              refine v_cSr0 (As := [.int (F 17), .int (nI i)]) C (c_mMember l D cI cZ cJ (F 17) (nI i)) (va_cwS 2 C.2.2.2.2.1 gM_isPath_M_member rfl rfl rfl (by decide +kernel) ⟨Nat.le_of_ble_eq_true rfl, Nat.le_of_ble_eq_true rfl⟩) rfl rfl (Nat.le_of_ble_eq_true rfl) ⟨Nat.zero_le _, Nat.zero_le _⟩ dM_isPath_87 ?_
              refine v_iald C 6 0 (f := a 15) (y := (a 15) ((mMember (F 17) (nI i)).toNatClampNeg)) (j := (mMember (F 17) (nI i)).toNatClampNeg) rfl rfl rfl rfl (hmem _ (by omega)) dM_isPath_90 ?_
              refine v_aload_n C 0 dM_isPath_91 rfl rfl ?_
              refine v_get C (T := TcM) (N := 18) (ci := 2) (v := .int (F 17)) inM_isPath_M 0 rfl rfl 17 (by decide) (by decide +kernel) rfl rfl dM_isPath_92 ?_
              refine v_iload C 4 dM_isPath_95 rfl ?_
              refine v_iconst C (v := 1) dM_isPath_97 (by decide) ?_
              refine v_iadd C dM_isPath_98 ?_
              refine v_top (y := nI (i + 1)) (nI_1 i) ?_
              refine v_cSr0 (As := [.int (F 17), .int (nI (i + 1))]) C (c_mMember l D cI cZ cJ (F 17) (nI (i + 1))) (va_cwS 2 C.2.2.2.2.1 gM_isPath_M_member rfl rfl rfl (by decide +kernel) ⟨Nat.le_of_ble_eq_true rfl, Nat.le_of_ble_eq_true rfl⟩) rfl rfl (Nat.le_of_ble_eq_true rfl) ⟨Nat.zero_le _, Nat.zero_le _⟩ dM_isPath_99 ?_
              refine v_cSr0 (As := [.int ((a 15) ((mMember (F 17) (nI i)).toNatClampNeg)), .int (mMember (F 17) (nI (i + 1)))]) C (c_mHas l D cI cZ cJ ((a 15) ((mMember (F 17) (nI i)).toNatClampNeg)) (mMember (F 17) (nI (i + 1)))) (va_cwS 2 C.2.2.2.2.1 gM_isPath_M_has rfl rfl rfl (by decide +kernel) ⟨Nat.le_of_ble_eq_true rfl, Nat.le_of_ble_eq_true rfl⟩) rfl rfl (Nat.le_of_ble_eq_true rfl) ⟨Nat.zero_le _, Nat.zero_le _⟩ dM_isPath_102 ?_
              refine v_if_eq C dM_isPath_105 (tgt := 112) (by decide) (fun h6 => ?_) (fun h6 => ?_)
              · skip
                refine v_iconst C (v := 0) dM_isPath_112 (by decide) ?_
                refine v_istore_n C (lv' := [(0, .ref (b 0)), (1, .int x), (2, .int (nI mm)), (3, .int 0), (4, .int (nI i))]) [1, 2, 3, 0, 4] dM_isPath_113 rfl (by decide) rfl ?_
                refine v_iinc C (v := nI (i + 1)) (lv' := [(0, .ref (b 0)), (1, .int x), (2, .int (nI mm)), (3, .int 0), (4, .int (nI (i + 1)))]) 4 [1, 2, 3, 4, 0] dM_isPath_114 rfl (nI_1 i) (by decide) rfl ?_
                refine v_goto C dM_isPath_117 (tgt := 65) (by decide) ?_
                have hL : mIsPathL F a mm x ki (i + 1) 0 = mIsPathL F a mm x (mm - 1) 0 1 := (by rw [← hIi]; simp only [mIsPathL]; rw [if_neg h5, if_pos h6])
                exact ihi 0 hL
              · skip
                refine v_iconst C (v := 1) dM_isPath_108 (by decide) ?_
                refine v_goto C dM_isPath_109 (tgt := 113) (by decide) ?_
                refine v_istore_n C (lv' := [(0, .ref (b 0)), (1, .int x), (2, .int (nI mm)), (3, .int 1), (4, .int (nI i))]) [1, 2, 3, 0, 4] dM_isPath_113 rfl (by decide) rfl ?_
                refine v_iinc C (v := nI (i + 1)) (lv' := [(0, .ref (b 0)), (1, .int x), (2, .int (nI mm)), (3, .int 1), (4, .int (nI (i + 1)))]) 4 [1, 2, 3, 4, 0] dM_isPath_114 rfl (nI_1 i) (by decide) rfl ?_
                refine v_goto C dM_isPath_117 (tgt := 65) (by decide) ?_
                have hL : mIsPathL F a mm x ki (i + 1) 1 = mIsPathL F a mm x (mm - 1) 0 1 := (by rw [← hIi]; simp only [mIsPathL]; rw [if_neg h5, if_neg h6])
                exact ihi 1 hL
          · skip
            intro u hIi
            have hIi : mIsPathL F a mm x 0 (mm - 1) u = mIsPathL F a mm x (mm - 1) 0 1 := hIi
            refine v_as (w' := wM cI cZ b F a) (lv' := [(0, .ref (b 0)), (1, .int x), (2, .int (nI mm)), (3, .int u), (4, .int (nI (mm - 1)))]) rfl rfl ?_
            have hIi : u = mIsPathL F a mm x (mm - 1) 0 1 := hIi
            subst hIi
            refine v_iload C 4 dM_isPath_65 rfl ?_
            refine v_iconst C (v := 1) dM_isPath_67 (by decide) ?_
            refine v_iadd C dM_isPath_68 ?_
            refine v_top (y := nI (mm - 1 + 1)) (nI_1 (mm - 1)) ?_
            refine v_iload_n C 2 dM_isPath_69 rfl rfl ?_
            refine v_icmp_ge C dM_isPath_70 (tgt := 120) (by decide) (fun _ => ?_) (fun h => absurd (nI_le (a := mm) (b := mm - 1 + 1) (by omega) (by omega)) h)
            refine v_iload_n C 3 dM_isPath_120 rfl rfl ?_
            exact v_zrr C hr (z01 (mIsPathL_z _ _ _ _ _ _ _ (Or.inr rfl))) (by unfold mIsPath; rw [if_neg h1, if_pos h2, if_pos h3, if_neg h4]) dM_isPath_121
        · skip
          refine v_iconst C (v := 0) dM_isPath_58 (by decide) ?_
          exact v_zrr C hr (by decide) (by unfold mIsPath; rw [if_neg h1, if_pos h2, if_pos h3, if_pos h4]) dM_isPath_59
set_option maxHeartbeats 4000000 in
set_option maxRecDepth 100000 in
theorem c_mIsKnown (l : Launch) (D : va_G) (cI cZ cJ : ClassId) (b : Nat → Nat) (F : FT) (a : AT) (mm : Nat) (n : Nat) (hn : F 9 = nI n) (hn4 : n ≤ 14) (hm : mMany (F 17) = nI mm) (hm6 : mm ≤ 6) (hmem : ∀ i, i < mm → vp_in (mMember (F 17) (nI i)) 6) (hl : vp_in (mMember (F 17) (nI mm - 1)) 6) : Kr l yM_isKnown wM_isKnown ({ frames := 2, cells := 0, slots := 0, locals := 40 } : Room) D vwCl (tyG cI cZ cJ) [.ref (b 0)] (wM cI cZ b F a) (mIsKnown F a mm n) := by
  intro sz
  refine v_ent (cc := bM_isKnown) (maxL := 5) (ret := (some .boolean)) (Qc := (fun _ _ st oc t => oc = .returned (some (.int (mIsKnown F a mm n))) ∧ t.heap = st.heap)) (fr := (fun _ _ => False)) (own := RcM) rfl (by decide) rfl (Nat.le_of_ble_eq_true rfl) rfl ?_
  intro p e s m args below meth c A C hr _
  refine v_aload_n C 0 dM_isKnown_0 rfl rfl ?_
  refine v_get C (T := TcM) (N := 18) (ci := 2) (v := .int (F 17)) inM_isKnown_M 0 rfl rfl 17 (by decide) (by decide +kernel) rfl rfl dM_isKnown_1 ?_
  refine v_cSr0 (As := [.int (F 17)]) C (c_mMany l D cI cZ cJ (F 17)) (va_cwS 1 C.2.2.2.2.1 gM_isKnown_M_many rfl rfl rfl (by decide +kernel) ⟨Nat.le_of_ble_eq_true rfl, Nat.le_of_ble_eq_true rfl⟩) rfl rfl (Nat.le_of_ble_eq_true rfl) ⟨Nat.zero_le _, Nat.zero_le _⟩ dM_isKnown_4 ?_
  refine v_top (y := nI mm) hm ?_
  refine v_iconst C (v := 1) dM_isKnown_7 (by decide) ?_
  refine v_icmp_ne C dM_isKnown_8 (tgt := 13) (by decide) (fun h1 => ?_) (fun h1 => ?_)
  · skip
    refine v_aload_n C 0 dM_isKnown_13 rfl rfl ?_
    refine v_get C (T := TcM) (N := 18) (ci := 2) (v := .int (F 17)) inM_isKnown_M 0 rfl rfl 17 (by decide) (by decide +kernel) rfl rfl dM_isKnown_14 ?_
    refine v_cSr0 (As := [.int (F 17)]) C (c_mBehind l D cI cZ cJ (F 17)) (va_cwS 1 C.2.2.2.2.1 gM_isKnown_M_behind rfl rfl rfl (by decide +kernel) ⟨Nat.le_of_ble_eq_true rfl, Nat.le_of_ble_eq_true rfl⟩) rfl rfl (Nat.le_of_ble_eq_true rfl) ⟨Nat.zero_le _, Nat.zero_le _⟩ dM_isKnown_17 ?_
    refine v_istore_n C (lv' := [(0, .ref (b 0)), (1, .int (mBehind (F 17)))]) [1, 0] dM_isKnown_20 rfl (by decide) rfl ?_
    refine v_aload_n C 0 dM_isKnown_21 rfl rfl ?_
    refine v_get C (T := TcM) (N := 18) (ci := 2) (v := .int (F 17)) inM_isKnown_M 0 rfl rfl 17 (by decide) (by decide +kernel) rfl rfl dM_isKnown_22 ?_
    refine v_aload_n C 0 dM_isKnown_25 rfl rfl ?_
    refine v_get C (T := TcM) (N := 18) (ci := 2) (v := .int (F 17)) inM_isKnown_M 0 rfl rfl 17 (by decide) (by decide +kernel) rfl rfl dM_isKnown_26 ?_
    refine v_cSr0 (As := [.int (F 17)]) C (c_mMany l D cI cZ cJ (F 17)) (va_cwS 1 C.2.2.2.2.1 gM_isKnown_M_many rfl rfl rfl (by decide +kernel) ⟨Nat.le_of_ble_eq_true rfl, Nat.le_of_ble_eq_true rfl⟩) rfl rfl (Nat.le_of_ble_eq_true rfl) ⟨Nat.zero_le _, Nat.zero_le _⟩ dM_isKnown_29 ?_
    refine v_top (y := nI mm) hm ?_
    refine v_iconst C (v := 1) dM_isKnown_32 (by decide) ?_
    refine v_isub C dM_isKnown_33 ?_
    refine v_cSr0 (As := [.int (F 17), .int ((nI mm) - (1 : Int32))]) C (c_mMember l D cI cZ cJ (F 17) ((nI mm) - (1 : Int32))) (va_cwS 2 C.2.2.2.2.1 gM_isKnown_M_member rfl rfl rfl (by decide +kernel) ⟨Nat.le_of_ble_eq_true rfl, Nat.le_of_ble_eq_true rfl⟩) rfl rfl (Nat.le_of_ble_eq_true rfl) ⟨Nat.zero_le _, Nat.zero_le _⟩ dM_isKnown_34 ?_
    refine v_istore_n C (lv' := [(0, .ref (b 0)), (1, .int (mBehind (F 17))), (2, .int (mMember (F 17) ((nI mm) - (1 : Int32))))]) [1, 2, 0] dM_isKnown_37 rfl (by decide) rfl ?_
    refine v_iconst C (v := 0) dM_isKnown_38 (by decide) ?_
    refine v_istore_n C (lv' := [(0, .ref (b 0)), (1, .int (mBehind (F 17))), (2, .int (mMember (F 17) ((nI mm) - (1 : Int32)))), (3, .int 0)]) [1, 2, 3, 0] dM_isKnown_39 rfl (by decide) rfl ?_
    refine v_iconst C (v := 0) dM_isKnown_40 (by decide) ?_
    refine v_istore C (lv' := [(0, .ref (b 0)), (1, .int (mBehind (F 17))), (2, .int (mMember (F 17) ((nI mm) - (1 : Int32)))), (3, .int 0), (4, .int 0)]) [1, 2, 3, 4, 0] dM_isKnown_41 (by decide) rfl ?_
    refine v_loop1 n (fun (i : Nat) (u : Int32) => wM cI cZ b F a) (fun (i : Nat) (u : Int32) => [(0, .ref (b 0)), (1, .int (mBehind (F 17))), (2, .int (mMember (F 17) ((nI mm) - (1 : Int32)))), (3, .int u), (4, .int (nI i))]) (fun (ki i : Nat) (u : Int32) => mIsKnownL F a mm n ki i u = mIsKnownL F a mm n n 0 0) ?_ ?_ n 0 0 (by omega) rfl
    · skip
      intro ki i u hki hIi ihi
      have hIi : mIsKnownL F a mm n (ki + 1) i u = mIsKnownL F a mm n n 0 0 := hIi
      refine v_as (w' := wM cI cZ b F a) (lv' := [(0, .ref (b 0)), (1, .int (mBehind (F 17))), (2, .int (mMember (F 17) ((nI mm) - (1 : Int32)))), (3, .int u), (4, .int (nI i))]) rfl rfl ?_
      refine v_iload C 4 dM_isKnown_43 rfl ?_
      refine v_aload_n C 0 dM_isKnown_45 rfl rfl ?_
      refine v_get C (T := TcM) (N := 18) (ci := 2) (v := .int (F 9)) inM_isKnown_M 0 rfl rfl 9 (by decide) (by decide +kernel) rfl rfl dM_isKnown_46 ?_
      refine v_top (y := nI n) hn ?_
      refine v_icmp_ge C dM_isKnown_49 (tgt := 98) (by decide) (fun h => absurd h (nI_ge (a := i) (b := n) (by omega) (by omega))) (fun _ => ?_)
      refine v_iload_n C 3 dM_isKnown_52 rfl rfl ?_
      refine v_if_ne C dM_isKnown_53 (tgt := 86) (by decide) (fun h2 => ?_) (fun h2 => ?_)
      · skip
        refine v_iconst C (v := 1) dM_isKnown_86 (by decide) ?_
        refine v_goto C dM_isKnown_87 (tgt := 91) (by decide) ?_
        refine v_istore_n C (lv' := [(0, .ref (b 0)), (1, .int (mBehind (F 17))), (2, .int (mMember (F 17) ((nI mm) - (1 : Int32)))), (3, .int 1), (4, .int (nI i))]) [1, 2, 3, 0, 4] dM_isKnown_91 rfl (by decide) rfl ?_
        refine v_iinc C (v := nI (i + 1)) (lv' := [(0, .ref (b 0)), (1, .int (mBehind (F 17))), (2, .int (mMember (F 17) ((nI mm) - (1 : Int32)))), (3, .int 1), (4, .int (nI (i + 1)))]) 4 [1, 2, 3, 4, 0] dM_isKnown_92 rfl (nI_1 i) (by decide) rfl ?_
        refine v_goto C dM_isKnown_95 (tgt := 43) (by decide) ?_
        have hL : mIsKnownL F a mm n ki (i + 1) 1 = mIsKnownL F a mm n n 0 0 := (by rw [← hIi]; simp only [mIsKnownL]; rw [if_neg h2])
        exact ihi 1 hL
      · skip
        refine v_aload_n C 0 dM_isKnown_56 rfl rfl ?_
        refine v_get C (T := TcM) (N := 18) (ci := 2) (v := .ref (b 4)) inM_isKnown_M 0 rfl rfl 13 (by decide) (by decide +kernel) rfl rfl dM_isKnown_57 ?_
        refine v_iload C 4 dM_isKnown_60 rfl ?_
        refine v_iald C 4 0 (f := a 13) (y := (a 13) i) (j := i) rfl rfl (nI_clamp (by omega)) rfl (vp_in_nI (by omega) (by decide)) dM_isKnown_62 ?_
        refine v_iload_n C 2 dM_isKnown_63 rfl rfl ?_
        refine v_cSr0 (As := [.int ((a 13) i), .int (mMember (F 17) ((nI mm) - (1 : Int32)))]) C (c_mHas l D cI cZ cJ ((a 13) i) (mMember (F 17) ((nI mm) - (1 : Int32)))) (va_cwS 2 C.2.2.2.2.1 gM_isKnown_M_has rfl rfl rfl (by decide +kernel) ⟨Nat.le_of_ble_eq_true rfl, Nat.le_of_ble_eq_true rfl⟩) rfl rfl (Nat.le_of_ble_eq_true rfl) ⟨Nat.zero_le _, Nat.zero_le _⟩ dM_isKnown_64 ?_
        refine v_if_eq C dM_isKnown_67 (tgt := 90) (by decide) (fun h3 => ?_) (fun h3 => ?_)
        · skip
          refine v_iconst C (v := 0) dM_isKnown_90 (by decide) ?_
          refine v_istore_n C (lv' := [(0, .ref (b 0)), (1, .int (mBehind (F 17))), (2, .int (mMember (F 17) ((nI mm) - (1 : Int32)))), (3, .int 0), (4, .int (nI i))]) [1, 2, 3, 0, 4] dM_isKnown_91 rfl (by decide) rfl ?_
          refine v_iinc C (v := nI (i + 1)) (lv' := [(0, .ref (b 0)), (1, .int (mBehind (F 17))), (2, .int (mMember (F 17) ((nI mm) - (1 : Int32)))), (3, .int 0), (4, .int (nI (i + 1)))]) 4 [1, 2, 3, 4, 0] dM_isKnown_92 rfl (nI_1 i) (by decide) rfl ?_
          refine v_goto C dM_isKnown_95 (tgt := 43) (by decide) ?_
          have hL : mIsKnownL F a mm n ki (i + 1) 0 = mIsKnownL F a mm n n 0 0 := (by rw [← hIi]; simp only [mIsKnownL]; rw [if_pos h2, if_pos h3])
          exact ihi 0 hL
        · skip
          refine v_aload_n C 0 dM_isKnown_70 rfl rfl ?_
          refine v_get C (T := TcM) (N := 18) (ci := 2) (v := .ref (b 5)) inM_isKnown_M 0 rfl rfl 14 (by decide) (by decide +kernel) rfl rfl dM_isKnown_71 ?_
          refine v_bipush C (v := 6) dM_isKnown_74 (by decide) ?_
          refine v_iload C 4 dM_isKnown_76 rfl ?_
          refine v_imul C dM_isKnown_78 ?_
          refine v_iload_n C 2 dM_isKnown_79 rfl rfl ?_
          refine v_iadd C dM_isKnown_80 ?_
          refine v_iald C 5 0 (f := a 14) (y := (a 14) ((((6 : Int32) * (nI i)) + (mMember (F 17) ((nI mm) - (1 : Int32)))).toNatClampNeg)) (j := (((6 : Int32) * (nI i)) + (mMember (F 17) ((nI mm) - (1 : Int32)))).toNatClampNeg) rfl rfl rfl rfl (vp_key3 (by omega) hl) dM_isKnown_81 ?_
          refine v_iload_n C 1 dM_isKnown_82 rfl rfl ?_
          refine v_icmp_ne C dM_isKnown_83 (tgt := 90) (by decide) (fun h4 => ?_) (fun h4 => ?_)
          · skip
            refine v_iconst C (v := 0) dM_isKnown_90 (by decide) ?_
            refine v_istore_n C (lv' := [(0, .ref (b 0)), (1, .int (mBehind (F 17))), (2, .int (mMember (F 17) ((nI mm) - (1 : Int32)))), (3, .int 0), (4, .int (nI i))]) [1, 2, 3, 0, 4] dM_isKnown_91 rfl (by decide) rfl ?_
            refine v_iinc C (v := nI (i + 1)) (lv' := [(0, .ref (b 0)), (1, .int (mBehind (F 17))), (2, .int (mMember (F 17) ((nI mm) - (1 : Int32)))), (3, .int 0), (4, .int (nI (i + 1)))]) 4 [1, 2, 3, 4, 0] dM_isKnown_92 rfl (nI_1 i) (by decide) rfl ?_
            refine v_goto C dM_isKnown_95 (tgt := 43) (by decide) ?_
            have hL : mIsKnownL F a mm n ki (i + 1) 0 = mIsKnownL F a mm n n 0 0 := (by rw [← hIi]; simp only [mIsKnownL]; rw [if_pos h2, if_neg h3, if_neg h4])
            exact ihi 0 hL
          · skip
            refine v_iconst C (v := 1) dM_isKnown_86 (by decide) ?_
            refine v_goto C dM_isKnown_87 (tgt := 91) (by decide) ?_
            refine v_istore_n C (lv' := [(0, .ref (b 0)), (1, .int (mBehind (F 17))), (2, .int (mMember (F 17) ((nI mm) - (1 : Int32)))), (3, .int 1), (4, .int (nI i))]) [1, 2, 3, 0, 4] dM_isKnown_91 rfl (by decide) rfl ?_
            refine v_iinc C (v := nI (i + 1)) (lv' := [(0, .ref (b 0)), (1, .int (mBehind (F 17))), (2, .int (mMember (F 17) ((nI mm) - (1 : Int32)))), (3, .int 1), (4, .int (nI (i + 1)))]) 4 [1, 2, 3, 4, 0] dM_isKnown_92 rfl (nI_1 i) (by decide) rfl ?_
            refine v_goto C dM_isKnown_95 (tgt := 43) (by decide) ?_
            have hL : mIsKnownL F a mm n ki (i + 1) 1 = mIsKnownL F a mm n n 0 0 := (by rw [← hIi]; simp only [mIsKnownL]; rw [if_pos h2, if_neg h3, if_pos h4])
            exact ihi 1 hL
    · skip
      intro u hIi
      have hIi : mIsKnownL F a mm n 0 n u = mIsKnownL F a mm n n 0 0 := hIi
      refine v_as (w' := wM cI cZ b F a) (lv' := [(0, .ref (b 0)), (1, .int (mBehind (F 17))), (2, .int (mMember (F 17) ((nI mm) - (1 : Int32)))), (3, .int u), (4, .int (nI n))]) rfl rfl ?_
      have hIi : u = mIsKnownL F a mm n n 0 0 := hIi
      subst hIi
      refine v_iload C 4 dM_isKnown_43 rfl ?_
      refine v_aload_n C 0 dM_isKnown_45 rfl rfl ?_
      refine v_get C (T := TcM) (N := 18) (ci := 2) (v := .int (F 9)) inM_isKnown_M 0 rfl rfl 9 (by decide) (by decide +kernel) rfl rfl dM_isKnown_46 ?_
      refine v_top (y := nI n) hn ?_
      refine v_icmp_ge C dM_isKnown_49 (tgt := 98) (by decide) (fun _ => ?_) (fun h => absurd (nI_le (a := n) (b := n) (by omega) (by omega)) h)
      refine v_iload_n C 3 dM_isKnown_98 rfl rfl ?_
      exact v_zrr C hr (z01 (mIsKnownL_z _ _ _ _ _ _ _ (Or.inl rfl))) (by unfold mIsKnown; rw [if_neg h1]) dM_isKnown_99
  · skip
    refine v_iconst C (v := 1) dM_isKnown_11 (by decide) ?_
    exact v_zrr C hr (by decide) (by unfold mIsKnown; rw [if_pos h1]) dM_isKnown_12
set_option maxHeartbeats 4000000 in
set_option maxRecDepth 100000 in
theorem c_mLeaders (l : Launch) (D : va_G) (cI cZ cJ : ClassId) (b : Nat → Nat) (F : FT) (a : AT) : Ki l yM_leaders wM_leaders ({ frames := 0, cells := 0, slots := 0, locals := 0 } : Room) D vwCl (tyG cI cZ cJ) [.ref (b 0)] (wM cI cZ b F a) ((mLeaders F a).1) (wM cI cZ b ((mLeaders F a).2) a) := by
  intro sz
  refine v_ent (cc := bM_leaders) (maxL := 1) (ret := (some .int)) (Qc := (fun A => va_Qi (fun (x9 : Int32) (_ : Unit) => x9 = (mLeaders F a).1) (fun _ => wB D vwCl (tyG cI cZ cJ) A (wM cI cZ b ((mLeaders F a).2) a)) A)) (fr := (fun A => A)) (own := RcM) rfl (by decide) rfl (Nat.le_of_ble_eq_true rfl) rfl ?_
  intro p e s m args below meth c A C hr _
  refine v_free ?_
  refine v_aload_n C 0 dM_leaders_0 rfl rfl ?_
  refine v_iconst C (v := 0) dM_leaders_1 (by decide) ?_
  refine v_put C (T := TcM) (N := 18) (ci := 2) (v := .int 0) inM_leaders_M tycM tycM_ok nmcM 0 rfl rfl 2 (by decide) (by decide +kernel) rfl rfl rfl rfl (Nat.le_of_ble_eq_true rfl) dM_leaders_2 (w1 := wM cI cZ b (upd F 2 0) a) rfl ?_
  refine v_aload_n C 0 dM_leaders_5 rfl rfl ?_
  refine v_get C (T := TcM) (N := 18) (ci := 2) (v := .int (F 7)) inM_leaders_M 0 rfl rfl 7 (by decide) (by decide +kernel) rfl rfl dM_leaders_6 ?_
  have hE : (F 7, upd F 2 0) = mLeaders F a := (by unfold mLeaders; rfl)
  exact v_iret C hr (by rw [← hE]) (by rw [← hE]) dM_leaders_9
set_option maxHeartbeats 4000000 in
set_option maxRecDepth 100000 in
theorem c_mConform (l : Launch) (D : va_G) (cI cZ cJ : ClassId) (b : Nat → Nat) (F : FT) (a : AT) (x : Int32) (y : Int32) : Ki l yM_conform wM_conform ({ frames := 1, cells := 0, slots := 0, locals := 21 } : Room) D vwCl (tyG cI cZ cJ) [.ref (b 0), .int x, .int y] (wM cI cZ b F a) ((mConform F a x y).1) (wM cI cZ b ((mConform F a x y).2) a) := by
  intro sz
  refine v_ent (cc := bM_conform) (maxL := 3) (ret := (some .boolean)) (Qc := (fun A => va_Qi (fun (x9 : Int32) (_ : Unit) => x9 = (mConform F a x y).1) (fun _ => wB D vwCl (tyG cI cZ cJ) A (wM cI cZ b ((mConform F a x y).2) a)) A)) (fr := (fun A => A)) (own := RcM) rfl (by decide) rfl (Nat.le_of_ble_eq_true rfl) rfl ?_
  intro p e s m args below meth c A C hr _
  refine v_free ?_
  refine v_aload_n C 0 dM_conform_0 rfl rfl ?_
  refine v_iconst C (v := 0) dM_conform_1 (by decide) ?_
  refine v_put C (T := TcM) (N := 18) (ci := 2) (v := .int 0) inM_conform_M tycM tycM_ok nmcM 0 rfl rfl 2 (by decide) (by decide +kernel) rfl rfl rfl rfl (Nat.le_of_ble_eq_true rfl) dM_conform_2 (w1 := wM cI cZ b (upd F 2 0) a) rfl ?_
  refine v_aload_n C 0 dM_conform_5 rfl rfl ?_
  refine v_iload_n C 1 dM_conform_6 rfl rfl ?_
  refine v_cVrF (As := [.int x]) C (c_mIsParty l D cI cZ cJ b (upd F 2 0) a x) (cwV 1 C.2.2.2.2.1 gM_conform_M_isParty rfl rfl rfl (by decide +kernel) ⟨Nat.le_of_ble_eq_true rfl, Nat.le_of_ble_eq_true rfl⟩) 0 rfl (T := TcM) (N := 18) rfl rfl rfl (Nat.le_of_ble_eq_true rfl) ⟨Nat.zero_le _, Nat.zero_le _⟩ dM_conform_7 ?_
  refine v_if_eq C dM_conform_10 (tgt := 25) (by decide) (fun h1 => ?_) (fun h1 => ?_)
  · skip
    refine v_iconst C (v := 0) dM_conform_25 (by decide) ?_
    have hE : (0, upd F 2 0) = mConform F a x y := (by unfold mConform; rw [if_pos h1])
    exact v_zret C hr (by decide) (by rw [← hE]) (by rw [← hE]) dM_conform_26
  · skip
    refine v_aload_n C 0 dM_conform_13 rfl rfl ?_
    refine v_get C (T := TcM) (N := 18) (ci := 2) (v := .int (F 8)) inM_conform_M 0 rfl rfl 8 (by decide) (by decide +kernel) rfl rfl dM_conform_14 ?_
    refine v_iload_n C 1 dM_conform_17 rfl rfl ?_
    refine v_cSr0 (As := [.int (F 8), .int x]) C (c_mHas l D cI cZ cJ (F 8) x) (va_cwS 2 C.2.2.2.2.1 gM_conform_M_has rfl rfl rfl (by decide +kernel) ⟨Nat.le_of_ble_eq_true rfl, Nat.le_of_ble_eq_true rfl⟩) rfl rfl (Nat.le_of_ble_eq_true rfl) ⟨Nat.zero_le _, Nat.zero_le _⟩ dM_conform_18 ?_
    refine v_iload_n C 2 dM_conform_21 rfl rfl ?_
    refine v_icmp_eq C dM_conform_22 (tgt := 27) (by decide) (fun h2 => ?_) (fun h2 => ?_)
    · skip
      refine v_aload_n C 0 dM_conform_27 rfl rfl ?_
      refine v_dup C dM_conform_28 rfl ?_
      refine v_get C (T := TcM) (N := 18) (ci := 2) (v := .int (F 8)) inM_conform_M 0 rfl rfl 8 (by decide) (by decide +kernel) rfl rfl dM_conform_29 ?_
      refine v_iconst C (v := 1) dM_conform_32 (by decide) ?_
      refine v_iload_n C 1 dM_conform_33 rfl rfl ?_
      refine v_ishl C dM_conform_34 ?_
      refine v_ixor C dM_conform_35 ?_
      refine v_put C (T := TcM) (N := 18) (ci := 2) (v := .int ((F 8) ^^^ ((1 : Int32) <<< (x &&& 31)))) inM_conform_M tycM tycM_ok nmcM 0 rfl rfl 8 (by decide) (by decide +kernel) rfl rfl rfl rfl (Nat.le_of_ble_eq_true rfl) dM_conform_36 (w1 := wM cI cZ b (upd (upd F 2 0) 8 ((F 8) ^^^ ((1 : Int32) <<< (x &&& 31)))) a) rfl ?_
      refine v_iconst C (v := 1) dM_conform_39 (by decide) ?_
      have hE : (1, upd (upd F 2 0) 8 ((F 8) ^^^ ((1 : Int32) <<< (x &&& 31)))) = mConform F a x y := (by unfold mConform; rw [if_neg h1, if_pos h2])
      exact v_zret C hr (by decide) (by rw [← hE]) (by rw [← hE]) dM_conform_40
    · skip
      refine v_iconst C (v := 0) dM_conform_25 (by decide) ?_
      have hE : (0, upd F 2 0) = mConform F a x y := (by unfold mConform; rw [if_neg h1, if_neg h2])
      exact v_zret C hr (by decide) (by rw [← hE]) (by rw [← hE]) dM_conform_26
set_option maxHeartbeats 4000000 in
set_option maxRecDepth 100000 in
theorem c_mStep (l : Launch) (D : va_G) (cI cZ cJ : ClassId) (b : Nat → Nat) (F : FT) (a : AT) (x : Int32) : Ki l yM_step wM_step ({ frames := 1, cells := 0, slots := 0, locals := 21 } : Room) D vwCl (tyG cI cZ cJ) [.ref (b 0), .int x] (wM cI cZ b F a) ((mStep F a x).1) (wM cI cZ b ((mStep F a x).2) a) := by
  intro sz
  refine v_ent (cc := bM_step) (maxL := 3) (ret := (some .int)) (Qc := (fun A => va_Qi (fun (x9 : Int32) (_ : Unit) => x9 = (mStep F a x).1) (fun _ => wB D vwCl (tyG cI cZ cJ) A (wM cI cZ b ((mStep F a x).2) a)) A)) (fr := (fun A => A)) (own := RcM) rfl (by decide) rfl (Nat.le_of_ble_eq_true rfl) rfl ?_
  intro p e s m args below meth c A C hr _
  refine v_free ?_
  refine v_aload_n C 0 dM_step_0 rfl rfl ?_
  refine v_iconst C (v := 0) dM_step_1 (by decide) ?_
  refine v_put C (T := TcM) (N := 18) (ci := 2) (v := .int 0) inM_step_M tycM tycM_ok nmcM 0 rfl rfl 2 (by decide) (by decide +kernel) rfl rfl rfl rfl (Nat.le_of_ble_eq_true rfl) dM_step_2 (w1 := wM cI cZ b (upd F 2 0) a) rfl ?_
  refine v_aload_n C 0 dM_step_5 rfl rfl ?_
  refine v_iload_n C 1 dM_step_6 rfl rfl ?_
  refine v_cVrF (As := [.int x]) C (c_mIsParty l D cI cZ cJ b (upd F 2 0) a x) (cwV 1 C.2.2.2.2.1 gM_step_M_isParty rfl rfl rfl (by decide +kernel) ⟨Nat.le_of_ble_eq_true rfl, Nat.le_of_ble_eq_true rfl⟩) 0 rfl (T := TcM) (N := 18) rfl rfl rfl (Nat.le_of_ble_eq_true rfl) ⟨Nat.zero_le _, Nat.zero_le _⟩ dM_step_7 ?_
  refine v_if_eq C dM_step_10 (tgt := 25) (by decide) (fun h1 => ?_) (fun h1 => ?_)
  · skip
    refine v_iconst C (v := (-1)) dM_step_25 (by decide) ?_
    have hE : ((-1), upd F 2 0) = mStep F a x := (by unfold mStep; rw [if_pos h1])
    exact v_iret C hr (by rw [← hE]) (by rw [← hE]) dM_step_26
  · skip
    refine v_aload_n C 0 dM_step_13 rfl rfl ?_
    refine v_get C (T := TcM) (N := 18) (ci := 2) (v := .int (F 17)) inM_step_M 0 rfl rfl 17 (by decide) (by decide +kernel) rfl rfl dM_step_14 ?_
    refine v_cSr0 (As := [.int (F 17)]) C (c_mMany l D cI cZ cJ (F 17)) (va_cwS 1 C.2.2.2.2.1 gM_step_M_many rfl rfl rfl (by decide +kernel) ⟨Nat.le_of_ble_eq_true rfl, Nat.le_of_ble_eq_true rfl⟩) rfl rfl (Nat.le_of_ble_eq_true rfl) ⟨Nat.zero_le _, Nat.zero_le _⟩ dM_step_17 ?_
    refine v_bipush C (v := 6) dM_step_20 (by decide) ?_
    refine v_icmp_ne C dM_step_22 (tgt := 27) (by decide) (fun h2 => ?_) (fun h2 => ?_)
    · skip
      refine v_aload_n C 0 dM_step_27 rfl rfl ?_
      refine v_get C (T := TcM) (N := 18) (ci := 2) (v := .int (F 17)) inM_step_M 0 rfl rfl 17 (by decide) (by decide +kernel) rfl rfl dM_step_28 ?_
      refine v_cSr0 (As := [.int (F 17)]) C (c_mMany l D cI cZ cJ (F 17)) (va_cwS 1 C.2.2.2.2.1 gM_step_M_many rfl rfl rfl (by decide +kernel) ⟨Nat.le_of_ble_eq_true rfl, Nat.le_of_ble_eq_true rfl⟩) rfl rfl (Nat.le_of_ble_eq_true rfl) ⟨Nat.zero_le _, Nat.zero_le _⟩ dM_step_31 ?_
      refine v_istore_n C (lv' := [(0, .ref (b 0)), (1, .int x), (2, .int (mMany (F 17)))]) [1, 2, 0] dM_step_34 rfl (by decide) rfl ?_
      refine v_aload_n C 0 dM_step_35 rfl rfl ?_
      refine v_aload_n C 0 dM_step_36 rfl rfl ?_
      refine v_get C (T := TcM) (N := 18) (ci := 2) (v := .int (F 17)) inM_step_M 0 rfl rfl 17 (by decide) (by decide +kernel) rfl rfl dM_step_37 ?_
      refine v_ldc C (v := 262143) (by decide +kernel) dM_step_40 ?_
      refine v_iand C dM_step_42 ?_
      refine v_iload_n C 1 dM_step_43 rfl rfl ?_
      refine v_iconst C (v := 3) dM_step_44 (by decide) ?_
      refine v_iload_n C 2 dM_step_45 rfl rfl ?_
      refine v_imul C dM_step_46 ?_
      refine v_ishl C dM_step_47 ?_
      refine v_ior C dM_step_48 ?_
      refine v_iload_n C 2 dM_step_49 rfl rfl ?_
      refine v_iconst C (v := 1) dM_step_50 (by decide) ?_
      refine v_iadd C dM_step_51 ?_
      refine v_bipush C (v := 18) dM_step_52 (by decide) ?_
      refine v_ishl C dM_step_54 ?_
      refine v_ior C dM_step_55 ?_
      refine v_put C (T := TcM) (N := 18) (ci := 2) (v := .int ((((F 17) &&& (262143 : Int32)) ||| (x <<< (((3 : Int32) * (mMany (F 17))) &&& 31))) ||| (((mMany (F 17)) + (1 : Int32)) <<< ((18 : Int32) &&& 31)))) inM_step_M tycM tycM_ok nmcM 0 rfl rfl 17 (by decide) (by decide +kernel) rfl rfl rfl rfl (Nat.le_of_ble_eq_true rfl) dM_step_56 (w1 := wM cI cZ b (upd (upd F 2 0) 17 ((((F 17) &&& (262143 : Int32)) ||| (x <<< (((3 : Int32) * (mMany (F 17))) &&& 31))) ||| (((mMany (F 17)) + (1 : Int32)) <<< ((18 : Int32) &&& 31)))) a) rfl ?_
      refine v_iload_n C 2 dM_step_59 rfl rfl ?_
      refine v_iconst C (v := 1) dM_step_60 (by decide) ?_
      refine v_iadd C dM_step_61 ?_
      have hE : ((mMany (F 17)) + (1 : Int32), upd (upd F 2 0) 17 ((((F 17) &&& (262143 : Int32)) ||| (x <<< (((3 : Int32) * (mMany (F 17))) &&& 31))) ||| (((mMany (F 17)) + (1 : Int32)) <<< ((18 : Int32) &&& 31)))) = mStep F a x := (by unfold mStep; rw [if_neg h1, if_neg h2])
      exact v_iret C hr (by rw [← hE]) (by rw [← hE]) dM_step_62
    · skip
      refine v_iconst C (v := (-1)) dM_step_25 (by decide) ?_
      have hE : ((-1), upd F 2 0) = mStep F a x := (by unfold mStep; rw [if_neg h1, if_pos h2])
      exact v_iret C hr (by rw [← hE]) (by rw [← hE]) dM_step_26
set_option maxHeartbeats 4000000 in
set_option maxRecDepth 100000 in
theorem c_mClear (l : Launch) (D : va_G) (cI cZ cJ : ClassId) (b : Nat → Nat) (F : FT) (a : AT) : Kv l yM_clear wM_clear ({ frames := 0, cells := 0, slots := 0, locals := 0 } : Room) D vwCl (tyG cI cZ cJ) [.ref (b 0)] (wM cI cZ b F a) (wM cI cZ b (mClear F a) a) := by
  intro sz
  refine v_ent (cc := bM_clear) (maxL := 1) (ret := none) (Qc := (fun A => va_Qv (fun (_ : Unit) => True) (fun _ => wB D vwCl (tyG cI cZ cJ) A (wM cI cZ b (mClear F a) a)) A)) (fr := (fun A => A)) (own := RcM) rfl (by decide) rfl (Nat.le_of_ble_eq_true rfl) rfl ?_
  intro p e s m args below meth c A C hr _
  refine v_free ?_
  refine v_aload_n C 0 dM_clear_0 rfl rfl ?_
  refine v_iconst C (v := 0) dM_clear_1 (by decide) ?_
  refine v_put C (T := TcM) (N := 18) (ci := 2) (v := .int 0) inM_clear_M tycM tycM_ok nmcM 0 rfl rfl 2 (by decide) (by decide +kernel) rfl rfl rfl rfl (Nat.le_of_ble_eq_true rfl) dM_clear_2 (w1 := wM cI cZ b (upd F 2 0) a) rfl ?_
  refine v_aload_n C 0 dM_clear_5 rfl rfl ?_
  refine v_iconst C (v := 0) dM_clear_6 (by decide) ?_
  refine v_put C (T := TcM) (N := 18) (ci := 2) (v := .int 0) inM_clear_M tycM tycM_ok nmcM 0 rfl rfl 17 (by decide) (by decide +kernel) rfl rfl rfl rfl (Nat.le_of_ble_eq_true rfl) dM_clear_7 (w1 := wM cI cZ b (upd (upd F 2 0) 17 0) a) rfl ?_
  have hE : upd (upd F 2 0) 17 0 = mClear F a := (by unfold mClear; rfl)
  exact v_vret C hr (by rw [← hE]) dM_clear_10
set_option maxHeartbeats 4000000 in
set_option maxRecDepth 100000 in
theorem c_mPass (l : Launch) (D : va_G) (cI cZ cJ : ClassId) (b : Nat → Nat) (F : FT) (a : AT) (x : Int32) : Ki l yM_pass wM_pass ({ frames := 0, cells := 0, slots := 0, locals := 0 } : Room) D vwCl (tyG cI cZ cJ) [.ref (b 0), .int x] (wM cI cZ b F a) ((mPass F a x).1) (wM cI cZ b ((mPass F a x).2) a) := by
  intro sz
  refine v_ent (cc := bM_pass) (maxL := 2) (ret := (some .int)) (Qc := (fun A => va_Qi (fun (x9 : Int32) (_ : Unit) => x9 = (mPass F a x).1) (fun _ => wB D vwCl (tyG cI cZ cJ) A (wM cI cZ b ((mPass F a x).2) a)) A)) (fr := (fun A => A)) (own := RcM) rfl (by decide) rfl (Nat.le_of_ble_eq_true rfl) rfl ?_
  intro p e s m args below meth c A C hr _
  refine v_free ?_
  refine v_aload_n C 0 dM_pass_0 rfl rfl ?_
  refine v_iconst C (v := 0) dM_pass_1 (by decide) ?_
  refine v_put C (T := TcM) (N := 18) (ci := 2) (v := .int 0) inM_pass_M tycM tycM_ok nmcM 0 rfl rfl 2 (by decide) (by decide +kernel) rfl rfl rfl rfl (Nat.le_of_ble_eq_true rfl) dM_pass_2 (w1 := wM cI cZ b (upd F 2 0) a) rfl ?_
  refine v_iload_n C 1 dM_pass_5 rfl rfl ?_
  refine v_if_lt C dM_pass_6 (tgt := 15) (by decide) (fun h1 => ?_) (fun h1 => ?_)
  · skip
    refine v_iconst C (v := (-1)) dM_pass_15 (by decide) ?_
    have hE : ((-1), upd F 2 0) = mPass F a x := (by unfold mPass; rw [if_pos h1])
    exact v_iret C hr (by rw [← hE]) (by rw [← hE]) dM_pass_16
  · skip
    refine v_iload_n C 1 dM_pass_9 rfl rfl ?_
    refine v_bipush C (v := 100) dM_pass_10 (by decide) ?_
    refine v_icmp_le C dM_pass_12 (tgt := 17) (by decide) (fun h2 => ?_) (fun h2 => ?_)
    · skip
      refine v_aload_n C 0 dM_pass_17 rfl rfl ?_
      refine v_dup C dM_pass_18 rfl ?_
      refine v_get C (T := TcM) (N := 18) (ci := 2) (v := .int (F 3)) inM_pass_M 0 rfl rfl 3 (by decide) (by decide +kernel) rfl rfl dM_pass_19 ?_
      refine v_iload_n C 1 dM_pass_22 rfl rfl ?_
      refine v_iadd C dM_pass_23 ?_
      refine v_put C (T := TcM) (N := 18) (ci := 2) (v := .int ((F 3) + x)) inM_pass_M tycM tycM_ok nmcM 0 rfl rfl 3 (by decide) (by decide +kernel) rfl rfl rfl rfl (Nat.le_of_ble_eq_true rfl) dM_pass_24 (w1 := wM cI cZ b (upd (upd F 2 0) 3 ((F 3) + x)) a) rfl ?_
      refine v_aload_n C 0 dM_pass_27 rfl rfl ?_
      refine v_get C (T := TcM) (N := 18) (ci := 2) (v := .int ((F 3) + x)) inM_pass_M 0 rfl rfl 3 (by decide) (by decide +kernel) rfl rfl dM_pass_28 ?_
      have hE : ((F 3) + x, upd (upd F 2 0) 3 ((F 3) + x)) = mPass F a x := (by unfold mPass; rw [if_neg h1, if_pos h2])
      exact v_iret C hr (by rw [← hE]) (by rw [← hE]) dM_pass_31
    · skip
      refine v_iconst C (v := (-1)) dM_pass_15 (by decide) ?_
      have hE : ((-1), upd F 2 0) = mPass F a x := (by unfold mPass; rw [if_neg h1, if_neg h2])
      exact v_iret C hr (by rw [← hE]) (by rw [← hE]) dM_pass_16
end
section
def gLongestL (F : FT) (a : AT) (P : Nat) : Nat → Nat → Int32 → Int32
  | 0, i, u => u
  | ki + 1, i, u => gLongestL F a P ki (i + 1) (if u < (gLong a 5 (nI i) ((1 : Int32) <<< ((nI i) &&& 31))) then gLong a 5 (nI i) ((1 : Int32) <<< ((nI i) &&& 31)) else u)
def gLongest (F : FT) (a : AT) (P : Nat) : Int32 :=
  gLongestL F a P P 0 0
theorem dG_longestPath_0 : decode bG_longestPath 0 = .ok (.iconst 0, 1) := by decide +kernel
theorem dG_longestPath_1 : decode bG_longestPath 1 = .ok (.istore_n 1, 1) := by decide +kernel
theorem dG_longestPath_2 : decode bG_longestPath 2 = .ok (.iconst 0, 1) := by decide +kernel
theorem dG_longestPath_3 : decode bG_longestPath 3 = .ok (.istore_n 2, 1) := by decide +kernel
theorem dG_longestPath_4 : decode bG_longestPath 4 = .ok (.iload_n 2, 1) := by decide +kernel
theorem dG_longestPath_5 : decode bG_longestPath 5 = .ok (.aload_n 0, 1) := by decide +kernel
theorem dG_longestPath_6 : decode bG_longestPath 6 = .ok (.getfield 15, 3) := by decide +kernel
theorem dG_longestPath_9 : decode bG_longestPath 9 = .ok (.if_icmp .ge 26, 3) := by decide +kernel
theorem dG_longestPath_12 : decode bG_longestPath 12 = .ok (.iload_n 1, 1) := by decide +kernel
theorem dG_longestPath_13 : decode bG_longestPath 13 = .ok (.aload_n 0, 1) := by decide +kernel
theorem dG_longestPath_14 : decode bG_longestPath 14 = .ok (.getfield 9, 3) := by decide +kernel
theorem dG_longestPath_17 : decode bG_longestPath 17 = .ok (.iload_n 2, 1) := by decide +kernel
theorem dG_longestPath_18 : decode bG_longestPath 18 = .ok (.iconst 1, 1) := by decide +kernel
theorem dG_longestPath_19 : decode bG_longestPath 19 = .ok (.iload_n 2, 1) := by decide +kernel
theorem dG_longestPath_20 : decode bG_longestPath 20 = .ok (.ishl, 1) := by decide +kernel
theorem dG_longestPath_21 : decode bG_longestPath 21 = .ok (.iconst 1, 1) := by decide +kernel
theorem dG_longestPath_22 : decode bG_longestPath 22 = .ok (.invokestatic 51, 3) := by decide +kernel
theorem dG_longestPath_25 : decode bG_longestPath 25 = .ok (.invokestatic 55, 3) := by decide +kernel
theorem dG_longestPath_28 : decode bG_longestPath 28 = .ok (.istore_n 1, 1) := by decide +kernel
theorem dG_longestPath_29 : decode bG_longestPath 29 = .ok (.iinc 2 1, 3) := by decide +kernel
theorem dG_longestPath_32 : decode bG_longestPath 32 = .ok (.goto (-28), 3) := by decide +kernel
theorem dG_longestPath_35 : decode bG_longestPath 35 = .ok (.iload_n 1, 1) := by decide +kernel
theorem dG_longestPath_36 : decode bG_longestPath 36 = .ok (.ireturn, 1) := by decide +kernel
theorem inG_longestPath_G : ∀ x ∈ u_ws RcG TcG 3, x ∈ wG_longestPath := by decide +kernel
set_option maxRecDepth 20000 in
theorem gG_longestPath_G_longestFrom : GoodIn wG_longestPath (va_wsS RcG 51 yG_longestFrom wG_longestFrom) := goodIn_app (goodIn_of _ (by decide +kernel)) (goodIn_r _ [10, 3, 4, 5, 6, 7, 8, 9] (by decide +kernel) (by decide +kernel))
end
section
set_option maxHeartbeats 4000000 in
set_option maxRecDepth 100000 in
theorem c_gLongest (l : Launch) (D : va_G) (cI cZ cJ : ClassId) (b : Nat → Nat) (F : FT) (a : AT) (P : Nat) (hg : F 20 = nI P) (hp6 : P ≤ 6) : Kr l yG_longestPath wG_longestPath ({ frames := 7, cells := 0, slots := 0, locals := 171 } : Room) D vwCl (tyG cI cZ cJ) [.ref (b 1)] (wG cI b F a) (gLongest F a P) := by
  intro sz
  refine v_ent (cc := bG_longestPath) (maxL := 3) (ret := (some .int)) (Qc := (fun _ _ st oc t => oc = .returned (some (.int (gLongest F a P))) ∧ t.heap = st.heap)) (fr := (fun _ _ => False)) (own := RcG) rfl (by decide) rfl (Nat.le_of_ble_eq_true rfl) rfl ?_
  intro p e s m args below meth c A C hr _
  refine v_iconst C (v := 0) dG_longestPath_0 (by decide) ?_
  refine v_istore_n C (lv' := [(0, .ref (b 1)), (1, .int 0)]) [1, 0] dG_longestPath_1 rfl (by decide) rfl ?_
  refine v_iconst C (v := 0) dG_longestPath_2 (by decide) ?_
  refine v_istore_n C (lv' := [(0, .ref (b 1)), (1, .int 0), (2, .int 0)]) [1, 2, 0] dG_longestPath_3 rfl (by decide) rfl ?_
  refine v_loop1 P (fun (i : Nat) (u : Int32) => wG cI b F a) (fun (i : Nat) (u : Int32) => [(0, .ref (b 1)), (1, .int u), (2, .int (nI i))]) (fun (ki i : Nat) (u : Int32) => gLongestL F a P ki i u = gLongestL F a P P 0 0) ?_ ?_ P 0 0 (by omega) rfl
  · skip
    intro ki i u hki hIi ihi
    have hIi : gLongestL F a P (ki + 1) i u = gLongestL F a P P 0 0 := hIi
    refine v_as (w' := wG cI b F a) (lv' := [(0, .ref (b 1)), (1, .int u), (2, .int (nI i))]) rfl rfl ?_
    refine v_iload_n C 2 dG_longestPath_4 rfl rfl ?_
    refine v_aload_n C 0 dG_longestPath_5 rfl rfl ?_
    refine v_get C (T := TcG) (N := 3) (ci := 1) (v := .int (F 20)) inG_longestPath_G 0 rfl rfl 0 (by decide) (by decide +kernel) rfl rfl dG_longestPath_6 ?_
    refine v_top (y := nI P) hg ?_
    refine v_icmp_ge C dG_longestPath_9 (tgt := 35) (by decide) (fun h => absurd h (nI_ge (a := i) (b := P) (by omega) (by omega))) (fun _ => ?_)
    refine v_iload_n C 1 dG_longestPath_12 rfl rfl ?_
    refine v_aload_n C 0 dG_longestPath_13 rfl rfl ?_
    refine v_get C (T := TcG) (N := 3) (ci := 1) (v := .ref (b 7)) inG_longestPath_G 0 rfl rfl 2 (by decide) (by decide +kernel) rfl rfl dG_longestPath_14 ?_
    refine v_iload_n C 2 dG_longestPath_17 rfl rfl ?_
    refine v_iconst C (v := 1) dG_longestPath_18 (by decide) ?_
    refine v_iload_n C 2 dG_longestPath_19 rfl rfl ?_
    refine v_ishl C dG_longestPath_20 ?_
    refine v_iconst C (v := 1) dG_longestPath_21 (by decide) ?_
    refine v_cSr (As := [.ref (b 7), .int (nI i), .int ((1 : Int32) <<< ((nI i) &&& 31)), .int 1]) C (c_gLong l D cI cZ cJ b a 5 1 (nI i) ((1 : Int32) <<< ((nI i) &&& 31)) rfl (vp_in_nI (by omega) (by decide))) (va_cwS 4 C.2.2.2.2.1 gG_longestPath_G_longestFrom rfl rfl rfl (by decide +kernel) ⟨Nat.le_of_ble_eq_true rfl, Nat.le_of_ble_eq_true rfl⟩) rfl rfl (Nat.le_of_ble_eq_true rfl) ⟨Nat.zero_le _, Nat.zero_le _⟩ dG_longestPath_22 [1] rfl rfl ?_
    refine v_mmax C (by decide +kernel) (by decide +kernel) (by decide +kernel) (by decide +kernel) (Nat.le_of_ble_eq_true rfl) (Nat.le_of_ble_eq_true rfl) (Nat.zero_le _) (Nat.zero_le _) dG_longestPath_25 ?_
    refine v_istore_n C (lv' := [(0, .ref (b 1)), (1, .int (if u < (gLong a 5 (nI i) ((1 : Int32) <<< ((nI i) &&& 31))) then gLong a 5 (nI i) ((1 : Int32) <<< ((nI i) &&& 31)) else u)), (2, .int (nI i))]) [1, 0, 2] dG_longestPath_28 rfl (by decide) rfl ?_
    refine v_iinc C (v := nI (i + 1)) (lv' := [(0, .ref (b 1)), (1, .int (if u < (gLong a 5 (nI i) ((1 : Int32) <<< ((nI i) &&& 31))) then gLong a 5 (nI i) ((1 : Int32) <<< ((nI i) &&& 31)) else u)), (2, .int (nI (i + 1)))]) 2 [1, 2, 0] dG_longestPath_29 rfl (nI_1 i) (by decide) rfl ?_
    refine v_goto C dG_longestPath_32 (tgt := 4) (by decide) ?_
    have hL : gLongestL F a P ki (i + 1) (if u < (gLong a 5 (nI i) ((1 : Int32) <<< ((nI i) &&& 31))) then gLong a 5 (nI i) ((1 : Int32) <<< ((nI i) &&& 31)) else u) = gLongestL F a P P 0 0 := (by rw [← hIi]; simp only [gLongestL])
    exact ihi (if u < (gLong a 5 (nI i) ((1 : Int32) <<< ((nI i) &&& 31))) then gLong a 5 (nI i) ((1 : Int32) <<< ((nI i) &&& 31)) else u) hL
  · skip
    intro u hIi
    have hIi : gLongestL F a P 0 P u = gLongestL F a P P 0 0 := hIi
    refine v_as (w' := wG cI b F a) (lv' := [(0, .ref (b 1)), (1, .int u), (2, .int (nI P))]) rfl rfl ?_
    have hIi : u = gLongestL F a P P 0 0 := hIi
    subst hIi
    refine v_iload_n C 2 dG_longestPath_4 rfl rfl ?_
    refine v_aload_n C 0 dG_longestPath_5 rfl rfl ?_
    refine v_get C (T := TcG) (N := 3) (ci := 1) (v := .int (F 20)) inG_longestPath_G 0 rfl rfl 0 (by decide) (by decide +kernel) rfl rfl dG_longestPath_6 ?_
    refine v_top (y := nI P) hg ?_
    refine v_icmp_ge C dG_longestPath_9 (tgt := 35) (by decide) (fun _ => ?_) (fun h => absurd (nI_le (a := P) (b := P) (by omega) (by omega)) h)
    refine v_iload_n C 1 dG_longestPath_35 rfl rfl ?_
    exact v_irr C hr (by unfold gLongest; rfl) dG_longestPath_36
end
section
/-! Rows of parties as numbers: the class's way (encC), the model's (encM). -/
def encC : List Nat → Nat
  | [] => 0
  | x :: l => (x + 1) + 8 * encC l
def digM : List Nat → Nat
  | [] => 0
  | x :: l => x + 8 * digM l
def encM (l : List Nat) : Nat := digM l + l.length * 262144
def OkL (l : List Nat) : Prop := l.length ≤ 6 ∧ ∀ x ∈ l, x < 6
theorem OkL.tail {x : Nat} {l : List Nat} (h : OkL (x :: l)) : OkL l := ⟨Nat.le_of_succ_le h.1, fun y hy => h.2 y (List.mem_cons_of_mem _ hy)⟩
theorem encC_lt : ∀ l : List Nat, (∀ x ∈ l, x < 6) → encC l < 8 ^ l.length
  | [], _ => by decide
  | x :: l, h => by
    have h1 := h x List.mem_cons_self
    have h2 := encC_lt l (fun y hy => h y (List.mem_cons_of_mem _ hy))
    show (x + 1) + 8 * encC l < 8 ^ (l.length + 1)
    rw [Nat.pow_succ]
    omega
theorem digM_lt : ∀ l : List Nat, (∀ x ∈ l, x < 6) → digM l < 8 ^ l.length
  | [], _ => by decide
  | x :: l, h => by
    have h1 := h x List.mem_cons_self
    have h2 := digM_lt l (fun y hy => h y (List.mem_cons_of_mem _ hy))
    show x + 8 * digM l < 8 ^ (l.length + 1)
    rw [Nat.pow_succ]
    omega
theorem pow8_le {n : Nat} (h : n ≤ 6) : 8 ^ n ≤ 262144 := by
  have := Nat.pow_le_pow_right (n := 8) (by decide) h
  exact Nat.le_trans this (by decide)
theorem encC_b {l : List Nat} (h : OkL l) : encC l < 262144 := Nat.lt_of_lt_of_le (encC_lt l h.2) (pow8_le h.1)
theorem digM_b {l : List Nat} (h : OkL l) : digM l < 262144 := Nat.lt_of_lt_of_le (digM_lt l h.2) (pow8_le h.1)
theorem encM_b {l : List Nat} (h : OkL l) : encM l < 1835008 := by
  have h1 := digM_b h
  have h2 := h.1
  unfold encM
  omega
theorem nx_or (a b : Nat) : nI a ||| nI b = nI (a ||| b) := by
  apply Int32.toBitVec_inj.1
  show BitVec.ofNat 32 a ||| BitVec.ofNat 32 b = BitVec.ofNat 32 (a ||| b)
  apply BitVec.eq_of_getLsbD_eq
  intro i hi
  simp [hi]
theorem nx_and (a b : Nat) : nI a &&& nI b = nI (a &&& b) := by
  apply Int32.toBitVec_inj.1
  show BitVec.ofNat 32 a &&& BitVec.ofNat 32 b = BitVec.ofNat 32 (a &&& b)
  apply BitVec.eq_of_getLsbD_eq
  intro i hi
  simp [hi]
theorem mMany_enc {l : List Nat} (h : OkL l) : mMany (nI (encM l)) = nI l.length := by
  unfold mMany
  have h1 := encM_b h
  have h2 := digM_b h
  rw [pk_shrN (by omega) _ 18 (by decide)]
  congr 1
  unfold encM
  omega
theorem sh3s : ∀ i, i < 6 → ((((3 : Int32) * nI i) &&& 31).toBitVec.smod 32).toNat = 3 * i := by decide +kernel
theorem mMember_n {n : Nat} (hn : n < 2 ^ 31) {i : Nat} (hi : i < 6) : mMember (nI n) (nI i) = nI (n / 8 ^ i % 8) := by
  unfold mMember
  rw [pk_shrN hn _ (3 * i) (sh3s i hi), pk_andN (Nat.lt_of_le_of_lt (Nat.div_le_self _ _) (by omega)) 3 (by decide), Nat.pow_mul]
theorem dig_at : ∀ (l : List Nat) (i : Nat), (∀ x ∈ l, x < 6) → i < l.length → digM l / 8 ^ i % 8 = l.getD i 0
  | [], i, _, hi => absurd hi (Nat.not_lt_zero i)
  | x :: l, 0, h, _ => by
    have h1 := h x List.mem_cons_self
    show (x + 8 * digM l) / 1 % 8 = x
    omega
  | x :: l, i + 1, h, hi => by
    have h1 := h x List.mem_cons_self
    have h2 := dig_at l i (fun y hy => h y (List.mem_cons_of_mem _ hy)) (Nat.lt_of_succ_lt_succ hi)
    show (x + 8 * digM l) / 8 ^ (i + 1) % 8 = l.getD i 0
    rw [Nat.pow_succ, Nat.mul_comm (8 ^ i) 8, ← Nat.div_div_eq_div_mul, show (x + 8 * digM l) / 8 = digM l by omega]
    exact h2
theorem encM_dig (d m : Nat) : ∀ i, i < 6 → (d + m * 262144) / 8 ^ i % 8 = d / 8 ^ i % 8 := by
  intro i hi
  have h6 : i = 0 ∨ i = 1 ∨ i = 2 ∨ i = 3 ∨ i = 4 ∨ i = 5 := by omega
  rcases h6 with rfl | rfl | rfl | rfl | rfl | rfl
  · show (d + m * 262144) / 1 % 8 = d / 1 % 8; omega
  · show (d + m * 262144) / 8 % 8 = d / 8 % 8; omega
  · show (d + m * 262144) / 64 % 8 = d / 64 % 8; omega
  · show (d + m * 262144) / 512 % 8 = d / 512 % 8; omega
  · show (d + m * 262144) / 4096 % 8 = d / 4096 % 8; omega
  · show (d + m * 262144) / 32768 % 8 = d / 32768 % 8; omega
theorem mMember_enc {l : List Nat} (h : OkL l) {i : Nat} (hi : i < l.length) : mMember (nI (encM l)) (nI i) = nI (l.getD i 0) := by
  have h0 := h.1
  have h1 := encM_b h
  rw [mMember_n (by omega) (by omega)]
  congr 1
  unfold encM
  rw [encM_dig _ _ i (by omega), dig_at l i h.2 hi]
theorem getD_lt {l : List Nat} (h : ∀ x ∈ l, x < 6) (i : Nat) : l.getD i 0 < 6 := by
  rw [List.getD_eq_getElem?_getD]
  cases hx : l[i]? with
  | none => decide
  | some x => exact h x (List.mem_of_getElem? hx)
theorem mLast_enc {l : List Nat} (h : OkL l) (hne : l ≠ []) : mMember (nI (encM l)) (mMany (nI (encM l)) - 1) = nI (l.getD (l.length - 1) 0) := by
  have hl : 0 < l.length := List.length_pos_iff.mpr hne
  rw [mMany_enc h, show nI l.length - 1 = nI (l.length - 1) from pk_sub (b := 1) hl]
  exact mMember_enc h (by omega)
theorem mBefore_enc {l : List Nat} (h : OkL l) (h5 : l.length ≤ 5) {j : Nat} (hj : j < 6) : mBefore (nI j) (nI (encM l)) = nI (encM (j :: l)) := by
  have h1 := encM_b h
  have h2 : digM l < 32768 := Nat.lt_of_lt_of_le (digM_lt l h.2) (Nat.le_trans (Nat.pow_le_pow_right (by decide) h5) (by decide))
  have h3 := h.1
  unfold mBefore
  rw [mMany_enc h, pk_andN (by omega) 18 (by decide), show encM l % 2 ^ 18 = digM l by unfold encM; omega, pk_shlN _ 3 (by decide) (by omega), pk_andN (by omega) 18 (by decide), show digM l * 2 ^ 3 % 2 ^ 18 = 2 ^ 3 * digM l by omega,
    nx_or, ← Nat.two_pow_add_eq_or_of_lt (i := 3) (by omega), nI_1, pk_shlN _ 18 (by decide) (by omega), nx_or, Nat.or_comm, show (l.length + 1) * 2 ^ 18 = 2 ^ 18 * (l.length + 1) by omega, ← Nat.two_pow_add_eq_or_of_lt (i := 18) (by omega)]
  congr 1
  show 2 ^ 18 * (l.length + 1) + (2 ^ 3 * digM l + j) = (j + 8 * digM l) + (l.length + 1) * 262144
  omega
theorem nodup_len : ∀ (n : Nat) (l : List Nat), l.Nodup → (∀ x ∈ l, x < n) → l.length ≤ n
  | 0, l, _, h => by
    cases l with
    | nil => exact Nat.le_refl 0
    | cons x t => exact absurd (h x List.mem_cons_self) (Nat.not_lt_zero x)
  | n + 1, l, hd, h => by
    by_cases hn : n ∈ l
    · have h1 := nodup_len n (l.erase n) (hd.erase n) (fun x hx => by
        have h2 := hd.mem_erase_iff.mp hx
        have h3 := h x h2.2
        have h4 : x ≠ n := h2.1
        omega)
      rw [List.length_erase_of_mem hn] at h1
      omega
    · have h1 := nodup_len n l hd (fun x hx => by
        have h3 := h x hx
        have h4 : x ≠ n := fun e => hn (e ▸ hx)
        omega)
      omega
def bset : List Nat → Nat → Nat
  | [], u => u
  | x :: l, u => bset l (u ||| 2 ^ x)
theorem shl_n {x : Nat} (h : x < 6) : (1 : Int32) <<< (nI x &&& 31) = nI (2 ^ x) := shl_P (by omega)
theorem mMembersL_enc {l : List Nat} (h : OkL l) : ∀ (k i u : Nat), i + k = l.length → mMembersL l.length (nI (encM l)) k i (nI u) = nI (bset (l.drop i) u) := by
  intro k
  induction k with
  | zero =>
    intro i u hi
    have hi : i = l.length := hi
    subst hi
    rw [List.drop_length]
    rfl
  | succ k ih =>
    intro i u hi
    have hlt : i < l.length := by omega
    simp only [mMembersL]
    rw [mMember_enc h hlt, shl_n (getD_lt h.2 i), nx_or, ih (i + 1) _ (by omega)]
    congr 1
    rw [List.drop_eq_getElem_cons hlt]
    show _ = bset (l.drop (i + 1)) (u ||| 2 ^ l[i])
    rw [List.getD_eq_getElem?_getD, List.getElem?_eq_getElem hlt]
    rfl
theorem mMembers_enc {l : List Nat} (h : OkL l) : mMembers l.length (nI (encM l)) = nI (bset l 0) := by
  unfold mMembers
  exact mMembersL_enc h l.length 0 0 (by omega)
theorem bset_lt : ∀ (l : List Nat) (u : Nat), (∀ x ∈ l, x < 6) → u < 64 → bset l u < 64
  | [], u, _, hu => hu
  | x :: l, u, h, hu => bset_lt l _ (fun y hy => h y (List.mem_cons_of_mem _ hy)) (Nat.or_lt_two_pow (n := 6) hu (by
      have h1 := h x List.mem_cons_self
      exact Nat.pow_lt_pow_right (by decide) h1))
theorem bset_bit : ∀ (l : List Nat) (u x : Nat), (bset l u).testBit x = (u.testBit x || decide (x ∈ l))
  | [], u, x => by simp [bset]
  | y :: l, u, x => by
    show (bset l (u ||| 2 ^ y)).testBit x = _
    rw [bset_bit l, Nat.testBit_or, Nat.testBit_two_pow]
    by_cases hxy : y = x
    · subst hxy; simp
    · have : x ≠ y := fun e => hxy e.symm
      simp [hxy, this]
theorem mHas_bit : ∀ s, s < 64 → ∀ x, x < 6 → mHas (nI s) (nI x) = if s.testBit x then 1 else 0 := by decide +kernel
theorem mHas_enc {l : List Nat} (h : OkL l) {x : Nat} (hx : x < 6) : mHas (mMembers l.length (nI (encM l))) (nI x) = if x ∈ l then 1 else 0 := by
  rw [mMembers_enc h, mHas_bit _ (bset_lt l 0 h.2 (by decide)) x hx, bset_bit]
  by_cases hm : x ∈ l <;> simp [hm]
/-! The model's keys hold rows: what its deeds rest on. -/
def GoodM (r : Int32) : Prop := ∃ l : List Nat, OkL l ∧ l.Nodup ∧ r = nI (encM l)
def KM (a : AT) : Prop := ∀ j, j < 84 → GoodM (a 14 j)
theorem GoodM.rowM {r : Int32} (h : GoodM r) : RowM r := by
  obtain ⟨l, h1, h2, rfl⟩ := h
  have h6 := h1.1
  unfold RowM
  rw [mMany_enc h1, nI_clamp (by omega)]
  exact ⟨rfl, h6⟩
theorem GoodM.zero : GoodM 0 := ⟨[], ⟨by decide, fun x h => by cases h⟩, List.nodup_nil, rfl⟩
theorem KM.rows {a : AT} (h : KM a) : ∀ j, j < 84 → RowM (a 14 j) := fun j hj => (h j hj).rowM
/-- a row that may be shown on: it doesn't hold j -/
def PreM (j : Nat) (r : Int32) : Prop := ∃ l : List Nat, OkL l ∧ l.Nodup ∧ j ∉ l ∧ r = nI (encM l)
theorem PreM.len {j : Nat} (hj : j < 6) {l : List Nat} (h : OkL l) (hd : l.Nodup) (hn : j ∉ l) : l.length ≤ 5 := by
  have h1 := nodup_len 6 (j :: l) (List.nodup_cons.mpr ⟨hn, hd⟩) (fun x hx => by
    rcases List.mem_cons.mp hx with e | e
    · omega
    · exact h.2 x e)
  simp only [List.length_cons] at h1
  omega
theorem PreM.good {j : Nat} (hj : j < 6) {r : Int32} (h : PreM j r) : GoodM (mBefore (nI j) r) ∧ vp_in (mMember (mBefore (nI j) r) (mMany (mBefore (nI j) r) - 1)) 6 := by
  obtain ⟨l, h1, h2, h3, rfl⟩ := h
  have h5 := PreM.len hj h1 h2 h3
  have hok : OkL (j :: l) := ⟨by simp only [List.length_cons]; omega, fun x hx => by
    rcases List.mem_cons.mp hx with e | e
    · omega
    · exact h1.2 x e⟩
  rw [mBefore_enc h1 h5 hj]
  refine ⟨⟨j :: l, hok, List.nodup_cons.mpr ⟨h3, h2⟩, rfl⟩, ?_⟩
  rw [mLast_enc hok (by simp)]
  exact vp_in_nI (getD_lt hok.2 _) (by decide)
theorem PreM.zero {j : Nat} : PreM j 0 := ⟨[], ⟨by decide, fun x h => by cases h⟩, List.nodup_nil, by simp, rfl⟩
theorem short_pre {F : FT} {a : AT} {n j : Nat} {y : Int32} (hK : KM a) (hn : n ≤ 14) (hj : j < 6) (hl : vp_in y 6) : ∀ (k i : Nat) (best : Int32), i + k = n → PreM j best → PreM j (mShortestL F a n (nI j) y k i best) := by
  intro k
  induction k with
  | zero => intro i best _ h; exact h
  | succ k ih =>
    intro i best hi h
    have hv := vp_lt (vp_key3 (i := i) (by omega) hl)
    obtain ⟨l, h1, h2, h3⟩ := hK _ hv
    have h6 := h1.1
    simp only [mShortestL]
    split
    · split
      · exact ih _ _ (by omega) h
      · split
        · rename_i hh
          have hp : PreM j ((a 14) (((6 : Int32) * nI i + y).toNatClampNeg)) := by
            refine ⟨l, h1, h2, ?_, h3⟩
            rw [h3, mMany_enc h1, nI_clamp (by omega), mHas_enc h1 hj] at hh
            intro hm
            rw [if_pos hm] at hh
            exact absurd hh (by decide)
          split
          · exact ih _ _ (by omega) hp
          · split
            · exact ih _ _ (by omega) h
            · exact ih _ _ (by omega) hp
        · exact ih _ _ (by omega) h
    · exact ih _ _ (by omega) h
theorem KM.unlock {F : FT} {a : AT} {x row : Int32} (hK : KM a) (hr : GoodM row) : KM (mUnlock F a x row) := by
  intro j hj
  have key : GoodM (upd (a 14) (((6 : Int32) * x + mMember row (mMany row - 1)).toNatClampNeg) row j) := by
    unfold upd
    split
    · exact hr
    · exact hK j hj
  unfold mUnlock
  split
  · exact key
  · exact key
theorem KM.shownL {F : FT} {n : Nat} {x y row : Int32} (hr : GoodM row) : ∀ (k i : Nat) (d : Int32) (a : AT), KM a → KM (mShownByL F n x y row k i d a).2 := by
  intro k
  induction k with
  | zero => intro i d a h; exact h
  | succ k ih =>
    intro i d a h
    simp only [mShownByL]
    repeat' split
    all_goals first | exact ih _ _ _ h | exact ih _ _ _ (h.unlock hr)
theorem KM.shown {F : FT} {a : AT} {n : Nat} {x y row : Int32} (hr : GoodM row) (h : KM a) : KM (mShownBy F a n x y row).2 := by
  unfold mShownBy
  exact KM.shownL hr n 0 0 a h
end
section
def mDeed1 (F : FT) (a : AT) (n : Nat) (P : Nat) (j : Nat) : Nat → Nat → Int32 → AT → Int32 × AT
  | 0, i, d, a1 => (d, a1)
  | ki + 1, i, d, a1 => if ((a1 10) i) = (nI j) then
      if ((a1 12) i) = 0 then
        if (mHas (F 7) (nI j)) = 0 then
          if (mCovered F a n (nI j)) = 0 then
            mDeed1 F a n P j ki (i + 1) d a1
          else
            if (mIsLate F a1) = 0 then
              mDeed1 F a n P j ki (i + 1) (d + 1) (updA a1 12 (upd (a1 12) i 1))
            else
              mDeed1 F a n P j ki (i + 1) d a1
        else
          if (mIsLate F a1) = 0 then
            mDeed1 F a n P j ki (i + 1) (d + 1) (updA a1 12 (upd (a1 12) i 1))
          else
            mDeed1 F a n P j ki (i + 1) d a1
      else
        mDeed1 F a n P j ki (i + 1) d a1
    else
      mDeed1 F a n P j ki (i + 1) d a1
def mDeed2 (F : FT) (n : Nat) (P : Nat) (j : Nat) : Nat → Nat → Int32 → AT → Int32 × AT
  | 0, jj, d, a1 => (d, a1)
  | kjj + 1, jj, d, a1 => if (mHas (F 7) (nI jj)) = 0 then
      mDeed2 F n P j kjj (jj + 1) d a1
    else
      if (mShortest F a1 n (nI j) (nI jj)) = 0 then
        mDeed2 F n P j kjj (jj + 1) d a1
      else
        mDeed2 F n P j kjj (jj + 1) (d + ((mShownBy F a1 n (nI j) (nI jj) (mBefore (nI j) (mShortest F a1 n (nI j) (nI jj)))).1)) ((mShownBy F a1 n (nI j) (nI jj) (mBefore (nI j) (mShortest F a1 n (nI j) (nI jj)))).2)
def mDeed3 (F : FT) (n : Nat) (P : Nat) (j : Nat) : Nat → Nat → Int32 → AT → Int32 × AT
  | 0, i, d, a1 => (d, a1)
  | ki + 1, i, d, a1 => if ((a1 10) i) = (nI j) then
      if ((a1 12) i) = 1 then
        if (mIsLate F a1) = 0 then
          mDeed3 F n P j ki (i + 1) d a1
        else
          mDeed3 F n P j ki (i + 1) (d + 1) (updA a1 12 (upd (a1 12) i 3))
      else
        mDeed3 F n P j ki (i + 1) d a1
    else
      mDeed3 F n P j ki (i + 1) d a1
def mSelf (F : FT) (a : AT) (n : Nat) (P : Nat) (j : Nat) : Int32 × AT :=
  if (mHas (F 7) (nI j)) = 0 then
    ((mDeed1 F a n P j n 0 0 a).1, (mDeed1 F a n P j n 0 0 a).2)
  else
    if (mCovered F a n (nI j)) = 0 then
      ((mDeed1 F a n P j n 0 0 a).1, (mDeed1 F a n P j n 0 0 a).2)
    else
      (((mDeed1 F a n P j n 0 0 a).1) + ((mShownBy F ((mDeed1 F a n P j n 0 0 a).2) n (nI j) (nI j) (mBefore (nI j) 0)).1), (mShownBy F ((mDeed1 F a n P j n 0 0 a).2) n (nI j) (nI j) (mBefore (nI j) 0)).2)
def mDeeds (F : FT) (a : AT) (n : Nat) (P : Nat) (j : Nat) : Int32 × AT :=
  ((mDeed3 F n P j n 0 ((mDeed2 F n P j P 0 ((mSelf F a n P j).1) ((mSelf F a n P j).2)).1) ((mDeed2 F n P j P 0 ((mSelf F a n P j).1) ((mSelf F a n P j).2)).2)).1, (mDeed3 F n P j n 0 ((mDeed2 F n P j P 0 ((mSelf F a n P j).1) ((mSelf F a n P j).2)).1) ((mDeed2 F n P j P 0 ((mSelf F a n P j).1) ((mSelf F a n P j).2)).2)).2)
theorem dM_deeds_0 : decode bM_deeds 0 = .ok (.iconst 0, 1) := by decide +kernel
theorem dM_deeds_1 : decode bM_deeds 1 = .ok (.istore_n 2, 1) := by decide +kernel
theorem dM_deeds_2 : decode bM_deeds 2 = .ok (.aload_n 0, 1) := by decide +kernel
theorem dM_deeds_3 : decode bM_deeds 3 = .ok (.getfield 86, 3) := by decide +kernel
theorem dM_deeds_6 : decode bM_deeds 6 = .ok (.iload_n 1, 1) := by decide +kernel
theorem dM_deeds_7 : decode bM_deeds 7 = .ok (.invokestatic 49, 3) := by decide +kernel
theorem dM_deeds_10 : decode bM_deeds 10 = .ok (.istore_n 3, 1) := by decide +kernel
theorem dM_deeds_11 : decode bM_deeds 11 = .ok (.aload_n 0, 1) := by decide +kernel
theorem dM_deeds_12 : decode bM_deeds 12 = .ok (.iload_n 1, 1) := by decide +kernel
theorem dM_deeds_13 : decode bM_deeds 13 = .ok (.invokevirtual 97, 3) := by decide +kernel
theorem dM_deeds_16 : decode bM_deeds 16 = .ok (.istore 4, 2) := by decide +kernel
theorem dM_deeds_18 : decode bM_deeds 18 = .ok (.iconst 0, 1) := by decide +kernel
theorem dM_deeds_19 : decode bM_deeds 19 = .ok (.istore 5, 2) := by decide +kernel
theorem dM_deeds_21 : decode bM_deeds 21 = .ok (.iload 5, 2) := by decide +kernel
theorem dM_deeds_23 : decode bM_deeds 23 = .ok (.aload_n 0, 1) := by decide +kernel
theorem dM_deeds_24 : decode bM_deeds 24 = .ok (.getfield 42, 3) := by decide +kernel
theorem dM_deeds_27 : decode bM_deeds 27 = .ok (.if_icmp .ge 60, 3) := by decide +kernel
theorem dM_deeds_30 : decode bM_deeds 30 = .ok (.aload_n 0, 1) := by decide +kernel
theorem dM_deeds_31 : decode bM_deeds 31 = .ok (.getfield 7, 3) := by decide +kernel
theorem dM_deeds_34 : decode bM_deeds 34 = .ok (.iload 5, 2) := by decide +kernel
theorem dM_deeds_36 : decode bM_deeds 36 = .ok (.iaload, 1) := by decide +kernel
theorem dM_deeds_37 : decode bM_deeds 37 = .ok (.iload_n 1, 1) := by decide +kernel
theorem dM_deeds_38 : decode bM_deeds 38 = .ok (.if_icmp .ne 43, 3) := by decide +kernel
theorem dM_deeds_41 : decode bM_deeds 41 = .ok (.aload_n 0, 1) := by decide +kernel
theorem dM_deeds_42 : decode bM_deeds 42 = .ok (.getfield 16, 3) := by decide +kernel
theorem dM_deeds_45 : decode bM_deeds 45 = .ok (.iload 5, 2) := by decide +kernel
theorem dM_deeds_47 : decode bM_deeds 47 = .ok (.iaload, 1) := by decide +kernel
theorem dM_deeds_48 : decode bM_deeds 48 = .ok (.ifCond .ne 33, 3) := by decide +kernel
theorem dM_deeds_51 : decode bM_deeds 51 = .ok (.iload_n 3, 1) := by decide +kernel
theorem dM_deeds_52 : decode bM_deeds 52 = .ok (.ifCond .ne 8, 3) := by decide +kernel
theorem dM_deeds_55 : decode bM_deeds 55 = .ok (.iload 4, 2) := by decide +kernel
theorem dM_deeds_57 : decode bM_deeds 57 = .ok (.ifCond .eq 24, 3) := by decide +kernel
theorem dM_deeds_60 : decode bM_deeds 60 = .ok (.aload_n 0, 1) := by decide +kernel
theorem dM_deeds_61 : decode bM_deeds 61 = .ok (.invokevirtual 100, 3) := by decide +kernel
theorem dM_deeds_64 : decode bM_deeds 64 = .ok (.ifCond .eq 6, 3) := by decide +kernel
theorem dM_deeds_67 : decode bM_deeds 67 = .ok (.goto 14, 3) := by decide +kernel
theorem dM_deeds_70 : decode bM_deeds 70 = .ok (.aload_n 0, 1) := by decide +kernel
theorem dM_deeds_71 : decode bM_deeds 71 = .ok (.getfield 16, 3) := by decide +kernel
theorem dM_deeds_74 : decode bM_deeds 74 = .ok (.iload 5, 2) := by decide +kernel
theorem dM_deeds_76 : decode bM_deeds 76 = .ok (.iconst 1, 1) := by decide +kernel
theorem dM_deeds_77 : decode bM_deeds 77 = .ok (.iastore, 1) := by decide +kernel
theorem dM_deeds_78 : decode bM_deeds 78 = .ok (.iinc 2 1, 3) := by decide +kernel
theorem dM_deeds_81 : decode bM_deeds 81 = .ok (.iinc 5 1, 3) := by decide +kernel
theorem dM_deeds_84 : decode bM_deeds 84 = .ok (.goto (-63), 3) := by decide +kernel
theorem dM_deeds_87 : decode bM_deeds 87 = .ok (.iload_n 3, 1) := by decide +kernel
theorem dM_deeds_88 : decode bM_deeds 88 = .ok (.ifCond .eq 22, 3) := by decide +kernel
theorem dM_deeds_91 : decode bM_deeds 91 = .ok (.iload 4, 2) := by decide +kernel
theorem dM_deeds_93 : decode bM_deeds 93 = .ok (.ifCond .eq 17, 3) := by decide +kernel
theorem dM_deeds_96 : decode bM_deeds 96 = .ok (.iload_n 2, 1) := by decide +kernel
theorem dM_deeds_97 : decode bM_deeds 97 = .ok (.aload_n 0, 1) := by decide +kernel
theorem dM_deeds_98 : decode bM_deeds 98 = .ok (.iload_n 1, 1) := by decide +kernel
theorem dM_deeds_99 : decode bM_deeds 99 = .ok (.iload_n 1, 1) := by decide +kernel
theorem dM_deeds_100 : decode bM_deeds 100 = .ok (.iload_n 1, 1) := by decide +kernel
theorem dM_deeds_101 : decode bM_deeds 101 = .ok (.iconst 0, 1) := by decide +kernel
theorem dM_deeds_102 : decode bM_deeds 102 = .ok (.invokestatic 104, 3) := by decide +kernel
theorem dM_deeds_105 : decode bM_deeds 105 = .ok (.invokevirtual 107, 3) := by decide +kernel
theorem dM_deeds_108 : decode bM_deeds 108 = .ok (.iadd, 1) := by decide +kernel
theorem dM_deeds_109 : decode bM_deeds 109 = .ok (.istore_n 2, 1) := by decide +kernel
theorem dM_deeds_110 : decode bM_deeds 110 = .ok (.iconst 0, 1) := by decide +kernel
theorem dM_deeds_111 : decode bM_deeds 111 = .ok (.istore 5, 2) := by decide +kernel
theorem dM_deeds_113 : decode bM_deeds 113 = .ok (.iload 5, 2) := by decide +kernel
theorem dM_deeds_115 : decode bM_deeds 115 = .ok (.aload_n 0, 1) := by decide +kernel
theorem dM_deeds_116 : decode bM_deeds 116 = .ok (.getfield 32, 3) := by decide +kernel
theorem dM_deeds_119 : decode bM_deeds 119 = .ok (.if_icmp .ge 55, 3) := by decide +kernel
theorem dM_deeds_122 : decode bM_deeds 122 = .ok (.aload_n 0, 1) := by decide +kernel
theorem dM_deeds_123 : decode bM_deeds 123 = .ok (.getfield 86, 3) := by decide +kernel
theorem dM_deeds_126 : decode bM_deeds 126 = .ok (.iload 5, 2) := by decide +kernel
theorem dM_deeds_128 : decode bM_deeds 128 = .ok (.invokestatic 49, 3) := by decide +kernel
theorem dM_deeds_131 : decode bM_deeds 131 = .ok (.ifCond .eq 13, 3) := by decide +kernel
theorem dM_deeds_134 : decode bM_deeds 134 = .ok (.aload_n 0, 1) := by decide +kernel
theorem dM_deeds_135 : decode bM_deeds 135 = .ok (.iload_n 1, 1) := by decide +kernel
theorem dM_deeds_136 : decode bM_deeds 136 = .ok (.iload 5, 2) := by decide +kernel
theorem dM_deeds_138 : decode bM_deeds 138 = .ok (.invokevirtual 111, 3) := by decide +kernel
theorem dM_deeds_141 : decode bM_deeds 141 = .ok (.goto 4, 3) := by decide +kernel
theorem dM_deeds_144 : decode bM_deeds 144 = .ok (.iconst 0, 1) := by decide +kernel
theorem dM_deeds_145 : decode bM_deeds 145 = .ok (.istore 6, 2) := by decide +kernel
theorem dM_deeds_147 : decode bM_deeds 147 = .ok (.iload 6, 2) := by decide +kernel
theorem dM_deeds_149 : decode bM_deeds 149 = .ok (.ifCond .eq 19, 3) := by decide +kernel
theorem dM_deeds_152 : decode bM_deeds 152 = .ok (.iload_n 2, 1) := by decide +kernel
theorem dM_deeds_153 : decode bM_deeds 153 = .ok (.aload_n 0, 1) := by decide +kernel
theorem dM_deeds_154 : decode bM_deeds 154 = .ok (.iload_n 1, 1) := by decide +kernel
theorem dM_deeds_155 : decode bM_deeds 155 = .ok (.iload 5, 2) := by decide +kernel
theorem dM_deeds_157 : decode bM_deeds 157 = .ok (.iload_n 1, 1) := by decide +kernel
theorem dM_deeds_158 : decode bM_deeds 158 = .ok (.iload 6, 2) := by decide +kernel
theorem dM_deeds_160 : decode bM_deeds 160 = .ok (.invokestatic 104, 3) := by decide +kernel
theorem dM_deeds_163 : decode bM_deeds 163 = .ok (.invokevirtual 107, 3) := by decide +kernel
theorem dM_deeds_166 : decode bM_deeds 166 = .ok (.iadd, 1) := by decide +kernel
theorem dM_deeds_167 : decode bM_deeds 167 = .ok (.istore_n 2, 1) := by decide +kernel
theorem dM_deeds_168 : decode bM_deeds 168 = .ok (.iinc 5 1, 3) := by decide +kernel
theorem dM_deeds_171 : decode bM_deeds 171 = .ok (.goto (-58), 3) := by decide +kernel
theorem dM_deeds_174 : decode bM_deeds 174 = .ok (.iconst 0, 1) := by decide +kernel
theorem dM_deeds_175 : decode bM_deeds 175 = .ok (.istore 5, 2) := by decide +kernel
theorem dM_deeds_177 : decode bM_deeds 177 = .ok (.iload 5, 2) := by decide +kernel
theorem dM_deeds_179 : decode bM_deeds 179 = .ok (.aload_n 0, 1) := by decide +kernel
theorem dM_deeds_180 : decode bM_deeds 180 = .ok (.getfield 42, 3) := by decide +kernel
theorem dM_deeds_183 : decode bM_deeds 183 = .ok (.if_icmp .ge 52, 3) := by decide +kernel
theorem dM_deeds_186 : decode bM_deeds 186 = .ok (.aload_n 0, 1) := by decide +kernel
theorem dM_deeds_187 : decode bM_deeds 187 = .ok (.getfield 7, 3) := by decide +kernel
theorem dM_deeds_190 : decode bM_deeds 190 = .ok (.iload 5, 2) := by decide +kernel
theorem dM_deeds_192 : decode bM_deeds 192 = .ok (.iaload, 1) := by decide +kernel
theorem dM_deeds_193 : decode bM_deeds 193 = .ok (.iload_n 1, 1) := by decide +kernel
theorem dM_deeds_194 : decode bM_deeds 194 = .ok (.if_icmp .ne 35, 3) := by decide +kernel
theorem dM_deeds_197 : decode bM_deeds 197 = .ok (.aload_n 0, 1) := by decide +kernel
theorem dM_deeds_198 : decode bM_deeds 198 = .ok (.getfield 16, 3) := by decide +kernel
theorem dM_deeds_201 : decode bM_deeds 201 = .ok (.iload 5, 2) := by decide +kernel
theorem dM_deeds_203 : decode bM_deeds 203 = .ok (.iaload, 1) := by decide +kernel
theorem dM_deeds_204 : decode bM_deeds 204 = .ok (.iconst 1, 1) := by decide +kernel
theorem dM_deeds_205 : decode bM_deeds 205 = .ok (.if_icmp .ne 24, 3) := by decide +kernel
theorem dM_deeds_208 : decode bM_deeds 208 = .ok (.aload_n 0, 1) := by decide +kernel
theorem dM_deeds_209 : decode bM_deeds 209 = .ok (.invokevirtual 100, 3) := by decide +kernel
theorem dM_deeds_212 : decode bM_deeds 212 = .ok (.ifCond .ne 6, 3) := by decide +kernel
theorem dM_deeds_215 : decode bM_deeds 215 = .ok (.goto 14, 3) := by decide +kernel
theorem dM_deeds_218 : decode bM_deeds 218 = .ok (.aload_n 0, 1) := by decide +kernel
theorem dM_deeds_219 : decode bM_deeds 219 = .ok (.getfield 16, 3) := by decide +kernel
theorem dM_deeds_222 : decode bM_deeds 222 = .ok (.iload 5, 2) := by decide +kernel
theorem dM_deeds_224 : decode bM_deeds 224 = .ok (.iconst 3, 1) := by decide +kernel
theorem dM_deeds_225 : decode bM_deeds 225 = .ok (.iastore, 1) := by decide +kernel
theorem dM_deeds_226 : decode bM_deeds 226 = .ok (.iinc 2 1, 3) := by decide +kernel
theorem dM_deeds_229 : decode bM_deeds 229 = .ok (.iinc 5 1, 3) := by decide +kernel
theorem dM_deeds_232 : decode bM_deeds 232 = .ok (.goto (-55), 3) := by decide +kernel
theorem dM_deeds_235 : decode bM_deeds 235 = .ok (.iload_n 2, 1) := by decide +kernel
theorem dM_deeds_236 : decode bM_deeds 236 = .ok (.ireturn, 1) := by decide +kernel
theorem inM_deeds_M : ∀ x ∈ u_ws RcM TcM 18, x ∈ wM_deeds := by decide +kernel
set_option maxRecDepth 20000 in
theorem gM_deeds_M_has : GoodIn wM_deeds (va_wsS RcM 49 yM_has wM_has) := goodIn_app (goodIn_of _ (by decide +kernel)) (goodIn_r _ [23] (by decide +kernel) (by decide +kernel))
set_option maxRecDepth 20000 in
theorem gM_deeds_M_isCovered : GoodIn wM_deeds (wsV RcM 97 RcM yM_isCovered wM_isCovered) := goodIn_app (goodIn_of _ (by decide +kernel)) (goodIn_r _ [24, 8, 25, 10, 54, 55, 56, 57, 58, 59, 60, 61, 62, 63, 64, 65, 66, 67, 68, 69, 70, 71] (by decide +kernel) (by decide +kernel))
set_option maxRecDepth 20000 in
theorem gM_deeds_M_isLate : GoodIn wM_deeds (wsV RcM 100 RcM yM_isLate wM_isLate) := goodIn_app (goodIn_of _ (by decide +kernel)) (goodIn_r _ [26, 27, 28, 29, 30, 54, 55, 56, 57, 58, 59, 60, 61, 62, 63, 64, 65, 66, 67, 68, 69, 70, 71] (by decide +kernel) (by decide +kernel))
set_option maxRecDepth 20000 in
theorem gM_deeds_M_shortest : GoodIn wM_deeds (wsV RcM 111 RcM yM_shortest wM_shortest) := goodIn_app (goodIn_of _ (by decide +kernel)) (goodIn_r _ [50, 8, 48, 9, 37, 2, 3, 4, 51, 52, 33, 34, 23, 53, 46, 47, 35, 49, 54, 55, 56, 57, 58, 59, 60, 61, 62, 63, 64, 65, 66, 67, 68, 69, 70, 71] (by decide +kernel) (by decide +kernel))
set_option maxRecDepth 20000 in
theorem gM_deeds_M_before : GoodIn wM_deeds (va_wsS RcM 104 yM_before wM_before) := goodIn_app (goodIn_of _ (by decide +kernel)) (goodIn_r _ [31, 32, 33, 34, 4, 35] (by decide +kernel) (by decide +kernel))
set_option maxRecDepth 20000 in
theorem gM_deeds_M_shownBy : GoodIn wM_deeds (wsV RcM 107 RcM yM_shownBy wM_shownBy) := goodIn_app (goodIn_of _ (by decide +kernel)) (goodIn_r _ [36, 8, 25, 10, 37, 2, 3, 4, 33, 34, 38, 39, 40, 41, 42, 43, 23, 35, 44, 27, 28, 29, 30, 45, 46, 47, 48, 1, 49, 54, 55, 56, 57, 58, 59, 60, 61, 62, 63, 64, 65, 66, 67, 68, 69, 70, 71] (by decide +kernel) (by decide +kernel))
end
section
theorem deed1_km {F : FT} {a0 : AT} {n P j : Nat} : ∀ (k i : Nat) (d : Int32) (a : AT), KM a → KM (mDeed1 F a0 n P j k i d a).2 := by
  intro k
  induction k with
  | zero => intro i d a h; exact h
  | succ k ih =>
    intro i d a h
    simp only [mDeed1]
    repeat' split
    all_goals exact ih _ _ _ h
theorem mSelf_km {F : FT} {a : AT} {n P j : Nat} (hj : j < 6) (h : KM a) : KM (mSelf F a n P j).2 := by
  have h1 := deed1_km (F := F) (a0 := a) (n := n) (P := P) (j := j) n 0 0 a h
  unfold mSelf
  split
  · exact h1
  · split
    · exact h1
    · exact KM.shown (PreM.good hj PreM.zero).1 h1
end
section
set_option maxHeartbeats 4000000 in
set_option maxRecDepth 100000 in
theorem c_mDeeds (l : Launch) (D : va_G) (cI cZ cJ : ClassId) (b : Nat → Nat) (F : FT) (a : AT) (n : Nat) (P : Nat) (j : Nat) (hn : F 9 = nI n) (hn4 : n ≤ 14) (hp : F 0 = nI P) (hp6 : P ≤ 6) (hj : j < 6) (hK : KM a) : Ki l yM_deeds wM_deeds ({ frames := 3, cells := 0, slots := 0, locals := 69 } : Room) D vwCl (tyG cI cZ cJ) [.ref (b 0), .int (nI j)] (wM cI cZ b F a) ((mDeeds F a n P j).1) (wM cI cZ b F ((mDeeds F a n P j).2)) := by
  intro sz
  refine v_ent (cc := bM_deeds) (maxL := 7) (ret := (some .int)) (Qc := (fun A => va_Qi (fun (x9 : Int32) (_ : Unit) => x9 = (mDeeds F a n P j).1) (fun _ => wB D vwCl (tyG cI cZ cJ) A (wM cI cZ b F ((mDeeds F a n P j).2))) A)) (fr := (fun A => A)) (own := RcM) rfl (by decide) rfl (Nat.le_of_ble_eq_true rfl) rfl ?_
  intro p e s m args below meth c A C hr _
  refine v_free ?_
  refine v_iconst C (v := 0) dM_deeds_0 (by decide) ?_
  refine v_istore_n C (lv' := [(0, .ref (b 0)), (1, .int (nI j)), (2, .int 0)]) [1, 2, 0] dM_deeds_1 rfl (by decide) rfl ?_
  refine v_aload_n C 0 dM_deeds_2 rfl rfl ?_
  refine v_get C (T := TcM) (N := 18) (ci := 2) (v := .int (F 7)) inM_deeds_M 0 rfl rfl 7 (by decide) (by decide +kernel) rfl rfl dM_deeds_3 ?_
  refine v_iload_n C 1 dM_deeds_6 rfl rfl ?_
  refine v_cSr0 (As := [.int (F 7), .int (nI j)]) C (c_mHas l D cI cZ cJ (F 7) (nI j)) (va_cwS 2 C.2.2.2.2.1 gM_deeds_M_has rfl rfl rfl (by decide +kernel) ⟨Nat.le_of_ble_eq_true rfl, Nat.le_of_ble_eq_true rfl⟩) rfl rfl (Nat.le_of_ble_eq_true rfl) ⟨Nat.zero_le _, Nat.zero_le _⟩ dM_deeds_7 ?_
  refine v_istore_n C (lv' := [(0, .ref (b 0)), (1, .int (nI j)), (2, .int 0), (3, .int (mHas (F 7) (nI j)))]) [1, 2, 3, 0] dM_deeds_10 rfl (by decide) rfl ?_
  refine v_aload_n C 0 dM_deeds_11 rfl rfl ?_
  refine v_iload_n C 1 dM_deeds_12 rfl rfl ?_
  refine v_cVrF (As := [.int (nI j)]) C (c_mCovered l D cI cZ cJ b F a n (nI j) hn hn4) (cwV 1 C.2.2.2.2.1 gM_deeds_M_isCovered rfl rfl rfl (by decide +kernel) ⟨Nat.le_of_ble_eq_true rfl, Nat.le_of_ble_eq_true rfl⟩) 0 rfl (T := TcM) (N := 18) rfl rfl rfl (Nat.le_of_ble_eq_true rfl) ⟨Nat.zero_le _, Nat.zero_le _⟩ dM_deeds_13 ?_
  refine v_istore C (lv' := [(0, .ref (b 0)), (1, .int (nI j)), (2, .int 0), (3, .int (mHas (F 7) (nI j))), (4, .int (mCovered F a n (nI j)))]) [1, 2, 3, 4, 0] dM_deeds_16 (by decide) rfl ?_
  refine v_iconst C (v := 0) dM_deeds_18 (by decide) ?_
  refine v_istore C (lv' := [(0, .ref (b 0)), (1, .int (nI j)), (2, .int 0), (3, .int (mHas (F 7) (nI j))), (4, .int (mCovered F a n (nI j))), (5, .int 0)]) [1, 2, 3, 4, 5, 0] dM_deeds_19 (by decide) rfl ?_
  refine v_loop2 n (fun (i : Nat) (d : Int32) (a1 : AT) => wM cI cZ b F a1) (fun (i : Nat) (d : Int32) (a1 : AT) => [(0, .ref (b 0)), (1, .int (nI j)), (2, .int d), (3, .int (mHas (F 7) (nI j))), (4, .int (mCovered F a n (nI j))), (5, .int (nI i))]) (fun (ki i : Nat) (d : Int32) (a1 : AT) => mDeed1 F a n P j ki i d a1 = mDeed1 F a n P j n 0 0 a) ?_ ?_ n 0 0 a (by omega) rfl
  · skip
    intro ki i d a1 hki hIi ihi
    have hIi : mDeed1 F a n P j (ki + 1) i d a1 = mDeed1 F a n P j n 0 0 a := hIi
    refine v_as (w' := wM cI cZ b F a1) (lv' := [(0, .ref (b 0)), (1, .int (nI j)), (2, .int d), (3, .int (mHas (F 7) (nI j))), (4, .int (mCovered F a n (nI j))), (5, .int (nI i))]) rfl rfl ?_
    refine v_iload C 5 dM_deeds_21 rfl ?_
    refine v_aload_n C 0 dM_deeds_23 rfl rfl ?_
    refine v_get C (T := TcM) (N := 18) (ci := 2) (v := .int (F 9)) inM_deeds_M 0 rfl rfl 9 (by decide) (by decide +kernel) rfl rfl dM_deeds_24 ?_
    refine v_top (y := nI n) hn ?_
    refine v_icmp_ge C dM_deeds_27 (tgt := 87) (by decide) (fun h => absurd h (nI_ge (a := i) (b := n) (by omega) (by omega))) (fun _ => ?_)
    refine v_aload_n C 0 dM_deeds_30 rfl rfl ?_
    refine v_get C (T := TcM) (N := 18) (ci := 2) (v := .ref (b 1)) inM_deeds_M 0 rfl rfl 10 (by decide) (by decide +kernel) rfl rfl dM_deeds_31 ?_
    refine v_iload C 5 dM_deeds_34 rfl ?_
    refine v_iald C 1 0 (f := a1 10) (y := (a1 10) i) (j := i) rfl rfl (nI_clamp (by omega)) rfl (vp_in_nI (by omega) (by decide)) dM_deeds_36 ?_
    refine v_iload_n C 1 dM_deeds_37 rfl rfl ?_
    refine v_icmp_ne C dM_deeds_38 (tgt := 81) (by decide) (fun h1 => ?_) (fun h1 => ?_)
    · skip
      refine v_iinc C (v := nI (i + 1)) (lv' := [(0, .ref (b 0)), (1, .int (nI j)), (2, .int d), (3, .int (mHas (F 7) (nI j))), (4, .int (mCovered F a n (nI j))), (5, .int (nI (i + 1)))]) 5 [1, 2, 3, 4, 5, 0] dM_deeds_81 rfl (nI_1 i) (by decide) rfl ?_
      refine v_goto C dM_deeds_84 (tgt := 21) (by decide) ?_
      have hL : mDeed1 F a n P j ki (i + 1) d a1 = mDeed1 F a n P j n 0 0 a := (by rw [← hIi]; simp only [mDeed1]; rw [if_neg h1])
      exact ihi d a1 hL
    · skip
      refine v_aload_n C 0 dM_deeds_41 rfl rfl ?_
      refine v_get C (T := TcM) (N := 18) (ci := 2) (v := .ref (b 3)) inM_deeds_M 0 rfl rfl 12 (by decide) (by decide +kernel) rfl rfl dM_deeds_42 ?_
      refine v_iload C 5 dM_deeds_45 rfl ?_
      refine v_iald C 3 0 (f := a1 12) (y := (a1 12) i) (j := i) rfl rfl (nI_clamp (by omega)) rfl (vp_in_nI (by omega) (by decide)) dM_deeds_47 ?_
      refine v_if_ne C dM_deeds_48 (tgt := 81) (by decide) (fun h2 => ?_) (fun h2 => ?_)
      · skip
        refine v_iinc C (v := nI (i + 1)) (lv' := [(0, .ref (b 0)), (1, .int (nI j)), (2, .int d), (3, .int (mHas (F 7) (nI j))), (4, .int (mCovered F a n (nI j))), (5, .int (nI (i + 1)))]) 5 [1, 2, 3, 4, 5, 0] dM_deeds_81 rfl (nI_1 i) (by decide) rfl ?_
        refine v_goto C dM_deeds_84 (tgt := 21) (by decide) ?_
        have hL : mDeed1 F a n P j ki (i + 1) d a1 = mDeed1 F a n P j n 0 0 a := (by rw [← hIi]; simp only [mDeed1]; rw [if_pos h1, if_neg h2])
        exact ihi d a1 hL
      · skip
        refine v_iload_n C 3 dM_deeds_51 rfl rfl ?_
        refine v_if_ne C dM_deeds_52 (tgt := 60) (by decide) (fun h3 => ?_) (fun h3 => ?_)
        · skip
          refine v_aload_n C 0 dM_deeds_60 rfl rfl ?_
          refine v_cVrF (As := []) C (c_mIsLate l D cI cZ cJ b F a1) (cwV 0 C.2.2.2.2.1 gM_deeds_M_isLate rfl rfl rfl (by decide +kernel) ⟨Nat.le_of_ble_eq_true rfl, Nat.le_of_ble_eq_true rfl⟩) 0 rfl (T := TcM) (N := 18) rfl rfl rfl (Nat.le_of_ble_eq_true rfl) ⟨Nat.zero_le _, Nat.zero_le _⟩ dM_deeds_61 ?_
          refine v_if_eq C dM_deeds_64 (tgt := 70) (by decide) (fun h4 => ?_) (fun h4 => ?_)
          · skip
            refine v_aload_n C 0 dM_deeds_70 rfl rfl ?_
            refine v_get C (T := TcM) (N := 18) (ci := 2) (v := .ref (b 3)) inM_deeds_M 0 rfl rfl 12 (by decide) (by decide +kernel) rfl rfl dM_deeds_71 ?_
            refine v_iload C 5 dM_deeds_74 rfl ?_
            refine v_iconst C (v := 1) dM_deeds_76 (by decide) ?_
            obtain ⟨zz1, hzz1⟩ : ∃ z9, upd (a1 12) i 1 = z9 := ⟨_, rfl⟩
            refine v_iast C 3 0 (f := a1 12) (j := i) (f1 := zz1) rfl rfl (nI_clamp (by omega)) hzz1 (vp_in_nI (by omega) (by decide)) dM_deeds_77 (w1 := wM cI cZ b F (updA a1 12 zz1)) rfl ?_
            refine v_iinc C (v := d + 1) (lv' := [(0, .ref (b 0)), (1, .int (nI j)), (2, .int (d + 1)), (3, .int (mHas (F 7) (nI j))), (4, .int (mCovered F a n (nI j))), (5, .int (nI i))]) 2 [1, 2, 0, 3, 4, 5] dM_deeds_78 rfl rfl (by decide) rfl ?_
            refine v_iinc C (v := nI (i + 1)) (lv' := [(0, .ref (b 0)), (1, .int (nI j)), (2, .int (d + 1)), (3, .int (mHas (F 7) (nI j))), (4, .int (mCovered F a n (nI j))), (5, .int (nI (i + 1)))]) 5 [1, 2, 3, 4, 5, 0] dM_deeds_81 rfl (nI_1 i) (by decide) rfl ?_
            refine v_goto C dM_deeds_84 (tgt := 21) (by decide) ?_
            have hL : mDeed1 F a n P j ki (i + 1) (d + 1) (updA a1 12 zz1) = mDeed1 F a n P j n 0 0 a := (by rw [← hIi]; simp only [mDeed1]; rw [hzz1, if_pos h1, if_pos h2, if_neg h3, if_pos h4])
            exact ihi (d + 1) (updA a1 12 zz1) hL
          · skip
            refine v_goto C dM_deeds_67 (tgt := 81) (by decide) ?_
            refine v_iinc C (v := nI (i + 1)) (lv' := [(0, .ref (b 0)), (1, .int (nI j)), (2, .int d), (3, .int (mHas (F 7) (nI j))), (4, .int (mCovered F a n (nI j))), (5, .int (nI (i + 1)))]) 5 [1, 2, 3, 4, 5, 0] dM_deeds_81 rfl (nI_1 i) (by decide) rfl ?_
            refine v_goto C dM_deeds_84 (tgt := 21) (by decide) ?_
            have hL : mDeed1 F a n P j ki (i + 1) d a1 = mDeed1 F a n P j n 0 0 a := (by rw [← hIi]; simp only [mDeed1]; rw [if_pos h1, if_pos h2, if_neg h3, if_neg h4])
            exact ihi d a1 hL
        · skip
          refine v_iload C 4 dM_deeds_55 rfl ?_
          refine v_if_eq C dM_deeds_57 (tgt := 81) (by decide) (fun h5 => ?_) (fun h5 => ?_)
          · skip
            refine v_iinc C (v := nI (i + 1)) (lv' := [(0, .ref (b 0)), (1, .int (nI j)), (2, .int d), (3, .int (mHas (F 7) (nI j))), (4, .int (mCovered F a n (nI j))), (5, .int (nI (i + 1)))]) 5 [1, 2, 3, 4, 5, 0] dM_deeds_81 rfl (nI_1 i) (by decide) rfl ?_
            refine v_goto C dM_deeds_84 (tgt := 21) (by decide) ?_
            have hL : mDeed1 F a n P j ki (i + 1) d a1 = mDeed1 F a n P j n 0 0 a := (by rw [← hIi]; simp only [mDeed1]; rw [if_pos h1, if_pos h2, if_pos h3, if_pos h5])
            exact ihi d a1 hL
          · skip
            refine v_aload_n C 0 dM_deeds_60 rfl rfl ?_
            refine v_cVrF (As := []) C (c_mIsLate l D cI cZ cJ b F a1) (cwV 0 C.2.2.2.2.1 gM_deeds_M_isLate rfl rfl rfl (by decide +kernel) ⟨Nat.le_of_ble_eq_true rfl, Nat.le_of_ble_eq_true rfl⟩) 0 rfl (T := TcM) (N := 18) rfl rfl rfl (Nat.le_of_ble_eq_true rfl) ⟨Nat.zero_le _, Nat.zero_le _⟩ dM_deeds_61 ?_
            refine v_if_eq C dM_deeds_64 (tgt := 70) (by decide) (fun h6 => ?_) (fun h6 => ?_)
            · skip
              refine v_aload_n C 0 dM_deeds_70 rfl rfl ?_
              refine v_get C (T := TcM) (N := 18) (ci := 2) (v := .ref (b 3)) inM_deeds_M 0 rfl rfl 12 (by decide) (by decide +kernel) rfl rfl dM_deeds_71 ?_
              refine v_iload C 5 dM_deeds_74 rfl ?_
              refine v_iconst C (v := 1) dM_deeds_76 (by decide) ?_
              obtain ⟨zz2, hzz2⟩ : ∃ z9, upd (a1 12) i 1 = z9 := ⟨_, rfl⟩
              refine v_iast C 3 0 (f := a1 12) (j := i) (f1 := zz2) rfl rfl (nI_clamp (by omega)) hzz2 (vp_in_nI (by omega) (by decide)) dM_deeds_77 (w1 := wM cI cZ b F (updA a1 12 zz2)) rfl ?_
              refine v_iinc C (v := d + 1) (lv' := [(0, .ref (b 0)), (1, .int (nI j)), (2, .int (d + 1)), (3, .int (mHas (F 7) (nI j))), (4, .int (mCovered F a n (nI j))), (5, .int (nI i))]) 2 [1, 2, 0, 3, 4, 5] dM_deeds_78 rfl rfl (by decide) rfl ?_
              refine v_iinc C (v := nI (i + 1)) (lv' := [(0, .ref (b 0)), (1, .int (nI j)), (2, .int (d + 1)), (3, .int (mHas (F 7) (nI j))), (4, .int (mCovered F a n (nI j))), (5, .int (nI (i + 1)))]) 5 [1, 2, 3, 4, 5, 0] dM_deeds_81 rfl (nI_1 i) (by decide) rfl ?_
              refine v_goto C dM_deeds_84 (tgt := 21) (by decide) ?_
              have hL : mDeed1 F a n P j ki (i + 1) (d + 1) (updA a1 12 zz2) = mDeed1 F a n P j n 0 0 a := (by rw [← hIi]; simp only [mDeed1]; rw [hzz2, if_pos h1, if_pos h2, if_pos h3, if_neg h5, if_pos h6])
              exact ihi (d + 1) (updA a1 12 zz2) hL
            · skip
              refine v_goto C dM_deeds_67 (tgt := 81) (by decide) ?_
              refine v_iinc C (v := nI (i + 1)) (lv' := [(0, .ref (b 0)), (1, .int (nI j)), (2, .int d), (3, .int (mHas (F 7) (nI j))), (4, .int (mCovered F a n (nI j))), (5, .int (nI (i + 1)))]) 5 [1, 2, 3, 4, 5, 0] dM_deeds_81 rfl (nI_1 i) (by decide) rfl ?_
              refine v_goto C dM_deeds_84 (tgt := 21) (by decide) ?_
              have hL : mDeed1 F a n P j ki (i + 1) d a1 = mDeed1 F a n P j n 0 0 a := (by rw [← hIi]; simp only [mDeed1]; rw [if_pos h1, if_pos h2, if_pos h3, if_neg h5, if_neg h6])
              exact ihi d a1 hL
  · skip
    intro d a1 hIi
    have hIi : mDeed1 F a n P j 0 n d a1 = mDeed1 F a n P j n 0 0 a := hIi
    refine v_as (w' := wM cI cZ b F a1) (lv' := [(0, .ref (b 0)), (1, .int (nI j)), (2, .int d), (3, .int (mHas (F 7) (nI j))), (4, .int (mCovered F a n (nI j))), (5, .int (nI n))]) rfl rfl ?_
    obtain ⟨rfl, rfl⟩ : d = (mDeed1 F a n P j n 0 0 a).1 ∧ a1 = (mDeed1 F a n P j n 0 0 a).2 := by rw [← hIi]; exact ⟨rfl, rfl⟩
    refine v_iload C 5 dM_deeds_21 rfl ?_
    refine v_aload_n C 0 dM_deeds_23 rfl rfl ?_
    refine v_get C (T := TcM) (N := 18) (ci := 2) (v := .int (F 9)) inM_deeds_M 0 rfl rfl 9 (by decide) (by decide +kernel) rfl rfl dM_deeds_24 ?_
    refine v_top (y := nI n) hn ?_
    refine v_icmp_ge C dM_deeds_27 (tgt := 87) (by decide) (fun _ => ?_) (fun h => absurd (nI_le (a := n) (b := n) (by omega) (by omega)) h)
    refine v_cut (pj := 110) (wj := wM cI cZ b F ((mSelf F a n P j).2)) (lj := [(0, .ref (b 0)), (1, .int (nI j)), (2, .int ((mSelf F a n P j).1)), (3, .int (mHas (F 7) (nI j))), (4, .int (mCovered F a n (nI j))), (5, .int (nI n))]) ?_ (fun hJ => ?_)
    · skip
      refine v_iconst C (v := 0) dM_deeds_110 (by decide) ?_
      refine v_istore C (lv' := [(0, .ref (b 0)), (1, .int (nI j)), (2, .int ((mSelf F a n P j).1)), (3, .int (mHas (F 7) (nI j))), (4, .int (mCovered F a n (nI j))), (5, .int 0)]) [1, 2, 3, 4, 5, 0] dM_deeds_111 (by decide) rfl ?_
      refine v_loop2 P (fun (jj : Nat) (d : Int32) (a1 : AT) => wM cI cZ b F a1) (fun (jj : Nat) (d : Int32) (a1 : AT) => [(0, .ref (b 0)), (1, .int (nI j)), (2, .int d), (3, .int (mHas (F 7) (nI j))), (4, .int (mCovered F a n (nI j))), (5, .int (nI jj))]) (fun (kjj jj : Nat) (d : Int32) (a1 : AT) => mDeed2 F n P j kjj jj d a1 = mDeed2 F n P j P 0 ((mSelf F a n P j).1) ((mSelf F a n P j).2) ∧ KM a1) ?_ ?_ P 0 ((mSelf F a n P j).1) ((mSelf F a n P j).2) (by omega) ⟨rfl, (mSelf_km hj hK)⟩
      · skip
        intro kjj jj d a1 hkjj hIjj ihjj
        obtain ⟨hIjj, hJjj⟩ := hIjj
        have hIjj : mDeed2 F n P j (kjj + 1) jj d a1 = mDeed2 F n P j P 0 ((mSelf F a n P j).1) ((mSelf F a n P j).2) := hIjj
        refine v_as (w' := wM cI cZ b F a1) (lv' := [(0, .ref (b 0)), (1, .int (nI j)), (2, .int d), (3, .int (mHas (F 7) (nI j))), (4, .int (mCovered F a n (nI j))), (5, .int (nI jj))]) rfl rfl ?_
        refine v_iload C 5 dM_deeds_113 rfl ?_
        refine v_aload_n C 0 dM_deeds_115 rfl rfl ?_
        refine v_get C (T := TcM) (N := 18) (ci := 2) (v := .int (F 0)) inM_deeds_M 0 rfl rfl 0 (by decide) (by decide +kernel) rfl rfl dM_deeds_116 ?_
        refine v_top (y := nI P) hp ?_
        refine v_icmp_ge C dM_deeds_119 (tgt := 174) (by decide) (fun h => absurd h (nI_ge (a := jj) (b := P) (by omega) (by omega))) (fun _ => ?_)
        refine v_aload_n C 0 dM_deeds_122 rfl rfl ?_
        refine v_get C (T := TcM) (N := 18) (ci := 2) (v := .int (F 7)) inM_deeds_M 0 rfl rfl 7 (by decide) (by decide +kernel) rfl rfl dM_deeds_123 ?_
        refine v_iload C 5 dM_deeds_126 rfl ?_
        refine v_cSr0 (As := [.int (F 7), .int (nI jj)]) C (c_mHas l D cI cZ cJ (F 7) (nI jj)) (va_cwS 2 C.2.2.2.2.1 gM_deeds_M_has rfl rfl rfl (by decide +kernel) ⟨Nat.le_of_ble_eq_true rfl, Nat.le_of_ble_eq_true rfl⟩) rfl rfl (Nat.le_of_ble_eq_true rfl) ⟨Nat.zero_le _, Nat.zero_le _⟩ dM_deeds_128 ?_
        refine v_if_eq C dM_deeds_131 (tgt := 144) (by decide) (fun h7 => ?_) (fun h7 => ?_)
        · skip
          refine v_iconst C (v := 0) dM_deeds_144 (by decide) ?_
          refine v_istore C (lv' := [(0, .ref (b 0)), (1, .int (nI j)), (2, .int d), (3, .int (mHas (F 7) (nI j))), (4, .int (mCovered F a n (nI j))), (5, .int (nI jj)), (6, .int 0)]) [1, 2, 3, 4, 5, 6, 0] dM_deeds_145 (by decide) rfl ?_
          refine v_iload C 6 dM_deeds_147 rfl ?_
          refine v_if_eq C dM_deeds_149 (tgt := 168) (by decide) (fun _ => ?_) (fun h => absurd h (by decide))
          refine v_iinc C (v := nI (jj + 1)) (lv' := [(0, .ref (b 0)), (1, .int (nI j)), (2, .int d), (3, .int (mHas (F 7) (nI j))), (4, .int (mCovered F a n (nI j))), (5, .int (nI (jj + 1))), (6, .int 0)]) 5 [1, 2, 3, 4, 5, 0, 6] dM_deeds_168 rfl (nI_1 jj) (by decide) rfl ?_
          refine v_goto C dM_deeds_171 (tgt := 113) (by decide) ?_
          refine v_loc (lv' := [(0, .ref (b 0)), (1, .int (nI j)), (2, .int d), (3, .int (mHas (F 7) (nI j))), (4, .int (mCovered F a n (nI j))), (5, .int (nI (jj + 1)))]) [0, 1, 2, 3, 4, 5] rfl ?_
          have hL : mDeed2 F n P j kjj (jj + 1) d a1 = mDeed2 F n P j P 0 ((mSelf F a n P j).1) ((mSelf F a n P j).2) := (by rw [← hIjj]; simp only [mDeed2]; rw [if_pos h7])
          exact ihjj d a1 ⟨hL, (by first | exact hJjj | exact KM.shown (PreM.good hj (short_pre hJjj hn4 hj (vp_in_nI (by omega) (by decide)) n 0 0 (by omega) PreM.zero)).1 hJjj)⟩
        · skip
          refine v_aload_n C 0 dM_deeds_134 rfl rfl ?_
          refine v_iload_n C 1 dM_deeds_135 rfl rfl ?_
          refine v_iload C 5 dM_deeds_136 rfl ?_
          refine v_cVrF (As := [.int (nI j), .int (nI jj)]) C (c_mShortest l D cI cZ cJ b F a1 n (nI j) (nI jj) hn hn4 (vp_in_nI (by omega) (by decide)) hJjj.rows) (cwV 2 C.2.2.2.2.1 gM_deeds_M_shortest rfl rfl rfl (by decide +kernel) ⟨Nat.le_of_ble_eq_true rfl, Nat.le_of_ble_eq_true rfl⟩) 0 rfl (T := TcM) (N := 18) rfl rfl rfl (Nat.le_of_ble_eq_true rfl) ⟨Nat.zero_le _, Nat.zero_le _⟩ dM_deeds_138 ?_
          refine v_goto C dM_deeds_141 (tgt := 145) (by decide) ?_
          refine v_istore C (lv' := [(0, .ref (b 0)), (1, .int (nI j)), (2, .int d), (3, .int (mHas (F 7) (nI j))), (4, .int (mCovered F a n (nI j))), (5, .int (nI jj)), (6, .int (mShortest F a1 n (nI j) (nI jj)))]) [1, 2, 3, 4, 5, 6, 0] dM_deeds_145 (by decide) rfl ?_
          refine v_iload C 6 dM_deeds_147 rfl ?_
          refine v_if_eq C dM_deeds_149 (tgt := 168) (by decide) (fun h8 => ?_) (fun h8 => ?_)
          · skip
            refine v_iinc C (v := nI (jj + 1)) (lv' := [(0, .ref (b 0)), (1, .int (nI j)), (2, .int d), (3, .int (mHas (F 7) (nI j))), (4, .int (mCovered F a n (nI j))), (5, .int (nI (jj + 1))), (6, .int (mShortest F a1 n (nI j) (nI jj)))]) 5 [1, 2, 3, 4, 5, 0, 6] dM_deeds_168 rfl (nI_1 jj) (by decide) rfl ?_
            refine v_goto C dM_deeds_171 (tgt := 113) (by decide) ?_
            refine v_loc (lv' := [(0, .ref (b 0)), (1, .int (nI j)), (2, .int d), (3, .int (mHas (F 7) (nI j))), (4, .int (mCovered F a n (nI j))), (5, .int (nI (jj + 1)))]) [0, 1, 2, 3, 4, 5] rfl ?_
            have hL : mDeed2 F n P j kjj (jj + 1) d a1 = mDeed2 F n P j P 0 ((mSelf F a n P j).1) ((mSelf F a n P j).2) := (by rw [← hIjj]; simp only [mDeed2]; rw [if_neg h7, if_pos h8])
            exact ihjj d a1 ⟨hL, (by first | exact hJjj | exact KM.shown (PreM.good hj (short_pre hJjj hn4 hj (vp_in_nI (by omega) (by decide)) n 0 0 (by omega) PreM.zero)).1 hJjj)⟩
          · skip
            refine v_iload_n C 2 dM_deeds_152 rfl rfl ?_
            refine v_aload_n C 0 dM_deeds_153 rfl rfl ?_
            refine v_iload_n C 1 dM_deeds_154 rfl rfl ?_
            refine v_iload C 5 dM_deeds_155 rfl ?_
            refine v_iload_n C 1 dM_deeds_157 rfl rfl ?_
            refine v_iload C 6 dM_deeds_158 rfl ?_
            refine v_cSr0 (As := [.int (nI j), .int (mShortest F a1 n (nI j) (nI jj))]) C (c_mBefore l D cI cZ cJ (nI j) (mShortest F a1 n (nI j) (nI jj))) (va_cwS 2 C.2.2.2.2.1 gM_deeds_M_before rfl rfl rfl (by decide +kernel) ⟨Nat.le_of_ble_eq_true rfl, Nat.le_of_ble_eq_true rfl⟩) rfl rfl (Nat.le_of_ble_eq_true rfl) ⟨Nat.zero_le _, Nat.zero_le _⟩ dM_deeds_160 ?_
            refine v_cViF (As := [.int (nI j), .int (nI jj), .int (mBefore (nI j) (mShortest F a1 n (nI j) (nI jj)))]) C (c_mShownBy l D cI cZ cJ b F a1 n (nI j) (nI jj) (mBefore (nI j) (mShortest F a1 n (nI j) (nI jj))) hn hn4 (PreM.good hj (short_pre hJjj hn4 hj (vp_in_nI (by omega) (by decide)) n 0 0 (by omega) PreM.zero)).2) (cwV 3 C.2.2.2.2.1 gM_deeds_M_shownBy rfl rfl rfl (by decide +kernel) ⟨Nat.le_of_ble_eq_true rfl, Nat.le_of_ble_eq_true rfl⟩) 0 rfl (T := TcM) (N := 18) rfl rfl rfl (Nat.le_of_ble_eq_true rfl) ⟨Nat.zero_le _, Nat.zero_le _⟩ dM_deeds_163 ?_
            refine v_iadd C dM_deeds_166 ?_
            refine v_istore_n C (lv' := [(0, .ref (b 0)), (1, .int (nI j)), (2, .int (d + ((mShownBy F a1 n (nI j) (nI jj) (mBefore (nI j) (mShortest F a1 n (nI j) (nI jj)))).1))), (3, .int (mHas (F 7) (nI j))), (4, .int (mCovered F a n (nI j))), (5, .int (nI jj)), (6, .int (mShortest F a1 n (nI j) (nI jj)))]) [1, 2, 0, 3, 4, 5, 6] dM_deeds_167 rfl (by decide) rfl ?_
            refine v_iinc C (v := nI (jj + 1)) (lv' := [(0, .ref (b 0)), (1, .int (nI j)), (2, .int (d + ((mShownBy F a1 n (nI j) (nI jj) (mBefore (nI j) (mShortest F a1 n (nI j) (nI jj)))).1))), (3, .int (mHas (F 7) (nI j))), (4, .int (mCovered F a n (nI j))), (5, .int (nI (jj + 1))), (6, .int (mShortest F a1 n (nI j) (nI jj)))]) 5 [1, 2, 3, 4, 5, 0, 6] dM_deeds_168 rfl (nI_1 jj) (by decide) rfl ?_
            refine v_goto C dM_deeds_171 (tgt := 113) (by decide) ?_
            refine v_loc (lv' := [(0, .ref (b 0)), (1, .int (nI j)), (2, .int (d + ((mShownBy F a1 n (nI j) (nI jj) (mBefore (nI j) (mShortest F a1 n (nI j) (nI jj)))).1))), (3, .int (mHas (F 7) (nI j))), (4, .int (mCovered F a n (nI j))), (5, .int (nI (jj + 1)))]) [0, 1, 2, 3, 4, 5] rfl ?_
            have hL : mDeed2 F n P j kjj (jj + 1) (d + ((mShownBy F a1 n (nI j) (nI jj) (mBefore (nI j) (mShortest F a1 n (nI j) (nI jj)))).1)) ((mShownBy F a1 n (nI j) (nI jj) (mBefore (nI j) (mShortest F a1 n (nI j) (nI jj)))).2) = mDeed2 F n P j P 0 ((mSelf F a n P j).1) ((mSelf F a n P j).2) := (by rw [← hIjj]; simp only [mDeed2]; rw [if_neg h7, if_neg h8])
            exact ihjj (d + ((mShownBy F a1 n (nI j) (nI jj) (mBefore (nI j) (mShortest F a1 n (nI j) (nI jj)))).1)) ((mShownBy F a1 n (nI j) (nI jj) (mBefore (nI j) (mShortest F a1 n (nI j) (nI jj)))).2) ⟨hL, (by first | exact hJjj | exact KM.shown (PreM.good hj (short_pre hJjj hn4 hj (vp_in_nI (by omega) (by decide)) n 0 0 (by omega) PreM.zero)).1 hJjj)⟩
      · skip
        intro d a1 hIjj
        obtain ⟨hIjj, hJjj⟩ := hIjj
        have hIjj : mDeed2 F n P j 0 P d a1 = mDeed2 F n P j P 0 ((mSelf F a n P j).1) ((mSelf F a n P j).2) := hIjj
        refine v_as (w' := wM cI cZ b F a1) (lv' := [(0, .ref (b 0)), (1, .int (nI j)), (2, .int d), (3, .int (mHas (F 7) (nI j))), (4, .int (mCovered F a n (nI j))), (5, .int (nI P))]) rfl rfl ?_
        obtain ⟨rfl, rfl⟩ : d = (mDeed2 F n P j P 0 ((mSelf F a n P j).1) ((mSelf F a n P j).2)).1 ∧ a1 = (mDeed2 F n P j P 0 ((mSelf F a n P j).1) ((mSelf F a n P j).2)).2 := by rw [← hIjj]; exact ⟨rfl, rfl⟩
        refine v_iload C 5 dM_deeds_113 rfl ?_
        refine v_aload_n C 0 dM_deeds_115 rfl rfl ?_
        refine v_get C (T := TcM) (N := 18) (ci := 2) (v := .int (F 0)) inM_deeds_M 0 rfl rfl 0 (by decide) (by decide +kernel) rfl rfl dM_deeds_116 ?_
        refine v_top (y := nI P) hp ?_
        refine v_icmp_ge C dM_deeds_119 (tgt := 174) (by decide) (fun _ => ?_) (fun h => absurd (nI_le (a := P) (b := P) (by omega) (by omega)) h)
        refine v_iconst C (v := 0) dM_deeds_174 (by decide) ?_
        refine v_istore C (lv' := [(0, .ref (b 0)), (1, .int (nI j)), (2, .int ((mDeed2 F n P j P 0 ((mSelf F a n P j).1) ((mSelf F a n P j).2)).1)), (3, .int (mHas (F 7) (nI j))), (4, .int (mCovered F a n (nI j))), (5, .int 0)]) [1, 2, 3, 4, 5, 0] dM_deeds_175 (by decide) rfl ?_
        refine v_loop2 n (fun (i : Nat) (d : Int32) (a1 : AT) => wM cI cZ b F a1) (fun (i : Nat) (d : Int32) (a1 : AT) => [(0, .ref (b 0)), (1, .int (nI j)), (2, .int d), (3, .int (mHas (F 7) (nI j))), (4, .int (mCovered F a n (nI j))), (5, .int (nI i))]) (fun (ki i : Nat) (d : Int32) (a1 : AT) => mDeed3 F n P j ki i d a1 = mDeed3 F n P j n 0 ((mDeed2 F n P j P 0 ((mSelf F a n P j).1) ((mSelf F a n P j).2)).1) ((mDeed2 F n P j P 0 ((mSelf F a n P j).1) ((mSelf F a n P j).2)).2)) ?_ ?_ n 0 ((mDeed2 F n P j P 0 ((mSelf F a n P j).1) ((mSelf F a n P j).2)).1) ((mDeed2 F n P j P 0 ((mSelf F a n P j).1) ((mSelf F a n P j).2)).2) (by omega) rfl
        · skip
          intro ki i d a1 hki hIi ihi
          have hIi : mDeed3 F n P j (ki + 1) i d a1 = mDeed3 F n P j n 0 ((mDeed2 F n P j P 0 ((mSelf F a n P j).1) ((mSelf F a n P j).2)).1) ((mDeed2 F n P j P 0 ((mSelf F a n P j).1) ((mSelf F a n P j).2)).2) := hIi
          refine v_as (w' := wM cI cZ b F a1) (lv' := [(0, .ref (b 0)), (1, .int (nI j)), (2, .int d), (3, .int (mHas (F 7) (nI j))), (4, .int (mCovered F a n (nI j))), (5, .int (nI i))]) rfl rfl ?_
          refine v_iload C 5 dM_deeds_177 rfl ?_
          refine v_aload_n C 0 dM_deeds_179 rfl rfl ?_
          refine v_get C (T := TcM) (N := 18) (ci := 2) (v := .int (F 9)) inM_deeds_M 0 rfl rfl 9 (by decide) (by decide +kernel) rfl rfl dM_deeds_180 ?_
          refine v_top (y := nI n) hn ?_
          refine v_icmp_ge C dM_deeds_183 (tgt := 235) (by decide) (fun h => absurd h (nI_ge (a := i) (b := n) (by omega) (by omega))) (fun _ => ?_)
          refine v_aload_n C 0 dM_deeds_186 rfl rfl ?_
          refine v_get C (T := TcM) (N := 18) (ci := 2) (v := .ref (b 1)) inM_deeds_M 0 rfl rfl 10 (by decide) (by decide +kernel) rfl rfl dM_deeds_187 ?_
          refine v_iload C 5 dM_deeds_190 rfl ?_
          refine v_iald C 1 0 (f := a1 10) (y := (a1 10) i) (j := i) rfl rfl (nI_clamp (by omega)) rfl (vp_in_nI (by omega) (by decide)) dM_deeds_192 ?_
          refine v_iload_n C 1 dM_deeds_193 rfl rfl ?_
          refine v_icmp_ne C dM_deeds_194 (tgt := 229) (by decide) (fun h9 => ?_) (fun h9 => ?_)
          · skip
            refine v_iinc C (v := nI (i + 1)) (lv' := [(0, .ref (b 0)), (1, .int (nI j)), (2, .int d), (3, .int (mHas (F 7) (nI j))), (4, .int (mCovered F a n (nI j))), (5, .int (nI (i + 1)))]) 5 [1, 2, 3, 4, 5, 0] dM_deeds_229 rfl (nI_1 i) (by decide) rfl ?_
            refine v_goto C dM_deeds_232 (tgt := 177) (by decide) ?_
            have hL : mDeed3 F n P j ki (i + 1) d a1 = mDeed3 F n P j n 0 ((mDeed2 F n P j P 0 ((mSelf F a n P j).1) ((mSelf F a n P j).2)).1) ((mDeed2 F n P j P 0 ((mSelf F a n P j).1) ((mSelf F a n P j).2)).2) := (by rw [← hIi]; simp only [mDeed3]; rw [if_neg h9])
            exact ihi d a1 hL
          · skip
            refine v_aload_n C 0 dM_deeds_197 rfl rfl ?_
            refine v_get C (T := TcM) (N := 18) (ci := 2) (v := .ref (b 3)) inM_deeds_M 0 rfl rfl 12 (by decide) (by decide +kernel) rfl rfl dM_deeds_198 ?_
            refine v_iload C 5 dM_deeds_201 rfl ?_
            refine v_iald C 3 0 (f := a1 12) (y := (a1 12) i) (j := i) rfl rfl (nI_clamp (by omega)) rfl (vp_in_nI (by omega) (by decide)) dM_deeds_203 ?_
            refine v_iconst C (v := 1) dM_deeds_204 (by decide) ?_
            refine v_icmp_ne C dM_deeds_205 (tgt := 229) (by decide) (fun h10 => ?_) (fun h10 => ?_)
            · skip
              refine v_iinc C (v := nI (i + 1)) (lv' := [(0, .ref (b 0)), (1, .int (nI j)), (2, .int d), (3, .int (mHas (F 7) (nI j))), (4, .int (mCovered F a n (nI j))), (5, .int (nI (i + 1)))]) 5 [1, 2, 3, 4, 5, 0] dM_deeds_229 rfl (nI_1 i) (by decide) rfl ?_
              refine v_goto C dM_deeds_232 (tgt := 177) (by decide) ?_
              have hL : mDeed3 F n P j ki (i + 1) d a1 = mDeed3 F n P j n 0 ((mDeed2 F n P j P 0 ((mSelf F a n P j).1) ((mSelf F a n P j).2)).1) ((mDeed2 F n P j P 0 ((mSelf F a n P j).1) ((mSelf F a n P j).2)).2) := (by rw [← hIi]; simp only [mDeed3]; rw [if_pos h9, if_neg h10])
              exact ihi d a1 hL
            · skip
              refine v_aload_n C 0 dM_deeds_208 rfl rfl ?_
              refine v_cVrF (As := []) C (c_mIsLate l D cI cZ cJ b F a1) (cwV 0 C.2.2.2.2.1 gM_deeds_M_isLate rfl rfl rfl (by decide +kernel) ⟨Nat.le_of_ble_eq_true rfl, Nat.le_of_ble_eq_true rfl⟩) 0 rfl (T := TcM) (N := 18) rfl rfl rfl (Nat.le_of_ble_eq_true rfl) ⟨Nat.zero_le _, Nat.zero_le _⟩ dM_deeds_209 ?_
              refine v_if_ne C dM_deeds_212 (tgt := 218) (by decide) (fun h11 => ?_) (fun h11 => ?_)
              · skip
                refine v_aload_n C 0 dM_deeds_218 rfl rfl ?_
                refine v_get C (T := TcM) (N := 18) (ci := 2) (v := .ref (b 3)) inM_deeds_M 0 rfl rfl 12 (by decide) (by decide +kernel) rfl rfl dM_deeds_219 ?_
                refine v_iload C 5 dM_deeds_222 rfl ?_
                refine v_iconst C (v := 3) dM_deeds_224 (by decide) ?_
                obtain ⟨zz3, hzz3⟩ : ∃ z9, upd (a1 12) i 3 = z9 := ⟨_, rfl⟩
                refine v_iast C 3 0 (f := a1 12) (j := i) (f1 := zz3) rfl rfl (nI_clamp (by omega)) hzz3 (vp_in_nI (by omega) (by decide)) dM_deeds_225 (w1 := wM cI cZ b F (updA a1 12 zz3)) rfl ?_
                refine v_iinc C (v := d + 1) (lv' := [(0, .ref (b 0)), (1, .int (nI j)), (2, .int (d + 1)), (3, .int (mHas (F 7) (nI j))), (4, .int (mCovered F a n (nI j))), (5, .int (nI i))]) 2 [1, 2, 0, 3, 4, 5] dM_deeds_226 rfl rfl (by decide) rfl ?_
                refine v_iinc C (v := nI (i + 1)) (lv' := [(0, .ref (b 0)), (1, .int (nI j)), (2, .int (d + 1)), (3, .int (mHas (F 7) (nI j))), (4, .int (mCovered F a n (nI j))), (5, .int (nI (i + 1)))]) 5 [1, 2, 3, 4, 5, 0] dM_deeds_229 rfl (nI_1 i) (by decide) rfl ?_
                refine v_goto C dM_deeds_232 (tgt := 177) (by decide) ?_
                have hL : mDeed3 F n P j ki (i + 1) (d + 1) (updA a1 12 zz3) = mDeed3 F n P j n 0 ((mDeed2 F n P j P 0 ((mSelf F a n P j).1) ((mSelf F a n P j).2)).1) ((mDeed2 F n P j P 0 ((mSelf F a n P j).1) ((mSelf F a n P j).2)).2) := (by rw [← hIi]; simp only [mDeed3]; rw [hzz3, if_pos h9, if_pos h10, if_neg h11])
                exact ihi (d + 1) (updA a1 12 zz3) hL
              · skip
                refine v_goto C dM_deeds_215 (tgt := 229) (by decide) ?_
                refine v_iinc C (v := nI (i + 1)) (lv' := [(0, .ref (b 0)), (1, .int (nI j)), (2, .int d), (3, .int (mHas (F 7) (nI j))), (4, .int (mCovered F a n (nI j))), (5, .int (nI (i + 1)))]) 5 [1, 2, 3, 4, 5, 0] dM_deeds_229 rfl (nI_1 i) (by decide) rfl ?_
                refine v_goto C dM_deeds_232 (tgt := 177) (by decide) ?_
                have hL : mDeed3 F n P j ki (i + 1) d a1 = mDeed3 F n P j n 0 ((mDeed2 F n P j P 0 ((mSelf F a n P j).1) ((mSelf F a n P j).2)).1) ((mDeed2 F n P j P 0 ((mSelf F a n P j).1) ((mSelf F a n P j).2)).2) := (by rw [← hIi]; simp only [mDeed3]; rw [if_pos h9, if_pos h10, if_pos h11])
                exact ihi d a1 hL
        · skip
          intro d a1 hIi
          have hIi : mDeed3 F n P j 0 n d a1 = mDeed3 F n P j n 0 ((mDeed2 F n P j P 0 ((mSelf F a n P j).1) ((mSelf F a n P j).2)).1) ((mDeed2 F n P j P 0 ((mSelf F a n P j).1) ((mSelf F a n P j).2)).2) := hIi
          refine v_as (w' := wM cI cZ b F a1) (lv' := [(0, .ref (b 0)), (1, .int (nI j)), (2, .int d), (3, .int (mHas (F 7) (nI j))), (4, .int (mCovered F a n (nI j))), (5, .int (nI n))]) rfl rfl ?_
          obtain ⟨rfl, rfl⟩ : d = (mDeed3 F n P j n 0 ((mDeed2 F n P j P 0 ((mSelf F a n P j).1) ((mSelf F a n P j).2)).1) ((mDeed2 F n P j P 0 ((mSelf F a n P j).1) ((mSelf F a n P j).2)).2)).1 ∧ a1 = (mDeed3 F n P j n 0 ((mDeed2 F n P j P 0 ((mSelf F a n P j).1) ((mSelf F a n P j).2)).1) ((mDeed2 F n P j P 0 ((mSelf F a n P j).1) ((mSelf F a n P j).2)).2)).2 := by rw [← hIi]; exact ⟨rfl, rfl⟩
          refine v_iload C 5 dM_deeds_177 rfl ?_
          refine v_aload_n C 0 dM_deeds_179 rfl rfl ?_
          refine v_get C (T := TcM) (N := 18) (ci := 2) (v := .int (F 9)) inM_deeds_M 0 rfl rfl 9 (by decide) (by decide +kernel) rfl rfl dM_deeds_180 ?_
          refine v_top (y := nI n) hn ?_
          refine v_icmp_ge C dM_deeds_183 (tgt := 235) (by decide) (fun _ => ?_) (fun h => absurd (nI_le (a := n) (b := n) (by omega) (by omega)) h)
          refine v_iload_n C 2 dM_deeds_235 rfl rfl ?_
          have hE : ((mDeed3 F n P j n 0 ((mDeed2 F n P j P 0 ((mSelf F a n P j).1) ((mSelf F a n P j).2)).1) ((mDeed2 F n P j P 0 ((mSelf F a n P j).1) ((mSelf F a n P j).2)).2)).1, (mDeed3 F n P j n 0 ((mDeed2 F n P j P 0 ((mSelf F a n P j).1) ((mSelf F a n P j).2)).1) ((mDeed2 F n P j P 0 ((mSelf F a n P j).1) ((mSelf F a n P j).2)).2)).2) = mDeeds F a n P j := (by unfold mDeeds; rfl)
          exact v_iret C hr (by rw [← hE]) (by rw [← hE]) dM_deeds_236
    · skip
      refine v_iload_n C 3 dM_deeds_87 rfl rfl ?_
      refine v_if_eq C dM_deeds_88 (tgt := 110) (by decide) (fun h12 => ?_) (fun h12 => ?_)
      · skip
        have hE : mSelf F a n P j = ((mDeed1 F a n P j n 0 0 a).1, (mDeed1 F a n P j n 0 0 a).2) := by unfold mSelf; rw [if_pos h12]
        rw [hE] at hJ
        exact hJ
      · skip
        refine v_iload C 4 dM_deeds_91 rfl ?_
        refine v_if_eq C dM_deeds_93 (tgt := 110) (by decide) (fun h13 => ?_) (fun h13 => ?_)
        · skip
          have hE : mSelf F a n P j = ((mDeed1 F a n P j n 0 0 a).1, (mDeed1 F a n P j n 0 0 a).2) := by unfold mSelf; rw [if_neg h12, if_pos h13]
          rw [hE] at hJ
          exact hJ
        · skip
          refine v_iload_n C 2 dM_deeds_96 rfl rfl ?_
          refine v_aload_n C 0 dM_deeds_97 rfl rfl ?_
          refine v_iload_n C 1 dM_deeds_98 rfl rfl ?_
          refine v_iload_n C 1 dM_deeds_99 rfl rfl ?_
          refine v_iload_n C 1 dM_deeds_100 rfl rfl ?_
          refine v_iconst C (v := 0) dM_deeds_101 (by decide) ?_
          refine v_cSr0 (As := [.int (nI j), .int 0]) C (c_mBefore l D cI cZ cJ (nI j) 0) (va_cwS 2 C.2.2.2.2.1 gM_deeds_M_before rfl rfl rfl (by decide +kernel) ⟨Nat.le_of_ble_eq_true rfl, Nat.le_of_ble_eq_true rfl⟩) rfl rfl (Nat.le_of_ble_eq_true rfl) ⟨Nat.zero_le _, Nat.zero_le _⟩ dM_deeds_102 ?_
          refine v_cViF (As := [.int (nI j), .int (nI j), .int (mBefore (nI j) 0)]) C (c_mShownBy l D cI cZ cJ b F ((mDeed1 F a n P j n 0 0 a).2) n (nI j) (nI j) (mBefore (nI j) 0) hn hn4 (PreM.good hj PreM.zero).2) (cwV 3 C.2.2.2.2.1 gM_deeds_M_shownBy rfl rfl rfl (by decide +kernel) ⟨Nat.le_of_ble_eq_true rfl, Nat.le_of_ble_eq_true rfl⟩) 0 rfl (T := TcM) (N := 18) rfl rfl rfl (Nat.le_of_ble_eq_true rfl) ⟨Nat.zero_le _, Nat.zero_le _⟩ dM_deeds_105 ?_
          refine v_iadd C dM_deeds_108 ?_
          refine v_istore_n C (lv' := [(0, .ref (b 0)), (1, .int (nI j)), (2, .int (((mDeed1 F a n P j n 0 0 a).1) + ((mShownBy F ((mDeed1 F a n P j n 0 0 a).2) n (nI j) (nI j) (mBefore (nI j) 0)).1))), (3, .int (mHas (F 7) (nI j))), (4, .int (mCovered F a n (nI j))), (5, .int (nI n))]) [1, 2, 0, 3, 4, 5] dM_deeds_109 rfl (by decide) rfl ?_
          have hE : mSelf F a n P j = (((mDeed1 F a n P j n 0 0 a).1) + ((mShownBy F ((mDeed1 F a n P j n 0 0 a).2) n (nI j) (nI j) (mBefore (nI j) 0)).1), (mShownBy F ((mDeed1 F a n P j n 0 0 a).2) n (nI j) (nI j) (mBefore (nI j) 0)).2) := by unfold mSelf; rw [if_neg h12, if_neg h13]
          rw [hE] at hJ
          exact hJ
end
section
theorem partyM_self {F : FT} {a : AT} {x : Int32} {P : Nat} (h : ¬ mIsParty F a x = 0) (hp : F 0 = nI P) (hp6 : P ≤ 6) : x = nI x.toNatClampNeg ∧ x.toNatClampNeg < P := by
  obtain ⟨j, hj, rfl⟩ := partyM_nat h hp hp6
  rw [nI_clamp (by omega)]
  exact ⟨rfl, hj⟩
theorem times_self {x : Int32} (h0 : ¬ x < 0) (h1 : x ≤ 40) : x = nI x.toNatClampNeg ∧ x.toNatClampNeg ≤ 40 := by
  obtain ⟨j, hj, rfl⟩ := nI_of2 (M := 40) (n := 40) (by decide) h0 h1
  rw [nI_clamp (by omega)]
  exact ⟨rfl, hj⟩
theorem deed2_km {F : FT} {n P j : Nat} (hn4 : n ≤ 14) (hp6 : P ≤ 6) (hj : j < 6) : ∀ (k i : Nat) (d : Int32) (a : AT), i + k = P → KM a → KM (mDeed2 F n P j k i d a).2 := by
  intro k
  induction k with
  | zero => intro i d a _ h; exact h
  | succ k ih =>
    intro i d a hi h
    simp only [mDeed2]
    split
    · exact ih _ _ _ (by omega) h
    · split
      · exact ih _ _ _ (by omega) h
      · exact ih _ _ _ (by omega) (KM.shown (PreM.good hj (short_pre h hn4 hj (vp_in_nI (by omega) (by decide)) n 0 0 (by omega) PreM.zero)).1 h)
theorem deed3_km {F : FT} {n P j : Nat} : ∀ (k i : Nat) (d : Int32) (a : AT), KM a → KM (mDeed3 F n P j k i d a).2 := by
  intro k
  induction k with
  | zero => intro i d a h; exact h
  | succ k ih =>
    intro i d a h
    simp only [mDeed3]
    repeat' split
    all_goals exact ih _ _ _ h
theorem KM.deeds {F : FT} {a : AT} {n P j : Nat} (hn4 : n ≤ 14) (hp6 : P ≤ 6) (hj : j < 6) (h : KM a) : KM (mDeeds F a n P j).2 := by
  unfold mDeeds
  exact deed3_km n 0 _ _ (deed2_km hn4 hp6 hj P 0 _ _ (by omega) (mSelf_km hj h))
theorem path_pos {F : FT} {a : AT} {mm : Nat} {x : Int32} (h : ¬ mIsPath F a mm x = 0) : 1 ≤ mm := by
  unfold mIsPath at h
  by_cases h0 : nI mm = 0
  · rw [if_pos h0] at h; exact absurd rfl h
  · exact nI_pos1 h0
theorem vp_key4 {x y : Int32} (hx : vp_in x 14) (hl : vp_in y 6) : vp_in ((6 : Int32) * x + y) 84 := by
  obtain ⟨i, hi, rfl⟩ := vp_in_of hx (by decide)
  exact vp_key3 hi hl
end
section
def mAct (F : FT) (a : AT) (n : Nat) (P : Nat) (x : Int32) : Int32 × FT × AT :=
  if (mIsParty (upd F 2 0) a x) = 0 then
    ((mFail (upd F 2 0) a 1).1, (mFail (upd F 2 0) a 1).2, a)
  else
    if (F 4) = 0 then
      ((mFail (upd F 2 0) a 2).1, (mFail (upd F 2 0) a 2).2, a)
    else
      if (mHas (F 8) x) = 0 then
        ((mDeeds (upd F 2 0) a n P x.toNatClampNeg).1, upd F 2 0, (mDeeds (upd F 2 0) a n P x.toNatClampNeg).2)
      else
        ((mFail (upd F 2 0) a 3).1, (mFail (upd F 2 0) a 3).2, a)
def mRunI (F : FT) (n : Nat) (P : Nat) (x : Int32) (t : Int32) : Nat → Nat → Int32 → AT → Int32 × AT
  | 0, pp, d2, a2 => (d2, a2)
  | kpp + 1, pp, d2, a2 => if (F 4) = 0 then
      (d2, a2)
    else
      if (mHas (F 8) (nI pp)) = 0 then
        mRunI F n P x t kpp (pp + 1) (d2 + ((mDeeds (upd (upd F 2 0) 3 t) a2 n P pp).1)) ((mDeeds (upd (upd F 2 0) 3 t) a2 n P pp).2)
      else
        mRunI F n P x t kpp (pp + 1) (d2 + (0 : Int32)) a2
def mRunL (F : FT) (n : Nat) (P : Nat) (x : Int32) : Nat → Nat → Int32 → Int32 → AT → Int32 × Int32 × AT
  | 0, rr, d, t, a1 => (d, t, a1)
  | krr + 1, rr, d, t, a1 => mRunL F n P x krr (rr + 1) ((mRunI F n P x t P 0 d a1).1) (t + (1 : Int32)) ((mRunI F n P x t P 0 d a1).2)
def mRun (F : FT) (a : AT) (n : Nat) (P : Nat) (x : Int32) : Int32 × FT × AT :=
  if x < 0 then
    ((mFail (upd F 2 0) a 1).1, (mFail (upd F 2 0) a 1).2, a)
  else
    if x ≤ 40 then
      ((mRunL F n P x x.toNatClampNeg 0 0 (F 3) a).1, upd (upd F 2 0) 3 ((mRunL F n P x x.toNatClampNeg 0 0 (F 3) a).2.1), (mRunL F n P x x.toNatClampNeg 0 0 (F 3) a).2.2)
    else
      ((mFail (upd F 2 0) a 1).1, (mFail (upd F 2 0) a 1).2, a)
def mShow (F : FT) (a : AT) (n : Nat) (mm : Nat) (x : Int32) : Int32 × FT × AT :=
  if (mIsArc (upd F 2 0) a x) = 0 then
    ((mFail (upd F 2 0) a 1).1, (mFail (upd F 2 0) a 1).2, a)
  else
    if (mIsPath (upd F 2 0) a mm ((a 11) x.toNatClampNeg)) = 0 then
      ((mFail (upd F 2 0) a 2).1, (mFail (upd F 2 0) a 2).2, a)
    else
      if (F 4) = 0 then
        ((mFail (upd F 2 0) a 3).1, (mFail (upd F 2 0) a 3).2, a)
      else
        if ((a 12) x.toNatClampNeg) = 1 then
          if (mHas ((a 13) x.toNatClampNeg) (mMember (F 17) ((mMany (F 17)) - (1 : Int32)))) = 0 then
            if (mIsInTime (upd F 2 0) a ((mMany (F 17)) - (1 : Int32))) = 0 then
              ((mFail (upd F 2 0) a 4).1, (mFail (upd F 2 0) a 4).2, a)
            else
              if (mIsKnown (upd F 2 0) a mm n) = 0 then
                ((mFail (upd F 2 0) a 4).1, (mFail (upd F 2 0) a 4).2, a)
              else
                (mSize (((mUnlock (upd F 2 0) a x (F 17)) 13) x.toNatClampNeg), upd (upd F 2 0) 17 0, (mUnlock (upd F 2 0) a x (F 17)))
          else
            ((mFail (upd F 2 0) a 3).1, (mFail (upd F 2 0) a 3).2, a)
        else
          ((mFail (upd F 2 0) a 3).1, (mFail (upd F 2 0) a 3).2, a)
theorem dM_act_0 : decode bM_act 0 = .ok (.aload_n 0, 1) := by decide +kernel
theorem dM_act_1 : decode bM_act 1 = .ok (.iconst 0, 1) := by decide +kernel
theorem dM_act_2 : decode bM_act 2 = .ok (.putfield 39, 3) := by decide +kernel
theorem dM_act_5 : decode bM_act 5 = .ok (.aload_n 0, 1) := by decide +kernel
theorem dM_act_6 : decode bM_act 6 = .ok (.iload_n 1, 1) := by decide +kernel
theorem dM_act_7 : decode bM_act 7 = .ok (.invokevirtual 45, 3) := by decide +kernel
theorem dM_act_10 : decode bM_act 10 = .ok (.ifCond .ne 9, 3) := by decide +kernel
theorem dM_act_13 : decode bM_act 13 = .ok (.aload_n 0, 1) := by decide +kernel
theorem dM_act_14 : decode bM_act 14 = .ok (.iconst 1, 1) := by decide +kernel
theorem dM_act_15 : decode bM_act 15 = .ok (.invokevirtual 53, 3) := by decide +kernel
theorem dM_act_18 : decode bM_act 18 = .ok (.ireturn, 1) := by decide +kernel
theorem dM_act_19 : decode bM_act 19 = .ok (.aload_n 0, 1) := by decide +kernel
theorem dM_act_20 : decode bM_act 20 = .ok (.getfield 57, 3) := by decide +kernel
theorem dM_act_23 : decode bM_act 23 = .ok (.ifCond .ne 9, 3) := by decide +kernel
theorem dM_act_26 : decode bM_act 26 = .ok (.aload_n 0, 1) := by decide +kernel
theorem dM_act_27 : decode bM_act 27 = .ok (.iconst 2, 1) := by decide +kernel
theorem dM_act_28 : decode bM_act 28 = .ok (.invokevirtual 53, 3) := by decide +kernel
theorem dM_act_31 : decode bM_act 31 = .ok (.ireturn, 1) := by decide +kernel
theorem dM_act_32 : decode bM_act 32 = .ok (.aload_n 0, 1) := by decide +kernel
theorem dM_act_33 : decode bM_act 33 = .ok (.getfield 124, 3) := by decide +kernel
theorem dM_act_36 : decode bM_act 36 = .ok (.iload_n 1, 1) := by decide +kernel
theorem dM_act_37 : decode bM_act 37 = .ok (.invokestatic 49, 3) := by decide +kernel
theorem dM_act_40 : decode bM_act 40 = .ok (.ifCond .eq 11, 3) := by decide +kernel
theorem dM_act_43 : decode bM_act 43 = .ok (.aload_n 0, 1) := by decide +kernel
theorem dM_act_44 : decode bM_act 44 = .ok (.iconst 3, 1) := by decide +kernel
theorem dM_act_45 : decode bM_act 45 = .ok (.invokevirtual 53, 3) := by decide +kernel
theorem dM_act_48 : decode bM_act 48 = .ok (.goto 8, 3) := by decide +kernel
theorem dM_act_51 : decode bM_act 51 = .ok (.aload_n 0, 1) := by decide +kernel
theorem dM_act_52 : decode bM_act 52 = .ok (.iload_n 1, 1) := by decide +kernel
theorem dM_act_53 : decode bM_act 53 = .ok (.invokevirtual 127, 3) := by decide +kernel
theorem dM_act_56 : decode bM_act 56 = .ok (.ireturn, 1) := by decide +kernel
theorem dM_run_0 : decode bM_run 0 = .ok (.aload_n 0, 1) := by decide +kernel
theorem dM_run_1 : decode bM_run 1 = .ok (.iconst 0, 1) := by decide +kernel
theorem dM_run_2 : decode bM_run 2 = .ok (.putfield 39, 3) := by decide +kernel
theorem dM_run_5 : decode bM_run 5 = .ok (.iload_n 1, 1) := by decide +kernel
theorem dM_run_6 : decode bM_run 6 = .ok (.ifCond .lt 9, 3) := by decide +kernel
theorem dM_run_9 : decode bM_run 9 = .ok (.iload_n 1, 1) := by decide +kernel
theorem dM_run_10 : decode bM_run 10 = .ok (.bipush 40, 2) := by decide +kernel
theorem dM_run_12 : decode bM_run 12 = .ok (.if_icmp .le 9, 3) := by decide +kernel
theorem dM_run_15 : decode bM_run 15 = .ok (.aload_n 0, 1) := by decide +kernel
theorem dM_run_16 : decode bM_run 16 = .ok (.iconst 1, 1) := by decide +kernel
theorem dM_run_17 : decode bM_run 17 = .ok (.invokevirtual 53, 3) := by decide +kernel
theorem dM_run_20 : decode bM_run 20 = .ok (.ireturn, 1) := by decide +kernel
theorem dM_run_21 : decode bM_run 21 = .ok (.iconst 0, 1) := by decide +kernel
theorem dM_run_22 : decode bM_run 22 = .ok (.istore_n 2, 1) := by decide +kernel
theorem dM_run_23 : decode bM_run 23 = .ok (.iconst 0, 1) := by decide +kernel
theorem dM_run_24 : decode bM_run 24 = .ok (.istore_n 3, 1) := by decide +kernel
theorem dM_run_25 : decode bM_run 25 = .ok (.iload_n 3, 1) := by decide +kernel
theorem dM_run_26 : decode bM_run 26 = .ok (.iload_n 1, 1) := by decide +kernel
theorem dM_run_27 : decode bM_run 27 = .ok (.if_icmp .ge 69, 3) := by decide +kernel
theorem dM_run_30 : decode bM_run 30 = .ok (.iconst 0, 1) := by decide +kernel
theorem dM_run_31 : decode bM_run 31 = .ok (.istore 4, 2) := by decide +kernel
theorem dM_run_33 : decode bM_run 33 = .ok (.iload 4, 2) := by decide +kernel
theorem dM_run_35 : decode bM_run 35 = .ok (.aload_n 0, 1) := by decide +kernel
theorem dM_run_36 : decode bM_run 36 = .ok (.getfield 32, 3) := by decide +kernel
theorem dM_run_39 : decode bM_run 39 = .ok (.if_icmp .ge 41, 3) := by decide +kernel
theorem dM_run_42 : decode bM_run 42 = .ok (.aload_n 0, 1) := by decide +kernel
theorem dM_run_43 : decode bM_run 43 = .ok (.getfield 57, 3) := by decide +kernel
theorem dM_run_46 : decode bM_run 46 = .ok (.ifCond .eq 34, 3) := by decide +kernel
theorem dM_run_49 : decode bM_run 49 = .ok (.iload_n 2, 1) := by decide +kernel
theorem dM_run_50 : decode bM_run 50 = .ok (.aload_n 0, 1) := by decide +kernel
theorem dM_run_51 : decode bM_run 51 = .ok (.getfield 124, 3) := by decide +kernel
theorem dM_run_54 : decode bM_run 54 = .ok (.iload 4, 2) := by decide +kernel
theorem dM_run_56 : decode bM_run 56 = .ok (.invokestatic 49, 3) := by decide +kernel
theorem dM_run_59 : decode bM_run 59 = .ok (.ifCond .eq 7, 3) := by decide +kernel
theorem dM_run_62 : decode bM_run 62 = .ok (.iconst 0, 1) := by decide +kernel
theorem dM_run_63 : decode bM_run 63 = .ok (.goto 9, 3) := by decide +kernel
theorem dM_run_66 : decode bM_run 66 = .ok (.aload_n 0, 1) := by decide +kernel
theorem dM_run_67 : decode bM_run 67 = .ok (.iload 4, 2) := by decide +kernel
theorem dM_run_69 : decode bM_run 69 = .ok (.invokevirtual 127, 3) := by decide +kernel
theorem dM_run_72 : decode bM_run 72 = .ok (.iadd, 1) := by decide +kernel
theorem dM_run_73 : decode bM_run 73 = .ok (.istore_n 2, 1) := by decide +kernel
theorem dM_run_74 : decode bM_run 74 = .ok (.iinc 4 1, 3) := by decide +kernel
theorem dM_run_77 : decode bM_run 77 = .ok (.goto (-44), 3) := by decide +kernel
theorem dM_run_80 : decode bM_run 80 = .ok (.aload_n 0, 1) := by decide +kernel
theorem dM_run_81 : decode bM_run 81 = .ok (.dup, 1) := by decide +kernel
theorem dM_run_82 : decode bM_run 82 = .ok (.getfield 70, 3) := by decide +kernel
theorem dM_run_85 : decode bM_run 85 = .ok (.iconst 1, 1) := by decide +kernel
theorem dM_run_86 : decode bM_run 86 = .ok (.iadd, 1) := by decide +kernel
theorem dM_run_87 : decode bM_run 87 = .ok (.putfield 70, 3) := by decide +kernel
theorem dM_run_90 : decode bM_run 90 = .ok (.iinc 3 1, 3) := by decide +kernel
theorem dM_run_93 : decode bM_run 93 = .ok (.goto (-68), 3) := by decide +kernel
theorem dM_run_96 : decode bM_run 96 = .ok (.iload_n 2, 1) := by decide +kernel
theorem dM_run_97 : decode bM_run 97 = .ok (.ireturn, 1) := by decide +kernel
theorem dM_show_0 : decode bM_show 0 = .ok (.aload_n 0, 1) := by decide +kernel
theorem dM_show_1 : decode bM_show 1 = .ok (.iconst 0, 1) := by decide +kernel
theorem dM_show_2 : decode bM_show 2 = .ok (.putfield 39, 3) := by decide +kernel
theorem dM_show_5 : decode bM_show 5 = .ok (.aload_n 0, 1) := by decide +kernel
theorem dM_show_6 : decode bM_show 6 = .ok (.iload_n 1, 1) := by decide +kernel
theorem dM_show_7 : decode bM_show 7 = .ok (.invokevirtual 130, 3) := by decide +kernel
theorem dM_show_10 : decode bM_show 10 = .ok (.ifCond .ne 9, 3) := by decide +kernel
theorem dM_show_13 : decode bM_show 13 = .ok (.aload_n 0, 1) := by decide +kernel
theorem dM_show_14 : decode bM_show 14 = .ok (.iconst 1, 1) := by decide +kernel
theorem dM_show_15 : decode bM_show 15 = .ok (.invokevirtual 53, 3) := by decide +kernel
theorem dM_show_18 : decode bM_show 18 = .ok (.ireturn, 1) := by decide +kernel
theorem dM_show_19 : decode bM_show 19 = .ok (.aload_n 0, 1) := by decide +kernel
theorem dM_show_20 : decode bM_show 20 = .ok (.aload_n 0, 1) := by decide +kernel
theorem dM_show_21 : decode bM_show 21 = .ok (.getfield 13, 3) := by decide +kernel
theorem dM_show_24 : decode bM_show 24 = .ok (.iload_n 1, 1) := by decide +kernel
theorem dM_show_25 : decode bM_show 25 = .ok (.iaload, 1) := by decide +kernel
theorem dM_show_26 : decode bM_show 26 = .ok (.invokevirtual 139, 3) := by decide +kernel
theorem dM_show_29 : decode bM_show 29 = .ok (.ifCond .ne 9, 3) := by decide +kernel
theorem dM_show_32 : decode bM_show 32 = .ok (.aload_n 0, 1) := by decide +kernel
theorem dM_show_33 : decode bM_show 33 = .ok (.iconst 2, 1) := by decide +kernel
theorem dM_show_34 : decode bM_show 34 = .ok (.invokevirtual 53, 3) := by decide +kernel
theorem dM_show_37 : decode bM_show 37 = .ok (.ireturn, 1) := by decide +kernel
theorem dM_show_38 : decode bM_show 38 = .ok (.aload_n 0, 1) := by decide +kernel
theorem dM_show_39 : decode bM_show 39 = .ok (.getfield 57, 3) := by decide +kernel
theorem dM_show_42 : decode bM_show 42 = .ok (.ifCond .eq 41, 3) := by decide +kernel
theorem dM_show_45 : decode bM_show 45 = .ok (.aload_n 0, 1) := by decide +kernel
theorem dM_show_46 : decode bM_show 46 = .ok (.getfield 16, 3) := by decide +kernel
theorem dM_show_49 : decode bM_show 49 = .ok (.iload_n 1, 1) := by decide +kernel
theorem dM_show_50 : decode bM_show 50 = .ok (.iaload, 1) := by decide +kernel
theorem dM_show_51 : decode bM_show 51 = .ok (.iconst 1, 1) := by decide +kernel
theorem dM_show_52 : decode bM_show 52 = .ok (.if_icmp .ne 31, 3) := by decide +kernel
theorem dM_show_55 : decode bM_show 55 = .ok (.aload_n 0, 1) := by decide +kernel
theorem dM_show_56 : decode bM_show 56 = .ok (.getfield 19, 3) := by decide +kernel
theorem dM_show_59 : decode bM_show 59 = .ok (.iload_n 1, 1) := by decide +kernel
theorem dM_show_60 : decode bM_show 60 = .ok (.iaload, 1) := by decide +kernel
theorem dM_show_61 : decode bM_show 61 = .ok (.aload_n 0, 1) := by decide +kernel
theorem dM_show_62 : decode bM_show 62 = .ok (.getfield 133, 3) := by decide +kernel
theorem dM_show_65 : decode bM_show 65 = .ok (.aload_n 0, 1) := by decide +kernel
theorem dM_show_66 : decode bM_show 66 = .ok (.getfield 133, 3) := by decide +kernel
theorem dM_show_69 : decode bM_show 69 = .ok (.invokestatic 89, 3) := by decide +kernel
theorem dM_show_72 : decode bM_show 72 = .ok (.iconst 1, 1) := by decide +kernel
theorem dM_show_73 : decode bM_show 73 = .ok (.isub, 1) := by decide +kernel
theorem dM_show_74 : decode bM_show 74 = .ok (.invokestatic 92, 3) := by decide +kernel
theorem dM_show_77 : decode bM_show 77 = .ok (.invokestatic 49, 3) := by decide +kernel
theorem dM_show_80 : decode bM_show 80 = .ok (.ifCond .eq 9, 3) := by decide +kernel
theorem dM_show_83 : decode bM_show 83 = .ok (.aload_n 0, 1) := by decide +kernel
theorem dM_show_84 : decode bM_show 84 = .ok (.iconst 3, 1) := by decide +kernel
theorem dM_show_85 : decode bM_show 85 = .ok (.invokevirtual 53, 3) := by decide +kernel
theorem dM_show_88 : decode bM_show 88 = .ok (.ireturn, 1) := by decide +kernel
theorem dM_show_89 : decode bM_show 89 = .ok (.aload_n 0, 1) := by decide +kernel
theorem dM_show_90 : decode bM_show 90 = .ok (.aload_n 0, 1) := by decide +kernel
theorem dM_show_91 : decode bM_show 91 = .ok (.getfield 133, 3) := by decide +kernel
theorem dM_show_94 : decode bM_show 94 = .ok (.invokestatic 89, 3) := by decide +kernel
theorem dM_show_97 : decode bM_show 97 = .ok (.iconst 1, 1) := by decide +kernel
theorem dM_show_98 : decode bM_show 98 = .ok (.isub, 1) := by decide +kernel
theorem dM_show_99 : decode bM_show 99 = .ok (.invokevirtual 114, 3) := by decide +kernel
theorem dM_show_102 : decode bM_show 102 = .ok (.ifCond .eq 10, 3) := by decide +kernel
theorem dM_show_105 : decode bM_show 105 = .ok (.aload_n 0, 1) := by decide +kernel
theorem dM_show_106 : decode bM_show 106 = .ok (.invokevirtual 142, 3) := by decide +kernel
theorem dM_show_109 : decode bM_show 109 = .ok (.ifCond .ne 9, 3) := by decide +kernel
theorem dM_show_112 : decode bM_show 112 = .ok (.aload_n 0, 1) := by decide +kernel
theorem dM_show_113 : decode bM_show 113 = .ok (.iconst 4, 1) := by decide +kernel
theorem dM_show_114 : decode bM_show 114 = .ok (.invokevirtual 53, 3) := by decide +kernel
theorem dM_show_117 : decode bM_show 117 = .ok (.ireturn, 1) := by decide +kernel
theorem dM_show_118 : decode bM_show 118 = .ok (.aload_n 0, 1) := by decide +kernel
theorem dM_show_119 : decode bM_show 119 = .ok (.iload_n 1, 1) := by decide +kernel
theorem dM_show_120 : decode bM_show 120 = .ok (.aload_n 0, 1) := by decide +kernel
theorem dM_show_121 : decode bM_show 121 = .ok (.getfield 133, 3) := by decide +kernel
theorem dM_show_124 : decode bM_show 124 = .ok (.invokevirtual 117, 3) := by decide +kernel
theorem dM_show_127 : decode bM_show 127 = .ok (.aload_n 0, 1) := by decide +kernel
theorem dM_show_128 : decode bM_show 128 = .ok (.iconst 0, 1) := by decide +kernel
theorem dM_show_129 : decode bM_show 129 = .ok (.putfield 133, 3) := by decide +kernel
theorem dM_show_132 : decode bM_show 132 = .ok (.aload_n 0, 1) := by decide +kernel
theorem dM_show_133 : decode bM_show 133 = .ok (.getfield 19, 3) := by decide +kernel
theorem dM_show_136 : decode bM_show 136 = .ok (.iload_n 1, 1) := by decide +kernel
theorem dM_show_137 : decode bM_show 137 = .ok (.iaload, 1) := by decide +kernel
theorem dM_show_138 : decode bM_show 138 = .ok (.invokestatic 61, 3) := by decide +kernel
theorem dM_show_141 : decode bM_show 141 = .ok (.ireturn, 1) := by decide +kernel
theorem inM_act_M : ∀ x ∈ u_ws RcM TcM 18, x ∈ wM_act := by decide +kernel
set_option maxRecDepth 20000 in
theorem gM_act_M_isParty : GoodIn wM_act (wsV RcM 45 RcM yM_isParty wM_isParty) := goodIn_app (goodIn_of _ (by decide +kernel)) (goodIn_r _ [16, 17, 69, 70, 71, 72, 73, 74, 75, 76, 77, 78, 79, 80, 81, 82, 83, 84, 85, 86] (by decide +kernel) (by decide +kernel))
set_option maxRecDepth 20000 in
theorem gM_act_M_has : GoodIn wM_act (va_wsS RcM 49 yM_has wM_has) := goodIn_app (goodIn_of _ (by decide +kernel)) (goodIn_r _ [19] (by decide +kernel) (by decide +kernel))
set_option maxRecDepth 20000 in
theorem gM_act_M_deeds : GoodIn wM_act (wsV RcM 127 RcM yM_deeds wM_deeds) := goodIn_app (goodIn_of _ (by decide +kernel)) (goodIn_r _ [20, 21, 11, 12, 5, 22, 23, 24, 25, 26, 27, 28, 29, 30, 31, 32, 33, 34, 35, 17, 36, 37, 38, 19, 39, 40, 41, 42, 43, 44, 45, 46, 47, 48, 49, 50, 51, 52, 53, 54, 55, 56, 57, 58, 59, 60, 61, 62, 63, 64, 65, 66, 67, 68, 69, 70, 71, 72, 73, 74, 75, 76, 77, 78, 79, 80, 81, 82, 83, 84, 85, 86] (by decide +kernel) (by decide +kernel))
set_option maxRecDepth 20000 in
theorem gM_act_M_fail : GoodIn wM_act (wsV RcM 53 RcM yM_fail wM_fail) := goodIn_app (goodIn_of _ (by decide +kernel)) (goodIn_r _ [18, 1, 69, 70, 71, 72, 73, 74, 75, 76, 77, 78, 79, 80, 81, 82, 83, 84, 85, 86] (by decide +kernel) (by decide +kernel))
theorem inM_run_M : ∀ x ∈ u_ws RcM TcM 18, x ∈ wM_run := by decide +kernel
set_option maxRecDepth 20000 in
theorem gM_run_M_fail : GoodIn wM_run (wsV RcM 53 RcM yM_fail wM_fail) := goodIn_app (goodIn_of _ (by decide +kernel)) (goodIn_r _ [15, 1, 65, 66, 67, 68, 69, 70, 71, 72, 73, 74, 75, 76, 77, 78, 79, 80, 81, 82] (by decide +kernel) (by decide +kernel))
set_option maxRecDepth 20000 in
theorem gM_run_M_has : GoodIn wM_run (va_wsS RcM 49 yM_has wM_has) := goodIn_app (goodIn_of _ (by decide +kernel)) (goodIn_r _ [16] (by decide +kernel) (by decide +kernel))
set_option maxRecDepth 20000 in
theorem gM_run_M_deeds : GoodIn wM_run (wsV RcM 127 RcM yM_deeds wM_deeds) := goodIn_app (goodIn_of _ (by decide +kernel)) (goodIn_r _ [17, 18, 9, 10, 5, 19, 20, 21, 22, 23, 24, 25, 26, 27, 28, 29, 30, 31, 32, 6, 33, 34, 35, 16, 36, 37, 38, 14, 39, 40, 41, 42, 43, 44, 45, 46, 47, 48, 49, 50, 51, 52, 53, 54, 55, 56, 57, 58, 59, 60, 61, 62, 63, 64, 65, 66, 67, 68, 69, 70, 71, 72, 73, 74, 75, 76, 77, 78, 79, 80, 81, 82] (by decide +kernel) (by decide +kernel))
theorem inM_show_M : ∀ x ∈ u_ws RcM TcM 18, x ∈ wM_show := by decide +kernel
set_option maxRecDepth 20000 in
theorem gM_show_M_isArc : GoodIn wM_show (wsV RcM 130 RcM yM_isArc wM_isArc) := goodIn_app (goodIn_of _ (by decide +kernel)) (goodIn_r _ [34, 35, 59, 60, 61, 62, 63, 64, 65, 66, 67, 68, 69, 70, 71, 72, 73, 74, 75, 76] (by decide +kernel) (by decide +kernel))
set_option maxRecDepth 20000 in
theorem gM_show_M_isPath : GoodIn wM_show (wsV RcM 139 RcM yM_isPath wM_isPath) := goodIn_app (goodIn_of _ (by decide +kernel)) (goodIn_r _ [37, 16, 17, 18, 5, 19, 20, 38, 39, 32, 33, 40, 21, 22, 41, 42, 43, 44, 45, 46, 59, 60, 61, 62, 63, 64, 65, 66, 67, 68, 69, 70, 71, 72, 73, 74, 75, 76] (by decide +kernel) (by decide +kernel))
set_option maxRecDepth 20000 in
theorem gM_show_M_fail : GoodIn wM_show (wsV RcM 53 RcM yM_fail wM_fail) := goodIn_app (goodIn_of _ (by decide +kernel)) (goodIn_r _ [36, 1, 59, 60, 61, 62, 63, 64, 65, 66, 67, 68, 69, 70, 71, 72, 73, 74, 75, 76] (by decide +kernel) (by decide +kernel))
set_option maxRecDepth 20000 in
theorem gM_show_M_many : GoodIn wM_show (va_wsS RcM 89 yM_many wM_many) := goodIn_app (goodIn_of _ (by decide +kernel)) (goodIn_r _ [42] (by decide +kernel) (by decide +kernel))
set_option maxRecDepth 20000 in
theorem gM_show_M_member : GoodIn wM_show (va_wsS RcM 92 yM_member wM_member) := goodIn_app (goodIn_of _ (by decide +kernel)) (goodIn_r _ [43] (by decide +kernel) (by decide +kernel))
set_option maxRecDepth 20000 in
theorem gM_show_M_has : GoodIn wM_show (va_wsS RcM 49 yM_has wM_has) := goodIn_app (goodIn_of _ (by decide +kernel)) (goodIn_r _ [46] (by decide +kernel) (by decide +kernel))
set_option maxRecDepth 20000 in
theorem gM_show_M_isInTime : GoodIn wM_show (wsV RcM 114 RcM yM_isInTime wM_isInTime) := goodIn_app (goodIn_of _ (by decide +kernel)) (goodIn_r _ [47, 48, 49, 50, 51, 59, 60, 61, 62, 63, 64, 65, 66, 67, 68, 69, 70, 71, 72, 73, 74, 75, 76] (by decide +kernel) (by decide +kernel))
set_option maxRecDepth 20000 in
theorem gM_show_M_isKnown : GoodIn wM_show (wsV RcM 142 RcM yM_isKnown wM_isKnown) := goodIn_app (goodIn_of _ (by decide +kernel)) (goodIn_r _ [52, 16, 17, 18, 5, 53, 54, 19, 20, 35, 15, 21, 22, 55, 42, 56, 57, 43, 46, 59, 60, 61, 62, 63, 64, 65, 66, 67, 68, 69, 70, 71, 72, 73, 74, 75, 76] (by decide +kernel) (by decide +kernel))
set_option maxRecDepth 20000 in
theorem gM_show_M_unlock : GoodIn wM_show (wsV RcM 117 RcM yM_unlock wM_unlock) := goodIn_app (goodIn_of _ (by decide +kernel)) (goodIn_r _ [58, 17, 18, 5, 19, 20, 15, 55, 40, 14, 42, 43, 59, 60, 61, 62, 63, 64, 65, 66, 67, 68, 69, 70, 71, 72, 73, 74, 75, 76] (by decide +kernel) (by decide +kernel))
set_option maxRecDepth 20000 in
theorem gM_show_M_size : GoodIn wM_show (va_wsS RcM 61 yM_size wM_size) := goodIn_app (goodIn_of _ (by decide +kernel)) (goodIn_r _ [45] (by decide +kernel) (by decide +kernel))
end
section
theorem runI_km {F : FT} {n P : Nat} {x t : Int32} (hn4 : n ≤ 14) (hp6 : P ≤ 6) : ∀ (k i : Nat) (d : Int32) (a : AT), i + k = P → KM a → KM (mRunI F n P x t k i d a).2 := by
  intro k
  induction k with
  | zero => intro i d a _ h; exact h
  | succ k ih =>
    intro i d a hi h
    simp only [mRunI]
    repeat' split
    all_goals first | exact h | exact ih _ _ _ (by omega) h | exact ih _ _ _ (by omega) (KM.deeds hn4 hp6 (by omega) h)
end
section
set_option maxHeartbeats 4000000 in
set_option maxRecDepth 100000 in
theorem c_mAct (l : Launch) (D : va_G) (cI cZ cJ : ClassId) (b : Nat → Nat) (F : FT) (a : AT) (n : Nat) (P : Nat) (x : Int32) (hn : F 9 = nI n) (hn4 : n ≤ 14) (hp : F 0 = nI P) (hp6 : P ≤ 6) (hK : KM a) : Ki l yM_act wM_act ({ frames := 4, cells := 0, slots := 0, locals := 95 } : Room) D vwCl (tyG cI cZ cJ) [.ref (b 0), .int x] (wM cI cZ b F a) ((mAct F a n P x).1) (wM cI cZ b ((mAct F a n P x).2.1) ((mAct F a n P x).2.2)) := by
  intro sz
  refine v_ent (cc := bM_act) (maxL := 2) (ret := (some .int)) (Qc := (fun A => va_Qi (fun (x9 : Int32) (_ : Unit) => x9 = (mAct F a n P x).1) (fun _ => wB D vwCl (tyG cI cZ cJ) A (wM cI cZ b ((mAct F a n P x).2.1) ((mAct F a n P x).2.2))) A)) (fr := (fun A => A)) (own := RcM) rfl (by decide) rfl (Nat.le_of_ble_eq_true rfl) rfl ?_
  intro p e s m args below meth c A C hr _
  refine v_free ?_
  refine v_aload_n C 0 dM_act_0 rfl rfl ?_
  refine v_iconst C (v := 0) dM_act_1 (by decide) ?_
  refine v_put C (T := TcM) (N := 18) (ci := 2) (v := .int 0) inM_act_M tycM tycM_ok nmcM 0 rfl rfl 2 (by decide) (by decide +kernel) rfl rfl rfl rfl (Nat.le_of_ble_eq_true rfl) dM_act_2 (w1 := wM cI cZ b (upd F 2 0) a) rfl ?_
  refine v_aload_n C 0 dM_act_5 rfl rfl ?_
  refine v_iload_n C 1 dM_act_6 rfl rfl ?_
  refine v_cVrF (As := [.int x]) C (c_mIsParty l D cI cZ cJ b (upd F 2 0) a x) (cwV 1 C.2.2.2.2.1 gM_act_M_isParty rfl rfl rfl (by decide +kernel) ⟨Nat.le_of_ble_eq_true rfl, Nat.le_of_ble_eq_true rfl⟩) 0 rfl (T := TcM) (N := 18) rfl rfl rfl (Nat.le_of_ble_eq_true rfl) ⟨Nat.zero_le _, Nat.zero_le _⟩ dM_act_7 ?_
  refine v_if_ne C dM_act_10 (tgt := 19) (by decide) (fun h1 => ?_) (fun h1 => ?_)
  · skip
    refine v_aload_n C 0 dM_act_19 rfl rfl ?_
    refine v_get C (T := TcM) (N := 18) (ci := 2) (v := .int (F 4)) inM_act_M 0 rfl rfl 4 (by decide) (by decide +kernel) rfl rfl dM_act_20 ?_
    refine v_if_ne C dM_act_23 (tgt := 32) (by decide) (fun h2 => ?_) (fun h2 => ?_)
    · skip
      refine v_aload_n C 0 dM_act_32 rfl rfl ?_
      refine v_get C (T := TcM) (N := 18) (ci := 2) (v := .int (F 8)) inM_act_M 0 rfl rfl 8 (by decide) (by decide +kernel) rfl rfl dM_act_33 ?_
      refine v_iload_n C 1 dM_act_36 rfl rfl ?_
      refine v_cSr0 (As := [.int (F 8), .int x]) C (c_mHas l D cI cZ cJ (F 8) x) (va_cwS 2 C.2.2.2.2.1 gM_act_M_has rfl rfl rfl (by decide +kernel) ⟨Nat.le_of_ble_eq_true rfl, Nat.le_of_ble_eq_true rfl⟩) rfl rfl (Nat.le_of_ble_eq_true rfl) ⟨Nat.zero_le _, Nat.zero_le _⟩ dM_act_37 ?_
      refine v_if_eq C dM_act_40 (tgt := 51) (by decide) (fun h3 => ?_) (fun h3 => ?_)
      · skip
        have hxj := partyM_self (F := upd F 2 0) (a := a) (by assumption) hp hp6
        refine v_aload_n C 0 dM_act_51 rfl rfl ?_
        refine v_iload_n C 1 dM_act_52 rfl rfl ?_
        refine v_top (y := nI x.toNatClampNeg) hxj.1 ?_
        refine v_cViF (As := [.int (nI x.toNatClampNeg)]) C (c_mDeeds l D cI cZ cJ b (upd F 2 0) a n P x.toNatClampNeg hn hn4 hp hp6 (by omega) hK) (cwV 1 C.2.2.2.2.1 gM_act_M_deeds rfl rfl rfl (by decide +kernel) ⟨Nat.le_of_ble_eq_true rfl, Nat.le_of_ble_eq_true rfl⟩) 0 rfl (T := TcM) (N := 18) rfl rfl rfl (Nat.le_of_ble_eq_true rfl) ⟨Nat.zero_le _, Nat.zero_le _⟩ dM_act_53 ?_
        have hE : ((mDeeds (upd F 2 0) a n P x.toNatClampNeg).1, upd F 2 0, (mDeeds (upd F 2 0) a n P x.toNatClampNeg).2) = mAct F a n P x := (by unfold mAct; rw [if_neg h1, if_neg h2, if_pos h3])
        exact v_iret C hr (by rw [← hE]) (by rw [← hE]) dM_act_56
      · skip
        refine v_aload_n C 0 dM_act_43 rfl rfl ?_
        refine v_iconst C (v := 3) dM_act_44 (by decide) ?_
        refine v_cViF (As := [.int 3]) C (c_mFail l D cI cZ cJ b (upd F 2 0) a 3) (cwV 1 C.2.2.2.2.1 gM_act_M_fail rfl rfl rfl (by decide +kernel) ⟨Nat.le_of_ble_eq_true rfl, Nat.le_of_ble_eq_true rfl⟩) 0 rfl (T := TcM) (N := 18) rfl rfl rfl (Nat.le_of_ble_eq_true rfl) ⟨Nat.zero_le _, Nat.zero_le _⟩ dM_act_45 ?_
        refine v_goto C dM_act_48 (tgt := 56) (by decide) ?_
        have hE : ((mFail (upd F 2 0) a 3).1, (mFail (upd F 2 0) a 3).2, a) = mAct F a n P x := (by unfold mAct; rw [if_neg h1, if_neg h2, if_neg h3])
        exact v_iret C hr (by rw [← hE]) (by rw [← hE]) dM_act_56
    · skip
      refine v_aload_n C 0 dM_act_26 rfl rfl ?_
      refine v_iconst C (v := 2) dM_act_27 (by decide) ?_
      refine v_cViF (As := [.int 2]) C (c_mFail l D cI cZ cJ b (upd F 2 0) a 2) (cwV 1 C.2.2.2.2.1 gM_act_M_fail rfl rfl rfl (by decide +kernel) ⟨Nat.le_of_ble_eq_true rfl, Nat.le_of_ble_eq_true rfl⟩) 0 rfl (T := TcM) (N := 18) rfl rfl rfl (Nat.le_of_ble_eq_true rfl) ⟨Nat.zero_le _, Nat.zero_le _⟩ dM_act_28 ?_
      have hE : ((mFail (upd F 2 0) a 2).1, (mFail (upd F 2 0) a 2).2, a) = mAct F a n P x := (by unfold mAct; rw [if_neg h1, if_pos h2])
      exact v_iret C hr (by rw [← hE]) (by rw [← hE]) dM_act_31
  · skip
    refine v_aload_n C 0 dM_act_13 rfl rfl ?_
    refine v_iconst C (v := 1) dM_act_14 (by decide) ?_
    refine v_cViF (As := [.int 1]) C (c_mFail l D cI cZ cJ b (upd F 2 0) a 1) (cwV 1 C.2.2.2.2.1 gM_act_M_fail rfl rfl rfl (by decide +kernel) ⟨Nat.le_of_ble_eq_true rfl, Nat.le_of_ble_eq_true rfl⟩) 0 rfl (T := TcM) (N := 18) rfl rfl rfl (Nat.le_of_ble_eq_true rfl) ⟨Nat.zero_le _, Nat.zero_le _⟩ dM_act_15 ?_
    have hE : ((mFail (upd F 2 0) a 1).1, (mFail (upd F 2 0) a 1).2, a) = mAct F a n P x := (by unfold mAct; rw [if_pos h1])
    exact v_iret C hr (by rw [← hE]) (by rw [← hE]) dM_act_18
set_option maxHeartbeats 4000000 in
set_option maxRecDepth 100000 in
theorem c_mRun (l : Launch) (D : va_G) (cI cZ cJ : ClassId) (b : Nat → Nat) (F : FT) (a : AT) (n : Nat) (P : Nat) (x : Int32) (hn : F 9 = nI n) (hn4 : n ≤ 14) (hp : F 0 = nI P) (hp6 : P ≤ 6) (hK : KM a) : Ki l yM_run wM_run ({ frames := 4, cells := 0, slots := 0, locals := 95 } : Room) D vwCl (tyG cI cZ cJ) [.ref (b 0), .int x] (wM cI cZ b F a) ((mRun F a n P x).1) (wM cI cZ b ((mRun F a n P x).2.1) ((mRun F a n P x).2.2)) := by
  intro sz
  refine v_ent (cc := bM_run) (maxL := 5) (ret := (some .int)) (Qc := (fun A => va_Qi (fun (x9 : Int32) (_ : Unit) => x9 = (mRun F a n P x).1) (fun _ => wB D vwCl (tyG cI cZ cJ) A (wM cI cZ b ((mRun F a n P x).2.1) ((mRun F a n P x).2.2))) A)) (fr := (fun A => A)) (own := RcM) rfl (by decide) rfl (Nat.le_of_ble_eq_true rfl) rfl ?_
  intro p e s m args below meth c A C hr _
  refine v_free ?_
  refine v_aload_n C 0 dM_run_0 rfl rfl ?_
  refine v_iconst C (v := 0) dM_run_1 (by decide) ?_
  refine v_put C (T := TcM) (N := 18) (ci := 2) (v := .int 0) inM_run_M tycM tycM_ok nmcM 0 rfl rfl 2 (by decide) (by decide +kernel) rfl rfl rfl rfl (Nat.le_of_ble_eq_true rfl) dM_run_2 (w1 := wM cI cZ b (upd F 2 0) a) rfl ?_
  refine v_iload_n C 1 dM_run_5 rfl rfl ?_
  refine v_if_lt C dM_run_6 (tgt := 15) (by decide) (fun h1 => ?_) (fun h1 => ?_)
  · skip
    refine v_aload_n C 0 dM_run_15 rfl rfl ?_
    refine v_iconst C (v := 1) dM_run_16 (by decide) ?_
    refine v_cViF (As := [.int 1]) C (c_mFail l D cI cZ cJ b (upd F 2 0) a 1) (cwV 1 C.2.2.2.2.1 gM_run_M_fail rfl rfl rfl (by decide +kernel) ⟨Nat.le_of_ble_eq_true rfl, Nat.le_of_ble_eq_true rfl⟩) 0 rfl (T := TcM) (N := 18) rfl rfl rfl (Nat.le_of_ble_eq_true rfl) ⟨Nat.zero_le _, Nat.zero_le _⟩ dM_run_17 ?_
    have hE : ((mFail (upd F 2 0) a 1).1, (mFail (upd F 2 0) a 1).2, a) = mRun F a n P x := (by unfold mRun; rw [if_pos h1])
    exact v_iret C hr (by rw [← hE]) (by rw [← hE]) dM_run_20
  · skip
    refine v_iload_n C 1 dM_run_9 rfl rfl ?_
    refine v_bipush C (v := 40) dM_run_10 (by decide) ?_
    refine v_icmp_le C dM_run_12 (tgt := 21) (by decide) (fun h2 => ?_) (fun h2 => ?_)
    · skip
      have hT := times_self (x := x) (by assumption) (by assumption)
      refine v_iconst C (v := 0) dM_run_21 (by decide) ?_
      refine v_istore_n C (lv' := [(0, .ref (b 0)), (1, .int x), (2, .int 0)]) [1, 2, 0] dM_run_22 rfl (by decide) rfl ?_
      refine v_iconst C (v := 0) dM_run_23 (by decide) ?_
      refine v_istore_n C (lv' := [(0, .ref (b 0)), (1, .int x), (2, .int 0), (3, .int 0)]) [1, 2, 3, 0] dM_run_24 rfl (by decide) rfl ?_
      refine v_loop3 x.toNatClampNeg (fun (rr : Nat) (d : Int32) (t : Int32) (a1 : AT) => wM cI cZ b (upd (upd F 2 0) 3 t) a1) (fun (rr : Nat) (d : Int32) (t : Int32) (a1 : AT) => [(0, .ref (b 0)), (1, .int x), (2, .int d), (3, .int (nI rr))]) (fun (krr rr : Nat) (d : Int32) (t : Int32) (a1 : AT) => mRunL F n P x krr rr d t a1 = mRunL F n P x x.toNatClampNeg 0 0 (F 3) a ∧ KM a1) ?_ ?_ x.toNatClampNeg 0 0 (F 3) a (by omega) ⟨rfl, hK⟩
      · skip
        intro krr rr d t a1 hkrr hIrr ihrr
        obtain ⟨hIrr, hJrr⟩ := hIrr
        have hIrr : mRunL F n P x (krr + 1) rr d t a1 = mRunL F n P x x.toNatClampNeg 0 0 (F 3) a := hIrr
        refine v_as (w' := wM cI cZ b (upd (upd F 2 0) 3 t) a1) (lv' := [(0, .ref (b 0)), (1, .int x), (2, .int d), (3, .int (nI rr))]) rfl rfl ?_
        refine v_iload_n C 3 dM_run_25 rfl rfl ?_
        refine v_iload_n C 1 dM_run_26 rfl rfl ?_
        refine v_top (y := nI x.toNatClampNeg) hT.1 ?_
        refine v_icmp_ge C dM_run_27 (tgt := 96) (by decide) (fun h => absurd h (nI_ge (a := rr) (b := x.toNatClampNeg) (by omega) (by omega))) (fun _ => ?_)
        refine v_iconst C (v := 0) dM_run_30 (by decide) ?_
        refine v_istore C (lv' := [(0, .ref (b 0)), (1, .int x), (2, .int d), (3, .int (nI rr)), (4, .int 0)]) [1, 2, 3, 4, 0] dM_run_31 (by decide) rfl ?_
        refine v_loop2 P (fun (pp : Nat) (d2 : Int32) (a2 : AT) => wM cI cZ b (upd (upd F 2 0) 3 t) a2) (fun (pp : Nat) (d2 : Int32) (a2 : AT) => [(0, .ref (b 0)), (1, .int x), (2, .int d2), (3, .int (nI rr)), (4, .int (nI pp))]) (fun (kpp pp : Nat) (d2 : Int32) (a2 : AT) => mRunI F n P x t kpp pp d2 a2 = mRunI F n P x t P 0 d a1 ∧ KM a2) ?_ ?_ P 0 d a1 (by omega) ⟨rfl, hJrr⟩
        · skip
          intro kpp pp d2 a2 hkpp hIpp ihpp
          obtain ⟨hIpp, hJpp⟩ := hIpp
          have hIpp : mRunI F n P x t (kpp + 1) pp d2 a2 = mRunI F n P x t P 0 d a1 := hIpp
          refine v_as (w' := wM cI cZ b (upd (upd F 2 0) 3 t) a2) (lv' := [(0, .ref (b 0)), (1, .int x), (2, .int d2), (3, .int (nI rr)), (4, .int (nI pp))]) rfl rfl ?_
          refine v_iload C 4 dM_run_33 rfl ?_
          refine v_aload_n C 0 dM_run_35 rfl rfl ?_
          refine v_get C (T := TcM) (N := 18) (ci := 2) (v := .int (F 0)) inM_run_M 0 rfl rfl 0 (by decide) (by decide +kernel) rfl rfl dM_run_36 ?_
          refine v_top (y := nI P) hp ?_
          refine v_icmp_ge C dM_run_39 (tgt := 80) (by decide) (fun h => absurd h (nI_ge (a := pp) (b := P) (by omega) (by omega))) (fun _ => ?_)
          refine v_aload_n C 0 dM_run_42 rfl rfl ?_
          refine v_get C (T := TcM) (N := 18) (ci := 2) (v := .int (F 4)) inM_run_M 0 rfl rfl 4 (by decide) (by decide +kernel) rfl rfl dM_run_43 ?_
          refine v_if_eq C dM_run_46 (tgt := 80) (by decide) (fun h3 => ?_) (fun h3 => ?_)
          · skip
            have hX : (d2, a2) = mRunI F n P x t P 0 d a1 := (by rw [← hIpp]; simp only [mRunI]; rw [if_pos h3])
            rw [show d2 = (mRunI F n P x t P 0 d a1).1 from (by rw [← hX]), show a2 = (mRunI F n P x t P 0 d a1).2 from (by rw [← hX])]
            refine v_aload_n C 0 dM_run_80 rfl rfl ?_
            refine v_dup C dM_run_81 rfl ?_
            refine v_get C (T := TcM) (N := 18) (ci := 2) (v := .int t) inM_run_M 0 rfl rfl 3 (by decide) (by decide +kernel) rfl rfl dM_run_82 ?_
            refine v_iconst C (v := 1) dM_run_85 (by decide) ?_
            refine v_iadd C dM_run_86 ?_
            refine v_put C (T := TcM) (N := 18) (ci := 2) (v := .int (t + (1 : Int32))) inM_run_M tycM tycM_ok nmcM 0 rfl rfl 3 (by decide) (by decide +kernel) rfl rfl rfl rfl (Nat.le_of_ble_eq_true rfl) dM_run_87 (w1 := wM cI cZ b (upd (upd (upd F 2 0) 3 t) 3 (t + (1 : Int32))) ((mRunI F n P x t P 0 d a1).2)) rfl ?_
            refine v_iinc C (v := nI (rr + 1)) (lv' := [(0, .ref (b 0)), (1, .int x), (2, .int ((mRunI F n P x t P 0 d a1).1)), (3, .int (nI (rr + 1))), (4, .int (nI pp))]) 3 [1, 2, 3, 0, 4] dM_run_90 rfl (nI_1 rr) (by decide) rfl ?_
            refine v_goto C dM_run_93 (tgt := 25) (by decide) ?_
            refine v_loc (lv' := [(0, .ref (b 0)), (1, .int x), (2, .int ((mRunI F n P x t P 0 d a1).1)), (3, .int (nI (rr + 1)))]) [0, 1, 2, 3] rfl ?_
            have hL : mRunL F n P x krr (rr + 1) ((mRunI F n P x t P 0 d a1).1) (t + (1 : Int32)) ((mRunI F n P x t P 0 d a1).2) = mRunL F n P x x.toNatClampNeg 0 0 (F 3) a := (by rw [← hIrr]; simp only [mRunL])
            exact ihrr ((mRunI F n P x t P 0 d a1).1) (t + (1 : Int32)) ((mRunI F n P x t P 0 d a1).2) ⟨hL, (runI_km hn4 hp6 P 0 _ _ (by omega) hJrr)⟩
          · skip
            refine v_iload_n C 2 dM_run_49 rfl rfl ?_
            refine v_aload_n C 0 dM_run_50 rfl rfl ?_
            refine v_get C (T := TcM) (N := 18) (ci := 2) (v := .int (F 8)) inM_run_M 0 rfl rfl 8 (by decide) (by decide +kernel) rfl rfl dM_run_51 ?_
            refine v_iload C 4 dM_run_54 rfl ?_
            refine v_cSr0 (As := [.int (F 8), .int (nI pp)]) C (c_mHas l D cI cZ cJ (F 8) (nI pp)) (va_cwS 2 C.2.2.2.2.1 gM_run_M_has rfl rfl rfl (by decide +kernel) ⟨Nat.le_of_ble_eq_true rfl, Nat.le_of_ble_eq_true rfl⟩) rfl rfl (Nat.le_of_ble_eq_true rfl) ⟨Nat.zero_le _, Nat.zero_le _⟩ dM_run_56 ?_
            refine v_if_eq C dM_run_59 (tgt := 66) (by decide) (fun h4 => ?_) (fun h4 => ?_)
            · skip
              refine v_aload_n C 0 dM_run_66 rfl rfl ?_
              refine v_iload C 4 dM_run_67 rfl ?_
              refine v_cViF (As := [.int (nI pp)]) C (c_mDeeds l D cI cZ cJ b (upd (upd F 2 0) 3 t) a2 n P pp hn hn4 hp hp6 (by omega) hJpp) (cwV 1 C.2.2.2.2.1 gM_run_M_deeds rfl rfl rfl (by decide +kernel) ⟨Nat.le_of_ble_eq_true rfl, Nat.le_of_ble_eq_true rfl⟩) 0 rfl (T := TcM) (N := 18) rfl rfl rfl (Nat.le_of_ble_eq_true rfl) ⟨Nat.zero_le _, Nat.zero_le _⟩ dM_run_69 ?_
              refine v_iadd C dM_run_72 ?_
              refine v_istore_n C (lv' := [(0, .ref (b 0)), (1, .int x), (2, .int (d2 + ((mDeeds (upd (upd F 2 0) 3 t) a2 n P pp).1))), (3, .int (nI rr)), (4, .int (nI pp))]) [1, 2, 0, 3, 4] dM_run_73 rfl (by decide) rfl ?_
              refine v_iinc C (v := nI (pp + 1)) (lv' := [(0, .ref (b 0)), (1, .int x), (2, .int (d2 + ((mDeeds (upd (upd F 2 0) 3 t) a2 n P pp).1))), (3, .int (nI rr)), (4, .int (nI (pp + 1)))]) 4 [1, 2, 3, 4, 0] dM_run_74 rfl (nI_1 pp) (by decide) rfl ?_
              refine v_goto C dM_run_77 (tgt := 33) (by decide) ?_
              have hL : mRunI F n P x t kpp (pp + 1) (d2 + ((mDeeds (upd (upd F 2 0) 3 t) a2 n P pp).1)) ((mDeeds (upd (upd F 2 0) 3 t) a2 n P pp).2) = mRunI F n P x t P 0 d a1 := (by rw [← hIpp]; simp only [mRunI]; rw [if_neg h3, if_pos h4])
              exact ihpp (d2 + ((mDeeds (upd (upd F 2 0) 3 t) a2 n P pp).1)) ((mDeeds (upd (upd F 2 0) 3 t) a2 n P pp).2) ⟨hL, (by first | exact hJpp | exact KM.deeds hn4 hp6 (by omega) hJpp)⟩
            · skip
              refine v_iconst C (v := 0) dM_run_62 (by decide) ?_
              refine v_goto C dM_run_63 (tgt := 72) (by decide) ?_
              refine v_iadd C dM_run_72 ?_
              refine v_istore_n C (lv' := [(0, .ref (b 0)), (1, .int x), (2, .int (d2 + (0 : Int32))), (3, .int (nI rr)), (4, .int (nI pp))]) [1, 2, 0, 3, 4] dM_run_73 rfl (by decide) rfl ?_
              refine v_iinc C (v := nI (pp + 1)) (lv' := [(0, .ref (b 0)), (1, .int x), (2, .int (d2 + (0 : Int32))), (3, .int (nI rr)), (4, .int (nI (pp + 1)))]) 4 [1, 2, 3, 4, 0] dM_run_74 rfl (nI_1 pp) (by decide) rfl ?_
              refine v_goto C dM_run_77 (tgt := 33) (by decide) ?_
              have hL : mRunI F n P x t kpp (pp + 1) (d2 + (0 : Int32)) a2 = mRunI F n P x t P 0 d a1 := (by rw [← hIpp]; simp only [mRunI]; rw [if_neg h3, if_neg h4])
              exact ihpp (d2 + (0 : Int32)) a2 ⟨hL, (by first | exact hJpp | exact KM.deeds hn4 hp6 (by omega) hJpp)⟩
        · skip
          intro d2 a2 hIpp
          obtain ⟨hIpp, hJpp⟩ := hIpp
          have hIpp : mRunI F n P x t 0 P d2 a2 = mRunI F n P x t P 0 d a1 := hIpp
          refine v_as (w' := wM cI cZ b (upd (upd F 2 0) 3 t) a2) (lv' := [(0, .ref (b 0)), (1, .int x), (2, .int d2), (3, .int (nI rr)), (4, .int (nI P))]) rfl rfl ?_
          obtain ⟨rfl, rfl⟩ : d2 = (mRunI F n P x t P 0 d a1).1 ∧ a2 = (mRunI F n P x t P 0 d a1).2 := by rw [← hIpp]; exact ⟨rfl, rfl⟩
          refine v_iload C 4 dM_run_33 rfl ?_
          refine v_aload_n C 0 dM_run_35 rfl rfl ?_
          refine v_get C (T := TcM) (N := 18) (ci := 2) (v := .int (F 0)) inM_run_M 0 rfl rfl 0 (by decide) (by decide +kernel) rfl rfl dM_run_36 ?_
          refine v_top (y := nI P) hp ?_
          refine v_icmp_ge C dM_run_39 (tgt := 80) (by decide) (fun _ => ?_) (fun h => absurd (nI_le (a := P) (b := P) (by omega) (by omega)) h)
          refine v_aload_n C 0 dM_run_80 rfl rfl ?_
          refine v_dup C dM_run_81 rfl ?_
          refine v_get C (T := TcM) (N := 18) (ci := 2) (v := .int t) inM_run_M 0 rfl rfl 3 (by decide) (by decide +kernel) rfl rfl dM_run_82 ?_
          refine v_iconst C (v := 1) dM_run_85 (by decide) ?_
          refine v_iadd C dM_run_86 ?_
          refine v_put C (T := TcM) (N := 18) (ci := 2) (v := .int (t + (1 : Int32))) inM_run_M tycM tycM_ok nmcM 0 rfl rfl 3 (by decide) (by decide +kernel) rfl rfl rfl rfl (Nat.le_of_ble_eq_true rfl) dM_run_87 (w1 := wM cI cZ b (upd (upd (upd F 2 0) 3 t) 3 (t + (1 : Int32))) ((mRunI F n P x t P 0 d a1).2)) rfl ?_
          refine v_iinc C (v := nI (rr + 1)) (lv' := [(0, .ref (b 0)), (1, .int x), (2, .int ((mRunI F n P x t P 0 d a1).1)), (3, .int (nI (rr + 1))), (4, .int (nI P))]) 3 [1, 2, 3, 0, 4] dM_run_90 rfl (nI_1 rr) (by decide) rfl ?_
          refine v_goto C dM_run_93 (tgt := 25) (by decide) ?_
          refine v_loc (lv' := [(0, .ref (b 0)), (1, .int x), (2, .int ((mRunI F n P x t P 0 d a1).1)), (3, .int (nI (rr + 1)))]) [0, 1, 2, 3] rfl ?_
          have hL : mRunL F n P x krr (rr + 1) ((mRunI F n P x t P 0 d a1).1) (t + (1 : Int32)) ((mRunI F n P x t P 0 d a1).2) = mRunL F n P x x.toNatClampNeg 0 0 (F 3) a := (by rw [← hIrr]; simp only [mRunL])
          exact ihrr ((mRunI F n P x t P 0 d a1).1) (t + (1 : Int32)) ((mRunI F n P x t P 0 d a1).2) ⟨hL, (runI_km hn4 hp6 P 0 _ _ (by omega) hJrr)⟩
      · skip
        intro d t a1 hIrr
        obtain ⟨hIrr, hJrr⟩ := hIrr
        have hIrr : mRunL F n P x 0 x.toNatClampNeg d t a1 = mRunL F n P x x.toNatClampNeg 0 0 (F 3) a := hIrr
        refine v_as (w' := wM cI cZ b (upd (upd F 2 0) 3 t) a1) (lv' := [(0, .ref (b 0)), (1, .int x), (2, .int d), (3, .int (nI x.toNatClampNeg))]) rfl rfl ?_
        obtain ⟨rfl, rfl, rfl⟩ : d = (mRunL F n P x x.toNatClampNeg 0 0 (F 3) a).1 ∧ t = (mRunL F n P x x.toNatClampNeg 0 0 (F 3) a).2.1 ∧ a1 = (mRunL F n P x x.toNatClampNeg 0 0 (F 3) a).2.2 := by rw [← hIrr]; exact ⟨rfl, rfl, rfl⟩
        refine v_iload_n C 3 dM_run_25 rfl rfl ?_
        refine v_iload_n C 1 dM_run_26 rfl rfl ?_
        refine v_top (y := nI x.toNatClampNeg) hT.1 ?_
        refine v_icmp_ge C dM_run_27 (tgt := 96) (by decide) (fun _ => ?_) (fun h => absurd (nI_le (a := x.toNatClampNeg) (b := x.toNatClampNeg) (by omega) (by omega)) h)
        refine v_iload_n C 2 dM_run_96 rfl rfl ?_
        have hE : ((mRunL F n P x x.toNatClampNeg 0 0 (F 3) a).1, upd (upd F 2 0) 3 ((mRunL F n P x x.toNatClampNeg 0 0 (F 3) a).2.1), (mRunL F n P x x.toNatClampNeg 0 0 (F 3) a).2.2) = mRun F a n P x := (by unfold mRun; rw [if_neg h1, if_pos h2])
        exact v_iret C hr (by rw [← hE]) (by rw [← hE]) dM_run_97
    · skip
      refine v_aload_n C 0 dM_run_15 rfl rfl ?_
      refine v_iconst C (v := 1) dM_run_16 (by decide) ?_
      refine v_cViF (As := [.int 1]) C (c_mFail l D cI cZ cJ b (upd F 2 0) a 1) (cwV 1 C.2.2.2.2.1 gM_run_M_fail rfl rfl rfl (by decide +kernel) ⟨Nat.le_of_ble_eq_true rfl, Nat.le_of_ble_eq_true rfl⟩) 0 rfl (T := TcM) (N := 18) rfl rfl rfl (Nat.le_of_ble_eq_true rfl) ⟨Nat.zero_le _, Nat.zero_le _⟩ dM_run_17 ?_
      have hE : ((mFail (upd F 2 0) a 1).1, (mFail (upd F 2 0) a 1).2, a) = mRun F a n P x := (by unfold mRun; rw [if_neg h1, if_neg h2])
      exact v_iret C hr (by rw [← hE]) (by rw [← hE]) dM_run_20
set_option maxHeartbeats 4000000 in
set_option maxRecDepth 100000 in
theorem c_mShow (l : Launch) (D : va_G) (cI cZ cJ : ClassId) (b : Nat → Nat) (F : FT) (a : AT) (n : Nat) (mm : Nat) (x : Int32) (hn : F 9 = nI n) (hn4 : n ≤ 14) (hm : mMany (F 17) = nI mm) (hm6 : mm ≤ 6) (hmem : ∀ i, i < mm → vp_in (mMember (F 17) (nI i)) 6) : Ki l yM_show wM_show ({ frames := 3, cells := 0, slots := 0, locals := 67 } : Room) D vwCl (tyG cI cZ cJ) [.ref (b 0), .int x] (wM cI cZ b F a) ((mShow F a n mm x).1) (wM cI cZ b ((mShow F a n mm x).2.1) ((mShow F a n mm x).2.2)) := by
  intro sz
  refine v_ent (cc := bM_show) (maxL := 2) (ret := (some .int)) (Qc := (fun A => va_Qi (fun (x9 : Int32) (_ : Unit) => x9 = (mShow F a n mm x).1) (fun _ => wB D vwCl (tyG cI cZ cJ) A (wM cI cZ b ((mShow F a n mm x).2.1) ((mShow F a n mm x).2.2))) A)) (fr := (fun A => A)) (own := RcM) rfl (by decide) rfl (Nat.le_of_ble_eq_true rfl) rfl ?_
  intro p e s m args below meth c A C hr _
  refine v_free ?_
  refine v_aload_n C 0 dM_show_0 rfl rfl ?_
  refine v_iconst C (v := 0) dM_show_1 (by decide) ?_
  refine v_put C (T := TcM) (N := 18) (ci := 2) (v := .int 0) inM_show_M tycM tycM_ok nmcM 0 rfl rfl 2 (by decide) (by decide +kernel) rfl rfl rfl rfl (Nat.le_of_ble_eq_true rfl) dM_show_2 (w1 := wM cI cZ b (upd F 2 0) a) rfl ?_
  refine v_aload_n C 0 dM_show_5 rfl rfl ?_
  refine v_iload_n C 1 dM_show_6 rfl rfl ?_
  refine v_cVrF (As := [.int x]) C (c_mIsArc l D cI cZ cJ b (upd F 2 0) a x) (cwV 1 C.2.2.2.2.1 gM_show_M_isArc rfl rfl rfl (by decide +kernel) ⟨Nat.le_of_ble_eq_true rfl, Nat.le_of_ble_eq_true rfl⟩) 0 rfl (T := TcM) (N := 18) rfl rfl rfl (Nat.le_of_ble_eq_true rfl) ⟨Nat.zero_le _, Nat.zero_le _⟩ dM_show_7 ?_
  refine v_if_ne C dM_show_10 (tgt := 19) (by decide) (fun h1 => ?_) (fun h1 => ?_)
  · skip
    have hx : vp_in x 14 := vp_arcM (F := upd F 2 0) (a := a) (by assumption) hn hn4
    refine v_aload_n C 0 dM_show_19 rfl rfl ?_
    refine v_aload_n C 0 dM_show_20 rfl rfl ?_
    refine v_get C (T := TcM) (N := 18) (ci := 2) (v := .ref (b 2)) inM_show_M 0 rfl rfl 11 (by decide) (by decide +kernel) rfl rfl dM_show_21 ?_
    refine v_iload_n C 1 dM_show_24 rfl rfl ?_
    refine v_iald C 2 0 (f := a 11) (y := (a 11) x.toNatClampNeg) (j := x.toNatClampNeg) rfl rfl rfl rfl hx dM_show_25 ?_
    refine v_cVrF (As := [.int ((a 11) x.toNatClampNeg)]) C (c_mIsPath l D cI cZ cJ b (upd F 2 0) a mm ((a 11) x.toNatClampNeg) hm hm6 hmem) (cwV 1 C.2.2.2.2.1 gM_show_M_isPath rfl rfl rfl (by decide +kernel) ⟨Nat.le_of_ble_eq_true rfl, Nat.le_of_ble_eq_true rfl⟩) 0 rfl (T := TcM) (N := 18) rfl rfl rfl (Nat.le_of_ble_eq_true rfl) ⟨Nat.zero_le _, Nat.zero_le _⟩ dM_show_26 ?_
    refine v_if_ne C dM_show_29 (tgt := 38) (by decide) (fun h2 => ?_) (fun h2 => ?_)
    · skip
      have hm1 : 1 ≤ mm := path_pos (F := upd F 2 0) (a := a) (by assumption)
      have hlast : vp_in (mMember (F 17) (nI mm - 1)) 6 := by rw [show nI mm - 1 = nI (mm - 1) from pk_sub (b := 1) hm1]; exact hmem _ (by omega)
      refine v_aload_n C 0 dM_show_38 rfl rfl ?_
      refine v_get C (T := TcM) (N := 18) (ci := 2) (v := .int (F 4)) inM_show_M 0 rfl rfl 4 (by decide) (by decide +kernel) rfl rfl dM_show_39 ?_
      refine v_if_eq C dM_show_42 (tgt := 83) (by decide) (fun h3 => ?_) (fun h3 => ?_)
      · skip
        refine v_aload_n C 0 dM_show_83 rfl rfl ?_
        refine v_iconst C (v := 3) dM_show_84 (by decide) ?_
        refine v_cViF (As := [.int 3]) C (c_mFail l D cI cZ cJ b (upd F 2 0) a 3) (cwV 1 C.2.2.2.2.1 gM_show_M_fail rfl rfl rfl (by decide +kernel) ⟨Nat.le_of_ble_eq_true rfl, Nat.le_of_ble_eq_true rfl⟩) 0 rfl (T := TcM) (N := 18) rfl rfl rfl (Nat.le_of_ble_eq_true rfl) ⟨Nat.zero_le _, Nat.zero_le _⟩ dM_show_85 ?_
        have hE : ((mFail (upd F 2 0) a 3).1, (mFail (upd F 2 0) a 3).2, a) = mShow F a n mm x := (by unfold mShow; rw [if_neg h1, if_neg h2, if_pos h3])
        exact v_iret C hr (by rw [← hE]) (by rw [← hE]) dM_show_88
      · skip
        refine v_aload_n C 0 dM_show_45 rfl rfl ?_
        refine v_get C (T := TcM) (N := 18) (ci := 2) (v := .ref (b 3)) inM_show_M 0 rfl rfl 12 (by decide) (by decide +kernel) rfl rfl dM_show_46 ?_
        refine v_iload_n C 1 dM_show_49 rfl rfl ?_
        refine v_iald C 3 0 (f := a 12) (y := (a 12) x.toNatClampNeg) (j := x.toNatClampNeg) rfl rfl rfl rfl hx dM_show_50 ?_
        refine v_iconst C (v := 1) dM_show_51 (by decide) ?_
        refine v_icmp_ne C dM_show_52 (tgt := 83) (by decide) (fun h4 => ?_) (fun h4 => ?_)
        · skip
          refine v_aload_n C 0 dM_show_83 rfl rfl ?_
          refine v_iconst C (v := 3) dM_show_84 (by decide) ?_
          refine v_cViF (As := [.int 3]) C (c_mFail l D cI cZ cJ b (upd F 2 0) a 3) (cwV 1 C.2.2.2.2.1 gM_show_M_fail rfl rfl rfl (by decide +kernel) ⟨Nat.le_of_ble_eq_true rfl, Nat.le_of_ble_eq_true rfl⟩) 0 rfl (T := TcM) (N := 18) rfl rfl rfl (Nat.le_of_ble_eq_true rfl) ⟨Nat.zero_le _, Nat.zero_le _⟩ dM_show_85 ?_
          have hE : ((mFail (upd F 2 0) a 3).1, (mFail (upd F 2 0) a 3).2, a) = mShow F a n mm x := (by unfold mShow; rw [if_neg h1, if_neg h2, if_neg h3, if_neg h4])
          exact v_iret C hr (by rw [← hE]) (by rw [← hE]) dM_show_88
        · skip
          refine v_aload_n C 0 dM_show_55 rfl rfl ?_
          refine v_get C (T := TcM) (N := 18) (ci := 2) (v := .ref (b 4)) inM_show_M 0 rfl rfl 13 (by decide) (by decide +kernel) rfl rfl dM_show_56 ?_
          refine v_iload_n C 1 dM_show_59 rfl rfl ?_
          refine v_iald C 4 0 (f := a 13) (y := (a 13) x.toNatClampNeg) (j := x.toNatClampNeg) rfl rfl rfl rfl hx dM_show_60 ?_
          refine v_aload_n C 0 dM_show_61 rfl rfl ?_
          refine v_get C (T := TcM) (N := 18) (ci := 2) (v := .int (F 17)) inM_show_M 0 rfl rfl 17 (by decide) (by decide +kernel) rfl rfl dM_show_62 ?_
          refine v_aload_n C 0 dM_show_65 rfl rfl ?_
          refine v_get C (T := TcM) (N := 18) (ci := 2) (v := .int (F 17)) inM_show_M 0 rfl rfl 17 (by decide) (by decide +kernel) rfl rfl dM_show_66 ?_
          refine v_cSr0 (As := [.int (F 17)]) C (c_mMany l D cI cZ cJ (F 17)) (va_cwS 1 C.2.2.2.2.1 gM_show_M_many rfl rfl rfl (by decide +kernel) ⟨Nat.le_of_ble_eq_true rfl, Nat.le_of_ble_eq_true rfl⟩) rfl rfl (Nat.le_of_ble_eq_true rfl) ⟨Nat.zero_le _, Nat.zero_le _⟩ dM_show_69 ?_
          refine v_iconst C (v := 1) dM_show_72 (by decide) ?_
          refine v_isub C dM_show_73 ?_
          refine v_cSr0 (As := [.int (F 17), .int ((mMany (F 17)) - (1 : Int32))]) C (c_mMember l D cI cZ cJ (F 17) ((mMany (F 17)) - (1 : Int32))) (va_cwS 2 C.2.2.2.2.1 gM_show_M_member rfl rfl rfl (by decide +kernel) ⟨Nat.le_of_ble_eq_true rfl, Nat.le_of_ble_eq_true rfl⟩) rfl rfl (Nat.le_of_ble_eq_true rfl) ⟨Nat.zero_le _, Nat.zero_le _⟩ dM_show_74 ?_
          refine v_cSr0 (As := [.int ((a 13) x.toNatClampNeg), .int (mMember (F 17) ((mMany (F 17)) - (1 : Int32)))]) C (c_mHas l D cI cZ cJ ((a 13) x.toNatClampNeg) (mMember (F 17) ((mMany (F 17)) - (1 : Int32)))) (va_cwS 2 C.2.2.2.2.1 gM_show_M_has rfl rfl rfl (by decide +kernel) ⟨Nat.le_of_ble_eq_true rfl, Nat.le_of_ble_eq_true rfl⟩) rfl rfl (Nat.le_of_ble_eq_true rfl) ⟨Nat.zero_le _, Nat.zero_le _⟩ dM_show_77 ?_
          refine v_if_eq C dM_show_80 (tgt := 89) (by decide) (fun h5 => ?_) (fun h5 => ?_)
          · skip
            refine v_aload_n C 0 dM_show_89 rfl rfl ?_
            refine v_aload_n C 0 dM_show_90 rfl rfl ?_
            refine v_get C (T := TcM) (N := 18) (ci := 2) (v := .int (F 17)) inM_show_M 0 rfl rfl 17 (by decide) (by decide +kernel) rfl rfl dM_show_91 ?_
            refine v_cSr0 (As := [.int (F 17)]) C (c_mMany l D cI cZ cJ (F 17)) (va_cwS 1 C.2.2.2.2.1 gM_show_M_many rfl rfl rfl (by decide +kernel) ⟨Nat.le_of_ble_eq_true rfl, Nat.le_of_ble_eq_true rfl⟩) rfl rfl (Nat.le_of_ble_eq_true rfl) ⟨Nat.zero_le _, Nat.zero_le _⟩ dM_show_94 ?_
            refine v_iconst C (v := 1) dM_show_97 (by decide) ?_
            refine v_isub C dM_show_98 ?_
            refine v_cVrF (As := [.int ((mMany (F 17)) - (1 : Int32))]) C (c_mIsInTime l D cI cZ cJ b (upd F 2 0) a ((mMany (F 17)) - (1 : Int32))) (cwV 1 C.2.2.2.2.1 gM_show_M_isInTime rfl rfl rfl (by decide +kernel) ⟨Nat.le_of_ble_eq_true rfl, Nat.le_of_ble_eq_true rfl⟩) 0 rfl (T := TcM) (N := 18) rfl rfl rfl (Nat.le_of_ble_eq_true rfl) ⟨Nat.zero_le _, Nat.zero_le _⟩ dM_show_99 ?_
            refine v_if_eq C dM_show_102 (tgt := 112) (by decide) (fun h6 => ?_) (fun h6 => ?_)
            · skip
              refine v_aload_n C 0 dM_show_112 rfl rfl ?_
              refine v_iconst C (v := 4) dM_show_113 (by decide) ?_
              refine v_cViF (As := [.int 4]) C (c_mFail l D cI cZ cJ b (upd F 2 0) a 4) (cwV 1 C.2.2.2.2.1 gM_show_M_fail rfl rfl rfl (by decide +kernel) ⟨Nat.le_of_ble_eq_true rfl, Nat.le_of_ble_eq_true rfl⟩) 0 rfl (T := TcM) (N := 18) rfl rfl rfl (Nat.le_of_ble_eq_true rfl) ⟨Nat.zero_le _, Nat.zero_le _⟩ dM_show_114 ?_
              have hE : ((mFail (upd F 2 0) a 4).1, (mFail (upd F 2 0) a 4).2, a) = mShow F a n mm x := (by unfold mShow; rw [if_neg h1, if_neg h2, if_neg h3, if_pos h4, if_pos h5, if_pos h6])
              exact v_iret C hr (by rw [← hE]) (by rw [← hE]) dM_show_117
            · skip
              refine v_aload_n C 0 dM_show_105 rfl rfl ?_
              refine v_cVrF (As := []) C (c_mIsKnown l D cI cZ cJ b (upd F 2 0) a mm n hn hn4 hm hm6 hmem hlast) (cwV 0 C.2.2.2.2.1 gM_show_M_isKnown rfl rfl rfl (by decide +kernel) ⟨Nat.le_of_ble_eq_true rfl, Nat.le_of_ble_eq_true rfl⟩) 0 rfl (T := TcM) (N := 18) rfl rfl rfl (Nat.le_of_ble_eq_true rfl) ⟨Nat.zero_le _, Nat.zero_le _⟩ dM_show_106 ?_
              refine v_if_ne C dM_show_109 (tgt := 118) (by decide) (fun h7 => ?_) (fun h7 => ?_)
              · skip
                refine v_aload_n C 0 dM_show_118 rfl rfl ?_
                refine v_iload_n C 1 dM_show_119 rfl rfl ?_
                refine v_aload_n C 0 dM_show_120 rfl rfl ?_
                refine v_get C (T := TcM) (N := 18) (ci := 2) (v := .int (F 17)) inM_show_M 0 rfl rfl 17 (by decide) (by decide +kernel) rfl rfl dM_show_121 ?_
                refine v_cVvF (As := [.int x, .int (F 17)]) C (c_mUnlock l D cI cZ cJ b (upd F 2 0) a x (F 17) hx (vp_key4 hx (by rw [hm]; exact hlast))) (cwV 2 C.2.2.2.2.1 gM_show_M_unlock rfl rfl rfl (by decide +kernel) ⟨Nat.le_of_ble_eq_true rfl, Nat.le_of_ble_eq_true rfl⟩) 0 rfl (T := TcM) (N := 18) rfl rfl rfl (Nat.le_of_ble_eq_true rfl) ⟨Nat.zero_le _, Nat.zero_le _⟩ dM_show_124 ?_
                refine v_aload_n C 0 dM_show_127 rfl rfl ?_
                refine v_iconst C (v := 0) dM_show_128 (by decide) ?_
                refine v_put C (T := TcM) (N := 18) (ci := 2) (v := .int 0) inM_show_M tycM tycM_ok nmcM 0 rfl rfl 17 (by decide) (by decide +kernel) rfl rfl rfl rfl (Nat.le_of_ble_eq_true rfl) dM_show_129 (w1 := wM cI cZ b (upd (upd F 2 0) 17 0) (mUnlock (upd F 2 0) a x (F 17))) rfl ?_
                refine v_aload_n C 0 dM_show_132 rfl rfl ?_
                refine v_get C (T := TcM) (N := 18) (ci := 2) (v := .ref (b 4)) inM_show_M 0 rfl rfl 13 (by decide) (by decide +kernel) rfl rfl dM_show_133 ?_
                refine v_iload_n C 1 dM_show_136 rfl rfl ?_
                refine v_iald C 4 0 (f := (mUnlock (upd F 2 0) a x (F 17)) 13) (y := ((mUnlock (upd F 2 0) a x (F 17)) 13) x.toNatClampNeg) (j := x.toNatClampNeg) rfl rfl rfl rfl hx dM_show_137 ?_
                refine v_cSr0 (As := [.int (((mUnlock (upd F 2 0) a x (F 17)) 13) x.toNatClampNeg)]) C (c_mSize l D cI cZ cJ (((mUnlock (upd F 2 0) a x (F 17)) 13) x.toNatClampNeg)) (va_cwS 1 C.2.2.2.2.1 gM_show_M_size rfl rfl rfl (by decide +kernel) ⟨Nat.le_of_ble_eq_true rfl, Nat.le_of_ble_eq_true rfl⟩) rfl rfl (Nat.le_of_ble_eq_true rfl) ⟨Nat.zero_le _, Nat.zero_le _⟩ dM_show_138 ?_
                have hE : (mSize (((mUnlock (upd F 2 0) a x (F 17)) 13) x.toNatClampNeg), upd (upd F 2 0) 17 0, (mUnlock (upd F 2 0) a x (F 17))) = mShow F a n mm x := (by unfold mShow; rw [if_neg h1, if_neg h2, if_neg h3, if_pos h4, if_pos h5, if_neg h6, if_neg h7])
                exact v_iret C hr (by rw [← hE]) (by rw [← hE]) dM_show_141
              · skip
                refine v_aload_n C 0 dM_show_112 rfl rfl ?_
                refine v_iconst C (v := 4) dM_show_113 (by decide) ?_
                refine v_cViF (As := [.int 4]) C (c_mFail l D cI cZ cJ b (upd F 2 0) a 4) (cwV 1 C.2.2.2.2.1 gM_show_M_fail rfl rfl rfl (by decide +kernel) ⟨Nat.le_of_ble_eq_true rfl, Nat.le_of_ble_eq_true rfl⟩) 0 rfl (T := TcM) (N := 18) rfl rfl rfl (Nat.le_of_ble_eq_true rfl) ⟨Nat.zero_le _, Nat.zero_le _⟩ dM_show_114 ?_
                have hE : ((mFail (upd F 2 0) a 4).1, (mFail (upd F 2 0) a 4).2, a) = mShow F a n mm x := (by unfold mShow; rw [if_neg h1, if_neg h2, if_neg h3, if_pos h4, if_pos h5, if_neg h6, if_pos h7])
                exact v_iret C hr (by rw [← hE]) (by rw [← hE]) dM_show_117
          · skip
            refine v_aload_n C 0 dM_show_83 rfl rfl ?_
            refine v_iconst C (v := 3) dM_show_84 (by decide) ?_
            refine v_cViF (As := [.int 3]) C (c_mFail l D cI cZ cJ b (upd F 2 0) a 3) (cwV 1 C.2.2.2.2.1 gM_show_M_fail rfl rfl rfl (by decide +kernel) ⟨Nat.le_of_ble_eq_true rfl, Nat.le_of_ble_eq_true rfl⟩) 0 rfl (T := TcM) (N := 18) rfl rfl rfl (Nat.le_of_ble_eq_true rfl) ⟨Nat.zero_le _, Nat.zero_le _⟩ dM_show_85 ?_
            have hE : ((mFail (upd F 2 0) a 3).1, (mFail (upd F 2 0) a 3).2, a) = mShow F a n mm x := (by unfold mShow; rw [if_neg h1, if_neg h2, if_neg h3, if_pos h4, if_neg h5])
            exact v_iret C hr (by rw [← hE]) (by rw [← hE]) dM_show_88
    · skip
      refine v_aload_n C 0 dM_show_32 rfl rfl ?_
      refine v_iconst C (v := 2) dM_show_33 (by decide) ?_
      refine v_cViF (As := [.int 2]) C (c_mFail l D cI cZ cJ b (upd F 2 0) a 2) (cwV 1 C.2.2.2.2.1 gM_show_M_fail rfl rfl rfl (by decide +kernel) ⟨Nat.le_of_ble_eq_true rfl, Nat.le_of_ble_eq_true rfl⟩) 0 rfl (T := TcM) (N := 18) rfl rfl rfl (Nat.le_of_ble_eq_true rfl) ⟨Nat.zero_le _, Nat.zero_le _⟩ dM_show_34 ?_
      have hE : ((mFail (upd F 2 0) a 2).1, (mFail (upd F 2 0) a 2).2, a) = mShow F a n mm x := (by unfold mShow; rw [if_neg h1, if_pos h2])
      exact v_iret C hr (by rw [← hE]) (by rw [← hE]) dM_show_37
  · skip
    refine v_aload_n C 0 dM_show_13 rfl rfl ?_
    refine v_iconst C (v := 1) dM_show_14 (by decide) ?_
    refine v_cViF (As := [.int 1]) C (c_mFail l D cI cZ cJ b (upd F 2 0) a 1) (cwV 1 C.2.2.2.2.1 gM_show_M_fail rfl rfl rfl (by decide +kernel) ⟨Nat.le_of_ble_eq_true rfl, Nat.le_of_ble_eq_true rfl⟩) 0 rfl (T := TcM) (N := 18) rfl rfl rfl (Nat.le_of_ble_eq_true rfl) ⟨Nat.zero_le _, Nat.zero_le _⟩ dM_show_15 ?_
    have hE : ((mFail (upd F 2 0) a 1).1, (mFail (upd F 2 0) a 1).2, a) = mShow F a n mm x := (by unfold mShow; rw [if_pos h1])
    exact v_iret C hr (by rw [← hE]) (by rw [← hE]) dM_show_18
end

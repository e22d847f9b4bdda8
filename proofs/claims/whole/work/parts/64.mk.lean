/-! Making: arrays, objects, constructors' calls. -/
theorem ra_int {s : State} {c1 c2 : ClassId} (h1 : va_RA s c1 .int) (h2 : va_RA s c2 .int) : c1 = c2 := Option.some.inj ((va_nm_int h1).symm.trans (va_nm_int h2))
theorem ra_bool {s : State} {c1 c2 : ClassId} (h1 : va_RA s c1 .boolean) (h2 : va_RA s c2 .boolean) : c1 = c2 := Option.some.inj ((va_nm_boolean h1).symm.trans (va_nm_boolean h2))
theorem ra_long {s : State} {c1 c2 : ClassId} (h1 : va_RA s c1 .long) (h2 : va_RA s c2 .long) : c1 = c2 := Option.some.inj ((va_nm_long h1).symm.trans (va_nm_long h2))
def Kc (l : Launch) (y : MethodName) (ws : List Cond) (rm : Room) (D : va_G) (cl : List vw_C) (tys : List (ClassId × FieldType)) (av : List Value) (w : va_W) (mc ms : Nat) {β : Type} (post : β → Prop) (w1 : β → va_W) : Prop :=
  ∀ sz : Nat, Met l y ws rm (va_Pc av (wP D cl tys w sz)) (va_Qv post (fun u => wB D cl tys (va_A w sz) (w1 u)) (va_A w sz)) mc ms (va_A w sz)
section VMK
variable {p : Program} {l : Launch} {e : Env} {R : Room} {s : State} {m : MethodId} {args : Array Value} {below : List Frame} {meth : Method} {c : Code} {cells slots : Nat} {Q : State → Prop}
variable {cc : ByteArray} {pc nL : Nat} {st : List Value} {D : va_G} {cl : List vw_C} {tys : List (ClassId × FieldType)} {A : Nat → Prop} {Z : Heap → List Loc → Prop} {w : va_W} {lv : List (Nat × Value)} {Ts : List Cond} {own : String}
theorem v_newa (C : vc p s m args meth c cc nL D cl tys A Ts own) {atype : ArrayType} {ty : FieldType} (hty : newarray.typeOf atype = ty) (harr : Cond.arrayClass ty ∈ Ts) (t0 : Nat) {cA : ClassId} (ht : tys[t0]? = some (cA, ty)) (hra : ∀ c1 c2 : ClassId, va_RA s c1 ty → va_RA s c2 ty → c1 = c2) {n : Int32} {N' : Nat} {a0 : vp_A} (ha : ∀ cA : ClassId, vp_cell cA a0 = arrV cA N' (fun _ => defaultValue ty)) (hn : ¬ n < 0) (hN : n.toNatClampNeg = N') (hbytes : N' * componentBytes ty ≤ 536870912) (hcells : cells + 1 ≤ R.cells) (hslots : slots + N' ≤ R.slots) (hdg : decode cc pc = .ok (.newarray atype, 2))
    (kk : ∀ q : Nat, vv p l e R s m args below meth c nL D cl A vT (cells + 1) (slots + N') Q (w ++ [(q, .inl (cA, a0))]) lv (pc + 2) (.ref q :: st)) : vv p l e R s m args below meth c nL D cl A Z cells slots Q w lv pc (.int n :: st) := by
  subst hty
  intro H locs ls hZ hl hP hD hS
  refine va_newa C.1 C.2.1 (C.2.2.2.2.1 _ harr) rfl C.2.2.2.2.2.1 hP hD hS C.2.2.2.2.2.2.1 ha hn hN hbytes hcells hslots hdg (fun q cA' H1 hK1 hP1 hD1 hS1 => ?_)
  have h1 := hK1.2 tys.length (cA', newarray.typeOf atype) (by simp)
  have h2 := C.2.2.2.2.2.1.2 t0 _ ht
  obtain rfl : cA' = cA := hra _ _ h1.2 h2.2
  exact kk q H1 locs ls trivial hl hP1 hD1 hS1
theorem v_new (C : vc p s m args meth c cc nL D cl tys A Ts own) {CN : String} {T : u_T} {N ci index : Nat} (hin : ∀ x ∈ u_ws CN T N, x ∈ Ts) (ty : Nat → FieldType) (hty : ∀ k, k < N → parseFieldDescriptor (T k).2.2.1 = some (ty k)) (hcl : Cond.classLink own index CN ∈ Ts) (hinst : Cond.instantiable CN N ∈ Ts) (hini : Cond.initialized CN ∈ Ts) (hc : cl[ci]? = some (CN, T, N)) {fs : List Value} (hfs : ∀ j, j < N → defaultValue (ty j) = vp_V fs j) (hcells : cells + 1 ≤ R.cells) (hslots : slots + N ≤ R.slots) (hdg : decode cc pc = .ok (.new index, 3))
    (kk : ∀ q : Nat, vv p l e R s m args below meth c nL D cl A vT (cells + 1) (slots + N) Q (w ++ [(q, .inr (ci, fs))]) lv (pc + 3) (.ref q :: st)) : vv p l e R s m args below meth c nL D cl A Z cells slots Q w lv pc st :=
  fun H locs ls hZ hl hP hD hS => va_new C.1 C.2.1 C.2.2.2.2.1 hin ty hty C.2.2.2.1 (C.2.2.2.2.1 _ hcl) (C.2.2.2.2.1 _ hinst) (C.2.2.2.2.1 _ hini) C.2.2.2.2.2.1 hP hD hS C.2.2.2.2.2.2.1 hc hfs hcells hslots hdg (fun q H1 hP1 hD1 hS1 => kk q H1 locs ls trivial hl hP1 hD1 hS1)
theorem v_obj (C : vc p s m args meth c cc nL D cl tys A Ts own) {idx : Nat} (h1 : Cond.methodLink own idx Lib.objectInit ∈ Ts) (h2 : Cond.instanceMethod Lib.objectInit ∈ Ts) (h3 : Cond.code Lib.objectInit ⟨#[0xb1]⟩ 1 none ∈ Ts) {a : Nat} (hfr : 1 ≤ R.frames) (hlo : 12 ≤ R.locals) (hdg : decode cc pc = .ok (.invokespecial idx, 3)) (kk : vv p l e R s m args below meth c nL D cl A Z cells slots Q w lv (pc + 3) []) : vv p l e R s m args below meth c nL D cl A Z cells slots Q w lv pc [.ref a] := by
  intro H locs ls hZ hl hP hD hS
  refine W.objInit C.1 C.2.1 C.2.2.2.1 (C.2.2.2.2.1 _ h1) (C.2.2.2.2.1 _ h2) (C.2.2.2.2.1 _ h3) rfl (by rw [C.2.2.1]; exact hl.1) rfl hdg hfr hlo ?_
  exact W.eq (g2 := F0 m (pc + 3) ls []) rfl (kk H locs ls hZ hl hP hD hS)
theorem v_sub {w' : va_W} (is : List Nat) (hnd : va_nd is = true) (h : is.map (fun i => w[i]?) = w'.map some) (kk : vv p l e R s m args below meth c nL D cl A Z cells slots Q w' lv pc st) : vv p l e R s m args below meth c nL D cl A Z cells slots Q w lv pc st :=
  fun H locs ls hZ hl hP hD hS => kk H locs ls hZ hl (hP.sub is (fm_of_map h)) (hD.sub is hnd h) hS
theorem v_vretU (C : vc p s m args meth c cc nL D cl tys A Ts own) (hr : meth.sig.returnType = none) {β : Type} {post : β → Prop} {w1 : β → va_W} (u : β) (hpost : post u) (hw : w = w1 u) (hdg : decode cc pc = .ok (.return_, 1)) :
    vv p l e R s m args below meth c nL D cl A Z cells slots (MQ below (va_Qv post (fun u => wB D cl tys A (w1 u)) A) args s cells slots A) w lv pc [] :=
  fun H locs ls hZ hl hP hD hS => W.vret C.1 C.2.1 hr (fun t ht hW => ⟨⟨u, rfl, hpost, by rw [ht, ← hw]; exact hP, va_K.moved hW.alike C.2.2.2.2.2.1, hw ▸ hD⟩, hS.F ht⟩) hS.2.2 hdg C.2.2.2.2.2.2.2
theorem v_cI {y : MethodName} {ws : List Cond} {rm : Room} {index maxL n mc ms : Nat} {bytes : ByteArray} {wc wr : va_W} {As st0 : List Value} {b : Nat} {β : Type} {post : β → Prop} {w1 : β → va_W} (C : vc p s m args meth c cc nL D cl tys A Ts own) (hM : Kc l y ws rm D cl tys (.ref b :: As) wc mc ms post w1) (cw : CallB R s args own index y bytes maxL none ws rm mc ms n ∧ y.name = "<init>" ∧ (Cond.instanceMethod y).before args s = true) (hnA : As.length = n) (hst : st0 = As.reverse ++ .ref b :: st) (hwt : (st.map fun v => v.category).sum ≤ 8) (hcs : cells + mc ≤ R.cells ∧ slots + ms ≤ R.slots) (hdg : decode cc pc = .ok (.invokespecial index, 3)) (isC isR : List Nat) (hnC : va_nd isC = true) (hC : isC.map (fun i => w[i]?) = wc.map some) (hR : isR.map (fun i => w[i]?) = wr.map some) (hn : va_nd isR = true) (hdis : ∀ i ∈ isR, i ∉ isC)
    (kk : ∀ u : β, post u → vv p l e R s m args below meth c nL D cl A vT (cells + mc) (slots + ms) Q (wr ++ w1 u) lv (pc + 3) st) : vv p l e R s m args below meth c nL D cl A Z cells slots Q w lv pc st0 := by
  intro H locs ls hZ hl hP hD hS
  have hPc : va_P D cl wc H := hP.sub isC (fm_of_map hC)
  have hFc := va_free (wc := wc) hD hS C.2.2.2.2.2.2.1 isC hC
  have hDc : va_D (fun _ => True) wc := (hD.sub isC hnC hC).weaken (fun _ _ _ _ => trivial)
  refine va_callv (va_runI (b := b) (As := As) (rest := st) ⟨C.1, C.2.1, C.2.2.1, C.2.2.2.1, C.2.2.2.2.1⟩ (hM H.size) cw ⟨wP_blind, fun U hU hW => ⟨rfl, by rw [hU], by rw [hU]; exact hPc, va_K.moved hW.alike C.2.2.2.2.2.1, hDc⟩⟩ rfl hnA hl.1 hst (lv_room hwt) hdg hcs) hS (fun q _ h => hFc q h) hFc (fun u t H1 locs1 ht hvm hw hB hz1 hk1 hS1 => ?_)
  obtain ⟨hP1, hK1, hD1⟩ := hB
  rw [ht] at hP1
  obtain ⟨hP2, hD2⟩ := va_join (wr := wr) (w1 := w1 u) hP hD isC isR hC hR hn hdis hk1 hFc hP1 hD1
  exact kk u hw H1 locs1 ls trivial hl hP2 hD2 hS1
end VMK
def mk8 (x0 x1 x2 x3 x4 x5 x6 x7 : Nat) : Nat → Nat
  | 0 => x0
  | 1 => x1
  | 2 => x2
  | 3 => x3
  | 4 => x4
  | 5 => x5
  | 6 => x6
  | _ => x7
def pN (x : Int32) : Int32 := if (6 : Int32) < (2 : Int32) + (x &&& (7 : Int32)) then 6 else (2 : Int32) + (x &&& (7 : Int32))
def pNm (x : Int32) : Int32 := if (2 : Int32) + (x &&& (7 : Int32)) ≤ (6 : Int32) then (2 : Int32) + (x &&& (7 : Int32)) else 6
def dN (x : Int32) : Int32 := (2 : Int32) + (x &&& (7 : Int32))
def FX0 (x y : Int32) : FT := fun k => match k with
  | 0 => pN x
  | 1 => dN y
  | 20 => pN x
  | 21 => ((1 : Int32) <<< (pN x &&& 31)) - (1 : Int32)
  | _ => 0
def FM0 (x y : Int32) : FT := fun k => match k with
  | 0 => pNm x
  | 1 => dN y
  | _ => 0
def a00 : AT := fun _ _ => 0
def wG0 (g0 : Nat) : va_W := [(g0, .inr (1, [.int 0, .int 0, .null]))]
def wX0 (b0 : Nat) : va_W := [(b0, .inr (0, [.int 0, .int 0, .null, .null, .null, .null, .null, .null, .int 0, .int 0, .int 0, .int 0, .int 0, .int 0, .int 0, .int 0]))]
def wM0 (b0 : Nat) : va_W := [(b0, .inr (2, [.int 0, .int 0, .int 0, .int 0, .int 0, .int 0, .int 0, .int 0, .int 0, .int 0, .null, .null, .null, .null, .null, .null, .null, .int 0]))]
def wG1 (cI : ClassId) (g0 : Nat) (x : Int32) (q : Nat) : va_W := [(g0, .inr (1, [.int x, .int (((1 : Int32) <<< (x &&& 31)) - (1 : Int32)), .ref q])), (q, .inl (cI, 6, .inl (fun _ => 0)))]

/-! Calls that may throw, and what catches them. -/
def eAll : List String := [eA, eS, eU, eB]
def NC (U : State) : Prop := ∀ x ∈ eAll, ∀ y ∈ eAll, x ≠ y → va_Nc x y U
theorem NC.moved {u U : State} (hvm : u.vm.Alike U.vm) (h : NC u) : NC U := fun x hx y hy hn => (h x hx y hy hn).moved hvm
def YP (A : Nat → Prop) (U : State) (H : Heap) : Prop := XP A U H ∧ NC U
def yP (D : va_G) (cl : List vw_C) (tys : List (ClassId × FieldType)) (w : va_W) (sz : Nat) (U : State) : Prop := wP D cl tys w sz U ∧ YP (va_A w sz) U U.heap
theorem yP_blind {D : va_G} {cl : List vw_C} {tys : List (ClassId × FieldType)} {w : va_W} {sz : Nat} {av : List Value} : FrameBlind (va_Pc av (yP D cl tys w sz)) := by
  intro a U g mk q
  obtain ⟨q0, ⟨q1, qP, qK, qD⟩, qX, qN⟩ := q
  exact ⟨q0, ⟨q1, qP, va_K.moved (u := U) (U := U.calling g mk a) (Vm.Alike.refl U.vm) qK, qD⟩, XP.same (s := U) (U := U.calling g mk a) rfl qX, NC.moved (u := U) (U := U.calling g mk a) (Vm.Alike.refl U.vm) qN⟩
theorem XP.go {A B : Nat → Prop} {s U : State} {H : Heap} {locs : List Loc} (hX : XP A s s.heap) (hS : va_S A s.heap H locs) (hW : s.WarmedH U.vm) (hU : U.heap = H) (hF : ∀ q, B q → A q) : XP B U U.heap := by
  rw [hU]; exact ((hX.warm hW).kept (fun a h1 h2 => hS.2.1 a h1 h2)).narrow hF
def Kh (l : Launch) (y : MethodName) (ws : List Cond) (rm : Room) (D : va_G) (cl : List vw_C) (tys : List (ClassId × FieldType)) (av : List Value) (w : va_W) (r : Int32) (w1 : va_W) : Prop :=
  ∀ sz : Nat, Met l y ws rm (va_Pc av (yP D cl tys w sz)) (va_Qi (fun (x : Int32) (_ : Unit) => x = r) (fun _ => wB D cl tys (va_A w sz) w1) (va_A w sz)) 1 6 (va_A w sz)
theorem v_entH {l : Launch} {y : MethodName} {ws ws' : List Cond} {rm : Room} {D : va_G} {cl : List vw_C} {tys : List (ClassId × FieldType)} {av : List Value} {w : va_W} {sz : Nat} {cc : ByteArray} {maxL mc ms : Nat} {ret : Option FieldType} {hh : List (Nat × Nat × Nat × Nat)} {Qc : (Nat → Prop) → Array Value → State → Outcome → State → Prop} {own : String}
    (ho : y.cls = own) (hy : plainName y.cls = true) (hw : ws = Cond.codeWith y cc maxL ret hh :: ws') (hlen : (lg_sl av).length ≤ maxL) {lv : List (Nat × Value)} (hlv : lv_args 0 av = lv)
    (body : ∀ (p : Program) (e : Env) (s : State) (m : MethodId) (args : Array Value) (below : List Frame) (meth : Method) (c : Code) (A : Nat → Prop), vc p s m args meth c cc maxL D cl tys A ws own → meth.sig.returnType = ret → YP A s s.heap → c.exceptionTable.toList = tableOf hh →
      vv p l e (headSpec ws rm).room s m args below meth c maxL D cl A (vR s) 0 0 (MQ below (Qc A) args s mc ms A) w lv 0 []) :
    Met l y ws rm (va_Pc av (yP D cl tys w sz)) (Qc (va_A w sz)) mc ms (va_A w sz) := by
  refine va_MetW (cc := cc) (maxL := maxL) (ret := ret) (hh := hh) hy hw ?_
  intro p e s m args below meth c s₁ B hml hv
  obtain ⟨rfl, ⟨hsz, hP, hK, hD0⟩, hX⟩ := hv
  subst hsz
  have hts := atoms_spec (ws := ws) B.pre
  have hown : s.vm.findClass own = some m.cls := ho ▸ findClass_of_methodNamed B.named
  have htab := vx_table (x := y) B (hts _ (by rw [hw]; exact List.mem_cons_self))
  rw [lg_entry_eq]
  exact body p e s m _ below meth c (va_A w s.heap.size) ⟨B.exec, B.bytes, hml, hown, hts, hK, fun q h => Or.inr h, B.notSynchronized⟩ B.returns hX htab s.heap [] _ ⟨rfl, rfl⟩ (hlv ▸ lv_entry av hlen) hP hD0.self va_S.rf
/-- a thrown q over the frame at pc -/
def vvx (p : Program) (l : Launch) (e : Env) (R : Room) (s : State) (m : MethodId) (args : Array Value) (below : List Frame) (meth : Method) (c : Code) (nL : Nat) (D : va_G) (cl : List vw_C) (A : Nat → Prop) (cells slots : Nat) (Q : State → Prop) (w : va_W) (lv : List (Nat × Value)) (pc : Nat) (st : List Value) (E9 : String) : Prop :=
  ∀ (H : Heap) (locs : List Loc) (ls : Array Slot) (q : Addr) (ce : Cell), lv_has ls nL lv → va_P D cl w H → va_D A w → va_S A s.heap H locs → H[q]? = some ce → ce.vm = .none → s.vm.findClass E9 = some ce.cls → vx_W p l e R s m args below meth c H locs cells slots Q (F0 m pc ls st) q
section VTR
variable {p : Program} {l : Launch} {e : Env} {R : Room} {s : State} {m : MethodId} {args : Array Value} {below : List Frame} {meth : Method} {c : Code} {cells slots : Nat} {Q : State → Prop}
variable {cc : ByteArray} {pc nL : Nat} {st : List Value} {D : va_G} {cl : List vw_C} {tys : List (ClassId × FieldType)} {A : Nat → Prop} {Z : Heap → List Loc → Prop} {w : va_W} {lv : List (Nat × Value)} {Ts : List Cond} {own : String}
variable {y : MethodName} {ws : List Cond} {rm : Room} {CN : String} {index maxL n : Nat} {bytes : ByteArray} {ret : Option FieldType} {wc w1 wr w' : va_W} {r : Int32} {E : Option String} {As st0 : List Value} {b ci N : Nat} {fs : List Value} {T : u_T}
theorem v_tVi (C : vc p s m args meth c cc nL D cl tys A Ts own) (hX : XP A s s.heap) (hM : Kxi l y ws rm D cl tys (.ref b :: As) wc E r w1) (cw : CallW R s args own CN index y bytes maxL ret ws rm 1 6 n) (q0 : Nat) (he : wc[q0]? = some (b, .inr (ci, fs))) (hc : cl[ci]? = some (CN, T, N)) (hnA : As.length = n) (hst : st0 = As.reverse ++ .ref b :: st) (hwt : (st.map fun v => v.category).sum ≤ 8) (hcs : cells + 1 ≤ R.cells ∧ slots + 6 ≤ R.slots) (hdg : decode cc pc = .ok (.invokevirtual index, 3)) (isC isR isF : List Nat) (hnC : va_nd isC = true) (hC : isC.map (fun i => w[i]?) = wc.map some) (hR : isR.map (fun i => w[i]?) = wr.map some) (hn : va_nd isR = true) (hdis : ∀ i ∈ isR, i ∉ isC) (hnF : va_nd isF = true) (hF : isF.map (fun i => (wr ++ w1)[i]?) = w'.map some) (hF0 : isF.map (fun i => (wr ++ wc)[i]?) = w.map some)
    (kx : ∀ E9 : String, E = some E9 → vvx p l e R s m args below meth c nL D cl A (cells + 1) (slots + 6) Q w lv pc st E9)
    (kk : E = none → vv p l e R s m args below meth c nL D cl A vT (cells + 1) (slots + 6) Q w' lv (pc + 3) (.int r :: st)) : vv p l e R s m args below meth c nL D cl A Z cells slots Q w lv pc st0 := by
  intro H locs ls hZ hl hP hD hS
  have hPc : va_P D cl wc H := hP.sub isC (fm_of_map hC)
  have hFc := va_free (wc := wc) hD hS C.2.2.2.2.2.2.1 isC hC
  have hDc : va_D (fun _ => True) wc := (hD.sub isC hnC hC).weaken (fun _ _ _ _ => trivial)
  refine vx_calli (vx_runV (b := b) (As := As) (rest := st) ⟨C.1, C.2.1, C.2.2.1, C.2.2.2.1, C.2.2.2.2.1⟩ (hM H.size) cw ⟨xP_blind, va_recv C.2.2.2.2.2.1 hPc hc he, fun U hU hW => ⟨rfl, ⟨by rw [hU], by rw [hU]; exact hPc, va_K.moved hW.alike C.2.2.2.2.2.1, hDc⟩, hX.go hS hW hU hFc⟩⟩ rfl hnA hl.1 hst (lv_room hwt) hdg hcs) hS (fun q _ h => hFc q h) hFc (fun q _ h => hFc q h) (fun E9 ce q9 u t H1 locs1 ht hvm hpx hB hz1 hk1 hS1 hcell hv hcl => ?_) (fun x u t H1 locs1 ht hvm hw hB hz1 hk1 hS1 => ?_)
  · obtain ⟨hE, hP1, hK1, hD1⟩ := hB
    rw [ht] at hP1
    obtain ⟨hP2, hD2⟩ := va_join (wr := wr) (w1 := wc) hP hD isC isR hC hR hn hdis hk1 hFc hP1 hD1
    exact kx E9 hE H1 locs1 ls q9 ce hl (hP2.sub isF (fm_of_map hF0)) (hD2.sub isF hnF hF0) hS1 hcell hv hcl
  · obtain ⟨hP1, hK1, hD1⟩ := hB
    rw [ht] at hP1
    obtain ⟨hx, hE⟩ := hw
    subst hx
    obtain ⟨hP2, hD2⟩ := va_join (wr := wr) (w1 := w1) hP hD isC isR hC hR hn hdis hk1 hFc hP1 hD1
    exact kk hE H1 locs1 ls trivial hl (hP2.sub isF (fm_of_map hF)) (hD2.sub isF hnF hF) hS1
theorem v_tVv (C : vc p s m args meth c cc nL D cl tys A Ts own) (hX : XP A s s.heap) (hM : Kxv l y ws rm D cl tys (.ref b :: As) wc E w1) (cw : CallW R s args own CN index y bytes maxL ret ws rm 1 6 n) (q0 : Nat) (he : wc[q0]? = some (b, .inr (ci, fs))) (hc : cl[ci]? = some (CN, T, N)) (hnA : As.length = n) (hst : st0 = As.reverse ++ .ref b :: st) (hwt : (st.map fun v => v.category).sum ≤ 8) (hcs : cells + 1 ≤ R.cells ∧ slots + 6 ≤ R.slots) (hdg : decode cc pc = .ok (.invokevirtual index, 3)) (isC isR isF : List Nat) (hnC : va_nd isC = true) (hC : isC.map (fun i => w[i]?) = wc.map some) (hR : isR.map (fun i => w[i]?) = wr.map some) (hn : va_nd isR = true) (hdis : ∀ i ∈ isR, i ∉ isC) (hnF : va_nd isF = true) (hF : isF.map (fun i => (wr ++ w1)[i]?) = w'.map some) (hF0 : isF.map (fun i => (wr ++ wc)[i]?) = w.map some)
    (kx : ∀ E9 : String, E = some E9 → vvx p l e R s m args below meth c nL D cl A (cells + 1) (slots + 6) Q w lv pc st E9)
    (kk : E = none → vv p l e R s m args below meth c nL D cl A vT (cells + 1) (slots + 6) Q w' lv (pc + 3) st) : vv p l e R s m args below meth c nL D cl A Z cells slots Q w lv pc st0 := by
  intro H locs ls hZ hl hP hD hS
  have hPc : va_P D cl wc H := hP.sub isC (fm_of_map hC)
  have hFc := va_free (wc := wc) hD hS C.2.2.2.2.2.2.1 isC hC
  have hDc : va_D (fun _ => True) wc := (hD.sub isC hnC hC).weaken (fun _ _ _ _ => trivial)
  refine vx_callv (vx_runV (b := b) (As := As) (rest := st) ⟨C.1, C.2.1, C.2.2.1, C.2.2.2.1, C.2.2.2.2.1⟩ (hM H.size) cw ⟨xP_blind, va_recv C.2.2.2.2.2.1 hPc hc he, fun U hU hW => ⟨rfl, ⟨by rw [hU], by rw [hU]; exact hPc, va_K.moved hW.alike C.2.2.2.2.2.1, hDc⟩, hX.go hS hW hU hFc⟩⟩ rfl hnA hl.1 hst (lv_room hwt) hdg hcs) hS (fun q _ h => hFc q h) hFc (fun q _ h => hFc q h) (fun E9 ce q9 u t H1 locs1 ht hvm hpx hB hz1 hk1 hS1 hcell hv hcl => ?_) (fun u t H1 locs1 ht hvm hw hB hz1 hk1 hS1 => ?_)
  · obtain ⟨hE, hP1, hK1, hD1⟩ := hB
    rw [ht] at hP1
    obtain ⟨hP2, hD2⟩ := va_join (wr := wr) (w1 := wc) hP hD isC isR hC hR hn hdis hk1 hFc hP1 hD1
    exact kx E9 hE H1 locs1 ls q9 ce hl (hP2.sub isF (fm_of_map hF0)) (hD2.sub isF hnF hF0) hS1 hcell hv hcl
  · obtain ⟨hP1, hK1, hD1⟩ := hB
    rw [ht] at hP1
    obtain ⟨hP2, hD2⟩ := va_join (wr := wr) (w1 := w1) hP hD isC isR hC hR hn hdis hk1 hFc hP1 hD1
    exact kk hw H1 locs1 ls trivial hl (hP2.sub isF (fm_of_map hF)) (hD2.sub isF hnF hF) hS1
theorem v_catch {E9 : String} (C : vc p s m args meth c cc nL D cl tys A Ts own) {hh : List (Nat × Nat × Nat × Nat)} (htab : c.exceptionTable.toList = tableOf hh) (hY : YP A s s.heap) (hE9 : E9 ∈ eAll) (pre suf : List (Nat × Nat × Nat × Nat)) (x : Nat × Nat × Nat × Nat) (hsp : hh = pre ++ x :: suf) (hpre : ∀ z ∈ pre, z.2.2.2 ≠ 0 ∧ ∃ nm ∈ eAll, Cond.classLink own z.2.2.2 nm ∈ Ts ∧ E9 ≠ nm) (hx : covers ⟨x.1, x.2.1, x.2.2.1, x.2.2.2⟩ pc = true) (h0 : x.2.2.2 ≠ 0) (hlink : Cond.classLink own x.2.2.2 E9 ∈ Ts) (hcast : Cond.castable E9 E9 ∈ XN) {ph : Nat} (hph : x.2.2.1 = ph)
    (kk : ∀ q : Nat, vv p l e R s m args below meth c nL D cl A vT cells slots Q w lv ph [.ref q]) : vvx p l e R s m args below meth c nL D cl A cells slots Q w lv pc st E9 := by
  intro H locs ls q ce hl hP hD hS hcell hv hcl
  subst hph
  refine vx_catch (own := own) (name := E9) C.2.2.2.1 (tableOf pre) ⟨x.1, x.2.1, x.2.2.1, x.2.2.2⟩ (tableOf suf) (by rw [htab, hsp]; simp [tableOf]) ?_ hx h0 (C.2.2.2.2.1 _ hlink) (va_Nw.use rfl (hY.1.2.2.2 _ hcast)) hcell hv hcl (kk q H locs ls trivial hl hP hD hS)
  intro z hz
  obtain ⟨z0, hz0, rfl⟩ := List.mem_map.mp hz
  obtain ⟨h1, nm, hnm, hln, hne⟩ := hpre z0 hz0
  exact Or.inr ⟨h1, nm, C.2.2.2.2.1 _ hln, hY.2 _ hE9 _ hnm hne⟩
theorem v_last (C : vc p s m args meth c cc nL D cl tys A Ts own) (q0 t0 : Nat) {cA : ClassId} {n a : Nat} {f : Nat → Int64} (ha : w[q0]? = some (a, .inl (cA, n, .inr (.inl f)))) (ht : tys[t0]? = some (cA, .long)) {i : Int32} {x : Int64} (hin : vp_in i n) (hdg : decode cc pc = .ok (.lastore, 1)) {w1 : va_W} (hw : w.set q0 (a, .inl (cA, n, .inr (.inl (vp_updL f i.toNatClampNeg x)))) = w1) (kk : vv p l e R s m args below meth c nL D cl A vT cells slots Q w1 lv (pc + 1) st) : vv p l e R s m args below meth c nL D cl A Z cells slots Q w lv pc (.long x :: .int i :: .ref a :: st) :=
  fun H locs ls hZ hl hP hD hS => va_last C.1 C.2.1 C.2.2.2.2.2.1 hP hD hS q0 t0 ha ht hin hdg (fun H1 locs1 hP1 hD1 hS1 => kk H1 locs1 ls trivial hl (hw ▸ hP1) (hw ▸ hD1) hS1)
theorem v_lcmp (C : vc p s m args meth c cc nL D cl tys A Ts own) {x y : Int64} (hdg : decode cc pc = .ok (.lcmp, 1)) (kk : vv p l e R s m args below meth c nL D cl A Z cells slots Q w lv (pc + 1) (.int (lg_cmp x y) :: st)) : vv p l e R s m args below meth c nL D cl A Z cells slots Q w lv pc (.long y :: .long x :: st) :=
  fun H locs ls hZ hl hP hD hS => W.lcmp C.1 C.2.1 hdg (kk H locs ls hZ hl hP hD hS)
end VTR
def wO (cJ : ClassId) (o : Nat) (f : Nat → Int64) : va_W := [(o, .inl (cJ, 1, .inr (.inl f)))]
def wXo (cI cJ : ClassId) (b : Nat → Nat) (F : FT) (a : AT) (o : Nat) (f : Nat → Int64) : va_W := wX cI b F a ++ wO cJ o f
def outF (k : Nat) (f : Nat → Int64) (r : Int32) : Nat → Int64 := if k = 0 then vp_updL f (0 : Int32).toNatClampNeg r.toInt64 else f
def hcA : Nat → Int32
  | 1 => 1
  | 2 => 2
  | _ => 0
def hcP : Nat → Int32
  | 3 => 1
  | 2 => 2
  | _ => 0
def hcC : Nat → Int32
  | 1 => 1
  | 2 => 2
  | 3 => 3
  | _ => 0
def hcD : Nat → Int32
  | 4 => 1
  | 2 => 2
  | _ => 0
def hcS : Nat → Int32
  | 4 => 1
  | 1 => 2
  | 2 => 3
  | 3 => 4
  | _ => 0
def hcB : Nat → Int32
  | 4 => 1
  | 2 => 2
  | 3 => 3
  | _ => 0

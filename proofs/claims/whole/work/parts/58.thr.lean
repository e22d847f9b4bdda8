/-! Throwing: the four classes, what their throws need of the tables and of the start, contracts that may throw. -/
def eA : String := "java/lang/IllegalArgumentException"
def eS : String := "java/lang/IllegalStateException"
def eU : String := "java/lang/UnsupportedOperationException"
def eB : String := "java/lang/IndexOutOfBoundsException"
abbrev eN : List String := ["java/lang/RuntimeException", "java/lang/Exception"]
/-- which class a number stands for -/
def exN : Nat → Option String
  | 1 => some eA
  | 2 => some eS
  | 3 => some eU
  | 4 => some eB
  | _ => none
abbrev wThA : List Cond := (vx_atS RcX 64 eA eN).filter goodWord
abbrev wThS : List Cond := (vx_atS RcX 78 eS eN).filter goodWord
abbrev wThU : List Cond := (vx_atS RcX 87 eU eN).filter goodWord
abbrev wThB : List Cond := (vx_atS RcX 138 eB eN).filter goodWord
def wThr : List Cond := [.classLink RcX 60 eA, .initialized eA, .classLink RcX 74 eS, .initialized eS, .classLink RcX 83 eU, .initialized eU, .classLink RcX 134 eB, .initialized eB] ++ (wThA ++ (wThS ++ (wThU ++ wThB)))
/-- words of the tables that a walk carries by hand -/
def XN : List Cond := [.declares (Bundle.initS "java/lang/RuntimeException"), .declares (Bundle.initS "java/lang/Exception"), .declares (Bundle.initS Bundle.tN), .castable eA eA, .castable eS eS, .castable eU eU, .castable eB eB]
def XS : List (Nat × String) := [(62, "an arc goes between two different parties, once"), (76, "no more arcs"), (85, "there is a plan"), (92, "the plan would not be strong"), (119, "no such party"), (121, "there is no plan"), (123, "the party deviates"), (129, "not so many times"), (136, "no such arc"), (139, "there is no plan, or the asset is not held"), (159, "no path from the payee to a leader"), (164, "no plan, not in escrow, or the lock is open"), (172, "too late, or another one's hashkey"), (183, "the asset is not in escrow"), (188, "too early")]
def XP (A : Nat → Prop) (U : State) (H : Heap) : Prop := vx_Zq Bundle.tN "UNASSIGNED_STACK" Bundle.steD A U H ∧ vx_Zq Bundle.tN "SUPPRESSED_SENTINEL" Bundle.listD A U H ∧ (∀ q ∈ XS, ∃ a, vk_R RcX q.1 q.2 a U) ∧ ∀ w ∈ XN, va_Nw w U
theorem XN_warm {s U : State} (hW : s.WarmedH U.vm) (h : ∀ w ∈ XN, va_Nw w s) : ∀ w ∈ XN, va_Nw w U := by
  have h0 := h
  simp only [XN, List.forall_mem_cons] at h0 ⊢
  obtain ⟨h1, h2, h3, h4, h5, h6, h7, -⟩ := h0
  exact ⟨h1.warmD hW, h2.warmD hW, h3.warmD hW, h4.warmC hW, h5.warmC hW, h6.warmC hW, h7.warmC hW, fun _ h => absurd h List.not_mem_nil⟩
theorem XN_on : ∀ w ∈ XN, w.onTables = true := by decide +kernel
theorem XP.warm {A : Nat → Prop} {s U : State} {H : Heap} (hW : s.WarmedH U.vm) (h : XP A s H) : XP A U H :=
  ⟨h.1.moved hW.alike, h.2.1.moved hW.alike, fun q hq => (h.2.2.1 q hq).imp fun _ ha => ha.warm hW, XN_warm hW h.2.2.2⟩
theorem XP.same {A : Nat → Prop} {s U : State} {H : Heap} (hv : U.vm = s.vm) (h : XP A s H) : XP A U H :=
  ⟨h.1.moved (by rw [hv]; exact Vm.Alike.refl _), h.2.1.moved (by rw [hv]; exact Vm.Alike.refl _), fun q hq => (h.2.2.1 q hq).imp fun _ ha => ha.same hv, fun w hw => (h.2.2.2 w hw).same (XN_on w hw) hv.symm⟩
theorem XP.kept {A : Nat → Prop} {U : State} {H H1 : Heap} (h : XP A U H) (hq : ∀ a : Nat, a < H.size → ¬ A a → H1[a]? = H[a]?) : XP A U H1 := ⟨h.1.kept hq, h.2.1.kept hq, h.2.2⟩
theorem XP.narrow {A B : Nat → Prop} {U : State} {H : Heap} (h : XP A U H) (hAB : ∀ q, B q → A q) : XP B U H := ⟨h.1.narrow hAB, h.2.1.narrow hAB, h.2.2⟩
def xP (D : va_G) (cl : List vw_C) (tys : List (ClassId × FieldType)) (w : va_W) (sz : Nat) (U : State) : Prop := wP D cl tys w sz U ∧ XP (va_A w sz) U U.heap
theorem xP_blind {D : va_G} {cl : List vw_C} {tys : List (ClassId × FieldType)} {w : va_W} {sz : Nat} {av : List Value} : FrameBlind (va_Pc av (xP D cl tys w sz)) := by
  intro a U g mk q
  obtain ⟨q0, ⟨q1, qP, qK, qD⟩, qX⟩ := q
  exact ⟨q0, ⟨q1, qP, va_K.moved (u := U) (U := U.calling g mk a) (Vm.Alike.refl U.vm) qK, qD⟩, XP.same (s := U) (U := U.calling g mk a) rfl qX⟩
abbrev xQ (D : va_G) (cl : List vw_C) (tys : List (ClassId × FieldType)) (E : Option String) (w : va_W) (A : Nat → Prop) : String → State → State → Prop := vx_X (fun (_ : Unit) => True) (fun E9 _ t => E = some E9 ∧ wB D cl tys A w t) A
/-- it answers r and leaves w1, or (E = some ..) it throws and leaves w -/
def Kxi (l : Launch) (y : MethodName) (ws : List Cond) (rm : Room) (D : va_G) (cl : List vw_C) (tys : List (ClassId × FieldType)) (av : List Value) (w : va_W) (E : Option String) (r : Int32) (w1 : va_W) : Prop :=
  ∀ sz : Nat, vx_Met l y ws rm (va_Pc av (xP D cl tys w sz)) (va_Qi (fun (x : Int32) (_ : Unit) => x = r ∧ E = none) (fun _ => wB D cl tys (va_A w sz) w1) (va_A w sz)) (xQ D cl tys E w (va_A w sz)) 1 6 (va_A w sz)
def Kxv (l : Launch) (y : MethodName) (ws : List Cond) (rm : Room) (D : va_G) (cl : List vw_C) (tys : List (ClassId × FieldType)) (av : List Value) (w : va_W) (E : Option String) (w1 : va_W) : Prop :=
  ∀ sz : Nat, vx_Met l y ws rm (va_Pc av (xP D cl tys w sz)) (va_Qv (fun (_ : Unit) => E = none) (fun _ => wB D cl tys (va_A w sz) w1) (va_A w sz)) (xQ D cl tys E w (va_A w sz)) 1 6 (va_A w sz)
theorem v_entX {l : Launch} {y : MethodName} {ws ws' : List Cond} {rm : Room} {D : va_G} {cl : List vw_C} {tys : List (ClassId × FieldType)} {av : List Value} {w : va_W} {sz : Nat} {cc : ByteArray} {maxL mc ms : Nat} {ret : Option FieldType} {Qc : (Nat → Prop) → Array Value → State → Outcome → State → Prop} {Xc : (Nat → Prop) → String → State → State → Prop} {own : String}
    (ho : y.cls = own) (hy : plainName y.cls = true) (hw : ws = Cond.code y cc maxL ret :: ws') (hlen : (lg_sl av).length ≤ maxL) {lv : List (Nat × Value)} (hlv : lv_args 0 av = lv)
    (body : ∀ (p : Program) (e : Env) (s : State) (m : MethodId) (args : Array Value) (below : List Frame) (meth : Method) (c : Code) (A : Nat → Prop), vc p s m args meth c cc maxL D cl tys A ws own → meth.sig.returnType = ret → XP A s s.heap → (∀ x ∈ c.exceptionTable.toList, False) →
      vv p l e (headSpec ws rm).room s m args below meth c maxL D cl A (vR s) 0 0 (vx_MQ below (Qc A) (Xc A) args s mc ms A) w lv 0 []) :
    vx_Met l y ws rm (va_Pc av (xP D cl tys w sz)) (Qc (va_A w sz)) (Xc (va_A w sz)) mc ms (va_A w sz) := by
  refine vx_ofW (cc := cc) (maxL := maxL) (ret := ret) hy hw ?_
  intro p e s m args below meth c s₁ B hml htab hv
  obtain ⟨rfl, ⟨hsz, hP, hK, hD0⟩, hX⟩ := hv
  subst hsz
  have hts := atoms_spec (ws := ws) B.pre
  have hown : s.vm.findClass own = some m.cls := ho ▸ findClass_of_methodNamed B.named
  rw [lg_entry_eq]
  exact body p e s m _ below meth c (va_A w s.heap.size) ⟨B.exec, B.bytes, hml, hown, hts, hK, fun q h => Or.inr h, B.notSynchronized⟩ B.returns hX htab s.heap [] _ ⟨rfl, rfl⟩ (hlv ▸ lv_entry av hlen) hP hD0.self va_S.rf
section VTH
variable {p : Program} {l : Launch} {e : Env} {R : Room} {s : State} {m : MethodId} {args : Array Value} {below : List Frame} {meth : Method} {c : Code} {Q : State → Prop}
variable {cc : ByteArray} {pc nL : Nat} {st : List Value} {D : va_G} {cl : List vw_C} {tys : List (ClassId × FieldType)} {A : Nat → Prop} {Z : Heap → List Loc → Prop} {w : va_W} {lv : List (Nat × Value)} {Ts : List Cond} {own : String}
theorem v_xir (C : vc p s m args meth c cc nL D cl tys A Ts own) (hr : meth.sig.returnType = some .int) {x r : Int32} {E : Option String} {XC : String → State → State → Prop} (hx : x = r) (hE : E = none) {w1 : va_W} (hw : w = w1) (hdg : decode cc pc = .ok (.ireturn, 1)) :
    vv p l e R s m args below meth c nL D cl A Z 0 0 (vx_MQ below (va_Qi (fun (x : Int32) (_ : Unit) => x = r ∧ E = none) (fun _ => wB D cl tys A w1) A) XC args s 1 6 A) w lv pc [.int x] :=
  fun H locs ls hZ hl hP hD hS => W.widen (k := 1) (n := 6) (Nat.zero_le _) (Nat.zero_le _) (vx_ret (W.iret C.1 C.2.1 hr (fun t ht hW => ⟨⟨x, (), rfl, ⟨hx, hE⟩, by rw [ht, ← hw]; exact hP, va_K.moved hW.alike C.2.2.2.2.2.1, hw ▸ hD⟩, hS.F ht⟩) hS.2.2 hdg C.2.2.2.2.2.2.2))
theorem v_xvr (C : vc p s m args meth c cc nL D cl tys A Ts own) (hr : meth.sig.returnType = none) {E : Option String} {XC : String → State → State → Prop} (hE : E = none) {w1 : va_W} (hw : w = w1) (hdg : decode cc pc = .ok (.return_, 1)) :
    vv p l e R s m args below meth c nL D cl A Z 0 0 (vx_MQ below (va_Qv (fun (_ : Unit) => E = none) (fun _ => wB D cl tys A w1) A) XC args s 1 6 A) w lv pc [] :=
  fun H locs ls hZ hl hP hD hS => W.widen (k := 1) (n := 6) (Nat.zero_le _) (Nat.zero_le _) (vx_ret (W.vret C.1 C.2.1 hr (fun t ht hW => ⟨⟨(), rfl, hE, by rw [ht, ← hw]; exact hP, va_K.moved hW.alike C.2.2.2.2.2.1, hw ▸ hD⟩, hS.F ht⟩) hS.2.2 hdg C.2.2.2.2.2.2.2))
theorem v_thr (C : vc p s m args meth c cc nL D cl tys A Ts RcX) (hlt : l.stackTraces = false) (hX : XP A s s.heap) (htab : ∀ x ∈ c.exceptionTable.toList, False) {cls text : String} {ik is ic : Nat} {E : Option String} {Qc : Array Value → State → Outcome → State → Prop}
    (hcls : Bundle.fit cls = true) (hk : Cond.classLink RcX ik cls ∈ Ts) (hini : Cond.initialized cls ∈ Ts) (hstr : (is, text) ∈ XS) (h1 : ∀ w ∈ (vx_atS RcX ic cls eN).filter goodWord, w ∈ Ts) (h2 : ∀ w ∈ (vx_atS RcX ic cls eN).filter (fun w => !goodWord w), w ∈ XN)
    (hgood : ∀ w ∈ Cond.classLink RcX ik cls :: Cond.initialized cls :: vx_atS RcX ic cls eN, vx_ot w = true)
    (d0 : decode cc pc = .ok (.new ik, 3)) (d3 : decode cc (pc + 3) = .ok (.dup, 1)) (d4 : decode cc (pc + 4) = .ok (.ldc is, 2)) (d6 : decode cc (pc + 6) = .ok (.invokespecial ic, 3)) (d9 : decode cc (pc + 9) = .ok (.athrow, 1))
    (hRf : 5 < R.frames) (hRl : (st.map fun v => v.category).sum + 82 ≤ R.locals) (hRc : 1 ≤ R.cells) (hRs : 6 ≤ R.slots) (hE : E = some cls) :
    vv p l e R s m args below meth c nL D cl A Z 0 0 (vx_MQ below Qc (xQ D cl tys E w A) args s 1 6 A) w lv pc st := by
  intro H locs ls hZ hl hP hD hS
  obtain ⟨sa, hsa⟩ := hX.2.2.1 _ hstr
  refine vx_throwS (own := RcX) (cls := cls) (text := text) (names := eN) (sa := sa) C.1 C.2.1 hlt C.2.2.2.1 hcls (by decide) (C.2.2.2.2.1 _ hk) (C.2.2.2.2.1 _ hini) hsa
    (vx_hat (fun w hw => C.2.2.2.2.1 w (h1 w hw)) h2 (fun w hw => (hX.2.2.2 w hw).use (XN_on w hw))) hgood hX.1 hX.2.1 hS (hl.1.trans C.2.2.1.symm) d0 d3 d4 d6 d9 (fun x hx => (htab x hx).elim) hRf hRl (by omega) (by omega) C.2.2.2.2.2.2.2
    (fun t hal hsz hq => ⟨(), trivial, ⟨hE, hP.kept (fun k q hk => hq q.1 ((hP k q hk).lt)), va_K.moved hal C.2.2.2.2.2.1, hD⟩, Nat.le_trans hS.1 hsz, fun q h1 h2 => (hq q (Nat.lt_of_lt_of_le h1 hS.1)).trans (hS.2.1 q h1 h2)⟩) hS.2.2 (Nat.le_refl _) (Nat.le_refl _)
end VTH
theorem thA1 : ∀ w ∈ wThA, w ∈ wThr := fun w h => List.mem_append_right _ (List.mem_append_left _ h)
theorem thS1 : ∀ w ∈ wThS, w ∈ wThr := fun w h => List.mem_append_right _ (List.mem_append_right _ (List.mem_append_left _ h))
theorem thU1 : ∀ w ∈ wThU, w ∈ wThr := fun w h => List.mem_append_right _ (List.mem_append_right _ (List.mem_append_right _ (List.mem_append_left _ h)))
theorem thB1 : ∀ w ∈ wThB, w ∈ wThr := fun w h => List.mem_append_right _ (List.mem_append_right _ (List.mem_append_right _ (List.mem_append_right _ h)))
theorem thA2 : ∀ w ∈ (vx_atS RcX 64 eA eN).filter (fun w => !goodWord w), w ∈ XN := by decide +kernel
theorem thS2 : ∀ w ∈ (vx_atS RcX 78 eS eN).filter (fun w => !goodWord w), w ∈ XN := by decide +kernel
theorem thU2 : ∀ w ∈ (vx_atS RcX 87 eU eN).filter (fun w => !goodWord w), w ∈ XN := by decide +kernel
theorem thB2 : ∀ w ∈ (vx_atS RcX 138 eB eN).filter (fun w => !goodWord w), w ∈ XN := by decide +kernel
theorem thA3 : ∀ w ∈ Cond.classLink RcX 60 eA :: Cond.initialized eA :: vx_atS RcX 64 eA eN, vx_ot w = true := by decide +kernel
theorem thS3 : ∀ w ∈ Cond.classLink RcX 74 eS :: Cond.initialized eS :: vx_atS RcX 78 eS eN, vx_ot w = true := by decide +kernel
theorem thU3 : ∀ w ∈ Cond.classLink RcX 83 eU :: Cond.initialized eU :: vx_atS RcX 87 eU eN, vx_ot w = true := by decide +kernel
theorem thB3 : ∀ w ∈ Cond.classLink RcX 134 eB :: Cond.initialized eB :: vx_atS RcX 138 eB eN, vx_ot w = true := by decide +kernel
theorem thr_in {c : Cond} {a b : List Cond} {w : Cond} (h : w ∈ b) : w ∈ c :: (a ++ b) := List.mem_cons_of_mem _ (List.mem_append_right _ h)

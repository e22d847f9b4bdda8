/-! Rows for the law: its script, its switch, its calls. -/
section VLW
variable {p : Program} {l : Launch} {e : Env} {R : Room} {s : State} {m : MethodId} {args : Array Value} {below : List Frame} {meth : Method} {c : Code} {cells slots : Nat} {Q : State → Prop}
variable {cc : ByteArray} {pc nL : Nat} {st : List Value} {D : va_G} {cl : List vw_C} {tys : List (ClassId × FieldType)} {A : Nat → Prop} {Z : Heap → List Loc → Prop} {w : va_W} {lv : List (Nat × Value)} {Ts : List Cond} {own : String}
variable {y : MethodName} {ws : List Cond} {rm : Room} {CN : String} {index maxL n : Nat} {bytes : ByteArray} {ret9 : Option FieldType} {wc w1 wr w' : va_W} {r : Int32} {As st0 : List Value} {bs L : Nat} {xs : Nat → Int32}
theorem v_sld (C : vc p s m args meth c cc nL D cl tys A Ts own) (hXs : va_X bs L xs s s.heap) (hbl : bs < s.heap.size) (hbA : ¬ A bs) {i y9 : Int32} (hy : xs i.toNatClampNeg = y9) (hin : vp_in i L) (hdg : decode cc pc = .ok (.iaload, 1)) (kk : vv p l e R s m args below meth c nL D cl A Z cells slots Q w lv (pc + 1) (.int y9 :: st)) : vv p l e R s m args below meth c nL D cl A Z cells slots Q w lv pc (.int i :: .ref bs :: st) :=
  fun H locs ls hZ hl hP hD hS => va_sld C.1 C.2.1 hXs hbl hbA hS hin hdg (by rw [hy]; exact kk H locs ls hZ hl hP hD hS)
theorem v_slen (C : vc p s m args meth c cc nL D cl tys A Ts own) (hXs : va_X bs L xs s s.heap) (hbl : bs < s.heap.size) (hbA : ¬ A bs) (hdg : decode cc pc = .ok (.arraylength, 1)) (kk : vv p l e R s m args below meth c nL D cl A Z cells slots Q w lv (pc + 1) (.int (Int32.ofNat L) :: st)) : vv p l e R s m args below meth c nL D cl A Z cells slots Q w lv pc (.ref bs :: st) :=
  fun H locs ls hZ hl hP hD hS => va_slen C.1 C.2.1 hXs hbl hbA hS hdg (kk H locs ls hZ hl hP hD hS)
theorem v_tsw (C : vc p s m args meth c cc nL D cl tys A Ts own) {dflt lo hi : Int} {offs : Array Int} {len : Nat} {x9 : Int32} {off : Int} {tgt : Nat} (hdg : decode cc pc = .ok (.tableswitch dflt lo hi offs, len)) (h1 : ¬ x9.toInt < lo) (h2 : ¬ hi < x9.toInt) (ho : offs[(x9.toInt - lo).toNat]? = some off) (ht : (pc : Int) + off = (tgt : Int)) (kk : vv p l e R s m args below meth c nL D cl A Z cells slots Q w lv tgt st) : vv p l e R s m args below meth c nL D cl A Z cells slots Q w lv pc (.int x9 :: st) :=
  fun H locs ls hZ hl hP hD hS => lv_tableIn C.1 C.2.1 hdg h1 h2 ho ht (kk H locs ls hZ hl hP hD hS)
theorem v_widen {k n9 : Nat} (h1 : cells ≤ k) (h2 : slots ≤ n9) (kk : vv p l e R s m args below meth c nL D cl A Z k n9 Q w lv pc st) : vv p l e R s m args below meth c nL D cl A Z cells slots Q w lv pc st :=
  fun H locs ls hZ hl hP hD hS => W.widen h1 h2 (kk H locs ls hZ hl hP hD hS)
def celP (bs L : Nat) (xs : Nat → Int32) (sz : Nat) (U : State) : Prop := U.heap.size = sz ∧ va_X bs L xs U U.heap ∧ bs < sz
def celV (L : Nat) (xs : Nat → Int32) (k : Int32) : Int32 := if Int32.ofNat L ≤ k then 0 else xs k.toNatClampNeg
def Kcell (l : Launch) (y : MethodName) (ws : List Cond) (rm : Room) (bs L : Nat) (xs : Nat → Int32) (k : Int32) : Prop :=
  ∀ sz : Nat, Met l y ws rm (va_Pc [.ref bs, .int k] (celP bs L xs sz)) (fun _ st oc t => oc = .returned (some (.int (celV L xs k))) ∧ t.heap = st.heap) 0 0 (fun _ => False)
theorem v_cell (C : vc p s m args meth c cc nL D cl tys A Ts own) (hXs : va_X bs L xs s s.heap) (hbl : bs < s.heap.size) (hbA : ¬ A bs) {k : Int32} (hM : Kcell l y ws rm bs L xs k) (cw : CallB R s args own index y bytes maxL ret9 ws rm 0 0 2 ∧ (Cond.static y).before args s = true) (hwt : (st.map fun v => v.category).sum ≤ 8) (hcs : cells ≤ R.cells ∧ slots ≤ R.slots) (hdg : decode cc pc = .ok (.invokestatic index, 3)) (kk : vv p l e R s m args below meth c nL D cl A Z cells slots Q w lv (pc + 3) (.int (celV L xs k) :: st)) : vv p l e R s m args below meth c nL D cl A Z cells slots Q w lv pc (.int k :: .ref bs :: st) := by
  intro H locs ls hZ hl hP hD hS T hT X
  have hblind : FrameBlind (va_Pc [.ref bs, .int k] (celP bs L xs H.size)) := by
    intro a U g mk q
    obtain ⟨q0, q1, q2, q3⟩ := q
    exact ⟨q0, q1, va_X.moved (u := U) (U := U.calling g mk a) (Vm.Alike.refl U.vm) q2, q3⟩
  obtain ⟨v, st₀, t, T', L9, h0, X', hL9, hh, hvm, ⟨hv, hq⟩, hgo⟩ := va_runS (As := [.ref bs, .int k]) (rest := st) (cells := cells) (slots := slots) ⟨C.1, C.2.1, C.2.2.1, C.2.2.2.1, C.2.2.2.2.1⟩ (hM H.size) cw ⟨hblind, fun U hU hW => ⟨rfl, by rw [hU], by rw [hU]; exact (va_X.moved hW.alike hXs).kept (hS.2.1 bs hbl hbA), Nat.lt_of_lt_of_le hbl hS.1⟩⟩ (g := F0 m pc ls (.int k :: .ref bs :: st)) rfl rfl hl.1 rfl (lv_room hwt) hdg hcs T hT X
  have hL0 : L9 = [] := List.eq_nil_iff_forall_not_mem.mpr (fun q hq => hL9 q hq)
  subst hL0
  rw [List.append_nil] at X'
  have hv : v = some (.int (celV L xs k)) := by cases hv; rfl
  subst hv
  obtain ⟨tt, a1, b1⟩ := kk H locs ls hZ hl hP hD hS T' (by rw [hh, hq, h0]) X'
  exact ⟨tt, hgo tt a1, b1⟩
theorem v_cH {hh : List (Nat × Nat × Nat × Nat)} (C : vc p s m args meth c cc nL D cl tys A Ts own) (hY : YP A s s.heap) (hM : Kh l y ws rm D cl tys As wc r w1) (cw : vx_CSW R s args own index y bytes maxL ret9 hh ws rm 1 6 n) (hnA : As.length = n) (hst : st0 = As.reverse ++ st) (hwt : (st.map fun v => v.category).sum ≤ 8) (hcs : cells + 1 ≤ R.cells ∧ slots + 6 ≤ R.slots) (hdg : decode cc pc = .ok (.invokestatic index, 3)) (isC isR isF : List Nat) (hnC : va_nd isC = true) (hC : isC.map (fun i => w[i]?) = wc.map some) (hR : isR.map (fun i => w[i]?) = wr.map some) (hn : va_nd isR = true) (hdis : ∀ i ∈ isR, i ∉ isC) (hnF : va_nd isF = true) (hF : isF.map (fun i => (wr ++ w1)[i]?) = w'.map some)
    (kk : vv p l e R s m args below meth c nL D cl A vT (cells + 1) (slots + 6) Q w' lv (pc + 3) (.int r :: st)) : vv p l e R s m args below meth c nL D cl A Z cells slots Q w lv pc st0 := by
  intro H locs ls hZ hl hP hD hS
  have hPc : va_P D cl wc H := hP.sub isC (fm_of_map hC)
  have hFc := va_free (wc := wc) hD hS C.2.2.2.2.2.2.1 isC hC
  have hDc : va_D (fun _ => True) wc := (hD.sub isC hnC hC).weaken (fun _ _ _ _ => trivial)
  refine va_calli (vx_runSW (As := As) (rest := st) ⟨C.1, C.2.1, C.2.2.1, C.2.2.2.1, C.2.2.2.2.1⟩ (hM H.size) cw ⟨yP_blind, fun U hU hW => ⟨rfl, ⟨by rw [hU], by rw [hU]; exact hPc, va_K.moved hW.alike C.2.2.2.2.2.1, hDc⟩, hY.1.go hS hW hU hFc, hY.2.moved hW.alike⟩⟩ rfl hnA hl.1 hst (lv_room hwt) hdg hcs) hS (fun q _ h => hFc q h) hFc (fun x9 u t H1 locs1 ht hvm hw hB hz1 hk1 hS1 => ?_)
  obtain ⟨hP1, hK1, hD1⟩ := hB
  rw [ht] at hP1
  have hw : x9 = r := hw
  subst hw
  obtain ⟨hP2, hD2⟩ := va_join (wr := wr) (w1 := w1) hP hD isC isR hC hR hn hdis hk1 hFc hP1 hD1
  exact kk H1 locs1 ls trivial hl (hP2.sub isF (fm_of_map hF)) (hD2.sub isF hnF hF) hS1
end VLW
abbrev bL_cell : ByteArray := method_2_code
def yL_cell : MethodName := ⟨RcL, "cell", "([II)I"⟩
def wL_cell : List Cond := [.code yL_cell bL_cell 2 (some .int)]
theorem dL_cell_0 : decode bL_cell 0 = .ok (.iload_n 1, 1) := by decide +kernel
theorem dL_cell_1 : decode bL_cell 1 = .ok (.aload_n 0, 1) := by decide +kernel
theorem dL_cell_2 : decode bL_cell 2 = .ok (.arraylength, 1) := by decide +kernel
theorem dL_cell_3 : decode bL_cell 3 = .ok (.if_icmp .ge 9, 3) := by decide +kernel
theorem dL_cell_6 : decode bL_cell 6 = .ok (.aload_n 0, 1) := by decide +kernel
theorem dL_cell_7 : decode bL_cell 7 = .ok (.iload_n 1, 1) := by decide +kernel
theorem dL_cell_8 : decode bL_cell 8 = .ok (.iaload, 1) := by decide +kernel
theorem dL_cell_9 : decode bL_cell 9 = .ok (.goto 4, 3) := by decide +kernel
theorem dL_cell_12 : decode bL_cell 12 = .ok (.iconst 0, 1) := by decide +kernel
theorem dL_cell_13 : decode bL_cell 13 = .ok (.ireturn, 1) := by decide +kernel
theorem c_cell (l : Launch) (bs L : Nat) (xs : Nat → Int32) (k : Int32) (hk : ¬ k < 0) (hkL : ¬ Int32.ofNat L ≤ k → vp_in k L) : Kcell l yL_cell wL_cell ({ frames := 1, cells := 0, slots := 0, locals := 0 } : Room) bs L xs k := by
  intro sz
  refine Met.ofW (cc := bL_cell) (maxL := 2) (ret := some .int) (by decide) rfl ?_
  intro p e s m args below meth c s₁ B hml hv
  obtain ⟨rfl, hsz, hX, hb⟩ := hv
  subst hsz
  have hts := atoms_spec (ws := wL_cell) B.pre
  have hown : s.vm.findClass RcL = some m.cls := findClass_of_methodNamed B.named
  rw [lg_entry_eq]
  have C : vc p s m (#[.ref bs, .int k] : Array Value) meth c bL_cell 2 (fun _ => 0, fun _ _ => 0) [] [] (fun q => s.heap.size ≤ q) wL_cell RcL := ⟨B.exec, B.bytes, hml, hown, hts, ⟨fun c q h => (by cases h), fun k q h => (by cases h)⟩, fun q h => h, B.notSynchronized⟩
  have hr := B.returns
  suffices hv : vv p l e (headSpec wL_cell ({ frames := 1, cells := 0, slots := 0, locals := 0 } : Room)).room s m (#[.ref bs, .int k] : Array Value) below meth c 2 (fun _ => 0, fun _ _ => 0) [] (fun q => s.heap.size ≤ q) (vR s) 0 0 (MQ below (fun _ st oc t => oc = .returned (some (.int (celV L xs k))) ∧ t.heap = st.heap) (#[.ref bs, .int k] : Array Value) s 0 0 (fun _ => False)) [] [(0, .ref bs), (1, .int k)] 0 [] from
    hv s.heap [] _ ⟨rfl, rfl⟩ (lv_entry [.ref bs, .int k] (Nat.le_of_ble_eq_true rfl)) (fun k q h => (by cases h)) ⟨fun i j p q h => (by cases h), fun k q h => (by cases h)⟩ va_S.rf
  refine v_iload_n C 1 dL_cell_0 rfl rfl ?_
  refine v_aload_n C 0 dL_cell_1 rfl rfl ?_
  refine v_slen C hX hb (Nat.not_le.mpr hb) dL_cell_2 ?_
  refine v_icmp_ge C dL_cell_3 (tgt := 12) (by decide) (fun h1 => ?_) (fun h1 => ?_)
  · refine v_iconst C (v := 0) dL_cell_12 (by decide) ?_
    exact v_irr C hr (by unfold celV; rw [if_pos h1]) dL_cell_13
  · refine v_aload_n C 0 dL_cell_6 rfl rfl ?_
    refine v_iload_n C 1 dL_cell_7 rfl rfl ?_
    refine v_sld C hX hb (Nat.not_le.mpr hb) rfl (hkL h1) dL_cell_8 ?_
    refine v_goto C dL_cell_9 (tgt := 13) (by decide) ?_
    exact v_irr C hr (by unfold celV; rw [if_neg h1]) dL_cell_13

/-- the law's own end, over a world -/
theorem v_end {p : Program} {l : Launch} {e : Env} {s : State} {m : MethodId} {below : List Frame} {meth : Method} {c0 : Code} {D : va_G} {b cells slots : Nat} {Z : Heap → List Loc → Prop} {w : va_W} {lv : List (Nat × Value)} {pc : Nat} (hx : p.tables.exec = Jvm.exec) (hb : c0.code = code) (hr : meth.sig.returnType = ret) (hlocks : meth.locks = false) (h1 : cells ≤ 601024) (h2 : slots ≤ 7292999) (hdg : decode code pc = .ok (.ireturn, 1)) :
    vv p l e room_1 s m #[Value.ref b] below meth c0 7 D vwCl (A0 s) Z cells slots (lw_Z below #[Value.ref b] s) w lv pc [.int 1] :=
  fun H locs ls hZ hl hP hD hS => va_forget (fun q hq => hS.2.2 q hq) (W.widen h1 h2 (lw_ret hx hb hr hlocks hdg))
set_option maxHeartbeats 4000000 in
set_option maxRecDepth 100000 in
theorem whole_start0 {Rel : FT → AT → FT → AT → Prop} (hBase : BaseF Rel) (hF : FAall Rel) (hInit : ∀ x y : Int32, Rel (FX0 x y) a00 (FM0 x y) a00) {p : Program} {e : Env} {s : State} {m : MethodId} {below : List Frame} {meth : Method} {c : Code} (l : Launch) (hlt : l.stackTraces = false) {b L : Nat} {xs : Nat → Int32} (hL : L ≤ 2050) (C0 : lw_At p s m meth c b L xs) : W p l e room_1 s m #[Value.ref b] below meth c s.heap [] 0 0 (lw_Z below #[Value.ref b] s) (entryFrame m ([Value.ref b] : List Value).toArray 7) := by
  obtain ⟨hx, hb, hr, hml, hown, hts, hX, hbl, hlocks, hgv⟩ := C0
  have htw : ∀ w ∈ wLaw, w.before #[Value.ref b] s = true := fun w hw => hts w (lw_in hw)
  obtain ⟨D, cI, cZ, cJ, hK⟩ := st_K htw
  have hY := st_Y hts hgv
  have C : vc p s m #[Value.ref b] meth c code 7 D vwCl (tyG cI cZ cJ) (A0 s) wLaw RcL := ⟨hx, hb, hml, hown, htw, hK, fun q h => h, hlocks⟩
  have hbA : ¬ A0 s b := Nat.not_le.mpr hbl
  have X0 : Lc p l s m #[Value.ref b] meth c D cI cZ cJ (A0 s) b L xs := ⟨C, hY, hX, hbl, hbA, hlt⟩
  rw [lg_entry_eq]
  suffices hv : vv p l e room_1 s m #[Value.ref b] below meth c 7 D vwCl (A0 s) vT 0 0 (lw_Z below #[Value.ref b] s) [] [(0, .ref b)] 0 [] from
    hv s.heap [] _ trivial (lv_entry [.ref b] (Nat.le_of_ble_eq_true rfl)) (fun k q h => (by cases h)) ⟨fun i j p q h => (by cases h), fun k q h => (by cases h)⟩ va_S.rf
  refine v_new C (CN := RcX) (T := TcX) (N := 16) (ci := 0) (fs := [.int 0, .int 0, .null, .null, .null, .null, .null, .null, .int 0, .int 0, .int 0, .int 0, .int 0, .int 0, .int 0, .int 0]) (by decide +kernel) tycX tycX_ok (by decide +kernel) (by decide +kernel) (by decide +kernel) rfl (by decide) (Nat.le_of_ble_eq_true rfl) (Nat.le_of_ble_eq_true rfl) dL_law_0 (fun q1 => ?_)
  refine v_as (w' := wX0 q1) (lv' := [(0, .ref b)]) rfl rfl ?_
  refine v_dup C dL_law_3 rfl ?_
  refine v_aload_n C 0 dL_law_4 rfl rfl ?_
  refine v_iconst C (v := 0) dL_law_5 (by decide) ?_
  refine v_cell C hX hbl hbA (c_cell l b L xs 0 (by decide) (vp_cel hL (Or.inl rfl))) (va_cwS 2 C.2.2.2.2.1 gw_cell rfl rfl rfl (by decide +kernel) ⟨Nat.le_of_ble_eq_true rfl, Nat.le_of_ble_eq_true rfl⟩) (Nat.le_of_ble_eq_true rfl) ⟨Nat.le_of_ble_eq_true rfl, Nat.le_of_ble_eq_true rfl⟩ dL_law_6 ?_
  refine v_aload_n C 0 dL_law_9 rfl rfl ?_
  refine v_iconst C (v := 1) dL_law_10 (by decide) ?_
  refine v_cell C hX hbl hbA (c_cell l b L xs 1 (by decide) (vp_cel hL (Or.inr rfl))) (va_cwS 2 C.2.2.2.2.1 gw_cell rfl rfl rfl (by decide +kernel) ⟨Nat.le_of_ble_eq_true rfl, Nat.le_of_ble_eq_true rfl⟩) (Nat.le_of_ble_eq_true rfl) ⟨Nat.le_of_ble_eq_true rfl, Nat.le_of_ble_eq_true rfl⟩ dL_law_11 ?_
  refine v_cI (As := [.int (celV L xs 0), .int (celV L xs 1)]) (wc := wX0 q1) (wr := []) C (c_xInit l D cI cZ cJ q1 (celV L xs 0) (celV L xs 1)) (cwI 2 C.2.2.2.2.1 gw_X_init rfl rfl rfl (C.2.2.2.2.1 (.initialized RcX) (by decide +kernel)) (C.2.2.2.2.1 (.methodLink RcL 61 yX_init) (by decide +kernel)) (C.2.2.2.2.1 (.instanceMethod yX_init) (by decide +kernel)) rfl (by decide +kernel) ⟨Nat.le_of_ble_eq_true rfl, Nat.le_of_ble_eq_true rfl⟩) rfl rfl (Nat.le_of_ble_eq_true rfl) ⟨Nat.le_of_ble_eq_true rfl, Nat.le_of_ble_eq_true rfl⟩ dL_law_14 [0] [] rfl rfl rfl rfl (by decide) (fun bX hbX => ?_)
  subst hbX
  refine v_as (w' := wX cI bX (FX0 (celV L xs 0) (celV L xs 1)) a00) (lv' := [(0, .ref b)]) rfl rfl ?_
  refine v_astore_n C (lv' := [(0, .ref b), (1, .ref (bX 0))]) [1, 0] dL_law_17 rfl (by decide) rfl ?_
  refine v_new C (CN := RcM) (T := TcM) (N := 18) (ci := 2) (fs := [.int 0, .int 0, .int 0, .int 0, .int 0, .int 0, .int 0, .int 0, .int 0, .int 0, .null, .null, .null, .null, .null, .null, .null, .int 0]) (by decide +kernel) tycM tycM_ok (by decide +kernel) (by decide +kernel) (by decide +kernel) rfl (by decide) (Nat.le_of_ble_eq_true rfl) (Nat.le_of_ble_eq_true rfl) dL_law_18 (fun q2 => ?_)
  refine v_as (w' := wX cI bX (FX0 (celV L xs 0) (celV L xs 1)) a00 ++ wM0 q2) (lv' := [(0, .ref b), (1, .ref (bX 0))]) rfl rfl ?_
  refine v_dup C dL_law_21 rfl ?_
  refine v_aload_n C 0 dL_law_22 rfl rfl ?_
  refine v_iconst C (v := 0) dL_law_23 (by decide) ?_
  refine v_cell C hX hbl hbA (c_cell l b L xs 0 (by decide) (vp_cel hL (Or.inl rfl))) (va_cwS 2 C.2.2.2.2.1 gw_cell rfl rfl rfl (by decide +kernel) ⟨Nat.le_of_ble_eq_true rfl, Nat.le_of_ble_eq_true rfl⟩) (Nat.le_of_ble_eq_true rfl) ⟨Nat.le_of_ble_eq_true rfl, Nat.le_of_ble_eq_true rfl⟩ dL_law_24 ?_
  refine v_aload_n C 0 dL_law_27 rfl rfl ?_
  refine v_iconst C (v := 1) dL_law_28 (by decide) ?_
  refine v_cell C hX hbl hbA (c_cell l b L xs 1 (by decide) (vp_cel hL (Or.inr rfl))) (va_cwS 2 C.2.2.2.2.1 gw_cell rfl rfl rfl (by decide +kernel) ⟨Nat.le_of_ble_eq_true rfl, Nat.le_of_ble_eq_true rfl⟩) (Nat.le_of_ble_eq_true rfl) ⟨Nat.le_of_ble_eq_true rfl, Nat.le_of_ble_eq_true rfl⟩ dL_law_29 ?_
  refine v_cI (As := [.int (celV L xs 0), .int (celV L xs 1)]) (wc := wM0 q2) (wr := wX cI bX (FX0 (celV L xs 0) (celV L xs 1)) a00) C (c_mInit l D cI cZ cJ q2 (celV L xs 0) (celV L xs 1)) (cwI 2 C.2.2.2.2.1 gw_M_init rfl rfl rfl (C.2.2.2.2.1 (.initialized RcM) (by decide +kernel)) (C.2.2.2.2.1 (.methodLink RcL 66 yM_init) (by decide +kernel)) (C.2.2.2.2.1 (.instanceMethod yM_init) (by decide +kernel)) rfl (by decide +kernel) ⟨Nat.le_of_ble_eq_true rfl, Nat.le_of_ble_eq_true rfl⟩) rfl rfl (Nat.le_of_ble_eq_true rfl) ⟨Nat.le_of_ble_eq_true rfl, Nat.le_of_ble_eq_true rfl⟩ dL_law_32 [8] [0, 1, 2, 3, 4, 5, 6, 7] rfl rfl rfl rfl (by decide) (fun bM hbM => ?_)
  subst hbM
  refine v_as (w' := wX cI bX (FX0 (celV L xs 0) (celV L xs 1)) a00 ++ wM cI cZ bM (FM0 (celV L xs 0) (celV L xs 1)) a00) (lv' := [(0, .ref b), (1, .ref (bX 0))]) rfl rfl ?_
  refine v_astore_n C (lv' := [(0, .ref b), (1, .ref (bX 0)), (2, .ref (bM 0))]) [1, 2, 0] dL_law_35 rfl (by decide) rfl ?_
  refine v_iconst C (v := 1) dL_law_36 (by decide) ?_
  refine v_newa C (ty := .long) (N' := 1) (a0 := (1, .inr (.inl (fun _ => 0)))) rfl (by decide +kernel) 2 rfl (fun _ _ => ra_long) (fun _ => rfl) (by decide) (by decide) (by decide) (Nat.le_of_ble_eq_true rfl) (Nat.le_of_ble_eq_true rfl) dL_law_37 (fun o => ?_)
  refine v_sub (w' := wLw cI cZ cJ bX bM o (FX0 (celV L xs 0) (celV L xs 1)) a00 (fun _ => 0) (FM0 (celV L xs 0) (celV L xs 1)) a00) [0, 1, 2, 3, 4, 5, 6, 7, 16, 8, 9, 10, 11, 12, 13, 14, 15] rfl rfl ?_
  refine v_astore_n C (lv' := [(0, .ref b), (1, .ref (bX 0)), (2, .ref (bM 0)), (3, .ref o)]) [1, 2, 3, 0] dL_law_39 rfl (by decide) rfl ?_
  refine v_iconst C (v := 2) dL_law_40 (by decide) ?_
  refine v_istore C (lv' := lvH b bX bM o 2) [1, 2, 3, 4, 0] dL_law_41 (by decide) rfl ?_
  exact law_loop X0 hL hBase hF (fun cells slots w lv h1 h2 => by
    refine v_iconst C (v := 1) dL_law_869 (by decide) ?_
    exact v_end hx hb hr hlocks (by omega) (by omega) dL_law_870) 513 0 rfl _ _ _ _ _ (hInit _ _)

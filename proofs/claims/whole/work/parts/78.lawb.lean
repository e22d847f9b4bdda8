set_option maxHeartbeats 4000000 in
set_option maxRecDepth 100000 in
theorem lc_act {p : Program} {l : Launch} {e : Env} {s : State} {m : MethodId} {args : Array Value} {below : List Frame} {meth : Method} {c0 : Code} {D : va_G} {cI cZ cJ : ClassId} {A : Nat → Prop} {bs L : Nat} {xs : Nat → Int32} {Q : State → Prop} {bX bM : Nat → Nat} {o : Nat} {F : FT} {a : AT} {f : Nat → Int64} {G : FT} {c : AT} {cells slots n P E mm : Nat} (X0 : Lc p l s m args meth c0 D cI cZ cJ A bs L xs) (hc : cells + 1 ≤ room_1.cells) (hs : slots + 6 ≤ room_1.slots) {Rel : FT → AT → FT → AT → Prop} (hB : RB Rel n P E mm F a G c) (hF : FA_act Rel) {i : Nat} (hi : i + 3 < L) (hL : L ≤ 2050) (kk : ∀ (F1 : FT) (a1 : AT) (f1 : Nat → Int64) (G1 : FT) (c1 : AT), Rel F1 a1 G1 c1 → vv p l e room_1 s m args below meth c0 7 D vwCl A vT (cells + 1) (slots + 6) Q (wLw cI cZ cJ bX bM o F1 a1 f1 G1 c1) (lvH bs bX bM o (nI i)) 863 []) : vv p l e room_1 s m args below meth c0 7 D vwCl A vT cells slots Q (wLw cI cZ cJ bX bM o F a f G c) (lvH bs bX bM o (nI i)) 314 [] := by
  have C := X0.1
  have hY := X0.2.1
  have hcs : cells ≤ room_1.cells ∧ slots ≤ room_1.slots := ⟨by omega, by omega⟩
  have hcs1 : cells + 1 ≤ room_1.cells ∧ slots + 6 ≤ room_1.slots := ⟨hc, hs⟩
  refine v_aload_n C 1 dL_law_314 rfl rfl ?_
  refine v_aload_n C 0 dL_law_315 rfl rfl ?_
  refine v_iload C 4 dL_law_316 rfl ?_
  refine v_iconst C (v := 1) dL_law_318 (by decide) ?_
  refine v_iadd C dL_law_319 ?_
  refine v_top (y := nI (i + 1)) (nI_add i 1) ?_
  refine v_sld C X0.2.2.1 X0.2.2.2.1 X0.2.2.2.2.1 (y9 := xs (i + 1)) (sl_i (by omega)) (vp_in_nI (by omega) (by omega)) dL_law_320 ?_
  refine v_aload_n C 3 dL_law_321 rfl rfl ?_
  refine v_cH C hY (As := [.ref (bX 0), .int (xs (i + 1)), .ref o]) (wr := wM cI cZ bM G c) (w' := wLw cI cZ cJ bX bM o F ((actF F a n P (xs (i + 1))).2.2) (outF ((actF F a n P (xs (i + 1))).1) f ((actF F a n P (xs (i + 1))).2.1)) G c) (c_h_act l D cI cZ cJ bX F a o f n P (xs (i + 1)) hB.2.1 hB.2.2.1 hB.2.2.2.1 hB.2.2.2.2.1 X0.2.2.2.2.2) (vx_cwSW 3 C.2.2.2.2.1 gw_L_act rfl rfl rfl (by decide +kernel) ⟨Nat.le_of_ble_eq_true rfl, Nat.le_of_ble_eq_true rfl⟩) rfl rfl (Nat.le_of_ble_eq_true rfl) hcs1 dL_law_322 [0, 1, 2, 3, 4, 5, 6, 7, 8] [9, 10, 11, 12, 13, 14, 15, 16] [8, 9, 10, 11, 12, 13, 14, 15, 16, 0, 1, 2, 3, 4, 5, 6, 7] rfl rfl rfl rfl (by decide) rfl rfl ?_
  refine v_istore C (lv' := [(0, .ref bs), (1, .ref (bX 0)), (2, .ref (bM 0)), (3, .ref o), (4, .int (nI i)), (5, .int (hcC ((actF F a n P (xs (i + 1))).1)))]) [1, 2, 3, 4, 5, 0] dL_law_325 (by decide) rfl ?_
  refine v_aload_n C 2 dL_law_327 rfl rfl ?_
  refine v_aload_n C 0 dL_law_328 rfl rfl ?_
  refine v_iload C 4 dL_law_329 rfl ?_
  refine v_iconst C (v := 1) dL_law_331 (by decide) ?_
  refine v_iadd C dL_law_332 ?_
  refine v_top (y := nI (i + 1)) (nI_add i 1) ?_
  refine v_sld C X0.2.2.1 X0.2.2.2.1 X0.2.2.2.2.1 (y9 := xs (i + 1)) (sl_i (by omega)) (vp_in_nI (by omega) (by omega)) dL_law_333 ?_
  refine v_cViP (As := [.int (xs (i + 1))]) C (wr := wX cI bX F ((actF F a n P (xs (i + 1))).2.2) ++ wO cJ o (outF ((actF F a n P (xs (i + 1))).1) f ((actF F a n P (xs (i + 1))).2.1))) (w' := wLw cI cZ cJ bX bM o F ((actF F a n P (xs (i + 1))).2.2) (outF ((actF F a n P (xs (i + 1))).1) f ((actF F a n P (xs (i + 1))).2.1)) ((mAct G c n P (xs (i + 1))).2.1) ((mAct G c n P (xs (i + 1))).2.2)) (c_mAct l D cI cZ cJ bM G c n P (xs (i + 1)) hB.2.2.2.2.2.2.2.2.2.1 hB.2.2.1 hB.2.2.2.2.2.2.2.2.2.2.1 hB.2.2.2.2.1 hB.2.2.2.2.2.2.2.2.2.2.2.1) (cwV 1 C.2.2.2.2.1 gw_M_act rfl rfl rfl (by decide +kernel) ⟨Nat.le_of_ble_eq_true rfl, Nat.le_of_ble_eq_true rfl⟩) 0 rfl (T := TcM) (N := 18) rfl rfl rfl (Nat.le_of_ble_eq_true rfl) hcs1 dL_law_334 [9, 10, 11, 12, 13, 14, 15, 16] [0, 1, 2, 3, 4, 5, 6, 7, 8] [0, 1, 2, 3, 4, 5, 6, 7, 8, 9, 10, 11, 12, 13, 14, 15, 16] rfl rfl rfl rfl (by decide) rfl rfl ?_
  have hf := hF n P E mm F a G c (xs (i + 1)) hB
  refine v_istore C (lv' := [(0, .ref bs), (1, .ref (bX 0)), (2, .ref (bM 0)), (3, .ref o), (4, .int (nI i)), (5, .int (hcC ((actF F a n P (xs (i + 1))).1))), (6, .int ((mAct G c n P (xs (i + 1))).1))]) [1, 2, 3, 4, 5, 6, 0] dL_law_337 (by decide) rfl ?_
  refine v_aload_n C 2 dL_law_339 rfl rfl ?_
  refine v_cVr (As := []) C (c_mThrown l D cI cZ cJ bM ((mAct G c n P (xs (i + 1))).2.1) ((mAct G c n P (xs (i + 1))).2.2)) (cwV 0 C.2.2.2.2.1 gw_M_thrown rfl rfl rfl (by decide +kernel) ⟨Nat.le_of_ble_eq_true rfl, Nat.le_of_ble_eq_true rfl⟩) 0 rfl (T := TcM) (N := 18) rfl rfl rfl (Nat.le_of_ble_eq_true rfl) hcs1 dL_law_340 [9, 10, 11, 12, 13, 14, 15, 16] rfl rfl ?_
  refine v_iload C 5 dL_law_343 rfl ?_
  refine v_icmp_eq C dL_law_345 (tgt := 350) (by decide) (fun _ => ?_) (fun h => absurd hf.1 h)
  refine v_iload C 5 dL_law_350 rfl ?_
  refine v_if_ne C dL_law_352 (tgt := 367) (by decide) (fun _ => ?_) (fun hk => ?_)
  · skip
    refine v_goto C dL_law_367 (tgt := 863) (by decide) ?_
    refine v_loc (lv' := lvH bs bX bM o (nI i)) [0, 1, 2, 3, 4] rfl ?_
    exact kk _ _ _ _ _ hf.2.2
  · skip
    have hk0 : (actF F a n P (xs (i + 1))).1 = 0 := by
      rcases actF_cases F a n P (xs (i + 1)) with h0 | h0 | h0 | h0
      · exact h0
      · rw [h0] at hk; exact absurd hk (show ¬ hcC 1 = 0 by decide)
      · rw [h0] at hk; exact absurd hk (show ¬ hcC 2 = 0 by decide)
      · rw [h0] at hk; exact absurd hk (show ¬ hcC 3 = 0 by decide)
    refine v_aload_n C 3 dL_law_355 rfl rfl ?_
    refine v_iconst C (v := 0) dL_law_356 (by decide) ?_
    refine v_lald C 8 2 (j := (0 : Int32).toNatClampNeg) (y := ((actF F a n P (xs (i + 1))).2.1).toInt64) rfl rfl rfl (outF_0 hk0) (by unfold vp_in; decide) dL_law_357 ?_
    refine v_iload C 6 dL_law_358 rfl ?_
    refine v_i2l C dL_law_360 ?_
    refine v_lcmp C dL_law_361 ?_
    refine v_if_eq C dL_law_362 (tgt := 367) (by decide) (fun _ => ?_) (fun h => absurd (by rw [hf.2.1 hk0]; exact lg_self _) h)
    refine v_goto C dL_law_367 (tgt := 863) (by decide) ?_
    refine v_loc (lv' := lvH bs bX bM o (nI i)) [0, 1, 2, 3, 4] rfl ?_
    exact kk _ _ _ _ _ hf.2.2
set_option maxHeartbeats 4000000 in
set_option maxRecDepth 100000 in
theorem lc_run {p : Program} {l : Launch} {e : Env} {s : State} {m : MethodId} {args : Array Value} {below : List Frame} {meth : Method} {c0 : Code} {D : va_G} {cI cZ cJ : ClassId} {A : Nat → Prop} {bs L : Nat} {xs : Nat → Int32} {Q : State → Prop} {bX bM : Nat → Nat} {o : Nat} {F : FT} {a : AT} {f : Nat → Int64} {G : FT} {c : AT} {cells slots n P E mm : Nat} (X0 : Lc p l s m args meth c0 D cI cZ cJ A bs L xs) (hc : cells + 1 ≤ room_1.cells) (hs : slots + 6 ≤ room_1.slots) {Rel : FT → AT → FT → AT → Prop} (hB : RB Rel n P E mm F a G c) (hF : FA_run Rel) {i : Nat} (hi : i + 3 < L) (hL : L ≤ 2050) (kk : ∀ (F1 : FT) (a1 : AT) (f1 : Nat → Int64) (G1 : FT) (c1 : AT), Rel F1 a1 G1 c1 → vv p l e room_1 s m args below meth c0 7 D vwCl A vT (cells + 1) (slots + 6) Q (wLw cI cZ cJ bX bM o F1 a1 f1 G1 c1) (lvH bs bX bM o (nI i)) 863 []) : vv p l e room_1 s m args below meth c0 7 D vwCl A vT cells slots Q (wLw cI cZ cJ bX bM o F a f G c) (lvH bs bX bM o (nI i)) 370 [] := by
  have C := X0.1
  have hY := X0.2.1
  have hcs : cells ≤ room_1.cells ∧ slots ≤ room_1.slots := ⟨by omega, by omega⟩
  have hcs1 : cells + 1 ≤ room_1.cells ∧ slots + 6 ≤ room_1.slots := ⟨hc, hs⟩
  refine v_aload_n C 1 dL_law_370 rfl rfl ?_
  refine v_aload_n C 0 dL_law_371 rfl rfl ?_
  refine v_iload C 4 dL_law_372 rfl ?_
  refine v_iconst C (v := 1) dL_law_374 (by decide) ?_
  refine v_iadd C dL_law_375 ?_
  refine v_top (y := nI (i + 1)) (nI_add i 1) ?_
  refine v_sld C X0.2.2.1 X0.2.2.2.1 X0.2.2.2.2.1 (y9 := xs (i + 1)) (sl_i (by omega)) (vp_in_nI (by omega) (by omega)) dL_law_376 ?_
  refine v_aload_n C 3 dL_law_377 rfl rfl ?_
  refine v_cH C hY (As := [.ref (bX 0), .int (xs (i + 1)), .ref o]) (wr := wM cI cZ bM G c) (w' := wLw cI cZ cJ bX bM o ((runF F a n P (xs (i + 1))).2.2.1) ((runF F a n P (xs (i + 1))).2.2.2) (outF ((runF F a n P (xs (i + 1))).1) f ((runF F a n P (xs (i + 1))).2.1)) G c) (c_h_run l D cI cZ cJ bX F a o f n P (xs (i + 1)) hB.2.1 hB.2.2.1 hB.2.2.2.1 hB.2.2.2.2.1 X0.2.2.2.2.2) (vx_cwSW 3 C.2.2.2.2.1 gw_L_run rfl rfl rfl (by decide +kernel) ⟨Nat.le_of_ble_eq_true rfl, Nat.le_of_ble_eq_true rfl⟩) rfl rfl (Nat.le_of_ble_eq_true rfl) hcs1 dL_law_378 [0, 1, 2, 3, 4, 5, 6, 7, 8] [9, 10, 11, 12, 13, 14, 15, 16] [8, 9, 10, 11, 12, 13, 14, 15, 16, 0, 1, 2, 3, 4, 5, 6, 7] rfl rfl rfl rfl (by decide) rfl rfl ?_
  refine v_istore C (lv' := [(0, .ref bs), (1, .ref (bX 0)), (2, .ref (bM 0)), (3, .ref o), (4, .int (nI i)), (5, .int (hcA ((runF F a n P (xs (i + 1))).1)))]) [1, 2, 3, 4, 5, 0] dL_law_381 (by decide) rfl ?_
  refine v_aload_n C 2 dL_law_383 rfl rfl ?_
  refine v_aload_n C 0 dL_law_384 rfl rfl ?_
  refine v_iload C 4 dL_law_385 rfl ?_
  refine v_iconst C (v := 1) dL_law_387 (by decide) ?_
  refine v_iadd C dL_law_388 ?_
  refine v_top (y := nI (i + 1)) (nI_add i 1) ?_
  refine v_sld C X0.2.2.1 X0.2.2.2.1 X0.2.2.2.2.1 (y9 := xs (i + 1)) (sl_i (by omega)) (vp_in_nI (by omega) (by omega)) dL_law_389 ?_
  refine v_cViP (As := [.int (xs (i + 1))]) C (wr := wX cI bX ((runF F a n P (xs (i + 1))).2.2.1) ((runF F a n P (xs (i + 1))).2.2.2) ++ wO cJ o (outF ((runF F a n P (xs (i + 1))).1) f ((runF F a n P (xs (i + 1))).2.1))) (w' := wLw cI cZ cJ bX bM o ((runF F a n P (xs (i + 1))).2.2.1) ((runF F a n P (xs (i + 1))).2.2.2) (outF ((runF F a n P (xs (i + 1))).1) f ((runF F a n P (xs (i + 1))).2.1)) ((mRun G c n P (xs (i + 1))).2.1) ((mRun G c n P (xs (i + 1))).2.2)) (c_mRun l D cI cZ cJ bM G c n P (xs (i + 1)) hB.2.2.2.2.2.2.2.2.2.1 hB.2.2.1 hB.2.2.2.2.2.2.2.2.2.2.1 hB.2.2.2.2.1 hB.2.2.2.2.2.2.2.2.2.2.2.1) (cwV 1 C.2.2.2.2.1 gw_M_run rfl rfl rfl (by decide +kernel) ⟨Nat.le_of_ble_eq_true rfl, Nat.le_of_ble_eq_true rfl⟩) 0 rfl (T := TcM) (N := 18) rfl rfl rfl (Nat.le_of_ble_eq_true rfl) hcs1 dL_law_390 [9, 10, 11, 12, 13, 14, 15, 16] [0, 1, 2, 3, 4, 5, 6, 7, 8] [0, 1, 2, 3, 4, 5, 6, 7, 8, 9, 10, 11, 12, 13, 14, 15, 16] rfl rfl rfl rfl (by decide) rfl rfl ?_
  have hf := hF n P E mm F a G c (xs (i + 1)) hB
  refine v_istore C (lv' := [(0, .ref bs), (1, .ref (bX 0)), (2, .ref (bM 0)), (3, .ref o), (4, .int (nI i)), (5, .int (hcA ((runF F a n P (xs (i + 1))).1))), (6, .int ((mRun G c n P (xs (i + 1))).1))]) [1, 2, 3, 4, 5, 6, 0] dL_law_393 (by decide) rfl ?_
  refine v_aload_n C 2 dL_law_395 rfl rfl ?_
  refine v_cVr (As := []) C (c_mThrown l D cI cZ cJ bM ((mRun G c n P (xs (i + 1))).2.1) ((mRun G c n P (xs (i + 1))).2.2)) (cwV 0 C.2.2.2.2.1 gw_M_thrown rfl rfl rfl (by decide +kernel) ⟨Nat.le_of_ble_eq_true rfl, Nat.le_of_ble_eq_true rfl⟩) 0 rfl (T := TcM) (N := 18) rfl rfl rfl (Nat.le_of_ble_eq_true rfl) hcs1 dL_law_396 [9, 10, 11, 12, 13, 14, 15, 16] rfl rfl ?_
  refine v_iload C 5 dL_law_399 rfl ?_
  refine v_icmp_eq C dL_law_401 (tgt := 406) (by decide) (fun _ => ?_) (fun h => absurd hf.1 h)
  refine v_iload C 5 dL_law_406 rfl ?_
  refine v_if_ne C dL_law_408 (tgt := 423) (by decide) (fun _ => ?_) (fun hk => ?_)
  · skip
    refine v_goto C dL_law_423 (tgt := 863) (by decide) ?_
    refine v_loc (lv' := lvH bs bX bM o (nI i)) [0, 1, 2, 3, 4] rfl ?_
    exact kk _ _ _ _ _ hf.2.2
  · skip
    have hk0 : (runF F a n P (xs (i + 1))).1 = 0 := by
      rcases runF_cases F a n P (xs (i + 1)) with h0 | h0
      · exact h0
      · rw [h0] at hk; exact absurd hk (show ¬ hcA 1 = 0 by decide)
    refine v_aload_n C 3 dL_law_411 rfl rfl ?_
    refine v_iconst C (v := 0) dL_law_412 (by decide) ?_
    refine v_lald C 8 2 (j := (0 : Int32).toNatClampNeg) (y := ((runF F a n P (xs (i + 1))).2.1).toInt64) rfl rfl rfl (outF_0 hk0) (by unfold vp_in; decide) dL_law_413 ?_
    refine v_iload C 6 dL_law_414 rfl ?_
    refine v_i2l C dL_law_416 ?_
    refine v_lcmp C dL_law_417 ?_
    refine v_if_eq C dL_law_418 (tgt := 423) (by decide) (fun _ => ?_) (fun h => absurd (by rw [hf.2.1 hk0]; exact lg_self _) h)
    refine v_goto C dL_law_423 (tgt := 863) (by decide) ?_
    refine v_loc (lv' := lvH bs bX bM o (nI i)) [0, 1, 2, 3, 4] rfl ?_
    exact kk _ _ _ _ _ hf.2.2
set_option maxHeartbeats 4000000 in
set_option maxRecDepth 100000 in
theorem lc_deploy {p : Program} {l : Launch} {e : Env} {s : State} {m : MethodId} {args : Array Value} {below : List Frame} {meth : Method} {c0 : Code} {D : va_G} {cI cZ cJ : ClassId} {A : Nat → Prop} {bs L : Nat} {xs : Nat → Int32} {Q : State → Prop} {bX bM : Nat → Nat} {o : Nat} {F : FT} {a : AT} {f : Nat → Int64} {G : FT} {c : AT} {cells slots n P E mm : Nat} (X0 : Lc p l s m args meth c0 D cI cZ cJ A bs L xs) (hc : cells + 1 ≤ room_1.cells) (hs : slots + 6 ≤ room_1.slots) {Rel : FT → AT → FT → AT → Prop} (hB : RB Rel n P E mm F a G c) (hF : FA_deploy Rel) {i : Nat} (hi : i + 3 < L) (hL : L ≤ 2050) (kk : ∀ (F1 : FT) (a1 : AT) (f1 : Nat → Int64) (G1 : FT) (c1 : AT), Rel F1 a1 G1 c1 → vv p l e room_1 s m args below meth c0 7 D vwCl A vT (cells + 1) (slots + 6) Q (wLw cI cZ cJ bX bM o F1 a1 f1 G1 c1) (lvH bs bX bM o (nI i)) 863 []) : vv p l e room_1 s m args below meth c0 7 D vwCl A vT cells slots Q (wLw cI cZ cJ bX bM o F a f G c) (lvH bs bX bM o (nI i)) 426 [] := by
  have C := X0.1
  have hY := X0.2.1
  have hcs : cells ≤ room_1.cells ∧ slots ≤ room_1.slots := ⟨by omega, by omega⟩
  have hcs1 : cells + 1 ≤ room_1.cells ∧ slots + 6 ≤ room_1.slots := ⟨hc, hs⟩
  refine v_aload_n C 1 dL_law_426 rfl rfl ?_
  refine v_aload_n C 0 dL_law_427 rfl rfl ?_
  refine v_iload C 4 dL_law_428 rfl ?_
  refine v_iconst C (v := 1) dL_law_430 (by decide) ?_
  refine v_iadd C dL_law_431 ?_
  refine v_top (y := nI (i + 1)) (nI_add i 1) ?_
  refine v_sld C X0.2.2.1 X0.2.2.2.1 X0.2.2.2.2.1 (y9 := xs (i + 1)) (sl_i (by omega)) (vp_in_nI (by omega) (by omega)) dL_law_432 ?_
  refine v_cH C hY (As := [.ref (bX 0), .int (xs (i + 1))]) (wr := wO cJ o f ++ wM cI cZ bM G c) (w' := wLw cI cZ cJ bX bM o F ((deployF F a (xs (i + 1))).2) f G c) (c_h_deploy l D cI cZ cJ bX F a n (xs (i + 1)) hB.2.1 hB.2.2.1 X0.2.2.2.2.2) (vx_cwSW 2 C.2.2.2.2.1 gw_L_deploy rfl rfl rfl (by decide +kernel) ⟨Nat.le_of_ble_eq_true rfl, Nat.le_of_ble_eq_true rfl⟩) rfl rfl (Nat.le_of_ble_eq_true rfl) hcs1 dL_law_433 [0, 1, 2, 3, 4, 5, 6, 7] [8, 9, 10, 11, 12, 13, 14, 15, 16] [9, 10, 11, 12, 13, 14, 15, 16, 0, 1, 2, 3, 4, 5, 6, 7, 8] rfl rfl rfl rfl (by decide) rfl rfl ?_
  refine v_istore C (lv' := [(0, .ref bs), (1, .ref (bX 0)), (2, .ref (bM 0)), (3, .ref o), (4, .int (nI i)), (5, .int (hcD ((deployF F a (xs (i + 1))).1)))]) [1, 2, 3, 4, 5, 0] dL_law_436 (by decide) rfl ?_
  refine v_aload_n C 2 dL_law_438 rfl rfl ?_
  refine v_aload_n C 0 dL_law_439 rfl rfl ?_
  refine v_iload C 4 dL_law_440 rfl ?_
  refine v_iconst C (v := 1) dL_law_442 (by decide) ?_
  refine v_iadd C dL_law_443 ?_
  refine v_top (y := nI (i + 1)) (nI_add i 1) ?_
  refine v_sld C X0.2.2.1 X0.2.2.2.1 X0.2.2.2.2.1 (y9 := xs (i + 1)) (sl_i (by omega)) (vp_in_nI (by omega) (by omega)) dL_law_444 ?_
  refine v_cVvP (As := [.int (xs (i + 1))]) C (wr := wX cI bX F ((deployF F a (xs (i + 1))).2) ++ wO cJ o f) (w' := wLw cI cZ cJ bX bM o F ((deployF F a (xs (i + 1))).2) f ((mDeploy G c (xs (i + 1))).1) ((mDeploy G c (xs (i + 1))).2)) (c_mDeploy l D cI cZ cJ bM G c n (xs (i + 1)) hB.2.2.2.2.2.2.2.2.2.1 hB.2.2.1) (cwV 1 C.2.2.2.2.1 gw_M_deploy rfl rfl rfl (by decide +kernel) ⟨Nat.le_of_ble_eq_true rfl, Nat.le_of_ble_eq_true rfl⟩) 0 rfl (T := TcM) (N := 18) rfl rfl rfl (Nat.le_of_ble_eq_true rfl) hcs1 dL_law_445 [9, 10, 11, 12, 13, 14, 15, 16] [0, 1, 2, 3, 4, 5, 6, 7, 8] [0, 1, 2, 3, 4, 5, 6, 7, 8, 9, 10, 11, 12, 13, 14, 15, 16] rfl rfl rfl rfl (by decide) rfl rfl ?_
  have hf := hF n P E mm F a G c (xs (i + 1)) hB
  refine v_aload_n C 2 dL_law_448 rfl rfl ?_
  refine v_cVr (As := []) C (c_mThrown l D cI cZ cJ bM ((mDeploy G c (xs (i + 1))).1) ((mDeploy G c (xs (i + 1))).2)) (cwV 0 C.2.2.2.2.1 gw_M_thrown rfl rfl rfl (by decide +kernel) ⟨Nat.le_of_ble_eq_true rfl, Nat.le_of_ble_eq_true rfl⟩) 0 rfl (T := TcM) (N := 18) rfl rfl rfl (Nat.le_of_ble_eq_true rfl) hcs1 dL_law_449 [9, 10, 11, 12, 13, 14, 15, 16] rfl rfl ?_
  refine v_iload C 5 dL_law_452 rfl ?_
  refine v_icmp_eq C dL_law_454 (tgt := 459) (by decide) (fun _ => ?_) (fun h => absurd hf.1 h)
  refine v_goto C dL_law_459 (tgt := 863) (by decide) ?_
  refine v_loc (lv' := lvH bs bX bM o (nI i)) [0, 1, 2, 3, 4] rfl ?_
  exact kk _ _ _ _ _ hf.2
set_option maxHeartbeats 4000000 in
set_option maxRecDepth 100000 in
theorem lc_step {p : Program} {l : Launch} {e : Env} {s : State} {m : MethodId} {args : Array Value} {below : List Frame} {meth : Method} {c0 : Code} {D : va_G} {cI cZ cJ : ClassId} {A : Nat → Prop} {bs L : Nat} {xs : Nat → Int32} {Q : State → Prop} {bX bM : Nat → Nat} {o : Nat} {F : FT} {a : AT} {f : Nat → Int64} {G : FT} {c : AT} {cells slots n P E mm : Nat} (X0 : Lc p l s m args meth c0 D cI cZ cJ A bs L xs) (hc : cells + 1 ≤ room_1.cells) (hs : slots + 6 ≤ room_1.slots) {Rel : FT → AT → FT → AT → Prop} (hB : RB Rel n P E mm F a G c) (hF : FA_step Rel) {i : Nat} (hi : i + 3 < L) (hL : L ≤ 2050) (kk : ∀ (F1 : FT) (a1 : AT) (f1 : Nat → Int64) (G1 : FT) (c1 : AT), Rel F1 a1 G1 c1 → vv p l e room_1 s m args below meth c0 7 D vwCl A vT (cells + 1) (slots + 6) Q (wLw cI cZ cJ bX bM o F1 a1 f1 G1 c1) (lvH bs bX bM o (nI i)) 863 []) : vv p l e room_1 s m args below meth c0 7 D vwCl A vT cells slots Q (wLw cI cZ cJ bX bM o F a f G c) (lvH bs bX bM o (nI i)) 462 [] := by
  have C := X0.1
  have hY := X0.2.1
  have hcs : cells ≤ room_1.cells ∧ slots ≤ room_1.slots := ⟨by omega, by omega⟩
  have hcs1 : cells + 1 ≤ room_1.cells ∧ slots + 6 ≤ room_1.slots := ⟨hc, hs⟩
  refine v_aload_n C 1 dL_law_462 rfl rfl ?_
  refine v_aload_n C 0 dL_law_463 rfl rfl ?_
  refine v_iload C 4 dL_law_464 rfl ?_
  refine v_iconst C (v := 1) dL_law_466 (by decide) ?_
  refine v_iadd C dL_law_467 ?_
  refine v_top (y := nI (i + 1)) (nI_add i 1) ?_
  refine v_sld C X0.2.2.1 X0.2.2.2.1 X0.2.2.2.2.1 (y9 := xs (i + 1)) (sl_i (by omega)) (vp_in_nI (by omega) (by omega)) dL_law_468 ?_
  refine v_cViP (As := [.int (xs (i + 1))]) C (wr := wO cJ o f ++ wM cI cZ bM G c) (w' := wLw cI cZ cJ bX bM o ((stepF F a (xs (i + 1))).2) a f G c) (c_stepF l D cI cZ cJ bX F a (xs (i + 1)) ) (cwV 1 C.2.2.2.2.1 gw_X_step rfl rfl rfl (by decide +kernel) ⟨Nat.le_of_ble_eq_true rfl, Nat.le_of_ble_eq_true rfl⟩) 0 rfl (T := TcX) (N := 16) rfl rfl rfl (Nat.le_of_ble_eq_true rfl) hcs dL_law_469 [0, 1, 2, 3, 4, 5, 6, 7] [8, 9, 10, 11, 12, 13, 14, 15, 16] [9, 10, 11, 12, 13, 14, 15, 16, 0, 1, 2, 3, 4, 5, 6, 7, 8] rfl rfl rfl rfl (by decide) rfl rfl ?_
  refine v_aload_n C 2 dL_law_472 rfl rfl ?_
  refine v_aload_n C 0 dL_law_473 rfl rfl ?_
  refine v_iload C 4 dL_law_474 rfl ?_
  refine v_iconst C (v := 1) dL_law_476 (by decide) ?_
  refine v_iadd C dL_law_477 ?_
  refine v_top (y := nI (i + 1)) (nI_add i 1) ?_
  refine v_sld C X0.2.2.1 X0.2.2.2.1 X0.2.2.2.2.1 (y9 := xs (i + 1)) (sl_i (by omega)) (vp_in_nI (by omega) (by omega)) dL_law_478 ?_
  refine v_cViP (As := [.int (xs (i + 1))]) C (wr := wX cI bX ((stepF F a (xs (i + 1))).2) a ++ wO cJ o f) (w' := wLw cI cZ cJ bX bM o ((stepF F a (xs (i + 1))).2) a f ((mStep G c (xs (i + 1))).2) c) (c_mStep l D cI cZ cJ bM G c (xs (i + 1)) ) (cwV 1 C.2.2.2.2.1 gw_M_step rfl rfl rfl (by decide +kernel) ⟨Nat.le_of_ble_eq_true rfl, Nat.le_of_ble_eq_true rfl⟩) 0 rfl (T := TcM) (N := 18) rfl rfl rfl (Nat.le_of_ble_eq_true rfl) hcs dL_law_479 [9, 10, 11, 12, 13, 14, 15, 16] [0, 1, 2, 3, 4, 5, 6, 7, 8] [0, 1, 2, 3, 4, 5, 6, 7, 8, 9, 10, 11, 12, 13, 14, 15, 16] rfl rfl rfl rfl (by decide) rfl rfl ?_
  have hf := hF n P E mm F a G c (xs (i + 1)) hB
  refine v_icmp_eq C dL_law_482 (tgt := 863) (by decide) (fun _ => ?_) (fun h => absurd hf.1 h)
  refine v_widen (Nat.le_succ _) (Nat.le_add_right _ 6) ?_
  exact kk _ _ _ _ _ hf.2

set_option maxHeartbeats 4000000 in
set_option maxRecDepth 100000 in
theorem lc_show {p : Program} {l : Launch} {e : Env} {s : State} {m : MethodId} {args : Array Value} {below : List Frame} {meth : Method} {c0 : Code} {D : va_G} {cI cZ cJ : ClassId} {A : Nat → Prop} {bs L : Nat} {xs : Nat → Int32} {Q : State → Prop} {bX bM : Nat → Nat} {o : Nat} {F : FT} {a : AT} {f : Nat → Int64} {G : FT} {c : AT} {cells slots n P E mm : Nat} (X0 : Lc p l s m args meth c0 D cI cZ cJ A bs L xs) (hc : cells + 1 ≤ room_1.cells) (hs : slots + 6 ≤ room_1.slots) {Rel : FT → AT → FT → AT → Prop} (hB : RB Rel n P E mm F a G c) (hF : FA_show Rel) {i : Nat} (hi : i + 3 < L) (hL : L ≤ 2050) (kk : ∀ (F1 : FT) (a1 : AT) (f1 : Nat → Int64) (G1 : FT) (c1 : AT), Rel F1 a1 G1 c1 → vv p l e room_1 s m args below meth c0 7 D vwCl A vT (cells + 1) (slots + 6) Q (wLw cI cZ cJ bX bM o F1 a1 f1 G1 c1) (lvH bs bX bM o (nI i)) 863 []) : vv p l e room_1 s m args below meth c0 7 D vwCl A vT cells slots Q (wLw cI cZ cJ bX bM o F a f G c) (lvH bs bX bM o (nI i)) 487 [] := by
  have C := X0.1
  have hY := X0.2.1
  have hcs : cells ≤ room_1.cells ∧ slots ≤ room_1.slots := ⟨by omega, by omega⟩
  have hcs1 : cells + 1 ≤ room_1.cells ∧ slots + 6 ≤ room_1.slots := ⟨hc, hs⟩
  refine v_aload_n C 1 dL_law_487 rfl rfl ?_
  refine v_aload_n C 0 dL_law_488 rfl rfl ?_
  refine v_iload C 4 dL_law_489 rfl ?_
  refine v_iconst C (v := 1) dL_law_491 (by decide) ?_
  refine v_iadd C dL_law_492 ?_
  refine v_top (y := nI (i + 1)) (nI_add i 1) ?_
  refine v_sld C X0.2.2.1 X0.2.2.2.1 X0.2.2.2.2.1 (y9 := xs (i + 1)) (sl_i (by omega)) (vp_in_nI (by omega) (by omega)) dL_law_493 ?_
  refine v_aload_n C 3 dL_law_494 rfl rfl ?_
  refine v_cH C hY (As := [.ref (bX 0), .int (xs (i + 1)), .ref o]) (wr := wM cI cZ bM G c) (w' := wLw cI cZ cJ bX bM o ((showF F a n P (xs (i + 1))).2.2.1) ((showF F a n P (xs (i + 1))).2.2.2) (outF ((showF F a n P (xs (i + 1))).1) f ((showF F a n P (xs (i + 1))).2.1)) G c) (c_h_show l D cI cZ cJ bX F a o f n P (xs (i + 1)) hB.2.1 hB.2.2.1 hB.2.2.2.1 hB.2.2.2.2.1 hB.2.2.2.2.2.2.1 X0.2.2.2.2.2) (vx_cwSW 3 C.2.2.2.2.1 gw_L_show rfl rfl rfl (by decide +kernel) ⟨Nat.le_of_ble_eq_true rfl, Nat.le_of_ble_eq_true rfl⟩) rfl rfl (Nat.le_of_ble_eq_true rfl) hcs1 dL_law_495 [0, 1, 2, 3, 4, 5, 6, 7, 8] [9, 10, 11, 12, 13, 14, 15, 16] [8, 9, 10, 11, 12, 13, 14, 15, 16, 0, 1, 2, 3, 4, 5, 6, 7] rfl rfl rfl rfl (by decide) rfl rfl ?_
  refine v_istore C (lv' := [(0, .ref bs), (1, .ref (bX 0)), (2, .ref (bM 0)), (3, .ref o), (4, .int (nI i)), (5, .int (hcS ((showF F a n P (xs (i + 1))).1)))]) [1, 2, 3, 4, 5, 0] dL_law_498 (by decide) rfl ?_
  refine v_aload_n C 2 dL_law_500 rfl rfl ?_
  refine v_aload_n C 0 dL_law_501 rfl rfl ?_
  refine v_iload C 4 dL_law_502 rfl ?_
  refine v_iconst C (v := 1) dL_law_504 (by decide) ?_
  refine v_iadd C dL_law_505 ?_
  refine v_top (y := nI (i + 1)) (nI_add i 1) ?_
  refine v_sld C X0.2.2.1 X0.2.2.2.1 X0.2.2.2.2.1 (y9 := xs (i + 1)) (sl_i (by omega)) (vp_in_nI (by omega) (by omega)) dL_law_506 ?_
  refine v_cViP (As := [.int (xs (i + 1))]) C (wr := wX cI bX ((showF F a n P (xs (i + 1))).2.2.1) ((showF F a n P (xs (i + 1))).2.2.2) ++ wO cJ o (outF ((showF F a n P (xs (i + 1))).1) f ((showF F a n P (xs (i + 1))).2.1))) (w' := wLw cI cZ cJ bX bM o ((showF F a n P (xs (i + 1))).2.2.1) ((showF F a n P (xs (i + 1))).2.2.2) (outF ((showF F a n P (xs (i + 1))).1) f ((showF F a n P (xs (i + 1))).2.1)) ((mShow G c n mm (xs (i + 1))).2.1) ((mShow G c n mm (xs (i + 1))).2.2)) (c_mShow l D cI cZ cJ bM G c n mm (xs (i + 1)) hB.2.2.2.2.2.2.2.2.2.1 hB.2.2.1 hB.2.2.2.2.2.2.2.2.2.2.2.2.1 hB.2.2.2.2.2.2.2.2.2.2.2.2.2.1 hB.2.2.2.2.2.2.2.2.2.2.2.2.2.2) (cwV 1 C.2.2.2.2.1 gw_M_show rfl rfl rfl (by decide +kernel) ⟨Nat.le_of_ble_eq_true rfl, Nat.le_of_ble_eq_true rfl⟩) 0 rfl (T := TcM) (N := 18) rfl rfl rfl (Nat.le_of_ble_eq_true rfl) hcs1 dL_law_507 [9, 10, 11, 12, 13, 14, 15, 16] [0, 1, 2, 3, 4, 5, 6, 7, 8] [0, 1, 2, 3, 4, 5, 6, 7, 8, 9, 10, 11, 12, 13, 14, 15, 16] rfl rfl rfl rfl (by decide) rfl rfl ?_
  have hf := hF n P E mm F a G c (xs (i + 1)) hB
  refine v_istore C (lv' := [(0, .ref bs), (1, .ref (bX 0)), (2, .ref (bM 0)), (3, .ref o), (4, .int (nI i)), (5, .int (hcS ((showF F a n P (xs (i + 1))).1))), (6, .int ((mShow G c n mm (xs (i + 1))).1))]) [1, 2, 3, 4, 5, 6, 0] dL_law_510 (by decide) rfl ?_
  refine v_aload_n C 2 dL_law_512 rfl rfl ?_
  refine v_cVr (As := []) C (c_mThrown l D cI cZ cJ bM ((mShow G c n mm (xs (i + 1))).2.1) ((mShow G c n mm (xs (i + 1))).2.2)) (cwV 0 C.2.2.2.2.1 gw_M_thrown rfl rfl rfl (by decide +kernel) ⟨Nat.le_of_ble_eq_true rfl, Nat.le_of_ble_eq_true rfl⟩) 0 rfl (T := TcM) (N := 18) rfl rfl rfl (Nat.le_of_ble_eq_true rfl) hcs1 dL_law_513 [9, 10, 11, 12, 13, 14, 15, 16] rfl rfl ?_
  refine v_iload C 5 dL_law_516 rfl ?_
  refine v_icmp_eq C dL_law_518 (tgt := 523) (by decide) (fun _ => ?_) (fun h => absurd hf.1 h)
  refine v_iload C 5 dL_law_523 rfl ?_
  refine v_if_ne C dL_law_525 (tgt := 540) (by decide) (fun _ => ?_) (fun hk => ?_)
  · skip
    refine v_goto C dL_law_540 (tgt := 863) (by decide) ?_
    refine v_loc (lv' := lvH bs bX bM o (nI i)) [0, 1, 2, 3, 4] rfl ?_
    exact kk _ _ _ _ _ hf.2.2
  · skip
    have hk0 : (showF F a n P (xs (i + 1))).1 = 0 := by
      rcases showF_cases F a n P (xs (i + 1)) with h0 | h0 | h0 | h0 | h0
      · exact h0
      · rw [h0] at hk; exact absurd hk (show ¬ hcS 4 = 0 by decide)
      · rw [h0] at hk; exact absurd hk (show ¬ hcS 1 = 0 by decide)
      · rw [h0] at hk; exact absurd hk (show ¬ hcS 2 = 0 by decide)
      · rw [h0] at hk; exact absurd hk (show ¬ hcS 3 = 0 by decide)
    refine v_aload_n C 3 dL_law_528 rfl rfl ?_
    refine v_iconst C (v := 0) dL_law_529 (by decide) ?_
    refine v_lald C 8 2 (j := (0 : Int32).toNatClampNeg) (y := ((showF F a n P (xs (i + 1))).2.1).toInt64) rfl rfl rfl (outF_0 hk0) (by unfold vp_in; decide) dL_law_530 ?_
    refine v_iload C 6 dL_law_531 rfl ?_
    refine v_i2l C dL_law_533 ?_
    refine v_lcmp C dL_law_534 ?_
    refine v_if_eq C dL_law_535 (tgt := 540) (by decide) (fun _ => ?_) (fun h => absurd (by rw [hf.2.1 hk0]; exact lg_self _) h)
    refine v_goto C dL_law_540 (tgt := 863) (by decide) ?_
    refine v_loc (lv' := lvH bs bX bM o (nI i)) [0, 1, 2, 3, 4] rfl ?_
    exact kk _ _ _ _ _ hf.2.2
set_option maxHeartbeats 4000000 in
set_option maxRecDepth 100000 in
theorem lc_clear {p : Program} {l : Launch} {e : Env} {s : State} {m : MethodId} {args : Array Value} {below : List Frame} {meth : Method} {c0 : Code} {D : va_G} {cI cZ cJ : ClassId} {A : Nat → Prop} {bs L : Nat} {xs : Nat → Int32} {Q : State → Prop} {bX bM : Nat → Nat} {o : Nat} {F : FT} {a : AT} {f : Nat → Int64} {G : FT} {c : AT} {cells slots n P E mm : Nat} (X0 : Lc p l s m args meth c0 D cI cZ cJ A bs L xs) (hc : cells + 1 ≤ room_1.cells) (hs : slots + 6 ≤ room_1.slots) {Rel : FT → AT → FT → AT → Prop} (hB : RB Rel n P E mm F a G c) (hF : FA_clear Rel) {i : Nat} (hi : i + 3 < L) (hL : L ≤ 2050) (kk : ∀ (F1 : FT) (a1 : AT) (f1 : Nat → Int64) (G1 : FT) (c1 : AT), Rel F1 a1 G1 c1 → vv p l e room_1 s m args below meth c0 7 D vwCl A vT (cells + 1) (slots + 6) Q (wLw cI cZ cJ bX bM o F1 a1 f1 G1 c1) (lvH bs bX bM o (nI i)) 863 []) : vv p l e room_1 s m args below meth c0 7 D vwCl A vT cells slots Q (wLw cI cZ cJ bX bM o F a f G c) (lvH bs bX bM o (nI i)) 543 [] := by
  have C := X0.1
  have hY := X0.2.1
  have hcs : cells ≤ room_1.cells ∧ slots ≤ room_1.slots := ⟨by omega, by omega⟩
  have hcs1 : cells + 1 ≤ room_1.cells ∧ slots + 6 ≤ room_1.slots := ⟨hc, hs⟩
  refine v_aload_n C 1 dL_law_543 rfl rfl ?_
  refine v_cVvP (As := []) C (wr := wO cJ o f ++ wM cI cZ bM G c) (w' := wLw cI cZ cJ bX bM o (clearF F a) a f G c) (c_clearF l D cI cZ cJ bX F a  ) (cwV 0 C.2.2.2.2.1 gw_X_clear rfl rfl rfl (by decide +kernel) ⟨Nat.le_of_ble_eq_true rfl, Nat.le_of_ble_eq_true rfl⟩) 0 rfl (T := TcX) (N := 16) rfl rfl rfl (Nat.le_of_ble_eq_true rfl) hcs dL_law_544 [0, 1, 2, 3, 4, 5, 6, 7] [8, 9, 10, 11, 12, 13, 14, 15, 16] [9, 10, 11, 12, 13, 14, 15, 16, 0, 1, 2, 3, 4, 5, 6, 7, 8] rfl rfl rfl rfl (by decide) rfl rfl ?_
  refine v_aload_n C 2 dL_law_547 rfl rfl ?_
  refine v_cVvP (As := []) C (wr := wX cI bX (clearF F a) a ++ wO cJ o f) (w' := wLw cI cZ cJ bX bM o (clearF F a) a f (mClear G c) c) (c_mClear l D cI cZ cJ bM G c  ) (cwV 0 C.2.2.2.2.1 gw_M_clear rfl rfl rfl (by decide +kernel) ⟨Nat.le_of_ble_eq_true rfl, Nat.le_of_ble_eq_true rfl⟩) 0 rfl (T := TcM) (N := 18) rfl rfl rfl (Nat.le_of_ble_eq_true rfl) hcs dL_law_548 [9, 10, 11, 12, 13, 14, 15, 16] [0, 1, 2, 3, 4, 5, 6, 7, 8] [0, 1, 2, 3, 4, 5, 6, 7, 8, 9, 10, 11, 12, 13, 14, 15, 16] rfl rfl rfl rfl (by decide) rfl rfl ?_
  have hf := hF n P E mm F a G c hB
  refine v_goto C dL_law_551 (tgt := 863) (by decide) ?_
  refine v_widen (Nat.le_succ _) (Nat.le_add_right _ 6) ?_
  exact kk _ _ _ _ _ hf
set_option maxHeartbeats 4000000 in
set_option maxRecDepth 100000 in
theorem lc_back {p : Program} {l : Launch} {e : Env} {s : State} {m : MethodId} {args : Array Value} {below : List Frame} {meth : Method} {c0 : Code} {D : va_G} {cI cZ cJ : ClassId} {A : Nat → Prop} {bs L : Nat} {xs : Nat → Int32} {Q : State → Prop} {bX bM : Nat → Nat} {o : Nat} {F : FT} {a : AT} {f : Nat → Int64} {G : FT} {c : AT} {cells slots n P E mm : Nat} (X0 : Lc p l s m args meth c0 D cI cZ cJ A bs L xs) (hc : cells + 1 ≤ room_1.cells) (hs : slots + 6 ≤ room_1.slots) {Rel : FT → AT → FT → AT → Prop} (hB : RB Rel n P E mm F a G c) (hF : FA_back Rel) {i : Nat} (hi : i + 3 < L) (hL : L ≤ 2050) (kk : ∀ (F1 : FT) (a1 : AT) (f1 : Nat → Int64) (G1 : FT) (c1 : AT), Rel F1 a1 G1 c1 → vv p l e room_1 s m args below meth c0 7 D vwCl A vT (cells + 1) (slots + 6) Q (wLw cI cZ cJ bX bM o F1 a1 f1 G1 c1) (lvH bs bX bM o (nI i)) 863 []) : vv p l e room_1 s m args below meth c0 7 D vwCl A vT cells slots Q (wLw cI cZ cJ bX bM o F a f G c) (lvH bs bX bM o (nI i)) 554 [] := by
  have C := X0.1
  have hY := X0.2.1
  have hcs : cells ≤ room_1.cells ∧ slots ≤ room_1.slots := ⟨by omega, by omega⟩
  have hcs1 : cells + 1 ≤ room_1.cells ∧ slots + 6 ≤ room_1.slots := ⟨hc, hs⟩
  refine v_aload_n C 1 dL_law_554 rfl rfl ?_
  refine v_aload_n C 0 dL_law_555 rfl rfl ?_
  refine v_iload C 4 dL_law_556 rfl ?_
  refine v_iconst C (v := 1) dL_law_558 (by decide) ?_
  refine v_iadd C dL_law_559 ?_
  refine v_top (y := nI (i + 1)) (nI_add i 1) ?_
  refine v_sld C X0.2.2.1 X0.2.2.2.1 X0.2.2.2.2.1 (y9 := xs (i + 1)) (sl_i (by omega)) (vp_in_nI (by omega) (by omega)) dL_law_560 ?_
  refine v_cH C hY (As := [.ref (bX 0), .int (xs (i + 1))]) (wr := wO cJ o f ++ wM cI cZ bM G c) (w' := wLw cI cZ cJ bX bM o F ((backF F a (xs (i + 1))).2) f G c) (c_h_back l D cI cZ cJ bX F a n (xs (i + 1)) hB.2.1 hB.2.2.1 X0.2.2.2.2.2) (vx_cwSW 2 C.2.2.2.2.1 gw_L_back rfl rfl rfl (by decide +kernel) ⟨Nat.le_of_ble_eq_true rfl, Nat.le_of_ble_eq_true rfl⟩) rfl rfl (Nat.le_of_ble_eq_true rfl) hcs1 dL_law_561 [0, 1, 2, 3, 4, 5, 6, 7] [8, 9, 10, 11, 12, 13, 14, 15, 16] [9, 10, 11, 12, 13, 14, 15, 16, 0, 1, 2, 3, 4, 5, 6, 7, 8] rfl rfl rfl rfl (by decide) rfl rfl ?_
  refine v_istore C (lv' := [(0, .ref bs), (1, .ref (bX 0)), (2, .ref (bM 0)), (3, .ref o), (4, .int (nI i)), (5, .int (hcB ((backF F a (xs (i + 1))).1)))]) [1, 2, 3, 4, 5, 0] dL_law_564 (by decide) rfl ?_
  refine v_aload_n C 2 dL_law_566 rfl rfl ?_
  refine v_aload_n C 0 dL_law_567 rfl rfl ?_
  refine v_iload C 4 dL_law_568 rfl ?_
  refine v_iconst C (v := 1) dL_law_570 (by decide) ?_
  refine v_iadd C dL_law_571 ?_
  refine v_top (y := nI (i + 1)) (nI_add i 1) ?_
  refine v_sld C X0.2.2.1 X0.2.2.2.1 X0.2.2.2.2.1 (y9 := xs (i + 1)) (sl_i (by omega)) (vp_in_nI (by omega) (by omega)) dL_law_572 ?_
  refine v_cVvP (As := [.int (xs (i + 1))]) C (wr := wX cI bX F ((backF F a (xs (i + 1))).2) ++ wO cJ o f) (w' := wLw cI cZ cJ bX bM o F ((backF F a (xs (i + 1))).2) f ((mBack G c (xs (i + 1))).1) ((mBack G c (xs (i + 1))).2)) (c_mBack l D cI cZ cJ bM G c n (xs (i + 1)) hB.2.2.2.2.2.2.2.2.2.1 hB.2.2.1) (cwV 1 C.2.2.2.2.1 gw_M_back rfl rfl rfl (by decide +kernel) ⟨Nat.le_of_ble_eq_true rfl, Nat.le_of_ble_eq_true rfl⟩) 0 rfl (T := TcM) (N := 18) rfl rfl rfl (Nat.le_of_ble_eq_true rfl) hcs1 dL_law_573 [9, 10, 11, 12, 13, 14, 15, 16] [0, 1, 2, 3, 4, 5, 6, 7, 8] [0, 1, 2, 3, 4, 5, 6, 7, 8, 9, 10, 11, 12, 13, 14, 15, 16] rfl rfl rfl rfl (by decide) rfl rfl ?_
  have hf := hF n P E mm F a G c (xs (i + 1)) hB
  refine v_aload_n C 2 dL_law_576 rfl rfl ?_
  refine v_cVr (As := []) C (c_mThrown l D cI cZ cJ bM ((mBack G c (xs (i + 1))).1) ((mBack G c (xs (i + 1))).2)) (cwV 0 C.2.2.2.2.1 gw_M_thrown rfl rfl rfl (by decide +kernel) ⟨Nat.le_of_ble_eq_true rfl, Nat.le_of_ble_eq_true rfl⟩) 0 rfl (T := TcM) (N := 18) rfl rfl rfl (Nat.le_of_ble_eq_true rfl) hcs1 dL_law_577 [9, 10, 11, 12, 13, 14, 15, 16] rfl rfl ?_
  refine v_iload C 5 dL_law_580 rfl ?_
  refine v_icmp_eq C dL_law_582 (tgt := 587) (by decide) (fun _ => ?_) (fun h => absurd hf.1 h)
  refine v_goto C dL_law_587 (tgt := 863) (by decide) ?_
  refine v_loc (lv' := lvH bs bX bM o (nI i)) [0, 1, 2, 3, 4] rfl ?_
  exact kk _ _ _ _ _ hf.2
set_option maxHeartbeats 4000000 in
set_option maxRecDepth 100000 in
theorem lc_pass {p : Program} {l : Launch} {e : Env} {s : State} {m : MethodId} {args : Array Value} {below : List Frame} {meth : Method} {c0 : Code} {D : va_G} {cI cZ cJ : ClassId} {A : Nat → Prop} {bs L : Nat} {xs : Nat → Int32} {Q : State → Prop} {bX bM : Nat → Nat} {o : Nat} {F : FT} {a : AT} {f : Nat → Int64} {G : FT} {c : AT} {cells slots n P E mm : Nat} (X0 : Lc p l s m args meth c0 D cI cZ cJ A bs L xs) (hc : cells + 1 ≤ room_1.cells) (hs : slots + 6 ≤ room_1.slots) {Rel : FT → AT → FT → AT → Prop} (hB : RB Rel n P E mm F a G c) (hF : FA_pass Rel) {i : Nat} (hi : i + 3 < L) (hL : L ≤ 2050) (kk : ∀ (F1 : FT) (a1 : AT) (f1 : Nat → Int64) (G1 : FT) (c1 : AT), Rel F1 a1 G1 c1 → vv p l e room_1 s m args below meth c0 7 D vwCl A vT (cells + 1) (slots + 6) Q (wLw cI cZ cJ bX bM o F1 a1 f1 G1 c1) (lvH bs bX bM o (nI i)) 863 []) : vv p l e room_1 s m args below meth c0 7 D vwCl A vT cells slots Q (wLw cI cZ cJ bX bM o F a f G c) (lvH bs bX bM o (nI i)) 590 [] := by
  have C := X0.1
  have hY := X0.2.1
  have hcs : cells ≤ room_1.cells ∧ slots ≤ room_1.slots := ⟨by omega, by omega⟩
  have hcs1 : cells + 1 ≤ room_1.cells ∧ slots + 6 ≤ room_1.slots := ⟨hc, hs⟩
  refine v_aload_n C 1 dL_law_590 rfl rfl ?_
  refine v_aload_n C 0 dL_law_591 rfl rfl ?_
  refine v_iload C 4 dL_law_592 rfl ?_
  refine v_iconst C (v := 1) dL_law_594 (by decide) ?_
  refine v_iadd C dL_law_595 ?_
  refine v_top (y := nI (i + 1)) (nI_add i 1) ?_
  refine v_sld C X0.2.2.1 X0.2.2.2.1 X0.2.2.2.2.1 (y9 := xs (i + 1)) (sl_i (by omega)) (vp_in_nI (by omega) (by omega)) dL_law_596 ?_
  refine v_cViP (As := [.int (xs (i + 1))]) C (wr := wO cJ o f ++ wM cI cZ bM G c) (w' := wLw cI cZ cJ bX bM o ((passF F a (xs (i + 1))).2) a f G c) (c_passF l D cI cZ cJ bX F a (xs (i + 1)) ) (cwV 1 C.2.2.2.2.1 gw_X_pass rfl rfl rfl (by decide +kernel) ⟨Nat.le_of_ble_eq_true rfl, Nat.le_of_ble_eq_true rfl⟩) 0 rfl (T := TcX) (N := 16) rfl rfl rfl (Nat.le_of_ble_eq_true rfl) hcs dL_law_597 [0, 1, 2, 3, 4, 5, 6, 7] [8, 9, 10, 11, 12, 13, 14, 15, 16] [9, 10, 11, 12, 13, 14, 15, 16, 0, 1, 2, 3, 4, 5, 6, 7, 8] rfl rfl rfl rfl (by decide) rfl rfl ?_
  refine v_aload_n C 2 dL_law_600 rfl rfl ?_
  refine v_aload_n C 0 dL_law_601 rfl rfl ?_
  refine v_iload C 4 dL_law_602 rfl ?_
  refine v_iconst C (v := 1) dL_law_604 (by decide) ?_
  refine v_iadd C dL_law_605 ?_
  refine v_top (y := nI (i + 1)) (nI_add i 1) ?_
  refine v_sld C X0.2.2.1 X0.2.2.2.1 X0.2.2.2.2.1 (y9 := xs (i + 1)) (sl_i (by omega)) (vp_in_nI (by omega) (by omega)) dL_law_606 ?_
  refine v_cViP (As := [.int (xs (i + 1))]) C (wr := wX cI bX ((passF F a (xs (i + 1))).2) a ++ wO cJ o f) (w' := wLw cI cZ cJ bX bM o ((passF F a (xs (i + 1))).2) a f ((mPass G c (xs (i + 1))).2) c) (c_mPass l D cI cZ cJ bM G c (xs (i + 1)) ) (cwV 1 C.2.2.2.2.1 gw_M_pass rfl rfl rfl (by decide +kernel) ⟨Nat.le_of_ble_eq_true rfl, Nat.le_of_ble_eq_true rfl⟩) 0 rfl (T := TcM) (N := 18) rfl rfl rfl (Nat.le_of_ble_eq_true rfl) hcs dL_law_607 [9, 10, 11, 12, 13, 14, 15, 16] [0, 1, 2, 3, 4, 5, 6, 7, 8] [0, 1, 2, 3, 4, 5, 6, 7, 8, 9, 10, 11, 12, 13, 14, 15, 16] rfl rfl rfl rfl (by decide) rfl rfl ?_
  have hf := hF n P E mm F a G c (xs (i + 1)) hB
  refine v_icmp_eq C dL_law_610 (tgt := 863) (by decide) (fun _ => ?_) (fun h => absurd hf.1 h)
  refine v_widen (Nat.le_succ _) (Nat.le_add_right _ 6) ?_
  exact kk _ _ _ _ _ hf.2

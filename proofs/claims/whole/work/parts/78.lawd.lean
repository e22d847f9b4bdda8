set_option maxHeartbeats 4000000 in
set_option maxRecDepth 100000 in
theorem lc_state {p : Program} {l : Launch} {e : Env} {s : State} {m : MethodId} {args : Array Value} {below : List Frame} {meth : Method} {c0 : Code} {D : va_G} {cI cZ cJ : ClassId} {A : Nat → Prop} {bs L : Nat} {xs : Nat → Int32} {Q : State → Prop} {bX bM : Nat → Nat} {o : Nat} {F : FT} {a : AT} {f : Nat → Int64} {G : FT} {c : AT} {cells slots n P E mm : Nat} (X0 : Lc p l s m args meth c0 D cI cZ cJ A bs L xs) (hc : cells + 1 ≤ room_1.cells) (hs : slots + 6 ≤ room_1.slots) {Rel : FT → AT → FT → AT → Prop} (hB : RB Rel n P E mm F a G c) (hF : FA_state Rel) {i : Nat} (hi : i + 3 < L) (hL : L ≤ 2050) (kk : ∀ (F1 : FT) (a1 : AT) (f1 : Nat → Int64) (G1 : FT) (c1 : AT), Rel F1 a1 G1 c1 → vv p l e room_1 s m args below meth c0 7 D vwCl A vT (cells + 1) (slots + 6) Q (wLw cI cZ cJ bX bM o F1 a1 f1 G1 c1) (lvH bs bX bM o (nI i)) 863 []) : vv p l e room_1 s m args below meth c0 7 D vwCl A vT cells slots Q (wLw cI cZ cJ bX bM o F a f G c) (lvH bs bX bM o (nI i)) 615 [] := by
  have C := X0.1
  have hY := X0.2.1
  have hcs : cells ≤ room_1.cells ∧ slots ≤ room_1.slots := ⟨by omega, by omega⟩
  have hcs1 : cells + 1 ≤ room_1.cells ∧ slots + 6 ≤ room_1.slots := ⟨hc, hs⟩
  refine v_aload_n C 1 dL_law_615 rfl rfl ?_
  refine v_aload_n C 0 dL_law_616 rfl rfl ?_
  refine v_iload C 4 dL_law_617 rfl ?_
  refine v_iconst C (v := 1) dL_law_619 (by decide) ?_
  refine v_iadd C dL_law_620 ?_
  refine v_top (y := nI (i + 1)) (nI_add i 1) ?_
  refine v_sld C X0.2.2.1 X0.2.2.2.1 X0.2.2.2.2.1 (y9 := xs (i + 1)) (sl_i (by omega)) (vp_in_nI (by omega) (by omega)) dL_law_621 ?_
  refine v_aload_n C 3 dL_law_622 rfl rfl ?_
  refine v_cH C hY (As := [.ref (bX 0), .int (xs (i + 1)), .ref o]) (wr := wM cI cZ bM G c) (w' := wLw cI cZ cJ bX bM o F a (outF ((stateF F a (xs (i + 1))).1) f ((stateF F a (xs (i + 1))).2)) G c) (c_h_state l D cI cZ cJ bX F a o f n (xs (i + 1)) hB.2.1 hB.2.2.1 X0.2.2.2.2.2) (vx_cwSW 3 C.2.2.2.2.1 gw_L_state rfl rfl rfl (by decide +kernel) ⟨Nat.le_of_ble_eq_true rfl, Nat.le_of_ble_eq_true rfl⟩) rfl rfl (Nat.le_of_ble_eq_true rfl) hcs1 dL_law_623 [0, 1, 2, 3, 4, 5, 6, 7, 8] [9, 10, 11, 12, 13, 14, 15, 16] [8, 9, 10, 11, 12, 13, 14, 15, 16, 0, 1, 2, 3, 4, 5, 6, 7] rfl rfl rfl rfl (by decide) rfl rfl ?_
  refine v_istore C (lv' := [(0, .ref bs), (1, .ref (bX 0)), (2, .ref (bM 0)), (3, .ref o), (4, .int (nI i)), (5, .int (hcD ((stateF F a (xs (i + 1))).1)))]) [1, 2, 3, 4, 5, 0] dL_law_626 (by decide) rfl ?_
  refine v_aload_n C 2 dL_law_628 rfl rfl ?_
  refine v_aload_n C 0 dL_law_629 rfl rfl ?_
  refine v_iload C 4 dL_law_630 rfl ?_
  refine v_iconst C (v := 1) dL_law_632 (by decide) ?_
  refine v_iadd C dL_law_633 ?_
  refine v_top (y := nI (i + 1)) (nI_add i 1) ?_
  refine v_sld C X0.2.2.1 X0.2.2.2.1 X0.2.2.2.2.1 (y9 := xs (i + 1)) (sl_i (by omega)) (vp_in_nI (by omega) (by omega)) dL_law_634 ?_
  refine v_cViP (As := [.int (xs (i + 1))]) C (wr := wX cI bX F a ++ wO cJ o (outF ((stateF F a (xs (i + 1))).1) f ((stateF F a (xs (i + 1))).2))) (w' := wLw cI cZ cJ bX bM o F a (outF ((stateF F a (xs (i + 1))).1) f ((stateF F a (xs (i + 1))).2)) ((mState G c (xs (i + 1))).2) c) (c_mState l D cI cZ cJ bM G c n (xs (i + 1)) hB.2.2.2.2.2.2.2.2.2.1 hB.2.2.1) (cwV 1 C.2.2.2.2.1 gw_M_state rfl rfl rfl (by decide +kernel) ⟨Nat.le_of_ble_eq_true rfl, Nat.le_of_ble_eq_true rfl⟩) 0 rfl (T := TcM) (N := 18) rfl rfl rfl (Nat.le_of_ble_eq_true rfl) hcs1 dL_law_635 [9, 10, 11, 12, 13, 14, 15, 16] [0, 1, 2, 3, 4, 5, 6, 7, 8] [0, 1, 2, 3, 4, 5, 6, 7, 8, 9, 10, 11, 12, 13, 14, 15, 16] rfl rfl rfl rfl (by decide) rfl rfl ?_
  have hf := hF n P E mm F a G c (xs (i + 1)) hB
  refine v_istore C (lv' := [(0, .ref bs), (1, .ref (bX 0)), (2, .ref (bM 0)), (3, .ref o), (4, .int (nI i)), (5, .int (hcD ((stateF F a (xs (i + 1))).1))), (6, .int ((mState G c (xs (i + 1))).1))]) [1, 2, 3, 4, 5, 6, 0] dL_law_638 (by decide) rfl ?_
  refine v_aload_n C 2 dL_law_640 rfl rfl ?_
  refine v_cVr (As := []) C (c_mThrown l D cI cZ cJ bM ((mState G c (xs (i + 1))).2) c) (cwV 0 C.2.2.2.2.1 gw_M_thrown rfl rfl rfl (by decide +kernel) ⟨Nat.le_of_ble_eq_true rfl, Nat.le_of_ble_eq_true rfl⟩) 0 rfl (T := TcM) (N := 18) rfl rfl rfl (Nat.le_of_ble_eq_true rfl) hcs1 dL_law_641 [9, 10, 11, 12, 13, 14, 15, 16] rfl rfl ?_
  refine v_iload C 5 dL_law_644 rfl ?_
  refine v_icmp_eq C dL_law_646 (tgt := 651) (by decide) (fun _ => ?_) (fun h => absurd hf.1 h)
  refine v_iload C 5 dL_law_651 rfl ?_
  refine v_if_ne C dL_law_653 (tgt := 668) (by decide) (fun _ => ?_) (fun hk => ?_)
  · skip
    refine v_goto C dL_law_668 (tgt := 863) (by decide) ?_
    refine v_loc (lv' := lvH bs bX bM o (nI i)) [0, 1, 2, 3, 4] rfl ?_
    exact kk _ _ _ _ _ hf.2.2
  · skip
    have hk0 : (stateF F a (xs (i + 1))).1 = 0 := by
      rcases stateF_cases F a (xs (i + 1)) with h0 | h0
      · exact h0
      · rw [h0] at hk; exact absurd hk (show ¬ hcD 4 = 0 by decide)
    refine v_aload_n C 3 dL_law_656 rfl rfl ?_
    refine v_iconst C (v := 0) dL_law_657 (by decide) ?_
    refine v_lald C 8 2 (j := (0 : Int32).toNatClampNeg) (y := ((stateF F a (xs (i + 1))).2).toInt64) rfl rfl rfl (outF_0 hk0) (by unfold vp_in; decide) dL_law_658 ?_
    refine v_iload C 6 dL_law_659 rfl ?_
    refine v_i2l C dL_law_661 ?_
    refine v_lcmp C dL_law_662 ?_
    refine v_if_eq C dL_law_663 (tgt := 668) (by decide) (fun _ => ?_) (fun h => absurd (by rw [hf.2.1 hk0]; exact lg_self _) h)
    refine v_goto C dL_law_668 (tgt := 863) (by decide) ?_
    refine v_loc (lv' := lvH bs bX bM o (nI i)) [0, 1, 2, 3, 4] rfl ?_
    exact kk _ _ _ _ _ hf.2.2
set_option maxHeartbeats 4000000 in
set_option maxRecDepth 100000 in
theorem lc_open {p : Program} {l : Launch} {e : Env} {s : State} {m : MethodId} {args : Array Value} {below : List Frame} {meth : Method} {c0 : Code} {D : va_G} {cI cZ cJ : ClassId} {A : Nat → Prop} {bs L : Nat} {xs : Nat → Int32} {Q : State → Prop} {bX bM : Nat → Nat} {o : Nat} {F : FT} {a : AT} {f : Nat → Int64} {G : FT} {c : AT} {cells slots n P E mm : Nat} (X0 : Lc p l s m args meth c0 D cI cZ cJ A bs L xs) (hc : cells + 1 ≤ room_1.cells) (hs : slots + 6 ≤ room_1.slots) {Rel : FT → AT → FT → AT → Prop} (hB : RB Rel n P E mm F a G c) (hF : FA_open Rel) {i : Nat} (hi : i + 3 < L) (hL : L ≤ 2050) (kk : ∀ (F1 : FT) (a1 : AT) (f1 : Nat → Int64) (G1 : FT) (c1 : AT), Rel F1 a1 G1 c1 → vv p l e room_1 s m args below meth c0 7 D vwCl A vT (cells + 1) (slots + 6) Q (wLw cI cZ cJ bX bM o F1 a1 f1 G1 c1) (lvH bs bX bM o (nI i)) 863 []) : vv p l e room_1 s m args below meth c0 7 D vwCl A vT cells slots Q (wLw cI cZ cJ bX bM o F a f G c) (lvH bs bX bM o (nI i)) 671 [] := by
  have C := X0.1
  have hY := X0.2.1
  have hcs : cells ≤ room_1.cells ∧ slots ≤ room_1.slots := ⟨by omega, by omega⟩
  have hcs1 : cells + 1 ≤ room_1.cells ∧ slots + 6 ≤ room_1.slots := ⟨hc, hs⟩
  refine v_aload_n C 1 dL_law_671 rfl rfl ?_
  refine v_aload_n C 0 dL_law_672 rfl rfl ?_
  refine v_iload C 4 dL_law_673 rfl ?_
  refine v_iconst C (v := 1) dL_law_675 (by decide) ?_
  refine v_iadd C dL_law_676 ?_
  refine v_top (y := nI (i + 1)) (nI_add i 1) ?_
  refine v_sld C X0.2.2.1 X0.2.2.2.1 X0.2.2.2.2.1 (y9 := xs (i + 1)) (sl_i (by omega)) (vp_in_nI (by omega) (by omega)) dL_law_677 ?_
  refine v_aload_n C 3 dL_law_678 rfl rfl ?_
  refine v_cH C hY (As := [.ref (bX 0), .int (xs (i + 1)), .ref o]) (wr := wM cI cZ bM G c) (w' := wLw cI cZ cJ bX bM o F a (outF ((openF F a (xs (i + 1))).1) f ((openF F a (xs (i + 1))).2)) G c) (c_h_open l D cI cZ cJ bX F a o f n (xs (i + 1)) hB.2.1 hB.2.2.1 X0.2.2.2.2.2) (vx_cwSW 3 C.2.2.2.2.1 gw_L_open rfl rfl rfl (by decide +kernel) ⟨Nat.le_of_ble_eq_true rfl, Nat.le_of_ble_eq_true rfl⟩) rfl rfl (Nat.le_of_ble_eq_true rfl) hcs1 dL_law_679 [0, 1, 2, 3, 4, 5, 6, 7, 8] [9, 10, 11, 12, 13, 14, 15, 16] [8, 9, 10, 11, 12, 13, 14, 15, 16, 0, 1, 2, 3, 4, 5, 6, 7] rfl rfl rfl rfl (by decide) rfl rfl ?_
  refine v_istore C (lv' := [(0, .ref bs), (1, .ref (bX 0)), (2, .ref (bM 0)), (3, .ref o), (4, .int (nI i)), (5, .int (hcD ((openF F a (xs (i + 1))).1)))]) [1, 2, 3, 4, 5, 0] dL_law_682 (by decide) rfl ?_
  refine v_aload_n C 2 dL_law_684 rfl rfl ?_
  refine v_aload_n C 0 dL_law_685 rfl rfl ?_
  refine v_iload C 4 dL_law_686 rfl ?_
  refine v_iconst C (v := 1) dL_law_688 (by decide) ?_
  refine v_iadd C dL_law_689 ?_
  refine v_top (y := nI (i + 1)) (nI_add i 1) ?_
  refine v_sld C X0.2.2.1 X0.2.2.2.1 X0.2.2.2.2.1 (y9 := xs (i + 1)) (sl_i (by omega)) (vp_in_nI (by omega) (by omega)) dL_law_690 ?_
  refine v_cViP (As := [.int (xs (i + 1))]) C (wr := wX cI bX F a ++ wO cJ o (outF ((openF F a (xs (i + 1))).1) f ((openF F a (xs (i + 1))).2))) (w' := wLw cI cZ cJ bX bM o F a (outF ((openF F a (xs (i + 1))).1) f ((openF F a (xs (i + 1))).2)) ((mOpen G c (xs (i + 1))).2) c) (c_mOpen l D cI cZ cJ bM G c n (xs (i + 1)) hB.2.2.2.2.2.2.2.2.2.1 hB.2.2.1) (cwV 1 C.2.2.2.2.1 gw_M_open rfl rfl rfl (by decide +kernel) ⟨Nat.le_of_ble_eq_true rfl, Nat.le_of_ble_eq_true rfl⟩) 0 rfl (T := TcM) (N := 18) rfl rfl rfl (Nat.le_of_ble_eq_true rfl) hcs1 dL_law_691 [9, 10, 11, 12, 13, 14, 15, 16] [0, 1, 2, 3, 4, 5, 6, 7, 8] [0, 1, 2, 3, 4, 5, 6, 7, 8, 9, 10, 11, 12, 13, 14, 15, 16] rfl rfl rfl rfl (by decide) rfl rfl ?_
  have hf := hF n P E mm F a G c (xs (i + 1)) hB
  refine v_istore C (lv' := [(0, .ref bs), (1, .ref (bX 0)), (2, .ref (bM 0)), (3, .ref o), (4, .int (nI i)), (5, .int (hcD ((openF F a (xs (i + 1))).1))), (6, .int ((mOpen G c (xs (i + 1))).1))]) [1, 2, 3, 4, 5, 6, 0] dL_law_694 (by decide) rfl ?_
  refine v_aload_n C 2 dL_law_696 rfl rfl ?_
  refine v_cVr (As := []) C (c_mThrown l D cI cZ cJ bM ((mOpen G c (xs (i + 1))).2) c) (cwV 0 C.2.2.2.2.1 gw_M_thrown rfl rfl rfl (by decide +kernel) ⟨Nat.le_of_ble_eq_true rfl, Nat.le_of_ble_eq_true rfl⟩) 0 rfl (T := TcM) (N := 18) rfl rfl rfl (Nat.le_of_ble_eq_true rfl) hcs1 dL_law_697 [9, 10, 11, 12, 13, 14, 15, 16] rfl rfl ?_
  refine v_iload C 5 dL_law_700 rfl ?_
  refine v_icmp_eq C dL_law_702 (tgt := 707) (by decide) (fun _ => ?_) (fun h => absurd hf.1 h)
  refine v_iload C 5 dL_law_707 rfl ?_
  refine v_if_ne C dL_law_709 (tgt := 724) (by decide) (fun _ => ?_) (fun hk => ?_)
  · skip
    refine v_goto C dL_law_724 (tgt := 863) (by decide) ?_
    refine v_loc (lv' := lvH bs bX bM o (nI i)) [0, 1, 2, 3, 4] rfl ?_
    exact kk _ _ _ _ _ hf.2.2
  · skip
    have hk0 : (openF F a (xs (i + 1))).1 = 0 := by
      rcases openF_cases F a (xs (i + 1)) with h0 | h0
      · exact h0
      · rw [h0] at hk; exact absurd hk (show ¬ hcD 4 = 0 by decide)
    refine v_aload_n C 3 dL_law_712 rfl rfl ?_
    refine v_iconst C (v := 0) dL_law_713 (by decide) ?_
    refine v_lald C 8 2 (j := (0 : Int32).toNatClampNeg) (y := ((openF F a (xs (i + 1))).2).toInt64) rfl rfl rfl (outF_0 hk0) (by unfold vp_in; decide) dL_law_714 ?_
    refine v_iload C 6 dL_law_715 rfl ?_
    refine v_i2l C dL_law_717 ?_
    refine v_lcmp C dL_law_718 ?_
    refine v_if_eq C dL_law_719 (tgt := 724) (by decide) (fun _ => ?_) (fun h => absurd (by rw [hf.2.1 hk0]; exact lg_self _) h)
    refine v_goto C dL_law_724 (tgt := 863) (by decide) ?_
    refine v_loc (lv' := lvH bs bX bM o (nI i)) [0, 1, 2, 3, 4] rfl ?_
    exact kk _ _ _ _ _ hf.2.2
set_option maxHeartbeats 4000000 in
set_option maxRecDepth 100000 in
theorem lc_key {p : Program} {l : Launch} {e : Env} {s : State} {m : MethodId} {args : Array Value} {below : List Frame} {meth : Method} {c0 : Code} {D : va_G} {cI cZ cJ : ClassId} {A : Nat → Prop} {bs L : Nat} {xs : Nat → Int32} {Q : State → Prop} {bX bM : Nat → Nat} {o : Nat} {F : FT} {a : AT} {f : Nat → Int64} {G : FT} {c : AT} {cells slots n P E mm : Nat} (X0 : Lc p l s m args meth c0 D cI cZ cJ A bs L xs) (hc : cells + 1 ≤ room_1.cells) (hs : slots + 6 ≤ room_1.slots) {Rel : FT → AT → FT → AT → Prop} (hB : RB Rel n P E mm F a G c) (hF : FA_key Rel) {i : Nat} (hi : i + 3 < L) (hL : L ≤ 2050) (kk : ∀ (F1 : FT) (a1 : AT) (f1 : Nat → Int64) (G1 : FT) (c1 : AT), Rel F1 a1 G1 c1 → vv p l e room_1 s m args below meth c0 7 D vwCl A vT (cells + 1) (slots + 6) Q (wLw cI cZ cJ bX bM o F1 a1 f1 G1 c1) (lvH bs bX bM o (nI i)) 863 []) : vv p l e room_1 s m args below meth c0 7 D vwCl A vT cells slots Q (wLw cI cZ cJ bX bM o F a f G c) (lvH bs bX bM o (nI i)) 727 [] := by
  have C := X0.1
  have hY := X0.2.1
  have hcs : cells ≤ room_1.cells ∧ slots ≤ room_1.slots := ⟨by omega, by omega⟩
  have hcs1 : cells + 1 ≤ room_1.cells ∧ slots + 6 ≤ room_1.slots := ⟨hc, hs⟩
  refine v_aload_n C 1 dL_law_727 rfl rfl ?_
  refine v_aload_n C 0 dL_law_728 rfl rfl ?_
  refine v_iload C 4 dL_law_729 rfl ?_
  refine v_iconst C (v := 1) dL_law_731 (by decide) ?_
  refine v_iadd C dL_law_732 ?_
  refine v_top (y := nI (i + 1)) (nI_add i 1) ?_
  refine v_sld C X0.2.2.1 X0.2.2.2.1 X0.2.2.2.2.1 (y9 := xs (i + 1)) (sl_i (by omega)) (vp_in_nI (by omega) (by omega)) dL_law_733 ?_
  refine v_aload_n C 0 dL_law_734 rfl rfl ?_
  refine v_iload C 4 dL_law_735 rfl ?_
  refine v_iconst C (v := 2) dL_law_737 (by decide) ?_
  refine v_iadd C dL_law_738 ?_
  refine v_top (y := nI (i + 2)) (nI_add i 2) ?_
  refine v_sld C X0.2.2.1 X0.2.2.2.1 X0.2.2.2.2.1 (y9 := xs (i + 2)) (sl_i (by omega)) (vp_in_nI (by omega) (by omega)) dL_law_739 ?_
  refine v_aload_n C 0 dL_law_740 rfl rfl ?_
  refine v_iload C 4 dL_law_741 rfl ?_
  refine v_iconst C (v := 3) dL_law_743 (by decide) ?_
  refine v_iadd C dL_law_744 ?_
  refine v_top (y := nI (i + 3)) (nI_add i 3) ?_
  refine v_sld C X0.2.2.1 X0.2.2.2.1 X0.2.2.2.2.1 (y9 := xs (i + 3)) (sl_i (by omega)) (vp_in_nI (by omega) (by omega)) dL_law_745 ?_
  refine v_aload_n C 3 dL_law_746 rfl rfl ?_
  refine v_cH C hY (As := [.ref (bX 0), .int (xs (i + 1)), .int (xs (i + 2)), .int (xs (i + 3)), .ref o]) (wr := wM cI cZ bM G c) (w' := wLw cI cZ cJ bX bM o F a (outF ((keyF F a (xs (i + 1)) (xs (i + 2)) (xs (i + 3))).1) f ((keyF F a (xs (i + 1)) (xs (i + 2)) (xs (i + 3))).2)) G c) (c_h_key l D cI cZ cJ bX F a o f n P (xs (i + 1)) (xs (i + 2)) (xs (i + 3)) hB.2.1 hB.2.2.1 hB.2.2.2.1 hB.2.2.2.2.1 X0.2.2.2.2.2) (vx_cwSW 5 C.2.2.2.2.1 gw_L_key rfl rfl rfl (by decide +kernel) ⟨Nat.le_of_ble_eq_true rfl, Nat.le_of_ble_eq_true rfl⟩) rfl rfl (Nat.le_of_ble_eq_true rfl) hcs1 dL_law_747 [0, 1, 2, 3, 4, 5, 6, 7, 8] [9, 10, 11, 12, 13, 14, 15, 16] [8, 9, 10, 11, 12, 13, 14, 15, 16, 0, 1, 2, 3, 4, 5, 6, 7] rfl rfl rfl rfl (by decide) rfl rfl ?_
  refine v_istore C (lv' := [(0, .ref bs), (1, .ref (bX 0)), (2, .ref (bM 0)), (3, .ref o), (4, .int (nI i)), (5, .int (hcD ((keyF F a (xs (i + 1)) (xs (i + 2)) (xs (i + 3))).1)))]) [1, 2, 3, 4, 5, 0] dL_law_750 (by decide) rfl ?_
  refine v_aload_n C 2 dL_law_752 rfl rfl ?_
  refine v_aload_n C 0 dL_law_753 rfl rfl ?_
  refine v_iload C 4 dL_law_754 rfl ?_
  refine v_iconst C (v := 1) dL_law_756 (by decide) ?_
  refine v_iadd C dL_law_757 ?_
  refine v_top (y := nI (i + 1)) (nI_add i 1) ?_
  refine v_sld C X0.2.2.1 X0.2.2.2.1 X0.2.2.2.2.1 (y9 := xs (i + 1)) (sl_i (by omega)) (vp_in_nI (by omega) (by omega)) dL_law_758 ?_
  refine v_aload_n C 0 dL_law_759 rfl rfl ?_
  refine v_iload C 4 dL_law_760 rfl ?_
  refine v_iconst C (v := 2) dL_law_762 (by decide) ?_
  refine v_iadd C dL_law_763 ?_
  refine v_top (y := nI (i + 2)) (nI_add i 2) ?_
  refine v_sld C X0.2.2.1 X0.2.2.2.1 X0.2.2.2.2.1 (y9 := xs (i + 2)) (sl_i (by omega)) (vp_in_nI (by omega) (by omega)) dL_law_764 ?_
  refine v_aload_n C 0 dL_law_765 rfl rfl ?_
  refine v_iload C 4 dL_law_766 rfl ?_
  refine v_iconst C (v := 3) dL_law_768 (by decide) ?_
  refine v_iadd C dL_law_769 ?_
  refine v_top (y := nI (i + 3)) (nI_add i 3) ?_
  refine v_sld C X0.2.2.1 X0.2.2.2.1 X0.2.2.2.2.1 (y9 := xs (i + 3)) (sl_i (by omega)) (vp_in_nI (by omega) (by omega)) dL_law_770 ?_
  refine v_cViP (As := [.int (xs (i + 1)), .int (xs (i + 2)), .int (xs (i + 3))]) C (wr := wX cI bX F a ++ wO cJ o (outF ((keyF F a (xs (i + 1)) (xs (i + 2)) (xs (i + 3))).1) f ((keyF F a (xs (i + 1)) (xs (i + 2)) (xs (i + 3))).2))) (w' := wLw cI cZ cJ bX bM o F a (outF ((keyF F a (xs (i + 1)) (xs (i + 2)) (xs (i + 3))).1) f ((keyF F a (xs (i + 1)) (xs (i + 2)) (xs (i + 3))).2)) ((mKey G c (xs (i + 1)) (xs (i + 2)) (xs (i + 3))).2) c) (c_mKey l D cI cZ cJ bM G c n P (xs (i + 1)) (xs (i + 2)) (xs (i + 3)) hB.2.2.2.2.2.2.2.2.2.1 hB.2.2.1 hB.2.2.2.2.2.2.2.2.2.2.1 hB.2.2.2.2.1) (cwV 3 C.2.2.2.2.1 gw_M_key rfl rfl rfl (by decide +kernel) ⟨Nat.le_of_ble_eq_true rfl, Nat.le_of_ble_eq_true rfl⟩) 0 rfl (T := TcM) (N := 18) rfl rfl rfl (Nat.le_of_ble_eq_true rfl) hcs1 dL_law_771 [9, 10, 11, 12, 13, 14, 15, 16] [0, 1, 2, 3, 4, 5, 6, 7, 8] [0, 1, 2, 3, 4, 5, 6, 7, 8, 9, 10, 11, 12, 13, 14, 15, 16] rfl rfl rfl rfl (by decide) rfl rfl ?_
  have hf := hF n P E mm F a G c (xs (i + 1)) (xs (i + 2)) (xs (i + 3)) hB
  refine v_istore C (lv' := [(0, .ref bs), (1, .ref (bX 0)), (2, .ref (bM 0)), (3, .ref o), (4, .int (nI i)), (5, .int (hcD ((keyF F a (xs (i + 1)) (xs (i + 2)) (xs (i + 3))).1))), (6, .int ((mKey G c (xs (i + 1)) (xs (i + 2)) (xs (i + 3))).1))]) [1, 2, 3, 4, 5, 6, 0] dL_law_774 (by decide) rfl ?_
  refine v_aload_n C 2 dL_law_776 rfl rfl ?_
  refine v_cVr (As := []) C (c_mThrown l D cI cZ cJ bM ((mKey G c (xs (i + 1)) (xs (i + 2)) (xs (i + 3))).2) c) (cwV 0 C.2.2.2.2.1 gw_M_thrown rfl rfl rfl (by decide +kernel) ⟨Nat.le_of_ble_eq_true rfl, Nat.le_of_ble_eq_true rfl⟩) 0 rfl (T := TcM) (N := 18) rfl rfl rfl (Nat.le_of_ble_eq_true rfl) hcs1 dL_law_777 [9, 10, 11, 12, 13, 14, 15, 16] rfl rfl ?_
  refine v_iload C 5 dL_law_780 rfl ?_
  refine v_icmp_eq C dL_law_782 (tgt := 787) (by decide) (fun _ => ?_) (fun h => absurd hf.1 h)
  refine v_iload C 5 dL_law_787 rfl ?_
  refine v_if_ne C dL_law_789 (tgt := 804) (by decide) (fun _ => ?_) (fun hk => ?_)
  · skip
    refine v_goto C dL_law_804 (tgt := 863) (by decide) ?_
    refine v_loc (lv' := lvH bs bX bM o (nI i)) [0, 1, 2, 3, 4] rfl ?_
    exact kk _ _ _ _ _ hf.2.2
  · skip
    have hk0 : (keyF F a (xs (i + 1)) (xs (i + 2)) (xs (i + 3))).1 = 0 := by
      rcases keyF_cases F a (xs (i + 1)) (xs (i + 2)) (xs (i + 3)) with h0 | h0
      · exact h0
      · rw [h0] at hk; exact absurd hk (show ¬ hcD 4 = 0 by decide)
    refine v_aload_n C 3 dL_law_792 rfl rfl ?_
    refine v_iconst C (v := 0) dL_law_793 (by decide) ?_
    refine v_lald C 8 2 (j := (0 : Int32).toNatClampNeg) (y := ((keyF F a (xs (i + 1)) (xs (i + 2)) (xs (i + 3))).2).toInt64) rfl rfl rfl (outF_0 hk0) (by unfold vp_in; decide) dL_law_794 ?_
    refine v_iload C 6 dL_law_795 rfl ?_
    refine v_i2l C dL_law_797 ?_
    refine v_lcmp C dL_law_798 ?_
    refine v_if_eq C dL_law_799 (tgt := 804) (by decide) (fun _ => ?_) (fun h => absurd (by rw [hf.2.1 hk0]; exact lg_self _) h)
    refine v_goto C dL_law_804 (tgt := 863) (by decide) ?_
    refine v_loc (lv' := lvH bs bX bM o (nI i)) [0, 1, 2, 3, 4] rfl ?_
    exact kk _ _ _ _ _ hf.2.2
set_option maxHeartbeats 4000000 in
set_option maxRecDepth 100000 in
theorem lc_outcome {p : Program} {l : Launch} {e : Env} {s : State} {m : MethodId} {args : Array Value} {below : List Frame} {meth : Method} {c0 : Code} {D : va_G} {cI cZ cJ : ClassId} {A : Nat → Prop} {bs L : Nat} {xs : Nat → Int32} {Q : State → Prop} {bX bM : Nat → Nat} {o : Nat} {F : FT} {a : AT} {f : Nat → Int64} {G : FT} {c : AT} {cells slots n P E mm : Nat} (X0 : Lc p l s m args meth c0 D cI cZ cJ A bs L xs) (hc : cells + 1 ≤ room_1.cells) (hs : slots + 6 ≤ room_1.slots) {Rel : FT → AT → FT → AT → Prop} (hB : RB Rel n P E mm F a G c) (hF : FA_outcome Rel) {i : Nat} (hi : i + 3 < L) (hL : L ≤ 2050) (kk : ∀ (F1 : FT) (a1 : AT) (f1 : Nat → Int64) (G1 : FT) (c1 : AT), Rel F1 a1 G1 c1 → vv p l e room_1 s m args below meth c0 7 D vwCl A vT (cells + 1) (slots + 6) Q (wLw cI cZ cJ bX bM o F1 a1 f1 G1 c1) (lvH bs bX bM o (nI i)) 863 []) : vv p l e room_1 s m args below meth c0 7 D vwCl A vT cells slots Q (wLw cI cZ cJ bX bM o F a f G c) (lvH bs bX bM o (nI i)) 807 [] := by
  have C := X0.1
  have hY := X0.2.1
  have hcs : cells ≤ room_1.cells ∧ slots ≤ room_1.slots := ⟨by omega, by omega⟩
  have hcs1 : cells + 1 ≤ room_1.cells ∧ slots + 6 ≤ room_1.slots := ⟨hc, hs⟩
  refine v_aload_n C 1 dL_law_807 rfl rfl ?_
  refine v_aload_n C 0 dL_law_808 rfl rfl ?_
  refine v_iload C 4 dL_law_809 rfl ?_
  refine v_iconst C (v := 1) dL_law_811 (by decide) ?_
  refine v_iadd C dL_law_812 ?_
  refine v_top (y := nI (i + 1)) (nI_add i 1) ?_
  refine v_sld C X0.2.2.1 X0.2.2.2.1 X0.2.2.2.2.1 (y9 := xs (i + 1)) (sl_i (by omega)) (vp_in_nI (by omega) (by omega)) dL_law_813 ?_
  refine v_aload_n C 3 dL_law_814 rfl rfl ?_
  refine v_cH C hY (As := [.ref (bX 0), .int (xs (i + 1)), .ref o]) (wr := wM cI cZ bM G c) (w' := wLw cI cZ cJ bX bM o F a (outF ((outcomeF F a n (xs (i + 1))).1) f ((outcomeF F a n (xs (i + 1))).2)) G c) (c_h_outcome l D cI cZ cJ bX F a o f n (xs (i + 1)) hB.2.1 hB.2.2.1 X0.2.2.2.2.2) (vx_cwSW 3 C.2.2.2.2.1 gw_L_outcome rfl rfl rfl (by decide +kernel) ⟨Nat.le_of_ble_eq_true rfl, Nat.le_of_ble_eq_true rfl⟩) rfl rfl (Nat.le_of_ble_eq_true rfl) hcs1 dL_law_815 [0, 1, 2, 3, 4, 5, 6, 7, 8] [9, 10, 11, 12, 13, 14, 15, 16] [8, 9, 10, 11, 12, 13, 14, 15, 16, 0, 1, 2, 3, 4, 5, 6, 7] rfl rfl rfl rfl (by decide) rfl rfl ?_
  refine v_istore C (lv' := [(0, .ref bs), (1, .ref (bX 0)), (2, .ref (bM 0)), (3, .ref o), (4, .int (nI i)), (5, .int (hcD ((outcomeF F a n (xs (i + 1))).1)))]) [1, 2, 3, 4, 5, 0] dL_law_818 (by decide) rfl ?_
  refine v_aload_n C 2 dL_law_820 rfl rfl ?_
  refine v_aload_n C 0 dL_law_821 rfl rfl ?_
  refine v_iload C 4 dL_law_822 rfl ?_
  refine v_iconst C (v := 1) dL_law_824 (by decide) ?_
  refine v_iadd C dL_law_825 ?_
  refine v_top (y := nI (i + 1)) (nI_add i 1) ?_
  refine v_sld C X0.2.2.1 X0.2.2.2.1 X0.2.2.2.2.1 (y9 := xs (i + 1)) (sl_i (by omega)) (vp_in_nI (by omega) (by omega)) dL_law_826 ?_
  refine v_cViP (As := [.int (xs (i + 1))]) C (wr := wX cI bX F a ++ wO cJ o (outF ((outcomeF F a n (xs (i + 1))).1) f ((outcomeF F a n (xs (i + 1))).2))) (w' := wLw cI cZ cJ bX bM o F a (outF ((outcomeF F a n (xs (i + 1))).1) f ((outcomeF F a n (xs (i + 1))).2)) ((mOutcome G c n (xs (i + 1))).2) c) (c_mOutcome l D cI cZ cJ bM G c n (xs (i + 1)) hB.2.2.2.2.2.2.2.2.2.1 hB.2.2.1) (cwV 1 C.2.2.2.2.1 gw_M_outcome rfl rfl rfl (by decide +kernel) ⟨Nat.le_of_ble_eq_true rfl, Nat.le_of_ble_eq_true rfl⟩) 0 rfl (T := TcM) (N := 18) rfl rfl rfl (Nat.le_of_ble_eq_true rfl) hcs1 dL_law_827 [9, 10, 11, 12, 13, 14, 15, 16] [0, 1, 2, 3, 4, 5, 6, 7, 8] [0, 1, 2, 3, 4, 5, 6, 7, 8, 9, 10, 11, 12, 13, 14, 15, 16] rfl rfl rfl rfl (by decide) rfl rfl ?_
  have hf := hF n P E mm F a G c (xs (i + 1)) hB
  refine v_istore C (lv' := [(0, .ref bs), (1, .ref (bX 0)), (2, .ref (bM 0)), (3, .ref o), (4, .int (nI i)), (5, .int (hcD ((outcomeF F a n (xs (i + 1))).1))), (6, .int ((mOutcome G c n (xs (i + 1))).1))]) [1, 2, 3, 4, 5, 6, 0] dL_law_830 (by decide) rfl ?_
  refine v_aload_n C 2 dL_law_832 rfl rfl ?_
  refine v_cVr (As := []) C (c_mThrown l D cI cZ cJ bM ((mOutcome G c n (xs (i + 1))).2) c) (cwV 0 C.2.2.2.2.1 gw_M_thrown rfl rfl rfl (by decide +kernel) ⟨Nat.le_of_ble_eq_true rfl, Nat.le_of_ble_eq_true rfl⟩) 0 rfl (T := TcM) (N := 18) rfl rfl rfl (Nat.le_of_ble_eq_true rfl) hcs1 dL_law_833 [9, 10, 11, 12, 13, 14, 15, 16] rfl rfl ?_
  refine v_iload C 5 dL_law_836 rfl ?_
  refine v_icmp_eq C dL_law_838 (tgt := 843) (by decide) (fun _ => ?_) (fun h => absurd hf.1 h)
  refine v_iload C 5 dL_law_843 rfl ?_
  refine v_if_ne C dL_law_845 (tgt := 860) (by decide) (fun _ => ?_) (fun hk => ?_)
  · skip
    refine v_goto C dL_law_860 (tgt := 863) (by decide) ?_
    refine v_loc (lv' := lvH bs bX bM o (nI i)) [0, 1, 2, 3, 4] rfl ?_
    exact kk _ _ _ _ _ hf.2.2
  · skip
    have hk0 : (outcomeF F a n (xs (i + 1))).1 = 0 := by
      rcases outcomeF_cases F a n (xs (i + 1)) with h0 | h0
      · exact h0
      · rw [h0] at hk; exact absurd hk (show ¬ hcD 4 = 0 by decide)
    refine v_aload_n C 3 dL_law_848 rfl rfl ?_
    refine v_iconst C (v := 0) dL_law_849 (by decide) ?_
    refine v_lald C 8 2 (j := (0 : Int32).toNatClampNeg) (y := ((outcomeF F a n (xs (i + 1))).2).toInt64) rfl rfl rfl (outF_0 hk0) (by unfold vp_in; decide) dL_law_850 ?_
    refine v_iload C 6 dL_law_851 rfl ?_
    refine v_i2l C dL_law_853 ?_
    refine v_lcmp C dL_law_854 ?_
    refine v_if_eq C dL_law_855 (tgt := 860) (by decide) (fun _ => ?_) (fun h => absurd (by rw [hf.2.1 hk0]; exact lg_self _) h)
    refine v_goto C dL_law_860 (tgt := 863) (by decide) ?_
    refine v_loc (lv' := lvH bs bX bM o (nI i)) [0, 1, 2, 3, 4] rfl ?_
    exact kk _ _ _ _ _ hf.2.2

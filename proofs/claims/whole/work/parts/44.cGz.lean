set_option maxHeartbeats 4000000 in
set_option maxRecDepth 100000 in
theorem c_gLongest (l : Launch) (D : va_G) (cI cZ cJ : ClassId) (b : Nat → Nat) (F : FT) (a : AT) (P : Nat) (hg : F 20 = nI P) (hp6 : P ≤ 6) : Kr l yG_longestPath wG_longestPath ({ frames := 7, cells := 0, slots := 0, locals := 171 } : Room) D vwCl (tyG cI cZ cJ) [.ref (b 1)] (wG cI b F a) (gLongest F a P) := by
  intro sz
  refine v_ent (cc := bG_longestPath) (maxL := 3) (ret := (some .int)) (Qc := (fun _ _ st oc t => oc = .returned (some (.int (gLongest F a P))) ∧ t.heap = st.heap)) (fr := (fun _ _ => False)) (own := RcG) rfl (by decide) rfl (Nat.le_of_ble_eq_true rfl) rfl ?_
  intro p e s m args below meth c A C hr _
  refine v_iconst C (v := 0) dG_longestPath_0 (by decide) ?_
  refine v_istore_n C (lv' := [(0, .ref (b 1)), (1, .int 0)]) [1, 0] dG_longestPath_1 rfl (by decide) rfl ?_
  refine v_iconst C (v := 0) dG_longestPath_2 (by decide) ?_
  refine v_istore_n C (lv' := [(0, .ref (b 1)), (1, .int 0), (2, .int 0)]) [1, 2, 0] dG_longestPath_3 rfl (by decide) rfl ?_
  refine v_loop1 P (fun (i : Nat) (u : Int32) => wG cI b F a) (fun (i : Nat) (u : Int32) => [(0, .ref (b 1)), (1, .int u), (2, .int (nI i))]) (fun (ki i : Nat) (u : Int32) => gLongestL F a P ki i u = gLongestL F a P P 0 0) ?_ ?_ P 0 0 (by omega) rfl
  · skip
    intro ki i u hki hIi ihi
    have hIi : gLongestL F a P (ki + 1) i u = gLongestL F a P P 0 0 := hIi
    refine v_as (w' := wG cI b F a) (lv' := [(0, .ref (b 1)), (1, .int u), (2, .int (nI i))]) rfl rfl ?_
    refine v_iload_n C 2 dG_longestPath_4 rfl rfl ?_
    refine v_aload_n C 0 dG_longestPath_5 rfl rfl ?_
    refine v_get C (T := TcG) (N := 3) (ci := 1) (v := .int (F 20)) inG_longestPath_G 0 rfl rfl 0 (by decide) (by decide +kernel) rfl rfl dG_longestPath_6 ?_
    refine v_top (y := nI P) hg ?_
    refine v_icmp_ge C dG_longestPath_9 (tgt := 35) (by decide) (fun h => absurd h (nI_ge (a := i) (b := P) (by omega) (by omega))) (fun _ => ?_)
    refine v_iload_n C 1 dG_longestPath_12 rfl rfl ?_
    refine v_aload_n C 0 dG_longestPath_13 rfl rfl ?_
    refine v_get C (T := TcG) (N := 3) (ci := 1) (v := .ref (b 7)) inG_longestPath_G 0 rfl rfl 2 (by decide) (by decide +kernel) rfl rfl dG_longestPath_14 ?_
    refine v_iload_n C 2 dG_longestPath_17 rfl rfl ?_
    refine v_iconst C (v := 1) dG_longestPath_18 (by decide) ?_
    refine v_iload_n C 2 dG_longestPath_19 rfl rfl ?_
    refine v_ishl C dG_longestPath_20 ?_
    refine v_iconst C (v := 1) dG_longestPath_21 (by decide) ?_
    refine v_cSr (As := [.ref (b 7), .int (nI i), .int ((1 : Int32) <<< ((nI i) &&& 31)), .int 1]) C (c_gLong l D cI cZ cJ b a 5 1 (nI i) ((1 : Int32) <<< ((nI i) &&& 31)) rfl (vp_in_nI (by omega) (by decide))) (va_cwS 4 C.2.2.2.2.1 gG_longestPath_G_longestFrom rfl rfl rfl (by decide +kernel) ⟨Nat.le_of_ble_eq_true rfl, Nat.le_of_ble_eq_true rfl⟩) rfl rfl (Nat.le_of_ble_eq_true rfl) ⟨Nat.zero_le _, Nat.zero_le _⟩ dG_longestPath_22 [1] rfl rfl ?_
    refine v_mmax C (by decide +kernel) (by decide +kernel) (by decide +kernel) (by decide +kernel) (Nat.le_of_ble_eq_true rfl) (Nat.le_of_ble_eq_true rfl) (Nat.zero_le _) (Nat.zero_le _) dG_longestPath_25 ?_
    refine v_istore_n C (lv' := [(0, .ref (b 1)), (1, .int (if u < (gLong a 5 (nI i) ((1 : Int32) <<< ((nI i) &&& 31))) then gLong a 5 (nI i) ((1 : Int32) <<< ((nI i) &&& 31)) else u)), (2, .int (nI i))]) [1, 0, 2] dG_longestPath_28 rfl (by decide) rfl ?_
    refine v_iinc C (v := nI (i + 1)) (lv' := [(0, .ref (b 1)), (1, .int (if u < (gLong a 5 (nI i) ((1 : Int32) <<< ((nI i) &&& 31))) then gLong a 5 (nI i) ((1 : Int32) <<< ((nI i) &&& 31)) else u)), (2, .int (nI (i + 1)))]) 2 [1, 2, 0] dG_longestPath_29 rfl (nI_1 i) (by decide) rfl ?_
    refine v_goto C dG_longestPath_32 (tgt := 4) (by decide) ?_
    have hL : gLongestL F a P ki (i + 1) (if u < (gLong a 5 (nI i) ((1 : Int32) <<< ((nI i) &&& 31))) then gLong a 5 (nI i) ((1 : Int32) <<< ((nI i) &&& 31)) else u) = gLongestL F a P P 0 0 := (by rw [← hIi]; simp only [gLongestL])
    exact ihi (if u < (gLong a 5 (nI i) ((1 : Int32) <<< ((nI i) &&& 31))) then gLong a 5 (nI i) ((1 : Int32) <<< ((nI i) &&& 31)) else u) hL
  · skip
    intro u hIi
    have hIi : gLongestL F a P 0 P u = gLongestL F a P P 0 0 := hIi
    refine v_as (w' := wG cI b F a) (lv' := [(0, .ref (b 1)), (1, .int u), (2, .int (nI P))]) rfl rfl ?_
    have hIi : u = gLongestL F a P P 0 0 := hIi
    subst hIi
    refine v_iload_n C 2 dG_longestPath_4 rfl rfl ?_
    refine v_aload_n C 0 dG_longestPath_5 rfl rfl ?_
    refine v_get C (T := TcG) (N := 3) (ci := 1) (v := .int (F 20)) inG_longestPath_G 0 rfl rfl 0 (by decide) (by decide +kernel) rfl rfl dG_longestPath_6 ?_
    refine v_top (y := nI P) hg ?_
    refine v_icmp_ge C dG_longestPath_9 (tgt := 35) (by decide) (fun _ => ?_) (fun h => absurd (nI_le (a := P) (b := P) (by omega) (by omega)) h)
    refine v_iload_n C 1 dG_longestPath_35 rfl rfl ?_
    exact v_irr C hr (by unfold gLongest; rfl) dG_longestPath_36

set_option maxHeartbeats 4000000 in
set_option maxRecDepth 100000 in
theorem c_gHolds (l : Launch) (D : va_G) (cI cZ cJ : ClassId) (b : Nat → Nat) (F : FT) (a : AT) (x : Int32) : Kr l yG_holds wG_holds ({ frames := 0, cells := 0, slots := 0, locals := 0 } : Room) D vwCl (tyG cI cZ cJ) [.ref (b 1), .int x] (wG cI b F a) (gHolds F a x) := by
  intro sz
  refine v_ent (cc := bG_holds) (maxL := 2) (ret := (some .boolean)) (Qc := (fun _ _ st oc t => oc = .returned (some (.int (gHolds F a x))) ∧ t.heap = st.heap)) (fr := (fun _ _ => False)) (own := RcG) rfl (by decide) rfl (Nat.le_of_ble_eq_true rfl) rfl ?_
  intro p e s m args below meth c A C hr _
  refine v_iload_n C 1 dG_holds_0 rfl rfl ?_
  refine v_if_lt C dG_holds_1 (tgt := 16) (by decide) (fun h1 => ?_) (fun h1 => ?_)
  · skip
    refine v_iconst C (v := 0) dG_holds_16 (by decide) ?_
    exact v_zrr C hr (by decide) (by unfold gHolds; rw [if_pos h1]) dG_holds_17
  · skip
    refine v_iload_n C 1 dG_holds_4 rfl rfl ?_
    refine v_aload_n C 0 dG_holds_5 rfl rfl ?_
    refine v_get C (T := TcG) (N := 3) (ci := 1) (v := .int (F 20)) inG_holds_G 0 rfl rfl 0 (by decide) (by decide +kernel) rfl rfl dG_holds_6 ?_
    refine v_icmp_ge C dG_holds_9 (tgt := 16) (by decide) (fun h2 => ?_) (fun h2 => ?_)
    · skip
      refine v_iconst C (v := 0) dG_holds_16 (by decide) ?_
      exact v_zrr C hr (by decide) (by unfold gHolds; rw [if_neg h1, if_pos h2]) dG_holds_17
    · skip
      refine v_iconst C (v := 1) dG_holds_12 (by decide) ?_
      refine v_goto C dG_holds_13 (tgt := 17) (by decide) ?_
      exact v_zrr C hr (by decide) (by unfold gHolds; rw [if_neg h1, if_neg h2]) dG_holds_17
set_option maxHeartbeats 4000000 in
set_option maxRecDepth 100000 in
theorem c_gJoin (l : Launch) (D : va_G) (cI cZ cJ : ClassId) (b : Nat → Nat) (F : FT) (a : AT) (P : Nat) (x : Int32) (y : Int32) (hg : F 20 = nI P) (hp6 : P ≤ 6) : Kv l yG_join wG_join ({ frames := 1, cells := 0, slots := 0, locals := 21 } : Room) D vwCl (tyG cI cZ cJ) [.ref (b 1), .int x, .int y] (wG cI b F a) (wG cI b F (gJoin F a x y)) := by
  intro sz
  refine v_ent (cc := bG_join) (maxL := 3) (ret := none) (Qc := (fun A => va_Qv (fun (_ : Unit) => True) (fun _ => wB D vwCl (tyG cI cZ cJ) A (wG cI b F (gJoin F a x y))) A)) (fr := (fun A => A)) (own := RcG) rfl (by decide) rfl (Nat.le_of_ble_eq_true rfl) rfl ?_
  intro p e s m args below meth c A C hr _
  refine v_free ?_
  refine v_aload_n C 0 dG_join_0 rfl rfl ?_
  refine v_iload_n C 1 dG_join_1 rfl rfl ?_
  refine v_cVrF (As := [.int x]) C (c_gHolds l D cI cZ cJ b F a x) (cwV 1 C.2.2.2.2.1 gG_join_G_holds rfl rfl rfl (by decide +kernel) ⟨Nat.le_of_ble_eq_true rfl, Nat.le_of_ble_eq_true rfl⟩) 0 rfl (T := TcG) (N := 3) rfl rfl rfl (Nat.le_of_ble_eq_true rfl) ⟨Nat.zero_le _, Nat.zero_le _⟩ dG_join_2 ?_
  refine v_if_eq C dG_join_5 (tgt := 28) (by decide) (fun h1 => ?_) (fun h1 => ?_)
  · skip
    have hE : a = gJoin F a x y := (by unfold gJoin; rw [if_pos h1])
    exact v_vret C hr (by rw [← hE]) dG_join_28
  · skip
    refine v_aload_n C 0 dG_join_8 rfl rfl ?_
    refine v_iload_n C 2 dG_join_9 rfl rfl ?_
    refine v_cVrF (As := [.int y]) C (c_gHolds l D cI cZ cJ b F a y) (cwV 1 C.2.2.2.2.1 gG_join_G_holds rfl rfl rfl (by decide +kernel) ⟨Nat.le_of_ble_eq_true rfl, Nat.le_of_ble_eq_true rfl⟩) 0 rfl (T := TcG) (N := 3) rfl rfl rfl (Nat.le_of_ble_eq_true rfl) ⟨Nat.zero_le _, Nat.zero_le _⟩ dG_join_10 ?_
    refine v_if_eq C dG_join_13 (tgt := 28) (by decide) (fun h2 => ?_) (fun h2 => ?_)
    · skip
      have hE : a = gJoin F a x y := (by unfold gJoin; rw [if_neg h1, if_pos h2])
      exact v_vret C hr (by rw [← hE]) dG_join_28
    · skip
      have hx : vp_in x 6 := (vp_holds h1 hg hp6)
      refine v_aload_n C 0 dG_join_16 rfl rfl ?_
      refine v_get C (T := TcG) (N := 3) (ci := 1) (v := .ref (b 7)) inG_join_G 0 rfl rfl 2 (by decide) (by decide +kernel) rfl rfl dG_join_17 ?_
      refine v_iload_n C 1 dG_join_20 rfl rfl ?_
      refine v_dup2 C dG_join_21 rfl rfl ?_
      refine v_iald C 1 0 (f := a 22) (y := (a 22) x.toNatClampNeg) (j := x.toNatClampNeg) rfl rfl rfl rfl hx dG_join_22 ?_
      refine v_iconst C (v := 1) dG_join_23 (by decide) ?_
      refine v_iload_n C 2 dG_join_24 rfl rfl ?_
      refine v_ishl C dG_join_25 ?_
      refine v_ior C dG_join_26 ?_
      obtain ⟨zz1, hzz1⟩ : ∃ z9, upd (a 22) x.toNatClampNeg (((a 22) x.toNatClampNeg) ||| ((1 : Int32) <<< (y &&& 31))) = z9 := ⟨_, rfl⟩
      refine v_iast C 1 0 (f := a 22) (j := x.toNatClampNeg) (f1 := zz1) rfl rfl rfl hzz1 hx dG_join_27 (w1 := wG cI b F (updA a 22 zz1)) rfl ?_
      have hE : updA a 22 zz1 = gJoin F a x y := (by unfold gJoin; rw [hzz1, if_neg h1, if_neg h2])
      exact v_vret C hr (by rw [← hE]) dG_join_28
set_option maxHeartbeats 4000000 in
set_option maxRecDepth 100000 in
theorem c_gJoins (l : Launch) (D : va_G) (cI cZ cJ : ClassId) (b : Nat → Nat) (F : FT) (a : AT) (P : Nat) (x : Int32) (y : Int32) (hg : F 20 = nI P) (hp6 : P ≤ 6) : Kr l yG_joins wG_joins ({ frames := 1, cells := 0, slots := 0, locals := 21 } : Room) D vwCl (tyG cI cZ cJ) [.ref (b 1), .int x, .int y] (wG cI b F a) (gJoins F a x y) := by
  intro sz
  refine v_ent (cc := bG_joins) (maxL := 3) (ret := (some .boolean)) (Qc := (fun _ _ st oc t => oc = .returned (some (.int (gJoins F a x y))) ∧ t.heap = st.heap)) (fr := (fun _ _ => False)) (own := RcG) rfl (by decide) rfl (Nat.le_of_ble_eq_true rfl) rfl ?_
  intro p e s m args below meth c A C hr _
  refine v_aload_n C 0 dG_joins_0 rfl rfl ?_
  refine v_iload_n C 1 dG_joins_1 rfl rfl ?_
  refine v_cVrF (As := [.int x]) C (c_gHolds l D cI cZ cJ b F a x) (cwV 1 C.2.2.2.2.1 gG_joins_G_holds rfl rfl rfl (by decide +kernel) ⟨Nat.le_of_ble_eq_true rfl, Nat.le_of_ble_eq_true rfl⟩) 0 rfl (T := TcG) (N := 3) rfl rfl rfl (Nat.le_of_ble_eq_true rfl) ⟨Nat.zero_le _, Nat.zero_le _⟩ dG_joins_2 ?_
  refine v_if_eq C dG_joins_5 (tgt := 34) (by decide) (fun h1 => ?_) (fun h1 => ?_)
  · skip
    refine v_iconst C (v := 0) dG_joins_34 (by decide) ?_
    exact v_zrr C hr (by decide) (by unfold gJoins; rw [if_pos h1]) dG_joins_35
  · skip
    refine v_aload_n C 0 dG_joins_8 rfl rfl ?_
    refine v_iload_n C 2 dG_joins_9 rfl rfl ?_
    refine v_cVrF (As := [.int y]) C (c_gHolds l D cI cZ cJ b F a y) (cwV 1 C.2.2.2.2.1 gG_joins_G_holds rfl rfl rfl (by decide +kernel) ⟨Nat.le_of_ble_eq_true rfl, Nat.le_of_ble_eq_true rfl⟩) 0 rfl (T := TcG) (N := 3) rfl rfl rfl (Nat.le_of_ble_eq_true rfl) ⟨Nat.zero_le _, Nat.zero_le _⟩ dG_joins_10 ?_
    refine v_if_eq C dG_joins_13 (tgt := 34) (by decide) (fun h2 => ?_) (fun h2 => ?_)
    · skip
      refine v_iconst C (v := 0) dG_joins_34 (by decide) ?_
      exact v_zrr C hr (by decide) (by unfold gJoins; rw [if_neg h1, if_pos h2]) dG_joins_35
    · skip
      have hx : vp_in x 6 := (vp_holds h1 hg hp6)
      refine v_aload_n C 0 dG_joins_16 rfl rfl ?_
      refine v_get C (T := TcG) (N := 3) (ci := 1) (v := .ref (b 7)) inG_joins_G 0 rfl rfl 2 (by decide) (by decide +kernel) rfl rfl dG_joins_17 ?_
      refine v_iload_n C 1 dG_joins_20 rfl rfl ?_
      refine v_iald C 1 0 (f := a 22) (y := (a 22) x.toNatClampNeg) (j := x.toNatClampNeg) rfl rfl rfl rfl hx dG_joins_21 ?_
      refine v_iload_n C 2 dG_joins_22 rfl rfl ?_
      refine v_ishr C dG_joins_23 ?_
      refine v_iconst C (v := 1) dG_joins_24 (by decide) ?_
      refine v_iand C dG_joins_25 ?_
      refine v_iconst C (v := 1) dG_joins_26 (by decide) ?_
      refine v_icmp_ne C dG_joins_27 (tgt := 34) (by decide) (fun h3 => ?_) (fun h3 => ?_)
      · skip
        refine v_iconst C (v := 0) dG_joins_34 (by decide) ?_
        exact v_zrr C hr (by decide) (by unfold gJoins; rw [if_neg h1, if_neg h2, if_neg h3]) dG_joins_35
      · skip
        refine v_iconst C (v := 1) dG_joins_30 (by decide) ?_
        refine v_goto C dG_joins_31 (tgt := 35) (by decide) ?_
        exact v_zrr C hr (by decide) (by unfold gJoins; rw [if_neg h1, if_neg h2, if_pos h3]) dG_joins_35
set_option maxHeartbeats 4000000 in
set_option maxRecDepth 100000 in
theorem c_gIsPath (l : Launch) (D : va_G) (cI cZ cJ : ClassId) (b : Nat → Nat) (F : FT) (a : AT) (P : Nat) (row : Int32) (hg : F 20 = nI P) (hp6 : P ≤ 6) : Kr l yG_isPath wG_isPath ({ frames := 2, cells := 0, slots := 0, locals := 43 } : Room) D vwCl (tyG cI cZ cJ) [.ref (b 1), .int row] (wG cI b F a) (gIsPath F a P row) := by
  intro sz
  refine v_ent (cc := bG_isPath) (maxL := 7) (ret := (some .boolean)) (Qc := (fun _ _ st oc t => oc = .returned (some (.int (gIsPath F a P row))) ∧ t.heap = st.heap)) (fr := (fun _ _ => False)) (own := RcG) rfl (by decide) rfl (Nat.le_of_ble_eq_true rfl) rfl ?_
  intro p e s m args below meth c A C hr _
  refine v_iload_n C 1 dG_isPath_0 rfl rfl ?_
  refine v_cSr0 (As := [.int row]) C (c_rSize l D cI cZ cJ row) (va_cwS 1 C.2.2.2.2.1 gG_isPath_R_size rfl rfl rfl (by decide +kernel) ⟨Nat.le_of_ble_eq_true rfl, Nat.le_of_ble_eq_true rfl⟩) rfl rfl (Nat.le_of_ble_eq_true rfl) ⟨Nat.zero_le _, Nat.zero_le _⟩ dG_isPath_1 ?_
  refine v_top (y := nI (szN row)) (rSize_n row) ?_
  refine v_istore_n C (lv' := [(0, .ref (b 1)), (1, .int row), (2, .int (nI (szN row)))]) [1, 2, 0] dG_isPath_4 rfl (by decide) rfl ?_
  have hsz := szN_le row
  refine v_iconst C (v := 0) dG_isPath_5 (by decide) ?_
  refine v_istore_n C (lv' := [(0, .ref (b 1)), (1, .int row), (2, .int (nI (szN row))), (3, .int 0)]) [1, 2, 3, 0] dG_isPath_6 rfl (by decide) rfl ?_
  refine v_iconst C (v := 0) dG_isPath_7 (by decide) ?_
  refine v_istore C (lv' := [(0, .ref (b 1)), (1, .int row), (2, .int (nI (szN row))), (3, .int 0), (4, .int 0)]) [1, 2, 3, 4, 0] dG_isPath_8 (by decide) rfl ?_
  refine v_loop1 (szN row) (fun (i : Nat) (seen : Int32) => wG cI b F a) (fun (i : Nat) (seen : Int32) => [(0, .ref (b 1)), (1, .int row), (2, .int (nI (szN row))), (3, .int seen), (4, .int (nI i))]) (fun (ki i : Nat) (seen : Int32) => gIsPathL F a P row ki i seen = gIsPath F a P row) ?_ ?_ (szN row) 0 0 (by omega) (by unfold gIsPath; rfl)
  · skip
    intro ki i seen hki hIi ihi
    have hIi : gIsPathL F a P row (ki + 1) i seen = gIsPath F a P row := hIi
    refine v_as (w' := wG cI b F a) (lv' := [(0, .ref (b 1)), (1, .int row), (2, .int (nI (szN row))), (3, .int seen), (4, .int (nI i))]) rfl rfl ?_
    refine v_iload C 4 dG_isPath_10 rfl ?_
    refine v_iload_n C 2 dG_isPath_12 rfl rfl ?_
    refine v_icmp_ge C dG_isPath_13 (tgt := 91) (by decide) (fun h => absurd h (nI_ge (a := i) (b := szN row) (by omega) (by omega))) (fun _ => ?_)
    refine v_iload_n C 1 dG_isPath_16 rfl rfl ?_
    refine v_iload C 4 dG_isPath_17 rfl ?_
    refine v_cSr0 (As := [.int row, .int (nI i)]) C (c_rParty l D cI cZ cJ row (nI i)) (va_cwS 2 C.2.2.2.2.1 gG_isPath_R_party rfl rfl rfl (by decide +kernel) ⟨Nat.le_of_ble_eq_true rfl, Nat.le_of_ble_eq_true rfl⟩) rfl rfl (Nat.le_of_ble_eq_true rfl) ⟨Nat.zero_le _, Nat.zero_le _⟩ dG_isPath_19 ?_
    refine v_istore C (lv' := [(0, .ref (b 1)), (1, .int row), (2, .int (nI (szN row))), (3, .int seen), (4, .int (nI i)), (5, .int (rParty row (nI i)))]) [1, 2, 3, 4, 5, 0] dG_isPath_22 (by decide) rfl ?_
    refine v_aload_n C 0 dG_isPath_24 rfl rfl ?_
    refine v_iload C 5 dG_isPath_25 rfl ?_
    refine v_cVrF (As := [.int (rParty row (nI i))]) C (c_gHolds l D cI cZ cJ b F a (rParty row (nI i))) (cwV 1 C.2.2.2.2.1 gG_isPath_G_holds rfl rfl rfl (by decide +kernel) ⟨Nat.le_of_ble_eq_true rfl, Nat.le_of_ble_eq_true rfl⟩) 0 rfl (T := TcG) (N := 3) rfl rfl rfl (Nat.le_of_ble_eq_true rfl) ⟨Nat.zero_le _, Nat.zero_le _⟩ dG_isPath_27 ?_
    refine v_if_eq C dG_isPath_30 (tgt := 46) (by decide) (fun h1 => ?_) (fun h1 => ?_)
    · skip
      refine v_iconst C (v := 0) dG_isPath_46 (by decide) ?_
      refine v_istore C (lv' := [(0, .ref (b 1)), (1, .int row), (2, .int (nI (szN row))), (3, .int seen), (4, .int (nI i)), (5, .int (rParty row (nI i))), (6, .int 0)]) [1, 2, 3, 4, 5, 6, 0] dG_isPath_47 (by decide) rfl ?_
      refine v_iload C 6 dG_isPath_49 rfl ?_
      refine v_if_eq C dG_isPath_51 (tgt := 76) (by decide) (fun _ => ?_) (fun h => absurd h (by decide))
      refine v_iconst C (v := 0) dG_isPath_76 (by decide) ?_
      exact v_zrr C hr (by decide) (by rw [← hIi]; simp only [gIsPathL]; rw [if_pos h1]) dG_isPath_77
    · skip
      refine v_iload_n C 3 dG_isPath_33 rfl rfl ?_
      refine v_iload C 5 dG_isPath_34 rfl ?_
      refine v_ishr C dG_isPath_36 ?_
      refine v_iconst C (v := 1) dG_isPath_37 (by decide) ?_
      refine v_iand C dG_isPath_38 ?_
      refine v_if_ne C dG_isPath_39 (tgt := 46) (by decide) (fun h2 => ?_) (fun h2 => ?_)
      · skip
        refine v_iconst C (v := 0) dG_isPath_46 (by decide) ?_
        refine v_istore C (lv' := [(0, .ref (b 1)), (1, .int row), (2, .int (nI (szN row))), (3, .int seen), (4, .int (nI i)), (5, .int (rParty row (nI i))), (6, .int 0)]) [1, 2, 3, 4, 5, 6, 0] dG_isPath_47 (by decide) rfl ?_
        refine v_iload C 6 dG_isPath_49 rfl ?_
        refine v_if_eq C dG_isPath_51 (tgt := 76) (by decide) (fun _ => ?_) (fun h => absurd h (by decide))
        refine v_iconst C (v := 0) dG_isPath_76 (by decide) ?_
        exact v_zrr C hr (by decide) (by rw [← hIi]; simp only [gIsPathL]; rw [if_neg h1, if_neg h2]) dG_isPath_77
      · skip
        refine v_iconst C (v := 1) dG_isPath_42 (by decide) ?_
        refine v_goto C dG_isPath_43 (tgt := 47) (by decide) ?_
        refine v_istore C (lv' := [(0, .ref (b 1)), (1, .int row), (2, .int (nI (szN row))), (3, .int seen), (4, .int (nI i)), (5, .int (rParty row (nI i))), (6, .int 1)]) [1, 2, 3, 4, 5, 6, 0] dG_isPath_47 (by decide) rfl ?_
        refine v_iload C 6 dG_isPath_49 rfl ?_
        refine v_if_eq C dG_isPath_51 (tgt := 76) (by decide) (fun h => absurd h (by decide)) (fun _ => ?_)
        refine v_iload C 4 dG_isPath_54 rfl ?_
        refine v_if_le C dG_isPath_56 (tgt := 78) (by decide) (fun h3 => ?_) (fun h3 => ?_)
        · skip
          refine v_iload_n C 3 dG_isPath_78 rfl rfl ?_
          refine v_iconst C (v := 1) dG_isPath_79 (by decide) ?_
          refine v_iload C 5 dG_isPath_80 rfl ?_
          refine v_ishl C dG_isPath_82 ?_
          refine v_ior C dG_isPath_83 ?_
          refine v_istore_n C (lv' := [(0, .ref (b 1)), (1, .int row), (2, .int (nI (szN row))), (3, .int (seen ||| ((1 : Int32) <<< ((rParty row (nI i)) &&& 31)))), (4, .int (nI i)), (5, .int (rParty row (nI i))), (6, .int 1)]) [1, 2, 3, 0, 4, 5, 6] dG_isPath_84 rfl (by decide) rfl ?_
          refine v_iinc C (v := nI (i + 1)) (lv' := [(0, .ref (b 1)), (1, .int row), (2, .int (nI (szN row))), (3, .int (seen ||| ((1 : Int32) <<< ((rParty row (nI i)) &&& 31)))), (4, .int (nI (i + 1))), (5, .int (rParty row (nI i))), (6, .int 1)]) 4 [1, 2, 3, 4, 0, 5, 6] dG_isPath_85 rfl (nI_1 i) (by decide) rfl ?_
          refine v_goto C dG_isPath_88 (tgt := 10) (by decide) ?_
          refine v_loc (lv' := [(0, .ref (b 1)), (1, .int row), (2, .int (nI (szN row))), (3, .int (seen ||| ((1 : Int32) <<< ((rParty row (nI i)) &&& 31)))), (4, .int (nI (i + 1)))]) [0, 1, 2, 3, 4] rfl ?_
          have hL : gIsPathL F a P row ki (i + 1) (seen ||| ((1 : Int32) <<< ((rParty row (nI i)) &&& 31))) = gIsPath F a P row := (by rw [← hIi]; simp only [gIsPathL]; rw [if_neg h1, if_pos h2, if_pos h3])
          exact ihi (seen ||| ((1 : Int32) <<< ((rParty row (nI i)) &&& 31))) hL
        · skip
          refine v_aload_n C 0 dG_isPath_59 rfl rfl ?_
          refine v_iload_n C 1 dG_isPath_60 rfl rfl ?_
          refine v_iload C 4 dG_isPath_61 rfl ?_
          refine v_iconst C (v := 1) dG_isPath_63 (by decide) ?_
          refine v_isub C dG_isPath_64 ?_
          refine v_cSr0 (As := [.int row, .int ((nI i) - (1 : Int32))]) C (c_rParty l D cI cZ cJ row ((nI i) - (1 : Int32))) (va_cwS 2 C.2.2.2.2.1 gG_isPath_R_party rfl rfl rfl (by decide +kernel) ⟨Nat.le_of_ble_eq_true rfl, Nat.le_of_ble_eq_true rfl⟩) rfl rfl (Nat.le_of_ble_eq_true rfl) ⟨Nat.zero_le _, Nat.zero_le _⟩ dG_isPath_65 ?_
          refine v_iload C 5 dG_isPath_68 rfl ?_
          refine v_cVrF (As := [.int (rParty row ((nI i) - (1 : Int32))), .int (rParty row (nI i))]) C (c_gJoins l D cI cZ cJ b F a P (rParty row ((nI i) - (1 : Int32))) (rParty row (nI i)) hg hp6) (cwV 2 C.2.2.2.2.1 gG_isPath_G_joins rfl rfl rfl (by decide +kernel) ⟨Nat.le_of_ble_eq_true rfl, Nat.le_of_ble_eq_true rfl⟩) 0 rfl (T := TcG) (N := 3) rfl rfl rfl (Nat.le_of_ble_eq_true rfl) ⟨Nat.zero_le _, Nat.zero_le _⟩ dG_isPath_70 ?_
          refine v_if_ne C dG_isPath_73 (tgt := 78) (by decide) (fun h4 => ?_) (fun h4 => ?_)
          · skip
            refine v_iload_n C 3 dG_isPath_78 rfl rfl ?_
            refine v_iconst C (v := 1) dG_isPath_79 (by decide) ?_
            refine v_iload C 5 dG_isPath_80 rfl ?_
            refine v_ishl C dG_isPath_82 ?_
            refine v_ior C dG_isPath_83 ?_
            refine v_istore_n C (lv' := [(0, .ref (b 1)), (1, .int row), (2, .int (nI (szN row))), (3, .int (seen ||| ((1 : Int32) <<< ((rParty row (nI i)) &&& 31)))), (4, .int (nI i)), (5, .int (rParty row (nI i))), (6, .int 1)]) [1, 2, 3, 0, 4, 5, 6] dG_isPath_84 rfl (by decide) rfl ?_
            refine v_iinc C (v := nI (i + 1)) (lv' := [(0, .ref (b 1)), (1, .int row), (2, .int (nI (szN row))), (3, .int (seen ||| ((1 : Int32) <<< ((rParty row (nI i)) &&& 31)))), (4, .int (nI (i + 1))), (5, .int (rParty row (nI i))), (6, .int 1)]) 4 [1, 2, 3, 4, 0, 5, 6] dG_isPath_85 rfl (nI_1 i) (by decide) rfl ?_
            refine v_goto C dG_isPath_88 (tgt := 10) (by decide) ?_
            refine v_loc (lv' := [(0, .ref (b 1)), (1, .int row), (2, .int (nI (szN row))), (3, .int (seen ||| ((1 : Int32) <<< ((rParty row (nI i)) &&& 31)))), (4, .int (nI (i + 1)))]) [0, 1, 2, 3, 4] rfl ?_
            have hL : gIsPathL F a P row ki (i + 1) (seen ||| ((1 : Int32) <<< ((rParty row (nI i)) &&& 31))) = gIsPath F a P row := (by rw [← hIi]; simp only [gIsPathL]; rw [if_neg h1, if_pos h2, if_neg h3, if_neg h4])
            exact ihi (seen ||| ((1 : Int32) <<< ((rParty row (nI i)) &&& 31))) hL
          · skip
            refine v_iconst C (v := 0) dG_isPath_76 (by decide) ?_
            exact v_zrr C hr (by decide) (by rw [← hIi]; simp only [gIsPathL]; rw [if_neg h1, if_pos h2, if_neg h3, if_pos h4]) dG_isPath_77
  · skip
    intro seen hIi
    have hIi : gIsPathL F a P row 0 (szN row) seen = gIsPath F a P row := hIi
    refine v_as (w' := wG cI b F a) (lv' := [(0, .ref (b 1)), (1, .int row), (2, .int (nI (szN row))), (3, .int seen), (4, .int (nI (szN row)))]) rfl rfl ?_
    refine v_iload C 4 dG_isPath_10 rfl ?_
    refine v_iload_n C 2 dG_isPath_12 rfl rfl ?_
    refine v_icmp_ge C dG_isPath_13 (tgt := 91) (by decide) (fun _ => ?_) (fun h => absurd (nI_le (a := szN row) (b := szN row) (by omega) (by omega)) h)
    refine v_iload_n C 2 dG_isPath_91 rfl rfl ?_
    refine v_if_le C dG_isPath_92 (tgt := 99) (by decide) (fun h5 => ?_) (fun h5 => ?_)
    · skip
      refine v_iconst C (v := 0) dG_isPath_99 (by decide) ?_
      exact v_zrr C hr (by decide) (by rw [← hIi]; simp only [gIsPathL]; rw [if_pos h5]) dG_isPath_100
    · skip
      refine v_iconst C (v := 1) dG_isPath_95 (by decide) ?_
      refine v_goto C dG_isPath_96 (tgt := 100) (by decide) ?_
      exact v_zrr C hr (by decide) (by rw [← hIi]; simp only [gIsPathL]; rw [if_neg h5]) dG_isPath_100
set_option maxHeartbeats 4000000 in
set_option maxRecDepth 100000 in
theorem c_gReach (l : Launch) (D : va_G) (cI cZ cJ : ClassId) (b : Nat → Nat) (F : FT) (a : AT) (P : Nat) (x : Int32) (hg : F 20 = nI P) (hp6 : P ≤ 6) (hP1 : 1 ≤ P) : Kr l yG_reach wG_reach ({ frames := 0, cells := 0, slots := 0, locals := 0 } : Room) D vwCl (tyG cI cZ cJ) [.ref (b 1), .int x] (wG cI b F a) (gReach F a P x) := by
  intro sz
  refine v_ent (cc := bG_reach) (maxL := 5) (ret := (some .int)) (Qc := (fun _ _ st oc t => oc = .returned (some (.int (gReach F a P x))) ∧ t.heap = st.heap)) (fr := (fun _ _ => False)) (own := RcG) rfl (by decide) rfl (Nat.le_of_ble_eq_true rfl) rfl ?_
  intro p e s m args below meth c A C hr _
  refine v_iconst C (v := 1) dG_reach_0 (by decide) ?_
  refine v_iload_n C 1 dG_reach_1 rfl rfl ?_
  refine v_ishl C dG_reach_2 ?_
  refine v_istore_n C (lv' := [(0, .ref (b 1)), (1, .int x), (2, .int ((1 : Int32) <<< (x &&& 31)))]) [1, 2, 0] dG_reach_3 rfl (by decide) rfl ?_
  refine v_iconst C (v := 1) dG_reach_4 (by decide) ?_
  refine v_istore_n C (lv' := [(0, .ref (b 1)), (1, .int x), (2, .int ((1 : Int32) <<< (x &&& 31))), (3, .int 1)]) [1, 2, 3, 0] dG_reach_5 rfl (by decide) rfl ?_
  refine v_loop1 P (fun (rr : Nat) (u : Int32) => wG cI b F a) (fun (rr : Nat) (u : Int32) => [(0, .ref (b 1)), (1, .int x), (2, .int u), (3, .int (nI rr))]) (fun (krr rr : Nat) (u : Int32) => gReachL F a P x krr rr u = gReachL F a P x (P - 1) 1 ((1 : Int32) <<< (x &&& 31))) ?_ ?_ (P - 1) 1 ((1 : Int32) <<< (x &&& 31)) (by omega) rfl
  · skip
    intro krr rr u hkrr hIrr ihrr
    have hIrr : gReachL F a P x (krr + 1) rr u = gReachL F a P x (P - 1) 1 ((1 : Int32) <<< (x &&& 31)) := hIrr
    refine v_as (w' := wG cI b F a) (lv' := [(0, .ref (b 1)), (1, .int x), (2, .int u), (3, .int (nI rr))]) rfl rfl ?_
    refine v_iload_n C 3 dG_reach_6 rfl rfl ?_
    refine v_aload_n C 0 dG_reach_7 rfl rfl ?_
    refine v_get C (T := TcG) (N := 3) (ci := 1) (v := .int (F 20)) inG_reach_G 0 rfl rfl 0 (by decide) (by decide +kernel) rfl rfl dG_reach_8 ?_
    refine v_top (y := nI P) hg ?_
    refine v_icmp_ge C dG_reach_11 (tgt := 58) (by decide) (fun h => absurd h (nI_ge (a := rr) (b := P) (by omega) (by omega))) (fun _ => ?_)
    refine v_iconst C (v := 0) dG_reach_14 (by decide) ?_
    refine v_istore C (lv' := [(0, .ref (b 1)), (1, .int x), (2, .int u), (3, .int (nI rr)), (4, .int 0)]) [1, 2, 3, 4, 0] dG_reach_15 (by decide) rfl ?_
    refine v_loop1 P (fun (qq : Nat) (v : Int32) => wG cI b F a) (fun (qq : Nat) (v : Int32) => [(0, .ref (b 1)), (1, .int x), (2, .int v), (3, .int (nI rr)), (4, .int (nI qq))]) (fun (kqq qq : Nat) (v : Int32) => gReachI F a P x kqq qq v = gReachI F a P x P 0 u) ?_ ?_ P 0 u (by omega) rfl
    · skip
      intro kqq qq v hkqq hIqq ihqq
      have hIqq : gReachI F a P x (kqq + 1) qq v = gReachI F a P x P 0 u := hIqq
      refine v_as (w' := wG cI b F a) (lv' := [(0, .ref (b 1)), (1, .int x), (2, .int v), (3, .int (nI rr)), (4, .int (nI qq))]) rfl rfl ?_
      refine v_iload C 4 dG_reach_17 rfl ?_
      refine v_aload_n C 0 dG_reach_19 rfl rfl ?_
      refine v_get C (T := TcG) (N := 3) (ci := 1) (v := .int (F 20)) inG_reach_G 0 rfl rfl 0 (by decide) (by decide +kernel) rfl rfl dG_reach_20 ?_
      refine v_top (y := nI P) hg ?_
      refine v_icmp_ge C dG_reach_23 (tgt := 52) (by decide) (fun h => absurd h (nI_ge (a := qq) (b := P) (by omega) (by omega))) (fun _ => ?_)
      refine v_iload_n C 2 dG_reach_26 rfl rfl ?_
      refine v_iload C 4 dG_reach_27 rfl ?_
      refine v_ishr C dG_reach_29 ?_
      refine v_iconst C (v := 1) dG_reach_30 (by decide) ?_
      refine v_iand C dG_reach_31 ?_
      refine v_iconst C (v := 1) dG_reach_32 (by decide) ?_
      refine v_icmp_ne C dG_reach_33 (tgt := 46) (by decide) (fun h1 => ?_) (fun h1 => ?_)
      · skip
        refine v_iinc C (v := nI (qq + 1)) (lv' := [(0, .ref (b 1)), (1, .int x), (2, .int v), (3, .int (nI rr)), (4, .int (nI (qq + 1)))]) 4 [1, 2, 3, 4, 0] dG_reach_46 rfl (nI_1 qq) (by decide) rfl ?_
        refine v_goto C dG_reach_49 (tgt := 17) (by decide) ?_
        have hL : gReachI F a P x kqq (qq + 1) v = gReachI F a P x P 0 u := (by rw [← hIqq]; simp only [gReachI]; rw [if_neg h1])
        exact ihqq v hL
      · skip
        refine v_iload_n C 2 dG_reach_36 rfl rfl ?_
        refine v_aload_n C 0 dG_reach_37 rfl rfl ?_
        refine v_get C (T := TcG) (N := 3) (ci := 1) (v := .ref (b 7)) inG_reach_G 0 rfl rfl 2 (by decide) (by decide +kernel) rfl rfl dG_reach_38 ?_
        refine v_iload C 4 dG_reach_41 rfl ?_
        refine v_iald C 1 0 (f := a 22) (y := (a 22) qq) (j := qq) rfl rfl (nI_clamp (by omega)) rfl (vp_in_nI (by omega) (by decide)) dG_reach_43 ?_
        refine v_ior C dG_reach_44 ?_
        refine v_istore_n C (lv' := [(0, .ref (b 1)), (1, .int x), (2, .int (v ||| ((a 22) qq))), (3, .int (nI rr)), (4, .int (nI qq))]) [1, 2, 0, 3, 4] dG_reach_45 rfl (by decide) rfl ?_
        refine v_iinc C (v := nI (qq + 1)) (lv' := [(0, .ref (b 1)), (1, .int x), (2, .int (v ||| ((a 22) qq))), (3, .int (nI rr)), (4, .int (nI (qq + 1)))]) 4 [1, 2, 3, 4, 0] dG_reach_46 rfl (nI_1 qq) (by decide) rfl ?_
        refine v_goto C dG_reach_49 (tgt := 17) (by decide) ?_
        have hL : gReachI F a P x kqq (qq + 1) (v ||| ((a 22) qq)) = gReachI F a P x P 0 u := (by rw [← hIqq]; simp only [gReachI]; rw [if_pos h1])
        exact ihqq (v ||| ((a 22) qq)) hL
    · skip
      intro v hIqq
      have hIqq : gReachI F a P x 0 P v = gReachI F a P x P 0 u := hIqq
      refine v_as (w' := wG cI b F a) (lv' := [(0, .ref (b 1)), (1, .int x), (2, .int v), (3, .int (nI rr)), (4, .int (nI P))]) rfl rfl ?_
      have hIqq : v = gReachI F a P x P 0 u := hIqq
      subst hIqq
      refine v_iload C 4 dG_reach_17 rfl ?_
      refine v_aload_n C 0 dG_reach_19 rfl rfl ?_
      refine v_get C (T := TcG) (N := 3) (ci := 1) (v := .int (F 20)) inG_reach_G 0 rfl rfl 0 (by decide) (by decide +kernel) rfl rfl dG_reach_20 ?_
      refine v_top (y := nI P) hg ?_
      refine v_icmp_ge C dG_reach_23 (tgt := 52) (by decide) (fun _ => ?_) (fun h => absurd (nI_le (a := P) (b := P) (by omega) (by omega)) h)
      refine v_iinc C (v := nI (rr + 1)) (lv' := [(0, .ref (b 1)), (1, .int x), (2, .int (gReachI F a P x P 0 u)), (3, .int (nI (rr + 1))), (4, .int (nI P))]) 3 [1, 2, 3, 0, 4] dG_reach_52 rfl (nI_1 rr) (by decide) rfl ?_
      refine v_goto C dG_reach_55 (tgt := 6) (by decide) ?_
      refine v_loc (lv' := [(0, .ref (b 1)), (1, .int x), (2, .int (gReachI F a P x P 0 u)), (3, .int (nI (rr + 1)))]) [0, 1, 2, 3] rfl ?_
      have hL : gReachL F a P x krr (rr + 1) (gReachI F a P x P 0 u) = gReachL F a P x (P - 1) 1 ((1 : Int32) <<< (x &&& 31)) := (by rw [← hIrr]; simp only [gReachL])
      exact ihrr (gReachI F a P x P 0 u) hL
  · skip
    intro u hIrr
    have hIrr : gReachL F a P x 0 P u = gReachL F a P x (P - 1) 1 ((1 : Int32) <<< (x &&& 31)) := hIrr
    refine v_as (w' := wG cI b F a) (lv' := [(0, .ref (b 1)), (1, .int x), (2, .int u), (3, .int (nI P))]) rfl rfl ?_
    have hIrr : u = gReachL F a P x (P - 1) 1 ((1 : Int32) <<< (x &&& 31)) := hIrr
    subst hIrr
    refine v_iload_n C 3 dG_reach_6 rfl rfl ?_
    refine v_aload_n C 0 dG_reach_7 rfl rfl ?_
    refine v_get C (T := TcG) (N := 3) (ci := 1) (v := .int (F 20)) inG_reach_G 0 rfl rfl 0 (by decide) (by decide +kernel) rfl rfl dG_reach_8 ?_
    refine v_top (y := nI P) hg ?_
    refine v_icmp_ge C dG_reach_11 (tgt := 58) (by decide) (fun _ => ?_) (fun h => absurd (nI_le (a := P) (b := P) (by omega) (by omega)) h)
    refine v_iload_n C 2 dG_reach_58 rfl rfl ?_
    exact v_irr C hr (by unfold gReach; rfl) dG_reach_59
set_option maxHeartbeats 4000000 in
set_option maxRecDepth 100000 in
theorem c_gIsStrong (l : Launch) (D : va_G) (cI cZ cJ : ClassId) (b : Nat → Nat) (F : FT) (a : AT) (P : Nat) (hg : F 20 = nI P) (hp6 : P ≤ 6) (hP1 : 1 ≤ P) : Kr l yG_isStrong wG_isStrong ({ frames := 1, cells := 0, slots := 0, locals := 24 } : Room) D vwCl (tyG cI cZ cJ) [.ref (b 1)] (wG cI b F a) (gIsStrong F a P) := by
  intro sz
  refine v_ent (cc := bG_isStrong) (maxL := 2) (ret := (some .boolean)) (Qc := (fun _ _ st oc t => oc = .returned (some (.int (gIsStrong F a P))) ∧ t.heap = st.heap)) (fr := (fun _ _ => False)) (own := RcG) rfl (by decide) rfl (Nat.le_of_ble_eq_true rfl) rfl ?_
  intro p e s m args below meth c A C hr _
  refine v_iconst C (v := 0) dG_isStrong_0 (by decide) ?_
  refine v_istore_n C (lv' := [(0, .ref (b 1)), (1, .int 0)]) [1, 0] dG_isStrong_1 rfl (by decide) rfl ?_
  refine v_loop0 P (fun (i : Nat) => wG cI b F a) (fun (i : Nat) => [(0, .ref (b 1)), (1, .int (nI i))]) (fun (ki i : Nat) => gIsStrongL F a P ki i = gIsStrong F a P) ?_ ?_ P 0  (by omega) (by unfold gIsStrong; rfl)
  · skip
    intro ki i hki hIi ihi
    have hIi : gIsStrongL F a P (ki + 1) i = gIsStrong F a P := hIi
    refine v_as (w' := wG cI b F a) (lv' := [(0, .ref (b 1)), (1, .int (nI i))]) rfl rfl ?_
    refine v_iload_n C 1 dG_isStrong_2 rfl rfl ?_
    refine v_aload_n C 0 dG_isStrong_3 rfl rfl ?_
    refine v_get C (T := TcG) (N := 3) (ci := 1) (v := .int (F 20)) inG_isStrong_G 0 rfl rfl 0 (by decide) (by decide +kernel) rfl rfl dG_isStrong_4 ?_
    refine v_top (y := nI P) hg ?_
    refine v_icmp_ge C dG_isStrong_7 (tgt := 30) (by decide) (fun h => absurd h (nI_ge (a := i) (b := P) (by omega) (by omega))) (fun _ => ?_)
    refine v_aload_n C 0 dG_isStrong_10 rfl rfl ?_
    refine v_iload_n C 1 dG_isStrong_11 rfl rfl ?_
    refine v_cVrF (As := [.int (nI i)]) C (c_gReach l D cI cZ cJ b F a P (nI i) hg hp6 hP1) (cwV 1 C.2.2.2.2.1 gG_isStrong_G_reach rfl rfl rfl (by decide +kernel) ⟨Nat.le_of_ble_eq_true rfl, Nat.le_of_ble_eq_true rfl⟩) 0 rfl (T := TcG) (N := 3) rfl rfl rfl (Nat.le_of_ble_eq_true rfl) ⟨Nat.zero_le _, Nat.zero_le _⟩ dG_isStrong_12 ?_
    refine v_aload_n C 0 dG_isStrong_15 rfl rfl ?_
    refine v_get C (T := TcG) (N := 3) (ci := 1) (v := .int (F 21)) inG_isStrong_G 0 rfl rfl 1 (by decide) (by decide +kernel) rfl rfl dG_isStrong_16 ?_
    refine v_icmp_eq C dG_isStrong_19 (tgt := 24) (by decide) (fun h1 => ?_) (fun h1 => ?_)
    · skip
      refine v_iinc C (v := nI (i + 1)) (lv' := [(0, .ref (b 1)), (1, .int (nI (i + 1)))]) 1 [1, 0] dG_isStrong_24 rfl (nI_1 i) (by decide) rfl ?_
      refine v_goto C dG_isStrong_27 (tgt := 2) (by decide) ?_
      have hL : gIsStrongL F a P ki (i + 1) = gIsStrong F a P := (by rw [← hIi]; simp only [gIsStrongL]; rw [if_pos h1])
      exact ihi  hL
    · skip
      refine v_iconst C (v := 0) dG_isStrong_22 (by decide) ?_
      exact v_zrr C hr (by decide) (by rw [← hIi]; simp only [gIsStrongL]; rw [if_neg h1]) dG_isStrong_23
  · skip
    intro hIi
    have hIi : gIsStrongL F a P 0 P = gIsStrong F a P := hIi
    refine v_as (w' := wG cI b F a) (lv' := [(0, .ref (b 1)), (1, .int (nI P))]) rfl rfl ?_
    refine v_iload_n C 1 dG_isStrong_2 rfl rfl ?_
    refine v_aload_n C 0 dG_isStrong_3 rfl rfl ?_
    refine v_get C (T := TcG) (N := 3) (ci := 1) (v := .int (F 20)) inG_isStrong_G 0 rfl rfl 0 (by decide) (by decide +kernel) rfl rfl dG_isStrong_4 ?_
    refine v_top (y := nI P) hg ?_
    refine v_icmp_ge C dG_isStrong_7 (tgt := 30) (by decide) (fun _ => ?_) (fun h => absurd (nI_le (a := P) (b := P) (by omega) (by omega)) h)
    refine v_iconst C (v := 1) dG_isStrong_30 (by decide) ?_
    exact v_zrr C hr (by decide) (by rw [← hIi]; simp only [gIsStrongL]) dG_isStrong_31
set_option maxHeartbeats 4000000 in
set_option maxRecDepth 100000 in
theorem c_gEnds (l : Launch) (D : va_G) (cI cZ cJ : ClassId) (b : Nat → Nat) (F : FT) (a : AT) (P : Nat) (x : Int32) (hg : F 20 = nI P) (hp6 : P ≤ 6) : Kr l yG_endsAllWalks wG_endsAllWalks ({ frames := 0, cells := 0, slots := 0, locals := 0 } : Room) D vwCl (tyG cI cZ cJ) [.ref (b 1), .int x] (wG cI b F a) (gEnds F a P x) := by
  intro sz
  refine v_ent (cc := bG_endsAllWalks) (maxL := 5) (ret := (some .boolean)) (Qc := (fun _ _ st oc t => oc = .returned (some (.int (gEnds F a P x))) ∧ t.heap = st.heap)) (fr := (fun _ _ => False)) (own := RcG) rfl (by decide) rfl (Nat.le_of_ble_eq_true rfl) rfl ?_
  intro p e s m args below meth c A C hr _
  refine v_iload_n C 1 dG_endsAllWalks_0 rfl rfl ?_
  refine v_istore_n C (lv' := [(0, .ref (b 1)), (1, .int x), (2, .int x)]) [1, 2, 0] dG_endsAllWalks_1 rfl (by decide) rfl ?_
  refine v_iconst C (v := 0) dG_endsAllWalks_2 (by decide) ?_
  refine v_istore_n C (lv' := [(0, .ref (b 1)), (1, .int x), (2, .int x), (3, .int 0)]) [1, 2, 3, 0] dG_endsAllWalks_3 rfl (by decide) rfl ?_
  refine v_loop1 P (fun (rr : Nat) (u : Int32) => wG cI b F a) (fun (rr : Nat) (u : Int32) => [(0, .ref (b 1)), (1, .int x), (2, .int u), (3, .int (nI rr))]) (fun (krr rr : Nat) (u : Int32) => gEndsL F a P x krr rr u = gEndsL F a P x P 0 x) ?_ ?_ P 0 x (by omega) rfl
  · skip
    intro krr rr u hkrr hIrr ihrr
    have hIrr : gEndsL F a P x (krr + 1) rr u = gEndsL F a P x P 0 x := hIrr
    refine v_as (w' := wG cI b F a) (lv' := [(0, .ref (b 1)), (1, .int x), (2, .int u), (3, .int (nI rr))]) rfl rfl ?_
    refine v_iload_n C 3 dG_endsAllWalks_4 rfl rfl ?_
    refine v_aload_n C 0 dG_endsAllWalks_5 rfl rfl ?_
    refine v_get C (T := TcG) (N := 3) (ci := 1) (v := .int (F 20)) inG_endsAllWalks_G 0 rfl rfl 0 (by decide) (by decide +kernel) rfl rfl dG_endsAllWalks_6 ?_
    refine v_top (y := nI P) hg ?_
    refine v_icmp_ge C dG_endsAllWalks_9 (tgt := 57) (by decide) (fun h => absurd h (nI_ge (a := rr) (b := P) (by omega) (by omega))) (fun _ => ?_)
    refine v_iconst C (v := 0) dG_endsAllWalks_12 (by decide) ?_
    refine v_istore C (lv' := [(0, .ref (b 1)), (1, .int x), (2, .int u), (3, .int (nI rr)), (4, .int 0)]) [1, 2, 3, 4, 0] dG_endsAllWalks_13 (by decide) rfl ?_
    refine v_loop1 P (fun (qq : Nat) (v : Int32) => wG cI b F a) (fun (qq : Nat) (v : Int32) => [(0, .ref (b 1)), (1, .int x), (2, .int v), (3, .int (nI rr)), (4, .int (nI qq))]) (fun (kqq qq : Nat) (v : Int32) => gEndsI F a P x kqq qq v = gEndsI F a P x P 0 u) ?_ ?_ P 0 u (by omega) rfl
    · skip
      intro kqq qq v hkqq hIqq ihqq
      have hIqq : gEndsI F a P x (kqq + 1) qq v = gEndsI F a P x P 0 u := hIqq
      refine v_as (w' := wG cI b F a) (lv' := [(0, .ref (b 1)), (1, .int x), (2, .int v), (3, .int (nI rr)), (4, .int (nI qq))]) rfl rfl ?_
      refine v_iload C 4 dG_endsAllWalks_15 rfl ?_
      refine v_aload_n C 0 dG_endsAllWalks_17 rfl rfl ?_
      refine v_get C (T := TcG) (N := 3) (ci := 1) (v := .int (F 20)) inG_endsAllWalks_G 0 rfl rfl 0 (by decide) (by decide +kernel) rfl rfl dG_endsAllWalks_18 ?_
      refine v_top (y := nI P) hg ?_
      refine v_icmp_ge C dG_endsAllWalks_21 (tgt := 51) (by decide) (fun h => absurd h (nI_ge (a := qq) (b := P) (by omega) (by omega))) (fun _ => ?_)
      refine v_aload_n C 0 dG_endsAllWalks_24 rfl rfl ?_
      refine v_get C (T := TcG) (N := 3) (ci := 1) (v := .ref (b 7)) inG_endsAllWalks_G 0 rfl rfl 2 (by decide) (by decide +kernel) rfl rfl dG_endsAllWalks_25 ?_
      refine v_iload C 4 dG_endsAllWalks_28 rfl ?_
      refine v_iald C 1 0 (f := a 22) (y := (a 22) qq) (j := qq) rfl rfl (nI_clamp (by omega)) rfl (vp_in_nI (by omega) (by decide)) dG_endsAllWalks_30 ?_
      refine v_iload_n C 2 dG_endsAllWalks_31 rfl rfl ?_
      refine v_iand C dG_endsAllWalks_32 ?_
      refine v_if_ne C dG_endsAllWalks_33 (tgt := 45) (by decide) (fun h1 => ?_) (fun h1 => ?_)
      · skip
        refine v_iinc C (v := nI (qq + 1)) (lv' := [(0, .ref (b 1)), (1, .int x), (2, .int v), (3, .int (nI rr)), (4, .int (nI (qq + 1)))]) 4 [1, 2, 3, 4, 0] dG_endsAllWalks_45 rfl (nI_1 qq) (by decide) rfl ?_
        refine v_goto C dG_endsAllWalks_48 (tgt := 15) (by decide) ?_
        have hL : gEndsI F a P x kqq (qq + 1) v = gEndsI F a P x P 0 u := (by rw [← hIqq]; simp only [gEndsI]; rw [if_neg h1])
        exact ihqq v hL
      · skip
        refine v_iload_n C 2 dG_endsAllWalks_36 rfl rfl ?_
        refine v_iconst C (v := 1) dG_endsAllWalks_37 (by decide) ?_
        refine v_iload C 4 dG_endsAllWalks_38 rfl ?_
        refine v_ishl C dG_endsAllWalks_40 ?_
        refine v_iconst C (v := (-1)) dG_endsAllWalks_41 (by decide) ?_
        refine v_ixor C dG_endsAllWalks_42 ?_
        refine v_iand C dG_endsAllWalks_43 ?_
        refine v_istore_n C (lv' := [(0, .ref (b 1)), (1, .int x), (2, .int (v &&& (((1 : Int32) <<< ((nI qq) &&& 31)) ^^^ ((-1) : Int32)))), (3, .int (nI rr)), (4, .int (nI qq))]) [1, 2, 0, 3, 4] dG_endsAllWalks_44 rfl (by decide) rfl ?_
        refine v_iinc C (v := nI (qq + 1)) (lv' := [(0, .ref (b 1)), (1, .int x), (2, .int (v &&& (((1 : Int32) <<< ((nI qq) &&& 31)) ^^^ ((-1) : Int32)))), (3, .int (nI rr)), (4, .int (nI (qq + 1)))]) 4 [1, 2, 3, 4, 0] dG_endsAllWalks_45 rfl (nI_1 qq) (by decide) rfl ?_
        refine v_goto C dG_endsAllWalks_48 (tgt := 15) (by decide) ?_
        have hL : gEndsI F a P x kqq (qq + 1) (v &&& (((1 : Int32) <<< ((nI qq) &&& 31)) ^^^ ((-1) : Int32))) = gEndsI F a P x P 0 u := (by rw [← hIqq]; simp only [gEndsI]; rw [if_pos h1])
        exact ihqq (v &&& (((1 : Int32) <<< ((nI qq) &&& 31)) ^^^ ((-1) : Int32))) hL
    · skip
      intro v hIqq
      have hIqq : gEndsI F a P x 0 P v = gEndsI F a P x P 0 u := hIqq
      refine v_as (w' := wG cI b F a) (lv' := [(0, .ref (b 1)), (1, .int x), (2, .int v), (3, .int (nI rr)), (4, .int (nI P))]) rfl rfl ?_
      have hIqq : v = gEndsI F a P x P 0 u := hIqq
      subst hIqq
      refine v_iload C 4 dG_endsAllWalks_15 rfl ?_
      refine v_aload_n C 0 dG_endsAllWalks_17 rfl rfl ?_
      refine v_get C (T := TcG) (N := 3) (ci := 1) (v := .int (F 20)) inG_endsAllWalks_G 0 rfl rfl 0 (by decide) (by decide +kernel) rfl rfl dG_endsAllWalks_18 ?_
      refine v_top (y := nI P) hg ?_
      refine v_icmp_ge C dG_endsAllWalks_21 (tgt := 51) (by decide) (fun _ => ?_) (fun h => absurd (nI_le (a := P) (b := P) (by omega) (by omega)) h)
      refine v_iinc C (v := nI (rr + 1)) (lv' := [(0, .ref (b 1)), (1, .int x), (2, .int (gEndsI F a P x P 0 u)), (3, .int (nI (rr + 1))), (4, .int (nI P))]) 3 [1, 2, 3, 0, 4] dG_endsAllWalks_51 rfl (nI_1 rr) (by decide) rfl ?_
      refine v_goto C dG_endsAllWalks_54 (tgt := 4) (by decide) ?_
      refine v_loc (lv' := [(0, .ref (b 1)), (1, .int x), (2, .int (gEndsI F a P x P 0 u)), (3, .int (nI (rr + 1)))]) [0, 1, 2, 3] rfl ?_
      have hL : gEndsL F a P x krr (rr + 1) (gEndsI F a P x P 0 u) = gEndsL F a P x P 0 x := (by rw [← hIrr]; simp only [gEndsL])
      exact ihrr (gEndsI F a P x P 0 u) hL
  · skip
    intro u hIrr
    have hIrr : gEndsL F a P x 0 P u = gEndsL F a P x P 0 x := hIrr
    refine v_as (w' := wG cI b F a) (lv' := [(0, .ref (b 1)), (1, .int x), (2, .int u), (3, .int (nI P))]) rfl rfl ?_
    have hIrr : u = gEndsL F a P x P 0 x := hIrr
    subst hIrr
    refine v_iload_n C 3 dG_endsAllWalks_4 rfl rfl ?_
    refine v_aload_n C 0 dG_endsAllWalks_5 rfl rfl ?_
    refine v_get C (T := TcG) (N := 3) (ci := 1) (v := .int (F 20)) inG_endsAllWalks_G 0 rfl rfl 0 (by decide) (by decide +kernel) rfl rfl dG_endsAllWalks_6 ?_
    refine v_top (y := nI P) hg ?_
    refine v_icmp_ge C dG_endsAllWalks_9 (tgt := 57) (by decide) (fun _ => ?_) (fun h => absurd (nI_le (a := P) (b := P) (by omega) (by omega)) h)
    refine v_iload_n C 2 dG_endsAllWalks_57 rfl rfl ?_
    refine v_if_ne C dG_endsAllWalks_58 (tgt := 65) (by decide) (fun h2 => ?_) (fun h2 => ?_)
    · skip
      refine v_iconst C (v := 0) dG_endsAllWalks_65 (by decide) ?_
      exact v_zrr C hr (by decide) (by unfold gEnds; rw [if_neg h2]) dG_endsAllWalks_66
    · skip
      refine v_iconst C (v := 1) dG_endsAllWalks_61 (by decide) ?_
      refine v_goto C dG_endsAllWalks_62 (tgt := 66) (by decide) ?_
      exact v_zrr C hr (by decide) (by unfold gEnds; rw [if_pos h2]) dG_endsAllWalks_66
set_option maxHeartbeats 4000000 in
set_option maxRecDepth 100000 in
theorem c_gFewest (l : Launch) (D : va_G) (cI cZ cJ : ClassId) (b : Nat → Nat) (F : FT) (a : AT) (P : Nat) (E : Nat) (hg : F 20 = nI P) (hp6 : P ≤ 6) (he : F 21 = nI E) (hE : E < 64) : Kr l yG_fewestLeaders wG_fewestLeaders ({ frames := 1, cells := 0, slots := 0, locals := 24 } : Room) D vwCl (tyG cI cZ cJ) [.ref (b 1)] (wG cI b F a) (gFewest F a P E) := by
  intro sz
  refine v_ent (cc := bG_fewestLeaders) (maxL := 3) (ret := (some .int)) (Qc := (fun _ _ st oc t => oc = .returned (some (.int (gFewest F a P E))) ∧ t.heap = st.heap)) (fr := (fun _ _ => False)) (own := RcG) rfl (by decide) rfl (Nat.le_of_ble_eq_true rfl) rfl ?_
  intro p e s m args below meth c A C hr _
  refine v_aload_n C 0 dG_fewestLeaders_0 rfl rfl ?_
  refine v_get C (T := TcG) (N := 3) (ci := 1) (v := .int (F 21)) inG_fewestLeaders_G 0 rfl rfl 1 (by decide) (by decide +kernel) rfl rfl dG_fewestLeaders_1 ?_
  refine v_top (y := nI E) he ?_
  refine v_istore_n C (lv' := [(0, .ref (b 1)), (1, .int (nI E))]) [1, 0] dG_fewestLeaders_4 rfl (by decide) rfl ?_
  refine v_iconst C (v := 0) dG_fewestLeaders_5 (by decide) ?_
  refine v_istore_n C (lv' := [(0, .ref (b 1)), (1, .int (nI E)), (2, .int 0)]) [1, 2, 0] dG_fewestLeaders_6 rfl (by decide) rfl ?_
  refine v_loop1 E (fun (qq : Nat) (best : Int32) => wG cI b F a) (fun (qq : Nat) (best : Int32) => [(0, .ref (b 1)), (1, .int best), (2, .int (nI qq))]) (fun (kqq qq : Nat) (best : Int32) => gFewestL F a P E kqq qq best = gFewestL F a P E E 0 (nI E)) ?_ ?_ E 0 (nI E) (by omega) rfl
  · skip
    intro kqq qq best hkqq hIqq ihqq
    have hIqq : gFewestL F a P E (kqq + 1) qq best = gFewestL F a P E E 0 (nI E) := hIqq
    refine v_as (w' := wG cI b F a) (lv' := [(0, .ref (b 1)), (1, .int best), (2, .int (nI qq))]) rfl rfl ?_
    refine v_iload_n C 2 dG_fewestLeaders_7 rfl rfl ?_
    refine v_aload_n C 0 dG_fewestLeaders_8 rfl rfl ?_
    refine v_get C (T := TcG) (N := 3) (ci := 1) (v := .int (F 21)) inG_fewestLeaders_G 0 rfl rfl 1 (by decide) (by decide +kernel) rfl rfl dG_fewestLeaders_9 ?_
    refine v_top (y := nI E) he ?_
    refine v_icmp_ge C dG_fewestLeaders_12 (tgt := 49) (by decide) (fun h => absurd h (nI_ge (a := qq) (b := E) (by omega) (by omega))) (fun _ => ?_)
    refine v_iload_n C 2 dG_fewestLeaders_15 rfl rfl ?_
    refine v_cSr0 (As := [.int (nI qq)]) C (c_bitCountF l D cI cZ cJ (nI qq)) (va_cwS 1 C.2.2.2.2.1 gG_fewestLeaders_J_bitCount rfl rfl rfl (by decide +kernel) ⟨Nat.le_of_ble_eq_true rfl, Nat.le_of_ble_eq_true rfl⟩) rfl rfl (Nat.le_of_ble_eq_true rfl) ⟨Nat.zero_le _, Nat.zero_le _⟩ dG_fewestLeaders_16 ?_
    refine v_iload_n C 1 dG_fewestLeaders_19 rfl rfl ?_
    refine v_cSr0 (As := [.int best]) C (c_bitCountF l D cI cZ cJ best) (va_cwS 1 C.2.2.2.2.1 gG_fewestLeaders_J_bitCount rfl rfl rfl (by decide +kernel) ⟨Nat.le_of_ble_eq_true rfl, Nat.le_of_ble_eq_true rfl⟩) rfl rfl (Nat.le_of_ble_eq_true rfl) ⟨Nat.zero_le _, Nat.zero_le _⟩ dG_fewestLeaders_20 ?_
    refine v_icmp_ge C dG_fewestLeaders_23 (tgt := 43) (by decide) (fun h1 => ?_) (fun h1 => ?_)
    · skip
      refine v_iinc C (v := nI (qq + 1)) (lv' := [(0, .ref (b 1)), (1, .int best), (2, .int (nI (qq + 1)))]) 2 [1, 2, 0] dG_fewestLeaders_43 rfl (nI_1 qq) (by decide) rfl ?_
      refine v_goto C dG_fewestLeaders_46 (tgt := 7) (by decide) ?_
      have hL : gFewestL F a P E kqq (qq + 1) best = gFewestL F a P E E 0 (nI E) := (by rw [← hIqq]; simp only [gFewestL]; rw [if_pos h1])
      exact ihqq best hL
    · skip
      refine v_aload_n C 0 dG_fewestLeaders_26 rfl rfl ?_
      refine v_aload_n C 0 dG_fewestLeaders_27 rfl rfl ?_
      refine v_get C (T := TcG) (N := 3) (ci := 1) (v := .int (F 21)) inG_fewestLeaders_G 0 rfl rfl 1 (by decide) (by decide +kernel) rfl rfl dG_fewestLeaders_28 ?_
      refine v_top (y := nI E) he ?_
      refine v_iload_n C 2 dG_fewestLeaders_31 rfl rfl ?_
      refine v_iconst C (v := (-1)) dG_fewestLeaders_32 (by decide) ?_
      refine v_ixor C dG_fewestLeaders_33 ?_
      refine v_iand C dG_fewestLeaders_34 ?_
      refine v_cVrF (As := [.int ((nI E) &&& ((nI qq) ^^^ ((-1) : Int32)))]) C (c_gEnds l D cI cZ cJ b F a P ((nI E) &&& ((nI qq) ^^^ ((-1) : Int32))) hg hp6) (cwV 1 C.2.2.2.2.1 gG_fewestLeaders_G_endsAllWalks rfl rfl rfl (by decide +kernel) ⟨Nat.le_of_ble_eq_true rfl, Nat.le_of_ble_eq_true rfl⟩) 0 rfl (T := TcG) (N := 3) rfl rfl rfl (Nat.le_of_ble_eq_true rfl) ⟨Nat.zero_le _, Nat.zero_le _⟩ dG_fewestLeaders_35 ?_
      refine v_if_eq C dG_fewestLeaders_38 (tgt := 43) (by decide) (fun h2 => ?_) (fun h2 => ?_)
      · skip
        refine v_iinc C (v := nI (qq + 1)) (lv' := [(0, .ref (b 1)), (1, .int best), (2, .int (nI (qq + 1)))]) 2 [1, 2, 0] dG_fewestLeaders_43 rfl (nI_1 qq) (by decide) rfl ?_
        refine v_goto C dG_fewestLeaders_46 (tgt := 7) (by decide) ?_
        have hL : gFewestL F a P E kqq (qq + 1) best = gFewestL F a P E E 0 (nI E) := (by rw [← hIqq]; simp only [gFewestL]; rw [if_neg h1, if_pos h2])
        exact ihqq best hL
      · skip
        refine v_iload_n C 2 dG_fewestLeaders_41 rfl rfl ?_
        refine v_istore_n C (lv' := [(0, .ref (b 1)), (1, .int (nI qq)), (2, .int (nI qq))]) [1, 0, 2] dG_fewestLeaders_42 rfl (by decide) rfl ?_
        refine v_iinc C (v := nI (qq + 1)) (lv' := [(0, .ref (b 1)), (1, .int (nI qq)), (2, .int (nI (qq + 1)))]) 2 [1, 2, 0] dG_fewestLeaders_43 rfl (nI_1 qq) (by decide) rfl ?_
        refine v_goto C dG_fewestLeaders_46 (tgt := 7) (by decide) ?_
        have hL : gFewestL F a P E kqq (qq + 1) (nI qq) = gFewestL F a P E E 0 (nI E) := (by rw [← hIqq]; simp only [gFewestL]; rw [if_neg h1, if_neg h2])
        exact ihqq (nI qq) hL
  · skip
    intro best hIqq
    have hIqq : gFewestL F a P E 0 E best = gFewestL F a P E E 0 (nI E) := hIqq
    refine v_as (w' := wG cI b F a) (lv' := [(0, .ref (b 1)), (1, .int best), (2, .int (nI E))]) rfl rfl ?_
    have hIqq : best = gFewestL F a P E E 0 (nI E) := hIqq
    subst hIqq
    refine v_iload_n C 2 dG_fewestLeaders_7 rfl rfl ?_
    refine v_aload_n C 0 dG_fewestLeaders_8 rfl rfl ?_
    refine v_get C (T := TcG) (N := 3) (ci := 1) (v := .int (F 21)) inG_fewestLeaders_G 0 rfl rfl 1 (by decide) (by decide +kernel) rfl rfl dG_fewestLeaders_9 ?_
    refine v_top (y := nI E) he ?_
    refine v_icmp_ge C dG_fewestLeaders_12 (tgt := 49) (by decide) (fun _ => ?_) (fun h => absurd (nI_le (a := E) (b := E) (by omega) (by omega)) h)
    refine v_iload_n C 1 dG_fewestLeaders_49 rfl rfl ?_
    exact v_irr C hr (by unfold gFewest; rfl) dG_fewestLeaders_50

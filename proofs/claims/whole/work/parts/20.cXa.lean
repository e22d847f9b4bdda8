set_option maxHeartbeats 4000000 in
set_option maxRecDepth 100000 in
theorem c_isPartyF (l : Launch) (D : va_G) (cI cZ cJ : ClassId) (b : Nat → Nat) (F : FT) (a : AT) (x : Int32) : Kr l yX_isParty wX_isParty ({ frames := 0, cells := 0, slots := 0, locals := 0 } : Room) D vwCl (tyG cI cZ cJ) [.ref (b 0), .int x] (wX cI b F a) (isPartyF F a x) := by
  intro sz
  refine v_ent (cc := bX_isParty) (maxL := 2) (ret := (some .boolean)) (Qc := (fun _ _ st oc t => oc = .returned (some (.int (isPartyF F a x))) ∧ t.heap = st.heap)) (fr := (fun _ _ => False)) (own := RcX) rfl (by decide) rfl (Nat.le_of_ble_eq_true rfl) rfl ?_
  intro p e s m args below meth c A C hr _
  refine v_iload_n C 1 dX_isParty_0 rfl rfl ?_
  refine v_if_lt C dX_isParty_1 (tgt := 16) (by decide) (fun h1 => ?_) (fun h1 => ?_)
  · skip
    refine v_iconst C (v := 0) dX_isParty_16 (by decide) ?_
    exact v_zrr C hr (by decide) (by unfold isPartyF; rw [if_pos h1]) dX_isParty_17
  · skip
    refine v_iload_n C 1 dX_isParty_4 rfl rfl ?_
    refine v_aload_n C 0 dX_isParty_5 rfl rfl ?_
    refine v_get C (T := TcX) (N := 16) (ci := 0) (v := .int (F 0)) inX_isParty_X 0 rfl rfl 0 (by decide) (by decide +kernel) rfl rfl dX_isParty_6 ?_
    refine v_icmp_ge C dX_isParty_9 (tgt := 16) (by decide) (fun h2 => ?_) (fun h2 => ?_)
    · skip
      refine v_iconst C (v := 0) dX_isParty_16 (by decide) ?_
      exact v_zrr C hr (by decide) (by unfold isPartyF; rw [if_neg h1, if_pos h2]) dX_isParty_17
    · skip
      refine v_iconst C (v := 1) dX_isParty_12 (by decide) ?_
      refine v_goto C dX_isParty_13 (tgt := 17) (by decide) ?_
      exact v_zrr C hr (by decide) (by unfold isPartyF; rw [if_neg h1, if_neg h2]) dX_isParty_17
set_option maxHeartbeats 4000000 in
set_option maxRecDepth 100000 in
theorem c_isArcF (l : Launch) (D : va_G) (cI cZ cJ : ClassId) (b : Nat → Nat) (F : FT) (a : AT) (x : Int32) : Kr l yX_isArc wX_isArc ({ frames := 0, cells := 0, slots := 0, locals := 0 } : Room) D vwCl (tyG cI cZ cJ) [.ref (b 0), .int x] (wX cI b F a) (isArcF F a x) := by
  intro sz
  refine v_ent (cc := bX_isArc) (maxL := 2) (ret := (some .boolean)) (Qc := (fun _ _ st oc t => oc = .returned (some (.int (isArcF F a x))) ∧ t.heap = st.heap)) (fr := (fun _ _ => False)) (own := RcX) rfl (by decide) rfl (Nat.le_of_ble_eq_true rfl) rfl ?_
  intro p e s m args below meth c A C hr _
  refine v_iload_n C 1 dX_isArc_0 rfl rfl ?_
  refine v_if_lt C dX_isArc_1 (tgt := 16) (by decide) (fun h1 => ?_) (fun h1 => ?_)
  · skip
    refine v_iconst C (v := 0) dX_isArc_16 (by decide) ?_
    exact v_zrr C hr (by decide) (by unfold isArcF; rw [if_pos h1]) dX_isArc_17
  · skip
    refine v_iload_n C 1 dX_isArc_4 rfl rfl ?_
    refine v_aload_n C 0 dX_isArc_5 rfl rfl ?_
    refine v_get C (T := TcX) (N := 16) (ci := 0) (v := .int (F 8)) inX_isArc_X 0 rfl rfl 8 (by decide) (by decide +kernel) rfl rfl dX_isArc_6 ?_
    refine v_icmp_ge C dX_isArc_9 (tgt := 16) (by decide) (fun h2 => ?_) (fun h2 => ?_)
    · skip
      refine v_iconst C (v := 0) dX_isArc_16 (by decide) ?_
      exact v_zrr C hr (by decide) (by unfold isArcF; rw [if_neg h1, if_pos h2]) dX_isArc_17
    · skip
      refine v_iconst C (v := 1) dX_isArc_12 (by decide) ?_
      refine v_goto C dX_isArc_13 (tgt := 17) (by decide) ?_
      exact v_zrr C hr (by decide) (by unfold isArcF; rw [if_neg h1, if_neg h2]) dX_isArc_17
set_option maxHeartbeats 4000000 in
set_option maxRecDepth 100000 in
theorem c_isLeaderF (l : Launch) (D : va_G) (cI cZ cJ : ClassId) (b : Nat → Nat) (F : FT) (a : AT) (x : Int32) : Kr l yX_isLeader wX_isLeader ({ frames := 1, cells := 0, slots := 0, locals := 21 } : Room) D vwCl (tyG cI cZ cJ) [.ref (b 0), .int x] (wX cI b F a) (isLeaderF F a x) := by
  intro sz
  refine v_ent (cc := bX_isLeader) (maxL := 2) (ret := (some .boolean)) (Qc := (fun _ _ st oc t => oc = .returned (some (.int (isLeaderF F a x))) ∧ t.heap = st.heap)) (fr := (fun _ _ => False)) (own := RcX) rfl (by decide) rfl (Nat.le_of_ble_eq_true rfl) rfl ?_
  intro p e s m args below meth c A C hr _
  refine v_aload_n C 0 dX_isLeader_0 rfl rfl ?_
  refine v_iload_n C 1 dX_isLeader_1 rfl rfl ?_
  refine v_cVrF (As := [.int x]) C (c_isPartyF l D cI cZ cJ b F a x) (cwV 1 C.2.2.2.2.1 gX_isLeader_X_isParty rfl rfl rfl (by decide +kernel) ⟨Nat.le_of_ble_eq_true rfl, Nat.le_of_ble_eq_true rfl⟩) 0 rfl (T := TcX) (N := 16) rfl rfl rfl (Nat.le_of_ble_eq_true rfl) ⟨Nat.zero_le _, Nat.zero_le _⟩ dX_isLeader_2 ?_
  refine v_if_eq C dX_isLeader_5 (tgt := 24) (by decide) (fun h1 => ?_) (fun h1 => ?_)
  · skip
    refine v_iconst C (v := 0) dX_isLeader_24 (by decide) ?_
    exact v_zrr C hr (by decide) (by unfold isLeaderF; rw [if_pos h1]) dX_isLeader_25
  · skip
    refine v_aload_n C 0 dX_isLeader_8 rfl rfl ?_
    refine v_get C (T := TcX) (N := 16) (ci := 0) (v := .int (F 10)) inX_isLeader_X 0 rfl rfl 10 (by decide) (by decide +kernel) rfl rfl dX_isLeader_9 ?_
    refine v_iload_n C 1 dX_isLeader_12 rfl rfl ?_
    refine v_ishr C dX_isLeader_13 ?_
    refine v_iconst C (v := 1) dX_isLeader_14 (by decide) ?_
    refine v_iand C dX_isLeader_15 ?_
    refine v_iconst C (v := 1) dX_isLeader_16 (by decide) ?_
    refine v_icmp_ne C dX_isLeader_17 (tgt := 24) (by decide) (fun h2 => ?_) (fun h2 => ?_)
    · skip
      refine v_iconst C (v := 0) dX_isLeader_24 (by decide) ?_
      exact v_zrr C hr (by decide) (by unfold isLeaderF; rw [if_neg h1, if_neg h2]) dX_isLeader_25
    · skip
      refine v_iconst C (v := 1) dX_isLeader_20 (by decide) ?_
      refine v_goto C dX_isLeader_21 (tgt := 25) (by decide) ?_
      exact v_zrr C hr (by decide) (by unfold isLeaderF; rw [if_neg h1, if_pos h2]) dX_isLeader_25
set_option maxHeartbeats 4000000 in
set_option maxRecDepth 100000 in
theorem c_conformsF (l : Launch) (D : va_G) (cI cZ cJ : ClassId) (b : Nat → Nat) (F : FT) (a : AT) (x : Int32) : Kr l yX_conforms wX_conforms ({ frames := 0, cells := 0, slots := 0, locals := 0 } : Room) D vwCl (tyG cI cZ cJ) [.ref (b 0), .int x] (wX cI b F a) (conformsF F a x) := by
  intro sz
  refine v_ent (cc := bX_conforms) (maxL := 2) (ret := (some .boolean)) (Qc := (fun _ _ st oc t => oc = .returned (some (.int (conformsF F a x))) ∧ t.heap = st.heap)) (fr := (fun _ _ => False)) (own := RcX) rfl (by decide) rfl (Nat.le_of_ble_eq_true rfl) rfl ?_
  intro p e s m args below meth c A C hr _
  refine v_aload_n C 0 dX_conforms_0 rfl rfl ?_
  refine v_get C (T := TcX) (N := 16) (ci := 0) (v := .int (F 14)) inX_conforms_X 0 rfl rfl 14 (by decide) (by decide +kernel) rfl rfl dX_conforms_1 ?_
  refine v_iload_n C 1 dX_conforms_4 rfl rfl ?_
  refine v_ishr C dX_conforms_5 ?_
  refine v_iconst C (v := 1) dX_conforms_6 (by decide) ?_
  refine v_iand C dX_conforms_7 ?_
  refine v_if_ne C dX_conforms_8 (tgt := 15) (by decide) (fun h1 => ?_) (fun h1 => ?_)
  · skip
    refine v_iconst C (v := 0) dX_conforms_15 (by decide) ?_
    exact v_zrr C hr (by decide) (by unfold conformsF; rw [if_neg h1]) dX_conforms_16
  · skip
    refine v_iconst C (v := 1) dX_conforms_11 (by decide) ?_
    refine v_goto C dX_conforms_12 (tgt := 16) (by decide) ?_
    exact v_zrr C hr (by decide) (by unfold conformsF; rw [if_pos h1]) dX_conforms_16
set_option maxHeartbeats 4000000 in
set_option maxRecDepth 100000 in
theorem c_isOverF (l : Launch) (D : va_G) (cI cZ cJ : ClassId) (b : Nat → Nat) (F : FT) (a : AT) : Kr l yX_isOver wX_isOver ({ frames := 0, cells := 0, slots := 0, locals := 0 } : Room) D vwCl (tyG cI cZ cJ) [.ref (b 0)] (wX cI b F a) (isOverF F a) := by
  intro sz
  refine v_ent (cc := bX_isOver) (maxL := 1) (ret := (some .boolean)) (Qc := (fun _ _ st oc t => oc = .returned (some (.int (isOverF F a))) ∧ t.heap = st.heap)) (fr := (fun _ _ => False)) (own := RcX) rfl (by decide) rfl (Nat.le_of_ble_eq_true rfl) rfl ?_
  intro p e s m args below meth c A C hr _
  refine v_aload_n C 0 dX_isOver_0 rfl rfl ?_
  refine v_get C (T := TcX) (N := 16) (ci := 0) (v := .int (F 13)) inX_isOver_X 0 rfl rfl 13 (by decide) (by decide +kernel) rfl rfl dX_isOver_1 ?_
  refine v_aload_n C 0 dX_isOver_4 rfl rfl ?_
  refine v_get C (T := TcX) (N := 16) (ci := 0) (v := .int (F 12)) inX_isOver_X 0 rfl rfl 12 (by decide) (by decide +kernel) rfl rfl dX_isOver_5 ?_
  refine v_iconst C (v := 2) dX_isOver_8 (by decide) ?_
  refine v_aload_n C 0 dX_isOver_9 rfl rfl ?_
  refine v_get C (T := TcX) (N := 16) (ci := 0) (v := .int (F 11)) inX_isOver_X 0 rfl rfl 11 (by decide) (by decide +kernel) rfl rfl dX_isOver_10 ?_
  refine v_imul C dX_isOver_13 ?_
  refine v_aload_n C 0 dX_isOver_14 rfl rfl ?_
  refine v_get C (T := TcX) (N := 16) (ci := 0) (v := .int (F 1)) inX_isOver_X 0 rfl rfl 1 (by decide) (by decide +kernel) rfl rfl dX_isOver_15 ?_
  refine v_imul C dX_isOver_18 ?_
  refine v_iadd C dX_isOver_19 ?_
  refine v_icmp_lt C dX_isOver_20 (tgt := 27) (by decide) (fun h1 => ?_) (fun h1 => ?_)
  · skip
    refine v_iconst C (v := 0) dX_isOver_27 (by decide) ?_
    exact v_zrr C hr (by decide) (by unfold isOverF; rw [if_pos h1]) dX_isOver_28
  · skip
    refine v_iconst C (v := 1) dX_isOver_23 (by decide) ?_
    refine v_goto C dX_isOver_24 (tgt := 28) (by decide) ?_
    exact v_zrr C hr (by decide) (by unfold isOverF; rw [if_neg h1]) dX_isOver_28
set_option maxHeartbeats 4000000 in
set_option maxRecDepth 100000 in
theorem c_isInTimeF (l : Launch) (D : va_G) (cI cZ cJ : ClassId) (b : Nat → Nat) (F : FT) (a : AT) (row : Int32) : Kr l yX_isInTime wX_isInTime ({ frames := 1, cells := 0, slots := 0, locals := 21 } : Room) D vwCl (tyG cI cZ cJ) [.ref (b 0), .int row] (wX cI b F a) (isInTimeF F a row) := by
  intro sz
  refine v_ent (cc := bX_isInTime) (maxL := 3) (ret := (some .boolean)) (Qc := (fun _ _ st oc t => oc = .returned (some (.int (isInTimeF F a row))) ∧ t.heap = st.heap)) (fr := (fun _ _ => False)) (own := RcX) rfl (by decide) rfl (Nat.le_of_ble_eq_true rfl) rfl ?_
  intro p e s m args below meth c A C hr _
  refine v_iload_n C 1 dX_isInTime_0 rfl rfl ?_
  refine v_cSr0 (As := [.int row]) C (c_rSize l D cI cZ cJ row) (va_cwS 1 C.2.2.2.2.1 gX_isInTime_R_size rfl rfl rfl (by decide +kernel) ⟨Nat.le_of_ble_eq_true rfl, Nat.le_of_ble_eq_true rfl⟩) rfl rfl (Nat.le_of_ble_eq_true rfl) ⟨Nat.zero_le _, Nat.zero_le _⟩ dX_isInTime_1 ?_
  refine v_iconst C (v := 1) dX_isInTime_4 (by decide) ?_
  refine v_isub C dX_isInTime_5 ?_
  refine v_istore_n C (lv' := [(0, .ref (b 0)), (1, .int row), (2, .int ((rSize row) - (1 : Int32)))]) [1, 2, 0] dX_isInTime_6 rfl (by decide) rfl ?_
  refine v_aload_n C 0 dX_isInTime_7 rfl rfl ?_
  refine v_get C (T := TcX) (N := 16) (ci := 0) (v := .int (F 13)) inX_isInTime_X 0 rfl rfl 13 (by decide) (by decide +kernel) rfl rfl dX_isInTime_8 ?_
  refine v_aload_n C 0 dX_isInTime_11 rfl rfl ?_
  refine v_get C (T := TcX) (N := 16) (ci := 0) (v := .int (F 12)) inX_isInTime_X 0 rfl rfl 12 (by decide) (by decide +kernel) rfl rfl dX_isInTime_12 ?_
  refine v_aload_n C 0 dX_isInTime_15 rfl rfl ?_
  refine v_get C (T := TcX) (N := 16) (ci := 0) (v := .int (F 11)) inX_isInTime_X 0 rfl rfl 11 (by decide) (by decide +kernel) rfl rfl dX_isInTime_16 ?_
  refine v_iload_n C 2 dX_isInTime_19 rfl rfl ?_
  refine v_iadd C dX_isInTime_20 ?_
  refine v_aload_n C 0 dX_isInTime_21 rfl rfl ?_
  refine v_get C (T := TcX) (N := 16) (ci := 0) (v := .int (F 1)) inX_isInTime_X 0 rfl rfl 1 (by decide) (by decide +kernel) rfl rfl dX_isInTime_22 ?_
  refine v_imul C dX_isInTime_25 ?_
  refine v_iadd C dX_isInTime_26 ?_
  refine v_icmp_ge C dX_isInTime_27 (tgt := 34) (by decide) (fun h1 => ?_) (fun h1 => ?_)
  · skip
    refine v_iconst C (v := 0) dX_isInTime_34 (by decide) ?_
    exact v_zrr C hr (by decide) (by unfold isInTimeF; rw [if_pos h1]) dX_isInTime_35
  · skip
    refine v_iconst C (v := 1) dX_isInTime_30 (by decide) ?_
    refine v_goto C dX_isInTime_31 (tgt := 35) (by decide) ?_
    exact v_zrr C hr (by decide) (by unfold isInTimeF; rw [if_neg h1]) dX_isInTime_35
set_option maxHeartbeats 4000000 in
set_option maxRecDepth 100000 in
theorem c_hashkeyF (l : Launch) (D : va_G) (cI cZ cJ : ClassId) (b : Nat → Nat) (F : FT) (a : AT) (n : Nat) (P : Nat) (x : Int32) (y : Int32) (hn : F 8 = nI n) (hn4 : n ≤ 14) (hp : F 0 = nI P) (hp6 : P ≤ 6) : Kr l yX_hashkey wX_hashkey ({ frames := 1, cells := 0, slots := 0, locals := 21 } : Room) D vwCl (tyG cI cZ cJ) [.ref (b 0), .int x, .int y] (wX cI b F a) (hashkeyF F a x y) := by
  intro sz
  refine v_ent (cc := bX_hashkey) (maxL := 3) (ret := (some .int)) (Qc := (fun _ _ st oc t => oc = .returned (some (.int (hashkeyF F a x y))) ∧ t.heap = st.heap)) (fr := (fun _ _ => False)) (own := RcX) rfl (by decide) rfl (Nat.le_of_ble_eq_true rfl) rfl ?_
  intro p e s m args below meth c A C hr _
  refine v_aload_n C 0 dX_hashkey_0 rfl rfl ?_
  refine v_iload_n C 1 dX_hashkey_1 rfl rfl ?_
  refine v_cVrF (As := [.int x]) C (c_isArcF l D cI cZ cJ b F a x) (cwV 1 C.2.2.2.2.1 gX_hashkey_X_isArc rfl rfl rfl (by decide +kernel) ⟨Nat.le_of_ble_eq_true rfl, Nat.le_of_ble_eq_true rfl⟩) 0 rfl (T := TcX) (N := 16) rfl rfl rfl (Nat.le_of_ble_eq_true rfl) ⟨Nat.zero_le _, Nat.zero_le _⟩ dX_hashkey_2 ?_
  refine v_if_eq C dX_hashkey_5 (tgt := 30) (by decide) (fun h1 => ?_) (fun h1 => ?_)
  · skip
    refine v_iconst C (v := 0) dX_hashkey_30 (by decide) ?_
    exact v_irr C hr (by unfold hashkeyF; rw [if_pos h1]) dX_hashkey_31
  · skip
    refine v_aload_n C 0 dX_hashkey_8 rfl rfl ?_
    refine v_iload_n C 2 dX_hashkey_9 rfl rfl ?_
    refine v_cVrF (As := [.int y]) C (c_isPartyF l D cI cZ cJ b F a y) (cwV 1 C.2.2.2.2.1 gX_hashkey_X_isParty rfl rfl rfl (by decide +kernel) ⟨Nat.le_of_ble_eq_true rfl, Nat.le_of_ble_eq_true rfl⟩) 0 rfl (T := TcX) (N := 16) rfl rfl rfl (Nat.le_of_ble_eq_true rfl) ⟨Nat.zero_le _, Nat.zero_le _⟩ dX_hashkey_10 ?_
    refine v_if_eq C dX_hashkey_13 (tgt := 30) (by decide) (fun h2 => ?_) (fun h2 => ?_)
    · skip
      refine v_iconst C (v := 0) dX_hashkey_30 (by decide) ?_
      exact v_irr C hr (by unfold hashkeyF; rw [if_neg h1, if_pos h2]) dX_hashkey_31
    · skip
      refine v_aload_n C 0 dX_hashkey_16 rfl rfl ?_
      refine v_get C (T := TcX) (N := 16) (ci := 0) (v := .ref (b 6)) inX_hashkey_X 0 rfl rfl 7 (by decide) (by decide +kernel) rfl rfl dX_hashkey_17 ?_
      refine v_iload_n C 1 dX_hashkey_20 rfl rfl ?_
      refine v_bipush C (v := 6) dX_hashkey_21 (by decide) ?_
      refine v_imul C dX_hashkey_23 ?_
      refine v_iload_n C 2 dX_hashkey_24 rfl rfl ?_
      refine v_iadd C dX_hashkey_25 ?_
      refine v_iald C 6 0 (f := a 7) (y := (a 7) (((x * (6 : Int32)) + y).toNatClampNeg)) (j := ((x * (6 : Int32)) + y).toNatClampNeg) rfl rfl rfl rfl (vp_key (by assumption) (by assumption) hn hn4 hp hp6) dX_hashkey_26 ?_
      refine v_goto C dX_hashkey_27 (tgt := 31) (by decide) ?_
      exact v_irr C hr (by unfold hashkeyF; rw [if_neg h1, if_neg h2]) dX_hashkey_31
set_option maxHeartbeats 4000000 in
set_option maxRecDepth 100000 in
theorem c_isUnlockedF (l : Launch) (D : va_G) (cI cZ cJ : ClassId) (b : Nat → Nat) (F : FT) (a : AT) (x : Int32) (y : Int32) (hx : vp_in x 14) : Kr l yX_isUnlocked wX_isUnlocked ({ frames := 0, cells := 0, slots := 0, locals := 0 } : Room) D vwCl (tyG cI cZ cJ) [.ref (b 0), .int x, .int y] (wX cI b F a) (isUnlockedF F a x y) := by
  intro sz
  refine v_ent (cc := bX_isUnlocked) (maxL := 3) (ret := (some .boolean)) (Qc := (fun _ _ st oc t => oc = .returned (some (.int (isUnlockedF F a x y))) ∧ t.heap = st.heap)) (fr := (fun _ _ => False)) (own := RcX) rfl (by decide) rfl (Nat.le_of_ble_eq_true rfl) rfl ?_
  intro p e s m args below meth c A C hr _
  refine v_aload_n C 0 dX_isUnlocked_0 rfl rfl ?_
  refine v_get C (T := TcX) (N := 16) (ci := 0) (v := .ref (b 5)) inX_isUnlocked_X 0 rfl rfl 6 (by decide) (by decide +kernel) rfl rfl dX_isUnlocked_1 ?_
  refine v_iload_n C 1 dX_isUnlocked_4 rfl rfl ?_
  refine v_iald C 5 0 (f := a 6) (y := (a 6) x.toNatClampNeg) (j := x.toNatClampNeg) rfl rfl rfl rfl hx dX_isUnlocked_5 ?_
  refine v_iload_n C 2 dX_isUnlocked_6 rfl rfl ?_
  refine v_ishr C dX_isUnlocked_7 ?_
  refine v_iconst C (v := 1) dX_isUnlocked_8 (by decide) ?_
  refine v_iand C dX_isUnlocked_9 ?_
  refine v_iconst C (v := 1) dX_isUnlocked_10 (by decide) ?_
  refine v_icmp_ne C dX_isUnlocked_11 (tgt := 18) (by decide) (fun h1 => ?_) (fun h1 => ?_)
  · skip
    refine v_iconst C (v := 0) dX_isUnlocked_18 (by decide) ?_
    exact v_zrr C hr (by decide) (by unfold isUnlockedF; rw [if_neg h1]) dX_isUnlocked_19
  · skip
    refine v_iconst C (v := 1) dX_isUnlocked_14 (by decide) ?_
    refine v_goto C dX_isUnlocked_15 (tgt := 19) (by decide) ?_
    exact v_zrr C hr (by decide) (by unfold isUnlockedF; rw [if_pos h1]) dX_isUnlocked_19
set_option maxHeartbeats 4000000 in
set_option maxRecDepth 100000 in
theorem c_unlockF (l : Launch) (D : va_G) (cI cZ cJ : ClassId) (b : Nat → Nat) (F : FT) (a : AT) (x : Int32) (y : Int32) (row : Int32) (hx : vp_in x 14) (hy : vp_in (x * 6 + y) 84) : Kv l yX_unlock wX_unlock ({ frames := 0, cells := 0, slots := 0, locals := 0 } : Room) D vwCl (tyG cI cZ cJ) [.ref (b 0), .int x, .int y, .int row] (wX cI b F a) (wX cI b F (unlockF F a x y row)) := by
  intro sz
  refine v_ent (cc := bX_unlock) (maxL := 4) (ret := none) (Qc := (fun A => va_Qv (fun (_ : Unit) => True) (fun _ => wB D vwCl (tyG cI cZ cJ) A (wX cI b F (unlockF F a x y row))) A)) (fr := (fun A => A)) (own := RcX) rfl (by decide) rfl (Nat.le_of_ble_eq_true rfl) rfl ?_
  intro p e s m args below meth c A C hr _
  refine v_free ?_
  refine v_aload_n C 0 dX_unlock_0 rfl rfl ?_
  refine v_get C (T := TcX) (N := 16) (ci := 0) (v := .ref (b 6)) inX_unlock_X 0 rfl rfl 7 (by decide) (by decide +kernel) rfl rfl dX_unlock_1 ?_
  refine v_iload_n C 1 dX_unlock_4 rfl rfl ?_
  refine v_bipush C (v := 6) dX_unlock_5 (by decide) ?_
  refine v_imul C dX_unlock_7 ?_
  refine v_iload_n C 2 dX_unlock_8 rfl rfl ?_
  refine v_iadd C dX_unlock_9 ?_
  refine v_iload_n C 3 dX_unlock_10 rfl rfl ?_
  obtain ⟨zz1, hzz1⟩ : ∃ z9, upd (a 7) (((x * (6 : Int32)) + y).toNatClampNeg) row = z9 := ⟨_, rfl⟩
  refine v_iast C 6 0 (f := a 7) (j := ((x * (6 : Int32)) + y).toNatClampNeg) (f1 := zz1) rfl rfl rfl hzz1 hy dX_unlock_11 (w1 := wX cI b F (updA a 7 zz1)) rfl ?_
  refine v_aload_n C 0 dX_unlock_12 rfl rfl ?_
  refine v_get C (T := TcX) (N := 16) (ci := 0) (v := .ref (b 5)) inX_unlock_X 0 rfl rfl 6 (by decide) (by decide +kernel) rfl rfl dX_unlock_13 ?_
  refine v_iload_n C 1 dX_unlock_16 rfl rfl ?_
  refine v_dup2 C dX_unlock_17 rfl rfl ?_
  refine v_iald C 5 0 (f := a 6) (y := (a 6) x.toNatClampNeg) (j := x.toNatClampNeg) rfl rfl rfl rfl hx dX_unlock_18 ?_
  refine v_iconst C (v := 1) dX_unlock_19 (by decide) ?_
  refine v_iload_n C 2 dX_unlock_20 rfl rfl ?_
  refine v_ishl C dX_unlock_21 ?_
  refine v_ior C dX_unlock_22 ?_
  obtain ⟨zz2, hzz2⟩ : ∃ z9, upd (a 6) x.toNatClampNeg (((a 6) x.toNatClampNeg) ||| ((1 : Int32) <<< (y &&& 31))) = z9 := ⟨_, rfl⟩
  refine v_iast C 5 0 (f := a 6) (j := x.toNatClampNeg) (f1 := zz2) rfl rfl rfl hzz2 hx dX_unlock_23 (w1 := wX cI b F (updA (updA a 7 zz1) 6 zz2)) rfl ?_
  refine v_aload_n C 0 dX_unlock_24 rfl rfl ?_
  refine v_get C (T := TcX) (N := 16) (ci := 0) (v := .ref (b 5)) inX_unlock_X 0 rfl rfl 6 (by decide) (by decide +kernel) rfl rfl dX_unlock_25 ?_
  refine v_iload_n C 1 dX_unlock_28 rfl rfl ?_
  refine v_iald C 5 0 (f := zz2) (y := zz2 x.toNatClampNeg) (j := x.toNatClampNeg) rfl rfl rfl rfl hx dX_unlock_29 ?_
  refine v_aload_n C 0 dX_unlock_30 rfl rfl ?_
  refine v_get C (T := TcX) (N := 16) (ci := 0) (v := .int (F 10)) inX_unlock_X 0 rfl rfl 10 (by decide) (by decide +kernel) rfl rfl dX_unlock_31 ?_
  refine v_icmp_ne C dX_unlock_34 (tgt := 44) (by decide) (fun h1 => ?_) (fun h1 => ?_)
  · skip
    have hE : updA (updA a 7 zz1) 6 zz2 = unlockF F a x y row := (by unfold unlockF; rw [hzz1, hzz2, if_neg h1])
    exact v_vret C hr (by rw [← hE]) dX_unlock_44
  · skip
    refine v_aload_n C 0 dX_unlock_37 rfl rfl ?_
    refine v_get C (T := TcX) (N := 16) (ci := 0) (v := .ref (b 4)) inX_unlock_X 0 rfl rfl 5 (by decide) (by decide +kernel) rfl rfl dX_unlock_38 ?_
    refine v_iload_n C 1 dX_unlock_41 rfl rfl ?_
    refine v_iconst C (v := 2) dX_unlock_42 (by decide) ?_
    obtain ⟨zz3, hzz3⟩ : ∃ z9, upd (a 5) x.toNatClampNeg 2 = z9 := ⟨_, rfl⟩
    refine v_iast C 4 0 (f := a 5) (j := x.toNatClampNeg) (f1 := zz3) rfl rfl rfl hzz3 hx dX_unlock_43 (w1 := wX cI b F (updA (updA (updA a 7 zz1) 6 zz2) 5 zz3)) rfl ?_
    have hE : updA (updA (updA a 7 zz1) 6 zz2) 5 zz3 = unlockF F a x y row := (by unfold unlockF; rw [hzz1, hzz2, hzz3, if_pos h1])
    exact v_vret C hr (by rw [← hE]) dX_unlock_44
set_option maxHeartbeats 4000000 in
set_option maxRecDepth 100000 in
theorem c_mayShowF (l : Launch) (D : va_G) (cI cZ cJ : ClassId) (b : Nat → Nat) (F : FT) (a : AT) (n : Nat) (P : Nat) (x : Int32) (row : Int32) (hn : F 8 = nI n) (hn4 : n ≤ 14) (hp : F 0 = nI P) (hp6 : P ≤ 6) : Kr l yX_mayShow wX_mayShow ({ frames := 2, cells := 0, slots := 0, locals := 43 } : Room) D vwCl (tyG cI cZ cJ) [.ref (b 0), .int x, .int row] (wX cI b F a) (mayShowF F a n P x row) := by
  intro sz
  refine v_ent (cc := bX_mayShow) (maxL := 5) (ret := (some .boolean)) (Qc := (fun _ _ st oc t => oc = .returned (some (.int (mayShowF F a n P x row))) ∧ t.heap = st.heap)) (fr := (fun _ _ => False)) (own := RcX) rfl (by decide) rfl (Nat.le_of_ble_eq_true rfl) rfl ?_
  intro p e s m args below meth c A C hr _
  refine v_iload_n C 2 dX_mayShow_0 rfl rfl ?_
  refine v_cSr0 (As := [.int row]) C (c_rRest l D cI cZ cJ row) (va_cwS 1 C.2.2.2.2.1 gX_mayShow_R_rest rfl rfl rfl (by decide +kernel) ⟨Nat.le_of_ble_eq_true rfl, Nat.le_of_ble_eq_true rfl⟩) rfl rfl (Nat.le_of_ble_eq_true rfl) ⟨Nat.zero_le _, Nat.zero_le _⟩ dX_mayShow_1 ?_
  refine v_istore_n C (lv' := [(0, .ref (b 0)), (1, .int x), (2, .int row), (3, .int (rRest row))]) [1, 2, 3, 0] dX_mayShow_4 rfl (by decide) rfl ?_
  refine v_iload_n C 3 dX_mayShow_5 rfl rfl ?_
  refine v_if_ne C dX_mayShow_6 (tgt := 11) (by decide) (fun h1 => ?_) (fun h1 => ?_)
  · skip
    refine v_iconst C (v := 0) dX_mayShow_11 (by decide) ?_
    refine v_istore C (lv' := [(0, .ref (b 0)), (1, .int x), (2, .int row), (3, .int (rRest row)), (4, .int 0)]) [1, 2, 3, 4, 0] dX_mayShow_12 (by decide) rfl ?_
    refine v_loop0 n (fun (i : Nat) => wX cI b F a) (fun (i : Nat) => [(0, .ref (b 0)), (1, .int x), (2, .int row), (3, .int (rRest row)), (4, .int (nI i))]) (fun (ki i : Nat) => mayShowL F a n P x row ki i = mayShowF F a n P x row) ?_ ?_ n 0  (by omega) (by unfold mayShowF; rw [if_neg h1])
    · skip
      intro ki i hki hIi ihi
      have hIi : mayShowL F a n P x row (ki + 1) i = mayShowF F a n P x row := hIi
      refine v_as (w' := wX cI b F a) (lv' := [(0, .ref (b 0)), (1, .int x), (2, .int row), (3, .int (rRest row)), (4, .int (nI i))]) rfl rfl ?_
      refine v_iload C 4 dX_mayShow_14 rfl ?_
      refine v_aload_n C 0 dX_mayShow_16 rfl rfl ?_
      refine v_get C (T := TcX) (N := 16) (ci := 0) (v := .int (F 8)) inX_mayShow_X 0 rfl rfl 8 (by decide) (by decide +kernel) rfl rfl dX_mayShow_17 ?_
      refine v_top (y := nI n) hn ?_
      refine v_icmp_ge C dX_mayShow_20 (tgt := 42) (by decide) (fun h => absurd h (nI_ge (a := i) (b := n) (by omega) (by omega))) (fun _ => ?_)
      refine v_aload_n C 0 dX_mayShow_23 rfl rfl ?_
      refine v_iload C 4 dX_mayShow_24 rfl ?_
      refine v_iload_n C 1 dX_mayShow_26 rfl rfl ?_
      refine v_cVrF (As := [.int (nI i), .int x]) C (c_hashkeyF l D cI cZ cJ b F a n P (nI i) x hn hn4 hp hp6) (cwV 2 C.2.2.2.2.1 gX_mayShow_X_hashkey rfl rfl rfl (by decide +kernel) ⟨Nat.le_of_ble_eq_true rfl, Nat.le_of_ble_eq_true rfl⟩) 0 rfl (T := TcX) (N := 16) rfl rfl rfl (Nat.le_of_ble_eq_true rfl) ⟨Nat.zero_le _, Nat.zero_le _⟩ dX_mayShow_27 ?_
      refine v_iload_n C 3 dX_mayShow_30 rfl rfl ?_
      refine v_icmp_ne C dX_mayShow_31 (tgt := 36) (by decide) (fun h2 => ?_) (fun h2 => ?_)
      · skip
        refine v_iinc C (v := nI (i + 1)) (lv' := [(0, .ref (b 0)), (1, .int x), (2, .int row), (3, .int (rRest row)), (4, .int (nI (i + 1)))]) 4 [1, 2, 3, 4, 0] dX_mayShow_36 rfl (nI_1 i) (by decide) rfl ?_
        refine v_goto C dX_mayShow_39 (tgt := 14) (by decide) ?_
        have hL : mayShowL F a n P x row ki (i + 1) = mayShowF F a n P x row := (by rw [← hIi]; simp only [mayShowL]; rw [if_neg h2])
        exact ihi  hL
      · skip
        refine v_iconst C (v := 1) dX_mayShow_34 (by decide) ?_
        exact v_zrr C hr (by decide) (by rw [← hIi]; simp only [mayShowL]; rw [if_pos h2]) dX_mayShow_35
    · skip
      intro hIi
      have hIi : mayShowL F a n P x row 0 n = mayShowF F a n P x row := hIi
      refine v_as (w' := wX cI b F a) (lv' := [(0, .ref (b 0)), (1, .int x), (2, .int row), (3, .int (rRest row)), (4, .int (nI n))]) rfl rfl ?_
      refine v_iload C 4 dX_mayShow_14 rfl ?_
      refine v_aload_n C 0 dX_mayShow_16 rfl rfl ?_
      refine v_get C (T := TcX) (N := 16) (ci := 0) (v := .int (F 8)) inX_mayShow_X 0 rfl rfl 8 (by decide) (by decide +kernel) rfl rfl dX_mayShow_17 ?_
      refine v_top (y := nI n) hn ?_
      refine v_icmp_ge C dX_mayShow_20 (tgt := 42) (by decide) (fun _ => ?_) (fun h => absurd (nI_le (a := n) (b := n) (by omega) (by omega)) h)
      refine v_iconst C (v := 0) dX_mayShow_42 (by decide) ?_
      exact v_zrr C hr (by decide) (by rw [← hIi]; simp only [mayShowL]) dX_mayShow_43
  · skip
    refine v_iconst C (v := 1) dX_mayShow_9 (by decide) ?_
    exact v_zrr C hr (by decide) (by unfold mayShowF; rw [if_pos h1]) dX_mayShow_10
set_option maxHeartbeats 4000000 in
set_option maxRecDepth 100000 in
theorem c_isSecuredF (l : Launch) (D : va_G) (cI cZ cJ : ClassId) (b : Nat → Nat) (F : FT) (a : AT) (n : Nat) (x : Int32) (hn : F 8 = nI n) (hn4 : n ≤ 14) : Kr l yX_isSecured wX_isSecured ({ frames := 0, cells := 0, slots := 0, locals := 0 } : Room) D vwCl (tyG cI cZ cJ) [.ref (b 0), .int x] (wX cI b F a) (isSecuredF F a n x) := by
  intro sz
  refine v_ent (cc := bX_isSecured) (maxL := 3) (ret := (some .boolean)) (Qc := (fun _ _ st oc t => oc = .returned (some (.int (isSecuredF F a n x))) ∧ t.heap = st.heap)) (fr := (fun _ _ => False)) (own := RcX) rfl (by decide) rfl (Nat.le_of_ble_eq_true rfl) rfl ?_
  intro p e s m args below meth c A C hr _
  refine v_iconst C (v := 0) dX_isSecured_0 (by decide) ?_
  refine v_istore_n C (lv' := [(0, .ref (b 0)), (1, .int x), (2, .int 0)]) [1, 2, 0] dX_isSecured_1 rfl (by decide) rfl ?_
  refine v_loop0 n (fun (i : Nat) => wX cI b F a) (fun (i : Nat) => [(0, .ref (b 0)), (1, .int x), (2, .int (nI i))]) (fun (ki i : Nat) => isSecuredL F a n x ki i = isSecuredF F a n x) ?_ ?_ n 0  (by omega) (by unfold isSecuredF; rfl)
  · skip
    intro ki i hki hIi ihi
    have hIi : isSecuredL F a n x (ki + 1) i = isSecuredF F a n x := hIi
    refine v_as (w' := wX cI b F a) (lv' := [(0, .ref (b 0)), (1, .int x), (2, .int (nI i))]) rfl rfl ?_
    refine v_iload_n C 2 dX_isSecured_2 rfl rfl ?_
    refine v_aload_n C 0 dX_isSecured_3 rfl rfl ?_
    refine v_get C (T := TcX) (N := 16) (ci := 0) (v := .int (F 8)) inX_isSecured_X 0 rfl rfl 8 (by decide) (by decide +kernel) rfl rfl dX_isSecured_4 ?_
    refine v_top (y := nI n) hn ?_
    refine v_icmp_ge C dX_isSecured_7 (tgt := 48) (by decide) (fun h => absurd h (nI_ge (a := i) (b := n) (by omega) (by omega))) (fun _ => ?_)
    refine v_aload_n C 0 dX_isSecured_10 rfl rfl ?_
    refine v_get C (T := TcX) (N := 16) (ci := 0) (v := .ref (b 3)) inX_isSecured_X 0 rfl rfl 4 (by decide) (by decide +kernel) rfl rfl dX_isSecured_11 ?_
    refine v_iload_n C 2 dX_isSecured_14 rfl rfl ?_
    refine v_iald C 3 0 (f := a 4) (y := (a 4) i) (j := i) rfl rfl (nI_clamp (by omega)) rfl (vp_in_nI (by omega) (by decide)) dX_isSecured_15 ?_
    refine v_iload_n C 1 dX_isSecured_16 rfl rfl ?_
    refine v_icmp_ne C dX_isSecured_17 (tgt := 42) (by decide) (fun h1 => ?_) (fun h1 => ?_)
    · skip
      refine v_iinc C (v := nI (i + 1)) (lv' := [(0, .ref (b 0)), (1, .int x), (2, .int (nI (i + 1)))]) 2 [1, 2, 0] dX_isSecured_42 rfl (nI_1 i) (by decide) rfl ?_
      refine v_goto C dX_isSecured_45 (tgt := 2) (by decide) ?_
      have hL : isSecuredL F a n x ki (i + 1) = isSecuredF F a n x := (by rw [← hIi]; simp only [isSecuredL]; rw [if_neg h1])
      exact ihi  hL
    · skip
      refine v_aload_n C 0 dX_isSecured_20 rfl rfl ?_
      refine v_get C (T := TcX) (N := 16) (ci := 0) (v := .ref (b 4)) inX_isSecured_X 0 rfl rfl 5 (by decide) (by decide +kernel) rfl rfl dX_isSecured_21 ?_
      refine v_iload_n C 2 dX_isSecured_24 rfl rfl ?_
      refine v_iald C 4 0 (f := a 5) (y := (a 5) i) (j := i) rfl rfl (nI_clamp (by omega)) rfl (vp_in_nI (by omega) (by decide)) dX_isSecured_25 ?_
      refine v_iconst C (v := 1) dX_isSecured_26 (by decide) ?_
      refine v_icmp_eq C dX_isSecured_27 (tgt := 42) (by decide) (fun h2 => ?_) (fun h2 => ?_)
      · skip
        refine v_iinc C (v := nI (i + 1)) (lv' := [(0, .ref (b 0)), (1, .int x), (2, .int (nI (i + 1)))]) 2 [1, 2, 0] dX_isSecured_42 rfl (nI_1 i) (by decide) rfl ?_
        refine v_goto C dX_isSecured_45 (tgt := 2) (by decide) ?_
        have hL : isSecuredL F a n x ki (i + 1) = isSecuredF F a n x := (by rw [← hIi]; simp only [isSecuredL]; rw [if_pos h1, if_pos h2])
        exact ihi  hL
      · skip
        refine v_aload_n C 0 dX_isSecured_30 rfl rfl ?_
        refine v_get C (T := TcX) (N := 16) (ci := 0) (v := .ref (b 4)) inX_isSecured_X 0 rfl rfl 5 (by decide) (by decide +kernel) rfl rfl dX_isSecured_31 ?_
        refine v_iload_n C 2 dX_isSecured_34 rfl rfl ?_
        refine v_iald C 4 0 (f := a 5) (y := (a 5) i) (j := i) rfl rfl (nI_clamp (by omega)) rfl (vp_in_nI (by omega) (by decide)) dX_isSecured_35 ?_
        refine v_iconst C (v := 2) dX_isSecured_36 (by decide) ?_
        refine v_icmp_eq C dX_isSecured_37 (tgt := 42) (by decide) (fun h3 => ?_) (fun h3 => ?_)
        · skip
          refine v_iinc C (v := nI (i + 1)) (lv' := [(0, .ref (b 0)), (1, .int x), (2, .int (nI (i + 1)))]) 2 [1, 2, 0] dX_isSecured_42 rfl (nI_1 i) (by decide) rfl ?_
          refine v_goto C dX_isSecured_45 (tgt := 2) (by decide) ?_
          have hL : isSecuredL F a n x ki (i + 1) = isSecuredF F a n x := (by rw [← hIi]; simp only [isSecuredL]; rw [if_pos h1, if_neg h2, if_pos h3])
          exact ihi  hL
        · skip
          refine v_iconst C (v := 0) dX_isSecured_40 (by decide) ?_
          exact v_zrr C hr (by decide) (by rw [← hIi]; simp only [isSecuredL]; rw [if_pos h1, if_neg h2, if_neg h3]) dX_isSecured_41
  · skip
    intro hIi
    have hIi : isSecuredL F a n x 0 n = isSecuredF F a n x := hIi
    refine v_as (w' := wX cI b F a) (lv' := [(0, .ref (b 0)), (1, .int x), (2, .int (nI n))]) rfl rfl ?_
    refine v_iload_n C 2 dX_isSecured_2 rfl rfl ?_
    refine v_aload_n C 0 dX_isSecured_3 rfl rfl ?_
    refine v_get C (T := TcX) (N := 16) (ci := 0) (v := .int (F 8)) inX_isSecured_X 0 rfl rfl 8 (by decide) (by decide +kernel) rfl rfl dX_isSecured_4 ?_
    refine v_top (y := nI n) hn ?_
    refine v_icmp_ge C dX_isSecured_7 (tgt := 48) (by decide) (fun _ => ?_) (fun h => absurd (nI_le (a := n) (b := n) (by omega) (by omega)) h)
    refine v_iconst C (v := 1) dX_isSecured_48 (by decide) ?_
    exact v_zrr C hr (by decide) (by rw [← hIi]; simp only [isSecuredL]) dX_isSecured_49

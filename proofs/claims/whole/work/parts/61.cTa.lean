set_option maxHeartbeats 4000000 in
set_option maxRecDepth 100000 in
theorem c_stateF (l : Launch) (D : va_G) (cI cZ cJ : ClassId) (b : Nat → Nat) (F : FT) (a : AT) (n : Nat) (x : Int32) (hn : F 8 = nI n) (hn4 : n ≤ 14) (hlt : l.stackTraces = false) : Kxi l yX_state tX_state ({ frames := 6, cells := 1, slots := 6, locals := 90 } : Room) D vwCl (tyG cI cZ cJ) [.ref (b 0), .int x] (wX cI b F a) (exN ((stateF F a x).1)) ((stateF F a x).2) (wX cI b F a) := by
  intro sz
  refine v_entX (cc := bX_state) (maxL := 2) (ret := (some .int)) (Qc := (fun A => va_Qi (fun (x9 : Int32) (_ : Unit) => x9 = (stateF F a x).2 ∧ (exN ((stateF F a x).1)) = none) (fun _ => wB D vwCl (tyG cI cZ cJ) A (wX cI b F a)) A)) (Xc := fun A => xQ D vwCl (tyG cI cZ cJ) (exN ((stateF F a x).1)) (wX cI b F a) A) (own := RcX) rfl (by decide) rfl (Nat.le_of_ble_eq_true rfl) rfl ?_
  intro p e s m args below meth c A C hr hX htab
  refine v_aload_n C 0 dX_state_0 rfl rfl ?_
  refine v_iload_n C 1 dX_state_1 rfl rfl ?_
  refine v_cVrF (As := [.int x]) C (c_isArcF l D cI cZ cJ b F a x) (cwV 1 C.2.2.2.2.1 gX_state_X_isArc rfl rfl rfl (by decide +kernel) ⟨Nat.le_of_ble_eq_true rfl, Nat.le_of_ble_eq_true rfl⟩) 0 rfl (T := TcX) (N := 16) rfl rfl rfl (Nat.le_of_ble_eq_true rfl) ⟨Nat.zero_le _, Nat.zero_le _⟩ dX_state_2 ?_
  refine v_if_ne C dX_state_5 (tgt := 18) (by decide) (fun h1 => ?_) (fun h1 => ?_)
  · skip
    have hx : vp_in x 14 := vp_arc (F := F) (a := a) (by assumption) hn hn4
    refine v_aload_n C 0 dX_state_18 rfl rfl ?_
    refine v_get C (T := TcX) (N := 16) (ci := 0) (v := .ref (b 4)) inX_state_X 0 rfl rfl 5 (by decide) (by decide +kernel) rfl rfl dX_state_19 ?_
    refine v_iload_n C 1 dX_state_22 rfl rfl ?_
    refine v_iald C 4 0 (f := a 5) (y := (a 5) x.toNatClampNeg) (j := x.toNatClampNeg) rfl rfl rfl rfl hx dX_state_23 ?_
    have hE : (0, (a 5) x.toNatClampNeg) = stateF F a x := (by unfold stateF; rw [if_neg h1])
    exact v_xir C hr (by rw [← hE]) (by rw [← hE]; rfl) rfl dX_state_24
  · skip
    have hE : (4, 0) = stateF F a x := (by unfold stateF; rw [if_pos h1])
    exact v_thr C hlt hX htab (cls := eB) (text := "no such arc") (by decide +kernel) (thr_in (by decide +kernel)) (thr_in (by decide +kernel)) (by decide +kernel) (fun w h => thr_in (thB1 w h)) thB2 thB3 dX_state_8 dX_state_11 dX_state_12 dX_state_14 dX_state_17 (Nat.le_of_ble_eq_true rfl) (Nat.le_of_ble_eq_true rfl) (Nat.le_of_ble_eq_true rfl) (Nat.le_of_ble_eq_true rfl) (by rw [← hE]; rfl)
set_option maxHeartbeats 4000000 in
set_option maxRecDepth 100000 in
theorem c_openF (l : Launch) (D : va_G) (cI cZ cJ : ClassId) (b : Nat → Nat) (F : FT) (a : AT) (n : Nat) (x : Int32) (hn : F 8 = nI n) (hn4 : n ≤ 14) (hlt : l.stackTraces = false) : Kxi l yX_open tX_open ({ frames := 6, cells := 1, slots := 6, locals := 90 } : Room) D vwCl (tyG cI cZ cJ) [.ref (b 0), .int x] (wX cI b F a) (exN ((openF F a x).1)) ((openF F a x).2) (wX cI b F a) := by
  intro sz
  refine v_entX (cc := bX_open) (maxL := 2) (ret := (some .int)) (Qc := (fun A => va_Qi (fun (x9 : Int32) (_ : Unit) => x9 = (openF F a x).2 ∧ (exN ((openF F a x).1)) = none) (fun _ => wB D vwCl (tyG cI cZ cJ) A (wX cI b F a)) A)) (Xc := fun A => xQ D vwCl (tyG cI cZ cJ) (exN ((openF F a x).1)) (wX cI b F a) A) (own := RcX) rfl (by decide) rfl (Nat.le_of_ble_eq_true rfl) rfl ?_
  intro p e s m args below meth c A C hr hX htab
  refine v_aload_n C 0 dX_open_0 rfl rfl ?_
  refine v_iload_n C 1 dX_open_1 rfl rfl ?_
  refine v_cVrF (As := [.int x]) C (c_isArcF l D cI cZ cJ b F a x) (cwV 1 C.2.2.2.2.1 gX_open_X_isArc rfl rfl rfl (by decide +kernel) ⟨Nat.le_of_ble_eq_true rfl, Nat.le_of_ble_eq_true rfl⟩) 0 rfl (T := TcX) (N := 16) rfl rfl rfl (Nat.le_of_ble_eq_true rfl) ⟨Nat.zero_le _, Nat.zero_le _⟩ dX_open_2 ?_
  refine v_if_ne C dX_open_5 (tgt := 18) (by decide) (fun h1 => ?_) (fun h1 => ?_)
  · skip
    have hx : vp_in x 14 := vp_arc (F := F) (a := a) (by assumption) hn hn4
    refine v_aload_n C 0 dX_open_18 rfl rfl ?_
    refine v_get C (T := TcX) (N := 16) (ci := 0) (v := .ref (b 5)) inX_open_X 0 rfl rfl 6 (by decide) (by decide +kernel) rfl rfl dX_open_19 ?_
    refine v_iload_n C 1 dX_open_22 rfl rfl ?_
    refine v_iald C 5 0 (f := a 6) (y := (a 6) x.toNatClampNeg) (j := x.toNatClampNeg) rfl rfl rfl rfl hx dX_open_23 ?_
    have hE : (0, (a 6) x.toNatClampNeg) = openF F a x := (by unfold openF; rw [if_neg h1])
    exact v_xir C hr (by rw [← hE]) (by rw [← hE]; rfl) rfl dX_open_24
  · skip
    have hE : (4, 0) = openF F a x := (by unfold openF; rw [if_pos h1])
    exact v_thr C hlt hX htab (cls := eB) (text := "no such arc") (by decide +kernel) (thr_in (by decide +kernel)) (thr_in (by decide +kernel)) (by decide +kernel) (fun w h => thr_in (thB1 w h)) thB2 thB3 dX_open_8 dX_open_11 dX_open_12 dX_open_14 dX_open_17 (Nat.le_of_ble_eq_true rfl) (Nat.le_of_ble_eq_true rfl) (Nat.le_of_ble_eq_true rfl) (Nat.le_of_ble_eq_true rfl) (by rw [← hE]; rfl)
set_option maxHeartbeats 4000000 in
set_option maxRecDepth 100000 in
theorem c_keyF (l : Launch) (D : va_G) (cI cZ cJ : ClassId) (b : Nat → Nat) (F : FT) (a : AT) (n : Nat) (P : Nat) (x : Int32) (y : Int32) (z : Int32) (hn : F 8 = nI n) (hn4 : n ≤ 14) (hp : F 0 = nI P) (hp6 : P ≤ 6) (hlt : l.stackTraces = false) : Kxi l yX_key tX_key ({ frames := 6, cells := 1, slots := 6, locals := 90 } : Room) D vwCl (tyG cI cZ cJ) [.ref (b 0), .int x, .int y, .int z] (wX cI b F a) (exN ((keyF F a x y z).1)) ((keyF F a x y z).2) (wX cI b F a) := by
  intro sz
  refine v_entX (cc := bX_key) (maxL := 4) (ret := (some .int)) (Qc := (fun A => va_Qi (fun (x9 : Int32) (_ : Unit) => x9 = (keyF F a x y z).2 ∧ (exN ((keyF F a x y z).1)) = none) (fun _ => wB D vwCl (tyG cI cZ cJ) A (wX cI b F a)) A)) (Xc := fun A => xQ D vwCl (tyG cI cZ cJ) (exN ((keyF F a x y z).1)) (wX cI b F a) A) (own := RcX) rfl (by decide) rfl (Nat.le_of_ble_eq_true rfl) rfl ?_
  intro p e s m args below meth c A C hr hX htab
  refine v_aload_n C 0 dX_key_0 rfl rfl ?_
  refine v_iload_n C 1 dX_key_1 rfl rfl ?_
  refine v_cVrF (As := [.int x]) C (c_isArcF l D cI cZ cJ b F a x) (cwV 1 C.2.2.2.2.1 gX_key_X_isArc rfl rfl rfl (by decide +kernel) ⟨Nat.le_of_ble_eq_true rfl, Nat.le_of_ble_eq_true rfl⟩) 0 rfl (T := TcX) (N := 16) rfl rfl rfl (Nat.le_of_ble_eq_true rfl) ⟨Nat.zero_le _, Nat.zero_le _⟩ dX_key_2 ?_
  refine v_if_ne C dX_key_5 (tgt := 18) (by decide) (fun h1 => ?_) (fun h1 => ?_)
  · skip
    refine v_aload_n C 0 dX_key_18 rfl rfl ?_
    refine v_iload_n C 1 dX_key_19 rfl rfl ?_
    refine v_iload_n C 2 dX_key_20 rfl rfl ?_
    refine v_cVrF (As := [.int x, .int y]) C (c_hashkeyF l D cI cZ cJ b F a n P x y hn hn4 hp hp6) (cwV 2 C.2.2.2.2.1 gX_key_X_hashkey rfl rfl rfl (by decide +kernel) ⟨Nat.le_of_ble_eq_true rfl, Nat.le_of_ble_eq_true rfl⟩) 0 rfl (T := TcX) (N := 16) rfl rfl rfl (Nat.le_of_ble_eq_true rfl) ⟨Nat.zero_le _, Nat.zero_le _⟩ dX_key_21 ?_
    refine v_iload_n C 3 dX_key_24 rfl rfl ?_
    refine v_cSr0 (As := [.int (hashkeyF F a x y), .int z]) C (c_rParty l D cI cZ cJ (hashkeyF F a x y) z) (va_cwS 2 C.2.2.2.2.1 gX_key_R_party rfl rfl rfl (by decide +kernel) ⟨Nat.le_of_ble_eq_true rfl, Nat.le_of_ble_eq_true rfl⟩) rfl rfl (Nat.le_of_ble_eq_true rfl) ⟨Nat.zero_le _, Nat.zero_le _⟩ dX_key_25 ?_
    have hE : (0, rParty (hashkeyF F a x y) z) = keyF F a x y z := (by unfold keyF; rw [if_neg h1])
    exact v_xir C hr (by rw [← hE]) (by rw [← hE]; rfl) rfl dX_key_28
  · skip
    have hE : (4, 0) = keyF F a x y z := (by unfold keyF; rw [if_pos h1])
    exact v_thr C hlt hX htab (cls := eB) (text := "no such arc") (by decide +kernel) (thr_in (by decide +kernel)) (thr_in (by decide +kernel)) (by decide +kernel) (fun w h => thr_in (thB1 w h)) thB2 thB3 dX_key_8 dX_key_11 dX_key_12 dX_key_14 dX_key_17 (Nat.le_of_ble_eq_true rfl) (Nat.le_of_ble_eq_true rfl) (Nat.le_of_ble_eq_true rfl) (Nat.le_of_ble_eq_true rfl) (by rw [← hE]; rfl)
set_option maxHeartbeats 4000000 in
set_option maxRecDepth 100000 in
theorem c_outcomeF (l : Launch) (D : va_G) (cI cZ cJ : ClassId) (b : Nat → Nat) (F : FT) (a : AT) (n : Nat) (x : Int32) (hn : F 8 = nI n) (hn4 : n ≤ 14) (hlt : l.stackTraces = false) : Kxi l yX_outcome tX_outcome ({ frames := 6, cells := 1, slots := 6, locals := 90 } : Room) D vwCl (tyG cI cZ cJ) [.ref (b 0), .int x] (wX cI b F a) (exN ((outcomeF F a n x).1)) ((outcomeF F a n x).2) (wX cI b F a) := by
  intro sz
  refine v_entX (cc := bX_outcome) (maxL := 4) (ret := (some .int)) (Qc := (fun A => va_Qi (fun (x9 : Int32) (_ : Unit) => x9 = (outcomeF F a n x).2 ∧ (exN ((outcomeF F a n x).1)) = none) (fun _ => wB D vwCl (tyG cI cZ cJ) A (wX cI b F a)) A)) (Xc := fun A => xQ D vwCl (tyG cI cZ cJ) (exN ((outcomeF F a n x).1)) (wX cI b F a) A) (own := RcX) rfl (by decide) rfl (Nat.le_of_ble_eq_true rfl) rfl ?_
  intro p e s m args below meth c A C hr hX htab
  refine v_aload_n C 0 dX_outcome_0 rfl rfl ?_
  refine v_iload_n C 1 dX_outcome_1 rfl rfl ?_
  refine v_cVrF (As := [.int x]) C (c_isPartyF l D cI cZ cJ b F a x) (cwV 1 C.2.2.2.2.1 gX_outcome_X_isParty rfl rfl rfl (by decide +kernel) ⟨Nat.le_of_ble_eq_true rfl, Nat.le_of_ble_eq_true rfl⟩) 0 rfl (T := TcX) (N := 16) rfl rfl rfl (Nat.le_of_ble_eq_true rfl) ⟨Nat.zero_le _, Nat.zero_le _⟩ dX_outcome_2 ?_
  refine v_if_ne C dX_outcome_5 (tgt := 18) (by decide) (fun h1 => ?_) (fun h1 => ?_)
  · skip
    refine v_aload_n C 0 dX_outcome_18 rfl rfl ?_
    refine v_aload_n C 0 dX_outcome_19 rfl rfl ?_
    refine v_get C (T := TcX) (N := 16) (ci := 0) (v := .ref (b 3)) inX_outcome_X 0 rfl rfl 4 (by decide) (by decide +kernel) rfl rfl dX_outcome_20 ?_
    refine v_iload_n C 1 dX_outcome_23 rfl rfl ?_
    refine v_cVrF (As := [.ref (b 3), .int x]) C (c_countPaid4F l D cI cZ cJ b F a n x hn hn4) (cwV 2 C.2.2.2.2.1 gX_outcome_X_countPaid rfl rfl rfl (by decide +kernel) ⟨Nat.le_of_ble_eq_true rfl, Nat.le_of_ble_eq_true rfl⟩) 0 rfl (T := TcX) (N := 16) rfl rfl rfl (Nat.le_of_ble_eq_true rfl) ⟨Nat.zero_le _, Nat.zero_le _⟩ dX_outcome_24 ?_
    refine v_istore_n C (lv' := [(0, .ref (b 0)), (1, .int x), (2, .int (countPaid4F F a n x))]) [1, 2, 0] dX_outcome_27 rfl (by decide) rfl ?_
    refine v_aload_n C 0 dX_outcome_28 rfl rfl ?_
    refine v_aload_n C 0 dX_outcome_29 rfl rfl ?_
    refine v_get C (T := TcX) (N := 16) (ci := 0) (v := .ref (b 2)) inX_outcome_X 0 rfl rfl 3 (by decide) (by decide +kernel) rfl rfl dX_outcome_30 ?_
    refine v_iload_n C 1 dX_outcome_33 rfl rfl ?_
    refine v_cVrF (As := [.ref (b 2), .int x]) C (c_countPaid3F l D cI cZ cJ b F a n x hn hn4) (cwV 2 C.2.2.2.2.1 gX_outcome_X_countPaid rfl rfl rfl (by decide +kernel) ⟨Nat.le_of_ble_eq_true rfl, Nat.le_of_ble_eq_true rfl⟩) 0 rfl (T := TcX) (N := 16) rfl rfl rfl (Nat.le_of_ble_eq_true rfl) ⟨Nat.zero_le _, Nat.zero_le _⟩ dX_outcome_34 ?_
    refine v_istore_n C (lv' := [(0, .ref (b 0)), (1, .int x), (2, .int (countPaid4F F a n x)), (3, .int (countPaid3F F a n x))]) [1, 2, 3, 0] dX_outcome_37 rfl (by decide) rfl ?_
    refine v_iload_n C 2 dX_outcome_38 rfl rfl ?_
    refine v_if_ne C dX_outcome_39 (tgt := 48) (by decide) (fun h2 => ?_) (fun h2 => ?_)
    · skip
      refine v_iload_n C 2 dX_outcome_48 rfl rfl ?_
      refine v_aload_n C 0 dX_outcome_49 rfl rfl ?_
      refine v_aload_n C 0 dX_outcome_50 rfl rfl ?_
      refine v_get C (T := TcX) (N := 16) (ci := 0) (v := .ref (b 3)) inX_outcome_X 0 rfl rfl 4 (by decide) (by decide +kernel) rfl rfl dX_outcome_51 ?_
      refine v_iload_n C 1 dX_outcome_54 rfl rfl ?_
      refine v_cVrF (As := [.ref (b 3), .int x]) C (c_countArcs4F l D cI cZ cJ b F a n x hn hn4) (cwV 2 C.2.2.2.2.1 gX_outcome_X_countArcs rfl rfl rfl (by decide +kernel) ⟨Nat.le_of_ble_eq_true rfl, Nat.le_of_ble_eq_true rfl⟩) 0 rfl (T := TcX) (N := 16) rfl rfl rfl (Nat.le_of_ble_eq_true rfl) ⟨Nat.zero_le _, Nat.zero_le _⟩ dX_outcome_55 ?_
      refine v_icmp_ne C dX_outcome_58 (tgt := 80) (by decide) (fun h3 => ?_) (fun h3 => ?_)
      · skip
        refine v_iload_n C 3 dX_outcome_80 rfl rfl ?_
        refine v_if_ne C dX_outcome_81 (tgt := 88) (by decide) (fun h4 => ?_) (fun h4 => ?_)
        · skip
          refine v_iconst C (v := 4) dX_outcome_88 (by decide) ?_
          have hE : (0, 4) = outcomeF F a n x := (by unfold outcomeF; rw [if_neg h1, if_neg h2, if_neg h3, if_neg h4])
          exact v_xir C hr (by rw [← hE]) (by rw [← hE]; rfl) rfl dX_outcome_89
        · skip
          refine v_iconst C (v := 3) dX_outcome_84 (by decide) ?_
          refine v_goto C dX_outcome_85 (tgt := 89) (by decide) ?_
          have hE : (0, 3) = outcomeF F a n x := (by unfold outcomeF; rw [if_neg h1, if_neg h2, if_neg h3, if_pos h4])
          exact v_xir C hr (by rw [← hE]) (by rw [← hE]; rfl) rfl dX_outcome_89
      · skip
        refine v_iload_n C 3 dX_outcome_61 rfl rfl ?_
        refine v_aload_n C 0 dX_outcome_62 rfl rfl ?_
        refine v_aload_n C 0 dX_outcome_63 rfl rfl ?_
        refine v_get C (T := TcX) (N := 16) (ci := 0) (v := .ref (b 2)) inX_outcome_X 0 rfl rfl 3 (by decide) (by decide +kernel) rfl rfl dX_outcome_64 ?_
        refine v_iload_n C 1 dX_outcome_67 rfl rfl ?_
        refine v_cVrF (As := [.ref (b 2), .int x]) C (c_countArcs3F l D cI cZ cJ b F a n x hn hn4) (cwV 2 C.2.2.2.2.1 gX_outcome_X_countArcs rfl rfl rfl (by decide +kernel) ⟨Nat.le_of_ble_eq_true rfl, Nat.le_of_ble_eq_true rfl⟩) 0 rfl (T := TcX) (N := 16) rfl rfl rfl (Nat.le_of_ble_eq_true rfl) ⟨Nat.zero_le _, Nat.zero_le _⟩ dX_outcome_68 ?_
        refine v_icmp_ne C dX_outcome_71 (tgt := 78) (by decide) (fun h5 => ?_) (fun h5 => ?_)
        · skip
          refine v_iconst C (v := 2) dX_outcome_78 (by decide) ?_
          have hE : (0, 2) = outcomeF F a n x := (by unfold outcomeF; rw [if_neg h1, if_neg h2, if_pos h3, if_neg h5])
          exact v_xir C hr (by rw [← hE]) (by rw [← hE]; rfl) rfl dX_outcome_79
        · skip
          refine v_iconst C (v := 1) dX_outcome_74 (by decide) ?_
          refine v_goto C dX_outcome_75 (tgt := 79) (by decide) ?_
          have hE : (0, 1) = outcomeF F a n x := (by unfold outcomeF; rw [if_neg h1, if_neg h2, if_pos h3, if_pos h5])
          exact v_xir C hr (by rw [← hE]) (by rw [← hE]; rfl) rfl dX_outcome_79
    · skip
      refine v_iload_n C 3 dX_outcome_42 rfl rfl ?_
      refine v_if_ne C dX_outcome_43 (tgt := 48) (by decide) (fun h6 => ?_) (fun h6 => ?_)
      · skip
        refine v_iload_n C 2 dX_outcome_48 rfl rfl ?_
        refine v_aload_n C 0 dX_outcome_49 rfl rfl ?_
        refine v_aload_n C 0 dX_outcome_50 rfl rfl ?_
        refine v_get C (T := TcX) (N := 16) (ci := 0) (v := .ref (b 3)) inX_outcome_X 0 rfl rfl 4 (by decide) (by decide +kernel) rfl rfl dX_outcome_51 ?_
        refine v_iload_n C 1 dX_outcome_54 rfl rfl ?_
        refine v_cVrF (As := [.ref (b 3), .int x]) C (c_countArcs4F l D cI cZ cJ b F a n x hn hn4) (cwV 2 C.2.2.2.2.1 gX_outcome_X_countArcs rfl rfl rfl (by decide +kernel) ⟨Nat.le_of_ble_eq_true rfl, Nat.le_of_ble_eq_true rfl⟩) 0 rfl (T := TcX) (N := 16) rfl rfl rfl (Nat.le_of_ble_eq_true rfl) ⟨Nat.zero_le _, Nat.zero_le _⟩ dX_outcome_55 ?_
        refine v_icmp_ne C dX_outcome_58 (tgt := 80) (by decide) (fun h7 => ?_) (fun h7 => ?_)
        · skip
          refine v_iload_n C 3 dX_outcome_80 rfl rfl ?_
          refine v_if_ne C dX_outcome_81 (tgt := 88) (by decide) (fun _ => ?_) (fun h => absurd h h6)
          refine v_iconst C (v := 4) dX_outcome_88 (by decide) ?_
          have hE : (0, 4) = outcomeF F a n x := (by unfold outcomeF; rw [if_neg h1, if_pos h2, if_neg h6, if_neg h7])
          exact v_xir C hr (by rw [← hE]) (by rw [← hE]; rfl) rfl dX_outcome_89
        · skip
          refine v_iload_n C 3 dX_outcome_61 rfl rfl ?_
          refine v_aload_n C 0 dX_outcome_62 rfl rfl ?_
          refine v_aload_n C 0 dX_outcome_63 rfl rfl ?_
          refine v_get C (T := TcX) (N := 16) (ci := 0) (v := .ref (b 2)) inX_outcome_X 0 rfl rfl 3 (by decide) (by decide +kernel) rfl rfl dX_outcome_64 ?_
          refine v_iload_n C 1 dX_outcome_67 rfl rfl ?_
          refine v_cVrF (As := [.ref (b 2), .int x]) C (c_countArcs3F l D cI cZ cJ b F a n x hn hn4) (cwV 2 C.2.2.2.2.1 gX_outcome_X_countArcs rfl rfl rfl (by decide +kernel) ⟨Nat.le_of_ble_eq_true rfl, Nat.le_of_ble_eq_true rfl⟩) 0 rfl (T := TcX) (N := 16) rfl rfl rfl (Nat.le_of_ble_eq_true rfl) ⟨Nat.zero_le _, Nat.zero_le _⟩ dX_outcome_68 ?_
          refine v_icmp_ne C dX_outcome_71 (tgt := 78) (by decide) (fun h8 => ?_) (fun h8 => ?_)
          · skip
            refine v_iconst C (v := 2) dX_outcome_78 (by decide) ?_
            have hE : (0, 2) = outcomeF F a n x := (by unfold outcomeF; rw [if_neg h1, if_pos h2, if_neg h6, if_pos h7, if_neg h8])
            exact v_xir C hr (by rw [← hE]) (by rw [← hE]; rfl) rfl dX_outcome_79
          · skip
            refine v_iconst C (v := 1) dX_outcome_74 (by decide) ?_
            refine v_goto C dX_outcome_75 (tgt := 79) (by decide) ?_
            have hE : (0, 1) = outcomeF F a n x := (by unfold outcomeF; rw [if_neg h1, if_pos h2, if_neg h6, if_pos h7, if_pos h8])
            exact v_xir C hr (by rw [← hE]) (by rw [← hE]; rfl) rfl dX_outcome_79
      · skip
        refine v_iconst C (v := 0) dX_outcome_46 (by decide) ?_
        have hE : (0, 0) = outcomeF F a n x := (by unfold outcomeF; rw [if_neg h1, if_pos h2, if_pos h6])
        exact v_xir C hr (by rw [← hE]) (by rw [← hE]; rfl) rfl dX_outcome_47
  · skip
    have hE : (4, 0) = outcomeF F a n x := (by unfold outcomeF; rw [if_pos h1])
    exact v_thr C hlt hX htab (cls := eB) (text := "no such party") (by decide +kernel) (thr_in (by decide +kernel)) (thr_in (by decide +kernel)) (by decide +kernel) (fun w h => thr_in (thB1 w h)) thB2 thB3 dX_outcome_8 dX_outcome_11 dX_outcome_12 dX_outcome_14 dX_outcome_17 (Nat.le_of_ble_eq_true rfl) (Nat.le_of_ble_eq_true rfl) (Nat.le_of_ble_eq_true rfl) (Nat.le_of_ble_eq_true rfl) (by rw [← hE]; rfl)
set_option maxHeartbeats 4000000 in
set_option maxRecDepth 100000 in
theorem c_deployF (l : Launch) (D : va_G) (cI cZ cJ : ClassId) (b : Nat → Nat) (F : FT) (a : AT) (n : Nat) (x : Int32) (hn : F 8 = nI n) (hn4 : n ≤ 14) (hlt : l.stackTraces = false) : Kxv l yX_deploy tX_deploy ({ frames := 6, cells := 1, slots := 6, locals := 90 } : Room) D vwCl (tyG cI cZ cJ) [.ref (b 0), .int x] (wX cI b F a) (exN ((deployF F a x).1)) (wX cI b F ((deployF F a x).2)) := by
  intro sz
  refine v_entX (cc := bX_deploy) (maxL := 2) (ret := none) (Qc := (fun A => va_Qv (fun (_ : Unit) => (exN ((deployF F a x).1)) = none) (fun _ => wB D vwCl (tyG cI cZ cJ) A (wX cI b F ((deployF F a x).2))) A)) (Xc := fun A => xQ D vwCl (tyG cI cZ cJ) (exN ((deployF F a x).1)) (wX cI b F a) A) (own := RcX) rfl (by decide) rfl (Nat.le_of_ble_eq_true rfl) rfl ?_
  intro p e s m args below meth c A C hr hX htab
  refine v_free ?_
  refine v_aload_n C 0 dX_deploy_0 rfl rfl ?_
  refine v_iload_n C 1 dX_deploy_1 rfl rfl ?_
  refine v_cVrF (As := [.int x]) C (c_isArcF l D cI cZ cJ b F a x) (cwV 1 C.2.2.2.2.1 gX_deploy_X_isArc rfl rfl rfl (by decide +kernel) ⟨Nat.le_of_ble_eq_true rfl, Nat.le_of_ble_eq_true rfl⟩) 0 rfl (T := TcX) (N := 16) rfl rfl rfl (Nat.le_of_ble_eq_true rfl) ⟨Nat.zero_le _, Nat.zero_le _⟩ dX_deploy_2 ?_
  refine v_if_ne C dX_deploy_5 (tgt := 18) (by decide) (fun h1 => ?_) (fun h1 => ?_)
  · skip
    have hx : vp_in x 14 := vp_arc (F := F) (a := a) (by assumption) hn hn4
    refine v_aload_n C 0 dX_deploy_18 rfl rfl ?_
    refine v_get C (T := TcX) (N := 16) (ci := 0) (v := .int (F 9)) inX_deploy_X 0 rfl rfl 9 (by decide) (by decide +kernel) rfl rfl dX_deploy_19 ?_
    refine v_if_eq C dX_deploy_22 (tgt := 34) (by decide) (fun h2 => ?_) (fun h2 => ?_)
    · skip
      have hE : (2, a) = deployF F a x := (by unfold deployF; rw [if_neg h1, if_pos h2])
      exact v_thr C hlt hX htab (cls := eS) (text := "there is no plan, or the asset is not held") (by decide +kernel) (thr_in (by decide +kernel)) (thr_in (by decide +kernel)) (by decide +kernel) (fun w h => thr_in (thS1 w h)) thS2 thS3 dX_deploy_34 dX_deploy_37 dX_deploy_38 dX_deploy_40 dX_deploy_43 (Nat.le_of_ble_eq_true rfl) (Nat.le_of_ble_eq_true rfl) (Nat.le_of_ble_eq_true rfl) (Nat.le_of_ble_eq_true rfl) (by rw [← hE]; rfl)
    · skip
      refine v_aload_n C 0 dX_deploy_25 rfl rfl ?_
      refine v_get C (T := TcX) (N := 16) (ci := 0) (v := .ref (b 4)) inX_deploy_X 0 rfl rfl 5 (by decide) (by decide +kernel) rfl rfl dX_deploy_26 ?_
      refine v_iload_n C 1 dX_deploy_29 rfl rfl ?_
      refine v_iald C 4 0 (f := a 5) (y := (a 5) x.toNatClampNeg) (j := x.toNatClampNeg) rfl rfl rfl rfl hx dX_deploy_30 ?_
      refine v_if_eq C dX_deploy_31 (tgt := 44) (by decide) (fun h3 => ?_) (fun h3 => ?_)
      · skip
        refine v_aload_n C 0 dX_deploy_44 rfl rfl ?_
        refine v_get C (T := TcX) (N := 16) (ci := 0) (v := .ref (b 4)) inX_deploy_X 0 rfl rfl 5 (by decide) (by decide +kernel) rfl rfl dX_deploy_45 ?_
        refine v_iload_n C 1 dX_deploy_48 rfl rfl ?_
        refine v_iconst C (v := 1) dX_deploy_49 (by decide) ?_
        obtain ⟨zz1, hzz1⟩ : ∃ z9, upd (a 5) x.toNatClampNeg 1 = z9 := ⟨_, rfl⟩
        refine v_iast C 4 0 (f := a 5) (j := x.toNatClampNeg) (f1 := zz1) rfl rfl rfl hzz1 hx dX_deploy_50 (w1 := wX cI b F (updA a 5 zz1)) rfl ?_
        have hE : (0, updA a 5 zz1) = deployF F a x := (by unfold deployF; rw [hzz1, if_neg h1, if_neg h2, if_pos h3])
        exact v_xvr C hr (by rw [← hE]; rfl) (by rw [← hE]) dX_deploy_51
      · skip
        have hE : (2, a) = deployF F a x := (by unfold deployF; rw [if_neg h1, if_neg h2, if_neg h3])
        exact v_thr C hlt hX htab (cls := eS) (text := "there is no plan, or the asset is not held") (by decide +kernel) (thr_in (by decide +kernel)) (thr_in (by decide +kernel)) (by decide +kernel) (fun w h => thr_in (thS1 w h)) thS2 thS3 dX_deploy_34 dX_deploy_37 dX_deploy_38 dX_deploy_40 dX_deploy_43 (Nat.le_of_ble_eq_true rfl) (Nat.le_of_ble_eq_true rfl) (Nat.le_of_ble_eq_true rfl) (Nat.le_of_ble_eq_true rfl) (by rw [← hE]; rfl)
  · skip
    have hE : (4, a) = deployF F a x := (by unfold deployF; rw [if_pos h1])
    exact v_thr C hlt hX htab (cls := eB) (text := "no such arc") (by decide +kernel) (thr_in (by decide +kernel)) (thr_in (by decide +kernel)) (by decide +kernel) (fun w h => thr_in (thB1 w h)) thB2 thB3 dX_deploy_8 dX_deploy_11 dX_deploy_12 dX_deploy_14 dX_deploy_17 (Nat.le_of_ble_eq_true rfl) (Nat.le_of_ble_eq_true rfl) (Nat.le_of_ble_eq_true rfl) (Nat.le_of_ble_eq_true rfl) (by rw [← hE]; rfl)
set_option maxHeartbeats 4000000 in
set_option maxRecDepth 100000 in
theorem c_backF (l : Launch) (D : va_G) (cI cZ cJ : ClassId) (b : Nat → Nat) (F : FT) (a : AT) (n : Nat) (x : Int32) (hn : F 8 = nI n) (hn4 : n ≤ 14) (hlt : l.stackTraces = false) : Kxv l yX_back tX_back ({ frames := 6, cells := 1, slots := 6, locals := 90 } : Room) D vwCl (tyG cI cZ cJ) [.ref (b 0), .int x] (wX cI b F a) (exN ((backF F a x).1)) (wX cI b F ((backF F a x).2)) := by
  intro sz
  refine v_entX (cc := bX_back) (maxL := 2) (ret := none) (Qc := (fun A => va_Qv (fun (_ : Unit) => (exN ((backF F a x).1)) = none) (fun _ => wB D vwCl (tyG cI cZ cJ) A (wX cI b F ((backF F a x).2))) A)) (Xc := fun A => xQ D vwCl (tyG cI cZ cJ) (exN ((backF F a x).1)) (wX cI b F a) A) (own := RcX) rfl (by decide) rfl (Nat.le_of_ble_eq_true rfl) rfl ?_
  intro p e s m args below meth c A C hr hX htab
  refine v_free ?_
  refine v_aload_n C 0 dX_back_0 rfl rfl ?_
  refine v_iload_n C 1 dX_back_1 rfl rfl ?_
  refine v_cVrF (As := [.int x]) C (c_isArcF l D cI cZ cJ b F a x) (cwV 1 C.2.2.2.2.1 gX_back_X_isArc rfl rfl rfl (by decide +kernel) ⟨Nat.le_of_ble_eq_true rfl, Nat.le_of_ble_eq_true rfl⟩) 0 rfl (T := TcX) (N := 16) rfl rfl rfl (Nat.le_of_ble_eq_true rfl) ⟨Nat.zero_le _, Nat.zero_le _⟩ dX_back_2 ?_
  refine v_if_ne C dX_back_5 (tgt := 18) (by decide) (fun h1 => ?_) (fun h1 => ?_)
  · skip
    have hx : vp_in x 14 := vp_arc (F := F) (a := a) (by assumption) hn hn4
    refine v_aload_n C 0 dX_back_18 rfl rfl ?_
    refine v_get C (T := TcX) (N := 16) (ci := 0) (v := .ref (b 4)) inX_back_X 0 rfl rfl 5 (by decide) (by decide +kernel) rfl rfl dX_back_19 ?_
    refine v_iload_n C 1 dX_back_22 rfl rfl ?_
    refine v_iald C 4 0 (f := a 5) (y := (a 5) x.toNatClampNeg) (j := x.toNatClampNeg) rfl rfl rfl rfl hx dX_back_23 ?_
    refine v_iconst C (v := 1) dX_back_24 (by decide) ?_
    refine v_icmp_eq C dX_back_25 (tgt := 38) (by decide) (fun h2 => ?_) (fun h2 => ?_)
    · skip
      refine v_aload_n C 0 dX_back_38 rfl rfl ?_
      refine v_cVrF (As := []) C (c_isOverF l D cI cZ cJ b F a) (cwV 0 C.2.2.2.2.1 gX_back_X_isOver rfl rfl rfl (by decide +kernel) ⟨Nat.le_of_ble_eq_true rfl, Nat.le_of_ble_eq_true rfl⟩) 0 rfl (T := TcX) (N := 16) rfl rfl rfl (Nat.le_of_ble_eq_true rfl) ⟨Nat.zero_le _, Nat.zero_le _⟩ dX_back_39 ?_
      refine v_if_ne C dX_back_42 (tgt := 55) (by decide) (fun h3 => ?_) (fun h3 => ?_)
      · skip
        refine v_aload_n C 0 dX_back_55 rfl rfl ?_
        refine v_get C (T := TcX) (N := 16) (ci := 0) (v := .ref (b 4)) inX_back_X 0 rfl rfl 5 (by decide) (by decide +kernel) rfl rfl dX_back_56 ?_
        refine v_iload_n C 1 dX_back_59 rfl rfl ?_
        refine v_iconst C (v := 3) dX_back_60 (by decide) ?_
        obtain ⟨zz1, hzz1⟩ : ∃ z9, upd (a 5) x.toNatClampNeg 3 = z9 := ⟨_, rfl⟩
        refine v_iast C 4 0 (f := a 5) (j := x.toNatClampNeg) (f1 := zz1) rfl rfl rfl hzz1 hx dX_back_61 (w1 := wX cI b F (updA a 5 zz1)) rfl ?_
        have hE : (0, updA a 5 zz1) = backF F a x := (by unfold backF; rw [hzz1, if_neg h1, if_pos h2, if_neg h3])
        exact v_xvr C hr (by rw [← hE]; rfl) (by rw [← hE]) dX_back_62
      · skip
        have hE : (3, a) = backF F a x := (by unfold backF; rw [if_neg h1, if_pos h2, if_pos h3])
        exact v_thr C hlt hX htab (cls := eU) (text := "too early") (by decide +kernel) (thr_in (by decide +kernel)) (thr_in (by decide +kernel)) (by decide +kernel) (fun w h => thr_in (thU1 w h)) thU2 thU3 dX_back_45 dX_back_48 dX_back_49 dX_back_51 dX_back_54 (Nat.le_of_ble_eq_true rfl) (Nat.le_of_ble_eq_true rfl) (Nat.le_of_ble_eq_true rfl) (Nat.le_of_ble_eq_true rfl) (by rw [← hE]; rfl)
    · skip
      have hE : (2, a) = backF F a x := (by unfold backF; rw [if_neg h1, if_neg h2])
      exact v_thr C hlt hX htab (cls := eS) (text := "the asset is not in escrow") (by decide +kernel) (thr_in (by decide +kernel)) (thr_in (by decide +kernel)) (by decide +kernel) (fun w h => thr_in (thS1 w h)) thS2 thS3 dX_back_28 dX_back_31 dX_back_32 dX_back_34 dX_back_37 (Nat.le_of_ble_eq_true rfl) (Nat.le_of_ble_eq_true rfl) (Nat.le_of_ble_eq_true rfl) (Nat.le_of_ble_eq_true rfl) (by rw [← hE]; rfl)
  · skip
    have hE : (4, a) = backF F a x := (by unfold backF; rw [if_pos h1])
    exact v_thr C hlt hX htab (cls := eB) (text := "no such arc") (by decide +kernel) (thr_in (by decide +kernel)) (thr_in (by decide +kernel)) (by decide +kernel) (fun w h => thr_in (thB1 w h)) thB2 thB3 dX_back_8 dX_back_11 dX_back_12 dX_back_14 dX_back_17 (Nat.le_of_ble_eq_true rfl) (Nat.le_of_ble_eq_true rfl) (Nat.le_of_ble_eq_true rfl) (Nat.le_of_ble_eq_true rfl) (by rw [← hE]; rfl)

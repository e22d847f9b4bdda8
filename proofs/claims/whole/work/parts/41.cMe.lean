set_option maxHeartbeats 4000000 in
set_option maxRecDepth 100000 in
theorem c_mState (l : Launch) (D : va_G) (cI cZ cJ : ClassId) (b : Nat → Nat) (F : FT) (a : AT) (n : Nat) (x : Int32) (hn : F 9 = nI n) (hn4 : n ≤ 14) : Ki l yM_state wM_state ({ frames := 1, cells := 0, slots := 0, locals := 21 } : Room) D vwCl (tyG cI cZ cJ) [.ref (b 0), .int x] (wM cI cZ b F a) ((mState F a x).1) (wM cI cZ b ((mState F a x).2) a) := by
  intro sz
  refine v_ent (cc := bM_state) (maxL := 2) (ret := (some .int)) (Qc := (fun A => va_Qi (fun (x9 : Int32) (_ : Unit) => x9 = (mState F a x).1) (fun _ => wB D vwCl (tyG cI cZ cJ) A (wM cI cZ b ((mState F a x).2) a)) A)) (fr := (fun A => A)) (own := RcM) rfl (by decide) rfl (Nat.le_of_ble_eq_true rfl) rfl ?_
  intro p e s m args below meth c A C hr _
  refine v_free ?_
  refine v_aload_n C 0 dM_state_0 rfl rfl ?_
  refine v_iconst C (v := 0) dM_state_1 (by decide) ?_
  refine v_put C (T := TcM) (N := 18) (ci := 2) (v := .int 0) inM_state_M tycM tycM_ok nmcM 0 rfl rfl 2 (by decide) (by decide +kernel) rfl rfl rfl rfl (Nat.le_of_ble_eq_true rfl) dM_state_2 (w1 := wM cI cZ b (upd F 2 0) a) rfl ?_
  refine v_aload_n C 0 dM_state_5 rfl rfl ?_
  refine v_iload_n C 1 dM_state_6 rfl rfl ?_
  refine v_cVrF (As := [.int x]) C (c_mIsArc l D cI cZ cJ b (upd F 2 0) a x) (cwV 1 C.2.2.2.2.1 gM_state_M_isArc rfl rfl rfl (by decide +kernel) ⟨Nat.le_of_ble_eq_true rfl, Nat.le_of_ble_eq_true rfl⟩) 0 rfl (T := TcM) (N := 18) rfl rfl rfl (Nat.le_of_ble_eq_true rfl) ⟨Nat.zero_le _, Nat.zero_le _⟩ dM_state_7 ?_
  refine v_if_eq C dM_state_10 (tgt := 22) (by decide) (fun h1 => ?_) (fun h1 => ?_)
  · skip
    refine v_aload_n C 0 dM_state_22 rfl rfl ?_
    refine v_iconst C (v := 1) dM_state_23 (by decide) ?_
    refine v_cViF (As := [.int 1]) C (c_mFail l D cI cZ cJ b (upd F 2 0) a 1) (cwV 1 C.2.2.2.2.1 gM_state_M_fail rfl rfl rfl (by decide +kernel) ⟨Nat.le_of_ble_eq_true rfl, Nat.le_of_ble_eq_true rfl⟩) 0 rfl (T := TcM) (N := 18) rfl rfl rfl (Nat.le_of_ble_eq_true rfl) ⟨Nat.zero_le _, Nat.zero_le _⟩ dM_state_24 ?_
    have hE : ((mFail (upd F 2 0) a 1).1, (mFail (upd F 2 0) a 1).2) = mState F a x := (by unfold mState; rw [if_pos h1])
    exact v_iret C hr (by rw [← hE]) (by rw [← hE]) dM_state_27
  · skip
    have hx : vp_in x 14 := vp_arcM (F := upd F 2 0) (a := a) (by assumption) hn hn4
    refine v_aload_n C 0 dM_state_13 rfl rfl ?_
    refine v_get C (T := TcM) (N := 18) (ci := 2) (v := .ref (b 3)) inM_state_M 0 rfl rfl 12 (by decide) (by decide +kernel) rfl rfl dM_state_14 ?_
    refine v_iload_n C 1 dM_state_17 rfl rfl ?_
    refine v_iald C 3 0 (f := a 12) (y := (a 12) x.toNatClampNeg) (j := x.toNatClampNeg) rfl rfl rfl rfl hx dM_state_18 ?_
    refine v_goto C dM_state_19 (tgt := 27) (by decide) ?_
    have hE : ((a 12) x.toNatClampNeg, upd F 2 0) = mState F a x := (by unfold mState; rw [if_neg h1])
    exact v_iret C hr (by rw [← hE]) (by rw [← hE]) dM_state_27
set_option maxHeartbeats 4000000 in
set_option maxRecDepth 100000 in
theorem c_mOpen (l : Launch) (D : va_G) (cI cZ cJ : ClassId) (b : Nat → Nat) (F : FT) (a : AT) (n : Nat) (x : Int32) (hn : F 9 = nI n) (hn4 : n ≤ 14) : Ki l yM_open wM_open ({ frames := 1, cells := 0, slots := 0, locals := 21 } : Room) D vwCl (tyG cI cZ cJ) [.ref (b 0), .int x] (wM cI cZ b F a) ((mOpen F a x).1) (wM cI cZ b ((mOpen F a x).2) a) := by
  intro sz
  refine v_ent (cc := bM_open) (maxL := 2) (ret := (some .int)) (Qc := (fun A => va_Qi (fun (x9 : Int32) (_ : Unit) => x9 = (mOpen F a x).1) (fun _ => wB D vwCl (tyG cI cZ cJ) A (wM cI cZ b ((mOpen F a x).2) a)) A)) (fr := (fun A => A)) (own := RcM) rfl (by decide) rfl (Nat.le_of_ble_eq_true rfl) rfl ?_
  intro p e s m args below meth c A C hr _
  refine v_free ?_
  refine v_aload_n C 0 dM_open_0 rfl rfl ?_
  refine v_iconst C (v := 0) dM_open_1 (by decide) ?_
  refine v_put C (T := TcM) (N := 18) (ci := 2) (v := .int 0) inM_open_M tycM tycM_ok nmcM 0 rfl rfl 2 (by decide) (by decide +kernel) rfl rfl rfl rfl (Nat.le_of_ble_eq_true rfl) dM_open_2 (w1 := wM cI cZ b (upd F 2 0) a) rfl ?_
  refine v_aload_n C 0 dM_open_5 rfl rfl ?_
  refine v_iload_n C 1 dM_open_6 rfl rfl ?_
  refine v_cVrF (As := [.int x]) C (c_mIsArc l D cI cZ cJ b (upd F 2 0) a x) (cwV 1 C.2.2.2.2.1 gM_open_M_isArc rfl rfl rfl (by decide +kernel) ⟨Nat.le_of_ble_eq_true rfl, Nat.le_of_ble_eq_true rfl⟩) 0 rfl (T := TcM) (N := 18) rfl rfl rfl (Nat.le_of_ble_eq_true rfl) ⟨Nat.zero_le _, Nat.zero_le _⟩ dM_open_7 ?_
  refine v_if_eq C dM_open_10 (tgt := 22) (by decide) (fun h1 => ?_) (fun h1 => ?_)
  · skip
    refine v_aload_n C 0 dM_open_22 rfl rfl ?_
    refine v_iconst C (v := 1) dM_open_23 (by decide) ?_
    refine v_cViF (As := [.int 1]) C (c_mFail l D cI cZ cJ b (upd F 2 0) a 1) (cwV 1 C.2.2.2.2.1 gM_open_M_fail rfl rfl rfl (by decide +kernel) ⟨Nat.le_of_ble_eq_true rfl, Nat.le_of_ble_eq_true rfl⟩) 0 rfl (T := TcM) (N := 18) rfl rfl rfl (Nat.le_of_ble_eq_true rfl) ⟨Nat.zero_le _, Nat.zero_le _⟩ dM_open_24 ?_
    have hE : ((mFail (upd F 2 0) a 1).1, (mFail (upd F 2 0) a 1).2) = mOpen F a x := (by unfold mOpen; rw [if_pos h1])
    exact v_iret C hr (by rw [← hE]) (by rw [← hE]) dM_open_27
  · skip
    have hx : vp_in x 14 := vp_arcM (F := upd F 2 0) (a := a) (by assumption) hn hn4
    refine v_aload_n C 0 dM_open_13 rfl rfl ?_
    refine v_get C (T := TcM) (N := 18) (ci := 2) (v := .ref (b 4)) inM_open_M 0 rfl rfl 13 (by decide) (by decide +kernel) rfl rfl dM_open_14 ?_
    refine v_iload_n C 1 dM_open_17 rfl rfl ?_
    refine v_iald C 4 0 (f := a 13) (y := (a 13) x.toNatClampNeg) (j := x.toNatClampNeg) rfl rfl rfl rfl hx dM_open_18 ?_
    refine v_goto C dM_open_19 (tgt := 27) (by decide) ?_
    have hE : ((a 13) x.toNatClampNeg, upd F 2 0) = mOpen F a x := (by unfold mOpen; rw [if_neg h1])
    exact v_iret C hr (by rw [← hE]) (by rw [← hE]) dM_open_27
set_option maxHeartbeats 4000000 in
set_option maxRecDepth 100000 in
theorem c_mKey (l : Launch) (D : va_G) (cI cZ cJ : ClassId) (b : Nat → Nat) (F : FT) (a : AT) (n : Nat) (P : Nat) (x : Int32) (y : Int32) (z : Int32) (hn : F 9 = nI n) (hn4 : n ≤ 14) (hp : F 0 = nI P) (hp6 : P ≤ 6) : Ki l yM_key wM_key ({ frames := 1, cells := 0, slots := 0, locals := 21 } : Room) D vwCl (tyG cI cZ cJ) [.ref (b 0), .int x, .int y, .int z] (wM cI cZ b F a) ((mKey F a x y z).1) (wM cI cZ b ((mKey F a x y z).2) a) := by
  intro sz
  refine v_ent (cc := bM_key) (maxL := 5) (ret := (some .int)) (Qc := (fun A => va_Qi (fun (x9 : Int32) (_ : Unit) => x9 = (mKey F a x y z).1) (fun _ => wB D vwCl (tyG cI cZ cJ) A (wM cI cZ b ((mKey F a x y z).2) a)) A)) (fr := (fun A => A)) (own := RcM) rfl (by decide) rfl (Nat.le_of_ble_eq_true rfl) rfl ?_
  intro p e s m args below meth c A C hr _
  refine v_free ?_
  refine v_aload_n C 0 dM_key_0 rfl rfl ?_
  refine v_iconst C (v := 0) dM_key_1 (by decide) ?_
  refine v_put C (T := TcM) (N := 18) (ci := 2) (v := .int 0) inM_key_M tycM tycM_ok nmcM 0 rfl rfl 2 (by decide) (by decide +kernel) rfl rfl rfl rfl (Nat.le_of_ble_eq_true rfl) dM_key_2 (w1 := wM cI cZ b (upd F 2 0) a) rfl ?_
  refine v_aload_n C 0 dM_key_5 rfl rfl ?_
  refine v_iload_n C 1 dM_key_6 rfl rfl ?_
  refine v_cVrF (As := [.int x]) C (c_mIsArc l D cI cZ cJ b (upd F 2 0) a x) (cwV 1 C.2.2.2.2.1 gM_key_M_isArc rfl rfl rfl (by decide +kernel) ⟨Nat.le_of_ble_eq_true rfl, Nat.le_of_ble_eq_true rfl⟩) 0 rfl (T := TcM) (N := 18) rfl rfl rfl (Nat.le_of_ble_eq_true rfl) ⟨Nat.zero_le _, Nat.zero_le _⟩ dM_key_7 ?_
  refine v_if_ne C dM_key_10 (tgt := 19) (by decide) (fun h1 => ?_) (fun h1 => ?_)
  · skip
    have hx : vp_in x 14 := vp_arcM (F := upd F 2 0) (a := a) (by assumption) hn hn4
    refine v_aload_n C 0 dM_key_19 rfl rfl ?_
    refine v_iload_n C 2 dM_key_20 rfl rfl ?_
    refine v_cVrF (As := [.int y]) C (c_mIsParty l D cI cZ cJ b (upd F 2 0) a y) (cwV 1 C.2.2.2.2.1 gM_key_M_isParty rfl rfl rfl (by decide +kernel) ⟨Nat.le_of_ble_eq_true rfl, Nat.le_of_ble_eq_true rfl⟩) 0 rfl (T := TcM) (N := 18) rfl rfl rfl (Nat.le_of_ble_eq_true rfl) ⟨Nat.zero_le _, Nat.zero_le _⟩ dM_key_21 ?_
    refine v_if_eq C dM_key_24 (tgt := 40) (by decide) (fun h2 => ?_) (fun h2 => ?_)
    · skip
      refine v_iconst C (v := (-1)) dM_key_40 (by decide) ?_
      have hE : ((-1), upd F 2 0) = mKey F a x y z := (by unfold mKey; rw [if_neg h1, if_pos h2])
      exact v_iret C hr (by rw [← hE]) (by rw [← hE]) dM_key_41
    · skip
      refine v_aload_n C 0 dM_key_27 rfl rfl ?_
      refine v_get C (T := TcM) (N := 18) (ci := 2) (v := .ref (b 4)) inM_key_M 0 rfl rfl 13 (by decide) (by decide +kernel) rfl rfl dM_key_28 ?_
      refine v_iload_n C 1 dM_key_31 rfl rfl ?_
      refine v_iald C 4 0 (f := a 13) (y := (a 13) x.toNatClampNeg) (j := x.toNatClampNeg) rfl rfl rfl rfl hx dM_key_32 ?_
      refine v_iload_n C 2 dM_key_33 rfl rfl ?_
      refine v_cSr0 (As := [.int ((a 13) x.toNatClampNeg), .int y]) C (c_mHas l D cI cZ cJ ((a 13) x.toNatClampNeg) y) (va_cwS 2 C.2.2.2.2.1 gM_key_M_has rfl rfl rfl (by decide +kernel) ⟨Nat.le_of_ble_eq_true rfl, Nat.le_of_ble_eq_true rfl⟩) rfl rfl (Nat.le_of_ble_eq_true rfl) ⟨Nat.zero_le _, Nat.zero_le _⟩ dM_key_34 ?_
      refine v_if_ne C dM_key_37 (tgt := 42) (by decide) (fun h3 => ?_) (fun h3 => ?_)
      · skip
        have hy : vp_in (6 * x + y) 84 := vp_keyM (F := upd F 2 0) (a := a) (by assumption) (by assumption) hn hn4 hp hp6
        refine v_aload_n C 0 dM_key_42 rfl rfl ?_
        refine v_get C (T := TcM) (N := 18) (ci := 2) (v := .ref (b 5)) inM_key_M 0 rfl rfl 14 (by decide) (by decide +kernel) rfl rfl dM_key_43 ?_
        refine v_bipush C (v := 6) dM_key_46 (by decide) ?_
        refine v_iload_n C 1 dM_key_48 rfl rfl ?_
        refine v_imul C dM_key_49 ?_
        refine v_iload_n C 2 dM_key_50 rfl rfl ?_
        refine v_iadd C dM_key_51 ?_
        refine v_iald C 5 0 (f := a 14) (y := (a 14) ((((6 : Int32) * x) + y).toNatClampNeg)) (j := (((6 : Int32) * x) + y).toNatClampNeg) rfl rfl rfl rfl hy dM_key_52 ?_
        refine v_istore C (lv' := [(0, .ref (b 0)), (1, .int x), (2, .int y), (3, .int z), (4, .int ((a 14) ((((6 : Int32) * x) + y).toNatClampNeg)))]) [1, 2, 3, 4, 0] dM_key_53 (by decide) rfl ?_
        refine v_iload_n C 3 dM_key_55 rfl rfl ?_
        refine v_if_lt C dM_key_56 (tgt := 77) (by decide) (fun h4 => ?_) (fun h4 => ?_)
        · skip
          refine v_iconst C (v := (-1)) dM_key_77 (by decide) ?_
          have hE : ((-1), upd F 2 0) = mKey F a x y z := (by unfold mKey; rw [if_neg h1, if_neg h2, if_neg h3, if_pos h4])
          exact v_iret C hr (by rw [← hE]) (by rw [← hE]) dM_key_78
        · skip
          refine v_iload_n C 3 dM_key_59 rfl rfl ?_
          refine v_iload C 4 dM_key_60 rfl ?_
          refine v_cSr0 (As := [.int ((a 14) ((((6 : Int32) * x) + y).toNatClampNeg))]) C (c_mMany l D cI cZ cJ ((a 14) ((((6 : Int32) * x) + y).toNatClampNeg))) (va_cwS 1 C.2.2.2.2.1 gM_key_M_many rfl rfl rfl (by decide +kernel) ⟨Nat.le_of_ble_eq_true rfl, Nat.le_of_ble_eq_true rfl⟩) rfl rfl (Nat.le_of_ble_eq_true rfl) ⟨Nat.zero_le _, Nat.zero_le _⟩ dM_key_62 ?_
          refine v_icmp_ge C dM_key_65 (tgt := 77) (by decide) (fun h5 => ?_) (fun h5 => ?_)
          · skip
            refine v_iconst C (v := (-1)) dM_key_77 (by decide) ?_
            have hE : ((-1), upd F 2 0) = mKey F a x y z := (by unfold mKey; rw [if_neg h1, if_neg h2, if_neg h3, if_neg h4, if_pos h5])
            exact v_iret C hr (by rw [← hE]) (by rw [← hE]) dM_key_78
          · skip
            refine v_iload C 4 dM_key_68 rfl ?_
            refine v_iload_n C 3 dM_key_70 rfl rfl ?_
            refine v_cSr0 (As := [.int ((a 14) ((((6 : Int32) * x) + y).toNatClampNeg)), .int z]) C (c_mMember l D cI cZ cJ ((a 14) ((((6 : Int32) * x) + y).toNatClampNeg)) z) (va_cwS 2 C.2.2.2.2.1 gM_key_M_member rfl rfl rfl (by decide +kernel) ⟨Nat.le_of_ble_eq_true rfl, Nat.le_of_ble_eq_true rfl⟩) rfl rfl (Nat.le_of_ble_eq_true rfl) ⟨Nat.zero_le _, Nat.zero_le _⟩ dM_key_71 ?_
            refine v_goto C dM_key_74 (tgt := 78) (by decide) ?_
            have hE : (mMember ((a 14) ((((6 : Int32) * x) + y).toNatClampNeg)) z, upd F 2 0) = mKey F a x y z := (by unfold mKey; rw [if_neg h1, if_neg h2, if_neg h3, if_neg h4, if_neg h5])
            exact v_iret C hr (by rw [← hE]) (by rw [← hE]) dM_key_78
      · skip
        refine v_iconst C (v := (-1)) dM_key_40 (by decide) ?_
        have hE : ((-1), upd F 2 0) = mKey F a x y z := (by unfold mKey; rw [if_neg h1, if_neg h2, if_pos h3])
        exact v_iret C hr (by rw [← hE]) (by rw [← hE]) dM_key_41
  · skip
    refine v_aload_n C 0 dM_key_13 rfl rfl ?_
    refine v_iconst C (v := 1) dM_key_14 (by decide) ?_
    refine v_cViF (As := [.int 1]) C (c_mFail l D cI cZ cJ b (upd F 2 0) a 1) (cwV 1 C.2.2.2.2.1 gM_key_M_fail rfl rfl rfl (by decide +kernel) ⟨Nat.le_of_ble_eq_true rfl, Nat.le_of_ble_eq_true rfl⟩) 0 rfl (T := TcM) (N := 18) rfl rfl rfl (Nat.le_of_ble_eq_true rfl) ⟨Nat.zero_le _, Nat.zero_le _⟩ dM_key_15 ?_
    have hE : ((mFail (upd F 2 0) a 1).1, (mFail (upd F 2 0) a 1).2) = mKey F a x y z := (by unfold mKey; rw [if_pos h1])
    exact v_iret C hr (by rw [← hE]) (by rw [← hE]) dM_key_18
set_option maxHeartbeats 4000000 in
set_option maxRecDepth 100000 in
theorem c_mOutcome (l : Launch) (D : va_G) (cI cZ cJ : ClassId) (b : Nat → Nat) (F : FT) (a : AT) (n : Nat) (x : Int32) (hn : F 9 = nI n) (hn4 : n ≤ 14) : Ki l yM_outcome wM_outcome ({ frames := 1, cells := 0, slots := 0, locals := 21 } : Room) D vwCl (tyG cI cZ cJ) [.ref (b 0), .int x] (wM cI cZ b F a) ((mOutcome F a n x).1) (wM cI cZ b ((mOutcome F a n x).2) a) := by
  intro sz
  refine v_ent (cc := bM_outcome) (maxL := 8) (ret := (some .int)) (Qc := (fun A => va_Qi (fun (x9 : Int32) (_ : Unit) => x9 = (mOutcome F a n x).1) (fun _ => wB D vwCl (tyG cI cZ cJ) A (wM cI cZ b ((mOutcome F a n x).2) a)) A)) (fr := (fun A => A)) (own := RcM) rfl (by decide) rfl (Nat.le_of_ble_eq_true rfl) rfl ?_
  intro p e s m args below meth c A C hr _
  refine v_free ?_
  refine v_aload_n C 0 dM_outcome_0 rfl rfl ?_
  refine v_iconst C (v := 0) dM_outcome_1 (by decide) ?_
  refine v_put C (T := TcM) (N := 18) (ci := 2) (v := .int 0) inM_outcome_M tycM tycM_ok nmcM 0 rfl rfl 2 (by decide) (by decide +kernel) rfl rfl rfl rfl (Nat.le_of_ble_eq_true rfl) dM_outcome_2 (w1 := wM cI cZ b (upd F 2 0) a) rfl ?_
  refine v_aload_n C 0 dM_outcome_5 rfl rfl ?_
  refine v_iload_n C 1 dM_outcome_6 rfl rfl ?_
  refine v_cVrF (As := [.int x]) C (c_mIsParty l D cI cZ cJ b (upd F 2 0) a x) (cwV 1 C.2.2.2.2.1 gM_outcome_M_isParty rfl rfl rfl (by decide +kernel) ⟨Nat.le_of_ble_eq_true rfl, Nat.le_of_ble_eq_true rfl⟩) 0 rfl (T := TcM) (N := 18) rfl rfl rfl (Nat.le_of_ble_eq_true rfl) ⟨Nat.zero_le _, Nat.zero_le _⟩ dM_outcome_7 ?_
  refine v_if_ne C dM_outcome_10 (tgt := 19) (by decide) (fun h1 => ?_) (fun h1 => ?_)
  · skip
    refine v_iconst C (v := 0) dM_outcome_19 (by decide) ?_
    refine v_istore_n C (lv' := [(0, .ref (b 0)), (1, .int x), (2, .int 0)]) [1, 2, 0] dM_outcome_20 rfl (by decide) rfl ?_
    refine v_iconst C (v := 0) dM_outcome_21 (by decide) ?_
    refine v_istore_n C (lv' := [(0, .ref (b 0)), (1, .int x), (2, .int 0), (3, .int 0)]) [1, 2, 3, 0] dM_outcome_22 rfl (by decide) rfl ?_
    refine v_iconst C (v := 0) dM_outcome_23 (by decide) ?_
    refine v_istore C (lv' := [(0, .ref (b 0)), (1, .int x), (2, .int 0), (3, .int 0), (4, .int 0)]) [1, 2, 3, 4, 0] dM_outcome_24 (by decide) rfl ?_
    refine v_iconst C (v := 0) dM_outcome_26 (by decide) ?_
    refine v_istore C (lv' := [(0, .ref (b 0)), (1, .int x), (2, .int 0), (3, .int 0), (4, .int 0), (5, .int 0)]) [1, 2, 3, 4, 5, 0] dM_outcome_27 (by decide) rfl ?_
    refine v_iconst C (v := 0) dM_outcome_29 (by decide) ?_
    refine v_istore C (lv' := [(0, .ref (b 0)), (1, .int x), (2, .int 0), (3, .int 0), (4, .int 0), (5, .int 0), (6, .int 0)]) [1, 2, 3, 4, 5, 6, 0] dM_outcome_30 (by decide) rfl ?_
    refine v_loop4 n (fun (i : Nat) (u2 : Int32) (u3 : Int32) (u4 : Int32) (u5 : Int32) => wM cI cZ b (upd F 2 0) a) (fun (i : Nat) (u2 : Int32) (u3 : Int32) (u4 : Int32) (u5 : Int32) => [(0, .ref (b 0)), (1, .int x), (2, .int u2), (3, .int u3), (4, .int u4), (5, .int u5), (6, .int (nI i))]) (fun (ki i : Nat) (u2 : Int32) (u3 : Int32) (u4 : Int32) (u5 : Int32) => mOutcomeL F a n x ki i u2 u3 u4 u5 = mOutcomeL F a n x n 0 0 0 0 0) ?_ ?_ n 0 0 0 0 0 (by omega) rfl
    · skip
      intro ki i u2 u3 u4 u5 hki hIi ihi
      have hIi : mOutcomeL F a n x (ki + 1) i u2 u3 u4 u5 = mOutcomeL F a n x n 0 0 0 0 0 := hIi
      refine v_as (w' := wM cI cZ b (upd F 2 0) a) (lv' := [(0, .ref (b 0)), (1, .int x), (2, .int u2), (3, .int u3), (4, .int u4), (5, .int u5), (6, .int (nI i))]) rfl rfl ?_
      refine v_iload C 6 dM_outcome_32 rfl ?_
      refine v_aload_n C 0 dM_outcome_34 rfl rfl ?_
      refine v_get C (T := TcM) (N := 18) (ci := 2) (v := .int (F 9)) inM_outcome_M 0 rfl rfl 9 (by decide) (by decide +kernel) rfl rfl dM_outcome_35 ?_
      refine v_top (y := nI n) hn ?_
      refine v_icmp_ge C dM_outcome_38 (tgt := 131) (by decide) (fun h => absurd h (nI_ge (a := i) (b := n) (by omega) (by omega))) (fun _ => ?_)
      refine v_aload_n C 0 dM_outcome_41 rfl rfl ?_
      refine v_get C (T := TcM) (N := 18) (ci := 2) (v := .ref (b 3)) inM_outcome_M 0 rfl rfl 12 (by decide) (by decide +kernel) rfl rfl dM_outcome_42 ?_
      refine v_iload C 6 dM_outcome_45 rfl ?_
      refine v_iald C 3 0 (f := a 12) (y := (a 12) i) (j := i) rfl rfl (nI_clamp (by omega)) rfl (vp_in_nI (by omega) (by decide)) dM_outcome_47 ?_
      refine v_iconst C (v := 2) dM_outcome_48 (by decide) ?_
      refine v_icmp_ne C dM_outcome_49 (tgt := 56) (by decide) (fun h2 => ?_) (fun h2 => ?_)
      · skip
        refine v_iconst C (v := 0) dM_outcome_56 (by decide) ?_
        refine v_istore C (lv' := [(0, .ref (b 0)), (1, .int x), (2, .int u2), (3, .int u3), (4, .int u4), (5, .int u5), (6, .int (nI i)), (7, .int 0)]) [1, 2, 3, 4, 5, 6, 7, 0] dM_outcome_57 (by decide) rfl ?_
        refine v_aload_n C 0 dM_outcome_59 rfl rfl ?_
        refine v_get C (T := TcM) (N := 18) (ci := 2) (v := .ref (b 2)) inM_outcome_M 0 rfl rfl 11 (by decide) (by decide +kernel) rfl rfl dM_outcome_60 ?_
        refine v_iload C 6 dM_outcome_63 rfl ?_
        refine v_iald C 2 0 (f := a 11) (y := (a 11) i) (j := i) rfl rfl (nI_clamp (by omega)) rfl (vp_in_nI (by omega) (by decide)) dM_outcome_65 ?_
        refine v_iload_n C 1 dM_outcome_66 rfl rfl ?_
        refine v_icmp_ne C dM_outcome_67 (tgt := 73) (by decide) (fun h3 => ?_) (fun h3 => ?_)
        · skip
          refine v_aload_n C 0 dM_outcome_73 rfl rfl ?_
          refine v_get C (T := TcM) (N := 18) (ci := 2) (v := .ref (b 1)) inM_outcome_M 0 rfl rfl 10 (by decide) (by decide +kernel) rfl rfl dM_outcome_74 ?_
          refine v_iload C 6 dM_outcome_77 rfl ?_
          refine v_iald C 1 0 (f := a 10) (y := (a 10) i) (j := i) rfl rfl (nI_clamp (by omega)) rfl (vp_in_nI (by omega) (by decide)) dM_outcome_79 ?_
          refine v_iload_n C 1 dM_outcome_80 rfl rfl ?_
          refine v_icmp_ne C dM_outcome_81 (tgt := 87) (by decide) (fun h4 => ?_) (fun h4 => ?_)
          · skip
            refine v_aload_n C 0 dM_outcome_87 rfl rfl ?_
            refine v_get C (T := TcM) (N := 18) (ci := 2) (v := .ref (b 2)) inM_outcome_M 0 rfl rfl 11 (by decide) (by decide +kernel) rfl rfl dM_outcome_88 ?_
            refine v_iload C 6 dM_outcome_91 rfl ?_
            refine v_iald C 2 0 (f := a 11) (y := (a 11) i) (j := i) rfl rfl (nI_clamp (by omega)) rfl (vp_in_nI (by omega) (by decide)) dM_outcome_93 ?_
            refine v_iload_n C 1 dM_outcome_94 rfl rfl ?_
            refine v_icmp_ne C dM_outcome_95 (tgt := 106) (by decide) (fun _ => ?_) (fun h => absurd h h3)
            refine v_aload_n C 0 dM_outcome_106 rfl rfl ?_
            refine v_get C (T := TcM) (N := 18) (ci := 2) (v := .ref (b 1)) inM_outcome_M 0 rfl rfl 10 (by decide) (by decide +kernel) rfl rfl dM_outcome_107 ?_
            refine v_iload C 6 dM_outcome_110 rfl ?_
            refine v_iald C 1 0 (f := a 10) (y := (a 10) i) (j := i) rfl rfl (nI_clamp (by omega)) rfl (vp_in_nI (by omega) (by decide)) dM_outcome_112 ?_
            refine v_iload_n C 1 dM_outcome_113 rfl rfl ?_
            refine v_icmp_ne C dM_outcome_114 (tgt := 125) (by decide) (fun _ => ?_) (fun h => absurd h h4)
            refine v_iinc C (v := nI (i + 1)) (lv' := [(0, .ref (b 0)), (1, .int x), (2, .int u2), (3, .int u3), (4, .int u4), (5, .int u5), (6, .int (nI (i + 1))), (7, .int 0)]) 6 [1, 2, 3, 4, 5, 6, 0, 7] dM_outcome_125 rfl (nI_1 i) (by decide) rfl ?_
            refine v_goto C dM_outcome_128 (tgt := 32) (by decide) ?_
            refine v_loc (lv' := [(0, .ref (b 0)), (1, .int x), (2, .int u2), (3, .int u3), (4, .int u4), (5, .int u5), (6, .int (nI (i + 1)))]) [0, 1, 2, 3, 4, 5, 6] rfl ?_
            have hL : mOutcomeL F a n x ki (i + 1) u2 u3 u4 u5 = mOutcomeL F a n x n 0 0 0 0 0 := (by rw [← hIi]; simp only [mOutcomeL]; rw [if_neg h2, if_neg h3, if_neg h4])
            exact ihi u2 u3 u4 u5 hL
          · skip
            refine v_iinc C (v := u5 + 1) (lv' := [(0, .ref (b 0)), (1, .int x), (2, .int u2), (3, .int u3), (4, .int u4), (5, .int (u5 + 1)), (6, .int (nI i)), (7, .int 0)]) 5 [1, 2, 3, 4, 5, 0, 6, 7] dM_outcome_84 rfl rfl (by decide) rfl ?_
            refine v_aload_n C 0 dM_outcome_87 rfl rfl ?_
            refine v_get C (T := TcM) (N := 18) (ci := 2) (v := .ref (b 2)) inM_outcome_M 0 rfl rfl 11 (by decide) (by decide +kernel) rfl rfl dM_outcome_88 ?_
            refine v_iload C 6 dM_outcome_91 rfl ?_
            refine v_iald C 2 0 (f := a 11) (y := (a 11) i) (j := i) rfl rfl (nI_clamp (by omega)) rfl (vp_in_nI (by omega) (by decide)) dM_outcome_93 ?_
            refine v_iload_n C 1 dM_outcome_94 rfl rfl ?_
            refine v_icmp_ne C dM_outcome_95 (tgt := 106) (by decide) (fun _ => ?_) (fun h => absurd h h3)
            refine v_aload_n C 0 dM_outcome_106 rfl rfl ?_
            refine v_get C (T := TcM) (N := 18) (ci := 2) (v := .ref (b 1)) inM_outcome_M 0 rfl rfl 10 (by decide) (by decide +kernel) rfl rfl dM_outcome_107 ?_
            refine v_iload C 6 dM_outcome_110 rfl ?_
            refine v_iald C 1 0 (f := a 10) (y := (a 10) i) (j := i) rfl rfl (nI_clamp (by omega)) rfl (vp_in_nI (by omega) (by decide)) dM_outcome_112 ?_
            refine v_iload_n C 1 dM_outcome_113 rfl rfl ?_
            refine v_icmp_ne C dM_outcome_114 (tgt := 125) (by decide) (fun h => absurd h4 h) (fun _ => ?_)
            refine v_iload C 7 dM_outcome_117 rfl ?_
            refine v_if_eq C dM_outcome_119 (tgt := 125) (by decide) (fun _ => ?_) (fun h => absurd h (by decide))
            refine v_iinc C (v := nI (i + 1)) (lv' := [(0, .ref (b 0)), (1, .int x), (2, .int u2), (3, .int u3), (4, .int u4), (5, .int (u5 + 1)), (6, .int (nI (i + 1))), (7, .int 0)]) 6 [1, 2, 3, 4, 5, 6, 0, 7] dM_outcome_125 rfl (nI_1 i) (by decide) rfl ?_
            refine v_goto C dM_outcome_128 (tgt := 32) (by decide) ?_
            refine v_loc (lv' := [(0, .ref (b 0)), (1, .int x), (2, .int u2), (3, .int u3), (4, .int u4), (5, .int (u5 + 1)), (6, .int (nI (i + 1)))]) [0, 1, 2, 3, 4, 5, 6] rfl ?_
            have hL : mOutcomeL F a n x ki (i + 1) u2 u3 u4 (u5 + 1) = mOutcomeL F a n x n 0 0 0 0 0 := (by rw [← hIi]; simp only [mOutcomeL]; rw [if_neg h2, if_neg h3, if_pos h4])
            exact ihi u2 u3 u4 (u5 + 1) hL
        · skip
          refine v_iinc C (v := u4 + 1) (lv' := [(0, .ref (b 0)), (1, .int x), (2, .int u2), (3, .int u3), (4, .int (u4 + 1)), (5, .int u5), (6, .int (nI i)), (7, .int 0)]) 4 [1, 2, 3, 4, 0, 5, 6, 7] dM_outcome_70 rfl rfl (by decide) rfl ?_
          refine v_aload_n C 0 dM_outcome_73 rfl rfl ?_
          refine v_get C (T := TcM) (N := 18) (ci := 2) (v := .ref (b 1)) inM_outcome_M 0 rfl rfl 10 (by decide) (by decide +kernel) rfl rfl dM_outcome_74 ?_
          refine v_iload C 6 dM_outcome_77 rfl ?_
          refine v_iald C 1 0 (f := a 10) (y := (a 10) i) (j := i) rfl rfl (nI_clamp (by omega)) rfl (vp_in_nI (by omega) (by decide)) dM_outcome_79 ?_
          refine v_iload_n C 1 dM_outcome_80 rfl rfl ?_
          refine v_icmp_ne C dM_outcome_81 (tgt := 87) (by decide) (fun h5 => ?_) (fun h5 => ?_)
          · skip
            refine v_aload_n C 0 dM_outcome_87 rfl rfl ?_
            refine v_get C (T := TcM) (N := 18) (ci := 2) (v := .ref (b 2)) inM_outcome_M 0 rfl rfl 11 (by decide) (by decide +kernel) rfl rfl dM_outcome_88 ?_
            refine v_iload C 6 dM_outcome_91 rfl ?_
            refine v_iald C 2 0 (f := a 11) (y := (a 11) i) (j := i) rfl rfl (nI_clamp (by omega)) rfl (vp_in_nI (by omega) (by decide)) dM_outcome_93 ?_
            refine v_iload_n C 1 dM_outcome_94 rfl rfl ?_
            refine v_icmp_ne C dM_outcome_95 (tgt := 106) (by decide) (fun h => absurd h3 h) (fun _ => ?_)
            refine v_iload C 7 dM_outcome_98 rfl ?_
            refine v_if_eq C dM_outcome_100 (tgt := 106) (by decide) (fun _ => ?_) (fun h => absurd h (by decide))
            refine v_aload_n C 0 dM_outcome_106 rfl rfl ?_
            refine v_get C (T := TcM) (N := 18) (ci := 2) (v := .ref (b 1)) inM_outcome_M 0 rfl rfl 10 (by decide) (by decide +kernel) rfl rfl dM_outcome_107 ?_
            refine v_iload C 6 dM_outcome_110 rfl ?_
            refine v_iald C 1 0 (f := a 10) (y := (a 10) i) (j := i) rfl rfl (nI_clamp (by omega)) rfl (vp_in_nI (by omega) (by decide)) dM_outcome_112 ?_
            refine v_iload_n C 1 dM_outcome_113 rfl rfl ?_
            refine v_icmp_ne C dM_outcome_114 (tgt := 125) (by decide) (fun _ => ?_) (fun h => absurd h h5)
            refine v_iinc C (v := nI (i + 1)) (lv' := [(0, .ref (b 0)), (1, .int x), (2, .int u2), (3, .int u3), (4, .int (u4 + 1)), (5, .int u5), (6, .int (nI (i + 1))), (7, .int 0)]) 6 [1, 2, 3, 4, 5, 6, 0, 7] dM_outcome_125 rfl (nI_1 i) (by decide) rfl ?_
            refine v_goto C dM_outcome_128 (tgt := 32) (by decide) ?_
            refine v_loc (lv' := [(0, .ref (b 0)), (1, .int x), (2, .int u2), (3, .int u3), (4, .int (u4 + 1)), (5, .int u5), (6, .int (nI (i + 1)))]) [0, 1, 2, 3, 4, 5, 6] rfl ?_
            have hL : mOutcomeL F a n x ki (i + 1) u2 u3 (u4 + 1) u5 = mOutcomeL F a n x n 0 0 0 0 0 := (by rw [← hIi]; simp only [mOutcomeL]; rw [if_neg h2, if_pos h3, if_neg h5])
            exact ihi u2 u3 (u4 + 1) u5 hL
          · skip
            refine v_iinc C (v := u5 + 1) (lv' := [(0, .ref (b 0)), (1, .int x), (2, .int u2), (3, .int u3), (4, .int (u4 + 1)), (5, .int (u5 + 1)), (6, .int (nI i)), (7, .int 0)]) 5 [1, 2, 3, 4, 5, 0, 6, 7] dM_outcome_84 rfl rfl (by decide) rfl ?_
            refine v_aload_n C 0 dM_outcome_87 rfl rfl ?_
            refine v_get C (T := TcM) (N := 18) (ci := 2) (v := .ref (b 2)) inM_outcome_M 0 rfl rfl 11 (by decide) (by decide +kernel) rfl rfl dM_outcome_88 ?_
            refine v_iload C 6 dM_outcome_91 rfl ?_
            refine v_iald C 2 0 (f := a 11) (y := (a 11) i) (j := i) rfl rfl (nI_clamp (by omega)) rfl (vp_in_nI (by omega) (by decide)) dM_outcome_93 ?_
            refine v_iload_n C 1 dM_outcome_94 rfl rfl ?_
            refine v_icmp_ne C dM_outcome_95 (tgt := 106) (by decide) (fun h => absurd h3 h) (fun _ => ?_)
            refine v_iload C 7 dM_outcome_98 rfl ?_
            refine v_if_eq C dM_outcome_100 (tgt := 106) (by decide) (fun _ => ?_) (fun h => absurd h (by decide))
            refine v_aload_n C 0 dM_outcome_106 rfl rfl ?_
            refine v_get C (T := TcM) (N := 18) (ci := 2) (v := .ref (b 1)) inM_outcome_M 0 rfl rfl 10 (by decide) (by decide +kernel) rfl rfl dM_outcome_107 ?_
            refine v_iload C 6 dM_outcome_110 rfl ?_
            refine v_iald C 1 0 (f := a 10) (y := (a 10) i) (j := i) rfl rfl (nI_clamp (by omega)) rfl (vp_in_nI (by omega) (by decide)) dM_outcome_112 ?_
            refine v_iload_n C 1 dM_outcome_113 rfl rfl ?_
            refine v_icmp_ne C dM_outcome_114 (tgt := 125) (by decide) (fun h => absurd h5 h) (fun _ => ?_)
            refine v_iload C 7 dM_outcome_117 rfl ?_
            refine v_if_eq C dM_outcome_119 (tgt := 125) (by decide) (fun _ => ?_) (fun h => absurd h (by decide))
            refine v_iinc C (v := nI (i + 1)) (lv' := [(0, .ref (b 0)), (1, .int x), (2, .int u2), (3, .int u3), (4, .int (u4 + 1)), (5, .int (u5 + 1)), (6, .int (nI (i + 1))), (7, .int 0)]) 6 [1, 2, 3, 4, 5, 6, 0, 7] dM_outcome_125 rfl (nI_1 i) (by decide) rfl ?_
            refine v_goto C dM_outcome_128 (tgt := 32) (by decide) ?_
            refine v_loc (lv' := [(0, .ref (b 0)), (1, .int x), (2, .int u2), (3, .int u3), (4, .int (u4 + 1)), (5, .int (u5 + 1)), (6, .int (nI (i + 1)))]) [0, 1, 2, 3, 4, 5, 6] rfl ?_
            have hL : mOutcomeL F a n x ki (i + 1) u2 u3 (u4 + 1) (u5 + 1) = mOutcomeL F a n x n 0 0 0 0 0 := (by rw [← hIi]; simp only [mOutcomeL]; rw [if_neg h2, if_pos h3, if_pos h5])
            exact ihi u2 u3 (u4 + 1) (u5 + 1) hL
      · skip
        refine v_iconst C (v := 1) dM_outcome_52 (by decide) ?_
        refine v_goto C dM_outcome_53 (tgt := 57) (by decide) ?_
        refine v_istore C (lv' := [(0, .ref (b 0)), (1, .int x), (2, .int u2), (3, .int u3), (4, .int u4), (5, .int u5), (6, .int (nI i)), (7, .int 1)]) [1, 2, 3, 4, 5, 6, 7, 0] dM_outcome_57 (by decide) rfl ?_
        refine v_aload_n C 0 dM_outcome_59 rfl rfl ?_
        refine v_get C (T := TcM) (N := 18) (ci := 2) (v := .ref (b 2)) inM_outcome_M 0 rfl rfl 11 (by decide) (by decide +kernel) rfl rfl dM_outcome_60 ?_
        refine v_iload C 6 dM_outcome_63 rfl ?_
        refine v_iald C 2 0 (f := a 11) (y := (a 11) i) (j := i) rfl rfl (nI_clamp (by omega)) rfl (vp_in_nI (by omega) (by decide)) dM_outcome_65 ?_
        refine v_iload_n C 1 dM_outcome_66 rfl rfl ?_
        refine v_icmp_ne C dM_outcome_67 (tgt := 73) (by decide) (fun h6 => ?_) (fun h6 => ?_)
        · skip
          refine v_aload_n C 0 dM_outcome_73 rfl rfl ?_
          refine v_get C (T := TcM) (N := 18) (ci := 2) (v := .ref (b 1)) inM_outcome_M 0 rfl rfl 10 (by decide) (by decide +kernel) rfl rfl dM_outcome_74 ?_
          refine v_iload C 6 dM_outcome_77 rfl ?_
          refine v_iald C 1 0 (f := a 10) (y := (a 10) i) (j := i) rfl rfl (nI_clamp (by omega)) rfl (vp_in_nI (by omega) (by decide)) dM_outcome_79 ?_
          refine v_iload_n C 1 dM_outcome_80 rfl rfl ?_
          refine v_icmp_ne C dM_outcome_81 (tgt := 87) (by decide) (fun h7 => ?_) (fun h7 => ?_)
          · skip
            refine v_aload_n C 0 dM_outcome_87 rfl rfl ?_
            refine v_get C (T := TcM) (N := 18) (ci := 2) (v := .ref (b 2)) inM_outcome_M 0 rfl rfl 11 (by decide) (by decide +kernel) rfl rfl dM_outcome_88 ?_
            refine v_iload C 6 dM_outcome_91 rfl ?_
            refine v_iald C 2 0 (f := a 11) (y := (a 11) i) (j := i) rfl rfl (nI_clamp (by omega)) rfl (vp_in_nI (by omega) (by decide)) dM_outcome_93 ?_
            refine v_iload_n C 1 dM_outcome_94 rfl rfl ?_
            refine v_icmp_ne C dM_outcome_95 (tgt := 106) (by decide) (fun _ => ?_) (fun h => absurd h h6)
            refine v_aload_n C 0 dM_outcome_106 rfl rfl ?_
            refine v_get C (T := TcM) (N := 18) (ci := 2) (v := .ref (b 1)) inM_outcome_M 0 rfl rfl 10 (by decide) (by decide +kernel) rfl rfl dM_outcome_107 ?_
            refine v_iload C 6 dM_outcome_110 rfl ?_
            refine v_iald C 1 0 (f := a 10) (y := (a 10) i) (j := i) rfl rfl (nI_clamp (by omega)) rfl (vp_in_nI (by omega) (by decide)) dM_outcome_112 ?_
            refine v_iload_n C 1 dM_outcome_113 rfl rfl ?_
            refine v_icmp_ne C dM_outcome_114 (tgt := 125) (by decide) (fun _ => ?_) (fun h => absurd h h7)
            refine v_iinc C (v := nI (i + 1)) (lv' := [(0, .ref (b 0)), (1, .int x), (2, .int u2), (3, .int u3), (4, .int u4), (5, .int u5), (6, .int (nI (i + 1))), (7, .int 1)]) 6 [1, 2, 3, 4, 5, 6, 0, 7] dM_outcome_125 rfl (nI_1 i) (by decide) rfl ?_
            refine v_goto C dM_outcome_128 (tgt := 32) (by decide) ?_
            refine v_loc (lv' := [(0, .ref (b 0)), (1, .int x), (2, .int u2), (3, .int u3), (4, .int u4), (5, .int u5), (6, .int (nI (i + 1)))]) [0, 1, 2, 3, 4, 5, 6] rfl ?_
            have hL : mOutcomeL F a n x ki (i + 1) u2 u3 u4 u5 = mOutcomeL F a n x n 0 0 0 0 0 := (by rw [← hIi]; simp only [mOutcomeL]; rw [if_pos h2, if_neg h6, if_neg h7])
            exact ihi u2 u3 u4 u5 hL
          · skip
            refine v_iinc C (v := u5 + 1) (lv' := [(0, .ref (b 0)), (1, .int x), (2, .int u2), (3, .int u3), (4, .int u4), (5, .int (u5 + 1)), (6, .int (nI i)), (7, .int 1)]) 5 [1, 2, 3, 4, 5, 0, 6, 7] dM_outcome_84 rfl rfl (by decide) rfl ?_
            refine v_aload_n C 0 dM_outcome_87 rfl rfl ?_
            refine v_get C (T := TcM) (N := 18) (ci := 2) (v := .ref (b 2)) inM_outcome_M 0 rfl rfl 11 (by decide) (by decide +kernel) rfl rfl dM_outcome_88 ?_
            refine v_iload C 6 dM_outcome_91 rfl ?_
            refine v_iald C 2 0 (f := a 11) (y := (a 11) i) (j := i) rfl rfl (nI_clamp (by omega)) rfl (vp_in_nI (by omega) (by decide)) dM_outcome_93 ?_
            refine v_iload_n C 1 dM_outcome_94 rfl rfl ?_
            refine v_icmp_ne C dM_outcome_95 (tgt := 106) (by decide) (fun _ => ?_) (fun h => absurd h h6)
            refine v_aload_n C 0 dM_outcome_106 rfl rfl ?_
            refine v_get C (T := TcM) (N := 18) (ci := 2) (v := .ref (b 1)) inM_outcome_M 0 rfl rfl 10 (by decide) (by decide +kernel) rfl rfl dM_outcome_107 ?_
            refine v_iload C 6 dM_outcome_110 rfl ?_
            refine v_iald C 1 0 (f := a 10) (y := (a 10) i) (j := i) rfl rfl (nI_clamp (by omega)) rfl (vp_in_nI (by omega) (by decide)) dM_outcome_112 ?_
            refine v_iload_n C 1 dM_outcome_113 rfl rfl ?_
            refine v_icmp_ne C dM_outcome_114 (tgt := 125) (by decide) (fun h => absurd h7 h) (fun _ => ?_)
            refine v_iload C 7 dM_outcome_117 rfl ?_
            refine v_if_eq C dM_outcome_119 (tgt := 125) (by decide) (fun h => absurd h (by decide)) (fun _ => ?_)
            refine v_iinc C (v := u3 + 1) (lv' := [(0, .ref (b 0)), (1, .int x), (2, .int u2), (3, .int (u3 + 1)), (4, .int u4), (5, .int (u5 + 1)), (6, .int (nI i)), (7, .int 1)]) 3 [1, 2, 3, 0, 4, 5, 6, 7] dM_outcome_122 rfl rfl (by decide) rfl ?_
            refine v_iinc C (v := nI (i + 1)) (lv' := [(0, .ref (b 0)), (1, .int x), (2, .int u2), (3, .int (u3 + 1)), (4, .int u4), (5, .int (u5 + 1)), (6, .int (nI (i + 1))), (7, .int 1)]) 6 [1, 2, 3, 4, 5, 6, 0, 7] dM_outcome_125 rfl (nI_1 i) (by decide) rfl ?_
            refine v_goto C dM_outcome_128 (tgt := 32) (by decide) ?_
            refine v_loc (lv' := [(0, .ref (b 0)), (1, .int x), (2, .int u2), (3, .int (u3 + 1)), (4, .int u4), (5, .int (u5 + 1)), (6, .int (nI (i + 1)))]) [0, 1, 2, 3, 4, 5, 6] rfl ?_
            have hL : mOutcomeL F a n x ki (i + 1) u2 (u3 + 1) u4 (u5 + 1) = mOutcomeL F a n x n 0 0 0 0 0 := (by rw [← hIi]; simp only [mOutcomeL]; rw [if_pos h2, if_neg h6, if_pos h7])
            exact ihi u2 (u3 + 1) u4 (u5 + 1) hL
        · skip
          refine v_iinc C (v := u4 + 1) (lv' := [(0, .ref (b 0)), (1, .int x), (2, .int u2), (3, .int u3), (4, .int (u4 + 1)), (5, .int u5), (6, .int (nI i)), (7, .int 1)]) 4 [1, 2, 3, 4, 0, 5, 6, 7] dM_outcome_70 rfl rfl (by decide) rfl ?_
          refine v_aload_n C 0 dM_outcome_73 rfl rfl ?_
          refine v_get C (T := TcM) (N := 18) (ci := 2) (v := .ref (b 1)) inM_outcome_M 0 rfl rfl 10 (by decide) (by decide +kernel) rfl rfl dM_outcome_74 ?_
          refine v_iload C 6 dM_outcome_77 rfl ?_
          refine v_iald C 1 0 (f := a 10) (y := (a 10) i) (j := i) rfl rfl (nI_clamp (by omega)) rfl (vp_in_nI (by omega) (by decide)) dM_outcome_79 ?_
          refine v_iload_n C 1 dM_outcome_80 rfl rfl ?_
          refine v_icmp_ne C dM_outcome_81 (tgt := 87) (by decide) (fun h8 => ?_) (fun h8 => ?_)
          · skip
            refine v_aload_n C 0 dM_outcome_87 rfl rfl ?_
            refine v_get C (T := TcM) (N := 18) (ci := 2) (v := .ref (b 2)) inM_outcome_M 0 rfl rfl 11 (by decide) (by decide +kernel) rfl rfl dM_outcome_88 ?_
            refine v_iload C 6 dM_outcome_91 rfl ?_
            refine v_iald C 2 0 (f := a 11) (y := (a 11) i) (j := i) rfl rfl (nI_clamp (by omega)) rfl (vp_in_nI (by omega) (by decide)) dM_outcome_93 ?_
            refine v_iload_n C 1 dM_outcome_94 rfl rfl ?_
            refine v_icmp_ne C dM_outcome_95 (tgt := 106) (by decide) (fun h => absurd h6 h) (fun _ => ?_)
            refine v_iload C 7 dM_outcome_98 rfl ?_
            refine v_if_eq C dM_outcome_100 (tgt := 106) (by decide) (fun h => absurd h (by decide)) (fun _ => ?_)
            refine v_iinc C (v := u2 + 1) (lv' := [(0, .ref (b 0)), (1, .int x), (2, .int (u2 + 1)), (3, .int u3), (4, .int (u4 + 1)), (5, .int u5), (6, .int (nI i)), (7, .int 1)]) 2 [1, 2, 0, 3, 4, 5, 6, 7] dM_outcome_103 rfl rfl (by decide) rfl ?_
            refine v_aload_n C 0 dM_outcome_106 rfl rfl ?_
            refine v_get C (T := TcM) (N := 18) (ci := 2) (v := .ref (b 1)) inM_outcome_M 0 rfl rfl 10 (by decide) (by decide +kernel) rfl rfl dM_outcome_107 ?_
            refine v_iload C 6 dM_outcome_110 rfl ?_
            refine v_iald C 1 0 (f := a 10) (y := (a 10) i) (j := i) rfl rfl (nI_clamp (by omega)) rfl (vp_in_nI (by omega) (by decide)) dM_outcome_112 ?_
            refine v_iload_n C 1 dM_outcome_113 rfl rfl ?_
            refine v_icmp_ne C dM_outcome_114 (tgt := 125) (by decide) (fun _ => ?_) (fun h => absurd h h8)
            refine v_iinc C (v := nI (i + 1)) (lv' := [(0, .ref (b 0)), (1, .int x), (2, .int (u2 + 1)), (3, .int u3), (4, .int (u4 + 1)), (5, .int u5), (6, .int (nI (i + 1))), (7, .int 1)]) 6 [1, 2, 3, 4, 5, 6, 0, 7] dM_outcome_125 rfl (nI_1 i) (by decide) rfl ?_
            refine v_goto C dM_outcome_128 (tgt := 32) (by decide) ?_
            refine v_loc (lv' := [(0, .ref (b 0)), (1, .int x), (2, .int (u2 + 1)), (3, .int u3), (4, .int (u4 + 1)), (5, .int u5), (6, .int (nI (i + 1)))]) [0, 1, 2, 3, 4, 5, 6] rfl ?_
            have hL : mOutcomeL F a n x ki (i + 1) (u2 + 1) u3 (u4 + 1) u5 = mOutcomeL F a n x n 0 0 0 0 0 := (by rw [← hIi]; simp only [mOutcomeL]; rw [if_pos h2, if_pos h6, if_neg h8])
            exact ihi (u2 + 1) u3 (u4 + 1) u5 hL
          · skip
            refine v_iinc C (v := u5 + 1) (lv' := [(0, .ref (b 0)), (1, .int x), (2, .int u2), (3, .int u3), (4, .int (u4 + 1)), (5, .int (u5 + 1)), (6, .int (nI i)), (7, .int 1)]) 5 [1, 2, 3, 4, 5, 0, 6, 7] dM_outcome_84 rfl rfl (by decide) rfl ?_
            refine v_aload_n C 0 dM_outcome_87 rfl rfl ?_
            refine v_get C (T := TcM) (N := 18) (ci := 2) (v := .ref (b 2)) inM_outcome_M 0 rfl rfl 11 (by decide) (by decide +kernel) rfl rfl dM_outcome_88 ?_
            refine v_iload C 6 dM_outcome_91 rfl ?_
            refine v_iald C 2 0 (f := a 11) (y := (a 11) i) (j := i) rfl rfl (nI_clamp (by omega)) rfl (vp_in_nI (by omega) (by decide)) dM_outcome_93 ?_
            refine v_iload_n C 1 dM_outcome_94 rfl rfl ?_
            refine v_icmp_ne C dM_outcome_95 (tgt := 106) (by decide) (fun h => absurd h6 h) (fun _ => ?_)
            refine v_iload C 7 dM_outcome_98 rfl ?_
            refine v_if_eq C dM_outcome_100 (tgt := 106) (by decide) (fun h => absurd h (by decide)) (fun _ => ?_)
            refine v_iinc C (v := u2 + 1) (lv' := [(0, .ref (b 0)), (1, .int x), (2, .int (u2 + 1)), (3, .int u3), (4, .int (u4 + 1)), (5, .int (u5 + 1)), (6, .int (nI i)), (7, .int 1)]) 2 [1, 2, 0, 3, 4, 5, 6, 7] dM_outcome_103 rfl rfl (by decide) rfl ?_
            refine v_aload_n C 0 dM_outcome_106 rfl rfl ?_
            refine v_get C (T := TcM) (N := 18) (ci := 2) (v := .ref (b 1)) inM_outcome_M 0 rfl rfl 10 (by decide) (by decide +kernel) rfl rfl dM_outcome_107 ?_
            refine v_iload C 6 dM_outcome_110 rfl ?_
            refine v_iald C 1 0 (f := a 10) (y := (a 10) i) (j := i) rfl rfl (nI_clamp (by omega)) rfl (vp_in_nI (by omega) (by decide)) dM_outcome_112 ?_
            refine v_iload_n C 1 dM_outcome_113 rfl rfl ?_
            refine v_icmp_ne C dM_outcome_114 (tgt := 125) (by decide) (fun h => absurd h8 h) (fun _ => ?_)
            refine v_iload C 7 dM_outcome_117 rfl ?_
            refine v_if_eq C dM_outcome_119 (tgt := 125) (by decide) (fun h => absurd h (by decide)) (fun _ => ?_)
            refine v_iinc C (v := u3 + 1) (lv' := [(0, .ref (b 0)), (1, .int x), (2, .int (u2 + 1)), (3, .int (u3 + 1)), (4, .int (u4 + 1)), (5, .int (u5 + 1)), (6, .int (nI i)), (7, .int 1)]) 3 [1, 2, 3, 0, 4, 5, 6, 7] dM_outcome_122 rfl rfl (by decide) rfl ?_
            refine v_iinc C (v := nI (i + 1)) (lv' := [(0, .ref (b 0)), (1, .int x), (2, .int (u2 + 1)), (3, .int (u3 + 1)), (4, .int (u4 + 1)), (5, .int (u5 + 1)), (6, .int (nI (i + 1))), (7, .int 1)]) 6 [1, 2, 3, 4, 5, 6, 0, 7] dM_outcome_125 rfl (nI_1 i) (by decide) rfl ?_
            refine v_goto C dM_outcome_128 (tgt := 32) (by decide) ?_
            refine v_loc (lv' := [(0, .ref (b 0)), (1, .int x), (2, .int (u2 + 1)), (3, .int (u3 + 1)), (4, .int (u4 + 1)), (5, .int (u5 + 1)), (6, .int (nI (i + 1)))]) [0, 1, 2, 3, 4, 5, 6] rfl ?_
            have hL : mOutcomeL F a n x ki (i + 1) (u2 + 1) (u3 + 1) (u4 + 1) (u5 + 1) = mOutcomeL F a n x n 0 0 0 0 0 := (by rw [← hIi]; simp only [mOutcomeL]; rw [if_pos h2, if_pos h6, if_pos h8])
            exact ihi (u2 + 1) (u3 + 1) (u4 + 1) (u5 + 1) hL
    · skip
      intro u2 u3 u4 u5 hIi
      have hIi : mOutcomeL F a n x 0 n u2 u3 u4 u5 = mOutcomeL F a n x n 0 0 0 0 0 := hIi
      refine v_as (w' := wM cI cZ b (upd F 2 0) a) (lv' := [(0, .ref (b 0)), (1, .int x), (2, .int u2), (3, .int u3), (4, .int u4), (5, .int u5), (6, .int (nI n))]) rfl rfl ?_
      obtain ⟨rfl, rfl, rfl, rfl⟩ : u2 = (mOutcomeL F a n x n 0 0 0 0 0).1 ∧ u3 = (mOutcomeL F a n x n 0 0 0 0 0).2.1 ∧ u4 = (mOutcomeL F a n x n 0 0 0 0 0).2.2.1 ∧ u5 = (mOutcomeL F a n x n 0 0 0 0 0).2.2.2 := by rw [← hIi]; exact ⟨rfl, rfl, rfl, rfl⟩
      refine v_iload C 6 dM_outcome_32 rfl ?_
      refine v_aload_n C 0 dM_outcome_34 rfl rfl ?_
      refine v_get C (T := TcM) (N := 18) (ci := 2) (v := .int (F 9)) inM_outcome_M 0 rfl rfl 9 (by decide) (by decide +kernel) rfl rfl dM_outcome_35 ?_
      refine v_top (y := nI n) hn ?_
      refine v_icmp_ge C dM_outcome_38 (tgt := 131) (by decide) (fun _ => ?_) (fun h => absurd (nI_le (a := n) (b := n) (by omega) (by omega)) h)
      refine v_iload_n C 2 dM_outcome_131 rfl rfl ?_
      refine v_if_ne C dM_outcome_132 (tgt := 141) (by decide) (fun h9 => ?_) (fun h9 => ?_)
      · skip
        refine v_iload_n C 2 dM_outcome_141 rfl rfl ?_
        refine v_iload C 4 dM_outcome_142 rfl ?_
        refine v_icmp_ne C dM_outcome_144 (tgt := 159) (by decide) (fun h10 => ?_) (fun h10 => ?_)
        · skip
          refine v_iload_n C 2 dM_outcome_159 rfl rfl ?_
          refine v_if_le C dM_outcome_160 (tgt := 171) (by decide) (fun h11 => ?_) (fun h11 => ?_)
          · skip
            refine v_iconst C (v := 4) dM_outcome_171 (by decide) ?_
            have hE : (4, upd F 2 0) = mOutcome F a n x := (by unfold mOutcome; rw [if_neg h1, if_neg h9, if_neg h10, if_pos h11])
            exact v_iret C hr (by rw [← hE]) (by rw [← hE]) dM_outcome_172
          · skip
            refine v_iload_n C 3 dM_outcome_163 rfl rfl ?_
            refine v_if_ne C dM_outcome_164 (tgt := 171) (by decide) (fun h12 => ?_) (fun h12 => ?_)
            · skip
              refine v_iconst C (v := 4) dM_outcome_171 (by decide) ?_
              have hE : (4, upd F 2 0) = mOutcome F a n x := (by unfold mOutcome; rw [if_neg h1, if_neg h9, if_neg h10, if_neg h11, if_neg h12])
              exact v_iret C hr (by rw [← hE]) (by rw [← hE]) dM_outcome_172
            · skip
              refine v_iconst C (v := 3) dM_outcome_167 (by decide) ?_
              refine v_goto C dM_outcome_168 (tgt := 172) (by decide) ?_
              have hE : (3, upd F 2 0) = mOutcome F a n x := (by unfold mOutcome; rw [if_neg h1, if_neg h9, if_neg h10, if_neg h11, if_pos h12])
              exact v_iret C hr (by rw [← hE]) (by rw [← hE]) dM_outcome_172
        · skip
          refine v_iload_n C 3 dM_outcome_147 rfl rfl ?_
          refine v_iload C 5 dM_outcome_148 rfl ?_
          refine v_icmp_ne C dM_outcome_150 (tgt := 157) (by decide) (fun h13 => ?_) (fun h13 => ?_)
          · skip
            refine v_iconst C (v := 2) dM_outcome_157 (by decide) ?_
            have hE : (2, upd F 2 0) = mOutcome F a n x := (by unfold mOutcome; rw [if_neg h1, if_neg h9, if_pos h10, if_neg h13])
            exact v_iret C hr (by rw [← hE]) (by rw [← hE]) dM_outcome_158
          · skip
            refine v_iconst C (v := 1) dM_outcome_153 (by decide) ?_
            refine v_goto C dM_outcome_154 (tgt := 158) (by decide) ?_
            have hE : (1, upd F 2 0) = mOutcome F a n x := (by unfold mOutcome; rw [if_neg h1, if_neg h9, if_pos h10, if_pos h13])
            exact v_iret C hr (by rw [← hE]) (by rw [← hE]) dM_outcome_158
      · skip
        refine v_iload_n C 3 dM_outcome_135 rfl rfl ?_
        refine v_if_ne C dM_outcome_136 (tgt := 141) (by decide) (fun h14 => ?_) (fun h14 => ?_)
        · skip
          refine v_iload_n C 2 dM_outcome_141 rfl rfl ?_
          refine v_iload C 4 dM_outcome_142 rfl ?_
          refine v_icmp_ne C dM_outcome_144 (tgt := 159) (by decide) (fun h15 => ?_) (fun h15 => ?_)
          · skip
            refine v_iload_n C 2 dM_outcome_159 rfl rfl ?_
            refine v_if_le C dM_outcome_160 (tgt := 171) (by decide) (fun h16 => ?_) (fun h16 => ?_)
            · skip
              refine v_iconst C (v := 4) dM_outcome_171 (by decide) ?_
              have hE : (4, upd F 2 0) = mOutcome F a n x := (by unfold mOutcome; rw [if_neg h1, if_pos h9, if_neg h14, if_neg h15, if_pos h16])
              exact v_iret C hr (by rw [← hE]) (by rw [← hE]) dM_outcome_172
            · skip
              refine v_iload_n C 3 dM_outcome_163 rfl rfl ?_
              refine v_if_ne C dM_outcome_164 (tgt := 171) (by decide) (fun _ => ?_) (fun h => absurd h h14)
              refine v_iconst C (v := 4) dM_outcome_171 (by decide) ?_
              have hE : (4, upd F 2 0) = mOutcome F a n x := (by unfold mOutcome; rw [if_neg h1, if_pos h9, if_neg h14, if_neg h15, if_neg h16])
              exact v_iret C hr (by rw [← hE]) (by rw [← hE]) dM_outcome_172
          · skip
            refine v_iload_n C 3 dM_outcome_147 rfl rfl ?_
            refine v_iload C 5 dM_outcome_148 rfl ?_
            refine v_icmp_ne C dM_outcome_150 (tgt := 157) (by decide) (fun h17 => ?_) (fun h17 => ?_)
            · skip
              refine v_iconst C (v := 2) dM_outcome_157 (by decide) ?_
              have hE : (2, upd F 2 0) = mOutcome F a n x := (by unfold mOutcome; rw [if_neg h1, if_pos h9, if_neg h14, if_pos h15, if_neg h17])
              exact v_iret C hr (by rw [← hE]) (by rw [← hE]) dM_outcome_158
            · skip
              refine v_iconst C (v := 1) dM_outcome_153 (by decide) ?_
              refine v_goto C dM_outcome_154 (tgt := 158) (by decide) ?_
              have hE : (1, upd F 2 0) = mOutcome F a n x := (by unfold mOutcome; rw [if_neg h1, if_pos h9, if_neg h14, if_pos h15, if_pos h17])
              exact v_iret C hr (by rw [← hE]) (by rw [← hE]) dM_outcome_158
        · skip
          refine v_iconst C (v := 0) dM_outcome_139 (by decide) ?_
          have hE : (0, upd F 2 0) = mOutcome F a n x := (by unfold mOutcome; rw [if_neg h1, if_pos h9, if_pos h14])
          exact v_iret C hr (by rw [← hE]) (by rw [← hE]) dM_outcome_140
  · skip
    refine v_aload_n C 0 dM_outcome_13 rfl rfl ?_
    refine v_iconst C (v := 1) dM_outcome_14 (by decide) ?_
    refine v_cViF (As := [.int 1]) C (c_mFail l D cI cZ cJ b (upd F 2 0) a 1) (cwV 1 C.2.2.2.2.1 gM_outcome_M_fail rfl rfl rfl (by decide +kernel) ⟨Nat.le_of_ble_eq_true rfl, Nat.le_of_ble_eq_true rfl⟩) 0 rfl (T := TcM) (N := 18) rfl rfl rfl (Nat.le_of_ble_eq_true rfl) ⟨Nat.zero_le _, Nat.zero_le _⟩ dM_outcome_15 ?_
    have hE : ((mFail (upd F 2 0) a 1).1, (mFail (upd F 2 0) a 1).2) = mOutcome F a n x := (by unfold mOutcome; rw [if_pos h1])
    exact v_iret C hr (by rw [← hE]) (by rw [← hE]) dM_outcome_18
set_option maxHeartbeats 4000000 in
set_option maxRecDepth 100000 in
theorem c_mArc (l : Launch) (D : va_G) (cI cZ cJ : ClassId) (b : Nat → Nat) (F : FT) (a : AT) (n : Nat) (P : Nat) (x : Int32) (y : Int32) (hn : F 9 = nI n) (hn4 : n ≤ 14) (hp : F 0 = nI P) (hp6 : P ≤ 6) : Ki l yM_arc wM_arc ({ frames := 1, cells := 0, slots := 0, locals := 21 } : Room) D vwCl (tyG cI cZ cJ) [.ref (b 0), .int x, .int y] (wM cI cZ b F a) ((mArc F a x y).1) (wM cI cZ b ((mArc F a x y).2.1) ((mArc F a x y).2.2)) := by
  intro sz
  refine v_ent (cc := bM_arc) (maxL := 3) (ret := (some .int)) (Qc := (fun A => va_Qi (fun (x9 : Int32) (_ : Unit) => x9 = (mArc F a x y).1) (fun _ => wB D vwCl (tyG cI cZ cJ) A (wM cI cZ b ((mArc F a x y).2.1) ((mArc F a x y).2.2))) A)) (fr := (fun A => A)) (own := RcM) rfl (by decide) rfl (Nat.le_of_ble_eq_true rfl) rfl ?_
  intro p e s m args below meth c A C hr _
  refine v_free ?_
  refine v_aload_n C 0 dM_arc_0 rfl rfl ?_
  refine v_iconst C (v := 0) dM_arc_1 (by decide) ?_
  refine v_put C (T := TcM) (N := 18) (ci := 2) (v := .int 0) inM_arc_M tycM tycM_ok nmcM 0 rfl rfl 2 (by decide) (by decide +kernel) rfl rfl rfl rfl (Nat.le_of_ble_eq_true rfl) dM_arc_2 (w1 := wM cI cZ b (upd F 2 0) a) rfl ?_
  refine v_aload_n C 0 dM_arc_5 rfl rfl ?_
  refine v_iload_n C 1 dM_arc_6 rfl rfl ?_
  refine v_cVrF (As := [.int x]) C (c_mIsParty l D cI cZ cJ b (upd F 2 0) a x) (cwV 1 C.2.2.2.2.1 gM_arc_M_isParty rfl rfl rfl (by decide +kernel) ⟨Nat.le_of_ble_eq_true rfl, Nat.le_of_ble_eq_true rfl⟩) 0 rfl (T := TcM) (N := 18) rfl rfl rfl (Nat.le_of_ble_eq_true rfl) ⟨Nat.zero_le _, Nat.zero_le _⟩ dM_arc_7 ?_
  refine v_if_eq C dM_arc_10 (tgt := 39) (by decide) (fun h1 => ?_) (fun h1 => ?_)
  · skip
    refine v_aload_n C 0 dM_arc_39 rfl rfl ?_
    refine v_iconst C (v := 1) dM_arc_40 (by decide) ?_
    refine v_cViF (As := [.int 1]) C (c_mFail l D cI cZ cJ b (upd F 2 0) a 1) (cwV 1 C.2.2.2.2.1 gM_arc_M_fail rfl rfl rfl (by decide +kernel) ⟨Nat.le_of_ble_eq_true rfl, Nat.le_of_ble_eq_true rfl⟩) 0 rfl (T := TcM) (N := 18) rfl rfl rfl (Nat.le_of_ble_eq_true rfl) ⟨Nat.zero_le _, Nat.zero_le _⟩ dM_arc_41 ?_
    have hE : ((mFail (upd F 2 0) a 1).1, (mFail (upd F 2 0) a 1).2, a) = mArc F a x y := (by unfold mArc; rw [if_pos h1])
    exact v_iret C hr (by rw [← hE]) (by rw [← hE]) dM_arc_44
  · skip
    refine v_aload_n C 0 dM_arc_13 rfl rfl ?_
    refine v_iload_n C 2 dM_arc_14 rfl rfl ?_
    refine v_cVrF (As := [.int y]) C (c_mIsParty l D cI cZ cJ b (upd F 2 0) a y) (cwV 1 C.2.2.2.2.1 gM_arc_M_isParty rfl rfl rfl (by decide +kernel) ⟨Nat.le_of_ble_eq_true rfl, Nat.le_of_ble_eq_true rfl⟩) 0 rfl (T := TcM) (N := 18) rfl rfl rfl (Nat.le_of_ble_eq_true rfl) ⟨Nat.zero_le _, Nat.zero_le _⟩ dM_arc_15 ?_
    refine v_if_eq C dM_arc_18 (tgt := 39) (by decide) (fun h2 => ?_) (fun h2 => ?_)
    · skip
      refine v_aload_n C 0 dM_arc_39 rfl rfl ?_
      refine v_iconst C (v := 1) dM_arc_40 (by decide) ?_
      refine v_cViF (As := [.int 1]) C (c_mFail l D cI cZ cJ b (upd F 2 0) a 1) (cwV 1 C.2.2.2.2.1 gM_arc_M_fail rfl rfl rfl (by decide +kernel) ⟨Nat.le_of_ble_eq_true rfl, Nat.le_of_ble_eq_true rfl⟩) 0 rfl (T := TcM) (N := 18) rfl rfl rfl (Nat.le_of_ble_eq_true rfl) ⟨Nat.zero_le _, Nat.zero_le _⟩ dM_arc_41 ?_
      have hE : ((mFail (upd F 2 0) a 1).1, (mFail (upd F 2 0) a 1).2, a) = mArc F a x y := (by unfold mArc; rw [if_neg h1, if_pos h2])
      exact v_iret C hr (by rw [← hE]) (by rw [← hE]) dM_arc_44
    · skip
      refine v_iload_n C 1 dM_arc_21 rfl rfl ?_
      refine v_iload_n C 2 dM_arc_22 rfl rfl ?_
      refine v_icmp_eq C dM_arc_23 (tgt := 39) (by decide) (fun h3 => ?_) (fun h3 => ?_)
      · skip
        refine v_aload_n C 0 dM_arc_39 rfl rfl ?_
        refine v_iconst C (v := 1) dM_arc_40 (by decide) ?_
        refine v_cViF (As := [.int 1]) C (c_mFail l D cI cZ cJ b (upd F 2 0) a 1) (cwV 1 C.2.2.2.2.1 gM_arc_M_fail rfl rfl rfl (by decide +kernel) ⟨Nat.le_of_ble_eq_true rfl, Nat.le_of_ble_eq_true rfl⟩) 0 rfl (T := TcM) (N := 18) rfl rfl rfl (Nat.le_of_ble_eq_true rfl) ⟨Nat.zero_le _, Nat.zero_le _⟩ dM_arc_41 ?_
        have hE : ((mFail (upd F 2 0) a 1).1, (mFail (upd F 2 0) a 1).2, a) = mArc F a x y := (by unfold mArc; rw [if_neg h1, if_neg h2, if_pos h3])
        exact v_iret C hr (by rw [← hE]) (by rw [← hE]) dM_arc_44
      · skip
        have hx : vp_in x 6 := vp_partyM (F := upd F 2 0) (a := a) (by assumption) hp hp6
        refine v_aload_n C 0 dM_arc_26 rfl rfl ?_
        refine v_get C (T := TcM) (N := 18) (ci := 2) (v := .ref (b 6)) inM_arc_M 0 rfl rfl 15 (by decide) (by decide +kernel) rfl rfl dM_arc_27 ?_
        refine v_iload_n C 1 dM_arc_30 rfl rfl ?_
        refine v_iald C 6 0 (f := a 15) (y := (a 15) x.toNatClampNeg) (j := x.toNatClampNeg) rfl rfl rfl rfl hx dM_arc_31 ?_
        refine v_iload_n C 2 dM_arc_32 rfl rfl ?_
        refine v_cSr0 (As := [.int ((a 15) x.toNatClampNeg), .int y]) C (c_mHas l D cI cZ cJ ((a 15) x.toNatClampNeg) y) (va_cwS 2 C.2.2.2.2.1 gM_arc_M_has rfl rfl rfl (by decide +kernel) ⟨Nat.le_of_ble_eq_true rfl, Nat.le_of_ble_eq_true rfl⟩) rfl rfl (Nat.le_of_ble_eq_true rfl) ⟨Nat.zero_le _, Nat.zero_le _⟩ dM_arc_33 ?_
        refine v_if_eq C dM_arc_36 (tgt := 45) (by decide) (fun h4 => ?_) (fun h4 => ?_)
        · skip
          refine v_aload_n C 0 dM_arc_45 rfl rfl ?_
          refine v_get C (T := TcM) (N := 18) (ci := 2) (v := .int (F 4)) inM_arc_M 0 rfl rfl 4 (by decide) (by decide +kernel) rfl rfl dM_arc_46 ?_
          refine v_if_ne C dM_arc_49 (tgt := 61) (by decide) (fun h5 => ?_) (fun h5 => ?_)
          · skip
            refine v_aload_n C 0 dM_arc_61 rfl rfl ?_
            refine v_iconst C (v := 2) dM_arc_62 (by decide) ?_
            refine v_cViF (As := [.int 2]) C (c_mFail l D cI cZ cJ b (upd F 2 0) a 2) (cwV 1 C.2.2.2.2.1 gM_arc_M_fail rfl rfl rfl (by decide +kernel) ⟨Nat.le_of_ble_eq_true rfl, Nat.le_of_ble_eq_true rfl⟩) 0 rfl (T := TcM) (N := 18) rfl rfl rfl (Nat.le_of_ble_eq_true rfl) ⟨Nat.zero_le _, Nat.zero_le _⟩ dM_arc_63 ?_
            have hE : ((mFail (upd F 2 0) a 2).1, (mFail (upd F 2 0) a 2).2, a) = mArc F a x y := (by unfold mArc; rw [if_neg h1, if_neg h2, if_neg h3, if_pos h4, if_neg h5])
            exact v_iret C hr (by rw [← hE]) (by rw [← hE]) dM_arc_66
          · skip
            refine v_aload_n C 0 dM_arc_52 rfl rfl ?_
            refine v_get C (T := TcM) (N := 18) (ci := 2) (v := .int (F 9)) inM_arc_M 0 rfl rfl 9 (by decide) (by decide +kernel) rfl rfl dM_arc_53 ?_
            refine v_bipush C (v := 14) dM_arc_56 (by decide) ?_
            refine v_icmp_ne C dM_arc_58 (tgt := 67) (by decide) (fun h6 => ?_) (fun h6 => ?_)
            · skip
              have hxx : vp_in (F 9) 14 := vp_room hn hn4 (by assumption)
              refine v_aload_n C 0 dM_arc_67 rfl rfl ?_
              refine v_get C (T := TcM) (N := 18) (ci := 2) (v := .ref (b 1)) inM_arc_M 0 rfl rfl 10 (by decide) (by decide +kernel) rfl rfl dM_arc_68 ?_
              refine v_aload_n C 0 dM_arc_71 rfl rfl ?_
              refine v_get C (T := TcM) (N := 18) (ci := 2) (v := .int (F 9)) inM_arc_M 0 rfl rfl 9 (by decide) (by decide +kernel) rfl rfl dM_arc_72 ?_
              refine v_iload_n C 1 dM_arc_75 rfl rfl ?_
              obtain ⟨zz1, hzz1⟩ : ∃ z9, upd (a 10) ((F 9).toNatClampNeg) x = z9 := ⟨_, rfl⟩
              refine v_iast C 1 0 (f := a 10) (j := (F 9).toNatClampNeg) (f1 := zz1) rfl rfl rfl hzz1 hxx dM_arc_76 (w1 := wM cI cZ b (upd F 2 0) (updA a 10 zz1)) rfl ?_
              refine v_aload_n C 0 dM_arc_77 rfl rfl ?_
              refine v_get C (T := TcM) (N := 18) (ci := 2) (v := .ref (b 2)) inM_arc_M 0 rfl rfl 11 (by decide) (by decide +kernel) rfl rfl dM_arc_78 ?_
              refine v_aload_n C 0 dM_arc_81 rfl rfl ?_
              refine v_get C (T := TcM) (N := 18) (ci := 2) (v := .int (F 9)) inM_arc_M 0 rfl rfl 9 (by decide) (by decide +kernel) rfl rfl dM_arc_82 ?_
              refine v_iload_n C 2 dM_arc_85 rfl rfl ?_
              obtain ⟨zz2, hzz2⟩ : ∃ z9, upd (a 11) ((F 9).toNatClampNeg) y = z9 := ⟨_, rfl⟩
              refine v_iast C 2 0 (f := a 11) (j := (F 9).toNatClampNeg) (f1 := zz2) rfl rfl rfl hzz2 hxx dM_arc_86 (w1 := wM cI cZ b (upd F 2 0) (updA (updA a 10 zz1) 11 zz2)) rfl ?_
              refine v_aload_n C 0 dM_arc_87 rfl rfl ?_
              refine v_get C (T := TcM) (N := 18) (ci := 2) (v := .ref (b 6)) inM_arc_M 0 rfl rfl 15 (by decide) (by decide +kernel) rfl rfl dM_arc_88 ?_
              refine v_iload_n C 1 dM_arc_91 rfl rfl ?_
              refine v_dup2 C dM_arc_92 rfl rfl ?_
              refine v_iald C 6 0 (f := a 15) (y := (a 15) x.toNatClampNeg) (j := x.toNatClampNeg) rfl rfl rfl rfl hx dM_arc_93 ?_
              refine v_iconst C (v := 1) dM_arc_94 (by decide) ?_
              refine v_iload_n C 2 dM_arc_95 rfl rfl ?_
              refine v_ishl C dM_arc_96 ?_
              refine v_ior C dM_arc_97 ?_
              obtain ⟨zz3, hzz3⟩ : ∃ z9, upd (a 15) x.toNatClampNeg (((a 15) x.toNatClampNeg) ||| ((1 : Int32) <<< (y &&& 31))) = z9 := ⟨_, rfl⟩
              refine v_iast C 6 0 (f := a 15) (j := x.toNatClampNeg) (f1 := zz3) rfl rfl rfl hzz3 hx dM_arc_98 (w1 := wM cI cZ b (upd F 2 0) (updA (updA (updA a 10 zz1) 11 zz2) 15 zz3)) rfl ?_
              refine v_aload_n C 0 dM_arc_99 rfl rfl ?_
              refine v_dup C dM_arc_100 rfl ?_
              refine v_get C (T := TcM) (N := 18) (ci := 2) (v := .int (F 9)) inM_arc_M 0 rfl rfl 9 (by decide) (by decide +kernel) rfl rfl dM_arc_101 ?_
              refine v_iconst C (v := 1) dM_arc_104 (by decide) ?_
              refine v_iadd C dM_arc_105 ?_
              refine v_put C (T := TcM) (N := 18) (ci := 2) (v := .int ((F 9) + (1 : Int32))) inM_arc_M tycM tycM_ok nmcM 0 rfl rfl 9 (by decide) (by decide +kernel) rfl rfl rfl rfl (Nat.le_of_ble_eq_true rfl) dM_arc_106 (w1 := wM cI cZ b (upd (upd F 2 0) 9 ((F 9) + (1 : Int32))) (updA (updA (updA a 10 zz1) 11 zz2) 15 zz3)) rfl ?_
              refine v_aload_n C 0 dM_arc_109 rfl rfl ?_
              refine v_get C (T := TcM) (N := 18) (ci := 2) (v := .int ((F 9) + (1 : Int32))) inM_arc_M 0 rfl rfl 9 (by decide) (by decide +kernel) rfl rfl dM_arc_110 ?_
              refine v_iconst C (v := 1) dM_arc_113 (by decide) ?_
              refine v_isub C dM_arc_114 ?_
              have hE : (((F 9) + (1 : Int32)) - (1 : Int32), upd (upd F 2 0) 9 ((F 9) + (1 : Int32)), updA (updA (updA a 10 zz1) 11 zz2) 15 zz3) = mArc F a x y := (by unfold mArc; rw [hzz1, hzz2, hzz3, if_neg h1, if_neg h2, if_neg h3, if_pos h4, if_pos h5, if_neg h6])
              exact v_iret C hr (by rw [← hE]) (by rw [← hE]) dM_arc_115
            · skip
              refine v_aload_n C 0 dM_arc_61 rfl rfl ?_
              refine v_iconst C (v := 2) dM_arc_62 (by decide) ?_
              refine v_cViF (As := [.int 2]) C (c_mFail l D cI cZ cJ b (upd F 2 0) a 2) (cwV 1 C.2.2.2.2.1 gM_arc_M_fail rfl rfl rfl (by decide +kernel) ⟨Nat.le_of_ble_eq_true rfl, Nat.le_of_ble_eq_true rfl⟩) 0 rfl (T := TcM) (N := 18) rfl rfl rfl (Nat.le_of_ble_eq_true rfl) ⟨Nat.zero_le _, Nat.zero_le _⟩ dM_arc_63 ?_
              have hE : ((mFail (upd F 2 0) a 2).1, (mFail (upd F 2 0) a 2).2, a) = mArc F a x y := (by unfold mArc; rw [if_neg h1, if_neg h2, if_neg h3, if_pos h4, if_pos h5, if_pos h6])
              exact v_iret C hr (by rw [← hE]) (by rw [← hE]) dM_arc_66
        · skip
          refine v_aload_n C 0 dM_arc_39 rfl rfl ?_
          refine v_iconst C (v := 1) dM_arc_40 (by decide) ?_
          refine v_cViF (As := [.int 1]) C (c_mFail l D cI cZ cJ b (upd F 2 0) a 1) (cwV 1 C.2.2.2.2.1 gM_arc_M_fail rfl rfl rfl (by decide +kernel) ⟨Nat.le_of_ble_eq_true rfl, Nat.le_of_ble_eq_true rfl⟩) 0 rfl (T := TcM) (N := 18) rfl rfl rfl (Nat.le_of_ble_eq_true rfl) ⟨Nat.zero_le _, Nat.zero_le _⟩ dM_arc_41 ?_
          have hE : ((mFail (upd F 2 0) a 1).1, (mFail (upd F 2 0) a 1).2, a) = mArc F a x y := (by unfold mArc; rw [if_neg h1, if_neg h2, if_neg h3, if_neg h4])
          exact v_iret C hr (by rw [← hE]) (by rw [← hE]) dM_arc_44
set_option maxHeartbeats 4000000 in
set_option maxRecDepth 100000 in
theorem c_mIsPath (l : Launch) (D : va_G) (cI cZ cJ : ClassId) (b : Nat → Nat) (F : FT) (a : AT) (mm : Nat) (x : Int32) (hm : mMany (F 17) = nI mm) (hm6 : mm ≤ 6) (hmem : ∀ i, i < mm → vp_in (mMember (F 17) (nI i)) 6) : Kr l yM_isPath wM_isPath ({ frames := 2, cells := 0, slots := 0, locals := 43 } : Room) D vwCl (tyG cI cZ cJ) [.ref (b 0), .int x] (wM cI cZ b F a) (mIsPath F a mm x) := by
  intro sz
  refine v_ent (cc := bM_isPath) (maxL := 5) (ret := (some .boolean)) (Qc := (fun _ _ st oc t => oc = .returned (some (.int (mIsPath F a mm x))) ∧ t.heap = st.heap)) (fr := (fun _ _ => False)) (own := RcM) rfl (by decide) rfl (Nat.le_of_ble_eq_true rfl) rfl ?_
  intro p e s m args below meth c A C hr _
  refine v_aload_n C 0 dM_isPath_0 rfl rfl ?_
  refine v_get C (T := TcM) (N := 18) (ci := 2) (v := .int (F 17)) inM_isPath_M 0 rfl rfl 17 (by decide) (by decide +kernel) rfl rfl dM_isPath_1 ?_
  refine v_cSr0 (As := [.int (F 17)]) C (c_mMany l D cI cZ cJ (F 17)) (va_cwS 1 C.2.2.2.2.1 gM_isPath_M_many rfl rfl rfl (by decide +kernel) ⟨Nat.le_of_ble_eq_true rfl, Nat.le_of_ble_eq_true rfl⟩) rfl rfl (Nat.le_of_ble_eq_true rfl) ⟨Nat.zero_le _, Nat.zero_le _⟩ dM_isPath_4 ?_
  refine v_top (y := nI mm) hm ?_
  refine v_istore_n C (lv' := [(0, .ref (b 0)), (1, .int x), (2, .int (nI mm))]) [1, 2, 0] dM_isPath_7 rfl (by decide) rfl ?_
  refine v_iload_n C 2 dM_isPath_8 rfl rfl ?_
  refine v_if_eq C dM_isPath_9 (tgt := 58) (by decide) (fun h1 => ?_) (fun h1 => ?_)
  · skip
    refine v_iconst C (v := 0) dM_isPath_58 (by decide) ?_
    exact v_zrr C hr (by decide) (by unfold mIsPath; rw [if_pos h1]) dM_isPath_59
  · skip
    refine v_aload_n C 0 dM_isPath_12 rfl rfl ?_
    refine v_get C (T := TcM) (N := 18) (ci := 2) (v := .int (F 17)) inM_isPath_M 0 rfl rfl 17 (by decide) (by decide +kernel) rfl rfl dM_isPath_13 ?_
    refine v_iconst C (v := 0) dM_isPath_16 (by decide) ?_
    refine v_cSr0 (As := [.int (F 17), .int 0]) C (c_mMember l D cI cZ cJ (F 17) 0) (va_cwS 2 C.2.2.2.2.1 gM_isPath_M_member rfl rfl rfl (by decide +kernel) ⟨Nat.le_of_ble_eq_true rfl, Nat.le_of_ble_eq_true rfl⟩) rfl rfl (Nat.le_of_ble_eq_true rfl) ⟨Nat.zero_le _, Nat.zero_le _⟩ dM_isPath_17 ?_
    refine v_iload_n C 1 dM_isPath_20 rfl rfl ?_
    refine v_icmp_ne C dM_isPath_21 (tgt := 58) (by decide) (fun h2 => ?_) (fun h2 => ?_)
    · skip
      refine v_iconst C (v := 0) dM_isPath_58 (by decide) ?_
      exact v_zrr C hr (by decide) (by unfold mIsPath; rw [if_neg h1, if_neg h2]) dM_isPath_59
    · skip
      refine v_aload_n C 0 dM_isPath_24 rfl rfl ?_
      refine v_get C (T := TcM) (N := 18) (ci := 2) (v := .int (F 17)) inM_isPath_M 0 rfl rfl 17 (by decide) (by decide +kernel) rfl rfl dM_isPath_25 ?_
      refine v_cSr0 (As := [.int (F 17)]) C (c_mMembers l D cI cZ cJ mm (F 17) hm hm6) (va_cwS 1 C.2.2.2.2.1 gM_isPath_M_members rfl rfl rfl (by decide +kernel) ⟨Nat.le_of_ble_eq_true rfl, Nat.le_of_ble_eq_true rfl⟩) rfl rfl (Nat.le_of_ble_eq_true rfl) ⟨Nat.zero_le _, Nat.zero_le _⟩ dM_isPath_28 ?_
      refine v_cSr0 (As := [.int (mMembers mm (F 17))]) C (c_mSize l D cI cZ cJ (mMembers mm (F 17))) (va_cwS 1 C.2.2.2.2.1 gM_isPath_M_size rfl rfl rfl (by decide +kernel) ⟨Nat.le_of_ble_eq_true rfl, Nat.le_of_ble_eq_true rfl⟩) rfl rfl (Nat.le_of_ble_eq_true rfl) ⟨Nat.zero_le _, Nat.zero_le _⟩ dM_isPath_31 ?_
      refine v_iload_n C 2 dM_isPath_34 rfl rfl ?_
      refine v_icmp_ne C dM_isPath_35 (tgt := 58) (by decide) (fun h3 => ?_) (fun h3 => ?_)
      · skip
        refine v_iconst C (v := 0) dM_isPath_58 (by decide) ?_
        exact v_zrr C hr (by decide) (by unfold mIsPath; rw [if_neg h1, if_pos h2, if_neg h3]) dM_isPath_59
      · skip
        refine v_aload_n C 0 dM_isPath_38 rfl rfl ?_
        refine v_get C (T := TcM) (N := 18) (ci := 2) (v := .int (F 7)) inM_isPath_M 0 rfl rfl 7 (by decide) (by decide +kernel) rfl rfl dM_isPath_39 ?_
        refine v_aload_n C 0 dM_isPath_42 rfl rfl ?_
        refine v_get C (T := TcM) (N := 18) (ci := 2) (v := .int (F 17)) inM_isPath_M 0 rfl rfl 17 (by decide) (by decide +kernel) rfl rfl dM_isPath_43 ?_
        refine v_iload_n C 2 dM_isPath_46 rfl rfl ?_
        refine v_iconst C (v := 1) dM_isPath_47 (by decide) ?_
        refine v_isub C dM_isPath_48 ?_
        refine v_cSr0 (As := [.int (F 17), .int ((nI mm) - (1 : Int32))]) C (c_mMember l D cI cZ cJ (F 17) ((nI mm) - (1 : Int32))) (va_cwS 2 C.2.2.2.2.1 gM_isPath_M_member rfl rfl rfl (by decide +kernel) ⟨Nat.le_of_ble_eq_true rfl, Nat.le_of_ble_eq_true rfl⟩) rfl rfl (Nat.le_of_ble_eq_true rfl) ⟨Nat.zero_le _, Nat.zero_le _⟩ dM_isPath_49 ?_
        refine v_cSr0 (As := [.int (F 7), .int (mMember (F 17) ((nI mm) - (1 : Int32)))]) C (c_mHas l D cI cZ cJ (F 7) (mMember (F 17) ((nI mm) - (1 : Int32)))) (va_cwS 2 C.2.2.2.2.1 gM_isPath_M_has rfl rfl rfl (by decide +kernel) ⟨Nat.le_of_ble_eq_true rfl, Nat.le_of_ble_eq_true rfl⟩) rfl rfl (Nat.le_of_ble_eq_true rfl) ⟨Nat.zero_le _, Nat.zero_le _⟩ dM_isPath_52 ?_
        refine v_if_ne C dM_isPath_55 (tgt := 60) (by decide) (fun h4 => ?_) (fun h4 => ?_)
        · skip
          have hm1 : 1 ≤ mm := nI_pos1 (by assumption)
          refine v_iconst C (v := 1) dM_isPath_60 (by decide) ?_
          refine v_istore_n C (lv' := [(0, .ref (b 0)), (1, .int x), (2, .int (nI mm)), (3, .int 1)]) [1, 2, 3, 0] dM_isPath_61 rfl (by decide) rfl ?_
          refine v_iconst C (v := 0) dM_isPath_62 (by decide) ?_
          refine v_istore C (lv' := [(0, .ref (b 0)), (1, .int x), (2, .int (nI mm)), (3, .int 1), (4, .int 0)]) [1, 2, 3, 4, 0] dM_isPath_63 (by decide) rfl ?_
          refine v_loop1 (mm - 1) (fun (i : Nat) (u : Int32) => wM cI cZ b F a) (fun (i : Nat) (u : Int32) => [(0, .ref (b 0)), (1, .int x), (2, .int (nI mm)), (3, .int u), (4, .int (nI i))]) (fun (ki i : Nat) (u : Int32) => mIsPathL F a mm x ki i u = mIsPathL F a mm x (mm - 1) 0 1) ?_ ?_ (mm - 1) 0 1 (by omega) rfl
          · skip
            intro ki i u hki hIi ihi
            have hIi : mIsPathL F a mm x (ki + 1) i u = mIsPathL F a mm x (mm - 1) 0 1 := hIi
            refine v_as (w' := wM cI cZ b F a) (lv' := [(0, .ref (b 0)), (1, .int x), (2, .int (nI mm)), (3, .int u), (4, .int (nI i))]) rfl rfl ?_
            refine v_iload C 4 dM_isPath_65 rfl ?_
            refine v_iconst C (v := 1) dM_isPath_67 (by decide) ?_
            refine v_iadd C dM_isPath_68 ?_
            refine v_top (y := nI (i + 1)) (nI_1 i) ?_
            refine v_iload_n C 2 dM_isPath_69 rfl rfl ?_
            refine v_icmp_ge C dM_isPath_70 (tgt := 120) (by decide) (fun h => absurd h (nI_ge (a := i + 1) (b := mm) (by omega) (by omega))) (fun _ => ?_)
            refine v_iload_n C 3 dM_isPath_73 rfl rfl ?_
            refine v_if_eq C dM_isPath_74 (tgt := 112) (by decide) (fun h5 => ?_) (fun h5 => ?_)
            · skip
              refine v_iconst C (v := 0) dM_isPath_112 (by decide) ?_
              refine v_istore_n C (lv' := [(0, .ref (b 0)), (1, .int x), (2, .int (nI mm)), (3, .int 0), (4, .int (nI i))]) [1, 2, 3, 0, 4] dM_isPath_113 rfl (by decide) rfl ?_
              refine v_iinc C (v := nI (i + 1)) (lv' := [(0, .ref (b 0)), (1, .int x), (2, .int (nI mm)), (3, .int 0), (4, .int (nI (i + 1)))]) 4 [1, 2, 3, 4, 0] dM_isPath_114 rfl (nI_1 i) (by decide) rfl ?_
              refine v_goto C dM_isPath_117 (tgt := 65) (by decide) ?_
              have hL : mIsPathL F a mm x ki (i + 1) 0 = mIsPathL F a mm x (mm - 1) 0 1 := (by rw [← hIi]; simp only [mIsPathL]; rw [if_pos h5])
              exact ihi 0 hL
            · skip
              refine v_aload_n C 0 dM_isPath_77 rfl rfl ?_
              refine v_get C (T := TcM) (N := 18) (ci := 2) (v := .ref (b 6)) inM_isPath_M 0 rfl rfl 15 (by decide) (by decide +kernel) rfl rfl dM_isPath_78 ?_
              refine v_aload_n C 0 dM_isPath_81 rfl rfl ?_
              refine v_get C (T := TcM) (N := 18) (ci := 2) (v := .int (F 17)) inM_isPath_M 0 rfl rfl 17 (by decide) (by decide +kernel) rfl rfl dM_isPath_82 ?_
              refine v_iload C 4 dM_isPath_85 rfl ?_
              refine v_cSr0 (As := [.int (F 17), .int (nI i)]) C (c_mMember l D cI cZ cJ (F 17) (nI i)) (va_cwS 2 C.2.2.2.2.1 gM_isPath_M_member rfl rfl rfl (by decide +kernel) ⟨Nat.le_of_ble_eq_true rfl, Nat.le_of_ble_eq_true rfl⟩) rfl rfl (Nat.le_of_ble_eq_true rfl) ⟨Nat.zero_le _, Nat.zero_le _⟩ dM_isPath_87 ?_
              refine v_iald C 6 0 (f := a 15) (y := (a 15) ((mMember (F 17) (nI i)).toNatClampNeg)) (j := (mMember (F 17) (nI i)).toNatClampNeg) rfl rfl rfl rfl (hmem _ (by omega)) dM_isPath_90 ?_
              refine v_aload_n C 0 dM_isPath_91 rfl rfl ?_
              refine v_get C (T := TcM) (N := 18) (ci := 2) (v := .int (F 17)) inM_isPath_M 0 rfl rfl 17 (by decide) (by decide +kernel) rfl rfl dM_isPath_92 ?_
              refine v_iload C 4 dM_isPath_95 rfl ?_
              refine v_iconst C (v := 1) dM_isPath_97 (by decide) ?_
              refine v_iadd C dM_isPath_98 ?_
              refine v_top (y := nI (i + 1)) (nI_1 i) ?_
              refine v_cSr0 (As := [.int (F 17), .int (nI (i + 1))]) C (c_mMember l D cI cZ cJ (F 17) (nI (i + 1))) (va_cwS 2 C.2.2.2.2.1 gM_isPath_M_member rfl rfl rfl (by decide +kernel) ⟨Nat.le_of_ble_eq_true rfl, Nat.le_of_ble_eq_true rfl⟩) rfl rfl (Nat.le_of_ble_eq_true rfl) ⟨Nat.zero_le _, Nat.zero_le _⟩ dM_isPath_99 ?_
              refine v_cSr0 (As := [.int ((a 15) ((mMember (F 17) (nI i)).toNatClampNeg)), .int (mMember (F 17) (nI (i + 1)))]) C (c_mHas l D cI cZ cJ ((a 15) ((mMember (F 17) (nI i)).toNatClampNeg)) (mMember (F 17) (nI (i + 1)))) (va_cwS 2 C.2.2.2.2.1 gM_isPath_M_has rfl rfl rfl (by decide +kernel) ⟨Nat.le_of_ble_eq_true rfl, Nat.le_of_ble_eq_true rfl⟩) rfl rfl (Nat.le_of_ble_eq_true rfl) ⟨Nat.zero_le _, Nat.zero_le _⟩ dM_isPath_102 ?_
              refine v_if_eq C dM_isPath_105 (tgt := 112) (by decide) (fun h6 => ?_) (fun h6 => ?_)
              · skip
                refine v_iconst C (v := 0) dM_isPath_112 (by decide) ?_
                refine v_istore_n C (lv' := [(0, .ref (b 0)), (1, .int x), (2, .int (nI mm)), (3, .int 0), (4, .int (nI i))]) [1, 2, 3, 0, 4] dM_isPath_113 rfl (by decide) rfl ?_
                refine v_iinc C (v := nI (i + 1)) (lv' := [(0, .ref (b 0)), (1, .int x), (2, .int (nI mm)), (3, .int 0), (4, .int (nI (i + 1)))]) 4 [1, 2, 3, 4, 0] dM_isPath_114 rfl (nI_1 i) (by decide) rfl ?_
                refine v_goto C dM_isPath_117 (tgt := 65) (by decide) ?_
                have hL : mIsPathL F a mm x ki (i + 1) 0 = mIsPathL F a mm x (mm - 1) 0 1 := (by rw [← hIi]; simp only [mIsPathL]; rw [if_neg h5, if_pos h6])
                exact ihi 0 hL
              · skip
                refine v_iconst C (v := 1) dM_isPath_108 (by decide) ?_
                refine v_goto C dM_isPath_109 (tgt := 113) (by decide) ?_
                refine v_istore_n C (lv' := [(0, .ref (b 0)), (1, .int x), (2, .int (nI mm)), (3, .int 1), (4, .int (nI i))]) [1, 2, 3, 0, 4] dM_isPath_113 rfl (by decide) rfl ?_
                refine v_iinc C (v := nI (i + 1)) (lv' := [(0, .ref (b 0)), (1, .int x), (2, .int (nI mm)), (3, .int 1), (4, .int (nI (i + 1)))]) 4 [1, 2, 3, 4, 0] dM_isPath_114 rfl (nI_1 i) (by decide) rfl ?_
                refine v_goto C dM_isPath_117 (tgt := 65) (by decide) ?_
                have hL : mIsPathL F a mm x ki (i + 1) 1 = mIsPathL F a mm x (mm - 1) 0 1 := (by rw [← hIi]; simp only [mIsPathL]; rw [if_neg h5, if_neg h6])
                exact ihi 1 hL
          · skip
            intro u hIi
            have hIi : mIsPathL F a mm x 0 (mm - 1) u = mIsPathL F a mm x (mm - 1) 0 1 := hIi
            refine v_as (w' := wM cI cZ b F a) (lv' := [(0, .ref (b 0)), (1, .int x), (2, .int (nI mm)), (3, .int u), (4, .int (nI (mm - 1)))]) rfl rfl ?_
            have hIi : u = mIsPathL F a mm x (mm - 1) 0 1 := hIi
            subst hIi
            refine v_iload C 4 dM_isPath_65 rfl ?_
            refine v_iconst C (v := 1) dM_isPath_67 (by decide) ?_
            refine v_iadd C dM_isPath_68 ?_
            refine v_top (y := nI (mm - 1 + 1)) (nI_1 (mm - 1)) ?_
            refine v_iload_n C 2 dM_isPath_69 rfl rfl ?_
            refine v_icmp_ge C dM_isPath_70 (tgt := 120) (by decide) (fun _ => ?_) (fun h => absurd (nI_le (a := mm) (b := mm - 1 + 1) (by omega) (by omega)) h)
            refine v_iload_n C 3 dM_isPath_120 rfl rfl ?_
            exact v_zrr C hr (z01 (mIsPathL_z _ _ _ _ _ _ _ (Or.inr rfl))) (by unfold mIsPath; rw [if_neg h1, if_pos h2, if_pos h3, if_neg h4]) dM_isPath_121
        · skip
          refine v_iconst C (v := 0) dM_isPath_58 (by decide) ?_
          exact v_zrr C hr (by decide) (by unfold mIsPath; rw [if_neg h1, if_pos h2, if_pos h3, if_pos h4]) dM_isPath_59
set_option maxHeartbeats 4000000 in
set_option maxRecDepth 100000 in
theorem c_mIsKnown (l : Launch) (D : va_G) (cI cZ cJ : ClassId) (b : Nat → Nat) (F : FT) (a : AT) (mm : Nat) (n : Nat) (hn : F 9 = nI n) (hn4 : n ≤ 14) (hm : mMany (F 17) = nI mm) (hm6 : mm ≤ 6) (hmem : ∀ i, i < mm → vp_in (mMember (F 17) (nI i)) 6) (hl : vp_in (mMember (F 17) (nI mm - 1)) 6) : Kr l yM_isKnown wM_isKnown ({ frames := 2, cells := 0, slots := 0, locals := 40 } : Room) D vwCl (tyG cI cZ cJ) [.ref (b 0)] (wM cI cZ b F a) (mIsKnown F a mm n) := by
  intro sz
  refine v_ent (cc := bM_isKnown) (maxL := 5) (ret := (some .boolean)) (Qc := (fun _ _ st oc t => oc = .returned (some (.int (mIsKnown F a mm n))) ∧ t.heap = st.heap)) (fr := (fun _ _ => False)) (own := RcM) rfl (by decide) rfl (Nat.le_of_ble_eq_true rfl) rfl ?_
  intro p e s m args below meth c A C hr _
  refine v_aload_n C 0 dM_isKnown_0 rfl rfl ?_
  refine v_get C (T := TcM) (N := 18) (ci := 2) (v := .int (F 17)) inM_isKnown_M 0 rfl rfl 17 (by decide) (by decide +kernel) rfl rfl dM_isKnown_1 ?_
  refine v_cSr0 (As := [.int (F 17)]) C (c_mMany l D cI cZ cJ (F 17)) (va_cwS 1 C.2.2.2.2.1 gM_isKnown_M_many rfl rfl rfl (by decide +kernel) ⟨Nat.le_of_ble_eq_true rfl, Nat.le_of_ble_eq_true rfl⟩) rfl rfl (Nat.le_of_ble_eq_true rfl) ⟨Nat.zero_le _, Nat.zero_le _⟩ dM_isKnown_4 ?_
  refine v_top (y := nI mm) hm ?_
  refine v_iconst C (v := 1) dM_isKnown_7 (by decide) ?_
  refine v_icmp_ne C dM_isKnown_8 (tgt := 13) (by decide) (fun h1 => ?_) (fun h1 => ?_)
  · skip
    refine v_aload_n C 0 dM_isKnown_13 rfl rfl ?_
    refine v_get C (T := TcM) (N := 18) (ci := 2) (v := .int (F 17)) inM_isKnown_M 0 rfl rfl 17 (by decide) (by decide +kernel) rfl rfl dM_isKnown_14 ?_
    refine v_cSr0 (As := [.int (F 17)]) C (c_mBehind l D cI cZ cJ (F 17)) (va_cwS 1 C.2.2.2.2.1 gM_isKnown_M_behind rfl rfl rfl (by decide +kernel) ⟨Nat.le_of_ble_eq_true rfl, Nat.le_of_ble_eq_true rfl⟩) rfl rfl (Nat.le_of_ble_eq_true rfl) ⟨Nat.zero_le _, Nat.zero_le _⟩ dM_isKnown_17 ?_
    refine v_istore_n C (lv' := [(0, .ref (b 0)), (1, .int (mBehind (F 17)))]) [1, 0] dM_isKnown_20 rfl (by decide) rfl ?_
    refine v_aload_n C 0 dM_isKnown_21 rfl rfl ?_
    refine v_get C (T := TcM) (N := 18) (ci := 2) (v := .int (F 17)) inM_isKnown_M 0 rfl rfl 17 (by decide) (by decide +kernel) rfl rfl dM_isKnown_22 ?_
    refine v_aload_n C 0 dM_isKnown_25 rfl rfl ?_
    refine v_get C (T := TcM) (N := 18) (ci := 2) (v := .int (F 17)) inM_isKnown_M 0 rfl rfl 17 (by decide) (by decide +kernel) rfl rfl dM_isKnown_26 ?_
    refine v_cSr0 (As := [.int (F 17)]) C (c_mMany l D cI cZ cJ (F 17)) (va_cwS 1 C.2.2.2.2.1 gM_isKnown_M_many rfl rfl rfl (by decide +kernel) ⟨Nat.le_of_ble_eq_true rfl, Nat.le_of_ble_eq_true rfl⟩) rfl rfl (Nat.le_of_ble_eq_true rfl) ⟨Nat.zero_le _, Nat.zero_le _⟩ dM_isKnown_29 ?_
    refine v_top (y := nI mm) hm ?_
    refine v_iconst C (v := 1) dM_isKnown_32 (by decide) ?_
    refine v_isub C dM_isKnown_33 ?_
    refine v_cSr0 (As := [.int (F 17), .int ((nI mm) - (1 : Int32))]) C (c_mMember l D cI cZ cJ (F 17) ((nI mm) - (1 : Int32))) (va_cwS 2 C.2.2.2.2.1 gM_isKnown_M_member rfl rfl rfl (by decide +kernel) ⟨Nat.le_of_ble_eq_true rfl, Nat.le_of_ble_eq_true rfl⟩) rfl rfl (Nat.le_of_ble_eq_true rfl) ⟨Nat.zero_le _, Nat.zero_le _⟩ dM_isKnown_34 ?_
    refine v_istore_n C (lv' := [(0, .ref (b 0)), (1, .int (mBehind (F 17))), (2, .int (mMember (F 17) ((nI mm) - (1 : Int32))))]) [1, 2, 0] dM_isKnown_37 rfl (by decide) rfl ?_
    refine v_iconst C (v := 0) dM_isKnown_38 (by decide) ?_
    refine v_istore_n C (lv' := [(0, .ref (b 0)), (1, .int (mBehind (F 17))), (2, .int (mMember (F 17) ((nI mm) - (1 : Int32)))), (3, .int 0)]) [1, 2, 3, 0] dM_isKnown_39 rfl (by decide) rfl ?_
    refine v_iconst C (v := 0) dM_isKnown_40 (by decide) ?_
    refine v_istore C (lv' := [(0, .ref (b 0)), (1, .int (mBehind (F 17))), (2, .int (mMember (F 17) ((nI mm) - (1 : Int32)))), (3, .int 0), (4, .int 0)]) [1, 2, 3, 4, 0] dM_isKnown_41 (by decide) rfl ?_
    refine v_loop1 n (fun (i : Nat) (u : Int32) => wM cI cZ b F a) (fun (i : Nat) (u : Int32) => [(0, .ref (b 0)), (1, .int (mBehind (F 17))), (2, .int (mMember (F 17) ((nI mm) - (1 : Int32)))), (3, .int u), (4, .int (nI i))]) (fun (ki i : Nat) (u : Int32) => mIsKnownL F a mm n ki i u = mIsKnownL F a mm n n 0 0) ?_ ?_ n 0 0 (by omega) rfl
    · skip
      intro ki i u hki hIi ihi
      have hIi : mIsKnownL F a mm n (ki + 1) i u = mIsKnownL F a mm n n 0 0 := hIi
      refine v_as (w' := wM cI cZ b F a) (lv' := [(0, .ref (b 0)), (1, .int (mBehind (F 17))), (2, .int (mMember (F 17) ((nI mm) - (1 : Int32)))), (3, .int u), (4, .int (nI i))]) rfl rfl ?_
      refine v_iload C 4 dM_isKnown_43 rfl ?_
      refine v_aload_n C 0 dM_isKnown_45 rfl rfl ?_
      refine v_get C (T := TcM) (N := 18) (ci := 2) (v := .int (F 9)) inM_isKnown_M 0 rfl rfl 9 (by decide) (by decide +kernel) rfl rfl dM_isKnown_46 ?_
      refine v_top (y := nI n) hn ?_
      refine v_icmp_ge C dM_isKnown_49 (tgt := 98) (by decide) (fun h => absurd h (nI_ge (a := i) (b := n) (by omega) (by omega))) (fun _ => ?_)
      refine v_iload_n C 3 dM_isKnown_52 rfl rfl ?_
      refine v_if_ne C dM_isKnown_53 (tgt := 86) (by decide) (fun h2 => ?_) (fun h2 => ?_)
      · skip
        refine v_iconst C (v := 1) dM_isKnown_86 (by decide) ?_
        refine v_goto C dM_isKnown_87 (tgt := 91) (by decide) ?_
        refine v_istore_n C (lv' := [(0, .ref (b 0)), (1, .int (mBehind (F 17))), (2, .int (mMember (F 17) ((nI mm) - (1 : Int32)))), (3, .int 1), (4, .int (nI i))]) [1, 2, 3, 0, 4] dM_isKnown_91 rfl (by decide) rfl ?_
        refine v_iinc C (v := nI (i + 1)) (lv' := [(0, .ref (b 0)), (1, .int (mBehind (F 17))), (2, .int (mMember (F 17) ((nI mm) - (1 : Int32)))), (3, .int 1), (4, .int (nI (i + 1)))]) 4 [1, 2, 3, 4, 0] dM_isKnown_92 rfl (nI_1 i) (by decide) rfl ?_
        refine v_goto C dM_isKnown_95 (tgt := 43) (by decide) ?_
        have hL : mIsKnownL F a mm n ki (i + 1) 1 = mIsKnownL F a mm n n 0 0 := (by rw [← hIi]; simp only [mIsKnownL]; rw [if_neg h2])
        exact ihi 1 hL
      · skip
        refine v_aload_n C 0 dM_isKnown_56 rfl rfl ?_
        refine v_get C (T := TcM) (N := 18) (ci := 2) (v := .ref (b 4)) inM_isKnown_M 0 rfl rfl 13 (by decide) (by decide +kernel) rfl rfl dM_isKnown_57 ?_
        refine v_iload C 4 dM_isKnown_60 rfl ?_
        refine v_iald C 4 0 (f := a 13) (y := (a 13) i) (j := i) rfl rfl (nI_clamp (by omega)) rfl (vp_in_nI (by omega) (by decide)) dM_isKnown_62 ?_
        refine v_iload_n C 2 dM_isKnown_63 rfl rfl ?_
        refine v_cSr0 (As := [.int ((a 13) i), .int (mMember (F 17) ((nI mm) - (1 : Int32)))]) C (c_mHas l D cI cZ cJ ((a 13) i) (mMember (F 17) ((nI mm) - (1 : Int32)))) (va_cwS 2 C.2.2.2.2.1 gM_isKnown_M_has rfl rfl rfl (by decide +kernel) ⟨Nat.le_of_ble_eq_true rfl, Nat.le_of_ble_eq_true rfl⟩) rfl rfl (Nat.le_of_ble_eq_true rfl) ⟨Nat.zero_le _, Nat.zero_le _⟩ dM_isKnown_64 ?_
        refine v_if_eq C dM_isKnown_67 (tgt := 90) (by decide) (fun h3 => ?_) (fun h3 => ?_)
        · skip
          refine v_iconst C (v := 0) dM_isKnown_90 (by decide) ?_
          refine v_istore_n C (lv' := [(0, .ref (b 0)), (1, .int (mBehind (F 17))), (2, .int (mMember (F 17) ((nI mm) - (1 : Int32)))), (3, .int 0), (4, .int (nI i))]) [1, 2, 3, 0, 4] dM_isKnown_91 rfl (by decide) rfl ?_
          refine v_iinc C (v := nI (i + 1)) (lv' := [(0, .ref (b 0)), (1, .int (mBehind (F 17))), (2, .int (mMember (F 17) ((nI mm) - (1 : Int32)))), (3, .int 0), (4, .int (nI (i + 1)))]) 4 [1, 2, 3, 4, 0] dM_isKnown_92 rfl (nI_1 i) (by decide) rfl ?_
          refine v_goto C dM_isKnown_95 (tgt := 43) (by decide) ?_
          have hL : mIsKnownL F a mm n ki (i + 1) 0 = mIsKnownL F a mm n n 0 0 := (by rw [← hIi]; simp only [mIsKnownL]; rw [if_pos h2, if_pos h3])
          exact ihi 0 hL
        · skip
          refine v_aload_n C 0 dM_isKnown_70 rfl rfl ?_
          refine v_get C (T := TcM) (N := 18) (ci := 2) (v := .ref (b 5)) inM_isKnown_M 0 rfl rfl 14 (by decide) (by decide +kernel) rfl rfl dM_isKnown_71 ?_
          refine v_bipush C (v := 6) dM_isKnown_74 (by decide) ?_
          refine v_iload C 4 dM_isKnown_76 rfl ?_
          refine v_imul C dM_isKnown_78 ?_
          refine v_iload_n C 2 dM_isKnown_79 rfl rfl ?_
          refine v_iadd C dM_isKnown_80 ?_
          refine v_iald C 5 0 (f := a 14) (y := (a 14) ((((6 : Int32) * (nI i)) + (mMember (F 17) ((nI mm) - (1 : Int32)))).toNatClampNeg)) (j := (((6 : Int32) * (nI i)) + (mMember (F 17) ((nI mm) - (1 : Int32)))).toNatClampNeg) rfl rfl rfl rfl (vp_key3 (by omega) hl) dM_isKnown_81 ?_
          refine v_iload_n C 1 dM_isKnown_82 rfl rfl ?_
          refine v_icmp_ne C dM_isKnown_83 (tgt := 90) (by decide) (fun h4 => ?_) (fun h4 => ?_)
          · skip
            refine v_iconst C (v := 0) dM_isKnown_90 (by decide) ?_
            refine v_istore_n C (lv' := [(0, .ref (b 0)), (1, .int (mBehind (F 17))), (2, .int (mMember (F 17) ((nI mm) - (1 : Int32)))), (3, .int 0), (4, .int (nI i))]) [1, 2, 3, 0, 4] dM_isKnown_91 rfl (by decide) rfl ?_
            refine v_iinc C (v := nI (i + 1)) (lv' := [(0, .ref (b 0)), (1, .int (mBehind (F 17))), (2, .int (mMember (F 17) ((nI mm) - (1 : Int32)))), (3, .int 0), (4, .int (nI (i + 1)))]) 4 [1, 2, 3, 4, 0] dM_isKnown_92 rfl (nI_1 i) (by decide) rfl ?_
            refine v_goto C dM_isKnown_95 (tgt := 43) (by decide) ?_
            have hL : mIsKnownL F a mm n ki (i + 1) 0 = mIsKnownL F a mm n n 0 0 := (by rw [← hIi]; simp only [mIsKnownL]; rw [if_pos h2, if_neg h3, if_neg h4])
            exact ihi 0 hL
          · skip
            refine v_iconst C (v := 1) dM_isKnown_86 (by decide) ?_
            refine v_goto C dM_isKnown_87 (tgt := 91) (by decide) ?_
            refine v_istore_n C (lv' := [(0, .ref (b 0)), (1, .int (mBehind (F 17))), (2, .int (mMember (F 17) ((nI mm) - (1 : Int32)))), (3, .int 1), (4, .int (nI i))]) [1, 2, 3, 0, 4] dM_isKnown_91 rfl (by decide) rfl ?_
            refine v_iinc C (v := nI (i + 1)) (lv' := [(0, .ref (b 0)), (1, .int (mBehind (F 17))), (2, .int (mMember (F 17) ((nI mm) - (1 : Int32)))), (3, .int 1), (4, .int (nI (i + 1)))]) 4 [1, 2, 3, 4, 0] dM_isKnown_92 rfl (nI_1 i) (by decide) rfl ?_
            refine v_goto C dM_isKnown_95 (tgt := 43) (by decide) ?_
            have hL : mIsKnownL F a mm n ki (i + 1) 1 = mIsKnownL F a mm n n 0 0 := (by rw [← hIi]; simp only [mIsKnownL]; rw [if_pos h2, if_neg h3, if_pos h4])
            exact ihi 1 hL
    · skip
      intro u hIi
      have hIi : mIsKnownL F a mm n 0 n u = mIsKnownL F a mm n n 0 0 := hIi
      refine v_as (w' := wM cI cZ b F a) (lv' := [(0, .ref (b 0)), (1, .int (mBehind (F 17))), (2, .int (mMember (F 17) ((nI mm) - (1 : Int32)))), (3, .int u), (4, .int (nI n))]) rfl rfl ?_
      have hIi : u = mIsKnownL F a mm n n 0 0 := hIi
      subst hIi
      refine v_iload C 4 dM_isKnown_43 rfl ?_
      refine v_aload_n C 0 dM_isKnown_45 rfl rfl ?_
      refine v_get C (T := TcM) (N := 18) (ci := 2) (v := .int (F 9)) inM_isKnown_M 0 rfl rfl 9 (by decide) (by decide +kernel) rfl rfl dM_isKnown_46 ?_
      refine v_top (y := nI n) hn ?_
      refine v_icmp_ge C dM_isKnown_49 (tgt := 98) (by decide) (fun _ => ?_) (fun h => absurd (nI_le (a := n) (b := n) (by omega) (by omega)) h)
      refine v_iload_n C 3 dM_isKnown_98 rfl rfl ?_
      exact v_zrr C hr (z01 (mIsKnownL_z _ _ _ _ _ _ _ (Or.inl rfl))) (by unfold mIsKnown; rw [if_neg h1]) dM_isKnown_99
  · skip
    refine v_iconst C (v := 1) dM_isKnown_11 (by decide) ?_
    exact v_zrr C hr (by decide) (by unfold mIsKnown; rw [if_pos h1]) dM_isKnown_12
set_option maxHeartbeats 4000000 in
set_option maxRecDepth 100000 in
theorem c_mLeaders (l : Launch) (D : va_G) (cI cZ cJ : ClassId) (b : Nat → Nat) (F : FT) (a : AT) : Ki l yM_leaders wM_leaders ({ frames := 0, cells := 0, slots := 0, locals := 0 } : Room) D vwCl (tyG cI cZ cJ) [.ref (b 0)] (wM cI cZ b F a) ((mLeaders F a).1) (wM cI cZ b ((mLeaders F a).2) a) := by
  intro sz
  refine v_ent (cc := bM_leaders) (maxL := 1) (ret := (some .int)) (Qc := (fun A => va_Qi (fun (x9 : Int32) (_ : Unit) => x9 = (mLeaders F a).1) (fun _ => wB D vwCl (tyG cI cZ cJ) A (wM cI cZ b ((mLeaders F a).2) a)) A)) (fr := (fun A => A)) (own := RcM) rfl (by decide) rfl (Nat.le_of_ble_eq_true rfl) rfl ?_
  intro p e s m args below meth c A C hr _
  refine v_free ?_
  refine v_aload_n C 0 dM_leaders_0 rfl rfl ?_
  refine v_iconst C (v := 0) dM_leaders_1 (by decide) ?_
  refine v_put C (T := TcM) (N := 18) (ci := 2) (v := .int 0) inM_leaders_M tycM tycM_ok nmcM 0 rfl rfl 2 (by decide) (by decide +kernel) rfl rfl rfl rfl (Nat.le_of_ble_eq_true rfl) dM_leaders_2 (w1 := wM cI cZ b (upd F 2 0) a) rfl ?_
  refine v_aload_n C 0 dM_leaders_5 rfl rfl ?_
  refine v_get C (T := TcM) (N := 18) (ci := 2) (v := .int (F 7)) inM_leaders_M 0 rfl rfl 7 (by decide) (by decide +kernel) rfl rfl dM_leaders_6 ?_
  have hE : (F 7, upd F 2 0) = mLeaders F a := (by unfold mLeaders; rfl)
  exact v_iret C hr (by rw [← hE]) (by rw [← hE]) dM_leaders_9
set_option maxHeartbeats 4000000 in
set_option maxRecDepth 100000 in
theorem c_mConform (l : Launch) (D : va_G) (cI cZ cJ : ClassId) (b : Nat → Nat) (F : FT) (a : AT) (x : Int32) (y : Int32) : Ki l yM_conform wM_conform ({ frames := 1, cells := 0, slots := 0, locals := 21 } : Room) D vwCl (tyG cI cZ cJ) [.ref (b 0), .int x, .int y] (wM cI cZ b F a) ((mConform F a x y).1) (wM cI cZ b ((mConform F a x y).2) a) := by
  intro sz
  refine v_ent (cc := bM_conform) (maxL := 3) (ret := (some .boolean)) (Qc := (fun A => va_Qi (fun (x9 : Int32) (_ : Unit) => x9 = (mConform F a x y).1) (fun _ => wB D vwCl (tyG cI cZ cJ) A (wM cI cZ b ((mConform F a x y).2) a)) A)) (fr := (fun A => A)) (own := RcM) rfl (by decide) rfl (Nat.le_of_ble_eq_true rfl) rfl ?_
  intro p e s m args below meth c A C hr _
  refine v_free ?_
  refine v_aload_n C 0 dM_conform_0 rfl rfl ?_
  refine v_iconst C (v := 0) dM_conform_1 (by decide) ?_
  refine v_put C (T := TcM) (N := 18) (ci := 2) (v := .int 0) inM_conform_M tycM tycM_ok nmcM 0 rfl rfl 2 (by decide) (by decide +kernel) rfl rfl rfl rfl (Nat.le_of_ble_eq_true rfl) dM_conform_2 (w1 := wM cI cZ b (upd F 2 0) a) rfl ?_
  refine v_aload_n C 0 dM_conform_5 rfl rfl ?_
  refine v_iload_n C 1 dM_conform_6 rfl rfl ?_
  refine v_cVrF (As := [.int x]) C (c_mIsParty l D cI cZ cJ b (upd F 2 0) a x) (cwV 1 C.2.2.2.2.1 gM_conform_M_isParty rfl rfl rfl (by decide +kernel) ⟨Nat.le_of_ble_eq_true rfl, Nat.le_of_ble_eq_true rfl⟩) 0 rfl (T := TcM) (N := 18) rfl rfl rfl (Nat.le_of_ble_eq_true rfl) ⟨Nat.zero_le _, Nat.zero_le _⟩ dM_conform_7 ?_
  refine v_if_eq C dM_conform_10 (tgt := 25) (by decide) (fun h1 => ?_) (fun h1 => ?_)
  · skip
    refine v_iconst C (v := 0) dM_conform_25 (by decide) ?_
    have hE : (0, upd F 2 0) = mConform F a x y := (by unfold mConform; rw [if_pos h1])
    exact v_zret C hr (by decide) (by rw [← hE]) (by rw [← hE]) dM_conform_26
  · skip
    refine v_aload_n C 0 dM_conform_13 rfl rfl ?_
    refine v_get C (T := TcM) (N := 18) (ci := 2) (v := .int (F 8)) inM_conform_M 0 rfl rfl 8 (by decide) (by decide +kernel) rfl rfl dM_conform_14 ?_
    refine v_iload_n C 1 dM_conform_17 rfl rfl ?_
    refine v_cSr0 (As := [.int (F 8), .int x]) C (c_mHas l D cI cZ cJ (F 8) x) (va_cwS 2 C.2.2.2.2.1 gM_conform_M_has rfl rfl rfl (by decide +kernel) ⟨Nat.le_of_ble_eq_true rfl, Nat.le_of_ble_eq_true rfl⟩) rfl rfl (Nat.le_of_ble_eq_true rfl) ⟨Nat.zero_le _, Nat.zero_le _⟩ dM_conform_18 ?_
    refine v_iload_n C 2 dM_conform_21 rfl rfl ?_
    refine v_icmp_eq C dM_conform_22 (tgt := 27) (by decide) (fun h2 => ?_) (fun h2 => ?_)
    · skip
      refine v_aload_n C 0 dM_conform_27 rfl rfl ?_
      refine v_dup C dM_conform_28 rfl ?_
      refine v_get C (T := TcM) (N := 18) (ci := 2) (v := .int (F 8)) inM_conform_M 0 rfl rfl 8 (by decide) (by decide +kernel) rfl rfl dM_conform_29 ?_
      refine v_iconst C (v := 1) dM_conform_32 (by decide) ?_
      refine v_iload_n C 1 dM_conform_33 rfl rfl ?_
      refine v_ishl C dM_conform_34 ?_
      refine v_ixor C dM_conform_35 ?_
      refine v_put C (T := TcM) (N := 18) (ci := 2) (v := .int ((F 8) ^^^ ((1 : Int32) <<< (x &&& 31)))) inM_conform_M tycM tycM_ok nmcM 0 rfl rfl 8 (by decide) (by decide +kernel) rfl rfl rfl rfl (Nat.le_of_ble_eq_true rfl) dM_conform_36 (w1 := wM cI cZ b (upd (upd F 2 0) 8 ((F 8) ^^^ ((1 : Int32) <<< (x &&& 31)))) a) rfl ?_
      refine v_iconst C (v := 1) dM_conform_39 (by decide) ?_
      have hE : (1, upd (upd F 2 0) 8 ((F 8) ^^^ ((1 : Int32) <<< (x &&& 31)))) = mConform F a x y := (by unfold mConform; rw [if_neg h1, if_pos h2])
      exact v_zret C hr (by decide) (by rw [← hE]) (by rw [← hE]) dM_conform_40
    · skip
      refine v_iconst C (v := 0) dM_conform_25 (by decide) ?_
      have hE : (0, upd F 2 0) = mConform F a x y := (by unfold mConform; rw [if_neg h1, if_neg h2])
      exact v_zret C hr (by decide) (by rw [← hE]) (by rw [← hE]) dM_conform_26
set_option maxHeartbeats 4000000 in
set_option maxRecDepth 100000 in
theorem c_mStep (l : Launch) (D : va_G) (cI cZ cJ : ClassId) (b : Nat → Nat) (F : FT) (a : AT) (x : Int32) : Ki l yM_step wM_step ({ frames := 1, cells := 0, slots := 0, locals := 21 } : Room) D vwCl (tyG cI cZ cJ) [.ref (b 0), .int x] (wM cI cZ b F a) ((mStep F a x).1) (wM cI cZ b ((mStep F a x).2) a) := by
  intro sz
  refine v_ent (cc := bM_step) (maxL := 3) (ret := (some .int)) (Qc := (fun A => va_Qi (fun (x9 : Int32) (_ : Unit) => x9 = (mStep F a x).1) (fun _ => wB D vwCl (tyG cI cZ cJ) A (wM cI cZ b ((mStep F a x).2) a)) A)) (fr := (fun A => A)) (own := RcM) rfl (by decide) rfl (Nat.le_of_ble_eq_true rfl) rfl ?_
  intro p e s m args below meth c A C hr _
  refine v_free ?_
  refine v_aload_n C 0 dM_step_0 rfl rfl ?_
  refine v_iconst C (v := 0) dM_step_1 (by decide) ?_
  refine v_put C (T := TcM) (N := 18) (ci := 2) (v := .int 0) inM_step_M tycM tycM_ok nmcM 0 rfl rfl 2 (by decide) (by decide +kernel) rfl rfl rfl rfl (Nat.le_of_ble_eq_true rfl) dM_step_2 (w1 := wM cI cZ b (upd F 2 0) a) rfl ?_
  refine v_aload_n C 0 dM_step_5 rfl rfl ?_
  refine v_iload_n C 1 dM_step_6 rfl rfl ?_
  refine v_cVrF (As := [.int x]) C (c_mIsParty l D cI cZ cJ b (upd F 2 0) a x) (cwV 1 C.2.2.2.2.1 gM_step_M_isParty rfl rfl rfl (by decide +kernel) ⟨Nat.le_of_ble_eq_true rfl, Nat.le_of_ble_eq_true rfl⟩) 0 rfl (T := TcM) (N := 18) rfl rfl rfl (Nat.le_of_ble_eq_true rfl) ⟨Nat.zero_le _, Nat.zero_le _⟩ dM_step_7 ?_
  refine v_if_eq C dM_step_10 (tgt := 25) (by decide) (fun h1 => ?_) (fun h1 => ?_)
  · skip
    refine v_iconst C (v := (-1)) dM_step_25 (by decide) ?_
    have hE : ((-1), upd F 2 0) = mStep F a x := (by unfold mStep; rw [if_pos h1])
    exact v_iret C hr (by rw [← hE]) (by rw [← hE]) dM_step_26
  · skip
    refine v_aload_n C 0 dM_step_13 rfl rfl ?_
    refine v_get C (T := TcM) (N := 18) (ci := 2) (v := .int (F 17)) inM_step_M 0 rfl rfl 17 (by decide) (by decide +kernel) rfl rfl dM_step_14 ?_
    refine v_cSr0 (As := [.int (F 17)]) C (c_mMany l D cI cZ cJ (F 17)) (va_cwS 1 C.2.2.2.2.1 gM_step_M_many rfl rfl rfl (by decide +kernel) ⟨Nat.le_of_ble_eq_true rfl, Nat.le_of_ble_eq_true rfl⟩) rfl rfl (Nat.le_of_ble_eq_true rfl) ⟨Nat.zero_le _, Nat.zero_le _⟩ dM_step_17 ?_
    refine v_bipush C (v := 6) dM_step_20 (by decide) ?_
    refine v_icmp_ne C dM_step_22 (tgt := 27) (by decide) (fun h2 => ?_) (fun h2 => ?_)
    · skip
      refine v_aload_n C 0 dM_step_27 rfl rfl ?_
      refine v_get C (T := TcM) (N := 18) (ci := 2) (v := .int (F 17)) inM_step_M 0 rfl rfl 17 (by decide) (by decide +kernel) rfl rfl dM_step_28 ?_
      refine v_cSr0 (As := [.int (F 17)]) C (c_mMany l D cI cZ cJ (F 17)) (va_cwS 1 C.2.2.2.2.1 gM_step_M_many rfl rfl rfl (by decide +kernel) ⟨Nat.le_of_ble_eq_true rfl, Nat.le_of_ble_eq_true rfl⟩) rfl rfl (Nat.le_of_ble_eq_true rfl) ⟨Nat.zero_le _, Nat.zero_le _⟩ dM_step_31 ?_
      refine v_istore_n C (lv' := [(0, .ref (b 0)), (1, .int x), (2, .int (mMany (F 17)))]) [1, 2, 0] dM_step_34 rfl (by decide) rfl ?_
      refine v_aload_n C 0 dM_step_35 rfl rfl ?_
      refine v_aload_n C 0 dM_step_36 rfl rfl ?_
      refine v_get C (T := TcM) (N := 18) (ci := 2) (v := .int (F 17)) inM_step_M 0 rfl rfl 17 (by decide) (by decide +kernel) rfl rfl dM_step_37 ?_
      refine v_ldc C (v := 262143) (by decide +kernel) dM_step_40 ?_
      refine v_iand C dM_step_42 ?_
      refine v_iload_n C 1 dM_step_43 rfl rfl ?_
      refine v_iconst C (v := 3) dM_step_44 (by decide) ?_
      refine v_iload_n C 2 dM_step_45 rfl rfl ?_
      refine v_imul C dM_step_46 ?_
      refine v_ishl C dM_step_47 ?_
      refine v_ior C dM_step_48 ?_
      refine v_iload_n C 2 dM_step_49 rfl rfl ?_
      refine v_iconst C (v := 1) dM_step_50 (by decide) ?_
      refine v_iadd C dM_step_51 ?_
      refine v_bipush C (v := 18) dM_step_52 (by decide) ?_
      refine v_ishl C dM_step_54 ?_
      refine v_ior C dM_step_55 ?_
      refine v_put C (T := TcM) (N := 18) (ci := 2) (v := .int ((((F 17) &&& (262143 : Int32)) ||| (x <<< (((3 : Int32) * (mMany (F 17))) &&& 31))) ||| (((mMany (F 17)) + (1 : Int32)) <<< ((18 : Int32) &&& 31)))) inM_step_M tycM tycM_ok nmcM 0 rfl rfl 17 (by decide) (by decide +kernel) rfl rfl rfl rfl (Nat.le_of_ble_eq_true rfl) dM_step_56 (w1 := wM cI cZ b (upd (upd F 2 0) 17 ((((F 17) &&& (262143 : Int32)) ||| (x <<< (((3 : Int32) * (mMany (F 17))) &&& 31))) ||| (((mMany (F 17)) + (1 : Int32)) <<< ((18 : Int32) &&& 31)))) a) rfl ?_
      refine v_iload_n C 2 dM_step_59 rfl rfl ?_
      refine v_iconst C (v := 1) dM_step_60 (by decide) ?_
      refine v_iadd C dM_step_61 ?_
      have hE : ((mMany (F 17)) + (1 : Int32), upd (upd F 2 0) 17 ((((F 17) &&& (262143 : Int32)) ||| (x <<< (((3 : Int32) * (mMany (F 17))) &&& 31))) ||| (((mMany (F 17)) + (1 : Int32)) <<< ((18 : Int32) &&& 31)))) = mStep F a x := (by unfold mStep; rw [if_neg h1, if_neg h2])
      exact v_iret C hr (by rw [← hE]) (by rw [← hE]) dM_step_62
    · skip
      refine v_iconst C (v := (-1)) dM_step_25 (by decide) ?_
      have hE : ((-1), upd F 2 0) = mStep F a x := (by unfold mStep; rw [if_neg h1, if_pos h2])
      exact v_iret C hr (by rw [← hE]) (by rw [← hE]) dM_step_26
set_option maxHeartbeats 4000000 in
set_option maxRecDepth 100000 in
theorem c_mClear (l : Launch) (D : va_G) (cI cZ cJ : ClassId) (b : Nat → Nat) (F : FT) (a : AT) : Kv l yM_clear wM_clear ({ frames := 0, cells := 0, slots := 0, locals := 0 } : Room) D vwCl (tyG cI cZ cJ) [.ref (b 0)] (wM cI cZ b F a) (wM cI cZ b (mClear F a) a) := by
  intro sz
  refine v_ent (cc := bM_clear) (maxL := 1) (ret := none) (Qc := (fun A => va_Qv (fun (_ : Unit) => True) (fun _ => wB D vwCl (tyG cI cZ cJ) A (wM cI cZ b (mClear F a) a)) A)) (fr := (fun A => A)) (own := RcM) rfl (by decide) rfl (Nat.le_of_ble_eq_true rfl) rfl ?_
  intro p e s m args below meth c A C hr _
  refine v_free ?_
  refine v_aload_n C 0 dM_clear_0 rfl rfl ?_
  refine v_iconst C (v := 0) dM_clear_1 (by decide) ?_
  refine v_put C (T := TcM) (N := 18) (ci := 2) (v := .int 0) inM_clear_M tycM tycM_ok nmcM 0 rfl rfl 2 (by decide) (by decide +kernel) rfl rfl rfl rfl (Nat.le_of_ble_eq_true rfl) dM_clear_2 (w1 := wM cI cZ b (upd F 2 0) a) rfl ?_
  refine v_aload_n C 0 dM_clear_5 rfl rfl ?_
  refine v_iconst C (v := 0) dM_clear_6 (by decide) ?_
  refine v_put C (T := TcM) (N := 18) (ci := 2) (v := .int 0) inM_clear_M tycM tycM_ok nmcM 0 rfl rfl 17 (by decide) (by decide +kernel) rfl rfl rfl rfl (Nat.le_of_ble_eq_true rfl) dM_clear_7 (w1 := wM cI cZ b (upd (upd F 2 0) 17 0) a) rfl ?_
  have hE : upd (upd F 2 0) 17 0 = mClear F a := (by unfold mClear; rfl)
  exact v_vret C hr (by rw [← hE]) dM_clear_10
set_option maxHeartbeats 4000000 in
set_option maxRecDepth 100000 in
theorem c_mPass (l : Launch) (D : va_G) (cI cZ cJ : ClassId) (b : Nat → Nat) (F : FT) (a : AT) (x : Int32) : Ki l yM_pass wM_pass ({ frames := 0, cells := 0, slots := 0, locals := 0 } : Room) D vwCl (tyG cI cZ cJ) [.ref (b 0), .int x] (wM cI cZ b F a) ((mPass F a x).1) (wM cI cZ b ((mPass F a x).2) a) := by
  intro sz
  refine v_ent (cc := bM_pass) (maxL := 2) (ret := (some .int)) (Qc := (fun A => va_Qi (fun (x9 : Int32) (_ : Unit) => x9 = (mPass F a x).1) (fun _ => wB D vwCl (tyG cI cZ cJ) A (wM cI cZ b ((mPass F a x).2) a)) A)) (fr := (fun A => A)) (own := RcM) rfl (by decide) rfl (Nat.le_of_ble_eq_true rfl) rfl ?_
  intro p e s m args below meth c A C hr _
  refine v_free ?_
  refine v_aload_n C 0 dM_pass_0 rfl rfl ?_
  refine v_iconst C (v := 0) dM_pass_1 (by decide) ?_
  refine v_put C (T := TcM) (N := 18) (ci := 2) (v := .int 0) inM_pass_M tycM tycM_ok nmcM 0 rfl rfl 2 (by decide) (by decide +kernel) rfl rfl rfl rfl (Nat.le_of_ble_eq_true rfl) dM_pass_2 (w1 := wM cI cZ b (upd F 2 0) a) rfl ?_
  refine v_iload_n C 1 dM_pass_5 rfl rfl ?_
  refine v_if_lt C dM_pass_6 (tgt := 15) (by decide) (fun h1 => ?_) (fun h1 => ?_)
  · skip
    refine v_iconst C (v := (-1)) dM_pass_15 (by decide) ?_
    have hE : ((-1), upd F 2 0) = mPass F a x := (by unfold mPass; rw [if_pos h1])
    exact v_iret C hr (by rw [← hE]) (by rw [← hE]) dM_pass_16
  · skip
    refine v_iload_n C 1 dM_pass_9 rfl rfl ?_
    refine v_bipush C (v := 100) dM_pass_10 (by decide) ?_
    refine v_icmp_le C dM_pass_12 (tgt := 17) (by decide) (fun h2 => ?_) (fun h2 => ?_)
    · skip
      refine v_aload_n C 0 dM_pass_17 rfl rfl ?_
      refine v_dup C dM_pass_18 rfl ?_
      refine v_get C (T := TcM) (N := 18) (ci := 2) (v := .int (F 3)) inM_pass_M 0 rfl rfl 3 (by decide) (by decide +kernel) rfl rfl dM_pass_19 ?_
      refine v_iload_n C 1 dM_pass_22 rfl rfl ?_
      refine v_iadd C dM_pass_23 ?_
      refine v_put C (T := TcM) (N := 18) (ci := 2) (v := .int ((F 3) + x)) inM_pass_M tycM tycM_ok nmcM 0 rfl rfl 3 (by decide) (by decide +kernel) rfl rfl rfl rfl (Nat.le_of_ble_eq_true rfl) dM_pass_24 (w1 := wM cI cZ b (upd (upd F 2 0) 3 ((F 3) + x)) a) rfl ?_
      refine v_aload_n C 0 dM_pass_27 rfl rfl ?_
      refine v_get C (T := TcM) (N := 18) (ci := 2) (v := .int ((F 3) + x)) inM_pass_M 0 rfl rfl 3 (by decide) (by decide +kernel) rfl rfl dM_pass_28 ?_
      have hE : ((F 3) + x, upd (upd F 2 0) 3 ((F 3) + x)) = mPass F a x := (by unfold mPass; rw [if_neg h1, if_pos h2])
      exact v_iret C hr (by rw [← hE]) (by rw [← hE]) dM_pass_31
    · skip
      refine v_iconst C (v := (-1)) dM_pass_15 (by decide) ?_
      have hE : ((-1), upd F 2 0) = mPass F a x := (by unfold mPass; rw [if_neg h1, if_neg h2])
      exact v_iret C hr (by rw [← hE]) (by rw [← hE]) dM_pass_16

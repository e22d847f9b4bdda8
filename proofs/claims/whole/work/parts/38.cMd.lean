set_option maxHeartbeats 4000000 in
set_option maxRecDepth 100000 in
theorem c_mFewest (l : Launch) (D : va_G) (cI cZ cJ : ClassId) (b : Nat → Nat) (F : FT) (a : AT) (P : Nat) (hp : F 0 = nI P) (hp6 : P ≤ 6) : Kr l yM_fewest wM_fewest ({ frames := 2, cells := 0, slots := 0, locals := 45 } : Room) D vwCl (tyG cI cZ cJ) [.ref (b 0)] (wM cI cZ b F a) (mFewest F a P) := by
  intro sz
  refine v_ent (cc := bM_fewest) (maxL := 4) (ret := (some .int)) (Qc := (fun _ _ st oc t => oc = .returned (some (.int (mFewest F a P))) ∧ t.heap = st.heap)) (fr := (fun _ _ => False)) (own := RcM) rfl (by decide) rfl (Nat.le_of_ble_eq_true rfl) rfl ?_
  intro p e s m args below meth c A C hr _
  refine v_iconst C (v := 1) dM_fewest_0 (by decide) ?_
  refine v_aload_n C 0 dM_fewest_1 rfl rfl ?_
  refine v_get C (T := TcM) (N := 18) (ci := 2) (v := .int (F 0)) inM_fewest_M 0 rfl rfl 0 (by decide) (by decide +kernel) rfl rfl dM_fewest_2 ?_
  refine v_top (y := nI P) hp ?_
  refine v_ishl C dM_fewest_5 ?_
  refine v_top (y := nI (2 ^ P)) (shl_P hp6) ?_
  refine v_iconst C (v := 1) dM_fewest_6 (by decide) ?_
  refine v_isub C dM_fewest_7 ?_
  refine v_top (y := nI (2 ^ P - 1)) (pw_sub hp6) ?_
  refine v_istore_n C (lv' := [(0, .ref (b 0)), (1, .int (nI (2 ^ P - 1)))]) [1, 0] dM_fewest_8 rfl (by decide) rfl ?_
  have hPP := pow_P hp6
  refine v_iconst C (v := 0) dM_fewest_9 (by decide) ?_
  refine v_istore_n C (lv' := [(0, .ref (b 0)), (1, .int (nI (2 ^ P - 1))), (2, .int 0)]) [1, 2, 0] dM_fewest_10 rfl (by decide) rfl ?_
  refine v_loop0 (P + 1) (fun (i : Nat) => wM cI cZ b F a) (fun (i : Nat) => [(0, .ref (b 0)), (1, .int (nI (2 ^ P - 1))), (2, .int (nI i))]) (fun (ki i : Nat) => mFewestL F a P ki i = mFewest F a P) ?_ ?_ (P + 1) 0  (by omega) (by unfold mFewest; rfl)
  · skip
    intro ki i hki hIi ihi
    have hIi : mFewestL F a P (ki + 1) i = mFewest F a P := hIi
    refine v_as (w' := wM cI cZ b F a) (lv' := [(0, .ref (b 0)), (1, .int (nI (2 ^ P - 1))), (2, .int (nI i))]) rfl rfl ?_
    refine v_iload_n C 2 dM_fewest_11 rfl rfl ?_
    refine v_aload_n C 0 dM_fewest_12 rfl rfl ?_
    refine v_get C (T := TcM) (N := 18) (ci := 2) (v := .int (F 0)) inM_fewest_M 0 rfl rfl 0 (by decide) (by decide +kernel) rfl rfl dM_fewest_13 ?_
    refine v_top (y := nI P) hp ?_
    refine v_icmp_gt C dM_fewest_16 (tgt := 60) (by decide) (fun h => absurd h (nI_nlt (a := P) (b := i) (by omega) (by omega))) (fun _ => ?_)
    refine v_iconst C (v := 0) dM_fewest_19 (by decide) ?_
    refine v_istore_n C (lv' := [(0, .ref (b 0)), (1, .int (nI (2 ^ P - 1))), (2, .int (nI i)), (3, .int 0)]) [1, 2, 3, 0] dM_fewest_20 rfl (by decide) rfl ?_
    refine v_loop0 (2 ^ P) (fun (j : Nat) => wM cI cZ b F a) (fun (j : Nat) => [(0, .ref (b 0)), (1, .int (nI (2 ^ P - 1))), (2, .int (nI i)), (3, .int (nI j))]) (fun (kj j : Nat) => mFewestI F a P i (mFewestL F a P ki (i + 1)) kj j = mFewest F a P) ?_ ?_ (2 ^ P) 0  (by omega) (by rw [← hIi]; simp only [mFewestL])
    · skip
      intro kj j hkj hIj ihj
      have hIj : mFewestI F a P i (mFewestL F a P ki (i + 1)) (kj + 1) j = mFewest F a P := hIj
      refine v_as (w' := wM cI cZ b F a) (lv' := [(0, .ref (b 0)), (1, .int (nI (2 ^ P - 1))), (2, .int (nI i)), (3, .int (nI j))]) rfl rfl ?_
      refine v_iload_n C 3 dM_fewest_21 rfl rfl ?_
      refine v_iload_n C 1 dM_fewest_22 rfl rfl ?_
      refine v_icmp_gt C dM_fewest_23 (tgt := 54) (by decide) (fun h => absurd h (nI_nlt (a := 2 ^ P - 1) (b := j) (by omega) (by omega))) (fun _ => ?_)
      refine v_iload_n C 3 dM_fewest_26 rfl rfl ?_
      refine v_cSr0 (As := [.int (nI j)]) C (c_mSize l D cI cZ cJ (nI j)) (va_cwS 1 C.2.2.2.2.1 gM_fewest_M_size rfl rfl rfl (by decide +kernel) ⟨Nat.le_of_ble_eq_true rfl, Nat.le_of_ble_eq_true rfl⟩) rfl rfl (Nat.le_of_ble_eq_true rfl) ⟨Nat.zero_le _, Nat.zero_le _⟩ dM_fewest_27 ?_
      refine v_iload_n C 2 dM_fewest_30 rfl rfl ?_
      refine v_icmp_ne C dM_fewest_31 (tgt := 48) (by decide) (fun h1 => ?_) (fun h1 => ?_)
      · skip
        refine v_iinc C (v := nI (j + 1)) (lv' := [(0, .ref (b 0)), (1, .int (nI (2 ^ P - 1))), (2, .int (nI i)), (3, .int (nI (j + 1)))]) 3 [1, 2, 3, 0] dM_fewest_48 rfl (nI_1 j) (by decide) rfl ?_
        refine v_goto C dM_fewest_51 (tgt := 21) (by decide) ?_
        have hL : mFewestI F a P i (mFewestL F a P ki (i + 1)) kj (j + 1) = mFewest F a P := (by rw [← hIj]; simp only [mFewestI]; rw [if_neg h1])
        exact ihj  hL
      · skip
        refine v_aload_n C 0 dM_fewest_34 rfl rfl ?_
        refine v_iload_n C 1 dM_fewest_35 rfl rfl ?_
        refine v_iload_n C 3 dM_fewest_36 rfl rfl ?_
        refine v_iconst C (v := (-1)) dM_fewest_37 (by decide) ?_
        refine v_ixor C dM_fewest_38 ?_
        refine v_iand C dM_fewest_39 ?_
        refine v_cVrF (As := [.int ((nI (2 ^ P - 1)) &&& ((nI j) ^^^ ((-1) : Int32)))]) C (c_mIsOpen l D cI cZ cJ b F a P ((nI (2 ^ P - 1)) &&& ((nI j) ^^^ ((-1) : Int32))) hp hp6) (cwV 1 C.2.2.2.2.1 gM_fewest_M_isOpen rfl rfl rfl (by decide +kernel) ⟨Nat.le_of_ble_eq_true rfl, Nat.le_of_ble_eq_true rfl⟩) 0 rfl (T := TcM) (N := 18) rfl rfl rfl (Nat.le_of_ble_eq_true rfl) ⟨Nat.zero_le _, Nat.zero_le _⟩ dM_fewest_40 ?_
        refine v_if_eq C dM_fewest_43 (tgt := 48) (by decide) (fun h2 => ?_) (fun h2 => ?_)
        · skip
          refine v_iinc C (v := nI (j + 1)) (lv' := [(0, .ref (b 0)), (1, .int (nI (2 ^ P - 1))), (2, .int (nI i)), (3, .int (nI (j + 1)))]) 3 [1, 2, 3, 0] dM_fewest_48 rfl (nI_1 j) (by decide) rfl ?_
          refine v_goto C dM_fewest_51 (tgt := 21) (by decide) ?_
          have hL : mFewestI F a P i (mFewestL F a P ki (i + 1)) kj (j + 1) = mFewest F a P := (by rw [← hIj]; simp only [mFewestI]; rw [if_pos h1, if_pos h2])
          exact ihj  hL
        · skip
          refine v_iload_n C 3 dM_fewest_46 rfl rfl ?_
          exact v_irr C hr (by rw [← hIj]; simp only [mFewestI]; rw [if_pos h1, if_neg h2]) dM_fewest_47
    · skip
      intro hIj
      have hIj : mFewestI F a P i (mFewestL F a P ki (i + 1)) 0 (2 ^ P) = mFewest F a P := hIj
      refine v_as (w' := wM cI cZ b F a) (lv' := [(0, .ref (b 0)), (1, .int (nI (2 ^ P - 1))), (2, .int (nI i)), (3, .int (nI (2 ^ P)))]) rfl rfl ?_
      have hKj : mFewestL F a P ki (i + 1) = mFewest F a P := hIj
      refine v_iload_n C 3 dM_fewest_21 rfl rfl ?_
      refine v_iload_n C 1 dM_fewest_22 rfl rfl ?_
      refine v_icmp_gt C dM_fewest_23 (tgt := 54) (by decide) (fun _ => ?_) (fun h => absurd (nI_lt (a := 2 ^ P - 1) (b := 2 ^ P) (by omega) (by omega)) h)
      refine v_iinc C (v := nI (i + 1)) (lv' := [(0, .ref (b 0)), (1, .int (nI (2 ^ P - 1))), (2, .int (nI (i + 1))), (3, .int (nI (2 ^ P)))]) 2 [1, 2, 0, 3] dM_fewest_54 rfl (nI_1 i) (by decide) rfl ?_
      refine v_goto C dM_fewest_57 (tgt := 11) (by decide) ?_
      refine v_loc (lv' := [(0, .ref (b 0)), (1, .int (nI (2 ^ P - 1))), (2, .int (nI (i + 1)))]) [0, 1, 2] rfl ?_
      have hL : mFewestL F a P ki (i + 1) = mFewest F a P := hKj
      exact ihi  hL
  · skip
    intro hIi
    have hIi : mFewestL F a P 0 (P + 1) = mFewest F a P := hIi
    refine v_as (w' := wM cI cZ b F a) (lv' := [(0, .ref (b 0)), (1, .int (nI (2 ^ P - 1))), (2, .int (nI (P + 1)))]) rfl rfl ?_
    refine v_iload_n C 2 dM_fewest_11 rfl rfl ?_
    refine v_aload_n C 0 dM_fewest_12 rfl rfl ?_
    refine v_get C (T := TcM) (N := 18) (ci := 2) (v := .int (F 0)) inM_fewest_M 0 rfl rfl 0 (by decide) (by decide +kernel) rfl rfl dM_fewest_13 ?_
    refine v_top (y := nI P) hp ?_
    refine v_icmp_gt C dM_fewest_16 (tgt := 60) (by decide) (fun _ => ?_) (fun h => absurd (nI_lt (a := P) (b := P + 1) (by omega) (by omega)) h)
    refine v_iload_n C 1 dM_fewest_60 rfl rfl ?_
    exact v_irr C hr (by rw [← hIi]; simp only [mFewestL]) dM_fewest_61
set_option maxHeartbeats 4000000 in
set_option maxRecDepth 100000 in
theorem c_mPlan (l : Launch) (D : va_G) (cI cZ cJ : ClassId) (b : Nat → Nat) (F : FT) (a : AT) (P : Nat) (hp : F 0 = nI P) (hp6 : P ≤ 6) : Ki l yM_plan wM_plan ({ frames := 3, cells := 0, slots := 0, locals := 68 } : Room) D vwCl (tyG cI cZ cJ) [.ref (b 0)] (wM cI cZ b F a) ((mPlan F a P).1) (wM cI cZ b ((mPlan F a P).2.1) ((mPlan F a P).2.2)) := by
  intro sz
  refine v_ent (cc := bM_plan) (maxL := 2) (ret := (some .int)) (Qc := (fun A => va_Qi (fun (x9 : Int32) (_ : Unit) => x9 = (mPlan F a P).1) (fun _ => wB D vwCl (tyG cI cZ cJ) A (wM cI cZ b ((mPlan F a P).2.1) ((mPlan F a P).2.2))) A)) (fr := (fun A => A)) (own := RcM) rfl (by decide) rfl (Nat.le_of_ble_eq_true rfl) rfl ?_
  intro p e s m args below meth c A C hr _
  refine v_free ?_
  refine v_aload_n C 0 dM_plan_0 rfl rfl ?_
  refine v_iconst C (v := 0) dM_plan_1 (by decide) ?_
  refine v_put C (T := TcM) (N := 18) (ci := 2) (v := .int 0) inM_plan_M tycM tycM_ok nmcM 0 rfl rfl 2 (by decide) (by decide +kernel) rfl rfl rfl rfl (Nat.le_of_ble_eq_true rfl) dM_plan_2 (w1 := wM cI cZ b (upd F 2 0) a) rfl ?_
  refine v_aload_n C 0 dM_plan_5 rfl rfl ?_
  refine v_get C (T := TcM) (N := 18) (ci := 2) (v := .int (F 4)) inM_plan_M 0 rfl rfl 4 (by decide) (by decide +kernel) rfl rfl dM_plan_6 ?_
  refine v_if_eq C dM_plan_9 (tgt := 18) (by decide) (fun h1 => ?_) (fun h1 => ?_)
  · skip
    have hPP := pow_P hp6
    refine v_iconst C (v := 0) dM_plan_18 (by decide) ?_
    refine v_istore_n C (lv' := [(0, .ref (b 0)), (1, .int 0)]) [1, 0] dM_plan_19 rfl (by decide) rfl ?_
    refine v_loop0 P (fun (i : Nat) => wM cI cZ b (upd F 2 0) a) (fun (i : Nat) => [(0, .ref (b 0)), (1, .int (nI i))]) (fun (ki i : Nat) => mPlanL F a P ki i = mPlan F a P) ?_ ?_ P 0  (by omega) (by unfold mPlan; rw [if_pos h1])
    · skip
      intro ki i hki hIi ihi
      have hIi : mPlanL F a P (ki + 1) i = mPlan F a P := hIi
      refine v_as (w' := wM cI cZ b (upd F 2 0) a) (lv' := [(0, .ref (b 0)), (1, .int (nI i))]) rfl rfl ?_
      refine v_iload_n C 1 dM_plan_20 rfl rfl ?_
      refine v_aload_n C 0 dM_plan_21 rfl rfl ?_
      refine v_get C (T := TcM) (N := 18) (ci := 2) (v := .int (F 0)) inM_plan_M 0 rfl rfl 0 (by decide) (by decide +kernel) rfl rfl dM_plan_22 ?_
      refine v_top (y := nI P) hp ?_
      refine v_icmp_ge C dM_plan_25 (tgt := 56) (by decide) (fun h => absurd h (nI_ge (a := i) (b := P) (by omega) (by omega))) (fun _ => ?_)
      refine v_aload_n C 0 dM_plan_28 rfl rfl ?_
      refine v_iload_n C 1 dM_plan_29 rfl rfl ?_
      refine v_cVrF (As := [.int (nI i)]) C (c_mReached l D cI cZ cJ b (upd F 2 0) a P (nI i) hp hp6) (cwV 1 C.2.2.2.2.1 gM_plan_M_reached rfl rfl rfl (by decide +kernel) ⟨Nat.le_of_ble_eq_true rfl, Nat.le_of_ble_eq_true rfl⟩) 0 rfl (T := TcM) (N := 18) rfl rfl rfl (Nat.le_of_ble_eq_true rfl) ⟨Nat.zero_le _, Nat.zero_le _⟩ dM_plan_30 ?_
      refine v_iconst C (v := 1) dM_plan_33 (by decide) ?_
      refine v_aload_n C 0 dM_plan_34 rfl rfl ?_
      refine v_get C (T := TcM) (N := 18) (ci := 2) (v := .int (F 0)) inM_plan_M 0 rfl rfl 0 (by decide) (by decide +kernel) rfl rfl dM_plan_35 ?_
      refine v_top (y := nI P) hp ?_
      refine v_ishl C dM_plan_38 ?_
      refine v_top (y := nI (2 ^ P)) (shl_P hp6) ?_
      refine v_iconst C (v := 1) dM_plan_39 (by decide) ?_
      refine v_isub C dM_plan_40 ?_
      refine v_top (y := nI (2 ^ P - 1)) (pw_sub hp6) ?_
      refine v_icmp_eq C dM_plan_41 (tgt := 50) (by decide) (fun h2 => ?_) (fun h2 => ?_)
      · skip
        refine v_iinc C (v := nI (i + 1)) (lv' := [(0, .ref (b 0)), (1, .int (nI (i + 1)))]) 1 [1, 0] dM_plan_50 rfl (nI_1 i) (by decide) rfl ?_
        refine v_goto C dM_plan_53 (tgt := 20) (by decide) ?_
        have hL : mPlanL F a P ki (i + 1) = mPlan F a P := (by rw [← hIi]; simp only [mPlanL]; rw [if_pos h2])
        exact ihi  hL
      · skip
        refine v_aload_n C 0 dM_plan_44 rfl rfl ?_
        refine v_iconst C (v := 2) dM_plan_45 (by decide) ?_
        refine v_cViF (As := [.int 2]) C (c_mFail l D cI cZ cJ b (upd F 2 0) a 2) (cwV 1 C.2.2.2.2.1 gM_plan_M_fail rfl rfl rfl (by decide +kernel) ⟨Nat.le_of_ble_eq_true rfl, Nat.le_of_ble_eq_true rfl⟩) 0 rfl (T := TcM) (N := 18) rfl rfl rfl (Nat.le_of_ble_eq_true rfl) ⟨Nat.zero_le _, Nat.zero_le _⟩ dM_plan_46 ?_
        have hE : ((mFail (upd F 2 0) a 2).1, (mFail (upd F 2 0) a 2).2, a) = mPlan F a P := (by rw [← hIi]; simp only [mPlanL]; rw [if_neg h2])
        exact v_iret C hr (by rw [← hE]) (by rw [← hE]) dM_plan_49
    · skip
      intro hIi
      have hIi : mPlanL F a P 0 P = mPlan F a P := hIi
      refine v_as (w' := wM cI cZ b (upd F 2 0) a) (lv' := [(0, .ref (b 0)), (1, .int (nI P))]) rfl rfl ?_
      refine v_iload_n C 1 dM_plan_20 rfl rfl ?_
      refine v_aload_n C 0 dM_plan_21 rfl rfl ?_
      refine v_get C (T := TcM) (N := 18) (ci := 2) (v := .int (F 0)) inM_plan_M 0 rfl rfl 0 (by decide) (by decide +kernel) rfl rfl dM_plan_22 ?_
      refine v_top (y := nI P) hp ?_
      refine v_icmp_ge C dM_plan_25 (tgt := 56) (by decide) (fun _ => ?_) (fun h => absurd (nI_le (a := P) (b := P) (by omega) (by omega)) h)
      refine v_aload_n C 0 dM_plan_56 rfl rfl ?_
      refine v_iconst C (v := 1) dM_plan_57 (by decide) ?_
      refine v_put C (T := TcM) (N := 18) (ci := 2) (v := .int 1) inM_plan_M tycM tycM_ok nmcM 0 rfl rfl 4 (by decide) (by decide +kernel) rfl rfl (by decide) (by rfl) (Nat.le_of_ble_eq_true rfl) dM_plan_58 (w1 := wM cI cZ b (upd (upd F 2 0) 4 1) a) rfl ?_
      refine v_aload_n C 0 dM_plan_61 rfl rfl ?_
      refine v_aload_n C 0 dM_plan_62 rfl rfl ?_
      refine v_get C (T := TcM) (N := 18) (ci := 2) (v := .int (F 3)) inM_plan_M 0 rfl rfl 3 (by decide) (by decide +kernel) rfl rfl dM_plan_63 ?_
      refine v_put C (T := TcM) (N := 18) (ci := 2) (v := .int (F 3)) inM_plan_M tycM tycM_ok nmcM 0 rfl rfl 5 (by decide) (by decide +kernel) rfl rfl rfl rfl (Nat.le_of_ble_eq_true rfl) dM_plan_66 (w1 := wM cI cZ b (upd (upd (upd F 2 0) 4 1) 5 (F 3)) a) rfl ?_
      refine v_aload_n C 0 dM_plan_69 rfl rfl ?_
      refine v_aload_n C 0 dM_plan_70 rfl rfl ?_
      refine v_cViF (As := []) C (c_mGreat l D cI cZ cJ b (upd (upd (upd F 2 0) 4 1) 5 (F 3)) a P hp hp6) (cwV 0 C.2.2.2.2.1 gM_plan_M_greatest rfl rfl rfl (by decide +kernel) ⟨Nat.le_of_ble_eq_true rfl, Nat.le_of_ble_eq_true rfl⟩) 0 rfl (T := TcM) (N := 18) rfl rfl rfl (Nat.le_of_ble_eq_true rfl) ⟨Nat.zero_le _, Nat.zero_le _⟩ dM_plan_71 ?_
      refine v_put C (T := TcM) (N := 18) (ci := 2) (v := .int ((mGreat (upd (upd (upd F 2 0) 4 1) 5 (F 3)) a P).1)) inM_plan_M tycM tycM_ok nmcM 0 rfl rfl 6 (by decide) (by decide +kernel) rfl rfl rfl rfl (Nat.le_of_ble_eq_true rfl) dM_plan_74 (w1 := wM cI cZ b (upd (upd (upd (upd F 2 0) 4 1) 5 (F 3)) 6 ((mGreat (upd (upd (upd F 2 0) 4 1) 5 (F 3)) a P).1)) ((mGreat (upd (upd (upd F 2 0) 4 1) 5 (F 3)) a P).2)) rfl ?_
      refine v_aload_n C 0 dM_plan_77 rfl rfl ?_
      refine v_aload_n C 0 dM_plan_78 rfl rfl ?_
      refine v_cVrF (As := []) C (c_mFewest l D cI cZ cJ b (upd (upd (upd (upd F 2 0) 4 1) 5 (F 3)) 6 ((mGreat (upd (upd (upd F 2 0) 4 1) 5 (F 3)) a P).1)) ((mGreat (upd (upd (upd F 2 0) 4 1) 5 (F 3)) a P).2) P hp hp6) (cwV 0 C.2.2.2.2.1 gM_plan_M_fewest rfl rfl rfl (by decide +kernel) ⟨Nat.le_of_ble_eq_true rfl, Nat.le_of_ble_eq_true rfl⟩) 0 rfl (T := TcM) (N := 18) rfl rfl rfl (Nat.le_of_ble_eq_true rfl) ⟨Nat.zero_le _, Nat.zero_le _⟩ dM_plan_79 ?_
      refine v_put C (T := TcM) (N := 18) (ci := 2) (v := .int (mFewest (upd (upd (upd (upd F 2 0) 4 1) 5 (F 3)) 6 ((mGreat (upd (upd (upd F 2 0) 4 1) 5 (F 3)) a P).1)) ((mGreat (upd (upd (upd F 2 0) 4 1) 5 (F 3)) a P).2) P)) inM_plan_M tycM tycM_ok nmcM 0 rfl rfl 7 (by decide) (by decide +kernel) rfl rfl rfl rfl (Nat.le_of_ble_eq_true rfl) dM_plan_82 (w1 := wM cI cZ b (upd (upd (upd (upd (upd F 2 0) 4 1) 5 (F 3)) 6 ((mGreat (upd (upd (upd F 2 0) 4 1) 5 (F 3)) a P).1)) 7 (mFewest (upd (upd (upd (upd F 2 0) 4 1) 5 (F 3)) 6 ((mGreat (upd (upd (upd F 2 0) 4 1) 5 (F 3)) a P).1)) ((mGreat (upd (upd (upd F 2 0) 4 1) 5 (F 3)) a P).2) P)) ((mGreat (upd (upd (upd F 2 0) 4 1) 5 (F 3)) a P).2)) rfl ?_
      refine v_aload_n C 0 dM_plan_85 rfl rfl ?_
      refine v_get C (T := TcM) (N := 18) (ci := 2) (v := .int ((mGreat (upd (upd (upd F 2 0) 4 1) 5 (F 3)) a P).1)) inM_plan_M 0 rfl rfl 6 (by decide) (by decide +kernel) rfl rfl dM_plan_86 ?_
      have hE : ((mGreat (upd (upd (upd F 2 0) 4 1) 5 (F 3)) a P).1, upd (upd (upd (upd (upd F 2 0) 4 1) 5 (F 3)) 6 ((mGreat (upd (upd (upd F 2 0) 4 1) 5 (F 3)) a P).1)) 7 (mFewest (upd (upd (upd (upd F 2 0) 4 1) 5 (F 3)) 6 ((mGreat (upd (upd (upd F 2 0) 4 1) 5 (F 3)) a P).1)) ((mGreat (upd (upd (upd F 2 0) 4 1) 5 (F 3)) a P).2) P), (mGreat (upd (upd (upd F 2 0) 4 1) 5 (F 3)) a P).2) = mPlan F a P := (by rw [← hIi]; simp only [mPlanL])
      exact v_iret C hr (by rw [← hE]) (by rw [← hE]) dM_plan_89
  · skip
    refine v_aload_n C 0 dM_plan_12 rfl rfl ?_
    refine v_iconst C (v := 1) dM_plan_13 (by decide) ?_
    refine v_cViF (As := [.int 1]) C (c_mFail l D cI cZ cJ b (upd F 2 0) a 1) (cwV 1 C.2.2.2.2.1 gM_plan_M_fail rfl rfl rfl (by decide +kernel) ⟨Nat.le_of_ble_eq_true rfl, Nat.le_of_ble_eq_true rfl⟩) 0 rfl (T := TcM) (N := 18) rfl rfl rfl (Nat.le_of_ble_eq_true rfl) ⟨Nat.zero_le _, Nat.zero_le _⟩ dM_plan_14 ?_
    have hE : ((mFail (upd F 2 0) a 1).1, (mFail (upd F 2 0) a 1).2, a) = mPlan F a P := (by unfold mPlan; rw [if_neg h1])
    exact v_iret C hr (by rw [← hE]) (by rw [← hE]) dM_plan_17
set_option maxHeartbeats 4000000 in
set_option maxRecDepth 100000 in
theorem c_mDeploy (l : Launch) (D : va_G) (cI cZ cJ : ClassId) (b : Nat → Nat) (F : FT) (a : AT) (n : Nat) (x : Int32) (hn : F 9 = nI n) (hn4 : n ≤ 14) : Kv l yM_deploy wM_deploy ({ frames := 1, cells := 0, slots := 0, locals := 21 } : Room) D vwCl (tyG cI cZ cJ) [.ref (b 0), .int x] (wM cI cZ b F a) (wM cI cZ b ((mDeploy F a x).1) ((mDeploy F a x).2)) := by
  intro sz
  refine v_ent (cc := bM_deploy) (maxL := 2) (ret := none) (Qc := (fun A => va_Qv (fun (_ : Unit) => True) (fun _ => wB D vwCl (tyG cI cZ cJ) A (wM cI cZ b ((mDeploy F a x).1) ((mDeploy F a x).2))) A)) (fr := (fun A => A)) (own := RcM) rfl (by decide) rfl (Nat.le_of_ble_eq_true rfl) rfl ?_
  intro p e s m args below meth c A C hr _
  refine v_free ?_
  refine v_aload_n C 0 dM_deploy_0 rfl rfl ?_
  refine v_aload_n C 0 dM_deploy_1 rfl rfl ?_
  refine v_iload_n C 1 dM_deploy_2 rfl rfl ?_
  refine v_cVrF (As := [.int x]) C (c_mIsArc l D cI cZ cJ b F a x) (cwV 1 C.2.2.2.2.1 gM_deploy_M_isArc rfl rfl rfl (by decide +kernel) ⟨Nat.le_of_ble_eq_true rfl, Nat.le_of_ble_eq_true rfl⟩) 0 rfl (T := TcM) (N := 18) rfl rfl rfl (Nat.le_of_ble_eq_true rfl) ⟨Nat.zero_le _, Nat.zero_le _⟩ dM_deploy_3 ?_
  refine v_if_ne C dM_deploy_6 (tgt := 13) (by decide) (fun h1 => ?_) (fun h1 => ?_)
  · skip
    have hx : vp_in x 14 := vp_arcM (by assumption) hn hn4
    refine v_aload_n C 0 dM_deploy_13 rfl rfl ?_
    refine v_get C (T := TcM) (N := 18) (ci := 2) (v := .int (F 4)) inM_deploy_M 0 rfl rfl 4 (by decide) (by decide +kernel) rfl rfl dM_deploy_14 ?_
    refine v_if_eq C dM_deploy_17 (tgt := 29) (by decide) (fun h2 => ?_) (fun h2 => ?_)
    · skip
      refine v_iconst C (v := 2) dM_deploy_29 (by decide) ?_
      refine v_goto C dM_deploy_30 (tgt := 34) (by decide) ?_
      refine v_put C (T := TcM) (N := 18) (ci := 2) (v := .int 2) inM_deploy_M tycM tycM_ok nmcM 0 rfl rfl 2 (by decide) (by decide +kernel) rfl rfl rfl rfl (Nat.le_of_ble_eq_true rfl) dM_deploy_34 (w1 := wM cI cZ b (upd F 2 2) a) rfl ?_
      refine v_aload_n C 0 dM_deploy_37 rfl rfl ?_
      refine v_get C (T := TcM) (N := 18) (ci := 2) (v := .int 2) inM_deploy_M 0 rfl rfl 2 (by decide) (by decide +kernel) rfl rfl dM_deploy_38 ?_
      refine v_if_ne C dM_deploy_41 (tgt := 51) (by decide) (fun _ => ?_) (fun h => absurd h (by decide))
      have hE : (upd F 2 2, a) = mDeploy F a x := (by unfold mDeploy; rw [if_neg h1, if_pos h2])
      exact v_vret C hr (by rw [← hE]) dM_deploy_51
    · skip
      refine v_aload_n C 0 dM_deploy_20 rfl rfl ?_
      refine v_get C (T := TcM) (N := 18) (ci := 2) (v := .ref (b 3)) inM_deploy_M 0 rfl rfl 12 (by decide) (by decide +kernel) rfl rfl dM_deploy_21 ?_
      refine v_iload_n C 1 dM_deploy_24 rfl rfl ?_
      refine v_iald C 3 0 (f := a 12) (y := (a 12) x.toNatClampNeg) (j := x.toNatClampNeg) rfl rfl rfl rfl hx dM_deploy_25 ?_
      refine v_if_eq C dM_deploy_26 (tgt := 33) (by decide) (fun h3 => ?_) (fun h3 => ?_)
      · skip
        refine v_iconst C (v := 0) dM_deploy_33 (by decide) ?_
        refine v_put C (T := TcM) (N := 18) (ci := 2) (v := .int 0) inM_deploy_M tycM tycM_ok nmcM 0 rfl rfl 2 (by decide) (by decide +kernel) rfl rfl rfl rfl (Nat.le_of_ble_eq_true rfl) dM_deploy_34 (w1 := wM cI cZ b (upd F 2 0) a) rfl ?_
        refine v_aload_n C 0 dM_deploy_37 rfl rfl ?_
        refine v_get C (T := TcM) (N := 18) (ci := 2) (v := .int 0) inM_deploy_M 0 rfl rfl 2 (by decide) (by decide +kernel) rfl rfl dM_deploy_38 ?_
        refine v_if_ne C dM_deploy_41 (tgt := 51) (by decide) (fun h => absurd h (by decide)) (fun _ => ?_)
        refine v_aload_n C 0 dM_deploy_44 rfl rfl ?_
        refine v_get C (T := TcM) (N := 18) (ci := 2) (v := .ref (b 3)) inM_deploy_M 0 rfl rfl 12 (by decide) (by decide +kernel) rfl rfl dM_deploy_45 ?_
        refine v_iload_n C 1 dM_deploy_48 rfl rfl ?_
        refine v_iconst C (v := 1) dM_deploy_49 (by decide) ?_
        obtain ⟨zz1, hzz1⟩ : ∃ z9, upd (a 12) x.toNatClampNeg 1 = z9 := ⟨_, rfl⟩
        refine v_iast C 3 0 (f := a 12) (j := x.toNatClampNeg) (f1 := zz1) rfl rfl rfl hzz1 hx dM_deploy_50 (w1 := wM cI cZ b (upd F 2 0) (updA a 12 zz1)) rfl ?_
        have hE : (upd F 2 0, updA a 12 zz1) = mDeploy F a x := (by unfold mDeploy; rw [hzz1, if_neg h1, if_neg h2, if_pos h3])
        exact v_vret C hr (by rw [← hE]) dM_deploy_51
      · skip
        refine v_iconst C (v := 2) dM_deploy_29 (by decide) ?_
        refine v_goto C dM_deploy_30 (tgt := 34) (by decide) ?_
        refine v_put C (T := TcM) (N := 18) (ci := 2) (v := .int 2) inM_deploy_M tycM tycM_ok nmcM 0 rfl rfl 2 (by decide) (by decide +kernel) rfl rfl rfl rfl (Nat.le_of_ble_eq_true rfl) dM_deploy_34 (w1 := wM cI cZ b (upd F 2 2) a) rfl ?_
        refine v_aload_n C 0 dM_deploy_37 rfl rfl ?_
        refine v_get C (T := TcM) (N := 18) (ci := 2) (v := .int 2) inM_deploy_M 0 rfl rfl 2 (by decide) (by decide +kernel) rfl rfl dM_deploy_38 ?_
        refine v_if_ne C dM_deploy_41 (tgt := 51) (by decide) (fun _ => ?_) (fun h => absurd h (by decide))
        have hE : (upd F 2 2, a) = mDeploy F a x := (by unfold mDeploy; rw [if_neg h1, if_neg h2, if_neg h3])
        exact v_vret C hr (by rw [← hE]) dM_deploy_51
  · skip
    refine v_iconst C (v := 1) dM_deploy_9 (by decide) ?_
    refine v_goto C dM_deploy_10 (tgt := 34) (by decide) ?_
    refine v_put C (T := TcM) (N := 18) (ci := 2) (v := .int 1) inM_deploy_M tycM tycM_ok nmcM 0 rfl rfl 2 (by decide) (by decide +kernel) rfl rfl rfl rfl (Nat.le_of_ble_eq_true rfl) dM_deploy_34 (w1 := wM cI cZ b (upd F 2 1) a) rfl ?_
    refine v_aload_n C 0 dM_deploy_37 rfl rfl ?_
    refine v_get C (T := TcM) (N := 18) (ci := 2) (v := .int 1) inM_deploy_M 0 rfl rfl 2 (by decide) (by decide +kernel) rfl rfl dM_deploy_38 ?_
    refine v_if_ne C dM_deploy_41 (tgt := 51) (by decide) (fun _ => ?_) (fun h => absurd h (by decide))
    have hE : (upd F 2 1, a) = mDeploy F a x := (by unfold mDeploy; rw [if_pos h1])
    exact v_vret C hr (by rw [← hE]) dM_deploy_51
set_option maxHeartbeats 4000000 in
set_option maxRecDepth 100000 in
theorem c_mBack (l : Launch) (D : va_G) (cI cZ cJ : ClassId) (b : Nat → Nat) (F : FT) (a : AT) (n : Nat) (x : Int32) (hn : F 9 = nI n) (hn4 : n ≤ 14) : Kv l yM_back wM_back ({ frames := 1, cells := 0, slots := 0, locals := 21 } : Room) D vwCl (tyG cI cZ cJ) [.ref (b 0), .int x] (wM cI cZ b F a) (wM cI cZ b ((mBack F a x).1) ((mBack F a x).2)) := by
  intro sz
  refine v_ent (cc := bM_back) (maxL := 2) (ret := none) (Qc := (fun A => va_Qv (fun (_ : Unit) => True) (fun _ => wB D vwCl (tyG cI cZ cJ) A (wM cI cZ b ((mBack F a x).1) ((mBack F a x).2))) A)) (fr := (fun A => A)) (own := RcM) rfl (by decide) rfl (Nat.le_of_ble_eq_true rfl) rfl ?_
  intro p e s m args below meth c A C hr _
  refine v_free ?_
  refine v_aload_n C 0 dM_back_0 rfl rfl ?_
  refine v_aload_n C 0 dM_back_1 rfl rfl ?_
  refine v_iload_n C 1 dM_back_2 rfl rfl ?_
  refine v_cVrF (As := [.int x]) C (c_mIsArc l D cI cZ cJ b F a x) (cwV 1 C.2.2.2.2.1 gM_back_M_isArc rfl rfl rfl (by decide +kernel) ⟨Nat.le_of_ble_eq_true rfl, Nat.le_of_ble_eq_true rfl⟩) 0 rfl (T := TcM) (N := 18) rfl rfl rfl (Nat.le_of_ble_eq_true rfl) ⟨Nat.zero_le _, Nat.zero_le _⟩ dM_back_3 ?_
  refine v_if_ne C dM_back_6 (tgt := 13) (by decide) (fun h1 => ?_) (fun h1 => ?_)
  · skip
    have hx : vp_in x 14 := vp_arcM (by assumption) hn hn4
    refine v_aload_n C 0 dM_back_13 rfl rfl ?_
    refine v_get C (T := TcM) (N := 18) (ci := 2) (v := .ref (b 3)) inM_back_M 0 rfl rfl 12 (by decide) (by decide +kernel) rfl rfl dM_back_14 ?_
    refine v_iload_n C 1 dM_back_17 rfl rfl ?_
    refine v_iald C 3 0 (f := a 12) (y := (a 12) x.toNatClampNeg) (j := x.toNatClampNeg) rfl rfl rfl rfl hx dM_back_18 ?_
    refine v_iconst C (v := 1) dM_back_19 (by decide) ?_
    refine v_icmp_eq C dM_back_20 (tgt := 27) (by decide) (fun h2 => ?_) (fun h2 => ?_)
    · skip
      refine v_aload_n C 0 dM_back_27 rfl rfl ?_
      refine v_cVrF (As := []) C (c_mIsLate l D cI cZ cJ b F a) (cwV 0 C.2.2.2.2.1 gM_back_M_isLate rfl rfl rfl (by decide +kernel) ⟨Nat.le_of_ble_eq_true rfl, Nat.le_of_ble_eq_true rfl⟩) 0 rfl (T := TcM) (N := 18) rfl rfl rfl (Nat.le_of_ble_eq_true rfl) ⟨Nat.zero_le _, Nat.zero_le _⟩ dM_back_28 ?_
      refine v_if_ne C dM_back_31 (tgt := 38) (by decide) (fun h3 => ?_) (fun h3 => ?_)
      · skip
        refine v_iconst C (v := 0) dM_back_38 (by decide) ?_
        refine v_put C (T := TcM) (N := 18) (ci := 2) (v := .int 0) inM_back_M tycM tycM_ok nmcM 0 rfl rfl 2 (by decide) (by decide +kernel) rfl rfl rfl rfl (Nat.le_of_ble_eq_true rfl) dM_back_39 (w1 := wM cI cZ b (upd F 2 0) a) rfl ?_
        refine v_aload_n C 0 dM_back_42 rfl rfl ?_
        refine v_get C (T := TcM) (N := 18) (ci := 2) (v := .int 0) inM_back_M 0 rfl rfl 2 (by decide) (by decide +kernel) rfl rfl dM_back_43 ?_
        refine v_if_ne C dM_back_46 (tgt := 56) (by decide) (fun h => absurd h (by decide)) (fun _ => ?_)
        refine v_aload_n C 0 dM_back_49 rfl rfl ?_
        refine v_get C (T := TcM) (N := 18) (ci := 2) (v := .ref (b 3)) inM_back_M 0 rfl rfl 12 (by decide) (by decide +kernel) rfl rfl dM_back_50 ?_
        refine v_iload_n C 1 dM_back_53 rfl rfl ?_
        refine v_iconst C (v := 3) dM_back_54 (by decide) ?_
        obtain ⟨zz1, hzz1⟩ : ∃ z9, upd (a 12) x.toNatClampNeg 3 = z9 := ⟨_, rfl⟩
        refine v_iast C 3 0 (f := a 12) (j := x.toNatClampNeg) (f1 := zz1) rfl rfl rfl hzz1 hx dM_back_55 (w1 := wM cI cZ b (upd F 2 0) (updA a 12 zz1)) rfl ?_
        have hE : (upd F 2 0, updA a 12 zz1) = mBack F a x := (by unfold mBack; rw [hzz1, if_neg h1, if_pos h2, if_neg h3])
        exact v_vret C hr (by rw [← hE]) dM_back_56
      · skip
        refine v_iconst C (v := 3) dM_back_34 (by decide) ?_
        refine v_goto C dM_back_35 (tgt := 39) (by decide) ?_
        refine v_put C (T := TcM) (N := 18) (ci := 2) (v := .int 3) inM_back_M tycM tycM_ok nmcM 0 rfl rfl 2 (by decide) (by decide +kernel) rfl rfl rfl rfl (Nat.le_of_ble_eq_true rfl) dM_back_39 (w1 := wM cI cZ b (upd F 2 3) a) rfl ?_
        refine v_aload_n C 0 dM_back_42 rfl rfl ?_
        refine v_get C (T := TcM) (N := 18) (ci := 2) (v := .int 3) inM_back_M 0 rfl rfl 2 (by decide) (by decide +kernel) rfl rfl dM_back_43 ?_
        refine v_if_ne C dM_back_46 (tgt := 56) (by decide) (fun _ => ?_) (fun h => absurd h (by decide))
        have hE : (upd F 2 3, a) = mBack F a x := (by unfold mBack; rw [if_neg h1, if_pos h2, if_pos h3])
        exact v_vret C hr (by rw [← hE]) dM_back_56
    · skip
      refine v_iconst C (v := 2) dM_back_23 (by decide) ?_
      refine v_goto C dM_back_24 (tgt := 39) (by decide) ?_
      refine v_put C (T := TcM) (N := 18) (ci := 2) (v := .int 2) inM_back_M tycM tycM_ok nmcM 0 rfl rfl 2 (by decide) (by decide +kernel) rfl rfl rfl rfl (Nat.le_of_ble_eq_true rfl) dM_back_39 (w1 := wM cI cZ b (upd F 2 2) a) rfl ?_
      refine v_aload_n C 0 dM_back_42 rfl rfl ?_
      refine v_get C (T := TcM) (N := 18) (ci := 2) (v := .int 2) inM_back_M 0 rfl rfl 2 (by decide) (by decide +kernel) rfl rfl dM_back_43 ?_
      refine v_if_ne C dM_back_46 (tgt := 56) (by decide) (fun _ => ?_) (fun h => absurd h (by decide))
      have hE : (upd F 2 2, a) = mBack F a x := (by unfold mBack; rw [if_neg h1, if_neg h2])
      exact v_vret C hr (by rw [← hE]) dM_back_56
  · skip
    refine v_iconst C (v := 1) dM_back_9 (by decide) ?_
    refine v_goto C dM_back_10 (tgt := 39) (by decide) ?_
    refine v_put C (T := TcM) (N := 18) (ci := 2) (v := .int 1) inM_back_M tycM tycM_ok nmcM 0 rfl rfl 2 (by decide) (by decide +kernel) rfl rfl rfl rfl (Nat.le_of_ble_eq_true rfl) dM_back_39 (w1 := wM cI cZ b (upd F 2 1) a) rfl ?_
    refine v_aload_n C 0 dM_back_42 rfl rfl ?_
    refine v_get C (T := TcM) (N := 18) (ci := 2) (v := .int 1) inM_back_M 0 rfl rfl 2 (by decide) (by decide +kernel) rfl rfl dM_back_43 ?_
    refine v_if_ne C dM_back_46 (tgt := 56) (by decide) (fun _ => ?_) (fun h => absurd h (by decide))
    have hE : (upd F 2 1, a) = mBack F a x := (by unfold mBack; rw [if_pos h1])
    exact v_vret C hr (by rw [← hE]) dM_back_56

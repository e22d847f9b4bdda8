set_option maxHeartbeats 4000000 in
set_option maxRecDepth 100000 in
theorem c_mAct (l : Launch) (D : va_G) (cI cZ cJ : ClassId) (b : Nat → Nat) (F : FT) (a : AT) (n : Nat) (P : Nat) (x : Int32) (hn : F 9 = nI n) (hn4 : n ≤ 14) (hp : F 0 = nI P) (hp6 : P ≤ 6) (hK : KM a) : Ki l yM_act wM_act ({ frames := 4, cells := 0, slots := 0, locals := 95 } : Room) D vwCl (tyG cI cZ cJ) [.ref (b 0), .int x] (wM cI cZ b F a) ((mAct F a n P x).1) (wM cI cZ b ((mAct F a n P x).2.1) ((mAct F a n P x).2.2)) := by
  intro sz
  refine v_ent (cc := bM_act) (maxL := 2) (ret := (some .int)) (Qc := (fun A => va_Qi (fun (x9 : Int32) (_ : Unit) => x9 = (mAct F a n P x).1) (fun _ => wB D vwCl (tyG cI cZ cJ) A (wM cI cZ b ((mAct F a n P x).2.1) ((mAct F a n P x).2.2))) A)) (fr := (fun A => A)) (own := RcM) rfl (by decide) rfl (Nat.le_of_ble_eq_true rfl) rfl ?_
  intro p e s m args below meth c A C hr _
  refine v_free ?_
  refine v_aload_n C 0 dM_act_0 rfl rfl ?_
  refine v_iconst C (v := 0) dM_act_1 (by decide) ?_
  refine v_put C (T := TcM) (N := 18) (ci := 2) (v := .int 0) inM_act_M tycM tycM_ok nmcM 0 rfl rfl 2 (by decide) (by decide +kernel) rfl rfl rfl rfl (Nat.le_of_ble_eq_true rfl) dM_act_2 (w1 := wM cI cZ b (upd F 2 0) a) rfl ?_
  refine v_aload_n C 0 dM_act_5 rfl rfl ?_
  refine v_iload_n C 1 dM_act_6 rfl rfl ?_
  refine v_cVrF (As := [.int x]) C (c_mIsParty l D cI cZ cJ b (upd F 2 0) a x) (cwV 1 C.2.2.2.2.1 gM_act_M_isParty rfl rfl rfl (by decide +kernel) ⟨Nat.le_of_ble_eq_true rfl, Nat.le_of_ble_eq_true rfl⟩) 0 rfl (T := TcM) (N := 18) rfl rfl rfl (Nat.le_of_ble_eq_true rfl) ⟨Nat.zero_le _, Nat.zero_le _⟩ dM_act_7 ?_
  refine v_if_ne C dM_act_10 (tgt := 19) (by decide) (fun h1 => ?_) (fun h1 => ?_)
  · skip
    refine v_aload_n C 0 dM_act_19 rfl rfl ?_
    refine v_get C (T := TcM) (N := 18) (ci := 2) (v := .int (F 4)) inM_act_M 0 rfl rfl 4 (by decide) (by decide +kernel) rfl rfl dM_act_20 ?_
    refine v_if_ne C dM_act_23 (tgt := 32) (by decide) (fun h2 => ?_) (fun h2 => ?_)
    · skip
      refine v_aload_n C 0 dM_act_32 rfl rfl ?_
      refine v_get C (T := TcM) (N := 18) (ci := 2) (v := .int (F 8)) inM_act_M 0 rfl rfl 8 (by decide) (by decide +kernel) rfl rfl dM_act_33 ?_
      refine v_iload_n C 1 dM_act_36 rfl rfl ?_
      refine v_cSr0 (As := [.int (F 8), .int x]) C (c_mHas l D cI cZ cJ (F 8) x) (va_cwS 2 C.2.2.2.2.1 gM_act_M_has rfl rfl rfl (by decide +kernel) ⟨Nat.le_of_ble_eq_true rfl, Nat.le_of_ble_eq_true rfl⟩) rfl rfl (Nat.le_of_ble_eq_true rfl) ⟨Nat.zero_le _, Nat.zero_le _⟩ dM_act_37 ?_
      refine v_if_eq C dM_act_40 (tgt := 51) (by decide) (fun h3 => ?_) (fun h3 => ?_)
      · skip
        have hxj := partyM_self (F := upd F 2 0) (a := a) (by assumption) hp hp6
        refine v_aload_n C 0 dM_act_51 rfl rfl ?_
        refine v_iload_n C 1 dM_act_52 rfl rfl ?_
        refine v_top (y := nI x.toNatClampNeg) hxj.1 ?_
        refine v_cViF (As := [.int (nI x.toNatClampNeg)]) C (c_mDeeds l D cI cZ cJ b (upd F 2 0) a n P x.toNatClampNeg hn hn4 hp hp6 (by omega) hK) (cwV 1 C.2.2.2.2.1 gM_act_M_deeds rfl rfl rfl (by decide +kernel) ⟨Nat.le_of_ble_eq_true rfl, Nat.le_of_ble_eq_true rfl⟩) 0 rfl (T := TcM) (N := 18) rfl rfl rfl (Nat.le_of_ble_eq_true rfl) ⟨Nat.zero_le _, Nat.zero_le _⟩ dM_act_53 ?_
        have hE : ((mDeeds (upd F 2 0) a n P x.toNatClampNeg).1, upd F 2 0, (mDeeds (upd F 2 0) a n P x.toNatClampNeg).2) = mAct F a n P x := (by unfold mAct; rw [if_neg h1, if_neg h2, if_pos h3])
        exact v_iret C hr (by rw [← hE]) (by rw [← hE]) dM_act_56
      · skip
        refine v_aload_n C 0 dM_act_43 rfl rfl ?_
        refine v_iconst C (v := 3) dM_act_44 (by decide) ?_
        refine v_cViF (As := [.int 3]) C (c_mFail l D cI cZ cJ b (upd F 2 0) a 3) (cwV 1 C.2.2.2.2.1 gM_act_M_fail rfl rfl rfl (by decide +kernel) ⟨Nat.le_of_ble_eq_true rfl, Nat.le_of_ble_eq_true rfl⟩) 0 rfl (T := TcM) (N := 18) rfl rfl rfl (Nat.le_of_ble_eq_true rfl) ⟨Nat.zero_le _, Nat.zero_le _⟩ dM_act_45 ?_
        refine v_goto C dM_act_48 (tgt := 56) (by decide) ?_
        have hE : ((mFail (upd F 2 0) a 3).1, (mFail (upd F 2 0) a 3).2, a) = mAct F a n P x := (by unfold mAct; rw [if_neg h1, if_neg h2, if_neg h3])
        exact v_iret C hr (by rw [← hE]) (by rw [← hE]) dM_act_56
    · skip
      refine v_aload_n C 0 dM_act_26 rfl rfl ?_
      refine v_iconst C (v := 2) dM_act_27 (by decide) ?_
      refine v_cViF (As := [.int 2]) C (c_mFail l D cI cZ cJ b (upd F 2 0) a 2) (cwV 1 C.2.2.2.2.1 gM_act_M_fail rfl rfl rfl (by decide +kernel) ⟨Nat.le_of_ble_eq_true rfl, Nat.le_of_ble_eq_true rfl⟩) 0 rfl (T := TcM) (N := 18) rfl rfl rfl (Nat.le_of_ble_eq_true rfl) ⟨Nat.zero_le _, Nat.zero_le _⟩ dM_act_28 ?_
      have hE : ((mFail (upd F 2 0) a 2).1, (mFail (upd F 2 0) a 2).2, a) = mAct F a n P x := (by unfold mAct; rw [if_neg h1, if_pos h2])
      exact v_iret C hr (by rw [← hE]) (by rw [← hE]) dM_act_31
  · skip
    refine v_aload_n C 0 dM_act_13 rfl rfl ?_
    refine v_iconst C (v := 1) dM_act_14 (by decide) ?_
    refine v_cViF (As := [.int 1]) C (c_mFail l D cI cZ cJ b (upd F 2 0) a 1) (cwV 1 C.2.2.2.2.1 gM_act_M_fail rfl rfl rfl (by decide +kernel) ⟨Nat.le_of_ble_eq_true rfl, Nat.le_of_ble_eq_true rfl⟩) 0 rfl (T := TcM) (N := 18) rfl rfl rfl (Nat.le_of_ble_eq_true rfl) ⟨Nat.zero_le _, Nat.zero_le _⟩ dM_act_15 ?_
    have hE : ((mFail (upd F 2 0) a 1).1, (mFail (upd F 2 0) a 1).2, a) = mAct F a n P x := (by unfold mAct; rw [if_pos h1])
    exact v_iret C hr (by rw [← hE]) (by rw [← hE]) dM_act_18
set_option maxHeartbeats 4000000 in
set_option maxRecDepth 100000 in
theorem c_mRun (l : Launch) (D : va_G) (cI cZ cJ : ClassId) (b : Nat → Nat) (F : FT) (a : AT) (n : Nat) (P : Nat) (x : Int32) (hn : F 9 = nI n) (hn4 : n ≤ 14) (hp : F 0 = nI P) (hp6 : P ≤ 6) (hK : KM a) : Ki l yM_run wM_run ({ frames := 4, cells := 0, slots := 0, locals := 95 } : Room) D vwCl (tyG cI cZ cJ) [.ref (b 0), .int x] (wM cI cZ b F a) ((mRun F a n P x).1) (wM cI cZ b ((mRun F a n P x).2.1) ((mRun F a n P x).2.2)) := by
  intro sz
  refine v_ent (cc := bM_run) (maxL := 5) (ret := (some .int)) (Qc := (fun A => va_Qi (fun (x9 : Int32) (_ : Unit) => x9 = (mRun F a n P x).1) (fun _ => wB D vwCl (tyG cI cZ cJ) A (wM cI cZ b ((mRun F a n P x).2.1) ((mRun F a n P x).2.2))) A)) (fr := (fun A => A)) (own := RcM) rfl (by decide) rfl (Nat.le_of_ble_eq_true rfl) rfl ?_
  intro p e s m args below meth c A C hr _
  refine v_free ?_
  refine v_aload_n C 0 dM_run_0 rfl rfl ?_
  refine v_iconst C (v := 0) dM_run_1 (by decide) ?_
  refine v_put C (T := TcM) (N := 18) (ci := 2) (v := .int 0) inM_run_M tycM tycM_ok nmcM 0 rfl rfl 2 (by decide) (by decide +kernel) rfl rfl rfl rfl (Nat.le_of_ble_eq_true rfl) dM_run_2 (w1 := wM cI cZ b (upd F 2 0) a) rfl ?_
  refine v_iload_n C 1 dM_run_5 rfl rfl ?_
  refine v_if_lt C dM_run_6 (tgt := 15) (by decide) (fun h1 => ?_) (fun h1 => ?_)
  · skip
    refine v_aload_n C 0 dM_run_15 rfl rfl ?_
    refine v_iconst C (v := 1) dM_run_16 (by decide) ?_
    refine v_cViF (As := [.int 1]) C (c_mFail l D cI cZ cJ b (upd F 2 0) a 1) (cwV 1 C.2.2.2.2.1 gM_run_M_fail rfl rfl rfl (by decide +kernel) ⟨Nat.le_of_ble_eq_true rfl, Nat.le_of_ble_eq_true rfl⟩) 0 rfl (T := TcM) (N := 18) rfl rfl rfl (Nat.le_of_ble_eq_true rfl) ⟨Nat.zero_le _, Nat.zero_le _⟩ dM_run_17 ?_
    have hE : ((mFail (upd F 2 0) a 1).1, (mFail (upd F 2 0) a 1).2, a) = mRun F a n P x := (by unfold mRun; rw [if_pos h1])
    exact v_iret C hr (by rw [← hE]) (by rw [← hE]) dM_run_20
  · skip
    refine v_iload_n C 1 dM_run_9 rfl rfl ?_
    refine v_bipush C (v := 40) dM_run_10 (by decide) ?_
    refine v_icmp_le C dM_run_12 (tgt := 21) (by decide) (fun h2 => ?_) (fun h2 => ?_)
    · skip
      have hT := times_self (x := x) (by assumption) (by assumption)
      refine v_iconst C (v := 0) dM_run_21 (by decide) ?_
      refine v_istore_n C (lv' := [(0, .ref (b 0)), (1, .int x), (2, .int 0)]) [1, 2, 0] dM_run_22 rfl (by decide) rfl ?_
      refine v_iconst C (v := 0) dM_run_23 (by decide) ?_
      refine v_istore_n C (lv' := [(0, .ref (b 0)), (1, .int x), (2, .int 0), (3, .int 0)]) [1, 2, 3, 0] dM_run_24 rfl (by decide) rfl ?_
      refine v_loop3 x.toNatClampNeg (fun (rr : Nat) (d : Int32) (t : Int32) (a1 : AT) => wM cI cZ b (upd (upd F 2 0) 3 t) a1) (fun (rr : Nat) (d : Int32) (t : Int32) (a1 : AT) => [(0, .ref (b 0)), (1, .int x), (2, .int d), (3, .int (nI rr))]) (fun (krr rr : Nat) (d : Int32) (t : Int32) (a1 : AT) => mRunL F n P x krr rr d t a1 = mRunL F n P x x.toNatClampNeg 0 0 (F 3) a ∧ KM a1) ?_ ?_ x.toNatClampNeg 0 0 (F 3) a (by omega) ⟨rfl, hK⟩
      · skip
        intro krr rr d t a1 hkrr hIrr ihrr
        obtain ⟨hIrr, hJrr⟩ := hIrr
        have hIrr : mRunL F n P x (krr + 1) rr d t a1 = mRunL F n P x x.toNatClampNeg 0 0 (F 3) a := hIrr
        refine v_as (w' := wM cI cZ b (upd (upd F 2 0) 3 t) a1) (lv' := [(0, .ref (b 0)), (1, .int x), (2, .int d), (3, .int (nI rr))]) rfl rfl ?_
        refine v_iload_n C 3 dM_run_25 rfl rfl ?_
        refine v_iload_n C 1 dM_run_26 rfl rfl ?_
        refine v_top (y := nI x.toNatClampNeg) hT.1 ?_
        refine v_icmp_ge C dM_run_27 (tgt := 96) (by decide) (fun h => absurd h (nI_ge (a := rr) (b := x.toNatClampNeg) (by omega) (by omega))) (fun _ => ?_)
        refine v_iconst C (v := 0) dM_run_30 (by decide) ?_
        refine v_istore C (lv' := [(0, .ref (b 0)), (1, .int x), (2, .int d), (3, .int (nI rr)), (4, .int 0)]) [1, 2, 3, 4, 0] dM_run_31 (by decide) rfl ?_
        refine v_loop2 P (fun (pp : Nat) (d2 : Int32) (a2 : AT) => wM cI cZ b (upd (upd F 2 0) 3 t) a2) (fun (pp : Nat) (d2 : Int32) (a2 : AT) => [(0, .ref (b 0)), (1, .int x), (2, .int d2), (3, .int (nI rr)), (4, .int (nI pp))]) (fun (kpp pp : Nat) (d2 : Int32) (a2 : AT) => mRunI F n P x t kpp pp d2 a2 = mRunI F n P x t P 0 d a1 ∧ KM a2) ?_ ?_ P 0 d a1 (by omega) ⟨rfl, hJrr⟩
        · skip
          intro kpp pp d2 a2 hkpp hIpp ihpp
          obtain ⟨hIpp, hJpp⟩ := hIpp
          have hIpp : mRunI F n P x t (kpp + 1) pp d2 a2 = mRunI F n P x t P 0 d a1 := hIpp
          refine v_as (w' := wM cI cZ b (upd (upd F 2 0) 3 t) a2) (lv' := [(0, .ref (b 0)), (1, .int x), (2, .int d2), (3, .int (nI rr)), (4, .int (nI pp))]) rfl rfl ?_
          refine v_iload C 4 dM_run_33 rfl ?_
          refine v_aload_n C 0 dM_run_35 rfl rfl ?_
          refine v_get C (T := TcM) (N := 18) (ci := 2) (v := .int (F 0)) inM_run_M 0 rfl rfl 0 (by decide) (by decide +kernel) rfl rfl dM_run_36 ?_
          refine v_top (y := nI P) hp ?_
          refine v_icmp_ge C dM_run_39 (tgt := 80) (by decide) (fun h => absurd h (nI_ge (a := pp) (b := P) (by omega) (by omega))) (fun _ => ?_)
          refine v_aload_n C 0 dM_run_42 rfl rfl ?_
          refine v_get C (T := TcM) (N := 18) (ci := 2) (v := .int (F 4)) inM_run_M 0 rfl rfl 4 (by decide) (by decide +kernel) rfl rfl dM_run_43 ?_
          refine v_if_eq C dM_run_46 (tgt := 80) (by decide) (fun h3 => ?_) (fun h3 => ?_)
          · skip
            have hX : (d2, a2) = mRunI F n P x t P 0 d a1 := (by rw [← hIpp]; simp only [mRunI]; rw [if_pos h3])
            rw [show d2 = (mRunI F n P x t P 0 d a1).1 from (by rw [← hX]), show a2 = (mRunI F n P x t P 0 d a1).2 from (by rw [← hX])]
            refine v_aload_n C 0 dM_run_80 rfl rfl ?_
            refine v_dup C dM_run_81 rfl ?_
            refine v_get C (T := TcM) (N := 18) (ci := 2) (v := .int t) inM_run_M 0 rfl rfl 3 (by decide) (by decide +kernel) rfl rfl dM_run_82 ?_
            refine v_iconst C (v := 1) dM_run_85 (by decide) ?_
            refine v_iadd C dM_run_86 ?_
            refine v_put C (T := TcM) (N := 18) (ci := 2) (v := .int (t + (1 : Int32))) inM_run_M tycM tycM_ok nmcM 0 rfl rfl 3 (by decide) (by decide +kernel) rfl rfl rfl rfl (Nat.le_of_ble_eq_true rfl) dM_run_87 (w1 := wM cI cZ b (upd (upd (upd F 2 0) 3 t) 3 (t + (1 : Int32))) ((mRunI F n P x t P 0 d a1).2)) rfl ?_
            refine v_iinc C (v := nI (rr + 1)) (lv' := [(0, .ref (b 0)), (1, .int x), (2, .int ((mRunI F n P x t P 0 d a1).1)), (3, .int (nI (rr + 1))), (4, .int (nI pp))]) 3 [1, 2, 3, 0, 4] dM_run_90 rfl (nI_1 rr) (by decide) rfl ?_
            refine v_goto C dM_run_93 (tgt := 25) (by decide) ?_
            refine v_loc (lv' := [(0, .ref (b 0)), (1, .int x), (2, .int ((mRunI F n P x t P 0 d a1).1)), (3, .int (nI (rr + 1)))]) [0, 1, 2, 3] rfl ?_
            have hL : mRunL F n P x krr (rr + 1) ((mRunI F n P x t P 0 d a1).1) (t + (1 : Int32)) ((mRunI F n P x t P 0 d a1).2) = mRunL F n P x x.toNatClampNeg 0 0 (F 3) a := (by rw [← hIrr]; simp only [mRunL])
            exact ihrr ((mRunI F n P x t P 0 d a1).1) (t + (1 : Int32)) ((mRunI F n P x t P 0 d a1).2) ⟨hL, (runI_km hn4 hp6 P 0 _ _ (by omega) hJrr)⟩
          · skip
            refine v_iload_n C 2 dM_run_49 rfl rfl ?_
            refine v_aload_n C 0 dM_run_50 rfl rfl ?_
            refine v_get C (T := TcM) (N := 18) (ci := 2) (v := .int (F 8)) inM_run_M 0 rfl rfl 8 (by decide) (by decide +kernel) rfl rfl dM_run_51 ?_
            refine v_iload C 4 dM_run_54 rfl ?_
            refine v_cSr0 (As := [.int (F 8), .int (nI pp)]) C (c_mHas l D cI cZ cJ (F 8) (nI pp)) (va_cwS 2 C.2.2.2.2.1 gM_run_M_has rfl rfl rfl (by decide +kernel) ⟨Nat.le_of_ble_eq_true rfl, Nat.le_of_ble_eq_true rfl⟩) rfl rfl (Nat.le_of_ble_eq_true rfl) ⟨Nat.zero_le _, Nat.zero_le _⟩ dM_run_56 ?_
            refine v_if_eq C dM_run_59 (tgt := 66) (by decide) (fun h4 => ?_) (fun h4 => ?_)
            · skip
              refine v_aload_n C 0 dM_run_66 rfl rfl ?_
              refine v_iload C 4 dM_run_67 rfl ?_
              refine v_cViF (As := [.int (nI pp)]) C (c_mDeeds l D cI cZ cJ b (upd (upd F 2 0) 3 t) a2 n P pp hn hn4 hp hp6 (by omega) hJpp) (cwV 1 C.2.2.2.2.1 gM_run_M_deeds rfl rfl rfl (by decide +kernel) ⟨Nat.le_of_ble_eq_true rfl, Nat.le_of_ble_eq_true rfl⟩) 0 rfl (T := TcM) (N := 18) rfl rfl rfl (Nat.le_of_ble_eq_true rfl) ⟨Nat.zero_le _, Nat.zero_le _⟩ dM_run_69 ?_
              refine v_iadd C dM_run_72 ?_
              refine v_istore_n C (lv' := [(0, .ref (b 0)), (1, .int x), (2, .int (d2 + ((mDeeds (upd (upd F 2 0) 3 t) a2 n P pp).1))), (3, .int (nI rr)), (4, .int (nI pp))]) [1, 2, 0, 3, 4] dM_run_73 rfl (by decide) rfl ?_
              refine v_iinc C (v := nI (pp + 1)) (lv' := [(0, .ref (b 0)), (1, .int x), (2, .int (d2 + ((mDeeds (upd (upd F 2 0) 3 t) a2 n P pp).1))), (3, .int (nI rr)), (4, .int (nI (pp + 1)))]) 4 [1, 2, 3, 4, 0] dM_run_74 rfl (nI_1 pp) (by decide) rfl ?_
              refine v_goto C dM_run_77 (tgt := 33) (by decide) ?_
              have hL : mRunI F n P x t kpp (pp + 1) (d2 + ((mDeeds (upd (upd F 2 0) 3 t) a2 n P pp).1)) ((mDeeds (upd (upd F 2 0) 3 t) a2 n P pp).2) = mRunI F n P x t P 0 d a1 := (by rw [← hIpp]; simp only [mRunI]; rw [if_neg h3, if_pos h4])
              exact ihpp (d2 + ((mDeeds (upd (upd F 2 0) 3 t) a2 n P pp).1)) ((mDeeds (upd (upd F 2 0) 3 t) a2 n P pp).2) ⟨hL, (by first | exact hJpp | exact KM.deeds hn4 hp6 (by omega) hJpp)⟩
            · skip
              refine v_iconst C (v := 0) dM_run_62 (by decide) ?_
              refine v_goto C dM_run_63 (tgt := 72) (by decide) ?_
              refine v_iadd C dM_run_72 ?_
              refine v_istore_n C (lv' := [(0, .ref (b 0)), (1, .int x), (2, .int (d2 + (0 : Int32))), (3, .int (nI rr)), (4, .int (nI pp))]) [1, 2, 0, 3, 4] dM_run_73 rfl (by decide) rfl ?_
              refine v_iinc C (v := nI (pp + 1)) (lv' := [(0, .ref (b 0)), (1, .int x), (2, .int (d2 + (0 : Int32))), (3, .int (nI rr)), (4, .int (nI (pp + 1)))]) 4 [1, 2, 3, 4, 0] dM_run_74 rfl (nI_1 pp) (by decide) rfl ?_
              refine v_goto C dM_run_77 (tgt := 33) (by decide) ?_
              have hL : mRunI F n P x t kpp (pp + 1) (d2 + (0 : Int32)) a2 = mRunI F n P x t P 0 d a1 := (by rw [← hIpp]; simp only [mRunI]; rw [if_neg h3, if_neg h4])
              exact ihpp (d2 + (0 : Int32)) a2 ⟨hL, (by first | exact hJpp | exact KM.deeds hn4 hp6 (by omega) hJpp)⟩
        · skip
          intro d2 a2 hIpp
          obtain ⟨hIpp, hJpp⟩ := hIpp
          have hIpp : mRunI F n P x t 0 P d2 a2 = mRunI F n P x t P 0 d a1 := hIpp
          refine v_as (w' := wM cI cZ b (upd (upd F 2 0) 3 t) a2) (lv' := [(0, .ref (b 0)), (1, .int x), (2, .int d2), (3, .int (nI rr)), (4, .int (nI P))]) rfl rfl ?_
          obtain ⟨rfl, rfl⟩ : d2 = (mRunI F n P x t P 0 d a1).1 ∧ a2 = (mRunI F n P x t P 0 d a1).2 := by rw [← hIpp]; exact ⟨rfl, rfl⟩
          refine v_iload C 4 dM_run_33 rfl ?_
          refine v_aload_n C 0 dM_run_35 rfl rfl ?_
          refine v_get C (T := TcM) (N := 18) (ci := 2) (v := .int (F 0)) inM_run_M 0 rfl rfl 0 (by decide) (by decide +kernel) rfl rfl dM_run_36 ?_
          refine v_top (y := nI P) hp ?_
          refine v_icmp_ge C dM_run_39 (tgt := 80) (by decide) (fun _ => ?_) (fun h => absurd (nI_le (a := P) (b := P) (by omega) (by omega)) h)
          refine v_aload_n C 0 dM_run_80 rfl rfl ?_
          refine v_dup C dM_run_81 rfl ?_
          refine v_get C (T := TcM) (N := 18) (ci := 2) (v := .int t) inM_run_M 0 rfl rfl 3 (by decide) (by decide +kernel) rfl rfl dM_run_82 ?_
          refine v_iconst C (v := 1) dM_run_85 (by decide) ?_
          refine v_iadd C dM_run_86 ?_
          refine v_put C (T := TcM) (N := 18) (ci := 2) (v := .int (t + (1 : Int32))) inM_run_M tycM tycM_ok nmcM 0 rfl rfl 3 (by decide) (by decide +kernel) rfl rfl rfl rfl (Nat.le_of_ble_eq_true rfl) dM_run_87 (w1 := wM cI cZ b (upd (upd (upd F 2 0) 3 t) 3 (t + (1 : Int32))) ((mRunI F n P x t P 0 d a1).2)) rfl ?_
          refine v_iinc C (v := nI (rr + 1)) (lv' := [(0, .ref (b 0)), (1, .int x), (2, .int ((mRunI F n P x t P 0 d a1).1)), (3, .int (nI (rr + 1))), (4, .int (nI P))]) 3 [1, 2, 3, 0, 4] dM_run_90 rfl (nI_1 rr) (by decide) rfl ?_
          refine v_goto C dM_run_93 (tgt := 25) (by decide) ?_
          refine v_loc (lv' := [(0, .ref (b 0)), (1, .int x), (2, .int ((mRunI F n P x t P 0 d a1).1)), (3, .int (nI (rr + 1)))]) [0, 1, 2, 3] rfl ?_
          have hL : mRunL F n P x krr (rr + 1) ((mRunI F n P x t P 0 d a1).1) (t + (1 : Int32)) ((mRunI F n P x t P 0 d a1).2) = mRunL F n P x x.toNatClampNeg 0 0 (F 3) a := (by rw [← hIrr]; simp only [mRunL])
          exact ihrr ((mRunI F n P x t P 0 d a1).1) (t + (1 : Int32)) ((mRunI F n P x t P 0 d a1).2) ⟨hL, (runI_km hn4 hp6 P 0 _ _ (by omega) hJrr)⟩
      · skip
        intro d t a1 hIrr
        obtain ⟨hIrr, hJrr⟩ := hIrr
        have hIrr : mRunL F n P x 0 x.toNatClampNeg d t a1 = mRunL F n P x x.toNatClampNeg 0 0 (F 3) a := hIrr
        refine v_as (w' := wM cI cZ b (upd (upd F 2 0) 3 t) a1) (lv' := [(0, .ref (b 0)), (1, .int x), (2, .int d), (3, .int (nI x.toNatClampNeg))]) rfl rfl ?_
        obtain ⟨rfl, rfl, rfl⟩ : d = (mRunL F n P x x.toNatClampNeg 0 0 (F 3) a).1 ∧ t = (mRunL F n P x x.toNatClampNeg 0 0 (F 3) a).2.1 ∧ a1 = (mRunL F n P x x.toNatClampNeg 0 0 (F 3) a).2.2 := by rw [← hIrr]; exact ⟨rfl, rfl, rfl⟩
        refine v_iload_n C 3 dM_run_25 rfl rfl ?_
        refine v_iload_n C 1 dM_run_26 rfl rfl ?_
        refine v_top (y := nI x.toNatClampNeg) hT.1 ?_
        refine v_icmp_ge C dM_run_27 (tgt := 96) (by decide) (fun _ => ?_) (fun h => absurd (nI_le (a := x.toNatClampNeg) (b := x.toNatClampNeg) (by omega) (by omega)) h)
        refine v_iload_n C 2 dM_run_96 rfl rfl ?_
        have hE : ((mRunL F n P x x.toNatClampNeg 0 0 (F 3) a).1, upd (upd F 2 0) 3 ((mRunL F n P x x.toNatClampNeg 0 0 (F 3) a).2.1), (mRunL F n P x x.toNatClampNeg 0 0 (F 3) a).2.2) = mRun F a n P x := (by unfold mRun; rw [if_neg h1, if_pos h2])
        exact v_iret C hr (by rw [← hE]) (by rw [← hE]) dM_run_97
    · skip
      refine v_aload_n C 0 dM_run_15 rfl rfl ?_
      refine v_iconst C (v := 1) dM_run_16 (by decide) ?_
      refine v_cViF (As := [.int 1]) C (c_mFail l D cI cZ cJ b (upd F 2 0) a 1) (cwV 1 C.2.2.2.2.1 gM_run_M_fail rfl rfl rfl (by decide +kernel) ⟨Nat.le_of_ble_eq_true rfl, Nat.le_of_ble_eq_true rfl⟩) 0 rfl (T := TcM) (N := 18) rfl rfl rfl (Nat.le_of_ble_eq_true rfl) ⟨Nat.zero_le _, Nat.zero_le _⟩ dM_run_17 ?_
      have hE : ((mFail (upd F 2 0) a 1).1, (mFail (upd F 2 0) a 1).2, a) = mRun F a n P x := (by unfold mRun; rw [if_neg h1, if_neg h2])
      exact v_iret C hr (by rw [← hE]) (by rw [← hE]) dM_run_20
set_option maxHeartbeats 4000000 in
set_option maxRecDepth 100000 in
theorem c_mShow (l : Launch) (D : va_G) (cI cZ cJ : ClassId) (b : Nat → Nat) (F : FT) (a : AT) (n : Nat) (mm : Nat) (x : Int32) (hn : F 9 = nI n) (hn4 : n ≤ 14) (hm : mMany (F 17) = nI mm) (hm6 : mm ≤ 6) (hmem : ∀ i, i < mm → vp_in (mMember (F 17) (nI i)) 6) : Ki l yM_show wM_show ({ frames := 3, cells := 0, slots := 0, locals := 67 } : Room) D vwCl (tyG cI cZ cJ) [.ref (b 0), .int x] (wM cI cZ b F a) ((mShow F a n mm x).1) (wM cI cZ b ((mShow F a n mm x).2.1) ((mShow F a n mm x).2.2)) := by
  intro sz
  refine v_ent (cc := bM_show) (maxL := 2) (ret := (some .int)) (Qc := (fun A => va_Qi (fun (x9 : Int32) (_ : Unit) => x9 = (mShow F a n mm x).1) (fun _ => wB D vwCl (tyG cI cZ cJ) A (wM cI cZ b ((mShow F a n mm x).2.1) ((mShow F a n mm x).2.2))) A)) (fr := (fun A => A)) (own := RcM) rfl (by decide) rfl (Nat.le_of_ble_eq_true rfl) rfl ?_
  intro p e s m args below meth c A C hr _
  refine v_free ?_
  refine v_aload_n C 0 dM_show_0 rfl rfl ?_
  refine v_iconst C (v := 0) dM_show_1 (by decide) ?_
  refine v_put C (T := TcM) (N := 18) (ci := 2) (v := .int 0) inM_show_M tycM tycM_ok nmcM 0 rfl rfl 2 (by decide) (by decide +kernel) rfl rfl rfl rfl (Nat.le_of_ble_eq_true rfl) dM_show_2 (w1 := wM cI cZ b (upd F 2 0) a) rfl ?_
  refine v_aload_n C 0 dM_show_5 rfl rfl ?_
  refine v_iload_n C 1 dM_show_6 rfl rfl ?_
  refine v_cVrF (As := [.int x]) C (c_mIsArc l D cI cZ cJ b (upd F 2 0) a x) (cwV 1 C.2.2.2.2.1 gM_show_M_isArc rfl rfl rfl (by decide +kernel) ⟨Nat.le_of_ble_eq_true rfl, Nat.le_of_ble_eq_true rfl⟩) 0 rfl (T := TcM) (N := 18) rfl rfl rfl (Nat.le_of_ble_eq_true rfl) ⟨Nat.zero_le _, Nat.zero_le _⟩ dM_show_7 ?_
  refine v_if_ne C dM_show_10 (tgt := 19) (by decide) (fun h1 => ?_) (fun h1 => ?_)
  · skip
    have hx : vp_in x 14 := vp_arcM (F := upd F 2 0) (a := a) (by assumption) hn hn4
    refine v_aload_n C 0 dM_show_19 rfl rfl ?_
    refine v_aload_n C 0 dM_show_20 rfl rfl ?_
    refine v_get C (T := TcM) (N := 18) (ci := 2) (v := .ref (b 2)) inM_show_M 0 rfl rfl 11 (by decide) (by decide +kernel) rfl rfl dM_show_21 ?_
    refine v_iload_n C 1 dM_show_24 rfl rfl ?_
    refine v_iald C 2 0 (f := a 11) (y := (a 11) x.toNatClampNeg) (j := x.toNatClampNeg) rfl rfl rfl rfl hx dM_show_25 ?_
    refine v_cVrF (As := [.int ((a 11) x.toNatClampNeg)]) C (c_mIsPath l D cI cZ cJ b (upd F 2 0) a mm ((a 11) x.toNatClampNeg) hm hm6 hmem) (cwV 1 C.2.2.2.2.1 gM_show_M_isPath rfl rfl rfl (by decide +kernel) ⟨Nat.le_of_ble_eq_true rfl, Nat.le_of_ble_eq_true rfl⟩) 0 rfl (T := TcM) (N := 18) rfl rfl rfl (Nat.le_of_ble_eq_true rfl) ⟨Nat.zero_le _, Nat.zero_le _⟩ dM_show_26 ?_
    refine v_if_ne C dM_show_29 (tgt := 38) (by decide) (fun h2 => ?_) (fun h2 => ?_)
    · skip
      have hm1 : 1 ≤ mm := path_pos (F := upd F 2 0) (a := a) (by assumption)
      have hlast : vp_in (mMember (F 17) (nI mm - 1)) 6 := by rw [show nI mm - 1 = nI (mm - 1) from pk_sub (b := 1) hm1]; exact hmem _ (by omega)
      refine v_aload_n C 0 dM_show_38 rfl rfl ?_
      refine v_get C (T := TcM) (N := 18) (ci := 2) (v := .int (F 4)) inM_show_M 0 rfl rfl 4 (by decide) (by decide +kernel) rfl rfl dM_show_39 ?_
      refine v_if_eq C dM_show_42 (tgt := 83) (by decide) (fun h3 => ?_) (fun h3 => ?_)
      · skip
        refine v_aload_n C 0 dM_show_83 rfl rfl ?_
        refine v_iconst C (v := 3) dM_show_84 (by decide) ?_
        refine v_cViF (As := [.int 3]) C (c_mFail l D cI cZ cJ b (upd F 2 0) a 3) (cwV 1 C.2.2.2.2.1 gM_show_M_fail rfl rfl rfl (by decide +kernel) ⟨Nat.le_of_ble_eq_true rfl, Nat.le_of_ble_eq_true rfl⟩) 0 rfl (T := TcM) (N := 18) rfl rfl rfl (Nat.le_of_ble_eq_true rfl) ⟨Nat.zero_le _, Nat.zero_le _⟩ dM_show_85 ?_
        have hE : ((mFail (upd F 2 0) a 3).1, (mFail (upd F 2 0) a 3).2, a) = mShow F a n mm x := (by unfold mShow; rw [if_neg h1, if_neg h2, if_pos h3])
        exact v_iret C hr (by rw [← hE]) (by rw [← hE]) dM_show_88
      · skip
        refine v_aload_n C 0 dM_show_45 rfl rfl ?_
        refine v_get C (T := TcM) (N := 18) (ci := 2) (v := .ref (b 3)) inM_show_M 0 rfl rfl 12 (by decide) (by decide +kernel) rfl rfl dM_show_46 ?_
        refine v_iload_n C 1 dM_show_49 rfl rfl ?_
        refine v_iald C 3 0 (f := a 12) (y := (a 12) x.toNatClampNeg) (j := x.toNatClampNeg) rfl rfl rfl rfl hx dM_show_50 ?_
        refine v_iconst C (v := 1) dM_show_51 (by decide) ?_
        refine v_icmp_ne C dM_show_52 (tgt := 83) (by decide) (fun h4 => ?_) (fun h4 => ?_)
        · skip
          refine v_aload_n C 0 dM_show_83 rfl rfl ?_
          refine v_iconst C (v := 3) dM_show_84 (by decide) ?_
          refine v_cViF (As := [.int 3]) C (c_mFail l D cI cZ cJ b (upd F 2 0) a 3) (cwV 1 C.2.2.2.2.1 gM_show_M_fail rfl rfl rfl (by decide +kernel) ⟨Nat.le_of_ble_eq_true rfl, Nat.le_of_ble_eq_true rfl⟩) 0 rfl (T := TcM) (N := 18) rfl rfl rfl (Nat.le_of_ble_eq_true rfl) ⟨Nat.zero_le _, Nat.zero_le _⟩ dM_show_85 ?_
          have hE : ((mFail (upd F 2 0) a 3).1, (mFail (upd F 2 0) a 3).2, a) = mShow F a n mm x := (by unfold mShow; rw [if_neg h1, if_neg h2, if_neg h3, if_neg h4])
          exact v_iret C hr (by rw [← hE]) (by rw [← hE]) dM_show_88
        · skip
          refine v_aload_n C 0 dM_show_55 rfl rfl ?_
          refine v_get C (T := TcM) (N := 18) (ci := 2) (v := .ref (b 4)) inM_show_M 0 rfl rfl 13 (by decide) (by decide +kernel) rfl rfl dM_show_56 ?_
          refine v_iload_n C 1 dM_show_59 rfl rfl ?_
          refine v_iald C 4 0 (f := a 13) (y := (a 13) x.toNatClampNeg) (j := x.toNatClampNeg) rfl rfl rfl rfl hx dM_show_60 ?_
          refine v_aload_n C 0 dM_show_61 rfl rfl ?_
          refine v_get C (T := TcM) (N := 18) (ci := 2) (v := .int (F 17)) inM_show_M 0 rfl rfl 17 (by decide) (by decide +kernel) rfl rfl dM_show_62 ?_
          refine v_aload_n C 0 dM_show_65 rfl rfl ?_
          refine v_get C (T := TcM) (N := 18) (ci := 2) (v := .int (F 17)) inM_show_M 0 rfl rfl 17 (by decide) (by decide +kernel) rfl rfl dM_show_66 ?_
          refine v_cSr0 (As := [.int (F 17)]) C (c_mMany l D cI cZ cJ (F 17)) (va_cwS 1 C.2.2.2.2.1 gM_show_M_many rfl rfl rfl (by decide +kernel) ⟨Nat.le_of_ble_eq_true rfl, Nat.le_of_ble_eq_true rfl⟩) rfl rfl (Nat.le_of_ble_eq_true rfl) ⟨Nat.zero_le _, Nat.zero_le _⟩ dM_show_69 ?_
          refine v_iconst C (v := 1) dM_show_72 (by decide) ?_
          refine v_isub C dM_show_73 ?_
          refine v_cSr0 (As := [.int (F 17), .int ((mMany (F 17)) - (1 : Int32))]) C (c_mMember l D cI cZ cJ (F 17) ((mMany (F 17)) - (1 : Int32))) (va_cwS 2 C.2.2.2.2.1 gM_show_M_member rfl rfl rfl (by decide +kernel) ⟨Nat.le_of_ble_eq_true rfl, Nat.le_of_ble_eq_true rfl⟩) rfl rfl (Nat.le_of_ble_eq_true rfl) ⟨Nat.zero_le _, Nat.zero_le _⟩ dM_show_74 ?_
          refine v_cSr0 (As := [.int ((a 13) x.toNatClampNeg), .int (mMember (F 17) ((mMany (F 17)) - (1 : Int32)))]) C (c_mHas l D cI cZ cJ ((a 13) x.toNatClampNeg) (mMember (F 17) ((mMany (F 17)) - (1 : Int32)))) (va_cwS 2 C.2.2.2.2.1 gM_show_M_has rfl rfl rfl (by decide +kernel) ⟨Nat.le_of_ble_eq_true rfl, Nat.le_of_ble_eq_true rfl⟩) rfl rfl (Nat.le_of_ble_eq_true rfl) ⟨Nat.zero_le _, Nat.zero_le _⟩ dM_show_77 ?_
          refine v_if_eq C dM_show_80 (tgt := 89) (by decide) (fun h5 => ?_) (fun h5 => ?_)
          · skip
            refine v_aload_n C 0 dM_show_89 rfl rfl ?_
            refine v_aload_n C 0 dM_show_90 rfl rfl ?_
            refine v_get C (T := TcM) (N := 18) (ci := 2) (v := .int (F 17)) inM_show_M 0 rfl rfl 17 (by decide) (by decide +kernel) rfl rfl dM_show_91 ?_
            refine v_cSr0 (As := [.int (F 17)]) C (c_mMany l D cI cZ cJ (F 17)) (va_cwS 1 C.2.2.2.2.1 gM_show_M_many rfl rfl rfl (by decide +kernel) ⟨Nat.le_of_ble_eq_true rfl, Nat.le_of_ble_eq_true rfl⟩) rfl rfl (Nat.le_of_ble_eq_true rfl) ⟨Nat.zero_le _, Nat.zero_le _⟩ dM_show_94 ?_
            refine v_iconst C (v := 1) dM_show_97 (by decide) ?_
            refine v_isub C dM_show_98 ?_
            refine v_cVrF (As := [.int ((mMany (F 17)) - (1 : Int32))]) C (c_mIsInTime l D cI cZ cJ b (upd F 2 0) a ((mMany (F 17)) - (1 : Int32))) (cwV 1 C.2.2.2.2.1 gM_show_M_isInTime rfl rfl rfl (by decide +kernel) ⟨Nat.le_of_ble_eq_true rfl, Nat.le_of_ble_eq_true rfl⟩) 0 rfl (T := TcM) (N := 18) rfl rfl rfl (Nat.le_of_ble_eq_true rfl) ⟨Nat.zero_le _, Nat.zero_le _⟩ dM_show_99 ?_
            refine v_if_eq C dM_show_102 (tgt := 112) (by decide) (fun h6 => ?_) (fun h6 => ?_)
            · skip
              refine v_aload_n C 0 dM_show_112 rfl rfl ?_
              refine v_iconst C (v := 4) dM_show_113 (by decide) ?_
              refine v_cViF (As := [.int 4]) C (c_mFail l D cI cZ cJ b (upd F 2 0) a 4) (cwV 1 C.2.2.2.2.1 gM_show_M_fail rfl rfl rfl (by decide +kernel) ⟨Nat.le_of_ble_eq_true rfl, Nat.le_of_ble_eq_true rfl⟩) 0 rfl (T := TcM) (N := 18) rfl rfl rfl (Nat.le_of_ble_eq_true rfl) ⟨Nat.zero_le _, Nat.zero_le _⟩ dM_show_114 ?_
              have hE : ((mFail (upd F 2 0) a 4).1, (mFail (upd F 2 0) a 4).2, a) = mShow F a n mm x := (by unfold mShow; rw [if_neg h1, if_neg h2, if_neg h3, if_pos h4, if_pos h5, if_pos h6])
              exact v_iret C hr (by rw [← hE]) (by rw [← hE]) dM_show_117
            · skip
              refine v_aload_n C 0 dM_show_105 rfl rfl ?_
              refine v_cVrF (As := []) C (c_mIsKnown l D cI cZ cJ b (upd F 2 0) a mm n hn hn4 hm hm6 hmem hlast) (cwV 0 C.2.2.2.2.1 gM_show_M_isKnown rfl rfl rfl (by decide +kernel) ⟨Nat.le_of_ble_eq_true rfl, Nat.le_of_ble_eq_true rfl⟩) 0 rfl (T := TcM) (N := 18) rfl rfl rfl (Nat.le_of_ble_eq_true rfl) ⟨Nat.zero_le _, Nat.zero_le _⟩ dM_show_106 ?_
              refine v_if_ne C dM_show_109 (tgt := 118) (by decide) (fun h7 => ?_) (fun h7 => ?_)
              · skip
                refine v_aload_n C 0 dM_show_118 rfl rfl ?_
                refine v_iload_n C 1 dM_show_119 rfl rfl ?_
                refine v_aload_n C 0 dM_show_120 rfl rfl ?_
                refine v_get C (T := TcM) (N := 18) (ci := 2) (v := .int (F 17)) inM_show_M 0 rfl rfl 17 (by decide) (by decide +kernel) rfl rfl dM_show_121 ?_
                refine v_cVvF (As := [.int x, .int (F 17)]) C (c_mUnlock l D cI cZ cJ b (upd F 2 0) a x (F 17) hx (vp_key4 hx (by rw [hm]; exact hlast))) (cwV 2 C.2.2.2.2.1 gM_show_M_unlock rfl rfl rfl (by decide +kernel) ⟨Nat.le_of_ble_eq_true rfl, Nat.le_of_ble_eq_true rfl⟩) 0 rfl (T := TcM) (N := 18) rfl rfl rfl (Nat.le_of_ble_eq_true rfl) ⟨Nat.zero_le _, Nat.zero_le _⟩ dM_show_124 ?_
                refine v_aload_n C 0 dM_show_127 rfl rfl ?_
                refine v_iconst C (v := 0) dM_show_128 (by decide) ?_
                refine v_put C (T := TcM) (N := 18) (ci := 2) (v := .int 0) inM_show_M tycM tycM_ok nmcM 0 rfl rfl 17 (by decide) (by decide +kernel) rfl rfl rfl rfl (Nat.le_of_ble_eq_true rfl) dM_show_129 (w1 := wM cI cZ b (upd (upd F 2 0) 17 0) (mUnlock (upd F 2 0) a x (F 17))) rfl ?_
                refine v_aload_n C 0 dM_show_132 rfl rfl ?_
                refine v_get C (T := TcM) (N := 18) (ci := 2) (v := .ref (b 4)) inM_show_M 0 rfl rfl 13 (by decide) (by decide +kernel) rfl rfl dM_show_133 ?_
                refine v_iload_n C 1 dM_show_136 rfl rfl ?_
                refine v_iald C 4 0 (f := (mUnlock (upd F 2 0) a x (F 17)) 13) (y := ((mUnlock (upd F 2 0) a x (F 17)) 13) x.toNatClampNeg) (j := x.toNatClampNeg) rfl rfl rfl rfl hx dM_show_137 ?_
                refine v_cSr0 (As := [.int (((mUnlock (upd F 2 0) a x (F 17)) 13) x.toNatClampNeg)]) C (c_mSize l D cI cZ cJ (((mUnlock (upd F 2 0) a x (F 17)) 13) x.toNatClampNeg)) (va_cwS 1 C.2.2.2.2.1 gM_show_M_size rfl rfl rfl (by decide +kernel) ⟨Nat.le_of_ble_eq_true rfl, Nat.le_of_ble_eq_true rfl⟩) rfl rfl (Nat.le_of_ble_eq_true rfl) ⟨Nat.zero_le _, Nat.zero_le _⟩ dM_show_138 ?_
                have hE : (mSize (((mUnlock (upd F 2 0) a x (F 17)) 13) x.toNatClampNeg), upd (upd F 2 0) 17 0, (mUnlock (upd F 2 0) a x (F 17))) = mShow F a n mm x := (by unfold mShow; rw [if_neg h1, if_neg h2, if_neg h3, if_pos h4, if_pos h5, if_neg h6, if_neg h7])
                exact v_iret C hr (by rw [← hE]) (by rw [← hE]) dM_show_141
              · skip
                refine v_aload_n C 0 dM_show_112 rfl rfl ?_
                refine v_iconst C (v := 4) dM_show_113 (by decide) ?_
                refine v_cViF (As := [.int 4]) C (c_mFail l D cI cZ cJ b (upd F 2 0) a 4) (cwV 1 C.2.2.2.2.1 gM_show_M_fail rfl rfl rfl (by decide +kernel) ⟨Nat.le_of_ble_eq_true rfl, Nat.le_of_ble_eq_true rfl⟩) 0 rfl (T := TcM) (N := 18) rfl rfl rfl (Nat.le_of_ble_eq_true rfl) ⟨Nat.zero_le _, Nat.zero_le _⟩ dM_show_114 ?_
                have hE : ((mFail (upd F 2 0) a 4).1, (mFail (upd F 2 0) a 4).2, a) = mShow F a n mm x := (by unfold mShow; rw [if_neg h1, if_neg h2, if_neg h3, if_pos h4, if_pos h5, if_neg h6, if_pos h7])
                exact v_iret C hr (by rw [← hE]) (by rw [← hE]) dM_show_117
          · skip
            refine v_aload_n C 0 dM_show_83 rfl rfl ?_
            refine v_iconst C (v := 3) dM_show_84 (by decide) ?_
            refine v_cViF (As := [.int 3]) C (c_mFail l D cI cZ cJ b (upd F 2 0) a 3) (cwV 1 C.2.2.2.2.1 gM_show_M_fail rfl rfl rfl (by decide +kernel) ⟨Nat.le_of_ble_eq_true rfl, Nat.le_of_ble_eq_true rfl⟩) 0 rfl (T := TcM) (N := 18) rfl rfl rfl (Nat.le_of_ble_eq_true rfl) ⟨Nat.zero_le _, Nat.zero_le _⟩ dM_show_85 ?_
            have hE : ((mFail (upd F 2 0) a 3).1, (mFail (upd F 2 0) a 3).2, a) = mShow F a n mm x := (by unfold mShow; rw [if_neg h1, if_neg h2, if_neg h3, if_pos h4, if_neg h5])
            exact v_iret C hr (by rw [← hE]) (by rw [← hE]) dM_show_88
    · skip
      refine v_aload_n C 0 dM_show_32 rfl rfl ?_
      refine v_iconst C (v := 2) dM_show_33 (by decide) ?_
      refine v_cViF (As := [.int 2]) C (c_mFail l D cI cZ cJ b (upd F 2 0) a 2) (cwV 1 C.2.2.2.2.1 gM_show_M_fail rfl rfl rfl (by decide +kernel) ⟨Nat.le_of_ble_eq_true rfl, Nat.le_of_ble_eq_true rfl⟩) 0 rfl (T := TcM) (N := 18) rfl rfl rfl (Nat.le_of_ble_eq_true rfl) ⟨Nat.zero_le _, Nat.zero_le _⟩ dM_show_34 ?_
      have hE : ((mFail (upd F 2 0) a 2).1, (mFail (upd F 2 0) a 2).2, a) = mShow F a n mm x := (by unfold mShow; rw [if_neg h1, if_pos h2])
      exact v_iret C hr (by rw [← hE]) (by rw [← hE]) dM_show_37
  · skip
    refine v_aload_n C 0 dM_show_13 rfl rfl ?_
    refine v_iconst C (v := 1) dM_show_14 (by decide) ?_
    refine v_cViF (As := [.int 1]) C (c_mFail l D cI cZ cJ b (upd F 2 0) a 1) (cwV 1 C.2.2.2.2.1 gM_show_M_fail rfl rfl rfl (by decide +kernel) ⟨Nat.le_of_ble_eq_true rfl, Nat.le_of_ble_eq_true rfl⟩) 0 rfl (T := TcM) (N := 18) rfl rfl rfl (Nat.le_of_ble_eq_true rfl) ⟨Nat.zero_le _, Nat.zero_le _⟩ dM_show_15 ?_
    have hE : ((mFail (upd F 2 0) a 1).1, (mFail (upd F 2 0) a 1).2, a) = mShow F a n mm x := (by unfold mShow; rw [if_pos h1])
    exact v_iret C hr (by rw [← hE]) (by rw [← hE]) dM_show_18

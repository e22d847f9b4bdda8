set_option maxHeartbeats 4000000 in
set_option maxRecDepth 100000 in
theorem c_mDeeds (l : Launch) (D : va_G) (cI cZ cJ : ClassId) (b : Nat → Nat) (F : FT) (a : AT) (n : Nat) (P : Nat) (j : Nat) (hn : F 9 = nI n) (hn4 : n ≤ 14) (hp : F 0 = nI P) (hp6 : P ≤ 6) (hj : j < 6) (hK : KM a) : Ki l yM_deeds wM_deeds ({ frames := 3, cells := 0, slots := 0, locals := 69 } : Room) D vwCl (tyG cI cZ cJ) [.ref (b 0), .int (nI j)] (wM cI cZ b F a) ((mDeeds F a n P j).1) (wM cI cZ b F ((mDeeds F a n P j).2)) := by
  intro sz
  refine v_ent (cc := bM_deeds) (maxL := 7) (ret := (some .int)) (Qc := (fun A => va_Qi (fun (x9 : Int32) (_ : Unit) => x9 = (mDeeds F a n P j).1) (fun _ => wB D vwCl (tyG cI cZ cJ) A (wM cI cZ b F ((mDeeds F a n P j).2))) A)) (fr := (fun A => A)) (own := RcM) rfl (by decide) rfl (Nat.le_of_ble_eq_true rfl) rfl ?_
  intro p e s m args below meth c A C hr _
  refine v_free ?_
  refine v_iconst C (v := 0) dM_deeds_0 (by decide) ?_
  refine v_istore_n C (lv' := [(0, .ref (b 0)), (1, .int (nI j)), (2, .int 0)]) [1, 2, 0] dM_deeds_1 rfl (by decide) rfl ?_
  refine v_aload_n C 0 dM_deeds_2 rfl rfl ?_
  refine v_get C (T := TcM) (N := 18) (ci := 2) (v := .int (F 7)) inM_deeds_M 0 rfl rfl 7 (by decide) (by decide +kernel) rfl rfl dM_deeds_3 ?_
  refine v_iload_n C 1 dM_deeds_6 rfl rfl ?_
  refine v_cSr0 (As := [.int (F 7), .int (nI j)]) C (c_mHas l D cI cZ cJ (F 7) (nI j)) (va_cwS 2 C.2.2.2.2.1 gM_deeds_M_has rfl rfl rfl (by decide +kernel) ⟨Nat.le_of_ble_eq_true rfl, Nat.le_of_ble_eq_true rfl⟩) rfl rfl (Nat.le_of_ble_eq_true rfl) ⟨Nat.zero_le _, Nat.zero_le _⟩ dM_deeds_7 ?_
  refine v_istore_n C (lv' := [(0, .ref (b 0)), (1, .int (nI j)), (2, .int 0), (3, .int (mHas (F 7) (nI j)))]) [1, 2, 3, 0] dM_deeds_10 rfl (by decide) rfl ?_
  refine v_aload_n C 0 dM_deeds_11 rfl rfl ?_
  refine v_iload_n C 1 dM_deeds_12 rfl rfl ?_
  refine v_cVrF (As := [.int (nI j)]) C (c_mCovered l D cI cZ cJ b F a n (nI j) hn hn4) (cwV 1 C.2.2.2.2.1 gM_deeds_M_isCovered rfl rfl rfl (by decide +kernel) ⟨Nat.le_of_ble_eq_true rfl, Nat.le_of_ble_eq_true rfl⟩) 0 rfl (T := TcM) (N := 18) rfl rfl rfl (Nat.le_of_ble_eq_true rfl) ⟨Nat.zero_le _, Nat.zero_le _⟩ dM_deeds_13 ?_
  refine v_istore C (lv' := [(0, .ref (b 0)), (1, .int (nI j)), (2, .int 0), (3, .int (mHas (F 7) (nI j))), (4, .int (mCovered F a n (nI j)))]) [1, 2, 3, 4, 0] dM_deeds_16 (by decide) rfl ?_
  refine v_iconst C (v := 0) dM_deeds_18 (by decide) ?_
  refine v_istore C (lv' := [(0, .ref (b 0)), (1, .int (nI j)), (2, .int 0), (3, .int (mHas (F 7) (nI j))), (4, .int (mCovered F a n (nI j))), (5, .int 0)]) [1, 2, 3, 4, 5, 0] dM_deeds_19 (by decide) rfl ?_
  refine v_loop2 n (fun (i : Nat) (d : Int32) (a1 : AT) => wM cI cZ b F a1) (fun (i : Nat) (d : Int32) (a1 : AT) => [(0, .ref (b 0)), (1, .int (nI j)), (2, .int d), (3, .int (mHas (F 7) (nI j))), (4, .int (mCovered F a n (nI j))), (5, .int (nI i))]) (fun (ki i : Nat) (d : Int32) (a1 : AT) => mDeed1 F a n P j ki i d a1 = mDeed1 F a n P j n 0 0 a) ?_ ?_ n 0 0 a (by omega) rfl
  · skip
    intro ki i d a1 hki hIi ihi
    have hIi : mDeed1 F a n P j (ki + 1) i d a1 = mDeed1 F a n P j n 0 0 a := hIi
    refine v_as (w' := wM cI cZ b F a1) (lv' := [(0, .ref (b 0)), (1, .int (nI j)), (2, .int d), (3, .int (mHas (F 7) (nI j))), (4, .int (mCovered F a n (nI j))), (5, .int (nI i))]) rfl rfl ?_
    refine v_iload C 5 dM_deeds_21 rfl ?_
    refine v_aload_n C 0 dM_deeds_23 rfl rfl ?_
    refine v_get C (T := TcM) (N := 18) (ci := 2) (v := .int (F 9)) inM_deeds_M 0 rfl rfl 9 (by decide) (by decide +kernel) rfl rfl dM_deeds_24 ?_
    refine v_top (y := nI n) hn ?_
    refine v_icmp_ge C dM_deeds_27 (tgt := 87) (by decide) (fun h => absurd h (nI_ge (a := i) (b := n) (by omega) (by omega))) (fun _ => ?_)
    refine v_aload_n C 0 dM_deeds_30 rfl rfl ?_
    refine v_get C (T := TcM) (N := 18) (ci := 2) (v := .ref (b 1)) inM_deeds_M 0 rfl rfl 10 (by decide) (by decide +kernel) rfl rfl dM_deeds_31 ?_
    refine v_iload C 5 dM_deeds_34 rfl ?_
    refine v_iald C 1 0 (f := a1 10) (y := (a1 10) i) (j := i) rfl rfl (nI_clamp (by omega)) rfl (vp_in_nI (by omega) (by decide)) dM_deeds_36 ?_
    refine v_iload_n C 1 dM_deeds_37 rfl rfl ?_
    refine v_icmp_ne C dM_deeds_38 (tgt := 81) (by decide) (fun h1 => ?_) (fun h1 => ?_)
    · skip
      refine v_iinc C (v := nI (i + 1)) (lv' := [(0, .ref (b 0)), (1, .int (nI j)), (2, .int d), (3, .int (mHas (F 7) (nI j))), (4, .int (mCovered F a n (nI j))), (5, .int (nI (i + 1)))]) 5 [1, 2, 3, 4, 5, 0] dM_deeds_81 rfl (nI_1 i) (by decide) rfl ?_
      refine v_goto C dM_deeds_84 (tgt := 21) (by decide) ?_
      have hL : mDeed1 F a n P j ki (i + 1) d a1 = mDeed1 F a n P j n 0 0 a := (by rw [← hIi]; simp only [mDeed1]; rw [if_neg h1])
      exact ihi d a1 hL
    · skip
      refine v_aload_n C 0 dM_deeds_41 rfl rfl ?_
      refine v_get C (T := TcM) (N := 18) (ci := 2) (v := .ref (b 3)) inM_deeds_M 0 rfl rfl 12 (by decide) (by decide +kernel) rfl rfl dM_deeds_42 ?_
      refine v_iload C 5 dM_deeds_45 rfl ?_
      refine v_iald C 3 0 (f := a1 12) (y := (a1 12) i) (j := i) rfl rfl (nI_clamp (by omega)) rfl (vp_in_nI (by omega) (by decide)) dM_deeds_47 ?_
      refine v_if_ne C dM_deeds_48 (tgt := 81) (by decide) (fun h2 => ?_) (fun h2 => ?_)
      · skip
        refine v_iinc C (v := nI (i + 1)) (lv' := [(0, .ref (b 0)), (1, .int (nI j)), (2, .int d), (3, .int (mHas (F 7) (nI j))), (4, .int (mCovered F a n (nI j))), (5, .int (nI (i + 1)))]) 5 [1, 2, 3, 4, 5, 0] dM_deeds_81 rfl (nI_1 i) (by decide) rfl ?_
        refine v_goto C dM_deeds_84 (tgt := 21) (by decide) ?_
        have hL : mDeed1 F a n P j ki (i + 1) d a1 = mDeed1 F a n P j n 0 0 a := (by rw [← hIi]; simp only [mDeed1]; rw [if_pos h1, if_neg h2])
        exact ihi d a1 hL
      · skip
        refine v_iload_n C 3 dM_deeds_51 rfl rfl ?_
        refine v_if_ne C dM_deeds_52 (tgt := 60) (by decide) (fun h3 => ?_) (fun h3 => ?_)
        · skip
          refine v_aload_n C 0 dM_deeds_60 rfl rfl ?_
          refine v_cVrF (As := []) C (c_mIsLate l D cI cZ cJ b F a1) (cwV 0 C.2.2.2.2.1 gM_deeds_M_isLate rfl rfl rfl (by decide +kernel) ⟨Nat.le_of_ble_eq_true rfl, Nat.le_of_ble_eq_true rfl⟩) 0 rfl (T := TcM) (N := 18) rfl rfl rfl (Nat.le_of_ble_eq_true rfl) ⟨Nat.zero_le _, Nat.zero_le _⟩ dM_deeds_61 ?_
          refine v_if_eq C dM_deeds_64 (tgt := 70) (by decide) (fun h4 => ?_) (fun h4 => ?_)
          · skip
            refine v_aload_n C 0 dM_deeds_70 rfl rfl ?_
            refine v_get C (T := TcM) (N := 18) (ci := 2) (v := .ref (b 3)) inM_deeds_M 0 rfl rfl 12 (by decide) (by decide +kernel) rfl rfl dM_deeds_71 ?_
            refine v_iload C 5 dM_deeds_74 rfl ?_
            refine v_iconst C (v := 1) dM_deeds_76 (by decide) ?_
            obtain ⟨zz1, hzz1⟩ : ∃ z9, upd (a1 12) i 1 = z9 := ⟨_, rfl⟩
            refine v_iast C 3 0 (f := a1 12) (j := i) (f1 := zz1) rfl rfl (nI_clamp (by omega)) hzz1 (vp_in_nI (by omega) (by decide)) dM_deeds_77 (w1 := wM cI cZ b F (updA a1 12 zz1)) rfl ?_
            refine v_iinc C (v := d + 1) (lv' := [(0, .ref (b 0)), (1, .int (nI j)), (2, .int (d + 1)), (3, .int (mHas (F 7) (nI j))), (4, .int (mCovered F a n (nI j))), (5, .int (nI i))]) 2 [1, 2, 0, 3, 4, 5] dM_deeds_78 rfl rfl (by decide) rfl ?_
            refine v_iinc C (v := nI (i + 1)) (lv' := [(0, .ref (b 0)), (1, .int (nI j)), (2, .int (d + 1)), (3, .int (mHas (F 7) (nI j))), (4, .int (mCovered F a n (nI j))), (5, .int (nI (i + 1)))]) 5 [1, 2, 3, 4, 5, 0] dM_deeds_81 rfl (nI_1 i) (by decide) rfl ?_
            refine v_goto C dM_deeds_84 (tgt := 21) (by decide) ?_
            have hL : mDeed1 F a n P j ki (i + 1) (d + 1) (updA a1 12 zz1) = mDeed1 F a n P j n 0 0 a := (by rw [← hIi]; simp only [mDeed1]; rw [hzz1, if_pos h1, if_pos h2, if_neg h3, if_pos h4])
            exact ihi (d + 1) (updA a1 12 zz1) hL
          · skip
            refine v_goto C dM_deeds_67 (tgt := 81) (by decide) ?_
            refine v_iinc C (v := nI (i + 1)) (lv' := [(0, .ref (b 0)), (1, .int (nI j)), (2, .int d), (3, .int (mHas (F 7) (nI j))), (4, .int (mCovered F a n (nI j))), (5, .int (nI (i + 1)))]) 5 [1, 2, 3, 4, 5, 0] dM_deeds_81 rfl (nI_1 i) (by decide) rfl ?_
            refine v_goto C dM_deeds_84 (tgt := 21) (by decide) ?_
            have hL : mDeed1 F a n P j ki (i + 1) d a1 = mDeed1 F a n P j n 0 0 a := (by rw [← hIi]; simp only [mDeed1]; rw [if_pos h1, if_pos h2, if_neg h3, if_neg h4])
            exact ihi d a1 hL
        · skip
          refine v_iload C 4 dM_deeds_55 rfl ?_
          refine v_if_eq C dM_deeds_57 (tgt := 81) (by decide) (fun h5 => ?_) (fun h5 => ?_)
          · skip
            refine v_iinc C (v := nI (i + 1)) (lv' := [(0, .ref (b 0)), (1, .int (nI j)), (2, .int d), (3, .int (mHas (F 7) (nI j))), (4, .int (mCovered F a n (nI j))), (5, .int (nI (i + 1)))]) 5 [1, 2, 3, 4, 5, 0] dM_deeds_81 rfl (nI_1 i) (by decide) rfl ?_
            refine v_goto C dM_deeds_84 (tgt := 21) (by decide) ?_
            have hL : mDeed1 F a n P j ki (i + 1) d a1 = mDeed1 F a n P j n 0 0 a := (by rw [← hIi]; simp only [mDeed1]; rw [if_pos h1, if_pos h2, if_pos h3, if_pos h5])
            exact ihi d a1 hL
          · skip
            refine v_aload_n C 0 dM_deeds_60 rfl rfl ?_
            refine v_cVrF (As := []) C (c_mIsLate l D cI cZ cJ b F a1) (cwV 0 C.2.2.2.2.1 gM_deeds_M_isLate rfl rfl rfl (by decide +kernel) ⟨Nat.le_of_ble_eq_true rfl, Nat.le_of_ble_eq_true rfl⟩) 0 rfl (T := TcM) (N := 18) rfl rfl rfl (Nat.le_of_ble_eq_true rfl) ⟨Nat.zero_le _, Nat.zero_le _⟩ dM_deeds_61 ?_
            refine v_if_eq C dM_deeds_64 (tgt := 70) (by decide) (fun h6 => ?_) (fun h6 => ?_)
            · skip
              refine v_aload_n C 0 dM_deeds_70 rfl rfl ?_
              refine v_get C (T := TcM) (N := 18) (ci := 2) (v := .ref (b 3)) inM_deeds_M 0 rfl rfl 12 (by decide) (by decide +kernel) rfl rfl dM_deeds_71 ?_
              refine v_iload C 5 dM_deeds_74 rfl ?_
              refine v_iconst C (v := 1) dM_deeds_76 (by decide) ?_
              obtain ⟨zz2, hzz2⟩ : ∃ z9, upd (a1 12) i 1 = z9 := ⟨_, rfl⟩
              refine v_iast C 3 0 (f := a1 12) (j := i) (f1 := zz2) rfl rfl (nI_clamp (by omega)) hzz2 (vp_in_nI (by omega) (by decide)) dM_deeds_77 (w1 := wM cI cZ b F (updA a1 12 zz2)) rfl ?_
              refine v_iinc C (v := d + 1) (lv' := [(0, .ref (b 0)), (1, .int (nI j)), (2, .int (d + 1)), (3, .int (mHas (F 7) (nI j))), (4, .int (mCovered F a n (nI j))), (5, .int (nI i))]) 2 [1, 2, 0, 3, 4, 5] dM_deeds_78 rfl rfl (by decide) rfl ?_
              refine v_iinc C (v := nI (i + 1)) (lv' := [(0, .ref (b 0)), (1, .int (nI j)), (2, .int (d + 1)), (3, .int (mHas (F 7) (nI j))), (4, .int (mCovered F a n (nI j))), (5, .int (nI (i + 1)))]) 5 [1, 2, 3, 4, 5, 0] dM_deeds_81 rfl (nI_1 i) (by decide) rfl ?_
              refine v_goto C dM_deeds_84 (tgt := 21) (by decide) ?_
              have hL : mDeed1 F a n P j ki (i + 1) (d + 1) (updA a1 12 zz2) = mDeed1 F a n P j n 0 0 a := (by rw [← hIi]; simp only [mDeed1]; rw [hzz2, if_pos h1, if_pos h2, if_pos h3, if_neg h5, if_pos h6])
              exact ihi (d + 1) (updA a1 12 zz2) hL
            · skip
              refine v_goto C dM_deeds_67 (tgt := 81) (by decide) ?_
              refine v_iinc C (v := nI (i + 1)) (lv' := [(0, .ref (b 0)), (1, .int (nI j)), (2, .int d), (3, .int (mHas (F 7) (nI j))), (4, .int (mCovered F a n (nI j))), (5, .int (nI (i + 1)))]) 5 [1, 2, 3, 4, 5, 0] dM_deeds_81 rfl (nI_1 i) (by decide) rfl ?_
              refine v_goto C dM_deeds_84 (tgt := 21) (by decide) ?_
              have hL : mDeed1 F a n P j ki (i + 1) d a1 = mDeed1 F a n P j n 0 0 a := (by rw [← hIi]; simp only [mDeed1]; rw [if_pos h1, if_pos h2, if_pos h3, if_neg h5, if_neg h6])
              exact ihi d a1 hL
  · skip
    intro d a1 hIi
    have hIi : mDeed1 F a n P j 0 n d a1 = mDeed1 F a n P j n 0 0 a := hIi
    refine v_as (w' := wM cI cZ b F a1) (lv' := [(0, .ref (b 0)), (1, .int (nI j)), (2, .int d), (3, .int (mHas (F 7) (nI j))), (4, .int (mCovered F a n (nI j))), (5, .int (nI n))]) rfl rfl ?_
    obtain ⟨rfl, rfl⟩ : d = (mDeed1 F a n P j n 0 0 a).1 ∧ a1 = (mDeed1 F a n P j n 0 0 a).2 := by rw [← hIi]; exact ⟨rfl, rfl⟩
    refine v_iload C 5 dM_deeds_21 rfl ?_
    refine v_aload_n C 0 dM_deeds_23 rfl rfl ?_
    refine v_get C (T := TcM) (N := 18) (ci := 2) (v := .int (F 9)) inM_deeds_M 0 rfl rfl 9 (by decide) (by decide +kernel) rfl rfl dM_deeds_24 ?_
    refine v_top (y := nI n) hn ?_
    refine v_icmp_ge C dM_deeds_27 (tgt := 87) (by decide) (fun _ => ?_) (fun h => absurd (nI_le (a := n) (b := n) (by omega) (by omega)) h)
    refine v_cut (pj := 110) (wj := wM cI cZ b F ((mSelf F a n P j).2)) (lj := [(0, .ref (b 0)), (1, .int (nI j)), (2, .int ((mSelf F a n P j).1)), (3, .int (mHas (F 7) (nI j))), (4, .int (mCovered F a n (nI j))), (5, .int (nI n))]) ?_ (fun hJ => ?_)
    · skip
      refine v_iconst C (v := 0) dM_deeds_110 (by decide) ?_
      refine v_istore C (lv' := [(0, .ref (b 0)), (1, .int (nI j)), (2, .int ((mSelf F a n P j).1)), (3, .int (mHas (F 7) (nI j))), (4, .int (mCovered F a n (nI j))), (5, .int 0)]) [1, 2, 3, 4, 5, 0] dM_deeds_111 (by decide) rfl ?_
      refine v_loop2 P (fun (jj : Nat) (d : Int32) (a1 : AT) => wM cI cZ b F a1) (fun (jj : Nat) (d : Int32) (a1 : AT) => [(0, .ref (b 0)), (1, .int (nI j)), (2, .int d), (3, .int (mHas (F 7) (nI j))), (4, .int (mCovered F a n (nI j))), (5, .int (nI jj))]) (fun (kjj jj : Nat) (d : Int32) (a1 : AT) => mDeed2 F n P j kjj jj d a1 = mDeed2 F n P j P 0 ((mSelf F a n P j).1) ((mSelf F a n P j).2) ∧ KM a1) ?_ ?_ P 0 ((mSelf F a n P j).1) ((mSelf F a n P j).2) (by omega) ⟨rfl, (mSelf_km hj hK)⟩
      · skip
        intro kjj jj d a1 hkjj hIjj ihjj
        obtain ⟨hIjj, hJjj⟩ := hIjj
        have hIjj : mDeed2 F n P j (kjj + 1) jj d a1 = mDeed2 F n P j P 0 ((mSelf F a n P j).1) ((mSelf F a n P j).2) := hIjj
        refine v_as (w' := wM cI cZ b F a1) (lv' := [(0, .ref (b 0)), (1, .int (nI j)), (2, .int d), (3, .int (mHas (F 7) (nI j))), (4, .int (mCovered F a n (nI j))), (5, .int (nI jj))]) rfl rfl ?_
        refine v_iload C 5 dM_deeds_113 rfl ?_
        refine v_aload_n C 0 dM_deeds_115 rfl rfl ?_
        refine v_get C (T := TcM) (N := 18) (ci := 2) (v := .int (F 0)) inM_deeds_M 0 rfl rfl 0 (by decide) (by decide +kernel) rfl rfl dM_deeds_116 ?_
        refine v_top (y := nI P) hp ?_
        refine v_icmp_ge C dM_deeds_119 (tgt := 174) (by decide) (fun h => absurd h (nI_ge (a := jj) (b := P) (by omega) (by omega))) (fun _ => ?_)
        refine v_aload_n C 0 dM_deeds_122 rfl rfl ?_
        refine v_get C (T := TcM) (N := 18) (ci := 2) (v := .int (F 7)) inM_deeds_M 0 rfl rfl 7 (by decide) (by decide +kernel) rfl rfl dM_deeds_123 ?_
        refine v_iload C 5 dM_deeds_126 rfl ?_
        refine v_cSr0 (As := [.int (F 7), .int (nI jj)]) C (c_mHas l D cI cZ cJ (F 7) (nI jj)) (va_cwS 2 C.2.2.2.2.1 gM_deeds_M_has rfl rfl rfl (by decide +kernel) ⟨Nat.le_of_ble_eq_true rfl, Nat.le_of_ble_eq_true rfl⟩) rfl rfl (Nat.le_of_ble_eq_true rfl) ⟨Nat.zero_le _, Nat.zero_le _⟩ dM_deeds_128 ?_
        refine v_if_eq C dM_deeds_131 (tgt := 144) (by decide) (fun h7 => ?_) (fun h7 => ?_)
        · skip
          refine v_iconst C (v := 0) dM_deeds_144 (by decide) ?_
          refine v_istore C (lv' := [(0, .ref (b 0)), (1, .int (nI j)), (2, .int d), (3, .int (mHas (F 7) (nI j))), (4, .int (mCovered F a n (nI j))), (5, .int (nI jj)), (6, .int 0)]) [1, 2, 3, 4, 5, 6, 0] dM_deeds_145 (by decide) rfl ?_
          refine v_iload C 6 dM_deeds_147 rfl ?_
          refine v_if_eq C dM_deeds_149 (tgt := 168) (by decide) (fun _ => ?_) (fun h => absurd h (by decide))
          refine v_iinc C (v := nI (jj + 1)) (lv' := [(0, .ref (b 0)), (1, .int (nI j)), (2, .int d), (3, .int (mHas (F 7) (nI j))), (4, .int (mCovered F a n (nI j))), (5, .int (nI (jj + 1))), (6, .int 0)]) 5 [1, 2, 3, 4, 5, 0, 6] dM_deeds_168 rfl (nI_1 jj) (by decide) rfl ?_
          refine v_goto C dM_deeds_171 (tgt := 113) (by decide) ?_
          refine v_loc (lv' := [(0, .ref (b 0)), (1, .int (nI j)), (2, .int d), (3, .int (mHas (F 7) (nI j))), (4, .int (mCovered F a n (nI j))), (5, .int (nI (jj + 1)))]) [0, 1, 2, 3, 4, 5] rfl ?_
          have hL : mDeed2 F n P j kjj (jj + 1) d a1 = mDeed2 F n P j P 0 ((mSelf F a n P j).1) ((mSelf F a n P j).2) := (by rw [← hIjj]; simp only [mDeed2]; rw [if_pos h7])
          exact ihjj d a1 ⟨hL, (by first | exact hJjj | exact KM.shown (PreM.good hj (short_pre hJjj hn4 hj (vp_in_nI (by omega) (by decide)) n 0 0 (by omega) PreM.zero)).1 hJjj)⟩
        · skip
          refine v_aload_n C 0 dM_deeds_134 rfl rfl ?_
          refine v_iload_n C 1 dM_deeds_135 rfl rfl ?_
          refine v_iload C 5 dM_deeds_136 rfl ?_
          refine v_cVrF (As := [.int (nI j), .int (nI jj)]) C (c_mShortest l D cI cZ cJ b F a1 n (nI j) (nI jj) hn hn4 (vp_in_nI (by omega) (by decide)) hJjj.rows) (cwV 2 C.2.2.2.2.1 gM_deeds_M_shortest rfl rfl rfl (by decide +kernel) ⟨Nat.le_of_ble_eq_true rfl, Nat.le_of_ble_eq_true rfl⟩) 0 rfl (T := TcM) (N := 18) rfl rfl rfl (Nat.le_of_ble_eq_true rfl) ⟨Nat.zero_le _, Nat.zero_le _⟩ dM_deeds_138 ?_
          refine v_goto C dM_deeds_141 (tgt := 145) (by decide) ?_
          refine v_istore C (lv' := [(0, .ref (b 0)), (1, .int (nI j)), (2, .int d), (3, .int (mHas (F 7) (nI j))), (4, .int (mCovered F a n (nI j))), (5, .int (nI jj)), (6, .int (mShortest F a1 n (nI j) (nI jj)))]) [1, 2, 3, 4, 5, 6, 0] dM_deeds_145 (by decide) rfl ?_
          refine v_iload C 6 dM_deeds_147 rfl ?_
          refine v_if_eq C dM_deeds_149 (tgt := 168) (by decide) (fun h8 => ?_) (fun h8 => ?_)
          · skip
            refine v_iinc C (v := nI (jj + 1)) (lv' := [(0, .ref (b 0)), (1, .int (nI j)), (2, .int d), (3, .int (mHas (F 7) (nI j))), (4, .int (mCovered F a n (nI j))), (5, .int (nI (jj + 1))), (6, .int (mShortest F a1 n (nI j) (nI jj)))]) 5 [1, 2, 3, 4, 5, 0, 6] dM_deeds_168 rfl (nI_1 jj) (by decide) rfl ?_
            refine v_goto C dM_deeds_171 (tgt := 113) (by decide) ?_
            refine v_loc (lv' := [(0, .ref (b 0)), (1, .int (nI j)), (2, .int d), (3, .int (mHas (F 7) (nI j))), (4, .int (mCovered F a n (nI j))), (5, .int (nI (jj + 1)))]) [0, 1, 2, 3, 4, 5] rfl ?_
            have hL : mDeed2 F n P j kjj (jj + 1) d a1 = mDeed2 F n P j P 0 ((mSelf F a n P j).1) ((mSelf F a n P j).2) := (by rw [← hIjj]; simp only [mDeed2]; rw [if_neg h7, if_pos h8])
            exact ihjj d a1 ⟨hL, (by first | exact hJjj | exact KM.shown (PreM.good hj (short_pre hJjj hn4 hj (vp_in_nI (by omega) (by decide)) n 0 0 (by omega) PreM.zero)).1 hJjj)⟩
          · skip
            refine v_iload_n C 2 dM_deeds_152 rfl rfl ?_
            refine v_aload_n C 0 dM_deeds_153 rfl rfl ?_
            refine v_iload_n C 1 dM_deeds_154 rfl rfl ?_
            refine v_iload C 5 dM_deeds_155 rfl ?_
            refine v_iload_n C 1 dM_deeds_157 rfl rfl ?_
            refine v_iload C 6 dM_deeds_158 rfl ?_
            refine v_cSr0 (As := [.int (nI j), .int (mShortest F a1 n (nI j) (nI jj))]) C (c_mBefore l D cI cZ cJ (nI j) (mShortest F a1 n (nI j) (nI jj))) (va_cwS 2 C.2.2.2.2.1 gM_deeds_M_before rfl rfl rfl (by decide +kernel) ⟨Nat.le_of_ble_eq_true rfl, Nat.le_of_ble_eq_true rfl⟩) rfl rfl (Nat.le_of_ble_eq_true rfl) ⟨Nat.zero_le _, Nat.zero_le _⟩ dM_deeds_160 ?_
            refine v_cViF (As := [.int (nI j), .int (nI jj), .int (mBefore (nI j) (mShortest F a1 n (nI j) (nI jj)))]) C (c_mShownBy l D cI cZ cJ b F a1 n (nI j) (nI jj) (mBefore (nI j) (mShortest F a1 n (nI j) (nI jj))) hn hn4 (PreM.good hj (short_pre hJjj hn4 hj (vp_in_nI (by omega) (by decide)) n 0 0 (by omega) PreM.zero)).2) (cwV 3 C.2.2.2.2.1 gM_deeds_M_shownBy rfl rfl rfl (by decide +kernel) ⟨Nat.le_of_ble_eq_true rfl, Nat.le_of_ble_eq_true rfl⟩) 0 rfl (T := TcM) (N := 18) rfl rfl rfl (Nat.le_of_ble_eq_true rfl) ⟨Nat.zero_le _, Nat.zero_le _⟩ dM_deeds_163 ?_
            refine v_iadd C dM_deeds_166 ?_
            refine v_istore_n C (lv' := [(0, .ref (b 0)), (1, .int (nI j)), (2, .int (d + ((mShownBy F a1 n (nI j) (nI jj) (mBefore (nI j) (mShortest F a1 n (nI j) (nI jj)))).1))), (3, .int (mHas (F 7) (nI j))), (4, .int (mCovered F a n (nI j))), (5, .int (nI jj)), (6, .int (mShortest F a1 n (nI j) (nI jj)))]) [1, 2, 0, 3, 4, 5, 6] dM_deeds_167 rfl (by decide) rfl ?_
            refine v_iinc C (v := nI (jj + 1)) (lv' := [(0, .ref (b 0)), (1, .int (nI j)), (2, .int (d + ((mShownBy F a1 n (nI j) (nI jj) (mBefore (nI j) (mShortest F a1 n (nI j) (nI jj)))).1))), (3, .int (mHas (F 7) (nI j))), (4, .int (mCovered F a n (nI j))), (5, .int (nI (jj + 1))), (6, .int (mShortest F a1 n (nI j) (nI jj)))]) 5 [1, 2, 3, 4, 5, 0, 6] dM_deeds_168 rfl (nI_1 jj) (by decide) rfl ?_
            refine v_goto C dM_deeds_171 (tgt := 113) (by decide) ?_
            refine v_loc (lv' := [(0, .ref (b 0)), (1, .int (nI j)), (2, .int (d + ((mShownBy F a1 n (nI j) (nI jj) (mBefore (nI j) (mShortest F a1 n (nI j) (nI jj)))).1))), (3, .int (mHas (F 7) (nI j))), (4, .int (mCovered F a n (nI j))), (5, .int (nI (jj + 1)))]) [0, 1, 2, 3, 4, 5] rfl ?_
            have hL : mDeed2 F n P j kjj (jj + 1) (d + ((mShownBy F a1 n (nI j) (nI jj) (mBefore (nI j) (mShortest F a1 n (nI j) (nI jj)))).1)) ((mShownBy F a1 n (nI j) (nI jj) (mBefore (nI j) (mShortest F a1 n (nI j) (nI jj)))).2) = mDeed2 F n P j P 0 ((mSelf F a n P j).1) ((mSelf F a n P j).2) := (by rw [← hIjj]; simp only [mDeed2]; rw [if_neg h7, if_neg h8])
            exact ihjj (d + ((mShownBy F a1 n (nI j) (nI jj) (mBefore (nI j) (mShortest F a1 n (nI j) (nI jj)))).1)) ((mShownBy F a1 n (nI j) (nI jj) (mBefore (nI j) (mShortest F a1 n (nI j) (nI jj)))).2) ⟨hL, (by first | exact hJjj | exact KM.shown (PreM.good hj (short_pre hJjj hn4 hj (vp_in_nI (by omega) (by decide)) n 0 0 (by omega) PreM.zero)).1 hJjj)⟩
      · skip
        intro d a1 hIjj
        obtain ⟨hIjj, hJjj⟩ := hIjj
        have hIjj : mDeed2 F n P j 0 P d a1 = mDeed2 F n P j P 0 ((mSelf F a n P j).1) ((mSelf F a n P j).2) := hIjj
        refine v_as (w' := wM cI cZ b F a1) (lv' := [(0, .ref (b 0)), (1, .int (nI j)), (2, .int d), (3, .int (mHas (F 7) (nI j))), (4, .int (mCovered F a n (nI j))), (5, .int (nI P))]) rfl rfl ?_
        obtain ⟨rfl, rfl⟩ : d = (mDeed2 F n P j P 0 ((mSelf F a n P j).1) ((mSelf F a n P j).2)).1 ∧ a1 = (mDeed2 F n P j P 0 ((mSelf F a n P j).1) ((mSelf F a n P j).2)).2 := by rw [← hIjj]; exact ⟨rfl, rfl⟩
        refine v_iload C 5 dM_deeds_113 rfl ?_
        refine v_aload_n C 0 dM_deeds_115 rfl rfl ?_
        refine v_get C (T := TcM) (N := 18) (ci := 2) (v := .int (F 0)) inM_deeds_M 0 rfl rfl 0 (by decide) (by decide +kernel) rfl rfl dM_deeds_116 ?_
        refine v_top (y := nI P) hp ?_
        refine v_icmp_ge C dM_deeds_119 (tgt := 174) (by decide) (fun _ => ?_) (fun h => absurd (nI_le (a := P) (b := P) (by omega) (by omega)) h)
        refine v_iconst C (v := 0) dM_deeds_174 (by decide) ?_
        refine v_istore C (lv' := [(0, .ref (b 0)), (1, .int (nI j)), (2, .int ((mDeed2 F n P j P 0 ((mSelf F a n P j).1) ((mSelf F a n P j).2)).1)), (3, .int (mHas (F 7) (nI j))), (4, .int (mCovered F a n (nI j))), (5, .int 0)]) [1, 2, 3, 4, 5, 0] dM_deeds_175 (by decide) rfl ?_
        refine v_loop2 n (fun (i : Nat) (d : Int32) (a1 : AT) => wM cI cZ b F a1) (fun (i : Nat) (d : Int32) (a1 : AT) => [(0, .ref (b 0)), (1, .int (nI j)), (2, .int d), (3, .int (mHas (F 7) (nI j))), (4, .int (mCovered F a n (nI j))), (5, .int (nI i))]) (fun (ki i : Nat) (d : Int32) (a1 : AT) => mDeed3 F n P j ki i d a1 = mDeed3 F n P j n 0 ((mDeed2 F n P j P 0 ((mSelf F a n P j).1) ((mSelf F a n P j).2)).1) ((mDeed2 F n P j P 0 ((mSelf F a n P j).1) ((mSelf F a n P j).2)).2)) ?_ ?_ n 0 ((mDeed2 F n P j P 0 ((mSelf F a n P j).1) ((mSelf F a n P j).2)).1) ((mDeed2 F n P j P 0 ((mSelf F a n P j).1) ((mSelf F a n P j).2)).2) (by omega) rfl
        · skip
          intro ki i d a1 hki hIi ihi
          have hIi : mDeed3 F n P j (ki + 1) i d a1 = mDeed3 F n P j n 0 ((mDeed2 F n P j P 0 ((mSelf F a n P j).1) ((mSelf F a n P j).2)).1) ((mDeed2 F n P j P 0 ((mSelf F a n P j).1) ((mSelf F a n P j).2)).2) := hIi
          refine v_as (w' := wM cI cZ b F a1) (lv' := [(0, .ref (b 0)), (1, .int (nI j)), (2, .int d), (3, .int (mHas (F 7) (nI j))), (4, .int (mCovered F a n (nI j))), (5, .int (nI i))]) rfl rfl ?_
          refine v_iload C 5 dM_deeds_177 rfl ?_
          refine v_aload_n C 0 dM_deeds_179 rfl rfl ?_
          refine v_get C (T := TcM) (N := 18) (ci := 2) (v := .int (F 9)) inM_deeds_M 0 rfl rfl 9 (by decide) (by decide +kernel) rfl rfl dM_deeds_180 ?_
          refine v_top (y := nI n) hn ?_
          refine v_icmp_ge C dM_deeds_183 (tgt := 235) (by decide) (fun h => absurd h (nI_ge (a := i) (b := n) (by omega) (by omega))) (fun _ => ?_)
          refine v_aload_n C 0 dM_deeds_186 rfl rfl ?_
          refine v_get C (T := TcM) (N := 18) (ci := 2) (v := .ref (b 1)) inM_deeds_M 0 rfl rfl 10 (by decide) (by decide +kernel) rfl rfl dM_deeds_187 ?_
          refine v_iload C 5 dM_deeds_190 rfl ?_
          refine v_iald C 1 0 (f := a1 10) (y := (a1 10) i) (j := i) rfl rfl (nI_clamp (by omega)) rfl (vp_in_nI (by omega) (by decide)) dM_deeds_192 ?_
          refine v_iload_n C 1 dM_deeds_193 rfl rfl ?_
          refine v_icmp_ne C dM_deeds_194 (tgt := 229) (by decide) (fun h9 => ?_) (fun h9 => ?_)
          · skip
            refine v_iinc C (v := nI (i + 1)) (lv' := [(0, .ref (b 0)), (1, .int (nI j)), (2, .int d), (3, .int (mHas (F 7) (nI j))), (4, .int (mCovered F a n (nI j))), (5, .int (nI (i + 1)))]) 5 [1, 2, 3, 4, 5, 0] dM_deeds_229 rfl (nI_1 i) (by decide) rfl ?_
            refine v_goto C dM_deeds_232 (tgt := 177) (by decide) ?_
            have hL : mDeed3 F n P j ki (i + 1) d a1 = mDeed3 F n P j n 0 ((mDeed2 F n P j P 0 ((mSelf F a n P j).1) ((mSelf F a n P j).2)).1) ((mDeed2 F n P j P 0 ((mSelf F a n P j).1) ((mSelf F a n P j).2)).2) := (by rw [← hIi]; simp only [mDeed3]; rw [if_neg h9])
            exact ihi d a1 hL
          · skip
            refine v_aload_n C 0 dM_deeds_197 rfl rfl ?_
            refine v_get C (T := TcM) (N := 18) (ci := 2) (v := .ref (b 3)) inM_deeds_M 0 rfl rfl 12 (by decide) (by decide +kernel) rfl rfl dM_deeds_198 ?_
            refine v_iload C 5 dM_deeds_201 rfl ?_
            refine v_iald C 3 0 (f := a1 12) (y := (a1 12) i) (j := i) rfl rfl (nI_clamp (by omega)) rfl (vp_in_nI (by omega) (by decide)) dM_deeds_203 ?_
            refine v_iconst C (v := 1) dM_deeds_204 (by decide) ?_
            refine v_icmp_ne C dM_deeds_205 (tgt := 229) (by decide) (fun h10 => ?_) (fun h10 => ?_)
            · skip
              refine v_iinc C (v := nI (i + 1)) (lv' := [(0, .ref (b 0)), (1, .int (nI j)), (2, .int d), (3, .int (mHas (F 7) (nI j))), (4, .int (mCovered F a n (nI j))), (5, .int (nI (i + 1)))]) 5 [1, 2, 3, 4, 5, 0] dM_deeds_229 rfl (nI_1 i) (by decide) rfl ?_
              refine v_goto C dM_deeds_232 (tgt := 177) (by decide) ?_
              have hL : mDeed3 F n P j ki (i + 1) d a1 = mDeed3 F n P j n 0 ((mDeed2 F n P j P 0 ((mSelf F a n P j).1) ((mSelf F a n P j).2)).1) ((mDeed2 F n P j P 0 ((mSelf F a n P j).1) ((mSelf F a n P j).2)).2) := (by rw [← hIi]; simp only [mDeed3]; rw [if_pos h9, if_neg h10])
              exact ihi d a1 hL
            · skip
              refine v_aload_n C 0 dM_deeds_208 rfl rfl ?_
              refine v_cVrF (As := []) C (c_mIsLate l D cI cZ cJ b F a1) (cwV 0 C.2.2.2.2.1 gM_deeds_M_isLate rfl rfl rfl (by decide +kernel) ⟨Nat.le_of_ble_eq_true rfl, Nat.le_of_ble_eq_true rfl⟩) 0 rfl (T := TcM) (N := 18) rfl rfl rfl (Nat.le_of_ble_eq_true rfl) ⟨Nat.zero_le _, Nat.zero_le _⟩ dM_deeds_209 ?_
              refine v_if_ne C dM_deeds_212 (tgt := 218) (by decide) (fun h11 => ?_) (fun h11 => ?_)
              · skip
                refine v_aload_n C 0 dM_deeds_218 rfl rfl ?_
                refine v_get C (T := TcM) (N := 18) (ci := 2) (v := .ref (b 3)) inM_deeds_M 0 rfl rfl 12 (by decide) (by decide +kernel) rfl rfl dM_deeds_219 ?_
                refine v_iload C 5 dM_deeds_222 rfl ?_
                refine v_iconst C (v := 3) dM_deeds_224 (by decide) ?_
                obtain ⟨zz3, hzz3⟩ : ∃ z9, upd (a1 12) i 3 = z9 := ⟨_, rfl⟩
                refine v_iast C 3 0 (f := a1 12) (j := i) (f1 := zz3) rfl rfl (nI_clamp (by omega)) hzz3 (vp_in_nI (by omega) (by decide)) dM_deeds_225 (w1 := wM cI cZ b F (updA a1 12 zz3)) rfl ?_
                refine v_iinc C (v := d + 1) (lv' := [(0, .ref (b 0)), (1, .int (nI j)), (2, .int (d + 1)), (3, .int (mHas (F 7) (nI j))), (4, .int (mCovered F a n (nI j))), (5, .int (nI i))]) 2 [1, 2, 0, 3, 4, 5] dM_deeds_226 rfl rfl (by decide) rfl ?_
                refine v_iinc C (v := nI (i + 1)) (lv' := [(0, .ref (b 0)), (1, .int (nI j)), (2, .int (d + 1)), (3, .int (mHas (F 7) (nI j))), (4, .int (mCovered F a n (nI j))), (5, .int (nI (i + 1)))]) 5 [1, 2, 3, 4, 5, 0] dM_deeds_229 rfl (nI_1 i) (by decide) rfl ?_
                refine v_goto C dM_deeds_232 (tgt := 177) (by decide) ?_
                have hL : mDeed3 F n P j ki (i + 1) (d + 1) (updA a1 12 zz3) = mDeed3 F n P j n 0 ((mDeed2 F n P j P 0 ((mSelf F a n P j).1) ((mSelf F a n P j).2)).1) ((mDeed2 F n P j P 0 ((mSelf F a n P j).1) ((mSelf F a n P j).2)).2) := (by rw [← hIi]; simp only [mDeed3]; rw [hzz3, if_pos h9, if_pos h10, if_neg h11])
                exact ihi (d + 1) (updA a1 12 zz3) hL
              · skip
                refine v_goto C dM_deeds_215 (tgt := 229) (by decide) ?_
                refine v_iinc C (v := nI (i + 1)) (lv' := [(0, .ref (b 0)), (1, .int (nI j)), (2, .int d), (3, .int (mHas (F 7) (nI j))), (4, .int (mCovered F a n (nI j))), (5, .int (nI (i + 1)))]) 5 [1, 2, 3, 4, 5, 0] dM_deeds_229 rfl (nI_1 i) (by decide) rfl ?_
                refine v_goto C dM_deeds_232 (tgt := 177) (by decide) ?_
                have hL : mDeed3 F n P j ki (i + 1) d a1 = mDeed3 F n P j n 0 ((mDeed2 F n P j P 0 ((mSelf F a n P j).1) ((mSelf F a n P j).2)).1) ((mDeed2 F n P j P 0 ((mSelf F a n P j).1) ((mSelf F a n P j).2)).2) := (by rw [← hIi]; simp only [mDeed3]; rw [if_pos h9, if_pos h10, if_pos h11])
                exact ihi d a1 hL
        · skip
          intro d a1 hIi
          have hIi : mDeed3 F n P j 0 n d a1 = mDeed3 F n P j n 0 ((mDeed2 F n P j P 0 ((mSelf F a n P j).1) ((mSelf F a n P j).2)).1) ((mDeed2 F n P j P 0 ((mSelf F a n P j).1) ((mSelf F a n P j).2)).2) := hIi
          refine v_as (w' := wM cI cZ b F a1) (lv' := [(0, .ref (b 0)), (1, .int (nI j)), (2, .int d), (3, .int (mHas (F 7) (nI j))), (4, .int (mCovered F a n (nI j))), (5, .int (nI n))]) rfl rfl ?_
          obtain ⟨rfl, rfl⟩ : d = (mDeed3 F n P j n 0 ((mDeed2 F n P j P 0 ((mSelf F a n P j).1) ((mSelf F a n P j).2)).1) ((mDeed2 F n P j P 0 ((mSelf F a n P j).1) ((mSelf F a n P j).2)).2)).1 ∧ a1 = (mDeed3 F n P j n 0 ((mDeed2 F n P j P 0 ((mSelf F a n P j).1) ((mSelf F a n P j).2)).1) ((mDeed2 F n P j P 0 ((mSelf F a n P j).1) ((mSelf F a n P j).2)).2)).2 := by rw [← hIi]; exact ⟨rfl, rfl⟩
          refine v_iload C 5 dM_deeds_177 rfl ?_
          refine v_aload_n C 0 dM_deeds_179 rfl rfl ?_
          refine v_get C (T := TcM) (N := 18) (ci := 2) (v := .int (F 9)) inM_deeds_M 0 rfl rfl 9 (by decide) (by decide +kernel) rfl rfl dM_deeds_180 ?_
          refine v_top (y := nI n) hn ?_
          refine v_icmp_ge C dM_deeds_183 (tgt := 235) (by decide) (fun _ => ?_) (fun h => absurd (nI_le (a := n) (b := n) (by omega) (by omega)) h)
          refine v_iload_n C 2 dM_deeds_235 rfl rfl ?_
          have hE : ((mDeed3 F n P j n 0 ((mDeed2 F n P j P 0 ((mSelf F a n P j).1) ((mSelf F a n P j).2)).1) ((mDeed2 F n P j P 0 ((mSelf F a n P j).1) ((mSelf F a n P j).2)).2)).1, (mDeed3 F n P j n 0 ((mDeed2 F n P j P 0 ((mSelf F a n P j).1) ((mSelf F a n P j).2)).1) ((mDeed2 F n P j P 0 ((mSelf F a n P j).1) ((mSelf F a n P j).2)).2)).2) = mDeeds F a n P j := (by unfold mDeeds; rfl)
          exact v_iret C hr (by rw [← hE]) (by rw [← hE]) dM_deeds_236
    · skip
      refine v_iload_n C 3 dM_deeds_87 rfl rfl ?_
      refine v_if_eq C dM_deeds_88 (tgt := 110) (by decide) (fun h12 => ?_) (fun h12 => ?_)
      · skip
        have hE : mSelf F a n P j = ((mDeed1 F a n P j n 0 0 a).1, (mDeed1 F a n P j n 0 0 a).2) := by unfold mSelf; rw [if_pos h12]
        rw [hE] at hJ
        exact hJ
      · skip
        refine v_iload C 4 dM_deeds_91 rfl ?_
        refine v_if_eq C dM_deeds_93 (tgt := 110) (by decide) (fun h13 => ?_) (fun h13 => ?_)
        · skip
          have hE : mSelf F a n P j = ((mDeed1 F a n P j n 0 0 a).1, (mDeed1 F a n P j n 0 0 a).2) := by unfold mSelf; rw [if_neg h12, if_pos h13]
          rw [hE] at hJ
          exact hJ
        · skip
          refine v_iload_n C 2 dM_deeds_96 rfl rfl ?_
          refine v_aload_n C 0 dM_deeds_97 rfl rfl ?_
          refine v_iload_n C 1 dM_deeds_98 rfl rfl ?_
          refine v_iload_n C 1 dM_deeds_99 rfl rfl ?_
          refine v_iload_n C 1 dM_deeds_100 rfl rfl ?_
          refine v_iconst C (v := 0) dM_deeds_101 (by decide) ?_
          refine v_cSr0 (As := [.int (nI j), .int 0]) C (c_mBefore l D cI cZ cJ (nI j) 0) (va_cwS 2 C.2.2.2.2.1 gM_deeds_M_before rfl rfl rfl (by decide +kernel) ⟨Nat.le_of_ble_eq_true rfl, Nat.le_of_ble_eq_true rfl⟩) rfl rfl (Nat.le_of_ble_eq_true rfl) ⟨Nat.zero_le _, Nat.zero_le _⟩ dM_deeds_102 ?_
          refine v_cViF (As := [.int (nI j), .int (nI j), .int (mBefore (nI j) 0)]) C (c_mShownBy l D cI cZ cJ b F ((mDeed1 F a n P j n 0 0 a).2) n (nI j) (nI j) (mBefore (nI j) 0) hn hn4 (PreM.good hj PreM.zero).2) (cwV 3 C.2.2.2.2.1 gM_deeds_M_shownBy rfl rfl rfl (by decide +kernel) ⟨Nat.le_of_ble_eq_true rfl, Nat.le_of_ble_eq_true rfl⟩) 0 rfl (T := TcM) (N := 18) rfl rfl rfl (Nat.le_of_ble_eq_true rfl) ⟨Nat.zero_le _, Nat.zero_le _⟩ dM_deeds_105 ?_
          refine v_iadd C dM_deeds_108 ?_
          refine v_istore_n C (lv' := [(0, .ref (b 0)), (1, .int (nI j)), (2, .int (((mDeed1 F a n P j n 0 0 a).1) + ((mShownBy F ((mDeed1 F a n P j n 0 0 a).2) n (nI j) (nI j) (mBefore (nI j) 0)).1))), (3, .int (mHas (F 7) (nI j))), (4, .int (mCovered F a n (nI j))), (5, .int (nI n))]) [1, 2, 0, 3, 4, 5] dM_deeds_109 rfl (by decide) rfl ?_
          have hE : mSelf F a n P j = (((mDeed1 F a n P j n 0 0 a).1) + ((mShownBy F ((mDeed1 F a n P j n 0 0 a).2) n (nI j) (nI j) (mBefore (nI j) 0)).1), (mShownBy F ((mDeed1 F a n P j n 0 0 a).2) n (nI j) (nI j) (mBefore (nI j) 0)).2) := by unfold mSelf; rw [if_neg h12, if_neg h13]
          rw [hE] at hJ
          exact hJ

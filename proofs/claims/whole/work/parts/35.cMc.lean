set_option maxHeartbeats 4000000 in
set_option maxRecDepth 100000 in
theorem c_mUnlock (l : Launch) (D : va_G) (cI cZ cJ : ClassId) (b : Nat → Nat) (F : FT) (a : AT) (x : Int32) (row : Int32) (hx : vp_in x 14) (hy : vp_in ((6 : Int32) * x + mMember row (mMany row - 1)) 84) : Kv l yM_unlock wM_unlock ({ frames := 1, cells := 0, slots := 0, locals := 21 } : Room) D vwCl (tyG cI cZ cJ) [.ref (b 0), .int x, .int row] (wM cI cZ b F a) (wM cI cZ b F (mUnlock F a x row)) := by
  intro sz
  refine v_ent (cc := bM_unlock) (maxL := 4) (ret := none) (Qc := (fun A => va_Qv (fun (_ : Unit) => True) (fun _ => wB D vwCl (tyG cI cZ cJ) A (wM cI cZ b F (mUnlock F a x row))) A)) (fr := (fun A => A)) (own := RcM) rfl (by decide) rfl (Nat.le_of_ble_eq_true rfl) rfl ?_
  intro p e s m args below meth c A C hr _
  refine v_free ?_
  refine v_iload_n C 2 dM_unlock_0 rfl rfl ?_
  refine v_iload_n C 2 dM_unlock_1 rfl rfl ?_
  refine v_cSr0 (As := [.int row]) C (c_mMany l D cI cZ cJ row) (va_cwS 1 C.2.2.2.2.1 gM_unlock_M_many rfl rfl rfl (by decide +kernel) ⟨Nat.le_of_ble_eq_true rfl, Nat.le_of_ble_eq_true rfl⟩) rfl rfl (Nat.le_of_ble_eq_true rfl) ⟨Nat.zero_le _, Nat.zero_le _⟩ dM_unlock_2 ?_
  refine v_iconst C (v := 1) dM_unlock_5 (by decide) ?_
  refine v_isub C dM_unlock_6 ?_
  refine v_cSr0 (As := [.int row, .int ((mMany row) - (1 : Int32))]) C (c_mMember l D cI cZ cJ row ((mMany row) - (1 : Int32))) (va_cwS 2 C.2.2.2.2.1 gM_unlock_M_member rfl rfl rfl (by decide +kernel) ⟨Nat.le_of_ble_eq_true rfl, Nat.le_of_ble_eq_true rfl⟩) rfl rfl (Nat.le_of_ble_eq_true rfl) ⟨Nat.zero_le _, Nat.zero_le _⟩ dM_unlock_7 ?_
  refine v_istore_n C (lv' := [(0, .ref (b 0)), (1, .int x), (2, .int row), (3, .int (mMember row ((mMany row) - (1 : Int32))))]) [1, 2, 3, 0] dM_unlock_10 rfl (by decide) rfl ?_
  refine v_aload_n C 0 dM_unlock_11 rfl rfl ?_
  refine v_get C (T := TcM) (N := 18) (ci := 2) (v := .ref (b 4)) inM_unlock_M 0 rfl rfl 13 (by decide) (by decide +kernel) rfl rfl dM_unlock_12 ?_
  refine v_iload_n C 1 dM_unlock_15 rfl rfl ?_
  refine v_dup2 C dM_unlock_16 rfl rfl ?_
  refine v_iald C 4 0 (f := a 13) (y := (a 13) x.toNatClampNeg) (j := x.toNatClampNeg) rfl rfl rfl rfl hx dM_unlock_17 ?_
  refine v_iconst C (v := 1) dM_unlock_18 (by decide) ?_
  refine v_iload_n C 3 dM_unlock_19 rfl rfl ?_
  refine v_ishl C dM_unlock_20 ?_
  refine v_ior C dM_unlock_21 ?_
  obtain ⟨zz1, hzz1⟩ : ∃ z9, upd (a 13) x.toNatClampNeg (((a 13) x.toNatClampNeg) ||| ((1 : Int32) <<< ((mMember row ((mMany row) - (1 : Int32))) &&& 31))) = z9 := ⟨_, rfl⟩
  refine v_iast C 4 0 (f := a 13) (j := x.toNatClampNeg) (f1 := zz1) rfl rfl rfl hzz1 hx dM_unlock_22 (w1 := wM cI cZ b F (updA a 13 zz1)) rfl ?_
  refine v_aload_n C 0 dM_unlock_23 rfl rfl ?_
  refine v_get C (T := TcM) (N := 18) (ci := 2) (v := .ref (b 5)) inM_unlock_M 0 rfl rfl 14 (by decide) (by decide +kernel) rfl rfl dM_unlock_24 ?_
  refine v_bipush C (v := 6) dM_unlock_27 (by decide) ?_
  refine v_iload_n C 1 dM_unlock_29 rfl rfl ?_
  refine v_imul C dM_unlock_30 ?_
  refine v_iload_n C 3 dM_unlock_31 rfl rfl ?_
  refine v_iadd C dM_unlock_32 ?_
  refine v_iload_n C 2 dM_unlock_33 rfl rfl ?_
  obtain ⟨zz2, hzz2⟩ : ∃ z9, upd (a 14) ((((6 : Int32) * x) + (mMember row ((mMany row) - (1 : Int32)))).toNatClampNeg) row = z9 := ⟨_, rfl⟩
  refine v_iast C 5 0 (f := a 14) (j := (((6 : Int32) * x) + (mMember row ((mMany row) - (1 : Int32)))).toNatClampNeg) (f1 := zz2) rfl rfl rfl hzz2 hy dM_unlock_34 (w1 := wM cI cZ b F (updA (updA a 13 zz1) 14 zz2)) rfl ?_
  refine v_aload_n C 0 dM_unlock_35 rfl rfl ?_
  refine v_get C (T := TcM) (N := 18) (ci := 2) (v := .ref (b 4)) inM_unlock_M 0 rfl rfl 13 (by decide) (by decide +kernel) rfl rfl dM_unlock_36 ?_
  refine v_iload_n C 1 dM_unlock_39 rfl rfl ?_
  refine v_iald C 4 0 (f := zz1) (y := zz1 x.toNatClampNeg) (j := x.toNatClampNeg) rfl rfl rfl rfl hx dM_unlock_40 ?_
  refine v_aload_n C 0 dM_unlock_41 rfl rfl ?_
  refine v_get C (T := TcM) (N := 18) (ci := 2) (v := .int (F 7)) inM_unlock_M 0 rfl rfl 7 (by decide) (by decide +kernel) rfl rfl dM_unlock_42 ?_
  refine v_icmp_ne C dM_unlock_45 (tgt := 55) (by decide) (fun h1 => ?_) (fun h1 => ?_)
  · skip
    have hE : updA (updA a 13 zz1) 14 zz2 = mUnlock F a x row := (by unfold mUnlock; rw [hzz1, hzz2, if_neg h1])
    exact v_vret C hr (by rw [← hE]) dM_unlock_55
  · skip
    refine v_aload_n C 0 dM_unlock_48 rfl rfl ?_
    refine v_get C (T := TcM) (N := 18) (ci := 2) (v := .ref (b 3)) inM_unlock_M 0 rfl rfl 12 (by decide) (by decide +kernel) rfl rfl dM_unlock_49 ?_
    refine v_iload_n C 1 dM_unlock_52 rfl rfl ?_
    refine v_iconst C (v := 2) dM_unlock_53 (by decide) ?_
    obtain ⟨zz3, hzz3⟩ : ∃ z9, upd (a 12) x.toNatClampNeg 2 = z9 := ⟨_, rfl⟩
    refine v_iast C 3 0 (f := a 12) (j := x.toNatClampNeg) (f1 := zz3) rfl rfl rfl hzz3 hx dM_unlock_54 (w1 := wM cI cZ b F (updA (updA (updA a 13 zz1) 14 zz2) 12 zz3)) rfl ?_
    have hE : updA (updA (updA a 13 zz1) 14 zz2) 12 zz3 = mUnlock F a x row := (by unfold mUnlock; rw [hzz1, hzz2, hzz3, if_pos h1])
    exact v_vret C hr (by rw [← hE]) dM_unlock_55
set_option maxHeartbeats 4000000 in
set_option maxRecDepth 100000 in
theorem c_mCovered (l : Launch) (D : va_G) (cI cZ cJ : ClassId) (b : Nat → Nat) (F : FT) (a : AT) (n : Nat) (x : Int32) (hn : F 9 = nI n) (hn4 : n ≤ 14) : Kr l yM_isCovered wM_isCovered ({ frames := 0, cells := 0, slots := 0, locals := 0 } : Room) D vwCl (tyG cI cZ cJ) [.ref (b 0), .int x] (wM cI cZ b F a) (mCovered F a n x) := by
  intro sz
  refine v_ent (cc := bM_isCovered) (maxL := 4) (ret := (some .boolean)) (Qc := (fun _ _ st oc t => oc = .returned (some (.int (mCovered F a n x))) ∧ t.heap = st.heap)) (fr := (fun _ _ => False)) (own := RcM) rfl (by decide) rfl (Nat.le_of_ble_eq_true rfl) rfl ?_
  intro p e s m args below meth c A C hr _
  refine v_iconst C (v := 1) dM_isCovered_0 (by decide) ?_
  refine v_istore_n C (lv' := [(0, .ref (b 0)), (1, .int x), (2, .int 1)]) [1, 2, 0] dM_isCovered_1 rfl (by decide) rfl ?_
  refine v_iconst C (v := 0) dM_isCovered_2 (by decide) ?_
  refine v_istore_n C (lv' := [(0, .ref (b 0)), (1, .int x), (2, .int 1), (3, .int 0)]) [1, 2, 3, 0] dM_isCovered_3 rfl (by decide) rfl ?_
  refine v_loop1 n (fun (i : Nat) (u : Int32) => wM cI cZ b F a) (fun (i : Nat) (u : Int32) => [(0, .ref (b 0)), (1, .int x), (2, .int u), (3, .int (nI i))]) (fun (ki i : Nat) (u : Int32) => mCoveredL F a n x ki i u = mCoveredL F a n x n 0 1) ?_ ?_ n 0 1 (by omega) rfl
  · skip
    intro ki i u hki hIi ihi
    have hIi : mCoveredL F a n x (ki + 1) i u = mCoveredL F a n x n 0 1 := hIi
    refine v_as (w' := wM cI cZ b F a) (lv' := [(0, .ref (b 0)), (1, .int x), (2, .int u), (3, .int (nI i))]) rfl rfl ?_
    refine v_iload_n C 3 dM_isCovered_4 rfl rfl ?_
    refine v_aload_n C 0 dM_isCovered_5 rfl rfl ?_
    refine v_get C (T := TcM) (N := 18) (ci := 2) (v := .int (F 9)) inM_isCovered_M 0 rfl rfl 9 (by decide) (by decide +kernel) rfl rfl dM_isCovered_6 ?_
    refine v_top (y := nI n) hn ?_
    refine v_icmp_ge C dM_isCovered_9 (tgt := 58) (by decide) (fun h => absurd h (nI_ge (a := i) (b := n) (by omega) (by omega))) (fun _ => ?_)
    refine v_iload_n C 2 dM_isCovered_12 rfl rfl ?_
    refine v_if_eq C dM_isCovered_13 (tgt := 50) (by decide) (fun h1 => ?_) (fun h1 => ?_)
    · skip
      refine v_iconst C (v := 0) dM_isCovered_50 (by decide) ?_
      refine v_istore_n C (lv' := [(0, .ref (b 0)), (1, .int x), (2, .int 0), (3, .int (nI i))]) [1, 2, 0, 3] dM_isCovered_51 rfl (by decide) rfl ?_
      refine v_iinc C (v := nI (i + 1)) (lv' := [(0, .ref (b 0)), (1, .int x), (2, .int 0), (3, .int (nI (i + 1)))]) 3 [1, 2, 3, 0] dM_isCovered_52 rfl (nI_1 i) (by decide) rfl ?_
      refine v_goto C dM_isCovered_55 (tgt := 4) (by decide) ?_
      have hL : mCoveredL F a n x ki (i + 1) 0 = mCoveredL F a n x n 0 1 := (by rw [← hIi]; simp only [mCoveredL]; rw [if_pos h1])
      exact ihi 0 hL
    · skip
      refine v_aload_n C 0 dM_isCovered_16 rfl rfl ?_
      refine v_get C (T := TcM) (N := 18) (ci := 2) (v := .ref (b 2)) inM_isCovered_M 0 rfl rfl 11 (by decide) (by decide +kernel) rfl rfl dM_isCovered_17 ?_
      refine v_iload_n C 3 dM_isCovered_20 rfl rfl ?_
      refine v_iald C 2 0 (f := a 11) (y := (a 11) i) (j := i) rfl rfl (nI_clamp (by omega)) rfl (vp_in_nI (by omega) (by decide)) dM_isCovered_21 ?_
      refine v_iload_n C 1 dM_isCovered_22 rfl rfl ?_
      refine v_icmp_ne C dM_isCovered_23 (tgt := 46) (by decide) (fun h2 => ?_) (fun h2 => ?_)
      · skip
        refine v_iconst C (v := 1) dM_isCovered_46 (by decide) ?_
        refine v_goto C dM_isCovered_47 (tgt := 51) (by decide) ?_
        refine v_istore_n C (lv' := [(0, .ref (b 0)), (1, .int x), (2, .int 1), (3, .int (nI i))]) [1, 2, 0, 3] dM_isCovered_51 rfl (by decide) rfl ?_
        refine v_iinc C (v := nI (i + 1)) (lv' := [(0, .ref (b 0)), (1, .int x), (2, .int 1), (3, .int (nI (i + 1)))]) 3 [1, 2, 3, 0] dM_isCovered_52 rfl (nI_1 i) (by decide) rfl ?_
        refine v_goto C dM_isCovered_55 (tgt := 4) (by decide) ?_
        have hL : mCoveredL F a n x ki (i + 1) 1 = mCoveredL F a n x n 0 1 := (by rw [← hIi]; simp only [mCoveredL]; rw [if_neg h1, if_neg h2])
        exact ihi 1 hL
      · skip
        refine v_aload_n C 0 dM_isCovered_26 rfl rfl ?_
        refine v_get C (T := TcM) (N := 18) (ci := 2) (v := .ref (b 3)) inM_isCovered_M 0 rfl rfl 12 (by decide) (by decide +kernel) rfl rfl dM_isCovered_27 ?_
        refine v_iload_n C 3 dM_isCovered_30 rfl rfl ?_
        refine v_iald C 3 0 (f := a 12) (y := (a 12) i) (j := i) rfl rfl (nI_clamp (by omega)) rfl (vp_in_nI (by omega) (by decide)) dM_isCovered_31 ?_
        refine v_iconst C (v := 1) dM_isCovered_32 (by decide) ?_
        refine v_icmp_eq C dM_isCovered_33 (tgt := 46) (by decide) (fun h3 => ?_) (fun h3 => ?_)
        · skip
          refine v_iconst C (v := 1) dM_isCovered_46 (by decide) ?_
          refine v_goto C dM_isCovered_47 (tgt := 51) (by decide) ?_
          refine v_istore_n C (lv' := [(0, .ref (b 0)), (1, .int x), (2, .int 1), (3, .int (nI i))]) [1, 2, 0, 3] dM_isCovered_51 rfl (by decide) rfl ?_
          refine v_iinc C (v := nI (i + 1)) (lv' := [(0, .ref (b 0)), (1, .int x), (2, .int 1), (3, .int (nI (i + 1)))]) 3 [1, 2, 3, 0] dM_isCovered_52 rfl (nI_1 i) (by decide) rfl ?_
          refine v_goto C dM_isCovered_55 (tgt := 4) (by decide) ?_
          have hL : mCoveredL F a n x ki (i + 1) 1 = mCoveredL F a n x n 0 1 := (by rw [← hIi]; simp only [mCoveredL]; rw [if_neg h1, if_pos h2, if_pos h3])
          exact ihi 1 hL
        · skip
          refine v_aload_n C 0 dM_isCovered_36 rfl rfl ?_
          refine v_get C (T := TcM) (N := 18) (ci := 2) (v := .ref (b 3)) inM_isCovered_M 0 rfl rfl 12 (by decide) (by decide +kernel) rfl rfl dM_isCovered_37 ?_
          refine v_iload_n C 3 dM_isCovered_40 rfl rfl ?_
          refine v_iald C 3 0 (f := a 12) (y := (a 12) i) (j := i) rfl rfl (nI_clamp (by omega)) rfl (vp_in_nI (by omega) (by decide)) dM_isCovered_41 ?_
          refine v_iconst C (v := 2) dM_isCovered_42 (by decide) ?_
          refine v_icmp_ne C dM_isCovered_43 (tgt := 50) (by decide) (fun h4 => ?_) (fun h4 => ?_)
          · skip
            refine v_iconst C (v := 0) dM_isCovered_50 (by decide) ?_
            refine v_istore_n C (lv' := [(0, .ref (b 0)), (1, .int x), (2, .int 0), (3, .int (nI i))]) [1, 2, 0, 3] dM_isCovered_51 rfl (by decide) rfl ?_
            refine v_iinc C (v := nI (i + 1)) (lv' := [(0, .ref (b 0)), (1, .int x), (2, .int 0), (3, .int (nI (i + 1)))]) 3 [1, 2, 3, 0] dM_isCovered_52 rfl (nI_1 i) (by decide) rfl ?_
            refine v_goto C dM_isCovered_55 (tgt := 4) (by decide) ?_
            have hL : mCoveredL F a n x ki (i + 1) 0 = mCoveredL F a n x n 0 1 := (by rw [← hIi]; simp only [mCoveredL]; rw [if_neg h1, if_pos h2, if_neg h3, if_neg h4])
            exact ihi 0 hL
          · skip
            refine v_iconst C (v := 1) dM_isCovered_46 (by decide) ?_
            refine v_goto C dM_isCovered_47 (tgt := 51) (by decide) ?_
            refine v_istore_n C (lv' := [(0, .ref (b 0)), (1, .int x), (2, .int 1), (3, .int (nI i))]) [1, 2, 0, 3] dM_isCovered_51 rfl (by decide) rfl ?_
            refine v_iinc C (v := nI (i + 1)) (lv' := [(0, .ref (b 0)), (1, .int x), (2, .int 1), (3, .int (nI (i + 1)))]) 3 [1, 2, 3, 0] dM_isCovered_52 rfl (nI_1 i) (by decide) rfl ?_
            refine v_goto C dM_isCovered_55 (tgt := 4) (by decide) ?_
            have hL : mCoveredL F a n x ki (i + 1) 1 = mCoveredL F a n x n 0 1 := (by rw [← hIi]; simp only [mCoveredL]; rw [if_neg h1, if_pos h2, if_neg h3, if_pos h4])
            exact ihi 1 hL
  · skip
    intro u hIi
    have hIi : mCoveredL F a n x 0 n u = mCoveredL F a n x n 0 1 := hIi
    refine v_as (w' := wM cI cZ b F a) (lv' := [(0, .ref (b 0)), (1, .int x), (2, .int u), (3, .int (nI n))]) rfl rfl ?_
    have hIi : u = mCoveredL F a n x n 0 1 := hIi
    subst hIi
    refine v_iload_n C 3 dM_isCovered_4 rfl rfl ?_
    refine v_aload_n C 0 dM_isCovered_5 rfl rfl ?_
    refine v_get C (T := TcM) (N := 18) (ci := 2) (v := .int (F 9)) inM_isCovered_M 0 rfl rfl 9 (by decide) (by decide +kernel) rfl rfl dM_isCovered_6 ?_
    refine v_top (y := nI n) hn ?_
    refine v_icmp_ge C dM_isCovered_9 (tgt := 58) (by decide) (fun _ => ?_) (fun h => absurd (nI_le (a := n) (b := n) (by omega) (by omega)) h)
    refine v_iload_n C 2 dM_isCovered_58 rfl rfl ?_
    exact v_zrr C hr (z01 (mCoveredL_z _ _ _ _ _ _ _ (Or.inr rfl))) (by unfold mCovered; rfl) dM_isCovered_59
set_option maxHeartbeats 4000000 in
set_option maxRecDepth 100000 in
theorem c_mShownBy (l : Launch) (D : va_G) (cI cZ cJ : ClassId) (b : Nat → Nat) (F : FT) (a : AT) (n : Nat) (x : Int32) (y : Int32) (row : Int32) (hn : F 9 = nI n) (hn4 : n ≤ 14) (hl : vp_in (mMember row (mMany row - 1)) 6) : Ki l yM_shownBy wM_shownBy ({ frames := 2, cells := 0, slots := 0, locals := 44 } : Room) D vwCl (tyG cI cZ cJ) [.ref (b 0), .int x, .int y, .int row] (wM cI cZ b F a) ((mShownBy F a n x y row).1) (wM cI cZ b F ((mShownBy F a n x y row).2)) := by
  intro sz
  refine v_ent (cc := bM_shownBy) (maxL := 6) (ret := (some .int)) (Qc := (fun A => va_Qi (fun (x9 : Int32) (_ : Unit) => x9 = (mShownBy F a n x y row).1) (fun _ => wB D vwCl (tyG cI cZ cJ) A (wM cI cZ b F ((mShownBy F a n x y row).2))) A)) (fr := (fun A => A)) (own := RcM) rfl (by decide) rfl (Nat.le_of_ble_eq_true rfl) rfl ?_
  intro p e s m args below meth c A C hr _
  refine v_free ?_
  refine v_iconst C (v := 0) dM_shownBy_0 (by decide) ?_
  refine v_istore C (lv' := [(0, .ref (b 0)), (1, .int x), (2, .int y), (3, .int row), (4, .int 0)]) [1, 2, 3, 4, 0] dM_shownBy_1 (by decide) rfl ?_
  refine v_iconst C (v := 0) dM_shownBy_3 (by decide) ?_
  refine v_istore C (lv' := [(0, .ref (b 0)), (1, .int x), (2, .int y), (3, .int row), (4, .int 0), (5, .int 0)]) [1, 2, 3, 4, 5, 0] dM_shownBy_4 (by decide) rfl ?_
  refine v_loop2 n (fun (i : Nat) (d : Int32) (a1 : AT) => wM cI cZ b F a1) (fun (i : Nat) (d : Int32) (a1 : AT) => [(0, .ref (b 0)), (1, .int x), (2, .int y), (3, .int row), (4, .int d), (5, .int (nI i))]) (fun (ki i : Nat) (d : Int32) (a1 : AT) => mShownByL F n x y row ki i d a1 = mShownByL F n x y row n 0 0 a) ?_ ?_ n 0 0 a (by omega) rfl
  · skip
    intro ki i d a1 hki hIi ihi
    have hIi : mShownByL F n x y row (ki + 1) i d a1 = mShownByL F n x y row n 0 0 a := hIi
    refine v_as (w' := wM cI cZ b F a1) (lv' := [(0, .ref (b 0)), (1, .int x), (2, .int y), (3, .int row), (4, .int d), (5, .int (nI i))]) rfl rfl ?_
    refine v_iload C 5 dM_shownBy_6 rfl ?_
    refine v_aload_n C 0 dM_shownBy_8 rfl rfl ?_
    refine v_get C (T := TcM) (N := 18) (ci := 2) (v := .int (F 9)) inM_shownBy_M 0 rfl rfl 9 (by decide) (by decide +kernel) rfl rfl dM_shownBy_9 ?_
    refine v_top (y := nI n) hn ?_
    refine v_icmp_ge C dM_shownBy_12 (tgt := 83) (by decide) (fun h => absurd h (nI_ge (a := i) (b := n) (by omega) (by omega))) (fun _ => ?_)
    refine v_aload_n C 0 dM_shownBy_15 rfl rfl ?_
    refine v_get C (T := TcM) (N := 18) (ci := 2) (v := .ref (b 2)) inM_shownBy_M 0 rfl rfl 11 (by decide) (by decide +kernel) rfl rfl dM_shownBy_16 ?_
    refine v_iload C 5 dM_shownBy_19 rfl ?_
    refine v_iald C 2 0 (f := a1 11) (y := (a1 11) i) (j := i) rfl rfl (nI_clamp (by omega)) rfl (vp_in_nI (by omega) (by decide)) dM_shownBy_21 ?_
    refine v_iload_n C 1 dM_shownBy_22 rfl rfl ?_
    refine v_icmp_ne C dM_shownBy_23 (tgt := 77) (by decide) (fun h1 => ?_) (fun h1 => ?_)
    · skip
      refine v_iinc C (v := nI (i + 1)) (lv' := [(0, .ref (b 0)), (1, .int x), (2, .int y), (3, .int row), (4, .int d), (5, .int (nI (i + 1)))]) 5 [1, 2, 3, 4, 5, 0] dM_shownBy_77 rfl (nI_1 i) (by decide) rfl ?_
      refine v_goto C dM_shownBy_80 (tgt := 6) (by decide) ?_
      have hL : mShownByL F n x y row ki (i + 1) d a1 = mShownByL F n x y row n 0 0 a := (by rw [← hIi]; simp only [mShownByL]; rw [if_neg h1])
      exact ihi d a1 hL
    · skip
      refine v_aload_n C 0 dM_shownBy_26 rfl rfl ?_
      refine v_get C (T := TcM) (N := 18) (ci := 2) (v := .ref (b 3)) inM_shownBy_M 0 rfl rfl 12 (by decide) (by decide +kernel) rfl rfl dM_shownBy_27 ?_
      refine v_iload C 5 dM_shownBy_30 rfl ?_
      refine v_iald C 3 0 (f := a1 12) (y := (a1 12) i) (j := i) rfl rfl (nI_clamp (by omega)) rfl (vp_in_nI (by omega) (by decide)) dM_shownBy_32 ?_
      refine v_iconst C (v := 1) dM_shownBy_33 (by decide) ?_
      refine v_icmp_ne C dM_shownBy_34 (tgt := 77) (by decide) (fun h2 => ?_) (fun h2 => ?_)
      · skip
        refine v_iinc C (v := nI (i + 1)) (lv' := [(0, .ref (b 0)), (1, .int x), (2, .int y), (3, .int row), (4, .int d), (5, .int (nI (i + 1)))]) 5 [1, 2, 3, 4, 5, 0] dM_shownBy_77 rfl (nI_1 i) (by decide) rfl ?_
        refine v_goto C dM_shownBy_80 (tgt := 6) (by decide) ?_
        have hL : mShownByL F n x y row ki (i + 1) d a1 = mShownByL F n x y row n 0 0 a := (by rw [← hIi]; simp only [mShownByL]; rw [if_pos h1, if_neg h2])
        exact ihi d a1 hL
      · skip
        refine v_aload_n C 0 dM_shownBy_37 rfl rfl ?_
        refine v_get C (T := TcM) (N := 18) (ci := 2) (v := .ref (b 4)) inM_shownBy_M 0 rfl rfl 13 (by decide) (by decide +kernel) rfl rfl dM_shownBy_38 ?_
        refine v_iload C 5 dM_shownBy_41 rfl ?_
        refine v_iald C 4 0 (f := a1 13) (y := (a1 13) i) (j := i) rfl rfl (nI_clamp (by omega)) rfl (vp_in_nI (by omega) (by decide)) dM_shownBy_43 ?_
        refine v_iload_n C 2 dM_shownBy_44 rfl rfl ?_
        refine v_cSr0 (As := [.int ((a1 13) i), .int y]) C (c_mHas l D cI cZ cJ ((a1 13) i) y) (va_cwS 2 C.2.2.2.2.1 gM_shownBy_M_has rfl rfl rfl (by decide +kernel) ⟨Nat.le_of_ble_eq_true rfl, Nat.le_of_ble_eq_true rfl⟩) rfl rfl (Nat.le_of_ble_eq_true rfl) ⟨Nat.zero_le _, Nat.zero_le _⟩ dM_shownBy_45 ?_
        refine v_if_ne C dM_shownBy_48 (tgt := 77) (by decide) (fun h3 => ?_) (fun h3 => ?_)
        · skip
          refine v_iinc C (v := nI (i + 1)) (lv' := [(0, .ref (b 0)), (1, .int x), (2, .int y), (3, .int row), (4, .int d), (5, .int (nI (i + 1)))]) 5 [1, 2, 3, 4, 5, 0] dM_shownBy_77 rfl (nI_1 i) (by decide) rfl ?_
          refine v_goto C dM_shownBy_80 (tgt := 6) (by decide) ?_
          have hL : mShownByL F n x y row ki (i + 1) d a1 = mShownByL F n x y row n 0 0 a := (by rw [← hIi]; simp only [mShownByL]; rw [if_pos h1, if_pos h2, if_neg h3])
          exact ihi d a1 hL
        · skip
          refine v_aload_n C 0 dM_shownBy_51 rfl rfl ?_
          refine v_iload_n C 3 dM_shownBy_52 rfl rfl ?_
          refine v_cSr0 (As := [.int row]) C (c_mMany l D cI cZ cJ row) (va_cwS 1 C.2.2.2.2.1 gM_shownBy_M_many rfl rfl rfl (by decide +kernel) ⟨Nat.le_of_ble_eq_true rfl, Nat.le_of_ble_eq_true rfl⟩) rfl rfl (Nat.le_of_ble_eq_true rfl) ⟨Nat.zero_le _, Nat.zero_le _⟩ dM_shownBy_53 ?_
          refine v_iconst C (v := 1) dM_shownBy_56 (by decide) ?_
          refine v_isub C dM_shownBy_57 ?_
          refine v_cVrF (As := [.int ((mMany row) - (1 : Int32))]) C (c_mIsInTime l D cI cZ cJ b F a1 ((mMany row) - (1 : Int32))) (cwV 1 C.2.2.2.2.1 gM_shownBy_M_isInTime rfl rfl rfl (by decide +kernel) ⟨Nat.le_of_ble_eq_true rfl, Nat.le_of_ble_eq_true rfl⟩) 0 rfl (T := TcM) (N := 18) rfl rfl rfl (Nat.le_of_ble_eq_true rfl) ⟨Nat.zero_le _, Nat.zero_le _⟩ dM_shownBy_58 ?_
          refine v_if_ne C dM_shownBy_61 (tgt := 67) (by decide) (fun h4 => ?_) (fun h4 => ?_)
          · skip
            refine v_aload_n C 0 dM_shownBy_67 rfl rfl ?_
            refine v_iload C 5 dM_shownBy_68 rfl ?_
            refine v_iload_n C 3 dM_shownBy_70 rfl rfl ?_
            refine v_cVvF (As := [.int (nI i), .int row]) C (c_mUnlock l D cI cZ cJ b F a1 (nI i) row (vp_in_nI (by omega) (by decide)) (vp_key3 (by omega) hl)) (cwV 2 C.2.2.2.2.1 gM_shownBy_M_unlock rfl rfl rfl (by decide +kernel) ⟨Nat.le_of_ble_eq_true rfl, Nat.le_of_ble_eq_true rfl⟩) 0 rfl (T := TcM) (N := 18) rfl rfl rfl (Nat.le_of_ble_eq_true rfl) ⟨Nat.zero_le _, Nat.zero_le _⟩ dM_shownBy_71 ?_
            refine v_iinc C (v := d + 1) (lv' := [(0, .ref (b 0)), (1, .int x), (2, .int y), (3, .int row), (4, .int (d + 1)), (5, .int (nI i))]) 4 [1, 2, 3, 4, 0, 5] dM_shownBy_74 rfl rfl (by decide) rfl ?_
            refine v_iinc C (v := nI (i + 1)) (lv' := [(0, .ref (b 0)), (1, .int x), (2, .int y), (3, .int row), (4, .int (d + 1)), (5, .int (nI (i + 1)))]) 5 [1, 2, 3, 4, 5, 0] dM_shownBy_77 rfl (nI_1 i) (by decide) rfl ?_
            refine v_goto C dM_shownBy_80 (tgt := 6) (by decide) ?_
            have hL : mShownByL F n x y row ki (i + 1) (d + 1) (mUnlock F a1 (nI i) row) = mShownByL F n x y row n 0 0 a := (by rw [← hIi]; simp only [mShownByL]; rw [if_pos h1, if_pos h2, if_pos h3, if_neg h4])
            exact ihi (d + 1) (mUnlock F a1 (nI i) row) hL
          · skip
            refine v_goto C dM_shownBy_64 (tgt := 77) (by decide) ?_
            refine v_iinc C (v := nI (i + 1)) (lv' := [(0, .ref (b 0)), (1, .int x), (2, .int y), (3, .int row), (4, .int d), (5, .int (nI (i + 1)))]) 5 [1, 2, 3, 4, 5, 0] dM_shownBy_77 rfl (nI_1 i) (by decide) rfl ?_
            refine v_goto C dM_shownBy_80 (tgt := 6) (by decide) ?_
            have hL : mShownByL F n x y row ki (i + 1) d a1 = mShownByL F n x y row n 0 0 a := (by rw [← hIi]; simp only [mShownByL]; rw [if_pos h1, if_pos h2, if_pos h3, if_pos h4])
            exact ihi d a1 hL
  · skip
    intro d a1 hIi
    have hIi : mShownByL F n x y row 0 n d a1 = mShownByL F n x y row n 0 0 a := hIi
    refine v_as (w' := wM cI cZ b F a1) (lv' := [(0, .ref (b 0)), (1, .int x), (2, .int y), (3, .int row), (4, .int d), (5, .int (nI n))]) rfl rfl ?_
    obtain ⟨rfl, rfl⟩ : d = (mShownByL F n x y row n 0 0 a).1 ∧ a1 = (mShownByL F n x y row n 0 0 a).2 := by rw [← hIi]; exact ⟨rfl, rfl⟩
    refine v_iload C 5 dM_shownBy_6 rfl ?_
    refine v_aload_n C 0 dM_shownBy_8 rfl rfl ?_
    refine v_get C (T := TcM) (N := 18) (ci := 2) (v := .int (F 9)) inM_shownBy_M 0 rfl rfl 9 (by decide) (by decide +kernel) rfl rfl dM_shownBy_9 ?_
    refine v_top (y := nI n) hn ?_
    refine v_icmp_ge C dM_shownBy_12 (tgt := 83) (by decide) (fun _ => ?_) (fun h => absurd (nI_le (a := n) (b := n) (by omega) (by omega)) h)
    refine v_iload C 4 dM_shownBy_83 rfl ?_
    have hE : ((mShownByL F n x y row n 0 0 a).1, (mShownByL F n x y row n 0 0 a).2) = mShownBy F a n x y row := (by unfold mShownBy; rfl)
    exact v_iret C hr (by rw [← hE]) (by rw [← hE]) dM_shownBy_85
set_option maxHeartbeats 4000000 in
set_option maxRecDepth 100000 in
theorem c_mShortest (l : Launch) (D : va_G) (cI cZ cJ : ClassId) (b : Nat → Nat) (F : FT) (a : AT) (n : Nat) (x : Int32) (y : Int32) (hn : F 9 = nI n) (hn4 : n ≤ 14) (hl : vp_in y 6) (hK : ∀ j, j < 84 → RowM (a 14 j)) : Kr l yM_shortest wM_shortest ({ frames := 2, cells := 0, slots := 0, locals := 43 } : Room) D vwCl (tyG cI cZ cJ) [.ref (b 0), .int x, .int y] (wM cI cZ b F a) (mShortest F a n x y) := by
  intro sz
  refine v_ent (cc := bM_shortest) (maxL := 6) (ret := (some .int)) (Qc := (fun _ _ st oc t => oc = .returned (some (.int (mShortest F a n x y))) ∧ t.heap = st.heap)) (fr := (fun _ _ => False)) (own := RcM) rfl (by decide) rfl (Nat.le_of_ble_eq_true rfl) rfl ?_
  intro p e s m args below meth c A C hr _
  refine v_iconst C (v := 0) dM_shortest_0 (by decide) ?_
  refine v_istore_n C (lv' := [(0, .ref (b 0)), (1, .int x), (2, .int y), (3, .int 0)]) [1, 2, 3, 0] dM_shortest_1 rfl (by decide) rfl ?_
  refine v_iconst C (v := 0) dM_shortest_2 (by decide) ?_
  refine v_istore C (lv' := [(0, .ref (b 0)), (1, .int x), (2, .int y), (3, .int 0), (4, .int 0)]) [1, 2, 3, 4, 0] dM_shortest_3 (by decide) rfl ?_
  refine v_loop1 n (fun (i : Nat) (best : Int32) => wM cI cZ b F a) (fun (i : Nat) (best : Int32) => [(0, .ref (b 0)), (1, .int x), (2, .int y), (3, .int best), (4, .int (nI i))]) (fun (ki i : Nat) (best : Int32) => mShortestL F a n x y ki i best = mShortestL F a n x y n 0 0) ?_ ?_ n 0 0 (by omega) rfl
  · skip
    intro ki i best hki hIi ihi
    have hIi : mShortestL F a n x y (ki + 1) i best = mShortestL F a n x y n 0 0 := hIi
    refine v_as (w' := wM cI cZ b F a) (lv' := [(0, .ref (b 0)), (1, .int x), (2, .int y), (3, .int best), (4, .int (nI i))]) rfl rfl ?_
    refine v_iload C 4 dM_shortest_5 rfl ?_
    refine v_aload_n C 0 dM_shortest_7 rfl rfl ?_
    refine v_get C (T := TcM) (N := 18) (ci := 2) (v := .int (F 9)) inM_shortest_M 0 rfl rfl 9 (by decide) (by decide +kernel) rfl rfl dM_shortest_8 ?_
    refine v_top (y := nI n) hn ?_
    refine v_icmp_ge C dM_shortest_11 (tgt := 93) (by decide) (fun h => absurd h (nI_ge (a := i) (b := n) (by omega) (by omega))) (fun _ => ?_)
    refine v_aload_n C 0 dM_shortest_14 rfl rfl ?_
    refine v_get C (T := TcM) (N := 18) (ci := 2) (v := .ref (b 5)) inM_shortest_M 0 rfl rfl 14 (by decide) (by decide +kernel) rfl rfl dM_shortest_15 ?_
    refine v_bipush C (v := 6) dM_shortest_18 (by decide) ?_
    refine v_iload C 4 dM_shortest_20 rfl ?_
    refine v_imul C dM_shortest_22 ?_
    refine v_iload_n C 2 dM_shortest_23 rfl rfl ?_
    refine v_iadd C dM_shortest_24 ?_
    refine v_iald C 5 0 (f := a 14) (y := (a 14) ((((6 : Int32) * (nI i)) + y).toNatClampNeg)) (j := (((6 : Int32) * (nI i)) + y).toNatClampNeg) rfl rfl rfl rfl (vp_key3 (by omega) hl) dM_shortest_25 ?_
    refine v_istore C (lv' := [(0, .ref (b 0)), (1, .int x), (2, .int y), (3, .int best), (4, .int (nI i)), (5, .int ((a 14) ((((6 : Int32) * (nI i)) + y).toNatClampNeg)))]) [1, 2, 3, 4, 5, 0] dM_shortest_26 (by decide) rfl ?_
    refine v_aload_n C 0 dM_shortest_28 rfl rfl ?_
    refine v_get C (T := TcM) (N := 18) (ci := 2) (v := .ref (b 1)) inM_shortest_M 0 rfl rfl 10 (by decide) (by decide +kernel) rfl rfl dM_shortest_29 ?_
    refine v_iload C 4 dM_shortest_32 rfl ?_
    refine v_iald C 1 0 (f := a 10) (y := (a 10) i) (j := i) rfl rfl (nI_clamp (by omega)) rfl (vp_in_nI (by omega) (by decide)) dM_shortest_34 ?_
    refine v_iload_n C 1 dM_shortest_35 rfl rfl ?_
    refine v_icmp_ne C dM_shortest_36 (tgt := 87) (by decide) (fun h1 => ?_) (fun h1 => ?_)
    · skip
      refine v_iinc C (v := nI (i + 1)) (lv' := [(0, .ref (b 0)), (1, .int x), (2, .int y), (3, .int best), (4, .int (nI (i + 1))), (5, .int ((a 14) ((((6 : Int32) * (nI i)) + y).toNatClampNeg)))]) 4 [1, 2, 3, 4, 0, 5] dM_shortest_87 rfl (nI_1 i) (by decide) rfl ?_
      refine v_goto C dM_shortest_90 (tgt := 5) (by decide) ?_
      refine v_loc (lv' := [(0, .ref (b 0)), (1, .int x), (2, .int y), (3, .int best), (4, .int (nI (i + 1)))]) [0, 1, 2, 3, 4] rfl ?_
      have hL : mShortestL F a n x y ki (i + 1) best = mShortestL F a n x y n 0 0 := (by rw [← hIi]; simp only [mShortestL]; rw [if_neg h1])
      exact ihi best hL
    · skip
      refine v_aload_n C 0 dM_shortest_39 rfl rfl ?_
      refine v_get C (T := TcM) (N := 18) (ci := 2) (v := .ref (b 4)) inM_shortest_M 0 rfl rfl 13 (by decide) (by decide +kernel) rfl rfl dM_shortest_40 ?_
      refine v_iload C 4 dM_shortest_43 rfl ?_
      refine v_iald C 4 0 (f := a 13) (y := (a 13) i) (j := i) rfl rfl (nI_clamp (by omega)) rfl (vp_in_nI (by omega) (by decide)) dM_shortest_45 ?_
      refine v_iload_n C 2 dM_shortest_46 rfl rfl ?_
      refine v_cSr0 (As := [.int ((a 13) i), .int y]) C (c_mHas l D cI cZ cJ ((a 13) i) y) (va_cwS 2 C.2.2.2.2.1 gM_shortest_M_has rfl rfl rfl (by decide +kernel) ⟨Nat.le_of_ble_eq_true rfl, Nat.le_of_ble_eq_true rfl⟩) rfl rfl (Nat.le_of_ble_eq_true rfl) ⟨Nat.zero_le _, Nat.zero_le _⟩ dM_shortest_47 ?_
      refine v_if_eq C dM_shortest_50 (tgt := 87) (by decide) (fun h2 => ?_) (fun h2 => ?_)
      · skip
        refine v_iinc C (v := nI (i + 1)) (lv' := [(0, .ref (b 0)), (1, .int x), (2, .int y), (3, .int best), (4, .int (nI (i + 1))), (5, .int ((a 14) ((((6 : Int32) * (nI i)) + y).toNatClampNeg)))]) 4 [1, 2, 3, 4, 0, 5] dM_shortest_87 rfl (nI_1 i) (by decide) rfl ?_
        refine v_goto C dM_shortest_90 (tgt := 5) (by decide) ?_
        refine v_loc (lv' := [(0, .ref (b 0)), (1, .int x), (2, .int y), (3, .int best), (4, .int (nI (i + 1)))]) [0, 1, 2, 3, 4] rfl ?_
        have hL : mShortestL F a n x y ki (i + 1) best = mShortestL F a n x y n 0 0 := (by rw [← hIi]; simp only [mShortestL]; rw [if_pos h1, if_pos h2])
        exact ihi best hL
      · skip
        refine v_iload C 5 dM_shortest_53 rfl ?_
        refine v_cSr0 (As := [.int ((a 14) ((((6 : Int32) * (nI i)) + y).toNatClampNeg))]) C (c_mMembers l D cI cZ cJ ((mMany ((a 14) ((((6 : Int32) * (nI i)) + y).toNatClampNeg))).toNatClampNeg) ((a 14) ((((6 : Int32) * (nI i)) + y).toNatClampNeg)) (hK _ (vp_lt (vp_key3 (by omega) hl))).1 (hK _ (vp_lt (vp_key3 (by omega) hl))).2) (va_cwS 1 C.2.2.2.2.1 gM_shortest_M_members rfl rfl rfl (by decide +kernel) ⟨Nat.le_of_ble_eq_true rfl, Nat.le_of_ble_eq_true rfl⟩) rfl rfl (Nat.le_of_ble_eq_true rfl) ⟨Nat.zero_le _, Nat.zero_le _⟩ dM_shortest_55 ?_
        refine v_iload_n C 1 dM_shortest_58 rfl rfl ?_
        refine v_cSr0 (As := [.int (mMembers ((mMany ((a 14) ((((6 : Int32) * (nI i)) + y).toNatClampNeg))).toNatClampNeg) ((a 14) ((((6 : Int32) * (nI i)) + y).toNatClampNeg))), .int x]) C (c_mHas l D cI cZ cJ (mMembers ((mMany ((a 14) ((((6 : Int32) * (nI i)) + y).toNatClampNeg))).toNatClampNeg) ((a 14) ((((6 : Int32) * (nI i)) + y).toNatClampNeg))) x) (va_cwS 2 C.2.2.2.2.1 gM_shortest_M_has rfl rfl rfl (by decide +kernel) ⟨Nat.le_of_ble_eq_true rfl, Nat.le_of_ble_eq_true rfl⟩) rfl rfl (Nat.le_of_ble_eq_true rfl) ⟨Nat.zero_le _, Nat.zero_le _⟩ dM_shortest_59 ?_
        refine v_if_eq C dM_shortest_62 (tgt := 68) (by decide) (fun h3 => ?_) (fun h3 => ?_)
        · skip
          refine v_iload_n C 3 dM_shortest_68 rfl rfl ?_
          refine v_if_eq C dM_shortest_69 (tgt := 84) (by decide) (fun h4 => ?_) (fun h4 => ?_)
          · skip
            refine v_iload C 5 dM_shortest_84 rfl ?_
            refine v_istore_n C (lv' := [(0, .ref (b 0)), (1, .int x), (2, .int y), (3, .int ((a 14) ((((6 : Int32) * (nI i)) + y).toNatClampNeg))), (4, .int (nI i)), (5, .int ((a 14) ((((6 : Int32) * (nI i)) + y).toNatClampNeg)))]) [1, 2, 3, 0, 4, 5] dM_shortest_86 rfl (by decide) rfl ?_
            refine v_iinc C (v := nI (i + 1)) (lv' := [(0, .ref (b 0)), (1, .int x), (2, .int y), (3, .int ((a 14) ((((6 : Int32) * (nI i)) + y).toNatClampNeg))), (4, .int (nI (i + 1))), (5, .int ((a 14) ((((6 : Int32) * (nI i)) + y).toNatClampNeg)))]) 4 [1, 2, 3, 4, 0, 5] dM_shortest_87 rfl (nI_1 i) (by decide) rfl ?_
            refine v_goto C dM_shortest_90 (tgt := 5) (by decide) ?_
            refine v_loc (lv' := [(0, .ref (b 0)), (1, .int x), (2, .int y), (3, .int ((a 14) ((((6 : Int32) * (nI i)) + y).toNatClampNeg))), (4, .int (nI (i + 1)))]) [0, 1, 2, 3, 4] rfl ?_
            have hL : mShortestL F a n x y ki (i + 1) ((a 14) ((((6 : Int32) * (nI i)) + y).toNatClampNeg)) = mShortestL F a n x y n 0 0 := (by rw [← hIi]; simp only [mShortestL]; rw [if_pos h1, if_neg h2, if_pos h3, if_pos h4])
            exact ihi ((a 14) ((((6 : Int32) * (nI i)) + y).toNatClampNeg)) hL
          · skip
            refine v_iload C 5 dM_shortest_72 rfl ?_
            refine v_cSr0 (As := [.int ((a 14) ((((6 : Int32) * (nI i)) + y).toNatClampNeg))]) C (c_mMany l D cI cZ cJ ((a 14) ((((6 : Int32) * (nI i)) + y).toNatClampNeg))) (va_cwS 1 C.2.2.2.2.1 gM_shortest_M_many rfl rfl rfl (by decide +kernel) ⟨Nat.le_of_ble_eq_true rfl, Nat.le_of_ble_eq_true rfl⟩) rfl rfl (Nat.le_of_ble_eq_true rfl) ⟨Nat.zero_le _, Nat.zero_le _⟩ dM_shortest_74 ?_
            refine v_iload_n C 3 dM_shortest_77 rfl rfl ?_
            refine v_cSr0 (As := [.int best]) C (c_mMany l D cI cZ cJ best) (va_cwS 1 C.2.2.2.2.1 gM_shortest_M_many rfl rfl rfl (by decide +kernel) ⟨Nat.le_of_ble_eq_true rfl, Nat.le_of_ble_eq_true rfl⟩) rfl rfl (Nat.le_of_ble_eq_true rfl) ⟨Nat.zero_le _, Nat.zero_le _⟩ dM_shortest_78 ?_
            refine v_icmp_ge C dM_shortest_81 (tgt := 87) (by decide) (fun h5 => ?_) (fun h5 => ?_)
            · skip
              refine v_iinc C (v := nI (i + 1)) (lv' := [(0, .ref (b 0)), (1, .int x), (2, .int y), (3, .int best), (4, .int (nI (i + 1))), (5, .int ((a 14) ((((6 : Int32) * (nI i)) + y).toNatClampNeg)))]) 4 [1, 2, 3, 4, 0, 5] dM_shortest_87 rfl (nI_1 i) (by decide) rfl ?_
              refine v_goto C dM_shortest_90 (tgt := 5) (by decide) ?_
              refine v_loc (lv' := [(0, .ref (b 0)), (1, .int x), (2, .int y), (3, .int best), (4, .int (nI (i + 1)))]) [0, 1, 2, 3, 4] rfl ?_
              have hL : mShortestL F a n x y ki (i + 1) best = mShortestL F a n x y n 0 0 := (by rw [← hIi]; simp only [mShortestL]; rw [if_pos h1, if_neg h2, if_pos h3, if_neg h4, if_pos h5])
              exact ihi best hL
            · skip
              refine v_iload C 5 dM_shortest_84 rfl ?_
              refine v_istore_n C (lv' := [(0, .ref (b 0)), (1, .int x), (2, .int y), (3, .int ((a 14) ((((6 : Int32) * (nI i)) + y).toNatClampNeg))), (4, .int (nI i)), (5, .int ((a 14) ((((6 : Int32) * (nI i)) + y).toNatClampNeg)))]) [1, 2, 3, 0, 4, 5] dM_shortest_86 rfl (by decide) rfl ?_
              refine v_iinc C (v := nI (i + 1)) (lv' := [(0, .ref (b 0)), (1, .int x), (2, .int y), (3, .int ((a 14) ((((6 : Int32) * (nI i)) + y).toNatClampNeg))), (4, .int (nI (i + 1))), (5, .int ((a 14) ((((6 : Int32) * (nI i)) + y).toNatClampNeg)))]) 4 [1, 2, 3, 4, 0, 5] dM_shortest_87 rfl (nI_1 i) (by decide) rfl ?_
              refine v_goto C dM_shortest_90 (tgt := 5) (by decide) ?_
              refine v_loc (lv' := [(0, .ref (b 0)), (1, .int x), (2, .int y), (3, .int ((a 14) ((((6 : Int32) * (nI i)) + y).toNatClampNeg))), (4, .int (nI (i + 1)))]) [0, 1, 2, 3, 4] rfl ?_
              have hL : mShortestL F a n x y ki (i + 1) ((a 14) ((((6 : Int32) * (nI i)) + y).toNatClampNeg)) = mShortestL F a n x y n 0 0 := (by rw [← hIi]; simp only [mShortestL]; rw [if_pos h1, if_neg h2, if_pos h3, if_neg h4, if_neg h5])
              exact ihi ((a 14) ((((6 : Int32) * (nI i)) + y).toNatClampNeg)) hL
        · skip
          refine v_goto C dM_shortest_65 (tgt := 87) (by decide) ?_
          refine v_iinc C (v := nI (i + 1)) (lv' := [(0, .ref (b 0)), (1, .int x), (2, .int y), (3, .int best), (4, .int (nI (i + 1))), (5, .int ((a 14) ((((6 : Int32) * (nI i)) + y).toNatClampNeg)))]) 4 [1, 2, 3, 4, 0, 5] dM_shortest_87 rfl (nI_1 i) (by decide) rfl ?_
          refine v_goto C dM_shortest_90 (tgt := 5) (by decide) ?_
          refine v_loc (lv' := [(0, .ref (b 0)), (1, .int x), (2, .int y), (3, .int best), (4, .int (nI (i + 1)))]) [0, 1, 2, 3, 4] rfl ?_
          have hL : mShortestL F a n x y ki (i + 1) best = mShortestL F a n x y n 0 0 := (by rw [← hIi]; simp only [mShortestL]; rw [if_pos h1, if_neg h2, if_neg h3])
          exact ihi best hL
  · skip
    intro best hIi
    have hIi : mShortestL F a n x y 0 n best = mShortestL F a n x y n 0 0 := hIi
    refine v_as (w' := wM cI cZ b F a) (lv' := [(0, .ref (b 0)), (1, .int x), (2, .int y), (3, .int best), (4, .int (nI n))]) rfl rfl ?_
    have hIi : best = mShortestL F a n x y n 0 0 := hIi
    subst hIi
    refine v_iload C 4 dM_shortest_5 rfl ?_
    refine v_aload_n C 0 dM_shortest_7 rfl rfl ?_
    refine v_get C (T := TcM) (N := 18) (ci := 2) (v := .int (F 9)) inM_shortest_M 0 rfl rfl 9 (by decide) (by decide +kernel) rfl rfl dM_shortest_8 ?_
    refine v_top (y := nI n) hn ?_
    refine v_icmp_ge C dM_shortest_11 (tgt := 93) (by decide) (fun _ => ?_) (fun h => absurd (nI_le (a := n) (b := n) (by omega) (by omega)) h)
    refine v_iload_n C 3 dM_shortest_93 rfl rfl ?_
    exact v_irr C hr (by unfold mShortest; rfl) dM_shortest_94

set_option maxHeartbeats 4000000 in
set_option maxRecDepth 100000 in
theorem c_mReached (l : Launch) (D : va_G) (cI cZ cJ : ClassId) (b : Nat → Nat) (F : FT) (a : AT) (P : Nat) (x : Int32) (hp : F 0 = nI P) (hp6 : P ≤ 6) : Kr l yM_reached wM_reached ({ frames := 1, cells := 0, slots := 0, locals := 21 } : Room) D vwCl (tyG cI cZ cJ) [.ref (b 0), .int x] (wM cI cZ b F a) (mReached F a P x) := by
  intro sz
  refine v_ent (cc := bM_reached) (maxL := 5) (ret := (some .int)) (Qc := (fun _ _ st oc t => oc = .returned (some (.int (mReached F a P x))) ∧ t.heap = st.heap)) (fr := (fun _ _ => False)) (own := RcM) rfl (by decide) rfl (Nat.le_of_ble_eq_true rfl) rfl ?_
  intro p e s m args below meth c A C hr _
  refine v_iconst C (v := 1) dM_reached_0 (by decide) ?_
  refine v_iload_n C 1 dM_reached_1 rfl rfl ?_
  refine v_ishl C dM_reached_2 ?_
  refine v_istore_n C (lv' := [(0, .ref (b 0)), (1, .int x), (2, .int ((1 : Int32) <<< (x &&& 31)))]) [1, 2, 0] dM_reached_3 rfl (by decide) rfl ?_
  refine v_iconst C (v := 0) dM_reached_4 (by decide) ?_
  refine v_istore_n C (lv' := [(0, .ref (b 0)), (1, .int x), (2, .int ((1 : Int32) <<< (x &&& 31))), (3, .int 0)]) [1, 2, 3, 0] dM_reached_5 rfl (by decide) rfl ?_
  refine v_loop1 P (fun (r : Nat) (u : Int32) => wM cI cZ b F a) (fun (r : Nat) (u : Int32) => [(0, .ref (b 0)), (1, .int x), (2, .int u), (3, .int (nI r))]) (fun (kr r : Nat) (u : Int32) => mReachedL F a P x kr r u = mReachedL F a P x P 0 ((1 : Int32) <<< (x &&& 31))) ?_ ?_ P 0 ((1 : Int32) <<< (x &&& 31)) (by omega) rfl
  · skip
    intro kr r u hkr hIr ihr
    have hIr : mReachedL F a P x (kr + 1) r u = mReachedL F a P x P 0 ((1 : Int32) <<< (x &&& 31)) := hIr
    refine v_as (w' := wM cI cZ b F a) (lv' := [(0, .ref (b 0)), (1, .int x), (2, .int u), (3, .int (nI r))]) rfl rfl ?_
    refine v_iload_n C 3 dM_reached_6 rfl rfl ?_
    refine v_aload_n C 0 dM_reached_7 rfl rfl ?_
    refine v_get C (T := TcM) (N := 18) (ci := 2) (v := .int (F 0)) inM_reached_M 0 rfl rfl 0 (by decide) (by decide +kernel) rfl rfl dM_reached_8 ?_
    refine v_top (y := nI P) hp ?_
    refine v_icmp_ge C dM_reached_11 (tgt := 57) (by decide) (fun h => absurd h (nI_ge (a := r) (b := P) (by omega) (by omega))) (fun _ => ?_)
    refine v_iconst C (v := 0) dM_reached_14 (by decide) ?_
    refine v_istore C (lv' := [(0, .ref (b 0)), (1, .int x), (2, .int u), (3, .int (nI r)), (4, .int 0)]) [1, 2, 3, 4, 0] dM_reached_15 (by decide) rfl ?_
    refine v_loop1 P (fun (qq : Nat) (v : Int32) => wM cI cZ b F a) (fun (qq : Nat) (v : Int32) => [(0, .ref (b 0)), (1, .int x), (2, .int v), (3, .int (nI r)), (4, .int (nI qq))]) (fun (kqq qq : Nat) (v : Int32) => mReachedI F a P x kqq qq v = mReachedI F a P x P 0 u) ?_ ?_ P 0 u (by omega) rfl
    · skip
      intro kqq qq v hkqq hIqq ihqq
      have hIqq : mReachedI F a P x (kqq + 1) qq v = mReachedI F a P x P 0 u := hIqq
      refine v_as (w' := wM cI cZ b F a) (lv' := [(0, .ref (b 0)), (1, .int x), (2, .int v), (3, .int (nI r)), (4, .int (nI qq))]) rfl rfl ?_
      refine v_iload C 4 dM_reached_17 rfl ?_
      refine v_aload_n C 0 dM_reached_19 rfl rfl ?_
      refine v_get C (T := TcM) (N := 18) (ci := 2) (v := .int (F 0)) inM_reached_M 0 rfl rfl 0 (by decide) (by decide +kernel) rfl rfl dM_reached_20 ?_
      refine v_top (y := nI P) hp ?_
      refine v_icmp_ge C dM_reached_23 (tgt := 51) (by decide) (fun h => absurd h (nI_ge (a := qq) (b := P) (by omega) (by omega))) (fun _ => ?_)
      refine v_iload_n C 2 dM_reached_26 rfl rfl ?_
      refine v_iload C 4 dM_reached_27 rfl ?_
      refine v_cSr0 (As := [.int v, .int (nI qq)]) C (c_mHas l D cI cZ cJ v (nI qq)) (va_cwS 2 C.2.2.2.2.1 gM_reached_M_has rfl rfl rfl (by decide +kernel) ⟨Nat.le_of_ble_eq_true rfl, Nat.le_of_ble_eq_true rfl⟩) rfl rfl (Nat.le_of_ble_eq_true rfl) ⟨Nat.zero_le _, Nat.zero_le _⟩ dM_reached_29 ?_
      refine v_if_eq C dM_reached_32 (tgt := 45) (by decide) (fun h1 => ?_) (fun h1 => ?_)
      · skip
        refine v_iinc C (v := nI (qq + 1)) (lv' := [(0, .ref (b 0)), (1, .int x), (2, .int v), (3, .int (nI r)), (4, .int (nI (qq + 1)))]) 4 [1, 2, 3, 4, 0] dM_reached_45 rfl (nI_1 qq) (by decide) rfl ?_
        refine v_goto C dM_reached_48 (tgt := 17) (by decide) ?_
        have hL : mReachedI F a P x kqq (qq + 1) v = mReachedI F a P x P 0 u := (by rw [← hIqq]; simp only [mReachedI]; rw [if_pos h1])
        exact ihqq v hL
      · skip
        refine v_iload_n C 2 dM_reached_35 rfl rfl ?_
        refine v_aload_n C 0 dM_reached_36 rfl rfl ?_
        refine v_get C (T := TcM) (N := 18) (ci := 2) (v := .ref (b 6)) inM_reached_M 0 rfl rfl 15 (by decide) (by decide +kernel) rfl rfl dM_reached_37 ?_
        refine v_iload C 4 dM_reached_40 rfl ?_
        refine v_iald C 6 0 (f := a 15) (y := (a 15) qq) (j := qq) rfl rfl (nI_clamp (by omega)) rfl (vp_in_nI (by omega) (by decide)) dM_reached_42 ?_
        refine v_ior C dM_reached_43 ?_
        refine v_istore_n C (lv' := [(0, .ref (b 0)), (1, .int x), (2, .int (v ||| ((a 15) qq))), (3, .int (nI r)), (4, .int (nI qq))]) [1, 2, 0, 3, 4] dM_reached_44 rfl (by decide) rfl ?_
        refine v_iinc C (v := nI (qq + 1)) (lv' := [(0, .ref (b 0)), (1, .int x), (2, .int (v ||| ((a 15) qq))), (3, .int (nI r)), (4, .int (nI (qq + 1)))]) 4 [1, 2, 3, 4, 0] dM_reached_45 rfl (nI_1 qq) (by decide) rfl ?_
        refine v_goto C dM_reached_48 (tgt := 17) (by decide) ?_
        have hL : mReachedI F a P x kqq (qq + 1) (v ||| ((a 15) qq)) = mReachedI F a P x P 0 u := (by rw [← hIqq]; simp only [mReachedI]; rw [if_neg h1])
        exact ihqq (v ||| ((a 15) qq)) hL
    · skip
      intro v hIqq
      have hIqq : mReachedI F a P x 0 P v = mReachedI F a P x P 0 u := hIqq
      refine v_as (w' := wM cI cZ b F a) (lv' := [(0, .ref (b 0)), (1, .int x), (2, .int v), (3, .int (nI r)), (4, .int (nI P))]) rfl rfl ?_
      have hIqq : v = mReachedI F a P x P 0 u := hIqq
      subst hIqq
      refine v_iload C 4 dM_reached_17 rfl ?_
      refine v_aload_n C 0 dM_reached_19 rfl rfl ?_
      refine v_get C (T := TcM) (N := 18) (ci := 2) (v := .int (F 0)) inM_reached_M 0 rfl rfl 0 (by decide) (by decide +kernel) rfl rfl dM_reached_20 ?_
      refine v_top (y := nI P) hp ?_
      refine v_icmp_ge C dM_reached_23 (tgt := 51) (by decide) (fun _ => ?_) (fun h => absurd (nI_le (a := P) (b := P) (by omega) (by omega)) h)
      refine v_iinc C (v := nI (r + 1)) (lv' := [(0, .ref (b 0)), (1, .int x), (2, .int (mReachedI F a P x P 0 u)), (3, .int (nI (r + 1))), (4, .int (nI P))]) 3 [1, 2, 3, 0, 4] dM_reached_51 rfl (nI_1 r) (by decide) rfl ?_
      refine v_goto C dM_reached_54 (tgt := 6) (by decide) ?_
      refine v_loc (lv' := [(0, .ref (b 0)), (1, .int x), (2, .int (mReachedI F a P x P 0 u)), (3, .int (nI (r + 1)))]) [0, 1, 2, 3] rfl ?_
      have hL : mReachedL F a P x kr (r + 1) (mReachedI F a P x P 0 u) = mReachedL F a P x P 0 ((1 : Int32) <<< (x &&& 31)) := (by rw [← hIr]; simp only [mReachedL])
      exact ihr (mReachedI F a P x P 0 u) hL
  · skip
    intro u hIr
    have hIr : mReachedL F a P x 0 P u = mReachedL F a P x P 0 ((1 : Int32) <<< (x &&& 31)) := hIr
    refine v_as (w' := wM cI cZ b F a) (lv' := [(0, .ref (b 0)), (1, .int x), (2, .int u), (3, .int (nI P))]) rfl rfl ?_
    have hIr : u = mReachedL F a P x P 0 ((1 : Int32) <<< (x &&& 31)) := hIr
    subst hIr
    refine v_iload_n C 3 dM_reached_6 rfl rfl ?_
    refine v_aload_n C 0 dM_reached_7 rfl rfl ?_
    refine v_get C (T := TcM) (N := 18) (ci := 2) (v := .int (F 0)) inM_reached_M 0 rfl rfl 0 (by decide) (by decide +kernel) rfl rfl dM_reached_8 ?_
    refine v_top (y := nI P) hp ?_
    refine v_icmp_ge C dM_reached_11 (tgt := 57) (by decide) (fun _ => ?_) (fun h => absurd (nI_le (a := P) (b := P) (by omega) (by omega)) h)
    refine v_iload_n C 2 dM_reached_57 rfl rfl ?_
    exact v_irr C hr (by unfold mReached; rfl) dM_reached_58
set_option maxHeartbeats 4000000 in
set_option maxRecDepth 100000 in
theorem c_mIsOpen (l : Launch) (D : va_G) (cI cZ cJ : ClassId) (b : Nat → Nat) (F : FT) (a : AT) (P : Nat) (x : Int32) (hp : F 0 = nI P) (hp6 : P ≤ 6) : Kr l yM_isOpen wM_isOpen ({ frames := 1, cells := 0, slots := 0, locals := 21 } : Room) D vwCl (tyG cI cZ cJ) [.ref (b 0), .int x] (wM cI cZ b F a) (mIsOpen F a P x) := by
  intro sz
  refine v_ent (cc := bM_isOpen) (maxL := 5) (ret := (some .boolean)) (Qc := (fun _ _ st oc t => oc = .returned (some (.int (mIsOpen F a P x))) ∧ t.heap = st.heap)) (fr := (fun _ _ => False)) (own := RcM) rfl (by decide) rfl (Nat.le_of_ble_eq_true rfl) rfl ?_
  intro p e s m args below meth c A C hr _
  refine v_iload_n C 1 dM_isOpen_0 rfl rfl ?_
  refine v_istore_n C (lv' := [(0, .ref (b 0)), (1, .int x), (2, .int x)]) [1, 2, 0] dM_isOpen_1 rfl (by decide) rfl ?_
  refine v_iconst C (v := 0) dM_isOpen_2 (by decide) ?_
  refine v_istore_n C (lv' := [(0, .ref (b 0)), (1, .int x), (2, .int x), (3, .int 0)]) [1, 2, 3, 0] dM_isOpen_3 rfl (by decide) rfl ?_
  refine v_loop1 P (fun (r : Nat) (u : Int32) => wM cI cZ b F a) (fun (r : Nat) (u : Int32) => [(0, .ref (b 0)), (1, .int x), (2, .int u), (3, .int (nI r))]) (fun (kr r : Nat) (u : Int32) => mIsOpenL F a P x kr r u = mIsOpenL F a P x P 0 x) ?_ ?_ P 0 x (by omega) rfl
  · skip
    intro kr r u hkr hIr ihr
    have hIr : mIsOpenL F a P x (kr + 1) r u = mIsOpenL F a P x P 0 x := hIr
    refine v_as (w' := wM cI cZ b F a) (lv' := [(0, .ref (b 0)), (1, .int x), (2, .int u), (3, .int (nI r))]) rfl rfl ?_
    refine v_iload_n C 3 dM_isOpen_4 rfl rfl ?_
    refine v_aload_n C 0 dM_isOpen_5 rfl rfl ?_
    refine v_get C (T := TcM) (N := 18) (ci := 2) (v := .int (F 0)) inM_isOpen_M 0 rfl rfl 0 (by decide) (by decide +kernel) rfl rfl dM_isOpen_6 ?_
    refine v_top (y := nI P) hp ?_
    refine v_icmp_ge C dM_isOpen_9 (tgt := 66) (by decide) (fun h => absurd h (nI_ge (a := r) (b := P) (by omega) (by omega))) (fun _ => ?_)
    refine v_iconst C (v := 0) dM_isOpen_12 (by decide) ?_
    refine v_istore C (lv' := [(0, .ref (b 0)), (1, .int x), (2, .int u), (3, .int (nI r)), (4, .int 0)]) [1, 2, 3, 4, 0] dM_isOpen_13 (by decide) rfl ?_
    refine v_loop1 P (fun (qq : Nat) (v : Int32) => wM cI cZ b F a) (fun (qq : Nat) (v : Int32) => [(0, .ref (b 0)), (1, .int x), (2, .int v), (3, .int (nI r)), (4, .int (nI qq))]) (fun (kqq qq : Nat) (v : Int32) => mIsOpenI F a P x kqq qq v = mIsOpenI F a P x P 0 u) ?_ ?_ P 0 u (by omega) rfl
    · skip
      intro kqq qq v hkqq hIqq ihqq
      have hIqq : mIsOpenI F a P x (kqq + 1) qq v = mIsOpenI F a P x P 0 u := hIqq
      refine v_as (w' := wM cI cZ b F a) (lv' := [(0, .ref (b 0)), (1, .int x), (2, .int v), (3, .int (nI r)), (4, .int (nI qq))]) rfl rfl ?_
      refine v_iload C 4 dM_isOpen_15 rfl ?_
      refine v_aload_n C 0 dM_isOpen_17 rfl rfl ?_
      refine v_get C (T := TcM) (N := 18) (ci := 2) (v := .int (F 0)) inM_isOpen_M 0 rfl rfl 0 (by decide) (by decide +kernel) rfl rfl dM_isOpen_18 ?_
      refine v_top (y := nI P) hp ?_
      refine v_icmp_ge C dM_isOpen_21 (tgt := 60) (by decide) (fun h => absurd h (nI_ge (a := qq) (b := P) (by omega) (by omega))) (fun _ => ?_)
      refine v_iload_n C 2 dM_isOpen_24 rfl rfl ?_
      refine v_iload C 4 dM_isOpen_25 rfl ?_
      refine v_cSr0 (As := [.int v, .int (nI qq)]) C (c_mHas l D cI cZ cJ v (nI qq)) (va_cwS 2 C.2.2.2.2.1 gM_isOpen_M_has rfl rfl rfl (by decide +kernel) ⟨Nat.le_of_ble_eq_true rfl, Nat.le_of_ble_eq_true rfl⟩) rfl rfl (Nat.le_of_ble_eq_true rfl) ⟨Nat.zero_le _, Nat.zero_le _⟩ dM_isOpen_27 ?_
      refine v_if_eq C dM_isOpen_30 (tgt := 54) (by decide) (fun h1 => ?_) (fun h1 => ?_)
      · skip
        refine v_iinc C (v := nI (qq + 1)) (lv' := [(0, .ref (b 0)), (1, .int x), (2, .int v), (3, .int (nI r)), (4, .int (nI (qq + 1)))]) 4 [1, 2, 3, 4, 0] dM_isOpen_54 rfl (nI_1 qq) (by decide) rfl ?_
        refine v_goto C dM_isOpen_57 (tgt := 15) (by decide) ?_
        have hL : mIsOpenI F a P x kqq (qq + 1) v = mIsOpenI F a P x P 0 u := (by rw [← hIqq]; simp only [mIsOpenI]; rw [if_pos h1])
        exact ihqq v hL
      · skip
        refine v_aload_n C 0 dM_isOpen_33 rfl rfl ?_
        refine v_get C (T := TcM) (N := 18) (ci := 2) (v := .ref (b 6)) inM_isOpen_M 0 rfl rfl 15 (by decide) (by decide +kernel) rfl rfl dM_isOpen_34 ?_
        refine v_iload C 4 dM_isOpen_37 rfl ?_
        refine v_iald C 6 0 (f := a 15) (y := (a 15) qq) (j := qq) rfl rfl (nI_clamp (by omega)) rfl (vp_in_nI (by omega) (by decide)) dM_isOpen_39 ?_
        refine v_iload_n C 2 dM_isOpen_40 rfl rfl ?_
        refine v_iand C dM_isOpen_41 ?_
        refine v_if_ne C dM_isOpen_42 (tgt := 54) (by decide) (fun h2 => ?_) (fun h2 => ?_)
        · skip
          refine v_iinc C (v := nI (qq + 1)) (lv' := [(0, .ref (b 0)), (1, .int x), (2, .int v), (3, .int (nI r)), (4, .int (nI (qq + 1)))]) 4 [1, 2, 3, 4, 0] dM_isOpen_54 rfl (nI_1 qq) (by decide) rfl ?_
          refine v_goto C dM_isOpen_57 (tgt := 15) (by decide) ?_
          have hL : mIsOpenI F a P x kqq (qq + 1) v = mIsOpenI F a P x P 0 u := (by rw [← hIqq]; simp only [mIsOpenI]; rw [if_neg h1, if_neg h2])
          exact ihqq v hL
        · skip
          refine v_iload_n C 2 dM_isOpen_45 rfl rfl ?_
          refine v_iconst C (v := 1) dM_isOpen_46 (by decide) ?_
          refine v_iload C 4 dM_isOpen_47 rfl ?_
          refine v_ishl C dM_isOpen_49 ?_
          refine v_iconst C (v := (-1)) dM_isOpen_50 (by decide) ?_
          refine v_ixor C dM_isOpen_51 ?_
          refine v_iand C dM_isOpen_52 ?_
          refine v_istore_n C (lv' := [(0, .ref (b 0)), (1, .int x), (2, .int (v &&& (((1 : Int32) <<< ((nI qq) &&& 31)) ^^^ ((-1) : Int32)))), (3, .int (nI r)), (4, .int (nI qq))]) [1, 2, 0, 3, 4] dM_isOpen_53 rfl (by decide) rfl ?_
          refine v_iinc C (v := nI (qq + 1)) (lv' := [(0, .ref (b 0)), (1, .int x), (2, .int (v &&& (((1 : Int32) <<< ((nI qq) &&& 31)) ^^^ ((-1) : Int32)))), (3, .int (nI r)), (4, .int (nI (qq + 1)))]) 4 [1, 2, 3, 4, 0] dM_isOpen_54 rfl (nI_1 qq) (by decide) rfl ?_
          refine v_goto C dM_isOpen_57 (tgt := 15) (by decide) ?_
          have hL : mIsOpenI F a P x kqq (qq + 1) (v &&& (((1 : Int32) <<< ((nI qq) &&& 31)) ^^^ ((-1) : Int32))) = mIsOpenI F a P x P 0 u := (by rw [← hIqq]; simp only [mIsOpenI]; rw [if_neg h1, if_pos h2])
          exact ihqq (v &&& (((1 : Int32) <<< ((nI qq) &&& 31)) ^^^ ((-1) : Int32))) hL
    · skip
      intro v hIqq
      have hIqq : mIsOpenI F a P x 0 P v = mIsOpenI F a P x P 0 u := hIqq
      refine v_as (w' := wM cI cZ b F a) (lv' := [(0, .ref (b 0)), (1, .int x), (2, .int v), (3, .int (nI r)), (4, .int (nI P))]) rfl rfl ?_
      have hIqq : v = mIsOpenI F a P x P 0 u := hIqq
      subst hIqq
      refine v_iload C 4 dM_isOpen_15 rfl ?_
      refine v_aload_n C 0 dM_isOpen_17 rfl rfl ?_
      refine v_get C (T := TcM) (N := 18) (ci := 2) (v := .int (F 0)) inM_isOpen_M 0 rfl rfl 0 (by decide) (by decide +kernel) rfl rfl dM_isOpen_18 ?_
      refine v_top (y := nI P) hp ?_
      refine v_icmp_ge C dM_isOpen_21 (tgt := 60) (by decide) (fun _ => ?_) (fun h => absurd (nI_le (a := P) (b := P) (by omega) (by omega)) h)
      refine v_iinc C (v := nI (r + 1)) (lv' := [(0, .ref (b 0)), (1, .int x), (2, .int (mIsOpenI F a P x P 0 u)), (3, .int (nI (r + 1))), (4, .int (nI P))]) 3 [1, 2, 3, 0, 4] dM_isOpen_60 rfl (nI_1 r) (by decide) rfl ?_
      refine v_goto C dM_isOpen_63 (tgt := 4) (by decide) ?_
      refine v_loc (lv' := [(0, .ref (b 0)), (1, .int x), (2, .int (mIsOpenI F a P x P 0 u)), (3, .int (nI (r + 1)))]) [0, 1, 2, 3] rfl ?_
      have hL : mIsOpenL F a P x kr (r + 1) (mIsOpenI F a P x P 0 u) = mIsOpenL F a P x P 0 x := (by rw [← hIr]; simp only [mIsOpenL])
      exact ihr (mIsOpenI F a P x P 0 u) hL
  · skip
    intro u hIr
    have hIr : mIsOpenL F a P x 0 P u = mIsOpenL F a P x P 0 x := hIr
    refine v_as (w' := wM cI cZ b F a) (lv' := [(0, .ref (b 0)), (1, .int x), (2, .int u), (3, .int (nI P))]) rfl rfl ?_
    have hIr : u = mIsOpenL F a P x P 0 x := hIr
    subst hIr
    refine v_iload_n C 3 dM_isOpen_4 rfl rfl ?_
    refine v_aload_n C 0 dM_isOpen_5 rfl rfl ?_
    refine v_get C (T := TcM) (N := 18) (ci := 2) (v := .int (F 0)) inM_isOpen_M 0 rfl rfl 0 (by decide) (by decide +kernel) rfl rfl dM_isOpen_6 ?_
    refine v_top (y := nI P) hp ?_
    refine v_icmp_ge C dM_isOpen_9 (tgt := 66) (by decide) (fun _ => ?_) (fun h => absurd (nI_le (a := P) (b := P) (by omega) (by omega)) h)
    refine v_iload_n C 2 dM_isOpen_66 rfl rfl ?_
    refine v_if_ne C dM_isOpen_67 (tgt := 74) (by decide) (fun h3 => ?_) (fun h3 => ?_)
    · skip
      refine v_iconst C (v := 0) dM_isOpen_74 (by decide) ?_
      exact v_zrr C hr (by decide) (by unfold mIsOpen; rw [if_neg h3]) dM_isOpen_75
    · skip
      refine v_iconst C (v := 1) dM_isOpen_70 (by decide) ?_
      refine v_goto C dM_isOpen_71 (tgt := 75) (by decide) ?_
      exact v_zrr C hr (by decide) (by unfold mIsOpen; rw [if_pos h3]) dM_isOpen_75
set_option maxHeartbeats 4000000 in
set_option maxRecDepth 100000 in
theorem c_mGreat (l : Launch) (D : va_G) (cI cZ cJ : ClassId) (b : Nat → Nat) (F : FT) (a : AT) (P : Nat) (hp : F 0 = nI P) (hp6 : P ≤ 6) : Ki l yM_greatest wM_greatest ({ frames := 1, cells := 0, slots := 0, locals := 22 } : Room) D vwCl (tyG cI cZ cJ) [.ref (b 0)] (wM cI cZ b F a) ((mGreat F a P).1) (wM cI cZ b F ((mGreat F a P).2)) := by
  intro sz
  refine v_ent (cc := bM_greatest) (maxL := 6) (ret := (some .int)) (Qc := (fun A => va_Qi (fun (x9 : Int32) (_ : Unit) => x9 = (mGreat F a P).1) (fun _ => wB D vwCl (tyG cI cZ cJ) A (wM cI cZ b F ((mGreat F a P).2))) A)) (fr := (fun A => A)) (own := RcM) rfl (by decide) rfl (Nat.le_of_ble_eq_true rfl) rfl ?_
  intro p e s m args below meth c A C hr _
  refine v_free ?_
  have hPP := pow_P hp6
  refine v_iconst C (v := 0) dM_greatest_0 (by decide) ?_
  refine v_istore_n C (lv' := [(0, .ref (b 0)), (1, .int 0)]) [1, 0] dM_greatest_1 rfl (by decide) rfl ?_
  refine v_iconst C (v := 1) dM_greatest_2 (by decide) ?_
  refine v_istore_n C (lv' := [(0, .ref (b 0)), (1, .int 0), (2, .int 1)]) [1, 2, 0] dM_greatest_3 rfl (by decide) rfl ?_
  refine v_loop2 (2 ^ P) (fun (ss : Nat) (u : Int32) (a1 : AT) => wM cI cZ b F a1) (fun (ss : Nat) (u : Int32) (a1 : AT) => [(0, .ref (b 0)), (1, .int u), (2, .int (nI ss))]) (fun (kss ss : Nat) (u : Int32) (a1 : AT) => mGreatL F P kss ss u a1 = mGreatL F P (2 ^ P - 1) 1 0 a) ?_ ?_ (2 ^ P - 1) 1 0 a (by omega) rfl
  · skip
    intro kss ss u a1 hkss hIss ihss
    have hIss : mGreatL F P (kss + 1) ss u a1 = mGreatL F P (2 ^ P - 1) 1 0 a := hIss
    refine v_as (w' := wM cI cZ b F a1) (lv' := [(0, .ref (b 0)), (1, .int u), (2, .int (nI ss))]) rfl rfl ?_
    refine v_iload_n C 2 dM_greatest_4 rfl rfl ?_
    refine v_iconst C (v := 1) dM_greatest_5 (by decide) ?_
    refine v_aload_n C 0 dM_greatest_6 rfl rfl ?_
    refine v_get C (T := TcM) (N := 18) (ci := 2) (v := .int (F 0)) inM_greatest_M 0 rfl rfl 0 (by decide) (by decide +kernel) rfl rfl dM_greatest_7 ?_
    refine v_top (y := nI P) hp ?_
    refine v_ishl C dM_greatest_10 ?_
    refine v_top (y := nI (2 ^ P)) (shl_P hp6) ?_
    refine v_icmp_ge C dM_greatest_11 (tgt := 197) (by decide) (fun h => absurd h (nI_ge (a := ss) (b := 2 ^ P) (by omega) (by omega))) (fun _ => ?_)
    refine v_iconst C (v := 0) dM_greatest_14 (by decide) ?_
    refine v_istore_n C (lv' := [(0, .ref (b 0)), (1, .int u), (2, .int (nI ss)), (3, .int 0)]) [1, 2, 3, 0] dM_greatest_15 rfl (by decide) rfl ?_
    refine v_loop2 P (fun (pp : Nat) (v : Int32) (a2 : AT) => wM cI cZ b F a2) (fun (pp : Nat) (v : Int32) (a2 : AT) => [(0, .ref (b 0)), (1, .int v), (2, .int (nI ss)), (3, .int (nI pp))]) (fun (kpp pp : Nat) (v : Int32) (a2 : AT) => mGreatM F P ss kpp pp v a2 = mGreatM F P ss P 0 u a1) ?_ ?_ P 0 u a1 (by omega) rfl
    · skip
      intro kpp pp v a2 hkpp hIpp ihpp
      have hIpp : mGreatM F P ss (kpp + 1) pp v a2 = mGreatM F P ss P 0 u a1 := hIpp
      refine v_as (w' := wM cI cZ b F a2) (lv' := [(0, .ref (b 0)), (1, .int v), (2, .int (nI ss)), (3, .int (nI pp))]) rfl rfl ?_
      refine v_iload_n C 3 dM_greatest_16 rfl rfl ?_
      refine v_aload_n C 0 dM_greatest_17 rfl rfl ?_
      refine v_get C (T := TcM) (N := 18) (ci := 2) (v := .int (F 0)) inM_greatest_M 0 rfl rfl 0 (by decide) (by decide +kernel) rfl rfl dM_greatest_18 ?_
      refine v_top (y := nI P) hp ?_
      refine v_icmp_ge C dM_greatest_21 (tgt := 191) (by decide) (fun h => absurd h (nI_ge (a := pp) (b := P) (by omega) (by omega))) (fun _ => ?_)
      refine v_cut (pj := 38) (wj := wM cI cZ b F a2) (lj := [(0, .ref (b 0)), (1, .int v), (2, .int (nI ss)), (3, .int (nI pp)), (4, .int (mCan0 ss pp))]) ?_ (fun hJ => ?_)
      · skip
        refine v_iconst C (v := 0) dM_greatest_38 (by decide) ?_
        refine v_istore C (lv' := [(0, .ref (b 0)), (1, .int v), (2, .int (nI ss)), (3, .int (nI pp)), (4, .int (mCan0 ss pp)), (5, .int 0)]) [1, 2, 3, 4, 5, 0] dM_greatest_39 (by decide) rfl ?_
        refine v_loop1 P (fun (qq : Nat) (can : Int32) => wM cI cZ b F a2) (fun (qq : Nat) (can : Int32) => [(0, .ref (b 0)), (1, .int v), (2, .int (nI ss)), (3, .int (nI pp)), (4, .int can), (5, .int (nI qq))]) (fun (kqq qq : Nat) (can : Int32) => mGreatI F a2 P ss pp kqq qq can = mGreatI F a2 P ss pp P 0 (mCan0 ss pp)) ?_ ?_ P 0 (mCan0 ss pp) (by omega) rfl
        · skip
          intro kqq qq can hkqq hIqq ihqq
          have hIqq : mGreatI F a2 P ss pp (kqq + 1) qq can = mGreatI F a2 P ss pp P 0 (mCan0 ss pp) := hIqq
          refine v_as (w' := wM cI cZ b F a2) (lv' := [(0, .ref (b 0)), (1, .int v), (2, .int (nI ss)), (3, .int (nI pp)), (4, .int can), (5, .int (nI qq))]) rfl rfl ?_
          refine v_iload C 5 dM_greatest_41 rfl ?_
          refine v_aload_n C 0 dM_greatest_43 rfl rfl ?_
          refine v_get C (T := TcM) (N := 18) (ci := 2) (v := .int (F 0)) inM_greatest_M 0 rfl rfl 0 (by decide) (by decide +kernel) rfl rfl dM_greatest_44 ?_
          refine v_top (y := nI P) hp ?_
          refine v_icmp_ge C dM_greatest_47 (tgt := 126) (by decide) (fun h => absurd h (nI_ge (a := qq) (b := P) (by omega) (by omega))) (fun _ => ?_)
          refine v_iload_n C 2 dM_greatest_50 rfl rfl ?_
          refine v_iload_n C 3 dM_greatest_51 rfl rfl ?_
          refine v_cSr0 (As := [.int (nI ss), .int (nI pp)]) C (c_mHas l D cI cZ cJ (nI ss) (nI pp)) (va_cwS 2 C.2.2.2.2.1 gM_greatest_M_has rfl rfl rfl (by decide +kernel) ⟨Nat.le_of_ble_eq_true rfl, Nat.le_of_ble_eq_true rfl⟩) rfl rfl (Nat.le_of_ble_eq_true rfl) ⟨Nat.zero_le _, Nat.zero_le _⟩ dM_greatest_52 ?_
          refine v_if_eq C dM_greatest_55 (tgt := 126) (by decide) (fun h1 => ?_) (fun h1 => ?_)
          · skip
            have hX : can = mGreatI F a2 P ss pp P 0 (mCan0 ss pp) := (by rw [← hIqq]; simp only [mGreatI]; rw [if_pos h1])
            rw [show can = mGreatI F a2 P ss pp P 0 (mCan0 ss pp) from hX]
            refine v_aload_n C 0 dM_greatest_126 rfl rfl ?_
            refine v_get C (T := TcM) (N := 18) (ci := 2) (v := .ref (b 7)) inM_greatest_M 0 rfl rfl 16 (by decide) (by decide +kernel) rfl rfl dM_greatest_127 ?_
            refine v_bipush C (v := 6) dM_greatest_130 (by decide) ?_
            refine v_iload_n C 2 dM_greatest_132 rfl rfl ?_
            refine v_imul C dM_greatest_133 ?_
            refine v_iload_n C 3 dM_greatest_134 rfl rfl ?_
            refine v_iadd C dM_greatest_135 ?_
            refine v_iload_n C 2 dM_greatest_136 rfl rfl ?_
            refine v_iload_n C 3 dM_greatest_137 rfl rfl ?_
            refine v_cSr0 (As := [.int (nI ss), .int (nI pp)]) C (c_mHas l D cI cZ cJ (nI ss) (nI pp)) (va_cwS 2 C.2.2.2.2.1 gM_greatest_M_has rfl rfl rfl (by decide +kernel) ⟨Nat.le_of_ble_eq_true rfl, Nat.le_of_ble_eq_true rfl⟩) rfl rfl (Nat.le_of_ble_eq_true rfl) ⟨Nat.zero_le _, Nat.zero_le _⟩ dM_greatest_138 ?_
            refine v_if_eq C dM_greatest_141 (tgt := 153) (by decide) (fun _ => ?_) (fun h => absurd h1 h)
            refine v_iconst C (v := 0) dM_greatest_153 (by decide) ?_
            obtain ⟨zz1, hzz1⟩ : ∃ z9, upd (a2 16) ((((6 : Int32) * (nI ss)) + (nI pp)).toNatClampNeg) 0 = z9 := ⟨_, rfl⟩
            refine v_zast C 7 1 (f := a2 16) (j := (((6 : Int32) * (nI ss)) + (nI pp)).toNatClampNeg) (y := 0) (f1 := zz1) rfl rfl rfl (by decide) hzz1 (vp_ends2 (by omega) (by omega)) dM_greatest_154 (w1 := wM cI cZ b F (updA a2 16 zz1)) rfl ?_
            refine v_iload_n C 2 dM_greatest_155 rfl rfl ?_
            refine v_iload_n C 3 dM_greatest_156 rfl rfl ?_
            refine v_cSr0 (As := [.int (nI ss), .int (nI pp)]) C (c_mHas l D cI cZ cJ (nI ss) (nI pp)) (va_cwS 2 C.2.2.2.2.1 gM_greatest_M_has rfl rfl rfl (by decide +kernel) ⟨Nat.le_of_ble_eq_true rfl, Nat.le_of_ble_eq_true rfl⟩) rfl rfl (Nat.le_of_ble_eq_true rfl) ⟨Nat.zero_le _, Nat.zero_le _⟩ dM_greatest_157 ?_
            refine v_if_eq C dM_greatest_160 (tgt := 185) (by decide) (fun _ => ?_) (fun h => absurd h1 h)
            refine v_iinc C (v := nI (pp + 1)) (lv' := [(0, .ref (b 0)), (1, .int v), (2, .int (nI ss)), (3, .int (nI (pp + 1))), (4, .int (mGreatI F a2 P ss pp P 0 (mCan0 ss pp))), (5, .int (nI qq))]) 3 [1, 2, 3, 0, 4, 5] dM_greatest_185 rfl (nI_1 pp) (by decide) rfl ?_
            refine v_goto C dM_greatest_188 (tgt := 16) (by decide) ?_
            refine v_loc (lv' := [(0, .ref (b 0)), (1, .int v), (2, .int (nI ss)), (3, .int (nI (pp + 1)))]) [0, 1, 2, 3] rfl ?_
            have hL : mGreatM F P ss kpp (pp + 1) v (updA a2 16 zz1) = mGreatM F P ss P 0 u a1 := (by rw [← hIpp]; simp only [mGreatM]; rw [hzz1, if_pos h1])
            exact ihpp v (updA a2 16 zz1) hL
          · skip
            refine v_iload C 4 dM_greatest_58 rfl ?_
            refine v_if_ne C dM_greatest_60 (tgt := 113) (by decide) (fun h2 => ?_) (fun h2 => ?_)
            · skip
              refine v_iconst C (v := 1) dM_greatest_113 (by decide) ?_
              refine v_goto C dM_greatest_114 (tgt := 118) (by decide) ?_
              refine v_istore C (lv' := [(0, .ref (b 0)), (1, .int v), (2, .int (nI ss)), (3, .int (nI pp)), (4, .int 1), (5, .int (nI qq))]) [1, 2, 3, 4, 0, 5] dM_greatest_118 (by decide) rfl ?_
              refine v_iinc C (v := nI (qq + 1)) (lv' := [(0, .ref (b 0)), (1, .int v), (2, .int (nI ss)), (3, .int (nI pp)), (4, .int 1), (5, .int (nI (qq + 1)))]) 5 [1, 2, 3, 4, 5, 0] dM_greatest_120 rfl (nI_1 qq) (by decide) rfl ?_
              refine v_goto C dM_greatest_123 (tgt := 41) (by decide) ?_
              have hL : mGreatI F a2 P ss pp kqq (qq + 1) 1 = mGreatI F a2 P ss pp P 0 (mCan0 ss pp) := (by rw [← hIqq]; simp only [mGreatI]; rw [if_neg h1, if_neg h2])
              exact ihqq 1 hL
            · skip
              refine v_iload C 5 dM_greatest_63 rfl ?_
              refine v_iload_n C 3 dM_greatest_65 rfl rfl ?_
              refine v_icmp_eq C dM_greatest_66 (tgt := 117) (by decide) (fun h3 => ?_) (fun h3 => ?_)
              · skip
                refine v_iconst C (v := 0) dM_greatest_117 (by decide) ?_
                refine v_istore C (lv' := [(0, .ref (b 0)), (1, .int v), (2, .int (nI ss)), (3, .int (nI pp)), (4, .int 0), (5, .int (nI qq))]) [1, 2, 3, 4, 0, 5] dM_greatest_118 (by decide) rfl ?_
                refine v_iinc C (v := nI (qq + 1)) (lv' := [(0, .ref (b 0)), (1, .int v), (2, .int (nI ss)), (3, .int (nI pp)), (4, .int 0), (5, .int (nI (qq + 1)))]) 5 [1, 2, 3, 4, 5, 0] dM_greatest_120 rfl (nI_1 qq) (by decide) rfl ?_
                refine v_goto C dM_greatest_123 (tgt := 41) (by decide) ?_
                have hL : mGreatI F a2 P ss pp kqq (qq + 1) 0 = mGreatI F a2 P ss pp P 0 (mCan0 ss pp) := (by rw [← hIqq]; simp only [mGreatI]; rw [if_neg h1, if_pos h2, if_pos h3])
                exact ihqq 0 hL
              · skip
                refine v_iload_n C 2 dM_greatest_69 rfl rfl ?_
                refine v_iload C 5 dM_greatest_70 rfl ?_
                refine v_cSr0 (As := [.int (nI ss), .int (nI qq)]) C (c_mHas l D cI cZ cJ (nI ss) (nI qq)) (va_cwS 2 C.2.2.2.2.1 gM_greatest_M_has rfl rfl rfl (by decide +kernel) ⟨Nat.le_of_ble_eq_true rfl, Nat.le_of_ble_eq_true rfl⟩) rfl rfl (Nat.le_of_ble_eq_true rfl) ⟨Nat.zero_le _, Nat.zero_le _⟩ dM_greatest_72 ?_
                refine v_if_eq C dM_greatest_75 (tgt := 117) (by decide) (fun h4 => ?_) (fun h4 => ?_)
                · skip
                  refine v_iconst C (v := 0) dM_greatest_117 (by decide) ?_
                  refine v_istore C (lv' := [(0, .ref (b 0)), (1, .int v), (2, .int (nI ss)), (3, .int (nI pp)), (4, .int 0), (5, .int (nI qq))]) [1, 2, 3, 4, 0, 5] dM_greatest_118 (by decide) rfl ?_
                  refine v_iinc C (v := nI (qq + 1)) (lv' := [(0, .ref (b 0)), (1, .int v), (2, .int (nI ss)), (3, .int (nI pp)), (4, .int 0), (5, .int (nI (qq + 1)))]) 5 [1, 2, 3, 4, 5, 0] dM_greatest_120 rfl (nI_1 qq) (by decide) rfl ?_
                  refine v_goto C dM_greatest_123 (tgt := 41) (by decide) ?_
                  have hL : mGreatI F a2 P ss pp kqq (qq + 1) 0 = mGreatI F a2 P ss pp P 0 (mCan0 ss pp) := (by rw [← hIqq]; simp only [mGreatI]; rw [if_neg h1, if_pos h2, if_neg h3, if_pos h4])
                  exact ihqq 0 hL
                · skip
                  refine v_aload_n C 0 dM_greatest_78 rfl rfl ?_
                  refine v_get C (T := TcM) (N := 18) (ci := 2) (v := .ref (b 6)) inM_greatest_M 0 rfl rfl 15 (by decide) (by decide +kernel) rfl rfl dM_greatest_79 ?_
                  refine v_iload C 5 dM_greatest_82 rfl ?_
                  refine v_iald C 6 0 (f := a2 15) (y := (a2 15) qq) (j := qq) rfl rfl (nI_clamp (by omega)) rfl (vp_in_nI (by omega) (by decide)) dM_greatest_84 ?_
                  refine v_iload_n C 3 dM_greatest_85 rfl rfl ?_
                  refine v_cSr0 (As := [.int ((a2 15) qq), .int (nI pp)]) C (c_mHas l D cI cZ cJ ((a2 15) qq) (nI pp)) (va_cwS 2 C.2.2.2.2.1 gM_greatest_M_has rfl rfl rfl (by decide +kernel) ⟨Nat.le_of_ble_eq_true rfl, Nat.le_of_ble_eq_true rfl⟩) rfl rfl (Nat.le_of_ble_eq_true rfl) ⟨Nat.zero_le _, Nat.zero_le _⟩ dM_greatest_86 ?_
                  refine v_if_eq C dM_greatest_89 (tgt := 117) (by decide) (fun h5 => ?_) (fun h5 => ?_)
                  · skip
                    refine v_iconst C (v := 0) dM_greatest_117 (by decide) ?_
                    refine v_istore C (lv' := [(0, .ref (b 0)), (1, .int v), (2, .int (nI ss)), (3, .int (nI pp)), (4, .int 0), (5, .int (nI qq))]) [1, 2, 3, 4, 0, 5] dM_greatest_118 (by decide) rfl ?_
                    refine v_iinc C (v := nI (qq + 1)) (lv' := [(0, .ref (b 0)), (1, .int v), (2, .int (nI ss)), (3, .int (nI pp)), (4, .int 0), (5, .int (nI (qq + 1)))]) 5 [1, 2, 3, 4, 5, 0] dM_greatest_120 rfl (nI_1 qq) (by decide) rfl ?_
                    refine v_goto C dM_greatest_123 (tgt := 41) (by decide) ?_
                    have hL : mGreatI F a2 P ss pp kqq (qq + 1) 0 = mGreatI F a2 P ss pp P 0 (mCan0 ss pp) := (by rw [← hIqq]; simp only [mGreatI]; rw [if_neg h1, if_pos h2, if_neg h3, if_neg h4, if_pos h5])
                    exact ihqq 0 hL
                  · skip
                    refine v_aload_n C 0 dM_greatest_92 rfl rfl ?_
                    refine v_get C (T := TcM) (N := 18) (ci := 2) (v := .ref (b 7)) inM_greatest_M 0 rfl rfl 16 (by decide) (by decide +kernel) rfl rfl dM_greatest_93 ?_
                    refine v_bipush C (v := 6) dM_greatest_96 (by decide) ?_
                    refine v_iload_n C 2 dM_greatest_98 rfl rfl ?_
                    refine v_iconst C (v := 1) dM_greatest_99 (by decide) ?_
                    refine v_iload_n C 3 dM_greatest_100 rfl rfl ?_
                    refine v_ishl C dM_greatest_101 ?_
                    refine v_iconst C (v := (-1)) dM_greatest_102 (by decide) ?_
                    refine v_ixor C dM_greatest_103 ?_
                    refine v_iand C dM_greatest_104 ?_
                    refine v_imul C dM_greatest_105 ?_
                    refine v_iload C 5 dM_greatest_106 rfl ?_
                    refine v_iadd C dM_greatest_108 ?_
                    refine v_zald C 7 1 (f := a2 16) (y := (a2 16) ((((6 : Int32) * ((nI ss) &&& (((1 : Int32) <<< ((nI pp) &&& 31)) ^^^ ((-1) : Int32)))) + (nI qq)).toNatClampNeg)) (j := (((6 : Int32) * ((nI ss) &&& (((1 : Int32) <<< ((nI pp) &&& 31)) ^^^ ((-1) : Int32)))) + (nI qq)).toNatClampNeg) rfl rfl rfl rfl (vp_ends1 (by omega) (by omega) (by omega)) dM_greatest_109 ?_
                    refine v_if_eq C dM_greatest_110 (tgt := 117) (by decide) (fun h6 => ?_) (fun h6 => ?_)
                    · skip
                      refine v_iconst C (v := 0) dM_greatest_117 (by decide) ?_
                      refine v_istore C (lv' := [(0, .ref (b 0)), (1, .int v), (2, .int (nI ss)), (3, .int (nI pp)), (4, .int 0), (5, .int (nI qq))]) [1, 2, 3, 4, 0, 5] dM_greatest_118 (by decide) rfl ?_
                      refine v_iinc C (v := nI (qq + 1)) (lv' := [(0, .ref (b 0)), (1, .int v), (2, .int (nI ss)), (3, .int (nI pp)), (4, .int 0), (5, .int (nI (qq + 1)))]) 5 [1, 2, 3, 4, 5, 0] dM_greatest_120 rfl (nI_1 qq) (by decide) rfl ?_
                      refine v_goto C dM_greatest_123 (tgt := 41) (by decide) ?_
                      have hL : mGreatI F a2 P ss pp kqq (qq + 1) 0 = mGreatI F a2 P ss pp P 0 (mCan0 ss pp) := (by rw [← hIqq]; simp only [mGreatI]; rw [if_neg h1, if_pos h2, if_neg h3, if_neg h4, if_neg h5, if_pos h6])
                      exact ihqq 0 hL
                    · skip
                      refine v_iconst C (v := 1) dM_greatest_113 (by decide) ?_
                      refine v_goto C dM_greatest_114 (tgt := 118) (by decide) ?_
                      refine v_istore C (lv' := [(0, .ref (b 0)), (1, .int v), (2, .int (nI ss)), (3, .int (nI pp)), (4, .int 1), (5, .int (nI qq))]) [1, 2, 3, 4, 0, 5] dM_greatest_118 (by decide) rfl ?_
                      refine v_iinc C (v := nI (qq + 1)) (lv' := [(0, .ref (b 0)), (1, .int v), (2, .int (nI ss)), (3, .int (nI pp)), (4, .int 1), (5, .int (nI (qq + 1)))]) 5 [1, 2, 3, 4, 5, 0] dM_greatest_120 rfl (nI_1 qq) (by decide) rfl ?_
                      refine v_goto C dM_greatest_123 (tgt := 41) (by decide) ?_
                      have hL : mGreatI F a2 P ss pp kqq (qq + 1) 1 = mGreatI F a2 P ss pp P 0 (mCan0 ss pp) := (by rw [← hIqq]; simp only [mGreatI]; rw [if_neg h1, if_pos h2, if_neg h3, if_neg h4, if_neg h5, if_neg h6])
                      exact ihqq 1 hL
        · skip
          intro can hIqq
          have hIqq : mGreatI F a2 P ss pp 0 P can = mGreatI F a2 P ss pp P 0 (mCan0 ss pp) := hIqq
          refine v_as (w' := wM cI cZ b F a2) (lv' := [(0, .ref (b 0)), (1, .int v), (2, .int (nI ss)), (3, .int (nI pp)), (4, .int can), (5, .int (nI P))]) rfl rfl ?_
          have hIqq : can = mGreatI F a2 P ss pp P 0 (mCan0 ss pp) := hIqq
          subst hIqq
          refine v_iload C 5 dM_greatest_41 rfl ?_
          refine v_aload_n C 0 dM_greatest_43 rfl rfl ?_
          refine v_get C (T := TcM) (N := 18) (ci := 2) (v := .int (F 0)) inM_greatest_M 0 rfl rfl 0 (by decide) (by decide +kernel) rfl rfl dM_greatest_44 ?_
          refine v_top (y := nI P) hp ?_
          refine v_icmp_ge C dM_greatest_47 (tgt := 126) (by decide) (fun _ => ?_) (fun h => absurd (nI_le (a := P) (b := P) (by omega) (by omega)) h)
          refine v_aload_n C 0 dM_greatest_126 rfl rfl ?_
          refine v_get C (T := TcM) (N := 18) (ci := 2) (v := .ref (b 7)) inM_greatest_M 0 rfl rfl 16 (by decide) (by decide +kernel) rfl rfl dM_greatest_127 ?_
          refine v_bipush C (v := 6) dM_greatest_130 (by decide) ?_
          refine v_iload_n C 2 dM_greatest_132 rfl rfl ?_
          refine v_imul C dM_greatest_133 ?_
          refine v_iload_n C 3 dM_greatest_134 rfl rfl ?_
          refine v_iadd C dM_greatest_135 ?_
          refine v_iload_n C 2 dM_greatest_136 rfl rfl ?_
          refine v_iload_n C 3 dM_greatest_137 rfl rfl ?_
          refine v_cSr0 (As := [.int (nI ss), .int (nI pp)]) C (c_mHas l D cI cZ cJ (nI ss) (nI pp)) (va_cwS 2 C.2.2.2.2.1 gM_greatest_M_has rfl rfl rfl (by decide +kernel) ⟨Nat.le_of_ble_eq_true rfl, Nat.le_of_ble_eq_true rfl⟩) rfl rfl (Nat.le_of_ble_eq_true rfl) ⟨Nat.zero_le _, Nat.zero_le _⟩ dM_greatest_138 ?_
          refine v_if_eq C dM_greatest_141 (tgt := 153) (by decide) (fun h7 => ?_) (fun h7 => ?_)
          · skip
            refine v_iconst C (v := 0) dM_greatest_153 (by decide) ?_
            obtain ⟨zz2, hzz2⟩ : ∃ z9, upd (a2 16) ((((6 : Int32) * (nI ss)) + (nI pp)).toNatClampNeg) 0 = z9 := ⟨_, rfl⟩
            refine v_zast C 7 1 (f := a2 16) (j := (((6 : Int32) * (nI ss)) + (nI pp)).toNatClampNeg) (y := 0) (f1 := zz2) rfl rfl rfl (by decide) hzz2 (vp_ends2 (by omega) (by omega)) dM_greatest_154 (w1 := wM cI cZ b F (updA a2 16 zz2)) rfl ?_
            refine v_iload_n C 2 dM_greatest_155 rfl rfl ?_
            refine v_iload_n C 3 dM_greatest_156 rfl rfl ?_
            refine v_cSr0 (As := [.int (nI ss), .int (nI pp)]) C (c_mHas l D cI cZ cJ (nI ss) (nI pp)) (va_cwS 2 C.2.2.2.2.1 gM_greatest_M_has rfl rfl rfl (by decide +kernel) ⟨Nat.le_of_ble_eq_true rfl, Nat.le_of_ble_eq_true rfl⟩) rfl rfl (Nat.le_of_ble_eq_true rfl) ⟨Nat.zero_le _, Nat.zero_le _⟩ dM_greatest_157 ?_
            refine v_if_eq C dM_greatest_160 (tgt := 185) (by decide) (fun _ => ?_) (fun h => absurd h7 h)
            refine v_iinc C (v := nI (pp + 1)) (lv' := [(0, .ref (b 0)), (1, .int v), (2, .int (nI ss)), (3, .int (nI (pp + 1))), (4, .int (mGreatI F a2 P ss pp P 0 (mCan0 ss pp))), (5, .int (nI P))]) 3 [1, 2, 3, 0, 4, 5] dM_greatest_185 rfl (nI_1 pp) (by decide) rfl ?_
            refine v_goto C dM_greatest_188 (tgt := 16) (by decide) ?_
            refine v_loc (lv' := [(0, .ref (b 0)), (1, .int v), (2, .int (nI ss)), (3, .int (nI (pp + 1)))]) [0, 1, 2, 3] rfl ?_
            have hL : mGreatM F P ss kpp (pp + 1) v (updA a2 16 zz2) = mGreatM F P ss P 0 u a1 := (by rw [← hIpp]; simp only [mGreatM]; rw [hzz2, if_pos h7])
            exact ihpp v (updA a2 16 zz2) hL
          · skip
            refine v_iload C 4 dM_greatest_144 rfl ?_
            refine v_if_eq C dM_greatest_146 (tgt := 153) (by decide) (fun h8 => ?_) (fun h8 => ?_)
            · skip
              refine v_iconst C (v := 0) dM_greatest_153 (by decide) ?_
              obtain ⟨zz3, hzz3⟩ : ∃ z9, upd (a2 16) ((((6 : Int32) * (nI ss)) + (nI pp)).toNatClampNeg) 0 = z9 := ⟨_, rfl⟩
              refine v_zast C 7 1 (f := a2 16) (j := (((6 : Int32) * (nI ss)) + (nI pp)).toNatClampNeg) (y := 0) (f1 := zz3) rfl rfl rfl (by decide) hzz3 (vp_ends2 (by omega) (by omega)) dM_greatest_154 (w1 := wM cI cZ b F (updA a2 16 zz3)) rfl ?_
              refine v_iload_n C 2 dM_greatest_155 rfl rfl ?_
              refine v_iload_n C 3 dM_greatest_156 rfl rfl ?_
              refine v_cSr0 (As := [.int (nI ss), .int (nI pp)]) C (c_mHas l D cI cZ cJ (nI ss) (nI pp)) (va_cwS 2 C.2.2.2.2.1 gM_greatest_M_has rfl rfl rfl (by decide +kernel) ⟨Nat.le_of_ble_eq_true rfl, Nat.le_of_ble_eq_true rfl⟩) rfl rfl (Nat.le_of_ble_eq_true rfl) ⟨Nat.zero_le _, Nat.zero_le _⟩ dM_greatest_157 ?_
              refine v_if_eq C dM_greatest_160 (tgt := 185) (by decide) (fun h => absurd h h7) (fun _ => ?_)
              refine v_iload C 4 dM_greatest_163 rfl ?_
              refine v_if_eq C dM_greatest_165 (tgt := 185) (by decide) (fun _ => ?_) (fun h => absurd h8 h)
              refine v_iinc C (v := nI (pp + 1)) (lv' := [(0, .ref (b 0)), (1, .int v), (2, .int (nI ss)), (3, .int (nI (pp + 1))), (4, .int (mGreatI F a2 P ss pp P 0 (mCan0 ss pp))), (5, .int (nI P))]) 3 [1, 2, 3, 0, 4, 5] dM_greatest_185 rfl (nI_1 pp) (by decide) rfl ?_
              refine v_goto C dM_greatest_188 (tgt := 16) (by decide) ?_
              refine v_loc (lv' := [(0, .ref (b 0)), (1, .int v), (2, .int (nI ss)), (3, .int (nI (pp + 1)))]) [0, 1, 2, 3] rfl ?_
              have hL : mGreatM F P ss kpp (pp + 1) v (updA a2 16 zz3) = mGreatM F P ss P 0 u a1 := (by rw [← hIpp]; simp only [mGreatM]; rw [hzz3, if_neg h7, if_pos h8])
              exact ihpp v (updA a2 16 zz3) hL
            · skip
              refine v_iconst C (v := 1) dM_greatest_149 (by decide) ?_
              refine v_goto C dM_greatest_150 (tgt := 154) (by decide) ?_
              obtain ⟨zz4, hzz4⟩ : ∃ z9, upd (a2 16) ((((6 : Int32) * (nI ss)) + (nI pp)).toNatClampNeg) 1 = z9 := ⟨_, rfl⟩
              refine v_zast C 7 1 (f := a2 16) (j := (((6 : Int32) * (nI ss)) + (nI pp)).toNatClampNeg) (y := 1) (f1 := zz4) rfl rfl rfl (by decide) hzz4 (vp_ends2 (by omega) (by omega)) dM_greatest_154 (w1 := wM cI cZ b F (updA a2 16 zz4)) rfl ?_
              refine v_iload_n C 2 dM_greatest_155 rfl rfl ?_
              refine v_iload_n C 3 dM_greatest_156 rfl rfl ?_
              refine v_cSr0 (As := [.int (nI ss), .int (nI pp)]) C (c_mHas l D cI cZ cJ (nI ss) (nI pp)) (va_cwS 2 C.2.2.2.2.1 gM_greatest_M_has rfl rfl rfl (by decide +kernel) ⟨Nat.le_of_ble_eq_true rfl, Nat.le_of_ble_eq_true rfl⟩) rfl rfl (Nat.le_of_ble_eq_true rfl) ⟨Nat.zero_le _, Nat.zero_le _⟩ dM_greatest_157 ?_
              refine v_if_eq C dM_greatest_160 (tgt := 185) (by decide) (fun h => absurd h h7) (fun _ => ?_)
              refine v_iload C 4 dM_greatest_163 rfl ?_
              refine v_if_eq C dM_greatest_165 (tgt := 185) (by decide) (fun h => absurd h h8) (fun _ => ?_)
              refine v_iload_n C 2 dM_greatest_168 rfl rfl ?_
              refine v_cSr0 (As := [.int (nI ss)]) C (c_mSize l D cI cZ cJ (nI ss)) (va_cwS 1 C.2.2.2.2.1 gM_greatest_M_size rfl rfl rfl (by decide +kernel) ⟨Nat.le_of_ble_eq_true rfl, Nat.le_of_ble_eq_true rfl⟩) rfl rfl (Nat.le_of_ble_eq_true rfl) ⟨Nat.zero_le _, Nat.zero_le _⟩ dM_greatest_169 ?_
              refine v_iconst C (v := 1) dM_greatest_172 (by decide) ?_
              refine v_isub C dM_greatest_173 ?_
              refine v_iload_n C 1 dM_greatest_174 rfl rfl ?_
              refine v_icmp_le C dM_greatest_175 (tgt := 185) (by decide) (fun h9 => ?_) (fun h9 => ?_)
              · skip
                refine v_iinc C (v := nI (pp + 1)) (lv' := [(0, .ref (b 0)), (1, .int v), (2, .int (nI ss)), (3, .int (nI (pp + 1))), (4, .int (mGreatI F a2 P ss pp P 0 (mCan0 ss pp))), (5, .int (nI P))]) 3 [1, 2, 3, 0, 4, 5] dM_greatest_185 rfl (nI_1 pp) (by decide) rfl ?_
                refine v_goto C dM_greatest_188 (tgt := 16) (by decide) ?_
                refine v_loc (lv' := [(0, .ref (b 0)), (1, .int v), (2, .int (nI ss)), (3, .int (nI (pp + 1)))]) [0, 1, 2, 3] rfl ?_
                have hL : mGreatM F P ss kpp (pp + 1) v (updA a2 16 zz4) = mGreatM F P ss P 0 u a1 := (by rw [← hIpp]; simp only [mGreatM]; rw [hzz4, if_neg h7, if_neg h8, if_pos h9])
                exact ihpp v (updA a2 16 zz4) hL
              · skip
                refine v_iload_n C 2 dM_greatest_178 rfl rfl ?_
                refine v_cSr0 (As := [.int (nI ss)]) C (c_mSize l D cI cZ cJ (nI ss)) (va_cwS 1 C.2.2.2.2.1 gM_greatest_M_size rfl rfl rfl (by decide +kernel) ⟨Nat.le_of_ble_eq_true rfl, Nat.le_of_ble_eq_true rfl⟩) rfl rfl (Nat.le_of_ble_eq_true rfl) ⟨Nat.zero_le _, Nat.zero_le _⟩ dM_greatest_179 ?_
                refine v_iconst C (v := 1) dM_greatest_182 (by decide) ?_
                refine v_isub C dM_greatest_183 ?_
                refine v_istore_n C (lv' := [(0, .ref (b 0)), (1, .int ((mSize (nI ss)) - (1 : Int32))), (2, .int (nI ss)), (3, .int (nI pp)), (4, .int (mGreatI F a2 P ss pp P 0 (mCan0 ss pp))), (5, .int (nI P))]) [1, 0, 2, 3, 4, 5] dM_greatest_184 rfl (by decide) rfl ?_
                refine v_iinc C (v := nI (pp + 1)) (lv' := [(0, .ref (b 0)), (1, .int ((mSize (nI ss)) - (1 : Int32))), (2, .int (nI ss)), (3, .int (nI (pp + 1))), (4, .int (mGreatI F a2 P ss pp P 0 (mCan0 ss pp))), (5, .int (nI P))]) 3 [1, 2, 3, 0, 4, 5] dM_greatest_185 rfl (nI_1 pp) (by decide) rfl ?_
                refine v_goto C dM_greatest_188 (tgt := 16) (by decide) ?_
                refine v_loc (lv' := [(0, .ref (b 0)), (1, .int ((mSize (nI ss)) - (1 : Int32))), (2, .int (nI ss)), (3, .int (nI (pp + 1)))]) [0, 1, 2, 3] rfl ?_
                have hL : mGreatM F P ss kpp (pp + 1) ((mSize (nI ss)) - (1 : Int32)) (updA a2 16 zz4) = mGreatM F P ss P 0 u a1 := (by rw [← hIpp]; simp only [mGreatM]; rw [hzz4, if_neg h7, if_neg h8, if_neg h9])
                exact ihpp ((mSize (nI ss)) - (1 : Int32)) (updA a2 16 zz4) hL
      · skip
        refine v_iload_n C 2 dM_greatest_24 rfl rfl ?_
        refine v_iconst C (v := 1) dM_greatest_25 (by decide) ?_
        refine v_iload_n C 3 dM_greatest_26 rfl rfl ?_
        refine v_ishl C dM_greatest_27 ?_
        refine v_icmp_ne C dM_greatest_28 (tgt := 35) (by decide) (fun h10 => ?_) (fun h10 => ?_)
        · skip
          refine v_iconst C (v := 0) dM_greatest_35 (by decide) ?_
          refine v_istore C (lv' := [(0, .ref (b 0)), (1, .int v), (2, .int (nI ss)), (3, .int (nI pp)), (4, .int 0)]) [1, 2, 3, 4, 0] dM_greatest_36 (by decide) rfl ?_
          have hE : mCan0 ss pp = 0 := by unfold mCan0; rw [if_neg h10]
          rw [hE] at hJ
          exact hJ
        · skip
          refine v_iconst C (v := 1) dM_greatest_31 (by decide) ?_
          refine v_goto C dM_greatest_32 (tgt := 36) (by decide) ?_
          refine v_istore C (lv' := [(0, .ref (b 0)), (1, .int v), (2, .int (nI ss)), (3, .int (nI pp)), (4, .int 1)]) [1, 2, 3, 4, 0] dM_greatest_36 (by decide) rfl ?_
          have hE : mCan0 ss pp = 1 := by unfold mCan0; rw [if_pos h10]
          rw [hE] at hJ
          exact hJ
    · skip
      intro v a2 hIpp
      have hIpp : mGreatM F P ss 0 P v a2 = mGreatM F P ss P 0 u a1 := hIpp
      refine v_as (w' := wM cI cZ b F a2) (lv' := [(0, .ref (b 0)), (1, .int v), (2, .int (nI ss)), (3, .int (nI P))]) rfl rfl ?_
      obtain ⟨rfl, rfl⟩ : v = (mGreatM F P ss P 0 u a1).1 ∧ a2 = (mGreatM F P ss P 0 u a1).2 := by rw [← hIpp]; exact ⟨rfl, rfl⟩
      refine v_iload_n C 3 dM_greatest_16 rfl rfl ?_
      refine v_aload_n C 0 dM_greatest_17 rfl rfl ?_
      refine v_get C (T := TcM) (N := 18) (ci := 2) (v := .int (F 0)) inM_greatest_M 0 rfl rfl 0 (by decide) (by decide +kernel) rfl rfl dM_greatest_18 ?_
      refine v_top (y := nI P) hp ?_
      refine v_icmp_ge C dM_greatest_21 (tgt := 191) (by decide) (fun _ => ?_) (fun h => absurd (nI_le (a := P) (b := P) (by omega) (by omega)) h)
      refine v_iinc C (v := nI (ss + 1)) (lv' := [(0, .ref (b 0)), (1, .int ((mGreatM F P ss P 0 u a1).1)), (2, .int (nI (ss + 1))), (3, .int (nI P))]) 2 [1, 2, 0, 3] dM_greatest_191 rfl (nI_1 ss) (by decide) rfl ?_
      refine v_goto C dM_greatest_194 (tgt := 4) (by decide) ?_
      refine v_loc (lv' := [(0, .ref (b 0)), (1, .int ((mGreatM F P ss P 0 u a1).1)), (2, .int (nI (ss + 1)))]) [0, 1, 2] rfl ?_
      have hL : mGreatL F P kss (ss + 1) ((mGreatM F P ss P 0 u a1).1) ((mGreatM F P ss P 0 u a1).2) = mGreatL F P (2 ^ P - 1) 1 0 a := (by rw [← hIss]; simp only [mGreatL])
      exact ihss ((mGreatM F P ss P 0 u a1).1) ((mGreatM F P ss P 0 u a1).2) hL
  · skip
    intro u a1 hIss
    have hIss : mGreatL F P 0 (2 ^ P) u a1 = mGreatL F P (2 ^ P - 1) 1 0 a := hIss
    refine v_as (w' := wM cI cZ b F a1) (lv' := [(0, .ref (b 0)), (1, .int u), (2, .int (nI (2 ^ P)))]) rfl rfl ?_
    obtain ⟨rfl, rfl⟩ : u = (mGreatL F P (2 ^ P - 1) 1 0 a).1 ∧ a1 = (mGreatL F P (2 ^ P - 1) 1 0 a).2 := by rw [← hIss]; exact ⟨rfl, rfl⟩
    refine v_iload_n C 2 dM_greatest_4 rfl rfl ?_
    refine v_iconst C (v := 1) dM_greatest_5 (by decide) ?_
    refine v_aload_n C 0 dM_greatest_6 rfl rfl ?_
    refine v_get C (T := TcM) (N := 18) (ci := 2) (v := .int (F 0)) inM_greatest_M 0 rfl rfl 0 (by decide) (by decide +kernel) rfl rfl dM_greatest_7 ?_
    refine v_top (y := nI P) hp ?_
    refine v_ishl C dM_greatest_10 ?_
    refine v_top (y := nI (2 ^ P)) (shl_P hp6) ?_
    refine v_icmp_ge C dM_greatest_11 (tgt := 197) (by decide) (fun _ => ?_) (fun h => absurd (nI_le (a := 2 ^ P) (b := 2 ^ P) (by omega) (by omega)) h)
    refine v_iload_n C 1 dM_greatest_197 rfl rfl ?_
    have hE : ((mGreatL F P (2 ^ P - 1) 1 0 a).1, (mGreatL F P (2 ^ P - 1) 1 0 a).2) = mGreat F a P := (by unfold mGreat; rfl)
    exact v_iret C hr (by rw [← hE]) (by rw [← hE]) dM_greatest_198

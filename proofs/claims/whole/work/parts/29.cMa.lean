set_option maxHeartbeats 4000000 in
set_option maxRecDepth 100000 in
theorem c_mThrown (l : Launch) (D : va_G) (cI cZ cJ : ClassId) (b : Nat → Nat) (F : FT) (a : AT) : Kr l yM_thrown wM_thrown ({ frames := 0, cells := 0, slots := 0, locals := 0 } : Room) D vwCl (tyG cI cZ cJ) [.ref (b 0)] (wM cI cZ b F a) (mThrown F a) := by
  intro sz
  refine v_ent (cc := bM_thrown) (maxL := 1) (ret := (some .int)) (Qc := (fun _ _ st oc t => oc = .returned (some (.int (mThrown F a))) ∧ t.heap = st.heap)) (fr := (fun _ _ => False)) (own := RcM) rfl (by decide) rfl (Nat.le_of_ble_eq_true rfl) rfl ?_
  intro p e s m args below meth c A C hr _
  refine v_aload_n C 0 dM_thrown_0 rfl rfl ?_
  refine v_get C (T := TcM) (N := 18) (ci := 2) (v := .int (F 2)) inM_thrown_M 0 rfl rfl 2 (by decide) (by decide +kernel) rfl rfl dM_thrown_1 ?_
  exact v_irr C hr (by unfold mThrown; rfl) dM_thrown_4
set_option maxHeartbeats 4000000 in
set_option maxRecDepth 100000 in
theorem c_mFail (l : Launch) (D : va_G) (cI cZ cJ : ClassId) (b : Nat → Nat) (F : FT) (a : AT) (x : Int32) : Ki l yM_fail wM_fail ({ frames := 0, cells := 0, slots := 0, locals := 0 } : Room) D vwCl (tyG cI cZ cJ) [.ref (b 0), .int x] (wM cI cZ b F a) ((mFail F a x).1) (wM cI cZ b ((mFail F a x).2) a) := by
  intro sz
  refine v_ent (cc := bM_fail) (maxL := 2) (ret := (some .int)) (Qc := (fun A => va_Qi (fun (x9 : Int32) (_ : Unit) => x9 = (mFail F a x).1) (fun _ => wB D vwCl (tyG cI cZ cJ) A (wM cI cZ b ((mFail F a x).2) a)) A)) (fr := (fun A => A)) (own := RcM) rfl (by decide) rfl (Nat.le_of_ble_eq_true rfl) rfl ?_
  intro p e s m args below meth c A C hr _
  refine v_free ?_
  refine v_aload_n C 0 dM_fail_0 rfl rfl ?_
  refine v_iload_n C 1 dM_fail_1 rfl rfl ?_
  refine v_put C (T := TcM) (N := 18) (ci := 2) (v := .int x) inM_fail_M tycM tycM_ok nmcM 0 rfl rfl 2 (by decide) (by decide +kernel) rfl rfl rfl rfl (Nat.le_of_ble_eq_true rfl) dM_fail_2 (w1 := wM cI cZ b (upd F 2 x) a) rfl ?_
  refine v_iconst C (v := 0) dM_fail_5 (by decide) ?_
  have hE : (0, upd F 2 x) = mFail F a x := (by unfold mFail; rfl)
  exact v_iret C hr (by rw [← hE]) (by rw [← hE]) dM_fail_6
set_option maxHeartbeats 4000000 in
set_option maxRecDepth 100000 in
theorem c_mIsParty (l : Launch) (D : va_G) (cI cZ cJ : ClassId) (b : Nat → Nat) (F : FT) (a : AT) (x : Int32) : Kr l yM_isParty wM_isParty ({ frames := 0, cells := 0, slots := 0, locals := 0 } : Room) D vwCl (tyG cI cZ cJ) [.ref (b 0), .int x] (wM cI cZ b F a) (mIsParty F a x) := by
  intro sz
  refine v_ent (cc := bM_isParty) (maxL := 2) (ret := (some .boolean)) (Qc := (fun _ _ st oc t => oc = .returned (some (.int (mIsParty F a x))) ∧ t.heap = st.heap)) (fr := (fun _ _ => False)) (own := RcM) rfl (by decide) rfl (Nat.le_of_ble_eq_true rfl) rfl ?_
  intro p e s m args below meth c A C hr _
  refine v_iload_n C 1 dM_isParty_0 rfl rfl ?_
  refine v_if_lt C dM_isParty_1 (tgt := 16) (by decide) (fun h1 => ?_) (fun h1 => ?_)
  · skip
    refine v_iconst C (v := 0) dM_isParty_16 (by decide) ?_
    exact v_zrr C hr (by decide) (by unfold mIsParty; rw [if_pos h1]) dM_isParty_17
  · skip
    refine v_iload_n C 1 dM_isParty_4 rfl rfl ?_
    refine v_aload_n C 0 dM_isParty_5 rfl rfl ?_
    refine v_get C (T := TcM) (N := 18) (ci := 2) (v := .int (F 0)) inM_isParty_M 0 rfl rfl 0 (by decide) (by decide +kernel) rfl rfl dM_isParty_6 ?_
    refine v_icmp_ge C dM_isParty_9 (tgt := 16) (by decide) (fun h2 => ?_) (fun h2 => ?_)
    · skip
      refine v_iconst C (v := 0) dM_isParty_16 (by decide) ?_
      exact v_zrr C hr (by decide) (by unfold mIsParty; rw [if_neg h1, if_pos h2]) dM_isParty_17
    · skip
      refine v_iconst C (v := 1) dM_isParty_12 (by decide) ?_
      refine v_goto C dM_isParty_13 (tgt := 17) (by decide) ?_
      exact v_zrr C hr (by decide) (by unfold mIsParty; rw [if_neg h1, if_neg h2]) dM_isParty_17
set_option maxHeartbeats 4000000 in
set_option maxRecDepth 100000 in
theorem c_mIsArc (l : Launch) (D : va_G) (cI cZ cJ : ClassId) (b : Nat → Nat) (F : FT) (a : AT) (x : Int32) : Kr l yM_isArc wM_isArc ({ frames := 0, cells := 0, slots := 0, locals := 0 } : Room) D vwCl (tyG cI cZ cJ) [.ref (b 0), .int x] (wM cI cZ b F a) (mIsArc F a x) := by
  intro sz
  refine v_ent (cc := bM_isArc) (maxL := 2) (ret := (some .boolean)) (Qc := (fun _ _ st oc t => oc = .returned (some (.int (mIsArc F a x))) ∧ t.heap = st.heap)) (fr := (fun _ _ => False)) (own := RcM) rfl (by decide) rfl (Nat.le_of_ble_eq_true rfl) rfl ?_
  intro p e s m args below meth c A C hr _
  refine v_iload_n C 1 dM_isArc_0 rfl rfl ?_
  refine v_if_lt C dM_isArc_1 (tgt := 16) (by decide) (fun h1 => ?_) (fun h1 => ?_)
  · skip
    refine v_iconst C (v := 0) dM_isArc_16 (by decide) ?_
    exact v_zrr C hr (by decide) (by unfold mIsArc; rw [if_pos h1]) dM_isArc_17
  · skip
    refine v_iload_n C 1 dM_isArc_4 rfl rfl ?_
    refine v_aload_n C 0 dM_isArc_5 rfl rfl ?_
    refine v_get C (T := TcM) (N := 18) (ci := 2) (v := .int (F 9)) inM_isArc_M 0 rfl rfl 9 (by decide) (by decide +kernel) rfl rfl dM_isArc_6 ?_
    refine v_icmp_ge C dM_isArc_9 (tgt := 16) (by decide) (fun h2 => ?_) (fun h2 => ?_)
    · skip
      refine v_iconst C (v := 0) dM_isArc_16 (by decide) ?_
      exact v_zrr C hr (by decide) (by unfold mIsArc; rw [if_neg h1, if_pos h2]) dM_isArc_17
    · skip
      refine v_iconst C (v := 1) dM_isArc_12 (by decide) ?_
      refine v_goto C dM_isArc_13 (tgt := 17) (by decide) ?_
      exact v_zrr C hr (by decide) (by unfold mIsArc; rw [if_neg h1, if_neg h2]) dM_isArc_17
set_option maxHeartbeats 4000000 in
set_option maxRecDepth 100000 in
theorem c_mHas (l : Launch) (D : va_G) (cI cZ cJ : ClassId) (x : Int32) (y : Int32) : Kr l yM_has wM_has ({ frames := 0, cells := 0, slots := 0, locals := 0 } : Room) D vwCl (tyG cI cZ cJ) [.int x, .int y] ([]) (mHas x y) := by
  intro sz
  refine v_ent (cc := bM_has) (maxL := 2) (ret := (some .boolean)) (Qc := (fun _ _ st oc t => oc = .returned (some (.int (mHas x y))) ∧ t.heap = st.heap)) (fr := (fun _ _ => False)) (own := RcM) rfl (by decide) rfl (Nat.le_of_ble_eq_true rfl) rfl ?_
  intro p e s m args below meth c A C hr _
  refine v_iload_n C 0 dM_has_0 rfl rfl ?_
  refine v_iload_n C 1 dM_has_1 rfl rfl ?_
  refine v_ishr C dM_has_2 ?_
  refine v_iconst C (v := 1) dM_has_3 (by decide) ?_
  refine v_iand C dM_has_4 ?_
  refine v_iconst C (v := 1) dM_has_5 (by decide) ?_
  refine v_icmp_ne C dM_has_6 (tgt := 13) (by decide) (fun h1 => ?_) (fun h1 => ?_)
  · skip
    refine v_iconst C (v := 0) dM_has_13 (by decide) ?_
    exact v_zrr C hr (by decide) (by unfold mHas; rw [if_neg h1]) dM_has_14
  · skip
    refine v_iconst C (v := 1) dM_has_9 (by decide) ?_
    refine v_goto C dM_has_10 (tgt := 14) (by decide) ?_
    exact v_zrr C hr (by decide) (by unfold mHas; rw [if_pos h1]) dM_has_14
set_option maxHeartbeats 4000000 in
set_option maxRecDepth 100000 in
theorem c_mSize (l : Launch) (D : va_G) (cI cZ cJ : ClassId) (x : Int32) : Kr l yM_size wM_size ({ frames := 0, cells := 0, slots := 0, locals := 0 } : Room) D vwCl (tyG cI cZ cJ) [.int x] ([]) (mSize x) := by
  intro sz
  refine v_ent (cc := bM_size) (maxL := 3) (ret := (some .int)) (Qc := (fun _ _ st oc t => oc = .returned (some (.int (mSize x))) ∧ t.heap = st.heap)) (fr := (fun _ _ => False)) (own := RcM) rfl (by decide) rfl (Nat.le_of_ble_eq_true rfl) rfl ?_
  intro p e s m args below meth c A C hr _
  refine v_iconst C (v := 0) dM_size_0 (by decide) ?_
  refine v_istore_n C (lv' := [(0, .int x), (1, .int 0)]) [1, 0] dM_size_1 rfl (by decide) rfl ?_
  refine v_iconst C (v := 0) dM_size_2 (by decide) ?_
  refine v_istore_n C (lv' := [(0, .int x), (1, .int 0), (2, .int 0)]) [1, 2, 0] dM_size_3 rfl (by decide) rfl ?_
  refine v_loop1 6 (fun (i : Nat) (u : Int32) => []) (fun (i : Nat) (u : Int32) => [(0, .int x), (1, .int u), (2, .int (nI i))]) (fun (ki i : Nat) (u : Int32) => mSizeL x ki i u = mSizeL x 6 0 0) ?_ ?_ 6 0 0 (by omega) rfl
  · skip
    intro ki i u hki hIi ihi
    have hIi : mSizeL x (ki + 1) i u = mSizeL x 6 0 0 := hIi
    refine v_as (w' := []) (lv' := [(0, .int x), (1, .int u), (2, .int (nI i))]) rfl rfl ?_
    refine v_iload_n C 2 dM_size_4 rfl rfl ?_
    refine v_bipush C (v := 6) dM_size_5 (by decide) ?_
    refine v_icmp_ge C dM_size_7 (tgt := 24) (by decide) (fun h => absurd h (nI_ge (a := i) (b := 6) (by omega) (by omega))) (fun _ => ?_)
    refine v_iload_n C 1 dM_size_10 rfl rfl ?_
    refine v_iload_n C 0 dM_size_11 rfl rfl ?_
    refine v_iload_n C 2 dM_size_12 rfl rfl ?_
    refine v_ishr C dM_size_13 ?_
    refine v_iconst C (v := 1) dM_size_14 (by decide) ?_
    refine v_iand C dM_size_15 ?_
    refine v_iadd C dM_size_16 ?_
    refine v_istore_n C (lv' := [(0, .int x), (1, .int (u + ((x >>> ((nI i) &&& 31)) &&& (1 : Int32)))), (2, .int (nI i))]) [1, 0, 2] dM_size_17 rfl (by decide) rfl ?_
    refine v_iinc C (v := nI (i + 1)) (lv' := [(0, .int x), (1, .int (u + ((x >>> ((nI i) &&& 31)) &&& (1 : Int32)))), (2, .int (nI (i + 1)))]) 2 [1, 2, 0] dM_size_18 rfl (nI_1 i) (by decide) rfl ?_
    refine v_goto C dM_size_21 (tgt := 4) (by decide) ?_
    have hL : mSizeL x ki (i + 1) (u + ((x >>> ((nI i) &&& 31)) &&& (1 : Int32))) = mSizeL x 6 0 0 := (by rw [← hIi]; simp only [mSizeL])
    exact ihi (u + ((x >>> ((nI i) &&& 31)) &&& (1 : Int32))) hL
  · skip
    intro u hIi
    have hIi : mSizeL x 0 6 u = mSizeL x 6 0 0 := hIi
    refine v_as (w' := []) (lv' := [(0, .int x), (1, .int u), (2, .int (nI 6))]) rfl rfl ?_
    have hIi : u = mSizeL x 6 0 0 := hIi
    subst hIi
    refine v_iload_n C 2 dM_size_4 rfl rfl ?_
    refine v_bipush C (v := 6) dM_size_5 (by decide) ?_
    refine v_icmp_ge C dM_size_7 (tgt := 24) (by decide) (fun _ => ?_) (fun h => absurd (nI_le (a := 6) (b := 6) (by omega) (by omega)) h)
    refine v_iload_n C 1 dM_size_24 rfl rfl ?_
    exact v_irr C hr (by unfold mSize; rfl) dM_size_25
set_option maxHeartbeats 4000000 in
set_option maxRecDepth 100000 in
theorem c_mMany (l : Launch) (D : va_G) (cI cZ cJ : ClassId) (row : Int32) : Kr l yM_many wM_many ({ frames := 0, cells := 0, slots := 0, locals := 0 } : Room) D vwCl (tyG cI cZ cJ) [.int row] ([]) (mMany row) := by
  intro sz
  refine v_ent (cc := bM_many) (maxL := 1) (ret := (some .int)) (Qc := (fun _ _ st oc t => oc = .returned (some (.int (mMany row))) ∧ t.heap = st.heap)) (fr := (fun _ _ => False)) (own := RcM) rfl (by decide) rfl (Nat.le_of_ble_eq_true rfl) rfl ?_
  intro p e s m args below meth c A C hr _
  refine v_iload_n C 0 dM_many_0 rfl rfl ?_
  refine v_bipush C (v := 18) dM_many_1 (by decide) ?_
  refine v_ishr C dM_many_3 ?_
  exact v_irr C hr (by unfold mMany; rfl) dM_many_4
set_option maxHeartbeats 4000000 in
set_option maxRecDepth 100000 in
theorem c_mMember (l : Launch) (D : va_G) (cI cZ cJ : ClassId) (row : Int32) (k : Int32) : Kr l yM_member wM_member ({ frames := 0, cells := 0, slots := 0, locals := 0 } : Room) D vwCl (tyG cI cZ cJ) [.int row, .int k] ([]) (mMember row k) := by
  intro sz
  refine v_ent (cc := bM_member) (maxL := 2) (ret := (some .int)) (Qc := (fun _ _ st oc t => oc = .returned (some (.int (mMember row k))) ∧ t.heap = st.heap)) (fr := (fun _ _ => False)) (own := RcM) rfl (by decide) rfl (Nat.le_of_ble_eq_true rfl) rfl ?_
  intro p e s m args below meth c A C hr _
  refine v_iload_n C 0 dM_member_0 rfl rfl ?_
  refine v_iconst C (v := 3) dM_member_1 (by decide) ?_
  refine v_iload_n C 1 dM_member_2 rfl rfl ?_
  refine v_imul C dM_member_3 ?_
  refine v_ishr C dM_member_4 ?_
  refine v_bipush C (v := 7) dM_member_5 (by decide) ?_
  refine v_iand C dM_member_7 ?_
  exact v_irr C hr (by unfold mMember; rfl) dM_member_8
set_option maxHeartbeats 4000000 in
set_option maxRecDepth 100000 in
theorem c_mMembers (l : Launch) (D : va_G) (cI cZ cJ : ClassId) (mm : Nat) (row : Int32) (hm : mMany row = nI mm) (hm6 : mm ≤ 6) : Kr l yM_members wM_members ({ frames := 1, cells := 0, slots := 0, locals := 21 } : Room) D vwCl (tyG cI cZ cJ) [.int row] ([]) (mMembers mm row) := by
  intro sz
  refine v_ent (cc := bM_members) (maxL := 3) (ret := (some .int)) (Qc := (fun _ _ st oc t => oc = .returned (some (.int (mMembers mm row))) ∧ t.heap = st.heap)) (fr := (fun _ _ => False)) (own := RcM) rfl (by decide) rfl (Nat.le_of_ble_eq_true rfl) rfl ?_
  intro p e s m args below meth c A C hr _
  refine v_iconst C (v := 0) dM_members_0 (by decide) ?_
  refine v_istore_n C (lv' := [(0, .int row), (1, .int 0)]) [1, 0] dM_members_1 rfl (by decide) rfl ?_
  refine v_iconst C (v := 0) dM_members_2 (by decide) ?_
  refine v_istore_n C (lv' := [(0, .int row), (1, .int 0), (2, .int 0)]) [1, 2, 0] dM_members_3 rfl (by decide) rfl ?_
  refine v_loop1 mm (fun (i : Nat) (u : Int32) => []) (fun (i : Nat) (u : Int32) => [(0, .int row), (1, .int u), (2, .int (nI i))]) (fun (ki i : Nat) (u : Int32) => mMembersL mm row ki i u = mMembersL mm row mm 0 0) ?_ ?_ mm 0 0 (by omega) rfl
  · skip
    intro ki i u hki hIi ihi
    have hIi : mMembersL mm row (ki + 1) i u = mMembersL mm row mm 0 0 := hIi
    refine v_as (w' := []) (lv' := [(0, .int row), (1, .int u), (2, .int (nI i))]) rfl rfl ?_
    refine v_iload_n C 2 dM_members_4 rfl rfl ?_
    refine v_iload_n C 0 dM_members_5 rfl rfl ?_
    refine v_cSr0 (As := [.int row]) C (c_mMany l D cI cZ cJ row) (va_cwS 1 C.2.2.2.2.1 gM_members_M_many rfl rfl rfl (by decide +kernel) ⟨Nat.le_of_ble_eq_true rfl, Nat.le_of_ble_eq_true rfl⟩) rfl rfl (Nat.le_of_ble_eq_true rfl) ⟨Nat.zero_le _, Nat.zero_le _⟩ dM_members_6 ?_
    refine v_top (y := nI mm) hm ?_
    refine v_icmp_ge C dM_members_9 (tgt := 28) (by decide) (fun h => absurd h (nI_ge (a := i) (b := mm) (by omega) (by omega))) (fun _ => ?_)
    refine v_iload_n C 1 dM_members_12 rfl rfl ?_
    refine v_iconst C (v := 1) dM_members_13 (by decide) ?_
    refine v_iload_n C 0 dM_members_14 rfl rfl ?_
    refine v_iload_n C 2 dM_members_15 rfl rfl ?_
    refine v_cSr0 (As := [.int row, .int (nI i)]) C (c_mMember l D cI cZ cJ row (nI i)) (va_cwS 2 C.2.2.2.2.1 gM_members_M_member rfl rfl rfl (by decide +kernel) ⟨Nat.le_of_ble_eq_true rfl, Nat.le_of_ble_eq_true rfl⟩) rfl rfl (Nat.le_of_ble_eq_true rfl) ⟨Nat.zero_le _, Nat.zero_le _⟩ dM_members_16 ?_
    refine v_ishl C dM_members_19 ?_
    refine v_ior C dM_members_20 ?_
    refine v_istore_n C (lv' := [(0, .int row), (1, .int (u ||| ((1 : Int32) <<< ((mMember row (nI i)) &&& 31)))), (2, .int (nI i))]) [1, 0, 2] dM_members_21 rfl (by decide) rfl ?_
    refine v_iinc C (v := nI (i + 1)) (lv' := [(0, .int row), (1, .int (u ||| ((1 : Int32) <<< ((mMember row (nI i)) &&& 31)))), (2, .int (nI (i + 1)))]) 2 [1, 2, 0] dM_members_22 rfl (nI_1 i) (by decide) rfl ?_
    refine v_goto C dM_members_25 (tgt := 4) (by decide) ?_
    have hL : mMembersL mm row ki (i + 1) (u ||| ((1 : Int32) <<< ((mMember row (nI i)) &&& 31))) = mMembersL mm row mm 0 0 := (by rw [← hIi]; simp only [mMembersL])
    exact ihi (u ||| ((1 : Int32) <<< ((mMember row (nI i)) &&& 31))) hL
  · skip
    intro u hIi
    have hIi : mMembersL mm row 0 mm u = mMembersL mm row mm 0 0 := hIi
    refine v_as (w' := []) (lv' := [(0, .int row), (1, .int u), (2, .int (nI mm))]) rfl rfl ?_
    have hIi : u = mMembersL mm row mm 0 0 := hIi
    subst hIi
    refine v_iload_n C 2 dM_members_4 rfl rfl ?_
    refine v_iload_n C 0 dM_members_5 rfl rfl ?_
    refine v_cSr0 (As := [.int row]) C (c_mMany l D cI cZ cJ row) (va_cwS 1 C.2.2.2.2.1 gM_members_M_many rfl rfl rfl (by decide +kernel) ⟨Nat.le_of_ble_eq_true rfl, Nat.le_of_ble_eq_true rfl⟩) rfl rfl (Nat.le_of_ble_eq_true rfl) ⟨Nat.zero_le _, Nat.zero_le _⟩ dM_members_6 ?_
    refine v_top (y := nI mm) hm ?_
    refine v_icmp_ge C dM_members_9 (tgt := 28) (by decide) (fun _ => ?_) (fun h => absurd (nI_le (a := mm) (b := mm) (by omega) (by omega)) h)
    refine v_iload_n C 1 dM_members_28 rfl rfl ?_
    exact v_irr C hr (by unfold mMembers; rfl) dM_members_29
set_option maxHeartbeats 4000000 in
set_option maxRecDepth 100000 in
theorem c_mBefore (l : Launch) (D : va_G) (cI cZ cJ : ClassId) (x : Int32) (row : Int32) : Kr l yM_before wM_before ({ frames := 1, cells := 0, slots := 0, locals := 20 } : Room) D vwCl (tyG cI cZ cJ) [.int x, .int row] ([]) (mBefore x row) := by
  intro sz
  refine v_ent (cc := bM_before) (maxL := 2) (ret := (some .int)) (Qc := (fun _ _ st oc t => oc = .returned (some (.int (mBefore x row))) ∧ t.heap = st.heap)) (fr := (fun _ _ => False)) (own := RcM) rfl (by decide) rfl (Nat.le_of_ble_eq_true rfl) rfl ?_
  intro p e s m args below meth c A C hr _
  refine v_iload_n C 1 dM_before_0 rfl rfl ?_
  refine v_ldc C (v := 262143) (by decide +kernel) dM_before_1 ?_
  refine v_iand C dM_before_3 ?_
  refine v_iconst C (v := 3) dM_before_4 (by decide) ?_
  refine v_ishl C dM_before_5 ?_
  refine v_ldc C (v := 262143) (by decide +kernel) dM_before_6 ?_
  refine v_iand C dM_before_8 ?_
  refine v_iload_n C 0 dM_before_9 rfl rfl ?_
  refine v_ior C dM_before_10 ?_
  refine v_iload_n C 1 dM_before_11 rfl rfl ?_
  refine v_cSr0 (As := [.int row]) C (c_mMany l D cI cZ cJ row) (va_cwS 1 C.2.2.2.2.1 gM_before_M_many rfl rfl rfl (by decide +kernel) ⟨Nat.le_of_ble_eq_true rfl, Nat.le_of_ble_eq_true rfl⟩) rfl rfl (Nat.le_of_ble_eq_true rfl) ⟨Nat.zero_le _, Nat.zero_le _⟩ dM_before_12 ?_
  refine v_iconst C (v := 1) dM_before_15 (by decide) ?_
  refine v_iadd C dM_before_16 ?_
  refine v_bipush C (v := 18) dM_before_17 (by decide) ?_
  refine v_ishl C dM_before_19 ?_
  refine v_ior C dM_before_20 ?_
  exact v_irr C hr (by unfold mBefore; rfl) dM_before_21
set_option maxHeartbeats 4000000 in
set_option maxRecDepth 100000 in
theorem c_mBehind (l : Launch) (D : va_G) (cI cZ cJ : ClassId) (row : Int32) : Kr l yM_behind wM_behind ({ frames := 1, cells := 0, slots := 0, locals := 20 } : Room) D vwCl (tyG cI cZ cJ) [.int row] ([]) (mBehind row) := by
  intro sz
  refine v_ent (cc := bM_behind) (maxL := 1) (ret := (some .int)) (Qc := (fun _ _ st oc t => oc = .returned (some (.int (mBehind row))) ∧ t.heap = st.heap)) (fr := (fun _ _ => False)) (own := RcM) rfl (by decide) rfl (Nat.le_of_ble_eq_true rfl) rfl ?_
  intro p e s m args below meth c A C hr _
  refine v_iload_n C 0 dM_behind_0 rfl rfl ?_
  refine v_ldc C (v := 262143) (by decide +kernel) dM_behind_1 ?_
  refine v_iand C dM_behind_3 ?_
  refine v_iconst C (v := 3) dM_behind_4 (by decide) ?_
  refine v_ishr C dM_behind_5 ?_
  refine v_iload_n C 0 dM_behind_6 rfl rfl ?_
  refine v_cSr0 (As := [.int row]) C (c_mMany l D cI cZ cJ row) (va_cwS 1 C.2.2.2.2.1 gM_behind_M_many rfl rfl rfl (by decide +kernel) ⟨Nat.le_of_ble_eq_true rfl, Nat.le_of_ble_eq_true rfl⟩) rfl rfl (Nat.le_of_ble_eq_true rfl) ⟨Nat.zero_le _, Nat.zero_le _⟩ dM_behind_7 ?_
  refine v_iconst C (v := 1) dM_behind_10 (by decide) ?_
  refine v_isub C dM_behind_11 ?_
  refine v_bipush C (v := 18) dM_behind_12 (by decide) ?_
  refine v_ishl C dM_behind_14 ?_
  refine v_ior C dM_behind_15 ?_
  exact v_irr C hr (by unfold mBehind; rfl) dM_behind_16
set_option maxHeartbeats 4000000 in
set_option maxRecDepth 100000 in
theorem c_mIsInTime (l : Launch) (D : va_G) (cI cZ cJ : ClassId) (b : Nat → Nat) (F : FT) (a : AT) (x : Int32) : Kr l yM_isInTime wM_isInTime ({ frames := 0, cells := 0, slots := 0, locals := 0 } : Room) D vwCl (tyG cI cZ cJ) [.ref (b 0), .int x] (wM cI cZ b F a) (mIsInTime F a x) := by
  intro sz
  refine v_ent (cc := bM_isInTime) (maxL := 2) (ret := (some .boolean)) (Qc := (fun _ _ st oc t => oc = .returned (some (.int (mIsInTime F a x))) ∧ t.heap = st.heap)) (fr := (fun _ _ => False)) (own := RcM) rfl (by decide) rfl (Nat.le_of_ble_eq_true rfl) rfl ?_
  intro p e s m args below meth c A C hr _
  refine v_aload_n C 0 dM_isInTime_0 rfl rfl ?_
  refine v_get C (T := TcM) (N := 18) (ci := 2) (v := .int (F 3)) inM_isInTime_M 0 rfl rfl 3 (by decide) (by decide +kernel) rfl rfl dM_isInTime_1 ?_
  refine v_aload_n C 0 dM_isInTime_4 rfl rfl ?_
  refine v_get C (T := TcM) (N := 18) (ci := 2) (v := .int (F 5)) inM_isInTime_M 0 rfl rfl 5 (by decide) (by decide +kernel) rfl rfl dM_isInTime_5 ?_
  refine v_aload_n C 0 dM_isInTime_8 rfl rfl ?_
  refine v_get C (T := TcM) (N := 18) (ci := 2) (v := .int (F 6)) inM_isInTime_M 0 rfl rfl 6 (by decide) (by decide +kernel) rfl rfl dM_isInTime_9 ?_
  refine v_iload_n C 1 dM_isInTime_12 rfl rfl ?_
  refine v_iadd C dM_isInTime_13 ?_
  refine v_aload_n C 0 dM_isInTime_14 rfl rfl ?_
  refine v_get C (T := TcM) (N := 18) (ci := 2) (v := .int (F 1)) inM_isInTime_M 0 rfl rfl 1 (by decide) (by decide +kernel) rfl rfl dM_isInTime_15 ?_
  refine v_imul C dM_isInTime_18 ?_
  refine v_iadd C dM_isInTime_19 ?_
  refine v_icmp_ge C dM_isInTime_20 (tgt := 27) (by decide) (fun h1 => ?_) (fun h1 => ?_)
  · skip
    refine v_iconst C (v := 0) dM_isInTime_27 (by decide) ?_
    exact v_zrr C hr (by decide) (by unfold mIsInTime; rw [if_pos h1]) dM_isInTime_28
  · skip
    refine v_iconst C (v := 1) dM_isInTime_23 (by decide) ?_
    refine v_goto C dM_isInTime_24 (tgt := 28) (by decide) ?_
    exact v_zrr C hr (by decide) (by unfold mIsInTime; rw [if_neg h1]) dM_isInTime_28
set_option maxHeartbeats 4000000 in
set_option maxRecDepth 100000 in
theorem c_mIsLate (l : Launch) (D : va_G) (cI cZ cJ : ClassId) (b : Nat → Nat) (F : FT) (a : AT) : Kr l yM_isLate wM_isLate ({ frames := 0, cells := 0, slots := 0, locals := 0 } : Room) D vwCl (tyG cI cZ cJ) [.ref (b 0)] (wM cI cZ b F a) (mIsLate F a) := by
  intro sz
  refine v_ent (cc := bM_isLate) (maxL := 1) (ret := (some .boolean)) (Qc := (fun _ _ st oc t => oc = .returned (some (.int (mIsLate F a))) ∧ t.heap = st.heap)) (fr := (fun _ _ => False)) (own := RcM) rfl (by decide) rfl (Nat.le_of_ble_eq_true rfl) rfl ?_
  intro p e s m args below meth c A C hr _
  refine v_aload_n C 0 dM_isLate_0 rfl rfl ?_
  refine v_get C (T := TcM) (N := 18) (ci := 2) (v := .int (F 3)) inM_isLate_M 0 rfl rfl 3 (by decide) (by decide +kernel) rfl rfl dM_isLate_1 ?_
  refine v_aload_n C 0 dM_isLate_4 rfl rfl ?_
  refine v_get C (T := TcM) (N := 18) (ci := 2) (v := .int (F 5)) inM_isLate_M 0 rfl rfl 5 (by decide) (by decide +kernel) rfl rfl dM_isLate_5 ?_
  refine v_iconst C (v := 2) dM_isLate_8 (by decide) ?_
  refine v_aload_n C 0 dM_isLate_9 rfl rfl ?_
  refine v_get C (T := TcM) (N := 18) (ci := 2) (v := .int (F 6)) inM_isLate_M 0 rfl rfl 6 (by decide) (by decide +kernel) rfl rfl dM_isLate_10 ?_
  refine v_imul C dM_isLate_13 ?_
  refine v_aload_n C 0 dM_isLate_14 rfl rfl ?_
  refine v_get C (T := TcM) (N := 18) (ci := 2) (v := .int (F 1)) inM_isLate_M 0 rfl rfl 1 (by decide) (by decide +kernel) rfl rfl dM_isLate_15 ?_
  refine v_imul C dM_isLate_18 ?_
  refine v_iadd C dM_isLate_19 ?_
  refine v_icmp_lt C dM_isLate_20 (tgt := 27) (by decide) (fun h1 => ?_) (fun h1 => ?_)
  · skip
    refine v_iconst C (v := 0) dM_isLate_27 (by decide) ?_
    exact v_zrr C hr (by decide) (by unfold mIsLate; rw [if_pos h1]) dM_isLate_28
  · skip
    refine v_iconst C (v := 1) dM_isLate_23 (by decide) ?_
    refine v_goto C dM_isLate_24 (tgt := 28) (by decide) ?_
    exact v_zrr C hr (by decide) (by unfold mIsLate; rw [if_neg h1]) dM_isLate_28

set_option maxHeartbeats 4000000 in
set_option maxRecDepth 100000 in
theorem c_rParty (l : Launch) (D : va_G) (cI cZ cJ : ClassId) (row : Int32) (k : Int32) : Kr l yR_party wR_party ({ frames := 0, cells := 0, slots := 0, locals := 0 } : Room) D vwCl (tyG cI cZ cJ) [.int row, .int k] ([]) (rParty row k) := by
  intro sz
  refine v_ent (cc := bR_party) (maxL := 2) (ret := (some .int)) (Qc := (fun _ _ st oc t => oc = .returned (some (.int (rParty row k))) ∧ t.heap = st.heap)) (fr := (fun _ _ => False)) (own := RcR) rfl (by decide) rfl (Nat.le_of_ble_eq_true rfl) rfl ?_
  intro p e s m args below meth c A C hr _
  refine v_iload_n C 1 dR_party_0 rfl rfl ?_
  refine v_if_lt C dR_party_1 (tgt := 10) (by decide) (fun h1 => ?_) (fun h1 => ?_)
  · skip
    refine v_iconst C (v := (-1)) dR_party_10 (by decide) ?_
    refine v_goto C dR_party_11 (tgt := 24) (by decide) ?_
    exact v_irr C hr (by unfold rParty; rw [if_pos h1]) dR_party_24
  · skip
    refine v_iload_n C 1 dR_party_4 rfl rfl ?_
    refine v_bipush C (v := 6) dR_party_5 (by decide) ?_
    refine v_icmp_lt C dR_party_7 (tgt := 14) (by decide) (fun h2 => ?_) (fun h2 => ?_)
    · skip
      refine v_iload_n C 0 dR_party_14 rfl rfl ?_
      refine v_iconst C (v := 3) dR_party_15 (by decide) ?_
      refine v_iload_n C 1 dR_party_16 rfl rfl ?_
      refine v_imul C dR_party_17 ?_
      refine v_iushr C dR_party_18 ?_
      refine v_bipush C (v := 7) dR_party_19 (by decide) ?_
      refine v_iand C dR_party_21 ?_
      refine v_iconst C (v := 1) dR_party_22 (by decide) ?_
      refine v_isub C dR_party_23 ?_
      exact v_irr C hr (by unfold rParty; rw [if_neg h1, if_pos h2]) dR_party_24
    · skip
      refine v_iconst C (v := (-1)) dR_party_10 (by decide) ?_
      refine v_goto C dR_party_11 (tgt := 24) (by decide) ?_
      exact v_irr C hr (by unfold rParty; rw [if_neg h1, if_neg h2]) dR_party_24
set_option maxHeartbeats 4000000 in
set_option maxRecDepth 100000 in
theorem c_rSize (l : Launch) (D : va_G) (cI cZ cJ : ClassId) (row : Int32) : Kr l yR_size wR_size ({ frames := 0, cells := 0, slots := 0, locals := 0 } : Room) D vwCl (tyG cI cZ cJ) [.int row] ([]) (rSize row) := by
  intro sz
  refine v_ent (cc := bR_size) (maxL := 2) (ret := (some .int)) (Qc := (fun _ _ st oc t => oc = .returned (some (.int (rSize row))) ∧ t.heap = st.heap)) (fr := (fun _ _ => False)) (own := RcR) rfl (by decide) rfl (Nat.le_of_ble_eq_true rfl) rfl ?_
  intro p e s m args below meth c A C hr _
  refine v_iconst C (v := 0) dR_size_0 (by decide) ?_
  refine v_istore_n C (lv' := [(0, .int row), (1, .int 0)]) [1, 0] dR_size_1 rfl (by decide) rfl ?_
  refine v_loop0 6 (fun (i : Nat) => []) (fun (i : Nat) => [(0, .int row), (1, .int (nI i))]) (fun (ki i : Nat) => rSizeL row ki i = rSize row) ?_ ?_ 6 0  (by omega) (by unfold rSize; rfl)
  · skip
    intro ki i hki hIi ihi
    have hIi : rSizeL row (ki + 1) i = rSize row := hIi
    refine v_as (w' := []) (lv' := [(0, .int row), (1, .int (nI i))]) rfl rfl ?_
    refine v_iload_n C 1 dR_size_2 rfl rfl ?_
    refine v_bipush C (v := 6) dR_size_3 (by decide) ?_
    refine v_icmp_ge C dR_size_5 (tgt := 22) (by decide) (fun h => absurd h (nI_ge (a := i) (b := 6) (by omega) (by omega))) (fun _ => ?_)
    refine v_iload_n C 0 dR_size_8 rfl rfl ?_
    refine v_iconst C (v := 3) dR_size_9 (by decide) ?_
    refine v_iload_n C 1 dR_size_10 rfl rfl ?_
    refine v_imul C dR_size_11 ?_
    refine v_iushr C dR_size_12 ?_
    refine v_if_eq C dR_size_13 (tgt := 22) (by decide) (fun h1 => ?_) (fun h1 => ?_)
    · skip
      refine v_iload_n C 1 dR_size_22 rfl rfl ?_
      exact v_irr C hr (by rw [← hIi]; simp only [rSizeL]; rw [if_pos h1]) dR_size_23
    · skip
      refine v_iinc C (v := nI (i + 1)) (lv' := [(0, .int row), (1, .int (nI (i + 1)))]) 1 [1, 0] dR_size_16 rfl (nI_1 i) (by decide) rfl ?_
      refine v_goto C dR_size_19 (tgt := 2) (by decide) ?_
      have hL : rSizeL row ki (i + 1) = rSize row := (by rw [← hIi]; simp only [rSizeL]; rw [if_neg h1])
      exact ihi  hL
  · skip
    intro hIi
    have hIi : rSizeL row 0 6 = rSize row := hIi
    refine v_as (w' := []) (lv' := [(0, .int row), (1, .int (nI 6))]) rfl rfl ?_
    refine v_iload_n C 1 dR_size_2 rfl rfl ?_
    refine v_bipush C (v := 6) dR_size_3 (by decide) ?_
    refine v_icmp_ge C dR_size_5 (tgt := 22) (by decide) (fun _ => ?_) (fun h => absurd (nI_le (a := 6) (b := 6) (by omega) (by omega)) h)
    refine v_iload_n C 1 dR_size_22 rfl rfl ?_
    exact v_irr C hr (by rw [← hIi]; simp only [rSizeL]) dR_size_23
set_option maxHeartbeats 4000000 in
set_option maxRecDepth 100000 in
theorem c_rFirst (l : Launch) (D : va_G) (cI cZ cJ : ClassId) (row : Int32) : Kr l yR_first wR_first ({ frames := 1, cells := 0, slots := 0, locals := 21 } : Room) D vwCl (tyG cI cZ cJ) [.int row] ([]) (rFirst row) := by
  intro sz
  refine v_ent (cc := bR_first) (maxL := 1) (ret := (some .int)) (Qc := (fun _ _ st oc t => oc = .returned (some (.int (rFirst row))) ∧ t.heap = st.heap)) (fr := (fun _ _ => False)) (own := RcR) rfl (by decide) rfl (Nat.le_of_ble_eq_true rfl) rfl ?_
  intro p e s m args below meth c A C hr _
  refine v_iload_n C 0 dR_first_0 rfl rfl ?_
  refine v_iconst C (v := 0) dR_first_1 (by decide) ?_
  refine v_cSr0 (As := [.int row, .int 0]) C (c_rParty l D cI cZ cJ row 0) (va_cwS 2 C.2.2.2.2.1 gR_first_R_party rfl rfl rfl (by decide +kernel) ⟨Nat.le_of_ble_eq_true rfl, Nat.le_of_ble_eq_true rfl⟩) rfl rfl (Nat.le_of_ble_eq_true rfl) ⟨Nat.zero_le _, Nat.zero_le _⟩ dR_first_2 ?_
  exact v_irr C hr (by unfold rFirst; rfl) dR_first_5
set_option maxHeartbeats 4000000 in
set_option maxRecDepth 100000 in
theorem c_rLast (l : Launch) (D : va_G) (cI cZ cJ : ClassId) (row : Int32) : Kr l yR_last wR_last ({ frames := 1, cells := 0, slots := 0, locals := 21 } : Room) D vwCl (tyG cI cZ cJ) [.int row] ([]) (rLast row) := by
  intro sz
  refine v_ent (cc := bR_last) (maxL := 1) (ret := (some .int)) (Qc := (fun _ _ st oc t => oc = .returned (some (.int (rLast row))) ∧ t.heap = st.heap)) (fr := (fun _ _ => False)) (own := RcR) rfl (by decide) rfl (Nat.le_of_ble_eq_true rfl) rfl ?_
  intro p e s m args below meth c A C hr _
  refine v_iload_n C 0 dR_last_0 rfl rfl ?_
  refine v_iload_n C 0 dR_last_1 rfl rfl ?_
  refine v_cSr0 (As := [.int row]) C (c_rSize l D cI cZ cJ row) (va_cwS 1 C.2.2.2.2.1 gR_last_R_size rfl rfl rfl (by decide +kernel) ⟨Nat.le_of_ble_eq_true rfl, Nat.le_of_ble_eq_true rfl⟩) rfl rfl (Nat.le_of_ble_eq_true rfl) ⟨Nat.zero_le _, Nat.zero_le _⟩ dR_last_2 ?_
  refine v_iconst C (v := 1) dR_last_5 (by decide) ?_
  refine v_isub C dR_last_6 ?_
  refine v_cSr0 (As := [.int row, .int ((rSize row) - (1 : Int32))]) C (c_rParty l D cI cZ cJ row ((rSize row) - (1 : Int32))) (va_cwS 2 C.2.2.2.2.1 gR_last_R_party rfl rfl rfl (by decide +kernel) ⟨Nat.le_of_ble_eq_true rfl, Nat.le_of_ble_eq_true rfl⟩) rfl rfl (Nat.le_of_ble_eq_true rfl) ⟨Nat.zero_le _, Nat.zero_le _⟩ dR_last_7 ?_
  exact v_irr C hr (by unfold rLast; rfl) dR_last_10
set_option maxHeartbeats 4000000 in
set_option maxRecDepth 100000 in
theorem c_rRest (l : Launch) (D : va_G) (cI cZ cJ : ClassId) (row : Int32) : Kr l yR_rest wR_rest ({ frames := 0, cells := 0, slots := 0, locals := 0 } : Room) D vwCl (tyG cI cZ cJ) [.int row] ([]) (rRest row) := by
  intro sz
  refine v_ent (cc := bR_rest) (maxL := 1) (ret := (some .int)) (Qc := (fun _ _ st oc t => oc = .returned (some (.int (rRest row))) ∧ t.heap = st.heap)) (fr := (fun _ _ => False)) (own := RcR) rfl (by decide) rfl (Nat.le_of_ble_eq_true rfl) rfl ?_
  intro p e s m args below meth c A C hr _
  refine v_iload_n C 0 dR_rest_0 rfl rfl ?_
  refine v_iconst C (v := 3) dR_rest_1 (by decide) ?_
  refine v_iushr C dR_rest_2 ?_
  exact v_irr C hr (by unfold rRest; rfl) dR_rest_3
set_option maxHeartbeats 4000000 in
set_option maxRecDepth 100000 in
theorem c_rWithFirst (l : Launch) (D : va_G) (cI cZ cJ : ClassId) (x : Int32) (row : Int32) : Kr l yR_withFirst wR_withFirst ({ frames := 0, cells := 0, slots := 0, locals := 0 } : Room) D vwCl (tyG cI cZ cJ) [.int x, .int row] ([]) (rWithFirst x row) := by
  intro sz
  refine v_ent (cc := bR_withFirst) (maxL := 2) (ret := (some .int)) (Qc := (fun _ _ st oc t => oc = .returned (some (.int (rWithFirst x row))) ∧ t.heap = st.heap)) (fr := (fun _ _ => False)) (own := RcR) rfl (by decide) rfl (Nat.le_of_ble_eq_true rfl) rfl ?_
  intro p e s m args below meth c A C hr _
  refine v_iload_n C 1 dR_withFirst_0 rfl rfl ?_
  refine v_iconst C (v := 3) dR_withFirst_1 (by decide) ?_
  refine v_ishl C dR_withFirst_2 ?_
  refine v_iload_n C 0 dR_withFirst_3 rfl rfl ?_
  refine v_iconst C (v := 1) dR_withFirst_4 (by decide) ?_
  refine v_iadd C dR_withFirst_5 ?_
  refine v_ior C dR_withFirst_6 ?_
  exact v_irr C hr (by unfold rWithFirst; rfl) dR_withFirst_7
set_option maxHeartbeats 4000000 in
set_option maxRecDepth 100000 in
theorem c_rWithLast (l : Launch) (D : va_G) (cI cZ cJ : ClassId) (row : Int32) (x : Int32) : Kr l yR_withLast wR_withLast ({ frames := 1, cells := 0, slots := 0, locals := 21 } : Room) D vwCl (tyG cI cZ cJ) [.int row, .int x] ([]) (rWithLast row x) := by
  intro sz
  refine v_ent (cc := bR_withLast) (maxL := 2) (ret := (some .int)) (Qc := (fun _ _ st oc t => oc = .returned (some (.int (rWithLast row x))) ∧ t.heap = st.heap)) (fr := (fun _ _ => False)) (own := RcR) rfl (by decide) rfl (Nat.le_of_ble_eq_true rfl) rfl ?_
  intro p e s m args below meth c A C hr _
  refine v_iload_n C 0 dR_withLast_0 rfl rfl ?_
  refine v_iload_n C 1 dR_withLast_1 rfl rfl ?_
  refine v_iconst C (v := 1) dR_withLast_2 (by decide) ?_
  refine v_iadd C dR_withLast_3 ?_
  refine v_iconst C (v := 3) dR_withLast_4 (by decide) ?_
  refine v_iload_n C 0 dR_withLast_5 rfl rfl ?_
  refine v_cSr0 (As := [.int row]) C (c_rSize l D cI cZ cJ row) (va_cwS 1 C.2.2.2.2.1 gR_withLast_R_size rfl rfl rfl (by decide +kernel) ⟨Nat.le_of_ble_eq_true rfl, Nat.le_of_ble_eq_true rfl⟩) rfl rfl (Nat.le_of_ble_eq_true rfl) ⟨Nat.zero_le _, Nat.zero_le _⟩ dR_withLast_6 ?_
  refine v_imul C dR_withLast_9 ?_
  refine v_ishl C dR_withLast_10 ?_
  refine v_ior C dR_withLast_11 ?_
  exact v_irr C hr (by unfold rWithLast; rfl) dR_withLast_12
set_option maxHeartbeats 4000000 in
set_option maxRecDepth 100000 in
theorem c_rHas (l : Launch) (D : va_G) (cI cZ cJ : ClassId) (row : Int32) (x : Int32) : Kr l yR_has wR_has ({ frames := 1, cells := 0, slots := 0, locals := 21 } : Room) D vwCl (tyG cI cZ cJ) [.int row, .int x] ([]) (rHas row x) := by
  intro sz
  refine v_ent (cc := bR_has) (maxL := 3) (ret := (some .boolean)) (Qc := (fun _ _ st oc t => oc = .returned (some (.int (rHas row x))) ∧ t.heap = st.heap)) (fr := (fun _ _ => False)) (own := RcR) rfl (by decide) rfl (Nat.le_of_ble_eq_true rfl) rfl ?_
  intro p e s m args below meth c A C hr _
  refine v_iconst C (v := 0) dR_has_0 (by decide) ?_
  refine v_istore_n C (lv' := [(0, .int row), (1, .int x), (2, .int 0)]) [1, 2, 0] dR_has_1 rfl (by decide) rfl ?_
  refine v_loop0 6 (fun (i : Nat) => []) (fun (i : Nat) => [(0, .int row), (1, .int x), (2, .int (nI i))]) (fun (ki i : Nat) => rHasL row x ki i = rHas row x) ?_ ?_ 6 0  (by omega) (by unfold rHas; rfl)
  · skip
    intro ki i hki hIi ihi
    have hIi : rHasL row x (ki + 1) i = rHas row x := hIi
    refine v_as (w' := []) (lv' := [(0, .int row), (1, .int x), (2, .int (nI i))]) rfl rfl ?_
    refine v_iload_n C 2 dR_has_2 rfl rfl ?_
    refine v_bipush C (v := 6) dR_has_3 (by decide) ?_
    refine v_icmp_ge C dR_has_5 (tgt := 29) (by decide) (fun h => absurd h (nI_ge (a := i) (b := 6) (by omega) (by omega))) (fun _ => ?_)
    refine v_iload_n C 1 dR_has_8 rfl rfl ?_
    refine v_if_lt C dR_has_9 (tgt := 23) (by decide) (fun h1 => ?_) (fun h1 => ?_)
    · skip
      refine v_iinc C (v := nI (i + 1)) (lv' := [(0, .int row), (1, .int x), (2, .int (nI (i + 1)))]) 2 [1, 2, 0] dR_has_23 rfl (nI_1 i) (by decide) rfl ?_
      refine v_goto C dR_has_26 (tgt := 2) (by decide) ?_
      have hL : rHasL row x ki (i + 1) = rHas row x := (by rw [← hIi]; simp only [rHasL]; rw [if_pos h1])
      exact ihi  hL
    · skip
      refine v_iload_n C 0 dR_has_12 rfl rfl ?_
      refine v_iload_n C 2 dR_has_13 rfl rfl ?_
      refine v_cSr0 (As := [.int row, .int (nI i)]) C (c_rParty l D cI cZ cJ row (nI i)) (va_cwS 2 C.2.2.2.2.1 gR_has_R_party rfl rfl rfl (by decide +kernel) ⟨Nat.le_of_ble_eq_true rfl, Nat.le_of_ble_eq_true rfl⟩) rfl rfl (Nat.le_of_ble_eq_true rfl) ⟨Nat.zero_le _, Nat.zero_le _⟩ dR_has_14 ?_
      refine v_iload_n C 1 dR_has_17 rfl rfl ?_
      refine v_icmp_ne C dR_has_18 (tgt := 23) (by decide) (fun h2 => ?_) (fun h2 => ?_)
      · skip
        refine v_iinc C (v := nI (i + 1)) (lv' := [(0, .int row), (1, .int x), (2, .int (nI (i + 1)))]) 2 [1, 2, 0] dR_has_23 rfl (nI_1 i) (by decide) rfl ?_
        refine v_goto C dR_has_26 (tgt := 2) (by decide) ?_
        have hL : rHasL row x ki (i + 1) = rHas row x := (by rw [← hIi]; simp only [rHasL]; rw [if_neg h1, if_neg h2])
        exact ihi  hL
      · skip
        refine v_iconst C (v := 1) dR_has_21 (by decide) ?_
        exact v_zrr C hr (by decide) (by rw [← hIi]; simp only [rHasL]; rw [if_neg h1, if_pos h2]) dR_has_22
  · skip
    intro hIi
    have hIi : rHasL row x 0 6 = rHas row x := hIi
    refine v_as (w' := []) (lv' := [(0, .int row), (1, .int x), (2, .int (nI 6))]) rfl rfl ?_
    refine v_iload_n C 2 dR_has_2 rfl rfl ?_
    refine v_bipush C (v := 6) dR_has_3 (by decide) ?_
    refine v_icmp_ge C dR_has_5 (tgt := 29) (by decide) (fun _ => ?_) (fun h => absurd (nI_le (a := 6) (b := 6) (by omega) (by omega)) h)
    refine v_iconst C (v := 0) dR_has_29 (by decide) ?_
    exact v_zrr C hr (by decide) (by rw [← hIi]; simp only [rHasL]) dR_has_30

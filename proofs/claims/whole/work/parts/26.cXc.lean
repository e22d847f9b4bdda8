set_option maxHeartbeats 4000000 in
set_option maxRecDepth 100000 in
theorem c_countArcs3F (l : Launch) (D : va_G) (cI cZ cJ : ClassId) (b : Nat → Nat) (F : FT) (a : AT) (n : Nat) (x : Int32) (hn : F 8 = nI n) (hn4 : n ≤ 14) : Kr l yX_countArcs wX_countArcs ({ frames := 0, cells := 0, slots := 0, locals := 0 } : Room) D vwCl (tyG cI cZ cJ) [.ref (b 0), .ref (b 2), .int x] (wX cI b F a) (countArcs3F F a n x) := by
  intro sz
  refine v_ent (cc := bX_countArcs) (maxL := 5) (ret := (some .int)) (Qc := (fun _ _ st oc t => oc = .returned (some (.int (countArcs3F F a n x))) ∧ t.heap = st.heap)) (fr := (fun _ _ => False)) (own := RcX) rfl (by decide) rfl (Nat.le_of_ble_eq_true rfl) rfl ?_
  intro p e s m args below meth c A C hr _
  refine v_iconst C (v := 0) dX_countArcs_0 (by decide) ?_
  refine v_istore_n C (lv' := [(0, .ref (b 0)), (1, .ref (b 2)), (2, .int x), (3, .int 0)]) [1, 2, 3, 0] dX_countArcs_1 rfl (by decide) rfl ?_
  refine v_iconst C (v := 0) dX_countArcs_2 (by decide) ?_
  refine v_istore C (lv' := [(0, .ref (b 0)), (1, .ref (b 2)), (2, .int x), (3, .int 0), (4, .int 0)]) [1, 2, 3, 4, 0] dX_countArcs_3 (by decide) rfl ?_
  refine v_loop1 n (fun (i : Nat) (d : Int32) => wX cI b F a) (fun (i : Nat) (d : Int32) => [(0, .ref (b 0)), (1, .ref (b 2)), (2, .int x), (3, .int d), (4, .int (nI i))]) (fun (ki i : Nat) (d : Int32) => countArcs3L F a n x ki i d = countArcs3L F a n x n 0 0) ?_ ?_ n 0 0 (by omega) rfl
  · skip
    intro ki i d hki hIi ihi
    have hIi : countArcs3L F a n x (ki + 1) i d = countArcs3L F a n x n 0 0 := hIi
    refine v_as (w' := wX cI b F a) (lv' := [(0, .ref (b 0)), (1, .ref (b 2)), (2, .int x), (3, .int d), (4, .int (nI i))]) rfl rfl ?_
    refine v_iload C 4 dX_countArcs_5 rfl ?_
    refine v_aload_n C 0 dX_countArcs_7 rfl rfl ?_
    refine v_get C (T := TcX) (N := 16) (ci := 0) (v := .int (F 8)) inX_countArcs_X 0 rfl rfl 8 (by decide) (by decide +kernel) rfl rfl dX_countArcs_8 ?_
    refine v_top (y := nI n) hn ?_
    refine v_icmp_ge C dX_countArcs_11 (tgt := 31) (by decide) (fun h => absurd h (nI_ge (a := i) (b := n) (by omega) (by omega))) (fun _ => ?_)
    refine v_aload_n C 1 dX_countArcs_14 rfl rfl ?_
    refine v_iload C 4 dX_countArcs_15 rfl ?_
    refine v_iald C 2 0 (f := a 3) (y := (a 3) i) (j := i) rfl rfl (nI_clamp (by omega)) rfl (vp_in_nI (by omega) (by decide)) dX_countArcs_17 ?_
    refine v_iload_n C 2 dX_countArcs_18 rfl rfl ?_
    refine v_icmp_ne C dX_countArcs_19 (tgt := 25) (by decide) (fun h1 => ?_) (fun h1 => ?_)
    · skip
      refine v_iinc C (v := nI (i + 1)) (lv' := [(0, .ref (b 0)), (1, .ref (b 2)), (2, .int x), (3, .int d), (4, .int (nI (i + 1)))]) 4 [1, 2, 3, 4, 0] dX_countArcs_25 rfl (nI_1 i) (by decide) rfl ?_
      refine v_goto C dX_countArcs_28 (tgt := 5) (by decide) ?_
      have hL : countArcs3L F a n x ki (i + 1) d = countArcs3L F a n x n 0 0 := (by rw [← hIi]; simp only [countArcs3L]; rw [if_neg h1])
      exact ihi d hL
    · skip
      refine v_iinc C (v := d + 1) (lv' := [(0, .ref (b 0)), (1, .ref (b 2)), (2, .int x), (3, .int (d + 1)), (4, .int (nI i))]) 3 [1, 2, 3, 0, 4] dX_countArcs_22 rfl rfl (by decide) rfl ?_
      refine v_iinc C (v := nI (i + 1)) (lv' := [(0, .ref (b 0)), (1, .ref (b 2)), (2, .int x), (3, .int (d + 1)), (4, .int (nI (i + 1)))]) 4 [1, 2, 3, 4, 0] dX_countArcs_25 rfl (nI_1 i) (by decide) rfl ?_
      refine v_goto C dX_countArcs_28 (tgt := 5) (by decide) ?_
      have hL : countArcs3L F a n x ki (i + 1) (d + 1) = countArcs3L F a n x n 0 0 := (by rw [← hIi]; simp only [countArcs3L]; rw [if_pos h1])
      exact ihi (d + 1) hL
  · skip
    intro d hIi
    have hIi : countArcs3L F a n x 0 n d = countArcs3L F a n x n 0 0 := hIi
    refine v_as (w' := wX cI b F a) (lv' := [(0, .ref (b 0)), (1, .ref (b 2)), (2, .int x), (3, .int d), (4, .int (nI n))]) rfl rfl ?_
    have hIi : d = countArcs3L F a n x n 0 0 := hIi
    subst hIi
    refine v_iload C 4 dX_countArcs_5 rfl ?_
    refine v_aload_n C 0 dX_countArcs_7 rfl rfl ?_
    refine v_get C (T := TcX) (N := 16) (ci := 0) (v := .int (F 8)) inX_countArcs_X 0 rfl rfl 8 (by decide) (by decide +kernel) rfl rfl dX_countArcs_8 ?_
    refine v_top (y := nI n) hn ?_
    refine v_icmp_ge C dX_countArcs_11 (tgt := 31) (by decide) (fun _ => ?_) (fun h => absurd (nI_le (a := n) (b := n) (by omega) (by omega)) h)
    refine v_iload_n C 3 dX_countArcs_31 rfl rfl ?_
    exact v_irr C hr (by unfold countArcs3F; rfl) dX_countArcs_32
set_option maxHeartbeats 4000000 in
set_option maxRecDepth 100000 in
theorem c_countArcs4F (l : Launch) (D : va_G) (cI cZ cJ : ClassId) (b : Nat → Nat) (F : FT) (a : AT) (n : Nat) (x : Int32) (hn : F 8 = nI n) (hn4 : n ≤ 14) : Kr l yX_countArcs wX_countArcs ({ frames := 0, cells := 0, slots := 0, locals := 0 } : Room) D vwCl (tyG cI cZ cJ) [.ref (b 0), .ref (b 3), .int x] (wX cI b F a) (countArcs4F F a n x) := by
  intro sz
  refine v_ent (cc := bX_countArcs) (maxL := 5) (ret := (some .int)) (Qc := (fun _ _ st oc t => oc = .returned (some (.int (countArcs4F F a n x))) ∧ t.heap = st.heap)) (fr := (fun _ _ => False)) (own := RcX) rfl (by decide) rfl (Nat.le_of_ble_eq_true rfl) rfl ?_
  intro p e s m args below meth c A C hr _
  refine v_iconst C (v := 0) dX_countArcs_0 (by decide) ?_
  refine v_istore_n C (lv' := [(0, .ref (b 0)), (1, .ref (b 3)), (2, .int x), (3, .int 0)]) [1, 2, 3, 0] dX_countArcs_1 rfl (by decide) rfl ?_
  refine v_iconst C (v := 0) dX_countArcs_2 (by decide) ?_
  refine v_istore C (lv' := [(0, .ref (b 0)), (1, .ref (b 3)), (2, .int x), (3, .int 0), (4, .int 0)]) [1, 2, 3, 4, 0] dX_countArcs_3 (by decide) rfl ?_
  refine v_loop1 n (fun (i : Nat) (d : Int32) => wX cI b F a) (fun (i : Nat) (d : Int32) => [(0, .ref (b 0)), (1, .ref (b 3)), (2, .int x), (3, .int d), (4, .int (nI i))]) (fun (ki i : Nat) (d : Int32) => countArcs4L F a n x ki i d = countArcs4L F a n x n 0 0) ?_ ?_ n 0 0 (by omega) rfl
  · skip
    intro ki i d hki hIi ihi
    have hIi : countArcs4L F a n x (ki + 1) i d = countArcs4L F a n x n 0 0 := hIi
    refine v_as (w' := wX cI b F a) (lv' := [(0, .ref (b 0)), (1, .ref (b 3)), (2, .int x), (3, .int d), (4, .int (nI i))]) rfl rfl ?_
    refine v_iload C 4 dX_countArcs_5 rfl ?_
    refine v_aload_n C 0 dX_countArcs_7 rfl rfl ?_
    refine v_get C (T := TcX) (N := 16) (ci := 0) (v := .int (F 8)) inX_countArcs_X 0 rfl rfl 8 (by decide) (by decide +kernel) rfl rfl dX_countArcs_8 ?_
    refine v_top (y := nI n) hn ?_
    refine v_icmp_ge C dX_countArcs_11 (tgt := 31) (by decide) (fun h => absurd h (nI_ge (a := i) (b := n) (by omega) (by omega))) (fun _ => ?_)
    refine v_aload_n C 1 dX_countArcs_14 rfl rfl ?_
    refine v_iload C 4 dX_countArcs_15 rfl ?_
    refine v_iald C 3 0 (f := a 4) (y := (a 4) i) (j := i) rfl rfl (nI_clamp (by omega)) rfl (vp_in_nI (by omega) (by decide)) dX_countArcs_17 ?_
    refine v_iload_n C 2 dX_countArcs_18 rfl rfl ?_
    refine v_icmp_ne C dX_countArcs_19 (tgt := 25) (by decide) (fun h1 => ?_) (fun h1 => ?_)
    · skip
      refine v_iinc C (v := nI (i + 1)) (lv' := [(0, .ref (b 0)), (1, .ref (b 3)), (2, .int x), (3, .int d), (4, .int (nI (i + 1)))]) 4 [1, 2, 3, 4, 0] dX_countArcs_25 rfl (nI_1 i) (by decide) rfl ?_
      refine v_goto C dX_countArcs_28 (tgt := 5) (by decide) ?_
      have hL : countArcs4L F a n x ki (i + 1) d = countArcs4L F a n x n 0 0 := (by rw [← hIi]; simp only [countArcs4L]; rw [if_neg h1])
      exact ihi d hL
    · skip
      refine v_iinc C (v := d + 1) (lv' := [(0, .ref (b 0)), (1, .ref (b 3)), (2, .int x), (3, .int (d + 1)), (4, .int (nI i))]) 3 [1, 2, 3, 0, 4] dX_countArcs_22 rfl rfl (by decide) rfl ?_
      refine v_iinc C (v := nI (i + 1)) (lv' := [(0, .ref (b 0)), (1, .ref (b 3)), (2, .int x), (3, .int (d + 1)), (4, .int (nI (i + 1)))]) 4 [1, 2, 3, 4, 0] dX_countArcs_25 rfl (nI_1 i) (by decide) rfl ?_
      refine v_goto C dX_countArcs_28 (tgt := 5) (by decide) ?_
      have hL : countArcs4L F a n x ki (i + 1) (d + 1) = countArcs4L F a n x n 0 0 := (by rw [← hIi]; simp only [countArcs4L]; rw [if_pos h1])
      exact ihi (d + 1) hL
  · skip
    intro d hIi
    have hIi : countArcs4L F a n x 0 n d = countArcs4L F a n x n 0 0 := hIi
    refine v_as (w' := wX cI b F a) (lv' := [(0, .ref (b 0)), (1, .ref (b 3)), (2, .int x), (3, .int d), (4, .int (nI n))]) rfl rfl ?_
    have hIi : d = countArcs4L F a n x n 0 0 := hIi
    subst hIi
    refine v_iload C 4 dX_countArcs_5 rfl ?_
    refine v_aload_n C 0 dX_countArcs_7 rfl rfl ?_
    refine v_get C (T := TcX) (N := 16) (ci := 0) (v := .int (F 8)) inX_countArcs_X 0 rfl rfl 8 (by decide) (by decide +kernel) rfl rfl dX_countArcs_8 ?_
    refine v_top (y := nI n) hn ?_
    refine v_icmp_ge C dX_countArcs_11 (tgt := 31) (by decide) (fun _ => ?_) (fun h => absurd (nI_le (a := n) (b := n) (by omega) (by omega)) h)
    refine v_iload_n C 3 dX_countArcs_31 rfl rfl ?_
    exact v_irr C hr (by unfold countArcs4F; rfl) dX_countArcs_32
set_option maxHeartbeats 4000000 in
set_option maxRecDepth 100000 in
theorem c_countPaid3F (l : Launch) (D : va_G) (cI cZ cJ : ClassId) (b : Nat → Nat) (F : FT) (a : AT) (n : Nat) (x : Int32) (hn : F 8 = nI n) (hn4 : n ≤ 14) : Kr l yX_countPaid wX_countPaid ({ frames := 0, cells := 0, slots := 0, locals := 0 } : Room) D vwCl (tyG cI cZ cJ) [.ref (b 0), .ref (b 2), .int x] (wX cI b F a) (countPaid3F F a n x) := by
  intro sz
  refine v_ent (cc := bX_countPaid) (maxL := 5) (ret := (some .int)) (Qc := (fun _ _ st oc t => oc = .returned (some (.int (countPaid3F F a n x))) ∧ t.heap = st.heap)) (fr := (fun _ _ => False)) (own := RcX) rfl (by decide) rfl (Nat.le_of_ble_eq_true rfl) rfl ?_
  intro p e s m args below meth c A C hr _
  refine v_iconst C (v := 0) dX_countPaid_0 (by decide) ?_
  refine v_istore_n C (lv' := [(0, .ref (b 0)), (1, .ref (b 2)), (2, .int x), (3, .int 0)]) [1, 2, 3, 0] dX_countPaid_1 rfl (by decide) rfl ?_
  refine v_iconst C (v := 0) dX_countPaid_2 (by decide) ?_
  refine v_istore C (lv' := [(0, .ref (b 0)), (1, .ref (b 2)), (2, .int x), (3, .int 0), (4, .int 0)]) [1, 2, 3, 4, 0] dX_countPaid_3 (by decide) rfl ?_
  refine v_loop1 n (fun (i : Nat) (d : Int32) => wX cI b F a) (fun (i : Nat) (d : Int32) => [(0, .ref (b 0)), (1, .ref (b 2)), (2, .int x), (3, .int d), (4, .int (nI i))]) (fun (ki i : Nat) (d : Int32) => countPaid3L F a n x ki i d = countPaid3L F a n x n 0 0) ?_ ?_ n 0 0 (by omega) rfl
  · skip
    intro ki i d hki hIi ihi
    have hIi : countPaid3L F a n x (ki + 1) i d = countPaid3L F a n x n 0 0 := hIi
    refine v_as (w' := wX cI b F a) (lv' := [(0, .ref (b 0)), (1, .ref (b 2)), (2, .int x), (3, .int d), (4, .int (nI i))]) rfl rfl ?_
    refine v_iload C 4 dX_countPaid_5 rfl ?_
    refine v_aload_n C 0 dX_countPaid_7 rfl rfl ?_
    refine v_get C (T := TcX) (N := 16) (ci := 0) (v := .int (F 8)) inX_countPaid_X 0 rfl rfl 8 (by decide) (by decide +kernel) rfl rfl dX_countPaid_8 ?_
    refine v_top (y := nI n) hn ?_
    refine v_icmp_ge C dX_countPaid_11 (tgt := 42) (by decide) (fun h => absurd h (nI_ge (a := i) (b := n) (by omega) (by omega))) (fun _ => ?_)
    refine v_aload_n C 1 dX_countPaid_14 rfl rfl ?_
    refine v_iload C 4 dX_countPaid_15 rfl ?_
    refine v_iald C 2 0 (f := a 3) (y := (a 3) i) (j := i) rfl rfl (nI_clamp (by omega)) rfl (vp_in_nI (by omega) (by decide)) dX_countPaid_17 ?_
    refine v_iload_n C 2 dX_countPaid_18 rfl rfl ?_
    refine v_icmp_ne C dX_countPaid_19 (tgt := 36) (by decide) (fun h1 => ?_) (fun h1 => ?_)
    · skip
      refine v_iinc C (v := nI (i + 1)) (lv' := [(0, .ref (b 0)), (1, .ref (b 2)), (2, .int x), (3, .int d), (4, .int (nI (i + 1)))]) 4 [1, 2, 3, 4, 0] dX_countPaid_36 rfl (nI_1 i) (by decide) rfl ?_
      refine v_goto C dX_countPaid_39 (tgt := 5) (by decide) ?_
      have hL : countPaid3L F a n x ki (i + 1) d = countPaid3L F a n x n 0 0 := (by rw [← hIi]; simp only [countPaid3L]; rw [if_neg h1])
      exact ihi d hL
    · skip
      refine v_aload_n C 0 dX_countPaid_22 rfl rfl ?_
      refine v_get C (T := TcX) (N := 16) (ci := 0) (v := .ref (b 4)) inX_countPaid_X 0 rfl rfl 5 (by decide) (by decide +kernel) rfl rfl dX_countPaid_23 ?_
      refine v_iload C 4 dX_countPaid_26 rfl ?_
      refine v_iald C 4 0 (f := a 5) (y := (a 5) i) (j := i) rfl rfl (nI_clamp (by omega)) rfl (vp_in_nI (by omega) (by decide)) dX_countPaid_28 ?_
      refine v_iconst C (v := 2) dX_countPaid_29 (by decide) ?_
      refine v_icmp_ne C dX_countPaid_30 (tgt := 36) (by decide) (fun h2 => ?_) (fun h2 => ?_)
      · skip
        refine v_iinc C (v := nI (i + 1)) (lv' := [(0, .ref (b 0)), (1, .ref (b 2)), (2, .int x), (3, .int d), (4, .int (nI (i + 1)))]) 4 [1, 2, 3, 4, 0] dX_countPaid_36 rfl (nI_1 i) (by decide) rfl ?_
        refine v_goto C dX_countPaid_39 (tgt := 5) (by decide) ?_
        have hL : countPaid3L F a n x ki (i + 1) d = countPaid3L F a n x n 0 0 := (by rw [← hIi]; simp only [countPaid3L]; rw [if_pos h1, if_neg h2])
        exact ihi d hL
      · skip
        refine v_iinc C (v := d + 1) (lv' := [(0, .ref (b 0)), (1, .ref (b 2)), (2, .int x), (3, .int (d + 1)), (4, .int (nI i))]) 3 [1, 2, 3, 0, 4] dX_countPaid_33 rfl rfl (by decide) rfl ?_
        refine v_iinc C (v := nI (i + 1)) (lv' := [(0, .ref (b 0)), (1, .ref (b 2)), (2, .int x), (3, .int (d + 1)), (4, .int (nI (i + 1)))]) 4 [1, 2, 3, 4, 0] dX_countPaid_36 rfl (nI_1 i) (by decide) rfl ?_
        refine v_goto C dX_countPaid_39 (tgt := 5) (by decide) ?_
        have hL : countPaid3L F a n x ki (i + 1) (d + 1) = countPaid3L F a n x n 0 0 := (by rw [← hIi]; simp only [countPaid3L]; rw [if_pos h1, if_pos h2])
        exact ihi (d + 1) hL
  · skip
    intro d hIi
    have hIi : countPaid3L F a n x 0 n d = countPaid3L F a n x n 0 0 := hIi
    refine v_as (w' := wX cI b F a) (lv' := [(0, .ref (b 0)), (1, .ref (b 2)), (2, .int x), (3, .int d), (4, .int (nI n))]) rfl rfl ?_
    have hIi : d = countPaid3L F a n x n 0 0 := hIi
    subst hIi
    refine v_iload C 4 dX_countPaid_5 rfl ?_
    refine v_aload_n C 0 dX_countPaid_7 rfl rfl ?_
    refine v_get C (T := TcX) (N := 16) (ci := 0) (v := .int (F 8)) inX_countPaid_X 0 rfl rfl 8 (by decide) (by decide +kernel) rfl rfl dX_countPaid_8 ?_
    refine v_top (y := nI n) hn ?_
    refine v_icmp_ge C dX_countPaid_11 (tgt := 42) (by decide) (fun _ => ?_) (fun h => absurd (nI_le (a := n) (b := n) (by omega) (by omega)) h)
    refine v_iload_n C 3 dX_countPaid_42 rfl rfl ?_
    exact v_irr C hr (by unfold countPaid3F; rfl) dX_countPaid_43
set_option maxHeartbeats 4000000 in
set_option maxRecDepth 100000 in
theorem c_countPaid4F (l : Launch) (D : va_G) (cI cZ cJ : ClassId) (b : Nat → Nat) (F : FT) (a : AT) (n : Nat) (x : Int32) (hn : F 8 = nI n) (hn4 : n ≤ 14) : Kr l yX_countPaid wX_countPaid ({ frames := 0, cells := 0, slots := 0, locals := 0 } : Room) D vwCl (tyG cI cZ cJ) [.ref (b 0), .ref (b 3), .int x] (wX cI b F a) (countPaid4F F a n x) := by
  intro sz
  refine v_ent (cc := bX_countPaid) (maxL := 5) (ret := (some .int)) (Qc := (fun _ _ st oc t => oc = .returned (some (.int (countPaid4F F a n x))) ∧ t.heap = st.heap)) (fr := (fun _ _ => False)) (own := RcX) rfl (by decide) rfl (Nat.le_of_ble_eq_true rfl) rfl ?_
  intro p e s m args below meth c A C hr _
  refine v_iconst C (v := 0) dX_countPaid_0 (by decide) ?_
  refine v_istore_n C (lv' := [(0, .ref (b 0)), (1, .ref (b 3)), (2, .int x), (3, .int 0)]) [1, 2, 3, 0] dX_countPaid_1 rfl (by decide) rfl ?_
  refine v_iconst C (v := 0) dX_countPaid_2 (by decide) ?_
  refine v_istore C (lv' := [(0, .ref (b 0)), (1, .ref (b 3)), (2, .int x), (3, .int 0), (4, .int 0)]) [1, 2, 3, 4, 0] dX_countPaid_3 (by decide) rfl ?_
  refine v_loop1 n (fun (i : Nat) (d : Int32) => wX cI b F a) (fun (i : Nat) (d : Int32) => [(0, .ref (b 0)), (1, .ref (b 3)), (2, .int x), (3, .int d), (4, .int (nI i))]) (fun (ki i : Nat) (d : Int32) => countPaid4L F a n x ki i d = countPaid4L F a n x n 0 0) ?_ ?_ n 0 0 (by omega) rfl
  · skip
    intro ki i d hki hIi ihi
    have hIi : countPaid4L F a n x (ki + 1) i d = countPaid4L F a n x n 0 0 := hIi
    refine v_as (w' := wX cI b F a) (lv' := [(0, .ref (b 0)), (1, .ref (b 3)), (2, .int x), (3, .int d), (4, .int (nI i))]) rfl rfl ?_
    refine v_iload C 4 dX_countPaid_5 rfl ?_
    refine v_aload_n C 0 dX_countPaid_7 rfl rfl ?_
    refine v_get C (T := TcX) (N := 16) (ci := 0) (v := .int (F 8)) inX_countPaid_X 0 rfl rfl 8 (by decide) (by decide +kernel) rfl rfl dX_countPaid_8 ?_
    refine v_top (y := nI n) hn ?_
    refine v_icmp_ge C dX_countPaid_11 (tgt := 42) (by decide) (fun h => absurd h (nI_ge (a := i) (b := n) (by omega) (by omega))) (fun _ => ?_)
    refine v_aload_n C 1 dX_countPaid_14 rfl rfl ?_
    refine v_iload C 4 dX_countPaid_15 rfl ?_
    refine v_iald C 3 0 (f := a 4) (y := (a 4) i) (j := i) rfl rfl (nI_clamp (by omega)) rfl (vp_in_nI (by omega) (by decide)) dX_countPaid_17 ?_
    refine v_iload_n C 2 dX_countPaid_18 rfl rfl ?_
    refine v_icmp_ne C dX_countPaid_19 (tgt := 36) (by decide) (fun h1 => ?_) (fun h1 => ?_)
    · skip
      refine v_iinc C (v := nI (i + 1)) (lv' := [(0, .ref (b 0)), (1, .ref (b 3)), (2, .int x), (3, .int d), (4, .int (nI (i + 1)))]) 4 [1, 2, 3, 4, 0] dX_countPaid_36 rfl (nI_1 i) (by decide) rfl ?_
      refine v_goto C dX_countPaid_39 (tgt := 5) (by decide) ?_
      have hL : countPaid4L F a n x ki (i + 1) d = countPaid4L F a n x n 0 0 := (by rw [← hIi]; simp only [countPaid4L]; rw [if_neg h1])
      exact ihi d hL
    · skip
      refine v_aload_n C 0 dX_countPaid_22 rfl rfl ?_
      refine v_get C (T := TcX) (N := 16) (ci := 0) (v := .ref (b 4)) inX_countPaid_X 0 rfl rfl 5 (by decide) (by decide +kernel) rfl rfl dX_countPaid_23 ?_
      refine v_iload C 4 dX_countPaid_26 rfl ?_
      refine v_iald C 4 0 (f := a 5) (y := (a 5) i) (j := i) rfl rfl (nI_clamp (by omega)) rfl (vp_in_nI (by omega) (by decide)) dX_countPaid_28 ?_
      refine v_iconst C (v := 2) dX_countPaid_29 (by decide) ?_
      refine v_icmp_ne C dX_countPaid_30 (tgt := 36) (by decide) (fun h2 => ?_) (fun h2 => ?_)
      · skip
        refine v_iinc C (v := nI (i + 1)) (lv' := [(0, .ref (b 0)), (1, .ref (b 3)), (2, .int x), (3, .int d), (4, .int (nI (i + 1)))]) 4 [1, 2, 3, 4, 0] dX_countPaid_36 rfl (nI_1 i) (by decide) rfl ?_
        refine v_goto C dX_countPaid_39 (tgt := 5) (by decide) ?_
        have hL : countPaid4L F a n x ki (i + 1) d = countPaid4L F a n x n 0 0 := (by rw [← hIi]; simp only [countPaid4L]; rw [if_pos h1, if_neg h2])
        exact ihi d hL
      · skip
        refine v_iinc C (v := d + 1) (lv' := [(0, .ref (b 0)), (1, .ref (b 3)), (2, .int x), (3, .int (d + 1)), (4, .int (nI i))]) 3 [1, 2, 3, 0, 4] dX_countPaid_33 rfl rfl (by decide) rfl ?_
        refine v_iinc C (v := nI (i + 1)) (lv' := [(0, .ref (b 0)), (1, .ref (b 3)), (2, .int x), (3, .int (d + 1)), (4, .int (nI (i + 1)))]) 4 [1, 2, 3, 4, 0] dX_countPaid_36 rfl (nI_1 i) (by decide) rfl ?_
        refine v_goto C dX_countPaid_39 (tgt := 5) (by decide) ?_
        have hL : countPaid4L F a n x ki (i + 1) (d + 1) = countPaid4L F a n x n 0 0 := (by rw [← hIi]; simp only [countPaid4L]; rw [if_pos h1, if_pos h2])
        exact ihi (d + 1) hL
  · skip
    intro d hIi
    have hIi : countPaid4L F a n x 0 n d = countPaid4L F a n x n 0 0 := hIi
    refine v_as (w' := wX cI b F a) (lv' := [(0, .ref (b 0)), (1, .ref (b 3)), (2, .int x), (3, .int d), (4, .int (nI n))]) rfl rfl ?_
    have hIi : d = countPaid4L F a n x n 0 0 := hIi
    subst hIi
    refine v_iload C 4 dX_countPaid_5 rfl ?_
    refine v_aload_n C 0 dX_countPaid_7 rfl rfl ?_
    refine v_get C (T := TcX) (N := 16) (ci := 0) (v := .int (F 8)) inX_countPaid_X 0 rfl rfl 8 (by decide) (by decide +kernel) rfl rfl dX_countPaid_8 ?_
    refine v_top (y := nI n) hn ?_
    refine v_icmp_ge C dX_countPaid_11 (tgt := 42) (by decide) (fun _ => ?_) (fun h => absurd (nI_le (a := n) (b := n) (by omega) (by omega)) h)
    refine v_iload_n C 3 dX_countPaid_42 rfl rfl ?_
    exact v_irr C hr (by unfold countPaid4F; rfl) dX_countPaid_43
set_option maxHeartbeats 4000000 in
set_option maxRecDepth 100000 in
theorem c_deployAllF (l : Launch) (D : va_G) (cI cZ cJ : ClassId) (b : Nat → Nat) (F : FT) (a : AT) (n : Nat) (x : Int32) (hn : F 8 = nI n) (hn4 : n ≤ 14) : Ki l yX_deployAll wX_deployAll ({ frames := 2, cells := 0, slots := 0, locals := 42 } : Room) D vwCl (tyG cI cZ cJ) [.ref (b 0), .int x] (wX cI b F a) ((deployAllF F a n x).1) (wX cI b F ((deployAllF F a n x).2)) := by
  intro sz
  refine v_ent (cc := bX_deployAll) (maxL := 2) (ret := (some .int)) (Qc := (fun A => va_Qi (fun (x9 : Int32) (_ : Unit) => x9 = (deployAllF F a n x).1) (fun _ => wB D vwCl (tyG cI cZ cJ) A (wX cI b F ((deployAllF F a n x).2))) A)) (fr := (fun A => A)) (own := RcX) rfl (by decide) rfl (Nat.le_of_ble_eq_true rfl) rfl ?_
  intro p e s m args below meth c A C hr _
  refine v_free ?_
  refine v_aload_n C 0 dX_deployAll_0 rfl rfl ?_
  refine v_cVrF (As := []) C (c_isOverF l D cI cZ cJ b F a) (cwV 0 C.2.2.2.2.1 gX_deployAll_X_isOver rfl rfl rfl (by decide +kernel) ⟨Nat.le_of_ble_eq_true rfl, Nat.le_of_ble_eq_true rfl⟩) 0 rfl (T := TcX) (N := 16) rfl rfl rfl (Nat.le_of_ble_eq_true rfl) ⟨Nat.zero_le _, Nat.zero_le _⟩ dX_deployAll_1 ?_
  refine v_if_ne C dX_deployAll_4 (tgt := 23) (by decide) (fun h1 => ?_) (fun h1 => ?_)
  · skip
    refine v_iconst C (v := 0) dX_deployAll_23 (by decide) ?_
    have hE : (0, a) = deployAllF F a n x := (by unfold deployAllF; rw [if_neg h1])
    exact v_iret C hr (by rw [← hE]) (by rw [← hE]) dX_deployAll_24
  · skip
    refine v_aload_n C 0 dX_deployAll_7 rfl rfl ?_
    refine v_iload_n C 1 dX_deployAll_8 rfl rfl ?_
    refine v_cVrF (As := [.int x]) C (c_isLeaderF l D cI cZ cJ b F a x) (cwV 1 C.2.2.2.2.1 gX_deployAll_X_isLeader rfl rfl rfl (by decide +kernel) ⟨Nat.le_of_ble_eq_true rfl, Nat.le_of_ble_eq_true rfl⟩) 0 rfl (T := TcX) (N := 16) rfl rfl rfl (Nat.le_of_ble_eq_true rfl) ⟨Nat.zero_le _, Nat.zero_le _⟩ dX_deployAll_9 ?_
    refine v_if_ne C dX_deployAll_12 (tgt := 25) (by decide) (fun h2 => ?_) (fun h2 => ?_)
    · skip
      refine v_aload_n C 0 dX_deployAll_25 rfl rfl ?_
      refine v_iload_n C 1 dX_deployAll_26 rfl rfl ?_
      refine v_iconst C (v := 0) dX_deployAll_27 (by decide) ?_
      refine v_iconst C (v := 1) dX_deployAll_28 (by decide) ?_
      refine v_cViF (As := [.int x, .int 0, .int 1]) C (c_moveAllF l D cI cZ cJ b F a n x 0 1 hn hn4) (cwV 3 C.2.2.2.2.1 gX_deployAll_X_moveAll rfl rfl rfl (by decide +kernel) ⟨Nat.le_of_ble_eq_true rfl, Nat.le_of_ble_eq_true rfl⟩) 0 rfl (T := TcX) (N := 16) rfl rfl rfl (Nat.le_of_ble_eq_true rfl) ⟨Nat.zero_le _, Nat.zero_le _⟩ dX_deployAll_29 ?_
      have hE : ((moveAllF F a n x 0 1).1, (moveAllF F a n x 0 1).2) = deployAllF F a n x := (by unfold deployAllF; rw [if_pos h1, if_neg h2])
      exact v_iret C hr (by rw [← hE]) (by rw [← hE]) dX_deployAll_32
    · skip
      refine v_aload_n C 0 dX_deployAll_15 rfl rfl ?_
      refine v_iload_n C 1 dX_deployAll_16 rfl rfl ?_
      refine v_cVrF (As := [.int x]) C (c_isSecuredF l D cI cZ cJ b F a n x hn hn4) (cwV 1 C.2.2.2.2.1 gX_deployAll_X_isSecured rfl rfl rfl (by decide +kernel) ⟨Nat.le_of_ble_eq_true rfl, Nat.le_of_ble_eq_true rfl⟩) 0 rfl (T := TcX) (N := 16) rfl rfl rfl (Nat.le_of_ble_eq_true rfl) ⟨Nat.zero_le _, Nat.zero_le _⟩ dX_deployAll_17 ?_
      refine v_if_ne C dX_deployAll_20 (tgt := 25) (by decide) (fun h3 => ?_) (fun h3 => ?_)
      · skip
        refine v_aload_n C 0 dX_deployAll_25 rfl rfl ?_
        refine v_iload_n C 1 dX_deployAll_26 rfl rfl ?_
        refine v_iconst C (v := 0) dX_deployAll_27 (by decide) ?_
        refine v_iconst C (v := 1) dX_deployAll_28 (by decide) ?_
        refine v_cViF (As := [.int x, .int 0, .int 1]) C (c_moveAllF l D cI cZ cJ b F a n x 0 1 hn hn4) (cwV 3 C.2.2.2.2.1 gX_deployAll_X_moveAll rfl rfl rfl (by decide +kernel) ⟨Nat.le_of_ble_eq_true rfl, Nat.le_of_ble_eq_true rfl⟩) 0 rfl (T := TcX) (N := 16) rfl rfl rfl (Nat.le_of_ble_eq_true rfl) ⟨Nat.zero_le _, Nat.zero_le _⟩ dX_deployAll_29 ?_
        have hE : ((moveAllF F a n x 0 1).1, (moveAllF F a n x 0 1).2) = deployAllF F a n x := (by unfold deployAllF; rw [if_pos h1, if_pos h2, if_neg h3])
        exact v_iret C hr (by rw [← hE]) (by rw [← hE]) dX_deployAll_32
      · skip
        refine v_iconst C (v := 0) dX_deployAll_23 (by decide) ?_
        have hE : (0, a) = deployAllF F a n x := (by unfold deployAllF; rw [if_pos h1, if_pos h2, if_pos h3])
        exact v_iret C hr (by rw [← hE]) (by rw [← hE]) dX_deployAll_24
set_option maxHeartbeats 4000000 in
set_option maxRecDepth 100000 in
theorem c_showItselfF (l : Launch) (D : va_G) (cI cZ cJ : ClassId) (b : Nat → Nat) (F : FT) (a : AT) (n : Nat) (P : Nat) (x : Int32) (hn : F 8 = nI n) (hn4 : n ≤ 14) (hp : F 0 = nI P) (hp6 : P ≤ 6) : Ki l yX_showItself wX_showItself ({ frames := 3, cells := 0, slots := 0, locals := 68 } : Room) D vwCl (tyG cI cZ cJ) [.ref (b 0), .int x] (wX cI b F a) ((showItselfF F a n x).1) (wX cI b F ((showItselfF F a n x).2)) := by
  intro sz
  refine v_ent (cc := bX_showItself) (maxL := 2) (ret := (some .int)) (Qc := (fun A => va_Qi (fun (x9 : Int32) (_ : Unit) => x9 = (showItselfF F a n x).1) (fun _ => wB D vwCl (tyG cI cZ cJ) A (wX cI b F ((showItselfF F a n x).2))) A)) (fr := (fun A => A)) (own := RcX) rfl (by decide) rfl (Nat.le_of_ble_eq_true rfl) rfl ?_
  intro p e s m args below meth c A C hr _
  refine v_free ?_
  refine v_aload_n C 0 dX_showItself_0 rfl rfl ?_
  refine v_iload_n C 1 dX_showItself_1 rfl rfl ?_
  refine v_cVrF (As := [.int x]) C (c_isLeaderF l D cI cZ cJ b F a x) (cwV 1 C.2.2.2.2.1 gX_showItself_X_isLeader rfl rfl rfl (by decide +kernel) ⟨Nat.le_of_ble_eq_true rfl, Nat.le_of_ble_eq_true rfl⟩) 0 rfl (T := TcX) (N := 16) rfl rfl rfl (Nat.le_of_ble_eq_true rfl) ⟨Nat.zero_le _, Nat.zero_le _⟩ dX_showItself_2 ?_
  refine v_if_eq C dX_showItself_5 (tgt := 16) (by decide) (fun h1 => ?_) (fun h1 => ?_)
  · skip
    refine v_iconst C (v := 0) dX_showItself_16 (by decide) ?_
    have hE : (0, a) = showItselfF F a n x := (by unfold showItselfF; rw [if_pos h1])
    exact v_iret C hr (by rw [← hE]) (by rw [← hE]) dX_showItself_17
  · skip
    refine v_aload_n C 0 dX_showItself_8 rfl rfl ?_
    refine v_iload_n C 1 dX_showItself_9 rfl rfl ?_
    refine v_cVrF (As := [.int x]) C (c_isSecuredF l D cI cZ cJ b F a n x hn hn4) (cwV 1 C.2.2.2.2.1 gX_showItself_X_isSecured rfl rfl rfl (by decide +kernel) ⟨Nat.le_of_ble_eq_true rfl, Nat.le_of_ble_eq_true rfl⟩) 0 rfl (T := TcX) (N := 16) rfl rfl rfl (Nat.le_of_ble_eq_true rfl) ⟨Nat.zero_le _, Nat.zero_le _⟩ dX_showItself_10 ?_
    refine v_if_ne C dX_showItself_13 (tgt := 18) (by decide) (fun h2 => ?_) (fun h2 => ?_)
    · skip
      refine v_aload_n C 0 dX_showItself_18 rfl rfl ?_
      refine v_iload_n C 1 dX_showItself_19 rfl rfl ?_
      refine v_iload_n C 1 dX_showItself_20 rfl rfl ?_
      refine v_iload_n C 1 dX_showItself_21 rfl rfl ?_
      refine v_iconst C (v := 0) dX_showItself_22 (by decide) ?_
      refine v_cSr0 (As := [.int x, .int 0]) C (c_rWithFirst l D cI cZ cJ x 0) (va_cwS 2 C.2.2.2.2.1 gX_showItself_R_withFirst rfl rfl rfl (by decide +kernel) ⟨Nat.le_of_ble_eq_true rfl, Nat.le_of_ble_eq_true rfl⟩) rfl rfl (Nat.le_of_ble_eq_true rfl) ⟨Nat.zero_le _, Nat.zero_le _⟩ dX_showItself_23 ?_
      refine v_cViF (As := [.int x, .int x, .int (rWithFirst x 0)]) C (c_showToAllF l D cI cZ cJ b F a n x x (rWithFirst x 0) hn hn4 (vp_leader h1 hp hp6)) (cwV 3 C.2.2.2.2.1 gX_showItself_X_showToAll rfl rfl rfl (by decide +kernel) ⟨Nat.le_of_ble_eq_true rfl, Nat.le_of_ble_eq_true rfl⟩) 0 rfl (T := TcX) (N := 16) rfl rfl rfl (Nat.le_of_ble_eq_true rfl) ⟨Nat.zero_le _, Nat.zero_le _⟩ dX_showItself_26 ?_
      have hE : ((showToAllF F a n x x (rWithFirst x 0)).1, (showToAllF F a n x x (rWithFirst x 0)).2) = showItselfF F a n x := (by unfold showItselfF; rw [if_neg h1, if_neg h2])
      exact v_iret C hr (by rw [← hE]) (by rw [← hE]) dX_showItself_29
    · skip
      refine v_iconst C (v := 0) dX_showItself_16 (by decide) ?_
      have hE : (0, a) = showItselfF F a n x := (by unfold showItselfF; rw [if_neg h1, if_pos h2])
      exact v_iret C hr (by rw [← hE]) (by rw [← hE]) dX_showItself_17
set_option maxHeartbeats 4000000 in
set_option maxRecDepth 100000 in
theorem c_showOthersF (l : Launch) (D : va_G) (cI cZ cJ : ClassId) (b : Nat → Nat) (F : FT) (a : AT) (n : Nat) (P : Nat) (x : Int32) (hn : F 8 = nI n) (hn4 : n ≤ 14) (hp : F 0 = nI P) (hp6 : P ≤ 6) : Ki l yX_showOthers wX_showOthers ({ frames := 3, cells := 0, slots := 0, locals := 69 } : Room) D vwCl (tyG cI cZ cJ) [.ref (b 0), .int x] (wX cI b F a) ((showOthersF F a n P x).1) (wX cI b F ((showOthersF F a n P x).2)) := by
  intro sz
  refine v_ent (cc := bX_showOthers) (maxL := 5) (ret := (some .int)) (Qc := (fun A => va_Qi (fun (x9 : Int32) (_ : Unit) => x9 = (showOthersF F a n P x).1) (fun _ => wB D vwCl (tyG cI cZ cJ) A (wX cI b F ((showOthersF F a n P x).2))) A)) (fr := (fun A => A)) (own := RcX) rfl (by decide) rfl (Nat.le_of_ble_eq_true rfl) rfl ?_
  intro p e s m args below meth c A C hr _
  refine v_free ?_
  refine v_iconst C (v := 0) dX_showOthers_0 (by decide) ?_
  refine v_istore_n C (lv' := [(0, .ref (b 0)), (1, .int x), (2, .int 0)]) [1, 2, 0] dX_showOthers_1 rfl (by decide) rfl ?_
  refine v_iconst C (v := 0) dX_showOthers_2 (by decide) ?_
  refine v_istore_n C (lv' := [(0, .ref (b 0)), (1, .int x), (2, .int 0), (3, .int 0)]) [1, 2, 3, 0] dX_showOthers_3 rfl (by decide) rfl ?_
  refine v_loop2 P (fun (j : Nat) (d : Int32) (a1 : AT) => wX cI b F a1) (fun (j : Nat) (d : Int32) (a1 : AT) => [(0, .ref (b 0)), (1, .int x), (2, .int d), (3, .int (nI j))]) (fun (kj j : Nat) (d : Int32) (a1 : AT) => showOthersL F n P x kj j d a1 = showOthersL F n P x P 0 0 a) ?_ ?_ P 0 0 a (by omega) rfl
  · skip
    intro kj j d a1 hkj hIj ihj
    have hIj : showOthersL F n P x (kj + 1) j d a1 = showOthersL F n P x P 0 0 a := hIj
    refine v_as (w' := wX cI b F a1) (lv' := [(0, .ref (b 0)), (1, .int x), (2, .int d), (3, .int (nI j))]) rfl rfl ?_
    refine v_iload_n C 3 dX_showOthers_4 rfl rfl ?_
    refine v_aload_n C 0 dX_showOthers_5 rfl rfl ?_
    refine v_get C (T := TcX) (N := 16) (ci := 0) (v := .int (F 0)) inX_showOthers_X 0 rfl rfl 0 (by decide) (by decide +kernel) rfl rfl dX_showOthers_6 ?_
    refine v_top (y := nI P) hp ?_
    refine v_icmp_ge C dX_showOthers_9 (tgt := 58) (by decide) (fun h => absurd h (nI_ge (a := j) (b := P) (by omega) (by omega))) (fun _ => ?_)
    refine v_aload_n C 0 dX_showOthers_12 rfl rfl ?_
    refine v_iload_n C 3 dX_showOthers_13 rfl rfl ?_
    refine v_cVrF (As := [.int (nI j)]) C (c_isLeaderF l D cI cZ cJ b F a1 (nI j)) (cwV 1 C.2.2.2.2.1 gX_showOthers_X_isLeader rfl rfl rfl (by decide +kernel) ⟨Nat.le_of_ble_eq_true rfl, Nat.le_of_ble_eq_true rfl⟩) 0 rfl (T := TcX) (N := 16) rfl rfl rfl (Nat.le_of_ble_eq_true rfl) ⟨Nat.zero_le _, Nat.zero_le _⟩ dX_showOthers_14 ?_
    refine v_if_eq C dX_showOthers_17 (tgt := 29) (by decide) (fun h1 => ?_) (fun h1 => ?_)
    · skip
      refine v_iconst C (v := 0) dX_showOthers_29 (by decide) ?_
      refine v_istore C (lv' := [(0, .ref (b 0)), (1, .int x), (2, .int d), (3, .int (nI j)), (4, .int 0)]) [1, 2, 3, 4, 0] dX_showOthers_30 (by decide) rfl ?_
      refine v_iload C 4 dX_showOthers_32 rfl ?_
      refine v_if_eq C dX_showOthers_34 (tgt := 52) (by decide) (fun _ => ?_) (fun h => absurd h (by decide))
      refine v_iinc C (v := nI (j + 1)) (lv' := [(0, .ref (b 0)), (1, .int x), (2, .int d), (3, .int (nI (j + 1))), (4, .int 0)]) 3 [1, 2, 3, 0, 4] dX_showOthers_52 rfl (nI_1 j) (by decide) rfl ?_
      refine v_goto C dX_showOthers_55 (tgt := 4) (by decide) ?_
      refine v_loc (lv' := [(0, .ref (b 0)), (1, .int x), (2, .int d), (3, .int (nI (j + 1)))]) [0, 1, 2, 3] rfl ?_
      have hL : showOthersL F n P x kj (j + 1) d a1 = showOthersL F n P x P 0 0 a := (by rw [← hIj]; simp only [showOthersL]; rw [if_pos h1])
      exact ihj d a1 hL
    · skip
      refine v_aload_n C 0 dX_showOthers_20 rfl rfl ?_
      refine v_iload_n C 1 dX_showOthers_21 rfl rfl ?_
      refine v_iload_n C 3 dX_showOthers_22 rfl rfl ?_
      refine v_cVrF (As := [.int x, .int (nI j)]) C (c_shortestF l D cI cZ cJ b F a1 n P x (nI j) hn hn4 hp hp6) (cwV 2 C.2.2.2.2.1 gX_showOthers_X_shortestLearnt rfl rfl rfl (by decide +kernel) ⟨Nat.le_of_ble_eq_true rfl, Nat.le_of_ble_eq_true rfl⟩) 0 rfl (T := TcX) (N := 16) rfl rfl rfl (Nat.le_of_ble_eq_true rfl) ⟨Nat.zero_le _, Nat.zero_le _⟩ dX_showOthers_23 ?_
      refine v_goto C dX_showOthers_26 (tgt := 30) (by decide) ?_
      refine v_istore C (lv' := [(0, .ref (b 0)), (1, .int x), (2, .int d), (3, .int (nI j)), (4, .int (shortestF F a1 n P x (nI j)))]) [1, 2, 3, 4, 0] dX_showOthers_30 (by decide) rfl ?_
      refine v_iload C 4 dX_showOthers_32 rfl ?_
      refine v_if_eq C dX_showOthers_34 (tgt := 52) (by decide) (fun h2 => ?_) (fun h2 => ?_)
      · skip
        refine v_iinc C (v := nI (j + 1)) (lv' := [(0, .ref (b 0)), (1, .int x), (2, .int d), (3, .int (nI (j + 1))), (4, .int (shortestF F a1 n P x (nI j)))]) 3 [1, 2, 3, 0, 4] dX_showOthers_52 rfl (nI_1 j) (by decide) rfl ?_
        refine v_goto C dX_showOthers_55 (tgt := 4) (by decide) ?_
        refine v_loc (lv' := [(0, .ref (b 0)), (1, .int x), (2, .int d), (3, .int (nI (j + 1)))]) [0, 1, 2, 3] rfl ?_
        have hL : showOthersL F n P x kj (j + 1) d a1 = showOthersL F n P x P 0 0 a := (by rw [← hIj]; simp only [showOthersL]; rw [if_neg h1, if_pos h2])
        exact ihj d a1 hL
      · skip
        refine v_iload_n C 2 dX_showOthers_37 rfl rfl ?_
        refine v_aload_n C 0 dX_showOthers_38 rfl rfl ?_
        refine v_iload_n C 1 dX_showOthers_39 rfl rfl ?_
        refine v_iload_n C 3 dX_showOthers_40 rfl rfl ?_
        refine v_iload_n C 1 dX_showOthers_41 rfl rfl ?_
        refine v_iload C 4 dX_showOthers_42 rfl ?_
        refine v_cSr0 (As := [.int x, .int (shortestF F a1 n P x (nI j))]) C (c_rWithFirst l D cI cZ cJ x (shortestF F a1 n P x (nI j))) (va_cwS 2 C.2.2.2.2.1 gX_showOthers_R_withFirst rfl rfl rfl (by decide +kernel) ⟨Nat.le_of_ble_eq_true rfl, Nat.le_of_ble_eq_true rfl⟩) rfl rfl (Nat.le_of_ble_eq_true rfl) ⟨Nat.zero_le _, Nat.zero_le _⟩ dX_showOthers_44 ?_
        refine v_cViF (As := [.int x, .int (nI j), .int (rWithFirst x (shortestF F a1 n P x (nI j)))]) C (c_showToAllF l D cI cZ cJ b F a1 n x (nI j) (rWithFirst x (shortestF F a1 n P x (nI j))) hn hn4 (vp_in_nI (by omega) (by decide))) (cwV 3 C.2.2.2.2.1 gX_showOthers_X_showToAll rfl rfl rfl (by decide +kernel) ⟨Nat.le_of_ble_eq_true rfl, Nat.le_of_ble_eq_true rfl⟩) 0 rfl (T := TcX) (N := 16) rfl rfl rfl (Nat.le_of_ble_eq_true rfl) ⟨Nat.zero_le _, Nat.zero_le _⟩ dX_showOthers_47 ?_
        refine v_iadd C dX_showOthers_50 ?_
        refine v_istore_n C (lv' := [(0, .ref (b 0)), (1, .int x), (2, .int (d + ((showToAllF F a1 n x (nI j) (rWithFirst x (shortestF F a1 n P x (nI j)))).1))), (3, .int (nI j)), (4, .int (shortestF F a1 n P x (nI j)))]) [1, 2, 0, 3, 4] dX_showOthers_51 rfl (by decide) rfl ?_
        refine v_iinc C (v := nI (j + 1)) (lv' := [(0, .ref (b 0)), (1, .int x), (2, .int (d + ((showToAllF F a1 n x (nI j) (rWithFirst x (shortestF F a1 n P x (nI j)))).1))), (3, .int (nI (j + 1))), (4, .int (shortestF F a1 n P x (nI j)))]) 3 [1, 2, 3, 0, 4] dX_showOthers_52 rfl (nI_1 j) (by decide) rfl ?_
        refine v_goto C dX_showOthers_55 (tgt := 4) (by decide) ?_
        refine v_loc (lv' := [(0, .ref (b 0)), (1, .int x), (2, .int (d + ((showToAllF F a1 n x (nI j) (rWithFirst x (shortestF F a1 n P x (nI j)))).1))), (3, .int (nI (j + 1)))]) [0, 1, 2, 3] rfl ?_
        have hL : showOthersL F n P x kj (j + 1) (d + ((showToAllF F a1 n x (nI j) (rWithFirst x (shortestF F a1 n P x (nI j)))).1)) ((showToAllF F a1 n x (nI j) (rWithFirst x (shortestF F a1 n P x (nI j)))).2) = showOthersL F n P x P 0 0 a := (by rw [← hIj]; simp only [showOthersL]; rw [if_neg h1, if_neg h2])
        exact ihj (d + ((showToAllF F a1 n x (nI j) (rWithFirst x (shortestF F a1 n P x (nI j)))).1)) ((showToAllF F a1 n x (nI j) (rWithFirst x (shortestF F a1 n P x (nI j)))).2) hL
  · skip
    intro d a1 hIj
    have hIj : showOthersL F n P x 0 P d a1 = showOthersL F n P x P 0 0 a := hIj
    refine v_as (w' := wX cI b F a1) (lv' := [(0, .ref (b 0)), (1, .int x), (2, .int d), (3, .int (nI P))]) rfl rfl ?_
    obtain ⟨rfl, rfl⟩ : d = (showOthersL F n P x P 0 0 a).1 ∧ a1 = (showOthersL F n P x P 0 0 a).2 := by rw [← hIj]; exact ⟨rfl, rfl⟩
    refine v_iload_n C 3 dX_showOthers_4 rfl rfl ?_
    refine v_aload_n C 0 dX_showOthers_5 rfl rfl ?_
    refine v_get C (T := TcX) (N := 16) (ci := 0) (v := .int (F 0)) inX_showOthers_X 0 rfl rfl 0 (by decide) (by decide +kernel) rfl rfl dX_showOthers_6 ?_
    refine v_top (y := nI P) hp ?_
    refine v_icmp_ge C dX_showOthers_9 (tgt := 58) (by decide) (fun _ => ?_) (fun h => absurd (nI_le (a := P) (b := P) (by omega) (by omega)) h)
    refine v_iload_n C 2 dX_showOthers_58 rfl rfl ?_
    have hE : ((showOthersL F n P x P 0 0 a).1, (showOthersL F n P x P 0 0 a).2) = showOthersF F a n P x := (by unfold showOthersF; rfl)
    exact v_iret C hr (by rw [← hE]) (by rw [← hE]) dX_showOthers_59
set_option maxHeartbeats 4000000 in
set_option maxRecDepth 100000 in
theorem c_takeAllBackF (l : Launch) (D : va_G) (cI cZ cJ : ClassId) (b : Nat → Nat) (F : FT) (a : AT) (n : Nat) (x : Int32) (hn : F 8 = nI n) (hn4 : n ≤ 14) : Ki l yX_takeAllBack wX_takeAllBack ({ frames := 1, cells := 0, slots := 0, locals := 25 } : Room) D vwCl (tyG cI cZ cJ) [.ref (b 0), .int x] (wX cI b F a) ((takeAllBackF F a n x).1) (wX cI b F ((takeAllBackF F a n x).2)) := by
  intro sz
  refine v_ent (cc := bX_takeAllBack) (maxL := 2) (ret := (some .int)) (Qc := (fun A => va_Qi (fun (x9 : Int32) (_ : Unit) => x9 = (takeAllBackF F a n x).1) (fun _ => wB D vwCl (tyG cI cZ cJ) A (wX cI b F ((takeAllBackF F a n x).2))) A)) (fr := (fun A => A)) (own := RcX) rfl (by decide) rfl (Nat.le_of_ble_eq_true rfl) rfl ?_
  intro p e s m args below meth c A C hr _
  refine v_free ?_
  refine v_aload_n C 0 dX_takeAllBack_0 rfl rfl ?_
  refine v_cVrF (As := []) C (c_isOverF l D cI cZ cJ b F a) (cwV 0 C.2.2.2.2.1 gX_takeAllBack_X_isOver rfl rfl rfl (by decide +kernel) ⟨Nat.le_of_ble_eq_true rfl, Nat.le_of_ble_eq_true rfl⟩) 0 rfl (T := TcX) (N := 16) rfl rfl rfl (Nat.le_of_ble_eq_true rfl) ⟨Nat.zero_le _, Nat.zero_le _⟩ dX_takeAllBack_1 ?_
  refine v_if_eq C dX_takeAllBack_4 (tgt := 17) (by decide) (fun h1 => ?_) (fun h1 => ?_)
  · skip
    refine v_iconst C (v := 0) dX_takeAllBack_17 (by decide) ?_
    have hE : (0, a) = takeAllBackF F a n x := (by unfold takeAllBackF; rw [if_pos h1])
    exact v_iret C hr (by rw [← hE]) (by rw [← hE]) dX_takeAllBack_18
  · skip
    refine v_aload_n C 0 dX_takeAllBack_7 rfl rfl ?_
    refine v_iload_n C 1 dX_takeAllBack_8 rfl rfl ?_
    refine v_iconst C (v := 1) dX_takeAllBack_9 (by decide) ?_
    refine v_iconst C (v := 3) dX_takeAllBack_10 (by decide) ?_
    refine v_cViF (As := [.int x, .int 1, .int 3]) C (c_moveAllF l D cI cZ cJ b F a n x 1 3 hn hn4) (cwV 3 C.2.2.2.2.1 gX_takeAllBack_X_moveAll rfl rfl rfl (by decide +kernel) ⟨Nat.le_of_ble_eq_true rfl, Nat.le_of_ble_eq_true rfl⟩) 0 rfl (T := TcX) (N := 16) rfl rfl rfl (Nat.le_of_ble_eq_true rfl) ⟨Nat.zero_le _, Nat.zero_le _⟩ dX_takeAllBack_11 ?_
    refine v_goto C dX_takeAllBack_14 (tgt := 18) (by decide) ?_
    have hE : ((moveAllF F a n x 1 3).1, (moveAllF F a n x 1 3).2) = takeAllBackF F a n x := (by unfold takeAllBackF; rw [if_neg h1])
    exact v_iret C hr (by rw [← hE]) (by rw [← hE]) dX_takeAllBack_18
set_option maxHeartbeats 4000000 in
set_option maxRecDepth 100000 in
theorem c_doDeedsF (l : Launch) (D : va_G) (cI cZ cJ : ClassId) (b : Nat → Nat) (F : FT) (a : AT) (n : Nat) (P : Nat) (x : Int32) (hn : F 8 = nI n) (hn4 : n ≤ 14) (hp : F 0 = nI P) (hp6 : P ≤ 6) : Ki l yX_doDeeds wX_doDeeds ({ frames := 4, cells := 0, slots := 0, locals := 93 } : Room) D vwCl (tyG cI cZ cJ) [.ref (b 0), .int x] (wX cI b F a) ((doDeedsF F a n P x).1) (wX cI b F ((doDeedsF F a n P x).2)) := by
  intro sz
  refine v_ent (cc := bX_doDeeds) (maxL := 3) (ret := (some .int)) (Qc := (fun A => va_Qi (fun (x9 : Int32) (_ : Unit) => x9 = (doDeedsF F a n P x).1) (fun _ => wB D vwCl (tyG cI cZ cJ) A (wX cI b F ((doDeedsF F a n P x).2))) A)) (fr := (fun A => A)) (own := RcX) rfl (by decide) rfl (Nat.le_of_ble_eq_true rfl) rfl ?_
  intro p e s m args below meth c A C hr _
  refine v_free ?_
  refine v_aload_n C 0 dX_doDeeds_0 rfl rfl ?_
  refine v_iload_n C 1 dX_doDeeds_1 rfl rfl ?_
  refine v_cViF (As := [.int x]) C (c_deployAllF l D cI cZ cJ b F a n x hn hn4) (cwV 1 C.2.2.2.2.1 gX_doDeeds_X_deployAll rfl rfl rfl (by decide +kernel) ⟨Nat.le_of_ble_eq_true rfl, Nat.le_of_ble_eq_true rfl⟩) 0 rfl (T := TcX) (N := 16) rfl rfl rfl (Nat.le_of_ble_eq_true rfl) ⟨Nat.zero_le _, Nat.zero_le _⟩ dX_doDeeds_2 ?_
  refine v_istore_n C (lv' := [(0, .ref (b 0)), (1, .int x), (2, .int ((deployAllF F a n x).1))]) [1, 2, 0] dX_doDeeds_5 rfl (by decide) rfl ?_
  refine v_iload_n C 2 dX_doDeeds_6 rfl rfl ?_
  refine v_aload_n C 0 dX_doDeeds_7 rfl rfl ?_
  refine v_iload_n C 1 dX_doDeeds_8 rfl rfl ?_
  refine v_cViF (As := [.int x]) C (c_showItselfF l D cI cZ cJ b F ((deployAllF F a n x).2) n P x hn hn4 hp hp6) (cwV 1 C.2.2.2.2.1 gX_doDeeds_X_showItself rfl rfl rfl (by decide +kernel) ⟨Nat.le_of_ble_eq_true rfl, Nat.le_of_ble_eq_true rfl⟩) 0 rfl (T := TcX) (N := 16) rfl rfl rfl (Nat.le_of_ble_eq_true rfl) ⟨Nat.zero_le _, Nat.zero_le _⟩ dX_doDeeds_9 ?_
  refine v_iadd C dX_doDeeds_12 ?_
  refine v_istore_n C (lv' := [(0, .ref (b 0)), (1, .int x), (2, .int (((deployAllF F a n x).1) + ((showItselfF F ((deployAllF F a n x).2) n x).1)))]) [1, 2, 0] dX_doDeeds_13 rfl (by decide) rfl ?_
  refine v_iload_n C 2 dX_doDeeds_14 rfl rfl ?_
  refine v_aload_n C 0 dX_doDeeds_15 rfl rfl ?_
  refine v_iload_n C 1 dX_doDeeds_16 rfl rfl ?_
  refine v_cViF (As := [.int x]) C (c_showOthersF l D cI cZ cJ b F ((showItselfF F ((deployAllF F a n x).2) n x).2) n P x hn hn4 hp hp6) (cwV 1 C.2.2.2.2.1 gX_doDeeds_X_showOthers rfl rfl rfl (by decide +kernel) ⟨Nat.le_of_ble_eq_true rfl, Nat.le_of_ble_eq_true rfl⟩) 0 rfl (T := TcX) (N := 16) rfl rfl rfl (Nat.le_of_ble_eq_true rfl) ⟨Nat.zero_le _, Nat.zero_le _⟩ dX_doDeeds_17 ?_
  refine v_iadd C dX_doDeeds_20 ?_
  refine v_istore_n C (lv' := [(0, .ref (b 0)), (1, .int x), (2, .int ((((deployAllF F a n x).1) + ((showItselfF F ((deployAllF F a n x).2) n x).1)) + ((showOthersF F ((showItselfF F ((deployAllF F a n x).2) n x).2) n P x).1)))]) [1, 2, 0] dX_doDeeds_21 rfl (by decide) rfl ?_
  refine v_iload_n C 2 dX_doDeeds_22 rfl rfl ?_
  refine v_aload_n C 0 dX_doDeeds_23 rfl rfl ?_
  refine v_iload_n C 1 dX_doDeeds_24 rfl rfl ?_
  refine v_cViF (As := [.int x]) C (c_takeAllBackF l D cI cZ cJ b F ((showOthersF F ((showItselfF F ((deployAllF F a n x).2) n x).2) n P x).2) n x hn hn4) (cwV 1 C.2.2.2.2.1 gX_doDeeds_X_takeAllBack rfl rfl rfl (by decide +kernel) ⟨Nat.le_of_ble_eq_true rfl, Nat.le_of_ble_eq_true rfl⟩) 0 rfl (T := TcX) (N := 16) rfl rfl rfl (Nat.le_of_ble_eq_true rfl) ⟨Nat.zero_le _, Nat.zero_le _⟩ dX_doDeeds_25 ?_
  refine v_iadd C dX_doDeeds_28 ?_
  refine v_istore_n C (lv' := [(0, .ref (b 0)), (1, .int x), (2, .int (((((deployAllF F a n x).1) + ((showItselfF F ((deployAllF F a n x).2) n x).1)) + ((showOthersF F ((showItselfF F ((deployAllF F a n x).2) n x).2) n P x).1)) + ((takeAllBackF F ((showOthersF F ((showItselfF F ((deployAllF F a n x).2) n x).2) n P x).2) n x).1)))]) [1, 2, 0] dX_doDeeds_29 rfl (by decide) rfl ?_
  refine v_iload_n C 2 dX_doDeeds_30 rfl rfl ?_
  have hE : (((((deployAllF F a n x).1) + ((showItselfF F ((deployAllF F a n x).2) n x).1)) + ((showOthersF F ((showItselfF F ((deployAllF F a n x).2) n x).2) n P x).1)) + ((takeAllBackF F ((showOthersF F ((showItselfF F ((deployAllF F a n x).2) n x).2) n P x).2) n x).1), (takeAllBackF F ((showOthersF F ((showItselfF F ((deployAllF F a n x).2) n x).2) n P x).2) n x).2) = doDeedsF F a n P x := (by unfold doDeedsF; rfl)
  exact v_iret C hr (by rw [← hE]) (by rw [← hE]) dX_doDeeds_31
set_option maxHeartbeats 4000000 in
set_option maxRecDepth 100000 in
theorem c_leadersF (l : Launch) (D : va_G) (cI cZ cJ : ClassId) (b : Nat → Nat) (F : FT) (a : AT) : Kr l yX_leaders wX_leaders ({ frames := 0, cells := 0, slots := 0, locals := 0 } : Room) D vwCl (tyG cI cZ cJ) [.ref (b 0)] (wX cI b F a) (leadersF F a) := by
  intro sz
  refine v_ent (cc := bX_leaders) (maxL := 1) (ret := (some .int)) (Qc := (fun _ _ st oc t => oc = .returned (some (.int (leadersF F a))) ∧ t.heap = st.heap)) (fr := (fun _ _ => False)) (own := RcX) rfl (by decide) rfl (Nat.le_of_ble_eq_true rfl) rfl ?_
  intro p e s m args below meth c A C hr _
  refine v_aload_n C 0 dX_leaders_0 rfl rfl ?_
  refine v_get C (T := TcX) (N := 16) (ci := 0) (v := .int (F 10)) inX_leaders_X 0 rfl rfl 10 (by decide) (by decide +kernel) rfl rfl dX_leaders_1 ?_
  exact v_irr C hr (by unfold leadersF; rfl) dX_leaders_4
set_option maxHeartbeats 4000000 in
set_option maxRecDepth 100000 in
theorem c_conformF (l : Launch) (D : va_G) (cI cZ cJ : ClassId) (b : Nat → Nat) (F : FT) (a : AT) (x : Int32) (y : Int32) : Ki l yX_conform wX_conform ({ frames := 1, cells := 0, slots := 0, locals := 21 } : Room) D vwCl (tyG cI cZ cJ) [.ref (b 0), .int x, .int y] (wX cI b F a) ((conformF F a x y).1) (wX cI b ((conformF F a x y).2) a) := by
  intro sz
  refine v_ent (cc := bX_conform) (maxL := 3) (ret := (some .boolean)) (Qc := (fun A => va_Qi (fun (x9 : Int32) (_ : Unit) => x9 = (conformF F a x y).1) (fun _ => wB D vwCl (tyG cI cZ cJ) A (wX cI b ((conformF F a x y).2) a)) A)) (fr := (fun A => A)) (own := RcX) rfl (by decide) rfl (Nat.le_of_ble_eq_true rfl) rfl ?_
  intro p e s m args below meth c A C hr _
  refine v_free ?_
  refine v_aload_n C 0 dX_conform_0 rfl rfl ?_
  refine v_iload_n C 1 dX_conform_1 rfl rfl ?_
  refine v_cVrF (As := [.int x]) C (c_isPartyF l D cI cZ cJ b F a x) (cwV 1 C.2.2.2.2.1 gX_conform_X_isParty rfl rfl rfl (by decide +kernel) ⟨Nat.le_of_ble_eq_true rfl, Nat.le_of_ble_eq_true rfl⟩) 0 rfl (T := TcX) (N := 16) rfl rfl rfl (Nat.le_of_ble_eq_true rfl) ⟨Nat.zero_le _, Nat.zero_le _⟩ dX_conform_2 ?_
  refine v_if_eq C dX_conform_5 (tgt := 17) (by decide) (fun h1 => ?_) (fun h1 => ?_)
  · skip
    refine v_iconst C (v := 0) dX_conform_17 (by decide) ?_
    have hE : (0, F) = conformF F a x y := (by unfold conformF; rw [if_pos h1])
    exact v_zret C hr (by decide) (by rw [← hE]) (by rw [← hE]) dX_conform_18
  · skip
    refine v_aload_n C 0 dX_conform_8 rfl rfl ?_
    refine v_iload_n C 1 dX_conform_9 rfl rfl ?_
    refine v_cVrF (As := [.int x]) C (c_conformsF l D cI cZ cJ b F a x) (cwV 1 C.2.2.2.2.1 gX_conform_X_conforms rfl rfl rfl (by decide +kernel) ⟨Nat.le_of_ble_eq_true rfl, Nat.le_of_ble_eq_true rfl⟩) 0 rfl (T := TcX) (N := 16) rfl rfl rfl (Nat.le_of_ble_eq_true rfl) ⟨Nat.zero_le _, Nat.zero_le _⟩ dX_conform_10 ?_
    refine v_iload_n C 2 dX_conform_13 rfl rfl ?_
    refine v_icmp_ne C dX_conform_14 (tgt := 19) (by decide) (fun h2 => ?_) (fun h2 => ?_)
    · skip
      refine v_aload_n C 0 dX_conform_19 rfl rfl ?_
      refine v_dup C dX_conform_20 rfl ?_
      refine v_get C (T := TcX) (N := 16) (ci := 0) (v := .int (F 14)) inX_conform_X 0 rfl rfl 14 (by decide) (by decide +kernel) rfl rfl dX_conform_21 ?_
      refine v_iconst C (v := 1) dX_conform_24 (by decide) ?_
      refine v_iload_n C 1 dX_conform_25 rfl rfl ?_
      refine v_ishl C dX_conform_26 ?_
      refine v_ixor C dX_conform_27 ?_
      refine v_put C (T := TcX) (N := 16) (ci := 0) (v := .int ((F 14) ^^^ ((1 : Int32) <<< (x &&& 31)))) inX_conform_X tycX tycX_ok nmcX 0 rfl rfl 14 (by decide) (by decide +kernel) rfl rfl rfl rfl (Nat.le_of_ble_eq_true rfl) dX_conform_28 (w1 := wX cI b (upd F 14 ((F 14) ^^^ ((1 : Int32) <<< (x &&& 31)))) a) rfl ?_
      refine v_iconst C (v := 1) dX_conform_31 (by decide) ?_
      have hE : (1, upd F 14 ((F 14) ^^^ ((1 : Int32) <<< (x &&& 31)))) = conformF F a x y := (by unfold conformF; rw [if_neg h1, if_neg h2])
      exact v_zret C hr (by decide) (by rw [← hE]) (by rw [← hE]) dX_conform_32
    · skip
      refine v_iconst C (v := 0) dX_conform_17 (by decide) ?_
      have hE : (0, F) = conformF F a x y := (by unfold conformF; rw [if_neg h1, if_pos h2])
      exact v_zret C hr (by decide) (by rw [← hE]) (by rw [← hE]) dX_conform_18
set_option maxHeartbeats 4000000 in
set_option maxRecDepth 100000 in
theorem c_stepF (l : Launch) (D : va_G) (cI cZ cJ : ClassId) (b : Nat → Nat) (F : FT) (a : AT) (x : Int32) : Ki l yX_step wX_step ({ frames := 2, cells := 0, slots := 0, locals := 42 } : Room) D vwCl (tyG cI cZ cJ) [.ref (b 0), .int x] (wX cI b F a) ((stepF F a x).1) (wX cI b ((stepF F a x).2) a) := by
  intro sz
  refine v_ent (cc := bX_step) (maxL := 3) (ret := (some .int)) (Qc := (fun A => va_Qi (fun (x9 : Int32) (_ : Unit) => x9 = (stepF F a x).1) (fun _ => wB D vwCl (tyG cI cZ cJ) A (wX cI b ((stepF F a x).2) a)) A)) (fr := (fun A => A)) (own := RcX) rfl (by decide) rfl (Nat.le_of_ble_eq_true rfl) rfl ?_
  intro p e s m args below meth c A C hr _
  refine v_free ?_
  refine v_aload_n C 0 dX_step_0 rfl rfl ?_
  refine v_get C (T := TcX) (N := 16) (ci := 0) (v := .int (F 15)) inX_step_X 0 rfl rfl 15 (by decide) (by decide +kernel) rfl rfl dX_step_1 ?_
  refine v_cSr0 (As := [.int (F 15)]) C (c_rSize l D cI cZ cJ (F 15)) (va_cwS 1 C.2.2.2.2.1 gX_step_R_size rfl rfl rfl (by decide +kernel) ⟨Nat.le_of_ble_eq_true rfl, Nat.le_of_ble_eq_true rfl⟩) rfl rfl (Nat.le_of_ble_eq_true rfl) ⟨Nat.zero_le _, Nat.zero_le _⟩ dX_step_4 ?_
  refine v_istore_n C (lv' := [(0, .ref (b 0)), (1, .int x), (2, .int (rSize (F 15)))]) [1, 2, 0] dX_step_7 rfl (by decide) rfl ?_
  refine v_aload_n C 0 dX_step_8 rfl rfl ?_
  refine v_iload_n C 1 dX_step_9 rfl rfl ?_
  refine v_cVrF (As := [.int x]) C (c_isPartyF l D cI cZ cJ b F a x) (cwV 1 C.2.2.2.2.1 gX_step_X_isParty rfl rfl rfl (by decide +kernel) ⟨Nat.le_of_ble_eq_true rfl, Nat.le_of_ble_eq_true rfl⟩) 0 rfl (T := TcX) (N := 16) rfl rfl rfl (Nat.le_of_ble_eq_true rfl) ⟨Nat.zero_le _, Nat.zero_le _⟩ dX_step_10 ?_
  refine v_if_eq C dX_step_13 (tgt := 22) (by decide) (fun h1 => ?_) (fun h1 => ?_)
  · skip
    refine v_iconst C (v := (-1)) dX_step_22 (by decide) ?_
    have hE : ((-1), F) = stepF F a x := (by unfold stepF; rw [if_pos h1])
    exact v_iret C hr (by rw [← hE]) (by rw [← hE]) dX_step_23
  · skip
    refine v_iload_n C 2 dX_step_16 rfl rfl ?_
    refine v_bipush C (v := 6) dX_step_17 (by decide) ?_
    refine v_icmp_lt C dX_step_19 (tgt := 24) (by decide) (fun h2 => ?_) (fun h2 => ?_)
    · skip
      refine v_aload_n C 0 dX_step_24 rfl rfl ?_
      refine v_aload_n C 0 dX_step_25 rfl rfl ?_
      refine v_get C (T := TcX) (N := 16) (ci := 0) (v := .int (F 15)) inX_step_X 0 rfl rfl 15 (by decide) (by decide +kernel) rfl rfl dX_step_26 ?_
      refine v_iload_n C 1 dX_step_29 rfl rfl ?_
      refine v_cSr0 (As := [.int (F 15), .int x]) C (c_rWithLast l D cI cZ cJ (F 15) x) (va_cwS 2 C.2.2.2.2.1 gX_step_R_withLast rfl rfl rfl (by decide +kernel) ⟨Nat.le_of_ble_eq_true rfl, Nat.le_of_ble_eq_true rfl⟩) rfl rfl (Nat.le_of_ble_eq_true rfl) ⟨Nat.zero_le _, Nat.zero_le _⟩ dX_step_30 ?_
      refine v_put C (T := TcX) (N := 16) (ci := 0) (v := .int (rWithLast (F 15) x)) inX_step_X tycX tycX_ok nmcX 0 rfl rfl 15 (by decide) (by decide +kernel) rfl rfl rfl rfl (Nat.le_of_ble_eq_true rfl) dX_step_33 (w1 := wX cI b (upd F 15 (rWithLast (F 15) x)) a) rfl ?_
      refine v_iload_n C 2 dX_step_36 rfl rfl ?_
      refine v_iconst C (v := 1) dX_step_37 (by decide) ?_
      refine v_iadd C dX_step_38 ?_
      have hE : ((rSize (F 15)) + (1 : Int32), upd F 15 (rWithLast (F 15) x)) = stepF F a x := (by unfold stepF; rw [if_neg h1, if_pos h2])
      exact v_iret C hr (by rw [← hE]) (by rw [← hE]) dX_step_39
    · skip
      refine v_iconst C (v := (-1)) dX_step_22 (by decide) ?_
      have hE : ((-1), F) = stepF F a x := (by unfold stepF; rw [if_neg h1, if_neg h2])
      exact v_iret C hr (by rw [← hE]) (by rw [← hE]) dX_step_23
set_option maxHeartbeats 4000000 in
set_option maxRecDepth 100000 in
theorem c_clearF (l : Launch) (D : va_G) (cI cZ cJ : ClassId) (b : Nat → Nat) (F : FT) (a : AT) : Kv l yX_clear wX_clear ({ frames := 0, cells := 0, slots := 0, locals := 0 } : Room) D vwCl (tyG cI cZ cJ) [.ref (b 0)] (wX cI b F a) (wX cI b (clearF F a) a) := by
  intro sz
  refine v_ent (cc := bX_clear) (maxL := 1) (ret := none) (Qc := (fun A => va_Qv (fun (_ : Unit) => True) (fun _ => wB D vwCl (tyG cI cZ cJ) A (wX cI b (clearF F a) a)) A)) (fr := (fun A => A)) (own := RcX) rfl (by decide) rfl (Nat.le_of_ble_eq_true rfl) rfl ?_
  intro p e s m args below meth c A C hr _
  refine v_free ?_
  refine v_aload_n C 0 dX_clear_0 rfl rfl ?_
  refine v_iconst C (v := 0) dX_clear_1 (by decide) ?_
  refine v_put C (T := TcX) (N := 16) (ci := 0) (v := .int 0) inX_clear_X tycX tycX_ok nmcX 0 rfl rfl 15 (by decide) (by decide +kernel) rfl rfl rfl rfl (Nat.le_of_ble_eq_true rfl) dX_clear_2 (w1 := wX cI b (upd F 15 0) a) rfl ?_
  have hE : upd F 15 0 = clearF F a := (by unfold clearF; rfl)
  exact v_vret C hr (by rw [← hE]) dX_clear_5
set_option maxHeartbeats 4000000 in
set_option maxRecDepth 100000 in
theorem c_passF (l : Launch) (D : va_G) (cI cZ cJ : ClassId) (b : Nat → Nat) (F : FT) (a : AT) (x : Int32) : Ki l yX_pass wX_pass ({ frames := 0, cells := 0, slots := 0, locals := 0 } : Room) D vwCl (tyG cI cZ cJ) [.ref (b 0), .int x] (wX cI b F a) ((passF F a x).1) (wX cI b ((passF F a x).2) a) := by
  intro sz
  refine v_ent (cc := bX_pass) (maxL := 2) (ret := (some .int)) (Qc := (fun A => va_Qi (fun (x9 : Int32) (_ : Unit) => x9 = (passF F a x).1) (fun _ => wB D vwCl (tyG cI cZ cJ) A (wX cI b ((passF F a x).2) a)) A)) (fr := (fun A => A)) (own := RcX) rfl (by decide) rfl (Nat.le_of_ble_eq_true rfl) rfl ?_
  intro p e s m args below meth c A C hr _
  refine v_free ?_
  refine v_iload_n C 1 dX_pass_0 rfl rfl ?_
  refine v_if_lt C dX_pass_1 (tgt := 10) (by decide) (fun h1 => ?_) (fun h1 => ?_)
  · skip
    refine v_iconst C (v := (-1)) dX_pass_10 (by decide) ?_
    have hE : ((-1), F) = passF F a x := (by unfold passF; rw [if_pos h1])
    exact v_iret C hr (by rw [← hE]) (by rw [← hE]) dX_pass_11
  · skip
    refine v_iload_n C 1 dX_pass_4 rfl rfl ?_
    refine v_bipush C (v := 100) dX_pass_5 (by decide) ?_
    refine v_icmp_le C dX_pass_7 (tgt := 12) (by decide) (fun h2 => ?_) (fun h2 => ?_)
    · skip
      refine v_aload_n C 0 dX_pass_12 rfl rfl ?_
      refine v_dup C dX_pass_13 rfl ?_
      refine v_get C (T := TcX) (N := 16) (ci := 0) (v := .int (F 13)) inX_pass_X 0 rfl rfl 13 (by decide) (by decide +kernel) rfl rfl dX_pass_14 ?_
      refine v_iload_n C 1 dX_pass_17 rfl rfl ?_
      refine v_iadd C dX_pass_18 ?_
      refine v_put C (T := TcX) (N := 16) (ci := 0) (v := .int ((F 13) + x)) inX_pass_X tycX tycX_ok nmcX 0 rfl rfl 13 (by decide) (by decide +kernel) rfl rfl rfl rfl (Nat.le_of_ble_eq_true rfl) dX_pass_19 (w1 := wX cI b (upd F 13 ((F 13) + x)) a) rfl ?_
      refine v_aload_n C 0 dX_pass_22 rfl rfl ?_
      refine v_get C (T := TcX) (N := 16) (ci := 0) (v := .int ((F 13) + x)) inX_pass_X 0 rfl rfl 13 (by decide) (by decide +kernel) rfl rfl dX_pass_23 ?_
      have hE : ((F 13) + x, upd F 13 ((F 13) + x)) = passF F a x := (by unfold passF; rw [if_neg h1, if_pos h2])
      exact v_iret C hr (by rw [← hE]) (by rw [← hE]) dX_pass_26
    · skip
      refine v_iconst C (v := (-1)) dX_pass_10 (by decide) ?_
      have hE : ((-1), F) = passF F a x := (by unfold passF; rw [if_neg h1, if_neg h2])
      exact v_iret C hr (by rw [← hE]) (by rw [← hE]) dX_pass_11

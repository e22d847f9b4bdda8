set_option maxHeartbeats 4000000 in
set_option maxRecDepth 100000 in
theorem c_h_arc (l : Launch) (D : va_G) (cI cZ cJ : ClassId) (b : Nat → Nat) (F : FT) (a : AT) (o : Nat) (f : Nat → Int64) (n : Nat) (P : Nat) (x : Int32) (y : Int32) (hn : F 8 = nI n) (hn4 : n ≤ 14) (hg : F 20 = nI P) (hp6 : P ≤ 6) (hlt : l.stackTraces = false) : Kh l yL_arc hL_arc ({ frames := 7, cells := 1, slots := 6, locals := 113 } : Room) D vwCl (tyG cI cZ cJ) [.ref (b 0), .int x, .int y, .ref o] (wXo cI cJ b F a o f) (hcA (arcF F a x y).1) (wXo cI cJ b ((arcF F a x y).2.2.1) ((arcF F a x y).2.2.2) o (outF (arcF F a x y).1 f ((arcF F a x y).2.1))) := by
  intro sz
  refine v_entH (cc := bL_arc) (maxL := 5) (ret := some .int) (hh := [(0, 10, 13, 13), (0, 10, 17, 15)]) (Qc := (fun A => va_Qi (fun (x9 : Int32) (_ : Unit) => x9 = hcA (arcF F a x y).1) (fun _ => wB D vwCl (tyG cI cZ cJ) A (wXo cI cJ b ((arcF F a x y).2.2.1) ((arcF F a x y).2.2.2) o (outF (arcF F a x y).1 f ((arcF F a x y).2.1)))) A)) (own := RcL) rfl (by decide) rfl (Nat.le_of_ble_eq_true rfl) rfl ?_
  intro p e s m args below meth c A C hr hY htab
  refine v_aload_n C 3 dL_arc_0 rfl rfl ?_
  refine v_iconst C (v := 0) dL_arc_1 (by decide) ?_
  refine v_aload_n C 0 dL_arc_2 rfl rfl ?_
  refine v_iload_n C 1 dL_arc_3 rfl rfl ?_
  refine v_iload_n C 2 dL_arc_4 rfl rfl ?_
  refine v_tVi C hY.1 (As := [.int x, .int y]) (wr := wO cJ o f) (w' := wXo cI cJ b ((arcF F a x y).2.2.1) ((arcF F a x y).2.2.2) o f) (c_arcF l D cI cZ cJ b F a n P x y hn hn4 hg hp6 hlt) (cwV 2 C.2.2.2.2.1 gL_arc rfl rfl rfl (by decide +kernel) ⟨Nat.le_of_ble_eq_true rfl, Nat.le_of_ble_eq_true rfl⟩) 0 rfl (T := TcX) (N := 16) rfl rfl rfl (Nat.le_of_ble_eq_true rfl) ⟨Nat.le_of_ble_eq_true rfl, Nat.le_of_ble_eq_true rfl⟩ dL_arc_5 [0, 1, 2, 3, 4, 5, 6, 7] [8] [1, 2, 3, 4, 5, 6, 7, 8, 0] rfl rfl rfl rfl (by decide) rfl rfl rfl (fun E9 hE => ?_) (fun hE => ?_)
  · skip
    rcases arcF_cases F a x y with h0 | h0 | h0
    · rw [h0] at hE; exact absurd hE (by simp [exN])
    · skip
      rw [h0] at hE
      obtain rfl : eA = E9 := Option.some.inj hE
      refine v_catch (E9 := eA) C htab hY (by decide +kernel) [] [(0, 10, 17, 15)] (0, 10, 13, 13) rfl (fun _ h => absurd h List.not_mem_nil) (by decide) (by decide) (by decide +kernel) (by decide +kernel) (ph := 13) rfl (fun q9 => ?_)
      refine v_astore C (lv' := []) [] dL_arc_13 (by decide) rfl ?_
      refine v_iconst C (v := 1) dL_arc_15 (by decide) ?_
      exact v_iret C hr (by rw [h0]; rfl) (by rw [h0]; rfl) dL_arc_16
    · skip
      rw [h0] at hE
      obtain rfl : eS = E9 := Option.some.inj hE
      refine v_catch (E9 := eS) C htab hY (by decide +kernel) [(0, 10, 13, 13)] [] (0, 10, 17, 15) rfl (List.forall_mem_cons.mpr ⟨⟨by decide, eA, by decide +kernel, by decide +kernel, by decide +kernel⟩, (fun _ h => absurd h List.not_mem_nil)⟩) (by decide) (by decide) (by decide +kernel) (by decide +kernel) (ph := 17) rfl (fun q9 => ?_)
      refine v_astore C (lv' := []) [] dL_arc_17 (by decide) rfl ?_
      refine v_iconst C (v := 2) dL_arc_19 (by decide) ?_
      exact v_iret C hr (by rw [h0]; rfl) (by rw [h0]; rfl) dL_arc_20
  · skip
    have h0 : (arcF F a x y).1 = 0 := by
      rcases arcF_cases F a x y with h0 | h0 | h0
      · exact h0
      · rw [h0] at hE; exact absurd hE (by simp [exN])
      · rw [h0] at hE; exact absurd hE (by simp [exN])
    refine v_i2l C dL_arc_8 ?_
    refine v_last C 8 2 rfl rfl (by unfold vp_in; decide) dL_arc_9 (w1 := wXo cI cJ b ((arcF F a x y).2.2.1) ((arcF F a x y).2.2.2) o (vp_updL f (0 : Int32).toNatClampNeg ((arcF F a x y).2.1).toInt64)) rfl ?_
    refine v_goto C dL_arc_10 (tgt := 21) (by decide) ?_
    refine v_iconst C (v := 0) dL_arc_21 (by decide) ?_
    exact v_iret C hr (by rw [h0]; rfl) (by rw [show outF (arcF F a x y).1 f ((arcF F a x y).2.1) = vp_updL f (0 : Int32).toNatClampNeg ((arcF F a x y).2.1).toInt64 from if_pos h0]) dL_arc_22
set_option maxHeartbeats 4000000 in
set_option maxRecDepth 100000 in
theorem c_h_plan (l : Launch) (D : va_G) (cI cZ cJ : ClassId) (b : Nat → Nat) (F : FT) (a : AT) (o : Nat) (f : Nat → Int64) (P : Nat) (E : Nat) (hg : F 20 = nI P) (hp6 : P ≤ 6) (hP1 : 1 ≤ P) (he : F 21 = nI E) (hE : E < 64) (hlt : l.stackTraces = false) : Kh l yL_plan hL_plan ({ frames := 9, cells := 1, slots := 6, locals := 213 } : Room) D vwCl (tyG cI cZ cJ) [.ref (b 0), .ref o] (wXo cI cJ b F a o f) (hcP (planF F a P E).1) (wXo cI cJ b ((planF F a P E).2.2) a o (outF (planF F a P E).1 f ((planF F a P E).2.1))) := by
  intro sz
  refine v_entH (cc := bL_plan) (maxL := 3) (ret := some .int) (hh := [(0, 8, 11, 21), (0, 8, 14, 15)]) (Qc := (fun A => va_Qi (fun (x9 : Int32) (_ : Unit) => x9 = hcP (planF F a P E).1) (fun _ => wB D vwCl (tyG cI cZ cJ) A (wXo cI cJ b ((planF F a P E).2.2) a o (outF (planF F a P E).1 f ((planF F a P E).2.1)))) A)) (own := RcL) rfl (by decide) rfl (Nat.le_of_ble_eq_true rfl) rfl ?_
  intro p e s m args below meth c A C hr hY htab
  refine v_aload_n C 1 dL_plan_0 rfl rfl ?_
  refine v_iconst C (v := 0) dL_plan_1 (by decide) ?_
  refine v_aload_n C 0 dL_plan_2 rfl rfl ?_
  refine v_tVi C hY.1 (As := []) (wr := wO cJ o f) (w' := wXo cI cJ b ((planF F a P E).2.2) a o f) (c_planF l D cI cZ cJ b F a P E hg hp6 hP1 he hE hlt) (cwV 0 C.2.2.2.2.1 gL_plan rfl rfl rfl (by decide +kernel) ⟨Nat.le_of_ble_eq_true rfl, Nat.le_of_ble_eq_true rfl⟩) 0 rfl (T := TcX) (N := 16) rfl rfl rfl (Nat.le_of_ble_eq_true rfl) ⟨Nat.le_of_ble_eq_true rfl, Nat.le_of_ble_eq_true rfl⟩ dL_plan_3 [0, 1, 2, 3, 4, 5, 6, 7] [8] [1, 2, 3, 4, 5, 6, 7, 8, 0] rfl rfl rfl rfl (by decide) rfl rfl rfl (fun E9 hE => ?_) (fun hE => ?_)
  · skip
    rcases planF_cases F a P E with h0 | h0 | h0
    · rw [h0] at hE; exact absurd hE (by simp [exN])
    · skip
      rw [h0] at hE
      obtain rfl : eU = E9 := Option.some.inj hE
      refine v_catch (E9 := eU) C htab hY (by decide +kernel) [] [(0, 8, 14, 15)] (0, 8, 11, 21) rfl (fun _ h => absurd h List.not_mem_nil) (by decide) (by decide) (by decide +kernel) (by decide +kernel) (ph := 11) rfl (fun q9 => ?_)
      refine v_astore_n C (lv' := []) [] dL_plan_11 rfl (by decide) rfl ?_
      refine v_iconst C (v := 1) dL_plan_12 (by decide) ?_
      exact v_iret C hr (by rw [h0]; rfl) (by rw [h0]; rfl) dL_plan_13
    · skip
      rw [h0] at hE
      obtain rfl : eS = E9 := Option.some.inj hE
      refine v_catch (E9 := eS) C htab hY (by decide +kernel) [(0, 8, 11, 21)] [] (0, 8, 14, 15) rfl (List.forall_mem_cons.mpr ⟨⟨by decide, eU, by decide +kernel, by decide +kernel, by decide +kernel⟩, (fun _ h => absurd h List.not_mem_nil)⟩) (by decide) (by decide) (by decide +kernel) (by decide +kernel) (ph := 14) rfl (fun q9 => ?_)
      refine v_astore_n C (lv' := []) [] dL_plan_14 rfl (by decide) rfl ?_
      refine v_iconst C (v := 2) dL_plan_15 (by decide) ?_
      exact v_iret C hr (by rw [h0]; rfl) (by rw [h0]; rfl) dL_plan_16
  · skip
    have h0 : (planF F a P E).1 = 0 := by
      rcases planF_cases F a P E with h0 | h0 | h0
      · exact h0
      · rw [h0] at hE; exact absurd hE (by simp [exN])
      · rw [h0] at hE; exact absurd hE (by simp [exN])
    refine v_i2l C dL_plan_6 ?_
    refine v_last C 8 2 rfl rfl (by unfold vp_in; decide) dL_plan_7 (w1 := wXo cI cJ b ((planF F a P E).2.2) a o (vp_updL f (0 : Int32).toNatClampNeg ((planF F a P E).2.1).toInt64)) rfl ?_
    refine v_goto C dL_plan_8 (tgt := 17) (by decide) ?_
    refine v_iconst C (v := 0) dL_plan_17 (by decide) ?_
    exact v_iret C hr (by rw [h0]; rfl) (by rw [show outF (planF F a P E).1 f ((planF F a P E).2.1) = vp_updL f (0 : Int32).toNatClampNeg ((planF F a P E).2.1).toInt64 from if_pos h0]) dL_plan_18
set_option maxHeartbeats 4000000 in
set_option maxRecDepth 100000 in
theorem c_h_act (l : Launch) (D : va_G) (cI cZ cJ : ClassId) (b : Nat → Nat) (F : FT) (a : AT) (o : Nat) (f : Nat → Int64) (n : Nat) (P : Nat) (x : Int32) (hn : F 8 = nI n) (hn4 : n ≤ 14) (hp : F 0 = nI P) (hp6 : P ≤ 6) (hlt : l.stackTraces = false) : Kh l yL_act hL_act ({ frames := 7, cells := 1, slots := 6, locals := 136 } : Room) D vwCl (tyG cI cZ cJ) [.ref (b 0), .int x, .ref o] (wXo cI cJ b F a o f) (hcC (actF F a n P x).1) (wXo cI cJ b F ((actF F a n P x).2.2) o (outF (actF F a n P x).1 f ((actF F a n P x).2.1))) := by
  intro sz
  refine v_entH (cc := bL_act) (maxL := 4) (ret := some .int) (hh := [(0, 9, 12, 13), (0, 9, 15, 15), (0, 9, 18, 21)]) (Qc := (fun A => va_Qi (fun (x9 : Int32) (_ : Unit) => x9 = hcC (actF F a n P x).1) (fun _ => wB D vwCl (tyG cI cZ cJ) A (wXo cI cJ b F ((actF F a n P x).2.2) o (outF (actF F a n P x).1 f ((actF F a n P x).2.1)))) A)) (own := RcL) rfl (by decide) rfl (Nat.le_of_ble_eq_true rfl) rfl ?_
  intro p e s m args below meth c A C hr hY htab
  refine v_aload_n C 2 dL_act_0 rfl rfl ?_
  refine v_iconst C (v := 0) dL_act_1 (by decide) ?_
  refine v_aload_n C 0 dL_act_2 rfl rfl ?_
  refine v_iload_n C 1 dL_act_3 rfl rfl ?_
  refine v_tVi C hY.1 (As := [.int x]) (wr := wO cJ o f) (w' := wXo cI cJ b F ((actF F a n P x).2.2) o f) (c_actF l D cI cZ cJ b F a n P x hn hn4 hp hp6 hlt) (cwV 1 C.2.2.2.2.1 gL_act rfl rfl rfl (by decide +kernel) ⟨Nat.le_of_ble_eq_true rfl, Nat.le_of_ble_eq_true rfl⟩) 0 rfl (T := TcX) (N := 16) rfl rfl rfl (Nat.le_of_ble_eq_true rfl) ⟨Nat.le_of_ble_eq_true rfl, Nat.le_of_ble_eq_true rfl⟩ dL_act_4 [0, 1, 2, 3, 4, 5, 6, 7] [8] [1, 2, 3, 4, 5, 6, 7, 8, 0] rfl rfl rfl rfl (by decide) rfl rfl rfl (fun E9 hE => ?_) (fun hE => ?_)
  · skip
    rcases actF_cases F a n P x with h0 | h0 | h0 | h0
    · rw [h0] at hE; exact absurd hE (by simp [exN])
    · skip
      rw [h0] at hE
      obtain rfl : eA = E9 := Option.some.inj hE
      refine v_catch (E9 := eA) C htab hY (by decide +kernel) [] [(0, 9, 15, 15), (0, 9, 18, 21)] (0, 9, 12, 13) rfl (fun _ h => absurd h List.not_mem_nil) (by decide) (by decide) (by decide +kernel) (by decide +kernel) (ph := 12) rfl (fun q9 => ?_)
      refine v_astore_n C (lv' := []) [] dL_act_12 rfl (by decide) rfl ?_
      refine v_iconst C (v := 1) dL_act_13 (by decide) ?_
      exact v_iret C hr (by rw [h0]; rfl) (by rw [h0]; rfl) dL_act_14
    · skip
      rw [h0] at hE
      obtain rfl : eS = E9 := Option.some.inj hE
      refine v_catch (E9 := eS) C htab hY (by decide +kernel) [(0, 9, 12, 13)] [(0, 9, 18, 21)] (0, 9, 15, 15) rfl (List.forall_mem_cons.mpr ⟨⟨by decide, eA, by decide +kernel, by decide +kernel, by decide +kernel⟩, (fun _ h => absurd h List.not_mem_nil)⟩) (by decide) (by decide) (by decide +kernel) (by decide +kernel) (ph := 15) rfl (fun q9 => ?_)
      refine v_astore_n C (lv' := []) [] dL_act_15 rfl (by decide) rfl ?_
      refine v_iconst C (v := 2) dL_act_16 (by decide) ?_
      exact v_iret C hr (by rw [h0]; rfl) (by rw [h0]; rfl) dL_act_17
    · skip
      rw [h0] at hE
      obtain rfl : eU = E9 := Option.some.inj hE
      refine v_catch (E9 := eU) C htab hY (by decide +kernel) [(0, 9, 12, 13), (0, 9, 15, 15)] [] (0, 9, 18, 21) rfl (List.forall_mem_cons.mpr ⟨⟨by decide, eA, by decide +kernel, by decide +kernel, by decide +kernel⟩, (List.forall_mem_cons.mpr ⟨⟨by decide, eS, by decide +kernel, by decide +kernel, by decide +kernel⟩, (fun _ h => absurd h List.not_mem_nil)⟩)⟩) (by decide) (by decide) (by decide +kernel) (by decide +kernel) (ph := 18) rfl (fun q9 => ?_)
      refine v_astore_n C (lv' := []) [] dL_act_18 rfl (by decide) rfl ?_
      refine v_iconst C (v := 3) dL_act_19 (by decide) ?_
      exact v_iret C hr (by rw [h0]; rfl) (by rw [h0]; rfl) dL_act_20
  · skip
    have h0 : (actF F a n P x).1 = 0 := by
      rcases actF_cases F a n P x with h0 | h0 | h0 | h0
      · exact h0
      · rw [h0] at hE; exact absurd hE (by simp [exN])
      · rw [h0] at hE; exact absurd hE (by simp [exN])
      · rw [h0] at hE; exact absurd hE (by simp [exN])
    refine v_i2l C dL_act_7 ?_
    refine v_last C 8 2 rfl rfl (by unfold vp_in; decide) dL_act_8 (w1 := wXo cI cJ b F ((actF F a n P x).2.2) o (vp_updL f (0 : Int32).toNatClampNeg ((actF F a n P x).2.1).toInt64)) rfl ?_
    refine v_goto C dL_act_9 (tgt := 21) (by decide) ?_
    refine v_iconst C (v := 0) dL_act_21 (by decide) ?_
    exact v_iret C hr (by rw [h0]; rfl) (by rw [show outF (actF F a n P x).1 f ((actF F a n P x).2.1) = vp_updL f (0 : Int32).toNatClampNeg ((actF F a n P x).2.1).toInt64 from if_pos h0]) dL_act_22
set_option maxHeartbeats 4000000 in
set_option maxRecDepth 100000 in
theorem c_h_run (l : Launch) (D : va_G) (cI cZ cJ : ClassId) (b : Nat → Nat) (F : FT) (a : AT) (o : Nat) (f : Nat → Int64) (n : Nat) (P : Nat) (x : Int32) (hn : F 8 = nI n) (hn4 : n ≤ 14) (hp : F 0 = nI P) (hp6 : P ≤ 6) (hlt : l.stackTraces = false) : Kh l yL_run hL_run ({ frames := 7, cells := 1, slots := 6, locals := 139 } : Room) D vwCl (tyG cI cZ cJ) [.ref (b 0), .int x, .ref o] (wXo cI cJ b F a o f) (hcA (runF F a n P x).1) (wXo cI cJ b ((runF F a n P x).2.2.1) ((runF F a n P x).2.2.2) o (outF (runF F a n P x).1 f ((runF F a n P x).2.1))) := by
  intro sz
  refine v_entH (cc := bL_run) (maxL := 4) (ret := some .int) (hh := [(0, 9, 12, 13)]) (Qc := (fun A => va_Qi (fun (x9 : Int32) (_ : Unit) => x9 = hcA (runF F a n P x).1) (fun _ => wB D vwCl (tyG cI cZ cJ) A (wXo cI cJ b ((runF F a n P x).2.2.1) ((runF F a n P x).2.2.2) o (outF (runF F a n P x).1 f ((runF F a n P x).2.1)))) A)) (own := RcL) rfl (by decide) rfl (Nat.le_of_ble_eq_true rfl) rfl ?_
  intro p e s m args below meth c A C hr hY htab
  refine v_aload_n C 2 dL_run_0 rfl rfl ?_
  refine v_iconst C (v := 0) dL_run_1 (by decide) ?_
  refine v_aload_n C 0 dL_run_2 rfl rfl ?_
  refine v_iload_n C 1 dL_run_3 rfl rfl ?_
  refine v_tVi C hY.1 (As := [.int x]) (wr := wO cJ o f) (w' := wXo cI cJ b ((runF F a n P x).2.2.1) ((runF F a n P x).2.2.2) o f) (c_runF l D cI cZ cJ b F a n P x hn hn4 hp hp6 hlt) (cwV 1 C.2.2.2.2.1 gL_run rfl rfl rfl (by decide +kernel) ⟨Nat.le_of_ble_eq_true rfl, Nat.le_of_ble_eq_true rfl⟩) 0 rfl (T := TcX) (N := 16) rfl rfl rfl (Nat.le_of_ble_eq_true rfl) ⟨Nat.le_of_ble_eq_true rfl, Nat.le_of_ble_eq_true rfl⟩ dL_run_4 [0, 1, 2, 3, 4, 5, 6, 7] [8] [1, 2, 3, 4, 5, 6, 7, 8, 0] rfl rfl rfl rfl (by decide) rfl rfl rfl (fun E9 hE => ?_) (fun hE => ?_)
  · skip
    rcases runF_cases F a n P x with h0 | h0
    · rw [h0] at hE; exact absurd hE (by simp [exN])
    · skip
      rw [h0] at hE
      obtain rfl : eA = E9 := Option.some.inj hE
      refine v_catch (E9 := eA) C htab hY (by decide +kernel) [] [] (0, 9, 12, 13) rfl (fun _ h => absurd h List.not_mem_nil) (by decide) (by decide) (by decide +kernel) (by decide +kernel) (ph := 12) rfl (fun q9 => ?_)
      refine v_astore_n C (lv' := []) [] dL_run_12 rfl (by decide) rfl ?_
      refine v_iconst C (v := 1) dL_run_13 (by decide) ?_
      exact v_iret C hr (by rw [h0]; rfl) (by rw [h0]; rfl) dL_run_14
  · skip
    have h0 : (runF F a n P x).1 = 0 := by
      rcases runF_cases F a n P x with h0 | h0
      · exact h0
      · rw [h0] at hE; exact absurd hE (by simp [exN])
    refine v_i2l C dL_run_7 ?_
    refine v_last C 8 2 rfl rfl (by unfold vp_in; decide) dL_run_8 (w1 := wXo cI cJ b ((runF F a n P x).2.2.1) ((runF F a n P x).2.2.2) o (vp_updL f (0 : Int32).toNatClampNeg ((runF F a n P x).2.1).toInt64)) rfl ?_
    refine v_goto C dL_run_9 (tgt := 15) (by decide) ?_
    refine v_iconst C (v := 0) dL_run_15 (by decide) ?_
    exact v_iret C hr (by rw [h0]; rfl) (by rw [show outF (runF F a n P x).1 f ((runF F a n P x).2.1) = vp_updL f (0 : Int32).toNatClampNeg ((runF F a n P x).2.1).toInt64 from if_pos h0]) dL_run_16
set_option maxHeartbeats 4000000 in
set_option maxRecDepth 100000 in
theorem c_h_deploy (l : Launch) (D : va_G) (cI cZ cJ : ClassId) (b : Nat → Nat) (F : FT) (a : AT) (n : Nat) (x : Int32) (hn : F 8 = nI n) (hn4 : n ≤ 14) (hlt : l.stackTraces = false) : Kh l yL_deploy hL_deploy ({ frames := 7, cells := 1, slots := 6, locals := 111 } : Room) D vwCl (tyG cI cZ cJ) [.ref (b 0), .int x] (wX cI b F a) (hcD (deployF F a x).1) (wX cI b F ((deployF F a x).2)) := by
  intro sz
  refine v_entH (cc := bL_deploy) (maxL := 3) (ret := some .int) (hh := [(0, 5, 8, 34), (0, 5, 11, 15)]) (Qc := (fun A => va_Qi (fun (x9 : Int32) (_ : Unit) => x9 = hcD (deployF F a x).1) (fun _ => wB D vwCl (tyG cI cZ cJ) A (wX cI b F ((deployF F a x).2))) A)) (own := RcL) rfl (by decide) rfl (Nat.le_of_ble_eq_true rfl) rfl ?_
  intro p e s m args below meth c A C hr hY htab
  refine v_aload_n C 0 dL_deploy_0 rfl rfl ?_
  refine v_iload_n C 1 dL_deploy_1 rfl rfl ?_
  refine v_tVv C hY.1 (As := [.int x]) (wr := []) (w' := wX cI b F ((deployF F a x).2)) (c_deployF l D cI cZ cJ b F a n x hn hn4 hlt) (cwV 1 C.2.2.2.2.1 gL_deploy rfl rfl rfl (by decide +kernel) ⟨Nat.le_of_ble_eq_true rfl, Nat.le_of_ble_eq_true rfl⟩) 0 rfl (T := TcX) (N := 16) rfl rfl rfl (Nat.le_of_ble_eq_true rfl) ⟨Nat.le_of_ble_eq_true rfl, Nat.le_of_ble_eq_true rfl⟩ dL_deploy_2 [0, 1, 2, 3, 4, 5, 6, 7] [] [0, 1, 2, 3, 4, 5, 6, 7] rfl rfl rfl rfl (by decide) rfl rfl rfl (fun E9 hE => ?_) (fun hE => ?_)
  · skip
    rcases deployF_cases F a x with h0 | h0 | h0
    · rw [h0] at hE; exact absurd hE (by simp [exN])
    · skip
      rw [h0] at hE
      obtain rfl : eB = E9 := Option.some.inj hE
      refine v_catch (E9 := eB) C htab hY (by decide +kernel) [] [(0, 5, 11, 15)] (0, 5, 8, 34) rfl (fun _ h => absurd h List.not_mem_nil) (by decide) (by decide) (by decide +kernel) (by decide +kernel) (ph := 8) rfl (fun q9 => ?_)
      refine v_astore_n C (lv' := []) [] dL_deploy_8 rfl (by decide) rfl ?_
      refine v_iconst C (v := 1) dL_deploy_9 (by decide) ?_
      exact v_iret C hr (by rw [h0]; rfl) (by rw [h0]) dL_deploy_10
    · skip
      rw [h0] at hE
      obtain rfl : eS = E9 := Option.some.inj hE
      refine v_catch (E9 := eS) C htab hY (by decide +kernel) [(0, 5, 8, 34)] [] (0, 5, 11, 15) rfl (List.forall_mem_cons.mpr ⟨⟨by decide, eB, by decide +kernel, by decide +kernel, by decide +kernel⟩, (fun _ h => absurd h List.not_mem_nil)⟩) (by decide) (by decide) (by decide +kernel) (by decide +kernel) (ph := 11) rfl (fun q9 => ?_)
      refine v_astore_n C (lv' := []) [] dL_deploy_11 rfl (by decide) rfl ?_
      refine v_iconst C (v := 2) dL_deploy_12 (by decide) ?_
      exact v_iret C hr (by rw [h0]; rfl) (by rw [h0]) dL_deploy_13
  · skip
    have h0 : (deployF F a x).1 = 0 := by
      rcases deployF_cases F a x with h0 | h0 | h0
      · exact h0
      · rw [h0] at hE; exact absurd hE (by simp [exN])
      · rw [h0] at hE; exact absurd hE (by simp [exN])
    refine v_goto C dL_deploy_5 (tgt := 14) (by decide) ?_
    refine v_iconst C (v := 0) dL_deploy_14 (by decide) ?_
    exact v_iret C hr (by rw [h0]; rfl) rfl dL_deploy_15
set_option maxHeartbeats 4000000 in
set_option maxRecDepth 100000 in
theorem c_h_show (l : Launch) (D : va_G) (cI cZ cJ : ClassId) (b : Nat → Nat) (F : FT) (a : AT) (o : Nat) (f : Nat → Int64) (n : Nat) (P : Nat) (x : Int32) (hn : F 8 = nI n) (hn4 : n ≤ 14) (hp : F 0 = nI P) (hp6 : P ≤ 6) (hg : F 20 = nI P) (hlt : l.stackTraces = false) : Kh l yL_show hL_show ({ frames := 7, cells := 1, slots := 6, locals := 112 } : Room) D vwCl (tyG cI cZ cJ) [.ref (b 0), .int x, .ref o] (wXo cI cJ b F a o f) (hcS (showF F a n P x).1) (wXo cI cJ b ((showF F a n P x).2.2.1) ((showF F a n P x).2.2.2) o (outF (showF F a n P x).1 f ((showF F a n P x).2.1))) := by
  intro sz
  refine v_entH (cc := bL_show) (maxL := 4) (ret := some .int) (hh := [(0, 9, 12, 34), (0, 9, 15, 13), (0, 9, 18, 15), (0, 9, 21, 21)]) (Qc := (fun A => va_Qi (fun (x9 : Int32) (_ : Unit) => x9 = hcS (showF F a n P x).1) (fun _ => wB D vwCl (tyG cI cZ cJ) A (wXo cI cJ b ((showF F a n P x).2.2.1) ((showF F a n P x).2.2.2) o (outF (showF F a n P x).1 f ((showF F a n P x).2.1)))) A)) (own := RcL) rfl (by decide) rfl (Nat.le_of_ble_eq_true rfl) rfl ?_
  intro p e s m args below meth c A C hr hY htab
  refine v_aload_n C 2 dL_show_0 rfl rfl ?_
  refine v_iconst C (v := 0) dL_show_1 (by decide) ?_
  refine v_aload_n C 0 dL_show_2 rfl rfl ?_
  refine v_iload_n C 1 dL_show_3 rfl rfl ?_
  refine v_tVi C hY.1 (As := [.int x]) (wr := wO cJ o f) (w' := wXo cI cJ b ((showF F a n P x).2.2.1) ((showF F a n P x).2.2.2) o f) (c_showF l D cI cZ cJ b F a n P x hn hn4 hp hp6 hg hlt) (cwV 1 C.2.2.2.2.1 gL_show rfl rfl rfl (by decide +kernel) ⟨Nat.le_of_ble_eq_true rfl, Nat.le_of_ble_eq_true rfl⟩) 0 rfl (T := TcX) (N := 16) rfl rfl rfl (Nat.le_of_ble_eq_true rfl) ⟨Nat.le_of_ble_eq_true rfl, Nat.le_of_ble_eq_true rfl⟩ dL_show_4 [0, 1, 2, 3, 4, 5, 6, 7] [8] [1, 2, 3, 4, 5, 6, 7, 8, 0] rfl rfl rfl rfl (by decide) rfl rfl rfl (fun E9 hE => ?_) (fun hE => ?_)
  · skip
    rcases showF_cases F a n P x with h0 | h0 | h0 | h0 | h0
    · rw [h0] at hE; exact absurd hE (by simp [exN])
    · skip
      rw [h0] at hE
      obtain rfl : eB = E9 := Option.some.inj hE
      refine v_catch (E9 := eB) C htab hY (by decide +kernel) [] [(0, 9, 15, 13), (0, 9, 18, 15), (0, 9, 21, 21)] (0, 9, 12, 34) rfl (fun _ h => absurd h List.not_mem_nil) (by decide) (by decide) (by decide +kernel) (by decide +kernel) (ph := 12) rfl (fun q9 => ?_)
      refine v_astore_n C (lv' := []) [] dL_show_12 rfl (by decide) rfl ?_
      refine v_iconst C (v := 1) dL_show_13 (by decide) ?_
      exact v_iret C hr (by rw [h0]; rfl) (by rw [h0]; rfl) dL_show_14
    · skip
      rw [h0] at hE
      obtain rfl : eA = E9 := Option.some.inj hE
      refine v_catch (E9 := eA) C htab hY (by decide +kernel) [(0, 9, 12, 34)] [(0, 9, 18, 15), (0, 9, 21, 21)] (0, 9, 15, 13) rfl (List.forall_mem_cons.mpr ⟨⟨by decide, eB, by decide +kernel, by decide +kernel, by decide +kernel⟩, (fun _ h => absurd h List.not_mem_nil)⟩) (by decide) (by decide) (by decide +kernel) (by decide +kernel) (ph := 15) rfl (fun q9 => ?_)
      refine v_astore_n C (lv' := []) [] dL_show_15 rfl (by decide) rfl ?_
      refine v_iconst C (v := 2) dL_show_16 (by decide) ?_
      exact v_iret C hr (by rw [h0]; rfl) (by rw [h0]; rfl) dL_show_17
    · skip
      rw [h0] at hE
      obtain rfl : eS = E9 := Option.some.inj hE
      refine v_catch (E9 := eS) C htab hY (by decide +kernel) [(0, 9, 12, 34), (0, 9, 15, 13)] [(0, 9, 21, 21)] (0, 9, 18, 15) rfl (List.forall_mem_cons.mpr ⟨⟨by decide, eB, by decide +kernel, by decide +kernel, by decide +kernel⟩, (List.forall_mem_cons.mpr ⟨⟨by decide, eA, by decide +kernel, by decide +kernel, by decide +kernel⟩, (fun _ h => absurd h List.not_mem_nil)⟩)⟩) (by decide) (by decide) (by decide +kernel) (by decide +kernel) (ph := 18) rfl (fun q9 => ?_)
      refine v_astore_n C (lv' := []) [] dL_show_18 rfl (by decide) rfl ?_
      refine v_iconst C (v := 3) dL_show_19 (by decide) ?_
      exact v_iret C hr (by rw [h0]; rfl) (by rw [h0]; rfl) dL_show_20
    · skip
      rw [h0] at hE
      obtain rfl : eU = E9 := Option.some.inj hE
      refine v_catch (E9 := eU) C htab hY (by decide +kernel) [(0, 9, 12, 34), (0, 9, 15, 13), (0, 9, 18, 15)] [] (0, 9, 21, 21) rfl (List.forall_mem_cons.mpr ⟨⟨by decide, eB, by decide +kernel, by decide +kernel, by decide +kernel⟩, (List.forall_mem_cons.mpr ⟨⟨by decide, eA, by decide +kernel, by decide +kernel, by decide +kernel⟩, (List.forall_mem_cons.mpr ⟨⟨by decide, eS, by decide +kernel, by decide +kernel, by decide +kernel⟩, (fun _ h => absurd h List.not_mem_nil)⟩)⟩)⟩) (by decide) (by decide) (by decide +kernel) (by decide +kernel) (ph := 21) rfl (fun q9 => ?_)
      refine v_astore_n C (lv' := []) [] dL_show_21 rfl (by decide) rfl ?_
      refine v_iconst C (v := 4) dL_show_22 (by decide) ?_
      exact v_iret C hr (by rw [h0]; rfl) (by rw [h0]; rfl) dL_show_23
  · skip
    have h0 : (showF F a n P x).1 = 0 := by
      rcases showF_cases F a n P x with h0 | h0 | h0 | h0 | h0
      · exact h0
      · rw [h0] at hE; exact absurd hE (by simp [exN])
      · rw [h0] at hE; exact absurd hE (by simp [exN])
      · rw [h0] at hE; exact absurd hE (by simp [exN])
      · rw [h0] at hE; exact absurd hE (by simp [exN])
    refine v_i2l C dL_show_7 ?_
    refine v_last C 8 2 rfl rfl (by unfold vp_in; decide) dL_show_8 (w1 := wXo cI cJ b ((showF F a n P x).2.2.1) ((showF F a n P x).2.2.2) o (vp_updL f (0 : Int32).toNatClampNeg ((showF F a n P x).2.1).toInt64)) rfl ?_
    refine v_goto C dL_show_9 (tgt := 24) (by decide) ?_
    refine v_iconst C (v := 0) dL_show_24 (by decide) ?_
    exact v_iret C hr (by rw [h0]; rfl) (by rw [show outF (showF F a n P x).1 f ((showF F a n P x).2.1) = vp_updL f (0 : Int32).toNatClampNeg ((showF F a n P x).2.1).toInt64 from if_pos h0]) dL_show_25
set_option maxHeartbeats 4000000 in
set_option maxRecDepth 100000 in
theorem c_h_back (l : Launch) (D : va_G) (cI cZ cJ : ClassId) (b : Nat → Nat) (F : FT) (a : AT) (n : Nat) (x : Int32) (hn : F 8 = nI n) (hn4 : n ≤ 14) (hlt : l.stackTraces = false) : Kh l yL_back hL_back ({ frames := 7, cells := 1, slots := 6, locals := 111 } : Room) D vwCl (tyG cI cZ cJ) [.ref (b 0), .int x] (wX cI b F a) (hcB (backF F a x).1) (wX cI b F ((backF F a x).2)) := by
  intro sz
  refine v_entH (cc := bL_back) (maxL := 3) (ret := some .int) (hh := [(0, 5, 8, 34), (0, 5, 11, 15), (0, 5, 14, 21)]) (Qc := (fun A => va_Qi (fun (x9 : Int32) (_ : Unit) => x9 = hcB (backF F a x).1) (fun _ => wB D vwCl (tyG cI cZ cJ) A (wX cI b F ((backF F a x).2))) A)) (own := RcL) rfl (by decide) rfl (Nat.le_of_ble_eq_true rfl) rfl ?_
  intro p e s m args below meth c A C hr hY htab
  refine v_aload_n C 0 dL_back_0 rfl rfl ?_
  refine v_iload_n C 1 dL_back_1 rfl rfl ?_
  refine v_tVv C hY.1 (As := [.int x]) (wr := []) (w' := wX cI b F ((backF F a x).2)) (c_backF l D cI cZ cJ b F a n x hn hn4 hlt) (cwV 1 C.2.2.2.2.1 gL_back rfl rfl rfl (by decide +kernel) ⟨Nat.le_of_ble_eq_true rfl, Nat.le_of_ble_eq_true rfl⟩) 0 rfl (T := TcX) (N := 16) rfl rfl rfl (Nat.le_of_ble_eq_true rfl) ⟨Nat.le_of_ble_eq_true rfl, Nat.le_of_ble_eq_true rfl⟩ dL_back_2 [0, 1, 2, 3, 4, 5, 6, 7] [] [0, 1, 2, 3, 4, 5, 6, 7] rfl rfl rfl rfl (by decide) rfl rfl rfl (fun E9 hE => ?_) (fun hE => ?_)
  · skip
    rcases backF_cases F a x with h0 | h0 | h0 | h0
    · rw [h0] at hE; exact absurd hE (by simp [exN])
    · skip
      rw [h0] at hE
      obtain rfl : eB = E9 := Option.some.inj hE
      refine v_catch (E9 := eB) C htab hY (by decide +kernel) [] [(0, 5, 11, 15), (0, 5, 14, 21)] (0, 5, 8, 34) rfl (fun _ h => absurd h List.not_mem_nil) (by decide) (by decide) (by decide +kernel) (by decide +kernel) (ph := 8) rfl (fun q9 => ?_)
      refine v_astore_n C (lv' := []) [] dL_back_8 rfl (by decide) rfl ?_
      refine v_iconst C (v := 1) dL_back_9 (by decide) ?_
      exact v_iret C hr (by rw [h0]; rfl) (by rw [h0]) dL_back_10
    · skip
      rw [h0] at hE
      obtain rfl : eS = E9 := Option.some.inj hE
      refine v_catch (E9 := eS) C htab hY (by decide +kernel) [(0, 5, 8, 34)] [(0, 5, 14, 21)] (0, 5, 11, 15) rfl (List.forall_mem_cons.mpr ⟨⟨by decide, eB, by decide +kernel, by decide +kernel, by decide +kernel⟩, (fun _ h => absurd h List.not_mem_nil)⟩) (by decide) (by decide) (by decide +kernel) (by decide +kernel) (ph := 11) rfl (fun q9 => ?_)
      refine v_astore_n C (lv' := []) [] dL_back_11 rfl (by decide) rfl ?_
      refine v_iconst C (v := 2) dL_back_12 (by decide) ?_
      exact v_iret C hr (by rw [h0]; rfl) (by rw [h0]) dL_back_13
    · skip
      rw [h0] at hE
      obtain rfl : eU = E9 := Option.some.inj hE
      refine v_catch (E9 := eU) C htab hY (by decide +kernel) [(0, 5, 8, 34), (0, 5, 11, 15)] [] (0, 5, 14, 21) rfl (List.forall_mem_cons.mpr ⟨⟨by decide, eB, by decide +kernel, by decide +kernel, by decide +kernel⟩, (List.forall_mem_cons.mpr ⟨⟨by decide, eS, by decide +kernel, by decide +kernel, by decide +kernel⟩, (fun _ h => absurd h List.not_mem_nil)⟩)⟩) (by decide) (by decide) (by decide +kernel) (by decide +kernel) (ph := 14) rfl (fun q9 => ?_)
      refine v_astore_n C (lv' := []) [] dL_back_14 rfl (by decide) rfl ?_
      refine v_iconst C (v := 3) dL_back_15 (by decide) ?_
      exact v_iret C hr (by rw [h0]; rfl) (by rw [h0]) dL_back_16
  · skip
    have h0 : (backF F a x).1 = 0 := by
      rcases backF_cases F a x with h0 | h0 | h0 | h0
      · exact h0
      · rw [h0] at hE; exact absurd hE (by simp [exN])
      · rw [h0] at hE; exact absurd hE (by simp [exN])
      · rw [h0] at hE; exact absurd hE (by simp [exN])
    refine v_goto C dL_back_5 (tgt := 17) (by decide) ?_
    refine v_iconst C (v := 0) dL_back_17 (by decide) ?_
    exact v_iret C hr (by rw [h0]; rfl) rfl dL_back_18
set_option maxHeartbeats 4000000 in
set_option maxRecDepth 100000 in
theorem c_h_state (l : Launch) (D : va_G) (cI cZ cJ : ClassId) (b : Nat → Nat) (F : FT) (a : AT) (o : Nat) (f : Nat → Int64) (n : Nat) (x : Int32) (hn : F 8 = nI n) (hn4 : n ≤ 14) (hlt : l.stackTraces = false) : Kh l yL_state hL_state ({ frames := 7, cells := 1, slots := 6, locals := 111 } : Room) D vwCl (tyG cI cZ cJ) [.ref (b 0), .int x, .ref o] (wXo cI cJ b F a o f) (hcD (stateF F a x).1) (wXo cI cJ b F a o (outF (stateF F a x).1 f ((stateF F a x).2))) := by
  intro sz
  refine v_entH (cc := bL_state) (maxL := 4) (ret := some .int) (hh := [(0, 9, 12, 34)]) (Qc := (fun A => va_Qi (fun (x9 : Int32) (_ : Unit) => x9 = hcD (stateF F a x).1) (fun _ => wB D vwCl (tyG cI cZ cJ) A (wXo cI cJ b F a o (outF (stateF F a x).1 f ((stateF F a x).2)))) A)) (own := RcL) rfl (by decide) rfl (Nat.le_of_ble_eq_true rfl) rfl ?_
  intro p e s m args below meth c A C hr hY htab
  refine v_aload_n C 2 dL_state_0 rfl rfl ?_
  refine v_iconst C (v := 0) dL_state_1 (by decide) ?_
  refine v_aload_n C 0 dL_state_2 rfl rfl ?_
  refine v_iload_n C 1 dL_state_3 rfl rfl ?_
  refine v_tVi C hY.1 (As := [.int x]) (wr := wO cJ o f) (w' := wXo cI cJ b F a o f) (c_stateF l D cI cZ cJ b F a n x hn hn4 hlt) (cwV 1 C.2.2.2.2.1 gL_state rfl rfl rfl (by decide +kernel) ⟨Nat.le_of_ble_eq_true rfl, Nat.le_of_ble_eq_true rfl⟩) 0 rfl (T := TcX) (N := 16) rfl rfl rfl (Nat.le_of_ble_eq_true rfl) ⟨Nat.le_of_ble_eq_true rfl, Nat.le_of_ble_eq_true rfl⟩ dL_state_4 [0, 1, 2, 3, 4, 5, 6, 7] [8] [1, 2, 3, 4, 5, 6, 7, 8, 0] rfl rfl rfl rfl (by decide) rfl rfl rfl (fun E9 hE => ?_) (fun hE => ?_)
  · skip
    rcases stateF_cases F a x with h0 | h0
    · rw [h0] at hE; exact absurd hE (by simp [exN])
    · skip
      rw [h0] at hE
      obtain rfl : eB = E9 := Option.some.inj hE
      refine v_catch (E9 := eB) C htab hY (by decide +kernel) [] [] (0, 9, 12, 34) rfl (fun _ h => absurd h List.not_mem_nil) (by decide) (by decide) (by decide +kernel) (by decide +kernel) (ph := 12) rfl (fun q9 => ?_)
      refine v_astore_n C (lv' := []) [] dL_state_12 rfl (by decide) rfl ?_
      refine v_iconst C (v := 1) dL_state_13 (by decide) ?_
      exact v_iret C hr (by rw [h0]; rfl) (by rw [h0]; rfl) dL_state_14
  · skip
    have h0 : (stateF F a x).1 = 0 := by
      rcases stateF_cases F a x with h0 | h0
      · exact h0
      · rw [h0] at hE; exact absurd hE (by simp [exN])
    refine v_i2l C dL_state_7 ?_
    refine v_last C 8 2 rfl rfl (by unfold vp_in; decide) dL_state_8 (w1 := wXo cI cJ b F a o (vp_updL f (0 : Int32).toNatClampNeg ((stateF F a x).2).toInt64)) rfl ?_
    refine v_goto C dL_state_9 (tgt := 15) (by decide) ?_
    refine v_iconst C (v := 0) dL_state_15 (by decide) ?_
    exact v_iret C hr (by rw [h0]; rfl) (by rw [show outF (stateF F a x).1 f ((stateF F a x).2) = vp_updL f (0 : Int32).toNatClampNeg ((stateF F a x).2).toInt64 from if_pos h0]) dL_state_16
set_option maxHeartbeats 4000000 in
set_option maxRecDepth 100000 in
theorem c_h_open (l : Launch) (D : va_G) (cI cZ cJ : ClassId) (b : Nat → Nat) (F : FT) (a : AT) (o : Nat) (f : Nat → Int64) (n : Nat) (x : Int32) (hn : F 8 = nI n) (hn4 : n ≤ 14) (hlt : l.stackTraces = false) : Kh l yL_open hL_open ({ frames := 7, cells := 1, slots := 6, locals := 111 } : Room) D vwCl (tyG cI cZ cJ) [.ref (b 0), .int x, .ref o] (wXo cI cJ b F a o f) (hcD (openF F a x).1) (wXo cI cJ b F a o (outF (openF F a x).1 f ((openF F a x).2))) := by
  intro sz
  refine v_entH (cc := bL_open) (maxL := 4) (ret := some .int) (hh := [(0, 9, 12, 34)]) (Qc := (fun A => va_Qi (fun (x9 : Int32) (_ : Unit) => x9 = hcD (openF F a x).1) (fun _ => wB D vwCl (tyG cI cZ cJ) A (wXo cI cJ b F a o (outF (openF F a x).1 f ((openF F a x).2)))) A)) (own := RcL) rfl (by decide) rfl (Nat.le_of_ble_eq_true rfl) rfl ?_
  intro p e s m args below meth c A C hr hY htab
  refine v_aload_n C 2 dL_open_0 rfl rfl ?_
  refine v_iconst C (v := 0) dL_open_1 (by decide) ?_
  refine v_aload_n C 0 dL_open_2 rfl rfl ?_
  refine v_iload_n C 1 dL_open_3 rfl rfl ?_
  refine v_tVi C hY.1 (As := [.int x]) (wr := wO cJ o f) (w' := wXo cI cJ b F a o f) (c_openF l D cI cZ cJ b F a n x hn hn4 hlt) (cwV 1 C.2.2.2.2.1 gL_open rfl rfl rfl (by decide +kernel) ⟨Nat.le_of_ble_eq_true rfl, Nat.le_of_ble_eq_true rfl⟩) 0 rfl (T := TcX) (N := 16) rfl rfl rfl (Nat.le_of_ble_eq_true rfl) ⟨Nat.le_of_ble_eq_true rfl, Nat.le_of_ble_eq_true rfl⟩ dL_open_4 [0, 1, 2, 3, 4, 5, 6, 7] [8] [1, 2, 3, 4, 5, 6, 7, 8, 0] rfl rfl rfl rfl (by decide) rfl rfl rfl (fun E9 hE => ?_) (fun hE => ?_)
  · skip
    rcases openF_cases F a x with h0 | h0
    · rw [h0] at hE; exact absurd hE (by simp [exN])
    · skip
      rw [h0] at hE
      obtain rfl : eB = E9 := Option.some.inj hE
      refine v_catch (E9 := eB) C htab hY (by decide +kernel) [] [] (0, 9, 12, 34) rfl (fun _ h => absurd h List.not_mem_nil) (by decide) (by decide) (by decide +kernel) (by decide +kernel) (ph := 12) rfl (fun q9 => ?_)
      refine v_astore_n C (lv' := []) [] dL_open_12 rfl (by decide) rfl ?_
      refine v_iconst C (v := 1) dL_open_13 (by decide) ?_
      exact v_iret C hr (by rw [h0]; rfl) (by rw [h0]; rfl) dL_open_14
  · skip
    have h0 : (openF F a x).1 = 0 := by
      rcases openF_cases F a x with h0 | h0
      · exact h0
      · rw [h0] at hE; exact absurd hE (by simp [exN])
    refine v_i2l C dL_open_7 ?_
    refine v_last C 8 2 rfl rfl (by unfold vp_in; decide) dL_open_8 (w1 := wXo cI cJ b F a o (vp_updL f (0 : Int32).toNatClampNeg ((openF F a x).2).toInt64)) rfl ?_
    refine v_goto C dL_open_9 (tgt := 15) (by decide) ?_
    refine v_iconst C (v := 0) dL_open_15 (by decide) ?_
    exact v_iret C hr (by rw [h0]; rfl) (by rw [show outF (openF F a x).1 f ((openF F a x).2) = vp_updL f (0 : Int32).toNatClampNeg ((openF F a x).2).toInt64 from if_pos h0]) dL_open_16
set_option maxHeartbeats 4000000 in
set_option maxRecDepth 100000 in
theorem c_h_key (l : Launch) (D : va_G) (cI cZ cJ : ClassId) (b : Nat → Nat) (F : FT) (a : AT) (o : Nat) (f : Nat → Int64) (n : Nat) (P : Nat) (x : Int32) (y : Int32) (z : Int32) (hn : F 8 = nI n) (hn4 : n ≤ 14) (hp : F 0 = nI P) (hp6 : P ≤ 6) (hlt : l.stackTraces = false) : Kh l yL_key hL_key ({ frames := 7, cells := 1, slots := 6, locals := 113 } : Room) D vwCl (tyG cI cZ cJ) [.ref (b 0), .int x, .int y, .int z, .ref o] (wXo cI cJ b F a o f) (hcD (keyF F a x y z).1) (wXo cI cJ b F a o (outF (keyF F a x y z).1 f ((keyF F a x y z).2))) := by
  intro sz
  refine v_entH (cc := bL_key) (maxL := 6) (ret := some .int) (hh := [(0, 12, 15, 34)]) (Qc := (fun A => va_Qi (fun (x9 : Int32) (_ : Unit) => x9 = hcD (keyF F a x y z).1) (fun _ => wB D vwCl (tyG cI cZ cJ) A (wXo cI cJ b F a o (outF (keyF F a x y z).1 f ((keyF F a x y z).2)))) A)) (own := RcL) rfl (by decide) rfl (Nat.le_of_ble_eq_true rfl) rfl ?_
  intro p e s m args below meth c A C hr hY htab
  refine v_aload C 4 dL_key_0 rfl ?_
  refine v_iconst C (v := 0) dL_key_2 (by decide) ?_
  refine v_aload_n C 0 dL_key_3 rfl rfl ?_
  refine v_iload_n C 1 dL_key_4 rfl rfl ?_
  refine v_iload_n C 2 dL_key_5 rfl rfl ?_
  refine v_iload_n C 3 dL_key_6 rfl rfl ?_
  refine v_tVi C hY.1 (As := [.int x, .int y, .int z]) (wr := wO cJ o f) (w' := wXo cI cJ b F a o f) (c_keyF l D cI cZ cJ b F a n P x y z hn hn4 hp hp6 hlt) (cwV 3 C.2.2.2.2.1 gL_key rfl rfl rfl (by decide +kernel) ⟨Nat.le_of_ble_eq_true rfl, Nat.le_of_ble_eq_true rfl⟩) 0 rfl (T := TcX) (N := 16) rfl rfl rfl (Nat.le_of_ble_eq_true rfl) ⟨Nat.le_of_ble_eq_true rfl, Nat.le_of_ble_eq_true rfl⟩ dL_key_7 [0, 1, 2, 3, 4, 5, 6, 7] [8] [1, 2, 3, 4, 5, 6, 7, 8, 0] rfl rfl rfl rfl (by decide) rfl rfl rfl (fun E9 hE => ?_) (fun hE => ?_)
  · skip
    rcases keyF_cases F a x y z with h0 | h0
    · rw [h0] at hE; exact absurd hE (by simp [exN])
    · skip
      rw [h0] at hE
      obtain rfl : eB = E9 := Option.some.inj hE
      refine v_catch (E9 := eB) C htab hY (by decide +kernel) [] [] (0, 12, 15, 34) rfl (fun _ h => absurd h List.not_mem_nil) (by decide) (by decide) (by decide +kernel) (by decide +kernel) (ph := 15) rfl (fun q9 => ?_)
      refine v_astore C (lv' := []) [] dL_key_15 (by decide) rfl ?_
      refine v_iconst C (v := 1) dL_key_17 (by decide) ?_
      exact v_iret C hr (by rw [h0]; rfl) (by rw [h0]; rfl) dL_key_18
  · skip
    have h0 : (keyF F a x y z).1 = 0 := by
      rcases keyF_cases F a x y z with h0 | h0
      · exact h0
      · rw [h0] at hE; exact absurd hE (by simp [exN])
    refine v_i2l C dL_key_10 ?_
    refine v_last C 8 2 rfl rfl (by unfold vp_in; decide) dL_key_11 (w1 := wXo cI cJ b F a o (vp_updL f (0 : Int32).toNatClampNeg ((keyF F a x y z).2).toInt64)) rfl ?_
    refine v_goto C dL_key_12 (tgt := 19) (by decide) ?_
    refine v_iconst C (v := 0) dL_key_19 (by decide) ?_
    exact v_iret C hr (by rw [h0]; rfl) (by rw [show outF (keyF F a x y z).1 f ((keyF F a x y z).2) = vp_updL f (0 : Int32).toNatClampNeg ((keyF F a x y z).2).toInt64 from if_pos h0]) dL_key_20
set_option maxHeartbeats 4000000 in
set_option maxRecDepth 100000 in
theorem c_h_outcome (l : Launch) (D : va_G) (cI cZ cJ : ClassId) (b : Nat → Nat) (F : FT) (a : AT) (o : Nat) (f : Nat → Int64) (n : Nat) (x : Int32) (hn : F 8 = nI n) (hn4 : n ≤ 14) (hlt : l.stackTraces = false) : Kh l yL_outcome hL_outcome ({ frames := 7, cells := 1, slots := 6, locals := 113 } : Room) D vwCl (tyG cI cZ cJ) [.ref (b 0), .int x, .ref o] (wXo cI cJ b F a o f) (hcD (outcomeF F a n x).1) (wXo cI cJ b F a o (outF (outcomeF F a n x).1 f ((outcomeF F a n x).2))) := by
  intro sz
  refine v_entH (cc := bL_outcome) (maxL := 4) (ret := some .int) (hh := [(0, 9, 12, 34)]) (Qc := (fun A => va_Qi (fun (x9 : Int32) (_ : Unit) => x9 = hcD (outcomeF F a n x).1) (fun _ => wB D vwCl (tyG cI cZ cJ) A (wXo cI cJ b F a o (outF (outcomeF F a n x).1 f ((outcomeF F a n x).2)))) A)) (own := RcL) rfl (by decide) rfl (Nat.le_of_ble_eq_true rfl) rfl ?_
  intro p e s m args below meth c A C hr hY htab
  refine v_aload_n C 2 dL_outcome_0 rfl rfl ?_
  refine v_iconst C (v := 0) dL_outcome_1 (by decide) ?_
  refine v_aload_n C 0 dL_outcome_2 rfl rfl ?_
  refine v_iload_n C 1 dL_outcome_3 rfl rfl ?_
  refine v_tVi C hY.1 (As := [.int x]) (wr := wO cJ o f) (w' := wXo cI cJ b F a o f) (c_outcomeF l D cI cZ cJ b F a n x hn hn4 hlt) (cwV 1 C.2.2.2.2.1 gL_outcome rfl rfl rfl (by decide +kernel) ⟨Nat.le_of_ble_eq_true rfl, Nat.le_of_ble_eq_true rfl⟩) 0 rfl (T := TcX) (N := 16) rfl rfl rfl (Nat.le_of_ble_eq_true rfl) ⟨Nat.le_of_ble_eq_true rfl, Nat.le_of_ble_eq_true rfl⟩ dL_outcome_4 [0, 1, 2, 3, 4, 5, 6, 7] [8] [1, 2, 3, 4, 5, 6, 7, 8, 0] rfl rfl rfl rfl (by decide) rfl rfl rfl (fun E9 hE => ?_) (fun hE => ?_)
  · skip
    rcases outcomeF_cases F a n x with h0 | h0
    · rw [h0] at hE; exact absurd hE (by simp [exN])
    · skip
      rw [h0] at hE
      obtain rfl : eB = E9 := Option.some.inj hE
      refine v_catch (E9 := eB) C htab hY (by decide +kernel) [] [] (0, 9, 12, 34) rfl (fun _ h => absurd h List.not_mem_nil) (by decide) (by decide) (by decide +kernel) (by decide +kernel) (ph := 12) rfl (fun q9 => ?_)
      refine v_astore_n C (lv' := []) [] dL_outcome_12 rfl (by decide) rfl ?_
      refine v_iconst C (v := 1) dL_outcome_13 (by decide) ?_
      exact v_iret C hr (by rw [h0]; rfl) (by rw [h0]; rfl) dL_outcome_14
  · skip
    have h0 : (outcomeF F a n x).1 = 0 := by
      rcases outcomeF_cases F a n x with h0 | h0
      · exact h0
      · rw [h0] at hE; exact absurd hE (by simp [exN])
    refine v_i2l C dL_outcome_7 ?_
    refine v_last C 8 2 rfl rfl (by unfold vp_in; decide) dL_outcome_8 (w1 := wXo cI cJ b F a o (vp_updL f (0 : Int32).toNatClampNeg ((outcomeF F a n x).2).toInt64)) rfl ?_
    refine v_goto C dL_outcome_9 (tgt := 15) (by decide) ?_
    refine v_iconst C (v := 0) dL_outcome_15 (by decide) ?_
    exact v_iret C hr (by rw [h0]; rfl) (by rw [show outF (outcomeF F a n x).1 f ((outcomeF F a n x).2) = vp_updL f (0 : Int32).toNatClampNeg ((outcomeF F a n x).2).toInt64 from if_pos h0]) dL_outcome_16

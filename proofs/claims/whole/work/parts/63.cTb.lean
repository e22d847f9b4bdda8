set_option maxHeartbeats 4000000 in
set_option maxRecDepth 100000 in
theorem c_arcF (l : Launch) (D : va_G) (cI cZ cJ : ClassId) (b : Nat → Nat) (F : FT) (a : AT) (n : Nat) (P : Nat) (x : Int32) (y : Int32) (hn : F 8 = nI n) (hn4 : n ≤ 14) (hg : F 20 = nI P) (hp6 : P ≤ 6) (hlt : l.stackTraces = false) : Kxi l yX_arc tX_arc ({ frames := 6, cells := 1, slots := 6, locals := 90 } : Room) D vwCl (tyG cI cZ cJ) [.ref (b 0), .int x, .int y] (wX cI b F a) (exN ((arcF F a x y).1)) ((arcF F a x y).2.1) (wX cI b ((arcF F a x y).2.2.1) ((arcF F a x y).2.2.2)) := by
  intro sz
  refine v_entX (cc := bX_arc) (maxL := 4) (ret := (some .int)) (Qc := (fun A => va_Qi (fun (x9 : Int32) (_ : Unit) => x9 = (arcF F a x y).2.1 ∧ (exN ((arcF F a x y).1)) = none) (fun _ => wB D vwCl (tyG cI cZ cJ) A (wX cI b ((arcF F a x y).2.2.1) ((arcF F a x y).2.2.2))) A)) (Xc := fun A => xQ D vwCl (tyG cI cZ cJ) (exN ((arcF F a x y).1)) (wX cI b F a) A) (own := RcX) rfl (by decide) rfl (Nat.le_of_ble_eq_true rfl) rfl ?_
  intro p e s m args below meth c A C hr hX htab
  refine v_free ?_
  refine v_aload_n C 0 dX_arc_0 rfl rfl ?_
  refine v_iload_n C 1 dX_arc_1 rfl rfl ?_
  refine v_cVrF (As := [.int x]) C (c_isPartyF l D cI cZ cJ b F a x) (cwV 1 C.2.2.2.2.1 gX_arc_X_isParty rfl rfl rfl (by decide +kernel) ⟨Nat.le_of_ble_eq_true rfl, Nat.le_of_ble_eq_true rfl⟩) 0 rfl (T := TcX) (N := 16) rfl rfl rfl (Nat.le_of_ble_eq_true rfl) ⟨Nat.zero_le _, Nat.zero_le _⟩ dX_arc_2 ?_
  refine v_if_eq C dX_arc_5 (tgt := 33) (by decide) (fun h1 => ?_) (fun h1 => ?_)
  · skip
    have hE : (1, 0, F, a) = arcF F a x y := (by unfold arcF; rw [if_pos h1])
    exact v_thr C hlt hX htab (cls := eA) (text := "an arc goes between two different parties, once") (by decide +kernel) (thr_in (by decide +kernel)) (thr_in (by decide +kernel)) (by decide +kernel) (fun w h => thr_in (thA1 w h)) thA2 thA3 dX_arc_33 dX_arc_36 dX_arc_37 dX_arc_39 dX_arc_42 (Nat.le_of_ble_eq_true rfl) (Nat.le_of_ble_eq_true rfl) (Nat.le_of_ble_eq_true rfl) (Nat.le_of_ble_eq_true rfl) (by rw [← hE]; rfl)
  · skip
    refine v_aload_n C 0 dX_arc_8 rfl rfl ?_
    refine v_iload_n C 2 dX_arc_9 rfl rfl ?_
    refine v_cVrF (As := [.int y]) C (c_isPartyF l D cI cZ cJ b F a y) (cwV 1 C.2.2.2.2.1 gX_arc_X_isParty rfl rfl rfl (by decide +kernel) ⟨Nat.le_of_ble_eq_true rfl, Nat.le_of_ble_eq_true rfl⟩) 0 rfl (T := TcX) (N := 16) rfl rfl rfl (Nat.le_of_ble_eq_true rfl) ⟨Nat.zero_le _, Nat.zero_le _⟩ dX_arc_10 ?_
    refine v_if_eq C dX_arc_13 (tgt := 33) (by decide) (fun h2 => ?_) (fun h2 => ?_)
    · skip
      have hE : (1, 0, F, a) = arcF F a x y := (by unfold arcF; rw [if_neg h1, if_pos h2])
      exact v_thr C hlt hX htab (cls := eA) (text := "an arc goes between two different parties, once") (by decide +kernel) (thr_in (by decide +kernel)) (thr_in (by decide +kernel)) (by decide +kernel) (fun w h => thr_in (thA1 w h)) thA2 thA3 dX_arc_33 dX_arc_36 dX_arc_37 dX_arc_39 dX_arc_42 (Nat.le_of_ble_eq_true rfl) (Nat.le_of_ble_eq_true rfl) (Nat.le_of_ble_eq_true rfl) (Nat.le_of_ble_eq_true rfl) (by rw [← hE]; rfl)
    · skip
      refine v_iload_n C 1 dX_arc_16 rfl rfl ?_
      refine v_iload_n C 2 dX_arc_17 rfl rfl ?_
      refine v_icmp_eq C dX_arc_18 (tgt := 33) (by decide) (fun h3 => ?_) (fun h3 => ?_)
      · skip
        have hE : (1, 0, F, a) = arcF F a x y := (by unfold arcF; rw [if_neg h1, if_neg h2, if_pos h3])
        exact v_thr C hlt hX htab (cls := eA) (text := "an arc goes between two different parties, once") (by decide +kernel) (thr_in (by decide +kernel)) (thr_in (by decide +kernel)) (by decide +kernel) (fun w h => thr_in (thA1 w h)) thA2 thA3 dX_arc_33 dX_arc_36 dX_arc_37 dX_arc_39 dX_arc_42 (Nat.le_of_ble_eq_true rfl) (Nat.le_of_ble_eq_true rfl) (Nat.le_of_ble_eq_true rfl) (Nat.le_of_ble_eq_true rfl) (by rw [← hE]; rfl)
      · skip
        refine v_aload_n C 0 dX_arc_21 rfl rfl ?_
        refine v_get C (T := TcX) (N := 16) (ci := 0) (v := .ref (b 1)) inX_arc_X 0 rfl rfl 2 (by decide) (by decide +kernel) rfl rfl dX_arc_22 ?_
        refine v_iload_n C 1 dX_arc_25 rfl rfl ?_
        refine v_iload_n C 2 dX_arc_26 rfl rfl ?_
        refine v_cVr (As := [.int x, .int y]) C (c_gJoins l D cI cZ cJ b F a P x y hg hp6) (cwV 2 C.2.2.2.2.1 gX_arc_G_joins rfl rfl rfl (by decide +kernel) ⟨Nat.le_of_ble_eq_true rfl, Nat.le_of_ble_eq_true rfl⟩) 0 rfl (T := TcG) (N := 3) rfl rfl rfl (Nat.le_of_ble_eq_true rfl) ⟨Nat.zero_le _, Nat.zero_le _⟩ dX_arc_27 [1, 7] rfl rfl ?_
        refine v_if_eq C dX_arc_30 (tgt := 43) (by decide) (fun h4 => ?_) (fun h4 => ?_)
        · skip
          refine v_aload_n C 0 dX_arc_43 rfl rfl ?_
          refine v_get C (T := TcX) (N := 16) (ci := 0) (v := .int (F 9)) inX_arc_X 0 rfl rfl 9 (by decide) (by decide +kernel) rfl rfl dX_arc_44 ?_
          refine v_if_ne C dX_arc_47 (tgt := 59) (by decide) (fun h5 => ?_) (fun h5 => ?_)
          · skip
            have hE : (2, 0, F, a) = arcF F a x y := (by unfold arcF; rw [if_neg h1, if_neg h2, if_neg h3, if_pos h4, if_neg h5])
            exact v_thr C hlt hX htab (cls := eS) (text := "no more arcs") (by decide +kernel) (thr_in (by decide +kernel)) (thr_in (by decide +kernel)) (by decide +kernel) (fun w h => thr_in (thS1 w h)) thS2 thS3 dX_arc_59 dX_arc_62 dX_arc_63 dX_arc_65 dX_arc_68 (Nat.le_of_ble_eq_true rfl) (Nat.le_of_ble_eq_true rfl) (Nat.le_of_ble_eq_true rfl) (Nat.le_of_ble_eq_true rfl) (by rw [← hE]; rfl)
          · skip
            refine v_aload_n C 0 dX_arc_50 rfl rfl ?_
            refine v_get C (T := TcX) (N := 16) (ci := 0) (v := .int (F 8)) inX_arc_X 0 rfl rfl 8 (by decide) (by decide +kernel) rfl rfl dX_arc_51 ?_
            refine v_bipush C (v := 14) dX_arc_54 (by decide) ?_
            refine v_icmp_lt C dX_arc_56 (tgt := 69) (by decide) (fun h6 => ?_) (fun h6 => ?_)
            · skip
              refine v_aload_n C 0 dX_arc_69 rfl rfl ?_
              refine v_get C (T := TcX) (N := 16) (ci := 0) (v := .int (F 8)) inX_arc_X 0 rfl rfl 8 (by decide) (by decide +kernel) rfl rfl dX_arc_70 ?_
              refine v_istore_n C (lv' := [(0, .ref (b 0)), (1, .int x), (2, .int y), (3, .int (F 8))]) [1, 2, 3, 0] dX_arc_73 rfl (by decide) rfl ?_
              refine v_aload_n C 0 dX_arc_74 rfl rfl ?_
              refine v_get C (T := TcX) (N := 16) (ci := 0) (v := .ref (b 1)) inX_arc_X 0 rfl rfl 2 (by decide) (by decide +kernel) rfl rfl dX_arc_75 ?_
              refine v_iload_n C 1 dX_arc_78 rfl rfl ?_
              refine v_iload_n C 2 dX_arc_79 rfl rfl ?_
              refine v_cVvP (As := [.int x, .int y]) C (c_gJoin l D cI cZ cJ b F a P x y hg hp6) (cwV 2 C.2.2.2.2.1 gX_arc_G_join rfl rfl rfl (by decide +kernel) ⟨Nat.le_of_ble_eq_true rfl, Nat.le_of_ble_eq_true rfl⟩) 0 rfl (T := TcG) (N := 3) rfl rfl rfl (Nat.le_of_ble_eq_true rfl) ⟨Nat.zero_le _, Nat.zero_le _⟩ dX_arc_80 (w' := wX cI b F (updA a 22 ((gJoin F a x y) 22))) (wr := wXr cI b F a) [1, 7] [0, 2, 3, 4, 5, 6] [0, 6, 1, 2, 3, 4, 5, 7] rfl rfl rfl rfl (by decide) rfl rfl ?_
              refine v_aload_n C 0 dX_arc_83 rfl rfl ?_
              refine v_get C (T := TcX) (N := 16) (ci := 0) (v := .ref (b 2)) inX_arc_X 0 rfl rfl 3 (by decide) (by decide +kernel) rfl rfl dX_arc_84 ?_
              refine v_iload_n C 3 dX_arc_87 rfl rfl ?_
              refine v_iload_n C 1 dX_arc_88 rfl rfl ?_
              obtain ⟨zz1, hzz1⟩ : ∃ z9, upd (a 3) ((F 8).toNatClampNeg) x = z9 := ⟨_, rfl⟩
              refine v_iast C 2 0 (f := a 3) (j := (F 8).toNatClampNeg) (f1 := zz1) rfl rfl rfl hzz1 (vp_room8 hn hn4 (by assumption)) dX_arc_89 (w1 := wX cI b F (updA (updA a 22 ((gJoin F a x y) 22)) 3 zz1)) rfl ?_
              refine v_aload_n C 0 dX_arc_90 rfl rfl ?_
              refine v_get C (T := TcX) (N := 16) (ci := 0) (v := .ref (b 3)) inX_arc_X 0 rfl rfl 4 (by decide) (by decide +kernel) rfl rfl dX_arc_91 ?_
              refine v_iload_n C 3 dX_arc_94 rfl rfl ?_
              refine v_iload_n C 2 dX_arc_95 rfl rfl ?_
              obtain ⟨zz2, hzz2⟩ : ∃ z9, upd (a 4) ((F 8).toNatClampNeg) y = z9 := ⟨_, rfl⟩
              refine v_iast C 3 0 (f := a 4) (j := (F 8).toNatClampNeg) (f1 := zz2) rfl rfl rfl hzz2 (vp_room8 hn hn4 (by assumption)) dX_arc_96 (w1 := wX cI b F (updA (updA (updA a 22 ((gJoin F a x y) 22)) 3 zz1) 4 zz2)) rfl ?_
              refine v_aload_n C 0 dX_arc_97 rfl rfl ?_
              refine v_iload_n C 3 dX_arc_98 rfl rfl ?_
              refine v_iconst C (v := 1) dX_arc_99 (by decide) ?_
              refine v_iadd C dX_arc_100 ?_
              refine v_put C (T := TcX) (N := 16) (ci := 0) (v := .int ((F 8) + (1 : Int32))) inX_arc_X tycX tycX_ok nmcX 0 rfl rfl 8 (by decide) (by decide +kernel) rfl rfl rfl rfl (Nat.le_of_ble_eq_true rfl) dX_arc_101 (w1 := wX cI b (upd F 8 ((F 8) + (1 : Int32))) (updA (updA (updA a 22 ((gJoin F a x y) 22)) 3 zz1) 4 zz2)) rfl ?_
              refine v_iload_n C 3 dX_arc_104 rfl rfl ?_
              have hE : (0, F 8, upd F 8 ((F 8) + (1 : Int32)), updA (updA (updA a 22 ((gJoin F a x y) 22)) 3 zz1) 4 zz2) = arcF F a x y := (by unfold arcF; rw [hzz1, hzz2, if_neg h1, if_neg h2, if_neg h3, if_pos h4, if_pos h5, if_pos h6])
              exact v_xir C hr (by rw [← hE]) (by rw [← hE]; rfl) (by rw [← hE]) dX_arc_105
            · skip
              have hE : (2, 0, F, a) = arcF F a x y := (by unfold arcF; rw [if_neg h1, if_neg h2, if_neg h3, if_pos h4, if_pos h5, if_neg h6])
              exact v_thr C hlt hX htab (cls := eS) (text := "no more arcs") (by decide +kernel) (thr_in (by decide +kernel)) (thr_in (by decide +kernel)) (by decide +kernel) (fun w h => thr_in (thS1 w h)) thS2 thS3 dX_arc_59 dX_arc_62 dX_arc_63 dX_arc_65 dX_arc_68 (Nat.le_of_ble_eq_true rfl) (Nat.le_of_ble_eq_true rfl) (Nat.le_of_ble_eq_true rfl) (Nat.le_of_ble_eq_true rfl) (by rw [← hE]; rfl)
        · skip
          have hE : (1, 0, F, a) = arcF F a x y := (by unfold arcF; rw [if_neg h1, if_neg h2, if_neg h3, if_neg h4])
          exact v_thr C hlt hX htab (cls := eA) (text := "an arc goes between two different parties, once") (by decide +kernel) (thr_in (by decide +kernel)) (thr_in (by decide +kernel)) (by decide +kernel) (fun w h => thr_in (thA1 w h)) thA2 thA3 dX_arc_33 dX_arc_36 dX_arc_37 dX_arc_39 dX_arc_42 (Nat.le_of_ble_eq_true rfl) (Nat.le_of_ble_eq_true rfl) (Nat.le_of_ble_eq_true rfl) (Nat.le_of_ble_eq_true rfl) (by rw [← hE]; rfl)
set_option maxHeartbeats 4000000 in
set_option maxRecDepth 100000 in
theorem c_planF (l : Launch) (D : va_G) (cI cZ cJ : ClassId) (b : Nat → Nat) (F : FT) (a : AT) (P : Nat) (E : Nat) (hg : F 20 = nI P) (hp6 : P ≤ 6) (hP1 : 1 ≤ P) (he : F 21 = nI E) (hE : E < 64) (hlt : l.stackTraces = false) : Kxi l yX_plan tX_plan ({ frames := 8, cells := 1, slots := 6, locals := 193 } : Room) D vwCl (tyG cI cZ cJ) [.ref (b 0)] (wX cI b F a) (exN ((planF F a P E).1)) ((planF F a P E).2.1) (wX cI b ((planF F a P E).2.2) a) := by
  intro sz
  refine v_entX (cc := bX_plan) (maxL := 1) (ret := (some .int)) (Qc := (fun A => va_Qi (fun (x9 : Int32) (_ : Unit) => x9 = (planF F a P E).2.1 ∧ (exN ((planF F a P E).1)) = none) (fun _ => wB D vwCl (tyG cI cZ cJ) A (wX cI b ((planF F a P E).2.2) a)) A)) (Xc := fun A => xQ D vwCl (tyG cI cZ cJ) (exN ((planF F a P E).1)) (wX cI b F a) A) (own := RcX) rfl (by decide) rfl (Nat.le_of_ble_eq_true rfl) rfl ?_
  intro p e s m args below meth c A C hr hX htab
  refine v_free ?_
  refine v_aload_n C 0 dX_plan_0 rfl rfl ?_
  refine v_get C (T := TcX) (N := 16) (ci := 0) (v := .int (F 9)) inX_plan_X 0 rfl rfl 9 (by decide) (by decide +kernel) rfl rfl dX_plan_1 ?_
  refine v_if_eq C dX_plan_4 (tgt := 17) (by decide) (fun h1 => ?_) (fun h1 => ?_)
  · skip
    refine v_aload_n C 0 dX_plan_17 rfl rfl ?_
    refine v_get C (T := TcX) (N := 16) (ci := 0) (v := .ref (b 1)) inX_plan_X 0 rfl rfl 2 (by decide) (by decide +kernel) rfl rfl dX_plan_18 ?_
    refine v_cVr (As := []) C (c_gIsStrong l D cI cZ cJ b F a P hg hp6 hP1) (cwV 0 C.2.2.2.2.1 gX_plan_G_isStrong rfl rfl rfl (by decide +kernel) ⟨Nat.le_of_ble_eq_true rfl, Nat.le_of_ble_eq_true rfl⟩) 0 rfl (T := TcG) (N := 3) rfl rfl rfl (Nat.le_of_ble_eq_true rfl) ⟨Nat.zero_le _, Nat.zero_le _⟩ dX_plan_21 [1, 7] rfl rfl ?_
    refine v_if_ne C dX_plan_24 (tgt := 37) (by decide) (fun h2 => ?_) (fun h2 => ?_)
    · skip
      refine v_aload_n C 0 dX_plan_37 rfl rfl ?_
      refine v_iconst C (v := 1) dX_plan_38 (by decide) ?_
      refine v_put C (T := TcX) (N := 16) (ci := 0) (v := .int 1) inX_plan_X tycX tycX_ok nmcX 0 rfl rfl 9 (by decide) (by decide +kernel) rfl rfl (by decide) (by rfl) (Nat.le_of_ble_eq_true rfl) dX_plan_39 (w1 := wX cI b (upd F 9 1) a) rfl ?_
      refine v_aload_n C 0 dX_plan_42 rfl rfl ?_
      refine v_aload_n C 0 dX_plan_43 rfl rfl ?_
      refine v_get C (T := TcX) (N := 16) (ci := 0) (v := .int (F 13)) inX_plan_X 0 rfl rfl 13 (by decide) (by decide +kernel) rfl rfl dX_plan_44 ?_
      refine v_put C (T := TcX) (N := 16) (ci := 0) (v := .int (F 13)) inX_plan_X tycX tycX_ok nmcX 0 rfl rfl 12 (by decide) (by decide +kernel) rfl rfl rfl rfl (Nat.le_of_ble_eq_true rfl) dX_plan_47 (w1 := wX cI b (upd (upd F 9 1) 12 (F 13)) a) rfl ?_
      refine v_aload_n C 0 dX_plan_50 rfl rfl ?_
      refine v_aload_n C 0 dX_plan_51 rfl rfl ?_
      refine v_get C (T := TcX) (N := 16) (ci := 0) (v := .ref (b 1)) inX_plan_X 0 rfl rfl 2 (by decide) (by decide +kernel) rfl rfl dX_plan_52 ?_
      refine v_cVr (As := []) C (c_gLongest l D cI cZ cJ b (upd (upd F 9 1) 12 (F 13)) a P hg hp6) (cwV 0 C.2.2.2.2.1 gX_plan_G_longestPath rfl rfl rfl (by decide +kernel) ⟨Nat.le_of_ble_eq_true rfl, Nat.le_of_ble_eq_true rfl⟩) 0 rfl (T := TcG) (N := 3) rfl rfl rfl (Nat.le_of_ble_eq_true rfl) ⟨Nat.zero_le _, Nat.zero_le _⟩ dX_plan_55 [1, 7] rfl rfl ?_
      refine v_put C (T := TcX) (N := 16) (ci := 0) (v := .int (gLongest (upd (upd F 9 1) 12 (F 13)) a P)) inX_plan_X tycX tycX_ok nmcX 0 rfl rfl 11 (by decide) (by decide +kernel) rfl rfl rfl rfl (Nat.le_of_ble_eq_true rfl) dX_plan_58 (w1 := wX cI b (upd (upd (upd F 9 1) 12 (F 13)) 11 (gLongest (upd (upd F 9 1) 12 (F 13)) a P)) a) rfl ?_
      refine v_aload_n C 0 dX_plan_61 rfl rfl ?_
      refine v_aload_n C 0 dX_plan_62 rfl rfl ?_
      refine v_get C (T := TcX) (N := 16) (ci := 0) (v := .ref (b 1)) inX_plan_X 0 rfl rfl 2 (by decide) (by decide +kernel) rfl rfl dX_plan_63 ?_
      refine v_cVr (As := []) C (c_gFewest l D cI cZ cJ b (upd (upd (upd F 9 1) 12 (F 13)) 11 (gLongest (upd (upd F 9 1) 12 (F 13)) a P)) a P E hg hp6 he hE) (cwV 0 C.2.2.2.2.1 gX_plan_G_fewestLeaders rfl rfl rfl (by decide +kernel) ⟨Nat.le_of_ble_eq_true rfl, Nat.le_of_ble_eq_true rfl⟩) 0 rfl (T := TcG) (N := 3) rfl rfl rfl (Nat.le_of_ble_eq_true rfl) ⟨Nat.zero_le _, Nat.zero_le _⟩ dX_plan_66 [1, 7] rfl rfl ?_
      refine v_put C (T := TcX) (N := 16) (ci := 0) (v := .int (gFewest (upd (upd (upd F 9 1) 12 (F 13)) 11 (gLongest (upd (upd F 9 1) 12 (F 13)) a P)) a P E)) inX_plan_X tycX tycX_ok nmcX 0 rfl rfl 10 (by decide) (by decide +kernel) rfl rfl rfl rfl (Nat.le_of_ble_eq_true rfl) dX_plan_69 (w1 := wX cI b (upd (upd (upd (upd F 9 1) 12 (F 13)) 11 (gLongest (upd (upd F 9 1) 12 (F 13)) a P)) 10 (gFewest (upd (upd (upd F 9 1) 12 (F 13)) 11 (gLongest (upd (upd F 9 1) 12 (F 13)) a P)) a P E)) a) rfl ?_
      refine v_aload_n C 0 dX_plan_72 rfl rfl ?_
      refine v_get C (T := TcX) (N := 16) (ci := 0) (v := .int (gLongest (upd (upd F 9 1) 12 (F 13)) a P)) inX_plan_X 0 rfl rfl 11 (by decide) (by decide +kernel) rfl rfl dX_plan_73 ?_
      have hE : (0, gLongest (upd (upd F 9 1) 12 (F 13)) a P, upd (upd (upd (upd F 9 1) 12 (F 13)) 11 (gLongest (upd (upd F 9 1) 12 (F 13)) a P)) 10 (gFewest (upd (upd (upd F 9 1) 12 (F 13)) 11 (gLongest (upd (upd F 9 1) 12 (F 13)) a P)) a P E)) = planF F a P E := (by unfold planF; rw [if_pos h1, if_neg h2])
      exact v_xir C hr (by rw [← hE]) (by rw [← hE]; rfl) (by rw [← hE]) dX_plan_76
    · skip
      have hE : (2, 0, F) = planF F a P E := (by unfold planF; rw [if_pos h1, if_pos h2])
      exact v_thr C hlt hX htab (cls := eS) (text := "the plan would not be strong") (by decide +kernel) (thr_in (by decide +kernel)) (thr_in (by decide +kernel)) (by decide +kernel) (fun w h => thr_in (thS1 w h)) thS2 thS3 dX_plan_27 dX_plan_30 dX_plan_31 dX_plan_33 dX_plan_36 (Nat.le_of_ble_eq_true rfl) (Nat.le_of_ble_eq_true rfl) (Nat.le_of_ble_eq_true rfl) (Nat.le_of_ble_eq_true rfl) (by rw [← hE]; rfl)
  · skip
    have hE : (3, 0, F) = planF F a P E := (by unfold planF; rw [if_neg h1])
    exact v_thr C hlt hX htab (cls := eU) (text := "there is a plan") (by decide +kernel) (thr_in (by decide +kernel)) (thr_in (by decide +kernel)) (by decide +kernel) (fun w h => thr_in (thU1 w h)) thU2 thU3 dX_plan_7 dX_plan_10 dX_plan_11 dX_plan_13 dX_plan_16 (Nat.le_of_ble_eq_true rfl) (Nat.le_of_ble_eq_true rfl) (Nat.le_of_ble_eq_true rfl) (Nat.le_of_ble_eq_true rfl) (by rw [← hE]; rfl)
set_option maxHeartbeats 4000000 in
set_option maxRecDepth 100000 in
theorem c_actF (l : Launch) (D : va_G) (cI cZ cJ : ClassId) (b : Nat → Nat) (F : FT) (a : AT) (n : Nat) (P : Nat) (x : Int32) (hn : F 8 = nI n) (hn4 : n ≤ 14) (hp : F 0 = nI P) (hp6 : P ≤ 6) (hlt : l.stackTraces = false) : Kxi l yX_act tX_act ({ frames := 6, cells := 1, slots := 6, locals := 115 } : Room) D vwCl (tyG cI cZ cJ) [.ref (b 0), .int x] (wX cI b F a) (exN ((actF F a n P x).1)) ((actF F a n P x).2.1) (wX cI b F ((actF F a n P x).2.2)) := by
  intro sz
  refine v_entX (cc := bX_act) (maxL := 2) (ret := (some .int)) (Qc := (fun A => va_Qi (fun (x9 : Int32) (_ : Unit) => x9 = (actF F a n P x).2.1 ∧ (exN ((actF F a n P x).1)) = none) (fun _ => wB D vwCl (tyG cI cZ cJ) A (wX cI b F ((actF F a n P x).2.2))) A)) (Xc := fun A => xQ D vwCl (tyG cI cZ cJ) (exN ((actF F a n P x).1)) (wX cI b F a) A) (own := RcX) rfl (by decide) rfl (Nat.le_of_ble_eq_true rfl) rfl ?_
  intro p e s m args below meth c A C hr hX htab
  refine v_free ?_
  refine v_aload_n C 0 dX_act_0 rfl rfl ?_
  refine v_iload_n C 1 dX_act_1 rfl rfl ?_
  refine v_cVrF (As := [.int x]) C (c_isPartyF l D cI cZ cJ b F a x) (cwV 1 C.2.2.2.2.1 gX_act_X_isParty rfl rfl rfl (by decide +kernel) ⟨Nat.le_of_ble_eq_true rfl, Nat.le_of_ble_eq_true rfl⟩) 0 rfl (T := TcX) (N := 16) rfl rfl rfl (Nat.le_of_ble_eq_true rfl) ⟨Nat.zero_le _, Nat.zero_le _⟩ dX_act_2 ?_
  refine v_if_ne C dX_act_5 (tgt := 18) (by decide) (fun h1 => ?_) (fun h1 => ?_)
  · skip
    refine v_aload_n C 0 dX_act_18 rfl rfl ?_
    refine v_get C (T := TcX) (N := 16) (ci := 0) (v := .int (F 9)) inX_act_X 0 rfl rfl 9 (by decide) (by decide +kernel) rfl rfl dX_act_19 ?_
    refine v_if_ne C dX_act_22 (tgt := 35) (by decide) (fun h2 => ?_) (fun h2 => ?_)
    · skip
      refine v_aload_n C 0 dX_act_35 rfl rfl ?_
      refine v_iload_n C 1 dX_act_36 rfl rfl ?_
      refine v_cVrF (As := [.int x]) C (c_conformsF l D cI cZ cJ b F a x) (cwV 1 C.2.2.2.2.1 gX_act_X_conforms rfl rfl rfl (by decide +kernel) ⟨Nat.le_of_ble_eq_true rfl, Nat.le_of_ble_eq_true rfl⟩) 0 rfl (T := TcX) (N := 16) rfl rfl rfl (Nat.le_of_ble_eq_true rfl) ⟨Nat.zero_le _, Nat.zero_le _⟩ dX_act_37 ?_
      refine v_if_ne C dX_act_40 (tgt := 53) (by decide) (fun h3 => ?_) (fun h3 => ?_)
      · skip
        refine v_aload_n C 0 dX_act_53 rfl rfl ?_
        refine v_iload_n C 1 dX_act_54 rfl rfl ?_
        refine v_cViF (As := [.int x]) C (c_doDeedsF l D cI cZ cJ b F a n P x hn hn4 hp hp6) (cwV 1 C.2.2.2.2.1 gX_act_X_doDeeds rfl rfl rfl (by decide +kernel) ⟨Nat.le_of_ble_eq_true rfl, Nat.le_of_ble_eq_true rfl⟩) 0 rfl (T := TcX) (N := 16) rfl rfl rfl (Nat.le_of_ble_eq_true rfl) ⟨Nat.zero_le _, Nat.zero_le _⟩ dX_act_55 ?_
        have hE : (0, (doDeedsF F a n P x).1, (doDeedsF F a n P x).2) = actF F a n P x := (by unfold actF; rw [if_neg h1, if_neg h2, if_neg h3])
        exact v_xir C hr (by rw [← hE]) (by rw [← hE]; rfl) (by rw [← hE]) dX_act_58
      · skip
        have hE : (3, 0, a) = actF F a n P x := (by unfold actF; rw [if_neg h1, if_neg h2, if_pos h3])
        exact v_thr C hlt hX htab (cls := eU) (text := "the party deviates") (by decide +kernel) (thr_in (by decide +kernel)) (thr_in (by decide +kernel)) (by decide +kernel) (fun w h => thr_in (thU1 w h)) thU2 thU3 dX_act_43 dX_act_46 dX_act_47 dX_act_49 dX_act_52 (Nat.le_of_ble_eq_true rfl) (Nat.le_of_ble_eq_true rfl) (Nat.le_of_ble_eq_true rfl) (Nat.le_of_ble_eq_true rfl) (by rw [← hE]; rfl)
    · skip
      have hE : (2, 0, a) = actF F a n P x := (by unfold actF; rw [if_neg h1, if_pos h2])
      exact v_thr C hlt hX htab (cls := eS) (text := "there is no plan") (by decide +kernel) (thr_in (by decide +kernel)) (thr_in (by decide +kernel)) (by decide +kernel) (fun w h => thr_in (thS1 w h)) thS2 thS3 dX_act_25 dX_act_28 dX_act_29 dX_act_31 dX_act_34 (Nat.le_of_ble_eq_true rfl) (Nat.le_of_ble_eq_true rfl) (Nat.le_of_ble_eq_true rfl) (Nat.le_of_ble_eq_true rfl) (by rw [← hE]; rfl)
  · skip
    have hE : (1, 0, a) = actF F a n P x := (by unfold actF; rw [if_pos h1])
    exact v_thr C hlt hX htab (cls := eA) (text := "no such party") (by decide +kernel) (thr_in (by decide +kernel)) (thr_in (by decide +kernel)) (by decide +kernel) (fun w h => thr_in (thA1 w h)) thA2 thA3 dX_act_8 dX_act_11 dX_act_12 dX_act_14 dX_act_17 (Nat.le_of_ble_eq_true rfl) (Nat.le_of_ble_eq_true rfl) (Nat.le_of_ble_eq_true rfl) (Nat.le_of_ble_eq_true rfl) (by rw [← hE]; rfl)
set_option maxHeartbeats 4000000 in
set_option maxRecDepth 100000 in
theorem c_runF (l : Launch) (D : va_G) (cI cZ cJ : ClassId) (b : Nat → Nat) (F : FT) (a : AT) (n : Nat) (P : Nat) (x : Int32) (hn : F 8 = nI n) (hn4 : n ≤ 14) (hp : F 0 = nI P) (hp6 : P ≤ 6) (hlt : l.stackTraces = false) : Kxi l yX_run tX_run ({ frames := 6, cells := 1, slots := 6, locals := 115 } : Room) D vwCl (tyG cI cZ cJ) [.ref (b 0), .int x] (wX cI b F a) (exN ((runF F a n P x).1)) ((runF F a n P x).2.1) (wX cI b ((runF F a n P x).2.2.1) ((runF F a n P x).2.2.2)) := by
  intro sz
  refine v_entX (cc := bX_run) (maxL := 5) (ret := (some .int)) (Qc := (fun A => va_Qi (fun (x9 : Int32) (_ : Unit) => x9 = (runF F a n P x).2.1 ∧ (exN ((runF F a n P x).1)) = none) (fun _ => wB D vwCl (tyG cI cZ cJ) A (wX cI b ((runF F a n P x).2.2.1) ((runF F a n P x).2.2.2))) A)) (Xc := fun A => xQ D vwCl (tyG cI cZ cJ) (exN ((runF F a n P x).1)) (wX cI b F a) A) (own := RcX) rfl (by decide) rfl (Nat.le_of_ble_eq_true rfl) rfl ?_
  intro p e s m args below meth c A C hr hX htab
  refine v_free ?_
  refine v_iload_n C 1 dX_run_0 rfl rfl ?_
  refine v_if_lt C dX_run_1 (tgt := 10) (by decide) (fun h1 => ?_) (fun h1 => ?_)
  · skip
    have hE : (1, 0, F, a) = runF F a n P x := (by unfold runF; rw [if_pos h1])
    exact v_thr C hlt hX htab (cls := eA) (text := "not so many times") (by decide +kernel) (thr_in (by decide +kernel)) (thr_in (by decide +kernel)) (by decide +kernel) (fun w h => thr_in (thA1 w h)) thA2 thA3 dX_run_10 dX_run_13 dX_run_14 dX_run_16 dX_run_19 (Nat.le_of_ble_eq_true rfl) (Nat.le_of_ble_eq_true rfl) (Nat.le_of_ble_eq_true rfl) (Nat.le_of_ble_eq_true rfl) (by rw [← hE]; rfl)
  · skip
    refine v_iload_n C 1 dX_run_4 rfl rfl ?_
    refine v_bipush C (v := 40) dX_run_5 (by decide) ?_
    refine v_icmp_le C dX_run_7 (tgt := 20) (by decide) (fun h2 => ?_) (fun h2 => ?_)
    · skip
      have hT := times_self (x := x) (by assumption) (by assumption)
      refine v_iconst C (v := 0) dX_run_20 (by decide) ?_
      refine v_istore_n C (lv' := [(0, .ref (b 0)), (1, .int x), (2, .int 0)]) [1, 2, 0] dX_run_21 rfl (by decide) rfl ?_
      refine v_iconst C (v := 0) dX_run_22 (by decide) ?_
      refine v_istore_n C (lv' := [(0, .ref (b 0)), (1, .int x), (2, .int 0), (3, .int 0)]) [1, 2, 3, 0] dX_run_23 rfl (by decide) rfl ?_
      refine v_loop3 x.toNatClampNeg (fun (rr : Nat) (d : Int32) (t : Int32) (a1 : AT) => wX cI b (upd F 13 t) a1) (fun (rr : Nat) (d : Int32) (t : Int32) (a1 : AT) => [(0, .ref (b 0)), (1, .int x), (2, .int d), (3, .int (nI rr))]) (fun (krr rr : Nat) (d : Int32) (t : Int32) (a1 : AT) => runL F n P x krr rr d t a1 = runL F n P x x.toNatClampNeg 0 0 (F 13) a) ?_ ?_ x.toNatClampNeg 0 0 (F 13) a (by omega) rfl
      · skip
        intro krr rr d t a1 hkrr hIrr ihrr
        have hIrr : runL F n P x (krr + 1) rr d t a1 = runL F n P x x.toNatClampNeg 0 0 (F 13) a := hIrr
        refine v_as (w' := wX cI b (upd F 13 t) a1) (lv' := [(0, .ref (b 0)), (1, .int x), (2, .int d), (3, .int (nI rr))]) rfl rfl ?_
        refine v_iload_n C 3 dX_run_24 rfl rfl ?_
        refine v_iload_n C 1 dX_run_25 rfl rfl ?_
        refine v_top (y := nI x.toNatClampNeg) hT.1 ?_
        refine v_icmp_ge C dX_run_26 (tgt := 92) (by decide) (fun h => absurd h (nI_ge (a := rr) (b := x.toNatClampNeg) (by omega) (by omega))) (fun _ => ?_)
        refine v_iconst C (v := 0) dX_run_29 (by decide) ?_
        refine v_istore C (lv' := [(0, .ref (b 0)), (1, .int x), (2, .int d), (3, .int (nI rr)), (4, .int 0)]) [1, 2, 3, 4, 0] dX_run_30 (by decide) rfl ?_
        refine v_loop2 P (fun (pp : Nat) (d2 : Int32) (a2 : AT) => wX cI b (upd F 13 t) a2) (fun (pp : Nat) (d2 : Int32) (a2 : AT) => [(0, .ref (b 0)), (1, .int x), (2, .int d2), (3, .int (nI rr)), (4, .int (nI pp))]) (fun (kpp pp : Nat) (d2 : Int32) (a2 : AT) => runI F n P x t kpp pp d2 a2 = runI F n P x t P 0 d a1) ?_ ?_ P 0 d a1 (by omega) rfl
        · skip
          intro kpp pp d2 a2 hkpp hIpp ihpp
          have hIpp : runI F n P x t (kpp + 1) pp d2 a2 = runI F n P x t P 0 d a1 := hIpp
          refine v_as (w' := wX cI b (upd F 13 t) a2) (lv' := [(0, .ref (b 0)), (1, .int x), (2, .int d2), (3, .int (nI rr)), (4, .int (nI pp))]) rfl rfl ?_
          refine v_iload C 4 dX_run_32 rfl ?_
          refine v_aload_n C 0 dX_run_34 rfl rfl ?_
          refine v_get C (T := TcX) (N := 16) (ci := 0) (v := .int (F 0)) inX_run_X 0 rfl rfl 0 (by decide) (by decide +kernel) rfl rfl dX_run_35 ?_
          refine v_top (y := nI P) hp ?_
          refine v_icmp_ge C dX_run_38 (tgt := 76) (by decide) (fun h => absurd h (nI_ge (a := pp) (b := P) (by omega) (by omega))) (fun _ => ?_)
          refine v_iload_n C 2 dX_run_41 rfl rfl ?_
          refine v_aload_n C 0 dX_run_42 rfl rfl ?_
          refine v_get C (T := TcX) (N := 16) (ci := 0) (v := .int (F 9)) inX_run_X 0 rfl rfl 9 (by decide) (by decide +kernel) rfl rfl dX_run_43 ?_
          refine v_if_eq C dX_run_46 (tgt := 67) (by decide) (fun h3 => ?_) (fun h3 => ?_)
          · skip
            refine v_iconst C (v := 0) dX_run_67 (by decide) ?_
            refine v_iadd C dX_run_68 ?_
            refine v_istore_n C (lv' := [(0, .ref (b 0)), (1, .int x), (2, .int (d2 + (0 : Int32))), (3, .int (nI rr)), (4, .int (nI pp))]) [1, 2, 0, 3, 4] dX_run_69 rfl (by decide) rfl ?_
            refine v_iinc C (v := nI (pp + 1)) (lv' := [(0, .ref (b 0)), (1, .int x), (2, .int (d2 + (0 : Int32))), (3, .int (nI rr)), (4, .int (nI (pp + 1)))]) 4 [1, 2, 3, 4, 0] dX_run_70 rfl (nI_1 pp) (by decide) rfl ?_
            refine v_goto C dX_run_73 (tgt := 32) (by decide) ?_
            have hL : runI F n P x t kpp (pp + 1) (d2 + (0 : Int32)) a2 = runI F n P x t P 0 d a1 := (by rw [← hIpp]; simp only [runI]; rw [if_pos h3])
            exact ihpp (d2 + (0 : Int32)) a2 hL
          · skip
            refine v_aload_n C 0 dX_run_49 rfl rfl ?_
            refine v_iload C 4 dX_run_50 rfl ?_
            refine v_cVrF (As := [.int (nI pp)]) C (c_conformsF l D cI cZ cJ b (upd F 13 t) a2 (nI pp)) (cwV 1 C.2.2.2.2.1 gX_run_X_conforms rfl rfl rfl (by decide +kernel) ⟨Nat.le_of_ble_eq_true rfl, Nat.le_of_ble_eq_true rfl⟩) 0 rfl (T := TcX) (N := 16) rfl rfl rfl (Nat.le_of_ble_eq_true rfl) ⟨Nat.zero_le _, Nat.zero_le _⟩ dX_run_52 ?_
            refine v_if_eq C dX_run_55 (tgt := 67) (by decide) (fun h4 => ?_) (fun h4 => ?_)
            · skip
              refine v_iconst C (v := 0) dX_run_67 (by decide) ?_
              refine v_iadd C dX_run_68 ?_
              refine v_istore_n C (lv' := [(0, .ref (b 0)), (1, .int x), (2, .int (d2 + (0 : Int32))), (3, .int (nI rr)), (4, .int (nI pp))]) [1, 2, 0, 3, 4] dX_run_69 rfl (by decide) rfl ?_
              refine v_iinc C (v := nI (pp + 1)) (lv' := [(0, .ref (b 0)), (1, .int x), (2, .int (d2 + (0 : Int32))), (3, .int (nI rr)), (4, .int (nI (pp + 1)))]) 4 [1, 2, 3, 4, 0] dX_run_70 rfl (nI_1 pp) (by decide) rfl ?_
              refine v_goto C dX_run_73 (tgt := 32) (by decide) ?_
              have hL : runI F n P x t kpp (pp + 1) (d2 + (0 : Int32)) a2 = runI F n P x t P 0 d a1 := (by rw [← hIpp]; simp only [runI]; rw [if_neg h3, if_pos h4])
              exact ihpp (d2 + (0 : Int32)) a2 hL
            · skip
              refine v_aload_n C 0 dX_run_58 rfl rfl ?_
              refine v_iload C 4 dX_run_59 rfl ?_
              refine v_cViF (As := [.int (nI pp)]) C (c_doDeedsF l D cI cZ cJ b (upd F 13 t) a2 n P (nI pp) hn hn4 hp hp6) (cwV 1 C.2.2.2.2.1 gX_run_X_doDeeds rfl rfl rfl (by decide +kernel) ⟨Nat.le_of_ble_eq_true rfl, Nat.le_of_ble_eq_true rfl⟩) 0 rfl (T := TcX) (N := 16) rfl rfl rfl (Nat.le_of_ble_eq_true rfl) ⟨Nat.zero_le _, Nat.zero_le _⟩ dX_run_61 ?_
              refine v_goto C dX_run_64 (tgt := 68) (by decide) ?_
              refine v_iadd C dX_run_68 ?_
              refine v_istore_n C (lv' := [(0, .ref (b 0)), (1, .int x), (2, .int (d2 + ((doDeedsF (upd F 13 t) a2 n P (nI pp)).1))), (3, .int (nI rr)), (4, .int (nI pp))]) [1, 2, 0, 3, 4] dX_run_69 rfl (by decide) rfl ?_
              refine v_iinc C (v := nI (pp + 1)) (lv' := [(0, .ref (b 0)), (1, .int x), (2, .int (d2 + ((doDeedsF (upd F 13 t) a2 n P (nI pp)).1))), (3, .int (nI rr)), (4, .int (nI (pp + 1)))]) 4 [1, 2, 3, 4, 0] dX_run_70 rfl (nI_1 pp) (by decide) rfl ?_
              refine v_goto C dX_run_73 (tgt := 32) (by decide) ?_
              have hL : runI F n P x t kpp (pp + 1) (d2 + ((doDeedsF (upd F 13 t) a2 n P (nI pp)).1)) ((doDeedsF (upd F 13 t) a2 n P (nI pp)).2) = runI F n P x t P 0 d a1 := (by rw [← hIpp]; simp only [runI]; rw [if_neg h3, if_neg h4])
              exact ihpp (d2 + ((doDeedsF (upd F 13 t) a2 n P (nI pp)).1)) ((doDeedsF (upd F 13 t) a2 n P (nI pp)).2) hL
        · skip
          intro d2 a2 hIpp
          have hIpp : runI F n P x t 0 P d2 a2 = runI F n P x t P 0 d a1 := hIpp
          refine v_as (w' := wX cI b (upd F 13 t) a2) (lv' := [(0, .ref (b 0)), (1, .int x), (2, .int d2), (3, .int (nI rr)), (4, .int (nI P))]) rfl rfl ?_
          obtain ⟨rfl, rfl⟩ : d2 = (runI F n P x t P 0 d a1).1 ∧ a2 = (runI F n P x t P 0 d a1).2 := by rw [← hIpp]; exact ⟨rfl, rfl⟩
          refine v_iload C 4 dX_run_32 rfl ?_
          refine v_aload_n C 0 dX_run_34 rfl rfl ?_
          refine v_get C (T := TcX) (N := 16) (ci := 0) (v := .int (F 0)) inX_run_X 0 rfl rfl 0 (by decide) (by decide +kernel) rfl rfl dX_run_35 ?_
          refine v_top (y := nI P) hp ?_
          refine v_icmp_ge C dX_run_38 (tgt := 76) (by decide) (fun _ => ?_) (fun h => absurd (nI_le (a := P) (b := P) (by omega) (by omega)) h)
          refine v_aload_n C 0 dX_run_76 rfl rfl ?_
          refine v_dup C dX_run_77 rfl ?_
          refine v_get C (T := TcX) (N := 16) (ci := 0) (v := .int t) inX_run_X 0 rfl rfl 13 (by decide) (by decide +kernel) rfl rfl dX_run_78 ?_
          refine v_iconst C (v := 1) dX_run_81 (by decide) ?_
          refine v_iadd C dX_run_82 ?_
          refine v_put C (T := TcX) (N := 16) (ci := 0) (v := .int (t + (1 : Int32))) inX_run_X tycX tycX_ok nmcX 0 rfl rfl 13 (by decide) (by decide +kernel) rfl rfl rfl rfl (Nat.le_of_ble_eq_true rfl) dX_run_83 (w1 := wX cI b (upd (upd F 13 t) 13 (t + (1 : Int32))) ((runI F n P x t P 0 d a1).2)) rfl ?_
          refine v_iinc C (v := nI (rr + 1)) (lv' := [(0, .ref (b 0)), (1, .int x), (2, .int ((runI F n P x t P 0 d a1).1)), (3, .int (nI (rr + 1))), (4, .int (nI P))]) 3 [1, 2, 3, 0, 4] dX_run_86 rfl (nI_1 rr) (by decide) rfl ?_
          refine v_goto C dX_run_89 (tgt := 24) (by decide) ?_
          refine v_loc (lv' := [(0, .ref (b 0)), (1, .int x), (2, .int ((runI F n P x t P 0 d a1).1)), (3, .int (nI (rr + 1)))]) [0, 1, 2, 3] rfl ?_
          have hL : runL F n P x krr (rr + 1) ((runI F n P x t P 0 d a1).1) (t + (1 : Int32)) ((runI F n P x t P 0 d a1).2) = runL F n P x x.toNatClampNeg 0 0 (F 13) a := (by rw [← hIrr]; simp only [runL])
          exact ihrr ((runI F n P x t P 0 d a1).1) (t + (1 : Int32)) ((runI F n P x t P 0 d a1).2) hL
      · skip
        intro d t a1 hIrr
        have hIrr : runL F n P x 0 x.toNatClampNeg d t a1 = runL F n P x x.toNatClampNeg 0 0 (F 13) a := hIrr
        refine v_as (w' := wX cI b (upd F 13 t) a1) (lv' := [(0, .ref (b 0)), (1, .int x), (2, .int d), (3, .int (nI x.toNatClampNeg))]) rfl rfl ?_
        obtain ⟨rfl, rfl, rfl⟩ : d = (runL F n P x x.toNatClampNeg 0 0 (F 13) a).1 ∧ t = (runL F n P x x.toNatClampNeg 0 0 (F 13) a).2.1 ∧ a1 = (runL F n P x x.toNatClampNeg 0 0 (F 13) a).2.2 := by rw [← hIrr]; exact ⟨rfl, rfl, rfl⟩
        refine v_iload_n C 3 dX_run_24 rfl rfl ?_
        refine v_iload_n C 1 dX_run_25 rfl rfl ?_
        refine v_top (y := nI x.toNatClampNeg) hT.1 ?_
        refine v_icmp_ge C dX_run_26 (tgt := 92) (by decide) (fun _ => ?_) (fun h => absurd (nI_le (a := x.toNatClampNeg) (b := x.toNatClampNeg) (by omega) (by omega)) h)
        refine v_iload_n C 2 dX_run_92 rfl rfl ?_
        have hE : (0, (runL F n P x x.toNatClampNeg 0 0 (F 13) a).1, upd F 13 ((runL F n P x x.toNatClampNeg 0 0 (F 13) a).2.1), (runL F n P x x.toNatClampNeg 0 0 (F 13) a).2.2) = runF F a n P x := (by unfold runF; rw [if_neg h1, if_pos h2])
        exact v_xir C hr (by rw [← hE]) (by rw [← hE]; rfl) (by rw [← hE]) dX_run_93
    · skip
      have hE : (1, 0, F, a) = runF F a n P x := (by unfold runF; rw [if_neg h1, if_neg h2])
      exact v_thr C hlt hX htab (cls := eA) (text := "not so many times") (by decide +kernel) (thr_in (by decide +kernel)) (thr_in (by decide +kernel)) (by decide +kernel) (fun w h => thr_in (thA1 w h)) thA2 thA3 dX_run_10 dX_run_13 dX_run_14 dX_run_16 dX_run_19 (Nat.le_of_ble_eq_true rfl) (Nat.le_of_ble_eq_true rfl) (Nat.le_of_ble_eq_true rfl) (Nat.le_of_ble_eq_true rfl) (by rw [← hE]; rfl)
set_option maxHeartbeats 4000000 in
set_option maxRecDepth 100000 in
theorem c_showF (l : Launch) (D : va_G) (cI cZ cJ : ClassId) (b : Nat → Nat) (F : FT) (a : AT) (n : Nat) (P : Nat) (x : Int32) (hn : F 8 = nI n) (hn4 : n ≤ 14) (hp : F 0 = nI P) (hp6 : P ≤ 6) (hg : F 20 = nI P) (hlt : l.stackTraces = false) : Kxi l yX_show tX_show ({ frames := 6, cells := 1, slots := 6, locals := 90 } : Room) D vwCl (tyG cI cZ cJ) [.ref (b 0), .int x] (wX cI b F a) (exN ((showF F a n P x).1)) ((showF F a n P x).2.1) (wX cI b ((showF F a n P x).2.2.1) ((showF F a n P x).2.2.2)) := by
  intro sz
  refine v_entX (cc := bX_show) (maxL := 3) (ret := (some .int)) (Qc := (fun A => va_Qi (fun (x9 : Int32) (_ : Unit) => x9 = (showF F a n P x).2.1 ∧ (exN ((showF F a n P x).1)) = none) (fun _ => wB D vwCl (tyG cI cZ cJ) A (wX cI b ((showF F a n P x).2.2.1) ((showF F a n P x).2.2.2))) A)) (Xc := fun A => xQ D vwCl (tyG cI cZ cJ) (exN ((showF F a n P x).1)) (wX cI b F a) A) (own := RcX) rfl (by decide) rfl (Nat.le_of_ble_eq_true rfl) rfl ?_
  intro p e s m args below meth c A C hr hX htab
  refine v_free ?_
  refine v_aload_n C 0 dX_show_0 rfl rfl ?_
  refine v_iload_n C 1 dX_show_1 rfl rfl ?_
  refine v_cVrF (As := [.int x]) C (c_isArcF l D cI cZ cJ b F a x) (cwV 1 C.2.2.2.2.1 gX_show_X_isArc rfl rfl rfl (by decide +kernel) ⟨Nat.le_of_ble_eq_true rfl, Nat.le_of_ble_eq_true rfl⟩) 0 rfl (T := TcX) (N := 16) rfl rfl rfl (Nat.le_of_ble_eq_true rfl) ⟨Nat.zero_le _, Nat.zero_le _⟩ dX_show_2 ?_
  refine v_if_ne C dX_show_5 (tgt := 18) (by decide) (fun h1 => ?_) (fun h1 => ?_)
  · skip
    have hx : vp_in x 14 := vp_arc (F := F) (a := a) (by assumption) hn hn4
    refine v_aload_n C 0 dX_show_18 rfl rfl ?_
    refine v_get C (T := TcX) (N := 16) (ci := 0) (v := .int (F 15)) inX_show_X 0 rfl rfl 15 (by decide) (by decide +kernel) rfl rfl dX_show_19 ?_
    refine v_cSr0 (As := [.int (F 15)]) C (c_rLast l D cI cZ cJ (F 15)) (va_cwS 1 C.2.2.2.2.1 gX_show_R_last rfl rfl rfl (by decide +kernel) ⟨Nat.le_of_ble_eq_true rfl, Nat.le_of_ble_eq_true rfl⟩) rfl rfl (Nat.le_of_ble_eq_true rfl) ⟨Nat.zero_le _, Nat.zero_le _⟩ dX_show_22 ?_
    refine v_istore_n C (lv' := [(0, .ref (b 0)), (1, .int x), (2, .int (rLast (F 15)))]) [1, 2, 0] dX_show_25 rfl (by decide) rfl ?_
    refine v_aload_n C 0 dX_show_26 rfl rfl ?_
    refine v_get C (T := TcX) (N := 16) (ci := 0) (v := .int (F 15)) inX_show_X 0 rfl rfl 15 (by decide) (by decide +kernel) rfl rfl dX_show_27 ?_
    refine v_cSr0 (As := [.int (F 15)]) C (c_rFirst l D cI cZ cJ (F 15)) (va_cwS 1 C.2.2.2.2.1 gX_show_R_first rfl rfl rfl (by decide +kernel) ⟨Nat.le_of_ble_eq_true rfl, Nat.le_of_ble_eq_true rfl⟩) rfl rfl (Nat.le_of_ble_eq_true rfl) ⟨Nat.zero_le _, Nat.zero_le _⟩ dX_show_30 ?_
    refine v_aload_n C 0 dX_show_33 rfl rfl ?_
    refine v_get C (T := TcX) (N := 16) (ci := 0) (v := .ref (b 3)) inX_show_X 0 rfl rfl 4 (by decide) (by decide +kernel) rfl rfl dX_show_34 ?_
    refine v_iload_n C 1 dX_show_37 rfl rfl ?_
    refine v_iald C 3 0 (f := a 4) (y := (a 4) x.toNatClampNeg) (j := x.toNatClampNeg) rfl rfl rfl rfl hx dX_show_38 ?_
    refine v_icmp_ne C dX_show_39 (tgt := 64) (by decide) (fun h2 => ?_) (fun h2 => ?_)
    · skip
      have hE : (1, 0, F, a) = showF F a n P x := (by unfold showF; rw [if_neg h1, if_neg h2])
      exact v_thr C hlt hX htab (cls := eA) (text := "no path from the payee to a leader") (by decide +kernel) (thr_in (by decide +kernel)) (thr_in (by decide +kernel)) (by decide +kernel) (fun w h => thr_in (thA1 w h)) thA2 thA3 dX_show_64 dX_show_67 dX_show_68 dX_show_70 dX_show_73 (Nat.le_of_ble_eq_true rfl) (Nat.le_of_ble_eq_true rfl) (Nat.le_of_ble_eq_true rfl) (Nat.le_of_ble_eq_true rfl) (by rw [← hE]; rfl)
    · skip
      refine v_aload_n C 0 dX_show_42 rfl rfl ?_
      refine v_get C (T := TcX) (N := 16) (ci := 0) (v := .ref (b 1)) inX_show_X 0 rfl rfl 2 (by decide) (by decide +kernel) rfl rfl dX_show_43 ?_
      refine v_aload_n C 0 dX_show_46 rfl rfl ?_
      refine v_get C (T := TcX) (N := 16) (ci := 0) (v := .int (F 15)) inX_show_X 0 rfl rfl 15 (by decide) (by decide +kernel) rfl rfl dX_show_47 ?_
      refine v_cVr (As := [.int (F 15)]) C (c_gIsPath l D cI cZ cJ b F a P (F 15) hg hp6) (cwV 1 C.2.2.2.2.1 gX_show_G_isPath rfl rfl rfl (by decide +kernel) ⟨Nat.le_of_ble_eq_true rfl, Nat.le_of_ble_eq_true rfl⟩) 0 rfl (T := TcG) (N := 3) rfl rfl rfl (Nat.le_of_ble_eq_true rfl) ⟨Nat.zero_le _, Nat.zero_le _⟩ dX_show_50 [1, 7] rfl rfl ?_
      refine v_if_eq C dX_show_53 (tgt := 64) (by decide) (fun h3 => ?_) (fun h3 => ?_)
      · skip
        have hE : (1, 0, F, a) = showF F a n P x := (by unfold showF; rw [if_neg h1, if_pos h2, if_pos h3])
        exact v_thr C hlt hX htab (cls := eA) (text := "no path from the payee to a leader") (by decide +kernel) (thr_in (by decide +kernel)) (thr_in (by decide +kernel)) (by decide +kernel) (fun w h => thr_in (thA1 w h)) thA2 thA3 dX_show_64 dX_show_67 dX_show_68 dX_show_70 dX_show_73 (Nat.le_of_ble_eq_true rfl) (Nat.le_of_ble_eq_true rfl) (Nat.le_of_ble_eq_true rfl) (Nat.le_of_ble_eq_true rfl) (by rw [← hE]; rfl)
      · skip
        refine v_aload_n C 0 dX_show_56 rfl rfl ?_
        refine v_iload_n C 2 dX_show_57 rfl rfl ?_
        refine v_cVrF (As := [.int (rLast (F 15))]) C (c_isLeaderF l D cI cZ cJ b F a (rLast (F 15))) (cwV 1 C.2.2.2.2.1 gX_show_X_isLeader rfl rfl rfl (by decide +kernel) ⟨Nat.le_of_ble_eq_true rfl, Nat.le_of_ble_eq_true rfl⟩) 0 rfl (T := TcX) (N := 16) rfl rfl rfl (Nat.le_of_ble_eq_true rfl) ⟨Nat.zero_le _, Nat.zero_le _⟩ dX_show_58 ?_
        refine v_if_ne C dX_show_61 (tgt := 74) (by decide) (fun h4 => ?_) (fun h4 => ?_)
        · skip
          refine v_aload_n C 0 dX_show_74 rfl rfl ?_
          refine v_get C (T := TcX) (N := 16) (ci := 0) (v := .int (F 9)) inX_show_X 0 rfl rfl 9 (by decide) (by decide +kernel) rfl rfl dX_show_75 ?_
          refine v_if_eq C dX_show_78 (tgt := 100) (by decide) (fun h5 => ?_) (fun h5 => ?_)
          · skip
            have hE : (2, 0, F, a) = showF F a n P x := (by unfold showF; rw [if_neg h1, if_pos h2, if_neg h3, if_neg h4, if_pos h5])
            exact v_thr C hlt hX htab (cls := eS) (text := "no plan, not in escrow, or the lock is open") (by decide +kernel) (thr_in (by decide +kernel)) (thr_in (by decide +kernel)) (by decide +kernel) (fun w h => thr_in (thS1 w h)) thS2 thS3 dX_show_100 dX_show_103 dX_show_104 dX_show_106 dX_show_109 (Nat.le_of_ble_eq_true rfl) (Nat.le_of_ble_eq_true rfl) (Nat.le_of_ble_eq_true rfl) (Nat.le_of_ble_eq_true rfl) (by rw [← hE]; rfl)
          · skip
            refine v_aload_n C 0 dX_show_81 rfl rfl ?_
            refine v_get C (T := TcX) (N := 16) (ci := 0) (v := .ref (b 4)) inX_show_X 0 rfl rfl 5 (by decide) (by decide +kernel) rfl rfl dX_show_82 ?_
            refine v_iload_n C 1 dX_show_85 rfl rfl ?_
            refine v_iald C 4 0 (f := a 5) (y := (a 5) x.toNatClampNeg) (j := x.toNatClampNeg) rfl rfl rfl rfl hx dX_show_86 ?_
            refine v_iconst C (v := 1) dX_show_87 (by decide) ?_
            refine v_icmp_ne C dX_show_88 (tgt := 100) (by decide) (fun h6 => ?_) (fun h6 => ?_)
            · skip
              have hE : (2, 0, F, a) = showF F a n P x := (by unfold showF; rw [if_neg h1, if_pos h2, if_neg h3, if_neg h4, if_neg h5, if_neg h6])
              exact v_thr C hlt hX htab (cls := eS) (text := "no plan, not in escrow, or the lock is open") (by decide +kernel) (thr_in (by decide +kernel)) (thr_in (by decide +kernel)) (by decide +kernel) (fun w h => thr_in (thS1 w h)) thS2 thS3 dX_show_100 dX_show_103 dX_show_104 dX_show_106 dX_show_109 (Nat.le_of_ble_eq_true rfl) (Nat.le_of_ble_eq_true rfl) (Nat.le_of_ble_eq_true rfl) (Nat.le_of_ble_eq_true rfl) (by rw [← hE]; rfl)
            · skip
              refine v_aload_n C 0 dX_show_91 rfl rfl ?_
              refine v_iload_n C 1 dX_show_92 rfl rfl ?_
              refine v_iload_n C 2 dX_show_93 rfl rfl ?_
              refine v_cVrF (As := [.int x, .int (rLast (F 15))]) C (c_isUnlockedF l D cI cZ cJ b F a x (rLast (F 15)) hx) (cwV 2 C.2.2.2.2.1 gX_show_X_isUnlocked rfl rfl rfl (by decide +kernel) ⟨Nat.le_of_ble_eq_true rfl, Nat.le_of_ble_eq_true rfl⟩) 0 rfl (T := TcX) (N := 16) rfl rfl rfl (Nat.le_of_ble_eq_true rfl) ⟨Nat.zero_le _, Nat.zero_le _⟩ dX_show_94 ?_
              refine v_if_eq C dX_show_97 (tgt := 110) (by decide) (fun h7 => ?_) (fun h7 => ?_)
              · skip
                refine v_aload_n C 0 dX_show_110 rfl rfl ?_
                refine v_aload_n C 0 dX_show_111 rfl rfl ?_
                refine v_get C (T := TcX) (N := 16) (ci := 0) (v := .int (F 15)) inX_show_X 0 rfl rfl 15 (by decide) (by decide +kernel) rfl rfl dX_show_112 ?_
                refine v_cVrF (As := [.int (F 15)]) C (c_isInTimeF l D cI cZ cJ b F a (F 15)) (cwV 1 C.2.2.2.2.1 gX_show_X_isInTime rfl rfl rfl (by decide +kernel) ⟨Nat.le_of_ble_eq_true rfl, Nat.le_of_ble_eq_true rfl⟩) 0 rfl (T := TcX) (N := 16) rfl rfl rfl (Nat.le_of_ble_eq_true rfl) ⟨Nat.zero_le _, Nat.zero_le _⟩ dX_show_115 ?_
                refine v_if_eq C dX_show_118 (tgt := 133) (by decide) (fun h8 => ?_) (fun h8 => ?_)
                · skip
                  have hE : (3, 0, F, a) = showF F a n P x := (by unfold showF; rw [if_neg h1, if_pos h2, if_neg h3, if_neg h4, if_neg h5, if_pos h6, if_pos h7, if_pos h8])
                  exact v_thr C hlt hX htab (cls := eU) (text := "too late, or another one's hashkey") (by decide +kernel) (thr_in (by decide +kernel)) (thr_in (by decide +kernel)) (by decide +kernel) (fun w h => thr_in (thU1 w h)) thU2 thU3 dX_show_133 dX_show_136 dX_show_137 dX_show_139 dX_show_142 (Nat.le_of_ble_eq_true rfl) (Nat.le_of_ble_eq_true rfl) (Nat.le_of_ble_eq_true rfl) (Nat.le_of_ble_eq_true rfl) (by rw [← hE]; rfl)
                · skip
                  refine v_aload_n C 0 dX_show_121 rfl rfl ?_
                  refine v_iload_n C 2 dX_show_122 rfl rfl ?_
                  refine v_aload_n C 0 dX_show_123 rfl rfl ?_
                  refine v_get C (T := TcX) (N := 16) (ci := 0) (v := .int (F 15)) inX_show_X 0 rfl rfl 15 (by decide) (by decide +kernel) rfl rfl dX_show_124 ?_
                  refine v_cVrF (As := [.int (rLast (F 15)), .int (F 15)]) C (c_mayShowF l D cI cZ cJ b F a n P (rLast (F 15)) (F 15) hn hn4 hp hp6) (cwV 2 C.2.2.2.2.1 gX_show_X_mayShow rfl rfl rfl (by decide +kernel) ⟨Nat.le_of_ble_eq_true rfl, Nat.le_of_ble_eq_true rfl⟩) 0 rfl (T := TcX) (N := 16) rfl rfl rfl (Nat.le_of_ble_eq_true rfl) ⟨Nat.zero_le _, Nat.zero_le _⟩ dX_show_127 ?_
                  refine v_if_ne C dX_show_130 (tgt := 143) (by decide) (fun h9 => ?_) (fun h9 => ?_)
                  · skip
                    refine v_aload_n C 0 dX_show_143 rfl rfl ?_
                    refine v_iload_n C 1 dX_show_144 rfl rfl ?_
                    refine v_iload_n C 2 dX_show_145 rfl rfl ?_
                    refine v_aload_n C 0 dX_show_146 rfl rfl ?_
                    refine v_get C (T := TcX) (N := 16) (ci := 0) (v := .int (F 15)) inX_show_X 0 rfl rfl 15 (by decide) (by decide +kernel) rfl rfl dX_show_147 ?_
                    refine v_cVvF (As := [.int x, .int (rLast (F 15)), .int (F 15)]) C (c_unlockF l D cI cZ cJ b F a x (rLast (F 15)) (F 15) hx (vp_key5 hx (vp_leader (F := F) (a := a) (by assumption) hp hp6))) (cwV 3 C.2.2.2.2.1 gX_show_X_unlock rfl rfl rfl (by decide +kernel) ⟨Nat.le_of_ble_eq_true rfl, Nat.le_of_ble_eq_true rfl⟩) 0 rfl (T := TcX) (N := 16) rfl rfl rfl (Nat.le_of_ble_eq_true rfl) ⟨Nat.zero_le _, Nat.zero_le _⟩ dX_show_150 ?_
                    refine v_aload_n C 0 dX_show_153 rfl rfl ?_
                    refine v_iconst C (v := 0) dX_show_154 (by decide) ?_
                    refine v_put C (T := TcX) (N := 16) (ci := 0) (v := .int 0) inX_show_X tycX tycX_ok nmcX 0 rfl rfl 15 (by decide) (by decide +kernel) rfl rfl rfl rfl (Nat.le_of_ble_eq_true rfl) dX_show_155 (w1 := wX cI b (upd F 15 0) (unlockF F a x (rLast (F 15)) (F 15))) rfl ?_
                    refine v_aload_n C 0 dX_show_158 rfl rfl ?_
                    refine v_get C (T := TcX) (N := 16) (ci := 0) (v := .ref (b 5)) inX_show_X 0 rfl rfl 6 (by decide) (by decide +kernel) rfl rfl dX_show_159 ?_
                    refine v_iload_n C 1 dX_show_162 rfl rfl ?_
                    refine v_iald C 5 0 (f := (unlockF F a x (rLast (F 15)) (F 15)) 6) (y := ((unlockF F a x (rLast (F 15)) (F 15)) 6) x.toNatClampNeg) (j := x.toNatClampNeg) rfl rfl rfl rfl hx dX_show_163 ?_
                    refine v_cSr0 (As := [.int (((unlockF F a x (rLast (F 15)) (F 15)) 6) x.toNatClampNeg)]) C (c_bitCountF l D cI cZ cJ (((unlockF F a x (rLast (F 15)) (F 15)) 6) x.toNatClampNeg)) (va_cwS 1 C.2.2.2.2.1 gX_show_J_bitCount rfl rfl rfl (by decide +kernel) ⟨Nat.le_of_ble_eq_true rfl, Nat.le_of_ble_eq_true rfl⟩) rfl rfl (Nat.le_of_ble_eq_true rfl) ⟨Nat.zero_le _, Nat.zero_le _⟩ dX_show_164 ?_
                    have hE : (0, bitCountF (((unlockF F a x (rLast (F 15)) (F 15)) 6) x.toNatClampNeg), upd F 15 0, (unlockF F a x (rLast (F 15)) (F 15))) = showF F a n P x := (by unfold showF; rw [if_neg h1, if_pos h2, if_neg h3, if_neg h4, if_neg h5, if_pos h6, if_pos h7, if_neg h8, if_neg h9])
                    exact v_xir C hr (by rw [← hE]) (by rw [← hE]; rfl) (by rw [← hE]) dX_show_167
                  · skip
                    have hE : (3, 0, F, a) = showF F a n P x := (by unfold showF; rw [if_neg h1, if_pos h2, if_neg h3, if_neg h4, if_neg h5, if_pos h6, if_pos h7, if_neg h8, if_pos h9])
                    exact v_thr C hlt hX htab (cls := eU) (text := "too late, or another one's hashkey") (by decide +kernel) (thr_in (by decide +kernel)) (thr_in (by decide +kernel)) (by decide +kernel) (fun w h => thr_in (thU1 w h)) thU2 thU3 dX_show_133 dX_show_136 dX_show_137 dX_show_139 dX_show_142 (Nat.le_of_ble_eq_true rfl) (Nat.le_of_ble_eq_true rfl) (Nat.le_of_ble_eq_true rfl) (Nat.le_of_ble_eq_true rfl) (by rw [← hE]; rfl)
              · skip
                have hE : (2, 0, F, a) = showF F a n P x := (by unfold showF; rw [if_neg h1, if_pos h2, if_neg h3, if_neg h4, if_neg h5, if_pos h6, if_neg h7])
                exact v_thr C hlt hX htab (cls := eS) (text := "no plan, not in escrow, or the lock is open") (by decide +kernel) (thr_in (by decide +kernel)) (thr_in (by decide +kernel)) (by decide +kernel) (fun w h => thr_in (thS1 w h)) thS2 thS3 dX_show_100 dX_show_103 dX_show_104 dX_show_106 dX_show_109 (Nat.le_of_ble_eq_true rfl) (Nat.le_of_ble_eq_true rfl) (Nat.le_of_ble_eq_true rfl) (Nat.le_of_ble_eq_true rfl) (by rw [← hE]; rfl)
        · skip
          have hE : (1, 0, F, a) = showF F a n P x := (by unfold showF; rw [if_neg h1, if_pos h2, if_neg h3, if_pos h4])
          exact v_thr C hlt hX htab (cls := eA) (text := "no path from the payee to a leader") (by decide +kernel) (thr_in (by decide +kernel)) (thr_in (by decide +kernel)) (by decide +kernel) (fun w h => thr_in (thA1 w h)) thA2 thA3 dX_show_64 dX_show_67 dX_show_68 dX_show_70 dX_show_73 (Nat.le_of_ble_eq_true rfl) (Nat.le_of_ble_eq_true rfl) (Nat.le_of_ble_eq_true rfl) (Nat.le_of_ble_eq_true rfl) (by rw [← hE]; rfl)
  · skip
    have hE : (4, 0, F, a) = showF F a n P x := (by unfold showF; rw [if_pos h1])
    exact v_thr C hlt hX htab (cls := eB) (text := "no such arc") (by decide +kernel) (thr_in (by decide +kernel)) (thr_in (by decide +kernel)) (by decide +kernel) (fun w h => thr_in (thB1 w h)) thB2 thB3 dX_show_8 dX_show_11 dX_show_12 dX_show_14 dX_show_17 (Nat.le_of_ble_eq_true rfl) (Nat.le_of_ble_eq_true rfl) (Nat.le_of_ble_eq_true rfl) (Nat.le_of_ble_eq_true rfl) (by rw [← hE]; rfl)

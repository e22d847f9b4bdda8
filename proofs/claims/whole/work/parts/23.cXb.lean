set_option maxHeartbeats 4000000 in
set_option maxRecDepth 100000 in
theorem c_moveAllF (l : Launch) (D : va_G) (cI cZ cJ : ClassId) (b : Nat → Nat) (F : FT) (a : AT) (n : Nat) (x : Int32) (y : Int32) (z : Int32) (hn : F 8 = nI n) (hn4 : n ≤ 14) : Ki l yX_moveAll wX_moveAll ({ frames := 0, cells := 0, slots := 0, locals := 0 } : Room) D vwCl (tyG cI cZ cJ) [.ref (b 0), .int x, .int y, .int z] (wX cI b F a) ((moveAllF F a n x y z).1) (wX cI b F ((moveAllF F a n x y z).2)) := by
  intro sz
  refine v_ent (cc := bX_moveAll) (maxL := 6) (ret := (some .int)) (Qc := (fun A => va_Qi (fun (x9 : Int32) (_ : Unit) => x9 = (moveAllF F a n x y z).1) (fun _ => wB D vwCl (tyG cI cZ cJ) A (wX cI b F ((moveAllF F a n x y z).2))) A)) (fr := (fun A => A)) (own := RcX) rfl (by decide) rfl (Nat.le_of_ble_eq_true rfl) rfl ?_
  intro p e s m args below meth c A C hr _
  refine v_free ?_
  refine v_iconst C (v := 0) dX_moveAll_0 (by decide) ?_
  refine v_istore C (lv' := [(0, .ref (b 0)), (1, .int x), (2, .int y), (3, .int z), (4, .int 0)]) [1, 2, 3, 4, 0] dX_moveAll_1 (by decide) rfl ?_
  refine v_iconst C (v := 0) dX_moveAll_3 (by decide) ?_
  refine v_istore C (lv' := [(0, .ref (b 0)), (1, .int x), (2, .int y), (3, .int z), (4, .int 0), (5, .int 0)]) [1, 2, 3, 4, 5, 0] dX_moveAll_4 (by decide) rfl ?_
  refine v_loop2 n (fun (i : Nat) (d : Int32) (a1 : AT) => wX cI b F a1) (fun (i : Nat) (d : Int32) (a1 : AT) => [(0, .ref (b 0)), (1, .int x), (2, .int y), (3, .int z), (4, .int d), (5, .int (nI i))]) (fun (ki i : Nat) (d : Int32) (a1 : AT) => moveAllL F n x y z ki i d a1 = moveAllL F n x y z n 0 0 a) ?_ ?_ n 0 0 a (by omega) rfl
  · skip
    intro ki i d a1 hki hIi ihi
    have hIi : moveAllL F n x y z (ki + 1) i d a1 = moveAllL F n x y z n 0 0 a := hIi
    refine v_as (w' := wX cI b F a1) (lv' := [(0, .ref (b 0)), (1, .int x), (2, .int y), (3, .int z), (4, .int d), (5, .int (nI i))]) rfl rfl ?_
    refine v_iload C 5 dX_moveAll_6 rfl ?_
    refine v_aload_n C 0 dX_moveAll_8 rfl rfl ?_
    refine v_get C (T := TcX) (N := 16) (ci := 0) (v := .int (F 8)) inX_moveAll_X 0 rfl rfl 8 (by decide) (by decide +kernel) rfl rfl dX_moveAll_9 ?_
    refine v_top (y := nI n) hn ?_
    refine v_icmp_ge C dX_moveAll_12 (tgt := 54) (by decide) (fun h => absurd h (nI_ge (a := i) (b := n) (by omega) (by omega))) (fun _ => ?_)
    refine v_aload_n C 0 dX_moveAll_15 rfl rfl ?_
    refine v_get C (T := TcX) (N := 16) (ci := 0) (v := .ref (b 2)) inX_moveAll_X 0 rfl rfl 3 (by decide) (by decide +kernel) rfl rfl dX_moveAll_16 ?_
    refine v_iload C 5 dX_moveAll_19 rfl ?_
    refine v_iald C 2 0 (f := a1 3) (y := (a1 3) i) (j := i) rfl rfl (nI_clamp (by omega)) rfl (vp_in_nI (by omega) (by decide)) dX_moveAll_21 ?_
    refine v_iload_n C 1 dX_moveAll_22 rfl rfl ?_
    refine v_icmp_ne C dX_moveAll_23 (tgt := 48) (by decide) (fun h1 => ?_) (fun h1 => ?_)
    · skip
      refine v_iinc C (v := nI (i + 1)) (lv' := [(0, .ref (b 0)), (1, .int x), (2, .int y), (3, .int z), (4, .int d), (5, .int (nI (i + 1)))]) 5 [1, 2, 3, 4, 5, 0] dX_moveAll_48 rfl (nI_1 i) (by decide) rfl ?_
      refine v_goto C dX_moveAll_51 (tgt := 6) (by decide) ?_
      have hL : moveAllL F n x y z ki (i + 1) d a1 = moveAllL F n x y z n 0 0 a := (by rw [← hIi]; simp only [moveAllL]; rw [if_neg h1])
      exact ihi d a1 hL
    · skip
      refine v_aload_n C 0 dX_moveAll_26 rfl rfl ?_
      refine v_get C (T := TcX) (N := 16) (ci := 0) (v := .ref (b 4)) inX_moveAll_X 0 rfl rfl 5 (by decide) (by decide +kernel) rfl rfl dX_moveAll_27 ?_
      refine v_iload C 5 dX_moveAll_30 rfl ?_
      refine v_iald C 4 0 (f := a1 5) (y := (a1 5) i) (j := i) rfl rfl (nI_clamp (by omega)) rfl (vp_in_nI (by omega) (by decide)) dX_moveAll_32 ?_
      refine v_iload_n C 2 dX_moveAll_33 rfl rfl ?_
      refine v_icmp_ne C dX_moveAll_34 (tgt := 48) (by decide) (fun h2 => ?_) (fun h2 => ?_)
      · skip
        refine v_iinc C (v := nI (i + 1)) (lv' := [(0, .ref (b 0)), (1, .int x), (2, .int y), (3, .int z), (4, .int d), (5, .int (nI (i + 1)))]) 5 [1, 2, 3, 4, 5, 0] dX_moveAll_48 rfl (nI_1 i) (by decide) rfl ?_
        refine v_goto C dX_moveAll_51 (tgt := 6) (by decide) ?_
        have hL : moveAllL F n x y z ki (i + 1) d a1 = moveAllL F n x y z n 0 0 a := (by rw [← hIi]; simp only [moveAllL]; rw [if_pos h1, if_neg h2])
        exact ihi d a1 hL
      · skip
        refine v_aload_n C 0 dX_moveAll_37 rfl rfl ?_
        refine v_get C (T := TcX) (N := 16) (ci := 0) (v := .ref (b 4)) inX_moveAll_X 0 rfl rfl 5 (by decide) (by decide +kernel) rfl rfl dX_moveAll_38 ?_
        refine v_iload C 5 dX_moveAll_41 rfl ?_
        refine v_iload_n C 3 dX_moveAll_43 rfl rfl ?_
        obtain ⟨zz1, hzz1⟩ : ∃ z9, upd (a1 5) i z = z9 := ⟨_, rfl⟩
        refine v_iast C 4 0 (f := a1 5) (j := i) (f1 := zz1) rfl rfl (nI_clamp (by omega)) hzz1 (vp_in_nI (by omega) (by decide)) dX_moveAll_44 (w1 := wX cI b F (updA a1 5 zz1)) rfl ?_
        refine v_iinc C (v := d + 1) (lv' := [(0, .ref (b 0)), (1, .int x), (2, .int y), (3, .int z), (4, .int (d + 1)), (5, .int (nI i))]) 4 [1, 2, 3, 4, 0, 5] dX_moveAll_45 rfl rfl (by decide) rfl ?_
        refine v_iinc C (v := nI (i + 1)) (lv' := [(0, .ref (b 0)), (1, .int x), (2, .int y), (3, .int z), (4, .int (d + 1)), (5, .int (nI (i + 1)))]) 5 [1, 2, 3, 4, 5, 0] dX_moveAll_48 rfl (nI_1 i) (by decide) rfl ?_
        refine v_goto C dX_moveAll_51 (tgt := 6) (by decide) ?_
        have hL : moveAllL F n x y z ki (i + 1) (d + 1) (updA a1 5 zz1) = moveAllL F n x y z n 0 0 a := (by rw [← hIi]; simp only [moveAllL]; rw [hzz1, if_pos h1, if_pos h2])
        exact ihi (d + 1) (updA a1 5 zz1) hL
  · skip
    intro d a1 hIi
    have hIi : moveAllL F n x y z 0 n d a1 = moveAllL F n x y z n 0 0 a := hIi
    refine v_as (w' := wX cI b F a1) (lv' := [(0, .ref (b 0)), (1, .int x), (2, .int y), (3, .int z), (4, .int d), (5, .int (nI n))]) rfl rfl ?_
    obtain ⟨rfl, rfl⟩ : d = (moveAllL F n x y z n 0 0 a).1 ∧ a1 = (moveAllL F n x y z n 0 0 a).2 := by rw [← hIi]; exact ⟨rfl, rfl⟩
    refine v_iload C 5 dX_moveAll_6 rfl ?_
    refine v_aload_n C 0 dX_moveAll_8 rfl rfl ?_
    refine v_get C (T := TcX) (N := 16) (ci := 0) (v := .int (F 8)) inX_moveAll_X 0 rfl rfl 8 (by decide) (by decide +kernel) rfl rfl dX_moveAll_9 ?_
    refine v_top (y := nI n) hn ?_
    refine v_icmp_ge C dX_moveAll_12 (tgt := 54) (by decide) (fun _ => ?_) (fun h => absurd (nI_le (a := n) (b := n) (by omega) (by omega)) h)
    refine v_iload C 4 dX_moveAll_54 rfl ?_
    have hE : ((moveAllL F n x y z n 0 0 a).1, (moveAllL F n x y z n 0 0 a).2) = moveAllF F a n x y z := (by unfold moveAllF; rfl)
    exact v_iret C hr (by rw [← hE]) (by rw [← hE]) dX_moveAll_56
set_option maxHeartbeats 4000000 in
set_option maxRecDepth 100000 in
theorem c_shortestF (l : Launch) (D : va_G) (cI cZ cJ : ClassId) (b : Nat → Nat) (F : FT) (a : AT) (n : Nat) (P : Nat) (x : Int32) (y : Int32) (hn : F 8 = nI n) (hn4 : n ≤ 14) (hp : F 0 = nI P) (hp6 : P ≤ 6) : Kr l yX_shortestLearnt wX_shortestLearnt ({ frames := 2, cells := 0, slots := 0, locals := 43 } : Room) D vwCl (tyG cI cZ cJ) [.ref (b 0), .int x, .int y] (wX cI b F a) (shortestF F a n P x y) := by
  intro sz
  refine v_ent (cc := bX_shortestLearnt) (maxL := 7) (ret := (some .int)) (Qc := (fun _ _ st oc t => oc = .returned (some (.int (shortestF F a n P x y))) ∧ t.heap = st.heap)) (fr := (fun _ _ => False)) (own := RcX) rfl (by decide) rfl (Nat.le_of_ble_eq_true rfl) rfl ?_
  intro p e s m args below meth c A C hr _
  refine v_iconst C (v := 0) dX_shortestLearnt_0 (by decide) ?_
  refine v_istore_n C (lv' := [(0, .ref (b 0)), (1, .int x), (2, .int y), (3, .int 0)]) [1, 2, 3, 0] dX_shortestLearnt_1 rfl (by decide) rfl ?_
  refine v_iconst C (v := 0) dX_shortestLearnt_2 (by decide) ?_
  refine v_istore C (lv' := [(0, .ref (b 0)), (1, .int x), (2, .int y), (3, .int 0), (4, .int 0)]) [1, 2, 3, 4, 0] dX_shortestLearnt_3 (by decide) rfl ?_
  refine v_loop1 n (fun (i : Nat) (best : Int32) => wX cI b F a) (fun (i : Nat) (best : Int32) => [(0, .ref (b 0)), (1, .int x), (2, .int y), (3, .int best), (4, .int (nI i))]) (fun (ki i : Nat) (best : Int32) => shortestL F a n P x y ki i best = shortestL F a n P x y n 0 0) ?_ ?_ n 0 0 (by omega) rfl
  · skip
    intro ki i best hki hIi ihi
    have hIi : shortestL F a n P x y (ki + 1) i best = shortestL F a n P x y n 0 0 := hIi
    refine v_as (w' := wX cI b F a) (lv' := [(0, .ref (b 0)), (1, .int x), (2, .int y), (3, .int best), (4, .int (nI i))]) rfl rfl ?_
    refine v_iload C 4 dX_shortestLearnt_5 rfl ?_
    refine v_aload_n C 0 dX_shortestLearnt_7 rfl rfl ?_
    refine v_get C (T := TcX) (N := 16) (ci := 0) (v := .int (F 8)) inX_shortestLearnt_X 0 rfl rfl 8 (by decide) (by decide +kernel) rfl rfl dX_shortestLearnt_8 ?_
    refine v_top (y := nI n) hn ?_
    refine v_icmp_ge C dX_shortestLearnt_11 (tgt := 89) (by decide) (fun h => absurd h (nI_ge (a := i) (b := n) (by omega) (by omega))) (fun _ => ?_)
    refine v_aload_n C 0 dX_shortestLearnt_14 rfl rfl ?_
    refine v_get C (T := TcX) (N := 16) (ci := 0) (v := .ref (b 2)) inX_shortestLearnt_X 0 rfl rfl 3 (by decide) (by decide +kernel) rfl rfl dX_shortestLearnt_15 ?_
    refine v_iload C 4 dX_shortestLearnt_18 rfl ?_
    refine v_iald C 2 0 (f := a 3) (y := (a 3) i) (j := i) rfl rfl (nI_clamp (by omega)) rfl (vp_in_nI (by omega) (by decide)) dX_shortestLearnt_20 ?_
    refine v_iload_n C 1 dX_shortestLearnt_21 rfl rfl ?_
    refine v_icmp_ne C dX_shortestLearnt_22 (tgt := 35) (by decide) (fun h1 => ?_) (fun h1 => ?_)
    · skip
      refine v_iconst C (v := 0) dX_shortestLearnt_35 (by decide) ?_
      refine v_istore C (lv' := [(0, .ref (b 0)), (1, .int x), (2, .int y), (3, .int best), (4, .int (nI i)), (5, .int 0)]) [1, 2, 3, 4, 5, 0] dX_shortestLearnt_36 (by decide) rfl ?_
      refine v_iload C 5 dX_shortestLearnt_38 rfl ?_
      refine v_if_eq C dX_shortestLearnt_40 (tgt := 56) (by decide) (fun _ => ?_) (fun h => absurd h (by decide))
      refine v_iconst C (v := 0) dX_shortestLearnt_56 (by decide) ?_
      refine v_istore C (lv' := [(0, .ref (b 0)), (1, .int x), (2, .int y), (3, .int best), (4, .int (nI i)), (5, .int 0), (6, .int 0)]) [1, 2, 3, 4, 5, 6, 0] dX_shortestLearnt_57 (by decide) rfl ?_
      refine v_iload C 6 dX_shortestLearnt_59 rfl ?_
      refine v_if_eq C dX_shortestLearnt_61 (tgt := 83) (by decide) (fun _ => ?_) (fun h => absurd h (by decide))
      refine v_iinc C (v := nI (i + 1)) (lv' := [(0, .ref (b 0)), (1, .int x), (2, .int y), (3, .int best), (4, .int (nI (i + 1))), (5, .int 0), (6, .int 0)]) 4 [1, 2, 3, 4, 0, 5, 6] dX_shortestLearnt_83 rfl (nI_1 i) (by decide) rfl ?_
      refine v_goto C dX_shortestLearnt_86 (tgt := 5) (by decide) ?_
      refine v_loc (lv' := [(0, .ref (b 0)), (1, .int x), (2, .int y), (3, .int best), (4, .int (nI (i + 1)))]) [0, 1, 2, 3, 4] rfl ?_
      have hL : shortestL F a n P x y ki (i + 1) best = shortestL F a n P x y n 0 0 := (by rw [← hIi]; simp only [shortestL]; rw [if_neg h1])
      exact ihi best hL
    · skip
      refine v_aload_n C 0 dX_shortestLearnt_25 rfl rfl ?_
      refine v_iload C 4 dX_shortestLearnt_26 rfl ?_
      refine v_iload_n C 2 dX_shortestLearnt_28 rfl rfl ?_
      refine v_cVrF (As := [.int (nI i), .int y]) C (c_hashkeyF l D cI cZ cJ b F a n P (nI i) y hn hn4 hp hp6) (cwV 2 C.2.2.2.2.1 gX_shortestLearnt_X_hashkey rfl rfl rfl (by decide +kernel) ⟨Nat.le_of_ble_eq_true rfl, Nat.le_of_ble_eq_true rfl⟩) 0 rfl (T := TcX) (N := 16) rfl rfl rfl (Nat.le_of_ble_eq_true rfl) ⟨Nat.zero_le _, Nat.zero_le _⟩ dX_shortestLearnt_29 ?_
      refine v_goto C dX_shortestLearnt_32 (tgt := 36) (by decide) ?_
      refine v_istore C (lv' := [(0, .ref (b 0)), (1, .int x), (2, .int y), (3, .int best), (4, .int (nI i)), (5, .int (hashkeyF F a (nI i) y))]) [1, 2, 3, 4, 5, 0] dX_shortestLearnt_36 (by decide) rfl ?_
      refine v_iload C 5 dX_shortestLearnt_38 rfl ?_
      refine v_if_eq C dX_shortestLearnt_40 (tgt := 56) (by decide) (fun h2 => ?_) (fun h2 => ?_)
      · skip
        refine v_iconst C (v := 0) dX_shortestLearnt_56 (by decide) ?_
        refine v_istore C (lv' := [(0, .ref (b 0)), (1, .int x), (2, .int y), (3, .int best), (4, .int (nI i)), (5, .int (hashkeyF F a (nI i) y)), (6, .int 0)]) [1, 2, 3, 4, 5, 6, 0] dX_shortestLearnt_57 (by decide) rfl ?_
        refine v_iload C 6 dX_shortestLearnt_59 rfl ?_
        refine v_if_eq C dX_shortestLearnt_61 (tgt := 83) (by decide) (fun _ => ?_) (fun h => absurd h (by decide))
        refine v_iinc C (v := nI (i + 1)) (lv' := [(0, .ref (b 0)), (1, .int x), (2, .int y), (3, .int best), (4, .int (nI (i + 1))), (5, .int (hashkeyF F a (nI i) y)), (6, .int 0)]) 4 [1, 2, 3, 4, 0, 5, 6] dX_shortestLearnt_83 rfl (nI_1 i) (by decide) rfl ?_
        refine v_goto C dX_shortestLearnt_86 (tgt := 5) (by decide) ?_
        refine v_loc (lv' := [(0, .ref (b 0)), (1, .int x), (2, .int y), (3, .int best), (4, .int (nI (i + 1)))]) [0, 1, 2, 3, 4] rfl ?_
        have hL : shortestL F a n P x y ki (i + 1) best = shortestL F a n P x y n 0 0 := (by rw [← hIi]; simp only [shortestL]; rw [if_pos h1, if_pos h2])
        exact ihi best hL
      · skip
        refine v_iload C 5 dX_shortestLearnt_43 rfl ?_
        refine v_iload_n C 1 dX_shortestLearnt_45 rfl rfl ?_
        refine v_cSr0 (As := [.int (hashkeyF F a (nI i) y), .int x]) C (c_rHas l D cI cZ cJ (hashkeyF F a (nI i) y) x) (va_cwS 2 C.2.2.2.2.1 gX_shortestLearnt_R_has rfl rfl rfl (by decide +kernel) ⟨Nat.le_of_ble_eq_true rfl, Nat.le_of_ble_eq_true rfl⟩) rfl rfl (Nat.le_of_ble_eq_true rfl) ⟨Nat.zero_le _, Nat.zero_le _⟩ dX_shortestLearnt_46 ?_
        refine v_if_ne C dX_shortestLearnt_49 (tgt := 56) (by decide) (fun h3 => ?_) (fun h3 => ?_)
        · skip
          refine v_iconst C (v := 0) dX_shortestLearnt_56 (by decide) ?_
          refine v_istore C (lv' := [(0, .ref (b 0)), (1, .int x), (2, .int y), (3, .int best), (4, .int (nI i)), (5, .int (hashkeyF F a (nI i) y)), (6, .int 0)]) [1, 2, 3, 4, 5, 6, 0] dX_shortestLearnt_57 (by decide) rfl ?_
          refine v_iload C 6 dX_shortestLearnt_59 rfl ?_
          refine v_if_eq C dX_shortestLearnt_61 (tgt := 83) (by decide) (fun _ => ?_) (fun h => absurd h (by decide))
          refine v_iinc C (v := nI (i + 1)) (lv' := [(0, .ref (b 0)), (1, .int x), (2, .int y), (3, .int best), (4, .int (nI (i + 1))), (5, .int (hashkeyF F a (nI i) y)), (6, .int 0)]) 4 [1, 2, 3, 4, 0, 5, 6] dX_shortestLearnt_83 rfl (nI_1 i) (by decide) rfl ?_
          refine v_goto C dX_shortestLearnt_86 (tgt := 5) (by decide) ?_
          refine v_loc (lv' := [(0, .ref (b 0)), (1, .int x), (2, .int y), (3, .int best), (4, .int (nI (i + 1)))]) [0, 1, 2, 3, 4] rfl ?_
          have hL : shortestL F a n P x y ki (i + 1) best = shortestL F a n P x y n 0 0 := (by rw [← hIi]; simp only [shortestL]; rw [if_pos h1, if_neg h2, if_neg h3])
          exact ihi best hL
        · skip
          refine v_iconst C (v := 1) dX_shortestLearnt_52 (by decide) ?_
          refine v_goto C dX_shortestLearnt_53 (tgt := 57) (by decide) ?_
          refine v_istore C (lv' := [(0, .ref (b 0)), (1, .int x), (2, .int y), (3, .int best), (4, .int (nI i)), (5, .int (hashkeyF F a (nI i) y)), (6, .int 1)]) [1, 2, 3, 4, 5, 6, 0] dX_shortestLearnt_57 (by decide) rfl ?_
          refine v_iload C 6 dX_shortestLearnt_59 rfl ?_
          refine v_if_eq C dX_shortestLearnt_61 (tgt := 83) (by decide) (fun h => absurd h (by decide)) (fun _ => ?_)
          refine v_iload_n C 3 dX_shortestLearnt_64 rfl rfl ?_
          refine v_if_eq C dX_shortestLearnt_65 (tgt := 80) (by decide) (fun h4 => ?_) (fun h4 => ?_)
          · skip
            refine v_iload C 5 dX_shortestLearnt_80 rfl ?_
            refine v_istore_n C (lv' := [(0, .ref (b 0)), (1, .int x), (2, .int y), (3, .int (hashkeyF F a (nI i) y)), (4, .int (nI i)), (5, .int (hashkeyF F a (nI i) y)), (6, .int 1)]) [1, 2, 3, 0, 4, 5, 6] dX_shortestLearnt_82 rfl (by decide) rfl ?_
            refine v_iinc C (v := nI (i + 1)) (lv' := [(0, .ref (b 0)), (1, .int x), (2, .int y), (3, .int (hashkeyF F a (nI i) y)), (4, .int (nI (i + 1))), (5, .int (hashkeyF F a (nI i) y)), (6, .int 1)]) 4 [1, 2, 3, 4, 0, 5, 6] dX_shortestLearnt_83 rfl (nI_1 i) (by decide) rfl ?_
            refine v_goto C dX_shortestLearnt_86 (tgt := 5) (by decide) ?_
            refine v_loc (lv' := [(0, .ref (b 0)), (1, .int x), (2, .int y), (3, .int (hashkeyF F a (nI i) y)), (4, .int (nI (i + 1)))]) [0, 1, 2, 3, 4] rfl ?_
            have hL : shortestL F a n P x y ki (i + 1) (hashkeyF F a (nI i) y) = shortestL F a n P x y n 0 0 := (by rw [← hIi]; simp only [shortestL]; rw [if_pos h1, if_neg h2, if_pos h3, if_pos h4])
            exact ihi (hashkeyF F a (nI i) y) hL
          · skip
            refine v_iload C 5 dX_shortestLearnt_68 rfl ?_
            refine v_cSr0 (As := [.int (hashkeyF F a (nI i) y)]) C (c_rSize l D cI cZ cJ (hashkeyF F a (nI i) y)) (va_cwS 1 C.2.2.2.2.1 gX_shortestLearnt_R_size rfl rfl rfl (by decide +kernel) ⟨Nat.le_of_ble_eq_true rfl, Nat.le_of_ble_eq_true rfl⟩) rfl rfl (Nat.le_of_ble_eq_true rfl) ⟨Nat.zero_le _, Nat.zero_le _⟩ dX_shortestLearnt_70 ?_
            refine v_iload_n C 3 dX_shortestLearnt_73 rfl rfl ?_
            refine v_cSr0 (As := [.int best]) C (c_rSize l D cI cZ cJ best) (va_cwS 1 C.2.2.2.2.1 gX_shortestLearnt_R_size rfl rfl rfl (by decide +kernel) ⟨Nat.le_of_ble_eq_true rfl, Nat.le_of_ble_eq_true rfl⟩) rfl rfl (Nat.le_of_ble_eq_true rfl) ⟨Nat.zero_le _, Nat.zero_le _⟩ dX_shortestLearnt_74 ?_
            refine v_icmp_ge C dX_shortestLearnt_77 (tgt := 83) (by decide) (fun h5 => ?_) (fun h5 => ?_)
            · skip
              refine v_iinc C (v := nI (i + 1)) (lv' := [(0, .ref (b 0)), (1, .int x), (2, .int y), (3, .int best), (4, .int (nI (i + 1))), (5, .int (hashkeyF F a (nI i) y)), (6, .int 1)]) 4 [1, 2, 3, 4, 0, 5, 6] dX_shortestLearnt_83 rfl (nI_1 i) (by decide) rfl ?_
              refine v_goto C dX_shortestLearnt_86 (tgt := 5) (by decide) ?_
              refine v_loc (lv' := [(0, .ref (b 0)), (1, .int x), (2, .int y), (3, .int best), (4, .int (nI (i + 1)))]) [0, 1, 2, 3, 4] rfl ?_
              have hL : shortestL F a n P x y ki (i + 1) best = shortestL F a n P x y n 0 0 := (by rw [← hIi]; simp only [shortestL]; rw [if_pos h1, if_neg h2, if_pos h3, if_neg h4, if_pos h5])
              exact ihi best hL
            · skip
              refine v_iload C 5 dX_shortestLearnt_80 rfl ?_
              refine v_istore_n C (lv' := [(0, .ref (b 0)), (1, .int x), (2, .int y), (3, .int (hashkeyF F a (nI i) y)), (4, .int (nI i)), (5, .int (hashkeyF F a (nI i) y)), (6, .int 1)]) [1, 2, 3, 0, 4, 5, 6] dX_shortestLearnt_82 rfl (by decide) rfl ?_
              refine v_iinc C (v := nI (i + 1)) (lv' := [(0, .ref (b 0)), (1, .int x), (2, .int y), (3, .int (hashkeyF F a (nI i) y)), (4, .int (nI (i + 1))), (5, .int (hashkeyF F a (nI i) y)), (6, .int 1)]) 4 [1, 2, 3, 4, 0, 5, 6] dX_shortestLearnt_83 rfl (nI_1 i) (by decide) rfl ?_
              refine v_goto C dX_shortestLearnt_86 (tgt := 5) (by decide) ?_
              refine v_loc (lv' := [(0, .ref (b 0)), (1, .int x), (2, .int y), (3, .int (hashkeyF F a (nI i) y)), (4, .int (nI (i + 1)))]) [0, 1, 2, 3, 4] rfl ?_
              have hL : shortestL F a n P x y ki (i + 1) (hashkeyF F a (nI i) y) = shortestL F a n P x y n 0 0 := (by rw [← hIi]; simp only [shortestL]; rw [if_pos h1, if_neg h2, if_pos h3, if_neg h4, if_neg h5])
              exact ihi (hashkeyF F a (nI i) y) hL
  · skip
    intro best hIi
    have hIi : shortestL F a n P x y 0 n best = shortestL F a n P x y n 0 0 := hIi
    refine v_as (w' := wX cI b F a) (lv' := [(0, .ref (b 0)), (1, .int x), (2, .int y), (3, .int best), (4, .int (nI n))]) rfl rfl ?_
    have hIi : best = shortestL F a n P x y n 0 0 := hIi
    subst hIi
    refine v_iload C 4 dX_shortestLearnt_5 rfl ?_
    refine v_aload_n C 0 dX_shortestLearnt_7 rfl rfl ?_
    refine v_get C (T := TcX) (N := 16) (ci := 0) (v := .int (F 8)) inX_shortestLearnt_X 0 rfl rfl 8 (by decide) (by decide +kernel) rfl rfl dX_shortestLearnt_8 ?_
    refine v_top (y := nI n) hn ?_
    refine v_icmp_ge C dX_shortestLearnt_11 (tgt := 89) (by decide) (fun _ => ?_) (fun h => absurd (nI_le (a := n) (b := n) (by omega) (by omega)) h)
    refine v_iload_n C 3 dX_shortestLearnt_89 rfl rfl ?_
    exact v_irr C hr (by unfold shortestF; rfl) dX_shortestLearnt_90
set_option maxHeartbeats 4000000 in
set_option maxRecDepth 100000 in
theorem c_showToAllF (l : Launch) (D : va_G) (cI cZ cJ : ClassId) (b : Nat → Nat) (F : FT) (a : AT) (n : Nat) (x : Int32) (y : Int32) (row : Int32) (hn : F 8 = nI n) (hn4 : n ≤ 14) (hl : vp_in y 6) : Ki l yX_showToAll wX_showToAll ({ frames := 2, cells := 0, slots := 0, locals := 43 } : Room) D vwCl (tyG cI cZ cJ) [.ref (b 0), .int x, .int y, .int row] (wX cI b F a) ((showToAllF F a n x y row).1) (wX cI b F ((showToAllF F a n x y row).2)) := by
  intro sz
  refine v_ent (cc := bX_showToAll) (maxL := 6) (ret := (some .int)) (Qc := (fun A => va_Qi (fun (x9 : Int32) (_ : Unit) => x9 = (showToAllF F a n x y row).1) (fun _ => wB D vwCl (tyG cI cZ cJ) A (wX cI b F ((showToAllF F a n x y row).2))) A)) (fr := (fun A => A)) (own := RcX) rfl (by decide) rfl (Nat.le_of_ble_eq_true rfl) rfl ?_
  intro p e s m args below meth c A C hr _
  refine v_free ?_
  refine v_aload_n C 0 dX_showToAll_0 rfl rfl ?_
  refine v_iload_n C 3 dX_showToAll_1 rfl rfl ?_
  refine v_cVrF (As := [.int row]) C (c_isInTimeF l D cI cZ cJ b F a row) (cwV 1 C.2.2.2.2.1 gX_showToAll_X_isInTime rfl rfl rfl (by decide +kernel) ⟨Nat.le_of_ble_eq_true rfl, Nat.le_of_ble_eq_true rfl⟩) 0 rfl (T := TcX) (N := 16) rfl rfl rfl (Nat.le_of_ble_eq_true rfl) ⟨Nat.zero_le _, Nat.zero_le _⟩ dX_showToAll_2 ?_
  refine v_if_ne C dX_showToAll_5 (tgt := 10) (by decide) (fun h1 => ?_) (fun h1 => ?_)
  · skip
    refine v_iconst C (v := 0) dX_showToAll_10 (by decide) ?_
    refine v_istore C (lv' := [(0, .ref (b 0)), (1, .int x), (2, .int y), (3, .int row), (4, .int 0)]) [1, 2, 3, 4, 0] dX_showToAll_11 (by decide) rfl ?_
    refine v_iconst C (v := 0) dX_showToAll_13 (by decide) ?_
    refine v_istore C (lv' := [(0, .ref (b 0)), (1, .int x), (2, .int y), (3, .int row), (4, .int 0), (5, .int 0)]) [1, 2, 3, 4, 5, 0] dX_showToAll_14 (by decide) rfl ?_
    refine v_loop2 n (fun (i : Nat) (d : Int32) (a1 : AT) => wX cI b F a1) (fun (i : Nat) (d : Int32) (a1 : AT) => [(0, .ref (b 0)), (1, .int x), (2, .int y), (3, .int row), (4, .int d), (5, .int (nI i))]) (fun (ki i : Nat) (d : Int32) (a1 : AT) => showToAllL F n x y row ki i d a1 = showToAllL F n x y row n 0 0 a) ?_ ?_ n 0 0 a (by omega) rfl
    · skip
      intro ki i d a1 hki hIi ihi
      have hIi : showToAllL F n x y row (ki + 1) i d a1 = showToAllL F n x y row n 0 0 a := hIi
      refine v_as (w' := wX cI b F a1) (lv' := [(0, .ref (b 0)), (1, .int x), (2, .int y), (3, .int row), (4, .int d), (5, .int (nI i))]) rfl rfl ?_
      refine v_iload C 5 dX_showToAll_16 rfl ?_
      refine v_aload_n C 0 dX_showToAll_18 rfl rfl ?_
      refine v_get C (T := TcX) (N := 16) (ci := 0) (v := .int (F 8)) inX_showToAll_X 0 rfl rfl 8 (by decide) (by decide +kernel) rfl rfl dX_showToAll_19 ?_
      refine v_top (y := nI n) hn ?_
      refine v_icmp_ge C dX_showToAll_22 (tgt := 74) (by decide) (fun h => absurd h (nI_ge (a := i) (b := n) (by omega) (by omega))) (fun _ => ?_)
      refine v_aload_n C 0 dX_showToAll_25 rfl rfl ?_
      refine v_get C (T := TcX) (N := 16) (ci := 0) (v := .ref (b 3)) inX_showToAll_X 0 rfl rfl 4 (by decide) (by decide +kernel) rfl rfl dX_showToAll_26 ?_
      refine v_iload C 5 dX_showToAll_29 rfl ?_
      refine v_iald C 3 0 (f := a1 4) (y := (a1 4) i) (j := i) rfl rfl (nI_clamp (by omega)) rfl (vp_in_nI (by omega) (by decide)) dX_showToAll_31 ?_
      refine v_iload_n C 1 dX_showToAll_32 rfl rfl ?_
      refine v_icmp_ne C dX_showToAll_33 (tgt := 68) (by decide) (fun h2 => ?_) (fun h2 => ?_)
      · skip
        refine v_iinc C (v := nI (i + 1)) (lv' := [(0, .ref (b 0)), (1, .int x), (2, .int y), (3, .int row), (4, .int d), (5, .int (nI (i + 1)))]) 5 [1, 2, 3, 4, 5, 0] dX_showToAll_68 rfl (nI_1 i) (by decide) rfl ?_
        refine v_goto C dX_showToAll_71 (tgt := 16) (by decide) ?_
        have hL : showToAllL F n x y row ki (i + 1) d a1 = showToAllL F n x y row n 0 0 a := (by rw [← hIi]; simp only [showToAllL]; rw [if_neg h2])
        exact ihi d a1 hL
      · skip
        refine v_aload_n C 0 dX_showToAll_36 rfl rfl ?_
        refine v_get C (T := TcX) (N := 16) (ci := 0) (v := .ref (b 4)) inX_showToAll_X 0 rfl rfl 5 (by decide) (by decide +kernel) rfl rfl dX_showToAll_37 ?_
        refine v_iload C 5 dX_showToAll_40 rfl ?_
        refine v_iald C 4 0 (f := a1 5) (y := (a1 5) i) (j := i) rfl rfl (nI_clamp (by omega)) rfl (vp_in_nI (by omega) (by decide)) dX_showToAll_42 ?_
        refine v_iconst C (v := 1) dX_showToAll_43 (by decide) ?_
        refine v_icmp_ne C dX_showToAll_44 (tgt := 68) (by decide) (fun h3 => ?_) (fun h3 => ?_)
        · skip
          refine v_iinc C (v := nI (i + 1)) (lv' := [(0, .ref (b 0)), (1, .int x), (2, .int y), (3, .int row), (4, .int d), (5, .int (nI (i + 1)))]) 5 [1, 2, 3, 4, 5, 0] dX_showToAll_68 rfl (nI_1 i) (by decide) rfl ?_
          refine v_goto C dX_showToAll_71 (tgt := 16) (by decide) ?_
          have hL : showToAllL F n x y row ki (i + 1) d a1 = showToAllL F n x y row n 0 0 a := (by rw [← hIi]; simp only [showToAllL]; rw [if_pos h2, if_neg h3])
          exact ihi d a1 hL
        · skip
          refine v_aload_n C 0 dX_showToAll_47 rfl rfl ?_
          refine v_iload C 5 dX_showToAll_48 rfl ?_
          refine v_iload_n C 2 dX_showToAll_50 rfl rfl ?_
          refine v_cVrF (As := [.int (nI i), .int y]) C (c_isUnlockedF l D cI cZ cJ b F a1 (nI i) y (vp_in_nI (by omega) (by decide))) (cwV 2 C.2.2.2.2.1 gX_showToAll_X_isUnlocked rfl rfl rfl (by decide +kernel) ⟨Nat.le_of_ble_eq_true rfl, Nat.le_of_ble_eq_true rfl⟩) 0 rfl (T := TcX) (N := 16) rfl rfl rfl (Nat.le_of_ble_eq_true rfl) ⟨Nat.zero_le _, Nat.zero_le _⟩ dX_showToAll_51 ?_
          refine v_if_ne C dX_showToAll_54 (tgt := 68) (by decide) (fun h4 => ?_) (fun h4 => ?_)
          · skip
            refine v_iinc C (v := nI (i + 1)) (lv' := [(0, .ref (b 0)), (1, .int x), (2, .int y), (3, .int row), (4, .int d), (5, .int (nI (i + 1)))]) 5 [1, 2, 3, 4, 5, 0] dX_showToAll_68 rfl (nI_1 i) (by decide) rfl ?_
            refine v_goto C dX_showToAll_71 (tgt := 16) (by decide) ?_
            have hL : showToAllL F n x y row ki (i + 1) d a1 = showToAllL F n x y row n 0 0 a := (by rw [← hIi]; simp only [showToAllL]; rw [if_pos h2, if_pos h3, if_neg h4])
            exact ihi d a1 hL
          · skip
            refine v_aload_n C 0 dX_showToAll_57 rfl rfl ?_
            refine v_iload C 5 dX_showToAll_58 rfl ?_
            refine v_iload_n C 2 dX_showToAll_60 rfl rfl ?_
            refine v_iload_n C 3 dX_showToAll_61 rfl rfl ?_
            refine v_cVvF (As := [.int (nI i), .int y, .int row]) C (c_unlockF l D cI cZ cJ b F a1 (nI i) y row (vp_in_nI (by omega) (by decide)) (vp_key2 (by omega) hl)) (cwV 3 C.2.2.2.2.1 gX_showToAll_X_unlock rfl rfl rfl (by decide +kernel) ⟨Nat.le_of_ble_eq_true rfl, Nat.le_of_ble_eq_true rfl⟩) 0 rfl (T := TcX) (N := 16) rfl rfl rfl (Nat.le_of_ble_eq_true rfl) ⟨Nat.zero_le _, Nat.zero_le _⟩ dX_showToAll_62 ?_
            refine v_iinc C (v := d + 1) (lv' := [(0, .ref (b 0)), (1, .int x), (2, .int y), (3, .int row), (4, .int (d + 1)), (5, .int (nI i))]) 4 [1, 2, 3, 4, 0, 5] dX_showToAll_65 rfl rfl (by decide) rfl ?_
            refine v_iinc C (v := nI (i + 1)) (lv' := [(0, .ref (b 0)), (1, .int x), (2, .int y), (3, .int row), (4, .int (d + 1)), (5, .int (nI (i + 1)))]) 5 [1, 2, 3, 4, 5, 0] dX_showToAll_68 rfl (nI_1 i) (by decide) rfl ?_
            refine v_goto C dX_showToAll_71 (tgt := 16) (by decide) ?_
            have hL : showToAllL F n x y row ki (i + 1) (d + 1) (unlockF F a1 (nI i) y row) = showToAllL F n x y row n 0 0 a := (by rw [← hIi]; simp only [showToAllL]; rw [if_pos h2, if_pos h3, if_pos h4])
            exact ihi (d + 1) (unlockF F a1 (nI i) y row) hL
    · skip
      intro d a1 hIi
      have hIi : showToAllL F n x y row 0 n d a1 = showToAllL F n x y row n 0 0 a := hIi
      refine v_as (w' := wX cI b F a1) (lv' := [(0, .ref (b 0)), (1, .int x), (2, .int y), (3, .int row), (4, .int d), (5, .int (nI n))]) rfl rfl ?_
      obtain ⟨rfl, rfl⟩ : d = (showToAllL F n x y row n 0 0 a).1 ∧ a1 = (showToAllL F n x y row n 0 0 a).2 := by rw [← hIi]; exact ⟨rfl, rfl⟩
      refine v_iload C 5 dX_showToAll_16 rfl ?_
      refine v_aload_n C 0 dX_showToAll_18 rfl rfl ?_
      refine v_get C (T := TcX) (N := 16) (ci := 0) (v := .int (F 8)) inX_showToAll_X 0 rfl rfl 8 (by decide) (by decide +kernel) rfl rfl dX_showToAll_19 ?_
      refine v_top (y := nI n) hn ?_
      refine v_icmp_ge C dX_showToAll_22 (tgt := 74) (by decide) (fun _ => ?_) (fun h => absurd (nI_le (a := n) (b := n) (by omega) (by omega)) h)
      refine v_iload C 4 dX_showToAll_74 rfl ?_
      have hE : ((showToAllL F n x y row n 0 0 a).1, (showToAllL F n x y row n 0 0 a).2) = showToAllF F a n x y row := (by unfold showToAllF; rw [if_neg h1])
      exact v_iret C hr (by rw [← hE]) (by rw [← hE]) dX_showToAll_76
  · skip
    refine v_iconst C (v := 0) dX_showToAll_8 (by decide) ?_
    have hE : (0, a) = showToAllF F a n x y row := (by unfold showToAllF; rw [if_pos h1])
    exact v_iret C hr (by rw [← hE]) (by rw [← hE]) dX_showToAll_9

def gLongL (a : AT) (K : Int32 → Int32 → Int32) (x : Int32) (y : Int32) : Nat → Nat → Int32 → Int32
  | 0, i, u => u
  | ki + 1, i, u => if ((((a 22) x.toNatClampNeg) &&& (y ^^^ ((-1) : Int32))) &&& ((1 : Int32) <<< ((nI i) &&& 31))) = 0 then
      gLongL a K x y ki (i + 1) u
    else
      gLongL a K x y ki (i + 1) (if u < ((1 : Int32) + (K (nI i) (y ||| ((1 : Int32) <<< ((nI i) &&& 31))))) then (1 : Int32) + (K (nI i) (y ||| ((1 : Int32) <<< ((nI i) &&& 31)))) else u)
def gLong (a : AT) : Nat → Int32 → Int32 → Int32
  | 0, _, _ => 0
  | z + 1, x, y => gLongL a (gLong a z) x y 6 0 0
theorem dG_longestFrom_0 : decode bG_longestFrom 0 = .ok (.iconst 0, 1) := by decide +kernel
theorem dG_longestFrom_1 : decode bG_longestFrom 1 = .ok (.istore 4, 2) := by decide +kernel
theorem dG_longestFrom_3 : decode bG_longestFrom 3 = .ok (.iload_n 3, 1) := by decide +kernel
theorem dG_longestFrom_4 : decode bG_longestFrom 4 = .ok (.bipush 6, 2) := by decide +kernel
theorem dG_longestFrom_6 : decode bG_longestFrom 6 = .ok (.if_icmp .lt 6, 3) := by decide +kernel
theorem dG_longestFrom_9 : decode bG_longestFrom 9 = .ok (.iload 4, 2) := by decide +kernel
theorem dG_longestFrom_11 : decode bG_longestFrom 11 = .ok (.ireturn, 1) := by decide +kernel
theorem dG_longestFrom_12 : decode bG_longestFrom 12 = .ok (.iconst 0, 1) := by decide +kernel
theorem dG_longestFrom_13 : decode bG_longestFrom 13 = .ok (.istore 5, 2) := by decide +kernel
theorem dG_longestFrom_15 : decode bG_longestFrom 15 = .ok (.iload 5, 2) := by decide +kernel
theorem dG_longestFrom_17 : decode bG_longestFrom 17 = .ok (.bipush 6, 2) := by decide +kernel
theorem dG_longestFrom_19 : decode bG_longestFrom 19 = .ok (.if_icmp .ge 48, 3) := by decide +kernel
theorem dG_longestFrom_22 : decode bG_longestFrom 22 = .ok (.aload_n 0, 1) := by decide +kernel
theorem dG_longestFrom_23 : decode bG_longestFrom 23 = .ok (.iload_n 1, 1) := by decide +kernel
theorem dG_longestFrom_24 : decode bG_longestFrom 24 = .ok (.iaload, 1) := by decide +kernel
theorem dG_longestFrom_25 : decode bG_longestFrom 25 = .ok (.iload_n 2, 1) := by decide +kernel
theorem dG_longestFrom_26 : decode bG_longestFrom 26 = .ok (.iconst (-1), 1) := by decide +kernel
theorem dG_longestFrom_27 : decode bG_longestFrom 27 = .ok (.ixor, 1) := by decide +kernel
theorem dG_longestFrom_28 : decode bG_longestFrom 28 = .ok (.iand, 1) := by decide +kernel
theorem dG_longestFrom_29 : decode bG_longestFrom 29 = .ok (.iconst 1, 1) := by decide +kernel
theorem dG_longestFrom_30 : decode bG_longestFrom 30 = .ok (.iload 5, 2) := by decide +kernel
theorem dG_longestFrom_32 : decode bG_longestFrom 32 = .ok (.ishl, 1) := by decide +kernel
theorem dG_longestFrom_33 : decode bG_longestFrom 33 = .ok (.iand, 1) := by decide +kernel
theorem dG_longestFrom_34 : decode bG_longestFrom 34 = .ok (.ifCond .eq 27, 3) := by decide +kernel
theorem dG_longestFrom_37 : decode bG_longestFrom 37 = .ok (.iload 4, 2) := by decide +kernel
theorem dG_longestFrom_39 : decode bG_longestFrom 39 = .ok (.iconst 1, 1) := by decide +kernel
theorem dG_longestFrom_40 : decode bG_longestFrom 40 = .ok (.aload_n 0, 1) := by decide +kernel
theorem dG_longestFrom_41 : decode bG_longestFrom 41 = .ok (.iload 5, 2) := by decide +kernel
theorem dG_longestFrom_43 : decode bG_longestFrom 43 = .ok (.iload_n 2, 1) := by decide +kernel
theorem dG_longestFrom_44 : decode bG_longestFrom 44 = .ok (.iconst 1, 1) := by decide +kernel
theorem dG_longestFrom_45 : decode bG_longestFrom 45 = .ok (.iload 5, 2) := by decide +kernel
theorem dG_longestFrom_47 : decode bG_longestFrom 47 = .ok (.ishl, 1) := by decide +kernel
theorem dG_longestFrom_48 : decode bG_longestFrom 48 = .ok (.ior, 1) := by decide +kernel
theorem dG_longestFrom_49 : decode bG_longestFrom 49 = .ok (.iload_n 3, 1) := by decide +kernel
theorem dG_longestFrom_50 : decode bG_longestFrom 50 = .ok (.iconst 1, 1) := by decide +kernel
theorem dG_longestFrom_51 : decode bG_longestFrom 51 = .ok (.iadd, 1) := by decide +kernel
theorem dG_longestFrom_52 : decode bG_longestFrom 52 = .ok (.invokestatic 51, 3) := by decide +kernel
theorem dG_longestFrom_55 : decode bG_longestFrom 55 = .ok (.iadd, 1) := by decide +kernel
theorem dG_longestFrom_56 : decode bG_longestFrom 56 = .ok (.invokestatic 55, 3) := by decide +kernel
theorem dG_longestFrom_59 : decode bG_longestFrom 59 = .ok (.istore 4, 2) := by decide +kernel
theorem dG_longestFrom_61 : decode bG_longestFrom 61 = .ok (.iinc 5 1, 3) := by decide +kernel
theorem dG_longestFrom_64 : decode bG_longestFrom 64 = .ok (.goto (-49), 3) := by decide +kernel
theorem dG_longestFrom_67 : decode bG_longestFrom 67 = .ok (.iload 4, 2) := by decide +kernel
theorem dG_longestFrom_69 : decode bG_longestFrom 69 = .ok (.ireturn, 1) := by decide +kernel
set_option maxRecDepth 20000 in
theorem gG_longestFrom_G_longestFrom : GoodIn wG_longestFrom (va_wsS RcG 51 yG_longestFrom wG_longestFrom) := goodIn_app (goodIn_of _ (by decide +kernel)) (goodIn_r _ [0, 1, 2, 3, 4, 5, 6, 7] (by decide +kernel) (by decide +kernel))
set_option maxHeartbeats 4000000 in
set_option maxRecDepth 100000 in
theorem c_gLong (l : Launch) (D : va_G) (cI cZ cJ : ClassId) (b : Nat → Nat) (a : AT) : ∀ (z sz : Nat) (x y : Int32), sz + z = 6 → vp_in x 6 → Kr l yG_longestFrom wG_longestFrom ({ frames := z + 1, cells := 0, slots := 0, locals := 25 * z + 21 } : Room) D vwCl (tyG cI cZ cJ) [.ref (b 7), .int x, .int y, .int (nI sz)] (wN cI b a) (gLong a z x y) := by
  intro z
  induction z with
  | zero =>
    intro sz x y hz hx sz9
    refine v_ent (cc := bG_longestFrom) (maxL := 6) (ret := (some .int)) (Qc := (fun _ _ st oc t => oc = .returned (some (.int (gLong a 0 x y))) ∧ t.heap = st.heap)) (fr := (fun _ _ => False)) (own := RcG) rfl (by decide) rfl (Nat.le_of_ble_eq_true rfl) rfl ?_
    intro p e s m args below meth c A C hr _
    refine v_iconst C (v := 0) dG_longestFrom_0 (by decide) ?_
    refine v_istore C (lv' := [(0, .ref (b 7)), (1, .int x), (2, .int y), (3, .int (nI sz)), (4, .int 0)]) [1, 2, 3, 4, 0] dG_longestFrom_1 (by decide) rfl ?_
    refine v_iload_n C 3 dG_longestFrom_3 rfl rfl ?_
    refine v_bipush C (v := 6) dG_longestFrom_4 (by decide) ?_
    refine v_icmp_lt C dG_longestFrom_6 (tgt := 12) (by decide) (fun h => absurd h (nI_nlt (a := sz) (b := 6) (by omega) (by omega))) (fun _ => ?_)
    refine v_iload C 4 dG_longestFrom_9 rfl ?_
    exact v_irr C hr rfl dG_longestFrom_11
  | succ z ih =>
    intro sz x y hz hx sz9
    refine v_ent (cc := bG_longestFrom) (maxL := 6) (ret := (some .int)) (Qc := (fun _ _ st oc t => oc = .returned (some (.int (gLong a (z + 1) x y))) ∧ t.heap = st.heap)) (fr := (fun _ _ => False)) (own := RcG) rfl (by decide) rfl (Nat.le_of_ble_eq_true rfl) rfl ?_
    intro p e s m args below meth c A C hr _
    refine v_iconst C (v := 0) dG_longestFrom_0 (by decide) ?_
    refine v_istore C (lv' := [(0, .ref (b 7)), (1, .int x), (2, .int y), (3, .int (nI sz)), (4, .int 0)]) [1, 2, 3, 4, 0] dG_longestFrom_1 (by decide) rfl ?_
    refine v_iload_n C 3 dG_longestFrom_3 rfl rfl ?_
    refine v_bipush C (v := 6) dG_longestFrom_4 (by decide) ?_
    refine v_icmp_lt C dG_longestFrom_6 (tgt := 12) (by decide) (fun _ => ?_) (fun h => absurd (nI_lt (a := sz) (b := 6) (by omega) (by omega)) h)
    refine v_iconst C (v := 0) dG_longestFrom_12 (by decide) ?_
    refine v_istore C (lv' := [(0, .ref (b 7)), (1, .int x), (2, .int y), (3, .int (nI sz)), (4, .int 0), (5, .int 0)]) [1, 2, 3, 4, 5, 0] dG_longestFrom_13 (by decide) rfl ?_
    refine v_loop1 6 (fun (i : Nat) (u : Int32) => wN cI b a) (fun (i : Nat) (u : Int32) => [(0, .ref (b 7)), (1, .int x), (2, .int y), (3, .int (nI sz)), (4, .int u), (5, .int (nI i))]) (fun (ki i : Nat) (u : Int32) => gLongL a (gLong a z) x y ki i u = gLongL a (gLong a z) x y 6 0 0) ?_ ?_ 6 0 0 (by omega) rfl
    · skip
      intro ki i u hki hIi ihi
      have hIi : gLongL a (gLong a z) x y (ki + 1) i u = gLongL a (gLong a z) x y 6 0 0 := hIi
      refine v_as (w' := wN cI b a) (lv' := [(0, .ref (b 7)), (1, .int x), (2, .int y), (3, .int (nI sz)), (4, .int u), (5, .int (nI i))]) rfl rfl ?_
      refine v_iload C 5 dG_longestFrom_15 rfl ?_
      refine v_bipush C (v := 6) dG_longestFrom_17 (by decide) ?_
      refine v_icmp_ge C dG_longestFrom_19 (tgt := 67) (by decide) (fun h => absurd h (nI_ge (a := i) (b := 6) (by omega) (by omega))) (fun _ => ?_)
      refine v_aload_n C 0 dG_longestFrom_22 rfl rfl ?_
      refine v_iload_n C 1 dG_longestFrom_23 rfl rfl ?_
      refine v_iald C 0 0 (f := a 22) (y := (a 22) x.toNatClampNeg) (j := x.toNatClampNeg) rfl rfl rfl rfl hx dG_longestFrom_24 ?_
      refine v_iload_n C 2 dG_longestFrom_25 rfl rfl ?_
      refine v_iconst C (v := (-1)) dG_longestFrom_26 (by decide) ?_
      refine v_ixor C dG_longestFrom_27 ?_
      refine v_iand C dG_longestFrom_28 ?_
      refine v_iconst C (v := 1) dG_longestFrom_29 (by decide) ?_
      refine v_iload C 5 dG_longestFrom_30 rfl ?_
      refine v_ishl C dG_longestFrom_32 ?_
      refine v_iand C dG_longestFrom_33 ?_
      refine v_if_eq C dG_longestFrom_34 (tgt := 61) (by decide) (fun h1 => ?_) (fun h1 => ?_)
      · skip
        refine v_iinc C (v := nI (i + 1)) (lv' := [(0, .ref (b 7)), (1, .int x), (2, .int y), (3, .int (nI sz)), (4, .int u), (5, .int (nI (i + 1)))]) 5 [1, 2, 3, 4, 5, 0] dG_longestFrom_61 rfl (nI_1 i) (by decide) rfl ?_
        refine v_goto C dG_longestFrom_64 (tgt := 15) (by decide) ?_
        have hL : gLongL a (gLong a z) x y ki (i + 1) u = gLongL a (gLong a z) x y 6 0 0 := (by rw [← hIi]; simp only [gLongL]; rw [if_pos h1])
        exact ihi u hL
      · skip
        refine v_iload C 4 dG_longestFrom_37 rfl ?_
        refine v_iconst C (v := 1) dG_longestFrom_39 (by decide) ?_
        refine v_aload_n C 0 dG_longestFrom_40 rfl rfl ?_
        refine v_iload C 5 dG_longestFrom_41 rfl ?_
        refine v_iload_n C 2 dG_longestFrom_43 rfl rfl ?_
        refine v_iconst C (v := 1) dG_longestFrom_44 (by decide) ?_
        refine v_iload C 5 dG_longestFrom_45 rfl ?_
        refine v_ishl C dG_longestFrom_47 ?_
        refine v_ior C dG_longestFrom_48 ?_
        refine v_iload_n C 3 dG_longestFrom_49 rfl rfl ?_
        refine v_iconst C (v := 1) dG_longestFrom_50 (by decide) ?_
        refine v_iadd C dG_longestFrom_51 ?_
        refine v_top (y := nI (sz + 1)) (nI_1 sz) ?_
        refine v_cSr (As := [.ref (b 7), .int (nI i), .int (y ||| ((1 : Int32) <<< ((nI i) &&& 31))), .int (nI (sz + 1))]) C (ih (sz + 1) (nI i) (y ||| ((1 : Int32) <<< ((nI i) &&& 31))) (by omega) (vp_in_nI (by omega) (by decide))) (va_cwS 4 C.2.2.2.2.1 gG_longestFrom_G_longestFrom rfl rfl rfl (by decide +kernel) ⟨Nat.le_refl _, by show 8 + (6 + 11) + (25 * z + 21) ≤ 25 * (z + 1) + 21; omega⟩) rfl rfl (Nat.le_of_ble_eq_true rfl) ⟨Nat.zero_le _, Nat.zero_le _⟩ dG_longestFrom_52 [0] rfl rfl ?_
        refine v_iadd C dG_longestFrom_55 ?_
        refine v_mmax C (by decide +kernel) (by decide +kernel) (by decide +kernel) (by decide +kernel) (by show 1 ≤ z + 1 + 1; omega) (by show 0 + 13 ≤ 25 * (z + 1) + 21; omega) (Nat.zero_le _) (Nat.zero_le _) dG_longestFrom_56 ?_
        refine v_istore C (lv' := [(0, .ref (b 7)), (1, .int x), (2, .int y), (3, .int (nI sz)), (4, .int (if u < ((1 : Int32) + (gLong a z (nI i) (y ||| ((1 : Int32) <<< ((nI i) &&& 31))))) then (1 : Int32) + (gLong a z (nI i) (y ||| ((1 : Int32) <<< ((nI i) &&& 31)))) else u)), (5, .int (nI i))]) [1, 2, 3, 4, 0, 5] dG_longestFrom_59 (by decide) rfl ?_
        refine v_iinc C (v := nI (i + 1)) (lv' := [(0, .ref (b 7)), (1, .int x), (2, .int y), (3, .int (nI sz)), (4, .int (if u < ((1 : Int32) + (gLong a z (nI i) (y ||| ((1 : Int32) <<< ((nI i) &&& 31))))) then (1 : Int32) + (gLong a z (nI i) (y ||| ((1 : Int32) <<< ((nI i) &&& 31)))) else u)), (5, .int (nI (i + 1)))]) 5 [1, 2, 3, 4, 5, 0] dG_longestFrom_61 rfl (nI_1 i) (by decide) rfl ?_
        refine v_goto C dG_longestFrom_64 (tgt := 15) (by decide) ?_
        have hL : gLongL a (gLong a z) x y ki (i + 1) (if u < ((1 : Int32) + (gLong a z (nI i) (y ||| ((1 : Int32) <<< ((nI i) &&& 31))))) then (1 : Int32) + (gLong a z (nI i) (y ||| ((1 : Int32) <<< ((nI i) &&& 31)))) else u) = gLongL a (gLong a z) x y 6 0 0 := (by rw [← hIi]; simp only [gLongL]; rw [if_neg h1])
        exact ihi (if u < ((1 : Int32) + (gLong a z (nI i) (y ||| ((1 : Int32) <<< ((nI i) &&& 31))))) then (1 : Int32) + (gLong a z (nI i) (y ||| ((1 : Int32) <<< ((nI i) &&& 31)))) else u) hL
    · skip
      intro u hIi
      have hIi : gLongL a (gLong a z) x y 0 6 u = gLongL a (gLong a z) x y 6 0 0 := hIi
      refine v_as (w' := wN cI b a) (lv' := [(0, .ref (b 7)), (1, .int x), (2, .int y), (3, .int (nI sz)), (4, .int u), (5, .int (nI 6))]) rfl rfl ?_
      have hIi : u = gLongL a (gLong a z) x y 6 0 0 := hIi
      subst hIi
      refine v_iload C 5 dG_longestFrom_15 rfl ?_
      refine v_bipush C (v := 6) dG_longestFrom_17 (by decide) ?_
      refine v_icmp_ge C dG_longestFrom_19 (tgt := 67) (by decide) (fun _ => ?_) (fun h => absurd (nI_le (a := 6) (b := 6) (by omega) (by omega)) h)
      refine v_iload C 4 dG_longestFrom_67 rfl ?_
      exact v_irr C hr (by simp only [gLong]) dG_longestFrom_69

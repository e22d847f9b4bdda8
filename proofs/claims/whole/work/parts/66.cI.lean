set_option maxHeartbeats 4000000 in
set_option maxRecDepth 100000 in
theorem c_gInit (l : Launch) (D : va_G) (cI cZ cJ : ClassId) (g0 : Nat) (x : Int32) : Kc l yG_init wG_init ({ frames := 1, cells := 1, slots := 6, locals := 40 } : Room) D vwCl (tyG cI cZ cJ) [.ref g0, .int x] (wG0 g0) 1 6 (fun (_ : Nat) => True) (fun u => wG1 cI g0 x u) := by
  intro sz
  refine v_ent (cc := bG_init) (maxL := 2) (ret := none) (Qc := (fun A => va_Qv (fun (_ : Nat) => True) (fun u => wB D vwCl (tyG cI cZ cJ) A (wG1 cI g0 x u)) A)) (fr := (fun A => A)) (own := RcG) rfl (by decide) rfl (Nat.le_of_ble_eq_true rfl) rfl ?_
  intro p e s m args below meth c A C hr hm
  refine v_free ?_
  refine v_as (w' := [(g0, .inr (1, [.int 0, .int 0, .null]))]) (lv' := [(0, .ref g0), (1, .int x)]) rfl rfl ?_
  refine v_aload_n C 0 dG_init_0 rfl rfl ?_
  refine v_obj C (by decide +kernel) (by decide +kernel) (by decide +kernel) (Nat.le_of_ble_eq_true rfl) (Nat.le_of_ble_eq_true rfl) dG_init_1 ?_
  refine v_aload_n C 0 dG_init_4 rfl rfl ?_
  refine v_bipush C (v := 6) dG_init_5 (by decide) ?_
  refine v_newa C (ty := .int) (N' := 6) (a0 := (6, .inl (fun _ => 0))) rfl (by decide +kernel) 0 rfl (fun _ _ => ra_int) (fun _ => rfl) (by decide) (by decide) (by decide) (Nat.le_of_ble_eq_true rfl) (Nat.le_of_ble_eq_true rfl) dG_init_7 (fun q1 => ?_)
  refine v_as (w' := [(g0, .inr (1, [.int 0, .int 0, .null])), (q1, .inl (cI, 6, .inl (fun _ => 0)))]) (lv' := [(0, .ref g0), (1, .int x)]) rfl rfl ?_
  refine v_putF C (T := TcG) (N := 3) (ci := 1) (v := .ref q1) inG_init_G tycG tycG_ok nmcG 0 rfl rfl 2 (by decide) (by decide +kernel) rfl rfl hm rfl rfl rfl (Nat.le_of_ble_eq_true rfl) dG_init_9 (w1 := [(g0, .inr (1, [.int 0, .int 0, .ref q1])), (q1, .inl (cI, 6, .inl (fun _ => 0)))]) rfl ?_
  refine v_aload_n C 0 dG_init_12 rfl rfl ?_
  refine v_iload_n C 1 dG_init_13 rfl rfl ?_
  refine v_putF C (T := TcG) (N := 3) (ci := 1) (v := .int x) inG_init_G tycG tycG_ok nmcG 0 rfl rfl 0 (by decide) (by decide +kernel) rfl rfl hm rfl rfl rfl (Nat.le_of_ble_eq_true rfl) dG_init_14 (w1 := [(g0, .inr (1, [.int x, .int 0, .ref q1])), (q1, .inl (cI, 6, .inl (fun _ => 0)))]) rfl ?_
  refine v_aload_n C 0 dG_init_17 rfl rfl ?_
  refine v_iconst C (v := 1) dG_init_18 (by decide) ?_
  refine v_iload_n C 1 dG_init_19 rfl rfl ?_
  refine v_ishl C dG_init_20 ?_
  refine v_iconst C (v := 1) dG_init_21 (by decide) ?_
  refine v_isub C dG_init_22 ?_
  refine v_putF C (T := TcG) (N := 3) (ci := 1) (v := .int ((((1 : Int32) <<< (x &&& 31)) : Int32) - (1 : Int32))) inG_init_G tycG tycG_ok nmcG 0 rfl rfl 1 (by decide) (by decide +kernel) rfl rfl hm rfl rfl rfl (Nat.le_of_ble_eq_true rfl) dG_init_23 (w1 := [(g0, .inr (1, [.int x, .int ((((1 : Int32) <<< (x &&& 31)) : Int32) - (1 : Int32)), .ref q1])), (q1, .inl (cI, 6, .inl (fun _ => 0)))]) rfl ?_
  exact v_vretU C hr q1 trivial rfl dG_init_26
set_option maxHeartbeats 4000000 in
set_option maxRecDepth 100000 in
theorem c_xInit (l : Launch) (D : va_G) (cI cZ cJ : ClassId) (b0 : Nat) (x y : Int32) : Kc l yX_init wX_init ({ frames := 3, cells := 7, slots := 149, locals := 90 } : Room) D vwCl (tyG cI cZ cJ) [.ref b0, .int x, .int y] (wX0 b0) 7 149 (fun (u : Nat → Nat) => u 0 = b0) (fun u => wX cI u (FX0 x y) a00) := by
  intro sz
  refine v_ent (cc := bX_init) (maxL := 3) (ret := none) (Qc := (fun A => va_Qv (fun (u : Nat → Nat) => u 0 = b0) (fun u => wB D vwCl (tyG cI cZ cJ) A (wX cI u (FX0 x y) a00)) A)) (fr := (fun A => A)) (own := RcX) rfl (by decide) rfl (Nat.le_of_ble_eq_true rfl) rfl ?_
  intro p e s m args below meth c A C hr hm
  refine v_free ?_
  refine v_as (w' := [(b0, .inr (0, [.int 0, .int 0, .null, .null, .null, .null, .null, .null, .int 0, .int 0, .int 0, .int 0, .int 0, .int 0, .int 0, .int 0]))]) (lv' := [(0, .ref b0), (1, .int x), (2, .int y)]) rfl rfl ?_
  refine v_aload_n C 0 dX_init_0 rfl rfl ?_
  refine v_obj C (by decide +kernel) (by decide +kernel) (by decide +kernel) (Nat.le_of_ble_eq_true rfl) (Nat.le_of_ble_eq_true rfl) dX_init_1 ?_
  refine v_aload_n C 0 dX_init_4 rfl rfl ?_
  refine v_bipush C (v := 14) dX_init_5 (by decide) ?_
  refine v_newa C (ty := .int) (N' := 14) (a0 := (14, .inl (fun _ => 0))) rfl (by decide +kernel) 0 rfl (fun _ _ => ra_int) (fun _ => rfl) (by decide) (by decide) (by decide) (Nat.le_of_ble_eq_true rfl) (Nat.le_of_ble_eq_true rfl) dX_init_7 (fun q1 => ?_)
  refine v_as (w' := [(b0, .inr (0, [.int 0, .int 0, .null, .null, .null, .null, .null, .null, .int 0, .int 0, .int 0, .int 0, .int 0, .int 0, .int 0, .int 0])), (q1, .inl (cI, 14, .inl (fun _ => 0)))]) (lv' := [(0, .ref b0), (1, .int x), (2, .int y)]) rfl rfl ?_
  refine v_putF C (T := TcX) (N := 16) (ci := 0) (v := .ref q1) inX_init_X tycX tycX_ok nmcX 0 rfl rfl 3 (by decide) (by decide +kernel) rfl rfl hm rfl rfl rfl (Nat.le_of_ble_eq_true rfl) dX_init_9 (w1 := [(b0, .inr (0, [.int 0, .int 0, .null, .ref q1, .null, .null, .null, .null, .int 0, .int 0, .int 0, .int 0, .int 0, .int 0, .int 0, .int 0])), (q1, .inl (cI, 14, .inl (fun _ => 0)))]) rfl ?_
  refine v_aload_n C 0 dX_init_12 rfl rfl ?_
  refine v_bipush C (v := 14) dX_init_13 (by decide) ?_
  refine v_newa C (ty := .int) (N' := 14) (a0 := (14, .inl (fun _ => 0))) rfl (by decide +kernel) 0 rfl (fun _ _ => ra_int) (fun _ => rfl) (by decide) (by decide) (by decide) (Nat.le_of_ble_eq_true rfl) (Nat.le_of_ble_eq_true rfl) dX_init_15 (fun q2 => ?_)
  refine v_as (w' := [(b0, .inr (0, [.int 0, .int 0, .null, .ref q1, .null, .null, .null, .null, .int 0, .int 0, .int 0, .int 0, .int 0, .int 0, .int 0, .int 0])), (q1, .inl (cI, 14, .inl (fun _ => 0))), (q2, .inl (cI, 14, .inl (fun _ => 0)))]) (lv' := [(0, .ref b0), (1, .int x), (2, .int y)]) rfl rfl ?_
  refine v_putF C (T := TcX) (N := 16) (ci := 0) (v := .ref q2) inX_init_X tycX tycX_ok nmcX 0 rfl rfl 4 (by decide) (by decide +kernel) rfl rfl hm rfl rfl rfl (Nat.le_of_ble_eq_true rfl) dX_init_17 (w1 := [(b0, .inr (0, [.int 0, .int 0, .null, .ref q1, .ref q2, .null, .null, .null, .int 0, .int 0, .int 0, .int 0, .int 0, .int 0, .int 0, .int 0])), (q1, .inl (cI, 14, .inl (fun _ => 0))), (q2, .inl (cI, 14, .inl (fun _ => 0)))]) rfl ?_
  refine v_aload_n C 0 dX_init_20 rfl rfl ?_
  refine v_bipush C (v := 14) dX_init_21 (by decide) ?_
  refine v_newa C (ty := .int) (N' := 14) (a0 := (14, .inl (fun _ => 0))) rfl (by decide +kernel) 0 rfl (fun _ _ => ra_int) (fun _ => rfl) (by decide) (by decide) (by decide) (Nat.le_of_ble_eq_true rfl) (Nat.le_of_ble_eq_true rfl) dX_init_23 (fun q3 => ?_)
  refine v_as (w' := [(b0, .inr (0, [.int 0, .int 0, .null, .ref q1, .ref q2, .null, .null, .null, .int 0, .int 0, .int 0, .int 0, .int 0, .int 0, .int 0, .int 0])), (q1, .inl (cI, 14, .inl (fun _ => 0))), (q2, .inl (cI, 14, .inl (fun _ => 0))), (q3, .inl (cI, 14, .inl (fun _ => 0)))]) (lv' := [(0, .ref b0), (1, .int x), (2, .int y)]) rfl rfl ?_
  refine v_putF C (T := TcX) (N := 16) (ci := 0) (v := .ref q3) inX_init_X tycX tycX_ok nmcX 0 rfl rfl 5 (by decide) (by decide +kernel) rfl rfl hm rfl rfl rfl (Nat.le_of_ble_eq_true rfl) dX_init_25 (w1 := [(b0, .inr (0, [.int 0, .int 0, .null, .ref q1, .ref q2, .ref q3, .null, .null, .int 0, .int 0, .int 0, .int 0, .int 0, .int 0, .int 0, .int 0])), (q1, .inl (cI, 14, .inl (fun _ => 0))), (q2, .inl (cI, 14, .inl (fun _ => 0))), (q3, .inl (cI, 14, .inl (fun _ => 0)))]) rfl ?_
  refine v_aload_n C 0 dX_init_28 rfl rfl ?_
  refine v_bipush C (v := 14) dX_init_29 (by decide) ?_
  refine v_newa C (ty := .int) (N' := 14) (a0 := (14, .inl (fun _ => 0))) rfl (by decide +kernel) 0 rfl (fun _ _ => ra_int) (fun _ => rfl) (by decide) (by decide) (by decide) (Nat.le_of_ble_eq_true rfl) (Nat.le_of_ble_eq_true rfl) dX_init_31 (fun q4 => ?_)
  refine v_as (w' := [(b0, .inr (0, [.int 0, .int 0, .null, .ref q1, .ref q2, .ref q3, .null, .null, .int 0, .int 0, .int 0, .int 0, .int 0, .int 0, .int 0, .int 0])), (q1, .inl (cI, 14, .inl (fun _ => 0))), (q2, .inl (cI, 14, .inl (fun _ => 0))), (q3, .inl (cI, 14, .inl (fun _ => 0))), (q4, .inl (cI, 14, .inl (fun _ => 0)))]) (lv' := [(0, .ref b0), (1, .int x), (2, .int y)]) rfl rfl ?_
  refine v_putF C (T := TcX) (N := 16) (ci := 0) (v := .ref q4) inX_init_X tycX tycX_ok nmcX 0 rfl rfl 6 (by decide) (by decide +kernel) rfl rfl hm rfl rfl rfl (Nat.le_of_ble_eq_true rfl) dX_init_33 (w1 := [(b0, .inr (0, [.int 0, .int 0, .null, .ref q1, .ref q2, .ref q3, .ref q4, .null, .int 0, .int 0, .int 0, .int 0, .int 0, .int 0, .int 0, .int 0])), (q1, .inl (cI, 14, .inl (fun _ => 0))), (q2, .inl (cI, 14, .inl (fun _ => 0))), (q3, .inl (cI, 14, .inl (fun _ => 0))), (q4, .inl (cI, 14, .inl (fun _ => 0)))]) rfl ?_
  refine v_aload_n C 0 dX_init_36 rfl rfl ?_
  refine v_bipush C (v := 84) dX_init_37 (by decide) ?_
  refine v_newa C (ty := .int) (N' := 84) (a0 := (84, .inl (fun _ => 0))) rfl (by decide +kernel) 0 rfl (fun _ _ => ra_int) (fun _ => rfl) (by decide) (by decide) (by decide) (Nat.le_of_ble_eq_true rfl) (Nat.le_of_ble_eq_true rfl) dX_init_39 (fun q5 => ?_)
  refine v_as (w' := [(b0, .inr (0, [.int 0, .int 0, .null, .ref q1, .ref q2, .ref q3, .ref q4, .null, .int 0, .int 0, .int 0, .int 0, .int 0, .int 0, .int 0, .int 0])), (q1, .inl (cI, 14, .inl (fun _ => 0))), (q2, .inl (cI, 14, .inl (fun _ => 0))), (q3, .inl (cI, 14, .inl (fun _ => 0))), (q4, .inl (cI, 14, .inl (fun _ => 0))), (q5, .inl (cI, 84, .inl (fun _ => 0)))]) (lv' := [(0, .ref b0), (1, .int x), (2, .int y)]) rfl rfl ?_
  refine v_putF C (T := TcX) (N := 16) (ci := 0) (v := .ref q5) inX_init_X tycX tycX_ok nmcX 0 rfl rfl 7 (by decide) (by decide +kernel) rfl rfl hm rfl rfl rfl (Nat.le_of_ble_eq_true rfl) dX_init_41 (w1 := [(b0, .inr (0, [.int 0, .int 0, .null, .ref q1, .ref q2, .ref q3, .ref q4, .ref q5, .int 0, .int 0, .int 0, .int 0, .int 0, .int 0, .int 0, .int 0])), (q1, .inl (cI, 14, .inl (fun _ => 0))), (q2, .inl (cI, 14, .inl (fun _ => 0))), (q3, .inl (cI, 14, .inl (fun _ => 0))), (q4, .inl (cI, 14, .inl (fun _ => 0))), (q5, .inl (cI, 84, .inl (fun _ => 0)))]) rfl ?_
  refine v_aload_n C 0 dX_init_44 rfl rfl ?_
  refine v_iconst C (v := 0) dX_init_45 (by decide) ?_
  refine v_put C (T := TcX) (N := 16) (ci := 0) (v := .int 0) inX_init_X tycX tycX_ok nmcX 0 rfl rfl 15 (by decide) (by decide +kernel) rfl rfl rfl rfl (Nat.le_of_ble_eq_true rfl) dX_init_46 (w1 := [(b0, .inr (0, [.int 0, .int 0, .null, .ref q1, .ref q2, .ref q3, .ref q4, .ref q5, .int 0, .int 0, .int 0, .int 0, .int 0, .int 0, .int 0, .int 0])), (q1, .inl (cI, 14, .inl (fun _ => 0))), (q2, .inl (cI, 14, .inl (fun _ => 0))), (q3, .inl (cI, 14, .inl (fun _ => 0))), (q4, .inl (cI, 14, .inl (fun _ => 0))), (q5, .inl (cI, 84, .inl (fun _ => 0)))]) rfl ?_
  refine v_aload_n C 0 dX_init_49 rfl rfl ?_
  refine v_iconst C (v := 2) dX_init_50 (by decide) ?_
  refine v_iload_n C 1 dX_init_51 rfl rfl ?_
  refine v_bipush C (v := 7) dX_init_52 (by decide) ?_
  refine v_iand C dX_init_54 ?_
  refine v_iadd C dX_init_55 ?_
  refine v_bipush C (v := 6) dX_init_56 (by decide) ?_
  refine v_mmin C (by decide +kernel) (by decide +kernel) (by decide +kernel) (by decide +kernel) (Nat.le_of_ble_eq_true rfl) (Nat.le_of_ble_eq_true rfl) (Nat.le_of_ble_eq_true rfl) (Nat.le_of_ble_eq_true rfl) dX_init_58 ?_
  refine v_top (y := pN x) rfl ?_
  refine v_putF C (T := TcX) (N := 16) (ci := 0) (v := .int (pN x)) inX_init_X tycX tycX_ok nmcX 0 rfl rfl 0 (by decide) (by decide +kernel) rfl rfl hm rfl rfl rfl (Nat.le_of_ble_eq_true rfl) dX_init_61 (w1 := [(b0, .inr (0, [.int (pN x), .int 0, .null, .ref q1, .ref q2, .ref q3, .ref q4, .ref q5, .int 0, .int 0, .int 0, .int 0, .int 0, .int 0, .int 0, .int 0])), (q1, .inl (cI, 14, .inl (fun _ => 0))), (q2, .inl (cI, 14, .inl (fun _ => 0))), (q3, .inl (cI, 14, .inl (fun _ => 0))), (q4, .inl (cI, 14, .inl (fun _ => 0))), (q5, .inl (cI, 84, .inl (fun _ => 0)))]) rfl ?_
  refine v_aload_n C 0 dX_init_64 rfl rfl ?_
  refine v_iconst C (v := 2) dX_init_65 (by decide) ?_
  refine v_iload_n C 2 dX_init_66 rfl rfl ?_
  refine v_bipush C (v := 7) dX_init_67 (by decide) ?_
  refine v_iand C dX_init_69 ?_
  refine v_iadd C dX_init_70 ?_
  refine v_putF C (T := TcX) (N := 16) (ci := 0) (v := .int ((2 : Int32) + ((y &&& (7 : Int32)) : Int32))) inX_init_X tycX tycX_ok nmcX 0 rfl rfl 1 (by decide) (by decide +kernel) rfl rfl hm rfl rfl rfl (Nat.le_of_ble_eq_true rfl) dX_init_71 (w1 := [(b0, .inr (0, [.int (pN x), .int ((2 : Int32) + ((y &&& (7 : Int32)) : Int32)), .null, .ref q1, .ref q2, .ref q3, .ref q4, .ref q5, .int 0, .int 0, .int 0, .int 0, .int 0, .int 0, .int 0, .int 0])), (q1, .inl (cI, 14, .inl (fun _ => 0))), (q2, .inl (cI, 14, .inl (fun _ => 0))), (q3, .inl (cI, 14, .inl (fun _ => 0))), (q4, .inl (cI, 14, .inl (fun _ => 0))), (q5, .inl (cI, 84, .inl (fun _ => 0)))]) rfl ?_
  refine v_aload_n C 0 dX_init_74 rfl rfl ?_
  refine v_new C (CN := RcG) (T := TcG) (N := 3) (ci := 1) (fs := [.int 0, .int 0, .null]) inX_init_G tycG tycG_ok (by decide +kernel) (by decide +kernel) (by decide +kernel) rfl (by decide) (Nat.le_of_ble_eq_true rfl) (Nat.le_of_ble_eq_true rfl) dX_init_75 (fun q6 => ?_)
  refine v_as (w' := [(b0, .inr (0, [.int (pN x), .int ((2 : Int32) + ((y &&& (7 : Int32)) : Int32)), .null, .ref q1, .ref q2, .ref q3, .ref q4, .ref q5, .int 0, .int 0, .int 0, .int 0, .int 0, .int 0, .int 0, .int 0])), (q1, .inl (cI, 14, .inl (fun _ => 0))), (q2, .inl (cI, 14, .inl (fun _ => 0))), (q3, .inl (cI, 14, .inl (fun _ => 0))), (q4, .inl (cI, 14, .inl (fun _ => 0))), (q5, .inl (cI, 84, .inl (fun _ => 0))), (q6, .inr (1, [.int 0, .int 0, .null]))]) (lv' := [(0, .ref b0), (1, .int x), (2, .int y)]) rfl rfl ?_
  refine v_dup C dX_init_78 rfl ?_
  refine v_aload_n C 0 dX_init_79 rfl rfl ?_
  refine v_get C (T := TcX) (N := 16) (ci := 0) (v := .int (pN x)) inX_init_X 0 rfl rfl 0 (by decide) (by decide +kernel) rfl rfl dX_init_80 ?_
  refine v_cI (As := [.int (pN x)]) (wc := wG0 q6) (wr := [(b0, .inr (0, [.int (pN x), .int ((2 : Int32) + ((y &&& (7 : Int32)) : Int32)), .null, .ref q1, .ref q2, .ref q3, .ref q4, .ref q5, .int 0, .int 0, .int 0, .int 0, .int 0, .int 0, .int 0, .int 0])), (q1, .inl (cI, 14, .inl (fun _ => 0))), (q2, .inl (cI, 14, .inl (fun _ => 0))), (q3, .inl (cI, 14, .inl (fun _ => 0))), (q4, .inl (cI, 14, .inl (fun _ => 0))), (q5, .inl (cI, 84, .inl (fun _ => 0)))]) C (c_gInit l D cI cZ cJ q6 (pN x)) (cwI 1 C.2.2.2.2.1 gX_init_G_init rfl rfl rfl (C.2.2.2.2.1 (.initialized RcG) (by decide +kernel)) (C.2.2.2.2.1 (.methodLink RcX 45 yG_init) (by decide +kernel)) (C.2.2.2.2.1 (.instanceMethod yG_init) (by decide +kernel)) rfl (by decide +kernel) ⟨Nat.le_of_ble_eq_true rfl, Nat.le_of_ble_eq_true rfl⟩) rfl rfl (Nat.le_of_ble_eq_true rfl) ⟨Nat.le_of_ble_eq_true rfl, Nat.le_of_ble_eq_true rfl⟩ dX_init_83 [6] [0, 1, 2, 3, 4, 5] rfl rfl rfl rfl (by decide) (fun q7 _ => ?_)
  refine v_as (w' := [(b0, .inr (0, [.int (pN x), .int ((2 : Int32) + ((y &&& (7 : Int32)) : Int32)), .null, .ref q1, .ref q2, .ref q3, .ref q4, .ref q5, .int 0, .int 0, .int 0, .int 0, .int 0, .int 0, .int 0, .int 0])), (q1, .inl (cI, 14, .inl (fun _ => 0))), (q2, .inl (cI, 14, .inl (fun _ => 0))), (q3, .inl (cI, 14, .inl (fun _ => 0))), (q4, .inl (cI, 14, .inl (fun _ => 0))), (q5, .inl (cI, 84, .inl (fun _ => 0))), (q6, .inr (1, [.int (pN x), .int (((1 : Int32) <<< ((pN x) &&& 31)) - (1 : Int32)), .ref q7])), (q7, .inl (cI, 6, .inl (fun _ => 0)))]) (lv' := [(0, .ref b0), (1, .int x), (2, .int y)]) rfl rfl ?_
  refine v_putF C (T := TcX) (N := 16) (ci := 0) (v := .ref q6) inX_init_X tycX tycX_ok nmcX 0 rfl rfl 2 (by decide) (by decide +kernel) rfl rfl hm rfl rfl rfl (Nat.le_of_ble_eq_true rfl) dX_init_86 (w1 := [(b0, .inr (0, [.int (pN x), .int ((2 : Int32) + ((y &&& (7 : Int32)) : Int32)), .ref q6, .ref q1, .ref q2, .ref q3, .ref q4, .ref q5, .int 0, .int 0, .int 0, .int 0, .int 0, .int 0, .int 0, .int 0])), (q1, .inl (cI, 14, .inl (fun _ => 0))), (q2, .inl (cI, 14, .inl (fun _ => 0))), (q3, .inl (cI, 14, .inl (fun _ => 0))), (q4, .inl (cI, 14, .inl (fun _ => 0))), (q5, .inl (cI, 84, .inl (fun _ => 0))), (q6, .inr (1, [.int (pN x), .int (((1 : Int32) <<< ((pN x) &&& 31)) - (1 : Int32)), .ref q7])), (q7, .inl (cI, 6, .inl (fun _ => 0)))]) rfl ?_
  refine v_sub (w' := wX cI (mk8 b0 q6 q1 q2 q3 q4 q5 q7) (FX0 x y) a00) [0, 6, 1, 2, 3, 4, 5, 7] rfl rfl ?_
  exact v_vretU C hr (mk8 b0 q6 q1 q2 q3 q4 q5 q7) rfl rfl dX_init_89
set_option maxHeartbeats 4000000 in
set_option maxRecDepth 100000 in
theorem c_mInit (l : Launch) (D : va_G) (cI cZ cJ : ClassId) (b0 : Nat) (x y : Int32) : Kc l yM_init wM_init ({ frames := 2, cells := 7, slots := 530, locals := 60 } : Room) D vwCl (tyG cI cZ cJ) [.ref b0, .int x, .int y] (wM0 b0) 7 530 (fun (u : Nat → Nat) => u 0 = b0) (fun u => wM cI cZ u (FM0 x y) a00) := by
  intro sz
  refine v_ent (cc := bM_init) (maxL := 3) (ret := none) (Qc := (fun A => va_Qv (fun (u : Nat → Nat) => u 0 = b0) (fun u => wB D vwCl (tyG cI cZ cJ) A (wM cI cZ u (FM0 x y) a00)) A)) (fr := (fun A => A)) (own := RcM) rfl (by decide) rfl (Nat.le_of_ble_eq_true rfl) rfl ?_
  intro p e s m args below meth c A C hr hm
  refine v_free ?_
  refine v_as (w' := [(b0, .inr (2, [.int 0, .int 0, .int 0, .int 0, .int 0, .int 0, .int 0, .int 0, .int 0, .int 0, .null, .null, .null, .null, .null, .null, .null, .int 0]))]) (lv' := [(0, .ref b0), (1, .int x), (2, .int y)]) rfl rfl ?_
  refine v_aload_n C 0 dM_init_0 rfl rfl ?_
  refine v_obj C (by decide +kernel) (by decide +kernel) (by decide +kernel) (Nat.le_of_ble_eq_true rfl) (Nat.le_of_ble_eq_true rfl) dM_init_1 ?_
  refine v_aload_n C 0 dM_init_4 rfl rfl ?_
  refine v_bipush C (v := 14) dM_init_5 (by decide) ?_
  refine v_newa C (ty := .int) (N' := 14) (a0 := (14, .inl (fun _ => 0))) rfl (by decide +kernel) 0 rfl (fun _ _ => ra_int) (fun _ => rfl) (by decide) (by decide) (by decide) (Nat.le_of_ble_eq_true rfl) (Nat.le_of_ble_eq_true rfl) dM_init_7 (fun q1 => ?_)
  refine v_as (w' := [(b0, .inr (2, [.int 0, .int 0, .int 0, .int 0, .int 0, .int 0, .int 0, .int 0, .int 0, .int 0, .null, .null, .null, .null, .null, .null, .null, .int 0])), (q1, .inl (cI, 14, .inl (fun _ => 0)))]) (lv' := [(0, .ref b0), (1, .int x), (2, .int y)]) rfl rfl ?_
  refine v_putF C (T := TcM) (N := 18) (ci := 2) (v := .ref q1) inM_init_M tycM tycM_ok nmcM 0 rfl rfl 10 (by decide) (by decide +kernel) rfl rfl hm rfl rfl rfl (Nat.le_of_ble_eq_true rfl) dM_init_9 (w1 := [(b0, .inr (2, [.int 0, .int 0, .int 0, .int 0, .int 0, .int 0, .int 0, .int 0, .int 0, .int 0, .ref q1, .null, .null, .null, .null, .null, .null, .int 0])), (q1, .inl (cI, 14, .inl (fun _ => 0)))]) rfl ?_
  refine v_aload_n C 0 dM_init_12 rfl rfl ?_
  refine v_bipush C (v := 14) dM_init_13 (by decide) ?_
  refine v_newa C (ty := .int) (N' := 14) (a0 := (14, .inl (fun _ => 0))) rfl (by decide +kernel) 0 rfl (fun _ _ => ra_int) (fun _ => rfl) (by decide) (by decide) (by decide) (Nat.le_of_ble_eq_true rfl) (Nat.le_of_ble_eq_true rfl) dM_init_15 (fun q2 => ?_)
  refine v_as (w' := [(b0, .inr (2, [.int 0, .int 0, .int 0, .int 0, .int 0, .int 0, .int 0, .int 0, .int 0, .int 0, .ref q1, .null, .null, .null, .null, .null, .null, .int 0])), (q1, .inl (cI, 14, .inl (fun _ => 0))), (q2, .inl (cI, 14, .inl (fun _ => 0)))]) (lv' := [(0, .ref b0), (1, .int x), (2, .int y)]) rfl rfl ?_
  refine v_putF C (T := TcM) (N := 18) (ci := 2) (v := .ref q2) inM_init_M tycM tycM_ok nmcM 0 rfl rfl 11 (by decide) (by decide +kernel) rfl rfl hm rfl rfl rfl (Nat.le_of_ble_eq_true rfl) dM_init_17 (w1 := [(b0, .inr (2, [.int 0, .int 0, .int 0, .int 0, .int 0, .int 0, .int 0, .int 0, .int 0, .int 0, .ref q1, .ref q2, .null, .null, .null, .null, .null, .int 0])), (q1, .inl (cI, 14, .inl (fun _ => 0))), (q2, .inl (cI, 14, .inl (fun _ => 0)))]) rfl ?_
  refine v_aload_n C 0 dM_init_20 rfl rfl ?_
  refine v_bipush C (v := 14) dM_init_21 (by decide) ?_
  refine v_newa C (ty := .int) (N' := 14) (a0 := (14, .inl (fun _ => 0))) rfl (by decide +kernel) 0 rfl (fun _ _ => ra_int) (fun _ => rfl) (by decide) (by decide) (by decide) (Nat.le_of_ble_eq_true rfl) (Nat.le_of_ble_eq_true rfl) dM_init_23 (fun q3 => ?_)
  refine v_as (w' := [(b0, .inr (2, [.int 0, .int 0, .int 0, .int 0, .int 0, .int 0, .int 0, .int 0, .int 0, .int 0, .ref q1, .ref q2, .null, .null, .null, .null, .null, .int 0])), (q1, .inl (cI, 14, .inl (fun _ => 0))), (q2, .inl (cI, 14, .inl (fun _ => 0))), (q3, .inl (cI, 14, .inl (fun _ => 0)))]) (lv' := [(0, .ref b0), (1, .int x), (2, .int y)]) rfl rfl ?_
  refine v_putF C (T := TcM) (N := 18) (ci := 2) (v := .ref q3) inM_init_M tycM tycM_ok nmcM 0 rfl rfl 12 (by decide) (by decide +kernel) rfl rfl hm rfl rfl rfl (Nat.le_of_ble_eq_true rfl) dM_init_25 (w1 := [(b0, .inr (2, [.int 0, .int 0, .int 0, .int 0, .int 0, .int 0, .int 0, .int 0, .int 0, .int 0, .ref q1, .ref q2, .ref q3, .null, .null, .null, .null, .int 0])), (q1, .inl (cI, 14, .inl (fun _ => 0))), (q2, .inl (cI, 14, .inl (fun _ => 0))), (q3, .inl (cI, 14, .inl (fun _ => 0)))]) rfl ?_
  refine v_aload_n C 0 dM_init_28 rfl rfl ?_
  refine v_bipush C (v := 14) dM_init_29 (by decide) ?_
  refine v_newa C (ty := .int) (N' := 14) (a0 := (14, .inl (fun _ => 0))) rfl (by decide +kernel) 0 rfl (fun _ _ => ra_int) (fun _ => rfl) (by decide) (by decide) (by decide) (Nat.le_of_ble_eq_true rfl) (Nat.le_of_ble_eq_true rfl) dM_init_31 (fun q4 => ?_)
  refine v_as (w' := [(b0, .inr (2, [.int 0, .int 0, .int 0, .int 0, .int 0, .int 0, .int 0, .int 0, .int 0, .int 0, .ref q1, .ref q2, .ref q3, .null, .null, .null, .null, .int 0])), (q1, .inl (cI, 14, .inl (fun _ => 0))), (q2, .inl (cI, 14, .inl (fun _ => 0))), (q3, .inl (cI, 14, .inl (fun _ => 0))), (q4, .inl (cI, 14, .inl (fun _ => 0)))]) (lv' := [(0, .ref b0), (1, .int x), (2, .int y)]) rfl rfl ?_
  refine v_putF C (T := TcM) (N := 18) (ci := 2) (v := .ref q4) inM_init_M tycM tycM_ok nmcM 0 rfl rfl 13 (by decide) (by decide +kernel) rfl rfl hm rfl rfl rfl (Nat.le_of_ble_eq_true rfl) dM_init_33 (w1 := [(b0, .inr (2, [.int 0, .int 0, .int 0, .int 0, .int 0, .int 0, .int 0, .int 0, .int 0, .int 0, .ref q1, .ref q2, .ref q3, .ref q4, .null, .null, .null, .int 0])), (q1, .inl (cI, 14, .inl (fun _ => 0))), (q2, .inl (cI, 14, .inl (fun _ => 0))), (q3, .inl (cI, 14, .inl (fun _ => 0))), (q4, .inl (cI, 14, .inl (fun _ => 0)))]) rfl ?_
  refine v_aload_n C 0 dM_init_36 rfl rfl ?_
  refine v_bipush C (v := 84) dM_init_37 (by decide) ?_
  refine v_newa C (ty := .int) (N' := 84) (a0 := (84, .inl (fun _ => 0))) rfl (by decide +kernel) 0 rfl (fun _ _ => ra_int) (fun _ => rfl) (by decide) (by decide) (by decide) (Nat.le_of_ble_eq_true rfl) (Nat.le_of_ble_eq_true rfl) dM_init_39 (fun q5 => ?_)
  refine v_as (w' := [(b0, .inr (2, [.int 0, .int 0, .int 0, .int 0, .int 0, .int 0, .int 0, .int 0, .int 0, .int 0, .ref q1, .ref q2, .ref q3, .ref q4, .null, .null, .null, .int 0])), (q1, .inl (cI, 14, .inl (fun _ => 0))), (q2, .inl (cI, 14, .inl (fun _ => 0))), (q3, .inl (cI, 14, .inl (fun _ => 0))), (q4, .inl (cI, 14, .inl (fun _ => 0))), (q5, .inl (cI, 84, .inl (fun _ => 0)))]) (lv' := [(0, .ref b0), (1, .int x), (2, .int y)]) rfl rfl ?_
  refine v_putF C (T := TcM) (N := 18) (ci := 2) (v := .ref q5) inM_init_M tycM tycM_ok nmcM 0 rfl rfl 14 (by decide) (by decide +kernel) rfl rfl hm rfl rfl rfl (Nat.le_of_ble_eq_true rfl) dM_init_41 (w1 := [(b0, .inr (2, [.int 0, .int 0, .int 0, .int 0, .int 0, .int 0, .int 0, .int 0, .int 0, .int 0, .ref q1, .ref q2, .ref q3, .ref q4, .ref q5, .null, .null, .int 0])), (q1, .inl (cI, 14, .inl (fun _ => 0))), (q2, .inl (cI, 14, .inl (fun _ => 0))), (q3, .inl (cI, 14, .inl (fun _ => 0))), (q4, .inl (cI, 14, .inl (fun _ => 0))), (q5, .inl (cI, 84, .inl (fun _ => 0)))]) rfl ?_
  refine v_aload_n C 0 dM_init_44 rfl rfl ?_
  refine v_bipush C (v := 6) dM_init_45 (by decide) ?_
  refine v_newa C (ty := .int) (N' := 6) (a0 := (6, .inl (fun _ => 0))) rfl (by decide +kernel) 0 rfl (fun _ _ => ra_int) (fun _ => rfl) (by decide) (by decide) (by decide) (Nat.le_of_ble_eq_true rfl) (Nat.le_of_ble_eq_true rfl) dM_init_47 (fun q6 => ?_)
  refine v_as (w' := [(b0, .inr (2, [.int 0, .int 0, .int 0, .int 0, .int 0, .int 0, .int 0, .int 0, .int 0, .int 0, .ref q1, .ref q2, .ref q3, .ref q4, .ref q5, .null, .null, .int 0])), (q1, .inl (cI, 14, .inl (fun _ => 0))), (q2, .inl (cI, 14, .inl (fun _ => 0))), (q3, .inl (cI, 14, .inl (fun _ => 0))), (q4, .inl (cI, 14, .inl (fun _ => 0))), (q5, .inl (cI, 84, .inl (fun _ => 0))), (q6, .inl (cI, 6, .inl (fun _ => 0)))]) (lv' := [(0, .ref b0), (1, .int x), (2, .int y)]) rfl rfl ?_
  refine v_putF C (T := TcM) (N := 18) (ci := 2) (v := .ref q6) inM_init_M tycM tycM_ok nmcM 0 rfl rfl 15 (by decide) (by decide +kernel) rfl rfl hm rfl rfl rfl (Nat.le_of_ble_eq_true rfl) dM_init_49 (w1 := [(b0, .inr (2, [.int 0, .int 0, .int 0, .int 0, .int 0, .int 0, .int 0, .int 0, .int 0, .int 0, .ref q1, .ref q2, .ref q3, .ref q4, .ref q5, .ref q6, .null, .int 0])), (q1, .inl (cI, 14, .inl (fun _ => 0))), (q2, .inl (cI, 14, .inl (fun _ => 0))), (q3, .inl (cI, 14, .inl (fun _ => 0))), (q4, .inl (cI, 14, .inl (fun _ => 0))), (q5, .inl (cI, 84, .inl (fun _ => 0))), (q6, .inl (cI, 6, .inl (fun _ => 0)))]) rfl ?_
  refine v_aload_n C 0 dM_init_52 rfl rfl ?_
  refine v_sipush C (v := 384) dM_init_53 (by decide) ?_
  refine v_newa C (ty := .boolean) (N' := 384) (a0 := (384, .inl (fun _ => 0))) rfl (by decide +kernel) 1 rfl (fun _ _ => ra_bool) (fun _ => rfl) (by decide) (by decide) (by decide) (Nat.le_of_ble_eq_true rfl) (Nat.le_of_ble_eq_true rfl) dM_init_56 (fun q7 => ?_)
  refine v_as (w' := [(b0, .inr (2, [.int 0, .int 0, .int 0, .int 0, .int 0, .int 0, .int 0, .int 0, .int 0, .int 0, .ref q1, .ref q2, .ref q3, .ref q4, .ref q5, .ref q6, .null, .int 0])), (q1, .inl (cI, 14, .inl (fun _ => 0))), (q2, .inl (cI, 14, .inl (fun _ => 0))), (q3, .inl (cI, 14, .inl (fun _ => 0))), (q4, .inl (cI, 14, .inl (fun _ => 0))), (q5, .inl (cI, 84, .inl (fun _ => 0))), (q6, .inl (cI, 6, .inl (fun _ => 0))), (q7, .inl (cZ, 384, .inl (fun _ => 0)))]) (lv' := [(0, .ref b0), (1, .int x), (2, .int y)]) rfl rfl ?_
  refine v_putF C (T := TcM) (N := 18) (ci := 2) (v := .ref q7) inM_init_M tycM tycM_ok nmcM 0 rfl rfl 16 (by decide) (by decide +kernel) rfl rfl hm rfl rfl rfl (Nat.le_of_ble_eq_true rfl) dM_init_58 (w1 := [(b0, .inr (2, [.int 0, .int 0, .int 0, .int 0, .int 0, .int 0, .int 0, .int 0, .int 0, .int 0, .ref q1, .ref q2, .ref q3, .ref q4, .ref q5, .ref q6, .ref q7, .int 0])), (q1, .inl (cI, 14, .inl (fun _ => 0))), (q2, .inl (cI, 14, .inl (fun _ => 0))), (q3, .inl (cI, 14, .inl (fun _ => 0))), (q4, .inl (cI, 14, .inl (fun _ => 0))), (q5, .inl (cI, 84, .inl (fun _ => 0))), (q6, .inl (cI, 6, .inl (fun _ => 0))), (q7, .inl (cZ, 384, .inl (fun _ => 0)))]) rfl ?_
  refine v_aload_n C 0 dM_init_61 rfl rfl ?_
  refine v_iconst C (v := 2) dM_init_62 (by decide) ?_
  refine v_iload_n C 1 dM_init_63 rfl rfl ?_
  refine v_bipush C (v := 7) dM_init_64 (by decide) ?_
  refine v_iand C dM_init_66 ?_
  refine v_iadd C dM_init_67 ?_
  refine v_bipush C (v := 6) dM_init_68 (by decide) ?_
  refine v_icmp_le C dM_init_70 (tgt := 78) (by decide) (fun h1 => ?_) (fun h1 => ?_)
  · skip
    refine v_iconst C (v := 2) dM_init_78 (by decide) ?_
    refine v_iload_n C 1 dM_init_79 rfl rfl ?_
    refine v_bipush C (v := 7) dM_init_80 (by decide) ?_
    refine v_iand C dM_init_82 ?_
    refine v_iadd C dM_init_83 ?_
    refine v_top (y := pNm x) (by unfold pNm; rw [if_pos h1]) ?_
    refine v_putF C (T := TcM) (N := 18) (ci := 2) (v := .int (pNm x)) inM_init_M tycM tycM_ok nmcM 0 rfl rfl 0 (by decide) (by decide +kernel) rfl rfl hm rfl rfl rfl (Nat.le_of_ble_eq_true rfl) dM_init_84 (w1 := [(b0, .inr (2, [.int (pNm x), .int 0, .int 0, .int 0, .int 0, .int 0, .int 0, .int 0, .int 0, .int 0, .ref q1, .ref q2, .ref q3, .ref q4, .ref q5, .ref q6, .ref q7, .int 0])), (q1, .inl (cI, 14, .inl (fun _ => 0))), (q2, .inl (cI, 14, .inl (fun _ => 0))), (q3, .inl (cI, 14, .inl (fun _ => 0))), (q4, .inl (cI, 14, .inl (fun _ => 0))), (q5, .inl (cI, 84, .inl (fun _ => 0))), (q6, .inl (cI, 6, .inl (fun _ => 0))), (q7, .inl (cZ, 384, .inl (fun _ => 0)))]) rfl ?_
    refine v_aload_n C 0 dM_init_87 rfl rfl ?_
    refine v_iconst C (v := 2) dM_init_88 (by decide) ?_
    refine v_iload_n C 2 dM_init_89 rfl rfl ?_
    refine v_bipush C (v := 7) dM_init_90 (by decide) ?_
    refine v_iand C dM_init_92 ?_
    refine v_iadd C dM_init_93 ?_
    refine v_putF C (T := TcM) (N := 18) (ci := 2) (v := .int ((2 : Int32) + ((y &&& (7 : Int32)) : Int32))) inM_init_M tycM tycM_ok nmcM 0 rfl rfl 1 (by decide) (by decide +kernel) rfl rfl hm rfl rfl rfl (Nat.le_of_ble_eq_true rfl) dM_init_94 (w1 := [(b0, .inr (2, [.int (pNm x), .int ((2 : Int32) + ((y &&& (7 : Int32)) : Int32)), .int 0, .int 0, .int 0, .int 0, .int 0, .int 0, .int 0, .int 0, .ref q1, .ref q2, .ref q3, .ref q4, .ref q5, .ref q6, .ref q7, .int 0])), (q1, .inl (cI, 14, .inl (fun _ => 0))), (q2, .inl (cI, 14, .inl (fun _ => 0))), (q3, .inl (cI, 14, .inl (fun _ => 0))), (q4, .inl (cI, 14, .inl (fun _ => 0))), (q5, .inl (cI, 84, .inl (fun _ => 0))), (q6, .inl (cI, 6, .inl (fun _ => 0))), (q7, .inl (cZ, 384, .inl (fun _ => 0)))]) rfl ?_
    exact v_vretU C hr (mk8 b0 q1 q2 q3 q4 q5 q6 q7) rfl rfl dM_init_97
  · skip
    refine v_bipush C (v := 6) dM_init_73 (by decide) ?_
    refine v_goto C dM_init_75 (tgt := 84) (by decide) ?_
    refine v_top (y := pNm x) (by unfold pNm; rw [if_neg h1]) ?_
    refine v_putF C (T := TcM) (N := 18) (ci := 2) (v := .int (pNm x)) inM_init_M tycM tycM_ok nmcM 0 rfl rfl 0 (by decide) (by decide +kernel) rfl rfl hm rfl rfl rfl (Nat.le_of_ble_eq_true rfl) dM_init_84 (w1 := [(b0, .inr (2, [.int (pNm x), .int 0, .int 0, .int 0, .int 0, .int 0, .int 0, .int 0, .int 0, .int 0, .ref q1, .ref q2, .ref q3, .ref q4, .ref q5, .ref q6, .ref q7, .int 0])), (q1, .inl (cI, 14, .inl (fun _ => 0))), (q2, .inl (cI, 14, .inl (fun _ => 0))), (q3, .inl (cI, 14, .inl (fun _ => 0))), (q4, .inl (cI, 14, .inl (fun _ => 0))), (q5, .inl (cI, 84, .inl (fun _ => 0))), (q6, .inl (cI, 6, .inl (fun _ => 0))), (q7, .inl (cZ, 384, .inl (fun _ => 0)))]) rfl ?_
    refine v_aload_n C 0 dM_init_87 rfl rfl ?_
    refine v_iconst C (v := 2) dM_init_88 (by decide) ?_
    refine v_iload_n C 2 dM_init_89 rfl rfl ?_
    refine v_bipush C (v := 7) dM_init_90 (by decide) ?_
    refine v_iand C dM_init_92 ?_
    refine v_iadd C dM_init_93 ?_
    refine v_putF C (T := TcM) (N := 18) (ci := 2) (v := .int ((2 : Int32) + ((y &&& (7 : Int32)) : Int32))) inM_init_M tycM tycM_ok nmcM 0 rfl rfl 1 (by decide) (by decide +kernel) rfl rfl hm rfl rfl rfl (Nat.le_of_ble_eq_true rfl) dM_init_94 (w1 := [(b0, .inr (2, [.int (pNm x), .int ((2 : Int32) + ((y &&& (7 : Int32)) : Int32)), .int 0, .int 0, .int 0, .int 0, .int 0, .int 0, .int 0, .int 0, .ref q1, .ref q2, .ref q3, .ref q4, .ref q5, .ref q6, .ref q7, .int 0])), (q1, .inl (cI, 14, .inl (fun _ => 0))), (q2, .inl (cI, 14, .inl (fun _ => 0))), (q3, .inl (cI, 14, .inl (fun _ => 0))), (q4, .inl (cI, 14, .inl (fun _ => 0))), (q5, .inl (cI, 84, .inl (fun _ => 0))), (q6, .inl (cI, 6, .inl (fun _ => 0))), (q7, .inl (cZ, 384, .inl (fun _ => 0)))]) rfl ?_
    exact v_vretU C hr (mk8 b0 q1 q2 q3 q4 q5 q6 q7) rfl rfl dM_init_97

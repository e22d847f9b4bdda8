set_option maxHeartbeats 4000000 in
set_option maxRecDepth 100000 in
theorem lc_arc {p : Program} {l : Launch} {e : Env} {s : State} {m : MethodId} {args : Array Value} {below : List Frame} {meth : Method} {c0 : Code} {D : va_G} {cI cZ cJ : ClassId} {A : Nat → Prop} {bs L : Nat} {xs : Nat → Int32} {Q : State → Prop} {bX bM : Nat → Nat} {o : Nat} {F : FT} {a : AT} {f : Nat → Int64} {G : FT} {c : AT} {cells slots n P E mm : Nat} (X0 : Lc p l s m args meth c0 D cI cZ cJ A bs L xs) (hc : cells + 1 ≤ room_1.cells) (hs : slots + 6 ≤ room_1.slots) {Rel : FT → AT → FT → AT → Prop} (hB : RB Rel n P E mm F a G c) (hF : FA_arc Rel) {i : Nat} (hi : i + 3 < L) (hL : L ≤ 2050) (kk : ∀ (F1 : FT) (a1 : AT) (f1 : Nat → Int64) (G1 : FT) (c1 : AT), Rel F1 a1 G1 c1 → vv p l e room_1 s m args below meth c0 7 D vwCl A vT (cells + 1) (slots + 6) Q (wLw cI cZ cJ bX bM o F1 a1 f1 G1 c1) (lvH bs bX bM o (nI i)) 863 []) : vv p l e room_1 s m args below meth c0 7 D vwCl A vT cells slots Q (wLw cI cZ cJ bX bM o F a f G c) (lvH bs bX bM o (nI i)) 136 [] := by
  have C := X0.1
  have hY := X0.2.1
  have hcs : cells ≤ room_1.cells ∧ slots ≤ room_1.slots := ⟨by omega, by omega⟩
  have hcs1 : cells + 1 ≤ room_1.cells ∧ slots + 6 ≤ room_1.slots := ⟨hc, hs⟩
  refine v_aload_n C 1 dL_law_136 rfl rfl ?_
  refine v_aload_n C 0 dL_law_137 rfl rfl ?_
  refine v_iload C 4 dL_law_138 rfl ?_
  refine v_iconst C (v := 1) dL_law_140 (by decide) ?_
  refine v_iadd C dL_law_141 ?_
  refine v_top (y := nI (i + 1)) (nI_add i 1) ?_
  refine v_sld C X0.2.2.1 X0.2.2.2.1 X0.2.2.2.2.1 (y9 := xs (i + 1)) (sl_i (by omega)) (vp_in_nI (by omega) (by omega)) dL_law_142 ?_
  refine v_aload_n C 0 dL_law_143 rfl rfl ?_
  refine v_iload C 4 dL_law_144 rfl ?_
  refine v_iconst C (v := 2) dL_law_146 (by decide) ?_
  refine v_iadd C dL_law_147 ?_
  refine v_top (y := nI (i + 2)) (nI_add i 2) ?_
  refine v_sld C X0.2.2.1 X0.2.2.2.1 X0.2.2.2.2.1 (y9 := xs (i + 2)) (sl_i (by omega)) (vp_in_nI (by omega) (by omega)) dL_law_148 ?_
  refine v_aload_n C 3 dL_law_149 rfl rfl ?_
  refine v_cH C hY (As := [.ref (bX 0), .int (xs (i + 1)), .int (xs (i + 2)), .ref o]) (wr := wM cI cZ bM G c) (w' := wLw cI cZ cJ bX bM o ((arcF F a (xs (i + 1)) (xs (i + 2))).2.2.1) ((arcF F a (xs (i + 1)) (xs (i + 2))).2.2.2) (outF ((arcF F a (xs (i + 1)) (xs (i + 2))).1) f ((arcF F a (xs (i + 1)) (xs (i + 2))).2.1)) G c) (c_h_arc l D cI cZ cJ bX F a o f n P (xs (i + 1)) (xs (i + 2)) hB.2.1 hB.2.2.1 hB.2.2.2.2.2.2.1 hB.2.2.2.2.1 X0.2.2.2.2.2) (vx_cwSW 4 C.2.2.2.2.1 gw_L_arc rfl rfl rfl (by decide +kernel) ⟨Nat.le_of_ble_eq_true rfl, Nat.le_of_ble_eq_true rfl⟩) rfl rfl (Nat.le_of_ble_eq_true rfl) hcs1 dL_law_150 [0, 1, 2, 3, 4, 5, 6, 7, 8] [9, 10, 11, 12, 13, 14, 15, 16] [8, 9, 10, 11, 12, 13, 14, 15, 16, 0, 1, 2, 3, 4, 5, 6, 7] rfl rfl rfl rfl (by decide) rfl rfl ?_
  refine v_istore C (lv' := [(0, .ref bs), (1, .ref (bX 0)), (2, .ref (bM 0)), (3, .ref o), (4, .int (nI i)), (5, .int (hcA ((arcF F a (xs (i + 1)) (xs (i + 2))).1)))]) [1, 2, 3, 4, 5, 0] dL_law_153 (by decide) rfl ?_
  refine v_aload_n C 2 dL_law_155 rfl rfl ?_
  refine v_aload_n C 0 dL_law_156 rfl rfl ?_
  refine v_iload C 4 dL_law_157 rfl ?_
  refine v_iconst C (v := 1) dL_law_159 (by decide) ?_
  refine v_iadd C dL_law_160 ?_
  refine v_top (y := nI (i + 1)) (nI_add i 1) ?_
  refine v_sld C X0.2.2.1 X0.2.2.2.1 X0.2.2.2.2.1 (y9 := xs (i + 1)) (sl_i (by omega)) (vp_in_nI (by omega) (by omega)) dL_law_161 ?_
  refine v_aload_n C 0 dL_law_162 rfl rfl ?_
  refine v_iload C 4 dL_law_163 rfl ?_
  refine v_iconst C (v := 2) dL_law_165 (by decide) ?_
  refine v_iadd C dL_law_166 ?_
  refine v_top (y := nI (i + 2)) (nI_add i 2) ?_
  refine v_sld C X0.2.2.1 X0.2.2.2.1 X0.2.2.2.2.1 (y9 := xs (i + 2)) (sl_i (by omega)) (vp_in_nI (by omega) (by omega)) dL_law_167 ?_
  refine v_cViP (As := [.int (xs (i + 1)), .int (xs (i + 2))]) C (wr := wX cI bX ((arcF F a (xs (i + 1)) (xs (i + 2))).2.2.1) ((arcF F a (xs (i + 1)) (xs (i + 2))).2.2.2) ++ wO cJ o (outF ((arcF F a (xs (i + 1)) (xs (i + 2))).1) f ((arcF F a (xs (i + 1)) (xs (i + 2))).2.1))) (w' := wLw cI cZ cJ bX bM o ((arcF F a (xs (i + 1)) (xs (i + 2))).2.2.1) ((arcF F a (xs (i + 1)) (xs (i + 2))).2.2.2) (outF ((arcF F a (xs (i + 1)) (xs (i + 2))).1) f ((arcF F a (xs (i + 1)) (xs (i + 2))).2.1)) ((mArc G c (xs (i + 1)) (xs (i + 2))).2.1) ((mArc G c (xs (i + 1)) (xs (i + 2))).2.2)) (c_mArc l D cI cZ cJ bM G c n P (xs (i + 1)) (xs (i + 2)) hB.2.2.2.2.2.2.2.2.2.1 hB.2.2.1 hB.2.2.2.2.2.2.2.2.2.2.1 hB.2.2.2.2.1) (cwV 2 C.2.2.2.2.1 gw_M_arc rfl rfl rfl (by decide +kernel) ⟨Nat.le_of_ble_eq_true rfl, Nat.le_of_ble_eq_true rfl⟩) 0 rfl (T := TcM) (N := 18) rfl rfl rfl (Nat.le_of_ble_eq_true rfl) hcs1 dL_law_168 [9, 10, 11, 12, 13, 14, 15, 16] [0, 1, 2, 3, 4, 5, 6, 7, 8] [0, 1, 2, 3, 4, 5, 6, 7, 8, 9, 10, 11, 12, 13, 14, 15, 16] rfl rfl rfl rfl (by decide) rfl rfl ?_
  have hf := hF n P E mm F a G c (xs (i + 1)) (xs (i + 2)) hB
  refine v_istore C (lv' := [(0, .ref bs), (1, .ref (bX 0)), (2, .ref (bM 0)), (3, .ref o), (4, .int (nI i)), (5, .int (hcA ((arcF F a (xs (i + 1)) (xs (i + 2))).1))), (6, .int ((mArc G c (xs (i + 1)) (xs (i + 2))).1))]) [1, 2, 3, 4, 5, 6, 0] dL_law_171 (by decide) rfl ?_
  refine v_aload_n C 2 dL_law_173 rfl rfl ?_
  refine v_cVr (As := []) C (c_mThrown l D cI cZ cJ bM ((mArc G c (xs (i + 1)) (xs (i + 2))).2.1) ((mArc G c (xs (i + 1)) (xs (i + 2))).2.2)) (cwV 0 C.2.2.2.2.1 gw_M_thrown rfl rfl rfl (by decide +kernel) ⟨Nat.le_of_ble_eq_true rfl, Nat.le_of_ble_eq_true rfl⟩) 0 rfl (T := TcM) (N := 18) rfl rfl rfl (Nat.le_of_ble_eq_true rfl) hcs1 dL_law_174 [9, 10, 11, 12, 13, 14, 15, 16] rfl rfl ?_
  refine v_iload C 5 dL_law_177 rfl ?_
  refine v_icmp_eq C dL_law_179 (tgt := 184) (by decide) (fun _ => ?_) (fun h => absurd hf.1 h)
  refine v_iload C 5 dL_law_184 rfl ?_
  refine v_if_ne C dL_law_186 (tgt := 201) (by decide) (fun _ => ?_) (fun hk => ?_)
  · skip
    refine v_goto C dL_law_201 (tgt := 863) (by decide) ?_
    refine v_loc (lv' := lvH bs bX bM o (nI i)) [0, 1, 2, 3, 4] rfl ?_
    exact kk _ _ _ _ _ hf.2.2
  · skip
    have hk0 : (arcF F a (xs (i + 1)) (xs (i + 2))).1 = 0 := by
      rcases arcF_cases F a (xs (i + 1)) (xs (i + 2)) with h0 | h0 | h0
      · exact h0
      · rw [h0] at hk; exact absurd hk (show ¬ hcA 1 = 0 by decide)
      · rw [h0] at hk; exact absurd hk (show ¬ hcA 2 = 0 by decide)
    refine v_aload_n C 3 dL_law_189 rfl rfl ?_
    refine v_iconst C (v := 0) dL_law_190 (by decide) ?_
    refine v_lald C 8 2 (j := (0 : Int32).toNatClampNeg) (y := ((arcF F a (xs (i + 1)) (xs (i + 2))).2.1).toInt64) rfl rfl rfl (outF_0 hk0) (by unfold vp_in; decide) dL_law_191 ?_
    refine v_iload C 6 dL_law_192 rfl ?_
    refine v_i2l C dL_law_194 ?_
    refine v_lcmp C dL_law_195 ?_
    refine v_if_eq C dL_law_196 (tgt := 201) (by decide) (fun _ => ?_) (fun h => absurd (by rw [hf.2.1 hk0]; exact lg_self _) h)
    refine v_goto C dL_law_201 (tgt := 863) (by decide) ?_
    refine v_loc (lv' := lvH bs bX bM o (nI i)) [0, 1, 2, 3, 4] rfl ?_
    exact kk _ _ _ _ _ hf.2.2
set_option maxHeartbeats 4000000 in
set_option maxRecDepth 100000 in
theorem lc_plan {p : Program} {l : Launch} {e : Env} {s : State} {m : MethodId} {args : Array Value} {below : List Frame} {meth : Method} {c0 : Code} {D : va_G} {cI cZ cJ : ClassId} {A : Nat → Prop} {bs L : Nat} {xs : Nat → Int32} {Q : State → Prop} {bX bM : Nat → Nat} {o : Nat} {F : FT} {a : AT} {f : Nat → Int64} {G : FT} {c : AT} {cells slots n P E mm : Nat} (X0 : Lc p l s m args meth c0 D cI cZ cJ A bs L xs) (hc : cells + 1 ≤ room_1.cells) (hs : slots + 6 ≤ room_1.slots) {Rel : FT → AT → FT → AT → Prop} (hB : RB Rel n P E mm F a G c) (hF : FA_plan Rel) {i : Nat} (hi : i + 3 < L) (hL : L ≤ 2050) (kk : ∀ (F1 : FT) (a1 : AT) (f1 : Nat → Int64) (G1 : FT) (c1 : AT), Rel F1 a1 G1 c1 → vv p l e room_1 s m args below meth c0 7 D vwCl A vT (cells + 1) (slots + 6) Q (wLw cI cZ cJ bX bM o F1 a1 f1 G1 c1) (lvH bs bX bM o (nI i)) 863 []) : vv p l e room_1 s m args below meth c0 7 D vwCl A vT cells slots Q (wLw cI cZ cJ bX bM o F a f G c) (lvH bs bX bM o (nI i)) 204 [] := by
  have C := X0.1
  have hY := X0.2.1
  have hcs : cells ≤ room_1.cells ∧ slots ≤ room_1.slots := ⟨by omega, by omega⟩
  have hcs1 : cells + 1 ≤ room_1.cells ∧ slots + 6 ≤ room_1.slots := ⟨hc, hs⟩
  refine v_aload_n C 1 dL_law_204 rfl rfl ?_
  refine v_aload_n C 3 dL_law_205 rfl rfl ?_
  refine v_cH C hY (As := [.ref (bX 0), .ref o]) (wr := wM cI cZ bM G c) (w' := wLw cI cZ cJ bX bM o ((planF F a P E).2.2) a (outF ((planF F a P E).1) f ((planF F a P E).2.1)) G c) (c_h_plan l D cI cZ cJ bX F a o f P E hB.2.2.2.2.2.2.1 hB.2.2.2.2.1 hB.2.2.2.2.2.1 hB.2.2.2.2.2.2.2.1 hB.2.2.2.2.2.2.2.2.1 X0.2.2.2.2.2) (vx_cwSW 2 C.2.2.2.2.1 gw_L_plan rfl rfl rfl (by decide +kernel) ⟨Nat.le_of_ble_eq_true rfl, Nat.le_of_ble_eq_true rfl⟩) rfl rfl (Nat.le_of_ble_eq_true rfl) hcs1 dL_law_206 [0, 1, 2, 3, 4, 5, 6, 7, 8] [9, 10, 11, 12, 13, 14, 15, 16] [8, 9, 10, 11, 12, 13, 14, 15, 16, 0, 1, 2, 3, 4, 5, 6, 7] rfl rfl rfl rfl (by decide) rfl rfl ?_
  refine v_istore C (lv' := [(0, .ref bs), (1, .ref (bX 0)), (2, .ref (bM 0)), (3, .ref o), (4, .int (nI i)), (5, .int (hcP ((planF F a P E).1)))]) [1, 2, 3, 4, 5, 0] dL_law_209 (by decide) rfl ?_
  refine v_aload_n C 2 dL_law_211 rfl rfl ?_
  refine v_cViP (As := []) C (wr := wX cI bX ((planF F a P E).2.2) a ++ wO cJ o (outF ((planF F a P E).1) f ((planF F a P E).2.1))) (w' := wLw cI cZ cJ bX bM o ((planF F a P E).2.2) a (outF ((planF F a P E).1) f ((planF F a P E).2.1)) ((mPlan G c P).2.1) ((mPlan G c P).2.2)) (c_mPlan l D cI cZ cJ bM G c P hB.2.2.2.2.2.2.2.2.2.2.1 hB.2.2.2.2.1) (cwV 0 C.2.2.2.2.1 gw_M_plan rfl rfl rfl (by decide +kernel) ⟨Nat.le_of_ble_eq_true rfl, Nat.le_of_ble_eq_true rfl⟩) 0 rfl (T := TcM) (N := 18) rfl rfl rfl (Nat.le_of_ble_eq_true rfl) hcs1 dL_law_212 [9, 10, 11, 12, 13, 14, 15, 16] [0, 1, 2, 3, 4, 5, 6, 7, 8] [0, 1, 2, 3, 4, 5, 6, 7, 8, 9, 10, 11, 12, 13, 14, 15, 16] rfl rfl rfl rfl (by decide) rfl rfl ?_
  have hf := hF n P E mm F a G c hB
  refine v_istore C (lv' := [(0, .ref bs), (1, .ref (bX 0)), (2, .ref (bM 0)), (3, .ref o), (4, .int (nI i)), (5, .int (hcP ((planF F a P E).1))), (6, .int ((mPlan G c P).1))]) [1, 2, 3, 4, 5, 6, 0] dL_law_215 (by decide) rfl ?_
  refine v_aload_n C 2 dL_law_217 rfl rfl ?_
  refine v_cVr (As := []) C (c_mThrown l D cI cZ cJ bM ((mPlan G c P).2.1) ((mPlan G c P).2.2)) (cwV 0 C.2.2.2.2.1 gw_M_thrown rfl rfl rfl (by decide +kernel) ⟨Nat.le_of_ble_eq_true rfl, Nat.le_of_ble_eq_true rfl⟩) 0 rfl (T := TcM) (N := 18) rfl rfl rfl (Nat.le_of_ble_eq_true rfl) hcs1 dL_law_218 [9, 10, 11, 12, 13, 14, 15, 16] rfl rfl ?_
  refine v_iload C 5 dL_law_221 rfl ?_
  refine v_icmp_eq C dL_law_223 (tgt := 228) (by decide) (fun _ => ?_) (fun h => absurd hf.1 h)
  refine v_iload C 5 dL_law_228 rfl ?_
  refine v_if_ne C dL_law_230 (tgt := 245) (by decide) (fun _ => ?_) (fun hk => ?_)
  · skip
    refine v_goto C dL_law_245 (tgt := 863) (by decide) ?_
    refine v_loc (lv' := lvH bs bX bM o (nI i)) [0, 1, 2, 3, 4] rfl ?_
    exact kk _ _ _ _ _ hf.2.2
  · skip
    have hk0 : (planF F a P E).1 = 0 := by
      rcases planF_cases F a P E with h0 | h0 | h0
      · exact h0
      · rw [h0] at hk; exact absurd hk (show ¬ hcP 3 = 0 by decide)
      · rw [h0] at hk; exact absurd hk (show ¬ hcP 2 = 0 by decide)
    refine v_aload_n C 3 dL_law_233 rfl rfl ?_
    refine v_iconst C (v := 0) dL_law_234 (by decide) ?_
    refine v_lald C 8 2 (j := (0 : Int32).toNatClampNeg) (y := ((planF F a P E).2.1).toInt64) rfl rfl rfl (outF_0 hk0) (by unfold vp_in; decide) dL_law_235 ?_
    refine v_iload C 6 dL_law_236 rfl ?_
    refine v_i2l C dL_law_238 ?_
    refine v_lcmp C dL_law_239 ?_
    refine v_if_eq C dL_law_240 (tgt := 245) (by decide) (fun _ => ?_) (fun h => absurd (by rw [hf.2.1 hk0]; exact lg_self _) h)
    refine v_goto C dL_law_245 (tgt := 863) (by decide) ?_
    refine v_loc (lv' := lvH bs bX bM o (nI i)) [0, 1, 2, 3, 4] rfl ?_
    exact kk _ _ _ _ _ hf.2.2
set_option maxHeartbeats 4000000 in
set_option maxRecDepth 100000 in
theorem lc_leaders {p : Program} {l : Launch} {e : Env} {s : State} {m : MethodId} {args : Array Value} {below : List Frame} {meth : Method} {c0 : Code} {D : va_G} {cI cZ cJ : ClassId} {A : Nat → Prop} {bs L : Nat} {xs : Nat → Int32} {Q : State → Prop} {bX bM : Nat → Nat} {o : Nat} {F : FT} {a : AT} {f : Nat → Int64} {G : FT} {c : AT} {cells slots n P E mm : Nat} (X0 : Lc p l s m args meth c0 D cI cZ cJ A bs L xs) (hc : cells + 1 ≤ room_1.cells) (hs : slots + 6 ≤ room_1.slots) {Rel : FT → AT → FT → AT → Prop} (hB : RB Rel n P E mm F a G c) (hF : FA_leaders Rel) {i : Nat} (hi : i + 3 < L) (hL : L ≤ 2050) (kk : ∀ (F1 : FT) (a1 : AT) (f1 : Nat → Int64) (G1 : FT) (c1 : AT), Rel F1 a1 G1 c1 → vv p l e room_1 s m args below meth c0 7 D vwCl A vT (cells + 1) (slots + 6) Q (wLw cI cZ cJ bX bM o F1 a1 f1 G1 c1) (lvH bs bX bM o (nI i)) 863 []) : vv p l e room_1 s m args below meth c0 7 D vwCl A vT cells slots Q (wLw cI cZ cJ bX bM o F a f G c) (lvH bs bX bM o (nI i)) 248 [] := by
  have C := X0.1
  have hY := X0.2.1
  have hcs : cells ≤ room_1.cells ∧ slots ≤ room_1.slots := ⟨by omega, by omega⟩
  have hcs1 : cells + 1 ≤ room_1.cells ∧ slots + 6 ≤ room_1.slots := ⟨hc, hs⟩
  refine v_aload_n C 1 dL_law_248 rfl rfl ?_
  refine v_cVr (As := []) C (c_leadersF l D cI cZ cJ bX F a  ) (cwV 0 C.2.2.2.2.1 gw_X_leaders rfl rfl rfl (by decide +kernel) ⟨Nat.le_of_ble_eq_true rfl, Nat.le_of_ble_eq_true rfl⟩) 0 rfl (T := TcX) (N := 16) rfl rfl rfl (Nat.le_of_ble_eq_true rfl) hcs dL_law_249 [0, 1, 2, 3, 4, 5, 6, 7] rfl rfl ?_
  refine v_aload_n C 2 dL_law_252 rfl rfl ?_
  refine v_cViP (As := []) C (wr := wX cI bX F a ++ wO cJ o f) (w' := wLw cI cZ cJ bX bM o F a f ((mLeaders G c).2) c) (c_mLeaders l D cI cZ cJ bM G c  ) (cwV 0 C.2.2.2.2.1 gw_M_leaders rfl rfl rfl (by decide +kernel) ⟨Nat.le_of_ble_eq_true rfl, Nat.le_of_ble_eq_true rfl⟩) 0 rfl (T := TcM) (N := 18) rfl rfl rfl (Nat.le_of_ble_eq_true rfl) hcs dL_law_253 [9, 10, 11, 12, 13, 14, 15, 16] [0, 1, 2, 3, 4, 5, 6, 7, 8] [0, 1, 2, 3, 4, 5, 6, 7, 8, 9, 10, 11, 12, 13, 14, 15, 16] rfl rfl rfl rfl (by decide) rfl rfl ?_
  have hf := hF n P E mm F a G c hB
  refine v_icmp_eq C dL_law_256 (tgt := 863) (by decide) (fun _ => ?_) (fun h => absurd hf.1 h)
  refine v_widen (Nat.le_succ _) (Nat.le_add_right _ 6) ?_
  exact kk _ _ _ _ _ hf.2
set_option maxHeartbeats 4000000 in
set_option maxRecDepth 100000 in
theorem lc_conform {p : Program} {l : Launch} {e : Env} {s : State} {m : MethodId} {args : Array Value} {below : List Frame} {meth : Method} {c0 : Code} {D : va_G} {cI cZ cJ : ClassId} {A : Nat → Prop} {bs L : Nat} {xs : Nat → Int32} {Q : State → Prop} {bX bM : Nat → Nat} {o : Nat} {F : FT} {a : AT} {f : Nat → Int64} {G : FT} {c : AT} {cells slots n P E mm : Nat} (X0 : Lc p l s m args meth c0 D cI cZ cJ A bs L xs) (hc : cells + 1 ≤ room_1.cells) (hs : slots + 6 ≤ room_1.slots) {Rel : FT → AT → FT → AT → Prop} (hB : RB Rel n P E mm F a G c) (hF : FA_conform Rel) {i : Nat} (hi : i + 3 < L) (hL : L ≤ 2050) (kk : ∀ (F1 : FT) (a1 : AT) (f1 : Nat → Int64) (G1 : FT) (c1 : AT), Rel F1 a1 G1 c1 → vv p l e room_1 s m args below meth c0 7 D vwCl A vT (cells + 1) (slots + 6) Q (wLw cI cZ cJ bX bM o F1 a1 f1 G1 c1) (lvH bs bX bM o (nI i)) 863 []) : vv p l e room_1 s m args below meth c0 7 D vwCl A vT cells slots Q (wLw cI cZ cJ bX bM o F a f G c) (lvH bs bX bM o (nI i)) 261 [] := by
  have C := X0.1
  have hY := X0.2.1
  have hcs : cells ≤ room_1.cells ∧ slots ≤ room_1.slots := ⟨by omega, by omega⟩
  have hcs1 : cells + 1 ≤ room_1.cells ∧ slots + 6 ≤ room_1.slots := ⟨hc, hs⟩
  refine v_aload_n C 1 dL_law_261 rfl rfl ?_
  refine v_aload_n C 0 dL_law_262 rfl rfl ?_
  refine v_iload C 4 dL_law_263 rfl ?_
  refine v_iconst C (v := 1) dL_law_265 (by decide) ?_
  refine v_iadd C dL_law_266 ?_
  refine v_top (y := nI (i + 1)) (nI_add i 1) ?_
  refine v_sld C X0.2.2.1 X0.2.2.2.1 X0.2.2.2.2.1 (y9 := xs (i + 1)) (sl_i (by omega)) (vp_in_nI (by omega) (by omega)) dL_law_267 ?_
  refine v_aload_n C 0 dL_law_268 rfl rfl ?_
  refine v_iload C 4 dL_law_269 rfl ?_
  refine v_iconst C (v := 2) dL_law_271 (by decide) ?_
  refine v_iadd C dL_law_272 ?_
  refine v_top (y := nI (i + 2)) (nI_add i 2) ?_
  refine v_sld C X0.2.2.1 X0.2.2.2.1 X0.2.2.2.2.1 (y9 := xs (i + 2)) (sl_i (by omega)) (vp_in_nI (by omega) (by omega)) dL_law_273 ?_
  refine v_if_eq C dL_law_274 (tgt := 281) (by decide) (fun hz => ?_) (fun hz => ?_)
  · skip
    refine v_iconst C (v := 0) dL_law_281 (by decide) ?_
    refine v_cViP (As := [.int (xs (i + 1)), .int 0]) C (wr := wO cJ o f ++ wM cI cZ bM G c) (w' := wLw cI cZ cJ bX bM o ((conformF F a (xs (i + 1)) 0).2) a f G c) (c_conformF l D cI cZ cJ bX F a (xs (i + 1)) 0 ) (cwV 2 C.2.2.2.2.1 gw_X_conform rfl rfl rfl (by decide +kernel) ⟨Nat.le_of_ble_eq_true rfl, Nat.le_of_ble_eq_true rfl⟩) 0 rfl (T := TcX) (N := 16) rfl rfl rfl (Nat.le_of_ble_eq_true rfl) hcs dL_law_282 [0, 1, 2, 3, 4, 5, 6, 7] [8, 9, 10, 11, 12, 13, 14, 15, 16] [9, 10, 11, 12, 13, 14, 15, 16, 0, 1, 2, 3, 4, 5, 6, 7, 8] rfl rfl rfl rfl (by decide) rfl rfl ?_
    refine v_aload_n C 2 dL_law_285 rfl rfl ?_
    refine v_aload_n C 0 dL_law_286 rfl rfl ?_
    refine v_iload C 4 dL_law_287 rfl ?_
    refine v_iconst C (v := 1) dL_law_289 (by decide) ?_
    refine v_iadd C dL_law_290 ?_
    refine v_top (y := nI (i + 1)) (nI_add i 1) ?_
    refine v_sld C X0.2.2.1 X0.2.2.2.1 X0.2.2.2.2.1 (y9 := xs (i + 1)) (sl_i (by omega)) (vp_in_nI (by omega) (by omega)) dL_law_291 ?_
    refine v_aload_n C 0 dL_law_292 rfl rfl ?_
    refine v_iload C 4 dL_law_293 rfl ?_
    refine v_iconst C (v := 2) dL_law_295 (by decide) ?_
    refine v_iadd C dL_law_296 ?_
    refine v_top (y := nI (i + 2)) (nI_add i 2) ?_
    refine v_sld C X0.2.2.1 X0.2.2.2.1 X0.2.2.2.2.1 (y9 := xs (i + 2)) (sl_i (by omega)) (vp_in_nI (by omega) (by omega)) dL_law_297 ?_
    refine v_if_eq C dL_law_298 (tgt := 305) (by decide) (fun _ => ?_) (fun h => absurd hz h)
    refine v_iconst C (v := 0) dL_law_305 (by decide) ?_
    refine v_cViP (As := [.int (xs (i + 1)), .int 0]) C (wr := wX cI bX ((conformF F a (xs (i + 1)) 0).2) a ++ wO cJ o f) (w' := wLw cI cZ cJ bX bM o ((conformF F a (xs (i + 1)) 0).2) a f ((mConform G c (xs (i + 1)) 0).2) c) (c_mConform l D cI cZ cJ bM G c (xs (i + 1)) 0 ) (cwV 2 C.2.2.2.2.1 gw_M_conform rfl rfl rfl (by decide +kernel) ⟨Nat.le_of_ble_eq_true rfl, Nat.le_of_ble_eq_true rfl⟩) 0 rfl (T := TcM) (N := 18) rfl rfl rfl (Nat.le_of_ble_eq_true rfl) hcs dL_law_306 [9, 10, 11, 12, 13, 14, 15, 16] [0, 1, 2, 3, 4, 5, 6, 7, 8] [0, 1, 2, 3, 4, 5, 6, 7, 8, 9, 10, 11, 12, 13, 14, 15, 16] rfl rfl rfl rfl (by decide) rfl rfl ?_
    have hf := hF n P E mm F a G c (xs (i + 1)) 0 hB (Or.inl rfl)
    refine v_icmp_eq C dL_law_309 (tgt := 863) (by decide) (fun _ => ?_) (fun h => absurd hf.1 h)
    refine v_widen (Nat.le_succ _) (Nat.le_add_right _ 6) ?_
    exact kk _ _ _ _ _ hf.2
  · skip
    refine v_iconst C (v := 1) dL_law_277 (by decide) ?_
    refine v_goto C dL_law_278 (tgt := 282) (by decide) ?_
    refine v_cViP (As := [.int (xs (i + 1)), .int 1]) C (wr := wO cJ o f ++ wM cI cZ bM G c) (w' := wLw cI cZ cJ bX bM o ((conformF F a (xs (i + 1)) 1).2) a f G c) (c_conformF l D cI cZ cJ bX F a (xs (i + 1)) 1 ) (cwV 2 C.2.2.2.2.1 gw_X_conform rfl rfl rfl (by decide +kernel) ⟨Nat.le_of_ble_eq_true rfl, Nat.le_of_ble_eq_true rfl⟩) 0 rfl (T := TcX) (N := 16) rfl rfl rfl (Nat.le_of_ble_eq_true rfl) hcs dL_law_282 [0, 1, 2, 3, 4, 5, 6, 7] [8, 9, 10, 11, 12, 13, 14, 15, 16] [9, 10, 11, 12, 13, 14, 15, 16, 0, 1, 2, 3, 4, 5, 6, 7, 8] rfl rfl rfl rfl (by decide) rfl rfl ?_
    refine v_aload_n C 2 dL_law_285 rfl rfl ?_
    refine v_aload_n C 0 dL_law_286 rfl rfl ?_
    refine v_iload C 4 dL_law_287 rfl ?_
    refine v_iconst C (v := 1) dL_law_289 (by decide) ?_
    refine v_iadd C dL_law_290 ?_
    refine v_top (y := nI (i + 1)) (nI_add i 1) ?_
    refine v_sld C X0.2.2.1 X0.2.2.2.1 X0.2.2.2.2.1 (y9 := xs (i + 1)) (sl_i (by omega)) (vp_in_nI (by omega) (by omega)) dL_law_291 ?_
    refine v_aload_n C 0 dL_law_292 rfl rfl ?_
    refine v_iload C 4 dL_law_293 rfl ?_
    refine v_iconst C (v := 2) dL_law_295 (by decide) ?_
    refine v_iadd C dL_law_296 ?_
    refine v_top (y := nI (i + 2)) (nI_add i 2) ?_
    refine v_sld C X0.2.2.1 X0.2.2.2.1 X0.2.2.2.2.1 (y9 := xs (i + 2)) (sl_i (by omega)) (vp_in_nI (by omega) (by omega)) dL_law_297 ?_
    refine v_if_eq C dL_law_298 (tgt := 305) (by decide) (fun h => absurd h hz) (fun _ => ?_)
    refine v_iconst C (v := 1) dL_law_301 (by decide) ?_
    refine v_goto C dL_law_302 (tgt := 306) (by decide) ?_
    refine v_cViP (As := [.int (xs (i + 1)), .int 1]) C (wr := wX cI bX ((conformF F a (xs (i + 1)) 1).2) a ++ wO cJ o f) (w' := wLw cI cZ cJ bX bM o ((conformF F a (xs (i + 1)) 1).2) a f ((mConform G c (xs (i + 1)) 1).2) c) (c_mConform l D cI cZ cJ bM G c (xs (i + 1)) 1 ) (cwV 2 C.2.2.2.2.1 gw_M_conform rfl rfl rfl (by decide +kernel) ⟨Nat.le_of_ble_eq_true rfl, Nat.le_of_ble_eq_true rfl⟩) 0 rfl (T := TcM) (N := 18) rfl rfl rfl (Nat.le_of_ble_eq_true rfl) hcs dL_law_306 [9, 10, 11, 12, 13, 14, 15, 16] [0, 1, 2, 3, 4, 5, 6, 7, 8] [0, 1, 2, 3, 4, 5, 6, 7, 8, 9, 10, 11, 12, 13, 14, 15, 16] rfl rfl rfl rfl (by decide) rfl rfl ?_
    have hf := hF n P E mm F a G c (xs (i + 1)) 1 hB (Or.inr rfl)
    refine v_icmp_eq C dL_law_309 (tgt := 863) (by decide) (fun _ => ?_) (fun h => absurd hf.1 h)
    refine v_widen (Nat.le_succ _) (Nat.le_add_right _ 6) ?_
    exact kk _ _ _ _ _ hf.2

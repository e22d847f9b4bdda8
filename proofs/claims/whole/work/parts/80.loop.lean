set_option maxHeartbeats 4000000 in
set_option maxRecDepth 100000 in
theorem law_loop {p : Program} {l : Launch} {e : Env} {s : State} {m : MethodId} {args : Array Value} {below : List Frame} {meth : Method} {c0 : Code} {D : va_G} {cI cZ cJ : ClassId} {A : Nat → Prop} {bs L : Nat} {xs : Nat → Int32} {Q : State → Prop} {bX bM : Nat → Nat} {o : Nat} (X0 : Lc p l s m args meth c0 D cI cZ cJ A bs L xs) (hL : L ≤ 2050) {Rel : FT → AT → FT → AT → Prop} (hBase : BaseF Rel) (hF : FAall Rel)
    (kend : ∀ (cells slots : Nat) (w : va_W) (lv : List (Nat × Value)), cells ≤ 600 → slots ≤ 5000 → vv p l e room_1 s m args below meth c0 7 D vwCl A vT cells slots Q w lv 869 []) :
    ∀ (k j : Nat), j + k = 513 → ∀ (F : FT) (a : AT) (f : Nat → Int64) (G : FT) (c : AT), Rel F a G c → vv p l e room_1 s m args below meth c0 7 D vwCl A vT (17 + j) (714 + 6 * j) Q (wLw cI cZ cJ bX bM o F a f G c) (lvH bs bX bM o (nI (2 + 4 * j))) 43 [] := by
  have C := X0.1
  intro k
  induction k with
  | zero =>
    intro j hj F a f G c hR
    refine v_iload C 4 dL_law_43 rfl ?_
    refine v_aload_n C 0 dL_law_45 rfl rfl ?_
    refine v_slen C X0.2.2.1 X0.2.2.2.1 X0.2.2.2.2.1 dL_law_46 ?_
    refine v_iconst C (v := 4) dL_law_47 (by decide) ?_
    refine v_isub C dL_law_48 ?_
    refine v_icmp_gt C dL_law_49 (tgt := 869) (by decide) (fun _ => ?_) (fun h => ?_)
    · exact kend _ _ _ _ (by omega) (by omega)
    · have := lt_sub4 hL (by omega) h
      omega
  | succ k ih =>
    intro j hj F a f G c hR
    refine v_iload C 4 dL_law_43 rfl ?_
    refine v_aload_n C 0 dL_law_45 rfl rfl ?_
    refine v_slen C X0.2.2.1 X0.2.2.2.1 X0.2.2.2.2.1 dL_law_46 ?_
    refine v_iconst C (v := 4) dL_law_47 (by decide) ?_
    refine v_isub C dL_law_48 ?_
    refine v_icmp_gt C dL_law_49 (tgt := 869) (by decide) (fun _ => ?_) (fun h => ?_)
    · exact kend _ _ _ _ (by omega) (by omega)
    · have hi4 := lt_sub4 hL (by omega) h
      have hi : 2 + 4 * j + 3 < L := by omega
      obtain ⟨n, P, E, mm, hB⟩ := hBase F a G c hR
      have hc : 17 + j + 1 ≤ room_1.cells := by show 17 + j + 1 ≤ 601024; omega
      have hs : 714 + 6 * j + 6 ≤ room_1.slots := by show 714 + 6 * j + 6 ≤ 7292999; omega
      have kk : ∀ (F1 : FT) (a1 : AT) (f1 : Nat → Int64) (G1 : FT) (c1 : AT), Rel F1 a1 G1 c1 → vv p l e room_1 s m args below meth c0 7 D vwCl A vT (17 + j + 1) (714 + 6 * j + 6) Q (wLw cI cZ cJ bX bM o F1 a1 f1 G1 c1) (lvH bs bX bM o (nI (2 + 4 * j))) 863 [] := by
        intro F1 a1 f1 G1 c1 hR1
        refine v_iinc C (v := nI (2 + 4 * (j + 1))) (lv' := lvH bs bX bM o (nI (2 + 4 * (j + 1)))) 4 [1, 2, 3, 4, 0] dL_law_863 rfl (nI_add (2 + 4 * j) 4) (by decide) rfl ?_
        refine v_goto C dL_law_866 (tgt := 43) (by decide) ?_
        have h9 := ih (j + 1) (by omega) F1 a1 f1 G1 c1 hR1
        rw [show 714 + 6 * (j + 1) = 714 + 6 * j + 6 by omega, show 17 + (j + 1) = 17 + j + 1 by omega] at h9
        exact h9
      refine v_aload_n C 0 dL_law_52 rfl rfl ?_
      refine v_iload C 4 dL_law_53 rfl ?_
      refine v_sld C X0.2.2.1 X0.2.2.2.1 X0.2.2.2.2.1 (y9 := xs (2 + 4 * j)) (sl_i (by omega)) (vp_in_nI (by omega) (by omega)) dL_law_55 ?_
      refine v_bipush C (v := 15) dL_law_56 (by decide) ?_
      refine v_iand C dL_law_58 ?_
      obtain ⟨q, hq, hqe⟩ := and15 (xs (2 + 4 * j))
      have hq2 : q = 0 ∨ q = 1 ∨ q = 2 ∨ q = 3 ∨ q = 4 ∨ q = 5 ∨ q = 6 ∨ q = 7 ∨ q = 8 ∨ q = 9 ∨ q = 10 ∨ q = 11 ∨ q = 12 ∨ q = 13 ∨ q = 14 ∨ q = 15 := by omega
      rcases hq2 with rfl | rfl | rfl | rfl | rfl | rfl | rfl | rfl | rfl | rfl | rfl | rfl | rfl | rfl | rfl | rfl
      · refine v_top (y := 0) hqe ?_
        refine v_tsw C dL_law_59 (off := 77) (tgt := 136) (by decide) (by decide) (by decide) (by decide) ?_
        exact lc_arc X0 hc hs hB hF.1 hi hL kk
      · refine v_top (y := 1) hqe ?_
        refine v_tsw C dL_law_59 (off := 145) (tgt := 204) (by decide) (by decide) (by decide) (by decide) ?_
        exact lc_plan X0 hc hs hB hF.2.1 hi hL kk
      · refine v_top (y := 2) hqe ?_
        refine v_tsw C dL_law_59 (off := 189) (tgt := 248) (by decide) (by decide) (by decide) (by decide) ?_
        exact lc_leaders X0 hc hs hB hF.2.2.1 hi hL kk
      · refine v_top (y := 3) hqe ?_
        refine v_tsw C dL_law_59 (off := 202) (tgt := 261) (by decide) (by decide) (by decide) (by decide) ?_
        exact lc_conform X0 hc hs hB hF.2.2.2.1 hi hL kk
      · refine v_top (y := 4) hqe ?_
        refine v_tsw C dL_law_59 (off := 255) (tgt := 314) (by decide) (by decide) (by decide) (by decide) ?_
        exact lc_act X0 hc hs hB hF.2.2.2.2.1 hi hL kk
      · refine v_top (y := 5) hqe ?_
        refine v_tsw C dL_law_59 (off := 311) (tgt := 370) (by decide) (by decide) (by decide) (by decide) ?_
        exact lc_run X0 hc hs hB hF.2.2.2.2.2.1 hi hL kk
      · refine v_top (y := 6) hqe ?_
        refine v_tsw C dL_law_59 (off := 367) (tgt := 426) (by decide) (by decide) (by decide) (by decide) ?_
        exact lc_deploy X0 hc hs hB hF.2.2.2.2.2.2.1 hi hL kk
      · refine v_top (y := 7) hqe ?_
        refine v_tsw C dL_law_59 (off := 403) (tgt := 462) (by decide) (by decide) (by decide) (by decide) ?_
        exact lc_step X0 hc hs hB hF.2.2.2.2.2.2.2.1 hi hL kk
      · refine v_top (y := 8) hqe ?_
        refine v_tsw C dL_law_59 (off := 428) (tgt := 487) (by decide) (by decide) (by decide) (by decide) ?_
        exact lc_show X0 hc hs hB hF.2.2.2.2.2.2.2.2.1 hi hL kk
      · refine v_top (y := 9) hqe ?_
        refine v_tsw C dL_law_59 (off := 484) (tgt := 543) (by decide) (by decide) (by decide) (by decide) ?_
        exact lc_clear X0 hc hs hB hF.2.2.2.2.2.2.2.2.2.1 hi hL kk
      · refine v_top (y := 10) hqe ?_
        refine v_tsw C dL_law_59 (off := 495) (tgt := 554) (by decide) (by decide) (by decide) (by decide) ?_
        exact lc_back X0 hc hs hB hF.2.2.2.2.2.2.2.2.2.2.1 hi hL kk
      · refine v_top (y := 11) hqe ?_
        refine v_tsw C dL_law_59 (off := 531) (tgt := 590) (by decide) (by decide) (by decide) (by decide) ?_
        exact lc_pass X0 hc hs hB hF.2.2.2.2.2.2.2.2.2.2.2.1 hi hL kk
      · refine v_top (y := 12) hqe ?_
        refine v_tsw C dL_law_59 (off := 556) (tgt := 615) (by decide) (by decide) (by decide) (by decide) ?_
        exact lc_state X0 hc hs hB hF.2.2.2.2.2.2.2.2.2.2.2.2.1 hi hL kk
      · refine v_top (y := 13) hqe ?_
        refine v_tsw C dL_law_59 (off := 612) (tgt := 671) (by decide) (by decide) (by decide) (by decide) ?_
        exact lc_open X0 hc hs hB hF.2.2.2.2.2.2.2.2.2.2.2.2.2.1 hi hL kk
      · refine v_top (y := 14) hqe ?_
        refine v_tsw C dL_law_59 (off := 668) (tgt := 727) (by decide) (by decide) (by decide) (by decide) ?_
        exact lc_key X0 hc hs hB hF.2.2.2.2.2.2.2.2.2.2.2.2.2.2.1 hi hL kk
      · refine v_top (y := 15) hqe ?_
        refine v_tsw C dL_law_59 (off := 748) (tgt := 807) (by decide) (by decide) (by decide) (by decide) ?_
        exact lc_outcome X0 hc hs hB hF.2.2.2.2.2.2.2.2.2.2.2.2.2.2.2 hi hL kk

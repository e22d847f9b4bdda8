theorem RA.keep {n P : Nat} {a c c2 : AT} (h : RA n P a c) (hk : ∀ j, j ≠ 16 → c2 j = c j) : RA n P a c2 := by
  obtain ⟨a3, a4, a5, a6, a22, ane, aop, akey, anx⟩ := h
  refine ⟨a3.trans (hk 10 (by decide)).symm, a4.trans (hk 11 (by decide)).symm, a5.trans (hk 12 (by decide)).symm, a6.trans (hk 13 (by decide)).symm, a22.trans (hk 15 (by decide)).symm, ane, aop, fun i hi j hj => ?_, anx⟩
  rw [hk 14 (by decide)]
  exact akey i hi j hj
theorem strongL_eq {n P : Nat} {F G : FT} {a c : AT} (hS : RS n P F G) (hA : RA n P a c) : ∀ (k i : Nat), i + k = P → (gIsStrongL F a P k i = 0 → mPlanL G c P k i = (0, upd (upd G 2 0) 2 2, c)) ∧ (¬ gIsStrongL F a P k i = 0 → mPlanL G c P k i = mPlanL G c P 0 0) := by
  intro k
  induction k with
  | zero => intro i _; exact ⟨fun h => absurd h (show ¬ (1 : Int32) = 0 by decide), fun _ => rfl⟩
  | succ k ih =>
    intro i hi
    have hse := strong_eq (hS.c0 0) hA (i := i) (by omega)
    rw [show mPlanL G c P (k + 1) i = (if mReached (upd G 2 0) c P (nI i) = nI (2 ^ P - 1) then mPlanL G c P k (i + 1) else (0, upd (upd G 2 0) 2 2, c)) from rfl, show gIsStrongL F a P (k + 1) i = (if gReach F a P (nI i) = F 21 then gIsStrongL F a P k (i + 1) else 0) from rfl, hS.2.2.2.2.2.2.2.2.1]
    by_cases h : gReach F a P (nI i) = nI (2 ^ P - 1)
    · rw [if_pos h, if_pos (hse.mp h)]
      exact ih (i + 1) (by omega)
    · rw [if_neg h, if_neg (fun z => h (hse.mpr z))]
      exact ⟨fun _ => rfl, fun z => absurd rfl z⟩
theorem fa_plan : FA_plan RelX := by
  intro n P E mm F a G c hB
  obtain ⟨hS, hL, hA, hE⟩ := hB.get
  subst hE
  have hP := hS.2.2.2.2.2.1
  unfold planF mPlan mFail
  rw [hS.2.2.2.2.2.2.2.2.2.2.1]
  by_cases h4 : G 4 = 0
  · rw [if_pos h4, if_pos h4]
    obtain ⟨s1, s2⟩ := strongL_eq hS hA P 0 (by omega)
    by_cases hg : gIsStrong F a P = 0
    · rw [if_pos hg, s1 hg]
      exact ⟨rfl, fun h => absurd h (Nat.succ_ne_zero _), RelX.mk hS hL hA⟩
    · rw [if_neg hg, s2 hg]
      have el : gLongest (upd (upd F 9 1) 12 (F 13)) a P = (mGreat (upd (upd (upd G 2 0) 4 1) 5 (G 3)) c P).1 := longest_eq hS hA
      refine ⟨rfl, fun _ => el, ⟨n, P, ?_, hL, hA.keep (fun j hj => great_keep hj)⟩⟩
      obtain ⟨t1, t2, t3, t4, t5, t6, t7, t8, t9, u1, u2, u3, u4, u5, u6, u7⟩ := hS
      exact ⟨t1, t2, t3, t4, t5, t6, t7, t8, t9, u1, rfl, fewest_eq hP (hA.2.2.2.2.1.trans (great_keep (by decide)).symm), el, u6, u6, u7⟩
  · rw [if_neg h4, if_neg h4]
    exact ⟨rfl, fun h => absurd h (Nat.succ_ne_zero _), RelX.mk hS hL hA⟩
theorem pN_n (x : Int32) : ∃ P, 2 ≤ P ∧ P ≤ 6 ∧ pN x = nI P ∧ pNm x = nI P := by
  obtain ⟨k, hk, h⟩ := pk_andE x (m := 7) 3 (by decide)
  unfold pN pNm
  rw [h]
  have h8 : k = 0 ∨ k = 1 ∨ k = 2 ∨ k = 3 ∨ k = 4 ∨ k = 5 ∨ k = 6 ∨ k = 7 := by omega
  rcases h8 with rfl | rfl | rfl | rfl | rfl | rfl | rfl | rfl
  · exact ⟨2, by decide, by decide, by decide, by decide⟩
  · exact ⟨3, by decide, by decide, by decide, by decide⟩
  · exact ⟨4, by decide, by decide, by decide, by decide⟩
  · exact ⟨5, by decide, by decide, by decide, by decide⟩
  · exact ⟨6, by decide, by decide, by decide, by decide⟩
  · exact ⟨6, by decide, by decide, by decide, by decide⟩
  · exact ⟨6, by decide, by decide, by decide, by decide⟩
  · exact ⟨6, by decide, by decide, by decide, by decide⟩
theorem has0 : ∀ j, j < 6 → mHas 0 (nI j) = 0 := by decide +kernel
theorem relX_init (x y : Int32) : RelX (FX0 x y) a00 (FM0 x y) a00 := by
  obtain ⟨P, h1, h2, h3, h4⟩ := pN_n x
  have hPP := pow_P h2
  refine ⟨0, P, ⟨rfl, by omega, rfl, h3, h1, h2, h4, h3, ?_, rfl, rfl, rfl, rfl, rfl, rfl, rfl⟩, ⟨[], OkL.nil, (fun z h => by cases h), rfl, rfl⟩, rfl, rfl, rfl, rfl, rfl, fun i hi => absurd hi (Nat.not_lt_zero i), fun i _ => ⟨0, by decide, rfl⟩, fun i _ j hj => ⟨[], OkL.nil, List.nodup_nil, rfl, rfl, ⟨fun _ => rfl, fun _ => has0 j hj⟩, fun z => absurd rfl z⟩, fun q _ => ⟨0, by omega, rfl, fun _ => rfl⟩⟩
  show ((1 : Int32) <<< (pN x &&& 31)) - (1 : Int32) = nI (2 ^ P - 1)
  rw [h3, shl_P h2, pw_sub h2]
theorem relX_all : FAall RelX := ⟨fa_arc, fa_plan, fa_leaders, fa_conform, fa_act, fa_run, fa_deploy, fa_step, fa_show, fa_clear, fa_back, fa_pass, fa_state, fa_open, fa_key, fa_outcome⟩

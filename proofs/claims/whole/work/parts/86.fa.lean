/-! Showing, and all deeds of a party. -/
theorem inTime_eq {n P : Nat} {F G : FT} (a c : AT) (h : RS n P F G) {l : List Nat} (hl : OkL l) : isInTimeF F a (nI (encC l)) = mIsInTime G c (mMany (nI (encM l)) - 1) := by
  obtain ⟨-, -, -, -, -, -, -, -, -, h1, -, -, h11, h12, h13, -⟩ := h
  unfold isInTimeF mIsInTime
  rw [rSize_enc hl, mMany_enc hl, h1, h11, h12, h13]
theorem shownL_eq {n P : Nat} {F G : FT} (hS : RS n P F G) {j jj : Nat} (hjj : jj < 6) {l : List Nat} (h1 : OkL l) (h2 : l.Nodup) (hne : l ≠ []) (hlast : l.getD (l.length - 1) 0 = jj) (hin : ∀ c, ¬ mIsInTime G c (mMany (nI (encM l)) - 1) = 0) : ∀ (k i : Nat) (d : Int32) (a c : AT), i + k = n → RA n P a c → (showToAllL F n (nI j) (nI jj) (nI (encC l)) k i d a).1 = (mShownByL G n (nI j) (nI jj) (nI (encM l)) k i d c).1 ∧ RA n P (showToAllL F n (nI j) (nI jj) (nI (encC l)) k i d a).2 (mShownByL G n (nI j) (nI jj) (nI (encM l)) k i d c).2 := by
  intro k
  induction k with
  | zero => intro i d a c _ h; exact ⟨rfl, h⟩
  | succ k ih =>
    intro i d a c hk h
    have hn := hS.2.1
    simp only [showToAllL, mShownByL]
    have hu : isUnlockedF F a (nI i) (nI jj) = mHas (c 13 i) (nI jj) := by
      unfold isUnlockedF
      rw [nI_clamp (by omega), h.2.2.2.1]
      rfl
    rw [hu, h.2.1, h.2.2.1]
    split
    · split
      · split
        · rw [if_neg (hin c)]
          exact ih _ _ _ _ (by omega) (h.unlock (by omega) hjj hS.2.2.2.2.2.2.2.2.2.2.2.1 h1 h2 hne hlast)
        · exact ih _ _ _ _ (by omega) h
      · exact ih _ _ _ _ (by omega) h
    · exact ih _ _ _ _ (by omega) h
theorem shownL_no {n : Nat} {G : FT} {x y row : Int32} (hin : ∀ c, mIsInTime G c (mMany row - 1) = 0) : ∀ (k i : Nat) (d : Int32) (c : AT), mShownByL G n x y row k i d c = (d, c) := by
  intro k
  induction k with
  | zero => intro i d c; rfl
  | succ k ih =>
    intro i d c
    simp only [mShownByL]
    rw [if_pos (hin c)]
    repeat' split
    all_goals exact ih _ _ _
theorem shown_eq {n P : Nat} {F G : FT} {a c : AT} (hS : RS n P F G) (h : RA n P a c) {j jj : Nat} (hjj : jj < 6) {l : List Nat} (h1 : OkL l) (h2 : l.Nodup) (hne : l ≠ []) (hlast : l.getD (l.length - 1) 0 = jj) : (showToAllF F a n (nI j) (nI jj) (nI (encC l))).1 = (mShownBy G c n (nI j) (nI jj) (nI (encM l))).1 ∧ RA n P (showToAllF F a n (nI j) (nI jj) (nI (encC l))).2 (mShownBy G c n (nI j) (nI jj) (nI (encM l))).2 := by
  unfold showToAllF mShownBy
  rw [inTime_eq a c hS h1]
  by_cases ht : mIsInTime G c (mMany (nI (encM l)) - 1) = 0
  · rw [if_pos ht, shownL_no (fun c2 => ht)]
    exact ⟨rfl, h⟩
  · rw [if_neg ht]
    exact shownL_eq hS hjj h1 h2 hne hlast (fun c2 => ht) n 0 0 a c (by omega) h
theorem self_eq {n P : Nat} {F G : FT} {a c : AT} (hS : RS n P F G) (h : RA n P a c) {j : Nat} (hj : j < P) : (deployAllF F a n (nI j)).1 + (showItselfF F (deployAllF F a n (nI j)).2 n (nI j)).1 = (mSelf G c n P j).1 ∧ RA n P (showItselfF F (deployAllF F a n (nI j)).2 n (nI j)).2 (mSelf G c n P j).2 := by
  obtain ⟨e1, e2⟩ := deploy_eq hS h hj
  have hP := hS.2.2.2.2.2.1
  unfold showItselfF mSelf
  rw [leader_eq hS hj, deploy_secured h, covered_eq (G := G) h]
  by_cases h2 : mHas (G 7) (nI j) = 0
  · rw [if_pos h2, if_pos h2]
    exact ⟨by show _ + 0 = _; rw [Int32.add_zero, e1], e2⟩
  · rw [if_neg h2, if_neg h2]
    by_cases h3 : mCovered G c n (nI j) = 0
    · rw [if_pos h3, if_pos h3]
      exact ⟨by show _ + 0 = _; rw [Int32.add_zero, e1], e2⟩
    · rw [if_neg h3, if_neg h3]
      have r1 : rWithFirst (nI j) 0 = nI (encC [j]) := rWithFirst_enc OkL.nil (by decide) (by omega)
      have r2 : mBefore (nI j) 0 = nI (encM [j]) := mBefore_enc OkL.nil (by decide) (by omega)
      rw [r1, r2]
      have ok : OkL [j] := ⟨by simp, fun x hx => by rw [List.mem_singleton.mp hx]; omega⟩
      obtain ⟨s1, s2⟩ := shown_eq (j := j) hS e2 (jj := j) (by omega) (l := [j]) ok (by simp) (by simp) rfl
      exact ⟨by show _ + _ = _ + _; rw [e1, s1], s2⟩
def BR (j jj : Nat) (b bm : Int32) : Prop := ∃ l : List Nat, OkL l ∧ l.Nodup ∧ j ∉ l ∧ b = nI (encC l) ∧ bm = nI (encM l) ∧ (l ≠ [] → l.getD (l.length - 1) 0 = jj)
theorem encC_z {l : List Nat} (h : OkL l) : nI (encC l) = 0 ↔ l = [] := encC_eq h OkL.nil
theorem encM_z {l : List Nat} (h : OkL l) : nI (encM l) = 0 ↔ l = [] := encM_eq h OkL.nil
theorem shortL_eq {n P : Nat} {F G : FT} {a c : AT} (hS : RS n P F G) (h : RA n P a c) {j jj : Nat} (hj : j < 6) (hjj : jj < P) : ∀ (k i : Nat) (b bm : Int32), i + k = n → BR j jj b bm → BR j jj (shortestL F a n P (nI j) (nI jj) k i b) (mShortestL G c n (nI j) (nI jj) k i bm) := by
  have hn := hS.2.1
  have hP := hS.2.2.2.2.2.1
  intro k
  induction k with
  | zero => intro i b bm _ hb; exact hb
  | succ k ih =>
    intro i b bm hk hb
    simp only [shortestL, mShortestL]
    rw [h.1, hashkey_eq c hS (by omega) hjj, idxM (by omega), ← h.2.2.2.1]
    obtain ⟨l, k1, k2, k3, k4, k5, k6⟩ := h.2.2.2.2.2.2.2.1 i (by omega) jj (by omega)
    have h6 := k1.1
    split
    · by_cases hl : l = []
      · rw [if_pos (show a 7 (i * 6 + jj) = 0 by rw [k3]; exact (encC_z k1).mpr hl), if_pos (k5.mpr hl)]
        exact ih _ _ _ (by omega) hb
      · rw [if_neg (show ¬ a 7 (i * 6 + jj) = 0 by rw [k3]; exact fun e => hl ((encC_z k1).mp e)), if_neg (fun e => hl (k5.mp e)), k3, k4, rHas_enc k1 hj, mMany_enc k1, nI_clamp (by omega), mHas_enc k1 hj]
        by_cases hm : j ∈ l
        · rw [if_pos hm, if_neg (show ¬ (1 : Int32) = 0 by decide), if_neg (show ¬ (1 : Int32) = 0 by decide)]
          exact ih _ _ _ (by omega) hb
        · rw [if_neg hm, if_pos (rfl : (0 : Int32) = 0), if_pos (rfl : (0 : Int32) = 0)]
          have hb2 : BR j jj (nI (encC l)) (nI (encM l)) := ⟨l, k1, k2, hm, rfl, rfl, k6⟩
          obtain ⟨l0, b1, b2, b3, b4, b5, b6⟩ := hb
          rw [b4, b5, rSize_enc b1, rSize_enc k1, mMany_enc b1]
          by_cases hz : l0 = []
          · rw [if_pos ((encC_z b1).mpr hz), if_pos ((encM_z b1).mpr hz)]
            exact ih _ _ _ (by omega) hb2
          · rw [if_neg (fun e => hz ((encC_z b1).mp e)), if_neg (fun e => hz ((encM_z b1).mp e))]
            split
            · exact ih _ _ _ (by omega) ⟨l0, b1, b2, b3, rfl, rfl, b6⟩
            · exact ih _ _ _ (by omega) hb2
    · exact ih _ _ _ (by omega) hb
theorem short_eq {n P : Nat} {F G : FT} {a c : AT} (hS : RS n P F G) (h : RA n P a c) {j jj : Nat} (hj : j < 6) (hjj : jj < P) : BR j jj (shortestF F a n P (nI j) (nI jj)) (mShortest G c n (nI j) (nI jj)) :=
  shortL_eq hS h hj hjj n 0 0 0 (by omega) ⟨[], OkL.nil, List.nodup_nil, by simp, rfl, rfl, fun e => absurd rfl e⟩
theorem others_eq {n P : Nat} {F G : FT} (hS : RS n P F G) {j : Nat} (hj : j < P) (d0 : Int32) : ∀ (k jj : Nat) (d : Int32) (a c : AT), jj + k = P → RA n P a c → d0 + (showOthersL F n P (nI j) k jj d a).1 = (mDeed2 G n P j k jj (d0 + d) c).1 ∧ RA n P (showOthersL F n P (nI j) k jj d a).2 (mDeed2 G n P j k jj (d0 + d) c).2 := by
  have hP := hS.2.2.2.2.2.1
  intro k
  induction k with
  | zero => intro jj d a c _ h; exact ⟨rfl, h⟩
  | succ k ih =>
    intro jj d a c hk h
    simp only [showOthersL, mDeed2]
    rw [leader_eq hS (j := jj) (by omega)]
    split
    · exact ih _ _ _ _ (by omega) h
    · obtain ⟨l, b1, b2, b3, b4, b5, b6⟩ := short_eq hS h (j := j) (jj := jj) (by omega) (by omega)
      rw [b4, b5]
      by_cases hz : l = []
      · rw [if_pos ((encC_z b1).mpr hz), if_pos ((encM_z b1).mpr hz)]
        exact ih _ _ _ _ (by omega) h
      · rw [if_neg (fun e => hz ((encC_z b1).mp e)), if_neg (fun e => hz ((encM_z b1).mp e))]
        have h5 := PreM.len (by omega) b1 b2 b3
        have ok : OkL (j :: l) := ⟨by simp only [List.length_cons]; omega, fun x hx => by
          rcases List.mem_cons.mp hx with e | e
          · omega
          · exact b1.2 x e⟩
        have hlast : (j :: l).getD ((j :: l).length - 1) 0 = jj := by
          obtain ⟨y, t, rfl⟩ := List.exists_cons_of_ne_nil hz
          exact b6 hz
        rw [rWithFirst_enc b1 h5 (by omega), mBefore_enc b1 h5 (by omega)]
        obtain ⟨s1, s2⟩ := shown_eq (j := j) hS h (jj := jj) (by omega) (l := j :: l) ok (List.nodup_cons.mpr ⟨b3, b2⟩) (by simp) hlast
        rw [← s1, Int32.add_assoc]
        exact ih _ _ _ _ (by omega) s2
theorem back3_eq {n P : Nat} {F G : FT} {j : Nat} (hl : ∀ c, ¬ mIsLate G c = 0) (d0 : Int32) : ∀ (k i : Nat) (d : Int32) (a c : AT), RA n P a c → d0 + (moveAllL F n (nI j) 1 3 k i d a).1 = (mDeed3 G n P j k i (d0 + d) c).1 ∧ RA n P (moveAllL F n (nI j) 1 3 k i d a).2 (mDeed3 G n P j k i (d0 + d) c).2 := by
  intro k
  induction k with
  | zero => intro i d a c h; exact ⟨rfl, h⟩
  | succ k ih =>
    intro i d a c h
    simp only [moveAllL, mDeed3]
    rw [h.1, h.2.2.1, if_neg (hl c)]
    split
    · split
      · have go : RA n P (updA a 5 (upd (a 5) i 3)) (updA c 12 (upd (c 12) i 3)) := h.state i 3
        have e5 : updA a 5 (upd (c 12) i 3) = updA a 5 (upd (a 5) i 3) := by rw [h.2.2.1]
        rw [e5, Int32.add_assoc]
        exact ih _ _ _ _ go
      · exact ih _ _ _ _ h
    · exact ih _ _ _ _ h
theorem back3_no {n P : Nat} {G : FT} {j : Nat} (hl : ∀ c, mIsLate G c = 0) : ∀ (k i : Nat) (d : Int32) (c : AT), mDeed3 G n P j k i d c = (d, c) := by
  intro k
  induction k with
  | zero => intro i d c; rfl
  | succ k ih =>
    intro i d c
    simp only [mDeed3]
    rw [if_pos (hl c)]
    repeat' split
    all_goals exact ih _ _ _
theorem deeds_eq {n P : Nat} {F G : FT} {a c : AT} (hS : RS n P F G) (h : RA n P a c) {j : Nat} (hj : j < P) : (doDeedsF F a n P (nI j)).1 = (mDeeds G c n P j).1 ∧ RA n P (doDeedsF F a n P (nI j)).2 (mDeeds G c n P j).2 := by
  obtain ⟨s1, s2⟩ := self_eq hS h hj
  unfold doDeedsF mDeeds
  rw [s1]
  obtain ⟨o1, o2⟩ := others_eq hS hj (mSelf G c n P j).1 P 0 0 _ _ (by omega) s2
  rw [Int32.add_zero] at o1 o2
  have o1 : (mSelf G c n P j).1 + (showOthersF F (showItselfF F (deployAllF F a n (nI j)).2 n (nI j)).2 n P (nI j)).1 = _ := o1
  rw [o1]
  have o2 : RA n P (showOthersF F (showItselfF F (deployAllF F a n (nI j)).2 n (nI j)).2 n P (nI j)).2 _ := o2
  generalize hA2 : (showOthersF F (showItselfF F (deployAllF F a n (nI j)).2 n (nI j)).2 n P (nI j)).2 = a2 at o2 ⊢
  generalize (mDeed2 G n P j P 0 (mSelf G c n P j).1 (mSelf G c n P j).2) = q at o2 ⊢
  unfold takeAllBackF
  rw [isOver_eq a2 c hS]
  by_cases hl : mIsLate G c = 0
  · rw [if_pos hl, back3_no (fun c2 => hl)]
    exact ⟨Int32.add_zero _, o2⟩
  · rw [if_neg hl]
    have := back3_eq (F := F) (j := j) (fun c2 => hl) q.1 n 0 0 a2 q.2 o2
    rw [Int32.add_zero] at this
    exact this
theorem fa_act : FA_act RelX := by
  intro n P E mm F a G c x hB
  obtain ⟨hS, hL, hA, -⟩ := hB.get
  unfold actF mAct mFail
  rw [isParty_eq a c (hS.c0 0) x, hS.2.2.2.2.2.2.2.2.2.2.1]
  by_cases hx : mIsParty (upd G 2 0) c x = 0
  · rw [if_pos hx, if_pos hx]; exact ⟨rfl, fun h => absurd h (Nat.succ_ne_zero _), RelX.mk hS hL hA⟩
  rw [if_neg hx, if_neg hx]
  by_cases h4 : G 4 = 0
  · rw [if_pos h4, if_pos h4]; exact ⟨rfl, fun h => absurd h (Nat.succ_ne_zero _), RelX.mk hS hL hA⟩
  rw [if_neg h4, if_neg h4]
  obtain ⟨j, hj, rfl⟩ := party_n (hS.c0 0) hx
  have hP := hS.2.2.2.2.2.1
  rcases conf_has a hS (nI j) with ⟨e1, e2⟩ | ⟨e1, e2⟩
  · rw [e1, e2, if_pos (rfl : (0 : Int32) = 0), if_neg (show ¬ (1 : Int32) = 0 by decide)]
    exact ⟨rfl, fun h => absurd h (Nat.succ_ne_zero _), RelX.mk hS hL hA⟩
  · rw [e1, e2, if_neg (show ¬ (1 : Int32) = 0 by decide), if_pos (rfl : (0 : Int32) = 0), nI_clamp (by omega)]
    obtain ⟨d1, d2⟩ := deeds_eq (hS.c0 0) hA hj
    exact ⟨rfl, fun _ => d1, RelX.mk (hS.c0 0) hL d2⟩
theorem runI_eq {n P : Nat} {F G : FT} {x t : Int32} (hS : RS n P F G) : ∀ (k pp : Nat) (d : Int32) (a c : AT), pp + k = P → RA n P a c → (runI F n P x t k pp d a).1 = (mRunI G n P x t k pp d c).1 ∧ RA n P (runI F n P x t k pp d a).2 (mRunI G n P x t k pp d c).2 := by
  have hSt : RS n P (upd F 13 t) (upd (upd G 2 0) 3 t) := by
    obtain ⟨t1, t2, t3, t4, t5, t6, t7, t8, t9, u1, u2, u3, u4, u5, u6, u7⟩ := hS
    exact ⟨t1, t2, t3, t4, t5, t6, t7, t8, t9, u1, u2, u3, u4, u5, rfl, u7⟩
  have hz : F 9 = 0 → ∀ (k pp : Nat) (d : Int32) (a : AT), runI F n P x t k pp d a = (d, a) := by
    intro h9 k
    induction k with
    | zero => intro pp d a; rfl
    | succ k ih => intro pp d a; simp only [runI]; rw [if_pos h9, Int32.add_zero]; exact ih _ _ _
  intro k
  induction k with
  | zero => intro pp d a c _ h; exact ⟨rfl, h⟩
  | succ k ih =>
    intro pp d a c hk h
    by_cases h4 : G 4 = 0
    · have h9 : F 9 = 0 := hS.2.2.2.2.2.2.2.2.2.2.1.trans h4
      rw [hz h9]
      simp only [mRunI]
      rw [if_pos h4]
      exact ⟨rfl, h⟩
    · have h9 : ¬ F 9 = 0 := fun e => h4 (hS.2.2.2.2.2.2.2.2.2.2.1.symm.trans e)
      simp only [runI, mRunI]
      rw [if_neg h9, if_neg h4]
      have hc : (conformsF (upd F 13 t) a (nI pp) = 0 ∧ mHas (G 8) (nI pp) = 1) ∨ (conformsF (upd F 13 t) a (nI pp) = 1 ∧ mHas (G 8) (nI pp) = 0) := conf_has a hSt (nI pp)
      rcases hc with ⟨e1, e2⟩ | ⟨e1, e2⟩
      · rw [e1, e2, if_pos (rfl : (0 : Int32) = 0), if_neg (show ¬ (1 : Int32) = 0 by decide)]
        exact ih _ _ _ _ (by omega) h
      · rw [e1, e2, if_neg (show ¬ (1 : Int32) = 0 by decide), if_pos (rfl : (0 : Int32) = 0)]
        obtain ⟨d1, d2⟩ := deeds_eq hSt h (j := pp) (by omega)
        rw [d1]
        exact ih _ _ _ _ (by omega) d2
theorem runL_eq {n P : Nat} {F G : FT} {x : Int32} (hS : RS n P F G) : ∀ (k rr : Nat) (d t : Int32) (a c : AT), RA n P a c → (runL F n P x k rr d t a).1 = (mRunL G n P x k rr d t c).1 ∧ (runL F n P x k rr d t a).2.1 = (mRunL G n P x k rr d t c).2.1 ∧ RA n P (runL F n P x k rr d t a).2.2 (mRunL G n P x k rr d t c).2.2 := by
  intro k
  induction k with
  | zero => intro rr d t a c h; exact ⟨rfl, rfl, h⟩
  | succ k ih =>
    intro rr d t a c h
    simp only [runL, mRunL]
    obtain ⟨e1, e2⟩ := runI_eq (x := x) (t := t) hS P 0 d a c (by omega) h
    rw [e1]
    exact ih _ _ _ _ _ e2
theorem fa_run : FA_run RelX := by
  intro n P E mm F a G c x hB
  obtain ⟨hS, hL, hA, -⟩ := hB.get
  unfold runF mRun mFail
  by_cases h0 : x < 0
  · rw [if_pos h0, if_pos h0]; exact ⟨rfl, fun h => absurd h (Nat.succ_ne_zero _), RelX.mk hS hL hA⟩
  rw [if_neg h0, if_neg h0]
  by_cases h1 : x ≤ 40
  · rw [if_pos h1, if_pos h1]
    obtain ⟨e1, e2, e3⟩ := runL_eq (x := x) hS x.toNatClampNeg 0 0 (F 13) a c hA
    rw [show F 13 = G 3 from hS.2.2.2.2.2.2.2.2.2.2.2.2.2.2.1] at e1 e2 e3 ⊢
    refine ⟨rfl, fun _ => e1, ⟨n, P, ?_, hL, e3⟩⟩
    obtain ⟨t1, t2, t3, t4, t5, t6, t7, t8, t9, u1, u2, u3, u4, u5, u6, u7⟩ := hS
    exact ⟨t1, t2, t3, t4, t5, t6, t7, t8, t9, u1, u2, u3, u4, u5, e2, u7⟩
  · rw [if_neg h1, if_neg h1]; exact ⟨rfl, fun h => absurd h (Nat.succ_ne_zero _), RelX.mk hS hL hA⟩

theorem partyM_self {F : FT} {a : AT} {x : Int32} {P : Nat} (h : ¬ mIsParty F a x = 0) (hp : F 0 = nI P) (hp6 : P ≤ 6) : x = nI x.toNatClampNeg ∧ x.toNatClampNeg < P := by
  obtain ⟨j, hj, rfl⟩ := partyM_nat h hp hp6
  rw [nI_clamp (by omega)]
  exact ⟨rfl, hj⟩
theorem times_self {x : Int32} (h0 : ¬ x < 0) (h1 : x ≤ 40) : x = nI x.toNatClampNeg ∧ x.toNatClampNeg ≤ 40 := by
  obtain ⟨j, hj, rfl⟩ := nI_of2 (M := 40) (n := 40) (by decide) h0 h1
  rw [nI_clamp (by omega)]
  exact ⟨rfl, hj⟩
theorem deed2_km {F : FT} {n P j : Nat} (hn4 : n ≤ 14) (hp6 : P ≤ 6) (hj : j < 6) : ∀ (k i : Nat) (d : Int32) (a : AT), i + k = P → KM a → KM (mDeed2 F n P j k i d a).2 := by
  intro k
  induction k with
  | zero => intro i d a _ h; exact h
  | succ k ih =>
    intro i d a hi h
    simp only [mDeed2]
    split
    · exact ih _ _ _ (by omega) h
    · split
      · exact ih _ _ _ (by omega) h
      · exact ih _ _ _ (by omega) (KM.shown (PreM.good hj (short_pre h hn4 hj (vp_in_nI (by omega) (by decide)) n 0 0 (by omega) PreM.zero)).1 h)
theorem deed3_km {F : FT} {n P j : Nat} : ∀ (k i : Nat) (d : Int32) (a : AT), KM a → KM (mDeed3 F n P j k i d a).2 := by
  intro k
  induction k with
  | zero => intro i d a h; exact h
  | succ k ih =>
    intro i d a h
    simp only [mDeed3]
    repeat' split
    all_goals exact ih _ _ _ h
theorem KM.deeds {F : FT} {a : AT} {n P j : Nat} (hn4 : n ≤ 14) (hp6 : P ≤ 6) (hj : j < 6) (h : KM a) : KM (mDeeds F a n P j).2 := by
  unfold mDeeds
  exact deed3_km n 0 _ _ (deed2_km hn4 hp6 hj P 0 _ _ (by omega) (mSelf_km hj h))
theorem path_pos {F : FT} {a : AT} {mm : Nat} {x : Int32} (h : ¬ mIsPath F a mm x = 0) : 1 ≤ mm := by
  unfold mIsPath at h
  by_cases h0 : nI mm = 0
  · rw [if_pos h0] at h; exact absurd rfl h
  · exact nI_pos1 h0
theorem vp_key4 {x y : Int32} (hx : vp_in x 14) (hl : vp_in y 6) : vp_in ((6 : Int32) * x + y) 84 := by
  obtain ⟨i, hi, rfl⟩ := vp_in_of hx (by decide)
  exact vp_key3 hi hl

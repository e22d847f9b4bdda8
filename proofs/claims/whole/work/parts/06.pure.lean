/-! Bounds and small facts of the pure functions. -/
theorem ix_nat {x N : Int32} {n : Nat} (hN : N = nI n) (hn : n < 2 ^ 31) (h0 : ¬ x < 0) (h1 : ¬ N ≤ x) : ∃ j : Nat, j < n ∧ x = nI j := by
  subst hN
  rcases pk_ix x hn with h | h | h
  · exact absurd h h0
  · exact absurd h h1
  · exact h
theorem arc_nat {F : FT} {a : AT} {x : Int32} {n : Nat} (h : ¬ isArcF F a x = 0) (hn : F 8 = nI n) (hn4 : n ≤ 14) : ∃ j : Nat, j < n ∧ x = nI j := by
  unfold isArcF at h
  by_cases h0 : x < 0
  · rw [if_pos h0] at h; exact absurd rfl h
  · rw [if_neg h0] at h
    by_cases h1 : F 8 ≤ x
    · rw [if_pos h1] at h; exact absurd rfl h
    · exact ix_nat hn (by omega) h0 h1
theorem party_nat {F : FT} {a : AT} {x : Int32} {P : Nat} (h : ¬ isPartyF F a x = 0) (hp : F 0 = nI P) (hp6 : P ≤ 6) : ∃ j : Nat, j < P ∧ x = nI j := by
  unfold isPartyF at h
  by_cases h0 : x < 0
  · rw [if_pos h0] at h; exact absurd rfl h
  · rw [if_neg h0] at h
    by_cases h1 : F 0 ≤ x
    · rw [if_pos h1] at h; exact absurd rfl h
    · exact ix_nat hp (by omega) h0 h1
theorem vp_arc {F : FT} {a : AT} {x : Int32} {n : Nat} (h : ¬ isArcF F a x = 0) (hn : F 8 = nI n) (hn4 : n ≤ 14) : vp_in x 14 := by
  obtain ⟨j, hj, rfl⟩ := arc_nat h hn hn4
  exact vp_in_nI (by omega) (by decide)
theorem vp_key {F : FT} {a : AT} {x y : Int32} {n P : Nat} (h : ¬ isArcF F a x = 0) (h2 : ¬ isPartyF F a y = 0) (hn : F 8 = nI n) (hn4 : n ≤ 14) (hp : F 0 = nI P) (hp6 : P ≤ 6) : vp_in (x * (6 : Int32) + y) 84 := by
  obtain ⟨j, hj, rfl⟩ := arc_nat h hn hn4
  obtain ⟨t, ht, rfl⟩ := party_nat h2 hp hp6
  show vp_in (nI j * nI 6 + nI t) 84
  rw [pk_mul, nI_add]
  exact vp_in_nI (by omega) (by decide)
theorem vp_key2 {i : Nat} {y : Int32} (hi : i < 14) (hl : vp_in y 6) : vp_in (nI i * (6 : Int32) + y) 84 := by
  obtain ⟨t, ht, rfl⟩ := vp_in_of hl (by decide)
  show vp_in (nI i * nI 6 + nI t) 84
  rw [pk_mul, nI_add]
  exact vp_in_nI (by omega) (by decide)
theorem vp_key3 {i : Nat} {y : Int32} (hi : i < 14) (hl : vp_in y 6) : vp_in ((6 : Int32) * nI i + y) 84 := by
  obtain ⟨t, ht, rfl⟩ := vp_in_of hl (by decide)
  show vp_in (nI 6 * nI i + nI t) 84
  rw [pk_mul, nI_add]
  exact vp_in_nI (by omega) (by decide)
theorem vp_holds {F : FT} {a : AT} {x : Int32} {P : Nat} (h : ¬ gHolds F a x = 0) (hg : F 20 = nI P) (hp6 : P ≤ 6) : vp_in x 6 := by
  unfold gHolds at h
  by_cases h0 : x < 0
  · rw [if_pos h0] at h; exact absurd rfl h
  · rw [if_neg h0] at h
    by_cases h1 : F 20 ≤ x
    · rw [if_pos h1] at h; exact absurd rfl h
    · obtain ⟨j, hj, rfl⟩ := ix_nat hg (by omega) h0 h1
      exact vp_in_nI (by omega) (by decide)
theorem vp_leader {F : FT} {a : AT} {x : Int32} {P : Nat} (h : ¬ isLeaderF F a x = 0) (hp : F 0 = nI P) (hp6 : P ≤ 6) : vp_in x 6 := by
  unfold isLeaderF at h
  by_cases h0 : isPartyF F a x = 0
  · rw [if_pos h0] at h; exact absurd rfl h
  · obtain ⟨j, hj, rfl⟩ := party_nat h0 hp hp6
    exact vp_in_nI (by omega) (by decide)
theorem vp_lt {x : Int32} {n : Nat} (h : vp_in x n) : x.toNatClampNeg < n := Nat.not_le.mp fun q => h (Or.inr q)
theorem shl_P {P : Nat} (h : P ≤ 6) : (1 : Int32) <<< (nI P &&& 31) = nI (2 ^ P) := by
  have h7 : P = 0 ∨ P = 1 ∨ P = 2 ∨ P = 3 ∨ P = 4 ∨ P = 5 ∨ P = 6 := by omega
  rcases h7 with rfl | rfl | rfl | rfl | rfl | rfl | rfl <;> decide +kernel
theorem pow_P {P : Nat} (h : P ≤ 6) : 1 ≤ 2 ^ P ∧ 2 ^ P ≤ 64 := by
  have h7 : P = 0 ∨ P = 1 ∨ P = 2 ∨ P = 3 ∨ P = 4 ∨ P = 5 ∨ P = 6 := by omega
  rcases h7 with rfl | rfl | rfl | rfl | rfl | rfl | rfl <;> decide
theorem pw_sub {P : Nat} (h : P ≤ 6) : nI (2 ^ P) - 1 = nI (2 ^ P - 1) := pk_sub (b := 1) (pow_P h).1
theorem nI_pos1 {m : Nat} (h : ¬ nI m = 0) : 1 ≤ m := by
  rcases Nat.eq_zero_or_pos m with h0 | h0
  · subst h0; exact absurd rfl h
  · exact h0
def clr (s p : Nat) : Nat := s - s / 2 ^ p % 2 * 2 ^ p
theorem clr_eq : ∀ s, s < 64 → ∀ p, p < 6 → nI s &&& (((1 : Int32) <<< (nI p &&& 31)) ^^^ (-1 : Int32)) = nI (clr s p) := by decide +kernel
theorem clr_lt : ∀ s, s < 64 → ∀ p, p < 6 → clr s p < 64 := by decide +kernel
theorem vp_ends1 {s p q : Nat} (hs : s < 64) (hp : p < 6) (hq : q < 6) : vp_in ((6 : Int32) * (nI s &&& (((1 : Int32) <<< (nI p &&& 31)) ^^^ (-1 : Int32))) + nI q) 384 := by
  rw [clr_eq s hs p hp]
  have := clr_lt s hs p hp
  show vp_in (nI 6 * nI (clr s p) + nI q) 384
  rw [pk_mul, nI_add]
  exact vp_in_nI (by omega) (by decide)
theorem vp_ends2 {s p : Nat} (hs : s < 64) (hp : p < 6) : vp_in ((6 : Int32) * nI s + nI p) 384 := by
  show vp_in (nI 6 * nI s + nI p) 384
  rw [pk_mul, nI_add]
  exact vp_in_nI (by omega) (by decide)
theorem rSizeL_n (row : Int32) : ∀ k i, rSizeL row k i = nI (szNL row k i) := by
  intro k
  induction k with
  | zero => intro i; rfl
  | succ k ih =>
    intro i
    simp only [rSizeL, szNL]
    by_cases h : (row.toUInt32 >>> ((3 * nI i).toUInt32 &&& Int32.toUInt32 31)).toInt32 = 0
    · rw [if_pos h, if_pos h]
    · rw [if_neg h, if_neg h]; exact ih (i + 1)
theorem rSize_n (row : Int32) : rSize row = nI (szN row) := rSizeL_n row 6 0
theorem szNL_le (row : Int32) : ∀ k i, i + k = 6 → szNL row k i ≤ 6 := by
  intro k
  induction k with
  | zero => intro i _; exact Nat.le_refl 6
  | succ k ih =>
    intro i h
    simp only [szNL]
    by_cases h1 : (row.toUInt32 >>> ((3 * nI i).toUInt32 &&& Int32.toUInt32 31)).toInt32 = 0
    · rw [if_pos h1]; omega
    · rw [if_neg h1]; exact ih (i + 1) (by omega)
theorem szN_le (row : Int32) : szN row ≤ 6 := szNL_le row 6 0 rfl
theorem arcM_nat {F : FT} {a : AT} {x : Int32} {n : Nat} (h : ¬ mIsArc F a x = 0) (hn : F 9 = nI n) (hn4 : n ≤ 14) : ∃ j : Nat, j < n ∧ x = nI j := by
  unfold mIsArc at h
  by_cases h0 : x < 0
  · rw [if_pos h0] at h; exact absurd rfl h
  · rw [if_neg h0] at h
    by_cases h1 : F 9 ≤ x
    · rw [if_pos h1] at h; exact absurd rfl h
    · exact ix_nat hn (by omega) h0 h1
theorem partyM_nat {F : FT} {a : AT} {x : Int32} {P : Nat} (h : ¬ mIsParty F a x = 0) (hp : F 0 = nI P) (hp6 : P ≤ 6) : ∃ j : Nat, j < P ∧ x = nI j := by
  unfold mIsParty at h
  by_cases h0 : x < 0
  · rw [if_pos h0] at h; exact absurd rfl h
  · rw [if_neg h0] at h
    by_cases h1 : F 0 ≤ x
    · rw [if_pos h1] at h; exact absurd rfl h
    · exact ix_nat hp (by omega) h0 h1
theorem vp_arcM {F : FT} {a : AT} {x : Int32} {n : Nat} (h : ¬ mIsArc F a x = 0) (hn : F 9 = nI n) (hn4 : n ≤ 14) : vp_in x 14 := by
  obtain ⟨j, hj, rfl⟩ := arcM_nat h hn hn4
  exact vp_in_nI (by omega) (by decide)
theorem vp_partyM {F : FT} {a : AT} {x : Int32} {P : Nat} (h : ¬ mIsParty F a x = 0) (hp : F 0 = nI P) (hp6 : P ≤ 6) : vp_in x 6 := by
  obtain ⟨j, hj, rfl⟩ := partyM_nat h hp hp6
  exact vp_in_nI (by omega) (by decide)
theorem vp_keyM {F : FT} {a : AT} {x y : Int32} {n P : Nat} (h : ¬ mIsArc F a x = 0) (h2 : ¬ mIsParty F a y = 0) (hn : F 9 = nI n) (hn4 : n ≤ 14) (hp : F 0 = nI P) (hp6 : P ≤ 6) : vp_in ((6 : Int32) * x + y) 84 := by
  obtain ⟨j, hj, rfl⟩ := arcM_nat h hn hn4
  exact vp_key3 (by omega) (vp_partyM h2 hp hp6)
theorem vp_room {F : FT} {n : Nat} (hn : F 9 = nI n) (hn4 : n ≤ 14) (h : ¬ F 9 = 14) : vp_in (F 9) 14 := by
  rw [hn] at h ⊢
  have : n ≠ 14 := fun e => h (by rw [e]; rfl)
  exact vp_in_nI (by omega) (by decide)
def RowM (r : Int32) : Prop := mMany r = nI (mMany r).toNatClampNeg ∧ (mMany r).toNatClampNeg ≤ 6
theorem z01 {x : Int32} (h : x = 0 ∨ x = 1) : narrow .boolean (.int x) = .int x := by
  rcases h with rfl | rfl <;> decide
theorem mCoveredL_z (F : FT) (a : AT) (n : Nat) (x : Int32) : ∀ k i u, (u = 0 ∨ u = 1) → (mCoveredL F a n x k i u = 0 ∨ mCoveredL F a n x k i u = 1) := by
  intro k
  induction k with
  | zero => intro i u h; exact h
  | succ k ih =>
    intro i u h
    simp only [mCoveredL]
    repeat' split
    all_goals first | exact ih _ _ (Or.inl rfl) | exact ih _ _ (Or.inr rfl)
theorem mIsPathL_z (F : FT) (a : AT) (n : Nat) (x : Int32) : ∀ k i u, (u = 0 ∨ u = 1) → (mIsPathL F a n x k i u = 0 ∨ mIsPathL F a n x k i u = 1) := by
  intro k
  induction k with
  | zero => intro i u h; exact h
  | succ k ih =>
    intro i u h
    simp only [mIsPathL]
    repeat' split
    all_goals first | exact ih _ _ (Or.inl rfl) | exact ih _ _ (Or.inr rfl)
theorem mIsKnownL_z (F : FT) (a : AT) (mm n : Nat) : ∀ k i u, (u = 0 ∨ u = 1) → (mIsKnownL F a mm n k i u = 0 ∨ mIsKnownL F a mm n k i u = 1) := by
  intro k
  induction k with
  | zero => intro i u h; exact h
  | succ k ih =>
    intro i u h
    simp only [mIsKnownL]
    repeat' split
    all_goals first | exact ih _ _ (Or.inl rfl) | exact ih _ _ (Or.inr rfl)

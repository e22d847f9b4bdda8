theorem holds_eq {n P : Nat} {F G : FT} (a : AT) (h : RS n P F G) (x : Int32) : gHolds F a x = isPartyF F a x := by
  unfold gHolds isPartyF
  rw [h.2.2.2.1, h.2.2.2.2.2.2.2.1]
theorem updA_s {f : AT} {k : Nat} {x : Nat → Int32} : updA f k x k = x := if_pos rfl
theorem updA_n {f : AT} {k j : Nat} {x : Nat → Int32} (h : j ≠ k) : updA f k x j = f j := if_neg h
theorem fa_arc : FA_arc RelX := by
  intro n P E mm F a G c x y hB
  obtain ⟨hS, hL, hA, -⟩ := hB.get
  have hR : ∀ v, RelX F a (upd G 2 v) c := fun v => RelX.mk (hS.c0 v) hL hA
  unfold arcF mArc mFail
  rw [isParty_eq a c (hS.c0 0) x, isParty_eq a c (hS.c0 0) y]
  by_cases hx : mIsParty (upd G 2 0) c x = 0
  · rw [if_pos hx, if_pos hx]; exact ⟨rfl, fun h => absurd h (Nat.succ_ne_zero _), RelX.mk hS hL hA⟩
  rw [if_neg hx, if_neg hx]
  by_cases hy : mIsParty (upd G 2 0) c y = 0
  · rw [if_pos hy, if_pos hy]; exact ⟨rfl, fun h => absurd h (Nat.succ_ne_zero _), RelX.mk hS hL hA⟩
  rw [if_neg hy, if_neg hy]
  by_cases hxy : x = y
  · rw [if_pos hxy, if_pos hxy]; exact ⟨rfl, fun h => absurd h (Nat.succ_ne_zero _), RelX.mk hS hL hA⟩
  rw [if_neg hxy, if_neg hxy]
  have hgx : ¬ gHolds F a x = 0 := by rw [holds_eq a hS, isParty_eq a c (hS.c0 0)]; exact hx
  have hgy : ¬ gHolds F a y = 0 := by rw [holds_eq a hS, isParty_eq a c (hS.c0 0)]; exact hy
  have hj : gJoins F a x y = mHas (c 15 x.toNatClampNeg) y := by
    unfold gJoins
    rw [if_neg hgx, if_neg hgy, hA.2.2.2.2.1]
    rfl
  rw [hj]
  by_cases hh : mHas (c 15 x.toNatClampNeg) y = 0
  · rw [if_pos hh, if_pos hh, hS.2.2.2.2.2.2.2.2.2.2.1]
    by_cases h4 : G 4 = 0
    · rw [if_pos h4, if_pos h4]
      have hn := hS.2.1
      by_cases hf : n = 14
      · rw [if_neg (show ¬ F 8 < 14 by rw [hS.1, hf]; decide), if_pos (show G 9 = 14 by rw [hS.2.2.1, hf]; rfl)]
        exact ⟨rfl, fun h => absurd h (Nat.succ_ne_zero _), RelX.mk hS hL hA⟩
      · rw [if_pos (show F 8 < 14 by rw [hS.1]; exact nI_lt (b := 14) (by omega) (by decide)), if_neg (show ¬ G 9 = 14 by rw [hS.2.2.1]; exact fun e => hf ((nI_eq (b := 14) (by omega) (by decide)).mp e))]
        obtain ⟨p, hp, rfl⟩ := party_n (hS.c0 0) hx
        obtain ⟨q, hq, rfl⟩ := party_n (hS.c0 0) hy
        have hP6 := hS.2.2.2.2.2.1
        have hpq : p ≠ q := fun e => hxy (by rw [e])
        obtain ⟨t1, t2, t3, t4, t5, t6, t7, t8, t9, u⟩ := hS
        obtain ⟨a3, a4, a5, a6, a22, ane, aop, akey, anx⟩ := hA
        refine ⟨rfl, fun _ => ?_, ⟨n + 1, P, ⟨?_, by omega, ?_, t4, t5, t6, t7, t8, t9, u⟩, hL, ?_⟩⟩
        · show F 8 = G 9 + 1 - 1
          rw [t1, t3, nI_1, show nI (n + 1) - 1 = nI n from pk_sub (a := n + 1) (b := 1) (by omega)]
        · show F 8 + 1 = nI (n + 1)
          rw [t1, nI_1]
        · show G 9 + 1 = nI (n + 1)
          rw [t3, nI_1]
        · have c8 : (F 8).toNatClampNeg = n := by rw [t1, nI_clamp (by omega)]
          have c9 : (G 9).toNatClampNeg = n := by rw [t3, nI_clamp (by omega)]
          have cp : (nI p).toNatClampNeg = p := nI_clamp (by omega)
          have hgj : gJoin F a (nI p) (nI q) 22 = upd (a 22) p (a 22 p ||| ((1 : Int32) <<< (nI q &&& 31))) := by
            unfold gJoin
            rw [if_neg hgx, if_neg hgy, cp]
            rfl
          refine ⟨?_, ?_, a5, a6, ?_, ?_, aop, akey, ?_⟩
          · show upd (a 3) (F 8).toNatClampNeg (nI p) = upd (c 10) (G 9).toNatClampNeg (nI p)
            rw [c8, c9, a3]
          · show upd (a 4) (F 8).toNatClampNeg (nI q) = upd (c 11) (G 9).toNatClampNeg (nI q)
            rw [c8, c9, a4]
          · show gJoin F a (nI p) (nI q) 22 = upd (c 15) (nI p).toNatClampNeg (c 15 (nI p).toNatClampNeg ||| ((1 : Int32) <<< (nI q &&& 31)))
            rw [hgj, cp, a22]
          · intro i hi
            show upd (a 3) (F 8).toNatClampNeg (nI p) i ≠ upd (a 4) (F 8).toNatClampNeg (nI q) i
            rw [c8]
            by_cases hin : i = n
            · subst hin
              rw [pk_us, pk_us]
              exact hxy
            · rw [pk_un hin, pk_un hin]
              exact ane i (by omega)
          · intro r hr
            show ∃ t, t < 2 ^ P ∧ gJoin F a (nI p) (nI q) 22 r = nI t ∧ (P ≤ r → t = 0)
            rw [hgj]
            obtain ⟨t, ht, he, hz⟩ := anx r hr
            by_cases hrp : r = p
            · subst hrp
              rw [pk_us, he, shl_n (by omega), nx_or]
              exact ⟨t ||| 2 ^ q, Nat.or_lt_two_pow ht (Nat.pow_lt_pow_right (by decide) hq), rfl, fun h => absurd h (by omega)⟩
            · rw [pk_un hrp]
              exact ⟨t, ht, he, hz⟩
    · rw [if_neg h4, if_neg h4]; exact ⟨rfl, fun h => absurd h (Nat.succ_ne_zero _), RelX.mk hS hL hA⟩
  · rw [if_neg hh, if_neg hh]; exact ⟨rfl, fun h => absurd h (Nat.succ_ne_zero _), RelX.mk hS hL hA⟩
theorem RA.unlock {n P : Nat} {a c : AT} {F G : FT} {i j : Nat} {l : List Nat} (h : RA n P a c) (hi : i < 14) (hj : j < 6) (h10 : F 10 = G 7) (h1 : OkL l) (h2 : l.Nodup) (hne : l ≠ []) (hlast : l.getD (l.length - 1) 0 = j) : RA n P (unlockF F a (nI i) (nI j) (nI (encC l))) (mUnlock G c (nI i) (nI (encM l))) := by
  obtain ⟨a3, a4, a5, a6, a22, ane, aop, akey, anx⟩ := h
  unfold unlockF mUnlock
  rw [mLast_enc h1 hne, hlast, idxC (by omega), idxM (by omega), nI_clamp (by omega), ← a6, ← a5, h10]
  generalize hv : a 6 i ||| ((1 : Int32) <<< (nI j &&& 31)) = v
  obtain ⟨o, ho, heo⟩ := aop i hi
  have hvn : v = nI (o ||| 2 ^ j) := by rw [← hv, heo, shl_n hj, nx_or]
  have ho2 : o ||| 2 ^ j < 64 := Nat.or_lt_two_pow (n := 6) ho (Nat.pow_lt_pow_right (by decide) hj)
  have key : ∀ i2, i2 < 14 → ∀ j2, j2 < 6 → KeyR (upd (a 6) i v i2) j2 (upd (a 7) (i * 6 + j) (nI (encC l)) (i2 * 6 + j2)) (upd (c 14) (i * 6 + j) (nI (encM l)) (i2 * 6 + j2)) := by
    intro i2 hi2 j2 hj2
    by_cases hii : i2 = i
    · subst hii
      rw [pk_us]
      by_cases hjj : j2 = j
      · subst hjj
        rw [pk_us, pk_us]
        refine ⟨l, h1, h2, rfl, rfl, ⟨fun h => ?_, fun h => absurd h hne⟩, fun _ => hlast⟩
        rw [hvn, mHas_bit _ ho2 j2 hj, Nat.testBit_or, Nat.testBit_two_pow_self] at h
        simp at h
      · have hidx : i2 * 6 + j2 ≠ i2 * 6 + j := by omega
        rw [pk_un hidx, pk_un hidx]
        obtain ⟨l2, k1, k2, k3, k4, k5, k6⟩ := akey i2 hi2 j2 hj2
        refine ⟨l2, k1, k2, k3, k4, ?_, k6⟩
        rw [← k5, hvn, heo, mHas_bit _ ho2 j2 hj2, mHas_bit _ ho j2 hj2, Nat.testBit_or, Nat.testBit_two_pow_of_ne (fun e => hjj e.symm), Bool.or_false]
    · rw [pk_un hii]
      have hidx : i2 * 6 + j2 ≠ i * 6 + j := by omega
      rw [pk_un hidx, pk_un hidx]
      exact akey i2 hi2 j2 hj2
  have op : ∀ i2, i2 < 14 → ∃ o, o < 64 ∧ upd (a 6) i v i2 = nI o := by
    intro i2 hi2
    by_cases hii : i2 = i
    · subst hii; rw [pk_us]; exact ⟨_, ho2, hvn⟩
    · rw [pk_un hii]; exact aop i2 hi2
  split
  · exact ⟨a3, a4, (by show upd (a 5) i 2 = upd (a 5) i 2; rfl), rfl, a22, ane, op, key, anx⟩
  · exact ⟨a3, a4, a5, rfl, a22, ane, op, key, anx⟩
theorem secured_eq {F G : FT} {a c : AT} {n : Nat} {x : Int32} (h4 : a 4 = c 11) (h5 : a 5 = c 12) : ∀ (k i : Nat), mCoveredL G c n x k i 0 = 0 ∧ isSecuredL F a n x k i = mCoveredL G c n x k i 1 := by
  intro k
  induction k with
  | zero => intro i; exact ⟨rfl, rfl⟩
  | succ k ih =>
    intro i
    obtain ⟨i1, i2⟩ := ih (i + 1)
    simp only [isSecuredL, mCoveredL]
    rw [h4, h5]
    refine ⟨by rw [if_pos trivial]; exact i1, ?_⟩
    rw [if_neg (show ¬ (1 : Int32) = 0 by decide)]
    split
    · split
      · exact i2
      · split
        · exact i2
        · exact i1.symm
    · exact i2
theorem covered_eq {n P : Nat} {F G : FT} {a c : AT} {x : Int32} (h : RA n P a c) : isSecuredF F a n x = mCovered G c n x := (secured_eq h.2.1 h.2.2.1 n 0).2
theorem leader_eq {n P : Nat} {F G : FT} {a : AT} (h : RS n P F G) {j : Nat} (hj : j < P) : isLeaderF F a (nI j) = mHas (G 7) (nI j) := by
  have hP := h.2.2.2.2.2.1
  have h2 : ¬ isPartyF F a (nI j) = 0 := by
    unfold isPartyF
    rw [if_neg (nI_pos (by omega)), h.2.2.2.1, if_neg (nI_ge hj (by omega))]
    decide
  unfold isLeaderF
  rw [if_neg h2, h.2.2.2.2.2.2.2.2.2.2.2.1]
  rfl
theorem move_deed1 {n P : Nat} {F G : FT} {c0 : AT} {j : Nat} (hlate : ∀ c, mIsLate G c = 0) (hgo : ¬ mHas (G 7) (nI j) = 0 ∨ ¬ mCovered G c0 n (nI j) = 0) : ∀ (k i : Nat) (d : Int32) (a c : AT), RA n P a c → (moveAllL F n (nI j) 0 1 k i d a).1 = (mDeed1 G c0 n P j k i d c).1 ∧ RA n P (moveAllL F n (nI j) 0 1 k i d a).2 (mDeed1 G c0 n P j k i d c).2 := by
  intro k
  induction k with
  | zero => intro i d a c h; exact ⟨rfl, h⟩
  | succ k ih =>
    intro i d a c h
    simp only [moveAllL, mDeed1]
    rw [h.1, h.2.2.1]
    split
    · split
      · have go : RA n P (updA a 5 (upd (a 5) i 1)) (updA c 12 (upd (c 12) i 1)) := h.state i 1
        have e5 : updA a 5 (upd (c 12) i 1) = updA a 5 (upd (a 5) i 1) := by rw [h.2.2.1]
        rw [e5]
        split
        · rename_i hl
          have hcov : ¬ mCovered G c0 n (nI j) = 0 := hgo.elim (fun q => absurd hl q) id
          rw [if_neg hcov, if_pos (hlate _)]
          exact ih _ _ _ _ go
        · rw [if_pos (hlate _)]
          exact ih _ _ _ _ go
      · exact ih _ _ _ _ h
    · exact ih _ _ _ _ h
theorem deed1_no {n P : Nat} {G : FT} {c0 : AT} {j : Nat} (h : (∀ c, ¬ mIsLate G c = 0) ∨ (mHas (G 7) (nI j) = 0 ∧ mCovered G c0 n (nI j) = 0)) : ∀ (k i : Nat) (d : Int32) (c : AT), mDeed1 G c0 n P j k i d c = (d, c) := by
  intro k
  induction k with
  | zero => intro i d c; rfl
  | succ k ih =>
    intro i d c
    simp only [mDeed1]
    rcases h with h | ⟨h1, h2⟩
    · repeat' split
      all_goals first | exact ih _ _ _ | (rename_i q; exact absurd q (h _))
    · rw [if_pos h1, if_pos h2]
      repeat' split
      all_goals exact ih _ _ _
theorem late_const (G : FT) (c c2 : AT) : mIsLate G c = mIsLate G c2 := rfl
theorem deploy_eq {n P : Nat} {F G : FT} {a c : AT} (hS : RS n P F G) (h : RA n P a c) {j : Nat} (hj : j < P) : (deployAllF F a n (nI j)).1 = (mDeed1 G c n P j n 0 0 c).1 ∧ RA n P (deployAllF F a n (nI j)).2 (mDeed1 G c n P j n 0 0 c).2 := by
  unfold deployAllF
  rw [isOver_eq a c hS, leader_eq hS hj, covered_eq (G := G) h]
  by_cases h1 : mIsLate G c = 0
  · rw [if_pos h1]
    have hl : ∀ c2, mIsLate G c2 = 0 := fun c2 => h1
    by_cases h2 : mHas (G 7) (nI j) = 0
    · rw [if_pos h2]
      by_cases h3 : mCovered G c n (nI j) = 0
      · rw [if_pos h3, deed1_no (Or.inr ⟨h2, h3⟩)]
        exact ⟨rfl, h⟩
      · rw [if_neg h3]
        exact move_deed1 hl (Or.inr h3) n 0 0 a c h
    · rw [if_neg h2]
      exact move_deed1 hl (Or.inl h2) n 0 0 a c h
  · rw [if_neg h1, deed1_no (Or.inl (fun c2 => h1))]
    exact ⟨rfl, h⟩
/-- what a deed of moving leaves as it was -/
theorem move_same {n : Nat} {F : FT} {x y z : Int32} : ∀ (k i : Nat) (d : Int32) (a : AT), i + k = n → (∀ q, q < n → a 3 q ≠ a 4 q) → (moveAllL F n x y z k i d a).2 3 = a 3 ∧ (moveAllL F n x y z k i d a).2 4 = a 4 ∧ ∀ q, q < n → a 4 q = x → (moveAllL F n x y z k i d a).2 5 q = a 5 q := by
  intro k
  induction k with
  | zero => intro i d a _ _; exact ⟨rfl, rfl, fun _ _ _ => rfl⟩
  | succ k ih =>
    intro i d a hk hne
    simp only [moveAllL]
    split
    · rename_i h3
      split
      · obtain ⟨i1, i2, i3⟩ := ih (i + 1) (d + 1) (updA a 5 (upd (a 5) i z)) (by omega) hne
        refine ⟨i1, i2, fun q hq hx => ?_⟩
        rw [i3 q hq hx]
        show upd (a 5) i z q = a 5 q
        exact pk_un (fun e => hne i (by omega) (by rw [← e, hx, e, h3]))
      · exact ih _ _ _ (by omega) hne
    · exact ih _ _ _ (by omega) hne
theorem secured_congr {F : FT} {a b : AT} {n : Nat} {x : Int32} (h4 : b 4 = a 4) (h5 : ∀ q, q < n → a 4 q = x → b 5 q = a 5 q) : ∀ (k i : Nat), i + k = n → isSecuredL F b n x k i = isSecuredL F a n x k i := by
  intro k
  induction k with
  | zero => intro i _; rfl
  | succ k ih =>
    intro i hk
    simp only [isSecuredL]
    rw [h4]
    split
    · rename_i hx
      rw [h5 i (by omega) hx, ih (i + 1) (by omega)]
    · exact ih (i + 1) (by omega)
theorem deploy_secured {n P : Nat} {F : FT} {a c : AT} {x : Int32} (h : RA n P a c) : isSecuredF F (deployAllF F a n x).2 n x = isSecuredF F a n x := by
  obtain ⟨-, m2, m3⟩ := move_same (F := F) (x := x) (y := 0) (z := 1) n 0 0 a (by omega) h.2.2.2.2.2.1
  have go : isSecuredF F (moveAllF F a n x 0 1).2 n x = isSecuredF F a n x := secured_congr m2 m3 n 0 (by omega)
  unfold deployAllF
  split
  · split
    · split
      · rfl
      · exact go
    · exact go
  · rfl

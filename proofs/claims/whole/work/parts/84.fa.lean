theorem mAppend_enc {l : List Nat} (h : OkL l) (h5 : l.length ≤ 5) {x : Nat} (hx : x < 6) : (((nI (encM l) &&& (262143 : Int32)) ||| (nI x <<< (((3 : Int32) * mMany (nI (encM l))) &&& 31))) ||| ((mMany (nI (encM l)) + (1 : Int32)) <<< ((18 : Int32) &&& 31))) = nI (encM (l ++ [x])) := by
  have hp := p8 l.length (by omega)
  have b := digM_lt l h.2
  have b1 := encM_b h
  have b3 := digM_b h
  have b2 : x * 8 ^ l.length ≤ 5 * 32768 := Nat.mul_le_mul (by omega) hp.1
  rw [mMany_enc h, pk_andN (by omega) 18 (by decide), show encM l % 2 ^ 18 = digM l by unfold encM; omega, pk_shlN _ (3 * l.length) (sh3l l.length (by omega)) (by rw [hp.2]; omega), nx_or, Nat.or_comm (digM l), Nat.mul_comm x, ← Nat.two_pow_add_eq_or_of_lt (i := 3 * l.length) (by rw [hp.2]; exact b), hp.2, nI_1, pk_shlN _ 18 (by decide) (by omega), nx_or, Nat.or_comm, show (l.length + 1) * 2 ^ 18 = 2 ^ 18 * (l.length + 1) by omega, ← Nat.two_pow_add_eq_or_of_lt (i := 18) (by rw [Nat.mul_comm]; omega)]
  congr 1
  unfold encM
  rw [digM_app, List.length_append, Nat.mul_comm (8 ^ l.length)]
  simp only [List.length_cons, List.length_nil]
  omega
theorem party_n {n P : Nat} {F G : FT} {c : AT} {x : Int32} (h : RS n P F G) (hp : ¬ mIsParty G c x = 0) : ∃ j, j < P ∧ x = nI j := partyM_nat hp h.2.2.2.2.2.2.1 h.2.2.2.2.2.1
theorem arc_n {n P : Nat} {F G : FT} {c : AT} {x : Int32} (h : RS n P F G) (hp : ¬ mIsArc G c x = 0) : ∃ j, j < n ∧ x = nI j := arcM_nat hp h.2.2.1 h.2.1
theorem fa_step : FA_step RelX := by
  intro n P E mm F a G c x hB
  obtain ⟨hS, hL, hA, -⟩ := hB.get
  have same : RelX F a (upd G 2 0) c := RelX.mk (hS.c0 0) hL hA
  unfold stepF mStep
  rw [isParty_eq a c (hS.c0 0) x]
  by_cases hp : mIsParty (upd G 2 0) c x = 0
  · rw [if_pos hp, if_pos hp]; exact ⟨rfl, same⟩
  · rw [if_neg hp, if_neg hp]
    obtain ⟨j, hj, rfl⟩ := party_n (hS.c0 0) hp
    have hP6 := hS.2.2.2.2.2.1
    obtain ⟨l, h1, h2, h3, h4⟩ := hL
    have h6 := h1.1
    rw [h3, h4, rSize_enc h1, mMany_enc h1]
    by_cases hl : l.length = 6
    · rw [if_neg (show ¬ nI l.length < 6 by rw [hl]; decide), if_pos (show nI l.length = 6 by rw [hl]; rfl)]
      exact ⟨rfl, same⟩
    · rw [if_pos (show nI l.length < 6 from nI_lt (b := 6) (by omega) (by decide)), if_neg (show ¬ nI l.length = 6 from fun e => hl ((nI_eq (b := 6) (by omega) (by decide)).mp e))]
      refine ⟨rfl, RelX.mk (n := n) (P := P) hS ⟨l ++ [j], ?_, ?_, ?_, ?_⟩ hA⟩
      · refine ⟨by simp only [List.length_append, List.length_cons, List.length_nil]; omega, fun z hz => ?_⟩
        rcases List.mem_append.mp hz with h | h
        · exact h1.2 z h
        · rw [List.mem_singleton.mp h]; omega
      · intro z hz
        rcases List.mem_append.mp hz with h | h
        · exact h2 z h
        · rw [List.mem_singleton.mp h]; exact hj
      · exact rWithLast_enc h1 (by omega) (by omega)
      · have := mAppend_enc h1 (by omega) (x := j) (by omega)
        rw [mMany_enc h1] at this
        exact this
theorem idxC {i j : Nat} (h : i * 6 + j < 2 ^ 31) : (nI i * (6 : Int32) + nI j).toNatClampNeg = i * 6 + j := by
  rw [show nI i * (6 : Int32) = nI (i * 6) from pk_mul i 6, nI_add, nI_clamp h]
theorem idxM {i j : Nat} (h : i * 6 + j < 2 ^ 31) : ((6 : Int32) * nI i + nI j).toNatClampNeg = i * 6 + j := by
  rw [show (6 : Int32) * nI i = nI (6 * i) from pk_mul 6 i, nI_add, nI_clamp (by omega)]
  omega
theorem nn_nI {z : Int32} (h : ¬ z < 0) : ∃ k, k < 2 ^ 31 ∧ z = nI k := by
  rcases pk_ix z (n := 2 ^ 31 - 1) (by decide) with h1 | h1 | ⟨j, hj, h1⟩
  · exact absurd h1 h
  · refine ⟨2 ^ 31 - 1, by decide, ?_⟩
    rw [Int32.le_iff_toInt_le, nI_toInt (by decide)] at h1
    apply Int32.toInt_inj.mp
    rw [nI_toInt (by decide)]
    have := Int32.toInt_lt z
    omega
  · exact ⟨j, by omega, h1⟩
theorem hashkey_eq {n P : Nat} {F G : FT} {a : AT} (c : AT) (h : RS n P F G) {i j : Nat} (hi : i < n) (hj : j < P) : hashkeyF F a (nI i) (nI j) = a 7 (i * 6 + j) := by
  have hn := h.2.1
  have hP := h.2.2.2.2.2.1
  unfold hashkeyF
  have h1 : ¬ isArcF F a (nI i) = 0 := by
    unfold isArcF
    rw [if_neg (nI_pos (by omega)), h.1, if_neg (nI_ge hi (by omega))]
    decide
  have h2 : ¬ isPartyF F a (nI j) = 0 := by
    unfold isPartyF
    rw [if_neg (nI_pos (by omega)), h.2.2.2.1, if_neg (nI_ge hj (by omega))]
    decide
  rw [if_neg h1, if_neg h2, idxC (by omega)]
theorem fa_key : FA_key RelX := by
  intro n P E mm F a G c x y z hB
  obtain ⟨hS, hL, hA, -⟩ := hB.get
  have hR : ∀ v, RelX F a (upd G 2 v) c := fun v => RelX.mk (hS.c0 v) hL hA
  unfold keyF mKey mFail
  rw [isArc_eq a c (hS.c0 0) x]
  by_cases hp : mIsArc (upd G 2 0) c x = 0
  · rw [if_pos hp, if_pos hp]; exact ⟨rfl, fun h => absurd h (by decide), RelX.mk hS hL hA⟩
  · rw [if_neg hp, if_neg hp]
    obtain ⟨i, hi, rfl⟩ := arc_n (hS.c0 0) hp
    have hn := hS.2.1
    have hP := hS.2.2.2.2.2.1
    have hm1 : ∀ z : Int32, rParty 0 z = -1 := by
      intro z
      by_cases hz : z < 0
      · unfold rParty; rw [if_pos hz]
      · obtain ⟨k, hk, rfl⟩ := nn_nI hz
        rcases Nat.lt_or_ge k 6 with h6 | h6
        · exact (rParty_enc OkL.nil h6).trans (if_neg (by simp))
        · unfold rParty; rw [if_neg hz, if_neg (show ¬ nI k < 6 from nI_nlt (b := 6) h6 hk)]
    by_cases hy : mIsParty (upd G 2 0) c y = 0
    · rw [if_pos hy]
      have : hashkeyF F a (nI i) y = 0 := by
        unfold hashkeyF
        rw [isParty_eq a c (hS.c0 0) y, if_pos hy]
        split <;> rfl
      rw [this, hm1]
      exact ⟨rfl, fun _ => rfl, hR 0⟩
    · rw [if_neg hy]
      obtain ⟨j, hj, rfl⟩ := party_n (hS.c0 0) hy
      rw [hashkey_eq c hS hi hj, idxM (by omega), nI_clamp (by omega), ← hA.2.2.2.1]
      obtain ⟨l, k1, k2, k3, k4, k5, k6⟩ := hA.2.2.2.2.2.2.2.1 i (by omega) j (by omega)
      have h6 := k1.1
      by_cases ho : mHas (a 6 i) (nI j) = 0
      · rw [if_pos ho]
        have hl := k5.mp ho
        subst hl
        rw [k3, show nI (encC []) = 0 from rfl, hm1]
        exact ⟨rfl, fun _ => rfl, hR 0⟩
      · rw [if_neg ho, k3, k4, mMany_enc k1]
        by_cases hz : z < 0
        · rw [if_pos hz]
          unfold rParty
          rw [if_pos hz]
          exact ⟨rfl, fun _ => rfl, hR 0⟩
        · rw [if_neg hz]
          obtain ⟨k, hk, rfl⟩ := nn_nI hz
          by_cases hkl : nI l.length ≤ nI k
          · rw [if_pos hkl]
            have hkl2 := (nI_leI (by omega) hk).mp hkl
            refine ⟨rfl, fun _ => ?_, hR 0⟩
            rcases Nat.lt_or_ge k 6 with h6 | h6
            · exact (rParty_enc k1 h6).trans (if_neg (by omega))
            · show rParty _ _ = _
              unfold rParty; rw [if_neg hz, if_neg (show ¬ nI k < 6 from nI_nlt (b := 6) h6 hk)]
          · rw [if_neg hkl]
            have hkl2 : k < l.length := Nat.not_le.mp fun q => hkl (nI_le q hk)
            refine ⟨rfl, fun _ => ?_, hR 0⟩
            show rParty _ _ = mMember _ _
            rw [rParty_enc k1 (by omega), if_pos hkl2, mMember_enc k1 hkl2]
theorem outcome_eq {F G : FT} {a c : AT} {n : Nat} {x : Int32} (h3 : a 3 = c 10) (h4 : a 4 = c 11) (h5 : a 5 = c 12) : ∀ (k i : Nat) (u2 u3 u4 u5 : Int32), mOutcomeL G c n x k i u2 u3 u4 u5 = (countPaid4L F a n x k i u2, countPaid3L F a n x k i u3, countArcs4L F a n x k i u4, countArcs3L F a n x k i u5) := by
  intro k
  induction k with
  | zero => intro i u2 u3 u4 u5; rfl
  | succ k ih =>
    intro i u2 u3 u4 u5
    simp only [mOutcomeL, countPaid4L, countPaid3L, countArcs4L, countArcs3L]
    rw [h3, h4, h5]
    by_cases e2 : c 12 i = 2 <;> by_cases e4 : c 11 i = x <;> by_cases e3 : c 10 i = x
    all_goals simp only [e2, e4, e3, if_true, if_false, ↓reduceIte]
    all_goals exact ih _ _ _ _ _
theorem count_n {F : FT} {a : AT} {n : Nat} {x : Int32} : ∀ (k i d : Nat), ∃ d2, d2 ≤ d + k ∧ countPaid4L F a n x k i (nI d) = nI d2 := by
  intro k
  induction k with
  | zero => intro i d; exact ⟨d, Nat.le_refl _, rfl⟩
  | succ k ih =>
    intro i d
    simp only [countPaid4L]
    split
    · split
      · rw [nI_1]
        obtain ⟨d2, h1, h2⟩ := ih (i + 1) (d + 1)
        exact ⟨d2, by omega, h2⟩
      · obtain ⟨d2, h1, h2⟩ := ih (i + 1) d
        exact ⟨d2, by omega, h2⟩
    · obtain ⟨d2, h1, h2⟩ := ih (i + 1) d
      exact ⟨d2, by omega, h2⟩
theorem fa_outcome : FA_outcome RelX := by
  intro n P E mm F a G c x hB
  obtain ⟨hS, hL, hA, -⟩ := hB.get
  have hR : ∀ v, RelX F a (upd G 2 v) c := fun v => RelX.mk (hS.c0 v) hL hA
  unfold outcomeF mOutcome mFail
  rw [isParty_eq a c (hS.c0 0) x, outcome_eq (F := F) hA.1 hA.2.1 hA.2.2.1]
  by_cases hp : mIsParty (upd G 2 0) c x = 0
  · rw [if_pos hp, if_pos hp]; exact ⟨rfl, fun h => absurd h (by decide), RelX.mk hS hL hA⟩
  · rw [if_neg hp, if_neg hp]
    dsimp only
    rw [show countPaid4F F a n x = countPaid4L F a n x n 0 0 from rfl, show countPaid3F F a n x = countPaid3L F a n x n 0 0 from rfl, show countArcs4F F a n x = countArcs4L F a n x n 0 0 from rfl, show countArcs3F F a n x = countArcs3L F a n x n 0 0 from rfl]
    obtain ⟨d2, hd, he⟩ := count_n (F := F) (a := a) (n := n) (x := x) n 0 0
    have he : countPaid4L F a n x n 0 0 = nI d2 := he
    have hn := hS.2.1
    rw [he]
    by_cases z1 : nI d2 = 0
    · rw [if_pos z1, if_pos z1]
      split
      · exact ⟨rfl, fun _ => rfl, hR 0⟩
      · split
        · split
          · exact ⟨rfl, fun _ => rfl, hR 0⟩
          · exact ⟨rfl, fun _ => rfl, hR 0⟩
        · refine ⟨?_, fun _ => ?_, ?_⟩
          · split <;> rfl
          · split <;> rfl
          · split <;> exact hR 0
    · rw [if_neg z1, if_neg z1]
      have z2 : ¬ nI d2 ≤ 0 := by
        intro q
        have := (nI_leI (a := d2) (b := 0) (by omega) (by decide)).mp q
        exact z1 (by rw [show d2 = 0 by omega]; rfl)
      rw [if_neg z2]
      split
      · split
        · exact ⟨rfl, fun _ => rfl, hR 0⟩
        · exact ⟨rfl, fun _ => rfl, hR 0⟩
      · split
        · exact ⟨rfl, fun _ => rfl, hR 0⟩
        · exact ⟨rfl, fun _ => rfl, hR 0⟩

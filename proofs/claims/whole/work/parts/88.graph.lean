/-! The graph: who is reached, what ends all walks, the fewest leaders. -/
def TQ (P : Nat) (a : AT) (t : Nat → Nat) : Prop := ∀ q, q < 6 → a 22 q = nI (t q) ∧ t q < 2 ^ P ∧ (P ≤ q → t q = 0)
theorem RA.tq {n P : Nat} {a c : AT} (h : RA n P a c) (hP : P ≤ 6) : TQ P a (fun q => (a 22 q).toNatClampNeg) := by
  intro q hq
  obtain ⟨t, h1, h2, h3⟩ := h.2.2.2.2.2.2.2.2 q hq
  have hPP := pow_P hP
  have e : (a 22 q).toNatClampNeg = t := by rw [h2, nI_clamp (by omega)]
  exact ⟨h2.trans (congrArg nI e.symm), by show (a 22 q).toNatClampNeg < _; rw [e]; exact h1, fun z => e.trans (h3 z)⟩
def rI (t : Nat → Nat) : Nat → Nat → Nat → Nat
  | 0, _, s => s
  | k + 1, q, s => if s.testBit q then rI t k (q + 1) (s ||| t q) else rI t k (q + 1) s
def rIter (t : Nat → Nat) (P : Nat) : Nat → Nat → Nat
  | 0, s => s
  | k + 1, s => rIter t P k (rI t P 0 s)
theorem rI_lt {t : Nat → Nat} {P : Nat} (ht : ∀ q, q < 6 → t q < 2 ^ P) : ∀ (k q s : Nat), q + k ≤ 6 → s < 2 ^ P → rI t k q s < 2 ^ P := by
  intro k
  induction k with
  | zero => intro q s _ h; exact h
  | succ k ih =>
    intro q s hk h
    simp only [rI]
    split
    · exact ih _ _ (by omega) (Nat.or_lt_two_pow h (ht q (by omega)))
    · exact ih _ _ (by omega) h
theorem rI_sup {t : Nat → Nat} {b : Nat} : ∀ (k q s : Nat), s.testBit b = true → (rI t k q s).testBit b = true := by
  intro k
  induction k with
  | zero => intro q s h; exact h
  | succ k ih =>
    intro q s h
    simp only [rI]
    split
    · exact ih _ _ (by rw [Nat.testBit_or, h]; rfl)
    · exact ih _ _ h
theorem rIter_lt {t : Nat → Nat} {P : Nat} (hP : P ≤ 6) (ht : ∀ q, q < 6 → t q < 2 ^ P) : ∀ (k s : Nat), s < 2 ^ P → rIter t P k s < 2 ^ P := by
  intro k
  induction k with
  | zero => intro s h; exact h
  | succ k ih => intro s h; exact ih _ (rI_lt ht P 0 s (by omega) h)
theorem rIter_s {t : Nat → Nat} {P : Nat} : ∀ (k s : Nat), rIter t P (k + 1) s = rI t P 0 (rIter t P k s) := by
  intro k
  induction k with
  | zero => intro s; rfl
  | succ k ih => intro s; exact ih (rI t P 0 s)
theorem gReachI_n {F : FT} {a : AT} {P : Nat} {x : Int32} {t : Nat → Nat} (hP : P ≤ 6) (ht : TQ P a t) : ∀ (k q s : Nat), q + k ≤ 6 → s < 2 ^ P → gReachI F a P x k q (nI s) = nI (rI t k q s) := by
  have hPP := pow_P hP
  intro k
  induction k with
  | zero => intro q s _ _; rfl
  | succ k ih =>
    intro q s hk h
    simp only [gReachI, rI]
    rw [bitC s (by omega) q (by omega), (ht q (by omega)).1, nx_or]
    cases hb : s.testBit q with
    | true =>
      rw [if_pos rfl, if_pos rfl, if_pos rfl]
      exact ih _ _ (by omega) (Nat.or_lt_two_pow h (ht q (by omega)).2.1)
    | false =>
      rw [if_neg (show ¬ (if false = true then (1 : Int32) else 0) = 1 by decide), if_neg (show ¬ false = true by decide)]
      exact ih _ _ (by omega) h
theorem mReachedI_n {G : FT} {a c : AT} {P : Nat} {x : Int32} {t : Nat → Nat} (hP : P ≤ 6) (hac : a 22 = c 15) (ht : TQ P a t) : ∀ (k q s : Nat), q + k ≤ 6 → s < 2 ^ P → mReachedI G c P x k q (nI s) = nI (rI t k q s) := by
  have hPP := pow_P hP
  intro k
  induction k with
  | zero => intro q s _ _; rfl
  | succ k ih =>
    intro q s hk h
    simp only [mReachedI, rI]
    rw [mHas_bit s (by omega) q (by omega), ← hac, (ht q (by omega)).1, nx_or]
    cases hb : s.testBit q with
    | true =>
      rw [if_pos rfl, if_neg (by decide), if_pos rfl]
      exact ih _ _ (by omega) (Nat.or_lt_two_pow h (ht q (by omega)).2.1)
    | false =>
      rw [if_pos (show (if false = true then (1 : Int32) else 0) = 0 by decide), if_neg (show ¬ false = true by decide)]
      exact ih _ _ (by omega) h
theorem gReachL_n {F : FT} {a : AT} {P : Nat} {x : Int32} {t : Nat → Nat} (hP : P ≤ 6) (ht : TQ P a t) : ∀ (k r s : Nat), s < 2 ^ P → gReachL F a P x k r (nI s) = nI (rIter t P k s) := by
  intro k
  induction k with
  | zero => intro r s _; rfl
  | succ k ih =>
    intro r s h
    simp only [gReachL]
    rw [gReachI_n hP ht P 0 s (by omega) h]
    exact ih _ _ (rI_lt (fun q hq => (ht q hq).2.1) P 0 s (by omega) h)
theorem mReachedL_n {G : FT} {a c : AT} {P : Nat} {x : Int32} {t : Nat → Nat} (hP : P ≤ 6) (hac : a 22 = c 15) (ht : TQ P a t) : ∀ (k r s : Nat), s < 2 ^ P → mReachedL G c P x k r (nI s) = nI (rIter t P k s) := by
  intro k
  induction k with
  | zero => intro r s _; rfl
  | succ k ih =>
    intro r s h
    simp only [mReachedL]
    rw [mReachedI_n hP hac ht P 0 s (by omega) h]
    exact ih _ _ (rI_lt (fun q hq => (ht q hq).2.1) P 0 s (by omega) h)
theorem cnt_mono : ∀ s, s < 64 → ∀ u, u < 64 → (∀ b, b < 6 → s.testBit b = true → u.testBit b = true) → s ≠ u → cnt s < cnt u := by decide +kernel
theorem cnt_full : ∀ P, P < 7 → (∀ s, s < 2 ^ P → cnt s ≤ P ∧ (P ≤ cnt s → s = 2 ^ P - 1)) ∧ cnt (2 ^ P - 1) = P := by decide +kernel
theorem cnt_one : ∀ i, i < 6 → cnt (2 ^ i) = 1 := by decide +kernel
theorem stab {t : Nat → Nat} {P : Nat} (hP : P ≤ 6) (ht : ∀ q, q < 6 → t q < 2 ^ P) {s : Nat} (hs : s < 2 ^ P) : ∀ k, rI t P 0 (rIter t P k s) = rIter t P k s ∨ cnt s + k ≤ cnt (rIter t P k s) := by
  have hPP := pow_P hP
  intro k
  induction k with
  | zero => right; exact Nat.le_refl _
  | succ k ih =>
    rw [rIter_s]
    have hv := rIter_lt hP ht k s hs
    have hw := rI_lt ht P 0 _ (by omega) hv
    rcases ih with h | h
    · left; rw [h, h]
    · by_cases e : rI t P 0 (rIter t P k s) = rIter t P k s
      · left; rw [e, e]
      · right
        have := cnt_mono _ (by omega) _ (by omega) (fun b _ hb => rI_sup (t := t) P 0 (rIter t P k s) hb) (fun q => e q.symm)
        omega
theorem rI_full {t : Nat → Nat} {P : Nat} (hP : P ≤ 6) (ht : ∀ q, q < 6 → t q < 2 ^ P) : rI t P 0 (2 ^ P - 1) = 2 ^ P - 1 := by
  have hPP := pow_P hP
  have hw := rI_lt ht P 0 (2 ^ P - 1) (by omega) (by omega)
  by_cases e : 2 ^ P - 1 = rI t P 0 (2 ^ P - 1)
  · exact e.symm
  · have h1 := cnt_mono _ (by omega) _ (by omega) (fun b _ hb => rI_sup (t := t) P 0 (2 ^ P - 1) hb) e
    have h2 := cnt_full P (by omega)
    have h3 := (h2.1 _ hw).1
    omega
theorem strong_eq {n P : Nat} {F G : FT} {a c : AT} (hS : RS n P F G) (hA : RA n P a c) {i : Nat} (hi : i < P) : gReach F a P (nI i) = nI (2 ^ P - 1) ↔ mReached G c P (nI i) = nI (2 ^ P - 1) := by
  have hP := hS.2.2.2.2.2.1
  have hPP := pow_P hP
  have ht := hA.tq hP
  have htl : ∀ q, q < 6 → (fun q => (a 22 q).toNatClampNeg) q < 2 ^ P := fun q hq => (ht q hq).2.1
  have hs : 2 ^ i < 2 ^ P := Nat.pow_lt_pow_right (by decide) hi
  unfold gReach mReached
  rw [shl_n (by omega), gReachL_n hP ht _ _ _ hs, mReachedL_n hP hA.2.2.2.2.1 ht _ _ _ hs]
  have hv := rIter_lt hP htl (P - 1) _ hs
  have hw := rIter_lt hP htl P _ hs
  rw [nI_eq (by omega) (by omega), nI_eq (by omega) (by omega)]
  have e : rIter (fun q => (a 22 q).toNatClampNeg) P P (2 ^ i) = rI (fun q => (a 22 q).toNatClampNeg) P 0 (rIter (fun q => (a 22 q).toNatClampNeg) P (P - 1) (2 ^ i)) := by
    have := rIter_s (t := fun q => (a 22 q).toNatClampNeg) (P := P) (P - 1) (2 ^ i)
    rw [show P - 1 + 1 = P by omega] at this
    exact this
  constructor
  · intro h
    rw [e, h]
    exact rI_full hP htl
  · intro h
    rcases stab hP htl hs (P - 1) with q | q
    · rw [← q, ← e]; exact h
    · rw [cnt_one i (by omega)] at q
      exact ((cnt_full P (by omega)).1 _ hv).2 (by omega)
theorem clr_id : ∀ s, s < 64 → ∀ q, q < 6 → s.testBit q = false → clr s q = s := by decide +kernel
theorem endsI_eq {F G : FT} {a c : AT} {P : Nat} {x : Int32} (hac : a 22 = c 15) : ∀ (k q s : Nat), q + k ≤ 6 → s < 64 → ∃ s2, s2 < 64 ∧ gEndsI F a P x k q (nI s) = nI s2 ∧ mIsOpenI G c P x k q (nI s) = nI s2 := by
  intro k
  induction k with
  | zero => intro q s _ h; exact ⟨s, h, rfl, rfl⟩
  | succ k ih =>
    intro q s hk h
    simp only [gEndsI, mIsOpenI]
    rw [mHas_bit s h q (by omega), hac, clr_eq s h q (by omega)]
    cases hb : s.testBit q with
    | true =>
      rw [if_pos rfl, if_neg (show ¬ (1 : Int32) = 0 by decide)]
      split
      · exact ih _ _ (by omega) (clr_lt s h q (by omega))
      · exact ih _ _ (by omega) h
    | false =>
      rw [if_neg (show ¬ false = true by decide), if_pos (rfl : (0 : Int32) = 0), clr_id s h q (by omega) hb]
      split
      · exact ih _ _ (by omega) h
      · exact ih _ _ (by omega) h
theorem endsL_eq {F G : FT} {a c : AT} {P : Nat} {x : Int32} (hP : P ≤ 6) (hac : a 22 = c 15) : ∀ (k r s : Nat), s < 64 → gEndsL F a P x k r (nI s) = mIsOpenL G c P x k r (nI s) := by
  intro k
  induction k with
  | zero => intro r s _; rfl
  | succ k ih =>
    intro r s h
    obtain ⟨s2, h1, h2, h3⟩ := endsI_eq (F := F) (G := G) (a := a) (c := c) (P := P) (x := x) hac P 0 s (by omega) h
    simp only [gEndsL, mIsOpenL]
    rw [h2, h3]
    exact ih _ _ h1
theorem ends_eq {F G : FT} {a c : AT} {P s : Nat} (hP : P ≤ 6) (hac : a 22 = c 15) (hs : s < 64) : gEnds F a P (nI s) = mIsOpen G c P (nI s) := by
  unfold gEnds mIsOpen
  rw [endsL_eq (G := G) hP hac P 0 s hs]
theorem mask_n {P : Nat} (hP : P ≤ 6) (y : Int32) : ∃ s, s < 64 ∧ nI (2 ^ P - 1) &&& y = nI s := by
  have hPP := pow_P hP
  obtain ⟨j, h1, h2⟩ := pk_andE y (m := nI (2 ^ P - 1)) P (pk_tn (by omega))
  exact ⟨j, by omega, by rw [Int32.and_comm]; exact h2⟩
def Gd (G : FT) (c : AT) (P s : Nat) : Prop := ¬ mIsOpen G c P (nI (2 ^ P - 1) &&& (nI s ^^^ (-1 : Int32))) = 0
def Bst (gd : Nat → Prop) (E q b : Nat) : Prop := gd b ∧ b ≤ E ∧ (b < q ∨ b = E) ∧ ∀ s, s < q → gd s → cnt b < cnt s ∨ (cnt b = cnt s ∧ b ≤ s)
def Msp (gd : Nat → Prop) (E m : Nat) : Prop := gd m ∧ m ≤ E ∧ ∀ s, s ≤ E → gd s → cnt m < cnt s ∨ (cnt m = cnt s ∧ m ≤ s)
theorem cnt6 : ∀ s, s < 64 → cnt s ≤ 6 := by decide +kernel
theorem bc_le {s u : Nat} (hs : s < 64) (hu : u < 64) : bitCountF (nI s) ≤ bitCountF (nI u) ↔ cnt s ≤ cnt u := by
  have h1 := cnt6 s hs
  have h2 := cnt6 u hu
  rw [bc_size s hs, bc_size u hu, mSize_cnt s hs, mSize_cnt u hu, nI_leI (by omega) (by omega)]
theorem fewL_b {F G : FT} {a c : AT} {P : Nat} (hP : P ≤ 6) (hac : a 22 = c 15) : ∀ (k q b : Nat), q + k = 2 ^ P - 1 → Bst (Gd G c P) (2 ^ P - 1) q b → ∃ b2, gFewestL F a P (2 ^ P - 1) k q (nI b) = nI b2 ∧ Bst (Gd G c P) (2 ^ P - 1) (2 ^ P - 1) b2 := by
  have hPP := pow_P hP
  have hf := cnt_full P (by omega)
  intro k
  induction k with
  | zero =>
    intro q b hq hb
    have hq : q = 2 ^ P - 1 := hq
    subst hq
    exact ⟨b, rfl, hb⟩
  | succ k ih =>
    intro q b hq hb
    obtain ⟨b1, b2, b3, b4⟩ := hb
    have hqc : cnt q < P := by
      have := hf.1 q (by omega)
      rcases Nat.lt_or_ge (cnt q) P with h | h
      · exact h
      · have := this.2 h; omega
    simp only [gFewestL]
    by_cases h1 : cnt b ≤ cnt q
    · rw [if_pos ((bc_le (by omega) (by omega)).mpr h1)]
      refine ih _ _ (by omega) ⟨b1, b2, by omega, fun s hs hg => ?_⟩
      rcases Nat.lt_or_ge s q with h | h
      · exact b4 s h hg
      · have e : s = q := by omega
        subst e
        rcases b3 with h3 | h3
        · omega
        · rw [h3, hf.2] at h1; omega
    · rw [if_neg (fun e => h1 ((bc_le (by omega) (by omega)).mp e))]
      obtain ⟨s0, hs0, he0⟩ := mask_n hP (nI q ^^^ (-1 : Int32))
      have hge : gEnds F a P (nI (2 ^ P - 1) &&& (nI q ^^^ (-1 : Int32))) = mIsOpen G c P (nI (2 ^ P - 1) &&& (nI q ^^^ (-1 : Int32))) := by
        rw [he0]; exact ends_eq hP hac hs0
      by_cases h2 : mIsOpen G c P (nI (2 ^ P - 1) &&& (nI q ^^^ (-1 : Int32))) = 0
      · rw [if_pos (hge.trans h2)]
        refine ih _ _ (by omega) ⟨b1, b2, by omega, fun s hs hg => ?_⟩
        rcases Nat.lt_or_ge s q with h | h
        · exact b4 s h hg
        · have e : s = q := by omega
          subst e
          exact absurd h2 hg
      · rw [if_neg (fun e => h2 (hge.symm.trans e))]
        refine ih _ _ (by omega) ⟨h2, by omega, by omega, fun s hs hg => ?_⟩
        rcases Nat.lt_or_ge s q with h | h
        · have := b4 s h hg
          omega
        · have e : s = q := by omega
          subst e
          exact Or.inr ⟨rfl, Nat.le_refl _⟩
theorem openL_0 {G : FT} {c : AT} {P : Nat} {x : Int32} (hP : P ≤ 6) : ∀ (k r : Nat), mIsOpenL G c P x k r (nI 0) = nI 0 := by
  have hI : ∀ (k q : Nat), q + k ≤ 6 → mIsOpenI G c P x k q (nI 0) = nI 0 := by
    intro k
    induction k with
    | zero => intro q _; rfl
    | succ k ih =>
      intro q hq
      simp only [mIsOpenI]
      rw [mHas_bit 0 (by decide) q (by omega), Nat.zero_testBit, if_neg (show ¬ false = true by decide), if_pos (rfl : (0 : Int32) = 0)]
      exact ih _ (by omega)
  intro k
  induction k with
  | zero => intro r; rfl
  | succ k ih => intro r; simp only [mIsOpenL]; rw [hI P 0 (by omega)]; exact ih _
theorem full_mask : ∀ P, P < 7 → nI (2 ^ P - 1) &&& (nI (2 ^ P - 1) ^^^ (-1 : Int32)) = nI 0 := by decide +kernel
theorem gd_full {G : FT} {c : AT} {P : Nat} (hP : P ≤ 6) : Gd G c P (2 ^ P - 1) := by
  unfold Gd
  rw [full_mask P (by omega)]
  unfold mIsOpen
  rw [openL_0 hP, if_pos (show nI 0 = 0 from rfl)]
  decide
theorem mfew_b {G : FT} {c : AT} {P : Nat} (hP : P ≤ 6) : ∀ (k i : Nat), i + k = P + 1 → (∀ s, s ≤ 2 ^ P - 1 → Gd G c P s → i ≤ cnt s) → ∃ m, mFewestL G c P k i = nI m ∧ Msp (Gd G c P) (2 ^ P - 1) m := by
  have hPP := pow_P hP
  have hf := cnt_full P (by omega)
  intro k
  induction k with
  | zero =>
    intro i hi h
    have := h _ (Nat.le_refl _) (gd_full hP)
    rw [hf.2] at this
    omega
  | succ k ih =>
    intro i hi h
    simp only [mFewestL]
    have inner : ∀ (kj j : Nat), j + kj = 2 ^ P → (∀ s, s < j → Gd G c P s → cnt s ≠ i) → ∃ m, mFewestI G c P i (mFewestL G c P k (i + 1)) kj j = nI m ∧ Msp (Gd G c P) (2 ^ P - 1) m := by
      intro kj
      induction kj with
      | zero =>
        intro j hj hn
        exact ih (i + 1) (by omega) (fun s hs hg => by
          have h1 := h s hs hg
          have h2 := hn s (by omega) hg
          omega)
      | succ kj ihj =>
        intro j hj hn
        have hc6 := cnt6 j (by omega)
        simp only [mFewestI]
        rw [mSize_cnt j (by omega)]
        by_cases h1 : cnt j = i
        · rw [if_pos (by rw [h1])]
          by_cases h2 : mIsOpen G c P (nI (2 ^ P - 1) &&& (nI j ^^^ (-1 : Int32))) = 0
          · rw [if_pos h2]
            refine ihj _ (by omega) (fun s hs hg => ?_)
            rcases Nat.lt_or_ge s j with q | q
            · exact hn s q hg
            · have e : s = j := by omega
              subst e
              exact absurd h2 hg
          · rw [if_neg h2]
            refine ⟨j, rfl, h2, by omega, fun s hs hg => ?_⟩
            have q1 := h s hs hg
            rcases Nat.lt_or_ge s j with q | q
            · have := hn s q hg; omega
            · omega
        · rw [if_neg (fun e => h1 ((nI_eq (by omega) (by omega)).mp e))]
          refine ihj _ (by omega) (fun s hs hg => ?_)
          rcases Nat.lt_or_ge s j with q | q
          · exact hn s q hg
          · have e : s = j := by omega
            subst e
            exact h1
    exact inner (2 ^ P) 0 (by omega) (fun s hs => absurd hs (Nat.not_lt_zero s))
theorem fewest_eq {F G : FT} {a c : AT} {P : Nat} (hP : P ≤ 6) (hac : a 22 = c 15) : gFewest F a P (2 ^ P - 1) = mFewest G c P := by
  have hPP := pow_P hP
  have hf := cnt_full P (by omega)
  obtain ⟨b, e1, b1, b2, b3, b4⟩ := fewL_b (F := F) (G := G) (a := a) (c := c) hP hac (2 ^ P - 1) 0 (2 ^ P - 1) (by omega) ⟨gd_full hP, Nat.le_refl _, Or.inr rfl, fun s hs => absurd hs (Nat.not_lt_zero s)⟩
  obtain ⟨m, e2, m1, m2, m3⟩ := mfew_b (G := G) (c := c) hP (P + 1) 0 (by omega) (fun s _ _ => Nat.zero_le _)
  unfold gFewest mFewest
  rw [e1, e2]
  congr 1
  have q1 := m3 b b2 b1
  rcases Nat.lt_or_ge m (2 ^ P - 1) with h | h
  · have q2 := b4 m h m1
    omega
  · have e : m = 2 ^ P - 1 := by omega
    subst e
    have q3 := (hf.1 b (by omega)).1
    rw [hf.2] at q1
    omega

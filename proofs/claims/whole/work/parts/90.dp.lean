def InvM (t : Nat → Nat) (P : Nat) (T : Nat → Int32) (ss pp w : Nat) (a2 : AT) : Prop := a2 15 = T ∧ w ≤ 5 ∧ (∀ s q, 1 ≤ s → s < 2 ^ P → q < P → (s < ss ∨ (s = ss ∧ q < pp)) → ((¬ a2 16 (s * 6 + q) = 0 ↔ HP t P s q) ∧ (HP t P s q → cnt s ≤ w + 1))) ∧ (w = 0 ∨ ∃ s q, s < 2 ^ P ∧ q < P ∧ HP t P s q ∧ w + 1 = cnt s)
theorem great_I {t : Nat → Nat} {P : Nat} (hP : P ≤ 6) {G : FT} {a2 : AT} (ht : ∀ q, q < 6 → a2 15 q = nI (t q) ∧ t q < 2 ^ P) {ss pp : Nat} (hss : ss < 2 ^ P) (hpp : pp < P) (hb : ss.testBit pp = true) : ∀ (k qq : Nat) (can : Int32), qq + k = P → (can = 0 ∨ can = 1) → (¬ mGreatI G a2 P ss pp k qq can = 0 ↔ (can = 1 ∨ ∃ q, qq ≤ q ∧ q < P ∧ q ≠ pp ∧ ss.testBit q = true ∧ (t q).testBit pp = true ∧ ¬ a2 16 (clr ss pp * 6 + q) = 0)) := by
  have hPP := pow_P hP
  have hh : ¬ mHas (nI ss) (nI pp) = 0 := by
    rw [mHas_bit ss (by omega) pp (by omega), hb, if_pos rfl]; decide
  have h1go : ∀ (k qq : Nat), ¬ mGreatI G a2 P ss pp k qq 1 = 0 := by
    intro k
    induction k with
    | zero => intro qq; show ¬ (1 : Int32) = 0; decide
    | succ k ih =>
      intro qq
      simp only [mGreatI]
      rw [if_neg hh, if_neg (show ¬ (1 : Int32) = 0 by decide)]
      exact ih _
  intro k
  induction k with
  | zero =>
    intro qq can hq hc
    show ¬ can = 0 ↔ _
    rcases hc with rfl | rfl
    · exact ⟨fun e => absurd rfl e, fun e => e.elim (fun z => absurd z (by decide)) (fun ⟨q, q1, q2, _⟩ => by omega)⟩
    · exact ⟨fun _ => Or.inl rfl, fun _ => by decide⟩
  | succ k ih =>
    intro qq can hq hc
    rcases hc with rfl | rfl
    · have hcl := clr_lt ss (by omega) pp (by omega)
      simp only [mGreatI]
      rw [if_neg hh, if_pos trivial, mHas_bit ss (by omega) qq (by omega), (ht qq (by omega)).1, mHas_bit (t qq) (by have := (ht qq (by omega)).2; omega) pp (by omega), clr_eq ss (by omega) pp (by omega), idxM (by omega)]
      have nx := ih (qq + 1) 0 (by omega) (Or.inl rfl)
      have skip : ¬ (qq ≠ pp ∧ ss.testBit qq = true ∧ (t qq).testBit pp = true ∧ ¬ a2 16 (clr ss pp * 6 + qq) = 0) → (¬ mGreatI G a2 P ss pp k (qq + 1) 0 = 0 ↔ ((0 : Int32) = 1 ∨ ∃ q, qq ≤ q ∧ q < P ∧ q ≠ pp ∧ ss.testBit q = true ∧ (t q).testBit pp = true ∧ ¬ a2 16 (clr ss pp * 6 + q) = 0)) := by
        intro hn
        rw [nx]
        constructor
        · rintro (e | ⟨q, q1, q2, q3⟩)
          · exact Or.inl e
          · exact Or.inr ⟨q, by omega, q2, q3⟩
        · rintro (e | ⟨q, q1, q2, q3⟩)
          · exact Or.inl e
          · rcases Nat.eq_or_lt_of_le q1 with e | e
            · subst e; exact absurd q3 hn
            · exact Or.inr ⟨q, e, q2, q3⟩
      by_cases c1 : qq = pp
      · rw [if_pos (by rw [c1])]
        exact skip (fun h => h.1 c1)
      · rw [if_neg (fun e => c1 ((nI_eq (by omega) (by omega)).mp e))]
        by_cases c2 : ss.testBit qq = true
        · rw [if_neg (show ¬ (if ss.testBit qq = true then (1 : Int32) else 0) = 0 by rw [if_pos c2]; decide)]
          by_cases c3 : (t qq).testBit pp = true
          · rw [if_neg (show ¬ (if (t qq).testBit pp = true then (1 : Int32) else 0) = 0 by rw [if_pos c3]; decide)]
            by_cases c4 : a2 16 (clr ss pp * 6 + qq) = 0
            · rw [if_pos c4]
              exact skip (fun h => h.2.2.2 c4)
            · rw [if_neg c4]
              exact ⟨fun _ => Or.inr ⟨qq, Nat.le_refl _, by omega, c1, c2, c3, c4⟩, fun _ => h1go k (qq + 1)⟩
          · rw [if_pos (show (if (t qq).testBit pp = true then (1 : Int32) else 0) = 0 from if_neg c3)]
            exact skip (fun h => c3 h.2.2.1)
        · rw [if_pos (show (if ss.testBit qq = true then (1 : Int32) else 0) = 0 from if_neg c2)]
          exact skip (fun h => c2 h.2.1)
    · exact ⟨fun _ => Or.inl rfl, fun _ => h1go (k + 1) qq⟩
theorem clr_less : ∀ s, s < 64 → ∀ p, p < 6 → s.testBit p = true → clr s p < s ∧ (s ≠ 2 ^ p → 1 ≤ clr s p) := by decide +kernel
theorem can_HP {t : Nat → Nat} {P : Nat} (hP : P ≤ 6) {G : FT} {T : Nat → Int32} {a2 : AT} (ht : ∀ q, q < 6 → T q = nI (t q) ∧ t q < 2 ^ P) {ss pp w : Nat} (hss : ss < 2 ^ P) (hpp : pp < P) (hb : ss.testBit pp = true) (hI : InvM t P T ss pp w a2) : (¬ mGreatI G a2 P ss pp P 0 (mCan0 ss pp) = 0 ↔ HP t P ss pp) := by
  have hPP := pow_P hP
  have hcl := clr_less ss (by omega) pp (by omega) hb
  have hc0 : (mCan0 ss pp = 0 ∧ ss ≠ 2 ^ pp) ∨ (mCan0 ss pp = 1 ∧ ss = 2 ^ pp) := by
    have h64 : 2 ^ pp < 2 ^ P := Nat.pow_lt_pow_right (by decide) hpp
    unfold mCan0
    rw [shl_n (by omega)]
    by_cases e : ss = 2 ^ pp
    · right; exact ⟨if_pos (by rw [e]), e⟩
    · left; exact ⟨if_neg (fun z => e ((nI_eq (by omega) (by omega)).mp z)), e⟩
  have hT : ∀ q, q < 6 → a2 15 q = nI (t q) ∧ t q < 2 ^ P := fun q hq => by rw [hI.1]; exact ht q hq
  rw [great_I hP hT hss hpp hb P 0 (mCan0 ss pp) (by omega) (hc0.elim (fun z => Or.inl z.1) (fun z => Or.inr z.1)), HP_rec hP (by omega) hpp]
  have key : ss ≠ 2 ^ pp → ∀ q, q < P → (¬ a2 16 (clr ss pp * 6 + q) = 0 ↔ HP t P (clr ss pp) q) := fun e q hq => (hI.2.2.1 (clr ss pp) q (hcl.2 e) (by omega) hq (Or.inl hcl.1)).1
  rcases hc0 with ⟨e1, e2⟩ | ⟨e1, e2⟩
  · rw [e1]
    constructor
    · rintro (z | ⟨q, q0, q1, q2, q3, q4, q5⟩)
      · exact absurd z (by decide)
      · exact ⟨hb, Or.inr ⟨q, q1, q2, q3, q4, (key e2 q q1).mp q5⟩⟩
    · rintro ⟨-, z | ⟨q, q1, q2, q3, q4, q5⟩⟩
      · exact absurd z e2
      · exact Or.inr ⟨q, Nat.zero_le _, q1, q2, q3, q4, (key e2 q q1).mpr q5⟩
  · rw [e1]
    exact ⟨fun _ => ⟨hb, Or.inl e2⟩, fun _ => Or.inl rfl⟩
theorem cnt_pos : ∀ s, s < 64 → ∀ p, p < 6 → s.testBit p = true → 1 ≤ cnt s := by decide +kernel
theorem great_M {t : Nat → Nat} {P : Nat} (hP : P ≤ 6) {G : FT} {T : Nat → Int32} (ht : ∀ q, q < 6 → T q = nI (t q) ∧ t q < 2 ^ P) {ss : Nat} (hs1 : 1 ≤ ss) (hss : ss < 2 ^ P) : ∀ (k pp w : Nat) (a2 : AT), pp + k = P → InvM t P T ss pp w a2 → ∃ w2, (mGreatM G P ss k pp (nI w) a2).1 = nI w2 ∧ InvM t P T ss P w2 (mGreatM G P ss k pp (nI w) a2).2 := by
  have hPP := pow_P hP
  have hc6 := cnt6 ss (by omega)
  intro k
  induction k with
  | zero =>
    intro pp w a2 hp hI
    have hp : pp = P := hp
    subst hp
    exact ⟨w, rfl, hI⟩
  | succ k ih =>
    intro pp w a2 hp hI
    have hpp : pp < P := by omega
    -- writing v at the place of (ss, pp), with w2 as the new most
    have put : ∀ (v : Int32) (w2 : Nat), w ≤ w2 → w2 ≤ 5 → ((¬ v = 0) ↔ HP t P ss pp) → (HP t P ss pp → cnt ss ≤ w2 + 1) → (w2 = w ∨ (HP t P ss pp ∧ w2 + 1 = cnt ss)) → InvM t P T ss (pp + 1) w2 (updA a2 16 (upd (a2 16) (ss * 6 + pp) v)) := by
      intro v w2 hw hw5 h1 h2 h3
      obtain ⟨i1, i2, i3, i4⟩ := hI
      refine ⟨i1, hw5, fun s q hs hs2 hq hor => ?_, ?_⟩
      · show (¬ upd (a2 16) (ss * 6 + pp) v (s * 6 + q) = 0 ↔ _) ∧ _
        by_cases e : s = ss ∧ q = pp
        · obtain ⟨e1, e2⟩ := e
          subst e1; subst e2
          rw [pk_us]
          exact ⟨h1, h2⟩
        · rw [pk_un (show s * 6 + q ≠ ss * 6 + pp by omega)]
          obtain ⟨j1, j2⟩ := i3 s q hs hs2 hq (by omega)
          exact ⟨j1, fun z => by have := j2 z; omega⟩
      · rcases h3 with e | ⟨e1, e2⟩
        · rw [e]; exact i4
        · exact Or.inr ⟨ss, pp, hss, hpp, e1, e2⟩
    have hw5 := hI.2.1
    simp only [mGreatM]
    rw [idxM (by omega), mHas_bit ss (by omega) pp (by omega), mSize_cnt ss (by omega)]
    by_cases hb : ss.testBit pp = true
    · rw [if_neg (show ¬ (if ss.testBit pp = true then (1 : Int32) else 0) = 0 by rw [if_pos hb]; decide)]
      have hcan := can_HP (G := G) hP ht hss hpp hb hI
      have hcp := cnt_pos ss (by omega) pp (by omega) hb
      by_cases hc : mGreatI G a2 P ss pp P 0 (mCan0 ss pp) = 0
      · rw [if_pos hc]
        have hn : ¬ HP t P ss pp := fun z => hcan.mpr z hc
        exact ih _ _ _ (by omega) (put 0 w (Nat.le_refl _) hw5 ⟨fun z => absurd rfl z, fun z => absurd z hn⟩ (fun z => absurd z hn) (Or.inl rfl))
      · rw [if_neg hc, show nI (cnt ss) - 1 = nI (cnt ss - 1) from pk_sub (b := 1) hcp]
        have hy := hcan.mp hc
        have h11 : ¬ (1 : Int32) = 0 ↔ HP t P ss pp := ⟨fun _ => hy, fun _ => by decide⟩
        by_cases hle : cnt ss - 1 ≤ w
        · rw [if_pos (nI_le hle (by omega))]
          exact ih _ _ _ (by omega) (put 1 w (Nat.le_refl _) hw5 h11 (fun _ => by omega) (Or.inl rfl))
        · rw [if_neg (nI_ge (by omega) (by omega))]
          exact ih _ _ _ (by omega) (put 1 (cnt ss - 1) (by omega) (by omega) h11 (fun _ => by omega) (Or.inr ⟨hy, by omega⟩))
    · rw [if_pos (show (if ss.testBit pp = true then (1 : Int32) else 0) = 0 from if_neg hb)]
      have hn : ¬ HP t P ss pp := fun z => hb ((HP_rec hP (by omega) hpp).mp z).1
      exact ih _ _ _ (by omega) (put 0 w (Nat.le_refl _) hw5 ⟨fun z => absurd rfl z, fun z => absurd z hn⟩ (fun z => absurd z hn) (Or.inl rfl))
theorem great_L {t : Nat → Nat} {P : Nat} (hP : P ≤ 6) {G : FT} {T : Nat → Int32} (ht : ∀ q, q < 6 → T q = nI (t q) ∧ t q < 2 ^ P) : ∀ (k ss w : Nat) (a1 : AT), ss + k = 2 ^ P → 1 ≤ ss → InvM t P T ss 0 w a1 → ∃ w2, (mGreatL G P k ss (nI w) a1).1 = nI w2 ∧ InvM t P T (2 ^ P) 0 w2 (mGreatL G P k ss (nI w) a1).2 := by
  intro k
  induction k with
  | zero =>
    intro ss w a1 hs _ hI
    have hs : ss = 2 ^ P := hs
    subst hs
    exact ⟨w, rfl, hI⟩
  | succ k ih =>
    intro ss w a1 hs h1 hI
    obtain ⟨w2, e, hI2⟩ := great_M (G := G) hP ht h1 (by omega) P 0 w a1 (by omega) hI
    simp only [mGreatL]
    rw [e]
    refine ih (ss + 1) w2 _ (by omega) (by omega) ⟨hI2.1, hI2.2.1, fun s q hs hs2 hq hor => hI2.2.2.1 s q hs hs2 hq (by omega), hI2.2.2.2⟩
theorem bset_ltP : ∀ (l : List Nat) (u P : Nat), (∀ x ∈ l, x < P) → u < 2 ^ P → bset l u < 2 ^ P
  | [], u, P, _, hu => hu
  | x :: l, u, P, h, hu => bset_ltP l _ P (fun y hy => h y (List.mem_cons_of_mem _ hy)) (Nat.or_lt_two_pow hu (Nat.pow_lt_pow_right (by decide) (h x List.mem_cons_self)))
theorem cnt_len {P : Nat} (hP : P ≤ 6) {l : List Nat} (h : ∀ x ∈ l, x < P) (hn : l.Nodup) : cnt (bset l 0) = l.length := by
  have := (cnt_bset l 0 (fun x hx => Nat.lt_of_lt_of_le (h x hx) hP) (by decide)).2.mpr ⟨hn, fun x _ => Nat.zero_testBit x⟩
  rw [this, show cnt 0 = 0 by decide, Nat.zero_add]
theorem nodup_rev {l : List Nat} (h : l.Nodup) : l.reverse.Nodup := List.pairwise_reverse.mpr (List.Pairwise.imp (fun q => Ne.symm q) h)
theorem longest_eq {n P : Nat} {F G F2 G2 : FT} {a c : AT} (hS : RS n P F G) (hA : RA n P a c) : gLongest F2 a P = (mGreat G2 c P).1 := by
  have hP := hS.2.2.2.2.2.1
  have hPP := pow_P hP
  have ht := hA.tq hP
  generalize htt : (fun q => (a 22 q).toNatClampNeg) = t at ht
  have htl : ∀ q, q < 6 → t q < 2 ^ P := fun q hq => (ht q hq).2.1
  have hT : ∀ q, q < 6 → c 15 q = nI (t q) ∧ t q < 2 ^ P := fun q hq => ⟨by rw [← hA.2.2.2.2.1]; exact (ht q hq).1, htl q hq⟩
  obtain ⟨w, e, hI⟩ := great_L (G := G2) hP hT (2 ^ P - 1) 1 0 c (by omega) (Nat.le_refl _) ⟨rfl, by omega, fun s q h1 _ _ hor => by omega, Or.inl rfl⟩
  unfold gLongest mGreat
  rw [show (mGreatL G2 P (2 ^ P - 1) 1 0 c).1 = nI w from e, show gLongestL F2 a P P 0 0 = nI (mx t P 0 0) from gLongestL_n hP ht P 0 0 (by omega) (by omega)]
  congr 1
  apply Nat.le_antisymm
  · rcases mx_att (t := t) P 0 0 with h | ⟨i, h1, h2, h3⟩
    · omega
    · obtain ⟨m, m1, m2, m3, m4⟩ := dfs_att hP htl 5 i (2 ^ i) (by omega)
      rw [h3, ← m1]
      have hni : i ∉ m := fun z => by
        have := (m3 i z).2
        rw [Nat.testBit_two_pow_self] at this
        cases this
      have hall : ∀ x ∈ (i :: m).reverse, x < P := fun x hx => by
        rcases List.mem_cons.mp (List.mem_reverse.mp hx) with z | z
        · omega
        · exact (m3 x z).1
      have hnd : (i :: m).reverse.Nodup := nodup_rev (List.nodup_cons.mpr ⟨hni, m2⟩)
      have hlr := lk_rev m4
      have hlen : (i :: m).reverse.length = m.length + 1 := by rw [List.length_reverse, List.length_cons]
      generalize (i :: m).reverse = r at hall hnd hlr hlen
      cases r with
      | nil => simp at hlen
      | cons p r =>
        have hHP : HP t P (bset (p :: r) 0) p := ⟨r, hnd, hall, hlr, rfl⟩
        have hpb : (bset (p :: r) 0).testBit p = true := by rw [bset_bit0]; simp
        have hs1 : 1 ≤ bset (p :: r) 0 := by
          rcases Nat.eq_zero_or_pos (bset (p :: r) 0) with z | z
          · rw [z, Nat.zero_testBit] at hpb; cases hpb
          · exact z
        have hs2 := bset_ltP (p :: r) 0 P hall (by omega)
        have := (hI.2.2.1 _ p hs1 hs2 (hall p List.mem_cons_self) (Or.inl hs2)).2 hHP
        rw [cnt_len hP hall hnd, hlen] at this
        omega
  · rcases hI.2.2.2 with h | ⟨s, q, s1, s2, ⟨m, m1, m2, m3, m4⟩, s4⟩
    · omega
    · have hlen6 := nodup_len 6 (q :: m) m1 (fun x hx => Nat.lt_of_lt_of_le (m2 x hx) hP)
      rw [← m4, cnt_len hP m2 m1] at s4
      have hall : ∀ x ∈ (q :: m).reverse, x < P := fun x hx => m2 x (List.mem_reverse.mp hx)
      have hnd : (q :: m).reverse.Nodup := nodup_rev m1
      have hlk := lr_rev m3
      have hlen : (q :: m).reverse.length = (q :: m).length := List.length_reverse
      generalize (q :: m).reverse = r at hall hnd hlk hlen
      cases r with
      | nil => simp at hlen
      | cons p r =>
        obtain ⟨n1, n2⟩ := List.nodup_cons.mp hnd
        simp only [List.length_cons] at hlen hlen6 s4
        have hp := hall p List.mem_cons_self
        have h1 := dfs_ge (t := t) 5 p (2 ^ p) r (by omega) n2 (fun x hx => ⟨Nat.lt_of_lt_of_le (hall x (List.mem_cons_of_mem _ hx)) hP, Nat.testBit_two_pow_of_ne (show p ≠ x from fun z => n1 (by rw [z]; exact hx))⟩) hlk
        have h2 := (mx_ge (t := t) P 0 0).2 p (Nat.zero_le _) (by omega)
        omega
theorem great_keep {G : FT} {P : Nat} {c : AT} {j : Nat} (hj : j ≠ 16) : (mGreat G c P).2 j = c j := by
  have hM : ∀ (ss k pp : Nat) (v : Int32) (a2 : AT), (mGreatM G P ss k pp v a2).2 j = a2 j := by
    intro ss k
    induction k with
    | zero => intro pp v a2; rfl
    | succ k ih =>
      intro pp v a2
      simp only [mGreatM]
      repeat' split
      all_goals rw [ih]; exact updA_n hj
  have hL : ∀ (k ss : Nat) (u : Int32) (a1 : AT), (mGreatL G P k ss u a1).2 j = a1 j := by
    intro k
    induction k with
    | zero => intro ss u a1; rfl
    | succ k ih => intro ss u a1; simp only [mGreatL]; rw [ih, hM]
  exact hL _ _ _ _

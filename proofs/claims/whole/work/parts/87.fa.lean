/-! Showing a path by hand. -/
theorem mBehind_enc {y : Nat} {t : List Nat} (h : OkL (y :: t)) : mBehind (nI (encM (y :: t))) = nI (encM t) := by
  have h1 := encM_b h
  have h2 := digM_b h
  have h3 := digM_b h.tail
  have hy := h.2 y List.mem_cons_self
  have h6 := h.1
  simp only [List.length_cons] at h6
  have hd : digM (y :: t) = y + 8 * digM t := rfl
  unfold mBehind
  rw [mMany_enc h, pk_andN (by omega) 18 (by decide), show encM (y :: t) % 2 ^ 18 = digM (y :: t) by unfold encM; omega, pk_shrN (by omega) _ 3 (by decide), show digM (y :: t) / 2 ^ 3 = digM t by omega, show nI (y :: t).length - 1 = nI t.length from pk_sub (a := t.length + 1) (b := 1) (by omega), pk_shlN _ 18 (by decide) (by omega), nx_or, Nat.or_comm, show t.length * 2 ^ 18 = 2 ^ 18 * t.length by omega, ← Nat.two_pow_add_eq_or_of_lt (i := 18) (by omega)]
  congr 1
  unfold encM
  omega
def cnt (s : Nat) : Nat := (List.range 6).countP (fun p => s.testBit p)
theorem mSize_cnt : ∀ s, s < 64 → mSize (nI s) = nI (cnt s) := by decide +kernel
theorem cnt_or : ∀ s, s < 64 → ∀ x, x < 6 → cnt (s ||| 2 ^ x) = cnt s + (if s.testBit x then 0 else 1) := by decide +kernel
theorem cnt_bset : ∀ (l : List Nat) (u : Nat), (∀ x ∈ l, x < 6) → u < 64 → cnt (bset l u) ≤ cnt u + l.length ∧ (cnt (bset l u) = cnt u + l.length ↔ l.Nodup ∧ ∀ x ∈ l, u.testBit x = false)
  | [], u, _, _ => ⟨Nat.le_refl _, by simp [bset]⟩
  | x :: t, u, h, hu => by
    have hx := h x List.mem_cons_self
    have hu2 : u ||| 2 ^ x < 64 := Nat.or_lt_two_pow (n := 6) hu (Nat.pow_lt_pow_right (by decide) hx)
    obtain ⟨i1, i2⟩ := cnt_bset t (u ||| 2 ^ x) (fun y hy => h y (List.mem_cons_of_mem _ hy)) hu2
    have hc := cnt_or u hu x hx
    show cnt (bset t (u ||| 2 ^ x)) ≤ cnt u + (t.length + 1) ∧ (cnt (bset t (u ||| 2 ^ x)) = cnt u + (t.length + 1) ↔ _)
    cases hb : u.testBit x with
    | true =>
      rw [hb, if_pos rfl] at hc
      refine ⟨by omega, ⟨fun e => by omega, fun ⟨_, e⟩ => ?_⟩⟩
      have := e x List.mem_cons_self
      rw [hb] at this
      cases this
    | false =>
      rw [hb, if_neg (by decide)] at hc
      refine ⟨by omega, ?_⟩
      rw [show (cnt (bset t (u ||| 2 ^ x)) = cnt u + (t.length + 1)) ↔ (cnt (bset t (u ||| 2 ^ x)) = cnt (u ||| 2 ^ x) + t.length) by omega, i2]
      constructor
      · rintro ⟨n1, n2⟩
        refine ⟨List.nodup_cons.mpr ⟨fun hm => ?_, n1⟩, fun y hy => ?_⟩
        · have := n2 x hm
          rw [Nat.testBit_or, Nat.testBit_two_pow_self, Bool.or_true] at this
          cases this
        · rcases List.mem_cons.mp hy with e | e
          · rw [e]; exact hb
          · have := n2 y e
            rw [Nat.testBit_or] at this
            exact (Bool.or_eq_false_iff.mp this).1
      · rintro ⟨n1, n2⟩
        obtain ⟨m1, m2⟩ := List.nodup_cons.mp n1
        refine ⟨m2, fun y hy => ?_⟩
        rw [Nat.testBit_or, n2 y (List.mem_cons_of_mem _ hy), Nat.testBit_two_pow_of_ne (show x ≠ y from fun e => m1 (by rw [e]; exact hy))]
        rfl
theorem size_nodup {l : List Nat} (h : OkL l) : mSize (mMembers l.length (nI (encM l))) = nI l.length ↔ l.Nodup := by
  have h6 := h.1
  have hb := bset_lt l 0 h.2 (by decide)
  obtain ⟨i1, i2⟩ := cnt_bset l 0 h.2 (by decide)
  have h0 : cnt 0 = 0 := by decide
  rw [h0, Nat.zero_add] at i1 i2
  rw [mMembers_enc h, mSize_cnt _ hb, nI_eq (by omega) (by omega), i2]
  exact ⟨fun q => q.1, fun q => ⟨q, fun x _ => Nat.zero_testBit x⟩⟩
theorem getD_eq {l : List Nat} {q : Nat} (h : q < l.length) : l.getD q 0 = l[q] := by rw [List.getD_eq_getElem?_getD, List.getElem?_eq_getElem h]; rfl
theorem nodup_take {l : List Nat} : l.Nodup ↔ ∀ q, q < l.length → l.getD q 0 ∉ l.take q := by
  constructor
  · intro hn q hq hm
    rw [getD_eq hq] at hm
    obtain ⟨i, hi, he⟩ := List.mem_iff_getElem.mp hm
    rw [List.getElem_take] at he
    rw [List.length_take] at hi
    have := List.pairwise_iff_getElem.mp hn i q (by omega) hq (by omega)
    exact this he
  · intro h
    refine List.pairwise_iff_getElem.mpr (fun i j hi hj hij he => h j hj ?_)
    rw [getD_eq hj, ← he]
    exact List.mem_iff_getElem.mpr ⟨i, by rw [List.length_take]; omega, by rw [List.getElem_take]⟩
def Lnk (c : AT) (l : List Nat) (q : Nat) : Prop := ¬ mHas (c 15 (l.getD q 0)) (nI (l.getD (q + 1) 0)) = 0
theorem bset_app : ∀ (l m : List Nat) (u : Nat), bset (l ++ m) u = bset m (bset l u)
  | [], m, u => rfl
  | x :: l, m, u => bset_app l m (u ||| 2 ^ x)
theorem bset_take {l : List Nat} {i : Nat} (hi : i < l.length) : bset (l.take (i + 1)) 0 = bset (l.take i) 0 ||| 2 ^ (l.getD i 0) := by
  rw [List.take_add_one, List.getElem?_eq_getElem hi, Option.toList_some, bset_app, getD_eq hi]
  rfl
theorem bitC : ∀ s, s < 64 → ∀ x, x < 6 → ((nI s >>> (nI x &&& 31)) &&& (1 : Int32)) = if s.testBit x then 1 else 0 := by decide +kernel
theorem gpath_eq {n P : Nat} {F G : FT} {a c : AT} (hS : RS n P F G) (hA : RA n P a c) {l : List Nat} (h : OkL l) (hP : ∀ z ∈ l, z < P) : ∀ (k i : Nat), i + k = l.length → (¬ gIsPathL F a P (nI (encC l)) k i (nI (bset (l.take i) 0)) = 0 ↔ (l ≠ [] ∧ ∀ q, i ≤ q → q < l.length → l.getD q 0 ∉ l.take q ∧ (0 < q → Lnk c l (q - 1)))) := by
  have h6 := h.1
  have hP6 := hS.2.2.2.2.2.1
  have hsz : nI (szN (nI (encC l))) = nI l.length := by rw [← rSize_n, rSize_enc h]
  intro k
  induction k with
  | zero =>
    intro i hi
    simp only [gIsPathL]
    rw [hsz]
    cases l with
    | nil => exact ⟨fun e => absurd rfl e, fun e => absurd rfl e.1⟩
    | cons y t =>
      rw [if_neg (show ¬ nI (y :: t).length ≤ 0 from nI_ge (a := 0) (by simp) (by omega))]
      exact ⟨fun _ => ⟨by simp, fun q h1 h2 => by omega⟩, fun _ => by decide⟩
  | succ k ih =>
    intro i hi
    have hil : i < l.length := by omega
    have hm : l.getD i 0 ∈ l := by rw [getD_eq hil]; exact List.getElem_mem hil
    have hx6 := h.2 _ hm
    have hxP := hP _ hm
    have hb := bset_lt (l.take i) 0 (fun x hx => h.2 x (List.mem_of_mem_take hx)) (by decide)
    have hrp : rParty (nI (encC l)) (nI i) = nI (l.getD i 0) := by rw [rParty_enc h (by omega), if_pos hil]
    have hold : ∀ z, z < P → ¬ gHolds F a (nI z) = 0 := by
      intro z hz
      rw [holds_eq a hS]
      unfold isPartyF
      rw [if_neg (nI_pos (by omega)), hS.2.2.2.1, if_neg (nI_ge hz (by omega))]
      decide
    simp only [gIsPathL]
    rw [hrp, if_neg (hold _ hxP), bitC _ hb _ hx6, bset_bit, Nat.zero_testBit, Bool.false_or]
    have hgo := ih (i + 1) (by omega)
    rw [bset_take hil] at hgo
    rw [shl_n hx6, nx_or]
    have spl : (∀ q, i ≤ q → q < l.length → l.getD q 0 ∉ l.take q ∧ (0 < q → Lnk c l (q - 1))) ↔ ((l.getD i 0 ∉ l.take i ∧ (0 < i → Lnk c l (i - 1))) ∧ ∀ q, i + 1 ≤ q → q < l.length → l.getD q 0 ∉ l.take q ∧ (0 < q → Lnk c l (q - 1))) := by
      constructor
      · intro H; exact ⟨H i (Nat.le_refl _) hil, fun q h1 h2 => H q (by omega) h2⟩
      · intro H q h1 h2
        rcases Nat.eq_or_lt_of_le h1 with e | e
        · subst e; exact H.1
        · exact H.2 q e h2
    rw [spl]
    by_cases hmem : l.getD i 0 ∈ l.take i
    · rw [if_neg (show ¬ (if decide (l.getD i 0 ∈ l.take i) = true then (1 : Int32) else 0) = 0 by rw [if_pos (decide_eq_true hmem)]; decide)]
      exact ⟨fun e => absurd rfl e, fun e => absurd hmem e.2.1.1⟩
    · rw [if_pos (show (if decide (l.getD i 0 ∈ l.take i) = true then (1 : Int32) else 0) = 0 from if_neg (fun e => hmem (of_decide_eq_true e)))]
      by_cases hi0 : i = 0
      · subst hi0
        rw [if_pos (show nI 0 ≤ 0 by decide), hgo]
        exact ⟨fun ⟨e1, e2⟩ => ⟨e1, ⟨hmem, fun q => absurd q (by decide)⟩, e2⟩, fun ⟨e1, _, e2⟩ => ⟨e1, e2⟩⟩
      · rw [if_neg (show ¬ nI i ≤ 0 from nI_ge (a := 0) (by omega) (by omega))]
        have hil1 : i - 1 < l.length := by omega
        have hm1 : l.getD (i - 1) 0 ∈ l := by rw [getD_eq hil1]; exact List.getElem_mem hil1
        have hp1 : rParty (nI (encC l)) (nI i - 1) = nI (l.getD (i - 1) 0) := by
          rw [show nI i - 1 = nI (i - 1) from pk_sub (a := i) (b := 1) (by omega), rParty_enc h (by omega), if_pos hil1]
        have hj : gJoins F a (nI (l.getD (i - 1) 0)) (nI (l.getD i 0)) = mHas (c 15 (l.getD (i - 1) 0)) (nI (l.getD i 0)) := by
          have := h.2 _ hm1
          unfold gJoins
          rw [if_neg (hold _ (hP _ hm1)), if_neg (hold _ hxP), nI_clamp (by omega), hA.2.2.2.2.1]
          rfl
        rw [hp1, hj]
        have hlk : Lnk c l (i - 1) ↔ ¬ mHas (c 15 (l.getD (i - 1) 0)) (nI (l.getD i 0)) = 0 := by
          unfold Lnk
          rw [show i - 1 + 1 = i by omega]
        by_cases hl : mHas (c 15 (l.getD (i - 1) 0)) (nI (l.getD i 0)) = 0
        · rw [if_pos hl]
          exact ⟨fun e => absurd rfl e, fun e => absurd (e.2.1.2 (by omega)) (fun q => hlk.mp q hl)⟩
        · rw [if_neg hl, hgo]
          exact ⟨fun ⟨e1, e2⟩ => ⟨e1, ⟨hmem, fun _ => hlk.mpr hl⟩, e2⟩, fun ⟨e1, _, e2⟩ => ⟨e1, e2⟩⟩
theorem mpathL_eq {G : FT} {c : AT} {l : List Nat} (h : OkL l) (h17 : G 17 = nI (encM l)) {x : Int32} : ∀ (k i : Nat) (u : Int32), i + k + 1 = l.length → (u = 0 ∨ u = 1) → (¬ mIsPathL G c l.length x k i u = 0 ↔ (u = 1 ∧ ∀ q, i ≤ q → q + 1 < l.length → Lnk c l q)) := by
  have h6 := h.1
  intro k
  induction k with
  | zero =>
    intro i u hi hu
    simp only [mIsPathL]
    rcases hu with rfl | rfl
    · exact ⟨fun e => absurd rfl e, fun e => absurd e.1 (by decide)⟩
    · exact ⟨fun _ => ⟨rfl, fun q h1 h2 => by omega⟩, fun _ => by decide⟩
  | succ k ih =>
    intro i u hi hu
    have hm : l.getD i 0 ∈ l := by rw [getD_eq (by omega)]; exact List.getElem_mem (by omega)
    have hx6 := h.2 _ hm
    simp only [mIsPathL]
    rcases hu with rfl | rfl
    · rw [if_pos rfl, ih (i + 1) 0 (by omega) (Or.inl rfl)]
      exact ⟨fun e => absurd e.1 (by decide), fun e => absurd e.1 (by decide)⟩
    · rw [if_neg (show ¬ (1 : Int32) = 0 by decide), h17, mMember_enc h (by omega), mMember_enc h (by omega), nI_clamp (by omega)]
      have spl : (∀ q, i ≤ q → q + 1 < l.length → Lnk c l q) ↔ (Lnk c l i ∧ ∀ q, i + 1 ≤ q → q + 1 < l.length → Lnk c l q) := by
        constructor
        · intro H; exact ⟨H i (Nat.le_refl _) (by omega), fun q h1 h2 => H q (by omega) h2⟩
        · intro H q h1 h2
          rcases Nat.eq_or_lt_of_le h1 with e | e
          · subst e; exact H.1
          · exact H.2 q e h2
      rw [spl]
      by_cases hl : mHas (c 15 (l.getD i 0)) (nI (l.getD (i + 1) 0)) = 0
      · rw [if_pos hl, ih (i + 1) 0 (by omega) (Or.inl rfl)]
        exact ⟨fun e => absurd e.1 (by decide), fun e => absurd hl e.2.1⟩
      · rw [if_neg hl, ih (i + 1) 1 (by omega) (Or.inr rfl)]
        exact ⟨fun ⟨e1, e2⟩ => ⟨e1, hl, e2⟩, fun ⟨e1, _, e2⟩ => ⟨e1, e2⟩⟩
theorem path_eq {n P : Nat} {F G : FT} {a c : AT} (hS : RS n P F G) (hA : RA n P a c) {l : List Nat} (h : OkL l) (hP : ∀ z ∈ l, z < P) (h17 : G 17 = nI (encM l)) {x : Int32} (hne : l ≠ []) : (¬ mIsPath G c l.length x = 0) ↔ (rFirst (nI (encC l)) = x ∧ ¬ gIsPath F a P (nI (encC l)) = 0 ∧ ¬ isLeaderF F a (rLast (nI (encC l))) = 0) := by
  have h6 := h.1
  have hl : 0 < l.length := List.length_pos_iff.mpr hne
  have hll : l.length - 1 < l.length := by omega
  have hlm : l.getD (l.length - 1) 0 ∈ l := by rw [getD_eq hll]; exact List.getElem_mem hll
  have hfst : rFirst (nI (encC l)) = nI (l.getD 0 0) := by
    unfold rFirst
    rw [show (0 : Int32) = nI 0 from rfl, rParty_enc h (by decide), if_pos hl]
  have hmf : mMember (nI (encM l)) 0 = nI (l.getD 0 0) := mMember_enc h (i := 0) hl
  have hgp : ¬ gIsPath F a P (nI (encC l)) = 0 ↔ (l ≠ [] ∧ ∀ q, 0 ≤ q → q < l.length → l.getD q 0 ∉ l.take q ∧ (0 < q → Lnk c l (q - 1))) := by
    unfold gIsPath
    have hsz : szN (nI (encC l)) = l.length := by
      have e := (rSize_n (nI (encC l))).symm.trans (rSize_enc h)
      have := szN_le (nI (encC l))
      exact (nI_eq (by omega) (by omega)).mp e
    rw [hsz]
    exact gpath_eq hS hA h hP l.length 0 (by omega)
  have hgp2 : ¬ gIsPath F a P (nI (encC l)) = 0 ↔ (l.Nodup ∧ ∀ q, 0 ≤ q → q + 1 < l.length → Lnk c l q) := by
    rw [hgp, nodup_take]
    constructor
    · rintro ⟨-, H⟩
      exact ⟨fun q hq => (H q (Nat.zero_le _) hq).1, fun q _ hq => (H (q + 1) (Nat.zero_le _) hq).2 (by omega)⟩
    · rintro ⟨H1, H2⟩
      refine ⟨hne, fun q _ hq => ⟨H1 q hq, fun h0 => H2 (q - 1) (Nat.zero_le _) (by omega)⟩⟩
  rw [hfst, hgp2, rLast_enc h hne, leader_eq hS (hP _ hlm)]
  unfold mIsPath
  rw [if_neg (show ¬ nI l.length = 0 from fun e => by have := (nI_eq (b := 0) (by omega) (by decide)).mp e; omega), h17, hmf, show nI l.length - 1 = nI (l.length - 1) from pk_sub (b := 1) hl, mMember_enc h hll]
  by_cases e1 : nI (l.getD 0 0) = x
  · rw [if_pos e1]
    by_cases e2 : mSize (mMembers l.length (nI (encM l))) = nI l.length
    · rw [if_pos e2]
      have hn := (size_nodup h).mp e2
      by_cases e3 : mHas (G 7) (nI (l.getD (l.length - 1) 0)) = 0
      · rw [if_pos e3]
        exact ⟨fun e => absurd rfl e, fun e => absurd e3 e.2.2⟩
      · rw [if_neg e3, mpathL_eq h h17 (l.length - 1) 0 1 (by omega) (Or.inr rfl)]
        exact ⟨fun ⟨_, q⟩ => ⟨e1, ⟨hn, q⟩, e3⟩, fun ⟨_, ⟨_, q⟩, _⟩ => ⟨rfl, q⟩⟩
    · rw [if_neg e2]
      exact ⟨fun e => absurd rfl e, fun e => absurd ((size_nodup h).mpr e.2.1.1) e2⟩
  · rw [if_neg e1]
    exact ⟨fun e => absurd rfl e, fun e => absurd e.1 e1⟩
theorem known1 {G : FT} {c : AT} {mm n : Nat} : ∀ (k i : Nat), mIsKnownL G c mm n k i 1 = 1 := by
  intro k
  induction k with
  | zero => intro i; rfl
  | succ k ih => intro i; simp only [mIsKnownL]; rw [if_neg (show ¬ (1 : Int32) = 0 by decide)]; exact ih (i + 1)
theorem knownL_eq {n P : Nat} {F G : FT} {a c : AT} (hS : RS n P F G) (hA : RA n P a c) {y : Nat} {t : List Nat} (h : OkL (y :: t)) (ht : t ≠ []) (h17 : G 17 = nI (encM (y :: t))) {j : Nat} (hj : j < P) (hlast : (y :: t).getD t.length 0 = j) : ∀ (k i : Nat), i + k = n → mayShowL F a n P (nI j) (nI (encC (y :: t))) k i = mIsKnownL G c (t.length + 1) n k i 0 := by
  have hn := hS.2.1
  have hP := hS.2.2.2.2.2.1
  intro k
  induction k with
  | zero => intro i _; rfl
  | succ k ih =>
    intro i hi
    have hll : t.length < (y :: t).length := by simp
    obtain ⟨l2, k1, k2, k3, k4, k5, k6⟩ := hA.2.2.2.2.2.2.2.1 i (by omega) j (by omega)
    simp only [mayShowL, mIsKnownL]
    rw [if_pos trivial, hashkey_eq c hS (by omega) hj, rRest_enc h, h17, show nI (t.length + 1) - 1 = nI t.length from pk_sub (a := t.length + 1) (b := 1) (by omega), mMember_enc h hll, hlast, idxM (by omega), mBehind_enc h, ← hA.2.2.2.1, k3, k4]
    by_cases hl : l2 = []
    · rw [if_pos (k5.mpr hl), if_neg (fun e => ht ((encC_eq k1 h.tail).mp e ▸ hl))]
      exact ih (i + 1) (by omega)
    · rw [if_neg (fun e => hl (k5.mp e))]
      by_cases he : l2 = t
      · rw [if_pos ((encC_eq k1 h.tail).mpr he), if_pos ((encM_eq k1 h.tail).mpr he), known1]
      · rw [if_neg (fun e => he ((encC_eq k1 h.tail).mp e)), if_neg (fun e => he ((encM_eq k1 h.tail).mp e))]
        exact ih (i + 1) (by omega)
theorem known_eq {n P : Nat} {F G : FT} {a c : AT} (hS : RS n P F G) (hA : RA n P a c) {l : List Nat} (h : OkL l) (hP : ∀ z ∈ l, z < P) (h17 : G 17 = nI (encM l)) (hne : l ≠ []) : mayShowF F a n P (rLast (nI (encC l))) (nI (encC l)) = mIsKnown G c l.length n := by
  have h6 := h.1
  have hll : l.length - 1 < l.length := by have := List.length_pos_iff.mpr hne; omega
  have hlm : l.getD (l.length - 1) 0 ∈ l := by rw [getD_eq hll]; exact List.getElem_mem hll
  rw [rLast_enc h hne]
  obtain ⟨y, t, rfl⟩ := List.exists_cons_of_ne_nil hne
  unfold mayShowF mIsKnown
  rw [rRest_enc h]
  by_cases ht : t = []
  · rw [if_pos ((encC_z h.tail).mpr ht), if_pos (by rw [ht]; rfl)]
  · have hl : 0 < t.length := List.length_pos_iff.mpr ht
    simp only [List.length_cons] at h6
    rw [if_neg (fun e => ht ((encC_z h.tail).mp e)), if_neg (show ¬ nI (y :: t).length = 1 from fun e => by have := (nI_eq (a := t.length + 1) (b := 1) (by omega) (by decide)).mp e; omega)]
    exact knownL_eq hS hA h ht h17 (hP _ hlm) rfl n 0 (by omega)
theorem bc_size : ∀ s, s < 64 → bitCountF (nI s) = mSize (nI s) := by decide +kernel
theorem fa_show : FA_show RelX := by
  intro n P E mm F a G c x hB
  obtain ⟨l, h1, h2, h15, h17, rfl⟩ := hB.mm
  obtain ⟨hS, hL, hA, -⟩ := hB.get
  have h6 := h1.1
  have hn := hS.2.1
  have hP6 := hS.2.2.2.2.2.1
  unfold showF mShow mFail
  rw [isArc_eq a c (hS.c0 0) x]
  by_cases hx : mIsArc (upd G 2 0) c x = 0
  · rw [if_pos hx, if_pos hx]; exact ⟨rfl, fun h => absurd h (Nat.succ_ne_zero _), RelX.mk hS hL hA⟩
  rw [if_neg hx, if_neg hx]
  obtain ⟨i, hi, rfl⟩ := arc_n (hS.c0 0) hx
  rw [nI_clamp (by omega), h15, h17]
  have h17' : (upd G 2 0) 17 = nI (encM l) := h17
  by_cases hne : l = []
  · subst hne
    have hg : gIsPath F a P (nI (encC [])) = 0 := rfl
    have hm : mIsPath (upd G 2 0) c ([] : List Nat).length (c 11 i) = 0 := rfl
    rw [if_pos hg, if_pos hm]
    have fin : RelX F a (upd (upd G 2 0) 2 2) c := RelX.mk hS hL hA
    split
    · exact ⟨rfl, fun h => absurd h (Nat.succ_ne_zero _), fin⟩
    · exact ⟨rfl, fun h => absurd h (Nat.succ_ne_zero _), fin⟩
  have hll : l.length - 1 < l.length := by have := List.length_pos_iff.mpr hne; omega
  have hlm : l.getD (l.length - 1) 0 ∈ l := by rw [getD_eq hll]; exact List.getElem_mem hll
  have hpe := path_eq (F := F) (a := a) (x := a 4 i) (hS.c0 0) hA h1 h2 h17' hne
  rw [← hA.2.1]
  by_cases hm : mIsPath (upd G 2 0) c l.length (a 4 i) = 0
  · rw [if_pos hm]
    have fin : RelX F a (upd (upd G 2 0) 2 2) c := RelX.mk hS hL hA
    by_cases q1 : rFirst (nI (encC l)) = a 4 i
    · rw [if_pos q1]
      by_cases q2 : gIsPath F a P (nI (encC l)) = 0
      · rw [if_pos q2]; exact ⟨rfl, fun h => absurd h (Nat.succ_ne_zero _), fin⟩
      · rw [if_neg q2]
        by_cases q3 : isLeaderF F a (rLast (nI (encC l))) = 0
        · rw [if_pos q3]; exact ⟨rfl, fun h => absurd h (Nat.succ_ne_zero _), fin⟩
        · exact absurd hm (hpe.mpr ⟨q1, q2, q3⟩)
    · rw [if_neg q1]; exact ⟨rfl, fun h => absurd h (Nat.succ_ne_zero _), fin⟩
  rw [if_neg hm]
  obtain ⟨q1, q2, q3⟩ := hpe.mp hm
  rw [if_pos q1, if_neg q2, if_neg q3, hS.2.2.2.2.2.2.2.2.2.2.1, hA.2.2.1]
  have fin3 : RelX F a (upd (upd G 2 0) 2 3) c := RelX.mk hS hL hA
  have fin4 : RelX F a (upd (upd G 2 0) 2 4) c := RelX.mk hS hL hA
  by_cases h4 : G 4 = 0
  · rw [if_pos h4, if_pos h4]; exact ⟨rfl, fun h => absurd h (Nat.succ_ne_zero _), fin3⟩
  rw [if_neg h4, if_neg h4]
  by_cases h5 : c 12 i = 1
  · rw [if_pos h5, if_pos h5]
    have hnd : l.Nodup := by
      unfold gIsPath at q2
      have hsz : szN (nI (encC l)) = l.length := by
        have e := (rSize_n (nI (encC l))).symm.trans (rSize_enc h1)
        have := szN_le (nI (encC l))
        exact (nI_eq (by omega) (by omega)).mp e
      rw [hsz] at q2
      exact nodup_take.mpr (fun q hq => ((gpath_eq hS hA h1 h2 l.length 0 (by omega)).mp q2).2 q (Nat.zero_le _) hq |>.1)
    rw [inTime_eq a c (hS.c0 0) h1, known_eq (hS.c0 0) hA h1 h2 h17' hne, mLast_enc h1 hne, rLast_enc h1 hne]
    have hu : isUnlockedF F a (nI i) (nI (l.getD (l.length - 1) 0)) = mHas (c 13 i) (nI (l.getD (l.length - 1) 0)) := by
      unfold isUnlockedF
      rw [nI_clamp (by omega), hA.2.2.2.1]
      rfl
    rw [hu]
    by_cases h7 : mHas (c 13 i) (nI (l.getD (l.length - 1) 0)) = 0
    · rw [if_pos h7, if_pos h7]
      by_cases h8 : mIsInTime (upd G 2 0) c (mMany (nI (encM l)) - 1) = 0
      · rw [if_pos h8, if_pos h8]; exact ⟨rfl, fun h => absurd h (Nat.succ_ne_zero _), fin4⟩
      rw [if_neg h8, if_neg h8]
      by_cases h9 : mIsKnown (upd G 2 0) c l.length n = 0
      · rw [if_pos h9, if_pos h9]; exact ⟨rfl, fun h => absurd h (Nat.succ_ne_zero _), fin4⟩
      rw [if_neg h9, if_neg h9]
      have hP' := h1.2 _ hlm
      have hU := hA.unlock (F := F) (G := upd G 2 0) (i := i) (j := l.getD (l.length - 1) 0) (by omega) hP' hS.2.2.2.2.2.2.2.2.2.2.2.1 h1 hnd hne rfl
      refine ⟨rfl, fun _ => ?_, ⟨n, P, hS, ⟨[], OkL.nil, (fun z h => by cases h), rfl, rfl⟩, hU⟩⟩
      show bitCountF (unlockF F a (nI i) (nI (l.getD (l.length - 1) 0)) (nI (encC l)) 6 i) = mSize (mUnlock (upd G 2 0) c (nI i) (nI (encM l)) 13 i)
      rw [← hU.2.2.2.1]
      obtain ⟨o, ho, he⟩ := hU.2.2.2.2.2.2.1 i (by omega)
      rw [he]
      exact bc_size o ho
    · rw [if_neg h7, if_neg h7]; exact ⟨rfl, fun h => absurd h (Nat.succ_ne_zero _), fin3⟩
  · rw [if_neg h5, if_neg h5]; exact ⟨rfl, fun h => absurd h (Nat.succ_ne_zero _), fin3⟩

/-! The longest path: by search (the class), by subsets (the model). -/
def lk (t : Nat → Nat) (l : List Nat) : Prop := ∀ k, k + 1 < l.length → (t (l.getD k 0)).testBit (l.getD (k + 1) 0) = true
def lr (t : Nat → Nat) (l : List Nat) : Prop := ∀ k, k + 1 < l.length → (t (l.getD (k + 1) 0)).testBit (l.getD k 0) = true
theorem getD_rev {l : List Nat} {k : Nat} (h : k < l.length) : l.reverse.getD k 0 = l.getD (l.length - 1 - k) 0 := by
  rw [getD_eq (by rw [List.length_reverse]; exact h), getD_eq (by omega), List.getElem_reverse]
theorem lk_rev {t : Nat → Nat} {l : List Nat} (h : lk t l) : lr t l.reverse := by
  intro k hk
  rw [List.length_reverse] at hk
  rw [getD_rev (by omega), getD_rev (by omega)]
  have := h (l.length - 1 - (k + 1)) (by omega)
  rw [show l.length - 1 - (k + 1) + 1 = l.length - 1 - k by omega] at this
  exact this
theorem lr_rev {t : Nat → Nat} {l : List Nat} (h : lr t l) : lk t l.reverse := by
  intro k hk
  rw [List.length_reverse] at hk
  rw [getD_rev (by omega), getD_rev (by omega)]
  have := h (l.length - 1 - (k + 1)) (by omega)
  rw [show l.length - 1 - (k + 1) + 1 = l.length - 1 - k by omega] at this
  exact this
theorem lk_cons {t : Nat → Nat} {p x : Nat} {m : List Nat} : lk t (p :: x :: m) ↔ (t p).testBit x = true ∧ lk t (x :: m) := by
  constructor
  · intro h
    exact ⟨h 0 (by simp), fun k hk => h (k + 1) (by simp only [List.length_cons] at hk ⊢; omega)⟩
  · rintro ⟨h1, h2⟩ k hk
    cases k with
    | zero => exact h1
    | succ k => exact h2 k (by simp only [List.length_cons] at hk ⊢; omega)
theorem lr_cons {t : Nat → Nat} {p x : Nat} {m : List Nat} : lr t (p :: x :: m) ↔ (t x).testBit p = true ∧ lr t (x :: m) := by
  constructor
  · intro h
    exact ⟨h 0 (by simp), fun k hk => h (k + 1) (by simp only [List.length_cons] at hk ⊢; omega)⟩
  · rintro ⟨h1, h2⟩ k hk
    cases k with
    | zero => exact h1
    | succ k => exact h2 k (by simp only [List.length_cons] at hk ⊢; omega)
def dL (t : Nat → Nat) (K : Nat → Nat → Nat) (p s : Nat) : Nat → Nat → Nat → Nat
  | 0, _, u => u
  | k + 1, i, u => if (t p).testBit i = true ∧ s.testBit i = false then dL t K p s k (i + 1) (max u (1 + K i (s ||| 2 ^ i))) else dL t K p s k (i + 1) u
def dfs (t : Nat → Nat) : Nat → Nat → Nat → Nat
  | 0, _, _ => 0
  | z + 1, p, s => dL t (dfs t z) p s 6 0 0
theorem dL_le {t : Nat → Nat} {K : Nat → Nat → Nat} {p s B : Nat} (hK : ∀ i s, K i s ≤ B) : ∀ (k i u : Nat), u ≤ B + 1 → dL t K p s k i u ≤ B + 1 := by
  intro k
  induction k with
  | zero => intro i u h; exact h
  | succ k ih =>
    intro i u h
    simp only [dL]
    split
    · have := hK i (s ||| 2 ^ i)
      exact ih _ _ (Nat.max_le.mpr ⟨h, by omega⟩)
    · exact ih _ _ h
theorem dfs_le (t : Nat → Nat) : ∀ z p s, dfs t z p s ≤ z := by
  intro z
  induction z with
  | zero => intro p s; exact Nat.le_refl 0
  | succ z ih => intro p s; exact dL_le (fun i s => ih i s) 6 0 0 (by omega)
theorem dL_ge {t : Nat → Nat} {K : Nat → Nat → Nat} {p s : Nat} : ∀ (k i u : Nat), u ≤ dL t K p s k i u ∧ ∀ j, i ≤ j → j < i + k → (t p).testBit j = true → s.testBit j = false → 1 + K j (s ||| 2 ^ j) ≤ dL t K p s k i u := by
  intro k
  induction k with
  | zero => intro i u; exact ⟨Nat.le_refl _, fun j h1 h2 => by omega⟩
  | succ k ih =>
    intro i u
    simp only [dL]
    split
    · rename_i hc
      obtain ⟨h1, h2⟩ := ih (i + 1) (max u (1 + K i (s ||| 2 ^ i)))
      have m1 : u ≤ max u (1 + K i (s ||| 2 ^ i)) := Nat.le_max_left _ _
      have m2 : 1 + K i (s ||| 2 ^ i) ≤ max u (1 + K i (s ||| 2 ^ i)) := Nat.le_max_right _ _
      refine ⟨by omega, fun j q1 q2 q3 q4 => ?_⟩
      rcases Nat.eq_or_lt_of_le q1 with e | e
      · subst e; omega
      · exact h2 j e (by omega) q3 q4
    · rename_i hc
      obtain ⟨h1, h2⟩ := ih (i + 1) u
      refine ⟨h1, fun j q1 q2 q3 q4 => ?_⟩
      rcases Nat.eq_or_lt_of_le q1 with e | e
      · subst e; exact absurd ⟨q3, q4⟩ hc
      · exact h2 j e (by omega) q3 q4
theorem dL_att {t : Nat → Nat} {K : Nat → Nat → Nat} {p s : Nat} : ∀ (k i u : Nat), dL t K p s k i u = u ∨ ∃ j, i ≤ j ∧ j < i + k ∧ (t p).testBit j = true ∧ s.testBit j = false ∧ dL t K p s k i u = 1 + K j (s ||| 2 ^ j) := by
  intro k
  induction k with
  | zero => intro i u; exact Or.inl rfl
  | succ k ih =>
    intro i u
    simp only [dL]
    split
    · rename_i hc
      rcases ih (i + 1) (max u (1 + K i (s ||| 2 ^ i))) with h | ⟨j, h1, h2, h3, h4, h5⟩
      · rw [h]
        rcases Nat.le_total u (1 + K i (s ||| 2 ^ i)) with q | q
        · rw [Nat.max_eq_right q]
          exact Or.inr ⟨i, Nat.le_refl _, by omega, hc.1, hc.2, rfl⟩
        · rw [Nat.max_eq_left q]
          exact Or.inl rfl
      · exact Or.inr ⟨j, by omega, by omega, h3, h4, h5⟩
    · rcases ih (i + 1) u with h | ⟨j, h1, h2, h3, h4, h5⟩
      · exact Or.inl h
      · exact Or.inr ⟨j, by omega, by omega, h3, h4, h5⟩
theorem dfs_ge {t : Nat → Nat} : ∀ (z p s : Nat) (m : List Nat), m.length ≤ z → m.Nodup → (∀ x ∈ m, x < 6 ∧ s.testBit x = false) → lk t (p :: m) → m.length ≤ dfs t z p s := by
  intro z
  induction z with
  | zero => intro p s m h _ _ _; exact h
  | succ z ih =>
    intro p s m h hn hx hl
    cases m with
    | nil => exact Nat.zero_le _
    | cons x m =>
      obtain ⟨l1, l2⟩ := lk_cons.mp hl
      obtain ⟨n1, n2⟩ := List.nodup_cons.mp hn
      have hx0 := hx x List.mem_cons_self
      simp only [List.length_cons] at h ⊢
      have h1 := ih x (s ||| 2 ^ x) m (by omega) n2 (fun y hy => ⟨(hx y (List.mem_cons_of_mem _ hy)).1, by
        rw [Nat.testBit_or, (hx y (List.mem_cons_of_mem _ hy)).2, Nat.testBit_two_pow_of_ne (show x ≠ y from fun e => n1 (by rw [e]; exact hy))]
        rfl⟩) l2
      have h2 := (dL_ge (t := t) (K := dfs t z) (p := p) (s := s) 6 0 0).2 x (Nat.zero_le _) (by omega) l1 hx0.2
      show m.length + 1 ≤ dL t (dfs t z) p s 6 0 0
      omega
theorem bit_lt {s P x : Nat} (h : s < 2 ^ P) (hb : s.testBit x = true) : x < P := by
  rcases Nat.lt_or_ge x P with q | q
  · exact q
  · rw [Nat.testBit_lt_two_pow (Nat.lt_of_lt_of_le h (Nat.pow_le_pow_right (by decide) q))] at hb
    cases hb
theorem dfs_att {t : Nat → Nat} {P : Nat} (hP : P ≤ 6) (ht : ∀ q, q < 6 → t q < 2 ^ P) : ∀ (z p s : Nat), p < 6 → ∃ m : List Nat, m.length = dfs t z p s ∧ m.Nodup ∧ (∀ x ∈ m, x < P ∧ s.testBit x = false) ∧ lk t (p :: m) := by
  intro z
  induction z with
  | zero => intro p s _; exact ⟨[], rfl, List.nodup_nil, (fun x h => by cases h), fun k hk => by simp at hk⟩
  | succ z ih =>
    intro p s hp
    rcases dL_att (t := t) (K := dfs t z) (p := p) (s := s) 6 0 0 with h | ⟨j, h1, h2, h3, h4, h5⟩
    · exact ⟨[], h.symm, List.nodup_nil, (fun x h => by cases h), fun k hk => by simp at hk⟩
    · obtain ⟨m, m1, m2, m3, m4⟩ := ih j (s ||| 2 ^ j) (by omega)
      have hjP := bit_lt (ht p hp) h3
      refine ⟨j :: m, ?_, List.nodup_cons.mpr ⟨fun hm => ?_, m2⟩, fun x hx => ?_, lk_cons.mpr ⟨h3, m4⟩⟩
      · show m.length + 1 = dL t (dfs t z) p s 6 0 0
        omega
      · have := (m3 j hm).2
        rw [Nat.testBit_or, Nat.testBit_two_pow_self, Bool.or_true] at this
        cases this
      · rcases List.mem_cons.mp hx with e | e
        · rw [e]; exact ⟨hjP, h4⟩
        · have := m3 x e
          refine ⟨this.1, ?_⟩
          have q := this.2
          rw [Nat.testBit_or] at q
          exact (Bool.or_eq_false_iff.mp q).1
theorem tst1 : ∀ s, s < 64 → ∀ i, i < 6 → ((nI s ^^^ (-1 : Int32)) &&& ((1 : Int32) <<< (nI i &&& 31))) = if s.testBit i then 0 else nI (2 ^ i) := by decide +kernel
theorem tst2 : ∀ s, s < 64 → ∀ i, i < 6 → (nI s &&& nI (2 ^ i)) = if s.testBit i then nI (2 ^ i) else 0 := by decide +kernel
theorem p2n0 : ∀ i, i < 6 → ¬ nI (2 ^ i) = 0 := by decide +kernel
theorem max_n {u v : Nat} (hu : u < 100) (hv : v < 100) : (if nI u < nI v then nI v else nI u) = nI (max u v) := by
  rcases Nat.lt_or_ge u v with h | h
  · rw [if_pos (nI_lt h (by omega)), Nat.max_eq_right (by omega)]
  · rw [if_neg (nI_nlt h (by omega)), Nat.max_eq_left h]
theorem gLongL_n {a : AT} {P : Nat} {t : Nat → Nat} (hP : P ≤ 6) (ht : TQ P a t) {K' : Int32 → Int32 → Int32} {K : Nat → Nat → Nat} {B : Nat} (hB : B < 10) (hK : ∀ i s, i < 6 → s < 64 → K' (nI i) (nI s) = nI (K i s)) (hKB : ∀ i s, K i s ≤ B) {p s : Nat} (hp : p < 6) (hs : s < 64) : ∀ (k i u : Nat), i + k = 6 → u ≤ B + 1 → gLongL a K' (nI p) (nI s) k i (nI u) = nI (dL t K p s k i u) := by
  have hPP := pow_P hP
  intro k
  induction k with
  | zero => intro i u _ _; rfl
  | succ k ih =>
    intro i u hi hu
    have htp := ht p hp
    simp only [gLongL, dL]
    rw [nI_clamp (by omega), htp.1, Int32.and_assoc, tst1 s hs i (by omega), shl_n (by omega), nx_or]
    have hs2 : s ||| 2 ^ i < 64 := Nat.or_lt_two_pow (n := 6) hs (Nat.pow_lt_pow_right (by decide) (by omega))
    rw [hK i _ (by omega) hs2, show (1 : Int32) + nI (K i (s ||| 2 ^ i)) = nI (1 + K i (s ||| 2 ^ i)) from nI_add 1 _]
    have hkb := hKB i (s ||| 2 ^ i)
    rw [max_n (by omega) (by omega)]
    cases hb : s.testBit i with
    | true =>
      rw [if_pos (rfl : true = true), show nI (t p) &&& (0 : Int32) = 0 from Int32.and_zero, if_pos (rfl : (0 : Int32) = 0), if_neg (fun q => by cases q.2)]
      exact ih _ _ (by omega) hu
    | false =>
      rw [if_neg (show ¬ false = true by decide), tst2 (t p) (by omega) i (by omega)]
      cases hc : (t p).testBit i with
      | true =>
        rw [if_pos (rfl : true = true), if_neg (p2n0 i (by omega)), if_pos ⟨rfl, rfl⟩]
        exact ih _ _ (by omega) (Nat.max_le.mpr ⟨hu, by omega⟩)
      | false =>
        rw [if_neg (show ¬ false = true by decide), if_pos (rfl : (0 : Int32) = 0), if_neg (fun q => by cases q.1)]
        exact ih _ _ (by omega) hu
theorem gLong_n {a : AT} {P : Nat} {t : Nat → Nat} (hP : P ≤ 6) (ht : TQ P a t) : ∀ z, z ≤ 5 → ∀ p s, p < 6 → s < 64 → gLong a z (nI p) (nI s) = nI (dfs t z p s) := by
  intro z
  induction z with
  | zero => intro _ p s _ _; rfl
  | succ z ih =>
    intro hz p s hp hs
    simp only [gLong]
    exact gLongL_n hP ht (B := z) (by omega) (fun i s hi hs => ih (by omega) i s hi hs) (fun i s => dfs_le t z i s) hp hs 6 0 0 rfl (by omega)
def mx (t : Nat → Nat) : Nat → Nat → Nat → Nat
  | 0, _, u => u
  | k + 1, i, u => mx t k (i + 1) (max u (dfs t 5 i (2 ^ i)))
theorem gLongestL_n {F : FT} {a : AT} {P : Nat} {t : Nat → Nat} (hP : P ≤ 6) (ht : TQ P a t) : ∀ (k i u : Nat), i + k = P → u ≤ 5 → gLongestL F a P k i (nI u) = nI (mx t k i u) := by
  intro k
  induction k with
  | zero => intro i u _ _; rfl
  | succ k ih =>
    intro i u hi hu
    have h5 := dfs_le t 5 i (2 ^ i)
    have h64 : 2 ^ i < 2 ^ 6 := Nat.pow_lt_pow_right (by decide) (by omega)
    simp only [gLongestL, mx]
    rw [shl_n (by omega), gLong_n hP ht 5 (by omega) i (2 ^ i) (by omega) h64, max_n (by omega) (by omega)]
    exact ih _ _ (by omega) (Nat.max_le.mpr ⟨hu, h5⟩)
theorem mx_ge {t : Nat → Nat} : ∀ (k i u : Nat), u ≤ mx t k i u ∧ ∀ j, i ≤ j → j < i + k → dfs t 5 j (2 ^ j) ≤ mx t k i u := by
  intro k
  induction k with
  | zero => intro i u; exact ⟨Nat.le_refl _, fun j h1 h2 => by omega⟩
  | succ k ih =>
    intro i u
    obtain ⟨h1, h2⟩ := ih (i + 1) (max u (dfs t 5 i (2 ^ i)))
    have m1 : u ≤ max u (dfs t 5 i (2 ^ i)) := Nat.le_max_left _ _
    have m2 : dfs t 5 i (2 ^ i) ≤ max u (dfs t 5 i (2 ^ i)) := Nat.le_max_right _ _
    simp only [mx]
    refine ⟨by omega, fun j q1 q2 => ?_⟩
    rcases Nat.eq_or_lt_of_le q1 with e | e
    · subst e; omega
    · exact h2 j e (by omega)
theorem mx_att {t : Nat → Nat} : ∀ (k i u : Nat), mx t k i u = u ∨ ∃ j, i ≤ j ∧ j < i + k ∧ mx t k i u = dfs t 5 j (2 ^ j) := by
  intro k
  induction k with
  | zero => intro i u; exact Or.inl rfl
  | succ k ih =>
    intro i u
    simp only [mx]
    rcases ih (i + 1) (max u (dfs t 5 i (2 ^ i))) with h | ⟨j, h1, h2, h3⟩
    · rw [h]
      rcases Nat.le_total u (dfs t 5 i (2 ^ i)) with q | q
      · rw [Nat.max_eq_right q]; exact Or.inr ⟨i, Nat.le_refl _, by omega, rfl⟩
      · rw [Nat.max_eq_left q]; exact Or.inl rfl
    · exact Or.inr ⟨j, by omega, by omega, h3⟩
/-- the set s holds a path that ends at p -/
def HP (t : Nat → Nat) (P s p : Nat) : Prop := ∃ m : List Nat, (p :: m).Nodup ∧ (∀ x ∈ p :: m, x < P) ∧ lr t (p :: m) ∧ bset (p :: m) 0 = s
theorem clr_bit : ∀ s, s < 64 → ∀ p, p < 6 → ∀ x, x < 6 → (clr s p).testBit x = (s.testBit x && decide (x ≠ p)) := by decide +kernel
theorem bset_bit0 (l : List Nat) (x : Nat) : (bset l 0).testBit x = decide (x ∈ l) := by rw [bset_bit, Nat.zero_testBit, Bool.false_or]
theorem ext6 {s u : Nat} (hs : s < 64) (hu : u < 64) (h : ∀ x, x < 6 → s.testBit x = u.testBit x) : s = u := by
  apply Nat.eq_of_testBit_eq
  intro x
  rcases Nat.lt_or_ge x 6 with q | q
  · exact h x q
  · rw [Nat.testBit_lt_two_pow (Nat.lt_of_lt_of_le hs (Nat.pow_le_pow_right (n := 2) (i := 6) (by decide) q)), Nat.testBit_lt_two_pow (Nat.lt_of_lt_of_le hu (Nat.pow_le_pow_right (n := 2) (i := 6) (by decide) q))]
theorem bset_lt64 {P : Nat} (hP : P ≤ 6) {l : List Nat} (h : ∀ x ∈ l, x < P) : bset l 0 < 64 := bset_lt l 0 (fun x hx => Nat.lt_of_lt_of_le (h x hx) hP) (by decide)
theorem HP_rec {t : Nat → Nat} {P : Nat} (hP : P ≤ 6) {s p : Nat} (hs : s < 64) (hp : p < P) : HP t P s p ↔ (s.testBit p = true ∧ (s = 2 ^ p ∨ ∃ q, q < P ∧ q ≠ p ∧ s.testBit q = true ∧ (t q).testBit p = true ∧ HP t P (clr s p) q)) := by
  constructor
  · rintro ⟨m, h1, h2, h3, h4⟩
    subst h4
    refine ⟨by rw [bset_bit0]; simp, ?_⟩
    cases m with
    | nil => left; show (0 : Nat) ||| 2 ^ p = 2 ^ p; rw [Nat.zero_or]
    | cons q m =>
      right
      obtain ⟨n1, n2⟩ := List.nodup_cons.mp h1
      obtain ⟨l1, l2⟩ := lr_cons.mp h3
      have hq : q ∈ p :: q :: m := by simp
      have hall : ∀ x ∈ q :: m, x < P := fun x hx => h2 x (List.mem_cons_of_mem _ hx)
      refine ⟨q, h2 q hq, fun e => n1 (by rw [← e]; simp), by rw [bset_bit0]; simp, l1, q :: m |>.tail, ?_, ?_, ?_, ?_⟩
      · exact n2
      · exact hall
      · exact l2
      · show bset (q :: m) 0 = _
        refine ext6 (bset_lt64 hP hall) (clr_lt _ hs p (by omega)) (fun x hx => ?_)
        rw [clr_bit _ hs p (by omega) x hx, bset_bit0, bset_bit0]
        by_cases hxp : x = p
        · subst hxp
          simp [n1]
        · simp [hxp]
  · rintro ⟨hb, h | ⟨q, q1, q2, q3, q4, m, m1, m2, m3, m4⟩⟩
    · exact ⟨[], by simp, by simpa using hp, fun k hk => by simp at hk, by rw [h]; show (0 : Nat) ||| 2 ^ p = 2 ^ p; rw [Nat.zero_or]⟩
    · have hnp : p ∉ q :: m := by
        intro hm
        have h1 := bset_bit0 (q :: m) p
        rw [m4, clr_bit s hs p (by omega) p (by omega)] at h1
        simp only [ne_eq, not_true_eq_false, decide_false, Bool.and_false, hm, decide_true] at h1
        cases h1
      have hall : ∀ x ∈ p :: q :: m, x < P := fun x hx => by
        rcases List.mem_cons.mp hx with e | e
        · rw [e]; exact hp
        · exact m2 x e
      refine ⟨q :: m, List.nodup_cons.mpr ⟨hnp, m1⟩, hall, lr_cons.mpr ⟨q4, m3⟩, ?_⟩
      refine ext6 (bset_lt64 hP hall) hs (fun x hx => ?_)
      rw [bset_bit0]
      have h1 := bset_bit0 (q :: m) x
      rw [m4, clr_bit s hs p (by omega) x hx] at h1
      by_cases hxp : x = p
      · subst hxp; rw [hb]; simp
      · have : (x ∈ p :: q :: m) ↔ x ∈ q :: m := by
          rw [List.mem_cons (a := x) (b := p)]
          exact ⟨fun h => h.elim (fun e => absurd e hxp) id, Or.inr⟩
        simp only [this]
        rw [← h1]
        simp [hxp]

/-! Rows of parties as numbers: the class's way (encC), the model's (encM). -/
def encC : List Nat → Nat
  | [] => 0
  | x :: l => (x + 1) + 8 * encC l
def digM : List Nat → Nat
  | [] => 0
  | x :: l => x + 8 * digM l
def encM (l : List Nat) : Nat := digM l + l.length * 262144
def OkL (l : List Nat) : Prop := l.length ≤ 6 ∧ ∀ x ∈ l, x < 6
theorem OkL.tail {x : Nat} {l : List Nat} (h : OkL (x :: l)) : OkL l := ⟨Nat.le_of_succ_le h.1, fun y hy => h.2 y (List.mem_cons_of_mem _ hy)⟩
theorem encC_lt : ∀ l : List Nat, (∀ x ∈ l, x < 6) → encC l < 8 ^ l.length
  | [], _ => by decide
  | x :: l, h => by
    have h1 := h x List.mem_cons_self
    have h2 := encC_lt l (fun y hy => h y (List.mem_cons_of_mem _ hy))
    show (x + 1) + 8 * encC l < 8 ^ (l.length + 1)
    rw [Nat.pow_succ]
    omega
theorem digM_lt : ∀ l : List Nat, (∀ x ∈ l, x < 6) → digM l < 8 ^ l.length
  | [], _ => by decide
  | x :: l, h => by
    have h1 := h x List.mem_cons_self
    have h2 := digM_lt l (fun y hy => h y (List.mem_cons_of_mem _ hy))
    show x + 8 * digM l < 8 ^ (l.length + 1)
    rw [Nat.pow_succ]
    omega
theorem pow8_le {n : Nat} (h : n ≤ 6) : 8 ^ n ≤ 262144 := by
  have := Nat.pow_le_pow_right (n := 8) (by decide) h
  exact Nat.le_trans this (by decide)
theorem encC_b {l : List Nat} (h : OkL l) : encC l < 262144 := Nat.lt_of_lt_of_le (encC_lt l h.2) (pow8_le h.1)
theorem digM_b {l : List Nat} (h : OkL l) : digM l < 262144 := Nat.lt_of_lt_of_le (digM_lt l h.2) (pow8_le h.1)
theorem encM_b {l : List Nat} (h : OkL l) : encM l < 1835008 := by
  have h1 := digM_b h
  have h2 := h.1
  unfold encM
  omega
theorem nx_or (a b : Nat) : nI a ||| nI b = nI (a ||| b) := by
  apply Int32.toBitVec_inj.1
  show BitVec.ofNat 32 a ||| BitVec.ofNat 32 b = BitVec.ofNat 32 (a ||| b)
  apply BitVec.eq_of_getLsbD_eq
  intro i hi
  simp [hi]
theorem nx_and (a b : Nat) : nI a &&& nI b = nI (a &&& b) := by
  apply Int32.toBitVec_inj.1
  show BitVec.ofNat 32 a &&& BitVec.ofNat 32 b = BitVec.ofNat 32 (a &&& b)
  apply BitVec.eq_of_getLsbD_eq
  intro i hi
  simp [hi]
theorem mMany_enc {l : List Nat} (h : OkL l) : mMany (nI (encM l)) = nI l.length := by
  unfold mMany
  have h1 := encM_b h
  have h2 := digM_b h
  rw [pk_shrN (by omega) _ 18 (by decide)]
  congr 1
  unfold encM
  omega
theorem sh3s : ∀ i, i < 6 → ((((3 : Int32) * nI i) &&& 31).toBitVec.smod 32).toNat = 3 * i := by decide +kernel
theorem mMember_n {n : Nat} (hn : n < 2 ^ 31) {i : Nat} (hi : i < 6) : mMember (nI n) (nI i) = nI (n / 8 ^ i % 8) := by
  unfold mMember
  rw [pk_shrN hn _ (3 * i) (sh3s i hi), pk_andN (Nat.lt_of_le_of_lt (Nat.div_le_self _ _) (by omega)) 3 (by decide), Nat.pow_mul]
theorem dig_at : ∀ (l : List Nat) (i : Nat), (∀ x ∈ l, x < 6) → i < l.length → digM l / 8 ^ i % 8 = l.getD i 0
  | [], i, _, hi => absurd hi (Nat.not_lt_zero i)
  | x :: l, 0, h, _ => by
    have h1 := h x List.mem_cons_self
    show (x + 8 * digM l) / 1 % 8 = x
    omega
  | x :: l, i + 1, h, hi => by
    have h1 := h x List.mem_cons_self
    have h2 := dig_at l i (fun y hy => h y (List.mem_cons_of_mem _ hy)) (Nat.lt_of_succ_lt_succ hi)
    show (x + 8 * digM l) / 8 ^ (i + 1) % 8 = l.getD i 0
    rw [Nat.pow_succ, Nat.mul_comm (8 ^ i) 8, ← Nat.div_div_eq_div_mul, show (x + 8 * digM l) / 8 = digM l by omega]
    exact h2
theorem encM_dig (d m : Nat) : ∀ i, i < 6 → (d + m * 262144) / 8 ^ i % 8 = d / 8 ^ i % 8 := by
  intro i hi
  have h6 : i = 0 ∨ i = 1 ∨ i = 2 ∨ i = 3 ∨ i = 4 ∨ i = 5 := by omega
  rcases h6 with rfl | rfl | rfl | rfl | rfl | rfl
  · show (d + m * 262144) / 1 % 8 = d / 1 % 8; omega
  · show (d + m * 262144) / 8 % 8 = d / 8 % 8; omega
  · show (d + m * 262144) / 64 % 8 = d / 64 % 8; omega
  · show (d + m * 262144) / 512 % 8 = d / 512 % 8; omega
  · show (d + m * 262144) / 4096 % 8 = d / 4096 % 8; omega
  · show (d + m * 262144) / 32768 % 8 = d / 32768 % 8; omega
theorem mMember_enc {l : List Nat} (h : OkL l) {i : Nat} (hi : i < l.length) : mMember (nI (encM l)) (nI i) = nI (l.getD i 0) := by
  have h0 := h.1
  have h1 := encM_b h
  rw [mMember_n (by omega) (by omega)]
  congr 1
  unfold encM
  rw [encM_dig _ _ i (by omega), dig_at l i h.2 hi]
theorem getD_lt {l : List Nat} (h : ∀ x ∈ l, x < 6) (i : Nat) : l.getD i 0 < 6 := by
  rw [List.getD_eq_getElem?_getD]
  cases hx : l[i]? with
  | none => decide
  | some x => exact h x (List.mem_of_getElem? hx)
theorem mLast_enc {l : List Nat} (h : OkL l) (hne : l ≠ []) : mMember (nI (encM l)) (mMany (nI (encM l)) - 1) = nI (l.getD (l.length - 1) 0) := by
  have hl : 0 < l.length := List.length_pos_iff.mpr hne
  rw [mMany_enc h, show nI l.length - 1 = nI (l.length - 1) from pk_sub (b := 1) hl]
  exact mMember_enc h (by omega)
theorem mBefore_enc {l : List Nat} (h : OkL l) (h5 : l.length ≤ 5) {j : Nat} (hj : j < 6) : mBefore (nI j) (nI (encM l)) = nI (encM (j :: l)) := by
  have h1 := encM_b h
  have h2 : digM l < 32768 := Nat.lt_of_lt_of_le (digM_lt l h.2) (Nat.le_trans (Nat.pow_le_pow_right (by decide) h5) (by decide))
  have h3 := h.1
  unfold mBefore
  rw [mMany_enc h, pk_andN (by omega) 18 (by decide), show encM l % 2 ^ 18 = digM l by unfold encM; omega, pk_shlN _ 3 (by decide) (by omega), pk_andN (by omega) 18 (by decide), show digM l * 2 ^ 3 % 2 ^ 18 = 2 ^ 3 * digM l by omega,
    nx_or, ← Nat.two_pow_add_eq_or_of_lt (i := 3) (by omega), nI_1, pk_shlN _ 18 (by decide) (by omega), nx_or, Nat.or_comm, show (l.length + 1) * 2 ^ 18 = 2 ^ 18 * (l.length + 1) by omega, ← Nat.two_pow_add_eq_or_of_lt (i := 18) (by omega)]
  congr 1
  show 2 ^ 18 * (l.length + 1) + (2 ^ 3 * digM l + j) = (j + 8 * digM l) + (l.length + 1) * 262144
  omega
theorem nodup_len : ∀ (n : Nat) (l : List Nat), l.Nodup → (∀ x ∈ l, x < n) → l.length ≤ n
  | 0, l, _, h => by
    cases l with
    | nil => exact Nat.le_refl 0
    | cons x t => exact absurd (h x List.mem_cons_self) (Nat.not_lt_zero x)
  | n + 1, l, hd, h => by
    by_cases hn : n ∈ l
    · have h1 := nodup_len n (l.erase n) (hd.erase n) (fun x hx => by
        have h2 := hd.mem_erase_iff.mp hx
        have h3 := h x h2.2
        have h4 : x ≠ n := h2.1
        omega)
      rw [List.length_erase_of_mem hn] at h1
      omega
    · have h1 := nodup_len n l hd (fun x hx => by
        have h3 := h x hx
        have h4 : x ≠ n := fun e => hn (e ▸ hx)
        omega)
      omega
def bset : List Nat → Nat → Nat
  | [], u => u
  | x :: l, u => bset l (u ||| 2 ^ x)
theorem shl_n {x : Nat} (h : x < 6) : (1 : Int32) <<< (nI x &&& 31) = nI (2 ^ x) := shl_P (by omega)
theorem mMembersL_enc {l : List Nat} (h : OkL l) : ∀ (k i u : Nat), i + k = l.length → mMembersL l.length (nI (encM l)) k i (nI u) = nI (bset (l.drop i) u) := by
  intro k
  induction k with
  | zero =>
    intro i u hi
    have hi : i = l.length := hi
    subst hi
    rw [List.drop_length]
    rfl
  | succ k ih =>
    intro i u hi
    have hlt : i < l.length := by omega
    simp only [mMembersL]
    rw [mMember_enc h hlt, shl_n (getD_lt h.2 i), nx_or, ih (i + 1) _ (by omega)]
    congr 1
    rw [List.drop_eq_getElem_cons hlt]
    show _ = bset (l.drop (i + 1)) (u ||| 2 ^ l[i])
    rw [List.getD_eq_getElem?_getD, List.getElem?_eq_getElem hlt]
    rfl
theorem mMembers_enc {l : List Nat} (h : OkL l) : mMembers l.length (nI (encM l)) = nI (bset l 0) := by
  unfold mMembers
  exact mMembersL_enc h l.length 0 0 (by omega)
theorem bset_lt : ∀ (l : List Nat) (u : Nat), (∀ x ∈ l, x < 6) → u < 64 → bset l u < 64
  | [], u, _, hu => hu
  | x :: l, u, h, hu => bset_lt l _ (fun y hy => h y (List.mem_cons_of_mem _ hy)) (Nat.or_lt_two_pow (n := 6) hu (by
      have h1 := h x List.mem_cons_self
      exact Nat.pow_lt_pow_right (by decide) h1))
theorem bset_bit : ∀ (l : List Nat) (u x : Nat), (bset l u).testBit x = (u.testBit x || decide (x ∈ l))
  | [], u, x => by simp [bset]
  | y :: l, u, x => by
    show (bset l (u ||| 2 ^ y)).testBit x = _
    rw [bset_bit l, Nat.testBit_or, Nat.testBit_two_pow]
    by_cases hxy : y = x
    · subst hxy; simp
    · have : x ≠ y := fun e => hxy e.symm
      simp [hxy, this]
theorem mHas_bit : ∀ s, s < 64 → ∀ x, x < 6 → mHas (nI s) (nI x) = if s.testBit x then 1 else 0 := by decide +kernel
theorem mHas_enc {l : List Nat} (h : OkL l) {x : Nat} (hx : x < 6) : mHas (mMembers l.length (nI (encM l))) (nI x) = if x ∈ l then 1 else 0 := by
  rw [mMembers_enc h, mHas_bit _ (bset_lt l 0 h.2 (by decide)) x hx, bset_bit]
  by_cases hm : x ∈ l <;> simp [hm]
/-! The model's keys hold rows: what its deeds rest on. -/
def GoodM (r : Int32) : Prop := ∃ l : List Nat, OkL l ∧ l.Nodup ∧ r = nI (encM l)
def KM (a : AT) : Prop := ∀ j, j < 84 → GoodM (a 14 j)
theorem GoodM.rowM {r : Int32} (h : GoodM r) : RowM r := by
  obtain ⟨l, h1, h2, rfl⟩ := h
  have h6 := h1.1
  unfold RowM
  rw [mMany_enc h1, nI_clamp (by omega)]
  exact ⟨rfl, h6⟩
theorem GoodM.zero : GoodM 0 := ⟨[], ⟨by decide, fun x h => by cases h⟩, List.nodup_nil, rfl⟩
theorem KM.rows {a : AT} (h : KM a) : ∀ j, j < 84 → RowM (a 14 j) := fun j hj => (h j hj).rowM
/-- a row that may be shown on: it doesn't hold j -/
def PreM (j : Nat) (r : Int32) : Prop := ∃ l : List Nat, OkL l ∧ l.Nodup ∧ j ∉ l ∧ r = nI (encM l)
theorem PreM.len {j : Nat} (hj : j < 6) {l : List Nat} (h : OkL l) (hd : l.Nodup) (hn : j ∉ l) : l.length ≤ 5 := by
  have h1 := nodup_len 6 (j :: l) (List.nodup_cons.mpr ⟨hn, hd⟩) (fun x hx => by
    rcases List.mem_cons.mp hx with e | e
    · omega
    · exact h.2 x e)
  simp only [List.length_cons] at h1
  omega
theorem PreM.good {j : Nat} (hj : j < 6) {r : Int32} (h : PreM j r) : GoodM (mBefore (nI j) r) ∧ vp_in (mMember (mBefore (nI j) r) (mMany (mBefore (nI j) r) - 1)) 6 := by
  obtain ⟨l, h1, h2, h3, rfl⟩ := h
  have h5 := PreM.len hj h1 h2 h3
  have hok : OkL (j :: l) := ⟨by simp only [List.length_cons]; omega, fun x hx => by
    rcases List.mem_cons.mp hx with e | e
    · omega
    · exact h1.2 x e⟩
  rw [mBefore_enc h1 h5 hj]
  refine ⟨⟨j :: l, hok, List.nodup_cons.mpr ⟨h3, h2⟩, rfl⟩, ?_⟩
  rw [mLast_enc hok (by simp)]
  exact vp_in_nI (getD_lt hok.2 _) (by decide)
theorem PreM.zero {j : Nat} : PreM j 0 := ⟨[], ⟨by decide, fun x h => by cases h⟩, List.nodup_nil, by simp, rfl⟩
theorem short_pre {F : FT} {a : AT} {n j : Nat} {y : Int32} (hK : KM a) (hn : n ≤ 14) (hj : j < 6) (hl : vp_in y 6) : ∀ (k i : Nat) (best : Int32), i + k = n → PreM j best → PreM j (mShortestL F a n (nI j) y k i best) := by
  intro k
  induction k with
  | zero => intro i best _ h; exact h
  | succ k ih =>
    intro i best hi h
    have hv := vp_lt (vp_key3 (i := i) (by omega) hl)
    obtain ⟨l, h1, h2, h3⟩ := hK _ hv
    have h6 := h1.1
    simp only [mShortestL]
    split
    · split
      · exact ih _ _ (by omega) h
      · split
        · rename_i hh
          have hp : PreM j ((a 14) (((6 : Int32) * nI i + y).toNatClampNeg)) := by
            refine ⟨l, h1, h2, ?_, h3⟩
            rw [h3, mMany_enc h1, nI_clamp (by omega), mHas_enc h1 hj] at hh
            intro hm
            rw [if_pos hm] at hh
            exact absurd hh (by decide)
          split
          · exact ih _ _ (by omega) hp
          · split
            · exact ih _ _ (by omega) h
            · exact ih _ _ (by omega) hp
        · exact ih _ _ (by omega) h
    · exact ih _ _ (by omega) h
theorem KM.unlock {F : FT} {a : AT} {x row : Int32} (hK : KM a) (hr : GoodM row) : KM (mUnlock F a x row) := by
  intro j hj
  have key : GoodM (upd (a 14) (((6 : Int32) * x + mMember row (mMany row - 1)).toNatClampNeg) row j) := by
    unfold upd
    split
    · exact hr
    · exact hK j hj
  unfold mUnlock
  split
  · exact key
  · exact key
theorem KM.shownL {F : FT} {n : Nat} {x y row : Int32} (hr : GoodM row) : ∀ (k i : Nat) (d : Int32) (a : AT), KM a → KM (mShownByL F n x y row k i d a).2 := by
  intro k
  induction k with
  | zero => intro i d a h; exact h
  | succ k ih =>
    intro i d a h
    simp only [mShownByL]
    repeat' split
    all_goals first | exact ih _ _ _ h | exact ih _ _ _ (h.unlock hr)
theorem KM.shown {F : FT} {a : AT} {n : Nat} {x y row : Int32} (hr : GoodM row) (h : KM a) : KM (mShownBy F a n x y row).2 := by
  unfold mShownBy
  exact KM.shownL hr n 0 0 a h

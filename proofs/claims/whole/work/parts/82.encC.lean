/-! The class's rows as lists; both codings are one to one. -/
theorem sh3u : ∀ i, i < 6 → (((((3 : Int32) * nI i)).toUInt32 &&& Int32.toUInt32 31).toBitVec % 32).toNat = 3 * i := by decide +kernel
theorem encC_div : ∀ (i : Nat) (l : List Nat), (∀ x ∈ l, x < 6) → encC l / 8 ^ i = encC (l.drop i)
  | 0, l, _ => by simp
  | i + 1, [], _ => by simp [encC]
  | i + 1, x :: l, h => by
    have h1 := h x List.mem_cons_self
    have h2 := encC_div i l (fun y hy => h y (List.mem_cons_of_mem _ hy))
    show ((x + 1) + 8 * encC l) / 8 ^ (i + 1) = encC (l.drop i)
    rw [Nat.pow_succ, Nat.mul_comm (8 ^ i) 8, ← Nat.div_div_eq_div_mul, show ((x + 1) + 8 * encC l) / 8 = encC l by omega]
    exact h2
theorem encC_0 {l : List Nat} : encC l = 0 ↔ l = [] := by
  cases l with
  | nil => simp [encC]
  | cons x l => simp [encC]
theorem encC_inj : ∀ (l m : List Nat), (∀ x ∈ l, x < 6) → (∀ x ∈ m, x < 6) → encC l = encC m → l = m
  | [], m, _, _, h => (encC_0.mp h.symm).symm
  | x :: l, [], _, _, h => absurd h (by simp [encC])
  | x :: l, y :: m, h1, h2, h => by
    have a1 := h1 x List.mem_cons_self
    have a2 := h2 y List.mem_cons_self
    have h : (x + 1) + 8 * encC l = (y + 1) + 8 * encC m := h
    have e1 : x = y := by omega
    have e2 : encC l = encC m := by omega
    rw [e1, encC_inj l m (fun z hz => h1 z (List.mem_cons_of_mem _ hz)) (fun z hz => h2 z (List.mem_cons_of_mem _ hz)) e2]
theorem digM_inj : ∀ (l m : List Nat), (∀ x ∈ l, x < 6) → (∀ x ∈ m, x < 6) → l.length = m.length → digM l = digM m → l = m
  | [], m, _, _, h, _ => (List.eq_nil_of_length_eq_zero h.symm).symm
  | x :: l, [], _, _, h, _ => absurd h (by simp)
  | x :: l, y :: m, h1, h2, hl, h => by
    have a1 := h1 x List.mem_cons_self
    have a2 := h2 y List.mem_cons_self
    have h : x + 8 * digM l = y + 8 * digM m := h
    have hl : l.length + 1 = m.length + 1 := hl
    have e1 : x = y := by omega
    have e2 : digM l = digM m := by omega
    rw [e1, digM_inj l m (fun z hz => h1 z (List.mem_cons_of_mem _ hz)) (fun z hz => h2 z (List.mem_cons_of_mem _ hz)) (by omega) e2]
theorem encM_inj {l m : List Nat} (h1 : OkL l) (h2 : OkL m) (h : encM l = encM m) : l = m := by
  have b1 := digM_b h1
  have b2 := digM_b h2
  unfold encM at h
  exact digM_inj l m h1.2 h2.2 (by omega) (by omega)
theorem encC_eq {l m : List Nat} (h1 : OkL l) (h2 : OkL m) : nI (encC l) = nI (encC m) ↔ l = m := by
  have b1 := encC_b h1
  have b2 := encC_b h2
  rw [nI_eq (by omega) (by omega)]
  exact ⟨encC_inj l m h1.2 h2.2, fun e => by rw [e]⟩
theorem encM_eq {l m : List Nat} (h1 : OkL l) (h2 : OkL m) : nI (encM l) = nI (encM m) ↔ l = m := by
  have b1 := encM_b h1
  have b2 := encM_b h2
  rw [nI_eq (by omega) (by omega)]
  exact ⟨encM_inj h1 h2, fun e => by rw [e]⟩
theorem OkL.nil : OkL [] := ⟨by decide, fun x h => by cases h⟩
theorem OkL.drop {l : List Nat} (h : OkL l) (i : Nat) : OkL (l.drop i) := ⟨by rw [List.length_drop]; have := h.1; omega, fun x hx => h.2 x (List.mem_of_mem_drop hx)⟩
theorem encC_sh {l : List Nat} (h : OkL l) {i : Nat} (hi : i < 6) : ((nI (encC l)).toUInt32 >>> (((3 : Int32) * nI i).toUInt32 &&& Int32.toUInt32 31)).toInt32 = nI (encC (l.drop i)) := by
  have b := encC_b h
  rw [pk_ushrN (by omega) _ (3 * i) (sh3u i hi), Nat.pow_mul, show (2 : Nat) ^ 3 = 8 from rfl, encC_div i l h.2]
theorem rSizeL_enc {l : List Nat} (h : OkL l) : ∀ k i, i + k = 6 → i ≤ l.length → rSizeL (nI (encC l)) k i = nI l.length := by
  intro k
  induction k with
  | zero =>
    intro i hi hl
    have := h.1
    show nI 6 = nI l.length
    congr 1
    omega
  | succ k ih =>
    intro i hi hl
    simp only [rSizeL]
    rw [encC_sh h (by omega)]
    split
    · rename_i he
      have he : nI (encC (l.drop i)) = nI (encC []) := he
      rw [encC_eq (h.drop i) OkL.nil] at he
      have := List.drop_eq_nil_iff.mp he
      congr 1
      omega
    · rename_i he
      refine ih (i + 1) (by omega) ?_
      rcases Nat.lt_or_ge i l.length with h1 | h1
      · exact h1
      · exact absurd (by rw [List.drop_eq_nil_iff.mpr h1]; rfl) he
theorem rSize_enc {l : List Nat} (h : OkL l) : rSize (nI (encC l)) = nI l.length := rSizeL_enc h 6 0 rfl (Nat.zero_le _)
theorem rParty_enc {l : List Nat} (h : OkL l) {k : Nat} (hk : k < 6) : rParty (nI (encC l)) (nI k) = if k < l.length then nI (l.getD k 0) else -1 := by
  have hk0 : ¬ nI k < 0 := nI_pos (by omega)
  have hk6 : nI k < 6 := nI_lt (a := k) (b := 6) hk (by decide)
  have b := encC_b (h.drop k)
  unfold rParty
  rw [if_neg hk0, if_pos hk6, encC_sh h hk, pk_andN (by omega) 3 (by decide)]
  split
  · rename_i hl
    rw [List.drop_eq_getElem_cons hl]
    have hx := h.2 l[k] (List.getElem_mem hl)
    rw [show encC (l[k] :: l.drop (k + 1)) % 2 ^ 3 = l[k] + 1 by
      show ((l[k] + 1) + 8 * encC (l.drop (k + 1))) % 8 = l[k] + 1
      omega]
    rw [show nI (l[k] + 1) - 1 = nI l[k] from pk_sub (a := l[k] + 1) (b := 1) (by omega)]
    congr 1
    rw [List.getD_eq_getElem?_getD, List.getElem?_eq_getElem hl]
    rfl
  · rename_i hl
    rw [List.drop_eq_nil_iff.mpr (by omega)]
    decide
theorem rFirst_enc {x : Nat} {l : List Nat} (h : OkL (x :: l)) : rFirst (nI (encC (x :: l))) = nI x := by
  unfold rFirst
  rw [show (0 : Int32) = nI 0 from rfl, rParty_enc h (by decide), if_pos (by simp)]
  rfl
theorem rLast_enc {l : List Nat} (h : OkL l) (hne : l ≠ []) : rLast (nI (encC l)) = nI (l.getD (l.length - 1) 0) := by
  have hl : 0 < l.length := List.length_pos_iff.mpr hne
  have h6 := h.1
  unfold rLast
  rw [rSize_enc h, show nI l.length - 1 = nI (l.length - 1) from pk_sub (b := 1) hl, rParty_enc h (by omega), if_pos (by omega)]
theorem rRest_enc {x : Nat} {l : List Nat} (h : OkL (x :: l)) : rRest (nI (encC (x :: l))) = nI (encC l) := by
  have b := encC_b h
  unfold rRest
  rw [pk_ushrN (by omega) _ 3 (by decide), show (2 : Nat) ^ 3 = 8 ^ 1 from rfl, encC_div 1 _ h.2]
  rfl
theorem rHasL_enc {l : List Nat} (h : OkL l) {x : Nat} (hx : x < 6) : ∀ k i, i + k = 6 → rHasL (nI (encC l)) (nI x) k i = if x ∈ l.drop i then 1 else 0 := by
  have h0 : ¬ nI x < 0 := nI_pos (by omega)
  intro k
  induction k with
  | zero =>
    intro i hi
    have := h.1
    rw [List.drop_eq_nil_iff.mpr (by omega)]
    simp [rHasL]
  | succ k ih =>
    intro i hi
    simp only [rHasL]
    rw [if_neg h0, rParty_enc h (by omega), ih (i + 1) (by omega)]
    by_cases hl : i < l.length
    · rw [if_pos hl, List.drop_eq_getElem_cons hl]
      have e : l.getD i 0 = l[i] := by rw [List.getD_eq_getElem?_getD, List.getElem?_eq_getElem hl]; rfl
      have hb := h.2 l[i] (List.getElem_mem hl)
      rw [e]
      by_cases hq : l[i] = x
      · rw [if_pos (by rw [hq]), if_pos (by rw [hq]; exact List.mem_cons_self)]
      · rw [if_neg (fun e9 => hq ((nI_eq (by omega) (by omega)).mp e9))]
        have : (x ∈ l[i] :: l.drop (i + 1)) ↔ x ∈ l.drop (i + 1) := by
          rw [List.mem_cons]
          exact ⟨fun h => h.elim (fun e => absurd e.symm hq) id, Or.inr⟩
        simp only [this]
    · rw [if_neg hl, List.drop_eq_nil_iff.mpr (by omega), List.drop_eq_nil_iff.mpr (by omega)]
      have : ¬ (-1 : Int32) = nI x := fun e => h0 (by rw [← e]; decide)
      rw [if_neg this]
theorem rHas_enc {l : List Nat} (h : OkL l) {x : Nat} (hx : x < 6) : rHas (nI (encC l)) (nI x) = if x ∈ l then 1 else 0 := by
  unfold rHas
  rw [rHasL_enc h hx 6 0 rfl]
  simp
theorem rWithFirst_enc {l : List Nat} (h : OkL l) (h5 : l.length ≤ 5) {x : Nat} (hx : x < 6) : rWithFirst (nI x) (nI (encC l)) = nI (encC (x :: l)) := by
  have b : encC l < 32768 := Nat.lt_of_lt_of_le (encC_lt l h.2) (Nat.le_trans (Nat.pow_le_pow_right (by decide) h5) (by decide))
  unfold rWithFirst
  rw [pk_shlN _ 3 (by decide) (by omega), nI_1, nx_or, show encC l * 2 ^ 3 = 2 ^ 3 * encC l by omega, ← Nat.two_pow_add_eq_or_of_lt (i := 3) (by omega)]
  congr 1
  show 2 ^ 3 * encC l + (x + 1) = (x + 1) + 8 * encC l
  omega
theorem encC_app : ∀ (l : List Nat) (x : Nat), encC (l ++ [x]) = encC l + (x + 1) * 8 ^ l.length
  | [], x => by simp [encC]
  | y :: l, x => by
    have := encC_app l x
    show (y + 1) + 8 * encC (l ++ [x]) = (y + 1) + 8 * encC l + (x + 1) * 8 ^ (l.length + 1)
    rw [this, Nat.pow_succ, Nat.mul_add, ← Nat.mul_assoc (x + 1), Nat.mul_comm ((x + 1) * 8 ^ l.length) 8]
    omega
theorem digM_app : ∀ (l : List Nat) (x : Nat), digM (l ++ [x]) = digM l + x * 8 ^ l.length
  | [], x => by simp [digM]
  | y :: l, x => by
    have := digM_app l x
    show y + 8 * digM (l ++ [x]) = y + 8 * digM l + x * 8 ^ (l.length + 1)
    rw [this, Nat.pow_succ, Nat.mul_add, ← Nat.mul_assoc x, Nat.mul_comm (x * 8 ^ l.length) 8]
    omega
theorem sh3l : ∀ i, i < 6 → (((((3 : Int32) * nI i) &&& 31)).toBitVec.smod 32).toNat = 3 * i := by decide +kernel
theorem p8 : ∀ i, i < 6 → (8 : Nat) ^ i ≤ 32768 ∧ 2 ^ (3 * i) = (8 : Nat) ^ i := by decide +kernel
theorem rWithLast_enc {l : List Nat} (h : OkL l) (h5 : l.length ≤ 5) {x : Nat} (hx : x < 6) : rWithLast (nI (encC l)) (nI x) = nI (encC (l ++ [x])) := by
  have hp := p8 l.length (by omega)
  have b := encC_lt l h.2
  have b2 : (x + 1) * 8 ^ l.length ≤ 6 * 32768 := Nat.mul_le_mul (by omega) hp.1
  unfold rWithLast
  rw [rSize_enc h, nI_1, pk_shlN _ (3 * l.length) (sh3l l.length (by omega)) (by rw [hp.2]; omega), nx_or, Nat.or_comm, Nat.mul_comm, ← Nat.two_pow_add_eq_or_of_lt (i := 3 * l.length) (by rw [hp.2]; exact b), hp.2, encC_app]
  congr 1
  rw [Nat.mul_comm (8 ^ l.length)]
  omega

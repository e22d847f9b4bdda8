/-! What ties the class's state to the model's. -/
def RS (n P : Nat) (F G : FT) : Prop := F 8 = nI n ∧ n ≤ 14 ∧ G 9 = nI n ∧ F 0 = nI P ∧ 2 ≤ P ∧ P ≤ 6 ∧ G 0 = nI P ∧ F 20 = nI P ∧ F 21 = nI (2 ^ P - 1) ∧ F 1 = G 1 ∧ F 9 = G 4 ∧ F 10 = G 7 ∧ F 11 = G 6 ∧ F 12 = G 5 ∧ F 13 = G 3 ∧ F 14 = G 8
def RL (P : Nat) (x y : Int32) : Prop := ∃ l : List Nat, OkL l ∧ (∀ z ∈ l, z < P) ∧ x = nI (encC l) ∧ y = nI (encM l)
def KeyR (o : Int32) (j : Nat) (k r : Int32) : Prop := ∃ l : List Nat, OkL l ∧ l.Nodup ∧ k = nI (encC l) ∧ r = nI (encM l) ∧ (mHas o (nI j) = 0 ↔ l = []) ∧ (l ≠ [] → l.getD (l.length - 1) 0 = j)
def RA (n P : Nat) (a c : AT) : Prop := a 3 = c 10 ∧ a 4 = c 11 ∧ a 5 = c 12 ∧ a 6 = c 13 ∧ a 22 = c 15 ∧ (∀ i, i < n → a 3 i ≠ a 4 i) ∧ (∀ i, i < 14 → ∃ o, o < 64 ∧ a 6 i = nI o) ∧ (∀ i, i < 14 → ∀ j, j < 6 → KeyR (a 6 i) j (a 7 (i * 6 + j)) (c 14 (i * 6 + j))) ∧ (∀ q, q < 6 → ∃ t, t < 2 ^ P ∧ a 22 q = nI t ∧ (P ≤ q → t = 0))
def RelX (F : FT) (a : AT) (G : FT) (c : AT) : Prop := ∃ n P : Nat, RS n P F G ∧ RL P (F 15) (G 17) ∧ RA n P a c
theorem relX_base : BaseF RelX := by
  intro F a G c hR
  have hR0 := hR
  obtain ⟨n, P, hS, ⟨l, hl, hlP, h15, h17⟩, hA⟩ := hR
  obtain ⟨s1, s2, s3, s4, s5, s6, s7, s8, s9, -⟩ := hS
  have hPP := pow_P s6
  have h6 := hl.1
  refine ⟨n, P, 2 ^ P - 1, l.length, hR0, s1, s2, s4, s6, by omega, s8, s9, by omega, s3, s7, ?_, ?_, h6, ?_⟩
  · intro j hj
    obtain ⟨l2, k1, k2, k3, k4, -⟩ := hA.2.2.2.2.2.2.2.1 (j / 6) (by omega) (j % 6) (by omega)
    rw [show j / 6 * 6 + j % 6 = j by omega] at k4
    exact ⟨l2, k1, k2, k4⟩
  · rw [h17]; exact mMany_enc hl
  · intro i hi
    rw [h17, mMember_enc hl hi]
    exact vp_in_nI (getD_lt hl.2 i) (by decide)
/-- out of what the law hands over: the same n and P -/
theorem RB.get {n P E mm : Nat} {F : FT} {a : AT} {G : FT} {c : AT} (h : RB RelX n P E mm F a G c) : RS n P F G ∧ RL P (F 15) (G 17) ∧ RA n P a c ∧ E = 2 ^ P - 1 := by
  obtain ⟨⟨n2, P2, hS, hL, hA⟩, b1, b2, b3, b4, b5, b6, b7, b8, -⟩ := h
  have e1 : n2 = n := (nI_eq (by have := hS.2.1; omega) (by omega)).mp (hS.1.symm.trans b1)
  have e2 : P2 = P := (nI_eq (by have := hS.2.2.2.2.2.1; omega) (by omega)).mp (hS.2.2.2.1.symm.trans b3)
  subst e1; subst e2
  have hPP := pow_P b4
  refine ⟨hS, hL, hA, ?_⟩
  exact ((nI_eq (by omega) (by omega)).mp (hS.2.2.2.2.2.2.2.2.1.symm.trans b7)).symm
theorem RB.mm {n P E mm : Nat} {F : FT} {a : AT} {G : FT} {c : AT} (h : RB RelX n P E mm F a G c) : ∃ l : List Nat, OkL l ∧ (∀ z ∈ l, z < P) ∧ F 15 = nI (encC l) ∧ G 17 = nI (encM l) ∧ mm = l.length := by
  obtain ⟨hS, ⟨l, h1, h2, h3, h4⟩, -⟩ := h.get
  refine ⟨l, h1, h2, h3, h4, ?_⟩
  have h5 := h.2.2.2.2.2.2.2.2.2.2.2.2.1
  have h6 := h.2.2.2.2.2.2.2.2.2.2.2.2.2.1
  rw [h4, mMany_enc h1] at h5
  have h7 := h1.1
  exact ((nI_eq (by omega) (by omega)).mp h5).symm
theorem bit01 (v : Int32) : v &&& 1 = 0 ∨ v &&& 1 = 1 := by
  obtain ⟨j, hj, h⟩ := pk_andE v (m := 1) 1 (by decide)
  have : j = 0 ∨ j = 1 := by omega
  rcases this with rfl | rfl
  · exact Or.inl h
  · exact Or.inr h
theorem isParty_eq {n P : Nat} {F G : FT} (a c : AT) (h : RS n P F G) (x : Int32) : isPartyF F a x = mIsParty G c x := by
  unfold isPartyF mIsParty
  rw [h.2.2.2.1, h.2.2.2.2.2.2.1]
theorem isArc_eq {n P : Nat} {F G : FT} (a c : AT) (h : RS n P F G) (x : Int32) : isArcF F a x = mIsArc G c x := by
  unfold isArcF mIsArc
  rw [h.1, h.2.2.1]
theorem isOver_eq {n P : Nat} {F G : FT} (a c : AT) (h : RS n P F G) : isOverF F a = mIsLate G c := by
  obtain ⟨-, -, -, -, -, -, -, -, -, h1, -, -, h11, h12, h13, -⟩ := h
  unfold isOverF mIsLate
  rw [h1, h11, h12, h13]
theorem conf_has {n P : Nat} {F G : FT} (a : AT) (h : RS n P F G) (x : Int32) : (conformsF F a x = 0 ∧ mHas (G 8) x = 1) ∨ (conformsF F a x = 1 ∧ mHas (G 8) x = 0) := by
  unfold conformsF mHas
  rw [h.2.2.2.2.2.2.2.2.2.2.2.2.2.2.2]
  rcases bit01 (G 8 >>> (x &&& 31)) with h1 | h1
  · right
    rw [h1]
    exact ⟨by decide, by decide⟩
  · left
    rw [h1]
    exact ⟨by decide, by decide⟩
theorem RS.c0 {n P : Nat} {F G : FT} (h : RS n P F G) (v : Int32) : RS n P F (upd G 2 v) := h
theorem RelX.mk {n P : Nat} {F : FT} {a : AT} {G : FT} {c : AT} (h1 : RS n P F G) (h2 : RL P (F 15) (G 17)) (h3 : RA n P a c) : RelX F a G c := ⟨n, P, h1, h2, h3⟩
theorem fa_leaders : FA_leaders RelX := by
  intro n P E mm F a G c hB
  obtain ⟨hS, hL, hA, -⟩ := hB.get
  exact ⟨hS.2.2.2.2.2.2.2.2.2.2.2.1, RelX.mk (hS.c0 0) hL hA⟩
theorem fa_clear : FA_clear RelX := by
  intro n P E mm F a G c hB
  obtain ⟨hS, hL, hA, -⟩ := hB.get
  exact RelX.mk (n := n) (P := P) hS ⟨[], OkL.nil, (fun z h => by cases h), rfl, rfl⟩ hA
theorem fa_conform : FA_conform RelX := by
  intro n P E mm F a G c x y hB hy
  obtain ⟨hS, hL, hA, -⟩ := hB.get
  unfold conformF mConform
  rw [isParty_eq a c (hS.c0 0) x]
  by_cases hp : mIsParty (upd G 2 0) c x = 0
  · rw [if_pos hp, if_pos hp]
    exact ⟨rfl, RelX.mk (hS.c0 0) hL hA⟩
  · rw [if_neg hp, if_neg hp]
    have key : RelX (upd F 14 (F 14 ^^^ ((1 : Int32) <<< (x &&& 31)))) a (upd (upd G 2 0) 8 (G 8 ^^^ ((1 : Int32) <<< (x &&& 31)))) c := by
      obtain ⟨t1, t2, t3, t4, t5, t6, t7, t8, t9, u1, u2, u3, u4, u5, u6, u7⟩ := hS
      exact RelX.mk ⟨t1, t2, t3, t4, t5, t6, t7, t8, t9, u1, u2, u3, u4, u5, u6, (by show F 14 ^^^ _ = G 8 ^^^ _; rw [u7])⟩ hL hA
    have same : RelX F a (upd G 2 0) c := RelX.mk (hS.c0 0) hL hA
    rcases conf_has a hS x with ⟨e1, e2⟩ | ⟨e1, e2⟩
    · rw [e1, e2]
      rcases hy with rfl | rfl
      · exact ⟨rfl, same⟩
      · exact ⟨rfl, key⟩
    · rw [e1, e2]
      rcases hy with rfl | rfl
      · exact ⟨rfl, key⟩
      · exact ⟨rfl, same⟩
theorem fa_pass : FA_pass RelX := by
  intro n P E mm F a G c x hB
  obtain ⟨hS, hL, hA, -⟩ := hB.get
  unfold passF mPass
  by_cases h0 : x < 0
  · rw [if_pos h0, if_pos h0]; exact ⟨rfl, RelX.mk (hS.c0 0) hL hA⟩
  · rw [if_neg h0, if_neg h0]
    by_cases h1 : x ≤ 100
    · rw [if_pos h1, if_pos h1]
      obtain ⟨t1, t2, t3, t4, t5, t6, t7, t8, t9, u1, u2, u3, u4, u5, u6, u7⟩ := hS
      have e : F 13 + x = G 3 + x := by rw [u6]
      exact ⟨e, RelX.mk ⟨t1, t2, t3, t4, t5, t6, t7, t8, t9, u1, u2, u3, u4, u5, e, u7⟩ hL hA⟩
    · rw [if_neg h1, if_neg h1]; exact ⟨rfl, RelX.mk (hS.c0 0) hL hA⟩
theorem fa_state : FA_state RelX := by
  intro n P E mm F a G c x hB
  obtain ⟨hS, hL, hA, -⟩ := hB.get
  unfold stateF mState mFail
  rw [isArc_eq a c (hS.c0 0) x]
  by_cases hp : mIsArc (upd G 2 0) c x = 0
  · rw [if_pos hp, if_pos hp]; exact ⟨rfl, fun h => absurd h (by decide), RelX.mk hS hL hA⟩
  · rw [if_neg hp, if_neg hp]; exact ⟨rfl, fun _ => by rw [hA.2.2.1], RelX.mk hS hL hA⟩
theorem fa_open : FA_open RelX := by
  intro n P E mm F a G c x hB
  obtain ⟨hS, hL, hA, -⟩ := hB.get
  unfold openF mOpen mFail
  rw [isArc_eq a c (hS.c0 0) x]
  by_cases hp : mIsArc (upd G 2 0) c x = 0
  · rw [if_pos hp, if_pos hp]; exact ⟨rfl, fun h => absurd h (by decide), RelX.mk hS hL hA⟩
  · rw [if_neg hp, if_neg hp]; exact ⟨rfl, fun _ => by rw [hA.2.2.2.1], RelX.mk hS hL hA⟩
theorem RA.state {n P : Nat} {a c : AT} (h : RA n P a c) (i : Nat) (v : Int32) : RA n P (updA a 5 (upd (a 5) i v)) (updA c 12 (upd (c 12) i v)) := by
  obtain ⟨h3, h4, h5, h⟩ := h
  exact ⟨h3, h4, (by show upd (a 5) i v = upd (c 12) i v; rw [h5]), h⟩
theorem fa_deploy : FA_deploy RelX := by
  intro n P E mm F a G c x hB
  obtain ⟨hS, hL, hA, -⟩ := hB.get
  unfold deployF mDeploy
  rw [isArc_eq a c hS x]
  by_cases hp : mIsArc G c x = 0
  · rw [if_pos hp, if_pos hp]; exact ⟨rfl, RelX.mk hS hL hA⟩
  · rw [if_neg hp, if_neg hp, hS.2.2.2.2.2.2.2.2.2.2.1]
    by_cases h4 : G 4 = 0
    · rw [if_pos h4, if_pos h4]; exact ⟨rfl, RelX.mk hS hL hA⟩
    · rw [if_neg h4, if_neg h4]
      have e5 : a 5 x.toNatClampNeg = c 12 x.toNatClampNeg := by rw [hA.2.2.1]
      by_cases hc : c 12 x.toNatClampNeg = 0
      · rw [if_pos (e5.trans hc), if_pos hc]; exact ⟨rfl, RelX.mk hS hL (hA.state _ _)⟩
      · rw [if_neg (fun h => hc (e5.symm.trans h)), if_neg hc]; exact ⟨rfl, RelX.mk hS hL hA⟩
theorem fa_back : FA_back RelX := by
  intro n P E mm F a G c x hB
  obtain ⟨hS, hL, hA, -⟩ := hB.get
  unfold backF mBack
  rw [isArc_eq a c hS x, isOver_eq a c hS]
  by_cases hp : mIsArc G c x = 0
  · rw [if_pos hp, if_pos hp]; exact ⟨rfl, RelX.mk hS hL hA⟩
  · rw [if_neg hp, if_neg hp]
    have e5 : a 5 x.toNatClampNeg = c 12 x.toNatClampNeg := by rw [hA.2.2.1]
    by_cases hc : c 12 x.toNatClampNeg = 1
    · rw [if_pos (e5.trans hc), if_pos hc]
      by_cases hl : mIsLate G c = 0
      · rw [if_pos hl, if_pos hl]; exact ⟨rfl, RelX.mk hS hL hA⟩
      · rw [if_neg hl, if_neg hl]; exact ⟨rfl, RelX.mk hS hL (hA.state _ _)⟩
    · rw [if_neg (fun h => hc (e5.symm.trans h)), if_neg hc]; exact ⟨rfl, RelX.mk hS hL hA⟩

theorem deed1_km {F : FT} {a0 : AT} {n P j : Nat} : ∀ (k i : Nat) (d : Int32) (a : AT), KM a → KM (mDeed1 F a0 n P j k i d a).2 := by
  intro k
  induction k with
  | zero => intro i d a h; exact h
  | succ k ih =>
    intro i d a h
    simp only [mDeed1]
    repeat' split
    all_goals exact ih _ _ _ h
theorem mSelf_km {F : FT} {a : AT} {n P j : Nat} (hj : j < 6) (h : KM a) : KM (mSelf F a n P j).2 := by
  have h1 := deed1_km (F := F) (a0 := a) (n := n) (P := P) (j := j) n 0 0 a h
  unfold mSelf
  split
  · exact h1
  · split
    · exact h1
    · exact KM.shown (PreM.good hj PreM.zero).1 h1

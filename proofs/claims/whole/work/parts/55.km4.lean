theorem runI_km {F : FT} {n P : Nat} {x t : Int32} (hn4 : n ≤ 14) (hp6 : P ≤ 6) : ∀ (k i : Nat) (d : Int32) (a : AT), i + k = P → KM a → KM (mRunI F n P x t k i d a).2 := by
  intro k
  induction k with
  | zero => intro i d a _ h; exact h
  | succ k ih =>
    intro i d a hi h
    simp only [mRunI]
    repeat' split
    all_goals first | exact h | exact ih _ _ _ (by omega) h | exact ih _ _ _ (by omega) (KM.deeds hn4 hp6 (by omega) h)

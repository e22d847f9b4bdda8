theorem vp_room8 {F : FT} {n : Nat} (hn : F 8 = nI n) (hn4 : n ≤ 14) (h : F 8 < 14) : vp_in (F 8) 14 := by
  rw [hn] at h ⊢
  have hn5 : n < 14 := by
    rcases Nat.lt_or_ge n 14 with h1 | h1
    · exact h1
    · have : n = 14 := by omega
      subst this
      exact absurd h (by decide)
  exact vp_in_nI (by omega) (by decide)
theorem vp_key5 {x y : Int32} (hx : vp_in x 14) (hl : vp_in y 6) : vp_in (x * (6 : Int32) + y) 84 := by
  rw [show x * (6 : Int32) = (6 : Int32) * x from Int32.mul_comm _ _]; exact vp_key4 hx hl
def wXr (cI : ClassId) (b : Nat → Nat) (F : FT) (a : AT) : va_W := [(b 0, .inr (0, [.int (F 0), .int (F 1), .ref (b 1), .ref (b 2), .ref (b 3), .ref (b 4), .ref (b 5), .ref (b 6), .int (F 8), .int (F 9), .int (F 10), .int (F 11), .int (F 12), .int (F 13), .int (F 14), .int (F 15)])), (b 2, .inl (cI, 14, .inl (a 3))), (b 3, .inl (cI, 14, .inl (a 4))), (b 4, .inl (cI, 14, .inl (a 5))), (b 5, .inl (cI, 14, .inl (a 6))), (b 6, .inl (cI, 84, .inl (a 7)))]

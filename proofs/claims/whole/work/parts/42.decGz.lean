def gLongestL (F : FT) (a : AT) (P : Nat) : Nat → Nat → Int32 → Int32
  | 0, i, u => u
  | ki + 1, i, u => gLongestL F a P ki (i + 1) (if u < (gLong a 5 (nI i) ((1 : Int32) <<< ((nI i) &&& 31))) then gLong a 5 (nI i) ((1 : Int32) <<< ((nI i) &&& 31)) else u)
def gLongest (F : FT) (a : AT) (P : Nat) : Int32 :=
  gLongestL F a P P 0 0
theorem dG_longestPath_0 : decode bG_longestPath 0 = .ok (.iconst 0, 1) := by decide +kernel
theorem dG_longestPath_1 : decode bG_longestPath 1 = .ok (.istore_n 1, 1) := by decide +kernel
theorem dG_longestPath_2 : decode bG_longestPath 2 = .ok (.iconst 0, 1) := by decide +kernel
theorem dG_longestPath_3 : decode bG_longestPath 3 = .ok (.istore_n 2, 1) := by decide +kernel
theorem dG_longestPath_4 : decode bG_longestPath 4 = .ok (.iload_n 2, 1) := by decide +kernel
theorem dG_longestPath_5 : decode bG_longestPath 5 = .ok (.aload_n 0, 1) := by decide +kernel
theorem dG_longestPath_6 : decode bG_longestPath 6 = .ok (.getfield 15, 3) := by decide +kernel
theorem dG_longestPath_9 : decode bG_longestPath 9 = .ok (.if_icmp .ge 26, 3) := by decide +kernel
theorem dG_longestPath_12 : decode bG_longestPath 12 = .ok (.iload_n 1, 1) := by decide +kernel
theorem dG_longestPath_13 : decode bG_longestPath 13 = .ok (.aload_n 0, 1) := by decide +kernel
theorem dG_longestPath_14 : decode bG_longestPath 14 = .ok (.getfield 9, 3) := by decide +kernel
theorem dG_longestPath_17 : decode bG_longestPath 17 = .ok (.iload_n 2, 1) := by decide +kernel
theorem dG_longestPath_18 : decode bG_longestPath 18 = .ok (.iconst 1, 1) := by decide +kernel
theorem dG_longestPath_19 : decode bG_longestPath 19 = .ok (.iload_n 2, 1) := by decide +kernel
theorem dG_longestPath_20 : decode bG_longestPath 20 = .ok (.ishl, 1) := by decide +kernel
theorem dG_longestPath_21 : decode bG_longestPath 21 = .ok (.iconst 1, 1) := by decide +kernel
theorem dG_longestPath_22 : decode bG_longestPath 22 = .ok (.invokestatic 51, 3) := by decide +kernel
theorem dG_longestPath_25 : decode bG_longestPath 25 = .ok (.invokestatic 55, 3) := by decide +kernel
theorem dG_longestPath_28 : decode bG_longestPath 28 = .ok (.istore_n 1, 1) := by decide +kernel
theorem dG_longestPath_29 : decode bG_longestPath 29 = .ok (.iinc 2 1, 3) := by decide +kernel
theorem dG_longestPath_32 : decode bG_longestPath 32 = .ok (.goto (-28), 3) := by decide +kernel
theorem dG_longestPath_35 : decode bG_longestPath 35 = .ok (.iload_n 1, 1) := by decide +kernel
theorem dG_longestPath_36 : decode bG_longestPath 36 = .ok (.ireturn, 1) := by decide +kernel
theorem inG_longestPath_G : ∀ x ∈ u_ws RcG TcG 3, x ∈ wG_longestPath := by decide +kernel
set_option maxRecDepth 20000 in
theorem gG_longestPath_G_longestFrom : GoodIn wG_longestPath (va_wsS RcG 51 yG_longestFrom wG_longestFrom) := goodIn_app (goodIn_of _ (by decide +kernel)) (goodIn_r _ [10, 3, 4, 5, 6, 7, 8, 9] (by decide +kernel) (by decide +kernel))

theorem dX_moveAll_0 : decode bX_moveAll 0 = .ok (.iconst 0, 1) := by decide +kernel
theorem dX_moveAll_1 : decode bX_moveAll 1 = .ok (.istore 4, 2) := by decide +kernel
theorem dX_moveAll_3 : decode bX_moveAll 3 = .ok (.iconst 0, 1) := by decide +kernel
theorem dX_moveAll_4 : decode bX_moveAll 4 = .ok (.istore 5, 2) := by decide +kernel
theorem dX_moveAll_6 : decode bX_moveAll 6 = .ok (.iload 5, 2) := by decide +kernel
theorem dX_moveAll_8 : decode bX_moveAll 8 = .ok (.aload_n 0, 1) := by decide +kernel
theorem dX_moveAll_9 : decode bX_moveAll 9 = .ok (.getfield 71, 3) := by decide +kernel
theorem dX_moveAll_12 : decode bX_moveAll 12 = .ok (.if_icmp .ge 42, 3) := by decide +kernel
theorem dX_moveAll_15 : decode bX_moveAll 15 = .ok (.aload_n 0, 1) := by decide +kernel
theorem dX_moveAll_16 : decode bX_moveAll 16 = .ok (.getfield 9, 3) := by decide +kernel
theorem dX_moveAll_19 : decode bX_moveAll 19 = .ok (.iload 5, 2) := by decide +kernel
theorem dX_moveAll_21 : decode bX_moveAll 21 = .ok (.iaload, 1) := by decide +kernel
theorem dX_moveAll_22 : decode bX_moveAll 22 = .ok (.iload_n 1, 1) := by decide +kernel
theorem dX_moveAll_23 : decode bX_moveAll 23 = .ok (.if_icmp .ne 25, 3) := by decide +kernel
theorem dX_moveAll_26 : decode bX_moveAll 26 = .ok (.aload_n 0, 1) := by decide +kernel
theorem dX_moveAll_27 : decode bX_moveAll 27 = .ok (.getfield 16, 3) := by decide +kernel
theorem dX_moveAll_30 : decode bX_moveAll 30 = .ok (.iload 5, 2) := by decide +kernel
theorem dX_moveAll_32 : decode bX_moveAll 32 = .ok (.iaload, 1) := by decide +kernel
theorem dX_moveAll_33 : decode bX_moveAll 33 = .ok (.iload_n 2, 1) := by decide +kernel
theorem dX_moveAll_34 : decode bX_moveAll 34 = .ok (.if_icmp .ne 14, 3) := by decide +kernel
theorem dX_moveAll_37 : decode bX_moveAll 37 = .ok (.aload_n 0, 1) := by decide +kernel
theorem dX_moveAll_38 : decode bX_moveAll 38 = .ok (.getfield 16, 3) := by decide +kernel
theorem dX_moveAll_41 : decode bX_moveAll 41 = .ok (.iload 5, 2) := by decide +kernel
theorem dX_moveAll_43 : decode bX_moveAll 43 = .ok (.iload_n 3, 1) := by decide +kernel
theorem dX_moveAll_44 : decode bX_moveAll 44 = .ok (.iastore, 1) := by decide +kernel
theorem dX_moveAll_45 : decode bX_moveAll 45 = .ok (.iinc 4 1, 3) := by decide +kernel
theorem dX_moveAll_48 : decode bX_moveAll 48 = .ok (.iinc 5 1, 3) := by decide +kernel
theorem dX_moveAll_51 : decode bX_moveAll 51 = .ok (.goto (-45), 3) := by decide +kernel
theorem dX_moveAll_54 : decode bX_moveAll 54 = .ok (.iload 4, 2) := by decide +kernel
theorem dX_moveAll_56 : decode bX_moveAll 56 = .ok (.ireturn, 1) := by decide +kernel
theorem dX_shortestLearnt_0 : decode bX_shortestLearnt 0 = .ok (.iconst 0, 1) := by decide +kernel
theorem dX_shortestLearnt_1 : decode bX_shortestLearnt 1 = .ok (.istore_n 3, 1) := by decide +kernel
theorem dX_shortestLearnt_2 : decode bX_shortestLearnt 2 = .ok (.iconst 0, 1) := by decide +kernel
theorem dX_shortestLearnt_3 : decode bX_shortestLearnt 3 = .ok (.istore 4, 2) := by decide +kernel
theorem dX_shortestLearnt_5 : decode bX_shortestLearnt 5 = .ok (.iload 4, 2) := by decide +kernel
theorem dX_shortestLearnt_7 : decode bX_shortestLearnt 7 = .ok (.aload_n 0, 1) := by decide +kernel
theorem dX_shortestLearnt_8 : decode bX_shortestLearnt 8 = .ok (.getfield 71, 3) := by decide +kernel
theorem dX_shortestLearnt_11 : decode bX_shortestLearnt 11 = .ok (.if_icmp .ge 78, 3) := by decide +kernel
theorem dX_shortestLearnt_14 : decode bX_shortestLearnt 14 = .ok (.aload_n 0, 1) := by decide +kernel
theorem dX_shortestLearnt_15 : decode bX_shortestLearnt 15 = .ok (.getfield 9, 3) := by decide +kernel
theorem dX_shortestLearnt_18 : decode bX_shortestLearnt 18 = .ok (.iload 4, 2) := by decide +kernel
theorem dX_shortestLearnt_20 : decode bX_shortestLearnt 20 = .ok (.iaload, 1) := by decide +kernel
theorem dX_shortestLearnt_21 : decode bX_shortestLearnt 21 = .ok (.iload_n 1, 1) := by decide +kernel
theorem dX_shortestLearnt_22 : decode bX_shortestLearnt 22 = .ok (.if_icmp .ne 13, 3) := by decide +kernel
theorem dX_shortestLearnt_25 : decode bX_shortestLearnt 25 = .ok (.aload_n 0, 1) := by decide +kernel
theorem dX_shortestLearnt_26 : decode bX_shortestLearnt 26 = .ok (.iload 4, 2) := by decide +kernel
theorem dX_shortestLearnt_28 : decode bX_shortestLearnt 28 = .ok (.iload_n 2, 1) := by decide +kernel
theorem dX_shortestLearnt_29 : decode bX_shortestLearnt 29 = .ok (.invokevirtual 190, 3) := by decide +kernel
theorem dX_shortestLearnt_32 : decode bX_shortestLearnt 32 = .ok (.goto 4, 3) := by decide +kernel
theorem dX_shortestLearnt_35 : decode bX_shortestLearnt 35 = .ok (.iconst 0, 1) := by decide +kernel
theorem dX_shortestLearnt_36 : decode bX_shortestLearnt 36 = .ok (.istore 5, 2) := by decide +kernel
theorem dX_shortestLearnt_38 : decode bX_shortestLearnt 38 = .ok (.iload 5, 2) := by decide +kernel
theorem dX_shortestLearnt_40 : decode bX_shortestLearnt 40 = .ok (.ifCond .eq 16, 3) := by decide +kernel
theorem dX_shortestLearnt_43 : decode bX_shortestLearnt 43 = .ok (.iload 5, 2) := by decide +kernel
theorem dX_shortestLearnt_45 : decode bX_shortestLearnt 45 = .ok (.iload_n 1, 1) := by decide +kernel
theorem dX_shortestLearnt_46 : decode bX_shortestLearnt 46 = .ok (.invokestatic 234, 3) := by decide +kernel
theorem dX_shortestLearnt_49 : decode bX_shortestLearnt 49 = .ok (.ifCond .ne 7, 3) := by decide +kernel
theorem dX_shortestLearnt_52 : decode bX_shortestLearnt 52 = .ok (.iconst 1, 1) := by decide +kernel
theorem dX_shortestLearnt_53 : decode bX_shortestLearnt 53 = .ok (.goto 4, 3) := by decide +kernel
theorem dX_shortestLearnt_56 : decode bX_shortestLearnt 56 = .ok (.iconst 0, 1) := by decide +kernel
theorem dX_shortestLearnt_57 : decode bX_shortestLearnt 57 = .ok (.istore 6, 2) := by decide +kernel
theorem dX_shortestLearnt_59 : decode bX_shortestLearnt 59 = .ok (.iload 6, 2) := by decide +kernel
theorem dX_shortestLearnt_61 : decode bX_shortestLearnt 61 = .ok (.ifCond .eq 22, 3) := by decide +kernel
theorem dX_shortestLearnt_64 : decode bX_shortestLearnt 64 = .ok (.iload_n 3, 1) := by decide +kernel
theorem dX_shortestLearnt_65 : decode bX_shortestLearnt 65 = .ok (.ifCond .eq 15, 3) := by decide +kernel
theorem dX_shortestLearnt_68 : decode bX_shortestLearnt 68 = .ok (.iload 5, 2) := by decide +kernel
theorem dX_shortestLearnt_70 : decode bX_shortestLearnt 70 = .ok (.invokestatic 141, 3) := by decide +kernel
theorem dX_shortestLearnt_73 : decode bX_shortestLearnt 73 = .ok (.iload_n 3, 1) := by decide +kernel
theorem dX_shortestLearnt_74 : decode bX_shortestLearnt 74 = .ok (.invokestatic 141, 3) := by decide +kernel
theorem dX_shortestLearnt_77 : decode bX_shortestLearnt 77 = .ok (.if_icmp .ge 6, 3) := by decide +kernel
theorem dX_shortestLearnt_80 : decode bX_shortestLearnt 80 = .ok (.iload 5, 2) := by decide +kernel
theorem dX_shortestLearnt_82 : decode bX_shortestLearnt 82 = .ok (.istore_n 3, 1) := by decide +kernel
theorem dX_shortestLearnt_83 : decode bX_shortestLearnt 83 = .ok (.iinc 4 1, 3) := by decide +kernel
theorem dX_shortestLearnt_86 : decode bX_shortestLearnt 86 = .ok (.goto (-81), 3) := by decide +kernel
theorem dX_shortestLearnt_89 : decode bX_shortestLearnt 89 = .ok (.iload_n 3, 1) := by decide +kernel
theorem dX_shortestLearnt_90 : decode bX_shortestLearnt 90 = .ok (.ireturn, 1) := by decide +kernel
theorem dX_showToAll_0 : decode bX_showToAll 0 = .ok (.aload_n 0, 1) := by decide +kernel
theorem dX_showToAll_1 : decode bX_showToAll 1 = .ok (.iload_n 3, 1) := by decide +kernel
theorem dX_showToAll_2 : decode bX_showToAll 2 = .ok (.invokevirtual 166, 3) := by decide +kernel
theorem dX_showToAll_5 : decode bX_showToAll 5 = .ok (.ifCond .ne 5, 3) := by decide +kernel
theorem dX_showToAll_8 : decode bX_showToAll 8 = .ok (.iconst 0, 1) := by decide +kernel
theorem dX_showToAll_9 : decode bX_showToAll 9 = .ok (.ireturn, 1) := by decide +kernel
theorem dX_showToAll_10 : decode bX_showToAll 10 = .ok (.iconst 0, 1) := by decide +kernel
theorem dX_showToAll_11 : decode bX_showToAll 11 = .ok (.istore 4, 2) := by decide +kernel
theorem dX_showToAll_13 : decode bX_showToAll 13 = .ok (.iconst 0, 1) := by decide +kernel
theorem dX_showToAll_14 : decode bX_showToAll 14 = .ok (.istore 5, 2) := by decide +kernel
theorem dX_showToAll_16 : decode bX_showToAll 16 = .ok (.iload 5, 2) := by decide +kernel
theorem dX_showToAll_18 : decode bX_showToAll 18 = .ok (.aload_n 0, 1) := by decide +kernel
theorem dX_showToAll_19 : decode bX_showToAll 19 = .ok (.getfield 71, 3) := by decide +kernel
theorem dX_showToAll_22 : decode bX_showToAll 22 = .ok (.if_icmp .ge 52, 3) := by decide +kernel
theorem dX_showToAll_25 : decode bX_showToAll 25 = .ok (.aload_n 0, 1) := by decide +kernel
theorem dX_showToAll_26 : decode bX_showToAll 26 = .ok (.getfield 13, 3) := by decide +kernel
theorem dX_showToAll_29 : decode bX_showToAll 29 = .ok (.iload 5, 2) := by decide +kernel
theorem dX_showToAll_31 : decode bX_showToAll 31 = .ok (.iaload, 1) := by decide +kernel
theorem dX_showToAll_32 : decode bX_showToAll 32 = .ok (.iload_n 1, 1) := by decide +kernel
theorem dX_showToAll_33 : decode bX_showToAll 33 = .ok (.if_icmp .ne 35, 3) := by decide +kernel
theorem dX_showToAll_36 : decode bX_showToAll 36 = .ok (.aload_n 0, 1) := by decide +kernel
theorem dX_showToAll_37 : decode bX_showToAll 37 = .ok (.getfield 16, 3) := by decide +kernel
theorem dX_showToAll_40 : decode bX_showToAll 40 = .ok (.iload 5, 2) := by decide +kernel
theorem dX_showToAll_42 : decode bX_showToAll 42 = .ok (.iaload, 1) := by decide +kernel
theorem dX_showToAll_43 : decode bX_showToAll 43 = .ok (.iconst 1, 1) := by decide +kernel
theorem dX_showToAll_44 : decode bX_showToAll 44 = .ok (.if_icmp .ne 24, 3) := by decide +kernel
theorem dX_showToAll_47 : decode bX_showToAll 47 = .ok (.aload_n 0, 1) := by decide +kernel
theorem dX_showToAll_48 : decode bX_showToAll 48 = .ok (.iload 5, 2) := by decide +kernel
theorem dX_showToAll_50 : decode bX_showToAll 50 = .ok (.iload_n 2, 1) := by decide +kernel
theorem dX_showToAll_51 : decode bX_showToAll 51 = .ok (.invokevirtual 161, 3) := by decide +kernel
theorem dX_showToAll_54 : decode bX_showToAll 54 = .ok (.ifCond .ne 14, 3) := by decide +kernel
theorem dX_showToAll_57 : decode bX_showToAll 57 = .ok (.aload_n 0, 1) := by decide +kernel
theorem dX_showToAll_58 : decode bX_showToAll 58 = .ok (.iload 5, 2) := by decide +kernel
theorem dX_showToAll_60 : decode bX_showToAll 60 = .ok (.iload_n 2, 1) := by decide +kernel
theorem dX_showToAll_61 : decode bX_showToAll 61 = .ok (.iload_n 3, 1) := by decide +kernel
theorem dX_showToAll_62 : decode bX_showToAll 62 = .ok (.invokevirtual 174, 3) := by decide +kernel
theorem dX_showToAll_65 : decode bX_showToAll 65 = .ok (.iinc 4 1, 3) := by decide +kernel
theorem dX_showToAll_68 : decode bX_showToAll 68 = .ok (.iinc 5 1, 3) := by decide +kernel
theorem dX_showToAll_71 : decode bX_showToAll 71 = .ok (.goto (-55), 3) := by decide +kernel
theorem dX_showToAll_74 : decode bX_showToAll 74 = .ok (.iload 4, 2) := by decide +kernel
theorem dX_showToAll_76 : decode bX_showToAll 76 = .ok (.ireturn, 1) := by decide +kernel
theorem inX_moveAll_X : ∀ x ∈ u_ws RcX TcX 16, x ∈ wX_moveAll := by decide +kernel
theorem inX_shortestLearnt_X : ∀ x ∈ u_ws RcX TcX 16, x ∈ wX_shortestLearnt := by decide +kernel
set_option maxRecDepth 20000 in
theorem gX_shortestLearnt_X_hashkey : GoodIn wX_shortestLearnt (wsV RcX 190 RcX yX_hashkey wX_hashkey) := goodIn_app (goodIn_of _ (by decide +kernel)) (goodIn_r _ [12, 13, 14, 15, 6, 16, 17, 18, 19, 20, 1, 21, 22, 28, 29, 30, 31, 32, 33, 34, 35, 36, 37, 38, 39, 40, 41, 42, 43] (by decide +kernel) (by decide +kernel))
set_option maxRecDepth 20000 in
theorem gX_shortestLearnt_R_has : GoodIn wX_shortestLearnt (va_wsS RcX 234 yR_has wR_has) := goodIn_app (goodIn_of _ (by decide +kernel)) (goodIn_r _ [23, 24, 25, 9, 26] (by decide +kernel) (by decide +kernel))
set_option maxRecDepth 20000 in
theorem gX_shortestLearnt_R_size : GoodIn wX_shortestLearnt (va_wsS RcX 141 yR_size wR_size) := goodIn_app (goodIn_of _ (by decide +kernel)) (goodIn_r _ [27] (by decide +kernel) (by decide +kernel))
set_option maxRecDepth 20000 in
theorem gX_showToAll_X_isInTime : GoodIn wX_showToAll (wsV RcX 166 RcX yX_isInTime wX_isInTime) := goodIn_app (goodIn_of _ (by decide +kernel)) (goodIn_r _ [14, 15, 16, 17, 18, 19, 20, 21, 22, 28, 29, 30, 31, 32, 33, 34, 35, 36, 37, 38, 39, 40, 41, 42, 43] (by decide +kernel) (by decide +kernel))
theorem inX_showToAll_X : ∀ x ∈ u_ws RcX TcX 16, x ∈ wX_showToAll := by decide +kernel
set_option maxRecDepth 20000 in
theorem gX_showToAll_X_isUnlocked : GoodIn wX_showToAll (wsV RcX 161 RcX yX_isUnlocked wX_isUnlocked) := goodIn_app (goodIn_of _ (by decide +kernel)) (goodIn_r _ [23, 24, 28, 29, 30, 31, 32, 33, 34, 35, 36, 37, 38, 39, 40, 41, 42, 43] (by decide +kernel) (by decide +kernel))
set_option maxRecDepth 20000 in
theorem gX_showToAll_X_unlock : GoodIn wX_showToAll (wsV RcX 174 RcX yX_unlock wX_unlock) := goodIn_app (goodIn_of _ (by decide +kernel)) (goodIn_r _ [25, 26, 24, 27, 7, 28, 29, 30, 31, 32, 33, 34, 35, 36, 37, 38, 39, 40, 41, 42, 43] (by decide +kernel) (by decide +kernel))

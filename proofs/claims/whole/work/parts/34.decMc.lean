theorem dM_unlock_0 : decode bM_unlock 0 = .ok (.iload_n 2, 1) := by decide +kernel
theorem dM_unlock_1 : decode bM_unlock 1 = .ok (.iload_n 2, 1) := by decide +kernel
theorem dM_unlock_2 : decode bM_unlock 2 = .ok (.invokestatic 89, 3) := by decide +kernel
theorem dM_unlock_5 : decode bM_unlock 5 = .ok (.iconst 1, 1) := by decide +kernel
theorem dM_unlock_6 : decode bM_unlock 6 = .ok (.isub, 1) := by decide +kernel
theorem dM_unlock_7 : decode bM_unlock 7 = .ok (.invokestatic 92, 3) := by decide +kernel
theorem dM_unlock_10 : decode bM_unlock 10 = .ok (.istore_n 3, 1) := by decide +kernel
theorem dM_unlock_11 : decode bM_unlock 11 = .ok (.aload_n 0, 1) := by decide +kernel
theorem dM_unlock_12 : decode bM_unlock 12 = .ok (.getfield 19, 3) := by decide +kernel
theorem dM_unlock_15 : decode bM_unlock 15 = .ok (.iload_n 1, 1) := by decide +kernel
theorem dM_unlock_16 : decode bM_unlock 16 = .ok (.dup2, 1) := by decide +kernel
theorem dM_unlock_17 : decode bM_unlock 17 = .ok (.iaload, 1) := by decide +kernel
theorem dM_unlock_18 : decode bM_unlock 18 = .ok (.iconst 1, 1) := by decide +kernel
theorem dM_unlock_19 : decode bM_unlock 19 = .ok (.iload_n 3, 1) := by decide +kernel
theorem dM_unlock_20 : decode bM_unlock 20 = .ok (.ishl, 1) := by decide +kernel
theorem dM_unlock_21 : decode bM_unlock 21 = .ok (.ior, 1) := by decide +kernel
theorem dM_unlock_22 : decode bM_unlock 22 = .ok (.iastore, 1) := by decide +kernel
theorem dM_unlock_23 : decode bM_unlock 23 = .ok (.aload_n 0, 1) := by decide +kernel
theorem dM_unlock_24 : decode bM_unlock 24 = .ok (.getfield 22, 3) := by decide +kernel
theorem dM_unlock_27 : decode bM_unlock 27 = .ok (.bipush 6, 2) := by decide +kernel
theorem dM_unlock_29 : decode bM_unlock 29 = .ok (.iload_n 1, 1) := by decide +kernel
theorem dM_unlock_30 : decode bM_unlock 30 = .ok (.imul, 1) := by decide +kernel
theorem dM_unlock_31 : decode bM_unlock 31 = .ok (.iload_n 3, 1) := by decide +kernel
theorem dM_unlock_32 : decode bM_unlock 32 = .ok (.iadd, 1) := by decide +kernel
theorem dM_unlock_33 : decode bM_unlock 33 = .ok (.iload_n 2, 1) := by decide +kernel
theorem dM_unlock_34 : decode bM_unlock 34 = .ok (.iastore, 1) := by decide +kernel
theorem dM_unlock_35 : decode bM_unlock 35 = .ok (.aload_n 0, 1) := by decide +kernel
theorem dM_unlock_36 : decode bM_unlock 36 = .ok (.getfield 19, 3) := by decide +kernel
theorem dM_unlock_39 : decode bM_unlock 39 = .ok (.iload_n 1, 1) := by decide +kernel
theorem dM_unlock_40 : decode bM_unlock 40 = .ok (.iaload, 1) := by decide +kernel
theorem dM_unlock_41 : decode bM_unlock 41 = .ok (.aload_n 0, 1) := by decide +kernel
theorem dM_unlock_42 : decode bM_unlock 42 = .ok (.getfield 86, 3) := by decide +kernel
theorem dM_unlock_45 : decode bM_unlock 45 = .ok (.if_icmp .ne 10, 3) := by decide +kernel
theorem dM_unlock_48 : decode bM_unlock 48 = .ok (.aload_n 0, 1) := by decide +kernel
theorem dM_unlock_49 : decode bM_unlock 49 = .ok (.getfield 16, 3) := by decide +kernel
theorem dM_unlock_52 : decode bM_unlock 52 = .ok (.iload_n 1, 1) := by decide +kernel
theorem dM_unlock_53 : decode bM_unlock 53 = .ok (.iconst 2, 1) := by decide +kernel
theorem dM_unlock_54 : decode bM_unlock 54 = .ok (.iastore, 1) := by decide +kernel
theorem dM_unlock_55 : decode bM_unlock 55 = .ok (.return_, 1) := by decide +kernel
theorem dM_isCovered_0 : decode bM_isCovered 0 = .ok (.iconst 1, 1) := by decide +kernel
theorem dM_isCovered_1 : decode bM_isCovered 1 = .ok (.istore_n 2, 1) := by decide +kernel
theorem dM_isCovered_2 : decode bM_isCovered 2 = .ok (.iconst 0, 1) := by decide +kernel
theorem dM_isCovered_3 : decode bM_isCovered 3 = .ok (.istore_n 3, 1) := by decide +kernel
theorem dM_isCovered_4 : decode bM_isCovered 4 = .ok (.iload_n 3, 1) := by decide +kernel
theorem dM_isCovered_5 : decode bM_isCovered 5 = .ok (.aload_n 0, 1) := by decide +kernel
theorem dM_isCovered_6 : decode bM_isCovered 6 = .ok (.getfield 42, 3) := by decide +kernel
theorem dM_isCovered_9 : decode bM_isCovered 9 = .ok (.if_icmp .ge 49, 3) := by decide +kernel
theorem dM_isCovered_12 : decode bM_isCovered 12 = .ok (.iload_n 2, 1) := by decide +kernel
theorem dM_isCovered_13 : decode bM_isCovered 13 = .ok (.ifCond .eq 37, 3) := by decide +kernel
theorem dM_isCovered_16 : decode bM_isCovered 16 = .ok (.aload_n 0, 1) := by decide +kernel
theorem dM_isCovered_17 : decode bM_isCovered 17 = .ok (.getfield 13, 3) := by decide +kernel
theorem dM_isCovered_20 : decode bM_isCovered 20 = .ok (.iload_n 3, 1) := by decide +kernel
theorem dM_isCovered_21 : decode bM_isCovered 21 = .ok (.iaload, 1) := by decide +kernel
theorem dM_isCovered_22 : decode bM_isCovered 22 = .ok (.iload_n 1, 1) := by decide +kernel
theorem dM_isCovered_23 : decode bM_isCovered 23 = .ok (.if_icmp .ne 23, 3) := by decide +kernel
theorem dM_isCovered_26 : decode bM_isCovered 26 = .ok (.aload_n 0, 1) := by decide +kernel
theorem dM_isCovered_27 : decode bM_isCovered 27 = .ok (.getfield 16, 3) := by decide +kernel
theorem dM_isCovered_30 : decode bM_isCovered 30 = .ok (.iload_n 3, 1) := by decide +kernel
theorem dM_isCovered_31 : decode bM_isCovered 31 = .ok (.iaload, 1) := by decide +kernel
theorem dM_isCovered_32 : decode bM_isCovered 32 = .ok (.iconst 1, 1) := by decide +kernel
theorem dM_isCovered_33 : decode bM_isCovered 33 = .ok (.if_icmp .eq 13, 3) := by decide +kernel
theorem dM_isCovered_36 : decode bM_isCovered 36 = .ok (.aload_n 0, 1) := by decide +kernel
theorem dM_isCovered_37 : decode bM_isCovered 37 = .ok (.getfield 16, 3) := by decide +kernel
theorem dM_isCovered_40 : decode bM_isCovered 40 = .ok (.iload_n 3, 1) := by decide +kernel
theorem dM_isCovered_41 : decode bM_isCovered 41 = .ok (.iaload, 1) := by decide +kernel
theorem dM_isCovered_42 : decode bM_isCovered 42 = .ok (.iconst 2, 1) := by decide +kernel
theorem dM_isCovered_43 : decode bM_isCovered 43 = .ok (.if_icmp .ne 7, 3) := by decide +kernel
theorem dM_isCovered_46 : decode bM_isCovered 46 = .ok (.iconst 1, 1) := by decide +kernel
theorem dM_isCovered_47 : decode bM_isCovered 47 = .ok (.goto 4, 3) := by decide +kernel
theorem dM_isCovered_50 : decode bM_isCovered 50 = .ok (.iconst 0, 1) := by decide +kernel
theorem dM_isCovered_51 : decode bM_isCovered 51 = .ok (.istore_n 2, 1) := by decide +kernel
theorem dM_isCovered_52 : decode bM_isCovered 52 = .ok (.iinc 3 1, 3) := by decide +kernel
theorem dM_isCovered_55 : decode bM_isCovered 55 = .ok (.goto (-51), 3) := by decide +kernel
theorem dM_isCovered_58 : decode bM_isCovered 58 = .ok (.iload_n 2, 1) := by decide +kernel
theorem dM_isCovered_59 : decode bM_isCovered 59 = .ok (.ireturn, 1) := by decide +kernel
theorem dM_shownBy_0 : decode bM_shownBy 0 = .ok (.iconst 0, 1) := by decide +kernel
theorem dM_shownBy_1 : decode bM_shownBy 1 = .ok (.istore 4, 2) := by decide +kernel
theorem dM_shownBy_3 : decode bM_shownBy 3 = .ok (.iconst 0, 1) := by decide +kernel
theorem dM_shownBy_4 : decode bM_shownBy 4 = .ok (.istore 5, 2) := by decide +kernel
theorem dM_shownBy_6 : decode bM_shownBy 6 = .ok (.iload 5, 2) := by decide +kernel
theorem dM_shownBy_8 : decode bM_shownBy 8 = .ok (.aload_n 0, 1) := by decide +kernel
theorem dM_shownBy_9 : decode bM_shownBy 9 = .ok (.getfield 42, 3) := by decide +kernel
theorem dM_shownBy_12 : decode bM_shownBy 12 = .ok (.if_icmp .ge 71, 3) := by decide +kernel
theorem dM_shownBy_15 : decode bM_shownBy 15 = .ok (.aload_n 0, 1) := by decide +kernel
theorem dM_shownBy_16 : decode bM_shownBy 16 = .ok (.getfield 13, 3) := by decide +kernel
theorem dM_shownBy_19 : decode bM_shownBy 19 = .ok (.iload 5, 2) := by decide +kernel
theorem dM_shownBy_21 : decode bM_shownBy 21 = .ok (.iaload, 1) := by decide +kernel
theorem dM_shownBy_22 : decode bM_shownBy 22 = .ok (.iload_n 1, 1) := by decide +kernel
theorem dM_shownBy_23 : decode bM_shownBy 23 = .ok (.if_icmp .ne 54, 3) := by decide +kernel
theorem dM_shownBy_26 : decode bM_shownBy 26 = .ok (.aload_n 0, 1) := by decide +kernel
theorem dM_shownBy_27 : decode bM_shownBy 27 = .ok (.getfield 16, 3) := by decide +kernel
theorem dM_shownBy_30 : decode bM_shownBy 30 = .ok (.iload 5, 2) := by decide +kernel
theorem dM_shownBy_32 : decode bM_shownBy 32 = .ok (.iaload, 1) := by decide +kernel
theorem dM_shownBy_33 : decode bM_shownBy 33 = .ok (.iconst 1, 1) := by decide +kernel
theorem dM_shownBy_34 : decode bM_shownBy 34 = .ok (.if_icmp .ne 43, 3) := by decide +kernel
theorem dM_shownBy_37 : decode bM_shownBy 37 = .ok (.aload_n 0, 1) := by decide +kernel
theorem dM_shownBy_38 : decode bM_shownBy 38 = .ok (.getfield 19, 3) := by decide +kernel
theorem dM_shownBy_41 : decode bM_shownBy 41 = .ok (.iload 5, 2) := by decide +kernel
theorem dM_shownBy_43 : decode bM_shownBy 43 = .ok (.iaload, 1) := by decide +kernel
theorem dM_shownBy_44 : decode bM_shownBy 44 = .ok (.iload_n 2, 1) := by decide +kernel
theorem dM_shownBy_45 : decode bM_shownBy 45 = .ok (.invokestatic 49, 3) := by decide +kernel
theorem dM_shownBy_48 : decode bM_shownBy 48 = .ok (.ifCond .ne 29, 3) := by decide +kernel
theorem dM_shownBy_51 : decode bM_shownBy 51 = .ok (.aload_n 0, 1) := by decide +kernel
theorem dM_shownBy_52 : decode bM_shownBy 52 = .ok (.iload_n 3, 1) := by decide +kernel
theorem dM_shownBy_53 : decode bM_shownBy 53 = .ok (.invokestatic 89, 3) := by decide +kernel
theorem dM_shownBy_56 : decode bM_shownBy 56 = .ok (.iconst 1, 1) := by decide +kernel
theorem dM_shownBy_57 : decode bM_shownBy 57 = .ok (.isub, 1) := by decide +kernel
theorem dM_shownBy_58 : decode bM_shownBy 58 = .ok (.invokevirtual 114, 3) := by decide +kernel
theorem dM_shownBy_61 : decode bM_shownBy 61 = .ok (.ifCond .ne 6, 3) := by decide +kernel
theorem dM_shownBy_64 : decode bM_shownBy 64 = .ok (.goto 13, 3) := by decide +kernel
theorem dM_shownBy_67 : decode bM_shownBy 67 = .ok (.aload_n 0, 1) := by decide +kernel
theorem dM_shownBy_68 : decode bM_shownBy 68 = .ok (.iload 5, 2) := by decide +kernel
theorem dM_shownBy_70 : decode bM_shownBy 70 = .ok (.iload_n 3, 1) := by decide +kernel
theorem dM_shownBy_71 : decode bM_shownBy 71 = .ok (.invokevirtual 117, 3) := by decide +kernel
theorem dM_shownBy_74 : decode bM_shownBy 74 = .ok (.iinc 4 1, 3) := by decide +kernel
theorem dM_shownBy_77 : decode bM_shownBy 77 = .ok (.iinc 5 1, 3) := by decide +kernel
theorem dM_shownBy_80 : decode bM_shownBy 80 = .ok (.goto (-74), 3) := by decide +kernel
theorem dM_shownBy_83 : decode bM_shownBy 83 = .ok (.iload 4, 2) := by decide +kernel
theorem dM_shownBy_85 : decode bM_shownBy 85 = .ok (.ireturn, 1) := by decide +kernel
theorem dM_shortest_0 : decode bM_shortest 0 = .ok (.iconst 0, 1) := by decide +kernel
theorem dM_shortest_1 : decode bM_shortest 1 = .ok (.istore_n 3, 1) := by decide +kernel
theorem dM_shortest_2 : decode bM_shortest 2 = .ok (.iconst 0, 1) := by decide +kernel
theorem dM_shortest_3 : decode bM_shortest 3 = .ok (.istore 4, 2) := by decide +kernel
theorem dM_shortest_5 : decode bM_shortest 5 = .ok (.iload 4, 2) := by decide +kernel
theorem dM_shortest_7 : decode bM_shortest 7 = .ok (.aload_n 0, 1) := by decide +kernel
theorem dM_shortest_8 : decode bM_shortest 8 = .ok (.getfield 42, 3) := by decide +kernel
theorem dM_shortest_11 : decode bM_shortest 11 = .ok (.if_icmp .ge 82, 3) := by decide +kernel
theorem dM_shortest_14 : decode bM_shortest 14 = .ok (.aload_n 0, 1) := by decide +kernel
theorem dM_shortest_15 : decode bM_shortest 15 = .ok (.getfield 22, 3) := by decide +kernel
theorem dM_shortest_18 : decode bM_shortest 18 = .ok (.bipush 6, 2) := by decide +kernel
theorem dM_shortest_20 : decode bM_shortest 20 = .ok (.iload 4, 2) := by decide +kernel
theorem dM_shortest_22 : decode bM_shortest 22 = .ok (.imul, 1) := by decide +kernel
theorem dM_shortest_23 : decode bM_shortest 23 = .ok (.iload_n 2, 1) := by decide +kernel
theorem dM_shortest_24 : decode bM_shortest 24 = .ok (.iadd, 1) := by decide +kernel
theorem dM_shortest_25 : decode bM_shortest 25 = .ok (.iaload, 1) := by decide +kernel
theorem dM_shortest_26 : decode bM_shortest 26 = .ok (.istore 5, 2) := by decide +kernel
theorem dM_shortest_28 : decode bM_shortest 28 = .ok (.aload_n 0, 1) := by decide +kernel
theorem dM_shortest_29 : decode bM_shortest 29 = .ok (.getfield 7, 3) := by decide +kernel
theorem dM_shortest_32 : decode bM_shortest 32 = .ok (.iload 4, 2) := by decide +kernel
theorem dM_shortest_34 : decode bM_shortest 34 = .ok (.iaload, 1) := by decide +kernel
theorem dM_shortest_35 : decode bM_shortest 35 = .ok (.iload_n 1, 1) := by decide +kernel
theorem dM_shortest_36 : decode bM_shortest 36 = .ok (.if_icmp .ne 51, 3) := by decide +kernel
theorem dM_shortest_39 : decode bM_shortest 39 = .ok (.aload_n 0, 1) := by decide +kernel
theorem dM_shortest_40 : decode bM_shortest 40 = .ok (.getfield 19, 3) := by decide +kernel
theorem dM_shortest_43 : decode bM_shortest 43 = .ok (.iload 4, 2) := by decide +kernel
theorem dM_shortest_45 : decode bM_shortest 45 = .ok (.iaload, 1) := by decide +kernel
theorem dM_shortest_46 : decode bM_shortest 46 = .ok (.iload_n 2, 1) := by decide +kernel
theorem dM_shortest_47 : decode bM_shortest 47 = .ok (.invokestatic 49, 3) := by decide +kernel
theorem dM_shortest_50 : decode bM_shortest 50 = .ok (.ifCond .eq 37, 3) := by decide +kernel
theorem dM_shortest_53 : decode bM_shortest 53 = .ok (.iload 5, 2) := by decide +kernel
theorem dM_shortest_55 : decode bM_shortest 55 = .ok (.invokestatic 121, 3) := by decide +kernel
theorem dM_shortest_58 : decode bM_shortest 58 = .ok (.iload_n 1, 1) := by decide +kernel
theorem dM_shortest_59 : decode bM_shortest 59 = .ok (.invokestatic 49, 3) := by decide +kernel
theorem dM_shortest_62 : decode bM_shortest 62 = .ok (.ifCond .eq 6, 3) := by decide +kernel
theorem dM_shortest_65 : decode bM_shortest 65 = .ok (.goto 22, 3) := by decide +kernel
theorem dM_shortest_68 : decode bM_shortest 68 = .ok (.iload_n 3, 1) := by decide +kernel
theorem dM_shortest_69 : decode bM_shortest 69 = .ok (.ifCond .eq 15, 3) := by decide +kernel
theorem dM_shortest_72 : decode bM_shortest 72 = .ok (.iload 5, 2) := by decide +kernel
theorem dM_shortest_74 : decode bM_shortest 74 = .ok (.invokestatic 89, 3) := by decide +kernel
theorem dM_shortest_77 : decode bM_shortest 77 = .ok (.iload_n 3, 1) := by decide +kernel
theorem dM_shortest_78 : decode bM_shortest 78 = .ok (.invokestatic 89, 3) := by decide +kernel
theorem dM_shortest_81 : decode bM_shortest 81 = .ok (.if_icmp .ge 6, 3) := by decide +kernel
theorem dM_shortest_84 : decode bM_shortest 84 = .ok (.iload 5, 2) := by decide +kernel
theorem dM_shortest_86 : decode bM_shortest 86 = .ok (.istore_n 3, 1) := by decide +kernel
theorem dM_shortest_87 : decode bM_shortest 87 = .ok (.iinc 4 1, 3) := by decide +kernel
theorem dM_shortest_90 : decode bM_shortest 90 = .ok (.goto (-85), 3) := by decide +kernel
theorem dM_shortest_93 : decode bM_shortest 93 = .ok (.iload_n 3, 1) := by decide +kernel
theorem dM_shortest_94 : decode bM_shortest 94 = .ok (.ireturn, 1) := by decide +kernel
set_option maxRecDepth 20000 in
theorem gM_unlock_M_many : GoodIn wM_unlock (va_wsS RcM 89 yM_many wM_many) := goodIn_app (goodIn_of _ (by decide +kernel)) (goodIn_r _ [10] (by decide +kernel) (by decide +kernel))
set_option maxRecDepth 20000 in
theorem gM_unlock_M_member : GoodIn wM_unlock (va_wsS RcM 92 yM_member wM_member) := goodIn_app (goodIn_of _ (by decide +kernel)) (goodIn_r _ [11] (by decide +kernel) (by decide +kernel))
theorem inM_unlock_M : ∀ x ∈ u_ws RcM TcM 18, x ∈ wM_unlock := by decide +kernel
theorem inM_isCovered_M : ∀ x ∈ u_ws RcM TcM 18, x ∈ wM_isCovered := by decide +kernel
theorem inM_shownBy_M : ∀ x ∈ u_ws RcM TcM 18, x ∈ wM_shownBy := by decide +kernel
set_option maxRecDepth 20000 in
theorem gM_shownBy_M_has : GoodIn wM_shownBy (va_wsS RcM 49 yM_has wM_has) := goodIn_app (goodIn_of _ (by decide +kernel)) (goodIn_r _ [16] (by decide +kernel) (by decide +kernel))
set_option maxRecDepth 20000 in
theorem gM_shownBy_M_many : GoodIn wM_shownBy (va_wsS RcM 89 yM_many wM_many) := goodIn_app (goodIn_of _ (by decide +kernel)) (goodIn_r _ [17] (by decide +kernel) (by decide +kernel))
set_option maxRecDepth 20000 in
theorem gM_shownBy_M_isInTime : GoodIn wM_shownBy (wsV RcM 114 RcM yM_isInTime wM_isInTime) := goodIn_app (goodIn_of _ (by decide +kernel)) (goodIn_r _ [18, 19, 20, 21, 22, 29, 30, 31, 32, 33, 34, 35, 36, 37, 38, 39, 40, 41, 42, 43, 44, 45, 46] (by decide +kernel) (by decide +kernel))
set_option maxRecDepth 20000 in
theorem gM_shownBy_M_unlock : GoodIn wM_shownBy (wsV RcM 117 RcM yM_unlock wM_unlock) := goodIn_app (goodIn_of _ (by decide +kernel)) (goodIn_r _ [23, 8, 9, 7, 24, 25, 4, 26, 27, 3, 17, 28, 29, 30, 31, 32, 33, 34, 35, 36, 37, 38, 39, 40, 41, 42, 43, 44, 45, 46] (by decide +kernel) (by decide +kernel))
theorem inM_shortest_M : ∀ x ∈ u_ws RcM TcM 18, x ∈ wM_shortest := by decide +kernel
set_option maxRecDepth 20000 in
theorem gM_shortest_M_has : GoodIn wM_shortest (va_wsS RcM 49 yM_has wM_has) := goodIn_app (goodIn_of _ (by decide +kernel)) (goodIn_r _ [12] (by decide +kernel) (by decide +kernel))
set_option maxRecDepth 20000 in
theorem gM_shortest_M_members : GoodIn wM_shortest (va_wsS RcM 121 yM_members wM_members) := goodIn_app (goodIn_of _ (by decide +kernel)) (goodIn_r _ [13, 10, 11, 7, 14, 15, 16, 17] (by decide +kernel) (by decide +kernel))
set_option maxRecDepth 20000 in
theorem gM_shortest_M_many : GoodIn wM_shortest (va_wsS RcM 89 yM_many wM_many) := goodIn_app (goodIn_of _ (by decide +kernel)) (goodIn_r _ [16] (by decide +kernel) (by decide +kernel))

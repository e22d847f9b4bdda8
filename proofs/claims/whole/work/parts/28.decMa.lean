theorem dM_thrown_0 : decode bM_thrown 0 = .ok (.aload_n 0, 1) := by decide +kernel
theorem dM_thrown_1 : decode bM_thrown 1 = .ok (.getfield 39, 3) := by decide +kernel
theorem dM_thrown_4 : decode bM_thrown 4 = .ok (.ireturn, 1) := by decide +kernel
theorem dM_fail_0 : decode bM_fail 0 = .ok (.aload_n 0, 1) := by decide +kernel
theorem dM_fail_1 : decode bM_fail 1 = .ok (.iload_n 1, 1) := by decide +kernel
theorem dM_fail_2 : decode bM_fail 2 = .ok (.putfield 39, 3) := by decide +kernel
theorem dM_fail_5 : decode bM_fail 5 = .ok (.iconst 0, 1) := by decide +kernel
theorem dM_fail_6 : decode bM_fail 6 = .ok (.ireturn, 1) := by decide +kernel
theorem dM_isParty_0 : decode bM_isParty 0 = .ok (.iload_n 1, 1) := by decide +kernel
theorem dM_isParty_1 : decode bM_isParty 1 = .ok (.ifCond .lt 15, 3) := by decide +kernel
theorem dM_isParty_4 : decode bM_isParty 4 = .ok (.iload_n 1, 1) := by decide +kernel
theorem dM_isParty_5 : decode bM_isParty 5 = .ok (.aload_n 0, 1) := by decide +kernel
theorem dM_isParty_6 : decode bM_isParty 6 = .ok (.getfield 32, 3) := by decide +kernel
theorem dM_isParty_9 : decode bM_isParty 9 = .ok (.if_icmp .ge 7, 3) := by decide +kernel
theorem dM_isParty_12 : decode bM_isParty 12 = .ok (.iconst 1, 1) := by decide +kernel
theorem dM_isParty_13 : decode bM_isParty 13 = .ok (.goto 4, 3) := by decide +kernel
theorem dM_isParty_16 : decode bM_isParty 16 = .ok (.iconst 0, 1) := by decide +kernel
theorem dM_isParty_17 : decode bM_isParty 17 = .ok (.ireturn, 1) := by decide +kernel
theorem dM_isArc_0 : decode bM_isArc 0 = .ok (.iload_n 1, 1) := by decide +kernel
theorem dM_isArc_1 : decode bM_isArc 1 = .ok (.ifCond .lt 15, 3) := by decide +kernel
theorem dM_isArc_4 : decode bM_isArc 4 = .ok (.iload_n 1, 1) := by decide +kernel
theorem dM_isArc_5 : decode bM_isArc 5 = .ok (.aload_n 0, 1) := by decide +kernel
theorem dM_isArc_6 : decode bM_isArc 6 = .ok (.getfield 42, 3) := by decide +kernel
theorem dM_isArc_9 : decode bM_isArc 9 = .ok (.if_icmp .ge 7, 3) := by decide +kernel
theorem dM_isArc_12 : decode bM_isArc 12 = .ok (.iconst 1, 1) := by decide +kernel
theorem dM_isArc_13 : decode bM_isArc 13 = .ok (.goto 4, 3) := by decide +kernel
theorem dM_isArc_16 : decode bM_isArc 16 = .ok (.iconst 0, 1) := by decide +kernel
theorem dM_isArc_17 : decode bM_isArc 17 = .ok (.ireturn, 1) := by decide +kernel
theorem dM_has_0 : decode bM_has 0 = .ok (.iload_n 0, 1) := by decide +kernel
theorem dM_has_1 : decode bM_has 1 = .ok (.iload_n 1, 1) := by decide +kernel
theorem dM_has_2 : decode bM_has 2 = .ok (.ishr, 1) := by decide +kernel
theorem dM_has_3 : decode bM_has 3 = .ok (.iconst 1, 1) := by decide +kernel
theorem dM_has_4 : decode bM_has 4 = .ok (.iand, 1) := by decide +kernel
theorem dM_has_5 : decode bM_has 5 = .ok (.iconst 1, 1) := by decide +kernel
theorem dM_has_6 : decode bM_has 6 = .ok (.if_icmp .ne 7, 3) := by decide +kernel
theorem dM_has_9 : decode bM_has 9 = .ok (.iconst 1, 1) := by decide +kernel
theorem dM_has_10 : decode bM_has 10 = .ok (.goto 4, 3) := by decide +kernel
theorem dM_has_13 : decode bM_has 13 = .ok (.iconst 0, 1) := by decide +kernel
theorem dM_has_14 : decode bM_has 14 = .ok (.ireturn, 1) := by decide +kernel
theorem dM_size_0 : decode bM_size 0 = .ok (.iconst 0, 1) := by decide +kernel
theorem dM_size_1 : decode bM_size 1 = .ok (.istore_n 1, 1) := by decide +kernel
theorem dM_size_2 : decode bM_size 2 = .ok (.iconst 0, 1) := by decide +kernel
theorem dM_size_3 : decode bM_size 3 = .ok (.istore_n 2, 1) := by decide +kernel
theorem dM_size_4 : decode bM_size 4 = .ok (.iload_n 2, 1) := by decide +kernel
theorem dM_size_5 : decode bM_size 5 = .ok (.bipush 6, 2) := by decide +kernel
theorem dM_size_7 : decode bM_size 7 = .ok (.if_icmp .ge 17, 3) := by decide +kernel
theorem dM_size_10 : decode bM_size 10 = .ok (.iload_n 1, 1) := by decide +kernel
theorem dM_size_11 : decode bM_size 11 = .ok (.iload_n 0, 1) := by decide +kernel
theorem dM_size_12 : decode bM_size 12 = .ok (.iload_n 2, 1) := by decide +kernel
theorem dM_size_13 : decode bM_size 13 = .ok (.ishr, 1) := by decide +kernel
theorem dM_size_14 : decode bM_size 14 = .ok (.iconst 1, 1) := by decide +kernel
theorem dM_size_15 : decode bM_size 15 = .ok (.iand, 1) := by decide +kernel
theorem dM_size_16 : decode bM_size 16 = .ok (.iadd, 1) := by decide +kernel
theorem dM_size_17 : decode bM_size 17 = .ok (.istore_n 1, 1) := by decide +kernel
theorem dM_size_18 : decode bM_size 18 = .ok (.iinc 2 1, 3) := by decide +kernel
theorem dM_size_21 : decode bM_size 21 = .ok (.goto (-17), 3) := by decide +kernel
theorem dM_size_24 : decode bM_size 24 = .ok (.iload_n 1, 1) := by decide +kernel
theorem dM_size_25 : decode bM_size 25 = .ok (.ireturn, 1) := by decide +kernel
theorem dM_many_0 : decode bM_many 0 = .ok (.iload_n 0, 1) := by decide +kernel
theorem dM_many_1 : decode bM_many 1 = .ok (.bipush 18, 2) := by decide +kernel
theorem dM_many_3 : decode bM_many 3 = .ok (.ishr, 1) := by decide +kernel
theorem dM_many_4 : decode bM_many 4 = .ok (.ireturn, 1) := by decide +kernel
theorem dM_member_0 : decode bM_member 0 = .ok (.iload_n 0, 1) := by decide +kernel
theorem dM_member_1 : decode bM_member 1 = .ok (.iconst 3, 1) := by decide +kernel
theorem dM_member_2 : decode bM_member 2 = .ok (.iload_n 1, 1) := by decide +kernel
theorem dM_member_3 : decode bM_member 3 = .ok (.imul, 1) := by decide +kernel
theorem dM_member_4 : decode bM_member 4 = .ok (.ishr, 1) := by decide +kernel
theorem dM_member_5 : decode bM_member 5 = .ok (.bipush 7, 2) := by decide +kernel
theorem dM_member_7 : decode bM_member 7 = .ok (.iand, 1) := by decide +kernel
theorem dM_member_8 : decode bM_member 8 = .ok (.ireturn, 1) := by decide +kernel
theorem dM_members_0 : decode bM_members 0 = .ok (.iconst 0, 1) := by decide +kernel
theorem dM_members_1 : decode bM_members 1 = .ok (.istore_n 1, 1) := by decide +kernel
theorem dM_members_2 : decode bM_members 2 = .ok (.iconst 0, 1) := by decide +kernel
theorem dM_members_3 : decode bM_members 3 = .ok (.istore_n 2, 1) := by decide +kernel
theorem dM_members_4 : decode bM_members 4 = .ok (.iload_n 2, 1) := by decide +kernel
theorem dM_members_5 : decode bM_members 5 = .ok (.iload_n 0, 1) := by decide +kernel
theorem dM_members_6 : decode bM_members 6 = .ok (.invokestatic 89, 3) := by decide +kernel
theorem dM_members_9 : decode bM_members 9 = .ok (.if_icmp .ge 19, 3) := by decide +kernel
theorem dM_members_12 : decode bM_members 12 = .ok (.iload_n 1, 1) := by decide +kernel
theorem dM_members_13 : decode bM_members 13 = .ok (.iconst 1, 1) := by decide +kernel
theorem dM_members_14 : decode bM_members 14 = .ok (.iload_n 0, 1) := by decide +kernel
theorem dM_members_15 : decode bM_members 15 = .ok (.iload_n 2, 1) := by decide +kernel
theorem dM_members_16 : decode bM_members 16 = .ok (.invokestatic 92, 3) := by decide +kernel
theorem dM_members_19 : decode bM_members 19 = .ok (.ishl, 1) := by decide +kernel
theorem dM_members_20 : decode bM_members 20 = .ok (.ior, 1) := by decide +kernel
theorem dM_members_21 : decode bM_members 21 = .ok (.istore_n 1, 1) := by decide +kernel
theorem dM_members_22 : decode bM_members 22 = .ok (.iinc 2 1, 3) := by decide +kernel
theorem dM_members_25 : decode bM_members 25 = .ok (.goto (-21), 3) := by decide +kernel
theorem dM_members_28 : decode bM_members 28 = .ok (.iload_n 1, 1) := by decide +kernel
theorem dM_members_29 : decode bM_members 29 = .ok (.ireturn, 1) := by decide +kernel
theorem dM_before_0 : decode bM_before 0 = .ok (.iload_n 1, 1) := by decide +kernel
theorem dM_before_1 : decode bM_before 1 = .ok (.ldc 96, 2) := by decide +kernel
theorem dM_before_3 : decode bM_before 3 = .ok (.iand, 1) := by decide +kernel
theorem dM_before_4 : decode bM_before 4 = .ok (.iconst 3, 1) := by decide +kernel
theorem dM_before_5 : decode bM_before 5 = .ok (.ishl, 1) := by decide +kernel
theorem dM_before_6 : decode bM_before 6 = .ok (.ldc 96, 2) := by decide +kernel
theorem dM_before_8 : decode bM_before 8 = .ok (.iand, 1) := by decide +kernel
theorem dM_before_9 : decode bM_before 9 = .ok (.iload_n 0, 1) := by decide +kernel
theorem dM_before_10 : decode bM_before 10 = .ok (.ior, 1) := by decide +kernel
theorem dM_before_11 : decode bM_before 11 = .ok (.iload_n 1, 1) := by decide +kernel
theorem dM_before_12 : decode bM_before 12 = .ok (.invokestatic 89, 3) := by decide +kernel
theorem dM_before_15 : decode bM_before 15 = .ok (.iconst 1, 1) := by decide +kernel
theorem dM_before_16 : decode bM_before 16 = .ok (.iadd, 1) := by decide +kernel
theorem dM_before_17 : decode bM_before 17 = .ok (.bipush 18, 2) := by decide +kernel
theorem dM_before_19 : decode bM_before 19 = .ok (.ishl, 1) := by decide +kernel
theorem dM_before_20 : decode bM_before 20 = .ok (.ior, 1) := by decide +kernel
theorem dM_before_21 : decode bM_before 21 = .ok (.ireturn, 1) := by decide +kernel
theorem dM_behind_0 : decode bM_behind 0 = .ok (.iload_n 0, 1) := by decide +kernel
theorem dM_behind_1 : decode bM_behind 1 = .ok (.ldc 96, 2) := by decide +kernel
theorem dM_behind_3 : decode bM_behind 3 = .ok (.iand, 1) := by decide +kernel
theorem dM_behind_4 : decode bM_behind 4 = .ok (.iconst 3, 1) := by decide +kernel
theorem dM_behind_5 : decode bM_behind 5 = .ok (.ishr, 1) := by decide +kernel
theorem dM_behind_6 : decode bM_behind 6 = .ok (.iload_n 0, 1) := by decide +kernel
theorem dM_behind_7 : decode bM_behind 7 = .ok (.invokestatic 89, 3) := by decide +kernel
theorem dM_behind_10 : decode bM_behind 10 = .ok (.iconst 1, 1) := by decide +kernel
theorem dM_behind_11 : decode bM_behind 11 = .ok (.isub, 1) := by decide +kernel
theorem dM_behind_12 : decode bM_behind 12 = .ok (.bipush 18, 2) := by decide +kernel
theorem dM_behind_14 : decode bM_behind 14 = .ok (.ishl, 1) := by decide +kernel
theorem dM_behind_15 : decode bM_behind 15 = .ok (.ior, 1) := by decide +kernel
theorem dM_behind_16 : decode bM_behind 16 = .ok (.ireturn, 1) := by decide +kernel
theorem dM_isInTime_0 : decode bM_isInTime 0 = .ok (.aload_n 0, 1) := by decide +kernel
theorem dM_isInTime_1 : decode bM_isInTime 1 = .ok (.getfield 70, 3) := by decide +kernel
theorem dM_isInTime_4 : decode bM_isInTime 4 = .ok (.aload_n 0, 1) := by decide +kernel
theorem dM_isInTime_5 : decode bM_isInTime 5 = .ok (.getfield 73, 3) := by decide +kernel
theorem dM_isInTime_8 : decode bM_isInTime 8 = .ok (.aload_n 0, 1) := by decide +kernel
theorem dM_isInTime_9 : decode bM_isInTime 9 = .ok (.getfield 80, 3) := by decide +kernel
theorem dM_isInTime_12 : decode bM_isInTime 12 = .ok (.iload_n 1, 1) := by decide +kernel
theorem dM_isInTime_13 : decode bM_isInTime 13 = .ok (.iadd, 1) := by decide +kernel
theorem dM_isInTime_14 : decode bM_isInTime 14 = .ok (.aload_n 0, 1) := by decide +kernel
theorem dM_isInTime_15 : decode bM_isInTime 15 = .ok (.getfield 36, 3) := by decide +kernel
theorem dM_isInTime_18 : decode bM_isInTime 18 = .ok (.imul, 1) := by decide +kernel
theorem dM_isInTime_19 : decode bM_isInTime 19 = .ok (.iadd, 1) := by decide +kernel
theorem dM_isInTime_20 : decode bM_isInTime 20 = .ok (.if_icmp .ge 7, 3) := by decide +kernel
theorem dM_isInTime_23 : decode bM_isInTime 23 = .ok (.iconst 1, 1) := by decide +kernel
theorem dM_isInTime_24 : decode bM_isInTime 24 = .ok (.goto 4, 3) := by decide +kernel
theorem dM_isInTime_27 : decode bM_isInTime 27 = .ok (.iconst 0, 1) := by decide +kernel
theorem dM_isInTime_28 : decode bM_isInTime 28 = .ok (.ireturn, 1) := by decide +kernel
theorem dM_isLate_0 : decode bM_isLate 0 = .ok (.aload_n 0, 1) := by decide +kernel
theorem dM_isLate_1 : decode bM_isLate 1 = .ok (.getfield 70, 3) := by decide +kernel
theorem dM_isLate_4 : decode bM_isLate 4 = .ok (.aload_n 0, 1) := by decide +kernel
theorem dM_isLate_5 : decode bM_isLate 5 = .ok (.getfield 73, 3) := by decide +kernel
theorem dM_isLate_8 : decode bM_isLate 8 = .ok (.iconst 2, 1) := by decide +kernel
theorem dM_isLate_9 : decode bM_isLate 9 = .ok (.aload_n 0, 1) := by decide +kernel
theorem dM_isLate_10 : decode bM_isLate 10 = .ok (.getfield 80, 3) := by decide +kernel
theorem dM_isLate_13 : decode bM_isLate 13 = .ok (.imul, 1) := by decide +kernel
theorem dM_isLate_14 : decode bM_isLate 14 = .ok (.aload_n 0, 1) := by decide +kernel
theorem dM_isLate_15 : decode bM_isLate 15 = .ok (.getfield 36, 3) := by decide +kernel
theorem dM_isLate_18 : decode bM_isLate 18 = .ok (.imul, 1) := by decide +kernel
theorem dM_isLate_19 : decode bM_isLate 19 = .ok (.iadd, 1) := by decide +kernel
theorem dM_isLate_20 : decode bM_isLate 20 = .ok (.if_icmp .lt 7, 3) := by decide +kernel
theorem dM_isLate_23 : decode bM_isLate 23 = .ok (.iconst 1, 1) := by decide +kernel
theorem dM_isLate_24 : decode bM_isLate 24 = .ok (.goto 4, 3) := by decide +kernel
theorem dM_isLate_27 : decode bM_isLate 27 = .ok (.iconst 0, 1) := by decide +kernel
theorem dM_isLate_28 : decode bM_isLate 28 = .ok (.ireturn, 1) := by decide +kernel
theorem inM_thrown_M : ∀ x ∈ u_ws RcM TcM 18, x ∈ wM_thrown := by decide +kernel
theorem inM_fail_M : ∀ x ∈ u_ws RcM TcM 18, x ∈ wM_fail := by decide +kernel
theorem inM_isParty_M : ∀ x ∈ u_ws RcM TcM 18, x ∈ wM_isParty := by decide +kernel
theorem inM_isArc_M : ∀ x ∈ u_ws RcM TcM 18, x ∈ wM_isArc := by decide +kernel
set_option maxRecDepth 20000 in
theorem gM_members_M_many : GoodIn wM_members (va_wsS RcM 89 yM_many wM_many) := goodIn_app (goodIn_of _ (by decide +kernel)) (goodIn_r _ [6] (by decide +kernel) (by decide +kernel))
set_option maxRecDepth 20000 in
theorem gM_members_M_member : GoodIn wM_members (va_wsS RcM 92 yM_member wM_member) := goodIn_app (goodIn_of _ (by decide +kernel)) (goodIn_r _ [7] (by decide +kernel) (by decide +kernel))
set_option maxRecDepth 20000 in
theorem gM_before_M_many : GoodIn wM_before (va_wsS RcM 89 yM_many wM_many) := goodIn_app (goodIn_of _ (by decide +kernel)) (goodIn_r _ [5] (by decide +kernel) (by decide +kernel))
set_option maxRecDepth 20000 in
theorem gM_behind_M_many : GoodIn wM_behind (va_wsS RcM 89 yM_many wM_many) := goodIn_app (goodIn_of _ (by decide +kernel)) (goodIn_r _ [5] (by decide +kernel) (by decide +kernel))
theorem inM_isInTime_M : ∀ x ∈ u_ws RcM TcM 18, x ∈ wM_isInTime := by decide +kernel
theorem inM_isLate_M : ∀ x ∈ u_ws RcM TcM 18, x ∈ wM_isLate := by decide +kernel

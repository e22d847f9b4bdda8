theorem dX_isParty_0 : decode bX_isParty 0 = .ok (.iload_n 1, 1) := by decide +kernel
theorem dX_isParty_1 : decode bX_isParty 1 = .ok (.ifCond .lt 15, 3) := by decide +kernel
theorem dX_isParty_4 : decode bX_isParty 4 = .ok (.iload_n 1, 1) := by decide +kernel
theorem dX_isParty_5 : decode bX_isParty 5 = .ok (.aload_n 0, 1) := by decide +kernel
theorem dX_isParty_6 : decode bX_isParty 6 = .ok (.getfield 37, 3) := by decide +kernel
theorem dX_isParty_9 : decode bX_isParty 9 = .ok (.if_icmp .ge 7, 3) := by decide +kernel
theorem dX_isParty_12 : decode bX_isParty 12 = .ok (.iconst 1, 1) := by decide +kernel
theorem dX_isParty_13 : decode bX_isParty 13 = .ok (.goto 4, 3) := by decide +kernel
theorem dX_isParty_16 : decode bX_isParty 16 = .ok (.iconst 0, 1) := by decide +kernel
theorem dX_isParty_17 : decode bX_isParty 17 = .ok (.ireturn, 1) := by decide +kernel
theorem dX_isArc_0 : decode bX_isArc 0 = .ok (.iload_n 1, 1) := by decide +kernel
theorem dX_isArc_1 : decode bX_isArc 1 = .ok (.ifCond .lt 15, 3) := by decide +kernel
theorem dX_isArc_4 : decode bX_isArc 4 = .ok (.iload_n 1, 1) := by decide +kernel
theorem dX_isArc_5 : decode bX_isArc 5 = .ok (.aload_n 0, 1) := by decide +kernel
theorem dX_isArc_6 : decode bX_isArc 6 = .ok (.getfield 71, 3) := by decide +kernel
theorem dX_isArc_9 : decode bX_isArc 9 = .ok (.if_icmp .ge 7, 3) := by decide +kernel
theorem dX_isArc_12 : decode bX_isArc 12 = .ok (.iconst 1, 1) := by decide +kernel
theorem dX_isArc_13 : decode bX_isArc 13 = .ok (.goto 4, 3) := by decide +kernel
theorem dX_isArc_16 : decode bX_isArc 16 = .ok (.iconst 0, 1) := by decide +kernel
theorem dX_isArc_17 : decode bX_isArc 17 = .ok (.ireturn, 1) := by decide +kernel
theorem dX_isLeader_0 : decode bX_isLeader 0 = .ok (.aload_n 0, 1) := by decide +kernel
theorem dX_isLeader_1 : decode bX_isLeader 1 = .ok (.iload_n 1, 1) := by decide +kernel
theorem dX_isLeader_2 : decode bX_isLeader 2 = .ok (.invokevirtual 52, 3) := by decide +kernel
theorem dX_isLeader_5 : decode bX_isLeader 5 = .ok (.ifCond .eq 19, 3) := by decide +kernel
theorem dX_isLeader_8 : decode bX_isLeader 8 = .ok (.aload_n 0, 1) := by decide +kernel
theorem dX_isLeader_9 : decode bX_isLeader 9 = .ok (.getfield 110, 3) := by decide +kernel
theorem dX_isLeader_12 : decode bX_isLeader 12 = .ok (.iload_n 1, 1) := by decide +kernel
theorem dX_isLeader_13 : decode bX_isLeader 13 = .ok (.ishr, 1) := by decide +kernel
theorem dX_isLeader_14 : decode bX_isLeader 14 = .ok (.iconst 1, 1) := by decide +kernel
theorem dX_isLeader_15 : decode bX_isLeader 15 = .ok (.iand, 1) := by decide +kernel
theorem dX_isLeader_16 : decode bX_isLeader 16 = .ok (.iconst 1, 1) := by decide +kernel
theorem dX_isLeader_17 : decode bX_isLeader 17 = .ok (.if_icmp .ne 7, 3) := by decide +kernel
theorem dX_isLeader_20 : decode bX_isLeader 20 = .ok (.iconst 1, 1) := by decide +kernel
theorem dX_isLeader_21 : decode bX_isLeader 21 = .ok (.goto 4, 3) := by decide +kernel
theorem dX_isLeader_24 : decode bX_isLeader 24 = .ok (.iconst 0, 1) := by decide +kernel
theorem dX_isLeader_25 : decode bX_isLeader 25 = .ok (.ireturn, 1) := by decide +kernel
theorem dX_conforms_0 : decode bX_conforms 0 = .ok (.aload_n 0, 1) := by decide +kernel
theorem dX_conforms_1 : decode bX_conforms 1 = .ok (.getfield 116, 3) := by decide +kernel
theorem dX_conforms_4 : decode bX_conforms 4 = .ok (.iload_n 1, 1) := by decide +kernel
theorem dX_conforms_5 : decode bX_conforms 5 = .ok (.ishr, 1) := by decide +kernel
theorem dX_conforms_6 : decode bX_conforms 6 = .ok (.iconst 1, 1) := by decide +kernel
theorem dX_conforms_7 : decode bX_conforms 7 = .ok (.iand, 1) := by decide +kernel
theorem dX_conforms_8 : decode bX_conforms 8 = .ok (.ifCond .ne 7, 3) := by decide +kernel
theorem dX_conforms_11 : decode bX_conforms 11 = .ok (.iconst 1, 1) := by decide +kernel
theorem dX_conforms_12 : decode bX_conforms 12 = .ok (.goto 4, 3) := by decide +kernel
theorem dX_conforms_15 : decode bX_conforms 15 = .ok (.iconst 0, 1) := by decide +kernel
theorem dX_conforms_16 : decode bX_conforms 16 = .ok (.ireturn, 1) := by decide +kernel
theorem dX_isOver_0 : decode bX_isOver 0 = .ok (.aload_n 0, 1) := by decide +kernel
theorem dX_isOver_1 : decode bX_isOver 1 = .ok (.getfield 94, 3) := by decide +kernel
theorem dX_isOver_4 : decode bX_isOver 4 = .ok (.aload_n 0, 1) := by decide +kernel
theorem dX_isOver_5 : decode bX_isOver 5 = .ok (.getfield 97, 3) := by decide +kernel
theorem dX_isOver_8 : decode bX_isOver 8 = .ok (.iconst 2, 1) := by decide +kernel
theorem dX_isOver_9 : decode bX_isOver 9 = .ok (.aload_n 0, 1) := by decide +kernel
theorem dX_isOver_10 : decode bX_isOver 10 = .ok (.getfield 104, 3) := by decide +kernel
theorem dX_isOver_13 : decode bX_isOver 13 = .ok (.imul, 1) := by decide +kernel
theorem dX_isOver_14 : decode bX_isOver 14 = .ok (.aload_n 0, 1) := by decide +kernel
theorem dX_isOver_15 : decode bX_isOver 15 = .ok (.getfield 40, 3) := by decide +kernel
theorem dX_isOver_18 : decode bX_isOver 18 = .ok (.imul, 1) := by decide +kernel
theorem dX_isOver_19 : decode bX_isOver 19 = .ok (.iadd, 1) := by decide +kernel
theorem dX_isOver_20 : decode bX_isOver 20 = .ok (.if_icmp .lt 7, 3) := by decide +kernel
theorem dX_isOver_23 : decode bX_isOver 23 = .ok (.iconst 1, 1) := by decide +kernel
theorem dX_isOver_24 : decode bX_isOver 24 = .ok (.goto 4, 3) := by decide +kernel
theorem dX_isOver_27 : decode bX_isOver 27 = .ok (.iconst 0, 1) := by decide +kernel
theorem dX_isOver_28 : decode bX_isOver 28 = .ok (.ireturn, 1) := by decide +kernel
theorem dX_isInTime_0 : decode bX_isInTime 0 = .ok (.iload_n 1, 1) := by decide +kernel
theorem dX_isInTime_1 : decode bX_isInTime 1 = .ok (.invokestatic 141, 3) := by decide +kernel
theorem dX_isInTime_4 : decode bX_isInTime 4 = .ok (.iconst 1, 1) := by decide +kernel
theorem dX_isInTime_5 : decode bX_isInTime 5 = .ok (.isub, 1) := by decide +kernel
theorem dX_isInTime_6 : decode bX_isInTime 6 = .ok (.istore_n 2, 1) := by decide +kernel
theorem dX_isInTime_7 : decode bX_isInTime 7 = .ok (.aload_n 0, 1) := by decide +kernel
theorem dX_isInTime_8 : decode bX_isInTime 8 = .ok (.getfield 94, 3) := by decide +kernel
theorem dX_isInTime_11 : decode bX_isInTime 11 = .ok (.aload_n 0, 1) := by decide +kernel
theorem dX_isInTime_12 : decode bX_isInTime 12 = .ok (.getfield 97, 3) := by decide +kernel
theorem dX_isInTime_15 : decode bX_isInTime 15 = .ok (.aload_n 0, 1) := by decide +kernel
theorem dX_isInTime_16 : decode bX_isInTime 16 = .ok (.getfield 104, 3) := by decide +kernel
theorem dX_isInTime_19 : decode bX_isInTime 19 = .ok (.iload_n 2, 1) := by decide +kernel
theorem dX_isInTime_20 : decode bX_isInTime 20 = .ok (.iadd, 1) := by decide +kernel
theorem dX_isInTime_21 : decode bX_isInTime 21 = .ok (.aload_n 0, 1) := by decide +kernel
theorem dX_isInTime_22 : decode bX_isInTime 22 = .ok (.getfield 40, 3) := by decide +kernel
theorem dX_isInTime_25 : decode bX_isInTime 25 = .ok (.imul, 1) := by decide +kernel
theorem dX_isInTime_26 : decode bX_isInTime 26 = .ok (.iadd, 1) := by decide +kernel
theorem dX_isInTime_27 : decode bX_isInTime 27 = .ok (.if_icmp .ge 7, 3) := by decide +kernel
theorem dX_isInTime_30 : decode bX_isInTime 30 = .ok (.iconst 1, 1) := by decide +kernel
theorem dX_isInTime_31 : decode bX_isInTime 31 = .ok (.goto 4, 3) := by decide +kernel
theorem dX_isInTime_34 : decode bX_isInTime 34 = .ok (.iconst 0, 1) := by decide +kernel
theorem dX_isInTime_35 : decode bX_isInTime 35 = .ok (.ireturn, 1) := by decide +kernel
theorem dX_hashkey_0 : decode bX_hashkey 0 = .ok (.aload_n 0, 1) := by decide +kernel
theorem dX_hashkey_1 : decode bX_hashkey 1 = .ok (.iload_n 1, 1) := by decide +kernel
theorem dX_hashkey_2 : decode bX_hashkey 2 = .ok (.invokevirtual 131, 3) := by decide +kernel
theorem dX_hashkey_5 : decode bX_hashkey 5 = .ok (.ifCond .eq 25, 3) := by decide +kernel
theorem dX_hashkey_8 : decode bX_hashkey 8 = .ok (.aload_n 0, 1) := by decide +kernel
theorem dX_hashkey_9 : decode bX_hashkey 9 = .ok (.iload_n 2, 1) := by decide +kernel
theorem dX_hashkey_10 : decode bX_hashkey 10 = .ok (.invokevirtual 52, 3) := by decide +kernel
theorem dX_hashkey_13 : decode bX_hashkey 13 = .ok (.ifCond .eq 17, 3) := by decide +kernel
theorem dX_hashkey_16 : decode bX_hashkey 16 = .ok (.aload_n 0, 1) := by decide +kernel
theorem dX_hashkey_17 : decode bX_hashkey 17 = .ok (.getfield 22, 3) := by decide +kernel
theorem dX_hashkey_20 : decode bX_hashkey 20 = .ok (.iload_n 1, 1) := by decide +kernel
theorem dX_hashkey_21 : decode bX_hashkey 21 = .ok (.bipush 6, 2) := by decide +kernel
theorem dX_hashkey_23 : decode bX_hashkey 23 = .ok (.imul, 1) := by decide +kernel
theorem dX_hashkey_24 : decode bX_hashkey 24 = .ok (.iload_n 2, 1) := by decide +kernel
theorem dX_hashkey_25 : decode bX_hashkey 25 = .ok (.iadd, 1) := by decide +kernel
theorem dX_hashkey_26 : decode bX_hashkey 26 = .ok (.iaload, 1) := by decide +kernel
theorem dX_hashkey_27 : decode bX_hashkey 27 = .ok (.goto 4, 3) := by decide +kernel
theorem dX_hashkey_30 : decode bX_hashkey 30 = .ok (.iconst 0, 1) := by decide +kernel
theorem dX_hashkey_31 : decode bX_hashkey 31 = .ok (.ireturn, 1) := by decide +kernel
theorem dX_isUnlocked_0 : decode bX_isUnlocked 0 = .ok (.aload_n 0, 1) := by decide +kernel
theorem dX_isUnlocked_1 : decode bX_isUnlocked 1 = .ok (.getfield 19, 3) := by decide +kernel
theorem dX_isUnlocked_4 : decode bX_isUnlocked 4 = .ok (.iload_n 1, 1) := by decide +kernel
theorem dX_isUnlocked_5 : decode bX_isUnlocked 5 = .ok (.iaload, 1) := by decide +kernel
theorem dX_isUnlocked_6 : decode bX_isUnlocked 6 = .ok (.iload_n 2, 1) := by decide +kernel
theorem dX_isUnlocked_7 : decode bX_isUnlocked 7 = .ok (.ishr, 1) := by decide +kernel
theorem dX_isUnlocked_8 : decode bX_isUnlocked 8 = .ok (.iconst 1, 1) := by decide +kernel
theorem dX_isUnlocked_9 : decode bX_isUnlocked 9 = .ok (.iand, 1) := by decide +kernel
theorem dX_isUnlocked_10 : decode bX_isUnlocked 10 = .ok (.iconst 1, 1) := by decide +kernel
theorem dX_isUnlocked_11 : decode bX_isUnlocked 11 = .ok (.if_icmp .ne 7, 3) := by decide +kernel
theorem dX_isUnlocked_14 : decode bX_isUnlocked 14 = .ok (.iconst 1, 1) := by decide +kernel
theorem dX_isUnlocked_15 : decode bX_isUnlocked 15 = .ok (.goto 4, 3) := by decide +kernel
theorem dX_isUnlocked_18 : decode bX_isUnlocked 18 = .ok (.iconst 0, 1) := by decide +kernel
theorem dX_isUnlocked_19 : decode bX_isUnlocked 19 = .ok (.ireturn, 1) := by decide +kernel
theorem dX_unlock_0 : decode bX_unlock 0 = .ok (.aload_n 0, 1) := by decide +kernel
theorem dX_unlock_1 : decode bX_unlock 1 = .ok (.getfield 22, 3) := by decide +kernel
theorem dX_unlock_4 : decode bX_unlock 4 = .ok (.iload_n 1, 1) := by decide +kernel
theorem dX_unlock_5 : decode bX_unlock 5 = .ok (.bipush 6, 2) := by decide +kernel
theorem dX_unlock_7 : decode bX_unlock 7 = .ok (.imul, 1) := by decide +kernel
theorem dX_unlock_8 : decode bX_unlock 8 = .ok (.iload_n 2, 1) := by decide +kernel
theorem dX_unlock_9 : decode bX_unlock 9 = .ok (.iadd, 1) := by decide +kernel
theorem dX_unlock_10 : decode bX_unlock 10 = .ok (.iload_n 3, 1) := by decide +kernel
theorem dX_unlock_11 : decode bX_unlock 11 = .ok (.iastore, 1) := by decide +kernel
theorem dX_unlock_12 : decode bX_unlock 12 = .ok (.aload_n 0, 1) := by decide +kernel
theorem dX_unlock_13 : decode bX_unlock 13 = .ok (.getfield 19, 3) := by decide +kernel
theorem dX_unlock_16 : decode bX_unlock 16 = .ok (.iload_n 1, 1) := by decide +kernel
theorem dX_unlock_17 : decode bX_unlock 17 = .ok (.dup2, 1) := by decide +kernel
theorem dX_unlock_18 : decode bX_unlock 18 = .ok (.iaload, 1) := by decide +kernel
theorem dX_unlock_19 : decode bX_unlock 19 = .ok (.iconst 1, 1) := by decide +kernel
theorem dX_unlock_20 : decode bX_unlock 20 = .ok (.iload_n 2, 1) := by decide +kernel
theorem dX_unlock_21 : decode bX_unlock 21 = .ok (.ishl, 1) := by decide +kernel
theorem dX_unlock_22 : decode bX_unlock 22 = .ok (.ior, 1) := by decide +kernel
theorem dX_unlock_23 : decode bX_unlock 23 = .ok (.iastore, 1) := by decide +kernel
theorem dX_unlock_24 : decode bX_unlock 24 = .ok (.aload_n 0, 1) := by decide +kernel
theorem dX_unlock_25 : decode bX_unlock 25 = .ok (.getfield 19, 3) := by decide +kernel
theorem dX_unlock_28 : decode bX_unlock 28 = .ok (.iload_n 1, 1) := by decide +kernel
theorem dX_unlock_29 : decode bX_unlock 29 = .ok (.iaload, 1) := by decide +kernel
theorem dX_unlock_30 : decode bX_unlock 30 = .ok (.aload_n 0, 1) := by decide +kernel
theorem dX_unlock_31 : decode bX_unlock 31 = .ok (.getfield 110, 3) := by decide +kernel
theorem dX_unlock_34 : decode bX_unlock 34 = .ok (.if_icmp .ne 10, 3) := by decide +kernel
theorem dX_unlock_37 : decode bX_unlock 37 = .ok (.aload_n 0, 1) := by decide +kernel
theorem dX_unlock_38 : decode bX_unlock 38 = .ok (.getfield 16, 3) := by decide +kernel
theorem dX_unlock_41 : decode bX_unlock 41 = .ok (.iload_n 1, 1) := by decide +kernel
theorem dX_unlock_42 : decode bX_unlock 42 = .ok (.iconst 2, 1) := by decide +kernel
theorem dX_unlock_43 : decode bX_unlock 43 = .ok (.iastore, 1) := by decide +kernel
theorem dX_unlock_44 : decode bX_unlock 44 = .ok (.return_, 1) := by decide +kernel
theorem dX_mayShow_0 : decode bX_mayShow 0 = .ok (.iload_n 2, 1) := by decide +kernel
theorem dX_mayShow_1 : decode bX_mayShow 1 = .ok (.invokestatic 203, 3) := by decide +kernel
theorem dX_mayShow_4 : decode bX_mayShow 4 = .ok (.istore_n 3, 1) := by decide +kernel
theorem dX_mayShow_5 : decode bX_mayShow 5 = .ok (.iload_n 3, 1) := by decide +kernel
theorem dX_mayShow_6 : decode bX_mayShow 6 = .ok (.ifCond .ne 5, 3) := by decide +kernel
theorem dX_mayShow_9 : decode bX_mayShow 9 = .ok (.iconst 1, 1) := by decide +kernel
theorem dX_mayShow_10 : decode bX_mayShow 10 = .ok (.ireturn, 1) := by decide +kernel
theorem dX_mayShow_11 : decode bX_mayShow 11 = .ok (.iconst 0, 1) := by decide +kernel
theorem dX_mayShow_12 : decode bX_mayShow 12 = .ok (.istore 4, 2) := by decide +kernel
theorem dX_mayShow_14 : decode bX_mayShow 14 = .ok (.iload 4, 2) := by decide +kernel
theorem dX_mayShow_16 : decode bX_mayShow 16 = .ok (.aload_n 0, 1) := by decide +kernel
theorem dX_mayShow_17 : decode bX_mayShow 17 = .ok (.getfield 71, 3) := by decide +kernel
theorem dX_mayShow_20 : decode bX_mayShow 20 = .ok (.if_icmp .ge 22, 3) := by decide +kernel
theorem dX_mayShow_23 : decode bX_mayShow 23 = .ok (.aload_n 0, 1) := by decide +kernel
theorem dX_mayShow_24 : decode bX_mayShow 24 = .ok (.iload 4, 2) := by decide +kernel
theorem dX_mayShow_26 : decode bX_mayShow 26 = .ok (.iload_n 1, 1) := by decide +kernel
theorem dX_mayShow_27 : decode bX_mayShow 27 = .ok (.invokevirtual 190, 3) := by decide +kernel
theorem dX_mayShow_30 : decode bX_mayShow 30 = .ok (.iload_n 3, 1) := by decide +kernel
theorem dX_mayShow_31 : decode bX_mayShow 31 = .ok (.if_icmp .ne 5, 3) := by decide +kernel
theorem dX_mayShow_34 : decode bX_mayShow 34 = .ok (.iconst 1, 1) := by decide +kernel
theorem dX_mayShow_35 : decode bX_mayShow 35 = .ok (.ireturn, 1) := by decide +kernel
theorem dX_mayShow_36 : decode bX_mayShow 36 = .ok (.iinc 4 1, 3) := by decide +kernel
theorem dX_mayShow_39 : decode bX_mayShow 39 = .ok (.goto (-25), 3) := by decide +kernel
theorem dX_mayShow_42 : decode bX_mayShow 42 = .ok (.iconst 0, 1) := by decide +kernel
theorem dX_mayShow_43 : decode bX_mayShow 43 = .ok (.ireturn, 1) := by decide +kernel
theorem dX_isSecured_0 : decode bX_isSecured 0 = .ok (.iconst 0, 1) := by decide +kernel
theorem dX_isSecured_1 : decode bX_isSecured 1 = .ok (.istore_n 2, 1) := by decide +kernel
theorem dX_isSecured_2 : decode bX_isSecured 2 = .ok (.iload_n 2, 1) := by decide +kernel
theorem dX_isSecured_3 : decode bX_isSecured 3 = .ok (.aload_n 0, 1) := by decide +kernel
theorem dX_isSecured_4 : decode bX_isSecured 4 = .ok (.getfield 71, 3) := by decide +kernel
theorem dX_isSecured_7 : decode bX_isSecured 7 = .ok (.if_icmp .ge 41, 3) := by decide +kernel
theorem dX_isSecured_10 : decode bX_isSecured 10 = .ok (.aload_n 0, 1) := by decide +kernel
theorem dX_isSecured_11 : decode bX_isSecured 11 = .ok (.getfield 13, 3) := by decide +kernel
theorem dX_isSecured_14 : decode bX_isSecured 14 = .ok (.iload_n 2, 1) := by decide +kernel
theorem dX_isSecured_15 : decode bX_isSecured 15 = .ok (.iaload, 1) := by decide +kernel
theorem dX_isSecured_16 : decode bX_isSecured 16 = .ok (.iload_n 1, 1) := by decide +kernel
theorem dX_isSecured_17 : decode bX_isSecured 17 = .ok (.if_icmp .ne 25, 3) := by decide +kernel
theorem dX_isSecured_20 : decode bX_isSecured 20 = .ok (.aload_n 0, 1) := by decide +kernel
theorem dX_isSecured_21 : decode bX_isSecured 21 = .ok (.getfield 16, 3) := by decide +kernel
theorem dX_isSecured_24 : decode bX_isSecured 24 = .ok (.iload_n 2, 1) := by decide +kernel
theorem dX_isSecured_25 : decode bX_isSecured 25 = .ok (.iaload, 1) := by decide +kernel
theorem dX_isSecured_26 : decode bX_isSecured 26 = .ok (.iconst 1, 1) := by decide +kernel
theorem dX_isSecured_27 : decode bX_isSecured 27 = .ok (.if_icmp .eq 15, 3) := by decide +kernel
theorem dX_isSecured_30 : decode bX_isSecured 30 = .ok (.aload_n 0, 1) := by decide +kernel
theorem dX_isSecured_31 : decode bX_isSecured 31 = .ok (.getfield 16, 3) := by decide +kernel
theorem dX_isSecured_34 : decode bX_isSecured 34 = .ok (.iload_n 2, 1) := by decide +kernel
theorem dX_isSecured_35 : decode bX_isSecured 35 = .ok (.iaload, 1) := by decide +kernel
theorem dX_isSecured_36 : decode bX_isSecured 36 = .ok (.iconst 2, 1) := by decide +kernel
theorem dX_isSecured_37 : decode bX_isSecured 37 = .ok (.if_icmp .eq 5, 3) := by decide +kernel
theorem dX_isSecured_40 : decode bX_isSecured 40 = .ok (.iconst 0, 1) := by decide +kernel
theorem dX_isSecured_41 : decode bX_isSecured 41 = .ok (.ireturn, 1) := by decide +kernel
theorem dX_isSecured_42 : decode bX_isSecured 42 = .ok (.iinc 2 1, 3) := by decide +kernel
theorem dX_isSecured_45 : decode bX_isSecured 45 = .ok (.goto (-43), 3) := by decide +kernel
theorem dX_isSecured_48 : decode bX_isSecured 48 = .ok (.iconst 1, 1) := by decide +kernel
theorem dX_isSecured_49 : decode bX_isSecured 49 = .ok (.ireturn, 1) := by decide +kernel
theorem inX_isParty_X : ∀ x ∈ u_ws RcX TcX 16, x ∈ wX_isParty := by decide +kernel
theorem inX_isArc_X : ∀ x ∈ u_ws RcX TcX 16, x ∈ wX_isArc := by decide +kernel
set_option maxRecDepth 20000 in
theorem gX_isLeader_X_isParty : GoodIn wX_isLeader (wsV RcX 52 RcX yX_isParty wX_isParty) := goodIn_app (goodIn_of _ (by decide +kernel)) (goodIn_r _ [6, 7, 8, 9, 10, 11, 12, 13, 14, 15, 16, 17, 18, 19, 20, 21, 22, 23] (by decide +kernel) (by decide +kernel))
theorem inX_isLeader_X : ∀ x ∈ u_ws RcX TcX 16, x ∈ wX_isLeader := by decide +kernel
theorem inX_conforms_X : ∀ x ∈ u_ws RcX TcX 16, x ∈ wX_conforms := by decide +kernel
theorem inX_isOver_X : ∀ x ∈ u_ws RcX TcX 16, x ∈ wX_isOver := by decide +kernel
set_option maxRecDepth 20000 in
theorem gX_isInTime_R_size : GoodIn wX_isInTime (va_wsS RcX 141 yR_size wR_size) := goodIn_app (goodIn_of _ (by decide +kernel)) (goodIn_r _ [8] (by decide +kernel) (by decide +kernel))
theorem inX_isInTime_X : ∀ x ∈ u_ws RcX TcX 16, x ∈ wX_isInTime := by decide +kernel
set_option maxRecDepth 20000 in
theorem gX_hashkey_X_isArc : GoodIn wX_hashkey (wsV RcX 131 RcX yX_isArc wX_isArc) := goodIn_app (goodIn_of _ (by decide +kernel)) (goodIn_r _ [9, 10, 13, 14, 15, 16, 17, 18, 19, 20, 21, 22, 23, 24, 25, 26, 27, 28] (by decide +kernel) (by decide +kernel))
set_option maxRecDepth 20000 in
theorem gX_hashkey_X_isParty : GoodIn wX_hashkey (wsV RcX 52 RcX yX_isParty wX_isParty) := goodIn_app (goodIn_of _ (by decide +kernel)) (goodIn_r _ [11, 12, 13, 14, 15, 16, 17, 18, 19, 20, 21, 22, 23, 24, 25, 26, 27, 28] (by decide +kernel) (by decide +kernel))
theorem inX_hashkey_X : ∀ x ∈ u_ws RcX TcX 16, x ∈ wX_hashkey := by decide +kernel
theorem inX_isUnlocked_X : ∀ x ∈ u_ws RcX TcX 16, x ∈ wX_isUnlocked := by decide +kernel
theorem inX_unlock_X : ∀ x ∈ u_ws RcX TcX 16, x ∈ wX_unlock := by decide +kernel
set_option maxRecDepth 20000 in
theorem gX_mayShow_R_rest : GoodIn wX_mayShow (va_wsS RcX 203 yR_rest wR_rest) := goodIn_app (goodIn_of _ (by decide +kernel)) (goodIn_r _ [9] (by decide +kernel) (by decide +kernel))
theorem inX_mayShow_X : ∀ x ∈ u_ws RcX TcX 16, x ∈ wX_mayShow := by decide +kernel
set_option maxRecDepth 20000 in
theorem gX_mayShow_X_hashkey : GoodIn wX_mayShow (wsV RcX 190 RcX yX_hashkey wX_hashkey) := goodIn_app (goodIn_of _ (by decide +kernel)) (goodIn_r _ [10, 11, 12, 13, 8, 14, 15, 16, 17, 18, 4, 19, 20, 21, 22, 23, 24, 25, 26, 27, 28, 29, 30, 31, 32, 33, 34, 35, 36] (by decide +kernel) (by decide +kernel))
theorem inX_isSecured_X : ∀ x ∈ u_ws RcX TcX 16, x ∈ wX_isSecured := by decide +kernel

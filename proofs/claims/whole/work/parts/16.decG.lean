theorem dG_holds_0 : decode bG_holds 0 = .ok (.iload_n 1, 1) := by decide +kernel
theorem dG_holds_1 : decode bG_holds 1 = .ok (.ifCond .lt 15, 3) := by decide +kernel
theorem dG_holds_4 : decode bG_holds 4 = .ok (.iload_n 1, 1) := by decide +kernel
theorem dG_holds_5 : decode bG_holds 5 = .ok (.aload_n 0, 1) := by decide +kernel
theorem dG_holds_6 : decode bG_holds 6 = .ok (.getfield 15, 3) := by decide +kernel
theorem dG_holds_9 : decode bG_holds 9 = .ok (.if_icmp .ge 7, 3) := by decide +kernel
theorem dG_holds_12 : decode bG_holds 12 = .ok (.iconst 1, 1) := by decide +kernel
theorem dG_holds_13 : decode bG_holds 13 = .ok (.goto 4, 3) := by decide +kernel
theorem dG_holds_16 : decode bG_holds 16 = .ok (.iconst 0, 1) := by decide +kernel
theorem dG_holds_17 : decode bG_holds 17 = .ok (.ireturn, 1) := by decide +kernel
theorem dG_join_0 : decode bG_join 0 = .ok (.aload_n 0, 1) := by decide +kernel
theorem dG_join_1 : decode bG_join 1 = .ok (.iload_n 1, 1) := by decide +kernel
theorem dG_join_2 : decode bG_join 2 = .ok (.invokevirtual 22, 3) := by decide +kernel
theorem dG_join_5 : decode bG_join 5 = .ok (.ifCond .eq 23, 3) := by decide +kernel
theorem dG_join_8 : decode bG_join 8 = .ok (.aload_n 0, 1) := by decide +kernel
theorem dG_join_9 : decode bG_join 9 = .ok (.iload_n 2, 1) := by decide +kernel
theorem dG_join_10 : decode bG_join 10 = .ok (.invokevirtual 22, 3) := by decide +kernel
theorem dG_join_13 : decode bG_join 13 = .ok (.ifCond .eq 15, 3) := by decide +kernel
theorem dG_join_16 : decode bG_join 16 = .ok (.aload_n 0, 1) := by decide +kernel
theorem dG_join_17 : decode bG_join 17 = .ok (.getfield 9, 3) := by decide +kernel
theorem dG_join_20 : decode bG_join 20 = .ok (.iload_n 1, 1) := by decide +kernel
theorem dG_join_21 : decode bG_join 21 = .ok (.dup2, 1) := by decide +kernel
theorem dG_join_22 : decode bG_join 22 = .ok (.iaload, 1) := by decide +kernel
theorem dG_join_23 : decode bG_join 23 = .ok (.iconst 1, 1) := by decide +kernel
theorem dG_join_24 : decode bG_join 24 = .ok (.iload_n 2, 1) := by decide +kernel
theorem dG_join_25 : decode bG_join 25 = .ok (.ishl, 1) := by decide +kernel
theorem dG_join_26 : decode bG_join 26 = .ok (.ior, 1) := by decide +kernel
theorem dG_join_27 : decode bG_join 27 = .ok (.iastore, 1) := by decide +kernel
theorem dG_join_28 : decode bG_join 28 = .ok (.return_, 1) := by decide +kernel
theorem dG_joins_0 : decode bG_joins 0 = .ok (.aload_n 0, 1) := by decide +kernel
theorem dG_joins_1 : decode bG_joins 1 = .ok (.iload_n 1, 1) := by decide +kernel
theorem dG_joins_2 : decode bG_joins 2 = .ok (.invokevirtual 22, 3) := by decide +kernel
theorem dG_joins_5 : decode bG_joins 5 = .ok (.ifCond .eq 29, 3) := by decide +kernel
theorem dG_joins_8 : decode bG_joins 8 = .ok (.aload_n 0, 1) := by decide +kernel
theorem dG_joins_9 : decode bG_joins 9 = .ok (.iload_n 2, 1) := by decide +kernel
theorem dG_joins_10 : decode bG_joins 10 = .ok (.invokevirtual 22, 3) := by decide +kernel
theorem dG_joins_13 : decode bG_joins 13 = .ok (.ifCond .eq 21, 3) := by decide +kernel
theorem dG_joins_16 : decode bG_joins 16 = .ok (.aload_n 0, 1) := by decide +kernel
theorem dG_joins_17 : decode bG_joins 17 = .ok (.getfield 9, 3) := by decide +kernel
theorem dG_joins_20 : decode bG_joins 20 = .ok (.iload_n 1, 1) := by decide +kernel
theorem dG_joins_21 : decode bG_joins 21 = .ok (.iaload, 1) := by decide +kernel
theorem dG_joins_22 : decode bG_joins 22 = .ok (.iload_n 2, 1) := by decide +kernel
theorem dG_joins_23 : decode bG_joins 23 = .ok (.ishr, 1) := by decide +kernel
theorem dG_joins_24 : decode bG_joins 24 = .ok (.iconst 1, 1) := by decide +kernel
theorem dG_joins_25 : decode bG_joins 25 = .ok (.iand, 1) := by decide +kernel
theorem dG_joins_26 : decode bG_joins 26 = .ok (.iconst 1, 1) := by decide +kernel
theorem dG_joins_27 : decode bG_joins 27 = .ok (.if_icmp .ne 7, 3) := by decide +kernel
theorem dG_joins_30 : decode bG_joins 30 = .ok (.iconst 1, 1) := by decide +kernel
theorem dG_joins_31 : decode bG_joins 31 = .ok (.goto 4, 3) := by decide +kernel
theorem dG_joins_34 : decode bG_joins 34 = .ok (.iconst 0, 1) := by decide +kernel
theorem dG_joins_35 : decode bG_joins 35 = .ok (.ireturn, 1) := by decide +kernel
theorem dG_isPath_0 : decode bG_isPath 0 = .ok (.iload_n 1, 1) := by decide +kernel
theorem dG_isPath_1 : decode bG_isPath 1 = .ok (.invokestatic 26, 3) := by decide +kernel
theorem dG_isPath_4 : decode bG_isPath 4 = .ok (.istore_n 2, 1) := by decide +kernel
theorem dG_isPath_5 : decode bG_isPath 5 = .ok (.iconst 0, 1) := by decide +kernel
theorem dG_isPath_6 : decode bG_isPath 6 = .ok (.istore_n 3, 1) := by decide +kernel
theorem dG_isPath_7 : decode bG_isPath 7 = .ok (.iconst 0, 1) := by decide +kernel
theorem dG_isPath_8 : decode bG_isPath 8 = .ok (.istore 4, 2) := by decide +kernel
theorem dG_isPath_10 : decode bG_isPath 10 = .ok (.iload 4, 2) := by decide +kernel
theorem dG_isPath_12 : decode bG_isPath 12 = .ok (.iload_n 2, 1) := by decide +kernel
theorem dG_isPath_13 : decode bG_isPath 13 = .ok (.if_icmp .ge 78, 3) := by decide +kernel
theorem dG_isPath_16 : decode bG_isPath 16 = .ok (.iload_n 1, 1) := by decide +kernel
theorem dG_isPath_17 : decode bG_isPath 17 = .ok (.iload 4, 2) := by decide +kernel
theorem dG_isPath_19 : decode bG_isPath 19 = .ok (.invokestatic 32, 3) := by decide +kernel
theorem dG_isPath_22 : decode bG_isPath 22 = .ok (.istore 5, 2) := by decide +kernel
theorem dG_isPath_24 : decode bG_isPath 24 = .ok (.aload_n 0, 1) := by decide +kernel
theorem dG_isPath_25 : decode bG_isPath 25 = .ok (.iload 5, 2) := by decide +kernel
theorem dG_isPath_27 : decode bG_isPath 27 = .ok (.invokevirtual 22, 3) := by decide +kernel
theorem dG_isPath_30 : decode bG_isPath 30 = .ok (.ifCond .eq 16, 3) := by decide +kernel
theorem dG_isPath_33 : decode bG_isPath 33 = .ok (.iload_n 3, 1) := by decide +kernel
theorem dG_isPath_34 : decode bG_isPath 34 = .ok (.iload 5, 2) := by decide +kernel
theorem dG_isPath_36 : decode bG_isPath 36 = .ok (.ishr, 1) := by decide +kernel
theorem dG_isPath_37 : decode bG_isPath 37 = .ok (.iconst 1, 1) := by decide +kernel
theorem dG_isPath_38 : decode bG_isPath 38 = .ok (.iand, 1) := by decide +kernel
theorem dG_isPath_39 : decode bG_isPath 39 = .ok (.ifCond .ne 7, 3) := by decide +kernel
theorem dG_isPath_42 : decode bG_isPath 42 = .ok (.iconst 1, 1) := by decide +kernel
theorem dG_isPath_43 : decode bG_isPath 43 = .ok (.goto 4, 3) := by decide +kernel
theorem dG_isPath_46 : decode bG_isPath 46 = .ok (.iconst 0, 1) := by decide +kernel
theorem dG_isPath_47 : decode bG_isPath 47 = .ok (.istore 6, 2) := by decide +kernel
theorem dG_isPath_49 : decode bG_isPath 49 = .ok (.iload 6, 2) := by decide +kernel
theorem dG_isPath_51 : decode bG_isPath 51 = .ok (.ifCond .eq 25, 3) := by decide +kernel
theorem dG_isPath_54 : decode bG_isPath 54 = .ok (.iload 4, 2) := by decide +kernel
theorem dG_isPath_56 : decode bG_isPath 56 = .ok (.ifCond .le 22, 3) := by decide +kernel
theorem dG_isPath_59 : decode bG_isPath 59 = .ok (.aload_n 0, 1) := by decide +kernel
theorem dG_isPath_60 : decode bG_isPath 60 = .ok (.iload_n 1, 1) := by decide +kernel
theorem dG_isPath_61 : decode bG_isPath 61 = .ok (.iload 4, 2) := by decide +kernel
theorem dG_isPath_63 : decode bG_isPath 63 = .ok (.iconst 1, 1) := by decide +kernel
theorem dG_isPath_64 : decode bG_isPath 64 = .ok (.isub, 1) := by decide +kernel
theorem dG_isPath_65 : decode bG_isPath 65 = .ok (.invokestatic 32, 3) := by decide +kernel
theorem dG_isPath_68 : decode bG_isPath 68 = .ok (.iload 5, 2) := by decide +kernel
theorem dG_isPath_70 : decode bG_isPath 70 = .ok (.invokevirtual 36, 3) := by decide +kernel
theorem dG_isPath_73 : decode bG_isPath 73 = .ok (.ifCond .ne 5, 3) := by decide +kernel
theorem dG_isPath_76 : decode bG_isPath 76 = .ok (.iconst 0, 1) := by decide +kernel
theorem dG_isPath_77 : decode bG_isPath 77 = .ok (.ireturn, 1) := by decide +kernel
theorem dG_isPath_78 : decode bG_isPath 78 = .ok (.iload_n 3, 1) := by decide +kernel
theorem dG_isPath_79 : decode bG_isPath 79 = .ok (.iconst 1, 1) := by decide +kernel
theorem dG_isPath_80 : decode bG_isPath 80 = .ok (.iload 5, 2) := by decide +kernel
theorem dG_isPath_82 : decode bG_isPath 82 = .ok (.ishl, 1) := by decide +kernel
theorem dG_isPath_83 : decode bG_isPath 83 = .ok (.ior, 1) := by decide +kernel
theorem dG_isPath_84 : decode bG_isPath 84 = .ok (.istore_n 3, 1) := by decide +kernel
theorem dG_isPath_85 : decode bG_isPath 85 = .ok (.iinc 4 1, 3) := by decide +kernel
theorem dG_isPath_88 : decode bG_isPath 88 = .ok (.goto (-78), 3) := by decide +kernel
theorem dG_isPath_91 : decode bG_isPath 91 = .ok (.iload_n 2, 1) := by decide +kernel
theorem dG_isPath_92 : decode bG_isPath 92 = .ok (.ifCond .le 7, 3) := by decide +kernel
theorem dG_isPath_95 : decode bG_isPath 95 = .ok (.iconst 1, 1) := by decide +kernel
theorem dG_isPath_96 : decode bG_isPath 96 = .ok (.goto 4, 3) := by decide +kernel
theorem dG_isPath_99 : decode bG_isPath 99 = .ok (.iconst 0, 1) := by decide +kernel
theorem dG_isPath_100 : decode bG_isPath 100 = .ok (.ireturn, 1) := by decide +kernel
theorem dG_reach_0 : decode bG_reach 0 = .ok (.iconst 1, 1) := by decide +kernel
theorem dG_reach_1 : decode bG_reach 1 = .ok (.iload_n 1, 1) := by decide +kernel
theorem dG_reach_2 : decode bG_reach 2 = .ok (.ishl, 1) := by decide +kernel
theorem dG_reach_3 : decode bG_reach 3 = .ok (.istore_n 2, 1) := by decide +kernel
theorem dG_reach_4 : decode bG_reach 4 = .ok (.iconst 1, 1) := by decide +kernel
theorem dG_reach_5 : decode bG_reach 5 = .ok (.istore_n 3, 1) := by decide +kernel
theorem dG_reach_6 : decode bG_reach 6 = .ok (.iload_n 3, 1) := by decide +kernel
theorem dG_reach_7 : decode bG_reach 7 = .ok (.aload_n 0, 1) := by decide +kernel
theorem dG_reach_8 : decode bG_reach 8 = .ok (.getfield 15, 3) := by decide +kernel
theorem dG_reach_11 : decode bG_reach 11 = .ok (.if_icmp .ge 47, 3) := by decide +kernel
theorem dG_reach_14 : decode bG_reach 14 = .ok (.iconst 0, 1) := by decide +kernel
theorem dG_reach_15 : decode bG_reach 15 = .ok (.istore 4, 2) := by decide +kernel
theorem dG_reach_17 : decode bG_reach 17 = .ok (.iload 4, 2) := by decide +kernel
theorem dG_reach_19 : decode bG_reach 19 = .ok (.aload_n 0, 1) := by decide +kernel
theorem dG_reach_20 : decode bG_reach 20 = .ok (.getfield 15, 3) := by decide +kernel
theorem dG_reach_23 : decode bG_reach 23 = .ok (.if_icmp .ge 29, 3) := by decide +kernel
theorem dG_reach_26 : decode bG_reach 26 = .ok (.iload_n 2, 1) := by decide +kernel
theorem dG_reach_27 : decode bG_reach 27 = .ok (.iload 4, 2) := by decide +kernel
theorem dG_reach_29 : decode bG_reach 29 = .ok (.ishr, 1) := by decide +kernel
theorem dG_reach_30 : decode bG_reach 30 = .ok (.iconst 1, 1) := by decide +kernel
theorem dG_reach_31 : decode bG_reach 31 = .ok (.iand, 1) := by decide +kernel
theorem dG_reach_32 : decode bG_reach 32 = .ok (.iconst 1, 1) := by decide +kernel
theorem dG_reach_33 : decode bG_reach 33 = .ok (.if_icmp .ne 13, 3) := by decide +kernel
theorem dG_reach_36 : decode bG_reach 36 = .ok (.iload_n 2, 1) := by decide +kernel
theorem dG_reach_37 : decode bG_reach 37 = .ok (.aload_n 0, 1) := by decide +kernel
theorem dG_reach_38 : decode bG_reach 38 = .ok (.getfield 9, 3) := by decide +kernel
theorem dG_reach_41 : decode bG_reach 41 = .ok (.iload 4, 2) := by decide +kernel
theorem dG_reach_43 : decode bG_reach 43 = .ok (.iaload, 1) := by decide +kernel
theorem dG_reach_44 : decode bG_reach 44 = .ok (.ior, 1) := by decide +kernel
theorem dG_reach_45 : decode bG_reach 45 = .ok (.istore_n 2, 1) := by decide +kernel
theorem dG_reach_46 : decode bG_reach 46 = .ok (.iinc 4 1, 3) := by decide +kernel
theorem dG_reach_49 : decode bG_reach 49 = .ok (.goto (-32), 3) := by decide +kernel
theorem dG_reach_52 : decode bG_reach 52 = .ok (.iinc 3 1, 3) := by decide +kernel
theorem dG_reach_55 : decode bG_reach 55 = .ok (.goto (-49), 3) := by decide +kernel
theorem dG_reach_58 : decode bG_reach 58 = .ok (.iload_n 2, 1) := by decide +kernel
theorem dG_reach_59 : decode bG_reach 59 = .ok (.ireturn, 1) := by decide +kernel
theorem dG_isStrong_0 : decode bG_isStrong 0 = .ok (.iconst 0, 1) := by decide +kernel
theorem dG_isStrong_1 : decode bG_isStrong 1 = .ok (.istore_n 1, 1) := by decide +kernel
theorem dG_isStrong_2 : decode bG_isStrong 2 = .ok (.iload_n 1, 1) := by decide +kernel
theorem dG_isStrong_3 : decode bG_isStrong 3 = .ok (.aload_n 0, 1) := by decide +kernel
theorem dG_isStrong_4 : decode bG_isStrong 4 = .ok (.getfield 15, 3) := by decide +kernel
theorem dG_isStrong_7 : decode bG_isStrong 7 = .ok (.if_icmp .ge 23, 3) := by decide +kernel
theorem dG_isStrong_10 : decode bG_isStrong 10 = .ok (.aload_n 0, 1) := by decide +kernel
theorem dG_isStrong_11 : decode bG_isStrong 11 = .ok (.iload_n 1, 1) := by decide +kernel
theorem dG_isStrong_12 : decode bG_isStrong 12 = .ok (.invokevirtual 40, 3) := by decide +kernel
theorem dG_isStrong_15 : decode bG_isStrong 15 = .ok (.aload_n 0, 1) := by decide +kernel
theorem dG_isStrong_16 : decode bG_isStrong 16 = .ok (.getfield 19, 3) := by decide +kernel
theorem dG_isStrong_19 : decode bG_isStrong 19 = .ok (.if_icmp .eq 5, 3) := by decide +kernel
theorem dG_isStrong_22 : decode bG_isStrong 22 = .ok (.iconst 0, 1) := by decide +kernel
theorem dG_isStrong_23 : decode bG_isStrong 23 = .ok (.ireturn, 1) := by decide +kernel
theorem dG_isStrong_24 : decode bG_isStrong 24 = .ok (.iinc 1 1, 3) := by decide +kernel
theorem dG_isStrong_27 : decode bG_isStrong 27 = .ok (.goto (-25), 3) := by decide +kernel
theorem dG_isStrong_30 : decode bG_isStrong 30 = .ok (.iconst 1, 1) := by decide +kernel
theorem dG_isStrong_31 : decode bG_isStrong 31 = .ok (.ireturn, 1) := by decide +kernel
theorem dG_endsAllWalks_0 : decode bG_endsAllWalks 0 = .ok (.iload_n 1, 1) := by decide +kernel
theorem dG_endsAllWalks_1 : decode bG_endsAllWalks 1 = .ok (.istore_n 2, 1) := by decide +kernel
theorem dG_endsAllWalks_2 : decode bG_endsAllWalks 2 = .ok (.iconst 0, 1) := by decide +kernel
theorem dG_endsAllWalks_3 : decode bG_endsAllWalks 3 = .ok (.istore_n 3, 1) := by decide +kernel
theorem dG_endsAllWalks_4 : decode bG_endsAllWalks 4 = .ok (.iload_n 3, 1) := by decide +kernel
theorem dG_endsAllWalks_5 : decode bG_endsAllWalks 5 = .ok (.aload_n 0, 1) := by decide +kernel
theorem dG_endsAllWalks_6 : decode bG_endsAllWalks 6 = .ok (.getfield 15, 3) := by decide +kernel
theorem dG_endsAllWalks_9 : decode bG_endsAllWalks 9 = .ok (.if_icmp .ge 48, 3) := by decide +kernel
theorem dG_endsAllWalks_12 : decode bG_endsAllWalks 12 = .ok (.iconst 0, 1) := by decide +kernel
theorem dG_endsAllWalks_13 : decode bG_endsAllWalks 13 = .ok (.istore 4, 2) := by decide +kernel
theorem dG_endsAllWalks_15 : decode bG_endsAllWalks 15 = .ok (.iload 4, 2) := by decide +kernel
theorem dG_endsAllWalks_17 : decode bG_endsAllWalks 17 = .ok (.aload_n 0, 1) := by decide +kernel
theorem dG_endsAllWalks_18 : decode bG_endsAllWalks 18 = .ok (.getfield 15, 3) := by decide +kernel
theorem dG_endsAllWalks_21 : decode bG_endsAllWalks 21 = .ok (.if_icmp .ge 30, 3) := by decide +kernel
theorem dG_endsAllWalks_24 : decode bG_endsAllWalks 24 = .ok (.aload_n 0, 1) := by decide +kernel
theorem dG_endsAllWalks_25 : decode bG_endsAllWalks 25 = .ok (.getfield 9, 3) := by decide +kernel
theorem dG_endsAllWalks_28 : decode bG_endsAllWalks 28 = .ok (.iload 4, 2) := by decide +kernel
theorem dG_endsAllWalks_30 : decode bG_endsAllWalks 30 = .ok (.iaload, 1) := by decide +kernel
theorem dG_endsAllWalks_31 : decode bG_endsAllWalks 31 = .ok (.iload_n 2, 1) := by decide +kernel
theorem dG_endsAllWalks_32 : decode bG_endsAllWalks 32 = .ok (.iand, 1) := by decide +kernel
theorem dG_endsAllWalks_33 : decode bG_endsAllWalks 33 = .ok (.ifCond .ne 12, 3) := by decide +kernel
theorem dG_endsAllWalks_36 : decode bG_endsAllWalks 36 = .ok (.iload_n 2, 1) := by decide +kernel
theorem dG_endsAllWalks_37 : decode bG_endsAllWalks 37 = .ok (.iconst 1, 1) := by decide +kernel
theorem dG_endsAllWalks_38 : decode bG_endsAllWalks 38 = .ok (.iload 4, 2) := by decide +kernel
theorem dG_endsAllWalks_40 : decode bG_endsAllWalks 40 = .ok (.ishl, 1) := by decide +kernel
theorem dG_endsAllWalks_41 : decode bG_endsAllWalks 41 = .ok (.iconst (-1), 1) := by decide +kernel
theorem dG_endsAllWalks_42 : decode bG_endsAllWalks 42 = .ok (.ixor, 1) := by decide +kernel
theorem dG_endsAllWalks_43 : decode bG_endsAllWalks 43 = .ok (.iand, 1) := by decide +kernel
theorem dG_endsAllWalks_44 : decode bG_endsAllWalks 44 = .ok (.istore_n 2, 1) := by decide +kernel
theorem dG_endsAllWalks_45 : decode bG_endsAllWalks 45 = .ok (.iinc 4 1, 3) := by decide +kernel
theorem dG_endsAllWalks_48 : decode bG_endsAllWalks 48 = .ok (.goto (-33), 3) := by decide +kernel
theorem dG_endsAllWalks_51 : decode bG_endsAllWalks 51 = .ok (.iinc 3 1, 3) := by decide +kernel
theorem dG_endsAllWalks_54 : decode bG_endsAllWalks 54 = .ok (.goto (-50), 3) := by decide +kernel
theorem dG_endsAllWalks_57 : decode bG_endsAllWalks 57 = .ok (.iload_n 2, 1) := by decide +kernel
theorem dG_endsAllWalks_58 : decode bG_endsAllWalks 58 = .ok (.ifCond .ne 7, 3) := by decide +kernel
theorem dG_endsAllWalks_61 : decode bG_endsAllWalks 61 = .ok (.iconst 1, 1) := by decide +kernel
theorem dG_endsAllWalks_62 : decode bG_endsAllWalks 62 = .ok (.goto 4, 3) := by decide +kernel
theorem dG_endsAllWalks_65 : decode bG_endsAllWalks 65 = .ok (.iconst 0, 1) := by decide +kernel
theorem dG_endsAllWalks_66 : decode bG_endsAllWalks 66 = .ok (.ireturn, 1) := by decide +kernel
theorem dG_fewestLeaders_0 : decode bG_fewestLeaders 0 = .ok (.aload_n 0, 1) := by decide +kernel
theorem dG_fewestLeaders_1 : decode bG_fewestLeaders 1 = .ok (.getfield 19, 3) := by decide +kernel
theorem dG_fewestLeaders_4 : decode bG_fewestLeaders 4 = .ok (.istore_n 1, 1) := by decide +kernel
theorem dG_fewestLeaders_5 : decode bG_fewestLeaders 5 = .ok (.iconst 0, 1) := by decide +kernel
theorem dG_fewestLeaders_6 : decode bG_fewestLeaders 6 = .ok (.istore_n 2, 1) := by decide +kernel
theorem dG_fewestLeaders_7 : decode bG_fewestLeaders 7 = .ok (.iload_n 2, 1) := by decide +kernel
theorem dG_fewestLeaders_8 : decode bG_fewestLeaders 8 = .ok (.aload_n 0, 1) := by decide +kernel
theorem dG_fewestLeaders_9 : decode bG_fewestLeaders 9 = .ok (.getfield 19, 3) := by decide +kernel
theorem dG_fewestLeaders_12 : decode bG_fewestLeaders 12 = .ok (.if_icmp .ge 37, 3) := by decide +kernel
theorem dG_fewestLeaders_15 : decode bG_fewestLeaders 15 = .ok (.iload_n 2, 1) := by decide +kernel
theorem dG_fewestLeaders_16 : decode bG_fewestLeaders 16 = .ok (.invokestatic 43, 3) := by decide +kernel
theorem dG_fewestLeaders_19 : decode bG_fewestLeaders 19 = .ok (.iload_n 1, 1) := by decide +kernel
theorem dG_fewestLeaders_20 : decode bG_fewestLeaders 20 = .ok (.invokestatic 43, 3) := by decide +kernel
theorem dG_fewestLeaders_23 : decode bG_fewestLeaders 23 = .ok (.if_icmp .ge 20, 3) := by decide +kernel
theorem dG_fewestLeaders_26 : decode bG_fewestLeaders 26 = .ok (.aload_n 0, 1) := by decide +kernel
theorem dG_fewestLeaders_27 : decode bG_fewestLeaders 27 = .ok (.aload_n 0, 1) := by decide +kernel
theorem dG_fewestLeaders_28 : decode bG_fewestLeaders 28 = .ok (.getfield 19, 3) := by decide +kernel
theorem dG_fewestLeaders_31 : decode bG_fewestLeaders 31 = .ok (.iload_n 2, 1) := by decide +kernel
theorem dG_fewestLeaders_32 : decode bG_fewestLeaders 32 = .ok (.iconst (-1), 1) := by decide +kernel
theorem dG_fewestLeaders_33 : decode bG_fewestLeaders 33 = .ok (.ixor, 1) := by decide +kernel
theorem dG_fewestLeaders_34 : decode bG_fewestLeaders 34 = .ok (.iand, 1) := by decide +kernel
theorem dG_fewestLeaders_35 : decode bG_fewestLeaders 35 = .ok (.invokevirtual 48, 3) := by decide +kernel
theorem dG_fewestLeaders_38 : decode bG_fewestLeaders 38 = .ok (.ifCond .eq 5, 3) := by decide +kernel
theorem dG_fewestLeaders_41 : decode bG_fewestLeaders 41 = .ok (.iload_n 2, 1) := by decide +kernel
theorem dG_fewestLeaders_42 : decode bG_fewestLeaders 42 = .ok (.istore_n 1, 1) := by decide +kernel
theorem dG_fewestLeaders_43 : decode bG_fewestLeaders 43 = .ok (.iinc 2 1, 3) := by decide +kernel
theorem dG_fewestLeaders_46 : decode bG_fewestLeaders 46 = .ok (.goto (-39), 3) := by decide +kernel
theorem dG_fewestLeaders_49 : decode bG_fewestLeaders 49 = .ok (.iload_n 1, 1) := by decide +kernel
theorem dG_fewestLeaders_50 : decode bG_fewestLeaders 50 = .ok (.ireturn, 1) := by decide +kernel
theorem inG_holds_G : ∀ x ∈ u_ws RcG TcG 3, x ∈ wG_holds := by decide +kernel
set_option maxRecDepth 20000 in
theorem gG_join_G_holds : GoodIn wG_join (wsV RcG 22 RcG yG_holds wG_holds) := goodIn_app (goodIn_of _ (by decide +kernel)) (goodIn_r _ [6, 7, 8, 9, 10] (by decide +kernel) (by decide +kernel))
theorem inG_join_G : ∀ x ∈ u_ws RcG TcG 3, x ∈ wG_join := by decide +kernel
set_option maxRecDepth 20000 in
theorem gG_joins_G_holds : GoodIn wG_joins (wsV RcG 22 RcG yG_holds wG_holds) := goodIn_app (goodIn_of _ (by decide +kernel)) (goodIn_r _ [6, 7, 8, 9, 10] (by decide +kernel) (by decide +kernel))
theorem inG_joins_G : ∀ x ∈ u_ws RcG TcG 3, x ∈ wG_joins := by decide +kernel
set_option maxRecDepth 20000 in
theorem gG_isPath_R_size : GoodIn wG_isPath (va_wsS RcG 26 yR_size wR_size) := goodIn_app (goodIn_of _ (by decide +kernel)) (goodIn_r _ [13] (by decide +kernel) (by decide +kernel))
set_option maxRecDepth 20000 in
theorem gG_isPath_R_party : GoodIn wG_isPath (va_wsS RcG 32 yR_party wR_party) := goodIn_app (goodIn_of _ (by decide +kernel)) (goodIn_r _ [14] (by decide +kernel) (by decide +kernel))
set_option maxRecDepth 20000 in
theorem gG_isPath_G_holds : GoodIn wG_isPath (wsV RcG 22 RcG yG_holds wG_holds) := goodIn_app (goodIn_of _ (by decide +kernel)) (goodIn_r _ [15, 16, 19, 20, 21] (by decide +kernel) (by decide +kernel))
set_option maxRecDepth 20000 in
theorem gG_isPath_G_joins : GoodIn wG_isPath (wsV RcG 36 RcG yG_joins wG_joins) := goodIn_app (goodIn_of _ (by decide +kernel)) (goodIn_r _ [17, 6, 7, 8, 9, 18, 15, 16, 19, 20, 21] (by decide +kernel) (by decide +kernel))
theorem inG_reach_G : ∀ x ∈ u_ws RcG TcG 3, x ∈ wG_reach := by decide +kernel
theorem inG_isStrong_G : ∀ x ∈ u_ws RcG TcG 3, x ∈ wG_isStrong := by decide +kernel
set_option maxRecDepth 20000 in
theorem gG_isStrong_G_reach : GoodIn wG_isStrong (wsV RcG 40 RcG yG_reach wG_reach) := goodIn_app (goodIn_of _ (by decide +kernel)) (goodIn_r _ [7, 1, 8, 9, 10, 11] (by decide +kernel) (by decide +kernel))
theorem inG_endsAllWalks_G : ∀ x ∈ u_ws RcG TcG 3, x ∈ wG_endsAllWalks := by decide +kernel
theorem inG_fewestLeaders_G : ∀ x ∈ u_ws RcG TcG 3, x ∈ wG_fewestLeaders := by decide +kernel
set_option maxRecDepth 20000 in
theorem gG_fewestLeaders_J_bitCount : GoodIn wG_fewestLeaders (va_wsS RcG 43 yJ_bitCount wJ_bitCount) := goodIn_app (goodIn_of _ (by decide +kernel)) (goodIn_r _ [9, 10, 11, 12] (by decide +kernel) (by decide +kernel))
set_option maxRecDepth 20000 in
theorem gG_fewestLeaders_G_endsAllWalks : GoodIn wG_fewestLeaders (wsV RcG 48 RcG yG_endsAllWalks wG_endsAllWalks) := goodIn_app (goodIn_of _ (by decide +kernel)) (goodIn_r _ [13, 14, 15, 16, 17, 18] (by decide +kernel) (by decide +kernel))

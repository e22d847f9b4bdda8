theorem dX_countArcs_0 : decode bX_countArcs 0 = .ok (.iconst 0, 1) := by decide +kernel
theorem dX_countArcs_1 : decode bX_countArcs 1 = .ok (.istore_n 3, 1) := by decide +kernel
theorem dX_countArcs_2 : decode bX_countArcs 2 = .ok (.iconst 0, 1) := by decide +kernel
theorem dX_countArcs_3 : decode bX_countArcs 3 = .ok (.istore 4, 2) := by decide +kernel
theorem dX_countArcs_5 : decode bX_countArcs 5 = .ok (.iload 4, 2) := by decide +kernel
theorem dX_countArcs_7 : decode bX_countArcs 7 = .ok (.aload_n 0, 1) := by decide +kernel
theorem dX_countArcs_8 : decode bX_countArcs 8 = .ok (.getfield 71, 3) := by decide +kernel
theorem dX_countArcs_11 : decode bX_countArcs 11 = .ok (.if_icmp .ge 20, 3) := by decide +kernel
theorem dX_countArcs_14 : decode bX_countArcs 14 = .ok (.aload_n 1, 1) := by decide +kernel
theorem dX_countArcs_15 : decode bX_countArcs 15 = .ok (.iload 4, 2) := by decide +kernel
theorem dX_countArcs_17 : decode bX_countArcs 17 = .ok (.iaload, 1) := by decide +kernel
theorem dX_countArcs_18 : decode bX_countArcs 18 = .ok (.iload_n 2, 1) := by decide +kernel
theorem dX_countArcs_19 : decode bX_countArcs 19 = .ok (.if_icmp .ne 6, 3) := by decide +kernel
theorem dX_countArcs_22 : decode bX_countArcs 22 = .ok (.iinc 3 1, 3) := by decide +kernel
theorem dX_countArcs_25 : decode bX_countArcs 25 = .ok (.iinc 4 1, 3) := by decide +kernel
theorem dX_countArcs_28 : decode bX_countArcs 28 = .ok (.goto (-23), 3) := by decide +kernel
theorem dX_countArcs_31 : decode bX_countArcs 31 = .ok (.iload_n 3, 1) := by decide +kernel
theorem dX_countArcs_32 : decode bX_countArcs 32 = .ok (.ireturn, 1) := by decide +kernel
theorem dX_countPaid_0 : decode bX_countPaid 0 = .ok (.iconst 0, 1) := by decide +kernel
theorem dX_countPaid_1 : decode bX_countPaid 1 = .ok (.istore_n 3, 1) := by decide +kernel
theorem dX_countPaid_2 : decode bX_countPaid 2 = .ok (.iconst 0, 1) := by decide +kernel
theorem dX_countPaid_3 : decode bX_countPaid 3 = .ok (.istore 4, 2) := by decide +kernel
theorem dX_countPaid_5 : decode bX_countPaid 5 = .ok (.iload 4, 2) := by decide +kernel
theorem dX_countPaid_7 : decode bX_countPaid 7 = .ok (.aload_n 0, 1) := by decide +kernel
theorem dX_countPaid_8 : decode bX_countPaid 8 = .ok (.getfield 71, 3) := by decide +kernel
theorem dX_countPaid_11 : decode bX_countPaid 11 = .ok (.if_icmp .ge 31, 3) := by decide +kernel
theorem dX_countPaid_14 : decode bX_countPaid 14 = .ok (.aload_n 1, 1) := by decide +kernel
theorem dX_countPaid_15 : decode bX_countPaid 15 = .ok (.iload 4, 2) := by decide +kernel
theorem dX_countPaid_17 : decode bX_countPaid 17 = .ok (.iaload, 1) := by decide +kernel
theorem dX_countPaid_18 : decode bX_countPaid 18 = .ok (.iload_n 2, 1) := by decide +kernel
theorem dX_countPaid_19 : decode bX_countPaid 19 = .ok (.if_icmp .ne 17, 3) := by decide +kernel
theorem dX_countPaid_22 : decode bX_countPaid 22 = .ok (.aload_n 0, 1) := by decide +kernel
theorem dX_countPaid_23 : decode bX_countPaid 23 = .ok (.getfield 16, 3) := by decide +kernel
theorem dX_countPaid_26 : decode bX_countPaid 26 = .ok (.iload 4, 2) := by decide +kernel
theorem dX_countPaid_28 : decode bX_countPaid 28 = .ok (.iaload, 1) := by decide +kernel
theorem dX_countPaid_29 : decode bX_countPaid 29 = .ok (.iconst 2, 1) := by decide +kernel
theorem dX_countPaid_30 : decode bX_countPaid 30 = .ok (.if_icmp .ne 6, 3) := by decide +kernel
theorem dX_countPaid_33 : decode bX_countPaid 33 = .ok (.iinc 3 1, 3) := by decide +kernel
theorem dX_countPaid_36 : decode bX_countPaid 36 = .ok (.iinc 4 1, 3) := by decide +kernel
theorem dX_countPaid_39 : decode bX_countPaid 39 = .ok (.goto (-34), 3) := by decide +kernel
theorem dX_countPaid_42 : decode bX_countPaid 42 = .ok (.iload_n 3, 1) := by decide +kernel
theorem dX_countPaid_43 : decode bX_countPaid 43 = .ok (.ireturn, 1) := by decide +kernel
theorem dX_deployAll_0 : decode bX_deployAll 0 = .ok (.aload_n 0, 1) := by decide +kernel
theorem dX_deployAll_1 : decode bX_deployAll 1 = .ok (.invokevirtual 185, 3) := by decide +kernel
theorem dX_deployAll_4 : decode bX_deployAll 4 = .ok (.ifCond .ne 19, 3) := by decide +kernel
theorem dX_deployAll_7 : decode bX_deployAll 7 = .ok (.aload_n 0, 1) := by decide +kernel
theorem dX_deployAll_8 : decode bX_deployAll 8 = .ok (.iload_n 1, 1) := by decide +kernel
theorem dX_deployAll_9 : decode bX_deployAll 9 = .ok (.invokevirtual 156, 3) := by decide +kernel
theorem dX_deployAll_12 : decode bX_deployAll 12 = .ok (.ifCond .ne 13, 3) := by decide +kernel
theorem dX_deployAll_15 : decode bX_deployAll 15 = .ok (.aload_n 0, 1) := by decide +kernel
theorem dX_deployAll_16 : decode bX_deployAll 16 = .ok (.iload_n 1, 1) := by decide +kernel
theorem dX_deployAll_17 : decode bX_deployAll 17 = .ok (.invokevirtual 218, 3) := by decide +kernel
theorem dX_deployAll_20 : decode bX_deployAll 20 = .ok (.ifCond .ne 5, 3) := by decide +kernel
theorem dX_deployAll_23 : decode bX_deployAll 23 = .ok (.iconst 0, 1) := by decide +kernel
theorem dX_deployAll_24 : decode bX_deployAll 24 = .ok (.ireturn, 1) := by decide +kernel
theorem dX_deployAll_25 : decode bX_deployAll 25 = .ok (.aload_n 0, 1) := by decide +kernel
theorem dX_deployAll_26 : decode bX_deployAll 26 = .ok (.iload_n 1, 1) := by decide +kernel
theorem dX_deployAll_27 : decode bX_deployAll 27 = .ok (.iconst 0, 1) := by decide +kernel
theorem dX_deployAll_28 : decode bX_deployAll 28 = .ok (.iconst 1, 1) := by decide +kernel
theorem dX_deployAll_29 : decode bX_deployAll 29 = .ok (.invokevirtual 221, 3) := by decide +kernel
theorem dX_deployAll_32 : decode bX_deployAll 32 = .ok (.ireturn, 1) := by decide +kernel
theorem dX_showItself_0 : decode bX_showItself 0 = .ok (.aload_n 0, 1) := by decide +kernel
theorem dX_showItself_1 : decode bX_showItself 1 = .ok (.iload_n 1, 1) := by decide +kernel
theorem dX_showItself_2 : decode bX_showItself 2 = .ok (.invokevirtual 156, 3) := by decide +kernel
theorem dX_showItself_5 : decode bX_showItself 5 = .ok (.ifCond .eq 11, 3) := by decide +kernel
theorem dX_showItself_8 : decode bX_showItself 8 = .ok (.aload_n 0, 1) := by decide +kernel
theorem dX_showItself_9 : decode bX_showItself 9 = .ok (.iload_n 1, 1) := by decide +kernel
theorem dX_showItself_10 : decode bX_showItself 10 = .ok (.invokevirtual 218, 3) := by decide +kernel
theorem dX_showItself_13 : decode bX_showItself 13 = .ok (.ifCond .ne 5, 3) := by decide +kernel
theorem dX_showItself_16 : decode bX_showItself 16 = .ok (.iconst 0, 1) := by decide +kernel
theorem dX_showItself_17 : decode bX_showItself 17 = .ok (.ireturn, 1) := by decide +kernel
theorem dX_showItself_18 : decode bX_showItself 18 = .ok (.aload_n 0, 1) := by decide +kernel
theorem dX_showItself_19 : decode bX_showItself 19 = .ok (.iload_n 1, 1) := by decide +kernel
theorem dX_showItself_20 : decode bX_showItself 20 = .ok (.iload_n 1, 1) := by decide +kernel
theorem dX_showItself_21 : decode bX_showItself 21 = .ok (.iload_n 1, 1) := by decide +kernel
theorem dX_showItself_22 : decode bX_showItself 22 = .ok (.iconst 0, 1) := by decide +kernel
theorem dX_showItself_23 : decode bX_showItself 23 = .ok (.invokestatic 225, 3) := by decide +kernel
theorem dX_showItself_26 : decode bX_showItself 26 = .ok (.invokevirtual 228, 3) := by decide +kernel
theorem dX_showItself_29 : decode bX_showItself 29 = .ok (.ireturn, 1) := by decide +kernel
theorem dX_showOthers_0 : decode bX_showOthers 0 = .ok (.iconst 0, 1) := by decide +kernel
theorem dX_showOthers_1 : decode bX_showOthers 1 = .ok (.istore_n 2, 1) := by decide +kernel
theorem dX_showOthers_2 : decode bX_showOthers 2 = .ok (.iconst 0, 1) := by decide +kernel
theorem dX_showOthers_3 : decode bX_showOthers 3 = .ok (.istore_n 3, 1) := by decide +kernel
theorem dX_showOthers_4 : decode bX_showOthers 4 = .ok (.iload_n 3, 1) := by decide +kernel
theorem dX_showOthers_5 : decode bX_showOthers 5 = .ok (.aload_n 0, 1) := by decide +kernel
theorem dX_showOthers_6 : decode bX_showOthers 6 = .ok (.getfield 37, 3) := by decide +kernel
theorem dX_showOthers_9 : decode bX_showOthers 9 = .ok (.if_icmp .ge 49, 3) := by decide +kernel
theorem dX_showOthers_12 : decode bX_showOthers 12 = .ok (.aload_n 0, 1) := by decide +kernel
theorem dX_showOthers_13 : decode bX_showOthers 13 = .ok (.iload_n 3, 1) := by decide +kernel
theorem dX_showOthers_14 : decode bX_showOthers 14 = .ok (.invokevirtual 156, 3) := by decide +kernel
theorem dX_showOthers_17 : decode bX_showOthers 17 = .ok (.ifCond .eq 12, 3) := by decide +kernel
theorem dX_showOthers_20 : decode bX_showOthers 20 = .ok (.aload_n 0, 1) := by decide +kernel
theorem dX_showOthers_21 : decode bX_showOthers 21 = .ok (.iload_n 1, 1) := by decide +kernel
theorem dX_showOthers_22 : decode bX_showOthers 22 = .ok (.iload_n 3, 1) := by decide +kernel
theorem dX_showOthers_23 : decode bX_showOthers 23 = .ok (.invokevirtual 231, 3) := by decide +kernel
theorem dX_showOthers_26 : decode bX_showOthers 26 = .ok (.goto 4, 3) := by decide +kernel
theorem dX_showOthers_29 : decode bX_showOthers 29 = .ok (.iconst 0, 1) := by decide +kernel
theorem dX_showOthers_30 : decode bX_showOthers 30 = .ok (.istore 4, 2) := by decide +kernel
theorem dX_showOthers_32 : decode bX_showOthers 32 = .ok (.iload 4, 2) := by decide +kernel
theorem dX_showOthers_34 : decode bX_showOthers 34 = .ok (.ifCond .eq 18, 3) := by decide +kernel
theorem dX_showOthers_37 : decode bX_showOthers 37 = .ok (.iload_n 2, 1) := by decide +kernel
theorem dX_showOthers_38 : decode bX_showOthers 38 = .ok (.aload_n 0, 1) := by decide +kernel
theorem dX_showOthers_39 : decode bX_showOthers 39 = .ok (.iload_n 1, 1) := by decide +kernel
theorem dX_showOthers_40 : decode bX_showOthers 40 = .ok (.iload_n 3, 1) := by decide +kernel
theorem dX_showOthers_41 : decode bX_showOthers 41 = .ok (.iload_n 1, 1) := by decide +kernel
theorem dX_showOthers_42 : decode bX_showOthers 42 = .ok (.iload 4, 2) := by decide +kernel
theorem dX_showOthers_44 : decode bX_showOthers 44 = .ok (.invokestatic 225, 3) := by decide +kernel
theorem dX_showOthers_47 : decode bX_showOthers 47 = .ok (.invokevirtual 228, 3) := by decide +kernel
theorem dX_showOthers_50 : decode bX_showOthers 50 = .ok (.iadd, 1) := by decide +kernel
theorem dX_showOthers_51 : decode bX_showOthers 51 = .ok (.istore_n 2, 1) := by decide +kernel
theorem dX_showOthers_52 : decode bX_showOthers 52 = .ok (.iinc 3 1, 3) := by decide +kernel
theorem dX_showOthers_55 : decode bX_showOthers 55 = .ok (.goto (-51), 3) := by decide +kernel
theorem dX_showOthers_58 : decode bX_showOthers 58 = .ok (.iload_n 2, 1) := by decide +kernel
theorem dX_showOthers_59 : decode bX_showOthers 59 = .ok (.ireturn, 1) := by decide +kernel
theorem dX_takeAllBack_0 : decode bX_takeAllBack 0 = .ok (.aload_n 0, 1) := by decide +kernel
theorem dX_takeAllBack_1 : decode bX_takeAllBack 1 = .ok (.invokevirtual 185, 3) := by decide +kernel
theorem dX_takeAllBack_4 : decode bX_takeAllBack 4 = .ok (.ifCond .eq 13, 3) := by decide +kernel
theorem dX_takeAllBack_7 : decode bX_takeAllBack 7 = .ok (.aload_n 0, 1) := by decide +kernel
theorem dX_takeAllBack_8 : decode bX_takeAllBack 8 = .ok (.iload_n 1, 1) := by decide +kernel
theorem dX_takeAllBack_9 : decode bX_takeAllBack 9 = .ok (.iconst 1, 1) := by decide +kernel
theorem dX_takeAllBack_10 : decode bX_takeAllBack 10 = .ok (.iconst 3, 1) := by decide +kernel
theorem dX_takeAllBack_11 : decode bX_takeAllBack 11 = .ok (.invokevirtual 221, 3) := by decide +kernel
theorem dX_takeAllBack_14 : decode bX_takeAllBack 14 = .ok (.goto 4, 3) := by decide +kernel
theorem dX_takeAllBack_17 : decode bX_takeAllBack 17 = .ok (.iconst 0, 1) := by decide +kernel
theorem dX_takeAllBack_18 : decode bX_takeAllBack 18 = .ok (.ireturn, 1) := by decide +kernel
theorem dX_doDeeds_0 : decode bX_doDeeds 0 = .ok (.aload_n 0, 1) := by decide +kernel
theorem dX_doDeeds_1 : decode bX_doDeeds 1 = .ok (.iload_n 1, 1) := by decide +kernel
theorem dX_doDeeds_2 : decode bX_doDeeds 2 = .ok (.invokevirtual 206, 3) := by decide +kernel
theorem dX_doDeeds_5 : decode bX_doDeeds 5 = .ok (.istore_n 2, 1) := by decide +kernel
theorem dX_doDeeds_6 : decode bX_doDeeds 6 = .ok (.iload_n 2, 1) := by decide +kernel
theorem dX_doDeeds_7 : decode bX_doDeeds 7 = .ok (.aload_n 0, 1) := by decide +kernel
theorem dX_doDeeds_8 : decode bX_doDeeds 8 = .ok (.iload_n 1, 1) := by decide +kernel
theorem dX_doDeeds_9 : decode bX_doDeeds 9 = .ok (.invokevirtual 209, 3) := by decide +kernel
theorem dX_doDeeds_12 : decode bX_doDeeds 12 = .ok (.iadd, 1) := by decide +kernel
theorem dX_doDeeds_13 : decode bX_doDeeds 13 = .ok (.istore_n 2, 1) := by decide +kernel
theorem dX_doDeeds_14 : decode bX_doDeeds 14 = .ok (.iload_n 2, 1) := by decide +kernel
theorem dX_doDeeds_15 : decode bX_doDeeds 15 = .ok (.aload_n 0, 1) := by decide +kernel
theorem dX_doDeeds_16 : decode bX_doDeeds 16 = .ok (.iload_n 1, 1) := by decide +kernel
theorem dX_doDeeds_17 : decode bX_doDeeds 17 = .ok (.invokevirtual 212, 3) := by decide +kernel
theorem dX_doDeeds_20 : decode bX_doDeeds 20 = .ok (.iadd, 1) := by decide +kernel
theorem dX_doDeeds_21 : decode bX_doDeeds 21 = .ok (.istore_n 2, 1) := by decide +kernel
theorem dX_doDeeds_22 : decode bX_doDeeds 22 = .ok (.iload_n 2, 1) := by decide +kernel
theorem dX_doDeeds_23 : decode bX_doDeeds 23 = .ok (.aload_n 0, 1) := by decide +kernel
theorem dX_doDeeds_24 : decode bX_doDeeds 24 = .ok (.iload_n 1, 1) := by decide +kernel
theorem dX_doDeeds_25 : decode bX_doDeeds 25 = .ok (.invokevirtual 215, 3) := by decide +kernel
theorem dX_doDeeds_28 : decode bX_doDeeds 28 = .ok (.iadd, 1) := by decide +kernel
theorem dX_doDeeds_29 : decode bX_doDeeds 29 = .ok (.istore_n 2, 1) := by decide +kernel
theorem dX_doDeeds_30 : decode bX_doDeeds 30 = .ok (.iload_n 2, 1) := by decide +kernel
theorem dX_doDeeds_31 : decode bX_doDeeds 31 = .ok (.ireturn, 1) := by decide +kernel
theorem dX_leaders_0 : decode bX_leaders 0 = .ok (.aload_n 0, 1) := by decide +kernel
theorem dX_leaders_1 : decode bX_leaders 1 = .ok (.getfield 110, 3) := by decide +kernel
theorem dX_leaders_4 : decode bX_leaders 4 = .ok (.ireturn, 1) := by decide +kernel
theorem dX_conform_0 : decode bX_conform 0 = .ok (.aload_n 0, 1) := by decide +kernel
theorem dX_conform_1 : decode bX_conform 1 = .ok (.iload_n 1, 1) := by decide +kernel
theorem dX_conform_2 : decode bX_conform 2 = .ok (.invokevirtual 52, 3) := by decide +kernel
theorem dX_conform_5 : decode bX_conform 5 = .ok (.ifCond .eq 12, 3) := by decide +kernel
theorem dX_conform_8 : decode bX_conform 8 = .ok (.aload_n 0, 1) := by decide +kernel
theorem dX_conform_9 : decode bX_conform 9 = .ok (.iload_n 1, 1) := by decide +kernel
theorem dX_conform_10 : decode bX_conform 10 = .ok (.invokevirtual 113, 3) := by decide +kernel
theorem dX_conform_13 : decode bX_conform 13 = .ok (.iload_n 2, 1) := by decide +kernel
theorem dX_conform_14 : decode bX_conform 14 = .ok (.if_icmp .ne 5, 3) := by decide +kernel
theorem dX_conform_17 : decode bX_conform 17 = .ok (.iconst 0, 1) := by decide +kernel
theorem dX_conform_18 : decode bX_conform 18 = .ok (.ireturn, 1) := by decide +kernel
theorem dX_conform_19 : decode bX_conform 19 = .ok (.aload_n 0, 1) := by decide +kernel
theorem dX_conform_20 : decode bX_conform 20 = .ok (.dup, 1) := by decide +kernel
theorem dX_conform_21 : decode bX_conform 21 = .ok (.getfield 116, 3) := by decide +kernel
theorem dX_conform_24 : decode bX_conform 24 = .ok (.iconst 1, 1) := by decide +kernel
theorem dX_conform_25 : decode bX_conform 25 = .ok (.iload_n 1, 1) := by decide +kernel
theorem dX_conform_26 : decode bX_conform 26 = .ok (.ishl, 1) := by decide +kernel
theorem dX_conform_27 : decode bX_conform 27 = .ok (.ixor, 1) := by decide +kernel
theorem dX_conform_28 : decode bX_conform 28 = .ok (.putfield 116, 3) := by decide +kernel
theorem dX_conform_31 : decode bX_conform 31 = .ok (.iconst 1, 1) := by decide +kernel
theorem dX_conform_32 : decode bX_conform 32 = .ok (.ireturn, 1) := by decide +kernel
theorem dX_step_0 : decode bX_step 0 = .ok (.aload_n 0, 1) := by decide +kernel
theorem dX_step_1 : decode bX_step 1 = .ok (.getfield 27, 3) := by decide +kernel
theorem dX_step_4 : decode bX_step 4 = .ok (.invokestatic 141, 3) := by decide +kernel
theorem dX_step_7 : decode bX_step 7 = .ok (.istore_n 2, 1) := by decide +kernel
theorem dX_step_8 : decode bX_step 8 = .ok (.aload_n 0, 1) := by decide +kernel
theorem dX_step_9 : decode bX_step 9 = .ok (.iload_n 1, 1) := by decide +kernel
theorem dX_step_10 : decode bX_step 10 = .ok (.invokevirtual 52, 3) := by decide +kernel
theorem dX_step_13 : decode bX_step 13 = .ok (.ifCond .eq 9, 3) := by decide +kernel
theorem dX_step_16 : decode bX_step 16 = .ok (.iload_n 2, 1) := by decide +kernel
theorem dX_step_17 : decode bX_step 17 = .ok (.bipush 6, 2) := by decide +kernel
theorem dX_step_19 : decode bX_step 19 = .ok (.if_icmp .lt 5, 3) := by decide +kernel
theorem dX_step_22 : decode bX_step 22 = .ok (.iconst (-1), 1) := by decide +kernel
theorem dX_step_23 : decode bX_step 23 = .ok (.ireturn, 1) := by decide +kernel
theorem dX_step_24 : decode bX_step 24 = .ok (.aload_n 0, 1) := by decide +kernel
theorem dX_step_25 : decode bX_step 25 = .ok (.aload_n 0, 1) := by decide +kernel
theorem dX_step_26 : decode bX_step 26 = .ok (.getfield 27, 3) := by decide +kernel
theorem dX_step_29 : decode bX_step 29 = .ok (.iload_n 1, 1) := by decide +kernel
theorem dX_step_30 : decode bX_step 30 = .ok (.invokestatic 144, 3) := by decide +kernel
theorem dX_step_33 : decode bX_step 33 = .ok (.putfield 27, 3) := by decide +kernel
theorem dX_step_36 : decode bX_step 36 = .ok (.iload_n 2, 1) := by decide +kernel
theorem dX_step_37 : decode bX_step 37 = .ok (.iconst 1, 1) := by decide +kernel
theorem dX_step_38 : decode bX_step 38 = .ok (.iadd, 1) := by decide +kernel
theorem dX_step_39 : decode bX_step 39 = .ok (.ireturn, 1) := by decide +kernel
theorem dX_clear_0 : decode bX_clear 0 = .ok (.aload_n 0, 1) := by decide +kernel
theorem dX_clear_1 : decode bX_clear 1 = .ok (.iconst 0, 1) := by decide +kernel
theorem dX_clear_2 : decode bX_clear 2 = .ok (.putfield 27, 3) := by decide +kernel
theorem dX_clear_5 : decode bX_clear 5 = .ok (.return_, 1) := by decide +kernel
theorem dX_pass_0 : decode bX_pass 0 = .ok (.iload_n 1, 1) := by decide +kernel
theorem dX_pass_1 : decode bX_pass 1 = .ok (.ifCond .lt 9, 3) := by decide +kernel
theorem dX_pass_4 : decode bX_pass 4 = .ok (.iload_n 1, 1) := by decide +kernel
theorem dX_pass_5 : decode bX_pass 5 = .ok (.bipush 100, 2) := by decide +kernel
theorem dX_pass_7 : decode bX_pass 7 = .ok (.if_icmp .le 5, 3) := by decide +kernel
theorem dX_pass_10 : decode bX_pass 10 = .ok (.iconst (-1), 1) := by decide +kernel
theorem dX_pass_11 : decode bX_pass 11 = .ok (.ireturn, 1) := by decide +kernel
theorem dX_pass_12 : decode bX_pass 12 = .ok (.aload_n 0, 1) := by decide +kernel
theorem dX_pass_13 : decode bX_pass 13 = .ok (.dup, 1) := by decide +kernel
theorem dX_pass_14 : decode bX_pass 14 = .ok (.getfield 94, 3) := by decide +kernel
theorem dX_pass_17 : decode bX_pass 17 = .ok (.iload_n 1, 1) := by decide +kernel
theorem dX_pass_18 : decode bX_pass 18 = .ok (.iadd, 1) := by decide +kernel
theorem dX_pass_19 : decode bX_pass 19 = .ok (.putfield 94, 3) := by decide +kernel
theorem dX_pass_22 : decode bX_pass 22 = .ok (.aload_n 0, 1) := by decide +kernel
theorem dX_pass_23 : decode bX_pass 23 = .ok (.getfield 94, 3) := by decide +kernel
theorem dX_pass_26 : decode bX_pass 26 = .ok (.ireturn, 1) := by decide +kernel
theorem inX_countArcs_X : ∀ x ∈ u_ws RcX TcX 16, x ∈ wX_countArcs := by decide +kernel
theorem inX_countPaid_X : ∀ x ∈ u_ws RcX TcX 16, x ∈ wX_countPaid := by decide +kernel
set_option maxRecDepth 20000 in
theorem gX_deployAll_X_isOver : GoodIn wX_deployAll (wsV RcX 185 RcX yX_isOver wX_isOver) := goodIn_app (goodIn_of _ (by decide +kernel)) (goodIn_r _ [14, 15, 16, 17, 18, 32, 33, 34, 35, 36, 37, 38, 39, 40, 41, 42, 43, 44, 45, 46, 47] (by decide +kernel) (by decide +kernel))
set_option maxRecDepth 20000 in
theorem gX_deployAll_X_isLeader : GoodIn wX_deployAll (wsV RcX 156 RcX yX_isLeader wX_isLeader) := goodIn_app (goodIn_of _ (by decide +kernel)) (goodIn_r _ [19, 20, 21, 22, 4, 23, 24, 25, 32, 33, 34, 35, 36, 37, 38, 39, 40, 41, 42, 43, 44, 45, 46, 47] (by decide +kernel) (by decide +kernel))
set_option maxRecDepth 20000 in
theorem gX_deployAll_X_moveAll : GoodIn wX_deployAll (wsV RcX 221 RcX yX_moveAll wX_moveAll) := goodIn_app (goodIn_of _ (by decide +kernel)) (goodIn_r _ [30, 27, 31, 29, 32, 33, 34, 35, 36, 37, 38, 39, 40, 41, 42, 43, 44, 45, 46, 47] (by decide +kernel) (by decide +kernel))
set_option maxRecDepth 20000 in
theorem gX_deployAll_X_isSecured : GoodIn wX_deployAll (wsV RcX 218 RcX yX_isSecured wX_isSecured) := goodIn_app (goodIn_of _ (by decide +kernel)) (goodIn_r _ [26, 27, 28, 29, 32, 33, 34, 35, 36, 37, 38, 39, 40, 41, 42, 43, 44, 45, 46, 47] (by decide +kernel) (by decide +kernel))
set_option maxRecDepth 20000 in
theorem gX_showItself_X_isLeader : GoodIn wX_showItself (wsV RcX 156 RcX yX_isLeader wX_isLeader) := goodIn_app (goodIn_of _ (by decide +kernel)) (goodIn_r _ [14, 15, 16, 17, 4, 18, 19, 20, 48, 49, 50, 51, 52, 53, 54, 55, 56, 57, 58, 59, 60, 61, 62, 63] (by decide +kernel) (by decide +kernel))
set_option maxRecDepth 20000 in
theorem gX_showItself_X_isSecured : GoodIn wX_showItself (wsV RcX 218 RcX yX_isSecured wX_isSecured) := goodIn_app (goodIn_of _ (by decide +kernel)) (goodIn_r _ [21, 22, 23, 24, 48, 49, 50, 51, 52, 53, 54, 55, 56, 57, 58, 59, 60, 61, 62, 63] (by decide +kernel) (by decide +kernel))
set_option maxRecDepth 20000 in
theorem gX_showItself_R_withFirst : GoodIn wX_showItself (va_wsS RcX 225 yR_withFirst wR_withFirst) := goodIn_app (goodIn_of _ (by decide +kernel)) (goodIn_r _ [25] (by decide +kernel) (by decide +kernel))
set_option maxRecDepth 20000 in
theorem gX_showItself_X_showToAll : GoodIn wX_showItself (wsV RcX 228 RcX yX_showToAll wX_showToAll) := goodIn_app (goodIn_of _ (by decide +kernel)) (goodIn_r _ [26, 27, 28, 29, 4, 22, 23, 24, 30, 31, 32, 33, 34, 35, 36, 37, 38, 10, 39, 40, 41, 42, 43, 44, 45, 46, 47, 18, 48, 49, 50, 51, 52, 53, 54, 55, 56, 57, 58, 59, 60, 61, 62, 63] (by decide +kernel) (by decide +kernel))
theorem inX_showOthers_X : ∀ x ∈ u_ws RcX TcX 16, x ∈ wX_showOthers := by decide +kernel
set_option maxRecDepth 20000 in
theorem gX_showOthers_X_isLeader : GoodIn wX_showOthers (wsV RcX 156 RcX yX_isLeader wX_isLeader) := goodIn_app (goodIn_of _ (by decide +kernel)) (goodIn_r _ [15, 16, 17, 18, 5, 19, 20, 1, 63, 64, 65, 66, 67, 68, 69, 70, 71, 72, 73, 74, 75, 76, 77, 78] (by decide +kernel) (by decide +kernel))
set_option maxRecDepth 20000 in
theorem gX_showOthers_X_shortestLearnt : GoodIn wX_showOthers (wsV RcX 231 RcX yX_shortestLearnt wX_shortestLearnt) := goodIn_app (goodIn_of _ (by decide +kernel)) (goodIn_r _ [21, 22, 23, 24, 25, 26, 5, 27, 28, 11, 29, 30, 31, 32, 33, 34, 16, 17, 18, 35, 36, 20, 1, 37, 38, 39, 40, 41, 63, 64, 65, 66, 67, 68, 69, 70, 71, 72, 73, 74, 75, 76, 77, 78] (by decide +kernel) (by decide +kernel))
set_option maxRecDepth 20000 in
theorem gX_showOthers_R_withFirst : GoodIn wX_showOthers (va_wsS RcX 225 yR_withFirst wR_withFirst) := goodIn_app (goodIn_of _ (by decide +kernel)) (goodIn_r _ [42] (by decide +kernel) (by decide +kernel))
set_option maxRecDepth 20000 in
theorem gX_showOthers_X_showToAll : GoodIn wX_showOthers (wsV RcX 228 RcX yX_showToAll wX_showToAll) := goodIn_app (goodIn_of _ (by decide +kernel)) (goodIn_r _ [43, 44, 45, 46, 5, 22, 47, 48, 49, 50, 51, 52, 53, 54, 55, 29, 30, 11, 56, 57, 58, 59, 41, 60, 61, 62, 35, 19, 63, 64, 65, 66, 67, 68, 69, 70, 71, 72, 73, 74, 75, 76, 77, 78] (by decide +kernel) (by decide +kernel))
set_option maxRecDepth 20000 in
theorem gX_takeAllBack_X_isOver : GoodIn wX_takeAllBack (wsV RcX 185 RcX yX_isOver wX_isOver) := goodIn_app (goodIn_of _ (by decide +kernel)) (goodIn_r _ [8, 9, 10, 11, 12, 17, 18, 19, 20, 21, 22, 23, 24, 25, 26, 27, 28, 29, 30, 31, 32] (by decide +kernel) (by decide +kernel))
set_option maxRecDepth 20000 in
theorem gX_takeAllBack_X_moveAll : GoodIn wX_takeAllBack (wsV RcX 221 RcX yX_moveAll wX_moveAll) := goodIn_app (goodIn_of _ (by decide +kernel)) (goodIn_r _ [13, 14, 15, 16, 17, 18, 19, 20, 21, 22, 23, 24, 25, 26, 27, 28, 29, 30, 31, 32] (by decide +kernel) (by decide +kernel))
set_option maxRecDepth 20000 in
theorem gX_doDeeds_X_deployAll : GoodIn wX_doDeeds (wsV RcX 206 RcX yX_deployAll wX_deployAll) := goodIn_app (goodIn_of _ (by decide +kernel)) (goodIn_r _ [14, 15, 16, 17, 4, 18, 19, 20, 21, 22, 23, 24, 25, 26, 27, 28, 29, 30, 31, 32, 33, 34, 35, 36, 37, 38, 39, 40, 41, 42, 43, 44, 91, 92, 93, 94, 95, 96, 97, 98, 99, 100, 101, 102, 103, 104, 105, 106] (by decide +kernel) (by decide +kernel))
set_option maxRecDepth 20000 in
theorem gX_doDeeds_X_showItself : GoodIn wX_doDeeds (wsV RcX 209 RcX yX_showItself wX_showItself) := goodIn_app (goodIn_of _ (by decide +kernel)) (goodIn_r _ [45, 18, 19, 20, 4, 21, 22, 23, 46, 47, 48, 49, 50, 51, 32, 33, 34, 35, 36, 37, 38, 39, 40, 41, 42, 52, 53, 54, 55, 56, 57, 58, 59, 60, 61, 62, 63, 64, 65, 28, 29, 30, 31, 66, 67, 68, 69, 70, 91, 92, 93, 94, 95, 96, 97, 98, 99, 100, 101, 102, 103, 104, 105, 106] (by decide +kernel) (by decide +kernel))
set_option maxRecDepth 20000 in
theorem gX_doDeeds_X_showOthers : GoodIn wX_doDeeds (wsV RcX 212 RcX yX_showOthers wX_showOthers) := goodIn_app (goodIn_of _ (by decide +kernel)) (goodIn_r _ [71, 38, 18, 19, 20, 4, 72, 73, 74, 46, 47, 48, 49, 50, 51, 32, 33, 34, 35, 36, 37, 75, 40, 44, 76, 77, 78, 79, 80, 64, 65, 81, 82, 83, 84, 70, 85, 86, 87, 88, 89, 66, 52, 53, 54, 55, 56, 41, 42, 57, 58, 59, 60, 61, 62, 63, 28, 29, 30, 31, 67, 68, 69, 91, 92, 93, 94, 95, 96, 97, 98, 99, 100, 101, 102, 103, 104, 105, 106] (by decide +kernel) (by decide +kernel))
set_option maxRecDepth 20000 in
theorem gX_doDeeds_X_takeAllBack : GoodIn wX_doDeeds (wsV RcX 215 RcX yX_takeAllBack wX_takeAllBack) := goodIn_app (goodIn_of _ (by decide +kernel)) (goodIn_r _ [90, 15, 16, 17, 4, 24, 25, 26, 27, 28, 29, 30, 31, 43, 40, 44, 42, 91, 92, 93, 94, 95, 96, 97, 98, 99, 100, 101, 102, 103, 104, 105, 106] (by decide +kernel) (by decide +kernel))
theorem inX_leaders_X : ∀ x ∈ u_ws RcX TcX 16, x ∈ wX_leaders := by decide +kernel
set_option maxRecDepth 20000 in
theorem gX_conform_X_isParty : GoodIn wX_conform (wsV RcX 52 RcX yX_isParty wX_isParty) := goodIn_app (goodIn_of _ (by decide +kernel)) (goodIn_r _ [9, 10, 12, 13, 14, 15, 16, 17, 18, 19, 20, 21, 22, 23, 24, 25, 26, 27] (by decide +kernel) (by decide +kernel))
set_option maxRecDepth 20000 in
theorem gX_conform_X_conforms : GoodIn wX_conform (wsV RcX 113 RcX yX_conforms wX_conforms) := goodIn_app (goodIn_of _ (by decide +kernel)) (goodIn_r _ [11, 8, 12, 13, 14, 15, 16, 17, 18, 19, 20, 21, 22, 23, 24, 25, 26, 27] (by decide +kernel) (by decide +kernel))
theorem inX_conform_X : ∀ x ∈ u_ws RcX TcX 16, x ∈ wX_conform := by decide +kernel
theorem inX_step_X : ∀ x ∈ u_ws RcX TcX 16, x ∈ wX_step := by decide +kernel
set_option maxRecDepth 20000 in
theorem gX_step_R_size : GoodIn wX_step (va_wsS RcX 141 yR_size wR_size) := goodIn_app (goodIn_of _ (by decide +kernel)) (goodIn_r _ [11] (by decide +kernel) (by decide +kernel))
set_option maxRecDepth 20000 in
theorem gX_step_X_isParty : GoodIn wX_step (wsV RcX 52 RcX yX_isParty wX_isParty) := goodIn_app (goodIn_of _ (by decide +kernel)) (goodIn_r _ [12, 13, 16, 17, 18, 19, 20, 21, 22, 23, 24, 25, 26, 27, 28, 29, 30, 31] (by decide +kernel) (by decide +kernel))
set_option maxRecDepth 20000 in
theorem gX_step_R_withLast : GoodIn wX_step (va_wsS RcX 144 yR_withLast wR_withLast) := goodIn_app (goodIn_of _ (by decide +kernel)) (goodIn_r _ [14, 15, 3, 4, 11] (by decide +kernel) (by decide +kernel))
theorem inX_clear_X : ∀ x ∈ u_ws RcX TcX 16, x ∈ wX_clear := by decide +kernel
theorem inX_pass_X : ∀ x ∈ u_ws RcX TcX 16, x ∈ wX_pass := by decide +kernel

theorem dM_state_0 : decode bM_state 0 = .ok (.aload_n 0, 1) := by decide +kernel
theorem dM_state_1 : decode bM_state 1 = .ok (.iconst 0, 1) := by decide +kernel
theorem dM_state_2 : decode bM_state 2 = .ok (.putfield 39, 3) := by decide +kernel
theorem dM_state_5 : decode bM_state 5 = .ok (.aload_n 0, 1) := by decide +kernel
theorem dM_state_6 : decode bM_state 6 = .ok (.iload_n 1, 1) := by decide +kernel
theorem dM_state_7 : decode bM_state 7 = .ok (.invokevirtual 130, 3) := by decide +kernel
theorem dM_state_10 : decode bM_state 10 = .ok (.ifCond .eq 12, 3) := by decide +kernel
theorem dM_state_13 : decode bM_state 13 = .ok (.aload_n 0, 1) := by decide +kernel
theorem dM_state_14 : decode bM_state 14 = .ok (.getfield 16, 3) := by decide +kernel
theorem dM_state_17 : decode bM_state 17 = .ok (.iload_n 1, 1) := by decide +kernel
theorem dM_state_18 : decode bM_state 18 = .ok (.iaload, 1) := by decide +kernel
theorem dM_state_19 : decode bM_state 19 = .ok (.goto 8, 3) := by decide +kernel
theorem dM_state_22 : decode bM_state 22 = .ok (.aload_n 0, 1) := by decide +kernel
theorem dM_state_23 : decode bM_state 23 = .ok (.iconst 1, 1) := by decide +kernel
theorem dM_state_24 : decode bM_state 24 = .ok (.invokevirtual 53, 3) := by decide +kernel
theorem dM_state_27 : decode bM_state 27 = .ok (.ireturn, 1) := by decide +kernel
theorem dM_open_0 : decode bM_open 0 = .ok (.aload_n 0, 1) := by decide +kernel
theorem dM_open_1 : decode bM_open 1 = .ok (.iconst 0, 1) := by decide +kernel
theorem dM_open_2 : decode bM_open 2 = .ok (.putfield 39, 3) := by decide +kernel
theorem dM_open_5 : decode bM_open 5 = .ok (.aload_n 0, 1) := by decide +kernel
theorem dM_open_6 : decode bM_open 6 = .ok (.iload_n 1, 1) := by decide +kernel
theorem dM_open_7 : decode bM_open 7 = .ok (.invokevirtual 130, 3) := by decide +kernel
theorem dM_open_10 : decode bM_open 10 = .ok (.ifCond .eq 12, 3) := by decide +kernel
theorem dM_open_13 : decode bM_open 13 = .ok (.aload_n 0, 1) := by decide +kernel
theorem dM_open_14 : decode bM_open 14 = .ok (.getfield 19, 3) := by decide +kernel
theorem dM_open_17 : decode bM_open 17 = .ok (.iload_n 1, 1) := by decide +kernel
theorem dM_open_18 : decode bM_open 18 = .ok (.iaload, 1) := by decide +kernel
theorem dM_open_19 : decode bM_open 19 = .ok (.goto 8, 3) := by decide +kernel
theorem dM_open_22 : decode bM_open 22 = .ok (.aload_n 0, 1) := by decide +kernel
theorem dM_open_23 : decode bM_open 23 = .ok (.iconst 1, 1) := by decide +kernel
theorem dM_open_24 : decode bM_open 24 = .ok (.invokevirtual 53, 3) := by decide +kernel
theorem dM_open_27 : decode bM_open 27 = .ok (.ireturn, 1) := by decide +kernel
theorem dM_key_0 : decode bM_key 0 = .ok (.aload_n 0, 1) := by decide +kernel
theorem dM_key_1 : decode bM_key 1 = .ok (.iconst 0, 1) := by decide +kernel
theorem dM_key_2 : decode bM_key 2 = .ok (.putfield 39, 3) := by decide +kernel
theorem dM_key_5 : decode bM_key 5 = .ok (.aload_n 0, 1) := by decide +kernel
theorem dM_key_6 : decode bM_key 6 = .ok (.iload_n 1, 1) := by decide +kernel
theorem dM_key_7 : decode bM_key 7 = .ok (.invokevirtual 130, 3) := by decide +kernel
theorem dM_key_10 : decode bM_key 10 = .ok (.ifCond .ne 9, 3) := by decide +kernel
theorem dM_key_13 : decode bM_key 13 = .ok (.aload_n 0, 1) := by decide +kernel
theorem dM_key_14 : decode bM_key 14 = .ok (.iconst 1, 1) := by decide +kernel
theorem dM_key_15 : decode bM_key 15 = .ok (.invokevirtual 53, 3) := by decide +kernel
theorem dM_key_18 : decode bM_key 18 = .ok (.ireturn, 1) := by decide +kernel
theorem dM_key_19 : decode bM_key 19 = .ok (.aload_n 0, 1) := by decide +kernel
theorem dM_key_20 : decode bM_key 20 = .ok (.iload_n 2, 1) := by decide +kernel
theorem dM_key_21 : decode bM_key 21 = .ok (.invokevirtual 45, 3) := by decide +kernel
theorem dM_key_24 : decode bM_key 24 = .ok (.ifCond .eq 16, 3) := by decide +kernel
theorem dM_key_27 : decode bM_key 27 = .ok (.aload_n 0, 1) := by decide +kernel
theorem dM_key_28 : decode bM_key 28 = .ok (.getfield 19, 3) := by decide +kernel
theorem dM_key_31 : decode bM_key 31 = .ok (.iload_n 1, 1) := by decide +kernel
theorem dM_key_32 : decode bM_key 32 = .ok (.iaload, 1) := by decide +kernel
theorem dM_key_33 : decode bM_key 33 = .ok (.iload_n 2, 1) := by decide +kernel
theorem dM_key_34 : decode bM_key 34 = .ok (.invokestatic 49, 3) := by decide +kernel
theorem dM_key_37 : decode bM_key 37 = .ok (.ifCond .ne 5, 3) := by decide +kernel
theorem dM_key_40 : decode bM_key 40 = .ok (.iconst (-1), 1) := by decide +kernel
theorem dM_key_41 : decode bM_key 41 = .ok (.ireturn, 1) := by decide +kernel
theorem dM_key_42 : decode bM_key 42 = .ok (.aload_n 0, 1) := by decide +kernel
theorem dM_key_43 : decode bM_key 43 = .ok (.getfield 22, 3) := by decide +kernel
theorem dM_key_46 : decode bM_key 46 = .ok (.bipush 6, 2) := by decide +kernel
theorem dM_key_48 : decode bM_key 48 = .ok (.iload_n 1, 1) := by decide +kernel
theorem dM_key_49 : decode bM_key 49 = .ok (.imul, 1) := by decide +kernel
theorem dM_key_50 : decode bM_key 50 = .ok (.iload_n 2, 1) := by decide +kernel
theorem dM_key_51 : decode bM_key 51 = .ok (.iadd, 1) := by decide +kernel
theorem dM_key_52 : decode bM_key 52 = .ok (.iaload, 1) := by decide +kernel
theorem dM_key_53 : decode bM_key 53 = .ok (.istore 4, 2) := by decide +kernel
theorem dM_key_55 : decode bM_key 55 = .ok (.iload_n 3, 1) := by decide +kernel
theorem dM_key_56 : decode bM_key 56 = .ok (.ifCond .lt 21, 3) := by decide +kernel
theorem dM_key_59 : decode bM_key 59 = .ok (.iload_n 3, 1) := by decide +kernel
theorem dM_key_60 : decode bM_key 60 = .ok (.iload 4, 2) := by decide +kernel
theorem dM_key_62 : decode bM_key 62 = .ok (.invokestatic 89, 3) := by decide +kernel
theorem dM_key_65 : decode bM_key 65 = .ok (.if_icmp .ge 12, 3) := by decide +kernel
theorem dM_key_68 : decode bM_key 68 = .ok (.iload 4, 2) := by decide +kernel
theorem dM_key_70 : decode bM_key 70 = .ok (.iload_n 3, 1) := by decide +kernel
theorem dM_key_71 : decode bM_key 71 = .ok (.invokestatic 92, 3) := by decide +kernel
theorem dM_key_74 : decode bM_key 74 = .ok (.goto 4, 3) := by decide +kernel
theorem dM_key_77 : decode bM_key 77 = .ok (.iconst (-1), 1) := by decide +kernel
theorem dM_key_78 : decode bM_key 78 = .ok (.ireturn, 1) := by decide +kernel
theorem dM_outcome_0 : decode bM_outcome 0 = .ok (.aload_n 0, 1) := by decide +kernel
theorem dM_outcome_1 : decode bM_outcome 1 = .ok (.iconst 0, 1) := by decide +kernel
theorem dM_outcome_2 : decode bM_outcome 2 = .ok (.putfield 39, 3) := by decide +kernel
theorem dM_outcome_5 : decode bM_outcome 5 = .ok (.aload_n 0, 1) := by decide +kernel
theorem dM_outcome_6 : decode bM_outcome 6 = .ok (.iload_n 1, 1) := by decide +kernel
theorem dM_outcome_7 : decode bM_outcome 7 = .ok (.invokevirtual 45, 3) := by decide +kernel
theorem dM_outcome_10 : decode bM_outcome 10 = .ok (.ifCond .ne 9, 3) := by decide +kernel
theorem dM_outcome_13 : decode bM_outcome 13 = .ok (.aload_n 0, 1) := by decide +kernel
theorem dM_outcome_14 : decode bM_outcome 14 = .ok (.iconst 1, 1) := by decide +kernel
theorem dM_outcome_15 : decode bM_outcome 15 = .ok (.invokevirtual 53, 3) := by decide +kernel
theorem dM_outcome_18 : decode bM_outcome 18 = .ok (.ireturn, 1) := by decide +kernel
theorem dM_outcome_19 : decode bM_outcome 19 = .ok (.iconst 0, 1) := by decide +kernel
theorem dM_outcome_20 : decode bM_outcome 20 = .ok (.istore_n 2, 1) := by decide +kernel
theorem dM_outcome_21 : decode bM_outcome 21 = .ok (.iconst 0, 1) := by decide +kernel
theorem dM_outcome_22 : decode bM_outcome 22 = .ok (.istore_n 3, 1) := by decide +kernel
theorem dM_outcome_23 : decode bM_outcome 23 = .ok (.iconst 0, 1) := by decide +kernel
theorem dM_outcome_24 : decode bM_outcome 24 = .ok (.istore 4, 2) := by decide +kernel
theorem dM_outcome_26 : decode bM_outcome 26 = .ok (.iconst 0, 1) := by decide +kernel
theorem dM_outcome_27 : decode bM_outcome 27 = .ok (.istore 5, 2) := by decide +kernel
theorem dM_outcome_29 : decode bM_outcome 29 = .ok (.iconst 0, 1) := by decide +kernel
theorem dM_outcome_30 : decode bM_outcome 30 = .ok (.istore 6, 2) := by decide +kernel
theorem dM_outcome_32 : decode bM_outcome 32 = .ok (.iload 6, 2) := by decide +kernel
theorem dM_outcome_34 : decode bM_outcome 34 = .ok (.aload_n 0, 1) := by decide +kernel
theorem dM_outcome_35 : decode bM_outcome 35 = .ok (.getfield 42, 3) := by decide +kernel
theorem dM_outcome_38 : decode bM_outcome 38 = .ok (.if_icmp .ge 93, 3) := by decide +kernel
theorem dM_outcome_41 : decode bM_outcome 41 = .ok (.aload_n 0, 1) := by decide +kernel
theorem dM_outcome_42 : decode bM_outcome 42 = .ok (.getfield 16, 3) := by decide +kernel
theorem dM_outcome_45 : decode bM_outcome 45 = .ok (.iload 6, 2) := by decide +kernel
theorem dM_outcome_47 : decode bM_outcome 47 = .ok (.iaload, 1) := by decide +kernel
theorem dM_outcome_48 : decode bM_outcome 48 = .ok (.iconst 2, 1) := by decide +kernel
theorem dM_outcome_49 : decode bM_outcome 49 = .ok (.if_icmp .ne 7, 3) := by decide +kernel
theorem dM_outcome_52 : decode bM_outcome 52 = .ok (.iconst 1, 1) := by decide +kernel
theorem dM_outcome_53 : decode bM_outcome 53 = .ok (.goto 4, 3) := by decide +kernel
theorem dM_outcome_56 : decode bM_outcome 56 = .ok (.iconst 0, 1) := by decide +kernel
theorem dM_outcome_57 : decode bM_outcome 57 = .ok (.istore 7, 2) := by decide +kernel
theorem dM_outcome_59 : decode bM_outcome 59 = .ok (.aload_n 0, 1) := by decide +kernel
theorem dM_outcome_60 : decode bM_outcome 60 = .ok (.getfield 13, 3) := by decide +kernel
theorem dM_outcome_63 : decode bM_outcome 63 = .ok (.iload 6, 2) := by decide +kernel
theorem dM_outcome_65 : decode bM_outcome 65 = .ok (.iaload, 1) := by decide +kernel
theorem dM_outcome_66 : decode bM_outcome 66 = .ok (.iload_n 1, 1) := by decide +kernel
theorem dM_outcome_67 : decode bM_outcome 67 = .ok (.if_icmp .ne 6, 3) := by decide +kernel
theorem dM_outcome_70 : decode bM_outcome 70 = .ok (.iinc 4 1, 3) := by decide +kernel
theorem dM_outcome_73 : decode bM_outcome 73 = .ok (.aload_n 0, 1) := by decide +kernel
theorem dM_outcome_74 : decode bM_outcome 74 = .ok (.getfield 7, 3) := by decide +kernel
theorem dM_outcome_77 : decode bM_outcome 77 = .ok (.iload 6, 2) := by decide +kernel
theorem dM_outcome_79 : decode bM_outcome 79 = .ok (.iaload, 1) := by decide +kernel
theorem dM_outcome_80 : decode bM_outcome 80 = .ok (.iload_n 1, 1) := by decide +kernel
theorem dM_outcome_81 : decode bM_outcome 81 = .ok (.if_icmp .ne 6, 3) := by decide +kernel
theorem dM_outcome_84 : decode bM_outcome 84 = .ok (.iinc 5 1, 3) := by decide +kernel
theorem dM_outcome_87 : decode bM_outcome 87 = .ok (.aload_n 0, 1) := by decide +kernel
theorem dM_outcome_88 : decode bM_outcome 88 = .ok (.getfield 13, 3) := by decide +kernel
theorem dM_outcome_91 : decode bM_outcome 91 = .ok (.iload 6, 2) := by decide +kernel
theorem dM_outcome_93 : decode bM_outcome 93 = .ok (.iaload, 1) := by decide +kernel
theorem dM_outcome_94 : decode bM_outcome 94 = .ok (.iload_n 1, 1) := by decide +kernel
theorem dM_outcome_95 : decode bM_outcome 95 = .ok (.if_icmp .ne 11, 3) := by decide +kernel
theorem dM_outcome_98 : decode bM_outcome 98 = .ok (.iload 7, 2) := by decide +kernel
theorem dM_outcome_100 : decode bM_outcome 100 = .ok (.ifCond .eq 6, 3) := by decide +kernel
theorem dM_outcome_103 : decode bM_outcome 103 = .ok (.iinc 2 1, 3) := by decide +kernel
theorem dM_outcome_106 : decode bM_outcome 106 = .ok (.aload_n 0, 1) := by decide +kernel
theorem dM_outcome_107 : decode bM_outcome 107 = .ok (.getfield 7, 3) := by decide +kernel
theorem dM_outcome_110 : decode bM_outcome 110 = .ok (.iload 6, 2) := by decide +kernel
theorem dM_outcome_112 : decode bM_outcome 112 = .ok (.iaload, 1) := by decide +kernel
theorem dM_outcome_113 : decode bM_outcome 113 = .ok (.iload_n 1, 1) := by decide +kernel
theorem dM_outcome_114 : decode bM_outcome 114 = .ok (.if_icmp .ne 11, 3) := by decide +kernel
theorem dM_outcome_117 : decode bM_outcome 117 = .ok (.iload 7, 2) := by decide +kernel
theorem dM_outcome_119 : decode bM_outcome 119 = .ok (.ifCond .eq 6, 3) := by decide +kernel
theorem dM_outcome_122 : decode bM_outcome 122 = .ok (.iinc 3 1, 3) := by decide +kernel
theorem dM_outcome_125 : decode bM_outcome 125 = .ok (.iinc 6 1, 3) := by decide +kernel
theorem dM_outcome_128 : decode bM_outcome 128 = .ok (.goto (-96), 3) := by decide +kernel
theorem dM_outcome_131 : decode bM_outcome 131 = .ok (.iload_n 2, 1) := by decide +kernel
theorem dM_outcome_132 : decode bM_outcome 132 = .ok (.ifCond .ne 9, 3) := by decide +kernel
theorem dM_outcome_135 : decode bM_outcome 135 = .ok (.iload_n 3, 1) := by decide +kernel
theorem dM_outcome_136 : decode bM_outcome 136 = .ok (.ifCond .ne 5, 3) := by decide +kernel
theorem dM_outcome_139 : decode bM_outcome 139 = .ok (.iconst 0, 1) := by decide +kernel
theorem dM_outcome_140 : decode bM_outcome 140 = .ok (.ireturn, 1) := by decide +kernel
theorem dM_outcome_141 : decode bM_outcome 141 = .ok (.iload_n 2, 1) := by decide +kernel
theorem dM_outcome_142 : decode bM_outcome 142 = .ok (.iload 4, 2) := by decide +kernel
theorem dM_outcome_144 : decode bM_outcome 144 = .ok (.if_icmp .ne 15, 3) := by decide +kernel
theorem dM_outcome_147 : decode bM_outcome 147 = .ok (.iload_n 3, 1) := by decide +kernel
theorem dM_outcome_148 : decode bM_outcome 148 = .ok (.iload 5, 2) := by decide +kernel
theorem dM_outcome_150 : decode bM_outcome 150 = .ok (.if_icmp .ne 7, 3) := by decide +kernel
theorem dM_outcome_153 : decode bM_outcome 153 = .ok (.iconst 1, 1) := by decide +kernel
theorem dM_outcome_154 : decode bM_outcome 154 = .ok (.goto 4, 3) := by decide +kernel
theorem dM_outcome_157 : decode bM_outcome 157 = .ok (.iconst 2, 1) := by decide +kernel
theorem dM_outcome_158 : decode bM_outcome 158 = .ok (.ireturn, 1) := by decide +kernel
theorem dM_outcome_159 : decode bM_outcome 159 = .ok (.iload_n 2, 1) := by decide +kernel
theorem dM_outcome_160 : decode bM_outcome 160 = .ok (.ifCond .le 11, 3) := by decide +kernel
theorem dM_outcome_163 : decode bM_outcome 163 = .ok (.iload_n 3, 1) := by decide +kernel
theorem dM_outcome_164 : decode bM_outcome 164 = .ok (.ifCond .ne 7, 3) := by decide +kernel
theorem dM_outcome_167 : decode bM_outcome 167 = .ok (.iconst 3, 1) := by decide +kernel
theorem dM_outcome_168 : decode bM_outcome 168 = .ok (.goto 4, 3) := by decide +kernel
theorem dM_outcome_171 : decode bM_outcome 171 = .ok (.iconst 4, 1) := by decide +kernel
theorem dM_outcome_172 : decode bM_outcome 172 = .ok (.ireturn, 1) := by decide +kernel
theorem dM_arc_0 : decode bM_arc 0 = .ok (.aload_n 0, 1) := by decide +kernel
theorem dM_arc_1 : decode bM_arc 1 = .ok (.iconst 0, 1) := by decide +kernel
theorem dM_arc_2 : decode bM_arc 2 = .ok (.putfield 39, 3) := by decide +kernel
theorem dM_arc_5 : decode bM_arc 5 = .ok (.aload_n 0, 1) := by decide +kernel
theorem dM_arc_6 : decode bM_arc 6 = .ok (.iload_n 1, 1) := by decide +kernel
theorem dM_arc_7 : decode bM_arc 7 = .ok (.invokevirtual 45, 3) := by decide +kernel
theorem dM_arc_10 : decode bM_arc 10 = .ok (.ifCond .eq 29, 3) := by decide +kernel
theorem dM_arc_13 : decode bM_arc 13 = .ok (.aload_n 0, 1) := by decide +kernel
theorem dM_arc_14 : decode bM_arc 14 = .ok (.iload_n 2, 1) := by decide +kernel
theorem dM_arc_15 : decode bM_arc 15 = .ok (.invokevirtual 45, 3) := by decide +kernel
theorem dM_arc_18 : decode bM_arc 18 = .ok (.ifCond .eq 21, 3) := by decide +kernel
theorem dM_arc_21 : decode bM_arc 21 = .ok (.iload_n 1, 1) := by decide +kernel
theorem dM_arc_22 : decode bM_arc 22 = .ok (.iload_n 2, 1) := by decide +kernel
theorem dM_arc_23 : decode bM_arc 23 = .ok (.if_icmp .eq 16, 3) := by decide +kernel
theorem dM_arc_26 : decode bM_arc 26 = .ok (.aload_n 0, 1) := by decide +kernel
theorem dM_arc_27 : decode bM_arc 27 = .ok (.getfield 25, 3) := by decide +kernel
theorem dM_arc_30 : decode bM_arc 30 = .ok (.iload_n 1, 1) := by decide +kernel
theorem dM_arc_31 : decode bM_arc 31 = .ok (.iaload, 1) := by decide +kernel
theorem dM_arc_32 : decode bM_arc 32 = .ok (.iload_n 2, 1) := by decide +kernel
theorem dM_arc_33 : decode bM_arc 33 = .ok (.invokestatic 49, 3) := by decide +kernel
theorem dM_arc_36 : decode bM_arc 36 = .ok (.ifCond .eq 9, 3) := by decide +kernel
theorem dM_arc_39 : decode bM_arc 39 = .ok (.aload_n 0, 1) := by decide +kernel
theorem dM_arc_40 : decode bM_arc 40 = .ok (.iconst 1, 1) := by decide +kernel
theorem dM_arc_41 : decode bM_arc 41 = .ok (.invokevirtual 53, 3) := by decide +kernel
theorem dM_arc_44 : decode bM_arc 44 = .ok (.ireturn, 1) := by decide +kernel
theorem dM_arc_45 : decode bM_arc 45 = .ok (.aload_n 0, 1) := by decide +kernel
theorem dM_arc_46 : decode bM_arc 46 = .ok (.getfield 57, 3) := by decide +kernel
theorem dM_arc_49 : decode bM_arc 49 = .ok (.ifCond .ne 12, 3) := by decide +kernel
theorem dM_arc_52 : decode bM_arc 52 = .ok (.aload_n 0, 1) := by decide +kernel
theorem dM_arc_53 : decode bM_arc 53 = .ok (.getfield 42, 3) := by decide +kernel
theorem dM_arc_56 : decode bM_arc 56 = .ok (.bipush 14, 2) := by decide +kernel
theorem dM_arc_58 : decode bM_arc 58 = .ok (.if_icmp .ne 9, 3) := by decide +kernel
theorem dM_arc_61 : decode bM_arc 61 = .ok (.aload_n 0, 1) := by decide +kernel
theorem dM_arc_62 : decode bM_arc 62 = .ok (.iconst 2, 1) := by decide +kernel
theorem dM_arc_63 : decode bM_arc 63 = .ok (.invokevirtual 53, 3) := by decide +kernel
theorem dM_arc_66 : decode bM_arc 66 = .ok (.ireturn, 1) := by decide +kernel
theorem dM_arc_67 : decode bM_arc 67 = .ok (.aload_n 0, 1) := by decide +kernel
theorem dM_arc_68 : decode bM_arc 68 = .ok (.getfield 7, 3) := by decide +kernel
theorem dM_arc_71 : decode bM_arc 71 = .ok (.aload_n 0, 1) := by decide +kernel
theorem dM_arc_72 : decode bM_arc 72 = .ok (.getfield 42, 3) := by decide +kernel
theorem dM_arc_75 : decode bM_arc 75 = .ok (.iload_n 1, 1) := by decide +kernel
theorem dM_arc_76 : decode bM_arc 76 = .ok (.iastore, 1) := by decide +kernel
theorem dM_arc_77 : decode bM_arc 77 = .ok (.aload_n 0, 1) := by decide +kernel
theorem dM_arc_78 : decode bM_arc 78 = .ok (.getfield 13, 3) := by decide +kernel
theorem dM_arc_81 : decode bM_arc 81 = .ok (.aload_n 0, 1) := by decide +kernel
theorem dM_arc_82 : decode bM_arc 82 = .ok (.getfield 42, 3) := by decide +kernel
theorem dM_arc_85 : decode bM_arc 85 = .ok (.iload_n 2, 1) := by decide +kernel
theorem dM_arc_86 : decode bM_arc 86 = .ok (.iastore, 1) := by decide +kernel
theorem dM_arc_87 : decode bM_arc 87 = .ok (.aload_n 0, 1) := by decide +kernel
theorem dM_arc_88 : decode bM_arc 88 = .ok (.getfield 25, 3) := by decide +kernel
theorem dM_arc_91 : decode bM_arc 91 = .ok (.iload_n 1, 1) := by decide +kernel
theorem dM_arc_92 : decode bM_arc 92 = .ok (.dup2, 1) := by decide +kernel
theorem dM_arc_93 : decode bM_arc 93 = .ok (.iaload, 1) := by decide +kernel
theorem dM_arc_94 : decode bM_arc 94 = .ok (.iconst 1, 1) := by decide +kernel
theorem dM_arc_95 : decode bM_arc 95 = .ok (.iload_n 2, 1) := by decide +kernel
theorem dM_arc_96 : decode bM_arc 96 = .ok (.ishl, 1) := by decide +kernel
theorem dM_arc_97 : decode bM_arc 97 = .ok (.ior, 1) := by decide +kernel
theorem dM_arc_98 : decode bM_arc 98 = .ok (.iastore, 1) := by decide +kernel
theorem dM_arc_99 : decode bM_arc 99 = .ok (.aload_n 0, 1) := by decide +kernel
theorem dM_arc_100 : decode bM_arc 100 = .ok (.dup, 1) := by decide +kernel
theorem dM_arc_101 : decode bM_arc 101 = .ok (.getfield 42, 3) := by decide +kernel
theorem dM_arc_104 : decode bM_arc 104 = .ok (.iconst 1, 1) := by decide +kernel
theorem dM_arc_105 : decode bM_arc 105 = .ok (.iadd, 1) := by decide +kernel
theorem dM_arc_106 : decode bM_arc 106 = .ok (.putfield 42, 3) := by decide +kernel
theorem dM_arc_109 : decode bM_arc 109 = .ok (.aload_n 0, 1) := by decide +kernel
theorem dM_arc_110 : decode bM_arc 110 = .ok (.getfield 42, 3) := by decide +kernel
theorem dM_arc_113 : decode bM_arc 113 = .ok (.iconst 1, 1) := by decide +kernel
theorem dM_arc_114 : decode bM_arc 114 = .ok (.isub, 1) := by decide +kernel
theorem dM_arc_115 : decode bM_arc 115 = .ok (.ireturn, 1) := by decide +kernel
theorem dM_isPath_0 : decode bM_isPath 0 = .ok (.aload_n 0, 1) := by decide +kernel
theorem dM_isPath_1 : decode bM_isPath 1 = .ok (.getfield 133, 3) := by decide +kernel
theorem dM_isPath_4 : decode bM_isPath 4 = .ok (.invokestatic 89, 3) := by decide +kernel
theorem dM_isPath_7 : decode bM_isPath 7 = .ok (.istore_n 2, 1) := by decide +kernel
theorem dM_isPath_8 : decode bM_isPath 8 = .ok (.iload_n 2, 1) := by decide +kernel
theorem dM_isPath_9 : decode bM_isPath 9 = .ok (.ifCond .eq 49, 3) := by decide +kernel
theorem dM_isPath_12 : decode bM_isPath 12 = .ok (.aload_n 0, 1) := by decide +kernel
theorem dM_isPath_13 : decode bM_isPath 13 = .ok (.getfield 133, 3) := by decide +kernel
theorem dM_isPath_16 : decode bM_isPath 16 = .ok (.iconst 0, 1) := by decide +kernel
theorem dM_isPath_17 : decode bM_isPath 17 = .ok (.invokestatic 92, 3) := by decide +kernel
theorem dM_isPath_20 : decode bM_isPath 20 = .ok (.iload_n 1, 1) := by decide +kernel
theorem dM_isPath_21 : decode bM_isPath 21 = .ok (.if_icmp .ne 37, 3) := by decide +kernel
theorem dM_isPath_24 : decode bM_isPath 24 = .ok (.aload_n 0, 1) := by decide +kernel
theorem dM_isPath_25 : decode bM_isPath 25 = .ok (.getfield 133, 3) := by decide +kernel
theorem dM_isPath_28 : decode bM_isPath 28 = .ok (.invokestatic 121, 3) := by decide +kernel
theorem dM_isPath_31 : decode bM_isPath 31 = .ok (.invokestatic 61, 3) := by decide +kernel
theorem dM_isPath_34 : decode bM_isPath 34 = .ok (.iload_n 2, 1) := by decide +kernel
theorem dM_isPath_35 : decode bM_isPath 35 = .ok (.if_icmp .ne 23, 3) := by decide +kernel
theorem dM_isPath_38 : decode bM_isPath 38 = .ok (.aload_n 0, 1) := by decide +kernel
theorem dM_isPath_39 : decode bM_isPath 39 = .ok (.getfield 86, 3) := by decide +kernel
theorem dM_isPath_42 : decode bM_isPath 42 = .ok (.aload_n 0, 1) := by decide +kernel
theorem dM_isPath_43 : decode bM_isPath 43 = .ok (.getfield 133, 3) := by decide +kernel
theorem dM_isPath_46 : decode bM_isPath 46 = .ok (.iload_n 2, 1) := by decide +kernel
theorem dM_isPath_47 : decode bM_isPath 47 = .ok (.iconst 1, 1) := by decide +kernel
theorem dM_isPath_48 : decode bM_isPath 48 = .ok (.isub, 1) := by decide +kernel
theorem dM_isPath_49 : decode bM_isPath 49 = .ok (.invokestatic 92, 3) := by decide +kernel
theorem dM_isPath_52 : decode bM_isPath 52 = .ok (.invokestatic 49, 3) := by decide +kernel
theorem dM_isPath_55 : decode bM_isPath 55 = .ok (.ifCond .ne 5, 3) := by decide +kernel
theorem dM_isPath_58 : decode bM_isPath 58 = .ok (.iconst 0, 1) := by decide +kernel
theorem dM_isPath_59 : decode bM_isPath 59 = .ok (.ireturn, 1) := by decide +kernel
theorem dM_isPath_60 : decode bM_isPath 60 = .ok (.iconst 1, 1) := by decide +kernel
theorem dM_isPath_61 : decode bM_isPath 61 = .ok (.istore_n 3, 1) := by decide +kernel
theorem dM_isPath_62 : decode bM_isPath 62 = .ok (.iconst 0, 1) := by decide +kernel
theorem dM_isPath_63 : decode bM_isPath 63 = .ok (.istore 4, 2) := by decide +kernel
theorem dM_isPath_65 : decode bM_isPath 65 = .ok (.iload 4, 2) := by decide +kernel
theorem dM_isPath_67 : decode bM_isPath 67 = .ok (.iconst 1, 1) := by decide +kernel
theorem dM_isPath_68 : decode bM_isPath 68 = .ok (.iadd, 1) := by decide +kernel
theorem dM_isPath_69 : decode bM_isPath 69 = .ok (.iload_n 2, 1) := by decide +kernel
theorem dM_isPath_70 : decode bM_isPath 70 = .ok (.if_icmp .ge 50, 3) := by decide +kernel
theorem dM_isPath_73 : decode bM_isPath 73 = .ok (.iload_n 3, 1) := by decide +kernel
theorem dM_isPath_74 : decode bM_isPath 74 = .ok (.ifCond .eq 38, 3) := by decide +kernel
theorem dM_isPath_77 : decode bM_isPath 77 = .ok (.aload_n 0, 1) := by decide +kernel
theorem dM_isPath_78 : decode bM_isPath 78 = .ok (.getfield 25, 3) := by decide +kernel
theorem dM_isPath_81 : decode bM_isPath 81 = .ok (.aload_n 0, 1) := by decide +kernel
theorem dM_isPath_82 : decode bM_isPath 82 = .ok (.getfield 133, 3) := by decide +kernel
theorem dM_isPath_85 : decode bM_isPath 85 = .ok (.iload 4, 2) := by decide +kernel
theorem dM_isPath_87 : decode bM_isPath 87 = .ok (.invokestatic 92, 3) := by decide +kernel
theorem dM_isPath_90 : decode bM_isPath 90 = .ok (.iaload, 1) := by decide +kernel
theorem dM_isPath_91 : decode bM_isPath 91 = .ok (.aload_n 0, 1) := by decide +kernel
theorem dM_isPath_92 : decode bM_isPath 92 = .ok (.getfield 133, 3) := by decide +kernel
theorem dM_isPath_95 : decode bM_isPath 95 = .ok (.iload 4, 2) := by decide +kernel
theorem dM_isPath_97 : decode bM_isPath 97 = .ok (.iconst 1, 1) := by decide +kernel
theorem dM_isPath_98 : decode bM_isPath 98 = .ok (.iadd, 1) := by decide +kernel
theorem dM_isPath_99 : decode bM_isPath 99 = .ok (.invokestatic 92, 3) := by decide +kernel
theorem dM_isPath_102 : decode bM_isPath 102 = .ok (.invokestatic 49, 3) := by decide +kernel
theorem dM_isPath_105 : decode bM_isPath 105 = .ok (.ifCond .eq 7, 3) := by decide +kernel
theorem dM_isPath_108 : decode bM_isPath 108 = .ok (.iconst 1, 1) := by decide +kernel
theorem dM_isPath_109 : decode bM_isPath 109 = .ok (.goto 4, 3) := by decide +kernel
theorem dM_isPath_112 : decode bM_isPath 112 = .ok (.iconst 0, 1) := by decide +kernel
theorem dM_isPath_113 : decode bM_isPath 113 = .ok (.istore_n 3, 1) := by decide +kernel
theorem dM_isPath_114 : decode bM_isPath 114 = .ok (.iinc 4 1, 3) := by decide +kernel
theorem dM_isPath_117 : decode bM_isPath 117 = .ok (.goto (-52), 3) := by decide +kernel
theorem dM_isPath_120 : decode bM_isPath 120 = .ok (.iload_n 3, 1) := by decide +kernel
theorem dM_isPath_121 : decode bM_isPath 121 = .ok (.ireturn, 1) := by decide +kernel
theorem dM_isKnown_0 : decode bM_isKnown 0 = .ok (.aload_n 0, 1) := by decide +kernel
theorem dM_isKnown_1 : decode bM_isKnown 1 = .ok (.getfield 133, 3) := by decide +kernel
theorem dM_isKnown_4 : decode bM_isKnown 4 = .ok (.invokestatic 89, 3) := by decide +kernel
theorem dM_isKnown_7 : decode bM_isKnown 7 = .ok (.iconst 1, 1) := by decide +kernel
theorem dM_isKnown_8 : decode bM_isKnown 8 = .ok (.if_icmp .ne 5, 3) := by decide +kernel
theorem dM_isKnown_11 : decode bM_isKnown 11 = .ok (.iconst 1, 1) := by decide +kernel
theorem dM_isKnown_12 : decode bM_isKnown 12 = .ok (.ireturn, 1) := by decide +kernel
theorem dM_isKnown_13 : decode bM_isKnown 13 = .ok (.aload_n 0, 1) := by decide +kernel
theorem dM_isKnown_14 : decode bM_isKnown 14 = .ok (.getfield 133, 3) := by decide +kernel
theorem dM_isKnown_17 : decode bM_isKnown 17 = .ok (.invokestatic 136, 3) := by decide +kernel
theorem dM_isKnown_20 : decode bM_isKnown 20 = .ok (.istore_n 1, 1) := by decide +kernel
theorem dM_isKnown_21 : decode bM_isKnown 21 = .ok (.aload_n 0, 1) := by decide +kernel
theorem dM_isKnown_22 : decode bM_isKnown 22 = .ok (.getfield 133, 3) := by decide +kernel
theorem dM_isKnown_25 : decode bM_isKnown 25 = .ok (.aload_n 0, 1) := by decide +kernel
theorem dM_isKnown_26 : decode bM_isKnown 26 = .ok (.getfield 133, 3) := by decide +kernel
theorem dM_isKnown_29 : decode bM_isKnown 29 = .ok (.invokestatic 89, 3) := by decide +kernel
theorem dM_isKnown_32 : decode bM_isKnown 32 = .ok (.iconst 1, 1) := by decide +kernel
theorem dM_isKnown_33 : decode bM_isKnown 33 = .ok (.isub, 1) := by decide +kernel
theorem dM_isKnown_34 : decode bM_isKnown 34 = .ok (.invokestatic 92, 3) := by decide +kernel
theorem dM_isKnown_37 : decode bM_isKnown 37 = .ok (.istore_n 2, 1) := by decide +kernel
theorem dM_isKnown_38 : decode bM_isKnown 38 = .ok (.iconst 0, 1) := by decide +kernel
theorem dM_isKnown_39 : decode bM_isKnown 39 = .ok (.istore_n 3, 1) := by decide +kernel
theorem dM_isKnown_40 : decode bM_isKnown 40 = .ok (.iconst 0, 1) := by decide +kernel
theorem dM_isKnown_41 : decode bM_isKnown 41 = .ok (.istore 4, 2) := by decide +kernel
theorem dM_isKnown_43 : decode bM_isKnown 43 = .ok (.iload 4, 2) := by decide +kernel
theorem dM_isKnown_45 : decode bM_isKnown 45 = .ok (.aload_n 0, 1) := by decide +kernel
theorem dM_isKnown_46 : decode bM_isKnown 46 = .ok (.getfield 42, 3) := by decide +kernel
theorem dM_isKnown_49 : decode bM_isKnown 49 = .ok (.if_icmp .ge 49, 3) := by decide +kernel
theorem dM_isKnown_52 : decode bM_isKnown 52 = .ok (.iload_n 3, 1) := by decide +kernel
theorem dM_isKnown_53 : decode bM_isKnown 53 = .ok (.ifCond .ne 33, 3) := by decide +kernel
theorem dM_isKnown_56 : decode bM_isKnown 56 = .ok (.aload_n 0, 1) := by decide +kernel
theorem dM_isKnown_57 : decode bM_isKnown 57 = .ok (.getfield 19, 3) := by decide +kernel
theorem dM_isKnown_60 : decode bM_isKnown 60 = .ok (.iload 4, 2) := by decide +kernel
theorem dM_isKnown_62 : decode bM_isKnown 62 = .ok (.iaload, 1) := by decide +kernel
theorem dM_isKnown_63 : decode bM_isKnown 63 = .ok (.iload_n 2, 1) := by decide +kernel
theorem dM_isKnown_64 : decode bM_isKnown 64 = .ok (.invokestatic 49, 3) := by decide +kernel
theorem dM_isKnown_67 : decode bM_isKnown 67 = .ok (.ifCond .eq 23, 3) := by decide +kernel
theorem dM_isKnown_70 : decode bM_isKnown 70 = .ok (.aload_n 0, 1) := by decide +kernel
theorem dM_isKnown_71 : decode bM_isKnown 71 = .ok (.getfield 22, 3) := by decide +kernel
theorem dM_isKnown_74 : decode bM_isKnown 74 = .ok (.bipush 6, 2) := by decide +kernel
theorem dM_isKnown_76 : decode bM_isKnown 76 = .ok (.iload 4, 2) := by decide +kernel
theorem dM_isKnown_78 : decode bM_isKnown 78 = .ok (.imul, 1) := by decide +kernel
theorem dM_isKnown_79 : decode bM_isKnown 79 = .ok (.iload_n 2, 1) := by decide +kernel
theorem dM_isKnown_80 : decode bM_isKnown 80 = .ok (.iadd, 1) := by decide +kernel
theorem dM_isKnown_81 : decode bM_isKnown 81 = .ok (.iaload, 1) := by decide +kernel
theorem dM_isKnown_82 : decode bM_isKnown 82 = .ok (.iload_n 1, 1) := by decide +kernel
theorem dM_isKnown_83 : decode bM_isKnown 83 = .ok (.if_icmp .ne 7, 3) := by decide +kernel
theorem dM_isKnown_86 : decode bM_isKnown 86 = .ok (.iconst 1, 1) := by decide +kernel
theorem dM_isKnown_87 : decode bM_isKnown 87 = .ok (.goto 4, 3) := by decide +kernel
theorem dM_isKnown_90 : decode bM_isKnown 90 = .ok (.iconst 0, 1) := by decide +kernel
theorem dM_isKnown_91 : decode bM_isKnown 91 = .ok (.istore_n 3, 1) := by decide +kernel
theorem dM_isKnown_92 : decode bM_isKnown 92 = .ok (.iinc 4 1, 3) := by decide +kernel
theorem dM_isKnown_95 : decode bM_isKnown 95 = .ok (.goto (-52), 3) := by decide +kernel
theorem dM_isKnown_98 : decode bM_isKnown 98 = .ok (.iload_n 3, 1) := by decide +kernel
theorem dM_isKnown_99 : decode bM_isKnown 99 = .ok (.ireturn, 1) := by decide +kernel
theorem dM_leaders_0 : decode bM_leaders 0 = .ok (.aload_n 0, 1) := by decide +kernel
theorem dM_leaders_1 : decode bM_leaders 1 = .ok (.iconst 0, 1) := by decide +kernel
theorem dM_leaders_2 : decode bM_leaders 2 = .ok (.putfield 39, 3) := by decide +kernel
theorem dM_leaders_5 : decode bM_leaders 5 = .ok (.aload_n 0, 1) := by decide +kernel
theorem dM_leaders_6 : decode bM_leaders 6 = .ok (.getfield 86, 3) := by decide +kernel
theorem dM_leaders_9 : decode bM_leaders 9 = .ok (.ireturn, 1) := by decide +kernel
theorem dM_conform_0 : decode bM_conform 0 = .ok (.aload_n 0, 1) := by decide +kernel
theorem dM_conform_1 : decode bM_conform 1 = .ok (.iconst 0, 1) := by decide +kernel
theorem dM_conform_2 : decode bM_conform 2 = .ok (.putfield 39, 3) := by decide +kernel
theorem dM_conform_5 : decode bM_conform 5 = .ok (.aload_n 0, 1) := by decide +kernel
theorem dM_conform_6 : decode bM_conform 6 = .ok (.iload_n 1, 1) := by decide +kernel
theorem dM_conform_7 : decode bM_conform 7 = .ok (.invokevirtual 45, 3) := by decide +kernel
theorem dM_conform_10 : decode bM_conform 10 = .ok (.ifCond .eq 15, 3) := by decide +kernel
theorem dM_conform_13 : decode bM_conform 13 = .ok (.aload_n 0, 1) := by decide +kernel
theorem dM_conform_14 : decode bM_conform 14 = .ok (.getfield 124, 3) := by decide +kernel
theorem dM_conform_17 : decode bM_conform 17 = .ok (.iload_n 1, 1) := by decide +kernel
theorem dM_conform_18 : decode bM_conform 18 = .ok (.invokestatic 49, 3) := by decide +kernel
theorem dM_conform_21 : decode bM_conform 21 = .ok (.iload_n 2, 1) := by decide +kernel
theorem dM_conform_22 : decode bM_conform 22 = .ok (.if_icmp .eq 5, 3) := by decide +kernel
theorem dM_conform_25 : decode bM_conform 25 = .ok (.iconst 0, 1) := by decide +kernel
theorem dM_conform_26 : decode bM_conform 26 = .ok (.ireturn, 1) := by decide +kernel
theorem dM_conform_27 : decode bM_conform 27 = .ok (.aload_n 0, 1) := by decide +kernel
theorem dM_conform_28 : decode bM_conform 28 = .ok (.dup, 1) := by decide +kernel
theorem dM_conform_29 : decode bM_conform 29 = .ok (.getfield 124, 3) := by decide +kernel
theorem dM_conform_32 : decode bM_conform 32 = .ok (.iconst 1, 1) := by decide +kernel
theorem dM_conform_33 : decode bM_conform 33 = .ok (.iload_n 1, 1) := by decide +kernel
theorem dM_conform_34 : decode bM_conform 34 = .ok (.ishl, 1) := by decide +kernel
theorem dM_conform_35 : decode bM_conform 35 = .ok (.ixor, 1) := by decide +kernel
theorem dM_conform_36 : decode bM_conform 36 = .ok (.putfield 124, 3) := by decide +kernel
theorem dM_conform_39 : decode bM_conform 39 = .ok (.iconst 1, 1) := by decide +kernel
theorem dM_conform_40 : decode bM_conform 40 = .ok (.ireturn, 1) := by decide +kernel
theorem dM_step_0 : decode bM_step 0 = .ok (.aload_n 0, 1) := by decide +kernel
theorem dM_step_1 : decode bM_step 1 = .ok (.iconst 0, 1) := by decide +kernel
theorem dM_step_2 : decode bM_step 2 = .ok (.putfield 39, 3) := by decide +kernel
theorem dM_step_5 : decode bM_step 5 = .ok (.aload_n 0, 1) := by decide +kernel
theorem dM_step_6 : decode bM_step 6 = .ok (.iload_n 1, 1) := by decide +kernel
theorem dM_step_7 : decode bM_step 7 = .ok (.invokevirtual 45, 3) := by decide +kernel
theorem dM_step_10 : decode bM_step 10 = .ok (.ifCond .eq 15, 3) := by decide +kernel
theorem dM_step_13 : decode bM_step 13 = .ok (.aload_n 0, 1) := by decide +kernel
theorem dM_step_14 : decode bM_step 14 = .ok (.getfield 133, 3) := by decide +kernel
theorem dM_step_17 : decode bM_step 17 = .ok (.invokestatic 89, 3) := by decide +kernel
theorem dM_step_20 : decode bM_step 20 = .ok (.bipush 6, 2) := by decide +kernel
theorem dM_step_22 : decode bM_step 22 = .ok (.if_icmp .ne 5, 3) := by decide +kernel
theorem dM_step_25 : decode bM_step 25 = .ok (.iconst (-1), 1) := by decide +kernel
theorem dM_step_26 : decode bM_step 26 = .ok (.ireturn, 1) := by decide +kernel
theorem dM_step_27 : decode bM_step 27 = .ok (.aload_n 0, 1) := by decide +kernel
theorem dM_step_28 : decode bM_step 28 = .ok (.getfield 133, 3) := by decide +kernel
theorem dM_step_31 : decode bM_step 31 = .ok (.invokestatic 89, 3) := by decide +kernel
theorem dM_step_34 : decode bM_step 34 = .ok (.istore_n 2, 1) := by decide +kernel
theorem dM_step_35 : decode bM_step 35 = .ok (.aload_n 0, 1) := by decide +kernel
theorem dM_step_36 : decode bM_step 36 = .ok (.aload_n 0, 1) := by decide +kernel
theorem dM_step_37 : decode bM_step 37 = .ok (.getfield 133, 3) := by decide +kernel
theorem dM_step_40 : decode bM_step 40 = .ok (.ldc 96, 2) := by decide +kernel
theorem dM_step_42 : decode bM_step 42 = .ok (.iand, 1) := by decide +kernel
theorem dM_step_43 : decode bM_step 43 = .ok (.iload_n 1, 1) := by decide +kernel
theorem dM_step_44 : decode bM_step 44 = .ok (.iconst 3, 1) := by decide +kernel
theorem dM_step_45 : decode bM_step 45 = .ok (.iload_n 2, 1) := by decide +kernel
theorem dM_step_46 : decode bM_step 46 = .ok (.imul, 1) := by decide +kernel
theorem dM_step_47 : decode bM_step 47 = .ok (.ishl, 1) := by decide +kernel
theorem dM_step_48 : decode bM_step 48 = .ok (.ior, 1) := by decide +kernel
theorem dM_step_49 : decode bM_step 49 = .ok (.iload_n 2, 1) := by decide +kernel
theorem dM_step_50 : decode bM_step 50 = .ok (.iconst 1, 1) := by decide +kernel
theorem dM_step_51 : decode bM_step 51 = .ok (.iadd, 1) := by decide +kernel
theorem dM_step_52 : decode bM_step 52 = .ok (.bipush 18, 2) := by decide +kernel
theorem dM_step_54 : decode bM_step 54 = .ok (.ishl, 1) := by decide +kernel
theorem dM_step_55 : decode bM_step 55 = .ok (.ior, 1) := by decide +kernel
theorem dM_step_56 : decode bM_step 56 = .ok (.putfield 133, 3) := by decide +kernel
theorem dM_step_59 : decode bM_step 59 = .ok (.iload_n 2, 1) := by decide +kernel
theorem dM_step_60 : decode bM_step 60 = .ok (.iconst 1, 1) := by decide +kernel
theorem dM_step_61 : decode bM_step 61 = .ok (.iadd, 1) := by decide +kernel
theorem dM_step_62 : decode bM_step 62 = .ok (.ireturn, 1) := by decide +kernel
theorem dM_clear_0 : decode bM_clear 0 = .ok (.aload_n 0, 1) := by decide +kernel
theorem dM_clear_1 : decode bM_clear 1 = .ok (.iconst 0, 1) := by decide +kernel
theorem dM_clear_2 : decode bM_clear 2 = .ok (.putfield 39, 3) := by decide +kernel
theorem dM_clear_5 : decode bM_clear 5 = .ok (.aload_n 0, 1) := by decide +kernel
theorem dM_clear_6 : decode bM_clear 6 = .ok (.iconst 0, 1) := by decide +kernel
theorem dM_clear_7 : decode bM_clear 7 = .ok (.putfield 133, 3) := by decide +kernel
theorem dM_clear_10 : decode bM_clear 10 = .ok (.return_, 1) := by decide +kernel
theorem dM_pass_0 : decode bM_pass 0 = .ok (.aload_n 0, 1) := by decide +kernel
theorem dM_pass_1 : decode bM_pass 1 = .ok (.iconst 0, 1) := by decide +kernel
theorem dM_pass_2 : decode bM_pass 2 = .ok (.putfield 39, 3) := by decide +kernel
theorem dM_pass_5 : decode bM_pass 5 = .ok (.iload_n 1, 1) := by decide +kernel
theorem dM_pass_6 : decode bM_pass 6 = .ok (.ifCond .lt 9, 3) := by decide +kernel
theorem dM_pass_9 : decode bM_pass 9 = .ok (.iload_n 1, 1) := by decide +kernel
theorem dM_pass_10 : decode bM_pass 10 = .ok (.bipush 100, 2) := by decide +kernel
theorem dM_pass_12 : decode bM_pass 12 = .ok (.if_icmp .le 5, 3) := by decide +kernel
theorem dM_pass_15 : decode bM_pass 15 = .ok (.iconst (-1), 1) := by decide +kernel
theorem dM_pass_16 : decode bM_pass 16 = .ok (.ireturn, 1) := by decide +kernel
theorem dM_pass_17 : decode bM_pass 17 = .ok (.aload_n 0, 1) := by decide +kernel
theorem dM_pass_18 : decode bM_pass 18 = .ok (.dup, 1) := by decide +kernel
theorem dM_pass_19 : decode bM_pass 19 = .ok (.getfield 70, 3) := by decide +kernel
theorem dM_pass_22 : decode bM_pass 22 = .ok (.iload_n 1, 1) := by decide +kernel
theorem dM_pass_23 : decode bM_pass 23 = .ok (.iadd, 1) := by decide +kernel
theorem dM_pass_24 : decode bM_pass 24 = .ok (.putfield 70, 3) := by decide +kernel
theorem dM_pass_27 : decode bM_pass 27 = .ok (.aload_n 0, 1) := by decide +kernel
theorem dM_pass_28 : decode bM_pass 28 = .ok (.getfield 70, 3) := by decide +kernel
theorem dM_pass_31 : decode bM_pass 31 = .ok (.ireturn, 1) := by decide +kernel
theorem inM_state_M : ∀ x ∈ u_ws RcM TcM 18, x ∈ wM_state := by decide +kernel
set_option maxRecDepth 20000 in
theorem gM_state_M_isArc : GoodIn wM_state (wsV RcM 130 RcM yM_isArc wM_isArc) := goodIn_app (goodIn_of _ (by decide +kernel)) (goodIn_r _ [10, 11, 13, 14, 15, 16, 17, 18, 19, 20, 21, 22, 23, 24, 25, 26, 27, 28, 29, 30] (by decide +kernel) (by decide +kernel))
set_option maxRecDepth 20000 in
theorem gM_state_M_fail : GoodIn wM_state (wsV RcM 53 RcM yM_fail wM_fail) := goodIn_app (goodIn_of _ (by decide +kernel)) (goodIn_r _ [12, 1, 13, 14, 15, 16, 17, 18, 19, 20, 21, 22, 23, 24, 25, 26, 27, 28, 29, 30] (by decide +kernel) (by decide +kernel))
theorem inM_open_M : ∀ x ∈ u_ws RcM TcM 18, x ∈ wM_open := by decide +kernel
set_option maxRecDepth 20000 in
theorem gM_open_M_isArc : GoodIn wM_open (wsV RcM 130 RcM yM_isArc wM_isArc) := goodIn_app (goodIn_of _ (by decide +kernel)) (goodIn_r _ [10, 11, 13, 14, 15, 16, 17, 18, 19, 20, 21, 22, 23, 24, 25, 26, 27, 28, 29, 30] (by decide +kernel) (by decide +kernel))
set_option maxRecDepth 20000 in
theorem gM_open_M_fail : GoodIn wM_open (wsV RcM 53 RcM yM_fail wM_fail) := goodIn_app (goodIn_of _ (by decide +kernel)) (goodIn_r _ [12, 1, 13, 14, 15, 16, 17, 18, 19, 20, 21, 22, 23, 24, 25, 26, 27, 28, 29, 30] (by decide +kernel) (by decide +kernel))
theorem inM_key_M : ∀ x ∈ u_ws RcM TcM 18, x ∈ wM_key := by decide +kernel
set_option maxRecDepth 20000 in
theorem gM_key_M_isArc : GoodIn wM_key (wsV RcM 130 RcM yM_isArc wM_isArc) := goodIn_app (goodIn_of _ (by decide +kernel)) (goodIn_r _ [20, 21, 28, 29, 30, 31, 32, 33, 34, 35, 36, 37, 38, 39, 40, 41, 42, 43, 44, 45] (by decide +kernel) (by decide +kernel))
set_option maxRecDepth 20000 in
theorem gM_key_M_isParty : GoodIn wM_key (wsV RcM 45 RcM yM_isParty wM_isParty) := goodIn_app (goodIn_of _ (by decide +kernel)) (goodIn_r _ [23, 24, 28, 29, 30, 31, 32, 33, 34, 35, 36, 37, 38, 39, 40, 41, 42, 43, 44, 45] (by decide +kernel) (by decide +kernel))
set_option maxRecDepth 20000 in
theorem gM_key_M_has : GoodIn wM_key (va_wsS RcM 49 yM_has wM_has) := goodIn_app (goodIn_of _ (by decide +kernel)) (goodIn_r _ [25] (by decide +kernel) (by decide +kernel))
set_option maxRecDepth 20000 in
theorem gM_key_M_many : GoodIn wM_key (va_wsS RcM 89 yM_many wM_many) := goodIn_app (goodIn_of _ (by decide +kernel)) (goodIn_r _ [26] (by decide +kernel) (by decide +kernel))
set_option maxRecDepth 20000 in
theorem gM_key_M_member : GoodIn wM_key (va_wsS RcM 92 yM_member wM_member) := goodIn_app (goodIn_of _ (by decide +kernel)) (goodIn_r _ [27] (by decide +kernel) (by decide +kernel))
set_option maxRecDepth 20000 in
theorem gM_key_M_fail : GoodIn wM_key (wsV RcM 53 RcM yM_fail wM_fail) := goodIn_app (goodIn_of _ (by decide +kernel)) (goodIn_r _ [22, 1, 28, 29, 30, 31, 32, 33, 34, 35, 36, 37, 38, 39, 40, 41, 42, 43, 44, 45] (by decide +kernel) (by decide +kernel))
theorem inM_outcome_M : ∀ x ∈ u_ws RcM TcM 18, x ∈ wM_outcome := by decide +kernel
set_option maxRecDepth 20000 in
theorem gM_outcome_M_isParty : GoodIn wM_outcome (wsV RcM 45 RcM yM_isParty wM_isParty) := goodIn_app (goodIn_of _ (by decide +kernel)) (goodIn_r _ [13, 14, 16, 17, 18, 19, 20, 21, 22, 23, 24, 25, 26, 27, 28, 29, 30, 31, 32, 33] (by decide +kernel) (by decide +kernel))
set_option maxRecDepth 20000 in
theorem gM_outcome_M_fail : GoodIn wM_outcome (wsV RcM 53 RcM yM_fail wM_fail) := goodIn_app (goodIn_of _ (by decide +kernel)) (goodIn_r _ [15, 1, 16, 17, 18, 19, 20, 21, 22, 23, 24, 25, 26, 27, 28, 29, 30, 31, 32, 33] (by decide +kernel) (by decide +kernel))
theorem inM_arc_M : ∀ x ∈ u_ws RcM TcM 18, x ∈ wM_arc := by decide +kernel
set_option maxRecDepth 20000 in
theorem gM_arc_M_isParty : GoodIn wM_arc (wsV RcM 45 RcM yM_isParty wM_isParty) := goodIn_app (goodIn_of _ (by decide +kernel)) (goodIn_r _ [16, 17, 20, 21, 22, 23, 24, 25, 26, 27, 28, 29, 30, 31, 32, 33, 34, 35, 36, 37] (by decide +kernel) (by decide +kernel))
set_option maxRecDepth 20000 in
theorem gM_arc_M_fail : GoodIn wM_arc (wsV RcM 53 RcM yM_fail wM_fail) := goodIn_app (goodIn_of _ (by decide +kernel)) (goodIn_r _ [19, 1, 20, 21, 22, 23, 24, 25, 26, 27, 28, 29, 30, 31, 32, 33, 34, 35, 36, 37] (by decide +kernel) (by decide +kernel))
set_option maxRecDepth 20000 in
theorem gM_arc_M_has : GoodIn wM_arc (va_wsS RcM 49 yM_has wM_has) := goodIn_app (goodIn_of _ (by decide +kernel)) (goodIn_r _ [18] (by decide +kernel) (by decide +kernel))
theorem inM_isPath_M : ∀ x ∈ u_ws RcM TcM 18, x ∈ wM_isPath := by decide +kernel
set_option maxRecDepth 20000 in
theorem gM_isPath_M_many : GoodIn wM_isPath (va_wsS RcM 89 yM_many wM_many) := goodIn_app (goodIn_of _ (by decide +kernel)) (goodIn_r _ [15] (by decide +kernel) (by decide +kernel))
set_option maxRecDepth 20000 in
theorem gM_isPath_M_member : GoodIn wM_isPath (va_wsS RcM 92 yM_member wM_member) := goodIn_app (goodIn_of _ (by decide +kernel)) (goodIn_r _ [16] (by decide +kernel) (by decide +kernel))
set_option maxRecDepth 20000 in
theorem gM_isPath_M_members : GoodIn wM_isPath (va_wsS RcM 121 yM_members wM_members) := goodIn_app (goodIn_of _ (by decide +kernel)) (goodIn_r _ [17, 2, 3, 4, 5, 6, 15, 16] (by decide +kernel) (by decide +kernel))
set_option maxRecDepth 20000 in
theorem gM_isPath_M_size : GoodIn wM_isPath (va_wsS RcM 61 yM_size wM_size) := goodIn_app (goodIn_of _ (by decide +kernel)) (goodIn_r _ [18] (by decide +kernel) (by decide +kernel))
set_option maxRecDepth 20000 in
theorem gM_isPath_M_has : GoodIn wM_isPath (va_wsS RcM 49 yM_has wM_has) := goodIn_app (goodIn_of _ (by decide +kernel)) (goodIn_r _ [19] (by decide +kernel) (by decide +kernel))
theorem inM_isKnown_M : ∀ x ∈ u_ws RcM TcM 18, x ∈ wM_isKnown := by decide +kernel
set_option maxRecDepth 20000 in
theorem gM_isKnown_M_many : GoodIn wM_isKnown (va_wsS RcM 89 yM_many wM_many) := goodIn_app (goodIn_of _ (by decide +kernel)) (goodIn_r _ [14] (by decide +kernel) (by decide +kernel))
set_option maxRecDepth 20000 in
theorem gM_isKnown_M_behind : GoodIn wM_isKnown (va_wsS RcM 136 yM_behind wM_behind) := goodIn_app (goodIn_of _ (by decide +kernel)) (goodIn_r _ [15, 16, 2, 3, 4, 14] (by decide +kernel) (by decide +kernel))
set_option maxRecDepth 20000 in
theorem gM_isKnown_M_member : GoodIn wM_isKnown (va_wsS RcM 92 yM_member wM_member) := goodIn_app (goodIn_of _ (by decide +kernel)) (goodIn_r _ [17] (by decide +kernel) (by decide +kernel))
set_option maxRecDepth 20000 in
theorem gM_isKnown_M_has : GoodIn wM_isKnown (va_wsS RcM 49 yM_has wM_has) := goodIn_app (goodIn_of _ (by decide +kernel)) (goodIn_r _ [18] (by decide +kernel) (by decide +kernel))
theorem inM_leaders_M : ∀ x ∈ u_ws RcM TcM 18, x ∈ wM_leaders := by decide +kernel
theorem inM_conform_M : ∀ x ∈ u_ws RcM TcM 18, x ∈ wM_conform := by decide +kernel
set_option maxRecDepth 20000 in
theorem gM_conform_M_isParty : GoodIn wM_conform (wsV RcM 45 RcM yM_isParty wM_isParty) := goodIn_app (goodIn_of _ (by decide +kernel)) (goodIn_r _ [9, 10, 12, 13, 14, 15, 16, 17, 18, 19, 20, 21, 22, 23, 24, 25, 26, 27, 28, 29] (by decide +kernel) (by decide +kernel))
set_option maxRecDepth 20000 in
theorem gM_conform_M_has : GoodIn wM_conform (va_wsS RcM 49 yM_has wM_has) := goodIn_app (goodIn_of _ (by decide +kernel)) (goodIn_r _ [11] (by decide +kernel) (by decide +kernel))
theorem inM_step_M : ∀ x ∈ u_ws RcM TcM 18, x ∈ wM_step := by decide +kernel
set_option maxRecDepth 20000 in
theorem gM_step_M_isParty : GoodIn wM_step (wsV RcM 45 RcM yM_isParty wM_isParty) := goodIn_app (goodIn_of _ (by decide +kernel)) (goodIn_r _ [10, 11, 13, 14, 15, 16, 17, 18, 19, 20, 21, 22, 23, 24, 25, 26, 27, 28, 29, 30] (by decide +kernel) (by decide +kernel))
set_option maxRecDepth 20000 in
theorem gM_step_M_many : GoodIn wM_step (va_wsS RcM 89 yM_many wM_many) := goodIn_app (goodIn_of _ (by decide +kernel)) (goodIn_r _ [12] (by decide +kernel) (by decide +kernel))
theorem inM_clear_M : ∀ x ∈ u_ws RcM TcM 18, x ∈ wM_clear := by decide +kernel
theorem inM_pass_M : ∀ x ∈ u_ws RcM TcM 18, x ∈ wM_pass := by decide +kernel

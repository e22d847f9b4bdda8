theorem dM_reached_0 : decode bM_reached 0 = .ok (.iconst 1, 1) := by decide +kernel
theorem dM_reached_1 : decode bM_reached 1 = .ok (.iload_n 1, 1) := by decide +kernel
theorem dM_reached_2 : decode bM_reached 2 = .ok (.ishl, 1) := by decide +kernel
theorem dM_reached_3 : decode bM_reached 3 = .ok (.istore_n 2, 1) := by decide +kernel
theorem dM_reached_4 : decode bM_reached 4 = .ok (.iconst 0, 1) := by decide +kernel
theorem dM_reached_5 : decode bM_reached 5 = .ok (.istore_n 3, 1) := by decide +kernel
theorem dM_reached_6 : decode bM_reached 6 = .ok (.iload_n 3, 1) := by decide +kernel
theorem dM_reached_7 : decode bM_reached 7 = .ok (.aload_n 0, 1) := by decide +kernel
theorem dM_reached_8 : decode bM_reached 8 = .ok (.getfield 32, 3) := by decide +kernel
theorem dM_reached_11 : decode bM_reached 11 = .ok (.if_icmp .ge 46, 3) := by decide +kernel
theorem dM_reached_14 : decode bM_reached 14 = .ok (.iconst 0, 1) := by decide +kernel
theorem dM_reached_15 : decode bM_reached 15 = .ok (.istore 4, 2) := by decide +kernel
theorem dM_reached_17 : decode bM_reached 17 = .ok (.iload 4, 2) := by decide +kernel
theorem dM_reached_19 : decode bM_reached 19 = .ok (.aload_n 0, 1) := by decide +kernel
theorem dM_reached_20 : decode bM_reached 20 = .ok (.getfield 32, 3) := by decide +kernel
theorem dM_reached_23 : decode bM_reached 23 = .ok (.if_icmp .ge 28, 3) := by decide +kernel
theorem dM_reached_26 : decode bM_reached 26 = .ok (.iload_n 2, 1) := by decide +kernel
theorem dM_reached_27 : decode bM_reached 27 = .ok (.iload 4, 2) := by decide +kernel
theorem dM_reached_29 : decode bM_reached 29 = .ok (.invokestatic 49, 3) := by decide +kernel
theorem dM_reached_32 : decode bM_reached 32 = .ok (.ifCond .eq 13, 3) := by decide +kernel
theorem dM_reached_35 : decode bM_reached 35 = .ok (.iload_n 2, 1) := by decide +kernel
theorem dM_reached_36 : decode bM_reached 36 = .ok (.aload_n 0, 1) := by decide +kernel
theorem dM_reached_37 : decode bM_reached 37 = .ok (.getfield 25, 3) := by decide +kernel
theorem dM_reached_40 : decode bM_reached 40 = .ok (.iload 4, 2) := by decide +kernel
theorem dM_reached_42 : decode bM_reached 42 = .ok (.iaload, 1) := by decide +kernel
theorem dM_reached_43 : decode bM_reached 43 = .ok (.ior, 1) := by decide +kernel
theorem dM_reached_44 : decode bM_reached 44 = .ok (.istore_n 2, 1) := by decide +kernel
theorem dM_reached_45 : decode bM_reached 45 = .ok (.iinc 4 1, 3) := by decide +kernel
theorem dM_reached_48 : decode bM_reached 48 = .ok (.goto (-31), 3) := by decide +kernel
theorem dM_reached_51 : decode bM_reached 51 = .ok (.iinc 3 1, 3) := by decide +kernel
theorem dM_reached_54 : decode bM_reached 54 = .ok (.goto (-48), 3) := by decide +kernel
theorem dM_reached_57 : decode bM_reached 57 = .ok (.iload_n 2, 1) := by decide +kernel
theorem dM_reached_58 : decode bM_reached 58 = .ok (.ireturn, 1) := by decide +kernel
theorem dM_isOpen_0 : decode bM_isOpen 0 = .ok (.iload_n 1, 1) := by decide +kernel
theorem dM_isOpen_1 : decode bM_isOpen 1 = .ok (.istore_n 2, 1) := by decide +kernel
theorem dM_isOpen_2 : decode bM_isOpen 2 = .ok (.iconst 0, 1) := by decide +kernel
theorem dM_isOpen_3 : decode bM_isOpen 3 = .ok (.istore_n 3, 1) := by decide +kernel
theorem dM_isOpen_4 : decode bM_isOpen 4 = .ok (.iload_n 3, 1) := by decide +kernel
theorem dM_isOpen_5 : decode bM_isOpen 5 = .ok (.aload_n 0, 1) := by decide +kernel
theorem dM_isOpen_6 : decode bM_isOpen 6 = .ok (.getfield 32, 3) := by decide +kernel
theorem dM_isOpen_9 : decode bM_isOpen 9 = .ok (.if_icmp .ge 57, 3) := by decide +kernel
theorem dM_isOpen_12 : decode bM_isOpen 12 = .ok (.iconst 0, 1) := by decide +kernel
theorem dM_isOpen_13 : decode bM_isOpen 13 = .ok (.istore 4, 2) := by decide +kernel
theorem dM_isOpen_15 : decode bM_isOpen 15 = .ok (.iload 4, 2) := by decide +kernel
theorem dM_isOpen_17 : decode bM_isOpen 17 = .ok (.aload_n 0, 1) := by decide +kernel
theorem dM_isOpen_18 : decode bM_isOpen 18 = .ok (.getfield 32, 3) := by decide +kernel
theorem dM_isOpen_21 : decode bM_isOpen 21 = .ok (.if_icmp .ge 39, 3) := by decide +kernel
theorem dM_isOpen_24 : decode bM_isOpen 24 = .ok (.iload_n 2, 1) := by decide +kernel
theorem dM_isOpen_25 : decode bM_isOpen 25 = .ok (.iload 4, 2) := by decide +kernel
theorem dM_isOpen_27 : decode bM_isOpen 27 = .ok (.invokestatic 49, 3) := by decide +kernel
theorem dM_isOpen_30 : decode bM_isOpen 30 = .ok (.ifCond .eq 24, 3) := by decide +kernel
theorem dM_isOpen_33 : decode bM_isOpen 33 = .ok (.aload_n 0, 1) := by decide +kernel
theorem dM_isOpen_34 : decode bM_isOpen 34 = .ok (.getfield 25, 3) := by decide +kernel
theorem dM_isOpen_37 : decode bM_isOpen 37 = .ok (.iload 4, 2) := by decide +kernel
theorem dM_isOpen_39 : decode bM_isOpen 39 = .ok (.iaload, 1) := by decide +kernel
theorem dM_isOpen_40 : decode bM_isOpen 40 = .ok (.iload_n 2, 1) := by decide +kernel
theorem dM_isOpen_41 : decode bM_isOpen 41 = .ok (.iand, 1) := by decide +kernel
theorem dM_isOpen_42 : decode bM_isOpen 42 = .ok (.ifCond .ne 12, 3) := by decide +kernel
theorem dM_isOpen_45 : decode bM_isOpen 45 = .ok (.iload_n 2, 1) := by decide +kernel
theorem dM_isOpen_46 : decode bM_isOpen 46 = .ok (.iconst 1, 1) := by decide +kernel
theorem dM_isOpen_47 : decode bM_isOpen 47 = .ok (.iload 4, 2) := by decide +kernel
theorem dM_isOpen_49 : decode bM_isOpen 49 = .ok (.ishl, 1) := by decide +kernel
theorem dM_isOpen_50 : decode bM_isOpen 50 = .ok (.iconst (-1), 1) := by decide +kernel
theorem dM_isOpen_51 : decode bM_isOpen 51 = .ok (.ixor, 1) := by decide +kernel
theorem dM_isOpen_52 : decode bM_isOpen 52 = .ok (.iand, 1) := by decide +kernel
theorem dM_isOpen_53 : decode bM_isOpen 53 = .ok (.istore_n 2, 1) := by decide +kernel
theorem dM_isOpen_54 : decode bM_isOpen 54 = .ok (.iinc 4 1, 3) := by decide +kernel
theorem dM_isOpen_57 : decode bM_isOpen 57 = .ok (.goto (-42), 3) := by decide +kernel
theorem dM_isOpen_60 : decode bM_isOpen 60 = .ok (.iinc 3 1, 3) := by decide +kernel
theorem dM_isOpen_63 : decode bM_isOpen 63 = .ok (.goto (-59), 3) := by decide +kernel
theorem dM_isOpen_66 : decode bM_isOpen 66 = .ok (.iload_n 2, 1) := by decide +kernel
theorem dM_isOpen_67 : decode bM_isOpen 67 = .ok (.ifCond .ne 7, 3) := by decide +kernel
theorem dM_isOpen_70 : decode bM_isOpen 70 = .ok (.iconst 1, 1) := by decide +kernel
theorem dM_isOpen_71 : decode bM_isOpen 71 = .ok (.goto 4, 3) := by decide +kernel
theorem dM_isOpen_74 : decode bM_isOpen 74 = .ok (.iconst 0, 1) := by decide +kernel
theorem dM_isOpen_75 : decode bM_isOpen 75 = .ok (.ireturn, 1) := by decide +kernel
theorem dM_greatest_0 : decode bM_greatest 0 = .ok (.iconst 0, 1) := by decide +kernel
theorem dM_greatest_1 : decode bM_greatest 1 = .ok (.istore_n 1, 1) := by decide +kernel
theorem dM_greatest_2 : decode bM_greatest 2 = .ok (.iconst 1, 1) := by decide +kernel
theorem dM_greatest_3 : decode bM_greatest 3 = .ok (.istore_n 2, 1) := by decide +kernel
theorem dM_greatest_4 : decode bM_greatest 4 = .ok (.iload_n 2, 1) := by decide +kernel
theorem dM_greatest_5 : decode bM_greatest 5 = .ok (.iconst 1, 1) := by decide +kernel
theorem dM_greatest_6 : decode bM_greatest 6 = .ok (.aload_n 0, 1) := by decide +kernel
theorem dM_greatest_7 : decode bM_greatest 7 = .ok (.getfield 32, 3) := by decide +kernel
theorem dM_greatest_10 : decode bM_greatest 10 = .ok (.ishl, 1) := by decide +kernel
theorem dM_greatest_11 : decode bM_greatest 11 = .ok (.if_icmp .ge 186, 3) := by decide +kernel
theorem dM_greatest_14 : decode bM_greatest 14 = .ok (.iconst 0, 1) := by decide +kernel
theorem dM_greatest_15 : decode bM_greatest 15 = .ok (.istore_n 3, 1) := by decide +kernel
theorem dM_greatest_16 : decode bM_greatest 16 = .ok (.iload_n 3, 1) := by decide +kernel
theorem dM_greatest_17 : decode bM_greatest 17 = .ok (.aload_n 0, 1) := by decide +kernel
theorem dM_greatest_18 : decode bM_greatest 18 = .ok (.getfield 32, 3) := by decide +kernel
theorem dM_greatest_21 : decode bM_greatest 21 = .ok (.if_icmp .ge 170, 3) := by decide +kernel
theorem dM_greatest_24 : decode bM_greatest 24 = .ok (.iload_n 2, 1) := by decide +kernel
theorem dM_greatest_25 : decode bM_greatest 25 = .ok (.iconst 1, 1) := by decide +kernel
theorem dM_greatest_26 : decode bM_greatest 26 = .ok (.iload_n 3, 1) := by decide +kernel
theorem dM_greatest_27 : decode bM_greatest 27 = .ok (.ishl, 1) := by decide +kernel
theorem dM_greatest_28 : decode bM_greatest 28 = .ok (.if_icmp .ne 7, 3) := by decide +kernel
theorem dM_greatest_31 : decode bM_greatest 31 = .ok (.iconst 1, 1) := by decide +kernel
theorem dM_greatest_32 : decode bM_greatest 32 = .ok (.goto 4, 3) := by decide +kernel
theorem dM_greatest_35 : decode bM_greatest 35 = .ok (.iconst 0, 1) := by decide +kernel
theorem dM_greatest_36 : decode bM_greatest 36 = .ok (.istore 4, 2) := by decide +kernel
theorem dM_greatest_38 : decode bM_greatest 38 = .ok (.iconst 0, 1) := by decide +kernel
theorem dM_greatest_39 : decode bM_greatest 39 = .ok (.istore 5, 2) := by decide +kernel
theorem dM_greatest_41 : decode bM_greatest 41 = .ok (.iload 5, 2) := by decide +kernel
theorem dM_greatest_43 : decode bM_greatest 43 = .ok (.aload_n 0, 1) := by decide +kernel
theorem dM_greatest_44 : decode bM_greatest 44 = .ok (.getfield 32, 3) := by decide +kernel
theorem dM_greatest_47 : decode bM_greatest 47 = .ok (.if_icmp .ge 79, 3) := by decide +kernel
theorem dM_greatest_50 : decode bM_greatest 50 = .ok (.iload_n 2, 1) := by decide +kernel
theorem dM_greatest_51 : decode bM_greatest 51 = .ok (.iload_n 3, 1) := by decide +kernel
theorem dM_greatest_52 : decode bM_greatest 52 = .ok (.invokestatic 49, 3) := by decide +kernel
theorem dM_greatest_55 : decode bM_greatest 55 = .ok (.ifCond .eq 71, 3) := by decide +kernel
theorem dM_greatest_58 : decode bM_greatest 58 = .ok (.iload 4, 2) := by decide +kernel
theorem dM_greatest_60 : decode bM_greatest 60 = .ok (.ifCond .ne 53, 3) := by decide +kernel
theorem dM_greatest_63 : decode bM_greatest 63 = .ok (.iload 5, 2) := by decide +kernel
theorem dM_greatest_65 : decode bM_greatest 65 = .ok (.iload_n 3, 1) := by decide +kernel
theorem dM_greatest_66 : decode bM_greatest 66 = .ok (.if_icmp .eq 51, 3) := by decide +kernel
theorem dM_greatest_69 : decode bM_greatest 69 = .ok (.iload_n 2, 1) := by decide +kernel
theorem dM_greatest_70 : decode bM_greatest 70 = .ok (.iload 5, 2) := by decide +kernel
theorem dM_greatest_72 : decode bM_greatest 72 = .ok (.invokestatic 49, 3) := by decide +kernel
theorem dM_greatest_75 : decode bM_greatest 75 = .ok (.ifCond .eq 42, 3) := by decide +kernel
theorem dM_greatest_78 : decode bM_greatest 78 = .ok (.aload_n 0, 1) := by decide +kernel
theorem dM_greatest_79 : decode bM_greatest 79 = .ok (.getfield 25, 3) := by decide +kernel
theorem dM_greatest_82 : decode bM_greatest 82 = .ok (.iload 5, 2) := by decide +kernel
theorem dM_greatest_84 : decode bM_greatest 84 = .ok (.iaload, 1) := by decide +kernel
theorem dM_greatest_85 : decode bM_greatest 85 = .ok (.iload_n 3, 1) := by decide +kernel
theorem dM_greatest_86 : decode bM_greatest 86 = .ok (.invokestatic 49, 3) := by decide +kernel
theorem dM_greatest_89 : decode bM_greatest 89 = .ok (.ifCond .eq 28, 3) := by decide +kernel
theorem dM_greatest_92 : decode bM_greatest 92 = .ok (.aload_n 0, 1) := by decide +kernel
theorem dM_greatest_93 : decode bM_greatest 93 = .ok (.getfield 28, 3) := by decide +kernel
theorem dM_greatest_96 : decode bM_greatest 96 = .ok (.bipush 6, 2) := by decide +kernel
theorem dM_greatest_98 : decode bM_greatest 98 = .ok (.iload_n 2, 1) := by decide +kernel
theorem dM_greatest_99 : decode bM_greatest 99 = .ok (.iconst 1, 1) := by decide +kernel
theorem dM_greatest_100 : decode bM_greatest 100 = .ok (.iload_n 3, 1) := by decide +kernel
theorem dM_greatest_101 : decode bM_greatest 101 = .ok (.ishl, 1) := by decide +kernel
theorem dM_greatest_102 : decode bM_greatest 102 = .ok (.iconst (-1), 1) := by decide +kernel
theorem dM_greatest_103 : decode bM_greatest 103 = .ok (.ixor, 1) := by decide +kernel
theorem dM_greatest_104 : decode bM_greatest 104 = .ok (.iand, 1) := by decide +kernel
theorem dM_greatest_105 : decode bM_greatest 105 = .ok (.imul, 1) := by decide +kernel
theorem dM_greatest_106 : decode bM_greatest 106 = .ok (.iload 5, 2) := by decide +kernel
theorem dM_greatest_108 : decode bM_greatest 108 = .ok (.iadd, 1) := by decide +kernel
theorem dM_greatest_109 : decode bM_greatest 109 = .ok (.baload, 1) := by decide +kernel
theorem dM_greatest_110 : decode bM_greatest 110 = .ok (.ifCond .eq 7, 3) := by decide +kernel
theorem dM_greatest_113 : decode bM_greatest 113 = .ok (.iconst 1, 1) := by decide +kernel
theorem dM_greatest_114 : decode bM_greatest 114 = .ok (.goto 4, 3) := by decide +kernel
theorem dM_greatest_117 : decode bM_greatest 117 = .ok (.iconst 0, 1) := by decide +kernel
theorem dM_greatest_118 : decode bM_greatest 118 = .ok (.istore 4, 2) := by decide +kernel
theorem dM_greatest_120 : decode bM_greatest 120 = .ok (.iinc 5 1, 3) := by decide +kernel
theorem dM_greatest_123 : decode bM_greatest 123 = .ok (.goto (-82), 3) := by decide +kernel
theorem dM_greatest_126 : decode bM_greatest 126 = .ok (.aload_n 0, 1) := by decide +kernel
theorem dM_greatest_127 : decode bM_greatest 127 = .ok (.getfield 28, 3) := by decide +kernel
theorem dM_greatest_130 : decode bM_greatest 130 = .ok (.bipush 6, 2) := by decide +kernel
theorem dM_greatest_132 : decode bM_greatest 132 = .ok (.iload_n 2, 1) := by decide +kernel
theorem dM_greatest_133 : decode bM_greatest 133 = .ok (.imul, 1) := by decide +kernel
theorem dM_greatest_134 : decode bM_greatest 134 = .ok (.iload_n 3, 1) := by decide +kernel
theorem dM_greatest_135 : decode bM_greatest 135 = .ok (.iadd, 1) := by decide +kernel
theorem dM_greatest_136 : decode bM_greatest 136 = .ok (.iload_n 2, 1) := by decide +kernel
theorem dM_greatest_137 : decode bM_greatest 137 = .ok (.iload_n 3, 1) := by decide +kernel
theorem dM_greatest_138 : decode bM_greatest 138 = .ok (.invokestatic 49, 3) := by decide +kernel
theorem dM_greatest_141 : decode bM_greatest 141 = .ok (.ifCond .eq 12, 3) := by decide +kernel
theorem dM_greatest_144 : decode bM_greatest 144 = .ok (.iload 4, 2) := by decide +kernel
theorem dM_greatest_146 : decode bM_greatest 146 = .ok (.ifCond .eq 7, 3) := by decide +kernel
theorem dM_greatest_149 : decode bM_greatest 149 = .ok (.iconst 1, 1) := by decide +kernel
theorem dM_greatest_150 : decode bM_greatest 150 = .ok (.goto 4, 3) := by decide +kernel
theorem dM_greatest_153 : decode bM_greatest 153 = .ok (.iconst 0, 1) := by decide +kernel
theorem dM_greatest_154 : decode bM_greatest 154 = .ok (.bastore, 1) := by decide +kernel
theorem dM_greatest_155 : decode bM_greatest 155 = .ok (.iload_n 2, 1) := by decide +kernel
theorem dM_greatest_156 : decode bM_greatest 156 = .ok (.iload_n 3, 1) := by decide +kernel
theorem dM_greatest_157 : decode bM_greatest 157 = .ok (.invokestatic 49, 3) := by decide +kernel
theorem dM_greatest_160 : decode bM_greatest 160 = .ok (.ifCond .eq 25, 3) := by decide +kernel
theorem dM_greatest_163 : decode bM_greatest 163 = .ok (.iload 4, 2) := by decide +kernel
theorem dM_greatest_165 : decode bM_greatest 165 = .ok (.ifCond .eq 20, 3) := by decide +kernel
theorem dM_greatest_168 : decode bM_greatest 168 = .ok (.iload_n 2, 1) := by decide +kernel
theorem dM_greatest_169 : decode bM_greatest 169 = .ok (.invokestatic 61, 3) := by decide +kernel
theorem dM_greatest_172 : decode bM_greatest 172 = .ok (.iconst 1, 1) := by decide +kernel
theorem dM_greatest_173 : decode bM_greatest 173 = .ok (.isub, 1) := by decide +kernel
theorem dM_greatest_174 : decode bM_greatest 174 = .ok (.iload_n 1, 1) := by decide +kernel
theorem dM_greatest_175 : decode bM_greatest 175 = .ok (.if_icmp .le 10, 3) := by decide +kernel
theorem dM_greatest_178 : decode bM_greatest 178 = .ok (.iload_n 2, 1) := by decide +kernel
theorem dM_greatest_179 : decode bM_greatest 179 = .ok (.invokestatic 61, 3) := by decide +kernel
theorem dM_greatest_182 : decode bM_greatest 182 = .ok (.iconst 1, 1) := by decide +kernel
theorem dM_greatest_183 : decode bM_greatest 183 = .ok (.isub, 1) := by decide +kernel
theorem dM_greatest_184 : decode bM_greatest 184 = .ok (.istore_n 1, 1) := by decide +kernel
theorem dM_greatest_185 : decode bM_greatest 185 = .ok (.iinc 3 1, 3) := by decide +kernel
theorem dM_greatest_188 : decode bM_greatest 188 = .ok (.goto (-172), 3) := by decide +kernel
theorem dM_greatest_191 : decode bM_greatest 191 = .ok (.iinc 2 1, 3) := by decide +kernel
theorem dM_greatest_194 : decode bM_greatest 194 = .ok (.goto (-190), 3) := by decide +kernel
theorem dM_greatest_197 : decode bM_greatest 197 = .ok (.iload_n 1, 1) := by decide +kernel
theorem dM_greatest_198 : decode bM_greatest 198 = .ok (.ireturn, 1) := by decide +kernel
theorem inM_reached_M : ∀ x ∈ u_ws RcM TcM 18, x ∈ wM_reached := by decide +kernel
set_option maxRecDepth 20000 in
theorem gM_reached_M_has : GoodIn wM_reached (va_wsS RcM 49 yM_has wM_has) := goodIn_app (goodIn_of _ (by decide +kernel)) (goodIn_r _ [6] (by decide +kernel) (by decide +kernel))
theorem inM_isOpen_M : ∀ x ∈ u_ws RcM TcM 18, x ∈ wM_isOpen := by decide +kernel
set_option maxRecDepth 20000 in
theorem gM_isOpen_M_has : GoodIn wM_isOpen (va_wsS RcM 49 yM_has wM_has) := goodIn_app (goodIn_of _ (by decide +kernel)) (goodIn_r _ [6] (by decide +kernel) (by decide +kernel))
theorem inM_greatest_M : ∀ x ∈ u_ws RcM TcM 18, x ∈ wM_greatest := by decide +kernel
set_option maxRecDepth 20000 in
theorem gM_greatest_M_has : GoodIn wM_greatest (va_wsS RcM 49 yM_has wM_has) := goodIn_app (goodIn_of _ (by decide +kernel)) (goodIn_r _ [9] (by decide +kernel) (by decide +kernel))
set_option maxRecDepth 20000 in
theorem gM_greatest_M_size : GoodIn wM_greatest (va_wsS RcM 61 yM_size wM_size) := goodIn_app (goodIn_of _ (by decide +kernel)) (goodIn_r _ [10] (by decide +kernel) (by decide +kernel))

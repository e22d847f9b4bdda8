theorem dG_init_0 : decode bG_init 0 = .ok (.aload_n 0, 1) := by decide +kernel
theorem dG_init_1 : decode bG_init 1 = .ok (.invokespecial 3, 3) := by decide +kernel
theorem dG_init_4 : decode bG_init 4 = .ok (.aload_n 0, 1) := by decide +kernel
theorem dG_init_5 : decode bG_init 5 = .ok (.bipush 6, 2) := by decide +kernel
theorem dG_init_7 : decode bG_init 7 = .ok (.newarray .int, 2) := by decide +kernel
theorem dG_init_9 : decode bG_init 9 = .ok (.putfield 9, 3) := by decide +kernel
theorem dG_init_12 : decode bG_init 12 = .ok (.aload_n 0, 1) := by decide +kernel
theorem dG_init_13 : decode bG_init 13 = .ok (.iload_n 1, 1) := by decide +kernel
theorem dG_init_14 : decode bG_init 14 = .ok (.putfield 15, 3) := by decide +kernel
theorem dG_init_17 : decode bG_init 17 = .ok (.aload_n 0, 1) := by decide +kernel
theorem dG_init_18 : decode bG_init 18 = .ok (.iconst 1, 1) := by decide +kernel
theorem dG_init_19 : decode bG_init 19 = .ok (.iload_n 1, 1) := by decide +kernel
theorem dG_init_20 : decode bG_init 20 = .ok (.ishl, 1) := by decide +kernel
theorem dG_init_21 : decode bG_init 21 = .ok (.iconst 1, 1) := by decide +kernel
theorem dG_init_22 : decode bG_init 22 = .ok (.isub, 1) := by decide +kernel
theorem dG_init_23 : decode bG_init 23 = .ok (.putfield 19, 3) := by decide +kernel
theorem dG_init_26 : decode bG_init 26 = .ok (.return_, 1) := by decide +kernel
theorem dX_init_0 : decode bX_init 0 = .ok (.aload_n 0, 1) := by decide +kernel
theorem dX_init_1 : decode bX_init 1 = .ok (.invokespecial 1, 3) := by decide +kernel
theorem dX_init_4 : decode bX_init 4 = .ok (.aload_n 0, 1) := by decide +kernel
theorem dX_init_5 : decode bX_init 5 = .ok (.bipush 14, 2) := by decide +kernel
theorem dX_init_7 : decode bX_init 7 = .ok (.newarray .int, 2) := by decide +kernel
theorem dX_init_9 : decode bX_init 9 = .ok (.putfield 9, 3) := by decide +kernel
theorem dX_init_12 : decode bX_init 12 = .ok (.aload_n 0, 1) := by decide +kernel
theorem dX_init_13 : decode bX_init 13 = .ok (.bipush 14, 2) := by decide +kernel
theorem dX_init_15 : decode bX_init 15 = .ok (.newarray .int, 2) := by decide +kernel
theorem dX_init_17 : decode bX_init 17 = .ok (.putfield 13, 3) := by decide +kernel
theorem dX_init_20 : decode bX_init 20 = .ok (.aload_n 0, 1) := by decide +kernel
theorem dX_init_21 : decode bX_init 21 = .ok (.bipush 14, 2) := by decide +kernel
theorem dX_init_23 : decode bX_init 23 = .ok (.newarray .int, 2) := by decide +kernel
theorem dX_init_25 : decode bX_init 25 = .ok (.putfield 16, 3) := by decide +kernel
theorem dX_init_28 : decode bX_init 28 = .ok (.aload_n 0, 1) := by decide +kernel
theorem dX_init_29 : decode bX_init 29 = .ok (.bipush 14, 2) := by decide +kernel
theorem dX_init_31 : decode bX_init 31 = .ok (.newarray .int, 2) := by decide +kernel
theorem dX_init_33 : decode bX_init 33 = .ok (.putfield 19, 3) := by decide +kernel
theorem dX_init_36 : decode bX_init 36 = .ok (.aload_n 0, 1) := by decide +kernel
theorem dX_init_37 : decode bX_init 37 = .ok (.bipush 84, 2) := by decide +kernel
theorem dX_init_39 : decode bX_init 39 = .ok (.newarray .int, 2) := by decide +kernel
theorem dX_init_41 : decode bX_init 41 = .ok (.putfield 22, 3) := by decide +kernel
theorem dX_init_44 : decode bX_init 44 = .ok (.aload_n 0, 1) := by decide +kernel
theorem dX_init_45 : decode bX_init 45 = .ok (.iconst 0, 1) := by decide +kernel
theorem dX_init_46 : decode bX_init 46 = .ok (.putfield 27, 3) := by decide +kernel
theorem dX_init_49 : decode bX_init 49 = .ok (.aload_n 0, 1) := by decide +kernel
theorem dX_init_50 : decode bX_init 50 = .ok (.iconst 2, 1) := by decide +kernel
theorem dX_init_51 : decode bX_init 51 = .ok (.iload_n 1, 1) := by decide +kernel
theorem dX_init_52 : decode bX_init 52 = .ok (.bipush 7, 2) := by decide +kernel
theorem dX_init_54 : decode bX_init 54 = .ok (.iand, 1) := by decide +kernel
theorem dX_init_55 : decode bX_init 55 = .ok (.iadd, 1) := by decide +kernel
theorem dX_init_56 : decode bX_init 56 = .ok (.bipush 6, 2) := by decide +kernel
theorem dX_init_58 : decode bX_init 58 = .ok (.invokestatic 31, 3) := by decide +kernel
theorem dX_init_61 : decode bX_init 61 = .ok (.putfield 37, 3) := by decide +kernel
theorem dX_init_64 : decode bX_init 64 = .ok (.aload_n 0, 1) := by decide +kernel
theorem dX_init_65 : decode bX_init 65 = .ok (.iconst 2, 1) := by decide +kernel
theorem dX_init_66 : decode bX_init 66 = .ok (.iload_n 2, 1) := by decide +kernel
theorem dX_init_67 : decode bX_init 67 = .ok (.bipush 7, 2) := by decide +kernel
theorem dX_init_69 : decode bX_init 69 = .ok (.iand, 1) := by decide +kernel
theorem dX_init_70 : decode bX_init 70 = .ok (.iadd, 1) := by decide +kernel
theorem dX_init_71 : decode bX_init 71 = .ok (.putfield 40, 3) := by decide +kernel
theorem dX_init_74 : decode bX_init 74 = .ok (.aload_n 0, 1) := by decide +kernel
theorem dX_init_75 : decode bX_init 75 = .ok (.new 43, 3) := by decide +kernel
theorem dX_init_78 : decode bX_init 78 = .ok (.dup, 1) := by decide +kernel
theorem dX_init_79 : decode bX_init 79 = .ok (.aload_n 0, 1) := by decide +kernel
theorem dX_init_80 : decode bX_init 80 = .ok (.getfield 37, 3) := by decide +kernel
theorem dX_init_83 : decode bX_init 83 = .ok (.invokespecial 45, 3) := by decide +kernel
theorem dX_init_86 : decode bX_init 86 = .ok (.putfield 48, 3) := by decide +kernel
theorem dX_init_89 : decode bX_init 89 = .ok (.return_, 1) := by decide +kernel
theorem dM_init_0 : decode bM_init 0 = .ok (.aload_n 0, 1) := by decide +kernel
theorem dM_init_1 : decode bM_init 1 = .ok (.invokespecial 1, 3) := by decide +kernel
theorem dM_init_4 : decode bM_init 4 = .ok (.aload_n 0, 1) := by decide +kernel
theorem dM_init_5 : decode bM_init 5 = .ok (.bipush 14, 2) := by decide +kernel
theorem dM_init_7 : decode bM_init 7 = .ok (.newarray .int, 2) := by decide +kernel
theorem dM_init_9 : decode bM_init 9 = .ok (.putfield 7, 3) := by decide +kernel
theorem dM_init_12 : decode bM_init 12 = .ok (.aload_n 0, 1) := by decide +kernel
theorem dM_init_13 : decode bM_init 13 = .ok (.bipush 14, 2) := by decide +kernel
theorem dM_init_15 : decode bM_init 15 = .ok (.newarray .int, 2) := by decide +kernel
theorem dM_init_17 : decode bM_init 17 = .ok (.putfield 13, 3) := by decide +kernel
theorem dM_init_20 : decode bM_init 20 = .ok (.aload_n 0, 1) := by decide +kernel
theorem dM_init_21 : decode bM_init 21 = .ok (.bipush 14, 2) := by decide +kernel
theorem dM_init_23 : decode bM_init 23 = .ok (.newarray .int, 2) := by decide +kernel
theorem dM_init_25 : decode bM_init 25 = .ok (.putfield 16, 3) := by decide +kernel
theorem dM_init_28 : decode bM_init 28 = .ok (.aload_n 0, 1) := by decide +kernel
theorem dM_init_29 : decode bM_init 29 = .ok (.bipush 14, 2) := by decide +kernel
theorem dM_init_31 : decode bM_init 31 = .ok (.newarray .int, 2) := by decide +kernel
theorem dM_init_33 : decode bM_init 33 = .ok (.putfield 19, 3) := by decide +kernel
theorem dM_init_36 : decode bM_init 36 = .ok (.aload_n 0, 1) := by decide +kernel
theorem dM_init_37 : decode bM_init 37 = .ok (.bipush 84, 2) := by decide +kernel
theorem dM_init_39 : decode bM_init 39 = .ok (.newarray .int, 2) := by decide +kernel
theorem dM_init_41 : decode bM_init 41 = .ok (.putfield 22, 3) := by decide +kernel
theorem dM_init_44 : decode bM_init 44 = .ok (.aload_n 0, 1) := by decide +kernel
theorem dM_init_45 : decode bM_init 45 = .ok (.bipush 6, 2) := by decide +kernel
theorem dM_init_47 : decode bM_init 47 = .ok (.newarray .int, 2) := by decide +kernel
theorem dM_init_49 : decode bM_init 49 = .ok (.putfield 25, 3) := by decide +kernel
theorem dM_init_52 : decode bM_init 52 = .ok (.aload_n 0, 1) := by decide +kernel
theorem dM_init_53 : decode bM_init 53 = .ok (.sipush 384, 3) := by decide +kernel
theorem dM_init_56 : decode bM_init 56 = .ok (.newarray .boolean, 2) := by decide +kernel
theorem dM_init_58 : decode bM_init 58 = .ok (.putfield 28, 3) := by decide +kernel
theorem dM_init_61 : decode bM_init 61 = .ok (.aload_n 0, 1) := by decide +kernel
theorem dM_init_62 : decode bM_init 62 = .ok (.iconst 2, 1) := by decide +kernel
theorem dM_init_63 : decode bM_init 63 = .ok (.iload_n 1, 1) := by decide +kernel
theorem dM_init_64 : decode bM_init 64 = .ok (.bipush 7, 2) := by decide +kernel
theorem dM_init_66 : decode bM_init 66 = .ok (.iand, 1) := by decide +kernel
theorem dM_init_67 : decode bM_init 67 = .ok (.iadd, 1) := by decide +kernel
theorem dM_init_68 : decode bM_init 68 = .ok (.bipush 6, 2) := by decide +kernel
theorem dM_init_70 : decode bM_init 70 = .ok (.if_icmp .le 8, 3) := by decide +kernel
theorem dM_init_73 : decode bM_init 73 = .ok (.bipush 6, 2) := by decide +kernel
theorem dM_init_75 : decode bM_init 75 = .ok (.goto 9, 3) := by decide +kernel
theorem dM_init_78 : decode bM_init 78 = .ok (.iconst 2, 1) := by decide +kernel
theorem dM_init_79 : decode bM_init 79 = .ok (.iload_n 1, 1) := by decide +kernel
theorem dM_init_80 : decode bM_init 80 = .ok (.bipush 7, 2) := by decide +kernel
theorem dM_init_82 : decode bM_init 82 = .ok (.iand, 1) := by decide +kernel
theorem dM_init_83 : decode bM_init 83 = .ok (.iadd, 1) := by decide +kernel
theorem dM_init_84 : decode bM_init 84 = .ok (.putfield 32, 3) := by decide +kernel
theorem dM_init_87 : decode bM_init 87 = .ok (.aload_n 0, 1) := by decide +kernel
theorem dM_init_88 : decode bM_init 88 = .ok (.iconst 2, 1) := by decide +kernel
theorem dM_init_89 : decode bM_init 89 = .ok (.iload_n 2, 1) := by decide +kernel
theorem dM_init_90 : decode bM_init 90 = .ok (.bipush 7, 2) := by decide +kernel
theorem dM_init_92 : decode bM_init 92 = .ok (.iand, 1) := by decide +kernel
theorem dM_init_93 : decode bM_init 93 = .ok (.iadd, 1) := by decide +kernel
theorem dM_init_94 : decode bM_init 94 = .ok (.putfield 36, 3) := by decide +kernel
theorem dM_init_97 : decode bM_init 97 = .ok (.return_, 1) := by decide +kernel
theorem inG_init_G : ∀ x ∈ u_ws RcG TcG 3, x ∈ wG_init := by decide +kernel
theorem inX_init_X : ∀ x ∈ u_ws RcX TcX 16, x ∈ wX_init := by decide +kernel
theorem inM_init_M : ∀ x ∈ u_ws RcM TcM 18, x ∈ wM_init := by decide +kernel
theorem inX_init_G : ∀ x ∈ u_ws RcG TcG 3, x ∈ wX_init := by decide +kernel
set_option maxRecDepth 20000 in
theorem gX_init_G_init : GoodIn wX_init wG_init := goodIn_r _ [23, 24, 2, 3, 4, 25, 26, 27, 44, 45, 46] (by decide +kernel) (by decide +kernel)

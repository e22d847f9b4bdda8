theorem dM_fewest_0 : decode bM_fewest 0 = .ok (.iconst 1, 1) := by decide +kernel
theorem dM_fewest_1 : decode bM_fewest 1 = .ok (.aload_n 0, 1) := by decide +kernel
theorem dM_fewest_2 : decode bM_fewest 2 = .ok (.getfield 32, 3) := by decide +kernel
theorem dM_fewest_5 : decode bM_fewest 5 = .ok (.ishl, 1) := by decide +kernel
theorem dM_fewest_6 : decode bM_fewest 6 = .ok (.iconst 1, 1) := by decide +kernel
theorem dM_fewest_7 : decode bM_fewest 7 = .ok (.isub, 1) := by decide +kernel
theorem dM_fewest_8 : decode bM_fewest 8 = .ok (.istore_n 1, 1) := by decide +kernel
theorem dM_fewest_9 : decode bM_fewest 9 = .ok (.iconst 0, 1) := by decide +kernel
theorem dM_fewest_10 : decode bM_fewest 10 = .ok (.istore_n 2, 1) := by decide +kernel
theorem dM_fewest_11 : decode bM_fewest 11 = .ok (.iload_n 2, 1) := by decide +kernel
theorem dM_fewest_12 : decode bM_fewest 12 = .ok (.aload_n 0, 1) := by decide +kernel
theorem dM_fewest_13 : decode bM_fewest 13 = .ok (.getfield 32, 3) := by decide +kernel
theorem dM_fewest_16 : decode bM_fewest 16 = .ok (.if_icmp .gt 44, 3) := by decide +kernel
theorem dM_fewest_19 : decode bM_fewest 19 = .ok (.iconst 0, 1) := by decide +kernel
theorem dM_fewest_20 : decode bM_fewest 20 = .ok (.istore_n 3, 1) := by decide +kernel
theorem dM_fewest_21 : decode bM_fewest 21 = .ok (.iload_n 3, 1) := by decide +kernel
theorem dM_fewest_22 : decode bM_fewest 22 = .ok (.iload_n 1, 1) := by decide +kernel
theorem dM_fewest_23 : decode bM_fewest 23 = .ok (.if_icmp .gt 31, 3) := by decide +kernel
theorem dM_fewest_26 : decode bM_fewest 26 = .ok (.iload_n 3, 1) := by decide +kernel
theorem dM_fewest_27 : decode bM_fewest 27 = .ok (.invokestatic 61, 3) := by decide +kernel
theorem dM_fewest_30 : decode bM_fewest 30 = .ok (.iload_n 2, 1) := by decide +kernel
theorem dM_fewest_31 : decode bM_fewest 31 = .ok (.if_icmp .ne 17, 3) := by decide +kernel
theorem dM_fewest_34 : decode bM_fewest 34 = .ok (.aload_n 0, 1) := by decide +kernel
theorem dM_fewest_35 : decode bM_fewest 35 = .ok (.iload_n 1, 1) := by decide +kernel
theorem dM_fewest_36 : decode bM_fewest 36 = .ok (.iload_n 3, 1) := by decide +kernel
theorem dM_fewest_37 : decode bM_fewest 37 = .ok (.iconst (-1), 1) := by decide +kernel
theorem dM_fewest_38 : decode bM_fewest 38 = .ok (.ixor, 1) := by decide +kernel
theorem dM_fewest_39 : decode bM_fewest 39 = .ok (.iand, 1) := by decide +kernel
theorem dM_fewest_40 : decode bM_fewest 40 = .ok (.invokevirtual 64, 3) := by decide +kernel
theorem dM_fewest_43 : decode bM_fewest 43 = .ok (.ifCond .eq 5, 3) := by decide +kernel
theorem dM_fewest_46 : decode bM_fewest 46 = .ok (.iload_n 3, 1) := by decide +kernel
theorem dM_fewest_47 : decode bM_fewest 47 = .ok (.ireturn, 1) := by decide +kernel
theorem dM_fewest_48 : decode bM_fewest 48 = .ok (.iinc 3 1, 3) := by decide +kernel
theorem dM_fewest_51 : decode bM_fewest 51 = .ok (.goto (-30), 3) := by decide +kernel
theorem dM_fewest_54 : decode bM_fewest 54 = .ok (.iinc 2 1, 3) := by decide +kernel
theorem dM_fewest_57 : decode bM_fewest 57 = .ok (.goto (-46), 3) := by decide +kernel
theorem dM_fewest_60 : decode bM_fewest 60 = .ok (.iload_n 1, 1) := by decide +kernel
theorem dM_fewest_61 : decode bM_fewest 61 = .ok (.ireturn, 1) := by decide +kernel
theorem dM_plan_0 : decode bM_plan 0 = .ok (.aload_n 0, 1) := by decide +kernel
theorem dM_plan_1 : decode bM_plan 1 = .ok (.iconst 0, 1) := by decide +kernel
theorem dM_plan_2 : decode bM_plan 2 = .ok (.putfield 39, 3) := by decide +kernel
theorem dM_plan_5 : decode bM_plan 5 = .ok (.aload_n 0, 1) := by decide +kernel
theorem dM_plan_6 : decode bM_plan 6 = .ok (.getfield 57, 3) := by decide +kernel
theorem dM_plan_9 : decode bM_plan 9 = .ok (.ifCond .eq 9, 3) := by decide +kernel
theorem dM_plan_12 : decode bM_plan 12 = .ok (.aload_n 0, 1) := by decide +kernel
theorem dM_plan_13 : decode bM_plan 13 = .ok (.iconst 1, 1) := by decide +kernel
theorem dM_plan_14 : decode bM_plan 14 = .ok (.invokevirtual 53, 3) := by decide +kernel
theorem dM_plan_17 : decode bM_plan 17 = .ok (.ireturn, 1) := by decide +kernel
theorem dM_plan_18 : decode bM_plan 18 = .ok (.iconst 0, 1) := by decide +kernel
theorem dM_plan_19 : decode bM_plan 19 = .ok (.istore_n 1, 1) := by decide +kernel
theorem dM_plan_20 : decode bM_plan 20 = .ok (.iload_n 1, 1) := by decide +kernel
theorem dM_plan_21 : decode bM_plan 21 = .ok (.aload_n 0, 1) := by decide +kernel
theorem dM_plan_22 : decode bM_plan 22 = .ok (.getfield 32, 3) := by decide +kernel
theorem dM_plan_25 : decode bM_plan 25 = .ok (.if_icmp .ge 31, 3) := by decide +kernel
theorem dM_plan_28 : decode bM_plan 28 = .ok (.aload_n 0, 1) := by decide +kernel
theorem dM_plan_29 : decode bM_plan 29 = .ok (.iload_n 1, 1) := by decide +kernel
theorem dM_plan_30 : decode bM_plan 30 = .ok (.invokevirtual 67, 3) := by decide +kernel
theorem dM_plan_33 : decode bM_plan 33 = .ok (.iconst 1, 1) := by decide +kernel
theorem dM_plan_34 : decode bM_plan 34 = .ok (.aload_n 0, 1) := by decide +kernel
theorem dM_plan_35 : decode bM_plan 35 = .ok (.getfield 32, 3) := by decide +kernel
theorem dM_plan_38 : decode bM_plan 38 = .ok (.ishl, 1) := by decide +kernel
theorem dM_plan_39 : decode bM_plan 39 = .ok (.iconst 1, 1) := by decide +kernel
theorem dM_plan_40 : decode bM_plan 40 = .ok (.isub, 1) := by decide +kernel
theorem dM_plan_41 : decode bM_plan 41 = .ok (.if_icmp .eq 9, 3) := by decide +kernel
theorem dM_plan_44 : decode bM_plan 44 = .ok (.aload_n 0, 1) := by decide +kernel
theorem dM_plan_45 : decode bM_plan 45 = .ok (.iconst 2, 1) := by decide +kernel
theorem dM_plan_46 : decode bM_plan 46 = .ok (.invokevirtual 53, 3) := by decide +kernel
theorem dM_plan_49 : decode bM_plan 49 = .ok (.ireturn, 1) := by decide +kernel
theorem dM_plan_50 : decode bM_plan 50 = .ok (.iinc 1 1, 3) := by decide +kernel
theorem dM_plan_53 : decode bM_plan 53 = .ok (.goto (-33), 3) := by decide +kernel
theorem dM_plan_56 : decode bM_plan 56 = .ok (.aload_n 0, 1) := by decide +kernel
theorem dM_plan_57 : decode bM_plan 57 = .ok (.iconst 1, 1) := by decide +kernel
theorem dM_plan_58 : decode bM_plan 58 = .ok (.putfield 57, 3) := by decide +kernel
theorem dM_plan_61 : decode bM_plan 61 = .ok (.aload_n 0, 1) := by decide +kernel
theorem dM_plan_62 : decode bM_plan 62 = .ok (.aload_n 0, 1) := by decide +kernel
theorem dM_plan_63 : decode bM_plan 63 = .ok (.getfield 70, 3) := by decide +kernel
theorem dM_plan_66 : decode bM_plan 66 = .ok (.putfield 73, 3) := by decide +kernel
theorem dM_plan_69 : decode bM_plan 69 = .ok (.aload_n 0, 1) := by decide +kernel
theorem dM_plan_70 : decode bM_plan 70 = .ok (.aload_n 0, 1) := by decide +kernel
theorem dM_plan_71 : decode bM_plan 71 = .ok (.invokevirtual 76, 3) := by decide +kernel
theorem dM_plan_74 : decode bM_plan 74 = .ok (.putfield 80, 3) := by decide +kernel
theorem dM_plan_77 : decode bM_plan 77 = .ok (.aload_n 0, 1) := by decide +kernel
theorem dM_plan_78 : decode bM_plan 78 = .ok (.aload_n 0, 1) := by decide +kernel
theorem dM_plan_79 : decode bM_plan 79 = .ok (.invokevirtual 83, 3) := by decide +kernel
theorem dM_plan_82 : decode bM_plan 82 = .ok (.putfield 86, 3) := by decide +kernel
theorem dM_plan_85 : decode bM_plan 85 = .ok (.aload_n 0, 1) := by decide +kernel
theorem dM_plan_86 : decode bM_plan 86 = .ok (.getfield 80, 3) := by decide +kernel
theorem dM_plan_89 : decode bM_plan 89 = .ok (.ireturn, 1) := by decide +kernel
theorem dM_deploy_0 : decode bM_deploy 0 = .ok (.aload_n 0, 1) := by decide +kernel
theorem dM_deploy_1 : decode bM_deploy 1 = .ok (.aload_n 0, 1) := by decide +kernel
theorem dM_deploy_2 : decode bM_deploy 2 = .ok (.iload_n 1, 1) := by decide +kernel
theorem dM_deploy_3 : decode bM_deploy 3 = .ok (.invokevirtual 130, 3) := by decide +kernel
theorem dM_deploy_6 : decode bM_deploy 6 = .ok (.ifCond .ne 7, 3) := by decide +kernel
theorem dM_deploy_9 : decode bM_deploy 9 = .ok (.iconst 1, 1) := by decide +kernel
theorem dM_deploy_10 : decode bM_deploy 10 = .ok (.goto 24, 3) := by decide +kernel
theorem dM_deploy_13 : decode bM_deploy 13 = .ok (.aload_n 0, 1) := by decide +kernel
theorem dM_deploy_14 : decode bM_deploy 14 = .ok (.getfield 57, 3) := by decide +kernel
theorem dM_deploy_17 : decode bM_deploy 17 = .ok (.ifCond .eq 12, 3) := by decide +kernel
theorem dM_deploy_20 : decode bM_deploy 20 = .ok (.aload_n 0, 1) := by decide +kernel
theorem dM_deploy_21 : decode bM_deploy 21 = .ok (.getfield 16, 3) := by decide +kernel
theorem dM_deploy_24 : decode bM_deploy 24 = .ok (.iload_n 1, 1) := by decide +kernel
theorem dM_deploy_25 : decode bM_deploy 25 = .ok (.iaload, 1) := by decide +kernel
theorem dM_deploy_26 : decode bM_deploy 26 = .ok (.ifCond .eq 7, 3) := by decide +kernel
theorem dM_deploy_29 : decode bM_deploy 29 = .ok (.iconst 2, 1) := by decide +kernel
theorem dM_deploy_30 : decode bM_deploy 30 = .ok (.goto 4, 3) := by decide +kernel
theorem dM_deploy_33 : decode bM_deploy 33 = .ok (.iconst 0, 1) := by decide +kernel
theorem dM_deploy_34 : decode bM_deploy 34 = .ok (.putfield 39, 3) := by decide +kernel
theorem dM_deploy_37 : decode bM_deploy 37 = .ok (.aload_n 0, 1) := by decide +kernel
theorem dM_deploy_38 : decode bM_deploy 38 = .ok (.getfield 39, 3) := by decide +kernel
theorem dM_deploy_41 : decode bM_deploy 41 = .ok (.ifCond .ne 10, 3) := by decide +kernel
theorem dM_deploy_44 : decode bM_deploy 44 = .ok (.aload_n 0, 1) := by decide +kernel
theorem dM_deploy_45 : decode bM_deploy 45 = .ok (.getfield 16, 3) := by decide +kernel
theorem dM_deploy_48 : decode bM_deploy 48 = .ok (.iload_n 1, 1) := by decide +kernel
theorem dM_deploy_49 : decode bM_deploy 49 = .ok (.iconst 1, 1) := by decide +kernel
theorem dM_deploy_50 : decode bM_deploy 50 = .ok (.iastore, 1) := by decide +kernel
theorem dM_deploy_51 : decode bM_deploy 51 = .ok (.return_, 1) := by decide +kernel
theorem dM_back_0 : decode bM_back 0 = .ok (.aload_n 0, 1) := by decide +kernel
theorem dM_back_1 : decode bM_back 1 = .ok (.aload_n 0, 1) := by decide +kernel
theorem dM_back_2 : decode bM_back 2 = .ok (.iload_n 1, 1) := by decide +kernel
theorem dM_back_3 : decode bM_back 3 = .ok (.invokevirtual 130, 3) := by decide +kernel
theorem dM_back_6 : decode bM_back 6 = .ok (.ifCond .ne 7, 3) := by decide +kernel
theorem dM_back_9 : decode bM_back 9 = .ok (.iconst 1, 1) := by decide +kernel
theorem dM_back_10 : decode bM_back 10 = .ok (.goto 29, 3) := by decide +kernel
theorem dM_back_13 : decode bM_back 13 = .ok (.aload_n 0, 1) := by decide +kernel
theorem dM_back_14 : decode bM_back 14 = .ok (.getfield 16, 3) := by decide +kernel
theorem dM_back_17 : decode bM_back 17 = .ok (.iload_n 1, 1) := by decide +kernel
theorem dM_back_18 : decode bM_back 18 = .ok (.iaload, 1) := by decide +kernel
theorem dM_back_19 : decode bM_back 19 = .ok (.iconst 1, 1) := by decide +kernel
theorem dM_back_20 : decode bM_back 20 = .ok (.if_icmp .eq 7, 3) := by decide +kernel
theorem dM_back_23 : decode bM_back 23 = .ok (.iconst 2, 1) := by decide +kernel
theorem dM_back_24 : decode bM_back 24 = .ok (.goto 15, 3) := by decide +kernel
theorem dM_back_27 : decode bM_back 27 = .ok (.aload_n 0, 1) := by decide +kernel
theorem dM_back_28 : decode bM_back 28 = .ok (.invokevirtual 100, 3) := by decide +kernel
theorem dM_back_31 : decode bM_back 31 = .ok (.ifCond .ne 7, 3) := by decide +kernel
theorem dM_back_34 : decode bM_back 34 = .ok (.iconst 3, 1) := by decide +kernel
theorem dM_back_35 : decode bM_back 35 = .ok (.goto 4, 3) := by decide +kernel
theorem dM_back_38 : decode bM_back 38 = .ok (.iconst 0, 1) := by decide +kernel
theorem dM_back_39 : decode bM_back 39 = .ok (.putfield 39, 3) := by decide +kernel
theorem dM_back_42 : decode bM_back 42 = .ok (.aload_n 0, 1) := by decide +kernel
theorem dM_back_43 : decode bM_back 43 = .ok (.getfield 39, 3) := by decide +kernel
theorem dM_back_46 : decode bM_back 46 = .ok (.ifCond .ne 10, 3) := by decide +kernel
theorem dM_back_49 : decode bM_back 49 = .ok (.aload_n 0, 1) := by decide +kernel
theorem dM_back_50 : decode bM_back 50 = .ok (.getfield 16, 3) := by decide +kernel
theorem dM_back_53 : decode bM_back 53 = .ok (.iload_n 1, 1) := by decide +kernel
theorem dM_back_54 : decode bM_back 54 = .ok (.iconst 3, 1) := by decide +kernel
theorem dM_back_55 : decode bM_back 55 = .ok (.iastore, 1) := by decide +kernel
theorem dM_back_56 : decode bM_back 56 = .ok (.return_, 1) := by decide +kernel
theorem inM_fewest_M : ∀ x ∈ u_ws RcM TcM 18, x ∈ wM_fewest := by decide +kernel
set_option maxRecDepth 20000 in
theorem gM_fewest_M_size : GoodIn wM_fewest (va_wsS RcM 61 yM_size wM_size) := goodIn_app (goodIn_of _ (by decide +kernel)) (goodIn_r _ [8] (by decide +kernel) (by decide +kernel))
set_option maxRecDepth 20000 in
theorem gM_fewest_M_isOpen : GoodIn wM_fewest (wsV RcM 64 RcM yM_isOpen wM_isOpen) := goodIn_app (goodIn_of _ (by decide +kernel)) (goodIn_r _ [9, 1, 10, 11, 4, 12, 13, 14, 15, 16, 17, 18, 19, 20, 21, 22, 23, 24, 25, 26, 27, 28, 29, 30, 31] (by decide +kernel) (by decide +kernel))
theorem inM_plan_M : ∀ x ∈ u_ws RcM TcM 18, x ∈ wM_plan := by decide +kernel
set_option maxRecDepth 20000 in
theorem gM_plan_M_reached : GoodIn wM_plan (wsV RcM 67 RcM yM_reached wM_reached) := goodIn_app (goodIn_of _ (by decide +kernel)) (goodIn_r _ [22, 7, 23, 24, 6, 25, 26, 37, 38, 39, 40, 41, 42, 43, 44, 45, 46, 47, 48, 49, 50, 51, 52, 53, 54] (by decide +kernel) (by decide +kernel))
set_option maxRecDepth 20000 in
theorem gM_plan_M_fail : GoodIn wM_plan (wsV RcM 53 RcM yM_fail wM_fail) := goodIn_app (goodIn_of _ (by decide +kernel)) (goodIn_r _ [21, 1, 37, 38, 39, 40, 41, 42, 43, 44, 45, 46, 47, 48, 49, 50, 51, 52, 53, 54] (by decide +kernel) (by decide +kernel))
set_option maxRecDepth 20000 in
theorem gM_plan_M_greatest : GoodIn wM_plan (wsV RcM 76 RcM yM_greatest wM_greatest) := goodIn_app (goodIn_of _ (by decide +kernel)) (goodIn_r _ [27, 7, 23, 24, 6, 25, 28, 29, 30, 26, 31, 37, 38, 39, 40, 41, 42, 43, 44, 45, 46, 47, 48, 49, 50, 51, 52, 53, 54] (by decide +kernel) (by decide +kernel))
set_option maxRecDepth 20000 in
theorem gM_plan_M_fewest : GoodIn wM_plan (wsV RcM 83 RcM yM_fewest wM_fewest) := goodIn_app (goodIn_of _ (by decide +kernel)) (goodIn_r _ [32, 7, 29, 30, 6, 33, 34, 35, 31, 36, 23, 24, 25, 26, 37, 38, 39, 40, 41, 42, 43, 44, 45, 46, 47, 48, 49, 50, 51, 52, 53, 54] (by decide +kernel) (by decide +kernel))
set_option maxRecDepth 20000 in
theorem gM_deploy_M_isArc : GoodIn wM_deploy (wsV RcM 130 RcM yM_isArc wM_isArc) := goodIn_app (goodIn_of _ (by decide +kernel)) (goodIn_r _ [8, 9, 10, 11, 12, 13, 14, 15, 16, 17, 18, 19, 20, 21, 22, 23, 24, 25, 26, 27] (by decide +kernel) (by decide +kernel))
theorem inM_deploy_M : ∀ x ∈ u_ws RcM TcM 18, x ∈ wM_deploy := by decide +kernel
set_option maxRecDepth 20000 in
theorem gM_back_M_isArc : GoodIn wM_back (wsV RcM 130 RcM yM_isArc wM_isArc) := goodIn_app (goodIn_of _ (by decide +kernel)) (goodIn_r _ [10, 11, 17, 18, 19, 20, 21, 22, 23, 24, 25, 26, 27, 28, 29, 30, 31, 32, 33, 34] (by decide +kernel) (by decide +kernel))
theorem inM_back_M : ∀ x ∈ u_ws RcM TcM 18, x ∈ wM_back := by decide +kernel
set_option maxRecDepth 20000 in
theorem gM_back_M_isLate : GoodIn wM_back (wsV RcM 100 RcM yM_isLate wM_isLate) := goodIn_app (goodIn_of _ (by decide +kernel)) (goodIn_r _ [12, 13, 14, 15, 16, 17, 18, 19, 20, 21, 22, 23, 24, 25, 26, 27, 28, 29, 30, 31, 32, 33, 34] (by decide +kernel) (by decide +kernel))

theorem dR_party_0 : decode bR_party 0 = .ok (.iload_n 1, 1) := by decide +kernel
theorem dR_party_1 : decode bR_party 1 = .ok (.ifCond .lt 9, 3) := by decide +kernel
theorem dR_party_4 : decode bR_party 4 = .ok (.iload_n 1, 1) := by decide +kernel
theorem dR_party_5 : decode bR_party 5 = .ok (.bipush 6, 2) := by decide +kernel
theorem dR_party_7 : decode bR_party 7 = .ok (.if_icmp .lt 7, 3) := by decide +kernel
theorem dR_party_10 : decode bR_party 10 = .ok (.iconst (-1), 1) := by decide +kernel
theorem dR_party_11 : decode bR_party 11 = .ok (.goto 13, 3) := by decide +kernel
theorem dR_party_14 : decode bR_party 14 = .ok (.iload_n 0, 1) := by decide +kernel
theorem dR_party_15 : decode bR_party 15 = .ok (.iconst 3, 1) := by decide +kernel
theorem dR_party_16 : decode bR_party 16 = .ok (.iload_n 1, 1) := by decide +kernel
theorem dR_party_17 : decode bR_party 17 = .ok (.imul, 1) := by decide +kernel
theorem dR_party_18 : decode bR_party 18 = .ok (.iushr, 1) := by decide +kernel
theorem dR_party_19 : decode bR_party 19 = .ok (.bipush 7, 2) := by decide +kernel
theorem dR_party_21 : decode bR_party 21 = .ok (.iand, 1) := by decide +kernel
theorem dR_party_22 : decode bR_party 22 = .ok (.iconst 1, 1) := by decide +kernel
theorem dR_party_23 : decode bR_party 23 = .ok (.isub, 1) := by decide +kernel
theorem dR_party_24 : decode bR_party 24 = .ok (.ireturn, 1) := by decide +kernel
theorem dR_size_0 : decode bR_size 0 = .ok (.iconst 0, 1) := by decide +kernel
theorem dR_size_1 : decode bR_size 1 = .ok (.istore_n 1, 1) := by decide +kernel
theorem dR_size_2 : decode bR_size 2 = .ok (.iload_n 1, 1) := by decide +kernel
theorem dR_size_3 : decode bR_size 3 = .ok (.bipush 6, 2) := by decide +kernel
theorem dR_size_5 : decode bR_size 5 = .ok (.if_icmp .ge 17, 3) := by decide +kernel
theorem dR_size_8 : decode bR_size 8 = .ok (.iload_n 0, 1) := by decide +kernel
theorem dR_size_9 : decode bR_size 9 = .ok (.iconst 3, 1) := by decide +kernel
theorem dR_size_10 : decode bR_size 10 = .ok (.iload_n 1, 1) := by decide +kernel
theorem dR_size_11 : decode bR_size 11 = .ok (.imul, 1) := by decide +kernel
theorem dR_size_12 : decode bR_size 12 = .ok (.iushr, 1) := by decide +kernel
theorem dR_size_13 : decode bR_size 13 = .ok (.ifCond .eq 9, 3) := by decide +kernel
theorem dR_size_16 : decode bR_size 16 = .ok (.iinc 1 1, 3) := by decide +kernel
theorem dR_size_19 : decode bR_size 19 = .ok (.goto (-17), 3) := by decide +kernel
theorem dR_size_22 : decode bR_size 22 = .ok (.iload_n 1, 1) := by decide +kernel
theorem dR_size_23 : decode bR_size 23 = .ok (.ireturn, 1) := by decide +kernel
theorem dR_first_0 : decode bR_first 0 = .ok (.iload_n 0, 1) := by decide +kernel
theorem dR_first_1 : decode bR_first 1 = .ok (.iconst 0, 1) := by decide +kernel
theorem dR_first_2 : decode bR_first 2 = .ok (.invokestatic 11, 3) := by decide +kernel
theorem dR_first_5 : decode bR_first 5 = .ok (.ireturn, 1) := by decide +kernel
theorem dR_last_0 : decode bR_last 0 = .ok (.iload_n 0, 1) := by decide +kernel
theorem dR_last_1 : decode bR_last 1 = .ok (.iload_n 0, 1) := by decide +kernel
theorem dR_last_2 : decode bR_last 2 = .ok (.invokestatic 15, 3) := by decide +kernel
theorem dR_last_5 : decode bR_last 5 = .ok (.iconst 1, 1) := by decide +kernel
theorem dR_last_6 : decode bR_last 6 = .ok (.isub, 1) := by decide +kernel
theorem dR_last_7 : decode bR_last 7 = .ok (.invokestatic 11, 3) := by decide +kernel
theorem dR_last_10 : decode bR_last 10 = .ok (.ireturn, 1) := by decide +kernel
theorem dR_rest_0 : decode bR_rest 0 = .ok (.iload_n 0, 1) := by decide +kernel
theorem dR_rest_1 : decode bR_rest 1 = .ok (.iconst 3, 1) := by decide +kernel
theorem dR_rest_2 : decode bR_rest 2 = .ok (.iushr, 1) := by decide +kernel
theorem dR_rest_3 : decode bR_rest 3 = .ok (.ireturn, 1) := by decide +kernel
theorem dR_withFirst_0 : decode bR_withFirst 0 = .ok (.iload_n 1, 1) := by decide +kernel
theorem dR_withFirst_1 : decode bR_withFirst 1 = .ok (.iconst 3, 1) := by decide +kernel
theorem dR_withFirst_2 : decode bR_withFirst 2 = .ok (.ishl, 1) := by decide +kernel
theorem dR_withFirst_3 : decode bR_withFirst 3 = .ok (.iload_n 0, 1) := by decide +kernel
theorem dR_withFirst_4 : decode bR_withFirst 4 = .ok (.iconst 1, 1) := by decide +kernel
theorem dR_withFirst_5 : decode bR_withFirst 5 = .ok (.iadd, 1) := by decide +kernel
theorem dR_withFirst_6 : decode bR_withFirst 6 = .ok (.ior, 1) := by decide +kernel
theorem dR_withFirst_7 : decode bR_withFirst 7 = .ok (.ireturn, 1) := by decide +kernel
theorem dR_withLast_0 : decode bR_withLast 0 = .ok (.iload_n 0, 1) := by decide +kernel
theorem dR_withLast_1 : decode bR_withLast 1 = .ok (.iload_n 1, 1) := by decide +kernel
theorem dR_withLast_2 : decode bR_withLast 2 = .ok (.iconst 1, 1) := by decide +kernel
theorem dR_withLast_3 : decode bR_withLast 3 = .ok (.iadd, 1) := by decide +kernel
theorem dR_withLast_4 : decode bR_withLast 4 = .ok (.iconst 3, 1) := by decide +kernel
theorem dR_withLast_5 : decode bR_withLast 5 = .ok (.iload_n 0, 1) := by decide +kernel
theorem dR_withLast_6 : decode bR_withLast 6 = .ok (.invokestatic 15, 3) := by decide +kernel
theorem dR_withLast_9 : decode bR_withLast 9 = .ok (.imul, 1) := by decide +kernel
theorem dR_withLast_10 : decode bR_withLast 10 = .ok (.ishl, 1) := by decide +kernel
theorem dR_withLast_11 : decode bR_withLast 11 = .ok (.ior, 1) := by decide +kernel
theorem dR_withLast_12 : decode bR_withLast 12 = .ok (.ireturn, 1) := by decide +kernel
theorem dR_has_0 : decode bR_has 0 = .ok (.iconst 0, 1) := by decide +kernel
theorem dR_has_1 : decode bR_has 1 = .ok (.istore_n 2, 1) := by decide +kernel
theorem dR_has_2 : decode bR_has 2 = .ok (.iload_n 2, 1) := by decide +kernel
theorem dR_has_3 : decode bR_has 3 = .ok (.bipush 6, 2) := by decide +kernel
theorem dR_has_5 : decode bR_has 5 = .ok (.if_icmp .ge 24, 3) := by decide +kernel
theorem dR_has_8 : decode bR_has 8 = .ok (.iload_n 1, 1) := by decide +kernel
theorem dR_has_9 : decode bR_has 9 = .ok (.ifCond .lt 14, 3) := by decide +kernel
theorem dR_has_12 : decode bR_has 12 = .ok (.iload_n 0, 1) := by decide +kernel
theorem dR_has_13 : decode bR_has 13 = .ok (.iload_n 2, 1) := by decide +kernel
theorem dR_has_14 : decode bR_has 14 = .ok (.invokestatic 11, 3) := by decide +kernel
theorem dR_has_17 : decode bR_has 17 = .ok (.iload_n 1, 1) := by decide +kernel
theorem dR_has_18 : decode bR_has 18 = .ok (.if_icmp .ne 5, 3) := by decide +kernel
theorem dR_has_21 : decode bR_has 21 = .ok (.iconst 1, 1) := by decide +kernel
theorem dR_has_22 : decode bR_has 22 = .ok (.ireturn, 1) := by decide +kernel
theorem dR_has_23 : decode bR_has 23 = .ok (.iinc 2 1, 3) := by decide +kernel
theorem dR_has_26 : decode bR_has 26 = .ok (.goto (-24), 3) := by decide +kernel
theorem dR_has_29 : decode bR_has 29 = .ok (.iconst 0, 1) := by decide +kernel
theorem dR_has_30 : decode bR_has 30 = .ok (.ireturn, 1) := by decide +kernel
set_option maxRecDepth 20000 in
theorem gR_first_R_party : GoodIn wR_first (va_wsS RcR 11 yR_party wR_party) := goodIn_app (goodIn_of _ (by decide +kernel)) (goodIn_r _ [4] (by decide +kernel) (by decide +kernel))
set_option maxRecDepth 20000 in
theorem gR_last_R_size : GoodIn wR_last (va_wsS RcR 15 yR_size wR_size) := goodIn_app (goodIn_of _ (by decide +kernel)) (goodIn_r _ [6] (by decide +kernel) (by decide +kernel))
set_option maxRecDepth 20000 in
theorem gR_last_R_party : GoodIn wR_last (va_wsS RcR 11 yR_party wR_party) := goodIn_app (goodIn_of _ (by decide +kernel)) (goodIn_r _ [7] (by decide +kernel) (by decide +kernel))
set_option maxRecDepth 20000 in
theorem gR_withLast_R_size : GoodIn wR_withLast (va_wsS RcR 15 yR_size wR_size) := goodIn_app (goodIn_of _ (by decide +kernel)) (goodIn_r _ [4] (by decide +kernel) (by decide +kernel))
set_option maxRecDepth 20000 in
theorem gR_has_R_party : GoodIn wR_has (va_wsS RcR 11 yR_party wR_party) := goodIn_app (goodIn_of _ (by decide +kernel)) (goodIn_r _ [4] (by decide +kernel) (by decide +kernel))

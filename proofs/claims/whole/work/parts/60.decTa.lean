def tX_state : List Cond := .code yX_state bX_state 2 (some .int) :: (([q163, q164, q165, q68, q50, q166, q71] ++ wcX) ++ wThr)
def tX_open : List Cond := .code yX_open bX_open 2 (some .int) :: (([q163, q164, q165, q68, q51, q166, q71] ++ wcX) ++ wThr)
def tX_key : List Cond := .code yX_key bX_key 4 (some .int) :: (([q163, q164, q165, q68, q157, q158, q159, q190, q1, q2, q166, q71, q162, q65, q66, q67, q52, q75, q57, q3] ++ wcX) ++ wThr)
def tX_outcome : List Cond := .code yX_outcome bX_outcome 4 (some .int) :: (([q65, q66, q67, q68, q49, q191, q192, q193, q48, q194, q195, q196, q75, q57, q197, q71, q50, q198] ++ wcX) ++ wThr)
def tX_deploy : List Cond := .code yX_deploy bX_deploy 2 none :: (([q163, q164, q165, q68, q70, q50, q166, q71] ++ wcX) ++ wThr)
def tX_back : List Cond := .code yX_back bX_back 2 none :: (([q163, q164, q165, q68, q50, q115, q116, q117, q166, q71, q127, q80, q81, q85, q58] ++ wcX) ++ wThr)
def stateF (F : FT) (a : AT) (x : Int32) : Nat × Int32 :=
  if (isArcF F a x) = 0 then
    (4, 0)
  else
    (0, (a 5) x.toNatClampNeg)
def openF (F : FT) (a : AT) (x : Int32) : Nat × Int32 :=
  if (isArcF F a x) = 0 then
    (4, 0)
  else
    (0, (a 6) x.toNatClampNeg)
def keyF (F : FT) (a : AT) (x : Int32) (y : Int32) (z : Int32) : Nat × Int32 :=
  if (isArcF F a x) = 0 then
    (4, 0)
  else
    (0, rParty (hashkeyF F a x y) z)
def outcomeF (F : FT) (a : AT) (n : Nat) (x : Int32) : Nat × Int32 :=
  if (isPartyF F a x) = 0 then
    (4, 0)
  else
    if (countPaid4F F a n x) = 0 then
      if (countPaid3F F a n x) = 0 then
        (0, 0)
      else
        if (countPaid4F F a n x) = (countArcs4F F a n x) then
          if (countPaid3F F a n x) = (countArcs3F F a n x) then
            (0, 1)
          else
            (0, 2)
        else
          (0, 4)
    else
      if (countPaid4F F a n x) = (countArcs4F F a n x) then
        if (countPaid3F F a n x) = (countArcs3F F a n x) then
          (0, 1)
        else
          (0, 2)
      else
        if (countPaid3F F a n x) = 0 then
          (0, 3)
        else
          (0, 4)
def deployF (F : FT) (a : AT) (x : Int32) : Nat × AT :=
  if (isArcF F a x) = 0 then
    (4, a)
  else
    if (F 9) = 0 then
      (2, a)
    else
      if ((a 5) x.toNatClampNeg) = 0 then
        (0, updA a 5 (upd (a 5) x.toNatClampNeg 1))
      else
        (2, a)
def backF (F : FT) (a : AT) (x : Int32) : Nat × AT :=
  if (isArcF F a x) = 0 then
    (4, a)
  else
    if ((a 5) x.toNatClampNeg) = 1 then
      if (isOverF F a) = 0 then
        (3, a)
      else
        (0, updA a 5 (upd (a 5) x.toNatClampNeg 3))
    else
      (2, a)
theorem dX_state_0 : decode bX_state 0 = .ok (.aload_n 0, 1) := by decide +kernel
theorem dX_state_1 : decode bX_state 1 = .ok (.iload_n 1, 1) := by decide +kernel
theorem dX_state_2 : decode bX_state 2 = .ok (.invokevirtual 131, 3) := by decide +kernel
theorem dX_state_5 : decode bX_state 5 = .ok (.ifCond .ne 13, 3) := by decide +kernel
theorem dX_state_8 : decode bX_state 8 = .ok (.new 134, 3) := by decide +kernel
theorem dX_state_11 : decode bX_state 11 = .ok (.dup, 1) := by decide +kernel
theorem dX_state_12 : decode bX_state 12 = .ok (.ldc 136, 2) := by decide +kernel
theorem dX_state_14 : decode bX_state 14 = .ok (.invokespecial 138, 3) := by decide +kernel
theorem dX_state_17 : decode bX_state 17 = .ok (.athrow, 1) := by decide +kernel
theorem dX_state_18 : decode bX_state 18 = .ok (.aload_n 0, 1) := by decide +kernel
theorem dX_state_19 : decode bX_state 19 = .ok (.getfield 16, 3) := by decide +kernel
theorem dX_state_22 : decode bX_state 22 = .ok (.iload_n 1, 1) := by decide +kernel
theorem dX_state_23 : decode bX_state 23 = .ok (.iaload, 1) := by decide +kernel
theorem dX_state_24 : decode bX_state 24 = .ok (.ireturn, 1) := by decide +kernel
theorem dX_open_0 : decode bX_open 0 = .ok (.aload_n 0, 1) := by decide +kernel
theorem dX_open_1 : decode bX_open 1 = .ok (.iload_n 1, 1) := by decide +kernel
theorem dX_open_2 : decode bX_open 2 = .ok (.invokevirtual 131, 3) := by decide +kernel
theorem dX_open_5 : decode bX_open 5 = .ok (.ifCond .ne 13, 3) := by decide +kernel
theorem dX_open_8 : decode bX_open 8 = .ok (.new 134, 3) := by decide +kernel
theorem dX_open_11 : decode bX_open 11 = .ok (.dup, 1) := by decide +kernel
theorem dX_open_12 : decode bX_open 12 = .ok (.ldc 136, 2) := by decide +kernel
theorem dX_open_14 : decode bX_open 14 = .ok (.invokespecial 138, 3) := by decide +kernel
theorem dX_open_17 : decode bX_open 17 = .ok (.athrow, 1) := by decide +kernel
theorem dX_open_18 : decode bX_open 18 = .ok (.aload_n 0, 1) := by decide +kernel
theorem dX_open_19 : decode bX_open 19 = .ok (.getfield 19, 3) := by decide +kernel
theorem dX_open_22 : decode bX_open 22 = .ok (.iload_n 1, 1) := by decide +kernel
theorem dX_open_23 : decode bX_open 23 = .ok (.iaload, 1) := by decide +kernel
theorem dX_open_24 : decode bX_open 24 = .ok (.ireturn, 1) := by decide +kernel
theorem dX_key_0 : decode bX_key 0 = .ok (.aload_n 0, 1) := by decide +kernel
theorem dX_key_1 : decode bX_key 1 = .ok (.iload_n 1, 1) := by decide +kernel
theorem dX_key_2 : decode bX_key 2 = .ok (.invokevirtual 131, 3) := by decide +kernel
theorem dX_key_5 : decode bX_key 5 = .ok (.ifCond .ne 13, 3) := by decide +kernel
theorem dX_key_8 : decode bX_key 8 = .ok (.new 134, 3) := by decide +kernel
theorem dX_key_11 : decode bX_key 11 = .ok (.dup, 1) := by decide +kernel
theorem dX_key_12 : decode bX_key 12 = .ok (.ldc 136, 2) := by decide +kernel
theorem dX_key_14 : decode bX_key 14 = .ok (.invokespecial 138, 3) := by decide +kernel
theorem dX_key_17 : decode bX_key 17 = .ok (.athrow, 1) := by decide +kernel
theorem dX_key_18 : decode bX_key 18 = .ok (.aload_n 0, 1) := by decide +kernel
theorem dX_key_19 : decode bX_key 19 = .ok (.iload_n 1, 1) := by decide +kernel
theorem dX_key_20 : decode bX_key 20 = .ok (.iload_n 2, 1) := by decide +kernel
theorem dX_key_21 : decode bX_key 21 = .ok (.invokevirtual 190, 3) := by decide +kernel
theorem dX_key_24 : decode bX_key 24 = .ok (.iload_n 3, 1) := by decide +kernel
theorem dX_key_25 : decode bX_key 25 = .ok (.invokestatic 193, 3) := by decide +kernel
theorem dX_key_28 : decode bX_key 28 = .ok (.ireturn, 1) := by decide +kernel
theorem dX_outcome_0 : decode bX_outcome 0 = .ok (.aload_n 0, 1) := by decide +kernel
theorem dX_outcome_1 : decode bX_outcome 1 = .ok (.iload_n 1, 1) := by decide +kernel
theorem dX_outcome_2 : decode bX_outcome 2 = .ok (.invokevirtual 52, 3) := by decide +kernel
theorem dX_outcome_5 : decode bX_outcome 5 = .ok (.ifCond .ne 13, 3) := by decide +kernel
theorem dX_outcome_8 : decode bX_outcome 8 = .ok (.new 134, 3) := by decide +kernel
theorem dX_outcome_11 : decode bX_outcome 11 = .ok (.dup, 1) := by decide +kernel
theorem dX_outcome_12 : decode bX_outcome 12 = .ok (.ldc 119, 2) := by decide +kernel
theorem dX_outcome_14 : decode bX_outcome 14 = .ok (.invokespecial 138, 3) := by decide +kernel
theorem dX_outcome_17 : decode bX_outcome 17 = .ok (.athrow, 1) := by decide +kernel
theorem dX_outcome_18 : decode bX_outcome 18 = .ok (.aload_n 0, 1) := by decide +kernel
theorem dX_outcome_19 : decode bX_outcome 19 = .ok (.aload_n 0, 1) := by decide +kernel
theorem dX_outcome_20 : decode bX_outcome 20 = .ok (.getfield 13, 3) := by decide +kernel
theorem dX_outcome_23 : decode bX_outcome 23 = .ok (.iload_n 1, 1) := by decide +kernel
theorem dX_outcome_24 : decode bX_outcome 24 = .ok (.invokevirtual 196, 3) := by decide +kernel
theorem dX_outcome_27 : decode bX_outcome 27 = .ok (.istore_n 2, 1) := by decide +kernel
theorem dX_outcome_28 : decode bX_outcome 28 = .ok (.aload_n 0, 1) := by decide +kernel
theorem dX_outcome_29 : decode bX_outcome 29 = .ok (.aload_n 0, 1) := by decide +kernel
theorem dX_outcome_30 : decode bX_outcome 30 = .ok (.getfield 9, 3) := by decide +kernel
theorem dX_outcome_33 : decode bX_outcome 33 = .ok (.iload_n 1, 1) := by decide +kernel
theorem dX_outcome_34 : decode bX_outcome 34 = .ok (.invokevirtual 196, 3) := by decide +kernel
theorem dX_outcome_37 : decode bX_outcome 37 = .ok (.istore_n 3, 1) := by decide +kernel
theorem dX_outcome_38 : decode bX_outcome 38 = .ok (.iload_n 2, 1) := by decide +kernel
theorem dX_outcome_39 : decode bX_outcome 39 = .ok (.ifCond .ne 9, 3) := by decide +kernel
theorem dX_outcome_42 : decode bX_outcome 42 = .ok (.iload_n 3, 1) := by decide +kernel
theorem dX_outcome_43 : decode bX_outcome 43 = .ok (.ifCond .ne 5, 3) := by decide +kernel
theorem dX_outcome_46 : decode bX_outcome 46 = .ok (.iconst 0, 1) := by decide +kernel
theorem dX_outcome_47 : decode bX_outcome 47 = .ok (.ireturn, 1) := by decide +kernel
theorem dX_outcome_48 : decode bX_outcome 48 = .ok (.iload_n 2, 1) := by decide +kernel
theorem dX_outcome_49 : decode bX_outcome 49 = .ok (.aload_n 0, 1) := by decide +kernel
theorem dX_outcome_50 : decode bX_outcome 50 = .ok (.aload_n 0, 1) := by decide +kernel
theorem dX_outcome_51 : decode bX_outcome 51 = .ok (.getfield 13, 3) := by decide +kernel
theorem dX_outcome_54 : decode bX_outcome 54 = .ok (.iload_n 1, 1) := by decide +kernel
theorem dX_outcome_55 : decode bX_outcome 55 = .ok (.invokevirtual 200, 3) := by decide +kernel
theorem dX_outcome_58 : decode bX_outcome 58 = .ok (.if_icmp .ne 22, 3) := by decide +kernel
theorem dX_outcome_61 : decode bX_outcome 61 = .ok (.iload_n 3, 1) := by decide +kernel
theorem dX_outcome_62 : decode bX_outcome 62 = .ok (.aload_n 0, 1) := by decide +kernel
theorem dX_outcome_63 : decode bX_outcome 63 = .ok (.aload_n 0, 1) := by decide +kernel
theorem dX_outcome_64 : decode bX_outcome 64 = .ok (.getfield 9, 3) := by decide +kernel
theorem dX_outcome_67 : decode bX_outcome 67 = .ok (.iload_n 1, 1) := by decide +kernel
theorem dX_outcome_68 : decode bX_outcome 68 = .ok (.invokevirtual 200, 3) := by decide +kernel
theorem dX_outcome_71 : decode bX_outcome 71 = .ok (.if_icmp .ne 7, 3) := by decide +kernel
theorem dX_outcome_74 : decode bX_outcome 74 = .ok (.iconst 1, 1) := by decide +kernel
theorem dX_outcome_75 : decode bX_outcome 75 = .ok (.goto 4, 3) := by decide +kernel
theorem dX_outcome_78 : decode bX_outcome 78 = .ok (.iconst 2, 1) := by decide +kernel
theorem dX_outcome_79 : decode bX_outcome 79 = .ok (.ireturn, 1) := by decide +kernel
theorem dX_outcome_80 : decode bX_outcome 80 = .ok (.iload_n 3, 1) := by decide +kernel
theorem dX_outcome_81 : decode bX_outcome 81 = .ok (.ifCond .ne 7, 3) := by decide +kernel
theorem dX_outcome_84 : decode bX_outcome 84 = .ok (.iconst 3, 1) := by decide +kernel
theorem dX_outcome_85 : decode bX_outcome 85 = .ok (.goto 4, 3) := by decide +kernel
theorem dX_outcome_88 : decode bX_outcome 88 = .ok (.iconst 4, 1) := by decide +kernel
theorem dX_outcome_89 : decode bX_outcome 89 = .ok (.ireturn, 1) := by decide +kernel
theorem dX_deploy_0 : decode bX_deploy 0 = .ok (.aload_n 0, 1) := by decide +kernel
theorem dX_deploy_1 : decode bX_deploy 1 = .ok (.iload_n 1, 1) := by decide +kernel
theorem dX_deploy_2 : decode bX_deploy 2 = .ok (.invokevirtual 131, 3) := by decide +kernel
theorem dX_deploy_5 : decode bX_deploy 5 = .ok (.ifCond .ne 13, 3) := by decide +kernel
theorem dX_deploy_8 : decode bX_deploy 8 = .ok (.new 134, 3) := by decide +kernel
theorem dX_deploy_11 : decode bX_deploy 11 = .ok (.dup, 1) := by decide +kernel
theorem dX_deploy_12 : decode bX_deploy 12 = .ok (.ldc 136, 2) := by decide +kernel
theorem dX_deploy_14 : decode bX_deploy 14 = .ok (.invokespecial 138, 3) := by decide +kernel
theorem dX_deploy_17 : decode bX_deploy 17 = .ok (.athrow, 1) := by decide +kernel
theorem dX_deploy_18 : decode bX_deploy 18 = .ok (.aload_n 0, 1) := by decide +kernel
theorem dX_deploy_19 : decode bX_deploy 19 = .ok (.getfield 67, 3) := by decide +kernel
theorem dX_deploy_22 : decode bX_deploy 22 = .ok (.ifCond .eq 12, 3) := by decide +kernel
theorem dX_deploy_25 : decode bX_deploy 25 = .ok (.aload_n 0, 1) := by decide +kernel
theorem dX_deploy_26 : decode bX_deploy 26 = .ok (.getfield 16, 3) := by decide +kernel
theorem dX_deploy_29 : decode bX_deploy 29 = .ok (.iload_n 1, 1) := by decide +kernel
theorem dX_deploy_30 : decode bX_deploy 30 = .ok (.iaload, 1) := by decide +kernel
theorem dX_deploy_31 : decode bX_deploy 31 = .ok (.ifCond .eq 13, 3) := by decide +kernel
theorem dX_deploy_34 : decode bX_deploy 34 = .ok (.new 74, 3) := by decide +kernel
theorem dX_deploy_37 : decode bX_deploy 37 = .ok (.dup, 1) := by decide +kernel
theorem dX_deploy_38 : decode bX_deploy 38 = .ok (.ldc 139, 2) := by decide +kernel
theorem dX_deploy_40 : decode bX_deploy 40 = .ok (.invokespecial 78, 3) := by decide +kernel
theorem dX_deploy_43 : decode bX_deploy 43 = .ok (.athrow, 1) := by decide +kernel
theorem dX_deploy_44 : decode bX_deploy 44 = .ok (.aload_n 0, 1) := by decide +kernel
theorem dX_deploy_45 : decode bX_deploy 45 = .ok (.getfield 16, 3) := by decide +kernel
theorem dX_deploy_48 : decode bX_deploy 48 = .ok (.iload_n 1, 1) := by decide +kernel
theorem dX_deploy_49 : decode bX_deploy 49 = .ok (.iconst 1, 1) := by decide +kernel
theorem dX_deploy_50 : decode bX_deploy 50 = .ok (.iastore, 1) := by decide +kernel
theorem dX_deploy_51 : decode bX_deploy 51 = .ok (.return_, 1) := by decide +kernel
theorem dX_back_0 : decode bX_back 0 = .ok (.aload_n 0, 1) := by decide +kernel
theorem dX_back_1 : decode bX_back 1 = .ok (.iload_n 1, 1) := by decide +kernel
theorem dX_back_2 : decode bX_back 2 = .ok (.invokevirtual 131, 3) := by decide +kernel
theorem dX_back_5 : decode bX_back 5 = .ok (.ifCond .ne 13, 3) := by decide +kernel
theorem dX_back_8 : decode bX_back 8 = .ok (.new 134, 3) := by decide +kernel
theorem dX_back_11 : decode bX_back 11 = .ok (.dup, 1) := by decide +kernel
theorem dX_back_12 : decode bX_back 12 = .ok (.ldc 136, 2) := by decide +kernel
theorem dX_back_14 : decode bX_back 14 = .ok (.invokespecial 138, 3) := by decide +kernel
theorem dX_back_17 : decode bX_back 17 = .ok (.athrow, 1) := by decide +kernel
theorem dX_back_18 : decode bX_back 18 = .ok (.aload_n 0, 1) := by decide +kernel
theorem dX_back_19 : decode bX_back 19 = .ok (.getfield 16, 3) := by decide +kernel
theorem dX_back_22 : decode bX_back 22 = .ok (.iload_n 1, 1) := by decide +kernel
theorem dX_back_23 : decode bX_back 23 = .ok (.iaload, 1) := by decide +kernel
theorem dX_back_24 : decode bX_back 24 = .ok (.iconst 1, 1) := by decide +kernel
theorem dX_back_25 : decode bX_back 25 = .ok (.if_icmp .eq 13, 3) := by decide +kernel
theorem dX_back_28 : decode bX_back 28 = .ok (.new 74, 3) := by decide +kernel
theorem dX_back_31 : decode bX_back 31 = .ok (.dup, 1) := by decide +kernel
theorem dX_back_32 : decode bX_back 32 = .ok (.ldc 183, 2) := by decide +kernel
theorem dX_back_34 : decode bX_back 34 = .ok (.invokespecial 78, 3) := by decide +kernel
theorem dX_back_37 : decode bX_back 37 = .ok (.athrow, 1) := by decide +kernel
theorem dX_back_38 : decode bX_back 38 = .ok (.aload_n 0, 1) := by decide +kernel
theorem dX_back_39 : decode bX_back 39 = .ok (.invokevirtual 185, 3) := by decide +kernel
theorem dX_back_42 : decode bX_back 42 = .ok (.ifCond .ne 13, 3) := by decide +kernel
theorem dX_back_45 : decode bX_back 45 = .ok (.new 83, 3) := by decide +kernel
theorem dX_back_48 : decode bX_back 48 = .ok (.dup, 1) := by decide +kernel
theorem dX_back_49 : decode bX_back 49 = .ok (.ldc 188, 2) := by decide +kernel
theorem dX_back_51 : decode bX_back 51 = .ok (.invokespecial 87, 3) := by decide +kernel
theorem dX_back_54 : decode bX_back 54 = .ok (.athrow, 1) := by decide +kernel
theorem dX_back_55 : decode bX_back 55 = .ok (.aload_n 0, 1) := by decide +kernel
theorem dX_back_56 : decode bX_back 56 = .ok (.getfield 16, 3) := by decide +kernel
theorem dX_back_59 : decode bX_back 59 = .ok (.iload_n 1, 1) := by decide +kernel
theorem dX_back_60 : decode bX_back 60 = .ok (.iconst 3, 1) := by decide +kernel
theorem dX_back_61 : decode bX_back 61 = .ok (.iastore, 1) := by decide +kernel
theorem dX_back_62 : decode bX_back 62 = .ok (.return_, 1) := by decide +kernel
set_option maxRecDepth 20000 in
theorem gX_state_X_isArc : GoodIn tX_state (wsV RcX 131 RcX yX_isArc wX_isArc) := goodIn_app (goodIn_of _ (by decide +kernel)) (goodIn_r _ [6, 7, 8, 9, 10, 11, 12, 13, 14, 15, 16, 17, 18, 19, 20, 21, 22, 23] (by decide +kernel) (by decide +kernel))
theorem inX_state_X : ∀ x ∈ u_ws RcX TcX 16, x ∈ tX_state := by decide +kernel
set_option maxRecDepth 20000 in
theorem gX_open_X_isArc : GoodIn tX_open (wsV RcX 131 RcX yX_isArc wX_isArc) := goodIn_app (goodIn_of _ (by decide +kernel)) (goodIn_r _ [6, 7, 8, 9, 10, 11, 12, 13, 14, 15, 16, 17, 18, 19, 20, 21, 22, 23] (by decide +kernel) (by decide +kernel))
theorem inX_open_X : ∀ x ∈ u_ws RcX TcX 16, x ∈ tX_open := by decide +kernel
set_option maxRecDepth 20000 in
theorem gX_key_X_isArc : GoodIn tX_key (wsV RcX 131 RcX yX_isArc wX_isArc) := goodIn_app (goodIn_of _ (by decide +kernel)) (goodIn_r _ [11, 12, 21, 22, 23, 24, 25, 26, 27, 28, 29, 30, 31, 32, 33, 34, 35, 36] (by decide +kernel) (by decide +kernel))
set_option maxRecDepth 20000 in
theorem gX_key_X_hashkey : GoodIn tX_key (wsV RcX 190 RcX yX_hashkey wX_hashkey) := goodIn_app (goodIn_of _ (by decide +kernel)) (goodIn_r _ [13, 1, 2, 3, 4, 14, 15, 16, 17, 11, 12, 18, 19, 21, 22, 23, 24, 25, 26, 27, 28, 29, 30, 31, 32, 33, 34, 35, 36] (by decide +kernel) (by decide +kernel))
set_option maxRecDepth 20000 in
theorem gX_key_R_party : GoodIn tX_key (va_wsS RcX 193 yR_party wR_party) := goodIn_app (goodIn_of _ (by decide +kernel)) (goodIn_r _ [20] (by decide +kernel) (by decide +kernel))
set_option maxRecDepth 20000 in
theorem gX_outcome_X_isParty : GoodIn tX_outcome (wsV RcX 52 RcX yX_isParty wX_isParty) := goodIn_app (goodIn_of _ (by decide +kernel)) (goodIn_r _ [13, 14, 19, 20, 21, 22, 23, 24, 25, 26, 27, 28, 29, 30, 31, 32, 33, 34] (by decide +kernel) (by decide +kernel))
theorem inX_outcome_X : ∀ x ∈ u_ws RcX TcX 16, x ∈ tX_outcome := by decide +kernel
set_option maxRecDepth 20000 in
theorem gX_outcome_X_countPaid : GoodIn tX_outcome (wsV RcX 196 RcX yX_countPaid wX_countPaid) := goodIn_app (goodIn_of _ (by decide +kernel)) (goodIn_r _ [15, 16, 17, 19, 20, 21, 22, 23, 24, 25, 26, 27, 28, 29, 30, 31, 32, 33, 34] (by decide +kernel) (by decide +kernel))
set_option maxRecDepth 20000 in
theorem gX_outcome_X_countArcs : GoodIn tX_outcome (wsV RcX 200 RcX yX_countArcs wX_countArcs) := goodIn_app (goodIn_of _ (by decide +kernel)) (goodIn_r _ [18, 16, 19, 20, 21, 22, 23, 24, 25, 26, 27, 28, 29, 30, 31, 32, 33, 34] (by decide +kernel) (by decide +kernel))
set_option maxRecDepth 20000 in
theorem gX_deploy_X_isArc : GoodIn tX_deploy (wsV RcX 131 RcX yX_isArc wX_isArc) := goodIn_app (goodIn_of _ (by decide +kernel)) (goodIn_r _ [7, 8, 9, 10, 11, 12, 13, 14, 15, 16, 17, 18, 19, 20, 21, 22, 23, 24] (by decide +kernel) (by decide +kernel))
theorem inX_deploy_X : ∀ x ∈ u_ws RcX TcX 16, x ∈ tX_deploy := by decide +kernel
set_option maxRecDepth 20000 in
theorem gX_back_X_isArc : GoodIn tX_back (wsV RcX 131 RcX yX_isArc wX_isArc) := goodIn_app (goodIn_of _ (by decide +kernel)) (goodIn_r _ [9, 10, 16, 17, 18, 19, 20, 21, 22, 23, 24, 25, 26, 27, 28, 29, 30, 31] (by decide +kernel) (by decide +kernel))
theorem inX_back_X : ∀ x ∈ u_ws RcX TcX 16, x ∈ tX_back := by decide +kernel
set_option maxRecDepth 20000 in
theorem gX_back_X_isOver : GoodIn tX_back (wsV RcX 185 RcX yX_isOver wX_isOver) := goodIn_app (goodIn_of _ (by decide +kernel)) (goodIn_r _ [11, 12, 13, 14, 15, 16, 17, 18, 19, 20, 21, 22, 23, 24, 25, 26, 27, 28, 29, 30, 31] (by decide +kernel) (by decide +kernel))

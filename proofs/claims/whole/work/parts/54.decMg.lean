def mAct (F : FT) (a : AT) (n : Nat) (P : Nat) (x : Int32) : Int32 × FT × AT :=
  if (mIsParty (upd F 2 0) a x) = 0 then
    ((mFail (upd F 2 0) a 1).1, (mFail (upd F 2 0) a 1).2, a)
  else
    if (F 4) = 0 then
      ((mFail (upd F 2 0) a 2).1, (mFail (upd F 2 0) a 2).2, a)
    else
      if (mHas (F 8) x) = 0 then
        ((mDeeds (upd F 2 0) a n P x.toNatClampNeg).1, upd F 2 0, (mDeeds (upd F 2 0) a n P x.toNatClampNeg).2)
      else
        ((mFail (upd F 2 0) a 3).1, (mFail (upd F 2 0) a 3).2, a)
def mRunI (F : FT) (n : Nat) (P : Nat) (x : Int32) (t : Int32) : Nat → Nat → Int32 → AT → Int32 × AT
  | 0, pp, d2, a2 => (d2, a2)
  | kpp + 1, pp, d2, a2 => if (F 4) = 0 then
      (d2, a2)
    else
      if (mHas (F 8) (nI pp)) = 0 then
        mRunI F n P x t kpp (pp + 1) (d2 + ((mDeeds (upd (upd F 2 0) 3 t) a2 n P pp).1)) ((mDeeds (upd (upd F 2 0) 3 t) a2 n P pp).2)
      else
        mRunI F n P x t kpp (pp + 1) (d2 + (0 : Int32)) a2
def mRunL (F : FT) (n : Nat) (P : Nat) (x : Int32) : Nat → Nat → Int32 → Int32 → AT → Int32 × Int32 × AT
  | 0, rr, d, t, a1 => (d, t, a1)
  | krr + 1, rr, d, t, a1 => mRunL F n P x krr (rr + 1) ((mRunI F n P x t P 0 d a1).1) (t + (1 : Int32)) ((mRunI F n P x t P 0 d a1).2)
def mRun (F : FT) (a : AT) (n : Nat) (P : Nat) (x : Int32) : Int32 × FT × AT :=
  if x < 0 then
    ((mFail (upd F 2 0) a 1).1, (mFail (upd F 2 0) a 1).2, a)
  else
    if x ≤ 40 then
      ((mRunL F n P x x.toNatClampNeg 0 0 (F 3) a).1, upd (upd F 2 0) 3 ((mRunL F n P x x.toNatClampNeg 0 0 (F 3) a).2.1), (mRunL F n P x x.toNatClampNeg 0 0 (F 3) a).2.2)
    else
      ((mFail (upd F 2 0) a 1).1, (mFail (upd F 2 0) a 1).2, a)
def mShow (F : FT) (a : AT) (n : Nat) (mm : Nat) (x : Int32) : Int32 × FT × AT :=
  if (mIsArc (upd F 2 0) a x) = 0 then
    ((mFail (upd F 2 0) a 1).1, (mFail (upd F 2 0) a 1).2, a)
  else
    if (mIsPath (upd F 2 0) a mm ((a 11) x.toNatClampNeg)) = 0 then
      ((mFail (upd F 2 0) a 2).1, (mFail (upd F 2 0) a 2).2, a)
    else
      if (F 4) = 0 then
        ((mFail (upd F 2 0) a 3).1, (mFail (upd F 2 0) a 3).2, a)
      else
        if ((a 12) x.toNatClampNeg) = 1 then
          if (mHas ((a 13) x.toNatClampNeg) (mMember (F 17) ((mMany (F 17)) - (1 : Int32)))) = 0 then
            if (mIsInTime (upd F 2 0) a ((mMany (F 17)) - (1 : Int32))) = 0 then
              ((mFail (upd F 2 0) a 4).1, (mFail (upd F 2 0) a 4).2, a)
            else
              if (mIsKnown (upd F 2 0) a mm n) = 0 then
                ((mFail (upd F 2 0) a 4).1, (mFail (upd F 2 0) a 4).2, a)
              else
                (mSize (((mUnlock (upd F 2 0) a x (F 17)) 13) x.toNatClampNeg), upd (upd F 2 0) 17 0, (mUnlock (upd F 2 0) a x (F 17)))
          else
            ((mFail (upd F 2 0) a 3).1, (mFail (upd F 2 0) a 3).2, a)
        else
          ((mFail (upd F 2 0) a 3).1, (mFail (upd F 2 0) a 3).2, a)
theorem dM_act_0 : decode bM_act 0 = .ok (.aload_n 0, 1) := by decide +kernel
theorem dM_act_1 : decode bM_act 1 = .ok (.iconst 0, 1) := by decide +kernel
theorem dM_act_2 : decode bM_act 2 = .ok (.putfield 39, 3) := by decide +kernel
theorem dM_act_5 : decode bM_act 5 = .ok (.aload_n 0, 1) := by decide +kernel
theorem dM_act_6 : decode bM_act 6 = .ok (.iload_n 1, 1) := by decide +kernel
theorem dM_act_7 : decode bM_act 7 = .ok (.invokevirtual 45, 3) := by decide +kernel
theorem dM_act_10 : decode bM_act 10 = .ok (.ifCond .ne 9, 3) := by decide +kernel
theorem dM_act_13 : decode bM_act 13 = .ok (.aload_n 0, 1) := by decide +kernel
theorem dM_act_14 : decode bM_act 14 = .ok (.iconst 1, 1) := by decide +kernel
theorem dM_act_15 : decode bM_act 15 = .ok (.invokevirtual 53, 3) := by decide +kernel
theorem dM_act_18 : decode bM_act 18 = .ok (.ireturn, 1) := by decide +kernel
theorem dM_act_19 : decode bM_act 19 = .ok (.aload_n 0, 1) := by decide +kernel
theorem dM_act_20 : decode bM_act 20 = .ok (.getfield 57, 3) := by decide +kernel
theorem dM_act_23 : decode bM_act 23 = .ok (.ifCond .ne 9, 3) := by decide +kernel
theorem dM_act_26 : decode bM_act 26 = .ok (.aload_n 0, 1) := by decide +kernel
theorem dM_act_27 : decode bM_act 27 = .ok (.iconst 2, 1) := by decide +kernel
theorem dM_act_28 : decode bM_act 28 = .ok (.invokevirtual 53, 3) := by decide +kernel
theorem dM_act_31 : decode bM_act 31 = .ok (.ireturn, 1) := by decide +kernel
theorem dM_act_32 : decode bM_act 32 = .ok (.aload_n 0, 1) := by decide +kernel
theorem dM_act_33 : decode bM_act 33 = .ok (.getfield 124, 3) := by decide +kernel
theorem dM_act_36 : decode bM_act 36 = .ok (.iload_n 1, 1) := by decide +kernel
theorem dM_act_37 : decode bM_act 37 = .ok (.invokestatic 49, 3) := by decide +kernel
theorem dM_act_40 : decode bM_act 40 = .ok (.ifCond .eq 11, 3) := by decide +kernel
theorem dM_act_43 : decode bM_act 43 = .ok (.aload_n 0, 1) := by decide +kernel
theorem dM_act_44 : decode bM_act 44 = .ok (.iconst 3, 1) := by decide +kernel
theorem dM_act_45 : decode bM_act 45 = .ok (.invokevirtual 53, 3) := by decide +kernel
theorem dM_act_48 : decode bM_act 48 = .ok (.goto 8, 3) := by decide +kernel
theorem dM_act_51 : decode bM_act 51 = .ok (.aload_n 0, 1) := by decide +kernel
theorem dM_act_52 : decode bM_act 52 = .ok (.iload_n 1, 1) := by decide +kernel
theorem dM_act_53 : decode bM_act 53 = .ok (.invokevirtual 127, 3) := by decide +kernel
theorem dM_act_56 : decode bM_act 56 = .ok (.ireturn, 1) := by decide +kernel
theorem dM_run_0 : decode bM_run 0 = .ok (.aload_n 0, 1) := by decide +kernel
theorem dM_run_1 : decode bM_run 1 = .ok (.iconst 0, 1) := by decide +kernel
theorem dM_run_2 : decode bM_run 2 = .ok (.putfield 39, 3) := by decide +kernel
theorem dM_run_5 : decode bM_run 5 = .ok (.iload_n 1, 1) := by decide +kernel
theorem dM_run_6 : decode bM_run 6 = .ok (.ifCond .lt 9, 3) := by decide +kernel
theorem dM_run_9 : decode bM_run 9 = .ok (.iload_n 1, 1) := by decide +kernel
theorem dM_run_10 : decode bM_run 10 = .ok (.bipush 40, 2) := by decide +kernel
theorem dM_run_12 : decode bM_run 12 = .ok (.if_icmp .le 9, 3) := by decide +kernel
theorem dM_run_15 : decode bM_run 15 = .ok (.aload_n 0, 1) := by decide +kernel
theorem dM_run_16 : decode bM_run 16 = .ok (.iconst 1, 1) := by decide +kernel
theorem dM_run_17 : decode bM_run 17 = .ok (.invokevirtual 53, 3) := by decide +kernel
theorem dM_run_20 : decode bM_run 20 = .ok (.ireturn, 1) := by decide +kernel
theorem dM_run_21 : decode bM_run 21 = .ok (.iconst 0, 1) := by decide +kernel
theorem dM_run_22 : decode bM_run 22 = .ok (.istore_n 2, 1) := by decide +kernel
theorem dM_run_23 : decode bM_run 23 = .ok (.iconst 0, 1) := by decide +kernel
theorem dM_run_24 : decode bM_run 24 = .ok (.istore_n 3, 1) := by decide +kernel
theorem dM_run_25 : decode bM_run 25 = .ok (.iload_n 3, 1) := by decide +kernel
theorem dM_run_26 : decode bM_run 26 = .ok (.iload_n 1, 1) := by decide +kernel
theorem dM_run_27 : decode bM_run 27 = .ok (.if_icmp .ge 69, 3) := by decide +kernel
theorem dM_run_30 : decode bM_run 30 = .ok (.iconst 0, 1) := by decide +kernel
theorem dM_run_31 : decode bM_run 31 = .ok (.istore 4, 2) := by decide +kernel
theorem dM_run_33 : decode bM_run 33 = .ok (.iload 4, 2) := by decide +kernel
theorem dM_run_35 : decode bM_run 35 = .ok (.aload_n 0, 1) := by decide +kernel
theorem dM_run_36 : decode bM_run 36 = .ok (.getfield 32, 3) := by decide +kernel
theorem dM_run_39 : decode bM_run 39 = .ok (.if_icmp .ge 41, 3) := by decide +kernel
theorem dM_run_42 : decode bM_run 42 = .ok (.aload_n 0, 1) := by decide +kernel
theorem dM_run_43 : decode bM_run 43 = .ok (.getfield 57, 3) := by decide +kernel
theorem dM_run_46 : decode bM_run 46 = .ok (.ifCond .eq 34, 3) := by decide +kernel
theorem dM_run_49 : decode bM_run 49 = .ok (.iload_n 2, 1) := by decide +kernel
theorem dM_run_50 : decode bM_run 50 = .ok (.aload_n 0, 1) := by decide +kernel
theorem dM_run_51 : decode bM_run 51 = .ok (.getfield 124, 3) := by decide +kernel
theorem dM_run_54 : decode bM_run 54 = .ok (.iload 4, 2) := by decide +kernel
theorem dM_run_56 : decode bM_run 56 = .ok (.invokestatic 49, 3) := by decide +kernel
theorem dM_run_59 : decode bM_run 59 = .ok (.ifCond .eq 7, 3) := by decide +kernel
theorem dM_run_62 : decode bM_run 62 = .ok (.iconst 0, 1) := by decide +kernel
theorem dM_run_63 : decode bM_run 63 = .ok (.goto 9, 3) := by decide +kernel
theorem dM_run_66 : decode bM_run 66 = .ok (.aload_n 0, 1) := by decide +kernel
theorem dM_run_67 : decode bM_run 67 = .ok (.iload 4, 2) := by decide +kernel
theorem dM_run_69 : decode bM_run 69 = .ok (.invokevirtual 127, 3) := by decide +kernel
theorem dM_run_72 : decode bM_run 72 = .ok (.iadd, 1) := by decide +kernel
theorem dM_run_73 : decode bM_run 73 = .ok (.istore_n 2, 1) := by decide +kernel
theorem dM_run_74 : decode bM_run 74 = .ok (.iinc 4 1, 3) := by decide +kernel
theorem dM_run_77 : decode bM_run 77 = .ok (.goto (-44), 3) := by decide +kernel
theorem dM_run_80 : decode bM_run 80 = .ok (.aload_n 0, 1) := by decide +kernel
theorem dM_run_81 : decode bM_run 81 = .ok (.dup, 1) := by decide +kernel
theorem dM_run_82 : decode bM_run 82 = .ok (.getfield 70, 3) := by decide +kernel
theorem dM_run_85 : decode bM_run 85 = .ok (.iconst 1, 1) := by decide +kernel
theorem dM_run_86 : decode bM_run 86 = .ok (.iadd, 1) := by decide +kernel
theorem dM_run_87 : decode bM_run 87 = .ok (.putfield 70, 3) := by decide +kernel
theorem dM_run_90 : decode bM_run 90 = .ok (.iinc 3 1, 3) := by decide +kernel
theorem dM_run_93 : decode bM_run 93 = .ok (.goto (-68), 3) := by decide +kernel
theorem dM_run_96 : decode bM_run 96 = .ok (.iload_n 2, 1) := by decide +kernel
theorem dM_run_97 : decode bM_run 97 = .ok (.ireturn, 1) := by decide +kernel
theorem dM_show_0 : decode bM_show 0 = .ok (.aload_n 0, 1) := by decide +kernel
theorem dM_show_1 : decode bM_show 1 = .ok (.iconst 0, 1) := by decide +kernel
theorem dM_show_2 : decode bM_show 2 = .ok (.putfield 39, 3) := by decide +kernel
theorem dM_show_5 : decode bM_show 5 = .ok (.aload_n 0, 1) := by decide +kernel
theorem dM_show_6 : decode bM_show 6 = .ok (.iload_n 1, 1) := by decide +kernel
theorem dM_show_7 : decode bM_show 7 = .ok (.invokevirtual 130, 3) := by decide +kernel
theorem dM_show_10 : decode bM_show 10 = .ok (.ifCond .ne 9, 3) := by decide +kernel
theorem dM_show_13 : decode bM_show 13 = .ok (.aload_n 0, 1) := by decide +kernel
theorem dM_show_14 : decode bM_show 14 = .ok (.iconst 1, 1) := by decide +kernel
theorem dM_show_15 : decode bM_show 15 = .ok (.invokevirtual 53, 3) := by decide +kernel
theorem dM_show_18 : decode bM_show 18 = .ok (.ireturn, 1) := by decide +kernel
theorem dM_show_19 : decode bM_show 19 = .ok (.aload_n 0, 1) := by decide +kernel
theorem dM_show_20 : decode bM_show 20 = .ok (.aload_n 0, 1) := by decide +kernel
theorem dM_show_21 : decode bM_show 21 = .ok (.getfield 13, 3) := by decide +kernel
theorem dM_show_24 : decode bM_show 24 = .ok (.iload_n 1, 1) := by decide +kernel
theorem dM_show_25 : decode bM_show 25 = .ok (.iaload, 1) := by decide +kernel
theorem dM_show_26 : decode bM_show 26 = .ok (.invokevirtual 139, 3) := by decide +kernel
theorem dM_show_29 : decode bM_show 29 = .ok (.ifCond .ne 9, 3) := by decide +kernel
theorem dM_show_32 : decode bM_show 32 = .ok (.aload_n 0, 1) := by decide +kernel
theorem dM_show_33 : decode bM_show 33 = .ok (.iconst 2, 1) := by decide +kernel
theorem dM_show_34 : decode bM_show 34 = .ok (.invokevirtual 53, 3) := by decide +kernel
theorem dM_show_37 : decode bM_show 37 = .ok (.ireturn, 1) := by decide +kernel
theorem dM_show_38 : decode bM_show 38 = .ok (.aload_n 0, 1) := by decide +kernel
theorem dM_show_39 : decode bM_show 39 = .ok (.getfield 57, 3) := by decide +kernel
theorem dM_show_42 : decode bM_show 42 = .ok (.ifCond .eq 41, 3) := by decide +kernel
theorem dM_show_45 : decode bM_show 45 = .ok (.aload_n 0, 1) := by decide +kernel
theorem dM_show_46 : decode bM_show 46 = .ok (.getfield 16, 3) := by decide +kernel
theorem dM_show_49 : decode bM_show 49 = .ok (.iload_n 1, 1) := by decide +kernel
theorem dM_show_50 : decode bM_show 50 = .ok (.iaload, 1) := by decide +kernel
theorem dM_show_51 : decode bM_show 51 = .ok (.iconst 1, 1) := by decide +kernel
theorem dM_show_52 : decode bM_show 52 = .ok (.if_icmp .ne 31, 3) := by decide +kernel
theorem dM_show_55 : decode bM_show 55 = .ok (.aload_n 0, 1) := by decide +kernel
theorem dM_show_56 : decode bM_show 56 = .ok (.getfield 19, 3) := by decide +kernel
theorem dM_show_59 : decode bM_show 59 = .ok (.iload_n 1, 1) := by decide +kernel
theorem dM_show_60 : decode bM_show 60 = .ok (.iaload, 1) := by decide +kernel
theorem dM_show_61 : decode bM_show 61 = .ok (.aload_n 0, 1) := by decide +kernel
theorem dM_show_62 : decode bM_show 62 = .ok (.getfield 133, 3) := by decide +kernel
theorem dM_show_65 : decode bM_show 65 = .ok (.aload_n 0, 1) := by decide +kernel
theorem dM_show_66 : decode bM_show 66 = .ok (.getfield 133, 3) := by decide +kernel
theorem dM_show_69 : decode bM_show 69 = .ok (.invokestatic 89, 3) := by decide +kernel
theorem dM_show_72 : decode bM_show 72 = .ok (.iconst 1, 1) := by decide +kernel
theorem dM_show_73 : decode bM_show 73 = .ok (.isub, 1) := by decide +kernel
theorem dM_show_74 : decode bM_show 74 = .ok (.invokestatic 92, 3) := by decide +kernel
theorem dM_show_77 : decode bM_show 77 = .ok (.invokestatic 49, 3) := by decide +kernel
theorem dM_show_80 : decode bM_show 80 = .ok (.ifCond .eq 9, 3) := by decide +kernel
theorem dM_show_83 : decode bM_show 83 = .ok (.aload_n 0, 1) := by decide +kernel
theorem dM_show_84 : decode bM_show 84 = .ok (.iconst 3, 1) := by decide +kernel
theorem dM_show_85 : decode bM_show 85 = .ok (.invokevirtual 53, 3) := by decide +kernel
theorem dM_show_88 : decode bM_show 88 = .ok (.ireturn, 1) := by decide +kernel
theorem dM_show_89 : decode bM_show 89 = .ok (.aload_n 0, 1) := by decide +kernel
theorem dM_show_90 : decode bM_show 90 = .ok (.aload_n 0, 1) := by decide +kernel
theorem dM_show_91 : decode bM_show 91 = .ok (.getfield 133, 3) := by decide +kernel
theorem dM_show_94 : decode bM_show 94 = .ok (.invokestatic 89, 3) := by decide +kernel
theorem dM_show_97 : decode bM_show 97 = .ok (.iconst 1, 1) := by decide +kernel
theorem dM_show_98 : decode bM_show 98 = .ok (.isub, 1) := by decide +kernel
theorem dM_show_99 : decode bM_show 99 = .ok (.invokevirtual 114, 3) := by decide +kernel
theorem dM_show_102 : decode bM_show 102 = .ok (.ifCond .eq 10, 3) := by decide +kernel
theorem dM_show_105 : decode bM_show 105 = .ok (.aload_n 0, 1) := by decide +kernel
theorem dM_show_106 : decode bM_show 106 = .ok (.invokevirtual 142, 3) := by decide +kernel
theorem dM_show_109 : decode bM_show 109 = .ok (.ifCond .ne 9, 3) := by decide +kernel
theorem dM_show_112 : decode bM_show 112 = .ok (.aload_n 0, 1) := by decide +kernel
theorem dM_show_113 : decode bM_show 113 = .ok (.iconst 4, 1) := by decide +kernel
theorem dM_show_114 : decode bM_show 114 = .ok (.invokevirtual 53, 3) := by decide +kernel
theorem dM_show_117 : decode bM_show 117 = .ok (.ireturn, 1) := by decide +kernel
theorem dM_show_118 : decode bM_show 118 = .ok (.aload_n 0, 1) := by decide +kernel
theorem dM_show_119 : decode bM_show 119 = .ok (.iload_n 1, 1) := by decide +kernel
theorem dM_show_120 : decode bM_show 120 = .ok (.aload_n 0, 1) := by decide +kernel
theorem dM_show_121 : decode bM_show 121 = .ok (.getfield 133, 3) := by decide +kernel
theorem dM_show_124 : decode bM_show 124 = .ok (.invokevirtual 117, 3) := by decide +kernel
theorem dM_show_127 : decode bM_show 127 = .ok (.aload_n 0, 1) := by decide +kernel
theorem dM_show_128 : decode bM_show 128 = .ok (.iconst 0, 1) := by decide +kernel
theorem dM_show_129 : decode bM_show 129 = .ok (.putfield 133, 3) := by decide +kernel
theorem dM_show_132 : decode bM_show 132 = .ok (.aload_n 0, 1) := by decide +kernel
theorem dM_show_133 : decode bM_show 133 = .ok (.getfield 19, 3) := by decide +kernel
theorem dM_show_136 : decode bM_show 136 = .ok (.iload_n 1, 1) := by decide +kernel
theorem dM_show_137 : decode bM_show 137 = .ok (.iaload, 1) := by decide +kernel
theorem dM_show_138 : decode bM_show 138 = .ok (.invokestatic 61, 3) := by decide +kernel
theorem dM_show_141 : decode bM_show 141 = .ok (.ireturn, 1) := by decide +kernel
theorem inM_act_M : ∀ x ∈ u_ws RcM TcM 18, x ∈ wM_act := by decide +kernel
set_option maxRecDepth 20000 in
theorem gM_act_M_isParty : GoodIn wM_act (wsV RcM 45 RcM yM_isParty wM_isParty) := goodIn_app (goodIn_of _ (by decide +kernel)) (goodIn_r _ [16, 17, 69, 70, 71, 72, 73, 74, 75, 76, 77, 78, 79, 80, 81, 82, 83, 84, 85, 86] (by decide +kernel) (by decide +kernel))
set_option maxRecDepth 20000 in
theorem gM_act_M_has : GoodIn wM_act (va_wsS RcM 49 yM_has wM_has) := goodIn_app (goodIn_of _ (by decide +kernel)) (goodIn_r _ [19] (by decide +kernel) (by decide +kernel))
set_option maxRecDepth 20000 in
theorem gM_act_M_deeds : GoodIn wM_act (wsV RcM 127 RcM yM_deeds wM_deeds) := goodIn_app (goodIn_of _ (by decide +kernel)) (goodIn_r _ [20, 21, 11, 12, 5, 22, 23, 24, 25, 26, 27, 28, 29, 30, 31, 32, 33, 34, 35, 17, 36, 37, 38, 19, 39, 40, 41, 42, 43, 44, 45, 46, 47, 48, 49, 50, 51, 52, 53, 54, 55, 56, 57, 58, 59, 60, 61, 62, 63, 64, 65, 66, 67, 68, 69, 70, 71, 72, 73, 74, 75, 76, 77, 78, 79, 80, 81, 82, 83, 84, 85, 86] (by decide +kernel) (by decide +kernel))
set_option maxRecDepth 20000 in
theorem gM_act_M_fail : GoodIn wM_act (wsV RcM 53 RcM yM_fail wM_fail) := goodIn_app (goodIn_of _ (by decide +kernel)) (goodIn_r _ [18, 1, 69, 70, 71, 72, 73, 74, 75, 76, 77, 78, 79, 80, 81, 82, 83, 84, 85, 86] (by decide +kernel) (by decide +kernel))
theorem inM_run_M : ∀ x ∈ u_ws RcM TcM 18, x ∈ wM_run := by decide +kernel
set_option maxRecDepth 20000 in
theorem gM_run_M_fail : GoodIn wM_run (wsV RcM 53 RcM yM_fail wM_fail) := goodIn_app (goodIn_of _ (by decide +kernel)) (goodIn_r _ [15, 1, 65, 66, 67, 68, 69, 70, 71, 72, 73, 74, 75, 76, 77, 78, 79, 80, 81, 82] (by decide +kernel) (by decide +kernel))
set_option maxRecDepth 20000 in
theorem gM_run_M_has : GoodIn wM_run (va_wsS RcM 49 yM_has wM_has) := goodIn_app (goodIn_of _ (by decide +kernel)) (goodIn_r _ [16] (by decide +kernel) (by decide +kernel))
set_option maxRecDepth 20000 in
theorem gM_run_M_deeds : GoodIn wM_run (wsV RcM 127 RcM yM_deeds wM_deeds) := goodIn_app (goodIn_of _ (by decide +kernel)) (goodIn_r _ [17, 18, 9, 10, 5, 19, 20, 21, 22, 23, 24, 25, 26, 27, 28, 29, 30, 31, 32, 6, 33, 34, 35, 16, 36, 37, 38, 14, 39, 40, 41, 42, 43, 44, 45, 46, 47, 48, 49, 50, 51, 52, 53, 54, 55, 56, 57, 58, 59, 60, 61, 62, 63, 64, 65, 66, 67, 68, 69, 70, 71, 72, 73, 74, 75, 76, 77, 78, 79, 80, 81, 82] (by decide +kernel) (by decide +kernel))
theorem inM_show_M : ∀ x ∈ u_ws RcM TcM 18, x ∈ wM_show := by decide +kernel
set_option maxRecDepth 20000 in
theorem gM_show_M_isArc : GoodIn wM_show (wsV RcM 130 RcM yM_isArc wM_isArc) := goodIn_app (goodIn_of _ (by decide +kernel)) (goodIn_r _ [34, 35, 59, 60, 61, 62, 63, 64, 65, 66, 67, 68, 69, 70, 71, 72, 73, 74, 75, 76] (by decide +kernel) (by decide +kernel))
set_option maxRecDepth 20000 in
theorem gM_show_M_isPath : GoodIn wM_show (wsV RcM 139 RcM yM_isPath wM_isPath) := goodIn_app (goodIn_of _ (by decide +kernel)) (goodIn_r _ [37, 16, 17, 18, 5, 19, 20, 38, 39, 32, 33, 40, 21, 22, 41, 42, 43, 44, 45, 46, 59, 60, 61, 62, 63, 64, 65, 66, 67, 68, 69, 70, 71, 72, 73, 74, 75, 76] (by decide +kernel) (by decide +kernel))
set_option maxRecDepth 20000 in
theorem gM_show_M_fail : GoodIn wM_show (wsV RcM 53 RcM yM_fail wM_fail) := goodIn_app (goodIn_of _ (by decide +kernel)) (goodIn_r _ [36, 1, 59, 60, 61, 62, 63, 64, 65, 66, 67, 68, 69, 70, 71, 72, 73, 74, 75, 76] (by decide +kernel) (by decide +kernel))
set_option maxRecDepth 20000 in
theorem gM_show_M_many : GoodIn wM_show (va_wsS RcM 89 yM_many wM_many) := goodIn_app (goodIn_of _ (by decide +kernel)) (goodIn_r _ [42] (by decide +kernel) (by decide +kernel))
set_option maxRecDepth 20000 in
theorem gM_show_M_member : GoodIn wM_show (va_wsS RcM 92 yM_member wM_member) := goodIn_app (goodIn_of _ (by decide +kernel)) (goodIn_r _ [43] (by decide +kernel) (by decide +kernel))
set_option maxRecDepth 20000 in
theorem gM_show_M_has : GoodIn wM_show (va_wsS RcM 49 yM_has wM_has) := goodIn_app (goodIn_of _ (by decide +kernel)) (goodIn_r _ [46] (by decide +kernel) (by decide +kernel))
set_option maxRecDepth 20000 in
theorem gM_show_M_isInTime : GoodIn wM_show (wsV RcM 114 RcM yM_isInTime wM_isInTime) := goodIn_app (goodIn_of _ (by decide +kernel)) (goodIn_r _ [47, 48, 49, 50, 51, 59, 60, 61, 62, 63, 64, 65, 66, 67, 68, 69, 70, 71, 72, 73, 74, 75, 76] (by decide +kernel) (by decide +kernel))
set_option maxRecDepth 20000 in
theorem gM_show_M_isKnown : GoodIn wM_show (wsV RcM 142 RcM yM_isKnown wM_isKnown) := goodIn_app (goodIn_of _ (by decide +kernel)) (goodIn_r _ [52, 16, 17, 18, 5, 53, 54, 19, 20, 35, 15, 21, 22, 55, 42, 56, 57, 43, 46, 59, 60, 61, 62, 63, 64, 65, 66, 67, 68, 69, 70, 71, 72, 73, 74, 75, 76] (by decide +kernel) (by decide +kernel))
set_option maxRecDepth 20000 in
theorem gM_show_M_unlock : GoodIn wM_show (wsV RcM 117 RcM yM_unlock wM_unlock) := goodIn_app (goodIn_of _ (by decide +kernel)) (goodIn_r _ [58, 17, 18, 5, 19, 20, 15, 55, 40, 14, 42, 43, 59, 60, 61, 62, 63, 64, 65, 66, 67, 68, 69, 70, 71, 72, 73, 74, 75, 76] (by decide +kernel) (by decide +kernel))
set_option maxRecDepth 20000 in
theorem gM_show_M_size : GoodIn wM_show (va_wsS RcM 61 yM_size wM_size) := goodIn_app (goodIn_of _ (by decide +kernel)) (goodIn_r _ [45] (by decide +kernel) (by decide +kernel))

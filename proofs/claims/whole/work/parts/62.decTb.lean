def tX_arc : List Cond := .code yX_arc bX_arc 4 (some .int) :: (([q65, q66, q67, q68, q63, q69, q25, q26, q20, q70, q71, q72, q73, q74, q48, q49, q75, q57, q27, q17, q18, q19, q14, q21, q15, q76] ++ wcX ++ wcG) ++ wThr)
def tX_plan : List Cond := .code yX_plan bX_plan 1 (some .int) :: (([q70, q63, q77, q78, q79, q20, q80, q81, q82, q83, q84, q85, q86, q87, q88, q89, q90, q15, q28, q29, q30, q16, q31, q14, q91, q40, q41, q42, q43, q44, q45, q46, q92, q32, q33, q34, q35, q36, q37, q38, q7, q8, q9, q39] ++ wcX ++ wcG) ++ wThr)
def tX_act : List Cond := .code yX_act bX_act 2 (some .int) :: (([q65, q66, q67, q68, q70, q93, q94, q95, q98, q99, q100, q75, q57, q97, q96, q101, q102, q103, q104, q105, q106, q107, q108, q109, q110, q111, q112, q113, q114, q115, q116, q117, q118, q119, q120, q121, q122, q123, q124, q125, q126, q127, q80, q81, q85, q58, q128, q89, q129, q71, q49, q50, q130, q48, q131, q132, q133, q2, q134, q135, q136, q137, q138, q139, q140, q141, q142, q143, q144, q145, q146, q147, q148, q149, q5, q6, q150, q51, q151, q52, q152, q153, q154, q155, q156, q157, q158, q159, q160, q161, q162, q163, q164, q165, q166, q167, q0, q1, q3, q168] ++ wcX) ++ wThr)
def tX_run : List Cond := .code yX_run bX_run 5 (some .int) :: (([q57, q70, q93, q94, q95, q68, q98, q99, q100, q80, q97, q96, q101, q102, q103, q104, q105, q106, q107, q108, q109, q110, q111, q112, q113, q114, q115, q116, q117, q118, q119, q120, q121, q122, q123, q124, q125, q126, q127, q81, q85, q58, q128, q65, q66, q67, q89, q75, q129, q71, q49, q50, q130, q48, q131, q132, q133, q2, q134, q135, q136, q137, q138, q139, q140, q141, q142, q143, q144, q145, q146, q147, q148, q149, q5, q6, q150, q51, q151, q52, q152, q153, q154, q155, q156, q157, q158, q159, q160, q161, q162, q163, q164, q165, q166, q167, q0, q1, q3, q168] ++ wcX) ++ wThr)
def tX_show : List Cond := .code yX_show bX_show 3 (some .int) :: (([q163, q164, q165, q68, q53, q172, q173, q2, q174, q175, q49, q63, q176, q177, q178, q20, q118, q119, q120, q70, q50, q142, q143, q144, q139, q140, q141, q179, q180, q181, q145, q146, q147, q51, q182, q33, q34, q166, q71, q183, q4, q5, q0, q1, q6, q3, q184, q185, q22, q23, q17, q18, q19, q24, q25, q26, q21, q15, q27, q14, q128, q65, q66, q67, q89, q75, q57, q150, q148, q149, q80, q81, q85, q58, q186, q187, q188, q157, q158, q159, q189, q162, q52, q151, q38, q7, q8, q9] ++ wcX ++ wcG) ++ wThr)
def arcF (F : FT) (a : AT) (x : Int32) (y : Int32) : Nat × Int32 × FT × AT :=
  if (isPartyF F a x) = 0 then
    (1, 0, F, a)
  else
    if (isPartyF F a y) = 0 then
      (1, 0, F, a)
    else
      if x = y then
        (1, 0, F, a)
      else
        if (gJoins F a x y) = 0 then
          if (F 9) = 0 then
            if (F 8) < 14 then
              (0, F 8, upd F 8 ((F 8) + (1 : Int32)), updA (updA (updA a 22 ((gJoin F a x y) 22)) 3 (upd (a 3) ((F 8).toNatClampNeg) x)) 4 (upd (a 4) ((F 8).toNatClampNeg) y))
            else
              (2, 0, F, a)
          else
            (2, 0, F, a)
        else
          (1, 0, F, a)
def planF (F : FT) (a : AT) (P : Nat) (E : Nat) : Nat × Int32 × FT :=
  if (F 9) = 0 then
    if (gIsStrong F a P) = 0 then
      (2, 0, F)
    else
      (0, gLongest (upd (upd F 9 1) 12 (F 13)) a P, upd (upd (upd (upd F 9 1) 12 (F 13)) 11 (gLongest (upd (upd F 9 1) 12 (F 13)) a P)) 10 (gFewest (upd (upd (upd F 9 1) 12 (F 13)) 11 (gLongest (upd (upd F 9 1) 12 (F 13)) a P)) a P E))
  else
    (3, 0, F)
def actF (F : FT) (a : AT) (n : Nat) (P : Nat) (x : Int32) : Nat × Int32 × AT :=
  if (isPartyF F a x) = 0 then
    (1, 0, a)
  else
    if (F 9) = 0 then
      (2, 0, a)
    else
      if (conformsF F a x) = 0 then
        (3, 0, a)
      else
        (0, (doDeedsF F a n P x).1, (doDeedsF F a n P x).2)
def runI (F : FT) (n : Nat) (P : Nat) (x : Int32) (t : Int32) : Nat → Nat → Int32 → AT → Int32 × AT
  | 0, pp, d2, a2 => (d2, a2)
  | kpp + 1, pp, d2, a2 => if (F 9) = 0 then
      runI F n P x t kpp (pp + 1) (d2 + (0 : Int32)) a2
    else
      if (conformsF (upd F 13 t) a2 (nI pp)) = 0 then
        runI F n P x t kpp (pp + 1) (d2 + (0 : Int32)) a2
      else
        runI F n P x t kpp (pp + 1) (d2 + ((doDeedsF (upd F 13 t) a2 n P (nI pp)).1)) ((doDeedsF (upd F 13 t) a2 n P (nI pp)).2)
def runL (F : FT) (n : Nat) (P : Nat) (x : Int32) : Nat → Nat → Int32 → Int32 → AT → Int32 × Int32 × AT
  | 0, rr, d, t, a1 => (d, t, a1)
  | krr + 1, rr, d, t, a1 => runL F n P x krr (rr + 1) ((runI F n P x t P 0 d a1).1) (t + (1 : Int32)) ((runI F n P x t P 0 d a1).2)
def runF (F : FT) (a : AT) (n : Nat) (P : Nat) (x : Int32) : Nat × Int32 × FT × AT :=
  if x < 0 then
    (1, 0, F, a)
  else
    if x ≤ 40 then
      (0, (runL F n P x x.toNatClampNeg 0 0 (F 13) a).1, upd F 13 ((runL F n P x x.toNatClampNeg 0 0 (F 13) a).2.1), (runL F n P x x.toNatClampNeg 0 0 (F 13) a).2.2)
    else
      (1, 0, F, a)
def showF (F : FT) (a : AT) (n : Nat) (P : Nat) (x : Int32) : Nat × Int32 × FT × AT :=
  if (isArcF F a x) = 0 then
    (4, 0, F, a)
  else
    if (rFirst (F 15)) = ((a 4) x.toNatClampNeg) then
      if (gIsPath F a P (F 15)) = 0 then
        (1, 0, F, a)
      else
        if (isLeaderF F a (rLast (F 15))) = 0 then
          (1, 0, F, a)
        else
          if (F 9) = 0 then
            (2, 0, F, a)
          else
            if ((a 5) x.toNatClampNeg) = 1 then
              if (isUnlockedF F a x (rLast (F 15))) = 0 then
                if (isInTimeF F a (F 15)) = 0 then
                  (3, 0, F, a)
                else
                  if (mayShowF F a n P (rLast (F 15)) (F 15)) = 0 then
                    (3, 0, F, a)
                  else
                    (0, bitCountF (((unlockF F a x (rLast (F 15)) (F 15)) 6) x.toNatClampNeg), upd F 15 0, (unlockF F a x (rLast (F 15)) (F 15)))
              else
                (2, 0, F, a)
            else
              (2, 0, F, a)
    else
      (1, 0, F, a)
theorem dX_arc_0 : decode bX_arc 0 = .ok (.aload_n 0, 1) := by decide +kernel
theorem dX_arc_1 : decode bX_arc 1 = .ok (.iload_n 1, 1) := by decide +kernel
theorem dX_arc_2 : decode bX_arc 2 = .ok (.invokevirtual 52, 3) := by decide +kernel
theorem dX_arc_5 : decode bX_arc 5 = .ok (.ifCond .eq 28, 3) := by decide +kernel
theorem dX_arc_8 : decode bX_arc 8 = .ok (.aload_n 0, 1) := by decide +kernel
theorem dX_arc_9 : decode bX_arc 9 = .ok (.iload_n 2, 1) := by decide +kernel
theorem dX_arc_10 : decode bX_arc 10 = .ok (.invokevirtual 52, 3) := by decide +kernel
theorem dX_arc_13 : decode bX_arc 13 = .ok (.ifCond .eq 20, 3) := by decide +kernel
theorem dX_arc_16 : decode bX_arc 16 = .ok (.iload_n 1, 1) := by decide +kernel
theorem dX_arc_17 : decode bX_arc 17 = .ok (.iload_n 2, 1) := by decide +kernel
theorem dX_arc_18 : decode bX_arc 18 = .ok (.if_icmp .eq 15, 3) := by decide +kernel
theorem dX_arc_21 : decode bX_arc 21 = .ok (.aload_n 0, 1) := by decide +kernel
theorem dX_arc_22 : decode bX_arc 22 = .ok (.getfield 48, 3) := by decide +kernel
theorem dX_arc_25 : decode bX_arc 25 = .ok (.iload_n 1, 1) := by decide +kernel
theorem dX_arc_26 : decode bX_arc 26 = .ok (.iload_n 2, 1) := by decide +kernel
theorem dX_arc_27 : decode bX_arc 27 = .ok (.invokevirtual 56, 3) := by decide +kernel
theorem dX_arc_30 : decode bX_arc 30 = .ok (.ifCond .eq 13, 3) := by decide +kernel
theorem dX_arc_33 : decode bX_arc 33 = .ok (.new 60, 3) := by decide +kernel
theorem dX_arc_36 : decode bX_arc 36 = .ok (.dup, 1) := by decide +kernel
theorem dX_arc_37 : decode bX_arc 37 = .ok (.ldc 62, 2) := by decide +kernel
theorem dX_arc_39 : decode bX_arc 39 = .ok (.invokespecial 64, 3) := by decide +kernel
theorem dX_arc_42 : decode bX_arc 42 = .ok (.athrow, 1) := by decide +kernel
theorem dX_arc_43 : decode bX_arc 43 = .ok (.aload_n 0, 1) := by decide +kernel
theorem dX_arc_44 : decode bX_arc 44 = .ok (.getfield 67, 3) := by decide +kernel
theorem dX_arc_47 : decode bX_arc 47 = .ok (.ifCond .ne 12, 3) := by decide +kernel
theorem dX_arc_50 : decode bX_arc 50 = .ok (.aload_n 0, 1) := by decide +kernel
theorem dX_arc_51 : decode bX_arc 51 = .ok (.getfield 71, 3) := by decide +kernel
theorem dX_arc_54 : decode bX_arc 54 = .ok (.bipush 14, 2) := by decide +kernel
theorem dX_arc_56 : decode bX_arc 56 = .ok (.if_icmp .lt 13, 3) := by decide +kernel
theorem dX_arc_59 : decode bX_arc 59 = .ok (.new 74, 3) := by decide +kernel
theorem dX_arc_62 : decode bX_arc 62 = .ok (.dup, 1) := by decide +kernel
theorem dX_arc_63 : decode bX_arc 63 = .ok (.ldc 76, 2) := by decide +kernel
theorem dX_arc_65 : decode bX_arc 65 = .ok (.invokespecial 78, 3) := by decide +kernel
theorem dX_arc_68 : decode bX_arc 68 = .ok (.athrow, 1) := by decide +kernel
theorem dX_arc_69 : decode bX_arc 69 = .ok (.aload_n 0, 1) := by decide +kernel
theorem dX_arc_70 : decode bX_arc 70 = .ok (.getfield 71, 3) := by decide +kernel
theorem dX_arc_73 : decode bX_arc 73 = .ok (.istore_n 3, 1) := by decide +kernel
theorem dX_arc_74 : decode bX_arc 74 = .ok (.aload_n 0, 1) := by decide +kernel
theorem dX_arc_75 : decode bX_arc 75 = .ok (.getfield 48, 3) := by decide +kernel
theorem dX_arc_78 : decode bX_arc 78 = .ok (.iload_n 1, 1) := by decide +kernel
theorem dX_arc_79 : decode bX_arc 79 = .ok (.iload_n 2, 1) := by decide +kernel
theorem dX_arc_80 : decode bX_arc 80 = .ok (.invokevirtual 79, 3) := by decide +kernel
theorem dX_arc_83 : decode bX_arc 83 = .ok (.aload_n 0, 1) := by decide +kernel
theorem dX_arc_84 : decode bX_arc 84 = .ok (.getfield 9, 3) := by decide +kernel
theorem dX_arc_87 : decode bX_arc 87 = .ok (.iload_n 3, 1) := by decide +kernel
theorem dX_arc_88 : decode bX_arc 88 = .ok (.iload_n 1, 1) := by decide +kernel
theorem dX_arc_89 : decode bX_arc 89 = .ok (.iastore, 1) := by decide +kernel
theorem dX_arc_90 : decode bX_arc 90 = .ok (.aload_n 0, 1) := by decide +kernel
theorem dX_arc_91 : decode bX_arc 91 = .ok (.getfield 13, 3) := by decide +kernel
theorem dX_arc_94 : decode bX_arc 94 = .ok (.iload_n 3, 1) := by decide +kernel
theorem dX_arc_95 : decode bX_arc 95 = .ok (.iload_n 2, 1) := by decide +kernel
theorem dX_arc_96 : decode bX_arc 96 = .ok (.iastore, 1) := by decide +kernel
theorem dX_arc_97 : decode bX_arc 97 = .ok (.aload_n 0, 1) := by decide +kernel
theorem dX_arc_98 : decode bX_arc 98 = .ok (.iload_n 3, 1) := by decide +kernel
theorem dX_arc_99 : decode bX_arc 99 = .ok (.iconst 1, 1) := by decide +kernel
theorem dX_arc_100 : decode bX_arc 100 = .ok (.iadd, 1) := by decide +kernel
theorem dX_arc_101 : decode bX_arc 101 = .ok (.putfield 71, 3) := by decide +kernel
theorem dX_arc_104 : decode bX_arc 104 = .ok (.iload_n 3, 1) := by decide +kernel
theorem dX_arc_105 : decode bX_arc 105 = .ok (.ireturn, 1) := by decide +kernel
theorem dX_plan_0 : decode bX_plan 0 = .ok (.aload_n 0, 1) := by decide +kernel
theorem dX_plan_1 : decode bX_plan 1 = .ok (.getfield 67, 3) := by decide +kernel
theorem dX_plan_4 : decode bX_plan 4 = .ok (.ifCond .eq 13, 3) := by decide +kernel
theorem dX_plan_7 : decode bX_plan 7 = .ok (.new 83, 3) := by decide +kernel
theorem dX_plan_10 : decode bX_plan 10 = .ok (.dup, 1) := by decide +kernel
theorem dX_plan_11 : decode bX_plan 11 = .ok (.ldc 85, 2) := by decide +kernel
theorem dX_plan_13 : decode bX_plan 13 = .ok (.invokespecial 87, 3) := by decide +kernel
theorem dX_plan_16 : decode bX_plan 16 = .ok (.athrow, 1) := by decide +kernel
theorem dX_plan_17 : decode bX_plan 17 = .ok (.aload_n 0, 1) := by decide +kernel
theorem dX_plan_18 : decode bX_plan 18 = .ok (.getfield 48, 3) := by decide +kernel
theorem dX_plan_21 : decode bX_plan 21 = .ok (.invokevirtual 88, 3) := by decide +kernel
theorem dX_plan_24 : decode bX_plan 24 = .ok (.ifCond .ne 13, 3) := by decide +kernel
theorem dX_plan_27 : decode bX_plan 27 = .ok (.new 74, 3) := by decide +kernel
theorem dX_plan_30 : decode bX_plan 30 = .ok (.dup, 1) := by decide +kernel
theorem dX_plan_31 : decode bX_plan 31 = .ok (.ldc 92, 2) := by decide +kernel
theorem dX_plan_33 : decode bX_plan 33 = .ok (.invokespecial 78, 3) := by decide +kernel
theorem dX_plan_36 : decode bX_plan 36 = .ok (.athrow, 1) := by decide +kernel
theorem dX_plan_37 : decode bX_plan 37 = .ok (.aload_n 0, 1) := by decide +kernel
theorem dX_plan_38 : decode bX_plan 38 = .ok (.iconst 1, 1) := by decide +kernel
theorem dX_plan_39 : decode bX_plan 39 = .ok (.putfield 67, 3) := by decide +kernel
theorem dX_plan_42 : decode bX_plan 42 = .ok (.aload_n 0, 1) := by decide +kernel
theorem dX_plan_43 : decode bX_plan 43 = .ok (.aload_n 0, 1) := by decide +kernel
theorem dX_plan_44 : decode bX_plan 44 = .ok (.getfield 94, 3) := by decide +kernel
theorem dX_plan_47 : decode bX_plan 47 = .ok (.putfield 97, 3) := by decide +kernel
theorem dX_plan_50 : decode bX_plan 50 = .ok (.aload_n 0, 1) := by decide +kernel
theorem dX_plan_51 : decode bX_plan 51 = .ok (.aload_n 0, 1) := by decide +kernel
theorem dX_plan_52 : decode bX_plan 52 = .ok (.getfield 48, 3) := by decide +kernel
theorem dX_plan_55 : decode bX_plan 55 = .ok (.invokevirtual 100, 3) := by decide +kernel
theorem dX_plan_58 : decode bX_plan 58 = .ok (.putfield 104, 3) := by decide +kernel
theorem dX_plan_61 : decode bX_plan 61 = .ok (.aload_n 0, 1) := by decide +kernel
theorem dX_plan_62 : decode bX_plan 62 = .ok (.aload_n 0, 1) := by decide +kernel
theorem dX_plan_63 : decode bX_plan 63 = .ok (.getfield 48, 3) := by decide +kernel
theorem dX_plan_66 : decode bX_plan 66 = .ok (.invokevirtual 107, 3) := by decide +kernel
theorem dX_plan_69 : decode bX_plan 69 = .ok (.putfield 110, 3) := by decide +kernel
theorem dX_plan_72 : decode bX_plan 72 = .ok (.aload_n 0, 1) := by decide +kernel
theorem dX_plan_73 : decode bX_plan 73 = .ok (.getfield 104, 3) := by decide +kernel
theorem dX_plan_76 : decode bX_plan 76 = .ok (.ireturn, 1) := by decide +kernel
theorem dX_act_0 : decode bX_act 0 = .ok (.aload_n 0, 1) := by decide +kernel
theorem dX_act_1 : decode bX_act 1 = .ok (.iload_n 1, 1) := by decide +kernel
theorem dX_act_2 : decode bX_act 2 = .ok (.invokevirtual 52, 3) := by decide +kernel
theorem dX_act_5 : decode bX_act 5 = .ok (.ifCond .ne 13, 3) := by decide +kernel
theorem dX_act_8 : decode bX_act 8 = .ok (.new 60, 3) := by decide +kernel
theorem dX_act_11 : decode bX_act 11 = .ok (.dup, 1) := by decide +kernel
theorem dX_act_12 : decode bX_act 12 = .ok (.ldc 119, 2) := by decide +kernel
theorem dX_act_14 : decode bX_act 14 = .ok (.invokespecial 64, 3) := by decide +kernel
theorem dX_act_17 : decode bX_act 17 = .ok (.athrow, 1) := by decide +kernel
theorem dX_act_18 : decode bX_act 18 = .ok (.aload_n 0, 1) := by decide +kernel
theorem dX_act_19 : decode bX_act 19 = .ok (.getfield 67, 3) := by decide +kernel
theorem dX_act_22 : decode bX_act 22 = .ok (.ifCond .ne 13, 3) := by decide +kernel
theorem dX_act_25 : decode bX_act 25 = .ok (.new 74, 3) := by decide +kernel
theorem dX_act_28 : decode bX_act 28 = .ok (.dup, 1) := by decide +kernel
theorem dX_act_29 : decode bX_act 29 = .ok (.ldc 121, 2) := by decide +kernel
theorem dX_act_31 : decode bX_act 31 = .ok (.invokespecial 78, 3) := by decide +kernel
theorem dX_act_34 : decode bX_act 34 = .ok (.athrow, 1) := by decide +kernel
theorem dX_act_35 : decode bX_act 35 = .ok (.aload_n 0, 1) := by decide +kernel
theorem dX_act_36 : decode bX_act 36 = .ok (.iload_n 1, 1) := by decide +kernel
theorem dX_act_37 : decode bX_act 37 = .ok (.invokevirtual 113, 3) := by decide +kernel
theorem dX_act_40 : decode bX_act 40 = .ok (.ifCond .ne 13, 3) := by decide +kernel
theorem dX_act_43 : decode bX_act 43 = .ok (.new 83, 3) := by decide +kernel
theorem dX_act_46 : decode bX_act 46 = .ok (.dup, 1) := by decide +kernel
theorem dX_act_47 : decode bX_act 47 = .ok (.ldc 123, 2) := by decide +kernel
theorem dX_act_49 : decode bX_act 49 = .ok (.invokespecial 87, 3) := by decide +kernel
theorem dX_act_52 : decode bX_act 52 = .ok (.athrow, 1) := by decide +kernel
theorem dX_act_53 : decode bX_act 53 = .ok (.aload_n 0, 1) := by decide +kernel
theorem dX_act_54 : decode bX_act 54 = .ok (.iload_n 1, 1) := by decide +kernel
theorem dX_act_55 : decode bX_act 55 = .ok (.invokevirtual 125, 3) := by decide +kernel
theorem dX_act_58 : decode bX_act 58 = .ok (.ireturn, 1) := by decide +kernel
theorem dX_run_0 : decode bX_run 0 = .ok (.iload_n 1, 1) := by decide +kernel
theorem dX_run_1 : decode bX_run 1 = .ok (.ifCond .lt 9, 3) := by decide +kernel
theorem dX_run_4 : decode bX_run 4 = .ok (.iload_n 1, 1) := by decide +kernel
theorem dX_run_5 : decode bX_run 5 = .ok (.bipush 40, 2) := by decide +kernel
theorem dX_run_7 : decode bX_run 7 = .ok (.if_icmp .le 13, 3) := by decide +kernel
theorem dX_run_10 : decode bX_run 10 = .ok (.new 60, 3) := by decide +kernel
theorem dX_run_13 : decode bX_run 13 = .ok (.dup, 1) := by decide +kernel
theorem dX_run_14 : decode bX_run 14 = .ok (.ldc 129, 2) := by decide +kernel
theorem dX_run_16 : decode bX_run 16 = .ok (.invokespecial 64, 3) := by decide +kernel
theorem dX_run_19 : decode bX_run 19 = .ok (.athrow, 1) := by decide +kernel
theorem dX_run_20 : decode bX_run 20 = .ok (.iconst 0, 1) := by decide +kernel
theorem dX_run_21 : decode bX_run 21 = .ok (.istore_n 2, 1) := by decide +kernel
theorem dX_run_22 : decode bX_run 22 = .ok (.iconst 0, 1) := by decide +kernel
theorem dX_run_23 : decode bX_run 23 = .ok (.istore_n 3, 1) := by decide +kernel
theorem dX_run_24 : decode bX_run 24 = .ok (.iload_n 3, 1) := by decide +kernel
theorem dX_run_25 : decode bX_run 25 = .ok (.iload_n 1, 1) := by decide +kernel
theorem dX_run_26 : decode bX_run 26 = .ok (.if_icmp .ge 66, 3) := by decide +kernel
theorem dX_run_29 : decode bX_run 29 = .ok (.iconst 0, 1) := by decide +kernel
theorem dX_run_30 : decode bX_run 30 = .ok (.istore 4, 2) := by decide +kernel
theorem dX_run_32 : decode bX_run 32 = .ok (.iload 4, 2) := by decide +kernel
theorem dX_run_34 : decode bX_run 34 = .ok (.aload_n 0, 1) := by decide +kernel
theorem dX_run_35 : decode bX_run 35 = .ok (.getfield 37, 3) := by decide +kernel
theorem dX_run_38 : decode bX_run 38 = .ok (.if_icmp .ge 38, 3) := by decide +kernel
theorem dX_run_41 : decode bX_run 41 = .ok (.iload_n 2, 1) := by decide +kernel
theorem dX_run_42 : decode bX_run 42 = .ok (.aload_n 0, 1) := by decide +kernel
theorem dX_run_43 : decode bX_run 43 = .ok (.getfield 67, 3) := by decide +kernel
theorem dX_run_46 : decode bX_run 46 = .ok (.ifCond .eq 21, 3) := by decide +kernel
theorem dX_run_49 : decode bX_run 49 = .ok (.aload_n 0, 1) := by decide +kernel
theorem dX_run_50 : decode bX_run 50 = .ok (.iload 4, 2) := by decide +kernel
theorem dX_run_52 : decode bX_run 52 = .ok (.invokevirtual 113, 3) := by decide +kernel
theorem dX_run_55 : decode bX_run 55 = .ok (.ifCond .eq 12, 3) := by decide +kernel
theorem dX_run_58 : decode bX_run 58 = .ok (.aload_n 0, 1) := by decide +kernel
theorem dX_run_59 : decode bX_run 59 = .ok (.iload 4, 2) := by decide +kernel
theorem dX_run_61 : decode bX_run 61 = .ok (.invokevirtual 125, 3) := by decide +kernel
theorem dX_run_64 : decode bX_run 64 = .ok (.goto 4, 3) := by decide +kernel
theorem dX_run_67 : decode bX_run 67 = .ok (.iconst 0, 1) := by decide +kernel
theorem dX_run_68 : decode bX_run 68 = .ok (.iadd, 1) := by decide +kernel
theorem dX_run_69 : decode bX_run 69 = .ok (.istore_n 2, 1) := by decide +kernel
theorem dX_run_70 : decode bX_run 70 = .ok (.iinc 4 1, 3) := by decide +kernel
theorem dX_run_73 : decode bX_run 73 = .ok (.goto (-41), 3) := by decide +kernel
theorem dX_run_76 : decode bX_run 76 = .ok (.aload_n 0, 1) := by decide +kernel
theorem dX_run_77 : decode bX_run 77 = .ok (.dup, 1) := by decide +kernel
theorem dX_run_78 : decode bX_run 78 = .ok (.getfield 94, 3) := by decide +kernel
theorem dX_run_81 : decode bX_run 81 = .ok (.iconst 1, 1) := by decide +kernel
theorem dX_run_82 : decode bX_run 82 = .ok (.iadd, 1) := by decide +kernel
theorem dX_run_83 : decode bX_run 83 = .ok (.putfield 94, 3) := by decide +kernel
theorem dX_run_86 : decode bX_run 86 = .ok (.iinc 3 1, 3) := by decide +kernel
theorem dX_run_89 : decode bX_run 89 = .ok (.goto (-65), 3) := by decide +kernel
theorem dX_run_92 : decode bX_run 92 = .ok (.iload_n 2, 1) := by decide +kernel
theorem dX_run_93 : decode bX_run 93 = .ok (.ireturn, 1) := by decide +kernel
theorem dX_show_0 : decode bX_show 0 = .ok (.aload_n 0, 1) := by decide +kernel
theorem dX_show_1 : decode bX_show 1 = .ok (.iload_n 1, 1) := by decide +kernel
theorem dX_show_2 : decode bX_show 2 = .ok (.invokevirtual 131, 3) := by decide +kernel
theorem dX_show_5 : decode bX_show 5 = .ok (.ifCond .ne 13, 3) := by decide +kernel
theorem dX_show_8 : decode bX_show 8 = .ok (.new 134, 3) := by decide +kernel
theorem dX_show_11 : decode bX_show 11 = .ok (.dup, 1) := by decide +kernel
theorem dX_show_12 : decode bX_show 12 = .ok (.ldc 136, 2) := by decide +kernel
theorem dX_show_14 : decode bX_show 14 = .ok (.invokespecial 138, 3) := by decide +kernel
theorem dX_show_17 : decode bX_show 17 = .ok (.athrow, 1) := by decide +kernel
theorem dX_show_18 : decode bX_show 18 = .ok (.aload_n 0, 1) := by decide +kernel
theorem dX_show_19 : decode bX_show 19 = .ok (.getfield 27, 3) := by decide +kernel
theorem dX_show_22 : decode bX_show 22 = .ok (.invokestatic 147, 3) := by decide +kernel
theorem dX_show_25 : decode bX_show 25 = .ok (.istore_n 2, 1) := by decide +kernel
theorem dX_show_26 : decode bX_show 26 = .ok (.aload_n 0, 1) := by decide +kernel
theorem dX_show_27 : decode bX_show 27 = .ok (.getfield 27, 3) := by decide +kernel
theorem dX_show_30 : decode bX_show 30 = .ok (.invokestatic 150, 3) := by decide +kernel
theorem dX_show_33 : decode bX_show 33 = .ok (.aload_n 0, 1) := by decide +kernel
theorem dX_show_34 : decode bX_show 34 = .ok (.getfield 13, 3) := by decide +kernel
theorem dX_show_37 : decode bX_show 37 = .ok (.iload_n 1, 1) := by decide +kernel
theorem dX_show_38 : decode bX_show 38 = .ok (.iaload, 1) := by decide +kernel
theorem dX_show_39 : decode bX_show 39 = .ok (.if_icmp .ne 25, 3) := by decide +kernel
theorem dX_show_42 : decode bX_show 42 = .ok (.aload_n 0, 1) := by decide +kernel
theorem dX_show_43 : decode bX_show 43 = .ok (.getfield 48, 3) := by decide +kernel
theorem dX_show_46 : decode bX_show 46 = .ok (.aload_n 0, 1) := by decide +kernel
theorem dX_show_47 : decode bX_show 47 = .ok (.getfield 27, 3) := by decide +kernel
theorem dX_show_50 : decode bX_show 50 = .ok (.invokevirtual 153, 3) := by decide +kernel
theorem dX_show_53 : decode bX_show 53 = .ok (.ifCond .eq 11, 3) := by decide +kernel
theorem dX_show_56 : decode bX_show 56 = .ok (.aload_n 0, 1) := by decide +kernel
theorem dX_show_57 : decode bX_show 57 = .ok (.iload_n 2, 1) := by decide +kernel
theorem dX_show_58 : decode bX_show 58 = .ok (.invokevirtual 156, 3) := by decide +kernel
theorem dX_show_61 : decode bX_show 61 = .ok (.ifCond .ne 13, 3) := by decide +kernel
theorem dX_show_64 : decode bX_show 64 = .ok (.new 60, 3) := by decide +kernel
theorem dX_show_67 : decode bX_show 67 = .ok (.dup, 1) := by decide +kernel
theorem dX_show_68 : decode bX_show 68 = .ok (.ldc 159, 2) := by decide +kernel
theorem dX_show_70 : decode bX_show 70 = .ok (.invokespecial 64, 3) := by decide +kernel
theorem dX_show_73 : decode bX_show 73 = .ok (.athrow, 1) := by decide +kernel
theorem dX_show_74 : decode bX_show 74 = .ok (.aload_n 0, 1) := by decide +kernel
theorem dX_show_75 : decode bX_show 75 = .ok (.getfield 67, 3) := by decide +kernel
theorem dX_show_78 : decode bX_show 78 = .ok (.ifCond .eq 22, 3) := by decide +kernel
theorem dX_show_81 : decode bX_show 81 = .ok (.aload_n 0, 1) := by decide +kernel
theorem dX_show_82 : decode bX_show 82 = .ok (.getfield 16, 3) := by decide +kernel
theorem dX_show_85 : decode bX_show 85 = .ok (.iload_n 1, 1) := by decide +kernel
theorem dX_show_86 : decode bX_show 86 = .ok (.iaload, 1) := by decide +kernel
theorem dX_show_87 : decode bX_show 87 = .ok (.iconst 1, 1) := by decide +kernel
theorem dX_show_88 : decode bX_show 88 = .ok (.if_icmp .ne 12, 3) := by decide +kernel
theorem dX_show_91 : decode bX_show 91 = .ok (.aload_n 0, 1) := by decide +kernel
theorem dX_show_92 : decode bX_show 92 = .ok (.iload_n 1, 1) := by decide +kernel
theorem dX_show_93 : decode bX_show 93 = .ok (.iload_n 2, 1) := by decide +kernel
theorem dX_show_94 : decode bX_show 94 = .ok (.invokevirtual 161, 3) := by decide +kernel
theorem dX_show_97 : decode bX_show 97 = .ok (.ifCond .eq 13, 3) := by decide +kernel
theorem dX_show_100 : decode bX_show 100 = .ok (.new 74, 3) := by decide +kernel
theorem dX_show_103 : decode bX_show 103 = .ok (.dup, 1) := by decide +kernel
theorem dX_show_104 : decode bX_show 104 = .ok (.ldc 164, 2) := by decide +kernel
theorem dX_show_106 : decode bX_show 106 = .ok (.invokespecial 78, 3) := by decide +kernel
theorem dX_show_109 : decode bX_show 109 = .ok (.athrow, 1) := by decide +kernel
theorem dX_show_110 : decode bX_show 110 = .ok (.aload_n 0, 1) := by decide +kernel
theorem dX_show_111 : decode bX_show 111 = .ok (.aload_n 0, 1) := by decide +kernel
theorem dX_show_112 : decode bX_show 112 = .ok (.getfield 27, 3) := by decide +kernel
theorem dX_show_115 : decode bX_show 115 = .ok (.invokevirtual 166, 3) := by decide +kernel
theorem dX_show_118 : decode bX_show 118 = .ok (.ifCond .eq 15, 3) := by decide +kernel
theorem dX_show_121 : decode bX_show 121 = .ok (.aload_n 0, 1) := by decide +kernel
theorem dX_show_122 : decode bX_show 122 = .ok (.iload_n 2, 1) := by decide +kernel
theorem dX_show_123 : decode bX_show 123 = .ok (.aload_n 0, 1) := by decide +kernel
theorem dX_show_124 : decode bX_show 124 = .ok (.getfield 27, 3) := by decide +kernel
theorem dX_show_127 : decode bX_show 127 = .ok (.invokevirtual 169, 3) := by decide +kernel
theorem dX_show_130 : decode bX_show 130 = .ok (.ifCond .ne 13, 3) := by decide +kernel
theorem dX_show_133 : decode bX_show 133 = .ok (.new 83, 3) := by decide +kernel
theorem dX_show_136 : decode bX_show 136 = .ok (.dup, 1) := by decide +kernel
theorem dX_show_137 : decode bX_show 137 = .ok (.ldc 172, 2) := by decide +kernel
theorem dX_show_139 : decode bX_show 139 = .ok (.invokespecial 87, 3) := by decide +kernel
theorem dX_show_142 : decode bX_show 142 = .ok (.athrow, 1) := by decide +kernel
theorem dX_show_143 : decode bX_show 143 = .ok (.aload_n 0, 1) := by decide +kernel
theorem dX_show_144 : decode bX_show 144 = .ok (.iload_n 1, 1) := by decide +kernel
theorem dX_show_145 : decode bX_show 145 = .ok (.iload_n 2, 1) := by decide +kernel
theorem dX_show_146 : decode bX_show 146 = .ok (.aload_n 0, 1) := by decide +kernel
theorem dX_show_147 : decode bX_show 147 = .ok (.getfield 27, 3) := by decide +kernel
theorem dX_show_150 : decode bX_show 150 = .ok (.invokevirtual 174, 3) := by decide +kernel
theorem dX_show_153 : decode bX_show 153 = .ok (.aload_n 0, 1) := by decide +kernel
theorem dX_show_154 : decode bX_show 154 = .ok (.iconst 0, 1) := by decide +kernel
theorem dX_show_155 : decode bX_show 155 = .ok (.putfield 27, 3) := by decide +kernel
theorem dX_show_158 : decode bX_show 158 = .ok (.aload_n 0, 1) := by decide +kernel
theorem dX_show_159 : decode bX_show 159 = .ok (.getfield 19, 3) := by decide +kernel
theorem dX_show_162 : decode bX_show 162 = .ok (.iload_n 1, 1) := by decide +kernel
theorem dX_show_163 : decode bX_show 163 = .ok (.iaload, 1) := by decide +kernel
theorem dX_show_164 : decode bX_show 164 = .ok (.invokestatic 178, 3) := by decide +kernel
theorem dX_show_167 : decode bX_show 167 = .ok (.ireturn, 1) := by decide +kernel
set_option maxRecDepth 20000 in
theorem gX_arc_X_isParty : GoodIn tX_arc (wsV RcX 52 RcX yX_isParty wX_isParty) := goodIn_app (goodIn_of _ (by decide +kernel)) (goodIn_r _ [17, 18, 27, 28, 29, 30, 31, 32, 33, 34, 35, 36, 37, 38, 39, 40, 41, 42] (by decide +kernel) (by decide +kernel))
theorem inX_arc_X : ∀ x ∈ u_ws RcX TcX 16, x ∈ tX_arc := by decide +kernel
set_option maxRecDepth 20000 in
theorem gX_arc_G_joins : GoodIn tX_arc (wsV RcX 56 RcG yG_joins wG_joins) := goodIn_app (goodIn_of _ (by decide +kernel)) (goodIn_r _ [19, 20, 21, 22, 9, 23, 24, 25, 43, 44, 45] (by decide +kernel) (by decide +kernel))
set_option maxRecDepth 20000 in
theorem gX_arc_G_join : GoodIn tX_arc (wsV RcX 79 RcG yG_join wG_join) := goodIn_app (goodIn_of _ (by decide +kernel)) (goodIn_r _ [26, 20, 21, 22, 9, 23, 24, 25, 43, 44, 45] (by decide +kernel) (by decide +kernel))
theorem inX_plan_X : ∀ x ∈ u_ws RcX TcX 16, x ∈ tX_plan := by decide +kernel
set_option maxRecDepth 20000 in
theorem gX_plan_G_isStrong : GoodIn tX_plan (wsV RcX 88 RcG yG_isStrong wG_isStrong) := goodIn_app (goodIn_of _ (by decide +kernel)) (goodIn_r _ [17, 18, 19, 20, 21, 6, 22, 23, 24, 61, 62, 63] (by decide +kernel) (by decide +kernel))
set_option maxRecDepth 20000 in
theorem gX_plan_G_longestPath : GoodIn tX_plan (wsV RcX 100 RcG yG_longestPath wG_longestPath) := goodIn_app (goodIn_of _ (by decide +kernel)) (goodIn_r _ [25, 18, 24, 26, 27, 6, 28, 29, 30, 31, 32, 61, 62, 63] (by decide +kernel) (by decide +kernel))
set_option maxRecDepth 20000 in
theorem gX_plan_G_fewestLeaders : GoodIn tX_plan (wsV RcX 107 RcG yG_fewestLeaders wG_fewestLeaders) := goodIn_app (goodIn_of _ (by decide +kernel)) (goodIn_r _ [33, 22, 34, 35, 36, 37, 38, 39, 6, 40, 41, 42, 43, 44, 18, 24, 61, 62, 63] (by decide +kernel) (by decide +kernel))
set_option maxRecDepth 20000 in
theorem gX_act_X_isParty : GoodIn tX_act (wsV RcX 52 RcX yX_isParty wX_isParty) := goodIn_app (goodIn_of _ (by decide +kernel)) (goodIn_r _ [12, 13, 101, 102, 103, 104, 105, 106, 107, 108, 109, 110, 111, 112, 113, 114, 115, 116] (by decide +kernel) (by decide +kernel))
theorem inX_act_X : ∀ x ∈ u_ws RcX TcX 16, x ∈ tX_act := by decide +kernel
set_option maxRecDepth 20000 in
theorem gX_act_X_conforms : GoodIn tX_act (wsV RcX 113 RcX yX_conforms wX_conforms) := goodIn_app (goodIn_of _ (by decide +kernel)) (goodIn_r _ [14, 15, 101, 102, 103, 104, 105, 106, 107, 108, 109, 110, 111, 112, 113, 114, 115, 116] (by decide +kernel) (by decide +kernel))
set_option maxRecDepth 20000 in
theorem gX_act_X_doDeeds : GoodIn tX_act (wsV RcX 125 RcX yX_doDeeds wX_doDeeds) := goodIn_app (goodIn_of _ (by decide +kernel)) (goodIn_r _ [16, 17, 18, 19, 4, 20, 21, 22, 23, 24, 25, 26, 27, 28, 29, 30, 31, 32, 33, 34, 35, 36, 37, 38, 39, 40, 41, 42, 43, 44, 45, 46, 47, 1, 2, 3, 48, 12, 13, 49, 50, 51, 52, 53, 54, 55, 56, 57, 58, 59, 60, 61, 62, 63, 64, 65, 66, 67, 68, 69, 70, 71, 72, 73, 74, 75, 76, 77, 78, 79, 80, 81, 82, 83, 84, 85, 86, 87, 88, 89, 90, 91, 92, 93, 94, 95, 96, 97, 98, 99, 100, 101, 102, 103, 104, 105, 106, 107, 108, 109, 110, 111, 112, 113, 114, 115, 116] (by decide +kernel) (by decide +kernel))
theorem inX_run_X : ∀ x ∈ u_ws RcX TcX 16, x ∈ tX_run := by decide +kernel
set_option maxRecDepth 20000 in
theorem gX_run_X_conforms : GoodIn tX_run (wsV RcX 113 RcX yX_conforms wX_conforms) := goodIn_app (goodIn_of _ (by decide +kernel)) (goodIn_r _ [11, 12, 101, 102, 103, 104, 105, 106, 107, 108, 109, 110, 111, 112, 113, 114, 115, 116] (by decide +kernel) (by decide +kernel))
set_option maxRecDepth 20000 in
theorem gX_run_X_doDeeds : GoodIn tX_run (wsV RcX 125 RcX yX_doDeeds wX_doDeeds) := goodIn_app (goodIn_of _ (by decide +kernel)) (goodIn_r _ [13, 14, 15, 16, 6, 17, 18, 19, 20, 21, 22, 23, 24, 25, 26, 27, 28, 29, 30, 31, 32, 33, 34, 35, 36, 37, 38, 39, 10, 40, 41, 42, 43, 44, 45, 46, 47, 48, 1, 49, 50, 51, 52, 53, 54, 55, 56, 57, 58, 59, 60, 61, 62, 63, 64, 65, 66, 67, 68, 69, 70, 71, 72, 73, 74, 75, 76, 77, 78, 79, 80, 81, 82, 83, 84, 85, 86, 87, 88, 89, 90, 91, 92, 93, 94, 95, 96, 97, 98, 99, 100, 101, 102, 103, 104, 105, 106, 107, 108, 109, 110, 111, 112, 113, 114, 115, 116] (by decide +kernel) (by decide +kernel))
set_option maxRecDepth 20000 in
theorem gX_show_X_isArc : GoodIn tX_show (wsV RcX 131 RcX yX_isArc wX_isArc) := goodIn_app (goodIn_of _ (by decide +kernel)) (goodIn_r _ [38, 39, 89, 90, 91, 92, 93, 94, 95, 96, 97, 98, 99, 100, 101, 102, 103, 104] (by decide +kernel) (by decide +kernel))
theorem inX_show_X : ∀ x ∈ u_ws RcX TcX 16, x ∈ tX_show := by decide +kernel
set_option maxRecDepth 20000 in
theorem gX_show_R_last : GoodIn tX_show (va_wsS RcX 147 yR_last wR_last) := goodIn_app (goodIn_of _ (by decide +kernel)) (goodIn_r _ [40, 41, 42, 8, 43, 44, 45, 46] (by decide +kernel) (by decide +kernel))
set_option maxRecDepth 20000 in
theorem gX_show_R_first : GoodIn tX_show (va_wsS RcX 150 yR_first wR_first) := goodIn_app (goodIn_of _ (by decide +kernel)) (goodIn_r _ [47, 43, 44, 8, 46] (by decide +kernel) (by decide +kernel))
set_option maxRecDepth 20000 in
theorem gX_show_G_isPath : GoodIn tX_show (wsV RcX 153 RcG yG_isPath wG_isPath) := goodIn_app (goodIn_of _ (by decide +kernel)) (goodIn_r _ [48, 49, 42, 8, 50, 44, 51, 52, 53, 16, 54, 55, 56, 45, 46, 57, 58, 59, 60, 105, 106, 107] (by decide +kernel) (by decide +kernel))
set_option maxRecDepth 20000 in
theorem gX_show_X_isLeader : GoodIn tX_show (wsV RcX 156 RcX yX_isLeader wX_isLeader) := goodIn_app (goodIn_of _ (by decide +kernel)) (goodIn_r _ [61, 62, 63, 64, 4, 65, 66, 67, 89, 90, 91, 92, 93, 94, 95, 96, 97, 98, 99, 100, 101, 102, 103, 104] (by decide +kernel) (by decide +kernel))
set_option maxRecDepth 20000 in
theorem gX_show_X_isUnlocked : GoodIn tX_show (wsV RcX 161 RcX yX_isUnlocked wX_isUnlocked) := goodIn_app (goodIn_of _ (by decide +kernel)) (goodIn_r _ [68, 34, 89, 90, 91, 92, 93, 94, 95, 96, 97, 98, 99, 100, 101, 102, 103, 104] (by decide +kernel) (by decide +kernel))
set_option maxRecDepth 20000 in
theorem gX_show_X_isInTime : GoodIn tX_show (wsV RcX 166 RcX yX_isInTime wX_isInTime) := goodIn_app (goodIn_of _ (by decide +kernel)) (goodIn_r _ [69, 70, 42, 8, 71, 72, 73, 74, 45, 89, 90, 91, 92, 93, 94, 95, 96, 97, 98, 99, 100, 101, 102, 103, 104] (by decide +kernel) (by decide +kernel))
set_option maxRecDepth 20000 in
theorem gX_show_X_mayShow : GoodIn tX_show (wsV RcX 169 RcX yX_mayShow wX_mayShow) := goodIn_app (goodIn_of _ (by decide +kernel)) (goodIn_r _ [75, 76, 77, 8, 39, 78, 79, 80, 4, 81, 82, 1, 2, 3, 62, 63, 64, 83, 38, 66, 67, 89, 90, 91, 92, 93, 94, 95, 96, 97, 98, 99, 100, 101, 102, 103, 104] (by decide +kernel) (by decide +kernel))
set_option maxRecDepth 20000 in
theorem gX_show_X_unlock : GoodIn tX_show (wsV RcX 174 RcX yX_unlock wX_unlock) := goodIn_app (goodIn_of _ (by decide +kernel)) (goodIn_r _ [84, 83, 34, 65, 21, 89, 90, 91, 92, 93, 94, 95, 96, 97, 98, 99, 100, 101, 102, 103, 104] (by decide +kernel) (by decide +kernel))
set_option maxRecDepth 20000 in
theorem gX_show_J_bitCount : GoodIn tX_show (va_wsS RcX 178 yJ_bitCount wJ_bitCount) := goodIn_app (goodIn_of _ (by decide +kernel)) (goodIn_r _ [85, 86, 87, 88] (by decide +kernel) (by decide +kernel))

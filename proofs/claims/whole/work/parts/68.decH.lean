abbrev bL_arc : ByteArray := method_3_code
def yL_arc : MethodName := ⟨RcL, "arc", "(LSwapDesk;II[J)I"⟩
def hL_arc : List Cond := .codeWith yL_arc bL_arc 5 (some .int) [(0, 10, 13, 13), (0, 10, 17, 15)] :: (wsV RcL 7 RcX yX_arc tX_arc ++ [.classLink RcL 13 eA, .classLink RcL 15 eS])
abbrev bL_plan : ByteArray := method_4_code
def yL_plan : MethodName := ⟨RcL, "plan", "(LSwapDesk;[J)I"⟩
def hL_plan : List Cond := .codeWith yL_plan bL_plan 3 (some .int) [(0, 8, 11, 21), (0, 8, 14, 15)] :: (wsV RcL 17 RcX yX_plan tX_plan ++ [.classLink RcL 21 eU, .classLink RcL 15 eS])
abbrev bL_act : ByteArray := method_5_code
def yL_act : MethodName := ⟨RcL, "act", "(LSwapDesk;I[J)I"⟩
def hL_act : List Cond := .codeWith yL_act bL_act 4 (some .int) [(0, 9, 12, 13), (0, 9, 15, 15), (0, 9, 18, 21)] :: (wsV RcL 23 RcX yX_act tX_act ++ [.classLink RcL 13 eA, .classLink RcL 15 eS, .classLink RcL 21 eU])
abbrev bL_run : ByteArray := method_6_code
def yL_run : MethodName := ⟨RcL, "run", "(LSwapDesk;I[J)I"⟩
def hL_run : List Cond := .codeWith yL_run bL_run 4 (some .int) [(0, 9, 12, 13)] :: (wsV RcL 27 RcX yX_run tX_run ++ [.classLink RcL 13 eA])
abbrev bL_deploy : ByteArray := method_7_code
def yL_deploy : MethodName := ⟨RcL, "deploy", "(LSwapDesk;I)I"⟩
def hL_deploy : List Cond := .codeWith yL_deploy bL_deploy 3 (some .int) [(0, 5, 8, 34), (0, 5, 11, 15)] :: (wsV RcL 30 RcX yX_deploy tX_deploy ++ [.classLink RcL 34 eB, .classLink RcL 15 eS])
abbrev bL_show : ByteArray := method_8_code
def yL_show : MethodName := ⟨RcL, "show", "(LSwapDesk;I[J)I"⟩
def hL_show : List Cond := .codeWith yL_show bL_show 4 (some .int) [(0, 9, 12, 34), (0, 9, 15, 13), (0, 9, 18, 15), (0, 9, 21, 21)] :: (wsV RcL 36 RcX yX_show tX_show ++ [.classLink RcL 34 eB, .classLink RcL 13 eA, .classLink RcL 15 eS, .classLink RcL 21 eU])
abbrev bL_back : ByteArray := method_9_code
def yL_back : MethodName := ⟨RcL, "back", "(LSwapDesk;I)I"⟩
def hL_back : List Cond := .codeWith yL_back bL_back 3 (some .int) [(0, 5, 8, 34), (0, 5, 11, 15), (0, 5, 14, 21)] :: (wsV RcL 39 RcX yX_back tX_back ++ [.classLink RcL 34 eB, .classLink RcL 15 eS, .classLink RcL 21 eU])
abbrev bL_state : ByteArray := method_10_code
def yL_state : MethodName := ⟨RcL, "state", "(LSwapDesk;I[J)I"⟩
def hL_state : List Cond := .codeWith yL_state bL_state 4 (some .int) [(0, 9, 12, 34)] :: (wsV RcL 42 RcX yX_state tX_state ++ [.classLink RcL 34 eB])
abbrev bL_open : ByteArray := method_11_code
def yL_open : MethodName := ⟨RcL, "open", "(LSwapDesk;I[J)I"⟩
def hL_open : List Cond := .codeWith yL_open bL_open 4 (some .int) [(0, 9, 12, 34)] :: (wsV RcL 45 RcX yX_open tX_open ++ [.classLink RcL 34 eB])
abbrev bL_key : ByteArray := method_12_code
def yL_key : MethodName := ⟨RcL, "key", "(LSwapDesk;III[J)I"⟩
def hL_key : List Cond := .codeWith yL_key bL_key 6 (some .int) [(0, 12, 15, 34)] :: (wsV RcL 48 RcX yX_key tX_key ++ [.classLink RcL 34 eB])
abbrev bL_outcome : ByteArray := method_13_code
def yL_outcome : MethodName := ⟨RcL, "outcome", "(LSwapDesk;I[J)I"⟩
def hL_outcome : List Cond := .codeWith yL_outcome bL_outcome 4 (some .int) [(0, 9, 12, 34)] :: (wsV RcL 52 RcX yX_outcome tX_outcome ++ [.classLink RcL 34 eB])
set_option maxRecDepth 20000 in
theorem gL_arc : GoodIn hL_arc (wsV RcL 7 RcX yX_arc tX_arc) := goodIn_sub (fun _ h => List.mem_cons_of_mem _ (List.mem_append_left _ h)) (by decide +kernel)
theorem arcF_cases (F : FT) (a : AT) (x : Int32) (y : Int32) : (arcF F a x y).1 = 0 ∨ arcF F a x y = (1, 0, F, a) ∨ arcF F a x y = (2, 0, F, a) := by
  unfold arcF
  repeat' split
  all_goals first | exact Or.inl rfl | exact Or.inr (Or.inl rfl) | exact Or.inr rfl | exact Or.inr (Or.inr rfl) | exact Or.inr (Or.inr (Or.inl rfl)) | exact Or.inr (Or.inr (Or.inr rfl)) | exact Or.inr (Or.inr (Or.inr (Or.inl rfl))) | exact Or.inr (Or.inr (Or.inr (Or.inr rfl)))
theorem dL_arc_0 : decode bL_arc 0 = .ok (.aload_n 3, 1) := by decide +kernel
theorem dL_arc_1 : decode bL_arc 1 = .ok (.iconst 0, 1) := by decide +kernel
theorem dL_arc_2 : decode bL_arc 2 = .ok (.aload_n 0, 1) := by decide +kernel
theorem dL_arc_3 : decode bL_arc 3 = .ok (.iload_n 1, 1) := by decide +kernel
theorem dL_arc_4 : decode bL_arc 4 = .ok (.iload_n 2, 1) := by decide +kernel
theorem dL_arc_5 : decode bL_arc 5 = .ok (.invokevirtual 7, 3) := by decide +kernel
theorem dL_arc_8 : decode bL_arc 8 = .ok (.i2l, 1) := by decide +kernel
theorem dL_arc_9 : decode bL_arc 9 = .ok (.lastore, 1) := by decide +kernel
theorem dL_arc_10 : decode bL_arc 10 = .ok (.goto 11, 3) := by decide +kernel
theorem dL_arc_13 : decode bL_arc 13 = .ok (.astore 4, 2) := by decide +kernel
theorem dL_arc_15 : decode bL_arc 15 = .ok (.iconst 1, 1) := by decide +kernel
theorem dL_arc_16 : decode bL_arc 16 = .ok (.ireturn, 1) := by decide +kernel
theorem dL_arc_17 : decode bL_arc 17 = .ok (.astore 4, 2) := by decide +kernel
theorem dL_arc_19 : decode bL_arc 19 = .ok (.iconst 2, 1) := by decide +kernel
theorem dL_arc_20 : decode bL_arc 20 = .ok (.ireturn, 1) := by decide +kernel
theorem dL_arc_21 : decode bL_arc 21 = .ok (.iconst 0, 1) := by decide +kernel
theorem dL_arc_22 : decode bL_arc 22 = .ok (.ireturn, 1) := by decide +kernel
set_option maxRecDepth 20000 in
theorem gL_plan : GoodIn hL_plan (wsV RcL 17 RcX yX_plan tX_plan) := goodIn_sub (fun _ h => List.mem_cons_of_mem _ (List.mem_append_left _ h)) (by decide +kernel)
theorem planF_cases (F : FT) (a : AT) (P : Nat) (E : Nat) : (planF F a P E).1 = 0 ∨ planF F a P E = (3, 0, F) ∨ planF F a P E = (2, 0, F) := by
  unfold planF
  repeat' split
  all_goals first | exact Or.inl rfl | exact Or.inr (Or.inl rfl) | exact Or.inr rfl | exact Or.inr (Or.inr rfl) | exact Or.inr (Or.inr (Or.inl rfl)) | exact Or.inr (Or.inr (Or.inr rfl)) | exact Or.inr (Or.inr (Or.inr (Or.inl rfl))) | exact Or.inr (Or.inr (Or.inr (Or.inr rfl)))
theorem dL_plan_0 : decode bL_plan 0 = .ok (.aload_n 1, 1) := by decide +kernel
theorem dL_plan_1 : decode bL_plan 1 = .ok (.iconst 0, 1) := by decide +kernel
theorem dL_plan_2 : decode bL_plan 2 = .ok (.aload_n 0, 1) := by decide +kernel
theorem dL_plan_3 : decode bL_plan 3 = .ok (.invokevirtual 17, 3) := by decide +kernel
theorem dL_plan_6 : decode bL_plan 6 = .ok (.i2l, 1) := by decide +kernel
theorem dL_plan_7 : decode bL_plan 7 = .ok (.lastore, 1) := by decide +kernel
theorem dL_plan_8 : decode bL_plan 8 = .ok (.goto 9, 3) := by decide +kernel
theorem dL_plan_11 : decode bL_plan 11 = .ok (.astore_n 2, 1) := by decide +kernel
theorem dL_plan_12 : decode bL_plan 12 = .ok (.iconst 1, 1) := by decide +kernel
theorem dL_plan_13 : decode bL_plan 13 = .ok (.ireturn, 1) := by decide +kernel
theorem dL_plan_14 : decode bL_plan 14 = .ok (.astore_n 2, 1) := by decide +kernel
theorem dL_plan_15 : decode bL_plan 15 = .ok (.iconst 2, 1) := by decide +kernel
theorem dL_plan_16 : decode bL_plan 16 = .ok (.ireturn, 1) := by decide +kernel
theorem dL_plan_17 : decode bL_plan 17 = .ok (.iconst 0, 1) := by decide +kernel
theorem dL_plan_18 : decode bL_plan 18 = .ok (.ireturn, 1) := by decide +kernel
set_option maxRecDepth 20000 in
theorem gL_act : GoodIn hL_act (wsV RcL 23 RcX yX_act tX_act) := goodIn_sub (fun _ h => List.mem_cons_of_mem _ (List.mem_append_left _ h)) (by decide +kernel)
theorem actF_cases (F : FT) (a : AT) (n : Nat) (P : Nat) (x : Int32) : (actF F a n P x).1 = 0 ∨ actF F a n P x = (1, 0, a) ∨ actF F a n P x = (2, 0, a) ∨ actF F a n P x = (3, 0, a) := by
  unfold actF
  repeat' split
  all_goals first | exact Or.inl rfl | exact Or.inr (Or.inl rfl) | exact Or.inr rfl | exact Or.inr (Or.inr rfl) | exact Or.inr (Or.inr (Or.inl rfl)) | exact Or.inr (Or.inr (Or.inr rfl)) | exact Or.inr (Or.inr (Or.inr (Or.inl rfl))) | exact Or.inr (Or.inr (Or.inr (Or.inr rfl)))
theorem dL_act_0 : decode bL_act 0 = .ok (.aload_n 2, 1) := by decide +kernel
theorem dL_act_1 : decode bL_act 1 = .ok (.iconst 0, 1) := by decide +kernel
theorem dL_act_2 : decode bL_act 2 = .ok (.aload_n 0, 1) := by decide +kernel
theorem dL_act_3 : decode bL_act 3 = .ok (.iload_n 1, 1) := by decide +kernel
theorem dL_act_4 : decode bL_act 4 = .ok (.invokevirtual 23, 3) := by decide +kernel
theorem dL_act_7 : decode bL_act 7 = .ok (.i2l, 1) := by decide +kernel
theorem dL_act_8 : decode bL_act 8 = .ok (.lastore, 1) := by decide +kernel
theorem dL_act_9 : decode bL_act 9 = .ok (.goto 12, 3) := by decide +kernel
theorem dL_act_12 : decode bL_act 12 = .ok (.astore_n 3, 1) := by decide +kernel
theorem dL_act_13 : decode bL_act 13 = .ok (.iconst 1, 1) := by decide +kernel
theorem dL_act_14 : decode bL_act 14 = .ok (.ireturn, 1) := by decide +kernel
theorem dL_act_15 : decode bL_act 15 = .ok (.astore_n 3, 1) := by decide +kernel
theorem dL_act_16 : decode bL_act 16 = .ok (.iconst 2, 1) := by decide +kernel
theorem dL_act_17 : decode bL_act 17 = .ok (.ireturn, 1) := by decide +kernel
theorem dL_act_18 : decode bL_act 18 = .ok (.astore_n 3, 1) := by decide +kernel
theorem dL_act_19 : decode bL_act 19 = .ok (.iconst 3, 1) := by decide +kernel
theorem dL_act_20 : decode bL_act 20 = .ok (.ireturn, 1) := by decide +kernel
theorem dL_act_21 : decode bL_act 21 = .ok (.iconst 0, 1) := by decide +kernel
theorem dL_act_22 : decode bL_act 22 = .ok (.ireturn, 1) := by decide +kernel
set_option maxRecDepth 20000 in
theorem gL_run : GoodIn hL_run (wsV RcL 27 RcX yX_run tX_run) := goodIn_sub (fun _ h => List.mem_cons_of_mem _ (List.mem_append_left _ h)) (by decide +kernel)
theorem runF_cases (F : FT) (a : AT) (n : Nat) (P : Nat) (x : Int32) : (runF F a n P x).1 = 0 ∨ runF F a n P x = (1, 0, F, a) := by
  unfold runF
  repeat' split
  all_goals first | exact Or.inl rfl | exact Or.inr (Or.inl rfl) | exact Or.inr rfl | exact Or.inr (Or.inr rfl) | exact Or.inr (Or.inr (Or.inl rfl)) | exact Or.inr (Or.inr (Or.inr rfl)) | exact Or.inr (Or.inr (Or.inr (Or.inl rfl))) | exact Or.inr (Or.inr (Or.inr (Or.inr rfl)))
theorem dL_run_0 : decode bL_run 0 = .ok (.aload_n 2, 1) := by decide +kernel
theorem dL_run_1 : decode bL_run 1 = .ok (.iconst 0, 1) := by decide +kernel
theorem dL_run_2 : decode bL_run 2 = .ok (.aload_n 0, 1) := by decide +kernel
theorem dL_run_3 : decode bL_run 3 = .ok (.iload_n 1, 1) := by decide +kernel
theorem dL_run_4 : decode bL_run 4 = .ok (.invokevirtual 27, 3) := by decide +kernel
theorem dL_run_7 : decode bL_run 7 = .ok (.i2l, 1) := by decide +kernel
theorem dL_run_8 : decode bL_run 8 = .ok (.lastore, 1) := by decide +kernel
theorem dL_run_9 : decode bL_run 9 = .ok (.goto 6, 3) := by decide +kernel
theorem dL_run_12 : decode bL_run 12 = .ok (.astore_n 3, 1) := by decide +kernel
theorem dL_run_13 : decode bL_run 13 = .ok (.iconst 1, 1) := by decide +kernel
theorem dL_run_14 : decode bL_run 14 = .ok (.ireturn, 1) := by decide +kernel
theorem dL_run_15 : decode bL_run 15 = .ok (.iconst 0, 1) := by decide +kernel
theorem dL_run_16 : decode bL_run 16 = .ok (.ireturn, 1) := by decide +kernel
set_option maxRecDepth 20000 in
theorem gL_deploy : GoodIn hL_deploy (wsV RcL 30 RcX yX_deploy tX_deploy) := goodIn_sub (fun _ h => List.mem_cons_of_mem _ (List.mem_append_left _ h)) (by decide +kernel)
theorem deployF_cases (F : FT) (a : AT) (x : Int32) : (deployF F a x).1 = 0 ∨ deployF F a x = (4, a) ∨ deployF F a x = (2, a) := by
  unfold deployF
  repeat' split
  all_goals first | exact Or.inl rfl | exact Or.inr (Or.inl rfl) | exact Or.inr rfl | exact Or.inr (Or.inr rfl) | exact Or.inr (Or.inr (Or.inl rfl)) | exact Or.inr (Or.inr (Or.inr rfl)) | exact Or.inr (Or.inr (Or.inr (Or.inl rfl))) | exact Or.inr (Or.inr (Or.inr (Or.inr rfl)))
theorem dL_deploy_0 : decode bL_deploy 0 = .ok (.aload_n 0, 1) := by decide +kernel
theorem dL_deploy_1 : decode bL_deploy 1 = .ok (.iload_n 1, 1) := by decide +kernel
theorem dL_deploy_2 : decode bL_deploy 2 = .ok (.invokevirtual 30, 3) := by decide +kernel
theorem dL_deploy_5 : decode bL_deploy 5 = .ok (.goto 9, 3) := by decide +kernel
theorem dL_deploy_8 : decode bL_deploy 8 = .ok (.astore_n 2, 1) := by decide +kernel
theorem dL_deploy_9 : decode bL_deploy 9 = .ok (.iconst 1, 1) := by decide +kernel
theorem dL_deploy_10 : decode bL_deploy 10 = .ok (.ireturn, 1) := by decide +kernel
theorem dL_deploy_11 : decode bL_deploy 11 = .ok (.astore_n 2, 1) := by decide +kernel
theorem dL_deploy_12 : decode bL_deploy 12 = .ok (.iconst 2, 1) := by decide +kernel
theorem dL_deploy_13 : decode bL_deploy 13 = .ok (.ireturn, 1) := by decide +kernel
theorem dL_deploy_14 : decode bL_deploy 14 = .ok (.iconst 0, 1) := by decide +kernel
theorem dL_deploy_15 : decode bL_deploy 15 = .ok (.ireturn, 1) := by decide +kernel
set_option maxRecDepth 20000 in
theorem gL_show : GoodIn hL_show (wsV RcL 36 RcX yX_show tX_show) := goodIn_sub (fun _ h => List.mem_cons_of_mem _ (List.mem_append_left _ h)) (by decide +kernel)
theorem showF_cases (F : FT) (a : AT) (n : Nat) (P : Nat) (x : Int32) : (showF F a n P x).1 = 0 ∨ showF F a n P x = (4, 0, F, a) ∨ showF F a n P x = (1, 0, F, a) ∨ showF F a n P x = (2, 0, F, a) ∨ showF F a n P x = (3, 0, F, a) := by
  unfold showF
  repeat' split
  all_goals first | exact Or.inl rfl | exact Or.inr (Or.inl rfl) | exact Or.inr rfl | exact Or.inr (Or.inr rfl) | exact Or.inr (Or.inr (Or.inl rfl)) | exact Or.inr (Or.inr (Or.inr rfl)) | exact Or.inr (Or.inr (Or.inr (Or.inl rfl))) | exact Or.inr (Or.inr (Or.inr (Or.inr rfl)))
theorem dL_show_0 : decode bL_show 0 = .ok (.aload_n 2, 1) := by decide +kernel
theorem dL_show_1 : decode bL_show 1 = .ok (.iconst 0, 1) := by decide +kernel
theorem dL_show_2 : decode bL_show 2 = .ok (.aload_n 0, 1) := by decide +kernel
theorem dL_show_3 : decode bL_show 3 = .ok (.iload_n 1, 1) := by decide +kernel
theorem dL_show_4 : decode bL_show 4 = .ok (.invokevirtual 36, 3) := by decide +kernel
theorem dL_show_7 : decode bL_show 7 = .ok (.i2l, 1) := by decide +kernel
theorem dL_show_8 : decode bL_show 8 = .ok (.lastore, 1) := by decide +kernel
theorem dL_show_9 : decode bL_show 9 = .ok (.goto 15, 3) := by decide +kernel
theorem dL_show_12 : decode bL_show 12 = .ok (.astore_n 3, 1) := by decide +kernel
theorem dL_show_13 : decode bL_show 13 = .ok (.iconst 1, 1) := by decide +kernel
theorem dL_show_14 : decode bL_show 14 = .ok (.ireturn, 1) := by decide +kernel
theorem dL_show_15 : decode bL_show 15 = .ok (.astore_n 3, 1) := by decide +kernel
theorem dL_show_16 : decode bL_show 16 = .ok (.iconst 2, 1) := by decide +kernel
theorem dL_show_17 : decode bL_show 17 = .ok (.ireturn, 1) := by decide +kernel
theorem dL_show_18 : decode bL_show 18 = .ok (.astore_n 3, 1) := by decide +kernel
theorem dL_show_19 : decode bL_show 19 = .ok (.iconst 3, 1) := by decide +kernel
theorem dL_show_20 : decode bL_show 20 = .ok (.ireturn, 1) := by decide +kernel
theorem dL_show_21 : decode bL_show 21 = .ok (.astore_n 3, 1) := by decide +kernel
theorem dL_show_22 : decode bL_show 22 = .ok (.iconst 4, 1) := by decide +kernel
theorem dL_show_23 : decode bL_show 23 = .ok (.ireturn, 1) := by decide +kernel
theorem dL_show_24 : decode bL_show 24 = .ok (.iconst 0, 1) := by decide +kernel
theorem dL_show_25 : decode bL_show 25 = .ok (.ireturn, 1) := by decide +kernel
set_option maxRecDepth 20000 in
theorem gL_back : GoodIn hL_back (wsV RcL 39 RcX yX_back tX_back) := goodIn_sub (fun _ h => List.mem_cons_of_mem _ (List.mem_append_left _ h)) (by decide +kernel)
theorem backF_cases (F : FT) (a : AT) (x : Int32) : (backF F a x).1 = 0 ∨ backF F a x = (4, a) ∨ backF F a x = (2, a) ∨ backF F a x = (3, a) := by
  unfold backF
  repeat' split
  all_goals first | exact Or.inl rfl | exact Or.inr (Or.inl rfl) | exact Or.inr rfl | exact Or.inr (Or.inr rfl) | exact Or.inr (Or.inr (Or.inl rfl)) | exact Or.inr (Or.inr (Or.inr rfl)) | exact Or.inr (Or.inr (Or.inr (Or.inl rfl))) | exact Or.inr (Or.inr (Or.inr (Or.inr rfl)))
theorem dL_back_0 : decode bL_back 0 = .ok (.aload_n 0, 1) := by decide +kernel
theorem dL_back_1 : decode bL_back 1 = .ok (.iload_n 1, 1) := by decide +kernel
theorem dL_back_2 : decode bL_back 2 = .ok (.invokevirtual 39, 3) := by decide +kernel
theorem dL_back_5 : decode bL_back 5 = .ok (.goto 12, 3) := by decide +kernel
theorem dL_back_8 : decode bL_back 8 = .ok (.astore_n 2, 1) := by decide +kernel
theorem dL_back_9 : decode bL_back 9 = .ok (.iconst 1, 1) := by decide +kernel
theorem dL_back_10 : decode bL_back 10 = .ok (.ireturn, 1) := by decide +kernel
theorem dL_back_11 : decode bL_back 11 = .ok (.astore_n 2, 1) := by decide +kernel
theorem dL_back_12 : decode bL_back 12 = .ok (.iconst 2, 1) := by decide +kernel
theorem dL_back_13 : decode bL_back 13 = .ok (.ireturn, 1) := by decide +kernel
theorem dL_back_14 : decode bL_back 14 = .ok (.astore_n 2, 1) := by decide +kernel
theorem dL_back_15 : decode bL_back 15 = .ok (.iconst 3, 1) := by decide +kernel
theorem dL_back_16 : decode bL_back 16 = .ok (.ireturn, 1) := by decide +kernel
theorem dL_back_17 : decode bL_back 17 = .ok (.iconst 0, 1) := by decide +kernel
theorem dL_back_18 : decode bL_back 18 = .ok (.ireturn, 1) := by decide +kernel
set_option maxRecDepth 20000 in
theorem gL_state : GoodIn hL_state (wsV RcL 42 RcX yX_state tX_state) := goodIn_sub (fun _ h => List.mem_cons_of_mem _ (List.mem_append_left _ h)) (by decide +kernel)
theorem stateF_cases (F : FT) (a : AT) (x : Int32) : (stateF F a x).1 = 0 ∨ stateF F a x = (4, 0) := by
  unfold stateF
  repeat' split
  all_goals first | exact Or.inl rfl | exact Or.inr (Or.inl rfl) | exact Or.inr rfl | exact Or.inr (Or.inr rfl) | exact Or.inr (Or.inr (Or.inl rfl)) | exact Or.inr (Or.inr (Or.inr rfl)) | exact Or.inr (Or.inr (Or.inr (Or.inl rfl))) | exact Or.inr (Or.inr (Or.inr (Or.inr rfl)))
theorem dL_state_0 : decode bL_state 0 = .ok (.aload_n 2, 1) := by decide +kernel
theorem dL_state_1 : decode bL_state 1 = .ok (.iconst 0, 1) := by decide +kernel
theorem dL_state_2 : decode bL_state 2 = .ok (.aload_n 0, 1) := by decide +kernel
theorem dL_state_3 : decode bL_state 3 = .ok (.iload_n 1, 1) := by decide +kernel
theorem dL_state_4 : decode bL_state 4 = .ok (.invokevirtual 42, 3) := by decide +kernel
theorem dL_state_7 : decode bL_state 7 = .ok (.i2l, 1) := by decide +kernel
theorem dL_state_8 : decode bL_state 8 = .ok (.lastore, 1) := by decide +kernel
theorem dL_state_9 : decode bL_state 9 = .ok (.goto 6, 3) := by decide +kernel
theorem dL_state_12 : decode bL_state 12 = .ok (.astore_n 3, 1) := by decide +kernel
theorem dL_state_13 : decode bL_state 13 = .ok (.iconst 1, 1) := by decide +kernel
theorem dL_state_14 : decode bL_state 14 = .ok (.ireturn, 1) := by decide +kernel
theorem dL_state_15 : decode bL_state 15 = .ok (.iconst 0, 1) := by decide +kernel
theorem dL_state_16 : decode bL_state 16 = .ok (.ireturn, 1) := by decide +kernel
set_option maxRecDepth 20000 in
theorem gL_open : GoodIn hL_open (wsV RcL 45 RcX yX_open tX_open) := goodIn_sub (fun _ h => List.mem_cons_of_mem _ (List.mem_append_left _ h)) (by decide +kernel)
theorem openF_cases (F : FT) (a : AT) (x : Int32) : (openF F a x).1 = 0 ∨ openF F a x = (4, 0) := by
  unfold openF
  repeat' split
  all_goals first | exact Or.inl rfl | exact Or.inr (Or.inl rfl) | exact Or.inr rfl | exact Or.inr (Or.inr rfl) | exact Or.inr (Or.inr (Or.inl rfl)) | exact Or.inr (Or.inr (Or.inr rfl)) | exact Or.inr (Or.inr (Or.inr (Or.inl rfl))) | exact Or.inr (Or.inr (Or.inr (Or.inr rfl)))
theorem dL_open_0 : decode bL_open 0 = .ok (.aload_n 2, 1) := by decide +kernel
theorem dL_open_1 : decode bL_open 1 = .ok (.iconst 0, 1) := by decide +kernel
theorem dL_open_2 : decode bL_open 2 = .ok (.aload_n 0, 1) := by decide +kernel
theorem dL_open_3 : decode bL_open 3 = .ok (.iload_n 1, 1) := by decide +kernel
theorem dL_open_4 : decode bL_open 4 = .ok (.invokevirtual 45, 3) := by decide +kernel
theorem dL_open_7 : decode bL_open 7 = .ok (.i2l, 1) := by decide +kernel
theorem dL_open_8 : decode bL_open 8 = .ok (.lastore, 1) := by decide +kernel
theorem dL_open_9 : decode bL_open 9 = .ok (.goto 6, 3) := by decide +kernel
theorem dL_open_12 : decode bL_open 12 = .ok (.astore_n 3, 1) := by decide +kernel
theorem dL_open_13 : decode bL_open 13 = .ok (.iconst 1, 1) := by decide +kernel
theorem dL_open_14 : decode bL_open 14 = .ok (.ireturn, 1) := by decide +kernel
theorem dL_open_15 : decode bL_open 15 = .ok (.iconst 0, 1) := by decide +kernel
theorem dL_open_16 : decode bL_open 16 = .ok (.ireturn, 1) := by decide +kernel
set_option maxRecDepth 20000 in
theorem gL_key : GoodIn hL_key (wsV RcL 48 RcX yX_key tX_key) := goodIn_sub (fun _ h => List.mem_cons_of_mem _ (List.mem_append_left _ h)) (by decide +kernel)
theorem keyF_cases (F : FT) (a : AT) (x : Int32) (y : Int32) (z : Int32) : (keyF F a x y z).1 = 0 ∨ keyF F a x y z = (4, 0) := by
  unfold keyF
  repeat' split
  all_goals first | exact Or.inl rfl | exact Or.inr (Or.inl rfl) | exact Or.inr rfl | exact Or.inr (Or.inr rfl) | exact Or.inr (Or.inr (Or.inl rfl)) | exact Or.inr (Or.inr (Or.inr rfl)) | exact Or.inr (Or.inr (Or.inr (Or.inl rfl))) | exact Or.inr (Or.inr (Or.inr (Or.inr rfl)))
theorem dL_key_0 : decode bL_key 0 = .ok (.aload 4, 2) := by decide +kernel
theorem dL_key_2 : decode bL_key 2 = .ok (.iconst 0, 1) := by decide +kernel
theorem dL_key_3 : decode bL_key 3 = .ok (.aload_n 0, 1) := by decide +kernel
theorem dL_key_4 : decode bL_key 4 = .ok (.iload_n 1, 1) := by decide +kernel
theorem dL_key_5 : decode bL_key 5 = .ok (.iload_n 2, 1) := by decide +kernel
theorem dL_key_6 : decode bL_key 6 = .ok (.iload_n 3, 1) := by decide +kernel
theorem dL_key_7 : decode bL_key 7 = .ok (.invokevirtual 48, 3) := by decide +kernel
theorem dL_key_10 : decode bL_key 10 = .ok (.i2l, 1) := by decide +kernel
theorem dL_key_11 : decode bL_key 11 = .ok (.lastore, 1) := by decide +kernel
theorem dL_key_12 : decode bL_key 12 = .ok (.goto 7, 3) := by decide +kernel
theorem dL_key_15 : decode bL_key 15 = .ok (.astore 5, 2) := by decide +kernel
theorem dL_key_17 : decode bL_key 17 = .ok (.iconst 1, 1) := by decide +kernel
theorem dL_key_18 : decode bL_key 18 = .ok (.ireturn, 1) := by decide +kernel
theorem dL_key_19 : decode bL_key 19 = .ok (.iconst 0, 1) := by decide +kernel
theorem dL_key_20 : decode bL_key 20 = .ok (.ireturn, 1) := by decide +kernel
set_option maxRecDepth 20000 in
theorem gL_outcome : GoodIn hL_outcome (wsV RcL 52 RcX yX_outcome tX_outcome) := goodIn_sub (fun _ h => List.mem_cons_of_mem _ (List.mem_append_left _ h)) (by decide +kernel)
theorem outcomeF_cases (F : FT) (a : AT) (n : Nat) (x : Int32) : (outcomeF F a n x).1 = 0 ∨ outcomeF F a n x = (4, 0) := by
  unfold outcomeF
  repeat' split
  all_goals first | exact Or.inl rfl | exact Or.inr (Or.inl rfl) | exact Or.inr rfl | exact Or.inr (Or.inr rfl) | exact Or.inr (Or.inr (Or.inl rfl)) | exact Or.inr (Or.inr (Or.inr rfl)) | exact Or.inr (Or.inr (Or.inr (Or.inl rfl))) | exact Or.inr (Or.inr (Or.inr (Or.inr rfl)))
theorem dL_outcome_0 : decode bL_outcome 0 = .ok (.aload_n 2, 1) := by decide +kernel
theorem dL_outcome_1 : decode bL_outcome 1 = .ok (.iconst 0, 1) := by decide +kernel
theorem dL_outcome_2 : decode bL_outcome 2 = .ok (.aload_n 0, 1) := by decide +kernel
theorem dL_outcome_3 : decode bL_outcome 3 = .ok (.iload_n 1, 1) := by decide +kernel
theorem dL_outcome_4 : decode bL_outcome 4 = .ok (.invokevirtual 52, 3) := by decide +kernel
theorem dL_outcome_7 : decode bL_outcome 7 = .ok (.i2l, 1) := by decide +kernel
theorem dL_outcome_8 : decode bL_outcome 8 = .ok (.lastore, 1) := by decide +kernel
theorem dL_outcome_9 : decode bL_outcome 9 = .ok (.goto 6, 3) := by decide +kernel
theorem dL_outcome_12 : decode bL_outcome 12 = .ok (.astore_n 3, 1) := by decide +kernel
theorem dL_outcome_13 : decode bL_outcome 13 = .ok (.iconst 1, 1) := by decide +kernel
theorem dL_outcome_14 : decode bL_outcome 14 = .ok (.ireturn, 1) := by decide +kernel
theorem dL_outcome_15 : decode bL_outcome 15 = .ok (.iconst 0, 1) := by decide +kernel
theorem dL_outcome_16 : decode bL_outcome 16 = .ok (.ireturn, 1) := by decide +kernel

/-! names of 43 -/
def y_La_add : MethodName := ⟨"FrameVerifierLaw", "add", "(LFrameVerifier;II[J)I"⟩
abbrev b_La_add : ByteArray := method_3_code
def rm_La_add : Room := { frames := 7, cells := 1, slots := 6, locals := 122 }
abbrev w_La_add : List Cond := Cond.codeWith y_La_add b_La_add 5 (some .int) [(0, 10, 13, 13)] :: wG
theorem m_La_add : Cond.codeWith y_La_add b_La_add 5 (some .int) [(0, 10, 13, 13)] ∈ wG := wg_t 439 (by decide +kernel) (by decide +kernel)
theorem q_La_add : y_La_add.cls ≠ "java/lang/invoke/MethodHandle" ∧ y_La_add.cls ≠ "java/lang/invoke/VarHandle" ∧ (parseMethodDescriptor y_La_add.desc).map (fun d => d.parameters.length) = some 4 := by decide +kernel
theorem g_La_add : Cond.initialized y_La_add.cls ∈ wG := wg_t 0 (by decide +kernel) (by decide +kernel)
theorem s_La_add : Cond.static y_La_add ∈ wG := wg_t 438 (by decide +kernel) (by decide +kernel)
theorem d_La_add_0 : decode b_La_add 0 = .ok (.aload_n 3, 1) := by decide +kernel
theorem d_La_add_1 : decode b_La_add 1 = .ok (.iconst 0, 1) := by decide +kernel
theorem d_La_add_2 : decode b_La_add 2 = .ok (.aload_n 0, 1) := by decide +kernel
theorem d_La_add_3 : decode b_La_add 3 = .ok (.iload_n 1, 1) := by decide +kernel
theorem d_La_add_4 : decode b_La_add 4 = .ok (.iload_n 2, 1) := by decide +kernel
theorem d_La_add_5 : decode b_La_add 5 = .ok (.invokevirtual 7, 3) := by decide +kernel
theorem d_La_add_8 : decode b_La_add 8 = .ok (.i2l, 1) := by decide +kernel
theorem d_La_add_9 : decode b_La_add 9 = .ok (.lastore, 1) := by decide +kernel
theorem d_La_add_10 : decode b_La_add 10 = .ok (.goto (7), 3) := by decide +kernel
theorem d_La_add_13 : decode b_La_add 13 = .ok (.astore 4, 2) := by decide +kernel
theorem d_La_add_15 : decode b_La_add 15 = .ok (.iconst 1, 1) := by decide +kernel
theorem d_La_add_16 : decode b_La_add 16 = .ok (.ireturn, 1) := by decide +kernel
theorem d_La_add_17 : decode b_La_add 17 = .ok (.iconst 0, 1) := by decide +kernel
theorem d_La_add_18 : decode b_La_add 18 = .ok (.ireturn, 1) := by decide +kernel
theorem k_La_7 {R : Room} {s : State} {args : Array Value} {Ts : List Cond} (hts : ∀ w ∈ Ts, w.before args s = true) (hsub : ∀ w ∈ wG, w ∈ Ts) (hR : rm_FV_add.frames + 1 ≤ R.frames ∧ 8 + (3 + 11) + rm_FV_add.locals ≤ R.locals) : CallW R s args "FrameVerifierLaw" "FrameVerifier" 7 y_FV_add b_FV_add 3 (some .int) w_FV_add rm_FV_add 1 6 2 := ⟨cb_GX hts hsub m_FV_add g_FV_add (wg_t 441 (by decide +kernel) (by decide +kernel) : Cond.methodLink "FrameVerifierLaw" 7 y_FV_add ∈ wG) q_FV_add rfl rfl hR, hts _ (hsub _ s_FV_add), hts _ (hsub _ e_FV_add)⟩
def y_La_step : MethodName := ⟨"FrameVerifierLaw", "step", "(LFrameVerifier;[J)I"⟩
abbrev b_La_step : ByteArray := method_4_code
def rm_La_step : Room := { frames := 11, cells := 1, slots := 6, locals := 248 }
abbrev w_La_step : List Cond := Cond.codeWith y_La_step b_La_step 3 (some .int) [(0, 8, 11, 19), (0, 8, 14, 21), (0, 8, 17, 23), (0, 8, 20, 25), (0, 8, 23, 13)] :: wG
theorem m_La_step : Cond.codeWith y_La_step b_La_step 3 (some .int) [(0, 8, 11, 19), (0, 8, 14, 21), (0, 8, 17, 23), (0, 8, 20, 25), (0, 8, 23, 13)] ∈ wG := wg_t 517 (by decide +kernel) (by decide +kernel)
theorem q_La_step : y_La_step.cls ≠ "java/lang/invoke/MethodHandle" ∧ y_La_step.cls ≠ "java/lang/invoke/VarHandle" ∧ (parseMethodDescriptor y_La_step.desc).map (fun d => d.parameters.length) = some 2 := by decide +kernel
theorem g_La_step : Cond.initialized y_La_step.cls ∈ wG := wg_t 0 (by decide +kernel) (by decide +kernel)
theorem s_La_step : Cond.static y_La_step ∈ wG := wg_t 516 (by decide +kernel) (by decide +kernel)
theorem d_La_step_0 : decode b_La_step 0 = .ok (.aload_n 1, 1) := by decide +kernel
theorem d_La_step_1 : decode b_La_step 1 = .ok (.iconst 0, 1) := by decide +kernel
theorem d_La_step_2 : decode b_La_step 2 = .ok (.aload_n 0, 1) := by decide +kernel
theorem d_La_step_3 : decode b_La_step 3 = .ok (.invokevirtual 15, 3) := by decide +kernel
theorem d_La_step_6 : decode b_La_step 6 = .ok (.i2l, 1) := by decide +kernel
theorem d_La_step_7 : decode b_La_step 7 = .ok (.lastore, 1) := by decide +kernel
theorem d_La_step_8 : decode b_La_step 8 = .ok (.goto (18), 3) := by decide +kernel
theorem d_La_step_11 : decode b_La_step 11 = .ok (.astore_n 2, 1) := by decide +kernel
theorem d_La_step_12 : decode b_La_step 12 = .ok (.iconst 1, 1) := by decide +kernel
theorem d_La_step_13 : decode b_La_step 13 = .ok (.ireturn, 1) := by decide +kernel
theorem d_La_step_14 : decode b_La_step 14 = .ok (.astore_n 2, 1) := by decide +kernel
theorem d_La_step_15 : decode b_La_step 15 = .ok (.iconst 2, 1) := by decide +kernel
theorem d_La_step_16 : decode b_La_step 16 = .ok (.ireturn, 1) := by decide +kernel
theorem d_La_step_17 : decode b_La_step 17 = .ok (.astore_n 2, 1) := by decide +kernel
theorem d_La_step_18 : decode b_La_step 18 = .ok (.iconst 3, 1) := by decide +kernel
theorem d_La_step_19 : decode b_La_step 19 = .ok (.ireturn, 1) := by decide +kernel
theorem d_La_step_20 : decode b_La_step 20 = .ok (.astore_n 2, 1) := by decide +kernel
theorem d_La_step_21 : decode b_La_step 21 = .ok (.iconst 4, 1) := by decide +kernel
theorem d_La_step_22 : decode b_La_step 22 = .ok (.ireturn, 1) := by decide +kernel
theorem d_La_step_23 : decode b_La_step 23 = .ok (.astore_n 2, 1) := by decide +kernel
theorem d_La_step_24 : decode b_La_step 24 = .ok (.iconst 5, 1) := by decide +kernel
theorem d_La_step_25 : decode b_La_step 25 = .ok (.ireturn, 1) := by decide +kernel
theorem d_La_step_26 : decode b_La_step 26 = .ok (.iconst 0, 1) := by decide +kernel
theorem d_La_step_27 : decode b_La_step 27 = .ok (.ireturn, 1) := by decide +kernel
theorem k_La_15 {R : Room} {s : State} {args : Array Value} {Ts : List Cond} (hts : ∀ w ∈ Ts, w.before args s = true) (hsub : ∀ w ∈ wG, w ∈ Ts) (hR : rm_FV_step.frames + 1 ≤ R.frames ∧ 8 + (1 + 11) + rm_FV_step.locals ≤ R.locals) : CallW R s args "FrameVerifierLaw" "FrameVerifier" 15 y_FV_step b_FV_step 1 (some .int) w_FV_step rm_FV_step 1 6 0 := ⟨cb_GX hts hsub m_FV_step g_FV_step (wg_t 522 (by decide +kernel) (by decide +kernel) : Cond.methodLink "FrameVerifierLaw" 15 y_FV_step ∈ wG) q_FV_step rfl rfl hR, hts _ (hsub _ s_FV_step), hts _ (hsub _ e_FV_step)⟩
def y_La_steps : MethodName := ⟨"FrameVerifierLaw", "steps", "(LFrameVerifier;I[J)I"⟩
abbrev b_La_steps : ByteArray := method_5_code
def rm_La_steps : Room := { frames := 11, cells := 1, slots := 6, locals := 250 }
abbrev w_La_steps : List Cond := Cond.codeWith y_La_steps b_La_steps 4 (some .int) [(0, 9, 12, 31), (0, 9, 15, 19), (0, 9, 18, 21), (0, 9, 21, 23), (0, 9, 24, 25), (0, 9, 27, 13)] :: wG
theorem m_La_steps : Cond.codeWith y_La_steps b_La_steps 4 (some .int) [(0, 9, 12, 31), (0, 9, 15, 19), (0, 9, 18, 21), (0, 9, 21, 23), (0, 9, 24, 25), (0, 9, 27, 13)] ∈ wG := wg_t 714 (by decide +kernel) (by decide +kernel)
theorem q_La_steps : y_La_steps.cls ≠ "java/lang/invoke/MethodHandle" ∧ y_La_steps.cls ≠ "java/lang/invoke/VarHandle" ∧ (parseMethodDescriptor y_La_steps.desc).map (fun d => d.parameters.length) = some 3 := by decide +kernel
theorem g_La_steps : Cond.initialized y_La_steps.cls ∈ wG := wg_t 0 (by decide +kernel) (by decide +kernel)
theorem s_La_steps : Cond.static y_La_steps ∈ wG := wg_t 713 (by decide +kernel) (by decide +kernel)
theorem d_La_steps_0 : decode b_La_steps 0 = .ok (.aload_n 2, 1) := by decide +kernel
theorem d_La_steps_1 : decode b_La_steps 1 = .ok (.iconst 0, 1) := by decide +kernel
theorem d_La_steps_2 : decode b_La_steps 2 = .ok (.aload_n 0, 1) := by decide +kernel
theorem d_La_steps_3 : decode b_La_steps 3 = .ok (.iload_n 1, 1) := by decide +kernel
theorem d_La_steps_4 : decode b_La_steps 4 = .ok (.invokevirtual 27, 3) := by decide +kernel
theorem d_La_steps_7 : decode b_La_steps 7 = .ok (.i2l, 1) := by decide +kernel
theorem d_La_steps_8 : decode b_La_steps 8 = .ok (.lastore, 1) := by decide +kernel
theorem d_La_steps_9 : decode b_La_steps 9 = .ok (.goto (22), 3) := by decide +kernel
theorem d_La_steps_12 : decode b_La_steps 12 = .ok (.astore_n 3, 1) := by decide +kernel
theorem d_La_steps_13 : decode b_La_steps 13 = .ok (.iconst 1, 1) := by decide +kernel
theorem d_La_steps_14 : decode b_La_steps 14 = .ok (.ireturn, 1) := by decide +kernel
theorem d_La_steps_15 : decode b_La_steps 15 = .ok (.astore_n 3, 1) := by decide +kernel
theorem d_La_steps_16 : decode b_La_steps 16 = .ok (.iconst 2, 1) := by decide +kernel
theorem d_La_steps_17 : decode b_La_steps 17 = .ok (.ireturn, 1) := by decide +kernel
theorem d_La_steps_18 : decode b_La_steps 18 = .ok (.astore_n 3, 1) := by decide +kernel
theorem d_La_steps_19 : decode b_La_steps 19 = .ok (.iconst 3, 1) := by decide +kernel
theorem d_La_steps_20 : decode b_La_steps 20 = .ok (.ireturn, 1) := by decide +kernel
theorem d_La_steps_21 : decode b_La_steps 21 = .ok (.astore_n 3, 1) := by decide +kernel
theorem d_La_steps_22 : decode b_La_steps 22 = .ok (.iconst 4, 1) := by decide +kernel
theorem d_La_steps_23 : decode b_La_steps 23 = .ok (.ireturn, 1) := by decide +kernel
theorem d_La_steps_24 : decode b_La_steps 24 = .ok (.astore_n 3, 1) := by decide +kernel
theorem d_La_steps_25 : decode b_La_steps 25 = .ok (.iconst 5, 1) := by decide +kernel
theorem d_La_steps_26 : decode b_La_steps 26 = .ok (.ireturn, 1) := by decide +kernel
theorem d_La_steps_27 : decode b_La_steps 27 = .ok (.astore_n 3, 1) := by decide +kernel
theorem d_La_steps_28 : decode b_La_steps 28 = .ok (.bipush (6), 2) := by decide +kernel
theorem d_La_steps_30 : decode b_La_steps 30 = .ok (.ireturn, 1) := by decide +kernel
theorem d_La_steps_31 : decode b_La_steps 31 = .ok (.iconst 0, 1) := by decide +kernel
theorem d_La_steps_32 : decode b_La_steps 32 = .ok (.ireturn, 1) := by decide +kernel
theorem k_La_27 {R : Room} {s : State} {args : Array Value} {Ts : List Cond} (hts : ∀ w ∈ Ts, w.before args s = true) (hsub : ∀ w ∈ wG, w ∈ Ts) (hR : rm_FV_steps.frames + 1 ≤ R.frames ∧ 8 + (3 + 11) + rm_FV_steps.locals ≤ R.locals) : CallW R s args "FrameVerifierLaw" "FrameVerifier" 27 y_FV_steps b_FV_steps 3 (some .int) w_FV_steps rm_FV_steps 1 6 1 := ⟨cb_GX hts hsub m_FV_steps g_FV_steps (wg_t 716 (by decide +kernel) (by decide +kernel) : Cond.methodLink "FrameVerifierLaw" 27 y_FV_steps ∈ wG) q_FV_steps rfl rfl hR, hts _ (hsub _ s_FV_steps), hts _ (hsub _ e_FV_steps)⟩
theorem wd_440 : (Jvm.Cond.classLink "FrameVerifierLaw" (13 : Nat) "java/lang/IllegalStateException") ∈ wG := wg_t 440 (by decide +kernel) (by decide +kernel)
theorem wd_518 : (Jvm.Cond.classLink "FrameVerifierLaw" (19 : Nat) "java/lang/UnsupportedOperationException") ∈ wG := wg_t 518 (by decide +kernel) (by decide +kernel)
theorem wd_519 : (Jvm.Cond.classLink "FrameVerifierLaw" (21 : Nat) "java/lang/ArithmeticException") ∈ wG := wg_t 519 (by decide +kernel) (by decide +kernel)
theorem wd_520 : (Jvm.Cond.classLink "FrameVerifierLaw" (23 : Nat) "java/util/NoSuchElementException") ∈ wG := wg_t 520 (by decide +kernel) (by decide +kernel)
theorem wd_521 : (Jvm.Cond.classLink "FrameVerifierLaw" (25 : Nat) "java/lang/IndexOutOfBoundsException") ∈ wG := wg_t 521 (by decide +kernel) (by decide +kernel)
theorem wd_715 : (Jvm.Cond.classLink "FrameVerifierLaw" (31 : Nat) "java/lang/IllegalArgumentException") ∈ wG := wg_t 715 (by decide +kernel) (by decide +kernel)

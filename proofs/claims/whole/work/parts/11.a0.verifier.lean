/-! names of 11.verifier -/
def y_FV_forgetVerification : MethodName := ⟨"FrameVerifier", "forgetVerification", "()V"⟩
abbrev b_FV_forgetVerification : ByteArray := prog_1_method_13_code
def rm_FV_forgetVerification : Room := { frames := 1, cells := 0, slots := 0, locals := 21 }
abbrev w_FV_forgetVerification : List Cond := Cond.code y_FV_forgetVerification b_FV_forgetVerification 1 none :: wG
theorem m_FV_forgetVerification : Cond.code y_FV_forgetVerification b_FV_forgetVerification 1 none ∈ wG := wg_t 163 (by decide +kernel) (by decide +kernel)
theorem q_FV_forgetVerification : y_FV_forgetVerification.cls ≠ "java/lang/invoke/MethodHandle" ∧ y_FV_forgetVerification.cls ≠ "java/lang/invoke/VarHandle" ∧ (parseMethodDescriptor y_FV_forgetVerification.desc).map (fun d => d.parameters.length) = some 0 := by decide +kernel
theorem g_FV_forgetVerification : Cond.initialized y_FV_forgetVerification.cls ∈ wG := wg_t 1 (by decide +kernel) (by decide +kernel)
theorem s_FV_forgetVerification : Cond.instanceMethod y_FV_forgetVerification ∈ wG := wg_t 162 (by decide +kernel) (by decide +kernel)
theorem e_FV_forgetVerification : Cond.selects "FrameVerifier" y_FV_forgetVerification y_FV_forgetVerification ∈ wG := wg_s (q := (y_FV_forgetVerification, 4)) 0 (by decide +kernel) (by decide +kernel)
theorem d_FV_forgetVerification_0 : decode b_FV_forgetVerification 0 = .ok (.aload_n 0, 1) := by decide +kernel
theorem d_FV_forgetVerification_1 : decode b_FV_forgetVerification 1 = .ok (.iconst 0, 1) := by decide +kernel
theorem d_FV_forgetVerification_2 : decode b_FV_forgetVerification 2 = .ok (.putfield 32, 3) := by decide +kernel
theorem d_FV_forgetVerification_5 : decode b_FV_forgetVerification 5 = .ok (.aload_n 0, 1) := by decide +kernel
theorem d_FV_forgetVerification_6 : decode b_FV_forgetVerification 6 = .ok (.getfield 21, 3) := by decide +kernel
theorem d_FV_forgetVerification_9 : decode b_FV_forgetVerification 9 = .ok (.invokevirtual 127, 3) := by decide +kernel
theorem d_FV_forgetVerification_12 : decode b_FV_forgetVerification 12 = .ok (.return_, 1) := by decide +kernel
def y_FV_routine : MethodName := ⟨"FrameVerifier", "routine", "(IIII)Z"⟩
abbrev b_FV_routine : ByteArray := prog_1_method_3_code
def rm_FV_routine : Room := { frames := 2, cells := 0, slots := 0, locals := 41 }
abbrev w_FV_routine : List Cond := Cond.code y_FV_routine b_FV_routine 5 (some .boolean) :: wG
theorem m_FV_routine : Cond.code y_FV_routine b_FV_routine 5 (some .boolean) ∈ wG := wg_t 159 (by decide +kernel) (by decide +kernel)
theorem q_FV_routine : y_FV_routine.cls ≠ "java/lang/invoke/MethodHandle" ∧ y_FV_routine.cls ≠ "java/lang/invoke/VarHandle" ∧ (parseMethodDescriptor y_FV_routine.desc).map (fun d => d.parameters.length) = some 4 := by decide +kernel
theorem g_FV_routine : Cond.initialized y_FV_routine.cls ∈ wG := wg_t 1 (by decide +kernel) (by decide +kernel)
theorem s_FV_routine : Cond.instanceMethod y_FV_routine ∈ wG := wg_t 157 (by decide +kernel) (by decide +kernel)
theorem e_FV_routine : Cond.selects "FrameVerifier" y_FV_routine y_FV_routine ∈ wG := wg_t 158 (by decide +kernel) (by decide +kernel)
theorem d_FV_routine_0 : decode b_FV_routine 0 = .ok (.iload_n 1, 1) := by decide +kernel
theorem d_FV_routine_1 : decode b_FV_routine 1 = .ok (.ifCond .lt (29), 3) := by decide +kernel
theorem d_FV_routine_4 : decode b_FV_routine 4 = .ok (.iload_n 1, 1) := by decide +kernel
theorem d_FV_routine_5 : decode b_FV_routine 5 = .ok (.iconst 4, 1) := by decide +kernel
theorem d_FV_routine_6 : decode b_FV_routine 6 = .ok (.if_icmp .ge (24), 3) := by decide +kernel
theorem d_FV_routine_9 : decode b_FV_routine 9 = .ok (.iload_n 3, 1) := by decide +kernel
theorem d_FV_routine_10 : decode b_FV_routine 10 = .ok (.ifCond .lt (20), 3) := by decide +kernel
theorem d_FV_routine_13 : decode b_FV_routine 13 = .ok (.iload_n 3, 1) := by decide +kernel
theorem d_FV_routine_14 : decode b_FV_routine 14 = .ok (.iconst 3, 1) := by decide +kernel
theorem d_FV_routine_15 : decode b_FV_routine 15 = .ok (.if_icmp .gt (15), 3) := by decide +kernel
theorem d_FV_routine_18 : decode b_FV_routine 18 = .ok (.iload 4, 2) := by decide +kernel
theorem d_FV_routine_20 : decode b_FV_routine 20 = .ok (.ifCond .lt (10), 3) := by decide +kernel
theorem d_FV_routine_23 : decode b_FV_routine 23 = .ok (.iload 4, 2) := by decide +kernel
theorem d_FV_routine_25 : decode b_FV_routine 25 = .ok (.bipush (15), 2) := by decide +kernel
theorem d_FV_routine_27 : decode b_FV_routine 27 = .ok (.if_icmp .le (5), 3) := by decide +kernel
theorem d_FV_routine_30 : decode b_FV_routine 30 = .ok (.iconst 0, 1) := by decide +kernel
theorem d_FV_routine_31 : decode b_FV_routine 31 = .ok (.ireturn, 1) := by decide +kernel
theorem d_FV_routine_32 : decode b_FV_routine 32 = .ok (.aload_n 0, 1) := by decide +kernel
theorem d_FV_routine_33 : decode b_FV_routine 33 = .ok (.invokevirtual 43, 3) := by decide +kernel
theorem d_FV_routine_36 : decode b_FV_routine 36 = .ok (.aload_n 0, 1) := by decide +kernel
theorem d_FV_routine_37 : decode b_FV_routine 37 = .ok (.getfield 12, 3) := by decide +kernel
theorem d_FV_routine_40 : decode b_FV_routine 40 = .ok (.iload_n 1, 1) := by decide +kernel
theorem d_FV_routine_41 : decode b_FV_routine 41 = .ok (.iload_n 2, 1) := by decide +kernel
theorem d_FV_routine_42 : decode b_FV_routine 42 = .ok (.iload_n 3, 1) := by decide +kernel
theorem d_FV_routine_43 : decode b_FV_routine 43 = .ok (.iload 4, 2) := by decide +kernel
theorem d_FV_routine_45 : decode b_FV_routine 45 = .ok (.invokevirtual 50, 3) := by decide +kernel
theorem d_FV_routine_48 : decode b_FV_routine 48 = .ok (.iconst 1, 1) := by decide +kernel
theorem d_FV_routine_49 : decode b_FV_routine 49 = .ok (.ireturn, 1) := by decide +kernel
def y_FV_verify : MethodName := ⟨"FrameVerifier", "verify", "()I"⟩
abbrev b_FV_verify : ByteArray := prog_1_method_4_code
def rm_FV_verify : Room := { frames := 10, cells := 0, slots := 0, locals := 231 }
abbrev w_FV_verify : List Cond := Cond.code y_FV_verify b_FV_verify 3 (some .int) :: wG
theorem m_FV_verify : Cond.code y_FV_verify b_FV_verify 3 (some .int) ∈ wG := wg_t 175 (by decide +kernel) (by decide +kernel)
theorem q_FV_verify : y_FV_verify.cls ≠ "java/lang/invoke/MethodHandle" ∧ y_FV_verify.cls ≠ "java/lang/invoke/VarHandle" ∧ (parseMethodDescriptor y_FV_verify.desc).map (fun d => d.parameters.length) = some 0 := by decide +kernel
theorem g_FV_verify : Cond.initialized y_FV_verify.cls ∈ wG := wg_t 1 (by decide +kernel) (by decide +kernel)
theorem s_FV_verify : Cond.instanceMethod y_FV_verify ∈ wG := wg_t 173 (by decide +kernel) (by decide +kernel)
theorem e_FV_verify : Cond.selects "FrameVerifier" y_FV_verify y_FV_verify ∈ wG := wg_t 174 (by decide +kernel) (by decide +kernel)
theorem d_FV_verify_0 : decode b_FV_verify 0 = .ok (.aload_n 0, 1) := by decide +kernel
theorem d_FV_verify_1 : decode b_FV_verify 1 = .ok (.iconst 0, 1) := by decide +kernel
theorem d_FV_verify_2 : decode b_FV_verify 2 = .ok (.putfield 32, 3) := by decide +kernel
theorem d_FV_verify_5 : decode b_FV_verify 5 = .ok (.aload_n 0, 1) := by decide +kernel
theorem d_FV_verify_6 : decode b_FV_verify 6 = .ok (.getfield 12, 3) := by decide +kernel
theorem d_FV_verify_9 : decode b_FV_verify 9 = .ok (.iconst 0, 1) := by decide +kernel
theorem d_FV_verify_10 : decode b_FV_verify 10 = .ok (.invokevirtual 54, 3) := by decide +kernel
theorem d_FV_verify_13 : decode b_FV_verify 13 = .ok (.ifCond .ne (7), 3) := by decide +kernel
theorem d_FV_verify_16 : decode b_FV_verify 16 = .ok (.sipush (1999), 3) := by decide +kernel
theorem d_FV_verify_19 : decode b_FV_verify 19 = .ok (.ireturn, 1) := by decide +kernel
theorem d_FV_verify_20 : decode b_FV_verify 20 = .ok (.iconst 0, 1) := by decide +kernel
theorem d_FV_verify_21 : decode b_FV_verify 21 = .ok (.istore_n 1, 1) := by decide +kernel
theorem d_FV_verify_22 : decode b_FV_verify 22 = .ok (.iload_n 1, 1) := by decide +kernel
theorem d_FV_verify_23 : decode b_FV_verify 23 = .ok (.iconst 4, 1) := by decide +kernel
theorem d_FV_verify_24 : decode b_FV_verify 24 = .ok (.if_icmp .ge (52), 3) := by decide +kernel
theorem d_FV_verify_27 : decode b_FV_verify 27 = .ok (.aload_n 0, 1) := by decide +kernel
theorem d_FV_verify_28 : decode b_FV_verify 28 = .ok (.getfield 12, 3) := by decide +kernel
theorem d_FV_verify_31 : decode b_FV_verify 31 = .ok (.iload_n 1, 1) := by decide +kernel
theorem d_FV_verify_32 : decode b_FV_verify 32 = .ok (.invokevirtual 54, 3) := by decide +kernel
theorem d_FV_verify_35 : decode b_FV_verify 35 = .ok (.ifCond .eq (35), 3) := by decide +kernel
theorem d_FV_verify_38 : decode b_FV_verify 38 = .ok (.aload_n 0, 1) := by decide +kernel
theorem d_FV_verify_39 : decode b_FV_verify 39 = .ok (.getfield 21, 3) := by decide +kernel
theorem d_FV_verify_42 : decode b_FV_verify 42 = .ok (.iload_n 1, 1) := by decide +kernel
theorem d_FV_verify_43 : decode b_FV_verify 43 = .ok (.invokevirtual 58, 3) := by decide +kernel
theorem d_FV_verify_46 : decode b_FV_verify 46 = .ok (.aload_n 0, 1) := by decide +kernel
theorem d_FV_verify_47 : decode b_FV_verify 47 = .ok (.getfield 21, 3) := by decide +kernel
theorem d_FV_verify_50 : decode b_FV_verify 50 = .ok (.iload_n 1, 1) := by decide +kernel
theorem d_FV_verify_51 : decode b_FV_verify 51 = .ok (.invokevirtual 62, 3) := by decide +kernel
theorem d_FV_verify_54 : decode b_FV_verify 54 = .ok (.istore_n 2, 1) := by decide +kernel
theorem d_FV_verify_55 : decode b_FV_verify 55 = .ok (.iload_n 2, 1) := by decide +kernel
theorem d_FV_verify_56 : decode b_FV_verify 56 = .ok (.iconst (-1), 1) := by decide +kernel
theorem d_FV_verify_57 : decode b_FV_verify 57 = .ok (.if_icmp .eq (13), 3) := by decide +kernel
theorem d_FV_verify_60 : decode b_FV_verify 60 = .ok (.sipush (1000), 3) := by decide +kernel
theorem d_FV_verify_63 : decode b_FV_verify 63 = .ok (.iconst 1, 1) := by decide +kernel
theorem d_FV_verify_64 : decode b_FV_verify 64 = .ok (.iload_n 1, 1) := by decide +kernel
theorem d_FV_verify_65 : decode b_FV_verify 65 = .ok (.iadd, 1) := by decide +kernel
theorem d_FV_verify_66 : decode b_FV_verify 66 = .ok (.imul, 1) := by decide +kernel
theorem d_FV_verify_67 : decode b_FV_verify 67 = .ok (.iload_n 2, 1) := by decide +kernel
theorem d_FV_verify_68 : decode b_FV_verify 68 = .ok (.iadd, 1) := by decide +kernel
theorem d_FV_verify_69 : decode b_FV_verify 69 = .ok (.ireturn, 1) := by decide +kernel
theorem d_FV_verify_70 : decode b_FV_verify 70 = .ok (.iinc 1 (1), 3) := by decide +kernel
theorem d_FV_verify_73 : decode b_FV_verify 73 = .ok (.goto (-51), 3) := by decide +kernel
theorem d_FV_verify_76 : decode b_FV_verify 76 = .ok (.aload_n 0, 1) := by decide +kernel
theorem d_FV_verify_77 : decode b_FV_verify 77 = .ok (.iconst 1, 1) := by decide +kernel
theorem d_FV_verify_78 : decode b_FV_verify 78 = .ok (.putfield 32, 3) := by decide +kernel
theorem d_FV_verify_81 : decode b_FV_verify 81 = .ok (.iconst 0, 1) := by decide +kernel
theorem d_FV_verify_82 : decode b_FV_verify 82 = .ok (.ireturn, 1) := by decide +kernel
def y_FV_isVerified : MethodName := ⟨"FrameVerifier", "isVerified", "()Z"⟩
abbrev b_FV_isVerified : ByteArray := prog_1_method_5_code
def rm_FV_isVerified : Room := { frames := 0, cells := 0, slots := 0, locals := 0 }
abbrev w_FV_isVerified : List Cond := Cond.code y_FV_isVerified b_FV_isVerified 1 (some .boolean) :: wG
theorem m_FV_isVerified : Cond.code y_FV_isVerified b_FV_isVerified 1 (some .boolean) ∈ wG := wg_t 372 (by decide +kernel) (by decide +kernel)
theorem q_FV_isVerified : y_FV_isVerified.cls ≠ "java/lang/invoke/MethodHandle" ∧ y_FV_isVerified.cls ≠ "java/lang/invoke/VarHandle" ∧ (parseMethodDescriptor y_FV_isVerified.desc).map (fun d => d.parameters.length) = some 0 := by decide +kernel
theorem g_FV_isVerified : Cond.initialized y_FV_isVerified.cls ∈ wG := wg_t 1 (by decide +kernel) (by decide +kernel)
theorem s_FV_isVerified : Cond.instanceMethod y_FV_isVerified ∈ wG := wg_t 370 (by decide +kernel) (by decide +kernel)
theorem e_FV_isVerified : Cond.selects "FrameVerifier" y_FV_isVerified y_FV_isVerified ∈ wG := wg_t 371 (by decide +kernel) (by decide +kernel)
theorem d_FV_isVerified_0 : decode b_FV_isVerified 0 = .ok (.aload_n 0, 1) := by decide +kernel
theorem d_FV_isVerified_1 : decode b_FV_isVerified 1 = .ok (.getfield 32, 3) := by decide +kernel
theorem d_FV_isVerified_4 : decode b_FV_isVerified 4 = .ok (.ireturn, 1) := by decide +kernel
def y_FV_type : MethodName := ⟨"FrameVerifier", "type", "(III)I"⟩
abbrev b_FV_type : ByteArray := prog_1_method_6_code
def rm_FV_type : Room := { frames := 10, cells := 0, slots := 0, locals := 231 }
abbrev w_FV_type : List Cond := Cond.code y_FV_type b_FV_type 5 (some .int) :: wG
theorem m_FV_type : Cond.code y_FV_type b_FV_type 5 (some .int) ∈ wG := wg_t 376 (by decide +kernel) (by decide +kernel)
theorem q_FV_type : y_FV_type.cls ≠ "java/lang/invoke/MethodHandle" ∧ y_FV_type.cls ≠ "java/lang/invoke/VarHandle" ∧ (parseMethodDescriptor y_FV_type.desc).map (fun d => d.parameters.length) = some 3 := by decide +kernel
theorem g_FV_type : Cond.initialized y_FV_type.cls ∈ wG := wg_t 1 (by decide +kernel) (by decide +kernel)
theorem s_FV_type : Cond.instanceMethod y_FV_type ∈ wG := wg_t 374 (by decide +kernel) (by decide +kernel)
theorem e_FV_type : Cond.selects "FrameVerifier" y_FV_type y_FV_type ∈ wG := wg_t 375 (by decide +kernel) (by decide +kernel)
theorem d_FV_type_0 : decode b_FV_type 0 = .ok (.aload_n 0, 1) := by decide +kernel
theorem d_FV_type_1 : decode b_FV_type 1 = .ok (.getfield 12, 3) := by decide +kernel
theorem d_FV_type_4 : decode b_FV_type 4 = .ok (.iload_n 1, 1) := by decide +kernel
theorem d_FV_type_5 : decode b_FV_type 5 = .ok (.invokevirtual 54, 3) := by decide +kernel
theorem d_FV_type_8 : decode b_FV_type 8 = .ok (.ifCond .eq (24), 3) := by decide +kernel
theorem d_FV_type_11 : decode b_FV_type 11 = .ok (.aload_n 0, 1) := by decide +kernel
theorem d_FV_type_12 : decode b_FV_type 12 = .ok (.getfield 12, 3) := by decide +kernel
theorem d_FV_type_15 : decode b_FV_type 15 = .ok (.iload_n 2, 1) := by decide +kernel
theorem d_FV_type_16 : decode b_FV_type 16 = .ok (.invokevirtual 66, 3) := by decide +kernel
theorem d_FV_type_19 : decode b_FV_type 19 = .ok (.ifCond .eq (13), 3) := by decide +kernel
theorem d_FV_type_22 : decode b_FV_type 22 = .ok (.iload_n 3, 1) := by decide +kernel
theorem d_FV_type_23 : decode b_FV_type 23 = .ok (.ifCond .lt (9), 3) := by decide +kernel
theorem d_FV_type_26 : decode b_FV_type 26 = .ok (.iload_n 3, 1) := by decide +kernel
theorem d_FV_type_27 : decode b_FV_type 27 = .ok (.bipush (12), 2) := by decide +kernel
theorem d_FV_type_29 : decode b_FV_type 29 = .ok (.if_icmp .lt (5), 3) := by decide +kernel
theorem d_FV_type_32 : decode b_FV_type 32 = .ok (.iconst (-1), 1) := by decide +kernel
theorem d_FV_type_33 : decode b_FV_type 33 = .ok (.ireturn, 1) := by decide +kernel
theorem d_FV_type_34 : decode b_FV_type 34 = .ok (.aload_n 0, 1) := by decide +kernel
theorem d_FV_type_35 : decode b_FV_type 35 = .ok (.getfield 21, 3) := by decide +kernel
theorem d_FV_type_38 : decode b_FV_type 38 = .ok (.iload_n 1, 1) := by decide +kernel
theorem d_FV_type_39 : decode b_FV_type 39 = .ok (.invokevirtual 58, 3) := by decide +kernel
theorem d_FV_type_42 : decode b_FV_type 42 = .ok (.aload_n 0, 1) := by decide +kernel
theorem d_FV_type_43 : decode b_FV_type 43 = .ok (.getfield 21, 3) := by decide +kernel
theorem d_FV_type_46 : decode b_FV_type 46 = .ok (.iload_n 1, 1) := by decide +kernel
theorem d_FV_type_47 : decode b_FV_type 47 = .ok (.iload_n 2, 1) := by decide +kernel
theorem d_FV_type_48 : decode b_FV_type 48 = .ok (.invokevirtual 69, 3) := by decide +kernel
theorem d_FV_type_51 : decode b_FV_type 51 = .ok (.istore 4, 2) := by decide +kernel
theorem d_FV_type_53 : decode b_FV_type 53 = .ok (.iload 4, 2) := by decide +kernel
theorem d_FV_type_55 : decode b_FV_type 55 = .ok (.bipush (-2), 2) := by decide +kernel
theorem d_FV_type_57 : decode b_FV_type 57 = .ok (.if_icmp .ne (6), 3) := by decide +kernel
theorem d_FV_type_60 : decode b_FV_type 60 = .ok (.bipush (-2), 2) := by decide +kernel
theorem d_FV_type_62 : decode b_FV_type 62 = .ok (.ireturn, 1) := by decide +kernel
theorem d_FV_type_63 : decode b_FV_type 63 = .ok (.iload 4, 2) := by decide +kernel
theorem d_FV_type_65 : decode b_FV_type 65 = .ok (.iconst (-1), 1) := by decide +kernel
theorem d_FV_type_66 : decode b_FV_type 66 = .ok (.if_icmp .eq (15), 3) := by decide +kernel
theorem d_FV_type_69 : decode b_FV_type 69 = .ok (.iload_n 3, 1) := by decide +kernel
theorem d_FV_type_70 : decode b_FV_type 70 = .ok (.bipush (6), 2) := by decide +kernel
theorem d_FV_type_72 : decode b_FV_type 72 = .ok (.iload 4, 2) := by decide +kernel
theorem d_FV_type_74 : decode b_FV_type 74 = .ok (.invokestatic 72, 3) := by decide +kernel
theorem d_FV_type_77 : decode b_FV_type 77 = .ok (.iadd, 1) := by decide +kernel
theorem d_FV_type_78 : decode b_FV_type 78 = .ok (.if_icmp .lt (5), 3) := by decide +kernel
theorem d_FV_type_81 : decode b_FV_type 81 = .ok (.iconst (-1), 1) := by decide +kernel
theorem d_FV_type_82 : decode b_FV_type 82 = .ok (.ireturn, 1) := by decide +kernel
theorem d_FV_type_83 : decode b_FV_type 83 = .ok (.iload 4, 2) := by decide +kernel
theorem d_FV_type_85 : decode b_FV_type 85 = .ok (.iload_n 3, 1) := by decide +kernel
theorem d_FV_type_86 : decode b_FV_type 86 = .ok (.invokestatic 77, 3) := by decide +kernel
theorem d_FV_type_89 : decode b_FV_type 89 = .ok (.ireturn, 1) := by decide +kernel
def y_FV_start : MethodName := ⟨"FrameVerifier", "start", "(III)Z"⟩
abbrev b_FV_start : ByteArray := prog_1_method_7_code
def rm_FV_start : Room := { frames := 4, cells := 0, slots := 0, locals := 92 }
abbrev w_FV_start : List Cond := Cond.code y_FV_start b_FV_start 4 (some .boolean) :: wG
theorem m_FV_start : Cond.code y_FV_start b_FV_start 4 (some .boolean) ∈ wG := wg_t 387 (by decide +kernel) (by decide +kernel)
theorem q_FV_start : y_FV_start.cls ≠ "java/lang/invoke/MethodHandle" ∧ y_FV_start.cls ≠ "java/lang/invoke/VarHandle" ∧ (parseMethodDescriptor y_FV_start.desc).map (fun d => d.parameters.length) = some 3 := by decide +kernel
theorem g_FV_start : Cond.initialized y_FV_start.cls ∈ wG := wg_t 1 (by decide +kernel) (by decide +kernel)
theorem s_FV_start : Cond.instanceMethod y_FV_start ∈ wG := wg_t 385 (by decide +kernel) (by decide +kernel)
theorem e_FV_start : Cond.selects "FrameVerifier" y_FV_start y_FV_start ∈ wG := wg_t 386 (by decide +kernel) (by decide +kernel)
theorem d_FV_start_0 : decode b_FV_start 0 = .ok (.aload_n 0, 1) := by decide +kernel
theorem d_FV_start_1 : decode b_FV_start 1 = .ok (.getfield 12, 3) := by decide +kernel
theorem d_FV_start_4 : decode b_FV_start 4 = .ok (.iconst 0, 1) := by decide +kernel
theorem d_FV_start_5 : decode b_FV_start 5 = .ok (.invokevirtual 54, 3) := by decide +kernel
theorem d_FV_start_8 : decode b_FV_start 8 = .ok (.ifCond .ne (5), 3) := by decide +kernel
theorem d_FV_start_11 : decode b_FV_start 11 = .ok (.iconst 0, 1) := by decide +kernel
theorem d_FV_start_12 : decode b_FV_start 12 = .ok (.ireturn, 1) := by decide +kernel
theorem d_FV_start_13 : decode b_FV_start 13 = .ok (.aload_n 0, 1) := by decide +kernel
theorem d_FV_start_14 : decode b_FV_start 14 = .ok (.getfield 28, 3) := by decide +kernel
theorem d_FV_start_17 : decode b_FV_start 17 = .ok (.iload_n 1, 1) := by decide +kernel
theorem d_FV_start_18 : decode b_FV_start 18 = .ok (.iload_n 2, 1) := by decide +kernel
theorem d_FV_start_19 : decode b_FV_start 19 = .ok (.iload_n 3, 1) := by decide +kernel
theorem d_FV_start_20 : decode b_FV_start 20 = .ok (.invokevirtual 80, 3) := by decide +kernel
theorem d_FV_start_23 : decode b_FV_start 23 = .ok (.iconst 1, 1) := by decide +kernel
theorem d_FV_start_24 : decode b_FV_start 24 = .ok (.ireturn, 1) := by decide +kernel
def y_FV_aboutTopFrame : MethodName := ⟨"FrameVerifier", "aboutTopFrame", "(I)I"⟩
abbrev b_FV_aboutTopFrame : ByteArray := prog_1_method_12_code
def rm_FV_aboutTopFrame : Room := { frames := 2, cells := 0, slots := 0, locals := 43 }
abbrev w_FV_aboutTopFrame : List Cond := Cond.code y_FV_aboutTopFrame b_FV_aboutTopFrame 3 (some .int) :: wG
theorem m_FV_aboutTopFrame : Cond.code y_FV_aboutTopFrame b_FV_aboutTopFrame 3 (some .int) ∈ wG := wg_t 421 (by decide +kernel) (by decide +kernel)
theorem q_FV_aboutTopFrame : y_FV_aboutTopFrame.cls ≠ "java/lang/invoke/MethodHandle" ∧ y_FV_aboutTopFrame.cls ≠ "java/lang/invoke/VarHandle" ∧ (parseMethodDescriptor y_FV_aboutTopFrame.desc).map (fun d => d.parameters.length) = some 1 := by decide +kernel
theorem g_FV_aboutTopFrame : Cond.initialized y_FV_aboutTopFrame.cls ∈ wG := wg_t 1 (by decide +kernel) (by decide +kernel)
theorem s_FV_aboutTopFrame : Cond.instanceMethod y_FV_aboutTopFrame ∈ wG := wg_t 420 (by decide +kernel) (by decide +kernel)
theorem e_FV_aboutTopFrame : Cond.selects "FrameVerifier" y_FV_aboutTopFrame y_FV_aboutTopFrame ∈ wG := wg_s (q := (y_FV_aboutTopFrame, 4)) 12 (by decide +kernel) (by decide +kernel)
theorem d_FV_aboutTopFrame_0 : decode b_FV_aboutTopFrame 0 = .ok (.aload_n 0, 1) := by decide +kernel
theorem d_FV_aboutTopFrame_1 : decode b_FV_aboutTopFrame 1 = .ok (.getfield 28, 3) := by decide +kernel
theorem d_FV_aboutTopFrame_4 : decode b_FV_aboutTopFrame 4 = .ok (.invokevirtual 106, 3) := by decide +kernel
theorem d_FV_aboutTopFrame_7 : decode b_FV_aboutTopFrame 7 = .ok (.astore_n 2, 1) := by decide +kernel
theorem d_FV_aboutTopFrame_8 : decode b_FV_aboutTopFrame 8 = .ok (.iload_n 1, 1) := by decide +kernel
theorem d_FV_aboutTopFrame_9 : decode b_FV_aboutTopFrame 9 = .ok (.tableswitch (79) (1) (4) #[(31), (36), (44), (52)], 31) := by decide +kernel
theorem d_FV_aboutTopFrame_40 : decode b_FV_aboutTopFrame 40 = .ok (.aload_n 2, 1) := by decide +kernel
theorem d_FV_aboutTopFrame_41 : decode b_FV_aboutTopFrame 41 = .ok (.getfield 115, 3) := by decide +kernel
theorem d_FV_aboutTopFrame_44 : decode b_FV_aboutTopFrame 44 = .ok (.ireturn, 1) := by decide +kernel
theorem d_FV_aboutTopFrame_45 : decode b_FV_aboutTopFrame 45 = .ok (.aload_n 0, 1) := by decide +kernel
theorem d_FV_aboutTopFrame_46 : decode b_FV_aboutTopFrame 46 = .ok (.getfield 28, 3) := by decide +kernel
theorem d_FV_aboutTopFrame_49 : decode b_FV_aboutTopFrame 49 = .ok (.getfield 118, 3) := by decide +kernel
theorem d_FV_aboutTopFrame_52 : decode b_FV_aboutTopFrame 52 = .ok (.ireturn, 1) := by decide +kernel
theorem d_FV_aboutTopFrame_53 : decode b_FV_aboutTopFrame 53 = .ok (.aload_n 2, 1) := by decide +kernel
theorem d_FV_aboutTopFrame_54 : decode b_FV_aboutTopFrame 54 = .ok (.getfield 121, 3) := by decide +kernel
theorem d_FV_aboutTopFrame_57 : decode b_FV_aboutTopFrame 57 = .ok (.invokestatic 72, 3) := by decide +kernel
theorem d_FV_aboutTopFrame_60 : decode b_FV_aboutTopFrame 60 = .ok (.ireturn, 1) := by decide +kernel
theorem d_FV_aboutTopFrame_61 : decode b_FV_aboutTopFrame 61 = .ok (.aload_n 2, 1) := by decide +kernel
theorem d_FV_aboutTopFrame_62 : decode b_FV_aboutTopFrame 62 = .ok (.getfield 121, 3) := by decide +kernel
theorem d_FV_aboutTopFrame_65 : decode b_FV_aboutTopFrame 65 = .ok (.invokestatic 72, 3) := by decide +kernel
theorem d_FV_aboutTopFrame_68 : decode b_FV_aboutTopFrame 68 = .ok (.ifCond .ne (7), 3) := by decide +kernel
theorem d_FV_aboutTopFrame_71 : decode b_FV_aboutTopFrame 71 = .ok (.iconst (-1), 1) := by decide +kernel
theorem d_FV_aboutTopFrame_72 : decode b_FV_aboutTopFrame 72 = .ok (.goto (15), 3) := by decide +kernel
theorem d_FV_aboutTopFrame_75 : decode b_FV_aboutTopFrame 75 = .ok (.aload_n 2, 1) := by decide +kernel
theorem d_FV_aboutTopFrame_76 : decode b_FV_aboutTopFrame 76 = .ok (.aload_n 2, 1) := by decide +kernel
theorem d_FV_aboutTopFrame_77 : decode b_FV_aboutTopFrame 77 = .ok (.getfield 121, 3) := by decide +kernel
theorem d_FV_aboutTopFrame_80 : decode b_FV_aboutTopFrame 80 = .ok (.iconst 0, 1) := by decide +kernel
theorem d_FV_aboutTopFrame_81 : decode b_FV_aboutTopFrame 81 = .ok (.invokestatic 124, 3) := by decide +kernel
theorem d_FV_aboutTopFrame_84 : decode b_FV_aboutTopFrame 84 = .ok (.invokevirtual 110, 3) := by decide +kernel
theorem d_FV_aboutTopFrame_87 : decode b_FV_aboutTopFrame 87 = .ok (.ireturn, 1) := by decide +kernel
theorem d_FV_aboutTopFrame_88 : decode b_FV_aboutTopFrame 88 = .ok (.iconst (-1), 1) := by decide +kernel
theorem d_FV_aboutTopFrame_89 : decode b_FV_aboutTopFrame 89 = .ok (.ireturn, 1) := by decide +kernel
def y_FV_about : MethodName := ⟨"FrameVerifier", "about", "(I)I"⟩
abbrev b_FV_about : ByteArray := prog_1_method_10_code
def rm_FV_about : Room := { frames := 3, cells := 0, slots := 0, locals := 65 }
abbrev w_FV_about : List Cond := Cond.code y_FV_about b_FV_about 2 (some .int) :: wG
theorem m_FV_about : Cond.code y_FV_about b_FV_about 2 (some .int) ∈ wG := wg_t 413 (by decide +kernel) (by decide +kernel)
theorem q_FV_about : y_FV_about.cls ≠ "java/lang/invoke/MethodHandle" ∧ y_FV_about.cls ≠ "java/lang/invoke/VarHandle" ∧ (parseMethodDescriptor y_FV_about.desc).map (fun d => d.parameters.length) = some 1 := by decide +kernel
theorem g_FV_about : Cond.initialized y_FV_about.cls ∈ wG := wg_t 1 (by decide +kernel) (by decide +kernel)
theorem s_FV_about : Cond.instanceMethod y_FV_about ∈ wG := wg_t 411 (by decide +kernel) (by decide +kernel)
theorem e_FV_about : Cond.selects "FrameVerifier" y_FV_about y_FV_about ∈ wG := wg_t 412 (by decide +kernel) (by decide +kernel)
theorem d_FV_about_0 : decode b_FV_about 0 = .ok (.iload_n 1, 1) := by decide +kernel
theorem d_FV_about_1 : decode b_FV_about 1 = .ok (.tableswitch (87) (0) (7) #[(47), (87), (87), (87), (87), (63), (71), (79)], 47) := by decide +kernel
theorem d_FV_about_48 : decode b_FV_about 48 = .ok (.aload_n 0, 1) := by decide +kernel
theorem d_FV_about_49 : decode b_FV_about 49 = .ok (.getfield 28, 3) := by decide +kernel
theorem d_FV_about_52 : decode b_FV_about 52 = .ok (.invokevirtual 84, 3) := by decide +kernel
theorem d_FV_about_55 : decode b_FV_about 55 = .ok (.ifCond .eq (7), 3) := by decide +kernel
theorem d_FV_about_58 : decode b_FV_about 58 = .ok (.iconst 1, 1) := by decide +kernel
theorem d_FV_about_59 : decode b_FV_about 59 = .ok (.goto (4), 3) := by decide +kernel
theorem d_FV_about_62 : decode b_FV_about 62 = .ok (.iconst 0, 1) := by decide +kernel
theorem d_FV_about_63 : decode b_FV_about 63 = .ok (.ireturn, 1) := by decide +kernel
theorem d_FV_about_64 : decode b_FV_about 64 = .ok (.aload_n 0, 1) := by decide +kernel
theorem d_FV_about_65 : decode b_FV_about 65 = .ok (.getfield 28, 3) := by decide +kernel
theorem d_FV_about_68 : decode b_FV_about 68 = .ok (.getfield 94, 3) := by decide +kernel
theorem d_FV_about_71 : decode b_FV_about 71 = .ok (.ireturn, 1) := by decide +kernel
theorem d_FV_about_72 : decode b_FV_about 72 = .ok (.aload_n 0, 1) := by decide +kernel
theorem d_FV_about_73 : decode b_FV_about 73 = .ok (.getfield 28, 3) := by decide +kernel
theorem d_FV_about_76 : decode b_FV_about 76 = .ok (.getfield 97, 3) := by decide +kernel
theorem d_FV_about_79 : decode b_FV_about 79 = .ok (.ireturn, 1) := by decide +kernel
theorem d_FV_about_80 : decode b_FV_about 80 = .ok (.aload_n 0, 1) := by decide +kernel
theorem d_FV_about_81 : decode b_FV_about 81 = .ok (.getfield 12, 3) := by decide +kernel
theorem d_FV_about_84 : decode b_FV_about 84 = .ok (.getfield 36, 3) := by decide +kernel
theorem d_FV_about_87 : decode b_FV_about 87 = .ok (.ireturn, 1) := by decide +kernel
theorem d_FV_about_88 : decode b_FV_about 88 = .ok (.aload_n 0, 1) := by decide +kernel
theorem d_FV_about_89 : decode b_FV_about 89 = .ok (.getfield 28, 3) := by decide +kernel
theorem d_FV_about_92 : decode b_FV_about 92 = .ok (.invokevirtual 84, 3) := by decide +kernel
theorem d_FV_about_95 : decode b_FV_about 95 = .ok (.ifCond .eq (11), 3) := by decide +kernel
theorem d_FV_about_98 : decode b_FV_about 98 = .ok (.aload_n 0, 1) := by decide +kernel
theorem d_FV_about_99 : decode b_FV_about 99 = .ok (.iload_n 1, 1) := by decide +kernel
theorem d_FV_about_100 : decode b_FV_about 100 = .ok (.invokevirtual 100, 3) := by decide +kernel
theorem d_FV_about_103 : decode b_FV_about 103 = .ok (.goto (4), 3) := by decide +kernel
theorem d_FV_about_106 : decode b_FV_about 106 = .ok (.iconst (-1), 1) := by decide +kernel
theorem d_FV_about_107 : decode b_FV_about 107 = .ok (.ireturn, 1) := by decide +kernel
def y_FV_local : MethodName := ⟨"FrameVerifier", "local", "(I)I"⟩
abbrev b_FV_local : ByteArray := prog_1_method_11_code
def rm_FV_local : Room := { frames := 2, cells := 0, slots := 0, locals := 43 }
abbrev w_FV_local : List Cond := Cond.code y_FV_local b_FV_local 2 (some .int) :: wG
theorem m_FV_local : Cond.code y_FV_local b_FV_local 2 (some .int) ∈ wG := wg_t 435 (by decide +kernel) (by decide +kernel)
theorem q_FV_local : y_FV_local.cls ≠ "java/lang/invoke/MethodHandle" ∧ y_FV_local.cls ≠ "java/lang/invoke/VarHandle" ∧ (parseMethodDescriptor y_FV_local.desc).map (fun d => d.parameters.length) = some 1 := by decide +kernel
theorem g_FV_local : Cond.initialized y_FV_local.cls ∈ wG := wg_t 1 (by decide +kernel) (by decide +kernel)
theorem s_FV_local : Cond.instanceMethod y_FV_local ∈ wG := wg_t 433 (by decide +kernel) (by decide +kernel)
theorem e_FV_local : Cond.selects "FrameVerifier" y_FV_local y_FV_local ∈ wG := wg_t 434 (by decide +kernel) (by decide +kernel)
theorem d_FV_local_0 : decode b_FV_local 0 = .ok (.iload_n 1, 1) := by decide +kernel
theorem d_FV_local_1 : decode b_FV_local 1 = .ok (.invokestatic 103, 3) := by decide +kernel
theorem d_FV_local_4 : decode b_FV_local 4 = .ok (.ifCond .eq (13), 3) := by decide +kernel
theorem d_FV_local_7 : decode b_FV_local 7 = .ok (.aload_n 0, 1) := by decide +kernel
theorem d_FV_local_8 : decode b_FV_local 8 = .ok (.getfield 28, 3) := by decide +kernel
theorem d_FV_local_11 : decode b_FV_local 11 = .ok (.invokevirtual 84, 3) := by decide +kernel
theorem d_FV_local_14 : decode b_FV_local 14 = .ok (.ifCond .ne (5), 3) := by decide +kernel
theorem d_FV_local_17 : decode b_FV_local 17 = .ok (.iconst (-1), 1) := by decide +kernel
theorem d_FV_local_18 : decode b_FV_local 18 = .ok (.ireturn, 1) := by decide +kernel
theorem d_FV_local_19 : decode b_FV_local 19 = .ok (.aload_n 0, 1) := by decide +kernel
theorem d_FV_local_20 : decode b_FV_local 20 = .ok (.getfield 28, 3) := by decide +kernel
theorem d_FV_local_23 : decode b_FV_local 23 = .ok (.invokevirtual 106, 3) := by decide +kernel
theorem d_FV_local_26 : decode b_FV_local 26 = .ok (.iload_n 1, 1) := by decide +kernel
theorem d_FV_local_27 : decode b_FV_local 27 = .ok (.invokevirtual 110, 3) := by decide +kernel
theorem d_FV_local_30 : decode b_FV_local 30 = .ok (.ireturn, 1) := by decide +kernel
theorem wd_41 : (Jvm.Cond.fieldLink "FrameVerifier" (36 : Nat) "FrameVerifier$Code" "count" "I") ∈ wG := wg_t 41 (by decide +kernel) (by decide +kernel)
theorem wd_107 : (Jvm.Cond.fieldLink "FrameVerifier" (115 : Nat) "FrameVerifier$Frame" "address" "I") ∈ wG := wg_t 107 (by decide +kernel) (by decide +kernel)
theorem wd_110 : (Jvm.Cond.fieldLink "FrameVerifier" (121 : Nat) "FrameVerifier$Frame" "types" "I") ∈ wG := wg_t 110 (by decide +kernel) (by decide +kernel)
theorem wd_122 : (Jvm.Cond.fieldLink "FrameVerifier" (118 : Nat) "FrameVerifier$Machine" "depth" "I") ∈ wG := wg_t 122 (by decide +kernel) (by decide +kernel)
theorem wd_124 : (Jvm.Cond.fieldLink "FrameVerifier" (97 : Nat) "FrameVerifier$Machine" "used" "I") ∈ wG := wg_t 124 (by decide +kernel) (by decide +kernel)
theorem wd_126 : (Jvm.Cond.fieldLink "FrameVerifier" (94 : Nat) "FrameVerifier$Machine" "result" "I") ∈ wG := wg_t 126 (by decide +kernel) (by decide +kernel)
theorem wd_143 : (Jvm.Cond.fieldLink "FrameVerifier" (12 : Nat) "FrameVerifier" "code" "LFrameVerifier$Code;") ∈ wG := wg_t 143 (by decide +kernel) (by decide +kernel)
theorem wd_144 : (Jvm.Cond.fieldLink "FrameVerifier" (21 : Nat) "FrameVerifier" "flow" "LFrameVerifier$Flow;") ∈ wG := wg_t 144 (by decide +kernel) (by decide +kernel)
theorem wd_145 : (Jvm.Cond.fieldLink "FrameVerifier" (28 : Nat) "FrameVerifier" "machine" "LFrameVerifier$Machine;") ∈ wG := wg_t 145 (by decide +kernel) (by decide +kernel)
theorem wd_146 : (Jvm.Cond.fieldLink "FrameVerifier" (32 : Nat) "FrameVerifier" "verified" "Z") ∈ wG := wg_t 146 (by decide +kernel) (by decide +kernel)
theorem k_FV_43 {R : Room} {s : State} {args : Array Value} {Ts : List Cond} (hts : ∀ w ∈ Ts, w.before args s = true) (hsub : ∀ w ∈ wG, w ∈ Ts) (hR : rm_FV_forgetVerification.frames + 1 ≤ R.frames ∧ 8 + (1 + 11) + rm_FV_forgetVerification.locals ≤ R.locals) : CallW R s args "FrameVerifier" "FrameVerifier" 43 y_FV_forgetVerification b_FV_forgetVerification 1 none w_FV_forgetVerification rm_FV_forgetVerification 0 0 0 := ⟨cb_G hts hsub m_FV_forgetVerification g_FV_forgetVerification (wg_t 160 (by decide +kernel) (by decide +kernel) : Cond.methodLink "FrameVerifier" 43 y_FV_forgetVerification ∈ wG) q_FV_forgetVerification rfl rfl hR, hts _ (hsub _ s_FV_forgetVerification), hts _ (hsub _ e_FV_forgetVerification)⟩
theorem k_FV_50 {R : Room} {s : State} {args : Array Value} {Ts : List Cond} (hts : ∀ w ∈ Ts, w.before args s = true) (hsub : ∀ w ∈ wG, w ∈ Ts) (hR : rm_Co_tell.frames + 1 ≤ R.frames ∧ 8 + (5 + 11) + rm_Co_tell.locals ≤ R.locals) : CallW R s args "FrameVerifier" "FrameVerifier$Code" 50 y_Co_tell b_Co_tell 5 none w_Co_tell rm_Co_tell 0 0 4 := ⟨cb_G hts hsub m_Co_tell g_Co_tell (wg_t 168 (by decide +kernel) (by decide +kernel) : Cond.methodLink "FrameVerifier" 50 y_Co_tell ∈ wG) q_Co_tell rfl rfl hR, hts _ (hsub _ s_Co_tell), hts _ (hsub _ e_Co_tell)⟩
theorem k_FV_54 {R : Room} {s : State} {args : Array Value} {Ts : List Cond} (hts : ∀ w ∈ Ts, w.before args s = true) (hsub : ∀ w ∈ wG, w ∈ Ts) (hR : rm_Co_hasRoutine.frames + 1 ≤ R.frames ∧ 8 + (2 + 11) + rm_Co_hasRoutine.locals ≤ R.locals) : CallW R s args "FrameVerifier" "FrameVerifier$Code" 54 y_Co_hasRoutine b_Co_hasRoutine 2 (some .boolean) w_Co_hasRoutine rm_Co_hasRoutine 0 0 1 := ⟨cb_G hts hsub m_Co_hasRoutine g_Co_hasRoutine (wg_t 176 (by decide +kernel) (by decide +kernel) : Cond.methodLink "FrameVerifier" 54 y_Co_hasRoutine ∈ wG) q_Co_hasRoutine rfl rfl hR, hts _ (hsub _ s_Co_hasRoutine), hts _ (hsub _ e_Co_hasRoutine)⟩
theorem k_FV_58 {R : Room} {s : State} {args : Array Value} {Ts : List Cond} (hts : ∀ w ∈ Ts, w.before args s = true) (hsub : ∀ w ∈ wG, w ∈ Ts) (hR : rm_Fl_workOut.frames + 1 ≤ R.frames ∧ 8 + (4 + 11) + rm_Fl_workOut.locals ≤ R.locals) : CallW R s args "FrameVerifier" "FrameVerifier$Flow" 58 y_Fl_workOut b_Fl_workOut 4 none w_Fl_workOut rm_Fl_workOut 0 0 1 := ⟨cb_G hts hsub m_Fl_workOut g_Fl_workOut (wg_t 180 (by decide +kernel) (by decide +kernel) : Cond.methodLink "FrameVerifier" 58 y_Fl_workOut ∈ wG) q_Fl_workOut rfl rfl hR, hts _ (hsub _ s_Fl_workOut), hts _ (hsub _ e_Fl_workOut)⟩
theorem k_FV_62 {R : Room} {s : State} {args : Array Value} {Ts : List Cond} (hts : ∀ w ∈ Ts, w.before args s = true) (hsub : ∀ w ∈ wG, w ∈ Ts) (hR : rm_Fl_leastUnfit.frames + 1 ≤ R.frames ∧ 8 + (4 + 11) + rm_Fl_leastUnfit.locals ≤ R.locals) : CallW R s args "FrameVerifier" "FrameVerifier$Flow" 62 y_Fl_leastUnfit b_Fl_leastUnfit 4 (some .int) w_Fl_leastUnfit rm_Fl_leastUnfit 0 0 1 := ⟨cb_G hts hsub m_Fl_leastUnfit g_Fl_leastUnfit (wg_t 365 (by decide +kernel) (by decide +kernel) : Cond.methodLink "FrameVerifier" 62 y_Fl_leastUnfit ∈ wG) q_Fl_leastUnfit rfl rfl hR, hts _ (hsub _ s_Fl_leastUnfit), hts _ (hsub _ e_Fl_leastUnfit)⟩
theorem k_FV_66 {R : Room} {s : State} {args : Array Value} {Ts : List Cond} (hts : ∀ w ∈ Ts, w.before args s = true) (hsub : ∀ w ∈ wG, w ∈ Ts) (hR : rm_Co_hasInstruction.frames + 1 ≤ R.frames ∧ 8 + (2 + 11) + rm_Co_hasInstruction.locals ≤ R.locals) : CallW R s args "FrameVerifier" "FrameVerifier$Code" 66 y_Co_hasInstruction b_Co_hasInstruction 2 (some .boolean) w_Co_hasInstruction rm_Co_hasInstruction 0 0 1 := ⟨cb_G hts hsub m_Co_hasInstruction g_Co_hasInstruction (wg_t 377 (by decide +kernel) (by decide +kernel) : Cond.methodLink "FrameVerifier" 66 y_Co_hasInstruction ∈ wG) q_Co_hasInstruction rfl rfl hR, hts _ (hsub _ s_Co_hasInstruction), hts _ (hsub _ e_Co_hasInstruction)⟩
theorem k_FV_69 {R : Room} {s : State} {args : Array Value} {Ts : List Cond} (hts : ∀ w ∈ Ts, w.before args s = true) (hsub : ∀ w ∈ wG, w ∈ Ts) (hR : rm_Fl_stateOf.frames + 1 ≤ R.frames ∧ 8 + (3 + 11) + rm_Fl_stateOf.locals ≤ R.locals) : CallW R s args "FrameVerifier" "FrameVerifier$Flow" 69 y_Fl_stateOf b_Fl_stateOf 3 (some .int) w_Fl_stateOf rm_Fl_stateOf 0 0 2 := ⟨cb_G hts hsub m_Fl_stateOf g_Fl_stateOf (wg_t 378 (by decide +kernel) (by decide +kernel) : Cond.methodLink "FrameVerifier" 69 y_Fl_stateOf ∈ wG) q_Fl_stateOf rfl rfl hR, hts _ (hsub _ s_Fl_stateOf), hts _ (hsub _ e_Fl_stateOf)⟩
theorem k_FV_72 {R : Room} {s : State} {args : Array Value} {Ts : List Cond} (hts : ∀ w ∈ Ts, w.before args s = true) (hsub : ∀ w ∈ wG, w ∈ Ts) (hR : rm_Ty_height.frames + 1 ≤ R.frames ∧ 8 + (1 + 11) + rm_Ty_height.locals ≤ R.locals) : CallB R s args "FrameVerifier" 72 y_Ty_height b_Ty_height 1 (some .int) w_Ty_height rm_Ty_height 0 0 1 ∧ (Cond.static y_Ty_height).before args s = true := ⟨cb_G hts hsub m_Ty_height g_Ty_height (wg_t 382 (by decide +kernel) (by decide +kernel) : Cond.methodLink "FrameVerifier" 72 y_Ty_height ∈ wG) q_Ty_height rfl rfl hR, hts _ (hsub _ s_Ty_height)⟩
theorem k_FV_77 {R : Room} {s : State} {args : Array Value} {Ts : List Cond} (hts : ∀ w ∈ Ts, w.before args s = true) (hsub : ∀ w ∈ wG, w ∈ Ts) (hR : rm_Ty_at.frames + 1 ≤ R.frames ∧ 8 + (2 + 11) + rm_Ty_at.locals ≤ R.locals) : CallB R s args "FrameVerifier" 77 y_Ty_at b_Ty_at 2 (some .int) w_Ty_at rm_Ty_at 0 0 2 ∧ (Cond.static y_Ty_at).before args s = true := ⟨cb_G hts hsub m_Ty_at g_Ty_at (wg_t 383 (by decide +kernel) (by decide +kernel) : Cond.methodLink "FrameVerifier" 77 y_Ty_at ∈ wG) q_Ty_at rfl rfl hR, hts _ (hsub _ s_Ty_at)⟩
theorem k_FV_80 {R : Room} {s : State} {args : Array Value} {Ts : List Cond} (hts : ∀ w ∈ Ts, w.before args s = true) (hsub : ∀ w ∈ wG, w ∈ Ts) (hR : rm_Ma_begin.frames + 1 ≤ R.frames ∧ 8 + (5 + 11) + rm_Ma_begin.locals ≤ R.locals) : CallW R s args "FrameVerifier" "FrameVerifier$Machine" 80 y_Ma_begin b_Ma_begin 5 none w_Ma_begin rm_Ma_begin 0 0 3 := ⟨cb_G hts hsub m_Ma_begin g_Ma_begin (wg_t 388 (by decide +kernel) (by decide +kernel) : Cond.methodLink "FrameVerifier" 80 y_Ma_begin ∈ wG) q_Ma_begin rfl rfl hR, hts _ (hsub _ s_Ma_begin), hts _ (hsub _ e_Ma_begin)⟩
theorem k_FV_84 {R : Room} {s : State} {args : Array Value} {Ts : List Cond} (hts : ∀ w ∈ Ts, w.before args s = true) (hsub : ∀ w ∈ wG, w ∈ Ts) (hR : rm_Ma_isRunning.frames + 1 ≤ R.frames ∧ 8 + (1 + 11) + rm_Ma_isRunning.locals ≤ R.locals) : CallW R s args "FrameVerifier" "FrameVerifier$Machine" 84 y_Ma_isRunning b_Ma_isRunning 1 (some .boolean) w_Ma_isRunning rm_Ma_isRunning 0 0 0 := ⟨cb_G hts hsub m_Ma_isRunning g_Ma_isRunning (wg_t 414 (by decide +kernel) (by decide +kernel) : Cond.methodLink "FrameVerifier" 84 y_Ma_isRunning ∈ wG) q_Ma_isRunning rfl rfl hR, hts _ (hsub _ s_Ma_isRunning), hts _ (hsub _ e_Ma_isRunning)⟩
theorem k_FV_100 {R : Room} {s : State} {args : Array Value} {Ts : List Cond} (hts : ∀ w ∈ Ts, w.before args s = true) (hsub : ∀ w ∈ wG, w ∈ Ts) (hR : rm_FV_aboutTopFrame.frames + 1 ≤ R.frames ∧ 8 + (3 + 11) + rm_FV_aboutTopFrame.locals ≤ R.locals) : CallW R s args "FrameVerifier" "FrameVerifier" 100 y_FV_aboutTopFrame b_FV_aboutTopFrame 3 (some .int) w_FV_aboutTopFrame rm_FV_aboutTopFrame 0 0 1 := ⟨cb_G hts hsub m_FV_aboutTopFrame g_FV_aboutTopFrame (wg_t 418 (by decide +kernel) (by decide +kernel) : Cond.methodLink "FrameVerifier" 100 y_FV_aboutTopFrame ∈ wG) q_FV_aboutTopFrame rfl rfl hR, hts _ (hsub _ s_FV_aboutTopFrame), hts _ (hsub _ e_FV_aboutTopFrame)⟩
theorem k_FV_103 {R : Room} {s : State} {args : Array Value} {Ts : List Cond} (hts : ∀ w ∈ Ts, w.before args s = true) (hsub : ∀ w ∈ wG, w ∈ Ts) (hR : rm_FV_isLocal.frames + 1 ≤ R.frames ∧ 8 + (1 + 11) + rm_FV_isLocal.locals ≤ R.locals) : CallB R s args "FrameVerifier" 103 y_FV_isLocal b_FV_isLocal 1 (some .boolean) w_FV_isLocal rm_FV_isLocal 0 0 1 ∧ (Cond.static y_FV_isLocal).before args s = true := ⟨cb_G hts hsub m_FV_isLocal g_FV_isLocal (wg_t 436 (by decide +kernel) (by decide +kernel) : Cond.methodLink "FrameVerifier" 103 y_FV_isLocal ∈ wG) q_FV_isLocal rfl rfl hR, hts _ (hsub _ s_FV_isLocal)⟩
theorem k_FV_106 {R : Room} {s : State} {args : Array Value} {Ts : List Cond} (hts : ∀ w ∈ Ts, w.before args s = true) (hsub : ∀ w ∈ wG, w ∈ Ts) (hR : rm_Ma_top.frames + 1 ≤ R.frames ∧ 8 + (1 + 11) + rm_Ma_top.locals ≤ R.locals) : CallW R s args "FrameVerifier" "FrameVerifier$Machine" 106 y_Ma_top b_Ma_top 1 (some (.object "FrameVerifier$Frame")) w_Ma_top rm_Ma_top 0 0 0 := ⟨cb_G hts hsub m_Ma_top g_Ma_top (wg_t 422 (by decide +kernel) (by decide +kernel) : Cond.methodLink "FrameVerifier" 106 y_Ma_top ∈ wG) q_Ma_top rfl rfl hR, hts _ (hsub _ s_Ma_top), hts _ (hsub _ e_Ma_top)⟩
theorem k_FV_110 {R : Room} {s : State} {args : Array Value} {Ts : List Cond} (hts : ∀ w ∈ Ts, w.before args s = true) (hsub : ∀ w ∈ wG, w ∈ Ts) (hR : rm_Fr_shown.frames + 1 ≤ R.frames ∧ 8 + (3 + 11) + rm_Fr_shown.locals ≤ R.locals) : CallW R s args "FrameVerifier" "FrameVerifier$Frame" 110 y_Fr_shown b_Fr_shown 3 (some .int) w_Fr_shown rm_Fr_shown 0 0 1 := ⟨cb_G hts hsub m_Fr_shown g_Fr_shown (wg_t 427 (by decide +kernel) (by decide +kernel) : Cond.methodLink "FrameVerifier" 110 y_Fr_shown ∈ wG) q_Fr_shown rfl rfl hR, hts _ (hsub _ s_Fr_shown), hts _ (hsub _ e_Fr_shown)⟩
theorem k_FV_124 {R : Room} {s : State} {args : Array Value} {Ts : List Cond} (hts : ∀ w ∈ Ts, w.before args s = true) (hsub : ∀ w ∈ wG, w ∈ Ts) (hR : rm_Ty_slotBelow.frames + 1 ≤ R.frames ∧ 8 + (2 + 11) + rm_Ty_slotBelow.locals ≤ R.locals) : CallB R s args "FrameVerifier" 124 y_Ty_slotBelow b_Ty_slotBelow 2 (some .int) w_Ty_slotBelow rm_Ty_slotBelow 0 0 2 ∧ (Cond.static y_Ty_slotBelow).before args s = true := ⟨cb_G hts hsub m_Ty_slotBelow g_Ty_slotBelow (wg_t 426 (by decide +kernel) (by decide +kernel) : Cond.methodLink "FrameVerifier" 124 y_Ty_slotBelow ∈ wG) q_Ty_slotBelow rfl rfl hR, hts _ (hsub _ s_Ty_slotBelow)⟩
theorem k_FV_127 {R : Room} {s : State} {args : Array Value} {Ts : List Cond} (hts : ∀ w ∈ Ts, w.before args s = true) (hsub : ∀ w ∈ wG, w ∈ Ts) (hR : rm_Fl_forget.frames + 1 ≤ R.frames ∧ 8 + (2 + 11) + rm_Fl_forget.locals ≤ R.locals) : CallW R s args "FrameVerifier" "FrameVerifier$Flow" 127 y_Fl_forget b_Fl_forget 2 none w_Fl_forget rm_Fl_forget 0 0 0 := ⟨cb_G hts hsub m_Fl_forget g_Fl_forget (wg_t 164 (by decide +kernel) (by decide +kernel) : Cond.methodLink "FrameVerifier" 127 y_Fl_forget ∈ wG) q_Fl_forget rfl rfl hR, hts _ (hsub _ s_Fl_forget), hts _ (hsub _ e_Fl_forget)⟩

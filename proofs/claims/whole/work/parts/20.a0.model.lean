/-! names of 20.model -/
def y_Mo_thrown : MethodName := ⟨"FrameVerifierModel", "thrown", "()I"⟩
abbrev b_Mo_thrown : ByteArray := prog_11_method_2_code
def rm_Mo_thrown : Room := { frames := 0, cells := 0, slots := 0, locals := 0 }
abbrev w_Mo_thrown : List Cond := Cond.code y_Mo_thrown b_Mo_thrown 1 (some .int) :: wG
theorem m_Mo_thrown : Cond.code y_Mo_thrown b_Mo_thrown 1 (some .int) ∈ wG := wg_t 826 (by decide +kernel) (by decide +kernel)
theorem q_Mo_thrown : y_Mo_thrown.cls ≠ "java/lang/invoke/MethodHandle" ∧ y_Mo_thrown.cls ≠ "java/lang/invoke/VarHandle" ∧ (parseMethodDescriptor y_Mo_thrown.desc).map (fun d => d.parameters.length) = some 0 := by decide +kernel
theorem g_Mo_thrown : Cond.initialized y_Mo_thrown.cls ∈ wG := wg_t 6 (by decide +kernel) (by decide +kernel)
theorem s_Mo_thrown : Cond.instanceMethod y_Mo_thrown ∈ wG := wg_t 824 (by decide +kernel) (by decide +kernel)
theorem e_Mo_thrown : Cond.selects "FrameVerifierModel" y_Mo_thrown y_Mo_thrown ∈ wG := wg_t 825 (by decide +kernel) (by decide +kernel)
theorem d_Mo_thrown_0 : decode b_Mo_thrown 0 = .ok (.aload_n 0, 1) := by decide +kernel
theorem d_Mo_thrown_1 : decode b_Mo_thrown 1 = .ok (.getfield 59, 3) := by decide +kernel
theorem d_Mo_thrown_4 : decode b_Mo_thrown 4 = .ok (.ireturn, 1) := by decide +kernel
def y_Mo_add : MethodName := ⟨"FrameVerifierModel", "add", "(II)I"⟩
abbrev b_Mo_add : ByteArray := prog_11_method_3_code
def rm_Mo_add : Room := { frames := 0, cells := 0, slots := 0, locals := 0 }
abbrev w_Mo_add : List Cond := Cond.code y_Mo_add b_Mo_add 3 (some .int) :: wG
theorem m_Mo_add : Cond.code y_Mo_add b_Mo_add 3 (some .int) ∈ wG := wg_t 830 (by decide +kernel) (by decide +kernel)
theorem q_Mo_add : y_Mo_add.cls ≠ "java/lang/invoke/MethodHandle" ∧ y_Mo_add.cls ≠ "java/lang/invoke/VarHandle" ∧ (parseMethodDescriptor y_Mo_add.desc).map (fun d => d.parameters.length) = some 2 := by decide +kernel
theorem g_Mo_add : Cond.initialized y_Mo_add.cls ∈ wG := wg_t 6 (by decide +kernel) (by decide +kernel)
theorem s_Mo_add : Cond.instanceMethod y_Mo_add ∈ wG := wg_t 828 (by decide +kernel) (by decide +kernel)
theorem e_Mo_add : Cond.selects "FrameVerifierModel" y_Mo_add y_Mo_add ∈ wG := wg_t 829 (by decide +kernel) (by decide +kernel)
theorem d_Mo_add_0 : decode b_Mo_add 0 = .ok (.aload_n 0, 1) := by decide +kernel
theorem d_Mo_add_1 : decode b_Mo_add 1 = .ok (.aload_n 0, 1) := by decide +kernel
theorem d_Mo_add_2 : decode b_Mo_add 2 = .ok (.getfield 63, 3) := by decide +kernel
theorem d_Mo_add_5 : decode b_Mo_add 5 = .ok (.bipush (100), 2) := by decide +kernel
theorem d_Mo_add_7 : decode b_Mo_add 7 = .ok (.if_icmp .ne (7), 3) := by decide +kernel
theorem d_Mo_add_10 : decode b_Mo_add 10 = .ok (.iconst 1, 1) := by decide +kernel
theorem d_Mo_add_11 : decode b_Mo_add 11 = .ok (.goto (4), 3) := by decide +kernel
theorem d_Mo_add_14 : decode b_Mo_add 14 = .ok (.iconst 0, 1) := by decide +kernel
theorem d_Mo_add_15 : decode b_Mo_add 15 = .ok (.putfield 59, 3) := by decide +kernel
theorem d_Mo_add_18 : decode b_Mo_add 18 = .ok (.aload_n 0, 1) := by decide +kernel
theorem d_Mo_add_19 : decode b_Mo_add 19 = .ok (.getfield 59, 3) := by decide +kernel
theorem d_Mo_add_22 : decode b_Mo_add 22 = .ok (.ifCond .eq (5), 3) := by decide +kernel
theorem d_Mo_add_25 : decode b_Mo_add 25 = .ok (.iconst 0, 1) := by decide +kernel
theorem d_Mo_add_26 : decode b_Mo_add 26 = .ok (.ireturn, 1) := by decide +kernel
theorem d_Mo_add_27 : decode b_Mo_add 27 = .ok (.aload_n 0, 1) := by decide +kernel
theorem d_Mo_add_28 : decode b_Mo_add 28 = .ok (.getfield 7, 3) := by decide +kernel
theorem d_Mo_add_31 : decode b_Mo_add 31 = .ok (.aload_n 0, 1) := by decide +kernel
theorem d_Mo_add_32 : decode b_Mo_add 32 = .ok (.getfield 63, 3) := by decide +kernel
theorem d_Mo_add_35 : decode b_Mo_add 35 = .ok (.iload_n 1, 1) := by decide +kernel
theorem d_Mo_add_36 : decode b_Mo_add 36 = .ok (.iastore, 1) := by decide +kernel
theorem d_Mo_add_37 : decode b_Mo_add 37 = .ok (.aload_n 0, 1) := by decide +kernel
theorem d_Mo_add_38 : decode b_Mo_add 38 = .ok (.getfield 13, 3) := by decide +kernel
theorem d_Mo_add_41 : decode b_Mo_add 41 = .ok (.aload_n 0, 1) := by decide +kernel
theorem d_Mo_add_42 : decode b_Mo_add 42 = .ok (.getfield 63, 3) := by decide +kernel
theorem d_Mo_add_45 : decode b_Mo_add 45 = .ok (.iload_n 2, 1) := by decide +kernel
theorem d_Mo_add_46 : decode b_Mo_add 46 = .ok (.iastore, 1) := by decide +kernel
theorem d_Mo_add_47 : decode b_Mo_add 47 = .ok (.aload_n 0, 1) := by decide +kernel
theorem d_Mo_add_48 : decode b_Mo_add 48 = .ok (.dup, 1) := by decide +kernel
theorem d_Mo_add_49 : decode b_Mo_add 49 = .ok (.getfield 63, 3) := by decide +kernel
theorem d_Mo_add_52 : decode b_Mo_add 52 = .ok (.iconst 1, 1) := by decide +kernel
theorem d_Mo_add_53 : decode b_Mo_add 53 = .ok (.iadd, 1) := by decide +kernel
theorem d_Mo_add_54 : decode b_Mo_add 54 = .ok (.putfield 63, 3) := by decide +kernel
theorem d_Mo_add_57 : decode b_Mo_add 57 = .ok (.aload_n 0, 1) := by decide +kernel
theorem d_Mo_add_58 : decode b_Mo_add 58 = .ok (.iconst 0, 1) := by decide +kernel
theorem d_Mo_add_59 : decode b_Mo_add 59 = .ok (.putfield 66, 3) := by decide +kernel
theorem d_Mo_add_62 : decode b_Mo_add 62 = .ok (.aload_n 0, 1) := by decide +kernel
theorem d_Mo_add_63 : decode b_Mo_add 63 = .ok (.getfield 63, 3) := by decide +kernel
theorem d_Mo_add_66 : decode b_Mo_add 66 = .ok (.iconst 1, 1) := by decide +kernel
theorem d_Mo_add_67 : decode b_Mo_add 67 = .ok (.isub, 1) := by decide +kernel
theorem d_Mo_add_68 : decode b_Mo_add 68 = .ok (.ireturn, 1) := by decide +kernel
def y_Mo_routine : MethodName := ⟨"FrameVerifierModel", "routine", "(IIII)Z"⟩
abbrev b_Mo_routine : ByteArray := prog_11_method_4_code
def rm_Mo_routine : Room := { frames := 0, cells := 0, slots := 0, locals := 0 }
abbrev w_Mo_routine : List Cond := Cond.code y_Mo_routine b_Mo_routine 5 (some .boolean) :: wG
theorem m_Mo_routine : Cond.code y_Mo_routine b_Mo_routine 5 (some .boolean) ∈ wG := wg_t 834 (by decide +kernel) (by decide +kernel)
theorem q_Mo_routine : y_Mo_routine.cls ≠ "java/lang/invoke/MethodHandle" ∧ y_Mo_routine.cls ≠ "java/lang/invoke/VarHandle" ∧ (parseMethodDescriptor y_Mo_routine.desc).map (fun d => d.parameters.length) = some 4 := by decide +kernel
theorem g_Mo_routine : Cond.initialized y_Mo_routine.cls ∈ wG := wg_t 6 (by decide +kernel) (by decide +kernel)
theorem s_Mo_routine : Cond.instanceMethod y_Mo_routine ∈ wG := wg_t 832 (by decide +kernel) (by decide +kernel)
theorem e_Mo_routine : Cond.selects "FrameVerifierModel" y_Mo_routine y_Mo_routine ∈ wG := wg_t 833 (by decide +kernel) (by decide +kernel)
theorem d_Mo_routine_0 : decode b_Mo_routine 0 = .ok (.aload_n 0, 1) := by decide +kernel
theorem d_Mo_routine_1 : decode b_Mo_routine 1 = .ok (.iconst 0, 1) := by decide +kernel
theorem d_Mo_routine_2 : decode b_Mo_routine 2 = .ok (.putfield 59, 3) := by decide +kernel
theorem d_Mo_routine_5 : decode b_Mo_routine 5 = .ok (.iload_n 1, 1) := by decide +kernel
theorem d_Mo_routine_6 : decode b_Mo_routine 6 = .ok (.ifCond .lt (29), 3) := by decide +kernel
theorem d_Mo_routine_9 : decode b_Mo_routine 9 = .ok (.iload_n 1, 1) := by decide +kernel
theorem d_Mo_routine_10 : decode b_Mo_routine 10 = .ok (.iconst 3, 1) := by decide +kernel
theorem d_Mo_routine_11 : decode b_Mo_routine 11 = .ok (.if_icmp .gt (24), 3) := by decide +kernel
theorem d_Mo_routine_14 : decode b_Mo_routine 14 = .ok (.iload_n 3, 1) := by decide +kernel
theorem d_Mo_routine_15 : decode b_Mo_routine 15 = .ok (.ifCond .lt (20), 3) := by decide +kernel
theorem d_Mo_routine_18 : decode b_Mo_routine 18 = .ok (.iload_n 3, 1) := by decide +kernel
theorem d_Mo_routine_19 : decode b_Mo_routine 19 = .ok (.iconst 3, 1) := by decide +kernel
theorem d_Mo_routine_20 : decode b_Mo_routine 20 = .ok (.if_icmp .gt (15), 3) := by decide +kernel
theorem d_Mo_routine_23 : decode b_Mo_routine 23 = .ok (.iload 4, 2) := by decide +kernel
theorem d_Mo_routine_25 : decode b_Mo_routine 25 = .ok (.ifCond .lt (10), 3) := by decide +kernel
theorem d_Mo_routine_28 : decode b_Mo_routine 28 = .ok (.iload 4, 2) := by decide +kernel
theorem d_Mo_routine_30 : decode b_Mo_routine 30 = .ok (.bipush (15), 2) := by decide +kernel
theorem d_Mo_routine_32 : decode b_Mo_routine 32 = .ok (.if_icmp .le (5), 3) := by decide +kernel
theorem d_Mo_routine_35 : decode b_Mo_routine 35 = .ok (.iconst 0, 1) := by decide +kernel
theorem d_Mo_routine_36 : decode b_Mo_routine 36 = .ok (.ireturn, 1) := by decide +kernel
theorem d_Mo_routine_37 : decode b_Mo_routine 37 = .ok (.aload_n 0, 1) := by decide +kernel
theorem d_Mo_routine_38 : decode b_Mo_routine 38 = .ok (.getfield 16, 3) := by decide +kernel
theorem d_Mo_routine_41 : decode b_Mo_routine 41 = .ok (.iload_n 1, 1) := by decide +kernel
theorem d_Mo_routine_42 : decode b_Mo_routine 42 = .ok (.iconst 1, 1) := by decide +kernel
theorem d_Mo_routine_43 : decode b_Mo_routine 43 = .ok (.bastore, 1) := by decide +kernel
theorem d_Mo_routine_44 : decode b_Mo_routine 44 = .ok (.aload_n 0, 1) := by decide +kernel
theorem d_Mo_routine_45 : decode b_Mo_routine 45 = .ok (.getfield 20, 3) := by decide +kernel
theorem d_Mo_routine_48 : decode b_Mo_routine 48 = .ok (.iload_n 1, 1) := by decide +kernel
theorem d_Mo_routine_49 : decode b_Mo_routine 49 = .ok (.iload_n 2, 1) := by decide +kernel
theorem d_Mo_routine_50 : decode b_Mo_routine 50 = .ok (.iastore, 1) := by decide +kernel
theorem d_Mo_routine_51 : decode b_Mo_routine 51 = .ok (.aload_n 0, 1) := by decide +kernel
theorem d_Mo_routine_52 : decode b_Mo_routine 52 = .ok (.getfield 23, 3) := by decide +kernel
theorem d_Mo_routine_55 : decode b_Mo_routine 55 = .ok (.iload_n 1, 1) := by decide +kernel
theorem d_Mo_routine_56 : decode b_Mo_routine 56 = .ok (.iload_n 3, 1) := by decide +kernel
theorem d_Mo_routine_57 : decode b_Mo_routine 57 = .ok (.iastore, 1) := by decide +kernel
theorem d_Mo_routine_58 : decode b_Mo_routine 58 = .ok (.aload_n 0, 1) := by decide +kernel
theorem d_Mo_routine_59 : decode b_Mo_routine 59 = .ok (.getfield 26, 3) := by decide +kernel
theorem d_Mo_routine_62 : decode b_Mo_routine 62 = .ok (.iload_n 1, 1) := by decide +kernel
theorem d_Mo_routine_63 : decode b_Mo_routine 63 = .ok (.iload 4, 2) := by decide +kernel
theorem d_Mo_routine_65 : decode b_Mo_routine 65 = .ok (.iastore, 1) := by decide +kernel
theorem d_Mo_routine_66 : decode b_Mo_routine 66 = .ok (.aload_n 0, 1) := by decide +kernel
theorem d_Mo_routine_67 : decode b_Mo_routine 67 = .ok (.iconst 0, 1) := by decide +kernel
theorem d_Mo_routine_68 : decode b_Mo_routine 68 = .ok (.putfield 66, 3) := by decide +kernel
theorem d_Mo_routine_71 : decode b_Mo_routine 71 = .ok (.iconst 1, 1) := by decide +kernel
theorem d_Mo_routine_72 : decode b_Mo_routine 72 = .ok (.ireturn, 1) := by decide +kernel
def y_Mo_kindOf : MethodName := ⟨"FrameVerifierModel", "kindOf", "(II)I"⟩
abbrev b_Mo_kindOf : ByteArray := prog_11_method_5_code
def rm_Mo_kindOf : Room := { frames := 0, cells := 0, slots := 0, locals := 0 }
abbrev w_Mo_kindOf : List Cond := Cond.code y_Mo_kindOf b_Mo_kindOf 3 (some .int) :: wG
theorem m_Mo_kindOf : Cond.code y_Mo_kindOf b_Mo_kindOf 3 (some .int) ∈ wG := wg_t 850 (by decide +kernel) (by decide +kernel)
theorem q_Mo_kindOf : y_Mo_kindOf.cls ≠ "java/lang/invoke/MethodHandle" ∧ y_Mo_kindOf.cls ≠ "java/lang/invoke/VarHandle" ∧ (parseMethodDescriptor y_Mo_kindOf.desc).map (fun d => d.parameters.length) = some 2 := by decide +kernel
theorem g_Mo_kindOf : Cond.initialized y_Mo_kindOf.cls ∈ wG := wg_t 6 (by decide +kernel) (by decide +kernel)
theorem s_Mo_kindOf : Cond.instanceMethod y_Mo_kindOf ∈ wG := wg_t 849 (by decide +kernel) (by decide +kernel)
theorem e_Mo_kindOf : Cond.selects "FrameVerifierModel" y_Mo_kindOf y_Mo_kindOf ∈ wG := wg_s (q := (y_Mo_kindOf, 27)) 23 (by decide +kernel) (by decide +kernel)
theorem d_Mo_kindOf_0 : decode b_Mo_kindOf 0 = .ok (.aload_n 0, 1) := by decide +kernel
theorem d_Mo_kindOf_1 : decode b_Mo_kindOf 1 = .ok (.getfield 26, 3) := by decide +kernel
theorem d_Mo_kindOf_4 : decode b_Mo_kindOf 4 = .ok (.iload_n 1, 1) := by decide +kernel
theorem d_Mo_kindOf_5 : decode b_Mo_kindOf 5 = .ok (.iaload, 1) := by decide +kernel
theorem d_Mo_kindOf_6 : decode b_Mo_kindOf 6 = .ok (.iload_n 2, 1) := by decide +kernel
theorem d_Mo_kindOf_7 : decode b_Mo_kindOf 7 = .ok (.ishr, 1) := by decide +kernel
theorem d_Mo_kindOf_8 : decode b_Mo_kindOf 8 = .ok (.iconst 1, 1) := by decide +kernel
theorem d_Mo_kindOf_9 : decode b_Mo_kindOf 9 = .ok (.iand, 1) := by decide +kernel
theorem d_Mo_kindOf_10 : decode b_Mo_kindOf 10 = .ok (.iconst 1, 1) := by decide +kernel
theorem d_Mo_kindOf_11 : decode b_Mo_kindOf 11 = .ok (.if_icmp .ne (7), 3) := by decide +kernel
theorem d_Mo_kindOf_14 : decode b_Mo_kindOf 14 = .ok (.iconst 2, 1) := by decide +kernel
theorem d_Mo_kindOf_15 : decode b_Mo_kindOf 15 = .ok (.goto (4), 3) := by decide +kernel
theorem d_Mo_kindOf_18 : decode b_Mo_kindOf 18 = .ok (.iconst 1, 1) := by decide +kernel
theorem d_Mo_kindOf_19 : decode b_Mo_kindOf 19 = .ok (.ireturn, 1) := by decide +kernel
def y_Mo_isAddress : MethodName := ⟨"FrameVerifierModel", "isAddress", "(I)Z"⟩
abbrev b_Mo_isAddress : ByteArray := prog_11_method_6_code
def rm_Mo_isAddress : Room := { frames := 0, cells := 0, slots := 0, locals := 0 }
abbrev w_Mo_isAddress : List Cond := Cond.code y_Mo_isAddress b_Mo_isAddress 2 (some .boolean) :: wG
theorem m_Mo_isAddress : Cond.code y_Mo_isAddress b_Mo_isAddress 2 (some .boolean) ∈ wG := wg_t 846 (by decide +kernel) (by decide +kernel)
theorem q_Mo_isAddress : y_Mo_isAddress.cls ≠ "java/lang/invoke/MethodHandle" ∧ y_Mo_isAddress.cls ≠ "java/lang/invoke/VarHandle" ∧ (parseMethodDescriptor y_Mo_isAddress.desc).map (fun d => d.parameters.length) = some 1 := by decide +kernel
theorem g_Mo_isAddress : Cond.initialized y_Mo_isAddress.cls ∈ wG := wg_t 6 (by decide +kernel) (by decide +kernel)
theorem s_Mo_isAddress : Cond.instanceMethod y_Mo_isAddress ∈ wG := wg_t 845 (by decide +kernel) (by decide +kernel)
theorem e_Mo_isAddress : Cond.selects "FrameVerifierModel" y_Mo_isAddress y_Mo_isAddress ∈ wG := wg_s (q := (y_Mo_isAddress, 27)) 22 (by decide +kernel) (by decide +kernel)
theorem d_Mo_isAddress_0 : decode b_Mo_isAddress 0 = .ok (.iload_n 1, 1) := by decide +kernel
theorem d_Mo_isAddress_1 : decode b_Mo_isAddress 1 = .ok (.ifCond .lt (15), 3) := by decide +kernel
theorem d_Mo_isAddress_4 : decode b_Mo_isAddress 4 = .ok (.iload_n 1, 1) := by decide +kernel
theorem d_Mo_isAddress_5 : decode b_Mo_isAddress 5 = .ok (.aload_n 0, 1) := by decide +kernel
theorem d_Mo_isAddress_6 : decode b_Mo_isAddress 6 = .ok (.getfield 63, 3) := by decide +kernel
theorem d_Mo_isAddress_9 : decode b_Mo_isAddress 9 = .ok (.if_icmp .ge (7), 3) := by decide +kernel
theorem d_Mo_isAddress_12 : decode b_Mo_isAddress 12 = .ok (.iconst 1, 1) := by decide +kernel
theorem d_Mo_isAddress_13 : decode b_Mo_isAddress 13 = .ok (.goto (4), 3) := by decide +kernel
theorem d_Mo_isAddress_16 : decode b_Mo_isAddress 16 = .ok (.iconst 0, 1) := by decide +kernel
theorem d_Mo_isAddress_17 : decode b_Mo_isAddress 17 = .ok (.ireturn, 1) := by decide +kernel
def y_Mo_take : MethodName := ⟨"FrameVerifierModel", "take", "(I)I"⟩
abbrev b_Mo_take : ByteArray := prog_11_method_7_code
def rm_Mo_take : Room := { frames := 0, cells := 0, slots := 0, locals := 0 }
abbrev w_Mo_take : List Cond := Cond.code y_Mo_take b_Mo_take 2 (some .int) :: wG
theorem m_Mo_take : Cond.code y_Mo_take b_Mo_take 2 (some .int) ∈ wG := wg_t 866 (by decide +kernel) (by decide +kernel)
theorem q_Mo_take : y_Mo_take.cls ≠ "java/lang/invoke/MethodHandle" ∧ y_Mo_take.cls ≠ "java/lang/invoke/VarHandle" ∧ (parseMethodDescriptor y_Mo_take.desc).map (fun d => d.parameters.length) = some 1 := by decide +kernel
theorem g_Mo_take : Cond.initialized y_Mo_take.cls ∈ wG := wg_t 6 (by decide +kernel) (by decide +kernel)
theorem s_Mo_take : Cond.instanceMethod y_Mo_take ∈ wG := wg_t 865 (by decide +kernel) (by decide +kernel)
theorem e_Mo_take : Cond.selects "FrameVerifierModel" y_Mo_take y_Mo_take ∈ wG := wg_s (q := (y_Mo_take, 27)) 27 (by decide +kernel) (by decide +kernel)
theorem d_Mo_take_0 : decode b_Mo_take 0 = .ok (.aload_n 0, 1) := by decide +kernel
theorem d_Mo_take_1 : decode b_Mo_take 1 = .ok (.getfield 70, 3) := by decide +kernel
theorem d_Mo_take_4 : decode b_Mo_take 4 = .ok (.ifCond .ne (10), 3) := by decide +kernel
theorem d_Mo_take_7 : decode b_Mo_take 7 = .ok (.aload_n 0, 1) := by decide +kernel
theorem d_Mo_take_8 : decode b_Mo_take 8 = .ok (.iconst 1, 1) := by decide +kernel
theorem d_Mo_take_9 : decode b_Mo_take 9 = .ok (.putfield 73, 3) := by decide +kernel
theorem d_Mo_take_12 : decode b_Mo_take 12 = .ok (.iconst 3, 1) := by decide +kernel
theorem d_Mo_take_13 : decode b_Mo_take 13 = .ok (.ireturn, 1) := by decide +kernel
theorem d_Mo_take_14 : decode b_Mo_take 14 = .ok (.aload_n 0, 1) := by decide +kernel
theorem d_Mo_take_15 : decode b_Mo_take 15 = .ok (.dup, 1) := by decide +kernel
theorem d_Mo_take_16 : decode b_Mo_take 16 = .ok (.getfield 70, 3) := by decide +kernel
theorem d_Mo_take_19 : decode b_Mo_take 19 = .ok (.iconst 1, 1) := by decide +kernel
theorem d_Mo_take_20 : decode b_Mo_take 20 = .ok (.isub, 1) := by decide +kernel
theorem d_Mo_take_21 : decode b_Mo_take 21 = .ok (.putfield 70, 3) := by decide +kernel
theorem d_Mo_take_24 : decode b_Mo_take 24 = .ok (.aload_n 0, 1) := by decide +kernel
theorem d_Mo_take_25 : decode b_Mo_take 25 = .ok (.aload_n 0, 1) := by decide +kernel
theorem d_Mo_take_26 : decode b_Mo_take 26 = .ok (.getfield 73, 3) := by decide +kernel
theorem d_Mo_take_29 : decode b_Mo_take 29 = .ok (.ifCond .ne (24), 3) := by decide +kernel
theorem d_Mo_take_32 : decode b_Mo_take 32 = .ok (.iload_n 1, 1) := by decide +kernel
theorem d_Mo_take_33 : decode b_Mo_take 33 = .ok (.iconst 3, 1) := by decide +kernel
theorem d_Mo_take_34 : decode b_Mo_take 34 = .ok (.if_icmp .eq (23), 3) := by decide +kernel
theorem d_Mo_take_37 : decode b_Mo_take 37 = .ok (.aload_n 0, 1) := by decide +kernel
theorem d_Mo_take_38 : decode b_Mo_take 38 = .ok (.getfield 38, 3) := by decide +kernel
theorem d_Mo_take_41 : decode b_Mo_take 41 = .ok (.bipush (6), 2) := by decide +kernel
theorem d_Mo_take_43 : decode b_Mo_take 43 = .ok (.aload_n 0, 1) := by decide +kernel
theorem d_Mo_take_44 : decode b_Mo_take 44 = .ok (.getfield 70, 3) := by decide +kernel
theorem d_Mo_take_47 : decode b_Mo_take 47 = .ok (.iadd, 1) := by decide +kernel
theorem d_Mo_take_48 : decode b_Mo_take 48 = .ok (.iaload, 1) := by decide +kernel
theorem d_Mo_take_49 : decode b_Mo_take 49 = .ok (.iload_n 1, 1) := by decide +kernel
theorem d_Mo_take_50 : decode b_Mo_take 50 = .ok (.if_icmp .eq (7), 3) := by decide +kernel
theorem d_Mo_take_53 : decode b_Mo_take 53 = .ok (.iconst 1, 1) := by decide +kernel
theorem d_Mo_take_54 : decode b_Mo_take 54 = .ok (.goto (4), 3) := by decide +kernel
theorem d_Mo_take_57 : decode b_Mo_take 57 = .ok (.iconst 0, 1) := by decide +kernel
theorem d_Mo_take_58 : decode b_Mo_take 58 = .ok (.putfield 73, 3) := by decide +kernel
theorem d_Mo_take_61 : decode b_Mo_take 61 = .ok (.aload_n 0, 1) := by decide +kernel
theorem d_Mo_take_62 : decode b_Mo_take 62 = .ok (.getfield 38, 3) := by decide +kernel
theorem d_Mo_take_65 : decode b_Mo_take 65 = .ok (.bipush (6), 2) := by decide +kernel
theorem d_Mo_take_67 : decode b_Mo_take 67 = .ok (.aload_n 0, 1) := by decide +kernel
theorem d_Mo_take_68 : decode b_Mo_take 68 = .ok (.getfield 70, 3) := by decide +kernel
theorem d_Mo_take_71 : decode b_Mo_take 71 = .ok (.iadd, 1) := by decide +kernel
theorem d_Mo_take_72 : decode b_Mo_take 72 = .ok (.iaload, 1) := by decide +kernel
theorem d_Mo_take_73 : decode b_Mo_take 73 = .ok (.ireturn, 1) := by decide +kernel
def y_Mo_give : MethodName := ⟨"FrameVerifierModel", "give", "(I)V"⟩
abbrev b_Mo_give : ByteArray := prog_11_method_8_code
def rm_Mo_give : Room := { frames := 0, cells := 0, slots := 0, locals := 0 }
abbrev w_Mo_give : List Cond := Cond.code y_Mo_give b_Mo_give 2 none :: wG
theorem m_Mo_give : Cond.code y_Mo_give b_Mo_give 2 none ∈ wG := wg_t 870 (by decide +kernel) (by decide +kernel)
theorem q_Mo_give : y_Mo_give.cls ≠ "java/lang/invoke/MethodHandle" ∧ y_Mo_give.cls ≠ "java/lang/invoke/VarHandle" ∧ (parseMethodDescriptor y_Mo_give.desc).map (fun d => d.parameters.length) = some 1 := by decide +kernel
theorem g_Mo_give : Cond.initialized y_Mo_give.cls ∈ wG := wg_t 6 (by decide +kernel) (by decide +kernel)
theorem s_Mo_give : Cond.instanceMethod y_Mo_give ∈ wG := wg_t 869 (by decide +kernel) (by decide +kernel)
theorem e_Mo_give : Cond.selects "FrameVerifierModel" y_Mo_give y_Mo_give ∈ wG := wg_s (q := (y_Mo_give, 27)) 28 (by decide +kernel) (by decide +kernel)
theorem d_Mo_give_0 : decode b_Mo_give 0 = .ok (.aload_n 0, 1) := by decide +kernel
theorem d_Mo_give_1 : decode b_Mo_give 1 = .ok (.getfield 70, 3) := by decide +kernel
theorem d_Mo_give_4 : decode b_Mo_give 4 = .ok (.bipush (6), 2) := by decide +kernel
theorem d_Mo_give_6 : decode b_Mo_give 6 = .ok (.if_icmp .ne (9), 3) := by decide +kernel
theorem d_Mo_give_9 : decode b_Mo_give 9 = .ok (.aload_n 0, 1) := by decide +kernel
theorem d_Mo_give_10 : decode b_Mo_give 10 = .ok (.iconst 1, 1) := by decide +kernel
theorem d_Mo_give_11 : decode b_Mo_give 11 = .ok (.putfield 73, 3) := by decide +kernel
theorem d_Mo_give_14 : decode b_Mo_give 14 = .ok (.return_, 1) := by decide +kernel
theorem d_Mo_give_15 : decode b_Mo_give 15 = .ok (.aload_n 0, 1) := by decide +kernel
theorem d_Mo_give_16 : decode b_Mo_give 16 = .ok (.getfield 38, 3) := by decide +kernel
theorem d_Mo_give_19 : decode b_Mo_give 19 = .ok (.bipush (6), 2) := by decide +kernel
theorem d_Mo_give_21 : decode b_Mo_give 21 = .ok (.aload_n 0, 1) := by decide +kernel
theorem d_Mo_give_22 : decode b_Mo_give 22 = .ok (.getfield 70, 3) := by decide +kernel
theorem d_Mo_give_25 : decode b_Mo_give 25 = .ok (.iadd, 1) := by decide +kernel
theorem d_Mo_give_26 : decode b_Mo_give 26 = .ok (.iload_n 1, 1) := by decide +kernel
theorem d_Mo_give_27 : decode b_Mo_give 27 = .ok (.iastore, 1) := by decide +kernel
theorem d_Mo_give_28 : decode b_Mo_give 28 = .ok (.aload_n 0, 1) := by decide +kernel
theorem d_Mo_give_29 : decode b_Mo_give 29 = .ok (.dup, 1) := by decide +kernel
theorem d_Mo_give_30 : decode b_Mo_give 30 = .ok (.getfield 70, 3) := by decide +kernel
theorem d_Mo_give_33 : decode b_Mo_give 33 = .ok (.iconst 1, 1) := by decide +kernel
theorem d_Mo_give_34 : decode b_Mo_give 34 = .ok (.iadd, 1) := by decide +kernel
theorem d_Mo_give_35 : decode b_Mo_give 35 = .ok (.putfield 70, 3) := by decide +kernel
theorem d_Mo_give_38 : decode b_Mo_give 38 = .ok (.return_, 1) := by decide +kernel
def y_Mo_goTo : MethodName := ⟨"FrameVerifierModel", "goTo", "(I)V"⟩
abbrev b_Mo_goTo : ByteArray := prog_11_method_9_code
def rm_Mo_goTo : Room := { frames := 1, cells := 0, slots := 0, locals := 21 }
abbrev w_Mo_goTo : List Cond := Cond.code y_Mo_goTo b_Mo_goTo 2 none :: wG
theorem m_Mo_goTo : Cond.code y_Mo_goTo b_Mo_goTo 2 none ∈ wG := wg_t 882 (by decide +kernel) (by decide +kernel)
theorem q_Mo_goTo : y_Mo_goTo.cls ≠ "java/lang/invoke/MethodHandle" ∧ y_Mo_goTo.cls ≠ "java/lang/invoke/VarHandle" ∧ (parseMethodDescriptor y_Mo_goTo.desc).map (fun d => d.parameters.length) = some 1 := by decide +kernel
theorem g_Mo_goTo : Cond.initialized y_Mo_goTo.cls ∈ wG := wg_t 6 (by decide +kernel) (by decide +kernel)
theorem s_Mo_goTo : Cond.instanceMethod y_Mo_goTo ∈ wG := wg_t 881 (by decide +kernel) (by decide +kernel)
theorem e_Mo_goTo : Cond.selects "FrameVerifierModel" y_Mo_goTo y_Mo_goTo ∈ wG := wg_s (q := (y_Mo_goTo, 27)) 31 (by decide +kernel) (by decide +kernel)
theorem d_Mo_goTo_0 : decode b_Mo_goTo 0 = .ok (.aload_n 0, 1) := by decide +kernel
theorem d_Mo_goTo_1 : decode b_Mo_goTo 1 = .ok (.aload_n 0, 1) := by decide +kernel
theorem d_Mo_goTo_2 : decode b_Mo_goTo 2 = .ok (.getfield 73, 3) := by decide +kernel
theorem d_Mo_goTo_5 : decode b_Mo_goTo 5 = .ok (.ifCond .ne (11), 3) := by decide +kernel
theorem d_Mo_goTo_8 : decode b_Mo_goTo 8 = .ok (.aload_n 0, 1) := by decide +kernel
theorem d_Mo_goTo_9 : decode b_Mo_goTo 9 = .ok (.iload_n 1, 1) := by decide +kernel
theorem d_Mo_goTo_10 : decode b_Mo_goTo 10 = .ok (.invokevirtual 76, 3) := by decide +kernel
theorem d_Mo_goTo_13 : decode b_Mo_goTo 13 = .ok (.ifCond .ne (7), 3) := by decide +kernel
theorem d_Mo_goTo_16 : decode b_Mo_goTo 16 = .ok (.iconst 1, 1) := by decide +kernel
theorem d_Mo_goTo_17 : decode b_Mo_goTo 17 = .ok (.goto (4), 3) := by decide +kernel
theorem d_Mo_goTo_20 : decode b_Mo_goTo 20 = .ok (.iconst 0, 1) := by decide +kernel
theorem d_Mo_goTo_21 : decode b_Mo_goTo 21 = .ok (.putfield 73, 3) := by decide +kernel
theorem d_Mo_goTo_24 : decode b_Mo_goTo 24 = .ok (.aload_n 0, 1) := by decide +kernel
theorem d_Mo_goTo_25 : decode b_Mo_goTo 25 = .ok (.iload_n 1, 1) := by decide +kernel
theorem d_Mo_goTo_26 : decode b_Mo_goTo 26 = .ok (.putfield 80, 3) := by decide +kernel
theorem d_Mo_goTo_29 : decode b_Mo_goTo 29 = .ok (.return_, 1) := by decide +kernel
def y_Mo_tryLocal : MethodName := ⟨"FrameVerifierModel", "tryLocal", "(II)V"⟩
abbrev b_Mo_tryLocal : ByteArray := prog_11_method_11_code
def rm_Mo_tryLocal : Room := { frames := 1, cells := 0, slots := 0, locals := 21 }
abbrev w_Mo_tryLocal : List Cond := Cond.code y_Mo_tryLocal b_Mo_tryLocal 3 none :: wG
theorem m_Mo_tryLocal : Cond.code y_Mo_tryLocal b_Mo_tryLocal 3 none ∈ wG := wg_t 874 (by decide +kernel) (by decide +kernel)
theorem q_Mo_tryLocal : y_Mo_tryLocal.cls ≠ "java/lang/invoke/MethodHandle" ∧ y_Mo_tryLocal.cls ≠ "java/lang/invoke/VarHandle" ∧ (parseMethodDescriptor y_Mo_tryLocal.desc).map (fun d => d.parameters.length) = some 2 := by decide +kernel
theorem g_Mo_tryLocal : Cond.initialized y_Mo_tryLocal.cls ∈ wG := wg_t 6 (by decide +kernel) (by decide +kernel)
theorem s_Mo_tryLocal : Cond.instanceMethod y_Mo_tryLocal ∈ wG := wg_t 873 (by decide +kernel) (by decide +kernel)
theorem e_Mo_tryLocal : Cond.selects "FrameVerifierModel" y_Mo_tryLocal y_Mo_tryLocal ∈ wG := wg_s (q := (y_Mo_tryLocal, 27)) 29 (by decide +kernel) (by decide +kernel)
theorem d_Mo_tryLocal_0 : decode b_Mo_tryLocal 0 = .ok (.iload_n 2, 1) := by decide +kernel
theorem d_Mo_tryLocal_1 : decode b_Mo_tryLocal 1 = .ok (.ifCond .lt (8), 3) := by decide +kernel
theorem d_Mo_tryLocal_4 : decode b_Mo_tryLocal 4 = .ok (.iload_n 2, 1) := by decide +kernel
theorem d_Mo_tryLocal_5 : decode b_Mo_tryLocal 5 = .ok (.iconst 5, 1) := by decide +kernel
theorem d_Mo_tryLocal_6 : decode b_Mo_tryLocal 6 = .ok (.if_icmp .le (11), 3) := by decide +kernel
theorem d_Mo_tryLocal_9 : decode b_Mo_tryLocal 9 = .ok (.aload_n 0, 1) := by decide +kernel
theorem d_Mo_tryLocal_10 : decode b_Mo_tryLocal 10 = .ok (.iconst 1, 1) := by decide +kernel
theorem d_Mo_tryLocal_11 : decode b_Mo_tryLocal 11 = .ok (.putfield 73, 3) := by decide +kernel
theorem d_Mo_tryLocal_14 : decode b_Mo_tryLocal 14 = .ok (.goto (62), 3) := by decide +kernel
theorem d_Mo_tryLocal_17 : decode b_Mo_tryLocal 17 = .ok (.iload_n 1, 1) := by decide +kernel
theorem d_Mo_tryLocal_18 : decode b_Mo_tryLocal 18 = .ok (.bipush (6), 2) := by decide +kernel
theorem d_Mo_tryLocal_20 : decode b_Mo_tryLocal 20 = .ok (.if_icmp .ne (17), 3) := by decide +kernel
theorem d_Mo_tryLocal_23 : decode b_Mo_tryLocal 23 = .ok (.aload_n 0, 1) := by decide +kernel
theorem d_Mo_tryLocal_24 : decode b_Mo_tryLocal 24 = .ok (.getfield 38, 3) := by decide +kernel
theorem d_Mo_tryLocal_27 : decode b_Mo_tryLocal 27 = .ok (.iload_n 2, 1) := by decide +kernel
theorem d_Mo_tryLocal_28 : decode b_Mo_tryLocal 28 = .ok (.aload_n 0, 1) := by decide +kernel
theorem d_Mo_tryLocal_29 : decode b_Mo_tryLocal 29 = .ok (.iconst 3, 1) := by decide +kernel
theorem d_Mo_tryLocal_30 : decode b_Mo_tryLocal 30 = .ok (.invokevirtual 86, 3) := by decide +kernel
theorem d_Mo_tryLocal_33 : decode b_Mo_tryLocal 33 = .ok (.iastore, 1) := by decide +kernel
theorem d_Mo_tryLocal_34 : decode b_Mo_tryLocal 34 = .ok (.goto (42), 3) := by decide +kernel
theorem d_Mo_tryLocal_37 : decode b_Mo_tryLocal 37 = .ok (.aload_n 0, 1) := by decide +kernel
theorem d_Mo_tryLocal_38 : decode b_Mo_tryLocal 38 = .ok (.aload_n 0, 1) := by decide +kernel
theorem d_Mo_tryLocal_39 : decode b_Mo_tryLocal 39 = .ok (.getfield 38, 3) := by decide +kernel
theorem d_Mo_tryLocal_42 : decode b_Mo_tryLocal 42 = .ok (.iload_n 2, 1) := by decide +kernel
theorem d_Mo_tryLocal_43 : decode b_Mo_tryLocal 43 = .ok (.iaload, 1) := by decide +kernel
theorem d_Mo_tryLocal_44 : decode b_Mo_tryLocal 44 = .ok (.iconst 1, 1) := by decide +kernel
theorem d_Mo_tryLocal_45 : decode b_Mo_tryLocal 45 = .ok (.if_icmp .eq (17), 3) := by decide +kernel
theorem d_Mo_tryLocal_48 : decode b_Mo_tryLocal 48 = .ok (.aload_n 0, 1) := by decide +kernel
theorem d_Mo_tryLocal_49 : decode b_Mo_tryLocal 49 = .ok (.getfield 38, 3) := by decide +kernel
theorem d_Mo_tryLocal_52 : decode b_Mo_tryLocal 52 = .ok (.iload_n 2, 1) := by decide +kernel
theorem d_Mo_tryLocal_53 : decode b_Mo_tryLocal 53 = .ok (.iaload, 1) := by decide +kernel
theorem d_Mo_tryLocal_54 : decode b_Mo_tryLocal 54 = .ok (.iconst 2, 1) := by decide +kernel
theorem d_Mo_tryLocal_55 : decode b_Mo_tryLocal 55 = .ok (.if_icmp .eq (7), 3) := by decide +kernel
theorem d_Mo_tryLocal_58 : decode b_Mo_tryLocal 58 = .ok (.iconst 1, 1) := by decide +kernel
theorem d_Mo_tryLocal_59 : decode b_Mo_tryLocal 59 = .ok (.goto (4), 3) := by decide +kernel
theorem d_Mo_tryLocal_62 : decode b_Mo_tryLocal 62 = .ok (.iconst 0, 1) := by decide +kernel
theorem d_Mo_tryLocal_63 : decode b_Mo_tryLocal 63 = .ok (.putfield 73, 3) := by decide +kernel
theorem d_Mo_tryLocal_66 : decode b_Mo_tryLocal 66 = .ok (.aload_n 0, 1) := by decide +kernel
theorem d_Mo_tryLocal_67 : decode b_Mo_tryLocal 67 = .ok (.aload_n 0, 1) := by decide +kernel
theorem d_Mo_tryLocal_68 : decode b_Mo_tryLocal 68 = .ok (.getfield 38, 3) := by decide +kernel
theorem d_Mo_tryLocal_71 : decode b_Mo_tryLocal 71 = .ok (.iload_n 2, 1) := by decide +kernel
theorem d_Mo_tryLocal_72 : decode b_Mo_tryLocal 72 = .ok (.iaload, 1) := by decide +kernel
theorem d_Mo_tryLocal_73 : decode b_Mo_tryLocal 73 = .ok (.invokevirtual 90, 3) := by decide +kernel
theorem d_Mo_tryLocal_76 : decode b_Mo_tryLocal 76 = .ok (.return_, 1) := by decide +kernel
def y_Mo_tryGo : MethodName := ⟨"FrameVerifierModel", "tryGo", "(II)V"⟩
abbrev b_Mo_tryGo : ByteArray := prog_11_method_12_code
def rm_Mo_tryGo : Room := { frames := 2, cells := 0, slots := 0, locals := 42 }
abbrev w_Mo_tryGo : List Cond := Cond.code y_Mo_tryGo b_Mo_tryGo 4 none :: wG
theorem m_Mo_tryGo : Cond.code y_Mo_tryGo b_Mo_tryGo 4 none ∈ wG := wg_t 878 (by decide +kernel) (by decide +kernel)
theorem q_Mo_tryGo : y_Mo_tryGo.cls ≠ "java/lang/invoke/MethodHandle" ∧ y_Mo_tryGo.cls ≠ "java/lang/invoke/VarHandle" ∧ (parseMethodDescriptor y_Mo_tryGo.desc).map (fun d => d.parameters.length) = some 2 := by decide +kernel
theorem g_Mo_tryGo : Cond.initialized y_Mo_tryGo.cls ∈ wG := wg_t 6 (by decide +kernel) (by decide +kernel)
theorem s_Mo_tryGo : Cond.instanceMethod y_Mo_tryGo ∈ wG := wg_t 877 (by decide +kernel) (by decide +kernel)
theorem e_Mo_tryGo : Cond.selects "FrameVerifierModel" y_Mo_tryGo y_Mo_tryGo ∈ wG := wg_s (q := (y_Mo_tryGo, 27)) 30 (by decide +kernel) (by decide +kernel)
theorem d_Mo_tryGo_0 : decode b_Mo_tryGo 0 = .ok (.iload_n 1, 1) := by decide +kernel
theorem d_Mo_tryGo_1 : decode b_Mo_tryGo 1 = .ok (.bipush (9), 2) := by decide +kernel
theorem d_Mo_tryGo_3 : decode b_Mo_tryGo 3 = .ok (.if_icmp .ne (11), 3) := by decide +kernel
theorem d_Mo_tryGo_6 : decode b_Mo_tryGo 6 = .ok (.aload_n 0, 1) := by decide +kernel
theorem d_Mo_tryGo_7 : decode b_Mo_tryGo 7 = .ok (.iconst 2, 1) := by decide +kernel
theorem d_Mo_tryGo_8 : decode b_Mo_tryGo 8 = .ok (.invokevirtual 90, 3) := by decide +kernel
theorem d_Mo_tryGo_11 : decode b_Mo_tryGo 11 = .ok (.goto (54), 3) := by decide +kernel
theorem d_Mo_tryGo_14 : decode b_Mo_tryGo 14 = .ok (.iload_n 1, 1) := by decide +kernel
theorem d_Mo_tryGo_15 : decode b_Mo_tryGo 15 = .ok (.bipush (11), 2) := by decide +kernel
theorem d_Mo_tryGo_17 : decode b_Mo_tryGo 17 = .ok (.if_icmp .ne (17), 3) := by decide +kernel
theorem d_Mo_tryGo_20 : decode b_Mo_tryGo 20 = .ok (.aload_n 0, 1) := by decide +kernel
theorem d_Mo_tryGo_21 : decode b_Mo_tryGo 21 = .ok (.iconst 1, 1) := by decide +kernel
theorem d_Mo_tryGo_22 : decode b_Mo_tryGo 22 = .ok (.invokevirtual 86, 3) := by decide +kernel
theorem d_Mo_tryGo_25 : decode b_Mo_tryGo 25 = .ok (.istore_n 3, 1) := by decide +kernel
theorem d_Mo_tryGo_26 : decode b_Mo_tryGo 26 = .ok (.aload_n 0, 1) := by decide +kernel
theorem d_Mo_tryGo_27 : decode b_Mo_tryGo 27 = .ok (.iconst 2, 1) := by decide +kernel
theorem d_Mo_tryGo_28 : decode b_Mo_tryGo 28 = .ok (.invokevirtual 90, 3) := by decide +kernel
theorem d_Mo_tryGo_31 : decode b_Mo_tryGo 31 = .ok (.goto (34), 3) := by decide +kernel
theorem d_Mo_tryGo_34 : decode b_Mo_tryGo 34 = .ok (.iload_n 1, 1) := by decide +kernel
theorem d_Mo_tryGo_35 : decode b_Mo_tryGo 35 = .ok (.bipush (7), 2) := by decide +kernel
theorem d_Mo_tryGo_37 : decode b_Mo_tryGo 37 = .ok (.if_icmp .ne (7), 3) := by decide +kernel
theorem d_Mo_tryGo_40 : decode b_Mo_tryGo 40 = .ok (.iconst 3, 1) := by decide +kernel
theorem d_Mo_tryGo_41 : decode b_Mo_tryGo 41 = .ok (.goto (18), 3) := by decide +kernel
theorem d_Mo_tryGo_44 : decode b_Mo_tryGo 44 = .ok (.aload_n 0, 1) := by decide +kernel
theorem d_Mo_tryGo_45 : decode b_Mo_tryGo 45 = .ok (.iload_n 1, 1) := by decide +kernel
theorem d_Mo_tryGo_46 : decode b_Mo_tryGo 46 = .ok (.bipush (8), 2) := by decide +kernel
theorem d_Mo_tryGo_48 : decode b_Mo_tryGo 48 = .ok (.if_icmp .ne (7), 3) := by decide +kernel
theorem d_Mo_tryGo_51 : decode b_Mo_tryGo 51 = .ok (.iconst 1, 1) := by decide +kernel
theorem d_Mo_tryGo_52 : decode b_Mo_tryGo 52 = .ok (.goto (4), 3) := by decide +kernel
theorem d_Mo_tryGo_55 : decode b_Mo_tryGo 55 = .ok (.iconst 2, 1) := by decide +kernel
theorem d_Mo_tryGo_56 : decode b_Mo_tryGo 56 = .ok (.invokevirtual 86, 3) := by decide +kernel
theorem d_Mo_tryGo_59 : decode b_Mo_tryGo 59 = .ok (.istore_n 3, 1) := by decide +kernel
theorem d_Mo_tryGo_60 : decode b_Mo_tryGo 60 = .ok (.aload_n 0, 1) := by decide +kernel
theorem d_Mo_tryGo_61 : decode b_Mo_tryGo 61 = .ok (.iload_n 2, 1) := by decide +kernel
theorem d_Mo_tryGo_62 : decode b_Mo_tryGo 62 = .ok (.invokevirtual 114, 3) := by decide +kernel
theorem d_Mo_tryGo_65 : decode b_Mo_tryGo 65 = .ok (.return_, 1) := by decide +kernel
def y_Mo_tryArray : MethodName := ⟨"FrameVerifierModel", "tryArray", "(I)V"⟩
abbrev b_Mo_tryArray : ByteArray := prog_11_method_13_code
def rm_Mo_tryArray : Room := { frames := 1, cells := 0, slots := 0, locals := 21 }
abbrev w_Mo_tryArray : List Cond := Cond.code y_Mo_tryArray b_Mo_tryArray 5 none :: wG
theorem m_Mo_tryArray : Cond.code y_Mo_tryArray b_Mo_tryArray 5 none ∈ wG := wg_t 886 (by decide +kernel) (by decide +kernel)
theorem q_Mo_tryArray : y_Mo_tryArray.cls ≠ "java/lang/invoke/MethodHandle" ∧ y_Mo_tryArray.cls ≠ "java/lang/invoke/VarHandle" ∧ (parseMethodDescriptor y_Mo_tryArray.desc).map (fun d => d.parameters.length) = some 1 := by decide +kernel
theorem g_Mo_tryArray : Cond.initialized y_Mo_tryArray.cls ∈ wG := wg_t 6 (by decide +kernel) (by decide +kernel)
theorem s_Mo_tryArray : Cond.instanceMethod y_Mo_tryArray ∈ wG := wg_t 885 (by decide +kernel) (by decide +kernel)
theorem e_Mo_tryArray : Cond.selects "FrameVerifierModel" y_Mo_tryArray y_Mo_tryArray ∈ wG := wg_s (q := (y_Mo_tryArray, 27)) 32 (by decide +kernel) (by decide +kernel)
theorem d_Mo_tryArray_0 : decode b_Mo_tryArray 0 = .ok (.iload_n 1, 1) := by decide +kernel
theorem d_Mo_tryArray_1 : decode b_Mo_tryArray 1 = .ok (.bipush (13), 2) := by decide +kernel
theorem d_Mo_tryArray_3 : decode b_Mo_tryArray 3 = .ok (.if_icmp .ne (11), 3) := by decide +kernel
theorem d_Mo_tryArray_6 : decode b_Mo_tryArray 6 = .ok (.aload_n 0, 1) := by decide +kernel
theorem d_Mo_tryArray_7 : decode b_Mo_tryArray 7 = .ok (.iconst 1, 1) := by decide +kernel
theorem d_Mo_tryArray_8 : decode b_Mo_tryArray 8 = .ok (.invokevirtual 86, 3) := by decide +kernel
theorem d_Mo_tryArray_11 : decode b_Mo_tryArray 11 = .ok (.goto (4), 3) := by decide +kernel
theorem d_Mo_tryArray_14 : decode b_Mo_tryArray 14 = .ok (.iconst 1, 1) := by decide +kernel
theorem d_Mo_tryArray_15 : decode b_Mo_tryArray 15 = .ok (.istore_n 2, 1) := by decide +kernel
theorem d_Mo_tryArray_16 : decode b_Mo_tryArray 16 = .ok (.iload_n 1, 1) := by decide +kernel
theorem d_Mo_tryArray_17 : decode b_Mo_tryArray 17 = .ok (.bipush (14), 2) := by decide +kernel
theorem d_Mo_tryArray_19 : decode b_Mo_tryArray 19 = .ok (.if_icmp .ne (7), 3) := by decide +kernel
theorem d_Mo_tryArray_22 : decode b_Mo_tryArray 22 = .ok (.iconst 1, 1) := by decide +kernel
theorem d_Mo_tryArray_23 : decode b_Mo_tryArray 23 = .ok (.goto (8), 3) := by decide +kernel
theorem d_Mo_tryArray_26 : decode b_Mo_tryArray 26 = .ok (.aload_n 0, 1) := by decide +kernel
theorem d_Mo_tryArray_27 : decode b_Mo_tryArray 27 = .ok (.iconst 1, 1) := by decide +kernel
theorem d_Mo_tryArray_28 : decode b_Mo_tryArray 28 = .ok (.invokevirtual 86, 3) := by decide +kernel
theorem d_Mo_tryArray_31 : decode b_Mo_tryArray 31 = .ok (.istore_n 3, 1) := by decide +kernel
theorem d_Mo_tryArray_32 : decode b_Mo_tryArray 32 = .ok (.aload_n 0, 1) := by decide +kernel
theorem d_Mo_tryArray_33 : decode b_Mo_tryArray 33 = .ok (.iconst 2, 1) := by decide +kernel
theorem d_Mo_tryArray_34 : decode b_Mo_tryArray 34 = .ok (.invokevirtual 86, 3) := by decide +kernel
theorem d_Mo_tryArray_37 : decode b_Mo_tryArray 37 = .ok (.istore 4, 2) := by decide +kernel
theorem d_Mo_tryArray_39 : decode b_Mo_tryArray 39 = .ok (.iload_n 1, 1) := by decide +kernel
theorem d_Mo_tryArray_40 : decode b_Mo_tryArray 40 = .ok (.bipush (13), 2) := by decide +kernel
theorem d_Mo_tryArray_42 : decode b_Mo_tryArray 42 = .ok (.if_icmp .eq (8), 3) := by decide +kernel
theorem d_Mo_tryArray_45 : decode b_Mo_tryArray 45 = .ok (.aload_n 0, 1) := by decide +kernel
theorem d_Mo_tryArray_46 : decode b_Mo_tryArray 46 = .ok (.iconst 1, 1) := by decide +kernel
theorem d_Mo_tryArray_47 : decode b_Mo_tryArray 47 = .ok (.invokevirtual 90, 3) := by decide +kernel
theorem d_Mo_tryArray_50 : decode b_Mo_tryArray 50 = .ok (.return_, 1) := by decide +kernel
def y_Mo_tryPlaces : MethodName := ⟨"FrameVerifierModel", "tryPlaces", "(I)V"⟩
abbrev b_Mo_tryPlaces : ByteArray := prog_11_method_14_code
def rm_Mo_tryPlaces : Room := { frames := 1, cells := 0, slots := 0, locals := 21 }
abbrev w_Mo_tryPlaces : List Cond := Cond.code y_Mo_tryPlaces b_Mo_tryPlaces 4 none :: wG
theorem m_Mo_tryPlaces : Cond.code y_Mo_tryPlaces b_Mo_tryPlaces 4 none ∈ wG := wg_t 890 (by decide +kernel) (by decide +kernel)
theorem q_Mo_tryPlaces : y_Mo_tryPlaces.cls ≠ "java/lang/invoke/MethodHandle" ∧ y_Mo_tryPlaces.cls ≠ "java/lang/invoke/VarHandle" ∧ (parseMethodDescriptor y_Mo_tryPlaces.desc).map (fun d => d.parameters.length) = some 1 := by decide +kernel
theorem g_Mo_tryPlaces : Cond.initialized y_Mo_tryPlaces.cls ∈ wG := wg_t 6 (by decide +kernel) (by decide +kernel)
theorem s_Mo_tryPlaces : Cond.instanceMethod y_Mo_tryPlaces ∈ wG := wg_t 889 (by decide +kernel) (by decide +kernel)
theorem e_Mo_tryPlaces : Cond.selects "FrameVerifierModel" y_Mo_tryPlaces y_Mo_tryPlaces ∈ wG := wg_s (q := (y_Mo_tryPlaces, 27)) 33 (by decide +kernel) (by decide +kernel)
theorem d_Mo_tryPlaces_0 : decode b_Mo_tryPlaces 0 = .ok (.aload_n 0, 1) := by decide +kernel
theorem d_Mo_tryPlaces_1 : decode b_Mo_tryPlaces 1 = .ok (.iconst 3, 1) := by decide +kernel
theorem d_Mo_tryPlaces_2 : decode b_Mo_tryPlaces 2 = .ok (.invokevirtual 86, 3) := by decide +kernel
theorem d_Mo_tryPlaces_5 : decode b_Mo_tryPlaces 5 = .ok (.istore_n 2, 1) := by decide +kernel
theorem d_Mo_tryPlaces_6 : decode b_Mo_tryPlaces 6 = .ok (.iload_n 1, 1) := by decide +kernel
theorem d_Mo_tryPlaces_7 : decode b_Mo_tryPlaces 7 = .ok (.bipush (15), 2) := by decide +kernel
theorem d_Mo_tryPlaces_9 : decode b_Mo_tryPlaces 9 = .ok (.if_icmp .ne (16), 3) := by decide +kernel
theorem d_Mo_tryPlaces_12 : decode b_Mo_tryPlaces 12 = .ok (.aload_n 0, 1) := by decide +kernel
theorem d_Mo_tryPlaces_13 : decode b_Mo_tryPlaces 13 = .ok (.iload_n 2, 1) := by decide +kernel
theorem d_Mo_tryPlaces_14 : decode b_Mo_tryPlaces 14 = .ok (.invokevirtual 90, 3) := by decide +kernel
theorem d_Mo_tryPlaces_17 : decode b_Mo_tryPlaces 17 = .ok (.aload_n 0, 1) := by decide +kernel
theorem d_Mo_tryPlaces_18 : decode b_Mo_tryPlaces 18 = .ok (.iload_n 2, 1) := by decide +kernel
theorem d_Mo_tryPlaces_19 : decode b_Mo_tryPlaces 19 = .ok (.invokevirtual 90, 3) := by decide +kernel
theorem d_Mo_tryPlaces_22 : decode b_Mo_tryPlaces 22 = .ok (.goto (25), 3) := by decide +kernel
theorem d_Mo_tryPlaces_25 : decode b_Mo_tryPlaces 25 = .ok (.iload_n 1, 1) := by decide +kernel
theorem d_Mo_tryPlaces_26 : decode b_Mo_tryPlaces 26 = .ok (.bipush (16), 2) := by decide +kernel
theorem d_Mo_tryPlaces_28 : decode b_Mo_tryPlaces 28 = .ok (.if_icmp .ne (19), 3) := by decide +kernel
theorem d_Mo_tryPlaces_31 : decode b_Mo_tryPlaces 31 = .ok (.aload_n 0, 1) := by decide +kernel
theorem d_Mo_tryPlaces_32 : decode b_Mo_tryPlaces 32 = .ok (.iconst 3, 1) := by decide +kernel
theorem d_Mo_tryPlaces_33 : decode b_Mo_tryPlaces 33 = .ok (.invokevirtual 86, 3) := by decide +kernel
theorem d_Mo_tryPlaces_36 : decode b_Mo_tryPlaces 36 = .ok (.istore_n 3, 1) := by decide +kernel
theorem d_Mo_tryPlaces_37 : decode b_Mo_tryPlaces 37 = .ok (.aload_n 0, 1) := by decide +kernel
theorem d_Mo_tryPlaces_38 : decode b_Mo_tryPlaces 38 = .ok (.iload_n 2, 1) := by decide +kernel
theorem d_Mo_tryPlaces_39 : decode b_Mo_tryPlaces 39 = .ok (.invokevirtual 90, 3) := by decide +kernel
theorem d_Mo_tryPlaces_42 : decode b_Mo_tryPlaces 42 = .ok (.aload_n 0, 1) := by decide +kernel
theorem d_Mo_tryPlaces_43 : decode b_Mo_tryPlaces 43 = .ok (.iload_n 3, 1) := by decide +kernel
theorem d_Mo_tryPlaces_44 : decode b_Mo_tryPlaces 44 = .ok (.invokevirtual 90, 3) := by decide +kernel
theorem d_Mo_tryPlaces_47 : decode b_Mo_tryPlaces 47 = .ok (.return_, 1) := by decide +kernel
def y_Mo_tryCall : MethodName := ⟨"FrameVerifierModel", "tryCall", "(I)V"⟩
abbrev b_Mo_tryCall : ByteArray := prog_11_method_15_code
def rm_Mo_tryCall : Room := { frames := 1, cells := 0, slots := 0, locals := 22 }
abbrev w_Mo_tryCall : List Cond := Cond.code y_Mo_tryCall b_Mo_tryCall 4 none :: wG
theorem m_Mo_tryCall : Cond.code y_Mo_tryCall b_Mo_tryCall 4 none ∈ wG := wg_t 894 (by decide +kernel) (by decide +kernel)
theorem q_Mo_tryCall : y_Mo_tryCall.cls ≠ "java/lang/invoke/MethodHandle" ∧ y_Mo_tryCall.cls ≠ "java/lang/invoke/VarHandle" ∧ (parseMethodDescriptor y_Mo_tryCall.desc).map (fun d => d.parameters.length) = some 1 := by decide +kernel
theorem g_Mo_tryCall : Cond.initialized y_Mo_tryCall.cls ∈ wG := wg_t 6 (by decide +kernel) (by decide +kernel)
theorem s_Mo_tryCall : Cond.instanceMethod y_Mo_tryCall ∈ wG := wg_t 893 (by decide +kernel) (by decide +kernel)
theorem e_Mo_tryCall : Cond.selects "FrameVerifierModel" y_Mo_tryCall y_Mo_tryCall ∈ wG := wg_s (q := (y_Mo_tryCall, 27)) 34 (by decide +kernel) (by decide +kernel)
theorem d_Mo_tryCall_0 : decode b_Mo_tryCall 0 = .ok (.iload_n 1, 1) := by decide +kernel
theorem d_Mo_tryCall_1 : decode b_Mo_tryCall 1 = .ok (.ifCond .lt (17), 3) := by decide +kernel
theorem d_Mo_tryCall_4 : decode b_Mo_tryCall 4 = .ok (.iload_n 1, 1) := by decide +kernel
theorem d_Mo_tryCall_5 : decode b_Mo_tryCall 5 = .ok (.iconst 3, 1) := by decide +kernel
theorem d_Mo_tryCall_6 : decode b_Mo_tryCall 6 = .ok (.if_icmp .gt (12), 3) := by decide +kernel
theorem d_Mo_tryCall_9 : decode b_Mo_tryCall 9 = .ok (.aload_n 0, 1) := by decide +kernel
theorem d_Mo_tryCall_10 : decode b_Mo_tryCall 10 = .ok (.getfield 16, 3) := by decide +kernel
theorem d_Mo_tryCall_13 : decode b_Mo_tryCall 13 = .ok (.iload_n 1, 1) := by decide +kernel
theorem d_Mo_tryCall_14 : decode b_Mo_tryCall 14 = .ok (.baload, 1) := by decide +kernel
theorem d_Mo_tryCall_15 : decode b_Mo_tryCall 15 = .ok (.ifCond .ne (9), 3) := by decide +kernel
theorem d_Mo_tryCall_18 : decode b_Mo_tryCall 18 = .ok (.aload_n 0, 1) := by decide +kernel
theorem d_Mo_tryCall_19 : decode b_Mo_tryCall 19 = .ok (.iconst 1, 1) := by decide +kernel
theorem d_Mo_tryCall_20 : decode b_Mo_tryCall 20 = .ok (.putfield 73, 3) := by decide +kernel
theorem d_Mo_tryCall_23 : decode b_Mo_tryCall 23 = .ok (.return_, 1) := by decide +kernel
theorem d_Mo_tryCall_24 : decode b_Mo_tryCall 24 = .ok (.aload_n 0, 1) := by decide +kernel
theorem d_Mo_tryCall_25 : decode b_Mo_tryCall 25 = .ok (.getfield 23, 3) := by decide +kernel
theorem d_Mo_tryCall_28 : decode b_Mo_tryCall 28 = .ok (.iload_n 1, 1) := by decide +kernel
theorem d_Mo_tryCall_29 : decode b_Mo_tryCall 29 = .ok (.iaload, 1) := by decide +kernel
theorem d_Mo_tryCall_30 : decode b_Mo_tryCall 30 = .ok (.iconst 1, 1) := by decide +kernel
theorem d_Mo_tryCall_31 : decode b_Mo_tryCall 31 = .ok (.isub, 1) := by decide +kernel
theorem d_Mo_tryCall_32 : decode b_Mo_tryCall 32 = .ok (.istore_n 2, 1) := by decide +kernel
theorem d_Mo_tryCall_33 : decode b_Mo_tryCall 33 = .ok (.iload_n 2, 1) := by decide +kernel
theorem d_Mo_tryCall_34 : decode b_Mo_tryCall 34 = .ok (.ifCond .lt (20), 3) := by decide +kernel
theorem d_Mo_tryCall_37 : decode b_Mo_tryCall 37 = .ok (.aload_n 0, 1) := by decide +kernel
theorem d_Mo_tryCall_38 : decode b_Mo_tryCall 38 = .ok (.aload_n 0, 1) := by decide +kernel
theorem d_Mo_tryCall_39 : decode b_Mo_tryCall 39 = .ok (.iload_n 1, 1) := by decide +kernel
theorem d_Mo_tryCall_40 : decode b_Mo_tryCall 40 = .ok (.iload_n 2, 1) := by decide +kernel
theorem d_Mo_tryCall_41 : decode b_Mo_tryCall 41 = .ok (.invokevirtual 110, 3) := by decide +kernel
theorem d_Mo_tryCall_44 : decode b_Mo_tryCall 44 = .ok (.invokevirtual 86, 3) := by decide +kernel
theorem d_Mo_tryCall_47 : decode b_Mo_tryCall 47 = .ok (.istore_n 3, 1) := by decide +kernel
theorem d_Mo_tryCall_48 : decode b_Mo_tryCall 48 = .ok (.iinc 2 (-1), 3) := by decide +kernel
theorem d_Mo_tryCall_51 : decode b_Mo_tryCall 51 = .ok (.goto (-18), 3) := by decide +kernel
theorem d_Mo_tryCall_54 : decode b_Mo_tryCall 54 = .ok (.aload_n 0, 1) := by decide +kernel
theorem d_Mo_tryCall_55 : decode b_Mo_tryCall 55 = .ok (.aload_n 0, 1) := by decide +kernel
theorem d_Mo_tryCall_56 : decode b_Mo_tryCall 56 = .ok (.iload_n 1, 1) := by decide +kernel
theorem d_Mo_tryCall_57 : decode b_Mo_tryCall 57 = .ok (.iconst 3, 1) := by decide +kernel
theorem d_Mo_tryCall_58 : decode b_Mo_tryCall 58 = .ok (.invokevirtual 110, 3) := by decide +kernel
theorem d_Mo_tryCall_61 : decode b_Mo_tryCall 61 = .ok (.invokevirtual 90, 3) := by decide +kernel
theorem d_Mo_tryCall_64 : decode b_Mo_tryCall 64 = .ok (.return_, 1) := by decide +kernel
def y_Mo_tryOut : MethodName := ⟨"FrameVerifierModel", "tryOut", "(II)V"⟩
abbrev b_Mo_tryOut : ByteArray := prog_11_method_10_code
def rm_Mo_tryOut : Room := { frames := 3, cells := 0, slots := 0, locals := 65 }
abbrev w_Mo_tryOut : List Cond := Cond.code y_Mo_tryOut b_Mo_tryOut 7 none :: wG
theorem m_Mo_tryOut : Cond.code y_Mo_tryOut b_Mo_tryOut 7 none ∈ wG := wg_t 862 (by decide +kernel) (by decide +kernel)
theorem q_Mo_tryOut : y_Mo_tryOut.cls ≠ "java/lang/invoke/MethodHandle" ∧ y_Mo_tryOut.cls ≠ "java/lang/invoke/VarHandle" ∧ (parseMethodDescriptor y_Mo_tryOut.desc).map (fun d => d.parameters.length) = some 2 := by decide +kernel
theorem g_Mo_tryOut : Cond.initialized y_Mo_tryOut.cls ∈ wG := wg_t 6 (by decide +kernel) (by decide +kernel)
theorem s_Mo_tryOut : Cond.instanceMethod y_Mo_tryOut ∈ wG := wg_t 861 (by decide +kernel) (by decide +kernel)
theorem e_Mo_tryOut : Cond.selects "FrameVerifierModel" y_Mo_tryOut y_Mo_tryOut ∈ wG := wg_s (q := (y_Mo_tryOut, 27)) 26 (by decide +kernel) (by decide +kernel)
theorem d_Mo_tryOut_0 : decode b_Mo_tryOut 0 = .ok (.aload_n 0, 1) := by decide +kernel
theorem d_Mo_tryOut_1 : decode b_Mo_tryOut 1 = .ok (.getfield 7, 3) := by decide +kernel
theorem d_Mo_tryOut_4 : decode b_Mo_tryOut 4 = .ok (.iload_n 2, 1) := by decide +kernel
theorem d_Mo_tryOut_5 : decode b_Mo_tryOut 5 = .ok (.iaload, 1) := by decide +kernel
theorem d_Mo_tryOut_6 : decode b_Mo_tryOut 6 = .ok (.istore_n 3, 1) := by decide +kernel
theorem d_Mo_tryOut_7 : decode b_Mo_tryOut 7 = .ok (.aload_n 0, 1) := by decide +kernel
theorem d_Mo_tryOut_8 : decode b_Mo_tryOut 8 = .ok (.getfield 13, 3) := by decide +kernel
theorem d_Mo_tryOut_11 : decode b_Mo_tryOut 11 = .ok (.iload_n 2, 1) := by decide +kernel
theorem d_Mo_tryOut_12 : decode b_Mo_tryOut 12 = .ok (.iaload, 1) := by decide +kernel
theorem d_Mo_tryOut_13 : decode b_Mo_tryOut 13 = .ok (.istore 4, 2) := by decide +kernel
theorem d_Mo_tryOut_15 : decode b_Mo_tryOut 15 = .ok (.aload_n 0, 1) := by decide +kernel
theorem d_Mo_tryOut_16 : decode b_Mo_tryOut 16 = .ok (.iconst 0, 1) := by decide +kernel
theorem d_Mo_tryOut_17 : decode b_Mo_tryOut 17 = .ok (.putfield 73, 3) := by decide +kernel
theorem d_Mo_tryOut_20 : decode b_Mo_tryOut 20 = .ok (.aload_n 0, 1) := by decide +kernel
theorem d_Mo_tryOut_21 : decode b_Mo_tryOut 21 = .ok (.iload_n 3, 1) := by decide +kernel
theorem d_Mo_tryOut_22 : decode b_Mo_tryOut 22 = .ok (.bipush (7), 2) := by decide +kernel
theorem d_Mo_tryOut_24 : decode b_Mo_tryOut 24 = .ok (.if_icmp .eq (13), 3) := by decide +kernel
theorem d_Mo_tryOut_27 : decode b_Mo_tryOut 27 = .ok (.iload_n 3, 1) := by decide +kernel
theorem d_Mo_tryOut_28 : decode b_Mo_tryOut 28 = .ok (.bipush (19), 2) := by decide +kernel
theorem d_Mo_tryOut_30 : decode b_Mo_tryOut 30 = .ok (.if_icmp .eq (7), 3) := by decide +kernel
theorem d_Mo_tryOut_33 : decode b_Mo_tryOut 33 = .ok (.iconst 1, 1) := by decide +kernel
theorem d_Mo_tryOut_34 : decode b_Mo_tryOut 34 = .ok (.goto (4), 3) := by decide +kernel
theorem d_Mo_tryOut_37 : decode b_Mo_tryOut 37 = .ok (.iconst 0, 1) := by decide +kernel
theorem d_Mo_tryOut_38 : decode b_Mo_tryOut 38 = .ok (.putfield 83, 3) := by decide +kernel
theorem d_Mo_tryOut_41 : decode b_Mo_tryOut 41 = .ok (.aload_n 0, 1) := by decide +kernel
theorem d_Mo_tryOut_42 : decode b_Mo_tryOut 42 = .ok (.iconst (-1), 1) := by decide +kernel
theorem d_Mo_tryOut_43 : decode b_Mo_tryOut 43 = .ok (.putfield 80, 3) := by decide +kernel
theorem d_Mo_tryOut_46 : decode b_Mo_tryOut 46 = .ok (.iload_n 3, 1) := by decide +kernel
theorem d_Mo_tryOut_47 : decode b_Mo_tryOut 47 = .ok (.iconst 1, 1) := by decide +kernel
theorem d_Mo_tryOut_48 : decode b_Mo_tryOut 48 = .ok (.if_icmp .lt (30), 3) := by decide +kernel
theorem d_Mo_tryOut_51 : decode b_Mo_tryOut 51 = .ok (.iload_n 3, 1) := by decide +kernel
theorem d_Mo_tryOut_52 : decode b_Mo_tryOut 52 = .ok (.iconst 4, 1) := by decide +kernel
theorem d_Mo_tryOut_53 : decode b_Mo_tryOut 53 = .ok (.if_icmp .gt (25), 3) := by decide +kernel
theorem d_Mo_tryOut_56 : decode b_Mo_tryOut 56 = .ok (.aload_n 0, 1) := by decide +kernel
theorem d_Mo_tryOut_57 : decode b_Mo_tryOut 57 = .ok (.iconst 1, 1) := by decide +kernel
theorem d_Mo_tryOut_58 : decode b_Mo_tryOut 58 = .ok (.invokevirtual 86, 3) := by decide +kernel
theorem d_Mo_tryOut_61 : decode b_Mo_tryOut 61 = .ok (.istore 5, 2) := by decide +kernel
theorem d_Mo_tryOut_63 : decode b_Mo_tryOut 63 = .ok (.aload_n 0, 1) := by decide +kernel
theorem d_Mo_tryOut_64 : decode b_Mo_tryOut 64 = .ok (.iconst 1, 1) := by decide +kernel
theorem d_Mo_tryOut_65 : decode b_Mo_tryOut 65 = .ok (.invokevirtual 86, 3) := by decide +kernel
theorem d_Mo_tryOut_68 : decode b_Mo_tryOut 68 = .ok (.istore 6, 2) := by decide +kernel
theorem d_Mo_tryOut_70 : decode b_Mo_tryOut 70 = .ok (.aload_n 0, 1) := by decide +kernel
theorem d_Mo_tryOut_71 : decode b_Mo_tryOut 71 = .ok (.iconst 1, 1) := by decide +kernel
theorem d_Mo_tryOut_72 : decode b_Mo_tryOut 72 = .ok (.invokevirtual 90, 3) := by decide +kernel
theorem d_Mo_tryOut_75 : decode b_Mo_tryOut 75 = .ok (.goto (139), 3) := by decide +kernel
theorem d_Mo_tryOut_78 : decode b_Mo_tryOut 78 = .ok (.iload_n 3, 1) := by decide +kernel
theorem d_Mo_tryOut_79 : decode b_Mo_tryOut 79 = .ok (.ifCond .ne (11), 3) := by decide +kernel
theorem d_Mo_tryOut_82 : decode b_Mo_tryOut 82 = .ok (.aload_n 0, 1) := by decide +kernel
theorem d_Mo_tryOut_83 : decode b_Mo_tryOut 83 = .ok (.iconst 1, 1) := by decide +kernel
theorem d_Mo_tryOut_84 : decode b_Mo_tryOut 84 = .ok (.invokevirtual 90, 3) := by decide +kernel
theorem d_Mo_tryOut_87 : decode b_Mo_tryOut 87 = .ok (.goto (127), 3) := by decide +kernel
theorem d_Mo_tryOut_90 : decode b_Mo_tryOut 90 = .ok (.iload_n 3, 1) := by decide +kernel
theorem d_Mo_tryOut_91 : decode b_Mo_tryOut 91 = .ok (.iconst 5, 1) := by decide +kernel
theorem d_Mo_tryOut_92 : decode b_Mo_tryOut 92 = .ok (.if_icmp .eq (9), 3) := by decide +kernel
theorem d_Mo_tryOut_95 : decode b_Mo_tryOut 95 = .ok (.iload_n 3, 1) := by decide +kernel
theorem d_Mo_tryOut_96 : decode b_Mo_tryOut 96 = .ok (.bipush (6), 2) := by decide +kernel
theorem d_Mo_tryOut_98 : decode b_Mo_tryOut 98 = .ok (.if_icmp .ne (13), 3) := by decide +kernel
theorem d_Mo_tryOut_101 : decode b_Mo_tryOut 101 = .ok (.aload_n 0, 1) := by decide +kernel
theorem d_Mo_tryOut_102 : decode b_Mo_tryOut 102 = .ok (.iload_n 3, 1) := by decide +kernel
theorem d_Mo_tryOut_103 : decode b_Mo_tryOut 103 = .ok (.iload 4, 2) := by decide +kernel
theorem d_Mo_tryOut_105 : decode b_Mo_tryOut 105 = .ok (.invokevirtual 94, 3) := by decide +kernel
theorem d_Mo_tryOut_108 : decode b_Mo_tryOut 108 = .ok (.goto (106), 3) := by decide +kernel
theorem d_Mo_tryOut_111 : decode b_Mo_tryOut 111 = .ok (.iload_n 3, 1) := by decide +kernel
theorem d_Mo_tryOut_112 : decode b_Mo_tryOut 112 = .ok (.bipush (7), 2) := by decide +kernel
theorem d_Mo_tryOut_114 : decode b_Mo_tryOut 114 = .ok (.if_icmp .lt (19), 3) := by decide +kernel
theorem d_Mo_tryOut_117 : decode b_Mo_tryOut 117 = .ok (.iload_n 3, 1) := by decide +kernel
theorem d_Mo_tryOut_118 : decode b_Mo_tryOut 118 = .ok (.bipush (11), 2) := by decide +kernel
theorem d_Mo_tryOut_120 : decode b_Mo_tryOut 120 = .ok (.if_icmp .gt (13), 3) := by decide +kernel
theorem d_Mo_tryOut_123 : decode b_Mo_tryOut 123 = .ok (.aload_n 0, 1) := by decide +kernel
theorem d_Mo_tryOut_124 : decode b_Mo_tryOut 124 = .ok (.iload_n 3, 1) := by decide +kernel
theorem d_Mo_tryOut_125 : decode b_Mo_tryOut 125 = .ok (.iload 4, 2) := by decide +kernel
theorem d_Mo_tryOut_127 : decode b_Mo_tryOut 127 = .ok (.invokevirtual 98, 3) := by decide +kernel
theorem d_Mo_tryOut_130 : decode b_Mo_tryOut 130 = .ok (.goto (84), 3) := by decide +kernel
theorem d_Mo_tryOut_133 : decode b_Mo_tryOut 133 = .ok (.iload_n 3, 1) := by decide +kernel
theorem d_Mo_tryOut_134 : decode b_Mo_tryOut 134 = .ok (.bipush (12), 2) := by decide +kernel
theorem d_Mo_tryOut_136 : decode b_Mo_tryOut 136 = .ok (.if_icmp .lt (17), 3) := by decide +kernel
theorem d_Mo_tryOut_139 : decode b_Mo_tryOut 139 = .ok (.iload_n 3, 1) := by decide +kernel
theorem d_Mo_tryOut_140 : decode b_Mo_tryOut 140 = .ok (.bipush (14), 2) := by decide +kernel
theorem d_Mo_tryOut_142 : decode b_Mo_tryOut 142 = .ok (.if_icmp .gt (11), 3) := by decide +kernel
theorem d_Mo_tryOut_145 : decode b_Mo_tryOut 145 = .ok (.aload_n 0, 1) := by decide +kernel
theorem d_Mo_tryOut_146 : decode b_Mo_tryOut 146 = .ok (.iload_n 3, 1) := by decide +kernel
theorem d_Mo_tryOut_147 : decode b_Mo_tryOut 147 = .ok (.invokevirtual 101, 3) := by decide +kernel
theorem d_Mo_tryOut_150 : decode b_Mo_tryOut 150 = .ok (.goto (64), 3) := by decide +kernel
theorem d_Mo_tryOut_153 : decode b_Mo_tryOut 153 = .ok (.iload_n 3, 1) := by decide +kernel
theorem d_Mo_tryOut_154 : decode b_Mo_tryOut 154 = .ok (.bipush (15), 2) := by decide +kernel
theorem d_Mo_tryOut_156 : decode b_Mo_tryOut 156 = .ok (.if_icmp .lt (17), 3) := by decide +kernel
theorem d_Mo_tryOut_159 : decode b_Mo_tryOut 159 = .ok (.iload_n 3, 1) := by decide +kernel
theorem d_Mo_tryOut_160 : decode b_Mo_tryOut 160 = .ok (.bipush (17), 2) := by decide +kernel
theorem d_Mo_tryOut_162 : decode b_Mo_tryOut 162 = .ok (.if_icmp .gt (11), 3) := by decide +kernel
theorem d_Mo_tryOut_165 : decode b_Mo_tryOut 165 = .ok (.aload_n 0, 1) := by decide +kernel
theorem d_Mo_tryOut_166 : decode b_Mo_tryOut 166 = .ok (.iload_n 3, 1) := by decide +kernel
theorem d_Mo_tryOut_167 : decode b_Mo_tryOut 167 = .ok (.invokevirtual 104, 3) := by decide +kernel
theorem d_Mo_tryOut_170 : decode b_Mo_tryOut 170 = .ok (.goto (44), 3) := by decide +kernel
theorem d_Mo_tryOut_173 : decode b_Mo_tryOut 173 = .ok (.iload_n 3, 1) := by decide +kernel
theorem d_Mo_tryOut_174 : decode b_Mo_tryOut 174 = .ok (.bipush (18), 2) := by decide +kernel
theorem d_Mo_tryOut_176 : decode b_Mo_tryOut 176 = .ok (.if_icmp .ne (12), 3) := by decide +kernel
theorem d_Mo_tryOut_179 : decode b_Mo_tryOut 179 = .ok (.aload_n 0, 1) := by decide +kernel
theorem d_Mo_tryOut_180 : decode b_Mo_tryOut 180 = .ok (.iload 4, 2) := by decide +kernel
theorem d_Mo_tryOut_182 : decode b_Mo_tryOut 182 = .ok (.invokevirtual 107, 3) := by decide +kernel
theorem d_Mo_tryOut_185 : decode b_Mo_tryOut 185 = .ok (.goto (29), 3) := by decide +kernel
theorem d_Mo_tryOut_188 : decode b_Mo_tryOut 188 = .ok (.iload_n 3, 1) := by decide +kernel
theorem d_Mo_tryOut_189 : decode b_Mo_tryOut 189 = .ok (.bipush (19), 2) := by decide +kernel
theorem d_Mo_tryOut_191 : decode b_Mo_tryOut 191 = .ok (.if_icmp .ne (18), 3) := by decide +kernel
theorem d_Mo_tryOut_194 : decode b_Mo_tryOut 194 = .ok (.aload_n 0, 1) := by decide +kernel
theorem d_Mo_tryOut_195 : decode b_Mo_tryOut 195 = .ok (.aload_n 0, 1) := by decide +kernel
theorem d_Mo_tryOut_196 : decode b_Mo_tryOut 196 = .ok (.iload_n 1, 1) := by decide +kernel
theorem d_Mo_tryOut_197 : decode b_Mo_tryOut 197 = .ok (.iconst 3, 1) := by decide +kernel
theorem d_Mo_tryOut_198 : decode b_Mo_tryOut 198 = .ok (.invokevirtual 110, 3) := by decide +kernel
theorem d_Mo_tryOut_201 : decode b_Mo_tryOut 201 = .ok (.invokevirtual 86, 3) := by decide +kernel
theorem d_Mo_tryOut_204 : decode b_Mo_tryOut 204 = .ok (.istore 5, 2) := by decide +kernel
theorem d_Mo_tryOut_206 : decode b_Mo_tryOut 206 = .ok (.goto (8), 3) := by decide +kernel
theorem d_Mo_tryOut_209 : decode b_Mo_tryOut 209 = .ok (.aload_n 0, 1) := by decide +kernel
theorem d_Mo_tryOut_210 : decode b_Mo_tryOut 210 = .ok (.iconst 1, 1) := by decide +kernel
theorem d_Mo_tryOut_211 : decode b_Mo_tryOut 211 = .ok (.putfield 73, 3) := by decide +kernel
theorem d_Mo_tryOut_214 : decode b_Mo_tryOut 214 = .ok (.aload_n 0, 1) := by decide +kernel
theorem d_Mo_tryOut_215 : decode b_Mo_tryOut 215 = .ok (.aload_n 0, 1) := by decide +kernel
theorem d_Mo_tryOut_216 : decode b_Mo_tryOut 216 = .ok (.getfield 73, 3) := by decide +kernel
theorem d_Mo_tryOut_219 : decode b_Mo_tryOut 219 = .ok (.ifCond .ne (20), 3) := by decide +kernel
theorem d_Mo_tryOut_222 : decode b_Mo_tryOut 222 = .ok (.aload_n 0, 1) := by decide +kernel
theorem d_Mo_tryOut_223 : decode b_Mo_tryOut 223 = .ok (.getfield 83, 3) := by decide +kernel
theorem d_Mo_tryOut_226 : decode b_Mo_tryOut 226 = .ok (.ifCond .eq (17), 3) := by decide +kernel
theorem d_Mo_tryOut_229 : decode b_Mo_tryOut 229 = .ok (.aload_n 0, 1) := by decide +kernel
theorem d_Mo_tryOut_230 : decode b_Mo_tryOut 230 = .ok (.iload_n 2, 1) := by decide +kernel
theorem d_Mo_tryOut_231 : decode b_Mo_tryOut 231 = .ok (.iconst 1, 1) := by decide +kernel
theorem d_Mo_tryOut_232 : decode b_Mo_tryOut 232 = .ok (.iadd, 1) := by decide +kernel
theorem d_Mo_tryOut_233 : decode b_Mo_tryOut 233 = .ok (.invokevirtual 76, 3) := by decide +kernel
theorem d_Mo_tryOut_236 : decode b_Mo_tryOut 236 = .ok (.ifCond .ne (7), 3) := by decide +kernel
theorem d_Mo_tryOut_239 : decode b_Mo_tryOut 239 = .ok (.iconst 1, 1) := by decide +kernel
theorem d_Mo_tryOut_240 : decode b_Mo_tryOut 240 = .ok (.goto (4), 3) := by decide +kernel
theorem d_Mo_tryOut_243 : decode b_Mo_tryOut 243 = .ok (.iconst 0, 1) := by decide +kernel
theorem d_Mo_tryOut_244 : decode b_Mo_tryOut 244 = .ok (.putfield 73, 3) := by decide +kernel
theorem d_Mo_tryOut_247 : decode b_Mo_tryOut 247 = .ok (.return_, 1) := by decide +kernel
def y_Mo_meet : MethodName := ⟨"FrameVerifierModel", "meet", "(II)V"⟩
abbrev b_Mo_meet : ByteArray := prog_11_method_16_code
def rm_Mo_meet : Room := { frames := 0, cells := 0, slots := 0, locals := 0 }
abbrev w_Mo_meet : List Cond := Cond.code y_Mo_meet b_Mo_meet 9 none :: wG
theorem m_Mo_meet : Cond.code y_Mo_meet b_Mo_meet 9 none ∈ wG := wg_t 854 (by decide +kernel) (by decide +kernel)
theorem q_Mo_meet : y_Mo_meet.cls ≠ "java/lang/invoke/MethodHandle" ∧ y_Mo_meet.cls ≠ "java/lang/invoke/VarHandle" ∧ (parseMethodDescriptor y_Mo_meet.desc).map (fun d => d.parameters.length) = some 2 := by decide +kernel
theorem g_Mo_meet : Cond.initialized y_Mo_meet.cls ∈ wG := wg_t 6 (by decide +kernel) (by decide +kernel)
theorem s_Mo_meet : Cond.instanceMethod y_Mo_meet ∈ wG := wg_t 853 (by decide +kernel) (by decide +kernel)
theorem e_Mo_meet : Cond.selects "FrameVerifierModel" y_Mo_meet y_Mo_meet ∈ wG := wg_s (q := (y_Mo_meet, 27)) 24 (by decide +kernel) (by decide +kernel)
theorem d_Mo_meet_0 : decode b_Mo_meet 0 = .ok (.bipush (100), 2) := by decide +kernel
theorem d_Mo_meet_2 : decode b_Mo_meet 2 = .ok (.iload_n 1, 1) := by decide +kernel
theorem d_Mo_meet_3 : decode b_Mo_meet 3 = .ok (.imul, 1) := by decide +kernel
theorem d_Mo_meet_4 : decode b_Mo_meet 4 = .ok (.iload_n 2, 1) := by decide +kernel
theorem d_Mo_meet_5 : decode b_Mo_meet 5 = .ok (.iadd, 1) := by decide +kernel
theorem d_Mo_meet_6 : decode b_Mo_meet 6 = .ok (.istore_n 3, 1) := by decide +kernel
theorem d_Mo_meet_7 : decode b_Mo_meet 7 = .ok (.aload_n 0, 1) := by decide +kernel
theorem d_Mo_meet_8 : decode b_Mo_meet 8 = .ok (.getfield 29, 3) := by decide +kernel
theorem d_Mo_meet_11 : decode b_Mo_meet 11 = .ok (.iload_n 3, 1) := by decide +kernel
theorem d_Mo_meet_12 : decode b_Mo_meet 12 = .ok (.iaload, 1) := by decide +kernel
theorem d_Mo_meet_13 : decode b_Mo_meet 13 = .ok (.bipush (-2), 2) := by decide +kernel
theorem d_Mo_meet_15 : decode b_Mo_meet 15 = .ok (.if_icmp .ne (4), 3) := by decide +kernel
theorem d_Mo_meet_18 : decode b_Mo_meet 18 = .ok (.return_, 1) := by decide +kernel
theorem d_Mo_meet_19 : decode b_Mo_meet 19 = .ok (.aload_n 0, 1) := by decide +kernel
theorem d_Mo_meet_20 : decode b_Mo_meet 20 = .ok (.getfield 29, 3) := by decide +kernel
theorem d_Mo_meet_23 : decode b_Mo_meet 23 = .ok (.iload_n 3, 1) := by decide +kernel
theorem d_Mo_meet_24 : decode b_Mo_meet 24 = .ok (.iaload, 1) := by decide +kernel
theorem d_Mo_meet_25 : decode b_Mo_meet 25 = .ok (.aload_n 0, 1) := by decide +kernel
theorem d_Mo_meet_26 : decode b_Mo_meet 26 = .ok (.getfield 70, 3) := by decide +kernel
theorem d_Mo_meet_29 : decode b_Mo_meet 29 = .ok (.if_icmp .eq (7), 3) := by decide +kernel
theorem d_Mo_meet_32 : decode b_Mo_meet 32 = .ok (.iconst 1, 1) := by decide +kernel
theorem d_Mo_meet_33 : decode b_Mo_meet 33 = .ok (.goto (4), 3) := by decide +kernel
theorem d_Mo_meet_36 : decode b_Mo_meet 36 = .ok (.iconst 0, 1) := by decide +kernel
theorem d_Mo_meet_37 : decode b_Mo_meet 37 = .ok (.istore 4, 2) := by decide +kernel
theorem d_Mo_meet_39 : decode b_Mo_meet 39 = .ok (.aload_n 0, 1) := by decide +kernel
theorem d_Mo_meet_40 : decode b_Mo_meet 40 = .ok (.getfield 29, 3) := by decide +kernel
theorem d_Mo_meet_43 : decode b_Mo_meet 43 = .ok (.iload_n 3, 1) := by decide +kernel
theorem d_Mo_meet_44 : decode b_Mo_meet 44 = .ok (.iaload, 1) := by decide +kernel
theorem d_Mo_meet_45 : decode b_Mo_meet 45 = .ok (.iconst (-1), 1) := by decide +kernel
theorem d_Mo_meet_46 : decode b_Mo_meet 46 = .ok (.if_icmp .eq (19), 3) := by decide +kernel
theorem d_Mo_meet_49 : decode b_Mo_meet 49 = .ok (.iload 4, 2) := by decide +kernel
theorem d_Mo_meet_51 : decode b_Mo_meet 51 = .ok (.ifCond .eq (14), 3) := by decide +kernel
theorem d_Mo_meet_54 : decode b_Mo_meet 54 = .ok (.aload_n 0, 1) := by decide +kernel
theorem d_Mo_meet_55 : decode b_Mo_meet 55 = .ok (.getfield 29, 3) := by decide +kernel
theorem d_Mo_meet_58 : decode b_Mo_meet 58 = .ok (.iload_n 3, 1) := by decide +kernel
theorem d_Mo_meet_59 : decode b_Mo_meet 59 = .ok (.bipush (-2), 2) := by decide +kernel
theorem d_Mo_meet_61 : decode b_Mo_meet 61 = .ok (.iastore, 1) := by decide +kernel
theorem d_Mo_meet_62 : decode b_Mo_meet 62 = .ok (.goto (128), 3) := by decide +kernel
theorem d_Mo_meet_65 : decode b_Mo_meet 65 = .ok (.aload_n 0, 1) := by decide +kernel
theorem d_Mo_meet_66 : decode b_Mo_meet 66 = .ok (.getfield 29, 3) := by decide +kernel
theorem d_Mo_meet_69 : decode b_Mo_meet 69 = .ok (.iload_n 3, 1) := by decide +kernel
theorem d_Mo_meet_70 : decode b_Mo_meet 70 = .ok (.iaload, 1) := by decide +kernel
theorem d_Mo_meet_71 : decode b_Mo_meet 71 = .ok (.iconst (-1), 1) := by decide +kernel
theorem d_Mo_meet_72 : decode b_Mo_meet 72 = .ok (.if_icmp .ne (7), 3) := by decide +kernel
theorem d_Mo_meet_75 : decode b_Mo_meet 75 = .ok (.iconst 1, 1) := by decide +kernel
theorem d_Mo_meet_76 : decode b_Mo_meet 76 = .ok (.goto (4), 3) := by decide +kernel
theorem d_Mo_meet_79 : decode b_Mo_meet 79 = .ok (.iconst 0, 1) := by decide +kernel
theorem d_Mo_meet_80 : decode b_Mo_meet 80 = .ok (.istore 5, 2) := by decide +kernel
theorem d_Mo_meet_82 : decode b_Mo_meet 82 = .ok (.aload_n 0, 1) := by decide +kernel
theorem d_Mo_meet_83 : decode b_Mo_meet 83 = .ok (.getfield 29, 3) := by decide +kernel
theorem d_Mo_meet_86 : decode b_Mo_meet 86 = .ok (.iload_n 3, 1) := by decide +kernel
theorem d_Mo_meet_87 : decode b_Mo_meet 87 = .ok (.aload_n 0, 1) := by decide +kernel
theorem d_Mo_meet_88 : decode b_Mo_meet 88 = .ok (.getfield 70, 3) := by decide +kernel
theorem d_Mo_meet_91 : decode b_Mo_meet 91 = .ok (.iastore, 1) := by decide +kernel
theorem d_Mo_meet_92 : decode b_Mo_meet 92 = .ok (.iconst 0, 1) := by decide +kernel
theorem d_Mo_meet_93 : decode b_Mo_meet 93 = .ok (.istore 6, 2) := by decide +kernel
theorem d_Mo_meet_95 : decode b_Mo_meet 95 = .ok (.iload 6, 2) := by decide +kernel
theorem d_Mo_meet_97 : decode b_Mo_meet 97 = .ok (.bipush (6), 2) := by decide +kernel
theorem d_Mo_meet_99 : decode b_Mo_meet 99 = .ok (.aload_n 0, 1) := by decide +kernel
theorem d_Mo_meet_100 : decode b_Mo_meet 100 = .ok (.getfield 70, 3) := by decide +kernel
theorem d_Mo_meet_103 : decode b_Mo_meet 103 = .ok (.iadd, 1) := by decide +kernel
theorem d_Mo_meet_104 : decode b_Mo_meet 104 = .ok (.if_icmp .ge (86), 3) := by decide +kernel
theorem d_Mo_meet_107 : decode b_Mo_meet 107 = .ok (.aload_n 0, 1) := by decide +kernel
theorem d_Mo_meet_108 : decode b_Mo_meet 108 = .ok (.getfield 32, 3) := by decide +kernel
theorem d_Mo_meet_111 : decode b_Mo_meet 111 = .ok (.bipush (12), 2) := by decide +kernel
theorem d_Mo_meet_113 : decode b_Mo_meet 113 = .ok (.iload_n 3, 1) := by decide +kernel
theorem d_Mo_meet_114 : decode b_Mo_meet 114 = .ok (.imul, 1) := by decide +kernel
theorem d_Mo_meet_115 : decode b_Mo_meet 115 = .ok (.iload 6, 2) := by decide +kernel
theorem d_Mo_meet_117 : decode b_Mo_meet 117 = .ok (.iadd, 1) := by decide +kernel
theorem d_Mo_meet_118 : decode b_Mo_meet 118 = .ok (.iaload, 1) := by decide +kernel
theorem d_Mo_meet_119 : decode b_Mo_meet 119 = .ok (.istore 7, 2) := by decide +kernel
theorem d_Mo_meet_121 : decode b_Mo_meet 121 = .ok (.iload 5, 2) := by decide +kernel
theorem d_Mo_meet_123 : decode b_Mo_meet 123 = .ok (.ifCond .ne (15), 3) := by decide +kernel
theorem d_Mo_meet_126 : decode b_Mo_meet 126 = .ok (.iload 7, 2) := by decide +kernel
theorem d_Mo_meet_128 : decode b_Mo_meet 128 = .ok (.aload_n 0, 1) := by decide +kernel
theorem d_Mo_meet_129 : decode b_Mo_meet 129 = .ok (.getfield 38, 3) := by decide +kernel
theorem d_Mo_meet_132 : decode b_Mo_meet 132 = .ok (.iload 6, 2) := by decide +kernel
theorem d_Mo_meet_134 : decode b_Mo_meet 134 = .ok (.iaload, 1) := by decide +kernel
theorem d_Mo_meet_135 : decode b_Mo_meet 135 = .ok (.if_icmp .ne (13), 3) := by decide +kernel
theorem d_Mo_meet_138 : decode b_Mo_meet 138 = .ok (.aload_n 0, 1) := by decide +kernel
theorem d_Mo_meet_139 : decode b_Mo_meet 139 = .ok (.getfield 38, 3) := by decide +kernel
theorem d_Mo_meet_142 : decode b_Mo_meet 142 = .ok (.iload 6, 2) := by decide +kernel
theorem d_Mo_meet_144 : decode b_Mo_meet 144 = .ok (.iaload, 1) := by decide +kernel
theorem d_Mo_meet_145 : decode b_Mo_meet 145 = .ok (.goto (4), 3) := by decide +kernel
theorem d_Mo_meet_148 : decode b_Mo_meet 148 = .ok (.iconst 3, 1) := by decide +kernel
theorem d_Mo_meet_149 : decode b_Mo_meet 149 = .ok (.istore 8, 2) := by decide +kernel
theorem d_Mo_meet_151 : decode b_Mo_meet 151 = .ok (.iload 4, 2) := by decide +kernel
theorem d_Mo_meet_153 : decode b_Mo_meet 153 = .ok (.ifCond .ne (10), 3) := by decide +kernel
theorem d_Mo_meet_156 : decode b_Mo_meet 156 = .ok (.iload 8, 2) := by decide +kernel
theorem d_Mo_meet_158 : decode b_Mo_meet 158 = .ok (.iload 7, 2) := by decide +kernel
theorem d_Mo_meet_160 : decode b_Mo_meet 160 = .ok (.if_icmp .eq (7), 3) := by decide +kernel
theorem d_Mo_meet_163 : decode b_Mo_meet 163 = .ok (.iconst 1, 1) := by decide +kernel
theorem d_Mo_meet_164 : decode b_Mo_meet 164 = .ok (.goto (4), 3) := by decide +kernel
theorem d_Mo_meet_167 : decode b_Mo_meet 167 = .ok (.iconst 0, 1) := by decide +kernel
theorem d_Mo_meet_168 : decode b_Mo_meet 168 = .ok (.istore 4, 2) := by decide +kernel
theorem d_Mo_meet_170 : decode b_Mo_meet 170 = .ok (.aload_n 0, 1) := by decide +kernel
theorem d_Mo_meet_171 : decode b_Mo_meet 171 = .ok (.getfield 32, 3) := by decide +kernel
theorem d_Mo_meet_174 : decode b_Mo_meet 174 = .ok (.bipush (12), 2) := by decide +kernel
theorem d_Mo_meet_176 : decode b_Mo_meet 176 = .ok (.iload_n 3, 1) := by decide +kernel
theorem d_Mo_meet_177 : decode b_Mo_meet 177 = .ok (.imul, 1) := by decide +kernel
theorem d_Mo_meet_178 : decode b_Mo_meet 178 = .ok (.iload 6, 2) := by decide +kernel
theorem d_Mo_meet_180 : decode b_Mo_meet 180 = .ok (.iadd, 1) := by decide +kernel
theorem d_Mo_meet_181 : decode b_Mo_meet 181 = .ok (.iload 8, 2) := by decide +kernel
theorem d_Mo_meet_183 : decode b_Mo_meet 183 = .ok (.iastore, 1) := by decide +kernel
theorem d_Mo_meet_184 : decode b_Mo_meet 184 = .ok (.iinc 6 (1), 3) := by decide +kernel
theorem d_Mo_meet_187 : decode b_Mo_meet 187 = .ok (.goto (-92), 3) := by decide +kernel
theorem d_Mo_meet_190 : decode b_Mo_meet 190 = .ok (.aload_n 0, 1) := by decide +kernel
theorem d_Mo_meet_191 : decode b_Mo_meet 191 = .ok (.getfield 35, 3) := by decide +kernel
theorem d_Mo_meet_194 : decode b_Mo_meet 194 = .ok (.iload_n 3, 1) := by decide +kernel
theorem d_Mo_meet_195 : decode b_Mo_meet 195 = .ok (.aload_n 0, 1) := by decide +kernel
theorem d_Mo_meet_196 : decode b_Mo_meet 196 = .ok (.getfield 35, 3) := by decide +kernel
theorem d_Mo_meet_199 : decode b_Mo_meet 199 = .ok (.iload_n 3, 1) := by decide +kernel
theorem d_Mo_meet_200 : decode b_Mo_meet 200 = .ok (.baload, 1) := by decide +kernel
theorem d_Mo_meet_201 : decode b_Mo_meet 201 = .ok (.ifCond .ne (8), 3) := by decide +kernel
theorem d_Mo_meet_204 : decode b_Mo_meet 204 = .ok (.iload 4, 2) := by decide +kernel
theorem d_Mo_meet_206 : decode b_Mo_meet 206 = .ok (.ifCond .eq (7), 3) := by decide +kernel
theorem d_Mo_meet_209 : decode b_Mo_meet 209 = .ok (.iconst 1, 1) := by decide +kernel
theorem d_Mo_meet_210 : decode b_Mo_meet 210 = .ok (.goto (4), 3) := by decide +kernel
theorem d_Mo_meet_213 : decode b_Mo_meet 213 = .ok (.iconst 0, 1) := by decide +kernel
theorem d_Mo_meet_214 : decode b_Mo_meet 214 = .ok (.bastore, 1) := by decide +kernel
theorem d_Mo_meet_215 : decode b_Mo_meet 215 = .ok (.return_, 1) := by decide +kernel
def y_Mo_fits : MethodName := ⟨"FrameVerifierModel", "fits", "(II)Z"⟩
abbrev b_Mo_fits : ByteArray := prog_11_method_17_code
def rm_Mo_fits : Room := { frames := 4, cells := 0, slots := 0, locals := 91 }
abbrev w_Mo_fits : List Cond := Cond.code y_Mo_fits b_Mo_fits 5 (some .boolean) :: wG
theorem m_Mo_fits : Cond.code y_Mo_fits b_Mo_fits 5 (some .boolean) ∈ wG := wg_t 858 (by decide +kernel) (by decide +kernel)
theorem q_Mo_fits : y_Mo_fits.cls ≠ "java/lang/invoke/MethodHandle" ∧ y_Mo_fits.cls ≠ "java/lang/invoke/VarHandle" ∧ (parseMethodDescriptor y_Mo_fits.desc).map (fun d => d.parameters.length) = some 2 := by decide +kernel
theorem g_Mo_fits : Cond.initialized y_Mo_fits.cls ∈ wG := wg_t 6 (by decide +kernel) (by decide +kernel)
theorem s_Mo_fits : Cond.instanceMethod y_Mo_fits ∈ wG := wg_t 857 (by decide +kernel) (by decide +kernel)
theorem e_Mo_fits : Cond.selects "FrameVerifierModel" y_Mo_fits y_Mo_fits ∈ wG := wg_s (q := (y_Mo_fits, 27)) 25 (by decide +kernel) (by decide +kernel)
theorem d_Mo_fits_0 : decode b_Mo_fits 0 = .ok (.bipush (100), 2) := by decide +kernel
theorem d_Mo_fits_2 : decode b_Mo_fits 2 = .ok (.iload_n 1, 1) := by decide +kernel
theorem d_Mo_fits_3 : decode b_Mo_fits 3 = .ok (.imul, 1) := by decide +kernel
theorem d_Mo_fits_4 : decode b_Mo_fits 4 = .ok (.iload_n 2, 1) := by decide +kernel
theorem d_Mo_fits_5 : decode b_Mo_fits 5 = .ok (.iadd, 1) := by decide +kernel
theorem d_Mo_fits_6 : decode b_Mo_fits 6 = .ok (.istore_n 3, 1) := by decide +kernel
theorem d_Mo_fits_7 : decode b_Mo_fits 7 = .ok (.aload_n 0, 1) := by decide +kernel
theorem d_Mo_fits_8 : decode b_Mo_fits 8 = .ok (.getfield 29, 3) := by decide +kernel
theorem d_Mo_fits_11 : decode b_Mo_fits 11 = .ok (.iload_n 3, 1) := by decide +kernel
theorem d_Mo_fits_12 : decode b_Mo_fits 12 = .ok (.iaload, 1) := by decide +kernel
theorem d_Mo_fits_13 : decode b_Mo_fits 13 = .ok (.ifCond .ge (5), 3) := by decide +kernel
theorem d_Mo_fits_16 : decode b_Mo_fits 16 = .ok (.iconst 0, 1) := by decide +kernel
theorem d_Mo_fits_17 : decode b_Mo_fits 17 = .ok (.ireturn, 1) := by decide +kernel
theorem d_Mo_fits_18 : decode b_Mo_fits 18 = .ok (.aload_n 0, 1) := by decide +kernel
theorem d_Mo_fits_19 : decode b_Mo_fits 19 = .ok (.aload_n 0, 1) := by decide +kernel
theorem d_Mo_fits_20 : decode b_Mo_fits 20 = .ok (.getfield 29, 3) := by decide +kernel
theorem d_Mo_fits_23 : decode b_Mo_fits 23 = .ok (.iload_n 3, 1) := by decide +kernel
theorem d_Mo_fits_24 : decode b_Mo_fits 24 = .ok (.iaload, 1) := by decide +kernel
theorem d_Mo_fits_25 : decode b_Mo_fits 25 = .ok (.putfield 70, 3) := by decide +kernel
theorem d_Mo_fits_28 : decode b_Mo_fits 28 = .ok (.iconst 0, 1) := by decide +kernel
theorem d_Mo_fits_29 : decode b_Mo_fits 29 = .ok (.istore 4, 2) := by decide +kernel
theorem d_Mo_fits_31 : decode b_Mo_fits 31 = .ok (.iload 4, 2) := by decide +kernel
theorem d_Mo_fits_33 : decode b_Mo_fits 33 = .ok (.bipush (12), 2) := by decide +kernel
theorem d_Mo_fits_35 : decode b_Mo_fits 35 = .ok (.if_icmp .ge (28), 3) := by decide +kernel
theorem d_Mo_fits_38 : decode b_Mo_fits 38 = .ok (.aload_n 0, 1) := by decide +kernel
theorem d_Mo_fits_39 : decode b_Mo_fits 39 = .ok (.getfield 38, 3) := by decide +kernel
theorem d_Mo_fits_42 : decode b_Mo_fits 42 = .ok (.iload 4, 2) := by decide +kernel
theorem d_Mo_fits_44 : decode b_Mo_fits 44 = .ok (.aload_n 0, 1) := by decide +kernel
theorem d_Mo_fits_45 : decode b_Mo_fits 45 = .ok (.getfield 32, 3) := by decide +kernel
theorem d_Mo_fits_48 : decode b_Mo_fits 48 = .ok (.bipush (12), 2) := by decide +kernel
theorem d_Mo_fits_50 : decode b_Mo_fits 50 = .ok (.iload_n 3, 1) := by decide +kernel
theorem d_Mo_fits_51 : decode b_Mo_fits 51 = .ok (.imul, 1) := by decide +kernel
theorem d_Mo_fits_52 : decode b_Mo_fits 52 = .ok (.iload 4, 2) := by decide +kernel
theorem d_Mo_fits_54 : decode b_Mo_fits 54 = .ok (.iadd, 1) := by decide +kernel
theorem d_Mo_fits_55 : decode b_Mo_fits 55 = .ok (.iaload, 1) := by decide +kernel
theorem d_Mo_fits_56 : decode b_Mo_fits 56 = .ok (.iastore, 1) := by decide +kernel
theorem d_Mo_fits_57 : decode b_Mo_fits 57 = .ok (.iinc 4 (1), 3) := by decide +kernel
theorem d_Mo_fits_60 : decode b_Mo_fits 60 = .ok (.goto (-29), 3) := by decide +kernel
theorem d_Mo_fits_63 : decode b_Mo_fits 63 = .ok (.aload_n 0, 1) := by decide +kernel
theorem d_Mo_fits_64 : decode b_Mo_fits 64 = .ok (.iload_n 1, 1) := by decide +kernel
theorem d_Mo_fits_65 : decode b_Mo_fits 65 = .ok (.iload_n 2, 1) := by decide +kernel
theorem d_Mo_fits_66 : decode b_Mo_fits 66 = .ok (.invokevirtual 117, 3) := by decide +kernel
theorem d_Mo_fits_69 : decode b_Mo_fits 69 = .ok (.aload_n 0, 1) := by decide +kernel
theorem d_Mo_fits_70 : decode b_Mo_fits 70 = .ok (.getfield 73, 3) := by decide +kernel
theorem d_Mo_fits_73 : decode b_Mo_fits 73 = .ok (.ifCond .ne (7), 3) := by decide +kernel
theorem d_Mo_fits_76 : decode b_Mo_fits 76 = .ok (.iconst 1, 1) := by decide +kernel
theorem d_Mo_fits_77 : decode b_Mo_fits 77 = .ok (.goto (4), 3) := by decide +kernel
theorem d_Mo_fits_80 : decode b_Mo_fits 80 = .ok (.iconst 0, 1) := by decide +kernel
theorem d_Mo_fits_81 : decode b_Mo_fits 81 = .ok (.ireturn, 1) := by decide +kernel
def y_Mo_work : MethodName := ⟨"FrameVerifierModel", "work", "(I)I"⟩
abbrev b_Mo_work : ByteArray := prog_11_method_18_code
def rm_Mo_work : Room := { frames := 5, cells := 0, slots := 0, locals := 115 }
abbrev w_Mo_work : List Cond := Cond.code y_Mo_work b_Mo_work 4 (some .int) :: wG
theorem m_Mo_work : Cond.code y_Mo_work b_Mo_work 4 (some .int) ∈ wG := wg_t 842 (by decide +kernel) (by decide +kernel)
theorem q_Mo_work : y_Mo_work.cls ≠ "java/lang/invoke/MethodHandle" ∧ y_Mo_work.cls ≠ "java/lang/invoke/VarHandle" ∧ (parseMethodDescriptor y_Mo_work.desc).map (fun d => d.parameters.length) = some 1 := by decide +kernel
theorem g_Mo_work : Cond.initialized y_Mo_work.cls ∈ wG := wg_t 6 (by decide +kernel) (by decide +kernel)
theorem s_Mo_work : Cond.instanceMethod y_Mo_work ∈ wG := wg_t 841 (by decide +kernel) (by decide +kernel)
theorem e_Mo_work : Cond.selects "FrameVerifierModel" y_Mo_work y_Mo_work ∈ wG := wg_s (q := (y_Mo_work, 27)) 21 (by decide +kernel) (by decide +kernel)
theorem d_Mo_work_0 : decode b_Mo_work 0 = .ok (.bipush (100), 2) := by decide +kernel
theorem d_Mo_work_2 : decode b_Mo_work 2 = .ok (.iload_n 1, 1) := by decide +kernel
theorem d_Mo_work_3 : decode b_Mo_work 3 = .ok (.imul, 1) := by decide +kernel
theorem d_Mo_work_4 : decode b_Mo_work 4 = .ok (.istore_n 2, 1) := by decide +kernel
theorem d_Mo_work_5 : decode b_Mo_work 5 = .ok (.iload_n 2, 1) := by decide +kernel
theorem d_Mo_work_6 : decode b_Mo_work 6 = .ok (.bipush (100), 2) := by decide +kernel
theorem d_Mo_work_8 : decode b_Mo_work 8 = .ok (.iload_n 1, 1) := by decide +kernel
theorem d_Mo_work_9 : decode b_Mo_work 9 = .ok (.imul, 1) := by decide +kernel
theorem d_Mo_work_10 : decode b_Mo_work 10 = .ok (.bipush (100), 2) := by decide +kernel
theorem d_Mo_work_12 : decode b_Mo_work 12 = .ok (.iadd, 1) := by decide +kernel
theorem d_Mo_work_13 : decode b_Mo_work 13 = .ok (.if_icmp .ge (23), 3) := by decide +kernel
theorem d_Mo_work_16 : decode b_Mo_work 16 = .ok (.aload_n 0, 1) := by decide +kernel
theorem d_Mo_work_17 : decode b_Mo_work 17 = .ok (.getfield 29, 3) := by decide +kernel
theorem d_Mo_work_20 : decode b_Mo_work 20 = .ok (.iload_n 2, 1) := by decide +kernel
theorem d_Mo_work_21 : decode b_Mo_work 21 = .ok (.iconst (-1), 1) := by decide +kernel
theorem d_Mo_work_22 : decode b_Mo_work 22 = .ok (.iastore, 1) := by decide +kernel
theorem d_Mo_work_23 : decode b_Mo_work 23 = .ok (.aload_n 0, 1) := by decide +kernel
theorem d_Mo_work_24 : decode b_Mo_work 24 = .ok (.getfield 35, 3) := by decide +kernel
theorem d_Mo_work_27 : decode b_Mo_work 27 = .ok (.iload_n 2, 1) := by decide +kernel
theorem d_Mo_work_28 : decode b_Mo_work 28 = .ok (.iconst 0, 1) := by decide +kernel
theorem d_Mo_work_29 : decode b_Mo_work 29 = .ok (.bastore, 1) := by decide +kernel
theorem d_Mo_work_30 : decode b_Mo_work 30 = .ok (.iinc 2 (1), 3) := by decide +kernel
theorem d_Mo_work_33 : decode b_Mo_work 33 = .ok (.goto (-28), 3) := by decide +kernel
theorem d_Mo_work_36 : decode b_Mo_work 36 = .ok (.aload_n 0, 1) := by decide +kernel
theorem d_Mo_work_37 : decode b_Mo_work 37 = .ok (.getfield 16, 3) := by decide +kernel
theorem d_Mo_work_40 : decode b_Mo_work 40 = .ok (.iload_n 1, 1) := by decide +kernel
theorem d_Mo_work_41 : decode b_Mo_work 41 = .ok (.baload, 1) := by decide +kernel
theorem d_Mo_work_42 : decode b_Mo_work 42 = .ok (.ifCond .ne (5), 3) := by decide +kernel
theorem d_Mo_work_45 : decode b_Mo_work 45 = .ok (.iconst (-1), 1) := by decide +kernel
theorem d_Mo_work_46 : decode b_Mo_work 46 = .ok (.ireturn, 1) := by decide +kernel
theorem d_Mo_work_47 : decode b_Mo_work 47 = .ok (.aload_n 0, 1) := by decide +kernel
theorem d_Mo_work_48 : decode b_Mo_work 48 = .ok (.aload_n 0, 1) := by decide +kernel
theorem d_Mo_work_49 : decode b_Mo_work 49 = .ok (.getfield 20, 3) := by decide +kernel
theorem d_Mo_work_52 : decode b_Mo_work 52 = .ok (.iload_n 1, 1) := by decide +kernel
theorem d_Mo_work_53 : decode b_Mo_work 53 = .ok (.iaload, 1) := by decide +kernel
theorem d_Mo_work_54 : decode b_Mo_work 54 = .ok (.invokevirtual 76, 3) := by decide +kernel
theorem d_Mo_work_57 : decode b_Mo_work 57 = .ok (.ifCond .ne (7), 3) := by decide +kernel
theorem d_Mo_work_60 : decode b_Mo_work 60 = .ok (.sipush (999), 3) := by decide +kernel
theorem d_Mo_work_63 : decode b_Mo_work 63 = .ok (.ireturn, 1) := by decide +kernel
theorem d_Mo_work_64 : decode b_Mo_work 64 = .ok (.aload_n 0, 1) := by decide +kernel
theorem d_Mo_work_65 : decode b_Mo_work 65 = .ok (.iconst 0, 1) := by decide +kernel
theorem d_Mo_work_66 : decode b_Mo_work 66 = .ok (.putfield 70, 3) := by decide +kernel
theorem d_Mo_work_69 : decode b_Mo_work 69 = .ok (.iconst 0, 1) := by decide +kernel
theorem d_Mo_work_70 : decode b_Mo_work 70 = .ok (.istore_n 2, 1) := by decide +kernel
theorem d_Mo_work_71 : decode b_Mo_work 71 = .ok (.iload_n 2, 1) := by decide +kernel
theorem d_Mo_work_72 : decode b_Mo_work 72 = .ok (.bipush (6), 2) := by decide +kernel
theorem d_Mo_work_74 : decode b_Mo_work 74 = .ok (.if_icmp .ge (35), 3) := by decide +kernel
theorem d_Mo_work_77 : decode b_Mo_work 77 = .ok (.aload_n 0, 1) := by decide +kernel
theorem d_Mo_work_78 : decode b_Mo_work 78 = .ok (.getfield 38, 3) := by decide +kernel
theorem d_Mo_work_81 : decode b_Mo_work 81 = .ok (.iload_n 2, 1) := by decide +kernel
theorem d_Mo_work_82 : decode b_Mo_work 82 = .ok (.iload_n 2, 1) := by decide +kernel
theorem d_Mo_work_83 : decode b_Mo_work 83 = .ok (.aload_n 0, 1) := by decide +kernel
theorem d_Mo_work_84 : decode b_Mo_work 84 = .ok (.getfield 23, 3) := by decide +kernel
theorem d_Mo_work_87 : decode b_Mo_work 87 = .ok (.iload_n 1, 1) := by decide +kernel
theorem d_Mo_work_88 : decode b_Mo_work 88 = .ok (.iaload, 1) := by decide +kernel
theorem d_Mo_work_89 : decode b_Mo_work 89 = .ok (.if_icmp .ge (12), 3) := by decide +kernel
theorem d_Mo_work_92 : decode b_Mo_work 92 = .ok (.aload_n 0, 1) := by decide +kernel
theorem d_Mo_work_93 : decode b_Mo_work 93 = .ok (.iload_n 1, 1) := by decide +kernel
theorem d_Mo_work_94 : decode b_Mo_work 94 = .ok (.iload_n 2, 1) := by decide +kernel
theorem d_Mo_work_95 : decode b_Mo_work 95 = .ok (.invokevirtual 110, 3) := by decide +kernel
theorem d_Mo_work_98 : decode b_Mo_work 98 = .ok (.goto (4), 3) := by decide +kernel
theorem d_Mo_work_101 : decode b_Mo_work 101 = .ok (.iconst 0, 1) := by decide +kernel
theorem d_Mo_work_102 : decode b_Mo_work 102 = .ok (.iastore, 1) := by decide +kernel
theorem d_Mo_work_103 : decode b_Mo_work 103 = .ok (.iinc 2 (1), 3) := by decide +kernel
theorem d_Mo_work_106 : decode b_Mo_work 106 = .ok (.goto (-35), 3) := by decide +kernel
theorem d_Mo_work_109 : decode b_Mo_work 109 = .ok (.aload_n 0, 1) := by decide +kernel
theorem d_Mo_work_110 : decode b_Mo_work 110 = .ok (.iload_n 1, 1) := by decide +kernel
theorem d_Mo_work_111 : decode b_Mo_work 111 = .ok (.aload_n 0, 1) := by decide +kernel
theorem d_Mo_work_112 : decode b_Mo_work 112 = .ok (.getfield 20, 3) := by decide +kernel
theorem d_Mo_work_115 : decode b_Mo_work 115 = .ok (.iload_n 1, 1) := by decide +kernel
theorem d_Mo_work_116 : decode b_Mo_work 116 = .ok (.iaload, 1) := by decide +kernel
theorem d_Mo_work_117 : decode b_Mo_work 117 = .ok (.invokevirtual 120, 3) := by decide +kernel
theorem d_Mo_work_120 : decode b_Mo_work 120 = .ok (.iconst 0, 1) := by decide +kernel
theorem d_Mo_work_121 : decode b_Mo_work 121 = .ok (.istore_n 2, 1) := by decide +kernel
theorem d_Mo_work_122 : decode b_Mo_work 122 = .ok (.iload_n 2, 1) := by decide +kernel
theorem d_Mo_work_123 : decode b_Mo_work 123 = .ok (.aload_n 0, 1) := by decide +kernel

/-! names of 10.machine -/
def y_Ma_isRunning : MethodName := ⟨"FrameVerifier$Machine", "isRunning", "()Z"⟩
abbrev b_Ma_isRunning : ByteArray := prog_6_method_2_code
def rm_Ma_isRunning : Room := { frames := 0, cells := 0, slots := 0, locals := 0 }
abbrev w_Ma_isRunning : List Cond := Cond.code y_Ma_isRunning b_Ma_isRunning 1 (some .boolean) :: wG
theorem m_Ma_isRunning : Cond.code y_Ma_isRunning b_Ma_isRunning 1 (some .boolean) ∈ wG := wg_t 417 (by decide +kernel) (by decide +kernel)
theorem q_Ma_isRunning : y_Ma_isRunning.cls ≠ "java/lang/invoke/MethodHandle" ∧ y_Ma_isRunning.cls ≠ "java/lang/invoke/VarHandle" ∧ (parseMethodDescriptor y_Ma_isRunning.desc).map (fun d => d.parameters.length) = some 0 := by decide +kernel
theorem g_Ma_isRunning : Cond.initialized y_Ma_isRunning.cls ∈ wG := wg_t 4 (by decide +kernel) (by decide +kernel)
theorem s_Ma_isRunning : Cond.instanceMethod y_Ma_isRunning ∈ wG := wg_t 415 (by decide +kernel) (by decide +kernel)
theorem e_Ma_isRunning : Cond.selects "FrameVerifier$Machine" y_Ma_isRunning y_Ma_isRunning ∈ wG := wg_t 416 (by decide +kernel) (by decide +kernel)
theorem d_Ma_isRunning_0 : decode b_Ma_isRunning 0 = .ok (.aload_n 0, 1) := by decide +kernel
theorem d_Ma_isRunning_1 : decode b_Ma_isRunning 1 = .ok (.getfield 15, 3) := by decide +kernel
theorem d_Ma_isRunning_4 : decode b_Ma_isRunning 4 = .ok (.ifCond .le (7), 3) := by decide +kernel
theorem d_Ma_isRunning_7 : decode b_Ma_isRunning 7 = .ok (.iconst 1, 1) := by decide +kernel
theorem d_Ma_isRunning_8 : decode b_Ma_isRunning 8 = .ok (.goto (4), 3) := by decide +kernel
theorem d_Ma_isRunning_11 : decode b_Ma_isRunning 11 = .ok (.iconst 0, 1) := by decide +kernel
theorem d_Ma_isRunning_12 : decode b_Ma_isRunning 12 = .ok (.ireturn, 1) := by decide +kernel
def y_Ma_top : MethodName := ⟨"FrameVerifier$Machine", "top", "()LFrameVerifier$Frame;"⟩
abbrev b_Ma_top : ByteArray := prog_6_method_3_code
def rm_Ma_top : Room := { frames := 0, cells := 0, slots := 0, locals := 0 }
abbrev w_Ma_top : List Cond := Cond.code y_Ma_top b_Ma_top 1 (some (.object "FrameVerifier$Frame")) :: wG
theorem m_Ma_top : Cond.code y_Ma_top b_Ma_top 1 (some (.object "FrameVerifier$Frame")) ∈ wG := wg_t 425 (by decide +kernel) (by decide +kernel)
theorem q_Ma_top : y_Ma_top.cls ≠ "java/lang/invoke/MethodHandle" ∧ y_Ma_top.cls ≠ "java/lang/invoke/VarHandle" ∧ (parseMethodDescriptor y_Ma_top.desc).map (fun d => d.parameters.length) = some 0 := by decide +kernel
theorem g_Ma_top : Cond.initialized y_Ma_top.cls ∈ wG := wg_t 4 (by decide +kernel) (by decide +kernel)
theorem s_Ma_top : Cond.instanceMethod y_Ma_top ∈ wG := wg_t 423 (by decide +kernel) (by decide +kernel)
theorem e_Ma_top : Cond.selects "FrameVerifier$Machine" y_Ma_top y_Ma_top ∈ wG := wg_t 424 (by decide +kernel) (by decide +kernel)
theorem d_Ma_top_0 : decode b_Ma_top 0 = .ok (.aload_n 0, 1) := by decide +kernel
theorem d_Ma_top_1 : decode b_Ma_top 1 = .ok (.getfield 31, 3) := by decide +kernel
theorem d_Ma_top_4 : decode b_Ma_top 4 = .ok (.aload_n 0, 1) := by decide +kernel
theorem d_Ma_top_5 : decode b_Ma_top 5 = .ok (.getfield 15, 3) := by decide +kernel
theorem d_Ma_top_8 : decode b_Ma_top 8 = .ok (.iconst 1, 1) := by decide +kernel
theorem d_Ma_top_9 : decode b_Ma_top 9 = .ok (.isub, 1) := by decide +kernel
theorem d_Ma_top_10 : decode b_Ma_top 10 = .ok (.aaload, 1) := by decide +kernel
theorem d_Ma_top_11 : decode b_Ma_top 11 = .ok (.areturn, 1) := by decide +kernel
def y_Ma_openFrame : MethodName := ⟨"FrameVerifier$Machine", "openFrame", "(I)LFrameVerifier$Frame;"⟩
abbrev b_Ma_openFrame : ByteArray := prog_6_method_7_code
def rm_Ma_openFrame : Room := { frames := 2, cells := 0, slots := 0, locals := 46 }
abbrev w_Ma_openFrame : List Cond := Cond.code y_Ma_openFrame b_Ma_openFrame 3 (some (.object "FrameVerifier$Frame")) :: wG
theorem m_Ma_openFrame : Cond.code y_Ma_openFrame b_Ma_openFrame 3 (some (.object "FrameVerifier$Frame")) ∈ wG := wg_t 395 (by decide +kernel) (by decide +kernel)
theorem q_Ma_openFrame : y_Ma_openFrame.cls ≠ "java/lang/invoke/MethodHandle" ∧ y_Ma_openFrame.cls ≠ "java/lang/invoke/VarHandle" ∧ (parseMethodDescriptor y_Ma_openFrame.desc).map (fun d => d.parameters.length) = some 1 := by decide +kernel
theorem g_Ma_openFrame : Cond.initialized y_Ma_openFrame.cls ∈ wG := wg_t 4 (by decide +kernel) (by decide +kernel)
theorem s_Ma_openFrame : Cond.instanceMethod y_Ma_openFrame ∈ wG := wg_t 394 (by decide +kernel) (by decide +kernel)
theorem e_Ma_openFrame : Cond.selects "FrameVerifier$Machine" y_Ma_openFrame y_Ma_openFrame ∈ wG := wg_s (q := (y_Ma_openFrame, 6)) 11 (by decide +kernel) (by decide +kernel)
theorem d_Ma_openFrame_0 : decode b_Ma_openFrame 0 = .ok (.aload_n 0, 1) := by decide +kernel
theorem d_Ma_openFrame_1 : decode b_Ma_openFrame 1 = .ok (.getfield 31, 3) := by decide +kernel
theorem d_Ma_openFrame_4 : decode b_Ma_openFrame 4 = .ok (.aload_n 0, 1) := by decide +kernel
theorem d_Ma_openFrame_5 : decode b_Ma_openFrame 5 = .ok (.getfield 15, 3) := by decide +kernel
theorem d_Ma_openFrame_8 : decode b_Ma_openFrame 8 = .ok (.aaload, 1) := by decide +kernel
theorem d_Ma_openFrame_9 : decode b_Ma_openFrame 9 = .ok (.astore_n 2, 1) := by decide +kernel
theorem d_Ma_openFrame_10 : decode b_Ma_openFrame 10 = .ok (.aload_n 0, 1) := by decide +kernel
theorem d_Ma_openFrame_11 : decode b_Ma_openFrame 11 = .ok (.dup, 1) := by decide +kernel
theorem d_Ma_openFrame_12 : decode b_Ma_openFrame 12 = .ok (.getfield 15, 3) := by decide +kernel
theorem d_Ma_openFrame_15 : decode b_Ma_openFrame 15 = .ok (.iconst 1, 1) := by decide +kernel
theorem d_Ma_openFrame_16 : decode b_Ma_openFrame 16 = .ok (.iadd, 1) := by decide +kernel
theorem d_Ma_openFrame_17 : decode b_Ma_openFrame 17 = .ok (.putfield 15, 3) := by decide +kernel
theorem d_Ma_openFrame_20 : decode b_Ma_openFrame 20 = .ok (.aload_n 2, 1) := by decide +kernel
theorem d_Ma_openFrame_21 : decode b_Ma_openFrame 21 = .ok (.iload_n 1, 1) := by decide +kernel
theorem d_Ma_openFrame_22 : decode b_Ma_openFrame 22 = .ok (.aload_n 0, 1) := by decide +kernel
theorem d_Ma_openFrame_23 : decode b_Ma_openFrame 23 = .ok (.getfield 9, 3) := by decide +kernel
theorem d_Ma_openFrame_26 : decode b_Ma_openFrame 26 = .ok (.iload_n 1, 1) := by decide +kernel
theorem d_Ma_openFrame_27 : decode b_Ma_openFrame 27 = .ok (.invokevirtual 101, 3) := by decide +kernel
theorem d_Ma_openFrame_30 : decode b_Ma_openFrame 30 = .ok (.aload_n 0, 1) := by decide +kernel
theorem d_Ma_openFrame_31 : decode b_Ma_openFrame 31 = .ok (.getfield 9, 3) := by decide +kernel
theorem d_Ma_openFrame_34 : decode b_Ma_openFrame 34 = .ok (.iload_n 1, 1) := by decide +kernel
theorem d_Ma_openFrame_35 : decode b_Ma_openFrame 35 = .ok (.invokevirtual 104, 3) := by decide +kernel
theorem d_Ma_openFrame_38 : decode b_Ma_openFrame 38 = .ok (.invokevirtual 107, 3) := by decide +kernel
theorem d_Ma_openFrame_41 : decode b_Ma_openFrame 41 = .ok (.aload_n 2, 1) := by decide +kernel
theorem d_Ma_openFrame_42 : decode b_Ma_openFrame 42 = .ok (.areturn, 1) := by decide +kernel
def y_Ma_firstValue : MethodName := ⟨"FrameVerifier$Machine", "firstValue", "(LFrameVerifier$Frame;II)I"⟩
abbrev b_Ma_firstValue : ByteArray := prog_6_method_6_code
def rm_Ma_firstValue : Room := { frames := 1, cells := 0, slots := 0, locals := 21 }
abbrev w_Ma_firstValue : List Cond := Cond.code y_Ma_firstValue b_Ma_firstValue 3 (some .int) :: wG
theorem m_Ma_firstValue : Cond.code y_Ma_firstValue b_Ma_firstValue 3 (some .int) ∈ wG := wg_t 404 (by decide +kernel) (by decide +kernel)
theorem q_Ma_firstValue : y_Ma_firstValue.cls ≠ "java/lang/invoke/MethodHandle" ∧ y_Ma_firstValue.cls ≠ "java/lang/invoke/VarHandle" ∧ (parseMethodDescriptor y_Ma_firstValue.desc).map (fun d => d.parameters.length) = some 3 := by decide +kernel
theorem g_Ma_firstValue : Cond.initialized y_Ma_firstValue.cls ∈ wG := wg_t 4 (by decide +kernel) (by decide +kernel)
theorem s_Ma_firstValue : Cond.static y_Ma_firstValue ∈ wG := wg_t 403 (by decide +kernel) (by decide +kernel)
theorem d_Ma_firstValue_0 : decode b_Ma_firstValue 0 = .ok (.aload_n 0, 1) := by decide +kernel
theorem d_Ma_firstValue_1 : decode b_Ma_firstValue 1 = .ok (.getfield 92, 3) := by decide +kernel
theorem d_Ma_firstValue_4 : decode b_Ma_firstValue 4 = .ok (.iload_n 1, 1) := by decide +kernel
theorem d_Ma_firstValue_5 : decode b_Ma_firstValue 5 = .ok (.invokestatic 95, 3) := by decide +kernel
theorem d_Ma_firstValue_8 : decode b_Ma_firstValue 8 = .ok (.iconst 2, 1) := by decide +kernel
theorem d_Ma_firstValue_9 : decode b_Ma_firstValue 9 = .ok (.if_icmp .ne (7), 3) := by decide +kernel
theorem d_Ma_firstValue_12 : decode b_Ma_firstValue 12 = .ok (.iconst 0, 1) := by decide +kernel
theorem d_Ma_firstValue_13 : decode b_Ma_firstValue 13 = .ok (.goto (4), 3) := by decide +kernel
theorem d_Ma_firstValue_16 : decode b_Ma_firstValue 16 = .ok (.iload_n 2, 1) := by decide +kernel
theorem d_Ma_firstValue_17 : decode b_Ma_firstValue 17 = .ok (.ireturn, 1) := by decide +kernel
def y_Ma_begin : MethodName := ⟨"FrameVerifier$Machine", "begin", "(III)V"⟩
abbrev b_Ma_begin : ByteArray := prog_6_method_4_code
def rm_Ma_begin : Room := { frames := 3, cells := 0, slots := 0, locals := 68 }
abbrev w_Ma_begin : List Cond := Cond.code y_Ma_begin b_Ma_begin 5 none :: wG
theorem m_Ma_begin : Cond.code y_Ma_begin b_Ma_begin 5 none ∈ wG := wg_t 391 (by decide +kernel) (by decide +kernel)
theorem q_Ma_begin : y_Ma_begin.cls ≠ "java/lang/invoke/MethodHandle" ∧ y_Ma_begin.cls ≠ "java/lang/invoke/VarHandle" ∧ (parseMethodDescriptor y_Ma_begin.desc).map (fun d => d.parameters.length) = some 3 := by decide +kernel
theorem g_Ma_begin : Cond.initialized y_Ma_begin.cls ∈ wG := wg_t 4 (by decide +kernel) (by decide +kernel)
theorem s_Ma_begin : Cond.instanceMethod y_Ma_begin ∈ wG := wg_t 389 (by decide +kernel) (by decide +kernel)
theorem e_Ma_begin : Cond.selects "FrameVerifier$Machine" y_Ma_begin y_Ma_begin ∈ wG := wg_t 390 (by decide +kernel) (by decide +kernel)
theorem d_Ma_begin_0 : decode b_Ma_begin 0 = .ok (.aload_n 0, 1) := by decide +kernel
theorem d_Ma_begin_1 : decode b_Ma_begin 1 = .ok (.iconst 0, 1) := by decide +kernel
theorem d_Ma_begin_2 : decode b_Ma_begin 2 = .ok (.putfield 15, 3) := by decide +kernel
theorem d_Ma_begin_5 : decode b_Ma_begin 5 = .ok (.aload_n 0, 1) := by decide +kernel
theorem d_Ma_begin_6 : decode b_Ma_begin 6 = .ok (.iconst 0, 1) := by decide +kernel
theorem d_Ma_begin_7 : decode b_Ma_begin 7 = .ok (.putfield 19, 3) := by decide +kernel
theorem d_Ma_begin_10 : decode b_Ma_begin 10 = .ok (.aload_n 0, 1) := by decide +kernel
theorem d_Ma_begin_11 : decode b_Ma_begin 11 = .ok (.iconst 0, 1) := by decide +kernel
theorem d_Ma_begin_12 : decode b_Ma_begin 12 = .ok (.invokevirtual 36, 3) := by decide +kernel
theorem d_Ma_begin_15 : decode b_Ma_begin 15 = .ok (.astore 4, 2) := by decide +kernel
theorem d_Ma_begin_17 : decode b_Ma_begin 17 = .ok (.aload 4, 2) := by decide +kernel
theorem d_Ma_begin_19 : decode b_Ma_begin 19 = .ok (.iconst 0, 1) := by decide +kernel
theorem d_Ma_begin_20 : decode b_Ma_begin 20 = .ok (.aload 4, 2) := by decide +kernel
theorem d_Ma_begin_22 : decode b_Ma_begin 22 = .ok (.iconst 0, 1) := by decide +kernel
theorem d_Ma_begin_23 : decode b_Ma_begin 23 = .ok (.iload_n 1, 1) := by decide +kernel
theorem d_Ma_begin_24 : decode b_Ma_begin 24 = .ok (.invokestatic 40, 3) := by decide +kernel
theorem d_Ma_begin_27 : decode b_Ma_begin 27 = .ok (.invokevirtual 44, 3) := by decide +kernel
theorem d_Ma_begin_30 : decode b_Ma_begin 30 = .ok (.aload 4, 2) := by decide +kernel
theorem d_Ma_begin_32 : decode b_Ma_begin 32 = .ok (.iconst 1, 1) := by decide +kernel
theorem d_Ma_begin_33 : decode b_Ma_begin 33 = .ok (.aload 4, 2) := by decide +kernel
theorem d_Ma_begin_35 : decode b_Ma_begin 35 = .ok (.iconst 1, 1) := by decide +kernel
theorem d_Ma_begin_36 : decode b_Ma_begin 36 = .ok (.iload_n 2, 1) := by decide +kernel
theorem d_Ma_begin_37 : decode b_Ma_begin 37 = .ok (.invokestatic 40, 3) := by decide +kernel
theorem d_Ma_begin_40 : decode b_Ma_begin 40 = .ok (.invokevirtual 44, 3) := by decide +kernel
theorem d_Ma_begin_43 : decode b_Ma_begin 43 = .ok (.aload 4, 2) := by decide +kernel
theorem d_Ma_begin_45 : decode b_Ma_begin 45 = .ok (.iconst 2, 1) := by decide +kernel
theorem d_Ma_begin_46 : decode b_Ma_begin 46 = .ok (.aload 4, 2) := by decide +kernel
theorem d_Ma_begin_48 : decode b_Ma_begin 48 = .ok (.iconst 2, 1) := by decide +kernel
theorem d_Ma_begin_49 : decode b_Ma_begin 49 = .ok (.iload_n 3, 1) := by decide +kernel
theorem d_Ma_begin_50 : decode b_Ma_begin 50 = .ok (.invokestatic 40, 3) := by decide +kernel
theorem d_Ma_begin_53 : decode b_Ma_begin 53 = .ok (.invokevirtual 44, 3) := by decide +kernel
theorem d_Ma_begin_56 : decode b_Ma_begin 56 = .ok (.return_, 1) := by decide +kernel
def y_Ma_lengthOf : MethodName := ⟨"FrameVerifier$Machine", "lengthOf", "(I)I"⟩
abbrev b_Ma_lengthOf : ByteArray := prog_6_method_18_code
def rm_Ma_lengthOf : Room := { frames := 0, cells := 0, slots := 0, locals := 0 }
abbrev w_Ma_lengthOf : List Cond := Cond.code y_Ma_lengthOf b_Ma_lengthOf 1 (some .int) :: wG
theorem m_Ma_lengthOf : Cond.code y_Ma_lengthOf b_Ma_lengthOf 1 (some .int) ∈ wG := wg_t 557 (by decide +kernel) (by decide +kernel)
theorem q_Ma_lengthOf : y_Ma_lengthOf.cls ≠ "java/lang/invoke/MethodHandle" ∧ y_Ma_lengthOf.cls ≠ "java/lang/invoke/VarHandle" ∧ (parseMethodDescriptor y_Ma_lengthOf.desc).map (fun d => d.parameters.length) = some 1 := by decide +kernel
theorem g_Ma_lengthOf : Cond.initialized y_Ma_lengthOf.cls ∈ wG := wg_t 4 (by decide +kernel) (by decide +kernel)
theorem s_Ma_lengthOf : Cond.static y_Ma_lengthOf ∈ wG := wg_t 556 (by decide +kernel) (by decide +kernel)
theorem d_Ma_lengthOf_0 : decode b_Ma_lengthOf 0 = .ok (.iload_n 0, 1) := by decide +kernel
theorem d_Ma_lengthOf_1 : decode b_Ma_lengthOf 1 = .ok (.iconst 1, 1) := by decide +kernel
theorem d_Ma_lengthOf_2 : decode b_Ma_lengthOf 2 = .ok (.isub, 1) := by decide +kernel
theorem d_Ma_lengthOf_3 : decode b_Ma_lengthOf 3 = .ok (.bipush (15), 2) := by decide +kernel
theorem d_Ma_lengthOf_5 : decode b_Ma_lengthOf 5 = .ok (.iand, 1) := by decide +kernel
theorem d_Ma_lengthOf_6 : decode b_Ma_lengthOf 6 = .ok (.ireturn, 1) := by decide +kernel
def y_Ma_elementTrap : MethodName := ⟨"FrameVerifier$Machine", "elementTrap", "(II)LFrameVerifier$Trap;"⟩
abbrev b_Ma_elementTrap : ByteArray := prog_6_method_9_code
def rm_Ma_elementTrap : Room := { frames := 1, cells := 0, slots := 0, locals := 20 }
abbrev w_Ma_elementTrap : List Cond := Cond.code y_Ma_elementTrap b_Ma_elementTrap 2 (some (.object "FrameVerifier$Trap")) :: wG
theorem m_Ma_elementTrap : Cond.code y_Ma_elementTrap b_Ma_elementTrap 2 (some (.object "FrameVerifier$Trap")) ∈ wG := wg_t 552 (by decide +kernel) (by decide +kernel)
theorem q_Ma_elementTrap : y_Ma_elementTrap.cls ≠ "java/lang/invoke/MethodHandle" ∧ y_Ma_elementTrap.cls ≠ "java/lang/invoke/VarHandle" ∧ (parseMethodDescriptor y_Ma_elementTrap.desc).map (fun d => d.parameters.length) = some 2 := by decide +kernel
theorem g_Ma_elementTrap : Cond.initialized y_Ma_elementTrap.cls ∈ wG := wg_t 4 (by decide +kernel) (by decide +kernel)
theorem s_Ma_elementTrap : Cond.static y_Ma_elementTrap ∈ wG := wg_t 551 (by decide +kernel) (by decide +kernel)
theorem d_Ma_elementTrap_0 : decode b_Ma_elementTrap 0 = .ok (.iload_n 0, 1) := by decide +kernel
theorem d_Ma_elementTrap_1 : decode b_Ma_elementTrap 1 = .ok (.ifCond .ne (7), 3) := by decide +kernel
theorem d_Ma_elementTrap_4 : decode b_Ma_elementTrap 4 = .ok (.getstatic 140, 3) := by decide +kernel
theorem d_Ma_elementTrap_7 : decode b_Ma_elementTrap 7 = .ok (.areturn, 1) := by decide +kernel
theorem d_Ma_elementTrap_8 : decode b_Ma_elementTrap 8 = .ok (.iload_n 1, 1) := by decide +kernel
theorem d_Ma_elementTrap_9 : decode b_Ma_elementTrap 9 = .ok (.ifCond .lt (17), 3) := by decide +kernel
theorem d_Ma_elementTrap_12 : decode b_Ma_elementTrap 12 = .ok (.iload_n 1, 1) := by decide +kernel
theorem d_Ma_elementTrap_13 : decode b_Ma_elementTrap 13 = .ok (.iload_n 0, 1) := by decide +kernel
theorem d_Ma_elementTrap_14 : decode b_Ma_elementTrap 14 = .ok (.invokestatic 150, 3) := by decide +kernel
theorem d_Ma_elementTrap_17 : decode b_Ma_elementTrap 17 = .ok (.if_icmp .ge (9), 3) := by decide +kernel
theorem d_Ma_elementTrap_20 : decode b_Ma_elementTrap 20 = .ok (.getstatic 56, 3) := by decide +kernel
theorem d_Ma_elementTrap_23 : decode b_Ma_elementTrap 23 = .ok (.goto (6), 3) := by decide +kernel
theorem d_Ma_elementTrap_26 : decode b_Ma_elementTrap 26 = .ok (.getstatic 153, 3) := by decide +kernel
theorem d_Ma_elementTrap_29 : decode b_Ma_elementTrap 29 = .ok (.areturn, 1) := by decide +kernel
def y_Ma_canMake : MethodName := ⟨"FrameVerifier$Machine", "canMake", "(I)Z"⟩
abbrev b_Ma_canMake : ByteArray := prog_6_method_10_code
def rm_Ma_canMake : Room := { frames := 0, cells := 0, slots := 0, locals := 0 }
abbrev w_Ma_canMake : List Cond := Cond.code y_Ma_canMake b_Ma_canMake 2 (some .boolean) :: wG
theorem m_Ma_canMake : Cond.code y_Ma_canMake b_Ma_canMake 2 (some .boolean) ∈ wG := wg_t 563 (by decide +kernel) (by decide +kernel)
theorem q_Ma_canMake : y_Ma_canMake.cls ≠ "java/lang/invoke/MethodHandle" ∧ y_Ma_canMake.cls ≠ "java/lang/invoke/VarHandle" ∧ (parseMethodDescriptor y_Ma_canMake.desc).map (fun d => d.parameters.length) = some 1 := by decide +kernel
theorem g_Ma_canMake : Cond.initialized y_Ma_canMake.cls ∈ wG := wg_t 4 (by decide +kernel) (by decide +kernel)
theorem s_Ma_canMake : Cond.instanceMethod y_Ma_canMake ∈ wG := wg_t 562 (by decide +kernel) (by decide +kernel)
theorem e_Ma_canMake : Cond.selects "FrameVerifier$Machine" y_Ma_canMake y_Ma_canMake ∈ wG := wg_s (q := (y_Ma_canMake, 6)) 15 (by decide +kernel) (by decide +kernel)
theorem d_Ma_canMake_0 : decode b_Ma_canMake 0 = .ok (.iload_n 1, 1) := by decide +kernel
theorem d_Ma_canMake_1 : decode b_Ma_canMake 1 = .ok (.ifCond .lt (24), 3) := by decide +kernel
theorem d_Ma_canMake_4 : decode b_Ma_canMake 4 = .ok (.iload_n 1, 1) := by decide +kernel
theorem d_Ma_canMake_5 : decode b_Ma_canMake 5 = .ok (.bipush (12), 2) := by decide +kernel
theorem d_Ma_canMake_7 : decode b_Ma_canMake 7 = .ok (.if_icmp .gt (18), 3) := by decide +kernel
theorem d_Ma_canMake_10 : decode b_Ma_canMake 10 = .ok (.aload_n 0, 1) := by decide +kernel
theorem d_Ma_canMake_11 : decode b_Ma_canMake 11 = .ok (.getfield 19, 3) := by decide +kernel
theorem d_Ma_canMake_14 : decode b_Ma_canMake 14 = .ok (.iload_n 1, 1) := by decide +kernel
theorem d_Ma_canMake_15 : decode b_Ma_canMake 15 = .ok (.iadd, 1) := by decide +kernel
theorem d_Ma_canMake_16 : decode b_Ma_canMake 16 = .ok (.bipush (30), 2) := by decide +kernel
theorem d_Ma_canMake_18 : decode b_Ma_canMake 18 = .ok (.if_icmp .gt (7), 3) := by decide +kernel
theorem d_Ma_canMake_21 : decode b_Ma_canMake 21 = .ok (.iconst 1, 1) := by decide +kernel
theorem d_Ma_canMake_22 : decode b_Ma_canMake 22 = .ok (.goto (4), 3) := by decide +kernel
theorem d_Ma_canMake_25 : decode b_Ma_canMake 25 = .ok (.iconst 0, 1) := by decide +kernel
theorem d_Ma_canMake_26 : decode b_Ma_canMake 26 = .ok (.ireturn, 1) := by decide +kernel
def y_Ma_trapOf : MethodName := ⟨"FrameVerifier$Machine", "trapOf", "(LFrameVerifier$Frame;)LFrameVerifier$Trap;"⟩
abbrev b_Ma_trapOf : ByteArray := prog_6_method_8_code
def rm_Ma_trapOf : Room := { frames := 8, cells := 0, slots := 0, locals := 183 }
abbrev w_Ma_trapOf : List Cond := Cond.code y_Ma_trapOf b_Ma_trapOf 2 (some (.object "FrameVerifier$Trap")) :: wG
theorem m_Ma_trapOf : Cond.code y_Ma_trapOf b_Ma_trapOf 2 (some (.object "FrameVerifier$Trap")) ∈ wG := wg_t 534 (by decide +kernel) (by decide +kernel)
theorem q_Ma_trapOf : y_Ma_trapOf.cls ≠ "java/lang/invoke/MethodHandle" ∧ y_Ma_trapOf.cls ≠ "java/lang/invoke/VarHandle" ∧ (parseMethodDescriptor y_Ma_trapOf.desc).map (fun d => d.parameters.length) = some 1 := by decide +kernel
theorem g_Ma_trapOf : Cond.initialized y_Ma_trapOf.cls ∈ wG := wg_t 4 (by decide +kernel) (by decide +kernel)
theorem s_Ma_trapOf : Cond.instanceMethod y_Ma_trapOf ∈ wG := wg_t 533 (by decide +kernel) (by decide +kernel)
theorem e_Ma_trapOf : Cond.selects "FrameVerifier$Machine" y_Ma_trapOf y_Ma_trapOf ∈ wG := wg_s (q := (y_Ma_trapOf, 6)) 14 (by decide +kernel) (by decide +kernel)
theorem d_Ma_trapOf_0 : decode b_Ma_trapOf 0 = .ok (.aload_n 0, 1) := by decide +kernel
theorem d_Ma_trapOf_1 : decode b_Ma_trapOf 1 = .ok (.getfield 9, 3) := by decide +kernel
theorem d_Ma_trapOf_4 : decode b_Ma_trapOf 4 = .ok (.aload_n 1, 1) := by decide +kernel
theorem d_Ma_trapOf_5 : decode b_Ma_trapOf 5 = .ok (.getfield 111, 3) := by decide +kernel
theorem d_Ma_trapOf_8 : decode b_Ma_trapOf 8 = .ok (.aload_n 1, 1) := by decide +kernel
theorem d_Ma_trapOf_9 : decode b_Ma_trapOf 9 = .ok (.getfield 66, 3) := by decide +kernel
theorem d_Ma_trapOf_12 : decode b_Ma_trapOf 12 = .ok (.aload_n 1, 1) := by decide +kernel
theorem d_Ma_trapOf_13 : decode b_Ma_trapOf 13 = .ok (.getfield 92, 3) := by decide +kernel
theorem d_Ma_trapOf_16 : decode b_Ma_trapOf 16 = .ok (.invokevirtual 114, 3) := by decide +kernel
theorem d_Ma_trapOf_19 : decode b_Ma_trapOf 19 = .ok (.ifCond .ne (7), 3) := by decide +kernel
theorem d_Ma_trapOf_22 : decode b_Ma_trapOf 22 = .ok (.getstatic 118, 3) := by decide +kernel
theorem d_Ma_trapOf_25 : decode b_Ma_trapOf 25 = .ok (.areturn, 1) := by decide +kernel
theorem d_Ma_trapOf_26 : decode b_Ma_trapOf 26 = .ok (.getstatic 121, 3) := by decide +kernel
theorem d_Ma_trapOf_29 : decode b_Ma_trapOf 29 = .ok (.aload_n 0, 1) := by decide +kernel
theorem d_Ma_trapOf_30 : decode b_Ma_trapOf 30 = .ok (.getfield 9, 3) := by decide +kernel
theorem d_Ma_trapOf_33 : decode b_Ma_trapOf 33 = .ok (.aload_n 1, 1) := by decide +kernel
theorem d_Ma_trapOf_34 : decode b_Ma_trapOf 34 = .ok (.getfield 66, 3) := by decide +kernel
theorem d_Ma_trapOf_37 : decode b_Ma_trapOf 37 = .ok (.invokevirtual 69, 3) := by decide +kernel
theorem d_Ma_trapOf_40 : decode b_Ma_trapOf 40 = .ok (.invokevirtual 126, 3) := by decide +kernel
theorem d_Ma_trapOf_43 : decode b_Ma_trapOf 43 = .ok (.iaload, 1) := by decide +kernel
theorem d_Ma_trapOf_44 : decode b_Ma_trapOf 44 = .ok (.tableswitch (149) (5) (11) #[(130), (149), (44), (62), (76), (90), (108)], 44) := by decide +kernel
theorem d_Ma_trapOf_88 : decode b_Ma_trapOf 88 = .ok (.aload_n 1, 1) := by decide +kernel
theorem d_Ma_trapOf_89 : decode b_Ma_trapOf 89 = .ok (.iconst 0, 1) := by decide +kernel
theorem d_Ma_trapOf_90 : decode b_Ma_trapOf 90 = .ok (.invokevirtual 130, 3) := by decide +kernel
theorem d_Ma_trapOf_93 : decode b_Ma_trapOf 93 = .ok (.ifCond .ne (9), 3) := by decide +kernel
theorem d_Ma_trapOf_96 : decode b_Ma_trapOf 96 = .ok (.getstatic 133, 3) := by decide +kernel
theorem d_Ma_trapOf_99 : decode b_Ma_trapOf 99 = .ok (.goto (6), 3) := by decide +kernel
theorem d_Ma_trapOf_102 : decode b_Ma_trapOf 102 = .ok (.getstatic 56, 3) := by decide +kernel
theorem d_Ma_trapOf_105 : decode b_Ma_trapOf 105 = .ok (.areturn, 1) := by decide +kernel
theorem d_Ma_trapOf_106 : decode b_Ma_trapOf 106 = .ok (.aload_n 1, 1) := by decide +kernel
theorem d_Ma_trapOf_107 : decode b_Ma_trapOf 107 = .ok (.iconst 1, 1) := by decide +kernel
theorem d_Ma_trapOf_108 : decode b_Ma_trapOf 108 = .ok (.invokevirtual 130, 3) := by decide +kernel
theorem d_Ma_trapOf_111 : decode b_Ma_trapOf 111 = .ok (.aload_n 1, 1) := by decide +kernel
theorem d_Ma_trapOf_112 : decode b_Ma_trapOf 112 = .ok (.iconst 0, 1) := by decide +kernel
theorem d_Ma_trapOf_113 : decode b_Ma_trapOf 113 = .ok (.invokevirtual 130, 3) := by decide +kernel
theorem d_Ma_trapOf_116 : decode b_Ma_trapOf 116 = .ok (.invokestatic 136, 3) := by decide +kernel
theorem d_Ma_trapOf_119 : decode b_Ma_trapOf 119 = .ok (.areturn, 1) := by decide +kernel
theorem d_Ma_trapOf_120 : decode b_Ma_trapOf 120 = .ok (.aload_n 1, 1) := by decide +kernel
theorem d_Ma_trapOf_121 : decode b_Ma_trapOf 121 = .ok (.iconst 2, 1) := by decide +kernel
theorem d_Ma_trapOf_122 : decode b_Ma_trapOf 122 = .ok (.invokevirtual 130, 3) := by decide +kernel
theorem d_Ma_trapOf_125 : decode b_Ma_trapOf 125 = .ok (.aload_n 1, 1) := by decide +kernel
theorem d_Ma_trapOf_126 : decode b_Ma_trapOf 126 = .ok (.iconst 1, 1) := by decide +kernel
theorem d_Ma_trapOf_127 : decode b_Ma_trapOf 127 = .ok (.invokevirtual 130, 3) := by decide +kernel
theorem d_Ma_trapOf_130 : decode b_Ma_trapOf 130 = .ok (.invokestatic 136, 3) := by decide +kernel
theorem d_Ma_trapOf_133 : decode b_Ma_trapOf 133 = .ok (.areturn, 1) := by decide +kernel
theorem d_Ma_trapOf_134 : decode b_Ma_trapOf 134 = .ok (.aload_n 1, 1) := by decide +kernel
theorem d_Ma_trapOf_135 : decode b_Ma_trapOf 135 = .ok (.iconst 0, 1) := by decide +kernel
theorem d_Ma_trapOf_136 : decode b_Ma_trapOf 136 = .ok (.invokevirtual 130, 3) := by decide +kernel
theorem d_Ma_trapOf_139 : decode b_Ma_trapOf 139 = .ok (.ifCond .ne (9), 3) := by decide +kernel
theorem d_Ma_trapOf_142 : decode b_Ma_trapOf 142 = .ok (.getstatic 140, 3) := by decide +kernel
theorem d_Ma_trapOf_145 : decode b_Ma_trapOf 145 = .ok (.goto (6), 3) := by decide +kernel
theorem d_Ma_trapOf_148 : decode b_Ma_trapOf 148 = .ok (.getstatic 56, 3) := by decide +kernel
theorem d_Ma_trapOf_151 : decode b_Ma_trapOf 151 = .ok (.areturn, 1) := by decide +kernel
theorem d_Ma_trapOf_152 : decode b_Ma_trapOf 152 = .ok (.aload_n 0, 1) := by decide +kernel
theorem d_Ma_trapOf_153 : decode b_Ma_trapOf 153 = .ok (.aload_n 1, 1) := by decide +kernel
theorem d_Ma_trapOf_154 : decode b_Ma_trapOf 154 = .ok (.iconst 0, 1) := by decide +kernel
theorem d_Ma_trapOf_155 : decode b_Ma_trapOf 155 = .ok (.invokevirtual 130, 3) := by decide +kernel
theorem d_Ma_trapOf_158 : decode b_Ma_trapOf 158 = .ok (.invokevirtual 143, 3) := by decide +kernel
theorem d_Ma_trapOf_161 : decode b_Ma_trapOf 161 = .ok (.ifCond .eq (9), 3) := by decide +kernel
theorem d_Ma_trapOf_164 : decode b_Ma_trapOf 164 = .ok (.getstatic 56, 3) := by decide +kernel
theorem d_Ma_trapOf_167 : decode b_Ma_trapOf 167 = .ok (.goto (6), 3) := by decide +kernel
theorem d_Ma_trapOf_170 : decode b_Ma_trapOf 170 = .ok (.getstatic 147, 3) := by decide +kernel
theorem d_Ma_trapOf_173 : decode b_Ma_trapOf 173 = .ok (.areturn, 1) := by decide +kernel
theorem d_Ma_trapOf_174 : decode b_Ma_trapOf 174 = .ok (.aload_n 0, 1) := by decide +kernel
theorem d_Ma_trapOf_175 : decode b_Ma_trapOf 175 = .ok (.getfield 15, 3) := by decide +kernel
theorem d_Ma_trapOf_178 : decode b_Ma_trapOf 178 = .ok (.bipush (8), 2) := by decide +kernel
theorem d_Ma_trapOf_180 : decode b_Ma_trapOf 180 = .ok (.if_icmp .ge (9), 3) := by decide +kernel
theorem d_Ma_trapOf_183 : decode b_Ma_trapOf 183 = .ok (.getstatic 56, 3) := by decide +kernel
theorem d_Ma_trapOf_186 : decode b_Ma_trapOf 186 = .ok (.goto (6), 3) := by decide +kernel
theorem d_Ma_trapOf_189 : decode b_Ma_trapOf 189 = .ok (.getstatic 147, 3) := by decide +kernel
theorem d_Ma_trapOf_192 : decode b_Ma_trapOf 192 = .ok (.areturn, 1) := by decide +kernel
theorem d_Ma_trapOf_193 : decode b_Ma_trapOf 193 = .ok (.getstatic 56, 3) := by decide +kernel
theorem d_Ma_trapOf_196 : decode b_Ma_trapOf 196 = .ok (.areturn, 1) := by decide +kernel
def y_Ma_jump : MethodName := ⟨"FrameVerifier$Machine", "jump", "(LFrameVerifier$Frame;LFrameVerifier$Op;I)V"⟩
abbrev b_Ma_jump : ByteArray := prog_6_method_12_code
def rm_Ma_jump : Room := { frames := 3, cells := 0, slots := 0, locals := 67 }
abbrev w_Ma_jump : List Cond := Cond.code y_Ma_jump b_Ma_jump 3 none :: wG
theorem m_Ma_jump : Cond.code y_Ma_jump b_Ma_jump 3 none ∈ wG := wg_t 640 (by decide +kernel) (by decide +kernel)
theorem q_Ma_jump : y_Ma_jump.cls ≠ "java/lang/invoke/MethodHandle" ∧ y_Ma_jump.cls ≠ "java/lang/invoke/VarHandle" ∧ (parseMethodDescriptor y_Ma_jump.desc).map (fun d => d.parameters.length) = some 3 := by decide +kernel
theorem g_Ma_jump : Cond.initialized y_Ma_jump.cls ∈ wG := wg_t 4 (by decide +kernel) (by decide +kernel)
theorem s_Ma_jump : Cond.static y_Ma_jump ∈ wG := wg_t 639 (by decide +kernel) (by decide +kernel)
theorem d_Ma_jump_0 : decode b_Ma_jump 0 = .ok (.aload_n 1, 1) := by decide +kernel
theorem d_Ma_jump_1 : decode b_Ma_jump 1 = .ok (.getstatic 175, 3) := by decide +kernel
theorem d_Ma_jump_4 : decode b_Ma_jump 4 = .ok (.if_acmp .eq (10), 3) := by decide +kernel
theorem d_Ma_jump_7 : decode b_Ma_jump 7 = .ok (.aload_n 0, 1) := by decide +kernel
theorem d_Ma_jump_8 : decode b_Ma_jump 8 = .ok (.invokevirtual 179, 3) := by decide +kernel
theorem d_Ma_jump_11 : decode b_Ma_jump 11 = .ok (.ifCond .ne (8), 3) := by decide +kernel
theorem d_Ma_jump_14 : decode b_Ma_jump 14 = .ok (.aload_n 0, 1) := by decide +kernel
theorem d_Ma_jump_15 : decode b_Ma_jump 15 = .ok (.iload_n 2, 1) := by decide +kernel
theorem d_Ma_jump_16 : decode b_Ma_jump 16 = .ok (.putfield 66, 3) := by decide +kernel
theorem d_Ma_jump_19 : decode b_Ma_jump 19 = .ok (.return_, 1) := by decide +kernel
def y_Ma_reckoned : MethodName := ⟨"FrameVerifier$Machine", "reckoned", "(LFrameVerifier$Op;II)I"⟩
abbrev b_Ma_reckoned : ByteArray := prog_6_method_15_code
def rm_Ma_reckoned : Room := { frames := 1, cells := 0, slots := 0, locals := 20 }
abbrev w_Ma_reckoned : List Cond := Cond.code y_Ma_reckoned b_Ma_reckoned 3 (some .int) :: wG
theorem m_Ma_reckoned : Cond.code y_Ma_reckoned b_Ma_reckoned 3 (some .int) ∈ wG := wg_t 657 (by decide +kernel) (by decide +kernel)
theorem q_Ma_reckoned : y_Ma_reckoned.cls ≠ "java/lang/invoke/MethodHandle" ∧ y_Ma_reckoned.cls ≠ "java/lang/invoke/VarHandle" ∧ (parseMethodDescriptor y_Ma_reckoned.desc).map (fun d => d.parameters.length) = some 3 := by decide +kernel
theorem g_Ma_reckoned : Cond.initialized y_Ma_reckoned.cls ∈ wG := wg_t 4 (by decide +kernel) (by decide +kernel)
theorem s_Ma_reckoned : Cond.static y_Ma_reckoned ∈ wG := wg_t 656 (by decide +kernel) (by decide +kernel)
theorem d_Ma_reckoned_0 : decode b_Ma_reckoned 0 = .ok (.getstatic 121, 3) := by decide +kernel
theorem d_Ma_reckoned_3 : decode b_Ma_reckoned 3 = .ok (.aload_n 0, 1) := by decide +kernel
theorem d_Ma_reckoned_4 : decode b_Ma_reckoned 4 = .ok (.invokevirtual 126, 3) := by decide +kernel
theorem d_Ma_reckoned_7 : decode b_Ma_reckoned 7 = .ok (.iaload, 1) := by decide +kernel
theorem d_Ma_reckoned_8 : decode b_Ma_reckoned 8 = .ok (.tableswitch (40) (12) (14) #[(28), (32), (36)], 28) := by decide +kernel
theorem d_Ma_reckoned_36 : decode b_Ma_reckoned 36 = .ok (.iload_n 1, 1) := by decide +kernel
theorem d_Ma_reckoned_37 : decode b_Ma_reckoned 37 = .ok (.iload_n 2, 1) := by decide +kernel
theorem d_Ma_reckoned_38 : decode b_Ma_reckoned 38 = .ok (.iadd, 1) := by decide +kernel
theorem d_Ma_reckoned_39 : decode b_Ma_reckoned 39 = .ok (.ireturn, 1) := by decide +kernel
theorem d_Ma_reckoned_40 : decode b_Ma_reckoned 40 = .ok (.iload_n 1, 1) := by decide +kernel
theorem d_Ma_reckoned_41 : decode b_Ma_reckoned 41 = .ok (.iload_n 2, 1) := by decide +kernel
theorem d_Ma_reckoned_42 : decode b_Ma_reckoned 42 = .ok (.isub, 1) := by decide +kernel
theorem d_Ma_reckoned_43 : decode b_Ma_reckoned 43 = .ok (.ireturn, 1) := by decide +kernel
theorem d_Ma_reckoned_44 : decode b_Ma_reckoned 44 = .ok (.iload_n 1, 1) := by decide +kernel
theorem d_Ma_reckoned_45 : decode b_Ma_reckoned 45 = .ok (.iload_n 2, 1) := by decide +kernel
theorem d_Ma_reckoned_46 : decode b_Ma_reckoned 46 = .ok (.imul, 1) := by decide +kernel
theorem d_Ma_reckoned_47 : decode b_Ma_reckoned 47 = .ok (.ireturn, 1) := by decide +kernel
theorem d_Ma_reckoned_48 : decode b_Ma_reckoned 48 = .ok (.iload_n 2, 1) := by decide +kernel
theorem d_Ma_reckoned_49 : decode b_Ma_reckoned 49 = .ok (.ifCond .ne (7), 3) := by decide +kernel
theorem d_Ma_reckoned_52 : decode b_Ma_reckoned 52 = .ok (.iconst 0, 1) := by decide +kernel
theorem d_Ma_reckoned_53 : decode b_Ma_reckoned 53 = .ok (.goto (6), 3) := by decide +kernel
theorem d_Ma_reckoned_56 : decode b_Ma_reckoned 56 = .ok (.iload_n 1, 1) := by decide +kernel
theorem d_Ma_reckoned_57 : decode b_Ma_reckoned 57 = .ok (.iload_n 2, 1) := by decide +kernel
theorem d_Ma_reckoned_58 : decode b_Ma_reckoned 58 = .ok (.idiv, 1) := by decide +kernel
theorem d_Ma_reckoned_59 : decode b_Ma_reckoned 59 = .ok (.ireturn, 1) := by decide +kernel
def y_Ma_reckon : MethodName := ⟨"FrameVerifier$Machine", "reckon", "(LFrameVerifier$Frame;LFrameVerifier$Op;)V"⟩
abbrev b_Ma_reckon : ByteArray := prog_6_method_14_code
def rm_Ma_reckon : Room := { frames := 3, cells := 0, slots := 0, locals := 67 }
abbrev w_Ma_reckon : List Cond := Cond.code y_Ma_reckon b_Ma_reckon 4 none :: wG
theorem m_Ma_reckon : Cond.code y_Ma_reckon b_Ma_reckon 4 none ∈ wG := wg_t 654 (by decide +kernel) (by decide +kernel)
theorem q_Ma_reckon : y_Ma_reckon.cls ≠ "java/lang/invoke/MethodHandle" ∧ y_Ma_reckon.cls ≠ "java/lang/invoke/VarHandle" ∧ (parseMethodDescriptor y_Ma_reckon.desc).map (fun d => d.parameters.length) = some 2 := by decide +kernel
theorem g_Ma_reckon : Cond.initialized y_Ma_reckon.cls ∈ wG := wg_t 4 (by decide +kernel) (by decide +kernel)
theorem s_Ma_reckon : Cond.static y_Ma_reckon ∈ wG := wg_t 653 (by decide +kernel) (by decide +kernel)
theorem d_Ma_reckon_0 : decode b_Ma_reckon 0 = .ok (.aload_n 0, 1) := by decide +kernel
theorem d_Ma_reckon_1 : decode b_Ma_reckon 1 = .ok (.invokevirtual 179, 3) := by decide +kernel
theorem d_Ma_reckon_4 : decode b_Ma_reckon 4 = .ok (.istore_n 2, 1) := by decide +kernel
theorem d_Ma_reckon_5 : decode b_Ma_reckon 5 = .ok (.aload_n 0, 1) := by decide +kernel
theorem d_Ma_reckon_6 : decode b_Ma_reckon 6 = .ok (.invokevirtual 179, 3) := by decide +kernel
theorem d_Ma_reckon_9 : decode b_Ma_reckon 9 = .ok (.istore_n 3, 1) := by decide +kernel
theorem d_Ma_reckon_10 : decode b_Ma_reckon 10 = .ok (.aload_n 0, 1) := by decide +kernel
theorem d_Ma_reckon_11 : decode b_Ma_reckon 11 = .ok (.iconst 1, 1) := by decide +kernel
theorem d_Ma_reckon_12 : decode b_Ma_reckon 12 = .ok (.aload_n 1, 1) := by decide +kernel
theorem d_Ma_reckon_13 : decode b_Ma_reckon 13 = .ok (.iload_n 3, 1) := by decide +kernel
theorem d_Ma_reckon_14 : decode b_Ma_reckon 14 = .ok (.iload_n 2, 1) := by decide +kernel
theorem d_Ma_reckon_15 : decode b_Ma_reckon 15 = .ok (.invokestatic 200, 3) := by decide +kernel
theorem d_Ma_reckon_18 : decode b_Ma_reckon 18 = .ok (.invokevirtual 204, 3) := by decide +kernel
theorem d_Ma_reckon_21 : decode b_Ma_reckon 21 = .ok (.return_, 1) := by decide +kernel
def y_Ma_makeArray : MethodName := ⟨"FrameVerifier$Machine", "makeArray", "(I)I"⟩
abbrev b_Ma_makeArray : ByteArray := prog_6_method_17_code
def rm_Ma_makeArray : Room := { frames := 0, cells := 0, slots := 0, locals := 0 }
abbrev w_Ma_makeArray : List Cond := Cond.code y_Ma_makeArray b_Ma_makeArray 4 (some .int) :: wG
theorem m_Ma_makeArray : Cond.code y_Ma_makeArray b_Ma_makeArray 4 (some .int) ∈ wG := wg_t 670 (by decide +kernel) (by decide +kernel)
theorem q_Ma_makeArray : y_Ma_makeArray.cls ≠ "java/lang/invoke/MethodHandle" ∧ y_Ma_makeArray.cls ≠ "java/lang/invoke/VarHandle" ∧ (parseMethodDescriptor y_Ma_makeArray.desc).map (fun d => d.parameters.length) = some 1 := by decide +kernel
theorem g_Ma_makeArray : Cond.initialized y_Ma_makeArray.cls ∈ wG := wg_t 4 (by decide +kernel) (by decide +kernel)
theorem s_Ma_makeArray : Cond.instanceMethod y_Ma_makeArray ∈ wG := wg_t 669 (by decide +kernel) (by decide +kernel)
theorem e_Ma_makeArray : Cond.selects "FrameVerifier$Machine" y_Ma_makeArray y_Ma_makeArray ∈ wG := wg_s (q := (y_Ma_makeArray, 6)) 18 (by decide +kernel) (by decide +kernel)
theorem d_Ma_makeArray_0 : decode b_Ma_makeArray 0 = .ok (.iconst 1, 1) := by decide +kernel
theorem d_Ma_makeArray_1 : decode b_Ma_makeArray 1 = .ok (.aload_n 0, 1) := by decide +kernel
theorem d_Ma_makeArray_2 : decode b_Ma_makeArray 2 = .ok (.getfield 19, 3) := by decide +kernel
theorem d_Ma_makeArray_5 : decode b_Ma_makeArray 5 = .ok (.iconst 4, 1) := by decide +kernel
theorem d_Ma_makeArray_6 : decode b_Ma_makeArray 6 = .ok (.ishl, 1) := by decide +kernel
theorem d_Ma_makeArray_7 : decode b_Ma_makeArray 7 = .ok (.iadd, 1) := by decide +kernel
theorem d_Ma_makeArray_8 : decode b_Ma_makeArray 8 = .ok (.iload_n 1, 1) := by decide +kernel
theorem d_Ma_makeArray_9 : decode b_Ma_makeArray 9 = .ok (.iadd, 1) := by decide +kernel
theorem d_Ma_makeArray_10 : decode b_Ma_makeArray 10 = .ok (.istore_n 2, 1) := by decide +kernel
theorem d_Ma_makeArray_11 : decode b_Ma_makeArray 11 = .ok (.iconst 0, 1) := by decide +kernel
theorem d_Ma_makeArray_12 : decode b_Ma_makeArray 12 = .ok (.istore_n 3, 1) := by decide +kernel
theorem d_Ma_makeArray_13 : decode b_Ma_makeArray 13 = .ok (.iload_n 3, 1) := by decide +kernel
theorem d_Ma_makeArray_14 : decode b_Ma_makeArray 14 = .ok (.iload_n 1, 1) := by decide +kernel
theorem d_Ma_makeArray_15 : decode b_Ma_makeArray 15 = .ok (.if_icmp .ge (21), 3) := by decide +kernel
theorem d_Ma_makeArray_18 : decode b_Ma_makeArray 18 = .ok (.aload_n 0, 1) := by decide +kernel
theorem d_Ma_makeArray_19 : decode b_Ma_makeArray 19 = .ok (.getfield 25, 3) := by decide +kernel
theorem d_Ma_makeArray_22 : decode b_Ma_makeArray 22 = .ok (.aload_n 0, 1) := by decide +kernel
theorem d_Ma_makeArray_23 : decode b_Ma_makeArray 23 = .ok (.getfield 19, 3) := by decide +kernel
theorem d_Ma_makeArray_26 : decode b_Ma_makeArray 26 = .ok (.iload_n 3, 1) := by decide +kernel
theorem d_Ma_makeArray_27 : decode b_Ma_makeArray 27 = .ok (.iadd, 1) := by decide +kernel
theorem d_Ma_makeArray_28 : decode b_Ma_makeArray 28 = .ok (.iconst 0, 1) := by decide +kernel
theorem d_Ma_makeArray_29 : decode b_Ma_makeArray 29 = .ok (.iastore, 1) := by decide +kernel
theorem d_Ma_makeArray_30 : decode b_Ma_makeArray 30 = .ok (.iinc 3 (1), 3) := by decide +kernel
theorem d_Ma_makeArray_33 : decode b_Ma_makeArray 33 = .ok (.goto (-20), 3) := by decide +kernel
theorem d_Ma_makeArray_36 : decode b_Ma_makeArray 36 = .ok (.aload_n 0, 1) := by decide +kernel
theorem d_Ma_makeArray_37 : decode b_Ma_makeArray 37 = .ok (.dup, 1) := by decide +kernel
theorem d_Ma_makeArray_38 : decode b_Ma_makeArray 38 = .ok (.getfield 19, 3) := by decide +kernel
theorem d_Ma_makeArray_41 : decode b_Ma_makeArray 41 = .ok (.iload_n 1, 1) := by decide +kernel
theorem d_Ma_makeArray_42 : decode b_Ma_makeArray 42 = .ok (.iadd, 1) := by decide +kernel
theorem d_Ma_makeArray_43 : decode b_Ma_makeArray 43 = .ok (.putfield 19, 3) := by decide +kernel
theorem d_Ma_makeArray_46 : decode b_Ma_makeArray 46 = .ok (.iload_n 2, 1) := by decide +kernel
theorem d_Ma_makeArray_47 : decode b_Ma_makeArray 47 = .ok (.ireturn, 1) := by decide +kernel
def y_Ma_placeOf : MethodName := ⟨"FrameVerifier$Machine", "placeOf", "(II)I"⟩
abbrev b_Ma_placeOf : ByteArray := prog_6_method_19_code
def rm_Ma_placeOf : Room := { frames := 0, cells := 0, slots := 0, locals := 0 }
abbrev w_Ma_placeOf : List Cond := Cond.code y_Ma_placeOf b_Ma_placeOf 2 (some .int) :: wG
theorem m_Ma_placeOf : Cond.code y_Ma_placeOf b_Ma_placeOf 2 (some .int) ∈ wG := wg_t 673 (by decide +kernel) (by decide +kernel)
theorem q_Ma_placeOf : y_Ma_placeOf.cls ≠ "java/lang/invoke/MethodHandle" ∧ y_Ma_placeOf.cls ≠ "java/lang/invoke/VarHandle" ∧ (parseMethodDescriptor y_Ma_placeOf.desc).map (fun d => d.parameters.length) = some 2 := by decide +kernel
theorem g_Ma_placeOf : Cond.initialized y_Ma_placeOf.cls ∈ wG := wg_t 4 (by decide +kernel) (by decide +kernel)
theorem s_Ma_placeOf : Cond.static y_Ma_placeOf ∈ wG := wg_t 672 (by decide +kernel) (by decide +kernel)
theorem d_Ma_placeOf_0 : decode b_Ma_placeOf 0 = .ok (.iload_n 0, 1) := by decide +kernel
theorem d_Ma_placeOf_1 : decode b_Ma_placeOf 1 = .ok (.iconst 1, 1) := by decide +kernel
theorem d_Ma_placeOf_2 : decode b_Ma_placeOf 2 = .ok (.isub, 1) := by decide +kernel
theorem d_Ma_placeOf_3 : decode b_Ma_placeOf 3 = .ok (.iconst 4, 1) := by decide +kernel
theorem d_Ma_placeOf_4 : decode b_Ma_placeOf 4 = .ok (.ishr, 1) := by decide +kernel
theorem d_Ma_placeOf_5 : decode b_Ma_placeOf 5 = .ok (.iload_n 1, 1) := by decide +kernel
theorem d_Ma_placeOf_6 : decode b_Ma_placeOf 6 = .ok (.iadd, 1) := by decide +kernel
theorem d_Ma_placeOf_7 : decode b_Ma_placeOf 7 = .ok (.ireturn, 1) := by decide +kernel
def y_Ma_useArray : MethodName := ⟨"FrameVerifier$Machine", "useArray", "(LFrameVerifier$Frame;LFrameVerifier$Op;)V"⟩
abbrev b_Ma_useArray : ByteArray := prog_6_method_16_code
def rm_Ma_useArray : Room := { frames := 3, cells := 0, slots := 0, locals := 67 }
abbrev w_Ma_useArray : List Cond := Cond.code y_Ma_useArray b_Ma_useArray 6 none :: wG
theorem m_Ma_useArray : Cond.code y_Ma_useArray b_Ma_useArray 6 none ∈ wG := wg_t 666 (by decide +kernel) (by decide +kernel)
theorem q_Ma_useArray : y_Ma_useArray.cls ≠ "java/lang/invoke/MethodHandle" ∧ y_Ma_useArray.cls ≠ "java/lang/invoke/VarHandle" ∧ (parseMethodDescriptor y_Ma_useArray.desc).map (fun d => d.parameters.length) = some 2 := by decide +kernel
theorem g_Ma_useArray : Cond.initialized y_Ma_useArray.cls ∈ wG := wg_t 4 (by decide +kernel) (by decide +kernel)
theorem s_Ma_useArray : Cond.instanceMethod y_Ma_useArray ∈ wG := wg_t 665 (by decide +kernel) (by decide +kernel)
theorem e_Ma_useArray : Cond.selects "FrameVerifier$Machine" y_Ma_useArray y_Ma_useArray ∈ wG := wg_s (q := (y_Ma_useArray, 6)) 17 (by decide +kernel) (by decide +kernel)
theorem d_Ma_useArray_0 : decode b_Ma_useArray 0 = .ok (.getstatic 121, 3) := by decide +kernel
theorem d_Ma_useArray_3 : decode b_Ma_useArray 3 = .ok (.aload_n 2, 1) := by decide +kernel
theorem d_Ma_useArray_4 : decode b_Ma_useArray 4 = .ok (.invokevirtual 126, 3) := by decide +kernel
theorem d_Ma_useArray_7 : decode b_Ma_useArray 7 = .ok (.iaload, 1) := by decide +kernel
theorem d_Ma_useArray_8 : decode b_Ma_useArray 8 = .ok (.tableswitch (89) (8) (11) #[(63), (89), (48), (32)], 32) := by decide +kernel
theorem d_Ma_useArray_40 : decode b_Ma_useArray 40 = .ok (.aload_n 1, 1) := by decide +kernel
theorem d_Ma_useArray_41 : decode b_Ma_useArray 41 = .ok (.iconst 2, 1) := by decide +kernel
theorem d_Ma_useArray_42 : decode b_Ma_useArray 42 = .ok (.aload_n 0, 1) := by decide +kernel
theorem d_Ma_useArray_43 : decode b_Ma_useArray 43 = .ok (.aload_n 1, 1) := by decide +kernel
theorem d_Ma_useArray_44 : decode b_Ma_useArray 44 = .ok (.invokevirtual 179, 3) := by decide +kernel
theorem d_Ma_useArray_47 : decode b_Ma_useArray 47 = .ok (.invokevirtual 207, 3) := by decide +kernel
theorem d_Ma_useArray_50 : decode b_Ma_useArray 50 = .ok (.invokevirtual 204, 3) := by decide +kernel
theorem d_Ma_useArray_53 : decode b_Ma_useArray 53 = .ok (.goto (72), 3) := by decide +kernel
theorem d_Ma_useArray_56 : decode b_Ma_useArray 56 = .ok (.aload_n 1, 1) := by decide +kernel
theorem d_Ma_useArray_57 : decode b_Ma_useArray 57 = .ok (.iconst 1, 1) := by decide +kernel
theorem d_Ma_useArray_58 : decode b_Ma_useArray 58 = .ok (.aload_n 1, 1) := by decide +kernel
theorem d_Ma_useArray_59 : decode b_Ma_useArray 59 = .ok (.invokevirtual 179, 3) := by decide +kernel
theorem d_Ma_useArray_62 : decode b_Ma_useArray 62 = .ok (.invokestatic 150, 3) := by decide +kernel
theorem d_Ma_useArray_65 : decode b_Ma_useArray 65 = .ok (.invokevirtual 204, 3) := by decide +kernel
theorem d_Ma_useArray_68 : decode b_Ma_useArray 68 = .ok (.goto (57), 3) := by decide +kernel
theorem d_Ma_useArray_71 : decode b_Ma_useArray 71 = .ok (.aload_n 1, 1) := by decide +kernel
theorem d_Ma_useArray_72 : decode b_Ma_useArray 72 = .ok (.invokevirtual 179, 3) := by decide +kernel
theorem d_Ma_useArray_75 : decode b_Ma_useArray 75 = .ok (.istore_n 3, 1) := by decide +kernel
theorem d_Ma_useArray_76 : decode b_Ma_useArray 76 = .ok (.aload_n 1, 1) := by decide +kernel
theorem d_Ma_useArray_77 : decode b_Ma_useArray 77 = .ok (.iconst 1, 1) := by decide +kernel
theorem d_Ma_useArray_78 : decode b_Ma_useArray 78 = .ok (.aload_n 0, 1) := by decide +kernel
theorem d_Ma_useArray_79 : decode b_Ma_useArray 79 = .ok (.getfield 25, 3) := by decide +kernel
theorem d_Ma_useArray_82 : decode b_Ma_useArray 82 = .ok (.aload_n 1, 1) := by decide +kernel
theorem d_Ma_useArray_83 : decode b_Ma_useArray 83 = .ok (.invokevirtual 179, 3) := by decide +kernel
theorem d_Ma_useArray_86 : decode b_Ma_useArray 86 = .ok (.iload_n 3, 1) := by decide +kernel
theorem d_Ma_useArray_87 : decode b_Ma_useArray 87 = .ok (.invokestatic 210, 3) := by decide +kernel
theorem d_Ma_useArray_90 : decode b_Ma_useArray 90 = .ok (.iaload, 1) := by decide +kernel
theorem d_Ma_useArray_91 : decode b_Ma_useArray 91 = .ok (.invokevirtual 204, 3) := by decide +kernel
theorem d_Ma_useArray_94 : decode b_Ma_useArray 94 = .ok (.goto (31), 3) := by decide +kernel
theorem d_Ma_useArray_97 : decode b_Ma_useArray 97 = .ok (.aload_n 1, 1) := by decide +kernel
theorem d_Ma_useArray_98 : decode b_Ma_useArray 98 = .ok (.invokevirtual 179, 3) := by decide +kernel
theorem d_Ma_useArray_101 : decode b_Ma_useArray 101 = .ok (.istore 4, 2) := by decide +kernel
theorem d_Ma_useArray_103 : decode b_Ma_useArray 103 = .ok (.aload_n 1, 1) := by decide +kernel
theorem d_Ma_useArray_104 : decode b_Ma_useArray 104 = .ok (.invokevirtual 179, 3) := by decide +kernel
theorem d_Ma_useArray_107 : decode b_Ma_useArray 107 = .ok (.istore 5, 2) := by decide +kernel
theorem d_Ma_useArray_109 : decode b_Ma_useArray 109 = .ok (.aload_n 0, 1) := by decide +kernel
theorem d_Ma_useArray_110 : decode b_Ma_useArray 110 = .ok (.getfield 25, 3) := by decide +kernel
theorem d_Ma_useArray_113 : decode b_Ma_useArray 113 = .ok (.aload_n 1, 1) := by decide +kernel
theorem d_Ma_useArray_114 : decode b_Ma_useArray 114 = .ok (.invokevirtual 179, 3) := by decide +kernel
theorem d_Ma_useArray_117 : decode b_Ma_useArray 117 = .ok (.iload 5, 2) := by decide +kernel
theorem d_Ma_useArray_119 : decode b_Ma_useArray 119 = .ok (.invokestatic 210, 3) := by decide +kernel
theorem d_Ma_useArray_122 : decode b_Ma_useArray 122 = .ok (.iload 4, 2) := by decide +kernel
theorem d_Ma_useArray_124 : decode b_Ma_useArray 124 = .ok (.iastore, 1) := by decide +kernel
theorem d_Ma_useArray_125 : decode b_Ma_useArray 125 = .ok (.return_, 1) := by decide +kernel
def y_Ma_enter : MethodName := ⟨"FrameVerifier$Machine", "enter", "(LFrameVerifier$Frame;I)V"⟩
abbrev b_Ma_enter : ByteArray := prog_6_method_20_code
def rm_Ma_enter : Room := { frames := 3, cells := 0, slots := 0, locals := 68 }
abbrev w_Ma_enter : List Cond := Cond.code y_Ma_enter b_Ma_enter 5 none :: wG
theorem m_Ma_enter : Cond.code y_Ma_enter b_Ma_enter 5 none ∈ wG := wg_t 677 (by decide +kernel) (by decide +kernel)
theorem q_Ma_enter : y_Ma_enter.cls ≠ "java/lang/invoke/MethodHandle" ∧ y_Ma_enter.cls ≠ "java/lang/invoke/VarHandle" ∧ (parseMethodDescriptor y_Ma_enter.desc).map (fun d => d.parameters.length) = some 2 := by decide +kernel
theorem g_Ma_enter : Cond.initialized y_Ma_enter.cls ∈ wG := wg_t 4 (by decide +kernel) (by decide +kernel)
theorem s_Ma_enter : Cond.instanceMethod y_Ma_enter ∈ wG := wg_t 676 (by decide +kernel) (by decide +kernel)
theorem e_Ma_enter : Cond.selects "FrameVerifier$Machine" y_Ma_enter y_Ma_enter ∈ wG := wg_s (q := (y_Ma_enter, 6)) 19 (by decide +kernel) (by decide +kernel)
theorem d_Ma_enter_0 : decode b_Ma_enter 0 = .ok (.aload_n 0, 1) := by decide +kernel
theorem d_Ma_enter_1 : decode b_Ma_enter 1 = .ok (.iload_n 2, 1) := by decide +kernel
theorem d_Ma_enter_2 : decode b_Ma_enter 2 = .ok (.invokevirtual 36, 3) := by decide +kernel
theorem d_Ma_enter_5 : decode b_Ma_enter 5 = .ok (.astore_n 3, 1) := by decide +kernel
theorem d_Ma_enter_6 : decode b_Ma_enter 6 = .ok (.aload_n 0, 1) := by decide +kernel
theorem d_Ma_enter_7 : decode b_Ma_enter 7 = .ok (.getfield 9, 3) := by decide +kernel
theorem d_Ma_enter_10 : decode b_Ma_enter 10 = .ok (.iload_n 2, 1) := by decide +kernel
theorem d_Ma_enter_11 : decode b_Ma_enter 11 = .ok (.invokevirtual 213, 3) := by decide +kernel
theorem d_Ma_enter_14 : decode b_Ma_enter 14 = .ok (.iconst 1, 1) := by decide +kernel
theorem d_Ma_enter_15 : decode b_Ma_enter 15 = .ok (.isub, 1) := by decide +kernel
theorem d_Ma_enter_16 : decode b_Ma_enter 16 = .ok (.istore 4, 2) := by decide +kernel
theorem d_Ma_enter_18 : decode b_Ma_enter 18 = .ok (.iload 4, 2) := by decide +kernel
theorem d_Ma_enter_20 : decode b_Ma_enter 20 = .ok (.ifCond .lt (19), 3) := by decide +kernel
theorem d_Ma_enter_23 : decode b_Ma_enter 23 = .ok (.aload_n 3, 1) := by decide +kernel
theorem d_Ma_enter_24 : decode b_Ma_enter 24 = .ok (.iload 4, 2) := by decide +kernel
theorem d_Ma_enter_26 : decode b_Ma_enter 26 = .ok (.aload_n 1, 1) := by decide +kernel
theorem d_Ma_enter_27 : decode b_Ma_enter 27 = .ok (.invokevirtual 179, 3) := by decide +kernel
theorem d_Ma_enter_30 : decode b_Ma_enter 30 = .ok (.invokevirtual 44, 3) := by decide +kernel
theorem d_Ma_enter_33 : decode b_Ma_enter 33 = .ok (.iinc 4 (-1), 3) := by decide +kernel
theorem d_Ma_enter_36 : decode b_Ma_enter 36 = .ok (.goto (-18), 3) := by decide +kernel
theorem d_Ma_enter_39 : decode b_Ma_enter 39 = .ok (.return_, 1) := by decide +kernel
def y_Ma_leave : MethodName := ⟨"FrameVerifier$Machine", "leave", "(LFrameVerifier$Frame;)V"⟩
abbrev b_Ma_leave : ByteArray := prog_6_method_21_code
def rm_Ma_leave : Room := { frames := 3, cells := 0, slots := 0, locals := 66 }
abbrev w_Ma_leave : List Cond := Cond.code y_Ma_leave b_Ma_leave 2 none :: wG
theorem m_Ma_leave : Cond.code y_Ma_leave b_Ma_leave 2 none ∈ wG := wg_t 685 (by decide +kernel) (by decide +kernel)
theorem q_Ma_leave : y_Ma_leave.cls ≠ "java/lang/invoke/MethodHandle" ∧ y_Ma_leave.cls ≠ "java/lang/invoke/VarHandle" ∧ (parseMethodDescriptor y_Ma_leave.desc).map (fun d => d.parameters.length) = some 1 := by decide +kernel
theorem g_Ma_leave : Cond.initialized y_Ma_leave.cls ∈ wG := wg_t 4 (by decide +kernel) (by decide +kernel)
theorem s_Ma_leave : Cond.instanceMethod y_Ma_leave ∈ wG := wg_t 684 (by decide +kernel) (by decide +kernel)
theorem e_Ma_leave : Cond.selects "FrameVerifier$Machine" y_Ma_leave y_Ma_leave ∈ wG := wg_s (q := (y_Ma_leave, 6)) 20 (by decide +kernel) (by decide +kernel)
theorem d_Ma_leave_0 : decode b_Ma_leave 0 = .ok (.aload_n 0, 1) := by decide +kernel
theorem d_Ma_leave_1 : decode b_Ma_leave 1 = .ok (.getfield 15, 3) := by decide +kernel
theorem d_Ma_leave_4 : decode b_Ma_leave 4 = .ok (.iconst 1, 1) := by decide +kernel
theorem d_Ma_leave_5 : decode b_Ma_leave 5 = .ok (.if_icmp .ne (25), 3) := by decide +kernel
theorem d_Ma_leave_8 : decode b_Ma_leave 8 = .ok (.aload_n 0, 1) := by decide +kernel
theorem d_Ma_leave_9 : decode b_Ma_leave 9 = .ok (.aload_n 1, 1) := by decide +kernel
theorem d_Ma_leave_10 : decode b_Ma_leave 10 = .ok (.aload_n 1, 1) := by decide +kernel
theorem d_Ma_leave_11 : decode b_Ma_leave 11 = .ok (.getfield 92, 3) := by decide +kernel
theorem d_Ma_leave_14 : decode b_Ma_leave 14 = .ok (.iconst 0, 1) := by decide +kernel
theorem d_Ma_leave_15 : decode b_Ma_leave 15 = .ok (.invokestatic 216, 3) := by decide +kernel
theorem d_Ma_leave_18 : decode b_Ma_leave 18 = .ok (.invokevirtual 219, 3) := by decide +kernel
theorem d_Ma_leave_21 : decode b_Ma_leave 21 = .ok (.putfield 22, 3) := by decide +kernel
theorem d_Ma_leave_24 : decode b_Ma_leave 24 = .ok (.aload_n 0, 1) := by decide +kernel
theorem d_Ma_leave_25 : decode b_Ma_leave 25 = .ok (.iconst 0, 1) := by decide +kernel
theorem d_Ma_leave_26 : decode b_Ma_leave 26 = .ok (.putfield 15, 3) := by decide +kernel
theorem d_Ma_leave_29 : decode b_Ma_leave 29 = .ok (.return_, 1) := by decide +kernel
theorem d_Ma_leave_30 : decode b_Ma_leave 30 = .ok (.aload_n 0, 1) := by decide +kernel
theorem d_Ma_leave_31 : decode b_Ma_leave 31 = .ok (.dup, 1) := by decide +kernel
theorem d_Ma_leave_32 : decode b_Ma_leave 32 = .ok (.getfield 15, 3) := by decide +kernel
theorem d_Ma_leave_35 : decode b_Ma_leave 35 = .ok (.iconst 1, 1) := by decide +kernel
theorem d_Ma_leave_36 : decode b_Ma_leave 36 = .ok (.isub, 1) := by decide +kernel
theorem d_Ma_leave_37 : decode b_Ma_leave 37 = .ok (.putfield 15, 3) := by decide +kernel
theorem d_Ma_leave_40 : decode b_Ma_leave 40 = .ok (.aload_n 0, 1) := by decide +kernel
theorem d_Ma_leave_41 : decode b_Ma_leave 41 = .ok (.invokevirtual 48, 3) := by decide +kernel
theorem d_Ma_leave_44 : decode b_Ma_leave 44 = .ok (.aload_n 1, 1) := by decide +kernel
theorem d_Ma_leave_45 : decode b_Ma_leave 45 = .ok (.iconst 0, 1) := by decide +kernel
theorem d_Ma_leave_46 : decode b_Ma_leave 46 = .ok (.invokevirtual 222, 3) := by decide +kernel
theorem d_Ma_leave_49 : decode b_Ma_leave 49 = .ok (.aload_n 1, 1) := by decide +kernel
theorem d_Ma_leave_50 : decode b_Ma_leave 50 = .ok (.iconst 0, 1) := by decide +kernel
theorem d_Ma_leave_51 : decode b_Ma_leave 51 = .ok (.invokevirtual 130, 3) := by decide +kernel
theorem d_Ma_leave_54 : decode b_Ma_leave 54 = .ok (.invokevirtual 204, 3) := by decide +kernel
theorem d_Ma_leave_57 : decode b_Ma_leave 57 = .ok (.return_, 1) := by decide +kernel
def y_Ma_move : MethodName := ⟨"FrameVerifier$Machine", "move", "(LFrameVerifier$Frame;LFrameVerifier$Op;I)V"⟩
abbrev b_Ma_move : ByteArray := prog_6_method_22_code
def rm_Ma_move : Room := { frames := 4, cells := 0, slots := 0, locals := 91 }
abbrev w_Ma_move : List Cond := Cond.code y_Ma_move b_Ma_move 3 none :: wG
theorem m_Ma_move : Cond.code y_Ma_move b_Ma_move 3 none ∈ wG := wg_t 695 (by decide +kernel) (by decide +kernel)
theorem q_Ma_move : y_Ma_move.cls ≠ "java/lang/invoke/MethodHandle" ∧ y_Ma_move.cls ≠ "java/lang/invoke/VarHandle" ∧ (parseMethodDescriptor y_Ma_move.desc).map (fun d => d.parameters.length) = some 3 := by decide +kernel
theorem g_Ma_move : Cond.initialized y_Ma_move.cls ∈ wG := wg_t 4 (by decide +kernel) (by decide +kernel)
theorem s_Ma_move : Cond.static y_Ma_move ∈ wG := wg_t 694 (by decide +kernel) (by decide +kernel)
theorem d_Ma_move_0 : decode b_Ma_move 0 = .ok (.getstatic 121, 3) := by decide +kernel
theorem d_Ma_move_3 : decode b_Ma_move 3 = .ok (.aload_n 1, 1) := by decide +kernel
theorem d_Ma_move_4 : decode b_Ma_move 4 = .ok (.invokevirtual 126, 3) := by decide +kernel
theorem d_Ma_move_7 : decode b_Ma_move 7 = .ok (.iaload, 1) := by decide +kernel
theorem d_Ma_move_8 : decode b_Ma_move 8 = .ok (.tableswitch (138) (1) (16) #[(98), (106), (114), (131), (138), (138), (138), (138), (138), (138), (138), (138), (138), (138), (80), (89)], 80) := by decide +kernel
theorem d_Ma_move_88 : decode b_Ma_move 88 = .ok (.aload_n 0, 1) := by decide +kernel
theorem d_Ma_move_89 : decode b_Ma_move 89 = .ok (.iconst 1, 1) := by decide +kernel
theorem d_Ma_move_90 : decode b_Ma_move 90 = .ok (.iload_n 2, 1) := by decide +kernel
theorem d_Ma_move_91 : decode b_Ma_move 91 = .ok (.invokevirtual 204, 3) := by decide +kernel
theorem d_Ma_move_94 : decode b_Ma_move 94 = .ok (.goto (57), 3) := by decide +kernel
theorem d_Ma_move_97 : decode b_Ma_move 97 = .ok (.aload_n 0, 1) := by decide +kernel
theorem d_Ma_move_98 : decode b_Ma_move 98 = .ok (.iconst 2, 1) := by decide +kernel
theorem d_Ma_move_99 : decode b_Ma_move 99 = .ok (.iconst 0, 1) := by decide +kernel
theorem d_Ma_move_100 : decode b_Ma_move 100 = .ok (.invokevirtual 204, 3) := by decide +kernel
theorem d_Ma_move_103 : decode b_Ma_move 103 = .ok (.goto (48), 3) := by decide +kernel
theorem d_Ma_move_106 : decode b_Ma_move 106 = .ok (.aload_n 0, 1) := by decide +kernel
theorem d_Ma_move_107 : decode b_Ma_move 107 = .ok (.iload_n 2, 1) := by decide +kernel
theorem d_Ma_move_108 : decode b_Ma_move 108 = .ok (.invokevirtual 225, 3) := by decide +kernel
theorem d_Ma_move_111 : decode b_Ma_move 111 = .ok (.goto (40), 3) := by decide +kernel
theorem d_Ma_move_114 : decode b_Ma_move 114 = .ok (.aload_n 0, 1) := by decide +kernel
theorem d_Ma_move_115 : decode b_Ma_move 115 = .ok (.iload_n 2, 1) := by decide +kernel
theorem d_Ma_move_116 : decode b_Ma_move 116 = .ok (.invokevirtual 229, 3) := by decide +kernel
theorem d_Ma_move_119 : decode b_Ma_move 119 = .ok (.goto (32), 3) := by decide +kernel
theorem d_Ma_move_122 : decode b_Ma_move 122 = .ok (.aload_n 0, 1) := by decide +kernel
theorem d_Ma_move_123 : decode b_Ma_move 123 = .ok (.aload_n 0, 1) := by decide +kernel
theorem d_Ma_move_124 : decode b_Ma_move 124 = .ok (.iconst 0, 1) := by decide +kernel
theorem d_Ma_move_125 : decode b_Ma_move 125 = .ok (.invokevirtual 222, 3) := by decide +kernel
theorem d_Ma_move_128 : decode b_Ma_move 128 = .ok (.aload_n 0, 1) := by decide +kernel
theorem d_Ma_move_129 : decode b_Ma_move 129 = .ok (.iconst 0, 1) := by decide +kernel
theorem d_Ma_move_130 : decode b_Ma_move 130 = .ok (.invokevirtual 130, 3) := by decide +kernel
theorem d_Ma_move_133 : decode b_Ma_move 133 = .ok (.invokevirtual 204, 3) := by decide +kernel
theorem d_Ma_move_136 : decode b_Ma_move 136 = .ok (.goto (15), 3) := by decide +kernel
theorem d_Ma_move_139 : decode b_Ma_move 139 = .ok (.aload_n 0, 1) := by decide +kernel
theorem d_Ma_move_140 : decode b_Ma_move 140 = .ok (.invokevirtual 232, 3) := by decide +kernel
theorem d_Ma_move_143 : decode b_Ma_move 143 = .ok (.goto (8), 3) := by decide +kernel
theorem d_Ma_move_146 : decode b_Ma_move 146 = .ok (.aload_n 0, 1) := by decide +kernel
theorem d_Ma_move_147 : decode b_Ma_move 147 = .ok (.invokevirtual 179, 3) := by decide +kernel
theorem d_Ma_move_150 : decode b_Ma_move 150 = .ok (.pop, 1) := by decide +kernel
theorem d_Ma_move_151 : decode b_Ma_move 151 = .ok (.return_, 1) := by decide +kernel
def y_Ma_act : MethodName := ⟨"FrameVerifier$Machine", "act", "(LFrameVerifier$Frame;LFrameVerifier$Op;I)V"⟩
abbrev b_Ma_act : ByteArray := prog_6_method_13_code
def rm_Ma_act : Room := { frames := 5, cells := 0, slots := 0, locals := 113 }
abbrev w_Ma_act : List Cond := Cond.code y_Ma_act b_Ma_act 4 none :: wG
theorem m_Ma_act : Cond.code y_Ma_act b_Ma_act 4 none ∈ wG := wg_t 651 (by decide +kernel) (by decide +kernel)
theorem q_Ma_act : y_Ma_act.cls ≠ "java/lang/invoke/MethodHandle" ∧ y_Ma_act.cls ≠ "java/lang/invoke/VarHandle" ∧ (parseMethodDescriptor y_Ma_act.desc).map (fun d => d.parameters.length) = some 3 := by decide +kernel
theorem g_Ma_act : Cond.initialized y_Ma_act.cls ∈ wG := wg_t 4 (by decide +kernel) (by decide +kernel)
theorem s_Ma_act : Cond.instanceMethod y_Ma_act ∈ wG := wg_t 650 (by decide +kernel) (by decide +kernel)
theorem e_Ma_act : Cond.selects "FrameVerifier$Machine" y_Ma_act y_Ma_act ∈ wG := wg_s (q := (y_Ma_act, 6)) 16 (by decide +kernel) (by decide +kernel)
theorem d_Ma_act_0 : decode b_Ma_act 0 = .ok (.getstatic 121, 3) := by decide +kernel
theorem d_Ma_act_3 : decode b_Ma_act 3 = .ok (.aload_n 2, 1) := by decide +kernel
theorem d_Ma_act_4 : decode b_Ma_act 4 = .ok (.invokevirtual 126, 3) := by decide +kernel
theorem d_Ma_act_7 : decode b_Ma_act 7 = .ok (.iaload, 1) := by decide +kernel
theorem d_Ma_act_8 : decode b_Ma_act 8 = .ok (.tableswitch (90) (5) (14) #[(73), (82), (56), (64), (64), (64), (64), (56), (56), (56)], 56) := by decide +kernel
theorem d_Ma_act_64 : decode b_Ma_act 64 = .ok (.aload_n 1, 1) := by decide +kernel
theorem d_Ma_act_65 : decode b_Ma_act 65 = .ok (.aload_n 2, 1) := by decide +kernel
theorem d_Ma_act_66 : decode b_Ma_act 66 = .ok (.invokestatic 182, 3) := by decide +kernel
theorem d_Ma_act_69 : decode b_Ma_act 69 = .ok (.goto (35), 3) := by decide +kernel
theorem d_Ma_act_72 : decode b_Ma_act 72 = .ok (.aload_n 0, 1) := by decide +kernel
theorem d_Ma_act_73 : decode b_Ma_act 73 = .ok (.aload_n 1, 1) := by decide +kernel
theorem d_Ma_act_74 : decode b_Ma_act 74 = .ok (.aload_n 2, 1) := by decide +kernel
theorem d_Ma_act_75 : decode b_Ma_act 75 = .ok (.invokevirtual 186, 3) := by decide +kernel
theorem d_Ma_act_78 : decode b_Ma_act 78 = .ok (.goto (26), 3) := by decide +kernel
theorem d_Ma_act_81 : decode b_Ma_act 81 = .ok (.aload_n 0, 1) := by decide +kernel
theorem d_Ma_act_82 : decode b_Ma_act 82 = .ok (.aload_n 1, 1) := by decide +kernel
theorem d_Ma_act_83 : decode b_Ma_act 83 = .ok (.iload_n 3, 1) := by decide +kernel
theorem d_Ma_act_84 : decode b_Ma_act 84 = .ok (.invokevirtual 189, 3) := by decide +kernel
theorem d_Ma_act_87 : decode b_Ma_act 87 = .ok (.goto (17), 3) := by decide +kernel
theorem d_Ma_act_90 : decode b_Ma_act 90 = .ok (.aload_n 0, 1) := by decide +kernel
theorem d_Ma_act_91 : decode b_Ma_act 91 = .ok (.aload_n 1, 1) := by decide +kernel
theorem d_Ma_act_92 : decode b_Ma_act 92 = .ok (.invokevirtual 193, 3) := by decide +kernel
theorem d_Ma_act_95 : decode b_Ma_act 95 = .ok (.goto (9), 3) := by decide +kernel
theorem d_Ma_act_98 : decode b_Ma_act 98 = .ok (.aload_n 1, 1) := by decide +kernel
theorem d_Ma_act_99 : decode b_Ma_act 99 = .ok (.aload_n 2, 1) := by decide +kernel
theorem d_Ma_act_100 : decode b_Ma_act 100 = .ok (.iload_n 3, 1) := by decide +kernel
theorem d_Ma_act_101 : decode b_Ma_act 101 = .ok (.invokestatic 197, 3) := by decide +kernel
theorem d_Ma_act_104 : decode b_Ma_act 104 = .ok (.return_, 1) := by decide +kernel
theorem wd_104 : (Jvm.Cond.fieldLink "FrameVerifier$Machine" (111 : Nat) "FrameVerifier$Frame" "owner" "I") ∈ wG := wg_t 104 (by decide +kernel) (by decide +kernel)
theorem wd_106 : (Jvm.Cond.fieldLink "FrameVerifier$Machine" (66 : Nat) "FrameVerifier$Frame" "address" "I") ∈ wG := wg_t 106 (by decide +kernel) (by decide +kernel)
theorem wd_109 : (Jvm.Cond.fieldLink "FrameVerifier$Machine" (92 : Nat) "FrameVerifier$Frame" "types" "I") ∈ wG := wg_t 109 (by decide +kernel) (by decide +kernel)
theorem wd_121 : (Jvm.Cond.fieldLink "FrameVerifier$Machine" (15 : Nat) "FrameVerifier$Machine" "depth" "I") ∈ wG := wg_t 121 (by decide +kernel) (by decide +kernel)
theorem wd_123 : (Jvm.Cond.fieldLink "FrameVerifier$Machine" (19 : Nat) "FrameVerifier$Machine" "used" "I") ∈ wG := wg_t 123 (by decide +kernel) (by decide +kernel)
theorem wd_125 : (Jvm.Cond.fieldLink "FrameVerifier$Machine" (22 : Nat) "FrameVerifier$Machine" "result" "I") ∈ wG := wg_t 125 (by decide +kernel) (by decide +kernel)
theorem wd_127 : (Jvm.Cond.fieldLink "FrameVerifier$Machine" (9 : Nat) "FrameVerifier$Machine" "code" "LFrameVerifier$Code;") ∈ wG := wg_t 127 (by decide +kernel) (by decide +kernel)
theorem wd_128 : (Jvm.Cond.fieldLink "FrameVerifier$Machine" (31 : Nat) "FrameVerifier$Machine" "frames" "[LFrameVerifier$Frame;") ∈ wG := wg_t 128 (by decide +kernel) (by decide +kernel)
theorem wd_129 : (Jvm.Cond.fieldLink "FrameVerifier$Machine" (25 : Nat) "FrameVerifier$Machine" "elements" "[I") ∈ wG := wg_t 129 (by decide +kernel) (by decide +kernel)
theorem wd_536 : (Jvm.Cond.fieldLink "FrameVerifier$Machine" (118 : Nat) "FrameVerifier$Trap" "UNFIT" "LFrameVerifier$Trap;") ∈ wG := wg_t 536 (by decide +kernel) (by decide +kernel)
theorem wd_538 : (Jvm.Cond.fieldLink "FrameVerifier$Machine" (121 : Nat) "FrameVerifier$1" "$SwitchMap$FrameVerifier$Op" "[I") ∈ wG := wg_t 538 (by decide +kernel) (by decide +kernel)
theorem wd_546 : (Jvm.Cond.fieldLink "FrameVerifier$Machine" (133 : Nat) "FrameVerifier$Trap" "DIVISION" "LFrameVerifier$Trap;") ∈ wG := wg_t 546 (by decide +kernel) (by decide +kernel)
theorem wd_548 : (Jvm.Cond.fieldLink "FrameVerifier$Machine" (56 : Nat) "FrameVerifier$Trap" "NO_TRAP" "LFrameVerifier$Trap;") ∈ wG := wg_t 548 (by decide +kernel) (by decide +kernel)
theorem wd_553 : (Jvm.Cond.fieldLink "FrameVerifier$Machine" (140 : Nat) "FrameVerifier$Trap" "MISSING_ARRAY" "LFrameVerifier$Trap;") ∈ wG := wg_t 553 (by decide +kernel) (by decide +kernel)
theorem wd_558 : (Jvm.Cond.fieldLink "FrameVerifier$Machine" (153 : Nat) "FrameVerifier$Trap" "OUTSIDE" "LFrameVerifier$Trap;") ∈ wG := wg_t 558 (by decide +kernel) (by decide +kernel)
theorem wd_564 : (Jvm.Cond.fieldLink "FrameVerifier$Machine" (147 : Nat) "FrameVerifier$Trap" "FULL" "LFrameVerifier$Trap;") ∈ wG := wg_t 564 (by decide +kernel) (by decide +kernel)
theorem wd_641 : (Jvm.Cond.fieldLink "FrameVerifier$Machine" (175 : Nat) "FrameVerifier$Op" "JUMP" "LFrameVerifier$Op;") ∈ wG := wg_t 641 (by decide +kernel) (by decide +kernel)
theorem k_Ma_36 {R : Room} {s : State} {args : Array Value} {Ts : List Cond} (hts : ∀ w ∈ Ts, w.before args s = true) (hsub : ∀ w ∈ wG, w ∈ Ts) (hR : rm_Ma_openFrame.frames + 1 ≤ R.frames ∧ 8 + (3 + 11) + rm_Ma_openFrame.locals ≤ R.locals) : CallW R s args "FrameVerifier$Machine" "FrameVerifier$Machine" 36 y_Ma_openFrame b_Ma_openFrame 3 (some (.object "FrameVerifier$Frame")) w_Ma_openFrame rm_Ma_openFrame 0 0 1 := ⟨cb_G hts hsub m_Ma_openFrame g_Ma_openFrame (wg_t 392 (by decide +kernel) (by decide +kernel) : Cond.methodLink "FrameVerifier$Machine" 36 y_Ma_openFrame ∈ wG) q_Ma_openFrame rfl rfl hR, hts _ (hsub _ s_Ma_openFrame), hts _ (hsub _ e_Ma_openFrame)⟩
theorem k_Ma_40 {R : Room} {s : State} {args : Array Value} {Ts : List Cond} (hts : ∀ w ∈ Ts, w.before args s = true) (hsub : ∀ w ∈ wG, w ∈ Ts) (hR : rm_Ma_firstValue.frames + 1 ≤ R.frames ∧ 8 + (3 + 11) + rm_Ma_firstValue.locals ≤ R.locals) : CallB R s args "FrameVerifier$Machine" 40 y_Ma_firstValue b_Ma_firstValue 3 (some .int) w_Ma_firstValue rm_Ma_firstValue 0 0 3 ∧ (Cond.static y_Ma_firstValue).before args s = true := ⟨cb_G hts hsub m_Ma_firstValue g_Ma_firstValue (wg_t 402 (by decide +kernel) (by decide +kernel) : Cond.methodLink "FrameVerifier$Machine" 40 y_Ma_firstValue ∈ wG) q_Ma_firstValue rfl rfl hR, hts _ (hsub _ s_Ma_firstValue)⟩
theorem k_Ma_44 {R : Room} {s : State} {args : Array Value} {Ts : List Cond} (hts : ∀ w ∈ Ts, w.before args s = true) (hsub : ∀ w ∈ wG, w ∈ Ts) (hR : rm_Fr_setParameter.frames + 1 ≤ R.frames ∧ 8 + (3 + 11) + rm_Fr_setParameter.locals ≤ R.locals) : CallW R s args "FrameVerifier$Machine" "FrameVerifier$Frame" 44 y_Fr_setParameter b_Fr_setParameter 3 none w_Fr_setParameter rm_Fr_setParameter 0 0 2 := ⟨cb_G hts hsub m_Fr_setParameter g_Fr_setParameter (wg_t 406 (by decide +kernel) (by decide +kernel) : Cond.methodLink "FrameVerifier$Machine" 44 y_Fr_setParameter ∈ wG) q_Fr_setParameter rfl rfl hR, hts _ (hsub _ s_Fr_setParameter), hts _ (hsub _ e_Fr_setParameter)⟩
theorem k_Ma_48 {R : Room} {s : State} {args : Array Value} {Ts : List Cond} (hts : ∀ w ∈ Ts, w.before args s = true) (hsub : ∀ w ∈ wG, w ∈ Ts) (hR : rm_Ma_top.frames + 1 ≤ R.frames ∧ 8 + (1 + 11) + rm_Ma_top.locals ≤ R.locals) : CallW R s args "FrameVerifier$Machine" "FrameVerifier$Machine" 48 y_Ma_top b_Ma_top 1 (some (.object "FrameVerifier$Frame")) w_Ma_top rm_Ma_top 0 0 0 := ⟨cb_G hts hsub m_Ma_top g_Ma_top (wg_t 530 (by decide +kernel) (by decide +kernel) : Cond.methodLink "FrameVerifier$Machine" 48 y_Ma_top ∈ wG) q_Ma_top rfl rfl hR, hts _ (hsub _ s_Ma_top), hts _ (hsub _ e_Ma_top)⟩
theorem k_Ma_69 {R : Room} {s : State} {args : Array Value} {Ts : List Cond} (hts : ∀ w ∈ Ts, w.before args s = true) (hsub : ∀ w ∈ wG, w ∈ Ts) (hR : rm_Co_opAt.frames + 1 ≤ R.frames ∧ 8 + (2 + 11) + rm_Co_opAt.locals ≤ R.locals) : CallW R s args "FrameVerifier$Machine" "FrameVerifier$Code" 69 y_Co_opAt b_Co_opAt 2 (some (.object "FrameVerifier$Op")) w_Co_opAt rm_Co_opAt 0 0 1 := ⟨cb_G hts hsub m_Co_opAt g_Co_opAt (wg_t 539 (by decide +kernel) (by decide +kernel) : Cond.methodLink "FrameVerifier$Machine" 69 y_Co_opAt ∈ wG) q_Co_opAt rfl rfl hR, hts _ (hsub _ s_Co_opAt), hts _ (hsub _ e_Co_opAt)⟩
theorem k_Ma_95 {R : Room} {s : State} {args : Array Value} {Ts : List Cond} (hts : ∀ w ∈ Ts, w.before args s = true) (hsub : ∀ w ∈ wG, w ∈ Ts) (hR : rm_Ty_at.frames + 1 ≤ R.frames ∧ 8 + (2 + 11) + rm_Ty_at.locals ≤ R.locals) : CallB R s args "FrameVerifier$Machine" 95 y_Ty_at b_Ty_at 2 (some .int) w_Ty_at rm_Ty_at 0 0 2 ∧ (Cond.static y_Ty_at).before args s = true := ⟨cb_G hts hsub m_Ty_at g_Ty_at (wg_t 405 (by decide +kernel) (by decide +kernel) : Cond.methodLink "FrameVerifier$Machine" 95 y_Ty_at ∈ wG) q_Ty_at rfl rfl hR, hts _ (hsub _ s_Ty_at)⟩
theorem k_Ma_101 {R : Room} {s : State} {args : Array Value} {Ts : List Cond} (hts : ∀ w ∈ Ts, w.before args s = true) (hsub : ∀ w ∈ wG, w ∈ Ts) (hR : rm_Co_startOf.frames + 1 ≤ R.frames ∧ 8 + (2 + 11) + rm_Co_startOf.locals ≤ R.locals) : CallW R s args "FrameVerifier$Machine" "FrameVerifier$Code" 101 y_Co_startOf b_Co_startOf 2 (some .int) w_Co_startOf rm_Co_startOf 0 0 1 := ⟨cb_G hts hsub m_Co_startOf g_Co_startOf (wg_t 396 (by decide +kernel) (by decide +kernel) : Cond.methodLink "FrameVerifier$Machine" 101 y_Co_startOf ∈ wG) q_Co_startOf rfl rfl hR, hts _ (hsub _ s_Co_startOf), hts _ (hsub _ e_Co_startOf)⟩
theorem k_Ma_104 {R : Room} {s : State} {args : Array Value} {Ts : List Cond} (hts : ∀ w ∈ Ts, w.before args s = true) (hsub : ∀ w ∈ wG, w ∈ Ts) (hR : rm_Co_firstState.frames + 1 ≤ R.frames ∧ 8 + (4 + 11) + rm_Co_firstState.locals ≤ R.locals) : CallW R s args "FrameVerifier$Machine" "FrameVerifier$Code" 104 y_Co_firstState b_Co_firstState 4 (some .int) w_Co_firstState rm_Co_firstState 0 0 1 := ⟨cb_G hts hsub m_Co_firstState g_Co_firstState (wg_t 397 (by decide +kernel) (by decide +kernel) : Cond.methodLink "FrameVerifier$Machine" 104 y_Co_firstState ∈ wG) q_Co_firstState rfl rfl hR, hts _ (hsub _ s_Co_firstState), hts _ (hsub _ e_Co_firstState)⟩
theorem k_Ma_107 {R : Room} {s : State} {args : Array Value} {Ts : List Cond} (hts : ∀ w ∈ Ts, w.before args s = true) (hsub : ∀ w ∈ wG, w ∈ Ts) (hR : rm_Fr_open.frames + 1 ≤ R.frames ∧ 8 + (4 + 11) + rm_Fr_open.locals ≤ R.locals) : CallW R s args "FrameVerifier$Machine" "FrameVerifier$Frame" 107 y_Fr_open b_Fr_open 4 none w_Fr_open rm_Fr_open 0 0 3 := ⟨cb_G hts hsub m_Fr_open g_Fr_open (wg_t 398 (by decide +kernel) (by decide +kernel) : Cond.methodLink "FrameVerifier$Machine" 107 y_Fr_open ∈ wG) q_Fr_open rfl rfl hR, hts _ (hsub _ s_Fr_open), hts _ (hsub _ e_Fr_open)⟩
theorem k_Ma_114 {R : Room} {s : State} {args : Array Value} {Ts : List Cond} (hts : ∀ w ∈ Ts, w.before args s = true) (hsub : ∀ w ∈ wG, w ∈ Ts) (hR : rm_Co_fits.frames + 1 ≤ R.frames ∧ 8 + (6 + 11) + rm_Co_fits.locals ≤ R.locals) : CallW R s args "FrameVerifier$Machine" "FrameVerifier$Code" 114 y_Co_fits b_Co_fits 6 (some .boolean) w_Co_fits rm_Co_fits 0 0 3 := ⟨cb_G hts hsub m_Co_fits g_Co_fits (wg_t 535 (by decide +kernel) (by decide +kernel) : Cond.methodLink "FrameVerifier$Machine" 114 y_Co_fits ∈ wG) q_Co_fits rfl rfl hR, hts _ (hsub _ s_Co_fits), hts _ (hsub _ e_Co_fits)⟩
theorem k_Ma_130 {R : Room} {s : State} {args : Array Value} {Ts : List Cond} (hts : ∀ w ∈ Ts, w.before args s = true) (hsub : ∀ w ∈ wG, w ∈ Ts) (hR : rm_Fr_below.frames + 1 ≤ R.frames ∧ 8 + (2 + 11) + rm_Fr_below.locals ≤ R.locals) : CallW R s args "FrameVerifier$Machine" "FrameVerifier$Frame" 130 y_Fr_below b_Fr_below 2 (some .int) w_Fr_below rm_Fr_below 0 0 1 := ⟨cb_G hts hsub m_Fr_below g_Fr_below (wg_t 541 (by decide +kernel) (by decide +kernel) : Cond.methodLink "FrameVerifier$Machine" 130 y_Fr_below ∈ wG) q_Fr_below rfl rfl hR, hts _ (hsub _ s_Fr_below), hts _ (hsub _ e_Fr_below)⟩
theorem k_Ma_136 {R : Room} {s : State} {args : Array Value} {Ts : List Cond} (hts : ∀ w ∈ Ts, w.before args s = true) (hsub : ∀ w ∈ wG, w ∈ Ts) (hR : rm_Ma_elementTrap.frames + 1 ≤ R.frames ∧ 8 + (2 + 11) + rm_Ma_elementTrap.locals ≤ R.locals) : CallB R s args "FrameVerifier$Machine" 136 y_Ma_elementTrap b_Ma_elementTrap 2 (some (.object "FrameVerifier$Trap")) w_Ma_elementTrap rm_Ma_elementTrap 0 0 2 ∧ (Cond.static y_Ma_elementTrap).before args s = true := ⟨cb_G hts hsub m_Ma_elementTrap g_Ma_elementTrap (wg_t 550 (by decide +kernel) (by decide +kernel) : Cond.methodLink "FrameVerifier$Machine" 136 y_Ma_elementTrap ∈ wG) q_Ma_elementTrap rfl rfl hR, hts _ (hsub _ s_Ma_elementTrap)⟩
theorem k_Ma_143 {R : Room} {s : State} {args : Array Value} {Ts : List Cond} (hts : ∀ w ∈ Ts, w.before args s = true) (hsub : ∀ w ∈ wG, w ∈ Ts) (hR : rm_Ma_canMake.frames + 1 ≤ R.frames ∧ 8 + (2 + 11) + rm_Ma_canMake.locals ≤ R.locals) : CallW R s args "FrameVerifier$Machine" "FrameVerifier$Machine" 143 y_Ma_canMake b_Ma_canMake 2 (some .boolean) w_Ma_canMake rm_Ma_canMake 0 0 1 := ⟨cb_G hts hsub m_Ma_canMake g_Ma_canMake (wg_t 560 (by decide +kernel) (by decide +kernel) : Cond.methodLink "FrameVerifier$Machine" 143 y_Ma_canMake ∈ wG) q_Ma_canMake rfl rfl hR, hts _ (hsub _ s_Ma_canMake), hts _ (hsub _ e_Ma_canMake)⟩
theorem k_Ma_150 {R : Room} {s : State} {args : Array Value} {Ts : List Cond} (hts : ∀ w ∈ Ts, w.before args s = true) (hsub : ∀ w ∈ wG, w ∈ Ts) (hR : rm_Ma_lengthOf.frames + 1 ≤ R.frames ∧ 8 + (1 + 11) + rm_Ma_lengthOf.locals ≤ R.locals) : CallB R s args "FrameVerifier$Machine" 150 y_Ma_lengthOf b_Ma_lengthOf 1 (some .int) w_Ma_lengthOf rm_Ma_lengthOf 0 0 1 ∧ (Cond.static y_Ma_lengthOf).before args s = true := ⟨cb_G hts hsub m_Ma_lengthOf g_Ma_lengthOf (wg_t 555 (by decide +kernel) (by decide +kernel) : Cond.methodLink "FrameVerifier$Machine" 150 y_Ma_lengthOf ∈ wG) q_Ma_lengthOf rfl rfl hR, hts _ (hsub _ s_Ma_lengthOf)⟩
theorem k_Ma_179 {R : Room} {s : State} {args : Array Value} {Ts : List Cond} (hts : ∀ w ∈ Ts, w.before args s = true) (hsub : ∀ w ∈ wG, w ∈ Ts) (hR : rm_Fr_pop.frames + 1 ≤ R.frames ∧ 8 + (2 + 11) + rm_Fr_pop.locals ≤ R.locals) : CallW R s args "FrameVerifier$Machine" "FrameVerifier$Frame" 179 y_Fr_pop b_Fr_pop 2 (some .int) w_Fr_pop rm_Fr_pop 0 0 0 := ⟨cb_G hts hsub m_Fr_pop g_Fr_pop (wg_t 642 (by decide +kernel) (by decide +kernel) : Cond.methodLink "FrameVerifier$Machine" 179 y_Fr_pop ∈ wG) q_Fr_pop rfl rfl hR, hts _ (hsub _ s_Fr_pop), hts _ (hsub _ e_Fr_pop)⟩
theorem k_Ma_182 {R : Room} {s : State} {args : Array Value} {Ts : List Cond} (hts : ∀ w ∈ Ts, w.before args s = true) (hsub : ∀ w ∈ wG, w ∈ Ts) (hR : rm_Ma_reckon.frames + 1 ≤ R.frames ∧ 8 + (4 + 11) + rm_Ma_reckon.locals ≤ R.locals) : CallB R s args "FrameVerifier$Machine" 182 y_Ma_reckon b_Ma_reckon 4 none w_Ma_reckon rm_Ma_reckon 0 0 2 ∧ (Cond.static y_Ma_reckon).before args s = true := ⟨cb_G hts hsub m_Ma_reckon g_Ma_reckon (wg_t 652 (by decide +kernel) (by decide +kernel) : Cond.methodLink "FrameVerifier$Machine" 182 y_Ma_reckon ∈ wG) q_Ma_reckon rfl rfl hR, hts _ (hsub _ s_Ma_reckon)⟩
theorem k_Ma_186 {R : Room} {s : State} {args : Array Value} {Ts : List Cond} (hts : ∀ w ∈ Ts, w.before args s = true) (hsub : ∀ w ∈ wG, w ∈ Ts) (hR : rm_Ma_useArray.frames + 1 ≤ R.frames ∧ 8 + (6 + 11) + rm_Ma_useArray.locals ≤ R.locals) : CallW R s args "FrameVerifier$Machine" "FrameVerifier$Machine" 186 y_Ma_useArray b_Ma_useArray 6 none w_Ma_useArray rm_Ma_useArray 0 0 2 := ⟨cb_G hts hsub m_Ma_useArray g_Ma_useArray (wg_t 663 (by decide +kernel) (by decide +kernel) : Cond.methodLink "FrameVerifier$Machine" 186 y_Ma_useArray ∈ wG) q_Ma_useArray rfl rfl hR, hts _ (hsub _ s_Ma_useArray), hts _ (hsub _ e_Ma_useArray)⟩
theorem k_Ma_189 {R : Room} {s : State} {args : Array Value} {Ts : List Cond} (hts : ∀ w ∈ Ts, w.before args s = true) (hsub : ∀ w ∈ wG, w ∈ Ts) (hR : rm_Ma_enter.frames + 1 ≤ R.frames ∧ 8 + (5 + 11) + rm_Ma_enter.locals ≤ R.locals) : CallW R s args "FrameVerifier$Machine" "FrameVerifier$Machine" 189 y_Ma_enter b_Ma_enter 5 none w_Ma_enter rm_Ma_enter 0 0 2 := ⟨cb_G hts hsub m_Ma_enter g_Ma_enter (wg_t 674 (by decide +kernel) (by decide +kernel) : Cond.methodLink "FrameVerifier$Machine" 189 y_Ma_enter ∈ wG) q_Ma_enter rfl rfl hR, hts _ (hsub _ s_Ma_enter), hts _ (hsub _ e_Ma_enter)⟩
theorem k_Ma_193 {R : Room} {s : State} {args : Array Value} {Ts : List Cond} (hts : ∀ w ∈ Ts, w.before args s = true) (hsub : ∀ w ∈ wG, w ∈ Ts) (hR : rm_Ma_leave.frames + 1 ≤ R.frames ∧ 8 + (2 + 11) + rm_Ma_leave.locals ≤ R.locals) : CallW R s args "FrameVerifier$Machine" "FrameVerifier$Machine" 193 y_Ma_leave b_Ma_leave 2 none w_Ma_leave rm_Ma_leave 0 0 1 := ⟨cb_G hts hsub m_Ma_leave g_Ma_leave (wg_t 682 (by decide +kernel) (by decide +kernel) : Cond.methodLink "FrameVerifier$Machine" 193 y_Ma_leave ∈ wG) q_Ma_leave rfl rfl hR, hts _ (hsub _ s_Ma_leave), hts _ (hsub _ e_Ma_leave)⟩
theorem k_Ma_197 {R : Room} {s : State} {args : Array Value} {Ts : List Cond} (hts : ∀ w ∈ Ts, w.before args s = true) (hsub : ∀ w ∈ wG, w ∈ Ts) (hR : rm_Ma_move.frames + 1 ≤ R.frames ∧ 8 + (3 + 11) + rm_Ma_move.locals ≤ R.locals) : CallB R s args "FrameVerifier$Machine" 197 y_Ma_move b_Ma_move 3 none w_Ma_move rm_Ma_move 0 0 3 ∧ (Cond.static y_Ma_move).before args s = true := ⟨cb_G hts hsub m_Ma_move g_Ma_move (wg_t 693 (by decide +kernel) (by decide +kernel) : Cond.methodLink "FrameVerifier$Machine" 197 y_Ma_move ∈ wG) q_Ma_move rfl rfl hR, hts _ (hsub _ s_Ma_move)⟩
theorem k_Ma_200 {R : Room} {s : State} {args : Array Value} {Ts : List Cond} (hts : ∀ w ∈ Ts, w.before args s = true) (hsub : ∀ w ∈ wG, w ∈ Ts) (hR : rm_Ma_reckoned.frames + 1 ≤ R.frames ∧ 8 + (3 + 11) + rm_Ma_reckoned.locals ≤ R.locals) : CallB R s args "FrameVerifier$Machine" 200 y_Ma_reckoned b_Ma_reckoned 3 (some .int) w_Ma_reckoned rm_Ma_reckoned 0 0 3 ∧ (Cond.static y_Ma_reckoned).before args s = true := ⟨cb_G hts hsub m_Ma_reckoned g_Ma_reckoned (wg_t 655 (by decide +kernel) (by decide +kernel) : Cond.methodLink "FrameVerifier$Machine" 200 y_Ma_reckoned ∈ wG) q_Ma_reckoned rfl rfl hR, hts _ (hsub _ s_Ma_reckoned)⟩
theorem k_Ma_204 {R : Room} {s : State} {args : Array Value} {Ts : List Cond} (hts : ∀ w ∈ Ts, w.before args s = true) (hsub : ∀ w ∈ wG, w ∈ Ts) (hR : rm_Fr_push.frames + 1 ≤ R.frames ∧ 8 + (3 + 11) + rm_Fr_push.locals ≤ R.locals) : CallW R s args "FrameVerifier$Machine" "FrameVerifier$Frame" 204 y_Fr_push b_Fr_push 3 none w_Fr_push rm_Fr_push 0 0 2 := ⟨cb_G hts hsub m_Fr_push g_Fr_push (wg_t 658 (by decide +kernel) (by decide +kernel) : Cond.methodLink "FrameVerifier$Machine" 204 y_Fr_push ∈ wG) q_Fr_push rfl rfl hR, hts _ (hsub _ s_Fr_push), hts _ (hsub _ e_Fr_push)⟩
theorem k_Ma_207 {R : Room} {s : State} {args : Array Value} {Ts : List Cond} (hts : ∀ w ∈ Ts, w.before args s = true) (hsub : ∀ w ∈ wG, w ∈ Ts) (hR : rm_Ma_makeArray.frames + 1 ≤ R.frames ∧ 8 + (4 + 11) + rm_Ma_makeArray.locals ≤ R.locals) : CallW R s args "FrameVerifier$Machine" "FrameVerifier$Machine" 207 y_Ma_makeArray b_Ma_makeArray 4 (some .int) w_Ma_makeArray rm_Ma_makeArray 0 0 1 := ⟨cb_G hts hsub m_Ma_makeArray g_Ma_makeArray (wg_t 667 (by decide +kernel) (by decide +kernel) : Cond.methodLink "FrameVerifier$Machine" 207 y_Ma_makeArray ∈ wG) q_Ma_makeArray rfl rfl hR, hts _ (hsub _ s_Ma_makeArray), hts _ (hsub _ e_Ma_makeArray)⟩
theorem k_Ma_210 {R : Room} {s : State} {args : Array Value} {Ts : List Cond} (hts : ∀ w ∈ Ts, w.before args s = true) (hsub : ∀ w ∈ wG, w ∈ Ts) (hR : rm_Ma_placeOf.frames + 1 ≤ R.frames ∧ 8 + (2 + 11) + rm_Ma_placeOf.locals ≤ R.locals) : CallB R s args "FrameVerifier$Machine" 210 y_Ma_placeOf b_Ma_placeOf 2 (some .int) w_Ma_placeOf rm_Ma_placeOf 0 0 2 ∧ (Cond.static y_Ma_placeOf).before args s = true := ⟨cb_G hts hsub m_Ma_placeOf g_Ma_placeOf (wg_t 671 (by decide +kernel) (by decide +kernel) : Cond.methodLink "FrameVerifier$Machine" 210 y_Ma_placeOf ∈ wG) q_Ma_placeOf rfl rfl hR, hts _ (hsub _ s_Ma_placeOf)⟩
theorem k_Ma_213 {R : Room} {s : State} {args : Array Value} {Ts : List Cond} (hts : ∀ w ∈ Ts, w.before args s = true) (hsub : ∀ w ∈ wG, w ∈ Ts) (hR : rm_Co_parametersOf.frames + 1 ≤ R.frames ∧ 8 + (2 + 11) + rm_Co_parametersOf.locals ≤ R.locals) : CallW R s args "FrameVerifier$Machine" "FrameVerifier$Code" 213 y_Co_parametersOf b_Co_parametersOf 2 (some .int) w_Co_parametersOf rm_Co_parametersOf 0 0 1 := ⟨cb_G hts hsub m_Co_parametersOf g_Co_parametersOf (wg_t 678 (by decide +kernel) (by decide +kernel) : Cond.methodLink "FrameVerifier$Machine" 213 y_Co_parametersOf ∈ wG) q_Co_parametersOf rfl rfl hR, hts _ (hsub _ s_Co_parametersOf), hts _ (hsub _ e_Co_parametersOf)⟩
theorem k_Ma_216 {R : Room} {s : State} {args : Array Value} {Ts : List Cond} (hts : ∀ w ∈ Ts, w.before args s = true) (hsub : ∀ w ∈ wG, w ∈ Ts) (hR : rm_Ty_slotBelow.frames + 1 ≤ R.frames ∧ 8 + (2 + 11) + rm_Ty_slotBelow.locals ≤ R.locals) : CallB R s args "FrameVerifier$Machine" 216 y_Ty_slotBelow b_Ty_slotBelow 2 (some .int) w_Ty_slotBelow rm_Ty_slotBelow 0 0 2 ∧ (Cond.static y_Ty_slotBelow).before args s = true := ⟨cb_G hts hsub m_Ty_slotBelow g_Ty_slotBelow (wg_t 686 (by decide +kernel) (by decide +kernel) : Cond.methodLink "FrameVerifier$Machine" 216 y_Ty_slotBelow ∈ wG) q_Ty_slotBelow rfl rfl hR, hts _ (hsub _ s_Ty_slotBelow)⟩
theorem k_Ma_219 {R : Room} {s : State} {args : Array Value} {Ts : List Cond} (hts : ∀ w ∈ Ts, w.before args s = true) (hsub : ∀ w ∈ wG, w ∈ Ts) (hR : rm_Fr_shown.frames + 1 ≤ R.frames ∧ 8 + (3 + 11) + rm_Fr_shown.locals ≤ R.locals) : CallW R s args "FrameVerifier$Machine" "FrameVerifier$Frame" 219 y_Fr_shown b_Fr_shown 3 (some .int) w_Fr_shown rm_Fr_shown 0 0 1 := ⟨cb_G hts hsub m_Fr_shown g_Fr_shown (wg_t 687 (by decide +kernel) (by decide +kernel) : Cond.methodLink "FrameVerifier$Machine" 219 y_Fr_shown ∈ wG) q_Fr_shown rfl rfl hR, hts _ (hsub _ s_Fr_shown), hts _ (hsub _ e_Fr_shown)⟩
theorem k_Ma_222 {R : Room} {s : State} {args : Array Value} {Ts : List Cond} (hts : ∀ w ∈ Ts, w.before args s = true) (hsub : ∀ w ∈ wG, w ∈ Ts) (hR : rm_Fr_typeBelow.frames + 1 ≤ R.frames ∧ 8 + (2 + 11) + rm_Fr_typeBelow.locals ≤ R.locals) : CallW R s args "FrameVerifier$Machine" "FrameVerifier$Frame" 222 y_Fr_typeBelow b_Fr_typeBelow 2 (some .int) w_Fr_typeBelow rm_Fr_typeBelow 0 0 1 := ⟨cb_G hts hsub m_Fr_typeBelow g_Fr_typeBelow (wg_t 688 (by decide +kernel) (by decide +kernel) : Cond.methodLink "FrameVerifier$Machine" 222 y_Fr_typeBelow ∈ wG) q_Fr_typeBelow rfl rfl hR, hts _ (hsub _ s_Fr_typeBelow), hts _ (hsub _ e_Fr_typeBelow)⟩
theorem k_Ma_225 {R : Room} {s : State} {args : Array Value} {Ts : List Cond} (hts : ∀ w ∈ Ts, w.before args s = true) (hsub : ∀ w ∈ wG, w ∈ Ts) (hR : rm_Fr_load.frames + 1 ≤ R.frames ∧ 8 + (2 + 11) + rm_Fr_load.locals ≤ R.locals) : CallW R s args "FrameVerifier$Machine" "FrameVerifier$Frame" 225 y_Fr_load b_Fr_load 2 none w_Fr_load rm_Fr_load 0 0 1 := ⟨cb_G hts hsub m_Fr_load g_Fr_load (wg_t 696 (by decide +kernel) (by decide +kernel) : Cond.methodLink "FrameVerifier$Machine" 225 y_Fr_load ∈ wG) q_Fr_load rfl rfl hR, hts _ (hsub _ s_Fr_load), hts _ (hsub _ e_Fr_load)⟩
theorem k_Ma_229 {R : Room} {s : State} {args : Array Value} {Ts : List Cond} (hts : ∀ w ∈ Ts, w.before args s = true) (hsub : ∀ w ∈ wG, w ∈ Ts) (hR : rm_Fr_store.frames + 1 ≤ R.frames ∧ 8 + (3 + 11) + rm_Fr_store.locals ≤ R.locals) : CallW R s args "FrameVerifier$Machine" "FrameVerifier$Frame" 229 y_Fr_store b_Fr_store 3 none w_Fr_store rm_Fr_store 0 0 1 := ⟨cb_G hts hsub m_Fr_store g_Fr_store (wg_t 701 (by decide +kernel) (by decide +kernel) : Cond.methodLink "FrameVerifier$Machine" 229 y_Fr_store ∈ wG) q_Fr_store rfl rfl hR, hts _ (hsub _ s_Fr_store), hts _ (hsub _ e_Fr_store)⟩
theorem k_Ma_232 {R : Room} {s : State} {args : Array Value} {Ts : List Cond} (hts : ∀ w ∈ Ts, w.before args s = true) (hsub : ∀ w ∈ wG, w ∈ Ts) (hR : rm_Fr_exchange.frames + 1 ≤ R.frames ∧ 8 + (5 + 11) + rm_Fr_exchange.locals ≤ R.locals) : CallW R s args "FrameVerifier$Machine" "FrameVerifier$Frame" 232 y_Fr_exchange b_Fr_exchange 5 none w_Fr_exchange rm_Fr_exchange 0 0 0 := ⟨cb_G hts hsub m_Fr_exchange g_Fr_exchange (wg_t 708 (by decide +kernel) (by decide +kernel) : Cond.methodLink "FrameVerifier$Machine" 232 y_Fr_exchange ∈ wG) q_Fr_exchange rfl rfl hR, hts _ (hsub _ s_Fr_exchange), hts _ (hsub _ e_Fr_exchange)⟩
theorem k_Ma_126 {R : Room} {s : State} {args : Array Value} {Ts : List Cond} (hts : ∀ w ∈ Ts, w.before args s = true) (hsub : ∀ w ∈ wG, w ∈ Ts) (hR : rm_En_ordinal.frames + 1 ≤ R.frames ∧ 8 + (1 + 11) + rm_En_ordinal.locals ≤ R.locals) : va_CU R s args "FrameVerifier$Machine" "FrameVerifier$Op" "java/lang/Enum" 126 ⟨"FrameVerifier$Op", "ordinal", "()I"⟩ y_En_ordinal b_En_ordinal 1 (some .int) w_En_ordinal rm_En_ordinal 0 0 0 := by
  refine va_cwU 0 hts (fun w hw => ?_) rfl rfl rfl rfl (by decide +kernel) hR
  have h1 : w ∈ wG := by
    rcases List.mem_append.mp hw with h | h
    · simp only [List.mem_cons, List.not_mem_nil, or_false] at h
      rcases h with rfl | rfl | rfl | rfl | rfl
      · exact wg_t 540 (by decide +kernel) (by decide +kernel)
      · exact wg_t 254 (by decide +kernel) (by decide +kernel)
      · exact wg_t 256 (by decide +kernel) (by decide +kernel)
      · exact s_En_ordinal
      · exact g_En_ordinal
    · rcases List.mem_cons.mp h with rfl | h
      · exact m_En_ordinal
      · exact h
  exact ⟨hsub w h1, good_of_word (List.mem_filter.mp h1).2⟩

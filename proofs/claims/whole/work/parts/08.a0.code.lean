/-! names of 08.code -/
def y_Co_append : MethodName := ⟨"FrameVerifier$Code", "append", "(II)I"⟩
abbrev b_Co_append : ByteArray := prog_3_method_2_code
def rm_Co_append : Room := { frames := 0, cells := 0, slots := 0, locals := 0 }
abbrev w_Co_append : List Cond := Cond.code y_Co_append b_Co_append 4 (some .int) :: wG
theorem m_Co_append : Cond.code y_Co_append b_Co_append 4 (some .int) ∈ wG := wg_t 514 (by decide +kernel) (by decide +kernel)
theorem q_Co_append : y_Co_append.cls ≠ "java/lang/invoke/MethodHandle" ∧ y_Co_append.cls ≠ "java/lang/invoke/VarHandle" ∧ (parseMethodDescriptor y_Co_append.desc).map (fun d => d.parameters.length) = some 2 := by decide +kernel
theorem g_Co_append : Cond.initialized y_Co_append.cls ∈ wG := wg_t 2 (by decide +kernel) (by decide +kernel)
theorem s_Co_append : Cond.instanceMethod y_Co_append ∈ wG := wg_t 512 (by decide +kernel) (by decide +kernel)
theorem e_Co_append : Cond.selects "FrameVerifier$Code" y_Co_append y_Co_append ∈ wG := wg_t 513 (by decide +kernel) (by decide +kernel)
theorem d_Co_append_0 : decode b_Co_append 0 = .ok (.aload_n 0, 1) := by decide +kernel
theorem d_Co_append_1 : decode b_Co_append 1 = .ok (.getfield 9, 3) := by decide +kernel
theorem d_Co_append_4 : decode b_Co_append 4 = .ok (.istore_n 3, 1) := by decide +kernel
theorem d_Co_append_5 : decode b_Co_append 5 = .ok (.aload_n 0, 1) := by decide +kernel
theorem d_Co_append_6 : decode b_Co_append 6 = .ok (.getfield 15, 3) := by decide +kernel
theorem d_Co_append_9 : decode b_Co_append 9 = .ok (.iload_n 3, 1) := by decide +kernel
theorem d_Co_append_10 : decode b_Co_append 10 = .ok (.iload_n 1, 1) := by decide +kernel
theorem d_Co_append_11 : decode b_Co_append 11 = .ok (.iastore, 1) := by decide +kernel
theorem d_Co_append_12 : decode b_Co_append 12 = .ok (.aload_n 0, 1) := by decide +kernel
theorem d_Co_append_13 : decode b_Co_append 13 = .ok (.getfield 19, 3) := by decide +kernel
theorem d_Co_append_16 : decode b_Co_append 16 = .ok (.iload_n 3, 1) := by decide +kernel
theorem d_Co_append_17 : decode b_Co_append 17 = .ok (.iload_n 2, 1) := by decide +kernel
theorem d_Co_append_18 : decode b_Co_append 18 = .ok (.iastore, 1) := by decide +kernel
theorem d_Co_append_19 : decode b_Co_append 19 = .ok (.aload_n 0, 1) := by decide +kernel
theorem d_Co_append_20 : decode b_Co_append 20 = .ok (.dup, 1) := by decide +kernel
theorem d_Co_append_21 : decode b_Co_append 21 = .ok (.getfield 9, 3) := by decide +kernel
theorem d_Co_append_24 : decode b_Co_append 24 = .ok (.iconst 1, 1) := by decide +kernel
theorem d_Co_append_25 : decode b_Co_append 25 = .ok (.iadd, 1) := by decide +kernel
theorem d_Co_append_26 : decode b_Co_append 26 = .ok (.putfield 9, 3) := by decide +kernel
theorem d_Co_append_29 : decode b_Co_append 29 = .ok (.iload_n 3, 1) := by decide +kernel
theorem d_Co_append_30 : decode b_Co_append 30 = .ok (.ireturn, 1) := by decide +kernel
def y_Co_tell : MethodName := ⟨"FrameVerifier$Code", "tell", "(IIII)V"⟩
abbrev b_Co_tell : ByteArray := prog_3_method_3_code
def rm_Co_tell : Room := { frames := 0, cells := 0, slots := 0, locals := 0 }
abbrev w_Co_tell : List Cond := Cond.code y_Co_tell b_Co_tell 5 none :: wG
theorem m_Co_tell : Cond.code y_Co_tell b_Co_tell 5 none ∈ wG := wg_t 171 (by decide +kernel) (by decide +kernel)
theorem q_Co_tell : y_Co_tell.cls ≠ "java/lang/invoke/MethodHandle" ∧ y_Co_tell.cls ≠ "java/lang/invoke/VarHandle" ∧ (parseMethodDescriptor y_Co_tell.desc).map (fun d => d.parameters.length) = some 4 := by decide +kernel
theorem g_Co_tell : Cond.initialized y_Co_tell.cls ∈ wG := wg_t 2 (by decide +kernel) (by decide +kernel)
theorem s_Co_tell : Cond.instanceMethod y_Co_tell ∈ wG := wg_t 169 (by decide +kernel) (by decide +kernel)
theorem e_Co_tell : Cond.selects "FrameVerifier$Code" y_Co_tell y_Co_tell ∈ wG := wg_t 170 (by decide +kernel) (by decide +kernel)
theorem d_Co_tell_0 : decode b_Co_tell 0 = .ok (.aload_n 0, 1) := by decide +kernel
theorem d_Co_tell_1 : decode b_Co_tell 1 = .ok (.getfield 22, 3) := by decide +kernel
theorem d_Co_tell_4 : decode b_Co_tell 4 = .ok (.iload_n 1, 1) := by decide +kernel
theorem d_Co_tell_5 : decode b_Co_tell 5 = .ok (.iconst 1, 1) := by decide +kernel
theorem d_Co_tell_6 : decode b_Co_tell 6 = .ok (.bastore, 1) := by decide +kernel
theorem d_Co_tell_7 : decode b_Co_tell 7 = .ok (.aload_n 0, 1) := by decide +kernel
theorem d_Co_tell_8 : decode b_Co_tell 8 = .ok (.getfield 26, 3) := by decide +kernel
theorem d_Co_tell_11 : decode b_Co_tell 11 = .ok (.iload_n 1, 1) := by decide +kernel
theorem d_Co_tell_12 : decode b_Co_tell 12 = .ok (.iload_n 2, 1) := by decide +kernel
theorem d_Co_tell_13 : decode b_Co_tell 13 = .ok (.iastore, 1) := by decide +kernel
theorem d_Co_tell_14 : decode b_Co_tell 14 = .ok (.aload_n 0, 1) := by decide +kernel
theorem d_Co_tell_15 : decode b_Co_tell 15 = .ok (.getfield 29, 3) := by decide +kernel
theorem d_Co_tell_18 : decode b_Co_tell 18 = .ok (.iload_n 1, 1) := by decide +kernel
theorem d_Co_tell_19 : decode b_Co_tell 19 = .ok (.iload_n 3, 1) := by decide +kernel
theorem d_Co_tell_20 : decode b_Co_tell 20 = .ok (.iastore, 1) := by decide +kernel
theorem d_Co_tell_21 : decode b_Co_tell 21 = .ok (.aload_n 0, 1) := by decide +kernel
theorem d_Co_tell_22 : decode b_Co_tell 22 = .ok (.getfield 32, 3) := by decide +kernel
theorem d_Co_tell_25 : decode b_Co_tell 25 = .ok (.iload_n 1, 1) := by decide +kernel
theorem d_Co_tell_26 : decode b_Co_tell 26 = .ok (.iload 4, 2) := by decide +kernel
theorem d_Co_tell_28 : decode b_Co_tell 28 = .ok (.iastore, 1) := by decide +kernel
theorem d_Co_tell_29 : decode b_Co_tell 29 = .ok (.return_, 1) := by decide +kernel
def y_Co_hasInstruction : MethodName := ⟨"FrameVerifier$Code", "hasInstruction", "(I)Z"⟩
abbrev b_Co_hasInstruction : ByteArray := prog_3_method_4_code
def rm_Co_hasInstruction : Room := { frames := 0, cells := 0, slots := 0, locals := 0 }
abbrev w_Co_hasInstruction : List Cond := Cond.code y_Co_hasInstruction b_Co_hasInstruction 2 (some .boolean) :: wG
theorem m_Co_hasInstruction : Cond.code y_Co_hasInstruction b_Co_hasInstruction 2 (some .boolean) ∈ wG := wg_t 195 (by decide +kernel) (by decide +kernel)
theorem q_Co_hasInstruction : y_Co_hasInstruction.cls ≠ "java/lang/invoke/MethodHandle" ∧ y_Co_hasInstruction.cls ≠ "java/lang/invoke/VarHandle" ∧ (parseMethodDescriptor y_Co_hasInstruction.desc).map (fun d => d.parameters.length) = some 1 := by decide +kernel
theorem g_Co_hasInstruction : Cond.initialized y_Co_hasInstruction.cls ∈ wG := wg_t 2 (by decide +kernel) (by decide +kernel)
theorem s_Co_hasInstruction : Cond.instanceMethod y_Co_hasInstruction ∈ wG := wg_t 193 (by decide +kernel) (by decide +kernel)
theorem e_Co_hasInstruction : Cond.selects "FrameVerifier$Code" y_Co_hasInstruction y_Co_hasInstruction ∈ wG := wg_t 194 (by decide +kernel) (by decide +kernel)
theorem d_Co_hasInstruction_0 : decode b_Co_hasInstruction 0 = .ok (.iload_n 1, 1) := by decide +kernel
theorem d_Co_hasInstruction_1 : decode b_Co_hasInstruction 1 = .ok (.ifCond .lt (15), 3) := by decide +kernel
theorem d_Co_hasInstruction_4 : decode b_Co_hasInstruction 4 = .ok (.iload_n 1, 1) := by decide +kernel
theorem d_Co_hasInstruction_5 : decode b_Co_hasInstruction 5 = .ok (.aload_n 0, 1) := by decide +kernel
theorem d_Co_hasInstruction_6 : decode b_Co_hasInstruction 6 = .ok (.getfield 9, 3) := by decide +kernel
theorem d_Co_hasInstruction_9 : decode b_Co_hasInstruction 9 = .ok (.if_icmp .ge (7), 3) := by decide +kernel
theorem d_Co_hasInstruction_12 : decode b_Co_hasInstruction 12 = .ok (.iconst 1, 1) := by decide +kernel
theorem d_Co_hasInstruction_13 : decode b_Co_hasInstruction 13 = .ok (.goto (4), 3) := by decide +kernel
theorem d_Co_hasInstruction_16 : decode b_Co_hasInstruction 16 = .ok (.iconst 0, 1) := by decide +kernel
theorem d_Co_hasInstruction_17 : decode b_Co_hasInstruction 17 = .ok (.ireturn, 1) := by decide +kernel
def y_Co_hasRoutine : MethodName := ⟨"FrameVerifier$Code", "hasRoutine", "(I)Z"⟩
abbrev b_Co_hasRoutine : ByteArray := prog_3_method_5_code
def rm_Co_hasRoutine : Room := { frames := 0, cells := 0, slots := 0, locals := 0 }
abbrev w_Co_hasRoutine : List Cond := Cond.code y_Co_hasRoutine b_Co_hasRoutine 2 (some .boolean) :: wG
theorem m_Co_hasRoutine : Cond.code y_Co_hasRoutine b_Co_hasRoutine 2 (some .boolean) ∈ wG := wg_t 179 (by decide +kernel) (by decide +kernel)
theorem q_Co_hasRoutine : y_Co_hasRoutine.cls ≠ "java/lang/invoke/MethodHandle" ∧ y_Co_hasRoutine.cls ≠ "java/lang/invoke/VarHandle" ∧ (parseMethodDescriptor y_Co_hasRoutine.desc).map (fun d => d.parameters.length) = some 1 := by decide +kernel
theorem g_Co_hasRoutine : Cond.initialized y_Co_hasRoutine.cls ∈ wG := wg_t 2 (by decide +kernel) (by decide +kernel)
theorem s_Co_hasRoutine : Cond.instanceMethod y_Co_hasRoutine ∈ wG := wg_t 177 (by decide +kernel) (by decide +kernel)
theorem e_Co_hasRoutine : Cond.selects "FrameVerifier$Code" y_Co_hasRoutine y_Co_hasRoutine ∈ wG := wg_t 178 (by decide +kernel) (by decide +kernel)
theorem d_Co_hasRoutine_0 : decode b_Co_hasRoutine 0 = .ok (.iload_n 1, 1) := by decide +kernel
theorem d_Co_hasRoutine_1 : decode b_Co_hasRoutine 1 = .ok (.ifCond .lt (21), 3) := by decide +kernel
theorem d_Co_hasRoutine_4 : decode b_Co_hasRoutine 4 = .ok (.iload_n 1, 1) := by decide +kernel
theorem d_Co_hasRoutine_5 : decode b_Co_hasRoutine 5 = .ok (.iconst 4, 1) := by decide +kernel
theorem d_Co_hasRoutine_6 : decode b_Co_hasRoutine 6 = .ok (.if_icmp .ge (16), 3) := by decide +kernel
theorem d_Co_hasRoutine_9 : decode b_Co_hasRoutine 9 = .ok (.aload_n 0, 1) := by decide +kernel
theorem d_Co_hasRoutine_10 : decode b_Co_hasRoutine 10 = .ok (.getfield 22, 3) := by decide +kernel
theorem d_Co_hasRoutine_13 : decode b_Co_hasRoutine 13 = .ok (.iload_n 1, 1) := by decide +kernel
theorem d_Co_hasRoutine_14 : decode b_Co_hasRoutine 14 = .ok (.baload, 1) := by decide +kernel
theorem d_Co_hasRoutine_15 : decode b_Co_hasRoutine 15 = .ok (.ifCond .eq (7), 3) := by decide +kernel
theorem d_Co_hasRoutine_18 : decode b_Co_hasRoutine 18 = .ok (.iconst 1, 1) := by decide +kernel
theorem d_Co_hasRoutine_19 : decode b_Co_hasRoutine 19 = .ok (.goto (4), 3) := by decide +kernel
theorem d_Co_hasRoutine_22 : decode b_Co_hasRoutine 22 = .ok (.iconst 0, 1) := by decide +kernel
theorem d_Co_hasRoutine_23 : decode b_Co_hasRoutine 23 = .ok (.ireturn, 1) := by decide +kernel
def y_Co_startOf : MethodName := ⟨"FrameVerifier$Code", "startOf", "(I)I"⟩
abbrev b_Co_startOf : ByteArray := prog_3_method_6_code
def rm_Co_startOf : Room := { frames := 0, cells := 0, slots := 0, locals := 0 }
abbrev w_Co_startOf : List Cond := Cond.code y_Co_startOf b_Co_startOf 2 (some .int) :: wG
theorem m_Co_startOf : Cond.code y_Co_startOf b_Co_startOf 2 (some .int) ∈ wG := wg_t 191 (by decide +kernel) (by decide +kernel)
theorem q_Co_startOf : y_Co_startOf.cls ≠ "java/lang/invoke/MethodHandle" ∧ y_Co_startOf.cls ≠ "java/lang/invoke/VarHandle" ∧ (parseMethodDescriptor y_Co_startOf.desc).map (fun d => d.parameters.length) = some 1 := by decide +kernel
theorem g_Co_startOf : Cond.initialized y_Co_startOf.cls ∈ wG := wg_t 2 (by decide +kernel) (by decide +kernel)
theorem s_Co_startOf : Cond.instanceMethod y_Co_startOf ∈ wG := wg_t 189 (by decide +kernel) (by decide +kernel)
theorem e_Co_startOf : Cond.selects "FrameVerifier$Code" y_Co_startOf y_Co_startOf ∈ wG := wg_t 190 (by decide +kernel) (by decide +kernel)
theorem d_Co_startOf_0 : decode b_Co_startOf 0 = .ok (.aload_n 0, 1) := by decide +kernel
theorem d_Co_startOf_1 : decode b_Co_startOf 1 = .ok (.getfield 26, 3) := by decide +kernel
theorem d_Co_startOf_4 : decode b_Co_startOf 4 = .ok (.iload_n 1, 1) := by decide +kernel
theorem d_Co_startOf_5 : decode b_Co_startOf 5 = .ok (.iaload, 1) := by decide +kernel
theorem d_Co_startOf_6 : decode b_Co_startOf 6 = .ok (.ireturn, 1) := by decide +kernel
def y_Co_parametersOf : MethodName := ⟨"FrameVerifier$Code", "parametersOf", "(I)I"⟩
abbrev b_Co_parametersOf : ByteArray := prog_3_method_7_code
def rm_Co_parametersOf : Room := { frames := 0, cells := 0, slots := 0, locals := 0 }
abbrev w_Co_parametersOf : List Cond := Cond.code y_Co_parametersOf b_Co_parametersOf 2 (some .int) :: wG
theorem m_Co_parametersOf : Cond.code y_Co_parametersOf b_Co_parametersOf 2 (some .int) ∈ wG := wg_t 681 (by decide +kernel) (by decide +kernel)
theorem q_Co_parametersOf : y_Co_parametersOf.cls ≠ "java/lang/invoke/MethodHandle" ∧ y_Co_parametersOf.cls ≠ "java/lang/invoke/VarHandle" ∧ (parseMethodDescriptor y_Co_parametersOf.desc).map (fun d => d.parameters.length) = some 1 := by decide +kernel
theorem g_Co_parametersOf : Cond.initialized y_Co_parametersOf.cls ∈ wG := wg_t 2 (by decide +kernel) (by decide +kernel)
theorem s_Co_parametersOf : Cond.instanceMethod y_Co_parametersOf ∈ wG := wg_t 679 (by decide +kernel) (by decide +kernel)
theorem e_Co_parametersOf : Cond.selects "FrameVerifier$Code" y_Co_parametersOf y_Co_parametersOf ∈ wG := wg_t 680 (by decide +kernel) (by decide +kernel)
theorem d_Co_parametersOf_0 : decode b_Co_parametersOf 0 = .ok (.aload_n 0, 1) := by decide +kernel
theorem d_Co_parametersOf_1 : decode b_Co_parametersOf 1 = .ok (.getfield 29, 3) := by decide +kernel
theorem d_Co_parametersOf_4 : decode b_Co_parametersOf 4 = .ok (.iload_n 1, 1) := by decide +kernel
theorem d_Co_parametersOf_5 : decode b_Co_parametersOf 5 = .ok (.iaload, 1) := by decide +kernel
theorem d_Co_parametersOf_6 : decode b_Co_parametersOf 6 = .ok (.ireturn, 1) := by decide +kernel
def y_Co_opAt : MethodName := ⟨"FrameVerifier$Code", "opAt", "(I)LFrameVerifier$Op;"⟩
abbrev b_Co_opAt : ByteArray := prog_3_method_8_code
def rm_Co_opAt : Room := { frames := 0, cells := 0, slots := 0, locals := 0 }
abbrev w_Co_opAt : List Cond := Cond.code y_Co_opAt b_Co_opAt 2 (some (.object "FrameVerifier$Op")) :: wG
theorem m_Co_opAt : Cond.code y_Co_opAt b_Co_opAt 2 (some (.object "FrameVerifier$Op")) ∈ wG := wg_t 246 (by decide +kernel) (by decide +kernel)
theorem q_Co_opAt : y_Co_opAt.cls ≠ "java/lang/invoke/MethodHandle" ∧ y_Co_opAt.cls ≠ "java/lang/invoke/VarHandle" ∧ (parseMethodDescriptor y_Co_opAt.desc).map (fun d => d.parameters.length) = some 1 := by decide +kernel
theorem g_Co_opAt : Cond.initialized y_Co_opAt.cls ∈ wG := wg_t 2 (by decide +kernel) (by decide +kernel)
theorem s_Co_opAt : Cond.instanceMethod y_Co_opAt ∈ wG := wg_t 244 (by decide +kernel) (by decide +kernel)
theorem e_Co_opAt : Cond.selects "FrameVerifier$Code" y_Co_opAt y_Co_opAt ∈ wG := wg_t 245 (by decide +kernel) (by decide +kernel)
theorem d_Co_opAt_0 : decode b_Co_opAt 0 = .ok (.getstatic 35, 3) := by decide +kernel
theorem d_Co_opAt_3 : decode b_Co_opAt 3 = .ok (.aload_n 0, 1) := by decide +kernel
theorem d_Co_opAt_4 : decode b_Co_opAt 4 = .ok (.getfield 15, 3) := by decide +kernel
theorem d_Co_opAt_7 : decode b_Co_opAt 7 = .ok (.iload_n 1, 1) := by decide +kernel
theorem d_Co_opAt_8 : decode b_Co_opAt 8 = .ok (.iaload, 1) := by decide +kernel
theorem d_Co_opAt_9 : decode b_Co_opAt 9 = .ok (.aaload, 1) := by decide +kernel
theorem d_Co_opAt_10 : decode b_Co_opAt 10 = .ok (.areturn, 1) := by decide +kernel
def y_Co_numberAt : MethodName := ⟨"FrameVerifier$Code", "numberAt", "(I)I"⟩
abbrev b_Co_numberAt : ByteArray := prog_3_method_9_code
def rm_Co_numberAt : Room := { frames := 0, cells := 0, slots := 0, locals := 0 }
abbrev w_Co_numberAt : List Cond := Cond.code y_Co_numberAt b_Co_numberAt 2 (some .int) :: wG
theorem m_Co_numberAt : Cond.code y_Co_numberAt b_Co_numberAt 2 (some .int) ∈ wG := wg_t 364 (by decide +kernel) (by decide +kernel)
theorem q_Co_numberAt : y_Co_numberAt.cls ≠ "java/lang/invoke/MethodHandle" ∧ y_Co_numberAt.cls ≠ "java/lang/invoke/VarHandle" ∧ (parseMethodDescriptor y_Co_numberAt.desc).map (fun d => d.parameters.length) = some 1 := by decide +kernel
theorem g_Co_numberAt : Cond.initialized y_Co_numberAt.cls ∈ wG := wg_t 2 (by decide +kernel) (by decide +kernel)
theorem s_Co_numberAt : Cond.instanceMethod y_Co_numberAt ∈ wG := wg_t 362 (by decide +kernel) (by decide +kernel)
theorem e_Co_numberAt : Cond.selects "FrameVerifier$Code" y_Co_numberAt y_Co_numberAt ∈ wG := wg_t 363 (by decide +kernel) (by decide +kernel)
theorem d_Co_numberAt_0 : decode b_Co_numberAt 0 = .ok (.aload_n 0, 1) := by decide +kernel
theorem d_Co_numberAt_1 : decode b_Co_numberAt 1 = .ok (.getfield 19, 3) := by decide +kernel
theorem d_Co_numberAt_4 : decode b_Co_numberAt 4 = .ok (.iload_n 1, 1) := by decide +kernel
theorem d_Co_numberAt_5 : decode b_Co_numberAt 5 = .ok (.iaload, 1) := by decide +kernel
theorem d_Co_numberAt_6 : decode b_Co_numberAt 6 = .ok (.ireturn, 1) := by decide +kernel
def y_Co_kindOf : MethodName := ⟨"FrameVerifier$Code", "kindOf", "(II)I"⟩
abbrev b_Co_kindOf : ByteArray := prog_3_method_14_code
def rm_Co_kindOf : Room := { frames := 0, cells := 0, slots := 0, locals := 0 }
abbrev w_Co_kindOf : List Cond := Cond.code y_Co_kindOf b_Co_kindOf 3 (some .int) :: wG
theorem m_Co_kindOf : Cond.code y_Co_kindOf b_Co_kindOf 3 (some .int) ∈ wG := wg_t 203 (by decide +kernel) (by decide +kernel)
theorem q_Co_kindOf : y_Co_kindOf.cls ≠ "java/lang/invoke/MethodHandle" ∧ y_Co_kindOf.cls ≠ "java/lang/invoke/VarHandle" ∧ (parseMethodDescriptor y_Co_kindOf.desc).map (fun d => d.parameters.length) = some 2 := by decide +kernel
theorem g_Co_kindOf : Cond.initialized y_Co_kindOf.cls ∈ wG := wg_t 2 (by decide +kernel) (by decide +kernel)
theorem s_Co_kindOf : Cond.instanceMethod y_Co_kindOf ∈ wG := wg_t 202 (by decide +kernel) (by decide +kernel)
theorem e_Co_kindOf : Cond.selects "FrameVerifier$Code" y_Co_kindOf y_Co_kindOf ∈ wG := wg_s (q := (y_Co_kindOf, 7)) 2 (by decide +kernel) (by decide +kernel)
theorem d_Co_kindOf_0 : decode b_Co_kindOf 0 = .ok (.aload_n 0, 1) := by decide +kernel
theorem d_Co_kindOf_1 : decode b_Co_kindOf 1 = .ok (.getfield 32, 3) := by decide +kernel
theorem d_Co_kindOf_4 : decode b_Co_kindOf 4 = .ok (.iload_n 1, 1) := by decide +kernel
theorem d_Co_kindOf_5 : decode b_Co_kindOf 5 = .ok (.iaload, 1) := by decide +kernel
theorem d_Co_kindOf_6 : decode b_Co_kindOf 6 = .ok (.iload_n 2, 1) := by decide +kernel
theorem d_Co_kindOf_7 : decode b_Co_kindOf 7 = .ok (.ishr, 1) := by decide +kernel
theorem d_Co_kindOf_8 : decode b_Co_kindOf 8 = .ok (.iconst 1, 1) := by decide +kernel
theorem d_Co_kindOf_9 : decode b_Co_kindOf 9 = .ok (.iand, 1) := by decide +kernel
theorem d_Co_kindOf_10 : decode b_Co_kindOf 10 = .ok (.iconst 1, 1) := by decide +kernel
theorem d_Co_kindOf_11 : decode b_Co_kindOf 11 = .ok (.if_icmp .ne (7), 3) := by decide +kernel
theorem d_Co_kindOf_14 : decode b_Co_kindOf 14 = .ok (.iconst 2, 1) := by decide +kernel
theorem d_Co_kindOf_15 : decode b_Co_kindOf 15 = .ok (.goto (4), 3) := by decide +kernel
theorem d_Co_kindOf_18 : decode b_Co_kindOf 18 = .ok (.iconst 1, 1) := by decide +kernel
theorem d_Co_kindOf_19 : decode b_Co_kindOf 19 = .ok (.ireturn, 1) := by decide +kernel
def y_Co_firstState : MethodName := ⟨"FrameVerifier$Code", "firstState", "(I)I"⟩
abbrev b_Co_firstState : ByteArray := prog_3_method_10_code
def rm_Co_firstState : Room := { frames := 1, cells := 0, slots := 0, locals := 23 }
abbrev w_Co_firstState : List Cond := Cond.code y_Co_firstState b_Co_firstState 4 (some .int) :: wG
theorem m_Co_firstState : Cond.code y_Co_firstState b_Co_firstState 4 (some .int) ∈ wG := wg_t 199 (by decide +kernel) (by decide +kernel)
theorem q_Co_firstState : y_Co_firstState.cls ≠ "java/lang/invoke/MethodHandle" ∧ y_Co_firstState.cls ≠ "java/lang/invoke/VarHandle" ∧ (parseMethodDescriptor y_Co_firstState.desc).map (fun d => d.parameters.length) = some 1 := by decide +kernel
theorem g_Co_firstState : Cond.initialized y_Co_firstState.cls ∈ wG := wg_t 2 (by decide +kernel) (by decide +kernel)
theorem s_Co_firstState : Cond.instanceMethod y_Co_firstState ∈ wG := wg_t 197 (by decide +kernel) (by decide +kernel)
theorem e_Co_firstState : Cond.selects "FrameVerifier$Code" y_Co_firstState y_Co_firstState ∈ wG := wg_t 198 (by decide +kernel) (by decide +kernel)
theorem d_Co_firstState_0 : decode b_Co_firstState 0 = .ok (.iconst 0, 1) := by decide +kernel
theorem d_Co_firstState_1 : decode b_Co_firstState 1 = .ok (.istore_n 2, 1) := by decide +kernel
theorem d_Co_firstState_2 : decode b_Co_firstState 2 = .ok (.iconst 0, 1) := by decide +kernel
theorem d_Co_firstState_3 : decode b_Co_firstState 3 = .ok (.istore_n 3, 1) := by decide +kernel
theorem d_Co_firstState_4 : decode b_Co_firstState 4 = .ok (.iload_n 3, 1) := by decide +kernel
theorem d_Co_firstState_5 : decode b_Co_firstState 5 = .ok (.aload_n 0, 1) := by decide +kernel
theorem d_Co_firstState_6 : decode b_Co_firstState 6 = .ok (.getfield 29, 3) := by decide +kernel
theorem d_Co_firstState_9 : decode b_Co_firstState 9 = .ok (.iload_n 1, 1) := by decide +kernel
theorem d_Co_firstState_10 : decode b_Co_firstState 10 = .ok (.iaload, 1) := by decide +kernel
theorem d_Co_firstState_11 : decode b_Co_firstState 11 = .ok (.if_icmp .ge (21), 3) := by decide +kernel
theorem d_Co_firstState_14 : decode b_Co_firstState 14 = .ok (.iload_n 2, 1) := by decide +kernel
theorem d_Co_firstState_15 : decode b_Co_firstState 15 = .ok (.iload_n 3, 1) := by decide +kernel
theorem d_Co_firstState_16 : decode b_Co_firstState 16 = .ok (.aload_n 0, 1) := by decide +kernel
theorem d_Co_firstState_17 : decode b_Co_firstState 17 = .ok (.iload_n 1, 1) := by decide +kernel
theorem d_Co_firstState_18 : decode b_Co_firstState 18 = .ok (.iload_n 3, 1) := by decide +kernel
theorem d_Co_firstState_19 : decode b_Co_firstState 19 = .ok (.invokevirtual 41, 3) := by decide +kernel
theorem d_Co_firstState_22 : decode b_Co_firstState 22 = .ok (.invokestatic 45, 3) := by decide +kernel
theorem d_Co_firstState_25 : decode b_Co_firstState 25 = .ok (.istore_n 2, 1) := by decide +kernel
theorem d_Co_firstState_26 : decode b_Co_firstState 26 = .ok (.iinc 3 (1), 3) := by decide +kernel
theorem d_Co_firstState_29 : decode b_Co_firstState 29 = .ok (.goto (-25), 3) := by decide +kernel
theorem d_Co_firstState_32 : decode b_Co_firstState 32 = .ok (.iload_n 2, 1) := by decide +kernel
theorem d_Co_firstState_33 : decode b_Co_firstState 33 = .ok (.ireturn, 1) := by decide +kernel
def y_Co_hasOp : MethodName := ⟨"FrameVerifier$Code", "hasOp", "(I)Z"⟩
abbrev b_Co_hasOp : ByteArray := prog_3_method_13_code
def rm_Co_hasOp : Room := { frames := 1, cells := 0, slots := 0, locals := 21 }
abbrev w_Co_hasOp : List Cond := Cond.code y_Co_hasOp b_Co_hasOp 2 (some .boolean) :: wG
theorem m_Co_hasOp : Cond.code y_Co_hasOp b_Co_hasOp 2 (some .boolean) ∈ wG := wg_t 239 (by decide +kernel) (by decide +kernel)
theorem q_Co_hasOp : y_Co_hasOp.cls ≠ "java/lang/invoke/MethodHandle" ∧ y_Co_hasOp.cls ≠ "java/lang/invoke/VarHandle" ∧ (parseMethodDescriptor y_Co_hasOp.desc).map (fun d => d.parameters.length) = some 1 := by decide +kernel
theorem g_Co_hasOp : Cond.initialized y_Co_hasOp.cls ∈ wG := wg_t 2 (by decide +kernel) (by decide +kernel)
theorem s_Co_hasOp : Cond.instanceMethod y_Co_hasOp ∈ wG := wg_t 238 (by decide +kernel) (by decide +kernel)
theorem e_Co_hasOp : Cond.selects "FrameVerifier$Code" y_Co_hasOp y_Co_hasOp ∈ wG := wg_s (q := (y_Co_hasOp, 7)) 6 (by decide +kernel) (by decide +kernel)
theorem d_Co_hasOp_0 : decode b_Co_hasOp 0 = .ok (.aload_n 0, 1) := by decide +kernel
theorem d_Co_hasOp_1 : decode b_Co_hasOp 1 = .ok (.iload_n 1, 1) := by decide +kernel
theorem d_Co_hasOp_2 : decode b_Co_hasOp 2 = .ok (.invokevirtual 63, 3) := by decide +kernel
theorem d_Co_hasOp_5 : decode b_Co_hasOp 5 = .ok (.ifCond .eq (29), 3) := by decide +kernel
theorem d_Co_hasOp_8 : decode b_Co_hasOp 8 = .ok (.aload_n 0, 1) := by decide +kernel
theorem d_Co_hasOp_9 : decode b_Co_hasOp 9 = .ok (.getfield 15, 3) := by decide +kernel
theorem d_Co_hasOp_12 : decode b_Co_hasOp 12 = .ok (.iload_n 1, 1) := by decide +kernel
theorem d_Co_hasOp_13 : decode b_Co_hasOp 13 = .ok (.iaload, 1) := by decide +kernel
theorem d_Co_hasOp_14 : decode b_Co_hasOp 14 = .ok (.ifCond .lt (20), 3) := by decide +kernel
theorem d_Co_hasOp_17 : decode b_Co_hasOp 17 = .ok (.aload_n 0, 1) := by decide +kernel
theorem d_Co_hasOp_18 : decode b_Co_hasOp 18 = .ok (.getfield 15, 3) := by decide +kernel
theorem d_Co_hasOp_21 : decode b_Co_hasOp 21 = .ok (.iload_n 1, 1) := by decide +kernel
theorem d_Co_hasOp_22 : decode b_Co_hasOp 22 = .ok (.iaload, 1) := by decide +kernel
theorem d_Co_hasOp_23 : decode b_Co_hasOp 23 = .ok (.getstatic 35, 3) := by decide +kernel
theorem d_Co_hasOp_26 : decode b_Co_hasOp 26 = .ok (.arraylength, 1) := by decide +kernel
theorem d_Co_hasOp_27 : decode b_Co_hasOp 27 = .ok (.if_icmp .ge (7), 3) := by decide +kernel
theorem d_Co_hasOp_30 : decode b_Co_hasOp 30 = .ok (.iconst 1, 1) := by decide +kernel
theorem d_Co_hasOp_31 : decode b_Co_hasOp 31 = .ok (.goto (4), 3) := by decide +kernel
theorem d_Co_hasOp_34 : decode b_Co_hasOp 34 = .ok (.iconst 0, 1) := by decide +kernel
theorem d_Co_hasOp_35 : decode b_Co_hasOp 35 = .ok (.ireturn, 1) := by decide +kernel
def y_FV_isLocal : MethodName := ⟨"FrameVerifier", "isLocal", "(I)Z"⟩
abbrev b_FV_isLocal : ByteArray := prog_1_method_14_code
def rm_FV_isLocal : Room := { frames := 0, cells := 0, slots := 0, locals := 0 }
abbrev w_FV_isLocal : List Cond := Cond.code y_FV_isLocal b_FV_isLocal 1 (some .boolean) :: wG
theorem m_FV_isLocal : Cond.code y_FV_isLocal b_FV_isLocal 1 (some .boolean) ∈ wG := wg_t 261 (by decide +kernel) (by decide +kernel)
theorem q_FV_isLocal : y_FV_isLocal.cls ≠ "java/lang/invoke/MethodHandle" ∧ y_FV_isLocal.cls ≠ "java/lang/invoke/VarHandle" ∧ (parseMethodDescriptor y_FV_isLocal.desc).map (fun d => d.parameters.length) = some 1 := by decide +kernel
theorem g_FV_isLocal : Cond.initialized y_FV_isLocal.cls ∈ wG := wg_t 1 (by decide +kernel) (by decide +kernel)
theorem s_FV_isLocal : Cond.static y_FV_isLocal ∈ wG := wg_t 260 (by decide +kernel) (by decide +kernel)
theorem d_FV_isLocal_0 : decode b_FV_isLocal 0 = .ok (.iload_n 0, 1) := by decide +kernel
theorem d_FV_isLocal_1 : decode b_FV_isLocal 1 = .ok (.ifCond .lt (13), 3) := by decide +kernel
theorem d_FV_isLocal_4 : decode b_FV_isLocal 4 = .ok (.iload_n 0, 1) := by decide +kernel
theorem d_FV_isLocal_5 : decode b_FV_isLocal 5 = .ok (.bipush (6), 2) := by decide +kernel
theorem d_FV_isLocal_7 : decode b_FV_isLocal 7 = .ok (.if_icmp .ge (7), 3) := by decide +kernel
theorem d_FV_isLocal_10 : decode b_FV_isLocal 10 = .ok (.iconst 1, 1) := by decide +kernel
theorem d_FV_isLocal_11 : decode b_FV_isLocal 11 = .ok (.goto (4), 3) := by decide +kernel
theorem d_FV_isLocal_14 : decode b_FV_isLocal 14 = .ok (.iconst 0, 1) := by decide +kernel
theorem d_FV_isLocal_15 : decode b_FV_isLocal 15 = .ok (.ireturn, 1) := by decide +kernel
def y_Op_jumps : MethodName := ⟨"FrameVerifier$Op", "jumps", "()Z"⟩
abbrev b_Op_jumps : ByteArray := prog_7_method_4_code
def rm_Op_jumps : Room := { frames := 0, cells := 0, slots := 0, locals := 0 }
abbrev w_Op_jumps : List Cond := Cond.code y_Op_jumps b_Op_jumps 1 (some .boolean) :: wG
theorem m_Op_jumps : Cond.code y_Op_jumps b_Op_jumps 1 (some .boolean) ∈ wG := wg_t 267 (by decide +kernel) (by decide +kernel)
theorem q_Op_jumps : y_Op_jumps.cls ≠ "java/lang/invoke/MethodHandle" ∧ y_Op_jumps.cls ≠ "java/lang/invoke/VarHandle" ∧ (parseMethodDescriptor y_Op_jumps.desc).map (fun d => d.parameters.length) = some 0 := by decide +kernel
theorem g_Op_jumps : Cond.initialized y_Op_jumps.cls ∈ wG := wg_t 15 (by decide +kernel) (by decide +kernel)
theorem s_Op_jumps : Cond.instanceMethod y_Op_jumps ∈ wG := wg_t 265 (by decide +kernel) (by decide +kernel)
theorem e_Op_jumps : Cond.selects "FrameVerifier$Op" y_Op_jumps y_Op_jumps ∈ wG := wg_t 266 (by decide +kernel) (by decide +kernel)
theorem d_Op_jumps_0 : decode b_Op_jumps 0 = .ok (.aload_n 0, 1) := by decide +kernel
theorem d_Op_jumps_1 : decode b_Op_jumps 1 = .ok (.getstatic 27, 3) := by decide +kernel
theorem d_Op_jumps_4 : decode b_Op_jumps 4 = .ok (.if_acmp .eq (17), 3) := by decide +kernel
theorem d_Op_jumps_7 : decode b_Op_jumps 7 = .ok (.aload_n 0, 1) := by decide +kernel
theorem d_Op_jumps_8 : decode b_Op_jumps 8 = .ok (.getstatic 30, 3) := by decide +kernel
theorem d_Op_jumps_11 : decode b_Op_jumps 11 = .ok (.if_acmp .eq (10), 3) := by decide +kernel
theorem d_Op_jumps_14 : decode b_Op_jumps 14 = .ok (.aload_n 0, 1) := by decide +kernel
theorem d_Op_jumps_15 : decode b_Op_jumps 15 = .ok (.getstatic 36, 3) := by decide +kernel
theorem d_Op_jumps_18 : decode b_Op_jumps 18 = .ok (.if_acmp .ne (7), 3) := by decide +kernel
theorem d_Op_jumps_21 : decode b_Op_jumps 21 = .ok (.iconst 1, 1) := by decide +kernel
theorem d_Op_jumps_22 : decode b_Op_jumps 22 = .ok (.goto (4), 3) := by decide +kernel
theorem d_Op_jumps_25 : decode b_Op_jumps 25 = .ok (.iconst 0, 1) := by decide +kernel
theorem d_Op_jumps_26 : decode b_Op_jumps 26 = .ok (.ireturn, 1) := by decide +kernel
def y_Co_numberFits : MethodName := ⟨"FrameVerifier$Code", "numberFits", "(LFrameVerifier$Op;II)Z"⟩
abbrev b_Co_numberFits : ByteArray := prog_3_method_15_code
def rm_Co_numberFits : Room := { frames := 1, cells := 0, slots := 0, locals := 21 }
abbrev w_Co_numberFits : List Cond := Cond.code y_Co_numberFits b_Co_numberFits 4 (some .boolean) :: wG
theorem m_Co_numberFits : Cond.code y_Co_numberFits b_Co_numberFits 4 (some .boolean) ∈ wG := wg_t 250 (by decide +kernel) (by decide +kernel)
theorem q_Co_numberFits : y_Co_numberFits.cls ≠ "java/lang/invoke/MethodHandle" ∧ y_Co_numberFits.cls ≠ "java/lang/invoke/VarHandle" ∧ (parseMethodDescriptor y_Co_numberFits.desc).map (fun d => d.parameters.length) = some 3 := by decide +kernel
theorem g_Co_numberFits : Cond.initialized y_Co_numberFits.cls ∈ wG := wg_t 2 (by decide +kernel) (by decide +kernel)
theorem s_Co_numberFits : Cond.instanceMethod y_Co_numberFits ∈ wG := wg_t 249 (by decide +kernel) (by decide +kernel)
theorem e_Co_numberFits : Cond.selects "FrameVerifier$Code" y_Co_numberFits y_Co_numberFits ∈ wG := wg_s (q := (y_Co_numberFits, 7)) 7 (by decide +kernel) (by decide +kernel)
theorem d_Co_numberFits_0 : decode b_Co_numberFits 0 = .ok (.getstatic 88, 3) := by decide +kernel
theorem d_Co_numberFits_3 : decode b_Co_numberFits 3 = .ok (.aload_n 1, 1) := by decide +kernel
theorem d_Co_numberFits_4 : decode b_Co_numberFits 4 = .ok (.invokevirtual 93, 3) := by decide +kernel
theorem d_Co_numberFits_7 : decode b_Co_numberFits 7 = .ok (.iaload, 1) := by decide +kernel
theorem d_Co_numberFits_8 : decode b_Co_numberFits 8 = .ok (.tableswitch (78) (1) (5) #[(36), (67), (78), (78), (72)], 36) := by decide +kernel
theorem d_Co_numberFits_44 : decode b_Co_numberFits 44 = .ok (.iload_n 2, 1) := by decide +kernel
theorem d_Co_numberFits_45 : decode b_Co_numberFits 45 = .ok (.invokestatic 109, 3) := by decide +kernel
theorem d_Co_numberFits_48 : decode b_Co_numberFits 48 = .ok (.ifCond .eq (25), 3) := by decide +kernel
theorem d_Co_numberFits_51 : decode b_Co_numberFits 51 = .ok (.iload_n 3, 1) := by decide +kernel
theorem d_Co_numberFits_52 : decode b_Co_numberFits 52 = .ok (.iload_n 2, 1) := by decide +kernel
theorem d_Co_numberFits_53 : decode b_Co_numberFits 53 = .ok (.invokestatic 97, 3) := by decide +kernel
theorem d_Co_numberFits_56 : decode b_Co_numberFits 56 = .ok (.iconst 1, 1) := by decide +kernel
theorem d_Co_numberFits_57 : decode b_Co_numberFits 57 = .ok (.if_icmp .eq (12), 3) := by decide +kernel
theorem d_Co_numberFits_60 : decode b_Co_numberFits 60 = .ok (.iload_n 3, 1) := by decide +kernel
theorem d_Co_numberFits_61 : decode b_Co_numberFits 61 = .ok (.iload_n 2, 1) := by decide +kernel
theorem d_Co_numberFits_62 : decode b_Co_numberFits 62 = .ok (.invokestatic 97, 3) := by decide +kernel
theorem d_Co_numberFits_65 : decode b_Co_numberFits 65 = .ok (.iconst 2, 1) := by decide +kernel
theorem d_Co_numberFits_66 : decode b_Co_numberFits 66 = .ok (.if_icmp .ne (7), 3) := by decide +kernel
theorem d_Co_numberFits_69 : decode b_Co_numberFits 69 = .ok (.iconst 1, 1) := by decide +kernel
theorem d_Co_numberFits_70 : decode b_Co_numberFits 70 = .ok (.goto (4), 3) := by decide +kernel
theorem d_Co_numberFits_73 : decode b_Co_numberFits 73 = .ok (.iconst 0, 1) := by decide +kernel
theorem d_Co_numberFits_74 : decode b_Co_numberFits 74 = .ok (.ireturn, 1) := by decide +kernel
theorem d_Co_numberFits_75 : decode b_Co_numberFits 75 = .ok (.iload_n 2, 1) := by decide +kernel
theorem d_Co_numberFits_76 : decode b_Co_numberFits 76 = .ok (.invokestatic 109, 3) := by decide +kernel
theorem d_Co_numberFits_79 : decode b_Co_numberFits 79 = .ok (.ireturn, 1) := by decide +kernel
theorem d_Co_numberFits_80 : decode b_Co_numberFits 80 = .ok (.aload_n 0, 1) := by decide +kernel
theorem d_Co_numberFits_81 : decode b_Co_numberFits 81 = .ok (.iload_n 2, 1) := by decide +kernel
theorem d_Co_numberFits_82 : decode b_Co_numberFits 82 = .ok (.invokevirtual 112, 3) := by decide +kernel
theorem d_Co_numberFits_85 : decode b_Co_numberFits 85 = .ok (.ireturn, 1) := by decide +kernel
theorem d_Co_numberFits_86 : decode b_Co_numberFits 86 = .ok (.aload_n 1, 1) := by decide +kernel
theorem d_Co_numberFits_87 : decode b_Co_numberFits 87 = .ok (.invokevirtual 115, 3) := by decide +kernel
theorem d_Co_numberFits_90 : decode b_Co_numberFits 90 = .ok (.ifCond .eq (11), 3) := by decide +kernel
theorem d_Co_numberFits_93 : decode b_Co_numberFits 93 = .ok (.aload_n 0, 1) := by decide +kernel
theorem d_Co_numberFits_94 : decode b_Co_numberFits 94 = .ok (.iload_n 2, 1) := by decide +kernel
theorem d_Co_numberFits_95 : decode b_Co_numberFits 95 = .ok (.invokevirtual 63, 3) := by decide +kernel
theorem d_Co_numberFits_98 : decode b_Co_numberFits 98 = .ok (.ifCond .eq (7), 3) := by decide +kernel
theorem d_Co_numberFits_101 : decode b_Co_numberFits 101 = .ok (.iconst 1, 1) := by decide +kernel
theorem d_Co_numberFits_102 : decode b_Co_numberFits 102 = .ok (.goto (4), 3) := by decide +kernel
theorem d_Co_numberFits_105 : decode b_Co_numberFits 105 = .ok (.iconst 0, 1) := by decide +kernel
theorem d_Co_numberFits_106 : decode b_Co_numberFits 106 = .ok (.ireturn, 1) := by decide +kernel
def y_Co_takenCount : MethodName := ⟨"FrameVerifier$Code", "takenCount", "(LFrameVerifier$Op;I)I"⟩
abbrev b_Co_takenCount : ByteArray := prog_3_method_16_code
def rm_Co_takenCount : Room := { frames := 2, cells := 0, slots := 0, locals := 40 }
abbrev w_Co_takenCount : List Cond := Cond.code y_Co_takenCount b_Co_takenCount 3 (some .int) :: wG
theorem m_Co_takenCount : Cond.code y_Co_takenCount b_Co_takenCount 3 (some .int) ∈ wG := wg_t 281 (by decide +kernel) (by decide +kernel)
theorem q_Co_takenCount : y_Co_takenCount.cls ≠ "java/lang/invoke/MethodHandle" ∧ y_Co_takenCount.cls ≠ "java/lang/invoke/VarHandle" ∧ (parseMethodDescriptor y_Co_takenCount.desc).map (fun d => d.parameters.length) = some 2 := by decide +kernel
theorem g_Co_takenCount : Cond.initialized y_Co_takenCount.cls ∈ wG := wg_t 2 (by decide +kernel) (by decide +kernel)
theorem s_Co_takenCount : Cond.instanceMethod y_Co_takenCount ∈ wG := wg_t 280 (by decide +kernel) (by decide +kernel)
theorem e_Co_takenCount : Cond.selects "FrameVerifier$Code" y_Co_takenCount y_Co_takenCount ∈ wG := wg_s (q := (y_Co_takenCount, 7)) 9 (by decide +kernel) (by decide +kernel)
theorem d_Co_takenCount_0 : decode b_Co_takenCount 0 = .ok (.aload_n 1, 1) := by decide +kernel
theorem d_Co_takenCount_1 : decode b_Co_takenCount 1 = .ok (.getstatic 119, 3) := by decide +kernel
theorem d_Co_takenCount_4 : decode b_Co_takenCount 4 = .ok (.if_acmp .ne (12), 3) := by decide +kernel
theorem d_Co_takenCount_7 : decode b_Co_takenCount 7 = .ok (.aload_n 0, 1) := by decide +kernel
theorem d_Co_takenCount_8 : decode b_Co_takenCount 8 = .ok (.getfield 29, 3) := by decide +kernel
theorem d_Co_takenCount_11 : decode b_Co_takenCount 11 = .ok (.iload_n 2, 1) := by decide +kernel
theorem d_Co_takenCount_12 : decode b_Co_takenCount 12 = .ok (.iaload, 1) := by decide +kernel
theorem d_Co_takenCount_13 : decode b_Co_takenCount 13 = .ok (.goto (10), 3) := by decide +kernel
theorem d_Co_takenCount_16 : decode b_Co_takenCount 16 = .ok (.aload_n 1, 1) := by decide +kernel
theorem d_Co_takenCount_17 : decode b_Co_takenCount 17 = .ok (.getfield 123, 3) := by decide +kernel
theorem d_Co_takenCount_20 : decode b_Co_takenCount 20 = .ok (.invokevirtual 127, 3) := by decide +kernel
theorem d_Co_takenCount_23 : decode b_Co_takenCount 23 = .ok (.ireturn, 1) := by decide +kernel
def y_Op_wanted : MethodName := ⟨"FrameVerifier$Op", "wanted", "(I)I"⟩
abbrev b_Op_wanted : ByteArray := prog_7_method_5_code
def rm_Op_wanted : Room := { frames := 4, cells := 0, slots := 0, locals := 85 }
abbrev w_Op_wanted : List Cond := Cond.code y_Op_wanted b_Op_wanted 3 (some .int) :: wG
theorem m_Op_wanted : Cond.code y_Op_wanted b_Op_wanted 3 (some .int) ∈ wG := wg_t 302 (by decide +kernel) (by decide +kernel)
theorem q_Op_wanted : y_Op_wanted.cls ≠ "java/lang/invoke/MethodHandle" ∧ y_Op_wanted.cls ≠ "java/lang/invoke/VarHandle" ∧ (parseMethodDescriptor y_Op_wanted.desc).map (fun d => d.parameters.length) = some 1 := by decide +kernel
theorem g_Op_wanted : Cond.initialized y_Op_wanted.cls ∈ wG := wg_t 15 (by decide +kernel) (by decide +kernel)
theorem s_Op_wanted : Cond.instanceMethod y_Op_wanted ∈ wG := wg_t 300 (by decide +kernel) (by decide +kernel)
theorem e_Op_wanted : Cond.selects "FrameVerifier$Op" y_Op_wanted y_Op_wanted ∈ wG := wg_t 301 (by decide +kernel) (by decide +kernel)
theorem d_Op_wanted_0 : decode b_Op_wanted 0 = .ok (.aload_n 0, 1) := by decide +kernel
theorem d_Op_wanted_1 : decode b_Op_wanted 1 = .ok (.getfield 85, 3) := by decide +kernel
theorem d_Op_wanted_4 : decode b_Op_wanted 4 = .ok (.aload_n 0, 1) := by decide +kernel
theorem d_Op_wanted_5 : decode b_Op_wanted 5 = .ok (.getfield 85, 3) := by decide +kernel
theorem d_Op_wanted_8 : decode b_Op_wanted 8 = .ok (.invokevirtual 97, 3) := by decide +kernel
theorem d_Op_wanted_11 : decode b_Op_wanted 11 = .ok (.iconst 1, 1) := by decide +kernel
theorem d_Op_wanted_12 : decode b_Op_wanted 12 = .ok (.isub, 1) := by decide +kernel
theorem d_Op_wanted_13 : decode b_Op_wanted 13 = .ok (.iload_n 1, 1) := by decide +kernel
theorem d_Op_wanted_14 : decode b_Op_wanted 14 = .ok (.isub, 1) := by decide +kernel
theorem d_Op_wanted_15 : decode b_Op_wanted 15 = .ok (.invokevirtual 103, 3) := by decide +kernel
theorem d_Op_wanted_18 : decode b_Op_wanted 18 = .ok (.istore_n 2, 1) := by decide +kernel
theorem d_Op_wanted_19 : decode b_Op_wanted 19 = .ok (.iload_n 2, 1) := by decide +kernel
theorem d_Op_wanted_20 : decode b_Op_wanted 20 = .ok (.bipush (105), 2) := by decide +kernel
theorem d_Op_wanted_22 : decode b_Op_wanted 22 = .ok (.if_icmp .ne (5), 3) := by decide +kernel
theorem d_Op_wanted_25 : decode b_Op_wanted 25 = .ok (.iconst 1, 1) := by decide +kernel
theorem d_Op_wanted_26 : decode b_Op_wanted 26 = .ok (.ireturn, 1) := by decide +kernel
theorem d_Op_wanted_27 : decode b_Op_wanted 27 = .ok (.iload_n 2, 1) := by decide +kernel
theorem d_Op_wanted_28 : decode b_Op_wanted 28 = .ok (.bipush (114), 2) := by decide +kernel
theorem d_Op_wanted_30 : decode b_Op_wanted 30 = .ok (.if_icmp .ne (7), 3) := by decide +kernel
theorem d_Op_wanted_33 : decode b_Op_wanted 33 = .ok (.iconst 2, 1) := by decide +kernel
theorem d_Op_wanted_34 : decode b_Op_wanted 34 = .ok (.goto (4), 3) := by decide +kernel
theorem d_Op_wanted_37 : decode b_Op_wanted 37 = .ok (.iconst 3, 1) := by decide +kernel
theorem d_Op_wanted_38 : decode b_Op_wanted 38 = .ok (.ireturn, 1) := by decide +kernel
def y_Co_wantedBelow : MethodName := ⟨"FrameVerifier$Code", "wantedBelow", "(ILFrameVerifier$Op;II)I"⟩
abbrev b_Co_wantedBelow : ByteArray := prog_3_method_18_code
def rm_Co_wantedBelow : Room := { frames := 5, cells := 0, slots := 0, locals := 107 }
abbrev w_Co_wantedBelow : List Cond := Cond.code y_Co_wantedBelow b_Co_wantedBelow 5 (some .int) :: wG
theorem m_Co_wantedBelow : Cond.code y_Co_wantedBelow b_Co_wantedBelow 5 (some .int) ∈ wG := wg_t 298 (by decide +kernel) (by decide +kernel)
theorem q_Co_wantedBelow : y_Co_wantedBelow.cls ≠ "java/lang/invoke/MethodHandle" ∧ y_Co_wantedBelow.cls ≠ "java/lang/invoke/VarHandle" ∧ (parseMethodDescriptor y_Co_wantedBelow.desc).map (fun d => d.parameters.length) = some 4 := by decide +kernel
theorem g_Co_wantedBelow : Cond.initialized y_Co_wantedBelow.cls ∈ wG := wg_t 2 (by decide +kernel) (by decide +kernel)
theorem s_Co_wantedBelow : Cond.instanceMethod y_Co_wantedBelow ∈ wG := wg_t 297 (by decide +kernel) (by decide +kernel)
theorem e_Co_wantedBelow : Cond.selects "FrameVerifier$Code" y_Co_wantedBelow y_Co_wantedBelow ∈ wG := wg_s (q := (y_Co_wantedBelow, 7)) 10 (by decide +kernel) (by decide +kernel)
theorem d_Co_wantedBelow_0 : decode b_Co_wantedBelow 0 = .ok (.getstatic 88, 3) := by decide +kernel
theorem d_Co_wantedBelow_3 : decode b_Co_wantedBelow 3 = .ok (.aload_n 2, 1) := by decide +kernel
theorem d_Co_wantedBelow_4 : decode b_Co_wantedBelow 4 = .ok (.invokevirtual 93, 3) := by decide +kernel
theorem d_Co_wantedBelow_7 : decode b_Co_wantedBelow 7 = .ok (.iaload, 1) := by decide +kernel
theorem d_Co_wantedBelow_8 : decode b_Co_wantedBelow 8 = .ok (.lookupswitch (52) #[((5), (28)), ((6), (45))], 28) := by decide +kernel
theorem d_Co_wantedBelow_36 : decode b_Co_wantedBelow 36 = .ok (.aload_n 0, 1) := by decide +kernel
theorem d_Co_wantedBelow_37 : decode b_Co_wantedBelow 37 = .ok (.iload_n 3, 1) := by decide +kernel
theorem d_Co_wantedBelow_38 : decode b_Co_wantedBelow 38 = .ok (.aload_n 0, 1) := by decide +kernel
theorem d_Co_wantedBelow_39 : decode b_Co_wantedBelow 39 = .ok (.getfield 29, 3) := by decide +kernel
theorem d_Co_wantedBelow_42 : decode b_Co_wantedBelow 42 = .ok (.iload_n 3, 1) := by decide +kernel
theorem d_Co_wantedBelow_43 : decode b_Co_wantedBelow 43 = .ok (.iaload, 1) := by decide +kernel
theorem d_Co_wantedBelow_44 : decode b_Co_wantedBelow 44 = .ok (.iconst 1, 1) := by decide +kernel
theorem d_Co_wantedBelow_45 : decode b_Co_wantedBelow 45 = .ok (.isub, 1) := by decide +kernel
theorem d_Co_wantedBelow_46 : decode b_Co_wantedBelow 46 = .ok (.iload 4, 2) := by decide +kernel
theorem d_Co_wantedBelow_48 : decode b_Co_wantedBelow 48 = .ok (.isub, 1) := by decide +kernel
theorem d_Co_wantedBelow_49 : decode b_Co_wantedBelow 49 = .ok (.invokevirtual 41, 3) := by decide +kernel
theorem d_Co_wantedBelow_52 : decode b_Co_wantedBelow 52 = .ok (.ireturn, 1) := by decide +kernel
theorem d_Co_wantedBelow_53 : decode b_Co_wantedBelow 53 = .ok (.aload_n 0, 1) := by decide +kernel
theorem d_Co_wantedBelow_54 : decode b_Co_wantedBelow 54 = .ok (.iload_n 1, 1) := by decide +kernel
theorem d_Co_wantedBelow_55 : decode b_Co_wantedBelow 55 = .ok (.iconst 3, 1) := by decide +kernel
theorem d_Co_wantedBelow_56 : decode b_Co_wantedBelow 56 = .ok (.invokevirtual 41, 3) := by decide +kernel
theorem d_Co_wantedBelow_59 : decode b_Co_wantedBelow 59 = .ok (.ireturn, 1) := by decide +kernel
theorem d_Co_wantedBelow_60 : decode b_Co_wantedBelow 60 = .ok (.aload_n 2, 1) := by decide +kernel
theorem d_Co_wantedBelow_61 : decode b_Co_wantedBelow 61 = .ok (.iload 4, 2) := by decide +kernel
theorem d_Co_wantedBelow_63 : decode b_Co_wantedBelow 63 = .ok (.invokevirtual 136, 3) := by decide +kernel
theorem d_Co_wantedBelow_66 : decode b_Co_wantedBelow 66 = .ok (.ireturn, 1) := by decide +kernel
def y_Co_takenFits : MethodName := ⟨"FrameVerifier$Code", "takenFits", "(ILFrameVerifier$Op;II)Z"⟩
abbrev b_Co_takenFits : ByteArray := prog_3_method_17_code
def rm_Co_takenFits : Room := { frames := 6, cells := 0, slots := 0, locals := 131 }
abbrev w_Co_takenFits : List Cond := Cond.code y_Co_takenFits b_Co_takenFits 8 (some .boolean) :: wG
theorem m_Co_takenFits : Cond.code y_Co_takenFits b_Co_takenFits 8 (some .boolean) ∈ wG := wg_t 277 (by decide +kernel) (by decide +kernel)
theorem q_Co_takenFits : y_Co_takenFits.cls ≠ "java/lang/invoke/MethodHandle" ∧ y_Co_takenFits.cls ≠ "java/lang/invoke/VarHandle" ∧ (parseMethodDescriptor y_Co_takenFits.desc).map (fun d => d.parameters.length) = some 4 := by decide +kernel
theorem g_Co_takenFits : Cond.initialized y_Co_takenFits.cls ∈ wG := wg_t 2 (by decide +kernel) (by decide +kernel)
theorem s_Co_takenFits : Cond.instanceMethod y_Co_takenFits ∈ wG := wg_t 276 (by decide +kernel) (by decide +kernel)
theorem e_Co_takenFits : Cond.selects "FrameVerifier$Code" y_Co_takenFits y_Co_takenFits ∈ wG := wg_s (q := (y_Co_takenFits, 7)) 8 (by decide +kernel) (by decide +kernel)
theorem d_Co_takenFits_0 : decode b_Co_takenFits 0 = .ok (.aload_n 0, 1) := by decide +kernel
theorem d_Co_takenFits_1 : decode b_Co_takenFits 1 = .ok (.aload_n 2, 1) := by decide +kernel
theorem d_Co_takenFits_2 : decode b_Co_takenFits 2 = .ok (.iload_n 3, 1) := by decide +kernel
theorem d_Co_takenFits_3 : decode b_Co_takenFits 3 = .ok (.invokevirtual 81, 3) := by decide +kernel
theorem d_Co_takenFits_6 : decode b_Co_takenFits 6 = .ok (.istore 5, 2) := by decide +kernel
theorem d_Co_takenFits_8 : decode b_Co_takenFits 8 = .ok (.iload 4, 2) := by decide +kernel
theorem d_Co_takenFits_10 : decode b_Co_takenFits 10 = .ok (.invokestatic 77, 3) := by decide +kernel
theorem d_Co_takenFits_13 : decode b_Co_takenFits 13 = .ok (.iload 5, 2) := by decide +kernel
theorem d_Co_takenFits_15 : decode b_Co_takenFits 15 = .ok (.if_icmp .ge (5), 3) := by decide +kernel
theorem d_Co_takenFits_18 : decode b_Co_takenFits 18 = .ok (.iconst 0, 1) := by decide +kernel
theorem d_Co_takenFits_19 : decode b_Co_takenFits 19 = .ok (.ireturn, 1) := by decide +kernel
theorem d_Co_takenFits_20 : decode b_Co_takenFits 20 = .ok (.iconst 0, 1) := by decide +kernel
theorem d_Co_takenFits_21 : decode b_Co_takenFits 21 = .ok (.istore 6, 2) := by decide +kernel
theorem d_Co_takenFits_23 : decode b_Co_takenFits 23 = .ok (.iload 6, 2) := by decide +kernel
theorem d_Co_takenFits_25 : decode b_Co_takenFits 25 = .ok (.iload 5, 2) := by decide +kernel
theorem d_Co_takenFits_27 : decode b_Co_takenFits 27 = .ok (.if_icmp .ge (40), 3) := by decide +kernel
theorem d_Co_takenFits_30 : decode b_Co_takenFits 30 = .ok (.aload_n 0, 1) := by decide +kernel
theorem d_Co_takenFits_31 : decode b_Co_takenFits 31 = .ok (.iload_n 1, 1) := by decide +kernel
theorem d_Co_takenFits_32 : decode b_Co_takenFits 32 = .ok (.aload_n 2, 1) := by decide +kernel
theorem d_Co_takenFits_33 : decode b_Co_takenFits 33 = .ok (.iload_n 3, 1) := by decide +kernel
theorem d_Co_takenFits_34 : decode b_Co_takenFits 34 = .ok (.iload 6, 2) := by decide +kernel
theorem d_Co_takenFits_36 : decode b_Co_takenFits 36 = .ok (.invokevirtual 132, 3) := by decide +kernel
theorem d_Co_takenFits_39 : decode b_Co_takenFits 39 = .ok (.istore 7, 2) := by decide +kernel
theorem d_Co_takenFits_41 : decode b_Co_takenFits 41 = .ok (.iload 7, 2) := by decide +kernel
theorem d_Co_takenFits_43 : decode b_Co_takenFits 43 = .ok (.iconst 3, 1) := by decide +kernel
theorem d_Co_takenFits_44 : decode b_Co_takenFits 44 = .ok (.if_icmp .eq (17), 3) := by decide +kernel
theorem d_Co_takenFits_47 : decode b_Co_takenFits 47 = .ok (.iload 7, 2) := by decide +kernel
theorem d_Co_takenFits_49 : decode b_Co_takenFits 49 = .ok (.iload 4, 2) := by decide +kernel
theorem d_Co_takenFits_51 : decode b_Co_takenFits 51 = .ok (.iload 6, 2) := by decide +kernel
theorem d_Co_takenFits_53 : decode b_Co_takenFits 53 = .ok (.invokestatic 103, 3) := by decide +kernel
theorem d_Co_takenFits_56 : decode b_Co_takenFits 56 = .ok (.if_icmp .eq (5), 3) := by decide +kernel
theorem d_Co_takenFits_59 : decode b_Co_takenFits 59 = .ok (.iconst 0, 1) := by decide +kernel
theorem d_Co_takenFits_60 : decode b_Co_takenFits 60 = .ok (.ireturn, 1) := by decide +kernel
theorem d_Co_takenFits_61 : decode b_Co_takenFits 61 = .ok (.iinc 6 (1), 3) := by decide +kernel
theorem d_Co_takenFits_64 : decode b_Co_takenFits 64 = .ok (.goto (-41), 3) := by decide +kernel
theorem d_Co_takenFits_67 : decode b_Co_takenFits 67 = .ok (.iconst 1, 1) := by decide +kernel
theorem d_Co_takenFits_68 : decode b_Co_takenFits 68 = .ok (.ireturn, 1) := by decide +kernel
def y_Co_after : MethodName := ⟨"FrameVerifier$Code", "after", "(II)I"⟩
abbrev b_Co_after : ByteArray := prog_3_method_12_code
def rm_Co_after : Room := { frames := 3, cells := 0, slots := 0, locals := 62 }
abbrev w_Co_after : List Cond := Cond.code y_Co_after b_Co_after 6 (some .int) :: wG
theorem m_Co_after : Cond.code y_Co_after b_Co_after 6 (some .int) ∈ wG := wg_t 351 (by decide +kernel) (by decide +kernel)
theorem q_Co_after : y_Co_after.cls ≠ "java/lang/invoke/MethodHandle" ∧ y_Co_after.cls ≠ "java/lang/invoke/VarHandle" ∧ (parseMethodDescriptor y_Co_after.desc).map (fun d => d.parameters.length) = some 2 := by decide +kernel
theorem g_Co_after : Cond.initialized y_Co_after.cls ∈ wG := wg_t 2 (by decide +kernel) (by decide +kernel)
theorem s_Co_after : Cond.instanceMethod y_Co_after ∈ wG := wg_t 349 (by decide +kernel) (by decide +kernel)
theorem e_Co_after : Cond.selects "FrameVerifier$Code" y_Co_after y_Co_after ∈ wG := wg_t 350 (by decide +kernel) (by decide +kernel)
theorem d_Co_after_0 : decode b_Co_after 0 = .ok (.aload_n 0, 1) := by decide +kernel
theorem d_Co_after_1 : decode b_Co_after 1 = .ok (.iload_n 1, 1) := by decide +kernel
theorem d_Co_after_2 : decode b_Co_after 2 = .ok (.invokevirtual 53, 3) := by decide +kernel
theorem d_Co_after_5 : decode b_Co_after 5 = .ok (.astore_n 3, 1) := by decide +kernel
theorem d_Co_after_6 : decode b_Co_after 6 = .ok (.aload_n 0, 1) := by decide +kernel
theorem d_Co_after_7 : decode b_Co_after 7 = .ok (.getfield 19, 3) := by decide +kernel
theorem d_Co_after_10 : decode b_Co_after 10 = .ok (.iload_n 1, 1) := by decide +kernel
theorem d_Co_after_11 : decode b_Co_after 11 = .ok (.iaload, 1) := by decide +kernel
theorem d_Co_after_12 : decode b_Co_after 12 = .ok (.istore 4, 2) := by decide +kernel
theorem d_Co_after_14 : decode b_Co_after 14 = .ok (.iload_n 2, 1) := by decide +kernel
theorem d_Co_after_15 : decode b_Co_after 15 = .ok (.aload_n 0, 1) := by decide +kernel
theorem d_Co_after_16 : decode b_Co_after 16 = .ok (.aload_n 3, 1) := by decide +kernel
theorem d_Co_after_17 : decode b_Co_after 17 = .ok (.iload 4, 2) := by decide +kernel
theorem d_Co_after_19 : decode b_Co_after 19 = .ok (.invokevirtual 81, 3) := by decide +kernel
theorem d_Co_after_22 : decode b_Co_after 22 = .ok (.invokestatic 85, 3) := by decide +kernel
theorem d_Co_after_25 : decode b_Co_after 25 = .ok (.istore 5, 2) := by decide +kernel
theorem d_Co_after_27 : decode b_Co_after 27 = .ok (.getstatic 88, 3) := by decide +kernel
theorem d_Co_after_30 : decode b_Co_after 30 = .ok (.aload_n 3, 1) := by decide +kernel
theorem d_Co_after_31 : decode b_Co_after 31 = .ok (.invokevirtual 93, 3) := by decide +kernel
theorem d_Co_after_34 : decode b_Co_after 34 = .ok (.iaload, 1) := by decide +kernel
theorem d_Co_after_35 : decode b_Co_after 35 = .ok (.tableswitch (104) (1) (5) #[(33), (45), (58), (68), (91)], 33) := by decide +kernel
theorem d_Co_after_68 : decode b_Co_after 68 = .ok (.iload 5, 2) := by decide +kernel
theorem d_Co_after_70 : decode b_Co_after 70 = .ok (.iload_n 2, 1) := by decide +kernel
theorem d_Co_after_71 : decode b_Co_after 71 = .ok (.iload 4, 2) := by decide +kernel
theorem d_Co_after_73 : decode b_Co_after 73 = .ok (.invokestatic 97, 3) := by decide +kernel
theorem d_Co_after_76 : decode b_Co_after 76 = .ok (.invokestatic 100, 3) := by decide +kernel
theorem d_Co_after_79 : decode b_Co_after 79 = .ok (.ireturn, 1) := by decide +kernel
theorem d_Co_after_80 : decode b_Co_after 80 = .ok (.iload 5, 2) := by decide +kernel
theorem d_Co_after_82 : decode b_Co_after 82 = .ok (.iload 4, 2) := by decide +kernel
theorem d_Co_after_84 : decode b_Co_after 84 = .ok (.iload_n 2, 1) := by decide +kernel
theorem d_Co_after_85 : decode b_Co_after 85 = .ok (.iconst 0, 1) := by decide +kernel
theorem d_Co_after_86 : decode b_Co_after 86 = .ok (.invokestatic 103, 3) := by decide +kernel
theorem d_Co_after_89 : decode b_Co_after 89 = .ok (.invokestatic 45, 3) := by decide +kernel
theorem d_Co_after_92 : decode b_Co_after 92 = .ok (.ireturn, 1) := by decide +kernel
theorem d_Co_after_93 : decode b_Co_after 93 = .ok (.iload_n 2, 1) := by decide +kernel
theorem d_Co_after_94 : decode b_Co_after 94 = .ok (.iload_n 2, 1) := by decide +kernel
theorem d_Co_after_95 : decode b_Co_after 95 = .ok (.iconst 0, 1) := by decide +kernel
theorem d_Co_after_96 : decode b_Co_after 96 = .ok (.invokestatic 103, 3) := by decide +kernel
theorem d_Co_after_99 : decode b_Co_after 99 = .ok (.invokestatic 100, 3) := by decide +kernel
theorem d_Co_after_102 : decode b_Co_after 102 = .ok (.ireturn, 1) := by decide +kernel
theorem d_Co_after_103 : decode b_Co_after 103 = .ok (.iload 5, 2) := by decide +kernel
theorem d_Co_after_105 : decode b_Co_after 105 = .ok (.iload_n 2, 1) := by decide +kernel
theorem d_Co_after_106 : decode b_Co_after 106 = .ok (.iconst 0, 1) := by decide +kernel
theorem d_Co_after_107 : decode b_Co_after 107 = .ok (.invokestatic 103, 3) := by decide +kernel
theorem d_Co_after_110 : decode b_Co_after 110 = .ok (.invokestatic 100, 3) := by decide +kernel
theorem d_Co_after_113 : decode b_Co_after 113 = .ok (.istore 5, 2) := by decide +kernel
theorem d_Co_after_115 : decode b_Co_after 115 = .ok (.iload 5, 2) := by decide +kernel
theorem d_Co_after_117 : decode b_Co_after 117 = .ok (.iload_n 2, 1) := by decide +kernel
theorem d_Co_after_118 : decode b_Co_after 118 = .ok (.iconst 1, 1) := by decide +kernel
theorem d_Co_after_119 : decode b_Co_after 119 = .ok (.invokestatic 103, 3) := by decide +kernel
theorem d_Co_after_122 : decode b_Co_after 122 = .ok (.invokestatic 100, 3) := by decide +kernel
theorem d_Co_after_125 : decode b_Co_after 125 = .ok (.ireturn, 1) := by decide +kernel
theorem d_Co_after_126 : decode b_Co_after 126 = .ok (.iload 5, 2) := by decide +kernel
theorem d_Co_after_128 : decode b_Co_after 128 = .ok (.aload_n 0, 1) := by decide +kernel
theorem d_Co_after_129 : decode b_Co_after 129 = .ok (.iload 4, 2) := by decide +kernel
theorem d_Co_after_131 : decode b_Co_after 131 = .ok (.iconst 3, 1) := by decide +kernel
theorem d_Co_after_132 : decode b_Co_after 132 = .ok (.invokevirtual 41, 3) := by decide +kernel
theorem d_Co_after_135 : decode b_Co_after 135 = .ok (.invokestatic 100, 3) := by decide +kernel
theorem d_Co_after_138 : decode b_Co_after 138 = .ok (.ireturn, 1) := by decide +kernel
theorem d_Co_after_139 : decode b_Co_after 139 = .ok (.aload_n 3, 1) := by decide +kernel
theorem d_Co_after_140 : decode b_Co_after 140 = .ok (.getfield 106, 3) := by decide +kernel
theorem d_Co_after_143 : decode b_Co_after 143 = .ok (.ifCond .ne (8), 3) := by decide +kernel
theorem d_Co_after_146 : decode b_Co_after 146 = .ok (.iload 5, 2) := by decide +kernel
theorem d_Co_after_148 : decode b_Co_after 148 = .ok (.goto (12), 3) := by decide +kernel
theorem d_Co_after_151 : decode b_Co_after 151 = .ok (.iload 5, 2) := by decide +kernel
theorem d_Co_after_153 : decode b_Co_after 153 = .ok (.aload_n 3, 1) := by decide +kernel
theorem d_Co_after_154 : decode b_Co_after 154 = .ok (.getfield 106, 3) := by decide +kernel
theorem d_Co_after_157 : decode b_Co_after 157 = .ok (.invokestatic 100, 3) := by decide +kernel
theorem d_Co_after_160 : decode b_Co_after 160 = .ok (.ireturn, 1) := by decide +kernel
def y_Co_fits : MethodName := ⟨"FrameVerifier$Code", "fits", "(III)Z"⟩
abbrev b_Co_fits : ByteArray := prog_3_method_11_code
def rm_Co_fits : Room := { frames := 7, cells := 0, slots := 0, locals := 158 }
abbrev w_Co_fits : List Cond := Cond.code y_Co_fits b_Co_fits 6 (some .boolean) :: wG
theorem m_Co_fits : Cond.code y_Co_fits b_Co_fits 6 (some .boolean) ∈ wG := wg_t 235 (by decide +kernel) (by decide +kernel)
theorem q_Co_fits : y_Co_fits.cls ≠ "java/lang/invoke/MethodHandle" ∧ y_Co_fits.cls ≠ "java/lang/invoke/VarHandle" ∧ (parseMethodDescriptor y_Co_fits.desc).map (fun d => d.parameters.length) = some 3 := by decide +kernel
theorem g_Co_fits : Cond.initialized y_Co_fits.cls ∈ wG := wg_t 2 (by decide +kernel) (by decide +kernel)
theorem s_Co_fits : Cond.instanceMethod y_Co_fits ∈ wG := wg_t 233 (by decide +kernel) (by decide +kernel)
theorem e_Co_fits : Cond.selects "FrameVerifier$Code" y_Co_fits y_Co_fits ∈ wG := wg_t 234 (by decide +kernel) (by decide +kernel)
theorem d_Co_fits_0 : decode b_Co_fits 0 = .ok (.iload_n 3, 1) := by decide +kernel
theorem d_Co_fits_1 : decode b_Co_fits 1 = .ok (.iconst (-1), 1) := by decide +kernel
theorem d_Co_fits_2 : decode b_Co_fits 2 = .ok (.if_icmp .eq (17), 3) := by decide +kernel
theorem d_Co_fits_5 : decode b_Co_fits 5 = .ok (.iload_n 3, 1) := by decide +kernel
theorem d_Co_fits_6 : decode b_Co_fits 6 = .ok (.bipush (-2), 2) := by decide +kernel
theorem d_Co_fits_8 : decode b_Co_fits 8 = .ok (.if_icmp .eq (11), 3) := by decide +kernel
theorem d_Co_fits_11 : decode b_Co_fits 11 = .ok (.aload_n 0, 1) := by decide +kernel
theorem d_Co_fits_12 : decode b_Co_fits 12 = .ok (.iload_n 2, 1) := by decide +kernel
theorem d_Co_fits_13 : decode b_Co_fits 13 = .ok (.invokevirtual 49, 3) := by decide +kernel
theorem d_Co_fits_16 : decode b_Co_fits 16 = .ok (.ifCond .ne (5), 3) := by decide +kernel
theorem d_Co_fits_19 : decode b_Co_fits 19 = .ok (.iconst 0, 1) := by decide +kernel
theorem d_Co_fits_20 : decode b_Co_fits 20 = .ok (.ireturn, 1) := by decide +kernel
theorem d_Co_fits_21 : decode b_Co_fits 21 = .ok (.aload_n 0, 1) := by decide +kernel
theorem d_Co_fits_22 : decode b_Co_fits 22 = .ok (.iload_n 2, 1) := by decide +kernel
theorem d_Co_fits_23 : decode b_Co_fits 23 = .ok (.invokevirtual 53, 3) := by decide +kernel
theorem d_Co_fits_26 : decode b_Co_fits 26 = .ok (.astore 4, 2) := by decide +kernel
theorem d_Co_fits_28 : decode b_Co_fits 28 = .ok (.aload_n 0, 1) := by decide +kernel
theorem d_Co_fits_29 : decode b_Co_fits 29 = .ok (.getfield 19, 3) := by decide +kernel
theorem d_Co_fits_32 : decode b_Co_fits 32 = .ok (.iload_n 2, 1) := by decide +kernel
theorem d_Co_fits_33 : decode b_Co_fits 33 = .ok (.iaload, 1) := by decide +kernel
theorem d_Co_fits_34 : decode b_Co_fits 34 = .ok (.istore 5, 2) := by decide +kernel
theorem d_Co_fits_36 : decode b_Co_fits 36 = .ok (.aload 4, 2) := by decide +kernel
theorem d_Co_fits_38 : decode b_Co_fits 38 = .ok (.getfield 57, 3) := by decide +kernel
theorem d_Co_fits_41 : decode b_Co_fits 41 = .ok (.ifCond .eq (13), 3) := by decide +kernel
theorem d_Co_fits_44 : decode b_Co_fits 44 = .ok (.aload_n 0, 1) := by decide +kernel
theorem d_Co_fits_45 : decode b_Co_fits 45 = .ok (.iload_n 2, 1) := by decide +kernel
theorem d_Co_fits_46 : decode b_Co_fits 46 = .ok (.iconst 1, 1) := by decide +kernel
theorem d_Co_fits_47 : decode b_Co_fits 47 = .ok (.iadd, 1) := by decide +kernel
theorem d_Co_fits_48 : decode b_Co_fits 48 = .ok (.invokevirtual 63, 3) := by decide +kernel
theorem d_Co_fits_51 : decode b_Co_fits 51 = .ok (.ifCond .eq (46), 3) := by decide +kernel
theorem d_Co_fits_54 : decode b_Co_fits 54 = .ok (.aload_n 0, 1) := by decide +kernel
theorem d_Co_fits_55 : decode b_Co_fits 55 = .ok (.aload 4, 2) := by decide +kernel
theorem d_Co_fits_57 : decode b_Co_fits 57 = .ok (.iload 5, 2) := by decide +kernel
theorem d_Co_fits_59 : decode b_Co_fits 59 = .ok (.iload_n 3, 1) := by decide +kernel
theorem d_Co_fits_60 : decode b_Co_fits 60 = .ok (.invokevirtual 66, 3) := by decide +kernel
theorem d_Co_fits_63 : decode b_Co_fits 63 = .ok (.ifCond .eq (34), 3) := by decide +kernel
theorem d_Co_fits_66 : decode b_Co_fits 66 = .ok (.aload_n 0, 1) := by decide +kernel
theorem d_Co_fits_67 : decode b_Co_fits 67 = .ok (.iload_n 1, 1) := by decide +kernel
theorem d_Co_fits_68 : decode b_Co_fits 68 = .ok (.aload 4, 2) := by decide +kernel
theorem d_Co_fits_70 : decode b_Co_fits 70 = .ok (.iload 5, 2) := by decide +kernel
theorem d_Co_fits_72 : decode b_Co_fits 72 = .ok (.iload_n 3, 1) := by decide +kernel
theorem d_Co_fits_73 : decode b_Co_fits 73 = .ok (.invokevirtual 70, 3) := by decide +kernel
theorem d_Co_fits_76 : decode b_Co_fits 76 = .ok (.ifCond .eq (21), 3) := by decide +kernel
theorem d_Co_fits_79 : decode b_Co_fits 79 = .ok (.aload_n 0, 1) := by decide +kernel
theorem d_Co_fits_80 : decode b_Co_fits 80 = .ok (.iload_n 2, 1) := by decide +kernel
theorem d_Co_fits_81 : decode b_Co_fits 81 = .ok (.iload_n 3, 1) := by decide +kernel
theorem d_Co_fits_82 : decode b_Co_fits 82 = .ok (.invokevirtual 74, 3) := by decide +kernel
theorem d_Co_fits_85 : decode b_Co_fits 85 = .ok (.invokestatic 77, 3) := by decide +kernel
theorem d_Co_fits_88 : decode b_Co_fits 88 = .ok (.bipush (6), 2) := by decide +kernel
theorem d_Co_fits_90 : decode b_Co_fits 90 = .ok (.if_icmp .gt (7), 3) := by decide +kernel
theorem d_Co_fits_93 : decode b_Co_fits 93 = .ok (.iconst 1, 1) := by decide +kernel
theorem d_Co_fits_94 : decode b_Co_fits 94 = .ok (.goto (4), 3) := by decide +kernel
theorem d_Co_fits_97 : decode b_Co_fits 97 = .ok (.iconst 0, 1) := by decide +kernel
theorem d_Co_fits_98 : decode b_Co_fits 98 = .ok (.ireturn, 1) := by decide +kernel
theorem wd_40 : (Jvm.Cond.fieldLink "FrameVerifier$Code" (9 : Nat) "FrameVerifier$Code" "count" "I") ∈ wG := wg_t 40 (by decide +kernel) (by decide +kernel)
theorem wd_43 : (Jvm.Cond.fieldLink "FrameVerifier$Code" (15 : Nat) "FrameVerifier$Code" "ops" "[I") ∈ wG := wg_t 43 (by decide +kernel) (by decide +kernel)
theorem wd_44 : (Jvm.Cond.fieldLink "FrameVerifier$Code" (19 : Nat) "FrameVerifier$Code" "numbers" "[I") ∈ wG := wg_t 44 (by decide +kernel) (by decide +kernel)
theorem wd_45 : (Jvm.Cond.fieldLink "FrameVerifier$Code" (22 : Nat) "FrameVerifier$Code" "told" "[Z") ∈ wG := wg_t 45 (by decide +kernel) (by decide +kernel)
theorem wd_46 : (Jvm.Cond.fieldLink "FrameVerifier$Code" (26 : Nat) "FrameVerifier$Code" "starts" "[I") ∈ wG := wg_t 46 (by decide +kernel) (by decide +kernel)
theorem wd_47 : (Jvm.Cond.fieldLink "FrameVerifier$Code" (29 : Nat) "FrameVerifier$Code" "parameters" "[I") ∈ wG := wg_t 47 (by decide +kernel) (by decide +kernel)
theorem wd_48 : (Jvm.Cond.fieldLink "FrameVerifier$Code" (32 : Nat) "FrameVerifier$Code" "kinds" "[I") ∈ wG := wg_t 48 (by decide +kernel) (by decide +kernel)
theorem wd_251 : (Jvm.Cond.fieldLink "FrameVerifier$Code" (88 : Nat) "FrameVerifier$1" "$SwitchMap$FrameVerifier$Op" "[I") ∈ wG := wg_t 251 (by decide +kernel) (by decide +kernel)
theorem wd_268 : (Jvm.Cond.fieldLink "FrameVerifier$Op" (27 : Nat) "FrameVerifier$Op" "JUMP" "LFrameVerifier$Op;") ∈ wG := wg_t 268 (by decide +kernel) (by decide +kernel)
theorem wd_270 : (Jvm.Cond.fieldLink "FrameVerifier$Op" (30 : Nat) "FrameVerifier$Op" "ZERO" "LFrameVerifier$Op;") ∈ wG := wg_t 270 (by decide +kernel) (by decide +kernel)
theorem wd_272 : (Jvm.Cond.fieldLink "FrameVerifier$Op" (36 : Nat) "FrameVerifier$Op" "MISSING" "LFrameVerifier$Op;") ∈ wG := wg_t 272 (by decide +kernel) (by decide +kernel)
theorem wd_282 : (Jvm.Cond.fieldLink "FrameVerifier$Code" (119 : Nat) "FrameVerifier$Op" "CALL" "LFrameVerifier$Op;") ∈ wG := wg_t 282 (by decide +kernel) (by decide +kernel)
theorem wd_986 : (Jvm.Cond.fieldLink "FrameVerifier$Code" (57 : Nat) "FrameVerifier$Op" "goesBehind" "Z") ∈ wG := wg_t 986 (by decide +kernel) (by decide +kernel)
theorem wd_988 : (Jvm.Cond.fieldLink "FrameVerifier$Code" (123 : Nat) "FrameVerifier$Op" "takes" "Ljava/lang/String;") ∈ wG := wg_t 988 (by decide +kernel) (by decide +kernel)
theorem wd_991 : (Jvm.Cond.fieldLink "FrameVerifier$Op" (85 : Nat) "FrameVerifier$Op" "takes" "Ljava/lang/String;") ∈ wG := wg_t 991 (by decide +kernel) (by decide +kernel)
theorem wd_992 : (Jvm.Cond.fieldLink "FrameVerifier$Code" (106 : Nat) "FrameVerifier$Op" "gives" "I") ∈ wG := wg_t 992 (by decide +kernel) (by decide +kernel)
theorem k_Co_41 {R : Room} {s : State} {args : Array Value} {Ts : List Cond} (hts : ∀ w ∈ Ts, w.before args s = true) (hsub : ∀ w ∈ wG, w ∈ Ts) (hR : rm_Co_kindOf.frames + 1 ≤ R.frames ∧ 8 + (3 + 11) + rm_Co_kindOf.locals ≤ R.locals) : CallW R s args "FrameVerifier$Code" "FrameVerifier$Code" 41 y_Co_kindOf b_Co_kindOf 3 (some .int) w_Co_kindOf rm_Co_kindOf 0 0 2 := ⟨cb_G hts hsub m_Co_kindOf g_Co_kindOf (wg_t 200 (by decide +kernel) (by decide +kernel) : Cond.methodLink "FrameVerifier$Code" 41 y_Co_kindOf ∈ wG) q_Co_kindOf rfl rfl hR, hts _ (hsub _ s_Co_kindOf), hts _ (hsub _ e_Co_kindOf)⟩
theorem k_Co_45 {R : Room} {s : State} {args : Array Value} {Ts : List Cond} (hts : ∀ w ∈ Ts, w.before args s = true) (hsub : ∀ w ∈ wG, w ∈ Ts) (hR : rm_Ty_with.frames + 1 ≤ R.frames ∧ 8 + (4 + 11) + rm_Ty_with.locals ≤ R.locals) : CallB R s args "FrameVerifier$Code" 45 y_Ty_with b_Ty_with 4 (some .int) w_Ty_with rm_Ty_with 0 0 3 ∧ (Cond.static y_Ty_with).before args s = true := ⟨cb_G hts hsub m_Ty_with g_Ty_with (wg_t 204 (by decide +kernel) (by decide +kernel) : Cond.methodLink "FrameVerifier$Code" 45 y_Ty_with ∈ wG) q_Ty_with rfl rfl hR, hts _ (hsub _ s_Ty_with)⟩
theorem k_Co_49 {R : Room} {s : State} {args : Array Value} {Ts : List Cond} (hts : ∀ w ∈ Ts, w.before args s = true) (hsub : ∀ w ∈ wG, w ∈ Ts) (hR : rm_Co_hasOp.frames + 1 ≤ R.frames ∧ 8 + (2 + 11) + rm_Co_hasOp.locals ≤ R.locals) : CallW R s args "FrameVerifier$Code" "FrameVerifier$Code" 49 y_Co_hasOp b_Co_hasOp 2 (some .boolean) w_Co_hasOp rm_Co_hasOp 0 0 1 := ⟨cb_G hts hsub m_Co_hasOp g_Co_hasOp (wg_t 236 (by decide +kernel) (by decide +kernel) : Cond.methodLink "FrameVerifier$Code" 49 y_Co_hasOp ∈ wG) q_Co_hasOp rfl rfl hR, hts _ (hsub _ s_Co_hasOp), hts _ (hsub _ e_Co_hasOp)⟩
theorem k_Co_53 {R : Room} {s : State} {args : Array Value} {Ts : List Cond} (hts : ∀ w ∈ Ts, w.before args s = true) (hsub : ∀ w ∈ wG, w ∈ Ts) (hR : rm_Co_opAt.frames + 1 ≤ R.frames ∧ 8 + (2 + 11) + rm_Co_opAt.locals ≤ R.locals) : CallW R s args "FrameVerifier$Code" "FrameVerifier$Code" 53 y_Co_opAt b_Co_opAt 2 (some (.object "FrameVerifier$Op")) w_Co_opAt rm_Co_opAt 0 0 1 := ⟨cb_G hts hsub m_Co_opAt g_Co_opAt (wg_t 243 (by decide +kernel) (by decide +kernel) : Cond.methodLink "FrameVerifier$Code" 53 y_Co_opAt ∈ wG) q_Co_opAt rfl rfl hR, hts _ (hsub _ s_Co_opAt), hts _ (hsub _ e_Co_opAt)⟩
theorem k_Co_63 {R : Room} {s : State} {args : Array Value} {Ts : List Cond} (hts : ∀ w ∈ Ts, w.before args s = true) (hsub : ∀ w ∈ wG, w ∈ Ts) (hR : rm_Co_hasInstruction.frames + 1 ≤ R.frames ∧ 8 + (2 + 11) + rm_Co_hasInstruction.locals ≤ R.locals) : CallW R s args "FrameVerifier$Code" "FrameVerifier$Code" 63 y_Co_hasInstruction b_Co_hasInstruction 2 (some .boolean) w_Co_hasInstruction rm_Co_hasInstruction 0 0 1 := ⟨cb_G hts hsub m_Co_hasInstruction g_Co_hasInstruction (wg_t 240 (by decide +kernel) (by decide +kernel) : Cond.methodLink "FrameVerifier$Code" 63 y_Co_hasInstruction ∈ wG) q_Co_hasInstruction rfl rfl hR, hts _ (hsub _ s_Co_hasInstruction), hts _ (hsub _ e_Co_hasInstruction)⟩
theorem k_Co_66 {R : Room} {s : State} {args : Array Value} {Ts : List Cond} (hts : ∀ w ∈ Ts, w.before args s = true) (hsub : ∀ w ∈ wG, w ∈ Ts) (hR : rm_Co_numberFits.frames + 1 ≤ R.frames ∧ 8 + (4 + 11) + rm_Co_numberFits.locals ≤ R.locals) : CallW R s args "FrameVerifier$Code" "FrameVerifier$Code" 66 y_Co_numberFits b_Co_numberFits 4 (some .boolean) w_Co_numberFits rm_Co_numberFits 0 0 3 := ⟨cb_G hts hsub m_Co_numberFits g_Co_numberFits (wg_t 247 (by decide +kernel) (by decide +kernel) : Cond.methodLink "FrameVerifier$Code" 66 y_Co_numberFits ∈ wG) q_Co_numberFits rfl rfl hR, hts _ (hsub _ s_Co_numberFits), hts _ (hsub _ e_Co_numberFits)⟩
theorem k_Co_70 {R : Room} {s : State} {args : Array Value} {Ts : List Cond} (hts : ∀ w ∈ Ts, w.before args s = true) (hsub : ∀ w ∈ wG, w ∈ Ts) (hR : rm_Co_takenFits.frames + 1 ≤ R.frames ∧ 8 + (8 + 11) + rm_Co_takenFits.locals ≤ R.locals) : CallW R s args "FrameVerifier$Code" "FrameVerifier$Code" 70 y_Co_takenFits b_Co_takenFits 8 (some .boolean) w_Co_takenFits rm_Co_takenFits 0 0 4 := ⟨cb_G hts hsub m_Co_takenFits g_Co_takenFits (wg_t 274 (by decide +kernel) (by decide +kernel) : Cond.methodLink "FrameVerifier$Code" 70 y_Co_takenFits ∈ wG) q_Co_takenFits rfl rfl hR, hts _ (hsub _ s_Co_takenFits), hts _ (hsub _ e_Co_takenFits)⟩
theorem k_Co_74 {R : Room} {s : State} {args : Array Value} {Ts : List Cond} (hts : ∀ w ∈ Ts, w.before args s = true) (hsub : ∀ w ∈ wG, w ∈ Ts) (hR : rm_Co_after.frames + 1 ≤ R.frames ∧ 8 + (6 + 11) + rm_Co_after.locals ≤ R.locals) : CallW R s args "FrameVerifier$Code" "FrameVerifier$Code" 74 y_Co_after b_Co_after 6 (some .int) w_Co_after rm_Co_after 0 0 2 := ⟨cb_G hts hsub m_Co_after g_Co_after (wg_t 348 (by decide +kernel) (by decide +kernel) : Cond.methodLink "FrameVerifier$Code" 74 y_Co_after ∈ wG) q_Co_after rfl rfl hR, hts _ (hsub _ s_Co_after), hts _ (hsub _ e_Co_after)⟩
theorem k_Co_77 {R : Room} {s : State} {args : Array Value} {Ts : List Cond} (hts : ∀ w ∈ Ts, w.before args s = true) (hsub : ∀ w ∈ wG, w ∈ Ts) (hR : rm_Ty_height.frames + 1 ≤ R.frames ∧ 8 + (1 + 11) + rm_Ty_height.locals ≤ R.locals) : CallB R s args "FrameVerifier$Code" 77 y_Ty_height b_Ty_height 1 (some .int) w_Ty_height rm_Ty_height 0 0 1 ∧ (Cond.static y_Ty_height).before args s = true := ⟨cb_G hts hsub m_Ty_height g_Ty_height (wg_t 294 (by decide +kernel) (by decide +kernel) : Cond.methodLink "FrameVerifier$Code" 77 y_Ty_height ∈ wG) q_Ty_height rfl rfl hR, hts _ (hsub _ s_Ty_height)⟩
theorem k_Co_81 {R : Room} {s : State} {args : Array Value} {Ts : List Cond} (hts : ∀ w ∈ Ts, w.before args s = true) (hsub : ∀ w ∈ wG, w ∈ Ts) (hR : rm_Co_takenCount.frames + 1 ≤ R.frames ∧ 8 + (3 + 11) + rm_Co_takenCount.locals ≤ R.locals) : CallW R s args "FrameVerifier$Code" "FrameVerifier$Code" 81 y_Co_takenCount b_Co_takenCount 3 (some .int) w_Co_takenCount rm_Co_takenCount 0 0 2 := ⟨cb_G hts hsub m_Co_takenCount g_Co_takenCount (wg_t 278 (by decide +kernel) (by decide +kernel) : Cond.methodLink "FrameVerifier$Code" 81 y_Co_takenCount ∈ wG) q_Co_takenCount rfl rfl hR, hts _ (hsub _ s_Co_takenCount), hts _ (hsub _ e_Co_takenCount)⟩
theorem k_Co_85 {R : Room} {s : State} {args : Array Value} {Ts : List Cond} (hts : ∀ w ∈ Ts, w.before args s = true) (hsub : ∀ w ∈ wG, w ∈ Ts) (hR : rm_Ty_dropped.frames + 1 ≤ R.frames ∧ 8 + (4 + 11) + rm_Ty_dropped.locals ≤ R.locals) : CallB R s args "FrameVerifier$Code" 85 y_Ty_dropped b_Ty_dropped 4 (some .int) w_Ty_dropped rm_Ty_dropped 0 0 2 ∧ (Cond.static y_Ty_dropped).before args s = true := ⟨cb_G hts hsub m_Ty_dropped g_Ty_dropped (wg_t 352 (by decide +kernel) (by decide +kernel) : Cond.methodLink "FrameVerifier$Code" 85 y_Ty_dropped ∈ wG) q_Ty_dropped rfl rfl hR, hts _ (hsub _ s_Ty_dropped)⟩
theorem k_Co_97 {R : Room} {s : State} {args : Array Value} {Ts : List Cond} (hts : ∀ w ∈ Ts, w.before args s = true) (hsub : ∀ w ∈ wG, w ∈ Ts) (hR : rm_Ty_at.frames + 1 ≤ R.frames ∧ 8 + (2 + 11) + rm_Ty_at.locals ≤ R.locals) : CallB R s args "FrameVerifier$Code" 97 y_Ty_at b_Ty_at 2 (some .int) w_Ty_at rm_Ty_at 0 0 2 ∧ (Cond.static y_Ty_at).before args s = true := ⟨cb_G hts hsub m_Ty_at g_Ty_at (wg_t 262 (by decide +kernel) (by decide +kernel) : Cond.methodLink "FrameVerifier$Code" 97 y_Ty_at ∈ wG) q_Ty_at rfl rfl hR, hts _ (hsub _ s_Ty_at)⟩
theorem k_Co_100 {R : Room} {s : State} {args : Array Value} {Ts : List Cond} (hts : ∀ w ∈ Ts, w.before args s = true) (hsub : ∀ w ∈ wG, w ∈ Ts) (hR : rm_Ty_pushed.frames + 1 ≤ R.frames ∧ 8 + (2 + 11) + rm_Ty_pushed.locals ≤ R.locals) : CallB R s args "FrameVerifier$Code" 100 y_Ty_pushed b_Ty_pushed 2 (some .int) w_Ty_pushed rm_Ty_pushed 0 0 2 ∧ (Cond.static y_Ty_pushed).before args s = true := ⟨cb_G hts hsub m_Ty_pushed g_Ty_pushed (wg_t 355 (by decide +kernel) (by decide +kernel) : Cond.methodLink "FrameVerifier$Code" 100 y_Ty_pushed ∈ wG) q_Ty_pushed rfl rfl hR, hts _ (hsub _ s_Ty_pushed)⟩
theorem k_Co_103 {R : Room} {s : State} {args : Array Value} {Ts : List Cond} (hts : ∀ w ∈ Ts, w.before args s = true) (hsub : ∀ w ∈ wG, w ∈ Ts) (hR : rm_Ty_below.frames + 1 ≤ R.frames ∧ 8 + (2 + 11) + rm_Ty_below.locals ≤ R.locals) : CallB R s args "FrameVerifier$Code" 103 y_Ty_below b_Ty_below 2 (some .int) w_Ty_below rm_Ty_below 0 0 2 ∧ (Cond.static y_Ty_below).before args s = true := ⟨cb_G hts hsub m_Ty_below g_Ty_below (wg_t 342 (by decide +kernel) (by decide +kernel) : Cond.methodLink "FrameVerifier$Code" 103 y_Ty_below ∈ wG) q_Ty_below rfl rfl hR, hts _ (hsub _ s_Ty_below)⟩
theorem k_Co_112 {R : Room} {s : State} {args : Array Value} {Ts : List Cond} (hts : ∀ w ∈ Ts, w.before args s = true) (hsub : ∀ w ∈ wG, w ∈ Ts) (hR : rm_Co_hasRoutine.frames + 1 ≤ R.frames ∧ 8 + (2 + 11) + rm_Co_hasRoutine.locals ≤ R.locals) : CallW R s args "FrameVerifier$Code" "FrameVerifier$Code" 112 y_Co_hasRoutine b_Co_hasRoutine 2 (some .boolean) w_Co_hasRoutine rm_Co_hasRoutine 0 0 1 := ⟨cb_G hts hsub m_Co_hasRoutine g_Co_hasRoutine (wg_t 263 (by decide +kernel) (by decide +kernel) : Cond.methodLink "FrameVerifier$Code" 112 y_Co_hasRoutine ∈ wG) q_Co_hasRoutine rfl rfl hR, hts _ (hsub _ s_Co_hasRoutine), hts _ (hsub _ e_Co_hasRoutine)⟩
theorem k_Co_115 {R : Room} {s : State} {args : Array Value} {Ts : List Cond} (hts : ∀ w ∈ Ts, w.before args s = true) (hsub : ∀ w ∈ wG, w ∈ Ts) (hR : rm_Op_jumps.frames + 1 ≤ R.frames ∧ 8 + (1 + 11) + rm_Op_jumps.locals ≤ R.locals) : CallW R s args "FrameVerifier$Code" "FrameVerifier$Op" 115 y_Op_jumps b_Op_jumps 1 (some .boolean) w_Op_jumps rm_Op_jumps 0 0 0 := ⟨cb_G hts hsub m_Op_jumps g_Op_jumps (wg_t 264 (by decide +kernel) (by decide +kernel) : Cond.methodLink "FrameVerifier$Code" 115 y_Op_jumps ∈ wG) q_Op_jumps rfl rfl hR, hts _ (hsub _ s_Op_jumps), hts _ (hsub _ e_Op_jumps)⟩
theorem k_Co_127 {R : Room} {s : State} {args : Array Value} {Ts : List Cond} (hts : ∀ w ∈ Ts, w.before args s = true) (hsub : ∀ w ∈ wG, w ∈ Ts) (hR : rm_St_length.frames + 1 ≤ R.frames ∧ 8 + (1 + 11) + rm_St_length.locals ≤ R.locals) : CallW R s args "FrameVerifier$Code" "java/lang/String" 127 y_St_length b_St_length 1 (some .int) w_St_length rm_St_length 0 0 0 := ⟨cb_G hts hsub m_St_length g_St_length (wg_t 284 (by decide +kernel) (by decide +kernel) : Cond.methodLink "FrameVerifier$Code" 127 y_St_length ∈ wG) q_St_length rfl rfl hR, hts _ (hsub _ s_St_length), hts _ (hsub _ e_St_length)⟩
theorem k_Co_132 {R : Room} {s : State} {args : Array Value} {Ts : List Cond} (hts : ∀ w ∈ Ts, w.before args s = true) (hsub : ∀ w ∈ wG, w ∈ Ts) (hR : rm_Co_wantedBelow.frames + 1 ≤ R.frames ∧ 8 + (5 + 11) + rm_Co_wantedBelow.locals ≤ R.locals) : CallW R s args "FrameVerifier$Code" "FrameVerifier$Code" 132 y_Co_wantedBelow b_Co_wantedBelow 5 (some .int) w_Co_wantedBelow rm_Co_wantedBelow 0 0 4 := ⟨cb_G hts hsub m_Co_wantedBelow g_Co_wantedBelow (wg_t 295 (by decide +kernel) (by decide +kernel) : Cond.methodLink "FrameVerifier$Code" 132 y_Co_wantedBelow ∈ wG) q_Co_wantedBelow rfl rfl hR, hts _ (hsub _ s_Co_wantedBelow), hts _ (hsub _ e_Co_wantedBelow)⟩
theorem k_Co_136 {R : Room} {s : State} {args : Array Value} {Ts : List Cond} (hts : ∀ w ∈ Ts, w.before args s = true) (hsub : ∀ w ∈ wG, w ∈ Ts) (hR : rm_Op_wanted.frames + 1 ≤ R.frames ∧ 8 + (3 + 11) + rm_Op_wanted.locals ≤ R.locals) : CallW R s args "FrameVerifier$Code" "FrameVerifier$Op" 136 y_Op_wanted b_Op_wanted 3 (some .int) w_Op_wanted rm_Op_wanted 0 0 1 := ⟨cb_G hts hsub m_Op_wanted g_Op_wanted (wg_t 299 (by decide +kernel) (by decide +kernel) : Cond.methodLink "FrameVerifier$Code" 136 y_Op_wanted ∈ wG) q_Op_wanted rfl rfl hR, hts _ (hsub _ s_Op_wanted), hts _ (hsub _ e_Op_wanted)⟩
theorem k_Op_97 {R : Room} {s : State} {args : Array Value} {Ts : List Cond} (hts : ∀ w ∈ Ts, w.before args s = true) (hsub : ∀ w ∈ wG, w ∈ Ts) (hR : rm_St_length.frames + 1 ≤ R.frames ∧ 8 + (1 + 11) + rm_St_length.locals ≤ R.locals) : CallW R s args "FrameVerifier$Op" "java/lang/String" 97 y_St_length b_St_length 1 (some .int) w_St_length rm_St_length 0 0 0 := ⟨cb_G hts hsub m_St_length g_St_length (wg_t 303 (by decide +kernel) (by decide +kernel) : Cond.methodLink "FrameVerifier$Op" 97 y_St_length ∈ wG) q_St_length rfl rfl hR, hts _ (hsub _ s_St_length), hts _ (hsub _ e_St_length)⟩
theorem k_Op_103 {R : Room} {s : State} {args : Array Value} {Ts : List Cond} (hts : ∀ w ∈ Ts, w.before args s = true) (hsub : ∀ w ∈ wG, w ∈ Ts) (hR : rm_St_charAt.frames + 1 ≤ R.frames ∧ 8 + (2 + 11) + rm_St_charAt.locals ≤ R.locals) : CallW R s args "FrameVerifier$Op" "java/lang/String" 103 y_St_charAt b_St_charAt 2 (some .char) w_St_charAt rm_St_charAt 0 0 1 := ⟨cb_G hts hsub m_St_charAt g_St_charAt (wg_t 304 (by decide +kernel) (by decide +kernel) : Cond.methodLink "FrameVerifier$Op" 103 y_St_charAt ∈ wG) q_St_charAt rfl rfl hR, hts _ (hsub _ s_St_charAt), hts _ (hsub _ e_St_charAt)⟩
theorem k_Co_93 {R : Room} {s : State} {args : Array Value} {Ts : List Cond} (hts : ∀ w ∈ Ts, w.before args s = true) (hsub : ∀ w ∈ wG, w ∈ Ts) (hR : rm_En_ordinal.frames + 1 ≤ R.frames ∧ 8 + (1 + 11) + rm_En_ordinal.locals ≤ R.locals) : va_CU R s args "FrameVerifier$Code" "FrameVerifier$Op" "java/lang/Enum" 93 ⟨"FrameVerifier$Op", "ordinal", "()I"⟩ y_En_ordinal b_En_ordinal 1 (some .int) w_En_ordinal rm_En_ordinal 0 0 0 := by
  refine va_cwU 0 hts (fun w hw => ?_) rfl rfl rfl rfl (by decide +kernel) hR
  have h1 : w ∈ wG := by
    rcases List.mem_append.mp hw with h | h
    · simp only [List.mem_cons, List.not_mem_nil, or_false] at h
      rcases h with rfl | rfl | rfl | rfl | rfl
      · exact wg_t 253 (by decide +kernel) (by decide +kernel)
      · exact wg_t 254 (by decide +kernel) (by decide +kernel)
      · exact wg_t 256 (by decide +kernel) (by decide +kernel)
      · exact s_En_ordinal
      · exact g_En_ordinal
    · rcases List.mem_cons.mp h with rfl | h
      · exact m_En_ordinal
      · exact h
  exact ⟨hsub w h1, good_of_word (List.mem_filter.mp h1).2⟩
theorem k_nest {R : Room} {s : State} {args : Array Value} {Ts : List Cond} {D : va_G} {ca : Nat → ClassId} {ax : Nat → Nat → Nat} {b : Nat} (hKK : kC D ca ax b s) (hts : ∀ w ∈ Ts, w.before args s = true) (hsub : ∀ w ∈ wG, w ∈ Ts) (hR : rm_FV_isLocal.frames + 1 ≤ R.frames ∧ 8 + (1 + 11) + rm_FV_isLocal.locals ≤ R.locals) : va_CN R s args "FrameVerifier$Code" 109 y_FV_isLocal "FrameVerifier" b_FV_isLocal 1 (some .boolean) w_FV_isLocal rm_FV_isLocal 0 0 1 ∧ (Cond.static y_FV_isLocal).before args s = true ∧ True := ⟨va_cnB 1 hts (wg_in hsub m_FV_isLocal) rfl rfl rfl hKK.2.2.2.1 (hts _ (hsub _ g_FV_isLocal)) q_FV_isLocal hR, hts _ (hsub _ s_FV_isLocal), trivial⟩

def y_En_ordinal : MethodName := ⟨"java/lang/Enum", "ordinal", "()I"⟩
abbrev b_En_ordinal : ByteArray := prog_13_method_2_code
def rm_En_ordinal : Room := { frames := 0, cells := 0, slots := 0, locals := 0 }
abbrev w_En_ordinal : List Cond := Cond.code y_En_ordinal b_En_ordinal 1 (some .int) :: wG
theorem m_En_ordinal : Cond.code y_En_ordinal b_En_ordinal 1 (some .int) ∈ wG := wg_t 258 (by decide +kernel) (by decide +kernel)
theorem q_En_ordinal : y_En_ordinal.cls ≠ "java/lang/invoke/MethodHandle" ∧ y_En_ordinal.cls ≠ "java/lang/invoke/VarHandle" ∧ (parseMethodDescriptor y_En_ordinal.desc).map (fun d => d.parameters.length) = some 0 := by decide +kernel
theorem g_En_ordinal : Cond.initialized y_En_ordinal.cls ∈ wG := wg_t 14 (by decide +kernel) (by decide +kernel)
theorem s_En_ordinal : Cond.instanceMethod y_En_ordinal ∈ wG := wg_t 257 (by decide +kernel) (by decide +kernel)
theorem d_En_ordinal_0 : decode b_En_ordinal 0 = .ok (.aload_n 0, 1) := by decide +kernel
theorem d_En_ordinal_1 : decode b_En_ordinal 1 = .ok (.getfield 7, 3) := by decide +kernel
theorem d_En_ordinal_4 : decode b_En_ordinal 4 = .ok (.ireturn, 1) := by decide +kernel
def y_Pc_checkIndex : MethodName := ⟨"jdk/internal/util/Preconditions", "checkIndex", "(IILjava/util/function/BiFunction;)I"⟩
abbrev b_Pc_checkIndex : ByteArray := prog_26_method_11_code
def rm_Pc_checkIndex : Room := { frames := 0, cells := 0, slots := 0, locals := 0 }
abbrev w_Pc_checkIndex : List Cond := Cond.code y_Pc_checkIndex b_Pc_checkIndex 3 (some .int) :: wG
theorem m_Pc_checkIndex : Cond.code y_Pc_checkIndex b_Pc_checkIndex 3 (some .int) ∈ wG := wg_t 322 (by decide +kernel) (by decide +kernel)
theorem q_Pc_checkIndex : y_Pc_checkIndex.cls ≠ "java/lang/invoke/MethodHandle" ∧ y_Pc_checkIndex.cls ≠ "java/lang/invoke/VarHandle" ∧ (parseMethodDescriptor y_Pc_checkIndex.desc).map (fun d => d.parameters.length) = some 3 := by decide +kernel
theorem g_Pc_checkIndex : Cond.initialized y_Pc_checkIndex.cls ∈ wG := wg_t 18 (by decide +kernel) (by decide +kernel)
theorem s_Pc_checkIndex : Cond.static y_Pc_checkIndex ∈ wG := wg_t 321 (by decide +kernel) (by decide +kernel)
theorem d_Pc_checkIndex_0 : decode b_Pc_checkIndex 0 = .ok (.iload_n 0, 1) := by decide +kernel
theorem d_Pc_checkIndex_1 : decode b_Pc_checkIndex 1 = .ok (.ifCond .lt (8), 3) := by decide +kernel
theorem d_Pc_checkIndex_4 : decode b_Pc_checkIndex 4 = .ok (.iload_n 0, 1) := by decide +kernel
theorem d_Pc_checkIndex_5 : decode b_Pc_checkIndex 5 = .ok (.iload_n 1, 1) := by decide +kernel
theorem d_Pc_checkIndex_6 : decode b_Pc_checkIndex 6 = .ok (.if_icmp .lt (10), 3) := by decide +kernel
theorem d_Pc_checkIndex_9 : decode b_Pc_checkIndex 9 = .ok (.aload_n 2, 1) := by decide +kernel
theorem d_Pc_checkIndex_10 : decode b_Pc_checkIndex 10 = .ok (.iload_n 0, 1) := by decide +kernel
theorem d_Pc_checkIndex_11 : decode b_Pc_checkIndex 11 = .ok (.iload_n 1, 1) := by decide +kernel
theorem d_Pc_checkIndex_12 : decode b_Pc_checkIndex 12 = .ok (.invokestatic 95, 3) := by decide +kernel
theorem d_Pc_checkIndex_15 : decode b_Pc_checkIndex 15 = .ok (.athrow, 1) := by decide +kernel
theorem d_Pc_checkIndex_16 : decode b_Pc_checkIndex 16 = .ok (.iload_n 0, 1) := by decide +kernel
theorem d_Pc_checkIndex_17 : decode b_Pc_checkIndex 17 = .ok (.ireturn, 1) := by decide +kernel
def y_St_checkIndex : MethodName := ⟨"java/lang/String", "checkIndex", "(II)V"⟩
abbrev b_St_checkIndex : ByteArray := prog_20_method_155_code
def rm_St_checkIndex : Room := { frames := 1, cells := 0, slots := 0, locals := 22 }
abbrev w_St_checkIndex : List Cond := Cond.code y_St_checkIndex b_St_checkIndex 2 none :: wG
theorem m_St_checkIndex : Cond.code y_St_checkIndex b_St_checkIndex 2 none ∈ wG := wg_t 317 (by decide +kernel) (by decide +kernel)
theorem q_St_checkIndex : y_St_checkIndex.cls ≠ "java/lang/invoke/MethodHandle" ∧ y_St_checkIndex.cls ≠ "java/lang/invoke/VarHandle" ∧ (parseMethodDescriptor y_St_checkIndex.desc).map (fun d => d.parameters.length) = some 2 := by decide +kernel
theorem g_St_checkIndex : Cond.initialized y_St_checkIndex.cls ∈ wG := wg_t 16 (by decide +kernel) (by decide +kernel)
theorem s_St_checkIndex : Cond.static y_St_checkIndex ∈ wG := wg_t 316 (by decide +kernel) (by decide +kernel)
theorem d_St_checkIndex_0 : decode b_St_checkIndex 0 = .ok (.iload_n 0, 1) := by decide +kernel
theorem d_St_checkIndex_1 : decode b_St_checkIndex 1 = .ok (.iload_n 1, 1) := by decide +kernel
theorem d_St_checkIndex_2 : decode b_St_checkIndex 2 = .ok (.getstatic 1053, 3) := by decide +kernel
theorem d_St_checkIndex_5 : decode b_St_checkIndex 5 = .ok (.invokestatic 1059, 3) := by decide +kernel
theorem d_St_checkIndex_8 : decode b_St_checkIndex 8 = .ok (.pop, 1) := by decide +kernel
theorem d_St_checkIndex_9 : decode b_St_checkIndex 9 = .ok (.return_, 1) := by decide +kernel
def y_SL_charAt : MethodName := ⟨"java/lang/StringLatin1", "charAt", "([BI)C"⟩
abbrev b_SL_charAt : ByteArray := prog_21_method_2_code
def rm_SL_charAt : Room := { frames := 2, cells := 0, slots := 0, locals := 43 }
abbrev w_SL_charAt : List Cond := Cond.code y_SL_charAt b_SL_charAt 2 (some .char) :: wG
theorem m_SL_charAt : Cond.code y_SL_charAt b_SL_charAt 2 (some .char) ∈ wG := wg_t 314 (by decide +kernel) (by decide +kernel)
theorem q_SL_charAt : y_SL_charAt.cls ≠ "java/lang/invoke/MethodHandle" ∧ y_SL_charAt.cls ≠ "java/lang/invoke/VarHandle" ∧ (parseMethodDescriptor y_SL_charAt.desc).map (fun d => d.parameters.length) = some 2 := by decide +kernel
theorem g_SL_charAt : Cond.initialized y_SL_charAt.cls ∈ wG := wg_t 17 (by decide +kernel) (by decide +kernel)
theorem s_SL_charAt : Cond.static y_SL_charAt ∈ wG := wg_t 313 (by decide +kernel) (by decide +kernel)
theorem d_SL_charAt_0 : decode b_SL_charAt 0 = .ok (.iload_n 1, 1) := by decide +kernel
theorem d_SL_charAt_1 : decode b_SL_charAt 1 = .ok (.aload_n 0, 1) := by decide +kernel
theorem d_SL_charAt_2 : decode b_SL_charAt 2 = .ok (.arraylength, 1) := by decide +kernel
theorem d_SL_charAt_3 : decode b_SL_charAt 3 = .ok (.invokestatic 9, 3) := by decide +kernel
theorem d_SL_charAt_6 : decode b_SL_charAt 6 = .ok (.aload_n 0, 1) := by decide +kernel
theorem d_SL_charAt_7 : decode b_SL_charAt 7 = .ok (.iload_n 1, 1) := by decide +kernel
theorem d_SL_charAt_8 : decode b_SL_charAt 8 = .ok (.baload, 1) := by decide +kernel
theorem d_SL_charAt_9 : decode b_SL_charAt 9 = .ok (.sipush (255), 3) := by decide +kernel
theorem d_SL_charAt_12 : decode b_SL_charAt 12 = .ok (.iand, 1) := by decide +kernel
theorem d_SL_charAt_13 : decode b_SL_charAt 13 = .ok (.i2c, 1) := by decide +kernel
theorem d_SL_charAt_14 : decode b_SL_charAt 14 = .ok (.ireturn, 1) := by decide +kernel
def y_St_coder : MethodName := ⟨"java/lang/String", "coder", "()B"⟩
abbrev b_St_coder : ByteArray := prog_20_method_152_code
def rm_St_coder : Room := { frames := 0, cells := 0, slots := 0, locals := 0 }
abbrev w_St_coder : List Cond := Cond.code y_St_coder b_St_coder 1 (some .byte) :: wG
theorem m_St_coder : Cond.code y_St_coder b_St_coder 1 (some .byte) ∈ wG := wg_t 291 (by decide +kernel) (by decide +kernel)
theorem q_St_coder : y_St_coder.cls ≠ "java/lang/invoke/MethodHandle" ∧ y_St_coder.cls ≠ "java/lang/invoke/VarHandle" ∧ (parseMethodDescriptor y_St_coder.desc).map (fun d => d.parameters.length) = some 0 := by decide +kernel
theorem g_St_coder : Cond.initialized y_St_coder.cls ∈ wG := wg_t 16 (by decide +kernel) (by decide +kernel)
theorem s_St_coder : Cond.instanceMethod y_St_coder ∈ wG := wg_t 289 (by decide +kernel) (by decide +kernel)
theorem e_St_coder : Cond.selects "java/lang/String" y_St_coder y_St_coder ∈ wG := wg_t 290 (by decide +kernel) (by decide +kernel)
theorem d_St_coder_0 : decode b_St_coder 0 = .ok (.getstatic 38, 3) := by decide +kernel
theorem d_St_coder_3 : decode b_St_coder 3 = .ok (.ifCond .eq (10), 3) := by decide +kernel
theorem d_St_coder_6 : decode b_St_coder 6 = .ok (.aload_n 0, 1) := by decide +kernel
theorem d_St_coder_7 : decode b_St_coder 7 = .ok (.getfield 15, 3) := by decide +kernel
theorem d_St_coder_10 : decode b_St_coder 10 = .ok (.goto (4), 3) := by decide +kernel
theorem d_St_coder_13 : decode b_St_coder 13 = .ok (.iconst 1, 1) := by decide +kernel
theorem d_St_coder_14 : decode b_St_coder 14 = .ok (.ireturn, 1) := by decide +kernel
def y_St_isLatin1 : MethodName := ⟨"java/lang/String", "isLatin1", "()Z"⟩
abbrev b_St_isLatin1 : ByteArray := prog_20_method_154_code
def rm_St_isLatin1 : Room := { frames := 0, cells := 0, slots := 0, locals := 0 }
abbrev w_St_isLatin1 : List Cond := Cond.code y_St_isLatin1 b_St_isLatin1 1 (some .boolean) :: wG
theorem m_St_isLatin1 : Cond.code y_St_isLatin1 b_St_isLatin1 1 (some .boolean) ∈ wG := wg_t 311 (by decide +kernel) (by decide +kernel)
theorem q_St_isLatin1 : y_St_isLatin1.cls ≠ "java/lang/invoke/MethodHandle" ∧ y_St_isLatin1.cls ≠ "java/lang/invoke/VarHandle" ∧ (parseMethodDescriptor y_St_isLatin1.desc).map (fun d => d.parameters.length) = some 0 := by decide +kernel
theorem g_St_isLatin1 : Cond.initialized y_St_isLatin1.cls ∈ wG := wg_t 16 (by decide +kernel) (by decide +kernel)
theorem s_St_isLatin1 : Cond.instanceMethod y_St_isLatin1 ∈ wG := wg_t 309 (by decide +kernel) (by decide +kernel)
theorem e_St_isLatin1 : Cond.selects "java/lang/String" y_St_isLatin1 y_St_isLatin1 ∈ wG := wg_t 310 (by decide +kernel) (by decide +kernel)
theorem d_St_isLatin1_0 : decode b_St_isLatin1 0 = .ok (.getstatic 38, 3) := by decide +kernel
theorem d_St_isLatin1_3 : decode b_St_isLatin1 3 = .ok (.ifCond .eq (14), 3) := by decide +kernel
theorem d_St_isLatin1_6 : decode b_St_isLatin1 6 = .ok (.aload_n 0, 1) := by decide +kernel
theorem d_St_isLatin1_7 : decode b_St_isLatin1 7 = .ok (.getfield 15, 3) := by decide +kernel
theorem d_St_isLatin1_10 : decode b_St_isLatin1 10 = .ok (.ifCond .ne (7), 3) := by decide +kernel
theorem d_St_isLatin1_13 : decode b_St_isLatin1 13 = .ok (.iconst 1, 1) := by decide +kernel
theorem d_St_isLatin1_14 : decode b_St_isLatin1 14 = .ok (.goto (4), 3) := by decide +kernel
theorem d_St_isLatin1_17 : decode b_St_isLatin1 17 = .ok (.iconst 0, 1) := by decide +kernel
theorem d_St_isLatin1_18 : decode b_St_isLatin1 18 = .ok (.ireturn, 1) := by decide +kernel
def y_St_length : MethodName := ⟨"java/lang/String", "length", "()I"⟩
abbrev b_St_length : ByteArray := prog_20_method_54_code
def rm_St_length : Room := { frames := 1, cells := 0, slots := 0, locals := 20 }
abbrev w_St_length : List Cond := Cond.code y_St_length b_St_length 1 (some .int) :: wG
theorem m_St_length : Cond.code y_St_length b_St_length 1 (some .int) ∈ wG := wg_t 287 (by decide +kernel) (by decide +kernel)
theorem q_St_length : y_St_length.cls ≠ "java/lang/invoke/MethodHandle" ∧ y_St_length.cls ≠ "java/lang/invoke/VarHandle" ∧ (parseMethodDescriptor y_St_length.desc).map (fun d => d.parameters.length) = some 0 := by decide +kernel
theorem g_St_length : Cond.initialized y_St_length.cls ∈ wG := wg_t 16 (by decide +kernel) (by decide +kernel)
theorem s_St_length : Cond.instanceMethod y_St_length ∈ wG := wg_t 285 (by decide +kernel) (by decide +kernel)
theorem e_St_length : Cond.selects "java/lang/String" y_St_length y_St_length ∈ wG := wg_t 286 (by decide +kernel) (by decide +kernel)
theorem d_St_length_0 : decode b_St_length 0 = .ok (.aload_n 0, 1) := by decide +kernel
theorem d_St_length_1 : decode b_St_length 1 = .ok (.getfield 9, 3) := by decide +kernel
theorem d_St_length_4 : decode b_St_length 4 = .ok (.arraylength, 1) := by decide +kernel
theorem d_St_length_5 : decode b_St_length 5 = .ok (.aload_n 0, 1) := by decide +kernel
theorem d_St_length_6 : decode b_St_length 6 = .ok (.invokevirtual 335, 3) := by decide +kernel
theorem d_St_length_9 : decode b_St_length 9 = .ok (.ishr, 1) := by decide +kernel
theorem d_St_length_10 : decode b_St_length 10 = .ok (.ireturn, 1) := by decide +kernel
def y_St_charAt : MethodName := ⟨"java/lang/String", "charAt", "(I)C"⟩
abbrev b_St_charAt : ByteArray := prog_20_method_56_code
def rm_St_charAt : Room := { frames := 3, cells := 0, slots := 0, locals := 64 }
abbrev w_St_charAt : List Cond := Cond.code y_St_charAt b_St_charAt 2 (some .char) :: wG
theorem m_St_charAt : Cond.code y_St_charAt b_St_charAt 2 (some .char) ∈ wG := wg_t 307 (by decide +kernel) (by decide +kernel)
theorem q_St_charAt : y_St_charAt.cls ≠ "java/lang/invoke/MethodHandle" ∧ y_St_charAt.cls ≠ "java/lang/invoke/VarHandle" ∧ (parseMethodDescriptor y_St_charAt.desc).map (fun d => d.parameters.length) = some 1 := by decide +kernel
theorem g_St_charAt : Cond.initialized y_St_charAt.cls ∈ wG := wg_t 16 (by decide +kernel) (by decide +kernel)
theorem s_St_charAt : Cond.instanceMethod y_St_charAt ∈ wG := wg_t 305 (by decide +kernel) (by decide +kernel)
theorem e_St_charAt : Cond.selects "java/lang/String" y_St_charAt y_St_charAt ∈ wG := wg_t 306 (by decide +kernel) (by decide +kernel)
theorem d_St_charAt_0 : decode b_St_charAt 0 = .ok (.aload_n 0, 1) := by decide +kernel
theorem d_St_charAt_1 : decode b_St_charAt 1 = .ok (.invokevirtual 492, 3) := by decide +kernel
theorem d_St_charAt_4 : decode b_St_charAt 4 = .ok (.ifCond .eq (12), 3) := by decide +kernel
theorem d_St_charAt_7 : decode b_St_charAt 7 = .ok (.aload_n 0, 1) := by decide +kernel
theorem d_St_charAt_8 : decode b_St_charAt 8 = .ok (.getfield 9, 3) := by decide +kernel
theorem d_St_charAt_11 : decode b_St_charAt 11 = .ok (.iload_n 1, 1) := by decide +kernel
theorem d_St_charAt_12 : decode b_St_charAt 12 = .ok (.invokestatic 495, 3) := by decide +kernel
theorem d_St_charAt_15 : decode b_St_charAt 15 = .ok (.ireturn, 1) := by decide +kernel
theorem d_St_charAt_16 : decode b_St_charAt 16 = .ok (.aload_n 0, 1) := by decide +kernel
theorem d_St_charAt_17 : decode b_St_charAt 17 = .ok (.getfield 9, 3) := by decide +kernel
theorem d_St_charAt_20 : decode b_St_charAt 20 = .ok (.iload_n 1, 1) := by decide +kernel
theorem d_St_charAt_21 : decode b_St_charAt 21 = .ok (.invokestatic 498, 3) := by decide +kernel
theorem d_St_charAt_24 : decode b_St_charAt 24 = .ok (.ireturn, 1) := by decide +kernel
theorem wd_987 : (Jvm.Cond.fieldLink "java/lang/Enum" (7 : Nat) "java/lang/Enum" "ordinal" "I") ∈ wG := wg_t 987 (by decide +kernel) (by decide +kernel)
theorem wd_989 : (Jvm.Cond.fieldLink "java/lang/String" (9 : Nat) "java/lang/String" "value" "[B") ∈ wG := wg_t 989 (by decide +kernel) (by decide +kernel)
theorem wd_990 : (Jvm.Cond.fieldLink "java/lang/String" (15 : Nat) "java/lang/String" "coder" "B") ∈ wG := wg_t 990 (by decide +kernel) (by decide +kernel)
theorem wd_292 : (Jvm.Cond.fieldLink "java/lang/String" (38 : Nat) "java/lang/String" "COMPACT_STRINGS" "Z") ∈ wG := wg_t 292 (by decide +kernel) (by decide +kernel)
theorem wd_318 : (Jvm.Cond.fieldLink "java/lang/String" (1053 : Nat) "jdk/internal/util/Preconditions" "SIOOBE_FORMATTER" "Ljava/util/function/BiFunction;") ∈ wG := wg_t 318 (by decide +kernel) (by decide +kernel)
theorem k_St_335 {R : Room} {s : State} {args : Array Value} {Ts : List Cond} (hts : ∀ w ∈ Ts, w.before args s = true) (hsub : ∀ w ∈ wG, w ∈ Ts) (hR : rm_St_coder.frames + 1 ≤ R.frames ∧ 8 + (1 + 11) + rm_St_coder.locals ≤ R.locals) : CallW R s args "java/lang/String" "java/lang/String" 335 y_St_coder b_St_coder 1 (some .byte) w_St_coder rm_St_coder 0 0 0 := ⟨cb_G hts hsub m_St_coder g_St_coder (wg_t 288 (by decide +kernel) (by decide +kernel) : Cond.methodLink "java/lang/String" 335 y_St_coder ∈ wG) q_St_coder rfl rfl hR, hts _ (hsub _ s_St_coder), hts _ (hsub _ e_St_coder)⟩
theorem k_St_492 {R : Room} {s : State} {args : Array Value} {Ts : List Cond} (hts : ∀ w ∈ Ts, w.before args s = true) (hsub : ∀ w ∈ wG, w ∈ Ts) (hR : rm_St_isLatin1.frames + 1 ≤ R.frames ∧ 8 + (1 + 11) + rm_St_isLatin1.locals ≤ R.locals) : CallW R s args "java/lang/String" "java/lang/String" 492 y_St_isLatin1 b_St_isLatin1 1 (some .boolean) w_St_isLatin1 rm_St_isLatin1 0 0 0 := ⟨cb_G hts hsub m_St_isLatin1 g_St_isLatin1 (wg_t 308 (by decide +kernel) (by decide +kernel) : Cond.methodLink "java/lang/String" 492 y_St_isLatin1 ∈ wG) q_St_isLatin1 rfl rfl hR, hts _ (hsub _ s_St_isLatin1), hts _ (hsub _ e_St_isLatin1)⟩
theorem k_St_495 {R : Room} {s : State} {args : Array Value} {Ts : List Cond} (hts : ∀ w ∈ Ts, w.before args s = true) (hsub : ∀ w ∈ wG, w ∈ Ts) (hR : rm_SL_charAt.frames + 1 ≤ R.frames ∧ 8 + (2 + 11) + rm_SL_charAt.locals ≤ R.locals) : CallB R s args "java/lang/String" 495 y_SL_charAt b_SL_charAt 2 (some .char) w_SL_charAt rm_SL_charAt 0 0 2 ∧ (Cond.static y_SL_charAt).before args s = true := ⟨cb_G hts hsub m_SL_charAt g_SL_charAt (wg_t 312 (by decide +kernel) (by decide +kernel) : Cond.methodLink "java/lang/String" 495 y_SL_charAt ∈ wG) q_SL_charAt rfl rfl hR, hts _ (hsub _ s_SL_charAt)⟩
theorem k_SL_9 {R : Room} {s : State} {args : Array Value} {Ts : List Cond} (hts : ∀ w ∈ Ts, w.before args s = true) (hsub : ∀ w ∈ wG, w ∈ Ts) (hR : rm_St_checkIndex.frames + 1 ≤ R.frames ∧ 8 + (2 + 11) + rm_St_checkIndex.locals ≤ R.locals) : CallB R s args "java/lang/StringLatin1" 9 y_St_checkIndex b_St_checkIndex 2 none w_St_checkIndex rm_St_checkIndex 0 0 2 ∧ (Cond.static y_St_checkIndex).before args s = true := ⟨cb_G hts hsub m_St_checkIndex g_St_checkIndex (wg_t 315 (by decide +kernel) (by decide +kernel) : Cond.methodLink "java/lang/StringLatin1" 9 y_St_checkIndex ∈ wG) q_St_checkIndex rfl rfl hR, hts _ (hsub _ s_St_checkIndex)⟩
theorem k_St_1059 {R : Room} {s : State} {args : Array Value} {Ts : List Cond} (hts : ∀ w ∈ Ts, w.before args s = true) (hsub : ∀ w ∈ wG, w ∈ Ts) (hR : rm_Pc_checkIndex.frames + 1 ≤ R.frames ∧ 8 + (3 + 11) + rm_Pc_checkIndex.locals ≤ R.locals) : CallB R s args "java/lang/String" 1059 y_Pc_checkIndex b_Pc_checkIndex 3 (some .int) w_Pc_checkIndex rm_Pc_checkIndex 0 0 3 ∧ (Cond.static y_Pc_checkIndex).before args s = true := ⟨cb_G hts hsub m_Pc_checkIndex g_Pc_checkIndex (wg_t 320 (by decide +kernel) (by decide +kernel) : Cond.methodLink "java/lang/String" 1059 y_Pc_checkIndex ∈ wG) q_Pc_checkIndex rfl rfl hR, hts _ (hsub _ s_Pc_checkIndex)⟩

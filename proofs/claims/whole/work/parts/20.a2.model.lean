/-! names of 20.model -/
theorem d_Mo_onPlaces_176 : decode b_Mo_onPlaces 176 = .ok (.iload 4, 2) := by decide +kernel
theorem d_Mo_onPlaces_178 : decode b_Mo_onPlaces 178 = .ok (.iconst 1, 1) := by decide +kernel
theorem d_Mo_onPlaces_179 : decode b_Mo_onPlaces 179 = .ok (.isub, 1) := by decide +kernel
theorem d_Mo_onPlaces_180 : decode b_Mo_onPlaces 180 = .ok (.iaload, 1) := by decide +kernel
theorem d_Mo_onPlaces_181 : decode b_Mo_onPlaces 181 = .ok (.iastore, 1) := by decide +kernel
theorem d_Mo_onPlaces_182 : decode b_Mo_onPlaces 182 = .ok (.aload_n 0, 1) := by decide +kernel
theorem d_Mo_onPlaces_183 : decode b_Mo_onPlaces 183 = .ok (.getfield 53, 3) := by decide +kernel
theorem d_Mo_onPlaces_186 : decode b_Mo_onPlaces 186 = .ok (.iload 4, 2) := by decide +kernel
theorem d_Mo_onPlaces_188 : decode b_Mo_onPlaces 188 = .ok (.iconst 1, 1) := by decide +kernel
theorem d_Mo_onPlaces_189 : decode b_Mo_onPlaces 189 = .ok (.isub, 1) := by decide +kernel
theorem d_Mo_onPlaces_190 : decode b_Mo_onPlaces 190 = .ok (.iload 5, 2) := by decide +kernel
theorem d_Mo_onPlaces_192 : decode b_Mo_onPlaces 192 = .ok (.iastore, 1) := by decide +kernel
theorem d_Mo_onPlaces_193 : decode b_Mo_onPlaces 193 = .ok (.aload_n 0, 1) := by decide +kernel
theorem d_Mo_onPlaces_194 : decode b_Mo_onPlaces 194 = .ok (.getfield 50, 3) := by decide +kernel
theorem d_Mo_onPlaces_197 : decode b_Mo_onPlaces 197 = .ok (.iload 4, 2) := by decide +kernel
theorem d_Mo_onPlaces_199 : decode b_Mo_onPlaces 199 = .ok (.iconst 1, 1) := by decide +kernel
theorem d_Mo_onPlaces_200 : decode b_Mo_onPlaces 200 = .ok (.isub, 1) := by decide +kernel
theorem d_Mo_onPlaces_201 : decode b_Mo_onPlaces 201 = .ok (.iload 6, 2) := by decide +kernel
theorem d_Mo_onPlaces_203 : decode b_Mo_onPlaces 203 = .ok (.iastore, 1) := by decide +kernel
theorem d_Mo_onPlaces_204 : decode b_Mo_onPlaces 204 = .ok (.goto (8), 3) := by decide +kernel
theorem d_Mo_onPlaces_207 : decode b_Mo_onPlaces 207 = .ok (.aload_n 0, 1) := by decide +kernel
theorem d_Mo_onPlaces_208 : decode b_Mo_onPlaces 208 = .ok (.iconst 1, 1) := by decide +kernel
theorem d_Mo_onPlaces_209 : decode b_Mo_onPlaces 209 = .ok (.invokevirtual 148, 3) := by decide +kernel
theorem d_Mo_onPlaces_212 : decode b_Mo_onPlaces 212 = .ok (.return_, 1) := by decide +kernel
def y_Mo_call : MethodName := ⟨"FrameVerifierModel", "call", "(I)V"⟩
abbrev b_Mo_call : ByteArray := prog_11_method_34_code
def rm_Mo_call : Room := { frames := 1, cells := 0, slots := 0, locals := 22 }
abbrev w_Mo_call : List Cond := Cond.code y_Mo_call b_Mo_call 5 none :: wG
theorem m_Mo_call : Cond.code y_Mo_call b_Mo_call 5 none ∈ wG := wg_t 960 (by decide +kernel) (by decide +kernel)
theorem q_Mo_call : y_Mo_call.cls ≠ "java/lang/invoke/MethodHandle" ∧ y_Mo_call.cls ≠ "java/lang/invoke/VarHandle" ∧ (parseMethodDescriptor y_Mo_call.desc).map (fun d => d.parameters.length) = some 1 := by decide +kernel
theorem g_Mo_call : Cond.initialized y_Mo_call.cls ∈ wG := wg_t 6 (by decide +kernel) (by decide +kernel)
theorem s_Mo_call : Cond.instanceMethod y_Mo_call ∈ wG := wg_t 959 (by decide +kernel) (by decide +kernel)
theorem e_Mo_call : Cond.selects "FrameVerifierModel" y_Mo_call y_Mo_call ∈ wG := wg_s (q := (y_Mo_call, 27)) 45 (by decide +kernel) (by decide +kernel)
theorem d_Mo_call_0 : decode b_Mo_call 0 = .ok (.aload_n 0, 1) := by decide +kernel
theorem d_Mo_call_1 : decode b_Mo_call 1 = .ok (.getfield 130, 3) := by decide +kernel
theorem d_Mo_call_4 : decode b_Mo_call 4 = .ok (.iconst 1, 1) := by decide +kernel
theorem d_Mo_call_5 : decode b_Mo_call 5 = .ok (.isub, 1) := by decide +kernel
theorem d_Mo_call_6 : decode b_Mo_call 6 = .ok (.istore_n 2, 1) := by decide +kernel
theorem d_Mo_call_7 : decode b_Mo_call 7 = .ok (.aload_n 0, 1) := by decide +kernel
theorem d_Mo_call_8 : decode b_Mo_call 8 = .ok (.aload_n 0, 1) := by decide +kernel
theorem d_Mo_call_9 : decode b_Mo_call 9 = .ok (.getfield 23, 3) := by decide +kernel
theorem d_Mo_call_12 : decode b_Mo_call 12 = .ok (.iload_n 1, 1) := by decide +kernel
theorem d_Mo_call_13 : decode b_Mo_call 13 = .ok (.iaload, 1) := by decide +kernel
theorem d_Mo_call_14 : decode b_Mo_call 14 = .ok (.invokevirtual 148, 3) := by decide +kernel
theorem d_Mo_call_17 : decode b_Mo_call 17 = .ok (.bipush (12), 2) := by decide +kernel
theorem d_Mo_call_19 : decode b_Mo_call 19 = .ok (.iload_n 2, 1) := by decide +kernel
theorem d_Mo_call_20 : decode b_Mo_call 20 = .ok (.imul, 1) := by decide +kernel
theorem d_Mo_call_21 : decode b_Mo_call 21 = .ok (.bipush (6), 2) := by decide +kernel
theorem d_Mo_call_23 : decode b_Mo_call 23 = .ok (.iadd, 1) := by decide +kernel
theorem d_Mo_call_24 : decode b_Mo_call 24 = .ok (.aload_n 0, 1) := by decide +kernel
theorem d_Mo_call_25 : decode b_Mo_call 25 = .ok (.getfield 47, 3) := by decide +kernel
theorem d_Mo_call_28 : decode b_Mo_call 28 = .ok (.iload_n 2, 1) := by decide +kernel
theorem d_Mo_call_29 : decode b_Mo_call 29 = .ok (.iaload, 1) := by decide +kernel
theorem d_Mo_call_30 : decode b_Mo_call 30 = .ok (.iadd, 1) := by decide +kernel
theorem d_Mo_call_31 : decode b_Mo_call 31 = .ok (.istore_n 3, 1) := by decide +kernel
theorem d_Mo_call_32 : decode b_Mo_call 32 = .ok (.aload_n 0, 1) := by decide +kernel
theorem d_Mo_call_33 : decode b_Mo_call 33 = .ok (.iload_n 1, 1) := by decide +kernel
theorem d_Mo_call_34 : decode b_Mo_call 34 = .ok (.invokevirtual 136, 3) := by decide +kernel
theorem d_Mo_call_37 : decode b_Mo_call 37 = .ok (.iconst 0, 1) := by decide +kernel
theorem d_Mo_call_38 : decode b_Mo_call 38 = .ok (.istore 4, 2) := by decide +kernel
theorem d_Mo_call_40 : decode b_Mo_call 40 = .ok (.iload 4, 2) := by decide +kernel
theorem d_Mo_call_42 : decode b_Mo_call 42 = .ok (.aload_n 0, 1) := by decide +kernel
theorem d_Mo_call_43 : decode b_Mo_call 43 = .ok (.getfield 23, 3) := by decide +kernel
theorem d_Mo_call_46 : decode b_Mo_call 46 = .ok (.iload_n 1, 1) := by decide +kernel
theorem d_Mo_call_47 : decode b_Mo_call 47 = .ok (.iaload, 1) := by decide +kernel
theorem d_Mo_call_48 : decode b_Mo_call 48 = .ok (.if_icmp .ge (55), 3) := by decide +kernel
theorem d_Mo_call_51 : decode b_Mo_call 51 = .ok (.aload_n 0, 1) := by decide +kernel
theorem d_Mo_call_52 : decode b_Mo_call 52 = .ok (.getfield 53, 3) := by decide +kernel
theorem d_Mo_call_55 : decode b_Mo_call 55 = .ok (.bipush (12), 2) := by decide +kernel
theorem d_Mo_call_57 : decode b_Mo_call 57 = .ok (.iload_n 2, 1) := by decide +kernel
theorem d_Mo_call_58 : decode b_Mo_call 58 = .ok (.iconst 1, 1) := by decide +kernel
theorem d_Mo_call_59 : decode b_Mo_call 59 = .ok (.iadd, 1) := by decide +kernel
theorem d_Mo_call_60 : decode b_Mo_call 60 = .ok (.imul, 1) := by decide +kernel
theorem d_Mo_call_61 : decode b_Mo_call 61 = .ok (.iload 4, 2) := by decide +kernel
theorem d_Mo_call_63 : decode b_Mo_call 63 = .ok (.iadd, 1) := by decide +kernel
theorem d_Mo_call_64 : decode b_Mo_call 64 = .ok (.aload_n 0, 1) := by decide +kernel
theorem d_Mo_call_65 : decode b_Mo_call 65 = .ok (.getfield 53, 3) := by decide +kernel
theorem d_Mo_call_68 : decode b_Mo_call 68 = .ok (.iload_n 3, 1) := by decide +kernel
theorem d_Mo_call_69 : decode b_Mo_call 69 = .ok (.iload 4, 2) := by decide +kernel
theorem d_Mo_call_71 : decode b_Mo_call 71 = .ok (.iadd, 1) := by decide +kernel
theorem d_Mo_call_72 : decode b_Mo_call 72 = .ok (.iaload, 1) := by decide +kernel
theorem d_Mo_call_73 : decode b_Mo_call 73 = .ok (.iastore, 1) := by decide +kernel
theorem d_Mo_call_74 : decode b_Mo_call 74 = .ok (.aload_n 0, 1) := by decide +kernel
theorem d_Mo_call_75 : decode b_Mo_call 75 = .ok (.getfield 50, 3) := by decide +kernel
theorem d_Mo_call_78 : decode b_Mo_call 78 = .ok (.bipush (12), 2) := by decide +kernel
theorem d_Mo_call_80 : decode b_Mo_call 80 = .ok (.iload_n 2, 1) := by decide +kernel
theorem d_Mo_call_81 : decode b_Mo_call 81 = .ok (.iconst 1, 1) := by decide +kernel
theorem d_Mo_call_82 : decode b_Mo_call 82 = .ok (.iadd, 1) := by decide +kernel
theorem d_Mo_call_83 : decode b_Mo_call 83 = .ok (.imul, 1) := by decide +kernel
theorem d_Mo_call_84 : decode b_Mo_call 84 = .ok (.iload 4, 2) := by decide +kernel
theorem d_Mo_call_86 : decode b_Mo_call 86 = .ok (.iadd, 1) := by decide +kernel
theorem d_Mo_call_87 : decode b_Mo_call 87 = .ok (.aload_n 0, 1) := by decide +kernel
theorem d_Mo_call_88 : decode b_Mo_call 88 = .ok (.getfield 50, 3) := by decide +kernel
theorem d_Mo_call_91 : decode b_Mo_call 91 = .ok (.iload_n 3, 1) := by decide +kernel
theorem d_Mo_call_92 : decode b_Mo_call 92 = .ok (.iload 4, 2) := by decide +kernel
theorem d_Mo_call_94 : decode b_Mo_call 94 = .ok (.iadd, 1) := by decide +kernel
theorem d_Mo_call_95 : decode b_Mo_call 95 = .ok (.iaload, 1) := by decide +kernel
theorem d_Mo_call_96 : decode b_Mo_call 96 = .ok (.iastore, 1) := by decide +kernel
theorem d_Mo_call_97 : decode b_Mo_call 97 = .ok (.iinc 4 (1), 3) := by decide +kernel
theorem d_Mo_call_100 : decode b_Mo_call 100 = .ok (.goto (-60), 3) := by decide +kernel
theorem d_Mo_call_103 : decode b_Mo_call 103 = .ok (.return_, 1) := by decide +kernel
def y_Mo_seen : MethodName := ⟨"FrameVerifierModel", "seen", "(II)I"⟩
abbrev b_Mo_seen : ByteArray := prog_11_method_36_code
def rm_Mo_seen : Room := { frames := 0, cells := 0, slots := 0, locals := 0 }
abbrev w_Mo_seen : List Cond := Cond.code y_Mo_seen b_Mo_seen 2 (some .int) :: wG
theorem m_Mo_seen : Cond.code y_Mo_seen b_Mo_seen 2 (some .int) ∈ wG := wg_t 967 (by decide +kernel) (by decide +kernel)
theorem q_Mo_seen : y_Mo_seen.cls ≠ "java/lang/invoke/MethodHandle" ∧ y_Mo_seen.cls ≠ "java/lang/invoke/VarHandle" ∧ (parseMethodDescriptor y_Mo_seen.desc).map (fun d => d.parameters.length) = some 2 := by decide +kernel
theorem g_Mo_seen : Cond.initialized y_Mo_seen.cls ∈ wG := wg_t 6 (by decide +kernel) (by decide +kernel)
theorem s_Mo_seen : Cond.static y_Mo_seen ∈ wG := wg_t 966 (by decide +kernel) (by decide +kernel)
theorem d_Mo_seen_0 : decode b_Mo_seen 0 = .ok (.iload_n 0, 1) := by decide +kernel
theorem d_Mo_seen_1 : decode b_Mo_seen 1 = .ok (.iconst 2, 1) := by decide +kernel
theorem d_Mo_seen_2 : decode b_Mo_seen 2 = .ok (.if_icmp .ne (15), 3) := by decide +kernel
theorem d_Mo_seen_5 : decode b_Mo_seen 5 = .ok (.iload_n 1, 1) := by decide +kernel
theorem d_Mo_seen_6 : decode b_Mo_seen 6 = .ok (.ifCond .ne (7), 3) := by decide +kernel
theorem d_Mo_seen_9 : decode b_Mo_seen 9 = .ok (.iconst 0, 1) := by decide +kernel
theorem d_Mo_seen_10 : decode b_Mo_seen 10 = .ok (.goto (8), 3) := by decide +kernel
theorem d_Mo_seen_13 : decode b_Mo_seen 13 = .ok (.iconst 1, 1) := by decide +kernel
theorem d_Mo_seen_14 : decode b_Mo_seen 14 = .ok (.goto (4), 3) := by decide +kernel
theorem d_Mo_seen_17 : decode b_Mo_seen 17 = .ok (.iload_n 1, 1) := by decide +kernel
theorem d_Mo_seen_18 : decode b_Mo_seen 18 = .ok (.ireturn, 1) := by decide +kernel
def y_Mo_giveBack : MethodName := ⟨"FrameVerifierModel", "giveBack", "()V"⟩
abbrev b_Mo_giveBack : ByteArray := prog_11_method_35_code
def rm_Mo_giveBack : Room := { frames := 1, cells := 0, slots := 0, locals := 23 }
abbrev w_Mo_giveBack : List Cond := Cond.code y_Mo_giveBack b_Mo_giveBack 4 none :: wG
theorem m_Mo_giveBack : Cond.code y_Mo_giveBack b_Mo_giveBack 4 none ∈ wG := wg_t 964 (by decide +kernel) (by decide +kernel)
theorem q_Mo_giveBack : y_Mo_giveBack.cls ≠ "java/lang/invoke/MethodHandle" ∧ y_Mo_giveBack.cls ≠ "java/lang/invoke/VarHandle" ∧ (parseMethodDescriptor y_Mo_giveBack.desc).map (fun d => d.parameters.length) = some 0 := by decide +kernel
theorem g_Mo_giveBack : Cond.initialized y_Mo_giveBack.cls ∈ wG := wg_t 6 (by decide +kernel) (by decide +kernel)
theorem s_Mo_giveBack : Cond.instanceMethod y_Mo_giveBack ∈ wG := wg_t 963 (by decide +kernel) (by decide +kernel)
theorem e_Mo_giveBack : Cond.selects "FrameVerifierModel" y_Mo_giveBack y_Mo_giveBack ∈ wG := wg_s (q := (y_Mo_giveBack, 27)) 46 (by decide +kernel) (by decide +kernel)
theorem d_Mo_giveBack_0 : decode b_Mo_giveBack 0 = .ok (.bipush (12), 2) := by decide +kernel
theorem d_Mo_giveBack_2 : decode b_Mo_giveBack 2 = .ok (.aload_n 0, 1) := by decide +kernel
theorem d_Mo_giveBack_3 : decode b_Mo_giveBack 3 = .ok (.getfield 130, 3) := by decide +kernel
theorem d_Mo_giveBack_6 : decode b_Mo_giveBack 6 = .ok (.iconst 1, 1) := by decide +kernel
theorem d_Mo_giveBack_7 : decode b_Mo_giveBack 7 = .ok (.isub, 1) := by decide +kernel
theorem d_Mo_giveBack_8 : decode b_Mo_giveBack 8 = .ok (.imul, 1) := by decide +kernel
theorem d_Mo_giveBack_9 : decode b_Mo_giveBack 9 = .ok (.iconst 5, 1) := by decide +kernel
theorem d_Mo_giveBack_10 : decode b_Mo_giveBack 10 = .ok (.iadd, 1) := by decide +kernel
theorem d_Mo_giveBack_11 : decode b_Mo_giveBack 11 = .ok (.aload_n 0, 1) := by decide +kernel
theorem d_Mo_giveBack_12 : decode b_Mo_giveBack 12 = .ok (.getfield 47, 3) := by decide +kernel
theorem d_Mo_giveBack_15 : decode b_Mo_giveBack 15 = .ok (.aload_n 0, 1) := by decide +kernel
theorem d_Mo_giveBack_16 : decode b_Mo_giveBack 16 = .ok (.getfield 130, 3) := by decide +kernel
theorem d_Mo_giveBack_19 : decode b_Mo_giveBack 19 = .ok (.iconst 1, 1) := by decide +kernel
theorem d_Mo_giveBack_20 : decode b_Mo_giveBack 20 = .ok (.isub, 1) := by decide +kernel
theorem d_Mo_giveBack_21 : decode b_Mo_giveBack 21 = .ok (.iaload, 1) := by decide +kernel
theorem d_Mo_giveBack_22 : decode b_Mo_giveBack 22 = .ok (.iadd, 1) := by decide +kernel
theorem d_Mo_giveBack_23 : decode b_Mo_giveBack 23 = .ok (.istore_n 1, 1) := by decide +kernel
theorem d_Mo_giveBack_24 : decode b_Mo_giveBack 24 = .ok (.aload_n 0, 1) := by decide +kernel
theorem d_Mo_giveBack_25 : decode b_Mo_giveBack 25 = .ok (.getfield 53, 3) := by decide +kernel
theorem d_Mo_giveBack_28 : decode b_Mo_giveBack 28 = .ok (.iload_n 1, 1) := by decide +kernel
theorem d_Mo_giveBack_29 : decode b_Mo_giveBack 29 = .ok (.iaload, 1) := by decide +kernel
theorem d_Mo_giveBack_30 : decode b_Mo_giveBack 30 = .ok (.istore_n 2, 1) := by decide +kernel
theorem d_Mo_giveBack_31 : decode b_Mo_giveBack 31 = .ok (.aload_n 0, 1) := by decide +kernel
theorem d_Mo_giveBack_32 : decode b_Mo_giveBack 32 = .ok (.getfield 50, 3) := by decide +kernel
theorem d_Mo_giveBack_35 : decode b_Mo_giveBack 35 = .ok (.iload_n 1, 1) := by decide +kernel
theorem d_Mo_giveBack_36 : decode b_Mo_giveBack 36 = .ok (.iaload, 1) := by decide +kernel
theorem d_Mo_giveBack_37 : decode b_Mo_giveBack 37 = .ok (.istore_n 3, 1) := by decide +kernel
theorem d_Mo_giveBack_38 : decode b_Mo_giveBack 38 = .ok (.aload_n 0, 1) := by decide +kernel
theorem d_Mo_giveBack_39 : decode b_Mo_giveBack 39 = .ok (.dup, 1) := by decide +kernel
theorem d_Mo_giveBack_40 : decode b_Mo_giveBack 40 = .ok (.getfield 130, 3) := by decide +kernel
theorem d_Mo_giveBack_43 : decode b_Mo_giveBack 43 = .ok (.iconst 1, 1) := by decide +kernel
theorem d_Mo_giveBack_44 : decode b_Mo_giveBack 44 = .ok (.isub, 1) := by decide +kernel
theorem d_Mo_giveBack_45 : decode b_Mo_giveBack 45 = .ok (.putfield 130, 3) := by decide +kernel
theorem d_Mo_giveBack_48 : decode b_Mo_giveBack 48 = .ok (.aload_n 0, 1) := by decide +kernel
theorem d_Mo_giveBack_49 : decode b_Mo_giveBack 49 = .ok (.getfield 130, 3) := by decide +kernel
theorem d_Mo_giveBack_52 : decode b_Mo_giveBack 52 = .ok (.ifCond .le (12), 3) := by decide +kernel
theorem d_Mo_giveBack_55 : decode b_Mo_giveBack 55 = .ok (.aload_n 0, 1) := by decide +kernel
theorem d_Mo_giveBack_56 : decode b_Mo_giveBack 56 = .ok (.iload_n 2, 1) := by decide +kernel
theorem d_Mo_giveBack_57 : decode b_Mo_giveBack 57 = .ok (.iload_n 3, 1) := by decide +kernel
theorem d_Mo_giveBack_58 : decode b_Mo_giveBack 58 = .ok (.invokevirtual 151, 3) := by decide +kernel
theorem d_Mo_giveBack_61 : decode b_Mo_giveBack 61 = .ok (.goto (12), 3) := by decide +kernel
theorem d_Mo_giveBack_64 : decode b_Mo_giveBack 64 = .ok (.aload_n 0, 1) := by decide +kernel
theorem d_Mo_giveBack_65 : decode b_Mo_giveBack 65 = .ok (.iload_n 2, 1) := by decide +kernel
theorem d_Mo_giveBack_66 : decode b_Mo_giveBack 66 = .ok (.iload_n 3, 1) := by decide +kernel
theorem d_Mo_giveBack_67 : decode b_Mo_giveBack 67 = .ok (.invokestatic 154, 3) := by decide +kernel
theorem d_Mo_giveBack_70 : decode b_Mo_giveBack 70 = .ok (.putfield 157, 3) := by decide +kernel
theorem d_Mo_giveBack_73 : decode b_Mo_giveBack 73 = .ok (.return_, 1) := by decide +kernel
def y_Mo_perform : MethodName := ⟨"FrameVerifierModel", "perform", "(I)V"⟩
abbrev b_Mo_perform : ByteArray := prog_11_method_37_code
def rm_Mo_perform : Room := { frames := 2, cells := 0, slots := 0, locals := 49 }
abbrev w_Mo_perform : List Cond := Cond.code y_Mo_perform b_Mo_perform 5 none :: wG
theorem m_Mo_perform : Cond.code y_Mo_perform b_Mo_perform 5 none ∈ wG := wg_t 940 (by decide +kernel) (by decide +kernel)
theorem q_Mo_perform : y_Mo_perform.cls ≠ "java/lang/invoke/MethodHandle" ∧ y_Mo_perform.cls ≠ "java/lang/invoke/VarHandle" ∧ (parseMethodDescriptor y_Mo_perform.desc).map (fun d => d.parameters.length) = some 1 := by decide +kernel
theorem g_Mo_perform : Cond.initialized y_Mo_perform.cls ∈ wG := wg_t 6 (by decide +kernel) (by decide +kernel)
theorem s_Mo_perform : Cond.instanceMethod y_Mo_perform ∈ wG := wg_t 939 (by decide +kernel) (by decide +kernel)
theorem e_Mo_perform : Cond.selects "FrameVerifierModel" y_Mo_perform y_Mo_perform ∈ wG := wg_s (q := (y_Mo_perform, 27)) 40 (by decide +kernel) (by decide +kernel)
theorem d_Mo_perform_0 : decode b_Mo_perform 0 = .ok (.aload_n 0, 1) := by decide +kernel
theorem d_Mo_perform_1 : decode b_Mo_perform 1 = .ok (.getfield 7, 3) := by decide +kernel
theorem d_Mo_perform_4 : decode b_Mo_perform 4 = .ok (.iload_n 1, 1) := by decide +kernel
theorem d_Mo_perform_5 : decode b_Mo_perform 5 = .ok (.iaload, 1) := by decide +kernel
theorem d_Mo_perform_6 : decode b_Mo_perform 6 = .ok (.istore_n 2, 1) := by decide +kernel
theorem d_Mo_perform_7 : decode b_Mo_perform 7 = .ok (.aload_n 0, 1) := by decide +kernel
theorem d_Mo_perform_8 : decode b_Mo_perform 8 = .ok (.getfield 13, 3) := by decide +kernel
theorem d_Mo_perform_11 : decode b_Mo_perform 11 = .ok (.iload_n 1, 1) := by decide +kernel
theorem d_Mo_perform_12 : decode b_Mo_perform 12 = .ok (.iaload, 1) := by decide +kernel
theorem d_Mo_perform_13 : decode b_Mo_perform 13 = .ok (.istore_n 3, 1) := by decide +kernel
theorem d_Mo_perform_14 : decode b_Mo_perform 14 = .ok (.iload_n 2, 1) := by decide +kernel
theorem d_Mo_perform_15 : decode b_Mo_perform 15 = .ok (.bipush (7), 2) := by decide +kernel
theorem d_Mo_perform_17 : decode b_Mo_perform 17 = .ok (.if_icmp .eq (23), 3) := by decide +kernel
theorem d_Mo_perform_20 : decode b_Mo_perform 20 = .ok (.iload_n 2, 1) := by decide +kernel
theorem d_Mo_perform_21 : decode b_Mo_perform 21 = .ok (.bipush (8), 2) := by decide +kernel
theorem d_Mo_perform_23 : decode b_Mo_perform 23 = .ok (.if_icmp .eq (9), 3) := by decide +kernel
theorem d_Mo_perform_26 : decode b_Mo_perform 26 = .ok (.iload_n 2, 1) := by decide +kernel
theorem d_Mo_perform_27 : decode b_Mo_perform 27 = .ok (.bipush (10), 2) := by decide +kernel
theorem d_Mo_perform_29 : decode b_Mo_perform 29 = .ok (.if_icmp .ne (15), 3) := by decide +kernel
theorem d_Mo_perform_32 : decode b_Mo_perform 32 = .ok (.aload_n 0, 1) := by decide +kernel
theorem d_Mo_perform_33 : decode b_Mo_perform 33 = .ok (.iconst 0, 1) := by decide +kernel
theorem d_Mo_perform_34 : decode b_Mo_perform 34 = .ok (.invokevirtual 139, 3) := by decide +kernel
theorem d_Mo_perform_37 : decode b_Mo_perform 37 = .ok (.ifCond .ne (7), 3) := by decide +kernel
theorem d_Mo_perform_40 : decode b_Mo_perform 40 = .ok (.iconst 1, 1) := by decide +kernel
theorem d_Mo_perform_41 : decode b_Mo_perform 41 = .ok (.goto (4), 3) := by decide +kernel
theorem d_Mo_perform_44 : decode b_Mo_perform 44 = .ok (.iconst 0, 1) := by decide +kernel
theorem d_Mo_perform_45 : decode b_Mo_perform 45 = .ok (.istore 4, 2) := by decide +kernel
theorem d_Mo_perform_47 : decode b_Mo_perform 47 = .ok (.aload_n 0, 1) := by decide +kernel
theorem d_Mo_perform_48 : decode b_Mo_perform 48 = .ok (.getfield 44, 3) := by decide +kernel
theorem d_Mo_perform_51 : decode b_Mo_perform 51 = .ok (.aload_n 0, 1) := by decide +kernel
theorem d_Mo_perform_52 : decode b_Mo_perform 52 = .ok (.getfield 130, 3) := by decide +kernel
theorem d_Mo_perform_55 : decode b_Mo_perform 55 = .ok (.iconst 1, 1) := by decide +kernel
theorem d_Mo_perform_56 : decode b_Mo_perform 56 = .ok (.isub, 1) := by decide +kernel
theorem d_Mo_perform_57 : decode b_Mo_perform 57 = .ok (.iload 4, 2) := by decide +kernel
theorem d_Mo_perform_59 : decode b_Mo_perform 59 = .ok (.ifCond .eq (7), 3) := by decide +kernel
theorem d_Mo_perform_62 : decode b_Mo_perform 62 = .ok (.iload_n 3, 1) := by decide +kernel
theorem d_Mo_perform_63 : decode b_Mo_perform 63 = .ok (.goto (6), 3) := by decide +kernel
theorem d_Mo_perform_66 : decode b_Mo_perform 66 = .ok (.iload_n 1, 1) := by decide +kernel
theorem d_Mo_perform_67 : decode b_Mo_perform 67 = .ok (.iconst 1, 1) := by decide +kernel
theorem d_Mo_perform_68 : decode b_Mo_perform 68 = .ok (.iadd, 1) := by decide +kernel
theorem d_Mo_perform_69 : decode b_Mo_perform 69 = .ok (.iastore, 1) := by decide +kernel
theorem d_Mo_perform_70 : decode b_Mo_perform 70 = .ok (.iload_n 2, 1) := by decide +kernel
theorem d_Mo_perform_71 : decode b_Mo_perform 71 = .ok (.ifCond .eq (9), 3) := by decide +kernel
theorem d_Mo_perform_74 : decode b_Mo_perform 74 = .ok (.iload_n 2, 1) := by decide +kernel
theorem d_Mo_perform_75 : decode b_Mo_perform 75 = .ok (.bipush (9), 2) := by decide +kernel
theorem d_Mo_perform_77 : decode b_Mo_perform 77 = .ok (.if_icmp .ne (28), 3) := by decide +kernel
theorem d_Mo_perform_80 : decode b_Mo_perform 80 = .ok (.aload_n 0, 1) := by decide +kernel
theorem d_Mo_perform_81 : decode b_Mo_perform 81 = .ok (.iload_n 2, 1) := by decide +kernel
theorem d_Mo_perform_82 : decode b_Mo_perform 82 = .ok (.ifCond .ne (7), 3) := by decide +kernel
theorem d_Mo_perform_85 : decode b_Mo_perform 85 = .ok (.iconst 1, 1) := by decide +kernel
theorem d_Mo_perform_86 : decode b_Mo_perform 86 = .ok (.goto (4), 3) := by decide +kernel
theorem d_Mo_perform_89 : decode b_Mo_perform 89 = .ok (.iconst 2, 1) := by decide +kernel
theorem d_Mo_perform_90 : decode b_Mo_perform 90 = .ok (.iload_n 2, 1) := by decide +kernel
theorem d_Mo_perform_91 : decode b_Mo_perform 91 = .ok (.ifCond .ne (7), 3) := by decide +kernel
theorem d_Mo_perform_94 : decode b_Mo_perform 94 = .ok (.iload_n 3, 1) := by decide +kernel
theorem d_Mo_perform_95 : decode b_Mo_perform 95 = .ok (.goto (4), 3) := by decide +kernel
theorem d_Mo_perform_98 : decode b_Mo_perform 98 = .ok (.iconst 0, 1) := by decide +kernel
theorem d_Mo_perform_99 : decode b_Mo_perform 99 = .ok (.invokevirtual 151, 3) := by decide +kernel
theorem d_Mo_perform_102 : decode b_Mo_perform 102 = .ok (.goto (95), 3) := by decide +kernel
theorem d_Mo_perform_105 : decode b_Mo_perform 105 = .ok (.iload_n 2, 1) := by decide +kernel
theorem d_Mo_perform_106 : decode b_Mo_perform 106 = .ok (.iconst 5, 1) := by decide +kernel
theorem d_Mo_perform_107 : decode b_Mo_perform 107 = .ok (.if_icmp .ge (11), 3) := by decide +kernel
theorem d_Mo_perform_110 : decode b_Mo_perform 110 = .ok (.aload_n 0, 1) := by decide +kernel
theorem d_Mo_perform_111 : decode b_Mo_perform 111 = .ok (.iload_n 2, 1) := by decide +kernel
theorem d_Mo_perform_112 : decode b_Mo_perform 112 = .ok (.invokevirtual 160, 3) := by decide +kernel
theorem d_Mo_perform_115 : decode b_Mo_perform 115 = .ok (.goto (82), 3) := by decide +kernel
theorem d_Mo_perform_118 : decode b_Mo_perform 118 = .ok (.iload_n 2, 1) := by decide +kernel
theorem d_Mo_perform_119 : decode b_Mo_perform 119 = .ok (.bipush (8), 2) := by decide +kernel
theorem d_Mo_perform_121 : decode b_Mo_perform 121 = .ok (.if_icmp .eq (9), 3) := by decide +kernel
theorem d_Mo_perform_124 : decode b_Mo_perform 124 = .ok (.iload_n 2, 1) := by decide +kernel
theorem d_Mo_perform_125 : decode b_Mo_perform 125 = .ok (.bipush (10), 2) := by decide +kernel
theorem d_Mo_perform_127 : decode b_Mo_perform 127 = .ok (.if_icmp .ne (11), 3) := by decide +kernel
theorem d_Mo_perform_130 : decode b_Mo_perform 130 = .ok (.aload_n 0, 1) := by decide +kernel
theorem d_Mo_perform_131 : decode b_Mo_perform 131 = .ok (.iconst 1, 1) := by decide +kernel
theorem d_Mo_perform_132 : decode b_Mo_perform 132 = .ok (.invokevirtual 148, 3) := by decide +kernel
theorem d_Mo_perform_135 : decode b_Mo_perform 135 = .ok (.goto (62), 3) := by decide +kernel
theorem d_Mo_perform_138 : decode b_Mo_perform 138 = .ok (.iload_n 2, 1) := by decide +kernel
theorem d_Mo_perform_139 : decode b_Mo_perform 139 = .ok (.bipush (11), 2) := by decide +kernel
theorem d_Mo_perform_141 : decode b_Mo_perform 141 = .ok (.if_icmp .lt (17), 3) := by decide +kernel
theorem d_Mo_perform_144 : decode b_Mo_perform 144 = .ok (.iload_n 2, 1) := by decide +kernel
theorem d_Mo_perform_145 : decode b_Mo_perform 145 = .ok (.bipush (14), 2) := by decide +kernel
theorem d_Mo_perform_147 : decode b_Mo_perform 147 = .ok (.if_icmp .gt (11), 3) := by decide +kernel
theorem d_Mo_perform_150 : decode b_Mo_perform 150 = .ok (.aload_n 0, 1) := by decide +kernel
theorem d_Mo_perform_151 : decode b_Mo_perform 151 = .ok (.iload_n 2, 1) := by decide +kernel
theorem d_Mo_perform_152 : decode b_Mo_perform 152 = .ok (.invokevirtual 163, 3) := by decide +kernel
theorem d_Mo_perform_155 : decode b_Mo_perform 155 = .ok (.goto (42), 3) := by decide +kernel
theorem d_Mo_perform_158 : decode b_Mo_perform 158 = .ok (.iload_n 2, 1) := by decide +kernel
theorem d_Mo_perform_159 : decode b_Mo_perform 159 = .ok (.bipush (18), 2) := by decide +kernel
theorem d_Mo_perform_161 : decode b_Mo_perform 161 = .ok (.if_icmp .ne (11), 3) := by decide +kernel
theorem d_Mo_perform_164 : decode b_Mo_perform 164 = .ok (.aload_n 0, 1) := by decide +kernel
theorem d_Mo_perform_165 : decode b_Mo_perform 165 = .ok (.iload_n 3, 1) := by decide +kernel
theorem d_Mo_perform_166 : decode b_Mo_perform 166 = .ok (.invokevirtual 166, 3) := by decide +kernel
theorem d_Mo_perform_169 : decode b_Mo_perform 169 = .ok (.goto (28), 3) := by decide +kernel
theorem d_Mo_perform_172 : decode b_Mo_perform 172 = .ok (.iload_n 2, 1) := by decide +kernel
theorem d_Mo_perform_173 : decode b_Mo_perform 173 = .ok (.bipush (19), 2) := by decide +kernel
theorem d_Mo_perform_175 : decode b_Mo_perform 175 = .ok (.if_icmp .ne (10), 3) := by decide +kernel
theorem d_Mo_perform_178 : decode b_Mo_perform 178 = .ok (.aload_n 0, 1) := by decide +kernel
theorem d_Mo_perform_179 : decode b_Mo_perform 179 = .ok (.invokevirtual 169, 3) := by decide +kernel
theorem d_Mo_perform_182 : decode b_Mo_perform 182 = .ok (.goto (15), 3) := by decide +kernel
theorem d_Mo_perform_185 : decode b_Mo_perform 185 = .ok (.iload_n 2, 1) := by decide +kernel
theorem d_Mo_perform_186 : decode b_Mo_perform 186 = .ok (.bipush (7), 2) := by decide +kernel
theorem d_Mo_perform_188 : decode b_Mo_perform 188 = .ok (.if_icmp .eq (9), 3) := by decide +kernel
theorem d_Mo_perform_191 : decode b_Mo_perform 191 = .ok (.aload_n 0, 1) := by decide +kernel
theorem d_Mo_perform_192 : decode b_Mo_perform 192 = .ok (.iload_n 2, 1) := by decide +kernel
theorem d_Mo_perform_193 : decode b_Mo_perform 193 = .ok (.iload_n 3, 1) := by decide +kernel
theorem d_Mo_perform_194 : decode b_Mo_perform 194 = .ok (.invokevirtual 172, 3) := by decide +kernel
theorem d_Mo_perform_197 : decode b_Mo_perform 197 = .ok (.return_, 1) := by decide +kernel
def y_Mo_stepOnce : MethodName := ⟨"FrameVerifierModel", "stepOnce", "()Z"⟩
abbrev b_Mo_stepOnce : ByteArray := prog_11_method_38_code
def rm_Mo_stepOnce : Room := { frames := 5, cells := 0, slots := 0, locals := 114 }
abbrev w_Mo_stepOnce : List Cond := Cond.code y_Mo_stepOnce b_Mo_stepOnce 2 (some .boolean) :: wG
theorem m_Mo_stepOnce : Cond.code y_Mo_stepOnce b_Mo_stepOnce 2 (some .boolean) ∈ wG := wg_t 918 (by decide +kernel) (by decide +kernel)
theorem q_Mo_stepOnce : y_Mo_stepOnce.cls ≠ "java/lang/invoke/MethodHandle" ∧ y_Mo_stepOnce.cls ≠ "java/lang/invoke/VarHandle" ∧ (parseMethodDescriptor y_Mo_stepOnce.desc).map (fun d => d.parameters.length) = some 0 := by decide +kernel
theorem g_Mo_stepOnce : Cond.initialized y_Mo_stepOnce.cls ∈ wG := wg_t 6 (by decide +kernel) (by decide +kernel)
theorem s_Mo_stepOnce : Cond.instanceMethod y_Mo_stepOnce ∈ wG := wg_t 917 (by decide +kernel) (by decide +kernel)
theorem e_Mo_stepOnce : Cond.selects "FrameVerifierModel" y_Mo_stepOnce y_Mo_stepOnce ∈ wG := wg_s (q := (y_Mo_stepOnce, 27)) 36 (by decide +kernel) (by decide +kernel)
theorem d_Mo_stepOnce_0 : decode b_Mo_stepOnce 0 = .ok (.aload_n 0, 1) := by decide +kernel
theorem d_Mo_stepOnce_1 : decode b_Mo_stepOnce 1 = .ok (.iconst 0, 1) := by decide +kernel
theorem d_Mo_stepOnce_2 : decode b_Mo_stepOnce 2 = .ok (.putfield 175, 3) := by decide +kernel
theorem d_Mo_stepOnce_5 : decode b_Mo_stepOnce 5 = .ok (.aload_n 0, 1) := by decide +kernel
theorem d_Mo_stepOnce_6 : decode b_Mo_stepOnce 6 = .ok (.getfield 130, 3) := by decide +kernel
theorem d_Mo_stepOnce_9 : decode b_Mo_stepOnce 9 = .ok (.ifCond .ne (5), 3) := by decide +kernel
theorem d_Mo_stepOnce_12 : decode b_Mo_stepOnce 12 = .ok (.iconst 0, 1) := by decide +kernel
theorem d_Mo_stepOnce_13 : decode b_Mo_stepOnce 13 = .ok (.ireturn, 1) := by decide +kernel
theorem d_Mo_stepOnce_14 : decode b_Mo_stepOnce 14 = .ok (.aload_n 0, 1) := by decide +kernel
theorem d_Mo_stepOnce_15 : decode b_Mo_stepOnce 15 = .ok (.getfield 44, 3) := by decide +kernel
theorem d_Mo_stepOnce_18 : decode b_Mo_stepOnce 18 = .ok (.aload_n 0, 1) := by decide +kernel
theorem d_Mo_stepOnce_19 : decode b_Mo_stepOnce 19 = .ok (.getfield 130, 3) := by decide +kernel
theorem d_Mo_stepOnce_22 : decode b_Mo_stepOnce 22 = .ok (.iconst 1, 1) := by decide +kernel
theorem d_Mo_stepOnce_23 : decode b_Mo_stepOnce 23 = .ok (.isub, 1) := by decide +kernel
theorem d_Mo_stepOnce_24 : decode b_Mo_stepOnce 24 = .ok (.iaload, 1) := by decide +kernel
theorem d_Mo_stepOnce_25 : decode b_Mo_stepOnce 25 = .ok (.istore_n 1, 1) := by decide +kernel
theorem d_Mo_stepOnce_26 : decode b_Mo_stepOnce 26 = .ok (.aload_n 0, 1) := by decide +kernel
theorem d_Mo_stepOnce_27 : decode b_Mo_stepOnce 27 = .ok (.aload_n 0, 1) := by decide +kernel
theorem d_Mo_stepOnce_28 : decode b_Mo_stepOnce 28 = .ok (.iload_n 1, 1) := by decide +kernel
theorem d_Mo_stepOnce_29 : decode b_Mo_stepOnce 29 = .ok (.invokevirtual 76, 3) := by decide +kernel
theorem d_Mo_stepOnce_32 : decode b_Mo_stepOnce 32 = .ok (.ifCond .eq (11), 3) := by decide +kernel
theorem d_Mo_stepOnce_35 : decode b_Mo_stepOnce 35 = .ok (.aload_n 0, 1) := by decide +kernel
theorem d_Mo_stepOnce_36 : decode b_Mo_stepOnce 36 = .ok (.iload_n 1, 1) := by decide +kernel
theorem d_Mo_stepOnce_37 : decode b_Mo_stepOnce 37 = .ok (.invokevirtual 178, 3) := by decide +kernel
theorem d_Mo_stepOnce_40 : decode b_Mo_stepOnce 40 = .ok (.ifCond .ne (7), 3) := by decide +kernel
theorem d_Mo_stepOnce_43 : decode b_Mo_stepOnce 43 = .ok (.iconst 1, 1) := by decide +kernel
theorem d_Mo_stepOnce_44 : decode b_Mo_stepOnce 44 = .ok (.goto (19), 3) := by decide +kernel
theorem d_Mo_stepOnce_47 : decode b_Mo_stepOnce 47 = .ok (.aload_n 0, 1) := by decide +kernel
theorem d_Mo_stepOnce_48 : decode b_Mo_stepOnce 48 = .ok (.aload_n 0, 1) := by decide +kernel
theorem d_Mo_stepOnce_49 : decode b_Mo_stepOnce 49 = .ok (.getfield 7, 3) := by decide +kernel
theorem d_Mo_stepOnce_52 : decode b_Mo_stepOnce 52 = .ok (.iload_n 1, 1) := by decide +kernel
theorem d_Mo_stepOnce_53 : decode b_Mo_stepOnce 53 = .ok (.iaload, 1) := by decide +kernel
theorem d_Mo_stepOnce_54 : decode b_Mo_stepOnce 54 = .ok (.aload_n 0, 1) := by decide +kernel
theorem d_Mo_stepOnce_55 : decode b_Mo_stepOnce 55 = .ok (.getfield 13, 3) := by decide +kernel
theorem d_Mo_stepOnce_58 : decode b_Mo_stepOnce 58 = .ok (.iload_n 1, 1) := by decide +kernel
theorem d_Mo_stepOnce_59 : decode b_Mo_stepOnce 59 = .ok (.iaload, 1) := by decide +kernel
theorem d_Mo_stepOnce_60 : decode b_Mo_stepOnce 60 = .ok (.invokevirtual 181, 3) := by decide +kernel
theorem d_Mo_stepOnce_63 : decode b_Mo_stepOnce 63 = .ok (.putfield 175, 3) := by decide +kernel
theorem d_Mo_stepOnce_66 : decode b_Mo_stepOnce 66 = .ok (.aload_n 0, 1) := by decide +kernel
theorem d_Mo_stepOnce_67 : decode b_Mo_stepOnce 67 = .ok (.getfield 175, 3) := by decide +kernel
theorem d_Mo_stepOnce_70 : decode b_Mo_stepOnce 70 = .ok (.ifCond .eq (10), 3) := by decide +kernel
theorem d_Mo_stepOnce_73 : decode b_Mo_stepOnce 73 = .ok (.aload_n 0, 1) := by decide +kernel
theorem d_Mo_stepOnce_74 : decode b_Mo_stepOnce 74 = .ok (.iconst 0, 1) := by decide +kernel
theorem d_Mo_stepOnce_75 : decode b_Mo_stepOnce 75 = .ok (.putfield 130, 3) := by decide +kernel
theorem d_Mo_stepOnce_78 : decode b_Mo_stepOnce 78 = .ok (.iconst 0, 1) := by decide +kernel
theorem d_Mo_stepOnce_79 : decode b_Mo_stepOnce 79 = .ok (.ireturn, 1) := by decide +kernel
theorem d_Mo_stepOnce_80 : decode b_Mo_stepOnce 80 = .ok (.aload_n 0, 1) := by decide +kernel
theorem d_Mo_stepOnce_81 : decode b_Mo_stepOnce 81 = .ok (.iload_n 1, 1) := by decide +kernel
theorem d_Mo_stepOnce_82 : decode b_Mo_stepOnce 82 = .ok (.invokevirtual 184, 3) := by decide +kernel
theorem d_Mo_stepOnce_85 : decode b_Mo_stepOnce 85 = .ok (.iconst 1, 1) := by decide +kernel
theorem d_Mo_stepOnce_86 : decode b_Mo_stepOnce 86 = .ok (.ireturn, 1) := by decide +kernel
def y_Mo_step : MethodName := ⟨"FrameVerifierModel", "step", "()I"⟩
abbrev b_Mo_step : ByteArray := prog_11_method_39_code
def rm_Mo_step : Room := { frames := 6, cells := 0, slots := 0, locals := 135 }
abbrev w_Mo_step : List Cond := Cond.code y_Mo_step b_Mo_step 2 (some .int) :: wG
theorem m_Mo_step : Cond.code y_Mo_step b_Mo_step 2 (some .int) ∈ wG := wg_t 914 (by decide +kernel) (by decide +kernel)
theorem q_Mo_step : y_Mo_step.cls ≠ "java/lang/invoke/MethodHandle" ∧ y_Mo_step.cls ≠ "java/lang/invoke/VarHandle" ∧ (parseMethodDescriptor y_Mo_step.desc).map (fun d => d.parameters.length) = some 0 := by decide +kernel
theorem g_Mo_step : Cond.initialized y_Mo_step.cls ∈ wG := wg_t 6 (by decide +kernel) (by decide +kernel)
theorem s_Mo_step : Cond.instanceMethod y_Mo_step ∈ wG := wg_t 912 (by decide +kernel) (by decide +kernel)
theorem e_Mo_step : Cond.selects "FrameVerifierModel" y_Mo_step y_Mo_step ∈ wG := wg_t 913 (by decide +kernel) (by decide +kernel)
theorem d_Mo_step_0 : decode b_Mo_step 0 = .ok (.aload_n 0, 1) := by decide +kernel
theorem d_Mo_step_1 : decode b_Mo_step 1 = .ok (.invokevirtual 187, 3) := by decide +kernel
theorem d_Mo_step_4 : decode b_Mo_step 4 = .ok (.istore_n 1, 1) := by decide +kernel
theorem d_Mo_step_5 : decode b_Mo_step 5 = .ok (.aload_n 0, 1) := by decide +kernel
theorem d_Mo_step_6 : decode b_Mo_step 6 = .ok (.aload_n 0, 1) := by decide +kernel
theorem d_Mo_step_7 : decode b_Mo_step 7 = .ok (.getfield 175, 3) := by decide +kernel
theorem d_Mo_step_10 : decode b_Mo_step 10 = .ok (.putfield 59, 3) := by decide +kernel
theorem d_Mo_step_13 : decode b_Mo_step 13 = .ok (.aload_n 0, 1) := by decide +kernel
theorem d_Mo_step_14 : decode b_Mo_step 14 = .ok (.getfield 130, 3) := by decide +kernel
theorem d_Mo_step_17 : decode b_Mo_step 17 = .ok (.ifCond .le (7), 3) := by decide +kernel
theorem d_Mo_step_20 : decode b_Mo_step 20 = .ok (.iconst 1, 1) := by decide +kernel
theorem d_Mo_step_21 : decode b_Mo_step 21 = .ok (.goto (4), 3) := by decide +kernel
theorem d_Mo_step_24 : decode b_Mo_step 24 = .ok (.iconst 0, 1) := by decide +kernel
theorem d_Mo_step_25 : decode b_Mo_step 25 = .ok (.ireturn, 1) := by decide +kernel
def y_Mo_steps : MethodName := ⟨"FrameVerifierModel", "steps", "(I)I"⟩
abbrev b_Mo_steps : ByteArray := prog_11_method_40_code
def rm_Mo_steps : Room := { frames := 6, cells := 0, slots := 0, locals := 135 }
abbrev w_Mo_steps : List Cond := Cond.code y_Mo_steps b_Mo_steps 3 (some .int) :: wG
theorem m_Mo_steps : Cond.code y_Mo_steps b_Mo_steps 3 (some .int) ∈ wG := wg_t 975 (by decide +kernel) (by decide +kernel)
theorem q_Mo_steps : y_Mo_steps.cls ≠ "java/lang/invoke/MethodHandle" ∧ y_Mo_steps.cls ≠ "java/lang/invoke/VarHandle" ∧ (parseMethodDescriptor y_Mo_steps.desc).map (fun d => d.parameters.length) = some 1 := by decide +kernel
theorem g_Mo_steps : Cond.initialized y_Mo_steps.cls ∈ wG := wg_t 6 (by decide +kernel) (by decide +kernel)
theorem s_Mo_steps : Cond.instanceMethod y_Mo_steps ∈ wG := wg_t 973 (by decide +kernel) (by decide +kernel)
theorem e_Mo_steps : Cond.selects "FrameVerifierModel" y_Mo_steps y_Mo_steps ∈ wG := wg_t 974 (by decide +kernel) (by decide +kernel)
theorem d_Mo_steps_0 : decode b_Mo_steps 0 = .ok (.aload_n 0, 1) := by decide +kernel
theorem d_Mo_steps_1 : decode b_Mo_steps 1 = .ok (.iload_n 1, 1) := by decide +kernel
theorem d_Mo_steps_2 : decode b_Mo_steps 2 = .ok (.iconst 1, 1) := by decide +kernel
theorem d_Mo_steps_3 : decode b_Mo_steps 3 = .ok (.if_icmp .lt (10), 3) := by decide +kernel
theorem d_Mo_steps_6 : decode b_Mo_steps 6 = .ok (.iload_n 1, 1) := by decide +kernel
theorem d_Mo_steps_7 : decode b_Mo_steps 7 = .ok (.sipush (200), 3) := by decide +kernel
theorem d_Mo_steps_10 : decode b_Mo_steps 10 = .ok (.if_icmp .le (7), 3) := by decide +kernel
theorem d_Mo_steps_13 : decode b_Mo_steps 13 = .ok (.iconst 1, 1) := by decide +kernel
theorem d_Mo_steps_14 : decode b_Mo_steps 14 = .ok (.goto (4), 3) := by decide +kernel
theorem d_Mo_steps_17 : decode b_Mo_steps 17 = .ok (.iconst 0, 1) := by decide +kernel
theorem d_Mo_steps_18 : decode b_Mo_steps 18 = .ok (.putfield 59, 3) := by decide +kernel
theorem d_Mo_steps_21 : decode b_Mo_steps 21 = .ok (.iconst 0, 1) := by decide +kernel
theorem d_Mo_steps_22 : decode b_Mo_steps 22 = .ok (.istore_n 2, 1) := by decide +kernel
theorem d_Mo_steps_23 : decode b_Mo_steps 23 = .ok (.aload_n 0, 1) := by decide +kernel
theorem d_Mo_steps_24 : decode b_Mo_steps 24 = .ok (.iconst 0, 1) := by decide +kernel
theorem d_Mo_steps_25 : decode b_Mo_steps 25 = .ok (.putfield 175, 3) := by decide +kernel
theorem d_Mo_steps_28 : decode b_Mo_steps 28 = .ok (.aload_n 0, 1) := by decide +kernel
theorem d_Mo_steps_29 : decode b_Mo_steps 29 = .ok (.getfield 59, 3) := by decide +kernel
theorem d_Mo_steps_32 : decode b_Mo_steps 32 = .ok (.ifCond .ne (28), 3) := by decide +kernel
theorem d_Mo_steps_35 : decode b_Mo_steps 35 = .ok (.aload_n 0, 1) := by decide +kernel
theorem d_Mo_steps_36 : decode b_Mo_steps 36 = .ok (.getfield 175, 3) := by decide +kernel
theorem d_Mo_steps_39 : decode b_Mo_steps 39 = .ok (.ifCond .ne (21), 3) := by decide +kernel
theorem d_Mo_steps_42 : decode b_Mo_steps 42 = .ok (.iload_n 2, 1) := by decide +kernel
theorem d_Mo_steps_43 : decode b_Mo_steps 43 = .ok (.iload_n 1, 1) := by decide +kernel
theorem d_Mo_steps_44 : decode b_Mo_steps 44 = .ok (.if_icmp .ge (16), 3) := by decide +kernel
theorem d_Mo_steps_47 : decode b_Mo_steps 47 = .ok (.aload_n 0, 1) := by decide +kernel
theorem d_Mo_steps_48 : decode b_Mo_steps 48 = .ok (.invokevirtual 187, 3) := by decide +kernel
theorem d_Mo_steps_51 : decode b_Mo_steps 51 = .ok (.ifCond .eq (9), 3) := by decide +kernel
theorem d_Mo_steps_54 : decode b_Mo_steps 54 = .ok (.iinc 2 (1), 3) := by decide +kernel
theorem d_Mo_steps_57 : decode b_Mo_steps 57 = .ok (.goto (-29), 3) := by decide +kernel
theorem d_Mo_steps_60 : decode b_Mo_steps 60 = .ok (.aload_n 0, 1) := by decide +kernel
theorem d_Mo_steps_61 : decode b_Mo_steps 61 = .ok (.aload_n 0, 1) := by decide +kernel
theorem d_Mo_steps_62 : decode b_Mo_steps 62 = .ok (.getfield 59, 3) := by decide +kernel
theorem d_Mo_steps_65 : decode b_Mo_steps 65 = .ok (.ifCond .eq (10), 3) := by decide +kernel
theorem d_Mo_steps_68 : decode b_Mo_steps 68 = .ok (.aload_n 0, 1) := by decide +kernel
theorem d_Mo_steps_69 : decode b_Mo_steps 69 = .ok (.getfield 59, 3) := by decide +kernel
theorem d_Mo_steps_72 : decode b_Mo_steps 72 = .ok (.goto (20), 3) := by decide +kernel
theorem d_Mo_steps_75 : decode b_Mo_steps 75 = .ok (.aload_n 0, 1) := by decide +kernel
theorem d_Mo_steps_76 : decode b_Mo_steps 76 = .ok (.getfield 175, 3) := by decide +kernel
theorem d_Mo_steps_79 : decode b_Mo_steps 79 = .ok (.ifCond .ne (7), 3) := by decide +kernel
theorem d_Mo_steps_82 : decode b_Mo_steps 82 = .ok (.iconst 0, 1) := by decide +kernel
theorem d_Mo_steps_83 : decode b_Mo_steps 83 = .ok (.goto (9), 3) := by decide +kernel
theorem d_Mo_steps_86 : decode b_Mo_steps 86 = .ok (.aload_n 0, 1) := by decide +kernel
theorem d_Mo_steps_87 : decode b_Mo_steps 87 = .ok (.getfield 175, 3) := by decide +kernel
theorem d_Mo_steps_90 : decode b_Mo_steps 90 = .ok (.iconst 1, 1) := by decide +kernel
theorem d_Mo_steps_91 : decode b_Mo_steps 91 = .ok (.iadd, 1) := by decide +kernel
theorem d_Mo_steps_92 : decode b_Mo_steps 92 = .ok (.putfield 59, 3) := by decide +kernel
theorem d_Mo_steps_95 : decode b_Mo_steps 95 = .ok (.aload_n 0, 1) := by decide +kernel
theorem d_Mo_steps_96 : decode b_Mo_steps 96 = .ok (.getfield 59, 3) := by decide +kernel
theorem d_Mo_steps_99 : decode b_Mo_steps 99 = .ok (.ifCond .ne (7), 3) := by decide +kernel
theorem d_Mo_steps_102 : decode b_Mo_steps 102 = .ok (.iload_n 2, 1) := by decide +kernel
theorem d_Mo_steps_103 : decode b_Mo_steps 103 = .ok (.goto (4), 3) := by decide +kernel
theorem d_Mo_steps_106 : decode b_Mo_steps 106 = .ok (.iconst 0, 1) := by decide +kernel
theorem d_Mo_steps_107 : decode b_Mo_steps 107 = .ok (.ireturn, 1) := by decide +kernel
def y_Mo_about : MethodName := ⟨"FrameVerifierModel", "about", "(I)I"⟩
abbrev b_Mo_about : ByteArray := prog_11_method_41_code
def rm_Mo_about : Room := { frames := 1, cells := 0, slots := 0, locals := 21 }
abbrev w_Mo_about : List Cond := Cond.code y_Mo_about b_Mo_about 5 (some .int) :: wG
theorem m_Mo_about : Cond.code y_Mo_about b_Mo_about 5 (some .int) ∈ wG := wg_t 979 (by decide +kernel) (by decide +kernel)
theorem q_Mo_about : y_Mo_about.cls ≠ "java/lang/invoke/MethodHandle" ∧ y_Mo_about.cls ≠ "java/lang/invoke/VarHandle" ∧ (parseMethodDescriptor y_Mo_about.desc).map (fun d => d.parameters.length) = some 1 := by decide +kernel
theorem g_Mo_about : Cond.initialized y_Mo_about.cls ∈ wG := wg_t 6 (by decide +kernel) (by decide +kernel)
theorem s_Mo_about : Cond.instanceMethod y_Mo_about ∈ wG := wg_t 977 (by decide +kernel) (by decide +kernel)
theorem e_Mo_about : Cond.selects "FrameVerifierModel" y_Mo_about y_Mo_about ∈ wG := wg_t 978 (by decide +kernel) (by decide +kernel)
theorem d_Mo_about_0 : decode b_Mo_about 0 = .ok (.aload_n 0, 1) := by decide +kernel
theorem d_Mo_about_1 : decode b_Mo_about 1 = .ok (.iconst 0, 1) := by decide +kernel
theorem d_Mo_about_2 : decode b_Mo_about 2 = .ok (.putfield 59, 3) := by decide +kernel
theorem d_Mo_about_5 : decode b_Mo_about 5 = .ok (.aload_n 0, 1) := by decide +kernel
theorem d_Mo_about_6 : decode b_Mo_about 6 = .ok (.getfield 130, 3) := by decide +kernel
theorem d_Mo_about_9 : decode b_Mo_about 9 = .ok (.ifCond .le (7), 3) := by decide +kernel
theorem d_Mo_about_12 : decode b_Mo_about 12 = .ok (.iconst 1, 1) := by decide +kernel
theorem d_Mo_about_13 : decode b_Mo_about 13 = .ok (.goto (4), 3) := by decide +kernel
theorem d_Mo_about_16 : decode b_Mo_about 16 = .ok (.iconst 0, 1) := by decide +kernel
theorem d_Mo_about_17 : decode b_Mo_about 17 = .ok (.istore_n 2, 1) := by decide +kernel
theorem d_Mo_about_18 : decode b_Mo_about 18 = .ok (.iload_n 2, 1) := by decide +kernel
theorem d_Mo_about_19 : decode b_Mo_about 19 = .ok (.ifCond .eq (12), 3) := by decide +kernel
theorem d_Mo_about_22 : decode b_Mo_about 22 = .ok (.aload_n 0, 1) := by decide +kernel
theorem d_Mo_about_23 : decode b_Mo_about 23 = .ok (.getfield 130, 3) := by decide +kernel
theorem d_Mo_about_26 : decode b_Mo_about 26 = .ok (.iconst 1, 1) := by decide +kernel
theorem d_Mo_about_27 : decode b_Mo_about 27 = .ok (.isub, 1) := by decide +kernel
theorem d_Mo_about_28 : decode b_Mo_about 28 = .ok (.goto (4), 3) := by decide +kernel
theorem d_Mo_about_31 : decode b_Mo_about 31 = .ok (.iconst 0, 1) := by decide +kernel
theorem d_Mo_about_32 : decode b_Mo_about 32 = .ok (.istore_n 3, 1) := by decide +kernel
theorem d_Mo_about_33 : decode b_Mo_about 33 = .ok (.bipush (12), 2) := by decide +kernel
theorem d_Mo_about_35 : decode b_Mo_about 35 = .ok (.iload_n 3, 1) := by decide +kernel
theorem d_Mo_about_36 : decode b_Mo_about 36 = .ok (.imul, 1) := by decide +kernel
theorem d_Mo_about_37 : decode b_Mo_about 37 = .ok (.iconst 5, 1) := by decide +kernel
theorem d_Mo_about_38 : decode b_Mo_about 38 = .ok (.iadd, 1) := by decide +kernel
theorem d_Mo_about_39 : decode b_Mo_about 39 = .ok (.aload_n 0, 1) := by decide +kernel
theorem d_Mo_about_40 : decode b_Mo_about 40 = .ok (.getfield 47, 3) := by decide +kernel
theorem d_Mo_about_43 : decode b_Mo_about 43 = .ok (.iload_n 3, 1) := by decide +kernel
theorem d_Mo_about_44 : decode b_Mo_about 44 = .ok (.iaload, 1) := by decide +kernel
theorem d_Mo_about_45 : decode b_Mo_about 45 = .ok (.iadd, 1) := by decide +kernel
theorem d_Mo_about_46 : decode b_Mo_about 46 = .ok (.istore 4, 2) := by decide +kernel
theorem d_Mo_about_48 : decode b_Mo_about 48 = .ok (.iload_n 1, 1) := by decide +kernel
theorem d_Mo_about_49 : decode b_Mo_about 49 = .ok (.tableswitch (150) (0) (7) #[(47), (57), (72), (85), (100), (135), (140), (145)], 47) := by decide +kernel
theorem d_Mo_about_96 : decode b_Mo_about 96 = .ok (.iload_n 2, 1) := by decide +kernel
theorem d_Mo_about_97 : decode b_Mo_about 97 = .ok (.ifCond .eq (7), 3) := by decide +kernel
theorem d_Mo_about_100 : decode b_Mo_about 100 = .ok (.iconst 1, 1) := by decide +kernel
theorem d_Mo_about_101 : decode b_Mo_about 101 = .ok (.goto (4), 3) := by decide +kernel
theorem d_Mo_about_104 : decode b_Mo_about 104 = .ok (.iconst 0, 1) := by decide +kernel
theorem d_Mo_about_105 : decode b_Mo_about 105 = .ok (.ireturn, 1) := by decide +kernel
theorem d_Mo_about_106 : decode b_Mo_about 106 = .ok (.iload_n 2, 1) := by decide +kernel
theorem d_Mo_about_107 : decode b_Mo_about 107 = .ok (.ifCond .eq (12), 3) := by decide +kernel
theorem d_Mo_about_110 : decode b_Mo_about 110 = .ok (.aload_n 0, 1) := by decide +kernel
theorem d_Mo_about_111 : decode b_Mo_about 111 = .ok (.getfield 44, 3) := by decide +kernel
theorem d_Mo_about_114 : decode b_Mo_about 114 = .ok (.iload_n 3, 1) := by decide +kernel
theorem d_Mo_about_115 : decode b_Mo_about 115 = .ok (.iaload, 1) := by decide +kernel
theorem d_Mo_about_116 : decode b_Mo_about 116 = .ok (.goto (4), 3) := by decide +kernel
theorem d_Mo_about_119 : decode b_Mo_about 119 = .ok (.iconst (-1), 1) := by decide +kernel
theorem d_Mo_about_120 : decode b_Mo_about 120 = .ok (.ireturn, 1) := by decide +kernel
theorem d_Mo_about_121 : decode b_Mo_about 121 = .ok (.iload_n 2, 1) := by decide +kernel
theorem d_Mo_about_122 : decode b_Mo_about 122 = .ok (.ifCond .eq (10), 3) := by decide +kernel
theorem d_Mo_about_125 : decode b_Mo_about 125 = .ok (.aload_n 0, 1) := by decide +kernel
theorem d_Mo_about_126 : decode b_Mo_about 126 = .ok (.getfield 130, 3) := by decide +kernel
theorem d_Mo_about_129 : decode b_Mo_about 129 = .ok (.goto (4), 3) := by decide +kernel
theorem d_Mo_about_132 : decode b_Mo_about 132 = .ok (.iconst (-1), 1) := by decide +kernel
theorem d_Mo_about_133 : decode b_Mo_about 133 = .ok (.ireturn, 1) := by decide +kernel
theorem d_Mo_about_134 : decode b_Mo_about 134 = .ok (.iload_n 2, 1) := by decide +kernel
theorem d_Mo_about_135 : decode b_Mo_about 135 = .ok (.ifCond .eq (12), 3) := by decide +kernel
theorem d_Mo_about_138 : decode b_Mo_about 138 = .ok (.aload_n 0, 1) := by decide +kernel
theorem d_Mo_about_139 : decode b_Mo_about 139 = .ok (.getfield 47, 3) := by decide +kernel
theorem d_Mo_about_142 : decode b_Mo_about 142 = .ok (.iload_n 3, 1) := by decide +kernel
theorem d_Mo_about_143 : decode b_Mo_about 143 = .ok (.iaload, 1) := by decide +kernel
theorem d_Mo_about_144 : decode b_Mo_about 144 = .ok (.goto (4), 3) := by decide +kernel
theorem d_Mo_about_147 : decode b_Mo_about 147 = .ok (.iconst (-1), 1) := by decide +kernel
theorem d_Mo_about_148 : decode b_Mo_about 148 = .ok (.ireturn, 1) := by decide +kernel
theorem d_Mo_about_149 : decode b_Mo_about 149 = .ok (.iload_n 2, 1) := by decide +kernel
theorem d_Mo_about_150 : decode b_Mo_about 150 = .ok (.ifCond .eq (32), 3) := by decide +kernel
theorem d_Mo_about_153 : decode b_Mo_about 153 = .ok (.aload_n 0, 1) := by decide +kernel
theorem d_Mo_about_154 : decode b_Mo_about 154 = .ok (.getfield 47, 3) := by decide +kernel
theorem d_Mo_about_157 : decode b_Mo_about 157 = .ok (.iload_n 3, 1) := by decide +kernel
theorem d_Mo_about_158 : decode b_Mo_about 158 = .ok (.iaload, 1) := by decide +kernel
theorem d_Mo_about_159 : decode b_Mo_about 159 = .ok (.ifCond .le (23), 3) := by decide +kernel
theorem d_Mo_about_162 : decode b_Mo_about 162 = .ok (.aload_n 0, 1) := by decide +kernel
theorem d_Mo_about_163 : decode b_Mo_about 163 = .ok (.getfield 53, 3) := by decide +kernel
theorem d_Mo_about_166 : decode b_Mo_about 166 = .ok (.iload 4, 2) := by decide +kernel
theorem d_Mo_about_168 : decode b_Mo_about 168 = .ok (.iaload, 1) := by decide +kernel
theorem d_Mo_about_169 : decode b_Mo_about 169 = .ok (.aload_n 0, 1) := by decide +kernel
theorem d_Mo_about_170 : decode b_Mo_about 170 = .ok (.getfield 50, 3) := by decide +kernel
theorem d_Mo_about_173 : decode b_Mo_about 173 = .ok (.iload 4, 2) := by decide +kernel
theorem d_Mo_about_175 : decode b_Mo_about 175 = .ok (.iaload, 1) := by decide +kernel
theorem d_Mo_about_176 : decode b_Mo_about 176 = .ok (.invokestatic 154, 3) := by decide +kernel
theorem d_Mo_about_179 : decode b_Mo_about 179 = .ok (.goto (4), 3) := by decide +kernel
theorem d_Mo_about_182 : decode b_Mo_about 182 = .ok (.iconst (-1), 1) := by decide +kernel
theorem d_Mo_about_183 : decode b_Mo_about 183 = .ok (.ireturn, 1) := by decide +kernel
theorem d_Mo_about_184 : decode b_Mo_about 184 = .ok (.aload_n 0, 1) := by decide +kernel
theorem d_Mo_about_185 : decode b_Mo_about 185 = .ok (.getfield 157, 3) := by decide +kernel
theorem d_Mo_about_188 : decode b_Mo_about 188 = .ok (.ireturn, 1) := by decide +kernel
theorem d_Mo_about_189 : decode b_Mo_about 189 = .ok (.aload_n 0, 1) := by decide +kernel
theorem d_Mo_about_190 : decode b_Mo_about 190 = .ok (.getfield 133, 3) := by decide +kernel
theorem d_Mo_about_193 : decode b_Mo_about 193 = .ok (.ireturn, 1) := by decide +kernel
theorem d_Mo_about_194 : decode b_Mo_about 194 = .ok (.aload_n 0, 1) := by decide +kernel
theorem d_Mo_about_195 : decode b_Mo_about 195 = .ok (.getfield 63, 3) := by decide +kernel
theorem d_Mo_about_198 : decode b_Mo_about 198 = .ok (.ireturn, 1) := by decide +kernel
theorem d_Mo_about_199 : decode b_Mo_about 199 = .ok (.iconst (-1), 1) := by decide +kernel
theorem d_Mo_about_200 : decode b_Mo_about 200 = .ok (.ireturn, 1) := by decide +kernel
def y_Mo_local : MethodName := ⟨"FrameVerifierModel", "local", "(I)I"⟩
abbrev b_Mo_local : ByteArray := prog_11_method_42_code
def rm_Mo_local : Room := { frames := 1, cells := 0, slots := 0, locals := 21 }
abbrev w_Mo_local : List Cond := Cond.code y_Mo_local b_Mo_local 2 (some .int) :: wG
theorem m_Mo_local : Cond.code y_Mo_local b_Mo_local 2 (some .int) ∈ wG := wg_t 983 (by decide +kernel) (by decide +kernel)
theorem q_Mo_local : y_Mo_local.cls ≠ "java/lang/invoke/MethodHandle" ∧ y_Mo_local.cls ≠ "java/lang/invoke/VarHandle" ∧ (parseMethodDescriptor y_Mo_local.desc).map (fun d => d.parameters.length) = some 1 := by decide +kernel
theorem g_Mo_local : Cond.initialized y_Mo_local.cls ∈ wG := wg_t 6 (by decide +kernel) (by decide +kernel)
theorem s_Mo_local : Cond.instanceMethod y_Mo_local ∈ wG := wg_t 981 (by decide +kernel) (by decide +kernel)
theorem e_Mo_local : Cond.selects "FrameVerifierModel" y_Mo_local y_Mo_local ∈ wG := wg_t 982 (by decide +kernel) (by decide +kernel)
theorem d_Mo_local_0 : decode b_Mo_local 0 = .ok (.aload_n 0, 1) := by decide +kernel
theorem d_Mo_local_1 : decode b_Mo_local 1 = .ok (.iconst 0, 1) := by decide +kernel
theorem d_Mo_local_2 : decode b_Mo_local 2 = .ok (.putfield 59, 3) := by decide +kernel
theorem d_Mo_local_5 : decode b_Mo_local 5 = .ok (.iload_n 1, 1) := by decide +kernel
theorem d_Mo_local_6 : decode b_Mo_local 6 = .ok (.ifCond .lt (34), 3) := by decide +kernel
theorem d_Mo_local_9 : decode b_Mo_local 9 = .ok (.iload_n 1, 1) := by decide +kernel
theorem d_Mo_local_10 : decode b_Mo_local 10 = .ok (.iconst 5, 1) := by decide +kernel
theorem d_Mo_local_11 : decode b_Mo_local 11 = .ok (.if_icmp .gt (29), 3) := by decide +kernel
theorem d_Mo_local_14 : decode b_Mo_local 14 = .ok (.aload_n 0, 1) := by decide +kernel
theorem d_Mo_local_15 : decode b_Mo_local 15 = .ok (.getfield 130, 3) := by decide +kernel
theorem d_Mo_local_18 : decode b_Mo_local 18 = .ok (.ifCond .eq (22), 3) := by decide +kernel
theorem d_Mo_local_21 : decode b_Mo_local 21 = .ok (.aload_n 0, 1) := by decide +kernel
theorem d_Mo_local_22 : decode b_Mo_local 22 = .ok (.getfield 53, 3) := by decide +kernel
theorem d_Mo_local_25 : decode b_Mo_local 25 = .ok (.bipush (12), 2) := by decide +kernel
theorem d_Mo_local_27 : decode b_Mo_local 27 = .ok (.aload_n 0, 1) := by decide +kernel
theorem d_Mo_local_28 : decode b_Mo_local 28 = .ok (.getfield 130, 3) := by decide +kernel
theorem d_Mo_local_31 : decode b_Mo_local 31 = .ok (.iconst 1, 1) := by decide +kernel
theorem d_Mo_local_32 : decode b_Mo_local 32 = .ok (.isub, 1) := by decide +kernel
theorem d_Mo_local_33 : decode b_Mo_local 33 = .ok (.imul, 1) := by decide +kernel
theorem d_Mo_local_34 : decode b_Mo_local 34 = .ok (.iload_n 1, 1) := by decide +kernel
theorem d_Mo_local_35 : decode b_Mo_local 35 = .ok (.iadd, 1) := by decide +kernel
theorem d_Mo_local_36 : decode b_Mo_local 36 = .ok (.iaload, 1) := by decide +kernel
theorem d_Mo_local_37 : decode b_Mo_local 37 = .ok (.ifCond .ne (5), 3) := by decide +kernel
theorem d_Mo_local_40 : decode b_Mo_local 40 = .ok (.iconst (-1), 1) := by decide +kernel
theorem d_Mo_local_41 : decode b_Mo_local 41 = .ok (.ireturn, 1) := by decide +kernel
theorem d_Mo_local_42 : decode b_Mo_local 42 = .ok (.aload_n 0, 1) := by decide +kernel
theorem d_Mo_local_43 : decode b_Mo_local 43 = .ok (.getfield 53, 3) := by decide +kernel
theorem d_Mo_local_46 : decode b_Mo_local 46 = .ok (.bipush (12), 2) := by decide +kernel
theorem d_Mo_local_48 : decode b_Mo_local 48 = .ok (.aload_n 0, 1) := by decide +kernel
theorem d_Mo_local_49 : decode b_Mo_local 49 = .ok (.getfield 130, 3) := by decide +kernel
theorem d_Mo_local_52 : decode b_Mo_local 52 = .ok (.iconst 1, 1) := by decide +kernel
theorem d_Mo_local_53 : decode b_Mo_local 53 = .ok (.isub, 1) := by decide +kernel
theorem d_Mo_local_54 : decode b_Mo_local 54 = .ok (.imul, 1) := by decide +kernel
theorem d_Mo_local_55 : decode b_Mo_local 55 = .ok (.iload_n 1, 1) := by decide +kernel
theorem d_Mo_local_56 : decode b_Mo_local 56 = .ok (.iadd, 1) := by decide +kernel
theorem d_Mo_local_57 : decode b_Mo_local 57 = .ok (.iaload, 1) := by decide +kernel
theorem d_Mo_local_58 : decode b_Mo_local 58 = .ok (.aload_n 0, 1) := by decide +kernel
theorem d_Mo_local_59 : decode b_Mo_local 59 = .ok (.getfield 50, 3) := by decide +kernel
theorem d_Mo_local_62 : decode b_Mo_local 62 = .ok (.bipush (12), 2) := by decide +kernel
theorem d_Mo_local_64 : decode b_Mo_local 64 = .ok (.aload_n 0, 1) := by decide +kernel
theorem d_Mo_local_65 : decode b_Mo_local 65 = .ok (.getfield 130, 3) := by decide +kernel
theorem d_Mo_local_68 : decode b_Mo_local 68 = .ok (.iconst 1, 1) := by decide +kernel
theorem d_Mo_local_69 : decode b_Mo_local 69 = .ok (.isub, 1) := by decide +kernel
theorem d_Mo_local_70 : decode b_Mo_local 70 = .ok (.imul, 1) := by decide +kernel
theorem d_Mo_local_71 : decode b_Mo_local 71 = .ok (.iload_n 1, 1) := by decide +kernel
theorem d_Mo_local_72 : decode b_Mo_local 72 = .ok (.iadd, 1) := by decide +kernel
theorem d_Mo_local_73 : decode b_Mo_local 73 = .ok (.iaload, 1) := by decide +kernel
theorem d_Mo_local_74 : decode b_Mo_local 74 = .ok (.invokestatic 154, 3) := by decide +kernel
theorem d_Mo_local_77 : decode b_Mo_local 77 = .ok (.ireturn, 1) := by decide +kernel
theorem wd_741 : (Jvm.Cond.fieldLink "FrameVerifierModel" (63 : Nat) "FrameVerifierModel" "instructions" "I") ∈ wG := wg_t 741 (by decide +kernel) (by decide +kernel)
theorem wd_742 : (Jvm.Cond.fieldLink "FrameVerifierModel" (7 : Nat) "FrameVerifierModel" "op" "[I") ∈ wG := wg_t 742 (by decide +kernel) (by decide +kernel)
theorem wd_743 : (Jvm.Cond.fieldLink "FrameVerifierModel" (13 : Nat) "FrameVerifierModel" "number" "[I") ∈ wG := wg_t 743 (by decide +kernel) (by decide +kernel)
theorem wd_744 : (Jvm.Cond.fieldLink "FrameVerifierModel" (16 : Nat) "FrameVerifierModel" "there" "[Z") ∈ wG := wg_t 744 (by decide +kernel) (by decide +kernel)
theorem wd_745 : (Jvm.Cond.fieldLink "FrameVerifierModel" (20 : Nat) "FrameVerifierModel" "start" "[I") ∈ wG := wg_t 745 (by decide +kernel) (by decide +kernel)
theorem wd_746 : (Jvm.Cond.fieldLink "FrameVerifierModel" (23 : Nat) "FrameVerifierModel" "parameters" "[I") ∈ wG := wg_t 746 (by decide +kernel) (by decide +kernel)
theorem wd_747 : (Jvm.Cond.fieldLink "FrameVerifierModel" (26 : Nat) "FrameVerifierModel" "kinds" "[I") ∈ wG := wg_t 747 (by decide +kernel) (by decide +kernel)
theorem wd_748 : (Jvm.Cond.fieldLink "FrameVerifierModel" (66 : Nat) "FrameVerifierModel" "verified" "Z") ∈ wG := wg_t 748 (by decide +kernel) (by decide +kernel)
theorem wd_749 : (Jvm.Cond.fieldLink "FrameVerifierModel" (29 : Nat) "FrameVerifierModel" "height" "[I") ∈ wG := wg_t 749 (by decide +kernel) (by decide +kernel)
theorem wd_750 : (Jvm.Cond.fieldLink "FrameVerifierModel" (32 : Nat) "FrameVerifierModel" "types" "[I") ∈ wG := wg_t 750 (by decide +kernel) (by decide +kernel)
theorem wd_751 : (Jvm.Cond.fieldLink "FrameVerifierModel" (35 : Nat) "FrameVerifierModel" "waits" "[Z") ∈ wG := wg_t 751 (by decide +kernel) (by decide +kernel)
theorem wd_752 : (Jvm.Cond.fieldLink "FrameVerifierModel" (70 : Nat) "FrameVerifierModel" "high" "I") ∈ wG := wg_t 752 (by decide +kernel) (by decide +kernel)
theorem wd_753 : (Jvm.Cond.fieldLink "FrameVerifierModel" (38 : Nat) "FrameVerifierModel" "row" "[I") ∈ wG := wg_t 753 (by decide +kernel) (by decide +kernel)
theorem wd_754 : (Jvm.Cond.fieldLink "FrameVerifierModel" (73 : Nat) "FrameVerifierModel" "bad" "Z") ∈ wG := wg_t 754 (by decide +kernel) (by decide +kernel)
theorem wd_755 : (Jvm.Cond.fieldLink "FrameVerifierModel" (83 : Nat) "FrameVerifierModel" "goesBehind" "Z") ∈ wG := wg_t 755 (by decide +kernel) (by decide +kernel)
theorem wd_756 : (Jvm.Cond.fieldLink "FrameVerifierModel" (80 : Nat) "FrameVerifierModel" "goesTo" "I") ∈ wG := wg_t 756 (by decide +kernel) (by decide +kernel)
theorem wd_757 : (Jvm.Cond.fieldLink "FrameVerifierModel" (130 : Nat) "FrameVerifierModel" "frames" "I") ∈ wG := wg_t 757 (by decide +kernel) (by decide +kernel)
theorem wd_758 : (Jvm.Cond.fieldLink "FrameVerifierModel" (41 : Nat) "FrameVerifierModel" "routineOf" "[I") ∈ wG := wg_t 758 (by decide +kernel) (by decide +kernel)
theorem wd_759 : (Jvm.Cond.fieldLink "FrameVerifierModel" (44 : Nat) "FrameVerifierModel" "at" "[I") ∈ wG := wg_t 759 (by decide +kernel) (by decide +kernel)
theorem wd_760 : (Jvm.Cond.fieldLink "FrameVerifierModel" (47 : Nat) "FrameVerifierModel" "heightOf" "[I") ∈ wG := wg_t 760 (by decide +kernel) (by decide +kernel)
theorem wd_761 : (Jvm.Cond.fieldLink "FrameVerifierModel" (50 : Nat) "FrameVerifierModel" "value" "[I") ∈ wG := wg_t 761 (by decide +kernel) (by decide +kernel)
theorem wd_762 : (Jvm.Cond.fieldLink "FrameVerifierModel" (53 : Nat) "FrameVerifierModel" "kind" "[I") ∈ wG := wg_t 762 (by decide +kernel) (by decide +kernel)
theorem wd_763 : (Jvm.Cond.fieldLink "FrameVerifierModel" (133 : Nat) "FrameVerifierModel" "elements" "I") ∈ wG := wg_t 763 (by decide +kernel) (by decide +kernel)
theorem wd_764 : (Jvm.Cond.fieldLink "FrameVerifierModel" (56 : Nat) "FrameVerifierModel" "heap" "[I") ∈ wG := wg_t 764 (by decide +kernel) (by decide +kernel)
theorem wd_765 : (Jvm.Cond.fieldLink "FrameVerifierModel" (157 : Nat) "FrameVerifierModel" "result" "I") ∈ wG := wg_t 765 (by decide +kernel) (by decide +kernel)
theorem wd_766 : (Jvm.Cond.fieldLink "FrameVerifierModel" (175 : Nat) "FrameVerifierModel" "trap" "I") ∈ wG := wg_t 766 (by decide +kernel) (by decide +kernel)
theorem wd_767 : (Jvm.Cond.fieldLink "FrameVerifierModel" (59 : Nat) "FrameVerifierModel" "thrown" "I") ∈ wG := wg_t 767 (by decide +kernel) (by decide +kernel)
theorem k_Mo_76 {R : Room} {s : State} {args : Array Value} {Ts : List Cond} (hts : ∀ w ∈ Ts, w.before args s = true) (hsub : ∀ w ∈ wG, w ∈ Ts) (hR : rm_Mo_isAddress.frames + 1 ≤ R.frames ∧ 8 + (2 + 11) + rm_Mo_isAddress.locals ≤ R.locals) : CallW R s args "FrameVerifierModel" "FrameVerifierModel" 76 y_Mo_isAddress b_Mo_isAddress 2 (some .boolean) w_Mo_isAddress rm_Mo_isAddress 0 0 1 := ⟨cb_G hts hsub m_Mo_isAddress g_Mo_isAddress (wg_t 843 (by decide +kernel) (by decide +kernel) : Cond.methodLink "FrameVerifierModel" 76 y_Mo_isAddress ∈ wG) q_Mo_isAddress rfl rfl hR, hts _ (hsub _ s_Mo_isAddress), hts _ (hsub _ e_Mo_isAddress)⟩
theorem k_Mo_86 {R : Room} {s : State} {args : Array Value} {Ts : List Cond} (hts : ∀ w ∈ Ts, w.before args s = true) (hsub : ∀ w ∈ wG, w ∈ Ts) (hR : rm_Mo_take.frames + 1 ≤ R.frames ∧ 8 + (2 + 11) + rm_Mo_take.locals ≤ R.locals) : CallW R s args "FrameVerifierModel" "FrameVerifierModel" 86 y_Mo_take b_Mo_take 2 (some .int) w_Mo_take rm_Mo_take 0 0 1 := ⟨cb_G hts hsub m_Mo_take g_Mo_take (wg_t 863 (by decide +kernel) (by decide +kernel) : Cond.methodLink "FrameVerifierModel" 86 y_Mo_take ∈ wG) q_Mo_take rfl rfl hR, hts _ (hsub _ s_Mo_take), hts _ (hsub _ e_Mo_take)⟩
theorem k_Mo_90 {R : Room} {s : State} {args : Array Value} {Ts : List Cond} (hts : ∀ w ∈ Ts, w.before args s = true) (hsub : ∀ w ∈ wG, w ∈ Ts) (hR : rm_Mo_give.frames + 1 ≤ R.frames ∧ 8 + (2 + 11) + rm_Mo_give.locals ≤ R.locals) : CallW R s args "FrameVerifierModel" "FrameVerifierModel" 90 y_Mo_give b_Mo_give 2 none w_Mo_give rm_Mo_give 0 0 1 := ⟨cb_G hts hsub m_Mo_give g_Mo_give (wg_t 867 (by decide +kernel) (by decide +kernel) : Cond.methodLink "FrameVerifierModel" 90 y_Mo_give ∈ wG) q_Mo_give rfl rfl hR, hts _ (hsub _ s_Mo_give), hts _ (hsub _ e_Mo_give)⟩
theorem k_Mo_94 {R : Room} {s : State} {args : Array Value} {Ts : List Cond} (hts : ∀ w ∈ Ts, w.before args s = true) (hsub : ∀ w ∈ wG, w ∈ Ts) (hR : rm_Mo_tryLocal.frames + 1 ≤ R.frames ∧ 8 + (3 + 11) + rm_Mo_tryLocal.locals ≤ R.locals) : CallW R s args "FrameVerifierModel" "FrameVerifierModel" 94 y_Mo_tryLocal b_Mo_tryLocal 3 none w_Mo_tryLocal rm_Mo_tryLocal 0 0 2 := ⟨cb_G hts hsub m_Mo_tryLocal g_Mo_tryLocal (wg_t 871 (by decide +kernel) (by decide +kernel) : Cond.methodLink "FrameVerifierModel" 94 y_Mo_tryLocal ∈ wG) q_Mo_tryLocal rfl rfl hR, hts _ (hsub _ s_Mo_tryLocal), hts _ (hsub _ e_Mo_tryLocal)⟩
theorem k_Mo_98 {R : Room} {s : State} {args : Array Value} {Ts : List Cond} (hts : ∀ w ∈ Ts, w.before args s = true) (hsub : ∀ w ∈ wG, w ∈ Ts) (hR : rm_Mo_tryGo.frames + 1 ≤ R.frames ∧ 8 + (4 + 11) + rm_Mo_tryGo.locals ≤ R.locals) : CallW R s args "FrameVerifierModel" "FrameVerifierModel" 98 y_Mo_tryGo b_Mo_tryGo 4 none w_Mo_tryGo rm_Mo_tryGo 0 0 2 := ⟨cb_G hts hsub m_Mo_tryGo g_Mo_tryGo (wg_t 875 (by decide +kernel) (by decide +kernel) : Cond.methodLink "FrameVerifierModel" 98 y_Mo_tryGo ∈ wG) q_Mo_tryGo rfl rfl hR, hts _ (hsub _ s_Mo_tryGo), hts _ (hsub _ e_Mo_tryGo)⟩
theorem k_Mo_101 {R : Room} {s : State} {args : Array Value} {Ts : List Cond} (hts : ∀ w ∈ Ts, w.before args s = true) (hsub : ∀ w ∈ wG, w ∈ Ts) (hR : rm_Mo_tryArray.frames + 1 ≤ R.frames ∧ 8 + (5 + 11) + rm_Mo_tryArray.locals ≤ R.locals) : CallW R s args "FrameVerifierModel" "FrameVerifierModel" 101 y_Mo_tryArray b_Mo_tryArray 5 none w_Mo_tryArray rm_Mo_tryArray 0 0 1 := ⟨cb_G hts hsub m_Mo_tryArray g_Mo_tryArray (wg_t 883 (by decide +kernel) (by decide +kernel) : Cond.methodLink "FrameVerifierModel" 101 y_Mo_tryArray ∈ wG) q_Mo_tryArray rfl rfl hR, hts _ (hsub _ s_Mo_tryArray), hts _ (hsub _ e_Mo_tryArray)⟩
theorem k_Mo_104 {R : Room} {s : State} {args : Array Value} {Ts : List Cond} (hts : ∀ w ∈ Ts, w.before args s = true) (hsub : ∀ w ∈ wG, w ∈ Ts) (hR : rm_Mo_tryPlaces.frames + 1 ≤ R.frames ∧ 8 + (4 + 11) + rm_Mo_tryPlaces.locals ≤ R.locals) : CallW R s args "FrameVerifierModel" "FrameVerifierModel" 104 y_Mo_tryPlaces b_Mo_tryPlaces 4 none w_Mo_tryPlaces rm_Mo_tryPlaces 0 0 1 := ⟨cb_G hts hsub m_Mo_tryPlaces g_Mo_tryPlaces (wg_t 887 (by decide +kernel) (by decide +kernel) : Cond.methodLink "FrameVerifierModel" 104 y_Mo_tryPlaces ∈ wG) q_Mo_tryPlaces rfl rfl hR, hts _ (hsub _ s_Mo_tryPlaces), hts _ (hsub _ e_Mo_tryPlaces)⟩
theorem k_Mo_107 {R : Room} {s : State} {args : Array Value} {Ts : List Cond} (hts : ∀ w ∈ Ts, w.before args s = true) (hsub : ∀ w ∈ wG, w ∈ Ts) (hR : rm_Mo_tryCall.frames + 1 ≤ R.frames ∧ 8 + (4 + 11) + rm_Mo_tryCall.locals ≤ R.locals) : CallW R s args "FrameVerifierModel" "FrameVerifierModel" 107 y_Mo_tryCall b_Mo_tryCall 4 none w_Mo_tryCall rm_Mo_tryCall 0 0 1 := ⟨cb_G hts hsub m_Mo_tryCall g_Mo_tryCall (wg_t 891 (by decide +kernel) (by decide +kernel) : Cond.methodLink "FrameVerifierModel" 107 y_Mo_tryCall ∈ wG) q_Mo_tryCall rfl rfl hR, hts _ (hsub _ s_Mo_tryCall), hts _ (hsub _ e_Mo_tryCall)⟩
theorem k_Mo_110 {R : Room} {s : State} {args : Array Value} {Ts : List Cond} (hts : ∀ w ∈ Ts, w.before args s = true) (hsub : ∀ w ∈ wG, w ∈ Ts) (hR : rm_Mo_kindOf.frames + 1 ≤ R.frames ∧ 8 + (3 + 11) + rm_Mo_kindOf.locals ≤ R.locals) : CallW R s args "FrameVerifierModel" "FrameVerifierModel" 110 y_Mo_kindOf b_Mo_kindOf 3 (some .int) w_Mo_kindOf rm_Mo_kindOf 0 0 2 := ⟨cb_G hts hsub m_Mo_kindOf g_Mo_kindOf (wg_t 847 (by decide +kernel) (by decide +kernel) : Cond.methodLink "FrameVerifierModel" 110 y_Mo_kindOf ∈ wG) q_Mo_kindOf rfl rfl hR, hts _ (hsub _ s_Mo_kindOf), hts _ (hsub _ e_Mo_kindOf)⟩
theorem k_Mo_114 {R : Room} {s : State} {args : Array Value} {Ts : List Cond} (hts : ∀ w ∈ Ts, w.before args s = true) (hsub : ∀ w ∈ wG, w ∈ Ts) (hR : rm_Mo_goTo.frames + 1 ≤ R.frames ∧ 8 + (2 + 11) + rm_Mo_goTo.locals ≤ R.locals) : CallW R s args "FrameVerifierModel" "FrameVerifierModel" 114 y_Mo_goTo b_Mo_goTo 2 none w_Mo_goTo rm_Mo_goTo 0 0 1 := ⟨cb_G hts hsub m_Mo_goTo g_Mo_goTo (wg_t 879 (by decide +kernel) (by decide +kernel) : Cond.methodLink "FrameVerifierModel" 114 y_Mo_goTo ∈ wG) q_Mo_goTo rfl rfl hR, hts _ (hsub _ s_Mo_goTo), hts _ (hsub _ e_Mo_goTo)⟩
theorem k_Mo_117 {R : Room} {s : State} {args : Array Value} {Ts : List Cond} (hts : ∀ w ∈ Ts, w.before args s = true) (hsub : ∀ w ∈ wG, w ∈ Ts) (hR : rm_Mo_tryOut.frames + 1 ≤ R.frames ∧ 8 + (7 + 11) + rm_Mo_tryOut.locals ≤ R.locals) : CallW R s args "FrameVerifierModel" "FrameVerifierModel" 117 y_Mo_tryOut b_Mo_tryOut 7 none w_Mo_tryOut rm_Mo_tryOut 0 0 2 := ⟨cb_G hts hsub m_Mo_tryOut g_Mo_tryOut (wg_t 859 (by decide +kernel) (by decide +kernel) : Cond.methodLink "FrameVerifierModel" 117 y_Mo_tryOut ∈ wG) q_Mo_tryOut rfl rfl hR, hts _ (hsub _ s_Mo_tryOut), hts _ (hsub _ e_Mo_tryOut)⟩
theorem k_Mo_120 {R : Room} {s : State} {args : Array Value} {Ts : List Cond} (hts : ∀ w ∈ Ts, w.before args s = true) (hsub : ∀ w ∈ wG, w ∈ Ts) (hR : rm_Mo_meet.frames + 1 ≤ R.frames ∧ 8 + (9 + 11) + rm_Mo_meet.locals ≤ R.locals) : CallW R s args "FrameVerifierModel" "FrameVerifierModel" 120 y_Mo_meet b_Mo_meet 9 none w_Mo_meet rm_Mo_meet 0 0 2 := ⟨cb_G hts hsub m_Mo_meet g_Mo_meet (wg_t 851 (by decide +kernel) (by decide +kernel) : Cond.methodLink "FrameVerifierModel" 120 y_Mo_meet ∈ wG) q_Mo_meet rfl rfl hR, hts _ (hsub _ s_Mo_meet), hts _ (hsub _ e_Mo_meet)⟩
theorem k_Mo_123 {R : Room} {s : State} {args : Array Value} {Ts : List Cond} (hts : ∀ w ∈ Ts, w.before args s = true) (hsub : ∀ w ∈ wG, w ∈ Ts) (hR : rm_Mo_fits.frames + 1 ≤ R.frames ∧ 8 + (5 + 11) + rm_Mo_fits.locals ≤ R.locals) : CallW R s args "FrameVerifierModel" "FrameVerifierModel" 123 y_Mo_fits b_Mo_fits 5 (some .boolean) w_Mo_fits rm_Mo_fits 0 0 2 := ⟨cb_G hts hsub m_Mo_fits g_Mo_fits (wg_t 855 (by decide +kernel) (by decide +kernel) : Cond.methodLink "FrameVerifierModel" 123 y_Mo_fits ∈ wG) q_Mo_fits rfl rfl hR, hts _ (hsub _ s_Mo_fits), hts _ (hsub _ e_Mo_fits)⟩
theorem k_Mo_127 {R : Room} {s : State} {args : Array Value} {Ts : List Cond} (hts : ∀ w ∈ Ts, w.before args s = true) (hsub : ∀ w ∈ wG, w ∈ Ts) (hR : rm_Mo_work.frames + 1 ≤ R.frames ∧ 8 + (4 + 11) + rm_Mo_work.locals ≤ R.locals) : CallW R s args "FrameVerifierModel" "FrameVerifierModel" 127 y_Mo_work b_Mo_work 4 (some .int) w_Mo_work rm_Mo_work 0 0 1 := ⟨cb_G hts hsub m_Mo_work g_Mo_work (wg_t 839 (by decide +kernel) (by decide +kernel) : Cond.methodLink "FrameVerifierModel" 127 y_Mo_work ∈ wG) q_Mo_work rfl rfl hR, hts _ (hsub _ s_Mo_work), hts _ (hsub _ e_Mo_work)⟩
theorem k_Mo_136 {R : Room} {s : State} {args : Array Value} {Ts : List Cond} (hts : ∀ w ∈ Ts, w.before args s = true) (hsub : ∀ w ∈ wG, w ∈ Ts) (hR : rm_Mo_enter.frames + 1 ≤ R.frames ∧ 8 + (3 + 11) + rm_Mo_enter.locals ≤ R.locals) : CallW R s args "FrameVerifierModel" "FrameVerifierModel" 136 y_Mo_enter b_Mo_enter 3 none w_Mo_enter rm_Mo_enter 0 0 1 := ⟨cb_G hts hsub m_Mo_enter g_Mo_enter (wg_t 907 (by decide +kernel) (by decide +kernel) : Cond.methodLink "FrameVerifierModel" 136 y_Mo_enter ∈ wG) q_Mo_enter rfl rfl hR, hts _ (hsub _ s_Mo_enter), hts _ (hsub _ e_Mo_enter)⟩
theorem k_Mo_139 {R : Room} {s : State} {args : Array Value} {Ts : List Cond} (hts : ∀ w ∈ Ts, w.before args s = true) (hsub : ∀ w ∈ wG, w ∈ Ts) (hR : rm_Mo_below.frames + 1 ≤ R.frames ∧ 8 + (2 + 11) + rm_Mo_below.locals ≤ R.locals) : CallW R s args "FrameVerifierModel" "FrameVerifierModel" 139 y_Mo_below b_Mo_below 2 (some .int) w_Mo_below rm_Mo_below 0 0 1 := ⟨cb_G hts hsub m_Mo_below g_Mo_below (wg_t 927 (by decide +kernel) (by decide +kernel) : Cond.methodLink "FrameVerifierModel" 139 y_Mo_below ∈ wG) q_Mo_below rfl rfl hR, hts _ (hsub _ s_Mo_below), hts _ (hsub _ e_Mo_below)⟩
theorem k_Mo_142 {R : Room} {s : State} {args : Array Value} {Ts : List Cond} (hts : ∀ w ∈ Ts, w.before args s = true) (hsub : ∀ w ∈ wG, w ∈ Ts) (hR : rm_Mo_trapAt.frames + 1 ≤ R.frames ∧ 8 + (2 + 11) + rm_Mo_trapAt.locals ≤ R.locals) : CallB R s args "FrameVerifierModel" 142 y_Mo_trapAt b_Mo_trapAt 2 (some .int) w_Mo_trapAt rm_Mo_trapAt 0 0 2 ∧ (Cond.static y_Mo_trapAt).before args s = true := ⟨cb_G hts hsub m_Mo_trapAt g_Mo_trapAt (wg_t 931 (by decide +kernel) (by decide +kernel) : Cond.methodLink "FrameVerifierModel" 142 y_Mo_trapAt ∈ wG) q_Mo_trapAt rfl rfl hR, hts _ (hsub _ s_Mo_trapAt)⟩
theorem k_Mo_145 {R : Room} {s : State} {args : Array Value} {Ts : List Cond} (hts : ∀ w ∈ Ts, w.before args s = true) (hsub : ∀ w ∈ wG, w ∈ Ts) (hR : rm_Mo_lengthOf.frames + 1 ≤ R.frames ∧ 8 + (1 + 11) + rm_Mo_lengthOf.locals ≤ R.locals) : CallB R s args "FrameVerifierModel" 145 y_Mo_lengthOf b_Mo_lengthOf 1 (some .int) w_Mo_lengthOf rm_Mo_lengthOf 0 0 1 ∧ (Cond.static y_Mo_lengthOf).before args s = true := ⟨cb_G hts hsub m_Mo_lengthOf g_Mo_lengthOf (wg_t 934 (by decide +kernel) (by decide +kernel) : Cond.methodLink "FrameVerifierModel" 145 y_Mo_lengthOf ∈ wG) q_Mo_lengthOf rfl rfl hR, hts _ (hsub _ s_Mo_lengthOf)⟩
theorem k_Mo_148 {R : Room} {s : State} {args : Array Value} {Ts : List Cond} (hts : ∀ w ∈ Ts, w.before args s = true) (hsub : ∀ w ∈ wG, w ∈ Ts) (hR : rm_Mo_drop.frames + 1 ≤ R.frames ∧ 8 + (2 + 11) + rm_Mo_drop.locals ≤ R.locals) : CallW R s args "FrameVerifierModel" "FrameVerifierModel" 148 y_Mo_drop b_Mo_drop 2 none w_Mo_drop rm_Mo_drop 0 0 1 := ⟨cb_G hts hsub m_Mo_drop g_Mo_drop (wg_t 949 (by decide +kernel) (by decide +kernel) : Cond.methodLink "FrameVerifierModel" 148 y_Mo_drop ∈ wG) q_Mo_drop rfl rfl hR, hts _ (hsub _ s_Mo_drop), hts _ (hsub _ e_Mo_drop)⟩
theorem k_Mo_151 {R : Room} {s : State} {args : Array Value} {Ts : List Cond} (hts : ∀ w ∈ Ts, w.before args s = true) (hsub : ∀ w ∈ wG, w ∈ Ts) (hR : rm_Mo_put.frames + 1 ≤ R.frames ∧ 8 + (4 + 11) + rm_Mo_put.locals ≤ R.locals) : CallW R s args "FrameVerifierModel" "FrameVerifierModel" 151 y_Mo_put b_Mo_put 4 none w_Mo_put rm_Mo_put 0 0 2 := ⟨cb_G hts hsub m_Mo_put g_Mo_put (wg_t 941 (by decide +kernel) (by decide +kernel) : Cond.methodLink "FrameVerifierModel" 151 y_Mo_put ∈ wG) q_Mo_put rfl rfl hR, hts _ (hsub _ s_Mo_put), hts _ (hsub _ e_Mo_put)⟩
theorem k_Mo_154 {R : Room} {s : State} {args : Array Value} {Ts : List Cond} (hts : ∀ w ∈ Ts, w.before args s = true) (hsub : ∀ w ∈ wG, w ∈ Ts) (hR : rm_Mo_seen.frames + 1 ≤ R.frames ∧ 8 + (2 + 11) + rm_Mo_seen.locals ≤ R.locals) : CallB R s args "FrameVerifierModel" 154 y_Mo_seen b_Mo_seen 2 (some .int) w_Mo_seen rm_Mo_seen 0 0 2 ∧ (Cond.static y_Mo_seen).before args s = true := ⟨cb_G hts hsub m_Mo_seen g_Mo_seen (wg_t 965 (by decide +kernel) (by decide +kernel) : Cond.methodLink "FrameVerifierModel" 154 y_Mo_seen ∈ wG) q_Mo_seen rfl rfl hR, hts _ (hsub _ s_Mo_seen)⟩
theorem k_Mo_160 {R : Room} {s : State} {args : Array Value} {Ts : List Cond} (hts : ∀ w ∈ Ts, w.before args s = true) (hsub : ∀ w ∈ wG, w ∈ Ts) (hR : rm_Mo_calculate.frames + 1 ≤ R.frames ∧ 8 + (4 + 11) + rm_Mo_calculate.locals ≤ R.locals) : CallW R s args "FrameVerifierModel" "FrameVerifierModel" 160 y_Mo_calculate b_Mo_calculate 4 none w_Mo_calculate rm_Mo_calculate 0 0 1 := ⟨cb_G hts hsub m_Mo_calculate g_Mo_calculate (wg_t 945 (by decide +kernel) (by decide +kernel) : Cond.methodLink "FrameVerifierModel" 160 y_Mo_calculate ∈ wG) q_Mo_calculate rfl rfl hR, hts _ (hsub _ s_Mo_calculate), hts _ (hsub _ e_Mo_calculate)⟩
theorem k_Mo_163 {R : Room} {s : State} {args : Array Value} {Ts : List Cond} (hts : ∀ w ∈ Ts, w.before args s = true) (hsub : ∀ w ∈ wG, w ∈ Ts) (hR : rm_Mo_onArrays.frames + 1 ≤ R.frames ∧ 8 + (4 + 11) + rm_Mo_onArrays.locals ≤ R.locals) : CallW R s args "FrameVerifierModel" "FrameVerifierModel" 163 y_Mo_onArrays b_Mo_onArrays 4 none w_Mo_onArrays rm_Mo_onArrays 0 0 1 := ⟨cb_G hts hsub m_Mo_onArrays g_Mo_onArrays (wg_t 953 (by decide +kernel) (by decide +kernel) : Cond.methodLink "FrameVerifierModel" 163 y_Mo_onArrays ∈ wG) q_Mo_onArrays rfl rfl hR, hts _ (hsub _ s_Mo_onArrays), hts _ (hsub _ e_Mo_onArrays)⟩
theorem k_Mo_166 {R : Room} {s : State} {args : Array Value} {Ts : List Cond} (hts : ∀ w ∈ Ts, w.before args s = true) (hsub : ∀ w ∈ wG, w ∈ Ts) (hR : rm_Mo_call.frames + 1 ≤ R.frames ∧ 8 + (5 + 11) + rm_Mo_call.locals ≤ R.locals) : CallW R s args "FrameVerifierModel" "FrameVerifierModel" 166 y_Mo_call b_Mo_call 5 none w_Mo_call rm_Mo_call 0 0 1 := ⟨cb_G hts hsub m_Mo_call g_Mo_call (wg_t 957 (by decide +kernel) (by decide +kernel) : Cond.methodLink "FrameVerifierModel" 166 y_Mo_call ∈ wG) q_Mo_call rfl rfl hR, hts _ (hsub _ s_Mo_call), hts _ (hsub _ e_Mo_call)⟩
theorem k_Mo_169 {R : Room} {s : State} {args : Array Value} {Ts : List Cond} (hts : ∀ w ∈ Ts, w.before args s = true) (hsub : ∀ w ∈ wG, w ∈ Ts) (hR : rm_Mo_giveBack.frames + 1 ≤ R.frames ∧ 8 + (4 + 11) + rm_Mo_giveBack.locals ≤ R.locals) : CallW R s args "FrameVerifierModel" "FrameVerifierModel" 169 y_Mo_giveBack b_Mo_giveBack 4 none w_Mo_giveBack rm_Mo_giveBack 0 0 0 := ⟨cb_G hts hsub m_Mo_giveBack g_Mo_giveBack (wg_t 961 (by decide +kernel) (by decide +kernel) : Cond.methodLink "FrameVerifierModel" 169 y_Mo_giveBack ∈ wG) q_Mo_giveBack rfl rfl hR, hts _ (hsub _ s_Mo_giveBack), hts _ (hsub _ e_Mo_giveBack)⟩
theorem k_Mo_172 {R : Room} {s : State} {args : Array Value} {Ts : List Cond} (hts : ∀ w ∈ Ts, w.before args s = true) (hsub : ∀ w ∈ wG, w ∈ Ts) (hR : rm_Mo_onPlaces.frames + 1 ≤ R.frames ∧ 8 + (7 + 11) + rm_Mo_onPlaces.locals ≤ R.locals) : CallW R s args "FrameVerifierModel" "FrameVerifierModel" 172 y_Mo_onPlaces b_Mo_onPlaces 7 none w_Mo_onPlaces rm_Mo_onPlaces 0 0 2 := ⟨cb_G hts hsub m_Mo_onPlaces g_Mo_onPlaces (wg_t 968 (by decide +kernel) (by decide +kernel) : Cond.methodLink "FrameVerifierModel" 172 y_Mo_onPlaces ∈ wG) q_Mo_onPlaces rfl rfl hR, hts _ (hsub _ s_Mo_onPlaces), hts _ (hsub _ e_Mo_onPlaces)⟩
theorem k_Mo_178 {R : Room} {s : State} {args : Array Value} {Ts : List Cond} (hts : ∀ w ∈ Ts, w.before args s = true) (hsub : ∀ w ∈ wG, w ∈ Ts) (hR : rm_Mo_fitsValues.frames + 1 ≤ R.frames ∧ 8 + (4 + 11) + rm_Mo_fitsValues.locals ≤ R.locals) : CallW R s args "FrameVerifierModel" "FrameVerifierModel" 178 y_Mo_fitsValues b_Mo_fitsValues 4 (some .boolean) w_Mo_fitsValues rm_Mo_fitsValues 0 0 1 := ⟨cb_G hts hsub m_Mo_fitsValues g_Mo_fitsValues (wg_t 919 (by decide +kernel) (by decide +kernel) : Cond.methodLink "FrameVerifierModel" 178 y_Mo_fitsValues ∈ wG) q_Mo_fitsValues rfl rfl hR, hts _ (hsub _ s_Mo_fitsValues), hts _ (hsub _ e_Mo_fitsValues)⟩
theorem k_Mo_181 {R : Room} {s : State} {args : Array Value} {Ts : List Cond} (hts : ∀ w ∈ Ts, w.before args s = true) (hsub : ∀ w ∈ wG, w ∈ Ts) (hR : rm_Mo_trapOf.frames + 1 ≤ R.frames ∧ 8 + (3 + 11) + rm_Mo_trapOf.locals ≤ R.locals) : CallW R s args "FrameVerifierModel" "FrameVerifierModel" 181 y_Mo_trapOf b_Mo_trapOf 3 (some .int) w_Mo_trapOf rm_Mo_trapOf 0 0 2 := ⟨cb_G hts hsub m_Mo_trapOf g_Mo_trapOf (wg_t 923 (by decide +kernel) (by decide +kernel) : Cond.methodLink "FrameVerifierModel" 181 y_Mo_trapOf ∈ wG) q_Mo_trapOf rfl rfl hR, hts _ (hsub _ s_Mo_trapOf), hts _ (hsub _ e_Mo_trapOf)⟩
theorem k_Mo_184 {R : Room} {s : State} {args : Array Value} {Ts : List Cond} (hts : ∀ w ∈ Ts, w.before args s = true) (hsub : ∀ w ∈ wG, w ∈ Ts) (hR : rm_Mo_perform.frames + 1 ≤ R.frames ∧ 8 + (5 + 11) + rm_Mo_perform.locals ≤ R.locals) : CallW R s args "FrameVerifierModel" "FrameVerifierModel" 184 y_Mo_perform b_Mo_perform 5 none w_Mo_perform rm_Mo_perform 0 0 1 := ⟨cb_G hts hsub m_Mo_perform g_Mo_perform (wg_t 937 (by decide +kernel) (by decide +kernel) : Cond.methodLink "FrameVerifierModel" 184 y_Mo_perform ∈ wG) q_Mo_perform rfl rfl hR, hts _ (hsub _ s_Mo_perform), hts _ (hsub _ e_Mo_perform)⟩
theorem k_Mo_187 {R : Room} {s : State} {args : Array Value} {Ts : List Cond} (hts : ∀ w ∈ Ts, w.before args s = true) (hsub : ∀ w ∈ wG, w ∈ Ts) (hR : rm_Mo_stepOnce.frames + 1 ≤ R.frames ∧ 8 + (2 + 11) + rm_Mo_stepOnce.locals ≤ R.locals) : CallW R s args "FrameVerifierModel" "FrameVerifierModel" 187 y_Mo_stepOnce b_Mo_stepOnce 2 (some .boolean) w_Mo_stepOnce rm_Mo_stepOnce 0 0 0 := ⟨cb_G hts hsub m_Mo_stepOnce g_Mo_stepOnce (wg_t 915 (by decide +kernel) (by decide +kernel) : Cond.methodLink "FrameVerifierModel" 187 y_Mo_stepOnce ∈ wG) q_Mo_stepOnce rfl rfl hR, hts _ (hsub _ s_Mo_stepOnce), hts _ (hsub _ e_Mo_stepOnce)⟩

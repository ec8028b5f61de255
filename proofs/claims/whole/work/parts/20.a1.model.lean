/-! names of 20.model -/
theorem d_Mo_work_124 : decode b_Mo_work 124 = .ok (.getfield 63, 3) := by decide +kernel
theorem d_Mo_work_127 : decode b_Mo_work 127 = .ok (.if_icmp .ge (86), 3) := by decide +kernel
theorem d_Mo_work_130 : decode b_Mo_work 130 = .ok (.aload_n 0, 1) := by decide +kernel
theorem d_Mo_work_131 : decode b_Mo_work 131 = .ok (.getfield 35, 3) := by decide +kernel
theorem d_Mo_work_134 : decode b_Mo_work 134 = .ok (.bipush (100), 2) := by decide +kernel
theorem d_Mo_work_136 : decode b_Mo_work 136 = .ok (.iload_n 1, 1) := by decide +kernel
theorem d_Mo_work_137 : decode b_Mo_work 137 = .ok (.imul, 1) := by decide +kernel
theorem d_Mo_work_138 : decode b_Mo_work 138 = .ok (.iload_n 2, 1) := by decide +kernel
theorem d_Mo_work_139 : decode b_Mo_work 139 = .ok (.iadd, 1) := by decide +kernel
theorem d_Mo_work_140 : decode b_Mo_work 140 = .ok (.baload, 1) := by decide +kernel
theorem d_Mo_work_141 : decode b_Mo_work 141 = .ok (.ifCond .eq (66), 3) := by decide +kernel
theorem d_Mo_work_144 : decode b_Mo_work 144 = .ok (.aload_n 0, 1) := by decide +kernel
theorem d_Mo_work_145 : decode b_Mo_work 145 = .ok (.getfield 35, 3) := by decide +kernel
theorem d_Mo_work_148 : decode b_Mo_work 148 = .ok (.bipush (100), 2) := by decide +kernel
theorem d_Mo_work_150 : decode b_Mo_work 150 = .ok (.iload_n 1, 1) := by decide +kernel
theorem d_Mo_work_151 : decode b_Mo_work 151 = .ok (.imul, 1) := by decide +kernel
theorem d_Mo_work_152 : decode b_Mo_work 152 = .ok (.iload_n 2, 1) := by decide +kernel
theorem d_Mo_work_153 : decode b_Mo_work 153 = .ok (.iadd, 1) := by decide +kernel
theorem d_Mo_work_154 : decode b_Mo_work 154 = .ok (.iconst 0, 1) := by decide +kernel
theorem d_Mo_work_155 : decode b_Mo_work 155 = .ok (.bastore, 1) := by decide +kernel
theorem d_Mo_work_156 : decode b_Mo_work 156 = .ok (.aload_n 0, 1) := by decide +kernel
theorem d_Mo_work_157 : decode b_Mo_work 157 = .ok (.iload_n 1, 1) := by decide +kernel
theorem d_Mo_work_158 : decode b_Mo_work 158 = .ok (.iload_n 2, 1) := by decide +kernel
theorem d_Mo_work_159 : decode b_Mo_work 159 = .ok (.invokevirtual 123, 3) := by decide +kernel
theorem d_Mo_work_162 : decode b_Mo_work 162 = .ok (.istore_n 3, 1) := by decide +kernel
theorem d_Mo_work_163 : decode b_Mo_work 163 = .ok (.iload_n 3, 1) := by decide +kernel
theorem d_Mo_work_164 : decode b_Mo_work 164 = .ok (.ifCond .eq (18), 3) := by decide +kernel
theorem d_Mo_work_167 : decode b_Mo_work 167 = .ok (.aload_n 0, 1) := by decide +kernel
theorem d_Mo_work_168 : decode b_Mo_work 168 = .ok (.getfield 83, 3) := by decide +kernel
theorem d_Mo_work_171 : decode b_Mo_work 171 = .ok (.ifCond .eq (11), 3) := by decide +kernel
theorem d_Mo_work_174 : decode b_Mo_work 174 = .ok (.aload_n 0, 1) := by decide +kernel
theorem d_Mo_work_175 : decode b_Mo_work 175 = .ok (.iload_n 1, 1) := by decide +kernel
theorem d_Mo_work_176 : decode b_Mo_work 176 = .ok (.iload_n 2, 1) := by decide +kernel
theorem d_Mo_work_177 : decode b_Mo_work 177 = .ok (.iconst 1, 1) := by decide +kernel
theorem d_Mo_work_178 : decode b_Mo_work 178 = .ok (.iadd, 1) := by decide +kernel
theorem d_Mo_work_179 : decode b_Mo_work 179 = .ok (.invokevirtual 120, 3) := by decide +kernel
theorem d_Mo_work_182 : decode b_Mo_work 182 = .ok (.iload_n 3, 1) := by decide +kernel
theorem d_Mo_work_183 : decode b_Mo_work 183 = .ok (.ifCond .eq (19), 3) := by decide +kernel
theorem d_Mo_work_186 : decode b_Mo_work 186 = .ok (.aload_n 0, 1) := by decide +kernel
theorem d_Mo_work_187 : decode b_Mo_work 187 = .ok (.getfield 80, 3) := by decide +kernel
theorem d_Mo_work_190 : decode b_Mo_work 190 = .ok (.ifCond .lt (12), 3) := by decide +kernel
theorem d_Mo_work_193 : decode b_Mo_work 193 = .ok (.aload_n 0, 1) := by decide +kernel
theorem d_Mo_work_194 : decode b_Mo_work 194 = .ok (.iload_n 1, 1) := by decide +kernel
theorem d_Mo_work_195 : decode b_Mo_work 195 = .ok (.aload_n 0, 1) := by decide +kernel
theorem d_Mo_work_196 : decode b_Mo_work 196 = .ok (.getfield 80, 3) := by decide +kernel
theorem d_Mo_work_199 : decode b_Mo_work 199 = .ok (.invokevirtual 120, 3) := by decide +kernel
theorem d_Mo_work_202 : decode b_Mo_work 202 = .ok (.iconst 0, 1) := by decide +kernel
theorem d_Mo_work_203 : decode b_Mo_work 203 = .ok (.istore_n 2, 1) := by decide +kernel
theorem d_Mo_work_204 : decode b_Mo_work 204 = .ok (.goto (-82), 3) := by decide +kernel
theorem d_Mo_work_207 : decode b_Mo_work 207 = .ok (.iinc 2 (1), 3) := by decide +kernel
theorem d_Mo_work_210 : decode b_Mo_work 210 = .ok (.goto (-88), 3) := by decide +kernel
theorem d_Mo_work_213 : decode b_Mo_work 213 = .ok (.iconst 0, 1) := by decide +kernel
theorem d_Mo_work_214 : decode b_Mo_work 214 = .ok (.istore_n 3, 1) := by decide +kernel
theorem d_Mo_work_215 : decode b_Mo_work 215 = .ok (.iload_n 3, 1) := by decide +kernel
theorem d_Mo_work_216 : decode b_Mo_work 216 = .ok (.aload_n 0, 1) := by decide +kernel
theorem d_Mo_work_217 : decode b_Mo_work 217 = .ok (.getfield 63, 3) := by decide +kernel
theorem d_Mo_work_220 : decode b_Mo_work 220 = .ok (.if_icmp .ge (35), 3) := by decide +kernel
theorem d_Mo_work_223 : decode b_Mo_work 223 = .ok (.aload_n 0, 1) := by decide +kernel
theorem d_Mo_work_224 : decode b_Mo_work 224 = .ok (.getfield 29, 3) := by decide +kernel
theorem d_Mo_work_227 : decode b_Mo_work 227 = .ok (.bipush (100), 2) := by decide +kernel
theorem d_Mo_work_229 : decode b_Mo_work 229 = .ok (.iload_n 1, 1) := by decide +kernel
theorem d_Mo_work_230 : decode b_Mo_work 230 = .ok (.imul, 1) := by decide +kernel
theorem d_Mo_work_231 : decode b_Mo_work 231 = .ok (.iload_n 3, 1) := by decide +kernel
theorem d_Mo_work_232 : decode b_Mo_work 232 = .ok (.iadd, 1) := by decide +kernel
theorem d_Mo_work_233 : decode b_Mo_work 233 = .ok (.iaload, 1) := by decide +kernel
theorem d_Mo_work_234 : decode b_Mo_work 234 = .ok (.iconst (-1), 1) := by decide +kernel
theorem d_Mo_work_235 : decode b_Mo_work 235 = .ok (.if_icmp .eq (14), 3) := by decide +kernel
theorem d_Mo_work_238 : decode b_Mo_work 238 = .ok (.aload_n 0, 1) := by decide +kernel
theorem d_Mo_work_239 : decode b_Mo_work 239 = .ok (.iload_n 1, 1) := by decide +kernel
theorem d_Mo_work_240 : decode b_Mo_work 240 = .ok (.iload_n 3, 1) := by decide +kernel
theorem d_Mo_work_241 : decode b_Mo_work 241 = .ok (.invokevirtual 123, 3) := by decide +kernel
theorem d_Mo_work_244 : decode b_Mo_work 244 = .ok (.ifCond .ne (5), 3) := by decide +kernel
theorem d_Mo_work_247 : decode b_Mo_work 247 = .ok (.iload_n 3, 1) := by decide +kernel
theorem d_Mo_work_248 : decode b_Mo_work 248 = .ok (.ireturn, 1) := by decide +kernel
theorem d_Mo_work_249 : decode b_Mo_work 249 = .ok (.iinc 3 (1), 3) := by decide +kernel
theorem d_Mo_work_252 : decode b_Mo_work 252 = .ok (.goto (-37), 3) := by decide +kernel
theorem d_Mo_work_255 : decode b_Mo_work 255 = .ok (.iconst (-1), 1) := by decide +kernel
theorem d_Mo_work_256 : decode b_Mo_work 256 = .ok (.ireturn, 1) := by decide +kernel
def y_Mo_verify : MethodName := ⟨"FrameVerifierModel", "verify", "()I"⟩
abbrev b_Mo_verify : ByteArray := prog_11_method_19_code
def rm_Mo_verify : Room := { frames := 6, cells := 0, slots := 0, locals := 138 }
abbrev w_Mo_verify : List Cond := Cond.code y_Mo_verify b_Mo_verify 4 (some .int) :: wG
theorem m_Mo_verify : Cond.code y_Mo_verify b_Mo_verify 4 (some .int) ∈ wG := wg_t 838 (by decide +kernel) (by decide +kernel)
theorem q_Mo_verify : y_Mo_verify.cls ≠ "java/lang/invoke/MethodHandle" ∧ y_Mo_verify.cls ≠ "java/lang/invoke/VarHandle" ∧ (parseMethodDescriptor y_Mo_verify.desc).map (fun d => d.parameters.length) = some 0 := by decide +kernel
theorem g_Mo_verify : Cond.initialized y_Mo_verify.cls ∈ wG := wg_t 6 (by decide +kernel) (by decide +kernel)
theorem s_Mo_verify : Cond.instanceMethod y_Mo_verify ∈ wG := wg_t 836 (by decide +kernel) (by decide +kernel)
theorem e_Mo_verify : Cond.selects "FrameVerifierModel" y_Mo_verify y_Mo_verify ∈ wG := wg_t 837 (by decide +kernel) (by decide +kernel)
theorem d_Mo_verify_0 : decode b_Mo_verify 0 = .ok (.aload_n 0, 1) := by decide +kernel
theorem d_Mo_verify_1 : decode b_Mo_verify 1 = .ok (.iconst 0, 1) := by decide +kernel
theorem d_Mo_verify_2 : decode b_Mo_verify 2 = .ok (.putfield 59, 3) := by decide +kernel
theorem d_Mo_verify_5 : decode b_Mo_verify 5 = .ok (.aload_n 0, 1) := by decide +kernel
theorem d_Mo_verify_6 : decode b_Mo_verify 6 = .ok (.getfield 16, 3) := by decide +kernel
theorem d_Mo_verify_9 : decode b_Mo_verify 9 = .ok (.iconst 0, 1) := by decide +kernel
theorem d_Mo_verify_10 : decode b_Mo_verify 10 = .ok (.baload, 1) := by decide +kernel
theorem d_Mo_verify_11 : decode b_Mo_verify 11 = .ok (.ifCond .eq (7), 3) := by decide +kernel
theorem d_Mo_verify_14 : decode b_Mo_verify 14 = .ok (.iconst 0, 1) := by decide +kernel
theorem d_Mo_verify_15 : decode b_Mo_verify 15 = .ok (.goto (6), 3) := by decide +kernel
theorem d_Mo_verify_18 : decode b_Mo_verify 18 = .ok (.sipush (1999), 3) := by decide +kernel
theorem d_Mo_verify_21 : decode b_Mo_verify 21 = .ok (.istore_n 1, 1) := by decide +kernel
theorem d_Mo_verify_22 : decode b_Mo_verify 22 = .ok (.iconst 0, 1) := by decide +kernel
theorem d_Mo_verify_23 : decode b_Mo_verify 23 = .ok (.istore_n 2, 1) := by decide +kernel
theorem d_Mo_verify_24 : decode b_Mo_verify 24 = .ok (.iload_n 2, 1) := by decide +kernel
theorem d_Mo_verify_25 : decode b_Mo_verify 25 = .ok (.iconst 4, 1) := by decide +kernel
theorem d_Mo_verify_26 : decode b_Mo_verify 26 = .ok (.if_icmp .ge (37), 3) := by decide +kernel
theorem d_Mo_verify_29 : decode b_Mo_verify 29 = .ok (.aload_n 0, 1) := by decide +kernel
theorem d_Mo_verify_30 : decode b_Mo_verify 30 = .ok (.iload_n 2, 1) := by decide +kernel
theorem d_Mo_verify_31 : decode b_Mo_verify 31 = .ok (.invokevirtual 127, 3) := by decide +kernel
theorem d_Mo_verify_34 : decode b_Mo_verify 34 = .ok (.istore_n 3, 1) := by decide +kernel
theorem d_Mo_verify_35 : decode b_Mo_verify 35 = .ok (.iload_n 3, 1) := by decide +kernel
theorem d_Mo_verify_36 : decode b_Mo_verify 36 = .ok (.ifCond .lt (19), 3) := by decide +kernel
theorem d_Mo_verify_39 : decode b_Mo_verify 39 = .ok (.iload_n 1, 1) := by decide +kernel
theorem d_Mo_verify_40 : decode b_Mo_verify 40 = .ok (.ifCond .ne (15), 3) := by decide +kernel
theorem d_Mo_verify_43 : decode b_Mo_verify 43 = .ok (.sipush (1000), 3) := by decide +kernel
theorem d_Mo_verify_46 : decode b_Mo_verify 46 = .ok (.iconst 1, 1) := by decide +kernel
theorem d_Mo_verify_47 : decode b_Mo_verify 47 = .ok (.iload_n 2, 1) := by decide +kernel
theorem d_Mo_verify_48 : decode b_Mo_verify 48 = .ok (.iadd, 1) := by decide +kernel
theorem d_Mo_verify_49 : decode b_Mo_verify 49 = .ok (.imul, 1) := by decide +kernel
theorem d_Mo_verify_50 : decode b_Mo_verify 50 = .ok (.iload_n 3, 1) := by decide +kernel
theorem d_Mo_verify_51 : decode b_Mo_verify 51 = .ok (.iadd, 1) := by decide +kernel
theorem d_Mo_verify_52 : decode b_Mo_verify 52 = .ok (.goto (4), 3) := by decide +kernel
theorem d_Mo_verify_55 : decode b_Mo_verify 55 = .ok (.iload_n 1, 1) := by decide +kernel
theorem d_Mo_verify_56 : decode b_Mo_verify 56 = .ok (.istore_n 1, 1) := by decide +kernel
theorem d_Mo_verify_57 : decode b_Mo_verify 57 = .ok (.iinc 2 (1), 3) := by decide +kernel
theorem d_Mo_verify_60 : decode b_Mo_verify 60 = .ok (.goto (-36), 3) := by decide +kernel
theorem d_Mo_verify_63 : decode b_Mo_verify 63 = .ok (.aload_n 0, 1) := by decide +kernel
theorem d_Mo_verify_64 : decode b_Mo_verify 64 = .ok (.iload_n 1, 1) := by decide +kernel
theorem d_Mo_verify_65 : decode b_Mo_verify 65 = .ok (.ifCond .ne (7), 3) := by decide +kernel
theorem d_Mo_verify_68 : decode b_Mo_verify 68 = .ok (.iconst 1, 1) := by decide +kernel
theorem d_Mo_verify_69 : decode b_Mo_verify 69 = .ok (.goto (4), 3) := by decide +kernel
theorem d_Mo_verify_72 : decode b_Mo_verify 72 = .ok (.iconst 0, 1) := by decide +kernel
theorem d_Mo_verify_73 : decode b_Mo_verify 73 = .ok (.putfield 66, 3) := by decide +kernel
theorem d_Mo_verify_76 : decode b_Mo_verify 76 = .ok (.iload_n 1, 1) := by decide +kernel
theorem d_Mo_verify_77 : decode b_Mo_verify 77 = .ok (.ireturn, 1) := by decide +kernel
def y_Mo_isVerified : MethodName := ⟨"FrameVerifierModel", "isVerified", "()Z"⟩
abbrev b_Mo_isVerified : ByteArray := prog_11_method_20_code
def rm_Mo_isVerified : Room := { frames := 0, cells := 0, slots := 0, locals := 0 }
abbrev w_Mo_isVerified : List Cond := Cond.code y_Mo_isVerified b_Mo_isVerified 1 (some .boolean) :: wG
theorem m_Mo_isVerified : Cond.code y_Mo_isVerified b_Mo_isVerified 1 (some .boolean) ∈ wG := wg_t 898 (by decide +kernel) (by decide +kernel)
theorem q_Mo_isVerified : y_Mo_isVerified.cls ≠ "java/lang/invoke/MethodHandle" ∧ y_Mo_isVerified.cls ≠ "java/lang/invoke/VarHandle" ∧ (parseMethodDescriptor y_Mo_isVerified.desc).map (fun d => d.parameters.length) = some 0 := by decide +kernel
theorem g_Mo_isVerified : Cond.initialized y_Mo_isVerified.cls ∈ wG := wg_t 6 (by decide +kernel) (by decide +kernel)
theorem s_Mo_isVerified : Cond.instanceMethod y_Mo_isVerified ∈ wG := wg_t 896 (by decide +kernel) (by decide +kernel)
theorem e_Mo_isVerified : Cond.selects "FrameVerifierModel" y_Mo_isVerified y_Mo_isVerified ∈ wG := wg_t 897 (by decide +kernel) (by decide +kernel)
theorem d_Mo_isVerified_0 : decode b_Mo_isVerified 0 = .ok (.aload_n 0, 1) := by decide +kernel
theorem d_Mo_isVerified_1 : decode b_Mo_isVerified 1 = .ok (.iconst 0, 1) := by decide +kernel
theorem d_Mo_isVerified_2 : decode b_Mo_isVerified 2 = .ok (.putfield 59, 3) := by decide +kernel
theorem d_Mo_isVerified_5 : decode b_Mo_isVerified 5 = .ok (.aload_n 0, 1) := by decide +kernel
theorem d_Mo_isVerified_6 : decode b_Mo_isVerified 6 = .ok (.getfield 66, 3) := by decide +kernel
theorem d_Mo_isVerified_9 : decode b_Mo_isVerified 9 = .ok (.ireturn, 1) := by decide +kernel
def y_Mo_type : MethodName := ⟨"FrameVerifierModel", "type", "(III)I"⟩
abbrev b_Mo_type : ByteArray := prog_11_method_21_code
def rm_Mo_type : Room := { frames := 6, cells := 0, slots := 0, locals := 138 }
abbrev w_Mo_type : List Cond := Cond.code y_Mo_type b_Mo_type 6 (some .int) :: wG
theorem m_Mo_type : Cond.code y_Mo_type b_Mo_type 6 (some .int) ∈ wG := wg_t 902 (by decide +kernel) (by decide +kernel)
theorem q_Mo_type : y_Mo_type.cls ≠ "java/lang/invoke/MethodHandle" ∧ y_Mo_type.cls ≠ "java/lang/invoke/VarHandle" ∧ (parseMethodDescriptor y_Mo_type.desc).map (fun d => d.parameters.length) = some 3 := by decide +kernel
theorem g_Mo_type : Cond.initialized y_Mo_type.cls ∈ wG := wg_t 6 (by decide +kernel) (by decide +kernel)
theorem s_Mo_type : Cond.instanceMethod y_Mo_type ∈ wG := wg_t 900 (by decide +kernel) (by decide +kernel)
theorem e_Mo_type : Cond.selects "FrameVerifierModel" y_Mo_type y_Mo_type ∈ wG := wg_t 901 (by decide +kernel) (by decide +kernel)
theorem d_Mo_type_0 : decode b_Mo_type 0 = .ok (.aload_n 0, 1) := by decide +kernel
theorem d_Mo_type_1 : decode b_Mo_type 1 = .ok (.iconst 0, 1) := by decide +kernel
theorem d_Mo_type_2 : decode b_Mo_type 2 = .ok (.putfield 59, 3) := by decide +kernel
theorem d_Mo_type_5 : decode b_Mo_type 5 = .ok (.iload_n 1, 1) := by decide +kernel
theorem d_Mo_type_6 : decode b_Mo_type 6 = .ok (.ifCond .lt (28), 3) := by decide +kernel
theorem d_Mo_type_9 : decode b_Mo_type 9 = .ok (.iload_n 1, 1) := by decide +kernel
theorem d_Mo_type_10 : decode b_Mo_type 10 = .ok (.iconst 3, 1) := by decide +kernel
theorem d_Mo_type_11 : decode b_Mo_type 11 = .ok (.if_icmp .gt (23), 3) := by decide +kernel
theorem d_Mo_type_14 : decode b_Mo_type 14 = .ok (.iload_n 2, 1) := by decide +kernel
theorem d_Mo_type_15 : decode b_Mo_type 15 = .ok (.ifCond .lt (19), 3) := by decide +kernel
theorem d_Mo_type_18 : decode b_Mo_type 18 = .ok (.iload_n 2, 1) := by decide +kernel
theorem d_Mo_type_19 : decode b_Mo_type 19 = .ok (.bipush (99), 2) := by decide +kernel
theorem d_Mo_type_21 : decode b_Mo_type 21 = .ok (.if_icmp .gt (13), 3) := by decide +kernel
theorem d_Mo_type_24 : decode b_Mo_type 24 = .ok (.iload_n 3, 1) := by decide +kernel
theorem d_Mo_type_25 : decode b_Mo_type 25 = .ok (.ifCond .lt (9), 3) := by decide +kernel
theorem d_Mo_type_28 : decode b_Mo_type 28 = .ok (.iload_n 3, 1) := by decide +kernel
theorem d_Mo_type_29 : decode b_Mo_type 29 = .ok (.bipush (11), 2) := by decide +kernel
theorem d_Mo_type_31 : decode b_Mo_type 31 = .ok (.if_icmp .le (5), 3) := by decide +kernel
theorem d_Mo_type_34 : decode b_Mo_type 34 = .ok (.iconst (-1), 1) := by decide +kernel
theorem d_Mo_type_35 : decode b_Mo_type 35 = .ok (.ireturn, 1) := by decide +kernel
theorem d_Mo_type_36 : decode b_Mo_type 36 = .ok (.bipush (100), 2) := by decide +kernel
theorem d_Mo_type_38 : decode b_Mo_type 38 = .ok (.iload_n 1, 1) := by decide +kernel
theorem d_Mo_type_39 : decode b_Mo_type 39 = .ok (.imul, 1) := by decide +kernel
theorem d_Mo_type_40 : decode b_Mo_type 40 = .ok (.iload_n 2, 1) := by decide +kernel
theorem d_Mo_type_41 : decode b_Mo_type 41 = .ok (.iadd, 1) := by decide +kernel
theorem d_Mo_type_42 : decode b_Mo_type 42 = .ok (.istore 4, 2) := by decide +kernel
theorem d_Mo_type_44 : decode b_Mo_type 44 = .ok (.aload_n 0, 1) := by decide +kernel
theorem d_Mo_type_45 : decode b_Mo_type 45 = .ok (.iload_n 1, 1) := by decide +kernel
theorem d_Mo_type_46 : decode b_Mo_type 46 = .ok (.invokevirtual 127, 3) := by decide +kernel
theorem d_Mo_type_49 : decode b_Mo_type 49 = .ok (.istore 5, 2) := by decide +kernel
theorem d_Mo_type_51 : decode b_Mo_type 51 = .ok (.aload_n 0, 1) := by decide +kernel
theorem d_Mo_type_52 : decode b_Mo_type 52 = .ok (.getfield 29, 3) := by decide +kernel
theorem d_Mo_type_55 : decode b_Mo_type 55 = .ok (.iload 4, 2) := by decide +kernel
theorem d_Mo_type_57 : decode b_Mo_type 57 = .ok (.iaload, 1) := by decide +kernel
theorem d_Mo_type_58 : decode b_Mo_type 58 = .ok (.bipush (-2), 2) := by decide +kernel
theorem d_Mo_type_60 : decode b_Mo_type 60 = .ok (.if_icmp .ne (8), 3) := by decide +kernel
theorem d_Mo_type_63 : decode b_Mo_type 63 = .ok (.bipush (-2), 2) := by decide +kernel
theorem d_Mo_type_65 : decode b_Mo_type 65 = .ok (.goto (44), 3) := by decide +kernel
theorem d_Mo_type_68 : decode b_Mo_type 68 = .ok (.aload_n 0, 1) := by decide +kernel
theorem d_Mo_type_69 : decode b_Mo_type 69 = .ok (.getfield 29, 3) := by decide +kernel
theorem d_Mo_type_72 : decode b_Mo_type 72 = .ok (.iload 4, 2) := by decide +kernel
theorem d_Mo_type_74 : decode b_Mo_type 74 = .ok (.iaload, 1) := by decide +kernel
theorem d_Mo_type_75 : decode b_Mo_type 75 = .ok (.iconst (-1), 1) := by decide +kernel
theorem d_Mo_type_76 : decode b_Mo_type 76 = .ok (.if_icmp .eq (17), 3) := by decide +kernel
theorem d_Mo_type_79 : decode b_Mo_type 79 = .ok (.iload_n 3, 1) := by decide +kernel
theorem d_Mo_type_80 : decode b_Mo_type 80 = .ok (.bipush (6), 2) := by decide +kernel
theorem d_Mo_type_82 : decode b_Mo_type 82 = .ok (.aload_n 0, 1) := by decide +kernel
theorem d_Mo_type_83 : decode b_Mo_type 83 = .ok (.getfield 29, 3) := by decide +kernel
theorem d_Mo_type_86 : decode b_Mo_type 86 = .ok (.iload 4, 2) := by decide +kernel
theorem d_Mo_type_88 : decode b_Mo_type 88 = .ok (.iaload, 1) := by decide +kernel
theorem d_Mo_type_89 : decode b_Mo_type 89 = .ok (.iadd, 1) := by decide +kernel
theorem d_Mo_type_90 : decode b_Mo_type 90 = .ok (.if_icmp .lt (7), 3) := by decide +kernel
theorem d_Mo_type_93 : decode b_Mo_type 93 = .ok (.iconst (-1), 1) := by decide +kernel
theorem d_Mo_type_94 : decode b_Mo_type 94 = .ok (.goto (15), 3) := by decide +kernel
theorem d_Mo_type_97 : decode b_Mo_type 97 = .ok (.aload_n 0, 1) := by decide +kernel
theorem d_Mo_type_98 : decode b_Mo_type 98 = .ok (.getfield 32, 3) := by decide +kernel
theorem d_Mo_type_101 : decode b_Mo_type 101 = .ok (.bipush (12), 2) := by decide +kernel
theorem d_Mo_type_103 : decode b_Mo_type 103 = .ok (.iload 4, 2) := by decide +kernel
theorem d_Mo_type_105 : decode b_Mo_type 105 = .ok (.imul, 1) := by decide +kernel
theorem d_Mo_type_106 : decode b_Mo_type 106 = .ok (.iload_n 3, 1) := by decide +kernel
theorem d_Mo_type_107 : decode b_Mo_type 107 = .ok (.iadd, 1) := by decide +kernel
theorem d_Mo_type_108 : decode b_Mo_type 108 = .ok (.iaload, 1) := by decide +kernel
theorem d_Mo_type_109 : decode b_Mo_type 109 = .ok (.ireturn, 1) := by decide +kernel
def y_Mo_enter : MethodName := ⟨"FrameVerifierModel", "enter", "(I)V"⟩
abbrev b_Mo_enter : ByteArray := prog_11_method_22_code
def rm_Mo_enter : Room := { frames := 0, cells := 0, slots := 0, locals := 0 }
abbrev w_Mo_enter : List Cond := Cond.code y_Mo_enter b_Mo_enter 3 none :: wG
theorem m_Mo_enter : Cond.code y_Mo_enter b_Mo_enter 3 none ∈ wG := wg_t 910 (by decide +kernel) (by decide +kernel)
theorem q_Mo_enter : y_Mo_enter.cls ≠ "java/lang/invoke/MethodHandle" ∧ y_Mo_enter.cls ≠ "java/lang/invoke/VarHandle" ∧ (parseMethodDescriptor y_Mo_enter.desc).map (fun d => d.parameters.length) = some 1 := by decide +kernel
theorem g_Mo_enter : Cond.initialized y_Mo_enter.cls ∈ wG := wg_t 6 (by decide +kernel) (by decide +kernel)
theorem s_Mo_enter : Cond.instanceMethod y_Mo_enter ∈ wG := wg_t 909 (by decide +kernel) (by decide +kernel)
theorem e_Mo_enter : Cond.selects "FrameVerifierModel" y_Mo_enter y_Mo_enter ∈ wG := wg_s (q := (y_Mo_enter, 27)) 35 (by decide +kernel) (by decide +kernel)
theorem d_Mo_enter_0 : decode b_Mo_enter 0 = .ok (.aload_n 0, 1) := by decide +kernel
theorem d_Mo_enter_1 : decode b_Mo_enter 1 = .ok (.getfield 41, 3) := by decide +kernel
theorem d_Mo_enter_4 : decode b_Mo_enter 4 = .ok (.aload_n 0, 1) := by decide +kernel
theorem d_Mo_enter_5 : decode b_Mo_enter 5 = .ok (.getfield 130, 3) := by decide +kernel
theorem d_Mo_enter_8 : decode b_Mo_enter 8 = .ok (.iload_n 1, 1) := by decide +kernel
theorem d_Mo_enter_9 : decode b_Mo_enter 9 = .ok (.iastore, 1) := by decide +kernel
theorem d_Mo_enter_10 : decode b_Mo_enter 10 = .ok (.aload_n 0, 1) := by decide +kernel
theorem d_Mo_enter_11 : decode b_Mo_enter 11 = .ok (.getfield 44, 3) := by decide +kernel
theorem d_Mo_enter_14 : decode b_Mo_enter 14 = .ok (.aload_n 0, 1) := by decide +kernel
theorem d_Mo_enter_15 : decode b_Mo_enter 15 = .ok (.getfield 130, 3) := by decide +kernel
theorem d_Mo_enter_18 : decode b_Mo_enter 18 = .ok (.aload_n 0, 1) := by decide +kernel
theorem d_Mo_enter_19 : decode b_Mo_enter 19 = .ok (.getfield 20, 3) := by decide +kernel
theorem d_Mo_enter_22 : decode b_Mo_enter 22 = .ok (.iload_n 1, 1) := by decide +kernel
theorem d_Mo_enter_23 : decode b_Mo_enter 23 = .ok (.iaload, 1) := by decide +kernel
theorem d_Mo_enter_24 : decode b_Mo_enter 24 = .ok (.iastore, 1) := by decide +kernel
theorem d_Mo_enter_25 : decode b_Mo_enter 25 = .ok (.aload_n 0, 1) := by decide +kernel
theorem d_Mo_enter_26 : decode b_Mo_enter 26 = .ok (.getfield 47, 3) := by decide +kernel
theorem d_Mo_enter_29 : decode b_Mo_enter 29 = .ok (.aload_n 0, 1) := by decide +kernel
theorem d_Mo_enter_30 : decode b_Mo_enter 30 = .ok (.getfield 130, 3) := by decide +kernel
theorem d_Mo_enter_33 : decode b_Mo_enter 33 = .ok (.iconst 0, 1) := by decide +kernel
theorem d_Mo_enter_34 : decode b_Mo_enter 34 = .ok (.iastore, 1) := by decide +kernel
theorem d_Mo_enter_35 : decode b_Mo_enter 35 = .ok (.iconst 0, 1) := by decide +kernel
theorem d_Mo_enter_36 : decode b_Mo_enter 36 = .ok (.istore_n 2, 1) := by decide +kernel
theorem d_Mo_enter_37 : decode b_Mo_enter 37 = .ok (.iload_n 2, 1) := by decide +kernel
theorem d_Mo_enter_38 : decode b_Mo_enter 38 = .ok (.bipush (6), 2) := by decide +kernel
theorem d_Mo_enter_40 : decode b_Mo_enter 40 = .ok (.if_icmp .ge (39), 3) := by decide +kernel
theorem d_Mo_enter_43 : decode b_Mo_enter 43 = .ok (.aload_n 0, 1) := by decide +kernel
theorem d_Mo_enter_44 : decode b_Mo_enter 44 = .ok (.getfield 53, 3) := by decide +kernel
theorem d_Mo_enter_47 : decode b_Mo_enter 47 = .ok (.bipush (12), 2) := by decide +kernel
theorem d_Mo_enter_49 : decode b_Mo_enter 49 = .ok (.aload_n 0, 1) := by decide +kernel
theorem d_Mo_enter_50 : decode b_Mo_enter 50 = .ok (.getfield 130, 3) := by decide +kernel
theorem d_Mo_enter_53 : decode b_Mo_enter 53 = .ok (.imul, 1) := by decide +kernel
theorem d_Mo_enter_54 : decode b_Mo_enter 54 = .ok (.iload_n 2, 1) := by decide +kernel
theorem d_Mo_enter_55 : decode b_Mo_enter 55 = .ok (.iadd, 1) := by decide +kernel
theorem d_Mo_enter_56 : decode b_Mo_enter 56 = .ok (.iconst 0, 1) := by decide +kernel
theorem d_Mo_enter_57 : decode b_Mo_enter 57 = .ok (.iastore, 1) := by decide +kernel
theorem d_Mo_enter_58 : decode b_Mo_enter 58 = .ok (.aload_n 0, 1) := by decide +kernel
theorem d_Mo_enter_59 : decode b_Mo_enter 59 = .ok (.getfield 50, 3) := by decide +kernel
theorem d_Mo_enter_62 : decode b_Mo_enter 62 = .ok (.bipush (12), 2) := by decide +kernel
theorem d_Mo_enter_64 : decode b_Mo_enter 64 = .ok (.aload_n 0, 1) := by decide +kernel
theorem d_Mo_enter_65 : decode b_Mo_enter 65 = .ok (.getfield 130, 3) := by decide +kernel
theorem d_Mo_enter_68 : decode b_Mo_enter 68 = .ok (.imul, 1) := by decide +kernel
theorem d_Mo_enter_69 : decode b_Mo_enter 69 = .ok (.iload_n 2, 1) := by decide +kernel
theorem d_Mo_enter_70 : decode b_Mo_enter 70 = .ok (.iadd, 1) := by decide +kernel
theorem d_Mo_enter_71 : decode b_Mo_enter 71 = .ok (.iconst 0, 1) := by decide +kernel
theorem d_Mo_enter_72 : decode b_Mo_enter 72 = .ok (.iastore, 1) := by decide +kernel
theorem d_Mo_enter_73 : decode b_Mo_enter 73 = .ok (.iinc 2 (1), 3) := by decide +kernel
theorem d_Mo_enter_76 : decode b_Mo_enter 76 = .ok (.goto (-39), 3) := by decide +kernel
theorem d_Mo_enter_79 : decode b_Mo_enter 79 = .ok (.aload_n 0, 1) := by decide +kernel
theorem d_Mo_enter_80 : decode b_Mo_enter 80 = .ok (.dup, 1) := by decide +kernel
theorem d_Mo_enter_81 : decode b_Mo_enter 81 = .ok (.getfield 130, 3) := by decide +kernel
theorem d_Mo_enter_84 : decode b_Mo_enter 84 = .ok (.iconst 1, 1) := by decide +kernel
theorem d_Mo_enter_85 : decode b_Mo_enter 85 = .ok (.iadd, 1) := by decide +kernel
theorem d_Mo_enter_86 : decode b_Mo_enter 86 = .ok (.putfield 130, 3) := by decide +kernel
theorem d_Mo_enter_89 : decode b_Mo_enter 89 = .ok (.return_, 1) := by decide +kernel
def y_Mo_start : MethodName := ⟨"FrameVerifierModel", "start", "(III)Z"⟩
abbrev b_Mo_start : ByteArray := prog_11_method_23_code
def rm_Mo_start : Room := { frames := 1, cells := 0, slots := 0, locals := 22 }
abbrev w_Mo_start : List Cond := Cond.code y_Mo_start b_Mo_start 5 (some .boolean) :: wG
theorem m_Mo_start : Cond.code y_Mo_start b_Mo_start 5 (some .boolean) ∈ wG := wg_t 906 (by decide +kernel) (by decide +kernel)
theorem q_Mo_start : y_Mo_start.cls ≠ "java/lang/invoke/MethodHandle" ∧ y_Mo_start.cls ≠ "java/lang/invoke/VarHandle" ∧ (parseMethodDescriptor y_Mo_start.desc).map (fun d => d.parameters.length) = some 3 := by decide +kernel
theorem g_Mo_start : Cond.initialized y_Mo_start.cls ∈ wG := wg_t 6 (by decide +kernel) (by decide +kernel)
theorem s_Mo_start : Cond.instanceMethod y_Mo_start ∈ wG := wg_t 904 (by decide +kernel) (by decide +kernel)
theorem e_Mo_start : Cond.selects "FrameVerifierModel" y_Mo_start y_Mo_start ∈ wG := wg_t 905 (by decide +kernel) (by decide +kernel)
theorem d_Mo_start_0 : decode b_Mo_start 0 = .ok (.aload_n 0, 1) := by decide +kernel
theorem d_Mo_start_1 : decode b_Mo_start 1 = .ok (.iconst 0, 1) := by decide +kernel
theorem d_Mo_start_2 : decode b_Mo_start 2 = .ok (.putfield 59, 3) := by decide +kernel
theorem d_Mo_start_5 : decode b_Mo_start 5 = .ok (.aload_n 0, 1) := by decide +kernel
theorem d_Mo_start_6 : decode b_Mo_start 6 = .ok (.getfield 16, 3) := by decide +kernel
theorem d_Mo_start_9 : decode b_Mo_start 9 = .ok (.iconst 0, 1) := by decide +kernel
theorem d_Mo_start_10 : decode b_Mo_start 10 = .ok (.baload, 1) := by decide +kernel
theorem d_Mo_start_11 : decode b_Mo_start 11 = .ok (.ifCond .ne (5), 3) := by decide +kernel
theorem d_Mo_start_14 : decode b_Mo_start 14 = .ok (.iconst 0, 1) := by decide +kernel
theorem d_Mo_start_15 : decode b_Mo_start 15 = .ok (.ireturn, 1) := by decide +kernel
theorem d_Mo_start_16 : decode b_Mo_start 16 = .ok (.aload_n 0, 1) := by decide +kernel
theorem d_Mo_start_17 : decode b_Mo_start 17 = .ok (.iconst 0, 1) := by decide +kernel
theorem d_Mo_start_18 : decode b_Mo_start 18 = .ok (.putfield 130, 3) := by decide +kernel
theorem d_Mo_start_21 : decode b_Mo_start 21 = .ok (.aload_n 0, 1) := by decide +kernel
theorem d_Mo_start_22 : decode b_Mo_start 22 = .ok (.iconst 0, 1) := by decide +kernel
theorem d_Mo_start_23 : decode b_Mo_start 23 = .ok (.putfield 133, 3) := by decide +kernel
theorem d_Mo_start_26 : decode b_Mo_start 26 = .ok (.aload_n 0, 1) := by decide +kernel
theorem d_Mo_start_27 : decode b_Mo_start 27 = .ok (.iconst 0, 1) := by decide +kernel
theorem d_Mo_start_28 : decode b_Mo_start 28 = .ok (.invokevirtual 136, 3) := by decide +kernel
theorem d_Mo_start_31 : decode b_Mo_start 31 = .ok (.iconst 0, 1) := by decide +kernel
theorem d_Mo_start_32 : decode b_Mo_start 32 = .ok (.istore 4, 2) := by decide +kernel
theorem d_Mo_start_34 : decode b_Mo_start 34 = .ok (.iload 4, 2) := by decide +kernel
theorem d_Mo_start_36 : decode b_Mo_start 36 = .ok (.aload_n 0, 1) := by decide +kernel
theorem d_Mo_start_37 : decode b_Mo_start 37 = .ok (.getfield 23, 3) := by decide +kernel
theorem d_Mo_start_40 : decode b_Mo_start 40 = .ok (.iconst 0, 1) := by decide +kernel
theorem d_Mo_start_41 : decode b_Mo_start 41 = .ok (.iaload, 1) := by decide +kernel
theorem d_Mo_start_42 : decode b_Mo_start 42 = .ok (.if_icmp .ge (65), 3) := by decide +kernel
theorem d_Mo_start_45 : decode b_Mo_start 45 = .ok (.aload_n 0, 1) := by decide +kernel
theorem d_Mo_start_46 : decode b_Mo_start 46 = .ok (.getfield 53, 3) := by decide +kernel
theorem d_Mo_start_49 : decode b_Mo_start 49 = .ok (.iload 4, 2) := by decide +kernel
theorem d_Mo_start_51 : decode b_Mo_start 51 = .ok (.aload_n 0, 1) := by decide +kernel
theorem d_Mo_start_52 : decode b_Mo_start 52 = .ok (.iconst 0, 1) := by decide +kernel
theorem d_Mo_start_53 : decode b_Mo_start 53 = .ok (.iload 4, 2) := by decide +kernel
theorem d_Mo_start_55 : decode b_Mo_start 55 = .ok (.invokevirtual 110, 3) := by decide +kernel
theorem d_Mo_start_58 : decode b_Mo_start 58 = .ok (.iastore, 1) := by decide +kernel
theorem d_Mo_start_59 : decode b_Mo_start 59 = .ok (.aload_n 0, 1) := by decide +kernel
theorem d_Mo_start_60 : decode b_Mo_start 60 = .ok (.getfield 50, 3) := by decide +kernel
theorem d_Mo_start_63 : decode b_Mo_start 63 = .ok (.iload 4, 2) := by decide +kernel
theorem d_Mo_start_65 : decode b_Mo_start 65 = .ok (.aload_n 0, 1) := by decide +kernel
theorem d_Mo_start_66 : decode b_Mo_start 66 = .ok (.getfield 53, 3) := by decide +kernel
theorem d_Mo_start_69 : decode b_Mo_start 69 = .ok (.iload 4, 2) := by decide +kernel
theorem d_Mo_start_71 : decode b_Mo_start 71 = .ok (.iaload, 1) := by decide +kernel
theorem d_Mo_start_72 : decode b_Mo_start 72 = .ok (.iconst 2, 1) := by decide +kernel
theorem d_Mo_start_73 : decode b_Mo_start 73 = .ok (.if_icmp .ne (7), 3) := by decide +kernel
theorem d_Mo_start_76 : decode b_Mo_start 76 = .ok (.iconst 0, 1) := by decide +kernel
theorem d_Mo_start_77 : decode b_Mo_start 77 = .ok (.goto (23), 3) := by decide +kernel
theorem d_Mo_start_80 : decode b_Mo_start 80 = .ok (.iload 4, 2) := by decide +kernel
theorem d_Mo_start_82 : decode b_Mo_start 82 = .ok (.ifCond .ne (7), 3) := by decide +kernel
theorem d_Mo_start_85 : decode b_Mo_start 85 = .ok (.iload_n 1, 1) := by decide +kernel
theorem d_Mo_start_86 : decode b_Mo_start 86 = .ok (.goto (14), 3) := by decide +kernel
theorem d_Mo_start_89 : decode b_Mo_start 89 = .ok (.iload 4, 2) := by decide +kernel
theorem d_Mo_start_91 : decode b_Mo_start 91 = .ok (.iconst 1, 1) := by decide +kernel
theorem d_Mo_start_92 : decode b_Mo_start 92 = .ok (.if_icmp .ne (7), 3) := by decide +kernel
theorem d_Mo_start_95 : decode b_Mo_start 95 = .ok (.iload_n 2, 1) := by decide +kernel
theorem d_Mo_start_96 : decode b_Mo_start 96 = .ok (.goto (4), 3) := by decide +kernel
theorem d_Mo_start_99 : decode b_Mo_start 99 = .ok (.iload_n 3, 1) := by decide +kernel
theorem d_Mo_start_100 : decode b_Mo_start 100 = .ok (.iastore, 1) := by decide +kernel
theorem d_Mo_start_101 : decode b_Mo_start 101 = .ok (.iinc 4 (1), 3) := by decide +kernel
theorem d_Mo_start_104 : decode b_Mo_start 104 = .ok (.goto (-70), 3) := by decide +kernel
theorem d_Mo_start_107 : decode b_Mo_start 107 = .ok (.iconst 1, 1) := by decide +kernel
theorem d_Mo_start_108 : decode b_Mo_start 108 = .ok (.ireturn, 1) := by decide +kernel
def y_Mo_below : MethodName := ⟨"FrameVerifierModel", "below", "(I)I"⟩
abbrev b_Mo_below : ByteArray := prog_11_method_24_code
def rm_Mo_below : Room := { frames := 0, cells := 0, slots := 0, locals := 0 }
abbrev w_Mo_below : List Cond := Cond.code y_Mo_below b_Mo_below 2 (some .int) :: wG
theorem m_Mo_below : Cond.code y_Mo_below b_Mo_below 2 (some .int) ∈ wG := wg_t 930 (by decide +kernel) (by decide +kernel)
theorem q_Mo_below : y_Mo_below.cls ≠ "java/lang/invoke/MethodHandle" ∧ y_Mo_below.cls ≠ "java/lang/invoke/VarHandle" ∧ (parseMethodDescriptor y_Mo_below.desc).map (fun d => d.parameters.length) = some 1 := by decide +kernel
theorem g_Mo_below : Cond.initialized y_Mo_below.cls ∈ wG := wg_t 6 (by decide +kernel) (by decide +kernel)
theorem s_Mo_below : Cond.instanceMethod y_Mo_below ∈ wG := wg_t 929 (by decide +kernel) (by decide +kernel)
theorem e_Mo_below : Cond.selects "FrameVerifierModel" y_Mo_below y_Mo_below ∈ wG := wg_s (q := (y_Mo_below, 27)) 39 (by decide +kernel) (by decide +kernel)
theorem d_Mo_below_0 : decode b_Mo_below 0 = .ok (.aload_n 0, 1) := by decide +kernel
theorem d_Mo_below_1 : decode b_Mo_below 1 = .ok (.getfield 50, 3) := by decide +kernel
theorem d_Mo_below_4 : decode b_Mo_below 4 = .ok (.bipush (12), 2) := by decide +kernel
theorem d_Mo_below_6 : decode b_Mo_below 6 = .ok (.aload_n 0, 1) := by decide +kernel
theorem d_Mo_below_7 : decode b_Mo_below 7 = .ok (.getfield 130, 3) := by decide +kernel
theorem d_Mo_below_10 : decode b_Mo_below 10 = .ok (.iconst 1, 1) := by decide +kernel
theorem d_Mo_below_11 : decode b_Mo_below 11 = .ok (.isub, 1) := by decide +kernel
theorem d_Mo_below_12 : decode b_Mo_below 12 = .ok (.imul, 1) := by decide +kernel
theorem d_Mo_below_13 : decode b_Mo_below 13 = .ok (.bipush (6), 2) := by decide +kernel
theorem d_Mo_below_15 : decode b_Mo_below 15 = .ok (.iadd, 1) := by decide +kernel
theorem d_Mo_below_16 : decode b_Mo_below 16 = .ok (.aload_n 0, 1) := by decide +kernel
theorem d_Mo_below_17 : decode b_Mo_below 17 = .ok (.getfield 47, 3) := by decide +kernel
theorem d_Mo_below_20 : decode b_Mo_below 20 = .ok (.aload_n 0, 1) := by decide +kernel
theorem d_Mo_below_21 : decode b_Mo_below 21 = .ok (.getfield 130, 3) := by decide +kernel
theorem d_Mo_below_24 : decode b_Mo_below 24 = .ok (.iconst 1, 1) := by decide +kernel
theorem d_Mo_below_25 : decode b_Mo_below 25 = .ok (.isub, 1) := by decide +kernel
theorem d_Mo_below_26 : decode b_Mo_below 26 = .ok (.iaload, 1) := by decide +kernel
theorem d_Mo_below_27 : decode b_Mo_below 27 = .ok (.iadd, 1) := by decide +kernel
theorem d_Mo_below_28 : decode b_Mo_below 28 = .ok (.iconst 1, 1) := by decide +kernel
theorem d_Mo_below_29 : decode b_Mo_below 29 = .ok (.isub, 1) := by decide +kernel
theorem d_Mo_below_30 : decode b_Mo_below 30 = .ok (.iload_n 1, 1) := by decide +kernel
theorem d_Mo_below_31 : decode b_Mo_below 31 = .ok (.isub, 1) := by decide +kernel
theorem d_Mo_below_32 : decode b_Mo_below 32 = .ok (.iaload, 1) := by decide +kernel
theorem d_Mo_below_33 : decode b_Mo_below 33 = .ok (.ireturn, 1) := by decide +kernel
def y_Mo_drop : MethodName := ⟨"FrameVerifierModel", "drop", "(I)V"⟩
abbrev b_Mo_drop : ByteArray := prog_11_method_25_code
def rm_Mo_drop : Room := { frames := 0, cells := 0, slots := 0, locals := 0 }
abbrev w_Mo_drop : List Cond := Cond.code y_Mo_drop b_Mo_drop 2 none :: wG
theorem m_Mo_drop : Cond.code y_Mo_drop b_Mo_drop 2 none ∈ wG := wg_t 952 (by decide +kernel) (by decide +kernel)
theorem q_Mo_drop : y_Mo_drop.cls ≠ "java/lang/invoke/MethodHandle" ∧ y_Mo_drop.cls ≠ "java/lang/invoke/VarHandle" ∧ (parseMethodDescriptor y_Mo_drop.desc).map (fun d => d.parameters.length) = some 1 := by decide +kernel
theorem g_Mo_drop : Cond.initialized y_Mo_drop.cls ∈ wG := wg_t 6 (by decide +kernel) (by decide +kernel)
theorem s_Mo_drop : Cond.instanceMethod y_Mo_drop ∈ wG := wg_t 951 (by decide +kernel) (by decide +kernel)
theorem e_Mo_drop : Cond.selects "FrameVerifierModel" y_Mo_drop y_Mo_drop ∈ wG := wg_s (q := (y_Mo_drop, 27)) 43 (by decide +kernel) (by decide +kernel)
theorem d_Mo_drop_0 : decode b_Mo_drop 0 = .ok (.aload_n 0, 1) := by decide +kernel
theorem d_Mo_drop_1 : decode b_Mo_drop 1 = .ok (.getfield 47, 3) := by decide +kernel
theorem d_Mo_drop_4 : decode b_Mo_drop 4 = .ok (.aload_n 0, 1) := by decide +kernel
theorem d_Mo_drop_5 : decode b_Mo_drop 5 = .ok (.getfield 130, 3) := by decide +kernel
theorem d_Mo_drop_8 : decode b_Mo_drop 8 = .ok (.iconst 1, 1) := by decide +kernel
theorem d_Mo_drop_9 : decode b_Mo_drop 9 = .ok (.isub, 1) := by decide +kernel
theorem d_Mo_drop_10 : decode b_Mo_drop 10 = .ok (.dup2, 1) := by decide +kernel
theorem d_Mo_drop_11 : decode b_Mo_drop 11 = .ok (.iaload, 1) := by decide +kernel
theorem d_Mo_drop_12 : decode b_Mo_drop 12 = .ok (.iload_n 1, 1) := by decide +kernel
theorem d_Mo_drop_13 : decode b_Mo_drop 13 = .ok (.isub, 1) := by decide +kernel
theorem d_Mo_drop_14 : decode b_Mo_drop 14 = .ok (.iastore, 1) := by decide +kernel
theorem d_Mo_drop_15 : decode b_Mo_drop 15 = .ok (.return_, 1) := by decide +kernel
def y_Mo_put : MethodName := ⟨"FrameVerifierModel", "put", "(II)V"⟩
abbrev b_Mo_put : ByteArray := prog_11_method_26_code
def rm_Mo_put : Room := { frames := 0, cells := 0, slots := 0, locals := 0 }
abbrev w_Mo_put : List Cond := Cond.code y_Mo_put b_Mo_put 4 none :: wG
theorem m_Mo_put : Cond.code y_Mo_put b_Mo_put 4 none ∈ wG := wg_t 944 (by decide +kernel) (by decide +kernel)
theorem q_Mo_put : y_Mo_put.cls ≠ "java/lang/invoke/MethodHandle" ∧ y_Mo_put.cls ≠ "java/lang/invoke/VarHandle" ∧ (parseMethodDescriptor y_Mo_put.desc).map (fun d => d.parameters.length) = some 2 := by decide +kernel
theorem g_Mo_put : Cond.initialized y_Mo_put.cls ∈ wG := wg_t 6 (by decide +kernel) (by decide +kernel)
theorem s_Mo_put : Cond.instanceMethod y_Mo_put ∈ wG := wg_t 943 (by decide +kernel) (by decide +kernel)
theorem e_Mo_put : Cond.selects "FrameVerifierModel" y_Mo_put y_Mo_put ∈ wG := wg_s (q := (y_Mo_put, 27)) 41 (by decide +kernel) (by decide +kernel)
theorem d_Mo_put_0 : decode b_Mo_put 0 = .ok (.bipush (12), 2) := by decide +kernel
theorem d_Mo_put_2 : decode b_Mo_put 2 = .ok (.aload_n 0, 1) := by decide +kernel
theorem d_Mo_put_3 : decode b_Mo_put 3 = .ok (.getfield 130, 3) := by decide +kernel
theorem d_Mo_put_6 : decode b_Mo_put 6 = .ok (.iconst 1, 1) := by decide +kernel
theorem d_Mo_put_7 : decode b_Mo_put 7 = .ok (.isub, 1) := by decide +kernel
theorem d_Mo_put_8 : decode b_Mo_put 8 = .ok (.imul, 1) := by decide +kernel
theorem d_Mo_put_9 : decode b_Mo_put 9 = .ok (.bipush (6), 2) := by decide +kernel
theorem d_Mo_put_11 : decode b_Mo_put 11 = .ok (.iadd, 1) := by decide +kernel
theorem d_Mo_put_12 : decode b_Mo_put 12 = .ok (.aload_n 0, 1) := by decide +kernel
theorem d_Mo_put_13 : decode b_Mo_put 13 = .ok (.getfield 47, 3) := by decide +kernel
theorem d_Mo_put_16 : decode b_Mo_put 16 = .ok (.aload_n 0, 1) := by decide +kernel
theorem d_Mo_put_17 : decode b_Mo_put 17 = .ok (.getfield 130, 3) := by decide +kernel
theorem d_Mo_put_20 : decode b_Mo_put 20 = .ok (.iconst 1, 1) := by decide +kernel
theorem d_Mo_put_21 : decode b_Mo_put 21 = .ok (.isub, 1) := by decide +kernel
theorem d_Mo_put_22 : decode b_Mo_put 22 = .ok (.iaload, 1) := by decide +kernel
theorem d_Mo_put_23 : decode b_Mo_put 23 = .ok (.iadd, 1) := by decide +kernel
theorem d_Mo_put_24 : decode b_Mo_put 24 = .ok (.istore_n 3, 1) := by decide +kernel
theorem d_Mo_put_25 : decode b_Mo_put 25 = .ok (.aload_n 0, 1) := by decide +kernel
theorem d_Mo_put_26 : decode b_Mo_put 26 = .ok (.getfield 53, 3) := by decide +kernel
theorem d_Mo_put_29 : decode b_Mo_put 29 = .ok (.iload_n 3, 1) := by decide +kernel
theorem d_Mo_put_30 : decode b_Mo_put 30 = .ok (.iload_n 1, 1) := by decide +kernel
theorem d_Mo_put_31 : decode b_Mo_put 31 = .ok (.iastore, 1) := by decide +kernel
theorem d_Mo_put_32 : decode b_Mo_put 32 = .ok (.aload_n 0, 1) := by decide +kernel
theorem d_Mo_put_33 : decode b_Mo_put 33 = .ok (.getfield 50, 3) := by decide +kernel
theorem d_Mo_put_36 : decode b_Mo_put 36 = .ok (.iload_n 3, 1) := by decide +kernel
theorem d_Mo_put_37 : decode b_Mo_put 37 = .ok (.iload_n 2, 1) := by decide +kernel
theorem d_Mo_put_38 : decode b_Mo_put 38 = .ok (.iastore, 1) := by decide +kernel
theorem d_Mo_put_39 : decode b_Mo_put 39 = .ok (.aload_n 0, 1) := by decide +kernel
theorem d_Mo_put_40 : decode b_Mo_put 40 = .ok (.getfield 47, 3) := by decide +kernel
theorem d_Mo_put_43 : decode b_Mo_put 43 = .ok (.aload_n 0, 1) := by decide +kernel
theorem d_Mo_put_44 : decode b_Mo_put 44 = .ok (.getfield 130, 3) := by decide +kernel
theorem d_Mo_put_47 : decode b_Mo_put 47 = .ok (.iconst 1, 1) := by decide +kernel
theorem d_Mo_put_48 : decode b_Mo_put 48 = .ok (.isub, 1) := by decide +kernel
theorem d_Mo_put_49 : decode b_Mo_put 49 = .ok (.dup2, 1) := by decide +kernel
theorem d_Mo_put_50 : decode b_Mo_put 50 = .ok (.iaload, 1) := by decide +kernel
theorem d_Mo_put_51 : decode b_Mo_put 51 = .ok (.iconst 1, 1) := by decide +kernel
theorem d_Mo_put_52 : decode b_Mo_put 52 = .ok (.iadd, 1) := by decide +kernel
theorem d_Mo_put_53 : decode b_Mo_put 53 = .ok (.iastore, 1) := by decide +kernel
theorem d_Mo_put_54 : decode b_Mo_put 54 = .ok (.return_, 1) := by decide +kernel
def y_Mo_lengthOf : MethodName := ⟨"FrameVerifierModel", "lengthOf", "(I)I"⟩
abbrev b_Mo_lengthOf : ByteArray := prog_11_method_27_code
def rm_Mo_lengthOf : Room := { frames := 0, cells := 0, slots := 0, locals := 0 }
abbrev w_Mo_lengthOf : List Cond := Cond.code y_Mo_lengthOf b_Mo_lengthOf 1 (some .int) :: wG
theorem m_Mo_lengthOf : Cond.code y_Mo_lengthOf b_Mo_lengthOf 1 (some .int) ∈ wG := wg_t 936 (by decide +kernel) (by decide +kernel)
theorem q_Mo_lengthOf : y_Mo_lengthOf.cls ≠ "java/lang/invoke/MethodHandle" ∧ y_Mo_lengthOf.cls ≠ "java/lang/invoke/VarHandle" ∧ (parseMethodDescriptor y_Mo_lengthOf.desc).map (fun d => d.parameters.length) = some 1 := by decide +kernel
theorem g_Mo_lengthOf : Cond.initialized y_Mo_lengthOf.cls ∈ wG := wg_t 6 (by decide +kernel) (by decide +kernel)
theorem s_Mo_lengthOf : Cond.static y_Mo_lengthOf ∈ wG := wg_t 935 (by decide +kernel) (by decide +kernel)
theorem d_Mo_lengthOf_0 : decode b_Mo_lengthOf 0 = .ok (.iload_n 0, 1) := by decide +kernel
theorem d_Mo_lengthOf_1 : decode b_Mo_lengthOf 1 = .ok (.iconst 1, 1) := by decide +kernel
theorem d_Mo_lengthOf_2 : decode b_Mo_lengthOf 2 = .ok (.isub, 1) := by decide +kernel
theorem d_Mo_lengthOf_3 : decode b_Mo_lengthOf 3 = .ok (.bipush (16), 2) := by decide +kernel
theorem d_Mo_lengthOf_5 : decode b_Mo_lengthOf 5 = .ok (.irem, 1) := by decide +kernel
theorem d_Mo_lengthOf_6 : decode b_Mo_lengthOf 6 = .ok (.ireturn, 1) := by decide +kernel
def y_Mo_fitsValues : MethodName := ⟨"FrameVerifierModel", "fitsValues", "(I)Z"⟩
abbrev b_Mo_fitsValues : ByteArray := prog_11_method_28_code
def rm_Mo_fitsValues : Room := { frames := 4, cells := 0, slots := 0, locals := 91 }
abbrev w_Mo_fitsValues : List Cond := Cond.code y_Mo_fitsValues b_Mo_fitsValues 4 (some .boolean) :: wG
theorem m_Mo_fitsValues : Cond.code y_Mo_fitsValues b_Mo_fitsValues 4 (some .boolean) ∈ wG := wg_t 922 (by decide +kernel) (by decide +kernel)
theorem q_Mo_fitsValues : y_Mo_fitsValues.cls ≠ "java/lang/invoke/MethodHandle" ∧ y_Mo_fitsValues.cls ≠ "java/lang/invoke/VarHandle" ∧ (parseMethodDescriptor y_Mo_fitsValues.desc).map (fun d => d.parameters.length) = some 1 := by decide +kernel
theorem g_Mo_fitsValues : Cond.initialized y_Mo_fitsValues.cls ∈ wG := wg_t 6 (by decide +kernel) (by decide +kernel)
theorem s_Mo_fitsValues : Cond.instanceMethod y_Mo_fitsValues ∈ wG := wg_t 921 (by decide +kernel) (by decide +kernel)
theorem e_Mo_fitsValues : Cond.selects "FrameVerifierModel" y_Mo_fitsValues y_Mo_fitsValues ∈ wG := wg_s (q := (y_Mo_fitsValues, 27)) 37 (by decide +kernel) (by decide +kernel)
theorem d_Mo_fitsValues_0 : decode b_Mo_fitsValues 0 = .ok (.aload_n 0, 1) := by decide +kernel
theorem d_Mo_fitsValues_1 : decode b_Mo_fitsValues 1 = .ok (.getfield 130, 3) := by decide +kernel
theorem d_Mo_fitsValues_4 : decode b_Mo_fitsValues 4 = .ok (.iconst 1, 1) := by decide +kernel
theorem d_Mo_fitsValues_5 : decode b_Mo_fitsValues 5 = .ok (.isub, 1) := by decide +kernel
theorem d_Mo_fitsValues_6 : decode b_Mo_fitsValues 6 = .ok (.istore_n 2, 1) := by decide +kernel
theorem d_Mo_fitsValues_7 : decode b_Mo_fitsValues 7 = .ok (.aload_n 0, 1) := by decide +kernel
theorem d_Mo_fitsValues_8 : decode b_Mo_fitsValues 8 = .ok (.aload_n 0, 1) := by decide +kernel
theorem d_Mo_fitsValues_9 : decode b_Mo_fitsValues 9 = .ok (.getfield 47, 3) := by decide +kernel
theorem d_Mo_fitsValues_12 : decode b_Mo_fitsValues 12 = .ok (.iload_n 2, 1) := by decide +kernel
theorem d_Mo_fitsValues_13 : decode b_Mo_fitsValues 13 = .ok (.iaload, 1) := by decide +kernel
theorem d_Mo_fitsValues_14 : decode b_Mo_fitsValues 14 = .ok (.putfield 70, 3) := by decide +kernel
theorem d_Mo_fitsValues_17 : decode b_Mo_fitsValues 17 = .ok (.iconst 0, 1) := by decide +kernel
theorem d_Mo_fitsValues_18 : decode b_Mo_fitsValues 18 = .ok (.istore_n 3, 1) := by decide +kernel
theorem d_Mo_fitsValues_19 : decode b_Mo_fitsValues 19 = .ok (.iload_n 3, 1) := by decide +kernel
theorem d_Mo_fitsValues_20 : decode b_Mo_fitsValues 20 = .ok (.bipush (6), 2) := by decide +kernel
theorem d_Mo_fitsValues_22 : decode b_Mo_fitsValues 22 = .ok (.aload_n 0, 1) := by decide +kernel
theorem d_Mo_fitsValues_23 : decode b_Mo_fitsValues 23 = .ok (.getfield 70, 3) := by decide +kernel
theorem d_Mo_fitsValues_26 : decode b_Mo_fitsValues 26 = .ok (.iadd, 1) := by decide +kernel
theorem d_Mo_fitsValues_27 : decode b_Mo_fitsValues 27 = .ok (.if_icmp .ge (26), 3) := by decide +kernel
theorem d_Mo_fitsValues_30 : decode b_Mo_fitsValues 30 = .ok (.aload_n 0, 1) := by decide +kernel
theorem d_Mo_fitsValues_31 : decode b_Mo_fitsValues 31 = .ok (.getfield 38, 3) := by decide +kernel
theorem d_Mo_fitsValues_34 : decode b_Mo_fitsValues 34 = .ok (.iload_n 3, 1) := by decide +kernel
theorem d_Mo_fitsValues_35 : decode b_Mo_fitsValues 35 = .ok (.aload_n 0, 1) := by decide +kernel
theorem d_Mo_fitsValues_36 : decode b_Mo_fitsValues 36 = .ok (.getfield 53, 3) := by decide +kernel
theorem d_Mo_fitsValues_39 : decode b_Mo_fitsValues 39 = .ok (.bipush (12), 2) := by decide +kernel
theorem d_Mo_fitsValues_41 : decode b_Mo_fitsValues 41 = .ok (.iload_n 2, 1) := by decide +kernel
theorem d_Mo_fitsValues_42 : decode b_Mo_fitsValues 42 = .ok (.imul, 1) := by decide +kernel
theorem d_Mo_fitsValues_43 : decode b_Mo_fitsValues 43 = .ok (.iload_n 3, 1) := by decide +kernel
theorem d_Mo_fitsValues_44 : decode b_Mo_fitsValues 44 = .ok (.iadd, 1) := by decide +kernel
theorem d_Mo_fitsValues_45 : decode b_Mo_fitsValues 45 = .ok (.iaload, 1) := by decide +kernel
theorem d_Mo_fitsValues_46 : decode b_Mo_fitsValues 46 = .ok (.iastore, 1) := by decide +kernel
theorem d_Mo_fitsValues_47 : decode b_Mo_fitsValues 47 = .ok (.iinc 3 (1), 3) := by decide +kernel
theorem d_Mo_fitsValues_50 : decode b_Mo_fitsValues 50 = .ok (.goto (-31), 3) := by decide +kernel
theorem d_Mo_fitsValues_53 : decode b_Mo_fitsValues 53 = .ok (.aload_n 0, 1) := by decide +kernel
theorem d_Mo_fitsValues_54 : decode b_Mo_fitsValues 54 = .ok (.aload_n 0, 1) := by decide +kernel
theorem d_Mo_fitsValues_55 : decode b_Mo_fitsValues 55 = .ok (.getfield 41, 3) := by decide +kernel
theorem d_Mo_fitsValues_58 : decode b_Mo_fitsValues 58 = .ok (.iload_n 2, 1) := by decide +kernel
theorem d_Mo_fitsValues_59 : decode b_Mo_fitsValues 59 = .ok (.iaload, 1) := by decide +kernel
theorem d_Mo_fitsValues_60 : decode b_Mo_fitsValues 60 = .ok (.iload_n 1, 1) := by decide +kernel
theorem d_Mo_fitsValues_61 : decode b_Mo_fitsValues 61 = .ok (.invokevirtual 117, 3) := by decide +kernel
theorem d_Mo_fitsValues_64 : decode b_Mo_fitsValues 64 = .ok (.aload_n 0, 1) := by decide +kernel
theorem d_Mo_fitsValues_65 : decode b_Mo_fitsValues 65 = .ok (.getfield 73, 3) := by decide +kernel
theorem d_Mo_fitsValues_68 : decode b_Mo_fitsValues 68 = .ok (.ifCond .ne (7), 3) := by decide +kernel
theorem d_Mo_fitsValues_71 : decode b_Mo_fitsValues 71 = .ok (.iconst 1, 1) := by decide +kernel
theorem d_Mo_fitsValues_72 : decode b_Mo_fitsValues 72 = .ok (.goto (4), 3) := by decide +kernel
theorem d_Mo_fitsValues_75 : decode b_Mo_fitsValues 75 = .ok (.iconst 0, 1) := by decide +kernel
theorem d_Mo_fitsValues_76 : decode b_Mo_fitsValues 76 = .ok (.ireturn, 1) := by decide +kernel
def y_Mo_trapAt : MethodName := ⟨"FrameVerifierModel", "trapAt", "(II)I"⟩
abbrev b_Mo_trapAt : ByteArray := prog_11_method_30_code
def rm_Mo_trapAt : Room := { frames := 1, cells := 0, slots := 0, locals := 20 }
abbrev w_Mo_trapAt : List Cond := Cond.code y_Mo_trapAt b_Mo_trapAt 2 (some .int) :: wG
theorem m_Mo_trapAt : Cond.code y_Mo_trapAt b_Mo_trapAt 2 (some .int) ∈ wG := wg_t 933 (by decide +kernel) (by decide +kernel)
theorem q_Mo_trapAt : y_Mo_trapAt.cls ≠ "java/lang/invoke/MethodHandle" ∧ y_Mo_trapAt.cls ≠ "java/lang/invoke/VarHandle" ∧ (parseMethodDescriptor y_Mo_trapAt.desc).map (fun d => d.parameters.length) = some 2 := by decide +kernel
theorem g_Mo_trapAt : Cond.initialized y_Mo_trapAt.cls ∈ wG := wg_t 6 (by decide +kernel) (by decide +kernel)
theorem s_Mo_trapAt : Cond.static y_Mo_trapAt ∈ wG := wg_t 932 (by decide +kernel) (by decide +kernel)
theorem d_Mo_trapAt_0 : decode b_Mo_trapAt 0 = .ok (.iload_n 0, 1) := by decide +kernel
theorem d_Mo_trapAt_1 : decode b_Mo_trapAt 1 = .ok (.ifCond .ne (7), 3) := by decide +kernel
theorem d_Mo_trapAt_4 : decode b_Mo_trapAt 4 = .ok (.iconst 3, 1) := by decide +kernel
theorem d_Mo_trapAt_5 : decode b_Mo_trapAt 5 = .ok (.goto (20), 3) := by decide +kernel
theorem d_Mo_trapAt_8 : decode b_Mo_trapAt 8 = .ok (.iload_n 1, 1) := by decide +kernel
theorem d_Mo_trapAt_9 : decode b_Mo_trapAt 9 = .ok (.ifCond .lt (11), 3) := by decide +kernel
theorem d_Mo_trapAt_12 : decode b_Mo_trapAt 12 = .ok (.iload_n 1, 1) := by decide +kernel
theorem d_Mo_trapAt_13 : decode b_Mo_trapAt 13 = .ok (.iload_n 0, 1) := by decide +kernel
theorem d_Mo_trapAt_14 : decode b_Mo_trapAt 14 = .ok (.invokestatic 145, 3) := by decide +kernel
theorem d_Mo_trapAt_17 : decode b_Mo_trapAt 17 = .ok (.if_icmp .lt (7), 3) := by decide +kernel
theorem d_Mo_trapAt_20 : decode b_Mo_trapAt 20 = .ok (.iconst 4, 1) := by decide +kernel
theorem d_Mo_trapAt_21 : decode b_Mo_trapAt 21 = .ok (.goto (4), 3) := by decide +kernel
theorem d_Mo_trapAt_24 : decode b_Mo_trapAt 24 = .ok (.iconst 0, 1) := by decide +kernel
theorem d_Mo_trapAt_25 : decode b_Mo_trapAt 25 = .ok (.ireturn, 1) := by decide +kernel
def y_Mo_trapOf : MethodName := ⟨"FrameVerifierModel", "trapOf", "(II)I"⟩
abbrev b_Mo_trapOf : ByteArray := prog_11_method_29_code
def rm_Mo_trapOf : Room := { frames := 2, cells := 0, slots := 0, locals := 41 }
abbrev w_Mo_trapOf : List Cond := Cond.code y_Mo_trapOf b_Mo_trapOf 3 (some .int) :: wG
theorem m_Mo_trapOf : Cond.code y_Mo_trapOf b_Mo_trapOf 3 (some .int) ∈ wG := wg_t 926 (by decide +kernel) (by decide +kernel)
theorem q_Mo_trapOf : y_Mo_trapOf.cls ≠ "java/lang/invoke/MethodHandle" ∧ y_Mo_trapOf.cls ≠ "java/lang/invoke/VarHandle" ∧ (parseMethodDescriptor y_Mo_trapOf.desc).map (fun d => d.parameters.length) = some 2 := by decide +kernel
theorem g_Mo_trapOf : Cond.initialized y_Mo_trapOf.cls ∈ wG := wg_t 6 (by decide +kernel) (by decide +kernel)
theorem s_Mo_trapOf : Cond.instanceMethod y_Mo_trapOf ∈ wG := wg_t 925 (by decide +kernel) (by decide +kernel)
theorem e_Mo_trapOf : Cond.selects "FrameVerifierModel" y_Mo_trapOf y_Mo_trapOf ∈ wG := wg_s (q := (y_Mo_trapOf, 27)) 38 (by decide +kernel) (by decide +kernel)
theorem d_Mo_trapOf_0 : decode b_Mo_trapOf 0 = .ok (.iload_n 1, 1) := by decide +kernel
theorem d_Mo_trapOf_1 : decode b_Mo_trapOf 1 = .ok (.tableswitch (185) (4) (18) #[(75), (185), (185), (185), (185), (185), (185), (89), (128), (142), (156), (185), (185), (185), (170)], 75) := by decide +kernel
theorem d_Mo_trapOf_76 : decode b_Mo_trapOf 76 = .ok (.aload_n 0, 1) := by decide +kernel
theorem d_Mo_trapOf_77 : decode b_Mo_trapOf 77 = .ok (.iconst 0, 1) := by decide +kernel
theorem d_Mo_trapOf_78 : decode b_Mo_trapOf 78 = .ok (.invokevirtual 139, 3) := by decide +kernel
theorem d_Mo_trapOf_81 : decode b_Mo_trapOf 81 = .ok (.ifCond .ne (7), 3) := by decide +kernel
theorem d_Mo_trapOf_84 : decode b_Mo_trapOf 84 = .ok (.iconst 2, 1) := by decide +kernel
theorem d_Mo_trapOf_85 : decode b_Mo_trapOf 85 = .ok (.goto (4), 3) := by decide +kernel
theorem d_Mo_trapOf_88 : decode b_Mo_trapOf 88 = .ok (.iconst 0, 1) := by decide +kernel
theorem d_Mo_trapOf_89 : decode b_Mo_trapOf 89 = .ok (.ireturn, 1) := by decide +kernel
theorem d_Mo_trapOf_90 : decode b_Mo_trapOf 90 = .ok (.aload_n 0, 1) := by decide +kernel
theorem d_Mo_trapOf_91 : decode b_Mo_trapOf 91 = .ok (.iconst 0, 1) := by decide +kernel
theorem d_Mo_trapOf_92 : decode b_Mo_trapOf 92 = .ok (.invokevirtual 139, 3) := by decide +kernel
theorem d_Mo_trapOf_95 : decode b_Mo_trapOf 95 = .ok (.ifCond .lt (28), 3) := by decide +kernel
theorem d_Mo_trapOf_98 : decode b_Mo_trapOf 98 = .ok (.aload_n 0, 1) := by decide +kernel
theorem d_Mo_trapOf_99 : decode b_Mo_trapOf 99 = .ok (.iconst 0, 1) := by decide +kernel
theorem d_Mo_trapOf_100 : decode b_Mo_trapOf 100 = .ok (.invokevirtual 139, 3) := by decide +kernel
theorem d_Mo_trapOf_103 : decode b_Mo_trapOf 103 = .ok (.bipush (12), 2) := by decide +kernel
theorem d_Mo_trapOf_105 : decode b_Mo_trapOf 105 = .ok (.if_icmp .gt (18), 3) := by decide +kernel
theorem d_Mo_trapOf_108 : decode b_Mo_trapOf 108 = .ok (.aload_n 0, 1) := by decide +kernel
theorem d_Mo_trapOf_109 : decode b_Mo_trapOf 109 = .ok (.getfield 133, 3) := by decide +kernel
theorem d_Mo_trapOf_112 : decode b_Mo_trapOf 112 = .ok (.aload_n 0, 1) := by decide +kernel
theorem d_Mo_trapOf_113 : decode b_Mo_trapOf 113 = .ok (.iconst 0, 1) := by decide +kernel
theorem d_Mo_trapOf_114 : decode b_Mo_trapOf 114 = .ok (.invokevirtual 139, 3) := by decide +kernel
theorem d_Mo_trapOf_117 : decode b_Mo_trapOf 117 = .ok (.iadd, 1) := by decide +kernel
theorem d_Mo_trapOf_118 : decode b_Mo_trapOf 118 = .ok (.bipush (30), 2) := by decide +kernel
theorem d_Mo_trapOf_120 : decode b_Mo_trapOf 120 = .ok (.if_icmp .le (7), 3) := by decide +kernel
theorem d_Mo_trapOf_123 : decode b_Mo_trapOf 123 = .ok (.iconst 5, 1) := by decide +kernel
theorem d_Mo_trapOf_124 : decode b_Mo_trapOf 124 = .ok (.goto (4), 3) := by decide +kernel
theorem d_Mo_trapOf_127 : decode b_Mo_trapOf 127 = .ok (.iconst 0, 1) := by decide +kernel
theorem d_Mo_trapOf_128 : decode b_Mo_trapOf 128 = .ok (.ireturn, 1) := by decide +kernel
theorem d_Mo_trapOf_129 : decode b_Mo_trapOf 129 = .ok (.aload_n 0, 1) := by decide +kernel
theorem d_Mo_trapOf_130 : decode b_Mo_trapOf 130 = .ok (.iconst 1, 1) := by decide +kernel
theorem d_Mo_trapOf_131 : decode b_Mo_trapOf 131 = .ok (.invokevirtual 139, 3) := by decide +kernel
theorem d_Mo_trapOf_134 : decode b_Mo_trapOf 134 = .ok (.aload_n 0, 1) := by decide +kernel
theorem d_Mo_trapOf_135 : decode b_Mo_trapOf 135 = .ok (.iconst 0, 1) := by decide +kernel
theorem d_Mo_trapOf_136 : decode b_Mo_trapOf 136 = .ok (.invokevirtual 139, 3) := by decide +kernel
theorem d_Mo_trapOf_139 : decode b_Mo_trapOf 139 = .ok (.invokestatic 142, 3) := by decide +kernel
theorem d_Mo_trapOf_142 : decode b_Mo_trapOf 142 = .ok (.ireturn, 1) := by decide +kernel
theorem d_Mo_trapOf_143 : decode b_Mo_trapOf 143 = .ok (.aload_n 0, 1) := by decide +kernel
theorem d_Mo_trapOf_144 : decode b_Mo_trapOf 144 = .ok (.iconst 2, 1) := by decide +kernel
theorem d_Mo_trapOf_145 : decode b_Mo_trapOf 145 = .ok (.invokevirtual 139, 3) := by decide +kernel
theorem d_Mo_trapOf_148 : decode b_Mo_trapOf 148 = .ok (.aload_n 0, 1) := by decide +kernel
theorem d_Mo_trapOf_149 : decode b_Mo_trapOf 149 = .ok (.iconst 1, 1) := by decide +kernel
theorem d_Mo_trapOf_150 : decode b_Mo_trapOf 150 = .ok (.invokevirtual 139, 3) := by decide +kernel
theorem d_Mo_trapOf_153 : decode b_Mo_trapOf 153 = .ok (.invokestatic 142, 3) := by decide +kernel
theorem d_Mo_trapOf_156 : decode b_Mo_trapOf 156 = .ok (.ireturn, 1) := by decide +kernel
theorem d_Mo_trapOf_157 : decode b_Mo_trapOf 157 = .ok (.aload_n 0, 1) := by decide +kernel
theorem d_Mo_trapOf_158 : decode b_Mo_trapOf 158 = .ok (.iconst 0, 1) := by decide +kernel
theorem d_Mo_trapOf_159 : decode b_Mo_trapOf 159 = .ok (.invokevirtual 139, 3) := by decide +kernel
theorem d_Mo_trapOf_162 : decode b_Mo_trapOf 162 = .ok (.ifCond .ne (7), 3) := by decide +kernel
theorem d_Mo_trapOf_165 : decode b_Mo_trapOf 165 = .ok (.iconst 3, 1) := by decide +kernel
theorem d_Mo_trapOf_166 : decode b_Mo_trapOf 166 = .ok (.goto (4), 3) := by decide +kernel
theorem d_Mo_trapOf_169 : decode b_Mo_trapOf 169 = .ok (.iconst 0, 1) := by decide +kernel
theorem d_Mo_trapOf_170 : decode b_Mo_trapOf 170 = .ok (.ireturn, 1) := by decide +kernel
theorem d_Mo_trapOf_171 : decode b_Mo_trapOf 171 = .ok (.aload_n 0, 1) := by decide +kernel
theorem d_Mo_trapOf_172 : decode b_Mo_trapOf 172 = .ok (.getfield 130, 3) := by decide +kernel
theorem d_Mo_trapOf_175 : decode b_Mo_trapOf 175 = .ok (.bipush (8), 2) := by decide +kernel
theorem d_Mo_trapOf_177 : decode b_Mo_trapOf 177 = .ok (.if_icmp .ne (7), 3) := by decide +kernel
theorem d_Mo_trapOf_180 : decode b_Mo_trapOf 180 = .ok (.iconst 5, 1) := by decide +kernel
theorem d_Mo_trapOf_181 : decode b_Mo_trapOf 181 = .ok (.goto (4), 3) := by decide +kernel
theorem d_Mo_trapOf_184 : decode b_Mo_trapOf 184 = .ok (.iconst 0, 1) := by decide +kernel
theorem d_Mo_trapOf_185 : decode b_Mo_trapOf 185 = .ok (.ireturn, 1) := by decide +kernel
theorem d_Mo_trapOf_186 : decode b_Mo_trapOf 186 = .ok (.iconst 0, 1) := by decide +kernel
theorem d_Mo_trapOf_187 : decode b_Mo_trapOf 187 = .ok (.ireturn, 1) := by decide +kernel
def y_Mo_calculate : MethodName := ⟨"FrameVerifierModel", "calculate", "(I)V"⟩
abbrev b_Mo_calculate : ByteArray := prog_11_method_31_code
def rm_Mo_calculate : Room := { frames := 1, cells := 0, slots := 0, locals := 23 }
abbrev w_Mo_calculate : List Cond := Cond.code y_Mo_calculate b_Mo_calculate 4 none :: wG
theorem m_Mo_calculate : Cond.code y_Mo_calculate b_Mo_calculate 4 none ∈ wG := wg_t 948 (by decide +kernel) (by decide +kernel)
theorem q_Mo_calculate : y_Mo_calculate.cls ≠ "java/lang/invoke/MethodHandle" ∧ y_Mo_calculate.cls ≠ "java/lang/invoke/VarHandle" ∧ (parseMethodDescriptor y_Mo_calculate.desc).map (fun d => d.parameters.length) = some 1 := by decide +kernel
theorem g_Mo_calculate : Cond.initialized y_Mo_calculate.cls ∈ wG := wg_t 6 (by decide +kernel) (by decide +kernel)
theorem s_Mo_calculate : Cond.instanceMethod y_Mo_calculate ∈ wG := wg_t 947 (by decide +kernel) (by decide +kernel)
theorem e_Mo_calculate : Cond.selects "FrameVerifierModel" y_Mo_calculate y_Mo_calculate ∈ wG := wg_s (q := (y_Mo_calculate, 27)) 42 (by decide +kernel) (by decide +kernel)
theorem d_Mo_calculate_0 : decode b_Mo_calculate 0 = .ok (.aload_n 0, 1) := by decide +kernel
theorem d_Mo_calculate_1 : decode b_Mo_calculate 1 = .ok (.iconst 0, 1) := by decide +kernel
theorem d_Mo_calculate_2 : decode b_Mo_calculate 2 = .ok (.invokevirtual 139, 3) := by decide +kernel
theorem d_Mo_calculate_5 : decode b_Mo_calculate 5 = .ok (.istore_n 2, 1) := by decide +kernel
theorem d_Mo_calculate_6 : decode b_Mo_calculate 6 = .ok (.aload_n 0, 1) := by decide +kernel
theorem d_Mo_calculate_7 : decode b_Mo_calculate 7 = .ok (.iconst 1, 1) := by decide +kernel
theorem d_Mo_calculate_8 : decode b_Mo_calculate 8 = .ok (.invokevirtual 139, 3) := by decide +kernel
theorem d_Mo_calculate_11 : decode b_Mo_calculate 11 = .ok (.istore_n 3, 1) := by decide +kernel
theorem d_Mo_calculate_12 : decode b_Mo_calculate 12 = .ok (.aload_n 0, 1) := by decide +kernel
theorem d_Mo_calculate_13 : decode b_Mo_calculate 13 = .ok (.iconst 2, 1) := by decide +kernel
theorem d_Mo_calculate_14 : decode b_Mo_calculate 14 = .ok (.invokevirtual 148, 3) := by decide +kernel
theorem d_Mo_calculate_17 : decode b_Mo_calculate 17 = .ok (.aload_n 0, 1) := by decide +kernel
theorem d_Mo_calculate_18 : decode b_Mo_calculate 18 = .ok (.iconst 1, 1) := by decide +kernel
theorem d_Mo_calculate_19 : decode b_Mo_calculate 19 = .ok (.iload_n 1, 1) := by decide +kernel
theorem d_Mo_calculate_20 : decode b_Mo_calculate 20 = .ok (.iconst 1, 1) := by decide +kernel
theorem d_Mo_calculate_21 : decode b_Mo_calculate 21 = .ok (.if_icmp .ne (9), 3) := by decide +kernel
theorem d_Mo_calculate_24 : decode b_Mo_calculate 24 = .ok (.iload_n 3, 1) := by decide +kernel
theorem d_Mo_calculate_25 : decode b_Mo_calculate 25 = .ok (.iload_n 2, 1) := by decide +kernel
theorem d_Mo_calculate_26 : decode b_Mo_calculate 26 = .ok (.iadd, 1) := by decide +kernel
theorem d_Mo_calculate_27 : decode b_Mo_calculate 27 = .ok (.goto (28), 3) := by decide +kernel
theorem d_Mo_calculate_30 : decode b_Mo_calculate 30 = .ok (.iload_n 1, 1) := by decide +kernel
theorem d_Mo_calculate_31 : decode b_Mo_calculate 31 = .ok (.iconst 2, 1) := by decide +kernel
theorem d_Mo_calculate_32 : decode b_Mo_calculate 32 = .ok (.if_icmp .ne (9), 3) := by decide +kernel
theorem d_Mo_calculate_35 : decode b_Mo_calculate 35 = .ok (.iload_n 3, 1) := by decide +kernel
theorem d_Mo_calculate_36 : decode b_Mo_calculate 36 = .ok (.iload_n 2, 1) := by decide +kernel
theorem d_Mo_calculate_37 : decode b_Mo_calculate 37 = .ok (.isub, 1) := by decide +kernel
theorem d_Mo_calculate_38 : decode b_Mo_calculate 38 = .ok (.goto (17), 3) := by decide +kernel
theorem d_Mo_calculate_41 : decode b_Mo_calculate 41 = .ok (.iload_n 1, 1) := by decide +kernel
theorem d_Mo_calculate_42 : decode b_Mo_calculate 42 = .ok (.iconst 3, 1) := by decide +kernel
theorem d_Mo_calculate_43 : decode b_Mo_calculate 43 = .ok (.if_icmp .ne (9), 3) := by decide +kernel
theorem d_Mo_calculate_46 : decode b_Mo_calculate 46 = .ok (.iload_n 3, 1) := by decide +kernel
theorem d_Mo_calculate_47 : decode b_Mo_calculate 47 = .ok (.iload_n 2, 1) := by decide +kernel
theorem d_Mo_calculate_48 : decode b_Mo_calculate 48 = .ok (.imul, 1) := by decide +kernel
theorem d_Mo_calculate_49 : decode b_Mo_calculate 49 = .ok (.goto (6), 3) := by decide +kernel
theorem d_Mo_calculate_52 : decode b_Mo_calculate 52 = .ok (.iload_n 3, 1) := by decide +kernel
theorem d_Mo_calculate_53 : decode b_Mo_calculate 53 = .ok (.iload_n 2, 1) := by decide +kernel
theorem d_Mo_calculate_54 : decode b_Mo_calculate 54 = .ok (.idiv, 1) := by decide +kernel
theorem d_Mo_calculate_55 : decode b_Mo_calculate 55 = .ok (.invokevirtual 151, 3) := by decide +kernel
theorem d_Mo_calculate_58 : decode b_Mo_calculate 58 = .ok (.return_, 1) := by decide +kernel
def y_Mo_onArrays : MethodName := ⟨"FrameVerifierModel", "onArrays", "(I)V"⟩
abbrev b_Mo_onArrays : ByteArray := prog_11_method_32_code
def rm_Mo_onArrays : Room := { frames := 1, cells := 0, slots := 0, locals := 23 }
abbrev w_Mo_onArrays : List Cond := Cond.code y_Mo_onArrays b_Mo_onArrays 4 none :: wG
theorem m_Mo_onArrays : Cond.code y_Mo_onArrays b_Mo_onArrays 4 none ∈ wG := wg_t 956 (by decide +kernel) (by decide +kernel)
theorem q_Mo_onArrays : y_Mo_onArrays.cls ≠ "java/lang/invoke/MethodHandle" ∧ y_Mo_onArrays.cls ≠ "java/lang/invoke/VarHandle" ∧ (parseMethodDescriptor y_Mo_onArrays.desc).map (fun d => d.parameters.length) = some 1 := by decide +kernel
theorem g_Mo_onArrays : Cond.initialized y_Mo_onArrays.cls ∈ wG := wg_t 6 (by decide +kernel) (by decide +kernel)
theorem s_Mo_onArrays : Cond.instanceMethod y_Mo_onArrays ∈ wG := wg_t 955 (by decide +kernel) (by decide +kernel)
theorem e_Mo_onArrays : Cond.selects "FrameVerifierModel" y_Mo_onArrays y_Mo_onArrays ∈ wG := wg_s (q := (y_Mo_onArrays, 27)) 44 (by decide +kernel) (by decide +kernel)
theorem d_Mo_onArrays_0 : decode b_Mo_onArrays 0 = .ok (.iload_n 1, 1) := by decide +kernel
theorem d_Mo_onArrays_1 : decode b_Mo_onArrays 1 = .ok (.bipush (11), 2) := by decide +kernel
theorem d_Mo_onArrays_3 : decode b_Mo_onArrays 3 = .ok (.if_icmp .ne (68), 3) := by decide +kernel
theorem d_Mo_onArrays_6 : decode b_Mo_onArrays 6 = .ok (.aload_n 0, 1) := by decide +kernel
theorem d_Mo_onArrays_7 : decode b_Mo_onArrays 7 = .ok (.iconst 0, 1) := by decide +kernel
theorem d_Mo_onArrays_8 : decode b_Mo_onArrays 8 = .ok (.invokevirtual 139, 3) := by decide +kernel
theorem d_Mo_onArrays_11 : decode b_Mo_onArrays 11 = .ok (.istore_n 2, 1) := by decide +kernel
theorem d_Mo_onArrays_12 : decode b_Mo_onArrays 12 = .ok (.aload_n 0, 1) := by decide +kernel
theorem d_Mo_onArrays_13 : decode b_Mo_onArrays 13 = .ok (.iconst 1, 1) := by decide +kernel
theorem d_Mo_onArrays_14 : decode b_Mo_onArrays 14 = .ok (.invokevirtual 148, 3) := by decide +kernel
theorem d_Mo_onArrays_17 : decode b_Mo_onArrays 17 = .ok (.aload_n 0, 1) := by decide +kernel
theorem d_Mo_onArrays_18 : decode b_Mo_onArrays 18 = .ok (.iconst 2, 1) := by decide +kernel
theorem d_Mo_onArrays_19 : decode b_Mo_onArrays 19 = .ok (.iconst 1, 1) := by decide +kernel
theorem d_Mo_onArrays_20 : decode b_Mo_onArrays 20 = .ok (.bipush (16), 2) := by decide +kernel
theorem d_Mo_onArrays_22 : decode b_Mo_onArrays 22 = .ok (.aload_n 0, 1) := by decide +kernel
theorem d_Mo_onArrays_23 : decode b_Mo_onArrays 23 = .ok (.getfield 133, 3) := by decide +kernel
theorem d_Mo_onArrays_26 : decode b_Mo_onArrays 26 = .ok (.imul, 1) := by decide +kernel
theorem d_Mo_onArrays_27 : decode b_Mo_onArrays 27 = .ok (.iadd, 1) := by decide +kernel
theorem d_Mo_onArrays_28 : decode b_Mo_onArrays 28 = .ok (.iload_n 2, 1) := by decide +kernel
theorem d_Mo_onArrays_29 : decode b_Mo_onArrays 29 = .ok (.iadd, 1) := by decide +kernel
theorem d_Mo_onArrays_30 : decode b_Mo_onArrays 30 = .ok (.invokevirtual 151, 3) := by decide +kernel
theorem d_Mo_onArrays_33 : decode b_Mo_onArrays 33 = .ok (.iconst 0, 1) := by decide +kernel
theorem d_Mo_onArrays_34 : decode b_Mo_onArrays 34 = .ok (.istore_n 3, 1) := by decide +kernel
theorem d_Mo_onArrays_35 : decode b_Mo_onArrays 35 = .ok (.iload_n 3, 1) := by decide +kernel
theorem d_Mo_onArrays_36 : decode b_Mo_onArrays 36 = .ok (.iload_n 2, 1) := by decide +kernel
theorem d_Mo_onArrays_37 : decode b_Mo_onArrays 37 = .ok (.if_icmp .ge (21), 3) := by decide +kernel
theorem d_Mo_onArrays_40 : decode b_Mo_onArrays 40 = .ok (.aload_n 0, 1) := by decide +kernel
theorem d_Mo_onArrays_41 : decode b_Mo_onArrays 41 = .ok (.getfield 56, 3) := by decide +kernel
theorem d_Mo_onArrays_44 : decode b_Mo_onArrays 44 = .ok (.aload_n 0, 1) := by decide +kernel
theorem d_Mo_onArrays_45 : decode b_Mo_onArrays 45 = .ok (.getfield 133, 3) := by decide +kernel
theorem d_Mo_onArrays_48 : decode b_Mo_onArrays 48 = .ok (.iload_n 3, 1) := by decide +kernel
theorem d_Mo_onArrays_49 : decode b_Mo_onArrays 49 = .ok (.iadd, 1) := by decide +kernel
theorem d_Mo_onArrays_50 : decode b_Mo_onArrays 50 = .ok (.iconst 0, 1) := by decide +kernel
theorem d_Mo_onArrays_51 : decode b_Mo_onArrays 51 = .ok (.iastore, 1) := by decide +kernel
theorem d_Mo_onArrays_52 : decode b_Mo_onArrays 52 = .ok (.iinc 3 (1), 3) := by decide +kernel
theorem d_Mo_onArrays_55 : decode b_Mo_onArrays 55 = .ok (.goto (-20), 3) := by decide +kernel
theorem d_Mo_onArrays_58 : decode b_Mo_onArrays 58 = .ok (.aload_n 0, 1) := by decide +kernel
theorem d_Mo_onArrays_59 : decode b_Mo_onArrays 59 = .ok (.dup, 1) := by decide +kernel
theorem d_Mo_onArrays_60 : decode b_Mo_onArrays 60 = .ok (.getfield 133, 3) := by decide +kernel
theorem d_Mo_onArrays_63 : decode b_Mo_onArrays 63 = .ok (.iload_n 2, 1) := by decide +kernel
theorem d_Mo_onArrays_64 : decode b_Mo_onArrays 64 = .ok (.iadd, 1) := by decide +kernel
theorem d_Mo_onArrays_65 : decode b_Mo_onArrays 65 = .ok (.putfield 133, 3) := by decide +kernel
theorem d_Mo_onArrays_68 : decode b_Mo_onArrays 68 = .ok (.goto (105), 3) := by decide +kernel
theorem d_Mo_onArrays_71 : decode b_Mo_onArrays 71 = .ok (.iload_n 1, 1) := by decide +kernel
theorem d_Mo_onArrays_72 : decode b_Mo_onArrays 72 = .ok (.bipush (12), 2) := by decide +kernel
theorem d_Mo_onArrays_74 : decode b_Mo_onArrays 74 = .ok (.if_icmp .ne (39), 3) := by decide +kernel
theorem d_Mo_onArrays_77 : decode b_Mo_onArrays 77 = .ok (.aload_n 0, 1) := by decide +kernel
theorem d_Mo_onArrays_78 : decode b_Mo_onArrays 78 = .ok (.getfield 56, 3) := by decide +kernel
theorem d_Mo_onArrays_81 : decode b_Mo_onArrays 81 = .ok (.aload_n 0, 1) := by decide +kernel
theorem d_Mo_onArrays_82 : decode b_Mo_onArrays 82 = .ok (.iconst 1, 1) := by decide +kernel
theorem d_Mo_onArrays_83 : decode b_Mo_onArrays 83 = .ok (.invokevirtual 139, 3) := by decide +kernel
theorem d_Mo_onArrays_86 : decode b_Mo_onArrays 86 = .ok (.iconst 1, 1) := by decide +kernel
theorem d_Mo_onArrays_87 : decode b_Mo_onArrays 87 = .ok (.isub, 1) := by decide +kernel
theorem d_Mo_onArrays_88 : decode b_Mo_onArrays 88 = .ok (.bipush (16), 2) := by decide +kernel
theorem d_Mo_onArrays_90 : decode b_Mo_onArrays 90 = .ok (.idiv, 1) := by decide +kernel
theorem d_Mo_onArrays_91 : decode b_Mo_onArrays 91 = .ok (.aload_n 0, 1) := by decide +kernel
theorem d_Mo_onArrays_92 : decode b_Mo_onArrays 92 = .ok (.iconst 0, 1) := by decide +kernel
theorem d_Mo_onArrays_93 : decode b_Mo_onArrays 93 = .ok (.invokevirtual 139, 3) := by decide +kernel
theorem d_Mo_onArrays_96 : decode b_Mo_onArrays 96 = .ok (.iadd, 1) := by decide +kernel
theorem d_Mo_onArrays_97 : decode b_Mo_onArrays 97 = .ok (.iaload, 1) := by decide +kernel
theorem d_Mo_onArrays_98 : decode b_Mo_onArrays 98 = .ok (.istore_n 2, 1) := by decide +kernel
theorem d_Mo_onArrays_99 : decode b_Mo_onArrays 99 = .ok (.aload_n 0, 1) := by decide +kernel
theorem d_Mo_onArrays_100 : decode b_Mo_onArrays 100 = .ok (.iconst 2, 1) := by decide +kernel
theorem d_Mo_onArrays_101 : decode b_Mo_onArrays 101 = .ok (.invokevirtual 148, 3) := by decide +kernel
theorem d_Mo_onArrays_104 : decode b_Mo_onArrays 104 = .ok (.aload_n 0, 1) := by decide +kernel
theorem d_Mo_onArrays_105 : decode b_Mo_onArrays 105 = .ok (.iconst 1, 1) := by decide +kernel
theorem d_Mo_onArrays_106 : decode b_Mo_onArrays 106 = .ok (.iload_n 2, 1) := by decide +kernel
theorem d_Mo_onArrays_107 : decode b_Mo_onArrays 107 = .ok (.invokevirtual 151, 3) := by decide +kernel
theorem d_Mo_onArrays_110 : decode b_Mo_onArrays 110 = .ok (.goto (63), 3) := by decide +kernel
theorem d_Mo_onArrays_113 : decode b_Mo_onArrays 113 = .ok (.iload_n 1, 1) := by decide +kernel
theorem d_Mo_onArrays_114 : decode b_Mo_onArrays 114 = .ok (.bipush (13), 2) := by decide +kernel
theorem d_Mo_onArrays_116 : decode b_Mo_onArrays 116 = .ok (.if_icmp .ne (37), 3) := by decide +kernel
theorem d_Mo_onArrays_119 : decode b_Mo_onArrays 119 = .ok (.aload_n 0, 1) := by decide +kernel
theorem d_Mo_onArrays_120 : decode b_Mo_onArrays 120 = .ok (.getfield 56, 3) := by decide +kernel
theorem d_Mo_onArrays_123 : decode b_Mo_onArrays 123 = .ok (.aload_n 0, 1) := by decide +kernel
theorem d_Mo_onArrays_124 : decode b_Mo_onArrays 124 = .ok (.iconst 2, 1) := by decide +kernel
theorem d_Mo_onArrays_125 : decode b_Mo_onArrays 125 = .ok (.invokevirtual 139, 3) := by decide +kernel
theorem d_Mo_onArrays_128 : decode b_Mo_onArrays 128 = .ok (.iconst 1, 1) := by decide +kernel
theorem d_Mo_onArrays_129 : decode b_Mo_onArrays 129 = .ok (.isub, 1) := by decide +kernel
theorem d_Mo_onArrays_130 : decode b_Mo_onArrays 130 = .ok (.bipush (16), 2) := by decide +kernel
theorem d_Mo_onArrays_132 : decode b_Mo_onArrays 132 = .ok (.idiv, 1) := by decide +kernel
theorem d_Mo_onArrays_133 : decode b_Mo_onArrays 133 = .ok (.aload_n 0, 1) := by decide +kernel
theorem d_Mo_onArrays_134 : decode b_Mo_onArrays 134 = .ok (.iconst 1, 1) := by decide +kernel
theorem d_Mo_onArrays_135 : decode b_Mo_onArrays 135 = .ok (.invokevirtual 139, 3) := by decide +kernel
theorem d_Mo_onArrays_138 : decode b_Mo_onArrays 138 = .ok (.iadd, 1) := by decide +kernel
theorem d_Mo_onArrays_139 : decode b_Mo_onArrays 139 = .ok (.aload_n 0, 1) := by decide +kernel
theorem d_Mo_onArrays_140 : decode b_Mo_onArrays 140 = .ok (.iconst 0, 1) := by decide +kernel
theorem d_Mo_onArrays_141 : decode b_Mo_onArrays 141 = .ok (.invokevirtual 139, 3) := by decide +kernel
theorem d_Mo_onArrays_144 : decode b_Mo_onArrays 144 = .ok (.iastore, 1) := by decide +kernel
theorem d_Mo_onArrays_145 : decode b_Mo_onArrays 145 = .ok (.aload_n 0, 1) := by decide +kernel
theorem d_Mo_onArrays_146 : decode b_Mo_onArrays 146 = .ok (.iconst 3, 1) := by decide +kernel
theorem d_Mo_onArrays_147 : decode b_Mo_onArrays 147 = .ok (.invokevirtual 148, 3) := by decide +kernel
theorem d_Mo_onArrays_150 : decode b_Mo_onArrays 150 = .ok (.goto (23), 3) := by decide +kernel
theorem d_Mo_onArrays_153 : decode b_Mo_onArrays 153 = .ok (.aload_n 0, 1) := by decide +kernel
theorem d_Mo_onArrays_154 : decode b_Mo_onArrays 154 = .ok (.iconst 0, 1) := by decide +kernel
theorem d_Mo_onArrays_155 : decode b_Mo_onArrays 155 = .ok (.invokevirtual 139, 3) := by decide +kernel
theorem d_Mo_onArrays_158 : decode b_Mo_onArrays 158 = .ok (.invokestatic 145, 3) := by decide +kernel
theorem d_Mo_onArrays_161 : decode b_Mo_onArrays 161 = .ok (.istore_n 2, 1) := by decide +kernel
theorem d_Mo_onArrays_162 : decode b_Mo_onArrays 162 = .ok (.aload_n 0, 1) := by decide +kernel
theorem d_Mo_onArrays_163 : decode b_Mo_onArrays 163 = .ok (.iconst 1, 1) := by decide +kernel
theorem d_Mo_onArrays_164 : decode b_Mo_onArrays 164 = .ok (.invokevirtual 148, 3) := by decide +kernel
theorem d_Mo_onArrays_167 : decode b_Mo_onArrays 167 = .ok (.aload_n 0, 1) := by decide +kernel
theorem d_Mo_onArrays_168 : decode b_Mo_onArrays 168 = .ok (.iconst 1, 1) := by decide +kernel
theorem d_Mo_onArrays_169 : decode b_Mo_onArrays 169 = .ok (.iload_n 2, 1) := by decide +kernel
theorem d_Mo_onArrays_170 : decode b_Mo_onArrays 170 = .ok (.invokevirtual 151, 3) := by decide +kernel
theorem d_Mo_onArrays_173 : decode b_Mo_onArrays 173 = .ok (.return_, 1) := by decide +kernel
def y_Mo_onPlaces : MethodName := ⟨"FrameVerifierModel", "onPlaces", "(II)V"⟩
abbrev b_Mo_onPlaces : ByteArray := prog_11_method_33_code
def rm_Mo_onPlaces : Room := { frames := 1, cells := 0, slots := 0, locals := 23 }
abbrev w_Mo_onPlaces : List Cond := Cond.code y_Mo_onPlaces b_Mo_onPlaces 7 none :: wG
theorem m_Mo_onPlaces : Cond.code y_Mo_onPlaces b_Mo_onPlaces 7 none ∈ wG := wg_t 971 (by decide +kernel) (by decide +kernel)
theorem q_Mo_onPlaces : y_Mo_onPlaces.cls ≠ "java/lang/invoke/MethodHandle" ∧ y_Mo_onPlaces.cls ≠ "java/lang/invoke/VarHandle" ∧ (parseMethodDescriptor y_Mo_onPlaces.desc).map (fun d => d.parameters.length) = some 2 := by decide +kernel
theorem g_Mo_onPlaces : Cond.initialized y_Mo_onPlaces.cls ∈ wG := wg_t 6 (by decide +kernel) (by decide +kernel)
theorem s_Mo_onPlaces : Cond.instanceMethod y_Mo_onPlaces ∈ wG := wg_t 970 (by decide +kernel) (by decide +kernel)
theorem e_Mo_onPlaces : Cond.selects "FrameVerifierModel" y_Mo_onPlaces y_Mo_onPlaces ∈ wG := wg_s (q := (y_Mo_onPlaces, 27)) 47 (by decide +kernel) (by decide +kernel)
theorem d_Mo_onPlaces_0 : decode b_Mo_onPlaces 0 = .ok (.bipush (12), 2) := by decide +kernel
theorem d_Mo_onPlaces_2 : decode b_Mo_onPlaces 2 = .ok (.aload_n 0, 1) := by decide +kernel
theorem d_Mo_onPlaces_3 : decode b_Mo_onPlaces 3 = .ok (.getfield 130, 3) := by decide +kernel
theorem d_Mo_onPlaces_6 : decode b_Mo_onPlaces 6 = .ok (.iconst 1, 1) := by decide +kernel
theorem d_Mo_onPlaces_7 : decode b_Mo_onPlaces 7 = .ok (.isub, 1) := by decide +kernel
theorem d_Mo_onPlaces_8 : decode b_Mo_onPlaces 8 = .ok (.imul, 1) := by decide +kernel
theorem d_Mo_onPlaces_9 : decode b_Mo_onPlaces 9 = .ok (.istore_n 3, 1) := by decide +kernel
theorem d_Mo_onPlaces_10 : decode b_Mo_onPlaces 10 = .ok (.iload_n 3, 1) := by decide +kernel
theorem d_Mo_onPlaces_11 : decode b_Mo_onPlaces 11 = .ok (.iconst 5, 1) := by decide +kernel
theorem d_Mo_onPlaces_12 : decode b_Mo_onPlaces 12 = .ok (.iadd, 1) := by decide +kernel
theorem d_Mo_onPlaces_13 : decode b_Mo_onPlaces 13 = .ok (.aload_n 0, 1) := by decide +kernel
theorem d_Mo_onPlaces_14 : decode b_Mo_onPlaces 14 = .ok (.getfield 47, 3) := by decide +kernel
theorem d_Mo_onPlaces_17 : decode b_Mo_onPlaces 17 = .ok (.aload_n 0, 1) := by decide +kernel
theorem d_Mo_onPlaces_18 : decode b_Mo_onPlaces 18 = .ok (.getfield 130, 3) := by decide +kernel
theorem d_Mo_onPlaces_21 : decode b_Mo_onPlaces 21 = .ok (.iconst 1, 1) := by decide +kernel
theorem d_Mo_onPlaces_22 : decode b_Mo_onPlaces 22 = .ok (.isub, 1) := by decide +kernel
theorem d_Mo_onPlaces_23 : decode b_Mo_onPlaces 23 = .ok (.iaload, 1) := by decide +kernel
theorem d_Mo_onPlaces_24 : decode b_Mo_onPlaces 24 = .ok (.iadd, 1) := by decide +kernel
theorem d_Mo_onPlaces_25 : decode b_Mo_onPlaces 25 = .ok (.istore 4, 2) := by decide +kernel
theorem d_Mo_onPlaces_27 : decode b_Mo_onPlaces 27 = .ok (.iload_n 1, 1) := by decide +kernel
theorem d_Mo_onPlaces_28 : decode b_Mo_onPlaces 28 = .ok (.iconst 5, 1) := by decide +kernel
theorem d_Mo_onPlaces_29 : decode b_Mo_onPlaces 29 = .ok (.if_icmp .ne (26), 3) := by decide +kernel
theorem d_Mo_onPlaces_32 : decode b_Mo_onPlaces 32 = .ok (.aload_n 0, 1) := by decide +kernel
theorem d_Mo_onPlaces_33 : decode b_Mo_onPlaces 33 = .ok (.aload_n 0, 1) := by decide +kernel
theorem d_Mo_onPlaces_34 : decode b_Mo_onPlaces 34 = .ok (.getfield 53, 3) := by decide +kernel
theorem d_Mo_onPlaces_37 : decode b_Mo_onPlaces 37 = .ok (.iload_n 3, 1) := by decide +kernel
theorem d_Mo_onPlaces_38 : decode b_Mo_onPlaces 38 = .ok (.iload_n 2, 1) := by decide +kernel
theorem d_Mo_onPlaces_39 : decode b_Mo_onPlaces 39 = .ok (.iadd, 1) := by decide +kernel
theorem d_Mo_onPlaces_40 : decode b_Mo_onPlaces 40 = .ok (.iaload, 1) := by decide +kernel
theorem d_Mo_onPlaces_41 : decode b_Mo_onPlaces 41 = .ok (.aload_n 0, 1) := by decide +kernel
theorem d_Mo_onPlaces_42 : decode b_Mo_onPlaces 42 = .ok (.getfield 50, 3) := by decide +kernel
theorem d_Mo_onPlaces_45 : decode b_Mo_onPlaces 45 = .ok (.iload_n 3, 1) := by decide +kernel
theorem d_Mo_onPlaces_46 : decode b_Mo_onPlaces 46 = .ok (.iload_n 2, 1) := by decide +kernel
theorem d_Mo_onPlaces_47 : decode b_Mo_onPlaces 47 = .ok (.iadd, 1) := by decide +kernel
theorem d_Mo_onPlaces_48 : decode b_Mo_onPlaces 48 = .ok (.iaload, 1) := by decide +kernel
theorem d_Mo_onPlaces_49 : decode b_Mo_onPlaces 49 = .ok (.invokevirtual 151, 3) := by decide +kernel
theorem d_Mo_onPlaces_52 : decode b_Mo_onPlaces 52 = .ok (.goto (160), 3) := by decide +kernel
theorem d_Mo_onPlaces_55 : decode b_Mo_onPlaces 55 = .ok (.iload_n 1, 1) := by decide +kernel
theorem d_Mo_onPlaces_56 : decode b_Mo_onPlaces 56 = .ok (.bipush (6), 2) := by decide +kernel
theorem d_Mo_onPlaces_58 : decode b_Mo_onPlaces 58 = .ok (.if_icmp .ne (41), 3) := by decide +kernel
theorem d_Mo_onPlaces_61 : decode b_Mo_onPlaces 61 = .ok (.aload_n 0, 1) := by decide +kernel
theorem d_Mo_onPlaces_62 : decode b_Mo_onPlaces 62 = .ok (.getfield 53, 3) := by decide +kernel
theorem d_Mo_onPlaces_65 : decode b_Mo_onPlaces 65 = .ok (.iload_n 3, 1) := by decide +kernel
theorem d_Mo_onPlaces_66 : decode b_Mo_onPlaces 66 = .ok (.iload_n 2, 1) := by decide +kernel
theorem d_Mo_onPlaces_67 : decode b_Mo_onPlaces 67 = .ok (.iadd, 1) := by decide +kernel
theorem d_Mo_onPlaces_68 : decode b_Mo_onPlaces 68 = .ok (.aload_n 0, 1) := by decide +kernel
theorem d_Mo_onPlaces_69 : decode b_Mo_onPlaces 69 = .ok (.getfield 53, 3) := by decide +kernel
theorem d_Mo_onPlaces_72 : decode b_Mo_onPlaces 72 = .ok (.iload 4, 2) := by decide +kernel
theorem d_Mo_onPlaces_74 : decode b_Mo_onPlaces 74 = .ok (.iaload, 1) := by decide +kernel
theorem d_Mo_onPlaces_75 : decode b_Mo_onPlaces 75 = .ok (.iastore, 1) := by decide +kernel
theorem d_Mo_onPlaces_76 : decode b_Mo_onPlaces 76 = .ok (.aload_n 0, 1) := by decide +kernel
theorem d_Mo_onPlaces_77 : decode b_Mo_onPlaces 77 = .ok (.getfield 50, 3) := by decide +kernel
theorem d_Mo_onPlaces_80 : decode b_Mo_onPlaces 80 = .ok (.iload_n 3, 1) := by decide +kernel
theorem d_Mo_onPlaces_81 : decode b_Mo_onPlaces 81 = .ok (.iload_n 2, 1) := by decide +kernel
theorem d_Mo_onPlaces_82 : decode b_Mo_onPlaces 82 = .ok (.iadd, 1) := by decide +kernel
theorem d_Mo_onPlaces_83 : decode b_Mo_onPlaces 83 = .ok (.aload_n 0, 1) := by decide +kernel
theorem d_Mo_onPlaces_84 : decode b_Mo_onPlaces 84 = .ok (.getfield 50, 3) := by decide +kernel
theorem d_Mo_onPlaces_87 : decode b_Mo_onPlaces 87 = .ok (.iload 4, 2) := by decide +kernel
theorem d_Mo_onPlaces_89 : decode b_Mo_onPlaces 89 = .ok (.iaload, 1) := by decide +kernel
theorem d_Mo_onPlaces_90 : decode b_Mo_onPlaces 90 = .ok (.iastore, 1) := by decide +kernel
theorem d_Mo_onPlaces_91 : decode b_Mo_onPlaces 91 = .ok (.aload_n 0, 1) := by decide +kernel
theorem d_Mo_onPlaces_92 : decode b_Mo_onPlaces 92 = .ok (.iconst 1, 1) := by decide +kernel
theorem d_Mo_onPlaces_93 : decode b_Mo_onPlaces 93 = .ok (.invokevirtual 148, 3) := by decide +kernel
theorem d_Mo_onPlaces_96 : decode b_Mo_onPlaces 96 = .ok (.goto (116), 3) := by decide +kernel
theorem d_Mo_onPlaces_99 : decode b_Mo_onPlaces 99 = .ok (.iload_n 1, 1) := by decide +kernel
theorem d_Mo_onPlaces_100 : decode b_Mo_onPlaces 100 = .ok (.bipush (15), 2) := by decide +kernel
theorem d_Mo_onPlaces_102 : decode b_Mo_onPlaces 102 = .ok (.if_icmp .ne (24), 3) := by decide +kernel
theorem d_Mo_onPlaces_105 : decode b_Mo_onPlaces 105 = .ok (.aload_n 0, 1) := by decide +kernel
theorem d_Mo_onPlaces_106 : decode b_Mo_onPlaces 106 = .ok (.aload_n 0, 1) := by decide +kernel
theorem d_Mo_onPlaces_107 : decode b_Mo_onPlaces 107 = .ok (.getfield 53, 3) := by decide +kernel
theorem d_Mo_onPlaces_110 : decode b_Mo_onPlaces 110 = .ok (.iload 4, 2) := by decide +kernel
theorem d_Mo_onPlaces_112 : decode b_Mo_onPlaces 112 = .ok (.iaload, 1) := by decide +kernel
theorem d_Mo_onPlaces_113 : decode b_Mo_onPlaces 113 = .ok (.aload_n 0, 1) := by decide +kernel
theorem d_Mo_onPlaces_114 : decode b_Mo_onPlaces 114 = .ok (.getfield 50, 3) := by decide +kernel
theorem d_Mo_onPlaces_117 : decode b_Mo_onPlaces 117 = .ok (.iload 4, 2) := by decide +kernel
theorem d_Mo_onPlaces_119 : decode b_Mo_onPlaces 119 = .ok (.iaload, 1) := by decide +kernel
theorem d_Mo_onPlaces_120 : decode b_Mo_onPlaces 120 = .ok (.invokevirtual 151, 3) := by decide +kernel
theorem d_Mo_onPlaces_123 : decode b_Mo_onPlaces 123 = .ok (.goto (89), 3) := by decide +kernel
theorem d_Mo_onPlaces_126 : decode b_Mo_onPlaces 126 = .ok (.iload_n 1, 1) := by decide +kernel
theorem d_Mo_onPlaces_127 : decode b_Mo_onPlaces 127 = .ok (.bipush (16), 2) := by decide +kernel
theorem d_Mo_onPlaces_129 : decode b_Mo_onPlaces 129 = .ok (.if_icmp .ne (78), 3) := by decide +kernel
theorem d_Mo_onPlaces_132 : decode b_Mo_onPlaces 132 = .ok (.aload_n 0, 1) := by decide +kernel
theorem d_Mo_onPlaces_133 : decode b_Mo_onPlaces 133 = .ok (.getfield 53, 3) := by decide +kernel
theorem d_Mo_onPlaces_136 : decode b_Mo_onPlaces 136 = .ok (.iload 4, 2) := by decide +kernel
theorem d_Mo_onPlaces_138 : decode b_Mo_onPlaces 138 = .ok (.iaload, 1) := by decide +kernel
theorem d_Mo_onPlaces_139 : decode b_Mo_onPlaces 139 = .ok (.istore 5, 2) := by decide +kernel
theorem d_Mo_onPlaces_141 : decode b_Mo_onPlaces 141 = .ok (.aload_n 0, 1) := by decide +kernel
theorem d_Mo_onPlaces_142 : decode b_Mo_onPlaces 142 = .ok (.getfield 50, 3) := by decide +kernel
theorem d_Mo_onPlaces_145 : decode b_Mo_onPlaces 145 = .ok (.iload 4, 2) := by decide +kernel
theorem d_Mo_onPlaces_147 : decode b_Mo_onPlaces 147 = .ok (.iaload, 1) := by decide +kernel
theorem d_Mo_onPlaces_148 : decode b_Mo_onPlaces 148 = .ok (.istore 6, 2) := by decide +kernel
theorem d_Mo_onPlaces_150 : decode b_Mo_onPlaces 150 = .ok (.aload_n 0, 1) := by decide +kernel
theorem d_Mo_onPlaces_151 : decode b_Mo_onPlaces 151 = .ok (.getfield 53, 3) := by decide +kernel
theorem d_Mo_onPlaces_154 : decode b_Mo_onPlaces 154 = .ok (.iload 4, 2) := by decide +kernel
theorem d_Mo_onPlaces_156 : decode b_Mo_onPlaces 156 = .ok (.aload_n 0, 1) := by decide +kernel
theorem d_Mo_onPlaces_157 : decode b_Mo_onPlaces 157 = .ok (.getfield 53, 3) := by decide +kernel
theorem d_Mo_onPlaces_160 : decode b_Mo_onPlaces 160 = .ok (.iload 4, 2) := by decide +kernel
theorem d_Mo_onPlaces_162 : decode b_Mo_onPlaces 162 = .ok (.iconst 1, 1) := by decide +kernel
theorem d_Mo_onPlaces_163 : decode b_Mo_onPlaces 163 = .ok (.isub, 1) := by decide +kernel
theorem d_Mo_onPlaces_164 : decode b_Mo_onPlaces 164 = .ok (.iaload, 1) := by decide +kernel
theorem d_Mo_onPlaces_165 : decode b_Mo_onPlaces 165 = .ok (.iastore, 1) := by decide +kernel
theorem d_Mo_onPlaces_166 : decode b_Mo_onPlaces 166 = .ok (.aload_n 0, 1) := by decide +kernel
theorem d_Mo_onPlaces_167 : decode b_Mo_onPlaces 167 = .ok (.getfield 50, 3) := by decide +kernel
theorem d_Mo_onPlaces_170 : decode b_Mo_onPlaces 170 = .ok (.iload 4, 2) := by decide +kernel
theorem d_Mo_onPlaces_172 : decode b_Mo_onPlaces 172 = .ok (.aload_n 0, 1) := by decide +kernel
theorem d_Mo_onPlaces_173 : decode b_Mo_onPlaces 173 = .ok (.getfield 50, 3) := by decide +kernel

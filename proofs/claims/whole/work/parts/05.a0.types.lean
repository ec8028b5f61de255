/-! names of 05.types -/
def y_Ty_height : MethodName := ⟨"FrameVerifier$Types", "height", "(I)I"⟩
abbrev b_Ty_height : ByteArray := prog_9_method_2_code
def rm_Ty_height : Room := { frames := 0, cells := 0, slots := 0, locals := 0 }
abbrev w_Ty_height : List Cond := Cond.code y_Ty_height b_Ty_height 1 (some .int) :: wG
theorem m_Ty_height : Cond.code y_Ty_height b_Ty_height 1 (some .int) ∈ wG := wg_t 216 (by decide +kernel) (by decide +kernel)
theorem q_Ty_height : y_Ty_height.cls ≠ "java/lang/invoke/MethodHandle" ∧ y_Ty_height.cls ≠ "java/lang/invoke/VarHandle" ∧ (parseMethodDescriptor y_Ty_height.desc).map (fun d => d.parameters.length) = some 1 := by decide +kernel
theorem g_Ty_height : Cond.initialized y_Ty_height.cls ∈ wG := wg_t 11 (by decide +kernel) (by decide +kernel)
theorem s_Ty_height : Cond.static y_Ty_height ∈ wG := wg_t 215 (by decide +kernel) (by decide +kernel)
theorem d_Ty_height_0 : decode b_Ty_height 0 = .ok (.iload_n 0, 1) := by decide +kernel
theorem d_Ty_height_1 : decode b_Ty_height 1 = .ok (.bipush (7), 2) := by decide +kernel
theorem d_Ty_height_3 : decode b_Ty_height 3 = .ok (.iand, 1) := by decide +kernel
theorem d_Ty_height_4 : decode b_Ty_height 4 = .ok (.ireturn, 1) := by decide +kernel
def y_Ty_at : MethodName := ⟨"FrameVerifier$Types", "at", "(II)I"⟩
abbrev b_Ty_at : ByteArray := prog_9_method_3_code
def rm_Ty_at : Room := { frames := 0, cells := 0, slots := 0, locals := 0 }
abbrev w_Ty_at : List Cond := Cond.code y_Ty_at b_Ty_at 2 (some .int) :: wG
theorem m_Ty_at : Cond.code y_Ty_at b_Ty_at 2 (some .int) ∈ wG := wg_t 219 (by decide +kernel) (by decide +kernel)
theorem q_Ty_at : y_Ty_at.cls ≠ "java/lang/invoke/MethodHandle" ∧ y_Ty_at.cls ≠ "java/lang/invoke/VarHandle" ∧ (parseMethodDescriptor y_Ty_at.desc).map (fun d => d.parameters.length) = some 2 := by decide +kernel
theorem g_Ty_at : Cond.initialized y_Ty_at.cls ∈ wG := wg_t 11 (by decide +kernel) (by decide +kernel)
theorem s_Ty_at : Cond.static y_Ty_at ∈ wG := wg_t 218 (by decide +kernel) (by decide +kernel)
theorem d_Ty_at_0 : decode b_Ty_at 0 = .ok (.iload_n 0, 1) := by decide +kernel
theorem d_Ty_at_1 : decode b_Ty_at 1 = .ok (.iconst 3, 1) := by decide +kernel
theorem d_Ty_at_2 : decode b_Ty_at 2 = .ok (.iconst 2, 1) := by decide +kernel
theorem d_Ty_at_3 : decode b_Ty_at 3 = .ok (.iload_n 1, 1) := by decide +kernel
theorem d_Ty_at_4 : decode b_Ty_at 4 = .ok (.imul, 1) := by decide +kernel
theorem d_Ty_at_5 : decode b_Ty_at 5 = .ok (.iadd, 1) := by decide +kernel
theorem d_Ty_at_6 : decode b_Ty_at 6 = .ok (.ishr, 1) := by decide +kernel
theorem d_Ty_at_7 : decode b_Ty_at 7 = .ok (.iconst 3, 1) := by decide +kernel
theorem d_Ty_at_8 : decode b_Ty_at 8 = .ok (.iand, 1) := by decide +kernel
theorem d_Ty_at_9 : decode b_Ty_at 9 = .ok (.ireturn, 1) := by decide +kernel
def y_Ty_with : MethodName := ⟨"FrameVerifier$Types", "with", "(III)I"⟩
abbrev b_Ty_with : ByteArray := prog_9_method_4_code
def rm_Ty_with : Room := { frames := 0, cells := 0, slots := 0, locals := 0 }
abbrev w_Ty_with : List Cond := Cond.code y_Ty_with b_Ty_with 4 (some .int) :: wG
theorem m_Ty_with : Cond.code y_Ty_with b_Ty_with 4 (some .int) ∈ wG := wg_t 206 (by decide +kernel) (by decide +kernel)
theorem q_Ty_with : y_Ty_with.cls ≠ "java/lang/invoke/MethodHandle" ∧ y_Ty_with.cls ≠ "java/lang/invoke/VarHandle" ∧ (parseMethodDescriptor y_Ty_with.desc).map (fun d => d.parameters.length) = some 3 := by decide +kernel
theorem g_Ty_with : Cond.initialized y_Ty_with.cls ∈ wG := wg_t 11 (by decide +kernel) (by decide +kernel)
theorem s_Ty_with : Cond.static y_Ty_with ∈ wG := wg_t 205 (by decide +kernel) (by decide +kernel)
theorem d_Ty_with_0 : decode b_Ty_with 0 = .ok (.iconst 3, 1) := by decide +kernel
theorem d_Ty_with_1 : decode b_Ty_with 1 = .ok (.iconst 2, 1) := by decide +kernel
theorem d_Ty_with_2 : decode b_Ty_with 2 = .ok (.iload_n 1, 1) := by decide +kernel
theorem d_Ty_with_3 : decode b_Ty_with 3 = .ok (.imul, 1) := by decide +kernel
theorem d_Ty_with_4 : decode b_Ty_with 4 = .ok (.iadd, 1) := by decide +kernel
theorem d_Ty_with_5 : decode b_Ty_with 5 = .ok (.istore_n 3, 1) := by decide +kernel
theorem d_Ty_with_6 : decode b_Ty_with 6 = .ok (.iload_n 0, 1) := by decide +kernel
theorem d_Ty_with_7 : decode b_Ty_with 7 = .ok (.iconst 3, 1) := by decide +kernel
theorem d_Ty_with_8 : decode b_Ty_with 8 = .ok (.iload_n 3, 1) := by decide +kernel
theorem d_Ty_with_9 : decode b_Ty_with 9 = .ok (.ishl, 1) := by decide +kernel
theorem d_Ty_with_10 : decode b_Ty_with 10 = .ok (.iconst (-1), 1) := by decide +kernel
theorem d_Ty_with_11 : decode b_Ty_with 11 = .ok (.ixor, 1) := by decide +kernel
theorem d_Ty_with_12 : decode b_Ty_with 12 = .ok (.iand, 1) := by decide +kernel
theorem d_Ty_with_13 : decode b_Ty_with 13 = .ok (.iload_n 2, 1) := by decide +kernel
theorem d_Ty_with_14 : decode b_Ty_with 14 = .ok (.iload_n 3, 1) := by decide +kernel
theorem d_Ty_with_15 : decode b_Ty_with 15 = .ok (.ishl, 1) := by decide +kernel
theorem d_Ty_with_16 : decode b_Ty_with 16 = .ok (.ior, 1) := by decide +kernel
theorem d_Ty_with_17 : decode b_Ty_with 17 = .ok (.ireturn, 1) := by decide +kernel
def y_Ty_slotBelow : MethodName := ⟨"FrameVerifier$Types", "slotBelow", "(II)I"⟩
abbrev b_Ty_slotBelow : ByteArray := prog_9_method_5_code
def rm_Ty_slotBelow : Room := { frames := 0, cells := 0, slots := 0, locals := 0 }
abbrev w_Ty_slotBelow : List Cond := Cond.code y_Ty_slotBelow b_Ty_slotBelow 2 (some .int) :: wG
theorem m_Ty_slotBelow : Cond.code y_Ty_slotBelow b_Ty_slotBelow 2 (some .int) ∈ wG := wg_t 347 (by decide +kernel) (by decide +kernel)
theorem q_Ty_slotBelow : y_Ty_slotBelow.cls ≠ "java/lang/invoke/MethodHandle" ∧ y_Ty_slotBelow.cls ≠ "java/lang/invoke/VarHandle" ∧ (parseMethodDescriptor y_Ty_slotBelow.desc).map (fun d => d.parameters.length) = some 2 := by decide +kernel
theorem g_Ty_slotBelow : Cond.initialized y_Ty_slotBelow.cls ∈ wG := wg_t 11 (by decide +kernel) (by decide +kernel)
theorem s_Ty_slotBelow : Cond.static y_Ty_slotBelow ∈ wG := wg_t 346 (by decide +kernel) (by decide +kernel)
theorem d_Ty_slotBelow_0 : decode b_Ty_slotBelow 0 = .ok (.bipush (6), 2) := by decide +kernel
theorem d_Ty_slotBelow_2 : decode b_Ty_slotBelow 2 = .ok (.iload_n 0, 1) := by decide +kernel
theorem d_Ty_slotBelow_3 : decode b_Ty_slotBelow 3 = .ok (.bipush (7), 2) := by decide +kernel
theorem d_Ty_slotBelow_5 : decode b_Ty_slotBelow 5 = .ok (.iand, 1) := by decide +kernel
theorem d_Ty_slotBelow_6 : decode b_Ty_slotBelow 6 = .ok (.iadd, 1) := by decide +kernel
theorem d_Ty_slotBelow_7 : decode b_Ty_slotBelow 7 = .ok (.iconst 1, 1) := by decide +kernel
theorem d_Ty_slotBelow_8 : decode b_Ty_slotBelow 8 = .ok (.isub, 1) := by decide +kernel
theorem d_Ty_slotBelow_9 : decode b_Ty_slotBelow 9 = .ok (.iload_n 1, 1) := by decide +kernel
theorem d_Ty_slotBelow_10 : decode b_Ty_slotBelow 10 = .ok (.isub, 1) := by decide +kernel
theorem d_Ty_slotBelow_11 : decode b_Ty_slotBelow 11 = .ok (.ireturn, 1) := by decide +kernel
def y_Ty_below : MethodName := ⟨"FrameVerifier$Types", "below", "(II)I"⟩
abbrev b_Ty_below : ByteArray := prog_9_method_6_code
def rm_Ty_below : Room := { frames := 1, cells := 0, slots := 0, locals := 21 }
abbrev w_Ty_below : List Cond := Cond.code y_Ty_below b_Ty_below 2 (some .int) :: wG
theorem m_Ty_below : Cond.code y_Ty_below b_Ty_below 2 (some .int) ∈ wG := wg_t 344 (by decide +kernel) (by decide +kernel)
theorem q_Ty_below : y_Ty_below.cls ≠ "java/lang/invoke/MethodHandle" ∧ y_Ty_below.cls ≠ "java/lang/invoke/VarHandle" ∧ (parseMethodDescriptor y_Ty_below.desc).map (fun d => d.parameters.length) = some 2 := by decide +kernel
theorem g_Ty_below : Cond.initialized y_Ty_below.cls ∈ wG := wg_t 11 (by decide +kernel) (by decide +kernel)
theorem s_Ty_below : Cond.static y_Ty_below ∈ wG := wg_t 343 (by decide +kernel) (by decide +kernel)
theorem d_Ty_below_0 : decode b_Ty_below 0 = .ok (.iload_n 0, 1) := by decide +kernel
theorem d_Ty_below_1 : decode b_Ty_below 1 = .ok (.iload_n 0, 1) := by decide +kernel
theorem d_Ty_below_2 : decode b_Ty_below 2 = .ok (.iload_n 1, 1) := by decide +kernel
theorem d_Ty_below_3 : decode b_Ty_below 3 = .ok (.invokestatic 11, 3) := by decide +kernel
theorem d_Ty_below_6 : decode b_Ty_below 6 = .ok (.invokestatic 15, 3) := by decide +kernel
theorem d_Ty_below_9 : decode b_Ty_below 9 = .ok (.ireturn, 1) := by decide +kernel
def y_Ty_pushed : MethodName := ⟨"FrameVerifier$Types", "pushed", "(II)I"⟩
abbrev b_Ty_pushed : ByteArray := prog_9_method_7_code
def rm_Ty_pushed : Room := { frames := 1, cells := 0, slots := 0, locals := 23 }
abbrev w_Ty_pushed : List Cond := Cond.code y_Ty_pushed b_Ty_pushed 2 (some .int) :: wG
theorem m_Ty_pushed : Cond.code y_Ty_pushed b_Ty_pushed 2 (some .int) ∈ wG := wg_t 357 (by decide +kernel) (by decide +kernel)
theorem q_Ty_pushed : y_Ty_pushed.cls ≠ "java/lang/invoke/MethodHandle" ∧ y_Ty_pushed.cls ≠ "java/lang/invoke/VarHandle" ∧ (parseMethodDescriptor y_Ty_pushed.desc).map (fun d => d.parameters.length) = some 2 := by decide +kernel
theorem g_Ty_pushed : Cond.initialized y_Ty_pushed.cls ∈ wG := wg_t 11 (by decide +kernel) (by decide +kernel)
theorem s_Ty_pushed : Cond.static y_Ty_pushed ∈ wG := wg_t 356 (by decide +kernel) (by decide +kernel)
theorem d_Ty_pushed_0 : decode b_Ty_pushed 0 = .ok (.iload_n 0, 1) := by decide +kernel
theorem d_Ty_pushed_1 : decode b_Ty_pushed 1 = .ok (.bipush (6), 2) := by decide +kernel
theorem d_Ty_pushed_3 : decode b_Ty_pushed 3 = .ok (.iload_n 0, 1) := by decide +kernel
theorem d_Ty_pushed_4 : decode b_Ty_pushed 4 = .ok (.invokestatic 18, 3) := by decide +kernel
theorem d_Ty_pushed_7 : decode b_Ty_pushed 7 = .ok (.iadd, 1) := by decide +kernel
theorem d_Ty_pushed_8 : decode b_Ty_pushed 8 = .ok (.iload_n 1, 1) := by decide +kernel
theorem d_Ty_pushed_9 : decode b_Ty_pushed 9 = .ok (.invokestatic 22, 3) := by decide +kernel
theorem d_Ty_pushed_12 : decode b_Ty_pushed 12 = .ok (.iconst 1, 1) := by decide +kernel
theorem d_Ty_pushed_13 : decode b_Ty_pushed 13 = .ok (.iadd, 1) := by decide +kernel
theorem d_Ty_pushed_14 : decode b_Ty_pushed 14 = .ok (.ireturn, 1) := by decide +kernel
def y_Ty_dropped : MethodName := ⟨"FrameVerifier$Types", "dropped", "(II)I"⟩
abbrev b_Ty_dropped : ByteArray := prog_9_method_8_code
def rm_Ty_dropped : Room := { frames := 1, cells := 0, slots := 0, locals := 23 }
abbrev w_Ty_dropped : List Cond := Cond.code y_Ty_dropped b_Ty_dropped 4 (some .int) :: wG
theorem m_Ty_dropped : Cond.code y_Ty_dropped b_Ty_dropped 4 (some .int) ∈ wG := wg_t 354 (by decide +kernel) (by decide +kernel)
theorem q_Ty_dropped : y_Ty_dropped.cls ≠ "java/lang/invoke/MethodHandle" ∧ y_Ty_dropped.cls ≠ "java/lang/invoke/VarHandle" ∧ (parseMethodDescriptor y_Ty_dropped.desc).map (fun d => d.parameters.length) = some 2 := by decide +kernel
theorem g_Ty_dropped : Cond.initialized y_Ty_dropped.cls ∈ wG := wg_t 11 (by decide +kernel) (by decide +kernel)
theorem s_Ty_dropped : Cond.static y_Ty_dropped ∈ wG := wg_t 353 (by decide +kernel) (by decide +kernel)
theorem d_Ty_dropped_0 : decode b_Ty_dropped 0 = .ok (.iload_n 0, 1) := by decide +kernel
theorem d_Ty_dropped_1 : decode b_Ty_dropped 1 = .ok (.istore_n 2, 1) := by decide +kernel
theorem d_Ty_dropped_2 : decode b_Ty_dropped 2 = .ok (.iconst 0, 1) := by decide +kernel
theorem d_Ty_dropped_3 : decode b_Ty_dropped 3 = .ok (.istore_n 3, 1) := by decide +kernel
theorem d_Ty_dropped_4 : decode b_Ty_dropped 4 = .ok (.iload_n 3, 1) := by decide +kernel
theorem d_Ty_dropped_5 : decode b_Ty_dropped 5 = .ok (.iload_n 1, 1) := by decide +kernel
theorem d_Ty_dropped_6 : decode b_Ty_dropped 6 = .ok (.if_icmp .ge (22), 3) := by decide +kernel
theorem d_Ty_dropped_9 : decode b_Ty_dropped 9 = .ok (.iload_n 2, 1) := by decide +kernel
theorem d_Ty_dropped_10 : decode b_Ty_dropped 10 = .ok (.iload_n 2, 1) := by decide +kernel
theorem d_Ty_dropped_11 : decode b_Ty_dropped 11 = .ok (.iconst 0, 1) := by decide +kernel
theorem d_Ty_dropped_12 : decode b_Ty_dropped 12 = .ok (.invokestatic 11, 3) := by decide +kernel
theorem d_Ty_dropped_15 : decode b_Ty_dropped 15 = .ok (.iconst 0, 1) := by decide +kernel
theorem d_Ty_dropped_16 : decode b_Ty_dropped 16 = .ok (.invokestatic 22, 3) := by decide +kernel
theorem d_Ty_dropped_19 : decode b_Ty_dropped 19 = .ok (.iconst 1, 1) := by decide +kernel
theorem d_Ty_dropped_20 : decode b_Ty_dropped 20 = .ok (.isub, 1) := by decide +kernel
theorem d_Ty_dropped_21 : decode b_Ty_dropped 21 = .ok (.istore_n 2, 1) := by decide +kernel
theorem d_Ty_dropped_22 : decode b_Ty_dropped 22 = .ok (.iinc 3 (1), 3) := by decide +kernel
theorem d_Ty_dropped_25 : decode b_Ty_dropped 25 = .ok (.goto (-21), 3) := by decide +kernel
theorem d_Ty_dropped_28 : decode b_Ty_dropped 28 = .ok (.iload_n 2, 1) := by decide +kernel
theorem d_Ty_dropped_29 : decode b_Ty_dropped 29 = .ok (.ireturn, 1) := by decide +kernel
def y_Ty_met : MethodName := ⟨"FrameVerifier$Types", "met", "(II)I"⟩
abbrev b_Ty_met : ByteArray := prog_9_method_9_code
def rm_Ty_met : Room := { frames := 1, cells := 0, slots := 0, locals := 23 }
abbrev w_Ty_met : List Cond := Cond.code y_Ty_met b_Ty_met 4 (some .int) :: wG
theorem m_Ty_met : Cond.code y_Ty_met b_Ty_met 4 (some .int) ∈ wG := wg_t 213 (by decide +kernel) (by decide +kernel)
theorem q_Ty_met : y_Ty_met.cls ≠ "java/lang/invoke/MethodHandle" ∧ y_Ty_met.cls ≠ "java/lang/invoke/VarHandle" ∧ (parseMethodDescriptor y_Ty_met.desc).map (fun d => d.parameters.length) = some 2 := by decide +kernel
theorem g_Ty_met : Cond.initialized y_Ty_met.cls ∈ wG := wg_t 11 (by decide +kernel) (by decide +kernel)
theorem s_Ty_met : Cond.static y_Ty_met ∈ wG := wg_t 212 (by decide +kernel) (by decide +kernel)
theorem d_Ty_met_0 : decode b_Ty_met 0 = .ok (.iload_n 0, 1) := by decide +kernel
theorem d_Ty_met_1 : decode b_Ty_met 1 = .ok (.iconst (-1), 1) := by decide +kernel
theorem d_Ty_met_2 : decode b_Ty_met 2 = .ok (.if_icmp .ne (5), 3) := by decide +kernel
theorem d_Ty_met_5 : decode b_Ty_met 5 = .ok (.iload_n 1, 1) := by decide +kernel
theorem d_Ty_met_6 : decode b_Ty_met 6 = .ok (.ireturn, 1) := by decide +kernel
theorem d_Ty_met_7 : decode b_Ty_met 7 = .ok (.iload_n 0, 1) := by decide +kernel
theorem d_Ty_met_8 : decode b_Ty_met 8 = .ok (.bipush (-2), 2) := by decide +kernel
theorem d_Ty_met_10 : decode b_Ty_met 10 = .ok (.if_icmp .eq (14), 3) := by decide +kernel
theorem d_Ty_met_13 : decode b_Ty_met 13 = .ok (.iload_n 0, 1) := by decide +kernel
theorem d_Ty_met_14 : decode b_Ty_met 14 = .ok (.invokestatic 18, 3) := by decide +kernel
theorem d_Ty_met_17 : decode b_Ty_met 17 = .ok (.iload_n 1, 1) := by decide +kernel
theorem d_Ty_met_18 : decode b_Ty_met 18 = .ok (.invokestatic 18, 3) := by decide +kernel
theorem d_Ty_met_21 : decode b_Ty_met 21 = .ok (.if_icmp .eq (6), 3) := by decide +kernel
theorem d_Ty_met_24 : decode b_Ty_met 24 = .ok (.bipush (-2), 2) := by decide +kernel
theorem d_Ty_met_26 : decode b_Ty_met 26 = .ok (.ireturn, 1) := by decide +kernel
theorem d_Ty_met_27 : decode b_Ty_met 27 = .ok (.iload_n 0, 1) := by decide +kernel
theorem d_Ty_met_28 : decode b_Ty_met 28 = .ok (.istore_n 2, 1) := by decide +kernel
theorem d_Ty_met_29 : decode b_Ty_met 29 = .ok (.iconst 0, 1) := by decide +kernel
theorem d_Ty_met_30 : decode b_Ty_met 30 = .ok (.istore_n 3, 1) := by decide +kernel
theorem d_Ty_met_31 : decode b_Ty_met 31 = .ok (.iload_n 3, 1) := by decide +kernel
theorem d_Ty_met_32 : decode b_Ty_met 32 = .ok (.bipush (12), 2) := by decide +kernel
theorem d_Ty_met_34 : decode b_Ty_met 34 = .ok (.if_icmp .ge (29), 3) := by decide +kernel
theorem d_Ty_met_37 : decode b_Ty_met 37 = .ok (.iload_n 0, 1) := by decide +kernel
theorem d_Ty_met_38 : decode b_Ty_met 38 = .ok (.iload_n 3, 1) := by decide +kernel
theorem d_Ty_met_39 : decode b_Ty_met 39 = .ok (.invokestatic 15, 3) := by decide +kernel
theorem d_Ty_met_42 : decode b_Ty_met 42 = .ok (.iload_n 1, 1) := by decide +kernel
theorem d_Ty_met_43 : decode b_Ty_met 43 = .ok (.iload_n 3, 1) := by decide +kernel
theorem d_Ty_met_44 : decode b_Ty_met 44 = .ok (.invokestatic 15, 3) := by decide +kernel
theorem d_Ty_met_47 : decode b_Ty_met 47 = .ok (.if_icmp .eq (10), 3) := by decide +kernel
theorem d_Ty_met_50 : decode b_Ty_met 50 = .ok (.iload_n 2, 1) := by decide +kernel
theorem d_Ty_met_51 : decode b_Ty_met 51 = .ok (.iload_n 3, 1) := by decide +kernel
theorem d_Ty_met_52 : decode b_Ty_met 52 = .ok (.iconst 3, 1) := by decide +kernel
theorem d_Ty_met_53 : decode b_Ty_met 53 = .ok (.invokestatic 22, 3) := by decide +kernel
theorem d_Ty_met_56 : decode b_Ty_met 56 = .ok (.istore_n 2, 1) := by decide +kernel
theorem d_Ty_met_57 : decode b_Ty_met 57 = .ok (.iinc 3 (1), 3) := by decide +kernel
theorem d_Ty_met_60 : decode b_Ty_met 60 = .ok (.goto (-29), 3) := by decide +kernel
theorem d_Ty_met_63 : decode b_Ty_met 63 = .ok (.iload_n 2, 1) := by decide +kernel
theorem d_Ty_met_64 : decode b_Ty_met 64 = .ok (.ireturn, 1) := by decide +kernel
theorem k_Ty_11 {R : Room} {s : State} {args : Array Value} {Ts : List Cond} (hts : ∀ w ∈ Ts, w.before args s = true) (hsub : ∀ w ∈ wG, w ∈ Ts) (hR : rm_Ty_slotBelow.frames + 1 ≤ R.frames ∧ 8 + (2 + 11) + rm_Ty_slotBelow.locals ≤ R.locals) : CallB R s args "FrameVerifier$Types" 11 y_Ty_slotBelow b_Ty_slotBelow 2 (some .int) w_Ty_slotBelow rm_Ty_slotBelow 0 0 2 ∧ (Cond.static y_Ty_slotBelow).before args s = true := ⟨cb_G hts hsub m_Ty_slotBelow g_Ty_slotBelow (wg_t 345 (by decide +kernel) (by decide +kernel) : Cond.methodLink "FrameVerifier$Types" 11 y_Ty_slotBelow ∈ wG) q_Ty_slotBelow rfl rfl hR, hts _ (hsub _ s_Ty_slotBelow)⟩
theorem k_Ty_15 {R : Room} {s : State} {args : Array Value} {Ts : List Cond} (hts : ∀ w ∈ Ts, w.before args s = true) (hsub : ∀ w ∈ wG, w ∈ Ts) (hR : rm_Ty_at.frames + 1 ≤ R.frames ∧ 8 + (2 + 11) + rm_Ty_at.locals ≤ R.locals) : CallB R s args "FrameVerifier$Types" 15 y_Ty_at b_Ty_at 2 (some .int) w_Ty_at rm_Ty_at 0 0 2 ∧ (Cond.static y_Ty_at).before args s = true := ⟨cb_G hts hsub m_Ty_at g_Ty_at (wg_t 217 (by decide +kernel) (by decide +kernel) : Cond.methodLink "FrameVerifier$Types" 15 y_Ty_at ∈ wG) q_Ty_at rfl rfl hR, hts _ (hsub _ s_Ty_at)⟩
theorem k_Ty_18 {R : Room} {s : State} {args : Array Value} {Ts : List Cond} (hts : ∀ w ∈ Ts, w.before args s = true) (hsub : ∀ w ∈ wG, w ∈ Ts) (hR : rm_Ty_height.frames + 1 ≤ R.frames ∧ 8 + (1 + 11) + rm_Ty_height.locals ≤ R.locals) : CallB R s args "FrameVerifier$Types" 18 y_Ty_height b_Ty_height 1 (some .int) w_Ty_height rm_Ty_height 0 0 1 ∧ (Cond.static y_Ty_height).before args s = true := ⟨cb_G hts hsub m_Ty_height g_Ty_height (wg_t 214 (by decide +kernel) (by decide +kernel) : Cond.methodLink "FrameVerifier$Types" 18 y_Ty_height ∈ wG) q_Ty_height rfl rfl hR, hts _ (hsub _ s_Ty_height)⟩
theorem k_Ty_22 {R : Room} {s : State} {args : Array Value} {Ts : List Cond} (hts : ∀ w ∈ Ts, w.before args s = true) (hsub : ∀ w ∈ wG, w ∈ Ts) (hR : rm_Ty_with.frames + 1 ≤ R.frames ∧ 8 + (4 + 11) + rm_Ty_with.locals ≤ R.locals) : CallB R s args "FrameVerifier$Types" 22 y_Ty_with b_Ty_with 4 (some .int) w_Ty_with rm_Ty_with 0 0 3 ∧ (Cond.static y_Ty_with).before args s = true := ⟨cb_G hts hsub m_Ty_with g_Ty_with (wg_t 220 (by decide +kernel) (by decide +kernel) : Cond.methodLink "FrameVerifier$Types" 22 y_Ty_with ∈ wG) q_Ty_with rfl rfl hR, hts _ (hsub _ s_Ty_with)⟩

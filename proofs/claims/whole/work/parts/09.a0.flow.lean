/-! names of 09.flow -/
def y_Fl_forget : MethodName := ⟨"FrameVerifier$Flow", "forget", "()V"⟩
abbrev b_Fl_forget : ByteArray := prog_4_method_2_code
def rm_Fl_forget : Room := { frames := 0, cells := 0, slots := 0, locals := 0 }
abbrev w_Fl_forget : List Cond := Cond.code y_Fl_forget b_Fl_forget 2 none :: wG
theorem m_Fl_forget : Cond.code y_Fl_forget b_Fl_forget 2 none ∈ wG := wg_t 167 (by decide +kernel) (by decide +kernel)
theorem q_Fl_forget : y_Fl_forget.cls ≠ "java/lang/invoke/MethodHandle" ∧ y_Fl_forget.cls ≠ "java/lang/invoke/VarHandle" ∧ (parseMethodDescriptor y_Fl_forget.desc).map (fun d => d.parameters.length) = some 0 := by decide +kernel
theorem g_Fl_forget : Cond.initialized y_Fl_forget.cls ∈ wG := wg_t 3 (by decide +kernel) (by decide +kernel)
theorem s_Fl_forget : Cond.instanceMethod y_Fl_forget ∈ wG := wg_t 165 (by decide +kernel) (by decide +kernel)
theorem e_Fl_forget : Cond.selects "FrameVerifier$Flow" y_Fl_forget y_Fl_forget ∈ wG := wg_t 166 (by decide +kernel) (by decide +kernel)
theorem d_Fl_forget_0 : decode b_Fl_forget 0 = .ok (.iconst 0, 1) := by decide +kernel
theorem d_Fl_forget_1 : decode b_Fl_forget 1 = .ok (.istore_n 1, 1) := by decide +kernel
theorem d_Fl_forget_2 : decode b_Fl_forget 2 = .ok (.iload_n 1, 1) := by decide +kernel
theorem d_Fl_forget_3 : decode b_Fl_forget 3 = .ok (.iconst 4, 1) := by decide +kernel
theorem d_Fl_forget_4 : decode b_Fl_forget 4 = .ok (.if_icmp .ge (16), 3) := by decide +kernel
theorem d_Fl_forget_7 : decode b_Fl_forget 7 = .ok (.aload_n 0, 1) := by decide +kernel
theorem d_Fl_forget_8 : decode b_Fl_forget 8 = .ok (.getfield 15, 3) := by decide +kernel
theorem d_Fl_forget_11 : decode b_Fl_forget 11 = .ok (.iload_n 1, 1) := by decide +kernel
theorem d_Fl_forget_12 : decode b_Fl_forget 12 = .ok (.iconst 0, 1) := by decide +kernel
theorem d_Fl_forget_13 : decode b_Fl_forget 13 = .ok (.bastore, 1) := by decide +kernel
theorem d_Fl_forget_14 : decode b_Fl_forget 14 = .ok (.iinc 1 (1), 3) := by decide +kernel
theorem d_Fl_forget_17 : decode b_Fl_forget 17 = .ok (.goto (-15), 3) := by decide +kernel
theorem d_Fl_forget_20 : decode b_Fl_forget 20 = .ok (.return_, 1) := by decide +kernel
def y_Fl_clear : MethodName := ⟨"FrameVerifier$Flow", "clear", "(I)V"⟩
abbrev b_Fl_clear : ByteArray := prog_4_method_6_code
def rm_Fl_clear : Room := { frames := 0, cells := 0, slots := 0, locals := 0 }
abbrev w_Fl_clear : List Cond := Cond.code y_Fl_clear b_Fl_clear 3 none :: wG
theorem m_Fl_clear : Cond.code y_Fl_clear b_Fl_clear 3 none ∈ wG := wg_t 187 (by decide +kernel) (by decide +kernel)
theorem q_Fl_clear : y_Fl_clear.cls ≠ "java/lang/invoke/MethodHandle" ∧ y_Fl_clear.cls ≠ "java/lang/invoke/VarHandle" ∧ (parseMethodDescriptor y_Fl_clear.desc).map (fun d => d.parameters.length) = some 1 := by decide +kernel
theorem g_Fl_clear : Cond.initialized y_Fl_clear.cls ∈ wG := wg_t 3 (by decide +kernel) (by decide +kernel)
theorem s_Fl_clear : Cond.instanceMethod y_Fl_clear ∈ wG := wg_t 186 (by decide +kernel) (by decide +kernel)
theorem e_Fl_clear : Cond.selects "FrameVerifier$Flow" y_Fl_clear y_Fl_clear ∈ wG := wg_s (q := (y_Fl_clear, 5)) 1 (by decide +kernel) (by decide +kernel)
theorem d_Fl_clear_0 : decode b_Fl_clear 0 = .ok (.iconst 0, 1) := by decide +kernel
theorem d_Fl_clear_1 : decode b_Fl_clear 1 = .ok (.istore_n 2, 1) := by decide +kernel
theorem d_Fl_clear_2 : decode b_Fl_clear 2 = .ok (.iload_n 2, 1) := by decide +kernel
theorem d_Fl_clear_3 : decode b_Fl_clear 3 = .ok (.bipush (100), 2) := by decide +kernel
theorem d_Fl_clear_5 : decode b_Fl_clear 5 = .ok (.if_icmp .ge (25), 3) := by decide +kernel
theorem d_Fl_clear_8 : decode b_Fl_clear 8 = .ok (.aload_n 0, 1) := by decide +kernel
theorem d_Fl_clear_9 : decode b_Fl_clear 9 = .ok (.getfield 21, 3) := by decide +kernel
theorem d_Fl_clear_12 : decode b_Fl_clear 12 = .ok (.iload_n 1, 1) := by decide +kernel
theorem d_Fl_clear_13 : decode b_Fl_clear 13 = .ok (.aaload, 1) := by decide +kernel
theorem d_Fl_clear_14 : decode b_Fl_clear 14 = .ok (.iload_n 2, 1) := by decide +kernel
theorem d_Fl_clear_15 : decode b_Fl_clear 15 = .ok (.iconst (-1), 1) := by decide +kernel
theorem d_Fl_clear_16 : decode b_Fl_clear 16 = .ok (.iastore, 1) := by decide +kernel
theorem d_Fl_clear_17 : decode b_Fl_clear 17 = .ok (.aload_n 0, 1) := by decide +kernel
theorem d_Fl_clear_18 : decode b_Fl_clear 18 = .ok (.getfield 24, 3) := by decide +kernel
theorem d_Fl_clear_21 : decode b_Fl_clear 21 = .ok (.iload_n 2, 1) := by decide +kernel
theorem d_Fl_clear_22 : decode b_Fl_clear 22 = .ok (.iconst 0, 1) := by decide +kernel
theorem d_Fl_clear_23 : decode b_Fl_clear 23 = .ok (.bastore, 1) := by decide +kernel
theorem d_Fl_clear_24 : decode b_Fl_clear 24 = .ok (.iinc 2 (1), 3) := by decide +kernel
theorem d_Fl_clear_27 : decode b_Fl_clear 27 = .ok (.goto (-25), 3) := by decide +kernel
theorem d_Fl_clear_30 : decode b_Fl_clear 30 = .ok (.aload_n 0, 1) := by decide +kernel
theorem d_Fl_clear_31 : decode b_Fl_clear 31 = .ok (.bipush (100), 2) := by decide +kernel
theorem d_Fl_clear_33 : decode b_Fl_clear 33 = .ok (.putfield 27, 3) := by decide +kernel
theorem d_Fl_clear_36 : decode b_Fl_clear 36 = .ok (.return_, 1) := by decide +kernel
def y_Fl_meet : MethodName := ⟨"FrameVerifier$Flow", "meet", "(III)V"⟩
abbrev b_Fl_meet : ByteArray := prog_4_method_9_code
def rm_Fl_meet : Room := { frames := 2, cells := 0, slots := 0, locals := 46 }
abbrev w_Fl_meet : List Cond := Cond.code y_Fl_meet b_Fl_meet 5 none :: wG
theorem m_Fl_meet : Cond.code y_Fl_meet b_Fl_meet 5 none ∈ wG := wg_t 210 (by decide +kernel) (by decide +kernel)
theorem q_Fl_meet : y_Fl_meet.cls ≠ "java/lang/invoke/MethodHandle" ∧ y_Fl_meet.cls ≠ "java/lang/invoke/VarHandle" ∧ (parseMethodDescriptor y_Fl_meet.desc).map (fun d => d.parameters.length) = some 3 := by decide +kernel
theorem g_Fl_meet : Cond.initialized y_Fl_meet.cls ∈ wG := wg_t 3 (by decide +kernel) (by decide +kernel)
theorem s_Fl_meet : Cond.instanceMethod y_Fl_meet ∈ wG := wg_t 209 (by decide +kernel) (by decide +kernel)
theorem e_Fl_meet : Cond.selects "FrameVerifier$Flow" y_Fl_meet y_Fl_meet ∈ wG := wg_s (q := (y_Fl_meet, 5)) 3 (by decide +kernel) (by decide +kernel)
theorem d_Fl_meet_0 : decode b_Fl_meet 0 = .ok (.aload_n 0, 1) := by decide +kernel
theorem d_Fl_meet_1 : decode b_Fl_meet 1 = .ok (.getfield 21, 3) := by decide +kernel
theorem d_Fl_meet_4 : decode b_Fl_meet 4 = .ok (.iload_n 1, 1) := by decide +kernel
theorem d_Fl_meet_5 : decode b_Fl_meet 5 = .ok (.aaload, 1) := by decide +kernel
theorem d_Fl_meet_6 : decode b_Fl_meet 6 = .ok (.iload_n 2, 1) := by decide +kernel
theorem d_Fl_meet_7 : decode b_Fl_meet 7 = .ok (.iaload, 1) := by decide +kernel
theorem d_Fl_meet_8 : decode b_Fl_meet 8 = .ok (.iload_n 3, 1) := by decide +kernel
theorem d_Fl_meet_9 : decode b_Fl_meet 9 = .ok (.invokestatic 88, 3) := by decide +kernel
theorem d_Fl_meet_12 : decode b_Fl_meet 12 = .ok (.istore 4, 2) := by decide +kernel
theorem d_Fl_meet_14 : decode b_Fl_meet 14 = .ok (.iload 4, 2) := by decide +kernel
theorem d_Fl_meet_16 : decode b_Fl_meet 16 = .ok (.aload_n 0, 1) := by decide +kernel
theorem d_Fl_meet_17 : decode b_Fl_meet 17 = .ok (.getfield 21, 3) := by decide +kernel
theorem d_Fl_meet_20 : decode b_Fl_meet 20 = .ok (.iload_n 1, 1) := by decide +kernel
theorem d_Fl_meet_21 : decode b_Fl_meet 21 = .ok (.aaload, 1) := by decide +kernel
theorem d_Fl_meet_22 : decode b_Fl_meet 22 = .ok (.iload_n 2, 1) := by decide +kernel
theorem d_Fl_meet_23 : decode b_Fl_meet 23 = .ok (.iaload, 1) := by decide +kernel
theorem d_Fl_meet_24 : decode b_Fl_meet 24 = .ok (.if_icmp .eq (32), 3) := by decide +kernel
theorem d_Fl_meet_27 : decode b_Fl_meet 27 = .ok (.aload_n 0, 1) := by decide +kernel
theorem d_Fl_meet_28 : decode b_Fl_meet 28 = .ok (.getfield 21, 3) := by decide +kernel
theorem d_Fl_meet_31 : decode b_Fl_meet 31 = .ok (.iload_n 1, 1) := by decide +kernel
theorem d_Fl_meet_32 : decode b_Fl_meet 32 = .ok (.aaload, 1) := by decide +kernel
theorem d_Fl_meet_33 : decode b_Fl_meet 33 = .ok (.iload_n 2, 1) := by decide +kernel
theorem d_Fl_meet_34 : decode b_Fl_meet 34 = .ok (.iload 4, 2) := by decide +kernel
theorem d_Fl_meet_36 : decode b_Fl_meet 36 = .ok (.iastore, 1) := by decide +kernel
theorem d_Fl_meet_37 : decode b_Fl_meet 37 = .ok (.aload_n 0, 1) := by decide +kernel
theorem d_Fl_meet_38 : decode b_Fl_meet 38 = .ok (.getfield 24, 3) := by decide +kernel
theorem d_Fl_meet_41 : decode b_Fl_meet 41 = .ok (.iload_n 2, 1) := by decide +kernel
theorem d_Fl_meet_42 : decode b_Fl_meet 42 = .ok (.iconst 1, 1) := by decide +kernel
theorem d_Fl_meet_43 : decode b_Fl_meet 43 = .ok (.bastore, 1) := by decide +kernel
theorem d_Fl_meet_44 : decode b_Fl_meet 44 = .ok (.aload_n 0, 1) := by decide +kernel
theorem d_Fl_meet_45 : decode b_Fl_meet 45 = .ok (.aload_n 0, 1) := by decide +kernel
theorem d_Fl_meet_46 : decode b_Fl_meet 46 = .ok (.getfield 27, 3) := by decide +kernel
theorem d_Fl_meet_49 : decode b_Fl_meet 49 = .ok (.iload_n 2, 1) := by decide +kernel
theorem d_Fl_meet_50 : decode b_Fl_meet 50 = .ok (.invokestatic 93, 3) := by decide +kernel
theorem d_Fl_meet_53 : decode b_Fl_meet 53 = .ok (.putfield 27, 3) := by decide +kernel
theorem d_Fl_meet_56 : decode b_Fl_meet 56 = .ok (.return_, 1) := by decide +kernel
def y_Fl_takeLeastWaiting : MethodName := ⟨"FrameVerifier$Flow", "takeLeastWaiting", "()I"⟩
abbrev b_Fl_takeLeastWaiting : ByteArray := prog_4_method_7_code
def rm_Fl_takeLeastWaiting : Room := { frames := 0, cells := 0, slots := 0, locals := 0 }
abbrev w_Fl_takeLeastWaiting : List Cond := Cond.code y_Fl_takeLeastWaiting b_Fl_takeLeastWaiting 2 (some .int) :: wG
theorem m_Fl_takeLeastWaiting : Cond.code y_Fl_takeLeastWaiting b_Fl_takeLeastWaiting 2 (some .int) ∈ wG := wg_t 227 (by decide +kernel) (by decide +kernel)
theorem q_Fl_takeLeastWaiting : y_Fl_takeLeastWaiting.cls ≠ "java/lang/invoke/MethodHandle" ∧ y_Fl_takeLeastWaiting.cls ≠ "java/lang/invoke/VarHandle" ∧ (parseMethodDescriptor y_Fl_takeLeastWaiting.desc).map (fun d => d.parameters.length) = some 0 := by decide +kernel
theorem g_Fl_takeLeastWaiting : Cond.initialized y_Fl_takeLeastWaiting.cls ∈ wG := wg_t 3 (by decide +kernel) (by decide +kernel)
theorem s_Fl_takeLeastWaiting : Cond.instanceMethod y_Fl_takeLeastWaiting ∈ wG := wg_t 226 (by decide +kernel) (by decide +kernel)
theorem e_Fl_takeLeastWaiting : Cond.selects "FrameVerifier$Flow" y_Fl_takeLeastWaiting y_Fl_takeLeastWaiting ∈ wG := wg_s (q := (y_Fl_takeLeastWaiting, 5)) 4 (by decide +kernel) (by decide +kernel)
theorem d_Fl_takeLeastWaiting_0 : decode b_Fl_takeLeastWaiting 0 = .ok (.aload_n 0, 1) := by decide +kernel
theorem d_Fl_takeLeastWaiting_1 : decode b_Fl_takeLeastWaiting 1 = .ok (.getfield 27, 3) := by decide +kernel
theorem d_Fl_takeLeastWaiting_4 : decode b_Fl_takeLeastWaiting 4 = .ok (.istore_n 1, 1) := by decide +kernel
theorem d_Fl_takeLeastWaiting_5 : decode b_Fl_takeLeastWaiting 5 = .ok (.iload_n 1, 1) := by decide +kernel
theorem d_Fl_takeLeastWaiting_6 : decode b_Fl_takeLeastWaiting 6 = .ok (.bipush (100), 2) := by decide +kernel
theorem d_Fl_takeLeastWaiting_8 : decode b_Fl_takeLeastWaiting 8 = .ok (.if_icmp .ge (34), 3) := by decide +kernel
theorem d_Fl_takeLeastWaiting_11 : decode b_Fl_takeLeastWaiting 11 = .ok (.aload_n 0, 1) := by decide +kernel
theorem d_Fl_takeLeastWaiting_12 : decode b_Fl_takeLeastWaiting 12 = .ok (.getfield 24, 3) := by decide +kernel
theorem d_Fl_takeLeastWaiting_15 : decode b_Fl_takeLeastWaiting 15 = .ok (.iload_n 1, 1) := by decide +kernel
theorem d_Fl_takeLeastWaiting_16 : decode b_Fl_takeLeastWaiting 16 = .ok (.baload, 1) := by decide +kernel
theorem d_Fl_takeLeastWaiting_17 : decode b_Fl_takeLeastWaiting 17 = .ok (.ifCond .eq (19), 3) := by decide +kernel
theorem d_Fl_takeLeastWaiting_20 : decode b_Fl_takeLeastWaiting 20 = .ok (.aload_n 0, 1) := by decide +kernel
theorem d_Fl_takeLeastWaiting_21 : decode b_Fl_takeLeastWaiting 21 = .ok (.getfield 24, 3) := by decide +kernel
theorem d_Fl_takeLeastWaiting_24 : decode b_Fl_takeLeastWaiting 24 = .ok (.iload_n 1, 1) := by decide +kernel
theorem d_Fl_takeLeastWaiting_25 : decode b_Fl_takeLeastWaiting 25 = .ok (.iconst 0, 1) := by decide +kernel
theorem d_Fl_takeLeastWaiting_26 : decode b_Fl_takeLeastWaiting 26 = .ok (.bastore, 1) := by decide +kernel
theorem d_Fl_takeLeastWaiting_27 : decode b_Fl_takeLeastWaiting 27 = .ok (.aload_n 0, 1) := by decide +kernel
theorem d_Fl_takeLeastWaiting_28 : decode b_Fl_takeLeastWaiting 28 = .ok (.iload_n 1, 1) := by decide +kernel
theorem d_Fl_takeLeastWaiting_29 : decode b_Fl_takeLeastWaiting 29 = .ok (.iconst 1, 1) := by decide +kernel
theorem d_Fl_takeLeastWaiting_30 : decode b_Fl_takeLeastWaiting 30 = .ok (.iadd, 1) := by decide +kernel
theorem d_Fl_takeLeastWaiting_31 : decode b_Fl_takeLeastWaiting 31 = .ok (.putfield 27, 3) := by decide +kernel
theorem d_Fl_takeLeastWaiting_34 : decode b_Fl_takeLeastWaiting 34 = .ok (.iload_n 1, 1) := by decide +kernel
theorem d_Fl_takeLeastWaiting_35 : decode b_Fl_takeLeastWaiting 35 = .ok (.ireturn, 1) := by decide +kernel
theorem d_Fl_takeLeastWaiting_36 : decode b_Fl_takeLeastWaiting 36 = .ok (.iinc 1 (1), 3) := by decide +kernel
theorem d_Fl_takeLeastWaiting_39 : decode b_Fl_takeLeastWaiting 39 = .ok (.goto (-34), 3) := by decide +kernel
theorem d_Fl_takeLeastWaiting_42 : decode b_Fl_takeLeastWaiting 42 = .ok (.aload_n 0, 1) := by decide +kernel
theorem d_Fl_takeLeastWaiting_43 : decode b_Fl_takeLeastWaiting 43 = .ok (.bipush (100), 2) := by decide +kernel
theorem d_Fl_takeLeastWaiting_45 : decode b_Fl_takeLeastWaiting 45 = .ok (.putfield 27, 3) := by decide +kernel
theorem d_Fl_takeLeastWaiting_48 : decode b_Fl_takeLeastWaiting 48 = .ok (.iconst (-1), 1) := by decide +kernel
theorem d_Fl_takeLeastWaiting_49 : decode b_Fl_takeLeastWaiting 49 = .ok (.ireturn, 1) := by decide +kernel
def y_Fl_goOn : MethodName := ⟨"FrameVerifier$Flow", "goOn", "(II)V"⟩
abbrev b_Fl_goOn : ByteArray := prog_4_method_8_code
def rm_Fl_goOn : Room := { frames := 8, cells := 0, slots := 0, locals := 183 }
abbrev w_Fl_goOn : List Cond := Cond.code y_Fl_goOn b_Fl_goOn 6 none :: wG
theorem m_Fl_goOn : Cond.code y_Fl_goOn b_Fl_goOn 6 none ∈ wG := wg_t 231 (by decide +kernel) (by decide +kernel)
theorem q_Fl_goOn : y_Fl_goOn.cls ≠ "java/lang/invoke/MethodHandle" ∧ y_Fl_goOn.cls ≠ "java/lang/invoke/VarHandle" ∧ (parseMethodDescriptor y_Fl_goOn.desc).map (fun d => d.parameters.length) = some 2 := by decide +kernel
theorem g_Fl_goOn : Cond.initialized y_Fl_goOn.cls ∈ wG := wg_t 3 (by decide +kernel) (by decide +kernel)
theorem s_Fl_goOn : Cond.instanceMethod y_Fl_goOn ∈ wG := wg_t 230 (by decide +kernel) (by decide +kernel)
theorem e_Fl_goOn : Cond.selects "FrameVerifier$Flow" y_Fl_goOn y_Fl_goOn ∈ wG := wg_s (q := (y_Fl_goOn, 5)) 5 (by decide +kernel) (by decide +kernel)
theorem d_Fl_goOn_0 : decode b_Fl_goOn 0 = .ok (.aload_n 0, 1) := by decide +kernel
theorem d_Fl_goOn_1 : decode b_Fl_goOn 1 = .ok (.getfield 21, 3) := by decide +kernel
theorem d_Fl_goOn_4 : decode b_Fl_goOn 4 = .ok (.iload_n 1, 1) := by decide +kernel
theorem d_Fl_goOn_5 : decode b_Fl_goOn 5 = .ok (.aaload, 1) := by decide +kernel
theorem d_Fl_goOn_6 : decode b_Fl_goOn 6 = .ok (.iload_n 2, 1) := by decide +kernel
theorem d_Fl_goOn_7 : decode b_Fl_goOn 7 = .ok (.iaload, 1) := by decide +kernel
theorem d_Fl_goOn_8 : decode b_Fl_goOn 8 = .ok (.istore_n 3, 1) := by decide +kernel
theorem d_Fl_goOn_9 : decode b_Fl_goOn 9 = .ok (.aload_n 0, 1) := by decide +kernel
theorem d_Fl_goOn_10 : decode b_Fl_goOn 10 = .ok (.getfield 9, 3) := by decide +kernel
theorem d_Fl_goOn_13 : decode b_Fl_goOn 13 = .ok (.iload_n 1, 1) := by decide +kernel
theorem d_Fl_goOn_14 : decode b_Fl_goOn 14 = .ok (.iload_n 2, 1) := by decide +kernel
theorem d_Fl_goOn_15 : decode b_Fl_goOn 15 = .ok (.iload_n 3, 1) := by decide +kernel
theorem d_Fl_goOn_16 : decode b_Fl_goOn 16 = .ok (.invokevirtual 63, 3) := by decide +kernel
theorem d_Fl_goOn_19 : decode b_Fl_goOn 19 = .ok (.ifCond .ne (4), 3) := by decide +kernel
theorem d_Fl_goOn_22 : decode b_Fl_goOn 22 = .ok (.return_, 1) := by decide +kernel
theorem d_Fl_goOn_23 : decode b_Fl_goOn 23 = .ok (.aload_n 0, 1) := by decide +kernel
theorem d_Fl_goOn_24 : decode b_Fl_goOn 24 = .ok (.getfield 9, 3) := by decide +kernel
theorem d_Fl_goOn_27 : decode b_Fl_goOn 27 = .ok (.iload_n 2, 1) := by decide +kernel
theorem d_Fl_goOn_28 : decode b_Fl_goOn 28 = .ok (.invokevirtual 67, 3) := by decide +kernel
theorem d_Fl_goOn_31 : decode b_Fl_goOn 31 = .ok (.astore 4, 2) := by decide +kernel
theorem d_Fl_goOn_33 : decode b_Fl_goOn 33 = .ok (.aload_n 0, 1) := by decide +kernel
theorem d_Fl_goOn_34 : decode b_Fl_goOn 34 = .ok (.getfield 9, 3) := by decide +kernel
theorem d_Fl_goOn_37 : decode b_Fl_goOn 37 = .ok (.iload_n 2, 1) := by decide +kernel
theorem d_Fl_goOn_38 : decode b_Fl_goOn 38 = .ok (.iload_n 3, 1) := by decide +kernel
theorem d_Fl_goOn_39 : decode b_Fl_goOn 39 = .ok (.invokevirtual 71, 3) := by decide +kernel
theorem d_Fl_goOn_42 : decode b_Fl_goOn 42 = .ok (.istore 5, 2) := by decide +kernel
theorem d_Fl_goOn_44 : decode b_Fl_goOn 44 = .ok (.aload 4, 2) := by decide +kernel
theorem d_Fl_goOn_46 : decode b_Fl_goOn 46 = .ok (.getfield 75, 3) := by decide +kernel
theorem d_Fl_goOn_49 : decode b_Fl_goOn 49 = .ok (.ifCond .eq (13), 3) := by decide +kernel
theorem d_Fl_goOn_52 : decode b_Fl_goOn 52 = .ok (.aload_n 0, 1) := by decide +kernel
theorem d_Fl_goOn_53 : decode b_Fl_goOn 53 = .ok (.iload_n 1, 1) := by decide +kernel
theorem d_Fl_goOn_54 : decode b_Fl_goOn 54 = .ok (.iload_n 2, 1) := by decide +kernel
theorem d_Fl_goOn_55 : decode b_Fl_goOn 55 = .ok (.iconst 1, 1) := by decide +kernel
theorem d_Fl_goOn_56 : decode b_Fl_goOn 56 = .ok (.iadd, 1) := by decide +kernel
theorem d_Fl_goOn_57 : decode b_Fl_goOn 57 = .ok (.iload 5, 2) := by decide +kernel
theorem d_Fl_goOn_59 : decode b_Fl_goOn 59 = .ok (.invokevirtual 48, 3) := by decide +kernel
theorem d_Fl_goOn_62 : decode b_Fl_goOn 62 = .ok (.aload 4, 2) := by decide +kernel
theorem d_Fl_goOn_64 : decode b_Fl_goOn 64 = .ok (.invokevirtual 81, 3) := by decide +kernel
theorem d_Fl_goOn_67 : decode b_Fl_goOn 67 = .ok (.ifCond .eq (18), 3) := by decide +kernel
theorem d_Fl_goOn_70 : decode b_Fl_goOn 70 = .ok (.aload_n 0, 1) := by decide +kernel
theorem d_Fl_goOn_71 : decode b_Fl_goOn 71 = .ok (.iload_n 1, 1) := by decide +kernel
theorem d_Fl_goOn_72 : decode b_Fl_goOn 72 = .ok (.aload_n 0, 1) := by decide +kernel
theorem d_Fl_goOn_73 : decode b_Fl_goOn 73 = .ok (.getfield 9, 3) := by decide +kernel
theorem d_Fl_goOn_76 : decode b_Fl_goOn 76 = .ok (.iload_n 2, 1) := by decide +kernel
theorem d_Fl_goOn_77 : decode b_Fl_goOn 77 = .ok (.invokevirtual 85, 3) := by decide +kernel
theorem d_Fl_goOn_80 : decode b_Fl_goOn 80 = .ok (.iload 5, 2) := by decide +kernel
theorem d_Fl_goOn_82 : decode b_Fl_goOn 82 = .ok (.invokevirtual 48, 3) := by decide +kernel
theorem d_Fl_goOn_85 : decode b_Fl_goOn 85 = .ok (.return_, 1) := by decide +kernel
def y_Fl_workOut : MethodName := ⟨"FrameVerifier$Flow", "workOut", "(I)V"⟩
abbrev b_Fl_workOut : ByteArray := prog_4_method_3_code
def rm_Fl_workOut : Room := { frames := 9, cells := 0, slots := 0, locals := 208 }
abbrev w_Fl_workOut : List Cond := Cond.code y_Fl_workOut b_Fl_workOut 4 none :: wG
theorem m_Fl_workOut : Cond.code y_Fl_workOut b_Fl_workOut 4 none ∈ wG := wg_t 183 (by decide +kernel) (by decide +kernel)
theorem q_Fl_workOut : y_Fl_workOut.cls ≠ "java/lang/invoke/MethodHandle" ∧ y_Fl_workOut.cls ≠ "java/lang/invoke/VarHandle" ∧ (parseMethodDescriptor y_Fl_workOut.desc).map (fun d => d.parameters.length) = some 1 := by decide +kernel
theorem g_Fl_workOut : Cond.initialized y_Fl_workOut.cls ∈ wG := wg_t 3 (by decide +kernel) (by decide +kernel)
theorem s_Fl_workOut : Cond.instanceMethod y_Fl_workOut ∈ wG := wg_t 181 (by decide +kernel) (by decide +kernel)
theorem e_Fl_workOut : Cond.selects "FrameVerifier$Flow" y_Fl_workOut y_Fl_workOut ∈ wG := wg_t 182 (by decide +kernel) (by decide +kernel)
theorem d_Fl_workOut_0 : decode b_Fl_workOut 0 = .ok (.aload_n 0, 1) := by decide +kernel
theorem d_Fl_workOut_1 : decode b_Fl_workOut 1 = .ok (.getfield 15, 3) := by decide +kernel
theorem d_Fl_workOut_4 : decode b_Fl_workOut 4 = .ok (.iload_n 1, 1) := by decide +kernel
theorem d_Fl_workOut_5 : decode b_Fl_workOut 5 = .ok (.baload, 1) := by decide +kernel
theorem d_Fl_workOut_6 : decode b_Fl_workOut 6 = .ok (.ifCond .eq (4), 3) := by decide +kernel
theorem d_Fl_workOut_9 : decode b_Fl_workOut 9 = .ok (.return_, 1) := by decide +kernel
theorem d_Fl_workOut_10 : decode b_Fl_workOut 10 = .ok (.aload_n 0, 1) := by decide +kernel
theorem d_Fl_workOut_11 : decode b_Fl_workOut 11 = .ok (.iload_n 1, 1) := by decide +kernel
theorem d_Fl_workOut_12 : decode b_Fl_workOut 12 = .ok (.invokevirtual 31, 3) := by decide +kernel
theorem d_Fl_workOut_15 : decode b_Fl_workOut 15 = .ok (.aload_n 0, 1) := by decide +kernel
theorem d_Fl_workOut_16 : decode b_Fl_workOut 16 = .ok (.getfield 9, 3) := by decide +kernel
theorem d_Fl_workOut_19 : decode b_Fl_workOut 19 = .ok (.aload_n 0, 1) := by decide +kernel
theorem d_Fl_workOut_20 : decode b_Fl_workOut 20 = .ok (.getfield 9, 3) := by decide +kernel
theorem d_Fl_workOut_23 : decode b_Fl_workOut 23 = .ok (.iload_n 1, 1) := by decide +kernel
theorem d_Fl_workOut_24 : decode b_Fl_workOut 24 = .ok (.invokevirtual 35, 3) := by decide +kernel
theorem d_Fl_workOut_27 : decode b_Fl_workOut 27 = .ok (.invokevirtual 41, 3) := by decide +kernel
theorem d_Fl_workOut_30 : decode b_Fl_workOut 30 = .ok (.ifCond .eq (24), 3) := by decide +kernel
theorem d_Fl_workOut_33 : decode b_Fl_workOut 33 = .ok (.aload_n 0, 1) := by decide +kernel
theorem d_Fl_workOut_34 : decode b_Fl_workOut 34 = .ok (.iload_n 1, 1) := by decide +kernel
theorem d_Fl_workOut_35 : decode b_Fl_workOut 35 = .ok (.aload_n 0, 1) := by decide +kernel
theorem d_Fl_workOut_36 : decode b_Fl_workOut 36 = .ok (.getfield 9, 3) := by decide +kernel
theorem d_Fl_workOut_39 : decode b_Fl_workOut 39 = .ok (.iload_n 1, 1) := by decide +kernel
theorem d_Fl_workOut_40 : decode b_Fl_workOut 40 = .ok (.invokevirtual 35, 3) := by decide +kernel
theorem d_Fl_workOut_43 : decode b_Fl_workOut 43 = .ok (.aload_n 0, 1) := by decide +kernel
theorem d_Fl_workOut_44 : decode b_Fl_workOut 44 = .ok (.getfield 9, 3) := by decide +kernel
theorem d_Fl_workOut_47 : decode b_Fl_workOut 47 = .ok (.iload_n 1, 1) := by decide +kernel
theorem d_Fl_workOut_48 : decode b_Fl_workOut 48 = .ok (.invokevirtual 45, 3) := by decide +kernel
theorem d_Fl_workOut_51 : decode b_Fl_workOut 51 = .ok (.invokevirtual 48, 3) := by decide +kernel
theorem d_Fl_workOut_54 : decode b_Fl_workOut 54 = .ok (.iconst 0, 1) := by decide +kernel
theorem d_Fl_workOut_55 : decode b_Fl_workOut 55 = .ok (.istore_n 2, 1) := by decide +kernel
theorem d_Fl_workOut_56 : decode b_Fl_workOut 56 = .ok (.iload_n 2, 1) := by decide +kernel
theorem d_Fl_workOut_57 : decode b_Fl_workOut 57 = .ok (.sipush (1400), 3) := by decide +kernel
theorem d_Fl_workOut_60 : decode b_Fl_workOut 60 = .ok (.if_icmp .gt (28), 3) := by decide +kernel
theorem d_Fl_workOut_63 : decode b_Fl_workOut 63 = .ok (.aload_n 0, 1) := by decide +kernel
theorem d_Fl_workOut_64 : decode b_Fl_workOut 64 = .ok (.invokevirtual 52, 3) := by decide +kernel
theorem d_Fl_workOut_67 : decode b_Fl_workOut 67 = .ok (.istore_n 3, 1) := by decide +kernel
theorem d_Fl_workOut_68 : decode b_Fl_workOut 68 = .ok (.iload_n 3, 1) := by decide +kernel
theorem d_Fl_workOut_69 : decode b_Fl_workOut 69 = .ok (.iconst (-1), 1) := by decide +kernel
theorem d_Fl_workOut_70 : decode b_Fl_workOut 70 = .ok (.if_icmp .ne (6), 3) := by decide +kernel
theorem d_Fl_workOut_73 : decode b_Fl_workOut 73 = .ok (.goto (15), 3) := by decide +kernel
theorem d_Fl_workOut_76 : decode b_Fl_workOut 76 = .ok (.aload_n 0, 1) := by decide +kernel
theorem d_Fl_workOut_77 : decode b_Fl_workOut 77 = .ok (.iload_n 1, 1) := by decide +kernel
theorem d_Fl_workOut_78 : decode b_Fl_workOut 78 = .ok (.iload_n 3, 1) := by decide +kernel
theorem d_Fl_workOut_79 : decode b_Fl_workOut 79 = .ok (.invokevirtual 56, 3) := by decide +kernel
theorem d_Fl_workOut_82 : decode b_Fl_workOut 82 = .ok (.iinc 2 (1), 3) := by decide +kernel
theorem d_Fl_workOut_85 : decode b_Fl_workOut 85 = .ok (.goto (-29), 3) := by decide +kernel
theorem d_Fl_workOut_88 : decode b_Fl_workOut 88 = .ok (.aload_n 0, 1) := by decide +kernel
theorem d_Fl_workOut_89 : decode b_Fl_workOut 89 = .ok (.getfield 15, 3) := by decide +kernel
theorem d_Fl_workOut_92 : decode b_Fl_workOut 92 = .ok (.iload_n 1, 1) := by decide +kernel
theorem d_Fl_workOut_93 : decode b_Fl_workOut 93 = .ok (.iconst 1, 1) := by decide +kernel
theorem d_Fl_workOut_94 : decode b_Fl_workOut 94 = .ok (.bastore, 1) := by decide +kernel
theorem d_Fl_workOut_95 : decode b_Fl_workOut 95 = .ok (.return_, 1) := by decide +kernel
def y_Fl_stateOf : MethodName := ⟨"FrameVerifier$Flow", "stateOf", "(II)I"⟩
abbrev b_Fl_stateOf : ByteArray := prog_4_method_4_code
def rm_Fl_stateOf : Room := { frames := 0, cells := 0, slots := 0, locals := 0 }
abbrev w_Fl_stateOf : List Cond := Cond.code y_Fl_stateOf b_Fl_stateOf 3 (some .int) :: wG
theorem m_Fl_stateOf : Cond.code y_Fl_stateOf b_Fl_stateOf 3 (some .int) ∈ wG := wg_t 381 (by decide +kernel) (by decide +kernel)
theorem q_Fl_stateOf : y_Fl_stateOf.cls ≠ "java/lang/invoke/MethodHandle" ∧ y_Fl_stateOf.cls ≠ "java/lang/invoke/VarHandle" ∧ (parseMethodDescriptor y_Fl_stateOf.desc).map (fun d => d.parameters.length) = some 2 := by decide +kernel
theorem g_Fl_stateOf : Cond.initialized y_Fl_stateOf.cls ∈ wG := wg_t 3 (by decide +kernel) (by decide +kernel)
theorem s_Fl_stateOf : Cond.instanceMethod y_Fl_stateOf ∈ wG := wg_t 379 (by decide +kernel) (by decide +kernel)
theorem e_Fl_stateOf : Cond.selects "FrameVerifier$Flow" y_Fl_stateOf y_Fl_stateOf ∈ wG := wg_t 380 (by decide +kernel) (by decide +kernel)
theorem d_Fl_stateOf_0 : decode b_Fl_stateOf 0 = .ok (.aload_n 0, 1) := by decide +kernel
theorem d_Fl_stateOf_1 : decode b_Fl_stateOf 1 = .ok (.getfield 21, 3) := by decide +kernel
theorem d_Fl_stateOf_4 : decode b_Fl_stateOf 4 = .ok (.iload_n 1, 1) := by decide +kernel
theorem d_Fl_stateOf_5 : decode b_Fl_stateOf 5 = .ok (.aaload, 1) := by decide +kernel
theorem d_Fl_stateOf_6 : decode b_Fl_stateOf 6 = .ok (.iload_n 2, 1) := by decide +kernel
theorem d_Fl_stateOf_7 : decode b_Fl_stateOf 7 = .ok (.iaload, 1) := by decide +kernel
theorem d_Fl_stateOf_8 : decode b_Fl_stateOf 8 = .ok (.ireturn, 1) := by decide +kernel
def y_Fl_leastUnfit : MethodName := ⟨"FrameVerifier$Flow", "leastUnfit", "(I)I"⟩
abbrev b_Fl_leastUnfit : ByteArray := prog_4_method_5_code
def rm_Fl_leastUnfit : Room := { frames := 8, cells := 0, slots := 0, locals := 183 }
abbrev w_Fl_leastUnfit : List Cond := Cond.code y_Fl_leastUnfit b_Fl_leastUnfit 4 (some .int) :: wG
theorem m_Fl_leastUnfit : Cond.code y_Fl_leastUnfit b_Fl_leastUnfit 4 (some .int) ∈ wG := wg_t 368 (by decide +kernel) (by decide +kernel)
theorem q_Fl_leastUnfit : y_Fl_leastUnfit.cls ≠ "java/lang/invoke/MethodHandle" ∧ y_Fl_leastUnfit.cls ≠ "java/lang/invoke/VarHandle" ∧ (parseMethodDescriptor y_Fl_leastUnfit.desc).map (fun d => d.parameters.length) = some 1 := by decide +kernel
theorem g_Fl_leastUnfit : Cond.initialized y_Fl_leastUnfit.cls ∈ wG := wg_t 3 (by decide +kernel) (by decide +kernel)
theorem s_Fl_leastUnfit : Cond.instanceMethod y_Fl_leastUnfit ∈ wG := wg_t 366 (by decide +kernel) (by decide +kernel)
theorem e_Fl_leastUnfit : Cond.selects "FrameVerifier$Flow" y_Fl_leastUnfit y_Fl_leastUnfit ∈ wG := wg_t 367 (by decide +kernel) (by decide +kernel)
theorem d_Fl_leastUnfit_0 : decode b_Fl_leastUnfit 0 = .ok (.aload_n 0, 1) := by decide +kernel
theorem d_Fl_leastUnfit_1 : decode b_Fl_leastUnfit 1 = .ok (.getfield 9, 3) := by decide +kernel
theorem d_Fl_leastUnfit_4 : decode b_Fl_leastUnfit 4 = .ok (.aload_n 0, 1) := by decide +kernel
theorem d_Fl_leastUnfit_5 : decode b_Fl_leastUnfit 5 = .ok (.getfield 9, 3) := by decide +kernel
theorem d_Fl_leastUnfit_8 : decode b_Fl_leastUnfit 8 = .ok (.iload_n 1, 1) := by decide +kernel
theorem d_Fl_leastUnfit_9 : decode b_Fl_leastUnfit 9 = .ok (.invokevirtual 35, 3) := by decide +kernel
theorem d_Fl_leastUnfit_12 : decode b_Fl_leastUnfit 12 = .ok (.invokevirtual 41, 3) := by decide +kernel
theorem d_Fl_leastUnfit_15 : decode b_Fl_leastUnfit 15 = .ok (.ifCond .ne (7), 3) := by decide +kernel
theorem d_Fl_leastUnfit_18 : decode b_Fl_leastUnfit 18 = .ok (.sipush (999), 3) := by decide +kernel
theorem d_Fl_leastUnfit_21 : decode b_Fl_leastUnfit 21 = .ok (.ireturn, 1) := by decide +kernel
theorem d_Fl_leastUnfit_22 : decode b_Fl_leastUnfit 22 = .ok (.iconst 0, 1) := by decide +kernel
theorem d_Fl_leastUnfit_23 : decode b_Fl_leastUnfit 23 = .ok (.istore_n 2, 1) := by decide +kernel
theorem d_Fl_leastUnfit_24 : decode b_Fl_leastUnfit 24 = .ok (.iload_n 2, 1) := by decide +kernel
theorem d_Fl_leastUnfit_25 : decode b_Fl_leastUnfit 25 = .ok (.aload_n 0, 1) := by decide +kernel
theorem d_Fl_leastUnfit_26 : decode b_Fl_leastUnfit 26 = .ok (.getfield 9, 3) := by decide +kernel
theorem d_Fl_leastUnfit_29 : decode b_Fl_leastUnfit 29 = .ok (.getfield 60, 3) := by decide +kernel
theorem d_Fl_leastUnfit_32 : decode b_Fl_leastUnfit 32 = .ok (.if_icmp .ge (38), 3) := by decide +kernel
theorem d_Fl_leastUnfit_35 : decode b_Fl_leastUnfit 35 = .ok (.aload_n 0, 1) := by decide +kernel
theorem d_Fl_leastUnfit_36 : decode b_Fl_leastUnfit 36 = .ok (.getfield 21, 3) := by decide +kernel
theorem d_Fl_leastUnfit_39 : decode b_Fl_leastUnfit 39 = .ok (.iload_n 1, 1) := by decide +kernel
theorem d_Fl_leastUnfit_40 : decode b_Fl_leastUnfit 40 = .ok (.aaload, 1) := by decide +kernel
theorem d_Fl_leastUnfit_41 : decode b_Fl_leastUnfit 41 = .ok (.iload_n 2, 1) := by decide +kernel
theorem d_Fl_leastUnfit_42 : decode b_Fl_leastUnfit 42 = .ok (.iaload, 1) := by decide +kernel
theorem d_Fl_leastUnfit_43 : decode b_Fl_leastUnfit 43 = .ok (.istore_n 3, 1) := by decide +kernel
theorem d_Fl_leastUnfit_44 : decode b_Fl_leastUnfit 44 = .ok (.iload_n 3, 1) := by decide +kernel
theorem d_Fl_leastUnfit_45 : decode b_Fl_leastUnfit 45 = .ok (.iconst (-1), 1) := by decide +kernel
theorem d_Fl_leastUnfit_46 : decode b_Fl_leastUnfit 46 = .ok (.if_icmp .eq (18), 3) := by decide +kernel
theorem d_Fl_leastUnfit_49 : decode b_Fl_leastUnfit 49 = .ok (.aload_n 0, 1) := by decide +kernel
theorem d_Fl_leastUnfit_50 : decode b_Fl_leastUnfit 50 = .ok (.getfield 9, 3) := by decide +kernel
theorem d_Fl_leastUnfit_53 : decode b_Fl_leastUnfit 53 = .ok (.iload_n 1, 1) := by decide +kernel
theorem d_Fl_leastUnfit_54 : decode b_Fl_leastUnfit 54 = .ok (.iload_n 2, 1) := by decide +kernel
theorem d_Fl_leastUnfit_55 : decode b_Fl_leastUnfit 55 = .ok (.iload_n 3, 1) := by decide +kernel
theorem d_Fl_leastUnfit_56 : decode b_Fl_leastUnfit 56 = .ok (.invokevirtual 63, 3) := by decide +kernel
theorem d_Fl_leastUnfit_59 : decode b_Fl_leastUnfit 59 = .ok (.ifCond .ne (5), 3) := by decide +kernel
theorem d_Fl_leastUnfit_62 : decode b_Fl_leastUnfit 62 = .ok (.iload_n 2, 1) := by decide +kernel
theorem d_Fl_leastUnfit_63 : decode b_Fl_leastUnfit 63 = .ok (.ireturn, 1) := by decide +kernel
theorem d_Fl_leastUnfit_64 : decode b_Fl_leastUnfit 64 = .ok (.iinc 2 (1), 3) := by decide +kernel
theorem d_Fl_leastUnfit_67 : decode b_Fl_leastUnfit 67 = .ok (.goto (-43), 3) := by decide +kernel
theorem d_Fl_leastUnfit_70 : decode b_Fl_leastUnfit 70 = .ok (.iconst (-1), 1) := by decide +kernel
theorem d_Fl_leastUnfit_71 : decode b_Fl_leastUnfit 71 = .ok (.ireturn, 1) := by decide +kernel
theorem wd_12 : (Jvm.Cond.initialized "java/lang/Math") ∈ wG := wg_t 12 (by decide +kernel) (by decide +kernel)
theorem wd_42 : (Jvm.Cond.fieldLink "FrameVerifier$Flow" (60 : Nat) "FrameVerifier$Code" "count" "I") ∈ wG := wg_t 42 (by decide +kernel) (by decide +kernel)
theorem wd_74 : (Jvm.Cond.fieldLink "FrameVerifier$Flow" (9 : Nat) "FrameVerifier$Flow" "code" "LFrameVerifier$Code;") ∈ wG := wg_t 74 (by decide +kernel) (by decide +kernel)
theorem wd_75 : (Jvm.Cond.fieldLink "FrameVerifier$Flow" (15 : Nat) "FrameVerifier$Flow" "known" "[Z") ∈ wG := wg_t 75 (by decide +kernel) (by decide +kernel)
theorem wd_76 : (Jvm.Cond.fieldLink "FrameVerifier$Flow" (21 : Nat) "FrameVerifier$Flow" "states" "[[I") ∈ wG := wg_t 76 (by decide +kernel) (by decide +kernel)
theorem wd_77 : (Jvm.Cond.fieldLink "FrameVerifier$Flow" (24 : Nat) "FrameVerifier$Flow" "waiting" "[Z") ∈ wG := wg_t 77 (by decide +kernel) (by decide +kernel)
theorem wd_78 : (Jvm.Cond.fieldLink "FrameVerifier$Flow" (27 : Nat) "FrameVerifier$Flow" "waitingFrom" "I") ∈ wG := wg_t 78 (by decide +kernel) (by decide +kernel)
theorem wd_221 : (Jvm.Cond.methodLink "FrameVerifier$Flow" (93 : Nat) ({ cls := "java/lang/Math", name := "min", desc := "(II)I" } : Jvm.MethodName)) ∈ wG := wg_t 221 (by decide +kernel) (by decide +kernel)
theorem wd_222 : (Jvm.Cond.static ({ cls := "java/lang/Math", name := "min", desc := "(II)I" } : Jvm.MethodName)) ∈ wG := wg_t 222 (by decide +kernel) (by decide +kernel)
theorem wd_223 : (Jvm.Cond.code ({ cls := "java/lang/Math", name := "min", desc := "(II)I" } : Jvm.MethodName) prog_18_method_69_code (2 : Nat) (Option.some Jvm.ClassFile.FieldType.int)) ∈ wG := wg_t 223 (by decide +kernel) (by decide +kernel)
theorem wd_993 : (Jvm.Cond.fieldLink "FrameVerifier$Flow" (75 : Nat) "FrameVerifier$Op" "goesBehind" "Z") ∈ wG := wg_t 993 (by decide +kernel) (by decide +kernel)
theorem k_Fl_31 {R : Room} {s : State} {args : Array Value} {Ts : List Cond} (hts : ∀ w ∈ Ts, w.before args s = true) (hsub : ∀ w ∈ wG, w ∈ Ts) (hR : rm_Fl_clear.frames + 1 ≤ R.frames ∧ 8 + (3 + 11) + rm_Fl_clear.locals ≤ R.locals) : CallW R s args "FrameVerifier$Flow" "FrameVerifier$Flow" 31 y_Fl_clear b_Fl_clear 3 none w_Fl_clear rm_Fl_clear 0 0 1 := ⟨cb_G hts hsub m_Fl_clear g_Fl_clear (wg_t 184 (by decide +kernel) (by decide +kernel) : Cond.methodLink "FrameVerifier$Flow" 31 y_Fl_clear ∈ wG) q_Fl_clear rfl rfl hR, hts _ (hsub _ s_Fl_clear), hts _ (hsub _ e_Fl_clear)⟩
theorem k_Fl_35 {R : Room} {s : State} {args : Array Value} {Ts : List Cond} (hts : ∀ w ∈ Ts, w.before args s = true) (hsub : ∀ w ∈ wG, w ∈ Ts) (hR : rm_Co_startOf.frames + 1 ≤ R.frames ∧ 8 + (2 + 11) + rm_Co_startOf.locals ≤ R.locals) : CallW R s args "FrameVerifier$Flow" "FrameVerifier$Code" 35 y_Co_startOf b_Co_startOf 2 (some .int) w_Co_startOf rm_Co_startOf 0 0 1 := ⟨cb_G hts hsub m_Co_startOf g_Co_startOf (wg_t 188 (by decide +kernel) (by decide +kernel) : Cond.methodLink "FrameVerifier$Flow" 35 y_Co_startOf ∈ wG) q_Co_startOf rfl rfl hR, hts _ (hsub _ s_Co_startOf), hts _ (hsub _ e_Co_startOf)⟩
theorem k_Fl_41 {R : Room} {s : State} {args : Array Value} {Ts : List Cond} (hts : ∀ w ∈ Ts, w.before args s = true) (hsub : ∀ w ∈ wG, w ∈ Ts) (hR : rm_Co_hasInstruction.frames + 1 ≤ R.frames ∧ 8 + (2 + 11) + rm_Co_hasInstruction.locals ≤ R.locals) : CallW R s args "FrameVerifier$Flow" "FrameVerifier$Code" 41 y_Co_hasInstruction b_Co_hasInstruction 2 (some .boolean) w_Co_hasInstruction rm_Co_hasInstruction 0 0 1 := ⟨cb_G hts hsub m_Co_hasInstruction g_Co_hasInstruction (wg_t 192 (by decide +kernel) (by decide +kernel) : Cond.methodLink "FrameVerifier$Flow" 41 y_Co_hasInstruction ∈ wG) q_Co_hasInstruction rfl rfl hR, hts _ (hsub _ s_Co_hasInstruction), hts _ (hsub _ e_Co_hasInstruction)⟩
theorem k_Fl_45 {R : Room} {s : State} {args : Array Value} {Ts : List Cond} (hts : ∀ w ∈ Ts, w.before args s = true) (hsub : ∀ w ∈ wG, w ∈ Ts) (hR : rm_Co_firstState.frames + 1 ≤ R.frames ∧ 8 + (4 + 11) + rm_Co_firstState.locals ≤ R.locals) : CallW R s args "FrameVerifier$Flow" "FrameVerifier$Code" 45 y_Co_firstState b_Co_firstState 4 (some .int) w_Co_firstState rm_Co_firstState 0 0 1 := ⟨cb_G hts hsub m_Co_firstState g_Co_firstState (wg_t 196 (by decide +kernel) (by decide +kernel) : Cond.methodLink "FrameVerifier$Flow" 45 y_Co_firstState ∈ wG) q_Co_firstState rfl rfl hR, hts _ (hsub _ s_Co_firstState), hts _ (hsub _ e_Co_firstState)⟩
theorem k_Fl_48 {R : Room} {s : State} {args : Array Value} {Ts : List Cond} (hts : ∀ w ∈ Ts, w.before args s = true) (hsub : ∀ w ∈ wG, w ∈ Ts) (hR : rm_Fl_meet.frames + 1 ≤ R.frames ∧ 8 + (5 + 11) + rm_Fl_meet.locals ≤ R.locals) : CallW R s args "FrameVerifier$Flow" "FrameVerifier$Flow" 48 y_Fl_meet b_Fl_meet 5 none w_Fl_meet rm_Fl_meet 0 0 3 := ⟨cb_G hts hsub m_Fl_meet g_Fl_meet (wg_t 207 (by decide +kernel) (by decide +kernel) : Cond.methodLink "FrameVerifier$Flow" 48 y_Fl_meet ∈ wG) q_Fl_meet rfl rfl hR, hts _ (hsub _ s_Fl_meet), hts _ (hsub _ e_Fl_meet)⟩
theorem k_Fl_52 {R : Room} {s : State} {args : Array Value} {Ts : List Cond} (hts : ∀ w ∈ Ts, w.before args s = true) (hsub : ∀ w ∈ wG, w ∈ Ts) (hR : rm_Fl_takeLeastWaiting.frames + 1 ≤ R.frames ∧ 8 + (2 + 11) + rm_Fl_takeLeastWaiting.locals ≤ R.locals) : CallW R s args "FrameVerifier$Flow" "FrameVerifier$Flow" 52 y_Fl_takeLeastWaiting b_Fl_takeLeastWaiting 2 (some .int) w_Fl_takeLeastWaiting rm_Fl_takeLeastWaiting 0 0 0 := ⟨cb_G hts hsub m_Fl_takeLeastWaiting g_Fl_takeLeastWaiting (wg_t 224 (by decide +kernel) (by decide +kernel) : Cond.methodLink "FrameVerifier$Flow" 52 y_Fl_takeLeastWaiting ∈ wG) q_Fl_takeLeastWaiting rfl rfl hR, hts _ (hsub _ s_Fl_takeLeastWaiting), hts _ (hsub _ e_Fl_takeLeastWaiting)⟩
theorem k_Fl_56 {R : Room} {s : State} {args : Array Value} {Ts : List Cond} (hts : ∀ w ∈ Ts, w.before args s = true) (hsub : ∀ w ∈ wG, w ∈ Ts) (hR : rm_Fl_goOn.frames + 1 ≤ R.frames ∧ 8 + (6 + 11) + rm_Fl_goOn.locals ≤ R.locals) : CallW R s args "FrameVerifier$Flow" "FrameVerifier$Flow" 56 y_Fl_goOn b_Fl_goOn 6 none w_Fl_goOn rm_Fl_goOn 0 0 2 := ⟨cb_G hts hsub m_Fl_goOn g_Fl_goOn (wg_t 228 (by decide +kernel) (by decide +kernel) : Cond.methodLink "FrameVerifier$Flow" 56 y_Fl_goOn ∈ wG) q_Fl_goOn rfl rfl hR, hts _ (hsub _ s_Fl_goOn), hts _ (hsub _ e_Fl_goOn)⟩
theorem k_Fl_63 {R : Room} {s : State} {args : Array Value} {Ts : List Cond} (hts : ∀ w ∈ Ts, w.before args s = true) (hsub : ∀ w ∈ wG, w ∈ Ts) (hR : rm_Co_fits.frames + 1 ≤ R.frames ∧ 8 + (6 + 11) + rm_Co_fits.locals ≤ R.locals) : CallW R s args "FrameVerifier$Flow" "FrameVerifier$Code" 63 y_Co_fits b_Co_fits 6 (some .boolean) w_Co_fits rm_Co_fits 0 0 3 := ⟨cb_G hts hsub m_Co_fits g_Co_fits (wg_t 232 (by decide +kernel) (by decide +kernel) : Cond.methodLink "FrameVerifier$Flow" 63 y_Co_fits ∈ wG) q_Co_fits rfl rfl hR, hts _ (hsub _ s_Co_fits), hts _ (hsub _ e_Co_fits)⟩
theorem k_Fl_67 {R : Room} {s : State} {args : Array Value} {Ts : List Cond} (hts : ∀ w ∈ Ts, w.before args s = true) (hsub : ∀ w ∈ wG, w ∈ Ts) (hR : rm_Co_opAt.frames + 1 ≤ R.frames ∧ 8 + (2 + 11) + rm_Co_opAt.locals ≤ R.locals) : CallW R s args "FrameVerifier$Flow" "FrameVerifier$Code" 67 y_Co_opAt b_Co_opAt 2 (some (.object "FrameVerifier$Op")) w_Co_opAt rm_Co_opAt 0 0 1 := ⟨cb_G hts hsub m_Co_opAt g_Co_opAt (wg_t 358 (by decide +kernel) (by decide +kernel) : Cond.methodLink "FrameVerifier$Flow" 67 y_Co_opAt ∈ wG) q_Co_opAt rfl rfl hR, hts _ (hsub _ s_Co_opAt), hts _ (hsub _ e_Co_opAt)⟩
theorem k_Fl_71 {R : Room} {s : State} {args : Array Value} {Ts : List Cond} (hts : ∀ w ∈ Ts, w.before args s = true) (hsub : ∀ w ∈ wG, w ∈ Ts) (hR : rm_Co_after.frames + 1 ≤ R.frames ∧ 8 + (6 + 11) + rm_Co_after.locals ≤ R.locals) : CallW R s args "FrameVerifier$Flow" "FrameVerifier$Code" 71 y_Co_after b_Co_after 6 (some .int) w_Co_after rm_Co_after 0 0 2 := ⟨cb_G hts hsub m_Co_after g_Co_after (wg_t 359 (by decide +kernel) (by decide +kernel) : Cond.methodLink "FrameVerifier$Flow" 71 y_Co_after ∈ wG) q_Co_after rfl rfl hR, hts _ (hsub _ s_Co_after), hts _ (hsub _ e_Co_after)⟩
theorem k_Fl_81 {R : Room} {s : State} {args : Array Value} {Ts : List Cond} (hts : ∀ w ∈ Ts, w.before args s = true) (hsub : ∀ w ∈ wG, w ∈ Ts) (hR : rm_Op_jumps.frames + 1 ≤ R.frames ∧ 8 + (1 + 11) + rm_Op_jumps.locals ≤ R.locals) : CallW R s args "FrameVerifier$Flow" "FrameVerifier$Op" 81 y_Op_jumps b_Op_jumps 1 (some .boolean) w_Op_jumps rm_Op_jumps 0 0 0 := ⟨cb_G hts hsub m_Op_jumps g_Op_jumps (wg_t 360 (by decide +kernel) (by decide +kernel) : Cond.methodLink "FrameVerifier$Flow" 81 y_Op_jumps ∈ wG) q_Op_jumps rfl rfl hR, hts _ (hsub _ s_Op_jumps), hts _ (hsub _ e_Op_jumps)⟩
theorem k_Fl_85 {R : Room} {s : State} {args : Array Value} {Ts : List Cond} (hts : ∀ w ∈ Ts, w.before args s = true) (hsub : ∀ w ∈ wG, w ∈ Ts) (hR : rm_Co_numberAt.frames + 1 ≤ R.frames ∧ 8 + (2 + 11) + rm_Co_numberAt.locals ≤ R.locals) : CallW R s args "FrameVerifier$Flow" "FrameVerifier$Code" 85 y_Co_numberAt b_Co_numberAt 2 (some .int) w_Co_numberAt rm_Co_numberAt 0 0 1 := ⟨cb_G hts hsub m_Co_numberAt g_Co_numberAt (wg_t 361 (by decide +kernel) (by decide +kernel) : Cond.methodLink "FrameVerifier$Flow" 85 y_Co_numberAt ∈ wG) q_Co_numberAt rfl rfl hR, hts _ (hsub _ s_Co_numberAt), hts _ (hsub _ e_Co_numberAt)⟩
theorem k_Fl_88 {R : Room} {s : State} {args : Array Value} {Ts : List Cond} (hts : ∀ w ∈ Ts, w.before args s = true) (hsub : ∀ w ∈ wG, w ∈ Ts) (hR : rm_Ty_met.frames + 1 ≤ R.frames ∧ 8 + (4 + 11) + rm_Ty_met.locals ≤ R.locals) : CallB R s args "FrameVerifier$Flow" 88 y_Ty_met b_Ty_met 4 (some .int) w_Ty_met rm_Ty_met 0 0 2 ∧ (Cond.static y_Ty_met).before args s = true := ⟨cb_G hts hsub m_Ty_met g_Ty_met (wg_t 211 (by decide +kernel) (by decide +kernel) : Cond.methodLink "FrameVerifier$Flow" 88 y_Ty_met ∈ wG) q_Ty_met rfl rfl hR, hts _ (hsub _ s_Ty_met)⟩

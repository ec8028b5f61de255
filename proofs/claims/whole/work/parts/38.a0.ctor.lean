/-! names of 38 -/
def y_Fl_init : MethodName := ⟨"FrameVerifier$Flow", "<init>", "(LFrameVerifier$Code;)V"⟩
abbrev b_Fl_init : ByteArray := prog_4_method_1_code
def rm_Fl_init : Room := { frames := 1, cells := 7, slots := 508, locals := 12 }
abbrev w_Fl_init : List Cond := Cond.code y_Fl_init b_Fl_init 2 none :: wG
theorem m_Fl_init : Cond.code y_Fl_init b_Fl_init 2 none ∈ wG := wg_t 70 (by decide +kernel) (by decide +kernel)
theorem q_Fl_init : y_Fl_init.cls ≠ "java/lang/invoke/MethodHandle" ∧ y_Fl_init.cls ≠ "java/lang/invoke/VarHandle" ∧ (parseMethodDescriptor y_Fl_init.desc).map (fun d => d.parameters.length) = some 1 := by decide +kernel
theorem g_Fl_init : Cond.initialized y_Fl_init.cls ∈ wG := wg_t 3 (by decide +kernel) (by decide +kernel)
theorem s_Fl_init : Cond.instanceMethod y_Fl_init ∈ wG := wg_t 69 (by decide +kernel) (by decide +kernel)
theorem d_Fl_init_0 : decode b_Fl_init 0 = .ok (.aload_n 0, 1) := by decide +kernel
theorem d_Fl_init_1 : decode b_Fl_init 1 = .ok (.invokespecial 3, 3) := by decide +kernel
theorem d_Fl_init_4 : decode b_Fl_init 4 = .ok (.aload_n 0, 1) := by decide +kernel
theorem d_Fl_init_5 : decode b_Fl_init 5 = .ok (.aload_n 1, 1) := by decide +kernel
theorem d_Fl_init_6 : decode b_Fl_init 6 = .ok (.putfield 9, 3) := by decide +kernel
theorem d_Fl_init_9 : decode b_Fl_init 9 = .ok (.aload_n 0, 1) := by decide +kernel
theorem d_Fl_init_10 : decode b_Fl_init 10 = .ok (.iconst 4, 1) := by decide +kernel
theorem d_Fl_init_11 : decode b_Fl_init 11 = .ok (.newarray .boolean, 2) := by decide +kernel
theorem d_Fl_init_13 : decode b_Fl_init 13 = .ok (.putfield 15, 3) := by decide +kernel
theorem d_Fl_init_16 : decode b_Fl_init 16 = .ok (.aload_n 0, 1) := by decide +kernel
theorem d_Fl_init_17 : decode b_Fl_init 17 = .ok (.iconst 4, 1) := by decide +kernel
theorem d_Fl_init_18 : decode b_Fl_init 18 = .ok (.bipush (100), 2) := by decide +kernel
theorem d_Fl_init_20 : decode b_Fl_init 20 = .ok (.multianewarray 19 2, 4) := by decide +kernel
theorem d_Fl_init_24 : decode b_Fl_init 24 = .ok (.putfield 21, 3) := by decide +kernel
theorem d_Fl_init_27 : decode b_Fl_init 27 = .ok (.aload_n 0, 1) := by decide +kernel
theorem d_Fl_init_28 : decode b_Fl_init 28 = .ok (.bipush (100), 2) := by decide +kernel
theorem d_Fl_init_30 : decode b_Fl_init 30 = .ok (.newarray .boolean, 2) := by decide +kernel
theorem d_Fl_init_32 : decode b_Fl_init 32 = .ok (.putfield 24, 3) := by decide +kernel
theorem d_Fl_init_35 : decode b_Fl_init 35 = .ok (.aload_n 0, 1) := by decide +kernel
theorem d_Fl_init_36 : decode b_Fl_init 36 = .ok (.bipush (100), 2) := by decide +kernel
theorem d_Fl_init_38 : decode b_Fl_init 38 = .ok (.putfield 27, 3) := by decide +kernel
theorem d_Fl_init_41 : decode b_Fl_init 41 = .ok (.return_, 1) := by decide +kernel
def y_Ma_init : MethodName := ⟨"FrameVerifier$Machine", "<init>", "(LFrameVerifier$Code;)V"⟩
abbrev b_Ma_init : ByteArray := prog_6_method_1_code
def rm_Ma_init : Room := { frames := 2, cells := 18, slots := 166, locals := 40 }
abbrev w_Ma_init : List Cond := Cond.code y_Ma_init b_Ma_init 3 none :: wG
theorem m_Ma_init : Cond.code y_Ma_init b_Ma_init 3 none ∈ wG := wg_t 94 (by decide +kernel) (by decide +kernel)
theorem q_Ma_init : y_Ma_init.cls ≠ "java/lang/invoke/MethodHandle" ∧ y_Ma_init.cls ≠ "java/lang/invoke/VarHandle" ∧ (parseMethodDescriptor y_Ma_init.desc).map (fun d => d.parameters.length) = some 1 := by decide +kernel
theorem g_Ma_init : Cond.initialized y_Ma_init.cls ∈ wG := wg_t 4 (by decide +kernel) (by decide +kernel)
theorem s_Ma_init : Cond.instanceMethod y_Ma_init ∈ wG := wg_t 93 (by decide +kernel) (by decide +kernel)
theorem d_Ma_init_0 : decode b_Ma_init 0 = .ok (.aload_n 0, 1) := by decide +kernel
theorem d_Ma_init_1 : decode b_Ma_init 1 = .ok (.invokespecial 3, 3) := by decide +kernel
theorem d_Ma_init_4 : decode b_Ma_init 4 = .ok (.aload_n 0, 1) := by decide +kernel
theorem d_Ma_init_5 : decode b_Ma_init 5 = .ok (.aload_n 1, 1) := by decide +kernel
theorem d_Ma_init_6 : decode b_Ma_init 6 = .ok (.putfield 9, 3) := by decide +kernel
theorem d_Ma_init_9 : decode b_Ma_init 9 = .ok (.aload_n 0, 1) := by decide +kernel
theorem d_Ma_init_10 : decode b_Ma_init 10 = .ok (.iconst 0, 1) := by decide +kernel
theorem d_Ma_init_11 : decode b_Ma_init 11 = .ok (.putfield 15, 3) := by decide +kernel
theorem d_Ma_init_14 : decode b_Ma_init 14 = .ok (.aload_n 0, 1) := by decide +kernel
theorem d_Ma_init_15 : decode b_Ma_init 15 = .ok (.iconst 0, 1) := by decide +kernel
theorem d_Ma_init_16 : decode b_Ma_init 16 = .ok (.putfield 19, 3) := by decide +kernel
theorem d_Ma_init_19 : decode b_Ma_init 19 = .ok (.aload_n 0, 1) := by decide +kernel
theorem d_Ma_init_20 : decode b_Ma_init 20 = .ok (.iconst 0, 1) := by decide +kernel
theorem d_Ma_init_21 : decode b_Ma_init 21 = .ok (.putfield 22, 3) := by decide +kernel
theorem d_Ma_init_24 : decode b_Ma_init 24 = .ok (.aload_n 0, 1) := by decide +kernel
theorem d_Ma_init_25 : decode b_Ma_init 25 = .ok (.bipush (30), 2) := by decide +kernel
theorem d_Ma_init_27 : decode b_Ma_init 27 = .ok (.newarray .int, 2) := by decide +kernel
theorem d_Ma_init_29 : decode b_Ma_init 29 = .ok (.putfield 25, 3) := by decide +kernel
theorem d_Ma_init_32 : decode b_Ma_init 32 = .ok (.aload_n 0, 1) := by decide +kernel
theorem d_Ma_init_33 : decode b_Ma_init 33 = .ok (.bipush (8), 2) := by decide +kernel
theorem d_Ma_init_35 : decode b_Ma_init 35 = .ok (.anewarray 29, 3) := by decide +kernel
theorem d_Ma_init_38 : decode b_Ma_init 38 = .ok (.putfield 31, 3) := by decide +kernel
theorem d_Ma_init_41 : decode b_Ma_init 41 = .ok (.iconst 0, 1) := by decide +kernel
theorem d_Ma_init_42 : decode b_Ma_init 42 = .ok (.istore_n 2, 1) := by decide +kernel
theorem d_Ma_init_43 : decode b_Ma_init 43 = .ok (.iload_n 2, 1) := by decide +kernel
theorem d_Ma_init_44 : decode b_Ma_init 44 = .ok (.bipush (8), 2) := by decide +kernel
theorem d_Ma_init_46 : decode b_Ma_init 46 = .ok (.if_icmp .ge (22), 3) := by decide +kernel
theorem d_Ma_init_49 : decode b_Ma_init 49 = .ok (.aload_n 0, 1) := by decide +kernel
theorem d_Ma_init_50 : decode b_Ma_init 50 = .ok (.getfield 31, 3) := by decide +kernel
theorem d_Ma_init_53 : decode b_Ma_init 53 = .ok (.iload_n 2, 1) := by decide +kernel
theorem d_Ma_init_54 : decode b_Ma_init 54 = .ok (.new 29, 3) := by decide +kernel
theorem d_Ma_init_57 : decode b_Ma_init 57 = .ok (.dup, 1) := by decide +kernel
theorem d_Ma_init_58 : decode b_Ma_init 58 = .ok (.invokespecial 35, 3) := by decide +kernel
theorem d_Ma_init_61 : decode b_Ma_init 61 = .ok (.aastore, 1) := by decide +kernel
theorem d_Ma_init_62 : decode b_Ma_init 62 = .ok (.iinc 2 (1), 3) := by decide +kernel
theorem d_Ma_init_65 : decode b_Ma_init 65 = .ok (.goto (-22), 3) := by decide +kernel
theorem d_Ma_init_68 : decode b_Ma_init 68 = .ok (.return_, 1) := by decide +kernel
theorem wd_5 : (Jvm.Cond.initialized "FrameVerifier$Frame") ∈ wG := wg_t 5 (by decide +kernel) (by decide +kernel)
theorem wd_71 : (Jvm.Cond.methodLink "FrameVerifier$Flow" (3 : Nat) ({ cls := "java/lang/Object", name := "<init>", desc := "()V" } : Jvm.MethodName)) ∈ wG := wg_t 71 (by decide +kernel) (by decide +kernel)
theorem wd_72 : (Jvm.Cond.classLink "FrameVerifier$Flow" (19 : Nat) "[[I") ∈ wG := wg_t 72 (by decide +kernel) (by decide +kernel)
theorem wd_95 : (Jvm.Cond.methodLink "FrameVerifier$Machine" (3 : Nat) ({ cls := "java/lang/Object", name := "<init>", desc := "()V" } : Jvm.MethodName)) ∈ wG := wg_t 95 (by decide +kernel) (by decide +kernel)
theorem wd_96 : (Jvm.Cond.classLink "FrameVerifier$Machine" (29 : Nat) "FrameVerifier$Frame") ∈ wG := wg_t 96 (by decide +kernel) (by decide +kernel)
theorem wd_98 : (Jvm.Cond.instantiable "FrameVerifier$Frame" (4 : Nat)) ∈ wG := wg_t 98 (by decide +kernel) (by decide +kernel)
theorem wd_99 : (Jvm.Cond.methodLink "FrameVerifier$Machine" (35 : Nat) ({ cls := "FrameVerifier$Frame", name := "<init>", desc := "()V" } : Jvm.MethodName)) ∈ wG := wg_t 99 (by decide +kernel) (by decide +kernel)

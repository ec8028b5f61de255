/-! names of 40 -/
def y_FV_init : MethodName := ⟨"FrameVerifier", "<init>", "()V"⟩
abbrev b_FV_init : ByteArray := prog_1_method_1_code
def rm_FV_init : Room := { frames := 3, cells := 34, slots := 908, locals := 70 }
abbrev w_FV_init : List Cond := Cond.code y_FV_init b_FV_init 1 none :: wG
theorem m_FV_init : Cond.code y_FV_init b_FV_init 1 none ∈ wG := wg_t 30 (by decide +kernel) (by decide +kernel)
theorem q_FV_init : y_FV_init.cls ≠ "java/lang/invoke/MethodHandle" ∧ y_FV_init.cls ≠ "java/lang/invoke/VarHandle" ∧ (parseMethodDescriptor y_FV_init.desc).map (fun d => d.parameters.length) = some 0 := by decide +kernel
theorem g_FV_init : Cond.initialized y_FV_init.cls ∈ wG := wg_t 1 (by decide +kernel) (by decide +kernel)
theorem s_FV_init : Cond.instanceMethod y_FV_init ∈ wG := wg_t 29 (by decide +kernel) (by decide +kernel)
theorem d_FV_init_0 : decode b_FV_init 0 = .ok (.aload_n 0, 1) := by decide +kernel
theorem d_FV_init_1 : decode b_FV_init 1 = .ok (.invokespecial 3, 3) := by decide +kernel
theorem d_FV_init_4 : decode b_FV_init 4 = .ok (.aload_n 0, 1) := by decide +kernel
theorem d_FV_init_5 : decode b_FV_init 5 = .ok (.new 9, 3) := by decide +kernel
theorem d_FV_init_8 : decode b_FV_init 8 = .ok (.dup, 1) := by decide +kernel
theorem d_FV_init_9 : decode b_FV_init 9 = .ok (.invokespecial 11, 3) := by decide +kernel
theorem d_FV_init_12 : decode b_FV_init 12 = .ok (.putfield 12, 3) := by decide +kernel
theorem d_FV_init_15 : decode b_FV_init 15 = .ok (.aload_n 0, 1) := by decide +kernel
theorem d_FV_init_16 : decode b_FV_init 16 = .ok (.new 16, 3) := by decide +kernel
theorem d_FV_init_19 : decode b_FV_init 19 = .ok (.dup, 1) := by decide +kernel
theorem d_FV_init_20 : decode b_FV_init 20 = .ok (.aload_n 0, 1) := by decide +kernel
theorem d_FV_init_21 : decode b_FV_init 21 = .ok (.getfield 12, 3) := by decide +kernel
theorem d_FV_init_24 : decode b_FV_init 24 = .ok (.invokespecial 18, 3) := by decide +kernel
theorem d_FV_init_27 : decode b_FV_init 27 = .ok (.putfield 21, 3) := by decide +kernel
theorem d_FV_init_30 : decode b_FV_init 30 = .ok (.aload_n 0, 1) := by decide +kernel
theorem d_FV_init_31 : decode b_FV_init 31 = .ok (.new 25, 3) := by decide +kernel
theorem d_FV_init_34 : decode b_FV_init 34 = .ok (.dup, 1) := by decide +kernel
theorem d_FV_init_35 : decode b_FV_init 35 = .ok (.aload_n 0, 1) := by decide +kernel
theorem d_FV_init_36 : decode b_FV_init 36 = .ok (.getfield 12, 3) := by decide +kernel
theorem d_FV_init_39 : decode b_FV_init 39 = .ok (.invokespecial 27, 3) := by decide +kernel
theorem d_FV_init_42 : decode b_FV_init 42 = .ok (.putfield 28, 3) := by decide +kernel
theorem d_FV_init_45 : decode b_FV_init 45 = .ok (.aload_n 0, 1) := by decide +kernel
theorem d_FV_init_46 : decode b_FV_init 46 = .ok (.iconst 0, 1) := by decide +kernel
theorem d_FV_init_47 : decode b_FV_init 47 = .ok (.putfield 32, 3) := by decide +kernel
theorem d_FV_init_50 : decode b_FV_init 50 = .ok (.return_, 1) := by decide +kernel
def y_Mo_init : MethodName := ⟨"FrameVerifierModel", "<init>", "()V"⟩
abbrev b_Mo_init : ByteArray := prog_11_method_1_code
def rm_Mo_init : Room := { frames := 1, cells := 16, slots := 6075, locals := 12 }
abbrev w_Mo_init : List Cond := Cond.code y_Mo_init b_Mo_init 2 none :: wG
theorem m_Mo_init : Cond.code y_Mo_init b_Mo_init 2 none ∈ wG := wg_t 739 (by decide +kernel) (by decide +kernel)
theorem q_Mo_init : y_Mo_init.cls ≠ "java/lang/invoke/MethodHandle" ∧ y_Mo_init.cls ≠ "java/lang/invoke/VarHandle" ∧ (parseMethodDescriptor y_Mo_init.desc).map (fun d => d.parameters.length) = some 0 := by decide +kernel
theorem g_Mo_init : Cond.initialized y_Mo_init.cls ∈ wG := wg_t 6 (by decide +kernel) (by decide +kernel)
theorem s_Mo_init : Cond.instanceMethod y_Mo_init ∈ wG := wg_t 738 (by decide +kernel) (by decide +kernel)
theorem d_Mo_init_0 : decode b_Mo_init 0 = .ok (.aload_n 0, 1) := by decide +kernel
theorem d_Mo_init_1 : decode b_Mo_init 1 = .ok (.invokespecial 1, 3) := by decide +kernel
theorem d_Mo_init_4 : decode b_Mo_init 4 = .ok (.aload_n 0, 1) := by decide +kernel
theorem d_Mo_init_5 : decode b_Mo_init 5 = .ok (.bipush (100), 2) := by decide +kernel
theorem d_Mo_init_7 : decode b_Mo_init 7 = .ok (.newarray .int, 2) := by decide +kernel
theorem d_Mo_init_9 : decode b_Mo_init 9 = .ok (.putfield 7, 3) := by decide +kernel
theorem d_Mo_init_12 : decode b_Mo_init 12 = .ok (.aload_n 0, 1) := by decide +kernel
theorem d_Mo_init_13 : decode b_Mo_init 13 = .ok (.bipush (100), 2) := by decide +kernel
theorem d_Mo_init_15 : decode b_Mo_init 15 = .ok (.newarray .int, 2) := by decide +kernel
theorem d_Mo_init_17 : decode b_Mo_init 17 = .ok (.putfield 13, 3) := by decide +kernel
theorem d_Mo_init_20 : decode b_Mo_init 20 = .ok (.aload_n 0, 1) := by decide +kernel
theorem d_Mo_init_21 : decode b_Mo_init 21 = .ok (.iconst 4, 1) := by decide +kernel
theorem d_Mo_init_22 : decode b_Mo_init 22 = .ok (.newarray .boolean, 2) := by decide +kernel
theorem d_Mo_init_24 : decode b_Mo_init 24 = .ok (.putfield 16, 3) := by decide +kernel
theorem d_Mo_init_27 : decode b_Mo_init 27 = .ok (.aload_n 0, 1) := by decide +kernel
theorem d_Mo_init_28 : decode b_Mo_init 28 = .ok (.iconst 4, 1) := by decide +kernel
theorem d_Mo_init_29 : decode b_Mo_init 29 = .ok (.newarray .int, 2) := by decide +kernel
theorem d_Mo_init_31 : decode b_Mo_init 31 = .ok (.putfield 20, 3) := by decide +kernel
theorem d_Mo_init_34 : decode b_Mo_init 34 = .ok (.aload_n 0, 1) := by decide +kernel
theorem d_Mo_init_35 : decode b_Mo_init 35 = .ok (.iconst 4, 1) := by decide +kernel
theorem d_Mo_init_36 : decode b_Mo_init 36 = .ok (.newarray .int, 2) := by decide +kernel
theorem d_Mo_init_38 : decode b_Mo_init 38 = .ok (.putfield 23, 3) := by decide +kernel
theorem d_Mo_init_41 : decode b_Mo_init 41 = .ok (.aload_n 0, 1) := by decide +kernel
theorem d_Mo_init_42 : decode b_Mo_init 42 = .ok (.iconst 4, 1) := by decide +kernel
theorem d_Mo_init_43 : decode b_Mo_init 43 = .ok (.newarray .int, 2) := by decide +kernel
theorem d_Mo_init_45 : decode b_Mo_init 45 = .ok (.putfield 26, 3) := by decide +kernel
theorem d_Mo_init_48 : decode b_Mo_init 48 = .ok (.aload_n 0, 1) := by decide +kernel
theorem d_Mo_init_49 : decode b_Mo_init 49 = .ok (.sipush (400), 3) := by decide +kernel
theorem d_Mo_init_52 : decode b_Mo_init 52 = .ok (.newarray .int, 2) := by decide +kernel
theorem d_Mo_init_54 : decode b_Mo_init 54 = .ok (.putfield 29, 3) := by decide +kernel
theorem d_Mo_init_57 : decode b_Mo_init 57 = .ok (.aload_n 0, 1) := by decide +kernel
theorem d_Mo_init_58 : decode b_Mo_init 58 = .ok (.sipush (4800), 3) := by decide +kernel
theorem d_Mo_init_61 : decode b_Mo_init 61 = .ok (.newarray .int, 2) := by decide +kernel
theorem d_Mo_init_63 : decode b_Mo_init 63 = .ok (.putfield 32, 3) := by decide +kernel
theorem d_Mo_init_66 : decode b_Mo_init 66 = .ok (.aload_n 0, 1) := by decide +kernel
theorem d_Mo_init_67 : decode b_Mo_init 67 = .ok (.sipush (400), 3) := by decide +kernel
theorem d_Mo_init_70 : decode b_Mo_init 70 = .ok (.newarray .boolean, 2) := by decide +kernel
theorem d_Mo_init_72 : decode b_Mo_init 72 = .ok (.putfield 35, 3) := by decide +kernel
theorem d_Mo_init_75 : decode b_Mo_init 75 = .ok (.aload_n 0, 1) := by decide +kernel
theorem d_Mo_init_76 : decode b_Mo_init 76 = .ok (.bipush (12), 2) := by decide +kernel
theorem d_Mo_init_78 : decode b_Mo_init 78 = .ok (.newarray .int, 2) := by decide +kernel
theorem d_Mo_init_80 : decode b_Mo_init 80 = .ok (.putfield 38, 3) := by decide +kernel
theorem d_Mo_init_83 : decode b_Mo_init 83 = .ok (.aload_n 0, 1) := by decide +kernel
theorem d_Mo_init_84 : decode b_Mo_init 84 = .ok (.bipush (8), 2) := by decide +kernel
theorem d_Mo_init_86 : decode b_Mo_init 86 = .ok (.newarray .int, 2) := by decide +kernel
theorem d_Mo_init_88 : decode b_Mo_init 88 = .ok (.putfield 41, 3) := by decide +kernel
theorem d_Mo_init_91 : decode b_Mo_init 91 = .ok (.aload_n 0, 1) := by decide +kernel
theorem d_Mo_init_92 : decode b_Mo_init 92 = .ok (.bipush (8), 2) := by decide +kernel
theorem d_Mo_init_94 : decode b_Mo_init 94 = .ok (.newarray .int, 2) := by decide +kernel
theorem d_Mo_init_96 : decode b_Mo_init 96 = .ok (.putfield 44, 3) := by decide +kernel
theorem d_Mo_init_99 : decode b_Mo_init 99 = .ok (.aload_n 0, 1) := by decide +kernel
theorem d_Mo_init_100 : decode b_Mo_init 100 = .ok (.bipush (8), 2) := by decide +kernel
theorem d_Mo_init_102 : decode b_Mo_init 102 = .ok (.newarray .int, 2) := by decide +kernel
theorem d_Mo_init_104 : decode b_Mo_init 104 = .ok (.putfield 47, 3) := by decide +kernel
theorem d_Mo_init_107 : decode b_Mo_init 107 = .ok (.aload_n 0, 1) := by decide +kernel
theorem d_Mo_init_108 : decode b_Mo_init 108 = .ok (.bipush (96), 2) := by decide +kernel
theorem d_Mo_init_110 : decode b_Mo_init 110 = .ok (.newarray .int, 2) := by decide +kernel
theorem d_Mo_init_112 : decode b_Mo_init 112 = .ok (.putfield 50, 3) := by decide +kernel
theorem d_Mo_init_115 : decode b_Mo_init 115 = .ok (.aload_n 0, 1) := by decide +kernel
theorem d_Mo_init_116 : decode b_Mo_init 116 = .ok (.bipush (96), 2) := by decide +kernel
theorem d_Mo_init_118 : decode b_Mo_init 118 = .ok (.newarray .int, 2) := by decide +kernel
theorem d_Mo_init_120 : decode b_Mo_init 120 = .ok (.putfield 53, 3) := by decide +kernel
theorem d_Mo_init_123 : decode b_Mo_init 123 = .ok (.aload_n 0, 1) := by decide +kernel
theorem d_Mo_init_124 : decode b_Mo_init 124 = .ok (.bipush (31), 2) := by decide +kernel
theorem d_Mo_init_126 : decode b_Mo_init 126 = .ok (.newarray .int, 2) := by decide +kernel
theorem d_Mo_init_128 : decode b_Mo_init 128 = .ok (.putfield 56, 3) := by decide +kernel
theorem d_Mo_init_131 : decode b_Mo_init 131 = .ok (.iconst 0, 1) := by decide +kernel
theorem d_Mo_init_132 : decode b_Mo_init 132 = .ok (.istore_n 1, 1) := by decide +kernel
theorem d_Mo_init_133 : decode b_Mo_init 133 = .ok (.iload_n 1, 1) := by decide +kernel
theorem d_Mo_init_134 : decode b_Mo_init 134 = .ok (.sipush (400), 3) := by decide +kernel
theorem d_Mo_init_137 : decode b_Mo_init 137 = .ok (.if_icmp .ge (16), 3) := by decide +kernel
theorem d_Mo_init_140 : decode b_Mo_init 140 = .ok (.aload_n 0, 1) := by decide +kernel
theorem d_Mo_init_141 : decode b_Mo_init 141 = .ok (.getfield 29, 3) := by decide +kernel
theorem d_Mo_init_144 : decode b_Mo_init 144 = .ok (.iload_n 1, 1) := by decide +kernel
theorem d_Mo_init_145 : decode b_Mo_init 145 = .ok (.iconst (-1), 1) := by decide +kernel
theorem d_Mo_init_146 : decode b_Mo_init 146 = .ok (.iastore, 1) := by decide +kernel
theorem d_Mo_init_147 : decode b_Mo_init 147 = .ok (.iinc 1 (1), 3) := by decide +kernel
theorem d_Mo_init_150 : decode b_Mo_init 150 = .ok (.goto (-17), 3) := by decide +kernel
theorem d_Mo_init_153 : decode b_Mo_init 153 = .ok (.return_, 1) := by decide +kernel
theorem wd_2 : (Jvm.Cond.initialized "FrameVerifier$Code") ∈ wG := wg_t 2 (by decide +kernel) (by decide +kernel)
theorem wd_3 : (Jvm.Cond.initialized "FrameVerifier$Flow") ∈ wG := wg_t 3 (by decide +kernel) (by decide +kernel)
theorem wd_4 : (Jvm.Cond.initialized "FrameVerifier$Machine") ∈ wG := wg_t 4 (by decide +kernel) (by decide +kernel)
theorem wd_31 : (Jvm.Cond.methodLink "FrameVerifier" (3 : Nat) ({ cls := "java/lang/Object", name := "<init>", desc := "()V" } : Jvm.MethodName)) ∈ wG := wg_t 31 (by decide +kernel) (by decide +kernel)
theorem wd_34 : (Jvm.Cond.classLink "FrameVerifier" (9 : Nat) "FrameVerifier$Code") ∈ wG := wg_t 34 (by decide +kernel) (by decide +kernel)
theorem wd_35 : (Jvm.Cond.instantiable "FrameVerifier$Code" (7 : Nat)) ∈ wG := wg_t 35 (by decide +kernel) (by decide +kernel)
theorem wd_36 : (Jvm.Cond.methodLink "FrameVerifier" (11 : Nat) ({ cls := "FrameVerifier$Code", name := "<init>", desc := "()V" } : Jvm.MethodName)) ∈ wG := wg_t 36 (by decide +kernel) (by decide +kernel)
theorem wd_66 : (Jvm.Cond.classLink "FrameVerifier" (16 : Nat) "FrameVerifier$Flow") ∈ wG := wg_t 66 (by decide +kernel) (by decide +kernel)
theorem wd_67 : (Jvm.Cond.instantiable "FrameVerifier$Flow" (5 : Nat)) ∈ wG := wg_t 67 (by decide +kernel) (by decide +kernel)
theorem wd_68 : (Jvm.Cond.methodLink "FrameVerifier" (18 : Nat) ({ cls := "FrameVerifier$Flow", name := "<init>", desc := "(LFrameVerifier$Code;)V" } : Jvm.MethodName)) ∈ wG := wg_t 68 (by decide +kernel) (by decide +kernel)
theorem wd_90 : (Jvm.Cond.classLink "FrameVerifier" (25 : Nat) "FrameVerifier$Machine") ∈ wG := wg_t 90 (by decide +kernel) (by decide +kernel)
theorem wd_91 : (Jvm.Cond.instantiable "FrameVerifier$Machine" (6 : Nat)) ∈ wG := wg_t 91 (by decide +kernel) (by decide +kernel)
theorem wd_92 : (Jvm.Cond.methodLink "FrameVerifier" (27 : Nat) ({ cls := "FrameVerifier$Machine", name := "<init>", desc := "(LFrameVerifier$Code;)V" } : Jvm.MethodName)) ∈ wG := wg_t 92 (by decide +kernel) (by decide +kernel)
theorem wd_740 : (Jvm.Cond.methodLink "FrameVerifierModel" (1 : Nat) ({ cls := "java/lang/Object", name := "<init>", desc := "()V" } : Jvm.MethodName)) ∈ wG := wg_t 740 (by decide +kernel) (by decide +kernel)

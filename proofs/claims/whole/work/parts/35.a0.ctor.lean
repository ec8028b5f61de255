/-! names of 35 -/
def y_Fr_init : MethodName := ⟨"FrameVerifier$Frame", "<init>", "()V"⟩
abbrev b_Fr_init : ByteArray := prog_5_method_1_code
def rm_Fr_init : Room := { frames := 1, cells := 1, slots := 12, locals := 12 }
abbrev w_Fr_init : List Cond := Cond.code y_Fr_init b_Fr_init 1 none :: wG
theorem m_Fr_init : Cond.code y_Fr_init b_Fr_init 1 none ∈ wG := wg_t 101 (by decide +kernel) (by decide +kernel)
theorem q_Fr_init : y_Fr_init.cls ≠ "java/lang/invoke/MethodHandle" ∧ y_Fr_init.cls ≠ "java/lang/invoke/VarHandle" ∧ (parseMethodDescriptor y_Fr_init.desc).map (fun d => d.parameters.length) = some 0 := by decide +kernel
theorem g_Fr_init : Cond.initialized y_Fr_init.cls ∈ wG := wg_t 5 (by decide +kernel) (by decide +kernel)
theorem s_Fr_init : Cond.instanceMethod y_Fr_init ∈ wG := wg_t 100 (by decide +kernel) (by decide +kernel)
theorem d_Fr_init_0 : decode b_Fr_init 0 = .ok (.aload_n 0, 1) := by decide +kernel
theorem d_Fr_init_1 : decode b_Fr_init 1 = .ok (.invokespecial 3, 3) := by decide +kernel
theorem d_Fr_init_4 : decode b_Fr_init 4 = .ok (.aload_n 0, 1) := by decide +kernel
theorem d_Fr_init_5 : decode b_Fr_init 5 = .ok (.iconst 0, 1) := by decide +kernel
theorem d_Fr_init_6 : decode b_Fr_init 6 = .ok (.putfield 9, 3) := by decide +kernel
theorem d_Fr_init_9 : decode b_Fr_init 9 = .ok (.aload_n 0, 1) := by decide +kernel
theorem d_Fr_init_10 : decode b_Fr_init 10 = .ok (.iconst 0, 1) := by decide +kernel
theorem d_Fr_init_11 : decode b_Fr_init 11 = .ok (.putfield 15, 3) := by decide +kernel
theorem d_Fr_init_14 : decode b_Fr_init 14 = .ok (.aload_n 0, 1) := by decide +kernel
theorem d_Fr_init_15 : decode b_Fr_init 15 = .ok (.iconst 0, 1) := by decide +kernel
theorem d_Fr_init_16 : decode b_Fr_init 16 = .ok (.putfield 20, 3) := by decide +kernel
theorem d_Fr_init_19 : decode b_Fr_init 19 = .ok (.aload_n 0, 1) := by decide +kernel
theorem d_Fr_init_20 : decode b_Fr_init 20 = .ok (.bipush (12), 2) := by decide +kernel
theorem d_Fr_init_22 : decode b_Fr_init 22 = .ok (.newarray .int, 2) := by decide +kernel
theorem d_Fr_init_24 : decode b_Fr_init 24 = .ok (.putfield 23, 3) := by decide +kernel
theorem d_Fr_init_27 : decode b_Fr_init 27 = .ok (.return_, 1) := by decide +kernel
def y_Co_init : MethodName := ⟨"FrameVerifier$Code", "<init>", "()V"⟩
abbrev b_Co_init : ByteArray := prog_3_method_1_code
def rm_Co_init : Room := { frames := 1, cells := 6, slots := 216, locals := 12 }
abbrev w_Co_init : List Cond := Cond.code y_Co_init b_Co_init 1 none :: wG
theorem m_Co_init : Cond.code y_Co_init b_Co_init 1 none ∈ wG := wg_t 38 (by decide +kernel) (by decide +kernel)
theorem q_Co_init : y_Co_init.cls ≠ "java/lang/invoke/MethodHandle" ∧ y_Co_init.cls ≠ "java/lang/invoke/VarHandle" ∧ (parseMethodDescriptor y_Co_init.desc).map (fun d => d.parameters.length) = some 0 := by decide +kernel
theorem g_Co_init : Cond.initialized y_Co_init.cls ∈ wG := wg_t 2 (by decide +kernel) (by decide +kernel)
theorem s_Co_init : Cond.instanceMethod y_Co_init ∈ wG := wg_t 37 (by decide +kernel) (by decide +kernel)
theorem d_Co_init_0 : decode b_Co_init 0 = .ok (.aload_n 0, 1) := by decide +kernel
theorem d_Co_init_1 : decode b_Co_init 1 = .ok (.invokespecial 3, 3) := by decide +kernel
theorem d_Co_init_4 : decode b_Co_init 4 = .ok (.aload_n 0, 1) := by decide +kernel
theorem d_Co_init_5 : decode b_Co_init 5 = .ok (.iconst 0, 1) := by decide +kernel
theorem d_Co_init_6 : decode b_Co_init 6 = .ok (.putfield 9, 3) := by decide +kernel
theorem d_Co_init_9 : decode b_Co_init 9 = .ok (.aload_n 0, 1) := by decide +kernel
theorem d_Co_init_10 : decode b_Co_init 10 = .ok (.bipush (100), 2) := by decide +kernel
theorem d_Co_init_12 : decode b_Co_init 12 = .ok (.newarray .int, 2) := by decide +kernel
theorem d_Co_init_14 : decode b_Co_init 14 = .ok (.putfield 15, 3) := by decide +kernel
theorem d_Co_init_17 : decode b_Co_init 17 = .ok (.aload_n 0, 1) := by decide +kernel
theorem d_Co_init_18 : decode b_Co_init 18 = .ok (.bipush (100), 2) := by decide +kernel
theorem d_Co_init_20 : decode b_Co_init 20 = .ok (.newarray .int, 2) := by decide +kernel
theorem d_Co_init_22 : decode b_Co_init 22 = .ok (.putfield 19, 3) := by decide +kernel
theorem d_Co_init_25 : decode b_Co_init 25 = .ok (.aload_n 0, 1) := by decide +kernel
theorem d_Co_init_26 : decode b_Co_init 26 = .ok (.iconst 4, 1) := by decide +kernel
theorem d_Co_init_27 : decode b_Co_init 27 = .ok (.newarray .boolean, 2) := by decide +kernel
theorem d_Co_init_29 : decode b_Co_init 29 = .ok (.putfield 22, 3) := by decide +kernel
theorem d_Co_init_32 : decode b_Co_init 32 = .ok (.aload_n 0, 1) := by decide +kernel
theorem d_Co_init_33 : decode b_Co_init 33 = .ok (.iconst 4, 1) := by decide +kernel
theorem d_Co_init_34 : decode b_Co_init 34 = .ok (.newarray .int, 2) := by decide +kernel
theorem d_Co_init_36 : decode b_Co_init 36 = .ok (.putfield 26, 3) := by decide +kernel
theorem d_Co_init_39 : decode b_Co_init 39 = .ok (.aload_n 0, 1) := by decide +kernel
theorem d_Co_init_40 : decode b_Co_init 40 = .ok (.iconst 4, 1) := by decide +kernel
theorem d_Co_init_41 : decode b_Co_init 41 = .ok (.newarray .int, 2) := by decide +kernel
theorem d_Co_init_43 : decode b_Co_init 43 = .ok (.putfield 29, 3) := by decide +kernel
theorem d_Co_init_46 : decode b_Co_init 46 = .ok (.aload_n 0, 1) := by decide +kernel
theorem d_Co_init_47 : decode b_Co_init 47 = .ok (.iconst 4, 1) := by decide +kernel
theorem d_Co_init_48 : decode b_Co_init 48 = .ok (.newarray .int, 2) := by decide +kernel
theorem d_Co_init_50 : decode b_Co_init 50 = .ok (.putfield 32, 3) := by decide +kernel
theorem d_Co_init_53 : decode b_Co_init 53 = .ok (.return_, 1) := by decide +kernel
theorem wd_32 : (Jvm.Cond.instanceMethod ({ cls := "java/lang/Object", name := "<init>", desc := "()V" } : Jvm.MethodName)) ∈ wG := wg_t 32 (by decide +kernel) (by decide +kernel)
theorem wd_33 : (Jvm.Cond.code ({ cls := "java/lang/Object", name := "<init>", desc := "()V" } : Jvm.MethodName) object_method_1_code (1 : Nat) (Option.none : Option Jvm.ClassFile.FieldType)) ∈ wG := wg_t 33 (by decide +kernel) (by decide +kernel)
theorem wd_39 : (Jvm.Cond.methodLink "FrameVerifier$Code" (3 : Nat) ({ cls := "java/lang/Object", name := "<init>", desc := "()V" } : Jvm.MethodName)) ∈ wG := wg_t 39 (by decide +kernel) (by decide +kernel)
theorem wd_64 : (Jvm.Cond.arrayClass Jvm.ClassFile.FieldType.int) ∈ wG := wg_t 64 (by decide +kernel) (by decide +kernel)
theorem wd_65 : (Jvm.Cond.arrayClass Jvm.ClassFile.FieldType.boolean) ∈ wG := wg_t 65 (by decide +kernel) (by decide +kernel)
theorem wd_102 : (Jvm.Cond.methodLink "FrameVerifier$Frame" (3 : Nat) ({ cls := "java/lang/Object", name := "<init>", desc := "()V" } : Jvm.MethodName)) ∈ wG := wg_t 102 (by decide +kernel) (by decide +kernel)

/-! names of 06.frames -/
def y_Fr_open : MethodName := ⟨"FrameVerifier$Frame", "open", "(III)V"⟩
abbrev b_Fr_open : ByteArray := prog_5_method_2_code
def rm_Fr_open : Room := { frames := 0, cells := 0, slots := 0, locals := 0 }
abbrev w_Fr_open : List Cond := Cond.code y_Fr_open b_Fr_open 4 none :: wG
theorem m_Fr_open : Cond.code y_Fr_open b_Fr_open 4 none ∈ wG := wg_t 401 (by decide +kernel) (by decide +kernel)
theorem q_Fr_open : y_Fr_open.cls ≠ "java/lang/invoke/MethodHandle" ∧ y_Fr_open.cls ≠ "java/lang/invoke/VarHandle" ∧ (parseMethodDescriptor y_Fr_open.desc).map (fun d => d.parameters.length) = some 3 := by decide +kernel
theorem g_Fr_open : Cond.initialized y_Fr_open.cls ∈ wG := wg_t 5 (by decide +kernel) (by decide +kernel)
theorem s_Fr_open : Cond.instanceMethod y_Fr_open ∈ wG := wg_t 399 (by decide +kernel) (by decide +kernel)
theorem e_Fr_open : Cond.selects "FrameVerifier$Frame" y_Fr_open y_Fr_open ∈ wG := wg_t 400 (by decide +kernel) (by decide +kernel)
theorem d_Fr_open_0 : decode b_Fr_open 0 = .ok (.aload_n 0, 1) := by decide +kernel
theorem d_Fr_open_1 : decode b_Fr_open 1 = .ok (.iload_n 1, 1) := by decide +kernel
theorem d_Fr_open_2 : decode b_Fr_open 2 = .ok (.putfield 9, 3) := by decide +kernel
theorem d_Fr_open_5 : decode b_Fr_open 5 = .ok (.aload_n 0, 1) := by decide +kernel
theorem d_Fr_open_6 : decode b_Fr_open 6 = .ok (.iload_n 2, 1) := by decide +kernel
theorem d_Fr_open_7 : decode b_Fr_open 7 = .ok (.putfield 15, 3) := by decide +kernel
theorem d_Fr_open_10 : decode b_Fr_open 10 = .ok (.aload_n 0, 1) := by decide +kernel
theorem d_Fr_open_11 : decode b_Fr_open 11 = .ok (.iload_n 3, 1) := by decide +kernel
theorem d_Fr_open_12 : decode b_Fr_open 12 = .ok (.putfield 20, 3) := by decide +kernel
theorem d_Fr_open_15 : decode b_Fr_open 15 = .ok (.return_, 1) := by decide +kernel
def y_Fr_setParameter : MethodName := ⟨"FrameVerifier$Frame", "setParameter", "(II)V"⟩
abbrev b_Fr_setParameter : ByteArray := prog_5_method_3_code
def rm_Fr_setParameter : Room := { frames := 0, cells := 0, slots := 0, locals := 0 }
abbrev w_Fr_setParameter : List Cond := Cond.code y_Fr_setParameter b_Fr_setParameter 3 none :: wG
theorem m_Fr_setParameter : Cond.code y_Fr_setParameter b_Fr_setParameter 3 none ∈ wG := wg_t 409 (by decide +kernel) (by decide +kernel)
theorem q_Fr_setParameter : y_Fr_setParameter.cls ≠ "java/lang/invoke/MethodHandle" ∧ y_Fr_setParameter.cls ≠ "java/lang/invoke/VarHandle" ∧ (parseMethodDescriptor y_Fr_setParameter.desc).map (fun d => d.parameters.length) = some 2 := by decide +kernel
theorem g_Fr_setParameter : Cond.initialized y_Fr_setParameter.cls ∈ wG := wg_t 5 (by decide +kernel) (by decide +kernel)
theorem s_Fr_setParameter : Cond.instanceMethod y_Fr_setParameter ∈ wG := wg_t 407 (by decide +kernel) (by decide +kernel)
theorem e_Fr_setParameter : Cond.selects "FrameVerifier$Frame" y_Fr_setParameter y_Fr_setParameter ∈ wG := wg_t 408 (by decide +kernel) (by decide +kernel)
theorem d_Fr_setParameter_0 : decode b_Fr_setParameter 0 = .ok (.aload_n 0, 1) := by decide +kernel
theorem d_Fr_setParameter_1 : decode b_Fr_setParameter 1 = .ok (.getfield 23, 3) := by decide +kernel
theorem d_Fr_setParameter_4 : decode b_Fr_setParameter 4 = .ok (.iload_n 1, 1) := by decide +kernel
theorem d_Fr_setParameter_5 : decode b_Fr_setParameter 5 = .ok (.iload_n 2, 1) := by decide +kernel
theorem d_Fr_setParameter_6 : decode b_Fr_setParameter 6 = .ok (.iastore, 1) := by decide +kernel
theorem d_Fr_setParameter_7 : decode b_Fr_setParameter 7 = .ok (.return_, 1) := by decide +kernel
def y_Fr_typeBelow : MethodName := ⟨"FrameVerifier$Frame", "typeBelow", "(I)I"⟩
abbrev b_Fr_typeBelow : ByteArray := prog_5_method_4_code
def rm_Fr_typeBelow : Room := { frames := 2, cells := 0, slots := 0, locals := 42 }
abbrev w_Fr_typeBelow : List Cond := Cond.code y_Fr_typeBelow b_Fr_typeBelow 2 (some .int) :: wG
theorem m_Fr_typeBelow : Cond.code y_Fr_typeBelow b_Fr_typeBelow 2 (some .int) ∈ wG := wg_t 691 (by decide +kernel) (by decide +kernel)
theorem q_Fr_typeBelow : y_Fr_typeBelow.cls ≠ "java/lang/invoke/MethodHandle" ∧ y_Fr_typeBelow.cls ≠ "java/lang/invoke/VarHandle" ∧ (parseMethodDescriptor y_Fr_typeBelow.desc).map (fun d => d.parameters.length) = some 1 := by decide +kernel
theorem g_Fr_typeBelow : Cond.initialized y_Fr_typeBelow.cls ∈ wG := wg_t 5 (by decide +kernel) (by decide +kernel)
theorem s_Fr_typeBelow : Cond.instanceMethod y_Fr_typeBelow ∈ wG := wg_t 689 (by decide +kernel) (by decide +kernel)
theorem e_Fr_typeBelow : Cond.selects "FrameVerifier$Frame" y_Fr_typeBelow y_Fr_typeBelow ∈ wG := wg_t 690 (by decide +kernel) (by decide +kernel)
theorem d_Fr_typeBelow_0 : decode b_Fr_typeBelow 0 = .ok (.aload_n 0, 1) := by decide +kernel
theorem d_Fr_typeBelow_1 : decode b_Fr_typeBelow 1 = .ok (.getfield 20, 3) := by decide +kernel
theorem d_Fr_typeBelow_4 : decode b_Fr_typeBelow 4 = .ok (.iload_n 1, 1) := by decide +kernel
theorem d_Fr_typeBelow_5 : decode b_Fr_typeBelow 5 = .ok (.invokestatic 27, 3) := by decide +kernel
theorem d_Fr_typeBelow_8 : decode b_Fr_typeBelow 8 = .ok (.ireturn, 1) := by decide +kernel
def y_Fr_below : MethodName := ⟨"FrameVerifier$Frame", "below", "(I)I"⟩
abbrev b_Fr_below : ByteArray := prog_5_method_5_code
def rm_Fr_below : Room := { frames := 1, cells := 0, slots := 0, locals := 21 }
abbrev w_Fr_below : List Cond := Cond.code y_Fr_below b_Fr_below 2 (some .int) :: wG
theorem m_Fr_below : Cond.code y_Fr_below b_Fr_below 2 (some .int) ∈ wG := wg_t 544 (by decide +kernel) (by decide +kernel)
theorem q_Fr_below : y_Fr_below.cls ≠ "java/lang/invoke/MethodHandle" ∧ y_Fr_below.cls ≠ "java/lang/invoke/VarHandle" ∧ (parseMethodDescriptor y_Fr_below.desc).map (fun d => d.parameters.length) = some 1 := by decide +kernel
theorem g_Fr_below : Cond.initialized y_Fr_below.cls ∈ wG := wg_t 5 (by decide +kernel) (by decide +kernel)
theorem s_Fr_below : Cond.instanceMethod y_Fr_below ∈ wG := wg_t 542 (by decide +kernel) (by decide +kernel)
theorem e_Fr_below : Cond.selects "FrameVerifier$Frame" y_Fr_below y_Fr_below ∈ wG := wg_t 543 (by decide +kernel) (by decide +kernel)
theorem d_Fr_below_0 : decode b_Fr_below 0 = .ok (.aload_n 0, 1) := by decide +kernel
theorem d_Fr_below_1 : decode b_Fr_below 1 = .ok (.getfield 23, 3) := by decide +kernel
theorem d_Fr_below_4 : decode b_Fr_below 4 = .ok (.aload_n 0, 1) := by decide +kernel
theorem d_Fr_below_5 : decode b_Fr_below 5 = .ok (.getfield 20, 3) := by decide +kernel
theorem d_Fr_below_8 : decode b_Fr_below 8 = .ok (.iload_n 1, 1) := by decide +kernel
theorem d_Fr_below_9 : decode b_Fr_below 9 = .ok (.invokestatic 31, 3) := by decide +kernel
theorem d_Fr_below_12 : decode b_Fr_below 12 = .ok (.iaload, 1) := by decide +kernel
theorem d_Fr_below_13 : decode b_Fr_below 13 = .ok (.ireturn, 1) := by decide +kernel
def y_Fr_push : MethodName := ⟨"FrameVerifier$Frame", "push", "(II)V"⟩
abbrev b_Fr_push : ByteArray := prog_5_method_6_code
def rm_Fr_push : Room := { frames := 2, cells := 0, slots := 0, locals := 44 }
abbrev w_Fr_push : List Cond := Cond.code y_Fr_push b_Fr_push 3 none :: wG
theorem m_Fr_push : Cond.code y_Fr_push b_Fr_push 3 none ∈ wG := wg_t 661 (by decide +kernel) (by decide +kernel)
theorem q_Fr_push : y_Fr_push.cls ≠ "java/lang/invoke/MethodHandle" ∧ y_Fr_push.cls ≠ "java/lang/invoke/VarHandle" ∧ (parseMethodDescriptor y_Fr_push.desc).map (fun d => d.parameters.length) = some 2 := by decide +kernel
theorem g_Fr_push : Cond.initialized y_Fr_push.cls ∈ wG := wg_t 5 (by decide +kernel) (by decide +kernel)
theorem s_Fr_push : Cond.instanceMethod y_Fr_push ∈ wG := wg_t 659 (by decide +kernel) (by decide +kernel)
theorem e_Fr_push : Cond.selects "FrameVerifier$Frame" y_Fr_push y_Fr_push ∈ wG := wg_t 660 (by decide +kernel) (by decide +kernel)
theorem d_Fr_push_0 : decode b_Fr_push 0 = .ok (.aload_n 0, 1) := by decide +kernel
theorem d_Fr_push_1 : decode b_Fr_push 1 = .ok (.aload_n 0, 1) := by decide +kernel
theorem d_Fr_push_2 : decode b_Fr_push 2 = .ok (.getfield 20, 3) := by decide +kernel
theorem d_Fr_push_5 : decode b_Fr_push 5 = .ok (.iload_n 1, 1) := by decide +kernel
theorem d_Fr_push_6 : decode b_Fr_push 6 = .ok (.invokestatic 34, 3) := by decide +kernel
theorem d_Fr_push_9 : decode b_Fr_push 9 = .ok (.putfield 20, 3) := by decide +kernel
theorem d_Fr_push_12 : decode b_Fr_push 12 = .ok (.aload_n 0, 1) := by decide +kernel
theorem d_Fr_push_13 : decode b_Fr_push 13 = .ok (.getfield 23, 3) := by decide +kernel
theorem d_Fr_push_16 : decode b_Fr_push 16 = .ok (.aload_n 0, 1) := by decide +kernel
theorem d_Fr_push_17 : decode b_Fr_push 17 = .ok (.getfield 20, 3) := by decide +kernel
theorem d_Fr_push_20 : decode b_Fr_push 20 = .ok (.iconst 0, 1) := by decide +kernel
theorem d_Fr_push_21 : decode b_Fr_push 21 = .ok (.invokestatic 31, 3) := by decide +kernel
theorem d_Fr_push_24 : decode b_Fr_push 24 = .ok (.iload_n 2, 1) := by decide +kernel
theorem d_Fr_push_25 : decode b_Fr_push 25 = .ok (.iastore, 1) := by decide +kernel
theorem d_Fr_push_26 : decode b_Fr_push 26 = .ok (.return_, 1) := by decide +kernel
def y_Fr_pop : MethodName := ⟨"FrameVerifier$Frame", "pop", "()I"⟩
abbrev b_Fr_pop : ByteArray := prog_5_method_7_code
def rm_Fr_pop : Room := { frames := 2, cells := 0, slots := 0, locals := 46 }
abbrev w_Fr_pop : List Cond := Cond.code y_Fr_pop b_Fr_pop 2 (some .int) :: wG
theorem m_Fr_pop : Cond.code y_Fr_pop b_Fr_pop 2 (some .int) ∈ wG := wg_t 645 (by decide +kernel) (by decide +kernel)
theorem q_Fr_pop : y_Fr_pop.cls ≠ "java/lang/invoke/MethodHandle" ∧ y_Fr_pop.cls ≠ "java/lang/invoke/VarHandle" ∧ (parseMethodDescriptor y_Fr_pop.desc).map (fun d => d.parameters.length) = some 0 := by decide +kernel
theorem g_Fr_pop : Cond.initialized y_Fr_pop.cls ∈ wG := wg_t 5 (by decide +kernel) (by decide +kernel)
theorem s_Fr_pop : Cond.instanceMethod y_Fr_pop ∈ wG := wg_t 643 (by decide +kernel) (by decide +kernel)
theorem e_Fr_pop : Cond.selects "FrameVerifier$Frame" y_Fr_pop y_Fr_pop ∈ wG := wg_t 644 (by decide +kernel) (by decide +kernel)
theorem d_Fr_pop_0 : decode b_Fr_pop 0 = .ok (.aload_n 0, 1) := by decide +kernel
theorem d_Fr_pop_1 : decode b_Fr_pop 1 = .ok (.iconst 0, 1) := by decide +kernel
theorem d_Fr_pop_2 : decode b_Fr_pop 2 = .ok (.invokevirtual 37, 3) := by decide +kernel
theorem d_Fr_pop_5 : decode b_Fr_pop 5 = .ok (.istore_n 1, 1) := by decide +kernel
theorem d_Fr_pop_6 : decode b_Fr_pop 6 = .ok (.aload_n 0, 1) := by decide +kernel
theorem d_Fr_pop_7 : decode b_Fr_pop 7 = .ok (.aload_n 0, 1) := by decide +kernel
theorem d_Fr_pop_8 : decode b_Fr_pop 8 = .ok (.getfield 20, 3) := by decide +kernel
theorem d_Fr_pop_11 : decode b_Fr_pop 11 = .ok (.iconst 1, 1) := by decide +kernel
theorem d_Fr_pop_12 : decode b_Fr_pop 12 = .ok (.invokestatic 40, 3) := by decide +kernel
theorem d_Fr_pop_15 : decode b_Fr_pop 15 = .ok (.putfield 20, 3) := by decide +kernel
theorem d_Fr_pop_18 : decode b_Fr_pop 18 = .ok (.iload_n 1, 1) := by decide +kernel
theorem d_Fr_pop_19 : decode b_Fr_pop 19 = .ok (.ireturn, 1) := by decide +kernel
def y_Fr_load : MethodName := ⟨"FrameVerifier$Frame", "load", "(I)V"⟩
abbrev b_Fr_load : ByteArray := prog_5_method_8_code
def rm_Fr_load : Room := { frames := 3, cells := 0, slots := 0, locals := 66 }
abbrev w_Fr_load : List Cond := Cond.code y_Fr_load b_Fr_load 2 none :: wG
theorem m_Fr_load : Cond.code y_Fr_load b_Fr_load 2 none ∈ wG := wg_t 699 (by decide +kernel) (by decide +kernel)
theorem q_Fr_load : y_Fr_load.cls ≠ "java/lang/invoke/MethodHandle" ∧ y_Fr_load.cls ≠ "java/lang/invoke/VarHandle" ∧ (parseMethodDescriptor y_Fr_load.desc).map (fun d => d.parameters.length) = some 1 := by decide +kernel
theorem g_Fr_load : Cond.initialized y_Fr_load.cls ∈ wG := wg_t 5 (by decide +kernel) (by decide +kernel)
theorem s_Fr_load : Cond.instanceMethod y_Fr_load ∈ wG := wg_t 697 (by decide +kernel) (by decide +kernel)
theorem e_Fr_load : Cond.selects "FrameVerifier$Frame" y_Fr_load y_Fr_load ∈ wG := wg_t 698 (by decide +kernel) (by decide +kernel)
theorem d_Fr_load_0 : decode b_Fr_load 0 = .ok (.aload_n 0, 1) := by decide +kernel
theorem d_Fr_load_1 : decode b_Fr_load 1 = .ok (.aload_n 0, 1) := by decide +kernel
theorem d_Fr_load_2 : decode b_Fr_load 2 = .ok (.getfield 20, 3) := by decide +kernel
theorem d_Fr_load_5 : decode b_Fr_load 5 = .ok (.iload_n 1, 1) := by decide +kernel
theorem d_Fr_load_6 : decode b_Fr_load 6 = .ok (.invokestatic 43, 3) := by decide +kernel
theorem d_Fr_load_9 : decode b_Fr_load 9 = .ok (.aload_n 0, 1) := by decide +kernel
theorem d_Fr_load_10 : decode b_Fr_load 10 = .ok (.getfield 23, 3) := by decide +kernel
theorem d_Fr_load_13 : decode b_Fr_load 13 = .ok (.iload_n 1, 1) := by decide +kernel
theorem d_Fr_load_14 : decode b_Fr_load 14 = .ok (.iaload, 1) := by decide +kernel
theorem d_Fr_load_15 : decode b_Fr_load 15 = .ok (.invokevirtual 46, 3) := by decide +kernel
theorem d_Fr_load_18 : decode b_Fr_load 18 = .ok (.return_, 1) := by decide +kernel
def y_Fr_store : MethodName := ⟨"FrameVerifier$Frame", "store", "(I)V"⟩
abbrev b_Fr_store : ByteArray := prog_5_method_9_code
def rm_Fr_store : Room := { frames := 3, cells := 0, slots := 0, locals := 67 }
abbrev w_Fr_store : List Cond := Cond.code y_Fr_store b_Fr_store 3 none :: wG
theorem m_Fr_store : Cond.code y_Fr_store b_Fr_store 3 none ∈ wG := wg_t 704 (by decide +kernel) (by decide +kernel)
theorem q_Fr_store : y_Fr_store.cls ≠ "java/lang/invoke/MethodHandle" ∧ y_Fr_store.cls ≠ "java/lang/invoke/VarHandle" ∧ (parseMethodDescriptor y_Fr_store.desc).map (fun d => d.parameters.length) = some 1 := by decide +kernel
theorem g_Fr_store : Cond.initialized y_Fr_store.cls ∈ wG := wg_t 5 (by decide +kernel) (by decide +kernel)
theorem s_Fr_store : Cond.instanceMethod y_Fr_store ∈ wG := wg_t 702 (by decide +kernel) (by decide +kernel)
theorem e_Fr_store : Cond.selects "FrameVerifier$Frame" y_Fr_store y_Fr_store ∈ wG := wg_t 703 (by decide +kernel) (by decide +kernel)
theorem d_Fr_store_0 : decode b_Fr_store 0 = .ok (.aload_n 0, 1) := by decide +kernel
theorem d_Fr_store_1 : decode b_Fr_store 1 = .ok (.iconst 0, 1) := by decide +kernel
theorem d_Fr_store_2 : decode b_Fr_store 2 = .ok (.invokevirtual 50, 3) := by decide +kernel
theorem d_Fr_store_5 : decode b_Fr_store 5 = .ok (.istore_n 2, 1) := by decide +kernel
theorem d_Fr_store_6 : decode b_Fr_store 6 = .ok (.aload_n 0, 1) := by decide +kernel
theorem d_Fr_store_7 : decode b_Fr_store 7 = .ok (.getfield 23, 3) := by decide +kernel
theorem d_Fr_store_10 : decode b_Fr_store 10 = .ok (.iload_n 1, 1) := by decide +kernel
theorem d_Fr_store_11 : decode b_Fr_store 11 = .ok (.aload_n 0, 1) := by decide +kernel
theorem d_Fr_store_12 : decode b_Fr_store 12 = .ok (.invokevirtual 53, 3) := by decide +kernel
theorem d_Fr_store_15 : decode b_Fr_store 15 = .ok (.iastore, 1) := by decide +kernel
theorem d_Fr_store_16 : decode b_Fr_store 16 = .ok (.aload_n 0, 1) := by decide +kernel
theorem d_Fr_store_17 : decode b_Fr_store 17 = .ok (.aload_n 0, 1) := by decide +kernel
theorem d_Fr_store_18 : decode b_Fr_store 18 = .ok (.getfield 20, 3) := by decide +kernel
theorem d_Fr_store_21 : decode b_Fr_store 21 = .ok (.iload_n 1, 1) := by decide +kernel
theorem d_Fr_store_22 : decode b_Fr_store 22 = .ok (.iload_n 2, 1) := by decide +kernel
theorem d_Fr_store_23 : decode b_Fr_store 23 = .ok (.invokestatic 57, 3) := by decide +kernel
theorem d_Fr_store_26 : decode b_Fr_store 26 = .ok (.putfield 20, 3) := by decide +kernel
theorem d_Fr_store_29 : decode b_Fr_store 29 = .ok (.return_, 1) := by decide +kernel
def y_Fr_exchange : MethodName := ⟨"FrameVerifier$Frame", "exchange", "()V"⟩
abbrev b_Fr_exchange : ByteArray := prog_5_method_10_code
def rm_Fr_exchange : Room := { frames := 3, cells := 0, slots := 0, locals := 67 }
abbrev w_Fr_exchange : List Cond := Cond.code y_Fr_exchange b_Fr_exchange 5 none :: wG
theorem m_Fr_exchange : Cond.code y_Fr_exchange b_Fr_exchange 5 none ∈ wG := wg_t 711 (by decide +kernel) (by decide +kernel)
theorem q_Fr_exchange : y_Fr_exchange.cls ≠ "java/lang/invoke/MethodHandle" ∧ y_Fr_exchange.cls ≠ "java/lang/invoke/VarHandle" ∧ (parseMethodDescriptor y_Fr_exchange.desc).map (fun d => d.parameters.length) = some 0 := by decide +kernel
theorem g_Fr_exchange : Cond.initialized y_Fr_exchange.cls ∈ wG := wg_t 5 (by decide +kernel) (by decide +kernel)
theorem s_Fr_exchange : Cond.instanceMethod y_Fr_exchange ∈ wG := wg_t 709 (by decide +kernel) (by decide +kernel)
theorem e_Fr_exchange : Cond.selects "FrameVerifier$Frame" y_Fr_exchange y_Fr_exchange ∈ wG := wg_t 710 (by decide +kernel) (by decide +kernel)
theorem d_Fr_exchange_0 : decode b_Fr_exchange 0 = .ok (.aload_n 0, 1) := by decide +kernel
theorem d_Fr_exchange_1 : decode b_Fr_exchange 1 = .ok (.iconst 0, 1) := by decide +kernel
theorem d_Fr_exchange_2 : decode b_Fr_exchange 2 = .ok (.invokevirtual 50, 3) := by decide +kernel
theorem d_Fr_exchange_5 : decode b_Fr_exchange 5 = .ok (.istore_n 1, 1) := by decide +kernel
theorem d_Fr_exchange_6 : decode b_Fr_exchange 6 = .ok (.aload_n 0, 1) := by decide +kernel
theorem d_Fr_exchange_7 : decode b_Fr_exchange 7 = .ok (.invokevirtual 53, 3) := by decide +kernel
theorem d_Fr_exchange_10 : decode b_Fr_exchange 10 = .ok (.istore_n 2, 1) := by decide +kernel
theorem d_Fr_exchange_11 : decode b_Fr_exchange 11 = .ok (.aload_n 0, 1) := by decide +kernel
theorem d_Fr_exchange_12 : decode b_Fr_exchange 12 = .ok (.iconst 0, 1) := by decide +kernel
theorem d_Fr_exchange_13 : decode b_Fr_exchange 13 = .ok (.invokevirtual 50, 3) := by decide +kernel
theorem d_Fr_exchange_16 : decode b_Fr_exchange 16 = .ok (.istore_n 3, 1) := by decide +kernel
theorem d_Fr_exchange_17 : decode b_Fr_exchange 17 = .ok (.aload_n 0, 1) := by decide +kernel
theorem d_Fr_exchange_18 : decode b_Fr_exchange 18 = .ok (.invokevirtual 53, 3) := by decide +kernel
theorem d_Fr_exchange_21 : decode b_Fr_exchange 21 = .ok (.istore 4, 2) := by decide +kernel
theorem d_Fr_exchange_23 : decode b_Fr_exchange 23 = .ok (.aload_n 0, 1) := by decide +kernel
theorem d_Fr_exchange_24 : decode b_Fr_exchange 24 = .ok (.iload_n 1, 1) := by decide +kernel
theorem d_Fr_exchange_25 : decode b_Fr_exchange 25 = .ok (.iload_n 2, 1) := by decide +kernel
theorem d_Fr_exchange_26 : decode b_Fr_exchange 26 = .ok (.invokevirtual 46, 3) := by decide +kernel
theorem d_Fr_exchange_29 : decode b_Fr_exchange 29 = .ok (.aload_n 0, 1) := by decide +kernel
theorem d_Fr_exchange_30 : decode b_Fr_exchange 30 = .ok (.iload_n 3, 1) := by decide +kernel
theorem d_Fr_exchange_31 : decode b_Fr_exchange 31 = .ok (.iload 4, 2) := by decide +kernel
theorem d_Fr_exchange_33 : decode b_Fr_exchange 33 = .ok (.invokevirtual 46, 3) := by decide +kernel
theorem d_Fr_exchange_36 : decode b_Fr_exchange 36 = .ok (.return_, 1) := by decide +kernel
def y_Fr_shown : MethodName := ⟨"FrameVerifier$Frame", "shown", "(I)I"⟩
abbrev b_Fr_shown : ByteArray := prog_5_method_11_code
def rm_Fr_shown : Room := { frames := 1, cells := 0, slots := 0, locals := 21 }
abbrev w_Fr_shown : List Cond := Cond.code y_Fr_shown b_Fr_shown 3 (some .int) :: wG
theorem m_Fr_shown : Cond.code y_Fr_shown b_Fr_shown 3 (some .int) ∈ wG := wg_t 430 (by decide +kernel) (by decide +kernel)
theorem q_Fr_shown : y_Fr_shown.cls ≠ "java/lang/invoke/MethodHandle" ∧ y_Fr_shown.cls ≠ "java/lang/invoke/VarHandle" ∧ (parseMethodDescriptor y_Fr_shown.desc).map (fun d => d.parameters.length) = some 1 := by decide +kernel
theorem g_Fr_shown : Cond.initialized y_Fr_shown.cls ∈ wG := wg_t 5 (by decide +kernel) (by decide +kernel)
theorem s_Fr_shown : Cond.instanceMethod y_Fr_shown ∈ wG := wg_t 428 (by decide +kernel) (by decide +kernel)
theorem e_Fr_shown : Cond.selects "FrameVerifier$Frame" y_Fr_shown y_Fr_shown ∈ wG := wg_t 429 (by decide +kernel) (by decide +kernel)
theorem d_Fr_shown_0 : decode b_Fr_shown 0 = .ok (.aload_n 0, 1) := by decide +kernel
theorem d_Fr_shown_1 : decode b_Fr_shown 1 = .ok (.getfield 20, 3) := by decide +kernel
theorem d_Fr_shown_4 : decode b_Fr_shown 4 = .ok (.iload_n 1, 1) := by decide +kernel
theorem d_Fr_shown_5 : decode b_Fr_shown 5 = .ok (.invokestatic 43, 3) := by decide +kernel
theorem d_Fr_shown_8 : decode b_Fr_shown 8 = .ok (.istore_n 2, 1) := by decide +kernel
theorem d_Fr_shown_9 : decode b_Fr_shown 9 = .ok (.iload_n 2, 1) := by decide +kernel
theorem d_Fr_shown_10 : decode b_Fr_shown 10 = .ok (.ifCond .ne (5), 3) := by decide +kernel
theorem d_Fr_shown_13 : decode b_Fr_shown 13 = .ok (.iconst (-1), 1) := by decide +kernel
theorem d_Fr_shown_14 : decode b_Fr_shown 14 = .ok (.ireturn, 1) := by decide +kernel
theorem d_Fr_shown_15 : decode b_Fr_shown 15 = .ok (.iload_n 2, 1) := by decide +kernel
theorem d_Fr_shown_16 : decode b_Fr_shown 16 = .ok (.iconst 2, 1) := by decide +kernel
theorem d_Fr_shown_17 : decode b_Fr_shown 17 = .ok (.if_icmp .ne (16), 3) := by decide +kernel
theorem d_Fr_shown_20 : decode b_Fr_shown 20 = .ok (.aload_n 0, 1) := by decide +kernel
theorem d_Fr_shown_21 : decode b_Fr_shown 21 = .ok (.getfield 23, 3) := by decide +kernel
theorem d_Fr_shown_24 : decode b_Fr_shown 24 = .ok (.iload_n 1, 1) := by decide +kernel
theorem d_Fr_shown_25 : decode b_Fr_shown 25 = .ok (.iaload, 1) := by decide +kernel
theorem d_Fr_shown_26 : decode b_Fr_shown 26 = .ok (.ifCond .eq (7), 3) := by decide +kernel
theorem d_Fr_shown_29 : decode b_Fr_shown 29 = .ok (.iconst 1, 1) := by decide +kernel
theorem d_Fr_shown_30 : decode b_Fr_shown 30 = .ok (.goto (9), 3) := by decide +kernel
theorem d_Fr_shown_33 : decode b_Fr_shown 33 = .ok (.aload_n 0, 1) := by decide +kernel
theorem d_Fr_shown_34 : decode b_Fr_shown 34 = .ok (.getfield 23, 3) := by decide +kernel
theorem d_Fr_shown_37 : decode b_Fr_shown 37 = .ok (.iload_n 1, 1) := by decide +kernel
theorem d_Fr_shown_38 : decode b_Fr_shown 38 = .ok (.iaload, 1) := by decide +kernel
theorem d_Fr_shown_39 : decode b_Fr_shown 39 = .ok (.ireturn, 1) := by decide +kernel
theorem wd_103 : (Jvm.Cond.fieldLink "FrameVerifier$Frame" (9 : Nat) "FrameVerifier$Frame" "owner" "I") ∈ wG := wg_t 103 (by decide +kernel) (by decide +kernel)
theorem wd_105 : (Jvm.Cond.fieldLink "FrameVerifier$Frame" (15 : Nat) "FrameVerifier$Frame" "address" "I") ∈ wG := wg_t 105 (by decide +kernel) (by decide +kernel)
theorem wd_108 : (Jvm.Cond.fieldLink "FrameVerifier$Frame" (20 : Nat) "FrameVerifier$Frame" "types" "I") ∈ wG := wg_t 108 (by decide +kernel) (by decide +kernel)
theorem wd_111 : (Jvm.Cond.fieldLink "FrameVerifier$Frame" (23 : Nat) "FrameVerifier$Frame" "values" "[I") ∈ wG := wg_t 111 (by decide +kernel) (by decide +kernel)
theorem k_Fr_27 {R : Room} {s : State} {args : Array Value} {Ts : List Cond} (hts : ∀ w ∈ Ts, w.before args s = true) (hsub : ∀ w ∈ wG, w ∈ Ts) (hR : rm_Ty_below.frames + 1 ≤ R.frames ∧ 8 + (2 + 11) + rm_Ty_below.locals ≤ R.locals) : CallB R s args "FrameVerifier$Frame" 27 y_Ty_below b_Ty_below 2 (some .int) w_Ty_below rm_Ty_below 0 0 2 ∧ (Cond.static y_Ty_below).before args s = true := ⟨cb_G hts hsub m_Ty_below g_Ty_below (wg_t 692 (by decide +kernel) (by decide +kernel) : Cond.methodLink "FrameVerifier$Frame" 27 y_Ty_below ∈ wG) q_Ty_below rfl rfl hR, hts _ (hsub _ s_Ty_below)⟩
theorem k_Fr_31 {R : Room} {s : State} {args : Array Value} {Ts : List Cond} (hts : ∀ w ∈ Ts, w.before args s = true) (hsub : ∀ w ∈ wG, w ∈ Ts) (hR : rm_Ty_slotBelow.frames + 1 ≤ R.frames ∧ 8 + (2 + 11) + rm_Ty_slotBelow.locals ≤ R.locals) : CallB R s args "FrameVerifier$Frame" 31 y_Ty_slotBelow b_Ty_slotBelow 2 (some .int) w_Ty_slotBelow rm_Ty_slotBelow 0 0 2 ∧ (Cond.static y_Ty_slotBelow).before args s = true := ⟨cb_G hts hsub m_Ty_slotBelow g_Ty_slotBelow (wg_t 545 (by decide +kernel) (by decide +kernel) : Cond.methodLink "FrameVerifier$Frame" 31 y_Ty_slotBelow ∈ wG) q_Ty_slotBelow rfl rfl hR, hts _ (hsub _ s_Ty_slotBelow)⟩
theorem k_Fr_34 {R : Room} {s : State} {args : Array Value} {Ts : List Cond} (hts : ∀ w ∈ Ts, w.before args s = true) (hsub : ∀ w ∈ wG, w ∈ Ts) (hR : rm_Ty_pushed.frames + 1 ≤ R.frames ∧ 8 + (2 + 11) + rm_Ty_pushed.locals ≤ R.locals) : CallB R s args "FrameVerifier$Frame" 34 y_Ty_pushed b_Ty_pushed 2 (some .int) w_Ty_pushed rm_Ty_pushed 0 0 2 ∧ (Cond.static y_Ty_pushed).before args s = true := ⟨cb_G hts hsub m_Ty_pushed g_Ty_pushed (wg_t 662 (by decide +kernel) (by decide +kernel) : Cond.methodLink "FrameVerifier$Frame" 34 y_Ty_pushed ∈ wG) q_Ty_pushed rfl rfl hR, hts _ (hsub _ s_Ty_pushed)⟩
theorem k_Fr_37 {R : Room} {s : State} {args : Array Value} {Ts : List Cond} (hts : ∀ w ∈ Ts, w.before args s = true) (hsub : ∀ w ∈ wG, w ∈ Ts) (hR : rm_Fr_below.frames + 1 ≤ R.frames ∧ 8 + (2 + 11) + rm_Fr_below.locals ≤ R.locals) : CallW R s args "FrameVerifier$Frame" "FrameVerifier$Frame" 37 y_Fr_below b_Fr_below 2 (some .int) w_Fr_below rm_Fr_below 0 0 1 := ⟨cb_G hts hsub m_Fr_below g_Fr_below (wg_t 646 (by decide +kernel) (by decide +kernel) : Cond.methodLink "FrameVerifier$Frame" 37 y_Fr_below ∈ wG) q_Fr_below rfl rfl hR, hts _ (hsub _ s_Fr_below), hts _ (hsub _ e_Fr_below)⟩
theorem k_Fr_40 {R : Room} {s : State} {args : Array Value} {Ts : List Cond} (hts : ∀ w ∈ Ts, w.before args s = true) (hsub : ∀ w ∈ wG, w ∈ Ts) (hR : rm_Ty_dropped.frames + 1 ≤ R.frames ∧ 8 + (4 + 11) + rm_Ty_dropped.locals ≤ R.locals) : CallB R s args "FrameVerifier$Frame" 40 y_Ty_dropped b_Ty_dropped 4 (some .int) w_Ty_dropped rm_Ty_dropped 0 0 2 ∧ (Cond.static y_Ty_dropped).before args s = true := ⟨cb_G hts hsub m_Ty_dropped g_Ty_dropped (wg_t 647 (by decide +kernel) (by decide +kernel) : Cond.methodLink "FrameVerifier$Frame" 40 y_Ty_dropped ∈ wG) q_Ty_dropped rfl rfl hR, hts _ (hsub _ s_Ty_dropped)⟩
theorem k_Fr_43 {R : Room} {s : State} {args : Array Value} {Ts : List Cond} (hts : ∀ w ∈ Ts, w.before args s = true) (hsub : ∀ w ∈ wG, w ∈ Ts) (hR : rm_Ty_at.frames + 1 ≤ R.frames ∧ 8 + (2 + 11) + rm_Ty_at.locals ≤ R.locals) : CallB R s args "FrameVerifier$Frame" 43 y_Ty_at b_Ty_at 2 (some .int) w_Ty_at rm_Ty_at 0 0 2 ∧ (Cond.static y_Ty_at).before args s = true := ⟨cb_G hts hsub m_Ty_at g_Ty_at (wg_t 431 (by decide +kernel) (by decide +kernel) : Cond.methodLink "FrameVerifier$Frame" 43 y_Ty_at ∈ wG) q_Ty_at rfl rfl hR, hts _ (hsub _ s_Ty_at)⟩
theorem k_Fr_46 {R : Room} {s : State} {args : Array Value} {Ts : List Cond} (hts : ∀ w ∈ Ts, w.before args s = true) (hsub : ∀ w ∈ wG, w ∈ Ts) (hR : rm_Fr_push.frames + 1 ≤ R.frames ∧ 8 + (3 + 11) + rm_Fr_push.locals ≤ R.locals) : CallW R s args "FrameVerifier$Frame" "FrameVerifier$Frame" 46 y_Fr_push b_Fr_push 3 none w_Fr_push rm_Fr_push 0 0 2 := ⟨cb_G hts hsub m_Fr_push g_Fr_push (wg_t 700 (by decide +kernel) (by decide +kernel) : Cond.methodLink "FrameVerifier$Frame" 46 y_Fr_push ∈ wG) q_Fr_push rfl rfl hR, hts _ (hsub _ s_Fr_push), hts _ (hsub _ e_Fr_push)⟩
theorem k_Fr_50 {R : Room} {s : State} {args : Array Value} {Ts : List Cond} (hts : ∀ w ∈ Ts, w.before args s = true) (hsub : ∀ w ∈ wG, w ∈ Ts) (hR : rm_Fr_typeBelow.frames + 1 ≤ R.frames ∧ 8 + (2 + 11) + rm_Fr_typeBelow.locals ≤ R.locals) : CallW R s args "FrameVerifier$Frame" "FrameVerifier$Frame" 50 y_Fr_typeBelow b_Fr_typeBelow 2 (some .int) w_Fr_typeBelow rm_Fr_typeBelow 0 0 1 := ⟨cb_G hts hsub m_Fr_typeBelow g_Fr_typeBelow (wg_t 705 (by decide +kernel) (by decide +kernel) : Cond.methodLink "FrameVerifier$Frame" 50 y_Fr_typeBelow ∈ wG) q_Fr_typeBelow rfl rfl hR, hts _ (hsub _ s_Fr_typeBelow), hts _ (hsub _ e_Fr_typeBelow)⟩
theorem k_Fr_53 {R : Room} {s : State} {args : Array Value} {Ts : List Cond} (hts : ∀ w ∈ Ts, w.before args s = true) (hsub : ∀ w ∈ wG, w ∈ Ts) (hR : rm_Fr_pop.frames + 1 ≤ R.frames ∧ 8 + (2 + 11) + rm_Fr_pop.locals ≤ R.locals) : CallW R s args "FrameVerifier$Frame" "FrameVerifier$Frame" 53 y_Fr_pop b_Fr_pop 2 (some .int) w_Fr_pop rm_Fr_pop 0 0 0 := ⟨cb_G hts hsub m_Fr_pop g_Fr_pop (wg_t 706 (by decide +kernel) (by decide +kernel) : Cond.methodLink "FrameVerifier$Frame" 53 y_Fr_pop ∈ wG) q_Fr_pop rfl rfl hR, hts _ (hsub _ s_Fr_pop), hts _ (hsub _ e_Fr_pop)⟩
theorem k_Fr_57 {R : Room} {s : State} {args : Array Value} {Ts : List Cond} (hts : ∀ w ∈ Ts, w.before args s = true) (hsub : ∀ w ∈ wG, w ∈ Ts) (hR : rm_Ty_with.frames + 1 ≤ R.frames ∧ 8 + (4 + 11) + rm_Ty_with.locals ≤ R.locals) : CallB R s args "FrameVerifier$Frame" 57 y_Ty_with b_Ty_with 4 (some .int) w_Ty_with rm_Ty_with 0 0 3 ∧ (Cond.static y_Ty_with).before args s = true := ⟨cb_G hts hsub m_Ty_with g_Ty_with (wg_t 707 (by decide +kernel) (by decide +kernel) : Cond.methodLink "FrameVerifier$Frame" 57 y_Ty_with ∈ wG) q_Ty_with rfl rfl hR, hts _ (hsub _ s_Ty_with)⟩

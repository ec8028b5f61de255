/-! names of 33 -/
theorem cb_GX {R : Room} {s : State} {args : Array Value} {own : String} {index : Nat} {y : MethodName} {bytes : ByteArray} {maxL n : Nat} {ret : Option FieldType} {rm : Room} {Ts : List Cond} (hts : ∀ w ∈ Ts, w.before args s = true) (hsub : ∀ w ∈ wG, w ∈ Ts) (hc : Cond.code y bytes maxL ret ∈ wG) (hini : Cond.initialized y.cls ∈ wG) (hl : Cond.methodLink own index y ∈ wG)
    (hd : y.cls ≠ "java/lang/invoke/MethodHandle" ∧ y.cls ≠ "java/lang/invoke/VarHandle" ∧ (parseMethodDescriptor y.desc).map (fun d => d.parameters.length) = some n) (hrc : rm.cells = 1) (hrs : rm.slots = 6) (hR : rm.frames + 1 ≤ R.frames ∧ 8 + (maxL + 11) + rm.locals ≤ R.locals) : CallB R s args own index y bytes maxL ret (Cond.code y bytes maxL ret :: wG) rm 1 6 n :=
  callB_of n hts (wg_in hsub hc) rfl hrc hrs (hts _ (hsub _ hini)) (hts _ (hsub _ hl)) hd hR
theorem v_cxv {p : Program} {l : Launch} {e : Env} {R : Room} {s : State} {m : MethodId} {args : Array Value} {below : List Frame} {meth : Method} {c : Code} {D : va_G} {cl : List vw_C} {b N : Nat} {ce : Nat → (Nat → Int32) → va_E} {nL : Nat} {σ σ' : mm_M} {pc : Nat} {L : List (Option Value)} {rest : List Value} {x : Nat} {r : Int32} {vf : Int32 → Option Value} {st0 : List Value} {av : Array Value} {g : Option (Nat × Int32 × mm_M)} {kf : Int32 → mm_M → Option (Nat × Int32 × mm_M)} (hnh : c.exceptionTable.isEmpty = true) (hlocks : meth.locks = false)
    (hr : ∀ (x1 : Nat) (r1 : Int32) (σ1 : mm_M), g = some (x1, r1, σ1) → ∀ (H : Heap) (locs : List Loc) (ls : Array Slot), ls.size = nL → mm_P D cl b N ce σ H → va_S (mm_A b N) s.heap H locs → xr_R p l e R s m args below meth c H locs 0 0 (F0 m pc ls st0) rest (qc_x D cl b N ce (fun _ => none) x1 r1 σ1 av) (mm_A b N))
    (kk : ∀ (r1 : Int32) (σ1 : mm_M), g = some (0, r1, σ1) → vv p l e R s m args below meth c D cl b N ce nL (mx_Q below (qc_x D cl b N ce vf x r σ') args s 1 6 (mm_A b N)) (x, r, σ') (kf r1 σ1) σ1 (pc + 3) L rest) :
    vv p l e R s m args below meth c D cl b N ce nL (mx_Q below (qc_x D cl b N ce vf x r σ') args s 1 6 (mm_A b N)) (x, r, σ') (bx g (fun x1 σ1 => some (x1, 0, σ1)) kf) σ pc L st0 := v_cx (vf2 := fun _ => none) hnh hlocks hr kk
set_option maxRecDepth 100000 in
theorem c_En_ordP (l : Launch) (A : Nat → Prop) (a : Nat) (v : Int32) : Met l y_En_ordinal w_En_ordinal rm_En_ordinal (va_Pc [.ref a] (fun U => va_OF "java/lang/Enum" "ordinal" "I" (.int v) a A U U.heap)) (QcRead v) 0 0 (fun _ => False) := by
  refine Met.ofW (cc := b_En_ordinal) (maxL := 1) (ret := (some .int)) (by decide) rfl ?_
  intro p e s m args below meth c s₁ B hml hv
  obtain ⟨rfl, hO⟩ := hv
  rw [entry_eq m _ (by simp [Value.category]) 1]
  have hts := atoms_spec (ws := w_En_ordinal) B.pre
  have hl := lo_entry [Value.ref a] (by simp [Value.category]) (n := 1) (Nat.le_of_ble_eq_true rfl)
  refine lv_aload_n B.exec B.bytes d_En_ordinal_0 rfl (hl.2.2 0 _ rfl).2 ?_
  refine vk_getf B.exec B.bytes hO va_S.rf (findClass_of_methodNamed B.named) (hts _ (List.mem_cons_of_mem _ wd_987)) (fun _ h => h) d_En_ordinal_1 ?_
  exact W.iret B.exec B.bytes B.returns (fun t ht hW => ⟨rfl, ht⟩) (fun q h => by cases h) d_En_ordinal_4
def y_Ma_report : MethodName := ⟨"FrameVerifier$Machine", "report", "(LFrameVerifier$Trap;)V"⟩
abbrev b_Ma_report : ByteArray := prog_6_method_11_code
def rm_Ma_report : Room := { frames := 6, cells := 1, slots := 6, locals := 100 }
abbrev w_Ma_report : List Cond := Cond.code y_Ma_report b_Ma_report 1 none :: wG
theorem m_Ma_report : Cond.code y_Ma_report b_Ma_report 1 none ∈ wG := wg_t 568 (by decide +kernel) (by decide +kernel)
theorem q_Ma_report : y_Ma_report.cls ≠ "java/lang/invoke/MethodHandle" ∧ y_Ma_report.cls ≠ "java/lang/invoke/VarHandle" ∧ (parseMethodDescriptor y_Ma_report.desc).map (fun d => d.parameters.length) = some 1 := by decide +kernel
theorem g_Ma_report : Cond.initialized y_Ma_report.cls ∈ wG := wg_t 4 (by decide +kernel) (by decide +kernel)
theorem s_Ma_report : Cond.static y_Ma_report ∈ wG := wg_t 567 (by decide +kernel) (by decide +kernel)
theorem d_Ma_report_0 : decode b_Ma_report 0 = .ok (.getstatic 156, 3) := by decide +kernel
theorem d_Ma_report_3 : decode b_Ma_report 3 = .ok (.aload_n 0, 1) := by decide +kernel
theorem d_Ma_report_4 : decode b_Ma_report 4 = .ok (.invokevirtual 159, 3) := by decide +kernel
theorem d_Ma_report_7 : decode b_Ma_report 7 = .ok (.iaload, 1) := by decide +kernel
theorem d_Ma_report_8 : decode b_Ma_report 8 = .ok (.tableswitch (64) (1) (4) #[(32), (40), (48), (56)], 32) := by decide +kernel
theorem d_Ma_report_40 : decode b_Ma_report 40 = .ok (.new 160, 3) := by decide +kernel
theorem d_Ma_report_43 : decode b_Ma_report 43 = .ok (.dup, 1) := by decide +kernel
theorem d_Ma_report_44 : decode b_Ma_report 44 = .ok (.invokespecial 162, 3) := by decide +kernel
theorem d_Ma_report_47 : decode b_Ma_report 47 = .ok (.athrow, 1) := by decide +kernel
theorem d_Ma_report_48 : decode b_Ma_report 48 = .ok (.new 163, 3) := by decide +kernel
theorem d_Ma_report_51 : decode b_Ma_report 51 = .ok (.dup, 1) := by decide +kernel
theorem d_Ma_report_52 : decode b_Ma_report 52 = .ok (.invokespecial 165, 3) := by decide +kernel
theorem d_Ma_report_55 : decode b_Ma_report 55 = .ok (.athrow, 1) := by decide +kernel
theorem d_Ma_report_56 : decode b_Ma_report 56 = .ok (.new 166, 3) := by decide +kernel
theorem d_Ma_report_59 : decode b_Ma_report 59 = .ok (.dup, 1) := by decide +kernel
theorem d_Ma_report_60 : decode b_Ma_report 60 = .ok (.invokespecial 168, 3) := by decide +kernel
theorem d_Ma_report_63 : decode b_Ma_report 63 = .ok (.athrow, 1) := by decide +kernel
theorem d_Ma_report_64 : decode b_Ma_report 64 = .ok (.new 169, 3) := by decide +kernel
theorem d_Ma_report_67 : decode b_Ma_report 67 = .ok (.dup, 1) := by decide +kernel
theorem d_Ma_report_68 : decode b_Ma_report 68 = .ok (.invokespecial 171, 3) := by decide +kernel
theorem d_Ma_report_71 : decode b_Ma_report 71 = .ok (.athrow, 1) := by decide +kernel
theorem d_Ma_report_72 : decode b_Ma_report 72 = .ok (.new 172, 3) := by decide +kernel
theorem d_Ma_report_75 : decode b_Ma_report 75 = .ok (.dup, 1) := by decide +kernel
theorem d_Ma_report_76 : decode b_Ma_report 76 = .ok (.invokespecial 174, 3) := by decide +kernel
theorem d_Ma_report_79 : decode b_Ma_report 79 = .ok (.athrow, 1) := by decide +kernel
def y_Ma_doInstruction : MethodName := ⟨"FrameVerifier$Machine", "doInstruction", "()V"⟩
abbrev b_Ma_doInstruction : ByteArray := prog_6_method_5_code
def rm_Ma_doInstruction : Room := { frames := 9, cells := 1, slots := 6, locals := 204 }
abbrev w_Ma_doInstruction : List Cond := Cond.code y_Ma_doInstruction b_Ma_doInstruction 5 none :: wG
theorem m_Ma_doInstruction : Cond.code y_Ma_doInstruction b_Ma_doInstruction 5 none ∈ wG := wg_t 529 (by decide +kernel) (by decide +kernel)
theorem q_Ma_doInstruction : y_Ma_doInstruction.cls ≠ "java/lang/invoke/MethodHandle" ∧ y_Ma_doInstruction.cls ≠ "java/lang/invoke/VarHandle" ∧ (parseMethodDescriptor y_Ma_doInstruction.desc).map (fun d => d.parameters.length) = some 0 := by decide +kernel
theorem g_Ma_doInstruction : Cond.initialized y_Ma_doInstruction.cls ∈ wG := wg_t 4 (by decide +kernel) (by decide +kernel)
theorem s_Ma_doInstruction : Cond.instanceMethod y_Ma_doInstruction ∈ wG := wg_t 527 (by decide +kernel) (by decide +kernel)
theorem e_Ma_doInstruction : Cond.selects "FrameVerifier$Machine" y_Ma_doInstruction y_Ma_doInstruction ∈ wG := wg_t 528 (by decide +kernel) (by decide +kernel)
theorem d_Ma_doInstruction_0 : decode b_Ma_doInstruction 0 = .ok (.aload_n 0, 1) := by decide +kernel
theorem d_Ma_doInstruction_1 : decode b_Ma_doInstruction 1 = .ok (.invokevirtual 48, 3) := by decide +kernel
theorem d_Ma_doInstruction_4 : decode b_Ma_doInstruction 4 = .ok (.astore_n 1, 1) := by decide +kernel
theorem d_Ma_doInstruction_5 : decode b_Ma_doInstruction 5 = .ok (.aload_n 0, 1) := by decide +kernel
theorem d_Ma_doInstruction_6 : decode b_Ma_doInstruction 6 = .ok (.aload_n 1, 1) := by decide +kernel
theorem d_Ma_doInstruction_7 : decode b_Ma_doInstruction 7 = .ok (.invokevirtual 52, 3) := by decide +kernel
theorem d_Ma_doInstruction_10 : decode b_Ma_doInstruction 10 = .ok (.astore_n 2, 1) := by decide +kernel
theorem d_Ma_doInstruction_11 : decode b_Ma_doInstruction 11 = .ok (.aload_n 2, 1) := by decide +kernel
theorem d_Ma_doInstruction_12 : decode b_Ma_doInstruction 12 = .ok (.getstatic 56, 3) := by decide +kernel
theorem d_Ma_doInstruction_15 : decode b_Ma_doInstruction 15 = .ok (.if_acmp .eq (13), 3) := by decide +kernel
theorem d_Ma_doInstruction_18 : decode b_Ma_doInstruction 18 = .ok (.aload_n 0, 1) := by decide +kernel
theorem d_Ma_doInstruction_19 : decode b_Ma_doInstruction 19 = .ok (.iconst 0, 1) := by decide +kernel
theorem d_Ma_doInstruction_20 : decode b_Ma_doInstruction 20 = .ok (.putfield 15, 3) := by decide +kernel
theorem d_Ma_doInstruction_23 : decode b_Ma_doInstruction 23 = .ok (.aload_n 2, 1) := by decide +kernel
theorem d_Ma_doInstruction_24 : decode b_Ma_doInstruction 24 = .ok (.invokestatic 62, 3) := by decide +kernel
theorem d_Ma_doInstruction_27 : decode b_Ma_doInstruction 27 = .ok (.return_, 1) := by decide +kernel
theorem d_Ma_doInstruction_28 : decode b_Ma_doInstruction 28 = .ok (.aload_n 0, 1) := by decide +kernel
theorem d_Ma_doInstruction_29 : decode b_Ma_doInstruction 29 = .ok (.getfield 9, 3) := by decide +kernel
theorem d_Ma_doInstruction_32 : decode b_Ma_doInstruction 32 = .ok (.aload_n 1, 1) := by decide +kernel
theorem d_Ma_doInstruction_33 : decode b_Ma_doInstruction 33 = .ok (.getfield 66, 3) := by decide +kernel
theorem d_Ma_doInstruction_36 : decode b_Ma_doInstruction 36 = .ok (.invokevirtual 69, 3) := by decide +kernel
theorem d_Ma_doInstruction_39 : decode b_Ma_doInstruction 39 = .ok (.astore_n 3, 1) := by decide +kernel
theorem d_Ma_doInstruction_40 : decode b_Ma_doInstruction 40 = .ok (.aload_n 0, 1) := by decide +kernel
theorem d_Ma_doInstruction_41 : decode b_Ma_doInstruction 41 = .ok (.getfield 9, 3) := by decide +kernel
theorem d_Ma_doInstruction_44 : decode b_Ma_doInstruction 44 = .ok (.aload_n 1, 1) := by decide +kernel
theorem d_Ma_doInstruction_45 : decode b_Ma_doInstruction 45 = .ok (.getfield 66, 3) := by decide +kernel
theorem d_Ma_doInstruction_48 : decode b_Ma_doInstruction 48 = .ok (.invokevirtual 75, 3) := by decide +kernel
theorem d_Ma_doInstruction_51 : decode b_Ma_doInstruction 51 = .ok (.istore 4, 2) := by decide +kernel
theorem d_Ma_doInstruction_53 : decode b_Ma_doInstruction 53 = .ok (.aload_n 1, 1) := by decide +kernel
theorem d_Ma_doInstruction_54 : decode b_Ma_doInstruction 54 = .ok (.dup, 1) := by decide +kernel
theorem d_Ma_doInstruction_55 : decode b_Ma_doInstruction 55 = .ok (.getfield 66, 3) := by decide +kernel
theorem d_Ma_doInstruction_58 : decode b_Ma_doInstruction 58 = .ok (.iconst 1, 1) := by decide +kernel
theorem d_Ma_doInstruction_59 : decode b_Ma_doInstruction 59 = .ok (.iadd, 1) := by decide +kernel
theorem d_Ma_doInstruction_60 : decode b_Ma_doInstruction 60 = .ok (.putfield 66, 3) := by decide +kernel
theorem d_Ma_doInstruction_63 : decode b_Ma_doInstruction 63 = .ok (.aload_n 3, 1) := by decide +kernel
theorem d_Ma_doInstruction_64 : decode b_Ma_doInstruction 64 = .ok (.invokevirtual 79, 3) := by decide +kernel
theorem d_Ma_doInstruction_67 : decode b_Ma_doInstruction 67 = .ok (.ifCond .eq (13), 3) := by decide +kernel
theorem d_Ma_doInstruction_70 : decode b_Ma_doInstruction 70 = .ok (.aload_n 1, 1) := by decide +kernel
theorem d_Ma_doInstruction_71 : decode b_Ma_doInstruction 71 = .ok (.aload_n 3, 1) := by decide +kernel
theorem d_Ma_doInstruction_72 : decode b_Ma_doInstruction 72 = .ok (.iload 4, 2) := by decide +kernel
theorem d_Ma_doInstruction_74 : decode b_Ma_doInstruction 74 = .ok (.invokestatic 85, 3) := by decide +kernel
theorem d_Ma_doInstruction_77 : decode b_Ma_doInstruction 77 = .ok (.goto (11), 3) := by decide +kernel
theorem d_Ma_doInstruction_80 : decode b_Ma_doInstruction 80 = .ok (.aload_n 0, 1) := by decide +kernel
theorem d_Ma_doInstruction_81 : decode b_Ma_doInstruction 81 = .ok (.aload_n 1, 1) := by decide +kernel
theorem d_Ma_doInstruction_82 : decode b_Ma_doInstruction 82 = .ok (.aload_n 3, 1) := by decide +kernel
theorem d_Ma_doInstruction_83 : decode b_Ma_doInstruction 83 = .ok (.iload 4, 2) := by decide +kernel
theorem d_Ma_doInstruction_85 : decode b_Ma_doInstruction 85 = .ok (.invokevirtual 89, 3) := by decide +kernel
theorem d_Ma_doInstruction_88 : decode b_Ma_doInstruction 88 = .ok (.return_, 1) := by decide +kernel
def y_FV_add : MethodName := ⟨"FrameVerifier", "add", "(II)I"⟩
abbrev b_FV_add : ByteArray := prog_1_method_2_code
def rm_FV_add : Room := { frames := 6, cells := 1, slots := 6, locals := 100 }
abbrev w_FV_add : List Cond := Cond.code y_FV_add b_FV_add 3 (some .int) :: wG
theorem m_FV_add : Cond.code y_FV_add b_FV_add 3 (some .int) ∈ wG := wg_t 444 (by decide +kernel) (by decide +kernel)
theorem q_FV_add : y_FV_add.cls ≠ "java/lang/invoke/MethodHandle" ∧ y_FV_add.cls ≠ "java/lang/invoke/VarHandle" ∧ (parseMethodDescriptor y_FV_add.desc).map (fun d => d.parameters.length) = some 2 := by decide +kernel
theorem g_FV_add : Cond.initialized y_FV_add.cls ∈ wG := wg_t 1 (by decide +kernel) (by decide +kernel)
theorem s_FV_add : Cond.instanceMethod y_FV_add ∈ wG := wg_t 442 (by decide +kernel) (by decide +kernel)
theorem e_FV_add : Cond.selects "FrameVerifier" y_FV_add y_FV_add ∈ wG := wg_t 443 (by decide +kernel) (by decide +kernel)
theorem d_FV_add_0 : decode b_FV_add 0 = .ok (.aload_n 0, 1) := by decide +kernel
theorem d_FV_add_1 : decode b_FV_add 1 = .ok (.getfield 12, 3) := by decide +kernel
theorem d_FV_add_4 : decode b_FV_add 4 = .ok (.getfield 36, 3) := by decide +kernel
theorem d_FV_add_7 : decode b_FV_add 7 = .ok (.bipush (100), 2) := by decide +kernel
theorem d_FV_add_9 : decode b_FV_add 9 = .ok (.if_icmp .lt (11), 3) := by decide +kernel
theorem d_FV_add_12 : decode b_FV_add 12 = .ok (.new 40, 3) := by decide +kernel
theorem d_FV_add_15 : decode b_FV_add 15 = .ok (.dup, 1) := by decide +kernel
theorem d_FV_add_16 : decode b_FV_add 16 = .ok (.invokespecial 42, 3) := by decide +kernel
theorem d_FV_add_19 : decode b_FV_add 19 = .ok (.athrow, 1) := by decide +kernel
theorem d_FV_add_20 : decode b_FV_add 20 = .ok (.aload_n 0, 1) := by decide +kernel
theorem d_FV_add_21 : decode b_FV_add 21 = .ok (.invokevirtual 43, 3) := by decide +kernel
theorem d_FV_add_24 : decode b_FV_add 24 = .ok (.aload_n 0, 1) := by decide +kernel
theorem d_FV_add_25 : decode b_FV_add 25 = .ok (.getfield 12, 3) := by decide +kernel
theorem d_FV_add_28 : decode b_FV_add 28 = .ok (.iload_n 1, 1) := by decide +kernel
theorem d_FV_add_29 : decode b_FV_add 29 = .ok (.iload_n 2, 1) := by decide +kernel
theorem d_FV_add_30 : decode b_FV_add 30 = .ok (.invokevirtual 46, 3) := by decide +kernel
theorem d_FV_add_33 : decode b_FV_add 33 = .ok (.ireturn, 1) := by decide +kernel
def y_FV_step : MethodName := ⟨"FrameVerifier", "step", "()I"⟩
abbrev b_FV_step : ByteArray := prog_1_method_8_code
def rm_FV_step : Room := { frames := 10, cells := 1, slots := 6, locals := 228 }
abbrev w_FV_step : List Cond := Cond.code y_FV_step b_FV_step 1 (some .int) :: wG
theorem m_FV_step : Cond.code y_FV_step b_FV_step 1 (some .int) ∈ wG := wg_t 525 (by decide +kernel) (by decide +kernel)
theorem q_FV_step : y_FV_step.cls ≠ "java/lang/invoke/MethodHandle" ∧ y_FV_step.cls ≠ "java/lang/invoke/VarHandle" ∧ (parseMethodDescriptor y_FV_step.desc).map (fun d => d.parameters.length) = some 0 := by decide +kernel
theorem g_FV_step : Cond.initialized y_FV_step.cls ∈ wG := wg_t 1 (by decide +kernel) (by decide +kernel)
theorem s_FV_step : Cond.instanceMethod y_FV_step ∈ wG := wg_t 523 (by decide +kernel) (by decide +kernel)
theorem e_FV_step : Cond.selects "FrameVerifier" y_FV_step y_FV_step ∈ wG := wg_t 524 (by decide +kernel) (by decide +kernel)
theorem d_FV_step_0 : decode b_FV_step 0 = .ok (.aload_n 0, 1) := by decide +kernel
theorem d_FV_step_1 : decode b_FV_step 1 = .ok (.getfield 28, 3) := by decide +kernel
theorem d_FV_step_4 : decode b_FV_step 4 = .ok (.invokevirtual 84, 3) := by decide +kernel
theorem d_FV_step_7 : decode b_FV_step 7 = .ok (.ifCond .eq (10), 3) := by decide +kernel
theorem d_FV_step_10 : decode b_FV_step 10 = .ok (.aload_n 0, 1) := by decide +kernel
theorem d_FV_step_11 : decode b_FV_step 11 = .ok (.getfield 28, 3) := by decide +kernel
theorem d_FV_step_14 : decode b_FV_step 14 = .ok (.invokevirtual 88, 3) := by decide +kernel
theorem d_FV_step_17 : decode b_FV_step 17 = .ok (.aload_n 0, 1) := by decide +kernel
theorem d_FV_step_18 : decode b_FV_step 18 = .ok (.getfield 28, 3) := by decide +kernel
theorem d_FV_step_21 : decode b_FV_step 21 = .ok (.invokevirtual 84, 3) := by decide +kernel
theorem d_FV_step_24 : decode b_FV_step 24 = .ok (.ifCond .eq (7), 3) := by decide +kernel
theorem d_FV_step_27 : decode b_FV_step 27 = .ok (.iconst 1, 1) := by decide +kernel
theorem d_FV_step_28 : decode b_FV_step 28 = .ok (.goto (4), 3) := by decide +kernel
theorem d_FV_step_31 : decode b_FV_step 31 = .ok (.iconst 0, 1) := by decide +kernel
theorem d_FV_step_32 : decode b_FV_step 32 = .ok (.ireturn, 1) := by decide +kernel
def y_FV_steps : MethodName := ⟨"FrameVerifier", "steps", "(I)I"⟩
abbrev b_FV_steps : ByteArray := prog_1_method_9_code
def rm_FV_steps : Room := { frames := 10, cells := 1, slots := 6, locals := 228 }
abbrev w_FV_steps : List Cond := Cond.code y_FV_steps b_FV_steps 3 (some .int) :: wG
theorem m_FV_steps : Cond.code y_FV_steps b_FV_steps 3 (some .int) ∈ wG := wg_t 719 (by decide +kernel) (by decide +kernel)
theorem q_FV_steps : y_FV_steps.cls ≠ "java/lang/invoke/MethodHandle" ∧ y_FV_steps.cls ≠ "java/lang/invoke/VarHandle" ∧ (parseMethodDescriptor y_FV_steps.desc).map (fun d => d.parameters.length) = some 1 := by decide +kernel
theorem g_FV_steps : Cond.initialized y_FV_steps.cls ∈ wG := wg_t 1 (by decide +kernel) (by decide +kernel)
theorem s_FV_steps : Cond.instanceMethod y_FV_steps ∈ wG := wg_t 717 (by decide +kernel) (by decide +kernel)
theorem e_FV_steps : Cond.selects "FrameVerifier" y_FV_steps y_FV_steps ∈ wG := wg_t 718 (by decide +kernel) (by decide +kernel)
theorem d_FV_steps_0 : decode b_FV_steps 0 = .ok (.iload_n 1, 1) := by decide +kernel
theorem d_FV_steps_1 : decode b_FV_steps 1 = .ok (.iconst 1, 1) := by decide +kernel
theorem d_FV_steps_2 : decode b_FV_steps 2 = .ok (.if_icmp .lt (10), 3) := by decide +kernel
theorem d_FV_steps_5 : decode b_FV_steps 5 = .ok (.iload_n 1, 1) := by decide +kernel
theorem d_FV_steps_6 : decode b_FV_steps 6 = .ok (.sipush (200), 3) := by decide +kernel
theorem d_FV_steps_9 : decode b_FV_steps 9 = .ok (.if_icmp .le (11), 3) := by decide +kernel
theorem d_FV_steps_12 : decode b_FV_steps 12 = .ok (.new 91, 3) := by decide +kernel
theorem d_FV_steps_15 : decode b_FV_steps 15 = .ok (.dup, 1) := by decide +kernel
theorem d_FV_steps_16 : decode b_FV_steps 16 = .ok (.invokespecial 93, 3) := by decide +kernel
theorem d_FV_steps_19 : decode b_FV_steps 19 = .ok (.athrow, 1) := by decide +kernel
theorem d_FV_steps_20 : decode b_FV_steps 20 = .ok (.iconst 0, 1) := by decide +kernel
theorem d_FV_steps_21 : decode b_FV_steps 21 = .ok (.istore_n 2, 1) := by decide +kernel
theorem d_FV_steps_22 : decode b_FV_steps 22 = .ok (.iload_n 2, 1) := by decide +kernel
theorem d_FV_steps_23 : decode b_FV_steps 23 = .ok (.iload_n 1, 1) := by decide +kernel
theorem d_FV_steps_24 : decode b_FV_steps 24 = .ok (.if_icmp .ge (26), 3) := by decide +kernel
theorem d_FV_steps_27 : decode b_FV_steps 27 = .ok (.aload_n 0, 1) := by decide +kernel
theorem d_FV_steps_28 : decode b_FV_steps 28 = .ok (.getfield 28, 3) := by decide +kernel
theorem d_FV_steps_31 : decode b_FV_steps 31 = .ok (.invokevirtual 84, 3) := by decide +kernel
theorem d_FV_steps_34 : decode b_FV_steps 34 = .ok (.ifCond .eq (16), 3) := by decide +kernel
theorem d_FV_steps_37 : decode b_FV_steps 37 = .ok (.aload_n 0, 1) := by decide +kernel
theorem d_FV_steps_38 : decode b_FV_steps 38 = .ok (.getfield 28, 3) := by decide +kernel
theorem d_FV_steps_41 : decode b_FV_steps 41 = .ok (.invokevirtual 88, 3) := by decide +kernel
theorem d_FV_steps_44 : decode b_FV_steps 44 = .ok (.iinc 2 (1), 3) := by decide +kernel
theorem d_FV_steps_47 : decode b_FV_steps 47 = .ok (.goto (-25), 3) := by decide +kernel
theorem d_FV_steps_50 : decode b_FV_steps 50 = .ok (.iload_n 2, 1) := by decide +kernel
theorem d_FV_steps_51 : decode b_FV_steps 51 = .ok (.ireturn, 1) := by decide +kernel
theorem wd_10 : (Jvm.Cond.initialized "java/lang/IllegalStateException") ∈ wG := wg_t 10 (by decide +kernel) (by decide +kernel)
theorem wd_21 : (Jvm.Cond.initialized "java/lang/UnsupportedOperationException") ∈ wG := wg_t 21 (by decide +kernel) (by decide +kernel)
theorem wd_22 : (Jvm.Cond.initialized "java/lang/ArithmeticException") ∈ wG := wg_t 22 (by decide +kernel) (by decide +kernel)
theorem wd_23 : (Jvm.Cond.initialized "java/util/NoSuchElementException") ∈ wG := wg_t 23 (by decide +kernel) (by decide +kernel)
theorem wd_24 : (Jvm.Cond.initialized "java/lang/IndexOutOfBoundsException") ∈ wG := wg_t 24 (by decide +kernel) (by decide +kernel)
theorem wd_25 : (Jvm.Cond.initialized "java/lang/IllegalArgumentException") ∈ wG := wg_t 25 (by decide +kernel) (by decide +kernel)
theorem wd_445 : (Jvm.Cond.classLink "FrameVerifier" (40 : Nat) "java/lang/IllegalStateException") ∈ wG := wg_t 445 (by decide +kernel) (by decide +kernel)
theorem wd_569 : (Jvm.Cond.fieldLink "FrameVerifier$Machine" (156 : Nat) "FrameVerifier$1" "$SwitchMap$FrameVerifier$Trap" "[I") ∈ wG := wg_t 569 (by decide +kernel) (by decide +kernel)
theorem wd_574 : (Jvm.Cond.classLink "FrameVerifier$Machine" (160 : Nat) "java/lang/UnsupportedOperationException") ∈ wG := wg_t 574 (by decide +kernel) (by decide +kernel)
theorem wd_589 : (Jvm.Cond.classLink "FrameVerifier$Machine" (163 : Nat) "java/lang/ArithmeticException") ∈ wG := wg_t 589 (by decide +kernel) (by decide +kernel)
theorem wd_604 : (Jvm.Cond.classLink "FrameVerifier$Machine" (166 : Nat) "java/util/NoSuchElementException") ∈ wG := wg_t 604 (by decide +kernel) (by decide +kernel)
theorem wd_619 : (Jvm.Cond.classLink "FrameVerifier$Machine" (169 : Nat) "java/lang/IndexOutOfBoundsException") ∈ wG := wg_t 619 (by decide +kernel) (by decide +kernel)
theorem wd_634 : (Jvm.Cond.classLink "FrameVerifier$Machine" (172 : Nat) "java/lang/IllegalStateException") ∈ wG := wg_t 634 (by decide +kernel) (by decide +kernel)
theorem wd_720 : (Jvm.Cond.classLink "FrameVerifier" (91 : Nat) "java/lang/IllegalArgumentException") ∈ wG := wg_t 720 (by decide +kernel) (by decide +kernel)
theorem k_FV_46 {R : Room} {s : State} {args : Array Value} {Ts : List Cond} (hts : ∀ w ∈ Ts, w.before args s = true) (hsub : ∀ w ∈ wG, w ∈ Ts) (hR : rm_Co_append.frames + 1 ≤ R.frames ∧ 8 + (4 + 11) + rm_Co_append.locals ≤ R.locals) : CallW R s args "FrameVerifier" "FrameVerifier$Code" 46 y_Co_append b_Co_append 4 (some .int) w_Co_append rm_Co_append 0 0 2 := ⟨cb_G hts hsub m_Co_append g_Co_append (wg_t 511 (by decide +kernel) (by decide +kernel) : Cond.methodLink "FrameVerifier" 46 y_Co_append ∈ wG) q_Co_append rfl rfl hR, hts _ (hsub _ s_Co_append), hts _ (hsub _ e_Co_append)⟩
theorem k_FV_88 {R : Room} {s : State} {args : Array Value} {Ts : List Cond} (hts : ∀ w ∈ Ts, w.before args s = true) (hsub : ∀ w ∈ wG, w ∈ Ts) (hR : rm_Ma_doInstruction.frames + 1 ≤ R.frames ∧ 8 + (5 + 11) + rm_Ma_doInstruction.locals ≤ R.locals) : CallW R s args "FrameVerifier" "FrameVerifier$Machine" 88 y_Ma_doInstruction b_Ma_doInstruction 5 none w_Ma_doInstruction rm_Ma_doInstruction 1 6 0 := ⟨cb_GX hts hsub m_Ma_doInstruction g_Ma_doInstruction (wg_t 526 (by decide +kernel) (by decide +kernel) : Cond.methodLink "FrameVerifier" 88 y_Ma_doInstruction ∈ wG) q_Ma_doInstruction rfl rfl hR, hts _ (hsub _ s_Ma_doInstruction), hts _ (hsub _ e_Ma_doInstruction)⟩
theorem k_Ma_52 {R : Room} {s : State} {args : Array Value} {Ts : List Cond} (hts : ∀ w ∈ Ts, w.before args s = true) (hsub : ∀ w ∈ wG, w ∈ Ts) (hR : rm_Ma_trapOf.frames + 1 ≤ R.frames ∧ 8 + (2 + 11) + rm_Ma_trapOf.locals ≤ R.locals) : CallW R s args "FrameVerifier$Machine" "FrameVerifier$Machine" 52 y_Ma_trapOf b_Ma_trapOf 2 (some (.object "FrameVerifier$Trap")) w_Ma_trapOf rm_Ma_trapOf 0 0 1 := ⟨cb_G hts hsub m_Ma_trapOf g_Ma_trapOf (wg_t 531 (by decide +kernel) (by decide +kernel) : Cond.methodLink "FrameVerifier$Machine" 52 y_Ma_trapOf ∈ wG) q_Ma_trapOf rfl rfl hR, hts _ (hsub _ s_Ma_trapOf), hts _ (hsub _ e_Ma_trapOf)⟩
theorem k_Ma_62 {R : Room} {s : State} {args : Array Value} {Ts : List Cond} (hts : ∀ w ∈ Ts, w.before args s = true) (hsub : ∀ w ∈ wG, w ∈ Ts) (hR : rm_Ma_report.frames + 1 ≤ R.frames ∧ 8 + (1 + 11) + rm_Ma_report.locals ≤ R.locals) : CallB R s args "FrameVerifier$Machine" 62 y_Ma_report b_Ma_report 1 none w_Ma_report rm_Ma_report 1 6 1 ∧ (Cond.static y_Ma_report).before args s = true := ⟨cb_GX hts hsub m_Ma_report g_Ma_report (wg_t 566 (by decide +kernel) (by decide +kernel) : Cond.methodLink "FrameVerifier$Machine" 62 y_Ma_report ∈ wG) q_Ma_report rfl rfl hR, hts _ (hsub _ s_Ma_report)⟩
theorem k_Ma_75 {R : Room} {s : State} {args : Array Value} {Ts : List Cond} (hts : ∀ w ∈ Ts, w.before args s = true) (hsub : ∀ w ∈ wG, w ∈ Ts) (hR : rm_Co_numberAt.frames + 1 ≤ R.frames ∧ 8 + (2 + 11) + rm_Co_numberAt.locals ≤ R.locals) : CallW R s args "FrameVerifier$Machine" "FrameVerifier$Code" 75 y_Co_numberAt b_Co_numberAt 2 (some .int) w_Co_numberAt rm_Co_numberAt 0 0 1 := ⟨cb_G hts hsub m_Co_numberAt g_Co_numberAt (wg_t 636 (by decide +kernel) (by decide +kernel) : Cond.methodLink "FrameVerifier$Machine" 75 y_Co_numberAt ∈ wG) q_Co_numberAt rfl rfl hR, hts _ (hsub _ s_Co_numberAt), hts _ (hsub _ e_Co_numberAt)⟩
theorem k_Ma_79 {R : Room} {s : State} {args : Array Value} {Ts : List Cond} (hts : ∀ w ∈ Ts, w.before args s = true) (hsub : ∀ w ∈ wG, w ∈ Ts) (hR : rm_Op_jumps.frames + 1 ≤ R.frames ∧ 8 + (1 + 11) + rm_Op_jumps.locals ≤ R.locals) : CallW R s args "FrameVerifier$Machine" "FrameVerifier$Op" 79 y_Op_jumps b_Op_jumps 1 (some .boolean) w_Op_jumps rm_Op_jumps 0 0 0 := ⟨cb_G hts hsub m_Op_jumps g_Op_jumps (wg_t 637 (by decide +kernel) (by decide +kernel) : Cond.methodLink "FrameVerifier$Machine" 79 y_Op_jumps ∈ wG) q_Op_jumps rfl rfl hR, hts _ (hsub _ s_Op_jumps), hts _ (hsub _ e_Op_jumps)⟩
theorem k_Ma_85 {R : Room} {s : State} {args : Array Value} {Ts : List Cond} (hts : ∀ w ∈ Ts, w.before args s = true) (hsub : ∀ w ∈ wG, w ∈ Ts) (hR : rm_Ma_jump.frames + 1 ≤ R.frames ∧ 8 + (3 + 11) + rm_Ma_jump.locals ≤ R.locals) : CallB R s args "FrameVerifier$Machine" 85 y_Ma_jump b_Ma_jump 3 none w_Ma_jump rm_Ma_jump 0 0 3 ∧ (Cond.static y_Ma_jump).before args s = true := ⟨cb_G hts hsub m_Ma_jump g_Ma_jump (wg_t 638 (by decide +kernel) (by decide +kernel) : Cond.methodLink "FrameVerifier$Machine" 85 y_Ma_jump ∈ wG) q_Ma_jump rfl rfl hR, hts _ (hsub _ s_Ma_jump)⟩
theorem k_Ma_89 {R : Room} {s : State} {args : Array Value} {Ts : List Cond} (hts : ∀ w ∈ Ts, w.before args s = true) (hsub : ∀ w ∈ wG, w ∈ Ts) (hR : rm_Ma_act.frames + 1 ≤ R.frames ∧ 8 + (4 + 11) + rm_Ma_act.locals ≤ R.locals) : CallW R s args "FrameVerifier$Machine" "FrameVerifier$Machine" 89 y_Ma_act b_Ma_act 4 none w_Ma_act rm_Ma_act 0 0 3 := ⟨cb_G hts hsub m_Ma_act g_Ma_act (wg_t 648 (by decide +kernel) (by decide +kernel) : Cond.methodLink "FrameVerifier$Machine" 89 y_Ma_act ∈ wG) q_Ma_act rfl rfl hR, hts _ (hsub _ s_Ma_act), hts _ (hsub _ e_Ma_act)⟩
theorem k_Ma_159 {R : Room} {s : State} {args : Array Value} {Ts : List Cond} (hts : ∀ w ∈ Ts, w.before args s = true) (hsub : ∀ w ∈ wG, w ∈ Ts) (hR : rm_En_ordinal.frames + 1 ≤ R.frames ∧ 8 + (1 + 11) + rm_En_ordinal.locals ≤ R.locals) : va_CU R s args "FrameVerifier$Machine" "FrameVerifier$Trap" "java/lang/Enum" 159 ⟨"FrameVerifier$Trap", "ordinal", "()I"⟩ y_En_ordinal b_En_ordinal 1 (some .int) w_En_ordinal rm_En_ordinal 0 0 0 := by
  refine va_cwU 0 hts (fun w hw => ?_) rfl rfl rfl rfl (by decide +kernel) hR
  have h1 : w ∈ wG := by
    rcases List.mem_append.mp hw with h | h
    · simp only [List.mem_cons, List.not_mem_nil, or_false] at h
      rcases h with rfl | rfl | rfl | rfl | rfl
      · exact wg_t 571 (by decide +kernel) (by decide +kernel)
      · exact wg_t 572 (by decide +kernel) (by decide +kernel)
      · exact wg_t 573 (by decide +kernel) (by decide +kernel)
      · exact s_En_ordinal
      · exact g_En_ordinal
    · rcases List.mem_cons.mp h with rfl | h
      · exact m_En_ordinal
      · exact h
  exact ⟨hsub w h1, good_of_word (List.mem_filter.mp h1).2⟩
theorem ow_Ma_report_40 : (Bundle.ownAtoms0 "FrameVerifier$Machine" 162 "java/lang/UnsupportedOperationException" ["java/lang/RuntimeException", "java/lang/Exception"]).filter (fun w => !goodWord w) = ow_ex "java/lang/UnsupportedOperationException" := by decide +kernel
theorem oz_Ma_report_40 : (((Bundle.ownAtoms0 "FrameVerifier$Machine" 162 "java/lang/UnsupportedOperationException" ["java/lang/RuntimeException", "java/lang/Exception"]).filter goodWord).filter (fun w => !decide (w ∈ lw_tbl))).length = 0 := by decide +kernel
theorem ow_Ma_report_48 : (Bundle.ownAtoms0 "FrameVerifier$Machine" 165 "java/lang/ArithmeticException" ["java/lang/RuntimeException", "java/lang/Exception"]).filter (fun w => !goodWord w) = ow_ex "java/lang/ArithmeticException" := by decide +kernel
theorem oz_Ma_report_48 : (((Bundle.ownAtoms0 "FrameVerifier$Machine" 165 "java/lang/ArithmeticException" ["java/lang/RuntimeException", "java/lang/Exception"]).filter goodWord).filter (fun w => !decide (w ∈ lw_tbl))).length = 0 := by decide +kernel
theorem ow_Ma_report_56 : (Bundle.ownAtoms0 "FrameVerifier$Machine" 168 "java/util/NoSuchElementException" ["java/lang/RuntimeException", "java/lang/Exception"]).filter (fun w => !goodWord w) = ow_ex "java/util/NoSuchElementException" := by decide +kernel
theorem oz_Ma_report_56 : (((Bundle.ownAtoms0 "FrameVerifier$Machine" 168 "java/util/NoSuchElementException" ["java/lang/RuntimeException", "java/lang/Exception"]).filter goodWord).filter (fun w => !decide (w ∈ lw_tbl))).length = 0 := by decide +kernel
theorem ow_Ma_report_64 : (Bundle.ownAtoms0 "FrameVerifier$Machine" 171 "java/lang/IndexOutOfBoundsException" ["java/lang/RuntimeException", "java/lang/Exception"]).filter (fun w => !goodWord w) = ow_ex "java/lang/IndexOutOfBoundsException" := by decide +kernel
theorem oz_Ma_report_64 : (((Bundle.ownAtoms0 "FrameVerifier$Machine" 171 "java/lang/IndexOutOfBoundsException" ["java/lang/RuntimeException", "java/lang/Exception"]).filter goodWord).filter (fun w => !decide (w ∈ lw_tbl))).length = 0 := by decide +kernel
theorem ow_Ma_report_72 : (Bundle.ownAtoms0 "FrameVerifier$Machine" 174 "java/lang/IllegalStateException" ["java/lang/RuntimeException", "java/lang/Exception"]).filter (fun w => !goodWord w) = ow_ex "java/lang/IllegalStateException" := by decide +kernel
theorem oz_Ma_report_72 : (((Bundle.ownAtoms0 "FrameVerifier$Machine" 174 "java/lang/IllegalStateException" ["java/lang/RuntimeException", "java/lang/Exception"]).filter goodWord).filter (fun w => !decide (w ∈ lw_tbl))).length = 0 := by decide +kernel
theorem ow_FV_add_12 : (Bundle.ownAtoms0 "FrameVerifier" 42 "java/lang/IllegalStateException" ["java/lang/RuntimeException", "java/lang/Exception"]).filter (fun w => !goodWord w) = ow_ex "java/lang/IllegalStateException" := by decide +kernel
theorem oz_FV_add_12 : (((Bundle.ownAtoms0 "FrameVerifier" 42 "java/lang/IllegalStateException" ["java/lang/RuntimeException", "java/lang/Exception"]).filter goodWord).filter (fun w => !decide (w ∈ lw_tbl))).length = 0 := by decide +kernel
theorem ow_FV_steps_12 : (Bundle.ownAtoms0 "FrameVerifier" 93 "java/lang/IllegalArgumentException" ["java/lang/RuntimeException", "java/lang/Exception"]).filter (fun w => !goodWord w) = ow_ex "java/lang/IllegalArgumentException" := by decide +kernel
theorem oz_FV_steps_12 : (((Bundle.ownAtoms0 "FrameVerifier" 93 "java/lang/IllegalArgumentException" ["java/lang/RuntimeException", "java/lang/Exception"]).filter goodWord).filter (fun w => !decide (w ∈ lw_tbl))).length = 0 := by decide +kernel

/-! part 46: what the law's start knows -/
abbrev nr : List Cond := flatC (Jvm.Cond.and given_1 narrow_1)
theorem nr_at {args : Array Value} {s : State} (h : (Jvm.Cond.and given_1 narrow_1).before args s = true) {w : Cond} (i : Nat) (hi : nr[i]? = some w) : w.before args s = true := flat_of_before _ h w (List.mem_of_getElem? hi)
theorem tb_at {args : Array Value} {s : State} (h : ∀ w ∈ lw_tbl, w.before args s = true) {w : Cond} (i : Nat) (hi : tables_1[i]? = some w) : w.before args s = true := h w (List.mem_append_right _ (List.mem_of_getElem? hi))
def ad_of (args : Array Value) (s : State) (t : Term) : Nat := match t.eval args s none [] s with
  | some (.ref a) => a
  | _ => 0
theorem ad_ok {args : Array Value} {s : State} {t : Term} (h : ∃ a, t.eval args s none [] s = some (.ref a)) : t.eval args s none [] s = some (.ref (ad_of args s t)) := by
  obtain ⟨a, ha⟩ := h
  unfold ad_of
  rw [ha]
abbrev tO (i : Nat) : Term := .static "FrameVerifier$Op" (op_nm i) "LFrameVerifier$Op;"
abbrev tT (i : Nat) : Term := .static "FrameVerifier$Trap" (tr_nm i) "LFrameVerifier$Trap;"
abbrev tS (i : Nat) : Term := .string "FrameVerifier$Op" (([108, 114, 121, 125, 129, 133, 136, 141] : List Nat).getD i 0)
abbrev tV (i : Nat) : Term := .field (tS i) "java/lang/String" "value" "[B"
abbrev tOps : Term := .static "FrameVerifier" "OPS" "[LFrameVerifier$Op;"
abbrev tSwO : Term := .static "FrameVerifier$1" "$SwitchMap$FrameVerifier$Op" "[I"
abbrev tSwT : Term := .static "FrameVerifier$1" "$SwitchMap$FrameVerifier$Trap" "[I"
def ax_of (args : Array Value) (s : State) : Nat → Nat → Nat := fun k i => match k with
  | 0 => ad_of args s (tO i)
  | 1 => ad_of args s (tT i)
  | 2 => ad_of args s tOps
  | 3 => ad_of args s tSwO
  | 4 => ad_of args s tSwT
  | 5 => ad_of args s (tS i)
  | _ => ad_of args s (tV i)
theorem nO_e : ∀ i, i < 20 → nr[([100, 106, 112, 118, 124, 130, 136, 52, 57, 141, 62, 146, 151, 156, 161, 166, 171, 176, 67, 181] : List Nat).getD i 0]? = some (Cond.exactly (tO i) "FrameVerifier$Op") := by decide +kernel
theorem nO_o : ∀ i, i < 20 → nr[([101, 107, 113, 119, 125, 131, 137, 53, 58, 142, 63, 147, 152, 157, 162, 167, 172, 177, 68, 182] : List Nat).getD i 0]? = some (Cond.eq (.field (tO i) "java/lang/Enum" "ordinal" "I") (.int (nI i))) := by decide +kernel
theorem nO_g : ∀ i, i < 20 → nr[([103, 109, 115, 121, 127, 133, 139, 55, 60, 144, 65, 149, 154, 159, 164, 169, 174, 179, 70, 184] : List Nat).getD i 0]? = some (Cond.eq (.field (tO i) "FrameVerifier$Op" "gives" "I") (.int (op_gives i))) := by decide +kernel
theorem nO_b : ∀ i, i < 20 → nr[([104, 110, 116, 122, 128, 134, 140, 56, 61, 145, 66, 150, 155, 160, 165, 170, 175, 180, 71, 185] : List Nat).getD i 0]? = some (Cond.eq (.field (tO i) "FrameVerifier$Op" "goesBehind" "Z") (.int (op_behind i))) := by decide +kernel
theorem nO_t : ∀ i, i < 20 → nr[([102, 108, 114, 120, 126, 132, 138, 54, 59, 143, 64, 148, 153, 158, 163, 168, 173, 178, 69, 183] : List Nat).getD i 0]? = some (Cond.eq (.field (tO i) "FrameVerifier$Op" "takes" "Ljava/lang/String;") (tS (st_of i))) := by decide +kernel
theorem nT_e : ∀ i, i < 6 → nr[([83, 79, 81, 85, 87, 89] : List Nat).getD i 0]? = some (Cond.exactly (tT i) "FrameVerifier$Trap") := by decide +kernel
theorem nT_o : ∀ i, i < 6 → nr[([84, 80, 82, 86, 88, 90] : List Nat).getD i 0]? = some (Cond.eq (.field (tT i) "java/lang/Enum" "ordinal" "I") (.int (nI i))) := by decide +kernel
theorem nS_e : ∀ i, i < 8 → nr[([264, 278, 284, 268, 273, 289, 295, 302] : List Nat).getD i 0]? = some (Cond.exactly (tS i) "java/lang/String") := by decide +kernel
theorem nS_c : ∀ i, i < 8 → nr[([265, 279, 285, 269, 274, 290, 296, 303] : List Nat).getD i 0]? = some (Cond.eq (.field (tS i) "java/lang/String" "coder" "B") (.int 0)) := by decide +kernel
theorem nS_a : ∀ i, i < 8 → nr[([266, 280, 286, 270, 275, 291, 297, 304] : List Nat).getD i 0]? = some (Cond.arrayOf (tV i) .byte) := by decide +kernel
theorem nS_n : ∀ i, i < 8 → nr[([267, 281, 287, 271, 276, 292, 298, 305] : List Nat).getD i 0]? = some (Cond.eq (.length (tV i)) (.int (Int32.ofNat (tx_n i)))) := by decide +kernel
theorem nS_b : ∀ i, i < 8 → ∀ j, j < tx_n i → nr[(([[], [282, 283], [288], [272], [277], [293, 294], [299, 300, 301], [306, 307]] : List (List Nat)).getD i []).getD j 0]? = some (Cond.eq (.elem (tV i) (.int (Int32.ofNat j))) (.int (tx_b i j))) := by decide +kernel
theorem nP_e : ∀ i, i < 20 → nr[([9, 10, 11, 12, 13, 14, 15, 16, 17, 18, 19, 20, 21, 22, 23, 24, 25, 26, 27, 28] : List Nat).getD i 0]? = some (Cond.eq (.elem tOps (.int (Int32.ofNat i))) (tO i)) := by decide +kernel
theorem nQ_e : ∀ i, i < 20 → nr[([32, 33, 34, 35, 36, 37, 38, 39, 40, 41, 42, 43, 44, 45, 46, 47, 48, 49, 50, 51] : List Nat).getD i 0]? = some (Cond.eq (.elem tSwO (.int (Int32.ofNat i))) (.int (sw_op i))) := by decide +kernel
theorem nR_e : ∀ i, i < 6 → nr[([94, 95, 96, 97, 98, 99] : List Nat).getD i 0]? = some (Cond.eq (.elem tSwT (.int (Int32.ofNat i))) (.int (sw_tr i))) := by decide +kernel
theorem nP_a : nr[6]? = some (Cond.arrayOf tOps (.object "FrameVerifier$Op")) := by decide +kernel
theorem nP_n : nr[7]? = some (Cond.eq (.length tOps) (.int (Int32.ofNat 20))) := by decide +kernel
theorem nQ_a : nr[30]? = some (Cond.arrayOf tSwO .int) := by decide +kernel
theorem nQ_n : nr[31]? = some (Cond.eq (.length tSwO) (.int (Int32.ofNat 20))) := by decide +kernel
theorem nR_a : nr[92]? = some (Cond.arrayOf tSwT .int) := by decide +kernel
theorem nR_n : nr[93]? = some (Cond.eq (.length tSwT) (.int (Int32.ofNat 6))) := by decide +kernel
theorem nC_c : nr[72]? = some (Cond.eq (.static "java/lang/String" "COMPACT_STRINGS" "Z") (.int 1)) := by decide +kernel
theorem nC_f : nr[73]? = some (Cond.isRef (.static "jdk/internal/util/Preconditions" "SIOOBE_FORMATTER" "Ljava/util/function/BiFunction;")) := by decide +kernel
theorem nC_u : nr[77]? = some (Cond.isRef (.static "java/lang/Throwable" "UNASSIGNED_STACK" "[Ljava/lang/StackTraceElement;")) := by decide +kernel
theorem nC_s : nr[78]? = some (Cond.isRef (.static "java/lang/Throwable" "SUPPRESSED_SENTINEL" "Ljava/util/List;")) := by decide +kernel
theorem nX_0 : ∀ i, i < 7 → ∀ j, j < 7 → (i = 0 ∨ j = 0 ∨ i = j ∨ nr[(([[0, 0, 0, 0, 0, 0, 0], [0, 0, 221, 234, 247, 194, 260], [0, 208, 0, 235, 248, 195, 261], [0, 209, 222, 0, 249, 196, 262], [0, 210, 223, 236, 0, 197, 263], [0, 205, 218, 231, 244, 0, 257], [0, 211, 224, 237, 250, 198, 0]] : List (List Nat)).getD i []).getD j 0]? = some (Cond.not (.castable (ex_nm i) (ex_nm j)))) := by decide +kernel
theorem nX_n {i j : Nat} (hi : i < 7) (hj : j < 7) (h1 : 0 < i) (h2 : 0 < j) (h : i ≠ j) : nr[(([[0, 0, 0, 0, 0, 0, 0], [0, 0, 221, 234, 247, 194, 260], [0, 208, 0, 235, 248, 195, 261], [0, 209, 222, 0, 249, 196, 262], [0, 210, 223, 236, 0, 197, 263], [0, 205, 218, 231, 244, 0, 257], [0, 211, 224, 237, 250, 198, 0]] : List (List Nat)).getD i []).getD j 0]? = some (Cond.not (.castable (ex_nm i) (ex_nm j))) := by
  rcases nX_0 i hi j hj with q | q | q | q
  · omega
  · omega
  · exact absurd q h
  · exact q
theorem tO_l : ∀ i, i < 20 → tables_1[([994, 995, 996, 997, 998, 999, 1000, 269, 271, 1001, 273, 1002, 1003, 1004, 1005, 1006, 1007, 1008, 283, 1009] : List Nat).getD i 0]? = some (Cond.laysStatic "FrameVerifier$Op" (op_nm i) "LFrameVerifier$Op;") := by decide +kernel
theorem tT_l : ∀ i, i < 6 → tables_1[([549, 537, 547, 554, 559, 565] : List Nat).getD i 0]? = some (Cond.laysStatic "FrameVerifier$Trap" (tr_nm i) "LFrameVerifier$Trap;") := by decide +kernel
theorem tX_c : ∀ i, i < 7 → tables_1[([576, 576, 591, 606, 621, 447, 722] : List Nat).getD i 0]? = some (Cond.castable (ex_nm i) (ex_nm i)) := by decide +kernel
theorem tl_ops : tables_1[242]? = some (Cond.laysStatic "FrameVerifier" "OPS" "[LFrameVerifier$Op;") := by decide +kernel
theorem tl_so : tables_1[252]? = some (Cond.laysStatic "FrameVerifier$1" "$SwitchMap$FrameVerifier$Op" "[I") := by decide +kernel
theorem tl_st : tables_1[570]? = some (Cond.laysStatic "FrameVerifier$1" "$SwitchMap$FrameVerifier$Trap" "[I") := by decide +kernel
theorem tl_c : tables_1[293]? = some (Cond.laysStatic "java/lang/String" "COMPACT_STRINGS" "Z") := by decide +kernel
theorem tl_f : tables_1[319]? = some (Cond.laysStatic "jdk/internal/util/Preconditions" "SIOOBE_FORMATTER" "Ljava/util/function/BiFunction;") := by decide +kernel
theorem tl_u : tables_1[472]? = some (Cond.laysStatic "java/lang/Throwable" "UNASSIGNED_STACK" "[Ljava/lang/StackTraceElement;") := by decide +kernel
theorem tl_s : tables_1[474]? = some (Cond.laysStatic "java/lang/Throwable" "SUPPRESSED_SENTINEL" "Ljava/util/List;") := by decide +kernel
theorem ti_op : tables_1[15]? = some (Cond.initialized "FrameVerifier$Op") := by decide +kernel
theorem ti_tr : tables_1[20]? = some (Cond.initialized "FrameVerifier$Trap") := by decide +kernel
theorem ti_fv : tables_1[1]? = some (Cond.initialized "FrameVerifier") := by decide +kernel
theorem ti_1 : tables_1[13]? = some (Cond.initialized "FrameVerifier$1") := by decide +kernel
theorem ti_s : tables_1[16]? = some (Cond.initialized "java/lang/String") := by decide +kernel
theorem ti_p : tables_1[18]? = some (Cond.initialized "jdk/internal/util/Preconditions") := by decide +kernel
theorem ti_t : tables_1[7]? = some (Cond.initialized "java/lang/Throwable") := by decide +kernel
theorem tn_1 : tables_1[241]? = some (Cond.fieldLinkNest "FrameVerifier$Code" 35 "FrameVerifier" "OPS" "[LFrameVerifier$Op;" "FrameVerifier") := by decide +kernel
theorem tn_2 : tables_1[259]? = some (Cond.methodLinkNest "FrameVerifier$Code" 109 ⟨"FrameVerifier", "isLocal", "(I)Z"⟩ "FrameVerifier") := by decide +kernel
theorem tn_3 : ∀ i, i < 3 → tables_1[([448, 450, 452] : List Nat).getD i 0]? = some (Cond.declares ⟨ex_up i, "<init>", "()V"⟩) := by decide +kernel
theorem ts_FV : tables_1[27]? = some (Cond.instantiable "FrameVerifier" 4) := by decide +kernel
theorem ts_Co : tables_1[35]? = some (Cond.instantiable "FrameVerifier$Code" 7) := by decide +kernel
theorem ts_Fl : tables_1[67]? = some (Cond.instantiable "FrameVerifier$Flow" 5) := by decide +kernel
theorem ts_Fr : tables_1[98]? = some (Cond.instantiable "FrameVerifier$Frame" 4) := by decide +kernel
theorem ts_Ma : tables_1[91]? = some (Cond.instantiable "FrameVerifier$Machine" 6) := by decide +kernel
theorem ts_Mo : tables_1[736]? = some (Cond.instantiable "FrameVerifierModel" 27) := by decide +kernel
theorem ta_0 : tables_1[64]? = some (Cond.arrayClass .int) := by decide +kernel
theorem ta_1 : tables_1[65]? = some (Cond.arrayClass .boolean) := by decide +kernel
theorem ta_2 : tables_1[97]? = some (Cond.arrayOver (.object "FrameVerifier$Frame")) := by decide +kernel
theorem ta_3 : tables_1[73]? = some (Cond.arrayOver (.array .int)) := by decide +kernel
theorem ta_4 : tables_1[984]? = some (Cond.arrayClass .long) := by decide +kernel

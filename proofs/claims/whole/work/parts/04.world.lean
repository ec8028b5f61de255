/-! part 04: the two worlds; constants; written by wip/whole/world.py -/
def fuel0 : Nat := 200000
def nm {α β : Type} (a : α) (k : α → β) : β := k a
def mw (σ : mm_M) (k j : Nat) (v : Int32) : mm_M := va_up σ k (upd (σ k) j v)
def mi_n (x y : Int32) : Int32 := if y < x then y else x
def N_C : Nat := 35
def N_M : Nat := 17
def tys (ca : Nat → ClassId) : List (ClassId × FieldType) := [(ca 0, .int), (ca 1, .boolean), (ca 2, .object "FrameVerifier$Frame"), (ca 3, .array .int), (ca 4, .long)]
def op_nm (i : Nat) : String := ["PUSH", "ADD", "SUBTRACT", "MULTIPLY", "DIVIDE", "LOAD", "STORE", "JUMP", "ZERO", "NONE", "MISSING", "NEW", "GET", "PUT", "LENGTH", "TWICE", "EXCHANGE", "DROP", "CALL", "RETURN"].getD i ""
def tr_nm (i : Nat) : String := ["NO_TRAP", "UNFIT", "DIVISION", "MISSING_ARRAY", "OUTSIDE", "FULL"].getD i ""
def op_gives (i : Nat) : Int32 := ([1, 1, 1, 1, 1, 3, 0, 0, 0, 2, 0, 2, 1, 0, 1, 3, 3, 0, 3, 0] : List Int32).getD i 0
def op_behind (i : Nat) : Int32 := ([1, 1, 1, 1, 1, 1, 1, 0, 1, 1, 1, 1, 1, 1, 1, 1, 1, 1, 1, 0] : List Int32).getD i 0
def st_of (i : Nat) : Nat := ([0, 1, 1, 1, 1, 0, 2, 0, 3, 0, 4, 3, 5, 6, 4, 2, 7, 2, 0, 2] : List Nat).getD i 0
def sw_op (i : Nat) : Int32 := ([15, 12, 13, 14, 7, 1, 2, 0, 0, 16, 0, 11, 8, 9, 10, 3, 4, 0, 5, 6] : List Int32).getD i 0
def sw_tr (i : Nat) : Int32 := ([0, 1, 2, 3, 4, 0] : List Int32).getD i 0
def tx_n (i : Nat) : Nat := ([0, 2, 1, 1, 1, 2, 3, 2] : List Nat).getD i 0
def tx_b (i j : Nat) : Int32 := ([[], [105, 105], [97], [105], [114], [114, 105], [114, 105, 105], [97, 97]] : List (List Int32)).getD i [] |>.getD j 0
def st_n (o : Nat) : Nat := tx_n (st_of o)
def st_len (o : Nat) : Int32 := nI (st_n o)
def st_at (o j : Nat) : Int32 := tx_b (st_of o) j
def ce_0 (ca : Nat → ClassId) (b : Nat) (k : Nat) (f : Nat → Int32) : va_E := match k with
  | 0 => .inr (0, [.ref (b + 1), .ref (b + 8), .ref (b + 16), .int (f 3)])
  | 1 => .inr (1, [.int (f 0), .ref (b + 2), .ref (b + 3), .ref (b + 4), .ref (b + 5), .ref (b + 6), .ref (b + 7)])
  | 2 => .inl (ca 0, 100, .inl f)
  | 3 => .inl (ca 0, 100, .inl f)
  | 4 => .inl (ca 1, 4, .inl f)
  | 5 => .inl (ca 0, 4, .inl f)
  | 6 => .inl (ca 0, 4, .inl f)
  | 7 => .inl (ca 0, 4, .inl f)
  | 8 => .inr (2, [.ref (b + 1), .ref (b + 9), .ref (b + 10), .ref (b + 15), .int (f 4)])
  | 9 => .inl (ca 1, 4, .inl f)
  | 10 => .inl (ca 3, 4, .inr (.inr (.inr (.inr (fun j => some (b + (11 + j)))))))
  | 11 => .inl (ca 0, 100, .inl f)
  | 12 => .inl (ca 0, 100, .inl f)
  | 13 => .inl (ca 0, 100, .inl f)
  | 14 => .inl (ca 0, 100, .inl f)
  | 15 => .inl (ca 1, 100, .inl f)
  | 16 => .inr (4, [.int (f 0), .int (f 1), .int (f 2), .ref (b + 1), .ref (b + 18), .ref (b + 17)])
  | 17 => .inl (ca 0, 30, .inl f)
  | _ => .inl (ca 2, 8, .inr (.inr (.inr (.inr (fun j => some (b + (19 + 2 * j)))))))
def ce_C (ca : Nat → ClassId) (b : Nat) (k : Nat) (f : Nat → Int32) : va_E := if k < 19 then ce_0 ca b k f else if (k - 19) % 2 = 0 then .inr (3, [.int (f 0), .int (f 1), .int (f 2), .ref (b + (k + 1))]) else .inl (ca 0, 12, .inl f)
def ce_M (ca : Nat → ClassId) (b : Nat) (k : Nat) (f : Nat → Int32) : va_E := match k with
  | 0 => .inr (5, [.int (f 0), .ref (b + 1), .ref (b + 2), .ref (b + 3), .ref (b + 4), .ref (b + 5), .ref (b + 6), .int (f 7), .ref (b + 7), .ref (b + 8), .ref (b + 9), .int (f 11), .ref (b + 10), .int (f 13), .int (f 14), .int (f 15), .int (f 16), .ref (b + 11), .ref (b + 12), .ref (b + 13), .ref (b + 14), .ref (b + 15), .int (f 22), .ref (b + 16), .int (f 24), .int (f 25), .int (f 26)])
  | 1 => .inl (ca 0, 100, .inl f)
  | 2 => .inl (ca 0, 100, .inl f)
  | 3 => .inl (ca 1, 4, .inl f)
  | 4 => .inl (ca 0, 4, .inl f)
  | 5 => .inl (ca 0, 4, .inl f)
  | 6 => .inl (ca 0, 4, .inl f)
  | 7 => .inl (ca 0, 400, .inl f)
  | 8 => .inl (ca 0, 4800, .inl f)
  | 9 => .inl (ca 1, 400, .inl f)
  | 10 => .inl (ca 0, 12, .inl f)
  | 11 => .inl (ca 0, 8, .inl f)
  | 12 => .inl (ca 0, 8, .inl f)
  | 13 => .inl (ca 0, 8, .inl f)
  | 14 => .inl (ca 0, 96, .inl f)
  | 15 => .inl (ca 0, 96, .inl f)
  | _ => .inl (ca 0, 31, .inl f)
theorem fr_lt {i : Nat} (h : i < 8) : 19 + 2 * i < N_C := by unfold N_C; omega
theorem vl_lt {i : Nat} (h : i < 8) : 20 + 2 * i < N_C := by unfold N_C; omega
theorem rw_lt {i : Nat} (h : i < 4) : 11 + i < N_C := by unfold N_C; omega
theorem ce_fr {ca : Nat → ClassId} {b i : Nat} (_h : i < 8) {f : Nat → Int32} : ce_C ca b (19 + 2 * i) f = .inr (3, [.int (f 0), .int (f 1), .int (f 2), .ref (b + (20 + 2 * i))]) := by
  unfold ce_C
  rw [if_neg (by omega), if_pos (by omega), show 19 + 2 * i + 1 = 20 + 2 * i by omega]
theorem ce_frP {ca : Nat → ClassId} {b i : Nat} (h : i < 8) (j : Nat) (hj : j < 3) {f : Nat → Int32} {v : Int32} : (.inr (3, ([.int (f 0), .int (f 1), .int (f 2), .ref (b + (20 + 2 * i))] : List Value).set j (.int v)) : va_E) = ce_C ca b (19 + 2 * i) (upd f j v) := by
  rw [ce_fr h]
  rcases (show j = 0 ∨ j = 1 ∨ j = 2 by omega) with rfl | rfl | rfl <;> rfl
theorem ce_vl {ca : Nat → ClassId} {b i : Nat} (_h : i < 8) {f : Nat → Int32} : ce_C ca b (20 + 2 * i) f = .inl (ca 0, 12, .inl f) := by
  unfold ce_C
  rw [if_neg (by omega), if_neg (by omega)]
theorem ce_vlA {ca : Nat → ClassId} {b i : Nat} (h : i < 8) : ∀ f : Nat → Int32, ce_C ca b (20 + 2 * i) f = .inl (ca 0, 12, .inl f) := fun _ => ce_vl h
theorem ce_rwA {ca : Nat → ClassId} {b i : Nat} (h : i < 4) : ∀ f : Nat → Int32, ce_C ca b (11 + i) f = .inl (ca 0, 100, .inl f) := by
  intro f
  rcases (show i = 0 ∨ i = 1 ∨ i = 2 ∨ i = 3 by omega) with rfl | rfl | rfl | rfl <;> rfl
theorem ce_rw {ca : Nat → ClassId} {b i : Nat} (h : i < 4) {f : Nat → Int32} : ce_C ca b (11 + i) f = .inl (ca 0, 100, .inl f) := ce_rwA h f
theorem ib {i : Int32} {n : Nat} (h : ¬ (i < 0 ∨ n ≤ i.toNatClampNeg)) : (i.toNatClampNeg) < n := Nat.not_le.mp fun q => h (Or.inr q)
theorem nz_b {v : Int32} (h : v = 0 ∨ v = 1) : narrow .boolean (.int v) = .int v := by rcases h with rfl | rfl <;> rfl
theorem fz_b {v : Int32} (h : v = 0 ∨ v = 1) : fits .boolean (.int v) = true := by rcases h with rfl | rfl <;> rfl
theorem vp_nb {v : Int32} (h : v = 0 ∨ v = 1) : vp_nar .boolean v = v := by rcases h with rfl | rfl <;> rfl
theorem i32_ne {x v : Int32} {n : Int} (h : ¬ x = v) (hv : v.toInt = n) : x.toInt ≠ n := fun q => h (Int32.toInt_inj.mp (by rw [q, hv]))
/-- a place of the locals, wherever the list ends -/
def lo_st : List (Option Value) → Nat → Value → List (Option Value)
  | [], 0, v => [some v]
  | [], n + 1, v => none :: lo_st [] n v
  | _ :: t, 0, v => some v :: t
  | x :: t, n + 1, v => x :: lo_st t n v
theorem lo_st_at : ∀ (L : List (Option Value)) (i : Nat) (v : Value), (lo_st L i v)[i]? = some (some v)
  | [], 0, v => rfl
  | [], n + 1, v => by rw [lo_st, List.getElem?_cons_succ]; exact lo_st_at [] n v
  | _ :: t, 0, v => rfl
  | x :: t, n + 1, v => by rw [lo_st, List.getElem?_cons_succ]; exact lo_st_at t n v
theorem lo_st_ne : ∀ (L : List (Option Value)) (i : Nat) (v : Value) (j : Nat), j ≠ i → ∀ w, (lo_st L i v)[j]? = some (some w) → L[j]? = some (some w)
  | [], 0, v, j, hj, w, h => by
    cases j with
    | zero => exact absurd rfl hj
    | succ j => simp [lo_st] at h
  | [], n + 1, v, j, hj, w, h => by
    cases j with
    | zero => simp [lo_st] at h
    | succ j =>
      rw [lo_st, List.getElem?_cons_succ] at h
      have := lo_st_ne [] n v j (by omega) w h
      simp at this
  | _ :: t, 0, v, j, hj, w, h => by
    cases j with
    | zero => exact absurd rfl hj
    | succ j => rw [lo_st, List.getElem?_cons_succ] at h; rw [List.getElem?_cons_succ]; exact h
  | x :: t, n + 1, v, j, hj, w, h => by
    cases j with
    | zero => rw [lo_st, List.getElem?_cons_zero] at h; rw [List.getElem?_cons_zero]; exact h
    | succ j =>
      rw [lo_st, List.getElem?_cons_succ] at h
      rw [List.getElem?_cons_succ]
      exact lo_st_ne t n v j (by omega) w h
theorem lo_putP {ls ls' : Array Slot} {nL i : Nat} {v : Value} {L : List (Option Value)} (h : lo_ok ls nL L) (hv : v.category = 1) (h2 : lv_has ls' nL ((i, v) :: (lo_li L).filter (fun q => !(q.1 == i) && !(q.1 + 1 == i && q.2.category == 2)))) : lo_ok ls' nL (lo_st L i v) := by
  refine ⟨h2.1, h2.2.1, fun j w hj => ?_⟩
  by_cases hji : j = i
  · subst hji
    rw [lo_st_at] at hj
    cases hj
    exact ⟨hv, h2.2.2 (j, v) List.mem_cons_self⟩
  · have hj := lo_st_ne L i v j hji w hj
    have h1 := (h.2.2 j w hj).1
    refine ⟨h1, h2.2.2 (j, w) (List.mem_cons_of_mem _ (List.mem_filter.mpr ⟨lo_mem.mpr hj, ?_⟩))⟩
    simp [hji, h1]
/-- a static that its class lays, in a cell that is never written -/
def va_Ls (C n d : String) (A : Nat → Prop) (U : State) (H : Heap) : Prop := ∃ (c : ClassId) (k : Class) (i : Nat) (f : Field) (a : Nat) (cell : Cell), U.vm.findClass C = some c ∧ U.fieldFound? C n d = some (c, k, i, f) ∧ f.isStatic = true ∧ k.statics = some a ∧ H[a]? = some cell ∧ cell.vm.isStatics = true ∧ cell.cls = c ∧ f.slot < cell.slots.size ∧ k.staticTypes[f.slot]? = some f.type ∧ ¬ A a
theorem va_Ls.moved {C n d : String} {A : Nat → Prop} {u U : State} {H : Heap} (hvm : u.vm.Alike U.vm) (h : va_Ls C n d A u H) : va_Ls C n d A U H := by
  obtain ⟨c, k, i, f, a, cell, h1, h2, h3, h4, h5, h6, h7, h8, h9, h10⟩ := h
  obtain ⟨k', hi', hek⟩ := State.fieldFound?_setVm hvm h2
  exact ⟨c, k', i, f, a, cell, by rw [hvm.findClass]; exact h1, hi', h3, by rw [hek]; exact h4, h5, h6, h7, h8, by rw [hek]; exact h9, h10⟩
theorem va_Ls.kept {C n d : String} {A : Nat → Prop} {U : State} {H H1 : Heap} (h : va_Ls C n d A U H) (hq : ∀ a : Nat, a < H.size → ¬ A a → H1[a]? = H[a]?) : va_Ls C n d A U H1 := by
  obtain ⟨c, k, i, f, a, cell, h1, h2, h3, h4, h5, h6, h7, h8, h9, h10⟩ := h
  exact ⟨c, k, i, f, a, cell, h1, h2, h3, h4, by rw [hq a (Array.getElem?_eq_some_iff.mp h5).1 h10]; exact h5, h6, h7, h8, h9, h10⟩
theorem va_Ls.narrow {C n d : String} {A B : Nat → Prop} {U : State} {H : Heap} (h : va_Ls C n d A U H) (hAB : ∀ q, B q → A q) : va_Ls C n d B U H := by
  obtain ⟨c, k, i, f, a, cell, h1, h2, h3, h4, h5, h6, h7, h8, h9, h10⟩ := h
  exact ⟨c, k, i, f, a, cell, h1, h2, h3, h4, h5, h6, h7, h8, h9, fun z => h10 (hAB a z)⟩
theorem va_Ls.use {C n d : String} {A : Nat → Prop} {U : State} {args : Array Value} (h : va_Ls C n d A U U.heap) : (Cond.laysStatic C n d).before args U = true := by
  obtain ⟨c, k, i, f, a, cell, h1, h2, h3, h4, h5, h6, h7, h8, h9, h10⟩ := h
  exact Cond.laysStatic_of h1 h2 h3 h4 h5 h6 h7 h8 h9
theorem va_Ls.of {C n d : String} {A : Nat → Prop} {U : State} {args : Array Value} (h : (Cond.laysStatic C n d).before args U = true) (hA : ∀ a : Nat, a < U.heap.size → ¬ A a) : va_Ls C n d A U U.heap := by
  obtain ⟨c, k, i, f, a, cell, h1, h2, h3, h4, h5, h6, h7, h8, h9⟩ := Cond.laysStatic_spec h
  exact ⟨c, k, i, f, a, cell, h1, h2, h3, h4, h5, h6, h7, h8, h9, hA a (Array.getElem?_eq_some_iff.mp h5).1⟩
/-- what is known of the constants -/
def kc_c (ax : Nat → Nat → Nat) (A : Nat → Prop) (U : State) (H : Heap) : Prop :=
  (∀ i, i < 20 → va_Z "FrameVerifier$Op" (op_nm i) "LFrameVerifier$Op;" (.ref (ax 0 i)) A U H ∧ va_O "FrameVerifier$Op" (ax 0 i) A U H ∧ va_OF "java/lang/Enum" "ordinal" "I" (.int (nI i)) (ax 0 i) A U H ∧ va_OF "FrameVerifier$Op" "gives" "I" (.int (op_gives i)) (ax 0 i) A U H ∧ va_OF "FrameVerifier$Op" "goesBehind" "Z" (.int (op_behind i)) (ax 0 i) A U H ∧ va_OF "FrameVerifier$Op" "takes" "Ljava/lang/String;" (.ref (ax 5 (st_of i))) (ax 0 i) A U H) ∧
  (∀ i, i < 6 → va_Z "FrameVerifier$Trap" (tr_nm i) "LFrameVerifier$Trap;" (.ref (ax 1 i)) A U H ∧ va_O "FrameVerifier$Trap" (ax 1 i) A U H ∧ va_OF "java/lang/Enum" "ordinal" "I" (.int (nI i)) (ax 1 i) A U H) ∧
  (∀ i, i < 8 → va_O "java/lang/String" (ax 5 i) A U H ∧ va_OF "java/lang/String" "coder" "B" (.int 0) (ax 5 i) A U H ∧ va_OF "java/lang/String" "value" "[B" (.ref (ax 6 i)) (ax 5 i) A U H ∧ va_T .byte (ax 6 i) (tx_n i) (fun j => .int (tx_b i j)) A U H) ∧
  (va_Z "FrameVerifier" "OPS" "[LFrameVerifier$Op;" (.ref (ax 2 0)) A U H ∧ va_T (.object "FrameVerifier$Op") (ax 2 0) 20 (fun j => .ref (ax 0 j)) A U H) ∧
  (va_Z "FrameVerifier$1" "$SwitchMap$FrameVerifier$Op" "[I" (.ref (ax 3 0)) A U H ∧ va_T .int (ax 3 0) 20 (fun j => .int (sw_op j)) A U H) ∧
  (va_Z "FrameVerifier$1" "$SwitchMap$FrameVerifier$Trap" "[I" (.ref (ax 4 0)) A U H ∧ va_T .int (ax 4 0) 6 (fun j => .int (sw_tr j)) A U H) ∧
  va_Z "java/lang/String" "COMPACT_STRINGS" "Z" (.int 1) A U H ∧ va_Zq "jdk/internal/util/Preconditions" "SIOOBE_FORMATTER" "Ljava/util/function/BiFunction;" A U H ∧ va_Zq "java/lang/Throwable" "UNASSIGNED_STACK" "[Ljava/lang/StackTraceElement;" A U H ∧ va_Zq "java/lang/Throwable" "SUPPRESSED_SENTINEL" "Ljava/util/List;" A U H ∧ va_Ls "java/lang/Throwable" "UNASSIGNED_STACK" "[Ljava/lang/StackTraceElement;" A U H ∧ va_Ls "java/lang/Throwable" "SUPPRESSED_SENTINEL" "Ljava/util/List;" A U H
theorem kc_c.moved {ax : Nat → Nat → Nat} {A : Nat → Prop} {u U : State} {H : Heap} (hvm : u.vm.Alike U.vm) (h : kc_c ax A u H) : kc_c ax A U H := by
  obtain ⟨h1, h2, h3, h4, h5, h6, h7, h8, h9, h10, h11, h12⟩ := h
  exact ⟨fun i hi => ⟨(h1 i hi).1.moved hvm, (h1 i hi).2.1.moved hvm, (h1 i hi).2.2.1.moved hvm, (h1 i hi).2.2.2.1.moved hvm, (h1 i hi).2.2.2.2.1.moved hvm, (h1 i hi).2.2.2.2.2.moved hvm⟩, fun i hi => ⟨(h2 i hi).1.moved hvm, (h2 i hi).2.1.moved hvm, (h2 i hi).2.2.moved hvm⟩, fun i hi => ⟨(h3 i hi).1.moved hvm, (h3 i hi).2.1.moved hvm, (h3 i hi).2.2.1.moved hvm, (h3 i hi).2.2.2.moved hvm⟩, ⟨h4.1.moved hvm, h4.2.moved hvm⟩, ⟨h5.1.moved hvm, h5.2.moved hvm⟩, ⟨h6.1.moved hvm, h6.2.moved hvm⟩, h7.moved hvm, h8.moved hvm, h9.moved hvm, h10.moved hvm, h11.moved hvm, h12.moved hvm⟩
theorem kc_c.kept {ax : Nat → Nat → Nat} {A : Nat → Prop} {U : State} {H H1 : Heap} (h : kc_c ax A U H) (hq : ∀ a : Nat, a < H.size → ¬ A a → H1[a]? = H[a]?) : kc_c ax A U H1 := by
  obtain ⟨h1, h2, h3, h4, h5, h6, h7, h8, h9, h10, h11, h12⟩ := h
  exact ⟨fun i hi => ⟨(h1 i hi).1.kept hq, (h1 i hi).2.1.kept hq, (h1 i hi).2.2.1.kept hq, (h1 i hi).2.2.2.1.kept hq, (h1 i hi).2.2.2.2.1.kept hq, (h1 i hi).2.2.2.2.2.kept hq⟩, fun i hi => ⟨(h2 i hi).1.kept hq, (h2 i hi).2.1.kept hq, (h2 i hi).2.2.kept hq⟩, fun i hi => ⟨(h3 i hi).1.kept hq, (h3 i hi).2.1.kept hq, (h3 i hi).2.2.1.kept hq, (h3 i hi).2.2.2.kept hq⟩, ⟨h4.1.kept hq, h4.2.kept hq⟩, ⟨h5.1.kept hq, h5.2.kept hq⟩, ⟨h6.1.kept hq, h6.2.kept hq⟩, h7.kept hq, h8.kept hq, h9.kept hq, h10.kept hq, h11.kept hq, h12.kept hq⟩
theorem kc_c.narrow {ax : Nat → Nat → Nat} {A B : Nat → Prop} {U : State} {H : Heap} (h : kc_c ax A U H) (hq : ∀ q, B q → A q) : kc_c ax B U H := by
  obtain ⟨h1, h2, h3, h4, h5, h6, h7, h8, h9, h10, h11, h12⟩ := h
  exact ⟨fun i hi => ⟨(h1 i hi).1.narrow hq, (h1 i hi).2.1.narrow hq, (h1 i hi).2.2.1.narrow hq, (h1 i hi).2.2.2.1.narrow hq, (h1 i hi).2.2.2.2.1.narrow hq, (h1 i hi).2.2.2.2.2.narrow hq⟩, fun i hi => ⟨(h2 i hi).1.narrow hq, (h2 i hi).2.1.narrow hq, (h2 i hi).2.2.narrow hq⟩, fun i hi => ⟨(h3 i hi).1.narrow hq, (h3 i hi).2.1.narrow hq, (h3 i hi).2.2.1.narrow hq, (h3 i hi).2.2.2.narrow hq⟩, ⟨h4.1.narrow hq, h4.2.narrow hq⟩, ⟨h5.1.narrow hq, h5.2.narrow hq⟩, ⟨h6.1.narrow hq, h6.2.narrow hq⟩, h7.narrow hq, h8.narrow hq, h9.narrow hq, h10.narrow hq, h11.narrow hq, h12.narrow hq⟩
def ex_up (i : Nat) : String := ["java/lang/RuntimeException", "java/lang/Exception", "java/lang/Throwable"].getD i ""
/-- the exceptions by their numbers; 0: none -/
def ex_nm (i : Nat) : String := ["java/lang/UnsupportedOperationException", "java/lang/UnsupportedOperationException", "java/lang/ArithmeticException", "java/util/NoSuchElementException", "java/lang/IndexOutOfBoundsException", "java/lang/IllegalStateException", "java/lang/IllegalArgumentException"].getD i ""
def kc_n (U : State) : Prop := va_Nw (.fieldLinkNest "FrameVerifier$Code" 35 "FrameVerifier" "OPS" "[LFrameVerifier$Op;" "FrameVerifier") U ∧ va_Nw (.methodLinkNest "FrameVerifier$Code" 109 ⟨"FrameVerifier", "isLocal", "(I)Z"⟩ "FrameVerifier") U ∧ (∀ i, i < 3 → va_Nw (.declares ⟨ex_up i, "<init>", "()V"⟩) U) ∧ ∀ i, i < 7 → va_Nw (.castable (ex_nm i) (ex_nm i)) U
def kC (D : va_G) (ca : Nat → ClassId) (ax : Nat → Nat → Nat) (b : Nat) (U : State) : Prop := va_K D cls (tys ca) U ∧ kc_c ax (mm_A b N_C) U U.heap ∧ kc_n U
def kM (D : va_G) (ca : Nat → ClassId) (_ax : Nat → Nat → Nat) (_b : Nat) (U : State) : Prop := va_K D cls (tys ca) U ∧ True
theorem kC_ok {D : va_G} {ca : Nat → ClassId} {ax : Nat → Nat → Nat} {b : Nat} : kk_ok b N_C (kC D ca ax b) := by
  refine ⟨fun u U h hW hq => ⟨va_K.moved hW.alike h.1, (h.2.1.moved hW.alike).kept hq, va_Nw.warmF hW h.2.2.1, va_Nw.warmM hW h.2.2.2.1, fun i hi => va_Nw.warmD hW (h.2.2.2.2.1 i hi), fun i hi => va_Nw.warmC hW (h.2.2.2.2.2 i hi)⟩, fun U g mk a h => ⟨va_K.moved (u := U) (U := U.calling g mk a) (Vm.Alike.refl U.vm) h.1, kc_c.moved (u := U) (U := U.calling g mk a) (Vm.Alike.refl U.vm) h.2.1, va_Nw.same rfl (rfl : U.vm = (U.calling g mk a).vm) h.2.2.1, va_Nw.same rfl (rfl : U.vm = (U.calling g mk a).vm) h.2.2.2.1, fun i hi => va_Nw.same rfl (rfl : U.vm = (U.calling g mk a).vm) (h.2.2.2.2.1 i hi), fun i hi => va_Nw.same rfl (rfl : U.vm = (U.calling g mk a).vm) (h.2.2.2.2.2 i hi)⟩⟩
theorem kM_ok {D : va_G} {ca : Nat → ClassId} {ax : Nat → Nat → Nat} {b : Nat} : kk_ok b N_M (kM D ca ax b) :=
  ⟨fun u U h hW hq => ⟨va_K.moved hW.alike h.1, trivial⟩, fun U g mk a h => ⟨va_K.moved (u := U) (U := U.calling g mk a) (Vm.Alike.refl U.vm) h.1, trivial⟩⟩
section VV5
variable {Res : Type} {p : Program} {l : Launch} {e : Env} {R : Room} {s : State} {m : MethodId} {args : Array Value} {below : List Frame} {meth : Method} {c : Code} {D : va_G} {cl : List vw_C} {b N : Nat} {ce : Nat → (Nat → Int32) → va_E} {nL : Nat} {Q : State → Prop} {fin : Res} {k A B : Option Res} {σ : mm_M} {pc : Nat} {L L2 : List (Option Value)} {rest : List Value} {cc : ByteArray} {Ts : List Cond} {own : String}
theorem v_istore_nP (S : CallFix p m c cc nL s args Ts own) {q : Fin 4} {i : Nat} {x : Int32} (d : decode cc pc = .ok (.istore_n q, 1)) (hi : (q : Nat) = i) (hn : i < nL) (hL : lo_st L i (.int x) = L2)
    (kk : vv p l e R s m args below meth c D cl b N ce nL Q fin k σ (pc + 1) L2 rest) : vv p l e R s m args below meth c D cl b N ce nL Q fin k σ pc L (.int x :: rest) := fun hk H locs ls hl hP hS => lv_istore_n S.1 S.2.1 d hi (lo_has hl) hn rfl (fun ls' h2 => kk hk H locs ls' (hL ▸ lo_putP hl rfl h2) hP hS)
theorem v_istoreP (S : CallFix p m c cc nL s args Ts own) {i : Nat} {x : Int32} (d : decode cc pc = .ok (.istore i, 2)) (hn : i < nL) (hL : lo_st L i (.int x) = L2)
    (kk : vv p l e R s m args below meth c D cl b N ce nL Q fin k σ (pc + 2) L2 rest) : vv p l e R s m args below meth c D cl b N ce nL Q fin k σ pc L (.int x :: rest) := fun hk H locs ls hl hP hS => lv_istore S.1 S.2.1 d (lo_has hl) hn rfl (fun ls' h2 => kk hk H locs ls' (hL ▸ lo_putP hl rfl h2) hP hS)
theorem v_astore_nP (S : CallFix p m c cc nL s args Ts own) {q : Fin 4} {i : Nat} {x : Nat} (d : decode cc pc = .ok (.astore_n q, 1)) (hi : (q : Nat) = i) (hn : i < nL) (hL : lo_st L i (.ref x) = L2)
    (kk : vv p l e R s m args below meth c D cl b N ce nL Q fin k σ (pc + 1) L2 rest) : vv p l e R s m args below meth c D cl b N ce nL Q fin k σ pc L (.ref x :: rest) := fun hk H locs ls hl hP hS => lv_astore_n S.1 S.2.1 d hi (lo_has hl) hn rfl (fun ls' h2 => kk hk H locs ls' (hL ▸ lo_putP hl rfl h2) hP hS)
theorem v_astoreP (S : CallFix p m c cc nL s args Ts own) {i : Nat} {x : Nat} (d : decode cc pc = .ok (.astore i, 2)) (hn : i < nL) (hL : lo_st L i (.ref x) = L2)
    (kk : vv p l e R s m args below meth c D cl b N ce nL Q fin k σ (pc + 2) L2 rest) : vv p l e R s m args below meth c D cl b N ce nL Q fin k σ pc L (.ref x :: rest) := fun hk H locs ls hl hP hS => lv_astore S.1 S.2.1 d (lo_has hl) hn rfl (fun ls' h2 => kk hk H locs ls' (hL ▸ lo_putP hl rfl h2) hP hS)
theorem v_top {x : Int32} {kf : Int32 → Option Res} (kk : ∀ z : Int32, z = x → vv p l e R s m args below meth c D cl b N ce nL Q fin (kf z) σ pc L (.int z :: rest)) : vv p l e R s m args below meth c D cl b N ce nL Q fin (nm x kf) σ pc L (.int x :: rest) := kk x rfl
theorem v_sg {kf : mm_M → Option Res} (kk : ∀ z : mm_M, z = σ → vv p l e R s m args below meth c D cl b N ce nL Q fin (kf z) z pc L rest) : vv p l e R s m args below meth c D cl b N ce nL Q fin (nm σ kf) σ pc L rest := kk σ rfl
theorem v_guard {c' : Prop} (hd : Decidable c') (kk : c' → vv p l e R s m args below meth c D cl b N ce nL Q fin k σ pc L rest) : vv p l e R s m args below meth c D cl b N ce nL Q fin (@ite _ c' hd k none) σ pc L rest := fun hk H locs ls hl hP hS => by
  by_cases h : c'
  · rw [if_pos h] at hk
    exact kk h hk H locs ls hl hP hS
  · rw [if_neg h] at hk
    cases hk
theorem v_puti (S : CallFix p m c cc nL s args Ts own) {ref C : String} {T : u_T} {Nf ci index : Nat} {tys : List (ClassId × FieldType)} (hin : ∀ w ∈ u_ws C T Nf, w ∈ Ts) (hK : va_K D cl tys s) (kq : Nat) (hkq : kq < N) {fs : List Value} (hce : ce kq (σ kq) = .inr (ci, fs)) (hc : cl[ci]? = some (C, T, Nf)) (j : Nat) (hj : j < Nf) (hlink : (Cond.fieldLink own index ref (T j).2.1 (T j).2.2.1).before args s = true) (hsame : ∀ x, s.fieldFound? (T j).1 (T j).2.1 (T j).2.2.1 = some x → s.fieldFound? ref (T j).2.1 (T j).2.2.1 = some x) (ty0 : Nat → FieldType) (hty : ∀ k, k < Nf → parseFieldDescriptor (T k).2.2.1 = some (ty0 k)) (hnm : ∀ a, a < Nf → ∀ b, b < Nf → a ≠ b → (T a).2.1 ≠ (T b).2.1) (hfin : (T j).2.2.2 = false) {ty : FieldType} {x : Int32} (hd : parseFieldDescriptor (T j).2.2.1 = some ty) (hn : narrow ty (.int x) = .int x) (hfit : fits ty (.int x) = true) (hl0 : j < fs.length) (he : .inr (ci, fs.set j (.int x)) = ce kq (upd (σ kq) j x)) (d : decode cc pc = .ok (.putfield index, 3))
    (kk : vv p l e R s m args below meth c D cl b N ce nL Q fin k (mw σ kq j x) (pc + 3) L rest) : vv p l e R s m args below meth c D cl b N ce nL Q fin k σ pc L (.int x :: .ref (b + kq) :: rest) := v_put S hin hK kq hkq hce hc j hj hlink hsame ty0 hty hnm hfin hd hn hfit hl0 _ he d kk
theorem v_iast1 (S : CallFix p m c cc nL s args Ts own) {tys : List (ClassId × FieldType)} (hK : va_K D cl tys s) (kq t0 : Nat) (hkq : kq < N) {cA : ClassId} {n : Nat} (hce : ∀ f, ce kq f = .inl (cA, n, .inl f)) (ht : tys[t0]? = some (cA, .int)) {i x : Int32} (d : decode cc pc = .ok (.iastore, 1))
    (kk : ¬ (i < 0 ∨ n ≤ i.toNatClampNeg) → vv p l e R s m args below meth c D cl b N ce nL Q fin k (mw σ kq i.toNatClampNeg x) (pc + 1) L rest) : vv p l e R s m args below meth c D cl b N ce nL Q fin (if (i < 0 ∨ n ≤ i.toNatClampNeg) then none else k) σ pc L (.int x :: .int i :: .ref (b + kq) :: rest) := v_iast S hK kq t0 hkq hce ht d kk
theorem v_zast1 (S : CallFix p m c cc nL s args Ts own) {tys : List (ClassId × FieldType)} (hK : va_K D cl tys s) (kq t0 : Nat) (hkq : kq < N) {cA : ClassId} {n : Nat} (hce : ∀ f, ce kq f = .inl (cA, n, .inl f)) (ht : tys[t0]? = some (cA, .boolean)) {i x : Int32} (hx : x = 0 ∨ x = 1) (d : decode cc pc = .ok (.bastore, 1))
    (kk : ¬ (i < 0 ∨ n ≤ i.toNatClampNeg) → vv p l e R s m args below meth c D cl b N ce nL Q fin k (mw σ kq i.toNatClampNeg x) (pc + 1) L rest) : vv p l e R s m args below meth c D cl b N ce nL Q fin (if (i < 0 ∨ n ≤ i.toNatClampNeg) then none else k) σ pc L (.int x :: .int i :: .ref (b + kq) :: rest) := v_zast S hK kq t0 hkq hce ht d (fun h => by rw [vp_nb hx]; exact kk h)
theorem v_aald (S : CallFix p m c cc nL s args Ts own) {tys : List (ClassId × FieldType)} (hK : va_K D cl tys s) (kq t0 : Nat) (hkq : kq < N) {cA : ClassId} {n : Nat} {ty : FieldType} {g : Nat → Nat} (hce : ce kq (σ kq) = .inl (cA, n, .inr (.inr (.inr (.inr (fun j => some (g j))))))) (ht : tys[t0]? = some (cA, ty)) (hr : ty.isReference = true) {i : Int32} (d : decode cc pc = .ok (.aaload, 1))
    (kk : ¬ (i < 0 ∨ n ≤ i.toNatClampNeg) → vv p l e R s m args below meth c D cl b N ce nL Q fin k σ (pc + 1) L (.ref (g i.toNatClampNeg) :: rest)) : vv p l e R s m args below meth c D cl b N ce nL Q fin (if (i < 0 ∨ n ≤ i.toNatClampNeg) then none else k) σ pc L (.int i :: .ref (b + kq) :: rest) := fun hk H locs ls hl hP hS => by
  by_cases h : (i < 0 ∨ n ≤ i.toNatClampNeg)
  · rw [if_pos h] at hk; cases hk
  · rw [if_neg h] at hk
    have hlt : i.toNatClampNeg < n := Nat.not_le.mp fun q => h (Or.inr q)
    exact W.aald (v := .ref (g i.toNatClampNeg)) (ty := ty) S.1 S.2.1 (hP kq (b + kq, .inl (cA, n, .inr (.inr (.inr (.inr (fun j => some (g j))))))) (by rw [mm_get hkq, hce])) ((hK.2 t0 _ ht).1 n (fun j => .ref (g j))) hr (fun q => by cases q) (by show ¬ (i < 0 ∨ (arrV _ _ _).slots.size ≤ _); rw [arrV_size]; exact h) (by show (arrV _ _ _).slots[_]? = _; rw [arrV_read _ _ hlt]; rfl) rfl rfl d (kk h hk H locs ls hl hP hS)
theorem v_gets (S : CallFix p m c cc nL s args Ts own) {C n d0 ref : String} {v : Value} {index : Nat} (hZ : va_Z C n d0 v (mm_A b N) s s.heap) (hlink : (Cond.fieldLink own index ref n d0).before args s = true) (hsame : ∀ x, s.fieldFound? C n d0 = some x → s.fieldFound? ref n d0 = some x) (d : decode cc pc = .ok (.getstatic index, 3))
    (kk : vv p l e R s m args below meth c D cl b N ce nL Q fin k σ (pc + 3) L (v :: rest)) : vv p l e R s m args below meth c D cl b N ce nL Q fin k σ pc L rest := fun hk H locs ls hl hP hS => va_gets S.1 S.2.1 hZ hS S.2.2.2.1 hlink hsame d (kk hk H locs ls hl hP hS)
theorem v_getsN (S : CallFix p m c cc nL s args Ts own) {C n d0 ref host : String} {v : Value} {index : Nat} (hZ : va_Z C n d0 v (mm_A b N) s s.heap) (hlink : (Cond.fieldLinkNest own index ref n d0 host).before args s = true) (hsame : ∀ x, s.fieldFound? C n d0 = some x → s.fieldFound? ref n d0 = some x) (d : decode cc pc = .ok (.getstatic index, 3))
    (kk : vv p l e R s m args below meth c D cl b N ce nL Q fin k σ (pc + 3) L (v :: rest)) : vv p l e R s m args below meth c D cl b N ce nL Q fin k σ pc L rest := fun hk H locs ls hl hP hS => va_getsN S.1 S.2.1 hZ hS S.2.2.2.1 hlink hsame d (kk hk H locs ls hl hP hS)
theorem v_ti0 (S : CallFix p m c cc nL s args Ts own) {t n : Nat} {f : Nat → Int32} (hT : va_T .int t n (fun j => .int (f j)) (mm_A b N) s s.heap) {i : Int32} (d : decode cc pc = .ok (.iaload, 1))
    (kk : ¬ (i < 0 ∨ n ≤ i.toNatClampNeg) → vv p l e R s m args below meth c D cl b N ce nL Q fin k σ (pc + 1) L (.int (f i.toNatClampNeg) :: rest)) : vv p l e R s m args below meth c D cl b N ce nL Q fin (if (i < 0 ∨ n ≤ i.toNatClampNeg) then none else k) σ pc L (.int i :: .ref t :: rest) := fun hk H locs ls hl hP hS => by
  by_cases h : (i < 0 ∨ n ≤ i.toNatClampNeg)
  · rw [if_pos h] at hk; cases hk
  · rw [if_neg h] at hk
    exact va_ti S.1 S.2.1 hT hS h rfl d (kk h hk H locs ls hl hP hS)
theorem v_of (S : CallFix p m c cc nL s args Ts own) {o n d0 ref : String} {index q : Nat} {v : Value} (hE : va_OF o n d0 v q (mm_A b N) s s.heap) (hlink : (Cond.fieldLink own index ref n d0).before args s = true) (hsame : ∀ x, s.fieldFound? o n d0 = some x → s.fieldFound? ref n d0 = some x) (d : decode cc pc = .ok (.getfield index, 3))
    (kk : vv p l e R s m args below meth c D cl b N ce nL Q fin k σ (pc + 3) L (v :: rest)) : vv p l e R s m args below meth c D cl b N ce nL Q fin k σ pc L (.ref q :: rest) := fun hk H locs ls hl hP hS => vk_getf S.1 S.2.1 hE hS S.2.2.2.1 hlink hsame d (kk hk H locs ls hl hP hS)
theorem v_tlen (S : CallFix p m c cc nL s args Ts own) {t n : Nat} {ty : FieldType} {f : Nat → Value} (hT : va_T ty t n f (mm_A b N) s s.heap) {v : Int32} (hv : Int32.ofNat n = v) (d : decode cc pc = .ok (.arraylength, 1))
    (kk : vv p l e R s m args below meth c D cl b N ce nL Q fin k σ (pc + 1) L (.int v :: rest)) : vv p l e R s m args below meth c D cl b N ce nL Q fin k σ pc L (.ref t :: rest) := fun hk H locs ls hl hP hS => va_tlen S.1 S.2.1 hT hS hv d (kk hk H locs ls hl hP hS)
theorem v_ta (S : CallFix p m c cc nL s args Ts own) {t n : Nat} {ty : FieldType} {g : Nat → Nat} (hT : va_T ty t n (fun j => .ref (g j)) (mm_A b N) s s.heap) (hr : ty.isReference = true) {i : Int32} (d : decode cc pc = .ok (.aaload, 1))
    (kk : ¬ (i < 0 ∨ n ≤ i.toNatClampNeg) → vv p l e R s m args below meth c D cl b N ce nL Q fin k σ (pc + 1) L (.ref (g i.toNatClampNeg) :: rest)) : vv p l e R s m args below meth c D cl b N ce nL Q fin (if (i < 0 ∨ n ≤ i.toNatClampNeg) then none else k) σ pc L (.int i :: .ref t :: rest) := fun hk H locs ls hl hP hS => by
  by_cases h : (i < 0 ∨ n ≤ i.toNatClampNeg)
  · rw [if_pos h] at hk; cases hk
  · rw [if_neg h] at hk
    obtain ⟨cell, h1, h2, h3, h4, h5, h6, h7⟩ := hT
    have hlt : i.toNatClampNeg < n := Nat.not_le.mp fun q => h (Or.inr q)
    exact W.aald (v := .ref (g i.toNatClampNeg)) (ty := ty) S.1 S.2.1 (by rw [hS.2.1 t (Array.getElem?_eq_some_iff.mp h1).1 h7]; exact h1) h2 hr h3 (fun q => by rcases q with q | q; exact h (Or.inl q); omega) (h6 _ hlt) rfl rfl d (kk h hk H locs ls hl hP hS)
theorem v_acmp_eq (S : CallFix p m c cc nL s args Ts own) {ad : Nat → Nat} {x y : Nat} {off : Int} {tgt : Nat} (d : decode cc pc = .ok (.if_acmp .eq off, 3)) (ht : (pc : Int) + off = (tgt : Int)) (hi : ad x = ad y → x = y) (kt : x = y → vv p l e R s m args below meth c D cl b N ce nL Q fin A σ tgt L rest) (kf : ¬ x = y → vv p l e R s m args below meth c D cl b N ce nL Q fin B σ (pc + 3) L rest) : vv p l e R s m args below meth c D cl b N ce nL Q fin (if x = y then A else B) σ pc L (.ref (ad y) :: .ref (ad x) :: rest) := fun hk H locs ls hl hP hS =>
  lv_acmp_eq (rx := some (ad x)) (ry := some (ad y)) S.1 S.2.1 d ht (fun h => kt (hi (Option.some.inj h)) (by rw [if_pos (hi (Option.some.inj h))] at hk; exact hk) H locs ls hl hP hS) (fun h => kf (fun q => h (by rw [q])) (by rw [if_neg (fun q => h (by rw [q]))] at hk; exact hk) H locs ls hl hP hS)
theorem v_acmp_ne (S : CallFix p m c cc nL s args Ts own) {ad : Nat → Nat} {x y : Nat} {off : Int} {tgt : Nat} (d : decode cc pc = .ok (.if_acmp .ne off, 3)) (ht : (pc : Int) + off = (tgt : Int)) (hi : ad x = ad y → x = y) (kt : ¬ x = y → vv p l e R s m args below meth c D cl b N ce nL Q fin B σ tgt L rest) (kf : x = y → vv p l e R s m args below meth c D cl b N ce nL Q fin A σ (pc + 3) L rest) : vv p l e R s m args below meth c D cl b N ce nL Q fin (if x = y then A else B) σ pc L (.ref (ad y) :: .ref (ad x) :: rest) := fun hk H locs ls hl hP hS =>
  lv_acmp_ne (rx := some (ad x)) (ry := some (ad y)) S.1 S.2.1 d ht (fun h => kt (fun q => h (by rw [q])) (by rw [if_neg (fun q => h (by rw [q]))] at hk; exact hk) H locs ls hl hP hS) (fun h => kf (hi (Option.some.inj h)) (by rw [if_pos (hi (Option.some.inj h))] at hk; exact hk) H locs ls hl hP hS)
theorem v_tswQ (S : CallFix p m c cc nL s args Ts own) {dflt lo hi : Int} {offs : Array Int} {len : Nat} {x : Int32} (v : Int32) {off : Int} {tgt : Nat} (d : decode cc pc = .ok (.tableswitch dflt lo hi offs, len)) (h1 : ¬ v.toInt < lo) (h2 : ¬ hi < v.toInt) (ho : offs[(v.toInt - lo).toNat]? = some off) (ht : (pc : Int) + off = (tgt : Int))
    (kt : vv p l e R s m args below meth c D cl b N ce nL Q fin k σ tgt L rest) (kf : ¬ x = v → vv p l e R s m args below meth c D cl b N ce nL Q fin k σ pc L (.int x :: rest)) : vv p l e R s m args below meth c D cl b N ce nL Q fin k σ pc L (.int x :: rest) := fun hk H locs ls hl hP hS => by
  by_cases h : x = v
  · subst h
    exact lv_tableIn S.1 S.2.1 d h1 h2 ho ht (kt hk H locs ls hl hP hS)
  · exact kf h hk H locs ls hl hP hS
theorem v_tb0 (S : CallFix p m c cc nL s args Ts own) {t n : Nat} {f : Nat → Int32} (hT : va_T .byte t n (fun j => .int (f j)) (mm_A b N) s s.heap) {i : Int32} (h : ¬ (i < 0 ∨ n ≤ i.toNatClampNeg)) (d : decode cc pc = .ok (.baload, 1))
    (kk : vv p l e R s m args below meth c D cl b N ce nL Q fin k σ (pc + 1) L (.int (f i.toNatClampNeg) :: rest)) : vv p l e R s m args below meth c D cl b N ce nL Q fin k σ pc L (.int i :: .ref t :: rest) := fun hk H locs ls hl hP hS => va_tb S.1 S.2.1 hT hS h rfl d (kk hk H locs ls hl hP hS)
theorem v_i2c (S : CallFix p m c cc nL s args Ts own) {x v : Int32} (d : decode cc pc = .ok (.i2c, 1)) (hv : (x.toUInt32 % 65536).toInt32 = v)
    (kk : vv p l e R s m args below meth c D cl b N ce nL Q fin k σ (pc + 1) L (.int v :: rest)) : vv p l e R s m args below meth c D cl b N ce nL Q fin k σ pc L (.int x :: rest) := fun hk H locs ls hl hP hS => lv_i2c S.1 S.2.1 d hv (kk hk H locs ls hl hP hS)
theorem v_xret {ty : FieldType} {r xv : Int32} {σ' : mm_M} (S : CallFix p m c cc nL s args Ts own) (hr : meth.sig.returnType = some ty) (hn : narrow ty (.int xv) = .int xv) (hlocks : meth.locks = false) (d : decode cc pc = .ok (.ireturn, 1)) : vv p l e R s m args below meth c D cl b N ce nL (MQ below (qc_i D cl b N ce r σ') args s 0 0 (mm_A b N)) (r, σ') (some (xv, σ)) σ pc L [.int xv] := fun hk H locs ls hl hP hS =>
  W.zret S.1 S.2.1 hr hn (fun t ht hW => ⟨⟨xv, σ, rfl, ⟨congrArg Prod.fst (Option.some.inj hk), congrArg Prod.snd (Option.some.inj hk)⟩, by show mm_P D cl b N ce σ t.heap; rw [ht]; exact hP⟩, hS.F ht⟩) hS.2.2 d hlocks
theorem v_min (S : CallFix p m c cc nL s args Ts own) {index : Nat} (hlink : (Cond.methodLink own index Lib.Math.min.name).before args s = true) (hstat : (Cond.static Lib.Math.min.name).before args s = true) (hini : (Cond.initialized "java/lang/Math").before args s = true) (hcode : (Cond.code Lib.Math.min.name Lib.Math.min.code 2 (some .int)).before args s = true) (hframes : 1 ≤ R.frames) (hlocals : (rest.map fun v => v.category).sum + 13 ≤ R.locals) {x y : Int32} (d : decode cc pc = .ok (.invokestatic index, 3))
    (kk : vv p l e R s m args below meth c D cl b N ce nL Q fin k σ (pc + 3) L (.int (mi_n x y) :: rest)) : vv p l e R s m args below meth c D cl b N ce nL Q fin k σ pc L (.int y :: .int x :: rest) := fun hk H locs ls hl hP hS => va_mmin S.1 S.2.1 (S.2.2.1.trans hl.1.symm) S.2.2.2.1 hlink hstat hini hcode hframes hlocals (Nat.zero_le _) (Nat.zero_le _) d (kk hk H locs ls hl hP hS)
end VV5
section VV6
variable {D : va_G} {ca : Nat → ClassId} {ax : Nat → Nat → Nat} {b : Nat} {s : State}
theorem va_OF.inj {o n d : String} {v w : Value} {t : Nat} {A : Nat → Prop} {U : State} {H : Heap} (h1 : va_OF o n d v t A U H) (h2 : va_OF o n d w t A U H) : v = w := by
  obtain ⟨cf, k, i, f, cell, a1, a2, a3, a4, a5, a6⟩ := h1
  obtain ⟨cf', k', i', f', cell', b1, b2, b3, b4, b5, b6⟩ := h2
  cases a1.symm.trans b1
  cases a3.symm.trans b3
  exact Option.some.inj (a5.symm.trans b5)
theorem op_inj (h : kC D ca ax b s) {i j : Nat} (hi : i < 20) (hj : j < 20) (e : ax 0 i = ax 0 j) : i = j := by
  have h1 := (h.2.1.1 i hi).2.2.1
  have h2 := (h.2.1.1 j hj).2.2.1
  rw [e] at h1
  exact (nI_eq (by omega) (by omega)).mp (Value.int.inj (h1.inj h2))
theorem tr_inj (h : kC D ca ax b s) {i j : Nat} (hi : i < 6) (hj : j < 6) (e : ax 1 i = ax 1 j) : i = j := by
  have h1 := (h.2.1.2.1 i hi).2.2
  have h2 := (h.2.1.2.1 j hj).2.2
  rw [e] at h1
  exact (nI_eq (by omega) (by omega)).mp (Value.int.inj (h1.inj h2))
theorem kc_zO (h : kC D ca ax b s) {i : Nat} (hi : i < 20) : va_Z "FrameVerifier$Op" (op_nm i) "LFrameVerifier$Op;" (.ref (ax 0 i)) (mm_A b N_C) s s.heap := (h.2.1.1 i hi).1
theorem kc_zT (h : kC D ca ax b s) {i : Nat} (hi : i < 6) : va_Z "FrameVerifier$Trap" (tr_nm i) "LFrameVerifier$Trap;" (.ref (ax 1 i)) (mm_A b N_C) s s.heap := (h.2.1.2.1 i hi).1
theorem kc_fG (h : kC D ca ax b s) {i : Nat} (hi : i < 20) : va_OF "FrameVerifier$Op" "gives" "I" (.int (op_gives i)) (ax 0 i) (mm_A b N_C) s s.heap := (h.2.1.1 i hi).2.2.2.1
theorem kc_fB (h : kC D ca ax b s) {i : Nat} (hi : i < 20) : va_OF "FrameVerifier$Op" "goesBehind" "Z" (.int (op_behind i)) (ax 0 i) (mm_A b N_C) s s.heap := (h.2.1.1 i hi).2.2.2.2.1
theorem kc_fT (h : kC D ca ax b s) {i : Nat} (hi : i < 20) : va_OF "FrameVerifier$Op" "takes" "Ljava/lang/String;" (.ref (ax 5 (st_of i))) (ax 0 i) (mm_A b N_C) s s.heap := (h.2.1.1 i hi).2.2.2.2.2
theorem kc_zOps (h : kC D ca ax b s) : va_Z "FrameVerifier" "OPS" "[LFrameVerifier$Op;" (.ref (ax 2 0)) (mm_A b N_C) s s.heap := h.2.1.2.2.2.1.1
theorem kc_tOps (h : kC D ca ax b s) : va_T (.object "FrameVerifier$Op") (ax 2 0) 20 (fun j => .ref (ax 0 j)) (mm_A b N_C) s s.heap := h.2.1.2.2.2.1.2
theorem kc_zOp (h : kC D ca ax b s) : va_Z "FrameVerifier$1" "$SwitchMap$FrameVerifier$Op" "[I" (.ref (ax 3 0)) (mm_A b N_C) s s.heap := h.2.1.2.2.2.2.1.1
theorem kc_swOp (h : kC D ca ax b s) : va_T .int (ax 3 0) 20 (fun j => .int (sw_op j)) (mm_A b N_C) s s.heap := h.2.1.2.2.2.2.1.2
theorem kc_zTr (h : kC D ca ax b s) : va_Z "FrameVerifier$1" "$SwitchMap$FrameVerifier$Trap" "[I" (.ref (ax 4 0)) (mm_A b N_C) s s.heap := h.2.1.2.2.2.2.2.1.1
theorem kc_swTr (h : kC D ca ax b s) : va_T .int (ax 4 0) 6 (fun j => .int (sw_tr j)) (mm_A b N_C) s s.heap := h.2.1.2.2.2.2.2.1.2
theorem kc_cs (h : kC D ca ax b s) : va_Z "java/lang/String" "COMPACT_STRINGS" "Z" (.int 1) (mm_A b N_C) s s.heap := h.2.1.2.2.2.2.2.2.1
theorem kc_sf (h : kC D ca ax b s) : va_Zq "jdk/internal/util/Preconditions" "SIOOBE_FORMATTER" "Ljava/util/function/BiFunction;" (mm_A b N_C) s s.heap := h.2.1.2.2.2.2.2.2.2.1
theorem kc_us (h : kC D ca ax b s) : va_Zq "java/lang/Throwable" "UNASSIGNED_STACK" "[Ljava/lang/StackTraceElement;" (mm_A b N_C) s s.heap := h.2.1.2.2.2.2.2.2.2.2.1
theorem kc_se (h : kC D ca ax b s) : va_Zq "java/lang/Throwable" "SUPPRESSED_SENTINEL" "Ljava/util/List;" (mm_A b N_C) s s.heap := h.2.1.2.2.2.2.2.2.2.2.2.1
theorem kc_lu (h : kC D ca ax b s) : va_Ls "java/lang/Throwable" "UNASSIGNED_STACK" "[Ljava/lang/StackTraceElement;" (mm_A b N_C) s s.heap := h.2.1.2.2.2.2.2.2.2.2.2.2.1
theorem kc_ls (h : kC D ca ax b s) : va_Ls "java/lang/Throwable" "SUPPRESSED_SENTINEL" "Ljava/util/List;" (mm_A b N_C) s s.heap := h.2.1.2.2.2.2.2.2.2.2.2.2.2
theorem kc_st (h : kC D ca ax b s) {i : Nat} (hi : i < 8) : va_O "java/lang/String" (ax 5 i) (mm_A b N_C) s s.heap ∧ va_OF "java/lang/String" "coder" "B" (.int 0) (ax 5 i) (mm_A b N_C) s s.heap ∧ va_OF "java/lang/String" "value" "[B" (.ref (ax 6 i)) (ax 5 i) (mm_A b N_C) s s.heap ∧ va_T .byte (ax 6 i) (tx_n i) (fun j => .int (tx_b i j)) (mm_A b N_C) s s.heap := h.2.1.2.2.1 i hi
theorem rc_o {E : String} {t : Nat} {N : Nat} {H : Heap} {locs : List Loc} (h : va_O E t (mm_A b N) s s.heap) (hS : va_S (mm_A b N) s.heap H locs) : ∃ cellB : Cell, H[t]? = some cellB ∧ cellB.vm.isStatics = false ∧ s.vm.findClass E = some cellB.cls := va_Orecv h hS
theorem rc_op (h : kC D ca ax b s) {i : Nat} (hi : i < 20) {H : Heap} {locs : List Loc} (hS : va_S (mm_A b N_C) s.heap H locs) : ∃ cellB : Cell, H[ax 0 i]? = some cellB ∧ cellB.vm.isStatics = false ∧ s.vm.findClass "FrameVerifier$Op" = some cellB.cls := rc_o (h.2.1.1 i hi).2.1 hS
theorem st_lt {o : Nat} (h : o < 20) : st_of o < 8 := (show ∀ o, o < 20 → st_of o < 8 by decide) o h
theorem tx_lt : ∀ k, k < 8 → tx_n k < 4 := by decide
theorem tx_c : ∀ k, k < 8 → ∀ j, j < tx_n k → ((tx_b k j &&& 255).toUInt32 % 65536).toInt32 = tx_b k j := by decide +kernel
theorem tx_nc : ∀ k, k < 8 → ∀ j, j < tx_n k → narrow .char (.int (tx_b k j)) = .int (tx_b k j) := by decide +kernel
end VV6

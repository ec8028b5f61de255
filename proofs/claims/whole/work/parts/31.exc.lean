/-! part 31: the throw itself; rows of vv for methods that may throw -/
def ex_at (nm : String) (sz : Nat) (a : Addr) (t : State) : Prop := sz ≤ a ∧ ∃ (cell : Cell) (k : Class), t.heap[a]? = some cell ∧ (∀ q, cell.vm ≠ .statics q) ∧ t.vm.classes[cell.cls]? = some k ∧ t.vm.findClass nm = some cell.cls
/-- the end of a method that may throw: x = 0: it came back with r; else it threw the exception number x -/
def qc_x (D : va_G) (cl : List vw_C) (b N : Nat) (ce : Nat → (Nat → Int32) → va_E) (vf : Int32 → Option Value) (x : Nat) (r : Int32) (σ' : mm_M) : Array Value → State → Outcome → State → Prop := fun _ st o t =>
  ((x = 0 ∧ o = .returned (vf r) ∧ t.heap.size = st.heap.size) ∨ (x ≠ 0 ∧ ∃ a, o = .threw a ∧ ex_at (ex_nm x) st.heap.size a t)) ∧ mm_P D cl b N ce σ' t.heap ∧ va_F (mm_A b N) st t
def bx {β : Type} (o : Option (Nat × Int32 × mm_M)) (z : Nat → mm_M → Option β) (k : Int32 → mm_M → Option β) : Option β := match o with
  | none => none
  | some (0, r, σ) => k r σ
  | some (x + 1, _, σ) => z (x + 1) σ
theorem zq_ref {C n d : String} {A : Nat → Prop} {s : State} {args : Array Value} (h : va_Zq C n d A s s.heap) : (Cond.isRef (.static C n d)).before args s = true := by
  have key : ∀ v, va_Z C n d v A s s.heap → (Term.static C n d).eval args s none [] s = some v := by
    intro v hv
    obtain ⟨cf, kf, fi, f, a, cell, h1, h2, h3, h4, h5, h6, h7, h8⟩ := hv
    simp [Term.eval, State.fieldNamed?, h1, h2, h4, h5, h6, h7]
  rcases h with h | ⟨t, h⟩
  · simp [Cond.before, Cond.holds, Cond.value, key _ h]
  · simp [Cond.before, Cond.holds, Cond.value, key _ h]
abbrev ow_up : List String := ["java/lang/RuntimeException", "java/lang/Exception"]
def ow_ex (X : String) : List Cond := [.laysStatic "java/lang/Throwable" "UNASSIGNED_STACK" "[Ljava/lang/StackTraceElement;", .laysStatic "java/lang/Throwable" "SUPPRESSED_SENTINEL" "Ljava/util/List;", .declares ⟨"java/lang/RuntimeException", "<init>", "()V"⟩, .declares ⟨"java/lang/Exception", "<init>", "()V"⟩, .declares ⟨"java/lang/Throwable", "<init>", "()V"⟩, .castable X X, .isRef (.static "java/lang/Throwable" "UNASSIGNED_STACK" "[Ljava/lang/StackTraceElement;"), .isRef (.static "java/lang/Throwable" "SUPPRESSED_SENTINEL" "Ljava/util/List;")]
theorem ow_of {D : va_G} {ca : Nat → ClassId} {ax : Nat → Nat → Nat} {b : Nat} {s : State} {args : Array Value} {Ts : List Cond} {own : String} {ic i : Nat} (hKK : kC D ca ax b s) (hts : ∀ w ∈ Ts, w.before args s = true) (hsub : ∀ w ∈ wG, w ∈ Ts) (hi : i < 7) (hd : (Bundle.ownAtoms0 own ic (ex_nm i) ow_up).filter (fun w => !goodWord w) = ow_ex (ex_nm i)) (he : (((Bundle.ownAtoms0 own ic (ex_nm i) ow_up).filter goodWord).filter (fun w => !decide (w ∈ lw_tbl))).length = 0) : ∀ a ∈ Bundle.ownAtoms0 own ic (ex_nm i) ow_up, a.before args s = true := by
  intro w hw
  have hd2 : (w ∈ lw_tbl ∧ goodWord w = true) ∨ w ∈ ow_ex (ex_nm i) := by
    by_cases hgw : goodWord w = true
    · refine Or.inl ⟨?_, hgw⟩
      have h0 := List.eq_nil_of_length_eq_zero he
      by_cases hm : w ∈ lw_tbl
      · exact hm
      · have : w ∈ ((Bundle.ownAtoms0 own ic (ex_nm i) ow_up).filter goodWord).filter (fun w => !decide (w ∈ lw_tbl)) := List.mem_filter.mpr ⟨List.mem_filter.mpr ⟨hw, hgw⟩, by simp [hm]⟩
        rw [h0] at this
        cases this
    · refine Or.inr ?_
      rw [← hd]
      exact List.mem_filter.mpr ⟨hw, by simp [hgw]⟩
  rcases hd2 with ⟨h1, h2⟩ | h
  · exact hts w (hsub w (List.mem_filter.mpr ⟨h1, h2⟩))
  · simp only [ow_ex, List.mem_cons, List.not_mem_nil, or_false] at h
    rcases h with rfl | rfl | rfl | rfl | rfl | rfl | rfl | rfl
    · exact (kc_lu hKK).use
    · exact (kc_ls hKK).use
    · exact va_Nw.use rfl (hKK.2.2.2.2.1 0 (by decide))
    · exact va_Nw.use rfl (hKK.2.2.2.2.1 1 (by decide))
    · exact va_Nw.use rfl (hKK.2.2.2.2.1 2 (by decide))
    · exact va_Nw.use rfl (hKK.2.2.2.2.2 i hi)
    · exact zq_ref (kc_us hKK)
    · exact zq_ref (kc_se hKK)
section XX2
variable {p : Program} {l : Launch} {e : Env} {R : Room} {s : State} {m : MethodId} {args : Array Value} {below : List Frame} {meth : Method} {c : Code} {locs : List Loc} {Ts : List Cond} {own : String} {cc : ByteArray} {nL : Nat} {pc : Nat} {ls : Array Slot} {Qc : Array Value → State → Outcome → State → Prop} {free : Addr → Prop}
theorem w_throw {xN : String} {ia ic : Nat} (S : CallFix p m c cc nL s args Ts own) (htr : l.stackTraces = false) (hcl : (Cond.classLink own ia xN).before args s = true) (hini : (Cond.initialized xN).before args s = true) (hfit : Bundle.fit xN = true) (hat : ∀ a ∈ Bundle.ownAtoms0 own ic xN ow_up, a.before args s = true) (hnh : c.exceptionTable.isEmpty = true) (hlocks : meth.locks = false) (hsz : ls.size = nL)
    (d0 : decode cc pc = .ok (.new ia, 3)) (d3 : decode cc (pc + 3) = .ok (.dup, 1)) (d4 : decode cc (pc + 4) = .ok (.invokespecial ic, 3)) (d7 : decode cc (pc + 7) = .ok (.athrow, 1)) (hR : 1 ≤ R.cells ∧ 6 ≤ R.slots ∧ 6 ≤ R.frames ∧ 81 ≤ R.locals)
    (hq : ∀ (a : Addr) (t : State), ex_at xN s.heap.size a t → s.heap.size ≤ t.heap.size → (∀ q : Nat, q < s.heap.size → t.heap[q]? = s.heap[q]?) → Qc args s (.threw a) t) : W p l e R s m args below meth c s.heap [] 0 0 (mx_Q below Qc args s 1 6 free) (F0 m pc ls []) := by
  intro T hT X
  obtain ⟨hx, hb, hml, hown, hts⟩ := S
  have htr' : e.platform.stackTraces = false := by rw [X.admits.platform]; exact htr
  obtain ⟨vm₁, cX, kX, hfX, hkX, -, -, X₁, st1⟩ := X.newCold hx (own := own) (C := xN) (index := ia) (n := 6) hown hcl (hat (.instantiable xN 6) (by simp [Bundle.ownAtoms0])) hini (g := F0 m pc ls []) rfl (by rw [hb]; exact d0) (by omega) (by omega)
  generalize hT2 : (T.setVm vm₁).pushCell { cls := cX, slots := kX.instanceTypes.map defaultValue, vm := .none } = T2 at X₁ st1
  have hcellA : T2.heap[T.heap.size]? = some (freshCell cX kX) := by rw [← hT2]; exact State.heap_pushCell_size _ _
  have hle : s.heap.size ≤ T.heap.size := by rw [hT]; exact Nat.le_refl _
  obtain ⟨U, hsteps, hrun, hend, hW, hsame, ce, hce, K⟩ := X₁.ctorThrow0 hx htr' (own := own) (cls := xN) (names := ow_up) (ic := ic) hown hfit (by decide +kernel) hat (fun y hy => by cases hy) hfX hkX hcellA hle
    (g := F0 m (pc + 4) ls [.ref T.heap.size, .ref T.heap.size]) rfl (hsz.trans hml.symm) rfl rfl (rest := []) rfl (by rw [hb]; exact d4) (by rw [hb]; exact d7) (covers_of_empty hnh _) (by simp; omega) (by simp [Value.category]; omega) hlocks
  have hal : s.vm.Alike U.vm := hW.alike
  obtain ⟨k', hk', -⟩ := hal.2.2 _ _ hkX
  have hcls : ce.cls = cX := Option.some.inj (K.cls.symm.trans hfX)
  refine ⟨U, ?_, .threw T.heap.size, hrun, hend, hq _ U ⟨hle, ce, k', hce, (fun q hq => by rw [K.vm] at hq; cases hq), (by rw [hcls]; exact hk'), by rw [hal.findClass, hcls]; exact hfX⟩ hsame.2.1 (fun q hq => ?_), [], ⟨hW, hsame⟩, fun q h => by cases h⟩
  · refine st1 _ ?_
    show Steps p.tables e below (T2.setTop (F0 m (pc + 3) ls [.ref T.heap.size])) U
    jvm_step X₁.here [X₁.here.top, hx, hb, d3, Value.category]
    exact hsteps
  · obtain ⟨cq, hcq⟩ : ∃ cq, s.heap[q]? = some cq := ⟨s.heap[q], Array.getElem?_eq_getElem hq⟩
    rw [hcq]
    exact hsame.old_cell hcq
theorem st_shrink {T : State} {cells slots : Nat} (X : Stand p l e R s m args below meth c T locs cells slots) (h : T.heap.size = s.heap.size) : Stand p l e R s m args below meth c T locs 0 0 := by
  have h6 := X.same
  refine { X with same := ⟨h6.1, h6.2.1, ?_, h6.2.2.2.1, ?_, h6.2.2.2.2.2⟩ }
  · show T.heap.size ≤ s.heap.size + 0
    omega
  · have : (T.setVm s.vm).heap.toList.drop s.heap.size = [] := by
      apply List.drop_eq_nil_of_le
      show T.heap.toList.length ≤ s.heap.size
      rw [Array.length_toList, h]
      exact Nat.le_refl _
    rw [this]
    exact Nat.le_refl _
end XX2

/-! part 36: new int[4][100], and the rows that constructors with loops want -/
def mu_o (cA : ClassId) (h0 i : Nat) : Cell := arrV cA 4 (fun j => va_rf (if j < i then some (h0 + 1 + j) else none))
def mu_i (cI : ClassId) : Cell := arrV cI 100 (fun _ => .int 0)
/-- the state when i of the four rows are made -/
def mu_s (T : State) (cA cI : ClassId) : Nat → State
  | 0 => T.pushCell (mu_o cA T.heap.size 0)
  | i + 1 => ((mu_s T cA cI i).pushCell (mu_i cI)).setCell T.heap.size (mu_o cA T.heap.size (i + 1))
theorem mu_o_store (cA : ClassId) (h0 i : Nat) : (mu_o cA h0 i).setSlot i (.ref (h0 + 1 + i)) = mu_o cA h0 (i + 1) := by
  unfold mu_o
  rw [arrV_store]
  congr 1
  funext j
  unfold updV
  by_cases h : j = i
  · subst h; simp [va_rf]
  · have e : (j < i + 1) = (j < i) := by apply propext; omega
    simp [h, e]
def mu_F (T : State) (cA cI : ClassId) (i : Nat) : Prop :=
  (mu_s T cA cI i).heap.size = T.heap.size + 1 + i ∧ (mu_s T cA cI i).heap[T.heap.size]? = some (mu_o cA T.heap.size i) ∧ (mu_s T cA cI i).vm = T.vm ∧ (mu_s T cA cI i).slotsUsed = T.slotsUsed + 4 + i * 100 ∧
  (∀ q : Nat, q < T.heap.size → (mu_s T cA cI i).heap[q]? = T.heap[q]?) ∧ ∀ j : Nat, j < i → (mu_s T cA cI i).heap[T.heap.size + 1 + j]? = some (mu_i cI)
theorem mu_facts (T : State) (cA cI : ClassId) : ∀ i, mu_F T cA cI i
  | 0 => ⟨by simp [mu_s], by simp [mu_s], rfl, by simp [mu_s, mu_o, arrV_size], fun q hq => State.heap_pushCell_of_lt _ _ hq, fun j hj => absurd hj (by omega)⟩
  | i + 1 => by
    obtain ⟨f1, f2, f3, f4, f5, f6⟩ := mu_facts T cA cI i
    have hlt : ∀ q : Nat, q < T.heap.size + 1 + i → ((mu_s T cA cI i).pushCell (mu_i cI)).heap[q]? = (mu_s T cA cI i).heap[q]? := fun q hq => State.heap_pushCell_of_lt _ _ (by rw [f1]; exact hq)
    have h0 : ((mu_s T cA cI i).pushCell (mu_i cI)).heap[T.heap.size]? = some (mu_o cA T.heap.size i) := (hlt _ (by omega)).trans f2
    have hne : ∀ q : Nat, q ≠ T.heap.size → (mu_s T cA cI (i + 1)).heap[q]? = ((mu_s T cA cI i).pushCell (mu_i cI)).heap[q]? := fun q hq => State.heap_setCell_other (Ne.symm hq)
    refine ⟨?_, State.heap_setCell_self h0, by simp [mu_s, f3], ?_, fun q hq => (hne q (by omega)).trans ((hlt q (by omega)).trans (f5 q hq)), fun j hj => ?_⟩
    · simp [mu_s, State.setCell, f1]; omega
    · simp [mu_s, f4, mu_i, arrV_size]; omega
    · rw [hne _ (by omega)]
      by_cases h : j = i
      · subst h
        rw [← f1]
        exact State.heap_pushCell_size _ _
      · rw [hlt _ (by omega)]
        exact f6 j (by omega)
theorem mu_top (T : State) (f : JFrame) (cA cI : ClassId) : ∀ i, mu_s (T.setTop f) cA cI i = (mu_s T cA cI i).setTop f
  | 0 => rfl
  | i + 1 => by simp only [mu_s, mu_top T f cA cI i, State.heap_setTop, State.pushCell_setTop, State.setCell_setTop]
section MU
variable {E : CtlPost} {e : Env} {d : Bool} {acts : List Action} {s : State}
/-- the model's newArray, where there is room -/
theorem mu_new {cA comp : ClassId} {k : Class} {type : FieldType} {N : Nat} {x : Value} (hk : s.vm.classes[cA]? = some k) (hkd : k.kind = .array comp type) (hlim : ¬ N > e.platform.arrayLengthLimit) (hby : ¬ N * componentBytes type > e.platform.maxHeapBytes) (hfit : Jvm.fits type x = true) (hdef : x.isDefault = true) {Q : Addr → Pre} (h1 : s.heap.size < e.platform.maxCells) (h2 : s.slotsUsed + N ≤ e.platform.maxSlots) (hq : Q s.heap.size d acts (s.pushCell (arrV cA N (fun _ => x)))) : wp (Jvm.newArray cA N x) Q E e d acts s := by
  rw [← arrV_new] at hq
  have hf : ∀ i v, (Array.replicate N x)[i]? = some v → s.fitsSlot cA .none i v = true := by
    intro i v hv
    rw [Array.getElem?_replicate] at hv
    split at hv
    · cases hv
      simp [State.fitsSlot, State.slotType?, hk, hkd, hfit]
    · cases hv
  have hall : ((Array.replicate N x).all (·.isDefault)) = true := by
    rw [Array.all_replicate]
    split <;> simp [hdef]
  have hact : allocActs (Array.replicate N x) s.heap.size acts = acts := by
    unfold allocActs
    rw [if_pos hall]
  simp only [Jvm.newArray, Jvm.arrayFits, wp_bind', W.ask, W.ite, hlim, if_false, wp_pure', W.theClass, hk, hkd, hby, W.alloc, W.stop, Option.some.injEq, exists_eq_left', Array.size_replicate, hact]
  rw [if_neg (by omega)]
  exact ⟨h1, h2, hf, hq⟩
theorem mu_row {cI cc : ClassId} {k : Class} (hk : s.vm.classes[cI]? = some k) (hkd : k.kind = .array cc .int) (hlim : ¬ 100 > e.platform.arrayLengthLimit) (hby : ¬ 100 * componentBytes .int > e.platform.maxHeapBytes) (h1 : s.heap.size < e.platform.maxCells) (h2 : s.slotsUsed + 100 ≤ e.platform.maxSlots) {Q : Addr → Pre} (hq : Q s.heap.size d acts (s.pushCell (mu_i cI))) : wp (multianewarray.make cI [100]) Q E e d acts s := by
  rw [multianewarray.make]
  simp only [wp_bind', W.ite, show ¬ (100 : Int32) < 0 by decide, if_false, wp_pure', W.theClass, hk, hkd, Option.some.injEq, exists_eq_left']
  exact mu_new hk hkd hlim hby rfl rfl h1 h2 hq
theorem mu_make {cA cI cc : ClassId} {kA kI : Class} (hkA : s.vm.classes[cA]? = some kA) (hkdA : kA.kind = .array cI (.array .int)) (hkI : s.vm.classes[cI]? = some kI) (hkdI : kI.kind = .array cc .int) (hlim : ¬ 100 > e.platform.arrayLengthLimit) (hby : ¬ 100 * 4 > e.platform.maxHeapBytes) (h1 : s.heap.size + 5 ≤ e.platform.maxCells) (h2 : s.slotsUsed + 404 ≤ e.platform.maxSlots) {Q : Addr → Pre} (hq : ∀ d' acts', Q s.heap.size d' acts' (mu_s s cA cI 4)) : wp (multianewarray.make cA [4, 100]) Q E e d acts s := by
  rw [multianewarray.make]
  simp only [wp_bind', W.ite, show ¬ (4 : Int32) < 0 by decide, if_false, wp_pure', W.theClass, hkA, hkdA, Option.some.injEq, exists_eq_left', show (4 : Int32).toNatClampNeg = 4 by decide]
  refine mu_new hkA hkdA (by omega) (by show ¬ 4 * 4 > _; omega) rfl rfl (by omega) (by omega) ?_
  simp only [show ((4 : Int32) == 0) = false by decide]
  rw [if_neg (by decide), wp_bind', Std.Legacy.Range.forIn_eq_forIn_range']
  show wp (forIn (List.range' 0 4 1) PUnit.unit _) _ E e d acts _
  refine wp_forIn_inv (fun rest s' => ∃ i, i ≤ 4 ∧ rest = List.range' i (4 - i) ∧ s' = mu_s s cA cI i) _ _ ⟨0, by omega, rfl, ?_⟩ ?_ ?_
  · show _ = s.pushCell _
    congr 1
  · rintro x rest s' d' acts' Q' ⟨i, hi, hl, rfl⟩ hnext
    have hlt : i < 4 := by
      rcases Nat.lt_or_ge i 4 with h | h
      · exact h
      · rw [show 4 - i = 0 by omega] at hl
        cases hl
    rw [show 4 - i = (4 - (i + 1)) + 1 by omega, List.range'_succ] at hl
    obtain ⟨rfl, hrest⟩ := List.cons.inj hl
    obtain ⟨f1, f2, f3, f4, -, -⟩ := mu_facts s cA cI x
    simp only [wp_bind']
    refine mu_row (by rw [f3]; exact hkI) hkdI hlim (by exact hby) (by rw [f1]; omega) (by rw [f4]; omega) ?_
    simp only [wp_bind', W.writeLoc, wp_pure']
    have hlt0 : s.heap.size < (mu_s s cA cI x).heap.size := by rw [f1]; omega
    refine ⟨mu_o cA s.heap.size x, by rw [State.heap_pushCell_of_lt (h := hlt0)]; exact f2, by simp [mu_o, arrV], by rw [mu_o, arrV_size]; exact hlt, ?_, hnext _ _ _ ⟨x + 1, hlt, hrest, ?_⟩⟩
    · simp [State.fitsSlot, State.slotType?, f3, mu_o, arrV, hkA, hkdA, Jvm.fits]
    · rw [f1, mu_o_store]
      rfl
  · rintro s' d' acts' ⟨i, hi, hl, rfl⟩
    have h4 : i = 4 := by
      rcases Nat.lt_or_ge i 4 with h | h
      · rw [show 4 - i = (4 - (i + 1)) + 1 by omega, List.range'_succ] at hl
        cases hl
      · omega
    subst h4
    simp only [wp_pure']
    exact hq _ _
end MU
section VC3
variable {p : Program} {l : Launch} {e : Env} {R : Room} {s : State} {m : MethodId} {args : Array Value} {below : List Frame} {meth : Method} {c : Code} {D : va_G} {b nL : Nat} {Q : State → Prop} {cf cf2 : Nat → va_E} {n n2 cs ss pc : Nat} {L L2 : List (Option Value)} {rest : List Value} {cc : ByteArray} {Ts : List Cond} {own : String} {ca : Nat → ClassId}
theorem mu_stand {T : State} {locs : List Loc} (X : Stand p l e R s m args below meth c T locs cs ss) (cA cI : ClassId) : ∀ i, Stand p l e R s m args below meth c (mu_s T cA cI i) (locs ++ (List.range i).map fun j => ⟨T.heap.size, j⟩) (cs + 1 + i) (ss + 4 + i * 100)
  | 0 => by
    have h := X.pushed (mu_o cA T.heap.size 0)
    rw [mu_o, arrV_size] at h
    simpa [mu_s, mu_o] using h
  | i + 1 => by
    obtain ⟨f1, f2, f3, f4, -, -⟩ := mu_facts T cA cI i
    have hlt0 : T.heap.size < (mu_s T cA cI i).heap.size := by rw [f1]; omega
    have hc : ((mu_s T cA cI i).pushCell (mu_i cI)).heap[T.heap.size]? = some (mu_o cA T.heap.size i) := by
      rw [State.heap_pushCell_of_lt (h := hlt0)]
      exact f2
    have h := ((mu_stand X cA cI i).pushed (mu_i cI)).stored hc i (.ref (T.heap.size + 1 + i))
    rw [mu_o_store, mu_i, arrV_size] at h
    rw [List.range_succ, List.map_append, ← List.append_assoc, show ss + 4 + (i + 1) * 100 = ss + 4 + i * 100 + 100 by omega]
    exact h
theorem mu_W {index : Nat} {H : Heap} {locs : List Loc} {ls : Array Slot} (S : CallFix p m c cc nL s args Ts own) (hcl : (Cond.classLink own index ("[" ++ (FieldType.array .int).toString)).before args s = true) (hover : ma_AO s) (harr : (Cond.arrayClass .int).before args s = true) (hcells : cs + 5 ≤ R.cells) (hslots : ss + 404 ≤ R.slots) (d : decode cc pc = .ok (.multianewarray index 2, 4))
    (kk : ∀ (cA cI : ClassId) (H1 : Heap), s.vm.findClass ("[" ++ (FieldType.array .int).toString) = some cA → s.vm.findClass (FieldType.array .int).toString = some cI → H1[H.size]? = some (mu_o cA H.size 4) → (∀ j : Nat, j < 4 → H1[H.size + 1 + j]? = some (mu_i cI)) → H1.size = H.size + 5 → (∀ q : Nat, q < H.size → H1[q]? = H[q]?) →
      W p l e R s m args below meth c H1 (locs ++ (List.range 4).map fun j => ⟨H.size, j⟩) (cs + 5) (ss + 404) Q (F0 m (pc + 4) ls (.ref H.size :: rest))) : W p l e R s m args below meth c H locs cs ss Q (F0 m pc ls (.int 100 :: .int 4 :: rest)) := by
  intro T hT X
  subst hT
  have hexec := S.1
  have hb := S.2.1
  have hpl : e.platform.magicAccessors = ({} : Platform).magicAccessors := by rw [X.admits.platform]
  obtain ⟨cI, cA, kA, hI, hkA, hkdA, hA⟩ := hover
  obtain ⟨cI', kI, c1, hI', hkI, hkdI⟩ := Cond.arrayClass_spec harr
  have ecI : cI' = cI := Option.some.inj (hI'.symm.trans hI)
  rw [ecI] at hkI
  obtain ⟨c0, hfc, hres⟩ := Cond.classLink_spec S.2.2.2.1 hcl e.platform hpl
  cases hA.symm.trans hfc
  obtain ⟨hg, hwarm, hready⟩ := State.classEntry (e := e) X.warmed hres
  generalize T.vm.noted m.cls index (.cls cA) = vm1 at hg hwarm hready
  have hal : s.vm.Alike vm1 := hwarm.alike
  obtain ⟨kA1, hkA1, eA⟩ := hal.2.2 _ _ hkA
  obtain ⟨kI1, hkI1, eI⟩ := hal.2.2 _ _ hkI
  have hkdA1 : kA1.kind = .array cI (.array .int) := by rw [eA]; exact hkdA
  have hkdI1 : kI1.kind = .array c1 .int := by rw [eI]; exact hkdI
  have X1 := X.noted hwarm
  obtain ⟨r1, r2⟩ := X.roomAbove hcells hslots
  have hlim : ¬ 100 > e.platform.arrayLengthLimit := by rw [Launch.admits_arrayLengthLimit X.admits]; omega
  have hby : ¬ 100 * 4 > e.platform.maxHeapBytes := by rw [Launch.admits_maxHeapBytes X.admits]; omega
  have XF := mu_stand X1 cA cI 4
  have f := mu_facts (T.setVm vm1) cA cI 4
  obtain ⟨t, a1, b1⟩ := kk cA cI (mu_s (T.setVm vm1) cA cI 4).heap hA hI f.2.1 f.2.2.2.2.2 f.1 f.2.2.2.2.1 (mu_s (T.setVm vm1) cA cI 4) rfl XF
  refine ⟨t, ?_, b1⟩
  have hdg : decode c.code pc = .ok (.multianewarray index 2, 4) := by rw [hb]; exact d
  jvm_step X.here [hexec, hdg]
  simp only [multianewarray.sem, wp_bind', W.resolveClassAt_links (State.method?_setTop (F0 m pc ls (.int 100 :: .int 4 :: rest)) X.here.top) hg]
  rw [W.popN, if_neg (by decide)]
  refine ⟨F0 m pc ls (.int 100 :: .int 4 :: rest), State.topJava?_setTop' (s := T.setVm vm1) _ X.here.top, [.int 4, .int 100], rest, rfl, rfl, ?_⟩
  simp only [List.mapM_cons, List.mapM_nil, wp_bind', wp_pure']
  refine mu_make (kA := kA1) (kI := kI1) (cI := cI) (cc := c1) hkA1 hkdA1 hkI1 hkdI1 hlim hby (by show T.heap.size + 5 ≤ _; omega) (by show T.slotsUsed + 404 ≤ _; omega) (fun d' acts' => ?_)
  have eS : ((T.setTop (F0 m pc ls (.int 100 :: .int 4 :: rest))).setVm vm1).setTop (F0 m pc ls rest) = (T.setVm vm1).setTop (F0 m pc ls rest) := by
    show ((T.setVm vm1).setTop _).setTop _ = _
    rw [State.setTop_setTop]
  rw [eS, mu_top]
  simp only [wp_bind', W.mark, W.pushRef, State.topJava?_setTop' _ XF.here.top, Option.some.injEq, exists_eq_left', State.setTop_setTop, State.heap_setTop]
  intro acts
  simp [jvm, XF.here.top]
  exact a1
end VC3

/-! part 41: exceptions caught where the catch types are not yet looked up -/
section XC1
variable {E : CtlPost} {e : Env} {d : Bool} {acts : List Action} {s : State} {f : JFrame} {a : Addr} {Q : Handler → Pre}
theorem fc_go {x : ExceptionTableEntry} {t : List ExceptionTableEntry} {c : ClassId} {cell : Cell} {vm' : Vm} (hx : covers x f.pc = true) (h0 : x.catchType ≠ 0) (hg : (Jvm.resolveClass f.method.cls x.catchType).Gives e.toSetting s.vm (.ok c) vm') (hsz : vm'.classes.size ≤ s.vm.classes.size) (hcell : s.heap[a]? = some cell) (hobj : ∀ k, cell.vm ≠ .statics k) (hk : ∃ k, vm'.classes[cell.cls]? = some k) (hc : ∃ k, vm'.classes[c]? = some k) :
    wp (findHandler.go f a (x :: t)) Q E e d acts s ↔ if vm'.assignable cell.cls c = true then Q (.found x.handlerPc) d acts (s.setVm vm') else wp (findHandler.go f a t) Q E e d acts (s.setVm vm') := by
  simp only [covers] at hx
  obtain ⟨ha, ht⟩ := hg.op (op := VmOp.resolveClass f.method.cls x.catchType) rfl
  cases hfit : vm'.assignable cell.cls c <;>
    simp [findHandler.go, hx, h0, ha, ht, hsz, hcell, hobj, hk, hc, hfit, VmOp.dirties, VmOp.acts]
/-- what the search gives: the handler's address, and the tables as it leaves them -/
def fc_F (e : Env) (s : State) (f : JFrame) (a : Addr) (pc : Nat) (vm' : Vm) : Prop := ∀ (Q : Handler → Pre) (E : CtlPost) (d : Bool) (acts : List Action), wp (findHandler f a) Q E e d acts s ↔ Q (.found pc) d acts (s.setVm vm')
theorem fc_catch {r : List Frame} {pc : Nat} {vm' : Vm} (hf : fc_F e s f a pc vm') : (stepThrowing e s a (.java f :: r)).Is ((s.setVm vm').setFrames (.java { f with pc := pc, stack := [.ref a] } :: r)) [] := by
  simp only [stepThrowing, searchFrame, vmDo]
  generalize hr : Sem.go _ e false [] s = res
  obtain ⟨as, rfl, ha⟩ := Sem.eq_ok_of hr (a := Handler.found pc) (s' := s.setVm vm') (acts' := []) (by simp [hf _ _ _ _])
  exact ⟨rfl, ha⟩
theorem fc_steps {tb : Tables} {target : State} {g : JFrame} {c : Code} {below : List Frame} (h : At s g.method c below) {pc : Nat} {vm' : Vm} (hf : fc_F e ((s.setTop g).pushFrame (.throwing a)) g a pc vm')
    (hrest : Steps tb e below ((s.setVm vm').setTop { g with pc := pc, stack := [.ref a] }) target) : Steps tb e below ((s.setTop g).pushFrame (.throwing a)) target := by
  obtain ⟨hgo, hw⟩ := h.throwing a
  refine Steps.head hgo hw ?_
  rw [stepThread_throwing (frames_entered h.top _), (fc_catch (s := (s.setTop g).pushFrame (.throwing a)) hf).1]
  obtain ⟨g₀, hg⟩ := Option.isSome_iff_exists.mp h.top
  obtain ⟨r, hr⟩ := State.topJava?_eq_some.mp hg
  have hr2 : (s.setVm vm').frames = .java g₀ :: r := hr
  rw [State.setTop_of_frames _ hr2] at hrest
  rw [State.pushFrame, State.setTop_of_frames _ hr, State.setFrames_setFrames]
  rw [hr]
  show Steps tb e below (((s.setVm vm').setFrames _).setFrames _) target
  rw [State.setFrames_setFrames]
  exact hrest
end XC1
/-- the exceptions' classes: none but itself can be assigned to one -/
def kX (U : State) : Prop := ∀ i j, i < 7 → j < 7 → 0 < i → 0 < j → ∀ ci cj, U.vm.findClass (ex_nm i) = some ci → U.vm.findClass (ex_nm j) = some cj → U.vm.assignable ci cj = decide (i = j)
theorem kX.moved {u U : State} (hvm : u.vm.Alike U.vm) (h : kX u) : kX U := fun i j hi hj h1 h2 ci cj f1 f2 => by
  rw [hvm.findClass] at f1 f2
  rw [hvm.assignable]
  exact h i j hi hj h1 h2 ci cj f1 f2
section XC2
variable {p : Program} {l : Launch} {e : Env} {R : Room} {s : State} {m : MethodId} {args : Array Value} {below : List Frame} {meth : Method} {c : Code} {T : State} {locs : List Loc} {cells slots : Nat} {own : String}
/-- the search over the entries xs, for the exception number x: the place where x stands among them -/
theorem fc_list {f : JFrame} {a : Addr} {x : Nat} {cell : Cell} (hpl : e.platform.magicAccessors = ({} : Platform).magicAccessors) (hown : s.vm.findClass own = some f.method.cls) (hX : kX s) (hx : x < 7) (hx0 : 0 < x) (hobj : ∀ k, cell.vm ≠ .statics k) (hk : ∃ k, s.vm.classes[cell.cls]? = some k) (hfc : s.vm.findClass (ex_nm x) = some cell.cls) :
    ∀ (ys : List Nat) (es : List ExceptionTableEntry) (i : Nat), es.length = ys.length → (∀ (j : Nat) (y : Nat), ys[j]? = some y → 0 < y ∧ y < 7 ∧ ∃ en : ExceptionTableEntry, es[j]? = some en ∧ covers en f.pc = true ∧ en.catchType ≠ 0 ∧ (Cond.classLink own en.catchType (ex_nm y)).before args s = true) → ys[i]? = some x → (∀ j : Nat, j < i → ys[j]? ≠ some x) →
      ∀ U : State, s.WarmedH U.vm → U.heap[a]? = some cell → ∃ vm', s.WarmedH vm' ∧ ∀ (Q : Handler → Pre) (E : CtlPost) (d : Bool) (acts : List Action), wp (findHandler.go f a es) Q E e d acts U ↔ Q (.found ((es[i]?.map (·.handlerPc)).getD 0)) d acts (U.setVm vm')
  | [], es, i, hl, hall, hi, hne, U, hW, hcell => by simp at hi
  | y :: ys, [], i, hl, hall, hi, hne, U, hW, hcell => by simp at hl
  | y :: ys, en :: es, i, hl, hall, hi, hne, U, hW, hcell => by
    obtain ⟨hy0, hy7, en', hen, hcov, hct, hlink⟩ := hall 0 y rfl
    cases Option.some.inj hen
    obtain ⟨c1, hfc1, hcl⟩ := Cond.classLink_spec hown hlink e.platform hpl
    obtain ⟨hg, hwarm, hready⟩ := State.classEntry (e := e) hW hcl
    have hal : s.vm.Alike (U.vm.noted f.method.cls en.catchType (.cls c1)) := hwarm.alike
    have hal0 : s.vm.Alike U.vm := hW.alike
    have hass : (U.vm.noted f.method.cls en.catchType (.cls c1)).assignable cell.cls c1 = decide (x = y) := by
      rw [hal.assignable]
      exact hX x y hx hy7 hx0 hy0 _ _ hfc hfc1
    obtain ⟨k, hk⟩ := hk
    obtain ⟨k1, hk1, -⟩ := hal.2.2 _ _ hk
    obtain ⟨k2, hk2⟩ := Vm.classAt_of_findClass hfc1
    obtain ⟨k3, hk3, -⟩ := hal.2.2 _ _ hk2
    have hgo := fun Q E d acts => fc_go (Q := Q) (E := E) (d := d) (acts := acts) (s := U) (t := es) hcov hct hg (by rw [hal.2.1, hal0.2.1]; exact Nat.le_refl _) hcell hobj ⟨k1, hk1⟩ ⟨k3, hk3⟩
    by_cases hxy : x = y
    · have hi0 : i = 0 := by
        rcases Nat.eq_zero_or_pos i with h | h
        · exact h
        · exact absurd (show (y :: ys)[0]? = some x by rw [hxy]; rfl) (hne 0 h)
      subst hi0
      refine ⟨_, hwarm, fun Q E d acts => ?_⟩
      rw [hgo, hass, if_pos (by simp [hxy])]
      exact Iff.rfl
    · obtain ⟨i, rfl⟩ : ∃ i', i = i' + 1 := by
        rcases Nat.eq_zero_or_pos i with h | h
        · subst h
          exact absurd (Option.some.inj hi).symm hxy
        · exact ⟨i - 1, by omega⟩
      obtain ⟨vm', hW', h'⟩ := fc_list hpl hown hX hx hx0 hobj ⟨k, hk⟩ hfc ys es i (by simpa using hl) (fun j z hz => by
        obtain ⟨g1, g2, en2, g3, g4⟩ := hall (j + 1) z (by simpa using hz)
        exact ⟨g1, g2, en2, by simpa using g3, g4⟩) (by simpa using hi) (fun j hj hz => hne (j + 1) (by omega) (by simpa using hz)) (U.setVm (U.vm.noted f.method.cls en.catchType (.cls c1))) hwarm hcell
      refine ⟨vm', hW', fun Q E d acts => ?_⟩
      rw [hgo, hass, if_neg (by simp [hxy])]
      rw [h']
      exact Iff.rfl
theorem fc_at (X : Stand p l e R s m args below meth c T locs cells slots) (hown : s.vm.findClass own = some m.cls) (hX : kX s) {a : Addr} {g : JFrame} (hg : g.method = m) {x : Nat} (hx : x < 7) (hx0 : 0 < x) (hex : ex_at (ex_nm x) 0 a T) {ys : List Nat} {hh : List (Nat × Nat × Nat × Nat)} (htab : c.exceptionTable.toList.map (fun h => (h.startPc, h.endPc, h.handlerPc, h.catchType)) = hh)
    (hall : ∀ (j : Nat) (y : Nat), ys[j]? = some y → 0 < y ∧ y < 7 ∧ ∃ z : Nat × Nat × Nat × Nat, hh[j]? = some z ∧ (decide (z.1 ≤ g.pc) && decide (g.pc < z.2.1)) = true ∧ z.2.2.2 ≠ 0 ∧ (Cond.classLink own z.2.2.2 (ex_nm y)).before args s = true) (hlen : hh.length = ys.length) {i pc : Nat} (hi : ys[i]? = some x) (hne : ∀ j : Nat, j < i → ys[j]? ≠ some x) (hpc : (hh[i]?.map (·.2.2.1)).getD 0 = pc) :
    ∃ vm', Stand p l e R s m args below meth c (T.setVm vm') locs cells slots ∧ ∀ target, Steps p.tables e below ((T.setVm vm').setTop { g with pc := pc, stack := [.ref a] }) target → Steps p.tables e below ((T.setTop g).pushFrame (.throwing a)) target := by
  subst hg
  have hpl : e.platform.magicAccessors = ({} : Platform).magicAccessors := by rw [X.admits.platform]
  obtain ⟨-, cell, k, h1, h2, h3, h4⟩ := hex
  have hal : s.vm.Alike T.vm := X.warmed.alike
  rw [hal.findClass] at h4
  have hk : ∃ k, s.vm.classes[cell.cls]? = some k := Vm.classAt_of_findClass h4
  have hT : ∀ j : Nat, hh[j]? = (c.exceptionTable.toList[j]?).map (fun h => (h.startPc, h.endPc, h.handlerPc, h.catchType)) := fun j => by rw [← htab, List.getElem?_map]
  obtain ⟨vm', hW', hgo⟩ := fc_list (s := s) (own := own) (args := args) (e := e) (f := g) (a := a) hpl hown hX hx hx0 h2 hk h4 ys c.exceptionTable.toList i (by rw [← hlen, ← htab, List.length_map]) (fun j y hy => by
    obtain ⟨g1, g2, z, g3, g4, g5, g6⟩ := hall j y hy
    rw [hT] at g3
    cases hen : c.exceptionTable.toList[j]? with
    | none => rw [hen] at g3; cases g3
    | some en =>
      rw [hen] at g3
      cases Option.some.inj g3
      exact ⟨g1, g2, en, rfl, g4, g5, g6⟩) hi hne ((T.setTop g).pushFrame (.throwing a)) (by rw [Stand.throwing_vm]; exact X.warmed) (by rw [Stand.throwing_heap]; exact h1)
  have hm : ((T.setTop g).pushFrame (.throwing a)).vm.method? g.method = some meth := by rw [Stand.throwing_vm]; exact X.method'
  have hF : fc_F e ((T.setTop g).pushFrame (.throwing a)) g a pc vm' := fun Q E d acts => by
    rw [W.findHandler_eq hm X.code, hgo]
    rw [show ((c.exceptionTable.toList[i]?.map (·.handlerPc)).getD 0) = pc by rw [← hpc, hT]; cases c.exceptionTable.toList[i]? <;> rfl]
  refine ⟨vm', X.noted hW', fun target hrest => ?_⟩
  exact fc_steps X.here hF hrest
end XC2

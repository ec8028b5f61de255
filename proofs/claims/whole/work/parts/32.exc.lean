/-! part 32: calls of methods that may throw; rows of vv -/
def xr_R (p : Program) (l : Launch) (e : Env) (R : Room) (s : State) (m : MethodId) (args : Array Value) (below : List Frame) (meth : Method) (c : Code) (H : Heap) (locs : List Loc) (c0 s0 : Nat) (g : JFrame) (rest : List Value) (Qa : State → Outcome → State → Prop) (free : Addr → Prop) : Prop :=
  ∀ T : State, T.heap = H → Stand p l e R s m args below meth c T locs c0 s0 → ∃ (o : Outcome) (st₀ t U' : State) (L : List Loc), st₀.heap = H ∧ Qa st₀ o t ∧ (∀ q ∈ L, free q.base) ∧ U'.heap = t.heap ∧ U'.vm = t.vm ∧ Stand p l e R s m args below meth c U' (locs ++ L) (c0 + 1) (s0 + 6) ∧
    (∀ v, o = .returned v → ∀ tg, Steps p.tables e below (U'.setTop { g with pc := g.pc + 3, stack := v.toList ++ rest }) tg → Steps p.tables e below (T.setTop g) tg) ∧
    (∀ x, o = .threw x → ∀ tg, Steps p.tables e below ((U'.setTop { g with stack := rest }).pushFrame (.throwing x)) tg → Steps p.tables e below (T.setTop g) tg)
section XX3
variable {p : Program} {l : Launch} {e : Env} {R : Room} {s : State} {m : MethodId} {args : Array Value} {below : List Frame} {meth : Method} {c : Code} {H : Heap} {locs : List Loc} {c0 s0 : Nat} {y : MethodName} {bytes cc : ByteArray} {maxL nL n index : Nat} {ret : Option FieldType} {ws : List Cond} {rm : Room} {Pc : Array Value → State → Prop} {Qc : Array Value → State → Outcome → State → Prop} {free : Addr → Prop} {Ts : List Cond} {own C : String} {b : Addr} {As rest : List Value} {g : JFrame}
theorem xr_V (S : CallFix p m c cc nL s args Ts own) (hM : MetX l y ws rm Pc Qc 1 6 free) (cw : CallW R s args own C index y bytes maxL ret ws rm 1 6 n) (hp : PreV s H C b Pc As)
    (hg : g.method = m) (hn : As.length = n) (hsize : g.locals.size = nL) (hstack : g.stack = As.reverse ++ .ref b :: rest) (hW : 2 * g.monitorRoom + (rest.map fun v => v.category).sum ≤ 8) (hdg : decode cc g.pc = .ok (.invokevirtual index, 3)) (hf : c0 + 1 ≤ R.cells ∧ s0 + 6 ≤ R.slots) :
    xr_R p l e R s m args below meth c H locs c0 s0 g rest (Qc (Value.ref b :: As).toArray) free := by
  obtain ⟨⟨hrc, hrs, hfr, hlo, hws, hcw, hcode, hini, hy, hlen, hl⟩, hinst, hsel⟩ := cw
  obtain ⟨hx, hb, hml, hown, -⟩ := S
  obtain ⟨hbl, ⟨cellB, hcell, hobj, hcls⟩, hPc⟩ := hp
  intro T hT X
  obtain ⟨mk, methM, hnamed, hmethM, hstM, habM⟩ := Cond.instanceMethod_spec hinst
  obtain ⟨methM', cM, hmethM', -, -, -, -, -, -, hsigM⟩ := Cond.code_spec hnamed hcode
  cases hmethM.symm.trans hmethM'
  obtain ⟨c2, r2, m2, q1, q2, q3, q4, kP, hkP, hkPi⟩ := Cond.selects_spec hsel
  cases hcls.symm.trans q1
  cases (State.methodFound?_of_named hnamed hy).symm.trans q2
  cases hnamed.symm.trans q3
  have hselP : selectMethod e.platform s.vm cellB.cls mk = .method mk := by rw [Launch.admits_selectMethod X.admits]; exact q4
  have hdg' : decode c.code g.pc = .ok (.invokevirtual index, 3) := by rw [hb]; exact hdg
  obtain ⟨vm₁, X₁, hstep₁⟩ := X.invokevirtual hx hown hl hnamed hmethM hstM hkP hkPi hy (a := b) (cell := cellB) (by rw [hT]; exact hcell)
    (fun z h => by rw [h] at hobj; cases hobj) hselP hmethM habM hkP hkPi (g := g) hg (argsL := As) (rest := rest) (hn.trans (hlen _ hsigM)) hstack hdg'
  obtain ⟨o, st₀, t, U', L, h1, h2, h3, h4, h5, h6, h7, h8⟩ := bx_run (bytes := bytes) (maxL := maxL) (ret := ret) (Wt := 8) hM hbl hrc hrs hfr hlo hws hcw (fun a' U hW => word_at hW (Or.inl (by first | rfl | simp [Cond.onTables, Cond.keeps, Cond.steady])) hini) X₁ (g := { g with stack := rest }) hg (hsize.trans hml.symm) hdg' hW (X₁.named hnamed) hf.1 hf.2 (hPc (T.setVm vm₁) hT X₁.warmed)
  exact ⟨o, st₀, t, U', L, h1.trans hT, h2, h3, h4, h5, h6, fun v hv tg h => hstep₁ _ fun acts => by rw [doInvoke_state]; exact (h7 v hv).trans h, fun x hx tg h => hstep₁ _ fun acts => by rw [doInvoke_state]; exact (h8 x hx).trans h⟩
theorem xr_S (S : CallFix p m c cc nL s args Ts own) (hM : MetX l y ws rm Pc Qc 1 6 free) (cw : CallB R s args own index y bytes maxL ret ws rm 1 6 n ∧ (Cond.static y).before args s = true) (hp : PreS s H Pc As)
    (hg : g.method = m) (hn : As.length = n) (hsize : g.locals.size = nL) (hstack : g.stack = As.reverse ++ rest) (hW : 2 * g.monitorRoom + (rest.map fun v => v.category).sum ≤ 8) (hdg : decode cc g.pc = .ok (.invokestatic index, 3)) (hf : c0 + 1 ≤ R.cells ∧ s0 + 6 ≤ R.slots) :
    xr_R p l e R s m args below meth c H locs c0 s0 g rest (Qc As.toArray) free := by
  obtain ⟨⟨hrc, hrs, hfr, hlo, hws, hcw, hcode, hini, hy, hlen, hl⟩, hstat⟩ := cw
  obtain ⟨hx, hb, hml, hown, -⟩ := S
  intro T hT X
  obtain ⟨mk, hnamed⟩ := Cond.code_named hcode
  obtain ⟨methM, cM, hmethM, -, -, -, -, -, -, hsigM⟩ := Cond.code_spec hnamed hcode
  have hstatic : methM.isStatic = true := Cond.static_spec hnamed hmethM hstat
  obtain ⟨kP, hkP, -⟩ := className_of_methodNamed hnamed
  have hinitP : kP.init = .initialized := Cond.initialized_spec (findClass_of_methodNamed hnamed) hkP hini
  have hdg' : decode c.code g.pc = .ok (.invokestatic index, 3) := by rw [hb]; exact hdg
  obtain ⟨vm₁, X₁, hstep₁⟩ := X.invokestatic hx hown hl hnamed hmethM hstatic hkP hinitP hy (g := g) hg (argsL := As) (rest := rest) (hn.trans (hlen _ hsigM)) hstack hdg'
  obtain ⟨o, st₀, t, U', L, h1, h2, h3, h4, h5, h6, h7, h8⟩ := bx_run (bytes := bytes) (maxL := maxL) (ret := ret) (Wt := 8) hM hp.1 hrc hrs hfr hlo hws hcw (fun a' U hW => word_at hW (Or.inl (by first | rfl | simp [Cond.onTables, Cond.keeps, Cond.steady])) hini) X₁ (g := { g with stack := rest }) hg (hsize.trans hml.symm) hdg' hW (X₁.named hnamed) hf.1 hf.2 (hp.2 (T.setVm vm₁) hT X₁.warmed)
  exact ⟨o, st₀, t, U', L, h1.trans hT, h2, h3, h4, h5, h6, fun v hv tg h => hstep₁ _ fun acts => by rw [doInvoke_state]; exact (h7 v hv).trans h, fun x hx tg h => hstep₁ _ fun acts => by rw [doInvoke_state]; exact (h8 x hx).trans h⟩
end XX3
section XX4
variable {p : Program} {l : Launch} {e : Env} {R : Room} {s : State} {m : MethodId} {args : Array Value} {below : List Frame} {meth : Method} {c : Code} {D : va_G} {cl : List vw_C} {b N : Nat} {ce : Nat → (Nat → Int32) → va_E} {nL : Nat} {σ σ' : mm_M} {pc : Nat} {L : List (Option Value)} {rest : List Value} {cc : ByteArray} {Ts : List Cond} {own : String} {x : Nat} {r xv : Int32}
theorem v_iretX (S : CallFix p m c cc nL s args Ts own) (hr : meth.sig.returnType = some .int) (hlocks : meth.locks = false) (d : decode cc pc = .ok (.ireturn, 1)) : vv p l e R s m args below meth c D cl b N ce nL (mx_Q below (qc_x D cl b N ce (fun r => some (.int r)) x r σ') args s 1 6 (mm_A b N)) (x, r, σ') (some (0, xv, σ)) σ pc L [.int xv] := fun hk H locs ls hl hP hS => by
  intro T hT X
  have hsz : H.size = s.heap.size := by
    have h1 := X.heapSize
    rw [hT] at h1
    have := hS.1
    omega
  have hk2 := Option.some.inj hk
  have e1 : x = 0 := (congrArg Prod.fst hk2).symm
  have e2 : xv = r := congrArg (fun z => z.2.1) hk2
  have e3 : σ = σ' := congrArg (fun z => z.2.2) hk2
  exact w_mono (fun t => mx_of) (W.widen (k := 1) (n := 6) (by omega) (by omega) (W.iret (Qc := qc_x D cl b N ce (fun r => some (.int r)) x r σ') S.1 S.2.1 hr (fun t ht hW => ⟨Or.inl ⟨e1, by rw [e2], by rw [ht, hsz]⟩, by rw [← e3, ht]; exact hP, hS.F ht⟩) hS.2.2 d hlocks)) T hT X
theorem v_vretX (S : CallFix p m c cc nL s args Ts own) (hr : meth.sig.returnType = none) (hlocks : meth.locks = false) (d : decode cc pc = .ok (.return_, 1)) : vv p l e R s m args below meth c D cl b N ce nL (mx_Q below (qc_x D cl b N ce (fun _ => none) x r σ') args s 1 6 (mm_A b N)) (x, r, σ') (some (0, 0, σ)) σ pc L [] := fun hk H locs ls hl hP hS => by
  intro T hT X
  have hsz : H.size = s.heap.size := by
    have h1 := X.heapSize
    rw [hT] at h1
    have := hS.1
    omega
  have hk2 := Option.some.inj hk
  have e1 : x = 0 := (congrArg Prod.fst hk2).symm
  have e3 : σ = σ' := congrArg (fun z => z.2.2) hk2
  exact w_mono (fun t => mx_of) (W.widen (k := 1) (n := 6) (by omega) (by omega) (W.vret (Qc := qc_x D cl b N ce (fun _ => none) x r σ') S.1 S.2.1 hr (fun t ht hW => ⟨Or.inl ⟨e1, rfl, by rw [ht, hsz]⟩, by rw [← e3, ht]; exact hP, hS.F ht⟩) hS.2.2 d hlocks)) T hT X
/-- a call of a method that may throw, in one that hands the exception on -/
theorem v_cx {vf vf2 : Int32 → Option Value} {st0 : List Value} {av : Array Value} {g : Option (Nat × Int32 × mm_M)} {kf : Int32 → mm_M → Option (Nat × Int32 × mm_M)} (hnh : c.exceptionTable.isEmpty = true) (hlocks : meth.locks = false)
    (hr : ∀ (x1 : Nat) (r1 : Int32) (σ1 : mm_M), g = some (x1, r1, σ1) → ∀ (H : Heap) (locs : List Loc) (ls : Array Slot), ls.size = nL → mm_P D cl b N ce σ H → va_S (mm_A b N) s.heap H locs → xr_R p l e R s m args below meth c H locs 0 0 (F0 m pc ls st0) rest (qc_x D cl b N ce vf2 x1 r1 σ1 av) (mm_A b N))
    (kk : ∀ (r1 : Int32) (σ1 : mm_M), g = some (0, r1, σ1) → vv p l e R s m args below meth c D cl b N ce nL (mx_Q below (qc_x D cl b N ce vf x r σ') args s 1 6 (mm_A b N)) (x, r, σ') (kf r1 σ1) σ1 (pc + 3) L ((vf2 r1).toList ++ rest)) :
    vv p l e R s m args below meth c D cl b N ce nL (mx_Q below (qc_x D cl b N ce vf x r σ') args s 1 6 (mm_A b N)) (x, r, σ') (bx g (fun x1 σ1 => some (x1, 0, σ1)) kf) σ pc L st0 := by
  intro hk H locs ls hl hP hS
  cases hg : g with
  | none => rw [hg] at hk; cases hk
  | some z =>
    obtain ⟨x1, r1, σ1⟩ := z
    rw [hg] at hk
    intro T hT X
    have hszH : H.size = s.heap.size := by
      have h1 := X.heapSize
      rw [hT] at h1
      have := hS.1
      omega
    obtain ⟨o, st₀, t, U', Lx, h0, ⟨hq, hP1, hz, hkp⟩, hL, e1, e2, X', hret, hthr⟩ := hr x1 r1 σ1 hg H locs ls hl.1 hP hS T hT X
    rw [h0] at hz hkp hq
    have hS' : va_S (mm_A b N) s.heap U'.heap (locs ++ Lx) := ⟨Nat.le_trans hS.1 (by rw [e1]; exact hz), fun q h1 h2 => by rw [e1, hkp q (Nat.lt_of_lt_of_le h1 hS.1) h2]; exact hS.2.1 q h1 h2, fun q hq => by
      rcases List.mem_append.mp hq with h | h
      · exact hS.2.2 q h
      · exact hL q h⟩
    rcases hq with ⟨rfl, rfl, hsz⟩ | ⟨hne, a, rfl, hex⟩
    · have X'' := st_shrink X' (by rw [e1, hsz, hszH])
      obtain ⟨t2, a1, b1⟩ := kk r1 σ1 hg hk U'.heap (locs ++ Lx) ls hl (by rw [e1]; exact hP1) hS' U' rfl X''
      exact ⟨t2, hret _ rfl t2 a1, b1⟩
    · obtain ⟨x2, rfl⟩ : ∃ x2, x1 = x2 + 1 := ⟨x1 - 1, by omega⟩
      have hk2 : (x2 + 1, (0 : Int32), σ1) = (x, r, σ') := Option.some.inj hk
      have e3 : x2 + 1 = x := congrArg Prod.fst hk2
      have e4 : σ1 = σ' := congrArg (fun z => z.2.2) hk2
      obtain ⟨hwalk, hrun, hended, hWU, hsame⟩ := X'.leaveThrown a (g := { F0 m pc ls st0 with stack := rest }) rfl rfl rfl (covers_of_empty hnh _) hlocks
      refine ⟨_, hthr a rfl _ hwalk, .threw a, hrun, hended, ⟨Or.inr ⟨by omega, a, rfl, ?_⟩, ?_, ?_⟩, locs ++ Lx, ⟨hWU, by simpa using hsame⟩, fun q hq => hS'.2.2 q hq⟩
      · obtain ⟨g1, cell, k, g2, g3, g4, g5⟩ := hex
        refine ⟨by rw [← hszH]; exact g1, cell, k, ?_, g3, ?_, ?_⟩
        · show U'.heap[a]? = some cell
          rw [e1]; exact g2
        · show U'.vm.classes[cell.cls]? = some k
          rw [e2]; exact g4
        · show U'.vm.findClass (ex_nm x) = some cell.cls
          rw [e2, ← e3]; exact g5
      · show mm_P D cl b N ce σ' U'.heap
        rw [← e4, e1]; exact hP1
      · exact ⟨hS'.1, hS'.2.1⟩
end XX4
section XX5
variable {l : Launch} {D : va_G} {cl : List vw_C} {b N : Nat} {ce : Nat → (Nat → Int32) → va_E} {KK : State → Prop} {y : MethodName} {ws ws' : List Cond} {rm : Room} {av : List Value} {σ : mm_M} {cc : ByteArray} {maxL : Nat}
theorem vv_goX {Qc : Array Value → State → Outcome → State → Prop} {ret : Option FieldType} (hy : plainName y.cls = true) (hw : ws = Cond.code y cc maxL ret :: ws') (hav : ∀ v ∈ av, v.category = 1) (hn : av.length ≤ maxL)
    (body : ∀ (p : Program) (e : Env) (s : State) (m : MethodId) (below : List Frame) (meth : Method) (c : Code), meth.locks = false → meth.sig.returnType = ret → c.exceptionTable.isEmpty = true → CallFix p m c cc maxL s av.toArray ws y.cls → KK s → mm_P D cl b N ce σ s.heap → ∀ ls, lo_ok ls maxL (av.map some) →
      W p l e (headSpec ws rm).room s m av.toArray below meth c s.heap [] 0 0 (mx_Q below Qc av.toArray s 1 6 (mm_A b N)) (F0 m 0 ls [])) : MetX l y ws rm (pc_w D cl b N ce KK av σ) Qc 1 6 (mm_A b N) := by
  refine MetX.ofW (cc := cc) (maxL := maxL) (ret := ret) hy hw ?_
  intro p e s m args below meth c s₁ B hml hv
  obtain ⟨rfl, hP, hKK⟩ := hv
  rw [entry_eq m av hav maxL]
  have hts := atoms_spec (ws := ws) B.pre
  exact body p e s m below meth c B.notSynchronized B.returns (B.noHandlers (hts _ (by rw [hw]; exact List.mem_cons_self))) ⟨B.exec, B.bytes, hml, findClass_of_methodNamed B.named, hts⟩ hKK hP _ (lo_entry av hav hn)
end XX5

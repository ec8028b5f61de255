/-! part 34: constructors: a world that grows; the judgement vo -/
theorem mm_push {D : va_G} {cl : List vw_C} {b n : Nat} {cf : Nat → va_E} {e : va_E} {H H1 : Heap} (hP : va_P D cl (mm_wl b n cf) H) (hk : ∀ q : Nat, q < b + n → H1[q]? = H[q]?) (he : va_at D cl (b + n, e) H1) : va_P D cl (mm_wl b (n + 1) (va_up cf n e)) H1 := by
  intro k q hq
  obtain ⟨hlt, rfl⟩ := mm_key hq
  by_cases hkn : k = n
  · subst hkn
    rw [va_up_self]
    exact he
  · rw [va_up_ne _ _ hkn]
    exact (hP k _ (mm_get (by omega))).kept (hk _ (by show b + k < b + n; omega))
theorem mm_DB {b n : Nat} {cf : Nat → va_E} : va_D (fun q => b ≤ q) (mm_wl b n cf) := mm_D.weaken (fun _ _ _ h => h.1)
def vo (p : Program) (l : Launch) (e : Env) (R : Room) (s : State) (m : MethodId) (args : Array Value) (below : List Frame) (meth : Method) (c : Code) (D : va_G) (b nL : Nat) (Q : State → Prop) (cf : Nat → va_E) (n cs ss pc : Nat) (L : List (Option Value)) (st : List Value) : Prop :=
  ∀ (H : Heap) (locs : List Loc) (ls : Array Slot), lo_ok ls nL L → va_P D cls (mm_wl b n cf) H → va_S (fun q => b ≤ q) s.heap H locs → W p l e R s m args below meth c H locs cs ss Q (F0 m pc ls st)
/-- what the constructors know of the tables: array classes too -/
def ma_AO (U : State) : Prop := ∃ (comp c : ClassId) (k : Class), U.vm.findClass (FieldType.array .int).toString = some comp ∧ U.vm.classes[c]? = some k ∧ k.kind = .array comp (.array .int) ∧ U.vm.findClass ("[" ++ (FieldType.array .int).toString) = some c
theorem ma_AO.moved {u U : State} (hvm : u.vm.Alike U.vm) (h : ma_AO u) : ma_AO U := by
  obtain ⟨comp, c, k, h1, h2, h3, h4⟩ := h
  obtain ⟨k', g1, g2⟩ := hvm.2.2 _ _ h2
  exact ⟨comp, c, k', by rw [hvm.findClass]; exact h1, g1, by rw [g2]; exact h3, by rw [hvm.findClass]; exact h4⟩
def kO (D : va_G) (ca : Nat → ClassId) (U : State) : Prop := va_K D cls (tys ca) U ∧ va_AO "FrameVerifier$Frame" U ∧ ma_AO U
theorem kO.moved {D : va_G} {ca : Nat → ClassId} {u U : State} (hvm : u.vm.Alike U.vm) (h : kO D ca u) : kO D ca U := ⟨va_K.moved hvm h.1, va_AO.moved hvm h.2.1, ma_AO.moved hvm h.2.2⟩
abbrev pc_c (D : va_G) (ca : Nat → ClassId) (b n : Nat) (cf : Nat → va_E) (av : List Value) : Array Value → State → Prop := va_Pc av (fun U => va_P D cls (mm_wl b n cf) U.heap ∧ U.heap.size = b + n ∧ kO D ca U)
abbrev qc_c (D : va_G) (b n : Nat) (cf : Nat → va_E) : Array Value → State → Outcome → State → Prop := va_Qv (fun _ : Unit => True) (fun _ t => va_P D cls (mm_wl b n cf) t.heap) (fun q => b ≤ q)
section VC1
variable {p : Program} {l : Launch} {e : Env} {R : Room} {s : State} {m : MethodId} {args : Array Value} {below : List Frame} {meth : Method} {c : Code} {D : va_G} {b nL : Nat} {Q : State → Prop} {cf cf2 : Nat → va_E} {n n2 cs ss pc : Nat} {L L2 : List (Option Value)} {rest : List Value} {cc : ByteArray} {Ts : List Cond} {own : String} {ca : Nat → ClassId}
theorem vo_lift {pc2 : Nat} {st st2 : List Value} (h : ∀ (H : Heap) (locs : List Loc) (ls : Array Slot), lo_ok ls nL L → W p l e R s m args below meth c H locs cs ss Q (F0 m pc2 ls st2) → W p l e R s m args below meth c H locs cs ss Q (F0 m pc ls st)) (kk : vo p l e R s m args below meth c D b nL Q cf n cs ss pc2 L st2) : vo p l e R s m args below meth c D b nL Q cf n cs ss pc L st := fun H locs ls hl hP hS => h H locs ls hl (kk H locs ls hl hP hS)
/-- how large the heap is -/
theorem vo_sz {H : Heap} {T : State} {locs : List Loc} (hcnt : s.heap.size + cs = b + n) (hn : 0 < n) (hP : va_P D cls (mm_wl b n cf) H) (hT : T.heap = H) (X : Stand p l e R s m args below meth c T locs cs ss) : H.size = b + n := by
  have h1 := X.heapSize
  rw [hT] at h1
  have h2 : (b + (n - 1), cf (n - 1)).1 < H.size := (hP (n - 1) _ (mm_get (by omega))).lt
  simp only at h2
  omega
theorem vo_new {ci index N : Nat} {C : String} {T : u_T} {fs : List Value} (S : CallFix p m c cc nL s args Ts own) (hin : ∀ w ∈ u_ws C T N, w ∈ Ts) (ty : Nat → FieldType) (hty : ∀ k, k < N → parseFieldDescriptor (T k).2.2.1 = some (ty k)) (hcl : (Cond.classLink own index C).before args s = true) (hinst : (Cond.instantiable C N).before args s = true) (hini : (Cond.initialized C).before args s = true) (hK : va_K D cls (tys ca) s) (hc : cls[ci]? = some (C, T, N)) (hfs : ∀ j, j < N → defaultValue (ty j) = vp_V fs j) (hcnt : s.heap.size + cs = b + n) (hn : 0 < n) (hcells : cs + 1 ≤ R.cells) (hslots : ss + N ≤ R.slots) (d : decode cc pc = .ok (.new index, 3))
    (kk : vo p l e R s m args below meth c D b nL Q (va_up cf n (.inr (ci, fs))) (n + 1) (cs + 1) (ss + N) (pc + 3) L (.ref (b + n) :: rest)) : vo p l e R s m args below meth c D b nL Q cf n cs ss pc L rest := by
  intro H locs ls hl hP hS T0 hT X
  have hz := vo_sz hcnt hn hP hT X
  have hKn := hK.1 ci _ hc
  refine W.newcK S.1 S.2.1 S.2.2.2.1 hcl hinst hini (g := F0 m pc ls rest) rfl d hcells hslots hKn.2.1 hz (fun H1 kC hkC e1 z1 o1 => ?_) T0 hT X
  refine kk H1 locs ls hl (mm_push hP (fun q hq => o1 q hq) ⟨_, hc, (u_born ty S.2.2.2.2 hin hKn hkC e1 hty).to hfs⟩) ⟨by have := hS.1; omega, fun x h1 h2 => (o1 x (by have := hS.1; omega)).trans (hS.2.1 x h1 h2), hS.2.2⟩
theorem vo_newa {atype : ArrayType} {ty : FieldType} {t0 N : Nat} {x : Int32} (S : CallFix p m c cc nL s args Ts own) (hty : newarray.typeOf atype = ty) (hs : ty = .int ∨ ty = .boolean) (harr : (Cond.arrayClass (newarray.typeOf atype)).before args s = true) (hK : va_K D cls (tys ca) s) (ht : (tys ca)[t0]? = some (ca t0, ty)) (hcnt : s.heap.size + cs = b + n) (hn : 0 < n) (hx : ¬ x < 0) (hN : x.toNatClampNeg = N) (hbytes : N * 4 ≤ 536870912) (hcells : cs + 1 ≤ R.cells) (hslots : ss + N ≤ R.slots) (d : decode cc pc = .ok (.newarray atype, 2))
    (kk : vo p l e R s m args below meth c D b nL Q (va_up cf n (.inl (ca t0, N, .inl (fun _ => 0)))) (n + 1) (cs + 1) (ss + N) (pc + 2) L (.ref (b + n) :: rest)) : vo p l e R s m args below meth c D b nL Q cf n cs ss pc L (.int x :: rest) := by
  intro H locs ls hl hP hS T0 hT X
  have hz := vo_sz hcnt hn hP hT X
  have hb4 : N * componentBytes (newarray.typeOf atype) ≤ 536870912 := by
    rw [hty]
    rcases hs with rfl | rfl
    · exact hbytes
    · show N * 1 ≤ _
      omega
  refine va_newaK S.1 S.2.1 harr (g := F0 m pc ls (.int x :: rest)) rfl d rfl hx hN hb4 hcells hslots hz (fun H1 cA e1 z1 o1 hAr hNm => ?_) T0 hT X
  have hcA : cA = ca t0 := by
    have h1 := (hK.2 t0 _ ht).2
    rw [hty] at hNm
    rcases hs with rfl | rfl <;> exact Option.some.inj (hNm.symm.trans h1)
  subst hcA
  refine kk H1 locs ls hl (mm_push hP (fun q hq => o1 q hq) ?_) ⟨by have := hS.1; omega, fun x h1 h2 => (o1 x (by have := hS.1; omega)).trans (hS.2.1 x h1 h2), hS.2.2⟩
  show H1[b + n]? = some (vp_cell _ _)
  rw [e1, hty, vp_cell_i]
  rcases hs with rfl | rfl <;> rfl
theorem vo_anew {index N : Nat} {C : String} {x : Int32} (S : CallFix p m c cc nL s args Ts own) (hcl : (Cond.classLink own index C).before args s = true) (hover : (Cond.arrayOver (.object C)).before args s = true) (hK : va_K D cls (tys ca) s) {t0 : Nat} (ht : (tys ca)[t0]? = some (ca t0, .object C)) (hcnt : s.heap.size + cs = b + n) (hn : 0 < n) (hx : ¬ x < 0) (hN : x.toNatClampNeg = N) (hbytes : N * 4 ≤ 536870912) (hcells : cs + 1 ≤ R.cells) (hslots : ss + N ≤ R.slots) (d : decode cc pc = .ok (.anewarray index, 3))
    (kk : vo p l e R s m args below meth c D b nL Q (va_up cf n (.inl (ca t0, N, .inr (.inr (.inr (.inr (fun _ => none))))))) (n + 1) (cs + 1) (ss + N) (pc + 3) L (.ref (b + n) :: rest)) : vo p l e R s m args below meth c D b nL Q cf n cs ss pc L (.int x :: rest) := by
  subst hN
  intro H locs ls hl hP hS T0 hT X
  have hz := vo_sz hcnt hn hP hT X
  refine W.anew S.1 S.2.1 S.2.2.2.1 hcl hover (g := F0 m pc ls (.int x :: rest)) rfl d rfl hx hbytes hcells hslots (fun cA kA comp h1 h2 h3 h4 => ?_) T0 hT X
  have hcA : cA = ca t0 := by
    obtain ⟨kA', comp', g1, g2, g3, g4⟩ := (hK.2 t0 _ ht).2
    exact Option.some.inj (h1.symm.trans g4)
  subst hcA
  have o1 : ∀ q : Nat, q < b + n → (H.push { cls := ca t0, slots := Array.replicate x.toNatClampNeg .null, vm := .none })[q]? = H[q]? := fun q hq => by rw [Array.getElem?_push, if_neg (by omega)]
  rw [hz]
  refine kk _ locs ls hl (mm_push hP o1 ?_) ⟨by have := hS.1; simp; omega, fun x h1 h2 => (o1 x (by have := hS.1; omega)).trans (hS.2.1 x h1 h2), hS.2.2⟩
  show (H.push _)[b + n]? = some (vp_cell _ _)
  rw [← hz, vp_cell_q, ← arrV_new]
  simp [va_rf]
theorem vo_put {index N ci j kq : Nat} {ref C : String} {T : u_T} {fs : List Value} {v : Value} {ty : FieldType} (S : CallFix p m c cc nL s args Ts own) (hin : ∀ w ∈ u_ws C T N, w ∈ Ts) (ty0 : Nat → FieldType) (hty : ∀ k, k < N → parseFieldDescriptor (T k).2.2.1 = some (ty0 k)) (hnm : ∀ a, a < N → ∀ b, b < N → a ≠ b → (T a).2.1 ≠ (T b).2.1) (hK : va_K D cls (tys ca) s) (hkq : kq < n) (hce : cf kq = .inr (ci, fs)) (hc : cls[ci]? = some (C, T, N)) (hj : j < N) (hlink : (Cond.fieldLink own index ref (T j).2.1 (T j).2.2.1).before args s = true) (hsame : ∀ x, s.fieldFound? (T j).1 (T j).2.1 (T j).2.2.1 = some x → s.fieldFound? ref (T j).2.1 (T j).2.2.1 = some x) (hfin : (T j).2.2.2 = false ∨ ((T j).2.2.2 = true ∧ meth.name = "<init>" ∧ (T j).1 = own)) (hd : parseFieldDescriptor (T j).2.2.1 = some ty) (hnr : narrow ty v = v) (hfit : fits ty v = true) (hl0 : j < fs.length) (d : decode cc pc = .ok (.putfield index, 3))
    (kk : vo p l e R s m args below meth c D b nL Q (va_up cf kq (.inr (ci, fs.set j v))) n cs ss (pc + 3) L rest) : vo p l e R s m args below meth c D b nL Q cf n cs ss pc L (v :: .ref (b + kq) :: rest) := by
  intro H locs ls hl hP hS
  have he : (mm_wl b n cf)[kq]? = some (b + kq, .inr (ci, fs)) := by rw [mm_get hkq, hce]
  rcases hfin with hfin | ⟨hfin, hin2, hdecl⟩
  · exact va_put S.1 S.2.1 S.2.2.2.2 hin ty0 hty hnm S.2.2.2.1 hK hP mm_DB hS kq he hc j hj hlink hsame hfin hd hnr hfit hl0 d (fun H1 locs1 hP1 _ hS1 => kk H1 locs1 ls hl (by rw [mm_set] at hP1; exact hP1) hS1)
  · exact va_putF S.1 S.2.1 S.2.2.2.2 hin ty0 hty hnm S.2.2.2.1 hK hP mm_DB hS kq he hc j hj hlink hsame hfin hin2 hdecl hd hnr hfit hl0 d (fun H1 locs1 hP1 _ hS1 => kk H1 locs1 ls hl (by rw [mm_set] at hP1; exact hP1) hS1)
theorem vo_get {index N ci j kq : Nat} {ref C : String} {T : u_T} {fs : List Value} {v : Value} (S : CallFix p m c cc nL s args Ts own) (hin : ∀ w ∈ u_ws C T N, w ∈ Ts) (hK : va_K D cls (tys ca) s) (hkq : kq < n) (hce : cf kq = .inr (ci, fs)) (hc : cls[ci]? = some (C, T, N)) (hj : j < N) (hlink : (Cond.fieldLink own index ref (T j).2.1 (T j).2.2.1).before args s = true) (hsame : ∀ x, s.fieldFound? (T j).1 (T j).2.1 (T j).2.2.1 = some x → s.fieldFound? ref (T j).2.1 (T j).2.2.1 = some x) (hv : fs[j]? = some v) (d : decode cc pc = .ok (.getfield index, 3))
    (kk : vo p l e R s m args below meth c D b nL Q cf n cs ss (pc + 3) L (v :: rest)) : vo p l e R s m args below meth c D b nL Q cf n cs ss pc L (.ref (b + kq) :: rest) := fun H locs ls hl hP hS =>
  va_get S.1 S.2.1 S.2.2.2.2 hin S.2.2.2.1 hK hP kq (by rw [mm_get hkq, hce]) hc j hj hlink hsame hv d (kk H locs ls hl hP hS)
theorem vo_obj {idx a : Nat} (S : CallFix p m c cc nL s args Ts own) (hlink : (Cond.methodLink own idx Lib.objectInit).before args s = true) (hinst : (Cond.instanceMethod Lib.objectInit).before args s = true) (hcode : (Cond.code Lib.objectInit ⟨#[0xb1]⟩ 1 none).before args s = true) (d : decode cc pc = .ok (.invokespecial idx, 3)) (hframes : 1 ≤ R.frames) (hlocals : (rest.map fun v => v.category).sum + 12 ≤ R.locals)
    (kk : vo p l e R s m args below meth c D b nL Q cf n cs ss (pc + 3) L rest) : vo p l e R s m args below meth c D b nL Q cf n cs ss pc L (.ref a :: rest) := fun H locs ls hl hP hS =>
  W.objInit S.1 S.2.1 S.2.2.2.1 hlink hinst hcode (g := F0 m pc ls (.ref a :: rest)) rfl (hl.1.trans S.2.2.1.symm) rfl d hframes (by show 2 * 0 + _ + 12 ≤ _; omega) (kk H locs ls hl hP hS)
theorem vo_ret {n2 : Nat} (S : CallFix p m c cc nL s args Ts own) (hr : meth.sig.returnType = none) (hlocks : meth.locks = false) (d : decode cc pc = .ok (.return_, 1)) : vo p l e R s m args below meth c D b nL (MQ below (qc_c D b n cf) args s cs ss (fun q => b ≤ q)) cf n cs ss pc L [] := fun H locs ls hl hP hS =>
  W.vret S.1 S.2.1 hr (fun t ht hW => ⟨⟨(), rfl, trivial, by show va_P D cls (mm_wl b n cf) t.heap; rw [ht]; exact hP⟩, hS.F ht⟩) hS.2.2 d hlocks
theorem vo_ci {index n2 maxL mc ms k kq : Nat} {y : MethodName} {bytes : ByteArray} {ws : List Cond} {rm : Room} {As st0 : List Value} (S : CallFix p m c cc nL s args Ts own) (hK : kO D ca s) (hcnt : s.heap.size + cs = b + n) (hn : 0 < n) (hM : Met l y ws rm (pc_c D ca b n cf (.ref (b + kq) :: As)) (qc_c D b n2 cf2) mc ms (fun q => b ≤ q)) (cw : CallB R s args own index y bytes maxL none ws rm mc ms k ∧ y.name = "<init>" ∧ (Cond.instanceMethod y).before args s = true) (hk : As.length = k) (hst : st0 = As.reverse ++ .ref (b + kq) :: rest) (hw : (rest.map fun v => v.category).sum ≤ 8) (d : decode cc pc = .ok (.invokespecial index, 3)) (hf : cs + mc ≤ R.cells ∧ ss + ms ≤ R.slots)
    (kk : vo p l e R s m args below meth c D b nL Q cf2 n2 (cs + mc) (ss + ms) (pc + 3) L rest) : vo p l e R s m args below meth c D b nL Q cf n cs ss pc L st0 := by
  intro H locs ls hl hP hS T0 hT X
  have hz := vo_sz hcnt hn hP hT X
  refine va_callv (va_runI (As := As) (b := b + kq) S hM cw ⟨fun a U g mk q => ⟨q.1, q.2.1, q.2.2.1, kO.moved (u := U) (U := U.calling g mk a) (Vm.Alike.refl U.vm) q.2.2.2⟩, fun U hU hW => ⟨rfl, by rw [hU]; exact hP, by rw [hU]; exact hz, kO.moved hW.alike hK⟩⟩ rfl hk hl.1 hst (lv_room hw) d hf) hS (fun q _ h => h) (fun q h => h) (fun u t H1 locs1 ht hvm _ hB hz1 hk1 hS1 => ?_) T0 hT X
  exact kk H1 locs1 ls hl (by rw [← ht]; exact hB) hS1
end VC1
section VC2
variable {l : Launch} {D : va_G} {ca : Nat → ClassId} {b n n2 : Nat} {cf cf2 : Nat → va_E} {y : MethodName} {ws ws' : List Cond} {rm : Room} {av : List Value} {cc : ByteArray} {maxL mc ms : Nat}
theorem vo_go (hy : plainName y.cls = true) (hw : ws = Cond.code y cc maxL none :: ws') (hnm : y.name = "<init>") (hav : ∀ v ∈ av, v.category = 1) (hn : av.length ≤ maxL)
    (body : ∀ (p : Program) (e : Env) (s : State) (m : MethodId) (below : List Frame) (meth : Method) (c : Code), meth.locks = false → meth.sig.returnType = none → meth.name = "<init>" → CallFix p m c cc maxL s av.toArray ws y.cls → kO D ca s → s.heap.size + 0 = b + n →
      vo p l e (headSpec ws rm).room s m av.toArray below meth c D b maxL (MQ below (qc_c D b n2 cf2) av.toArray s mc ms (fun q => b ≤ q)) cf n 0 0 0 (av.map some) []) : Met l y ws rm (pc_c D ca b n cf av) (qc_c D b n2 cf2) mc ms (fun q => b ≤ q) := by
  refine Met.ofW (cc := cc) (maxL := maxL) (ret := none) hy hw ?_
  intro p e s m args below meth c s₁ B hml hv
  obtain ⟨rfl, hP, hz, hK⟩ := hv
  rw [entry_eq m av hav maxL]
  exact body p e s m below meth c B.notSynchronized B.returns ((name_of_methodNamed B.named B.method).1.trans hnm) ⟨B.exec, B.bytes, hml, findClass_of_methodNamed B.named, atoms_spec (ws := ws) B.pre⟩ hK hz s.heap [] _ (lo_entry av hav hn) hP va_S.rf
end VC2

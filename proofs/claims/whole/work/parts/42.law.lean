/-! part 42: the law's add, step, steps: what they share -/
/-- what the law knows of the tables and of the constants, which lie below b -/
def kL (D : va_G) (ca : Nat → ClassId) (ax : Nat → Nat → Nat) (b : Nat) (U : State) : Prop := va_K D cls (tys ca) U ∧ kc_c ax (fun q => b ≤ q) U U.heap ∧ kc_n U ∧ kX U
theorem kL.toC {D : va_G} {ca : Nat → ClassId} {ax : Nat → Nat → Nat} {b : Nat} {U : State} (h : kL D ca ax b U) : kC D ca ax b U := ⟨h.1, h.2.1.narrow (fun _ hq => hq.1), h.2.2.1⟩
theorem kc_n.warm {u U : State} (hW : u.WarmedH U.vm) (h : kc_n u) : kc_n U := ⟨va_Nw.warmF hW h.1, va_Nw.warmM hW h.2.1, fun i hi => va_Nw.warmD hW (h.2.2.1 i hi), fun i hi => va_Nw.warmC hW (h.2.2.2 i hi)⟩
theorem kc_n.same {u U : State} (hvm : u.vm = U.vm) (h : kc_n u) : kc_n U := ⟨va_Nw.same rfl hvm h.1, va_Nw.same rfl hvm h.2.1, fun i hi => va_Nw.same rfl hvm (h.2.2.1 i hi), fun i hi => va_Nw.same rfl hvm (h.2.2.2 i hi)⟩
theorem kL.go {D : va_G} {ca : Nat → ClassId} {ax : Nat → Nat → Nat} {b : Nat} {u U : State} (h : kL D ca ax b u) (hW : u.WarmedH U.vm) (hq : ∀ a : Nat, a < u.heap.size → ¬ b ≤ a → U.heap[a]? = u.heap[a]?) : kL D ca ax b U := ⟨va_K.moved hW.alike h.1, (h.2.1.moved hW.alike).kept hq, h.2.2.1.warm hW, h.2.2.2.moved hW.alike⟩
theorem kL.calling {D : va_G} {ca : Nat → ClassId} {ax : Nat → Nat → Nat} {b : Nat} {U : State} {g : JFrame} {mk : MethodId} {a : Array Value} (h : kL D ca ax b U) : kL D ca ax b (U.calling g mk a) := ⟨va_K.moved (u := U) (U := U.calling g mk a) (Vm.Alike.refl U.vm) h.1, kc_c.moved (u := U) (U := U.calling g mk a) (Vm.Alike.refl U.vm) h.2.1, kc_n.same (u := U) rfl h.2.2.1, kX.moved (u := U) (U := U.calling g mk a) (Vm.Alike.refl U.vm) h.2.2.2⟩
def fL (b o : Nat) : Nat → Prop := fun q => mm_A b N_C q ∨ q = o
abbrev oL (ca : Nat → ClassId) (o : Nat) (f : Nat → Int64) (H : Heap) : Prop := H[o]? = some (vp_cell (ca 4) (1, .inr (.inl f)))
abbrev pL (D : va_G) (ca : Nat → ClassId) (ax : Nat → Nat → Nat) (b o : Nat) (σ : mm_M) (av : List Value) : Array Value → State → Prop := va_Pc av (fun U => mm_P D cls b N_C (ce_C ca b) σ U.heap ∧ kL D ca ax b U ∧ ∃ f, oL ca o f U.heap)
abbrev qL (D : va_G) (ca : Nat → ClassId) (b o x : Nat) (r : Int32) (σ' : mm_M) (v : Int32) : Array Value → State → Outcome → State → Prop :=
  va_Qi (fun (w : Int32) (_ : Unit) => w = v) (fun _ t => mm_P D cls b N_C (ce_C ca b) σ' t.heap ∧ ∃ f, oL ca o f t.heap ∧ (x = 0 → f 0 = r.toInt64)) (fL b o)
section LA
variable {p : Program} {l : Launch} {e : Env} {R : Room} {s : State} {m : MethodId} {args : Array Value} {below : List Frame} {meth : Method} {c : Code} {D : va_G} {ca : Nat → ClassId} {b o x nL pc : Nat} {σ' : mm_M} {r v : Int32} {cc : ByteArray} {Ts : List Cond} {own : String} {H : Heap} {locs : List Loc} {ls : Array Slot} {Q : State → Prop}
theorem la_P {H1 : Heap} (hP : mm_P D cls b N_C (ce_C ca b) σ' H) (hk : ∀ q : Nat, q ≠ o → H1[q]? = H[q]?) (hbo : b + N_C ≤ o) : mm_P D cls b N_C (ce_C ca b) σ' H1 := by
  refine va_P.kept hP (fun k q hq => ?_)
  obtain ⟨hlt, rfl⟩ := mm_key hq
  exact hk _ (by show b + k ≠ o; omega)
theorem la_last {f0 : Nat → Int64} (S : CallFix p m c cc nL s args Ts own) (hK : va_K D cls (tys ca) s) (hP : mm_P D cls b N_C (ce_C ca b) σ' H) (hout : oL ca o f0 H) (hbo : b + N_C ≤ o) (hS : va_S (fL b o) s.heap H locs) (d1 : decode cc pc = .ok (.i2l, 1)) (d2 : decode cc (pc + 1) = .ok (.lastore, 1))
    (kk : ∀ (H1 : Heap) (locs1 : List Loc), mm_P D cls b N_C (ce_C ca b) σ' H1 → (∃ f, oL ca o f H1 ∧ f 0 = r.toInt64) → va_S (fL b o) s.heap H1 locs1 → W p l e R s m args below meth c H1 locs1 1 6 Q (F0 m (pc + 2) ls [])) : W p l e R s m args below meth c H locs 1 6 Q (F0 m pc ls [.int r, .int 0, .ref o]) := by
  refine lv_i2l S.1 S.2.1 d1 rfl ?_
  refine W.last S.1 S.2.1 hout ((hK.2 4 (ca 4, .long) rfl).1 1 (fun j => .long (f0 j))) (fun q => by cases q) (by show ¬ ((0 : Int32) < 0 ∨ (arrV _ _ _).slots.size ≤ _); rw [arrV_size]; exact (show ¬ ((0 : Int32) < 0 ∨ 1 ≤ (0 : Int32).toNatClampNeg) by decide)) rfl rfl d2 (fun H1 h1 z h2 => ?_)
  refine kk H1 _ (la_P hP h2 hbo) ⟨fun j => if j = 0 then r.toInt64 else f0 j, ?_, rfl⟩ (hS.put z h2 (Or.inr rfl))
  show H1[o]? = some (vp_cell _ _)
  rw [h1, vp_cell_l, vp_cell_l, arrV_store]
  congr 2
  funext j
  show updV (fun j => .long (f0 j)) (0 : Int32).toNatClampNeg (.long r.toInt64) j = .long (if j = 0 then r.toInt64 else f0 j)
  unfold updV
  rw [show (0 : Int32).toNatClampNeg = 0 by decide]
  by_cases h : j = 0
  · rw [if_pos h, if_pos h]
  · rw [if_neg h, if_neg h]
theorem la_fin {w : Int32} (S : CallFix p m c cc nL s args Ts own) (hr : meth.sig.returnType = some .int) (hlocks : meth.locks = false) (hP : mm_P D cls b N_C (ce_C ca b) σ' H) (hout : ∃ f, oL ca o f H ∧ (x = 0 → f 0 = r.toInt64)) (hS : va_S (fL b o) s.heap H locs) (hv : w = v) (d : decode cc pc = .ok (.ireturn, 1)) : W p l e R s m args below meth c H locs 1 6 (MQ below (qL D ca b o x r σ' v) args s 1 6 (fL b o)) (F0 m pc ls [.int w]) :=
  W.iret S.1 S.2.1 hr (fun t ht _ => ⟨⟨w, (), rfl, hv, by subst ht; exact ⟨hP, hout⟩⟩, hS.F ht⟩) hS.2.2 d hlocks
theorem ex_to {nm : String} {z : Nat} {a : Addr} {t U : State} (h : ex_at nm z a t) (e1 : U.heap = t.heap) (e2 : U.vm = t.vm) : ex_at nm 0 a U := by
  obtain ⟨-, cell, k, h1, h2, h3, h4⟩ := h
  exact ⟨Nat.zero_le _, cell, k, by rw [e1]; exact h1, h2, by rw [e2]; exact h3, by rw [e2]; exact h4⟩
/-- behind the call: it came back, or its exception is looked for -/
theorem la_call {f0 : Nat → Int64} {st0 : List Value} {av : Array Value} (hout : oL ca o f0 s.heap) (hbo : b + N_C ≤ o)
    (xr : xr_R p l e R s m args below meth c s.heap [] 0 0 (F0 m pc ls st0) [.int 0, .ref o] (qc_x D cls b N_C (ce_C ca b) (fun r => some (.int r)) x r σ' av) (mm_A b N_C))
    (hret : x = 0 → ∀ (H : Heap) (locs : List Loc), mm_P D cls b N_C (ce_C ca b) σ' H → oL ca o f0 H → va_S (fL b o) s.heap H locs → W p l e R s m args below meth c H locs 1 6 Q (F0 m (pc + 3) ls [.int r, .int 0, .ref o]))
    (hthr : x ≠ 0 → ∀ (T : State) (locs : List Loc) (a : Addr), Stand p l e R s m args below meth c T locs 1 6 → ex_at (ex_nm x) 0 a T → mm_P D cls b N_C (ce_C ca b) σ' T.heap → oL ca o f0 T.heap → va_S (fL b o) s.heap T.heap locs → ∃ t, Steps p.tables e below ((T.setTop { F0 m pc ls st0 with stack := [.int 0, .ref o] }).pushFrame (.throwing a)) t ∧ Q t) : W p l e R s m args below meth c s.heap [] 0 0 Q (F0 m pc ls st0) := by
  intro T hT X
  obtain ⟨oc, st₀, t, U', Lx, h0, ⟨hq, hP1, hz, hkp⟩, hL, e1, e2, X', hr, ht⟩ := xr T hT X
  rw [h0] at hz hkp hq
  have holt : o < s.heap.size := (Array.getElem?_eq_some_iff.mp hout).1
  have hout1 : oL ca o f0 U'.heap := by
    show U'.heap[o]? = _
    rw [e1, hkp o holt (fun h => by have := h.2; omega)]
    exact hout
  have hS' : va_S (fL b o) s.heap U'.heap ([] ++ Lx) := ⟨by rw [e1]; exact hz, fun q h1 h2 => by rw [e1]; exact hkp q h1 (fun h => h2 (Or.inl h)), fun q hq => by
    rcases List.mem_append.mp hq with h | h
    · cases h
    · exact Or.inl (hL q h)⟩
  rcases hq with ⟨hx, rfl, -⟩ | ⟨hx, a, rfl, hex⟩
  · obtain ⟨t2, a1, b1⟩ := hret hx U'.heap _ (by rw [e1]; exact hP1) hout1 hS' U' rfl X'
    exact ⟨t2, hr _ rfl t2 a1, b1⟩
  · obtain ⟨t2, a1, b1⟩ := hthr hx U' _ a X' (ex_to hex e1 e2) (by rw [e1]; exact hP1) hout1 hS'
    exact ⟨t2, ht a rfl t2 a1, b1⟩
end LA

/-! part 44: the law's own walk: two worlds and the row of longs; the judgement vl -/
def vl (p : Program) (l : Launch) (e : Env) (s : State) (m : MethodId) (below : List Frame) (meth : Method) (c : Code) (D : va_G) (ca : Nat → ClassId) (b bs : Nat) (Q : State → Prop) (σ τ : mm_M) (ov : Option Int64) (K pc : Nat) (L : List (Option Value)) (st : List Value) : Prop :=
  ∀ (H : Heap) (locs : List Loc) (ls : Array Slot) (cs ss : Nat), cs ≤ 100 + K → ss ≤ 20000 + 6 * K → lo_ok ls 7 L → mm_P D cls b N_C (ce_C ca b) σ H → mm_P D cls (b + 35) N_M (ce_M ca (b + 35)) τ H → (∃ f, oL ca (b + 52) f H ∧ ∀ v, ov = some v → f 0 = v) → va_S (fun q => b ≤ q) s.heap H locs →
    W p l e room_1 s m #[Value.ref bs] below meth c H locs cs ss Q (F0 m pc ls st)
theorem ri_nat {n : Nat} (h : n ≤ 2570) : (Int32.ofNat n).toNatClampNeg = n := by
  show (Int32.ofNat n).toInt.toNat = n
  rw [Int32.toInt_ofNat_of_lt (by omega)]
  rfl
theorem ri_in {n L : Nat} (h : n ≤ 2570) (hl : n < L) : vp_in (Int32.ofNat n) L := by
  unfold vp_in
  rw [ri_nat h, Int32.lt_iff_toInt_lt, Int32.toInt_ofNat_of_lt (by omega), show (0 : Int32).toInt = 0 by decide]
  omega
theorem ri_gt {L i : Nat} (hL : L ≤ 2560) (hi : i ≤ 2570) : (Int32.ofNat L - 5 < Int32.ofNat i) ↔ L < i + 5 := by
  rw [Int32.lt_iff_toInt_lt, Int32.toInt_sub, Int32.toInt_ofNat_of_lt (by omega), Int32.toInt_ofNat_of_lt (by omega), show (5 : Int32).toInt = 5 by decide, Int.bmod_def]
  omega
theorem ri_ten (y : Int32) : (y.toInt < 0 ∨ 9 < y.toInt) ∨ (y = 0 ∨ y = 1 ∨ y = 2 ∨ y = 3 ∨ y = 4 ∨ y = 5 ∨ y = 6 ∨ y = 7 ∨ y = 8 ∨ y = 9) := by
  by_cases h : y.toInt < 0 ∨ 9 < y.toInt
  · exact Or.inl h
  · refine Or.inr ?_
    have hh : ∀ (n : Int32) (k : Int), n.toInt = k → y.toInt = k → y = n := fun n k e e2 => Int32.toInt_inj.mp (e2.trans e.symm)
    rcases (show y.toInt = 0 ∨ y.toInt = 1 ∨ y.toInt = 2 ∨ y.toInt = 3 ∨ y.toInt = 4 ∨ y.toInt = 5 ∨ y.toInt = 6 ∨ y.toInt = 7 ∨ y.toInt = 8 ∨ y.toInt = 9 by omega) with q | q | q | q | q | q | q | q | q | q
    · exact Or.inl (hh 0 0 (by decide) q)
    · exact Or.inr (Or.inl (hh 1 1 (by decide) q))
    · exact Or.inr (Or.inr (Or.inl (hh 2 2 (by decide) q)))
    · exact Or.inr (Or.inr (Or.inr (Or.inl (hh 3 3 (by decide) q))))
    · exact Or.inr (Or.inr (Or.inr (Or.inr (Or.inl (hh 4 4 (by decide) q)))))
    · exact Or.inr (Or.inr (Or.inr (Or.inr (Or.inr (Or.inl (hh 5 5 (by decide) q))))))
    · exact Or.inr (Or.inr (Or.inr (Or.inr (Or.inr (Or.inr (Or.inl (hh 6 6 (by decide) q)))))))
    · exact Or.inr (Or.inr (Or.inr (Or.inr (Or.inr (Or.inr (Or.inr (Or.inl (hh 7 7 (by decide) q))))))))
    · exact Or.inr (Or.inr (Or.inr (Or.inr (Or.inr (Or.inr (Or.inr (Or.inr (Or.inl (hh 8 8 (by decide) q)))))))))
    · exact Or.inr (Or.inr (Or.inr (Or.inr (Or.inr (Or.inr (Or.inr (Or.inr (Or.inr (hh 9 9 (by decide) q)))))))))
/-- worlds that others' writes leave as they were -/
theorem mm_kept {D : va_G} {cl : List vw_C} {b N : Nat} {ce : Nat → (Nat → Int32) → va_E} {σ : mm_M} {H H1 : Heap} {A : Nat → Prop} (hP : mm_P D cl b N ce σ H) (hk : ∀ q : Nat, q < H.size → ¬ A q → H1[q]? = H[q]?) (hA : ∀ q, mm_A b N q → ¬ A q) : mm_P D cl b N ce σ H1 := by
  refine va_P.kept hP (fun k q hq => ?_)
  have hlt := (hP k q hq).lt
  obtain ⟨hn, rfl⟩ := mm_key hq
  exact hk _ hlt (hA _ ⟨Nat.le_add_right _ _, Nat.add_lt_add_left hn _⟩)
section VL1
variable {p : Program} {l : Launch} {e : Env} {s : State} {m : MethodId} {below : List Frame} {meth : Method} {c : Code} {D : va_G} {ca : Nat → ClassId} {ax : Nat → Nat → Nat} {b bs : Nat} {Q : State → Prop} {σ τ σ' τ' : mm_M} {ov : Option Int64} {K pc : Nat} {L L2 : List (Option Value)} {rest : List Value} {Ts : List Cond} {own : String}
theorem vl_lift {pc2 : Nat} {st st2 : List Value} (h : ∀ (H : Heap) (locs : List Loc) (ls : Array Slot) (cs ss : Nat), lo_ok ls 7 L → W p l e room_1 s m #[Value.ref bs] below meth c H locs cs ss Q (F0 m pc2 ls st2) → W p l e room_1 s m #[Value.ref bs] below meth c H locs cs ss Q (F0 m pc ls st)) (kk : vl p l e s m below meth c D ca b bs Q σ τ ov K pc2 L st2) : vl p l e s m below meth c D ca b bs Q σ τ ov K pc L st := fun H locs ls cs ss h1 h2 hl hP hM hO hS => h H locs ls cs ss hl (kk H locs ls cs ss h1 h2 hl hP hM hO hS)
theorem vl_istore {i : Nat} {x : Int32} (S : CallFix p m c code 7 s #[Value.ref bs] Ts own) (d : decode code pc = .ok (.istore i, 2)) (hn : i < 7) (hL : lo_st L i (.int x) = L2)
    (kk : vl p l e s m below meth c D ca b bs Q σ τ ov K (pc + 2) L2 rest) : vl p l e s m below meth c D ca b bs Q σ τ ov K pc L (.int x :: rest) := fun H locs ls cs ss h1 h2 hl hP hM hO hS => lv_istore S.1 S.2.1 d (lo_has hl) hn rfl (fun ls' h3 => kk H locs ls' cs ss h1 h2 (hL ▸ lo_putP hl rfl h3) hP hM hO hS)
theorem vl_iinc {i : Nat} {k : Int} {x v : Int32} (S : CallFix p m c code 7 s #[Value.ref bs] Ts own) (d : decode code pc = .ok (.iinc i k, 3)) (hx : L[i]? = some (some (.int x))) (hv : x + Int32.ofInt k = v) (hn : i < 7) (hL : L.set i (some (.int v)) = L2)
    (kk : vl p l e s m below meth c D ca b bs Q σ τ ov K (pc + 3) L2 rest) : vl p l e s m below meth c D ca b bs Q σ τ ov K pc L rest := fun H locs ls cs ss h1 h2 hl hP hM hO hS => by
  obtain ⟨j, hj⟩ := List.getElem?_of_mem (lo_mem.mpr hx)
  exact lv_iinc S.1 S.2.1 d (lo_has hl) hj hv hn rfl (fun ls' h3 => kk H locs ls' cs ss h1 h2 (hL ▸ lo_put hl rfl h3) hP hM hO hS)
theorem vl_sub {st : List Value} (hs : ∀ (i : Nat) (v : Value), L2[i]? = some (some v) → L[i]? = some (some v)) {ov2 : Option Int64} (ho : ov2 = none) {K2 : Nat} (hK : K ≤ K2) (kk : vl p l e s m below meth c D ca b bs Q σ τ ov2 K2 pc L2 st) : vl p l e s m below meth c D ca b bs Q σ τ ov K pc L st := fun H locs ls cs ss h1 h2 hl hP hM hO hS => kk H locs ls cs ss (by omega) (by omega) (lo_sub hl hs) hP hM (hO.elim fun f h => ⟨f, h.1, fun v hv => by rw [ho] at hv; cases hv⟩) hS
/-- an int of the script -/
theorem vl_arg {L0 i j : Nat} {xs : Nat → Int32} {n : Int} (S : CallFix p m c code 7 s #[Value.ref bs] Ts own) (hX : va_X bs L0 xs s s.heap) (hbl : bs < b) (hsz : s.heap.size = b) (hi : i + 4 < L0) (hL0 : L0 ≤ 2560) (hj : j < 5) (hn : Int32.ofInt n = Int32.ofNat j) (l0 : L[0]? = some (some (.ref bs))) (l4 : L[4]? = some (some (.int (Int32.ofNat i)))) (d0 : decode code pc = .ok (.aload_n 0, 1)) (d1 : decode code (pc + 1) = .ok (.iload 4, 2)) (d2 : decode code (pc + 3) = .ok (.iconst n, 1)) (d3 : decode code (pc + 4) = .ok (.iadd, 1)) (d4 : decode code (pc + 5) = .ok (.iaload, 1))
    (kk : vl p l e s m below meth c D ca b bs Q σ τ ov K (pc + 6) L (.int (xs (i + j)) :: rest)) : vl p l e s m below meth c D ca b bs Q σ τ ov K pc L rest := by
  intro H locs ls cs ss h1 h2 hl hP hM hO hS
  refine lv_aload_n S.1 S.2.1 d0 rfl (hl.2.2 0 _ l0).2 ?_
  refine lv_iload S.1 S.2.1 d1 (hl.2.2 4 _ l4).2 ?_
  refine lv_iconst S.1 S.2.1 d2 hn ?_
  refine lv_iadd S.1 S.2.1 d3 ?_
  rw [← Int32.ofNat_add]
  refine va_sld S.1 S.2.1 hX (by omega) (by omega) hS (ri_in (by omega) (by omega)) d4 ?_
  rw [ri_nat (by omega)]
  exact kk H locs ls cs ss h1 h2 hl hP hM hO hS
theorem vl_out {v : Int64} (S : CallFix p m c code 7 s #[Value.ref bs] Ts own) (hK : va_K D cls (tys ca) s) (d : decode code pc = .ok (.laload, 1))
    (kk : vl p l e s m below meth c D ca b bs Q σ τ (some v) K (pc + 1) L (.long v :: rest)) : vl p l e s m below meth c D ca b bs Q σ τ (some v) K pc L (.int 0 :: .ref (b + 52) :: rest) := by
  intro H locs ls cs ss h1 h2 hl hP hM hO hS
  obtain ⟨f, ho, hv⟩ := hO
  have hf : f 0 = v := hv v rfl
  refine W.lald (v := .long v) S.1 S.2.1 ho ((hK.2 4 (ca 4, .long) rfl).1 1 (fun j => .long (f j))) (fun q => by cases q) (by show ¬ ((0 : Int32) < 0 ∨ (arrV _ _ _).slots.size ≤ _); rw [arrV_size]; exact (show ¬ ((0 : Int32) < 0 ∨ 1 ≤ (0 : Int32).toNatClampNeg) by decide)) (by show (arrV _ _ _).slots[_]? = _; rw [show (0 : Int32).toNatClampNeg = 0 by decide, arrV_read _ _ (by exact Nat.one_pos), hf]) rfl rfl d (kk H locs ls cs ss h1 h2 hl hP hM ⟨f, ho, hv⟩ hS)
theorem vl_C {y : MethodName} {bytes : ByteArray} {maxL n index : Nat} {ret : Option FieldType} {ws : List Cond} {rm : Room} {As st0 : List Value} {r : Int32} (S : CallFix p m c code 7 s #[Value.ref bs] Ts own) (hKL : kL D ca ax b s) (hsz : s.heap.size = b) (hK5 : K ≤ 512) (hM : Met l y ws rm (pc_w D cls b N_C (ce_C ca b) (kC D ca ax b) (.ref (b + 0) :: As) σ) (qc_i D cls b N_C (ce_C ca b) r σ') 0 0 (mm_A b N_C)) (cw : CallW room_1 s #[Value.ref bs] own "FrameVerifier" index y bytes maxL ret ws rm 0 0 n) (hn : As.length = n) (hst : st0 = As.reverse ++ .ref (b + 0) :: rest) (hw : (rest.map fun v => v.category).sum ≤ 8) (d : decode code pc = .ok (.invokevirtual index, 3))
    (kk : vl p l e s m below meth c D ca b bs Q σ' τ ov K (pc + 3) L (.int r :: rest)) : vl p l e s m below meth c D ca b bs Q σ τ ov K pc L st0 := by
  intro H locs ls cs ss h1 h2 hl hP hMo hO hS
  have hS0 : va_S (mm_A b N_C) s.heap H [] := ⟨hS.1, fun q h3 h4 => hS.2.1 q h3 (by omega), fun _ h => by cases h⟩
  refine va_calli (va_runV S hM cw ⟨(pw_pre (av := .ref (b + 0) :: As) kC_ok hKL.toC hP hS0).1, rc_w hKL.1 hP 0 (by decide) rfl rfl, (pw_pre (av := .ref (b + 0) :: As) kC_ok hKL.toC hP hS0).2⟩ rfl hn hl.1 hst (lv_room hw) d ⟨by show cs + 0 ≤ 601024; omega, by show ss + 0 ≤ 7293034; omega⟩) hS (fun q _ h => h.1) (fun q h => h.1) (fun r1 u t H1 locs1 ht hvm hp hB hz hk1 hS1 => ?_)
  obtain ⟨rfl, rfl⟩ := hp
  refine kk H1 locs1 ls _ _ h1 h2 hl (by rw [← ht]; exact hB) (mm_kept hMo hk1 (fun q h3 h4 => by have := h3.1; have : q < b + 35 := h4.2; omega)) (hO.elim fun f h => ⟨f, ?_, h.2⟩) hS1
  show H1[b + 52]? = _
  rw [hk1 _ (Array.getElem?_eq_some_iff.mp h.1).1 (fun h4 => by have : b + 52 < b + 35 := h4.2; omega)]
  exact h.1
theorem vl_M {y : MethodName} {bytes : ByteArray} {maxL n index : Nat} {ret : Option FieldType} {ws : List Cond} {rm : Room} {As st0 : List Value} {r : Int32} (S : CallFix p m c code 7 s #[Value.ref bs] Ts own) (hKL : kL D ca ax b s) (hsz : s.heap.size = b) (hK5 : K ≤ 512) (hM : Met l y ws rm (pc_w D cls (b + 35) N_M (ce_M ca (b + 35)) (kM D ca ax (b + 35)) (.ref (b + 35 + 0) :: As) τ) (qc_i D cls (b + 35) N_M (ce_M ca (b + 35)) r τ') 0 0 (mm_A (b + 35) N_M)) (cw : CallW room_1 s #[Value.ref bs] own "FrameVerifierModel" index y bytes maxL ret ws rm 0 0 n) (hn : As.length = n) (hst : st0 = As.reverse ++ .ref (b + 35 + 0) :: rest) (hw : (rest.map fun v => v.category).sum ≤ 8) (d : decode code pc = .ok (.invokevirtual index, 3))
    (kk : vl p l e s m below meth c D ca b bs Q σ τ' ov K (pc + 3) L (.int r :: rest)) : vl p l e s m below meth c D ca b bs Q σ τ ov K pc L st0 := by
  intro H locs ls cs ss h1 h2 hl hP hMo hO hS
  have hS0 : va_S (mm_A (b + 35) N_M) s.heap H [] := ⟨hS.1, fun q h3 h4 => hS.2.1 q h3 (by omega), fun _ h => by cases h⟩
  have hKM : kM D ca ax (b + 35) s := ⟨hKL.1, trivial⟩
  refine va_calli (va_runV S hM cw ⟨(pw_pre (av := .ref (b + 35 + 0) :: As) kM_ok hKM hMo hS0).1, rc_w hKL.1 hMo 0 (by decide) rfl rfl, (pw_pre (av := .ref (b + 35 + 0) :: As) kM_ok hKM hMo hS0).2⟩ rfl hn hl.1 hst (lv_room hw) d ⟨by show cs + 0 ≤ 601024; omega, by show ss + 0 ≤ 7293034; omega⟩) hS (fun q _ h => by have := h.1; omega) (fun q h => by have := h.1; omega) (fun r1 u t H1 locs1 ht hvm hp hB hz hk1 hS1 => ?_)
  obtain ⟨rfl, rfl⟩ := hp
  refine kk H1 locs1 ls _ _ h1 h2 hl (mm_kept hP hk1 (fun q h3 h4 => by have : q < b + 35 := h3.2; have := h4.1; omega)) (by rw [← ht]; exact hB) (hO.elim fun f h => ⟨f, ?_, h.2⟩) hS1
  show H1[b + 52]? = _
  rw [hk1 _ (Array.getElem?_eq_some_iff.mp h.1).1 (fun h4 => by have : b + 52 < b + 35 + 17 := h4.2; omega)]
  exact h.1
/-- a static method with a table of handlers -/
theorem la_run {R : Room} {args : Array Value} {H : Heap} {locs : List Loc} {cells slots : Nat} {cc : ByteArray} {nL : Nat} {y : MethodName} {bytes : ByteArray} {maxL n index mc ms : Nat} {ret : Option FieldType} {hh : List (Nat × Nat × Nat × Nat)} {rm : Room} {Pc : Array Value → State → Prop} {Qc : Array Value → State → Outcome → State → Prop} {free : Addr → Prop} {As : List Value} {g : JFrame} (S : CallFix p m c cc nL s args Ts own) (hsub : ∀ w ∈ wG, w ∈ Ts) (hM : Met l y (Cond.codeWith y bytes maxL ret hh :: wG) rm Pc Qc mc ms free) (hc : Cond.codeWith y bytes maxL ret hh ∈ wG) (hini : Cond.initialized y.cls ∈ wG) (hlk : Cond.methodLink own index y ∈ wG) (hst : Cond.static y ∈ wG) (hd : y.cls ≠ "java/lang/invoke/MethodHandle" ∧ y.cls ≠ "java/lang/invoke/VarHandle" ∧ (parseMethodDescriptor y.desc).map (fun d => d.parameters.length) = some n) (hrc : rm.cells = mc) (hrs : rm.slots = ms) (hR : rm.frames + 1 ≤ R.frames ∧ 8 + (maxL + 11) + rm.locals ≤ R.locals) (hp : PreS s H Pc As)
    (hg : g.method = m) (hn : As.length = n) (hsize : g.locals.size = nL) (hstack : g.stack = As.reverse ++ rest) (hW : 2 * g.monitorRoom + (rest.map fun v => v.category).sum ≤ 8) (hdg : decode cc g.pc = .ok (.invokestatic index, 3)) (hf : cells + mc ≤ R.cells ∧ slots + ms ≤ R.slots) :
    va_Run p l e R s m args below meth c H locs cells slots mc ms g rest (Qc As.toArray) free := by
  obtain ⟨hx, hb, hml, ho, hts⟩ := S
  have hin0 := hts _ (hsub _ hini)
  have hcd := hts _ (hsub _ hc)
  have hG : GoodIn Ts (Cond.codeWith y bytes maxL ret hh :: wG) := fun w hw => by
    have h1 : w ∈ wG := by
      rcases List.mem_cons.mp hw with rfl | h1
      · exact hc
      · exact h1
    exact ⟨hsub w h1, good_of_word (List.mem_filter.mp h1).2⟩
  have hK : Back l R p e below s args y 3 8 (PreOf R mc ms Pc) (PostOf Qc mc ms free) := va_backW (hh := hh) (bytes := bytes) (maxL := maxL) (ret := ret) hM hp.1 hrc hrs hR.1 hR.2 (pay_in hts hG) List.mem_cons_self (fun a' U hW => word_at hW (Or.inl (by first | rfl | simp [Cond.onTables, Cond.keeps, Cond.steady])) hin0)
  intro T hT X
  obtain ⟨mk, methM, cM, hnamed, hmethM, -, -, -, -, -, -, hsigM⟩ := Cond.codeWith_spec hcd
  have hstatic : methM.isStatic = true := Cond.static_spec hnamed hmethM (hts _ (hsub _ hst))
  obtain ⟨kP, hkP, -⟩ := className_of_methodNamed hnamed
  have hinitP : kP.init = .initialized := Cond.initialized_spec (findClass_of_methodNamed hnamed) hkP hin0
  have hlen : As.length = methM.sig.parameters.length := by
    have h2 := hd.2.2
    rw [hsigM] at h2
    exact hn.trans (Option.some.inj h2).symm
  obtain ⟨vm₁, X₁, hstep₁⟩ := X.invokestatic hx ho (hts _ (hsub _ hlk)) hnamed hmethM hstatic hkP hinitP ⟨hd.1, hd.2.1⟩ (g := g) hg (argsL := As) (rest := rest) hlen hstack (by rw [hb]; exact hdg)
  obtain ⟨v, B, X', hpost, hsteps⟩ := hK m meth c ⟨T.setVm vm₁, locs, cells, slots⟩ { g with stack := rest } (.invokestatic index) mk As.toArray X₁ hg (hsize.trans hml.symm) (by rw [hb]; exact hdg) hW (X₁.named hnamed) ⟨hf.1, hf.2, hp.2 (T.setVm vm₁) hT X₁.warmed⟩
  obtain ⟨g', mk', t, L, e1, e2, hq, h1, hL, h2, h3⟩ := hpost
  obtain ⟨U', l2, c2, s2⟩ := B
  dsimp only [Pt.U, Pt.locs, Pt.cells, Pt.slots] at X' e1 e2 h1 h2 h3 hsteps
  subst h1; subst h2; subst h3
  exact ⟨v, (T.setVm vm₁).calling g' mk' As.toArray, t, U', L, hT, X', hL, e1, e2, hq, fun target h => hstep₁ _ fun acts => by rw [doInvoke_state]; exact hsteps.trans h⟩
theorem vl_L {y : MethodName} {bytes : ByteArray} {maxL n index x : Nat} {ret : Option FieldType} {hh : List (Nat × Nat × Nat × Nat)} {rm : Room} {As st0 : List Value} {r v : Int32} (S : CallFix p m c code 7 s #[Value.ref bs] Ts own) (hsub : ∀ w ∈ wG, w ∈ Ts) (hKL : kL D ca ax b s) (hsz : s.heap.size = b) (hK5 : K ≤ 512) (hM : Met l y (Cond.codeWith y bytes maxL ret hh :: wG) rm (pL D ca ax b (b + 52) σ As) (qL D ca b (b + 52) x r σ' v) 1 6 (fL b (b + 52))) (hc : Cond.codeWith y bytes maxL ret hh ∈ wG) (hini : Cond.initialized y.cls ∈ wG) (hlk : Cond.methodLink own index y ∈ wG) (hstt : Cond.static y ∈ wG) (hd : y.cls ≠ "java/lang/invoke/MethodHandle" ∧ y.cls ≠ "java/lang/invoke/VarHandle" ∧ (parseMethodDescriptor y.desc).map (fun d => d.parameters.length) = some n) (hrc : rm.cells = 1) (hrs : rm.slots = 6) (hR : rm.frames + 1 ≤ room_1.frames ∧ 8 + (maxL + 11) + rm.locals ≤ room_1.locals) (hn : As.length = n) (hst : st0 = As.reverse ++ rest) (hw : (rest.map fun v => v.category).sum ≤ 8) (d : decode code pc = .ok (.invokestatic index, 3))
    (kk : vl p l e s m below meth c D ca b bs Q σ' τ (if x = 0 then some r.toInt64 else none) (K + 1) (pc + 3) L (.int v :: rest)) : vl p l e s m below meth c D ca b bs Q σ τ ov K pc L st0 := by
  intro H locs ls cs ss h1 h2 hl hP hMo hO hS
  have hpre : PreS s H (pL D ca ax b (b + 52) σ As) As := ⟨fun a U g mk q => ⟨q.1, q.2.1, q.2.2.1.calling, q.2.2.2⟩, fun U hU hW => ⟨rfl, by rw [hU]; exact hP, hKL.go hW (fun a h3 h4 => by rw [hU]; exact hS.2.1 a h3 h4), hO.elim fun f h => ⟨f, by rw [hU]; exact h.1⟩⟩⟩
  refine va_calli (la_run S hsub hM hc hini hlk hstt hd hrc hrs hR hpre rfl hn hl.1 hst (lv_room hw) d ⟨by show cs + 1 ≤ 601024; omega, by show ss + 6 ≤ 7293034; omega⟩) hS (fun q _ h => by rcases h with h | h; exact h.1; omega) (fun q h => by rcases h with h | h; exact h.1; omega) (fun r1 u t H1 locs1 ht hvm hp hB hz hk1 hS1 => ?_)
  cases hp
  subst ht
  obtain ⟨hB1, f, hB2, hB3⟩ := hB
  exact kk _ locs1 ls _ _ (by omega) (by omega) hl hB1 (mm_kept hMo hk1 (fun q h3 h4 => by
    have h5 := h3.1
    have h6 : q < b + 35 + 17 := h3.2
    rcases h4 with h4 | h4
    · have : q < b + 35 := h4.2
      omega
    · omega)) ⟨f, hB2, fun w hw => by
      by_cases h0 : x = 0
      · rw [if_pos h0] at hw
        rw [hB3 h0]
        exact Option.some.inj hw
      · rw [if_neg h0] at hw
        cases hw⟩ hS1
end VL1

/-! the law's add, step, steps -/
def cd_La_add (x : Nat) : Int32 := if x = 0 then 0 else 1
theorem al_La_add {s : State} {args : Array Value} {Ts : List Cond} (hts : ∀ w ∈ Ts, w.before args s = true) (hsub : ∀ w ∈ wG, w ∈ Ts) : ∀ (j : Nat) (y : Nat), ([5] : List Nat)[j]? = some y → 0 < y ∧ y < 7 ∧ ∃ z : Nat × Nat × Nat × Nat, ([(0, 10, 13, 13)] : List (Nat × Nat × Nat × Nat))[j]? = some z ∧ (decide (z.1 ≤ 5) && decide (5 < z.2.1)) = true ∧ z.2.2.2 ≠ 0 ∧ (Cond.classLink "FrameVerifierLaw" z.2.2.2 (ex_nm y)).before args s = true
  | 0, y, h => by cases Option.some.inj h; exact ⟨by decide, by decide, (0, 10, 13, 13), rfl, by decide, by decide, hts _ (hsub _ wd_440)⟩
  | j + 1, y, h => by simp at h
set_option maxRecDepth 100000 in
theorem c_La_add (l : Launch) (D : va_G) (ca : Nat → ClassId) (ax : Nat → Nat → Nat) (b o : Nat) (σ : mm_M) (a0 : Int32) (a1 : Int32) (htr : l.stackTraces = false) {x : Nat} {r : Int32} {σ' : mm_M} (hf : fn_FV_add σ a0 a1 = some (x, r, σ')) (hx : x = 0 ∨ x = 5) (hbo : b + N_C ≤ o) : Met l y_La_add w_La_add rm_La_add (pL D ca ax b o σ [.ref (b + 0), .int a0, .int a1, .ref o]) (qL D ca b o x r σ' (cd_La_add x)) 1 6 (fL b o) := by
  refine va_MetW (cc := b_La_add) (maxL := 5) (ret := (some .int)) (by decide) rfl ?_
  intro p e s m args below meth c s₁ B hml hv
  obtain ⟨rfl, hP, hKL, f0, hout⟩ := hv
  have hts := atoms_spec (ws := w_La_add) B.pre
  obtain ⟨m9, meth9, c9, hn9, hm9, hc9, -, -, htab, -, -, -⟩ := Cond.codeWith_spec (hts _ List.mem_cons_self)
  have em : m9 = m := Option.some.inj (hn9.symm.trans B.named)
  subst em
  have emm : meth9 = meth := Option.some.inj (hm9.symm.trans B.method)
  subst emm
  have ec : c9 = c := Option.some.inj (hc9.symm.trans (Stand.of_body B).code)
  subst ec
  have S : CallFix p m9 c9 b_La_add 5 s [.ref (b + 0), .int a0, .int a1, .ref o].toArray w_La_add "FrameVerifierLaw" := ⟨B.exec, B.bytes, hml, findClass_of_methodNamed B.named, hts⟩
  have hr := B.returns
  have hlocks := B.notSynchronized
  rw [entry_eq m9 _ (by simp [Value.category]) 5]
  suffices body : ∀ ls, lo_ok ls 5 (([.ref (b + 0), .int a0, .int a1, .ref o] : List Value).map some) → W p l e (headSpec w_La_add rm_La_add).room s m9 [.ref (b + 0), .int a0, .int a1, .ref o].toArray below meth9 c9 s.heap [] 0 0 (MQ below (qL D ca b o x r σ' (cd_La_add x)) [.ref (b + 0), .int a0, .int a1, .ref o].toArray s 1 6 (fL b o)) (F0 m9 0 ls []) from body _ (lo_entry [.ref (b + 0), .int a0, .int a1, .ref o] (by simp [Value.category]) (Nat.le_of_ble_eq_true rfl))
  intro ls hl
  refine lv_aload_n S.1 S.2.1 d_La_add_0 rfl (hl.2.2 3 _ rfl).2 ?_
  refine lv_iconst S.1 S.2.1 d_La_add_1 (v := 0) (by decide) ?_
  refine lv_aload_n S.1 S.2.1 d_La_add_2 rfl (hl.2.2 0 _ rfl).2 ?_
  refine lv_iload_n S.1 S.2.1 d_La_add_3 rfl (hl.2.2 1 _ rfl).2 ?_
  refine lv_iload_n S.1 S.2.1 d_La_add_4 rfl (hl.2.2 2 _ rfl).2 ?_
  refine la_call hout hbo (xr_V (As := [.int a0, .int a1]) (rest := [.int 0, .ref o]) S (c_FV_add l D ca ax b σ a0 a1 htr hf) (k_La_7 S.2.2.2.2 (fun _ => List.mem_cons_of_mem _) ⟨Nat.le_of_ble_eq_true rfl, Nat.le_of_ble_eq_true rfl⟩) ⟨(pw_pre kC_ok hKL.toC hP (locs := []) va_S.rf).1, (rc_w hKL.1 hP 0 (by decide) rfl rfl), (pw_pre (av := .ref (b + 0) :: [.int a0, .int a1]) kC_ok hKL.toC hP (locs := []) va_S.rf).2⟩ rfl rfl hl.1 rfl (lv_room (Nat.le_of_ble_eq_true rfl)) d_La_add_5 ⟨Nat.le_of_ble_eq_true rfl, Nat.le_of_ble_eq_true rfl⟩) (fun h0 H locs hP1 hout1 hS1 => ?_) (fun h0 T locs a X hex hP1 hout1 hS1 => ?_)
  · refine la_last S hKL.1 hP1 hout1 hbo hS1 d_La_add_8 d_La_add_9 (fun H1 locs1 hP2 ho2 hS2 => ?_)
    refine lv_goto S.1 S.2.1 d_La_add_10 (tgt := 17) (by decide) ?_
    refine lv_iconst S.1 S.2.1 d_La_add_17 (v := 0) (by decide) ?_
    exact la_fin S hr hlocks hP2 (ho2.elim fun f h => ⟨f, h.1, fun _ => h.2⟩) hS2 (by rw [h0]; rfl) d_La_add_18
  · rcases hx with rfl | rfl
    · exact absurd rfl h0
    · obtain ⟨vm1, X2, st2⟩ := fc_at X S.2.2.2.1 hKL.2.2.2 (a := a) (g := { F0 m9 5 ls (([.int a0, .int a1] : List Value).reverse ++ [.ref (b + 0), .int 0, .ref o]) with stack := [.int 0, .ref o] }) rfl (x := 5) (by decide) (by decide) hex (ys := [5]) htab (al_La_add hts (fun _ => List.mem_cons_of_mem _)) rfl (i := 0) (pc := 13) rfl (by decide) rfl
      have Wk : W p l e (headSpec w_La_add rm_La_add).room s m9 [.ref (b + 0), .int a0, .int a1, .ref o].toArray below meth9 c9 T.heap locs 1 6 (MQ below (qL D ca b o 5 r σ' (cd_La_add 5)) [.ref (b + 0), .int a0, .int a1, .ref o].toArray s 1 6 (fL b o)) (F0 m9 13 ls [.ref a]) := by
        refine lv_astore S.1 S.2.1 d_La_add_13 (lo_has hl) (Nat.le_of_ble_eq_true rfl) rfl (fun ls2 _ => ?_)
        refine lv_iconst S.1 S.2.1 d_La_add_15 (v := 1) (by decide) ?_
        exact la_fin S hr hlocks hP1 ⟨f0, hout1, fun h => absurd h (by decide)⟩ hS1 rfl d_La_add_16
      obtain ⟨t2, a1, b1⟩ := Wk (T.setVm vm1) rfl X2
      exact ⟨t2, st2 t2 a1, b1⟩
def cd_La_step (x : Nat) : Int32 := if x = 0 then 0 else if x = 1 then 1 else if x = 2 then 2 else if x = 3 then 3 else if x = 4 then 4 else 5
theorem al_La_step {s : State} {args : Array Value} {Ts : List Cond} (hts : ∀ w ∈ Ts, w.before args s = true) (hsub : ∀ w ∈ wG, w ∈ Ts) : ∀ (j : Nat) (y : Nat), ([1, 2, 3, 4, 5] : List Nat)[j]? = some y → 0 < y ∧ y < 7 ∧ ∃ z : Nat × Nat × Nat × Nat, ([(0, 8, 11, 19), (0, 8, 14, 21), (0, 8, 17, 23), (0, 8, 20, 25), (0, 8, 23, 13)] : List (Nat × Nat × Nat × Nat))[j]? = some z ∧ (decide (z.1 ≤ 3) && decide (3 < z.2.1)) = true ∧ z.2.2.2 ≠ 0 ∧ (Cond.classLink "FrameVerifierLaw" z.2.2.2 (ex_nm y)).before args s = true
  | 0, y, h => by cases Option.some.inj h; exact ⟨by decide, by decide, (0, 8, 11, 19), rfl, by decide, by decide, hts _ (hsub _ wd_518)⟩
  | 1, y, h => by cases Option.some.inj h; exact ⟨by decide, by decide, (0, 8, 14, 21), rfl, by decide, by decide, hts _ (hsub _ wd_519)⟩
  | 2, y, h => by cases Option.some.inj h; exact ⟨by decide, by decide, (0, 8, 17, 23), rfl, by decide, by decide, hts _ (hsub _ wd_520)⟩
  | 3, y, h => by cases Option.some.inj h; exact ⟨by decide, by decide, (0, 8, 20, 25), rfl, by decide, by decide, hts _ (hsub _ wd_521)⟩
  | 4, y, h => by cases Option.some.inj h; exact ⟨by decide, by decide, (0, 8, 23, 13), rfl, by decide, by decide, hts _ (hsub _ wd_440)⟩
  | j + 5, y, h => by simp at h
set_option maxRecDepth 100000 in
theorem c_La_step (l : Launch) (D : va_G) (ca : Nat → ClassId) (ax : Nat → Nat → Nat) (b o : Nat) (σ : mm_M)  (htr : l.stackTraces = false) {x : Nat} {r : Int32} {σ' : mm_M} (hf : fn_FV_step σ  = some (x, r, σ')) (hx : x = 0 ∨ x = 1 ∨ x = 2 ∨ x = 3 ∨ x = 4 ∨ x = 5) (hbo : b + N_C ≤ o) : Met l y_La_step w_La_step rm_La_step (pL D ca ax b o σ [.ref (b + 0), .ref o]) (qL D ca b o x r σ' (cd_La_step x)) 1 6 (fL b o) := by
  refine va_MetW (cc := b_La_step) (maxL := 3) (ret := (some .int)) (by decide) rfl ?_
  intro p e s m args below meth c s₁ B hml hv
  obtain ⟨rfl, hP, hKL, f0, hout⟩ := hv
  have hts := atoms_spec (ws := w_La_step) B.pre
  obtain ⟨m9, meth9, c9, hn9, hm9, hc9, -, -, htab, -, -, -⟩ := Cond.codeWith_spec (hts _ List.mem_cons_self)
  have em : m9 = m := Option.some.inj (hn9.symm.trans B.named)
  subst em
  have emm : meth9 = meth := Option.some.inj (hm9.symm.trans B.method)
  subst emm
  have ec : c9 = c := Option.some.inj (hc9.symm.trans (Stand.of_body B).code)
  subst ec
  have S : CallFix p m9 c9 b_La_step 3 s [.ref (b + 0), .ref o].toArray w_La_step "FrameVerifierLaw" := ⟨B.exec, B.bytes, hml, findClass_of_methodNamed B.named, hts⟩
  have hr := B.returns
  have hlocks := B.notSynchronized
  rw [entry_eq m9 _ (by simp [Value.category]) 3]
  suffices body : ∀ ls, lo_ok ls 3 (([.ref (b + 0), .ref o] : List Value).map some) → W p l e (headSpec w_La_step rm_La_step).room s m9 [.ref (b + 0), .ref o].toArray below meth9 c9 s.heap [] 0 0 (MQ below (qL D ca b o x r σ' (cd_La_step x)) [.ref (b + 0), .ref o].toArray s 1 6 (fL b o)) (F0 m9 0 ls []) from body _ (lo_entry [.ref (b + 0), .ref o] (by simp [Value.category]) (Nat.le_of_ble_eq_true rfl))
  intro ls hl
  refine lv_aload_n S.1 S.2.1 d_La_step_0 rfl (hl.2.2 1 _ rfl).2 ?_
  refine lv_iconst S.1 S.2.1 d_La_step_1 (v := 0) (by decide) ?_
  refine lv_aload_n S.1 S.2.1 d_La_step_2 rfl (hl.2.2 0 _ rfl).2 ?_
  refine la_call hout hbo (xr_V (As := []) (rest := [.int 0, .ref o]) S (c_FV_step l D ca ax b σ  htr hf) (k_La_15 S.2.2.2.2 (fun _ => List.mem_cons_of_mem _) ⟨Nat.le_of_ble_eq_true rfl, Nat.le_of_ble_eq_true rfl⟩) ⟨(pw_pre kC_ok hKL.toC hP (locs := []) va_S.rf).1, (rc_w hKL.1 hP 0 (by decide) rfl rfl), (pw_pre (av := .ref (b + 0) :: []) kC_ok hKL.toC hP (locs := []) va_S.rf).2⟩ rfl rfl hl.1 rfl (lv_room (Nat.le_of_ble_eq_true rfl)) d_La_step_3 ⟨Nat.le_of_ble_eq_true rfl, Nat.le_of_ble_eq_true rfl⟩) (fun h0 H locs hP1 hout1 hS1 => ?_) (fun h0 T locs a X hex hP1 hout1 hS1 => ?_)
  · refine la_last S hKL.1 hP1 hout1 hbo hS1 d_La_step_6 d_La_step_7 (fun H1 locs1 hP2 ho2 hS2 => ?_)
    refine lv_goto S.1 S.2.1 d_La_step_8 (tgt := 26) (by decide) ?_
    refine lv_iconst S.1 S.2.1 d_La_step_26 (v := 0) (by decide) ?_
    exact la_fin S hr hlocks hP2 (ho2.elim fun f h => ⟨f, h.1, fun _ => h.2⟩) hS2 (by rw [h0]; rfl) d_La_step_27
  · rcases hx with rfl | rfl | rfl | rfl | rfl | rfl
    · exact absurd rfl h0
    · obtain ⟨vm1, X2, st2⟩ := fc_at X S.2.2.2.1 hKL.2.2.2 (a := a) (g := { F0 m9 3 ls (([] : List Value).reverse ++ [.ref (b + 0), .int 0, .ref o]) with stack := [.int 0, .ref o] }) rfl (x := 1) (by decide) (by decide) hex (ys := [1, 2, 3, 4, 5]) htab (al_La_step hts (fun _ => List.mem_cons_of_mem _)) rfl (i := 0) (pc := 11) rfl (by decide) rfl
      have Wk : W p l e (headSpec w_La_step rm_La_step).room s m9 [.ref (b + 0), .ref o].toArray below meth9 c9 T.heap locs 1 6 (MQ below (qL D ca b o 1 r σ' (cd_La_step 1)) [.ref (b + 0), .ref o].toArray s 1 6 (fL b o)) (F0 m9 11 ls [.ref a]) := by
        refine lv_astore_n S.1 S.2.1 d_La_step_11 rfl (lo_has hl) (Nat.le_of_ble_eq_true rfl) rfl (fun ls2 _ => ?_)
        refine lv_iconst S.1 S.2.1 d_La_step_12 (v := 1) (by decide) ?_
        exact la_fin S hr hlocks hP1 ⟨f0, hout1, fun h => absurd h (by decide)⟩ hS1 rfl d_La_step_13
      obtain ⟨t2, a1, b1⟩ := Wk (T.setVm vm1) rfl X2
      exact ⟨t2, st2 t2 a1, b1⟩
    · obtain ⟨vm1, X2, st2⟩ := fc_at X S.2.2.2.1 hKL.2.2.2 (a := a) (g := { F0 m9 3 ls (([] : List Value).reverse ++ [.ref (b + 0), .int 0, .ref o]) with stack := [.int 0, .ref o] }) rfl (x := 2) (by decide) (by decide) hex (ys := [1, 2, 3, 4, 5]) htab (al_La_step hts (fun _ => List.mem_cons_of_mem _)) rfl (i := 1) (pc := 14) rfl (by decide) rfl
      have Wk : W p l e (headSpec w_La_step rm_La_step).room s m9 [.ref (b + 0), .ref o].toArray below meth9 c9 T.heap locs 1 6 (MQ below (qL D ca b o 2 r σ' (cd_La_step 2)) [.ref (b + 0), .ref o].toArray s 1 6 (fL b o)) (F0 m9 14 ls [.ref a]) := by
        refine lv_astore_n S.1 S.2.1 d_La_step_14 rfl (lo_has hl) (Nat.le_of_ble_eq_true rfl) rfl (fun ls2 _ => ?_)
        refine lv_iconst S.1 S.2.1 d_La_step_15 (v := 2) (by decide) ?_
        exact la_fin S hr hlocks hP1 ⟨f0, hout1, fun h => absurd h (by decide)⟩ hS1 rfl d_La_step_16
      obtain ⟨t2, a1, b1⟩ := Wk (T.setVm vm1) rfl X2
      exact ⟨t2, st2 t2 a1, b1⟩
    · obtain ⟨vm1, X2, st2⟩ := fc_at X S.2.2.2.1 hKL.2.2.2 (a := a) (g := { F0 m9 3 ls (([] : List Value).reverse ++ [.ref (b + 0), .int 0, .ref o]) with stack := [.int 0, .ref o] }) rfl (x := 3) (by decide) (by decide) hex (ys := [1, 2, 3, 4, 5]) htab (al_La_step hts (fun _ => List.mem_cons_of_mem _)) rfl (i := 2) (pc := 17) rfl (by decide) rfl
      have Wk : W p l e (headSpec w_La_step rm_La_step).room s m9 [.ref (b + 0), .ref o].toArray below meth9 c9 T.heap locs 1 6 (MQ below (qL D ca b o 3 r σ' (cd_La_step 3)) [.ref (b + 0), .ref o].toArray s 1 6 (fL b o)) (F0 m9 17 ls [.ref a]) := by
        refine lv_astore_n S.1 S.2.1 d_La_step_17 rfl (lo_has hl) (Nat.le_of_ble_eq_true rfl) rfl (fun ls2 _ => ?_)
        refine lv_iconst S.1 S.2.1 d_La_step_18 (v := 3) (by decide) ?_
        exact la_fin S hr hlocks hP1 ⟨f0, hout1, fun h => absurd h (by decide)⟩ hS1 rfl d_La_step_19
      obtain ⟨t2, a1, b1⟩ := Wk (T.setVm vm1) rfl X2
      exact ⟨t2, st2 t2 a1, b1⟩
    · obtain ⟨vm1, X2, st2⟩ := fc_at X S.2.2.2.1 hKL.2.2.2 (a := a) (g := { F0 m9 3 ls (([] : List Value).reverse ++ [.ref (b + 0), .int 0, .ref o]) with stack := [.int 0, .ref o] }) rfl (x := 4) (by decide) (by decide) hex (ys := [1, 2, 3, 4, 5]) htab (al_La_step hts (fun _ => List.mem_cons_of_mem _)) rfl (i := 3) (pc := 20) rfl (by decide) rfl
      have Wk : W p l e (headSpec w_La_step rm_La_step).room s m9 [.ref (b + 0), .ref o].toArray below meth9 c9 T.heap locs 1 6 (MQ below (qL D ca b o 4 r σ' (cd_La_step 4)) [.ref (b + 0), .ref o].toArray s 1 6 (fL b o)) (F0 m9 20 ls [.ref a]) := by
        refine lv_astore_n S.1 S.2.1 d_La_step_20 rfl (lo_has hl) (Nat.le_of_ble_eq_true rfl) rfl (fun ls2 _ => ?_)
        refine lv_iconst S.1 S.2.1 d_La_step_21 (v := 4) (by decide) ?_
        exact la_fin S hr hlocks hP1 ⟨f0, hout1, fun h => absurd h (by decide)⟩ hS1 rfl d_La_step_22
      obtain ⟨t2, a1, b1⟩ := Wk (T.setVm vm1) rfl X2
      exact ⟨t2, st2 t2 a1, b1⟩
    · obtain ⟨vm1, X2, st2⟩ := fc_at X S.2.2.2.1 hKL.2.2.2 (a := a) (g := { F0 m9 3 ls (([] : List Value).reverse ++ [.ref (b + 0), .int 0, .ref o]) with stack := [.int 0, .ref o] }) rfl (x := 5) (by decide) (by decide) hex (ys := [1, 2, 3, 4, 5]) htab (al_La_step hts (fun _ => List.mem_cons_of_mem _)) rfl (i := 4) (pc := 23) rfl (by decide) rfl
      have Wk : W p l e (headSpec w_La_step rm_La_step).room s m9 [.ref (b + 0), .ref o].toArray below meth9 c9 T.heap locs 1 6 (MQ below (qL D ca b o 5 r σ' (cd_La_step 5)) [.ref (b + 0), .ref o].toArray s 1 6 (fL b o)) (F0 m9 23 ls [.ref a]) := by
        refine lv_astore_n S.1 S.2.1 d_La_step_23 rfl (lo_has hl) (Nat.le_of_ble_eq_true rfl) rfl (fun ls2 _ => ?_)
        refine lv_iconst S.1 S.2.1 d_La_step_24 (v := 5) (by decide) ?_
        exact la_fin S hr hlocks hP1 ⟨f0, hout1, fun h => absurd h (by decide)⟩ hS1 rfl d_La_step_25
      obtain ⟨t2, a1, b1⟩ := Wk (T.setVm vm1) rfl X2
      exact ⟨t2, st2 t2 a1, b1⟩
def cd_La_steps (x : Nat) : Int32 := if x = 0 then 0 else if x = 1 then 2 else if x = 2 then 3 else if x = 3 then 4 else if x = 4 then 5 else if x = 5 then 6 else 1
theorem al_La_steps {s : State} {args : Array Value} {Ts : List Cond} (hts : ∀ w ∈ Ts, w.before args s = true) (hsub : ∀ w ∈ wG, w ∈ Ts) : ∀ (j : Nat) (y : Nat), ([6, 1, 2, 3, 4, 5] : List Nat)[j]? = some y → 0 < y ∧ y < 7 ∧ ∃ z : Nat × Nat × Nat × Nat, ([(0, 9, 12, 31), (0, 9, 15, 19), (0, 9, 18, 21), (0, 9, 21, 23), (0, 9, 24, 25), (0, 9, 27, 13)] : List (Nat × Nat × Nat × Nat))[j]? = some z ∧ (decide (z.1 ≤ 4) && decide (4 < z.2.1)) = true ∧ z.2.2.2 ≠ 0 ∧ (Cond.classLink "FrameVerifierLaw" z.2.2.2 (ex_nm y)).before args s = true
  | 0, y, h => by cases Option.some.inj h; exact ⟨by decide, by decide, (0, 9, 12, 31), rfl, by decide, by decide, hts _ (hsub _ wd_715)⟩
  | 1, y, h => by cases Option.some.inj h; exact ⟨by decide, by decide, (0, 9, 15, 19), rfl, by decide, by decide, hts _ (hsub _ wd_518)⟩
  | 2, y, h => by cases Option.some.inj h; exact ⟨by decide, by decide, (0, 9, 18, 21), rfl, by decide, by decide, hts _ (hsub _ wd_519)⟩
  | 3, y, h => by cases Option.some.inj h; exact ⟨by decide, by decide, (0, 9, 21, 23), rfl, by decide, by decide, hts _ (hsub _ wd_520)⟩
  | 4, y, h => by cases Option.some.inj h; exact ⟨by decide, by decide, (0, 9, 24, 25), rfl, by decide, by decide, hts _ (hsub _ wd_521)⟩
  | 5, y, h => by cases Option.some.inj h; exact ⟨by decide, by decide, (0, 9, 27, 13), rfl, by decide, by decide, hts _ (hsub _ wd_440)⟩
  | j + 6, y, h => by simp at h
set_option maxRecDepth 100000 in
theorem c_La_steps (l : Launch) (D : va_G) (ca : Nat → ClassId) (ax : Nat → Nat → Nat) (b o : Nat) (σ : mm_M) (a0 : Int32) (htr : l.stackTraces = false) {x : Nat} {r : Int32} {σ' : mm_M} (hf : fn_FV_steps σ a0 = some (x, r, σ')) (hx : x = 0 ∨ x = 1 ∨ x = 2 ∨ x = 3 ∨ x = 4 ∨ x = 5 ∨ x = 6) (hbo : b + N_C ≤ o) : Met l y_La_steps w_La_steps rm_La_steps (pL D ca ax b o σ [.ref (b + 0), .int a0, .ref o]) (qL D ca b o x r σ' (cd_La_steps x)) 1 6 (fL b o) := by
  refine va_MetW (cc := b_La_steps) (maxL := 4) (ret := (some .int)) (by decide) rfl ?_
  intro p e s m args below meth c s₁ B hml hv
  obtain ⟨rfl, hP, hKL, f0, hout⟩ := hv
  have hts := atoms_spec (ws := w_La_steps) B.pre
  obtain ⟨m9, meth9, c9, hn9, hm9, hc9, -, -, htab, -, -, -⟩ := Cond.codeWith_spec (hts _ List.mem_cons_self)
  have em : m9 = m := Option.some.inj (hn9.symm.trans B.named)
  subst em
  have emm : meth9 = meth := Option.some.inj (hm9.symm.trans B.method)
  subst emm
  have ec : c9 = c := Option.some.inj (hc9.symm.trans (Stand.of_body B).code)
  subst ec
  have S : CallFix p m9 c9 b_La_steps 4 s [.ref (b + 0), .int a0, .ref o].toArray w_La_steps "FrameVerifierLaw" := ⟨B.exec, B.bytes, hml, findClass_of_methodNamed B.named, hts⟩
  have hr := B.returns
  have hlocks := B.notSynchronized
  rw [entry_eq m9 _ (by simp [Value.category]) 4]
  suffices body : ∀ ls, lo_ok ls 4 (([.ref (b + 0), .int a0, .ref o] : List Value).map some) → W p l e (headSpec w_La_steps rm_La_steps).room s m9 [.ref (b + 0), .int a0, .ref o].toArray below meth9 c9 s.heap [] 0 0 (MQ below (qL D ca b o x r σ' (cd_La_steps x)) [.ref (b + 0), .int a0, .ref o].toArray s 1 6 (fL b o)) (F0 m9 0 ls []) from body _ (lo_entry [.ref (b + 0), .int a0, .ref o] (by simp [Value.category]) (Nat.le_of_ble_eq_true rfl))
  intro ls hl
  refine lv_aload_n S.1 S.2.1 d_La_steps_0 rfl (hl.2.2 2 _ rfl).2 ?_
  refine lv_iconst S.1 S.2.1 d_La_steps_1 (v := 0) (by decide) ?_
  refine lv_aload_n S.1 S.2.1 d_La_steps_2 rfl (hl.2.2 0 _ rfl).2 ?_
  refine lv_iload_n S.1 S.2.1 d_La_steps_3 rfl (hl.2.2 1 _ rfl).2 ?_
  refine la_call hout hbo (xr_V (As := [.int a0]) (rest := [.int 0, .ref o]) S (c_FV_steps l D ca ax b σ a0 htr hf) (k_La_27 S.2.2.2.2 (fun _ => List.mem_cons_of_mem _) ⟨Nat.le_of_ble_eq_true rfl, Nat.le_of_ble_eq_true rfl⟩) ⟨(pw_pre kC_ok hKL.toC hP (locs := []) va_S.rf).1, (rc_w hKL.1 hP 0 (by decide) rfl rfl), (pw_pre (av := .ref (b + 0) :: [.int a0]) kC_ok hKL.toC hP (locs := []) va_S.rf).2⟩ rfl rfl hl.1 rfl (lv_room (Nat.le_of_ble_eq_true rfl)) d_La_steps_4 ⟨Nat.le_of_ble_eq_true rfl, Nat.le_of_ble_eq_true rfl⟩) (fun h0 H locs hP1 hout1 hS1 => ?_) (fun h0 T locs a X hex hP1 hout1 hS1 => ?_)
  · refine la_last S hKL.1 hP1 hout1 hbo hS1 d_La_steps_7 d_La_steps_8 (fun H1 locs1 hP2 ho2 hS2 => ?_)
    refine lv_goto S.1 S.2.1 d_La_steps_9 (tgt := 31) (by decide) ?_
    refine lv_iconst S.1 S.2.1 d_La_steps_31 (v := 0) (by decide) ?_
    exact la_fin S hr hlocks hP2 (ho2.elim fun f h => ⟨f, h.1, fun _ => h.2⟩) hS2 (by rw [h0]; rfl) d_La_steps_32
  · rcases hx with rfl | rfl | rfl | rfl | rfl | rfl | rfl
    · exact absurd rfl h0
    · obtain ⟨vm1, X2, st2⟩ := fc_at X S.2.2.2.1 hKL.2.2.2 (a := a) (g := { F0 m9 4 ls (([.int a0] : List Value).reverse ++ [.ref (b + 0), .int 0, .ref o]) with stack := [.int 0, .ref o] }) rfl (x := 1) (by decide) (by decide) hex (ys := [6, 1, 2, 3, 4, 5]) htab (al_La_steps hts (fun _ => List.mem_cons_of_mem _)) rfl (i := 1) (pc := 15) rfl (by decide) rfl
      have Wk : W p l e (headSpec w_La_steps rm_La_steps).room s m9 [.ref (b + 0), .int a0, .ref o].toArray below meth9 c9 T.heap locs 1 6 (MQ below (qL D ca b o 1 r σ' (cd_La_steps 1)) [.ref (b + 0), .int a0, .ref o].toArray s 1 6 (fL b o)) (F0 m9 15 ls [.ref a]) := by
        refine lv_astore_n S.1 S.2.1 d_La_steps_15 rfl (lo_has hl) (Nat.le_of_ble_eq_true rfl) rfl (fun ls2 _ => ?_)
        refine lv_iconst S.1 S.2.1 d_La_steps_16 (v := 2) (by decide) ?_
        exact la_fin S hr hlocks hP1 ⟨f0, hout1, fun h => absurd h (by decide)⟩ hS1 rfl d_La_steps_17
      obtain ⟨t2, a1, b1⟩ := Wk (T.setVm vm1) rfl X2
      exact ⟨t2, st2 t2 a1, b1⟩
    · obtain ⟨vm1, X2, st2⟩ := fc_at X S.2.2.2.1 hKL.2.2.2 (a := a) (g := { F0 m9 4 ls (([.int a0] : List Value).reverse ++ [.ref (b + 0), .int 0, .ref o]) with stack := [.int 0, .ref o] }) rfl (x := 2) (by decide) (by decide) hex (ys := [6, 1, 2, 3, 4, 5]) htab (al_La_steps hts (fun _ => List.mem_cons_of_mem _)) rfl (i := 2) (pc := 18) rfl (by decide) rfl
      have Wk : W p l e (headSpec w_La_steps rm_La_steps).room s m9 [.ref (b + 0), .int a0, .ref o].toArray below meth9 c9 T.heap locs 1 6 (MQ below (qL D ca b o 2 r σ' (cd_La_steps 2)) [.ref (b + 0), .int a0, .ref o].toArray s 1 6 (fL b o)) (F0 m9 18 ls [.ref a]) := by
        refine lv_astore_n S.1 S.2.1 d_La_steps_18 rfl (lo_has hl) (Nat.le_of_ble_eq_true rfl) rfl (fun ls2 _ => ?_)
        refine lv_iconst S.1 S.2.1 d_La_steps_19 (v := 3) (by decide) ?_
        exact la_fin S hr hlocks hP1 ⟨f0, hout1, fun h => absurd h (by decide)⟩ hS1 rfl d_La_steps_20
      obtain ⟨t2, a1, b1⟩ := Wk (T.setVm vm1) rfl X2
      exact ⟨t2, st2 t2 a1, b1⟩
    · obtain ⟨vm1, X2, st2⟩ := fc_at X S.2.2.2.1 hKL.2.2.2 (a := a) (g := { F0 m9 4 ls (([.int a0] : List Value).reverse ++ [.ref (b + 0), .int 0, .ref o]) with stack := [.int 0, .ref o] }) rfl (x := 3) (by decide) (by decide) hex (ys := [6, 1, 2, 3, 4, 5]) htab (al_La_steps hts (fun _ => List.mem_cons_of_mem _)) rfl (i := 3) (pc := 21) rfl (by decide) rfl
      have Wk : W p l e (headSpec w_La_steps rm_La_steps).room s m9 [.ref (b + 0), .int a0, .ref o].toArray below meth9 c9 T.heap locs 1 6 (MQ below (qL D ca b o 3 r σ' (cd_La_steps 3)) [.ref (b + 0), .int a0, .ref o].toArray s 1 6 (fL b o)) (F0 m9 21 ls [.ref a]) := by
        refine lv_astore_n S.1 S.2.1 d_La_steps_21 rfl (lo_has hl) (Nat.le_of_ble_eq_true rfl) rfl (fun ls2 _ => ?_)
        refine lv_iconst S.1 S.2.1 d_La_steps_22 (v := 4) (by decide) ?_
        exact la_fin S hr hlocks hP1 ⟨f0, hout1, fun h => absurd h (by decide)⟩ hS1 rfl d_La_steps_23
      obtain ⟨t2, a1, b1⟩ := Wk (T.setVm vm1) rfl X2
      exact ⟨t2, st2 t2 a1, b1⟩
    · obtain ⟨vm1, X2, st2⟩ := fc_at X S.2.2.2.1 hKL.2.2.2 (a := a) (g := { F0 m9 4 ls (([.int a0] : List Value).reverse ++ [.ref (b + 0), .int 0, .ref o]) with stack := [.int 0, .ref o] }) rfl (x := 4) (by decide) (by decide) hex (ys := [6, 1, 2, 3, 4, 5]) htab (al_La_steps hts (fun _ => List.mem_cons_of_mem _)) rfl (i := 4) (pc := 24) rfl (by decide) rfl
      have Wk : W p l e (headSpec w_La_steps rm_La_steps).room s m9 [.ref (b + 0), .int a0, .ref o].toArray below meth9 c9 T.heap locs 1 6 (MQ below (qL D ca b o 4 r σ' (cd_La_steps 4)) [.ref (b + 0), .int a0, .ref o].toArray s 1 6 (fL b o)) (F0 m9 24 ls [.ref a]) := by
        refine lv_astore_n S.1 S.2.1 d_La_steps_24 rfl (lo_has hl) (Nat.le_of_ble_eq_true rfl) rfl (fun ls2 _ => ?_)
        refine lv_iconst S.1 S.2.1 d_La_steps_25 (v := 5) (by decide) ?_
        exact la_fin S hr hlocks hP1 ⟨f0, hout1, fun h => absurd h (by decide)⟩ hS1 rfl d_La_steps_26
      obtain ⟨t2, a1, b1⟩ := Wk (T.setVm vm1) rfl X2
      exact ⟨t2, st2 t2 a1, b1⟩
    · obtain ⟨vm1, X2, st2⟩ := fc_at X S.2.2.2.1 hKL.2.2.2 (a := a) (g := { F0 m9 4 ls (([.int a0] : List Value).reverse ++ [.ref (b + 0), .int 0, .ref o]) with stack := [.int 0, .ref o] }) rfl (x := 5) (by decide) (by decide) hex (ys := [6, 1, 2, 3, 4, 5]) htab (al_La_steps hts (fun _ => List.mem_cons_of_mem _)) rfl (i := 5) (pc := 27) rfl (by decide) rfl
      have Wk : W p l e (headSpec w_La_steps rm_La_steps).room s m9 [.ref (b + 0), .int a0, .ref o].toArray below meth9 c9 T.heap locs 1 6 (MQ below (qL D ca b o 5 r σ' (cd_La_steps 5)) [.ref (b + 0), .int a0, .ref o].toArray s 1 6 (fL b o)) (F0 m9 27 ls [.ref a]) := by
        refine lv_astore_n S.1 S.2.1 d_La_steps_27 rfl (lo_has hl) (Nat.le_of_ble_eq_true rfl) rfl (fun ls2 _ => ?_)
        refine lv_bipush S.1 S.2.1 d_La_steps_28 (v := 6) (by decide) ?_
        exact la_fin S hr hlocks hP1 ⟨f0, hout1, fun h => absurd h (by decide)⟩ hS1 rfl d_La_steps_30
      obtain ⟨t2, a1, b1⟩ := Wk (T.setVm vm1) rfl X2
      exact ⟨t2, st2 t2 a1, b1⟩
    · obtain ⟨vm1, X2, st2⟩ := fc_at X S.2.2.2.1 hKL.2.2.2 (a := a) (g := { F0 m9 4 ls (([.int a0] : List Value).reverse ++ [.ref (b + 0), .int 0, .ref o]) with stack := [.int 0, .ref o] }) rfl (x := 6) (by decide) (by decide) hex (ys := [6, 1, 2, 3, 4, 5]) htab (al_La_steps hts (fun _ => List.mem_cons_of_mem _)) rfl (i := 0) (pc := 12) rfl (by decide) rfl
      have Wk : W p l e (headSpec w_La_steps rm_La_steps).room s m9 [.ref (b + 0), .int a0, .ref o].toArray below meth9 c9 T.heap locs 1 6 (MQ below (qL D ca b o 6 r σ' (cd_La_steps 6)) [.ref (b + 0), .int a0, .ref o].toArray s 1 6 (fL b o)) (F0 m9 12 ls [.ref a]) := by
        refine lv_astore_n S.1 S.2.1 d_La_steps_12 rfl (lo_has hl) (Nat.le_of_ble_eq_true rfl) rfl (fun ls2 _ => ?_)
        refine lv_iconst S.1 S.2.1 d_La_steps_13 (v := 1) (by decide) ?_
        exact la_fin S hr hlocks hP1 ⟨f0, hout1, fun h => absurd h (by decide)⟩ hS1 rfl d_La_steps_14
      obtain ⟨t2, a1, b1⟩ := Wk (T.setVm vm1) rfl X2
      exact ⟨t2, st2 t2 a1, b1⟩

theorem ix_lt {i : Int32} {n : Nat} (hn : n < 2 ^ 31) (hi : ¬ (i < 0 ∨ n ≤ i.toNatClampNeg)) : i < nI n := by
  obtain ⟨j, hj, rfl⟩ := vp_in_of (x := i) (n := n) hi hn
  exact nI_lt hj hn
set_option maxRecDepth 100000 in
set_option maxHeartbeats 4000000 in
theorem c_En_ordO (l : Launch) (D : va_G) (ca : Nat → ClassId) (ax : Nat → Nat → Nat) (b : Nat) (σ : mm_M) {o : Nat} (ho : o < 20) : Met l y_En_ordinal w_En_ordinal rm_En_ordinal (pc_w D cls b N_C (ce_C ca b) (kC D ca ax b) [.ref (ax 0 o)] σ) (qc_i D cls b N_C (ce_C ca b) (nI o) σ) 0 0 (mm_A b N_C) := by
  refine vv_go (cc := b_En_ordinal) (maxL := 1) (ret := (some .int)) (fin := ((nI o), σ)) (k := some ((nI o), σ)) (by decide) rfl (by simp [Value.category]) (Nat.le_of_ble_eq_true rfl) rfl ?_
  intro p e s m below meth c hlocks hret S hKK
  refine v_aload_n S d_En_ordinal_0 rfl rfl ?_
  refine v_of S (hKK.2.1.1 o ho).2.2.1 (S.2.2.2.2 _ (List.mem_cons_of_mem _ wd_987)) (fun _ h => h) d_En_ordinal_1 ?_
  exact v_iret S hret hlocks d_En_ordinal_4
set_option maxRecDepth 100000 in
set_option maxHeartbeats 4000000 in
theorem c_En_ordT (l : Launch) (D : va_G) (ca : Nat → ClassId) (ax : Nat → Nat → Nat) (b : Nat) (σ : mm_M) {o : Nat} (ho : o < 6) : Met l y_En_ordinal w_En_ordinal rm_En_ordinal (pc_w D cls b N_C (ce_C ca b) (kC D ca ax b) [.ref (ax 1 o)] σ) (qc_i D cls b N_C (ce_C ca b) (nI o) σ) 0 0 (mm_A b N_C) := by
  refine vv_go (cc := b_En_ordinal) (maxL := 1) (ret := (some .int)) (fin := ((nI o), σ)) (k := some ((nI o), σ)) (by decide) rfl (by simp [Value.category]) (Nat.le_of_ble_eq_true rfl) rfl ?_
  intro p e s m below meth c hlocks hret S hKK
  refine v_aload_n S d_En_ordinal_0 rfl rfl ?_
  refine v_of S (hKK.2.1.2.1 o ho).2.2 (S.2.2.2.2 _ (List.mem_cons_of_mem _ wd_987)) (fun _ h => h) d_En_ordinal_1 ?_
  exact v_iret S hret hlocks d_En_ordinal_4
set_option maxRecDepth 100000 in
set_option maxHeartbeats 4000000 in
theorem c_Pc_checkIndex (l : Launch) (D : va_G) (ca : Nat → ClassId) (ax : Nat → Nat → Nat) (b : Nat) (σ : mm_M) {i : Int32} {n : Nat} (v : Value) (hv : v.category = 1) (hn : n < 2 ^ 31) (hi : ¬ (i < 0 ∨ n ≤ i.toNatClampNeg)) : Met l y_Pc_checkIndex w_Pc_checkIndex rm_Pc_checkIndex (pc_w D cls b N_C (ce_C ca b) (kC D ca ax b) [.int i, .int (nI n), v] σ) (qc_i D cls b N_C (ce_C ca b) (i) σ) 0 0 (mm_A b N_C) := by
  refine vv_go (cc := b_Pc_checkIndex) (maxL := 3) (ret := (some .int)) (fin := ((i), σ)) (k := some ((i), σ)) (by decide) rfl (by intro w hw; simp at hw; rcases hw with rfl | rfl | rfl <;> first | rfl | exact hv) (Nat.le_of_ble_eq_true rfl) rfl ?_
  intro p e s m below meth c hlocks hret S hKK
  refine v_iload_n S d_Pc_checkIndex_0 rfl rfl ?_
  refine v_if_ltF S d_Pc_checkIndex_1 (tgt := 9) (by decide) (fun q => hi (Or.inl q)) ?_
  refine v_iload_n S d_Pc_checkIndex_4 rfl rfl ?_
  refine v_iload_n S d_Pc_checkIndex_5 rfl rfl ?_
  refine v_icmp_ltT S d_Pc_checkIndex_6 (tgt := 16) (by decide) (ix_lt hn hi) ?_
  refine v_iload_n S d_Pc_checkIndex_16 rfl rfl ?_
  exact v_iret S hret hlocks d_Pc_checkIndex_17
set_option maxRecDepth 100000 in
set_option maxHeartbeats 4000000 in
theorem c_St_checkIndex (l : Launch) (D : va_G) (ca : Nat → ClassId) (ax : Nat → Nat → Nat) (b : Nat) (σ : mm_M) {i : Int32} {n : Nat} (hn : n < 2 ^ 31) (hi : ¬ (i < 0 ∨ n ≤ i.toNatClampNeg)) : Met l y_St_checkIndex w_St_checkIndex rm_St_checkIndex (pc_w D cls b N_C (ce_C ca b) (kC D ca ax b) [.int i, .int (nI n)] σ) (qc_v D cls b N_C (ce_C ca b) σ) 0 0 (mm_A b N_C) := by
  refine vv_go (cc := b_St_checkIndex) (maxL := 2) (ret := none) (fin := σ) (k := some σ) (by decide) rfl (by simp [Value.category]) (Nat.le_of_ble_eq_true rfl) rfl ?_
  intro p e s m below meth c hlocks hret S hKK
  refine v_iload_n S d_St_checkIndex_0 rfl rfl ?_
  refine v_iload_n S d_St_checkIndex_1 rfl rfl ?_
  have key : ∀ v : Value, v.category = 1 → vv p l e (headSpec w_St_checkIndex rm_St_checkIndex).room s m [.int i, .int (nI n)].toArray below meth c D cls b N_C (ce_C ca b) 2 (MQ below (qc_v D cls b N_C (ce_C ca b) σ) [.int i, .int (nI n)].toArray s 0 0 (mm_A b N_C)) σ (some σ) σ 5 [some (.int i), some (.int (nI n))] [v, .int (nI n), .int i] := by
    intro v hv
    refine v_ci (av := [.int i, .int (nI n), v].toArray) (g := some (i, σ)) (kf := fun _ _ => some σ) (rest := []) (fun r1 σ1 hg H locs ls hsz hP hS => ?_) (fun r1 σ1 hg => ?_)
    · cases hg; exact run_S (As := [.int i, .int (nI n), v]) (rest := []) S kC_ok hKK (c_Pc_checkIndex l D ca ax b σ v hv hn hi) (k_St_1059 S.2.2.2.2 (fun _ => List.mem_cons_of_mem _) ⟨Nat.le_of_ble_eq_true rfl, Nat.le_of_ble_eq_true rfl⟩) rfl rfl (Nat.zero_le _) d_St_checkIndex_5 hsz hP hS
    · cases hg
      refine v_pop S d_St_checkIndex_8 rfl ?_
      exact v_vret S hret hlocks d_St_checkIndex_9
  rcases kc_sf hKK with hz | ⟨t, hz⟩
  · refine v_gets S hz (S.2.2.2.2 _ (List.mem_cons_of_mem _ wd_318)) (fun _ h => h) d_St_checkIndex_2 ?_
    exact key .null rfl
  · refine v_gets S hz (S.2.2.2.2 _ (List.mem_cons_of_mem _ wd_318)) (fun _ h => h) d_St_checkIndex_2 ?_
    exact key (.ref t) rfl
set_option maxRecDepth 100000 in
set_option maxHeartbeats 4000000 in
theorem c_SL_charAt (l : Launch) (D : va_G) (ca : Nat → ClassId) (ax : Nat → Nat → Nat) (b : Nat) (σ : mm_M) {i : Int32} {k : Nat} (hk : k < 8) (hi : ¬ (i < 0 ∨ tx_n k ≤ i.toNatClampNeg)) : Met l y_SL_charAt w_SL_charAt rm_SL_charAt (pc_w D cls b N_C (ce_C ca b) (kC D ca ax b) [.ref (ax 6 k), .int i] σ) (qc_i D cls b N_C (ce_C ca b) (tx_b k i.toNatClampNeg) σ) 0 0 (mm_A b N_C) := by
  refine vv_go (cc := b_SL_charAt) (maxL := 2) (ret := (some .char)) (fin := ((tx_b k i.toNatClampNeg), σ)) (k := some ((tx_b k i.toNatClampNeg), σ)) (by decide) rfl (by simp [Value.category]) (Nat.le_of_ble_eq_true rfl) rfl ?_
  intro p e s m below meth c hlocks hret S hKK
  refine v_iload_n S d_SL_charAt_0 rfl rfl ?_
  refine v_aload_n S d_SL_charAt_1 rfl rfl ?_
  refine v_tlen S (kc_st hKK hk).2.2.2 (v := nI (tx_n k)) rfl d_SL_charAt_2 ?_
  refine v_cv (av := [.int i, .int (nI (tx_n k))].toArray) (g := some σ) (kf := fun _ => some (tx_b k i.toNatClampNeg, σ)) (rest := []) (fun σ1 hg H locs ls hsz hP hS => ?_) (fun σ1 hg => ?_)
  · cases hg; exact run_S (As := [.int i, .int (nI (tx_n k))]) (rest := []) S kC_ok hKK (c_St_checkIndex l D ca ax b σ (Nat.lt_trans (tx_lt k hk) (by decide)) hi) (k_SL_9 S.2.2.2.2 (fun _ => List.mem_cons_of_mem _) ⟨Nat.le_of_ble_eq_true rfl, Nat.le_of_ble_eq_true rfl⟩) rfl rfl (Nat.zero_le _) d_SL_charAt_3 hsz hP hS
  · cases hg
    refine v_aload_n S d_SL_charAt_6 rfl rfl ?_
    refine v_iload_n S d_SL_charAt_7 rfl rfl ?_
    refine v_tb0 S (kc_st hKK hk).2.2.2 hi d_SL_charAt_8 ?_
    refine v_sipush S d_SL_charAt_9 (v := 255) (by decide) ?_
    refine v_iand S d_SL_charAt_12 ?_
    refine v_i2c S d_SL_charAt_13 (v := tx_b k i.toNatClampNeg) (tx_c k hk _ (ib hi)) ?_
    exact v_xret S hret (tx_nc k hk _ (ib hi)) hlocks d_SL_charAt_14
set_option maxRecDepth 100000 in
set_option maxHeartbeats 4000000 in
theorem c_St_coder (l : Launch) (D : va_G) (ca : Nat → ClassId) (ax : Nat → Nat → Nat) (b : Nat) (σ : mm_M) {k : Nat} (hk : k < 8) : Met l y_St_coder w_St_coder rm_St_coder (pc_w D cls b N_C (ce_C ca b) (kC D ca ax b) [.ref (ax 5 k)] σ) (qc_i D cls b N_C (ce_C ca b) ((0 : Int32)) σ) 0 0 (mm_A b N_C) := by
  refine vv_go (cc := b_St_coder) (maxL := 1) (ret := (some .byte)) (fin := (((0 : Int32)), σ)) (k := some (((0 : Int32)), σ)) (by decide) rfl (by simp [Value.category]) (Nat.le_of_ble_eq_true rfl) rfl ?_
  intro p e s m below meth c hlocks hret S hKK
  refine v_gets S (kc_cs hKK) (S.2.2.2.2 _ (List.mem_cons_of_mem _ wd_292)) (fun _ h => h) d_St_coder_0 ?_
  refine v_if_eqF S d_St_coder_3 (tgt := 13) (by decide) (by decide) ?_
  refine v_aload_n S d_St_coder_6 rfl rfl ?_
  refine v_of S (kc_st hKK hk).2.1 (S.2.2.2.2 _ (List.mem_cons_of_mem _ wd_990)) (fun _ h => h) d_St_coder_7 ?_
  refine v_goto S d_St_coder_10 (tgt := 14) (by decide) ?_
  exact v_xret S hret rfl hlocks d_St_coder_14
set_option maxRecDepth 100000 in
set_option maxHeartbeats 4000000 in
theorem c_St_isLatin1 (l : Launch) (D : va_G) (ca : Nat → ClassId) (ax : Nat → Nat → Nat) (b : Nat) (σ : mm_M) {k : Nat} (hk : k < 8) : Met l y_St_isLatin1 w_St_isLatin1 rm_St_isLatin1 (pc_w D cls b N_C (ce_C ca b) (kC D ca ax b) [.ref (ax 5 k)] σ) (qc_i D cls b N_C (ce_C ca b) ((1 : Int32)) σ) 0 0 (mm_A b N_C) := by
  refine vv_go (cc := b_St_isLatin1) (maxL := 1) (ret := (some .boolean)) (fin := (((1 : Int32)), σ)) (k := some (((1 : Int32)), σ)) (by decide) rfl (by simp [Value.category]) (Nat.le_of_ble_eq_true rfl) rfl ?_
  intro p e s m below meth c hlocks hret S hKK
  refine v_gets S (kc_cs hKK) (S.2.2.2.2 _ (List.mem_cons_of_mem _ wd_292)) (fun _ h => h) d_St_isLatin1_0 ?_
  refine v_if_eqF S d_St_isLatin1_3 (tgt := 17) (by decide) (by decide) ?_
  refine v_aload_n S d_St_isLatin1_6 rfl rfl ?_
  refine v_of S (kc_st hKK hk).2.1 (S.2.2.2.2 _ (List.mem_cons_of_mem _ wd_990)) (fun _ h => h) d_St_isLatin1_7 ?_
  refine v_if_neF S d_St_isLatin1_10 (tgt := 17) (by decide) (by decide) ?_
  refine v_iconst S d_St_isLatin1_13 (v := 1) (by decide) ?_
  refine v_goto S d_St_isLatin1_14 (tgt := 18) (by decide) ?_
  exact v_xret S hret rfl hlocks d_St_isLatin1_18
set_option maxRecDepth 100000 in
set_option maxHeartbeats 4000000 in
theorem c_St_length (l : Launch) (D : va_G) (ca : Nat → ClassId) (ax : Nat → Nat → Nat) (b : Nat) (σ : mm_M) {k : Nat} (hk : k < 8) : Met l y_St_length w_St_length rm_St_length (pc_w D cls b N_C (ce_C ca b) (kC D ca ax b) [.ref (ax 5 k)] σ) (qc_i D cls b N_C (ce_C ca b) (nI (tx_n k)) σ) 0 0 (mm_A b N_C) := by
  refine vv_go (cc := b_St_length) (maxL := 1) (ret := (some .int)) (fin := ((nI (tx_n k)), σ)) (k := some ((nI (tx_n k)), σ)) (by decide) rfl (by simp [Value.category]) (Nat.le_of_ble_eq_true rfl) rfl ?_
  intro p e s m below meth c hlocks hret S hKK
  refine v_aload_n S d_St_length_0 rfl rfl ?_
  refine v_of S (kc_st hKK hk).2.2.1 (S.2.2.2.2 _ (List.mem_cons_of_mem _ wd_989)) (fun _ h => h) d_St_length_1 ?_
  refine v_tlen S (kc_st hKK hk).2.2.2 (v := nI (tx_n k)) rfl d_St_length_4 ?_
  refine v_aload_n S d_St_length_5 rfl rfl ?_
  refine v_ci (av := [.ref (ax 5 k)].toArray) (g := some (0, σ)) (kf := fun _ _ => some (nI (tx_n k), σ)) (rest := [.int (nI (tx_n k))]) (fun r1 σ1 hg H locs ls hsz hP hS => ?_) (fun r1 σ1 hg => ?_)
  · cases hg; exact run_V (As := []) (rest := [.int (nI (tx_n k))]) S kC_ok hKK (c_St_coder l D ca ax b σ hk) (k_St_335 S.2.2.2.2 (fun _ => List.mem_cons_of_mem _) ⟨Nat.le_of_ble_eq_true rfl, Nat.le_of_ble_eq_true rfl⟩) (rc_o (kc_st hKK hk).1 hS) rfl rfl (by simp [Value.category]) d_St_length_6 hsz hP hS
  · cases hg
    refine v_ishr S d_St_length_9 ?_
    rw [sc_shr0 (Nat.lt_trans (tx_lt k hk) (by decide))]
    exact v_iret S hret hlocks d_St_length_10
set_option maxRecDepth 100000 in
set_option maxHeartbeats 4000000 in
theorem c_St_charAt (l : Launch) (D : va_G) (ca : Nat → ClassId) (ax : Nat → Nat → Nat) (b : Nat) (σ : mm_M) {i : Int32} {k : Nat} (hk : k < 8) (hi : ¬ (i < 0 ∨ tx_n k ≤ i.toNatClampNeg)) : Met l y_St_charAt w_St_charAt rm_St_charAt (pc_w D cls b N_C (ce_C ca b) (kC D ca ax b) [.ref (ax 5 k), .int i] σ) (qc_i D cls b N_C (ce_C ca b) (tx_b k i.toNatClampNeg) σ) 0 0 (mm_A b N_C) := by
  refine vv_go (cc := b_St_charAt) (maxL := 2) (ret := (some .char)) (fin := ((tx_b k i.toNatClampNeg), σ)) (k := some ((tx_b k i.toNatClampNeg), σ)) (by decide) rfl (by simp [Value.category]) (Nat.le_of_ble_eq_true rfl) rfl ?_
  intro p e s m below meth c hlocks hret S hKK
  refine v_aload_n S d_St_charAt_0 rfl rfl ?_
  refine v_ci (av := [.ref (ax 5 k)].toArray) (g := some (1, σ)) (kf := fun _ _ => some (tx_b k i.toNatClampNeg, σ)) (rest := []) (fun r1 σ1 hg H locs ls hsz hP hS => ?_) (fun r1 σ1 hg => ?_)
  · cases hg; exact run_V (As := []) (rest := []) S kC_ok hKK (c_St_isLatin1 l D ca ax b σ hk) (k_St_492 S.2.2.2.2 (fun _ => List.mem_cons_of_mem _) ⟨Nat.le_of_ble_eq_true rfl, Nat.le_of_ble_eq_true rfl⟩) (rc_o (kc_st hKK hk).1 hS) rfl rfl (Nat.zero_le _) d_St_charAt_1 hsz hP hS
  · cases hg
    refine v_if_eqF S d_St_charAt_4 (tgt := 16) (by decide) (by decide) ?_
    refine v_aload_n S d_St_charAt_7 rfl rfl ?_
    refine v_of S (kc_st hKK hk).2.2.1 (S.2.2.2.2 _ (List.mem_cons_of_mem _ wd_989)) (fun _ h => h) d_St_charAt_8 ?_
    refine v_iload_n S d_St_charAt_11 rfl rfl ?_
    refine v_ci (av := [.ref (ax 6 k), .int i].toArray) (g := some (tx_b k i.toNatClampNeg, σ)) (kf := fun _ _ => some (tx_b k i.toNatClampNeg, σ)) (rest := []) (fun r1 σ1 hg H locs ls hsz hP hS => ?_) (fun r1 σ1 hg => ?_)
    · cases hg; exact run_S (As := [.ref (ax 6 k), .int i]) (rest := []) S kC_ok hKK (c_SL_charAt l D ca ax b σ hk hi) (k_St_495 S.2.2.2.2 (fun _ => List.mem_cons_of_mem _) ⟨Nat.le_of_ble_eq_true rfl, Nat.le_of_ble_eq_true rfl⟩) rfl rfl (Nat.zero_le _) d_St_charAt_12 hsz hP hS
    · cases hg
      exact v_xret S hret (tx_nc k hk _ (ib hi)) hlocks d_St_charAt_15
section VV7
variable {Res : Type} {p : Program} {l : Launch} {e : Env} {R : Room} {s : State} {m : MethodId} {args : Array Value} {below : List Frame} {meth : Method} {c : Code} {D : va_G} {ca : Nat → ClassId} {ax : Nat → Nat → Nat} {b : Nat} {nL : Nat} {Q : State → Prop} {fin : Res} {k A B : Option Res} {σ : mm_M} {pc : Nat} {L L2 : List (Option Value)} {rest : List Value} {cc : ByteArray} {Ts : List Cond} {own : String} {index : Nat}
theorem run_U {x y : MethodName} {C owner : String} {bytes : ByteArray} {maxL n : Nat} {ret : Option FieldType} {ws : List Cond} {rm : Room} {As st0 : List Value} {Qc : Array Value → State → Outcome → State → Prop} {KK : State → Prop} {ce : Nat → (Nat → Int32) → va_E} {N : Nat} {H : Heap} {locs : List Loc} {ls : Array Slot} {a : Nat} (S : CallFix p m c cc nL s args Ts own) (hkk : kk_ok b N KK) (hK : KK s) (hM : Met l y ws rm (pc_w D cls b N ce KK (.ref a :: As) σ) Qc 0 0 (mm_A b N)) (cw : va_CU R s args own C owner index x y bytes maxL ret ws rm 0 0 n) (hrc : ∃ cellB : Cell, H[a]? = some cellB ∧ cellB.vm.isStatics = false ∧ s.vm.findClass C = some cellB.cls) (hn : As.length = n) (hst : st0 = As.reverse ++ .ref a :: rest) (hw : (rest.map fun v => v.category).sum ≤ 8) (d : decode cc pc = .ok (.invokevirtual index, 3)) (hsz : ls.size = nL) (hP : mm_P D cls b N ce σ H) (hS : va_S (mm_A b N) s.heap H locs) :
    va_Run p l e R s m args below meth c H locs 0 0 0 0 (F0 m pc ls st0) rest (Qc (Value.ref a :: As).toArray) (mm_A b N) := va_runU S hM cw ⟨(pw_pre (av := .ref a :: As) hkk hK hP hS).1, hrc, (pw_pre (av := .ref a :: As) hkk hK hP hS).2⟩ rfl hn hsz hst (lv_room hw) d ⟨Nat.zero_le _, Nat.zero_le _⟩
theorem v_ordO {o : Nat} (S : CallFix p m c cc nL s args Ts own) (hKK : kC D ca ax b s) (ho : o < 20) (cw : va_CU R s args own "FrameVerifier$Op" "java/lang/Enum" index ⟨"FrameVerifier$Op", "ordinal", "()I"⟩ y_En_ordinal b_En_ordinal 1 (some .int) w_En_ordinal rm_En_ordinal 0 0 0) (hw : (rest.map fun v => v.category).sum ≤ 8) (d : decode cc pc = .ok (.invokevirtual index, 3)) (kk : vv p l e R s m args below meth c D cls b N_C (ce_C ca b) nL Q fin k σ (pc + 3) L (.int (nI o) :: rest)) : vv p l e R s m args below meth c D cls b N_C (ce_C ca b) nL Q fin k σ pc L (.ref (ax 0 o) :: rest) :=
  v_ci (av := [.ref (ax 0 o)].toArray) (g := some (nI o, σ)) (kf := fun _ _ => k) (rest := rest) (fun r1 σ1 hg H locs ls hsz hP hS => by cases hg; exact run_U (As := []) S kC_ok hKK (c_En_ordO l D ca ax b σ ho) cw (rc_o (hKK.2.1.1 o ho).2.1 hS) rfl rfl hw d hsz hP hS) (fun r1 σ1 hg => by cases hg; exact kk)
theorem v_ordT {o : Nat} (S : CallFix p m c cc nL s args Ts own) (hKK : kC D ca ax b s) (ho : o < 6) (cw : va_CU R s args own "FrameVerifier$Trap" "java/lang/Enum" index ⟨"FrameVerifier$Trap", "ordinal", "()I"⟩ y_En_ordinal b_En_ordinal 1 (some .int) w_En_ordinal rm_En_ordinal 0 0 0) (hw : (rest.map fun v => v.category).sum ≤ 8) (d : decode cc pc = .ok (.invokevirtual index, 3)) (kk : vv p l e R s m args below meth c D cls b N_C (ce_C ca b) nL Q fin k σ (pc + 3) L (.int (nI o) :: rest)) : vv p l e R s m args below meth c D cls b N_C (ce_C ca b) nL Q fin k σ pc L (.ref (ax 1 o) :: rest) :=
  v_ci (av := [.ref (ax 1 o)].toArray) (g := some (nI o, σ)) (kf := fun _ _ => k) (rest := rest) (fun r1 σ1 hg H locs ls hsz hP hS => by cases hg; exact run_U (As := []) S kC_ok hKK (c_En_ordT l D ca ax b σ ho) cw (rc_o (hKK.2.1.2.1 o ho).2.1 hS) rfl rfl hw d hsz hP hS) (fun r1 σ1 hg => by cases hg; exact kk)
theorem v_strLen {o : Nat} (S : CallFix p m c cc nL s args Ts own) (hKK : kC D ca ax b s) (ho : o < 20) (cw : CallW R s args own "java/lang/String" index y_St_length b_St_length 1 (some .int) w_St_length rm_St_length 0 0 0) (hw : (rest.map fun v => v.category).sum ≤ 8) (d : decode cc pc = .ok (.invokevirtual index, 3)) (kk : vv p l e R s m args below meth c D cls b N_C (ce_C ca b) nL Q fin k σ (pc + 3) L (.int (st_len o) :: rest)) : vv p l e R s m args below meth c D cls b N_C (ce_C ca b) nL Q fin k σ pc L (.ref (ax 5 (st_of o)) :: rest) :=
  v_ci (av := [.ref (ax 5 (st_of o))].toArray) (g := some (nI (tx_n (st_of o)), σ)) (kf := fun _ _ => k) (rest := rest) (fun r1 σ1 hg H locs ls hsz hP hS => by cases hg; exact run_V (As := []) S kC_ok hKK (c_St_length l D ca ax b σ (st_lt ho)) cw (rc_o (kc_st hKK (st_lt ho)).1 hS) rfl rfl hw d hsz hP hS) (fun r1 σ1 hg => by cases hg; exact kk)
theorem v_strAt {o : Nat} {i : Int32} (S : CallFix p m c cc nL s args Ts own) (hKK : kC D ca ax b s) (ho : o < 20) (cw : CallW R s args own "java/lang/String" index y_St_charAt b_St_charAt 2 (some .char) w_St_charAt rm_St_charAt 0 0 1) (hw : (rest.map fun v => v.category).sum ≤ 8) (d : decode cc pc = .ok (.invokevirtual index, 3)) (kk : ¬ (i < 0 ∨ st_n o ≤ i.toNatClampNeg) → vv p l e R s m args below meth c D cls b N_C (ce_C ca b) nL Q fin k σ (pc + 3) L (.int (st_at o i.toNatClampNeg) :: rest)) : vv p l e R s m args below meth c D cls b N_C (ce_C ca b) nL Q fin (if (i < 0 ∨ st_n o ≤ i.toNatClampNeg) then none else k) σ pc L (.int i :: .ref (ax 5 (st_of o)) :: rest) := by
  by_cases h : (i < 0 ∨ st_n o ≤ i.toNatClampNeg)
  · rw [if_pos h]
    intro hk
    cases hk
  · rw [if_neg h]
    exact v_ci (av := [.ref (ax 5 (st_of o)), .int i].toArray) (g := some (tx_b (st_of o) i.toNatClampNeg, σ)) (kf := fun _ _ => k) (rest := rest) (fun r1 σ1 hg H locs ls hsz hP hS => by cases hg; exact run_V (As := [.int i]) S kC_ok hKK (c_St_charAt l D ca ax b σ (st_lt ho) h) cw (rc_o (kc_st hKK (st_lt ho)).1 hS) rfl rfl hw d hsz hP hS) (fun r1 σ1 hg => by cases hg; exact kk h)
end VV7

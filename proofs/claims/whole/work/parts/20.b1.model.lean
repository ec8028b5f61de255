/-! contracts of 20.model; written by wip/whole/make.py -/
def fn_Mo_tryGo (σ : mm_M) (a0 : Int32) (a1 : Int32) : Option (mm_M) :=
    (if a0 = (9 : Int32) then
    (bv (fn_Mo_give σ (2 : Int32)) (fun σ15 =>
    (some σ15)))
    else
    (if a0 = (11 : Int32) then
    (bd (fn_Mo_take σ (1 : Int32)) (fun r13 σ12 =>
    (bv (fn_Mo_give σ12 (2 : Int32)) (fun σ14 =>
    (some σ14)))))
    else
    (if a0 = (7 : Int32) then
    (bv (fn_Mo_goTo σ a1) (fun σ11 =>
    (some σ11)))
    else
    (if a0 = (8 : Int32) then
    (bd (fn_Mo_take σ (1 : Int32)) (fun r9 σ8 =>
    (bv (fn_Mo_goTo σ8 a1) (fun σ10 =>
    (some σ10)))))
    else
    (bd (fn_Mo_take σ (2 : Int32)) (fun r6 σ5 =>
    (bv (fn_Mo_goTo σ5 a1) (fun σ7 =>
    (some σ7)))))))))
set_option maxRecDepth 100000 in
set_option maxHeartbeats 40000000 in
theorem c_Mo_tryGo (l : Launch) (D : va_G) (ca : Nat → ClassId) (ax : Nat → Nat → Nat) (b : Nat) (σ : mm_M) (a0 : Int32) (a1 : Int32)  {σ' : mm_M} (hf : fn_Mo_tryGo σ a0 a1 = some σ') : Met l y_Mo_tryGo w_Mo_tryGo rm_Mo_tryGo (pc_w D cls b N_M (ce_M ca b) (kM D ca ax b) [.ref (b + 0), .int a0, .int a1] σ) (qc_v D cls b N_M (ce_M ca b) σ') 0 0 (mm_A b N_M) := by
  refine vv_go (cc := b_Mo_tryGo) (maxL := 4) (ret := none) (fin := σ') (k := fn_Mo_tryGo σ a0 a1) (by decide) rfl (by simp [Value.category]) (Nat.le_of_ble_eq_true rfl) hf ?_
  intro p e s m below meth c hlocks hret S hKK
  unfold fn_Mo_tryGo
  refine v_iload_n S d_Mo_tryGo_0 rfl rfl ?_
  refine v_bipush S d_Mo_tryGo_1 (v := (9 : Int32)) (by decide) ?_
  refine v_icmp_ne S d_Mo_tryGo_3 (tgt := 14) (by decide) (fun h1 => ?_) (fun h1 => ?_)
  · refine v_iload_n S d_Mo_tryGo_14 rfl rfl ?_
    refine v_bipush S d_Mo_tryGo_15 (v := (11 : Int32)) (by decide) ?_
    refine v_icmp_ne S d_Mo_tryGo_17 (tgt := 34) (by decide) (fun h2 => ?_) (fun h2 => ?_)
    · refine v_iload_n S d_Mo_tryGo_34 rfl rfl ?_
      refine v_bipush S d_Mo_tryGo_35 (v := (7 : Int32)) (by decide) ?_
      refine v_icmp_ne S d_Mo_tryGo_37 (tgt := 44) (by decide) (fun h3 => ?_) (fun h3 => ?_)
      · refine v_aload_n S d_Mo_tryGo_44 rfl rfl ?_
        refine v_iload_n S d_Mo_tryGo_45 rfl rfl ?_
        refine v_bipush S d_Mo_tryGo_46 (v := (8 : Int32)) (by decide) ?_
        refine v_icmp_ne S d_Mo_tryGo_48 (tgt := 55) (by decide) (fun h4 => ?_) (fun h4 => ?_)
        · refine v_iconst S d_Mo_tryGo_55 (v := (2 : Int32)) (by decide) ?_
          refine v_ci (rest := []) (fun _ _ hg H locs ls hsz hP hS => run_V (As := [.int (2 : Int32)]) (rest := []) S kM_ok hKK (c_Mo_take l D ca ax b σ (2 : Int32) hg) (k_Mo_86 S.2.2.2.2 (fun _ => List.mem_cons_of_mem _) ⟨Nat.le_of_ble_eq_true rfl, Nat.le_of_ble_eq_true rfl⟩) (rc_w hKK.1 hP 0 (by decide) rfl rfl) rfl rfl (Nat.zero_le _) d_Mo_tryGo_56 hsz hP hS) (fun r6 σ5 _ => ?_)
          refine v_istore_nP S d_Mo_tryGo_59 rfl (by decide) (L2 := [some (.ref (b + 0)), some (.int a0), some (.int a1), some (.int r6)]) rfl ?_
          refine v_aload_n S d_Mo_tryGo_60 rfl rfl ?_
          refine v_iload_n S d_Mo_tryGo_61 rfl rfl ?_
          refine v_cv (rest := []) (fun _ hg H locs ls hsz hP hS => run_V (As := [.int a1]) (rest := []) S kM_ok hKK (c_Mo_goTo l D ca ax b σ5 a1 hg) (k_Mo_114 S.2.2.2.2 (fun _ => List.mem_cons_of_mem _) ⟨Nat.le_of_ble_eq_true rfl, Nat.le_of_ble_eq_true rfl⟩) (rc_w hKK.1 hP 0 (by decide) rfl rfl) rfl rfl (Nat.zero_le _) d_Mo_tryGo_62 hsz hP hS) (fun σ7 _ => ?_)
          exact v_vret S hret hlocks d_Mo_tryGo_65
        · refine v_iconst S d_Mo_tryGo_51 (v := (1 : Int32)) (by decide) ?_
          refine v_goto S d_Mo_tryGo_52 (tgt := 56) (by decide) ?_
          refine v_ci (rest := []) (fun _ _ hg H locs ls hsz hP hS => run_V (As := [.int (1 : Int32)]) (rest := []) S kM_ok hKK (c_Mo_take l D ca ax b σ (1 : Int32) hg) (k_Mo_86 S.2.2.2.2 (fun _ => List.mem_cons_of_mem _) ⟨Nat.le_of_ble_eq_true rfl, Nat.le_of_ble_eq_true rfl⟩) (rc_w hKK.1 hP 0 (by decide) rfl rfl) rfl rfl (Nat.zero_le _) d_Mo_tryGo_56 hsz hP hS) (fun r9 σ8 _ => ?_)
          refine v_istore_nP S d_Mo_tryGo_59 rfl (by decide) (L2 := [some (.ref (b + 0)), some (.int a0), some (.int a1), some (.int r9)]) rfl ?_
          refine v_aload_n S d_Mo_tryGo_60 rfl rfl ?_
          refine v_iload_n S d_Mo_tryGo_61 rfl rfl ?_
          refine v_cv (rest := []) (fun _ hg H locs ls hsz hP hS => run_V (As := [.int a1]) (rest := []) S kM_ok hKK (c_Mo_goTo l D ca ax b σ8 a1 hg) (k_Mo_114 S.2.2.2.2 (fun _ => List.mem_cons_of_mem _) ⟨Nat.le_of_ble_eq_true rfl, Nat.le_of_ble_eq_true rfl⟩) (rc_w hKK.1 hP 0 (by decide) rfl rfl) rfl rfl (Nat.zero_le _) d_Mo_tryGo_62 hsz hP hS) (fun σ10 _ => ?_)
          exact v_vret S hret hlocks d_Mo_tryGo_65
      · refine v_iconst S d_Mo_tryGo_40 (v := (3 : Int32)) (by decide) ?_
        refine v_goto S d_Mo_tryGo_41 (tgt := 59) (by decide) ?_
        refine v_istore_nP S d_Mo_tryGo_59 rfl (by decide) (L2 := [some (.ref (b + 0)), some (.int a0), some (.int a1), some (.int (3 : Int32))]) rfl ?_
        refine v_aload_n S d_Mo_tryGo_60 rfl rfl ?_
        refine v_iload_n S d_Mo_tryGo_61 rfl rfl ?_
        refine v_cv (rest := []) (fun _ hg H locs ls hsz hP hS => run_V (As := [.int a1]) (rest := []) S kM_ok hKK (c_Mo_goTo l D ca ax b σ a1 hg) (k_Mo_114 S.2.2.2.2 (fun _ => List.mem_cons_of_mem _) ⟨Nat.le_of_ble_eq_true rfl, Nat.le_of_ble_eq_true rfl⟩) (rc_w hKK.1 hP 0 (by decide) rfl rfl) rfl rfl (Nat.zero_le _) d_Mo_tryGo_62 hsz hP hS) (fun σ11 _ => ?_)
        exact v_vret S hret hlocks d_Mo_tryGo_65
    · refine v_aload_n S d_Mo_tryGo_20 rfl rfl ?_
      refine v_iconst S d_Mo_tryGo_21 (v := (1 : Int32)) (by decide) ?_
      refine v_ci (rest := []) (fun _ _ hg H locs ls hsz hP hS => run_V (As := [.int (1 : Int32)]) (rest := []) S kM_ok hKK (c_Mo_take l D ca ax b σ (1 : Int32) hg) (k_Mo_86 S.2.2.2.2 (fun _ => List.mem_cons_of_mem _) ⟨Nat.le_of_ble_eq_true rfl, Nat.le_of_ble_eq_true rfl⟩) (rc_w hKK.1 hP 0 (by decide) rfl rfl) rfl rfl (Nat.zero_le _) d_Mo_tryGo_22 hsz hP hS) (fun r13 σ12 _ => ?_)
      refine v_istore_nP S d_Mo_tryGo_25 rfl (by decide) (L2 := [some (.ref (b + 0)), some (.int a0), some (.int a1), some (.int r13)]) rfl ?_
      refine v_aload_n S d_Mo_tryGo_26 rfl rfl ?_
      refine v_iconst S d_Mo_tryGo_27 (v := (2 : Int32)) (by decide) ?_
      refine v_cv (rest := []) (fun _ hg H locs ls hsz hP hS => run_V (As := [.int (2 : Int32)]) (rest := []) S kM_ok hKK (c_Mo_give l D ca ax b σ12 (2 : Int32) hg) (k_Mo_90 S.2.2.2.2 (fun _ => List.mem_cons_of_mem _) ⟨Nat.le_of_ble_eq_true rfl, Nat.le_of_ble_eq_true rfl⟩) (rc_w hKK.1 hP 0 (by decide) rfl rfl) rfl rfl (Nat.zero_le _) d_Mo_tryGo_28 hsz hP hS) (fun σ14 _ => ?_)
      refine v_goto S d_Mo_tryGo_31 (tgt := 65) (by decide) ?_
      exact v_vret S hret hlocks d_Mo_tryGo_65
  · refine v_aload_n S d_Mo_tryGo_6 rfl rfl ?_
    refine v_iconst S d_Mo_tryGo_7 (v := (2 : Int32)) (by decide) ?_
    refine v_cv (rest := []) (fun _ hg H locs ls hsz hP hS => run_V (As := [.int (2 : Int32)]) (rest := []) S kM_ok hKK (c_Mo_give l D ca ax b σ (2 : Int32) hg) (k_Mo_90 S.2.2.2.2 (fun _ => List.mem_cons_of_mem _) ⟨Nat.le_of_ble_eq_true rfl, Nat.le_of_ble_eq_true rfl⟩) (rc_w hKK.1 hP 0 (by decide) rfl rfl) rfl rfl (Nat.zero_le _) d_Mo_tryGo_8 hsz hP hS) (fun σ15 _ => ?_)
    refine v_goto S d_Mo_tryGo_11 (tgt := 65) (by decide) ?_
    exact v_vret S hret hlocks d_Mo_tryGo_65
def fn_Mo_tryArray_31 (a0 : Int32) (σ : mm_M) (s0 : Int32) : Option (mm_M) :=
    (bd (fn_Mo_take σ (2 : Int32)) (fun r6 σ5 =>
    (if a0 = (13 : Int32) then
    (some σ5)
    else
    (bv (fn_Mo_give σ5 (1 : Int32)) (fun σ8 =>
    (some σ8))))))
def fn_Mo_tryArray_15 (a0 : Int32) (σ : mm_M) (s0 : Int32) : Option (mm_M) :=
    (if a0 = (14 : Int32) then
    (fn_Mo_tryArray_31 a0 σ (1 : Int32))
    else
    (bd (fn_Mo_take σ (1 : Int32)) (fun r4 σ3 =>
    (fn_Mo_tryArray_31 a0 σ3 r4))))
def fn_Mo_tryArray (σ : mm_M) (a0 : Int32) : Option (mm_M) :=
    (if a0 = (13 : Int32) then
    (bd (fn_Mo_take σ (1 : Int32)) (fun r10 σ9 =>
    (fn_Mo_tryArray_15 a0 σ9 r10)))
    else
    (fn_Mo_tryArray_15 a0 σ (1 : Int32)))
set_option maxRecDepth 100000 in
set_option maxHeartbeats 40000000 in
theorem c_Mo_tryArray (l : Launch) (D : va_G) (ca : Nat → ClassId) (ax : Nat → Nat → Nat) (b : Nat) (σ : mm_M) (a0 : Int32)  {σ' : mm_M} (hf : fn_Mo_tryArray σ a0 = some σ') : Met l y_Mo_tryArray w_Mo_tryArray rm_Mo_tryArray (pc_w D cls b N_M (ce_M ca b) (kM D ca ax b) [.ref (b + 0), .int a0] σ) (qc_v D cls b N_M (ce_M ca b) σ') 0 0 (mm_A b N_M) := by
  refine vv_go (cc := b_Mo_tryArray) (maxL := 5) (ret := none) (fin := σ') (k := fn_Mo_tryArray σ a0) (by decide) rfl (by simp [Value.category]) (Nat.le_of_ble_eq_true rfl) hf ?_
  intro p e s m below meth c hlocks hret S hKK
  have C31 : ∀ (σ : mm_M) (s0 : Int32), vv p l e (headSpec w_Mo_tryArray rm_Mo_tryArray).room s m [.ref (b + 0), .int a0].toArray below meth c D cls b N_M (ce_M ca b) 5 (MQ below (qc_v D cls b N_M (ce_M ca b) σ') [.ref (b + 0), .int a0].toArray s 0 0 (mm_A b N_M)) σ' (fn_Mo_tryArray_31 a0 σ s0) σ 31 [some (.ref (b + 0)), some (.int a0)] [.int s0] := by
    intro σ s0
    unfold fn_Mo_tryArray_31
    refine v_istore_nP S d_Mo_tryArray_31 rfl (by decide) (L2 := [some (.ref (b + 0)), some (.int a0), none, some (.int s0)]) rfl ?_
    refine v_aload_n S d_Mo_tryArray_32 rfl rfl ?_
    refine v_iconst S d_Mo_tryArray_33 (v := (2 : Int32)) (by decide) ?_
    refine v_ci (rest := []) (fun _ _ hg H locs ls hsz hP hS => run_V (As := [.int (2 : Int32)]) (rest := []) S kM_ok hKK (c_Mo_take l D ca ax b σ (2 : Int32) hg) (k_Mo_86 S.2.2.2.2 (fun _ => List.mem_cons_of_mem _) ⟨Nat.le_of_ble_eq_true rfl, Nat.le_of_ble_eq_true rfl⟩) (rc_w hKK.1 hP 0 (by decide) rfl rfl) rfl rfl (Nat.zero_le _) d_Mo_tryArray_34 hsz hP hS) (fun r6 σ5 _ => ?_)
    refine v_istoreP S d_Mo_tryArray_37 (by decide) (L2 := [some (.ref (b + 0)), some (.int a0), none, some (.int s0), some (.int r6)]) rfl ?_
    refine v_iload_n S d_Mo_tryArray_39 rfl rfl ?_
    refine v_bipush S d_Mo_tryArray_40 (v := (13 : Int32)) (by decide) ?_
    refine v_icmp_eq S d_Mo_tryArray_42 (tgt := 50) (by decide) (fun h7 => ?_) (fun h7 => ?_)
    · exact v_vret S hret hlocks d_Mo_tryArray_50
    · refine v_aload_n S d_Mo_tryArray_45 rfl rfl ?_
      refine v_iconst S d_Mo_tryArray_46 (v := (1 : Int32)) (by decide) ?_
      refine v_cv (rest := []) (fun _ hg H locs ls hsz hP hS => run_V (As := [.int (1 : Int32)]) (rest := []) S kM_ok hKK (c_Mo_give l D ca ax b σ5 (1 : Int32) hg) (k_Mo_90 S.2.2.2.2 (fun _ => List.mem_cons_of_mem _) ⟨Nat.le_of_ble_eq_true rfl, Nat.le_of_ble_eq_true rfl⟩) (rc_w hKK.1 hP 0 (by decide) rfl rfl) rfl rfl (Nat.zero_le _) d_Mo_tryArray_47 hsz hP hS) (fun σ8 _ => ?_)
      exact v_vret S hret hlocks d_Mo_tryArray_50
  have C15 : ∀ (σ : mm_M) (s0 : Int32), vv p l e (headSpec w_Mo_tryArray rm_Mo_tryArray).room s m [.ref (b + 0), .int a0].toArray below meth c D cls b N_M (ce_M ca b) 5 (MQ below (qc_v D cls b N_M (ce_M ca b) σ') [.ref (b + 0), .int a0].toArray s 0 0 (mm_A b N_M)) σ' (fn_Mo_tryArray_15 a0 σ s0) σ 15 [some (.ref (b + 0)), some (.int a0)] [.int s0] := by
    intro σ s0
    unfold fn_Mo_tryArray_15
    refine v_istore_nP S d_Mo_tryArray_15 rfl (by decide) (L2 := [some (.ref (b + 0)), some (.int a0), some (.int s0)]) rfl ?_
    refine v_iload_n S d_Mo_tryArray_16 rfl rfl ?_
    refine v_bipush S d_Mo_tryArray_17 (v := (14 : Int32)) (by decide) ?_
    refine v_icmp_ne S d_Mo_tryArray_19 (tgt := 26) (by decide) (fun h2 => ?_) (fun h2 => ?_)
    · refine v_aload_n S d_Mo_tryArray_26 rfl rfl ?_
      refine v_iconst S d_Mo_tryArray_27 (v := (1 : Int32)) (by decide) ?_
      refine v_ci (rest := []) (fun _ _ hg H locs ls hsz hP hS => run_V (As := [.int (1 : Int32)]) (rest := []) S kM_ok hKK (c_Mo_take l D ca ax b σ (1 : Int32) hg) (k_Mo_86 S.2.2.2.2 (fun _ => List.mem_cons_of_mem _) ⟨Nat.le_of_ble_eq_true rfl, Nat.le_of_ble_eq_true rfl⟩) (rc_w hKK.1 hP 0 (by decide) rfl rfl) rfl rfl (Nat.zero_le _) d_Mo_tryArray_28 hsz hP hS) (fun r4 σ3 _ => ?_)
      refine v_sub (L2 := [some (.ref (b + 0)), some (.int a0)]) (And.intro rfl (And.intro rfl True.intro)) ?_
      exact C31 σ3 r4
    · refine v_iconst S d_Mo_tryArray_22 (v := (1 : Int32)) (by decide) ?_
      refine v_goto S d_Mo_tryArray_23 (tgt := 31) (by decide) ?_
      refine v_sub (L2 := [some (.ref (b + 0)), some (.int a0)]) (And.intro rfl (And.intro rfl True.intro)) ?_
      exact C31 σ (1 : Int32)
  unfold fn_Mo_tryArray
  refine v_iload_n S d_Mo_tryArray_0 rfl rfl ?_
  refine v_bipush S d_Mo_tryArray_1 (v := (13 : Int32)) (by decide) ?_
  refine v_icmp_ne S d_Mo_tryArray_3 (tgt := 14) (by decide) (fun h1 => ?_) (fun h1 => ?_)
  · refine v_iconst S d_Mo_tryArray_14 (v := (1 : Int32)) (by decide) ?_
    refine v_sub (L2 := [some (.ref (b + 0)), some (.int a0)]) (And.intro rfl (And.intro rfl True.intro)) ?_
    exact C15 σ (1 : Int32)
  · refine v_aload_n S d_Mo_tryArray_6 rfl rfl ?_
    refine v_iconst S d_Mo_tryArray_7 (v := (1 : Int32)) (by decide) ?_
    refine v_ci (rest := []) (fun _ _ hg H locs ls hsz hP hS => run_V (As := [.int (1 : Int32)]) (rest := []) S kM_ok hKK (c_Mo_take l D ca ax b σ (1 : Int32) hg) (k_Mo_86 S.2.2.2.2 (fun _ => List.mem_cons_of_mem _) ⟨Nat.le_of_ble_eq_true rfl, Nat.le_of_ble_eq_true rfl⟩) (rc_w hKK.1 hP 0 (by decide) rfl rfl) rfl rfl (Nat.zero_le _) d_Mo_tryArray_8 hsz hP hS) (fun r10 σ9 _ => ?_)
    refine v_goto S d_Mo_tryArray_11 (tgt := 15) (by decide) ?_
    refine v_sub (L2 := [some (.ref (b + 0)), some (.int a0)]) (And.intro rfl (And.intro rfl True.intro)) ?_
    exact C15 σ9 r10
def fn_Mo_tryPlaces (σ : mm_M) (a0 : Int32) : Option (mm_M) :=
    (bd (fn_Mo_take σ (3 : Int32)) (fun r2 σ1 =>
    (if a0 = (15 : Int32) then
    (bv (fn_Mo_give σ1 r2) (fun σ9 =>
    (bv (fn_Mo_give σ9 r2) (fun σ10 =>
    (some σ10)))))
    else
    (if a0 = (16 : Int32) then
    (bd (fn_Mo_take σ1 (3 : Int32)) (fun r6 σ5 =>
    (bv (fn_Mo_give σ5 r2) (fun σ7 =>
    (bv (fn_Mo_give σ7 r6) (fun σ8 =>
    (some σ8)))))))
    else
    (some σ1)))))
set_option maxRecDepth 100000 in
set_option maxHeartbeats 40000000 in
theorem c_Mo_tryPlaces (l : Launch) (D : va_G) (ca : Nat → ClassId) (ax : Nat → Nat → Nat) (b : Nat) (σ : mm_M) (a0 : Int32)  {σ' : mm_M} (hf : fn_Mo_tryPlaces σ a0 = some σ') : Met l y_Mo_tryPlaces w_Mo_tryPlaces rm_Mo_tryPlaces (pc_w D cls b N_M (ce_M ca b) (kM D ca ax b) [.ref (b + 0), .int a0] σ) (qc_v D cls b N_M (ce_M ca b) σ') 0 0 (mm_A b N_M) := by
  refine vv_go (cc := b_Mo_tryPlaces) (maxL := 4) (ret := none) (fin := σ') (k := fn_Mo_tryPlaces σ a0) (by decide) rfl (by simp [Value.category]) (Nat.le_of_ble_eq_true rfl) hf ?_
  intro p e s m below meth c hlocks hret S hKK
  unfold fn_Mo_tryPlaces
  refine v_aload_n S d_Mo_tryPlaces_0 rfl rfl ?_
  refine v_iconst S d_Mo_tryPlaces_1 (v := (3 : Int32)) (by decide) ?_
  refine v_ci (rest := []) (fun _ _ hg H locs ls hsz hP hS => run_V (As := [.int (3 : Int32)]) (rest := []) S kM_ok hKK (c_Mo_take l D ca ax b σ (3 : Int32) hg) (k_Mo_86 S.2.2.2.2 (fun _ => List.mem_cons_of_mem _) ⟨Nat.le_of_ble_eq_true rfl, Nat.le_of_ble_eq_true rfl⟩) (rc_w hKK.1 hP 0 (by decide) rfl rfl) rfl rfl (Nat.zero_le _) d_Mo_tryPlaces_2 hsz hP hS) (fun r2 σ1 _ => ?_)
  refine v_istore_nP S d_Mo_tryPlaces_5 rfl (by decide) (L2 := [some (.ref (b + 0)), some (.int a0), some (.int r2)]) rfl ?_
  refine v_iload_n S d_Mo_tryPlaces_6 rfl rfl ?_
  refine v_bipush S d_Mo_tryPlaces_7 (v := (15 : Int32)) (by decide) ?_
  refine v_icmp_ne S d_Mo_tryPlaces_9 (tgt := 25) (by decide) (fun h3 => ?_) (fun h3 => ?_)
  · refine v_iload_n S d_Mo_tryPlaces_25 rfl rfl ?_
    refine v_bipush S d_Mo_tryPlaces_26 (v := (16 : Int32)) (by decide) ?_
    refine v_icmp_ne S d_Mo_tryPlaces_28 (tgt := 47) (by decide) (fun h4 => ?_) (fun h4 => ?_)
    · exact v_vret S hret hlocks d_Mo_tryPlaces_47
    · refine v_aload_n S d_Mo_tryPlaces_31 rfl rfl ?_
      refine v_iconst S d_Mo_tryPlaces_32 (v := (3 : Int32)) (by decide) ?_
      refine v_ci (rest := []) (fun _ _ hg H locs ls hsz hP hS => run_V (As := [.int (3 : Int32)]) (rest := []) S kM_ok hKK (c_Mo_take l D ca ax b σ1 (3 : Int32) hg) (k_Mo_86 S.2.2.2.2 (fun _ => List.mem_cons_of_mem _) ⟨Nat.le_of_ble_eq_true rfl, Nat.le_of_ble_eq_true rfl⟩) (rc_w hKK.1 hP 0 (by decide) rfl rfl) rfl rfl (Nat.zero_le _) d_Mo_tryPlaces_33 hsz hP hS) (fun r6 σ5 _ => ?_)
      refine v_istore_nP S d_Mo_tryPlaces_36 rfl (by decide) (L2 := [some (.ref (b + 0)), some (.int a0), some (.int r2), some (.int r6)]) rfl ?_
      refine v_aload_n S d_Mo_tryPlaces_37 rfl rfl ?_
      refine v_iload_n S d_Mo_tryPlaces_38 rfl rfl ?_
      refine v_cv (rest := []) (fun _ hg H locs ls hsz hP hS => run_V (As := [.int r2]) (rest := []) S kM_ok hKK (c_Mo_give l D ca ax b σ5 r2 hg) (k_Mo_90 S.2.2.2.2 (fun _ => List.mem_cons_of_mem _) ⟨Nat.le_of_ble_eq_true rfl, Nat.le_of_ble_eq_true rfl⟩) (rc_w hKK.1 hP 0 (by decide) rfl rfl) rfl rfl (Nat.zero_le _) d_Mo_tryPlaces_39 hsz hP hS) (fun σ7 _ => ?_)
      refine v_aload_n S d_Mo_tryPlaces_42 rfl rfl ?_
      refine v_iload_n S d_Mo_tryPlaces_43 rfl rfl ?_
      refine v_cv (rest := []) (fun _ hg H locs ls hsz hP hS => run_V (As := [.int r6]) (rest := []) S kM_ok hKK (c_Mo_give l D ca ax b σ7 r6 hg) (k_Mo_90 S.2.2.2.2 (fun _ => List.mem_cons_of_mem _) ⟨Nat.le_of_ble_eq_true rfl, Nat.le_of_ble_eq_true rfl⟩) (rc_w hKK.1 hP 0 (by decide) rfl rfl) rfl rfl (Nat.zero_le _) d_Mo_tryPlaces_44 hsz hP hS) (fun σ8 _ => ?_)
      exact v_vret S hret hlocks d_Mo_tryPlaces_47
  · refine v_aload_n S d_Mo_tryPlaces_12 rfl rfl ?_
    refine v_iload_n S d_Mo_tryPlaces_13 rfl rfl ?_
    refine v_cv (rest := []) (fun _ hg H locs ls hsz hP hS => run_V (As := [.int r2]) (rest := []) S kM_ok hKK (c_Mo_give l D ca ax b σ1 r2 hg) (k_Mo_90 S.2.2.2.2 (fun _ => List.mem_cons_of_mem _) ⟨Nat.le_of_ble_eq_true rfl, Nat.le_of_ble_eq_true rfl⟩) (rc_w hKK.1 hP 0 (by decide) rfl rfl) rfl rfl (Nat.zero_le _) d_Mo_tryPlaces_14 hsz hP hS) (fun σ9 _ => ?_)
    refine v_aload_n S d_Mo_tryPlaces_17 rfl rfl ?_
    refine v_iload_n S d_Mo_tryPlaces_18 rfl rfl ?_
    refine v_cv (rest := []) (fun _ hg H locs ls hsz hP hS => run_V (As := [.int r2]) (rest := []) S kM_ok hKK (c_Mo_give l D ca ax b σ9 r2 hg) (k_Mo_90 S.2.2.2.2 (fun _ => List.mem_cons_of_mem _) ⟨Nat.le_of_ble_eq_true rfl, Nat.le_of_ble_eq_true rfl⟩) (rc_w hKK.1 hP 0 (by decide) rfl rfl) rfl rfl (Nat.zero_le _) d_Mo_tryPlaces_19 hsz hP hS) (fun σ10 _ => ?_)
    refine v_goto S d_Mo_tryPlaces_22 (tgt := 47) (by decide) ?_
    exact v_vret S hret hlocks d_Mo_tryPlaces_47
def fn_Mo_tryCall_33 (a0 : Int32) : Nat → mm_M → Int32 → Option (mm_M)
  | 0, _, _ => none
  | n + 1, σ, l2 =>
    (if l2 < 0 then
    (bd (fn_Mo_kindOf σ a0 (3 : Int32)) (fun r11 σ10 =>
    (bv (fn_Mo_give σ10 r11) (fun σ12 =>
    (some σ12)))))
    else
    (bd (fn_Mo_kindOf σ a0 l2) (fun r14 σ13 =>
    (bd (fn_Mo_take σ13 r14) (fun r16 σ15 =>
    (fn_Mo_tryCall_33 a0 n σ15 (l2 + (-1 : Int32))))))))
def fn_Mo_tryCall (σ : mm_M) (a0 : Int32) : Option (mm_M) :=
    (if a0 < 0 then
    (nm (mw σ 0 13 (1 : Int32)) (fun σ2 =>
    (some σ2)))
    else
    (if (3 : Int32) < a0 then
    (nm (mw σ 0 13 (1 : Int32)) (fun σ4 =>
    (some σ4)))
    else
    (if (a0 < 0 ∨ 4 ≤ a0.toNatClampNeg) then none else
    (if (σ 3 a0.toNatClampNeg) = 0 then
    (nm (mw σ 0 13 (1 : Int32)) (fun σ18 =>
    (some σ18)))
    else
    (if (a0 < 0 ∨ 4 ≤ a0.toNatClampNeg) then none else
    (nm ((σ 5 a0.toNatClampNeg) - (1 : Int32)) (fun x8 =>
    (fn_Mo_tryCall_33 a0 fuel0 σ x8))))))))
set_option maxRecDepth 100000 in
set_option maxHeartbeats 40000000 in
theorem c_Mo_tryCall (l : Launch) (D : va_G) (ca : Nat → ClassId) (ax : Nat → Nat → Nat) (b : Nat) (σ : mm_M) (a0 : Int32)  {σ' : mm_M} (hf : fn_Mo_tryCall σ a0 = some σ') : Met l y_Mo_tryCall w_Mo_tryCall rm_Mo_tryCall (pc_w D cls b N_M (ce_M ca b) (kM D ca ax b) [.ref (b + 0), .int a0] σ) (qc_v D cls b N_M (ce_M ca b) σ') 0 0 (mm_A b N_M) := by
  refine vv_go (cc := b_Mo_tryCall) (maxL := 4) (ret := none) (fin := σ') (k := fn_Mo_tryCall σ a0) (by decide) rfl (by simp [Value.category]) (Nat.le_of_ble_eq_true rfl) hf ?_
  intro p e s m below meth c hlocks hret S hKK
  have C33 : ∀ (n : Nat) (σ : mm_M) (l2 : Int32), vv p l e (headSpec w_Mo_tryCall rm_Mo_tryCall).room s m [.ref (b + 0), .int a0].toArray below meth c D cls b N_M (ce_M ca b) 4 (MQ below (qc_v D cls b N_M (ce_M ca b) σ') [.ref (b + 0), .int a0].toArray s 0 0 (mm_A b N_M)) σ' (fn_Mo_tryCall_33 a0 n σ l2) σ 33 [some (.ref (b + 0)), some (.int a0), some (.int l2)] [] := by
    intro n
    induction n with
    | zero => intro σ l2  h; cases h
    | succ n ih =>
      intro σ l2
      show vv p l e (headSpec w_Mo_tryCall rm_Mo_tryCall).room s m [.ref (b + 0), .int a0].toArray below meth c D cls b N_M (ce_M ca b) 4 (MQ below (qc_v D cls b N_M (ce_M ca b) σ') [.ref (b + 0), .int a0].toArray s 0 0 (mm_A b N_M)) σ' (        (if l2 < 0 then
        (bd (fn_Mo_kindOf σ a0 (3 : Int32)) (fun r11 σ10 =>
        (bv (fn_Mo_give σ10 r11) (fun σ12 =>
        (some σ12)))))
        else
        (bd (fn_Mo_kindOf σ a0 l2) (fun r14 σ13 =>
        (bd (fn_Mo_take σ13 r14) (fun r16 σ15 =>
        (fn_Mo_tryCall_33 a0 n σ15 (l2 + (-1 : Int32))))))))) σ 33 [some (.ref (b + 0)), some (.int a0), some (.int l2)] []
      refine v_iload_n S d_Mo_tryCall_33 rfl rfl ?_
      refine v_if_lt S d_Mo_tryCall_34 (tgt := 54) (by decide) (fun h9 => ?_) (fun h9 => ?_)
      · refine v_aload_n S d_Mo_tryCall_54 rfl rfl ?_
        refine v_aload_n S d_Mo_tryCall_55 rfl rfl ?_
        refine v_iload_n S d_Mo_tryCall_56 rfl rfl ?_
        refine v_iconst S d_Mo_tryCall_57 (v := (3 : Int32)) (by decide) ?_
        refine v_ci (rest := [.ref (b + 0)]) (fun _ _ hg H locs ls hsz hP hS => run_V (As := [.int a0, .int (3 : Int32)]) (rest := [.ref (b + 0)]) S kM_ok hKK (c_Mo_kindOf l D ca ax b σ a0 (3 : Int32) hg) (k_Mo_110 S.2.2.2.2 (fun _ => List.mem_cons_of_mem _) ⟨Nat.le_of_ble_eq_true rfl, Nat.le_of_ble_eq_true rfl⟩) (rc_w hKK.1 hP 0 (by decide) rfl rfl) rfl rfl (by simp [Value.category]) d_Mo_tryCall_58 hsz hP hS) (fun r11 σ10 _ => ?_)
        refine v_cv (rest := []) (fun _ hg H locs ls hsz hP hS => run_V (As := [.int r11]) (rest := []) S kM_ok hKK (c_Mo_give l D ca ax b σ10 r11 hg) (k_Mo_90 S.2.2.2.2 (fun _ => List.mem_cons_of_mem _) ⟨Nat.le_of_ble_eq_true rfl, Nat.le_of_ble_eq_true rfl⟩) (rc_w hKK.1 hP 0 (by decide) rfl rfl) rfl rfl (Nat.zero_le _) d_Mo_tryCall_61 hsz hP hS) (fun σ12 _ => ?_)
        exact v_vret S hret hlocks d_Mo_tryCall_64
      · refine v_aload_n S d_Mo_tryCall_37 rfl rfl ?_
        refine v_aload_n S d_Mo_tryCall_38 rfl rfl ?_
        refine v_iload_n S d_Mo_tryCall_39 rfl rfl ?_
        refine v_iload_n S d_Mo_tryCall_40 rfl rfl ?_
        refine v_ci (rest := [.ref (b + 0)]) (fun _ _ hg H locs ls hsz hP hS => run_V (As := [.int a0, .int l2]) (rest := [.ref (b + 0)]) S kM_ok hKK (c_Mo_kindOf l D ca ax b σ a0 l2 hg) (k_Mo_110 S.2.2.2.2 (fun _ => List.mem_cons_of_mem _) ⟨Nat.le_of_ble_eq_true rfl, Nat.le_of_ble_eq_true rfl⟩) (rc_w hKK.1 hP 0 (by decide) rfl rfl) rfl rfl (by simp [Value.category]) d_Mo_tryCall_41 hsz hP hS) (fun r14 σ13 _ => ?_)
        refine v_ci (rest := []) (fun _ _ hg H locs ls hsz hP hS => run_V (As := [.int r14]) (rest := []) S kM_ok hKK (c_Mo_take l D ca ax b σ13 r14 hg) (k_Mo_86 S.2.2.2.2 (fun _ => List.mem_cons_of_mem _) ⟨Nat.le_of_ble_eq_true rfl, Nat.le_of_ble_eq_true rfl⟩) (rc_w hKK.1 hP 0 (by decide) rfl rfl) rfl rfl (Nat.zero_le _) d_Mo_tryCall_44 hsz hP hS) (fun r16 σ15 _ => ?_)
        refine v_istore_nP S d_Mo_tryCall_47 rfl (by decide) (L2 := [some (.ref (b + 0)), some (.int a0), some (.int l2), some (.int r16)]) rfl ?_
        refine v_iinc S d_Mo_tryCall_48 rfl (v := (l2 + (-1 : Int32))) (by first | rfl | decide) (by decide) (L2 := [some (.ref (b + 0)), some (.int a0), some (.int (l2 + (-1 : Int32))), some (.int r16)]) rfl ?_
        refine v_goto S d_Mo_tryCall_51 (tgt := 33) (by decide) ?_
        refine v_sub (L2 := [some (.ref (b + 0)), some (.int a0), some (.int (l2 + (-1 : Int32)))]) (And.intro rfl (And.intro rfl (And.intro rfl True.intro))) ?_
        exact ih σ15 (l2 + (-1 : Int32))
  unfold fn_Mo_tryCall
  refine v_iload_n S d_Mo_tryCall_0 rfl rfl ?_
  refine v_if_lt S d_Mo_tryCall_1 (tgt := 18) (by decide) (fun h1 => ?_) (fun h1 => ?_)
  · refine v_aload_n S d_Mo_tryCall_18 rfl rfl ?_
    refine v_iconst S d_Mo_tryCall_19 (v := (1 : Int32)) (by decide) ?_
    refine v_puti S (fun w h => List.mem_cons_of_mem _ (i_Mo w h)) hKK.1 0 (by decide) rfl rfl 13 (by decide) (S.2.2.2.2 _ (List.mem_cons_of_mem _ (wd_754))) (fun _ h => h) t_Mo t_Mo_ok n_Mo rfl (ty := .boolean) rfl rfl rfl (Nat.le_of_ble_eq_true rfl) rfl d_Mo_tryCall_20 ?_
    refine v_sg (fun σ2 eσ2 => ?_)
    exact v_vret S hret hlocks d_Mo_tryCall_23
  · refine v_iload_n S d_Mo_tryCall_4 rfl rfl ?_
    refine v_iconst S d_Mo_tryCall_5 (v := (3 : Int32)) (by decide) ?_
    refine v_icmp_gt S d_Mo_tryCall_6 (tgt := 18) (by decide) (fun h3 => ?_) (fun h3 => ?_)
    · refine v_aload_n S d_Mo_tryCall_18 rfl rfl ?_
      refine v_iconst S d_Mo_tryCall_19 (v := (1 : Int32)) (by decide) ?_
      refine v_puti S (fun w h => List.mem_cons_of_mem _ (i_Mo w h)) hKK.1 0 (by decide) rfl rfl 13 (by decide) (S.2.2.2.2 _ (List.mem_cons_of_mem _ (wd_754))) (fun _ h => h) t_Mo t_Mo_ok n_Mo rfl (ty := .boolean) rfl rfl rfl (Nat.le_of_ble_eq_true rfl) rfl d_Mo_tryCall_20 ?_
      refine v_sg (fun σ4 eσ4 => ?_)
      exact v_vret S hret hlocks d_Mo_tryCall_23
    · refine v_aload_n S d_Mo_tryCall_9 rfl rfl ?_
      refine v_get S (fun w h => List.mem_cons_of_mem _ (i_Mo w h)) hKK.1 0 (by decide) rfl rfl 3 (by decide) (S.2.2.2.2 _ (List.mem_cons_of_mem _ (wd_744))) (fun _ h => h) rfl d_Mo_tryCall_10 ?_
      refine v_iload_n S d_Mo_tryCall_13 rfl rfl ?_
      refine v_zald S hKK.1 3 1 (by decide) rfl rfl d_Mo_tryCall_14 (fun h5 => ?_)
      refine v_if_ne S d_Mo_tryCall_15 (tgt := 24) (by decide) (fun h6 => ?_) (fun h6 => ?_)
      · refine v_aload_n S d_Mo_tryCall_24 rfl rfl ?_
        refine v_get S (fun w h => List.mem_cons_of_mem _ (i_Mo w h)) hKK.1 0 (by decide) rfl rfl 5 (by decide) (S.2.2.2.2 _ (List.mem_cons_of_mem _ (wd_746))) (fun _ h => h) rfl d_Mo_tryCall_25 ?_
        refine v_iload_n S d_Mo_tryCall_28 rfl rfl ?_
        refine v_iald S hKK.1 5 0 (by decide) rfl rfl d_Mo_tryCall_29 (fun h7 => ?_)
        refine v_iconst S d_Mo_tryCall_30 (v := (1 : Int32)) (by decide) ?_
        refine v_isub S d_Mo_tryCall_31 ?_
        refine v_top (fun x8 ex8 => ?_)
        refine v_istore_nP S d_Mo_tryCall_32 rfl (by decide) (L2 := [some (.ref (b + 0)), some (.int a0), some (.int x8)]) rfl ?_
        refine v_sub (L2 := [some (.ref (b + 0)), some (.int a0), some (.int x8)]) (And.intro rfl (And.intro rfl (And.intro rfl True.intro))) ?_
        exact C33 fuel0 σ x8
      · refine v_aload_n S d_Mo_tryCall_18 rfl rfl ?_
        refine v_iconst S d_Mo_tryCall_19 (v := (1 : Int32)) (by decide) ?_
        refine v_puti S (fun w h => List.mem_cons_of_mem _ (i_Mo w h)) hKK.1 0 (by decide) rfl rfl 13 (by decide) (S.2.2.2.2 _ (List.mem_cons_of_mem _ (wd_754))) (fun _ h => h) t_Mo t_Mo_ok n_Mo rfl (ty := .boolean) rfl rfl rfl (Nat.le_of_ble_eq_true rfl) rfl d_Mo_tryCall_20 ?_
        refine v_sg (fun σ18 eσ18 => ?_)
        exact v_vret S hret hlocks d_Mo_tryCall_23

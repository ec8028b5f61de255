/-! contracts of 10.machine; written by wip/whole/make.py -/
def fn_Ma_isRunning (σ : mm_M)  : Option (Int32 × mm_M) :=
    (if (σ 16 0) ≤ 0 then
    (if (0 : Int32) = 0 ∨ (0 : Int32) = 1 then some ((0 : Int32), σ) else none)
    else
    (if (1 : Int32) = 0 ∨ (1 : Int32) = 1 then some ((1 : Int32), σ) else none))
set_option maxRecDepth 100000 in
set_option maxHeartbeats 40000000 in
theorem c_Ma_isRunning (l : Launch) (D : va_G) (ca : Nat → ClassId) (ax : Nat → Nat → Nat) (b : Nat) (σ : mm_M)   {r : Int32} {σ' : mm_M} (hf : fn_Ma_isRunning σ  = some (r, σ')) : Met l y_Ma_isRunning w_Ma_isRunning rm_Ma_isRunning (pc_w D cls b N_C (ce_C ca b) (kC D ca ax b) [.ref (b + 16)] σ) (qc_i D cls b N_C (ce_C ca b) r σ') 0 0 (mm_A b N_C) := by
  refine vv_go (cc := b_Ma_isRunning) (maxL := 1) (ret := (some .boolean)) (fin := (r, σ')) (k := fn_Ma_isRunning σ ) (by decide) rfl (by simp [Value.category]) (Nat.le_of_ble_eq_true rfl) hf ?_
  intro p e s m below meth c hlocks hret S hKK
  unfold fn_Ma_isRunning
  refine v_aload_n S d_Ma_isRunning_0 rfl rfl ?_
  refine v_get S (fun w h => List.mem_cons_of_mem _ (i_Ma w h)) hKK.1 16 (by decide) rfl rfl 0 (by decide) (S.2.2.2.2 _ (List.mem_cons_of_mem _ (wd_121))) (fun _ h => h) rfl d_Ma_isRunning_1 ?_
  refine v_if_le S d_Ma_isRunning_4 (tgt := 11) (by decide) (fun h1 => ?_) (fun h1 => ?_)
  · refine v_iconst S d_Ma_isRunning_11 (v := (0 : Int32)) (by decide) ?_
    exact v_zret S hret hlocks d_Ma_isRunning_12
  · refine v_iconst S d_Ma_isRunning_7 (v := (1 : Int32)) (by decide) ?_
    refine v_goto S d_Ma_isRunning_8 (tgt := 12) (by decide) ?_
    exact v_zret S hret hlocks d_Ma_isRunning_12
def fn_Ma_top (σ : mm_M)  : Option (Nat × mm_M) :=
    (if (((σ 16 0) - (1 : Int32)) < 0 ∨ 8 ≤ ((σ 16 0) - (1 : Int32)).toNatClampNeg) then none else
    (some ((((σ 16 0) - (1 : Int32)).toNatClampNeg), σ)))
set_option maxRecDepth 100000 in
set_option maxHeartbeats 40000000 in
theorem c_Ma_top (l : Launch) (D : va_G) (ca : Nat → ClassId) (ax : Nat → Nat → Nat) (b : Nat) (σ : mm_M)   {r : Nat} {σ' : mm_M} (hf : fn_Ma_top σ  = some (r, σ')) : Met l y_Ma_top w_Ma_top rm_Ma_top (pc_w D cls b N_C (ce_C ca b) (kC D ca ax b) [.ref (b + 16)] σ) (qc_a D cls b N_C (ce_C ca b) (b + (19 + 2 * r)) σ') 0 0 (mm_A b N_C) := by
  refine vv_go (cc := b_Ma_top) (maxL := 1) (ret := (some (.object "FrameVerifier$Frame"))) (fin := (r, σ')) (k := fn_Ma_top σ ) (by decide) rfl (by simp [Value.category]) (Nat.le_of_ble_eq_true rfl) hf ?_
  intro p e s m below meth c hlocks hret S hKK
  unfold fn_Ma_top
  refine v_aload_n S d_Ma_top_0 rfl rfl ?_
  refine v_get S (fun w h => List.mem_cons_of_mem _ (i_Ma w h)) hKK.1 16 (by decide) rfl rfl 4 (by decide) (S.2.2.2.2 _ (List.mem_cons_of_mem _ (wd_128))) (fun _ h => h) rfl d_Ma_top_1 ?_
  refine v_aload_n S d_Ma_top_4 rfl rfl ?_
  refine v_get S (fun w h => List.mem_cons_of_mem _ (i_Ma w h)) hKK.1 16 (by decide) rfl rfl 0 (by decide) (S.2.2.2.2 _ (List.mem_cons_of_mem _ (wd_121))) (fun _ h => h) rfl d_Ma_top_5 ?_
  refine v_iconst S d_Ma_top_8 (v := (1 : Int32)) (by decide) ?_
  refine v_isub S d_Ma_top_9 ?_
  refine v_aald S hKK.1 18 2 (by decide) (ty := .object "FrameVerifier$Frame") rfl rfl rfl d_Ma_top_10 (fun h1 => ?_)
  exact v_aret (fun q => b + (19 + 2 * q)) S hret hlocks d_Ma_top_11
theorem rb_Ma_top {σ : mm_M}  {r : Nat} {σ' : mm_M} (h : fn_Ma_top σ  = some (r, σ')) : r < 8 := by
  unfold fn_Ma_top at h
  try simp only [bd, bv, nm] at h
  repeat' (split at h)
  all_goals (first | (cases h; done) | (cases h; first | decide | exact ib (by assumption) ))
def fn_Ma_openFrame (σ : mm_M) (a0 : Int32) : Option (Nat × mm_M) :=
    (if ((σ 16 0) < 0 ∨ 8 ≤ (σ 16 0).toNatClampNeg) then none else
    (nm (mw σ 16 0 ((σ 16 0) + (1 : Int32))) (fun σ2 =>
    (bd (fn_Co_startOf σ2 a0) (fun r4 σ3 =>
    (bd (fn_Co_firstState σ3 a0) (fun r6 σ5 =>
    (bv (fn_Fr_open σ5 ((σ 16 0).toNatClampNeg) a0 r4 r6) (fun σ7 =>
    (some (((σ 16 0).toNatClampNeg), σ7)))))))))))
set_option maxRecDepth 100000 in
set_option maxHeartbeats 40000000 in
theorem c_Ma_openFrame (l : Launch) (D : va_G) (ca : Nat → ClassId) (ax : Nat → Nat → Nat) (b : Nat) (σ : mm_M) (a0 : Int32)  {r : Nat} {σ' : mm_M} (hf : fn_Ma_openFrame σ a0 = some (r, σ')) : Met l y_Ma_openFrame w_Ma_openFrame rm_Ma_openFrame (pc_w D cls b N_C (ce_C ca b) (kC D ca ax b) [.ref (b + 16), .int a0] σ) (qc_a D cls b N_C (ce_C ca b) (b + (19 + 2 * r)) σ') 0 0 (mm_A b N_C) := by
  refine vv_go (cc := b_Ma_openFrame) (maxL := 3) (ret := (some (.object "FrameVerifier$Frame"))) (fin := (r, σ')) (k := fn_Ma_openFrame σ a0) (by decide) rfl (by simp [Value.category]) (Nat.le_of_ble_eq_true rfl) hf ?_
  intro p e s m below meth c hlocks hret S hKK
  unfold fn_Ma_openFrame
  refine v_aload_n S d_Ma_openFrame_0 rfl rfl ?_
  refine v_get S (fun w h => List.mem_cons_of_mem _ (i_Ma w h)) hKK.1 16 (by decide) rfl rfl 4 (by decide) (S.2.2.2.2 _ (List.mem_cons_of_mem _ (wd_128))) (fun _ h => h) rfl d_Ma_openFrame_1 ?_
  refine v_aload_n S d_Ma_openFrame_4 rfl rfl ?_
  refine v_get S (fun w h => List.mem_cons_of_mem _ (i_Ma w h)) hKK.1 16 (by decide) rfl rfl 0 (by decide) (S.2.2.2.2 _ (List.mem_cons_of_mem _ (wd_121))) (fun _ h => h) rfl d_Ma_openFrame_5 ?_
  refine v_aald S hKK.1 18 2 (by decide) (ty := .object "FrameVerifier$Frame") rfl rfl rfl d_Ma_openFrame_8 (fun h1 => ?_)
  refine v_astore_nP S d_Ma_openFrame_9 rfl (by decide) (L2 := [some (.ref (b + 16)), some (.int a0), some (.ref (b + (19 + 2 * ((σ 16 0).toNatClampNeg))))]) rfl ?_
  refine v_aload_n S d_Ma_openFrame_10 rfl rfl ?_
  refine v_dup S d_Ma_openFrame_11 rfl ?_
  refine v_get S (fun w h => List.mem_cons_of_mem _ (i_Ma w h)) hKK.1 16 (by decide) rfl rfl 0 (by decide) (S.2.2.2.2 _ (List.mem_cons_of_mem _ (wd_121))) (fun _ h => h) rfl d_Ma_openFrame_12 ?_
  refine v_iconst S d_Ma_openFrame_15 (v := (1 : Int32)) (by decide) ?_
  refine v_iadd S d_Ma_openFrame_16 ?_
  refine v_puti S (fun w h => List.mem_cons_of_mem _ (i_Ma w h)) hKK.1 16 (by decide) rfl rfl 0 (by decide) (S.2.2.2.2 _ (List.mem_cons_of_mem _ (wd_121))) (fun _ h => h) t_Ma t_Ma_ok n_Ma rfl (ty := .int) rfl rfl rfl (Nat.le_of_ble_eq_true rfl) rfl d_Ma_openFrame_17 ?_
  refine v_sg (fun σ2 eσ2 => ?_)
  refine v_aload_n S d_Ma_openFrame_20 rfl rfl ?_
  refine v_iload_n S d_Ma_openFrame_21 rfl rfl ?_
  refine v_aload_n S d_Ma_openFrame_22 rfl rfl ?_
  refine v_get S (fun w h => List.mem_cons_of_mem _ (i_Ma w h)) hKK.1 16 (by decide) rfl rfl 3 (by decide) (S.2.2.2.2 _ (List.mem_cons_of_mem _ (wd_127))) (fun _ h => h) rfl d_Ma_openFrame_23 ?_
  refine v_iload_n S d_Ma_openFrame_26 rfl rfl ?_
  refine v_ci (rest := [.int a0, .ref (b + (19 + 2 * ((σ 16 0).toNatClampNeg)))]) (fun _ _ hg H locs ls hsz hP hS => run_V (As := [.int a0]) (rest := [.int a0, .ref (b + (19 + 2 * ((σ 16 0).toNatClampNeg)))]) S kC_ok hKK (c_Co_startOf l D ca ax b σ2 a0 hg) (k_Ma_101 S.2.2.2.2 (fun _ => List.mem_cons_of_mem _) ⟨Nat.le_of_ble_eq_true rfl, Nat.le_of_ble_eq_true rfl⟩) (rc_w hKK.1 hP 1 (by decide) rfl rfl) rfl rfl (by simp [Value.category]) d_Ma_openFrame_27 hsz hP hS) (fun r4 σ3 _ => ?_)
  refine v_aload_n S d_Ma_openFrame_30 rfl rfl ?_
  refine v_get S (fun w h => List.mem_cons_of_mem _ (i_Ma w h)) hKK.1 16 (by decide) rfl rfl 3 (by decide) (S.2.2.2.2 _ (List.mem_cons_of_mem _ (wd_127))) (fun _ h => h) rfl d_Ma_openFrame_31 ?_
  refine v_iload_n S d_Ma_openFrame_34 rfl rfl ?_
  refine v_ci (rest := [.int r4, .int a0, .ref (b + (19 + 2 * ((σ 16 0).toNatClampNeg)))]) (fun _ _ hg H locs ls hsz hP hS => run_V (As := [.int a0]) (rest := [.int r4, .int a0, .ref (b + (19 + 2 * ((σ 16 0).toNatClampNeg)))]) S kC_ok hKK (c_Co_firstState l D ca ax b σ3 a0 hg) (k_Ma_104 S.2.2.2.2 (fun _ => List.mem_cons_of_mem _) ⟨Nat.le_of_ble_eq_true rfl, Nat.le_of_ble_eq_true rfl⟩) (rc_w hKK.1 hP 1 (by decide) rfl rfl) rfl rfl (by simp [Value.category]) d_Ma_openFrame_35 hsz hP hS) (fun r6 σ5 _ => ?_)
  refine v_cv (rest := []) (fun _ hg H locs ls hsz hP hS => run_V (As := [.int a0, .int r4, .int r6]) (rest := []) S kC_ok hKK (c_Fr_open l D ca ax b σ5 ((σ 16 0).toNatClampNeg) a0 r4 r6 (ib h1) hg) (k_Ma_107 S.2.2.2.2 (fun _ => List.mem_cons_of_mem _) ⟨Nat.le_of_ble_eq_true rfl, Nat.le_of_ble_eq_true rfl⟩) (rc_w hKK.1 hP (19 + 2 * ((σ 16 0).toNatClampNeg)) (fr_lt (ib h1)) (ce_fr (ib h1)) rfl) rfl rfl (Nat.zero_le _) d_Ma_openFrame_38 hsz hP hS) (fun σ7 _ => ?_)
  refine v_aload_n S d_Ma_openFrame_41 rfl rfl ?_
  exact v_aret (fun q => b + (19 + 2 * q)) S hret hlocks d_Ma_openFrame_42
theorem rb_Ma_openFrame {σ : mm_M} {a0 : Int32} {r : Nat} {σ' : mm_M} (h : fn_Ma_openFrame σ a0 = some (r, σ')) : r < 8 := by
  unfold fn_Ma_openFrame at h
  try simp only [bd, bv, nm] at h
  repeat' (split at h)
  all_goals (first | (cases h; done) | (cases h; first | decide | exact ib (by assumption) ))
def fn_Ma_firstValue (σ : mm_M) (i0 : Nat) (a1 : Int32) (a2 : Int32) : Option (Int32 × mm_M) :=
    (bd (fn_Ty_at σ (σ (19 + 2 * i0) 2) a1) (fun r2 σ1 =>
    (if r2 = (2 : Int32) then
    (some ((0 : Int32), σ1))
    else
    (some (a2, σ1)))))
set_option maxRecDepth 100000 in
set_option maxHeartbeats 40000000 in
theorem c_Ma_firstValue (l : Launch) (D : va_G) (ca : Nat → ClassId) (ax : Nat → Nat → Nat) (b : Nat) (σ : mm_M) (i0 : Nat) (a1 : Int32) (a2 : Int32) (hi0 : i0 < 8) {r : Int32} {σ' : mm_M} (hf : fn_Ma_firstValue σ i0 a1 a2 = some (r, σ')) : Met l y_Ma_firstValue w_Ma_firstValue rm_Ma_firstValue (pc_w D cls b N_C (ce_C ca b) (kC D ca ax b) [.ref (b + (19 + 2 * i0)), .int a1, .int a2] σ) (qc_i D cls b N_C (ce_C ca b) r σ') 0 0 (mm_A b N_C) := by
  refine vv_go (cc := b_Ma_firstValue) (maxL := 3) (ret := (some .int)) (fin := (r, σ')) (k := fn_Ma_firstValue σ i0 a1 a2) (by decide) rfl (by simp [Value.category]) (Nat.le_of_ble_eq_true rfl) hf ?_
  intro p e s m below meth c hlocks hret S hKK
  unfold fn_Ma_firstValue
  refine v_aload_n S d_Ma_firstValue_0 rfl rfl ?_
  refine v_get S (fun w h => List.mem_cons_of_mem _ (i_Fr w h)) hKK.1 (19 + 2 * i0) (fr_lt hi0) (ce_fr hi0) rfl 2 (by decide) (S.2.2.2.2 _ (List.mem_cons_of_mem _ (wd_109))) (fun _ h => h) rfl d_Ma_firstValue_1 ?_
  refine v_iload_n S d_Ma_firstValue_4 rfl rfl ?_
  refine v_ci (rest := []) (fun _ _ hg H locs ls hsz hP hS => run_S (As := [.int (σ (19 + 2 * i0) 2), .int a1]) (rest := []) S kC_ok hKK (c_Ty_at l D ca ax b σ (σ (19 + 2 * i0) 2) a1 hg) (k_Ma_95 S.2.2.2.2 (fun _ => List.mem_cons_of_mem _) ⟨Nat.le_of_ble_eq_true rfl, Nat.le_of_ble_eq_true rfl⟩) rfl rfl (Nat.zero_le _) d_Ma_firstValue_5 hsz hP hS) (fun r2 σ1 _ => ?_)
  refine v_iconst S d_Ma_firstValue_8 (v := (2 : Int32)) (by decide) ?_
  refine v_icmp_ne S d_Ma_firstValue_9 (tgt := 16) (by decide) (fun h3 => ?_) (fun h3 => ?_)
  · refine v_iload_n S d_Ma_firstValue_16 rfl rfl ?_
    exact v_iret S hret hlocks d_Ma_firstValue_17
  · refine v_iconst S d_Ma_firstValue_12 (v := (0 : Int32)) (by decide) ?_
    refine v_goto S d_Ma_firstValue_13 (tgt := 17) (by decide) ?_
    exact v_iret S hret hlocks d_Ma_firstValue_17
def fn_Ma_begin (σ : mm_M) (a0 : Int32) (a1 : Int32) (a2 : Int32) : Option (mm_M) :=
    (nm (mw σ 16 0 (0 : Int32)) (fun σ1 =>
    (nm (mw σ1 16 1 (0 : Int32)) (fun σ2 =>
    (bd (fn_Ma_openFrame σ2 (0 : Int32)) (fun r4 σ3 =>
    (bd (fn_Ma_firstValue σ3 r4 (0 : Int32) a0) (fun r7 σ6 =>
    (bv (fn_Fr_setParameter σ6 r4 (0 : Int32) r7) (fun σ8 =>
    (bd (fn_Ma_firstValue σ8 r4 (1 : Int32) a1) (fun r10 σ9 =>
    (bv (fn_Fr_setParameter σ9 r4 (1 : Int32) r10) (fun σ11 =>
    (bd (fn_Ma_firstValue σ11 r4 (2 : Int32) a2) (fun r13 σ12 =>
    (bv (fn_Fr_setParameter σ12 r4 (2 : Int32) r13) (fun σ14 =>
    (some σ14)))))))))))))))))))
set_option maxRecDepth 100000 in
set_option maxHeartbeats 40000000 in
theorem c_Ma_begin (l : Launch) (D : va_G) (ca : Nat → ClassId) (ax : Nat → Nat → Nat) (b : Nat) (σ : mm_M) (a0 : Int32) (a1 : Int32) (a2 : Int32)  {σ' : mm_M} (hf : fn_Ma_begin σ a0 a1 a2 = some σ') : Met l y_Ma_begin w_Ma_begin rm_Ma_begin (pc_w D cls b N_C (ce_C ca b) (kC D ca ax b) [.ref (b + 16), .int a0, .int a1, .int a2] σ) (qc_v D cls b N_C (ce_C ca b) σ') 0 0 (mm_A b N_C) := by
  refine vv_go (cc := b_Ma_begin) (maxL := 5) (ret := none) (fin := σ') (k := fn_Ma_begin σ a0 a1 a2) (by decide) rfl (by simp [Value.category]) (Nat.le_of_ble_eq_true rfl) hf ?_
  intro p e s m below meth c hlocks hret S hKK
  unfold fn_Ma_begin
  refine v_aload_n S d_Ma_begin_0 rfl rfl ?_
  refine v_iconst S d_Ma_begin_1 (v := (0 : Int32)) (by decide) ?_
  refine v_puti S (fun w h => List.mem_cons_of_mem _ (i_Ma w h)) hKK.1 16 (by decide) rfl rfl 0 (by decide) (S.2.2.2.2 _ (List.mem_cons_of_mem _ (wd_121))) (fun _ h => h) t_Ma t_Ma_ok n_Ma rfl (ty := .int) rfl rfl rfl (Nat.le_of_ble_eq_true rfl) rfl d_Ma_begin_2 ?_
  refine v_sg (fun σ1 eσ1 => ?_)
  refine v_aload_n S d_Ma_begin_5 rfl rfl ?_
  refine v_iconst S d_Ma_begin_6 (v := (0 : Int32)) (by decide) ?_
  refine v_puti S (fun w h => List.mem_cons_of_mem _ (i_Ma w h)) hKK.1 16 (by decide) rfl rfl 1 (by decide) (S.2.2.2.2 _ (List.mem_cons_of_mem _ (wd_123))) (fun _ h => h) t_Ma t_Ma_ok n_Ma rfl (ty := .int) rfl rfl rfl (Nat.le_of_ble_eq_true rfl) rfl d_Ma_begin_7 ?_
  refine v_sg (fun σ2 eσ2 => ?_)
  refine v_aload_n S d_Ma_begin_10 rfl rfl ?_
  refine v_iconst S d_Ma_begin_11 (v := (0 : Int32)) (by decide) ?_
  refine v_ca (fun q => b + (19 + 2 * q)) (rest := []) (fun _ _ hg H locs ls hsz hP hS => run_V (As := [.int (0 : Int32)]) (rest := []) S kC_ok hKK (c_Ma_openFrame l D ca ax b σ2 (0 : Int32) hg) (k_Ma_36 S.2.2.2.2 (fun _ => List.mem_cons_of_mem _) ⟨Nat.le_of_ble_eq_true rfl, Nat.le_of_ble_eq_true rfl⟩) (rc_w hKK.1 hP 16 (by decide) rfl rfl) rfl rfl (Nat.zero_le _) d_Ma_begin_12 hsz hP hS) (fun r4 σ3 g5 => ?_)
  refine v_astoreP S d_Ma_begin_15 (by decide) (L2 := [some (.ref (b + 16)), some (.int a0), some (.int a1), some (.int a2), some (.ref (b + (19 + 2 * r4)))]) rfl ?_
  refine v_aload S d_Ma_begin_17 rfl ?_
  refine v_iconst S d_Ma_begin_19 (v := (0 : Int32)) (by decide) ?_
  refine v_aload S d_Ma_begin_20 rfl ?_
  refine v_iconst S d_Ma_begin_22 (v := (0 : Int32)) (by decide) ?_
  refine v_iload_n S d_Ma_begin_23 rfl rfl ?_
  refine v_ci (rest := [.int (0 : Int32), .ref (b + (19 + 2 * r4))]) (fun _ _ hg H locs ls hsz hP hS => run_S (As := [.ref (b + (19 + 2 * r4)), .int (0 : Int32), .int a0]) (rest := [.int (0 : Int32), .ref (b + (19 + 2 * r4))]) S kC_ok hKK (c_Ma_firstValue l D ca ax b σ3 r4 (0 : Int32) a0 (rb_Ma_openFrame g5) hg) (k_Ma_40 S.2.2.2.2 (fun _ => List.mem_cons_of_mem _) ⟨Nat.le_of_ble_eq_true rfl, Nat.le_of_ble_eq_true rfl⟩) rfl rfl (by simp [Value.category]) d_Ma_begin_24 hsz hP hS) (fun r7 σ6 _ => ?_)
  refine v_cv (rest := []) (fun _ hg H locs ls hsz hP hS => run_V (As := [.int (0 : Int32), .int r7]) (rest := []) S kC_ok hKK (c_Fr_setParameter l D ca ax b σ6 r4 (0 : Int32) r7 (rb_Ma_openFrame g5) hg) (k_Ma_44 S.2.2.2.2 (fun _ => List.mem_cons_of_mem _) ⟨Nat.le_of_ble_eq_true rfl, Nat.le_of_ble_eq_true rfl⟩) (rc_w hKK.1 hP (19 + 2 * r4) (fr_lt (rb_Ma_openFrame g5)) (ce_fr (rb_Ma_openFrame g5)) rfl) rfl rfl (Nat.zero_le _) d_Ma_begin_27 hsz hP hS) (fun σ8 _ => ?_)
  refine v_aload S d_Ma_begin_30 rfl ?_
  refine v_iconst S d_Ma_begin_32 (v := (1 : Int32)) (by decide) ?_
  refine v_aload S d_Ma_begin_33 rfl ?_
  refine v_iconst S d_Ma_begin_35 (v := (1 : Int32)) (by decide) ?_
  refine v_iload_n S d_Ma_begin_36 rfl rfl ?_
  refine v_ci (rest := [.int (1 : Int32), .ref (b + (19 + 2 * r4))]) (fun _ _ hg H locs ls hsz hP hS => run_S (As := [.ref (b + (19 + 2 * r4)), .int (1 : Int32), .int a1]) (rest := [.int (1 : Int32), .ref (b + (19 + 2 * r4))]) S kC_ok hKK (c_Ma_firstValue l D ca ax b σ8 r4 (1 : Int32) a1 (rb_Ma_openFrame g5) hg) (k_Ma_40 S.2.2.2.2 (fun _ => List.mem_cons_of_mem _) ⟨Nat.le_of_ble_eq_true rfl, Nat.le_of_ble_eq_true rfl⟩) rfl rfl (by simp [Value.category]) d_Ma_begin_37 hsz hP hS) (fun r10 σ9 _ => ?_)
  refine v_cv (rest := []) (fun _ hg H locs ls hsz hP hS => run_V (As := [.int (1 : Int32), .int r10]) (rest := []) S kC_ok hKK (c_Fr_setParameter l D ca ax b σ9 r4 (1 : Int32) r10 (rb_Ma_openFrame g5) hg) (k_Ma_44 S.2.2.2.2 (fun _ => List.mem_cons_of_mem _) ⟨Nat.le_of_ble_eq_true rfl, Nat.le_of_ble_eq_true rfl⟩) (rc_w hKK.1 hP (19 + 2 * r4) (fr_lt (rb_Ma_openFrame g5)) (ce_fr (rb_Ma_openFrame g5)) rfl) rfl rfl (Nat.zero_le _) d_Ma_begin_40 hsz hP hS) (fun σ11 _ => ?_)
  refine v_aload S d_Ma_begin_43 rfl ?_
  refine v_iconst S d_Ma_begin_45 (v := (2 : Int32)) (by decide) ?_
  refine v_aload S d_Ma_begin_46 rfl ?_
  refine v_iconst S d_Ma_begin_48 (v := (2 : Int32)) (by decide) ?_
  refine v_iload_n S d_Ma_begin_49 rfl rfl ?_
  refine v_ci (rest := [.int (2 : Int32), .ref (b + (19 + 2 * r4))]) (fun _ _ hg H locs ls hsz hP hS => run_S (As := [.ref (b + (19 + 2 * r4)), .int (2 : Int32), .int a2]) (rest := [.int (2 : Int32), .ref (b + (19 + 2 * r4))]) S kC_ok hKK (c_Ma_firstValue l D ca ax b σ11 r4 (2 : Int32) a2 (rb_Ma_openFrame g5) hg) (k_Ma_40 S.2.2.2.2 (fun _ => List.mem_cons_of_mem _) ⟨Nat.le_of_ble_eq_true rfl, Nat.le_of_ble_eq_true rfl⟩) rfl rfl (by simp [Value.category]) d_Ma_begin_50 hsz hP hS) (fun r13 σ12 _ => ?_)
  refine v_cv (rest := []) (fun _ hg H locs ls hsz hP hS => run_V (As := [.int (2 : Int32), .int r13]) (rest := []) S kC_ok hKK (c_Fr_setParameter l D ca ax b σ12 r4 (2 : Int32) r13 (rb_Ma_openFrame g5) hg) (k_Ma_44 S.2.2.2.2 (fun _ => List.mem_cons_of_mem _) ⟨Nat.le_of_ble_eq_true rfl, Nat.le_of_ble_eq_true rfl⟩) (rc_w hKK.1 hP (19 + 2 * r4) (fr_lt (rb_Ma_openFrame g5)) (ce_fr (rb_Ma_openFrame g5)) rfl) rfl rfl (Nat.zero_le _) d_Ma_begin_53 hsz hP hS) (fun σ14 _ => ?_)
  exact v_vret S hret hlocks d_Ma_begin_56
def fn_Ma_lengthOf (σ : mm_M) (a0 : Int32) : Option (Int32 × mm_M) :=
    (some (((a0 - (1 : Int32)) &&& (15 : Int32)), σ))
set_option maxRecDepth 100000 in
set_option maxHeartbeats 40000000 in
theorem c_Ma_lengthOf (l : Launch) (D : va_G) (ca : Nat → ClassId) (ax : Nat → Nat → Nat) (b : Nat) (σ : mm_M) (a0 : Int32)  {r : Int32} {σ' : mm_M} (hf : fn_Ma_lengthOf σ a0 = some (r, σ')) : Met l y_Ma_lengthOf w_Ma_lengthOf rm_Ma_lengthOf (pc_w D cls b N_C (ce_C ca b) (kC D ca ax b) [.int a0] σ) (qc_i D cls b N_C (ce_C ca b) r σ') 0 0 (mm_A b N_C) := by
  refine vv_go (cc := b_Ma_lengthOf) (maxL := 1) (ret := (some .int)) (fin := (r, σ')) (k := fn_Ma_lengthOf σ a0) (by decide) rfl (by simp [Value.category]) (Nat.le_of_ble_eq_true rfl) hf ?_
  intro p e s m below meth c hlocks hret S hKK
  unfold fn_Ma_lengthOf
  refine v_iload_n S d_Ma_lengthOf_0 rfl rfl ?_
  refine v_iconst S d_Ma_lengthOf_1 (v := (1 : Int32)) (by decide) ?_
  refine v_isub S d_Ma_lengthOf_2 ?_
  refine v_bipush S d_Ma_lengthOf_3 (v := (15 : Int32)) (by decide) ?_
  refine v_iand S d_Ma_lengthOf_5 ?_
  exact v_iret S hret hlocks d_Ma_lengthOf_6
def fn_Ma_elementTrap (σ : mm_M) (a0 : Int32) (a1 : Int32) : Option (Nat × mm_M) :=
    (if a0 = 0 then
    (some (3, σ))
    else
    (if a1 < 0 then
    (some (4, σ))
    else
    (bd (fn_Ma_lengthOf σ a0) (fun r4 σ3 =>
    (if r4 ≤ a1 then
    (some (4, σ3))
    else
    (some (0, σ3)))))))
set_option maxRecDepth 100000 in
set_option maxHeartbeats 40000000 in
theorem c_Ma_elementTrap (l : Launch) (D : va_G) (ca : Nat → ClassId) (ax : Nat → Nat → Nat) (b : Nat) (σ : mm_M) (a0 : Int32) (a1 : Int32)  {r : Nat} {σ' : mm_M} (hf : fn_Ma_elementTrap σ a0 a1 = some (r, σ')) : Met l y_Ma_elementTrap w_Ma_elementTrap rm_Ma_elementTrap (pc_w D cls b N_C (ce_C ca b) (kC D ca ax b) [.int a0, .int a1] σ) (qc_a D cls b N_C (ce_C ca b) (ax 1 r) σ') 0 0 (mm_A b N_C) := by
  refine vv_go (cc := b_Ma_elementTrap) (maxL := 2) (ret := (some (.object "FrameVerifier$Trap"))) (fin := (r, σ')) (k := fn_Ma_elementTrap σ a0 a1) (by decide) rfl (by simp [Value.category]) (Nat.le_of_ble_eq_true rfl) hf ?_
  intro p e s m below meth c hlocks hret S hKK
  unfold fn_Ma_elementTrap
  refine v_iload_n S d_Ma_elementTrap_0 rfl rfl ?_
  refine v_if_ne S d_Ma_elementTrap_1 (tgt := 8) (by decide) (fun h1 => ?_) (fun h1 => ?_)
  · refine v_iload_n S d_Ma_elementTrap_8 rfl rfl ?_
    refine v_if_lt S d_Ma_elementTrap_9 (tgt := 26) (by decide) (fun h2 => ?_) (fun h2 => ?_)
    · refine v_gets S (kc_zT hKK (i := 4) (by decide)) (S.2.2.2.2 _ (List.mem_cons_of_mem _ (wd_558))) (fun _ h => h) d_Ma_elementTrap_26 ?_
      exact v_aret (ax 1) S hret hlocks d_Ma_elementTrap_29
    · refine v_iload_n S d_Ma_elementTrap_12 rfl rfl ?_
      refine v_iload_n S d_Ma_elementTrap_13 rfl rfl ?_
      refine v_ci (rest := [.int a1]) (fun _ _ hg H locs ls hsz hP hS => run_S (As := [.int a0]) (rest := [.int a1]) S kC_ok hKK (c_Ma_lengthOf l D ca ax b σ a0 hg) (k_Ma_150 S.2.2.2.2 (fun _ => List.mem_cons_of_mem _) ⟨Nat.le_of_ble_eq_true rfl, Nat.le_of_ble_eq_true rfl⟩) rfl rfl (by simp [Value.category]) d_Ma_elementTrap_14 hsz hP hS) (fun r4 σ3 _ => ?_)
      refine v_icmp_ge S d_Ma_elementTrap_17 (tgt := 26) (by decide) (fun h5 => ?_) (fun h5 => ?_)
      · refine v_gets S (kc_zT hKK (i := 4) (by decide)) (S.2.2.2.2 _ (List.mem_cons_of_mem _ (wd_558))) (fun _ h => h) d_Ma_elementTrap_26 ?_
        exact v_aret (ax 1) S hret hlocks d_Ma_elementTrap_29
      · refine v_gets S (kc_zT hKK (i := 0) (by decide)) (S.2.2.2.2 _ (List.mem_cons_of_mem _ (wd_548))) (fun _ h => h) d_Ma_elementTrap_20 ?_
        refine v_goto S d_Ma_elementTrap_23 (tgt := 29) (by decide) ?_
        exact v_aret (ax 1) S hret hlocks d_Ma_elementTrap_29
  · refine v_gets S (kc_zT hKK (i := 3) (by decide)) (S.2.2.2.2 _ (List.mem_cons_of_mem _ (wd_553))) (fun _ h => h) d_Ma_elementTrap_4 ?_
    exact v_aret (ax 1) S hret hlocks d_Ma_elementTrap_7
theorem rb_Ma_elementTrap {σ : mm_M} {a0 : Int32} {a1 : Int32} {r : Nat} {σ' : mm_M} (h : fn_Ma_elementTrap σ a0 a1 = some (r, σ')) : r < 6 := by
  unfold fn_Ma_elementTrap at h
  try simp only [bd, bv, nm] at h
  repeat' (split at h)
  all_goals (first | (cases h; done) | (cases h; first | decide | exact ib (by assumption) ))
def fn_Ma_canMake (σ : mm_M) (a0 : Int32) : Option (Int32 × mm_M) :=
    (if a0 < 0 then
    (if (0 : Int32) = 0 ∨ (0 : Int32) = 1 then some ((0 : Int32), σ) else none)
    else
    (if (12 : Int32) < a0 then
    (if (0 : Int32) = 0 ∨ (0 : Int32) = 1 then some ((0 : Int32), σ) else none)
    else
    (if (30 : Int32) < ((σ 16 1) + a0) then
    (if (0 : Int32) = 0 ∨ (0 : Int32) = 1 then some ((0 : Int32), σ) else none)
    else
    (if (1 : Int32) = 0 ∨ (1 : Int32) = 1 then some ((1 : Int32), σ) else none))))
set_option maxRecDepth 100000 in
set_option maxHeartbeats 40000000 in
theorem c_Ma_canMake (l : Launch) (D : va_G) (ca : Nat → ClassId) (ax : Nat → Nat → Nat) (b : Nat) (σ : mm_M) (a0 : Int32)  {r : Int32} {σ' : mm_M} (hf : fn_Ma_canMake σ a0 = some (r, σ')) : Met l y_Ma_canMake w_Ma_canMake rm_Ma_canMake (pc_w D cls b N_C (ce_C ca b) (kC D ca ax b) [.ref (b + 16), .int a0] σ) (qc_i D cls b N_C (ce_C ca b) r σ') 0 0 (mm_A b N_C) := by
  refine vv_go (cc := b_Ma_canMake) (maxL := 2) (ret := (some .boolean)) (fin := (r, σ')) (k := fn_Ma_canMake σ a0) (by decide) rfl (by simp [Value.category]) (Nat.le_of_ble_eq_true rfl) hf ?_
  intro p e s m below meth c hlocks hret S hKK
  unfold fn_Ma_canMake
  refine v_iload_n S d_Ma_canMake_0 rfl rfl ?_
  refine v_if_lt S d_Ma_canMake_1 (tgt := 25) (by decide) (fun h1 => ?_) (fun h1 => ?_)
  · refine v_iconst S d_Ma_canMake_25 (v := (0 : Int32)) (by decide) ?_
    exact v_zret S hret hlocks d_Ma_canMake_26
  · refine v_iload_n S d_Ma_canMake_4 rfl rfl ?_
    refine v_bipush S d_Ma_canMake_5 (v := (12 : Int32)) (by decide) ?_
    refine v_icmp_gt S d_Ma_canMake_7 (tgt := 25) (by decide) (fun h2 => ?_) (fun h2 => ?_)
    · refine v_iconst S d_Ma_canMake_25 (v := (0 : Int32)) (by decide) ?_
      exact v_zret S hret hlocks d_Ma_canMake_26
    · refine v_aload_n S d_Ma_canMake_10 rfl rfl ?_
      refine v_get S (fun w h => List.mem_cons_of_mem _ (i_Ma w h)) hKK.1 16 (by decide) rfl rfl 1 (by decide) (S.2.2.2.2 _ (List.mem_cons_of_mem _ (wd_123))) (fun _ h => h) rfl d_Ma_canMake_11 ?_
      refine v_iload_n S d_Ma_canMake_14 rfl rfl ?_
      refine v_iadd S d_Ma_canMake_15 ?_
      refine v_bipush S d_Ma_canMake_16 (v := (30 : Int32)) (by decide) ?_
      refine v_icmp_gt S d_Ma_canMake_18 (tgt := 25) (by decide) (fun h3 => ?_) (fun h3 => ?_)
      · refine v_iconst S d_Ma_canMake_25 (v := (0 : Int32)) (by decide) ?_
        exact v_zret S hret hlocks d_Ma_canMake_26
      · refine v_iconst S d_Ma_canMake_21 (v := (1 : Int32)) (by decide) ?_
        refine v_goto S d_Ma_canMake_22 (tgt := 26) (by decide) ?_
        exact v_zret S hret hlocks d_Ma_canMake_26
def fn_Ma_trapOf (σ : mm_M) (i0 : Nat) : Option (Nat × mm_M) :=
    (bd (fn_Co_fits σ (σ (19 + 2 * i0) 0) (σ (19 + 2 * i0) 1) (σ (19 + 2 * i0) 2)) (fun r2 σ1 =>
    (if r2 = 0 then
    (some (1, σ1))
    else
    (bd (fn_Co_opAt σ1 (σ1 (19 + 2 * i0) 1)) (fun r5 σ4 =>
    (if ((nI r5) < 0 ∨ 20 ≤ (nI r5).toNatClampNeg) then none else
    (if (sw_op (nI r5).toNatClampNeg) = (5 : Int32) then
    (if (8 : Int32) ≤ (σ4 16 0) then
    (some (5, σ4))
    else
    (some (0, σ4)))
    else
    (if (sw_op (nI r5).toNatClampNeg) = (7 : Int32) then
    (bd (fn_Fr_below σ4 i0 (0 : Int32)) (fun r12 σ11 =>
    (if r12 = 0 then
    (some (2, σ11))
    else
    (some (0, σ11)))))
    else
    (if (sw_op (nI r5).toNatClampNeg) = (8 : Int32) then
    (bd (fn_Fr_below σ4 i0 (1 : Int32)) (fun r16 σ15 =>
    (bd (fn_Fr_below σ15 i0 (0 : Int32)) (fun r18 σ17 =>
    (bd (fn_Ma_elementTrap σ17 r16 r18) (fun r20 σ19 =>
    (some (r20, σ19))))))))
    else
    (if (sw_op (nI r5).toNatClampNeg) = (9 : Int32) then
    (bd (fn_Fr_below σ4 i0 (2 : Int32)) (fun r24 σ23 =>
    (bd (fn_Fr_below σ23 i0 (1 : Int32)) (fun r26 σ25 =>
    (bd (fn_Ma_elementTrap σ25 r24 r26) (fun r28 σ27 =>
    (some (r28, σ27))))))))
    else
    (if (sw_op (nI r5).toNatClampNeg) = (10 : Int32) then
    (bd (fn_Fr_below σ4 i0 (0 : Int32)) (fun r32 σ31 =>
    (if r32 = 0 then
    (some (3, σ31))
    else
    (some (0, σ31)))))
    else
    (if (sw_op (nI r5).toNatClampNeg) = (11 : Int32) then
    (bd (fn_Fr_below σ4 i0 (0 : Int32)) (fun r36 σ35 =>
    (bd (fn_Ma_canMake σ35 r36) (fun r38 σ37 =>
    (if r38 = 0 then
    (some (5, σ37))
    else
    (some (0, σ37)))))))
    else
    (some (0, σ4))))))))))))))
set_option maxRecDepth 100000 in
set_option maxHeartbeats 40000000 in
theorem c_Ma_trapOf (l : Launch) (D : va_G) (ca : Nat → ClassId) (ax : Nat → Nat → Nat) (b : Nat) (σ : mm_M) (i0 : Nat) (hi0 : i0 < 8) {r : Nat} {σ' : mm_M} (hf : fn_Ma_trapOf σ i0 = some (r, σ')) : Met l y_Ma_trapOf w_Ma_trapOf rm_Ma_trapOf (pc_w D cls b N_C (ce_C ca b) (kC D ca ax b) [.ref (b + 16), .ref (b + (19 + 2 * i0))] σ) (qc_a D cls b N_C (ce_C ca b) (ax 1 r) σ') 0 0 (mm_A b N_C) := by
  refine vv_go (cc := b_Ma_trapOf) (maxL := 2) (ret := (some (.object "FrameVerifier$Trap"))) (fin := (r, σ')) (k := fn_Ma_trapOf σ i0) (by decide) rfl (by simp [Value.category]) (Nat.le_of_ble_eq_true rfl) hf ?_
  intro p e s m below meth c hlocks hret S hKK
  unfold fn_Ma_trapOf
  refine v_aload_n S d_Ma_trapOf_0 rfl rfl ?_
  refine v_get S (fun w h => List.mem_cons_of_mem _ (i_Ma w h)) hKK.1 16 (by decide) rfl rfl 3 (by decide) (S.2.2.2.2 _ (List.mem_cons_of_mem _ (wd_127))) (fun _ h => h) rfl d_Ma_trapOf_1 ?_
  refine v_aload_n S d_Ma_trapOf_4 rfl rfl ?_
  refine v_get S (fun w h => List.mem_cons_of_mem _ (i_Fr w h)) hKK.1 (19 + 2 * i0) (fr_lt hi0) (ce_fr hi0) rfl 0 (by decide) (S.2.2.2.2 _ (List.mem_cons_of_mem _ (wd_104))) (fun _ h => h) rfl d_Ma_trapOf_5 ?_
  refine v_aload_n S d_Ma_trapOf_8 rfl rfl ?_
  refine v_get S (fun w h => List.mem_cons_of_mem _ (i_Fr w h)) hKK.1 (19 + 2 * i0) (fr_lt hi0) (ce_fr hi0) rfl 1 (by decide) (S.2.2.2.2 _ (List.mem_cons_of_mem _ (wd_106))) (fun _ h => h) rfl d_Ma_trapOf_9 ?_
  refine v_aload_n S d_Ma_trapOf_12 rfl rfl ?_
  refine v_get S (fun w h => List.mem_cons_of_mem _ (i_Fr w h)) hKK.1 (19 + 2 * i0) (fr_lt hi0) (ce_fr hi0) rfl 2 (by decide) (S.2.2.2.2 _ (List.mem_cons_of_mem _ (wd_109))) (fun _ h => h) rfl d_Ma_trapOf_13 ?_
  refine v_ci (rest := []) (fun _ _ hg H locs ls hsz hP hS => run_V (As := [.int (σ (19 + 2 * i0) 0), .int (σ (19 + 2 * i0) 1), .int (σ (19 + 2 * i0) 2)]) (rest := []) S kC_ok hKK (c_Co_fits l D ca ax b σ (σ (19 + 2 * i0) 0) (σ (19 + 2 * i0) 1) (σ (19 + 2 * i0) 2) hg) (k_Ma_114 S.2.2.2.2 (fun _ => List.mem_cons_of_mem _) ⟨Nat.le_of_ble_eq_true rfl, Nat.le_of_ble_eq_true rfl⟩) (rc_w hKK.1 hP 1 (by decide) rfl rfl) rfl rfl (Nat.zero_le _) d_Ma_trapOf_16 hsz hP hS) (fun r2 σ1 _ => ?_)
  refine v_if_ne S d_Ma_trapOf_19 (tgt := 26) (by decide) (fun h3 => ?_) (fun h3 => ?_)
  · refine v_gets S (kc_zOp hKK) (S.2.2.2.2 _ (List.mem_cons_of_mem _ (wd_538))) (fun _ h => h) d_Ma_trapOf_26 ?_
    refine v_aload_n S d_Ma_trapOf_29 rfl rfl ?_
    refine v_get S (fun w h => List.mem_cons_of_mem _ (i_Ma w h)) hKK.1 16 (by decide) rfl rfl 3 (by decide) (S.2.2.2.2 _ (List.mem_cons_of_mem _ (wd_127))) (fun _ h => h) rfl d_Ma_trapOf_30 ?_
    refine v_aload_n S d_Ma_trapOf_33 rfl rfl ?_
    refine v_get S (fun w h => List.mem_cons_of_mem _ (i_Fr w h)) hKK.1 (19 + 2 * i0) (fr_lt hi0) (ce_fr hi0) rfl 1 (by decide) (S.2.2.2.2 _ (List.mem_cons_of_mem _ (wd_106))) (fun _ h => h) rfl d_Ma_trapOf_34 ?_
    refine v_ca (ax 0) (rest := [.ref (ax 3 0)]) (fun _ _ hg H locs ls hsz hP hS => run_V (As := [.int (σ1 (19 + 2 * i0) 1)]) (rest := [.ref (ax 3 0)]) S kC_ok hKK (c_Co_opAt l D ca ax b σ1 (σ1 (19 + 2 * i0) 1) hg) (k_Ma_69 S.2.2.2.2 (fun _ => List.mem_cons_of_mem _) ⟨Nat.le_of_ble_eq_true rfl, Nat.le_of_ble_eq_true rfl⟩) (rc_w hKK.1 hP 1 (by decide) rfl rfl) rfl rfl (by simp [Value.category]) d_Ma_trapOf_37 hsz hP hS) (fun r5 σ4 g6 => ?_)
    refine v_ordO (rest := [.ref (ax 3 0)]) S hKK (rb_Co_opAt g6) (k_Ma_126 S.2.2.2.2 (fun _ => List.mem_cons_of_mem _) ⟨Nat.le_of_ble_eq_true rfl, Nat.le_of_ble_eq_true rfl⟩) (by simp [Value.category]) d_Ma_trapOf_40 ?_
    refine v_ti0 S (kc_swOp hKK) d_Ma_trapOf_43 (fun h7 => ?_)
    refine v_tsw S (5 : Int32) (tgt := 174) d_Ma_trapOf_44 (by decide) (by decide) (off := 130) rfl (by decide) (fun h8 => ?_) (fun h8 => ?_)
    · refine v_aload_n S d_Ma_trapOf_174 rfl rfl ?_
      refine v_get S (fun w h => List.mem_cons_of_mem _ (i_Ma w h)) hKK.1 16 (by decide) rfl rfl 0 (by decide) (S.2.2.2.2 _ (List.mem_cons_of_mem _ (wd_121))) (fun _ h => h) rfl d_Ma_trapOf_175 ?_
      refine v_bipush S d_Ma_trapOf_178 (v := (8 : Int32)) (by decide) ?_
      refine v_icmp_ge S d_Ma_trapOf_180 (tgt := 189) (by decide) (fun h9 => ?_) (fun h9 => ?_)
      · refine v_gets S (kc_zT hKK (i := 5) (by decide)) (S.2.2.2.2 _ (List.mem_cons_of_mem _ (wd_564))) (fun _ h => h) d_Ma_trapOf_189 ?_
        exact v_aret (ax 1) S hret hlocks d_Ma_trapOf_192
      · refine v_gets S (kc_zT hKK (i := 0) (by decide)) (S.2.2.2.2 _ (List.mem_cons_of_mem _ (wd_548))) (fun _ h => h) d_Ma_trapOf_183 ?_
        refine v_goto S d_Ma_trapOf_186 (tgt := 192) (by decide) ?_
        exact v_aret (ax 1) S hret hlocks d_Ma_trapOf_192
    · refine v_tsw S (7 : Int32) (tgt := 88) d_Ma_trapOf_44 (by decide) (by decide) (off := 44) rfl (by decide) (fun h10 => ?_) (fun h10 => ?_)
      · refine v_aload_n S d_Ma_trapOf_88 rfl rfl ?_
        refine v_iconst S d_Ma_trapOf_89 (v := (0 : Int32)) (by decide) ?_
        refine v_ci (rest := []) (fun _ _ hg H locs ls hsz hP hS => run_V (As := [.int (0 : Int32)]) (rest := []) S kC_ok hKK (c_Fr_below l D ca ax b σ4 i0 (0 : Int32) hi0 hg) (k_Ma_130 S.2.2.2.2 (fun _ => List.mem_cons_of_mem _) ⟨Nat.le_of_ble_eq_true rfl, Nat.le_of_ble_eq_true rfl⟩) (rc_w hKK.1 hP (19 + 2 * i0) (fr_lt hi0) (ce_fr hi0) rfl) rfl rfl (Nat.zero_le _) d_Ma_trapOf_90 hsz hP hS) (fun r12 σ11 _ => ?_)
        refine v_if_ne S d_Ma_trapOf_93 (tgt := 102) (by decide) (fun h13 => ?_) (fun h13 => ?_)
        · refine v_gets S (kc_zT hKK (i := 0) (by decide)) (S.2.2.2.2 _ (List.mem_cons_of_mem _ (wd_548))) (fun _ h => h) d_Ma_trapOf_102 ?_
          exact v_aret (ax 1) S hret hlocks d_Ma_trapOf_105
        · refine v_gets S (kc_zT hKK (i := 2) (by decide)) (S.2.2.2.2 _ (List.mem_cons_of_mem _ (wd_546))) (fun _ h => h) d_Ma_trapOf_96 ?_
          refine v_goto S d_Ma_trapOf_99 (tgt := 105) (by decide) ?_
          exact v_aret (ax 1) S hret hlocks d_Ma_trapOf_105
      · refine v_tsw S (8 : Int32) (tgt := 106) d_Ma_trapOf_44 (by decide) (by decide) (off := 62) rfl (by decide) (fun h14 => ?_) (fun h14 => ?_)
        · refine v_aload_n S d_Ma_trapOf_106 rfl rfl ?_
          refine v_iconst S d_Ma_trapOf_107 (v := (1 : Int32)) (by decide) ?_
          refine v_ci (rest := []) (fun _ _ hg H locs ls hsz hP hS => run_V (As := [.int (1 : Int32)]) (rest := []) S kC_ok hKK (c_Fr_below l D ca ax b σ4 i0 (1 : Int32) hi0 hg) (k_Ma_130 S.2.2.2.2 (fun _ => List.mem_cons_of_mem _) ⟨Nat.le_of_ble_eq_true rfl, Nat.le_of_ble_eq_true rfl⟩) (rc_w hKK.1 hP (19 + 2 * i0) (fr_lt hi0) (ce_fr hi0) rfl) rfl rfl (Nat.zero_le _) d_Ma_trapOf_108 hsz hP hS) (fun r16 σ15 _ => ?_)
          refine v_aload_n S d_Ma_trapOf_111 rfl rfl ?_
          refine v_iconst S d_Ma_trapOf_112 (v := (0 : Int32)) (by decide) ?_
          refine v_ci (rest := [.int r16]) (fun _ _ hg H locs ls hsz hP hS => run_V (As := [.int (0 : Int32)]) (rest := [.int r16]) S kC_ok hKK (c_Fr_below l D ca ax b σ15 i0 (0 : Int32) hi0 hg) (k_Ma_130 S.2.2.2.2 (fun _ => List.mem_cons_of_mem _) ⟨Nat.le_of_ble_eq_true rfl, Nat.le_of_ble_eq_true rfl⟩) (rc_w hKK.1 hP (19 + 2 * i0) (fr_lt hi0) (ce_fr hi0) rfl) rfl rfl (by simp [Value.category]) d_Ma_trapOf_113 hsz hP hS) (fun r18 σ17 _ => ?_)
          refine v_ca (ax 1) (rest := []) (fun _ _ hg H locs ls hsz hP hS => run_S (As := [.int r16, .int r18]) (rest := []) S kC_ok hKK (c_Ma_elementTrap l D ca ax b σ17 r16 r18 hg) (k_Ma_136 S.2.2.2.2 (fun _ => List.mem_cons_of_mem _) ⟨Nat.le_of_ble_eq_true rfl, Nat.le_of_ble_eq_true rfl⟩) rfl rfl (Nat.zero_le _) d_Ma_trapOf_116 hsz hP hS) (fun r20 σ19 g21 => ?_)
          exact v_aret (ax 1) S hret hlocks d_Ma_trapOf_119
        · refine v_tsw S (9 : Int32) (tgt := 120) d_Ma_trapOf_44 (by decide) (by decide) (off := 76) rfl (by decide) (fun h22 => ?_) (fun h22 => ?_)
          · refine v_aload_n S d_Ma_trapOf_120 rfl rfl ?_
            refine v_iconst S d_Ma_trapOf_121 (v := (2 : Int32)) (by decide) ?_
            refine v_ci (rest := []) (fun _ _ hg H locs ls hsz hP hS => run_V (As := [.int (2 : Int32)]) (rest := []) S kC_ok hKK (c_Fr_below l D ca ax b σ4 i0 (2 : Int32) hi0 hg) (k_Ma_130 S.2.2.2.2 (fun _ => List.mem_cons_of_mem _) ⟨Nat.le_of_ble_eq_true rfl, Nat.le_of_ble_eq_true rfl⟩) (rc_w hKK.1 hP (19 + 2 * i0) (fr_lt hi0) (ce_fr hi0) rfl) rfl rfl (Nat.zero_le _) d_Ma_trapOf_122 hsz hP hS) (fun r24 σ23 _ => ?_)
            refine v_aload_n S d_Ma_trapOf_125 rfl rfl ?_
            refine v_iconst S d_Ma_trapOf_126 (v := (1 : Int32)) (by decide) ?_
            refine v_ci (rest := [.int r24]) (fun _ _ hg H locs ls hsz hP hS => run_V (As := [.int (1 : Int32)]) (rest := [.int r24]) S kC_ok hKK (c_Fr_below l D ca ax b σ23 i0 (1 : Int32) hi0 hg) (k_Ma_130 S.2.2.2.2 (fun _ => List.mem_cons_of_mem _) ⟨Nat.le_of_ble_eq_true rfl, Nat.le_of_ble_eq_true rfl⟩) (rc_w hKK.1 hP (19 + 2 * i0) (fr_lt hi0) (ce_fr hi0) rfl) rfl rfl (by simp [Value.category]) d_Ma_trapOf_127 hsz hP hS) (fun r26 σ25 _ => ?_)
            refine v_ca (ax 1) (rest := []) (fun _ _ hg H locs ls hsz hP hS => run_S (As := [.int r24, .int r26]) (rest := []) S kC_ok hKK (c_Ma_elementTrap l D ca ax b σ25 r24 r26 hg) (k_Ma_136 S.2.2.2.2 (fun _ => List.mem_cons_of_mem _) ⟨Nat.le_of_ble_eq_true rfl, Nat.le_of_ble_eq_true rfl⟩) rfl rfl (Nat.zero_le _) d_Ma_trapOf_130 hsz hP hS) (fun r28 σ27 g29 => ?_)
            exact v_aret (ax 1) S hret hlocks d_Ma_trapOf_133
          · refine v_tsw S (10 : Int32) (tgt := 134) d_Ma_trapOf_44 (by decide) (by decide) (off := 90) rfl (by decide) (fun h30 => ?_) (fun h30 => ?_)
            · refine v_aload_n S d_Ma_trapOf_134 rfl rfl ?_
              refine v_iconst S d_Ma_trapOf_135 (v := (0 : Int32)) (by decide) ?_
              refine v_ci (rest := []) (fun _ _ hg H locs ls hsz hP hS => run_V (As := [.int (0 : Int32)]) (rest := []) S kC_ok hKK (c_Fr_below l D ca ax b σ4 i0 (0 : Int32) hi0 hg) (k_Ma_130 S.2.2.2.2 (fun _ => List.mem_cons_of_mem _) ⟨Nat.le_of_ble_eq_true rfl, Nat.le_of_ble_eq_true rfl⟩) (rc_w hKK.1 hP (19 + 2 * i0) (fr_lt hi0) (ce_fr hi0) rfl) rfl rfl (Nat.zero_le _) d_Ma_trapOf_136 hsz hP hS) (fun r32 σ31 _ => ?_)
              refine v_if_ne S d_Ma_trapOf_139 (tgt := 148) (by decide) (fun h33 => ?_) (fun h33 => ?_)
              · refine v_gets S (kc_zT hKK (i := 0) (by decide)) (S.2.2.2.2 _ (List.mem_cons_of_mem _ (wd_548))) (fun _ h => h) d_Ma_trapOf_148 ?_
                exact v_aret (ax 1) S hret hlocks d_Ma_trapOf_151
              · refine v_gets S (kc_zT hKK (i := 3) (by decide)) (S.2.2.2.2 _ (List.mem_cons_of_mem _ (wd_553))) (fun _ h => h) d_Ma_trapOf_142 ?_
                refine v_goto S d_Ma_trapOf_145 (tgt := 151) (by decide) ?_
                exact v_aret (ax 1) S hret hlocks d_Ma_trapOf_151
            · refine v_tsw S (11 : Int32) (tgt := 152) d_Ma_trapOf_44 (by decide) (by decide) (off := 108) rfl (by decide) (fun h34 => ?_) (fun h34 => ?_)
              · refine v_aload_n S d_Ma_trapOf_152 rfl rfl ?_
                refine v_aload_n S d_Ma_trapOf_153 rfl rfl ?_
                refine v_iconst S d_Ma_trapOf_154 (v := (0 : Int32)) (by decide) ?_
                refine v_ci (rest := [.ref (b + 16)]) (fun _ _ hg H locs ls hsz hP hS => run_V (As := [.int (0 : Int32)]) (rest := [.ref (b + 16)]) S kC_ok hKK (c_Fr_below l D ca ax b σ4 i0 (0 : Int32) hi0 hg) (k_Ma_130 S.2.2.2.2 (fun _ => List.mem_cons_of_mem _) ⟨Nat.le_of_ble_eq_true rfl, Nat.le_of_ble_eq_true rfl⟩) (rc_w hKK.1 hP (19 + 2 * i0) (fr_lt hi0) (ce_fr hi0) rfl) rfl rfl (by simp [Value.category]) d_Ma_trapOf_155 hsz hP hS) (fun r36 σ35 _ => ?_)
                refine v_ci (rest := []) (fun _ _ hg H locs ls hsz hP hS => run_V (As := [.int r36]) (rest := []) S kC_ok hKK (c_Ma_canMake l D ca ax b σ35 r36 hg) (k_Ma_143 S.2.2.2.2 (fun _ => List.mem_cons_of_mem _) ⟨Nat.le_of_ble_eq_true rfl, Nat.le_of_ble_eq_true rfl⟩) (rc_w hKK.1 hP 16 (by decide) rfl rfl) rfl rfl (Nat.zero_le _) d_Ma_trapOf_158 hsz hP hS) (fun r38 σ37 _ => ?_)
                refine v_if_eq S d_Ma_trapOf_161 (tgt := 170) (by decide) (fun h39 => ?_) (fun h39 => ?_)
                · refine v_gets S (kc_zT hKK (i := 5) (by decide)) (S.2.2.2.2 _ (List.mem_cons_of_mem _ (wd_564))) (fun _ h => h) d_Ma_trapOf_170 ?_
                  exact v_aret (ax 1) S hret hlocks d_Ma_trapOf_173
                · refine v_gets S (kc_zT hKK (i := 0) (by decide)) (S.2.2.2.2 _ (List.mem_cons_of_mem _ (wd_548))) (fun _ h => h) d_Ma_trapOf_164 ?_
                  refine v_goto S d_Ma_trapOf_167 (tgt := 173) (by decide) ?_
                  exact v_aret (ax 1) S hret hlocks d_Ma_trapOf_173
              · refine v_tswQ S (6 : Int32) (tgt := 193) d_Ma_trapOf_44 (by decide) (by decide) (off := 149) rfl (by decide) ?_ (fun h40 => ?_)
                · refine v_gets S (kc_zT hKK (i := 0) (by decide)) (S.2.2.2.2 _ (List.mem_cons_of_mem _ (wd_548))) (fun _ h => h) d_Ma_trapOf_193 ?_
                  exact v_aret (ax 1) S hret hlocks d_Ma_trapOf_196
                · refine v_tswD S (tgt := 193) d_Ma_trapOf_44 (by have nh8 := i32_ne (n := 5) h8 (by decide); have nh10 := i32_ne (n := 7) h10 (by decide); have nh14 := i32_ne (n := 8) h14 (by decide); have nh22 := i32_ne (n := 9) h22 (by decide); have nh30 := i32_ne (n := 10) h30 (by decide); have nh34 := i32_ne (n := 11) h34 (by decide); have nh40 := i32_ne (n := 6) h40 (by decide); omega) (by decide) ?_
                  refine v_gets S (kc_zT hKK (i := 0) (by decide)) (S.2.2.2.2 _ (List.mem_cons_of_mem _ (wd_548))) (fun _ h => h) d_Ma_trapOf_193 ?_
                  exact v_aret (ax 1) S hret hlocks d_Ma_trapOf_196
  · refine v_gets S (kc_zT hKK (i := 1) (by decide)) (S.2.2.2.2 _ (List.mem_cons_of_mem _ (wd_536))) (fun _ h => h) d_Ma_trapOf_22 ?_
    exact v_aret (ax 1) S hret hlocks d_Ma_trapOf_25
theorem rb_Ma_trapOf {σ : mm_M} {i0 : Nat} {r : Nat} {σ' : mm_M} (h : fn_Ma_trapOf σ i0 = some (r, σ')) : r < 6 := by
  unfold fn_Ma_trapOf at h
  try simp only [bd, bv, nm] at h
  repeat' (split at h)
  all_goals (first | (cases h; done) | (cases h; first | decide | exact ib (by assumption) | exact rb_Co_opAt (by assumption) | exact rb_Ma_elementTrap (by assumption) | exact rb_Ma_elementTrap (by assumption)))
def fn_Ma_jump (σ : mm_M) (i0 : Nat) (o1 : Nat) (a2 : Int32) : Option (mm_M) :=
    (if o1 = 7 then
    (nm (mw σ (19 + 2 * i0) 1 a2) (fun σ2 =>
    (some σ2)))
    else
    (bd (fn_Fr_pop σ i0) (fun r4 σ3 =>
    (if r4 = 0 then
    (nm (mw σ3 (19 + 2 * i0) 1 a2) (fun σ6 =>
    (some σ6)))
    else
    (some σ3)))))
set_option maxRecDepth 100000 in
set_option maxHeartbeats 40000000 in
theorem c_Ma_jump (l : Launch) (D : va_G) (ca : Nat → ClassId) (ax : Nat → Nat → Nat) (b : Nat) (σ : mm_M) (i0 : Nat) (o1 : Nat) (a2 : Int32) (hi0 : i0 < 8) (ho1 : o1 < 20) {σ' : mm_M} (hf : fn_Ma_jump σ i0 o1 a2 = some σ') : Met l y_Ma_jump w_Ma_jump rm_Ma_jump (pc_w D cls b N_C (ce_C ca b) (kC D ca ax b) [.ref (b + (19 + 2 * i0)), .ref (ax 0 o1), .int a2] σ) (qc_v D cls b N_C (ce_C ca b) σ') 0 0 (mm_A b N_C) := by
  refine vv_go (cc := b_Ma_jump) (maxL := 3) (ret := none) (fin := σ') (k := fn_Ma_jump σ i0 o1 a2) (by decide) rfl (by simp [Value.category]) (Nat.le_of_ble_eq_true rfl) hf ?_
  intro p e s m below meth c hlocks hret S hKK
  unfold fn_Ma_jump
  refine v_aload_n S d_Ma_jump_0 rfl rfl ?_
  refine v_gets S (kc_zO hKK (i := 7) (by decide)) (S.2.2.2.2 _ (List.mem_cons_of_mem _ (wd_641))) (fun _ h => h) d_Ma_jump_1 ?_
  refine v_acmp_eq S d_Ma_jump_4 (tgt := 14) (by decide) (op_inj hKK ho1 (by decide)) (fun h1 => ?_) (fun h1 => ?_)
  · refine v_aload_n S d_Ma_jump_14 rfl rfl ?_
    refine v_iload_n S d_Ma_jump_15 rfl rfl ?_
    refine v_puti S (fun w h => List.mem_cons_of_mem _ (i_Fr w h)) hKK.1 (19 + 2 * i0) (fr_lt hi0) (ce_fr hi0) rfl 1 (by decide) (S.2.2.2.2 _ (List.mem_cons_of_mem _ (wd_106))) (fun _ h => h) t_Fr t_Fr_ok n_Fr rfl (ty := .int) rfl rfl rfl (Nat.le_of_ble_eq_true rfl) (ce_frP hi0 1 (by decide)) d_Ma_jump_16 ?_
    refine v_sg (fun σ2 eσ2 => ?_)
    exact v_vret S hret hlocks d_Ma_jump_19
  · refine v_aload_n S d_Ma_jump_7 rfl rfl ?_
    refine v_ci (rest := []) (fun _ _ hg H locs ls hsz hP hS => run_V (As := []) (rest := []) S kC_ok hKK (c_Fr_pop l D ca ax b σ i0 hi0 hg) (k_Ma_179 S.2.2.2.2 (fun _ => List.mem_cons_of_mem _) ⟨Nat.le_of_ble_eq_true rfl, Nat.le_of_ble_eq_true rfl⟩) (rc_w hKK.1 hP (19 + 2 * i0) (fr_lt hi0) (ce_fr hi0) rfl) rfl rfl (Nat.zero_le _) d_Ma_jump_8 hsz hP hS) (fun r4 σ3 _ => ?_)
    refine v_if_ne S d_Ma_jump_11 (tgt := 19) (by decide) (fun h5 => ?_) (fun h5 => ?_)
    · exact v_vret S hret hlocks d_Ma_jump_19
    · refine v_aload_n S d_Ma_jump_14 rfl rfl ?_
      refine v_iload_n S d_Ma_jump_15 rfl rfl ?_
      refine v_puti S (fun w h => List.mem_cons_of_mem _ (i_Fr w h)) hKK.1 (19 + 2 * i0) (fr_lt hi0) (ce_fr hi0) rfl 1 (by decide) (S.2.2.2.2 _ (List.mem_cons_of_mem _ (wd_106))) (fun _ h => h) t_Fr t_Fr_ok n_Fr rfl (ty := .int) rfl rfl rfl (Nat.le_of_ble_eq_true rfl) (ce_frP hi0 1 (by decide)) d_Ma_jump_16 ?_
      refine v_sg (fun σ6 eσ6 => ?_)
      exact v_vret S hret hlocks d_Ma_jump_19
def fn_Ma_reckoned (σ : mm_M) (o0 : Nat) (a1 : Int32) (a2 : Int32) : Option (Int32 × mm_M) :=
    (if ((nI o0) < 0 ∨ 20 ≤ (nI o0).toNatClampNeg) then none else
    (if (sw_op (nI o0).toNatClampNeg) = (12 : Int32) then
    (some ((a1 + a2), σ))
    else
    (if (sw_op (nI o0).toNatClampNeg) = (13 : Int32) then
    (some ((a1 - a2), σ))
    else
    (if (sw_op (nI o0).toNatClampNeg) = (14 : Int32) then
    (some ((a1 * a2), σ))
    else
    (if a2 = 0 then
    (some ((0 : Int32), σ))
    else
    (if a2 = 0 then none else
    (some ((a1 / a2), σ))))))))
set_option maxRecDepth 100000 in
set_option maxHeartbeats 40000000 in
theorem c_Ma_reckoned (l : Launch) (D : va_G) (ca : Nat → ClassId) (ax : Nat → Nat → Nat) (b : Nat) (σ : mm_M) (o0 : Nat) (a1 : Int32) (a2 : Int32) (ho0 : o0 < 20) {r : Int32} {σ' : mm_M} (hf : fn_Ma_reckoned σ o0 a1 a2 = some (r, σ')) : Met l y_Ma_reckoned w_Ma_reckoned rm_Ma_reckoned (pc_w D cls b N_C (ce_C ca b) (kC D ca ax b) [.ref (ax 0 o0), .int a1, .int a2] σ) (qc_i D cls b N_C (ce_C ca b) r σ') 0 0 (mm_A b N_C) := by
  refine vv_go (cc := b_Ma_reckoned) (maxL := 3) (ret := (some .int)) (fin := (r, σ')) (k := fn_Ma_reckoned σ o0 a1 a2) (by decide) rfl (by simp [Value.category]) (Nat.le_of_ble_eq_true rfl) hf ?_
  intro p e s m below meth c hlocks hret S hKK
  unfold fn_Ma_reckoned
  refine v_gets S (kc_zOp hKK) (S.2.2.2.2 _ (List.mem_cons_of_mem _ (wd_538))) (fun _ h => h) d_Ma_reckoned_0 ?_
  refine v_aload_n S d_Ma_reckoned_3 rfl rfl ?_
  refine v_ordO (rest := [.ref (ax 3 0)]) S hKK ho0 (k_Ma_126 S.2.2.2.2 (fun _ => List.mem_cons_of_mem _) ⟨Nat.le_of_ble_eq_true rfl, Nat.le_of_ble_eq_true rfl⟩) (by simp [Value.category]) d_Ma_reckoned_4 ?_
  refine v_ti0 S (kc_swOp hKK) d_Ma_reckoned_7 (fun h1 => ?_)
  refine v_tsw S (12 : Int32) (tgt := 36) d_Ma_reckoned_8 (by decide) (by decide) (off := 28) rfl (by decide) (fun h2 => ?_) (fun h2 => ?_)
  · refine v_iload_n S d_Ma_reckoned_36 rfl rfl ?_
    refine v_iload_n S d_Ma_reckoned_37 rfl rfl ?_
    refine v_iadd S d_Ma_reckoned_38 ?_
    exact v_iret S hret hlocks d_Ma_reckoned_39
  · refine v_tsw S (13 : Int32) (tgt := 40) d_Ma_reckoned_8 (by decide) (by decide) (off := 32) rfl (by decide) (fun h3 => ?_) (fun h3 => ?_)
    · refine v_iload_n S d_Ma_reckoned_40 rfl rfl ?_
      refine v_iload_n S d_Ma_reckoned_41 rfl rfl ?_
      refine v_isub S d_Ma_reckoned_42 ?_
      exact v_iret S hret hlocks d_Ma_reckoned_43
    · refine v_tsw S (14 : Int32) (tgt := 44) d_Ma_reckoned_8 (by decide) (by decide) (off := 36) rfl (by decide) (fun h4 => ?_) (fun h4 => ?_)
      · refine v_iload_n S d_Ma_reckoned_44 rfl rfl ?_
        refine v_iload_n S d_Ma_reckoned_45 rfl rfl ?_
        refine v_imul S d_Ma_reckoned_46 ?_
        exact v_iret S hret hlocks d_Ma_reckoned_47
      · refine v_tswD S (tgt := 48) d_Ma_reckoned_8 (by have nh2 := i32_ne (n := 12) h2 (by decide); have nh3 := i32_ne (n := 13) h3 (by decide); have nh4 := i32_ne (n := 14) h4 (by decide); omega) (by decide) ?_
        refine v_iload_n S d_Ma_reckoned_48 rfl rfl ?_
        refine v_if_ne S d_Ma_reckoned_49 (tgt := 56) (by decide) (fun h5 => ?_) (fun h5 => ?_)
        · refine v_iload_n S d_Ma_reckoned_56 rfl rfl ?_
          refine v_iload_n S d_Ma_reckoned_57 rfl rfl ?_
          refine v_idiv S d_Ma_reckoned_58 (fun h6 => ?_)
          exact v_iret S hret hlocks d_Ma_reckoned_59
        · refine v_iconst S d_Ma_reckoned_52 (v := (0 : Int32)) (by decide) ?_
          refine v_goto S d_Ma_reckoned_53 (tgt := 59) (by decide) ?_
          exact v_iret S hret hlocks d_Ma_reckoned_59
def fn_Ma_reckon (σ : mm_M) (i0 : Nat) (o1 : Nat) : Option (mm_M) :=
    (bd (fn_Fr_pop σ i0) (fun r2 σ1 =>
    (bd (fn_Fr_pop σ1 i0) (fun r4 σ3 =>
    (bd (fn_Ma_reckoned σ3 o1 r4 r2) (fun r6 σ5 =>
    (bv (fn_Fr_push σ5 i0 (1 : Int32) r6) (fun σ7 =>
    (some σ7)))))))))
set_option maxRecDepth 100000 in
set_option maxHeartbeats 40000000 in
theorem c_Ma_reckon (l : Launch) (D : va_G) (ca : Nat → ClassId) (ax : Nat → Nat → Nat) (b : Nat) (σ : mm_M) (i0 : Nat) (o1 : Nat) (hi0 : i0 < 8) (ho1 : o1 < 20) {σ' : mm_M} (hf : fn_Ma_reckon σ i0 o1 = some σ') : Met l y_Ma_reckon w_Ma_reckon rm_Ma_reckon (pc_w D cls b N_C (ce_C ca b) (kC D ca ax b) [.ref (b + (19 + 2 * i0)), .ref (ax 0 o1)] σ) (qc_v D cls b N_C (ce_C ca b) σ') 0 0 (mm_A b N_C) := by
  refine vv_go (cc := b_Ma_reckon) (maxL := 4) (ret := none) (fin := σ') (k := fn_Ma_reckon σ i0 o1) (by decide) rfl (by simp [Value.category]) (Nat.le_of_ble_eq_true rfl) hf ?_
  intro p e s m below meth c hlocks hret S hKK
  unfold fn_Ma_reckon
  refine v_aload_n S d_Ma_reckon_0 rfl rfl ?_
  refine v_ci (rest := []) (fun _ _ hg H locs ls hsz hP hS => run_V (As := []) (rest := []) S kC_ok hKK (c_Fr_pop l D ca ax b σ i0 hi0 hg) (k_Ma_179 S.2.2.2.2 (fun _ => List.mem_cons_of_mem _) ⟨Nat.le_of_ble_eq_true rfl, Nat.le_of_ble_eq_true rfl⟩) (rc_w hKK.1 hP (19 + 2 * i0) (fr_lt hi0) (ce_fr hi0) rfl) rfl rfl (Nat.zero_le _) d_Ma_reckon_1 hsz hP hS) (fun r2 σ1 _ => ?_)
  refine v_istore_nP S d_Ma_reckon_4 rfl (by decide) (L2 := [some (.ref (b + (19 + 2 * i0))), some (.ref (ax 0 o1)), some (.int r2)]) rfl ?_
  refine v_aload_n S d_Ma_reckon_5 rfl rfl ?_
  refine v_ci (rest := []) (fun _ _ hg H locs ls hsz hP hS => run_V (As := []) (rest := []) S kC_ok hKK (c_Fr_pop l D ca ax b σ1 i0 hi0 hg) (k_Ma_179 S.2.2.2.2 (fun _ => List.mem_cons_of_mem _) ⟨Nat.le_of_ble_eq_true rfl, Nat.le_of_ble_eq_true rfl⟩) (rc_w hKK.1 hP (19 + 2 * i0) (fr_lt hi0) (ce_fr hi0) rfl) rfl rfl (Nat.zero_le _) d_Ma_reckon_6 hsz hP hS) (fun r4 σ3 _ => ?_)
  refine v_istore_nP S d_Ma_reckon_9 rfl (by decide) (L2 := [some (.ref (b + (19 + 2 * i0))), some (.ref (ax 0 o1)), some (.int r2), some (.int r4)]) rfl ?_
  refine v_aload_n S d_Ma_reckon_10 rfl rfl ?_
  refine v_iconst S d_Ma_reckon_11 (v := (1 : Int32)) (by decide) ?_
  refine v_aload_n S d_Ma_reckon_12 rfl rfl ?_
  refine v_iload_n S d_Ma_reckon_13 rfl rfl ?_
  refine v_iload_n S d_Ma_reckon_14 rfl rfl ?_
  refine v_ci (rest := [.int (1 : Int32), .ref (b + (19 + 2 * i0))]) (fun _ _ hg H locs ls hsz hP hS => run_S (As := [.ref (ax 0 o1), .int r4, .int r2]) (rest := [.int (1 : Int32), .ref (b + (19 + 2 * i0))]) S kC_ok hKK (c_Ma_reckoned l D ca ax b σ3 o1 r4 r2 ho1 hg) (k_Ma_200 S.2.2.2.2 (fun _ => List.mem_cons_of_mem _) ⟨Nat.le_of_ble_eq_true rfl, Nat.le_of_ble_eq_true rfl⟩) rfl rfl (by simp [Value.category]) d_Ma_reckon_15 hsz hP hS) (fun r6 σ5 _ => ?_)
  refine v_cv (rest := []) (fun _ hg H locs ls hsz hP hS => run_V (As := [.int (1 : Int32), .int r6]) (rest := []) S kC_ok hKK (c_Fr_push l D ca ax b σ5 i0 (1 : Int32) r6 hi0 hg) (k_Ma_204 S.2.2.2.2 (fun _ => List.mem_cons_of_mem _) ⟨Nat.le_of_ble_eq_true rfl, Nat.le_of_ble_eq_true rfl⟩) (rc_w hKK.1 hP (19 + 2 * i0) (fr_lt hi0) (ce_fr hi0) rfl) rfl rfl (Nat.zero_le _) d_Ma_reckon_18 hsz hP hS) (fun σ7 _ => ?_)
  exact v_vret S hret hlocks d_Ma_reckon_21
def fn_Ma_makeArray_13 (a0 : Int32) : Nat → mm_M → Int32 → Int32 → Option (Int32 × mm_M)
  | 0, _, _, _ => none
  | n + 1, σ, l2, l3 =>
    (if a0 ≤ l3 then
    (nm (mw σ 16 1 ((σ 16 1) + a0)) (fun σ3 =>
    (some (l2, σ3))))
    else
    (if (((σ 16 1) + l3) < 0 ∨ 30 ≤ ((σ 16 1) + l3).toNatClampNeg) then none else (nm (mw σ 17 ((σ 16 1) + l3).toNatClampNeg (0 : Int32)) (fun σ5 =>
    (fn_Ma_makeArray_13 a0 n σ5 l2 (l3 + (1 : Int32)))))))
def fn_Ma_makeArray (σ : mm_M) (a0 : Int32) : Option (Int32 × mm_M) :=
    (nm (((1 : Int32) + ((σ 16 1) <<< ((4 : Int32) &&& 31))) + a0) (fun x1 =>
    (fn_Ma_makeArray_13 a0 fuel0 σ x1 (0 : Int32))))
set_option maxRecDepth 100000 in
set_option maxHeartbeats 40000000 in
theorem c_Ma_makeArray (l : Launch) (D : va_G) (ca : Nat → ClassId) (ax : Nat → Nat → Nat) (b : Nat) (σ : mm_M) (a0 : Int32)  {r : Int32} {σ' : mm_M} (hf : fn_Ma_makeArray σ a0 = some (r, σ')) : Met l y_Ma_makeArray w_Ma_makeArray rm_Ma_makeArray (pc_w D cls b N_C (ce_C ca b) (kC D ca ax b) [.ref (b + 16), .int a0] σ) (qc_i D cls b N_C (ce_C ca b) r σ') 0 0 (mm_A b N_C) := by
  refine vv_go (cc := b_Ma_makeArray) (maxL := 4) (ret := (some .int)) (fin := (r, σ')) (k := fn_Ma_makeArray σ a0) (by decide) rfl (by simp [Value.category]) (Nat.le_of_ble_eq_true rfl) hf ?_
  intro p e s m below meth c hlocks hret S hKK
  have C13 : ∀ (n : Nat) (σ : mm_M) (l2 : Int32) (l3 : Int32), vv p l e (headSpec w_Ma_makeArray rm_Ma_makeArray).room s m [.ref (b + 16), .int a0].toArray below meth c D cls b N_C (ce_C ca b) 4 (MQ below (qc_i D cls b N_C (ce_C ca b) r σ') [.ref (b + 16), .int a0].toArray s 0 0 (mm_A b N_C)) (r, σ') (fn_Ma_makeArray_13 a0 n σ l2 l3) σ 13 [some (.ref (b + 16)), some (.int a0), some (.int l2), some (.int l3)] [] := by
    intro n
    induction n with
    | zero => intro σ l2 l3  h; cases h
    | succ n ih =>
      intro σ l2 l3
      show vv p l e (headSpec w_Ma_makeArray rm_Ma_makeArray).room s m [.ref (b + 16), .int a0].toArray below meth c D cls b N_C (ce_C ca b) 4 (MQ below (qc_i D cls b N_C (ce_C ca b) r σ') [.ref (b + 16), .int a0].toArray s 0 0 (mm_A b N_C)) (r, σ') (        (if a0 ≤ l3 then
        (nm (mw σ 16 1 ((σ 16 1) + a0)) (fun σ3 =>
        (some (l2, σ3))))
        else
        (if (((σ 16 1) + l3) < 0 ∨ 30 ≤ ((σ 16 1) + l3).toNatClampNeg) then none else (nm (mw σ 17 ((σ 16 1) + l3).toNatClampNeg (0 : Int32)) (fun σ5 =>
        (fn_Ma_makeArray_13 a0 n σ5 l2 (l3 + (1 : Int32)))))))) σ 13 [some (.ref (b + 16)), some (.int a0), some (.int l2), some (.int l3)] []
      refine v_iload_n S d_Ma_makeArray_13 rfl rfl ?_
      refine v_iload_n S d_Ma_makeArray_14 rfl rfl ?_
      refine v_icmp_ge S d_Ma_makeArray_15 (tgt := 36) (by decide) (fun h2 => ?_) (fun h2 => ?_)
      · refine v_aload_n S d_Ma_makeArray_36 rfl rfl ?_
        refine v_dup S d_Ma_makeArray_37 rfl ?_
        refine v_get S (fun w h => List.mem_cons_of_mem _ (i_Ma w h)) hKK.1 16 (by decide) rfl rfl 1 (by decide) (S.2.2.2.2 _ (List.mem_cons_of_mem _ (wd_123))) (fun _ h => h) rfl d_Ma_makeArray_38 ?_
        refine v_iload_n S d_Ma_makeArray_41 rfl rfl ?_
        refine v_iadd S d_Ma_makeArray_42 ?_
        refine v_puti S (fun w h => List.mem_cons_of_mem _ (i_Ma w h)) hKK.1 16 (by decide) rfl rfl 1 (by decide) (S.2.2.2.2 _ (List.mem_cons_of_mem _ (wd_123))) (fun _ h => h) t_Ma t_Ma_ok n_Ma rfl (ty := .int) rfl rfl rfl (Nat.le_of_ble_eq_true rfl) rfl d_Ma_makeArray_43 ?_
        refine v_sg (fun σ3 eσ3 => ?_)
        refine v_iload_n S d_Ma_makeArray_46 rfl rfl ?_
        exact v_iret S hret hlocks d_Ma_makeArray_47
      · refine v_aload_n S d_Ma_makeArray_18 rfl rfl ?_
        refine v_get S (fun w h => List.mem_cons_of_mem _ (i_Ma w h)) hKK.1 16 (by decide) rfl rfl 5 (by decide) (S.2.2.2.2 _ (List.mem_cons_of_mem _ (wd_129))) (fun _ h => h) rfl d_Ma_makeArray_19 ?_
        refine v_aload_n S d_Ma_makeArray_22 rfl rfl ?_
        refine v_get S (fun w h => List.mem_cons_of_mem _ (i_Ma w h)) hKK.1 16 (by decide) rfl rfl 1 (by decide) (S.2.2.2.2 _ (List.mem_cons_of_mem _ (wd_123))) (fun _ h => h) rfl d_Ma_makeArray_23 ?_
        refine v_iload_n S d_Ma_makeArray_26 rfl rfl ?_
        refine v_iadd S d_Ma_makeArray_27 ?_
        refine v_iconst S d_Ma_makeArray_28 (v := (0 : Int32)) (by decide) ?_
        refine v_iast1 S hKK.1 17 0 (by decide) (fun _ => rfl) rfl d_Ma_makeArray_29 (fun h4 => ?_)
        refine v_sg (fun σ5 eσ5 => ?_)
        refine v_iinc S d_Ma_makeArray_30 rfl (v := (l3 + (1 : Int32))) (by first | rfl | decide) (by decide) (L2 := [some (.ref (b + 16)), some (.int a0), some (.int l2), some (.int (l3 + (1 : Int32)))]) rfl ?_
        refine v_goto S d_Ma_makeArray_33 (tgt := 13) (by decide) ?_
        refine v_sub (L2 := [some (.ref (b + 16)), some (.int a0), some (.int l2), some (.int (l3 + (1 : Int32)))]) (And.intro rfl (And.intro rfl (And.intro rfl (And.intro rfl True.intro)))) ?_
        exact ih σ5 l2 (l3 + (1 : Int32))
  unfold fn_Ma_makeArray
  refine v_iconst S d_Ma_makeArray_0 (v := (1 : Int32)) (by decide) ?_
  refine v_aload_n S d_Ma_makeArray_1 rfl rfl ?_
  refine v_get S (fun w h => List.mem_cons_of_mem _ (i_Ma w h)) hKK.1 16 (by decide) rfl rfl 1 (by decide) (S.2.2.2.2 _ (List.mem_cons_of_mem _ (wd_123))) (fun _ h => h) rfl d_Ma_makeArray_2 ?_
  refine v_iconst S d_Ma_makeArray_5 (v := (4 : Int32)) (by decide) ?_
  refine v_ishl S d_Ma_makeArray_6 ?_
  refine v_iadd S d_Ma_makeArray_7 ?_
  refine v_iload_n S d_Ma_makeArray_8 rfl rfl ?_
  refine v_iadd S d_Ma_makeArray_9 ?_
  refine v_top (fun x1 ex1 => ?_)
  refine v_istore_nP S d_Ma_makeArray_10 rfl (by decide) (L2 := [some (.ref (b + 16)), some (.int a0), some (.int x1)]) rfl ?_
  refine v_iconst S d_Ma_makeArray_11 (v := (0 : Int32)) (by decide) ?_
  refine v_istore_nP S d_Ma_makeArray_12 rfl (by decide) (L2 := [some (.ref (b + 16)), some (.int a0), some (.int x1), some (.int (0 : Int32))]) rfl ?_
  refine v_sub (L2 := [some (.ref (b + 16)), some (.int a0), some (.int x1), some (.int (0 : Int32))]) (And.intro rfl (And.intro rfl (And.intro rfl (And.intro rfl True.intro)))) ?_
  exact C13 fuel0 σ x1 (0 : Int32)
def fn_Ma_placeOf (σ : mm_M) (a0 : Int32) (a1 : Int32) : Option (Int32 × mm_M) :=
    (some ((((a0 - (1 : Int32)) >>> ((4 : Int32) &&& 31)) + a1), σ))
set_option maxRecDepth 100000 in
set_option maxHeartbeats 40000000 in
theorem c_Ma_placeOf (l : Launch) (D : va_G) (ca : Nat → ClassId) (ax : Nat → Nat → Nat) (b : Nat) (σ : mm_M) (a0 : Int32) (a1 : Int32)  {r : Int32} {σ' : mm_M} (hf : fn_Ma_placeOf σ a0 a1 = some (r, σ')) : Met l y_Ma_placeOf w_Ma_placeOf rm_Ma_placeOf (pc_w D cls b N_C (ce_C ca b) (kC D ca ax b) [.int a0, .int a1] σ) (qc_i D cls b N_C (ce_C ca b) r σ') 0 0 (mm_A b N_C) := by
  refine vv_go (cc := b_Ma_placeOf) (maxL := 2) (ret := (some .int)) (fin := (r, σ')) (k := fn_Ma_placeOf σ a0 a1) (by decide) rfl (by simp [Value.category]) (Nat.le_of_ble_eq_true rfl) hf ?_
  intro p e s m below meth c hlocks hret S hKK
  unfold fn_Ma_placeOf
  refine v_iload_n S d_Ma_placeOf_0 rfl rfl ?_
  refine v_iconst S d_Ma_placeOf_1 (v := (1 : Int32)) (by decide) ?_
  refine v_isub S d_Ma_placeOf_2 ?_
  refine v_iconst S d_Ma_placeOf_3 (v := (4 : Int32)) (by decide) ?_
  refine v_ishr S d_Ma_placeOf_4 ?_
  refine v_iload_n S d_Ma_placeOf_5 rfl rfl ?_
  refine v_iadd S d_Ma_placeOf_6 ?_
  exact v_iret S hret hlocks d_Ma_placeOf_7

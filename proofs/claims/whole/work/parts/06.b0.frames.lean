/-! contracts of 06.frames; written by wip/whole/make.py -/
def fn_Fr_open (σ : mm_M) (i : Nat) (a0 : Int32) (a1 : Int32) (a2 : Int32) : Option (mm_M) :=
    (nm (mw σ (19 + 2 * i) 0 a0) (fun σ1 =>
    (nm (mw σ1 (19 + 2 * i) 1 a1) (fun σ2 =>
    (nm (mw σ2 (19 + 2 * i) 2 a2) (fun σ3 =>
    (some σ3)))))))
set_option maxRecDepth 100000 in
set_option maxHeartbeats 40000000 in
theorem c_Fr_open (l : Launch) (D : va_G) (ca : Nat → ClassId) (ax : Nat → Nat → Nat) (b : Nat) (σ : mm_M) (i : Nat) (a0 : Int32) (a1 : Int32) (a2 : Int32) (hi : i < 8) {σ' : mm_M} (hf : fn_Fr_open σ i a0 a1 a2 = some σ') : Met l y_Fr_open w_Fr_open rm_Fr_open (pc_w D cls b N_C (ce_C ca b) (kC D ca ax b) [.ref (b + (19 + 2 * i)), .int a0, .int a1, .int a2] σ) (qc_v D cls b N_C (ce_C ca b) σ') 0 0 (mm_A b N_C) := by
  refine vv_go (cc := b_Fr_open) (maxL := 4) (ret := none) (fin := σ') (k := fn_Fr_open σ i a0 a1 a2) (by decide) rfl (by simp [Value.category]) (Nat.le_of_ble_eq_true rfl) hf ?_
  intro p e s m below meth c hlocks hret S hKK
  unfold fn_Fr_open
  refine v_aload_n S d_Fr_open_0 rfl rfl ?_
  refine v_iload_n S d_Fr_open_1 rfl rfl ?_
  refine v_puti S (fun w h => List.mem_cons_of_mem _ (i_Fr w h)) hKK.1 (19 + 2 * i) (fr_lt hi) (ce_fr hi) rfl 0 (by decide) (S.2.2.2.2 _ (List.mem_cons_of_mem _ (wd_103))) (fun _ h => h) t_Fr t_Fr_ok n_Fr rfl (ty := .int) rfl rfl rfl (Nat.le_of_ble_eq_true rfl) (ce_frP hi 0 (by decide)) d_Fr_open_2 ?_
  refine v_sg (fun σ1 eσ1 => ?_)
  refine v_aload_n S d_Fr_open_5 rfl rfl ?_
  refine v_iload_n S d_Fr_open_6 rfl rfl ?_
  refine v_puti S (fun w h => List.mem_cons_of_mem _ (i_Fr w h)) hKK.1 (19 + 2 * i) (fr_lt hi) (ce_fr hi) rfl 1 (by decide) (S.2.2.2.2 _ (List.mem_cons_of_mem _ (wd_105))) (fun _ h => h) t_Fr t_Fr_ok n_Fr rfl (ty := .int) rfl rfl rfl (Nat.le_of_ble_eq_true rfl) (ce_frP hi 1 (by decide)) d_Fr_open_7 ?_
  refine v_sg (fun σ2 eσ2 => ?_)
  refine v_aload_n S d_Fr_open_10 rfl rfl ?_
  refine v_iload_n S d_Fr_open_11 rfl rfl ?_
  refine v_puti S (fun w h => List.mem_cons_of_mem _ (i_Fr w h)) hKK.1 (19 + 2 * i) (fr_lt hi) (ce_fr hi) rfl 2 (by decide) (S.2.2.2.2 _ (List.mem_cons_of_mem _ (wd_108))) (fun _ h => h) t_Fr t_Fr_ok n_Fr rfl (ty := .int) rfl rfl rfl (Nat.le_of_ble_eq_true rfl) (ce_frP hi 2 (by decide)) d_Fr_open_12 ?_
  refine v_sg (fun σ3 eσ3 => ?_)
  exact v_vret S hret hlocks d_Fr_open_15
def fn_Fr_setParameter (σ : mm_M) (i : Nat) (a0 : Int32) (a1 : Int32) : Option (mm_M) :=
    (if (a0 < 0 ∨ 12 ≤ a0.toNatClampNeg) then none else (nm (mw σ (20 + 2 * i) a0.toNatClampNeg a1) (fun σ2 =>
    (some σ2))))
set_option maxRecDepth 100000 in
set_option maxHeartbeats 40000000 in
theorem c_Fr_setParameter (l : Launch) (D : va_G) (ca : Nat → ClassId) (ax : Nat → Nat → Nat) (b : Nat) (σ : mm_M) (i : Nat) (a0 : Int32) (a1 : Int32) (hi : i < 8) {σ' : mm_M} (hf : fn_Fr_setParameter σ i a0 a1 = some σ') : Met l y_Fr_setParameter w_Fr_setParameter rm_Fr_setParameter (pc_w D cls b N_C (ce_C ca b) (kC D ca ax b) [.ref (b + (19 + 2 * i)), .int a0, .int a1] σ) (qc_v D cls b N_C (ce_C ca b) σ') 0 0 (mm_A b N_C) := by
  refine vv_go (cc := b_Fr_setParameter) (maxL := 3) (ret := none) (fin := σ') (k := fn_Fr_setParameter σ i a0 a1) (by decide) rfl (by simp [Value.category]) (Nat.le_of_ble_eq_true rfl) hf ?_
  intro p e s m below meth c hlocks hret S hKK
  unfold fn_Fr_setParameter
  refine v_aload_n S d_Fr_setParameter_0 rfl rfl ?_
  refine v_get S (fun w h => List.mem_cons_of_mem _ (i_Fr w h)) hKK.1 (19 + 2 * i) (fr_lt hi) (ce_fr hi) rfl 3 (by decide) (S.2.2.2.2 _ (List.mem_cons_of_mem _ (wd_111))) (fun _ h => h) rfl d_Fr_setParameter_1 ?_
  refine v_iload_n S d_Fr_setParameter_4 rfl rfl ?_
  refine v_iload_n S d_Fr_setParameter_5 rfl rfl ?_
  refine v_iast1 S hKK.1 (20 + 2 * i) 0 (vl_lt hi) (ce_vlA hi) rfl d_Fr_setParameter_6 (fun h1 => ?_)
  refine v_sg (fun σ2 eσ2 => ?_)
  exact v_vret S hret hlocks d_Fr_setParameter_7
def fn_Fr_typeBelow (σ : mm_M) (i : Nat) (a0 : Int32) : Option (Int32 × mm_M) :=
    (bd (fn_Ty_below σ (σ (19 + 2 * i) 2) a0) (fun r2 σ1 =>
    (some (r2, σ1))))
set_option maxRecDepth 100000 in
set_option maxHeartbeats 40000000 in
theorem c_Fr_typeBelow (l : Launch) (D : va_G) (ca : Nat → ClassId) (ax : Nat → Nat → Nat) (b : Nat) (σ : mm_M) (i : Nat) (a0 : Int32) (hi : i < 8) {r : Int32} {σ' : mm_M} (hf : fn_Fr_typeBelow σ i a0 = some (r, σ')) : Met l y_Fr_typeBelow w_Fr_typeBelow rm_Fr_typeBelow (pc_w D cls b N_C (ce_C ca b) (kC D ca ax b) [.ref (b + (19 + 2 * i)), .int a0] σ) (qc_i D cls b N_C (ce_C ca b) r σ') 0 0 (mm_A b N_C) := by
  refine vv_go (cc := b_Fr_typeBelow) (maxL := 2) (ret := (some .int)) (fin := (r, σ')) (k := fn_Fr_typeBelow σ i a0) (by decide) rfl (by simp [Value.category]) (Nat.le_of_ble_eq_true rfl) hf ?_
  intro p e s m below meth c hlocks hret S hKK
  unfold fn_Fr_typeBelow
  refine v_aload_n S d_Fr_typeBelow_0 rfl rfl ?_
  refine v_get S (fun w h => List.mem_cons_of_mem _ (i_Fr w h)) hKK.1 (19 + 2 * i) (fr_lt hi) (ce_fr hi) rfl 2 (by decide) (S.2.2.2.2 _ (List.mem_cons_of_mem _ (wd_108))) (fun _ h => h) rfl d_Fr_typeBelow_1 ?_
  refine v_iload_n S d_Fr_typeBelow_4 rfl rfl ?_
  refine v_ci (rest := []) (fun _ _ hg H locs ls hsz hP hS => run_S (As := [.int (σ (19 + 2 * i) 2), .int a0]) (rest := []) S kC_ok hKK (c_Ty_below l D ca ax b σ (σ (19 + 2 * i) 2) a0 hg) (k_Fr_27 S.2.2.2.2 (fun _ => List.mem_cons_of_mem _) ⟨Nat.le_of_ble_eq_true rfl, Nat.le_of_ble_eq_true rfl⟩) rfl rfl (Nat.zero_le _) d_Fr_typeBelow_5 hsz hP hS) (fun r2 σ1 _ => ?_)
  exact v_iret S hret hlocks d_Fr_typeBelow_8
def fn_Fr_below (σ : mm_M) (i : Nat) (a0 : Int32) : Option (Int32 × mm_M) :=
    (bd (fn_Ty_slotBelow σ (σ (19 + 2 * i) 2) a0) (fun r2 σ1 =>
    (if (r2 < 0 ∨ 12 ≤ r2.toNatClampNeg) then none else
    (some ((σ1 (20 + 2 * i) r2.toNatClampNeg), σ1)))))
set_option maxRecDepth 100000 in
set_option maxHeartbeats 40000000 in
theorem c_Fr_below (l : Launch) (D : va_G) (ca : Nat → ClassId) (ax : Nat → Nat → Nat) (b : Nat) (σ : mm_M) (i : Nat) (a0 : Int32) (hi : i < 8) {r : Int32} {σ' : mm_M} (hf : fn_Fr_below σ i a0 = some (r, σ')) : Met l y_Fr_below w_Fr_below rm_Fr_below (pc_w D cls b N_C (ce_C ca b) (kC D ca ax b) [.ref (b + (19 + 2 * i)), .int a0] σ) (qc_i D cls b N_C (ce_C ca b) r σ') 0 0 (mm_A b N_C) := by
  refine vv_go (cc := b_Fr_below) (maxL := 2) (ret := (some .int)) (fin := (r, σ')) (k := fn_Fr_below σ i a0) (by decide) rfl (by simp [Value.category]) (Nat.le_of_ble_eq_true rfl) hf ?_
  intro p e s m below meth c hlocks hret S hKK
  unfold fn_Fr_below
  refine v_aload_n S d_Fr_below_0 rfl rfl ?_
  refine v_get S (fun w h => List.mem_cons_of_mem _ (i_Fr w h)) hKK.1 (19 + 2 * i) (fr_lt hi) (ce_fr hi) rfl 3 (by decide) (S.2.2.2.2 _ (List.mem_cons_of_mem _ (wd_111))) (fun _ h => h) rfl d_Fr_below_1 ?_
  refine v_aload_n S d_Fr_below_4 rfl rfl ?_
  refine v_get S (fun w h => List.mem_cons_of_mem _ (i_Fr w h)) hKK.1 (19 + 2 * i) (fr_lt hi) (ce_fr hi) rfl 2 (by decide) (S.2.2.2.2 _ (List.mem_cons_of_mem _ (wd_108))) (fun _ h => h) rfl d_Fr_below_5 ?_
  refine v_iload_n S d_Fr_below_8 rfl rfl ?_
  refine v_ci (rest := [.ref (b + (20 + 2 * i))]) (fun _ _ hg H locs ls hsz hP hS => run_S (As := [.int (σ (19 + 2 * i) 2), .int a0]) (rest := [.ref (b + (20 + 2 * i))]) S kC_ok hKK (c_Ty_slotBelow l D ca ax b σ (σ (19 + 2 * i) 2) a0 hg) (k_Fr_31 S.2.2.2.2 (fun _ => List.mem_cons_of_mem _) ⟨Nat.le_of_ble_eq_true rfl, Nat.le_of_ble_eq_true rfl⟩) rfl rfl (by simp [Value.category]) d_Fr_below_9 hsz hP hS) (fun r2 σ1 _ => ?_)
  refine v_iald S hKK.1 (20 + 2 * i) 0 (vl_lt hi) (ce_vl hi) rfl d_Fr_below_12 (fun h3 => ?_)
  exact v_iret S hret hlocks d_Fr_below_13
def fn_Fr_push (σ : mm_M) (i : Nat) (a0 : Int32) (a1 : Int32) : Option (mm_M) :=
    (bd (fn_Ty_pushed σ (σ (19 + 2 * i) 2) a0) (fun r2 σ1 =>
    (nm (mw σ1 (19 + 2 * i) 2 r2) (fun σ3 =>
    (bd (fn_Ty_slotBelow σ3 (σ3 (19 + 2 * i) 2) (0 : Int32)) (fun r5 σ4 =>
    (if (r5 < 0 ∨ 12 ≤ r5.toNatClampNeg) then none else (nm (mw σ4 (20 + 2 * i) r5.toNatClampNeg a1) (fun σ7 =>
    (some σ7))))))))))
set_option maxRecDepth 100000 in
set_option maxHeartbeats 40000000 in
theorem c_Fr_push (l : Launch) (D : va_G) (ca : Nat → ClassId) (ax : Nat → Nat → Nat) (b : Nat) (σ : mm_M) (i : Nat) (a0 : Int32) (a1 : Int32) (hi : i < 8) {σ' : mm_M} (hf : fn_Fr_push σ i a0 a1 = some σ') : Met l y_Fr_push w_Fr_push rm_Fr_push (pc_w D cls b N_C (ce_C ca b) (kC D ca ax b) [.ref (b + (19 + 2 * i)), .int a0, .int a1] σ) (qc_v D cls b N_C (ce_C ca b) σ') 0 0 (mm_A b N_C) := by
  refine vv_go (cc := b_Fr_push) (maxL := 3) (ret := none) (fin := σ') (k := fn_Fr_push σ i a0 a1) (by decide) rfl (by simp [Value.category]) (Nat.le_of_ble_eq_true rfl) hf ?_
  intro p e s m below meth c hlocks hret S hKK
  unfold fn_Fr_push
  refine v_aload_n S d_Fr_push_0 rfl rfl ?_
  refine v_aload_n S d_Fr_push_1 rfl rfl ?_
  refine v_get S (fun w h => List.mem_cons_of_mem _ (i_Fr w h)) hKK.1 (19 + 2 * i) (fr_lt hi) (ce_fr hi) rfl 2 (by decide) (S.2.2.2.2 _ (List.mem_cons_of_mem _ (wd_108))) (fun _ h => h) rfl d_Fr_push_2 ?_
  refine v_iload_n S d_Fr_push_5 rfl rfl ?_
  refine v_ci (rest := [.ref (b + (19 + 2 * i))]) (fun _ _ hg H locs ls hsz hP hS => run_S (As := [.int (σ (19 + 2 * i) 2), .int a0]) (rest := [.ref (b + (19 + 2 * i))]) S kC_ok hKK (c_Ty_pushed l D ca ax b σ (σ (19 + 2 * i) 2) a0 hg) (k_Fr_34 S.2.2.2.2 (fun _ => List.mem_cons_of_mem _) ⟨Nat.le_of_ble_eq_true rfl, Nat.le_of_ble_eq_true rfl⟩) rfl rfl (by simp [Value.category]) d_Fr_push_6 hsz hP hS) (fun r2 σ1 _ => ?_)
  refine v_puti S (fun w h => List.mem_cons_of_mem _ (i_Fr w h)) hKK.1 (19 + 2 * i) (fr_lt hi) (ce_fr hi) rfl 2 (by decide) (S.2.2.2.2 _ (List.mem_cons_of_mem _ (wd_108))) (fun _ h => h) t_Fr t_Fr_ok n_Fr rfl (ty := .int) rfl rfl rfl (Nat.le_of_ble_eq_true rfl) (ce_frP hi 2 (by decide)) d_Fr_push_9 ?_
  refine v_sg (fun σ3 eσ3 => ?_)
  refine v_aload_n S d_Fr_push_12 rfl rfl ?_
  refine v_get S (fun w h => List.mem_cons_of_mem _ (i_Fr w h)) hKK.1 (19 + 2 * i) (fr_lt hi) (ce_fr hi) rfl 3 (by decide) (S.2.2.2.2 _ (List.mem_cons_of_mem _ (wd_111))) (fun _ h => h) rfl d_Fr_push_13 ?_
  refine v_aload_n S d_Fr_push_16 rfl rfl ?_
  refine v_get S (fun w h => List.mem_cons_of_mem _ (i_Fr w h)) hKK.1 (19 + 2 * i) (fr_lt hi) (ce_fr hi) rfl 2 (by decide) (S.2.2.2.2 _ (List.mem_cons_of_mem _ (wd_108))) (fun _ h => h) rfl d_Fr_push_17 ?_
  refine v_iconst S d_Fr_push_20 (v := (0 : Int32)) (by decide) ?_
  refine v_ci (rest := [.ref (b + (20 + 2 * i))]) (fun _ _ hg H locs ls hsz hP hS => run_S (As := [.int (σ3 (19 + 2 * i) 2), .int (0 : Int32)]) (rest := [.ref (b + (20 + 2 * i))]) S kC_ok hKK (c_Ty_slotBelow l D ca ax b σ3 (σ3 (19 + 2 * i) 2) (0 : Int32) hg) (k_Fr_31 S.2.2.2.2 (fun _ => List.mem_cons_of_mem _) ⟨Nat.le_of_ble_eq_true rfl, Nat.le_of_ble_eq_true rfl⟩) rfl rfl (by simp [Value.category]) d_Fr_push_21 hsz hP hS) (fun r5 σ4 _ => ?_)
  refine v_iload_n S d_Fr_push_24 rfl rfl ?_
  refine v_iast1 S hKK.1 (20 + 2 * i) 0 (vl_lt hi) (ce_vlA hi) rfl d_Fr_push_25 (fun h6 => ?_)
  refine v_sg (fun σ7 eσ7 => ?_)
  exact v_vret S hret hlocks d_Fr_push_26
def fn_Fr_pop (σ : mm_M) (i : Nat) : Option (Int32 × mm_M) :=
    (bd (fn_Fr_below σ i (0 : Int32)) (fun r2 σ1 =>
    (bd (fn_Ty_dropped σ1 (σ1 (19 + 2 * i) 2) (1 : Int32)) (fun r4 σ3 =>
    (nm (mw σ3 (19 + 2 * i) 2 r4) (fun σ5 =>
    (some (r2, σ5))))))))
set_option maxRecDepth 100000 in
set_option maxHeartbeats 40000000 in
theorem c_Fr_pop (l : Launch) (D : va_G) (ca : Nat → ClassId) (ax : Nat → Nat → Nat) (b : Nat) (σ : mm_M) (i : Nat) (hi : i < 8) {r : Int32} {σ' : mm_M} (hf : fn_Fr_pop σ i = some (r, σ')) : Met l y_Fr_pop w_Fr_pop rm_Fr_pop (pc_w D cls b N_C (ce_C ca b) (kC D ca ax b) [.ref (b + (19 + 2 * i))] σ) (qc_i D cls b N_C (ce_C ca b) r σ') 0 0 (mm_A b N_C) := by
  refine vv_go (cc := b_Fr_pop) (maxL := 2) (ret := (some .int)) (fin := (r, σ')) (k := fn_Fr_pop σ i) (by decide) rfl (by simp [Value.category]) (Nat.le_of_ble_eq_true rfl) hf ?_
  intro p e s m below meth c hlocks hret S hKK
  unfold fn_Fr_pop
  refine v_aload_n S d_Fr_pop_0 rfl rfl ?_
  refine v_iconst S d_Fr_pop_1 (v := (0 : Int32)) (by decide) ?_
  refine v_ci (rest := []) (fun _ _ hg H locs ls hsz hP hS => run_V (As := [.int (0 : Int32)]) (rest := []) S kC_ok hKK (c_Fr_below l D ca ax b σ i (0 : Int32) hi hg) (k_Fr_37 S.2.2.2.2 (fun _ => List.mem_cons_of_mem _) ⟨Nat.le_of_ble_eq_true rfl, Nat.le_of_ble_eq_true rfl⟩) (rc_w hKK.1 hP (19 + 2 * i) (fr_lt hi) (ce_fr hi) rfl) rfl rfl (Nat.zero_le _) d_Fr_pop_2 hsz hP hS) (fun r2 σ1 _ => ?_)
  refine v_istore_nP S d_Fr_pop_5 rfl (by decide) (L2 := [some (.ref (b + (19 + 2 * i))), some (.int r2)]) rfl ?_
  refine v_aload_n S d_Fr_pop_6 rfl rfl ?_
  refine v_aload_n S d_Fr_pop_7 rfl rfl ?_
  refine v_get S (fun w h => List.mem_cons_of_mem _ (i_Fr w h)) hKK.1 (19 + 2 * i) (fr_lt hi) (ce_fr hi) rfl 2 (by decide) (S.2.2.2.2 _ (List.mem_cons_of_mem _ (wd_108))) (fun _ h => h) rfl d_Fr_pop_8 ?_
  refine v_iconst S d_Fr_pop_11 (v := (1 : Int32)) (by decide) ?_
  refine v_ci (rest := [.ref (b + (19 + 2 * i))]) (fun _ _ hg H locs ls hsz hP hS => run_S (As := [.int (σ1 (19 + 2 * i) 2), .int (1 : Int32)]) (rest := [.ref (b + (19 + 2 * i))]) S kC_ok hKK (c_Ty_dropped l D ca ax b σ1 (σ1 (19 + 2 * i) 2) (1 : Int32) hg) (k_Fr_40 S.2.2.2.2 (fun _ => List.mem_cons_of_mem _) ⟨Nat.le_of_ble_eq_true rfl, Nat.le_of_ble_eq_true rfl⟩) rfl rfl (by simp [Value.category]) d_Fr_pop_12 hsz hP hS) (fun r4 σ3 _ => ?_)
  refine v_puti S (fun w h => List.mem_cons_of_mem _ (i_Fr w h)) hKK.1 (19 + 2 * i) (fr_lt hi) (ce_fr hi) rfl 2 (by decide) (S.2.2.2.2 _ (List.mem_cons_of_mem _ (wd_108))) (fun _ h => h) t_Fr t_Fr_ok n_Fr rfl (ty := .int) rfl rfl rfl (Nat.le_of_ble_eq_true rfl) (ce_frP hi 2 (by decide)) d_Fr_pop_15 ?_
  refine v_sg (fun σ5 eσ5 => ?_)
  refine v_iload_n S d_Fr_pop_18 rfl rfl ?_
  exact v_iret S hret hlocks d_Fr_pop_19
def fn_Fr_load (σ : mm_M) (i : Nat) (a0 : Int32) : Option (mm_M) :=
    (bd (fn_Ty_at σ (σ (19 + 2 * i) 2) a0) (fun r2 σ1 =>
    (if (a0 < 0 ∨ 12 ≤ a0.toNatClampNeg) then none else
    (bv (fn_Fr_push σ1 i r2 (σ1 (20 + 2 * i) a0.toNatClampNeg)) (fun σ4 =>
    (some σ4))))))
set_option maxRecDepth 100000 in
set_option maxHeartbeats 40000000 in
theorem c_Fr_load (l : Launch) (D : va_G) (ca : Nat → ClassId) (ax : Nat → Nat → Nat) (b : Nat) (σ : mm_M) (i : Nat) (a0 : Int32) (hi : i < 8) {σ' : mm_M} (hf : fn_Fr_load σ i a0 = some σ') : Met l y_Fr_load w_Fr_load rm_Fr_load (pc_w D cls b N_C (ce_C ca b) (kC D ca ax b) [.ref (b + (19 + 2 * i)), .int a0] σ) (qc_v D cls b N_C (ce_C ca b) σ') 0 0 (mm_A b N_C) := by
  refine vv_go (cc := b_Fr_load) (maxL := 2) (ret := none) (fin := σ') (k := fn_Fr_load σ i a0) (by decide) rfl (by simp [Value.category]) (Nat.le_of_ble_eq_true rfl) hf ?_
  intro p e s m below meth c hlocks hret S hKK
  unfold fn_Fr_load
  refine v_aload_n S d_Fr_load_0 rfl rfl ?_
  refine v_aload_n S d_Fr_load_1 rfl rfl ?_
  refine v_get S (fun w h => List.mem_cons_of_mem _ (i_Fr w h)) hKK.1 (19 + 2 * i) (fr_lt hi) (ce_fr hi) rfl 2 (by decide) (S.2.2.2.2 _ (List.mem_cons_of_mem _ (wd_108))) (fun _ h => h) rfl d_Fr_load_2 ?_
  refine v_iload_n S d_Fr_load_5 rfl rfl ?_
  refine v_ci (rest := [.ref (b + (19 + 2 * i))]) (fun _ _ hg H locs ls hsz hP hS => run_S (As := [.int (σ (19 + 2 * i) 2), .int a0]) (rest := [.ref (b + (19 + 2 * i))]) S kC_ok hKK (c_Ty_at l D ca ax b σ (σ (19 + 2 * i) 2) a0 hg) (k_Fr_43 S.2.2.2.2 (fun _ => List.mem_cons_of_mem _) ⟨Nat.le_of_ble_eq_true rfl, Nat.le_of_ble_eq_true rfl⟩) rfl rfl (by simp [Value.category]) d_Fr_load_6 hsz hP hS) (fun r2 σ1 _ => ?_)
  refine v_aload_n S d_Fr_load_9 rfl rfl ?_
  refine v_get S (fun w h => List.mem_cons_of_mem _ (i_Fr w h)) hKK.1 (19 + 2 * i) (fr_lt hi) (ce_fr hi) rfl 3 (by decide) (S.2.2.2.2 _ (List.mem_cons_of_mem _ (wd_111))) (fun _ h => h) rfl d_Fr_load_10 ?_
  refine v_iload_n S d_Fr_load_13 rfl rfl ?_
  refine v_iald S hKK.1 (20 + 2 * i) 0 (vl_lt hi) (ce_vl hi) rfl d_Fr_load_14 (fun h3 => ?_)
  refine v_cv (rest := []) (fun _ hg H locs ls hsz hP hS => run_V (As := [.int r2, .int (σ1 (20 + 2 * i) a0.toNatClampNeg)]) (rest := []) S kC_ok hKK (c_Fr_push l D ca ax b σ1 i r2 (σ1 (20 + 2 * i) a0.toNatClampNeg) hi hg) (k_Fr_46 S.2.2.2.2 (fun _ => List.mem_cons_of_mem _) ⟨Nat.le_of_ble_eq_true rfl, Nat.le_of_ble_eq_true rfl⟩) (rc_w hKK.1 hP (19 + 2 * i) (fr_lt hi) (ce_fr hi) rfl) rfl rfl (Nat.zero_le _) d_Fr_load_15 hsz hP hS) (fun σ4 _ => ?_)
  exact v_vret S hret hlocks d_Fr_load_18
def fn_Fr_store (σ : mm_M) (i : Nat) (a0 : Int32) : Option (mm_M) :=
    (bd (fn_Fr_typeBelow σ i (0 : Int32)) (fun r2 σ1 =>
    (bd (fn_Fr_pop σ1 i) (fun r4 σ3 =>
    (if (a0 < 0 ∨ 12 ≤ a0.toNatClampNeg) then none else (nm (mw σ3 (20 + 2 * i) a0.toNatClampNeg r4) (fun σ6 =>
    (bd (fn_Ty_with σ6 (σ6 (19 + 2 * i) 2) a0 r2) (fun r8 σ7 =>
    (nm (mw σ7 (19 + 2 * i) 2 r8) (fun σ9 =>
    (some σ9))))))))))))
set_option maxRecDepth 100000 in
set_option maxHeartbeats 40000000 in
theorem c_Fr_store (l : Launch) (D : va_G) (ca : Nat → ClassId) (ax : Nat → Nat → Nat) (b : Nat) (σ : mm_M) (i : Nat) (a0 : Int32) (hi : i < 8) {σ' : mm_M} (hf : fn_Fr_store σ i a0 = some σ') : Met l y_Fr_store w_Fr_store rm_Fr_store (pc_w D cls b N_C (ce_C ca b) (kC D ca ax b) [.ref (b + (19 + 2 * i)), .int a0] σ) (qc_v D cls b N_C (ce_C ca b) σ') 0 0 (mm_A b N_C) := by
  refine vv_go (cc := b_Fr_store) (maxL := 3) (ret := none) (fin := σ') (k := fn_Fr_store σ i a0) (by decide) rfl (by simp [Value.category]) (Nat.le_of_ble_eq_true rfl) hf ?_
  intro p e s m below meth c hlocks hret S hKK
  unfold fn_Fr_store
  refine v_aload_n S d_Fr_store_0 rfl rfl ?_
  refine v_iconst S d_Fr_store_1 (v := (0 : Int32)) (by decide) ?_
  refine v_ci (rest := []) (fun _ _ hg H locs ls hsz hP hS => run_V (As := [.int (0 : Int32)]) (rest := []) S kC_ok hKK (c_Fr_typeBelow l D ca ax b σ i (0 : Int32) hi hg) (k_Fr_50 S.2.2.2.2 (fun _ => List.mem_cons_of_mem _) ⟨Nat.le_of_ble_eq_true rfl, Nat.le_of_ble_eq_true rfl⟩) (rc_w hKK.1 hP (19 + 2 * i) (fr_lt hi) (ce_fr hi) rfl) rfl rfl (Nat.zero_le _) d_Fr_store_2 hsz hP hS) (fun r2 σ1 _ => ?_)
  refine v_istore_nP S d_Fr_store_5 rfl (by decide) (L2 := [some (.ref (b + (19 + 2 * i))), some (.int a0), some (.int r2)]) rfl ?_
  refine v_aload_n S d_Fr_store_6 rfl rfl ?_
  refine v_get S (fun w h => List.mem_cons_of_mem _ (i_Fr w h)) hKK.1 (19 + 2 * i) (fr_lt hi) (ce_fr hi) rfl 3 (by decide) (S.2.2.2.2 _ (List.mem_cons_of_mem _ (wd_111))) (fun _ h => h) rfl d_Fr_store_7 ?_
  refine v_iload_n S d_Fr_store_10 rfl rfl ?_
  refine v_aload_n S d_Fr_store_11 rfl rfl ?_
  refine v_ci (rest := [.int a0, .ref (b + (20 + 2 * i))]) (fun _ _ hg H locs ls hsz hP hS => run_V (As := []) (rest := [.int a0, .ref (b + (20 + 2 * i))]) S kC_ok hKK (c_Fr_pop l D ca ax b σ1 i hi hg) (k_Fr_53 S.2.2.2.2 (fun _ => List.mem_cons_of_mem _) ⟨Nat.le_of_ble_eq_true rfl, Nat.le_of_ble_eq_true rfl⟩) (rc_w hKK.1 hP (19 + 2 * i) (fr_lt hi) (ce_fr hi) rfl) rfl rfl (by simp [Value.category]) d_Fr_store_12 hsz hP hS) (fun r4 σ3 _ => ?_)
  refine v_iast1 S hKK.1 (20 + 2 * i) 0 (vl_lt hi) (ce_vlA hi) rfl d_Fr_store_15 (fun h5 => ?_)
  refine v_sg (fun σ6 eσ6 => ?_)
  refine v_aload_n S d_Fr_store_16 rfl rfl ?_
  refine v_aload_n S d_Fr_store_17 rfl rfl ?_
  refine v_get S (fun w h => List.mem_cons_of_mem _ (i_Fr w h)) hKK.1 (19 + 2 * i) (fr_lt hi) (ce_fr hi) rfl 2 (by decide) (S.2.2.2.2 _ (List.mem_cons_of_mem _ (wd_108))) (fun _ h => h) rfl d_Fr_store_18 ?_
  refine v_iload_n S d_Fr_store_21 rfl rfl ?_
  refine v_iload_n S d_Fr_store_22 rfl rfl ?_
  refine v_ci (rest := [.ref (b + (19 + 2 * i))]) (fun _ _ hg H locs ls hsz hP hS => run_S (As := [.int (σ6 (19 + 2 * i) 2), .int a0, .int r2]) (rest := [.ref (b + (19 + 2 * i))]) S kC_ok hKK (c_Ty_with l D ca ax b σ6 (σ6 (19 + 2 * i) 2) a0 r2 hg) (k_Fr_57 S.2.2.2.2 (fun _ => List.mem_cons_of_mem _) ⟨Nat.le_of_ble_eq_true rfl, Nat.le_of_ble_eq_true rfl⟩) rfl rfl (by simp [Value.category]) d_Fr_store_23 hsz hP hS) (fun r8 σ7 _ => ?_)
  refine v_puti S (fun w h => List.mem_cons_of_mem _ (i_Fr w h)) hKK.1 (19 + 2 * i) (fr_lt hi) (ce_fr hi) rfl 2 (by decide) (S.2.2.2.2 _ (List.mem_cons_of_mem _ (wd_108))) (fun _ h => h) t_Fr t_Fr_ok n_Fr rfl (ty := .int) rfl rfl rfl (Nat.le_of_ble_eq_true rfl) (ce_frP hi 2 (by decide)) d_Fr_store_26 ?_
  refine v_sg (fun σ9 eσ9 => ?_)
  exact v_vret S hret hlocks d_Fr_store_29
def fn_Fr_exchange (σ : mm_M) (i : Nat) : Option (mm_M) :=
    (bd (fn_Fr_typeBelow σ i (0 : Int32)) (fun r2 σ1 =>
    (bd (fn_Fr_pop σ1 i) (fun r4 σ3 =>
    (bd (fn_Fr_typeBelow σ3 i (0 : Int32)) (fun r6 σ5 =>
    (bd (fn_Fr_pop σ5 i) (fun r8 σ7 =>
    (bv (fn_Fr_push σ7 i r2 r4) (fun σ9 =>
    (bv (fn_Fr_push σ9 i r6 r8) (fun σ10 =>
    (some σ10)))))))))))))
set_option maxRecDepth 100000 in
set_option maxHeartbeats 40000000 in
theorem c_Fr_exchange (l : Launch) (D : va_G) (ca : Nat → ClassId) (ax : Nat → Nat → Nat) (b : Nat) (σ : mm_M) (i : Nat) (hi : i < 8) {σ' : mm_M} (hf : fn_Fr_exchange σ i = some σ') : Met l y_Fr_exchange w_Fr_exchange rm_Fr_exchange (pc_w D cls b N_C (ce_C ca b) (kC D ca ax b) [.ref (b + (19 + 2 * i))] σ) (qc_v D cls b N_C (ce_C ca b) σ') 0 0 (mm_A b N_C) := by
  refine vv_go (cc := b_Fr_exchange) (maxL := 5) (ret := none) (fin := σ') (k := fn_Fr_exchange σ i) (by decide) rfl (by simp [Value.category]) (Nat.le_of_ble_eq_true rfl) hf ?_
  intro p e s m below meth c hlocks hret S hKK
  unfold fn_Fr_exchange
  refine v_aload_n S d_Fr_exchange_0 rfl rfl ?_
  refine v_iconst S d_Fr_exchange_1 (v := (0 : Int32)) (by decide) ?_
  refine v_ci (rest := []) (fun _ _ hg H locs ls hsz hP hS => run_V (As := [.int (0 : Int32)]) (rest := []) S kC_ok hKK (c_Fr_typeBelow l D ca ax b σ i (0 : Int32) hi hg) (k_Fr_50 S.2.2.2.2 (fun _ => List.mem_cons_of_mem _) ⟨Nat.le_of_ble_eq_true rfl, Nat.le_of_ble_eq_true rfl⟩) (rc_w hKK.1 hP (19 + 2 * i) (fr_lt hi) (ce_fr hi) rfl) rfl rfl (Nat.zero_le _) d_Fr_exchange_2 hsz hP hS) (fun r2 σ1 _ => ?_)
  refine v_istore_nP S d_Fr_exchange_5 rfl (by decide) (L2 := [some (.ref (b + (19 + 2 * i))), some (.int r2)]) rfl ?_
  refine v_aload_n S d_Fr_exchange_6 rfl rfl ?_
  refine v_ci (rest := []) (fun _ _ hg H locs ls hsz hP hS => run_V (As := []) (rest := []) S kC_ok hKK (c_Fr_pop l D ca ax b σ1 i hi hg) (k_Fr_53 S.2.2.2.2 (fun _ => List.mem_cons_of_mem _) ⟨Nat.le_of_ble_eq_true rfl, Nat.le_of_ble_eq_true rfl⟩) (rc_w hKK.1 hP (19 + 2 * i) (fr_lt hi) (ce_fr hi) rfl) rfl rfl (Nat.zero_le _) d_Fr_exchange_7 hsz hP hS) (fun r4 σ3 _ => ?_)
  refine v_istore_nP S d_Fr_exchange_10 rfl (by decide) (L2 := [some (.ref (b + (19 + 2 * i))), some (.int r2), some (.int r4)]) rfl ?_
  refine v_aload_n S d_Fr_exchange_11 rfl rfl ?_
  refine v_iconst S d_Fr_exchange_12 (v := (0 : Int32)) (by decide) ?_
  refine v_ci (rest := []) (fun _ _ hg H locs ls hsz hP hS => run_V (As := [.int (0 : Int32)]) (rest := []) S kC_ok hKK (c_Fr_typeBelow l D ca ax b σ3 i (0 : Int32) hi hg) (k_Fr_50 S.2.2.2.2 (fun _ => List.mem_cons_of_mem _) ⟨Nat.le_of_ble_eq_true rfl, Nat.le_of_ble_eq_true rfl⟩) (rc_w hKK.1 hP (19 + 2 * i) (fr_lt hi) (ce_fr hi) rfl) rfl rfl (Nat.zero_le _) d_Fr_exchange_13 hsz hP hS) (fun r6 σ5 _ => ?_)
  refine v_istore_nP S d_Fr_exchange_16 rfl (by decide) (L2 := [some (.ref (b + (19 + 2 * i))), some (.int r2), some (.int r4), some (.int r6)]) rfl ?_
  refine v_aload_n S d_Fr_exchange_17 rfl rfl ?_
  refine v_ci (rest := []) (fun _ _ hg H locs ls hsz hP hS => run_V (As := []) (rest := []) S kC_ok hKK (c_Fr_pop l D ca ax b σ5 i hi hg) (k_Fr_53 S.2.2.2.2 (fun _ => List.mem_cons_of_mem _) ⟨Nat.le_of_ble_eq_true rfl, Nat.le_of_ble_eq_true rfl⟩) (rc_w hKK.1 hP (19 + 2 * i) (fr_lt hi) (ce_fr hi) rfl) rfl rfl (Nat.zero_le _) d_Fr_exchange_18 hsz hP hS) (fun r8 σ7 _ => ?_)
  refine v_istoreP S d_Fr_exchange_21 (by decide) (L2 := [some (.ref (b + (19 + 2 * i))), some (.int r2), some (.int r4), some (.int r6), some (.int r8)]) rfl ?_
  refine v_aload_n S d_Fr_exchange_23 rfl rfl ?_
  refine v_iload_n S d_Fr_exchange_24 rfl rfl ?_
  refine v_iload_n S d_Fr_exchange_25 rfl rfl ?_
  refine v_cv (rest := []) (fun _ hg H locs ls hsz hP hS => run_V (As := [.int r2, .int r4]) (rest := []) S kC_ok hKK (c_Fr_push l D ca ax b σ7 i r2 r4 hi hg) (k_Fr_46 S.2.2.2.2 (fun _ => List.mem_cons_of_mem _) ⟨Nat.le_of_ble_eq_true rfl, Nat.le_of_ble_eq_true rfl⟩) (rc_w hKK.1 hP (19 + 2 * i) (fr_lt hi) (ce_fr hi) rfl) rfl rfl (Nat.zero_le _) d_Fr_exchange_26 hsz hP hS) (fun σ9 _ => ?_)
  refine v_aload_n S d_Fr_exchange_29 rfl rfl ?_
  refine v_iload_n S d_Fr_exchange_30 rfl rfl ?_
  refine v_iload S d_Fr_exchange_31 rfl ?_
  refine v_cv (rest := []) (fun _ hg H locs ls hsz hP hS => run_V (As := [.int r6, .int r8]) (rest := []) S kC_ok hKK (c_Fr_push l D ca ax b σ9 i r6 r8 hi hg) (k_Fr_46 S.2.2.2.2 (fun _ => List.mem_cons_of_mem _) ⟨Nat.le_of_ble_eq_true rfl, Nat.le_of_ble_eq_true rfl⟩) (rc_w hKK.1 hP (19 + 2 * i) (fr_lt hi) (ce_fr hi) rfl) rfl rfl (Nat.zero_le _) d_Fr_exchange_33 hsz hP hS) (fun σ10 _ => ?_)
  exact v_vret S hret hlocks d_Fr_exchange_36
def fn_Fr_shown (σ : mm_M) (i : Nat) (a0 : Int32) : Option (Int32 × mm_M) :=
    (bd (fn_Ty_at σ (σ (19 + 2 * i) 2) a0) (fun r2 σ1 =>
    (if r2 = 0 then
    (some ((-1 : Int32), σ1))
    else
    (if r2 = (2 : Int32) then
    (if (a0 < 0 ∨ 12 ≤ a0.toNatClampNeg) then none else
    (if (σ1 (20 + 2 * i) a0.toNatClampNeg) = 0 then
    (if (a0 < 0 ∨ 12 ≤ a0.toNatClampNeg) then none else
    (some ((σ1 (20 + 2 * i) a0.toNatClampNeg), σ1)))
    else
    (some ((1 : Int32), σ1))))
    else
    (if (a0 < 0 ∨ 12 ≤ a0.toNatClampNeg) then none else
    (some ((σ1 (20 + 2 * i) a0.toNatClampNeg), σ1)))))))
set_option maxRecDepth 100000 in
set_option maxHeartbeats 40000000 in
theorem c_Fr_shown (l : Launch) (D : va_G) (ca : Nat → ClassId) (ax : Nat → Nat → Nat) (b : Nat) (σ : mm_M) (i : Nat) (a0 : Int32) (hi : i < 8) {r : Int32} {σ' : mm_M} (hf : fn_Fr_shown σ i a0 = some (r, σ')) : Met l y_Fr_shown w_Fr_shown rm_Fr_shown (pc_w D cls b N_C (ce_C ca b) (kC D ca ax b) [.ref (b + (19 + 2 * i)), .int a0] σ) (qc_i D cls b N_C (ce_C ca b) r σ') 0 0 (mm_A b N_C) := by
  refine vv_go (cc := b_Fr_shown) (maxL := 3) (ret := (some .int)) (fin := (r, σ')) (k := fn_Fr_shown σ i a0) (by decide) rfl (by simp [Value.category]) (Nat.le_of_ble_eq_true rfl) hf ?_
  intro p e s m below meth c hlocks hret S hKK
  unfold fn_Fr_shown
  refine v_aload_n S d_Fr_shown_0 rfl rfl ?_
  refine v_get S (fun w h => List.mem_cons_of_mem _ (i_Fr w h)) hKK.1 (19 + 2 * i) (fr_lt hi) (ce_fr hi) rfl 2 (by decide) (S.2.2.2.2 _ (List.mem_cons_of_mem _ (wd_108))) (fun _ h => h) rfl d_Fr_shown_1 ?_
  refine v_iload_n S d_Fr_shown_4 rfl rfl ?_
  refine v_ci (rest := []) (fun _ _ hg H locs ls hsz hP hS => run_S (As := [.int (σ (19 + 2 * i) 2), .int a0]) (rest := []) S kC_ok hKK (c_Ty_at l D ca ax b σ (σ (19 + 2 * i) 2) a0 hg) (k_Fr_43 S.2.2.2.2 (fun _ => List.mem_cons_of_mem _) ⟨Nat.le_of_ble_eq_true rfl, Nat.le_of_ble_eq_true rfl⟩) rfl rfl (Nat.zero_le _) d_Fr_shown_5 hsz hP hS) (fun r2 σ1 _ => ?_)
  refine v_istore_nP S d_Fr_shown_8 rfl (by decide) (L2 := [some (.ref (b + (19 + 2 * i))), some (.int a0), some (.int r2)]) rfl ?_
  refine v_iload_n S d_Fr_shown_9 rfl rfl ?_
  refine v_if_ne S d_Fr_shown_10 (tgt := 15) (by decide) (fun h3 => ?_) (fun h3 => ?_)
  · refine v_iload_n S d_Fr_shown_15 rfl rfl ?_
    refine v_iconst S d_Fr_shown_16 (v := (2 : Int32)) (by decide) ?_
    refine v_icmp_ne S d_Fr_shown_17 (tgt := 33) (by decide) (fun h4 => ?_) (fun h4 => ?_)
    · refine v_aload_n S d_Fr_shown_33 rfl rfl ?_
      refine v_get S (fun w h => List.mem_cons_of_mem _ (i_Fr w h)) hKK.1 (19 + 2 * i) (fr_lt hi) (ce_fr hi) rfl 3 (by decide) (S.2.2.2.2 _ (List.mem_cons_of_mem _ (wd_111))) (fun _ h => h) rfl d_Fr_shown_34 ?_
      refine v_iload_n S d_Fr_shown_37 rfl rfl ?_
      refine v_iald S hKK.1 (20 + 2 * i) 0 (vl_lt hi) (ce_vl hi) rfl d_Fr_shown_38 (fun h5 => ?_)
      exact v_iret S hret hlocks d_Fr_shown_39
    · refine v_aload_n S d_Fr_shown_20 rfl rfl ?_
      refine v_get S (fun w h => List.mem_cons_of_mem _ (i_Fr w h)) hKK.1 (19 + 2 * i) (fr_lt hi) (ce_fr hi) rfl 3 (by decide) (S.2.2.2.2 _ (List.mem_cons_of_mem _ (wd_111))) (fun _ h => h) rfl d_Fr_shown_21 ?_
      refine v_iload_n S d_Fr_shown_24 rfl rfl ?_
      refine v_iald S hKK.1 (20 + 2 * i) 0 (vl_lt hi) (ce_vl hi) rfl d_Fr_shown_25 (fun h6 => ?_)
      refine v_if_eq S d_Fr_shown_26 (tgt := 33) (by decide) (fun h7 => ?_) (fun h7 => ?_)
      · refine v_aload_n S d_Fr_shown_33 rfl rfl ?_
        refine v_get S (fun w h => List.mem_cons_of_mem _ (i_Fr w h)) hKK.1 (19 + 2 * i) (fr_lt hi) (ce_fr hi) rfl 3 (by decide) (S.2.2.2.2 _ (List.mem_cons_of_mem _ (wd_111))) (fun _ h => h) rfl d_Fr_shown_34 ?_
        refine v_iload_n S d_Fr_shown_37 rfl rfl ?_
        refine v_iald S hKK.1 (20 + 2 * i) 0 (vl_lt hi) (ce_vl hi) rfl d_Fr_shown_38 (fun h8 => ?_)
        exact v_iret S hret hlocks d_Fr_shown_39
      · refine v_iconst S d_Fr_shown_29 (v := (1 : Int32)) (by decide) ?_
        refine v_goto S d_Fr_shown_30 (tgt := 39) (by decide) ?_
        exact v_iret S hret hlocks d_Fr_shown_39
  · refine v_iconst S d_Fr_shown_13 (v := (-1 : Int32)) (by decide) ?_
    exact v_iret S hret hlocks d_Fr_shown_14

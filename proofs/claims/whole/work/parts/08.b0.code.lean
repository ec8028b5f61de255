/-! contracts of 08.code; written by wip/whole/make.py -/
def fn_Co_append (σ : mm_M) (a0 : Int32) (a1 : Int32) : Option (Int32 × mm_M) :=
    (nm (σ 1 0) (fun x1 =>
    (if (x1 < 0 ∨ 100 ≤ x1.toNatClampNeg) then none else (nm (mw σ 2 x1.toNatClampNeg a0) (fun σ3 =>
    (if (x1 < 0 ∨ 100 ≤ x1.toNatClampNeg) then none else (nm (mw σ3 3 x1.toNatClampNeg a1) (fun σ5 =>
    (nm (mw σ5 1 0 ((σ5 1 0) + (1 : Int32))) (fun σ6 =>
    (some (x1, σ6))))))))))))
set_option maxRecDepth 100000 in
set_option maxHeartbeats 40000000 in
theorem c_Co_append (l : Launch) (D : va_G) (ca : Nat → ClassId) (ax : Nat → Nat → Nat) (b : Nat) (σ : mm_M) (a0 : Int32) (a1 : Int32)  {r : Int32} {σ' : mm_M} (hf : fn_Co_append σ a0 a1 = some (r, σ')) : Met l y_Co_append w_Co_append rm_Co_append (pc_w D cls b N_C (ce_C ca b) (kC D ca ax b) [.ref (b + 1), .int a0, .int a1] σ) (qc_i D cls b N_C (ce_C ca b) r σ') 0 0 (mm_A b N_C) := by
  refine vv_go (cc := b_Co_append) (maxL := 4) (ret := (some .int)) (fin := (r, σ')) (k := fn_Co_append σ a0 a1) (by decide) rfl (by simp [Value.category]) (Nat.le_of_ble_eq_true rfl) hf ?_
  intro p e s m below meth c hlocks hret S hKK
  unfold fn_Co_append
  refine v_aload_n S d_Co_append_0 rfl rfl ?_
  refine v_get S (fun w h => List.mem_cons_of_mem _ (i_Co w h)) hKK.1 1 (by decide) rfl rfl 0 (by decide) (S.2.2.2.2 _ (List.mem_cons_of_mem _ (wd_40))) (fun _ h => h) rfl d_Co_append_1 ?_
  refine v_top (fun x1 ex1 => ?_)
  refine v_istore_nP S d_Co_append_4 rfl (by decide) (L2 := [some (.ref (b + 1)), some (.int a0), some (.int a1), some (.int x1)]) rfl ?_
  refine v_aload_n S d_Co_append_5 rfl rfl ?_
  refine v_get S (fun w h => List.mem_cons_of_mem _ (i_Co w h)) hKK.1 1 (by decide) rfl rfl 1 (by decide) (S.2.2.2.2 _ (List.mem_cons_of_mem _ (wd_43))) (fun _ h => h) rfl d_Co_append_6 ?_
  refine v_iload_n S d_Co_append_9 rfl rfl ?_
  refine v_iload_n S d_Co_append_10 rfl rfl ?_
  refine v_iast1 S hKK.1 2 0 (by decide) (fun _ => rfl) rfl d_Co_append_11 (fun h2 => ?_)
  refine v_sg (fun σ3 eσ3 => ?_)
  refine v_aload_n S d_Co_append_12 rfl rfl ?_
  refine v_get S (fun w h => List.mem_cons_of_mem _ (i_Co w h)) hKK.1 1 (by decide) rfl rfl 2 (by decide) (S.2.2.2.2 _ (List.mem_cons_of_mem _ (wd_44))) (fun _ h => h) rfl d_Co_append_13 ?_
  refine v_iload_n S d_Co_append_16 rfl rfl ?_
  refine v_iload_n S d_Co_append_17 rfl rfl ?_
  refine v_iast1 S hKK.1 3 0 (by decide) (fun _ => rfl) rfl d_Co_append_18 (fun h4 => ?_)
  refine v_sg (fun σ5 eσ5 => ?_)
  refine v_aload_n S d_Co_append_19 rfl rfl ?_
  refine v_dup S d_Co_append_20 rfl ?_
  refine v_get S (fun w h => List.mem_cons_of_mem _ (i_Co w h)) hKK.1 1 (by decide) rfl rfl 0 (by decide) (S.2.2.2.2 _ (List.mem_cons_of_mem _ (wd_40))) (fun _ h => h) rfl d_Co_append_21 ?_
  refine v_iconst S d_Co_append_24 (v := (1 : Int32)) (by decide) ?_
  refine v_iadd S d_Co_append_25 ?_
  refine v_puti S (fun w h => List.mem_cons_of_mem _ (i_Co w h)) hKK.1 1 (by decide) rfl rfl 0 (by decide) (S.2.2.2.2 _ (List.mem_cons_of_mem _ (wd_40))) (fun _ h => h) t_Co t_Co_ok n_Co rfl (ty := .int) rfl rfl rfl (Nat.le_of_ble_eq_true rfl) rfl d_Co_append_26 ?_
  refine v_sg (fun σ6 eσ6 => ?_)
  refine v_iload_n S d_Co_append_29 rfl rfl ?_
  exact v_iret S hret hlocks d_Co_append_30
def fn_Co_tell (σ : mm_M) (a0 : Int32) (a1 : Int32) (a2 : Int32) (a3 : Int32) : Option (mm_M) :=
    (if (a0 < 0 ∨ 4 ≤ a0.toNatClampNeg) then none else (nm (mw σ 4 a0.toNatClampNeg (1 : Int32)) (fun σ2 =>
    (if (a0 < 0 ∨ 4 ≤ a0.toNatClampNeg) then none else (nm (mw σ2 5 a0.toNatClampNeg a1) (fun σ4 =>
    (if (a0 < 0 ∨ 4 ≤ a0.toNatClampNeg) then none else (nm (mw σ4 6 a0.toNatClampNeg a2) (fun σ6 =>
    (if (a0 < 0 ∨ 4 ≤ a0.toNatClampNeg) then none else (nm (mw σ6 7 a0.toNatClampNeg a3) (fun σ8 =>
    (some σ8)))))))))))))
set_option maxRecDepth 100000 in
set_option maxHeartbeats 40000000 in
theorem c_Co_tell (l : Launch) (D : va_G) (ca : Nat → ClassId) (ax : Nat → Nat → Nat) (b : Nat) (σ : mm_M) (a0 : Int32) (a1 : Int32) (a2 : Int32) (a3 : Int32)  {σ' : mm_M} (hf : fn_Co_tell σ a0 a1 a2 a3 = some σ') : Met l y_Co_tell w_Co_tell rm_Co_tell (pc_w D cls b N_C (ce_C ca b) (kC D ca ax b) [.ref (b + 1), .int a0, .int a1, .int a2, .int a3] σ) (qc_v D cls b N_C (ce_C ca b) σ') 0 0 (mm_A b N_C) := by
  refine vv_go (cc := b_Co_tell) (maxL := 5) (ret := none) (fin := σ') (k := fn_Co_tell σ a0 a1 a2 a3) (by decide) rfl (by simp [Value.category]) (Nat.le_of_ble_eq_true rfl) hf ?_
  intro p e s m below meth c hlocks hret S hKK
  unfold fn_Co_tell
  refine v_aload_n S d_Co_tell_0 rfl rfl ?_
  refine v_get S (fun w h => List.mem_cons_of_mem _ (i_Co w h)) hKK.1 1 (by decide) rfl rfl 3 (by decide) (S.2.2.2.2 _ (List.mem_cons_of_mem _ (wd_45))) (fun _ h => h) rfl d_Co_tell_1 ?_
  refine v_iload_n S d_Co_tell_4 rfl rfl ?_
  refine v_iconst S d_Co_tell_5 (v := (1 : Int32)) (by decide) ?_
  refine v_zast1 S hKK.1 4 1 (by decide) (fun _ => rfl) rfl (Or.inr rfl) d_Co_tell_6 (fun h1 => ?_)
  refine v_sg (fun σ2 eσ2 => ?_)
  refine v_aload_n S d_Co_tell_7 rfl rfl ?_
  refine v_get S (fun w h => List.mem_cons_of_mem _ (i_Co w h)) hKK.1 1 (by decide) rfl rfl 4 (by decide) (S.2.2.2.2 _ (List.mem_cons_of_mem _ (wd_46))) (fun _ h => h) rfl d_Co_tell_8 ?_
  refine v_iload_n S d_Co_tell_11 rfl rfl ?_
  refine v_iload_n S d_Co_tell_12 rfl rfl ?_
  refine v_iast1 S hKK.1 5 0 (by decide) (fun _ => rfl) rfl d_Co_tell_13 (fun h3 => ?_)
  refine v_sg (fun σ4 eσ4 => ?_)
  refine v_aload_n S d_Co_tell_14 rfl rfl ?_
  refine v_get S (fun w h => List.mem_cons_of_mem _ (i_Co w h)) hKK.1 1 (by decide) rfl rfl 5 (by decide) (S.2.2.2.2 _ (List.mem_cons_of_mem _ (wd_47))) (fun _ h => h) rfl d_Co_tell_15 ?_
  refine v_iload_n S d_Co_tell_18 rfl rfl ?_
  refine v_iload_n S d_Co_tell_19 rfl rfl ?_
  refine v_iast1 S hKK.1 6 0 (by decide) (fun _ => rfl) rfl d_Co_tell_20 (fun h5 => ?_)
  refine v_sg (fun σ6 eσ6 => ?_)
  refine v_aload_n S d_Co_tell_21 rfl rfl ?_
  refine v_get S (fun w h => List.mem_cons_of_mem _ (i_Co w h)) hKK.1 1 (by decide) rfl rfl 6 (by decide) (S.2.2.2.2 _ (List.mem_cons_of_mem _ (wd_48))) (fun _ h => h) rfl d_Co_tell_22 ?_
  refine v_iload_n S d_Co_tell_25 rfl rfl ?_
  refine v_iload S d_Co_tell_26 rfl ?_
  refine v_iast1 S hKK.1 7 0 (by decide) (fun _ => rfl) rfl d_Co_tell_28 (fun h7 => ?_)
  refine v_sg (fun σ8 eσ8 => ?_)
  exact v_vret S hret hlocks d_Co_tell_29
def fn_Co_hasInstruction (σ : mm_M) (a0 : Int32) : Option (Int32 × mm_M) :=
    (if a0 < 0 then
    (if (0 : Int32) = 0 ∨ (0 : Int32) = 1 then some ((0 : Int32), σ) else none)
    else
    (if (σ 1 0) ≤ a0 then
    (if (0 : Int32) = 0 ∨ (0 : Int32) = 1 then some ((0 : Int32), σ) else none)
    else
    (if (1 : Int32) = 0 ∨ (1 : Int32) = 1 then some ((1 : Int32), σ) else none)))
set_option maxRecDepth 100000 in
set_option maxHeartbeats 40000000 in
theorem c_Co_hasInstruction (l : Launch) (D : va_G) (ca : Nat → ClassId) (ax : Nat → Nat → Nat) (b : Nat) (σ : mm_M) (a0 : Int32)  {r : Int32} {σ' : mm_M} (hf : fn_Co_hasInstruction σ a0 = some (r, σ')) : Met l y_Co_hasInstruction w_Co_hasInstruction rm_Co_hasInstruction (pc_w D cls b N_C (ce_C ca b) (kC D ca ax b) [.ref (b + 1), .int a0] σ) (qc_i D cls b N_C (ce_C ca b) r σ') 0 0 (mm_A b N_C) := by
  refine vv_go (cc := b_Co_hasInstruction) (maxL := 2) (ret := (some .boolean)) (fin := (r, σ')) (k := fn_Co_hasInstruction σ a0) (by decide) rfl (by simp [Value.category]) (Nat.le_of_ble_eq_true rfl) hf ?_
  intro p e s m below meth c hlocks hret S hKK
  unfold fn_Co_hasInstruction
  refine v_iload_n S d_Co_hasInstruction_0 rfl rfl ?_
  refine v_if_lt S d_Co_hasInstruction_1 (tgt := 16) (by decide) (fun h1 => ?_) (fun h1 => ?_)
  · refine v_iconst S d_Co_hasInstruction_16 (v := (0 : Int32)) (by decide) ?_
    exact v_zret S hret hlocks d_Co_hasInstruction_17
  · refine v_iload_n S d_Co_hasInstruction_4 rfl rfl ?_
    refine v_aload_n S d_Co_hasInstruction_5 rfl rfl ?_
    refine v_get S (fun w h => List.mem_cons_of_mem _ (i_Co w h)) hKK.1 1 (by decide) rfl rfl 0 (by decide) (S.2.2.2.2 _ (List.mem_cons_of_mem _ (wd_40))) (fun _ h => h) rfl d_Co_hasInstruction_6 ?_
    refine v_icmp_ge S d_Co_hasInstruction_9 (tgt := 16) (by decide) (fun h2 => ?_) (fun h2 => ?_)
    · refine v_iconst S d_Co_hasInstruction_16 (v := (0 : Int32)) (by decide) ?_
      exact v_zret S hret hlocks d_Co_hasInstruction_17
    · refine v_iconst S d_Co_hasInstruction_12 (v := (1 : Int32)) (by decide) ?_
      refine v_goto S d_Co_hasInstruction_13 (tgt := 17) (by decide) ?_
      exact v_zret S hret hlocks d_Co_hasInstruction_17
def fn_Co_hasRoutine (σ : mm_M) (a0 : Int32) : Option (Int32 × mm_M) :=
    (if a0 < 0 then
    (if (0 : Int32) = 0 ∨ (0 : Int32) = 1 then some ((0 : Int32), σ) else none)
    else
    (if (4 : Int32) ≤ a0 then
    (if (0 : Int32) = 0 ∨ (0 : Int32) = 1 then some ((0 : Int32), σ) else none)
    else
    (if (a0 < 0 ∨ 4 ≤ a0.toNatClampNeg) then none else
    (if (σ 4 a0.toNatClampNeg) = 0 then
    (if (0 : Int32) = 0 ∨ (0 : Int32) = 1 then some ((0 : Int32), σ) else none)
    else
    (if (1 : Int32) = 0 ∨ (1 : Int32) = 1 then some ((1 : Int32), σ) else none)))))
set_option maxRecDepth 100000 in
set_option maxHeartbeats 40000000 in
theorem c_Co_hasRoutine (l : Launch) (D : va_G) (ca : Nat → ClassId) (ax : Nat → Nat → Nat) (b : Nat) (σ : mm_M) (a0 : Int32)  {r : Int32} {σ' : mm_M} (hf : fn_Co_hasRoutine σ a0 = some (r, σ')) : Met l y_Co_hasRoutine w_Co_hasRoutine rm_Co_hasRoutine (pc_w D cls b N_C (ce_C ca b) (kC D ca ax b) [.ref (b + 1), .int a0] σ) (qc_i D cls b N_C (ce_C ca b) r σ') 0 0 (mm_A b N_C) := by
  refine vv_go (cc := b_Co_hasRoutine) (maxL := 2) (ret := (some .boolean)) (fin := (r, σ')) (k := fn_Co_hasRoutine σ a0) (by decide) rfl (by simp [Value.category]) (Nat.le_of_ble_eq_true rfl) hf ?_
  intro p e s m below meth c hlocks hret S hKK
  unfold fn_Co_hasRoutine
  refine v_iload_n S d_Co_hasRoutine_0 rfl rfl ?_
  refine v_if_lt S d_Co_hasRoutine_1 (tgt := 22) (by decide) (fun h1 => ?_) (fun h1 => ?_)
  · refine v_iconst S d_Co_hasRoutine_22 (v := (0 : Int32)) (by decide) ?_
    exact v_zret S hret hlocks d_Co_hasRoutine_23
  · refine v_iload_n S d_Co_hasRoutine_4 rfl rfl ?_
    refine v_iconst S d_Co_hasRoutine_5 (v := (4 : Int32)) (by decide) ?_
    refine v_icmp_ge S d_Co_hasRoutine_6 (tgt := 22) (by decide) (fun h2 => ?_) (fun h2 => ?_)
    · refine v_iconst S d_Co_hasRoutine_22 (v := (0 : Int32)) (by decide) ?_
      exact v_zret S hret hlocks d_Co_hasRoutine_23
    · refine v_aload_n S d_Co_hasRoutine_9 rfl rfl ?_
      refine v_get S (fun w h => List.mem_cons_of_mem _ (i_Co w h)) hKK.1 1 (by decide) rfl rfl 3 (by decide) (S.2.2.2.2 _ (List.mem_cons_of_mem _ (wd_45))) (fun _ h => h) rfl d_Co_hasRoutine_10 ?_
      refine v_iload_n S d_Co_hasRoutine_13 rfl rfl ?_
      refine v_zald S hKK.1 4 1 (by decide) rfl rfl d_Co_hasRoutine_14 (fun h3 => ?_)
      refine v_if_eq S d_Co_hasRoutine_15 (tgt := 22) (by decide) (fun h4 => ?_) (fun h4 => ?_)
      · refine v_iconst S d_Co_hasRoutine_22 (v := (0 : Int32)) (by decide) ?_
        exact v_zret S hret hlocks d_Co_hasRoutine_23
      · refine v_iconst S d_Co_hasRoutine_18 (v := (1 : Int32)) (by decide) ?_
        refine v_goto S d_Co_hasRoutine_19 (tgt := 23) (by decide) ?_
        exact v_zret S hret hlocks d_Co_hasRoutine_23
def fn_Co_startOf (σ : mm_M) (a0 : Int32) : Option (Int32 × mm_M) :=
    (if (a0 < 0 ∨ 4 ≤ a0.toNatClampNeg) then none else
    (some ((σ 5 a0.toNatClampNeg), σ)))
set_option maxRecDepth 100000 in
set_option maxHeartbeats 40000000 in
theorem c_Co_startOf (l : Launch) (D : va_G) (ca : Nat → ClassId) (ax : Nat → Nat → Nat) (b : Nat) (σ : mm_M) (a0 : Int32)  {r : Int32} {σ' : mm_M} (hf : fn_Co_startOf σ a0 = some (r, σ')) : Met l y_Co_startOf w_Co_startOf rm_Co_startOf (pc_w D cls b N_C (ce_C ca b) (kC D ca ax b) [.ref (b + 1), .int a0] σ) (qc_i D cls b N_C (ce_C ca b) r σ') 0 0 (mm_A b N_C) := by
  refine vv_go (cc := b_Co_startOf) (maxL := 2) (ret := (some .int)) (fin := (r, σ')) (k := fn_Co_startOf σ a0) (by decide) rfl (by simp [Value.category]) (Nat.le_of_ble_eq_true rfl) hf ?_
  intro p e s m below meth c hlocks hret S hKK
  unfold fn_Co_startOf
  refine v_aload_n S d_Co_startOf_0 rfl rfl ?_
  refine v_get S (fun w h => List.mem_cons_of_mem _ (i_Co w h)) hKK.1 1 (by decide) rfl rfl 4 (by decide) (S.2.2.2.2 _ (List.mem_cons_of_mem _ (wd_46))) (fun _ h => h) rfl d_Co_startOf_1 ?_
  refine v_iload_n S d_Co_startOf_4 rfl rfl ?_
  refine v_iald S hKK.1 5 0 (by decide) rfl rfl d_Co_startOf_5 (fun h1 => ?_)
  exact v_iret S hret hlocks d_Co_startOf_6
def fn_Co_parametersOf (σ : mm_M) (a0 : Int32) : Option (Int32 × mm_M) :=
    (if (a0 < 0 ∨ 4 ≤ a0.toNatClampNeg) then none else
    (some ((σ 6 a0.toNatClampNeg), σ)))
set_option maxRecDepth 100000 in
set_option maxHeartbeats 40000000 in
theorem c_Co_parametersOf (l : Launch) (D : va_G) (ca : Nat → ClassId) (ax : Nat → Nat → Nat) (b : Nat) (σ : mm_M) (a0 : Int32)  {r : Int32} {σ' : mm_M} (hf : fn_Co_parametersOf σ a0 = some (r, σ')) : Met l y_Co_parametersOf w_Co_parametersOf rm_Co_parametersOf (pc_w D cls b N_C (ce_C ca b) (kC D ca ax b) [.ref (b + 1), .int a0] σ) (qc_i D cls b N_C (ce_C ca b) r σ') 0 0 (mm_A b N_C) := by
  refine vv_go (cc := b_Co_parametersOf) (maxL := 2) (ret := (some .int)) (fin := (r, σ')) (k := fn_Co_parametersOf σ a0) (by decide) rfl (by simp [Value.category]) (Nat.le_of_ble_eq_true rfl) hf ?_
  intro p e s m below meth c hlocks hret S hKK
  unfold fn_Co_parametersOf
  refine v_aload_n S d_Co_parametersOf_0 rfl rfl ?_
  refine v_get S (fun w h => List.mem_cons_of_mem _ (i_Co w h)) hKK.1 1 (by decide) rfl rfl 5 (by decide) (S.2.2.2.2 _ (List.mem_cons_of_mem _ (wd_47))) (fun _ h => h) rfl d_Co_parametersOf_1 ?_
  refine v_iload_n S d_Co_parametersOf_4 rfl rfl ?_
  refine v_iald S hKK.1 6 0 (by decide) rfl rfl d_Co_parametersOf_5 (fun h1 => ?_)
  exact v_iret S hret hlocks d_Co_parametersOf_6
def fn_Co_opAt (σ : mm_M) (a0 : Int32) : Option (Nat × mm_M) :=
    (if (a0 < 0 ∨ 100 ≤ a0.toNatClampNeg) then none else
    (if ((σ 2 a0.toNatClampNeg) < 0 ∨ 20 ≤ (σ 2 a0.toNatClampNeg).toNatClampNeg) then none else
    (some (((σ 2 a0.toNatClampNeg).toNatClampNeg), σ))))
set_option maxRecDepth 100000 in
set_option maxHeartbeats 40000000 in
theorem c_Co_opAt (l : Launch) (D : va_G) (ca : Nat → ClassId) (ax : Nat → Nat → Nat) (b : Nat) (σ : mm_M) (a0 : Int32)  {r : Nat} {σ' : mm_M} (hf : fn_Co_opAt σ a0 = some (r, σ')) : Met l y_Co_opAt w_Co_opAt rm_Co_opAt (pc_w D cls b N_C (ce_C ca b) (kC D ca ax b) [.ref (b + 1), .int a0] σ) (qc_a D cls b N_C (ce_C ca b) (ax 0 r) σ') 0 0 (mm_A b N_C) := by
  refine vv_go (cc := b_Co_opAt) (maxL := 2) (ret := (some (.object "FrameVerifier$Op"))) (fin := (r, σ')) (k := fn_Co_opAt σ a0) (by decide) rfl (by simp [Value.category]) (Nat.le_of_ble_eq_true rfl) hf ?_
  intro p e s m below meth c hlocks hret S hKK
  unfold fn_Co_opAt
  refine v_getsN S (kc_zOps hKK) (va_Nw.use rfl hKK.2.2.1) (fun _ h => h) d_Co_opAt_0 ?_
  refine v_aload_n S d_Co_opAt_3 rfl rfl ?_
  refine v_get S (fun w h => List.mem_cons_of_mem _ (i_Co w h)) hKK.1 1 (by decide) rfl rfl 1 (by decide) (S.2.2.2.2 _ (List.mem_cons_of_mem _ (wd_43))) (fun _ h => h) rfl d_Co_opAt_4 ?_
  refine v_iload_n S d_Co_opAt_7 rfl rfl ?_
  refine v_iald S hKK.1 2 0 (by decide) rfl rfl d_Co_opAt_8 (fun h1 => ?_)
  refine v_ta S (kc_tOps hKK) rfl d_Co_opAt_9 (fun h2 => ?_)
  exact v_aret (ax 0) S hret hlocks d_Co_opAt_10
theorem rb_Co_opAt {σ : mm_M} {a0 : Int32} {r : Nat} {σ' : mm_M} (h : fn_Co_opAt σ a0 = some (r, σ')) : r < 20 := by
  unfold fn_Co_opAt at h
  try simp only [bd, bv, nm] at h
  repeat' (split at h)
  all_goals (first | (cases h; done) | (cases h; first | decide | exact ib (by assumption) ))
def fn_Co_numberAt (σ : mm_M) (a0 : Int32) : Option (Int32 × mm_M) :=
    (if (a0 < 0 ∨ 100 ≤ a0.toNatClampNeg) then none else
    (some ((σ 3 a0.toNatClampNeg), σ)))
set_option maxRecDepth 100000 in
set_option maxHeartbeats 40000000 in
theorem c_Co_numberAt (l : Launch) (D : va_G) (ca : Nat → ClassId) (ax : Nat → Nat → Nat) (b : Nat) (σ : mm_M) (a0 : Int32)  {r : Int32} {σ' : mm_M} (hf : fn_Co_numberAt σ a0 = some (r, σ')) : Met l y_Co_numberAt w_Co_numberAt rm_Co_numberAt (pc_w D cls b N_C (ce_C ca b) (kC D ca ax b) [.ref (b + 1), .int a0] σ) (qc_i D cls b N_C (ce_C ca b) r σ') 0 0 (mm_A b N_C) := by
  refine vv_go (cc := b_Co_numberAt) (maxL := 2) (ret := (some .int)) (fin := (r, σ')) (k := fn_Co_numberAt σ a0) (by decide) rfl (by simp [Value.category]) (Nat.le_of_ble_eq_true rfl) hf ?_
  intro p e s m below meth c hlocks hret S hKK
  unfold fn_Co_numberAt
  refine v_aload_n S d_Co_numberAt_0 rfl rfl ?_
  refine v_get S (fun w h => List.mem_cons_of_mem _ (i_Co w h)) hKK.1 1 (by decide) rfl rfl 2 (by decide) (S.2.2.2.2 _ (List.mem_cons_of_mem _ (wd_44))) (fun _ h => h) rfl d_Co_numberAt_1 ?_
  refine v_iload_n S d_Co_numberAt_4 rfl rfl ?_
  refine v_iald S hKK.1 3 0 (by decide) rfl rfl d_Co_numberAt_5 (fun h1 => ?_)
  exact v_iret S hret hlocks d_Co_numberAt_6
def fn_Co_kindOf (σ : mm_M) (a0 : Int32) (a1 : Int32) : Option (Int32 × mm_M) :=
    (if (a0 < 0 ∨ 4 ≤ a0.toNatClampNeg) then none else
    (if (((σ 7 a0.toNatClampNeg) >>> (a1 &&& 31)) &&& (1 : Int32)) = (1 : Int32) then
    (some ((2 : Int32), σ))
    else
    (some ((1 : Int32), σ))))
set_option maxRecDepth 100000 in
set_option maxHeartbeats 40000000 in
theorem c_Co_kindOf (l : Launch) (D : va_G) (ca : Nat → ClassId) (ax : Nat → Nat → Nat) (b : Nat) (σ : mm_M) (a0 : Int32) (a1 : Int32)  {r : Int32} {σ' : mm_M} (hf : fn_Co_kindOf σ a0 a1 = some (r, σ')) : Met l y_Co_kindOf w_Co_kindOf rm_Co_kindOf (pc_w D cls b N_C (ce_C ca b) (kC D ca ax b) [.ref (b + 1), .int a0, .int a1] σ) (qc_i D cls b N_C (ce_C ca b) r σ') 0 0 (mm_A b N_C) := by
  refine vv_go (cc := b_Co_kindOf) (maxL := 3) (ret := (some .int)) (fin := (r, σ')) (k := fn_Co_kindOf σ a0 a1) (by decide) rfl (by simp [Value.category]) (Nat.le_of_ble_eq_true rfl) hf ?_
  intro p e s m below meth c hlocks hret S hKK
  unfold fn_Co_kindOf
  refine v_aload_n S d_Co_kindOf_0 rfl rfl ?_
  refine v_get S (fun w h => List.mem_cons_of_mem _ (i_Co w h)) hKK.1 1 (by decide) rfl rfl 6 (by decide) (S.2.2.2.2 _ (List.mem_cons_of_mem _ (wd_48))) (fun _ h => h) rfl d_Co_kindOf_1 ?_
  refine v_iload_n S d_Co_kindOf_4 rfl rfl ?_
  refine v_iald S hKK.1 7 0 (by decide) rfl rfl d_Co_kindOf_5 (fun h1 => ?_)
  refine v_iload_n S d_Co_kindOf_6 rfl rfl ?_
  refine v_ishr S d_Co_kindOf_7 ?_
  refine v_iconst S d_Co_kindOf_8 (v := (1 : Int32)) (by decide) ?_
  refine v_iand S d_Co_kindOf_9 ?_
  refine v_iconst S d_Co_kindOf_10 (v := (1 : Int32)) (by decide) ?_
  refine v_icmp_ne S d_Co_kindOf_11 (tgt := 18) (by decide) (fun h2 => ?_) (fun h2 => ?_)
  · refine v_iconst S d_Co_kindOf_18 (v := (1 : Int32)) (by decide) ?_
    exact v_iret S hret hlocks d_Co_kindOf_19
  · refine v_iconst S d_Co_kindOf_14 (v := (2 : Int32)) (by decide) ?_
    refine v_goto S d_Co_kindOf_15 (tgt := 19) (by decide) ?_
    exact v_iret S hret hlocks d_Co_kindOf_19
def fn_Co_firstState_4 (a0 : Int32) : Nat → mm_M → Int32 → Int32 → Option (Int32 × mm_M)
  | 0, _, _, _ => none
  | n + 1, σ, l2, l3 =>
    (if (a0 < 0 ∨ 4 ≤ a0.toNatClampNeg) then none else
    (if (σ 6 a0.toNatClampNeg) ≤ l3 then
    (some (l2, σ))
    else
    (bd (fn_Co_kindOf σ a0 l3) (fun r4 σ3 =>
    (bd (fn_Ty_with σ3 l2 l3 r4) (fun r6 σ5 =>
    (fn_Co_firstState_4 a0 n σ5 r6 (l3 + (1 : Int32)))))))))
def fn_Co_firstState (σ : mm_M) (a0 : Int32) : Option (Int32 × mm_M) :=
    (fn_Co_firstState_4 a0 fuel0 σ (0 : Int32) (0 : Int32))
set_option maxRecDepth 100000 in
set_option maxHeartbeats 40000000 in
theorem c_Co_firstState (l : Launch) (D : va_G) (ca : Nat → ClassId) (ax : Nat → Nat → Nat) (b : Nat) (σ : mm_M) (a0 : Int32)  {r : Int32} {σ' : mm_M} (hf : fn_Co_firstState σ a0 = some (r, σ')) : Met l y_Co_firstState w_Co_firstState rm_Co_firstState (pc_w D cls b N_C (ce_C ca b) (kC D ca ax b) [.ref (b + 1), .int a0] σ) (qc_i D cls b N_C (ce_C ca b) r σ') 0 0 (mm_A b N_C) := by
  refine vv_go (cc := b_Co_firstState) (maxL := 4) (ret := (some .int)) (fin := (r, σ')) (k := fn_Co_firstState σ a0) (by decide) rfl (by simp [Value.category]) (Nat.le_of_ble_eq_true rfl) hf ?_
  intro p e s m below meth c hlocks hret S hKK
  have C4 : ∀ (n : Nat) (σ : mm_M) (l2 : Int32) (l3 : Int32), vv p l e (headSpec w_Co_firstState rm_Co_firstState).room s m [.ref (b + 1), .int a0].toArray below meth c D cls b N_C (ce_C ca b) 4 (MQ below (qc_i D cls b N_C (ce_C ca b) r σ') [.ref (b + 1), .int a0].toArray s 0 0 (mm_A b N_C)) (r, σ') (fn_Co_firstState_4 a0 n σ l2 l3) σ 4 [some (.ref (b + 1)), some (.int a0), some (.int l2), some (.int l3)] [] := by
    intro n
    induction n with
    | zero => intro σ l2 l3  h; cases h
    | succ n ih =>
      intro σ l2 l3
      show vv p l e (headSpec w_Co_firstState rm_Co_firstState).room s m [.ref (b + 1), .int a0].toArray below meth c D cls b N_C (ce_C ca b) 4 (MQ below (qc_i D cls b N_C (ce_C ca b) r σ') [.ref (b + 1), .int a0].toArray s 0 0 (mm_A b N_C)) (r, σ') (        (if (a0 < 0 ∨ 4 ≤ a0.toNatClampNeg) then none else
        (if (σ 6 a0.toNatClampNeg) ≤ l3 then
        (some (l2, σ))
        else
        (bd (fn_Co_kindOf σ a0 l3) (fun r4 σ3 =>
        (bd (fn_Ty_with σ3 l2 l3 r4) (fun r6 σ5 =>
        (fn_Co_firstState_4 a0 n σ5 r6 (l3 + (1 : Int32)))))))))) σ 4 [some (.ref (b + 1)), some (.int a0), some (.int l2), some (.int l3)] []
      refine v_iload_n S d_Co_firstState_4 rfl rfl ?_
      refine v_aload_n S d_Co_firstState_5 rfl rfl ?_
      refine v_get S (fun w h => List.mem_cons_of_mem _ (i_Co w h)) hKK.1 1 (by decide) rfl rfl 5 (by decide) (S.2.2.2.2 _ (List.mem_cons_of_mem _ (wd_47))) (fun _ h => h) rfl d_Co_firstState_6 ?_
      refine v_iload_n S d_Co_firstState_9 rfl rfl ?_
      refine v_iald S hKK.1 6 0 (by decide) rfl rfl d_Co_firstState_10 (fun h1 => ?_)
      refine v_icmp_ge S d_Co_firstState_11 (tgt := 32) (by decide) (fun h2 => ?_) (fun h2 => ?_)
      · refine v_iload_n S d_Co_firstState_32 rfl rfl ?_
        exact v_iret S hret hlocks d_Co_firstState_33
      · refine v_iload_n S d_Co_firstState_14 rfl rfl ?_
        refine v_iload_n S d_Co_firstState_15 rfl rfl ?_
        refine v_aload_n S d_Co_firstState_16 rfl rfl ?_
        refine v_iload_n S d_Co_firstState_17 rfl rfl ?_
        refine v_iload_n S d_Co_firstState_18 rfl rfl ?_
        refine v_ci (rest := [.int l3, .int l2]) (fun _ _ hg H locs ls hsz hP hS => run_V (As := [.int a0, .int l3]) (rest := [.int l3, .int l2]) S kC_ok hKK (c_Co_kindOf l D ca ax b σ a0 l3 hg) (k_Co_41 S.2.2.2.2 (fun _ => List.mem_cons_of_mem _) ⟨Nat.le_of_ble_eq_true rfl, Nat.le_of_ble_eq_true rfl⟩) (rc_w hKK.1 hP 1 (by decide) rfl rfl) rfl rfl (by simp [Value.category]) d_Co_firstState_19 hsz hP hS) (fun r4 σ3 _ => ?_)
        refine v_ci (rest := []) (fun _ _ hg H locs ls hsz hP hS => run_S (As := [.int l2, .int l3, .int r4]) (rest := []) S kC_ok hKK (c_Ty_with l D ca ax b σ3 l2 l3 r4 hg) (k_Co_45 S.2.2.2.2 (fun _ => List.mem_cons_of_mem _) ⟨Nat.le_of_ble_eq_true rfl, Nat.le_of_ble_eq_true rfl⟩) rfl rfl (Nat.zero_le _) d_Co_firstState_22 hsz hP hS) (fun r6 σ5 _ => ?_)
        refine v_istore_nP S d_Co_firstState_25 rfl (by decide) (L2 := [some (.ref (b + 1)), some (.int a0), some (.int r6), some (.int l3)]) rfl ?_
        refine v_iinc S d_Co_firstState_26 rfl (v := (l3 + (1 : Int32))) (by first | rfl | decide) (by decide) (L2 := [some (.ref (b + 1)), some (.int a0), some (.int r6), some (.int (l3 + (1 : Int32)))]) rfl ?_
        refine v_goto S d_Co_firstState_29 (tgt := 4) (by decide) ?_
        refine v_sub (L2 := [some (.ref (b + 1)), some (.int a0), some (.int r6), some (.int (l3 + (1 : Int32)))]) (And.intro rfl (And.intro rfl (And.intro rfl (And.intro rfl True.intro)))) ?_
        exact ih σ5 r6 (l3 + (1 : Int32))
  unfold fn_Co_firstState
  refine v_iconst S d_Co_firstState_0 (v := (0 : Int32)) (by decide) ?_
  refine v_istore_nP S d_Co_firstState_1 rfl (by decide) (L2 := [some (.ref (b + 1)), some (.int a0), some (.int (0 : Int32))]) rfl ?_
  refine v_iconst S d_Co_firstState_2 (v := (0 : Int32)) (by decide) ?_
  refine v_istore_nP S d_Co_firstState_3 rfl (by decide) (L2 := [some (.ref (b + 1)), some (.int a0), some (.int (0 : Int32)), some (.int (0 : Int32))]) rfl ?_
  refine v_sub (L2 := [some (.ref (b + 1)), some (.int a0), some (.int (0 : Int32)), some (.int (0 : Int32))]) (And.intro rfl (And.intro rfl (And.intro rfl (And.intro rfl True.intro)))) ?_
  exact C4 fuel0 σ (0 : Int32) (0 : Int32)
def fn_Co_hasOp (σ : mm_M) (a0 : Int32) : Option (Int32 × mm_M) :=
    (bd (fn_Co_hasInstruction σ a0) (fun r2 σ1 =>
    (if r2 = 0 then
    (if (0 : Int32) = 0 ∨ (0 : Int32) = 1 then some ((0 : Int32), σ1) else none)
    else
    (if (a0 < 0 ∨ 100 ≤ a0.toNatClampNeg) then none else
    (if (σ1 2 a0.toNatClampNeg) < 0 then
    (if (0 : Int32) = 0 ∨ (0 : Int32) = 1 then some ((0 : Int32), σ1) else none)
    else
    (if (a0 < 0 ∨ 100 ≤ a0.toNatClampNeg) then none else
    (if (20 : Int32) ≤ (σ1 2 a0.toNatClampNeg) then
    (if (0 : Int32) = 0 ∨ (0 : Int32) = 1 then some ((0 : Int32), σ1) else none)
    else
    (if (1 : Int32) = 0 ∨ (1 : Int32) = 1 then some ((1 : Int32), σ1) else none))))))))
set_option maxRecDepth 100000 in
set_option maxHeartbeats 40000000 in
theorem c_Co_hasOp (l : Launch) (D : va_G) (ca : Nat → ClassId) (ax : Nat → Nat → Nat) (b : Nat) (σ : mm_M) (a0 : Int32)  {r : Int32} {σ' : mm_M} (hf : fn_Co_hasOp σ a0 = some (r, σ')) : Met l y_Co_hasOp w_Co_hasOp rm_Co_hasOp (pc_w D cls b N_C (ce_C ca b) (kC D ca ax b) [.ref (b + 1), .int a0] σ) (qc_i D cls b N_C (ce_C ca b) r σ') 0 0 (mm_A b N_C) := by
  refine vv_go (cc := b_Co_hasOp) (maxL := 2) (ret := (some .boolean)) (fin := (r, σ')) (k := fn_Co_hasOp σ a0) (by decide) rfl (by simp [Value.category]) (Nat.le_of_ble_eq_true rfl) hf ?_
  intro p e s m below meth c hlocks hret S hKK
  unfold fn_Co_hasOp
  refine v_aload_n S d_Co_hasOp_0 rfl rfl ?_
  refine v_iload_n S d_Co_hasOp_1 rfl rfl ?_
  refine v_ci (rest := []) (fun _ _ hg H locs ls hsz hP hS => run_V (As := [.int a0]) (rest := []) S kC_ok hKK (c_Co_hasInstruction l D ca ax b σ a0 hg) (k_Co_63 S.2.2.2.2 (fun _ => List.mem_cons_of_mem _) ⟨Nat.le_of_ble_eq_true rfl, Nat.le_of_ble_eq_true rfl⟩) (rc_w hKK.1 hP 1 (by decide) rfl rfl) rfl rfl (Nat.zero_le _) d_Co_hasOp_2 hsz hP hS) (fun r2 σ1 _ => ?_)
  refine v_if_eq S d_Co_hasOp_5 (tgt := 34) (by decide) (fun h3 => ?_) (fun h3 => ?_)
  · refine v_iconst S d_Co_hasOp_34 (v := (0 : Int32)) (by decide) ?_
    exact v_zret S hret hlocks d_Co_hasOp_35
  · refine v_aload_n S d_Co_hasOp_8 rfl rfl ?_
    refine v_get S (fun w h => List.mem_cons_of_mem _ (i_Co w h)) hKK.1 1 (by decide) rfl rfl 1 (by decide) (S.2.2.2.2 _ (List.mem_cons_of_mem _ (wd_43))) (fun _ h => h) rfl d_Co_hasOp_9 ?_
    refine v_iload_n S d_Co_hasOp_12 rfl rfl ?_
    refine v_iald S hKK.1 2 0 (by decide) rfl rfl d_Co_hasOp_13 (fun h4 => ?_)
    refine v_if_lt S d_Co_hasOp_14 (tgt := 34) (by decide) (fun h5 => ?_) (fun h5 => ?_)
    · refine v_iconst S d_Co_hasOp_34 (v := (0 : Int32)) (by decide) ?_
      exact v_zret S hret hlocks d_Co_hasOp_35
    · refine v_aload_n S d_Co_hasOp_17 rfl rfl ?_
      refine v_get S (fun w h => List.mem_cons_of_mem _ (i_Co w h)) hKK.1 1 (by decide) rfl rfl 1 (by decide) (S.2.2.2.2 _ (List.mem_cons_of_mem _ (wd_43))) (fun _ h => h) rfl d_Co_hasOp_18 ?_
      refine v_iload_n S d_Co_hasOp_21 rfl rfl ?_
      refine v_iald S hKK.1 2 0 (by decide) rfl rfl d_Co_hasOp_22 (fun h6 => ?_)
      refine v_getsN S (kc_zOps hKK) (va_Nw.use rfl hKK.2.2.1) (fun _ h => h) d_Co_hasOp_23 ?_
      refine v_tlen S (kc_tOps hKK) (v := 20) rfl d_Co_hasOp_26 ?_
      refine v_icmp_ge S d_Co_hasOp_27 (tgt := 34) (by decide) (fun h7 => ?_) (fun h7 => ?_)
      · refine v_iconst S d_Co_hasOp_34 (v := (0 : Int32)) (by decide) ?_
        exact v_zret S hret hlocks d_Co_hasOp_35
      · refine v_iconst S d_Co_hasOp_30 (v := (1 : Int32)) (by decide) ?_
        refine v_goto S d_Co_hasOp_31 (tgt := 35) (by decide) ?_
        exact v_zret S hret hlocks d_Co_hasOp_35
def fn_FV_isLocal (σ : mm_M) (a0 : Int32) : Option (Int32 × mm_M) :=
    (if a0 < 0 then
    (if (0 : Int32) = 0 ∨ (0 : Int32) = 1 then some ((0 : Int32), σ) else none)
    else
    (if (6 : Int32) ≤ a0 then
    (if (0 : Int32) = 0 ∨ (0 : Int32) = 1 then some ((0 : Int32), σ) else none)
    else
    (if (1 : Int32) = 0 ∨ (1 : Int32) = 1 then some ((1 : Int32), σ) else none)))
set_option maxRecDepth 100000 in
set_option maxHeartbeats 40000000 in
theorem c_FV_isLocal (l : Launch) (D : va_G) (ca : Nat → ClassId) (ax : Nat → Nat → Nat) (b : Nat) (σ : mm_M) (a0 : Int32)  {r : Int32} {σ' : mm_M} (hf : fn_FV_isLocal σ a0 = some (r, σ')) : Met l y_FV_isLocal w_FV_isLocal rm_FV_isLocal (pc_w D cls b N_C (ce_C ca b) (kC D ca ax b) [.int a0] σ) (qc_i D cls b N_C (ce_C ca b) r σ') 0 0 (mm_A b N_C) := by
  refine vv_go (cc := b_FV_isLocal) (maxL := 1) (ret := (some .boolean)) (fin := (r, σ')) (k := fn_FV_isLocal σ a0) (by decide) rfl (by simp [Value.category]) (Nat.le_of_ble_eq_true rfl) hf ?_
  intro p e s m below meth c hlocks hret S hKK
  unfold fn_FV_isLocal
  refine v_iload_n S d_FV_isLocal_0 rfl rfl ?_
  refine v_if_lt S d_FV_isLocal_1 (tgt := 14) (by decide) (fun h1 => ?_) (fun h1 => ?_)
  · refine v_iconst S d_FV_isLocal_14 (v := (0 : Int32)) (by decide) ?_
    exact v_zret S hret hlocks d_FV_isLocal_15
  · refine v_iload_n S d_FV_isLocal_4 rfl rfl ?_
    refine v_bipush S d_FV_isLocal_5 (v := (6 : Int32)) (by decide) ?_
    refine v_icmp_ge S d_FV_isLocal_7 (tgt := 14) (by decide) (fun h2 => ?_) (fun h2 => ?_)
    · refine v_iconst S d_FV_isLocal_14 (v := (0 : Int32)) (by decide) ?_
      exact v_zret S hret hlocks d_FV_isLocal_15
    · refine v_iconst S d_FV_isLocal_10 (v := (1 : Int32)) (by decide) ?_
      refine v_goto S d_FV_isLocal_11 (tgt := 15) (by decide) ?_
      exact v_zret S hret hlocks d_FV_isLocal_15
def fn_Op_jumps (σ : mm_M) (o : Nat) : Option (Int32 × mm_M) :=
    (if o = 7 then
    (if (1 : Int32) = 0 ∨ (1 : Int32) = 1 then some ((1 : Int32), σ) else none)
    else
    (if o = 8 then
    (if (1 : Int32) = 0 ∨ (1 : Int32) = 1 then some ((1 : Int32), σ) else none)
    else
    (if o = 10 then
    (if (1 : Int32) = 0 ∨ (1 : Int32) = 1 then some ((1 : Int32), σ) else none)
    else
    (if (0 : Int32) = 0 ∨ (0 : Int32) = 1 then some ((0 : Int32), σ) else none))))
set_option maxRecDepth 100000 in
set_option maxHeartbeats 40000000 in
theorem c_Op_jumps (l : Launch) (D : va_G) (ca : Nat → ClassId) (ax : Nat → Nat → Nat) (b : Nat) (σ : mm_M) (o : Nat) (ho : o < 20) {r : Int32} {σ' : mm_M} (hf : fn_Op_jumps σ o = some (r, σ')) : Met l y_Op_jumps w_Op_jumps rm_Op_jumps (pc_w D cls b N_C (ce_C ca b) (kC D ca ax b) [.ref (ax 0 o)] σ) (qc_i D cls b N_C (ce_C ca b) r σ') 0 0 (mm_A b N_C) := by
  refine vv_go (cc := b_Op_jumps) (maxL := 1) (ret := (some .boolean)) (fin := (r, σ')) (k := fn_Op_jumps σ o) (by decide) rfl (by simp [Value.category]) (Nat.le_of_ble_eq_true rfl) hf ?_
  intro p e s m below meth c hlocks hret S hKK
  unfold fn_Op_jumps
  refine v_aload_n S d_Op_jumps_0 rfl rfl ?_
  refine v_gets S (kc_zO hKK (i := 7) (by decide)) (S.2.2.2.2 _ (List.mem_cons_of_mem _ (wd_268))) (fun _ h => h) d_Op_jumps_1 ?_
  refine v_acmp_eq S d_Op_jumps_4 (tgt := 21) (by decide) (op_inj hKK ho (by decide)) (fun h1 => ?_) (fun h1 => ?_)
  · refine v_iconst S d_Op_jumps_21 (v := (1 : Int32)) (by decide) ?_
    refine v_goto S d_Op_jumps_22 (tgt := 26) (by decide) ?_
    exact v_zret S hret hlocks d_Op_jumps_26
  · refine v_aload_n S d_Op_jumps_7 rfl rfl ?_
    refine v_gets S (kc_zO hKK (i := 8) (by decide)) (S.2.2.2.2 _ (List.mem_cons_of_mem _ (wd_270))) (fun _ h => h) d_Op_jumps_8 ?_
    refine v_acmp_eq S d_Op_jumps_11 (tgt := 21) (by decide) (op_inj hKK ho (by decide)) (fun h2 => ?_) (fun h2 => ?_)
    · refine v_iconst S d_Op_jumps_21 (v := (1 : Int32)) (by decide) ?_
      refine v_goto S d_Op_jumps_22 (tgt := 26) (by decide) ?_
      exact v_zret S hret hlocks d_Op_jumps_26
    · refine v_aload_n S d_Op_jumps_14 rfl rfl ?_
      refine v_gets S (kc_zO hKK (i := 10) (by decide)) (S.2.2.2.2 _ (List.mem_cons_of_mem _ (wd_272))) (fun _ h => h) d_Op_jumps_15 ?_
      refine v_acmp_ne S d_Op_jumps_18 (tgt := 25) (by decide) (op_inj hKK ho (by decide)) (fun h3 => ?_) (fun h3 => ?_)
      · refine v_iconst S d_Op_jumps_25 (v := (0 : Int32)) (by decide) ?_
        exact v_zret S hret hlocks d_Op_jumps_26
      · refine v_iconst S d_Op_jumps_21 (v := (1 : Int32)) (by decide) ?_
        refine v_goto S d_Op_jumps_22 (tgt := 26) (by decide) ?_
        exact v_zret S hret hlocks d_Op_jumps_26
def fn_Co_numberFits (σ : mm_M) (o0 : Nat) (a1 : Int32) (a2 : Int32) : Option (Int32 × mm_M) :=
    (if ((nI o0) < 0 ∨ 20 ≤ (nI o0).toNatClampNeg) then none else
    (if (sw_op (nI o0).toNatClampNeg) = (1 : Int32) then
    (bd (fn_FV_isLocal σ a1) (fun r4 σ3 =>
    (if r4 = 0 then
    (if (0 : Int32) = 0 ∨ (0 : Int32) = 1 then some ((0 : Int32), σ3) else none)
    else
    (bd (fn_Ty_at σ3 a2 a1) (fun r7 σ6 =>
    (if r7 = (1 : Int32) then
    (if (1 : Int32) = 0 ∨ (1 : Int32) = 1 then some ((1 : Int32), σ6) else none)
    else
    (bd (fn_Ty_at σ6 a2 a1) (fun r10 σ9 =>
    (if r10 = (2 : Int32) then
    (if (1 : Int32) = 0 ∨ (1 : Int32) = 1 then some ((1 : Int32), σ9) else none)
    else
    (if (0 : Int32) = 0 ∨ (0 : Int32) = 1 then some ((0 : Int32), σ9) else none))))))))))
    else
    (if (sw_op (nI o0).toNatClampNeg) = (2 : Int32) then
    (bd (fn_FV_isLocal σ a1) (fun r14 σ13 =>
    (if r14 = 0 ∨ r14 = 1 then some (r14, σ13) else none)))
    else
    (if (sw_op (nI o0).toNatClampNeg) = (5 : Int32) then
    (bd (fn_Co_hasRoutine σ a1) (fun r17 σ16 =>
    (if r17 = 0 ∨ r17 = 1 then some (r17, σ16) else none)))
    else
    (bd (fn_Op_jumps σ o0) (fun r21 σ20 =>
    (if r21 = 0 then
    (if (1 : Int32) = 0 ∨ (1 : Int32) = 1 then some ((1 : Int32), σ20) else none)
    else
    (bd (fn_Co_hasInstruction σ20 a1) (fun r24 σ23 =>
    (if r24 = 0 then
    (if (0 : Int32) = 0 ∨ (0 : Int32) = 1 then some ((0 : Int32), σ23) else none)
    else
    (if (1 : Int32) = 0 ∨ (1 : Int32) = 1 then some ((1 : Int32), σ23) else none)))))))))))
set_option maxRecDepth 100000 in
set_option maxHeartbeats 40000000 in
theorem c_Co_numberFits (l : Launch) (D : va_G) (ca : Nat → ClassId) (ax : Nat → Nat → Nat) (b : Nat) (σ : mm_M) (o0 : Nat) (a1 : Int32) (a2 : Int32) (ho0 : o0 < 20) {r : Int32} {σ' : mm_M} (hf : fn_Co_numberFits σ o0 a1 a2 = some (r, σ')) : Met l y_Co_numberFits w_Co_numberFits rm_Co_numberFits (pc_w D cls b N_C (ce_C ca b) (kC D ca ax b) [.ref (b + 1), .ref (ax 0 o0), .int a1, .int a2] σ) (qc_i D cls b N_C (ce_C ca b) r σ') 0 0 (mm_A b N_C) := by
  refine vv_go (cc := b_Co_numberFits) (maxL := 4) (ret := (some .boolean)) (fin := (r, σ')) (k := fn_Co_numberFits σ o0 a1 a2) (by decide) rfl (by simp [Value.category]) (Nat.le_of_ble_eq_true rfl) hf ?_
  intro p e s m below meth c hlocks hret S hKK
  unfold fn_Co_numberFits
  refine v_gets S (kc_zOp hKK) (S.2.2.2.2 _ (List.mem_cons_of_mem _ (wd_251))) (fun _ h => h) d_Co_numberFits_0 ?_
  refine v_aload_n S d_Co_numberFits_3 rfl rfl ?_
  refine v_ordO (rest := [.ref (ax 3 0)]) S hKK ho0 (k_Co_93 S.2.2.2.2 (fun _ => List.mem_cons_of_mem _) ⟨Nat.le_of_ble_eq_true rfl, Nat.le_of_ble_eq_true rfl⟩) (by simp [Value.category]) d_Co_numberFits_4 ?_
  refine v_ti0 S (kc_swOp hKK) d_Co_numberFits_7 (fun h1 => ?_)
  refine v_tsw S (1 : Int32) (tgt := 44) d_Co_numberFits_8 (by decide) (by decide) (off := 36) rfl (by decide) (fun h2 => ?_) (fun h2 => ?_)
  · refine v_iload_n S d_Co_numberFits_44 rfl rfl ?_
    refine v_ci (rest := []) (fun _ _ hg H locs ls hsz hP hS => run_SN (As := [.int a1]) (rest := []) S kC_ok hKK (c_FV_isLocal l D ca ax b σ a1 hg) (k_nest hKK S.2.2.2.2 (fun _ => List.mem_cons_of_mem _) ⟨Nat.le_of_ble_eq_true rfl, Nat.le_of_ble_eq_true rfl⟩) rfl rfl (Nat.zero_le _) d_Co_numberFits_45 hsz hP hS) (fun r4 σ3 _ => ?_)
    refine v_if_eq S d_Co_numberFits_48 (tgt := 73) (by decide) (fun h5 => ?_) (fun h5 => ?_)
    · refine v_iconst S d_Co_numberFits_73 (v := (0 : Int32)) (by decide) ?_
      exact v_zret S hret hlocks d_Co_numberFits_74
    · refine v_iload_n S d_Co_numberFits_51 rfl rfl ?_
      refine v_iload_n S d_Co_numberFits_52 rfl rfl ?_
      refine v_ci (rest := []) (fun _ _ hg H locs ls hsz hP hS => run_S (As := [.int a2, .int a1]) (rest := []) S kC_ok hKK (c_Ty_at l D ca ax b σ3 a2 a1 hg) (k_Co_97 S.2.2.2.2 (fun _ => List.mem_cons_of_mem _) ⟨Nat.le_of_ble_eq_true rfl, Nat.le_of_ble_eq_true rfl⟩) rfl rfl (Nat.zero_le _) d_Co_numberFits_53 hsz hP hS) (fun r7 σ6 _ => ?_)
      refine v_iconst S d_Co_numberFits_56 (v := (1 : Int32)) (by decide) ?_
      refine v_icmp_eq S d_Co_numberFits_57 (tgt := 69) (by decide) (fun h8 => ?_) (fun h8 => ?_)
      · refine v_iconst S d_Co_numberFits_69 (v := (1 : Int32)) (by decide) ?_
        refine v_goto S d_Co_numberFits_70 (tgt := 74) (by decide) ?_
        exact v_zret S hret hlocks d_Co_numberFits_74
      · refine v_iload_n S d_Co_numberFits_60 rfl rfl ?_
        refine v_iload_n S d_Co_numberFits_61 rfl rfl ?_
        refine v_ci (rest := []) (fun _ _ hg H locs ls hsz hP hS => run_S (As := [.int a2, .int a1]) (rest := []) S kC_ok hKK (c_Ty_at l D ca ax b σ6 a2 a1 hg) (k_Co_97 S.2.2.2.2 (fun _ => List.mem_cons_of_mem _) ⟨Nat.le_of_ble_eq_true rfl, Nat.le_of_ble_eq_true rfl⟩) rfl rfl (Nat.zero_le _) d_Co_numberFits_62 hsz hP hS) (fun r10 σ9 _ => ?_)
        refine v_iconst S d_Co_numberFits_65 (v := (2 : Int32)) (by decide) ?_
        refine v_icmp_ne S d_Co_numberFits_66 (tgt := 73) (by decide) (fun h11 => ?_) (fun h11 => ?_)
        · refine v_iconst S d_Co_numberFits_73 (v := (0 : Int32)) (by decide) ?_
          exact v_zret S hret hlocks d_Co_numberFits_74
        · refine v_iconst S d_Co_numberFits_69 (v := (1 : Int32)) (by decide) ?_
          refine v_goto S d_Co_numberFits_70 (tgt := 74) (by decide) ?_
          exact v_zret S hret hlocks d_Co_numberFits_74
  · refine v_tsw S (2 : Int32) (tgt := 75) d_Co_numberFits_8 (by decide) (by decide) (off := 67) rfl (by decide) (fun h12 => ?_) (fun h12 => ?_)
    · refine v_iload_n S d_Co_numberFits_75 rfl rfl ?_
      refine v_ci (rest := []) (fun _ _ hg H locs ls hsz hP hS => run_SN (As := [.int a1]) (rest := []) S kC_ok hKK (c_FV_isLocal l D ca ax b σ a1 hg) (k_nest hKK S.2.2.2.2 (fun _ => List.mem_cons_of_mem _) ⟨Nat.le_of_ble_eq_true rfl, Nat.le_of_ble_eq_true rfl⟩) rfl rfl (Nat.zero_le _) d_Co_numberFits_76 hsz hP hS) (fun r14 σ13 _ => ?_)
      exact v_zret S hret hlocks d_Co_numberFits_79
    · refine v_tsw S (5 : Int32) (tgt := 80) d_Co_numberFits_8 (by decide) (by decide) (off := 72) rfl (by decide) (fun h15 => ?_) (fun h15 => ?_)
      · refine v_aload_n S d_Co_numberFits_80 rfl rfl ?_
        refine v_iload_n S d_Co_numberFits_81 rfl rfl ?_
        refine v_ci (rest := []) (fun _ _ hg H locs ls hsz hP hS => run_V (As := [.int a1]) (rest := []) S kC_ok hKK (c_Co_hasRoutine l D ca ax b σ a1 hg) (k_Co_112 S.2.2.2.2 (fun _ => List.mem_cons_of_mem _) ⟨Nat.le_of_ble_eq_true rfl, Nat.le_of_ble_eq_true rfl⟩) (rc_w hKK.1 hP 1 (by decide) rfl rfl) rfl rfl (Nat.zero_le _) d_Co_numberFits_82 hsz hP hS) (fun r17 σ16 _ => ?_)
        exact v_zret S hret hlocks d_Co_numberFits_85
      · refine v_tswQ S (3 : Int32) (tgt := 86) d_Co_numberFits_8 (by decide) (by decide) (off := 78) rfl (by decide) ?_ (fun h18 => ?_)
        · refine v_aload_n S d_Co_numberFits_86 rfl rfl ?_
          refine v_ci (rest := []) (fun _ _ hg H locs ls hsz hP hS => run_V (As := []) (rest := []) S kC_ok hKK (c_Op_jumps l D ca ax b σ o0 ho0 hg) (k_Co_115 S.2.2.2.2 (fun _ => List.mem_cons_of_mem _) ⟨Nat.le_of_ble_eq_true rfl, Nat.le_of_ble_eq_true rfl⟩) (rc_op hKK ho0 hS) rfl rfl (Nat.zero_le _) d_Co_numberFits_87 hsz hP hS) (fun r21 σ20 _ => ?_)
          refine v_if_eq S d_Co_numberFits_90 (tgt := 101) (by decide) (fun h22 => ?_) (fun h22 => ?_)
          · refine v_iconst S d_Co_numberFits_101 (v := (1 : Int32)) (by decide) ?_
            refine v_goto S d_Co_numberFits_102 (tgt := 106) (by decide) ?_
            exact v_zret S hret hlocks d_Co_numberFits_106
          · refine v_aload_n S d_Co_numberFits_93 rfl rfl ?_
            refine v_iload_n S d_Co_numberFits_94 rfl rfl ?_
            refine v_ci (rest := []) (fun _ _ hg H locs ls hsz hP hS => run_V (As := [.int a1]) (rest := []) S kC_ok hKK (c_Co_hasInstruction l D ca ax b σ20 a1 hg) (k_Co_63 S.2.2.2.2 (fun _ => List.mem_cons_of_mem _) ⟨Nat.le_of_ble_eq_true rfl, Nat.le_of_ble_eq_true rfl⟩) (rc_w hKK.1 hP 1 (by decide) rfl rfl) rfl rfl (Nat.zero_le _) d_Co_numberFits_95 hsz hP hS) (fun r24 σ23 _ => ?_)
            refine v_if_eq S d_Co_numberFits_98 (tgt := 105) (by decide) (fun h25 => ?_) (fun h25 => ?_)
            · refine v_iconst S d_Co_numberFits_105 (v := (0 : Int32)) (by decide) ?_
              exact v_zret S hret hlocks d_Co_numberFits_106
            · refine v_iconst S d_Co_numberFits_101 (v := (1 : Int32)) (by decide) ?_
              refine v_goto S d_Co_numberFits_102 (tgt := 106) (by decide) ?_
              exact v_zret S hret hlocks d_Co_numberFits_106
        · refine v_tswQ S (4 : Int32) (tgt := 86) d_Co_numberFits_8 (by decide) (by decide) (off := 78) rfl (by decide) ?_ (fun h19 => ?_)
          · refine v_aload_n S d_Co_numberFits_86 rfl rfl ?_
            refine v_ci (rest := []) (fun _ _ hg H locs ls hsz hP hS => run_V (As := []) (rest := []) S kC_ok hKK (c_Op_jumps l D ca ax b σ o0 ho0 hg) (k_Co_115 S.2.2.2.2 (fun _ => List.mem_cons_of_mem _) ⟨Nat.le_of_ble_eq_true rfl, Nat.le_of_ble_eq_true rfl⟩) (rc_op hKK ho0 hS) rfl rfl (Nat.zero_le _) d_Co_numberFits_87 hsz hP hS) (fun r21 σ20 _ => ?_)
            refine v_if_eq S d_Co_numberFits_90 (tgt := 101) (by decide) (fun h22 => ?_) (fun h22 => ?_)
            · refine v_iconst S d_Co_numberFits_101 (v := (1 : Int32)) (by decide) ?_
              refine v_goto S d_Co_numberFits_102 (tgt := 106) (by decide) ?_
              exact v_zret S hret hlocks d_Co_numberFits_106
            · refine v_aload_n S d_Co_numberFits_93 rfl rfl ?_
              refine v_iload_n S d_Co_numberFits_94 rfl rfl ?_
              refine v_ci (rest := []) (fun _ _ hg H locs ls hsz hP hS => run_V (As := [.int a1]) (rest := []) S kC_ok hKK (c_Co_hasInstruction l D ca ax b σ20 a1 hg) (k_Co_63 S.2.2.2.2 (fun _ => List.mem_cons_of_mem _) ⟨Nat.le_of_ble_eq_true rfl, Nat.le_of_ble_eq_true rfl⟩) (rc_w hKK.1 hP 1 (by decide) rfl rfl) rfl rfl (Nat.zero_le _) d_Co_numberFits_95 hsz hP hS) (fun r24 σ23 _ => ?_)
              refine v_if_eq S d_Co_numberFits_98 (tgt := 105) (by decide) (fun h25 => ?_) (fun h25 => ?_)
              · refine v_iconst S d_Co_numberFits_105 (v := (0 : Int32)) (by decide) ?_
                exact v_zret S hret hlocks d_Co_numberFits_106
              · refine v_iconst S d_Co_numberFits_101 (v := (1 : Int32)) (by decide) ?_
                refine v_goto S d_Co_numberFits_102 (tgt := 106) (by decide) ?_
                exact v_zret S hret hlocks d_Co_numberFits_106
          · refine v_tswD S (tgt := 86) d_Co_numberFits_8 (by have nh2 := i32_ne (n := 1) h2 (by decide); have nh12 := i32_ne (n := 2) h12 (by decide); have nh15 := i32_ne (n := 5) h15 (by decide); have nh18 := i32_ne (n := 3) h18 (by decide); have nh19 := i32_ne (n := 4) h19 (by decide); omega) (by decide) ?_
            refine v_aload_n S d_Co_numberFits_86 rfl rfl ?_
            refine v_ci (rest := []) (fun _ _ hg H locs ls hsz hP hS => run_V (As := []) (rest := []) S kC_ok hKK (c_Op_jumps l D ca ax b σ o0 ho0 hg) (k_Co_115 S.2.2.2.2 (fun _ => List.mem_cons_of_mem _) ⟨Nat.le_of_ble_eq_true rfl, Nat.le_of_ble_eq_true rfl⟩) (rc_op hKK ho0 hS) rfl rfl (Nat.zero_le _) d_Co_numberFits_87 hsz hP hS) (fun r21 σ20 _ => ?_)
            refine v_if_eq S d_Co_numberFits_90 (tgt := 101) (by decide) (fun h22 => ?_) (fun h22 => ?_)
            · refine v_iconst S d_Co_numberFits_101 (v := (1 : Int32)) (by decide) ?_
              refine v_goto S d_Co_numberFits_102 (tgt := 106) (by decide) ?_
              exact v_zret S hret hlocks d_Co_numberFits_106
            · refine v_aload_n S d_Co_numberFits_93 rfl rfl ?_
              refine v_iload_n S d_Co_numberFits_94 rfl rfl ?_
              refine v_ci (rest := []) (fun _ _ hg H locs ls hsz hP hS => run_V (As := [.int a1]) (rest := []) S kC_ok hKK (c_Co_hasInstruction l D ca ax b σ20 a1 hg) (k_Co_63 S.2.2.2.2 (fun _ => List.mem_cons_of_mem _) ⟨Nat.le_of_ble_eq_true rfl, Nat.le_of_ble_eq_true rfl⟩) (rc_w hKK.1 hP 1 (by decide) rfl rfl) rfl rfl (Nat.zero_le _) d_Co_numberFits_95 hsz hP hS) (fun r24 σ23 _ => ?_)
              refine v_if_eq S d_Co_numberFits_98 (tgt := 105) (by decide) (fun h25 => ?_) (fun h25 => ?_)
              · refine v_iconst S d_Co_numberFits_105 (v := (0 : Int32)) (by decide) ?_
                exact v_zret S hret hlocks d_Co_numberFits_106
              · refine v_iconst S d_Co_numberFits_101 (v := (1 : Int32)) (by decide) ?_
                refine v_goto S d_Co_numberFits_102 (tgt := 106) (by decide) ?_
                exact v_zret S hret hlocks d_Co_numberFits_106
def fn_Co_takenCount (σ : mm_M) (o0 : Nat) (a1 : Int32) : Option (Int32 × mm_M) :=
    (if o0 = 18 then
    (if (a1 < 0 ∨ 4 ≤ a1.toNatClampNeg) then none else
    (some ((σ 6 a1.toNatClampNeg), σ)))
    else
    (some ((st_len o0), σ)))
set_option maxRecDepth 100000 in
set_option maxHeartbeats 40000000 in
theorem c_Co_takenCount (l : Launch) (D : va_G) (ca : Nat → ClassId) (ax : Nat → Nat → Nat) (b : Nat) (σ : mm_M) (o0 : Nat) (a1 : Int32) (ho0 : o0 < 20) {r : Int32} {σ' : mm_M} (hf : fn_Co_takenCount σ o0 a1 = some (r, σ')) : Met l y_Co_takenCount w_Co_takenCount rm_Co_takenCount (pc_w D cls b N_C (ce_C ca b) (kC D ca ax b) [.ref (b + 1), .ref (ax 0 o0), .int a1] σ) (qc_i D cls b N_C (ce_C ca b) r σ') 0 0 (mm_A b N_C) := by
  refine vv_go (cc := b_Co_takenCount) (maxL := 3) (ret := (some .int)) (fin := (r, σ')) (k := fn_Co_takenCount σ o0 a1) (by decide) rfl (by simp [Value.category]) (Nat.le_of_ble_eq_true rfl) hf ?_
  intro p e s m below meth c hlocks hret S hKK
  unfold fn_Co_takenCount
  refine v_aload_n S d_Co_takenCount_0 rfl rfl ?_
  refine v_gets S (kc_zO hKK (i := 18) (by decide)) (S.2.2.2.2 _ (List.mem_cons_of_mem _ (wd_282))) (fun _ h => h) d_Co_takenCount_1 ?_
  refine v_acmp_ne S d_Co_takenCount_4 (tgt := 16) (by decide) (op_inj hKK ho0 (by decide)) (fun h1 => ?_) (fun h1 => ?_)
  · refine v_aload_n S d_Co_takenCount_16 rfl rfl ?_
    refine v_of S (kc_fT hKK ho0) (S.2.2.2.2 _ (List.mem_cons_of_mem _ (wd_988))) (fun _ h => h) d_Co_takenCount_17 ?_
    refine v_strLen (rest := []) S hKK ho0 (k_Co_127 S.2.2.2.2 (fun _ => List.mem_cons_of_mem _) ⟨Nat.le_of_ble_eq_true rfl, Nat.le_of_ble_eq_true rfl⟩) (Nat.zero_le _) d_Co_takenCount_20 ?_
    exact v_iret S hret hlocks d_Co_takenCount_23
  · refine v_aload_n S d_Co_takenCount_7 rfl rfl ?_
    refine v_get S (fun w h => List.mem_cons_of_mem _ (i_Co w h)) hKK.1 1 (by decide) rfl rfl 5 (by decide) (S.2.2.2.2 _ (List.mem_cons_of_mem _ (wd_47))) (fun _ h => h) rfl d_Co_takenCount_8 ?_
    refine v_iload_n S d_Co_takenCount_11 rfl rfl ?_
    refine v_iald S hKK.1 6 0 (by decide) rfl rfl d_Co_takenCount_12 (fun h2 => ?_)
    refine v_goto S d_Co_takenCount_13 (tgt := 23) (by decide) ?_
    exact v_iret S hret hlocks d_Co_takenCount_23
def fn_Op_wanted (σ : mm_M) (o : Nat) (a0 : Int32) : Option (Int32 × mm_M) :=
    (if ((((st_len o) - (1 : Int32)) - a0) < 0 ∨ st_n o ≤ (((st_len o) - (1 : Int32)) - a0).toNatClampNeg) then none else
    (nm (st_at o (((st_len o) - (1 : Int32)) - a0).toNatClampNeg) (fun x2 =>
    (if x2 = (105 : Int32) then
    (some ((1 : Int32), σ))
    else
    (if x2 = (114 : Int32) then
    (some ((2 : Int32), σ))
    else
    (some ((3 : Int32), σ)))))))
set_option maxRecDepth 100000 in
set_option maxHeartbeats 40000000 in
theorem c_Op_wanted (l : Launch) (D : va_G) (ca : Nat → ClassId) (ax : Nat → Nat → Nat) (b : Nat) (σ : mm_M) (o : Nat) (a0 : Int32) (ho : o < 20) {r : Int32} {σ' : mm_M} (hf : fn_Op_wanted σ o a0 = some (r, σ')) : Met l y_Op_wanted w_Op_wanted rm_Op_wanted (pc_w D cls b N_C (ce_C ca b) (kC D ca ax b) [.ref (ax 0 o), .int a0] σ) (qc_i D cls b N_C (ce_C ca b) r σ') 0 0 (mm_A b N_C) := by
  refine vv_go (cc := b_Op_wanted) (maxL := 3) (ret := (some .int)) (fin := (r, σ')) (k := fn_Op_wanted σ o a0) (by decide) rfl (by simp [Value.category]) (Nat.le_of_ble_eq_true rfl) hf ?_
  intro p e s m below meth c hlocks hret S hKK
  unfold fn_Op_wanted
  refine v_aload_n S d_Op_wanted_0 rfl rfl ?_
  refine v_of S (kc_fT hKK ho) (S.2.2.2.2 _ (List.mem_cons_of_mem _ (wd_991))) (fun _ h => h) d_Op_wanted_1 ?_
  refine v_aload_n S d_Op_wanted_4 rfl rfl ?_
  refine v_of S (kc_fT hKK ho) (S.2.2.2.2 _ (List.mem_cons_of_mem _ (wd_991))) (fun _ h => h) d_Op_wanted_5 ?_
  refine v_strLen (rest := [.ref (ax 5 (st_of o))]) S hKK ho (k_Op_97 S.2.2.2.2 (fun _ => List.mem_cons_of_mem _) ⟨Nat.le_of_ble_eq_true rfl, Nat.le_of_ble_eq_true rfl⟩) (by simp [Value.category]) d_Op_wanted_8 ?_
  refine v_iconst S d_Op_wanted_11 (v := (1 : Int32)) (by decide) ?_
  refine v_isub S d_Op_wanted_12 ?_
  refine v_iload_n S d_Op_wanted_13 rfl rfl ?_
  refine v_isub S d_Op_wanted_14 ?_
  refine v_strAt (rest := []) S hKK ho (k_Op_103 S.2.2.2.2 (fun _ => List.mem_cons_of_mem _) ⟨Nat.le_of_ble_eq_true rfl, Nat.le_of_ble_eq_true rfl⟩) (Nat.zero_le _) d_Op_wanted_15 (fun h1 => ?_)
  refine v_top (fun x2 ex2 => ?_)
  refine v_istore_nP S d_Op_wanted_18 rfl (by decide) (L2 := [some (.ref (ax 0 o)), some (.int a0), some (.int x2)]) rfl ?_
  refine v_iload_n S d_Op_wanted_19 rfl rfl ?_
  refine v_bipush S d_Op_wanted_20 (v := (105 : Int32)) (by decide) ?_
  refine v_icmp_ne S d_Op_wanted_22 (tgt := 27) (by decide) (fun h3 => ?_) (fun h3 => ?_)
  · refine v_iload_n S d_Op_wanted_27 rfl rfl ?_
    refine v_bipush S d_Op_wanted_28 (v := (114 : Int32)) (by decide) ?_
    refine v_icmp_ne S d_Op_wanted_30 (tgt := 37) (by decide) (fun h4 => ?_) (fun h4 => ?_)
    · refine v_iconst S d_Op_wanted_37 (v := (3 : Int32)) (by decide) ?_
      exact v_iret S hret hlocks d_Op_wanted_38
    · refine v_iconst S d_Op_wanted_33 (v := (2 : Int32)) (by decide) ?_
      refine v_goto S d_Op_wanted_34 (tgt := 38) (by decide) ?_
      exact v_iret S hret hlocks d_Op_wanted_38
  · refine v_iconst S d_Op_wanted_25 (v := (1 : Int32)) (by decide) ?_
    exact v_iret S hret hlocks d_Op_wanted_26

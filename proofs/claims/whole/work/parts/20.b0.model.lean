/-! contracts of 20.model; written by wip/whole/make.py -/
def fn_Mo_thrown (σ : mm_M)  : Option (Int32 × mm_M) :=
    (some ((σ 0 26), σ))
set_option maxRecDepth 100000 in
set_option maxHeartbeats 40000000 in
theorem c_Mo_thrown (l : Launch) (D : va_G) (ca : Nat → ClassId) (ax : Nat → Nat → Nat) (b : Nat) (σ : mm_M)   {r : Int32} {σ' : mm_M} (hf : fn_Mo_thrown σ  = some (r, σ')) : Met l y_Mo_thrown w_Mo_thrown rm_Mo_thrown (pc_w D cls b N_M (ce_M ca b) (kM D ca ax b) [.ref (b + 0)] σ) (qc_i D cls b N_M (ce_M ca b) r σ') 0 0 (mm_A b N_M) := by
  refine vv_go (cc := b_Mo_thrown) (maxL := 1) (ret := (some .int)) (fin := (r, σ')) (k := fn_Mo_thrown σ ) (by decide) rfl (by simp [Value.category]) (Nat.le_of_ble_eq_true rfl) hf ?_
  intro p e s m below meth c hlocks hret S hKK
  unfold fn_Mo_thrown
  refine v_aload_n S d_Mo_thrown_0 rfl rfl ?_
  refine v_get S (fun w h => List.mem_cons_of_mem _ (i_Mo w h)) hKK.1 0 (by decide) rfl rfl 26 (by decide) (S.2.2.2.2 _ (List.mem_cons_of_mem _ (wd_767))) (fun _ h => h) rfl d_Mo_thrown_1 ?_
  exact v_iret S hret hlocks d_Mo_thrown_4
def fn_Mo_add_15 (a0 : Int32) (a1 : Int32) (σ : mm_M) (s0 : Int32) : Option (Int32 × mm_M) :=
    (nm (mw σ 0 26 s0) (fun σ2 =>
    (if (σ2 0 26) = 0 then
    (if ((σ2 0 0) < 0 ∨ 100 ≤ (σ2 0 0).toNatClampNeg) then none else (nm (mw σ2 1 (σ2 0 0).toNatClampNeg a0) (fun σ5 =>
    (if ((σ5 0 0) < 0 ∨ 100 ≤ (σ5 0 0).toNatClampNeg) then none else (nm (mw σ5 2 (σ5 0 0).toNatClampNeg a1) (fun σ7 =>
    (nm (mw σ7 0 0 ((σ7 0 0) + (1 : Int32))) (fun σ8 =>
    (nm (mw σ8 0 7 (0 : Int32)) (fun σ9 =>
    (some (((σ9 0 0) - (1 : Int32)), σ9))))))))))))
    else
    (some ((0 : Int32), σ2)))))
def fn_Mo_add (σ : mm_M) (a0 : Int32) (a1 : Int32) : Option (Int32 × mm_M) :=
    (if (σ 0 0) = (100 : Int32) then
    (fn_Mo_add_15 a0 a1 σ (1 : Int32))
    else
    (fn_Mo_add_15 a0 a1 σ (0 : Int32)))
set_option maxRecDepth 100000 in
set_option maxHeartbeats 40000000 in
theorem c_Mo_add (l : Launch) (D : va_G) (ca : Nat → ClassId) (ax : Nat → Nat → Nat) (b : Nat) (σ : mm_M) (a0 : Int32) (a1 : Int32)  {r : Int32} {σ' : mm_M} (hf : fn_Mo_add σ a0 a1 = some (r, σ')) : Met l y_Mo_add w_Mo_add rm_Mo_add (pc_w D cls b N_M (ce_M ca b) (kM D ca ax b) [.ref (b + 0), .int a0, .int a1] σ) (qc_i D cls b N_M (ce_M ca b) r σ') 0 0 (mm_A b N_M) := by
  refine vv_go (cc := b_Mo_add) (maxL := 3) (ret := (some .int)) (fin := (r, σ')) (k := fn_Mo_add σ a0 a1) (by decide) rfl (by simp [Value.category]) (Nat.le_of_ble_eq_true rfl) hf ?_
  intro p e s m below meth c hlocks hret S hKK
  have C15 : ∀ (σ : mm_M) (s0 : Int32), vv p l e (headSpec w_Mo_add rm_Mo_add).room s m [.ref (b + 0), .int a0, .int a1].toArray below meth c D cls b N_M (ce_M ca b) 3 (MQ below (qc_i D cls b N_M (ce_M ca b) r σ') [.ref (b + 0), .int a0, .int a1].toArray s 0 0 (mm_A b N_M)) (r, σ') (fn_Mo_add_15 a0 a1 σ s0) σ 15 [some (.ref (b + 0)), some (.int a0), some (.int a1)] [.int s0, .ref (b + 0)] := by
    intro σ s0
    unfold fn_Mo_add_15
    refine v_puti S (fun w h => List.mem_cons_of_mem _ (i_Mo w h)) hKK.1 0 (by decide) rfl rfl 26 (by decide) (S.2.2.2.2 _ (List.mem_cons_of_mem _ (wd_767))) (fun _ h => h) t_Mo t_Mo_ok n_Mo rfl (ty := .int) rfl rfl rfl (Nat.le_of_ble_eq_true rfl) rfl d_Mo_add_15 ?_
    refine v_sg (fun σ2 eσ2 => ?_)
    refine v_aload_n S d_Mo_add_18 rfl rfl ?_
    refine v_get S (fun w h => List.mem_cons_of_mem _ (i_Mo w h)) hKK.1 0 (by decide) rfl rfl 26 (by decide) (S.2.2.2.2 _ (List.mem_cons_of_mem _ (wd_767))) (fun _ h => h) rfl d_Mo_add_19 ?_
    refine v_if_eq S d_Mo_add_22 (tgt := 27) (by decide) (fun h3 => ?_) (fun h3 => ?_)
    · refine v_aload_n S d_Mo_add_27 rfl rfl ?_
      refine v_get S (fun w h => List.mem_cons_of_mem _ (i_Mo w h)) hKK.1 0 (by decide) rfl rfl 1 (by decide) (S.2.2.2.2 _ (List.mem_cons_of_mem _ (wd_742))) (fun _ h => h) rfl d_Mo_add_28 ?_
      refine v_aload_n S d_Mo_add_31 rfl rfl ?_
      refine v_get S (fun w h => List.mem_cons_of_mem _ (i_Mo w h)) hKK.1 0 (by decide) rfl rfl 0 (by decide) (S.2.2.2.2 _ (List.mem_cons_of_mem _ (wd_741))) (fun _ h => h) rfl d_Mo_add_32 ?_
      refine v_iload_n S d_Mo_add_35 rfl rfl ?_
      refine v_iast1 S hKK.1 1 0 (by decide) (fun _ => rfl) rfl d_Mo_add_36 (fun h4 => ?_)
      refine v_sg (fun σ5 eσ5 => ?_)
      refine v_aload_n S d_Mo_add_37 rfl rfl ?_
      refine v_get S (fun w h => List.mem_cons_of_mem _ (i_Mo w h)) hKK.1 0 (by decide) rfl rfl 2 (by decide) (S.2.2.2.2 _ (List.mem_cons_of_mem _ (wd_743))) (fun _ h => h) rfl d_Mo_add_38 ?_
      refine v_aload_n S d_Mo_add_41 rfl rfl ?_
      refine v_get S (fun w h => List.mem_cons_of_mem _ (i_Mo w h)) hKK.1 0 (by decide) rfl rfl 0 (by decide) (S.2.2.2.2 _ (List.mem_cons_of_mem _ (wd_741))) (fun _ h => h) rfl d_Mo_add_42 ?_
      refine v_iload_n S d_Mo_add_45 rfl rfl ?_
      refine v_iast1 S hKK.1 2 0 (by decide) (fun _ => rfl) rfl d_Mo_add_46 (fun h6 => ?_)
      refine v_sg (fun σ7 eσ7 => ?_)
      refine v_aload_n S d_Mo_add_47 rfl rfl ?_
      refine v_dup S d_Mo_add_48 rfl ?_
      refine v_get S (fun w h => List.mem_cons_of_mem _ (i_Mo w h)) hKK.1 0 (by decide) rfl rfl 0 (by decide) (S.2.2.2.2 _ (List.mem_cons_of_mem _ (wd_741))) (fun _ h => h) rfl d_Mo_add_49 ?_
      refine v_iconst S d_Mo_add_52 (v := (1 : Int32)) (by decide) ?_
      refine v_iadd S d_Mo_add_53 ?_
      refine v_puti S (fun w h => List.mem_cons_of_mem _ (i_Mo w h)) hKK.1 0 (by decide) rfl rfl 0 (by decide) (S.2.2.2.2 _ (List.mem_cons_of_mem _ (wd_741))) (fun _ h => h) t_Mo t_Mo_ok n_Mo rfl (ty := .int) rfl rfl rfl (Nat.le_of_ble_eq_true rfl) rfl d_Mo_add_54 ?_
      refine v_sg (fun σ8 eσ8 => ?_)
      refine v_aload_n S d_Mo_add_57 rfl rfl ?_
      refine v_iconst S d_Mo_add_58 (v := (0 : Int32)) (by decide) ?_
      refine v_puti S (fun w h => List.mem_cons_of_mem _ (i_Mo w h)) hKK.1 0 (by decide) rfl rfl 7 (by decide) (S.2.2.2.2 _ (List.mem_cons_of_mem _ (wd_748))) (fun _ h => h) t_Mo t_Mo_ok n_Mo rfl (ty := .boolean) rfl rfl rfl (Nat.le_of_ble_eq_true rfl) rfl d_Mo_add_59 ?_
      refine v_sg (fun σ9 eσ9 => ?_)
      refine v_aload_n S d_Mo_add_62 rfl rfl ?_
      refine v_get S (fun w h => List.mem_cons_of_mem _ (i_Mo w h)) hKK.1 0 (by decide) rfl rfl 0 (by decide) (S.2.2.2.2 _ (List.mem_cons_of_mem _ (wd_741))) (fun _ h => h) rfl d_Mo_add_63 ?_
      refine v_iconst S d_Mo_add_66 (v := (1 : Int32)) (by decide) ?_
      refine v_isub S d_Mo_add_67 ?_
      exact v_iret S hret hlocks d_Mo_add_68
    · refine v_iconst S d_Mo_add_25 (v := (0 : Int32)) (by decide) ?_
      exact v_iret S hret hlocks d_Mo_add_26
  unfold fn_Mo_add
  refine v_aload_n S d_Mo_add_0 rfl rfl ?_
  refine v_aload_n S d_Mo_add_1 rfl rfl ?_
  refine v_get S (fun w h => List.mem_cons_of_mem _ (i_Mo w h)) hKK.1 0 (by decide) rfl rfl 0 (by decide) (S.2.2.2.2 _ (List.mem_cons_of_mem _ (wd_741))) (fun _ h => h) rfl d_Mo_add_2 ?_
  refine v_bipush S d_Mo_add_5 (v := (100 : Int32)) (by decide) ?_
  refine v_icmp_ne S d_Mo_add_7 (tgt := 14) (by decide) (fun h1 => ?_) (fun h1 => ?_)
  · refine v_iconst S d_Mo_add_14 (v := (0 : Int32)) (by decide) ?_
    refine v_sub (L2 := [some (.ref (b + 0)), some (.int a0), some (.int a1)]) (And.intro rfl (And.intro rfl (And.intro rfl True.intro))) ?_
    exact C15 σ (0 : Int32)
  · refine v_iconst S d_Mo_add_10 (v := (1 : Int32)) (by decide) ?_
    refine v_goto S d_Mo_add_11 (tgt := 15) (by decide) ?_
    refine v_sub (L2 := [some (.ref (b + 0)), some (.int a0), some (.int a1)]) (And.intro rfl (And.intro rfl (And.intro rfl True.intro))) ?_
    exact C15 σ (1 : Int32)
def fn_Mo_routine (σ : mm_M) (a0 : Int32) (a1 : Int32) (a2 : Int32) (a3 : Int32) : Option (Int32 × mm_M) :=
    (nm (mw σ 0 26 (0 : Int32)) (fun σ1 =>
    (if a0 < 0 then
    (if (0 : Int32) = 0 ∨ (0 : Int32) = 1 then some ((0 : Int32), σ1) else none)
    else
    (if (3 : Int32) < a0 then
    (if (0 : Int32) = 0 ∨ (0 : Int32) = 1 then some ((0 : Int32), σ1) else none)
    else
    (if a2 < 0 then
    (if (0 : Int32) = 0 ∨ (0 : Int32) = 1 then some ((0 : Int32), σ1) else none)
    else
    (if (3 : Int32) < a2 then
    (if (0 : Int32) = 0 ∨ (0 : Int32) = 1 then some ((0 : Int32), σ1) else none)
    else
    (if a3 < 0 then
    (if (0 : Int32) = 0 ∨ (0 : Int32) = 1 then some ((0 : Int32), σ1) else none)
    else
    (if a3 ≤ (15 : Int32) then
    (if (a0 < 0 ∨ 4 ≤ a0.toNatClampNeg) then none else (nm (mw σ1 3 a0.toNatClampNeg (1 : Int32)) (fun σ9 =>
    (if (a0 < 0 ∨ 4 ≤ a0.toNatClampNeg) then none else (nm (mw σ9 4 a0.toNatClampNeg a1) (fun σ11 =>
    (if (a0 < 0 ∨ 4 ≤ a0.toNatClampNeg) then none else (nm (mw σ11 5 a0.toNatClampNeg a2) (fun σ13 =>
    (if (a0 < 0 ∨ 4 ≤ a0.toNatClampNeg) then none else (nm (mw σ13 6 a0.toNatClampNeg a3) (fun σ15 =>
    (nm (mw σ15 0 7 (0 : Int32)) (fun σ16 =>
    (if (1 : Int32) = 0 ∨ (1 : Int32) = 1 then some ((1 : Int32), σ16) else none)))))))))))))))
    else
    (if (0 : Int32) = 0 ∨ (0 : Int32) = 1 then some ((0 : Int32), σ1) else none)))))))))
set_option maxRecDepth 100000 in
set_option maxHeartbeats 40000000 in
theorem c_Mo_routine (l : Launch) (D : va_G) (ca : Nat → ClassId) (ax : Nat → Nat → Nat) (b : Nat) (σ : mm_M) (a0 : Int32) (a1 : Int32) (a2 : Int32) (a3 : Int32)  {r : Int32} {σ' : mm_M} (hf : fn_Mo_routine σ a0 a1 a2 a3 = some (r, σ')) : Met l y_Mo_routine w_Mo_routine rm_Mo_routine (pc_w D cls b N_M (ce_M ca b) (kM D ca ax b) [.ref (b + 0), .int a0, .int a1, .int a2, .int a3] σ) (qc_i D cls b N_M (ce_M ca b) r σ') 0 0 (mm_A b N_M) := by
  refine vv_go (cc := b_Mo_routine) (maxL := 5) (ret := (some .boolean)) (fin := (r, σ')) (k := fn_Mo_routine σ a0 a1 a2 a3) (by decide) rfl (by simp [Value.category]) (Nat.le_of_ble_eq_true rfl) hf ?_
  intro p e s m below meth c hlocks hret S hKK
  unfold fn_Mo_routine
  refine v_aload_n S d_Mo_routine_0 rfl rfl ?_
  refine v_iconst S d_Mo_routine_1 (v := (0 : Int32)) (by decide) ?_
  refine v_puti S (fun w h => List.mem_cons_of_mem _ (i_Mo w h)) hKK.1 0 (by decide) rfl rfl 26 (by decide) (S.2.2.2.2 _ (List.mem_cons_of_mem _ (wd_767))) (fun _ h => h) t_Mo t_Mo_ok n_Mo rfl (ty := .int) rfl rfl rfl (Nat.le_of_ble_eq_true rfl) rfl d_Mo_routine_2 ?_
  refine v_sg (fun σ1 eσ1 => ?_)
  refine v_iload_n S d_Mo_routine_5 rfl rfl ?_
  refine v_if_lt S d_Mo_routine_6 (tgt := 35) (by decide) (fun h2 => ?_) (fun h2 => ?_)
  · refine v_iconst S d_Mo_routine_35 (v := (0 : Int32)) (by decide) ?_
    exact v_zret S hret hlocks d_Mo_routine_36
  · refine v_iload_n S d_Mo_routine_9 rfl rfl ?_
    refine v_iconst S d_Mo_routine_10 (v := (3 : Int32)) (by decide) ?_
    refine v_icmp_gt S d_Mo_routine_11 (tgt := 35) (by decide) (fun h3 => ?_) (fun h3 => ?_)
    · refine v_iconst S d_Mo_routine_35 (v := (0 : Int32)) (by decide) ?_
      exact v_zret S hret hlocks d_Mo_routine_36
    · refine v_iload_n S d_Mo_routine_14 rfl rfl ?_
      refine v_if_lt S d_Mo_routine_15 (tgt := 35) (by decide) (fun h4 => ?_) (fun h4 => ?_)
      · refine v_iconst S d_Mo_routine_35 (v := (0 : Int32)) (by decide) ?_
        exact v_zret S hret hlocks d_Mo_routine_36
      · refine v_iload_n S d_Mo_routine_18 rfl rfl ?_
        refine v_iconst S d_Mo_routine_19 (v := (3 : Int32)) (by decide) ?_
        refine v_icmp_gt S d_Mo_routine_20 (tgt := 35) (by decide) (fun h5 => ?_) (fun h5 => ?_)
        · refine v_iconst S d_Mo_routine_35 (v := (0 : Int32)) (by decide) ?_
          exact v_zret S hret hlocks d_Mo_routine_36
        · refine v_iload S d_Mo_routine_23 rfl ?_
          refine v_if_lt S d_Mo_routine_25 (tgt := 35) (by decide) (fun h6 => ?_) (fun h6 => ?_)
          · refine v_iconst S d_Mo_routine_35 (v := (0 : Int32)) (by decide) ?_
            exact v_zret S hret hlocks d_Mo_routine_36
          · refine v_iload S d_Mo_routine_28 rfl ?_
            refine v_bipush S d_Mo_routine_30 (v := (15 : Int32)) (by decide) ?_
            refine v_icmp_le S d_Mo_routine_32 (tgt := 37) (by decide) (fun h7 => ?_) (fun h7 => ?_)
            · refine v_aload_n S d_Mo_routine_37 rfl rfl ?_
              refine v_get S (fun w h => List.mem_cons_of_mem _ (i_Mo w h)) hKK.1 0 (by decide) rfl rfl 3 (by decide) (S.2.2.2.2 _ (List.mem_cons_of_mem _ (wd_744))) (fun _ h => h) rfl d_Mo_routine_38 ?_
              refine v_iload_n S d_Mo_routine_41 rfl rfl ?_
              refine v_iconst S d_Mo_routine_42 (v := (1 : Int32)) (by decide) ?_
              refine v_zast1 S hKK.1 3 1 (by decide) (fun _ => rfl) rfl (Or.inr rfl) d_Mo_routine_43 (fun h8 => ?_)
              refine v_sg (fun σ9 eσ9 => ?_)
              refine v_aload_n S d_Mo_routine_44 rfl rfl ?_
              refine v_get S (fun w h => List.mem_cons_of_mem _ (i_Mo w h)) hKK.1 0 (by decide) rfl rfl 4 (by decide) (S.2.2.2.2 _ (List.mem_cons_of_mem _ (wd_745))) (fun _ h => h) rfl d_Mo_routine_45 ?_
              refine v_iload_n S d_Mo_routine_48 rfl rfl ?_
              refine v_iload_n S d_Mo_routine_49 rfl rfl ?_
              refine v_iast1 S hKK.1 4 0 (by decide) (fun _ => rfl) rfl d_Mo_routine_50 (fun h10 => ?_)
              refine v_sg (fun σ11 eσ11 => ?_)
              refine v_aload_n S d_Mo_routine_51 rfl rfl ?_
              refine v_get S (fun w h => List.mem_cons_of_mem _ (i_Mo w h)) hKK.1 0 (by decide) rfl rfl 5 (by decide) (S.2.2.2.2 _ (List.mem_cons_of_mem _ (wd_746))) (fun _ h => h) rfl d_Mo_routine_52 ?_
              refine v_iload_n S d_Mo_routine_55 rfl rfl ?_
              refine v_iload_n S d_Mo_routine_56 rfl rfl ?_
              refine v_iast1 S hKK.1 5 0 (by decide) (fun _ => rfl) rfl d_Mo_routine_57 (fun h12 => ?_)
              refine v_sg (fun σ13 eσ13 => ?_)
              refine v_aload_n S d_Mo_routine_58 rfl rfl ?_
              refine v_get S (fun w h => List.mem_cons_of_mem _ (i_Mo w h)) hKK.1 0 (by decide) rfl rfl 6 (by decide) (S.2.2.2.2 _ (List.mem_cons_of_mem _ (wd_747))) (fun _ h => h) rfl d_Mo_routine_59 ?_
              refine v_iload_n S d_Mo_routine_62 rfl rfl ?_
              refine v_iload S d_Mo_routine_63 rfl ?_
              refine v_iast1 S hKK.1 6 0 (by decide) (fun _ => rfl) rfl d_Mo_routine_65 (fun h14 => ?_)
              refine v_sg (fun σ15 eσ15 => ?_)
              refine v_aload_n S d_Mo_routine_66 rfl rfl ?_
              refine v_iconst S d_Mo_routine_67 (v := (0 : Int32)) (by decide) ?_
              refine v_puti S (fun w h => List.mem_cons_of_mem _ (i_Mo w h)) hKK.1 0 (by decide) rfl rfl 7 (by decide) (S.2.2.2.2 _ (List.mem_cons_of_mem _ (wd_748))) (fun _ h => h) t_Mo t_Mo_ok n_Mo rfl (ty := .boolean) rfl rfl rfl (Nat.le_of_ble_eq_true rfl) rfl d_Mo_routine_68 ?_
              refine v_sg (fun σ16 eσ16 => ?_)
              refine v_iconst S d_Mo_routine_71 (v := (1 : Int32)) (by decide) ?_
              exact v_zret S hret hlocks d_Mo_routine_72
            · refine v_iconst S d_Mo_routine_35 (v := (0 : Int32)) (by decide) ?_
              exact v_zret S hret hlocks d_Mo_routine_36
def fn_Mo_kindOf (σ : mm_M) (a0 : Int32) (a1 : Int32) : Option (Int32 × mm_M) :=
    (if (a0 < 0 ∨ 4 ≤ a0.toNatClampNeg) then none else
    (if (((σ 6 a0.toNatClampNeg) >>> (a1 &&& 31)) &&& (1 : Int32)) = (1 : Int32) then
    (some ((2 : Int32), σ))
    else
    (some ((1 : Int32), σ))))
set_option maxRecDepth 100000 in
set_option maxHeartbeats 40000000 in
theorem c_Mo_kindOf (l : Launch) (D : va_G) (ca : Nat → ClassId) (ax : Nat → Nat → Nat) (b : Nat) (σ : mm_M) (a0 : Int32) (a1 : Int32)  {r : Int32} {σ' : mm_M} (hf : fn_Mo_kindOf σ a0 a1 = some (r, σ')) : Met l y_Mo_kindOf w_Mo_kindOf rm_Mo_kindOf (pc_w D cls b N_M (ce_M ca b) (kM D ca ax b) [.ref (b + 0), .int a0, .int a1] σ) (qc_i D cls b N_M (ce_M ca b) r σ') 0 0 (mm_A b N_M) := by
  refine vv_go (cc := b_Mo_kindOf) (maxL := 3) (ret := (some .int)) (fin := (r, σ')) (k := fn_Mo_kindOf σ a0 a1) (by decide) rfl (by simp [Value.category]) (Nat.le_of_ble_eq_true rfl) hf ?_
  intro p e s m below meth c hlocks hret S hKK
  unfold fn_Mo_kindOf
  refine v_aload_n S d_Mo_kindOf_0 rfl rfl ?_
  refine v_get S (fun w h => List.mem_cons_of_mem _ (i_Mo w h)) hKK.1 0 (by decide) rfl rfl 6 (by decide) (S.2.2.2.2 _ (List.mem_cons_of_mem _ (wd_747))) (fun _ h => h) rfl d_Mo_kindOf_1 ?_
  refine v_iload_n S d_Mo_kindOf_4 rfl rfl ?_
  refine v_iald S hKK.1 6 0 (by decide) rfl rfl d_Mo_kindOf_5 (fun h1 => ?_)
  refine v_iload_n S d_Mo_kindOf_6 rfl rfl ?_
  refine v_ishr S d_Mo_kindOf_7 ?_
  refine v_iconst S d_Mo_kindOf_8 (v := (1 : Int32)) (by decide) ?_
  refine v_iand S d_Mo_kindOf_9 ?_
  refine v_iconst S d_Mo_kindOf_10 (v := (1 : Int32)) (by decide) ?_
  refine v_icmp_ne S d_Mo_kindOf_11 (tgt := 18) (by decide) (fun h2 => ?_) (fun h2 => ?_)
  · refine v_iconst S d_Mo_kindOf_18 (v := (1 : Int32)) (by decide) ?_
    exact v_iret S hret hlocks d_Mo_kindOf_19
  · refine v_iconst S d_Mo_kindOf_14 (v := (2 : Int32)) (by decide) ?_
    refine v_goto S d_Mo_kindOf_15 (tgt := 19) (by decide) ?_
    exact v_iret S hret hlocks d_Mo_kindOf_19
def fn_Mo_isAddress (σ : mm_M) (a0 : Int32) : Option (Int32 × mm_M) :=
    (if a0 < 0 then
    (if (0 : Int32) = 0 ∨ (0 : Int32) = 1 then some ((0 : Int32), σ) else none)
    else
    (if (σ 0 0) ≤ a0 then
    (if (0 : Int32) = 0 ∨ (0 : Int32) = 1 then some ((0 : Int32), σ) else none)
    else
    (if (1 : Int32) = 0 ∨ (1 : Int32) = 1 then some ((1 : Int32), σ) else none)))
set_option maxRecDepth 100000 in
set_option maxHeartbeats 40000000 in
theorem c_Mo_isAddress (l : Launch) (D : va_G) (ca : Nat → ClassId) (ax : Nat → Nat → Nat) (b : Nat) (σ : mm_M) (a0 : Int32)  {r : Int32} {σ' : mm_M} (hf : fn_Mo_isAddress σ a0 = some (r, σ')) : Met l y_Mo_isAddress w_Mo_isAddress rm_Mo_isAddress (pc_w D cls b N_M (ce_M ca b) (kM D ca ax b) [.ref (b + 0), .int a0] σ) (qc_i D cls b N_M (ce_M ca b) r σ') 0 0 (mm_A b N_M) := by
  refine vv_go (cc := b_Mo_isAddress) (maxL := 2) (ret := (some .boolean)) (fin := (r, σ')) (k := fn_Mo_isAddress σ a0) (by decide) rfl (by simp [Value.category]) (Nat.le_of_ble_eq_true rfl) hf ?_
  intro p e s m below meth c hlocks hret S hKK
  unfold fn_Mo_isAddress
  refine v_iload_n S d_Mo_isAddress_0 rfl rfl ?_
  refine v_if_lt S d_Mo_isAddress_1 (tgt := 16) (by decide) (fun h1 => ?_) (fun h1 => ?_)
  · refine v_iconst S d_Mo_isAddress_16 (v := (0 : Int32)) (by decide) ?_
    exact v_zret S hret hlocks d_Mo_isAddress_17
  · refine v_iload_n S d_Mo_isAddress_4 rfl rfl ?_
    refine v_aload_n S d_Mo_isAddress_5 rfl rfl ?_
    refine v_get S (fun w h => List.mem_cons_of_mem _ (i_Mo w h)) hKK.1 0 (by decide) rfl rfl 0 (by decide) (S.2.2.2.2 _ (List.mem_cons_of_mem _ (wd_741))) (fun _ h => h) rfl d_Mo_isAddress_6 ?_
    refine v_icmp_ge S d_Mo_isAddress_9 (tgt := 16) (by decide) (fun h2 => ?_) (fun h2 => ?_)
    · refine v_iconst S d_Mo_isAddress_16 (v := (0 : Int32)) (by decide) ?_
      exact v_zret S hret hlocks d_Mo_isAddress_17
    · refine v_iconst S d_Mo_isAddress_12 (v := (1 : Int32)) (by decide) ?_
      refine v_goto S d_Mo_isAddress_13 (tgt := 17) (by decide) ?_
      exact v_zret S hret hlocks d_Mo_isAddress_17
def fn_Mo_take_58 (a0 : Int32) (σ : mm_M) (s0 : Int32) : Option (Int32 × mm_M) :=
    (if s0 = 0 ∨ s0 = 1 then
    (nm (mw σ 0 13 s0) (fun σ4 =>
    (if (((6 : Int32) + (σ4 0 11)) < 0 ∨ 12 ≤ ((6 : Int32) + (σ4 0 11)).toNatClampNeg) then none else
    (some ((σ4 10 ((6 : Int32) + (σ4 0 11)).toNatClampNeg), σ4)))))
    else none)
def fn_Mo_take_53 (a0 : Int32) (σ : mm_M)  : Option (Int32 × mm_M) :=
    (fn_Mo_take_58 a0 σ (1 : Int32))
def fn_Mo_take_57 (a0 : Int32) (σ : mm_M)  : Option (Int32 × mm_M) :=
    (fn_Mo_take_58 a0 σ (0 : Int32))
def fn_Mo_take (σ : mm_M) (a0 : Int32) : Option (Int32 × mm_M) :=
    (if (σ 0 11) = 0 then
    (nm (mw σ 0 13 (1 : Int32)) (fun σ10 =>
    (some ((3 : Int32), σ10))))
    else
    (nm (mw σ 0 11 ((σ 0 11) - (1 : Int32))) (fun σ2 =>
    (if (σ2 0 13) = 0 then
    (if a0 = (3 : Int32) then
    (fn_Mo_take_57 a0 σ2)
    else
    (if (((6 : Int32) + (σ2 0 11)) < 0 ∨ 12 ≤ ((6 : Int32) + (σ2 0 11)).toNatClampNeg) then none else
    (if (σ2 10 ((6 : Int32) + (σ2 0 11)).toNatClampNeg) = a0 then
    (fn_Mo_take_57 a0 σ2)
    else
    (fn_Mo_take_53 a0 σ2))))
    else
    (fn_Mo_take_53 a0 σ2)))))
set_option maxRecDepth 100000 in
set_option maxHeartbeats 40000000 in
theorem c_Mo_take (l : Launch) (D : va_G) (ca : Nat → ClassId) (ax : Nat → Nat → Nat) (b : Nat) (σ : mm_M) (a0 : Int32)  {r : Int32} {σ' : mm_M} (hf : fn_Mo_take σ a0 = some (r, σ')) : Met l y_Mo_take w_Mo_take rm_Mo_take (pc_w D cls b N_M (ce_M ca b) (kM D ca ax b) [.ref (b + 0), .int a0] σ) (qc_i D cls b N_M (ce_M ca b) r σ') 0 0 (mm_A b N_M) := by
  refine vv_go (cc := b_Mo_take) (maxL := 2) (ret := (some .int)) (fin := (r, σ')) (k := fn_Mo_take σ a0) (by decide) rfl (by simp [Value.category]) (Nat.le_of_ble_eq_true rfl) hf ?_
  intro p e s m below meth c hlocks hret S hKK
  have C58 : ∀ (σ : mm_M) (s0 : Int32), vv p l e (headSpec w_Mo_take rm_Mo_take).room s m [.ref (b + 0), .int a0].toArray below meth c D cls b N_M (ce_M ca b) 2 (MQ below (qc_i D cls b N_M (ce_M ca b) r σ') [.ref (b + 0), .int a0].toArray s 0 0 (mm_A b N_M)) (r, σ') (fn_Mo_take_58 a0 σ s0) σ 58 [some (.ref (b + 0))] [.int s0, .ref (b + 0)] := by
    intro σ s0
    unfold fn_Mo_take_58
    refine v_guard _ (fun h5 => ?_)
    refine v_puti S (fun w h => List.mem_cons_of_mem _ (i_Mo w h)) hKK.1 0 (by decide) rfl rfl 13 (by decide) (S.2.2.2.2 _ (List.mem_cons_of_mem _ (wd_754))) (fun _ h => h) t_Mo t_Mo_ok n_Mo rfl (ty := .boolean) rfl (nz_b h5) (fz_b h5) (Nat.le_of_ble_eq_true rfl) rfl d_Mo_take_58 ?_
    refine v_sg (fun σ4 eσ4 => ?_)
    refine v_aload_n S d_Mo_take_61 rfl rfl ?_
    refine v_get S (fun w h => List.mem_cons_of_mem _ (i_Mo w h)) hKK.1 0 (by decide) rfl rfl 12 (by decide) (S.2.2.2.2 _ (List.mem_cons_of_mem _ (wd_753))) (fun _ h => h) rfl d_Mo_take_62 ?_
    refine v_bipush S d_Mo_take_65 (v := (6 : Int32)) (by decide) ?_
    refine v_aload_n S d_Mo_take_67 rfl rfl ?_
    refine v_get S (fun w h => List.mem_cons_of_mem _ (i_Mo w h)) hKK.1 0 (by decide) rfl rfl 11 (by decide) (S.2.2.2.2 _ (List.mem_cons_of_mem _ (wd_752))) (fun _ h => h) rfl d_Mo_take_68 ?_
    refine v_iadd S d_Mo_take_71 ?_
    refine v_iald S hKK.1 10 0 (by decide) rfl rfl d_Mo_take_72 (fun h6 => ?_)
    exact v_iret S hret hlocks d_Mo_take_73
  have C53 : ∀ (σ : mm_M) , vv p l e (headSpec w_Mo_take rm_Mo_take).room s m [.ref (b + 0), .int a0].toArray below meth c D cls b N_M (ce_M ca b) 2 (MQ below (qc_i D cls b N_M (ce_M ca b) r σ') [.ref (b + 0), .int a0].toArray s 0 0 (mm_A b N_M)) (r, σ') (fn_Mo_take_53 a0 σ ) σ 53 [some (.ref (b + 0))] [.ref (b + 0)] := by
    intro σ
    unfold fn_Mo_take_53
    refine v_iconst S d_Mo_take_53 (v := (1 : Int32)) (by decide) ?_
    refine v_goto S d_Mo_take_54 (tgt := 58) (by decide) ?_
    refine v_sub (L2 := [some (.ref (b + 0))]) (And.intro rfl True.intro) ?_
    exact C58 σ (1 : Int32)
  have C57 : ∀ (σ : mm_M) , vv p l e (headSpec w_Mo_take rm_Mo_take).room s m [.ref (b + 0), .int a0].toArray below meth c D cls b N_M (ce_M ca b) 2 (MQ below (qc_i D cls b N_M (ce_M ca b) r σ') [.ref (b + 0), .int a0].toArray s 0 0 (mm_A b N_M)) (r, σ') (fn_Mo_take_57 a0 σ ) σ 57 [some (.ref (b + 0))] [.ref (b + 0)] := by
    intro σ
    unfold fn_Mo_take_57
    refine v_iconst S d_Mo_take_57 (v := (0 : Int32)) (by decide) ?_
    refine v_sub (L2 := [some (.ref (b + 0))]) (And.intro rfl True.intro) ?_
    exact C58 σ (0 : Int32)
  unfold fn_Mo_take
  refine v_aload_n S d_Mo_take_0 rfl rfl ?_
  refine v_get S (fun w h => List.mem_cons_of_mem _ (i_Mo w h)) hKK.1 0 (by decide) rfl rfl 11 (by decide) (S.2.2.2.2 _ (List.mem_cons_of_mem _ (wd_752))) (fun _ h => h) rfl d_Mo_take_1 ?_
  refine v_if_ne S d_Mo_take_4 (tgt := 14) (by decide) (fun h1 => ?_) (fun h1 => ?_)
  · refine v_aload_n S d_Mo_take_14 rfl rfl ?_
    refine v_dup S d_Mo_take_15 rfl ?_
    refine v_get S (fun w h => List.mem_cons_of_mem _ (i_Mo w h)) hKK.1 0 (by decide) rfl rfl 11 (by decide) (S.2.2.2.2 _ (List.mem_cons_of_mem _ (wd_752))) (fun _ h => h) rfl d_Mo_take_16 ?_
    refine v_iconst S d_Mo_take_19 (v := (1 : Int32)) (by decide) ?_
    refine v_isub S d_Mo_take_20 ?_
    refine v_puti S (fun w h => List.mem_cons_of_mem _ (i_Mo w h)) hKK.1 0 (by decide) rfl rfl 11 (by decide) (S.2.2.2.2 _ (List.mem_cons_of_mem _ (wd_752))) (fun _ h => h) t_Mo t_Mo_ok n_Mo rfl (ty := .int) rfl rfl rfl (Nat.le_of_ble_eq_true rfl) rfl d_Mo_take_21 ?_
    refine v_sg (fun σ2 eσ2 => ?_)
    refine v_aload_n S d_Mo_take_24 rfl rfl ?_
    refine v_aload_n S d_Mo_take_25 rfl rfl ?_
    refine v_get S (fun w h => List.mem_cons_of_mem _ (i_Mo w h)) hKK.1 0 (by decide) rfl rfl 13 (by decide) (S.2.2.2.2 _ (List.mem_cons_of_mem _ (wd_754))) (fun _ h => h) rfl d_Mo_take_26 ?_
    refine v_if_ne S d_Mo_take_29 (tgt := 53) (by decide) (fun h3 => ?_) (fun h3 => ?_)
    · refine v_sub (L2 := [some (.ref (b + 0))]) (And.intro rfl True.intro) ?_
      exact C53 σ2
    · refine v_iload_n S d_Mo_take_32 rfl rfl ?_
      refine v_iconst S d_Mo_take_33 (v := (3 : Int32)) (by decide) ?_
      refine v_icmp_eq S d_Mo_take_34 (tgt := 57) (by decide) (fun h7 => ?_) (fun h7 => ?_)
      · refine v_sub (L2 := [some (.ref (b + 0))]) (And.intro rfl True.intro) ?_
        exact C57 σ2
      · refine v_aload_n S d_Mo_take_37 rfl rfl ?_
        refine v_get S (fun w h => List.mem_cons_of_mem _ (i_Mo w h)) hKK.1 0 (by decide) rfl rfl 12 (by decide) (S.2.2.2.2 _ (List.mem_cons_of_mem _ (wd_753))) (fun _ h => h) rfl d_Mo_take_38 ?_
        refine v_bipush S d_Mo_take_41 (v := (6 : Int32)) (by decide) ?_
        refine v_aload_n S d_Mo_take_43 rfl rfl ?_
        refine v_get S (fun w h => List.mem_cons_of_mem _ (i_Mo w h)) hKK.1 0 (by decide) rfl rfl 11 (by decide) (S.2.2.2.2 _ (List.mem_cons_of_mem _ (wd_752))) (fun _ h => h) rfl d_Mo_take_44 ?_
        refine v_iadd S d_Mo_take_47 ?_
        refine v_iald S hKK.1 10 0 (by decide) rfl rfl d_Mo_take_48 (fun h8 => ?_)
        refine v_iload_n S d_Mo_take_49 rfl rfl ?_
        refine v_icmp_eq S d_Mo_take_50 (tgt := 57) (by decide) (fun h9 => ?_) (fun h9 => ?_)
        · refine v_sub (L2 := [some (.ref (b + 0))]) (And.intro rfl True.intro) ?_
          exact C57 σ2
        · refine v_sub (L2 := [some (.ref (b + 0))]) (And.intro rfl True.intro) ?_
          exact C53 σ2
  · refine v_aload_n S d_Mo_take_7 rfl rfl ?_
    refine v_iconst S d_Mo_take_8 (v := (1 : Int32)) (by decide) ?_
    refine v_puti S (fun w h => List.mem_cons_of_mem _ (i_Mo w h)) hKK.1 0 (by decide) rfl rfl 13 (by decide) (S.2.2.2.2 _ (List.mem_cons_of_mem _ (wd_754))) (fun _ h => h) t_Mo t_Mo_ok n_Mo rfl (ty := .boolean) rfl rfl rfl (Nat.le_of_ble_eq_true rfl) rfl d_Mo_take_9 ?_
    refine v_sg (fun σ10 eσ10 => ?_)
    refine v_iconst S d_Mo_take_12 (v := (3 : Int32)) (by decide) ?_
    exact v_iret S hret hlocks d_Mo_take_13
def fn_Mo_give (σ : mm_M) (a0 : Int32) : Option (mm_M) :=
    (if (σ 0 11) = (6 : Int32) then
    (nm (mw σ 0 13 (1 : Int32)) (fun σ5 =>
    (some σ5)))
    else
    (if (((6 : Int32) + (σ 0 11)) < 0 ∨ 12 ≤ ((6 : Int32) + (σ 0 11)).toNatClampNeg) then none else (nm (mw σ 10 ((6 : Int32) + (σ 0 11)).toNatClampNeg a0) (fun σ3 =>
    (nm (mw σ3 0 11 ((σ3 0 11) + (1 : Int32))) (fun σ4 =>
    (some σ4)))))))
set_option maxRecDepth 100000 in
set_option maxHeartbeats 40000000 in
theorem c_Mo_give (l : Launch) (D : va_G) (ca : Nat → ClassId) (ax : Nat → Nat → Nat) (b : Nat) (σ : mm_M) (a0 : Int32)  {σ' : mm_M} (hf : fn_Mo_give σ a0 = some σ') : Met l y_Mo_give w_Mo_give rm_Mo_give (pc_w D cls b N_M (ce_M ca b) (kM D ca ax b) [.ref (b + 0), .int a0] σ) (qc_v D cls b N_M (ce_M ca b) σ') 0 0 (mm_A b N_M) := by
  refine vv_go (cc := b_Mo_give) (maxL := 2) (ret := none) (fin := σ') (k := fn_Mo_give σ a0) (by decide) rfl (by simp [Value.category]) (Nat.le_of_ble_eq_true rfl) hf ?_
  intro p e s m below meth c hlocks hret S hKK
  unfold fn_Mo_give
  refine v_aload_n S d_Mo_give_0 rfl rfl ?_
  refine v_get S (fun w h => List.mem_cons_of_mem _ (i_Mo w h)) hKK.1 0 (by decide) rfl rfl 11 (by decide) (S.2.2.2.2 _ (List.mem_cons_of_mem _ (wd_752))) (fun _ h => h) rfl d_Mo_give_1 ?_
  refine v_bipush S d_Mo_give_4 (v := (6 : Int32)) (by decide) ?_
  refine v_icmp_ne S d_Mo_give_6 (tgt := 15) (by decide) (fun h1 => ?_) (fun h1 => ?_)
  · refine v_aload_n S d_Mo_give_15 rfl rfl ?_
    refine v_get S (fun w h => List.mem_cons_of_mem _ (i_Mo w h)) hKK.1 0 (by decide) rfl rfl 12 (by decide) (S.2.2.2.2 _ (List.mem_cons_of_mem _ (wd_753))) (fun _ h => h) rfl d_Mo_give_16 ?_
    refine v_bipush S d_Mo_give_19 (v := (6 : Int32)) (by decide) ?_
    refine v_aload_n S d_Mo_give_21 rfl rfl ?_
    refine v_get S (fun w h => List.mem_cons_of_mem _ (i_Mo w h)) hKK.1 0 (by decide) rfl rfl 11 (by decide) (S.2.2.2.2 _ (List.mem_cons_of_mem _ (wd_752))) (fun _ h => h) rfl d_Mo_give_22 ?_
    refine v_iadd S d_Mo_give_25 ?_
    refine v_iload_n S d_Mo_give_26 rfl rfl ?_
    refine v_iast1 S hKK.1 10 0 (by decide) (fun _ => rfl) rfl d_Mo_give_27 (fun h2 => ?_)
    refine v_sg (fun σ3 eσ3 => ?_)
    refine v_aload_n S d_Mo_give_28 rfl rfl ?_
    refine v_dup S d_Mo_give_29 rfl ?_
    refine v_get S (fun w h => List.mem_cons_of_mem _ (i_Mo w h)) hKK.1 0 (by decide) rfl rfl 11 (by decide) (S.2.2.2.2 _ (List.mem_cons_of_mem _ (wd_752))) (fun _ h => h) rfl d_Mo_give_30 ?_
    refine v_iconst S d_Mo_give_33 (v := (1 : Int32)) (by decide) ?_
    refine v_iadd S d_Mo_give_34 ?_
    refine v_puti S (fun w h => List.mem_cons_of_mem _ (i_Mo w h)) hKK.1 0 (by decide) rfl rfl 11 (by decide) (S.2.2.2.2 _ (List.mem_cons_of_mem _ (wd_752))) (fun _ h => h) t_Mo t_Mo_ok n_Mo rfl (ty := .int) rfl rfl rfl (Nat.le_of_ble_eq_true rfl) rfl d_Mo_give_35 ?_
    refine v_sg (fun σ4 eσ4 => ?_)
    exact v_vret S hret hlocks d_Mo_give_38
  · refine v_aload_n S d_Mo_give_9 rfl rfl ?_
    refine v_iconst S d_Mo_give_10 (v := (1 : Int32)) (by decide) ?_
    refine v_puti S (fun w h => List.mem_cons_of_mem _ (i_Mo w h)) hKK.1 0 (by decide) rfl rfl 13 (by decide) (S.2.2.2.2 _ (List.mem_cons_of_mem _ (wd_754))) (fun _ h => h) t_Mo t_Mo_ok n_Mo rfl (ty := .boolean) rfl rfl rfl (Nat.le_of_ble_eq_true rfl) rfl d_Mo_give_11 ?_
    refine v_sg (fun σ5 eσ5 => ?_)
    exact v_vret S hret hlocks d_Mo_give_14
def fn_Mo_goTo_16 (a0 : Int32) (σ : mm_M)  : Option (mm_M) :=
    (nm (mw σ 0 13 (1 : Int32)) (fun σ2 =>
    (nm (mw σ2 0 15 a0) (fun σ3 =>
    (some σ3)))))
def fn_Mo_goTo (σ : mm_M) (a0 : Int32) : Option (mm_M) :=
    (if (σ 0 13) = 0 then
    (bd (fn_Mo_isAddress σ a0) (fun r5 σ4 =>
    (if r5 = 0 then
    (fn_Mo_goTo_16 a0 σ4)
    else
    (nm (mw σ4 0 13 (0 : Int32)) (fun σ7 =>
    (nm (mw σ7 0 15 a0) (fun σ8 =>
    (some σ8))))))))
    else
    (fn_Mo_goTo_16 a0 σ))
set_option maxRecDepth 100000 in
set_option maxHeartbeats 40000000 in
theorem c_Mo_goTo (l : Launch) (D : va_G) (ca : Nat → ClassId) (ax : Nat → Nat → Nat) (b : Nat) (σ : mm_M) (a0 : Int32)  {σ' : mm_M} (hf : fn_Mo_goTo σ a0 = some σ') : Met l y_Mo_goTo w_Mo_goTo rm_Mo_goTo (pc_w D cls b N_M (ce_M ca b) (kM D ca ax b) [.ref (b + 0), .int a0] σ) (qc_v D cls b N_M (ce_M ca b) σ') 0 0 (mm_A b N_M) := by
  refine vv_go (cc := b_Mo_goTo) (maxL := 2) (ret := none) (fin := σ') (k := fn_Mo_goTo σ a0) (by decide) rfl (by simp [Value.category]) (Nat.le_of_ble_eq_true rfl) hf ?_
  intro p e s m below meth c hlocks hret S hKK
  have C16 : ∀ (σ : mm_M) , vv p l e (headSpec w_Mo_goTo rm_Mo_goTo).room s m [.ref (b + 0), .int a0].toArray below meth c D cls b N_M (ce_M ca b) 2 (MQ below (qc_v D cls b N_M (ce_M ca b) σ') [.ref (b + 0), .int a0].toArray s 0 0 (mm_A b N_M)) σ' (fn_Mo_goTo_16 a0 σ ) σ 16 [some (.ref (b + 0)), some (.int a0)] [.ref (b + 0)] := by
    intro σ
    unfold fn_Mo_goTo_16
    refine v_iconst S d_Mo_goTo_16 (v := (1 : Int32)) (by decide) ?_
    refine v_goto S d_Mo_goTo_17 (tgt := 21) (by decide) ?_
    refine v_puti S (fun w h => List.mem_cons_of_mem _ (i_Mo w h)) hKK.1 0 (by decide) rfl rfl 13 (by decide) (S.2.2.2.2 _ (List.mem_cons_of_mem _ (wd_754))) (fun _ h => h) t_Mo t_Mo_ok n_Mo rfl (ty := .boolean) rfl rfl rfl (Nat.le_of_ble_eq_true rfl) rfl d_Mo_goTo_21 ?_
    refine v_sg (fun σ2 eσ2 => ?_)
    refine v_aload_n S d_Mo_goTo_24 rfl rfl ?_
    refine v_iload_n S d_Mo_goTo_25 rfl rfl ?_
    refine v_puti S (fun w h => List.mem_cons_of_mem _ (i_Mo w h)) hKK.1 0 (by decide) rfl rfl 15 (by decide) (S.2.2.2.2 _ (List.mem_cons_of_mem _ (wd_756))) (fun _ h => h) t_Mo t_Mo_ok n_Mo rfl (ty := .int) rfl rfl rfl (Nat.le_of_ble_eq_true rfl) rfl d_Mo_goTo_26 ?_
    refine v_sg (fun σ3 eσ3 => ?_)
    exact v_vret S hret hlocks d_Mo_goTo_29
  unfold fn_Mo_goTo
  refine v_aload_n S d_Mo_goTo_0 rfl rfl ?_
  refine v_aload_n S d_Mo_goTo_1 rfl rfl ?_
  refine v_get S (fun w h => List.mem_cons_of_mem _ (i_Mo w h)) hKK.1 0 (by decide) rfl rfl 13 (by decide) (S.2.2.2.2 _ (List.mem_cons_of_mem _ (wd_754))) (fun _ h => h) rfl d_Mo_goTo_2 ?_
  refine v_if_ne S d_Mo_goTo_5 (tgt := 16) (by decide) (fun h1 => ?_) (fun h1 => ?_)
  · refine v_sub (L2 := [some (.ref (b + 0)), some (.int a0)]) (And.intro rfl (And.intro rfl True.intro)) ?_
    exact C16 σ
  · refine v_aload_n S d_Mo_goTo_8 rfl rfl ?_
    refine v_iload_n S d_Mo_goTo_9 rfl rfl ?_
    refine v_ci (rest := [.ref (b + 0)]) (fun _ _ hg H locs ls hsz hP hS => run_V (As := [.int a0]) (rest := [.ref (b + 0)]) S kM_ok hKK (c_Mo_isAddress l D ca ax b σ a0 hg) (k_Mo_76 S.2.2.2.2 (fun _ => List.mem_cons_of_mem _) ⟨Nat.le_of_ble_eq_true rfl, Nat.le_of_ble_eq_true rfl⟩) (rc_w hKK.1 hP 0 (by decide) rfl rfl) rfl rfl (by simp [Value.category]) d_Mo_goTo_10 hsz hP hS) (fun r5 σ4 _ => ?_)
    refine v_if_ne S d_Mo_goTo_13 (tgt := 20) (by decide) (fun h6 => ?_) (fun h6 => ?_)
    · refine v_iconst S d_Mo_goTo_20 (v := (0 : Int32)) (by decide) ?_
      refine v_puti S (fun w h => List.mem_cons_of_mem _ (i_Mo w h)) hKK.1 0 (by decide) rfl rfl 13 (by decide) (S.2.2.2.2 _ (List.mem_cons_of_mem _ (wd_754))) (fun _ h => h) t_Mo t_Mo_ok n_Mo rfl (ty := .boolean) rfl rfl rfl (Nat.le_of_ble_eq_true rfl) rfl d_Mo_goTo_21 ?_
      refine v_sg (fun σ7 eσ7 => ?_)
      refine v_aload_n S d_Mo_goTo_24 rfl rfl ?_
      refine v_iload_n S d_Mo_goTo_25 rfl rfl ?_
      refine v_puti S (fun w h => List.mem_cons_of_mem _ (i_Mo w h)) hKK.1 0 (by decide) rfl rfl 15 (by decide) (S.2.2.2.2 _ (List.mem_cons_of_mem _ (wd_756))) (fun _ h => h) t_Mo t_Mo_ok n_Mo rfl (ty := .int) rfl rfl rfl (Nat.le_of_ble_eq_true rfl) rfl d_Mo_goTo_26 ?_
      refine v_sg (fun σ8 eσ8 => ?_)
      exact v_vret S hret hlocks d_Mo_goTo_29
    · refine v_sub (L2 := [some (.ref (b + 0)), some (.int a0)]) (And.intro rfl (And.intro rfl True.intro)) ?_
      exact C16 σ4
def fn_Mo_tryLocal_63 (a0 : Int32) (a1 : Int32) (σ : mm_M) (s0 : Int32) : Option (mm_M) :=
    (if s0 = 0 ∨ s0 = 1 then
    (nm (mw σ 0 13 s0) (fun σ7 =>
    (if (a1 < 0 ∨ 12 ≤ a1.toNatClampNeg) then none else
    (bv (fn_Mo_give σ7 (σ7 10 a1.toNatClampNeg)) (fun σ10 =>
    (some σ10))))))
    else none)
def fn_Mo_tryLocal_62 (a0 : Int32) (a1 : Int32) (σ : mm_M)  : Option (mm_M) :=
    (fn_Mo_tryLocal_63 a0 a1 σ (0 : Int32))
def fn_Mo_tryLocal (σ : mm_M) (a0 : Int32) (a1 : Int32) : Option (mm_M) :=
    (if a1 < 0 then
    (nm (mw σ 0 13 (1 : Int32)) (fun σ2 =>
    (some σ2)))
    else
    (if a1 ≤ (5 : Int32) then
    (if a0 = (6 : Int32) then
    (bd (fn_Mo_take σ (3 : Int32)) (fun r14 σ13 =>
    (if (a1 < 0 ∨ 12 ≤ a1.toNatClampNeg) then none else (nm (mw σ13 10 a1.toNatClampNeg r14) (fun σ16 =>
    (some σ16))))))
    else
    (if (a1 < 0 ∨ 12 ≤ a1.toNatClampNeg) then none else
    (if (σ 10 a1.toNatClampNeg) = (1 : Int32) then
    (fn_Mo_tryLocal_62 a0 a1 σ)
    else
    (if (a1 < 0 ∨ 12 ≤ a1.toNatClampNeg) then none else
    (if (σ 10 a1.toNatClampNeg) = (2 : Int32) then
    (fn_Mo_tryLocal_62 a0 a1 σ)
    else
    (fn_Mo_tryLocal_63 a0 a1 σ (1 : Int32)))))))
    else
    (nm (mw σ 0 13 (1 : Int32)) (fun σ17 =>
    (some σ17)))))
set_option maxRecDepth 100000 in
set_option maxHeartbeats 40000000 in
theorem c_Mo_tryLocal (l : Launch) (D : va_G) (ca : Nat → ClassId) (ax : Nat → Nat → Nat) (b : Nat) (σ : mm_M) (a0 : Int32) (a1 : Int32)  {σ' : mm_M} (hf : fn_Mo_tryLocal σ a0 a1 = some σ') : Met l y_Mo_tryLocal w_Mo_tryLocal rm_Mo_tryLocal (pc_w D cls b N_M (ce_M ca b) (kM D ca ax b) [.ref (b + 0), .int a0, .int a1] σ) (qc_v D cls b N_M (ce_M ca b) σ') 0 0 (mm_A b N_M) := by
  refine vv_go (cc := b_Mo_tryLocal) (maxL := 3) (ret := none) (fin := σ') (k := fn_Mo_tryLocal σ a0 a1) (by decide) rfl (by simp [Value.category]) (Nat.le_of_ble_eq_true rfl) hf ?_
  intro p e s m below meth c hlocks hret S hKK
  have C63 : ∀ (σ : mm_M) (s0 : Int32), vv p l e (headSpec w_Mo_tryLocal rm_Mo_tryLocal).room s m [.ref (b + 0), .int a0, .int a1].toArray below meth c D cls b N_M (ce_M ca b) 3 (MQ below (qc_v D cls b N_M (ce_M ca b) σ') [.ref (b + 0), .int a0, .int a1].toArray s 0 0 (mm_A b N_M)) σ' (fn_Mo_tryLocal_63 a0 a1 σ s0) σ 63 [some (.ref (b + 0)), none, some (.int a1)] [.int s0, .ref (b + 0)] := by
    intro σ s0
    unfold fn_Mo_tryLocal_63
    refine v_guard _ (fun h8 => ?_)
    refine v_puti S (fun w h => List.mem_cons_of_mem _ (i_Mo w h)) hKK.1 0 (by decide) rfl rfl 13 (by decide) (S.2.2.2.2 _ (List.mem_cons_of_mem _ (wd_754))) (fun _ h => h) t_Mo t_Mo_ok n_Mo rfl (ty := .boolean) rfl (nz_b h8) (fz_b h8) (Nat.le_of_ble_eq_true rfl) rfl d_Mo_tryLocal_63 ?_
    refine v_sg (fun σ7 eσ7 => ?_)
    refine v_aload_n S d_Mo_tryLocal_66 rfl rfl ?_
    refine v_aload_n S d_Mo_tryLocal_67 rfl rfl ?_
    refine v_get S (fun w h => List.mem_cons_of_mem _ (i_Mo w h)) hKK.1 0 (by decide) rfl rfl 12 (by decide) (S.2.2.2.2 _ (List.mem_cons_of_mem _ (wd_753))) (fun _ h => h) rfl d_Mo_tryLocal_68 ?_
    refine v_iload_n S d_Mo_tryLocal_71 rfl rfl ?_
    refine v_iald S hKK.1 10 0 (by decide) rfl rfl d_Mo_tryLocal_72 (fun h9 => ?_)
    refine v_cv (rest := []) (fun _ hg H locs ls hsz hP hS => run_V (As := [.int (σ7 10 a1.toNatClampNeg)]) (rest := []) S kM_ok hKK (c_Mo_give l D ca ax b σ7 (σ7 10 a1.toNatClampNeg) hg) (k_Mo_90 S.2.2.2.2 (fun _ => List.mem_cons_of_mem _) ⟨Nat.le_of_ble_eq_true rfl, Nat.le_of_ble_eq_true rfl⟩) (rc_w hKK.1 hP 0 (by decide) rfl rfl) rfl rfl (Nat.zero_le _) d_Mo_tryLocal_73 hsz hP hS) (fun σ10 _ => ?_)
    exact v_vret S hret hlocks d_Mo_tryLocal_76
  have C62 : ∀ (σ : mm_M) , vv p l e (headSpec w_Mo_tryLocal rm_Mo_tryLocal).room s m [.ref (b + 0), .int a0, .int a1].toArray below meth c D cls b N_M (ce_M ca b) 3 (MQ below (qc_v D cls b N_M (ce_M ca b) σ') [.ref (b + 0), .int a0, .int a1].toArray s 0 0 (mm_A b N_M)) σ' (fn_Mo_tryLocal_62 a0 a1 σ ) σ 62 [some (.ref (b + 0)), none, some (.int a1)] [.ref (b + 0)] := by
    intro σ
    unfold fn_Mo_tryLocal_62
    refine v_iconst S d_Mo_tryLocal_62 (v := (0 : Int32)) (by decide) ?_
    refine v_sub (L2 := [some (.ref (b + 0)), none, some (.int a1)]) (And.intro rfl (And.intro rfl True.intro)) ?_
    exact C63 σ (0 : Int32)
  unfold fn_Mo_tryLocal
  refine v_iload_n S d_Mo_tryLocal_0 rfl rfl ?_
  refine v_if_lt S d_Mo_tryLocal_1 (tgt := 9) (by decide) (fun h1 => ?_) (fun h1 => ?_)
  · refine v_aload_n S d_Mo_tryLocal_9 rfl rfl ?_
    refine v_iconst S d_Mo_tryLocal_10 (v := (1 : Int32)) (by decide) ?_
    refine v_puti S (fun w h => List.mem_cons_of_mem _ (i_Mo w h)) hKK.1 0 (by decide) rfl rfl 13 (by decide) (S.2.2.2.2 _ (List.mem_cons_of_mem _ (wd_754))) (fun _ h => h) t_Mo t_Mo_ok n_Mo rfl (ty := .boolean) rfl rfl rfl (Nat.le_of_ble_eq_true rfl) rfl d_Mo_tryLocal_11 ?_
    refine v_sg (fun σ2 eσ2 => ?_)
    refine v_goto S d_Mo_tryLocal_14 (tgt := 76) (by decide) ?_
    exact v_vret S hret hlocks d_Mo_tryLocal_76
  · refine v_iload_n S d_Mo_tryLocal_4 rfl rfl ?_
    refine v_iconst S d_Mo_tryLocal_5 (v := (5 : Int32)) (by decide) ?_
    refine v_icmp_le S d_Mo_tryLocal_6 (tgt := 17) (by decide) (fun h3 => ?_) (fun h3 => ?_)
    · refine v_iload_n S d_Mo_tryLocal_17 rfl rfl ?_
      refine v_bipush S d_Mo_tryLocal_18 (v := (6 : Int32)) (by decide) ?_
      refine v_icmp_ne S d_Mo_tryLocal_20 (tgt := 37) (by decide) (fun h4 => ?_) (fun h4 => ?_)
      · refine v_aload_n S d_Mo_tryLocal_37 rfl rfl ?_
        refine v_aload_n S d_Mo_tryLocal_38 rfl rfl ?_
        refine v_get S (fun w h => List.mem_cons_of_mem _ (i_Mo w h)) hKK.1 0 (by decide) rfl rfl 12 (by decide) (S.2.2.2.2 _ (List.mem_cons_of_mem _ (wd_753))) (fun _ h => h) rfl d_Mo_tryLocal_39 ?_
        refine v_iload_n S d_Mo_tryLocal_42 rfl rfl ?_
        refine v_iald S hKK.1 10 0 (by decide) rfl rfl d_Mo_tryLocal_43 (fun h5 => ?_)
        refine v_iconst S d_Mo_tryLocal_44 (v := (1 : Int32)) (by decide) ?_
        refine v_icmp_eq S d_Mo_tryLocal_45 (tgt := 62) (by decide) (fun h6 => ?_) (fun h6 => ?_)
        · refine v_sub (L2 := [some (.ref (b + 0)), none, some (.int a1)]) (And.intro rfl (And.intro rfl True.intro)) ?_
          exact C62 σ
        · refine v_aload_n S d_Mo_tryLocal_48 rfl rfl ?_
          refine v_get S (fun w h => List.mem_cons_of_mem _ (i_Mo w h)) hKK.1 0 (by decide) rfl rfl 12 (by decide) (S.2.2.2.2 _ (List.mem_cons_of_mem _ (wd_753))) (fun _ h => h) rfl d_Mo_tryLocal_49 ?_
          refine v_iload_n S d_Mo_tryLocal_52 rfl rfl ?_
          refine v_iald S hKK.1 10 0 (by decide) rfl rfl d_Mo_tryLocal_53 (fun h11 => ?_)
          refine v_iconst S d_Mo_tryLocal_54 (v := (2 : Int32)) (by decide) ?_
          refine v_icmp_eq S d_Mo_tryLocal_55 (tgt := 62) (by decide) (fun h12 => ?_) (fun h12 => ?_)
          · refine v_sub (L2 := [some (.ref (b + 0)), none, some (.int a1)]) (And.intro rfl (And.intro rfl True.intro)) ?_
            exact C62 σ
          · refine v_iconst S d_Mo_tryLocal_58 (v := (1 : Int32)) (by decide) ?_
            refine v_goto S d_Mo_tryLocal_59 (tgt := 63) (by decide) ?_
            refine v_sub (L2 := [some (.ref (b + 0)), none, some (.int a1)]) (And.intro rfl (And.intro rfl True.intro)) ?_
            exact C63 σ (1 : Int32)
      · refine v_aload_n S d_Mo_tryLocal_23 rfl rfl ?_
        refine v_get S (fun w h => List.mem_cons_of_mem _ (i_Mo w h)) hKK.1 0 (by decide) rfl rfl 12 (by decide) (S.2.2.2.2 _ (List.mem_cons_of_mem _ (wd_753))) (fun _ h => h) rfl d_Mo_tryLocal_24 ?_
        refine v_iload_n S d_Mo_tryLocal_27 rfl rfl ?_
        refine v_aload_n S d_Mo_tryLocal_28 rfl rfl ?_
        refine v_iconst S d_Mo_tryLocal_29 (v := (3 : Int32)) (by decide) ?_
        refine v_ci (rest := [.int a1, .ref (b + 10)]) (fun _ _ hg H locs ls hsz hP hS => run_V (As := [.int (3 : Int32)]) (rest := [.int a1, .ref (b + 10)]) S kM_ok hKK (c_Mo_take l D ca ax b σ (3 : Int32) hg) (k_Mo_86 S.2.2.2.2 (fun _ => List.mem_cons_of_mem _) ⟨Nat.le_of_ble_eq_true rfl, Nat.le_of_ble_eq_true rfl⟩) (rc_w hKK.1 hP 0 (by decide) rfl rfl) rfl rfl (by simp [Value.category]) d_Mo_tryLocal_30 hsz hP hS) (fun r14 σ13 _ => ?_)
        refine v_iast1 S hKK.1 10 0 (by decide) (fun _ => rfl) rfl d_Mo_tryLocal_33 (fun h15 => ?_)
        refine v_sg (fun σ16 eσ16 => ?_)
        refine v_goto S d_Mo_tryLocal_34 (tgt := 76) (by decide) ?_
        exact v_vret S hret hlocks d_Mo_tryLocal_76
    · refine v_aload_n S d_Mo_tryLocal_9 rfl rfl ?_
      refine v_iconst S d_Mo_tryLocal_10 (v := (1 : Int32)) (by decide) ?_
      refine v_puti S (fun w h => List.mem_cons_of_mem _ (i_Mo w h)) hKK.1 0 (by decide) rfl rfl 13 (by decide) (S.2.2.2.2 _ (List.mem_cons_of_mem _ (wd_754))) (fun _ h => h) t_Mo t_Mo_ok n_Mo rfl (ty := .boolean) rfl rfl rfl (Nat.le_of_ble_eq_true rfl) rfl d_Mo_tryLocal_11 ?_
      refine v_sg (fun σ17 eσ17 => ?_)
      refine v_goto S d_Mo_tryLocal_14 (tgt := 76) (by decide) ?_
      exact v_vret S hret hlocks d_Mo_tryLocal_76

/-! contracts of 11.verifier; written by wip/whole/make.py -/
def fn_FV_forgetVerification (σ : mm_M)  : Option (mm_M) :=
    (nm (mw σ 0 3 (0 : Int32)) (fun σ1 =>
    (bv (fn_Fl_forget σ1) (fun σ2 =>
    (some σ2)))))
set_option maxRecDepth 100000 in
set_option maxHeartbeats 40000000 in
theorem c_FV_forgetVerification (l : Launch) (D : va_G) (ca : Nat → ClassId) (ax : Nat → Nat → Nat) (b : Nat) (σ : mm_M)   {σ' : mm_M} (hf : fn_FV_forgetVerification σ  = some σ') : Met l y_FV_forgetVerification w_FV_forgetVerification rm_FV_forgetVerification (pc_w D cls b N_C (ce_C ca b) (kC D ca ax b) [.ref (b + 0)] σ) (qc_v D cls b N_C (ce_C ca b) σ') 0 0 (mm_A b N_C) := by
  refine vv_go (cc := b_FV_forgetVerification) (maxL := 1) (ret := none) (fin := σ') (k := fn_FV_forgetVerification σ ) (by decide) rfl (by simp [Value.category]) (Nat.le_of_ble_eq_true rfl) hf ?_
  intro p e s m below meth c hlocks hret S hKK
  unfold fn_FV_forgetVerification
  refine v_aload_n S d_FV_forgetVerification_0 rfl rfl ?_
  refine v_iconst S d_FV_forgetVerification_1 (v := (0 : Int32)) (by decide) ?_
  refine v_puti S (fun w h => List.mem_cons_of_mem _ (i_FV w h)) hKK.1 0 (by decide) rfl rfl 3 (by decide) (S.2.2.2.2 _ (List.mem_cons_of_mem _ (wd_146))) (fun _ h => h) t_FV t_FV_ok n_FV rfl (ty := .boolean) rfl rfl rfl (Nat.le_of_ble_eq_true rfl) rfl d_FV_forgetVerification_2 ?_
  refine v_sg (fun σ1 eσ1 => ?_)
  refine v_aload_n S d_FV_forgetVerification_5 rfl rfl ?_
  refine v_get S (fun w h => List.mem_cons_of_mem _ (i_FV w h)) hKK.1 0 (by decide) rfl rfl 1 (by decide) (S.2.2.2.2 _ (List.mem_cons_of_mem _ (wd_144))) (fun _ h => h) rfl d_FV_forgetVerification_6 ?_
  refine v_cv (rest := []) (fun _ hg H locs ls hsz hP hS => run_V (As := []) (rest := []) S kC_ok hKK (c_Fl_forget l D ca ax b σ1 hg) (k_FV_127 S.2.2.2.2 (fun _ => List.mem_cons_of_mem _) ⟨Nat.le_of_ble_eq_true rfl, Nat.le_of_ble_eq_true rfl⟩) (rc_w hKK.1 hP 8 (by decide) rfl rfl) rfl rfl (Nat.zero_le _) d_FV_forgetVerification_9 hsz hP hS) (fun σ2 _ => ?_)
  exact v_vret S hret hlocks d_FV_forgetVerification_12
def fn_FV_routine (σ : mm_M) (a0 : Int32) (a1 : Int32) (a2 : Int32) (a3 : Int32) : Option (Int32 × mm_M) :=
    (if a0 < 0 then
    (if (0 : Int32) = 0 ∨ (0 : Int32) = 1 then some ((0 : Int32), σ) else none)
    else
    (if (4 : Int32) ≤ a0 then
    (if (0 : Int32) = 0 ∨ (0 : Int32) = 1 then some ((0 : Int32), σ) else none)
    else
    (if a2 < 0 then
    (if (0 : Int32) = 0 ∨ (0 : Int32) = 1 then some ((0 : Int32), σ) else none)
    else
    (if (3 : Int32) < a2 then
    (if (0 : Int32) = 0 ∨ (0 : Int32) = 1 then some ((0 : Int32), σ) else none)
    else
    (if a3 < 0 then
    (if (0 : Int32) = 0 ∨ (0 : Int32) = 1 then some ((0 : Int32), σ) else none)
    else
    (if a3 ≤ (15 : Int32) then
    (bv (fn_FV_forgetVerification σ) (fun σ7 =>
    (bv (fn_Co_tell σ7 a0 a1 a2 a3) (fun σ8 =>
    (if (1 : Int32) = 0 ∨ (1 : Int32) = 1 then some ((1 : Int32), σ8) else none)))))
    else
    (if (0 : Int32) = 0 ∨ (0 : Int32) = 1 then some ((0 : Int32), σ) else none)))))))
set_option maxRecDepth 100000 in
set_option maxHeartbeats 40000000 in
theorem c_FV_routine (l : Launch) (D : va_G) (ca : Nat → ClassId) (ax : Nat → Nat → Nat) (b : Nat) (σ : mm_M) (a0 : Int32) (a1 : Int32) (a2 : Int32) (a3 : Int32)  {r : Int32} {σ' : mm_M} (hf : fn_FV_routine σ a0 a1 a2 a3 = some (r, σ')) : Met l y_FV_routine w_FV_routine rm_FV_routine (pc_w D cls b N_C (ce_C ca b) (kC D ca ax b) [.ref (b + 0), .int a0, .int a1, .int a2, .int a3] σ) (qc_i D cls b N_C (ce_C ca b) r σ') 0 0 (mm_A b N_C) := by
  refine vv_go (cc := b_FV_routine) (maxL := 5) (ret := (some .boolean)) (fin := (r, σ')) (k := fn_FV_routine σ a0 a1 a2 a3) (by decide) rfl (by simp [Value.category]) (Nat.le_of_ble_eq_true rfl) hf ?_
  intro p e s m below meth c hlocks hret S hKK
  unfold fn_FV_routine
  refine v_iload_n S d_FV_routine_0 rfl rfl ?_
  refine v_if_lt S d_FV_routine_1 (tgt := 30) (by decide) (fun h1 => ?_) (fun h1 => ?_)
  · refine v_iconst S d_FV_routine_30 (v := (0 : Int32)) (by decide) ?_
    exact v_zret S hret hlocks d_FV_routine_31
  · refine v_iload_n S d_FV_routine_4 rfl rfl ?_
    refine v_iconst S d_FV_routine_5 (v := (4 : Int32)) (by decide) ?_
    refine v_icmp_ge S d_FV_routine_6 (tgt := 30) (by decide) (fun h2 => ?_) (fun h2 => ?_)
    · refine v_iconst S d_FV_routine_30 (v := (0 : Int32)) (by decide) ?_
      exact v_zret S hret hlocks d_FV_routine_31
    · refine v_iload_n S d_FV_routine_9 rfl rfl ?_
      refine v_if_lt S d_FV_routine_10 (tgt := 30) (by decide) (fun h3 => ?_) (fun h3 => ?_)
      · refine v_iconst S d_FV_routine_30 (v := (0 : Int32)) (by decide) ?_
        exact v_zret S hret hlocks d_FV_routine_31
      · refine v_iload_n S d_FV_routine_13 rfl rfl ?_
        refine v_iconst S d_FV_routine_14 (v := (3 : Int32)) (by decide) ?_
        refine v_icmp_gt S d_FV_routine_15 (tgt := 30) (by decide) (fun h4 => ?_) (fun h4 => ?_)
        · refine v_iconst S d_FV_routine_30 (v := (0 : Int32)) (by decide) ?_
          exact v_zret S hret hlocks d_FV_routine_31
        · refine v_iload S d_FV_routine_18 rfl ?_
          refine v_if_lt S d_FV_routine_20 (tgt := 30) (by decide) (fun h5 => ?_) (fun h5 => ?_)
          · refine v_iconst S d_FV_routine_30 (v := (0 : Int32)) (by decide) ?_
            exact v_zret S hret hlocks d_FV_routine_31
          · refine v_iload S d_FV_routine_23 rfl ?_
            refine v_bipush S d_FV_routine_25 (v := (15 : Int32)) (by decide) ?_
            refine v_icmp_le S d_FV_routine_27 (tgt := 32) (by decide) (fun h6 => ?_) (fun h6 => ?_)
            · refine v_aload_n S d_FV_routine_32 rfl rfl ?_
              refine v_cv (rest := []) (fun _ hg H locs ls hsz hP hS => run_V (As := []) (rest := []) S kC_ok hKK (c_FV_forgetVerification l D ca ax b σ hg) (k_FV_43 S.2.2.2.2 (fun _ => List.mem_cons_of_mem _) ⟨Nat.le_of_ble_eq_true rfl, Nat.le_of_ble_eq_true rfl⟩) (rc_w hKK.1 hP 0 (by decide) rfl rfl) rfl rfl (Nat.zero_le _) d_FV_routine_33 hsz hP hS) (fun σ7 _ => ?_)
              refine v_aload_n S d_FV_routine_36 rfl rfl ?_
              refine v_get S (fun w h => List.mem_cons_of_mem _ (i_FV w h)) hKK.1 0 (by decide) rfl rfl 0 (by decide) (S.2.2.2.2 _ (List.mem_cons_of_mem _ (wd_143))) (fun _ h => h) rfl d_FV_routine_37 ?_
              refine v_iload_n S d_FV_routine_40 rfl rfl ?_
              refine v_iload_n S d_FV_routine_41 rfl rfl ?_
              refine v_iload_n S d_FV_routine_42 rfl rfl ?_
              refine v_iload S d_FV_routine_43 rfl ?_
              refine v_cv (rest := []) (fun _ hg H locs ls hsz hP hS => run_V (As := [.int a0, .int a1, .int a2, .int a3]) (rest := []) S kC_ok hKK (c_Co_tell l D ca ax b σ7 a0 a1 a2 a3 hg) (k_FV_50 S.2.2.2.2 (fun _ => List.mem_cons_of_mem _) ⟨Nat.le_of_ble_eq_true rfl, Nat.le_of_ble_eq_true rfl⟩) (rc_w hKK.1 hP 1 (by decide) rfl rfl) rfl rfl (Nat.zero_le _) d_FV_routine_45 hsz hP hS) (fun σ8 _ => ?_)
              refine v_iconst S d_FV_routine_48 (v := (1 : Int32)) (by decide) ?_
              exact v_zret S hret hlocks d_FV_routine_49
            · refine v_iconst S d_FV_routine_30 (v := (0 : Int32)) (by decide) ?_
              exact v_zret S hret hlocks d_FV_routine_31
def fn_FV_verify_22  : Nat → mm_M → Int32 → Option (Int32 × mm_M)
  | 0, _, _ => none
  | n + 1, σ, l1 =>
    (if (4 : Int32) ≤ l1 then
    (nm (mw σ 0 3 (1 : Int32)) (fun σ6 =>
    (some ((0 : Int32), σ6))))
    else
    (bd (fn_Co_hasRoutine σ l1) (fun r8 σ7 =>
    (if r8 = 0 then
    (fn_FV_verify_22  n σ7 (l1 + (1 : Int32)))
    else
    (bv (fn_Fl_workOut σ7 l1) (fun σ11 =>
    (bd (fn_Fl_leastUnfit σ11 l1) (fun r13 σ12 =>
    (if r13 = (-1 : Int32) then
    (fn_FV_verify_22  n σ12 (l1 + (1 : Int32)))
    else
    (some ((((1000 : Int32) * ((1 : Int32) + l1)) + r13), σ12)))))))))))
def fn_FV_verify (σ : mm_M)  : Option (Int32 × mm_M) :=
    (nm (mw σ 0 3 (0 : Int32)) (fun σ1 =>
    (bd (fn_Co_hasRoutine σ1 (0 : Int32)) (fun r3 σ2 =>
    (if r3 = 0 then
    (some ((1999 : Int32), σ2))
    else
    (fn_FV_verify_22  fuel0 σ2 (0 : Int32)))))))
set_option maxRecDepth 100000 in
set_option maxHeartbeats 40000000 in
theorem c_FV_verify (l : Launch) (D : va_G) (ca : Nat → ClassId) (ax : Nat → Nat → Nat) (b : Nat) (σ : mm_M)   {r : Int32} {σ' : mm_M} (hf : fn_FV_verify σ  = some (r, σ')) : Met l y_FV_verify w_FV_verify rm_FV_verify (pc_w D cls b N_C (ce_C ca b) (kC D ca ax b) [.ref (b + 0)] σ) (qc_i D cls b N_C (ce_C ca b) r σ') 0 0 (mm_A b N_C) := by
  refine vv_go (cc := b_FV_verify) (maxL := 3) (ret := (some .int)) (fin := (r, σ')) (k := fn_FV_verify σ ) (by decide) rfl (by simp [Value.category]) (Nat.le_of_ble_eq_true rfl) hf ?_
  intro p e s m below meth c hlocks hret S hKK
  have C22 : ∀ (n : Nat) (σ : mm_M) (l1 : Int32), vv p l e (headSpec w_FV_verify rm_FV_verify).room s m [.ref (b + 0)].toArray below meth c D cls b N_C (ce_C ca b) 3 (MQ below (qc_i D cls b N_C (ce_C ca b) r σ') [.ref (b + 0)].toArray s 0 0 (mm_A b N_C)) (r, σ') (fn_FV_verify_22  n σ l1) σ 22 [some (.ref (b + 0)), some (.int l1)] [] := by
    intro n
    induction n with
    | zero => intro σ l1  h; cases h
    | succ n ih =>
      intro σ l1
      show vv p l e (headSpec w_FV_verify rm_FV_verify).room s m [.ref (b + 0)].toArray below meth c D cls b N_C (ce_C ca b) 3 (MQ below (qc_i D cls b N_C (ce_C ca b) r σ') [.ref (b + 0)].toArray s 0 0 (mm_A b N_C)) (r, σ') (        (if (4 : Int32) ≤ l1 then
        (nm (mw σ 0 3 (1 : Int32)) (fun σ6 =>
        (some ((0 : Int32), σ6))))
        else
        (bd (fn_Co_hasRoutine σ l1) (fun r8 σ7 =>
        (if r8 = 0 then
        (fn_FV_verify_22  n σ7 (l1 + (1 : Int32)))
        else
        (bv (fn_Fl_workOut σ7 l1) (fun σ11 =>
        (bd (fn_Fl_leastUnfit σ11 l1) (fun r13 σ12 =>
        (if r13 = (-1 : Int32) then
        (fn_FV_verify_22  n σ12 (l1 + (1 : Int32)))
        else
        (some ((((1000 : Int32) * ((1 : Int32) + l1)) + r13), σ12)))))))))))) σ 22 [some (.ref (b + 0)), some (.int l1)] []
      refine v_iload_n S d_FV_verify_22 rfl rfl ?_
      refine v_iconst S d_FV_verify_23 (v := (4 : Int32)) (by decide) ?_
      refine v_icmp_ge S d_FV_verify_24 (tgt := 76) (by decide) (fun h5 => ?_) (fun h5 => ?_)
      · refine v_aload_n S d_FV_verify_76 rfl rfl ?_
        refine v_iconst S d_FV_verify_77 (v := (1 : Int32)) (by decide) ?_
        refine v_puti S (fun w h => List.mem_cons_of_mem _ (i_FV w h)) hKK.1 0 (by decide) rfl rfl 3 (by decide) (S.2.2.2.2 _ (List.mem_cons_of_mem _ (wd_146))) (fun _ h => h) t_FV t_FV_ok n_FV rfl (ty := .boolean) rfl rfl rfl (Nat.le_of_ble_eq_true rfl) rfl d_FV_verify_78 ?_
        refine v_sg (fun σ6 eσ6 => ?_)
        refine v_iconst S d_FV_verify_81 (v := (0 : Int32)) (by decide) ?_
        exact v_iret S hret hlocks d_FV_verify_82
      · refine v_aload_n S d_FV_verify_27 rfl rfl ?_
        refine v_get S (fun w h => List.mem_cons_of_mem _ (i_FV w h)) hKK.1 0 (by decide) rfl rfl 0 (by decide) (S.2.2.2.2 _ (List.mem_cons_of_mem _ (wd_143))) (fun _ h => h) rfl d_FV_verify_28 ?_
        refine v_iload_n S d_FV_verify_31 rfl rfl ?_
        refine v_ci (rest := []) (fun _ _ hg H locs ls hsz hP hS => run_V (As := [.int l1]) (rest := []) S kC_ok hKK (c_Co_hasRoutine l D ca ax b σ l1 hg) (k_FV_54 S.2.2.2.2 (fun _ => List.mem_cons_of_mem _) ⟨Nat.le_of_ble_eq_true rfl, Nat.le_of_ble_eq_true rfl⟩) (rc_w hKK.1 hP 1 (by decide) rfl rfl) rfl rfl (Nat.zero_le _) d_FV_verify_32 hsz hP hS) (fun r8 σ7 _ => ?_)
        refine v_if_eq S d_FV_verify_35 (tgt := 70) (by decide) (fun h9 => ?_) (fun h9 => ?_)
        · refine v_iinc S d_FV_verify_70 rfl (v := (l1 + (1 : Int32))) (by first | rfl | decide) (by decide) (L2 := [some (.ref (b + 0)), some (.int (l1 + (1 : Int32)))]) rfl ?_
          refine v_goto S d_FV_verify_73 (tgt := 22) (by decide) ?_
          refine v_sub (L2 := [some (.ref (b + 0)), some (.int (l1 + (1 : Int32)))]) (And.intro rfl (And.intro rfl True.intro)) ?_
          exact ih σ7 (l1 + (1 : Int32))
        · refine v_aload_n S d_FV_verify_38 rfl rfl ?_
          refine v_get S (fun w h => List.mem_cons_of_mem _ (i_FV w h)) hKK.1 0 (by decide) rfl rfl 1 (by decide) (S.2.2.2.2 _ (List.mem_cons_of_mem _ (wd_144))) (fun _ h => h) rfl d_FV_verify_39 ?_
          refine v_iload_n S d_FV_verify_42 rfl rfl ?_
          refine v_cv (rest := []) (fun _ hg H locs ls hsz hP hS => run_V (As := [.int l1]) (rest := []) S kC_ok hKK (c_Fl_workOut l D ca ax b σ7 l1 hg) (k_FV_58 S.2.2.2.2 (fun _ => List.mem_cons_of_mem _) ⟨Nat.le_of_ble_eq_true rfl, Nat.le_of_ble_eq_true rfl⟩) (rc_w hKK.1 hP 8 (by decide) rfl rfl) rfl rfl (Nat.zero_le _) d_FV_verify_43 hsz hP hS) (fun σ11 _ => ?_)
          refine v_aload_n S d_FV_verify_46 rfl rfl ?_
          refine v_get S (fun w h => List.mem_cons_of_mem _ (i_FV w h)) hKK.1 0 (by decide) rfl rfl 1 (by decide) (S.2.2.2.2 _ (List.mem_cons_of_mem _ (wd_144))) (fun _ h => h) rfl d_FV_verify_47 ?_
          refine v_iload_n S d_FV_verify_50 rfl rfl ?_
          refine v_ci (rest := []) (fun _ _ hg H locs ls hsz hP hS => run_V (As := [.int l1]) (rest := []) S kC_ok hKK (c_Fl_leastUnfit l D ca ax b σ11 l1 hg) (k_FV_62 S.2.2.2.2 (fun _ => List.mem_cons_of_mem _) ⟨Nat.le_of_ble_eq_true rfl, Nat.le_of_ble_eq_true rfl⟩) (rc_w hKK.1 hP 8 (by decide) rfl rfl) rfl rfl (Nat.zero_le _) d_FV_verify_51 hsz hP hS) (fun r13 σ12 _ => ?_)
          refine v_istore_nP S d_FV_verify_54 rfl (by decide) (L2 := [some (.ref (b + 0)), some (.int l1), some (.int r13)]) rfl ?_
          refine v_iload_n S d_FV_verify_55 rfl rfl ?_
          refine v_iconst S d_FV_verify_56 (v := (-1 : Int32)) (by decide) ?_
          refine v_icmp_eq S d_FV_verify_57 (tgt := 70) (by decide) (fun h14 => ?_) (fun h14 => ?_)
          · refine v_iinc S d_FV_verify_70 rfl (v := (l1 + (1 : Int32))) (by first | rfl | decide) (by decide) (L2 := [some (.ref (b + 0)), some (.int (l1 + (1 : Int32))), some (.int r13)]) rfl ?_
            refine v_goto S d_FV_verify_73 (tgt := 22) (by decide) ?_
            refine v_sub (L2 := [some (.ref (b + 0)), some (.int (l1 + (1 : Int32)))]) (And.intro rfl (And.intro rfl True.intro)) ?_
            exact ih σ12 (l1 + (1 : Int32))
          · refine v_sipush S d_FV_verify_60 (v := (1000 : Int32)) (by decide) ?_
            refine v_iconst S d_FV_verify_63 (v := (1 : Int32)) (by decide) ?_
            refine v_iload_n S d_FV_verify_64 rfl rfl ?_
            refine v_iadd S d_FV_verify_65 ?_
            refine v_imul S d_FV_verify_66 ?_
            refine v_iload_n S d_FV_verify_67 rfl rfl ?_
            refine v_iadd S d_FV_verify_68 ?_
            exact v_iret S hret hlocks d_FV_verify_69
  unfold fn_FV_verify
  refine v_aload_n S d_FV_verify_0 rfl rfl ?_
  refine v_iconst S d_FV_verify_1 (v := (0 : Int32)) (by decide) ?_
  refine v_puti S (fun w h => List.mem_cons_of_mem _ (i_FV w h)) hKK.1 0 (by decide) rfl rfl 3 (by decide) (S.2.2.2.2 _ (List.mem_cons_of_mem _ (wd_146))) (fun _ h => h) t_FV t_FV_ok n_FV rfl (ty := .boolean) rfl rfl rfl (Nat.le_of_ble_eq_true rfl) rfl d_FV_verify_2 ?_
  refine v_sg (fun σ1 eσ1 => ?_)
  refine v_aload_n S d_FV_verify_5 rfl rfl ?_
  refine v_get S (fun w h => List.mem_cons_of_mem _ (i_FV w h)) hKK.1 0 (by decide) rfl rfl 0 (by decide) (S.2.2.2.2 _ (List.mem_cons_of_mem _ (wd_143))) (fun _ h => h) rfl d_FV_verify_6 ?_
  refine v_iconst S d_FV_verify_9 (v := (0 : Int32)) (by decide) ?_
  refine v_ci (rest := []) (fun _ _ hg H locs ls hsz hP hS => run_V (As := [.int (0 : Int32)]) (rest := []) S kC_ok hKK (c_Co_hasRoutine l D ca ax b σ1 (0 : Int32) hg) (k_FV_54 S.2.2.2.2 (fun _ => List.mem_cons_of_mem _) ⟨Nat.le_of_ble_eq_true rfl, Nat.le_of_ble_eq_true rfl⟩) (rc_w hKK.1 hP 1 (by decide) rfl rfl) rfl rfl (Nat.zero_le _) d_FV_verify_10 hsz hP hS) (fun r3 σ2 _ => ?_)
  refine v_if_ne S d_FV_verify_13 (tgt := 20) (by decide) (fun h4 => ?_) (fun h4 => ?_)
  · refine v_iconst S d_FV_verify_20 (v := (0 : Int32)) (by decide) ?_
    refine v_istore_nP S d_FV_verify_21 rfl (by decide) (L2 := [some (.ref (b + 0)), some (.int (0 : Int32))]) rfl ?_
    refine v_sub (L2 := [some (.ref (b + 0)), some (.int (0 : Int32))]) (And.intro rfl (And.intro rfl True.intro)) ?_
    exact C22 fuel0 σ2 (0 : Int32)
  · refine v_sipush S d_FV_verify_16 (v := (1999 : Int32)) (by decide) ?_
    exact v_iret S hret hlocks d_FV_verify_19
def fn_FV_isVerified (σ : mm_M)  : Option (Int32 × mm_M) :=
    (if (σ 0 3) = 0 ∨ (σ 0 3) = 1 then some ((σ 0 3), σ) else none)
set_option maxRecDepth 100000 in
set_option maxHeartbeats 40000000 in
theorem c_FV_isVerified (l : Launch) (D : va_G) (ca : Nat → ClassId) (ax : Nat → Nat → Nat) (b : Nat) (σ : mm_M)   {r : Int32} {σ' : mm_M} (hf : fn_FV_isVerified σ  = some (r, σ')) : Met l y_FV_isVerified w_FV_isVerified rm_FV_isVerified (pc_w D cls b N_C (ce_C ca b) (kC D ca ax b) [.ref (b + 0)] σ) (qc_i D cls b N_C (ce_C ca b) r σ') 0 0 (mm_A b N_C) := by
  refine vv_go (cc := b_FV_isVerified) (maxL := 1) (ret := (some .boolean)) (fin := (r, σ')) (k := fn_FV_isVerified σ ) (by decide) rfl (by simp [Value.category]) (Nat.le_of_ble_eq_true rfl) hf ?_
  intro p e s m below meth c hlocks hret S hKK
  unfold fn_FV_isVerified
  refine v_aload_n S d_FV_isVerified_0 rfl rfl ?_
  refine v_get S (fun w h => List.mem_cons_of_mem _ (i_FV w h)) hKK.1 0 (by decide) rfl rfl 3 (by decide) (S.2.2.2.2 _ (List.mem_cons_of_mem _ (wd_146))) (fun _ h => h) rfl d_FV_isVerified_1 ?_
  exact v_zret S hret hlocks d_FV_isVerified_4
def fn_FV_type (σ : mm_M) (a0 : Int32) (a1 : Int32) (a2 : Int32) : Option (Int32 × mm_M) :=
    (bd (fn_Co_hasRoutine σ a0) (fun r2 σ1 =>
    (if r2 = 0 then
    (some ((-1 : Int32), σ1))
    else
    (bd (fn_Co_hasInstruction σ1 a1) (fun r5 σ4 =>
    (if r5 = 0 then
    (some ((-1 : Int32), σ4))
    else
    (if a2 < 0 then
    (some ((-1 : Int32), σ4))
    else
    (if a2 < (12 : Int32) then
    (bv (fn_Fl_workOut σ4 a0) (fun σ9 =>
    (bd (fn_Fl_stateOf σ9 a0 a1) (fun r11 σ10 =>
    (if r11 = (-2 : Int32) then
    (some ((-2 : Int32), σ10))
    else
    (if r11 = (-1 : Int32) then
    (some ((-1 : Int32), σ10))
    else
    (bd (fn_Ty_height σ10 r11) (fun r15 σ14 =>
    (if a2 < ((6 : Int32) + r15) then
    (bd (fn_Ty_at σ14 r11 a2) (fun r18 σ17 =>
    (some (r18, σ17))))
    else
    (some ((-1 : Int32), σ14)))))))))))
    else
    (some ((-1 : Int32), σ4))))))))))
set_option maxRecDepth 100000 in
set_option maxHeartbeats 40000000 in
theorem c_FV_type (l : Launch) (D : va_G) (ca : Nat → ClassId) (ax : Nat → Nat → Nat) (b : Nat) (σ : mm_M) (a0 : Int32) (a1 : Int32) (a2 : Int32)  {r : Int32} {σ' : mm_M} (hf : fn_FV_type σ a0 a1 a2 = some (r, σ')) : Met l y_FV_type w_FV_type rm_FV_type (pc_w D cls b N_C (ce_C ca b) (kC D ca ax b) [.ref (b + 0), .int a0, .int a1, .int a2] σ) (qc_i D cls b N_C (ce_C ca b) r σ') 0 0 (mm_A b N_C) := by
  refine vv_go (cc := b_FV_type) (maxL := 5) (ret := (some .int)) (fin := (r, σ')) (k := fn_FV_type σ a0 a1 a2) (by decide) rfl (by simp [Value.category]) (Nat.le_of_ble_eq_true rfl) hf ?_
  intro p e s m below meth c hlocks hret S hKK
  unfold fn_FV_type
  refine v_aload_n S d_FV_type_0 rfl rfl ?_
  refine v_get S (fun w h => List.mem_cons_of_mem _ (i_FV w h)) hKK.1 0 (by decide) rfl rfl 0 (by decide) (S.2.2.2.2 _ (List.mem_cons_of_mem _ (wd_143))) (fun _ h => h) rfl d_FV_type_1 ?_
  refine v_iload_n S d_FV_type_4 rfl rfl ?_
  refine v_ci (rest := []) (fun _ _ hg H locs ls hsz hP hS => run_V (As := [.int a0]) (rest := []) S kC_ok hKK (c_Co_hasRoutine l D ca ax b σ a0 hg) (k_FV_54 S.2.2.2.2 (fun _ => List.mem_cons_of_mem _) ⟨Nat.le_of_ble_eq_true rfl, Nat.le_of_ble_eq_true rfl⟩) (rc_w hKK.1 hP 1 (by decide) rfl rfl) rfl rfl (Nat.zero_le _) d_FV_type_5 hsz hP hS) (fun r2 σ1 _ => ?_)
  refine v_if_eq S d_FV_type_8 (tgt := 32) (by decide) (fun h3 => ?_) (fun h3 => ?_)
  · refine v_iconst S d_FV_type_32 (v := (-1 : Int32)) (by decide) ?_
    exact v_iret S hret hlocks d_FV_type_33
  · refine v_aload_n S d_FV_type_11 rfl rfl ?_
    refine v_get S (fun w h => List.mem_cons_of_mem _ (i_FV w h)) hKK.1 0 (by decide) rfl rfl 0 (by decide) (S.2.2.2.2 _ (List.mem_cons_of_mem _ (wd_143))) (fun _ h => h) rfl d_FV_type_12 ?_
    refine v_iload_n S d_FV_type_15 rfl rfl ?_
    refine v_ci (rest := []) (fun _ _ hg H locs ls hsz hP hS => run_V (As := [.int a1]) (rest := []) S kC_ok hKK (c_Co_hasInstruction l D ca ax b σ1 a1 hg) (k_FV_66 S.2.2.2.2 (fun _ => List.mem_cons_of_mem _) ⟨Nat.le_of_ble_eq_true rfl, Nat.le_of_ble_eq_true rfl⟩) (rc_w hKK.1 hP 1 (by decide) rfl rfl) rfl rfl (Nat.zero_le _) d_FV_type_16 hsz hP hS) (fun r5 σ4 _ => ?_)
    refine v_if_eq S d_FV_type_19 (tgt := 32) (by decide) (fun h6 => ?_) (fun h6 => ?_)
    · refine v_iconst S d_FV_type_32 (v := (-1 : Int32)) (by decide) ?_
      exact v_iret S hret hlocks d_FV_type_33
    · refine v_iload_n S d_FV_type_22 rfl rfl ?_
      refine v_if_lt S d_FV_type_23 (tgt := 32) (by decide) (fun h7 => ?_) (fun h7 => ?_)
      · refine v_iconst S d_FV_type_32 (v := (-1 : Int32)) (by decide) ?_
        exact v_iret S hret hlocks d_FV_type_33
      · refine v_iload_n S d_FV_type_26 rfl rfl ?_
        refine v_bipush S d_FV_type_27 (v := (12 : Int32)) (by decide) ?_
        refine v_icmp_lt S d_FV_type_29 (tgt := 34) (by decide) (fun h8 => ?_) (fun h8 => ?_)
        · refine v_aload_n S d_FV_type_34 rfl rfl ?_
          refine v_get S (fun w h => List.mem_cons_of_mem _ (i_FV w h)) hKK.1 0 (by decide) rfl rfl 1 (by decide) (S.2.2.2.2 _ (List.mem_cons_of_mem _ (wd_144))) (fun _ h => h) rfl d_FV_type_35 ?_
          refine v_iload_n S d_FV_type_38 rfl rfl ?_
          refine v_cv (rest := []) (fun _ hg H locs ls hsz hP hS => run_V (As := [.int a0]) (rest := []) S kC_ok hKK (c_Fl_workOut l D ca ax b σ4 a0 hg) (k_FV_58 S.2.2.2.2 (fun _ => List.mem_cons_of_mem _) ⟨Nat.le_of_ble_eq_true rfl, Nat.le_of_ble_eq_true rfl⟩) (rc_w hKK.1 hP 8 (by decide) rfl rfl) rfl rfl (Nat.zero_le _) d_FV_type_39 hsz hP hS) (fun σ9 _ => ?_)
          refine v_aload_n S d_FV_type_42 rfl rfl ?_
          refine v_get S (fun w h => List.mem_cons_of_mem _ (i_FV w h)) hKK.1 0 (by decide) rfl rfl 1 (by decide) (S.2.2.2.2 _ (List.mem_cons_of_mem _ (wd_144))) (fun _ h => h) rfl d_FV_type_43 ?_
          refine v_iload_n S d_FV_type_46 rfl rfl ?_
          refine v_iload_n S d_FV_type_47 rfl rfl ?_
          refine v_ci (rest := []) (fun _ _ hg H locs ls hsz hP hS => run_V (As := [.int a0, .int a1]) (rest := []) S kC_ok hKK (c_Fl_stateOf l D ca ax b σ9 a0 a1 hg) (k_FV_69 S.2.2.2.2 (fun _ => List.mem_cons_of_mem _) ⟨Nat.le_of_ble_eq_true rfl, Nat.le_of_ble_eq_true rfl⟩) (rc_w hKK.1 hP 8 (by decide) rfl rfl) rfl rfl (Nat.zero_le _) d_FV_type_48 hsz hP hS) (fun r11 σ10 _ => ?_)
          refine v_istoreP S d_FV_type_51 (by decide) (L2 := [some (.ref (b + 0)), some (.int a0), some (.int a1), some (.int a2), some (.int r11)]) rfl ?_
          refine v_iload S d_FV_type_53 rfl ?_
          refine v_bipush S d_FV_type_55 (v := (-2 : Int32)) (by decide) ?_
          refine v_icmp_ne S d_FV_type_57 (tgt := 63) (by decide) (fun h12 => ?_) (fun h12 => ?_)
          · refine v_iload S d_FV_type_63 rfl ?_
            refine v_iconst S d_FV_type_65 (v := (-1 : Int32)) (by decide) ?_
            refine v_icmp_eq S d_FV_type_66 (tgt := 81) (by decide) (fun h13 => ?_) (fun h13 => ?_)
            · refine v_iconst S d_FV_type_81 (v := (-1 : Int32)) (by decide) ?_
              exact v_iret S hret hlocks d_FV_type_82
            · refine v_iload_n S d_FV_type_69 rfl rfl ?_
              refine v_bipush S d_FV_type_70 (v := (6 : Int32)) (by decide) ?_
              refine v_iload S d_FV_type_72 rfl ?_
              refine v_ci (rest := [.int (6 : Int32), .int a2]) (fun _ _ hg H locs ls hsz hP hS => run_S (As := [.int r11]) (rest := [.int (6 : Int32), .int a2]) S kC_ok hKK (c_Ty_height l D ca ax b σ10 r11 hg) (k_FV_72 S.2.2.2.2 (fun _ => List.mem_cons_of_mem _) ⟨Nat.le_of_ble_eq_true rfl, Nat.le_of_ble_eq_true rfl⟩) rfl rfl (by simp [Value.category]) d_FV_type_74 hsz hP hS) (fun r15 σ14 _ => ?_)
              refine v_iadd S d_FV_type_77 ?_
              refine v_icmp_lt S d_FV_type_78 (tgt := 83) (by decide) (fun h16 => ?_) (fun h16 => ?_)
              · refine v_iload S d_FV_type_83 rfl ?_
                refine v_iload_n S d_FV_type_85 rfl rfl ?_
                refine v_ci (rest := []) (fun _ _ hg H locs ls hsz hP hS => run_S (As := [.int r11, .int a2]) (rest := []) S kC_ok hKK (c_Ty_at l D ca ax b σ14 r11 a2 hg) (k_FV_77 S.2.2.2.2 (fun _ => List.mem_cons_of_mem _) ⟨Nat.le_of_ble_eq_true rfl, Nat.le_of_ble_eq_true rfl⟩) rfl rfl (Nat.zero_le _) d_FV_type_86 hsz hP hS) (fun r18 σ17 _ => ?_)
                exact v_iret S hret hlocks d_FV_type_89
              · refine v_iconst S d_FV_type_81 (v := (-1 : Int32)) (by decide) ?_
                exact v_iret S hret hlocks d_FV_type_82
          · refine v_bipush S d_FV_type_60 (v := (-2 : Int32)) (by decide) ?_
            exact v_iret S hret hlocks d_FV_type_62
        · refine v_iconst S d_FV_type_32 (v := (-1 : Int32)) (by decide) ?_
          exact v_iret S hret hlocks d_FV_type_33
def fn_FV_start (σ : mm_M) (a0 : Int32) (a1 : Int32) (a2 : Int32) : Option (Int32 × mm_M) :=
    (bd (fn_Co_hasRoutine σ (0 : Int32)) (fun r2 σ1 =>
    (if r2 = 0 then
    (if (0 : Int32) = 0 ∨ (0 : Int32) = 1 then some ((0 : Int32), σ1) else none)
    else
    (bv (fn_Ma_begin σ1 a0 a1 a2) (fun σ4 =>
    (if (1 : Int32) = 0 ∨ (1 : Int32) = 1 then some ((1 : Int32), σ4) else none))))))
set_option maxRecDepth 100000 in
set_option maxHeartbeats 40000000 in
theorem c_FV_start (l : Launch) (D : va_G) (ca : Nat → ClassId) (ax : Nat → Nat → Nat) (b : Nat) (σ : mm_M) (a0 : Int32) (a1 : Int32) (a2 : Int32)  {r : Int32} {σ' : mm_M} (hf : fn_FV_start σ a0 a1 a2 = some (r, σ')) : Met l y_FV_start w_FV_start rm_FV_start (pc_w D cls b N_C (ce_C ca b) (kC D ca ax b) [.ref (b + 0), .int a0, .int a1, .int a2] σ) (qc_i D cls b N_C (ce_C ca b) r σ') 0 0 (mm_A b N_C) := by
  refine vv_go (cc := b_FV_start) (maxL := 4) (ret := (some .boolean)) (fin := (r, σ')) (k := fn_FV_start σ a0 a1 a2) (by decide) rfl (by simp [Value.category]) (Nat.le_of_ble_eq_true rfl) hf ?_
  intro p e s m below meth c hlocks hret S hKK
  unfold fn_FV_start
  refine v_aload_n S d_FV_start_0 rfl rfl ?_
  refine v_get S (fun w h => List.mem_cons_of_mem _ (i_FV w h)) hKK.1 0 (by decide) rfl rfl 0 (by decide) (S.2.2.2.2 _ (List.mem_cons_of_mem _ (wd_143))) (fun _ h => h) rfl d_FV_start_1 ?_
  refine v_iconst S d_FV_start_4 (v := (0 : Int32)) (by decide) ?_
  refine v_ci (rest := []) (fun _ _ hg H locs ls hsz hP hS => run_V (As := [.int (0 : Int32)]) (rest := []) S kC_ok hKK (c_Co_hasRoutine l D ca ax b σ (0 : Int32) hg) (k_FV_54 S.2.2.2.2 (fun _ => List.mem_cons_of_mem _) ⟨Nat.le_of_ble_eq_true rfl, Nat.le_of_ble_eq_true rfl⟩) (rc_w hKK.1 hP 1 (by decide) rfl rfl) rfl rfl (Nat.zero_le _) d_FV_start_5 hsz hP hS) (fun r2 σ1 _ => ?_)
  refine v_if_ne S d_FV_start_8 (tgt := 13) (by decide) (fun h3 => ?_) (fun h3 => ?_)
  · refine v_aload_n S d_FV_start_13 rfl rfl ?_
    refine v_get S (fun w h => List.mem_cons_of_mem _ (i_FV w h)) hKK.1 0 (by decide) rfl rfl 2 (by decide) (S.2.2.2.2 _ (List.mem_cons_of_mem _ (wd_145))) (fun _ h => h) rfl d_FV_start_14 ?_
    refine v_iload_n S d_FV_start_17 rfl rfl ?_
    refine v_iload_n S d_FV_start_18 rfl rfl ?_
    refine v_iload_n S d_FV_start_19 rfl rfl ?_
    refine v_cv (rest := []) (fun _ hg H locs ls hsz hP hS => run_V (As := [.int a0, .int a1, .int a2]) (rest := []) S kC_ok hKK (c_Ma_begin l D ca ax b σ1 a0 a1 a2 hg) (k_FV_80 S.2.2.2.2 (fun _ => List.mem_cons_of_mem _) ⟨Nat.le_of_ble_eq_true rfl, Nat.le_of_ble_eq_true rfl⟩) (rc_w hKK.1 hP 16 (by decide) rfl rfl) rfl rfl (Nat.zero_le _) d_FV_start_20 hsz hP hS) (fun σ4 _ => ?_)
    refine v_iconst S d_FV_start_23 (v := (1 : Int32)) (by decide) ?_
    exact v_zret S hret hlocks d_FV_start_24
  · refine v_iconst S d_FV_start_11 (v := (0 : Int32)) (by decide) ?_
    exact v_zret S hret hlocks d_FV_start_12
def fn_FV_aboutTopFrame (σ : mm_M) (a0 : Int32) : Option (Int32 × mm_M) :=
    (bd (fn_Ma_top σ) (fun r2 σ1 =>
    (if a0 = (1 : Int32) then
    (some ((σ1 (19 + 2 * r2) 1), σ1))
    else
    (if a0 = (2 : Int32) then
    (some ((σ1 16 0), σ1))
    else
    (if a0 = (3 : Int32) then
    (bd (fn_Ty_height σ1 (σ1 (19 + 2 * r2) 2)) (fun r8 σ7 =>
    (some (r8, σ7))))
    else
    (if a0 = (4 : Int32) then
    (bd (fn_Ty_height σ1 (σ1 (19 + 2 * r2) 2)) (fun r11 σ10 =>
    (if r11 = 0 then
    (some ((-1 : Int32), σ10))
    else
    (bd (fn_Ty_slotBelow σ10 (σ10 (19 + 2 * r2) 2) (0 : Int32)) (fun r14 σ13 =>
    (bd (fn_Fr_shown σ13 r2 r14) (fun r16 σ15 =>
    (some (r16, σ15)))))))))
    else
    (some ((-1 : Int32), σ1))))))))
set_option maxRecDepth 100000 in
set_option maxHeartbeats 40000000 in
theorem c_FV_aboutTopFrame (l : Launch) (D : va_G) (ca : Nat → ClassId) (ax : Nat → Nat → Nat) (b : Nat) (σ : mm_M) (a0 : Int32)  {r : Int32} {σ' : mm_M} (hf : fn_FV_aboutTopFrame σ a0 = some (r, σ')) : Met l y_FV_aboutTopFrame w_FV_aboutTopFrame rm_FV_aboutTopFrame (pc_w D cls b N_C (ce_C ca b) (kC D ca ax b) [.ref (b + 0), .int a0] σ) (qc_i D cls b N_C (ce_C ca b) r σ') 0 0 (mm_A b N_C) := by
  refine vv_go (cc := b_FV_aboutTopFrame) (maxL := 3) (ret := (some .int)) (fin := (r, σ')) (k := fn_FV_aboutTopFrame σ a0) (by decide) rfl (by simp [Value.category]) (Nat.le_of_ble_eq_true rfl) hf ?_
  intro p e s m below meth c hlocks hret S hKK
  unfold fn_FV_aboutTopFrame
  refine v_aload_n S d_FV_aboutTopFrame_0 rfl rfl ?_
  refine v_get S (fun w h => List.mem_cons_of_mem _ (i_FV w h)) hKK.1 0 (by decide) rfl rfl 2 (by decide) (S.2.2.2.2 _ (List.mem_cons_of_mem _ (wd_145))) (fun _ h => h) rfl d_FV_aboutTopFrame_1 ?_
  refine v_ca (fun q => b + (19 + 2 * q)) (rest := []) (fun _ _ hg H locs ls hsz hP hS => run_V (As := []) (rest := []) S kC_ok hKK (c_Ma_top l D ca ax b σ hg) (k_FV_106 S.2.2.2.2 (fun _ => List.mem_cons_of_mem _) ⟨Nat.le_of_ble_eq_true rfl, Nat.le_of_ble_eq_true rfl⟩) (rc_w hKK.1 hP 16 (by decide) rfl rfl) rfl rfl (Nat.zero_le _) d_FV_aboutTopFrame_4 hsz hP hS) (fun r2 σ1 g3 => ?_)
  refine v_astore_nP S d_FV_aboutTopFrame_7 rfl (by decide) (L2 := [some (.ref (b + 0)), some (.int a0), some (.ref (b + (19 + 2 * r2)))]) rfl ?_
  refine v_iload_n S d_FV_aboutTopFrame_8 rfl rfl ?_
  refine v_tsw S (1 : Int32) (tgt := 40) d_FV_aboutTopFrame_9 (by decide) (by decide) (off := 31) rfl (by decide) (fun h4 => ?_) (fun h4 => ?_)
  · refine v_aload_n S d_FV_aboutTopFrame_40 rfl rfl ?_
    refine v_get S (fun w h => List.mem_cons_of_mem _ (i_Fr w h)) hKK.1 (19 + 2 * r2) (fr_lt (rb_Ma_top g3)) (ce_fr (rb_Ma_top g3)) rfl 1 (by decide) (S.2.2.2.2 _ (List.mem_cons_of_mem _ (wd_107))) (fun _ h => h) rfl d_FV_aboutTopFrame_41 ?_
    exact v_iret S hret hlocks d_FV_aboutTopFrame_44
  · refine v_tsw S (2 : Int32) (tgt := 45) d_FV_aboutTopFrame_9 (by decide) (by decide) (off := 36) rfl (by decide) (fun h5 => ?_) (fun h5 => ?_)
    · refine v_aload_n S d_FV_aboutTopFrame_45 rfl rfl ?_
      refine v_get S (fun w h => List.mem_cons_of_mem _ (i_FV w h)) hKK.1 0 (by decide) rfl rfl 2 (by decide) (S.2.2.2.2 _ (List.mem_cons_of_mem _ (wd_145))) (fun _ h => h) rfl d_FV_aboutTopFrame_46 ?_
      refine v_get S (fun w h => List.mem_cons_of_mem _ (i_Ma w h)) hKK.1 16 (by decide) rfl rfl 0 (by decide) (S.2.2.2.2 _ (List.mem_cons_of_mem _ (wd_122))) (fun _ h => h) rfl d_FV_aboutTopFrame_49 ?_
      exact v_iret S hret hlocks d_FV_aboutTopFrame_52
    · refine v_tsw S (3 : Int32) (tgt := 53) d_FV_aboutTopFrame_9 (by decide) (by decide) (off := 44) rfl (by decide) (fun h6 => ?_) (fun h6 => ?_)
      · refine v_aload_n S d_FV_aboutTopFrame_53 rfl rfl ?_
        refine v_get S (fun w h => List.mem_cons_of_mem _ (i_Fr w h)) hKK.1 (19 + 2 * r2) (fr_lt (rb_Ma_top g3)) (ce_fr (rb_Ma_top g3)) rfl 2 (by decide) (S.2.2.2.2 _ (List.mem_cons_of_mem _ (wd_110))) (fun _ h => h) rfl d_FV_aboutTopFrame_54 ?_
        refine v_ci (rest := []) (fun _ _ hg H locs ls hsz hP hS => run_S (As := [.int (σ1 (19 + 2 * r2) 2)]) (rest := []) S kC_ok hKK (c_Ty_height l D ca ax b σ1 (σ1 (19 + 2 * r2) 2) hg) (k_FV_72 S.2.2.2.2 (fun _ => List.mem_cons_of_mem _) ⟨Nat.le_of_ble_eq_true rfl, Nat.le_of_ble_eq_true rfl⟩) rfl rfl (Nat.zero_le _) d_FV_aboutTopFrame_57 hsz hP hS) (fun r8 σ7 _ => ?_)
        exact v_iret S hret hlocks d_FV_aboutTopFrame_60
      · refine v_tsw S (4 : Int32) (tgt := 61) d_FV_aboutTopFrame_9 (by decide) (by decide) (off := 52) rfl (by decide) (fun h9 => ?_) (fun h9 => ?_)
        · refine v_aload_n S d_FV_aboutTopFrame_61 rfl rfl ?_
          refine v_get S (fun w h => List.mem_cons_of_mem _ (i_Fr w h)) hKK.1 (19 + 2 * r2) (fr_lt (rb_Ma_top g3)) (ce_fr (rb_Ma_top g3)) rfl 2 (by decide) (S.2.2.2.2 _ (List.mem_cons_of_mem _ (wd_110))) (fun _ h => h) rfl d_FV_aboutTopFrame_62 ?_
          refine v_ci (rest := []) (fun _ _ hg H locs ls hsz hP hS => run_S (As := [.int (σ1 (19 + 2 * r2) 2)]) (rest := []) S kC_ok hKK (c_Ty_height l D ca ax b σ1 (σ1 (19 + 2 * r2) 2) hg) (k_FV_72 S.2.2.2.2 (fun _ => List.mem_cons_of_mem _) ⟨Nat.le_of_ble_eq_true rfl, Nat.le_of_ble_eq_true rfl⟩) rfl rfl (Nat.zero_le _) d_FV_aboutTopFrame_65 hsz hP hS) (fun r11 σ10 _ => ?_)
          refine v_if_ne S d_FV_aboutTopFrame_68 (tgt := 75) (by decide) (fun h12 => ?_) (fun h12 => ?_)
          · refine v_aload_n S d_FV_aboutTopFrame_75 rfl rfl ?_
            refine v_aload_n S d_FV_aboutTopFrame_76 rfl rfl ?_
            refine v_get S (fun w h => List.mem_cons_of_mem _ (i_Fr w h)) hKK.1 (19 + 2 * r2) (fr_lt (rb_Ma_top g3)) (ce_fr (rb_Ma_top g3)) rfl 2 (by decide) (S.2.2.2.2 _ (List.mem_cons_of_mem _ (wd_110))) (fun _ h => h) rfl d_FV_aboutTopFrame_77 ?_
            refine v_iconst S d_FV_aboutTopFrame_80 (v := (0 : Int32)) (by decide) ?_
            refine v_ci (rest := [.ref (b + (19 + 2 * r2))]) (fun _ _ hg H locs ls hsz hP hS => run_S (As := [.int (σ10 (19 + 2 * r2) 2), .int (0 : Int32)]) (rest := [.ref (b + (19 + 2 * r2))]) S kC_ok hKK (c_Ty_slotBelow l D ca ax b σ10 (σ10 (19 + 2 * r2) 2) (0 : Int32) hg) (k_FV_124 S.2.2.2.2 (fun _ => List.mem_cons_of_mem _) ⟨Nat.le_of_ble_eq_true rfl, Nat.le_of_ble_eq_true rfl⟩) rfl rfl (by simp [Value.category]) d_FV_aboutTopFrame_81 hsz hP hS) (fun r14 σ13 _ => ?_)
            refine v_ci (rest := []) (fun _ _ hg H locs ls hsz hP hS => run_V (As := [.int r14]) (rest := []) S kC_ok hKK (c_Fr_shown l D ca ax b σ13 r2 r14 (rb_Ma_top g3) hg) (k_FV_110 S.2.2.2.2 (fun _ => List.mem_cons_of_mem _) ⟨Nat.le_of_ble_eq_true rfl, Nat.le_of_ble_eq_true rfl⟩) (rc_w hKK.1 hP (19 + 2 * r2) (fr_lt (rb_Ma_top g3)) (ce_fr (rb_Ma_top g3)) rfl) rfl rfl (Nat.zero_le _) d_FV_aboutTopFrame_84 hsz hP hS) (fun r16 σ15 _ => ?_)
            exact v_iret S hret hlocks d_FV_aboutTopFrame_87
          · refine v_iconst S d_FV_aboutTopFrame_71 (v := (-1 : Int32)) (by decide) ?_
            refine v_goto S d_FV_aboutTopFrame_72 (tgt := 87) (by decide) ?_
            exact v_iret S hret hlocks d_FV_aboutTopFrame_87
        · refine v_tswD S (tgt := 88) d_FV_aboutTopFrame_9 (by have nh4 := i32_ne (n := 1) h4 (by decide); have nh5 := i32_ne (n := 2) h5 (by decide); have nh6 := i32_ne (n := 3) h6 (by decide); have nh9 := i32_ne (n := 4) h9 (by decide); omega) (by decide) ?_
          refine v_iconst S d_FV_aboutTopFrame_88 (v := (-1 : Int32)) (by decide) ?_
          exact v_iret S hret hlocks d_FV_aboutTopFrame_89
def fn_FV_about (σ : mm_M) (a0 : Int32) : Option (Int32 × mm_M) :=
    (if a0 = (0 : Int32) then
    (bd (fn_Ma_isRunning σ) (fun r3 σ2 =>
    (if r3 = 0 then
    (some ((0 : Int32), σ2))
    else
    (some ((1 : Int32), σ2)))))
    else
    (if a0 = (5 : Int32) then
    (some ((σ 16 2), σ))
    else
    (if a0 = (6 : Int32) then
    (some ((σ 16 1), σ))
    else
    (if a0 = (7 : Int32) then
    (some ((σ 1 0), σ))
    else
    (bd (fn_Ma_isRunning σ) (fun r13 σ12 =>
    (if r13 = 0 then
    (some ((-1 : Int32), σ12))
    else
    (bd (fn_FV_aboutTopFrame σ12 a0) (fun r16 σ15 =>
    (some (r16, σ15)))))))))))
set_option maxRecDepth 100000 in
set_option maxHeartbeats 40000000 in
theorem c_FV_about (l : Launch) (D : va_G) (ca : Nat → ClassId) (ax : Nat → Nat → Nat) (b : Nat) (σ : mm_M) (a0 : Int32)  {r : Int32} {σ' : mm_M} (hf : fn_FV_about σ a0 = some (r, σ')) : Met l y_FV_about w_FV_about rm_FV_about (pc_w D cls b N_C (ce_C ca b) (kC D ca ax b) [.ref (b + 0), .int a0] σ) (qc_i D cls b N_C (ce_C ca b) r σ') 0 0 (mm_A b N_C) := by
  refine vv_go (cc := b_FV_about) (maxL := 2) (ret := (some .int)) (fin := (r, σ')) (k := fn_FV_about σ a0) (by decide) rfl (by simp [Value.category]) (Nat.le_of_ble_eq_true rfl) hf ?_
  intro p e s m below meth c hlocks hret S hKK
  unfold fn_FV_about
  refine v_iload_n S d_FV_about_0 rfl rfl ?_
  refine v_tsw S (0 : Int32) (tgt := 48) d_FV_about_1 (by decide) (by decide) (off := 47) rfl (by decide) (fun h1 => ?_) (fun h1 => ?_)
  · refine v_aload_n S d_FV_about_48 rfl rfl ?_
    refine v_get S (fun w h => List.mem_cons_of_mem _ (i_FV w h)) hKK.1 0 (by decide) rfl rfl 2 (by decide) (S.2.2.2.2 _ (List.mem_cons_of_mem _ (wd_145))) (fun _ h => h) rfl d_FV_about_49 ?_
    refine v_ci (rest := []) (fun _ _ hg H locs ls hsz hP hS => run_V (As := []) (rest := []) S kC_ok hKK (c_Ma_isRunning l D ca ax b σ hg) (k_FV_84 S.2.2.2.2 (fun _ => List.mem_cons_of_mem _) ⟨Nat.le_of_ble_eq_true rfl, Nat.le_of_ble_eq_true rfl⟩) (rc_w hKK.1 hP 16 (by decide) rfl rfl) rfl rfl (Nat.zero_le _) d_FV_about_52 hsz hP hS) (fun r3 σ2 _ => ?_)
    refine v_if_eq S d_FV_about_55 (tgt := 62) (by decide) (fun h4 => ?_) (fun h4 => ?_)
    · refine v_iconst S d_FV_about_62 (v := (0 : Int32)) (by decide) ?_
      exact v_iret S hret hlocks d_FV_about_63
    · refine v_iconst S d_FV_about_58 (v := (1 : Int32)) (by decide) ?_
      refine v_goto S d_FV_about_59 (tgt := 63) (by decide) ?_
      exact v_iret S hret hlocks d_FV_about_63
  · refine v_tsw S (5 : Int32) (tgt := 64) d_FV_about_1 (by decide) (by decide) (off := 63) rfl (by decide) (fun h5 => ?_) (fun h5 => ?_)
    · refine v_aload_n S d_FV_about_64 rfl rfl ?_
      refine v_get S (fun w h => List.mem_cons_of_mem _ (i_FV w h)) hKK.1 0 (by decide) rfl rfl 2 (by decide) (S.2.2.2.2 _ (List.mem_cons_of_mem _ (wd_145))) (fun _ h => h) rfl d_FV_about_65 ?_
      refine v_get S (fun w h => List.mem_cons_of_mem _ (i_Ma w h)) hKK.1 16 (by decide) rfl rfl 2 (by decide) (S.2.2.2.2 _ (List.mem_cons_of_mem _ (wd_126))) (fun _ h => h) rfl d_FV_about_68 ?_
      exact v_iret S hret hlocks d_FV_about_71
    · refine v_tsw S (6 : Int32) (tgt := 72) d_FV_about_1 (by decide) (by decide) (off := 71) rfl (by decide) (fun h6 => ?_) (fun h6 => ?_)
      · refine v_aload_n S d_FV_about_72 rfl rfl ?_
        refine v_get S (fun w h => List.mem_cons_of_mem _ (i_FV w h)) hKK.1 0 (by decide) rfl rfl 2 (by decide) (S.2.2.2.2 _ (List.mem_cons_of_mem _ (wd_145))) (fun _ h => h) rfl d_FV_about_73 ?_
        refine v_get S (fun w h => List.mem_cons_of_mem _ (i_Ma w h)) hKK.1 16 (by decide) rfl rfl 1 (by decide) (S.2.2.2.2 _ (List.mem_cons_of_mem _ (wd_124))) (fun _ h => h) rfl d_FV_about_76 ?_
        exact v_iret S hret hlocks d_FV_about_79
      · refine v_tsw S (7 : Int32) (tgt := 80) d_FV_about_1 (by decide) (by decide) (off := 79) rfl (by decide) (fun h7 => ?_) (fun h7 => ?_)
        · refine v_aload_n S d_FV_about_80 rfl rfl ?_
          refine v_get S (fun w h => List.mem_cons_of_mem _ (i_FV w h)) hKK.1 0 (by decide) rfl rfl 0 (by decide) (S.2.2.2.2 _ (List.mem_cons_of_mem _ (wd_143))) (fun _ h => h) rfl d_FV_about_81 ?_
          refine v_get S (fun w h => List.mem_cons_of_mem _ (i_Co w h)) hKK.1 1 (by decide) rfl rfl 0 (by decide) (S.2.2.2.2 _ (List.mem_cons_of_mem _ (wd_41))) (fun _ h => h) rfl d_FV_about_84 ?_
          exact v_iret S hret hlocks d_FV_about_87
        · refine v_tswQ S (1 : Int32) (tgt := 88) d_FV_about_1 (by decide) (by decide) (off := 87) rfl (by decide) ?_ (fun h8 => ?_)
          · refine v_aload_n S d_FV_about_88 rfl rfl ?_
            refine v_get S (fun w h => List.mem_cons_of_mem _ (i_FV w h)) hKK.1 0 (by decide) rfl rfl 2 (by decide) (S.2.2.2.2 _ (List.mem_cons_of_mem _ (wd_145))) (fun _ h => h) rfl d_FV_about_89 ?_
            refine v_ci (rest := []) (fun _ _ hg H locs ls hsz hP hS => run_V (As := []) (rest := []) S kC_ok hKK (c_Ma_isRunning l D ca ax b σ hg) (k_FV_84 S.2.2.2.2 (fun _ => List.mem_cons_of_mem _) ⟨Nat.le_of_ble_eq_true rfl, Nat.le_of_ble_eq_true rfl⟩) (rc_w hKK.1 hP 16 (by decide) rfl rfl) rfl rfl (Nat.zero_le _) d_FV_about_92 hsz hP hS) (fun r13 σ12 _ => ?_)
            refine v_if_eq S d_FV_about_95 (tgt := 106) (by decide) (fun h14 => ?_) (fun h14 => ?_)
            · refine v_iconst S d_FV_about_106 (v := (-1 : Int32)) (by decide) ?_
              exact v_iret S hret hlocks d_FV_about_107
            · refine v_aload_n S d_FV_about_98 rfl rfl ?_
              refine v_iload_n S d_FV_about_99 rfl rfl ?_
              refine v_ci (rest := []) (fun _ _ hg H locs ls hsz hP hS => run_V (As := [.int a0]) (rest := []) S kC_ok hKK (c_FV_aboutTopFrame l D ca ax b σ12 a0 hg) (k_FV_100 S.2.2.2.2 (fun _ => List.mem_cons_of_mem _) ⟨Nat.le_of_ble_eq_true rfl, Nat.le_of_ble_eq_true rfl⟩) (rc_w hKK.1 hP 0 (by decide) rfl rfl) rfl rfl (Nat.zero_le _) d_FV_about_100 hsz hP hS) (fun r16 σ15 _ => ?_)
              refine v_goto S d_FV_about_103 (tgt := 107) (by decide) ?_
              exact v_iret S hret hlocks d_FV_about_107
          · refine v_tswQ S (2 : Int32) (tgt := 88) d_FV_about_1 (by decide) (by decide) (off := 87) rfl (by decide) ?_ (fun h9 => ?_)
            · refine v_aload_n S d_FV_about_88 rfl rfl ?_
              refine v_get S (fun w h => List.mem_cons_of_mem _ (i_FV w h)) hKK.1 0 (by decide) rfl rfl 2 (by decide) (S.2.2.2.2 _ (List.mem_cons_of_mem _ (wd_145))) (fun _ h => h) rfl d_FV_about_89 ?_
              refine v_ci (rest := []) (fun _ _ hg H locs ls hsz hP hS => run_V (As := []) (rest := []) S kC_ok hKK (c_Ma_isRunning l D ca ax b σ hg) (k_FV_84 S.2.2.2.2 (fun _ => List.mem_cons_of_mem _) ⟨Nat.le_of_ble_eq_true rfl, Nat.le_of_ble_eq_true rfl⟩) (rc_w hKK.1 hP 16 (by decide) rfl rfl) rfl rfl (Nat.zero_le _) d_FV_about_92 hsz hP hS) (fun r13 σ12 _ => ?_)
              refine v_if_eq S d_FV_about_95 (tgt := 106) (by decide) (fun h14 => ?_) (fun h14 => ?_)
              · refine v_iconst S d_FV_about_106 (v := (-1 : Int32)) (by decide) ?_
                exact v_iret S hret hlocks d_FV_about_107
              · refine v_aload_n S d_FV_about_98 rfl rfl ?_
                refine v_iload_n S d_FV_about_99 rfl rfl ?_
                refine v_ci (rest := []) (fun _ _ hg H locs ls hsz hP hS => run_V (As := [.int a0]) (rest := []) S kC_ok hKK (c_FV_aboutTopFrame l D ca ax b σ12 a0 hg) (k_FV_100 S.2.2.2.2 (fun _ => List.mem_cons_of_mem _) ⟨Nat.le_of_ble_eq_true rfl, Nat.le_of_ble_eq_true rfl⟩) (rc_w hKK.1 hP 0 (by decide) rfl rfl) rfl rfl (Nat.zero_le _) d_FV_about_100 hsz hP hS) (fun r16 σ15 _ => ?_)
                refine v_goto S d_FV_about_103 (tgt := 107) (by decide) ?_
                exact v_iret S hret hlocks d_FV_about_107
            · refine v_tswQ S (3 : Int32) (tgt := 88) d_FV_about_1 (by decide) (by decide) (off := 87) rfl (by decide) ?_ (fun h10 => ?_)
              · refine v_aload_n S d_FV_about_88 rfl rfl ?_
                refine v_get S (fun w h => List.mem_cons_of_mem _ (i_FV w h)) hKK.1 0 (by decide) rfl rfl 2 (by decide) (S.2.2.2.2 _ (List.mem_cons_of_mem _ (wd_145))) (fun _ h => h) rfl d_FV_about_89 ?_
                refine v_ci (rest := []) (fun _ _ hg H locs ls hsz hP hS => run_V (As := []) (rest := []) S kC_ok hKK (c_Ma_isRunning l D ca ax b σ hg) (k_FV_84 S.2.2.2.2 (fun _ => List.mem_cons_of_mem _) ⟨Nat.le_of_ble_eq_true rfl, Nat.le_of_ble_eq_true rfl⟩) (rc_w hKK.1 hP 16 (by decide) rfl rfl) rfl rfl (Nat.zero_le _) d_FV_about_92 hsz hP hS) (fun r13 σ12 _ => ?_)
                refine v_if_eq S d_FV_about_95 (tgt := 106) (by decide) (fun h14 => ?_) (fun h14 => ?_)
                · refine v_iconst S d_FV_about_106 (v := (-1 : Int32)) (by decide) ?_
                  exact v_iret S hret hlocks d_FV_about_107
                · refine v_aload_n S d_FV_about_98 rfl rfl ?_
                  refine v_iload_n S d_FV_about_99 rfl rfl ?_
                  refine v_ci (rest := []) (fun _ _ hg H locs ls hsz hP hS => run_V (As := [.int a0]) (rest := []) S kC_ok hKK (c_FV_aboutTopFrame l D ca ax b σ12 a0 hg) (k_FV_100 S.2.2.2.2 (fun _ => List.mem_cons_of_mem _) ⟨Nat.le_of_ble_eq_true rfl, Nat.le_of_ble_eq_true rfl⟩) (rc_w hKK.1 hP 0 (by decide) rfl rfl) rfl rfl (Nat.zero_le _) d_FV_about_100 hsz hP hS) (fun r16 σ15 _ => ?_)
                  refine v_goto S d_FV_about_103 (tgt := 107) (by decide) ?_
                  exact v_iret S hret hlocks d_FV_about_107
              · refine v_tswQ S (4 : Int32) (tgt := 88) d_FV_about_1 (by decide) (by decide) (off := 87) rfl (by decide) ?_ (fun h11 => ?_)
                · refine v_aload_n S d_FV_about_88 rfl rfl ?_
                  refine v_get S (fun w h => List.mem_cons_of_mem _ (i_FV w h)) hKK.1 0 (by decide) rfl rfl 2 (by decide) (S.2.2.2.2 _ (List.mem_cons_of_mem _ (wd_145))) (fun _ h => h) rfl d_FV_about_89 ?_
                  refine v_ci (rest := []) (fun _ _ hg H locs ls hsz hP hS => run_V (As := []) (rest := []) S kC_ok hKK (c_Ma_isRunning l D ca ax b σ hg) (k_FV_84 S.2.2.2.2 (fun _ => List.mem_cons_of_mem _) ⟨Nat.le_of_ble_eq_true rfl, Nat.le_of_ble_eq_true rfl⟩) (rc_w hKK.1 hP 16 (by decide) rfl rfl) rfl rfl (Nat.zero_le _) d_FV_about_92 hsz hP hS) (fun r13 σ12 _ => ?_)
                  refine v_if_eq S d_FV_about_95 (tgt := 106) (by decide) (fun h14 => ?_) (fun h14 => ?_)
                  · refine v_iconst S d_FV_about_106 (v := (-1 : Int32)) (by decide) ?_
                    exact v_iret S hret hlocks d_FV_about_107
                  · refine v_aload_n S d_FV_about_98 rfl rfl ?_
                    refine v_iload_n S d_FV_about_99 rfl rfl ?_
                    refine v_ci (rest := []) (fun _ _ hg H locs ls hsz hP hS => run_V (As := [.int a0]) (rest := []) S kC_ok hKK (c_FV_aboutTopFrame l D ca ax b σ12 a0 hg) (k_FV_100 S.2.2.2.2 (fun _ => List.mem_cons_of_mem _) ⟨Nat.le_of_ble_eq_true rfl, Nat.le_of_ble_eq_true rfl⟩) (rc_w hKK.1 hP 0 (by decide) rfl rfl) rfl rfl (Nat.zero_le _) d_FV_about_100 hsz hP hS) (fun r16 σ15 _ => ?_)
                    refine v_goto S d_FV_about_103 (tgt := 107) (by decide) ?_
                    exact v_iret S hret hlocks d_FV_about_107
                · refine v_tswD S (tgt := 88) d_FV_about_1 (by have nh1 := i32_ne (n := 0) h1 (by decide); have nh5 := i32_ne (n := 5) h5 (by decide); have nh6 := i32_ne (n := 6) h6 (by decide); have nh7 := i32_ne (n := 7) h7 (by decide); have nh8 := i32_ne (n := 1) h8 (by decide); have nh9 := i32_ne (n := 2) h9 (by decide); have nh10 := i32_ne (n := 3) h10 (by decide); have nh11 := i32_ne (n := 4) h11 (by decide); omega) (by decide) ?_
                  refine v_aload_n S d_FV_about_88 rfl rfl ?_
                  refine v_get S (fun w h => List.mem_cons_of_mem _ (i_FV w h)) hKK.1 0 (by decide) rfl rfl 2 (by decide) (S.2.2.2.2 _ (List.mem_cons_of_mem _ (wd_145))) (fun _ h => h) rfl d_FV_about_89 ?_
                  refine v_ci (rest := []) (fun _ _ hg H locs ls hsz hP hS => run_V (As := []) (rest := []) S kC_ok hKK (c_Ma_isRunning l D ca ax b σ hg) (k_FV_84 S.2.2.2.2 (fun _ => List.mem_cons_of_mem _) ⟨Nat.le_of_ble_eq_true rfl, Nat.le_of_ble_eq_true rfl⟩) (rc_w hKK.1 hP 16 (by decide) rfl rfl) rfl rfl (Nat.zero_le _) d_FV_about_92 hsz hP hS) (fun r13 σ12 _ => ?_)
                  refine v_if_eq S d_FV_about_95 (tgt := 106) (by decide) (fun h14 => ?_) (fun h14 => ?_)
                  · refine v_iconst S d_FV_about_106 (v := (-1 : Int32)) (by decide) ?_
                    exact v_iret S hret hlocks d_FV_about_107
                  · refine v_aload_n S d_FV_about_98 rfl rfl ?_
                    refine v_iload_n S d_FV_about_99 rfl rfl ?_
                    refine v_ci (rest := []) (fun _ _ hg H locs ls hsz hP hS => run_V (As := [.int a0]) (rest := []) S kC_ok hKK (c_FV_aboutTopFrame l D ca ax b σ12 a0 hg) (k_FV_100 S.2.2.2.2 (fun _ => List.mem_cons_of_mem _) ⟨Nat.le_of_ble_eq_true rfl, Nat.le_of_ble_eq_true rfl⟩) (rc_w hKK.1 hP 0 (by decide) rfl rfl) rfl rfl (Nat.zero_le _) d_FV_about_100 hsz hP hS) (fun r16 σ15 _ => ?_)
                    refine v_goto S d_FV_about_103 (tgt := 107) (by decide) ?_
                    exact v_iret S hret hlocks d_FV_about_107
def fn_FV_local (σ : mm_M) (a0 : Int32) : Option (Int32 × mm_M) :=
    (bd (fn_FV_isLocal σ a0) (fun r2 σ1 =>
    (if r2 = 0 then
    (some ((-1 : Int32), σ1))
    else
    (bd (fn_Ma_isRunning σ1) (fun r5 σ4 =>
    (if r5 = 0 then
    (some ((-1 : Int32), σ4))
    else
    (bd (fn_Ma_top σ4) (fun r8 σ7 =>
    (bd (fn_Fr_shown σ7 r8 a0) (fun r11 σ10 =>
    (some (r11, σ10))))))))))))
set_option maxRecDepth 100000 in
set_option maxHeartbeats 40000000 in
theorem c_FV_local (l : Launch) (D : va_G) (ca : Nat → ClassId) (ax : Nat → Nat → Nat) (b : Nat) (σ : mm_M) (a0 : Int32)  {r : Int32} {σ' : mm_M} (hf : fn_FV_local σ a0 = some (r, σ')) : Met l y_FV_local w_FV_local rm_FV_local (pc_w D cls b N_C (ce_C ca b) (kC D ca ax b) [.ref (b + 0), .int a0] σ) (qc_i D cls b N_C (ce_C ca b) r σ') 0 0 (mm_A b N_C) := by
  refine vv_go (cc := b_FV_local) (maxL := 2) (ret := (some .int)) (fin := (r, σ')) (k := fn_FV_local σ a0) (by decide) rfl (by simp [Value.category]) (Nat.le_of_ble_eq_true rfl) hf ?_
  intro p e s m below meth c hlocks hret S hKK
  unfold fn_FV_local
  refine v_iload_n S d_FV_local_0 rfl rfl ?_
  refine v_ci (rest := []) (fun _ _ hg H locs ls hsz hP hS => run_S (As := [.int a0]) (rest := []) S kC_ok hKK (c_FV_isLocal l D ca ax b σ a0 hg) (k_FV_103 S.2.2.2.2 (fun _ => List.mem_cons_of_mem _) ⟨Nat.le_of_ble_eq_true rfl, Nat.le_of_ble_eq_true rfl⟩) rfl rfl (Nat.zero_le _) d_FV_local_1 hsz hP hS) (fun r2 σ1 _ => ?_)
  refine v_if_eq S d_FV_local_4 (tgt := 17) (by decide) (fun h3 => ?_) (fun h3 => ?_)
  · refine v_iconst S d_FV_local_17 (v := (-1 : Int32)) (by decide) ?_
    exact v_iret S hret hlocks d_FV_local_18
  · refine v_aload_n S d_FV_local_7 rfl rfl ?_
    refine v_get S (fun w h => List.mem_cons_of_mem _ (i_FV w h)) hKK.1 0 (by decide) rfl rfl 2 (by decide) (S.2.2.2.2 _ (List.mem_cons_of_mem _ (wd_145))) (fun _ h => h) rfl d_FV_local_8 ?_
    refine v_ci (rest := []) (fun _ _ hg H locs ls hsz hP hS => run_V (As := []) (rest := []) S kC_ok hKK (c_Ma_isRunning l D ca ax b σ1 hg) (k_FV_84 S.2.2.2.2 (fun _ => List.mem_cons_of_mem _) ⟨Nat.le_of_ble_eq_true rfl, Nat.le_of_ble_eq_true rfl⟩) (rc_w hKK.1 hP 16 (by decide) rfl rfl) rfl rfl (Nat.zero_le _) d_FV_local_11 hsz hP hS) (fun r5 σ4 _ => ?_)
    refine v_if_ne S d_FV_local_14 (tgt := 19) (by decide) (fun h6 => ?_) (fun h6 => ?_)
    · refine v_aload_n S d_FV_local_19 rfl rfl ?_
      refine v_get S (fun w h => List.mem_cons_of_mem _ (i_FV w h)) hKK.1 0 (by decide) rfl rfl 2 (by decide) (S.2.2.2.2 _ (List.mem_cons_of_mem _ (wd_145))) (fun _ h => h) rfl d_FV_local_20 ?_
      refine v_ca (fun q => b + (19 + 2 * q)) (rest := []) (fun _ _ hg H locs ls hsz hP hS => run_V (As := []) (rest := []) S kC_ok hKK (c_Ma_top l D ca ax b σ4 hg) (k_FV_106 S.2.2.2.2 (fun _ => List.mem_cons_of_mem _) ⟨Nat.le_of_ble_eq_true rfl, Nat.le_of_ble_eq_true rfl⟩) (rc_w hKK.1 hP 16 (by decide) rfl rfl) rfl rfl (Nat.zero_le _) d_FV_local_23 hsz hP hS) (fun r8 σ7 g9 => ?_)
      refine v_iload_n S d_FV_local_26 rfl rfl ?_
      refine v_ci (rest := []) (fun _ _ hg H locs ls hsz hP hS => run_V (As := [.int a0]) (rest := []) S kC_ok hKK (c_Fr_shown l D ca ax b σ7 r8 a0 (rb_Ma_top g9) hg) (k_FV_110 S.2.2.2.2 (fun _ => List.mem_cons_of_mem _) ⟨Nat.le_of_ble_eq_true rfl, Nat.le_of_ble_eq_true rfl⟩) (rc_w hKK.1 hP (19 + 2 * r8) (fr_lt (rb_Ma_top g9)) (ce_fr (rb_Ma_top g9)) rfl) rfl rfl (Nat.zero_le _) d_FV_local_27 hsz hP hS) (fun r11 σ10 _ => ?_)
      exact v_iret S hret hlocks d_FV_local_30
    · refine v_iconst S d_FV_local_17 (v := (-1 : Int32)) (by decide) ?_
      exact v_iret S hret hlocks d_FV_local_18

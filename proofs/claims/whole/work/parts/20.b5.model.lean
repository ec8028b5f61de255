/-! contracts of 20.model; written by wip/whole/make.py -/
def fn_Mo_verify_24  : Nat → mm_M → Int32 → Int32 → Option (Int32 × mm_M)
  | 0, _, _, _ => none
  | n + 1, σ, l1, l2 =>
    (if (4 : Int32) ≤ l2 then
    (if l1 = 0 then
    (nm (mw σ 0 7 (1 : Int32)) (fun σ7 =>
    (some (l1, σ7))))
    else
    (nm (mw σ 0 7 (0 : Int32)) (fun σ6 =>
    (some (l1, σ6)))))
    else
    (bd (fn_Mo_work σ l2) (fun r9 σ8 =>
    (if r9 < 0 then
    (fn_Mo_verify_24  n σ8 l1 (l2 + (1 : Int32)))
    else
    (if l1 = 0 then
    (nm (((1000 : Int32) * ((1 : Int32) + l2)) + r9) (fun x14 =>
    (fn_Mo_verify_24  n σ8 x14 (l2 + (1 : Int32)))))
    else
    (fn_Mo_verify_24  n σ8 l1 (l2 + (1 : Int32))))))))
def fn_Mo_verify (σ : mm_M)  : Option (Int32 × mm_M) :=
    (nm (mw σ 0 26 (0 : Int32)) (fun σ1 =>
    (if ((0 : Int32) < 0 ∨ 4 ≤ (0 : Int32).toNatClampNeg) then none else
    (if (σ1 3 (0 : Int32).toNatClampNeg) = 0 then
    (fn_Mo_verify_24  fuel0 σ1 (1999 : Int32) (0 : Int32))
    else
    (fn_Mo_verify_24  fuel0 σ1 (0 : Int32) (0 : Int32))))))
set_option maxRecDepth 100000 in
set_option maxHeartbeats 40000000 in
theorem c_Mo_verify (l : Launch) (D : va_G) (ca : Nat → ClassId) (ax : Nat → Nat → Nat) (b : Nat) (σ : mm_M)   {r : Int32} {σ' : mm_M} (hf : fn_Mo_verify σ  = some (r, σ')) : Met l y_Mo_verify w_Mo_verify rm_Mo_verify (pc_w D cls b N_M (ce_M ca b) (kM D ca ax b) [.ref (b + 0)] σ) (qc_i D cls b N_M (ce_M ca b) r σ') 0 0 (mm_A b N_M) := by
  refine vv_go (cc := b_Mo_verify) (maxL := 4) (ret := (some .int)) (fin := (r, σ')) (k := fn_Mo_verify σ ) (by decide) rfl (by simp [Value.category]) (Nat.le_of_ble_eq_true rfl) hf ?_
  intro p e s m below meth c hlocks hret S hKK
  have C24 : ∀ (n : Nat) (σ : mm_M) (l1 : Int32) (l2 : Int32), vv p l e (headSpec w_Mo_verify rm_Mo_verify).room s m [.ref (b + 0)].toArray below meth c D cls b N_M (ce_M ca b) 4 (MQ below (qc_i D cls b N_M (ce_M ca b) r σ') [.ref (b + 0)].toArray s 0 0 (mm_A b N_M)) (r, σ') (fn_Mo_verify_24  n σ l1 l2) σ 24 [some (.ref (b + 0)), some (.int l1), some (.int l2)] [] := by
    intro n
    induction n with
    | zero => intro σ l1 l2  h; cases h
    | succ n ih =>
      intro σ l1 l2
      show vv p l e (headSpec w_Mo_verify rm_Mo_verify).room s m [.ref (b + 0)].toArray below meth c D cls b N_M (ce_M ca b) 4 (MQ below (qc_i D cls b N_M (ce_M ca b) r σ') [.ref (b + 0)].toArray s 0 0 (mm_A b N_M)) (r, σ') (        (if (4 : Int32) ≤ l2 then
        (if l1 = 0 then
        (nm (mw σ 0 7 (1 : Int32)) (fun σ7 =>
        (some (l1, σ7))))
        else
        (nm (mw σ 0 7 (0 : Int32)) (fun σ6 =>
        (some (l1, σ6)))))
        else
        (bd (fn_Mo_work σ l2) (fun r9 σ8 =>
        (if r9 < 0 then
        (fn_Mo_verify_24  n σ8 l1 (l2 + (1 : Int32)))
        else
        (if l1 = 0 then
        (nm (((1000 : Int32) * ((1 : Int32) + l2)) + r9) (fun x14 =>
        (fn_Mo_verify_24  n σ8 x14 (l2 + (1 : Int32)))))
        else
        (fn_Mo_verify_24  n σ8 l1 (l2 + (1 : Int32))))))))) σ 24 [some (.ref (b + 0)), some (.int l1), some (.int l2)] []
      refine v_iload_n S d_Mo_verify_24 rfl rfl ?_
      refine v_iconst S d_Mo_verify_25 (v := (4 : Int32)) (by decide) ?_
      refine v_icmp_ge S d_Mo_verify_26 (tgt := 63) (by decide) (fun h4 => ?_) (fun h4 => ?_)
      · refine v_aload_n S d_Mo_verify_63 rfl rfl ?_
        refine v_iload_n S d_Mo_verify_64 rfl rfl ?_
        refine v_if_ne S d_Mo_verify_65 (tgt := 72) (by decide) (fun h5 => ?_) (fun h5 => ?_)
        · refine v_iconst S d_Mo_verify_72 (v := (0 : Int32)) (by decide) ?_
          refine v_puti S (fun w h => List.mem_cons_of_mem _ (i_Mo w h)) hKK.1 0 (by decide) rfl rfl 7 (by decide) (S.2.2.2.2 _ (List.mem_cons_of_mem _ (wd_748))) (fun _ h => h) t_Mo t_Mo_ok n_Mo rfl (ty := .boolean) rfl rfl rfl (Nat.le_of_ble_eq_true rfl) rfl d_Mo_verify_73 ?_
          refine v_sg (fun σ6 eσ6 => ?_)
          refine v_iload_n S d_Mo_verify_76 rfl rfl ?_
          exact v_iret S hret hlocks d_Mo_verify_77
        · refine v_iconst S d_Mo_verify_68 (v := (1 : Int32)) (by decide) ?_
          refine v_goto S d_Mo_verify_69 (tgt := 73) (by decide) ?_
          refine v_puti S (fun w h => List.mem_cons_of_mem _ (i_Mo w h)) hKK.1 0 (by decide) rfl rfl 7 (by decide) (S.2.2.2.2 _ (List.mem_cons_of_mem _ (wd_748))) (fun _ h => h) t_Mo t_Mo_ok n_Mo rfl (ty := .boolean) rfl rfl rfl (Nat.le_of_ble_eq_true rfl) rfl d_Mo_verify_73 ?_
          refine v_sg (fun σ7 eσ7 => ?_)
          refine v_iload_n S d_Mo_verify_76 rfl rfl ?_
          exact v_iret S hret hlocks d_Mo_verify_77
      · refine v_aload_n S d_Mo_verify_29 rfl rfl ?_
        refine v_iload_n S d_Mo_verify_30 rfl rfl ?_
        refine v_ci (rest := []) (fun _ _ hg H locs ls hsz hP hS => run_V (As := [.int l2]) (rest := []) S kM_ok hKK (c_Mo_work l D ca ax b σ l2 hg) (k_Mo_127 S.2.2.2.2 (fun _ => List.mem_cons_of_mem _) ⟨Nat.le_of_ble_eq_true rfl, Nat.le_of_ble_eq_true rfl⟩) (rc_w hKK.1 hP 0 (by decide) rfl rfl) rfl rfl (Nat.zero_le _) d_Mo_verify_31 hsz hP hS) (fun r9 σ8 _ => ?_)
        refine v_istore_nP S d_Mo_verify_34 rfl (by decide) (L2 := [some (.ref (b + 0)), some (.int l1), some (.int l2), some (.int r9)]) rfl ?_
        refine v_iload_n S d_Mo_verify_35 rfl rfl ?_
        refine v_if_lt S d_Mo_verify_36 (tgt := 55) (by decide) (fun h10 => ?_) (fun h10 => ?_)
        · refine v_iload_n S d_Mo_verify_55 rfl rfl ?_
          refine v_istore_nP S d_Mo_verify_56 rfl (by decide) (L2 := [some (.ref (b + 0)), some (.int l1), some (.int l2), some (.int r9)]) rfl ?_
          refine v_iinc S d_Mo_verify_57 rfl (v := (l2 + (1 : Int32))) (by first | rfl | decide) (by decide) (L2 := [some (.ref (b + 0)), some (.int l1), some (.int (l2 + (1 : Int32))), some (.int r9)]) rfl ?_
          refine v_goto S d_Mo_verify_60 (tgt := 24) (by decide) ?_
          refine v_sub (L2 := [some (.ref (b + 0)), some (.int l1), some (.int (l2 + (1 : Int32)))]) (And.intro rfl (And.intro rfl (And.intro rfl True.intro))) ?_
          exact ih σ8 l1 (l2 + (1 : Int32))
        · refine v_iload_n S d_Mo_verify_39 rfl rfl ?_
          refine v_if_ne S d_Mo_verify_40 (tgt := 55) (by decide) (fun h12 => ?_) (fun h12 => ?_)
          · refine v_iload_n S d_Mo_verify_55 rfl rfl ?_
            refine v_istore_nP S d_Mo_verify_56 rfl (by decide) (L2 := [some (.ref (b + 0)), some (.int l1), some (.int l2), some (.int r9)]) rfl ?_
            refine v_iinc S d_Mo_verify_57 rfl (v := (l2 + (1 : Int32))) (by first | rfl | decide) (by decide) (L2 := [some (.ref (b + 0)), some (.int l1), some (.int (l2 + (1 : Int32))), some (.int r9)]) rfl ?_
            refine v_goto S d_Mo_verify_60 (tgt := 24) (by decide) ?_
            refine v_sub (L2 := [some (.ref (b + 0)), some (.int l1), some (.int (l2 + (1 : Int32)))]) (And.intro rfl (And.intro rfl (And.intro rfl True.intro))) ?_
            exact ih σ8 l1 (l2 + (1 : Int32))
          · refine v_sipush S d_Mo_verify_43 (v := (1000 : Int32)) (by decide) ?_
            refine v_iconst S d_Mo_verify_46 (v := (1 : Int32)) (by decide) ?_
            refine v_iload_n S d_Mo_verify_47 rfl rfl ?_
            refine v_iadd S d_Mo_verify_48 ?_
            refine v_imul S d_Mo_verify_49 ?_
            refine v_iload_n S d_Mo_verify_50 rfl rfl ?_
            refine v_iadd S d_Mo_verify_51 ?_
            refine v_goto S d_Mo_verify_52 (tgt := 56) (by decide) ?_
            refine v_top (fun x14 ex14 => ?_)
            refine v_istore_nP S d_Mo_verify_56 rfl (by decide) (L2 := [some (.ref (b + 0)), some (.int x14), some (.int l2), some (.int r9)]) rfl ?_
            refine v_iinc S d_Mo_verify_57 rfl (v := (l2 + (1 : Int32))) (by first | rfl | decide) (by decide) (L2 := [some (.ref (b + 0)), some (.int x14), some (.int (l2 + (1 : Int32))), some (.int r9)]) rfl ?_
            refine v_goto S d_Mo_verify_60 (tgt := 24) (by decide) ?_
            refine v_sub (L2 := [some (.ref (b + 0)), some (.int x14), some (.int (l2 + (1 : Int32)))]) (And.intro rfl (And.intro rfl (And.intro rfl True.intro))) ?_
            exact ih σ8 x14 (l2 + (1 : Int32))
  unfold fn_Mo_verify
  refine v_aload_n S d_Mo_verify_0 rfl rfl ?_
  refine v_iconst S d_Mo_verify_1 (v := (0 : Int32)) (by decide) ?_
  refine v_puti S (fun w h => List.mem_cons_of_mem _ (i_Mo w h)) hKK.1 0 (by decide) rfl rfl 26 (by decide) (S.2.2.2.2 _ (List.mem_cons_of_mem _ (wd_767))) (fun _ h => h) t_Mo t_Mo_ok n_Mo rfl (ty := .int) rfl rfl rfl (Nat.le_of_ble_eq_true rfl) rfl d_Mo_verify_2 ?_
  refine v_sg (fun σ1 eσ1 => ?_)
  refine v_aload_n S d_Mo_verify_5 rfl rfl ?_
  refine v_get S (fun w h => List.mem_cons_of_mem _ (i_Mo w h)) hKK.1 0 (by decide) rfl rfl 3 (by decide) (S.2.2.2.2 _ (List.mem_cons_of_mem _ (wd_744))) (fun _ h => h) rfl d_Mo_verify_6 ?_
  refine v_iconst S d_Mo_verify_9 (v := (0 : Int32)) (by decide) ?_
  refine v_zald S hKK.1 3 1 (by decide) rfl rfl d_Mo_verify_10 (fun h2 => ?_)
  refine v_if_eq S d_Mo_verify_11 (tgt := 18) (by decide) (fun h3 => ?_) (fun h3 => ?_)
  · refine v_sipush S d_Mo_verify_18 (v := (1999 : Int32)) (by decide) ?_
    refine v_istore_nP S d_Mo_verify_21 rfl (by decide) (L2 := [some (.ref (b + 0)), some (.int (1999 : Int32))]) rfl ?_
    refine v_iconst S d_Mo_verify_22 (v := (0 : Int32)) (by decide) ?_
    refine v_istore_nP S d_Mo_verify_23 rfl (by decide) (L2 := [some (.ref (b + 0)), some (.int (1999 : Int32)), some (.int (0 : Int32))]) rfl ?_
    refine v_sub (L2 := [some (.ref (b + 0)), some (.int (1999 : Int32)), some (.int (0 : Int32))]) (And.intro rfl (And.intro rfl (And.intro rfl True.intro))) ?_
    exact C24 fuel0 σ1 (1999 : Int32) (0 : Int32)
  · refine v_iconst S d_Mo_verify_14 (v := (0 : Int32)) (by decide) ?_
    refine v_goto S d_Mo_verify_15 (tgt := 21) (by decide) ?_
    refine v_istore_nP S d_Mo_verify_21 rfl (by decide) (L2 := [some (.ref (b + 0)), some (.int (0 : Int32))]) rfl ?_
    refine v_iconst S d_Mo_verify_22 (v := (0 : Int32)) (by decide) ?_
    refine v_istore_nP S d_Mo_verify_23 rfl (by decide) (L2 := [some (.ref (b + 0)), some (.int (0 : Int32)), some (.int (0 : Int32))]) rfl ?_
    refine v_sub (L2 := [some (.ref (b + 0)), some (.int (0 : Int32)), some (.int (0 : Int32))]) (And.intro rfl (And.intro rfl (And.intro rfl True.intro))) ?_
    exact C24 fuel0 σ1 (0 : Int32) (0 : Int32)
def fn_Mo_isVerified (σ : mm_M)  : Option (Int32 × mm_M) :=
    (nm (mw σ 0 26 (0 : Int32)) (fun σ1 =>
    (if (σ1 0 7) = 0 ∨ (σ1 0 7) = 1 then some ((σ1 0 7), σ1) else none)))
set_option maxRecDepth 100000 in
set_option maxHeartbeats 40000000 in
theorem c_Mo_isVerified (l : Launch) (D : va_G) (ca : Nat → ClassId) (ax : Nat → Nat → Nat) (b : Nat) (σ : mm_M)   {r : Int32} {σ' : mm_M} (hf : fn_Mo_isVerified σ  = some (r, σ')) : Met l y_Mo_isVerified w_Mo_isVerified rm_Mo_isVerified (pc_w D cls b N_M (ce_M ca b) (kM D ca ax b) [.ref (b + 0)] σ) (qc_i D cls b N_M (ce_M ca b) r σ') 0 0 (mm_A b N_M) := by
  refine vv_go (cc := b_Mo_isVerified) (maxL := 1) (ret := (some .boolean)) (fin := (r, σ')) (k := fn_Mo_isVerified σ ) (by decide) rfl (by simp [Value.category]) (Nat.le_of_ble_eq_true rfl) hf ?_
  intro p e s m below meth c hlocks hret S hKK
  unfold fn_Mo_isVerified
  refine v_aload_n S d_Mo_isVerified_0 rfl rfl ?_
  refine v_iconst S d_Mo_isVerified_1 (v := (0 : Int32)) (by decide) ?_
  refine v_puti S (fun w h => List.mem_cons_of_mem _ (i_Mo w h)) hKK.1 0 (by decide) rfl rfl 26 (by decide) (S.2.2.2.2 _ (List.mem_cons_of_mem _ (wd_767))) (fun _ h => h) t_Mo t_Mo_ok n_Mo rfl (ty := .int) rfl rfl rfl (Nat.le_of_ble_eq_true rfl) rfl d_Mo_isVerified_2 ?_
  refine v_sg (fun σ1 eσ1 => ?_)
  refine v_aload_n S d_Mo_isVerified_5 rfl rfl ?_
  refine v_get S (fun w h => List.mem_cons_of_mem _ (i_Mo w h)) hKK.1 0 (by decide) rfl rfl 7 (by decide) (S.2.2.2.2 _ (List.mem_cons_of_mem _ (wd_748))) (fun _ h => h) rfl d_Mo_isVerified_6 ?_
  exact v_zret S hret hlocks d_Mo_isVerified_9
def fn_Mo_type (σ : mm_M) (a0 : Int32) (a1 : Int32) (a2 : Int32) : Option (Int32 × mm_M) :=
    (nm (mw σ 0 26 (0 : Int32)) (fun σ1 =>
    (if a0 < 0 then
    (some ((-1 : Int32), σ1))
    else
    (if (3 : Int32) < a0 then
    (some ((-1 : Int32), σ1))
    else
    (if a1 < 0 then
    (some ((-1 : Int32), σ1))
    else
    (if (99 : Int32) < a1 then
    (some ((-1 : Int32), σ1))
    else
    (if a2 < 0 then
    (some ((-1 : Int32), σ1))
    else
    (if a2 ≤ (11 : Int32) then
    (nm (((100 : Int32) * a0) + a1) (fun x8 =>
    (bd (fn_Mo_work σ1 a0) (fun r10 σ9 =>
    (if (x8 < 0 ∨ 400 ≤ x8.toNatClampNeg) then none else
    (if (σ9 7 x8.toNatClampNeg) = (-2 : Int32) then
    (some ((-2 : Int32), σ9))
    else
    (if (x8 < 0 ∨ 400 ≤ x8.toNatClampNeg) then none else
    (if (σ9 7 x8.toNatClampNeg) = (-1 : Int32) then
    (some ((-1 : Int32), σ9))
    else
    (if (x8 < 0 ∨ 400 ≤ x8.toNatClampNeg) then none else
    (if a2 < ((6 : Int32) + (σ9 7 x8.toNatClampNeg)) then
    (if ((((12 : Int32) * x8) + a2) < 0 ∨ 4800 ≤ (((12 : Int32) * x8) + a2).toNatClampNeg) then none else
    (some ((σ9 8 (((12 : Int32) * x8) + a2).toNatClampNeg), σ9)))
    else
    (some ((-1 : Int32), σ9))))))))))))
    else
    (some ((-1 : Int32), σ1))))))))))
set_option maxRecDepth 100000 in
set_option maxHeartbeats 40000000 in
theorem c_Mo_type (l : Launch) (D : va_G) (ca : Nat → ClassId) (ax : Nat → Nat → Nat) (b : Nat) (σ : mm_M) (a0 : Int32) (a1 : Int32) (a2 : Int32)  {r : Int32} {σ' : mm_M} (hf : fn_Mo_type σ a0 a1 a2 = some (r, σ')) : Met l y_Mo_type w_Mo_type rm_Mo_type (pc_w D cls b N_M (ce_M ca b) (kM D ca ax b) [.ref (b + 0), .int a0, .int a1, .int a2] σ) (qc_i D cls b N_M (ce_M ca b) r σ') 0 0 (mm_A b N_M) := by
  refine vv_go (cc := b_Mo_type) (maxL := 6) (ret := (some .int)) (fin := (r, σ')) (k := fn_Mo_type σ a0 a1 a2) (by decide) rfl (by simp [Value.category]) (Nat.le_of_ble_eq_true rfl) hf ?_
  intro p e s m below meth c hlocks hret S hKK
  unfold fn_Mo_type
  refine v_aload_n S d_Mo_type_0 rfl rfl ?_
  refine v_iconst S d_Mo_type_1 (v := (0 : Int32)) (by decide) ?_
  refine v_puti S (fun w h => List.mem_cons_of_mem _ (i_Mo w h)) hKK.1 0 (by decide) rfl rfl 26 (by decide) (S.2.2.2.2 _ (List.mem_cons_of_mem _ (wd_767))) (fun _ h => h) t_Mo t_Mo_ok n_Mo rfl (ty := .int) rfl rfl rfl (Nat.le_of_ble_eq_true rfl) rfl d_Mo_type_2 ?_
  refine v_sg (fun σ1 eσ1 => ?_)
  refine v_iload_n S d_Mo_type_5 rfl rfl ?_
  refine v_if_lt S d_Mo_type_6 (tgt := 34) (by decide) (fun h2 => ?_) (fun h2 => ?_)
  · refine v_iconst S d_Mo_type_34 (v := (-1 : Int32)) (by decide) ?_
    exact v_iret S hret hlocks d_Mo_type_35
  · refine v_iload_n S d_Mo_type_9 rfl rfl ?_
    refine v_iconst S d_Mo_type_10 (v := (3 : Int32)) (by decide) ?_
    refine v_icmp_gt S d_Mo_type_11 (tgt := 34) (by decide) (fun h3 => ?_) (fun h3 => ?_)
    · refine v_iconst S d_Mo_type_34 (v := (-1 : Int32)) (by decide) ?_
      exact v_iret S hret hlocks d_Mo_type_35
    · refine v_iload_n S d_Mo_type_14 rfl rfl ?_
      refine v_if_lt S d_Mo_type_15 (tgt := 34) (by decide) (fun h4 => ?_) (fun h4 => ?_)
      · refine v_iconst S d_Mo_type_34 (v := (-1 : Int32)) (by decide) ?_
        exact v_iret S hret hlocks d_Mo_type_35
      · refine v_iload_n S d_Mo_type_18 rfl rfl ?_
        refine v_bipush S d_Mo_type_19 (v := (99 : Int32)) (by decide) ?_
        refine v_icmp_gt S d_Mo_type_21 (tgt := 34) (by decide) (fun h5 => ?_) (fun h5 => ?_)
        · refine v_iconst S d_Mo_type_34 (v := (-1 : Int32)) (by decide) ?_
          exact v_iret S hret hlocks d_Mo_type_35
        · refine v_iload_n S d_Mo_type_24 rfl rfl ?_
          refine v_if_lt S d_Mo_type_25 (tgt := 34) (by decide) (fun h6 => ?_) (fun h6 => ?_)
          · refine v_iconst S d_Mo_type_34 (v := (-1 : Int32)) (by decide) ?_
            exact v_iret S hret hlocks d_Mo_type_35
          · refine v_iload_n S d_Mo_type_28 rfl rfl ?_
            refine v_bipush S d_Mo_type_29 (v := (11 : Int32)) (by decide) ?_
            refine v_icmp_le S d_Mo_type_31 (tgt := 36) (by decide) (fun h7 => ?_) (fun h7 => ?_)
            · refine v_bipush S d_Mo_type_36 (v := (100 : Int32)) (by decide) ?_
              refine v_iload_n S d_Mo_type_38 rfl rfl ?_
              refine v_imul S d_Mo_type_39 ?_
              refine v_iload_n S d_Mo_type_40 rfl rfl ?_
              refine v_iadd S d_Mo_type_41 ?_
              refine v_top (fun x8 ex8 => ?_)
              refine v_istoreP S d_Mo_type_42 (by decide) (L2 := [some (.ref (b + 0)), some (.int a0), some (.int a1), some (.int a2), some (.int x8)]) rfl ?_
              refine v_aload_n S d_Mo_type_44 rfl rfl ?_
              refine v_iload_n S d_Mo_type_45 rfl rfl ?_
              refine v_ci (rest := []) (fun _ _ hg H locs ls hsz hP hS => run_V (As := [.int a0]) (rest := []) S kM_ok hKK (c_Mo_work l D ca ax b σ1 a0 hg) (k_Mo_127 S.2.2.2.2 (fun _ => List.mem_cons_of_mem _) ⟨Nat.le_of_ble_eq_true rfl, Nat.le_of_ble_eq_true rfl⟩) (rc_w hKK.1 hP 0 (by decide) rfl rfl) rfl rfl (Nat.zero_le _) d_Mo_type_46 hsz hP hS) (fun r10 σ9 _ => ?_)
              refine v_istoreP S d_Mo_type_49 (by decide) (L2 := [some (.ref (b + 0)), some (.int a0), some (.int a1), some (.int a2), some (.int x8), some (.int r10)]) rfl ?_
              refine v_aload_n S d_Mo_type_51 rfl rfl ?_
              refine v_get S (fun w h => List.mem_cons_of_mem _ (i_Mo w h)) hKK.1 0 (by decide) rfl rfl 8 (by decide) (S.2.2.2.2 _ (List.mem_cons_of_mem _ (wd_749))) (fun _ h => h) rfl d_Mo_type_52 ?_
              refine v_iload S d_Mo_type_55 rfl ?_
              refine v_iald S hKK.1 7 0 (by decide) rfl rfl d_Mo_type_57 (fun h11 => ?_)
              refine v_bipush S d_Mo_type_58 (v := (-2 : Int32)) (by decide) ?_
              refine v_icmp_ne S d_Mo_type_60 (tgt := 68) (by decide) (fun h12 => ?_) (fun h12 => ?_)
              · refine v_aload_n S d_Mo_type_68 rfl rfl ?_
                refine v_get S (fun w h => List.mem_cons_of_mem _ (i_Mo w h)) hKK.1 0 (by decide) rfl rfl 8 (by decide) (S.2.2.2.2 _ (List.mem_cons_of_mem _ (wd_749))) (fun _ h => h) rfl d_Mo_type_69 ?_
                refine v_iload S d_Mo_type_72 rfl ?_
                refine v_iald S hKK.1 7 0 (by decide) rfl rfl d_Mo_type_74 (fun h13 => ?_)
                refine v_iconst S d_Mo_type_75 (v := (-1 : Int32)) (by decide) ?_
                refine v_icmp_eq S d_Mo_type_76 (tgt := 93) (by decide) (fun h14 => ?_) (fun h14 => ?_)
                · refine v_iconst S d_Mo_type_93 (v := (-1 : Int32)) (by decide) ?_
                  refine v_goto S d_Mo_type_94 (tgt := 109) (by decide) ?_
                  exact v_iret S hret hlocks d_Mo_type_109
                · refine v_iload_n S d_Mo_type_79 rfl rfl ?_
                  refine v_bipush S d_Mo_type_80 (v := (6 : Int32)) (by decide) ?_
                  refine v_aload_n S d_Mo_type_82 rfl rfl ?_
                  refine v_get S (fun w h => List.mem_cons_of_mem _ (i_Mo w h)) hKK.1 0 (by decide) rfl rfl 8 (by decide) (S.2.2.2.2 _ (List.mem_cons_of_mem _ (wd_749))) (fun _ h => h) rfl d_Mo_type_83 ?_
                  refine v_iload S d_Mo_type_86 rfl ?_
                  refine v_iald S hKK.1 7 0 (by decide) rfl rfl d_Mo_type_88 (fun h15 => ?_)
                  refine v_iadd S d_Mo_type_89 ?_
                  refine v_icmp_lt S d_Mo_type_90 (tgt := 97) (by decide) (fun h16 => ?_) (fun h16 => ?_)
                  · refine v_aload_n S d_Mo_type_97 rfl rfl ?_
                    refine v_get S (fun w h => List.mem_cons_of_mem _ (i_Mo w h)) hKK.1 0 (by decide) rfl rfl 9 (by decide) (S.2.2.2.2 _ (List.mem_cons_of_mem _ (wd_750))) (fun _ h => h) rfl d_Mo_type_98 ?_
                    refine v_bipush S d_Mo_type_101 (v := (12 : Int32)) (by decide) ?_
                    refine v_iload S d_Mo_type_103 rfl ?_
                    refine v_imul S d_Mo_type_105 ?_
                    refine v_iload_n S d_Mo_type_106 rfl rfl ?_
                    refine v_iadd S d_Mo_type_107 ?_
                    refine v_iald S hKK.1 8 0 (by decide) rfl rfl d_Mo_type_108 (fun h17 => ?_)
                    exact v_iret S hret hlocks d_Mo_type_109
                  · refine v_iconst S d_Mo_type_93 (v := (-1 : Int32)) (by decide) ?_
                    refine v_goto S d_Mo_type_94 (tgt := 109) (by decide) ?_
                    exact v_iret S hret hlocks d_Mo_type_109
              · refine v_bipush S d_Mo_type_63 (v := (-2 : Int32)) (by decide) ?_
                refine v_goto S d_Mo_type_65 (tgt := 109) (by decide) ?_
                exact v_iret S hret hlocks d_Mo_type_109
            · refine v_iconst S d_Mo_type_34 (v := (-1 : Int32)) (by decide) ?_
              exact v_iret S hret hlocks d_Mo_type_35
def fn_Mo_enter_37 (a0 : Int32) : Nat → mm_M → Int32 → Option (mm_M)
  | 0, _, _ => none
  | n + 1, σ, l2 =>
    (if (6 : Int32) ≤ l2 then
    (nm (mw σ 0 16 ((σ 0 16) + (1 : Int32))) (fun σ9 =>
    (some σ9)))
    else
    (if ((((12 : Int32) * (σ 0 16)) + l2) < 0 ∨ 96 ≤ (((12 : Int32) * (σ 0 16)) + l2).toNatClampNeg) then none else (nm (mw σ 15 (((12 : Int32) * (σ 0 16)) + l2).toNatClampNeg (0 : Int32)) (fun σ11 =>
    (if ((((12 : Int32) * (σ11 0 16)) + l2) < 0 ∨ 96 ≤ (((12 : Int32) * (σ11 0 16)) + l2).toNatClampNeg) then none else (nm (mw σ11 14 (((12 : Int32) * (σ11 0 16)) + l2).toNatClampNeg (0 : Int32)) (fun σ13 =>
    (fn_Mo_enter_37 a0 n σ13 (l2 + (1 : Int32))))))))))
def fn_Mo_enter (σ : mm_M) (a0 : Int32) : Option (mm_M) :=
    (if ((σ 0 16) < 0 ∨ 8 ≤ (σ 0 16).toNatClampNeg) then none else (nm (mw σ 11 (σ 0 16).toNatClampNeg a0) (fun σ2 =>
    (if (a0 < 0 ∨ 4 ≤ a0.toNatClampNeg) then none else
    (if ((σ2 0 16) < 0 ∨ 8 ≤ (σ2 0 16).toNatClampNeg) then none else (nm (mw σ2 12 (σ2 0 16).toNatClampNeg (σ2 4 a0.toNatClampNeg)) (fun σ5 =>
    (if ((σ5 0 16) < 0 ∨ 8 ≤ (σ5 0 16).toNatClampNeg) then none else (nm (mw σ5 13 (σ5 0 16).toNatClampNeg (0 : Int32)) (fun σ7 =>
    (fn_Mo_enter_37 a0 fuel0 σ7 (0 : Int32))))))))))))
set_option maxRecDepth 100000 in
set_option maxHeartbeats 40000000 in
theorem c_Mo_enter (l : Launch) (D : va_G) (ca : Nat → ClassId) (ax : Nat → Nat → Nat) (b : Nat) (σ : mm_M) (a0 : Int32)  {σ' : mm_M} (hf : fn_Mo_enter σ a0 = some σ') : Met l y_Mo_enter w_Mo_enter rm_Mo_enter (pc_w D cls b N_M (ce_M ca b) (kM D ca ax b) [.ref (b + 0), .int a0] σ) (qc_v D cls b N_M (ce_M ca b) σ') 0 0 (mm_A b N_M) := by
  refine vv_go (cc := b_Mo_enter) (maxL := 3) (ret := none) (fin := σ') (k := fn_Mo_enter σ a0) (by decide) rfl (by simp [Value.category]) (Nat.le_of_ble_eq_true rfl) hf ?_
  intro p e s m below meth c hlocks hret S hKK
  have C37 : ∀ (n : Nat) (σ : mm_M) (l2 : Int32), vv p l e (headSpec w_Mo_enter rm_Mo_enter).room s m [.ref (b + 0), .int a0].toArray below meth c D cls b N_M (ce_M ca b) 3 (MQ below (qc_v D cls b N_M (ce_M ca b) σ') [.ref (b + 0), .int a0].toArray s 0 0 (mm_A b N_M)) σ' (fn_Mo_enter_37 a0 n σ l2) σ 37 [some (.ref (b + 0)), none, some (.int l2)] [] := by
    intro n
    induction n with
    | zero => intro σ l2  h; cases h
    | succ n ih =>
      intro σ l2
      show vv p l e (headSpec w_Mo_enter rm_Mo_enter).room s m [.ref (b + 0), .int a0].toArray below meth c D cls b N_M (ce_M ca b) 3 (MQ below (qc_v D cls b N_M (ce_M ca b) σ') [.ref (b + 0), .int a0].toArray s 0 0 (mm_A b N_M)) σ' (        (if (6 : Int32) ≤ l2 then
        (nm (mw σ 0 16 ((σ 0 16) + (1 : Int32))) (fun σ9 =>
        (some σ9)))
        else
        (if ((((12 : Int32) * (σ 0 16)) + l2) < 0 ∨ 96 ≤ (((12 : Int32) * (σ 0 16)) + l2).toNatClampNeg) then none else (nm (mw σ 15 (((12 : Int32) * (σ 0 16)) + l2).toNatClampNeg (0 : Int32)) (fun σ11 =>
        (if ((((12 : Int32) * (σ11 0 16)) + l2) < 0 ∨ 96 ≤ (((12 : Int32) * (σ11 0 16)) + l2).toNatClampNeg) then none else (nm (mw σ11 14 (((12 : Int32) * (σ11 0 16)) + l2).toNatClampNeg (0 : Int32)) (fun σ13 =>
        (fn_Mo_enter_37 a0 n σ13 (l2 + (1 : Int32))))))))))) σ 37 [some (.ref (b + 0)), none, some (.int l2)] []
      refine v_iload_n S d_Mo_enter_37 rfl rfl ?_
      refine v_bipush S d_Mo_enter_38 (v := (6 : Int32)) (by decide) ?_
      refine v_icmp_ge S d_Mo_enter_40 (tgt := 79) (by decide) (fun h8 => ?_) (fun h8 => ?_)
      · refine v_aload_n S d_Mo_enter_79 rfl rfl ?_
        refine v_dup S d_Mo_enter_80 rfl ?_
        refine v_get S (fun w h => List.mem_cons_of_mem _ (i_Mo w h)) hKK.1 0 (by decide) rfl rfl 16 (by decide) (S.2.2.2.2 _ (List.mem_cons_of_mem _ (wd_757))) (fun _ h => h) rfl d_Mo_enter_81 ?_
        refine v_iconst S d_Mo_enter_84 (v := (1 : Int32)) (by decide) ?_
        refine v_iadd S d_Mo_enter_85 ?_
        refine v_puti S (fun w h => List.mem_cons_of_mem _ (i_Mo w h)) hKK.1 0 (by decide) rfl rfl 16 (by decide) (S.2.2.2.2 _ (List.mem_cons_of_mem _ (wd_757))) (fun _ h => h) t_Mo t_Mo_ok n_Mo rfl (ty := .int) rfl rfl rfl (Nat.le_of_ble_eq_true rfl) rfl d_Mo_enter_86 ?_
        refine v_sg (fun σ9 eσ9 => ?_)
        exact v_vret S hret hlocks d_Mo_enter_89
      · refine v_aload_n S d_Mo_enter_43 rfl rfl ?_
        refine v_get S (fun w h => List.mem_cons_of_mem _ (i_Mo w h)) hKK.1 0 (by decide) rfl rfl 21 (by decide) (S.2.2.2.2 _ (List.mem_cons_of_mem _ (wd_762))) (fun _ h => h) rfl d_Mo_enter_44 ?_
        refine v_bipush S d_Mo_enter_47 (v := (12 : Int32)) (by decide) ?_
        refine v_aload_n S d_Mo_enter_49 rfl rfl ?_
        refine v_get S (fun w h => List.mem_cons_of_mem _ (i_Mo w h)) hKK.1 0 (by decide) rfl rfl 16 (by decide) (S.2.2.2.2 _ (List.mem_cons_of_mem _ (wd_757))) (fun _ h => h) rfl d_Mo_enter_50 ?_
        refine v_imul S d_Mo_enter_53 ?_
        refine v_iload_n S d_Mo_enter_54 rfl rfl ?_
        refine v_iadd S d_Mo_enter_55 ?_
        refine v_iconst S d_Mo_enter_56 (v := (0 : Int32)) (by decide) ?_
        refine v_iast1 S hKK.1 15 0 (by decide) (fun _ => rfl) rfl d_Mo_enter_57 (fun h10 => ?_)
        refine v_sg (fun σ11 eσ11 => ?_)
        refine v_aload_n S d_Mo_enter_58 rfl rfl ?_
        refine v_get S (fun w h => List.mem_cons_of_mem _ (i_Mo w h)) hKK.1 0 (by decide) rfl rfl 20 (by decide) (S.2.2.2.2 _ (List.mem_cons_of_mem _ (wd_761))) (fun _ h => h) rfl d_Mo_enter_59 ?_
        refine v_bipush S d_Mo_enter_62 (v := (12 : Int32)) (by decide) ?_
        refine v_aload_n S d_Mo_enter_64 rfl rfl ?_
        refine v_get S (fun w h => List.mem_cons_of_mem _ (i_Mo w h)) hKK.1 0 (by decide) rfl rfl 16 (by decide) (S.2.2.2.2 _ (List.mem_cons_of_mem _ (wd_757))) (fun _ h => h) rfl d_Mo_enter_65 ?_
        refine v_imul S d_Mo_enter_68 ?_
        refine v_iload_n S d_Mo_enter_69 rfl rfl ?_
        refine v_iadd S d_Mo_enter_70 ?_
        refine v_iconst S d_Mo_enter_71 (v := (0 : Int32)) (by decide) ?_
        refine v_iast1 S hKK.1 14 0 (by decide) (fun _ => rfl) rfl d_Mo_enter_72 (fun h12 => ?_)
        refine v_sg (fun σ13 eσ13 => ?_)
        refine v_iinc S d_Mo_enter_73 rfl (v := (l2 + (1 : Int32))) (by first | rfl | decide) (by decide) (L2 := [some (.ref (b + 0)), none, some (.int (l2 + (1 : Int32)))]) rfl ?_
        refine v_goto S d_Mo_enter_76 (tgt := 37) (by decide) ?_
        refine v_sub (L2 := [some (.ref (b + 0)), none, some (.int (l2 + (1 : Int32)))]) (And.intro rfl (And.intro rfl True.intro)) ?_
        exact ih σ13 (l2 + (1 : Int32))
  unfold fn_Mo_enter
  refine v_aload_n S d_Mo_enter_0 rfl rfl ?_
  refine v_get S (fun w h => List.mem_cons_of_mem _ (i_Mo w h)) hKK.1 0 (by decide) rfl rfl 17 (by decide) (S.2.2.2.2 _ (List.mem_cons_of_mem _ (wd_758))) (fun _ h => h) rfl d_Mo_enter_1 ?_
  refine v_aload_n S d_Mo_enter_4 rfl rfl ?_
  refine v_get S (fun w h => List.mem_cons_of_mem _ (i_Mo w h)) hKK.1 0 (by decide) rfl rfl 16 (by decide) (S.2.2.2.2 _ (List.mem_cons_of_mem _ (wd_757))) (fun _ h => h) rfl d_Mo_enter_5 ?_
  refine v_iload_n S d_Mo_enter_8 rfl rfl ?_
  refine v_iast1 S hKK.1 11 0 (by decide) (fun _ => rfl) rfl d_Mo_enter_9 (fun h1 => ?_)
  refine v_sg (fun σ2 eσ2 => ?_)
  refine v_aload_n S d_Mo_enter_10 rfl rfl ?_
  refine v_get S (fun w h => List.mem_cons_of_mem _ (i_Mo w h)) hKK.1 0 (by decide) rfl rfl 18 (by decide) (S.2.2.2.2 _ (List.mem_cons_of_mem _ (wd_759))) (fun _ h => h) rfl d_Mo_enter_11 ?_
  refine v_aload_n S d_Mo_enter_14 rfl rfl ?_
  refine v_get S (fun w h => List.mem_cons_of_mem _ (i_Mo w h)) hKK.1 0 (by decide) rfl rfl 16 (by decide) (S.2.2.2.2 _ (List.mem_cons_of_mem _ (wd_757))) (fun _ h => h) rfl d_Mo_enter_15 ?_
  refine v_aload_n S d_Mo_enter_18 rfl rfl ?_
  refine v_get S (fun w h => List.mem_cons_of_mem _ (i_Mo w h)) hKK.1 0 (by decide) rfl rfl 4 (by decide) (S.2.2.2.2 _ (List.mem_cons_of_mem _ (wd_745))) (fun _ h => h) rfl d_Mo_enter_19 ?_
  refine v_iload_n S d_Mo_enter_22 rfl rfl ?_
  refine v_iald S hKK.1 4 0 (by decide) rfl rfl d_Mo_enter_23 (fun h3 => ?_)
  refine v_iast1 S hKK.1 12 0 (by decide) (fun _ => rfl) rfl d_Mo_enter_24 (fun h4 => ?_)
  refine v_sg (fun σ5 eσ5 => ?_)
  refine v_aload_n S d_Mo_enter_25 rfl rfl ?_
  refine v_get S (fun w h => List.mem_cons_of_mem _ (i_Mo w h)) hKK.1 0 (by decide) rfl rfl 19 (by decide) (S.2.2.2.2 _ (List.mem_cons_of_mem _ (wd_760))) (fun _ h => h) rfl d_Mo_enter_26 ?_
  refine v_aload_n S d_Mo_enter_29 rfl rfl ?_
  refine v_get S (fun w h => List.mem_cons_of_mem _ (i_Mo w h)) hKK.1 0 (by decide) rfl rfl 16 (by decide) (S.2.2.2.2 _ (List.mem_cons_of_mem _ (wd_757))) (fun _ h => h) rfl d_Mo_enter_30 ?_
  refine v_iconst S d_Mo_enter_33 (v := (0 : Int32)) (by decide) ?_
  refine v_iast1 S hKK.1 13 0 (by decide) (fun _ => rfl) rfl d_Mo_enter_34 (fun h6 => ?_)
  refine v_sg (fun σ7 eσ7 => ?_)
  refine v_iconst S d_Mo_enter_35 (v := (0 : Int32)) (by decide) ?_
  refine v_istore_nP S d_Mo_enter_36 rfl (by decide) (L2 := [some (.ref (b + 0)), some (.int a0), some (.int (0 : Int32))]) rfl ?_
  refine v_sub (L2 := [some (.ref (b + 0)), none, some (.int (0 : Int32))]) (And.intro rfl (And.intro rfl True.intro)) ?_
  exact C37 fuel0 σ7 (0 : Int32)
def fn_Mo_start_34 (a0 : Int32) (a1 : Int32) (a2 : Int32) : Nat → mm_M → Int32 → Option (Int32 × mm_M)
  | 0, _, _ => none
  | n + 1, σ, l4 =>
    (if ((0 : Int32) < 0 ∨ 4 ≤ (0 : Int32).toNatClampNeg) then none else
    (if (σ 5 (0 : Int32).toNatClampNeg) ≤ l4 then
    (if (1 : Int32) = 0 ∨ (1 : Int32) = 1 then some ((1 : Int32), σ) else none)
    else
    (bd (fn_Mo_kindOf σ (0 : Int32) l4) (fun r10 σ9 =>
    (if (l4 < 0 ∨ 96 ≤ l4.toNatClampNeg) then none else (nm (mw σ9 15 l4.toNatClampNeg r10) (fun σ12 =>
    (if (l4 < 0 ∨ 96 ≤ l4.toNatClampNeg) then none else
    (if (σ12 15 l4.toNatClampNeg) = (2 : Int32) then
    (if (l4 < 0 ∨ 96 ≤ l4.toNatClampNeg) then none else (nm (mw σ12 14 l4.toNatClampNeg (0 : Int32)) (fun σ27 =>
    (fn_Mo_start_34 a0 a1 a2 n σ27 (l4 + (1 : Int32))))))
    else
    (if l4 = 0 then
    (if (l4 < 0 ∨ 96 ≤ l4.toNatClampNeg) then none else (nm (mw σ12 14 l4.toNatClampNeg a0) (fun σ24 =>
    (fn_Mo_start_34 a0 a1 a2 n σ24 (l4 + (1 : Int32))))))
    else
    (if l4 = (1 : Int32) then
    (if (l4 < 0 ∨ 96 ≤ l4.toNatClampNeg) then none else (nm (mw σ12 14 l4.toNatClampNeg a1) (fun σ21 =>
    (fn_Mo_start_34 a0 a1 a2 n σ21 (l4 + (1 : Int32))))))
    else
    (if (l4 < 0 ∨ 96 ≤ l4.toNatClampNeg) then none else (nm (mw σ12 14 l4.toNatClampNeg a2) (fun σ18 =>
    (fn_Mo_start_34 a0 a1 a2 n σ18 (l4 + (1 : Int32)))))))))))))))))
def fn_Mo_start (σ : mm_M) (a0 : Int32) (a1 : Int32) (a2 : Int32) : Option (Int32 × mm_M) :=
    (nm (mw σ 0 26 (0 : Int32)) (fun σ1 =>
    (if ((0 : Int32) < 0 ∨ 4 ≤ (0 : Int32).toNatClampNeg) then none else
    (if (σ1 3 (0 : Int32).toNatClampNeg) = 0 then
    (if (0 : Int32) = 0 ∨ (0 : Int32) = 1 then some ((0 : Int32), σ1) else none)
    else
    (nm (mw σ1 0 16 (0 : Int32)) (fun σ4 =>
    (nm (mw σ4 0 22 (0 : Int32)) (fun σ5 =>
    (bv (fn_Mo_enter σ5 (0 : Int32)) (fun σ6 =>
    (fn_Mo_start_34 a0 a1 a2 fuel0 σ6 (0 : Int32))))))))))))
set_option maxRecDepth 100000 in
set_option maxHeartbeats 40000000 in
theorem c_Mo_start (l : Launch) (D : va_G) (ca : Nat → ClassId) (ax : Nat → Nat → Nat) (b : Nat) (σ : mm_M) (a0 : Int32) (a1 : Int32) (a2 : Int32)  {r : Int32} {σ' : mm_M} (hf : fn_Mo_start σ a0 a1 a2 = some (r, σ')) : Met l y_Mo_start w_Mo_start rm_Mo_start (pc_w D cls b N_M (ce_M ca b) (kM D ca ax b) [.ref (b + 0), .int a0, .int a1, .int a2] σ) (qc_i D cls b N_M (ce_M ca b) r σ') 0 0 (mm_A b N_M) := by
  refine vv_go (cc := b_Mo_start) (maxL := 5) (ret := (some .boolean)) (fin := (r, σ')) (k := fn_Mo_start σ a0 a1 a2) (by decide) rfl (by simp [Value.category]) (Nat.le_of_ble_eq_true rfl) hf ?_
  intro p e s m below meth c hlocks hret S hKK
  have C34 : ∀ (n : Nat) (σ : mm_M) (l4 : Int32), vv p l e (headSpec w_Mo_start rm_Mo_start).room s m [.ref (b + 0), .int a0, .int a1, .int a2].toArray below meth c D cls b N_M (ce_M ca b) 5 (MQ below (qc_i D cls b N_M (ce_M ca b) r σ') [.ref (b + 0), .int a0, .int a1, .int a2].toArray s 0 0 (mm_A b N_M)) (r, σ') (fn_Mo_start_34 a0 a1 a2 n σ l4) σ 34 [some (.ref (b + 0)), some (.int a0), some (.int a1), some (.int a2), some (.int l4)] [] := by
    intro n
    induction n with
    | zero => intro σ l4  h; cases h
    | succ n ih =>
      intro σ l4
      show vv p l e (headSpec w_Mo_start rm_Mo_start).room s m [.ref (b + 0), .int a0, .int a1, .int a2].toArray below meth c D cls b N_M (ce_M ca b) 5 (MQ below (qc_i D cls b N_M (ce_M ca b) r σ') [.ref (b + 0), .int a0, .int a1, .int a2].toArray s 0 0 (mm_A b N_M)) (r, σ') (        (if ((0 : Int32) < 0 ∨ 4 ≤ (0 : Int32).toNatClampNeg) then none else
        (if (σ 5 (0 : Int32).toNatClampNeg) ≤ l4 then
        (if (1 : Int32) = 0 ∨ (1 : Int32) = 1 then some ((1 : Int32), σ) else none)
        else
        (bd (fn_Mo_kindOf σ (0 : Int32) l4) (fun r10 σ9 =>
        (if (l4 < 0 ∨ 96 ≤ l4.toNatClampNeg) then none else (nm (mw σ9 15 l4.toNatClampNeg r10) (fun σ12 =>
        (if (l4 < 0 ∨ 96 ≤ l4.toNatClampNeg) then none else
        (if (σ12 15 l4.toNatClampNeg) = (2 : Int32) then
        (if (l4 < 0 ∨ 96 ≤ l4.toNatClampNeg) then none else (nm (mw σ12 14 l4.toNatClampNeg (0 : Int32)) (fun σ27 =>
        (fn_Mo_start_34 a0 a1 a2 n σ27 (l4 + (1 : Int32))))))
        else
        (if l4 = 0 then
        (if (l4 < 0 ∨ 96 ≤ l4.toNatClampNeg) then none else (nm (mw σ12 14 l4.toNatClampNeg a0) (fun σ24 =>
        (fn_Mo_start_34 a0 a1 a2 n σ24 (l4 + (1 : Int32))))))
        else
        (if l4 = (1 : Int32) then
        (if (l4 < 0 ∨ 96 ≤ l4.toNatClampNeg) then none else (nm (mw σ12 14 l4.toNatClampNeg a1) (fun σ21 =>
        (fn_Mo_start_34 a0 a1 a2 n σ21 (l4 + (1 : Int32))))))
        else
        (if (l4 < 0 ∨ 96 ≤ l4.toNatClampNeg) then none else (nm (mw σ12 14 l4.toNatClampNeg a2) (fun σ18 =>
        (fn_Mo_start_34 a0 a1 a2 n σ18 (l4 + (1 : Int32)))))))))))))))))) σ 34 [some (.ref (b + 0)), some (.int a0), some (.int a1), some (.int a2), some (.int l4)] []
      refine v_iload S d_Mo_start_34 rfl ?_
      refine v_aload_n S d_Mo_start_36 rfl rfl ?_
      refine v_get S (fun w h => List.mem_cons_of_mem _ (i_Mo w h)) hKK.1 0 (by decide) rfl rfl 5 (by decide) (S.2.2.2.2 _ (List.mem_cons_of_mem _ (wd_746))) (fun _ h => h) rfl d_Mo_start_37 ?_
      refine v_iconst S d_Mo_start_40 (v := (0 : Int32)) (by decide) ?_
      refine v_iald S hKK.1 5 0 (by decide) rfl rfl d_Mo_start_41 (fun h7 => ?_)
      refine v_icmp_ge S d_Mo_start_42 (tgt := 107) (by decide) (fun h8 => ?_) (fun h8 => ?_)
      · refine v_iconst S d_Mo_start_107 (v := (1 : Int32)) (by decide) ?_
        exact v_zret S hret hlocks d_Mo_start_108
      · refine v_aload_n S d_Mo_start_45 rfl rfl ?_
        refine v_get S (fun w h => List.mem_cons_of_mem _ (i_Mo w h)) hKK.1 0 (by decide) rfl rfl 21 (by decide) (S.2.2.2.2 _ (List.mem_cons_of_mem _ (wd_762))) (fun _ h => h) rfl d_Mo_start_46 ?_
        refine v_iload S d_Mo_start_49 rfl ?_
        refine v_aload_n S d_Mo_start_51 rfl rfl ?_
        refine v_iconst S d_Mo_start_52 (v := (0 : Int32)) (by decide) ?_
        refine v_iload S d_Mo_start_53 rfl ?_
        refine v_ci (rest := [.int l4, .ref (b + 15)]) (fun _ _ hg H locs ls hsz hP hS => run_V (As := [.int (0 : Int32), .int l4]) (rest := [.int l4, .ref (b + 15)]) S kM_ok hKK (c_Mo_kindOf l D ca ax b σ (0 : Int32) l4 hg) (k_Mo_110 S.2.2.2.2 (fun _ => List.mem_cons_of_mem _) ⟨Nat.le_of_ble_eq_true rfl, Nat.le_of_ble_eq_true rfl⟩) (rc_w hKK.1 hP 0 (by decide) rfl rfl) rfl rfl (by simp [Value.category]) d_Mo_start_55 hsz hP hS) (fun r10 σ9 _ => ?_)
        refine v_iast1 S hKK.1 15 0 (by decide) (fun _ => rfl) rfl d_Mo_start_58 (fun h11 => ?_)
        refine v_sg (fun σ12 eσ12 => ?_)
        refine v_aload_n S d_Mo_start_59 rfl rfl ?_
        refine v_get S (fun w h => List.mem_cons_of_mem _ (i_Mo w h)) hKK.1 0 (by decide) rfl rfl 20 (by decide) (S.2.2.2.2 _ (List.mem_cons_of_mem _ (wd_761))) (fun _ h => h) rfl d_Mo_start_60 ?_
        refine v_iload S d_Mo_start_63 rfl ?_
        refine v_aload_n S d_Mo_start_65 rfl rfl ?_
        refine v_get S (fun w h => List.mem_cons_of_mem _ (i_Mo w h)) hKK.1 0 (by decide) rfl rfl 21 (by decide) (S.2.2.2.2 _ (List.mem_cons_of_mem _ (wd_762))) (fun _ h => h) rfl d_Mo_start_66 ?_
        refine v_iload S d_Mo_start_69 rfl ?_
        refine v_iald S hKK.1 15 0 (by decide) rfl rfl d_Mo_start_71 (fun h13 => ?_)
        refine v_iconst S d_Mo_start_72 (v := (2 : Int32)) (by decide) ?_
        refine v_icmp_ne S d_Mo_start_73 (tgt := 80) (by decide) (fun h14 => ?_) (fun h14 => ?_)
        · refine v_iload S d_Mo_start_80 rfl ?_
          refine v_if_ne S d_Mo_start_82 (tgt := 89) (by decide) (fun h15 => ?_) (fun h15 => ?_)
          · refine v_iload S d_Mo_start_89 rfl ?_
            refine v_iconst S d_Mo_start_91 (v := (1 : Int32)) (by decide) ?_
            refine v_icmp_ne S d_Mo_start_92 (tgt := 99) (by decide) (fun h16 => ?_) (fun h16 => ?_)
            · refine v_iload_n S d_Mo_start_99 rfl rfl ?_
              refine v_iast1 S hKK.1 14 0 (by decide) (fun _ => rfl) rfl d_Mo_start_100 (fun h17 => ?_)
              refine v_sg (fun σ18 eσ18 => ?_)
              refine v_iinc S d_Mo_start_101 rfl (v := (l4 + (1 : Int32))) (by first | rfl | decide) (by decide) (L2 := [some (.ref (b + 0)), some (.int a0), some (.int a1), some (.int a2), some (.int (l4 + (1 : Int32)))]) rfl ?_
              refine v_goto S d_Mo_start_104 (tgt := 34) (by decide) ?_
              refine v_sub (L2 := [some (.ref (b + 0)), some (.int a0), some (.int a1), some (.int a2), some (.int (l4 + (1 : Int32)))]) (And.intro rfl (And.intro rfl (And.intro rfl (And.intro rfl (And.intro rfl True.intro))))) ?_
              exact ih σ18 (l4 + (1 : Int32))
            · refine v_iload_n S d_Mo_start_95 rfl rfl ?_
              refine v_goto S d_Mo_start_96 (tgt := 100) (by decide) ?_
              refine v_iast1 S hKK.1 14 0 (by decide) (fun _ => rfl) rfl d_Mo_start_100 (fun h20 => ?_)
              refine v_sg (fun σ21 eσ21 => ?_)
              refine v_iinc S d_Mo_start_101 rfl (v := (l4 + (1 : Int32))) (by first | rfl | decide) (by decide) (L2 := [some (.ref (b + 0)), some (.int a0), some (.int a1), some (.int a2), some (.int (l4 + (1 : Int32)))]) rfl ?_
              refine v_goto S d_Mo_start_104 (tgt := 34) (by decide) ?_
              refine v_sub (L2 := [some (.ref (b + 0)), some (.int a0), some (.int a1), some (.int a2), some (.int (l4 + (1 : Int32)))]) (And.intro rfl (And.intro rfl (And.intro rfl (And.intro rfl (And.intro rfl True.intro))))) ?_
              exact ih σ21 (l4 + (1 : Int32))
          · refine v_iload_n S d_Mo_start_85 rfl rfl ?_
            refine v_goto S d_Mo_start_86 (tgt := 100) (by decide) ?_
            refine v_iast1 S hKK.1 14 0 (by decide) (fun _ => rfl) rfl d_Mo_start_100 (fun h23 => ?_)
            refine v_sg (fun σ24 eσ24 => ?_)
            refine v_iinc S d_Mo_start_101 rfl (v := (l4 + (1 : Int32))) (by first | rfl | decide) (by decide) (L2 := [some (.ref (b + 0)), some (.int a0), some (.int a1), some (.int a2), some (.int (l4 + (1 : Int32)))]) rfl ?_
            refine v_goto S d_Mo_start_104 (tgt := 34) (by decide) ?_
            refine v_sub (L2 := [some (.ref (b + 0)), some (.int a0), some (.int a1), some (.int a2), some (.int (l4 + (1 : Int32)))]) (And.intro rfl (And.intro rfl (And.intro rfl (And.intro rfl (And.intro rfl True.intro))))) ?_
            exact ih σ24 (l4 + (1 : Int32))
        · refine v_iconst S d_Mo_start_76 (v := (0 : Int32)) (by decide) ?_
          refine v_goto S d_Mo_start_77 (tgt := 100) (by decide) ?_
          refine v_iast1 S hKK.1 14 0 (by decide) (fun _ => rfl) rfl d_Mo_start_100 (fun h26 => ?_)
          refine v_sg (fun σ27 eσ27 => ?_)
          refine v_iinc S d_Mo_start_101 rfl (v := (l4 + (1 : Int32))) (by first | rfl | decide) (by decide) (L2 := [some (.ref (b + 0)), some (.int a0), some (.int a1), some (.int a2), some (.int (l4 + (1 : Int32)))]) rfl ?_
          refine v_goto S d_Mo_start_104 (tgt := 34) (by decide) ?_
          refine v_sub (L2 := [some (.ref (b + 0)), some (.int a0), some (.int a1), some (.int a2), some (.int (l4 + (1 : Int32)))]) (And.intro rfl (And.intro rfl (And.intro rfl (And.intro rfl (And.intro rfl True.intro))))) ?_
          exact ih σ27 (l4 + (1 : Int32))
  unfold fn_Mo_start
  refine v_aload_n S d_Mo_start_0 rfl rfl ?_
  refine v_iconst S d_Mo_start_1 (v := (0 : Int32)) (by decide) ?_
  refine v_puti S (fun w h => List.mem_cons_of_mem _ (i_Mo w h)) hKK.1 0 (by decide) rfl rfl 26 (by decide) (S.2.2.2.2 _ (List.mem_cons_of_mem _ (wd_767))) (fun _ h => h) t_Mo t_Mo_ok n_Mo rfl (ty := .int) rfl rfl rfl (Nat.le_of_ble_eq_true rfl) rfl d_Mo_start_2 ?_
  refine v_sg (fun σ1 eσ1 => ?_)
  refine v_aload_n S d_Mo_start_5 rfl rfl ?_
  refine v_get S (fun w h => List.mem_cons_of_mem _ (i_Mo w h)) hKK.1 0 (by decide) rfl rfl 3 (by decide) (S.2.2.2.2 _ (List.mem_cons_of_mem _ (wd_744))) (fun _ h => h) rfl d_Mo_start_6 ?_
  refine v_iconst S d_Mo_start_9 (v := (0 : Int32)) (by decide) ?_
  refine v_zald S hKK.1 3 1 (by decide) rfl rfl d_Mo_start_10 (fun h2 => ?_)
  refine v_if_ne S d_Mo_start_11 (tgt := 16) (by decide) (fun h3 => ?_) (fun h3 => ?_)
  · refine v_aload_n S d_Mo_start_16 rfl rfl ?_
    refine v_iconst S d_Mo_start_17 (v := (0 : Int32)) (by decide) ?_
    refine v_puti S (fun w h => List.mem_cons_of_mem _ (i_Mo w h)) hKK.1 0 (by decide) rfl rfl 16 (by decide) (S.2.2.2.2 _ (List.mem_cons_of_mem _ (wd_757))) (fun _ h => h) t_Mo t_Mo_ok n_Mo rfl (ty := .int) rfl rfl rfl (Nat.le_of_ble_eq_true rfl) rfl d_Mo_start_18 ?_
    refine v_sg (fun σ4 eσ4 => ?_)
    refine v_aload_n S d_Mo_start_21 rfl rfl ?_
    refine v_iconst S d_Mo_start_22 (v := (0 : Int32)) (by decide) ?_
    refine v_puti S (fun w h => List.mem_cons_of_mem _ (i_Mo w h)) hKK.1 0 (by decide) rfl rfl 22 (by decide) (S.2.2.2.2 _ (List.mem_cons_of_mem _ (wd_763))) (fun _ h => h) t_Mo t_Mo_ok n_Mo rfl (ty := .int) rfl rfl rfl (Nat.le_of_ble_eq_true rfl) rfl d_Mo_start_23 ?_
    refine v_sg (fun σ5 eσ5 => ?_)
    refine v_aload_n S d_Mo_start_26 rfl rfl ?_
    refine v_iconst S d_Mo_start_27 (v := (0 : Int32)) (by decide) ?_
    refine v_cv (rest := []) (fun _ hg H locs ls hsz hP hS => run_V (As := [.int (0 : Int32)]) (rest := []) S kM_ok hKK (c_Mo_enter l D ca ax b σ5 (0 : Int32) hg) (k_Mo_136 S.2.2.2.2 (fun _ => List.mem_cons_of_mem _) ⟨Nat.le_of_ble_eq_true rfl, Nat.le_of_ble_eq_true rfl⟩) (rc_w hKK.1 hP 0 (by decide) rfl rfl) rfl rfl (Nat.zero_le _) d_Mo_start_28 hsz hP hS) (fun σ6 _ => ?_)
    refine v_iconst S d_Mo_start_31 (v := (0 : Int32)) (by decide) ?_
    refine v_istoreP S d_Mo_start_32 (by decide) (L2 := [some (.ref (b + 0)), some (.int a0), some (.int a1), some (.int a2), some (.int (0 : Int32))]) rfl ?_
    refine v_sub (L2 := [some (.ref (b + 0)), some (.int a0), some (.int a1), some (.int a2), some (.int (0 : Int32))]) (And.intro rfl (And.intro rfl (And.intro rfl (And.intro rfl (And.intro rfl True.intro))))) ?_
    exact C34 fuel0 σ6 (0 : Int32)
  · refine v_iconst S d_Mo_start_14 (v := (0 : Int32)) (by decide) ?_
    exact v_zret S hret hlocks d_Mo_start_15
def fn_Mo_below (σ : mm_M) (a0 : Int32) : Option (Int32 × mm_M) :=
    (if (((σ 0 16) - (1 : Int32)) < 0 ∨ 8 ≤ ((σ 0 16) - (1 : Int32)).toNatClampNeg) then none else
    (if (((((((12 : Int32) * ((σ 0 16) - (1 : Int32))) + (6 : Int32)) + (σ 13 ((σ 0 16) - (1 : Int32)).toNatClampNeg)) - (1 : Int32)) - a0) < 0 ∨ 96 ≤ ((((((12 : Int32) * ((σ 0 16) - (1 : Int32))) + (6 : Int32)) + (σ 13 ((σ 0 16) - (1 : Int32)).toNatClampNeg)) - (1 : Int32)) - a0).toNatClampNeg) then none else
    (some ((σ 14 ((((((12 : Int32) * ((σ 0 16) - (1 : Int32))) + (6 : Int32)) + (σ 13 ((σ 0 16) - (1 : Int32)).toNatClampNeg)) - (1 : Int32)) - a0).toNatClampNeg), σ))))
set_option maxRecDepth 100000 in
set_option maxHeartbeats 40000000 in
theorem c_Mo_below (l : Launch) (D : va_G) (ca : Nat → ClassId) (ax : Nat → Nat → Nat) (b : Nat) (σ : mm_M) (a0 : Int32)  {r : Int32} {σ' : mm_M} (hf : fn_Mo_below σ a0 = some (r, σ')) : Met l y_Mo_below w_Mo_below rm_Mo_below (pc_w D cls b N_M (ce_M ca b) (kM D ca ax b) [.ref (b + 0), .int a0] σ) (qc_i D cls b N_M (ce_M ca b) r σ') 0 0 (mm_A b N_M) := by
  refine vv_go (cc := b_Mo_below) (maxL := 2) (ret := (some .int)) (fin := (r, σ')) (k := fn_Mo_below σ a0) (by decide) rfl (by simp [Value.category]) (Nat.le_of_ble_eq_true rfl) hf ?_
  intro p e s m below meth c hlocks hret S hKK
  unfold fn_Mo_below
  refine v_aload_n S d_Mo_below_0 rfl rfl ?_
  refine v_get S (fun w h => List.mem_cons_of_mem _ (i_Mo w h)) hKK.1 0 (by decide) rfl rfl 20 (by decide) (S.2.2.2.2 _ (List.mem_cons_of_mem _ (wd_761))) (fun _ h => h) rfl d_Mo_below_1 ?_
  refine v_bipush S d_Mo_below_4 (v := (12 : Int32)) (by decide) ?_
  refine v_aload_n S d_Mo_below_6 rfl rfl ?_
  refine v_get S (fun w h => List.mem_cons_of_mem _ (i_Mo w h)) hKK.1 0 (by decide) rfl rfl 16 (by decide) (S.2.2.2.2 _ (List.mem_cons_of_mem _ (wd_757))) (fun _ h => h) rfl d_Mo_below_7 ?_
  refine v_iconst S d_Mo_below_10 (v := (1 : Int32)) (by decide) ?_
  refine v_isub S d_Mo_below_11 ?_
  refine v_imul S d_Mo_below_12 ?_
  refine v_bipush S d_Mo_below_13 (v := (6 : Int32)) (by decide) ?_
  refine v_iadd S d_Mo_below_15 ?_
  refine v_aload_n S d_Mo_below_16 rfl rfl ?_
  refine v_get S (fun w h => List.mem_cons_of_mem _ (i_Mo w h)) hKK.1 0 (by decide) rfl rfl 19 (by decide) (S.2.2.2.2 _ (List.mem_cons_of_mem _ (wd_760))) (fun _ h => h) rfl d_Mo_below_17 ?_
  refine v_aload_n S d_Mo_below_20 rfl rfl ?_
  refine v_get S (fun w h => List.mem_cons_of_mem _ (i_Mo w h)) hKK.1 0 (by decide) rfl rfl 16 (by decide) (S.2.2.2.2 _ (List.mem_cons_of_mem _ (wd_757))) (fun _ h => h) rfl d_Mo_below_21 ?_
  refine v_iconst S d_Mo_below_24 (v := (1 : Int32)) (by decide) ?_
  refine v_isub S d_Mo_below_25 ?_
  refine v_iald S hKK.1 13 0 (by decide) rfl rfl d_Mo_below_26 (fun h1 => ?_)
  refine v_iadd S d_Mo_below_27 ?_
  refine v_iconst S d_Mo_below_28 (v := (1 : Int32)) (by decide) ?_
  refine v_isub S d_Mo_below_29 ?_
  refine v_iload_n S d_Mo_below_30 rfl rfl ?_
  refine v_isub S d_Mo_below_31 ?_
  refine v_iald S hKK.1 14 0 (by decide) rfl rfl d_Mo_below_32 (fun h2 => ?_)
  exact v_iret S hret hlocks d_Mo_below_33
def fn_Mo_drop (σ : mm_M) (a0 : Int32) : Option (mm_M) :=
    (if (((σ 0 16) - (1 : Int32)) < 0 ∨ 8 ≤ ((σ 0 16) - (1 : Int32)).toNatClampNeg) then none else
    (if (((σ 0 16) - (1 : Int32)) < 0 ∨ 8 ≤ ((σ 0 16) - (1 : Int32)).toNatClampNeg) then none else (nm (mw σ 13 ((σ 0 16) - (1 : Int32)).toNatClampNeg ((σ 13 ((σ 0 16) - (1 : Int32)).toNatClampNeg) - a0)) (fun σ3 =>
    (some σ3)))))
set_option maxRecDepth 100000 in
set_option maxHeartbeats 40000000 in
theorem c_Mo_drop (l : Launch) (D : va_G) (ca : Nat → ClassId) (ax : Nat → Nat → Nat) (b : Nat) (σ : mm_M) (a0 : Int32)  {σ' : mm_M} (hf : fn_Mo_drop σ a0 = some σ') : Met l y_Mo_drop w_Mo_drop rm_Mo_drop (pc_w D cls b N_M (ce_M ca b) (kM D ca ax b) [.ref (b + 0), .int a0] σ) (qc_v D cls b N_M (ce_M ca b) σ') 0 0 (mm_A b N_M) := by
  refine vv_go (cc := b_Mo_drop) (maxL := 2) (ret := none) (fin := σ') (k := fn_Mo_drop σ a0) (by decide) rfl (by simp [Value.category]) (Nat.le_of_ble_eq_true rfl) hf ?_
  intro p e s m below meth c hlocks hret S hKK
  unfold fn_Mo_drop
  refine v_aload_n S d_Mo_drop_0 rfl rfl ?_
  refine v_get S (fun w h => List.mem_cons_of_mem _ (i_Mo w h)) hKK.1 0 (by decide) rfl rfl 19 (by decide) (S.2.2.2.2 _ (List.mem_cons_of_mem _ (wd_760))) (fun _ h => h) rfl d_Mo_drop_1 ?_
  refine v_aload_n S d_Mo_drop_4 rfl rfl ?_
  refine v_get S (fun w h => List.mem_cons_of_mem _ (i_Mo w h)) hKK.1 0 (by decide) rfl rfl 16 (by decide) (S.2.2.2.2 _ (List.mem_cons_of_mem _ (wd_757))) (fun _ h => h) rfl d_Mo_drop_5 ?_
  refine v_iconst S d_Mo_drop_8 (v := (1 : Int32)) (by decide) ?_
  refine v_isub S d_Mo_drop_9 ?_
  refine v_dup2 S d_Mo_drop_10 rfl rfl ?_
  refine v_iald S hKK.1 13 0 (by decide) rfl rfl d_Mo_drop_11 (fun h1 => ?_)
  refine v_iload_n S d_Mo_drop_12 rfl rfl ?_
  refine v_isub S d_Mo_drop_13 ?_
  refine v_iast1 S hKK.1 13 0 (by decide) (fun _ => rfl) rfl d_Mo_drop_14 (fun h2 => ?_)
  refine v_sg (fun σ3 eσ3 => ?_)
  exact v_vret S hret hlocks d_Mo_drop_15

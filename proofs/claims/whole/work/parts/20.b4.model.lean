/-! contracts of 20.model; written by wip/whole/make.py -/
def fn_Mo_fits_31 (a0 : Int32) (a1 : Int32) : Nat → mm_M → Int32 → Int32 → Option (Int32 × mm_M)
  | 0, _, _, _ => none
  | n + 1, σ, l3, l4 =>
    (if (12 : Int32) ≤ l4 then
    (bv (fn_Mo_tryOut σ a0 a1) (fun σ7 =>
    (if (σ7 0 13) = 0 then
    (if (1 : Int32) = 0 ∨ (1 : Int32) = 1 then some ((1 : Int32), σ7) else none)
    else
    (if (0 : Int32) = 0 ∨ (0 : Int32) = 1 then some ((0 : Int32), σ7) else none))))
    else
    (if ((((12 : Int32) * l3) + l4) < 0 ∨ 4800 ≤ (((12 : Int32) * l3) + l4).toNatClampNeg) then none else
    (if (l4 < 0 ∨ 12 ≤ l4.toNatClampNeg) then none else (nm (mw σ 10 l4.toNatClampNeg (σ 8 (((12 : Int32) * l3) + l4).toNatClampNeg)) (fun σ11 =>
    (fn_Mo_fits_31 a0 a1 n σ11 l3 (l4 + (1 : Int32))))))))
def fn_Mo_fits (σ : mm_M) (a0 : Int32) (a1 : Int32) : Option (Int32 × mm_M) :=
    (nm (((100 : Int32) * a0) + a1) (fun x1 =>
    (if (x1 < 0 ∨ 400 ≤ x1.toNatClampNeg) then none else
    (if 0 ≤ (σ 7 x1.toNatClampNeg) then
    (if (x1 < 0 ∨ 400 ≤ x1.toNatClampNeg) then none else
    (nm (mw σ 0 11 (σ 7 x1.toNatClampNeg)) (fun σ5 =>
    (fn_Mo_fits_31 a0 a1 fuel0 σ5 x1 (0 : Int32)))))
    else
    (if (0 : Int32) = 0 ∨ (0 : Int32) = 1 then some ((0 : Int32), σ) else none)))))
set_option maxRecDepth 100000 in
set_option maxHeartbeats 40000000 in
theorem c_Mo_fits (l : Launch) (D : va_G) (ca : Nat → ClassId) (ax : Nat → Nat → Nat) (b : Nat) (σ : mm_M) (a0 : Int32) (a1 : Int32)  {r : Int32} {σ' : mm_M} (hf : fn_Mo_fits σ a0 a1 = some (r, σ')) : Met l y_Mo_fits w_Mo_fits rm_Mo_fits (pc_w D cls b N_M (ce_M ca b) (kM D ca ax b) [.ref (b + 0), .int a0, .int a1] σ) (qc_i D cls b N_M (ce_M ca b) r σ') 0 0 (mm_A b N_M) := by
  refine vv_go (cc := b_Mo_fits) (maxL := 5) (ret := (some .boolean)) (fin := (r, σ')) (k := fn_Mo_fits σ a0 a1) (by decide) rfl (by simp [Value.category]) (Nat.le_of_ble_eq_true rfl) hf ?_
  intro p e s m below meth c hlocks hret S hKK
  have C31 : ∀ (n : Nat) (σ : mm_M) (l3 : Int32) (l4 : Int32), vv p l e (headSpec w_Mo_fits rm_Mo_fits).room s m [.ref (b + 0), .int a0, .int a1].toArray below meth c D cls b N_M (ce_M ca b) 5 (MQ below (qc_i D cls b N_M (ce_M ca b) r σ') [.ref (b + 0), .int a0, .int a1].toArray s 0 0 (mm_A b N_M)) (r, σ') (fn_Mo_fits_31 a0 a1 n σ l3 l4) σ 31 [some (.ref (b + 0)), some (.int a0), some (.int a1), some (.int l3), some (.int l4)] [] := by
    intro n
    induction n with
    | zero => intro σ l3 l4  h; cases h
    | succ n ih =>
      intro σ l3 l4
      show vv p l e (headSpec w_Mo_fits rm_Mo_fits).room s m [.ref (b + 0), .int a0, .int a1].toArray below meth c D cls b N_M (ce_M ca b) 5 (MQ below (qc_i D cls b N_M (ce_M ca b) r σ') [.ref (b + 0), .int a0, .int a1].toArray s 0 0 (mm_A b N_M)) (r, σ') (        (if (12 : Int32) ≤ l4 then
        (bv (fn_Mo_tryOut σ a0 a1) (fun σ7 =>
        (if (σ7 0 13) = 0 then
        (if (1 : Int32) = 0 ∨ (1 : Int32) = 1 then some ((1 : Int32), σ7) else none)
        else
        (if (0 : Int32) = 0 ∨ (0 : Int32) = 1 then some ((0 : Int32), σ7) else none))))
        else
        (if ((((12 : Int32) * l3) + l4) < 0 ∨ 4800 ≤ (((12 : Int32) * l3) + l4).toNatClampNeg) then none else
        (if (l4 < 0 ∨ 12 ≤ l4.toNatClampNeg) then none else (nm (mw σ 10 l4.toNatClampNeg (σ 8 (((12 : Int32) * l3) + l4).toNatClampNeg)) (fun σ11 =>
        (fn_Mo_fits_31 a0 a1 n σ11 l3 (l4 + (1 : Int32))))))))) σ 31 [some (.ref (b + 0)), some (.int a0), some (.int a1), some (.int l3), some (.int l4)] []
      refine v_iload S d_Mo_fits_31 rfl ?_
      refine v_bipush S d_Mo_fits_33 (v := (12 : Int32)) (by decide) ?_
      refine v_icmp_ge S d_Mo_fits_35 (tgt := 63) (by decide) (fun h6 => ?_) (fun h6 => ?_)
      · refine v_aload_n S d_Mo_fits_63 rfl rfl ?_
        refine v_iload_n S d_Mo_fits_64 rfl rfl ?_
        refine v_iload_n S d_Mo_fits_65 rfl rfl ?_
        refine v_cv (rest := []) (fun _ hg H locs ls hsz hP hS => run_V (As := [.int a0, .int a1]) (rest := []) S kM_ok hKK (c_Mo_tryOut l D ca ax b σ a0 a1 hg) (k_Mo_117 S.2.2.2.2 (fun _ => List.mem_cons_of_mem _) ⟨Nat.le_of_ble_eq_true rfl, Nat.le_of_ble_eq_true rfl⟩) (rc_w hKK.1 hP 0 (by decide) rfl rfl) rfl rfl (Nat.zero_le _) d_Mo_fits_66 hsz hP hS) (fun σ7 _ => ?_)
        refine v_aload_n S d_Mo_fits_69 rfl rfl ?_
        refine v_get S (fun w h => List.mem_cons_of_mem _ (i_Mo w h)) hKK.1 0 (by decide) rfl rfl 13 (by decide) (S.2.2.2.2 _ (List.mem_cons_of_mem _ (wd_754))) (fun _ h => h) rfl d_Mo_fits_70 ?_
        refine v_if_ne S d_Mo_fits_73 (tgt := 80) (by decide) (fun h8 => ?_) (fun h8 => ?_)
        · refine v_iconst S d_Mo_fits_80 (v := (0 : Int32)) (by decide) ?_
          exact v_zret S hret hlocks d_Mo_fits_81
        · refine v_iconst S d_Mo_fits_76 (v := (1 : Int32)) (by decide) ?_
          refine v_goto S d_Mo_fits_77 (tgt := 81) (by decide) ?_
          exact v_zret S hret hlocks d_Mo_fits_81
      · refine v_aload_n S d_Mo_fits_38 rfl rfl ?_
        refine v_get S (fun w h => List.mem_cons_of_mem _ (i_Mo w h)) hKK.1 0 (by decide) rfl rfl 12 (by decide) (S.2.2.2.2 _ (List.mem_cons_of_mem _ (wd_753))) (fun _ h => h) rfl d_Mo_fits_39 ?_
        refine v_iload S d_Mo_fits_42 rfl ?_
        refine v_aload_n S d_Mo_fits_44 rfl rfl ?_
        refine v_get S (fun w h => List.mem_cons_of_mem _ (i_Mo w h)) hKK.1 0 (by decide) rfl rfl 9 (by decide) (S.2.2.2.2 _ (List.mem_cons_of_mem _ (wd_750))) (fun _ h => h) rfl d_Mo_fits_45 ?_
        refine v_bipush S d_Mo_fits_48 (v := (12 : Int32)) (by decide) ?_
        refine v_iload_n S d_Mo_fits_50 rfl rfl ?_
        refine v_imul S d_Mo_fits_51 ?_
        refine v_iload S d_Mo_fits_52 rfl ?_
        refine v_iadd S d_Mo_fits_54 ?_
        refine v_iald S hKK.1 8 0 (by decide) rfl rfl d_Mo_fits_55 (fun h9 => ?_)
        refine v_iast1 S hKK.1 10 0 (by decide) (fun _ => rfl) rfl d_Mo_fits_56 (fun h10 => ?_)
        refine v_sg (fun σ11 eσ11 => ?_)
        refine v_iinc S d_Mo_fits_57 rfl (v := (l4 + (1 : Int32))) (by first | rfl | decide) (by decide) (L2 := [some (.ref (b + 0)), some (.int a0), some (.int a1), some (.int l3), some (.int (l4 + (1 : Int32)))]) rfl ?_
        refine v_goto S d_Mo_fits_60 (tgt := 31) (by decide) ?_
        refine v_sub (L2 := [some (.ref (b + 0)), some (.int a0), some (.int a1), some (.int l3), some (.int (l4 + (1 : Int32)))]) (And.intro rfl (And.intro rfl (And.intro rfl (And.intro rfl (And.intro rfl True.intro))))) ?_
        exact ih σ11 l3 (l4 + (1 : Int32))
  unfold fn_Mo_fits
  refine v_bipush S d_Mo_fits_0 (v := (100 : Int32)) (by decide) ?_
  refine v_iload_n S d_Mo_fits_2 rfl rfl ?_
  refine v_imul S d_Mo_fits_3 ?_
  refine v_iload_n S d_Mo_fits_4 rfl rfl ?_
  refine v_iadd S d_Mo_fits_5 ?_
  refine v_top (fun x1 ex1 => ?_)
  refine v_istore_nP S d_Mo_fits_6 rfl (by decide) (L2 := [some (.ref (b + 0)), some (.int a0), some (.int a1), some (.int x1)]) rfl ?_
  refine v_aload_n S d_Mo_fits_7 rfl rfl ?_
  refine v_get S (fun w h => List.mem_cons_of_mem _ (i_Mo w h)) hKK.1 0 (by decide) rfl rfl 8 (by decide) (S.2.2.2.2 _ (List.mem_cons_of_mem _ (wd_749))) (fun _ h => h) rfl d_Mo_fits_8 ?_
  refine v_iload_n S d_Mo_fits_11 rfl rfl ?_
  refine v_iald S hKK.1 7 0 (by decide) rfl rfl d_Mo_fits_12 (fun h2 => ?_)
  refine v_if_ge S d_Mo_fits_13 (tgt := 18) (by decide) (fun h3 => ?_) (fun h3 => ?_)
  · refine v_aload_n S d_Mo_fits_18 rfl rfl ?_
    refine v_aload_n S d_Mo_fits_19 rfl rfl ?_
    refine v_get S (fun w h => List.mem_cons_of_mem _ (i_Mo w h)) hKK.1 0 (by decide) rfl rfl 8 (by decide) (S.2.2.2.2 _ (List.mem_cons_of_mem _ (wd_749))) (fun _ h => h) rfl d_Mo_fits_20 ?_
    refine v_iload_n S d_Mo_fits_23 rfl rfl ?_
    refine v_iald S hKK.1 7 0 (by decide) rfl rfl d_Mo_fits_24 (fun h4 => ?_)
    refine v_puti S (fun w h => List.mem_cons_of_mem _ (i_Mo w h)) hKK.1 0 (by decide) rfl rfl 11 (by decide) (S.2.2.2.2 _ (List.mem_cons_of_mem _ (wd_752))) (fun _ h => h) t_Mo t_Mo_ok n_Mo rfl (ty := .int) rfl rfl rfl (Nat.le_of_ble_eq_true rfl) rfl d_Mo_fits_25 ?_
    refine v_sg (fun σ5 eσ5 => ?_)
    refine v_iconst S d_Mo_fits_28 (v := (0 : Int32)) (by decide) ?_
    refine v_istoreP S d_Mo_fits_29 (by decide) (L2 := [some (.ref (b + 0)), some (.int a0), some (.int a1), some (.int x1), some (.int (0 : Int32))]) rfl ?_
    refine v_sub (L2 := [some (.ref (b + 0)), some (.int a0), some (.int a1), some (.int x1), some (.int (0 : Int32))]) (And.intro rfl (And.intro rfl (And.intro rfl (And.intro rfl (And.intro rfl True.intro))))) ?_
    exact C31 fuel0 σ5 x1 (0 : Int32)
  · refine v_iconst S d_Mo_fits_16 (v := (0 : Int32)) (by decide) ?_
    exact v_zret S hret hlocks d_Mo_fits_17
def fn_Mo_work_215 (a0 : Int32) : Nat → mm_M → Int32 → Option (Int32 × mm_M)
  | 0, _, _ => none
  | n + 1, σ, l3 =>
    (if (σ 0 0) ≤ l3 then
    (some ((-1 : Int32), σ))
    else
    (if ((((100 : Int32) * a0) + l3) < 0 ∨ 400 ≤ (((100 : Int32) * a0) + l3).toNatClampNeg) then none else
    (if (σ 7 (((100 : Int32) * a0) + l3).toNatClampNeg) = (-1 : Int32) then
    (fn_Mo_work_215 a0 n σ (l3 + (1 : Int32)))
    else
    (bd (fn_Mo_fits σ a0 l3) (fun r19 σ18 =>
    (if r19 = 0 then
    (some (l3, σ18))
    else
    (fn_Mo_work_215 a0 n σ18 (l3 + (1 : Int32)))))))))
def fn_Mo_work_122 (a0 : Int32) : Nat → mm_M → Int32 → Option (Int32 × mm_M)
  | 0, _, _ => none
  | n + 1, σ, l2 =>
    (if (σ 0 0) ≤ l2 then
    (fn_Mo_work_215 a0 fuel0 σ (0 : Int32))
    else
    (if ((((100 : Int32) * a0) + l2) < 0 ∨ 400 ≤ (((100 : Int32) * a0) + l2).toNatClampNeg) then none else
    (if (σ 9 (((100 : Int32) * a0) + l2).toNatClampNeg) = 0 then
    (fn_Mo_work_122 a0 n σ (l2 + (1 : Int32)))
    else
    (if ((((100 : Int32) * a0) + l2) < 0 ∨ 400 ≤ (((100 : Int32) * a0) + l2).toNatClampNeg) then none else (nm (mw σ 9 (((100 : Int32) * a0) + l2).toNatClampNeg (0 : Int32)) (fun σ26 =>
    (bd (fn_Mo_fits σ26 a0 l2) (fun r28 σ27 =>
    (if r28 = 0 then
    (if r28 = 0 then
    (fn_Mo_work_122 a0 n σ27 (0 : Int32))
    else
    (if (σ27 0 15) < 0 then
    (fn_Mo_work_122 a0 n σ27 (0 : Int32))
    else
    (bv (fn_Mo_meet σ27 a0 (σ27 0 15)) (fun σ32 =>
    (fn_Mo_work_122 a0 n σ32 (0 : Int32))))))
    else
    (if (σ27 0 14) = 0 then
    (if r28 = 0 then
    (fn_Mo_work_122 a0 n σ27 (0 : Int32))
    else
    (if (σ27 0 15) < 0 then
    (fn_Mo_work_122 a0 n σ27 (0 : Int32))
    else
    (bv (fn_Mo_meet σ27 a0 (σ27 0 15)) (fun σ36 =>
    (fn_Mo_work_122 a0 n σ36 (0 : Int32))))))
    else
    (bv (fn_Mo_meet σ27 a0 (l2 + (1 : Int32))) (fun σ37 =>
    (if r28 = 0 then
    (fn_Mo_work_122 a0 n σ37 (0 : Int32))
    else
    (if (σ37 0 15) < 0 then
    (fn_Mo_work_122 a0 n σ37 (0 : Int32))
    else
    (bv (fn_Mo_meet σ37 a0 (σ37 0 15)) (fun σ40 =>
    (fn_Mo_work_122 a0 n σ40 (0 : Int32))))))))))))))))))
def fn_Mo_work_71 (a0 : Int32) : Nat → mm_M → Int32 → Option (Int32 × mm_M)
  | 0, _, _ => none
  | n + 1, σ, l2 =>
    (if (6 : Int32) ≤ l2 then
    (if (a0 < 0 ∨ 4 ≤ a0.toNatClampNeg) then none else
    (bv (fn_Mo_meet σ a0 (σ 4 a0.toNatClampNeg)) (fun σ12 =>
    (fn_Mo_work_122 a0 fuel0 σ12 (0 : Int32)))))
    else
    (if (a0 < 0 ∨ 4 ≤ a0.toNatClampNeg) then none else
    (if (σ 5 a0.toNatClampNeg) ≤ l2 then
    (if (l2 < 0 ∨ 12 ≤ l2.toNatClampNeg) then none else (nm (mw σ 10 l2.toNatClampNeg (0 : Int32)) (fun σ44 =>
    (fn_Mo_work_71 a0 n σ44 (l2 + (1 : Int32))))))
    else
    (bd (fn_Mo_kindOf σ a0 l2) (fun r47 σ46 =>
    (if (l2 < 0 ∨ 12 ≤ l2.toNatClampNeg) then none else (nm (mw σ46 10 l2.toNatClampNeg r47) (fun σ49 =>
    (fn_Mo_work_71 a0 n σ49 (l2 + (1 : Int32)))))))))))
def fn_Mo_work_5 (a0 : Int32) : Nat → mm_M → Int32 → Option (Int32 × mm_M)
  | 0, _, _ => none
  | n + 1, σ, l2 =>
    (if (((100 : Int32) * a0) + (100 : Int32)) ≤ l2 then
    (if (a0 < 0 ∨ 4 ≤ a0.toNatClampNeg) then none else
    (if (σ 3 a0.toNatClampNeg) = 0 then
    (some ((-1 : Int32), σ))
    else
    (if (a0 < 0 ∨ 4 ≤ a0.toNatClampNeg) then none else
    (bd (fn_Mo_isAddress σ (σ 4 a0.toNatClampNeg)) (fun r7 σ6 =>
    (if r7 = 0 then
    (some ((999 : Int32), σ6))
    else
    (nm (mw σ6 0 11 (0 : Int32)) (fun σ9 =>
    (fn_Mo_work_71 a0 fuel0 σ9 (0 : Int32))))))))))
    else
    (if (l2 < 0 ∨ 400 ≤ l2.toNatClampNeg) then none else (nm (mw σ 7 l2.toNatClampNeg (-1 : Int32)) (fun σ52 =>
    (if (l2 < 0 ∨ 400 ≤ l2.toNatClampNeg) then none else (nm (mw σ52 9 l2.toNatClampNeg (0 : Int32)) (fun σ54 =>
    (fn_Mo_work_5 a0 n σ54 (l2 + (1 : Int32))))))))))
def fn_Mo_work (σ : mm_M) (a0 : Int32) : Option (Int32 × mm_M) :=
    (nm ((100 : Int32) * a0) (fun x1 =>
    (fn_Mo_work_5 a0 fuel0 σ x1)))
set_option maxRecDepth 100000 in
set_option maxHeartbeats 40000000 in
theorem c_Mo_work (l : Launch) (D : va_G) (ca : Nat → ClassId) (ax : Nat → Nat → Nat) (b : Nat) (σ : mm_M) (a0 : Int32)  {r : Int32} {σ' : mm_M} (hf : fn_Mo_work σ a0 = some (r, σ')) : Met l y_Mo_work w_Mo_work rm_Mo_work (pc_w D cls b N_M (ce_M ca b) (kM D ca ax b) [.ref (b + 0), .int a0] σ) (qc_i D cls b N_M (ce_M ca b) r σ') 0 0 (mm_A b N_M) := by
  refine vv_go (cc := b_Mo_work) (maxL := 4) (ret := (some .int)) (fin := (r, σ')) (k := fn_Mo_work σ a0) (by decide) rfl (by simp [Value.category]) (Nat.le_of_ble_eq_true rfl) hf ?_
  intro p e s m below meth c hlocks hret S hKK
  have C215 : ∀ (n : Nat) (σ : mm_M) (l3 : Int32), vv p l e (headSpec w_Mo_work rm_Mo_work).room s m [.ref (b + 0), .int a0].toArray below meth c D cls b N_M (ce_M ca b) 4 (MQ below (qc_i D cls b N_M (ce_M ca b) r σ') [.ref (b + 0), .int a0].toArray s 0 0 (mm_A b N_M)) (r, σ') (fn_Mo_work_215 a0 n σ l3) σ 215 [some (.ref (b + 0)), some (.int a0), none, some (.int l3)] [] := by
    intro n
    induction n with
    | zero => intro σ l3  h; cases h
    | succ n ih =>
      intro σ l3
      show vv p l e (headSpec w_Mo_work rm_Mo_work).room s m [.ref (b + 0), .int a0].toArray below meth c D cls b N_M (ce_M ca b) 4 (MQ below (qc_i D cls b N_M (ce_M ca b) r σ') [.ref (b + 0), .int a0].toArray s 0 0 (mm_A b N_M)) (r, σ') (        (if (σ 0 0) ≤ l3 then
        (some ((-1 : Int32), σ))
        else
        (if ((((100 : Int32) * a0) + l3) < 0 ∨ 400 ≤ (((100 : Int32) * a0) + l3).toNatClampNeg) then none else
        (if (σ 7 (((100 : Int32) * a0) + l3).toNatClampNeg) = (-1 : Int32) then
        (fn_Mo_work_215 a0 n σ (l3 + (1 : Int32)))
        else
        (bd (fn_Mo_fits σ a0 l3) (fun r19 σ18 =>
        (if r19 = 0 then
        (some (l3, σ18))
        else
        (fn_Mo_work_215 a0 n σ18 (l3 + (1 : Int32)))))))))) σ 215 [some (.ref (b + 0)), some (.int a0), none, some (.int l3)] []
      refine v_iload_n S d_Mo_work_215 rfl rfl ?_
      refine v_aload_n S d_Mo_work_216 rfl rfl ?_
      refine v_get S (fun w h => List.mem_cons_of_mem _ (i_Mo w h)) hKK.1 0 (by decide) rfl rfl 0 (by decide) (S.2.2.2.2 _ (List.mem_cons_of_mem _ (wd_741))) (fun _ h => h) rfl d_Mo_work_217 ?_
      refine v_icmp_ge S d_Mo_work_220 (tgt := 255) (by decide) (fun h14 => ?_) (fun h14 => ?_)
      · refine v_iconst S d_Mo_work_255 (v := (-1 : Int32)) (by decide) ?_
        exact v_iret S hret hlocks d_Mo_work_256
      · refine v_aload_n S d_Mo_work_223 rfl rfl ?_
        refine v_get S (fun w h => List.mem_cons_of_mem _ (i_Mo w h)) hKK.1 0 (by decide) rfl rfl 8 (by decide) (S.2.2.2.2 _ (List.mem_cons_of_mem _ (wd_749))) (fun _ h => h) rfl d_Mo_work_224 ?_
        refine v_bipush S d_Mo_work_227 (v := (100 : Int32)) (by decide) ?_
        refine v_iload_n S d_Mo_work_229 rfl rfl ?_
        refine v_imul S d_Mo_work_230 ?_
        refine v_iload_n S d_Mo_work_231 rfl rfl ?_
        refine v_iadd S d_Mo_work_232 ?_
        refine v_iald S hKK.1 7 0 (by decide) rfl rfl d_Mo_work_233 (fun h15 => ?_)
        refine v_iconst S d_Mo_work_234 (v := (-1 : Int32)) (by decide) ?_
        refine v_icmp_eq S d_Mo_work_235 (tgt := 249) (by decide) (fun h16 => ?_) (fun h16 => ?_)
        · refine v_iinc S d_Mo_work_249 rfl (v := (l3 + (1 : Int32))) (by first | rfl | decide) (by decide) (L2 := [some (.ref (b + 0)), some (.int a0), none, some (.int (l3 + (1 : Int32)))]) rfl ?_
          refine v_goto S d_Mo_work_252 (tgt := 215) (by decide) ?_
          refine v_sub (L2 := [some (.ref (b + 0)), some (.int a0), none, some (.int (l3 + (1 : Int32)))]) (And.intro rfl (And.intro rfl (And.intro rfl True.intro))) ?_
          exact ih σ (l3 + (1 : Int32))
        · refine v_aload_n S d_Mo_work_238 rfl rfl ?_
          refine v_iload_n S d_Mo_work_239 rfl rfl ?_
          refine v_iload_n S d_Mo_work_240 rfl rfl ?_
          refine v_ci (rest := []) (fun _ _ hg H locs ls hsz hP hS => run_V (As := [.int a0, .int l3]) (rest := []) S kM_ok hKK (c_Mo_fits l D ca ax b σ a0 l3 hg) (k_Mo_123 S.2.2.2.2 (fun _ => List.mem_cons_of_mem _) ⟨Nat.le_of_ble_eq_true rfl, Nat.le_of_ble_eq_true rfl⟩) (rc_w hKK.1 hP 0 (by decide) rfl rfl) rfl rfl (Nat.zero_le _) d_Mo_work_241 hsz hP hS) (fun r19 σ18 _ => ?_)
          refine v_if_ne S d_Mo_work_244 (tgt := 249) (by decide) (fun h20 => ?_) (fun h20 => ?_)
          · refine v_iinc S d_Mo_work_249 rfl (v := (l3 + (1 : Int32))) (by first | rfl | decide) (by decide) (L2 := [some (.ref (b + 0)), some (.int a0), none, some (.int (l3 + (1 : Int32)))]) rfl ?_
            refine v_goto S d_Mo_work_252 (tgt := 215) (by decide) ?_
            refine v_sub (L2 := [some (.ref (b + 0)), some (.int a0), none, some (.int (l3 + (1 : Int32)))]) (And.intro rfl (And.intro rfl (And.intro rfl True.intro))) ?_
            exact ih σ18 (l3 + (1 : Int32))
          · refine v_iload_n S d_Mo_work_247 rfl rfl ?_
            exact v_iret S hret hlocks d_Mo_work_248
  have C122 : ∀ (n : Nat) (σ : mm_M) (l2 : Int32), vv p l e (headSpec w_Mo_work rm_Mo_work).room s m [.ref (b + 0), .int a0].toArray below meth c D cls b N_M (ce_M ca b) 4 (MQ below (qc_i D cls b N_M (ce_M ca b) r σ') [.ref (b + 0), .int a0].toArray s 0 0 (mm_A b N_M)) (r, σ') (fn_Mo_work_122 a0 n σ l2) σ 122 [some (.ref (b + 0)), some (.int a0), some (.int l2)] [] := by
    intro n
    induction n with
    | zero => intro σ l2  h; cases h
    | succ n ih =>
      intro σ l2
      show vv p l e (headSpec w_Mo_work rm_Mo_work).room s m [.ref (b + 0), .int a0].toArray below meth c D cls b N_M (ce_M ca b) 4 (MQ below (qc_i D cls b N_M (ce_M ca b) r σ') [.ref (b + 0), .int a0].toArray s 0 0 (mm_A b N_M)) (r, σ') (        (if (σ 0 0) ≤ l2 then
        (fn_Mo_work_215 a0 fuel0 σ (0 : Int32))
        else
        (if ((((100 : Int32) * a0) + l2) < 0 ∨ 400 ≤ (((100 : Int32) * a0) + l2).toNatClampNeg) then none else
        (if (σ 9 (((100 : Int32) * a0) + l2).toNatClampNeg) = 0 then
        (fn_Mo_work_122 a0 n σ (l2 + (1 : Int32)))
        else
        (if ((((100 : Int32) * a0) + l2) < 0 ∨ 400 ≤ (((100 : Int32) * a0) + l2).toNatClampNeg) then none else (nm (mw σ 9 (((100 : Int32) * a0) + l2).toNatClampNeg (0 : Int32)) (fun σ26 =>
        (bd (fn_Mo_fits σ26 a0 l2) (fun r28 σ27 =>
        (if r28 = 0 then
        (if r28 = 0 then
        (fn_Mo_work_122 a0 n σ27 (0 : Int32))
        else
        (if (σ27 0 15) < 0 then
        (fn_Mo_work_122 a0 n σ27 (0 : Int32))
        else
        (bv (fn_Mo_meet σ27 a0 (σ27 0 15)) (fun σ32 =>
        (fn_Mo_work_122 a0 n σ32 (0 : Int32))))))
        else
        (if (σ27 0 14) = 0 then
        (if r28 = 0 then
        (fn_Mo_work_122 a0 n σ27 (0 : Int32))
        else
        (if (σ27 0 15) < 0 then
        (fn_Mo_work_122 a0 n σ27 (0 : Int32))
        else
        (bv (fn_Mo_meet σ27 a0 (σ27 0 15)) (fun σ36 =>
        (fn_Mo_work_122 a0 n σ36 (0 : Int32))))))
        else
        (bv (fn_Mo_meet σ27 a0 (l2 + (1 : Int32))) (fun σ37 =>
        (if r28 = 0 then
        (fn_Mo_work_122 a0 n σ37 (0 : Int32))
        else
        (if (σ37 0 15) < 0 then
        (fn_Mo_work_122 a0 n σ37 (0 : Int32))
        else
        (bv (fn_Mo_meet σ37 a0 (σ37 0 15)) (fun σ40 =>
        (fn_Mo_work_122 a0 n σ40 (0 : Int32))))))))))))))))))) σ 122 [some (.ref (b + 0)), some (.int a0), some (.int l2)] []
      refine v_iload_n S d_Mo_work_122 rfl rfl ?_
      refine v_aload_n S d_Mo_work_123 rfl rfl ?_
      refine v_get S (fun w h => List.mem_cons_of_mem _ (i_Mo w h)) hKK.1 0 (by decide) rfl rfl 0 (by decide) (S.2.2.2.2 _ (List.mem_cons_of_mem _ (wd_741))) (fun _ h => h) rfl d_Mo_work_124 ?_
      refine v_icmp_ge S d_Mo_work_127 (tgt := 213) (by decide) (fun h13 => ?_) (fun h13 => ?_)
      · refine v_iconst S d_Mo_work_213 (v := (0 : Int32)) (by decide) ?_
        refine v_istore_nP S d_Mo_work_214 rfl (by decide) (L2 := [some (.ref (b + 0)), some (.int a0), some (.int l2), some (.int (0 : Int32))]) rfl ?_
        refine v_sub (L2 := [some (.ref (b + 0)), some (.int a0), none, some (.int (0 : Int32))]) (And.intro rfl (And.intro rfl (And.intro rfl True.intro))) ?_
        exact C215 fuel0 σ (0 : Int32)
      · refine v_aload_n S d_Mo_work_130 rfl rfl ?_
        refine v_get S (fun w h => List.mem_cons_of_mem _ (i_Mo w h)) hKK.1 0 (by decide) rfl rfl 10 (by decide) (S.2.2.2.2 _ (List.mem_cons_of_mem _ (wd_751))) (fun _ h => h) rfl d_Mo_work_131 ?_
        refine v_bipush S d_Mo_work_134 (v := (100 : Int32)) (by decide) ?_
        refine v_iload_n S d_Mo_work_136 rfl rfl ?_
        refine v_imul S d_Mo_work_137 ?_
        refine v_iload_n S d_Mo_work_138 rfl rfl ?_
        refine v_iadd S d_Mo_work_139 ?_
        refine v_zald S hKK.1 9 1 (by decide) rfl rfl d_Mo_work_140 (fun h22 => ?_)
        refine v_if_eq S d_Mo_work_141 (tgt := 207) (by decide) (fun h23 => ?_) (fun h23 => ?_)
        · refine v_iinc S d_Mo_work_207 rfl (v := (l2 + (1 : Int32))) (by first | rfl | decide) (by decide) (L2 := [some (.ref (b + 0)), some (.int a0), some (.int (l2 + (1 : Int32)))]) rfl ?_
          refine v_goto S d_Mo_work_210 (tgt := 122) (by decide) ?_
          refine v_sub (L2 := [some (.ref (b + 0)), some (.int a0), some (.int (l2 + (1 : Int32)))]) (And.intro rfl (And.intro rfl (And.intro rfl True.intro))) ?_
          exact ih σ (l2 + (1 : Int32))
        · refine v_aload_n S d_Mo_work_144 rfl rfl ?_
          refine v_get S (fun w h => List.mem_cons_of_mem _ (i_Mo w h)) hKK.1 0 (by decide) rfl rfl 10 (by decide) (S.2.2.2.2 _ (List.mem_cons_of_mem _ (wd_751))) (fun _ h => h) rfl d_Mo_work_145 ?_
          refine v_bipush S d_Mo_work_148 (v := (100 : Int32)) (by decide) ?_
          refine v_iload_n S d_Mo_work_150 rfl rfl ?_
          refine v_imul S d_Mo_work_151 ?_
          refine v_iload_n S d_Mo_work_152 rfl rfl ?_
          refine v_iadd S d_Mo_work_153 ?_
          refine v_iconst S d_Mo_work_154 (v := (0 : Int32)) (by decide) ?_
          refine v_zast1 S hKK.1 9 1 (by decide) (fun _ => rfl) rfl (Or.inl rfl) d_Mo_work_155 (fun h25 => ?_)
          refine v_sg (fun σ26 eσ26 => ?_)
          refine v_aload_n S d_Mo_work_156 rfl rfl ?_
          refine v_iload_n S d_Mo_work_157 rfl rfl ?_
          refine v_iload_n S d_Mo_work_158 rfl rfl ?_
          refine v_ci (rest := []) (fun _ _ hg H locs ls hsz hP hS => run_V (As := [.int a0, .int l2]) (rest := []) S kM_ok hKK (c_Mo_fits l D ca ax b σ26 a0 l2 hg) (k_Mo_123 S.2.2.2.2 (fun _ => List.mem_cons_of_mem _) ⟨Nat.le_of_ble_eq_true rfl, Nat.le_of_ble_eq_true rfl⟩) (rc_w hKK.1 hP 0 (by decide) rfl rfl) rfl rfl (Nat.zero_le _) d_Mo_work_159 hsz hP hS) (fun r28 σ27 _ => ?_)
          refine v_istore_nP S d_Mo_work_162 rfl (by decide) (L2 := [some (.ref (b + 0)), some (.int a0), some (.int l2), some (.int r28)]) rfl ?_
          refine v_iload_n S d_Mo_work_163 rfl rfl ?_
          refine v_if_eq S d_Mo_work_164 (tgt := 182) (by decide) (fun h29 => ?_) (fun h29 => ?_)
          · refine v_iload_n S d_Mo_work_182 rfl rfl ?_
            refine v_if_eq S d_Mo_work_183 (tgt := 202) (by decide) (fun h30 => ?_) (fun h30 => ?_)
            · refine v_iconst S d_Mo_work_202 (v := (0 : Int32)) (by decide) ?_
              refine v_istore_nP S d_Mo_work_203 rfl (by decide) (L2 := [some (.ref (b + 0)), some (.int a0), some (.int (0 : Int32)), some (.int r28)]) rfl ?_
              refine v_goto S d_Mo_work_204 (tgt := 122) (by decide) ?_
              refine v_sub (L2 := [some (.ref (b + 0)), some (.int a0), some (.int (0 : Int32))]) (And.intro rfl (And.intro rfl (And.intro rfl True.intro))) ?_
              exact ih σ27 (0 : Int32)
            · refine v_aload_n S d_Mo_work_186 rfl rfl ?_
              refine v_get S (fun w h => List.mem_cons_of_mem _ (i_Mo w h)) hKK.1 0 (by decide) rfl rfl 15 (by decide) (S.2.2.2.2 _ (List.mem_cons_of_mem _ (wd_756))) (fun _ h => h) rfl d_Mo_work_187 ?_
              refine v_if_lt S d_Mo_work_190 (tgt := 202) (by decide) (fun h31 => ?_) (fun h31 => ?_)
              · refine v_iconst S d_Mo_work_202 (v := (0 : Int32)) (by decide) ?_
                refine v_istore_nP S d_Mo_work_203 rfl (by decide) (L2 := [some (.ref (b + 0)), some (.int a0), some (.int (0 : Int32)), some (.int r28)]) rfl ?_
                refine v_goto S d_Mo_work_204 (tgt := 122) (by decide) ?_
                refine v_sub (L2 := [some (.ref (b + 0)), some (.int a0), some (.int (0 : Int32))]) (And.intro rfl (And.intro rfl (And.intro rfl True.intro))) ?_
                exact ih σ27 (0 : Int32)
              · refine v_aload_n S d_Mo_work_193 rfl rfl ?_
                refine v_iload_n S d_Mo_work_194 rfl rfl ?_
                refine v_aload_n S d_Mo_work_195 rfl rfl ?_
                refine v_get S (fun w h => List.mem_cons_of_mem _ (i_Mo w h)) hKK.1 0 (by decide) rfl rfl 15 (by decide) (S.2.2.2.2 _ (List.mem_cons_of_mem _ (wd_756))) (fun _ h => h) rfl d_Mo_work_196 ?_
                refine v_cv (rest := []) (fun _ hg H locs ls hsz hP hS => run_V (As := [.int a0, .int (σ27 0 15)]) (rest := []) S kM_ok hKK (c_Mo_meet l D ca ax b σ27 a0 (σ27 0 15) hg) (k_Mo_120 S.2.2.2.2 (fun _ => List.mem_cons_of_mem _) ⟨Nat.le_of_ble_eq_true rfl, Nat.le_of_ble_eq_true rfl⟩) (rc_w hKK.1 hP 0 (by decide) rfl rfl) rfl rfl (Nat.zero_le _) d_Mo_work_199 hsz hP hS) (fun σ32 _ => ?_)
                refine v_iconst S d_Mo_work_202 (v := (0 : Int32)) (by decide) ?_
                refine v_istore_nP S d_Mo_work_203 rfl (by decide) (L2 := [some (.ref (b + 0)), some (.int a0), some (.int (0 : Int32)), some (.int r28)]) rfl ?_
                refine v_goto S d_Mo_work_204 (tgt := 122) (by decide) ?_
                refine v_sub (L2 := [some (.ref (b + 0)), some (.int a0), some (.int (0 : Int32))]) (And.intro rfl (And.intro rfl (And.intro rfl True.intro))) ?_
                exact ih σ32 (0 : Int32)
          · refine v_aload_n S d_Mo_work_167 rfl rfl ?_
            refine v_get S (fun w h => List.mem_cons_of_mem _ (i_Mo w h)) hKK.1 0 (by decide) rfl rfl 14 (by decide) (S.2.2.2.2 _ (List.mem_cons_of_mem _ (wd_755))) (fun _ h => h) rfl d_Mo_work_168 ?_
            refine v_if_eq S d_Mo_work_171 (tgt := 182) (by decide) (fun h33 => ?_) (fun h33 => ?_)
            · refine v_iload_n S d_Mo_work_182 rfl rfl ?_
              refine v_if_eq S d_Mo_work_183 (tgt := 202) (by decide) (fun h34 => ?_) (fun h34 => ?_)
              · refine v_iconst S d_Mo_work_202 (v := (0 : Int32)) (by decide) ?_
                refine v_istore_nP S d_Mo_work_203 rfl (by decide) (L2 := [some (.ref (b + 0)), some (.int a0), some (.int (0 : Int32)), some (.int r28)]) rfl ?_
                refine v_goto S d_Mo_work_204 (tgt := 122) (by decide) ?_
                refine v_sub (L2 := [some (.ref (b + 0)), some (.int a0), some (.int (0 : Int32))]) (And.intro rfl (And.intro rfl (And.intro rfl True.intro))) ?_
                exact ih σ27 (0 : Int32)
              · refine v_aload_n S d_Mo_work_186 rfl rfl ?_
                refine v_get S (fun w h => List.mem_cons_of_mem _ (i_Mo w h)) hKK.1 0 (by decide) rfl rfl 15 (by decide) (S.2.2.2.2 _ (List.mem_cons_of_mem _ (wd_756))) (fun _ h => h) rfl d_Mo_work_187 ?_
                refine v_if_lt S d_Mo_work_190 (tgt := 202) (by decide) (fun h35 => ?_) (fun h35 => ?_)
                · refine v_iconst S d_Mo_work_202 (v := (0 : Int32)) (by decide) ?_
                  refine v_istore_nP S d_Mo_work_203 rfl (by decide) (L2 := [some (.ref (b + 0)), some (.int a0), some (.int (0 : Int32)), some (.int r28)]) rfl ?_
                  refine v_goto S d_Mo_work_204 (tgt := 122) (by decide) ?_
                  refine v_sub (L2 := [some (.ref (b + 0)), some (.int a0), some (.int (0 : Int32))]) (And.intro rfl (And.intro rfl (And.intro rfl True.intro))) ?_
                  exact ih σ27 (0 : Int32)
                · refine v_aload_n S d_Mo_work_193 rfl rfl ?_
                  refine v_iload_n S d_Mo_work_194 rfl rfl ?_
                  refine v_aload_n S d_Mo_work_195 rfl rfl ?_
                  refine v_get S (fun w h => List.mem_cons_of_mem _ (i_Mo w h)) hKK.1 0 (by decide) rfl rfl 15 (by decide) (S.2.2.2.2 _ (List.mem_cons_of_mem _ (wd_756))) (fun _ h => h) rfl d_Mo_work_196 ?_
                  refine v_cv (rest := []) (fun _ hg H locs ls hsz hP hS => run_V (As := [.int a0, .int (σ27 0 15)]) (rest := []) S kM_ok hKK (c_Mo_meet l D ca ax b σ27 a0 (σ27 0 15) hg) (k_Mo_120 S.2.2.2.2 (fun _ => List.mem_cons_of_mem _) ⟨Nat.le_of_ble_eq_true rfl, Nat.le_of_ble_eq_true rfl⟩) (rc_w hKK.1 hP 0 (by decide) rfl rfl) rfl rfl (Nat.zero_le _) d_Mo_work_199 hsz hP hS) (fun σ36 _ => ?_)
                  refine v_iconst S d_Mo_work_202 (v := (0 : Int32)) (by decide) ?_
                  refine v_istore_nP S d_Mo_work_203 rfl (by decide) (L2 := [some (.ref (b + 0)), some (.int a0), some (.int (0 : Int32)), some (.int r28)]) rfl ?_
                  refine v_goto S d_Mo_work_204 (tgt := 122) (by decide) ?_
                  refine v_sub (L2 := [some (.ref (b + 0)), some (.int a0), some (.int (0 : Int32))]) (And.intro rfl (And.intro rfl (And.intro rfl True.intro))) ?_
                  exact ih σ36 (0 : Int32)
            · refine v_aload_n S d_Mo_work_174 rfl rfl ?_
              refine v_iload_n S d_Mo_work_175 rfl rfl ?_
              refine v_iload_n S d_Mo_work_176 rfl rfl ?_
              refine v_iconst S d_Mo_work_177 (v := (1 : Int32)) (by decide) ?_
              refine v_iadd S d_Mo_work_178 ?_
              refine v_cv (rest := []) (fun _ hg H locs ls hsz hP hS => run_V (As := [.int a0, .int (l2 + (1 : Int32))]) (rest := []) S kM_ok hKK (c_Mo_meet l D ca ax b σ27 a0 (l2 + (1 : Int32)) hg) (k_Mo_120 S.2.2.2.2 (fun _ => List.mem_cons_of_mem _) ⟨Nat.le_of_ble_eq_true rfl, Nat.le_of_ble_eq_true rfl⟩) (rc_w hKK.1 hP 0 (by decide) rfl rfl) rfl rfl (Nat.zero_le _) d_Mo_work_179 hsz hP hS) (fun σ37 _ => ?_)
              refine v_iload_n S d_Mo_work_182 rfl rfl ?_
              refine v_if_eq S d_Mo_work_183 (tgt := 202) (by decide) (fun h38 => ?_) (fun h38 => ?_)
              · refine v_iconst S d_Mo_work_202 (v := (0 : Int32)) (by decide) ?_
                refine v_istore_nP S d_Mo_work_203 rfl (by decide) (L2 := [some (.ref (b + 0)), some (.int a0), some (.int (0 : Int32)), some (.int r28)]) rfl ?_
                refine v_goto S d_Mo_work_204 (tgt := 122) (by decide) ?_
                refine v_sub (L2 := [some (.ref (b + 0)), some (.int a0), some (.int (0 : Int32))]) (And.intro rfl (And.intro rfl (And.intro rfl True.intro))) ?_
                exact ih σ37 (0 : Int32)
              · refine v_aload_n S d_Mo_work_186 rfl rfl ?_
                refine v_get S (fun w h => List.mem_cons_of_mem _ (i_Mo w h)) hKK.1 0 (by decide) rfl rfl 15 (by decide) (S.2.2.2.2 _ (List.mem_cons_of_mem _ (wd_756))) (fun _ h => h) rfl d_Mo_work_187 ?_
                refine v_if_lt S d_Mo_work_190 (tgt := 202) (by decide) (fun h39 => ?_) (fun h39 => ?_)
                · refine v_iconst S d_Mo_work_202 (v := (0 : Int32)) (by decide) ?_
                  refine v_istore_nP S d_Mo_work_203 rfl (by decide) (L2 := [some (.ref (b + 0)), some (.int a0), some (.int (0 : Int32)), some (.int r28)]) rfl ?_
                  refine v_goto S d_Mo_work_204 (tgt := 122) (by decide) ?_
                  refine v_sub (L2 := [some (.ref (b + 0)), some (.int a0), some (.int (0 : Int32))]) (And.intro rfl (And.intro rfl (And.intro rfl True.intro))) ?_
                  exact ih σ37 (0 : Int32)
                · refine v_aload_n S d_Mo_work_193 rfl rfl ?_
                  refine v_iload_n S d_Mo_work_194 rfl rfl ?_
                  refine v_aload_n S d_Mo_work_195 rfl rfl ?_
                  refine v_get S (fun w h => List.mem_cons_of_mem _ (i_Mo w h)) hKK.1 0 (by decide) rfl rfl 15 (by decide) (S.2.2.2.2 _ (List.mem_cons_of_mem _ (wd_756))) (fun _ h => h) rfl d_Mo_work_196 ?_
                  refine v_cv (rest := []) (fun _ hg H locs ls hsz hP hS => run_V (As := [.int a0, .int (σ37 0 15)]) (rest := []) S kM_ok hKK (c_Mo_meet l D ca ax b σ37 a0 (σ37 0 15) hg) (k_Mo_120 S.2.2.2.2 (fun _ => List.mem_cons_of_mem _) ⟨Nat.le_of_ble_eq_true rfl, Nat.le_of_ble_eq_true rfl⟩) (rc_w hKK.1 hP 0 (by decide) rfl rfl) rfl rfl (Nat.zero_le _) d_Mo_work_199 hsz hP hS) (fun σ40 _ => ?_)
                  refine v_iconst S d_Mo_work_202 (v := (0 : Int32)) (by decide) ?_
                  refine v_istore_nP S d_Mo_work_203 rfl (by decide) (L2 := [some (.ref (b + 0)), some (.int a0), some (.int (0 : Int32)), some (.int r28)]) rfl ?_
                  refine v_goto S d_Mo_work_204 (tgt := 122) (by decide) ?_
                  refine v_sub (L2 := [some (.ref (b + 0)), some (.int a0), some (.int (0 : Int32))]) (And.intro rfl (And.intro rfl (And.intro rfl True.intro))) ?_
                  exact ih σ40 (0 : Int32)
  have C71 : ∀ (n : Nat) (σ : mm_M) (l2 : Int32), vv p l e (headSpec w_Mo_work rm_Mo_work).room s m [.ref (b + 0), .int a0].toArray below meth c D cls b N_M (ce_M ca b) 4 (MQ below (qc_i D cls b N_M (ce_M ca b) r σ') [.ref (b + 0), .int a0].toArray s 0 0 (mm_A b N_M)) (r, σ') (fn_Mo_work_71 a0 n σ l2) σ 71 [some (.ref (b + 0)), some (.int a0), some (.int l2)] [] := by
    intro n
    induction n with
    | zero => intro σ l2  h; cases h
    | succ n ih =>
      intro σ l2
      show vv p l e (headSpec w_Mo_work rm_Mo_work).room s m [.ref (b + 0), .int a0].toArray below meth c D cls b N_M (ce_M ca b) 4 (MQ below (qc_i D cls b N_M (ce_M ca b) r σ') [.ref (b + 0), .int a0].toArray s 0 0 (mm_A b N_M)) (r, σ') (        (if (6 : Int32) ≤ l2 then
        (if (a0 < 0 ∨ 4 ≤ a0.toNatClampNeg) then none else
        (bv (fn_Mo_meet σ a0 (σ 4 a0.toNatClampNeg)) (fun σ12 =>
        (fn_Mo_work_122 a0 fuel0 σ12 (0 : Int32)))))
        else
        (if (a0 < 0 ∨ 4 ≤ a0.toNatClampNeg) then none else
        (if (σ 5 a0.toNatClampNeg) ≤ l2 then
        (if (l2 < 0 ∨ 12 ≤ l2.toNatClampNeg) then none else (nm (mw σ 10 l2.toNatClampNeg (0 : Int32)) (fun σ44 =>
        (fn_Mo_work_71 a0 n σ44 (l2 + (1 : Int32))))))
        else
        (bd (fn_Mo_kindOf σ a0 l2) (fun r47 σ46 =>
        (if (l2 < 0 ∨ 12 ≤ l2.toNatClampNeg) then none else (nm (mw σ46 10 l2.toNatClampNeg r47) (fun σ49 =>
        (fn_Mo_work_71 a0 n σ49 (l2 + (1 : Int32)))))))))))) σ 71 [some (.ref (b + 0)), some (.int a0), some (.int l2)] []
      refine v_iload_n S d_Mo_work_71 rfl rfl ?_
      refine v_bipush S d_Mo_work_72 (v := (6 : Int32)) (by decide) ?_
      refine v_icmp_ge S d_Mo_work_74 (tgt := 109) (by decide) (fun h10 => ?_) (fun h10 => ?_)
      · refine v_aload_n S d_Mo_work_109 rfl rfl ?_
        refine v_iload_n S d_Mo_work_110 rfl rfl ?_
        refine v_aload_n S d_Mo_work_111 rfl rfl ?_
        refine v_get S (fun w h => List.mem_cons_of_mem _ (i_Mo w h)) hKK.1 0 (by decide) rfl rfl 4 (by decide) (S.2.2.2.2 _ (List.mem_cons_of_mem _ (wd_745))) (fun _ h => h) rfl d_Mo_work_112 ?_
        refine v_iload_n S d_Mo_work_115 rfl rfl ?_
        refine v_iald S hKK.1 4 0 (by decide) rfl rfl d_Mo_work_116 (fun h11 => ?_)
        refine v_cv (rest := []) (fun _ hg H locs ls hsz hP hS => run_V (As := [.int a0, .int (σ 4 a0.toNatClampNeg)]) (rest := []) S kM_ok hKK (c_Mo_meet l D ca ax b σ a0 (σ 4 a0.toNatClampNeg) hg) (k_Mo_120 S.2.2.2.2 (fun _ => List.mem_cons_of_mem _) ⟨Nat.le_of_ble_eq_true rfl, Nat.le_of_ble_eq_true rfl⟩) (rc_w hKK.1 hP 0 (by decide) rfl rfl) rfl rfl (Nat.zero_le _) d_Mo_work_117 hsz hP hS) (fun σ12 _ => ?_)
        refine v_iconst S d_Mo_work_120 (v := (0 : Int32)) (by decide) ?_
        refine v_istore_nP S d_Mo_work_121 rfl (by decide) (L2 := [some (.ref (b + 0)), some (.int a0), some (.int (0 : Int32))]) rfl ?_
        refine v_sub (L2 := [some (.ref (b + 0)), some (.int a0), some (.int (0 : Int32))]) (And.intro rfl (And.intro rfl (And.intro rfl True.intro))) ?_
        exact C122 fuel0 σ12 (0 : Int32)
      · refine v_aload_n S d_Mo_work_77 rfl rfl ?_
        refine v_get S (fun w h => List.mem_cons_of_mem _ (i_Mo w h)) hKK.1 0 (by decide) rfl rfl 12 (by decide) (S.2.2.2.2 _ (List.mem_cons_of_mem _ (wd_753))) (fun _ h => h) rfl d_Mo_work_78 ?_
        refine v_iload_n S d_Mo_work_81 rfl rfl ?_
        refine v_iload_n S d_Mo_work_82 rfl rfl ?_
        refine v_aload_n S d_Mo_work_83 rfl rfl ?_
        refine v_get S (fun w h => List.mem_cons_of_mem _ (i_Mo w h)) hKK.1 0 (by decide) rfl rfl 5 (by decide) (S.2.2.2.2 _ (List.mem_cons_of_mem _ (wd_746))) (fun _ h => h) rfl d_Mo_work_84 ?_
        refine v_iload_n S d_Mo_work_87 rfl rfl ?_
        refine v_iald S hKK.1 5 0 (by decide) rfl rfl d_Mo_work_88 (fun h41 => ?_)
        refine v_icmp_ge S d_Mo_work_89 (tgt := 101) (by decide) (fun h42 => ?_) (fun h42 => ?_)
        · refine v_iconst S d_Mo_work_101 (v := (0 : Int32)) (by decide) ?_
          refine v_iast1 S hKK.1 10 0 (by decide) (fun _ => rfl) rfl d_Mo_work_102 (fun h43 => ?_)
          refine v_sg (fun σ44 eσ44 => ?_)
          refine v_iinc S d_Mo_work_103 rfl (v := (l2 + (1 : Int32))) (by first | rfl | decide) (by decide) (L2 := [some (.ref (b + 0)), some (.int a0), some (.int (l2 + (1 : Int32)))]) rfl ?_
          refine v_goto S d_Mo_work_106 (tgt := 71) (by decide) ?_
          refine v_sub (L2 := [some (.ref (b + 0)), some (.int a0), some (.int (l2 + (1 : Int32)))]) (And.intro rfl (And.intro rfl (And.intro rfl True.intro))) ?_
          exact ih σ44 (l2 + (1 : Int32))
        · refine v_aload_n S d_Mo_work_92 rfl rfl ?_
          refine v_iload_n S d_Mo_work_93 rfl rfl ?_
          refine v_iload_n S d_Mo_work_94 rfl rfl ?_
          refine v_ci (rest := [.int l2, .ref (b + 10)]) (fun _ _ hg H locs ls hsz hP hS => run_V (As := [.int a0, .int l2]) (rest := [.int l2, .ref (b + 10)]) S kM_ok hKK (c_Mo_kindOf l D ca ax b σ a0 l2 hg) (k_Mo_110 S.2.2.2.2 (fun _ => List.mem_cons_of_mem _) ⟨Nat.le_of_ble_eq_true rfl, Nat.le_of_ble_eq_true rfl⟩) (rc_w hKK.1 hP 0 (by decide) rfl rfl) rfl rfl (by simp [Value.category]) d_Mo_work_95 hsz hP hS) (fun r47 σ46 _ => ?_)
          refine v_goto S d_Mo_work_98 (tgt := 102) (by decide) ?_
          refine v_iast1 S hKK.1 10 0 (by decide) (fun _ => rfl) rfl d_Mo_work_102 (fun h48 => ?_)
          refine v_sg (fun σ49 eσ49 => ?_)
          refine v_iinc S d_Mo_work_103 rfl (v := (l2 + (1 : Int32))) (by first | rfl | decide) (by decide) (L2 := [some (.ref (b + 0)), some (.int a0), some (.int (l2 + (1 : Int32)))]) rfl ?_
          refine v_goto S d_Mo_work_106 (tgt := 71) (by decide) ?_
          refine v_sub (L2 := [some (.ref (b + 0)), some (.int a0), some (.int (l2 + (1 : Int32)))]) (And.intro rfl (And.intro rfl (And.intro rfl True.intro))) ?_
          exact ih σ49 (l2 + (1 : Int32))
  have C5 : ∀ (n : Nat) (σ : mm_M) (l2 : Int32), vv p l e (headSpec w_Mo_work rm_Mo_work).room s m [.ref (b + 0), .int a0].toArray below meth c D cls b N_M (ce_M ca b) 4 (MQ below (qc_i D cls b N_M (ce_M ca b) r σ') [.ref (b + 0), .int a0].toArray s 0 0 (mm_A b N_M)) (r, σ') (fn_Mo_work_5 a0 n σ l2) σ 5 [some (.ref (b + 0)), some (.int a0), some (.int l2)] [] := by
    intro n
    induction n with
    | zero => intro σ l2  h; cases h
    | succ n ih =>
      intro σ l2
      show vv p l e (headSpec w_Mo_work rm_Mo_work).room s m [.ref (b + 0), .int a0].toArray below meth c D cls b N_M (ce_M ca b) 4 (MQ below (qc_i D cls b N_M (ce_M ca b) r σ') [.ref (b + 0), .int a0].toArray s 0 0 (mm_A b N_M)) (r, σ') (        (if (((100 : Int32) * a0) + (100 : Int32)) ≤ l2 then
        (if (a0 < 0 ∨ 4 ≤ a0.toNatClampNeg) then none else
        (if (σ 3 a0.toNatClampNeg) = 0 then
        (some ((-1 : Int32), σ))
        else
        (if (a0 < 0 ∨ 4 ≤ a0.toNatClampNeg) then none else
        (bd (fn_Mo_isAddress σ (σ 4 a0.toNatClampNeg)) (fun r7 σ6 =>
        (if r7 = 0 then
        (some ((999 : Int32), σ6))
        else
        (nm (mw σ6 0 11 (0 : Int32)) (fun σ9 =>
        (fn_Mo_work_71 a0 fuel0 σ9 (0 : Int32))))))))))
        else
        (if (l2 < 0 ∨ 400 ≤ l2.toNatClampNeg) then none else (nm (mw σ 7 l2.toNatClampNeg (-1 : Int32)) (fun σ52 =>
        (if (l2 < 0 ∨ 400 ≤ l2.toNatClampNeg) then none else (nm (mw σ52 9 l2.toNatClampNeg (0 : Int32)) (fun σ54 =>
        (fn_Mo_work_5 a0 n σ54 (l2 + (1 : Int32))))))))))) σ 5 [some (.ref (b + 0)), some (.int a0), some (.int l2)] []
      refine v_iload_n S d_Mo_work_5 rfl rfl ?_
      refine v_bipush S d_Mo_work_6 (v := (100 : Int32)) (by decide) ?_
      refine v_iload_n S d_Mo_work_8 rfl rfl ?_
      refine v_imul S d_Mo_work_9 ?_
      refine v_bipush S d_Mo_work_10 (v := (100 : Int32)) (by decide) ?_
      refine v_iadd S d_Mo_work_12 ?_
      refine v_icmp_ge S d_Mo_work_13 (tgt := 36) (by decide) (fun h2 => ?_) (fun h2 => ?_)
      · refine v_aload_n S d_Mo_work_36 rfl rfl ?_
        refine v_get S (fun w h => List.mem_cons_of_mem _ (i_Mo w h)) hKK.1 0 (by decide) rfl rfl 3 (by decide) (S.2.2.2.2 _ (List.mem_cons_of_mem _ (wd_744))) (fun _ h => h) rfl d_Mo_work_37 ?_
        refine v_iload_n S d_Mo_work_40 rfl rfl ?_
        refine v_zald S hKK.1 3 1 (by decide) rfl rfl d_Mo_work_41 (fun h3 => ?_)
        refine v_if_ne S d_Mo_work_42 (tgt := 47) (by decide) (fun h4 => ?_) (fun h4 => ?_)
        · refine v_aload_n S d_Mo_work_47 rfl rfl ?_
          refine v_aload_n S d_Mo_work_48 rfl rfl ?_
          refine v_get S (fun w h => List.mem_cons_of_mem _ (i_Mo w h)) hKK.1 0 (by decide) rfl rfl 4 (by decide) (S.2.2.2.2 _ (List.mem_cons_of_mem _ (wd_745))) (fun _ h => h) rfl d_Mo_work_49 ?_
          refine v_iload_n S d_Mo_work_52 rfl rfl ?_
          refine v_iald S hKK.1 4 0 (by decide) rfl rfl d_Mo_work_53 (fun h5 => ?_)
          refine v_ci (rest := []) (fun _ _ hg H locs ls hsz hP hS => run_V (As := [.int (σ 4 a0.toNatClampNeg)]) (rest := []) S kM_ok hKK (c_Mo_isAddress l D ca ax b σ (σ 4 a0.toNatClampNeg) hg) (k_Mo_76 S.2.2.2.2 (fun _ => List.mem_cons_of_mem _) ⟨Nat.le_of_ble_eq_true rfl, Nat.le_of_ble_eq_true rfl⟩) (rc_w hKK.1 hP 0 (by decide) rfl rfl) rfl rfl (Nat.zero_le _) d_Mo_work_54 hsz hP hS) (fun r7 σ6 _ => ?_)
          refine v_if_ne S d_Mo_work_57 (tgt := 64) (by decide) (fun h8 => ?_) (fun h8 => ?_)
          · refine v_aload_n S d_Mo_work_64 rfl rfl ?_
            refine v_iconst S d_Mo_work_65 (v := (0 : Int32)) (by decide) ?_
            refine v_puti S (fun w h => List.mem_cons_of_mem _ (i_Mo w h)) hKK.1 0 (by decide) rfl rfl 11 (by decide) (S.2.2.2.2 _ (List.mem_cons_of_mem _ (wd_752))) (fun _ h => h) t_Mo t_Mo_ok n_Mo rfl (ty := .int) rfl rfl rfl (Nat.le_of_ble_eq_true rfl) rfl d_Mo_work_66 ?_
            refine v_sg (fun σ9 eσ9 => ?_)
            refine v_iconst S d_Mo_work_69 (v := (0 : Int32)) (by decide) ?_
            refine v_istore_nP S d_Mo_work_70 rfl (by decide) (L2 := [some (.ref (b + 0)), some (.int a0), some (.int (0 : Int32))]) rfl ?_
            refine v_sub (L2 := [some (.ref (b + 0)), some (.int a0), some (.int (0 : Int32))]) (And.intro rfl (And.intro rfl (And.intro rfl True.intro))) ?_
            exact C71 fuel0 σ9 (0 : Int32)
          · refine v_sipush S d_Mo_work_60 (v := (999 : Int32)) (by decide) ?_
            exact v_iret S hret hlocks d_Mo_work_63
        · refine v_iconst S d_Mo_work_45 (v := (-1 : Int32)) (by decide) ?_
          exact v_iret S hret hlocks d_Mo_work_46
      · refine v_aload_n S d_Mo_work_16 rfl rfl ?_
        refine v_get S (fun w h => List.mem_cons_of_mem _ (i_Mo w h)) hKK.1 0 (by decide) rfl rfl 8 (by decide) (S.2.2.2.2 _ (List.mem_cons_of_mem _ (wd_749))) (fun _ h => h) rfl d_Mo_work_17 ?_
        refine v_iload_n S d_Mo_work_20 rfl rfl ?_
        refine v_iconst S d_Mo_work_21 (v := (-1 : Int32)) (by decide) ?_
        refine v_iast1 S hKK.1 7 0 (by decide) (fun _ => rfl) rfl d_Mo_work_22 (fun h51 => ?_)
        refine v_sg (fun σ52 eσ52 => ?_)
        refine v_aload_n S d_Mo_work_23 rfl rfl ?_
        refine v_get S (fun w h => List.mem_cons_of_mem _ (i_Mo w h)) hKK.1 0 (by decide) rfl rfl 10 (by decide) (S.2.2.2.2 _ (List.mem_cons_of_mem _ (wd_751))) (fun _ h => h) rfl d_Mo_work_24 ?_
        refine v_iload_n S d_Mo_work_27 rfl rfl ?_
        refine v_iconst S d_Mo_work_28 (v := (0 : Int32)) (by decide) ?_
        refine v_zast1 S hKK.1 9 1 (by decide) (fun _ => rfl) rfl (Or.inl rfl) d_Mo_work_29 (fun h53 => ?_)
        refine v_sg (fun σ54 eσ54 => ?_)
        refine v_iinc S d_Mo_work_30 rfl (v := (l2 + (1 : Int32))) (by first | rfl | decide) (by decide) (L2 := [some (.ref (b + 0)), some (.int a0), some (.int (l2 + (1 : Int32)))]) rfl ?_
        refine v_goto S d_Mo_work_33 (tgt := 5) (by decide) ?_
        refine v_sub (L2 := [some (.ref (b + 0)), some (.int a0), some (.int (l2 + (1 : Int32)))]) (And.intro rfl (And.intro rfl (And.intro rfl True.intro))) ?_
        exact ih σ54 (l2 + (1 : Int32))
  unfold fn_Mo_work
  refine v_bipush S d_Mo_work_0 (v := (100 : Int32)) (by decide) ?_
  refine v_iload_n S d_Mo_work_2 rfl rfl ?_
  refine v_imul S d_Mo_work_3 ?_
  refine v_top (fun x1 ex1 => ?_)
  refine v_istore_nP S d_Mo_work_4 rfl (by decide) (L2 := [some (.ref (b + 0)), some (.int a0), some (.int x1)]) rfl ?_
  refine v_sub (L2 := [some (.ref (b + 0)), some (.int a0), some (.int x1)]) (And.intro rfl (And.intro rfl (And.intro rfl True.intro))) ?_
  exact C5 fuel0 σ x1

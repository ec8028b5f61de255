/-! contracts of 10.machine; written by wip/whole/make.py -/
def fn_Ma_useArray (σ : mm_M) (i0 : Nat) (o1 : Nat) : Option (mm_M) :=
    (if ((nI o1) < 0 ∨ 20 ≤ (nI o1).toNatClampNeg) then none else
    (if (sw_op (nI o1).toNatClampNeg) = (8 : Int32) then
    (bd (fn_Fr_pop σ i0) (fun r4 σ3 =>
    (bd (fn_Fr_pop σ3 i0) (fun r6 σ5 =>
    (bd (fn_Ma_placeOf σ5 r6 r4) (fun r8 σ7 =>
    (if (r8 < 0 ∨ 30 ≤ r8.toNatClampNeg) then none else
    (bv (fn_Fr_push σ7 i0 (1 : Int32) (σ7 17 r8.toNatClampNeg)) (fun σ10 =>
    (some σ10))))))))))
    else
    (if (sw_op (nI o1).toNatClampNeg) = (10 : Int32) then
    (bd (fn_Fr_pop σ i0) (fun r13 σ12 =>
    (bd (fn_Ma_lengthOf σ12 r13) (fun r15 σ14 =>
    (bv (fn_Fr_push σ14 i0 (1 : Int32) r15) (fun σ16 =>
    (some σ16)))))))
    else
    (if (sw_op (nI o1).toNatClampNeg) = (11 : Int32) then
    (bd (fn_Fr_pop σ i0) (fun r19 σ18 =>
    (bd (fn_Ma_makeArray σ18 r19) (fun r21 σ20 =>
    (bv (fn_Fr_push σ20 i0 (2 : Int32) r21) (fun σ22 =>
    (some σ22)))))))
    else
    (bd (fn_Fr_pop σ i0) (fun r25 σ24 =>
    (bd (fn_Fr_pop σ24 i0) (fun r27 σ26 =>
    (bd (fn_Fr_pop σ26 i0) (fun r29 σ28 =>
    (bd (fn_Ma_placeOf σ28 r29 r27) (fun r31 σ30 =>
    (if (r31 < 0 ∨ 30 ≤ r31.toNatClampNeg) then none else (nm (mw σ30 17 r31.toNatClampNeg r25) (fun σ33 =>
    (some σ33))))))))))))))))
set_option maxRecDepth 100000 in
set_option maxHeartbeats 40000000 in
theorem c_Ma_useArray (l : Launch) (D : va_G) (ca : Nat → ClassId) (ax : Nat → Nat → Nat) (b : Nat) (σ : mm_M) (i0 : Nat) (o1 : Nat) (hi0 : i0 < 8) (ho1 : o1 < 20) {σ' : mm_M} (hf : fn_Ma_useArray σ i0 o1 = some σ') : Met l y_Ma_useArray w_Ma_useArray rm_Ma_useArray (pc_w D cls b N_C (ce_C ca b) (kC D ca ax b) [.ref (b + 16), .ref (b + (19 + 2 * i0)), .ref (ax 0 o1)] σ) (qc_v D cls b N_C (ce_C ca b) σ') 0 0 (mm_A b N_C) := by
  refine vv_go (cc := b_Ma_useArray) (maxL := 6) (ret := none) (fin := σ') (k := fn_Ma_useArray σ i0 o1) (by decide) rfl (by simp [Value.category]) (Nat.le_of_ble_eq_true rfl) hf ?_
  intro p e s m below meth c hlocks hret S hKK
  unfold fn_Ma_useArray
  refine v_gets S (kc_zOp hKK) (S.2.2.2.2 _ (List.mem_cons_of_mem _ (wd_538))) (fun _ h => h) d_Ma_useArray_0 ?_
  refine v_aload_n S d_Ma_useArray_3 rfl rfl ?_
  refine v_ordO (rest := [.ref (ax 3 0)]) S hKK ho1 (k_Ma_126 S.2.2.2.2 (fun _ => List.mem_cons_of_mem _) ⟨Nat.le_of_ble_eq_true rfl, Nat.le_of_ble_eq_true rfl⟩) (by simp [Value.category]) d_Ma_useArray_4 ?_
  refine v_ti0 S (kc_swOp hKK) d_Ma_useArray_7 (fun h1 => ?_)
  refine v_tsw S (8 : Int32) (tgt := 71) d_Ma_useArray_8 (by decide) (by decide) (off := 63) rfl (by decide) (fun h2 => ?_) (fun h2 => ?_)
  · refine v_aload_n S d_Ma_useArray_71 rfl rfl ?_
    refine v_ci (rest := []) (fun _ _ hg H locs ls hsz hP hS => run_V (As := []) (rest := []) S kC_ok hKK (c_Fr_pop l D ca ax b σ i0 hi0 hg) (k_Ma_179 S.2.2.2.2 (fun _ => List.mem_cons_of_mem _) ⟨Nat.le_of_ble_eq_true rfl, Nat.le_of_ble_eq_true rfl⟩) (rc_w hKK.1 hP (19 + 2 * i0) (fr_lt hi0) (ce_fr hi0) rfl) rfl rfl (Nat.zero_le _) d_Ma_useArray_72 hsz hP hS) (fun r4 σ3 _ => ?_)
    refine v_istore_nP S d_Ma_useArray_75 rfl (by decide) (L2 := [some (.ref (b + 16)), some (.ref (b + (19 + 2 * i0))), some (.ref (ax 0 o1)), some (.int r4)]) rfl ?_
    refine v_aload_n S d_Ma_useArray_76 rfl rfl ?_
    refine v_iconst S d_Ma_useArray_77 (v := (1 : Int32)) (by decide) ?_
    refine v_aload_n S d_Ma_useArray_78 rfl rfl ?_
    refine v_get S (fun w h => List.mem_cons_of_mem _ (i_Ma w h)) hKK.1 16 (by decide) rfl rfl 5 (by decide) (S.2.2.2.2 _ (List.mem_cons_of_mem _ (wd_129))) (fun _ h => h) rfl d_Ma_useArray_79 ?_
    refine v_aload_n S d_Ma_useArray_82 rfl rfl ?_
    refine v_ci (rest := [.ref (b + 17), .int (1 : Int32), .ref (b + (19 + 2 * i0))]) (fun _ _ hg H locs ls hsz hP hS => run_V (As := []) (rest := [.ref (b + 17), .int (1 : Int32), .ref (b + (19 + 2 * i0))]) S kC_ok hKK (c_Fr_pop l D ca ax b σ3 i0 hi0 hg) (k_Ma_179 S.2.2.2.2 (fun _ => List.mem_cons_of_mem _) ⟨Nat.le_of_ble_eq_true rfl, Nat.le_of_ble_eq_true rfl⟩) (rc_w hKK.1 hP (19 + 2 * i0) (fr_lt hi0) (ce_fr hi0) rfl) rfl rfl (by simp [Value.category]) d_Ma_useArray_83 hsz hP hS) (fun r6 σ5 _ => ?_)
    refine v_iload_n S d_Ma_useArray_86 rfl rfl ?_
    refine v_ci (rest := [.ref (b + 17), .int (1 : Int32), .ref (b + (19 + 2 * i0))]) (fun _ _ hg H locs ls hsz hP hS => run_S (As := [.int r6, .int r4]) (rest := [.ref (b + 17), .int (1 : Int32), .ref (b + (19 + 2 * i0))]) S kC_ok hKK (c_Ma_placeOf l D ca ax b σ5 r6 r4 hg) (k_Ma_210 S.2.2.2.2 (fun _ => List.mem_cons_of_mem _) ⟨Nat.le_of_ble_eq_true rfl, Nat.le_of_ble_eq_true rfl⟩) rfl rfl (by simp [Value.category]) d_Ma_useArray_87 hsz hP hS) (fun r8 σ7 _ => ?_)
    refine v_iald S hKK.1 17 0 (by decide) rfl rfl d_Ma_useArray_90 (fun h9 => ?_)
    refine v_cv (rest := []) (fun _ hg H locs ls hsz hP hS => run_V (As := [.int (1 : Int32), .int (σ7 17 r8.toNatClampNeg)]) (rest := []) S kC_ok hKK (c_Fr_push l D ca ax b σ7 i0 (1 : Int32) (σ7 17 r8.toNatClampNeg) hi0 hg) (k_Ma_204 S.2.2.2.2 (fun _ => List.mem_cons_of_mem _) ⟨Nat.le_of_ble_eq_true rfl, Nat.le_of_ble_eq_true rfl⟩) (rc_w hKK.1 hP (19 + 2 * i0) (fr_lt hi0) (ce_fr hi0) rfl) rfl rfl (Nat.zero_le _) d_Ma_useArray_91 hsz hP hS) (fun σ10 _ => ?_)
    refine v_goto S d_Ma_useArray_94 (tgt := 125) (by decide) ?_
    exact v_vret S hret hlocks d_Ma_useArray_125
  · refine v_tsw S (10 : Int32) (tgt := 56) d_Ma_useArray_8 (by decide) (by decide) (off := 48) rfl (by decide) (fun h11 => ?_) (fun h11 => ?_)
    · refine v_aload_n S d_Ma_useArray_56 rfl rfl ?_
      refine v_iconst S d_Ma_useArray_57 (v := (1 : Int32)) (by decide) ?_
      refine v_aload_n S d_Ma_useArray_58 rfl rfl ?_
      refine v_ci (rest := [.int (1 : Int32), .ref (b + (19 + 2 * i0))]) (fun _ _ hg H locs ls hsz hP hS => run_V (As := []) (rest := [.int (1 : Int32), .ref (b + (19 + 2 * i0))]) S kC_ok hKK (c_Fr_pop l D ca ax b σ i0 hi0 hg) (k_Ma_179 S.2.2.2.2 (fun _ => List.mem_cons_of_mem _) ⟨Nat.le_of_ble_eq_true rfl, Nat.le_of_ble_eq_true rfl⟩) (rc_w hKK.1 hP (19 + 2 * i0) (fr_lt hi0) (ce_fr hi0) rfl) rfl rfl (by simp [Value.category]) d_Ma_useArray_59 hsz hP hS) (fun r13 σ12 _ => ?_)
      refine v_ci (rest := [.int (1 : Int32), .ref (b + (19 + 2 * i0))]) (fun _ _ hg H locs ls hsz hP hS => run_S (As := [.int r13]) (rest := [.int (1 : Int32), .ref (b + (19 + 2 * i0))]) S kC_ok hKK (c_Ma_lengthOf l D ca ax b σ12 r13 hg) (k_Ma_150 S.2.2.2.2 (fun _ => List.mem_cons_of_mem _) ⟨Nat.le_of_ble_eq_true rfl, Nat.le_of_ble_eq_true rfl⟩) rfl rfl (by simp [Value.category]) d_Ma_useArray_62 hsz hP hS) (fun r15 σ14 _ => ?_)
      refine v_cv (rest := []) (fun _ hg H locs ls hsz hP hS => run_V (As := [.int (1 : Int32), .int r15]) (rest := []) S kC_ok hKK (c_Fr_push l D ca ax b σ14 i0 (1 : Int32) r15 hi0 hg) (k_Ma_204 S.2.2.2.2 (fun _ => List.mem_cons_of_mem _) ⟨Nat.le_of_ble_eq_true rfl, Nat.le_of_ble_eq_true rfl⟩) (rc_w hKK.1 hP (19 + 2 * i0) (fr_lt hi0) (ce_fr hi0) rfl) rfl rfl (Nat.zero_le _) d_Ma_useArray_65 hsz hP hS) (fun σ16 _ => ?_)
      refine v_goto S d_Ma_useArray_68 (tgt := 125) (by decide) ?_
      exact v_vret S hret hlocks d_Ma_useArray_125
    · refine v_tsw S (11 : Int32) (tgt := 40) d_Ma_useArray_8 (by decide) (by decide) (off := 32) rfl (by decide) (fun h17 => ?_) (fun h17 => ?_)
      · refine v_aload_n S d_Ma_useArray_40 rfl rfl ?_
        refine v_iconst S d_Ma_useArray_41 (v := (2 : Int32)) (by decide) ?_
        refine v_aload_n S d_Ma_useArray_42 rfl rfl ?_
        refine v_aload_n S d_Ma_useArray_43 rfl rfl ?_
        refine v_ci (rest := [.ref (b + 16), .int (2 : Int32), .ref (b + (19 + 2 * i0))]) (fun _ _ hg H locs ls hsz hP hS => run_V (As := []) (rest := [.ref (b + 16), .int (2 : Int32), .ref (b + (19 + 2 * i0))]) S kC_ok hKK (c_Fr_pop l D ca ax b σ i0 hi0 hg) (k_Ma_179 S.2.2.2.2 (fun _ => List.mem_cons_of_mem _) ⟨Nat.le_of_ble_eq_true rfl, Nat.le_of_ble_eq_true rfl⟩) (rc_w hKK.1 hP (19 + 2 * i0) (fr_lt hi0) (ce_fr hi0) rfl) rfl rfl (by simp [Value.category]) d_Ma_useArray_44 hsz hP hS) (fun r19 σ18 _ => ?_)
        refine v_ci (rest := [.int (2 : Int32), .ref (b + (19 + 2 * i0))]) (fun _ _ hg H locs ls hsz hP hS => run_V (As := [.int r19]) (rest := [.int (2 : Int32), .ref (b + (19 + 2 * i0))]) S kC_ok hKK (c_Ma_makeArray l D ca ax b σ18 r19 hg) (k_Ma_207 S.2.2.2.2 (fun _ => List.mem_cons_of_mem _) ⟨Nat.le_of_ble_eq_true rfl, Nat.le_of_ble_eq_true rfl⟩) (rc_w hKK.1 hP 16 (by decide) rfl rfl) rfl rfl (by simp [Value.category]) d_Ma_useArray_47 hsz hP hS) (fun r21 σ20 _ => ?_)
        refine v_cv (rest := []) (fun _ hg H locs ls hsz hP hS => run_V (As := [.int (2 : Int32), .int r21]) (rest := []) S kC_ok hKK (c_Fr_push l D ca ax b σ20 i0 (2 : Int32) r21 hi0 hg) (k_Ma_204 S.2.2.2.2 (fun _ => List.mem_cons_of_mem _) ⟨Nat.le_of_ble_eq_true rfl, Nat.le_of_ble_eq_true rfl⟩) (rc_w hKK.1 hP (19 + 2 * i0) (fr_lt hi0) (ce_fr hi0) rfl) rfl rfl (Nat.zero_le _) d_Ma_useArray_50 hsz hP hS) (fun σ22 _ => ?_)
        refine v_goto S d_Ma_useArray_53 (tgt := 125) (by decide) ?_
        exact v_vret S hret hlocks d_Ma_useArray_125
      · refine v_tswQ S (9 : Int32) (tgt := 97) d_Ma_useArray_8 (by decide) (by decide) (off := 89) rfl (by decide) ?_ (fun h23 => ?_)
        · refine v_aload_n S d_Ma_useArray_97 rfl rfl ?_
          refine v_ci (rest := []) (fun _ _ hg H locs ls hsz hP hS => run_V (As := []) (rest := []) S kC_ok hKK (c_Fr_pop l D ca ax b σ i0 hi0 hg) (k_Ma_179 S.2.2.2.2 (fun _ => List.mem_cons_of_mem _) ⟨Nat.le_of_ble_eq_true rfl, Nat.le_of_ble_eq_true rfl⟩) (rc_w hKK.1 hP (19 + 2 * i0) (fr_lt hi0) (ce_fr hi0) rfl) rfl rfl (Nat.zero_le _) d_Ma_useArray_98 hsz hP hS) (fun r25 σ24 _ => ?_)
          refine v_istoreP S d_Ma_useArray_101 (by decide) (L2 := [some (.ref (b + 16)), some (.ref (b + (19 + 2 * i0))), some (.ref (ax 0 o1)), none, some (.int r25)]) rfl ?_
          refine v_aload_n S d_Ma_useArray_103 rfl rfl ?_
          refine v_ci (rest := []) (fun _ _ hg H locs ls hsz hP hS => run_V (As := []) (rest := []) S kC_ok hKK (c_Fr_pop l D ca ax b σ24 i0 hi0 hg) (k_Ma_179 S.2.2.2.2 (fun _ => List.mem_cons_of_mem _) ⟨Nat.le_of_ble_eq_true rfl, Nat.le_of_ble_eq_true rfl⟩) (rc_w hKK.1 hP (19 + 2 * i0) (fr_lt hi0) (ce_fr hi0) rfl) rfl rfl (Nat.zero_le _) d_Ma_useArray_104 hsz hP hS) (fun r27 σ26 _ => ?_)
          refine v_istoreP S d_Ma_useArray_107 (by decide) (L2 := [some (.ref (b + 16)), some (.ref (b + (19 + 2 * i0))), some (.ref (ax 0 o1)), none, some (.int r25), some (.int r27)]) rfl ?_
          refine v_aload_n S d_Ma_useArray_109 rfl rfl ?_
          refine v_get S (fun w h => List.mem_cons_of_mem _ (i_Ma w h)) hKK.1 16 (by decide) rfl rfl 5 (by decide) (S.2.2.2.2 _ (List.mem_cons_of_mem _ (wd_129))) (fun _ h => h) rfl d_Ma_useArray_110 ?_
          refine v_aload_n S d_Ma_useArray_113 rfl rfl ?_
          refine v_ci (rest := [.ref (b + 17)]) (fun _ _ hg H locs ls hsz hP hS => run_V (As := []) (rest := [.ref (b + 17)]) S kC_ok hKK (c_Fr_pop l D ca ax b σ26 i0 hi0 hg) (k_Ma_179 S.2.2.2.2 (fun _ => List.mem_cons_of_mem _) ⟨Nat.le_of_ble_eq_true rfl, Nat.le_of_ble_eq_true rfl⟩) (rc_w hKK.1 hP (19 + 2 * i0) (fr_lt hi0) (ce_fr hi0) rfl) rfl rfl (by simp [Value.category]) d_Ma_useArray_114 hsz hP hS) (fun r29 σ28 _ => ?_)
          refine v_iload S d_Ma_useArray_117 rfl ?_
          refine v_ci (rest := [.ref (b + 17)]) (fun _ _ hg H locs ls hsz hP hS => run_S (As := [.int r29, .int r27]) (rest := [.ref (b + 17)]) S kC_ok hKK (c_Ma_placeOf l D ca ax b σ28 r29 r27 hg) (k_Ma_210 S.2.2.2.2 (fun _ => List.mem_cons_of_mem _) ⟨Nat.le_of_ble_eq_true rfl, Nat.le_of_ble_eq_true rfl⟩) rfl rfl (by simp [Value.category]) d_Ma_useArray_119 hsz hP hS) (fun r31 σ30 _ => ?_)
          refine v_iload S d_Ma_useArray_122 rfl ?_
          refine v_iast1 S hKK.1 17 0 (by decide) (fun _ => rfl) rfl d_Ma_useArray_124 (fun h32 => ?_)
          refine v_sg (fun σ33 eσ33 => ?_)
          exact v_vret S hret hlocks d_Ma_useArray_125
        · refine v_tswD S (tgt := 97) d_Ma_useArray_8 (by have nh2 := i32_ne (n := 8) h2 (by decide); have nh11 := i32_ne (n := 10) h11 (by decide); have nh17 := i32_ne (n := 11) h17 (by decide); have nh23 := i32_ne (n := 9) h23 (by decide); omega) (by decide) ?_
          refine v_aload_n S d_Ma_useArray_97 rfl rfl ?_
          refine v_ci (rest := []) (fun _ _ hg H locs ls hsz hP hS => run_V (As := []) (rest := []) S kC_ok hKK (c_Fr_pop l D ca ax b σ i0 hi0 hg) (k_Ma_179 S.2.2.2.2 (fun _ => List.mem_cons_of_mem _) ⟨Nat.le_of_ble_eq_true rfl, Nat.le_of_ble_eq_true rfl⟩) (rc_w hKK.1 hP (19 + 2 * i0) (fr_lt hi0) (ce_fr hi0) rfl) rfl rfl (Nat.zero_le _) d_Ma_useArray_98 hsz hP hS) (fun r25 σ24 _ => ?_)
          refine v_istoreP S d_Ma_useArray_101 (by decide) (L2 := [some (.ref (b + 16)), some (.ref (b + (19 + 2 * i0))), some (.ref (ax 0 o1)), none, some (.int r25)]) rfl ?_
          refine v_aload_n S d_Ma_useArray_103 rfl rfl ?_
          refine v_ci (rest := []) (fun _ _ hg H locs ls hsz hP hS => run_V (As := []) (rest := []) S kC_ok hKK (c_Fr_pop l D ca ax b σ24 i0 hi0 hg) (k_Ma_179 S.2.2.2.2 (fun _ => List.mem_cons_of_mem _) ⟨Nat.le_of_ble_eq_true rfl, Nat.le_of_ble_eq_true rfl⟩) (rc_w hKK.1 hP (19 + 2 * i0) (fr_lt hi0) (ce_fr hi0) rfl) rfl rfl (Nat.zero_le _) d_Ma_useArray_104 hsz hP hS) (fun r27 σ26 _ => ?_)
          refine v_istoreP S d_Ma_useArray_107 (by decide) (L2 := [some (.ref (b + 16)), some (.ref (b + (19 + 2 * i0))), some (.ref (ax 0 o1)), none, some (.int r25), some (.int r27)]) rfl ?_
          refine v_aload_n S d_Ma_useArray_109 rfl rfl ?_
          refine v_get S (fun w h => List.mem_cons_of_mem _ (i_Ma w h)) hKK.1 16 (by decide) rfl rfl 5 (by decide) (S.2.2.2.2 _ (List.mem_cons_of_mem _ (wd_129))) (fun _ h => h) rfl d_Ma_useArray_110 ?_
          refine v_aload_n S d_Ma_useArray_113 rfl rfl ?_
          refine v_ci (rest := [.ref (b + 17)]) (fun _ _ hg H locs ls hsz hP hS => run_V (As := []) (rest := [.ref (b + 17)]) S kC_ok hKK (c_Fr_pop l D ca ax b σ26 i0 hi0 hg) (k_Ma_179 S.2.2.2.2 (fun _ => List.mem_cons_of_mem _) ⟨Nat.le_of_ble_eq_true rfl, Nat.le_of_ble_eq_true rfl⟩) (rc_w hKK.1 hP (19 + 2 * i0) (fr_lt hi0) (ce_fr hi0) rfl) rfl rfl (by simp [Value.category]) d_Ma_useArray_114 hsz hP hS) (fun r29 σ28 _ => ?_)
          refine v_iload S d_Ma_useArray_117 rfl ?_
          refine v_ci (rest := [.ref (b + 17)]) (fun _ _ hg H locs ls hsz hP hS => run_S (As := [.int r29, .int r27]) (rest := [.ref (b + 17)]) S kC_ok hKK (c_Ma_placeOf l D ca ax b σ28 r29 r27 hg) (k_Ma_210 S.2.2.2.2 (fun _ => List.mem_cons_of_mem _) ⟨Nat.le_of_ble_eq_true rfl, Nat.le_of_ble_eq_true rfl⟩) rfl rfl (by simp [Value.category]) d_Ma_useArray_119 hsz hP hS) (fun r31 σ30 _ => ?_)
          refine v_iload S d_Ma_useArray_122 rfl ?_
          refine v_iast1 S hKK.1 17 0 (by decide) (fun _ => rfl) rfl d_Ma_useArray_124 (fun h32 => ?_)
          refine v_sg (fun σ33 eσ33 => ?_)
          exact v_vret S hret hlocks d_Ma_useArray_125
def fn_Ma_enter_18 (i0 : Nat) (a1 : Int32) : Nat → mm_M → Nat → Int32 → Option (mm_M)
  | 0, _, _, _ => none
  | n + 1, σ, l3, l4 =>
    (if l4 < 0 then
    (some σ)
    else
    (bd (fn_Fr_pop σ i0) (fun r9 σ8 =>
    (bv (fn_Fr_setParameter σ8 l3 l4 r9) (fun σ10 =>
    (fn_Ma_enter_18 i0 a1 n σ10 l3 (l4 + (-1 : Int32))))))))
def fn_Ma_enter (σ : mm_M) (i0 : Nat) (a1 : Int32) : Option (mm_M) :=
    (bd (fn_Ma_openFrame σ a1) (fun r2 σ1 =>
    (bd (fn_Co_parametersOf σ1 a1) (fun r5 σ4 =>
    (nm (r5 - (1 : Int32)) (fun x6 =>
    (fn_Ma_enter_18 i0 a1 fuel0 σ4 r2 x6)))))))
set_option maxRecDepth 100000 in
set_option maxHeartbeats 40000000 in
theorem c_Ma_enter (l : Launch) (D : va_G) (ca : Nat → ClassId) (ax : Nat → Nat → Nat) (b : Nat) (σ : mm_M) (i0 : Nat) (a1 : Int32) (hi0 : i0 < 8) {σ' : mm_M} (hf : fn_Ma_enter σ i0 a1 = some σ') : Met l y_Ma_enter w_Ma_enter rm_Ma_enter (pc_w D cls b N_C (ce_C ca b) (kC D ca ax b) [.ref (b + 16), .ref (b + (19 + 2 * i0)), .int a1] σ) (qc_v D cls b N_C (ce_C ca b) σ') 0 0 (mm_A b N_C) := by
  refine vv_go (cc := b_Ma_enter) (maxL := 5) (ret := none) (fin := σ') (k := fn_Ma_enter σ i0 a1) (by decide) rfl (by simp [Value.category]) (Nat.le_of_ble_eq_true rfl) hf ?_
  intro p e s m below meth c hlocks hret S hKK
  have C18 : ∀ (n : Nat) (σ : mm_M) (l3 : Nat) (l4 : Int32) (hl3 : l3 < 8), vv p l e (headSpec w_Ma_enter rm_Ma_enter).room s m [.ref (b + 16), .ref (b + (19 + 2 * i0)), .int a1].toArray below meth c D cls b N_C (ce_C ca b) 5 (MQ below (qc_v D cls b N_C (ce_C ca b) σ') [.ref (b + 16), .ref (b + (19 + 2 * i0)), .int a1].toArray s 0 0 (mm_A b N_C)) σ' (fn_Ma_enter_18 i0 a1 n σ l3 l4) σ 18 [none, some (.ref (b + (19 + 2 * i0))), none, some (.ref (b + (19 + 2 * l3))), some (.int l4)] [] := by
    intro n
    induction n with
    | zero => intro σ l3 l4 hl3 h; cases h
    | succ n ih =>
      intro σ l3 l4 hl3
      show vv p l e (headSpec w_Ma_enter rm_Ma_enter).room s m [.ref (b + 16), .ref (b + (19 + 2 * i0)), .int a1].toArray below meth c D cls b N_C (ce_C ca b) 5 (MQ below (qc_v D cls b N_C (ce_C ca b) σ') [.ref (b + 16), .ref (b + (19 + 2 * i0)), .int a1].toArray s 0 0 (mm_A b N_C)) σ' (        (if l4 < 0 then
        (some σ)
        else
        (bd (fn_Fr_pop σ i0) (fun r9 σ8 =>
        (bv (fn_Fr_setParameter σ8 l3 l4 r9) (fun σ10 =>
        (fn_Ma_enter_18 i0 a1 n σ10 l3 (l4 + (-1 : Int32))))))))) σ 18 [none, some (.ref (b + (19 + 2 * i0))), none, some (.ref (b + (19 + 2 * l3))), some (.int l4)] []
      refine v_iload S d_Ma_enter_18 rfl ?_
      refine v_if_lt S d_Ma_enter_20 (tgt := 39) (by decide) (fun h7 => ?_) (fun h7 => ?_)
      · exact v_vret S hret hlocks d_Ma_enter_39
      · refine v_aload_n S d_Ma_enter_23 rfl rfl ?_
        refine v_iload S d_Ma_enter_24 rfl ?_
        refine v_aload_n S d_Ma_enter_26 rfl rfl ?_
        refine v_ci (rest := [.int l4, .ref (b + (19 + 2 * l3))]) (fun _ _ hg H locs ls hsz hP hS => run_V (As := []) (rest := [.int l4, .ref (b + (19 + 2 * l3))]) S kC_ok hKK (c_Fr_pop l D ca ax b σ i0 hi0 hg) (k_Ma_179 S.2.2.2.2 (fun _ => List.mem_cons_of_mem _) ⟨Nat.le_of_ble_eq_true rfl, Nat.le_of_ble_eq_true rfl⟩) (rc_w hKK.1 hP (19 + 2 * i0) (fr_lt hi0) (ce_fr hi0) rfl) rfl rfl (by simp [Value.category]) d_Ma_enter_27 hsz hP hS) (fun r9 σ8 _ => ?_)
        refine v_cv (rest := []) (fun _ hg H locs ls hsz hP hS => run_V (As := [.int l4, .int r9]) (rest := []) S kC_ok hKK (c_Fr_setParameter l D ca ax b σ8 l3 l4 r9 hl3 hg) (k_Ma_44 S.2.2.2.2 (fun _ => List.mem_cons_of_mem _) ⟨Nat.le_of_ble_eq_true rfl, Nat.le_of_ble_eq_true rfl⟩) (rc_w hKK.1 hP (19 + 2 * l3) (fr_lt hl3) (ce_fr hl3) rfl) rfl rfl (Nat.zero_le _) d_Ma_enter_30 hsz hP hS) (fun σ10 _ => ?_)
        refine v_iinc S d_Ma_enter_33 rfl (v := (l4 + (-1 : Int32))) (by first | rfl | decide) (by decide) (L2 := [none, some (.ref (b + (19 + 2 * i0))), none, some (.ref (b + (19 + 2 * l3))), some (.int (l4 + (-1 : Int32)))]) rfl ?_
        refine v_goto S d_Ma_enter_36 (tgt := 18) (by decide) ?_
        refine v_sub (L2 := [none, some (.ref (b + (19 + 2 * i0))), none, some (.ref (b + (19 + 2 * l3))), some (.int (l4 + (-1 : Int32)))]) (And.intro rfl (And.intro rfl (And.intro rfl True.intro))) ?_
        exact ih σ10 l3 (l4 + (-1 : Int32)) hl3
  unfold fn_Ma_enter
  refine v_aload_n S d_Ma_enter_0 rfl rfl ?_
  refine v_iload_n S d_Ma_enter_1 rfl rfl ?_
  refine v_ca (fun q => b + (19 + 2 * q)) (rest := []) (fun _ _ hg H locs ls hsz hP hS => run_V (As := [.int a1]) (rest := []) S kC_ok hKK (c_Ma_openFrame l D ca ax b σ a1 hg) (k_Ma_36 S.2.2.2.2 (fun _ => List.mem_cons_of_mem _) ⟨Nat.le_of_ble_eq_true rfl, Nat.le_of_ble_eq_true rfl⟩) (rc_w hKK.1 hP 16 (by decide) rfl rfl) rfl rfl (Nat.zero_le _) d_Ma_enter_2 hsz hP hS) (fun r2 σ1 g3 => ?_)
  refine v_astore_nP S d_Ma_enter_5 rfl (by decide) (L2 := [some (.ref (b + 16)), some (.ref (b + (19 + 2 * i0))), some (.int a1), some (.ref (b + (19 + 2 * r2)))]) rfl ?_
  refine v_aload_n S d_Ma_enter_6 rfl rfl ?_
  refine v_get S (fun w h => List.mem_cons_of_mem _ (i_Ma w h)) hKK.1 16 (by decide) rfl rfl 3 (by decide) (S.2.2.2.2 _ (List.mem_cons_of_mem _ (wd_127))) (fun _ h => h) rfl d_Ma_enter_7 ?_
  refine v_iload_n S d_Ma_enter_10 rfl rfl ?_
  refine v_ci (rest := []) (fun _ _ hg H locs ls hsz hP hS => run_V (As := [.int a1]) (rest := []) S kC_ok hKK (c_Co_parametersOf l D ca ax b σ1 a1 hg) (k_Ma_213 S.2.2.2.2 (fun _ => List.mem_cons_of_mem _) ⟨Nat.le_of_ble_eq_true rfl, Nat.le_of_ble_eq_true rfl⟩) (rc_w hKK.1 hP 1 (by decide) rfl rfl) rfl rfl (Nat.zero_le _) d_Ma_enter_11 hsz hP hS) (fun r5 σ4 _ => ?_)
  refine v_iconst S d_Ma_enter_14 (v := (1 : Int32)) (by decide) ?_
  refine v_isub S d_Ma_enter_15 ?_
  refine v_top (fun x6 ex6 => ?_)
  refine v_istoreP S d_Ma_enter_16 (by decide) (L2 := [some (.ref (b + 16)), some (.ref (b + (19 + 2 * i0))), some (.int a1), some (.ref (b + (19 + 2 * r2))), some (.int x6)]) rfl ?_
  refine v_sub (L2 := [none, some (.ref (b + (19 + 2 * i0))), none, some (.ref (b + (19 + 2 * r2))), some (.int x6)]) (And.intro rfl (And.intro rfl (And.intro rfl True.intro))) ?_
  exact C18 fuel0 σ4 r2 x6 (rb_Ma_openFrame g3)
def fn_Ma_leave (σ : mm_M) (i0 : Nat) : Option (mm_M) :=
    (if (σ 16 0) = (1 : Int32) then
    (bd (fn_Ty_slotBelow σ (σ (19 + 2 * i0) 2) (0 : Int32)) (fun r12 σ11 =>
    (bd (fn_Fr_shown σ11 i0 r12) (fun r14 σ13 =>
    (nm (mw σ13 16 2 r14) (fun σ15 =>
    (nm (mw σ15 16 0 (0 : Int32)) (fun σ16 =>
    (some σ16)))))))))
    else
    (nm (mw σ 16 0 ((σ 16 0) - (1 : Int32))) (fun σ2 =>
    (bd (fn_Ma_top σ2) (fun r4 σ3 =>
    (bd (fn_Fr_typeBelow σ3 i0 (0 : Int32)) (fun r7 σ6 =>
    (bd (fn_Fr_below σ6 i0 (0 : Int32)) (fun r9 σ8 =>
    (bv (fn_Fr_push σ8 r4 r7 r9) (fun σ10 =>
    (some σ10))))))))))))
set_option maxRecDepth 100000 in
set_option maxHeartbeats 40000000 in
theorem c_Ma_leave (l : Launch) (D : va_G) (ca : Nat → ClassId) (ax : Nat → Nat → Nat) (b : Nat) (σ : mm_M) (i0 : Nat) (hi0 : i0 < 8) {σ' : mm_M} (hf : fn_Ma_leave σ i0 = some σ') : Met l y_Ma_leave w_Ma_leave rm_Ma_leave (pc_w D cls b N_C (ce_C ca b) (kC D ca ax b) [.ref (b + 16), .ref (b + (19 + 2 * i0))] σ) (qc_v D cls b N_C (ce_C ca b) σ') 0 0 (mm_A b N_C) := by
  refine vv_go (cc := b_Ma_leave) (maxL := 2) (ret := none) (fin := σ') (k := fn_Ma_leave σ i0) (by decide) rfl (by simp [Value.category]) (Nat.le_of_ble_eq_true rfl) hf ?_
  intro p e s m below meth c hlocks hret S hKK
  unfold fn_Ma_leave
  refine v_aload_n S d_Ma_leave_0 rfl rfl ?_
  refine v_get S (fun w h => List.mem_cons_of_mem _ (i_Ma w h)) hKK.1 16 (by decide) rfl rfl 0 (by decide) (S.2.2.2.2 _ (List.mem_cons_of_mem _ (wd_121))) (fun _ h => h) rfl d_Ma_leave_1 ?_
  refine v_iconst S d_Ma_leave_4 (v := (1 : Int32)) (by decide) ?_
  refine v_icmp_ne S d_Ma_leave_5 (tgt := 30) (by decide) (fun h1 => ?_) (fun h1 => ?_)
  · refine v_aload_n S d_Ma_leave_30 rfl rfl ?_
    refine v_dup S d_Ma_leave_31 rfl ?_
    refine v_get S (fun w h => List.mem_cons_of_mem _ (i_Ma w h)) hKK.1 16 (by decide) rfl rfl 0 (by decide) (S.2.2.2.2 _ (List.mem_cons_of_mem _ (wd_121))) (fun _ h => h) rfl d_Ma_leave_32 ?_
    refine v_iconst S d_Ma_leave_35 (v := (1 : Int32)) (by decide) ?_
    refine v_isub S d_Ma_leave_36 ?_
    refine v_puti S (fun w h => List.mem_cons_of_mem _ (i_Ma w h)) hKK.1 16 (by decide) rfl rfl 0 (by decide) (S.2.2.2.2 _ (List.mem_cons_of_mem _ (wd_121))) (fun _ h => h) t_Ma t_Ma_ok n_Ma rfl (ty := .int) rfl rfl rfl (Nat.le_of_ble_eq_true rfl) rfl d_Ma_leave_37 ?_
    refine v_sg (fun σ2 eσ2 => ?_)
    refine v_aload_n S d_Ma_leave_40 rfl rfl ?_
    refine v_ca (fun q => b + (19 + 2 * q)) (rest := []) (fun _ _ hg H locs ls hsz hP hS => run_V (As := []) (rest := []) S kC_ok hKK (c_Ma_top l D ca ax b σ2 hg) (k_Ma_48 S.2.2.2.2 (fun _ => List.mem_cons_of_mem _) ⟨Nat.le_of_ble_eq_true rfl, Nat.le_of_ble_eq_true rfl⟩) (rc_w hKK.1 hP 16 (by decide) rfl rfl) rfl rfl (Nat.zero_le _) d_Ma_leave_41 hsz hP hS) (fun r4 σ3 g5 => ?_)
    refine v_aload_n S d_Ma_leave_44 rfl rfl ?_
    refine v_iconst S d_Ma_leave_45 (v := (0 : Int32)) (by decide) ?_
    refine v_ci (rest := [.ref (b + (19 + 2 * r4))]) (fun _ _ hg H locs ls hsz hP hS => run_V (As := [.int (0 : Int32)]) (rest := [.ref (b + (19 + 2 * r4))]) S kC_ok hKK (c_Fr_typeBelow l D ca ax b σ3 i0 (0 : Int32) hi0 hg) (k_Ma_222 S.2.2.2.2 (fun _ => List.mem_cons_of_mem _) ⟨Nat.le_of_ble_eq_true rfl, Nat.le_of_ble_eq_true rfl⟩) (rc_w hKK.1 hP (19 + 2 * i0) (fr_lt hi0) (ce_fr hi0) rfl) rfl rfl (by simp [Value.category]) d_Ma_leave_46 hsz hP hS) (fun r7 σ6 _ => ?_)
    refine v_aload_n S d_Ma_leave_49 rfl rfl ?_
    refine v_iconst S d_Ma_leave_50 (v := (0 : Int32)) (by decide) ?_
    refine v_ci (rest := [.int r7, .ref (b + (19 + 2 * r4))]) (fun _ _ hg H locs ls hsz hP hS => run_V (As := [.int (0 : Int32)]) (rest := [.int r7, .ref (b + (19 + 2 * r4))]) S kC_ok hKK (c_Fr_below l D ca ax b σ6 i0 (0 : Int32) hi0 hg) (k_Ma_130 S.2.2.2.2 (fun _ => List.mem_cons_of_mem _) ⟨Nat.le_of_ble_eq_true rfl, Nat.le_of_ble_eq_true rfl⟩) (rc_w hKK.1 hP (19 + 2 * i0) (fr_lt hi0) (ce_fr hi0) rfl) rfl rfl (by simp [Value.category]) d_Ma_leave_51 hsz hP hS) (fun r9 σ8 _ => ?_)
    refine v_cv (rest := []) (fun _ hg H locs ls hsz hP hS => run_V (As := [.int r7, .int r9]) (rest := []) S kC_ok hKK (c_Fr_push l D ca ax b σ8 r4 r7 r9 (rb_Ma_top g5) hg) (k_Ma_204 S.2.2.2.2 (fun _ => List.mem_cons_of_mem _) ⟨Nat.le_of_ble_eq_true rfl, Nat.le_of_ble_eq_true rfl⟩) (rc_w hKK.1 hP (19 + 2 * r4) (fr_lt (rb_Ma_top g5)) (ce_fr (rb_Ma_top g5)) rfl) rfl rfl (Nat.zero_le _) d_Ma_leave_54 hsz hP hS) (fun σ10 _ => ?_)
    exact v_vret S hret hlocks d_Ma_leave_57
  · refine v_aload_n S d_Ma_leave_8 rfl rfl ?_
    refine v_aload_n S d_Ma_leave_9 rfl rfl ?_
    refine v_aload_n S d_Ma_leave_10 rfl rfl ?_
    refine v_get S (fun w h => List.mem_cons_of_mem _ (i_Fr w h)) hKK.1 (19 + 2 * i0) (fr_lt hi0) (ce_fr hi0) rfl 2 (by decide) (S.2.2.2.2 _ (List.mem_cons_of_mem _ (wd_109))) (fun _ h => h) rfl d_Ma_leave_11 ?_
    refine v_iconst S d_Ma_leave_14 (v := (0 : Int32)) (by decide) ?_
    refine v_ci (rest := [.ref (b + (19 + 2 * i0)), .ref (b + 16)]) (fun _ _ hg H locs ls hsz hP hS => run_S (As := [.int (σ (19 + 2 * i0) 2), .int (0 : Int32)]) (rest := [.ref (b + (19 + 2 * i0)), .ref (b + 16)]) S kC_ok hKK (c_Ty_slotBelow l D ca ax b σ (σ (19 + 2 * i0) 2) (0 : Int32) hg) (k_Ma_216 S.2.2.2.2 (fun _ => List.mem_cons_of_mem _) ⟨Nat.le_of_ble_eq_true rfl, Nat.le_of_ble_eq_true rfl⟩) rfl rfl (by simp [Value.category]) d_Ma_leave_15 hsz hP hS) (fun r12 σ11 _ => ?_)
    refine v_ci (rest := [.ref (b + 16)]) (fun _ _ hg H locs ls hsz hP hS => run_V (As := [.int r12]) (rest := [.ref (b + 16)]) S kC_ok hKK (c_Fr_shown l D ca ax b σ11 i0 r12 hi0 hg) (k_Ma_219 S.2.2.2.2 (fun _ => List.mem_cons_of_mem _) ⟨Nat.le_of_ble_eq_true rfl, Nat.le_of_ble_eq_true rfl⟩) (rc_w hKK.1 hP (19 + 2 * i0) (fr_lt hi0) (ce_fr hi0) rfl) rfl rfl (by simp [Value.category]) d_Ma_leave_18 hsz hP hS) (fun r14 σ13 _ => ?_)
    refine v_puti S (fun w h => List.mem_cons_of_mem _ (i_Ma w h)) hKK.1 16 (by decide) rfl rfl 2 (by decide) (S.2.2.2.2 _ (List.mem_cons_of_mem _ (wd_125))) (fun _ h => h) t_Ma t_Ma_ok n_Ma rfl (ty := .int) rfl rfl rfl (Nat.le_of_ble_eq_true rfl) rfl d_Ma_leave_21 ?_
    refine v_sg (fun σ15 eσ15 => ?_)
    refine v_aload_n S d_Ma_leave_24 rfl rfl ?_
    refine v_iconst S d_Ma_leave_25 (v := (0 : Int32)) (by decide) ?_
    refine v_puti S (fun w h => List.mem_cons_of_mem _ (i_Ma w h)) hKK.1 16 (by decide) rfl rfl 0 (by decide) (S.2.2.2.2 _ (List.mem_cons_of_mem _ (wd_121))) (fun _ h => h) t_Ma t_Ma_ok n_Ma rfl (ty := .int) rfl rfl rfl (Nat.le_of_ble_eq_true rfl) rfl d_Ma_leave_26 ?_
    refine v_sg (fun σ16 eσ16 => ?_)
    exact v_vret S hret hlocks d_Ma_leave_29
def fn_Ma_move (σ : mm_M) (i0 : Nat) (o1 : Nat) (a2 : Int32) : Option (mm_M) :=
    (if ((nI o1) < 0 ∨ 20 ≤ (nI o1).toNatClampNeg) then none else
    (if (sw_op (nI o1).toNatClampNeg) = (1 : Int32) then
    (bv (fn_Fr_load σ i0 a2) (fun σ3 =>
    (some σ3)))
    else
    (if (sw_op (nI o1).toNatClampNeg) = (2 : Int32) then
    (bv (fn_Fr_store σ i0 a2) (fun σ5 =>
    (some σ5)))
    else
    (if (sw_op (nI o1).toNatClampNeg) = (3 : Int32) then
    (bd (fn_Fr_typeBelow σ i0 (0 : Int32)) (fun r8 σ7 =>
    (bd (fn_Fr_below σ7 i0 (0 : Int32)) (fun r10 σ9 =>
    (bv (fn_Fr_push σ9 i0 r8 r10) (fun σ11 =>
    (some σ11)))))))
    else
    (if (sw_op (nI o1).toNatClampNeg) = (4 : Int32) then
    (bv (fn_Fr_exchange σ i0) (fun σ13 =>
    (some σ13)))
    else
    (if (sw_op (nI o1).toNatClampNeg) = (15 : Int32) then
    (bv (fn_Fr_push σ i0 (1 : Int32) a2) (fun σ15 =>
    (some σ15)))
    else
    (if (sw_op (nI o1).toNatClampNeg) = (16 : Int32) then
    (bv (fn_Fr_push σ i0 (2 : Int32) (0 : Int32)) (fun σ17 =>
    (some σ17)))
    else
    (bd (fn_Fr_pop σ i0) (fun r29 σ28 =>
    (some σ28))))))))))
set_option maxRecDepth 100000 in
set_option maxHeartbeats 40000000 in
theorem c_Ma_move (l : Launch) (D : va_G) (ca : Nat → ClassId) (ax : Nat → Nat → Nat) (b : Nat) (σ : mm_M) (i0 : Nat) (o1 : Nat) (a2 : Int32) (hi0 : i0 < 8) (ho1 : o1 < 20) {σ' : mm_M} (hf : fn_Ma_move σ i0 o1 a2 = some σ') : Met l y_Ma_move w_Ma_move rm_Ma_move (pc_w D cls b N_C (ce_C ca b) (kC D ca ax b) [.ref (b + (19 + 2 * i0)), .ref (ax 0 o1), .int a2] σ) (qc_v D cls b N_C (ce_C ca b) σ') 0 0 (mm_A b N_C) := by
  refine vv_go (cc := b_Ma_move) (maxL := 3) (ret := none) (fin := σ') (k := fn_Ma_move σ i0 o1 a2) (by decide) rfl (by simp [Value.category]) (Nat.le_of_ble_eq_true rfl) hf ?_
  intro p e s m below meth c hlocks hret S hKK
  unfold fn_Ma_move
  refine v_gets S (kc_zOp hKK) (S.2.2.2.2 _ (List.mem_cons_of_mem _ (wd_538))) (fun _ h => h) d_Ma_move_0 ?_
  refine v_aload_n S d_Ma_move_3 rfl rfl ?_
  refine v_ordO (rest := [.ref (ax 3 0)]) S hKK ho1 (k_Ma_126 S.2.2.2.2 (fun _ => List.mem_cons_of_mem _) ⟨Nat.le_of_ble_eq_true rfl, Nat.le_of_ble_eq_true rfl⟩) (by simp [Value.category]) d_Ma_move_4 ?_
  refine v_ti0 S (kc_swOp hKK) d_Ma_move_7 (fun h1 => ?_)
  refine v_tsw S (1 : Int32) (tgt := 106) d_Ma_move_8 (by decide) (by decide) (off := 98) rfl (by decide) (fun h2 => ?_) (fun h2 => ?_)
  · refine v_aload_n S d_Ma_move_106 rfl rfl ?_
    refine v_iload_n S d_Ma_move_107 rfl rfl ?_
    refine v_cv (rest := []) (fun _ hg H locs ls hsz hP hS => run_V (As := [.int a2]) (rest := []) S kC_ok hKK (c_Fr_load l D ca ax b σ i0 a2 hi0 hg) (k_Ma_225 S.2.2.2.2 (fun _ => List.mem_cons_of_mem _) ⟨Nat.le_of_ble_eq_true rfl, Nat.le_of_ble_eq_true rfl⟩) (rc_w hKK.1 hP (19 + 2 * i0) (fr_lt hi0) (ce_fr hi0) rfl) rfl rfl (Nat.zero_le _) d_Ma_move_108 hsz hP hS) (fun σ3 _ => ?_)
    refine v_goto S d_Ma_move_111 (tgt := 151) (by decide) ?_
    exact v_vret S hret hlocks d_Ma_move_151
  · refine v_tsw S (2 : Int32) (tgt := 114) d_Ma_move_8 (by decide) (by decide) (off := 106) rfl (by decide) (fun h4 => ?_) (fun h4 => ?_)
    · refine v_aload_n S d_Ma_move_114 rfl rfl ?_
      refine v_iload_n S d_Ma_move_115 rfl rfl ?_
      refine v_cv (rest := []) (fun _ hg H locs ls hsz hP hS => run_V (As := [.int a2]) (rest := []) S kC_ok hKK (c_Fr_store l D ca ax b σ i0 a2 hi0 hg) (k_Ma_229 S.2.2.2.2 (fun _ => List.mem_cons_of_mem _) ⟨Nat.le_of_ble_eq_true rfl, Nat.le_of_ble_eq_true rfl⟩) (rc_w hKK.1 hP (19 + 2 * i0) (fr_lt hi0) (ce_fr hi0) rfl) rfl rfl (Nat.zero_le _) d_Ma_move_116 hsz hP hS) (fun σ5 _ => ?_)
      refine v_goto S d_Ma_move_119 (tgt := 151) (by decide) ?_
      exact v_vret S hret hlocks d_Ma_move_151
    · refine v_tsw S (3 : Int32) (tgt := 122) d_Ma_move_8 (by decide) (by decide) (off := 114) rfl (by decide) (fun h6 => ?_) (fun h6 => ?_)
      · refine v_aload_n S d_Ma_move_122 rfl rfl ?_
        refine v_aload_n S d_Ma_move_123 rfl rfl ?_
        refine v_iconst S d_Ma_move_124 (v := (0 : Int32)) (by decide) ?_
        refine v_ci (rest := [.ref (b + (19 + 2 * i0))]) (fun _ _ hg H locs ls hsz hP hS => run_V (As := [.int (0 : Int32)]) (rest := [.ref (b + (19 + 2 * i0))]) S kC_ok hKK (c_Fr_typeBelow l D ca ax b σ i0 (0 : Int32) hi0 hg) (k_Ma_222 S.2.2.2.2 (fun _ => List.mem_cons_of_mem _) ⟨Nat.le_of_ble_eq_true rfl, Nat.le_of_ble_eq_true rfl⟩) (rc_w hKK.1 hP (19 + 2 * i0) (fr_lt hi0) (ce_fr hi0) rfl) rfl rfl (by simp [Value.category]) d_Ma_move_125 hsz hP hS) (fun r8 σ7 _ => ?_)
        refine v_aload_n S d_Ma_move_128 rfl rfl ?_
        refine v_iconst S d_Ma_move_129 (v := (0 : Int32)) (by decide) ?_
        refine v_ci (rest := [.int r8, .ref (b + (19 + 2 * i0))]) (fun _ _ hg H locs ls hsz hP hS => run_V (As := [.int (0 : Int32)]) (rest := [.int r8, .ref (b + (19 + 2 * i0))]) S kC_ok hKK (c_Fr_below l D ca ax b σ7 i0 (0 : Int32) hi0 hg) (k_Ma_130 S.2.2.2.2 (fun _ => List.mem_cons_of_mem _) ⟨Nat.le_of_ble_eq_true rfl, Nat.le_of_ble_eq_true rfl⟩) (rc_w hKK.1 hP (19 + 2 * i0) (fr_lt hi0) (ce_fr hi0) rfl) rfl rfl (by simp [Value.category]) d_Ma_move_130 hsz hP hS) (fun r10 σ9 _ => ?_)
        refine v_cv (rest := []) (fun _ hg H locs ls hsz hP hS => run_V (As := [.int r8, .int r10]) (rest := []) S kC_ok hKK (c_Fr_push l D ca ax b σ9 i0 r8 r10 hi0 hg) (k_Ma_204 S.2.2.2.2 (fun _ => List.mem_cons_of_mem _) ⟨Nat.le_of_ble_eq_true rfl, Nat.le_of_ble_eq_true rfl⟩) (rc_w hKK.1 hP (19 + 2 * i0) (fr_lt hi0) (ce_fr hi0) rfl) rfl rfl (Nat.zero_le _) d_Ma_move_133 hsz hP hS) (fun σ11 _ => ?_)
        refine v_goto S d_Ma_move_136 (tgt := 151) (by decide) ?_
        exact v_vret S hret hlocks d_Ma_move_151
      · refine v_tsw S (4 : Int32) (tgt := 139) d_Ma_move_8 (by decide) (by decide) (off := 131) rfl (by decide) (fun h12 => ?_) (fun h12 => ?_)
        · refine v_aload_n S d_Ma_move_139 rfl rfl ?_
          refine v_cv (rest := []) (fun _ hg H locs ls hsz hP hS => run_V (As := []) (rest := []) S kC_ok hKK (c_Fr_exchange l D ca ax b σ i0 hi0 hg) (k_Ma_232 S.2.2.2.2 (fun _ => List.mem_cons_of_mem _) ⟨Nat.le_of_ble_eq_true rfl, Nat.le_of_ble_eq_true rfl⟩) (rc_w hKK.1 hP (19 + 2 * i0) (fr_lt hi0) (ce_fr hi0) rfl) rfl rfl (Nat.zero_le _) d_Ma_move_140 hsz hP hS) (fun σ13 _ => ?_)
          refine v_goto S d_Ma_move_143 (tgt := 151) (by decide) ?_
          exact v_vret S hret hlocks d_Ma_move_151
        · refine v_tsw S (15 : Int32) (tgt := 88) d_Ma_move_8 (by decide) (by decide) (off := 80) rfl (by decide) (fun h14 => ?_) (fun h14 => ?_)
          · refine v_aload_n S d_Ma_move_88 rfl rfl ?_
            refine v_iconst S d_Ma_move_89 (v := (1 : Int32)) (by decide) ?_
            refine v_iload_n S d_Ma_move_90 rfl rfl ?_
            refine v_cv (rest := []) (fun _ hg H locs ls hsz hP hS => run_V (As := [.int (1 : Int32), .int a2]) (rest := []) S kC_ok hKK (c_Fr_push l D ca ax b σ i0 (1 : Int32) a2 hi0 hg) (k_Ma_204 S.2.2.2.2 (fun _ => List.mem_cons_of_mem _) ⟨Nat.le_of_ble_eq_true rfl, Nat.le_of_ble_eq_true rfl⟩) (rc_w hKK.1 hP (19 + 2 * i0) (fr_lt hi0) (ce_fr hi0) rfl) rfl rfl (Nat.zero_le _) d_Ma_move_91 hsz hP hS) (fun σ15 _ => ?_)
            refine v_goto S d_Ma_move_94 (tgt := 151) (by decide) ?_
            exact v_vret S hret hlocks d_Ma_move_151
          · refine v_tsw S (16 : Int32) (tgt := 97) d_Ma_move_8 (by decide) (by decide) (off := 89) rfl (by decide) (fun h16 => ?_) (fun h16 => ?_)
            · refine v_aload_n S d_Ma_move_97 rfl rfl ?_
              refine v_iconst S d_Ma_move_98 (v := (2 : Int32)) (by decide) ?_
              refine v_iconst S d_Ma_move_99 (v := (0 : Int32)) (by decide) ?_
              refine v_cv (rest := []) (fun _ hg H locs ls hsz hP hS => run_V (As := [.int (2 : Int32), .int (0 : Int32)]) (rest := []) S kC_ok hKK (c_Fr_push l D ca ax b σ i0 (2 : Int32) (0 : Int32) hi0 hg) (k_Ma_204 S.2.2.2.2 (fun _ => List.mem_cons_of_mem _) ⟨Nat.le_of_ble_eq_true rfl, Nat.le_of_ble_eq_true rfl⟩) (rc_w hKK.1 hP (19 + 2 * i0) (fr_lt hi0) (ce_fr hi0) rfl) rfl rfl (Nat.zero_le _) d_Ma_move_100 hsz hP hS) (fun σ17 _ => ?_)
              refine v_goto S d_Ma_move_103 (tgt := 151) (by decide) ?_
              exact v_vret S hret hlocks d_Ma_move_151
            · refine v_tswQ S (5 : Int32) (tgt := 146) d_Ma_move_8 (by decide) (by decide) (off := 138) rfl (by decide) ?_ (fun h18 => ?_)
              · refine v_aload_n S d_Ma_move_146 rfl rfl ?_
                refine v_ci (rest := []) (fun _ _ hg H locs ls hsz hP hS => run_V (As := []) (rest := []) S kC_ok hKK (c_Fr_pop l D ca ax b σ i0 hi0 hg) (k_Ma_179 S.2.2.2.2 (fun _ => List.mem_cons_of_mem _) ⟨Nat.le_of_ble_eq_true rfl, Nat.le_of_ble_eq_true rfl⟩) (rc_w hKK.1 hP (19 + 2 * i0) (fr_lt hi0) (ce_fr hi0) rfl) rfl rfl (Nat.zero_le _) d_Ma_move_147 hsz hP hS) (fun r29 σ28 _ => ?_)
                refine v_pop S d_Ma_move_150 rfl ?_
                exact v_vret S hret hlocks d_Ma_move_151
              · refine v_tswQ S (6 : Int32) (tgt := 146) d_Ma_move_8 (by decide) (by decide) (off := 138) rfl (by decide) ?_ (fun h19 => ?_)
                · refine v_aload_n S d_Ma_move_146 rfl rfl ?_
                  refine v_ci (rest := []) (fun _ _ hg H locs ls hsz hP hS => run_V (As := []) (rest := []) S kC_ok hKK (c_Fr_pop l D ca ax b σ i0 hi0 hg) (k_Ma_179 S.2.2.2.2 (fun _ => List.mem_cons_of_mem _) ⟨Nat.le_of_ble_eq_true rfl, Nat.le_of_ble_eq_true rfl⟩) (rc_w hKK.1 hP (19 + 2 * i0) (fr_lt hi0) (ce_fr hi0) rfl) rfl rfl (Nat.zero_le _) d_Ma_move_147 hsz hP hS) (fun r29 σ28 _ => ?_)
                  refine v_pop S d_Ma_move_150 rfl ?_
                  exact v_vret S hret hlocks d_Ma_move_151
                · refine v_tswQ S (7 : Int32) (tgt := 146) d_Ma_move_8 (by decide) (by decide) (off := 138) rfl (by decide) ?_ (fun h20 => ?_)
                  · refine v_aload_n S d_Ma_move_146 rfl rfl ?_
                    refine v_ci (rest := []) (fun _ _ hg H locs ls hsz hP hS => run_V (As := []) (rest := []) S kC_ok hKK (c_Fr_pop l D ca ax b σ i0 hi0 hg) (k_Ma_179 S.2.2.2.2 (fun _ => List.mem_cons_of_mem _) ⟨Nat.le_of_ble_eq_true rfl, Nat.le_of_ble_eq_true rfl⟩) (rc_w hKK.1 hP (19 + 2 * i0) (fr_lt hi0) (ce_fr hi0) rfl) rfl rfl (Nat.zero_le _) d_Ma_move_147 hsz hP hS) (fun r29 σ28 _ => ?_)
                    refine v_pop S d_Ma_move_150 rfl ?_
                    exact v_vret S hret hlocks d_Ma_move_151
                  · refine v_tswQ S (8 : Int32) (tgt := 146) d_Ma_move_8 (by decide) (by decide) (off := 138) rfl (by decide) ?_ (fun h21 => ?_)
                    · refine v_aload_n S d_Ma_move_146 rfl rfl ?_
                      refine v_ci (rest := []) (fun _ _ hg H locs ls hsz hP hS => run_V (As := []) (rest := []) S kC_ok hKK (c_Fr_pop l D ca ax b σ i0 hi0 hg) (k_Ma_179 S.2.2.2.2 (fun _ => List.mem_cons_of_mem _) ⟨Nat.le_of_ble_eq_true rfl, Nat.le_of_ble_eq_true rfl⟩) (rc_w hKK.1 hP (19 + 2 * i0) (fr_lt hi0) (ce_fr hi0) rfl) rfl rfl (Nat.zero_le _) d_Ma_move_147 hsz hP hS) (fun r29 σ28 _ => ?_)
                      refine v_pop S d_Ma_move_150 rfl ?_
                      exact v_vret S hret hlocks d_Ma_move_151
                    · refine v_tswQ S (9 : Int32) (tgt := 146) d_Ma_move_8 (by decide) (by decide) (off := 138) rfl (by decide) ?_ (fun h22 => ?_)
                      · refine v_aload_n S d_Ma_move_146 rfl rfl ?_
                        refine v_ci (rest := []) (fun _ _ hg H locs ls hsz hP hS => run_V (As := []) (rest := []) S kC_ok hKK (c_Fr_pop l D ca ax b σ i0 hi0 hg) (k_Ma_179 S.2.2.2.2 (fun _ => List.mem_cons_of_mem _) ⟨Nat.le_of_ble_eq_true rfl, Nat.le_of_ble_eq_true rfl⟩) (rc_w hKK.1 hP (19 + 2 * i0) (fr_lt hi0) (ce_fr hi0) rfl) rfl rfl (Nat.zero_le _) d_Ma_move_147 hsz hP hS) (fun r29 σ28 _ => ?_)
                        refine v_pop S d_Ma_move_150 rfl ?_
                        exact v_vret S hret hlocks d_Ma_move_151
                      · refine v_tswQ S (10 : Int32) (tgt := 146) d_Ma_move_8 (by decide) (by decide) (off := 138) rfl (by decide) ?_ (fun h23 => ?_)
                        · refine v_aload_n S d_Ma_move_146 rfl rfl ?_
                          refine v_ci (rest := []) (fun _ _ hg H locs ls hsz hP hS => run_V (As := []) (rest := []) S kC_ok hKK (c_Fr_pop l D ca ax b σ i0 hi0 hg) (k_Ma_179 S.2.2.2.2 (fun _ => List.mem_cons_of_mem _) ⟨Nat.le_of_ble_eq_true rfl, Nat.le_of_ble_eq_true rfl⟩) (rc_w hKK.1 hP (19 + 2 * i0) (fr_lt hi0) (ce_fr hi0) rfl) rfl rfl (Nat.zero_le _) d_Ma_move_147 hsz hP hS) (fun r29 σ28 _ => ?_)
                          refine v_pop S d_Ma_move_150 rfl ?_
                          exact v_vret S hret hlocks d_Ma_move_151
                        · refine v_tswQ S (11 : Int32) (tgt := 146) d_Ma_move_8 (by decide) (by decide) (off := 138) rfl (by decide) ?_ (fun h24 => ?_)
                          · refine v_aload_n S d_Ma_move_146 rfl rfl ?_
                            refine v_ci (rest := []) (fun _ _ hg H locs ls hsz hP hS => run_V (As := []) (rest := []) S kC_ok hKK (c_Fr_pop l D ca ax b σ i0 hi0 hg) (k_Ma_179 S.2.2.2.2 (fun _ => List.mem_cons_of_mem _) ⟨Nat.le_of_ble_eq_true rfl, Nat.le_of_ble_eq_true rfl⟩) (rc_w hKK.1 hP (19 + 2 * i0) (fr_lt hi0) (ce_fr hi0) rfl) rfl rfl (Nat.zero_le _) d_Ma_move_147 hsz hP hS) (fun r29 σ28 _ => ?_)
                            refine v_pop S d_Ma_move_150 rfl ?_
                            exact v_vret S hret hlocks d_Ma_move_151
                          · refine v_tswQ S (12 : Int32) (tgt := 146) d_Ma_move_8 (by decide) (by decide) (off := 138) rfl (by decide) ?_ (fun h25 => ?_)
                            · refine v_aload_n S d_Ma_move_146 rfl rfl ?_
                              refine v_ci (rest := []) (fun _ _ hg H locs ls hsz hP hS => run_V (As := []) (rest := []) S kC_ok hKK (c_Fr_pop l D ca ax b σ i0 hi0 hg) (k_Ma_179 S.2.2.2.2 (fun _ => List.mem_cons_of_mem _) ⟨Nat.le_of_ble_eq_true rfl, Nat.le_of_ble_eq_true rfl⟩) (rc_w hKK.1 hP (19 + 2 * i0) (fr_lt hi0) (ce_fr hi0) rfl) rfl rfl (Nat.zero_le _) d_Ma_move_147 hsz hP hS) (fun r29 σ28 _ => ?_)
                              refine v_pop S d_Ma_move_150 rfl ?_
                              exact v_vret S hret hlocks d_Ma_move_151
                            · refine v_tswQ S (13 : Int32) (tgt := 146) d_Ma_move_8 (by decide) (by decide) (off := 138) rfl (by decide) ?_ (fun h26 => ?_)
                              · refine v_aload_n S d_Ma_move_146 rfl rfl ?_
                                refine v_ci (rest := []) (fun _ _ hg H locs ls hsz hP hS => run_V (As := []) (rest := []) S kC_ok hKK (c_Fr_pop l D ca ax b σ i0 hi0 hg) (k_Ma_179 S.2.2.2.2 (fun _ => List.mem_cons_of_mem _) ⟨Nat.le_of_ble_eq_true rfl, Nat.le_of_ble_eq_true rfl⟩) (rc_w hKK.1 hP (19 + 2 * i0) (fr_lt hi0) (ce_fr hi0) rfl) rfl rfl (Nat.zero_le _) d_Ma_move_147 hsz hP hS) (fun r29 σ28 _ => ?_)
                                refine v_pop S d_Ma_move_150 rfl ?_
                                exact v_vret S hret hlocks d_Ma_move_151
                              · refine v_tswQ S (14 : Int32) (tgt := 146) d_Ma_move_8 (by decide) (by decide) (off := 138) rfl (by decide) ?_ (fun h27 => ?_)
                                · refine v_aload_n S d_Ma_move_146 rfl rfl ?_
                                  refine v_ci (rest := []) (fun _ _ hg H locs ls hsz hP hS => run_V (As := []) (rest := []) S kC_ok hKK (c_Fr_pop l D ca ax b σ i0 hi0 hg) (k_Ma_179 S.2.2.2.2 (fun _ => List.mem_cons_of_mem _) ⟨Nat.le_of_ble_eq_true rfl, Nat.le_of_ble_eq_true rfl⟩) (rc_w hKK.1 hP (19 + 2 * i0) (fr_lt hi0) (ce_fr hi0) rfl) rfl rfl (Nat.zero_le _) d_Ma_move_147 hsz hP hS) (fun r29 σ28 _ => ?_)
                                  refine v_pop S d_Ma_move_150 rfl ?_
                                  exact v_vret S hret hlocks d_Ma_move_151
                                · refine v_tswD S (tgt := 146) d_Ma_move_8 (by have nh2 := i32_ne (n := 1) h2 (by decide); have nh4 := i32_ne (n := 2) h4 (by decide); have nh6 := i32_ne (n := 3) h6 (by decide); have nh12 := i32_ne (n := 4) h12 (by decide); have nh14 := i32_ne (n := 15) h14 (by decide); have nh16 := i32_ne (n := 16) h16 (by decide); have nh18 := i32_ne (n := 5) h18 (by decide); have nh19 := i32_ne (n := 6) h19 (by decide); have nh20 := i32_ne (n := 7) h20 (by decide); have nh21 := i32_ne (n := 8) h21 (by decide); have nh22 := i32_ne (n := 9) h22 (by decide); have nh23 := i32_ne (n := 10) h23 (by decide); have nh24 := i32_ne (n := 11) h24 (by decide); have nh25 := i32_ne (n := 12) h25 (by decide); have nh26 := i32_ne (n := 13) h26 (by decide); have nh27 := i32_ne (n := 14) h27 (by decide); omega) (by decide) ?_
                                  refine v_aload_n S d_Ma_move_146 rfl rfl ?_
                                  refine v_ci (rest := []) (fun _ _ hg H locs ls hsz hP hS => run_V (As := []) (rest := []) S kC_ok hKK (c_Fr_pop l D ca ax b σ i0 hi0 hg) (k_Ma_179 S.2.2.2.2 (fun _ => List.mem_cons_of_mem _) ⟨Nat.le_of_ble_eq_true rfl, Nat.le_of_ble_eq_true rfl⟩) (rc_w hKK.1 hP (19 + 2 * i0) (fr_lt hi0) (ce_fr hi0) rfl) rfl rfl (Nat.zero_le _) d_Ma_move_147 hsz hP hS) (fun r29 σ28 _ => ?_)
                                  refine v_pop S d_Ma_move_150 rfl ?_
                                  exact v_vret S hret hlocks d_Ma_move_151
def fn_Ma_act (σ : mm_M) (i0 : Nat) (o1 : Nat) (a2 : Int32) : Option (mm_M) :=
    (if ((nI o1) < 0 ∨ 20 ≤ (nI o1).toNatClampNeg) then none else
    (if (sw_op (nI o1).toNatClampNeg) = (5 : Int32) then
    (bv (fn_Ma_enter σ i0 a2) (fun σ3 =>
    (some σ3)))
    else
    (if (sw_op (nI o1).toNatClampNeg) = (6 : Int32) then
    (bv (fn_Ma_leave σ i0) (fun σ5 =>
    (some σ5)))
    else
    (if (sw_op (nI o1).toNatClampNeg) = (7 : Int32) then
    (bv (fn_Ma_reckon σ i0 o1) (fun σ7 =>
    (some σ7)))
    else
    (if (sw_op (nI o1).toNatClampNeg) = (8 : Int32) then
    (bv (fn_Ma_useArray σ i0 o1) (fun σ9 =>
    (some σ9)))
    else
    (if (sw_op (nI o1).toNatClampNeg) = (9 : Int32) then
    (bv (fn_Ma_useArray σ i0 o1) (fun σ11 =>
    (some σ11)))
    else
    (if (sw_op (nI o1).toNatClampNeg) = (10 : Int32) then
    (bv (fn_Ma_useArray σ i0 o1) (fun σ13 =>
    (some σ13)))
    else
    (if (sw_op (nI o1).toNatClampNeg) = (11 : Int32) then
    (bv (fn_Ma_useArray σ i0 o1) (fun σ15 =>
    (some σ15)))
    else
    (if (sw_op (nI o1).toNatClampNeg) = (12 : Int32) then
    (bv (fn_Ma_reckon σ i0 o1) (fun σ17 =>
    (some σ17)))
    else
    (if (sw_op (nI o1).toNatClampNeg) = (13 : Int32) then
    (bv (fn_Ma_reckon σ i0 o1) (fun σ19 =>
    (some σ19)))
    else
    (if (sw_op (nI o1).toNatClampNeg) = (14 : Int32) then
    (bv (fn_Ma_reckon σ i0 o1) (fun σ21 =>
    (some σ21)))
    else
    (bv (fn_Ma_move σ i0 o1 a2) (fun σ22 =>
    (some σ22))))))))))))))
set_option maxRecDepth 100000 in
set_option maxHeartbeats 40000000 in
theorem c_Ma_act (l : Launch) (D : va_G) (ca : Nat → ClassId) (ax : Nat → Nat → Nat) (b : Nat) (σ : mm_M) (i0 : Nat) (o1 : Nat) (a2 : Int32) (hi0 : i0 < 8) (ho1 : o1 < 20) {σ' : mm_M} (hf : fn_Ma_act σ i0 o1 a2 = some σ') : Met l y_Ma_act w_Ma_act rm_Ma_act (pc_w D cls b N_C (ce_C ca b) (kC D ca ax b) [.ref (b + 16), .ref (b + (19 + 2 * i0)), .ref (ax 0 o1), .int a2] σ) (qc_v D cls b N_C (ce_C ca b) σ') 0 0 (mm_A b N_C) := by
  refine vv_go (cc := b_Ma_act) (maxL := 4) (ret := none) (fin := σ') (k := fn_Ma_act σ i0 o1 a2) (by decide) rfl (by simp [Value.category]) (Nat.le_of_ble_eq_true rfl) hf ?_
  intro p e s m below meth c hlocks hret S hKK
  unfold fn_Ma_act
  refine v_gets S (kc_zOp hKK) (S.2.2.2.2 _ (List.mem_cons_of_mem _ (wd_538))) (fun _ h => h) d_Ma_act_0 ?_
  refine v_aload_n S d_Ma_act_3 rfl rfl ?_
  refine v_ordO (rest := [.ref (ax 3 0)]) S hKK ho1 (k_Ma_126 S.2.2.2.2 (fun _ => List.mem_cons_of_mem _) ⟨Nat.le_of_ble_eq_true rfl, Nat.le_of_ble_eq_true rfl⟩) (by simp [Value.category]) d_Ma_act_4 ?_
  refine v_ti0 S (kc_swOp hKK) d_Ma_act_7 (fun h1 => ?_)
  refine v_tsw S (5 : Int32) (tgt := 81) d_Ma_act_8 (by decide) (by decide) (off := 73) rfl (by decide) (fun h2 => ?_) (fun h2 => ?_)
  · refine v_aload_n S d_Ma_act_81 rfl rfl ?_
    refine v_aload_n S d_Ma_act_82 rfl rfl ?_
    refine v_iload_n S d_Ma_act_83 rfl rfl ?_
    refine v_cv (rest := []) (fun _ hg H locs ls hsz hP hS => run_V (As := [.ref (b + (19 + 2 * i0)), .int a2]) (rest := []) S kC_ok hKK (c_Ma_enter l D ca ax b σ i0 a2 hi0 hg) (k_Ma_189 S.2.2.2.2 (fun _ => List.mem_cons_of_mem _) ⟨Nat.le_of_ble_eq_true rfl, Nat.le_of_ble_eq_true rfl⟩) (rc_w hKK.1 hP 16 (by decide) rfl rfl) rfl rfl (Nat.zero_le _) d_Ma_act_84 hsz hP hS) (fun σ3 _ => ?_)
    refine v_goto S d_Ma_act_87 (tgt := 104) (by decide) ?_
    exact v_vret S hret hlocks d_Ma_act_104
  · refine v_tsw S (6 : Int32) (tgt := 90) d_Ma_act_8 (by decide) (by decide) (off := 82) rfl (by decide) (fun h4 => ?_) (fun h4 => ?_)
    · refine v_aload_n S d_Ma_act_90 rfl rfl ?_
      refine v_aload_n S d_Ma_act_91 rfl rfl ?_
      refine v_cv (rest := []) (fun _ hg H locs ls hsz hP hS => run_V (As := [.ref (b + (19 + 2 * i0))]) (rest := []) S kC_ok hKK (c_Ma_leave l D ca ax b σ i0 hi0 hg) (k_Ma_193 S.2.2.2.2 (fun _ => List.mem_cons_of_mem _) ⟨Nat.le_of_ble_eq_true rfl, Nat.le_of_ble_eq_true rfl⟩) (rc_w hKK.1 hP 16 (by decide) rfl rfl) rfl rfl (Nat.zero_le _) d_Ma_act_92 hsz hP hS) (fun σ5 _ => ?_)
      refine v_goto S d_Ma_act_95 (tgt := 104) (by decide) ?_
      exact v_vret S hret hlocks d_Ma_act_104
    · refine v_tsw S (7 : Int32) (tgt := 64) d_Ma_act_8 (by decide) (by decide) (off := 56) rfl (by decide) (fun h6 => ?_) (fun h6 => ?_)
      · refine v_aload_n S d_Ma_act_64 rfl rfl ?_
        refine v_aload_n S d_Ma_act_65 rfl rfl ?_
        refine v_cv (rest := []) (fun _ hg H locs ls hsz hP hS => run_S (As := [.ref (b + (19 + 2 * i0)), .ref (ax 0 o1)]) (rest := []) S kC_ok hKK (c_Ma_reckon l D ca ax b σ i0 o1 hi0 ho1 hg) (k_Ma_182 S.2.2.2.2 (fun _ => List.mem_cons_of_mem _) ⟨Nat.le_of_ble_eq_true rfl, Nat.le_of_ble_eq_true rfl⟩) rfl rfl (Nat.zero_le _) d_Ma_act_66 hsz hP hS) (fun σ7 _ => ?_)
        refine v_goto S d_Ma_act_69 (tgt := 104) (by decide) ?_
        exact v_vret S hret hlocks d_Ma_act_104
      · refine v_tsw S (8 : Int32) (tgt := 72) d_Ma_act_8 (by decide) (by decide) (off := 64) rfl (by decide) (fun h8 => ?_) (fun h8 => ?_)
        · refine v_aload_n S d_Ma_act_72 rfl rfl ?_
          refine v_aload_n S d_Ma_act_73 rfl rfl ?_
          refine v_aload_n S d_Ma_act_74 rfl rfl ?_
          refine v_cv (rest := []) (fun _ hg H locs ls hsz hP hS => run_V (As := [.ref (b + (19 + 2 * i0)), .ref (ax 0 o1)]) (rest := []) S kC_ok hKK (c_Ma_useArray l D ca ax b σ i0 o1 hi0 ho1 hg) (k_Ma_186 S.2.2.2.2 (fun _ => List.mem_cons_of_mem _) ⟨Nat.le_of_ble_eq_true rfl, Nat.le_of_ble_eq_true rfl⟩) (rc_w hKK.1 hP 16 (by decide) rfl rfl) rfl rfl (Nat.zero_le _) d_Ma_act_75 hsz hP hS) (fun σ9 _ => ?_)
          refine v_goto S d_Ma_act_78 (tgt := 104) (by decide) ?_
          exact v_vret S hret hlocks d_Ma_act_104
        · refine v_tsw S (9 : Int32) (tgt := 72) d_Ma_act_8 (by decide) (by decide) (off := 64) rfl (by decide) (fun h10 => ?_) (fun h10 => ?_)
          · refine v_aload_n S d_Ma_act_72 rfl rfl ?_
            refine v_aload_n S d_Ma_act_73 rfl rfl ?_
            refine v_aload_n S d_Ma_act_74 rfl rfl ?_
            refine v_cv (rest := []) (fun _ hg H locs ls hsz hP hS => run_V (As := [.ref (b + (19 + 2 * i0)), .ref (ax 0 o1)]) (rest := []) S kC_ok hKK (c_Ma_useArray l D ca ax b σ i0 o1 hi0 ho1 hg) (k_Ma_186 S.2.2.2.2 (fun _ => List.mem_cons_of_mem _) ⟨Nat.le_of_ble_eq_true rfl, Nat.le_of_ble_eq_true rfl⟩) (rc_w hKK.1 hP 16 (by decide) rfl rfl) rfl rfl (Nat.zero_le _) d_Ma_act_75 hsz hP hS) (fun σ11 _ => ?_)
            refine v_goto S d_Ma_act_78 (tgt := 104) (by decide) ?_
            exact v_vret S hret hlocks d_Ma_act_104
          · refine v_tsw S (10 : Int32) (tgt := 72) d_Ma_act_8 (by decide) (by decide) (off := 64) rfl (by decide) (fun h12 => ?_) (fun h12 => ?_)
            · refine v_aload_n S d_Ma_act_72 rfl rfl ?_
              refine v_aload_n S d_Ma_act_73 rfl rfl ?_
              refine v_aload_n S d_Ma_act_74 rfl rfl ?_
              refine v_cv (rest := []) (fun _ hg H locs ls hsz hP hS => run_V (As := [.ref (b + (19 + 2 * i0)), .ref (ax 0 o1)]) (rest := []) S kC_ok hKK (c_Ma_useArray l D ca ax b σ i0 o1 hi0 ho1 hg) (k_Ma_186 S.2.2.2.2 (fun _ => List.mem_cons_of_mem _) ⟨Nat.le_of_ble_eq_true rfl, Nat.le_of_ble_eq_true rfl⟩) (rc_w hKK.1 hP 16 (by decide) rfl rfl) rfl rfl (Nat.zero_le _) d_Ma_act_75 hsz hP hS) (fun σ13 _ => ?_)
              refine v_goto S d_Ma_act_78 (tgt := 104) (by decide) ?_
              exact v_vret S hret hlocks d_Ma_act_104
            · refine v_tsw S (11 : Int32) (tgt := 72) d_Ma_act_8 (by decide) (by decide) (off := 64) rfl (by decide) (fun h14 => ?_) (fun h14 => ?_)
              · refine v_aload_n S d_Ma_act_72 rfl rfl ?_
                refine v_aload_n S d_Ma_act_73 rfl rfl ?_
                refine v_aload_n S d_Ma_act_74 rfl rfl ?_
                refine v_cv (rest := []) (fun _ hg H locs ls hsz hP hS => run_V (As := [.ref (b + (19 + 2 * i0)), .ref (ax 0 o1)]) (rest := []) S kC_ok hKK (c_Ma_useArray l D ca ax b σ i0 o1 hi0 ho1 hg) (k_Ma_186 S.2.2.2.2 (fun _ => List.mem_cons_of_mem _) ⟨Nat.le_of_ble_eq_true rfl, Nat.le_of_ble_eq_true rfl⟩) (rc_w hKK.1 hP 16 (by decide) rfl rfl) rfl rfl (Nat.zero_le _) d_Ma_act_75 hsz hP hS) (fun σ15 _ => ?_)
                refine v_goto S d_Ma_act_78 (tgt := 104) (by decide) ?_
                exact v_vret S hret hlocks d_Ma_act_104
              · refine v_tsw S (12 : Int32) (tgt := 64) d_Ma_act_8 (by decide) (by decide) (off := 56) rfl (by decide) (fun h16 => ?_) (fun h16 => ?_)
                · refine v_aload_n S d_Ma_act_64 rfl rfl ?_
                  refine v_aload_n S d_Ma_act_65 rfl rfl ?_
                  refine v_cv (rest := []) (fun _ hg H locs ls hsz hP hS => run_S (As := [.ref (b + (19 + 2 * i0)), .ref (ax 0 o1)]) (rest := []) S kC_ok hKK (c_Ma_reckon l D ca ax b σ i0 o1 hi0 ho1 hg) (k_Ma_182 S.2.2.2.2 (fun _ => List.mem_cons_of_mem _) ⟨Nat.le_of_ble_eq_true rfl, Nat.le_of_ble_eq_true rfl⟩) rfl rfl (Nat.zero_le _) d_Ma_act_66 hsz hP hS) (fun σ17 _ => ?_)
                  refine v_goto S d_Ma_act_69 (tgt := 104) (by decide) ?_
                  exact v_vret S hret hlocks d_Ma_act_104
                · refine v_tsw S (13 : Int32) (tgt := 64) d_Ma_act_8 (by decide) (by decide) (off := 56) rfl (by decide) (fun h18 => ?_) (fun h18 => ?_)
                  · refine v_aload_n S d_Ma_act_64 rfl rfl ?_
                    refine v_aload_n S d_Ma_act_65 rfl rfl ?_
                    refine v_cv (rest := []) (fun _ hg H locs ls hsz hP hS => run_S (As := [.ref (b + (19 + 2 * i0)), .ref (ax 0 o1)]) (rest := []) S kC_ok hKK (c_Ma_reckon l D ca ax b σ i0 o1 hi0 ho1 hg) (k_Ma_182 S.2.2.2.2 (fun _ => List.mem_cons_of_mem _) ⟨Nat.le_of_ble_eq_true rfl, Nat.le_of_ble_eq_true rfl⟩) rfl rfl (Nat.zero_le _) d_Ma_act_66 hsz hP hS) (fun σ19 _ => ?_)
                    refine v_goto S d_Ma_act_69 (tgt := 104) (by decide) ?_
                    exact v_vret S hret hlocks d_Ma_act_104
                  · refine v_tsw S (14 : Int32) (tgt := 64) d_Ma_act_8 (by decide) (by decide) (off := 56) rfl (by decide) (fun h20 => ?_) (fun h20 => ?_)
                    · refine v_aload_n S d_Ma_act_64 rfl rfl ?_
                      refine v_aload_n S d_Ma_act_65 rfl rfl ?_
                      refine v_cv (rest := []) (fun _ hg H locs ls hsz hP hS => run_S (As := [.ref (b + (19 + 2 * i0)), .ref (ax 0 o1)]) (rest := []) S kC_ok hKK (c_Ma_reckon l D ca ax b σ i0 o1 hi0 ho1 hg) (k_Ma_182 S.2.2.2.2 (fun _ => List.mem_cons_of_mem _) ⟨Nat.le_of_ble_eq_true rfl, Nat.le_of_ble_eq_true rfl⟩) rfl rfl (Nat.zero_le _) d_Ma_act_66 hsz hP hS) (fun σ21 _ => ?_)
                      refine v_goto S d_Ma_act_69 (tgt := 104) (by decide) ?_
                      exact v_vret S hret hlocks d_Ma_act_104
                    · refine v_tswD S (tgt := 98) d_Ma_act_8 (by have nh2 := i32_ne (n := 5) h2 (by decide); have nh4 := i32_ne (n := 6) h4 (by decide); have nh6 := i32_ne (n := 7) h6 (by decide); have nh8 := i32_ne (n := 8) h8 (by decide); have nh10 := i32_ne (n := 9) h10 (by decide); have nh12 := i32_ne (n := 10) h12 (by decide); have nh14 := i32_ne (n := 11) h14 (by decide); have nh16 := i32_ne (n := 12) h16 (by decide); have nh18 := i32_ne (n := 13) h18 (by decide); have nh20 := i32_ne (n := 14) h20 (by decide); omega) (by decide) ?_
                      refine v_aload_n S d_Ma_act_98 rfl rfl ?_
                      refine v_aload_n S d_Ma_act_99 rfl rfl ?_
                      refine v_iload_n S d_Ma_act_100 rfl rfl ?_
                      refine v_cv (rest := []) (fun _ hg H locs ls hsz hP hS => run_S (As := [.ref (b + (19 + 2 * i0)), .ref (ax 0 o1), .int a2]) (rest := []) S kC_ok hKK (c_Ma_move l D ca ax b σ i0 o1 a2 hi0 ho1 hg) (k_Ma_197 S.2.2.2.2 (fun _ => List.mem_cons_of_mem _) ⟨Nat.le_of_ble_eq_true rfl, Nat.le_of_ble_eq_true rfl⟩) rfl rfl (Nat.zero_le _) d_Ma_act_101 hsz hP hS) (fun σ22 _ => ?_)
                      exact v_vret S hret hlocks d_Ma_act_104

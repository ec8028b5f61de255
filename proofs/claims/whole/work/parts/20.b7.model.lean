/-! contracts of 20.model; written by wip/whole/make.py -/
def fn_Mo_onArrays_35 (a0 : Int32) : Nat → mm_M → Int32 → Int32 → Option (mm_M)
  | 0, _, _, _ => none
  | n + 1, σ, l2, l3 =>
    (if l2 ≤ l3 then
    (nm (mw σ 0 22 ((σ 0 22) + l2)) (fun σ34 =>
    (some σ34)))
    else
    (if (((σ 0 22) + l3) < 0 ∨ 31 ≤ ((σ 0 22) + l3).toNatClampNeg) then none else (nm (mw σ 16 ((σ 0 22) + l3).toNatClampNeg (0 : Int32)) (fun σ36 =>
    (fn_Mo_onArrays_35 a0 n σ36 l2 (l3 + (1 : Int32)))))))
def fn_Mo_onArrays (σ : mm_M) (a0 : Int32) : Option (mm_M) :=
    (if a0 = (11 : Int32) then
    (bd (fn_Mo_below σ (0 : Int32)) (fun r30 σ29 =>
    (bv (fn_Mo_drop σ29 (1 : Int32)) (fun σ31 =>
    (bv (fn_Mo_put σ31 (2 : Int32) (((1 : Int32) + ((16 : Int32) * (σ31 0 22))) + r30)) (fun σ32 =>
    (fn_Mo_onArrays_35 a0 fuel0 σ32 r30 (0 : Int32))))))))
    else
    (if a0 = (12 : Int32) then
    (bd (fn_Mo_below σ (1 : Int32)) (fun r21 σ20 =>
    (if (16 : Int32) = 0 then none else
    (bd (fn_Mo_below σ20 (0 : Int32)) (fun r24 σ23 =>
    (if ((((r21 - (1 : Int32)) / (16 : Int32)) + r24) < 0 ∨ 31 ≤ (((r21 - (1 : Int32)) / (16 : Int32)) + r24).toNatClampNeg) then none else
    (nm (σ23 16 (((r21 - (1 : Int32)) / (16 : Int32)) + r24).toNatClampNeg) (fun x26 =>
    (bv (fn_Mo_drop σ23 (2 : Int32)) (fun σ27 =>
    (bv (fn_Mo_put σ27 (1 : Int32) x26) (fun σ28 =>
    (some σ28)))))))))))))
    else
    (if a0 = (13 : Int32) then
    (bd (fn_Mo_below σ (2 : Int32)) (fun r11 σ10 =>
    (if (16 : Int32) = 0 then none else
    (bd (fn_Mo_below σ10 (1 : Int32)) (fun r14 σ13 =>
    (bd (fn_Mo_below σ13 (0 : Int32)) (fun r16 σ15 =>
    (if ((((r11 - (1 : Int32)) / (16 : Int32)) + r14) < 0 ∨ 31 ≤ (((r11 - (1 : Int32)) / (16 : Int32)) + r14).toNatClampNeg) then none else (nm (mw σ15 16 (((r11 - (1 : Int32)) / (16 : Int32)) + r14).toNatClampNeg r16) (fun σ18 =>
    (bv (fn_Mo_drop σ18 (3 : Int32)) (fun σ19 =>
    (some σ19)))))))))))))
    else
    (bd (fn_Mo_below σ (0 : Int32)) (fun r5 σ4 =>
    (bd (fn_Mo_lengthOf σ4 r5) (fun r7 σ6 =>
    (bv (fn_Mo_drop σ6 (1 : Int32)) (fun σ8 =>
    (bv (fn_Mo_put σ8 (1 : Int32) r7) (fun σ9 =>
    (some σ9))))))))))))
set_option maxRecDepth 100000 in
set_option maxHeartbeats 40000000 in
theorem c_Mo_onArrays (l : Launch) (D : va_G) (ca : Nat → ClassId) (ax : Nat → Nat → Nat) (b : Nat) (σ : mm_M) (a0 : Int32)  {σ' : mm_M} (hf : fn_Mo_onArrays σ a0 = some σ') : Met l y_Mo_onArrays w_Mo_onArrays rm_Mo_onArrays (pc_w D cls b N_M (ce_M ca b) (kM D ca ax b) [.ref (b + 0), .int a0] σ) (qc_v D cls b N_M (ce_M ca b) σ') 0 0 (mm_A b N_M) := by
  refine vv_go (cc := b_Mo_onArrays) (maxL := 4) (ret := none) (fin := σ') (k := fn_Mo_onArrays σ a0) (by decide) rfl (by simp [Value.category]) (Nat.le_of_ble_eq_true rfl) hf ?_
  intro p e s m below meth c hlocks hret S hKK
  have C35 : ∀ (n : Nat) (σ : mm_M) (l2 : Int32) (l3 : Int32), vv p l e (headSpec w_Mo_onArrays rm_Mo_onArrays).room s m [.ref (b + 0), .int a0].toArray below meth c D cls b N_M (ce_M ca b) 4 (MQ below (qc_v D cls b N_M (ce_M ca b) σ') [.ref (b + 0), .int a0].toArray s 0 0 (mm_A b N_M)) σ' (fn_Mo_onArrays_35 a0 n σ l2 l3) σ 35 [some (.ref (b + 0)), none, some (.int l2), some (.int l3)] [] := by
    intro n
    induction n with
    | zero => intro σ l2 l3  h; cases h
    | succ n ih =>
      intro σ l2 l3
      show vv p l e (headSpec w_Mo_onArrays rm_Mo_onArrays).room s m [.ref (b + 0), .int a0].toArray below meth c D cls b N_M (ce_M ca b) 4 (MQ below (qc_v D cls b N_M (ce_M ca b) σ') [.ref (b + 0), .int a0].toArray s 0 0 (mm_A b N_M)) σ' (        (if l2 ≤ l3 then
        (nm (mw σ 0 22 ((σ 0 22) + l2)) (fun σ34 =>
        (some σ34)))
        else
        (if (((σ 0 22) + l3) < 0 ∨ 31 ≤ ((σ 0 22) + l3).toNatClampNeg) then none else (nm (mw σ 16 ((σ 0 22) + l3).toNatClampNeg (0 : Int32)) (fun σ36 =>
        (fn_Mo_onArrays_35 a0 n σ36 l2 (l3 + (1 : Int32)))))))) σ 35 [some (.ref (b + 0)), none, some (.int l2), some (.int l3)] []
      refine v_iload_n S d_Mo_onArrays_35 rfl rfl ?_
      refine v_iload_n S d_Mo_onArrays_36 rfl rfl ?_
      refine v_icmp_ge S d_Mo_onArrays_37 (tgt := 58) (by decide) (fun h33 => ?_) (fun h33 => ?_)
      · refine v_aload_n S d_Mo_onArrays_58 rfl rfl ?_
        refine v_dup S d_Mo_onArrays_59 rfl ?_
        refine v_get S (fun w h => List.mem_cons_of_mem _ (i_Mo w h)) hKK.1 0 (by decide) rfl rfl 22 (by decide) (S.2.2.2.2 _ (List.mem_cons_of_mem _ (wd_763))) (fun _ h => h) rfl d_Mo_onArrays_60 ?_
        refine v_iload_n S d_Mo_onArrays_63 rfl rfl ?_
        refine v_iadd S d_Mo_onArrays_64 ?_
        refine v_puti S (fun w h => List.mem_cons_of_mem _ (i_Mo w h)) hKK.1 0 (by decide) rfl rfl 22 (by decide) (S.2.2.2.2 _ (List.mem_cons_of_mem _ (wd_763))) (fun _ h => h) t_Mo t_Mo_ok n_Mo rfl (ty := .int) rfl rfl rfl (Nat.le_of_ble_eq_true rfl) rfl d_Mo_onArrays_65 ?_
        refine v_sg (fun σ34 eσ34 => ?_)
        refine v_goto S d_Mo_onArrays_68 (tgt := 173) (by decide) ?_
        exact v_vret S hret hlocks d_Mo_onArrays_173
      · refine v_aload_n S d_Mo_onArrays_40 rfl rfl ?_
        refine v_get S (fun w h => List.mem_cons_of_mem _ (i_Mo w h)) hKK.1 0 (by decide) rfl rfl 23 (by decide) (S.2.2.2.2 _ (List.mem_cons_of_mem _ (wd_764))) (fun _ h => h) rfl d_Mo_onArrays_41 ?_
        refine v_aload_n S d_Mo_onArrays_44 rfl rfl ?_
        refine v_get S (fun w h => List.mem_cons_of_mem _ (i_Mo w h)) hKK.1 0 (by decide) rfl rfl 22 (by decide) (S.2.2.2.2 _ (List.mem_cons_of_mem _ (wd_763))) (fun _ h => h) rfl d_Mo_onArrays_45 ?_
        refine v_iload_n S d_Mo_onArrays_48 rfl rfl ?_
        refine v_iadd S d_Mo_onArrays_49 ?_
        refine v_iconst S d_Mo_onArrays_50 (v := (0 : Int32)) (by decide) ?_
        refine v_iast1 S hKK.1 16 0 (by decide) (fun _ => rfl) rfl d_Mo_onArrays_51 (fun h35 => ?_)
        refine v_sg (fun σ36 eσ36 => ?_)
        refine v_iinc S d_Mo_onArrays_52 rfl (v := (l3 + (1 : Int32))) (by first | rfl | decide) (by decide) (L2 := [some (.ref (b + 0)), none, some (.int l2), some (.int (l3 + (1 : Int32)))]) rfl ?_
        refine v_goto S d_Mo_onArrays_55 (tgt := 35) (by decide) ?_
        refine v_sub (L2 := [some (.ref (b + 0)), none, some (.int l2), some (.int (l3 + (1 : Int32)))]) (And.intro rfl (And.intro rfl (And.intro rfl True.intro))) ?_
        exact ih σ36 l2 (l3 + (1 : Int32))
  unfold fn_Mo_onArrays
  refine v_iload_n S d_Mo_onArrays_0 rfl rfl ?_
  refine v_bipush S d_Mo_onArrays_1 (v := (11 : Int32)) (by decide) ?_
  refine v_icmp_ne S d_Mo_onArrays_3 (tgt := 71) (by decide) (fun h1 => ?_) (fun h1 => ?_)
  · refine v_iload_n S d_Mo_onArrays_71 rfl rfl ?_
    refine v_bipush S d_Mo_onArrays_72 (v := (12 : Int32)) (by decide) ?_
    refine v_icmp_ne S d_Mo_onArrays_74 (tgt := 113) (by decide) (fun h2 => ?_) (fun h2 => ?_)
    · refine v_iload_n S d_Mo_onArrays_113 rfl rfl ?_
      refine v_bipush S d_Mo_onArrays_114 (v := (13 : Int32)) (by decide) ?_
      refine v_icmp_ne S d_Mo_onArrays_116 (tgt := 153) (by decide) (fun h3 => ?_) (fun h3 => ?_)
      · refine v_aload_n S d_Mo_onArrays_153 rfl rfl ?_
        refine v_iconst S d_Mo_onArrays_154 (v := (0 : Int32)) (by decide) ?_
        refine v_ci (rest := []) (fun _ _ hg H locs ls hsz hP hS => run_V (As := [.int (0 : Int32)]) (rest := []) S kM_ok hKK (c_Mo_below l D ca ax b σ (0 : Int32) hg) (k_Mo_139 S.2.2.2.2 (fun _ => List.mem_cons_of_mem _) ⟨Nat.le_of_ble_eq_true rfl, Nat.le_of_ble_eq_true rfl⟩) (rc_w hKK.1 hP 0 (by decide) rfl rfl) rfl rfl (Nat.zero_le _) d_Mo_onArrays_155 hsz hP hS) (fun r5 σ4 _ => ?_)
        refine v_ci (rest := []) (fun _ _ hg H locs ls hsz hP hS => run_S (As := [.int r5]) (rest := []) S kM_ok hKK (c_Mo_lengthOf l D ca ax b σ4 r5 hg) (k_Mo_145 S.2.2.2.2 (fun _ => List.mem_cons_of_mem _) ⟨Nat.le_of_ble_eq_true rfl, Nat.le_of_ble_eq_true rfl⟩) rfl rfl (Nat.zero_le _) d_Mo_onArrays_158 hsz hP hS) (fun r7 σ6 _ => ?_)
        refine v_istore_nP S d_Mo_onArrays_161 rfl (by decide) (L2 := [some (.ref (b + 0)), some (.int a0), some (.int r7)]) rfl ?_
        refine v_aload_n S d_Mo_onArrays_162 rfl rfl ?_
        refine v_iconst S d_Mo_onArrays_163 (v := (1 : Int32)) (by decide) ?_
        refine v_cv (rest := []) (fun _ hg H locs ls hsz hP hS => run_V (As := [.int (1 : Int32)]) (rest := []) S kM_ok hKK (c_Mo_drop l D ca ax b σ6 (1 : Int32) hg) (k_Mo_148 S.2.2.2.2 (fun _ => List.mem_cons_of_mem _) ⟨Nat.le_of_ble_eq_true rfl, Nat.le_of_ble_eq_true rfl⟩) (rc_w hKK.1 hP 0 (by decide) rfl rfl) rfl rfl (Nat.zero_le _) d_Mo_onArrays_164 hsz hP hS) (fun σ8 _ => ?_)
        refine v_aload_n S d_Mo_onArrays_167 rfl rfl ?_
        refine v_iconst S d_Mo_onArrays_168 (v := (1 : Int32)) (by decide) ?_
        refine v_iload_n S d_Mo_onArrays_169 rfl rfl ?_
        refine v_cv (rest := []) (fun _ hg H locs ls hsz hP hS => run_V (As := [.int (1 : Int32), .int r7]) (rest := []) S kM_ok hKK (c_Mo_put l D ca ax b σ8 (1 : Int32) r7 hg) (k_Mo_151 S.2.2.2.2 (fun _ => List.mem_cons_of_mem _) ⟨Nat.le_of_ble_eq_true rfl, Nat.le_of_ble_eq_true rfl⟩) (rc_w hKK.1 hP 0 (by decide) rfl rfl) rfl rfl (Nat.zero_le _) d_Mo_onArrays_170 hsz hP hS) (fun σ9 _ => ?_)
        exact v_vret S hret hlocks d_Mo_onArrays_173
      · refine v_aload_n S d_Mo_onArrays_119 rfl rfl ?_
        refine v_get S (fun w h => List.mem_cons_of_mem _ (i_Mo w h)) hKK.1 0 (by decide) rfl rfl 23 (by decide) (S.2.2.2.2 _ (List.mem_cons_of_mem _ (wd_764))) (fun _ h => h) rfl d_Mo_onArrays_120 ?_
        refine v_aload_n S d_Mo_onArrays_123 rfl rfl ?_
        refine v_iconst S d_Mo_onArrays_124 (v := (2 : Int32)) (by decide) ?_
        refine v_ci (rest := [.ref (b + 16)]) (fun _ _ hg H locs ls hsz hP hS => run_V (As := [.int (2 : Int32)]) (rest := [.ref (b + 16)]) S kM_ok hKK (c_Mo_below l D ca ax b σ (2 : Int32) hg) (k_Mo_139 S.2.2.2.2 (fun _ => List.mem_cons_of_mem _) ⟨Nat.le_of_ble_eq_true rfl, Nat.le_of_ble_eq_true rfl⟩) (rc_w hKK.1 hP 0 (by decide) rfl rfl) rfl rfl (by simp [Value.category]) d_Mo_onArrays_125 hsz hP hS) (fun r11 σ10 _ => ?_)
        refine v_iconst S d_Mo_onArrays_128 (v := (1 : Int32)) (by decide) ?_
        refine v_isub S d_Mo_onArrays_129 ?_
        refine v_bipush S d_Mo_onArrays_130 (v := (16 : Int32)) (by decide) ?_
        refine v_idiv S d_Mo_onArrays_132 (fun h12 => ?_)
        refine v_aload_n S d_Mo_onArrays_133 rfl rfl ?_
        refine v_iconst S d_Mo_onArrays_134 (v := (1 : Int32)) (by decide) ?_
        refine v_ci (rest := [.int ((r11 - (1 : Int32)) / (16 : Int32)), .ref (b + 16)]) (fun _ _ hg H locs ls hsz hP hS => run_V (As := [.int (1 : Int32)]) (rest := [.int ((r11 - (1 : Int32)) / (16 : Int32)), .ref (b + 16)]) S kM_ok hKK (c_Mo_below l D ca ax b σ10 (1 : Int32) hg) (k_Mo_139 S.2.2.2.2 (fun _ => List.mem_cons_of_mem _) ⟨Nat.le_of_ble_eq_true rfl, Nat.le_of_ble_eq_true rfl⟩) (rc_w hKK.1 hP 0 (by decide) rfl rfl) rfl rfl (by simp [Value.category]) d_Mo_onArrays_135 hsz hP hS) (fun r14 σ13 _ => ?_)
        refine v_iadd S d_Mo_onArrays_138 ?_
        refine v_aload_n S d_Mo_onArrays_139 rfl rfl ?_
        refine v_iconst S d_Mo_onArrays_140 (v := (0 : Int32)) (by decide) ?_
        refine v_ci (rest := [.int (((r11 - (1 : Int32)) / (16 : Int32)) + r14), .ref (b + 16)]) (fun _ _ hg H locs ls hsz hP hS => run_V (As := [.int (0 : Int32)]) (rest := [.int (((r11 - (1 : Int32)) / (16 : Int32)) + r14), .ref (b + 16)]) S kM_ok hKK (c_Mo_below l D ca ax b σ13 (0 : Int32) hg) (k_Mo_139 S.2.2.2.2 (fun _ => List.mem_cons_of_mem _) ⟨Nat.le_of_ble_eq_true rfl, Nat.le_of_ble_eq_true rfl⟩) (rc_w hKK.1 hP 0 (by decide) rfl rfl) rfl rfl (by simp [Value.category]) d_Mo_onArrays_141 hsz hP hS) (fun r16 σ15 _ => ?_)
        refine v_iast1 S hKK.1 16 0 (by decide) (fun _ => rfl) rfl d_Mo_onArrays_144 (fun h17 => ?_)
        refine v_sg (fun σ18 eσ18 => ?_)
        refine v_aload_n S d_Mo_onArrays_145 rfl rfl ?_
        refine v_iconst S d_Mo_onArrays_146 (v := (3 : Int32)) (by decide) ?_
        refine v_cv (rest := []) (fun _ hg H locs ls hsz hP hS => run_V (As := [.int (3 : Int32)]) (rest := []) S kM_ok hKK (c_Mo_drop l D ca ax b σ18 (3 : Int32) hg) (k_Mo_148 S.2.2.2.2 (fun _ => List.mem_cons_of_mem _) ⟨Nat.le_of_ble_eq_true rfl, Nat.le_of_ble_eq_true rfl⟩) (rc_w hKK.1 hP 0 (by decide) rfl rfl) rfl rfl (Nat.zero_le _) d_Mo_onArrays_147 hsz hP hS) (fun σ19 _ => ?_)
        refine v_goto S d_Mo_onArrays_150 (tgt := 173) (by decide) ?_
        exact v_vret S hret hlocks d_Mo_onArrays_173
    · refine v_aload_n S d_Mo_onArrays_77 rfl rfl ?_
      refine v_get S (fun w h => List.mem_cons_of_mem _ (i_Mo w h)) hKK.1 0 (by decide) rfl rfl 23 (by decide) (S.2.2.2.2 _ (List.mem_cons_of_mem _ (wd_764))) (fun _ h => h) rfl d_Mo_onArrays_78 ?_
      refine v_aload_n S d_Mo_onArrays_81 rfl rfl ?_
      refine v_iconst S d_Mo_onArrays_82 (v := (1 : Int32)) (by decide) ?_
      refine v_ci (rest := [.ref (b + 16)]) (fun _ _ hg H locs ls hsz hP hS => run_V (As := [.int (1 : Int32)]) (rest := [.ref (b + 16)]) S kM_ok hKK (c_Mo_below l D ca ax b σ (1 : Int32) hg) (k_Mo_139 S.2.2.2.2 (fun _ => List.mem_cons_of_mem _) ⟨Nat.le_of_ble_eq_true rfl, Nat.le_of_ble_eq_true rfl⟩) (rc_w hKK.1 hP 0 (by decide) rfl rfl) rfl rfl (by simp [Value.category]) d_Mo_onArrays_83 hsz hP hS) (fun r21 σ20 _ => ?_)
      refine v_iconst S d_Mo_onArrays_86 (v := (1 : Int32)) (by decide) ?_
      refine v_isub S d_Mo_onArrays_87 ?_
      refine v_bipush S d_Mo_onArrays_88 (v := (16 : Int32)) (by decide) ?_
      refine v_idiv S d_Mo_onArrays_90 (fun h22 => ?_)
      refine v_aload_n S d_Mo_onArrays_91 rfl rfl ?_
      refine v_iconst S d_Mo_onArrays_92 (v := (0 : Int32)) (by decide) ?_
      refine v_ci (rest := [.int ((r21 - (1 : Int32)) / (16 : Int32)), .ref (b + 16)]) (fun _ _ hg H locs ls hsz hP hS => run_V (As := [.int (0 : Int32)]) (rest := [.int ((r21 - (1 : Int32)) / (16 : Int32)), .ref (b + 16)]) S kM_ok hKK (c_Mo_below l D ca ax b σ20 (0 : Int32) hg) (k_Mo_139 S.2.2.2.2 (fun _ => List.mem_cons_of_mem _) ⟨Nat.le_of_ble_eq_true rfl, Nat.le_of_ble_eq_true rfl⟩) (rc_w hKK.1 hP 0 (by decide) rfl rfl) rfl rfl (by simp [Value.category]) d_Mo_onArrays_93 hsz hP hS) (fun r24 σ23 _ => ?_)
      refine v_iadd S d_Mo_onArrays_96 ?_
      refine v_iald S hKK.1 16 0 (by decide) rfl rfl d_Mo_onArrays_97 (fun h25 => ?_)
      refine v_top (fun x26 ex26 => ?_)
      refine v_istore_nP S d_Mo_onArrays_98 rfl (by decide) (L2 := [some (.ref (b + 0)), some (.int a0), some (.int x26)]) rfl ?_
      refine v_aload_n S d_Mo_onArrays_99 rfl rfl ?_
      refine v_iconst S d_Mo_onArrays_100 (v := (2 : Int32)) (by decide) ?_
      refine v_cv (rest := []) (fun _ hg H locs ls hsz hP hS => run_V (As := [.int (2 : Int32)]) (rest := []) S kM_ok hKK (c_Mo_drop l D ca ax b σ23 (2 : Int32) hg) (k_Mo_148 S.2.2.2.2 (fun _ => List.mem_cons_of_mem _) ⟨Nat.le_of_ble_eq_true rfl, Nat.le_of_ble_eq_true rfl⟩) (rc_w hKK.1 hP 0 (by decide) rfl rfl) rfl rfl (Nat.zero_le _) d_Mo_onArrays_101 hsz hP hS) (fun σ27 _ => ?_)
      refine v_aload_n S d_Mo_onArrays_104 rfl rfl ?_
      refine v_iconst S d_Mo_onArrays_105 (v := (1 : Int32)) (by decide) ?_
      refine v_iload_n S d_Mo_onArrays_106 rfl rfl ?_
      refine v_cv (rest := []) (fun _ hg H locs ls hsz hP hS => run_V (As := [.int (1 : Int32), .int x26]) (rest := []) S kM_ok hKK (c_Mo_put l D ca ax b σ27 (1 : Int32) x26 hg) (k_Mo_151 S.2.2.2.2 (fun _ => List.mem_cons_of_mem _) ⟨Nat.le_of_ble_eq_true rfl, Nat.le_of_ble_eq_true rfl⟩) (rc_w hKK.1 hP 0 (by decide) rfl rfl) rfl rfl (Nat.zero_le _) d_Mo_onArrays_107 hsz hP hS) (fun σ28 _ => ?_)
      refine v_goto S d_Mo_onArrays_110 (tgt := 173) (by decide) ?_
      exact v_vret S hret hlocks d_Mo_onArrays_173
  · refine v_aload_n S d_Mo_onArrays_6 rfl rfl ?_
    refine v_iconst S d_Mo_onArrays_7 (v := (0 : Int32)) (by decide) ?_
    refine v_ci (rest := []) (fun _ _ hg H locs ls hsz hP hS => run_V (As := [.int (0 : Int32)]) (rest := []) S kM_ok hKK (c_Mo_below l D ca ax b σ (0 : Int32) hg) (k_Mo_139 S.2.2.2.2 (fun _ => List.mem_cons_of_mem _) ⟨Nat.le_of_ble_eq_true rfl, Nat.le_of_ble_eq_true rfl⟩) (rc_w hKK.1 hP 0 (by decide) rfl rfl) rfl rfl (Nat.zero_le _) d_Mo_onArrays_8 hsz hP hS) (fun r30 σ29 _ => ?_)
    refine v_istore_nP S d_Mo_onArrays_11 rfl (by decide) (L2 := [some (.ref (b + 0)), some (.int a0), some (.int r30)]) rfl ?_
    refine v_aload_n S d_Mo_onArrays_12 rfl rfl ?_
    refine v_iconst S d_Mo_onArrays_13 (v := (1 : Int32)) (by decide) ?_
    refine v_cv (rest := []) (fun _ hg H locs ls hsz hP hS => run_V (As := [.int (1 : Int32)]) (rest := []) S kM_ok hKK (c_Mo_drop l D ca ax b σ29 (1 : Int32) hg) (k_Mo_148 S.2.2.2.2 (fun _ => List.mem_cons_of_mem _) ⟨Nat.le_of_ble_eq_true rfl, Nat.le_of_ble_eq_true rfl⟩) (rc_w hKK.1 hP 0 (by decide) rfl rfl) rfl rfl (Nat.zero_le _) d_Mo_onArrays_14 hsz hP hS) (fun σ31 _ => ?_)
    refine v_aload_n S d_Mo_onArrays_17 rfl rfl ?_
    refine v_iconst S d_Mo_onArrays_18 (v := (2 : Int32)) (by decide) ?_
    refine v_iconst S d_Mo_onArrays_19 (v := (1 : Int32)) (by decide) ?_
    refine v_bipush S d_Mo_onArrays_20 (v := (16 : Int32)) (by decide) ?_
    refine v_aload_n S d_Mo_onArrays_22 rfl rfl ?_
    refine v_get S (fun w h => List.mem_cons_of_mem _ (i_Mo w h)) hKK.1 0 (by decide) rfl rfl 22 (by decide) (S.2.2.2.2 _ (List.mem_cons_of_mem _ (wd_763))) (fun _ h => h) rfl d_Mo_onArrays_23 ?_
    refine v_imul S d_Mo_onArrays_26 ?_
    refine v_iadd S d_Mo_onArrays_27 ?_
    refine v_iload_n S d_Mo_onArrays_28 rfl rfl ?_
    refine v_iadd S d_Mo_onArrays_29 ?_
    refine v_cv (rest := []) (fun _ hg H locs ls hsz hP hS => run_V (As := [.int (2 : Int32), .int (((1 : Int32) + ((16 : Int32) * (σ31 0 22))) + r30)]) (rest := []) S kM_ok hKK (c_Mo_put l D ca ax b σ31 (2 : Int32) (((1 : Int32) + ((16 : Int32) * (σ31 0 22))) + r30) hg) (k_Mo_151 S.2.2.2.2 (fun _ => List.mem_cons_of_mem _) ⟨Nat.le_of_ble_eq_true rfl, Nat.le_of_ble_eq_true rfl⟩) (rc_w hKK.1 hP 0 (by decide) rfl rfl) rfl rfl (Nat.zero_le _) d_Mo_onArrays_30 hsz hP hS) (fun σ32 _ => ?_)
    refine v_iconst S d_Mo_onArrays_33 (v := (0 : Int32)) (by decide) ?_
    refine v_istore_nP S d_Mo_onArrays_34 rfl (by decide) (L2 := [some (.ref (b + 0)), some (.int a0), some (.int r30), some (.int (0 : Int32))]) rfl ?_
    refine v_sub (L2 := [some (.ref (b + 0)), none, some (.int r30), some (.int (0 : Int32))]) (And.intro rfl (And.intro rfl (And.intro rfl True.intro))) ?_
    exact C35 fuel0 σ32 r30 (0 : Int32)
def fn_Mo_onPlaces (σ : mm_M) (a0 : Int32) (a1 : Int32) : Option (mm_M) :=
    (nm ((12 : Int32) * ((σ 0 16) - (1 : Int32))) (fun x1 =>
    (if (((σ 0 16) - (1 : Int32)) < 0 ∨ 8 ≤ ((σ 0 16) - (1 : Int32)).toNatClampNeg) then none else
    (nm ((x1 + (5 : Int32)) + (σ 13 ((σ 0 16) - (1 : Int32)).toNatClampNeg)) (fun x3 =>
    (if a0 = (5 : Int32) then
    (if ((x1 + a1) < 0 ∨ 96 ≤ (x1 + a1).toNatClampNeg) then none else
    (if ((x1 + a1) < 0 ∨ 96 ≤ (x1 + a1).toNatClampNeg) then none else
    (bv (fn_Mo_put σ (σ 15 (x1 + a1).toNatClampNeg) (σ 14 (x1 + a1).toNatClampNeg)) (fun σ35 =>
    (some σ35)))))
    else
    (if a0 = (6 : Int32) then
    (if (x3 < 0 ∨ 96 ≤ x3.toNatClampNeg) then none else
    (if ((x1 + a1) < 0 ∨ 96 ≤ (x1 + a1).toNatClampNeg) then none else (nm (mw σ 15 (x1 + a1).toNatClampNeg (σ 15 x3.toNatClampNeg)) (fun σ28 =>
    (if (x3 < 0 ∨ 96 ≤ x3.toNatClampNeg) then none else
    (if ((x1 + a1) < 0 ∨ 96 ≤ (x1 + a1).toNatClampNeg) then none else (nm (mw σ28 14 (x1 + a1).toNatClampNeg (σ28 14 x3.toNatClampNeg)) (fun σ31 =>
    (bv (fn_Mo_drop σ31 (1 : Int32)) (fun σ32 =>
    (some σ32)))))))))))
    else
    (if a0 = (15 : Int32) then
    (if (x3 < 0 ∨ 96 ≤ x3.toNatClampNeg) then none else
    (if (x3 < 0 ∨ 96 ≤ x3.toNatClampNeg) then none else
    (bv (fn_Mo_put σ (σ 15 x3.toNatClampNeg) (σ 14 x3.toNatClampNeg)) (fun σ25 =>
    (some σ25)))))
    else
    (if a0 = (16 : Int32) then
    (if (x3 < 0 ∨ 96 ≤ x3.toNatClampNeg) then none else
    (nm (σ 15 x3.toNatClampNeg) (fun x10 =>
    (if (x3 < 0 ∨ 96 ≤ x3.toNatClampNeg) then none else
    (nm (σ 14 x3.toNatClampNeg) (fun x12 =>
    (if ((x3 - (1 : Int32)) < 0 ∨ 96 ≤ (x3 - (1 : Int32)).toNatClampNeg) then none else
    (if (x3 < 0 ∨ 96 ≤ x3.toNatClampNeg) then none else (nm (mw σ 15 x3.toNatClampNeg (σ 15 (x3 - (1 : Int32)).toNatClampNeg)) (fun σ15 =>
    (if ((x3 - (1 : Int32)) < 0 ∨ 96 ≤ (x3 - (1 : Int32)).toNatClampNeg) then none else
    (if (x3 < 0 ∨ 96 ≤ x3.toNatClampNeg) then none else (nm (mw σ15 14 x3.toNatClampNeg (σ15 14 (x3 - (1 : Int32)).toNatClampNeg)) (fun σ18 =>
    (if ((x3 - (1 : Int32)) < 0 ∨ 96 ≤ (x3 - (1 : Int32)).toNatClampNeg) then none else (nm (mw σ18 15 (x3 - (1 : Int32)).toNatClampNeg x10) (fun σ20 =>
    (if ((x3 - (1 : Int32)) < 0 ∨ 96 ≤ (x3 - (1 : Int32)).toNatClampNeg) then none else (nm (mw σ20 14 (x3 - (1 : Int32)).toNatClampNeg x12) (fun σ22 =>
    (some σ22)))))))))))))))))))))
    else
    (bv (fn_Mo_drop σ (1 : Int32)) (fun σ8 =>
    (some σ8))))))))))))
set_option maxRecDepth 100000 in
set_option maxHeartbeats 40000000 in
theorem c_Mo_onPlaces (l : Launch) (D : va_G) (ca : Nat → ClassId) (ax : Nat → Nat → Nat) (b : Nat) (σ : mm_M) (a0 : Int32) (a1 : Int32)  {σ' : mm_M} (hf : fn_Mo_onPlaces σ a0 a1 = some σ') : Met l y_Mo_onPlaces w_Mo_onPlaces rm_Mo_onPlaces (pc_w D cls b N_M (ce_M ca b) (kM D ca ax b) [.ref (b + 0), .int a0, .int a1] σ) (qc_v D cls b N_M (ce_M ca b) σ') 0 0 (mm_A b N_M) := by
  refine vv_go (cc := b_Mo_onPlaces) (maxL := 7) (ret := none) (fin := σ') (k := fn_Mo_onPlaces σ a0 a1) (by decide) rfl (by simp [Value.category]) (Nat.le_of_ble_eq_true rfl) hf ?_
  intro p e s m below meth c hlocks hret S hKK
  unfold fn_Mo_onPlaces
  refine v_bipush S d_Mo_onPlaces_0 (v := (12 : Int32)) (by decide) ?_
  refine v_aload_n S d_Mo_onPlaces_2 rfl rfl ?_
  refine v_get S (fun w h => List.mem_cons_of_mem _ (i_Mo w h)) hKK.1 0 (by decide) rfl rfl 16 (by decide) (S.2.2.2.2 _ (List.mem_cons_of_mem _ (wd_757))) (fun _ h => h) rfl d_Mo_onPlaces_3 ?_
  refine v_iconst S d_Mo_onPlaces_6 (v := (1 : Int32)) (by decide) ?_
  refine v_isub S d_Mo_onPlaces_7 ?_
  refine v_imul S d_Mo_onPlaces_8 ?_
  refine v_top (fun x1 ex1 => ?_)
  refine v_istore_nP S d_Mo_onPlaces_9 rfl (by decide) (L2 := [some (.ref (b + 0)), some (.int a0), some (.int a1), some (.int x1)]) rfl ?_
  refine v_iload_n S d_Mo_onPlaces_10 rfl rfl ?_
  refine v_iconst S d_Mo_onPlaces_11 (v := (5 : Int32)) (by decide) ?_
  refine v_iadd S d_Mo_onPlaces_12 ?_
  refine v_aload_n S d_Mo_onPlaces_13 rfl rfl ?_
  refine v_get S (fun w h => List.mem_cons_of_mem _ (i_Mo w h)) hKK.1 0 (by decide) rfl rfl 19 (by decide) (S.2.2.2.2 _ (List.mem_cons_of_mem _ (wd_760))) (fun _ h => h) rfl d_Mo_onPlaces_14 ?_
  refine v_aload_n S d_Mo_onPlaces_17 rfl rfl ?_
  refine v_get S (fun w h => List.mem_cons_of_mem _ (i_Mo w h)) hKK.1 0 (by decide) rfl rfl 16 (by decide) (S.2.2.2.2 _ (List.mem_cons_of_mem _ (wd_757))) (fun _ h => h) rfl d_Mo_onPlaces_18 ?_
  refine v_iconst S d_Mo_onPlaces_21 (v := (1 : Int32)) (by decide) ?_
  refine v_isub S d_Mo_onPlaces_22 ?_
  refine v_iald S hKK.1 13 0 (by decide) rfl rfl d_Mo_onPlaces_23 (fun h2 => ?_)
  refine v_iadd S d_Mo_onPlaces_24 ?_
  refine v_top (fun x3 ex3 => ?_)
  refine v_istoreP S d_Mo_onPlaces_25 (by decide) (L2 := [some (.ref (b + 0)), some (.int a0), some (.int a1), some (.int x1), some (.int x3)]) rfl ?_
  refine v_iload_n S d_Mo_onPlaces_27 rfl rfl ?_
  refine v_iconst S d_Mo_onPlaces_28 (v := (5 : Int32)) (by decide) ?_
  refine v_icmp_ne S d_Mo_onPlaces_29 (tgt := 55) (by decide) (fun h4 => ?_) (fun h4 => ?_)
  · refine v_iload_n S d_Mo_onPlaces_55 rfl rfl ?_
    refine v_bipush S d_Mo_onPlaces_56 (v := (6 : Int32)) (by decide) ?_
    refine v_icmp_ne S d_Mo_onPlaces_58 (tgt := 99) (by decide) (fun h5 => ?_) (fun h5 => ?_)
    · refine v_iload_n S d_Mo_onPlaces_99 rfl rfl ?_
      refine v_bipush S d_Mo_onPlaces_100 (v := (15 : Int32)) (by decide) ?_
      refine v_icmp_ne S d_Mo_onPlaces_102 (tgt := 126) (by decide) (fun h6 => ?_) (fun h6 => ?_)
      · refine v_iload_n S d_Mo_onPlaces_126 rfl rfl ?_
        refine v_bipush S d_Mo_onPlaces_127 (v := (16 : Int32)) (by decide) ?_
        refine v_icmp_ne S d_Mo_onPlaces_129 (tgt := 207) (by decide) (fun h7 => ?_) (fun h7 => ?_)
        · refine v_aload_n S d_Mo_onPlaces_207 rfl rfl ?_
          refine v_iconst S d_Mo_onPlaces_208 (v := (1 : Int32)) (by decide) ?_
          refine v_cv (rest := []) (fun _ hg H locs ls hsz hP hS => run_V (As := [.int (1 : Int32)]) (rest := []) S kM_ok hKK (c_Mo_drop l D ca ax b σ (1 : Int32) hg) (k_Mo_148 S.2.2.2.2 (fun _ => List.mem_cons_of_mem _) ⟨Nat.le_of_ble_eq_true rfl, Nat.le_of_ble_eq_true rfl⟩) (rc_w hKK.1 hP 0 (by decide) rfl rfl) rfl rfl (Nat.zero_le _) d_Mo_onPlaces_209 hsz hP hS) (fun σ8 _ => ?_)
          exact v_vret S hret hlocks d_Mo_onPlaces_212
        · refine v_aload_n S d_Mo_onPlaces_132 rfl rfl ?_
          refine v_get S (fun w h => List.mem_cons_of_mem _ (i_Mo w h)) hKK.1 0 (by decide) rfl rfl 21 (by decide) (S.2.2.2.2 _ (List.mem_cons_of_mem _ (wd_762))) (fun _ h => h) rfl d_Mo_onPlaces_133 ?_
          refine v_iload S d_Mo_onPlaces_136 rfl ?_
          refine v_iald S hKK.1 15 0 (by decide) rfl rfl d_Mo_onPlaces_138 (fun h9 => ?_)
          refine v_top (fun x10 ex10 => ?_)
          refine v_istoreP S d_Mo_onPlaces_139 (by decide) (L2 := [some (.ref (b + 0)), some (.int a0), some (.int a1), some (.int x1), some (.int x3), some (.int x10)]) rfl ?_
          refine v_aload_n S d_Mo_onPlaces_141 rfl rfl ?_
          refine v_get S (fun w h => List.mem_cons_of_mem _ (i_Mo w h)) hKK.1 0 (by decide) rfl rfl 20 (by decide) (S.2.2.2.2 _ (List.mem_cons_of_mem _ (wd_761))) (fun _ h => h) rfl d_Mo_onPlaces_142 ?_
          refine v_iload S d_Mo_onPlaces_145 rfl ?_
          refine v_iald S hKK.1 14 0 (by decide) rfl rfl d_Mo_onPlaces_147 (fun h11 => ?_)
          refine v_top (fun x12 ex12 => ?_)
          refine v_istoreP S d_Mo_onPlaces_148 (by decide) (L2 := [some (.ref (b + 0)), some (.int a0), some (.int a1), some (.int x1), some (.int x3), some (.int x10), some (.int x12)]) rfl ?_
          refine v_aload_n S d_Mo_onPlaces_150 rfl rfl ?_
          refine v_get S (fun w h => List.mem_cons_of_mem _ (i_Mo w h)) hKK.1 0 (by decide) rfl rfl 21 (by decide) (S.2.2.2.2 _ (List.mem_cons_of_mem _ (wd_762))) (fun _ h => h) rfl d_Mo_onPlaces_151 ?_
          refine v_iload S d_Mo_onPlaces_154 rfl ?_
          refine v_aload_n S d_Mo_onPlaces_156 rfl rfl ?_
          refine v_get S (fun w h => List.mem_cons_of_mem _ (i_Mo w h)) hKK.1 0 (by decide) rfl rfl 21 (by decide) (S.2.2.2.2 _ (List.mem_cons_of_mem _ (wd_762))) (fun _ h => h) rfl d_Mo_onPlaces_157 ?_
          refine v_iload S d_Mo_onPlaces_160 rfl ?_
          refine v_iconst S d_Mo_onPlaces_162 (v := (1 : Int32)) (by decide) ?_
          refine v_isub S d_Mo_onPlaces_163 ?_
          refine v_iald S hKK.1 15 0 (by decide) rfl rfl d_Mo_onPlaces_164 (fun h13 => ?_)
          refine v_iast1 S hKK.1 15 0 (by decide) (fun _ => rfl) rfl d_Mo_onPlaces_165 (fun h14 => ?_)
          refine v_sg (fun σ15 eσ15 => ?_)
          refine v_aload_n S d_Mo_onPlaces_166 rfl rfl ?_
          refine v_get S (fun w h => List.mem_cons_of_mem _ (i_Mo w h)) hKK.1 0 (by decide) rfl rfl 20 (by decide) (S.2.2.2.2 _ (List.mem_cons_of_mem _ (wd_761))) (fun _ h => h) rfl d_Mo_onPlaces_167 ?_
          refine v_iload S d_Mo_onPlaces_170 rfl ?_
          refine v_aload_n S d_Mo_onPlaces_172 rfl rfl ?_
          refine v_get S (fun w h => List.mem_cons_of_mem _ (i_Mo w h)) hKK.1 0 (by decide) rfl rfl 20 (by decide) (S.2.2.2.2 _ (List.mem_cons_of_mem _ (wd_761))) (fun _ h => h) rfl d_Mo_onPlaces_173 ?_
          refine v_iload S d_Mo_onPlaces_176 rfl ?_
          refine v_iconst S d_Mo_onPlaces_178 (v := (1 : Int32)) (by decide) ?_
          refine v_isub S d_Mo_onPlaces_179 ?_
          refine v_iald S hKK.1 14 0 (by decide) rfl rfl d_Mo_onPlaces_180 (fun h16 => ?_)
          refine v_iast1 S hKK.1 14 0 (by decide) (fun _ => rfl) rfl d_Mo_onPlaces_181 (fun h17 => ?_)
          refine v_sg (fun σ18 eσ18 => ?_)
          refine v_aload_n S d_Mo_onPlaces_182 rfl rfl ?_
          refine v_get S (fun w h => List.mem_cons_of_mem _ (i_Mo w h)) hKK.1 0 (by decide) rfl rfl 21 (by decide) (S.2.2.2.2 _ (List.mem_cons_of_mem _ (wd_762))) (fun _ h => h) rfl d_Mo_onPlaces_183 ?_
          refine v_iload S d_Mo_onPlaces_186 rfl ?_
          refine v_iconst S d_Mo_onPlaces_188 (v := (1 : Int32)) (by decide) ?_
          refine v_isub S d_Mo_onPlaces_189 ?_
          refine v_iload S d_Mo_onPlaces_190 rfl ?_
          refine v_iast1 S hKK.1 15 0 (by decide) (fun _ => rfl) rfl d_Mo_onPlaces_192 (fun h19 => ?_)
          refine v_sg (fun σ20 eσ20 => ?_)
          refine v_aload_n S d_Mo_onPlaces_193 rfl rfl ?_
          refine v_get S (fun w h => List.mem_cons_of_mem _ (i_Mo w h)) hKK.1 0 (by decide) rfl rfl 20 (by decide) (S.2.2.2.2 _ (List.mem_cons_of_mem _ (wd_761))) (fun _ h => h) rfl d_Mo_onPlaces_194 ?_
          refine v_iload S d_Mo_onPlaces_197 rfl ?_
          refine v_iconst S d_Mo_onPlaces_199 (v := (1 : Int32)) (by decide) ?_
          refine v_isub S d_Mo_onPlaces_200 ?_
          refine v_iload S d_Mo_onPlaces_201 rfl ?_
          refine v_iast1 S hKK.1 14 0 (by decide) (fun _ => rfl) rfl d_Mo_onPlaces_203 (fun h21 => ?_)
          refine v_sg (fun σ22 eσ22 => ?_)
          refine v_goto S d_Mo_onPlaces_204 (tgt := 212) (by decide) ?_
          exact v_vret S hret hlocks d_Mo_onPlaces_212
      · refine v_aload_n S d_Mo_onPlaces_105 rfl rfl ?_
        refine v_aload_n S d_Mo_onPlaces_106 rfl rfl ?_
        refine v_get S (fun w h => List.mem_cons_of_mem _ (i_Mo w h)) hKK.1 0 (by decide) rfl rfl 21 (by decide) (S.2.2.2.2 _ (List.mem_cons_of_mem _ (wd_762))) (fun _ h => h) rfl d_Mo_onPlaces_107 ?_
        refine v_iload S d_Mo_onPlaces_110 rfl ?_
        refine v_iald S hKK.1 15 0 (by decide) rfl rfl d_Mo_onPlaces_112 (fun h23 => ?_)
        refine v_aload_n S d_Mo_onPlaces_113 rfl rfl ?_
        refine v_get S (fun w h => List.mem_cons_of_mem _ (i_Mo w h)) hKK.1 0 (by decide) rfl rfl 20 (by decide) (S.2.2.2.2 _ (List.mem_cons_of_mem _ (wd_761))) (fun _ h => h) rfl d_Mo_onPlaces_114 ?_
        refine v_iload S d_Mo_onPlaces_117 rfl ?_
        refine v_iald S hKK.1 14 0 (by decide) rfl rfl d_Mo_onPlaces_119 (fun h24 => ?_)
        refine v_cv (rest := []) (fun _ hg H locs ls hsz hP hS => run_V (As := [.int (σ 15 x3.toNatClampNeg), .int (σ 14 x3.toNatClampNeg)]) (rest := []) S kM_ok hKK (c_Mo_put l D ca ax b σ (σ 15 x3.toNatClampNeg) (σ 14 x3.toNatClampNeg) hg) (k_Mo_151 S.2.2.2.2 (fun _ => List.mem_cons_of_mem _) ⟨Nat.le_of_ble_eq_true rfl, Nat.le_of_ble_eq_true rfl⟩) (rc_w hKK.1 hP 0 (by decide) rfl rfl) rfl rfl (Nat.zero_le _) d_Mo_onPlaces_120 hsz hP hS) (fun σ25 _ => ?_)
        refine v_goto S d_Mo_onPlaces_123 (tgt := 212) (by decide) ?_
        exact v_vret S hret hlocks d_Mo_onPlaces_212
    · refine v_aload_n S d_Mo_onPlaces_61 rfl rfl ?_
      refine v_get S (fun w h => List.mem_cons_of_mem _ (i_Mo w h)) hKK.1 0 (by decide) rfl rfl 21 (by decide) (S.2.2.2.2 _ (List.mem_cons_of_mem _ (wd_762))) (fun _ h => h) rfl d_Mo_onPlaces_62 ?_
      refine v_iload_n S d_Mo_onPlaces_65 rfl rfl ?_
      refine v_iload_n S d_Mo_onPlaces_66 rfl rfl ?_
      refine v_iadd S d_Mo_onPlaces_67 ?_
      refine v_aload_n S d_Mo_onPlaces_68 rfl rfl ?_
      refine v_get S (fun w h => List.mem_cons_of_mem _ (i_Mo w h)) hKK.1 0 (by decide) rfl rfl 21 (by decide) (S.2.2.2.2 _ (List.mem_cons_of_mem _ (wd_762))) (fun _ h => h) rfl d_Mo_onPlaces_69 ?_
      refine v_iload S d_Mo_onPlaces_72 rfl ?_
      refine v_iald S hKK.1 15 0 (by decide) rfl rfl d_Mo_onPlaces_74 (fun h26 => ?_)
      refine v_iast1 S hKK.1 15 0 (by decide) (fun _ => rfl) rfl d_Mo_onPlaces_75 (fun h27 => ?_)
      refine v_sg (fun σ28 eσ28 => ?_)
      refine v_aload_n S d_Mo_onPlaces_76 rfl rfl ?_
      refine v_get S (fun w h => List.mem_cons_of_mem _ (i_Mo w h)) hKK.1 0 (by decide) rfl rfl 20 (by decide) (S.2.2.2.2 _ (List.mem_cons_of_mem _ (wd_761))) (fun _ h => h) rfl d_Mo_onPlaces_77 ?_
      refine v_iload_n S d_Mo_onPlaces_80 rfl rfl ?_
      refine v_iload_n S d_Mo_onPlaces_81 rfl rfl ?_
      refine v_iadd S d_Mo_onPlaces_82 ?_
      refine v_aload_n S d_Mo_onPlaces_83 rfl rfl ?_
      refine v_get S (fun w h => List.mem_cons_of_mem _ (i_Mo w h)) hKK.1 0 (by decide) rfl rfl 20 (by decide) (S.2.2.2.2 _ (List.mem_cons_of_mem _ (wd_761))) (fun _ h => h) rfl d_Mo_onPlaces_84 ?_
      refine v_iload S d_Mo_onPlaces_87 rfl ?_
      refine v_iald S hKK.1 14 0 (by decide) rfl rfl d_Mo_onPlaces_89 (fun h29 => ?_)
      refine v_iast1 S hKK.1 14 0 (by decide) (fun _ => rfl) rfl d_Mo_onPlaces_90 (fun h30 => ?_)
      refine v_sg (fun σ31 eσ31 => ?_)
      refine v_aload_n S d_Mo_onPlaces_91 rfl rfl ?_
      refine v_iconst S d_Mo_onPlaces_92 (v := (1 : Int32)) (by decide) ?_
      refine v_cv (rest := []) (fun _ hg H locs ls hsz hP hS => run_V (As := [.int (1 : Int32)]) (rest := []) S kM_ok hKK (c_Mo_drop l D ca ax b σ31 (1 : Int32) hg) (k_Mo_148 S.2.2.2.2 (fun _ => List.mem_cons_of_mem _) ⟨Nat.le_of_ble_eq_true rfl, Nat.le_of_ble_eq_true rfl⟩) (rc_w hKK.1 hP 0 (by decide) rfl rfl) rfl rfl (Nat.zero_le _) d_Mo_onPlaces_93 hsz hP hS) (fun σ32 _ => ?_)
      refine v_goto S d_Mo_onPlaces_96 (tgt := 212) (by decide) ?_
      exact v_vret S hret hlocks d_Mo_onPlaces_212
  · refine v_aload_n S d_Mo_onPlaces_32 rfl rfl ?_
    refine v_aload_n S d_Mo_onPlaces_33 rfl rfl ?_
    refine v_get S (fun w h => List.mem_cons_of_mem _ (i_Mo w h)) hKK.1 0 (by decide) rfl rfl 21 (by decide) (S.2.2.2.2 _ (List.mem_cons_of_mem _ (wd_762))) (fun _ h => h) rfl d_Mo_onPlaces_34 ?_
    refine v_iload_n S d_Mo_onPlaces_37 rfl rfl ?_
    refine v_iload_n S d_Mo_onPlaces_38 rfl rfl ?_
    refine v_iadd S d_Mo_onPlaces_39 ?_
    refine v_iald S hKK.1 15 0 (by decide) rfl rfl d_Mo_onPlaces_40 (fun h33 => ?_)
    refine v_aload_n S d_Mo_onPlaces_41 rfl rfl ?_
    refine v_get S (fun w h => List.mem_cons_of_mem _ (i_Mo w h)) hKK.1 0 (by decide) rfl rfl 20 (by decide) (S.2.2.2.2 _ (List.mem_cons_of_mem _ (wd_761))) (fun _ h => h) rfl d_Mo_onPlaces_42 ?_
    refine v_iload_n S d_Mo_onPlaces_45 rfl rfl ?_
    refine v_iload_n S d_Mo_onPlaces_46 rfl rfl ?_
    refine v_iadd S d_Mo_onPlaces_47 ?_
    refine v_iald S hKK.1 14 0 (by decide) rfl rfl d_Mo_onPlaces_48 (fun h34 => ?_)
    refine v_cv (rest := []) (fun _ hg H locs ls hsz hP hS => run_V (As := [.int (σ 15 (x1 + a1).toNatClampNeg), .int (σ 14 (x1 + a1).toNatClampNeg)]) (rest := []) S kM_ok hKK (c_Mo_put l D ca ax b σ (σ 15 (x1 + a1).toNatClampNeg) (σ 14 (x1 + a1).toNatClampNeg) hg) (k_Mo_151 S.2.2.2.2 (fun _ => List.mem_cons_of_mem _) ⟨Nat.le_of_ble_eq_true rfl, Nat.le_of_ble_eq_true rfl⟩) (rc_w hKK.1 hP 0 (by decide) rfl rfl) rfl rfl (Nat.zero_le _) d_Mo_onPlaces_49 hsz hP hS) (fun σ35 _ => ?_)
    refine v_goto S d_Mo_onPlaces_52 (tgt := 212) (by decide) ?_
    exact v_vret S hret hlocks d_Mo_onPlaces_212
def fn_Mo_call_40 (a0 : Int32) : Nat → mm_M → Int32 → Int32 → Int32 → Option (mm_M)
  | 0, _, _, _, _ => none
  | n + 1, σ, l2, l3, l4 =>
    (if (a0 < 0 ∨ 4 ≤ a0.toNatClampNeg) then none else
    (if (σ 5 a0.toNatClampNeg) ≤ l4 then
    (some σ)
    else
    (if ((l3 + l4) < 0 ∨ 96 ≤ (l3 + l4).toNatClampNeg) then none else
    (if ((((12 : Int32) * (l2 + (1 : Int32))) + l4) < 0 ∨ 96 ≤ (((12 : Int32) * (l2 + (1 : Int32))) + l4).toNatClampNeg) then none else (nm (mw σ 15 (((12 : Int32) * (l2 + (1 : Int32))) + l4).toNatClampNeg (σ 15 (l3 + l4).toNatClampNeg)) (fun σ11 =>
    (if ((l3 + l4) < 0 ∨ 96 ≤ (l3 + l4).toNatClampNeg) then none else
    (if ((((12 : Int32) * (l2 + (1 : Int32))) + l4) < 0 ∨ 96 ≤ (((12 : Int32) * (l2 + (1 : Int32))) + l4).toNatClampNeg) then none else (nm (mw σ11 14 (((12 : Int32) * (l2 + (1 : Int32))) + l4).toNatClampNeg (σ11 14 (l3 + l4).toNatClampNeg)) (fun σ14 =>
    (fn_Mo_call_40 a0 n σ14 l2 l3 (l4 + (1 : Int32)))))))))))))
def fn_Mo_call (σ : mm_M) (a0 : Int32) : Option (mm_M) :=
    (nm ((σ 0 16) - (1 : Int32)) (fun x1 =>
    (if (a0 < 0 ∨ 4 ≤ a0.toNatClampNeg) then none else
    (bv (fn_Mo_drop σ (σ 5 a0.toNatClampNeg)) (fun σ3 =>
    (if (x1 < 0 ∨ 8 ≤ x1.toNatClampNeg) then none else
    (nm ((((12 : Int32) * x1) + (6 : Int32)) + (σ3 13 x1.toNatClampNeg)) (fun x5 =>
    (bv (fn_Mo_enter σ3 a0) (fun σ6 =>
    (fn_Mo_call_40 a0 fuel0 σ6 x1 x5 (0 : Int32))))))))))))
set_option maxRecDepth 100000 in
set_option maxHeartbeats 40000000 in
theorem c_Mo_call (l : Launch) (D : va_G) (ca : Nat → ClassId) (ax : Nat → Nat → Nat) (b : Nat) (σ : mm_M) (a0 : Int32)  {σ' : mm_M} (hf : fn_Mo_call σ a0 = some σ') : Met l y_Mo_call w_Mo_call rm_Mo_call (pc_w D cls b N_M (ce_M ca b) (kM D ca ax b) [.ref (b + 0), .int a0] σ) (qc_v D cls b N_M (ce_M ca b) σ') 0 0 (mm_A b N_M) := by
  refine vv_go (cc := b_Mo_call) (maxL := 5) (ret := none) (fin := σ') (k := fn_Mo_call σ a0) (by decide) rfl (by simp [Value.category]) (Nat.le_of_ble_eq_true rfl) hf ?_
  intro p e s m below meth c hlocks hret S hKK
  have C40 : ∀ (n : Nat) (σ : mm_M) (l2 : Int32) (l3 : Int32) (l4 : Int32), vv p l e (headSpec w_Mo_call rm_Mo_call).room s m [.ref (b + 0), .int a0].toArray below meth c D cls b N_M (ce_M ca b) 5 (MQ below (qc_v D cls b N_M (ce_M ca b) σ') [.ref (b + 0), .int a0].toArray s 0 0 (mm_A b N_M)) σ' (fn_Mo_call_40 a0 n σ l2 l3 l4) σ 40 [some (.ref (b + 0)), some (.int a0), some (.int l2), some (.int l3), some (.int l4)] [] := by
    intro n
    induction n with
    | zero => intro σ l2 l3 l4  h; cases h
    | succ n ih =>
      intro σ l2 l3 l4
      show vv p l e (headSpec w_Mo_call rm_Mo_call).room s m [.ref (b + 0), .int a0].toArray below meth c D cls b N_M (ce_M ca b) 5 (MQ below (qc_v D cls b N_M (ce_M ca b) σ') [.ref (b + 0), .int a0].toArray s 0 0 (mm_A b N_M)) σ' (        (if (a0 < 0 ∨ 4 ≤ a0.toNatClampNeg) then none else
        (if (σ 5 a0.toNatClampNeg) ≤ l4 then
        (some σ)
        else
        (if ((l3 + l4) < 0 ∨ 96 ≤ (l3 + l4).toNatClampNeg) then none else
        (if ((((12 : Int32) * (l2 + (1 : Int32))) + l4) < 0 ∨ 96 ≤ (((12 : Int32) * (l2 + (1 : Int32))) + l4).toNatClampNeg) then none else (nm (mw σ 15 (((12 : Int32) * (l2 + (1 : Int32))) + l4).toNatClampNeg (σ 15 (l3 + l4).toNatClampNeg)) (fun σ11 =>
        (if ((l3 + l4) < 0 ∨ 96 ≤ (l3 + l4).toNatClampNeg) then none else
        (if ((((12 : Int32) * (l2 + (1 : Int32))) + l4) < 0 ∨ 96 ≤ (((12 : Int32) * (l2 + (1 : Int32))) + l4).toNatClampNeg) then none else (nm (mw σ11 14 (((12 : Int32) * (l2 + (1 : Int32))) + l4).toNatClampNeg (σ11 14 (l3 + l4).toNatClampNeg)) (fun σ14 =>
        (fn_Mo_call_40 a0 n σ14 l2 l3 (l4 + (1 : Int32)))))))))))))) σ 40 [some (.ref (b + 0)), some (.int a0), some (.int l2), some (.int l3), some (.int l4)] []
      refine v_iload S d_Mo_call_40 rfl ?_
      refine v_aload_n S d_Mo_call_42 rfl rfl ?_
      refine v_get S (fun w h => List.mem_cons_of_mem _ (i_Mo w h)) hKK.1 0 (by decide) rfl rfl 5 (by decide) (S.2.2.2.2 _ (List.mem_cons_of_mem _ (wd_746))) (fun _ h => h) rfl d_Mo_call_43 ?_
      refine v_iload_n S d_Mo_call_46 rfl rfl ?_
      refine v_iald S hKK.1 5 0 (by decide) rfl rfl d_Mo_call_47 (fun h7 => ?_)
      refine v_icmp_ge S d_Mo_call_48 (tgt := 103) (by decide) (fun h8 => ?_) (fun h8 => ?_)
      · exact v_vret S hret hlocks d_Mo_call_103
      · refine v_aload_n S d_Mo_call_51 rfl rfl ?_
        refine v_get S (fun w h => List.mem_cons_of_mem _ (i_Mo w h)) hKK.1 0 (by decide) rfl rfl 21 (by decide) (S.2.2.2.2 _ (List.mem_cons_of_mem _ (wd_762))) (fun _ h => h) rfl d_Mo_call_52 ?_
        refine v_bipush S d_Mo_call_55 (v := (12 : Int32)) (by decide) ?_
        refine v_iload_n S d_Mo_call_57 rfl rfl ?_
        refine v_iconst S d_Mo_call_58 (v := (1 : Int32)) (by decide) ?_
        refine v_iadd S d_Mo_call_59 ?_
        refine v_imul S d_Mo_call_60 ?_
        refine v_iload S d_Mo_call_61 rfl ?_
        refine v_iadd S d_Mo_call_63 ?_
        refine v_aload_n S d_Mo_call_64 rfl rfl ?_
        refine v_get S (fun w h => List.mem_cons_of_mem _ (i_Mo w h)) hKK.1 0 (by decide) rfl rfl 21 (by decide) (S.2.2.2.2 _ (List.mem_cons_of_mem _ (wd_762))) (fun _ h => h) rfl d_Mo_call_65 ?_
        refine v_iload_n S d_Mo_call_68 rfl rfl ?_
        refine v_iload S d_Mo_call_69 rfl ?_
        refine v_iadd S d_Mo_call_71 ?_
        refine v_iald S hKK.1 15 0 (by decide) rfl rfl d_Mo_call_72 (fun h9 => ?_)
        refine v_iast1 S hKK.1 15 0 (by decide) (fun _ => rfl) rfl d_Mo_call_73 (fun h10 => ?_)
        refine v_sg (fun σ11 eσ11 => ?_)
        refine v_aload_n S d_Mo_call_74 rfl rfl ?_
        refine v_get S (fun w h => List.mem_cons_of_mem _ (i_Mo w h)) hKK.1 0 (by decide) rfl rfl 20 (by decide) (S.2.2.2.2 _ (List.mem_cons_of_mem _ (wd_761))) (fun _ h => h) rfl d_Mo_call_75 ?_
        refine v_bipush S d_Mo_call_78 (v := (12 : Int32)) (by decide) ?_
        refine v_iload_n S d_Mo_call_80 rfl rfl ?_
        refine v_iconst S d_Mo_call_81 (v := (1 : Int32)) (by decide) ?_
        refine v_iadd S d_Mo_call_82 ?_
        refine v_imul S d_Mo_call_83 ?_
        refine v_iload S d_Mo_call_84 rfl ?_
        refine v_iadd S d_Mo_call_86 ?_
        refine v_aload_n S d_Mo_call_87 rfl rfl ?_
        refine v_get S (fun w h => List.mem_cons_of_mem _ (i_Mo w h)) hKK.1 0 (by decide) rfl rfl 20 (by decide) (S.2.2.2.2 _ (List.mem_cons_of_mem _ (wd_761))) (fun _ h => h) rfl d_Mo_call_88 ?_
        refine v_iload_n S d_Mo_call_91 rfl rfl ?_
        refine v_iload S d_Mo_call_92 rfl ?_
        refine v_iadd S d_Mo_call_94 ?_
        refine v_iald S hKK.1 14 0 (by decide) rfl rfl d_Mo_call_95 (fun h12 => ?_)
        refine v_iast1 S hKK.1 14 0 (by decide) (fun _ => rfl) rfl d_Mo_call_96 (fun h13 => ?_)
        refine v_sg (fun σ14 eσ14 => ?_)
        refine v_iinc S d_Mo_call_97 rfl (v := (l4 + (1 : Int32))) (by first | rfl | decide) (by decide) (L2 := [some (.ref (b + 0)), some (.int a0), some (.int l2), some (.int l3), some (.int (l4 + (1 : Int32)))]) rfl ?_
        refine v_goto S d_Mo_call_100 (tgt := 40) (by decide) ?_
        refine v_sub (L2 := [some (.ref (b + 0)), some (.int a0), some (.int l2), some (.int l3), some (.int (l4 + (1 : Int32)))]) (And.intro rfl (And.intro rfl (And.intro rfl (And.intro rfl (And.intro rfl True.intro))))) ?_
        exact ih σ14 l2 l3 (l4 + (1 : Int32))
  unfold fn_Mo_call
  refine v_aload_n S d_Mo_call_0 rfl rfl ?_
  refine v_get S (fun w h => List.mem_cons_of_mem _ (i_Mo w h)) hKK.1 0 (by decide) rfl rfl 16 (by decide) (S.2.2.2.2 _ (List.mem_cons_of_mem _ (wd_757))) (fun _ h => h) rfl d_Mo_call_1 ?_
  refine v_iconst S d_Mo_call_4 (v := (1 : Int32)) (by decide) ?_
  refine v_isub S d_Mo_call_5 ?_
  refine v_top (fun x1 ex1 => ?_)
  refine v_istore_nP S d_Mo_call_6 rfl (by decide) (L2 := [some (.ref (b + 0)), some (.int a0), some (.int x1)]) rfl ?_
  refine v_aload_n S d_Mo_call_7 rfl rfl ?_
  refine v_aload_n S d_Mo_call_8 rfl rfl ?_
  refine v_get S (fun w h => List.mem_cons_of_mem _ (i_Mo w h)) hKK.1 0 (by decide) rfl rfl 5 (by decide) (S.2.2.2.2 _ (List.mem_cons_of_mem _ (wd_746))) (fun _ h => h) rfl d_Mo_call_9 ?_
  refine v_iload_n S d_Mo_call_12 rfl rfl ?_
  refine v_iald S hKK.1 5 0 (by decide) rfl rfl d_Mo_call_13 (fun h2 => ?_)
  refine v_cv (rest := []) (fun _ hg H locs ls hsz hP hS => run_V (As := [.int (σ 5 a0.toNatClampNeg)]) (rest := []) S kM_ok hKK (c_Mo_drop l D ca ax b σ (σ 5 a0.toNatClampNeg) hg) (k_Mo_148 S.2.2.2.2 (fun _ => List.mem_cons_of_mem _) ⟨Nat.le_of_ble_eq_true rfl, Nat.le_of_ble_eq_true rfl⟩) (rc_w hKK.1 hP 0 (by decide) rfl rfl) rfl rfl (Nat.zero_le _) d_Mo_call_14 hsz hP hS) (fun σ3 _ => ?_)
  refine v_bipush S d_Mo_call_17 (v := (12 : Int32)) (by decide) ?_
  refine v_iload_n S d_Mo_call_19 rfl rfl ?_
  refine v_imul S d_Mo_call_20 ?_
  refine v_bipush S d_Mo_call_21 (v := (6 : Int32)) (by decide) ?_
  refine v_iadd S d_Mo_call_23 ?_
  refine v_aload_n S d_Mo_call_24 rfl rfl ?_
  refine v_get S (fun w h => List.mem_cons_of_mem _ (i_Mo w h)) hKK.1 0 (by decide) rfl rfl 19 (by decide) (S.2.2.2.2 _ (List.mem_cons_of_mem _ (wd_760))) (fun _ h => h) rfl d_Mo_call_25 ?_
  refine v_iload_n S d_Mo_call_28 rfl rfl ?_
  refine v_iald S hKK.1 13 0 (by decide) rfl rfl d_Mo_call_29 (fun h4 => ?_)
  refine v_iadd S d_Mo_call_30 ?_
  refine v_top (fun x5 ex5 => ?_)
  refine v_istore_nP S d_Mo_call_31 rfl (by decide) (L2 := [some (.ref (b + 0)), some (.int a0), some (.int x1), some (.int x5)]) rfl ?_
  refine v_aload_n S d_Mo_call_32 rfl rfl ?_
  refine v_iload_n S d_Mo_call_33 rfl rfl ?_
  refine v_cv (rest := []) (fun _ hg H locs ls hsz hP hS => run_V (As := [.int a0]) (rest := []) S kM_ok hKK (c_Mo_enter l D ca ax b σ3 a0 hg) (k_Mo_136 S.2.2.2.2 (fun _ => List.mem_cons_of_mem _) ⟨Nat.le_of_ble_eq_true rfl, Nat.le_of_ble_eq_true rfl⟩) (rc_w hKK.1 hP 0 (by decide) rfl rfl) rfl rfl (Nat.zero_le _) d_Mo_call_34 hsz hP hS) (fun σ6 _ => ?_)
  refine v_iconst S d_Mo_call_37 (v := (0 : Int32)) (by decide) ?_
  refine v_istoreP S d_Mo_call_38 (by decide) (L2 := [some (.ref (b + 0)), some (.int a0), some (.int x1), some (.int x5), some (.int (0 : Int32))]) rfl ?_
  refine v_sub (L2 := [some (.ref (b + 0)), some (.int a0), some (.int x1), some (.int x5), some (.int (0 : Int32))]) (And.intro rfl (And.intro rfl (And.intro rfl (And.intro rfl (And.intro rfl True.intro))))) ?_
  exact C40 fuel0 σ6 x1 x5 (0 : Int32)
def fn_Mo_seen (σ : mm_M) (a0 : Int32) (a1 : Int32) : Option (Int32 × mm_M) :=
    (if a0 = (2 : Int32) then
    (if a1 = 0 then
    (some ((0 : Int32), σ))
    else
    (some ((1 : Int32), σ)))
    else
    (some (a1, σ)))
set_option maxRecDepth 100000 in
set_option maxHeartbeats 40000000 in
theorem c_Mo_seen (l : Launch) (D : va_G) (ca : Nat → ClassId) (ax : Nat → Nat → Nat) (b : Nat) (σ : mm_M) (a0 : Int32) (a1 : Int32)  {r : Int32} {σ' : mm_M} (hf : fn_Mo_seen σ a0 a1 = some (r, σ')) : Met l y_Mo_seen w_Mo_seen rm_Mo_seen (pc_w D cls b N_M (ce_M ca b) (kM D ca ax b) [.int a0, .int a1] σ) (qc_i D cls b N_M (ce_M ca b) r σ') 0 0 (mm_A b N_M) := by
  refine vv_go (cc := b_Mo_seen) (maxL := 2) (ret := (some .int)) (fin := (r, σ')) (k := fn_Mo_seen σ a0 a1) (by decide) rfl (by simp [Value.category]) (Nat.le_of_ble_eq_true rfl) hf ?_
  intro p e s m below meth c hlocks hret S hKK
  unfold fn_Mo_seen
  refine v_iload_n S d_Mo_seen_0 rfl rfl ?_
  refine v_iconst S d_Mo_seen_1 (v := (2 : Int32)) (by decide) ?_
  refine v_icmp_ne S d_Mo_seen_2 (tgt := 17) (by decide) (fun h1 => ?_) (fun h1 => ?_)
  · refine v_iload_n S d_Mo_seen_17 rfl rfl ?_
    exact v_iret S hret hlocks d_Mo_seen_18
  · refine v_iload_n S d_Mo_seen_5 rfl rfl ?_
    refine v_if_ne S d_Mo_seen_6 (tgt := 13) (by decide) (fun h2 => ?_) (fun h2 => ?_)
    · refine v_iconst S d_Mo_seen_13 (v := (1 : Int32)) (by decide) ?_
      refine v_goto S d_Mo_seen_14 (tgt := 18) (by decide) ?_
      exact v_iret S hret hlocks d_Mo_seen_18
    · refine v_iconst S d_Mo_seen_9 (v := (0 : Int32)) (by decide) ?_
      refine v_goto S d_Mo_seen_10 (tgt := 18) (by decide) ?_
      exact v_iret S hret hlocks d_Mo_seen_18
def fn_Mo_giveBack (σ : mm_M)  : Option (mm_M) :=
    (if (((σ 0 16) - (1 : Int32)) < 0 ∨ 8 ≤ ((σ 0 16) - (1 : Int32)).toNatClampNeg) then none else
    (nm ((((12 : Int32) * ((σ 0 16) - (1 : Int32))) + (5 : Int32)) + (σ 13 ((σ 0 16) - (1 : Int32)).toNatClampNeg)) (fun x2 =>
    (if (x2 < 0 ∨ 96 ≤ x2.toNatClampNeg) then none else
    (nm (σ 15 x2.toNatClampNeg) (fun x4 =>
    (if (x2 < 0 ∨ 96 ≤ x2.toNatClampNeg) then none else
    (nm (σ 14 x2.toNatClampNeg) (fun x6 =>
    (nm (mw σ 0 16 ((σ 0 16) - (1 : Int32))) (fun σ7 =>
    (if (σ7 0 16) ≤ 0 then
    (bd (fn_Mo_seen σ7 x4 x6) (fun r10 σ9 =>
    (nm (mw σ9 0 24 r10) (fun σ11 =>
    (some σ11)))))
    else
    (bv (fn_Mo_put σ7 x4 x6) (fun σ12 =>
    (some σ12)))))))))))))))
set_option maxRecDepth 100000 in
set_option maxHeartbeats 40000000 in
theorem c_Mo_giveBack (l : Launch) (D : va_G) (ca : Nat → ClassId) (ax : Nat → Nat → Nat) (b : Nat) (σ : mm_M)   {σ' : mm_M} (hf : fn_Mo_giveBack σ  = some σ') : Met l y_Mo_giveBack w_Mo_giveBack rm_Mo_giveBack (pc_w D cls b N_M (ce_M ca b) (kM D ca ax b) [.ref (b + 0)] σ) (qc_v D cls b N_M (ce_M ca b) σ') 0 0 (mm_A b N_M) := by
  refine vv_go (cc := b_Mo_giveBack) (maxL := 4) (ret := none) (fin := σ') (k := fn_Mo_giveBack σ ) (by decide) rfl (by simp [Value.category]) (Nat.le_of_ble_eq_true rfl) hf ?_
  intro p e s m below meth c hlocks hret S hKK
  unfold fn_Mo_giveBack
  refine v_bipush S d_Mo_giveBack_0 (v := (12 : Int32)) (by decide) ?_
  refine v_aload_n S d_Mo_giveBack_2 rfl rfl ?_
  refine v_get S (fun w h => List.mem_cons_of_mem _ (i_Mo w h)) hKK.1 0 (by decide) rfl rfl 16 (by decide) (S.2.2.2.2 _ (List.mem_cons_of_mem _ (wd_757))) (fun _ h => h) rfl d_Mo_giveBack_3 ?_
  refine v_iconst S d_Mo_giveBack_6 (v := (1 : Int32)) (by decide) ?_
  refine v_isub S d_Mo_giveBack_7 ?_
  refine v_imul S d_Mo_giveBack_8 ?_
  refine v_iconst S d_Mo_giveBack_9 (v := (5 : Int32)) (by decide) ?_
  refine v_iadd S d_Mo_giveBack_10 ?_
  refine v_aload_n S d_Mo_giveBack_11 rfl rfl ?_
  refine v_get S (fun w h => List.mem_cons_of_mem _ (i_Mo w h)) hKK.1 0 (by decide) rfl rfl 19 (by decide) (S.2.2.2.2 _ (List.mem_cons_of_mem _ (wd_760))) (fun _ h => h) rfl d_Mo_giveBack_12 ?_
  refine v_aload_n S d_Mo_giveBack_15 rfl rfl ?_
  refine v_get S (fun w h => List.mem_cons_of_mem _ (i_Mo w h)) hKK.1 0 (by decide) rfl rfl 16 (by decide) (S.2.2.2.2 _ (List.mem_cons_of_mem _ (wd_757))) (fun _ h => h) rfl d_Mo_giveBack_16 ?_
  refine v_iconst S d_Mo_giveBack_19 (v := (1 : Int32)) (by decide) ?_
  refine v_isub S d_Mo_giveBack_20 ?_
  refine v_iald S hKK.1 13 0 (by decide) rfl rfl d_Mo_giveBack_21 (fun h1 => ?_)
  refine v_iadd S d_Mo_giveBack_22 ?_
  refine v_top (fun x2 ex2 => ?_)
  refine v_istore_nP S d_Mo_giveBack_23 rfl (by decide) (L2 := [some (.ref (b + 0)), some (.int x2)]) rfl ?_
  refine v_aload_n S d_Mo_giveBack_24 rfl rfl ?_
  refine v_get S (fun w h => List.mem_cons_of_mem _ (i_Mo w h)) hKK.1 0 (by decide) rfl rfl 21 (by decide) (S.2.2.2.2 _ (List.mem_cons_of_mem _ (wd_762))) (fun _ h => h) rfl d_Mo_giveBack_25 ?_
  refine v_iload_n S d_Mo_giveBack_28 rfl rfl ?_
  refine v_iald S hKK.1 15 0 (by decide) rfl rfl d_Mo_giveBack_29 (fun h3 => ?_)
  refine v_top (fun x4 ex4 => ?_)
  refine v_istore_nP S d_Mo_giveBack_30 rfl (by decide) (L2 := [some (.ref (b + 0)), some (.int x2), some (.int x4)]) rfl ?_
  refine v_aload_n S d_Mo_giveBack_31 rfl rfl ?_
  refine v_get S (fun w h => List.mem_cons_of_mem _ (i_Mo w h)) hKK.1 0 (by decide) rfl rfl 20 (by decide) (S.2.2.2.2 _ (List.mem_cons_of_mem _ (wd_761))) (fun _ h => h) rfl d_Mo_giveBack_32 ?_
  refine v_iload_n S d_Mo_giveBack_35 rfl rfl ?_
  refine v_iald S hKK.1 14 0 (by decide) rfl rfl d_Mo_giveBack_36 (fun h5 => ?_)
  refine v_top (fun x6 ex6 => ?_)
  refine v_istore_nP S d_Mo_giveBack_37 rfl (by decide) (L2 := [some (.ref (b + 0)), some (.int x2), some (.int x4), some (.int x6)]) rfl ?_
  refine v_aload_n S d_Mo_giveBack_38 rfl rfl ?_
  refine v_dup S d_Mo_giveBack_39 rfl ?_
  refine v_get S (fun w h => List.mem_cons_of_mem _ (i_Mo w h)) hKK.1 0 (by decide) rfl rfl 16 (by decide) (S.2.2.2.2 _ (List.mem_cons_of_mem _ (wd_757))) (fun _ h => h) rfl d_Mo_giveBack_40 ?_
  refine v_iconst S d_Mo_giveBack_43 (v := (1 : Int32)) (by decide) ?_
  refine v_isub S d_Mo_giveBack_44 ?_
  refine v_puti S (fun w h => List.mem_cons_of_mem _ (i_Mo w h)) hKK.1 0 (by decide) rfl rfl 16 (by decide) (S.2.2.2.2 _ (List.mem_cons_of_mem _ (wd_757))) (fun _ h => h) t_Mo t_Mo_ok n_Mo rfl (ty := .int) rfl rfl rfl (Nat.le_of_ble_eq_true rfl) rfl d_Mo_giveBack_45 ?_
  refine v_sg (fun σ7 eσ7 => ?_)
  refine v_aload_n S d_Mo_giveBack_48 rfl rfl ?_
  refine v_get S (fun w h => List.mem_cons_of_mem _ (i_Mo w h)) hKK.1 0 (by decide) rfl rfl 16 (by decide) (S.2.2.2.2 _ (List.mem_cons_of_mem _ (wd_757))) (fun _ h => h) rfl d_Mo_giveBack_49 ?_
  refine v_if_le S d_Mo_giveBack_52 (tgt := 64) (by decide) (fun h8 => ?_) (fun h8 => ?_)
  · refine v_aload_n S d_Mo_giveBack_64 rfl rfl ?_
    refine v_iload_n S d_Mo_giveBack_65 rfl rfl ?_
    refine v_iload_n S d_Mo_giveBack_66 rfl rfl ?_
    refine v_ci (rest := [.ref (b + 0)]) (fun _ _ hg H locs ls hsz hP hS => run_S (As := [.int x4, .int x6]) (rest := [.ref (b + 0)]) S kM_ok hKK (c_Mo_seen l D ca ax b σ7 x4 x6 hg) (k_Mo_154 S.2.2.2.2 (fun _ => List.mem_cons_of_mem _) ⟨Nat.le_of_ble_eq_true rfl, Nat.le_of_ble_eq_true rfl⟩) rfl rfl (by simp [Value.category]) d_Mo_giveBack_67 hsz hP hS) (fun r10 σ9 _ => ?_)
    refine v_puti S (fun w h => List.mem_cons_of_mem _ (i_Mo w h)) hKK.1 0 (by decide) rfl rfl 24 (by decide) (S.2.2.2.2 _ (List.mem_cons_of_mem _ (wd_765))) (fun _ h => h) t_Mo t_Mo_ok n_Mo rfl (ty := .int) rfl rfl rfl (Nat.le_of_ble_eq_true rfl) rfl d_Mo_giveBack_70 ?_
    refine v_sg (fun σ11 eσ11 => ?_)
    exact v_vret S hret hlocks d_Mo_giveBack_73
  · refine v_aload_n S d_Mo_giveBack_55 rfl rfl ?_
    refine v_iload_n S d_Mo_giveBack_56 rfl rfl ?_
    refine v_iload_n S d_Mo_giveBack_57 rfl rfl ?_
    refine v_cv (rest := []) (fun _ hg H locs ls hsz hP hS => run_V (As := [.int x4, .int x6]) (rest := []) S kM_ok hKK (c_Mo_put l D ca ax b σ7 x4 x6 hg) (k_Mo_151 S.2.2.2.2 (fun _ => List.mem_cons_of_mem _) ⟨Nat.le_of_ble_eq_true rfl, Nat.le_of_ble_eq_true rfl⟩) (rc_w hKK.1 hP 0 (by decide) rfl rfl) rfl rfl (Nat.zero_le _) d_Mo_giveBack_58 hsz hP hS) (fun σ12 _ => ?_)
    refine v_goto S d_Mo_giveBack_61 (tgt := 73) (by decide) ?_
    exact v_vret S hret hlocks d_Mo_giveBack_73

/-! contracts of 20.model; written by wip/whole/make.py -/
def fn_Mo_about_32 (a0 : Int32) (σ : mm_M) (l2 : Int32) (s0 : Int32) : Option (Int32 × mm_M) :=
    (if (s0 < 0 ∨ 8 ≤ s0.toNatClampNeg) then none else
    (nm ((((12 : Int32) * s0) + (5 : Int32)) + (σ 13 s0.toNatClampNeg)) (fun x5 =>
    (if a0 = (0 : Int32) then
    (if l2 = 0 then
    (some ((0 : Int32), σ))
    else
    (some ((1 : Int32), σ)))
    else
    (if a0 = (1 : Int32) then
    (if l2 = 0 then
    (some ((-1 : Int32), σ))
    else
    (if (s0 < 0 ∨ 8 ≤ s0.toNatClampNeg) then none else
    (some ((σ 12 s0.toNatClampNeg), σ))))
    else
    (if a0 = (2 : Int32) then
    (if l2 = 0 then
    (some ((-1 : Int32), σ))
    else
    (some ((σ 0 16), σ)))
    else
    (if a0 = (3 : Int32) then
    (if l2 = 0 then
    (some ((-1 : Int32), σ))
    else
    (if (s0 < 0 ∨ 8 ≤ s0.toNatClampNeg) then none else
    (some ((σ 13 s0.toNatClampNeg), σ))))
    else
    (if a0 = (4 : Int32) then
    (if l2 = 0 then
    (some ((-1 : Int32), σ))
    else
    (if (s0 < 0 ∨ 8 ≤ s0.toNatClampNeg) then none else
    (if (σ 13 s0.toNatClampNeg) ≤ 0 then
    (some ((-1 : Int32), σ))
    else
    (if (x5 < 0 ∨ 96 ≤ x5.toNatClampNeg) then none else
    (if (x5 < 0 ∨ 96 ≤ x5.toNatClampNeg) then none else
    (bd (fn_Mo_seen σ (σ 15 x5.toNatClampNeg) (σ 14 x5.toNatClampNeg)) (fun r23 σ22 =>
    (some (r23, σ22)))))))))
    else
    (if a0 = (5 : Int32) then
    (some ((σ 0 24), σ))
    else
    (if a0 = (6 : Int32) then
    (some ((σ 0 22), σ))
    else
    (if a0 = (7 : Int32) then
    (some ((σ 0 0), σ))
    else
    (some ((-1 : Int32), σ)))))))))))))
def fn_Mo_about_17 (a0 : Int32) (σ : mm_M) (s0 : Int32) : Option (Int32 × mm_M) :=
    (if s0 = 0 then
    (fn_Mo_about_32 a0 σ s0 (0 : Int32))
    else
    (fn_Mo_about_32 a0 σ s0 ((σ 0 16) - (1 : Int32))))
def fn_Mo_about (σ : mm_M) (a0 : Int32) : Option (Int32 × mm_M) :=
    (nm (mw σ 0 26 (0 : Int32)) (fun σ1 =>
    (if (σ1 0 16) ≤ 0 then
    (fn_Mo_about_17 a0 σ1 (0 : Int32))
    else
    (fn_Mo_about_17 a0 σ1 (1 : Int32)))))
set_option maxRecDepth 100000 in
set_option maxHeartbeats 40000000 in
theorem c_Mo_about (l : Launch) (D : va_G) (ca : Nat → ClassId) (ax : Nat → Nat → Nat) (b : Nat) (σ : mm_M) (a0 : Int32)  {r : Int32} {σ' : mm_M} (hf : fn_Mo_about σ a0 = some (r, σ')) : Met l y_Mo_about w_Mo_about rm_Mo_about (pc_w D cls b N_M (ce_M ca b) (kM D ca ax b) [.ref (b + 0), .int a0] σ) (qc_i D cls b N_M (ce_M ca b) r σ') 0 0 (mm_A b N_M) := by
  refine vv_go (cc := b_Mo_about) (maxL := 5) (ret := (some .int)) (fin := (r, σ')) (k := fn_Mo_about σ a0) (by decide) rfl (by simp [Value.category]) (Nat.le_of_ble_eq_true rfl) hf ?_
  intro p e s m below meth c hlocks hret S hKK
  have C32 : ∀ (σ : mm_M) (l2 : Int32) (s0 : Int32), vv p l e (headSpec w_Mo_about rm_Mo_about).room s m [.ref (b + 0), .int a0].toArray below meth c D cls b N_M (ce_M ca b) 5 (MQ below (qc_i D cls b N_M (ce_M ca b) r σ') [.ref (b + 0), .int a0].toArray s 0 0 (mm_A b N_M)) (r, σ') (fn_Mo_about_32 a0 σ l2 s0) σ 32 [some (.ref (b + 0)), some (.int a0), some (.int l2)] [.int s0] := by
    intro σ l2 s0
    unfold fn_Mo_about_32
    refine v_istore_nP S d_Mo_about_32 rfl (by decide) (L2 := [some (.ref (b + 0)), some (.int a0), some (.int l2), some (.int s0)]) rfl ?_
    refine v_bipush S d_Mo_about_33 (v := (12 : Int32)) (by decide) ?_
    refine v_iload_n S d_Mo_about_35 rfl rfl ?_
    refine v_imul S d_Mo_about_36 ?_
    refine v_iconst S d_Mo_about_37 (v := (5 : Int32)) (by decide) ?_
    refine v_iadd S d_Mo_about_38 ?_
    refine v_aload_n S d_Mo_about_39 rfl rfl ?_
    refine v_get S (fun w h => List.mem_cons_of_mem _ (i_Mo w h)) hKK.1 0 (by decide) rfl rfl 19 (by decide) (S.2.2.2.2 _ (List.mem_cons_of_mem _ (wd_760))) (fun _ h => h) rfl d_Mo_about_40 ?_
    refine v_iload_n S d_Mo_about_43 rfl rfl ?_
    refine v_iald S hKK.1 13 0 (by decide) rfl rfl d_Mo_about_44 (fun h4 => ?_)
    refine v_iadd S d_Mo_about_45 ?_
    refine v_top (fun x5 ex5 => ?_)
    refine v_istoreP S d_Mo_about_46 (by decide) (L2 := [some (.ref (b + 0)), some (.int a0), some (.int l2), some (.int s0), some (.int x5)]) rfl ?_
    refine v_iload_n S d_Mo_about_48 rfl rfl ?_
    refine v_tsw S (0 : Int32) (tgt := 96) d_Mo_about_49 (by decide) (by decide) (off := 47) rfl (by decide) (fun h6 => ?_) (fun h6 => ?_)
    · refine v_iload_n S d_Mo_about_96 rfl rfl ?_
      refine v_if_eq S d_Mo_about_97 (tgt := 104) (by decide) (fun h7 => ?_) (fun h7 => ?_)
      · refine v_iconst S d_Mo_about_104 (v := (0 : Int32)) (by decide) ?_
        exact v_iret S hret hlocks d_Mo_about_105
      · refine v_iconst S d_Mo_about_100 (v := (1 : Int32)) (by decide) ?_
        refine v_goto S d_Mo_about_101 (tgt := 105) (by decide) ?_
        exact v_iret S hret hlocks d_Mo_about_105
    · refine v_tsw S (1 : Int32) (tgt := 106) d_Mo_about_49 (by decide) (by decide) (off := 57) rfl (by decide) (fun h8 => ?_) (fun h8 => ?_)
      · refine v_iload_n S d_Mo_about_106 rfl rfl ?_
        refine v_if_eq S d_Mo_about_107 (tgt := 119) (by decide) (fun h9 => ?_) (fun h9 => ?_)
        · refine v_iconst S d_Mo_about_119 (v := (-1 : Int32)) (by decide) ?_
          exact v_iret S hret hlocks d_Mo_about_120
        · refine v_aload_n S d_Mo_about_110 rfl rfl ?_
          refine v_get S (fun w h => List.mem_cons_of_mem _ (i_Mo w h)) hKK.1 0 (by decide) rfl rfl 18 (by decide) (S.2.2.2.2 _ (List.mem_cons_of_mem _ (wd_759))) (fun _ h => h) rfl d_Mo_about_111 ?_
          refine v_iload_n S d_Mo_about_114 rfl rfl ?_
          refine v_iald S hKK.1 12 0 (by decide) rfl rfl d_Mo_about_115 (fun h10 => ?_)
          refine v_goto S d_Mo_about_116 (tgt := 120) (by decide) ?_
          exact v_iret S hret hlocks d_Mo_about_120
      · refine v_tsw S (2 : Int32) (tgt := 121) d_Mo_about_49 (by decide) (by decide) (off := 72) rfl (by decide) (fun h11 => ?_) (fun h11 => ?_)
        · refine v_iload_n S d_Mo_about_121 rfl rfl ?_
          refine v_if_eq S d_Mo_about_122 (tgt := 132) (by decide) (fun h12 => ?_) (fun h12 => ?_)
          · refine v_iconst S d_Mo_about_132 (v := (-1 : Int32)) (by decide) ?_
            exact v_iret S hret hlocks d_Mo_about_133
          · refine v_aload_n S d_Mo_about_125 rfl rfl ?_
            refine v_get S (fun w h => List.mem_cons_of_mem _ (i_Mo w h)) hKK.1 0 (by decide) rfl rfl 16 (by decide) (S.2.2.2.2 _ (List.mem_cons_of_mem _ (wd_757))) (fun _ h => h) rfl d_Mo_about_126 ?_
            refine v_goto S d_Mo_about_129 (tgt := 133) (by decide) ?_
            exact v_iret S hret hlocks d_Mo_about_133
        · refine v_tsw S (3 : Int32) (tgt := 134) d_Mo_about_49 (by decide) (by decide) (off := 85) rfl (by decide) (fun h13 => ?_) (fun h13 => ?_)
          · refine v_iload_n S d_Mo_about_134 rfl rfl ?_
            refine v_if_eq S d_Mo_about_135 (tgt := 147) (by decide) (fun h14 => ?_) (fun h14 => ?_)
            · refine v_iconst S d_Mo_about_147 (v := (-1 : Int32)) (by decide) ?_
              exact v_iret S hret hlocks d_Mo_about_148
            · refine v_aload_n S d_Mo_about_138 rfl rfl ?_
              refine v_get S (fun w h => List.mem_cons_of_mem _ (i_Mo w h)) hKK.1 0 (by decide) rfl rfl 19 (by decide) (S.2.2.2.2 _ (List.mem_cons_of_mem _ (wd_760))) (fun _ h => h) rfl d_Mo_about_139 ?_
              refine v_iload_n S d_Mo_about_142 rfl rfl ?_
              refine v_iald S hKK.1 13 0 (by decide) rfl rfl d_Mo_about_143 (fun h15 => ?_)
              refine v_goto S d_Mo_about_144 (tgt := 148) (by decide) ?_
              exact v_iret S hret hlocks d_Mo_about_148
          · refine v_tsw S (4 : Int32) (tgt := 149) d_Mo_about_49 (by decide) (by decide) (off := 100) rfl (by decide) (fun h16 => ?_) (fun h16 => ?_)
            · refine v_iload_n S d_Mo_about_149 rfl rfl ?_
              refine v_if_eq S d_Mo_about_150 (tgt := 182) (by decide) (fun h17 => ?_) (fun h17 => ?_)
              · refine v_iconst S d_Mo_about_182 (v := (-1 : Int32)) (by decide) ?_
                exact v_iret S hret hlocks d_Mo_about_183
              · refine v_aload_n S d_Mo_about_153 rfl rfl ?_
                refine v_get S (fun w h => List.mem_cons_of_mem _ (i_Mo w h)) hKK.1 0 (by decide) rfl rfl 19 (by decide) (S.2.2.2.2 _ (List.mem_cons_of_mem _ (wd_760))) (fun _ h => h) rfl d_Mo_about_154 ?_
                refine v_iload_n S d_Mo_about_157 rfl rfl ?_
                refine v_iald S hKK.1 13 0 (by decide) rfl rfl d_Mo_about_158 (fun h18 => ?_)
                refine v_if_le S d_Mo_about_159 (tgt := 182) (by decide) (fun h19 => ?_) (fun h19 => ?_)
                · refine v_iconst S d_Mo_about_182 (v := (-1 : Int32)) (by decide) ?_
                  exact v_iret S hret hlocks d_Mo_about_183
                · refine v_aload_n S d_Mo_about_162 rfl rfl ?_
                  refine v_get S (fun w h => List.mem_cons_of_mem _ (i_Mo w h)) hKK.1 0 (by decide) rfl rfl 21 (by decide) (S.2.2.2.2 _ (List.mem_cons_of_mem _ (wd_762))) (fun _ h => h) rfl d_Mo_about_163 ?_
                  refine v_iload S d_Mo_about_166 rfl ?_
                  refine v_iald S hKK.1 15 0 (by decide) rfl rfl d_Mo_about_168 (fun h20 => ?_)
                  refine v_aload_n S d_Mo_about_169 rfl rfl ?_
                  refine v_get S (fun w h => List.mem_cons_of_mem _ (i_Mo w h)) hKK.1 0 (by decide) rfl rfl 20 (by decide) (S.2.2.2.2 _ (List.mem_cons_of_mem _ (wd_761))) (fun _ h => h) rfl d_Mo_about_170 ?_
                  refine v_iload S d_Mo_about_173 rfl ?_
                  refine v_iald S hKK.1 14 0 (by decide) rfl rfl d_Mo_about_175 (fun h21 => ?_)
                  refine v_ci (rest := []) (fun _ _ hg H locs ls hsz hP hS => run_S (As := [.int (σ 15 x5.toNatClampNeg), .int (σ 14 x5.toNatClampNeg)]) (rest := []) S kM_ok hKK (c_Mo_seen l D ca ax b σ (σ 15 x5.toNatClampNeg) (σ 14 x5.toNatClampNeg) hg) (k_Mo_154 S.2.2.2.2 (fun _ => List.mem_cons_of_mem _) ⟨Nat.le_of_ble_eq_true rfl, Nat.le_of_ble_eq_true rfl⟩) rfl rfl (Nat.zero_le _) d_Mo_about_176 hsz hP hS) (fun r23 σ22 _ => ?_)
                  refine v_goto S d_Mo_about_179 (tgt := 183) (by decide) ?_
                  exact v_iret S hret hlocks d_Mo_about_183
            · refine v_tsw S (5 : Int32) (tgt := 184) d_Mo_about_49 (by decide) (by decide) (off := 135) rfl (by decide) (fun h24 => ?_) (fun h24 => ?_)
              · refine v_aload_n S d_Mo_about_184 rfl rfl ?_
                refine v_get S (fun w h => List.mem_cons_of_mem _ (i_Mo w h)) hKK.1 0 (by decide) rfl rfl 24 (by decide) (S.2.2.2.2 _ (List.mem_cons_of_mem _ (wd_765))) (fun _ h => h) rfl d_Mo_about_185 ?_
                exact v_iret S hret hlocks d_Mo_about_188
              · refine v_tsw S (6 : Int32) (tgt := 189) d_Mo_about_49 (by decide) (by decide) (off := 140) rfl (by decide) (fun h25 => ?_) (fun h25 => ?_)
                · refine v_aload_n S d_Mo_about_189 rfl rfl ?_
                  refine v_get S (fun w h => List.mem_cons_of_mem _ (i_Mo w h)) hKK.1 0 (by decide) rfl rfl 22 (by decide) (S.2.2.2.2 _ (List.mem_cons_of_mem _ (wd_763))) (fun _ h => h) rfl d_Mo_about_190 ?_
                  exact v_iret S hret hlocks d_Mo_about_193
                · refine v_tsw S (7 : Int32) (tgt := 194) d_Mo_about_49 (by decide) (by decide) (off := 145) rfl (by decide) (fun h26 => ?_) (fun h26 => ?_)
                  · refine v_aload_n S d_Mo_about_194 rfl rfl ?_
                    refine v_get S (fun w h => List.mem_cons_of_mem _ (i_Mo w h)) hKK.1 0 (by decide) rfl rfl 0 (by decide) (S.2.2.2.2 _ (List.mem_cons_of_mem _ (wd_741))) (fun _ h => h) rfl d_Mo_about_195 ?_
                    exact v_iret S hret hlocks d_Mo_about_198
                  · refine v_tswD S (tgt := 199) d_Mo_about_49 (by have nh6 := i32_ne (n := 0) h6 (by decide); have nh8 := i32_ne (n := 1) h8 (by decide); have nh11 := i32_ne (n := 2) h11 (by decide); have nh13 := i32_ne (n := 3) h13 (by decide); have nh16 := i32_ne (n := 4) h16 (by decide); have nh24 := i32_ne (n := 5) h24 (by decide); have nh25 := i32_ne (n := 6) h25 (by decide); have nh26 := i32_ne (n := 7) h26 (by decide); omega) (by decide) ?_
                    refine v_iconst S d_Mo_about_199 (v := (-1 : Int32)) (by decide) ?_
                    exact v_iret S hret hlocks d_Mo_about_200
  have C17 : ∀ (σ : mm_M) (s0 : Int32), vv p l e (headSpec w_Mo_about rm_Mo_about).room s m [.ref (b + 0), .int a0].toArray below meth c D cls b N_M (ce_M ca b) 5 (MQ below (qc_i D cls b N_M (ce_M ca b) r σ') [.ref (b + 0), .int a0].toArray s 0 0 (mm_A b N_M)) (r, σ') (fn_Mo_about_17 a0 σ s0) σ 17 [some (.ref (b + 0)), some (.int a0)] [.int s0] := by
    intro σ s0
    unfold fn_Mo_about_17
    refine v_istore_nP S d_Mo_about_17 rfl (by decide) (L2 := [some (.ref (b + 0)), some (.int a0), some (.int s0)]) rfl ?_
    refine v_iload_n S d_Mo_about_18 rfl rfl ?_
    refine v_if_eq S d_Mo_about_19 (tgt := 31) (by decide) (fun h3 => ?_) (fun h3 => ?_)
    · refine v_iconst S d_Mo_about_31 (v := (0 : Int32)) (by decide) ?_
      refine v_sub (L2 := [some (.ref (b + 0)), some (.int a0), some (.int s0)]) (And.intro rfl (And.intro rfl (And.intro rfl True.intro))) ?_
      exact C32 σ s0 (0 : Int32)
    · refine v_aload_n S d_Mo_about_22 rfl rfl ?_
      refine v_get S (fun w h => List.mem_cons_of_mem _ (i_Mo w h)) hKK.1 0 (by decide) rfl rfl 16 (by decide) (S.2.2.2.2 _ (List.mem_cons_of_mem _ (wd_757))) (fun _ h => h) rfl d_Mo_about_23 ?_
      refine v_iconst S d_Mo_about_26 (v := (1 : Int32)) (by decide) ?_
      refine v_isub S d_Mo_about_27 ?_
      refine v_goto S d_Mo_about_28 (tgt := 32) (by decide) ?_
      refine v_sub (L2 := [some (.ref (b + 0)), some (.int a0), some (.int s0)]) (And.intro rfl (And.intro rfl (And.intro rfl True.intro))) ?_
      exact C32 σ s0 ((σ 0 16) - (1 : Int32))
  unfold fn_Mo_about
  refine v_aload_n S d_Mo_about_0 rfl rfl ?_
  refine v_iconst S d_Mo_about_1 (v := (0 : Int32)) (by decide) ?_
  refine v_puti S (fun w h => List.mem_cons_of_mem _ (i_Mo w h)) hKK.1 0 (by decide) rfl rfl 26 (by decide) (S.2.2.2.2 _ (List.mem_cons_of_mem _ (wd_767))) (fun _ h => h) t_Mo t_Mo_ok n_Mo rfl (ty := .int) rfl rfl rfl (Nat.le_of_ble_eq_true rfl) rfl d_Mo_about_2 ?_
  refine v_sg (fun σ1 eσ1 => ?_)
  refine v_aload_n S d_Mo_about_5 rfl rfl ?_
  refine v_get S (fun w h => List.mem_cons_of_mem _ (i_Mo w h)) hKK.1 0 (by decide) rfl rfl 16 (by decide) (S.2.2.2.2 _ (List.mem_cons_of_mem _ (wd_757))) (fun _ h => h) rfl d_Mo_about_6 ?_
  refine v_if_le S d_Mo_about_9 (tgt := 16) (by decide) (fun h2 => ?_) (fun h2 => ?_)
  · refine v_iconst S d_Mo_about_16 (v := (0 : Int32)) (by decide) ?_
    refine v_sub (L2 := [some (.ref (b + 0)), some (.int a0)]) (And.intro rfl (And.intro rfl True.intro)) ?_
    exact C17 σ1 (0 : Int32)
  · refine v_iconst S d_Mo_about_12 (v := (1 : Int32)) (by decide) ?_
    refine v_goto S d_Mo_about_13 (tgt := 17) (by decide) ?_
    refine v_sub (L2 := [some (.ref (b + 0)), some (.int a0)]) (And.intro rfl (And.intro rfl True.intro)) ?_
    exact C17 σ1 (1 : Int32)
def fn_Mo_local (σ : mm_M) (a0 : Int32) : Option (Int32 × mm_M) :=
    (nm (mw σ 0 26 (0 : Int32)) (fun σ1 =>
    (if a0 < 0 then
    (some ((-1 : Int32), σ1))
    else
    (if (5 : Int32) < a0 then
    (some ((-1 : Int32), σ1))
    else
    (if (σ1 0 16) = 0 then
    (some ((-1 : Int32), σ1))
    else
    (if ((((12 : Int32) * ((σ1 0 16) - (1 : Int32))) + a0) < 0 ∨ 96 ≤ (((12 : Int32) * ((σ1 0 16) - (1 : Int32))) + a0).toNatClampNeg) then none else
    (if (σ1 15 (((12 : Int32) * ((σ1 0 16) - (1 : Int32))) + a0).toNatClampNeg) = 0 then
    (some ((-1 : Int32), σ1))
    else
    (if ((((12 : Int32) * ((σ1 0 16) - (1 : Int32))) + a0) < 0 ∨ 96 ≤ (((12 : Int32) * ((σ1 0 16) - (1 : Int32))) + a0).toNatClampNeg) then none else
    (if ((((12 : Int32) * ((σ1 0 16) - (1 : Int32))) + a0) < 0 ∨ 96 ≤ (((12 : Int32) * ((σ1 0 16) - (1 : Int32))) + a0).toNatClampNeg) then none else
    (bd (fn_Mo_seen σ1 (σ1 15 (((12 : Int32) * ((σ1 0 16) - (1 : Int32))) + a0).toNatClampNeg) (σ1 14 (((12 : Int32) * ((σ1 0 16) - (1 : Int32))) + a0).toNatClampNeg)) (fun r10 σ9 =>
    (some (r10, σ9)))))))))))))
set_option maxRecDepth 100000 in
set_option maxHeartbeats 40000000 in
theorem c_Mo_local (l : Launch) (D : va_G) (ca : Nat → ClassId) (ax : Nat → Nat → Nat) (b : Nat) (σ : mm_M) (a0 : Int32)  {r : Int32} {σ' : mm_M} (hf : fn_Mo_local σ a0 = some (r, σ')) : Met l y_Mo_local w_Mo_local rm_Mo_local (pc_w D cls b N_M (ce_M ca b) (kM D ca ax b) [.ref (b + 0), .int a0] σ) (qc_i D cls b N_M (ce_M ca b) r σ') 0 0 (mm_A b N_M) := by
  refine vv_go (cc := b_Mo_local) (maxL := 2) (ret := (some .int)) (fin := (r, σ')) (k := fn_Mo_local σ a0) (by decide) rfl (by simp [Value.category]) (Nat.le_of_ble_eq_true rfl) hf ?_
  intro p e s m below meth c hlocks hret S hKK
  unfold fn_Mo_local
  refine v_aload_n S d_Mo_local_0 rfl rfl ?_
  refine v_iconst S d_Mo_local_1 (v := (0 : Int32)) (by decide) ?_
  refine v_puti S (fun w h => List.mem_cons_of_mem _ (i_Mo w h)) hKK.1 0 (by decide) rfl rfl 26 (by decide) (S.2.2.2.2 _ (List.mem_cons_of_mem _ (wd_767))) (fun _ h => h) t_Mo t_Mo_ok n_Mo rfl (ty := .int) rfl rfl rfl (Nat.le_of_ble_eq_true rfl) rfl d_Mo_local_2 ?_
  refine v_sg (fun σ1 eσ1 => ?_)
  refine v_iload_n S d_Mo_local_5 rfl rfl ?_
  refine v_if_lt S d_Mo_local_6 (tgt := 40) (by decide) (fun h2 => ?_) (fun h2 => ?_)
  · refine v_iconst S d_Mo_local_40 (v := (-1 : Int32)) (by decide) ?_
    exact v_iret S hret hlocks d_Mo_local_41
  · refine v_iload_n S d_Mo_local_9 rfl rfl ?_
    refine v_iconst S d_Mo_local_10 (v := (5 : Int32)) (by decide) ?_
    refine v_icmp_gt S d_Mo_local_11 (tgt := 40) (by decide) (fun h3 => ?_) (fun h3 => ?_)
    · refine v_iconst S d_Mo_local_40 (v := (-1 : Int32)) (by decide) ?_
      exact v_iret S hret hlocks d_Mo_local_41
    · refine v_aload_n S d_Mo_local_14 rfl rfl ?_
      refine v_get S (fun w h => List.mem_cons_of_mem _ (i_Mo w h)) hKK.1 0 (by decide) rfl rfl 16 (by decide) (S.2.2.2.2 _ (List.mem_cons_of_mem _ (wd_757))) (fun _ h => h) rfl d_Mo_local_15 ?_
      refine v_if_eq S d_Mo_local_18 (tgt := 40) (by decide) (fun h4 => ?_) (fun h4 => ?_)
      · refine v_iconst S d_Mo_local_40 (v := (-1 : Int32)) (by decide) ?_
        exact v_iret S hret hlocks d_Mo_local_41
      · refine v_aload_n S d_Mo_local_21 rfl rfl ?_
        refine v_get S (fun w h => List.mem_cons_of_mem _ (i_Mo w h)) hKK.1 0 (by decide) rfl rfl 21 (by decide) (S.2.2.2.2 _ (List.mem_cons_of_mem _ (wd_762))) (fun _ h => h) rfl d_Mo_local_22 ?_
        refine v_bipush S d_Mo_local_25 (v := (12 : Int32)) (by decide) ?_
        refine v_aload_n S d_Mo_local_27 rfl rfl ?_
        refine v_get S (fun w h => List.mem_cons_of_mem _ (i_Mo w h)) hKK.1 0 (by decide) rfl rfl 16 (by decide) (S.2.2.2.2 _ (List.mem_cons_of_mem _ (wd_757))) (fun _ h => h) rfl d_Mo_local_28 ?_
        refine v_iconst S d_Mo_local_31 (v := (1 : Int32)) (by decide) ?_
        refine v_isub S d_Mo_local_32 ?_
        refine v_imul S d_Mo_local_33 ?_
        refine v_iload_n S d_Mo_local_34 rfl rfl ?_
        refine v_iadd S d_Mo_local_35 ?_
        refine v_iald S hKK.1 15 0 (by decide) rfl rfl d_Mo_local_36 (fun h5 => ?_)
        refine v_if_ne S d_Mo_local_37 (tgt := 42) (by decide) (fun h6 => ?_) (fun h6 => ?_)
        · refine v_aload_n S d_Mo_local_42 rfl rfl ?_
          refine v_get S (fun w h => List.mem_cons_of_mem _ (i_Mo w h)) hKK.1 0 (by decide) rfl rfl 21 (by decide) (S.2.2.2.2 _ (List.mem_cons_of_mem _ (wd_762))) (fun _ h => h) rfl d_Mo_local_43 ?_
          refine v_bipush S d_Mo_local_46 (v := (12 : Int32)) (by decide) ?_
          refine v_aload_n S d_Mo_local_48 rfl rfl ?_
          refine v_get S (fun w h => List.mem_cons_of_mem _ (i_Mo w h)) hKK.1 0 (by decide) rfl rfl 16 (by decide) (S.2.2.2.2 _ (List.mem_cons_of_mem _ (wd_757))) (fun _ h => h) rfl d_Mo_local_49 ?_
          refine v_iconst S d_Mo_local_52 (v := (1 : Int32)) (by decide) ?_
          refine v_isub S d_Mo_local_53 ?_
          refine v_imul S d_Mo_local_54 ?_
          refine v_iload_n S d_Mo_local_55 rfl rfl ?_
          refine v_iadd S d_Mo_local_56 ?_
          refine v_iald S hKK.1 15 0 (by decide) rfl rfl d_Mo_local_57 (fun h7 => ?_)
          refine v_aload_n S d_Mo_local_58 rfl rfl ?_
          refine v_get S (fun w h => List.mem_cons_of_mem _ (i_Mo w h)) hKK.1 0 (by decide) rfl rfl 20 (by decide) (S.2.2.2.2 _ (List.mem_cons_of_mem _ (wd_761))) (fun _ h => h) rfl d_Mo_local_59 ?_
          refine v_bipush S d_Mo_local_62 (v := (12 : Int32)) (by decide) ?_
          refine v_aload_n S d_Mo_local_64 rfl rfl ?_
          refine v_get S (fun w h => List.mem_cons_of_mem _ (i_Mo w h)) hKK.1 0 (by decide) rfl rfl 16 (by decide) (S.2.2.2.2 _ (List.mem_cons_of_mem _ (wd_757))) (fun _ h => h) rfl d_Mo_local_65 ?_
          refine v_iconst S d_Mo_local_68 (v := (1 : Int32)) (by decide) ?_
          refine v_isub S d_Mo_local_69 ?_
          refine v_imul S d_Mo_local_70 ?_
          refine v_iload_n S d_Mo_local_71 rfl rfl ?_
          refine v_iadd S d_Mo_local_72 ?_
          refine v_iald S hKK.1 14 0 (by decide) rfl rfl d_Mo_local_73 (fun h8 => ?_)
          refine v_ci (rest := []) (fun _ _ hg H locs ls hsz hP hS => run_S (As := [.int (σ1 15 (((12 : Int32) * ((σ1 0 16) - (1 : Int32))) + a0).toNatClampNeg), .int (σ1 14 (((12 : Int32) * ((σ1 0 16) - (1 : Int32))) + a0).toNatClampNeg)]) (rest := []) S kM_ok hKK (c_Mo_seen l D ca ax b σ1 (σ1 15 (((12 : Int32) * ((σ1 0 16) - (1 : Int32))) + a0).toNatClampNeg) (σ1 14 (((12 : Int32) * ((σ1 0 16) - (1 : Int32))) + a0).toNatClampNeg) hg) (k_Mo_154 S.2.2.2.2 (fun _ => List.mem_cons_of_mem _) ⟨Nat.le_of_ble_eq_true rfl, Nat.le_of_ble_eq_true rfl⟩) rfl rfl (Nat.zero_le _) d_Mo_local_74 hsz hP hS) (fun r10 σ9 _ => ?_)
          exact v_iret S hret hlocks d_Mo_local_77
        · refine v_iconst S d_Mo_local_40 (v := (-1 : Int32)) (by decide) ?_
          exact v_iret S hret hlocks d_Mo_local_41

/-! contracts of 20.model; written by wip/whole/make.py -/
def fn_Mo_perform_90 (a0 : Int32) (σ : mm_M) (l2 : Int32) (l3 : Int32) (s0 : Int32) : Option (mm_M) :=
    (if l2 = 0 then
    (bv (fn_Mo_put σ s0 l3) (fun σ13 =>
    (some σ13)))
    else
    (bv (fn_Mo_put σ s0 (0 : Int32)) (fun σ12 =>
    (some σ12))))
def fn_Mo_perform_80 (a0 : Int32) (σ : mm_M) (l2 : Int32) (l3 : Int32) : Option (mm_M) :=
    (if l2 = 0 then
    (fn_Mo_perform_90 a0 σ l2 l3 (1 : Int32))
    else
    (fn_Mo_perform_90 a0 σ l2 l3 (2 : Int32)))
def fn_Mo_perform_158 (a0 : Int32) (σ : mm_M) (l2 : Int32) (l3 : Int32) : Option (mm_M) :=
    (if l2 = (18 : Int32) then
    (bv (fn_Mo_call σ l3) (fun σ25 =>
    (some σ25)))
    else
    (if l2 = (19 : Int32) then
    (bv (fn_Mo_giveBack σ) (fun σ24 =>
    (some σ24)))
    else
    (if l2 = (7 : Int32) then
    (some σ)
    else
    (bv (fn_Mo_onPlaces σ l2 l3) (fun σ23 =>
    (some σ23))))))
def fn_Mo_perform_69 (a0 : Int32) (σ : mm_M) (l2 : Int32) (l3 : Int32) (s0 : Int32) (s1 : Int32) : Option (mm_M) :=
    (if (s1 < 0 ∨ 8 ≤ s1.toNatClampNeg) then none else (nm (mw σ 12 s1.toNatClampNeg s0) (fun σ8 =>
    (if l2 = 0 then
    (fn_Mo_perform_80 a0 σ8 l2 l3)
    else
    (if l2 = (9 : Int32) then
    (fn_Mo_perform_80 a0 σ8 l2 l3)
    else
    (if (5 : Int32) ≤ l2 then
    (if l2 = (8 : Int32) then
    (bv (fn_Mo_drop σ8 (1 : Int32)) (fun σ17 =>
    (some σ17)))
    else
    (if l2 = (10 : Int32) then
    (bv (fn_Mo_drop σ8 (1 : Int32)) (fun σ28 =>
    (some σ28)))
    else
    (if l2 < (11 : Int32) then
    (fn_Mo_perform_158 a0 σ8 l2 l3)
    else
    (if (14 : Int32) < l2 then
    (fn_Mo_perform_158 a0 σ8 l2 l3)
    else
    (bv (fn_Mo_onArrays σ8 l2) (fun σ27 =>
    (some σ27)))))))
    else
    (bv (fn_Mo_calculate σ8 l2) (fun σ29 =>
    (some σ29)))))))))
def fn_Mo_perform_45 (a0 : Int32) (σ : mm_M) (l2 : Int32) (l3 : Int32) (s0 : Int32) : Option (mm_M) :=
    (if s0 = 0 then
    (fn_Mo_perform_69 a0 σ l2 l3 (a0 + (1 : Int32)) ((σ 0 16) - (1 : Int32)))
    else
    (fn_Mo_perform_69 a0 σ l2 l3 l3 ((σ 0 16) - (1 : Int32))))
def fn_Mo_perform_40 (a0 : Int32) (σ : mm_M) (l2 : Int32) (l3 : Int32) : Option (mm_M) :=
    (fn_Mo_perform_45 a0 σ l2 l3 (1 : Int32))
def fn_Mo_perform_44 (a0 : Int32) (σ : mm_M) (l2 : Int32) (l3 : Int32) : Option (mm_M) :=
    (fn_Mo_perform_45 a0 σ l2 l3 (0 : Int32))
def fn_Mo_perform_32 (a0 : Int32) (σ : mm_M) (l2 : Int32) (l3 : Int32) : Option (mm_M) :=
    (bd (fn_Mo_below σ (0 : Int32)) (fun r32 σ31 =>
    (if r32 = 0 then
    (fn_Mo_perform_40 a0 σ31 l2 l3)
    else
    (fn_Mo_perform_44 a0 σ31 l2 l3))))
def fn_Mo_perform (σ : mm_M) (a0 : Int32) : Option (mm_M) :=
    (if (a0 < 0 ∨ 100 ≤ a0.toNatClampNeg) then none else
    (nm (σ 1 a0.toNatClampNeg) (fun x2 =>
    (if (a0 < 0 ∨ 100 ≤ a0.toNatClampNeg) then none else
    (nm (σ 2 a0.toNatClampNeg) (fun x4 =>
    (if x2 = (7 : Int32) then
    (fn_Mo_perform_40 a0 σ x2 x4)
    else
    (if x2 = (8 : Int32) then
    (fn_Mo_perform_32 a0 σ x2 x4)
    else
    (if x2 = (10 : Int32) then
    (fn_Mo_perform_32 a0 σ x2 x4)
    else
    (fn_Mo_perform_44 a0 σ x2 x4))))))))))
set_option maxRecDepth 100000 in
set_option maxHeartbeats 40000000 in
theorem c_Mo_perform (l : Launch) (D : va_G) (ca : Nat → ClassId) (ax : Nat → Nat → Nat) (b : Nat) (σ : mm_M) (a0 : Int32)  {σ' : mm_M} (hf : fn_Mo_perform σ a0 = some σ') : Met l y_Mo_perform w_Mo_perform rm_Mo_perform (pc_w D cls b N_M (ce_M ca b) (kM D ca ax b) [.ref (b + 0), .int a0] σ) (qc_v D cls b N_M (ce_M ca b) σ') 0 0 (mm_A b N_M) := by
  refine vv_go (cc := b_Mo_perform) (maxL := 5) (ret := none) (fin := σ') (k := fn_Mo_perform σ a0) (by decide) rfl (by simp [Value.category]) (Nat.le_of_ble_eq_true rfl) hf ?_
  intro p e s m below meth c hlocks hret S hKK
  have C90 : ∀ (σ : mm_M) (l2 : Int32) (l3 : Int32) (s0 : Int32), vv p l e (headSpec w_Mo_perform rm_Mo_perform).room s m [.ref (b + 0), .int a0].toArray below meth c D cls b N_M (ce_M ca b) 5 (MQ below (qc_v D cls b N_M (ce_M ca b) σ') [.ref (b + 0), .int a0].toArray s 0 0 (mm_A b N_M)) σ' (fn_Mo_perform_90 a0 σ l2 l3 s0) σ 90 [none, none, some (.int l2), some (.int l3)] [.int s0, .ref (b + 0)] := by
    intro σ l2 l3 s0
    unfold fn_Mo_perform_90
    refine v_iload_n S d_Mo_perform_90 rfl rfl ?_
    refine v_if_ne S d_Mo_perform_91 (tgt := 98) (by decide) (fun h11 => ?_) (fun h11 => ?_)
    · refine v_iconst S d_Mo_perform_98 (v := (0 : Int32)) (by decide) ?_
      refine v_cv (rest := []) (fun _ hg H locs ls hsz hP hS => run_V (As := [.int s0, .int (0 : Int32)]) (rest := []) S kM_ok hKK (c_Mo_put l D ca ax b σ s0 (0 : Int32) hg) (k_Mo_151 S.2.2.2.2 (fun _ => List.mem_cons_of_mem _) ⟨Nat.le_of_ble_eq_true rfl, Nat.le_of_ble_eq_true rfl⟩) (rc_w hKK.1 hP 0 (by decide) rfl rfl) rfl rfl (Nat.zero_le _) d_Mo_perform_99 hsz hP hS) (fun σ12 _ => ?_)
      refine v_goto S d_Mo_perform_102 (tgt := 197) (by decide) ?_
      exact v_vret S hret hlocks d_Mo_perform_197
    · refine v_iload_n S d_Mo_perform_94 rfl rfl ?_
      refine v_goto S d_Mo_perform_95 (tgt := 99) (by decide) ?_
      refine v_cv (rest := []) (fun _ hg H locs ls hsz hP hS => run_V (As := [.int s0, .int l3]) (rest := []) S kM_ok hKK (c_Mo_put l D ca ax b σ s0 l3 hg) (k_Mo_151 S.2.2.2.2 (fun _ => List.mem_cons_of_mem _) ⟨Nat.le_of_ble_eq_true rfl, Nat.le_of_ble_eq_true rfl⟩) (rc_w hKK.1 hP 0 (by decide) rfl rfl) rfl rfl (Nat.zero_le _) d_Mo_perform_99 hsz hP hS) (fun σ13 _ => ?_)
      refine v_goto S d_Mo_perform_102 (tgt := 197) (by decide) ?_
      exact v_vret S hret hlocks d_Mo_perform_197
  have C80 : ∀ (σ : mm_M) (l2 : Int32) (l3 : Int32), vv p l e (headSpec w_Mo_perform rm_Mo_perform).room s m [.ref (b + 0), .int a0].toArray below meth c D cls b N_M (ce_M ca b) 5 (MQ below (qc_v D cls b N_M (ce_M ca b) σ') [.ref (b + 0), .int a0].toArray s 0 0 (mm_A b N_M)) σ' (fn_Mo_perform_80 a0 σ l2 l3) σ 80 [some (.ref (b + 0)), none, some (.int l2), some (.int l3)] [] := by
    intro σ l2 l3
    unfold fn_Mo_perform_80
    refine v_aload_n S d_Mo_perform_80 rfl rfl ?_
    refine v_iload_n S d_Mo_perform_81 rfl rfl ?_
    refine v_if_ne S d_Mo_perform_82 (tgt := 89) (by decide) (fun h10 => ?_) (fun h10 => ?_)
    · refine v_iconst S d_Mo_perform_89 (v := (2 : Int32)) (by decide) ?_
      refine v_sub (L2 := [none, none, some (.int l2), some (.int l3)]) (And.intro rfl (And.intro rfl True.intro)) ?_
      exact C90 σ l2 l3 (2 : Int32)
    · refine v_iconst S d_Mo_perform_85 (v := (1 : Int32)) (by decide) ?_
      refine v_goto S d_Mo_perform_86 (tgt := 90) (by decide) ?_
      refine v_sub (L2 := [none, none, some (.int l2), some (.int l3)]) (And.intro rfl (And.intro rfl True.intro)) ?_
      exact C90 σ l2 l3 (1 : Int32)
  have C158 : ∀ (σ : mm_M) (l2 : Int32) (l3 : Int32), vv p l e (headSpec w_Mo_perform rm_Mo_perform).room s m [.ref (b + 0), .int a0].toArray below meth c D cls b N_M (ce_M ca b) 5 (MQ below (qc_v D cls b N_M (ce_M ca b) σ') [.ref (b + 0), .int a0].toArray s 0 0 (mm_A b N_M)) σ' (fn_Mo_perform_158 a0 σ l2 l3) σ 158 [some (.ref (b + 0)), none, some (.int l2), some (.int l3)] [] := by
    intro σ l2 l3
    unfold fn_Mo_perform_158
    refine v_iload_n S d_Mo_perform_158 rfl rfl ?_
    refine v_bipush S d_Mo_perform_159 (v := (18 : Int32)) (by decide) ?_
    refine v_icmp_ne S d_Mo_perform_161 (tgt := 172) (by decide) (fun h20 => ?_) (fun h20 => ?_)
    · refine v_iload_n S d_Mo_perform_172 rfl rfl ?_
      refine v_bipush S d_Mo_perform_173 (v := (19 : Int32)) (by decide) ?_
      refine v_icmp_ne S d_Mo_perform_175 (tgt := 185) (by decide) (fun h21 => ?_) (fun h21 => ?_)
      · refine v_iload_n S d_Mo_perform_185 rfl rfl ?_
        refine v_bipush S d_Mo_perform_186 (v := (7 : Int32)) (by decide) ?_
        refine v_icmp_eq S d_Mo_perform_188 (tgt := 197) (by decide) (fun h22 => ?_) (fun h22 => ?_)
        · exact v_vret S hret hlocks d_Mo_perform_197
        · refine v_aload_n S d_Mo_perform_191 rfl rfl ?_
          refine v_iload_n S d_Mo_perform_192 rfl rfl ?_
          refine v_iload_n S d_Mo_perform_193 rfl rfl ?_
          refine v_cv (rest := []) (fun _ hg H locs ls hsz hP hS => run_V (As := [.int l2, .int l3]) (rest := []) S kM_ok hKK (c_Mo_onPlaces l D ca ax b σ l2 l3 hg) (k_Mo_172 S.2.2.2.2 (fun _ => List.mem_cons_of_mem _) ⟨Nat.le_of_ble_eq_true rfl, Nat.le_of_ble_eq_true rfl⟩) (rc_w hKK.1 hP 0 (by decide) rfl rfl) rfl rfl (Nat.zero_le _) d_Mo_perform_194 hsz hP hS) (fun σ23 _ => ?_)
          exact v_vret S hret hlocks d_Mo_perform_197
      · refine v_aload_n S d_Mo_perform_178 rfl rfl ?_
        refine v_cv (rest := []) (fun _ hg H locs ls hsz hP hS => run_V (As := []) (rest := []) S kM_ok hKK (c_Mo_giveBack l D ca ax b σ hg) (k_Mo_169 S.2.2.2.2 (fun _ => List.mem_cons_of_mem _) ⟨Nat.le_of_ble_eq_true rfl, Nat.le_of_ble_eq_true rfl⟩) (rc_w hKK.1 hP 0 (by decide) rfl rfl) rfl rfl (Nat.zero_le _) d_Mo_perform_179 hsz hP hS) (fun σ24 _ => ?_)
        refine v_goto S d_Mo_perform_182 (tgt := 197) (by decide) ?_
        exact v_vret S hret hlocks d_Mo_perform_197
    · refine v_aload_n S d_Mo_perform_164 rfl rfl ?_
      refine v_iload_n S d_Mo_perform_165 rfl rfl ?_
      refine v_cv (rest := []) (fun _ hg H locs ls hsz hP hS => run_V (As := [.int l3]) (rest := []) S kM_ok hKK (c_Mo_call l D ca ax b σ l3 hg) (k_Mo_166 S.2.2.2.2 (fun _ => List.mem_cons_of_mem _) ⟨Nat.le_of_ble_eq_true rfl, Nat.le_of_ble_eq_true rfl⟩) (rc_w hKK.1 hP 0 (by decide) rfl rfl) rfl rfl (Nat.zero_le _) d_Mo_perform_166 hsz hP hS) (fun σ25 _ => ?_)
      refine v_goto S d_Mo_perform_169 (tgt := 197) (by decide) ?_
      exact v_vret S hret hlocks d_Mo_perform_197
  have C69 : ∀ (σ : mm_M) (l2 : Int32) (l3 : Int32) (s0 : Int32) (s1 : Int32), vv p l e (headSpec w_Mo_perform rm_Mo_perform).room s m [.ref (b + 0), .int a0].toArray below meth c D cls b N_M (ce_M ca b) 5 (MQ below (qc_v D cls b N_M (ce_M ca b) σ') [.ref (b + 0), .int a0].toArray s 0 0 (mm_A b N_M)) σ' (fn_Mo_perform_69 a0 σ l2 l3 s0 s1) σ 69 [some (.ref (b + 0)), none, some (.int l2), some (.int l3)] [.int s0, .int s1, .ref (b + 12)] := by
    intro σ l2 l3 s0 s1
    unfold fn_Mo_perform_69
    refine v_iast1 S hKK.1 12 0 (by decide) (fun _ => rfl) rfl d_Mo_perform_69 (fun h7 => ?_)
    refine v_sg (fun σ8 eσ8 => ?_)
    refine v_iload_n S d_Mo_perform_70 rfl rfl ?_
    refine v_if_eq S d_Mo_perform_71 (tgt := 80) (by decide) (fun h9 => ?_) (fun h9 => ?_)
    · refine v_sub (L2 := [some (.ref (b + 0)), none, some (.int l2), some (.int l3)]) (And.intro rfl (And.intro rfl (And.intro rfl True.intro))) ?_
      exact C80 σ8 l2 l3
    · refine v_iload_n S d_Mo_perform_74 rfl rfl ?_
      refine v_bipush S d_Mo_perform_75 (v := (9 : Int32)) (by decide) ?_
      refine v_icmp_ne S d_Mo_perform_77 (tgt := 105) (by decide) (fun h14 => ?_) (fun h14 => ?_)
      · refine v_iload_n S d_Mo_perform_105 rfl rfl ?_
        refine v_iconst S d_Mo_perform_106 (v := (5 : Int32)) (by decide) ?_
        refine v_icmp_ge S d_Mo_perform_107 (tgt := 118) (by decide) (fun h15 => ?_) (fun h15 => ?_)
        · refine v_iload_n S d_Mo_perform_118 rfl rfl ?_
          refine v_bipush S d_Mo_perform_119 (v := (8 : Int32)) (by decide) ?_
          refine v_icmp_eq S d_Mo_perform_121 (tgt := 130) (by decide) (fun h16 => ?_) (fun h16 => ?_)
          · refine v_aload_n S d_Mo_perform_130 rfl rfl ?_
            refine v_iconst S d_Mo_perform_131 (v := (1 : Int32)) (by decide) ?_
            refine v_cv (rest := []) (fun _ hg H locs ls hsz hP hS => run_V (As := [.int (1 : Int32)]) (rest := []) S kM_ok hKK (c_Mo_drop l D ca ax b σ8 (1 : Int32) hg) (k_Mo_148 S.2.2.2.2 (fun _ => List.mem_cons_of_mem _) ⟨Nat.le_of_ble_eq_true rfl, Nat.le_of_ble_eq_true rfl⟩) (rc_w hKK.1 hP 0 (by decide) rfl rfl) rfl rfl (Nat.zero_le _) d_Mo_perform_132 hsz hP hS) (fun σ17 _ => ?_)
            refine v_goto S d_Mo_perform_135 (tgt := 197) (by decide) ?_
            exact v_vret S hret hlocks d_Mo_perform_197
          · refine v_iload_n S d_Mo_perform_124 rfl rfl ?_
            refine v_bipush S d_Mo_perform_125 (v := (10 : Int32)) (by decide) ?_
            refine v_icmp_ne S d_Mo_perform_127 (tgt := 138) (by decide) (fun h18 => ?_) (fun h18 => ?_)
            · refine v_iload_n S d_Mo_perform_138 rfl rfl ?_
              refine v_bipush S d_Mo_perform_139 (v := (11 : Int32)) (by decide) ?_
              refine v_icmp_lt S d_Mo_perform_141 (tgt := 158) (by decide) (fun h19 => ?_) (fun h19 => ?_)
              · refine v_sub (L2 := [some (.ref (b + 0)), none, some (.int l2), some (.int l3)]) (And.intro rfl (And.intro rfl (And.intro rfl True.intro))) ?_
                exact C158 σ8 l2 l3
              · refine v_iload_n S d_Mo_perform_144 rfl rfl ?_
                refine v_bipush S d_Mo_perform_145 (v := (14 : Int32)) (by decide) ?_
                refine v_icmp_gt S d_Mo_perform_147 (tgt := 158) (by decide) (fun h26 => ?_) (fun h26 => ?_)
                · refine v_sub (L2 := [some (.ref (b + 0)), none, some (.int l2), some (.int l3)]) (And.intro rfl (And.intro rfl (And.intro rfl True.intro))) ?_
                  exact C158 σ8 l2 l3
                · refine v_aload_n S d_Mo_perform_150 rfl rfl ?_
                  refine v_iload_n S d_Mo_perform_151 rfl rfl ?_
                  refine v_cv (rest := []) (fun _ hg H locs ls hsz hP hS => run_V (As := [.int l2]) (rest := []) S kM_ok hKK (c_Mo_onArrays l D ca ax b σ8 l2 hg) (k_Mo_163 S.2.2.2.2 (fun _ => List.mem_cons_of_mem _) ⟨Nat.le_of_ble_eq_true rfl, Nat.le_of_ble_eq_true rfl⟩) (rc_w hKK.1 hP 0 (by decide) rfl rfl) rfl rfl (Nat.zero_le _) d_Mo_perform_152 hsz hP hS) (fun σ27 _ => ?_)
                  refine v_goto S d_Mo_perform_155 (tgt := 197) (by decide) ?_
                  exact v_vret S hret hlocks d_Mo_perform_197
            · refine v_aload_n S d_Mo_perform_130 rfl rfl ?_
              refine v_iconst S d_Mo_perform_131 (v := (1 : Int32)) (by decide) ?_
              refine v_cv (rest := []) (fun _ hg H locs ls hsz hP hS => run_V (As := [.int (1 : Int32)]) (rest := []) S kM_ok hKK (c_Mo_drop l D ca ax b σ8 (1 : Int32) hg) (k_Mo_148 S.2.2.2.2 (fun _ => List.mem_cons_of_mem _) ⟨Nat.le_of_ble_eq_true rfl, Nat.le_of_ble_eq_true rfl⟩) (rc_w hKK.1 hP 0 (by decide) rfl rfl) rfl rfl (Nat.zero_le _) d_Mo_perform_132 hsz hP hS) (fun σ28 _ => ?_)
              refine v_goto S d_Mo_perform_135 (tgt := 197) (by decide) ?_
              exact v_vret S hret hlocks d_Mo_perform_197
        · refine v_aload_n S d_Mo_perform_110 rfl rfl ?_
          refine v_iload_n S d_Mo_perform_111 rfl rfl ?_
          refine v_cv (rest := []) (fun _ hg H locs ls hsz hP hS => run_V (As := [.int l2]) (rest := []) S kM_ok hKK (c_Mo_calculate l D ca ax b σ8 l2 hg) (k_Mo_160 S.2.2.2.2 (fun _ => List.mem_cons_of_mem _) ⟨Nat.le_of_ble_eq_true rfl, Nat.le_of_ble_eq_true rfl⟩) (rc_w hKK.1 hP 0 (by decide) rfl rfl) rfl rfl (Nat.zero_le _) d_Mo_perform_112 hsz hP hS) (fun σ29 _ => ?_)
          refine v_goto S d_Mo_perform_115 (tgt := 197) (by decide) ?_
          exact v_vret S hret hlocks d_Mo_perform_197
      · refine v_sub (L2 := [some (.ref (b + 0)), none, some (.int l2), some (.int l3)]) (And.intro rfl (And.intro rfl (And.intro rfl True.intro))) ?_
        exact C80 σ8 l2 l3
  have C45 : ∀ (σ : mm_M) (l2 : Int32) (l3 : Int32) (s0 : Int32), vv p l e (headSpec w_Mo_perform rm_Mo_perform).room s m [.ref (b + 0), .int a0].toArray below meth c D cls b N_M (ce_M ca b) 5 (MQ below (qc_v D cls b N_M (ce_M ca b) σ') [.ref (b + 0), .int a0].toArray s 0 0 (mm_A b N_M)) σ' (fn_Mo_perform_45 a0 σ l2 l3 s0) σ 45 [some (.ref (b + 0)), some (.int a0), some (.int l2), some (.int l3)] [.int s0] := by
    intro σ l2 l3 s0
    unfold fn_Mo_perform_45
    refine v_istoreP S d_Mo_perform_45 (by decide) (L2 := [some (.ref (b + 0)), some (.int a0), some (.int l2), some (.int l3), some (.int s0)]) rfl ?_
    refine v_aload_n S d_Mo_perform_47 rfl rfl ?_
    refine v_get S (fun w h => List.mem_cons_of_mem _ (i_Mo w h)) hKK.1 0 (by decide) rfl rfl 18 (by decide) (S.2.2.2.2 _ (List.mem_cons_of_mem _ (wd_759))) (fun _ h => h) rfl d_Mo_perform_48 ?_
    refine v_aload_n S d_Mo_perform_51 rfl rfl ?_
    refine v_get S (fun w h => List.mem_cons_of_mem _ (i_Mo w h)) hKK.1 0 (by decide) rfl rfl 16 (by decide) (S.2.2.2.2 _ (List.mem_cons_of_mem _ (wd_757))) (fun _ h => h) rfl d_Mo_perform_52 ?_
    refine v_iconst S d_Mo_perform_55 (v := (1 : Int32)) (by decide) ?_
    refine v_isub S d_Mo_perform_56 ?_
    refine v_iload S d_Mo_perform_57 rfl ?_
    refine v_if_eq S d_Mo_perform_59 (tgt := 66) (by decide) (fun h6 => ?_) (fun h6 => ?_)
    · refine v_iload_n S d_Mo_perform_66 rfl rfl ?_
      refine v_iconst S d_Mo_perform_67 (v := (1 : Int32)) (by decide) ?_
      refine v_iadd S d_Mo_perform_68 ?_
      refine v_sub (L2 := [some (.ref (b + 0)), none, some (.int l2), some (.int l3)]) (And.intro rfl (And.intro rfl (And.intro rfl True.intro))) ?_
      exact C69 σ l2 l3 (a0 + (1 : Int32)) ((σ 0 16) - (1 : Int32))
    · refine v_iload_n S d_Mo_perform_62 rfl rfl ?_
      refine v_goto S d_Mo_perform_63 (tgt := 69) (by decide) ?_
      refine v_sub (L2 := [some (.ref (b + 0)), none, some (.int l2), some (.int l3)]) (And.intro rfl (And.intro rfl (And.intro rfl True.intro))) ?_
      exact C69 σ l2 l3 l3 ((σ 0 16) - (1 : Int32))
  have C40 : ∀ (σ : mm_M) (l2 : Int32) (l3 : Int32), vv p l e (headSpec w_Mo_perform rm_Mo_perform).room s m [.ref (b + 0), .int a0].toArray below meth c D cls b N_M (ce_M ca b) 5 (MQ below (qc_v D cls b N_M (ce_M ca b) σ') [.ref (b + 0), .int a0].toArray s 0 0 (mm_A b N_M)) σ' (fn_Mo_perform_40 a0 σ l2 l3) σ 40 [some (.ref (b + 0)), some (.int a0), some (.int l2), some (.int l3)] [] := by
    intro σ l2 l3
    unfold fn_Mo_perform_40
    refine v_iconst S d_Mo_perform_40 (v := (1 : Int32)) (by decide) ?_
    refine v_goto S d_Mo_perform_41 (tgt := 45) (by decide) ?_
    refine v_sub (L2 := [some (.ref (b + 0)), some (.int a0), some (.int l2), some (.int l3)]) (And.intro rfl (And.intro rfl (And.intro rfl (And.intro rfl True.intro)))) ?_
    exact C45 σ l2 l3 (1 : Int32)
  have C44 : ∀ (σ : mm_M) (l2 : Int32) (l3 : Int32), vv p l e (headSpec w_Mo_perform rm_Mo_perform).room s m [.ref (b + 0), .int a0].toArray below meth c D cls b N_M (ce_M ca b) 5 (MQ below (qc_v D cls b N_M (ce_M ca b) σ') [.ref (b + 0), .int a0].toArray s 0 0 (mm_A b N_M)) σ' (fn_Mo_perform_44 a0 σ l2 l3) σ 44 [some (.ref (b + 0)), some (.int a0), some (.int l2), some (.int l3)] [] := by
    intro σ l2 l3
    unfold fn_Mo_perform_44
    refine v_iconst S d_Mo_perform_44 (v := (0 : Int32)) (by decide) ?_
    refine v_sub (L2 := [some (.ref (b + 0)), some (.int a0), some (.int l2), some (.int l3)]) (And.intro rfl (And.intro rfl (And.intro rfl (And.intro rfl True.intro)))) ?_
    exact C45 σ l2 l3 (0 : Int32)
  have C32 : ∀ (σ : mm_M) (l2 : Int32) (l3 : Int32), vv p l e (headSpec w_Mo_perform rm_Mo_perform).room s m [.ref (b + 0), .int a0].toArray below meth c D cls b N_M (ce_M ca b) 5 (MQ below (qc_v D cls b N_M (ce_M ca b) σ') [.ref (b + 0), .int a0].toArray s 0 0 (mm_A b N_M)) σ' (fn_Mo_perform_32 a0 σ l2 l3) σ 32 [some (.ref (b + 0)), some (.int a0), some (.int l2), some (.int l3)] [] := by
    intro σ l2 l3
    unfold fn_Mo_perform_32
    refine v_aload_n S d_Mo_perform_32 rfl rfl ?_
    refine v_iconst S d_Mo_perform_33 (v := (0 : Int32)) (by decide) ?_
    refine v_ci (rest := []) (fun _ _ hg H locs ls hsz hP hS => run_V (As := [.int (0 : Int32)]) (rest := []) S kM_ok hKK (c_Mo_below l D ca ax b σ (0 : Int32) hg) (k_Mo_139 S.2.2.2.2 (fun _ => List.mem_cons_of_mem _) ⟨Nat.le_of_ble_eq_true rfl, Nat.le_of_ble_eq_true rfl⟩) (rc_w hKK.1 hP 0 (by decide) rfl rfl) rfl rfl (Nat.zero_le _) d_Mo_perform_34 hsz hP hS) (fun r32 σ31 _ => ?_)
    refine v_if_ne S d_Mo_perform_37 (tgt := 44) (by decide) (fun h33 => ?_) (fun h33 => ?_)
    · refine v_sub (L2 := [some (.ref (b + 0)), some (.int a0), some (.int l2), some (.int l3)]) (And.intro rfl (And.intro rfl (And.intro rfl (And.intro rfl True.intro)))) ?_
      exact C44 σ31 l2 l3
    · refine v_sub (L2 := [some (.ref (b + 0)), some (.int a0), some (.int l2), some (.int l3)]) (And.intro rfl (And.intro rfl (And.intro rfl (And.intro rfl True.intro)))) ?_
      exact C40 σ31 l2 l3
  unfold fn_Mo_perform
  refine v_aload_n S d_Mo_perform_0 rfl rfl ?_
  refine v_get S (fun w h => List.mem_cons_of_mem _ (i_Mo w h)) hKK.1 0 (by decide) rfl rfl 1 (by decide) (S.2.2.2.2 _ (List.mem_cons_of_mem _ (wd_742))) (fun _ h => h) rfl d_Mo_perform_1 ?_
  refine v_iload_n S d_Mo_perform_4 rfl rfl ?_
  refine v_iald S hKK.1 1 0 (by decide) rfl rfl d_Mo_perform_5 (fun h1 => ?_)
  refine v_top (fun x2 ex2 => ?_)
  refine v_istore_nP S d_Mo_perform_6 rfl (by decide) (L2 := [some (.ref (b + 0)), some (.int a0), some (.int x2)]) rfl ?_
  refine v_aload_n S d_Mo_perform_7 rfl rfl ?_
  refine v_get S (fun w h => List.mem_cons_of_mem _ (i_Mo w h)) hKK.1 0 (by decide) rfl rfl 2 (by decide) (S.2.2.2.2 _ (List.mem_cons_of_mem _ (wd_743))) (fun _ h => h) rfl d_Mo_perform_8 ?_
  refine v_iload_n S d_Mo_perform_11 rfl rfl ?_
  refine v_iald S hKK.1 2 0 (by decide) rfl rfl d_Mo_perform_12 (fun h3 => ?_)
  refine v_top (fun x4 ex4 => ?_)
  refine v_istore_nP S d_Mo_perform_13 rfl (by decide) (L2 := [some (.ref (b + 0)), some (.int a0), some (.int x2), some (.int x4)]) rfl ?_
  refine v_iload_n S d_Mo_perform_14 rfl rfl ?_
  refine v_bipush S d_Mo_perform_15 (v := (7 : Int32)) (by decide) ?_
  refine v_icmp_eq S d_Mo_perform_17 (tgt := 40) (by decide) (fun h5 => ?_) (fun h5 => ?_)
  · refine v_sub (L2 := [some (.ref (b + 0)), some (.int a0), some (.int x2), some (.int x4)]) (And.intro rfl (And.intro rfl (And.intro rfl (And.intro rfl True.intro)))) ?_
    exact C40 σ x2 x4
  · refine v_iload_n S d_Mo_perform_20 rfl rfl ?_
    refine v_bipush S d_Mo_perform_21 (v := (8 : Int32)) (by decide) ?_
    refine v_icmp_eq S d_Mo_perform_23 (tgt := 32) (by decide) (fun h30 => ?_) (fun h30 => ?_)
    · refine v_sub (L2 := [some (.ref (b + 0)), some (.int a0), some (.int x2), some (.int x4)]) (And.intro rfl (And.intro rfl (And.intro rfl (And.intro rfl True.intro)))) ?_
      exact C32 σ x2 x4
    · refine v_iload_n S d_Mo_perform_26 rfl rfl ?_
      refine v_bipush S d_Mo_perform_27 (v := (10 : Int32)) (by decide) ?_
      refine v_icmp_ne S d_Mo_perform_29 (tgt := 44) (by decide) (fun h34 => ?_) (fun h34 => ?_)
      · refine v_sub (L2 := [some (.ref (b + 0)), some (.int a0), some (.int x2), some (.int x4)]) (And.intro rfl (And.intro rfl (And.intro rfl (And.intro rfl True.intro)))) ?_
        exact C44 σ x2 x4
      · refine v_sub (L2 := [some (.ref (b + 0)), some (.int a0), some (.int x2), some (.int x4)]) (And.intro rfl (And.intro rfl (And.intro rfl (And.intro rfl True.intro)))) ?_
        exact C32 σ x2 x4
def fn_Mo_stepOnce_63  (σ : mm_M) (l1 : Int32) (s0 : Int32) : Option (Int32 × mm_M) :=
    (nm (mw σ 0 25 s0) (fun σ8 =>
    (if (σ8 0 25) = 0 then
    (bv (fn_Mo_perform σ8 l1) (fun σ10 =>
    (if (1 : Int32) = 0 ∨ (1 : Int32) = 1 then some ((1 : Int32), σ10) else none)))
    else
    (nm (mw σ8 0 16 (0 : Int32)) (fun σ11 =>
    (if (0 : Int32) = 0 ∨ (0 : Int32) = 1 then some ((0 : Int32), σ11) else none))))))
def fn_Mo_stepOnce_43  (σ : mm_M) (l1 : Int32) : Option (Int32 × mm_M) :=
    (fn_Mo_stepOnce_63 σ l1 (1 : Int32))
def fn_Mo_stepOnce (σ : mm_M)  : Option (Int32 × mm_M) :=
    (nm (mw σ 0 25 (0 : Int32)) (fun σ1 =>
    (if (σ1 0 16) = 0 then
    (if (0 : Int32) = 0 ∨ (0 : Int32) = 1 then some ((0 : Int32), σ1) else none)
    else
    (if (((σ1 0 16) - (1 : Int32)) < 0 ∨ 8 ≤ ((σ1 0 16) - (1 : Int32)).toNatClampNeg) then none else
    (nm (σ1 12 ((σ1 0 16) - (1 : Int32)).toNatClampNeg) (fun x4 =>
    (bd (fn_Mo_isAddress σ1 x4) (fun r6 σ5 =>
    (if r6 = 0 then
    (fn_Mo_stepOnce_43 σ5 x4)
    else
    (bd (fn_Mo_fitsValues σ5 x4) (fun r13 σ12 =>
    (if r13 = 0 then
    (fn_Mo_stepOnce_43 σ12 x4)
    else
    (if (x4 < 0 ∨ 100 ≤ x4.toNatClampNeg) then none else
    (if (x4 < 0 ∨ 100 ≤ x4.toNatClampNeg) then none else
    (bd (fn_Mo_trapOf σ12 (σ12 1 x4.toNatClampNeg) (σ12 2 x4.toNatClampNeg)) (fun r18 σ17 =>
    (fn_Mo_stepOnce_63 σ17 x4 r18)))))))))))))))))
set_option maxRecDepth 100000 in
set_option maxHeartbeats 40000000 in
theorem c_Mo_stepOnce (l : Launch) (D : va_G) (ca : Nat → ClassId) (ax : Nat → Nat → Nat) (b : Nat) (σ : mm_M)   {r : Int32} {σ' : mm_M} (hf : fn_Mo_stepOnce σ  = some (r, σ')) : Met l y_Mo_stepOnce w_Mo_stepOnce rm_Mo_stepOnce (pc_w D cls b N_M (ce_M ca b) (kM D ca ax b) [.ref (b + 0)] σ) (qc_i D cls b N_M (ce_M ca b) r σ') 0 0 (mm_A b N_M) := by
  refine vv_go (cc := b_Mo_stepOnce) (maxL := 2) (ret := (some .boolean)) (fin := (r, σ')) (k := fn_Mo_stepOnce σ ) (by decide) rfl (by simp [Value.category]) (Nat.le_of_ble_eq_true rfl) hf ?_
  intro p e s m below meth c hlocks hret S hKK
  have C63 : ∀ (σ : mm_M) (l1 : Int32) (s0 : Int32), vv p l e (headSpec w_Mo_stepOnce rm_Mo_stepOnce).room s m [.ref (b + 0)].toArray below meth c D cls b N_M (ce_M ca b) 2 (MQ below (qc_i D cls b N_M (ce_M ca b) r σ') [.ref (b + 0)].toArray s 0 0 (mm_A b N_M)) (r, σ') (fn_Mo_stepOnce_63  σ l1 s0) σ 63 [some (.ref (b + 0)), some (.int l1)] [.int s0, .ref (b + 0)] := by
    intro σ l1 s0
    unfold fn_Mo_stepOnce_63
    refine v_puti S (fun w h => List.mem_cons_of_mem _ (i_Mo w h)) hKK.1 0 (by decide) rfl rfl 25 (by decide) (S.2.2.2.2 _ (List.mem_cons_of_mem _ (wd_766))) (fun _ h => h) t_Mo t_Mo_ok n_Mo rfl (ty := .int) rfl rfl rfl (Nat.le_of_ble_eq_true rfl) rfl d_Mo_stepOnce_63 ?_
    refine v_sg (fun σ8 eσ8 => ?_)
    refine v_aload_n S d_Mo_stepOnce_66 rfl rfl ?_
    refine v_get S (fun w h => List.mem_cons_of_mem _ (i_Mo w h)) hKK.1 0 (by decide) rfl rfl 25 (by decide) (S.2.2.2.2 _ (List.mem_cons_of_mem _ (wd_766))) (fun _ h => h) rfl d_Mo_stepOnce_67 ?_
    refine v_if_eq S d_Mo_stepOnce_70 (tgt := 80) (by decide) (fun h9 => ?_) (fun h9 => ?_)
    · refine v_aload_n S d_Mo_stepOnce_80 rfl rfl ?_
      refine v_iload_n S d_Mo_stepOnce_81 rfl rfl ?_
      refine v_cv (rest := []) (fun _ hg H locs ls hsz hP hS => run_V (As := [.int l1]) (rest := []) S kM_ok hKK (c_Mo_perform l D ca ax b σ8 l1 hg) (k_Mo_184 S.2.2.2.2 (fun _ => List.mem_cons_of_mem _) ⟨Nat.le_of_ble_eq_true rfl, Nat.le_of_ble_eq_true rfl⟩) (rc_w hKK.1 hP 0 (by decide) rfl rfl) rfl rfl (Nat.zero_le _) d_Mo_stepOnce_82 hsz hP hS) (fun σ10 _ => ?_)
      refine v_iconst S d_Mo_stepOnce_85 (v := (1 : Int32)) (by decide) ?_
      exact v_zret S hret hlocks d_Mo_stepOnce_86
    · refine v_aload_n S d_Mo_stepOnce_73 rfl rfl ?_
      refine v_iconst S d_Mo_stepOnce_74 (v := (0 : Int32)) (by decide) ?_
      refine v_puti S (fun w h => List.mem_cons_of_mem _ (i_Mo w h)) hKK.1 0 (by decide) rfl rfl 16 (by decide) (S.2.2.2.2 _ (List.mem_cons_of_mem _ (wd_757))) (fun _ h => h) t_Mo t_Mo_ok n_Mo rfl (ty := .int) rfl rfl rfl (Nat.le_of_ble_eq_true rfl) rfl d_Mo_stepOnce_75 ?_
      refine v_sg (fun σ11 eσ11 => ?_)
      refine v_iconst S d_Mo_stepOnce_78 (v := (0 : Int32)) (by decide) ?_
      exact v_zret S hret hlocks d_Mo_stepOnce_79
  have C43 : ∀ (σ : mm_M) (l1 : Int32), vv p l e (headSpec w_Mo_stepOnce rm_Mo_stepOnce).room s m [.ref (b + 0)].toArray below meth c D cls b N_M (ce_M ca b) 2 (MQ below (qc_i D cls b N_M (ce_M ca b) r σ') [.ref (b + 0)].toArray s 0 0 (mm_A b N_M)) (r, σ') (fn_Mo_stepOnce_43  σ l1) σ 43 [some (.ref (b + 0)), some (.int l1)] [.ref (b + 0)] := by
    intro σ l1
    unfold fn_Mo_stepOnce_43
    refine v_iconst S d_Mo_stepOnce_43 (v := (1 : Int32)) (by decide) ?_
    refine v_goto S d_Mo_stepOnce_44 (tgt := 63) (by decide) ?_
    refine v_sub (L2 := [some (.ref (b + 0)), some (.int l1)]) (And.intro rfl (And.intro rfl True.intro)) ?_
    exact C63 σ l1 (1 : Int32)
  unfold fn_Mo_stepOnce
  refine v_aload_n S d_Mo_stepOnce_0 rfl rfl ?_
  refine v_iconst S d_Mo_stepOnce_1 (v := (0 : Int32)) (by decide) ?_
  refine v_puti S (fun w h => List.mem_cons_of_mem _ (i_Mo w h)) hKK.1 0 (by decide) rfl rfl 25 (by decide) (S.2.2.2.2 _ (List.mem_cons_of_mem _ (wd_766))) (fun _ h => h) t_Mo t_Mo_ok n_Mo rfl (ty := .int) rfl rfl rfl (Nat.le_of_ble_eq_true rfl) rfl d_Mo_stepOnce_2 ?_
  refine v_sg (fun σ1 eσ1 => ?_)
  refine v_aload_n S d_Mo_stepOnce_5 rfl rfl ?_
  refine v_get S (fun w h => List.mem_cons_of_mem _ (i_Mo w h)) hKK.1 0 (by decide) rfl rfl 16 (by decide) (S.2.2.2.2 _ (List.mem_cons_of_mem _ (wd_757))) (fun _ h => h) rfl d_Mo_stepOnce_6 ?_
  refine v_if_ne S d_Mo_stepOnce_9 (tgt := 14) (by decide) (fun h2 => ?_) (fun h2 => ?_)
  · refine v_aload_n S d_Mo_stepOnce_14 rfl rfl ?_
    refine v_get S (fun w h => List.mem_cons_of_mem _ (i_Mo w h)) hKK.1 0 (by decide) rfl rfl 18 (by decide) (S.2.2.2.2 _ (List.mem_cons_of_mem _ (wd_759))) (fun _ h => h) rfl d_Mo_stepOnce_15 ?_
    refine v_aload_n S d_Mo_stepOnce_18 rfl rfl ?_
    refine v_get S (fun w h => List.mem_cons_of_mem _ (i_Mo w h)) hKK.1 0 (by decide) rfl rfl 16 (by decide) (S.2.2.2.2 _ (List.mem_cons_of_mem _ (wd_757))) (fun _ h => h) rfl d_Mo_stepOnce_19 ?_
    refine v_iconst S d_Mo_stepOnce_22 (v := (1 : Int32)) (by decide) ?_
    refine v_isub S d_Mo_stepOnce_23 ?_
    refine v_iald S hKK.1 12 0 (by decide) rfl rfl d_Mo_stepOnce_24 (fun h3 => ?_)
    refine v_top (fun x4 ex4 => ?_)
    refine v_istore_nP S d_Mo_stepOnce_25 rfl (by decide) (L2 := [some (.ref (b + 0)), some (.int x4)]) rfl ?_
    refine v_aload_n S d_Mo_stepOnce_26 rfl rfl ?_
    refine v_aload_n S d_Mo_stepOnce_27 rfl rfl ?_
    refine v_iload_n S d_Mo_stepOnce_28 rfl rfl ?_
    refine v_ci (rest := [.ref (b + 0)]) (fun _ _ hg H locs ls hsz hP hS => run_V (As := [.int x4]) (rest := [.ref (b + 0)]) S kM_ok hKK (c_Mo_isAddress l D ca ax b σ1 x4 hg) (k_Mo_76 S.2.2.2.2 (fun _ => List.mem_cons_of_mem _) ⟨Nat.le_of_ble_eq_true rfl, Nat.le_of_ble_eq_true rfl⟩) (rc_w hKK.1 hP 0 (by decide) rfl rfl) rfl rfl (by simp [Value.category]) d_Mo_stepOnce_29 hsz hP hS) (fun r6 σ5 _ => ?_)
    refine v_if_eq S d_Mo_stepOnce_32 (tgt := 43) (by decide) (fun h7 => ?_) (fun h7 => ?_)
    · refine v_sub (L2 := [some (.ref (b + 0)), some (.int x4)]) (And.intro rfl (And.intro rfl True.intro)) ?_
      exact C43 σ5 x4
    · refine v_aload_n S d_Mo_stepOnce_35 rfl rfl ?_
      refine v_iload_n S d_Mo_stepOnce_36 rfl rfl ?_
      refine v_ci (rest := [.ref (b + 0)]) (fun _ _ hg H locs ls hsz hP hS => run_V (As := [.int x4]) (rest := [.ref (b + 0)]) S kM_ok hKK (c_Mo_fitsValues l D ca ax b σ5 x4 hg) (k_Mo_178 S.2.2.2.2 (fun _ => List.mem_cons_of_mem _) ⟨Nat.le_of_ble_eq_true rfl, Nat.le_of_ble_eq_true rfl⟩) (rc_w hKK.1 hP 0 (by decide) rfl rfl) rfl rfl (by simp [Value.category]) d_Mo_stepOnce_37 hsz hP hS) (fun r13 σ12 _ => ?_)
      refine v_if_ne S d_Mo_stepOnce_40 (tgt := 47) (by decide) (fun h14 => ?_) (fun h14 => ?_)
      · refine v_aload_n S d_Mo_stepOnce_47 rfl rfl ?_
        refine v_aload_n S d_Mo_stepOnce_48 rfl rfl ?_
        refine v_get S (fun w h => List.mem_cons_of_mem _ (i_Mo w h)) hKK.1 0 (by decide) rfl rfl 1 (by decide) (S.2.2.2.2 _ (List.mem_cons_of_mem _ (wd_742))) (fun _ h => h) rfl d_Mo_stepOnce_49 ?_
        refine v_iload_n S d_Mo_stepOnce_52 rfl rfl ?_
        refine v_iald S hKK.1 1 0 (by decide) rfl rfl d_Mo_stepOnce_53 (fun h15 => ?_)
        refine v_aload_n S d_Mo_stepOnce_54 rfl rfl ?_
        refine v_get S (fun w h => List.mem_cons_of_mem _ (i_Mo w h)) hKK.1 0 (by decide) rfl rfl 2 (by decide) (S.2.2.2.2 _ (List.mem_cons_of_mem _ (wd_743))) (fun _ h => h) rfl d_Mo_stepOnce_55 ?_
        refine v_iload_n S d_Mo_stepOnce_58 rfl rfl ?_
        refine v_iald S hKK.1 2 0 (by decide) rfl rfl d_Mo_stepOnce_59 (fun h16 => ?_)
        refine v_ci (rest := [.ref (b + 0)]) (fun _ _ hg H locs ls hsz hP hS => run_V (As := [.int (σ12 1 x4.toNatClampNeg), .int (σ12 2 x4.toNatClampNeg)]) (rest := [.ref (b + 0)]) S kM_ok hKK (c_Mo_trapOf l D ca ax b σ12 (σ12 1 x4.toNatClampNeg) (σ12 2 x4.toNatClampNeg) hg) (k_Mo_181 S.2.2.2.2 (fun _ => List.mem_cons_of_mem _) ⟨Nat.le_of_ble_eq_true rfl, Nat.le_of_ble_eq_true rfl⟩) (rc_w hKK.1 hP 0 (by decide) rfl rfl) rfl rfl (by simp [Value.category]) d_Mo_stepOnce_60 hsz hP hS) (fun r18 σ17 _ => ?_)
        refine v_sub (L2 := [some (.ref (b + 0)), some (.int x4)]) (And.intro rfl (And.intro rfl True.intro)) ?_
        exact C63 σ17 x4 r18
      · refine v_sub (L2 := [some (.ref (b + 0)), some (.int x4)]) (And.intro rfl (And.intro rfl True.intro)) ?_
        exact C43 σ12 x4
  · refine v_iconst S d_Mo_stepOnce_12 (v := (0 : Int32)) (by decide) ?_
    exact v_zret S hret hlocks d_Mo_stepOnce_13
def fn_Mo_step (σ : mm_M)  : Option (Int32 × mm_M) :=
    (bd (fn_Mo_stepOnce σ) (fun r2 σ1 =>
    (nm (mw σ1 0 26 (σ1 0 25)) (fun σ3 =>
    (if (σ3 0 16) ≤ 0 then
    (some ((0 : Int32), σ3))
    else
    (some ((1 : Int32), σ3)))))))
set_option maxRecDepth 100000 in
set_option maxHeartbeats 40000000 in
theorem c_Mo_step (l : Launch) (D : va_G) (ca : Nat → ClassId) (ax : Nat → Nat → Nat) (b : Nat) (σ : mm_M)   {r : Int32} {σ' : mm_M} (hf : fn_Mo_step σ  = some (r, σ')) : Met l y_Mo_step w_Mo_step rm_Mo_step (pc_w D cls b N_M (ce_M ca b) (kM D ca ax b) [.ref (b + 0)] σ) (qc_i D cls b N_M (ce_M ca b) r σ') 0 0 (mm_A b N_M) := by
  refine vv_go (cc := b_Mo_step) (maxL := 2) (ret := (some .int)) (fin := (r, σ')) (k := fn_Mo_step σ ) (by decide) rfl (by simp [Value.category]) (Nat.le_of_ble_eq_true rfl) hf ?_
  intro p e s m below meth c hlocks hret S hKK
  unfold fn_Mo_step
  refine v_aload_n S d_Mo_step_0 rfl rfl ?_
  refine v_ci (rest := []) (fun _ _ hg H locs ls hsz hP hS => run_V (As := []) (rest := []) S kM_ok hKK (c_Mo_stepOnce l D ca ax b σ hg) (k_Mo_187 S.2.2.2.2 (fun _ => List.mem_cons_of_mem _) ⟨Nat.le_of_ble_eq_true rfl, Nat.le_of_ble_eq_true rfl⟩) (rc_w hKK.1 hP 0 (by decide) rfl rfl) rfl rfl (Nat.zero_le _) d_Mo_step_1 hsz hP hS) (fun r2 σ1 _ => ?_)
  refine v_istore_nP S d_Mo_step_4 rfl (by decide) (L2 := [some (.ref (b + 0)), some (.int r2)]) rfl ?_
  refine v_aload_n S d_Mo_step_5 rfl rfl ?_
  refine v_aload_n S d_Mo_step_6 rfl rfl ?_
  refine v_get S (fun w h => List.mem_cons_of_mem _ (i_Mo w h)) hKK.1 0 (by decide) rfl rfl 25 (by decide) (S.2.2.2.2 _ (List.mem_cons_of_mem _ (wd_766))) (fun _ h => h) rfl d_Mo_step_7 ?_
  refine v_puti S (fun w h => List.mem_cons_of_mem _ (i_Mo w h)) hKK.1 0 (by decide) rfl rfl 26 (by decide) (S.2.2.2.2 _ (List.mem_cons_of_mem _ (wd_767))) (fun _ h => h) t_Mo t_Mo_ok n_Mo rfl (ty := .int) rfl rfl rfl (Nat.le_of_ble_eq_true rfl) rfl d_Mo_step_10 ?_
  refine v_sg (fun σ3 eσ3 => ?_)
  refine v_aload_n S d_Mo_step_13 rfl rfl ?_
  refine v_get S (fun w h => List.mem_cons_of_mem _ (i_Mo w h)) hKK.1 0 (by decide) rfl rfl 16 (by decide) (S.2.2.2.2 _ (List.mem_cons_of_mem _ (wd_757))) (fun _ h => h) rfl d_Mo_step_14 ?_
  refine v_if_le S d_Mo_step_17 (tgt := 24) (by decide) (fun h4 => ?_) (fun h4 => ?_)
  · refine v_iconst S d_Mo_step_24 (v := (0 : Int32)) (by decide) ?_
    exact v_iret S hret hlocks d_Mo_step_25
  · refine v_iconst S d_Mo_step_20 (v := (1 : Int32)) (by decide) ?_
    refine v_goto S d_Mo_step_21 (tgt := 25) (by decide) ?_
    exact v_iret S hret hlocks d_Mo_step_25
def fn_Mo_steps_92 (a0 : Int32) (σ : mm_M) (l2 : Int32) (s0 : Int32) : Option (Int32 × mm_M) :=
    (nm (mw σ 0 26 s0) (fun σ7 =>
    (if (σ7 0 26) = 0 then
    (some (l2, σ7))
    else
    (some ((0 : Int32), σ7)))))
def fn_Mo_steps_60 (a0 : Int32) (σ : mm_M) (l2 : Int32) : Option (Int32 × mm_M) :=
    (if (σ 0 26) = 0 then
    (if (σ 0 25) = 0 then
    (fn_Mo_steps_92 a0 σ l2 (0 : Int32))
    else
    (fn_Mo_steps_92 a0 σ l2 ((σ 0 25) + (1 : Int32))))
    else
    (fn_Mo_steps_92 a0 σ l2 (σ 0 26)))
def fn_Mo_steps_28 (a0 : Int32) : Nat → mm_M → Int32 → Option (Int32 × mm_M)
  | 0, _, _ => none
  | n + 1, σ, l2 =>
    (if (σ 0 26) = 0 then
    (if (σ 0 25) = 0 then
    (if a0 ≤ l2 then
    (fn_Mo_steps_60 a0 σ l2)
    else
    (bd (fn_Mo_stepOnce σ) (fun r12 σ11 =>
    (if r12 = 0 then
    (fn_Mo_steps_60 a0 σ11 l2)
    else
    (fn_Mo_steps_28 a0 n σ11 (l2 + (1 : Int32)))))))
    else
    (fn_Mo_steps_60 a0 σ l2))
    else
    (fn_Mo_steps_60 a0 σ l2))
def fn_Mo_steps (σ : mm_M) (a0 : Int32) : Option (Int32 × mm_M) :=
    (if a0 < (1 : Int32) then
    (nm (mw σ 0 26 (1 : Int32)) (fun σ2 =>
    (nm (mw σ2 0 25 (0 : Int32)) (fun σ3 =>
    (fn_Mo_steps_28 a0 fuel0 σ3 (0 : Int32))))))
    else
    (if a0 ≤ (200 : Int32) then
    (nm (mw σ 0 26 (0 : Int32)) (fun σ16 =>
    (nm (mw σ16 0 25 (0 : Int32)) (fun σ17 =>
    (fn_Mo_steps_28 a0 fuel0 σ17 (0 : Int32))))))
    else
    (nm (mw σ 0 26 (1 : Int32)) (fun σ18 =>
    (nm (mw σ18 0 25 (0 : Int32)) (fun σ19 =>
    (fn_Mo_steps_28 a0 fuel0 σ19 (0 : Int32))))))))
set_option maxRecDepth 100000 in
set_option maxHeartbeats 40000000 in
theorem c_Mo_steps (l : Launch) (D : va_G) (ca : Nat → ClassId) (ax : Nat → Nat → Nat) (b : Nat) (σ : mm_M) (a0 : Int32)  {r : Int32} {σ' : mm_M} (hf : fn_Mo_steps σ a0 = some (r, σ')) : Met l y_Mo_steps w_Mo_steps rm_Mo_steps (pc_w D cls b N_M (ce_M ca b) (kM D ca ax b) [.ref (b + 0), .int a0] σ) (qc_i D cls b N_M (ce_M ca b) r σ') 0 0 (mm_A b N_M) := by
  refine vv_go (cc := b_Mo_steps) (maxL := 3) (ret := (some .int)) (fin := (r, σ')) (k := fn_Mo_steps σ a0) (by decide) rfl (by simp [Value.category]) (Nat.le_of_ble_eq_true rfl) hf ?_
  intro p e s m below meth c hlocks hret S hKK
  have C92 : ∀ (σ : mm_M) (l2 : Int32) (s0 : Int32), vv p l e (headSpec w_Mo_steps rm_Mo_steps).room s m [.ref (b + 0), .int a0].toArray below meth c D cls b N_M (ce_M ca b) 3 (MQ below (qc_i D cls b N_M (ce_M ca b) r σ') [.ref (b + 0), .int a0].toArray s 0 0 (mm_A b N_M)) (r, σ') (fn_Mo_steps_92 a0 σ l2 s0) σ 92 [some (.ref (b + 0)), none, some (.int l2)] [.int s0, .ref (b + 0)] := by
    intro σ l2 s0
    unfold fn_Mo_steps_92
    refine v_puti S (fun w h => List.mem_cons_of_mem _ (i_Mo w h)) hKK.1 0 (by decide) rfl rfl 26 (by decide) (S.2.2.2.2 _ (List.mem_cons_of_mem _ (wd_767))) (fun _ h => h) t_Mo t_Mo_ok n_Mo rfl (ty := .int) rfl rfl rfl (Nat.le_of_ble_eq_true rfl) rfl d_Mo_steps_92 ?_
    refine v_sg (fun σ7 eσ7 => ?_)
    refine v_aload_n S d_Mo_steps_95 rfl rfl ?_
    refine v_get S (fun w h => List.mem_cons_of_mem _ (i_Mo w h)) hKK.1 0 (by decide) rfl rfl 26 (by decide) (S.2.2.2.2 _ (List.mem_cons_of_mem _ (wd_767))) (fun _ h => h) rfl d_Mo_steps_96 ?_
    refine v_if_ne S d_Mo_steps_99 (tgt := 106) (by decide) (fun h8 => ?_) (fun h8 => ?_)
    · refine v_iconst S d_Mo_steps_106 (v := (0 : Int32)) (by decide) ?_
      exact v_iret S hret hlocks d_Mo_steps_107
    · refine v_iload_n S d_Mo_steps_102 rfl rfl ?_
      refine v_goto S d_Mo_steps_103 (tgt := 107) (by decide) ?_
      exact v_iret S hret hlocks d_Mo_steps_107
  have C60 : ∀ (σ : mm_M) (l2 : Int32), vv p l e (headSpec w_Mo_steps rm_Mo_steps).room s m [.ref (b + 0), .int a0].toArray below meth c D cls b N_M (ce_M ca b) 3 (MQ below (qc_i D cls b N_M (ce_M ca b) r σ') [.ref (b + 0), .int a0].toArray s 0 0 (mm_A b N_M)) (r, σ') (fn_Mo_steps_60 a0 σ l2) σ 60 [some (.ref (b + 0)), none, some (.int l2)] [] := by
    intro σ l2
    unfold fn_Mo_steps_60
    refine v_aload_n S d_Mo_steps_60 rfl rfl ?_
    refine v_aload_n S d_Mo_steps_61 rfl rfl ?_
    refine v_get S (fun w h => List.mem_cons_of_mem _ (i_Mo w h)) hKK.1 0 (by decide) rfl rfl 26 (by decide) (S.2.2.2.2 _ (List.mem_cons_of_mem _ (wd_767))) (fun _ h => h) rfl d_Mo_steps_62 ?_
    refine v_if_eq S d_Mo_steps_65 (tgt := 75) (by decide) (fun h5 => ?_) (fun h5 => ?_)
    · refine v_aload_n S d_Mo_steps_75 rfl rfl ?_
      refine v_get S (fun w h => List.mem_cons_of_mem _ (i_Mo w h)) hKK.1 0 (by decide) rfl rfl 25 (by decide) (S.2.2.2.2 _ (List.mem_cons_of_mem _ (wd_766))) (fun _ h => h) rfl d_Mo_steps_76 ?_
      refine v_if_ne S d_Mo_steps_79 (tgt := 86) (by decide) (fun h6 => ?_) (fun h6 => ?_)
      · refine v_aload_n S d_Mo_steps_86 rfl rfl ?_
        refine v_get S (fun w h => List.mem_cons_of_mem _ (i_Mo w h)) hKK.1 0 (by decide) rfl rfl 25 (by decide) (S.2.2.2.2 _ (List.mem_cons_of_mem _ (wd_766))) (fun _ h => h) rfl d_Mo_steps_87 ?_
        refine v_iconst S d_Mo_steps_90 (v := (1 : Int32)) (by decide) ?_
        refine v_iadd S d_Mo_steps_91 ?_
        refine v_sub (L2 := [some (.ref (b + 0)), none, some (.int l2)]) (And.intro rfl (And.intro rfl True.intro)) ?_
        exact C92 σ l2 ((σ 0 25) + (1 : Int32))
      · refine v_iconst S d_Mo_steps_82 (v := (0 : Int32)) (by decide) ?_
        refine v_goto S d_Mo_steps_83 (tgt := 92) (by decide) ?_
        refine v_sub (L2 := [some (.ref (b + 0)), none, some (.int l2)]) (And.intro rfl (And.intro rfl True.intro)) ?_
        exact C92 σ l2 (0 : Int32)
    · refine v_aload_n S d_Mo_steps_68 rfl rfl ?_
      refine v_get S (fun w h => List.mem_cons_of_mem _ (i_Mo w h)) hKK.1 0 (by decide) rfl rfl 26 (by decide) (S.2.2.2.2 _ (List.mem_cons_of_mem _ (wd_767))) (fun _ h => h) rfl d_Mo_steps_69 ?_
      refine v_goto S d_Mo_steps_72 (tgt := 92) (by decide) ?_
      refine v_sub (L2 := [some (.ref (b + 0)), none, some (.int l2)]) (And.intro rfl (And.intro rfl True.intro)) ?_
      exact C92 σ l2 (σ 0 26)
  have C28 : ∀ (n : Nat) (σ : mm_M) (l2 : Int32), vv p l e (headSpec w_Mo_steps rm_Mo_steps).room s m [.ref (b + 0), .int a0].toArray below meth c D cls b N_M (ce_M ca b) 3 (MQ below (qc_i D cls b N_M (ce_M ca b) r σ') [.ref (b + 0), .int a0].toArray s 0 0 (mm_A b N_M)) (r, σ') (fn_Mo_steps_28 a0 n σ l2) σ 28 [some (.ref (b + 0)), some (.int a0), some (.int l2)] [] := by
    intro n
    induction n with
    | zero => intro σ l2  h; cases h
    | succ n ih =>
      intro σ l2
      show vv p l e (headSpec w_Mo_steps rm_Mo_steps).room s m [.ref (b + 0), .int a0].toArray below meth c D cls b N_M (ce_M ca b) 3 (MQ below (qc_i D cls b N_M (ce_M ca b) r σ') [.ref (b + 0), .int a0].toArray s 0 0 (mm_A b N_M)) (r, σ') (        (if (σ 0 26) = 0 then
        (if (σ 0 25) = 0 then
        (if a0 ≤ l2 then
        (fn_Mo_steps_60 a0 σ l2)
        else
        (bd (fn_Mo_stepOnce σ) (fun r12 σ11 =>
        (if r12 = 0 then
        (fn_Mo_steps_60 a0 σ11 l2)
        else
        (fn_Mo_steps_28 a0 n σ11 (l2 + (1 : Int32)))))))
        else
        (fn_Mo_steps_60 a0 σ l2))
        else
        (fn_Mo_steps_60 a0 σ l2))) σ 28 [some (.ref (b + 0)), some (.int a0), some (.int l2)] []
      refine v_aload_n S d_Mo_steps_28 rfl rfl ?_
      refine v_get S (fun w h => List.mem_cons_of_mem _ (i_Mo w h)) hKK.1 0 (by decide) rfl rfl 26 (by decide) (S.2.2.2.2 _ (List.mem_cons_of_mem _ (wd_767))) (fun _ h => h) rfl d_Mo_steps_29 ?_
      refine v_if_ne S d_Mo_steps_32 (tgt := 60) (by decide) (fun h4 => ?_) (fun h4 => ?_)
      · refine v_sub (L2 := [some (.ref (b + 0)), none, some (.int l2)]) (And.intro rfl (And.intro rfl True.intro)) ?_
        exact C60 σ l2
      · refine v_aload_n S d_Mo_steps_35 rfl rfl ?_
        refine v_get S (fun w h => List.mem_cons_of_mem _ (i_Mo w h)) hKK.1 0 (by decide) rfl rfl 25 (by decide) (S.2.2.2.2 _ (List.mem_cons_of_mem _ (wd_766))) (fun _ h => h) rfl d_Mo_steps_36 ?_
        refine v_if_ne S d_Mo_steps_39 (tgt := 60) (by decide) (fun h9 => ?_) (fun h9 => ?_)
        · refine v_sub (L2 := [some (.ref (b + 0)), none, some (.int l2)]) (And.intro rfl (And.intro rfl True.intro)) ?_
          exact C60 σ l2
        · refine v_iload_n S d_Mo_steps_42 rfl rfl ?_
          refine v_iload_n S d_Mo_steps_43 rfl rfl ?_
          refine v_icmp_ge S d_Mo_steps_44 (tgt := 60) (by decide) (fun h10 => ?_) (fun h10 => ?_)
          · refine v_sub (L2 := [some (.ref (b + 0)), none, some (.int l2)]) (And.intro rfl (And.intro rfl True.intro)) ?_
            exact C60 σ l2
          · refine v_aload_n S d_Mo_steps_47 rfl rfl ?_
            refine v_ci (rest := []) (fun _ _ hg H locs ls hsz hP hS => run_V (As := []) (rest := []) S kM_ok hKK (c_Mo_stepOnce l D ca ax b σ hg) (k_Mo_187 S.2.2.2.2 (fun _ => List.mem_cons_of_mem _) ⟨Nat.le_of_ble_eq_true rfl, Nat.le_of_ble_eq_true rfl⟩) (rc_w hKK.1 hP 0 (by decide) rfl rfl) rfl rfl (Nat.zero_le _) d_Mo_steps_48 hsz hP hS) (fun r12 σ11 _ => ?_)
            refine v_if_eq S d_Mo_steps_51 (tgt := 60) (by decide) (fun h13 => ?_) (fun h13 => ?_)
            · refine v_sub (L2 := [some (.ref (b + 0)), none, some (.int l2)]) (And.intro rfl (And.intro rfl True.intro)) ?_
              exact C60 σ11 l2
            · refine v_iinc S d_Mo_steps_54 rfl (v := (l2 + (1 : Int32))) (by first | rfl | decide) (by decide) (L2 := [some (.ref (b + 0)), some (.int a0), some (.int (l2 + (1 : Int32)))]) rfl ?_
              refine v_goto S d_Mo_steps_57 (tgt := 28) (by decide) ?_
              refine v_sub (L2 := [some (.ref (b + 0)), some (.int a0), some (.int (l2 + (1 : Int32)))]) (And.intro rfl (And.intro rfl (And.intro rfl True.intro))) ?_
              exact ih σ11 (l2 + (1 : Int32))
  unfold fn_Mo_steps
  refine v_aload_n S d_Mo_steps_0 rfl rfl ?_
  refine v_iload_n S d_Mo_steps_1 rfl rfl ?_
  refine v_iconst S d_Mo_steps_2 (v := (1 : Int32)) (by decide) ?_
  refine v_icmp_lt S d_Mo_steps_3 (tgt := 13) (by decide) (fun h1 => ?_) (fun h1 => ?_)
  · refine v_iconst S d_Mo_steps_13 (v := (1 : Int32)) (by decide) ?_
    refine v_goto S d_Mo_steps_14 (tgt := 18) (by decide) ?_
    refine v_puti S (fun w h => List.mem_cons_of_mem _ (i_Mo w h)) hKK.1 0 (by decide) rfl rfl 26 (by decide) (S.2.2.2.2 _ (List.mem_cons_of_mem _ (wd_767))) (fun _ h => h) t_Mo t_Mo_ok n_Mo rfl (ty := .int) rfl rfl rfl (Nat.le_of_ble_eq_true rfl) rfl d_Mo_steps_18 ?_
    refine v_sg (fun σ2 eσ2 => ?_)
    refine v_iconst S d_Mo_steps_21 (v := (0 : Int32)) (by decide) ?_
    refine v_istore_nP S d_Mo_steps_22 rfl (by decide) (L2 := [some (.ref (b + 0)), some (.int a0), some (.int (0 : Int32))]) rfl ?_
    refine v_aload_n S d_Mo_steps_23 rfl rfl ?_
    refine v_iconst S d_Mo_steps_24 (v := (0 : Int32)) (by decide) ?_
    refine v_puti S (fun w h => List.mem_cons_of_mem _ (i_Mo w h)) hKK.1 0 (by decide) rfl rfl 25 (by decide) (S.2.2.2.2 _ (List.mem_cons_of_mem _ (wd_766))) (fun _ h => h) t_Mo t_Mo_ok n_Mo rfl (ty := .int) rfl rfl rfl (Nat.le_of_ble_eq_true rfl) rfl d_Mo_steps_25 ?_
    refine v_sg (fun σ3 eσ3 => ?_)
    refine v_sub (L2 := [some (.ref (b + 0)), some (.int a0), some (.int (0 : Int32))]) (And.intro rfl (And.intro rfl (And.intro rfl True.intro))) ?_
    exact C28 fuel0 σ3 (0 : Int32)
  · refine v_iload_n S d_Mo_steps_6 rfl rfl ?_
    refine v_sipush S d_Mo_steps_7 (v := (200 : Int32)) (by decide) ?_
    refine v_icmp_le S d_Mo_steps_10 (tgt := 17) (by decide) (fun h15 => ?_) (fun h15 => ?_)
    · refine v_iconst S d_Mo_steps_17 (v := (0 : Int32)) (by decide) ?_
      refine v_puti S (fun w h => List.mem_cons_of_mem _ (i_Mo w h)) hKK.1 0 (by decide) rfl rfl 26 (by decide) (S.2.2.2.2 _ (List.mem_cons_of_mem _ (wd_767))) (fun _ h => h) t_Mo t_Mo_ok n_Mo rfl (ty := .int) rfl rfl rfl (Nat.le_of_ble_eq_true rfl) rfl d_Mo_steps_18 ?_
      refine v_sg (fun σ16 eσ16 => ?_)
      refine v_iconst S d_Mo_steps_21 (v := (0 : Int32)) (by decide) ?_
      refine v_istore_nP S d_Mo_steps_22 rfl (by decide) (L2 := [some (.ref (b + 0)), some (.int a0), some (.int (0 : Int32))]) rfl ?_
      refine v_aload_n S d_Mo_steps_23 rfl rfl ?_
      refine v_iconst S d_Mo_steps_24 (v := (0 : Int32)) (by decide) ?_
      refine v_puti S (fun w h => List.mem_cons_of_mem _ (i_Mo w h)) hKK.1 0 (by decide) rfl rfl 25 (by decide) (S.2.2.2.2 _ (List.mem_cons_of_mem _ (wd_766))) (fun _ h => h) t_Mo t_Mo_ok n_Mo rfl (ty := .int) rfl rfl rfl (Nat.le_of_ble_eq_true rfl) rfl d_Mo_steps_25 ?_
      refine v_sg (fun σ17 eσ17 => ?_)
      refine v_sub (L2 := [some (.ref (b + 0)), some (.int a0), some (.int (0 : Int32))]) (And.intro rfl (And.intro rfl (And.intro rfl True.intro))) ?_
      exact C28 fuel0 σ17 (0 : Int32)
    · refine v_iconst S d_Mo_steps_13 (v := (1 : Int32)) (by decide) ?_
      refine v_goto S d_Mo_steps_14 (tgt := 18) (by decide) ?_
      refine v_puti S (fun w h => List.mem_cons_of_mem _ (i_Mo w h)) hKK.1 0 (by decide) rfl rfl 26 (by decide) (S.2.2.2.2 _ (List.mem_cons_of_mem _ (wd_767))) (fun _ h => h) t_Mo t_Mo_ok n_Mo rfl (ty := .int) rfl rfl rfl (Nat.le_of_ble_eq_true rfl) rfl d_Mo_steps_18 ?_
      refine v_sg (fun σ18 eσ18 => ?_)
      refine v_iconst S d_Mo_steps_21 (v := (0 : Int32)) (by decide) ?_
      refine v_istore_nP S d_Mo_steps_22 rfl (by decide) (L2 := [some (.ref (b + 0)), some (.int a0), some (.int (0 : Int32))]) rfl ?_
      refine v_aload_n S d_Mo_steps_23 rfl rfl ?_
      refine v_iconst S d_Mo_steps_24 (v := (0 : Int32)) (by decide) ?_
      refine v_puti S (fun w h => List.mem_cons_of_mem _ (i_Mo w h)) hKK.1 0 (by decide) rfl rfl 25 (by decide) (S.2.2.2.2 _ (List.mem_cons_of_mem _ (wd_766))) (fun _ h => h) t_Mo t_Mo_ok n_Mo rfl (ty := .int) rfl rfl rfl (Nat.le_of_ble_eq_true rfl) rfl d_Mo_steps_25 ?_
      refine v_sg (fun σ19 eσ19 => ?_)
      refine v_sub (L2 := [some (.ref (b + 0)), some (.int a0), some (.int (0 : Int32))]) (And.intro rfl (And.intro rfl (And.intro rfl True.intro))) ?_
      exact C28 fuel0 σ19 (0 : Int32)

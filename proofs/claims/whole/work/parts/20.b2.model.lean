/-! contracts of 20.model; written by wip/whole/make.py -/
def fn_Mo_tryOut_214 (a0 : Int32) (a1 : Int32) (σ : mm_M)  : Option (mm_M) :=
    (if (σ 0 13) = 0 then
    (if (σ 0 14) = 0 then
    (nm (mw σ 0 13 (0 : Int32)) (fun σ17 =>
    (some σ17)))
    else
    (bd (fn_Mo_isAddress σ (a1 + (1 : Int32))) (fun r19 σ18 =>
    (if r19 = 0 then
    (nm (mw σ18 0 13 (1 : Int32)) (fun σ22 =>
    (some σ22)))
    else
    (nm (mw σ18 0 13 (0 : Int32)) (fun σ21 =>
    (some σ21)))))))
    else
    (nm (mw σ 0 13 (1 : Int32)) (fun σ15 =>
    (some σ15))))
def fn_Mo_tryOut_101 (a0 : Int32) (a1 : Int32) (σ : mm_M) (l3 : Int32) (l4 : Int32) : Option (mm_M) :=
    (bv (fn_Mo_tryLocal σ l3 l4) (fun σ13 =>
    (fn_Mo_tryOut_214 a0 a1 σ13)))
def fn_Mo_tryOut_173 (a0 : Int32) (a1 : Int32) (σ : mm_M) (l3 : Int32) (l4 : Int32) : Option (mm_M) :=
    (if l3 = (18 : Int32) then
    (bv (fn_Mo_tryCall σ l4) (fun σ34 =>
    (fn_Mo_tryOut_214 a0 a1 σ34)))
    else
    (if l3 = (19 : Int32) then
    (bd (fn_Mo_kindOf σ a0 (3 : Int32)) (fun r31 σ30 =>
    (bd (fn_Mo_take σ30 r31) (fun r33 σ32 =>
    (fn_Mo_tryOut_214 a0 a1 σ32)))))
    else
    (nm (mw σ 0 13 (1 : Int32)) (fun σ29 =>
    (fn_Mo_tryOut_214 a0 a1 σ29)))))
def fn_Mo_tryOut_153 (a0 : Int32) (a1 : Int32) (σ : mm_M) (l3 : Int32) (l4 : Int32) : Option (mm_M) :=
    (if l3 < (15 : Int32) then
    (fn_Mo_tryOut_173 a0 a1 σ l3 l4)
    else
    (if (17 : Int32) < l3 then
    (fn_Mo_tryOut_173 a0 a1 σ l3 l4)
    else
    (bv (fn_Mo_tryPlaces σ l3) (fun σ36 =>
    (fn_Mo_tryOut_214 a0 a1 σ36)))))
def fn_Mo_tryOut_133 (a0 : Int32) (a1 : Int32) (σ : mm_M) (l3 : Int32) (l4 : Int32) : Option (mm_M) :=
    (if l3 < (12 : Int32) then
    (fn_Mo_tryOut_153 a0 a1 σ l3 l4)
    else
    (if (14 : Int32) < l3 then
    (fn_Mo_tryOut_153 a0 a1 σ l3 l4)
    else
    (bv (fn_Mo_tryArray σ l3) (fun σ38 =>
    (fn_Mo_tryOut_214 a0 a1 σ38)))))
def fn_Mo_tryOut_78 (a0 : Int32) (a1 : Int32) (σ : mm_M) (l3 : Int32) (l4 : Int32) : Option (mm_M) :=
    (if l3 = 0 then
    (bv (fn_Mo_give σ (1 : Int32)) (fun σ41 =>
    (fn_Mo_tryOut_214 a0 a1 σ41)))
    else
    (if l3 = (5 : Int32) then
    (fn_Mo_tryOut_101 a0 a1 σ l3 l4)
    else
    (if l3 = (6 : Int32) then
    (fn_Mo_tryOut_101 a0 a1 σ l3 l4)
    else
    (if l3 < (7 : Int32) then
    (fn_Mo_tryOut_133 a0 a1 σ l3 l4)
    else
    (if (11 : Int32) < l3 then
    (fn_Mo_tryOut_133 a0 a1 σ l3 l4)
    else
    (bv (fn_Mo_tryGo σ l3 l4) (fun σ40 =>
    (fn_Mo_tryOut_214 a0 a1 σ40))))))))
def fn_Mo_tryOut_38 (a0 : Int32) (a1 : Int32) (σ : mm_M) (l3 : Int32) (l4 : Int32) (s0 : Int32) : Option (mm_M) :=
    (if s0 = 0 ∨ s0 = 1 then
    (nm (mw σ 0 14 s0) (fun σ7 =>
    (nm (mw σ7 0 15 (-1 : Int32)) (fun σ9 =>
    (if l3 < (1 : Int32) then
    (fn_Mo_tryOut_78 a0 a1 σ9 l3 l4)
    else
    (if (4 : Int32) < l3 then
    (fn_Mo_tryOut_78 a0 a1 σ9 l3 l4)
    else
    (bd (fn_Mo_take σ9 (1 : Int32)) (fun r44 σ43 =>
    (bd (fn_Mo_take σ43 (1 : Int32)) (fun r46 σ45 =>
    (bv (fn_Mo_give σ45 (1 : Int32)) (fun σ47 =>
    (fn_Mo_tryOut_214 a0 a1 σ47)))))))))))))
    else none)
def fn_Mo_tryOut_37 (a0 : Int32) (a1 : Int32) (σ : mm_M) (l3 : Int32) (l4 : Int32) : Option (mm_M) :=
    (fn_Mo_tryOut_38 a0 a1 σ l3 l4 (0 : Int32))
def fn_Mo_tryOut (σ : mm_M) (a0 : Int32) (a1 : Int32) : Option (mm_M) :=
    (if (a1 < 0 ∨ 100 ≤ a1.toNatClampNeg) then none else
    (nm (σ 1 a1.toNatClampNeg) (fun x2 =>
    (if (a1 < 0 ∨ 100 ≤ a1.toNatClampNeg) then none else
    (nm (σ 2 a1.toNatClampNeg) (fun x4 =>
    (nm (mw σ 0 13 (0 : Int32)) (fun σ5 =>
    (if x2 = (7 : Int32) then
    (fn_Mo_tryOut_37 a0 a1 σ5 x2 x4)
    else
    (if x2 = (19 : Int32) then
    (fn_Mo_tryOut_37 a0 a1 σ5 x2 x4)
    else
    (fn_Mo_tryOut_38 a0 a1 σ5 x2 x4 (1 : Int32))))))))))))
set_option maxRecDepth 100000 in
set_option maxHeartbeats 40000000 in
theorem c_Mo_tryOut (l : Launch) (D : va_G) (ca : Nat → ClassId) (ax : Nat → Nat → Nat) (b : Nat) (σ : mm_M) (a0 : Int32) (a1 : Int32)  {σ' : mm_M} (hf : fn_Mo_tryOut σ a0 a1 = some σ') : Met l y_Mo_tryOut w_Mo_tryOut rm_Mo_tryOut (pc_w D cls b N_M (ce_M ca b) (kM D ca ax b) [.ref (b + 0), .int a0, .int a1] σ) (qc_v D cls b N_M (ce_M ca b) σ') 0 0 (mm_A b N_M) := by
  refine vv_go (cc := b_Mo_tryOut) (maxL := 7) (ret := none) (fin := σ') (k := fn_Mo_tryOut σ a0 a1) (by decide) rfl (by simp [Value.category]) (Nat.le_of_ble_eq_true rfl) hf ?_
  intro p e s m below meth c hlocks hret S hKK
  have C214 : ∀ (σ : mm_M) , vv p l e (headSpec w_Mo_tryOut rm_Mo_tryOut).room s m [.ref (b + 0), .int a0, .int a1].toArray below meth c D cls b N_M (ce_M ca b) 7 (MQ below (qc_v D cls b N_M (ce_M ca b) σ') [.ref (b + 0), .int a0, .int a1].toArray s 0 0 (mm_A b N_M)) σ' (fn_Mo_tryOut_214 a0 a1 σ ) σ 214 [some (.ref (b + 0)), none, some (.int a1)] [] := by
    intro σ
    unfold fn_Mo_tryOut_214
    refine v_aload_n S d_Mo_tryOut_214 rfl rfl ?_
    refine v_aload_n S d_Mo_tryOut_215 rfl rfl ?_
    refine v_get S (fun w h => List.mem_cons_of_mem _ (i_Mo w h)) hKK.1 0 (by decide) rfl rfl 13 (by decide) (S.2.2.2.2 _ (List.mem_cons_of_mem _ (wd_754))) (fun _ h => h) rfl d_Mo_tryOut_216 ?_
    refine v_if_ne S d_Mo_tryOut_219 (tgt := 239) (by decide) (fun h14 => ?_) (fun h14 => ?_)
    · refine v_iconst S d_Mo_tryOut_239 (v := (1 : Int32)) (by decide) ?_
      refine v_goto S d_Mo_tryOut_240 (tgt := 244) (by decide) ?_
      refine v_puti S (fun w h => List.mem_cons_of_mem _ (i_Mo w h)) hKK.1 0 (by decide) rfl rfl 13 (by decide) (S.2.2.2.2 _ (List.mem_cons_of_mem _ (wd_754))) (fun _ h => h) t_Mo t_Mo_ok n_Mo rfl (ty := .boolean) rfl rfl rfl (Nat.le_of_ble_eq_true rfl) rfl d_Mo_tryOut_244 ?_
      refine v_sg (fun σ15 eσ15 => ?_)
      exact v_vret S hret hlocks d_Mo_tryOut_247
    · refine v_aload_n S d_Mo_tryOut_222 rfl rfl ?_
      refine v_get S (fun w h => List.mem_cons_of_mem _ (i_Mo w h)) hKK.1 0 (by decide) rfl rfl 14 (by decide) (S.2.2.2.2 _ (List.mem_cons_of_mem _ (wd_755))) (fun _ h => h) rfl d_Mo_tryOut_223 ?_
      refine v_if_eq S d_Mo_tryOut_226 (tgt := 243) (by decide) (fun h16 => ?_) (fun h16 => ?_)
      · refine v_iconst S d_Mo_tryOut_243 (v := (0 : Int32)) (by decide) ?_
        refine v_puti S (fun w h => List.mem_cons_of_mem _ (i_Mo w h)) hKK.1 0 (by decide) rfl rfl 13 (by decide) (S.2.2.2.2 _ (List.mem_cons_of_mem _ (wd_754))) (fun _ h => h) t_Mo t_Mo_ok n_Mo rfl (ty := .boolean) rfl rfl rfl (Nat.le_of_ble_eq_true rfl) rfl d_Mo_tryOut_244 ?_
        refine v_sg (fun σ17 eσ17 => ?_)
        exact v_vret S hret hlocks d_Mo_tryOut_247
      · refine v_aload_n S d_Mo_tryOut_229 rfl rfl ?_
        refine v_iload_n S d_Mo_tryOut_230 rfl rfl ?_
        refine v_iconst S d_Mo_tryOut_231 (v := (1 : Int32)) (by decide) ?_
        refine v_iadd S d_Mo_tryOut_232 ?_
        refine v_ci (rest := [.ref (b + 0)]) (fun _ _ hg H locs ls hsz hP hS => run_V (As := [.int (a1 + (1 : Int32))]) (rest := [.ref (b + 0)]) S kM_ok hKK (c_Mo_isAddress l D ca ax b σ (a1 + (1 : Int32)) hg) (k_Mo_76 S.2.2.2.2 (fun _ => List.mem_cons_of_mem _) ⟨Nat.le_of_ble_eq_true rfl, Nat.le_of_ble_eq_true rfl⟩) (rc_w hKK.1 hP 0 (by decide) rfl rfl) rfl rfl (by simp [Value.category]) d_Mo_tryOut_233 hsz hP hS) (fun r19 σ18 _ => ?_)
        refine v_if_ne S d_Mo_tryOut_236 (tgt := 243) (by decide) (fun h20 => ?_) (fun h20 => ?_)
        · refine v_iconst S d_Mo_tryOut_243 (v := (0 : Int32)) (by decide) ?_
          refine v_puti S (fun w h => List.mem_cons_of_mem _ (i_Mo w h)) hKK.1 0 (by decide) rfl rfl 13 (by decide) (S.2.2.2.2 _ (List.mem_cons_of_mem _ (wd_754))) (fun _ h => h) t_Mo t_Mo_ok n_Mo rfl (ty := .boolean) rfl rfl rfl (Nat.le_of_ble_eq_true rfl) rfl d_Mo_tryOut_244 ?_
          refine v_sg (fun σ21 eσ21 => ?_)
          exact v_vret S hret hlocks d_Mo_tryOut_247
        · refine v_iconst S d_Mo_tryOut_239 (v := (1 : Int32)) (by decide) ?_
          refine v_goto S d_Mo_tryOut_240 (tgt := 244) (by decide) ?_
          refine v_puti S (fun w h => List.mem_cons_of_mem _ (i_Mo w h)) hKK.1 0 (by decide) rfl rfl 13 (by decide) (S.2.2.2.2 _ (List.mem_cons_of_mem _ (wd_754))) (fun _ h => h) t_Mo t_Mo_ok n_Mo rfl (ty := .boolean) rfl rfl rfl (Nat.le_of_ble_eq_true rfl) rfl d_Mo_tryOut_244 ?_
          refine v_sg (fun σ22 eσ22 => ?_)
          exact v_vret S hret hlocks d_Mo_tryOut_247
  have C101 : ∀ (σ : mm_M) (l3 : Int32) (l4 : Int32), vv p l e (headSpec w_Mo_tryOut rm_Mo_tryOut).room s m [.ref (b + 0), .int a0, .int a1].toArray below meth c D cls b N_M (ce_M ca b) 7 (MQ below (qc_v D cls b N_M (ce_M ca b) σ') [.ref (b + 0), .int a0, .int a1].toArray s 0 0 (mm_A b N_M)) σ' (fn_Mo_tryOut_101 a0 a1 σ l3 l4) σ 101 [some (.ref (b + 0)), none, some (.int a1), some (.int l3), some (.int l4)] [] := by
    intro σ l3 l4
    unfold fn_Mo_tryOut_101
    refine v_aload_n S d_Mo_tryOut_101 rfl rfl ?_
    refine v_iload_n S d_Mo_tryOut_102 rfl rfl ?_
    refine v_iload S d_Mo_tryOut_103 rfl ?_
    refine v_cv (rest := []) (fun _ hg H locs ls hsz hP hS => run_V (As := [.int l3, .int l4]) (rest := []) S kM_ok hKK (c_Mo_tryLocal l D ca ax b σ l3 l4 hg) (k_Mo_94 S.2.2.2.2 (fun _ => List.mem_cons_of_mem _) ⟨Nat.le_of_ble_eq_true rfl, Nat.le_of_ble_eq_true rfl⟩) (rc_w hKK.1 hP 0 (by decide) rfl rfl) rfl rfl (Nat.zero_le _) d_Mo_tryOut_105 hsz hP hS) (fun σ13 _ => ?_)
    refine v_goto S d_Mo_tryOut_108 (tgt := 214) (by decide) ?_
    refine v_sub (L2 := [some (.ref (b + 0)), none, some (.int a1)]) (And.intro rfl (And.intro rfl True.intro)) ?_
    exact C214 σ13
  have C173 : ∀ (σ : mm_M) (l3 : Int32) (l4 : Int32), vv p l e (headSpec w_Mo_tryOut rm_Mo_tryOut).room s m [.ref (b + 0), .int a0, .int a1].toArray below meth c D cls b N_M (ce_M ca b) 7 (MQ below (qc_v D cls b N_M (ce_M ca b) σ') [.ref (b + 0), .int a0, .int a1].toArray s 0 0 (mm_A b N_M)) σ' (fn_Mo_tryOut_173 a0 a1 σ l3 l4) σ 173 [some (.ref (b + 0)), some (.int a0), some (.int a1), some (.int l3), some (.int l4)] [] := by
    intro σ l3 l4
    unfold fn_Mo_tryOut_173
    refine v_iload_n S d_Mo_tryOut_173 rfl rfl ?_
    refine v_bipush S d_Mo_tryOut_174 (v := (18 : Int32)) (by decide) ?_
    refine v_icmp_ne S d_Mo_tryOut_176 (tgt := 188) (by decide) (fun h27 => ?_) (fun h27 => ?_)
    · refine v_iload_n S d_Mo_tryOut_188 rfl rfl ?_
      refine v_bipush S d_Mo_tryOut_189 (v := (19 : Int32)) (by decide) ?_
      refine v_icmp_ne S d_Mo_tryOut_191 (tgt := 209) (by decide) (fun h28 => ?_) (fun h28 => ?_)
      · refine v_aload_n S d_Mo_tryOut_209 rfl rfl ?_
        refine v_iconst S d_Mo_tryOut_210 (v := (1 : Int32)) (by decide) ?_
        refine v_puti S (fun w h => List.mem_cons_of_mem _ (i_Mo w h)) hKK.1 0 (by decide) rfl rfl 13 (by decide) (S.2.2.2.2 _ (List.mem_cons_of_mem _ (wd_754))) (fun _ h => h) t_Mo t_Mo_ok n_Mo rfl (ty := .boolean) rfl rfl rfl (Nat.le_of_ble_eq_true rfl) rfl d_Mo_tryOut_211 ?_
        refine v_sg (fun σ29 eσ29 => ?_)
        refine v_sub (L2 := [some (.ref (b + 0)), none, some (.int a1)]) (And.intro rfl (And.intro rfl True.intro)) ?_
        exact C214 σ29
      · refine v_aload_n S d_Mo_tryOut_194 rfl rfl ?_
        refine v_aload_n S d_Mo_tryOut_195 rfl rfl ?_
        refine v_iload_n S d_Mo_tryOut_196 rfl rfl ?_
        refine v_iconst S d_Mo_tryOut_197 (v := (3 : Int32)) (by decide) ?_
        refine v_ci (rest := [.ref (b + 0)]) (fun _ _ hg H locs ls hsz hP hS => run_V (As := [.int a0, .int (3 : Int32)]) (rest := [.ref (b + 0)]) S kM_ok hKK (c_Mo_kindOf l D ca ax b σ a0 (3 : Int32) hg) (k_Mo_110 S.2.2.2.2 (fun _ => List.mem_cons_of_mem _) ⟨Nat.le_of_ble_eq_true rfl, Nat.le_of_ble_eq_true rfl⟩) (rc_w hKK.1 hP 0 (by decide) rfl rfl) rfl rfl (by simp [Value.category]) d_Mo_tryOut_198 hsz hP hS) (fun r31 σ30 _ => ?_)
        refine v_ci (rest := []) (fun _ _ hg H locs ls hsz hP hS => run_V (As := [.int r31]) (rest := []) S kM_ok hKK (c_Mo_take l D ca ax b σ30 r31 hg) (k_Mo_86 S.2.2.2.2 (fun _ => List.mem_cons_of_mem _) ⟨Nat.le_of_ble_eq_true rfl, Nat.le_of_ble_eq_true rfl⟩) (rc_w hKK.1 hP 0 (by decide) rfl rfl) rfl rfl (Nat.zero_le _) d_Mo_tryOut_201 hsz hP hS) (fun r33 σ32 _ => ?_)
        refine v_istoreP S d_Mo_tryOut_204 (by decide) (L2 := [some (.ref (b + 0)), some (.int a0), some (.int a1), some (.int l3), some (.int l4), some (.int r33)]) rfl ?_
        refine v_goto S d_Mo_tryOut_206 (tgt := 214) (by decide) ?_
        refine v_sub (L2 := [some (.ref (b + 0)), none, some (.int a1)]) (And.intro rfl (And.intro rfl True.intro)) ?_
        exact C214 σ32
    · refine v_aload_n S d_Mo_tryOut_179 rfl rfl ?_
      refine v_iload S d_Mo_tryOut_180 rfl ?_
      refine v_cv (rest := []) (fun _ hg H locs ls hsz hP hS => run_V (As := [.int l4]) (rest := []) S kM_ok hKK (c_Mo_tryCall l D ca ax b σ l4 hg) (k_Mo_107 S.2.2.2.2 (fun _ => List.mem_cons_of_mem _) ⟨Nat.le_of_ble_eq_true rfl, Nat.le_of_ble_eq_true rfl⟩) (rc_w hKK.1 hP 0 (by decide) rfl rfl) rfl rfl (Nat.zero_le _) d_Mo_tryOut_182 hsz hP hS) (fun σ34 _ => ?_)
      refine v_goto S d_Mo_tryOut_185 (tgt := 214) (by decide) ?_
      refine v_sub (L2 := [some (.ref (b + 0)), none, some (.int a1)]) (And.intro rfl (And.intro rfl True.intro)) ?_
      exact C214 σ34
  have C153 : ∀ (σ : mm_M) (l3 : Int32) (l4 : Int32), vv p l e (headSpec w_Mo_tryOut rm_Mo_tryOut).room s m [.ref (b + 0), .int a0, .int a1].toArray below meth c D cls b N_M (ce_M ca b) 7 (MQ below (qc_v D cls b N_M (ce_M ca b) σ') [.ref (b + 0), .int a0, .int a1].toArray s 0 0 (mm_A b N_M)) σ' (fn_Mo_tryOut_153 a0 a1 σ l3 l4) σ 153 [some (.ref (b + 0)), some (.int a0), some (.int a1), some (.int l3), some (.int l4)] [] := by
    intro σ l3 l4
    unfold fn_Mo_tryOut_153
    refine v_iload_n S d_Mo_tryOut_153 rfl rfl ?_
    refine v_bipush S d_Mo_tryOut_154 (v := (15 : Int32)) (by decide) ?_
    refine v_icmp_lt S d_Mo_tryOut_156 (tgt := 173) (by decide) (fun h26 => ?_) (fun h26 => ?_)
    · refine v_sub (L2 := [some (.ref (b + 0)), some (.int a0), some (.int a1), some (.int l3), some (.int l4)]) (And.intro rfl (And.intro rfl (And.intro rfl (And.intro rfl (And.intro rfl True.intro))))) ?_
      exact C173 σ l3 l4
    · refine v_iload_n S d_Mo_tryOut_159 rfl rfl ?_
      refine v_bipush S d_Mo_tryOut_160 (v := (17 : Int32)) (by decide) ?_
      refine v_icmp_gt S d_Mo_tryOut_162 (tgt := 173) (by decide) (fun h35 => ?_) (fun h35 => ?_)
      · refine v_sub (L2 := [some (.ref (b + 0)), some (.int a0), some (.int a1), some (.int l3), some (.int l4)]) (And.intro rfl (And.intro rfl (And.intro rfl (And.intro rfl (And.intro rfl True.intro))))) ?_
        exact C173 σ l3 l4
      · refine v_aload_n S d_Mo_tryOut_165 rfl rfl ?_
        refine v_iload_n S d_Mo_tryOut_166 rfl rfl ?_
        refine v_cv (rest := []) (fun _ hg H locs ls hsz hP hS => run_V (As := [.int l3]) (rest := []) S kM_ok hKK (c_Mo_tryPlaces l D ca ax b σ l3 hg) (k_Mo_104 S.2.2.2.2 (fun _ => List.mem_cons_of_mem _) ⟨Nat.le_of_ble_eq_true rfl, Nat.le_of_ble_eq_true rfl⟩) (rc_w hKK.1 hP 0 (by decide) rfl rfl) rfl rfl (Nat.zero_le _) d_Mo_tryOut_167 hsz hP hS) (fun σ36 _ => ?_)
        refine v_goto S d_Mo_tryOut_170 (tgt := 214) (by decide) ?_
        refine v_sub (L2 := [some (.ref (b + 0)), none, some (.int a1)]) (And.intro rfl (And.intro rfl True.intro)) ?_
        exact C214 σ36
  have C133 : ∀ (σ : mm_M) (l3 : Int32) (l4 : Int32), vv p l e (headSpec w_Mo_tryOut rm_Mo_tryOut).room s m [.ref (b + 0), .int a0, .int a1].toArray below meth c D cls b N_M (ce_M ca b) 7 (MQ below (qc_v D cls b N_M (ce_M ca b) σ') [.ref (b + 0), .int a0, .int a1].toArray s 0 0 (mm_A b N_M)) σ' (fn_Mo_tryOut_133 a0 a1 σ l3 l4) σ 133 [some (.ref (b + 0)), some (.int a0), some (.int a1), some (.int l3), some (.int l4)] [] := by
    intro σ l3 l4
    unfold fn_Mo_tryOut_133
    refine v_iload_n S d_Mo_tryOut_133 rfl rfl ?_
    refine v_bipush S d_Mo_tryOut_134 (v := (12 : Int32)) (by decide) ?_
    refine v_icmp_lt S d_Mo_tryOut_136 (tgt := 153) (by decide) (fun h25 => ?_) (fun h25 => ?_)
    · refine v_sub (L2 := [some (.ref (b + 0)), some (.int a0), some (.int a1), some (.int l3), some (.int l4)]) (And.intro rfl (And.intro rfl (And.intro rfl (And.intro rfl (And.intro rfl True.intro))))) ?_
      exact C153 σ l3 l4
    · refine v_iload_n S d_Mo_tryOut_139 rfl rfl ?_
      refine v_bipush S d_Mo_tryOut_140 (v := (14 : Int32)) (by decide) ?_
      refine v_icmp_gt S d_Mo_tryOut_142 (tgt := 153) (by decide) (fun h37 => ?_) (fun h37 => ?_)
      · refine v_sub (L2 := [some (.ref (b + 0)), some (.int a0), some (.int a1), some (.int l3), some (.int l4)]) (And.intro rfl (And.intro rfl (And.intro rfl (And.intro rfl (And.intro rfl True.intro))))) ?_
        exact C153 σ l3 l4
      · refine v_aload_n S d_Mo_tryOut_145 rfl rfl ?_
        refine v_iload_n S d_Mo_tryOut_146 rfl rfl ?_
        refine v_cv (rest := []) (fun _ hg H locs ls hsz hP hS => run_V (As := [.int l3]) (rest := []) S kM_ok hKK (c_Mo_tryArray l D ca ax b σ l3 hg) (k_Mo_101 S.2.2.2.2 (fun _ => List.mem_cons_of_mem _) ⟨Nat.le_of_ble_eq_true rfl, Nat.le_of_ble_eq_true rfl⟩) (rc_w hKK.1 hP 0 (by decide) rfl rfl) rfl rfl (Nat.zero_le _) d_Mo_tryOut_147 hsz hP hS) (fun σ38 _ => ?_)
        refine v_goto S d_Mo_tryOut_150 (tgt := 214) (by decide) ?_
        refine v_sub (L2 := [some (.ref (b + 0)), none, some (.int a1)]) (And.intro rfl (And.intro rfl True.intro)) ?_
        exact C214 σ38
  have C78 : ∀ (σ : mm_M) (l3 : Int32) (l4 : Int32), vv p l e (headSpec w_Mo_tryOut rm_Mo_tryOut).room s m [.ref (b + 0), .int a0, .int a1].toArray below meth c D cls b N_M (ce_M ca b) 7 (MQ below (qc_v D cls b N_M (ce_M ca b) σ') [.ref (b + 0), .int a0, .int a1].toArray s 0 0 (mm_A b N_M)) σ' (fn_Mo_tryOut_78 a0 a1 σ l3 l4) σ 78 [some (.ref (b + 0)), some (.int a0), some (.int a1), some (.int l3), some (.int l4)] [] := by
    intro σ l3 l4
    unfold fn_Mo_tryOut_78
    refine v_iload_n S d_Mo_tryOut_78 rfl rfl ?_
    refine v_if_ne S d_Mo_tryOut_79 (tgt := 90) (by decide) (fun h11 => ?_) (fun h11 => ?_)
    · refine v_iload_n S d_Mo_tryOut_90 rfl rfl ?_
      refine v_iconst S d_Mo_tryOut_91 (v := (5 : Int32)) (by decide) ?_
      refine v_icmp_eq S d_Mo_tryOut_92 (tgt := 101) (by decide) (fun h12 => ?_) (fun h12 => ?_)
      · refine v_sub (L2 := [some (.ref (b + 0)), none, some (.int a1), some (.int l3), some (.int l4)]) (And.intro rfl (And.intro rfl (And.intro rfl (And.intro rfl True.intro)))) ?_
        exact C101 σ l3 l4
      · refine v_iload_n S d_Mo_tryOut_95 rfl rfl ?_
        refine v_bipush S d_Mo_tryOut_96 (v := (6 : Int32)) (by decide) ?_
        refine v_icmp_ne S d_Mo_tryOut_98 (tgt := 111) (by decide) (fun h23 => ?_) (fun h23 => ?_)
        · refine v_iload_n S d_Mo_tryOut_111 rfl rfl ?_
          refine v_bipush S d_Mo_tryOut_112 (v := (7 : Int32)) (by decide) ?_
          refine v_icmp_lt S d_Mo_tryOut_114 (tgt := 133) (by decide) (fun h24 => ?_) (fun h24 => ?_)
          · refine v_sub (L2 := [some (.ref (b + 0)), some (.int a0), some (.int a1), some (.int l3), some (.int l4)]) (And.intro rfl (And.intro rfl (And.intro rfl (And.intro rfl (And.intro rfl True.intro))))) ?_
            exact C133 σ l3 l4
          · refine v_iload_n S d_Mo_tryOut_117 rfl rfl ?_
            refine v_bipush S d_Mo_tryOut_118 (v := (11 : Int32)) (by decide) ?_
            refine v_icmp_gt S d_Mo_tryOut_120 (tgt := 133) (by decide) (fun h39 => ?_) (fun h39 => ?_)
            · refine v_sub (L2 := [some (.ref (b + 0)), some (.int a0), some (.int a1), some (.int l3), some (.int l4)]) (And.intro rfl (And.intro rfl (And.intro rfl (And.intro rfl (And.intro rfl True.intro))))) ?_
              exact C133 σ l3 l4
            · refine v_aload_n S d_Mo_tryOut_123 rfl rfl ?_
              refine v_iload_n S d_Mo_tryOut_124 rfl rfl ?_
              refine v_iload S d_Mo_tryOut_125 rfl ?_
              refine v_cv (rest := []) (fun _ hg H locs ls hsz hP hS => run_V (As := [.int l3, .int l4]) (rest := []) S kM_ok hKK (c_Mo_tryGo l D ca ax b σ l3 l4 hg) (k_Mo_98 S.2.2.2.2 (fun _ => List.mem_cons_of_mem _) ⟨Nat.le_of_ble_eq_true rfl, Nat.le_of_ble_eq_true rfl⟩) (rc_w hKK.1 hP 0 (by decide) rfl rfl) rfl rfl (Nat.zero_le _) d_Mo_tryOut_127 hsz hP hS) (fun σ40 _ => ?_)
              refine v_goto S d_Mo_tryOut_130 (tgt := 214) (by decide) ?_
              refine v_sub (L2 := [some (.ref (b + 0)), none, some (.int a1)]) (And.intro rfl (And.intro rfl True.intro)) ?_
              exact C214 σ40
        · refine v_sub (L2 := [some (.ref (b + 0)), none, some (.int a1), some (.int l3), some (.int l4)]) (And.intro rfl (And.intro rfl (And.intro rfl (And.intro rfl True.intro)))) ?_
          exact C101 σ l3 l4
    · refine v_aload_n S d_Mo_tryOut_82 rfl rfl ?_
      refine v_iconst S d_Mo_tryOut_83 (v := (1 : Int32)) (by decide) ?_
      refine v_cv (rest := []) (fun _ hg H locs ls hsz hP hS => run_V (As := [.int (1 : Int32)]) (rest := []) S kM_ok hKK (c_Mo_give l D ca ax b σ (1 : Int32) hg) (k_Mo_90 S.2.2.2.2 (fun _ => List.mem_cons_of_mem _) ⟨Nat.le_of_ble_eq_true rfl, Nat.le_of_ble_eq_true rfl⟩) (rc_w hKK.1 hP 0 (by decide) rfl rfl) rfl rfl (Nat.zero_le _) d_Mo_tryOut_84 hsz hP hS) (fun σ41 _ => ?_)
      refine v_goto S d_Mo_tryOut_87 (tgt := 214) (by decide) ?_
      refine v_sub (L2 := [some (.ref (b + 0)), none, some (.int a1)]) (And.intro rfl (And.intro rfl True.intro)) ?_
      exact C214 σ41
  have C38 : ∀ (σ : mm_M) (l3 : Int32) (l4 : Int32) (s0 : Int32), vv p l e (headSpec w_Mo_tryOut rm_Mo_tryOut).room s m [.ref (b + 0), .int a0, .int a1].toArray below meth c D cls b N_M (ce_M ca b) 7 (MQ below (qc_v D cls b N_M (ce_M ca b) σ') [.ref (b + 0), .int a0, .int a1].toArray s 0 0 (mm_A b N_M)) σ' (fn_Mo_tryOut_38 a0 a1 σ l3 l4 s0) σ 38 [some (.ref (b + 0)), some (.int a0), some (.int a1), some (.int l3), some (.int l4)] [.int s0, .ref (b + 0)] := by
    intro σ l3 l4 s0
    unfold fn_Mo_tryOut_38
    refine v_guard _ (fun h8 => ?_)
    refine v_puti S (fun w h => List.mem_cons_of_mem _ (i_Mo w h)) hKK.1 0 (by decide) rfl rfl 14 (by decide) (S.2.2.2.2 _ (List.mem_cons_of_mem _ (wd_755))) (fun _ h => h) t_Mo t_Mo_ok n_Mo rfl (ty := .boolean) rfl (nz_b h8) (fz_b h8) (Nat.le_of_ble_eq_true rfl) rfl d_Mo_tryOut_38 ?_
    refine v_sg (fun σ7 eσ7 => ?_)
    refine v_aload_n S d_Mo_tryOut_41 rfl rfl ?_
    refine v_iconst S d_Mo_tryOut_42 (v := (-1 : Int32)) (by decide) ?_
    refine v_puti S (fun w h => List.mem_cons_of_mem _ (i_Mo w h)) hKK.1 0 (by decide) rfl rfl 15 (by decide) (S.2.2.2.2 _ (List.mem_cons_of_mem _ (wd_756))) (fun _ h => h) t_Mo t_Mo_ok n_Mo rfl (ty := .int) rfl rfl rfl (Nat.le_of_ble_eq_true rfl) rfl d_Mo_tryOut_43 ?_
    refine v_sg (fun σ9 eσ9 => ?_)
    refine v_iload_n S d_Mo_tryOut_46 rfl rfl ?_
    refine v_iconst S d_Mo_tryOut_47 (v := (1 : Int32)) (by decide) ?_
    refine v_icmp_lt S d_Mo_tryOut_48 (tgt := 78) (by decide) (fun h10 => ?_) (fun h10 => ?_)
    · refine v_sub (L2 := [some (.ref (b + 0)), some (.int a0), some (.int a1), some (.int l3), some (.int l4)]) (And.intro rfl (And.intro rfl (And.intro rfl (And.intro rfl (And.intro rfl True.intro))))) ?_
      exact C78 σ9 l3 l4
    · refine v_iload_n S d_Mo_tryOut_51 rfl rfl ?_
      refine v_iconst S d_Mo_tryOut_52 (v := (4 : Int32)) (by decide) ?_
      refine v_icmp_gt S d_Mo_tryOut_53 (tgt := 78) (by decide) (fun h42 => ?_) (fun h42 => ?_)
      · refine v_sub (L2 := [some (.ref (b + 0)), some (.int a0), some (.int a1), some (.int l3), some (.int l4)]) (And.intro rfl (And.intro rfl (And.intro rfl (And.intro rfl (And.intro rfl True.intro))))) ?_
        exact C78 σ9 l3 l4
      · refine v_aload_n S d_Mo_tryOut_56 rfl rfl ?_
        refine v_iconst S d_Mo_tryOut_57 (v := (1 : Int32)) (by decide) ?_
        refine v_ci (rest := []) (fun _ _ hg H locs ls hsz hP hS => run_V (As := [.int (1 : Int32)]) (rest := []) S kM_ok hKK (c_Mo_take l D ca ax b σ9 (1 : Int32) hg) (k_Mo_86 S.2.2.2.2 (fun _ => List.mem_cons_of_mem _) ⟨Nat.le_of_ble_eq_true rfl, Nat.le_of_ble_eq_true rfl⟩) (rc_w hKK.1 hP 0 (by decide) rfl rfl) rfl rfl (Nat.zero_le _) d_Mo_tryOut_58 hsz hP hS) (fun r44 σ43 _ => ?_)
        refine v_istoreP S d_Mo_tryOut_61 (by decide) (L2 := [some (.ref (b + 0)), some (.int a0), some (.int a1), some (.int l3), some (.int l4), some (.int r44)]) rfl ?_
        refine v_aload_n S d_Mo_tryOut_63 rfl rfl ?_
        refine v_iconst S d_Mo_tryOut_64 (v := (1 : Int32)) (by decide) ?_
        refine v_ci (rest := []) (fun _ _ hg H locs ls hsz hP hS => run_V (As := [.int (1 : Int32)]) (rest := []) S kM_ok hKK (c_Mo_take l D ca ax b σ43 (1 : Int32) hg) (k_Mo_86 S.2.2.2.2 (fun _ => List.mem_cons_of_mem _) ⟨Nat.le_of_ble_eq_true rfl, Nat.le_of_ble_eq_true rfl⟩) (rc_w hKK.1 hP 0 (by decide) rfl rfl) rfl rfl (Nat.zero_le _) d_Mo_tryOut_65 hsz hP hS) (fun r46 σ45 _ => ?_)
        refine v_istoreP S d_Mo_tryOut_68 (by decide) (L2 := [some (.ref (b + 0)), some (.int a0), some (.int a1), some (.int l3), some (.int l4), some (.int r44), some (.int r46)]) rfl ?_
        refine v_aload_n S d_Mo_tryOut_70 rfl rfl ?_
        refine v_iconst S d_Mo_tryOut_71 (v := (1 : Int32)) (by decide) ?_
        refine v_cv (rest := []) (fun _ hg H locs ls hsz hP hS => run_V (As := [.int (1 : Int32)]) (rest := []) S kM_ok hKK (c_Mo_give l D ca ax b σ45 (1 : Int32) hg) (k_Mo_90 S.2.2.2.2 (fun _ => List.mem_cons_of_mem _) ⟨Nat.le_of_ble_eq_true rfl, Nat.le_of_ble_eq_true rfl⟩) (rc_w hKK.1 hP 0 (by decide) rfl rfl) rfl rfl (Nat.zero_le _) d_Mo_tryOut_72 hsz hP hS) (fun σ47 _ => ?_)
        refine v_goto S d_Mo_tryOut_75 (tgt := 214) (by decide) ?_
        refine v_sub (L2 := [some (.ref (b + 0)), none, some (.int a1)]) (And.intro rfl (And.intro rfl True.intro)) ?_
        exact C214 σ47
  have C37 : ∀ (σ : mm_M) (l3 : Int32) (l4 : Int32), vv p l e (headSpec w_Mo_tryOut rm_Mo_tryOut).room s m [.ref (b + 0), .int a0, .int a1].toArray below meth c D cls b N_M (ce_M ca b) 7 (MQ below (qc_v D cls b N_M (ce_M ca b) σ') [.ref (b + 0), .int a0, .int a1].toArray s 0 0 (mm_A b N_M)) σ' (fn_Mo_tryOut_37 a0 a1 σ l3 l4) σ 37 [some (.ref (b + 0)), some (.int a0), some (.int a1), some (.int l3), some (.int l4)] [.ref (b + 0)] := by
    intro σ l3 l4
    unfold fn_Mo_tryOut_37
    refine v_iconst S d_Mo_tryOut_37 (v := (0 : Int32)) (by decide) ?_
    refine v_sub (L2 := [some (.ref (b + 0)), some (.int a0), some (.int a1), some (.int l3), some (.int l4)]) (And.intro rfl (And.intro rfl (And.intro rfl (And.intro rfl (And.intro rfl True.intro))))) ?_
    exact C38 σ l3 l4 (0 : Int32)
  unfold fn_Mo_tryOut
  refine v_aload_n S d_Mo_tryOut_0 rfl rfl ?_
  refine v_get S (fun w h => List.mem_cons_of_mem _ (i_Mo w h)) hKK.1 0 (by decide) rfl rfl 1 (by decide) (S.2.2.2.2 _ (List.mem_cons_of_mem _ (wd_742))) (fun _ h => h) rfl d_Mo_tryOut_1 ?_
  refine v_iload_n S d_Mo_tryOut_4 rfl rfl ?_
  refine v_iald S hKK.1 1 0 (by decide) rfl rfl d_Mo_tryOut_5 (fun h1 => ?_)
  refine v_top (fun x2 ex2 => ?_)
  refine v_istore_nP S d_Mo_tryOut_6 rfl (by decide) (L2 := [some (.ref (b + 0)), some (.int a0), some (.int a1), some (.int x2)]) rfl ?_
  refine v_aload_n S d_Mo_tryOut_7 rfl rfl ?_
  refine v_get S (fun w h => List.mem_cons_of_mem _ (i_Mo w h)) hKK.1 0 (by decide) rfl rfl 2 (by decide) (S.2.2.2.2 _ (List.mem_cons_of_mem _ (wd_743))) (fun _ h => h) rfl d_Mo_tryOut_8 ?_
  refine v_iload_n S d_Mo_tryOut_11 rfl rfl ?_
  refine v_iald S hKK.1 2 0 (by decide) rfl rfl d_Mo_tryOut_12 (fun h3 => ?_)
  refine v_top (fun x4 ex4 => ?_)
  refine v_istoreP S d_Mo_tryOut_13 (by decide) (L2 := [some (.ref (b + 0)), some (.int a0), some (.int a1), some (.int x2), some (.int x4)]) rfl ?_
  refine v_aload_n S d_Mo_tryOut_15 rfl rfl ?_
  refine v_iconst S d_Mo_tryOut_16 (v := (0 : Int32)) (by decide) ?_
  refine v_puti S (fun w h => List.mem_cons_of_mem _ (i_Mo w h)) hKK.1 0 (by decide) rfl rfl 13 (by decide) (S.2.2.2.2 _ (List.mem_cons_of_mem _ (wd_754))) (fun _ h => h) t_Mo t_Mo_ok n_Mo rfl (ty := .boolean) rfl rfl rfl (Nat.le_of_ble_eq_true rfl) rfl d_Mo_tryOut_17 ?_
  refine v_sg (fun σ5 eσ5 => ?_)
  refine v_aload_n S d_Mo_tryOut_20 rfl rfl ?_
  refine v_iload_n S d_Mo_tryOut_21 rfl rfl ?_
  refine v_bipush S d_Mo_tryOut_22 (v := (7 : Int32)) (by decide) ?_
  refine v_icmp_eq S d_Mo_tryOut_24 (tgt := 37) (by decide) (fun h6 => ?_) (fun h6 => ?_)
  · refine v_sub (L2 := [some (.ref (b + 0)), some (.int a0), some (.int a1), some (.int x2), some (.int x4)]) (And.intro rfl (And.intro rfl (And.intro rfl (And.intro rfl (And.intro rfl True.intro))))) ?_
    exact C37 σ5 x2 x4
  · refine v_iload_n S d_Mo_tryOut_27 rfl rfl ?_
    refine v_bipush S d_Mo_tryOut_28 (v := (19 : Int32)) (by decide) ?_
    refine v_icmp_eq S d_Mo_tryOut_30 (tgt := 37) (by decide) (fun h48 => ?_) (fun h48 => ?_)
    · refine v_sub (L2 := [some (.ref (b + 0)), some (.int a0), some (.int a1), some (.int x2), some (.int x4)]) (And.intro rfl (And.intro rfl (And.intro rfl (And.intro rfl (And.intro rfl True.intro))))) ?_
      exact C37 σ5 x2 x4
    · refine v_iconst S d_Mo_tryOut_33 (v := (1 : Int32)) (by decide) ?_
      refine v_goto S d_Mo_tryOut_34 (tgt := 38) (by decide) ?_
      refine v_sub (L2 := [some (.ref (b + 0)), some (.int a0), some (.int a1), some (.int x2), some (.int x4)]) (And.intro rfl (And.intro rfl (And.intro rfl (And.intro rfl (And.intro rfl True.intro))))) ?_
      exact C38 σ5 x2 x4 (1 : Int32)

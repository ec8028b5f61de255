/-! contracts of 09.flow; written by wip/whole/make.py -/
def fn_Fl_forget_2  : Nat → mm_M → Int32 → Option (mm_M)
  | 0, _, _ => none
  | n + 1, σ, l1 =>
    (if (4 : Int32) ≤ l1 then
    (some σ)
    else
    (if (l1 < 0 ∨ 4 ≤ l1.toNatClampNeg) then none else (nm (mw σ 9 l1.toNatClampNeg (0 : Int32)) (fun σ3 =>
    (fn_Fl_forget_2  n σ3 (l1 + (1 : Int32)))))))
def fn_Fl_forget (σ : mm_M)  : Option (mm_M) :=
    (fn_Fl_forget_2  fuel0 σ (0 : Int32))
set_option maxRecDepth 100000 in
set_option maxHeartbeats 40000000 in
theorem c_Fl_forget (l : Launch) (D : va_G) (ca : Nat → ClassId) (ax : Nat → Nat → Nat) (b : Nat) (σ : mm_M)   {σ' : mm_M} (hf : fn_Fl_forget σ  = some σ') : Met l y_Fl_forget w_Fl_forget rm_Fl_forget (pc_w D cls b N_C (ce_C ca b) (kC D ca ax b) [.ref (b + 8)] σ) (qc_v D cls b N_C (ce_C ca b) σ') 0 0 (mm_A b N_C) := by
  refine vv_go (cc := b_Fl_forget) (maxL := 2) (ret := none) (fin := σ') (k := fn_Fl_forget σ ) (by decide) rfl (by simp [Value.category]) (Nat.le_of_ble_eq_true rfl) hf ?_
  intro p e s m below meth c hlocks hret S hKK
  have C2 : ∀ (n : Nat) (σ : mm_M) (l1 : Int32), vv p l e (headSpec w_Fl_forget rm_Fl_forget).room s m [.ref (b + 8)].toArray below meth c D cls b N_C (ce_C ca b) 2 (MQ below (qc_v D cls b N_C (ce_C ca b) σ') [.ref (b + 8)].toArray s 0 0 (mm_A b N_C)) σ' (fn_Fl_forget_2  n σ l1) σ 2 [some (.ref (b + 8)), some (.int l1)] [] := by
    intro n
    induction n with
    | zero => intro σ l1  h; cases h
    | succ n ih =>
      intro σ l1
      show vv p l e (headSpec w_Fl_forget rm_Fl_forget).room s m [.ref (b + 8)].toArray below meth c D cls b N_C (ce_C ca b) 2 (MQ below (qc_v D cls b N_C (ce_C ca b) σ') [.ref (b + 8)].toArray s 0 0 (mm_A b N_C)) σ' (        (if (4 : Int32) ≤ l1 then
        (some σ)
        else
        (if (l1 < 0 ∨ 4 ≤ l1.toNatClampNeg) then none else (nm (mw σ 9 l1.toNatClampNeg (0 : Int32)) (fun σ3 =>
        (fn_Fl_forget_2  n σ3 (l1 + (1 : Int32)))))))) σ 2 [some (.ref (b + 8)), some (.int l1)] []
      refine v_iload_n S d_Fl_forget_2 rfl rfl ?_
      refine v_iconst S d_Fl_forget_3 (v := (4 : Int32)) (by decide) ?_
      refine v_icmp_ge S d_Fl_forget_4 (tgt := 20) (by decide) (fun h1 => ?_) (fun h1 => ?_)
      · exact v_vret S hret hlocks d_Fl_forget_20
      · refine v_aload_n S d_Fl_forget_7 rfl rfl ?_
        refine v_get S (fun w h => List.mem_cons_of_mem _ (i_Fl w h)) hKK.1 8 (by decide) rfl rfl 1 (by decide) (S.2.2.2.2 _ (List.mem_cons_of_mem _ (wd_75))) (fun _ h => h) rfl d_Fl_forget_8 ?_
        refine v_iload_n S d_Fl_forget_11 rfl rfl ?_
        refine v_iconst S d_Fl_forget_12 (v := (0 : Int32)) (by decide) ?_
        refine v_zast1 S hKK.1 9 1 (by decide) (fun _ => rfl) rfl (Or.inl rfl) d_Fl_forget_13 (fun h2 => ?_)
        refine v_sg (fun σ3 eσ3 => ?_)
        refine v_iinc S d_Fl_forget_14 rfl (v := (l1 + (1 : Int32))) (by first | rfl | decide) (by decide) (L2 := [some (.ref (b + 8)), some (.int (l1 + (1 : Int32)))]) rfl ?_
        refine v_goto S d_Fl_forget_17 (tgt := 2) (by decide) ?_
        refine v_sub (L2 := [some (.ref (b + 8)), some (.int (l1 + (1 : Int32)))]) (And.intro rfl (And.intro rfl True.intro)) ?_
        exact ih σ3 (l1 + (1 : Int32))
  unfold fn_Fl_forget
  refine v_iconst S d_Fl_forget_0 (v := (0 : Int32)) (by decide) ?_
  refine v_istore_nP S d_Fl_forget_1 rfl (by decide) (L2 := [some (.ref (b + 8)), some (.int (0 : Int32))]) rfl ?_
  refine v_sub (L2 := [some (.ref (b + 8)), some (.int (0 : Int32))]) (And.intro rfl (And.intro rfl True.intro)) ?_
  exact C2 fuel0 σ (0 : Int32)
def fn_Fl_clear_2 (a0 : Int32) : Nat → mm_M → Int32 → Option (mm_M)
  | 0, _, _ => none
  | n + 1, σ, l2 =>
    (if (100 : Int32) ≤ l2 then
    (nm (mw σ 8 4 (100 : Int32)) (fun σ2 =>
    (some σ2)))
    else
    (if (a0 < 0 ∨ 4 ≤ a0.toNatClampNeg) then none else
    (if (l2 < 0 ∨ 100 ≤ l2.toNatClampNeg) then none else (nm (mw σ (11 + (a0.toNatClampNeg)) l2.toNatClampNeg (-1 : Int32)) (fun σ5 =>
    (if (l2 < 0 ∨ 100 ≤ l2.toNatClampNeg) then none else (nm (mw σ5 15 l2.toNatClampNeg (0 : Int32)) (fun σ7 =>
    (fn_Fl_clear_2 a0 n σ7 (l2 + (1 : Int32)))))))))))
def fn_Fl_clear (σ : mm_M) (a0 : Int32) : Option (mm_M) :=
    (fn_Fl_clear_2 a0 fuel0 σ (0 : Int32))
set_option maxRecDepth 100000 in
set_option maxHeartbeats 40000000 in
theorem c_Fl_clear (l : Launch) (D : va_G) (ca : Nat → ClassId) (ax : Nat → Nat → Nat) (b : Nat) (σ : mm_M) (a0 : Int32)  {σ' : mm_M} (hf : fn_Fl_clear σ a0 = some σ') : Met l y_Fl_clear w_Fl_clear rm_Fl_clear (pc_w D cls b N_C (ce_C ca b) (kC D ca ax b) [.ref (b + 8), .int a0] σ) (qc_v D cls b N_C (ce_C ca b) σ') 0 0 (mm_A b N_C) := by
  refine vv_go (cc := b_Fl_clear) (maxL := 3) (ret := none) (fin := σ') (k := fn_Fl_clear σ a0) (by decide) rfl (by simp [Value.category]) (Nat.le_of_ble_eq_true rfl) hf ?_
  intro p e s m below meth c hlocks hret S hKK
  have C2 : ∀ (n : Nat) (σ : mm_M) (l2 : Int32), vv p l e (headSpec w_Fl_clear rm_Fl_clear).room s m [.ref (b + 8), .int a0].toArray below meth c D cls b N_C (ce_C ca b) 3 (MQ below (qc_v D cls b N_C (ce_C ca b) σ') [.ref (b + 8), .int a0].toArray s 0 0 (mm_A b N_C)) σ' (fn_Fl_clear_2 a0 n σ l2) σ 2 [some (.ref (b + 8)), some (.int a0), some (.int l2)] [] := by
    intro n
    induction n with
    | zero => intro σ l2  h; cases h
    | succ n ih =>
      intro σ l2
      show vv p l e (headSpec w_Fl_clear rm_Fl_clear).room s m [.ref (b + 8), .int a0].toArray below meth c D cls b N_C (ce_C ca b) 3 (MQ below (qc_v D cls b N_C (ce_C ca b) σ') [.ref (b + 8), .int a0].toArray s 0 0 (mm_A b N_C)) σ' (        (if (100 : Int32) ≤ l2 then
        (nm (mw σ 8 4 (100 : Int32)) (fun σ2 =>
        (some σ2)))
        else
        (if (a0 < 0 ∨ 4 ≤ a0.toNatClampNeg) then none else
        (if (l2 < 0 ∨ 100 ≤ l2.toNatClampNeg) then none else (nm (mw σ (11 + (a0.toNatClampNeg)) l2.toNatClampNeg (-1 : Int32)) (fun σ5 =>
        (if (l2 < 0 ∨ 100 ≤ l2.toNatClampNeg) then none else (nm (mw σ5 15 l2.toNatClampNeg (0 : Int32)) (fun σ7 =>
        (fn_Fl_clear_2 a0 n σ7 (l2 + (1 : Int32)))))))))))) σ 2 [some (.ref (b + 8)), some (.int a0), some (.int l2)] []
      refine v_iload_n S d_Fl_clear_2 rfl rfl ?_
      refine v_bipush S d_Fl_clear_3 (v := (100 : Int32)) (by decide) ?_
      refine v_icmp_ge S d_Fl_clear_5 (tgt := 30) (by decide) (fun h1 => ?_) (fun h1 => ?_)
      · refine v_aload_n S d_Fl_clear_30 rfl rfl ?_
        refine v_bipush S d_Fl_clear_31 (v := (100 : Int32)) (by decide) ?_
        refine v_puti S (fun w h => List.mem_cons_of_mem _ (i_Fl w h)) hKK.1 8 (by decide) rfl rfl 4 (by decide) (S.2.2.2.2 _ (List.mem_cons_of_mem _ (wd_78))) (fun _ h => h) t_Fl t_Fl_ok n_Fl rfl (ty := .int) rfl rfl rfl (Nat.le_of_ble_eq_true rfl) rfl d_Fl_clear_33 ?_
        refine v_sg (fun σ2 eσ2 => ?_)
        exact v_vret S hret hlocks d_Fl_clear_36
      · refine v_aload_n S d_Fl_clear_8 rfl rfl ?_
        refine v_get S (fun w h => List.mem_cons_of_mem _ (i_Fl w h)) hKK.1 8 (by decide) rfl rfl 2 (by decide) (S.2.2.2.2 _ (List.mem_cons_of_mem _ (wd_76))) (fun _ h => h) rfl d_Fl_clear_9 ?_
        refine v_iload_n S d_Fl_clear_12 rfl rfl ?_
        refine v_aald S hKK.1 10 3 (by decide) (ty := .array .int) rfl rfl rfl d_Fl_clear_13 (fun h3 => ?_)
        refine v_iload_n S d_Fl_clear_14 rfl rfl ?_
        refine v_iconst S d_Fl_clear_15 (v := (-1 : Int32)) (by decide) ?_
        refine v_iast1 S hKK.1 (11 + (a0.toNatClampNeg)) 0 (rw_lt (ib h3)) (ce_rwA (ib h3)) rfl d_Fl_clear_16 (fun h4 => ?_)
        refine v_sg (fun σ5 eσ5 => ?_)
        refine v_aload_n S d_Fl_clear_17 rfl rfl ?_
        refine v_get S (fun w h => List.mem_cons_of_mem _ (i_Fl w h)) hKK.1 8 (by decide) rfl rfl 3 (by decide) (S.2.2.2.2 _ (List.mem_cons_of_mem _ (wd_77))) (fun _ h => h) rfl d_Fl_clear_18 ?_
        refine v_iload_n S d_Fl_clear_21 rfl rfl ?_
        refine v_iconst S d_Fl_clear_22 (v := (0 : Int32)) (by decide) ?_
        refine v_zast1 S hKK.1 15 1 (by decide) (fun _ => rfl) rfl (Or.inl rfl) d_Fl_clear_23 (fun h6 => ?_)
        refine v_sg (fun σ7 eσ7 => ?_)
        refine v_iinc S d_Fl_clear_24 rfl (v := (l2 + (1 : Int32))) (by first | rfl | decide) (by decide) (L2 := [some (.ref (b + 8)), some (.int a0), some (.int (l2 + (1 : Int32)))]) rfl ?_
        refine v_goto S d_Fl_clear_27 (tgt := 2) (by decide) ?_
        refine v_sub (L2 := [some (.ref (b + 8)), some (.int a0), some (.int (l2 + (1 : Int32)))]) (And.intro rfl (And.intro rfl (And.intro rfl True.intro))) ?_
        exact ih σ7 (l2 + (1 : Int32))
  unfold fn_Fl_clear
  refine v_iconst S d_Fl_clear_0 (v := (0 : Int32)) (by decide) ?_
  refine v_istore_nP S d_Fl_clear_1 rfl (by decide) (L2 := [some (.ref (b + 8)), some (.int a0), some (.int (0 : Int32))]) rfl ?_
  refine v_sub (L2 := [some (.ref (b + 8)), some (.int a0), some (.int (0 : Int32))]) (And.intro rfl (And.intro rfl (And.intro rfl True.intro))) ?_
  exact C2 fuel0 σ (0 : Int32)
def fn_Fl_meet (σ : mm_M) (a0 : Int32) (a1 : Int32) (a2 : Int32) : Option (mm_M) :=
    (if (a0 < 0 ∨ 4 ≤ a0.toNatClampNeg) then none else
    (if (a1 < 0 ∨ 100 ≤ a1.toNatClampNeg) then none else
    (bd (fn_Ty_met σ (σ (11 + (a0.toNatClampNeg)) a1.toNatClampNeg) a2) (fun r4 σ3 =>
    (if (a0 < 0 ∨ 4 ≤ a0.toNatClampNeg) then none else
    (if (a1 < 0 ∨ 100 ≤ a1.toNatClampNeg) then none else
    (if r4 = (σ3 (11 + (a0.toNatClampNeg)) a1.toNatClampNeg) then
    (some σ3)
    else
    (if (a0 < 0 ∨ 4 ≤ a0.toNatClampNeg) then none else
    (if (a1 < 0 ∨ 100 ≤ a1.toNatClampNeg) then none else (nm (mw σ3 (11 + (a0.toNatClampNeg)) a1.toNatClampNeg r4) (fun σ10 =>
    (if (a1 < 0 ∨ 100 ≤ a1.toNatClampNeg) then none else (nm (mw σ10 15 a1.toNatClampNeg (1 : Int32)) (fun σ12 =>
    (nm (mw σ12 8 4 (mi_n (σ12 8 4) a1)) (fun σ13 =>
    (some σ13)))))))))))))))))
set_option maxRecDepth 100000 in
set_option maxHeartbeats 40000000 in
theorem c_Fl_meet (l : Launch) (D : va_G) (ca : Nat → ClassId) (ax : Nat → Nat → Nat) (b : Nat) (σ : mm_M) (a0 : Int32) (a1 : Int32) (a2 : Int32)  {σ' : mm_M} (hf : fn_Fl_meet σ a0 a1 a2 = some σ') : Met l y_Fl_meet w_Fl_meet rm_Fl_meet (pc_w D cls b N_C (ce_C ca b) (kC D ca ax b) [.ref (b + 8), .int a0, .int a1, .int a2] σ) (qc_v D cls b N_C (ce_C ca b) σ') 0 0 (mm_A b N_C) := by
  refine vv_go (cc := b_Fl_meet) (maxL := 5) (ret := none) (fin := σ') (k := fn_Fl_meet σ a0 a1 a2) (by decide) rfl (by simp [Value.category]) (Nat.le_of_ble_eq_true rfl) hf ?_
  intro p e s m below meth c hlocks hret S hKK
  unfold fn_Fl_meet
  refine v_aload_n S d_Fl_meet_0 rfl rfl ?_
  refine v_get S (fun w h => List.mem_cons_of_mem _ (i_Fl w h)) hKK.1 8 (by decide) rfl rfl 2 (by decide) (S.2.2.2.2 _ (List.mem_cons_of_mem _ (wd_76))) (fun _ h => h) rfl d_Fl_meet_1 ?_
  refine v_iload_n S d_Fl_meet_4 rfl rfl ?_
  refine v_aald S hKK.1 10 3 (by decide) (ty := .array .int) rfl rfl rfl d_Fl_meet_5 (fun h1 => ?_)
  refine v_iload_n S d_Fl_meet_6 rfl rfl ?_
  refine v_iald S hKK.1 (11 + (a0.toNatClampNeg)) 0 (rw_lt (ib h1)) (ce_rw (ib h1)) rfl d_Fl_meet_7 (fun h2 => ?_)
  refine v_iload_n S d_Fl_meet_8 rfl rfl ?_
  refine v_ci (rest := []) (fun _ _ hg H locs ls hsz hP hS => run_S (As := [.int (σ (11 + (a0.toNatClampNeg)) a1.toNatClampNeg), .int a2]) (rest := []) S kC_ok hKK (c_Ty_met l D ca ax b σ (σ (11 + (a0.toNatClampNeg)) a1.toNatClampNeg) a2 hg) (k_Fl_88 S.2.2.2.2 (fun _ => List.mem_cons_of_mem _) ⟨Nat.le_of_ble_eq_true rfl, Nat.le_of_ble_eq_true rfl⟩) rfl rfl (Nat.zero_le _) d_Fl_meet_9 hsz hP hS) (fun r4 σ3 _ => ?_)
  refine v_istoreP S d_Fl_meet_12 (by decide) (L2 := [some (.ref (b + 8)), some (.int a0), some (.int a1), some (.int a2), some (.int r4)]) rfl ?_
  refine v_iload S d_Fl_meet_14 rfl ?_
  refine v_aload_n S d_Fl_meet_16 rfl rfl ?_
  refine v_get S (fun w h => List.mem_cons_of_mem _ (i_Fl w h)) hKK.1 8 (by decide) rfl rfl 2 (by decide) (S.2.2.2.2 _ (List.mem_cons_of_mem _ (wd_76))) (fun _ h => h) rfl d_Fl_meet_17 ?_
  refine v_iload_n S d_Fl_meet_20 rfl rfl ?_
  refine v_aald S hKK.1 10 3 (by decide) (ty := .array .int) rfl rfl rfl d_Fl_meet_21 (fun h5 => ?_)
  refine v_iload_n S d_Fl_meet_22 rfl rfl ?_
  refine v_iald S hKK.1 (11 + (a0.toNatClampNeg)) 0 (rw_lt (ib h5)) (ce_rw (ib h5)) rfl d_Fl_meet_23 (fun h6 => ?_)
  refine v_icmp_eq S d_Fl_meet_24 (tgt := 56) (by decide) (fun h7 => ?_) (fun h7 => ?_)
  · exact v_vret S hret hlocks d_Fl_meet_56
  · refine v_aload_n S d_Fl_meet_27 rfl rfl ?_
    refine v_get S (fun w h => List.mem_cons_of_mem _ (i_Fl w h)) hKK.1 8 (by decide) rfl rfl 2 (by decide) (S.2.2.2.2 _ (List.mem_cons_of_mem _ (wd_76))) (fun _ h => h) rfl d_Fl_meet_28 ?_
    refine v_iload_n S d_Fl_meet_31 rfl rfl ?_
    refine v_aald S hKK.1 10 3 (by decide) (ty := .array .int) rfl rfl rfl d_Fl_meet_32 (fun h8 => ?_)
    refine v_iload_n S d_Fl_meet_33 rfl rfl ?_
    refine v_iload S d_Fl_meet_34 rfl ?_
    refine v_iast1 S hKK.1 (11 + (a0.toNatClampNeg)) 0 (rw_lt (ib h8)) (ce_rwA (ib h8)) rfl d_Fl_meet_36 (fun h9 => ?_)
    refine v_sg (fun σ10 eσ10 => ?_)
    refine v_aload_n S d_Fl_meet_37 rfl rfl ?_
    refine v_get S (fun w h => List.mem_cons_of_mem _ (i_Fl w h)) hKK.1 8 (by decide) rfl rfl 3 (by decide) (S.2.2.2.2 _ (List.mem_cons_of_mem _ (wd_77))) (fun _ h => h) rfl d_Fl_meet_38 ?_
    refine v_iload_n S d_Fl_meet_41 rfl rfl ?_
    refine v_iconst S d_Fl_meet_42 (v := (1 : Int32)) (by decide) ?_
    refine v_zast1 S hKK.1 15 1 (by decide) (fun _ => rfl) rfl (Or.inr rfl) d_Fl_meet_43 (fun h11 => ?_)
    refine v_sg (fun σ12 eσ12 => ?_)
    refine v_aload_n S d_Fl_meet_44 rfl rfl ?_
    refine v_aload_n S d_Fl_meet_45 rfl rfl ?_
    refine v_get S (fun w h => List.mem_cons_of_mem _ (i_Fl w h)) hKK.1 8 (by decide) rfl rfl 4 (by decide) (S.2.2.2.2 _ (List.mem_cons_of_mem _ (wd_78))) (fun _ h => h) rfl d_Fl_meet_46 ?_
    refine v_iload_n S d_Fl_meet_49 rfl rfl ?_
    refine v_min (rest := [.ref (b + 8)]) S (S.2.2.2.2 _ (List.mem_cons_of_mem _ wd_221)) (S.2.2.2.2 _ (List.mem_cons_of_mem _ wd_222)) (S.2.2.2.2 _ (List.mem_cons_of_mem _ wd_12)) (S.2.2.2.2 _ (List.mem_cons_of_mem _ wd_223)) (Nat.le_of_ble_eq_true rfl) (by simp [Value.category]; exact Nat.le_of_ble_eq_true rfl) d_Fl_meet_50 ?_
    refine v_puti S (fun w h => List.mem_cons_of_mem _ (i_Fl w h)) hKK.1 8 (by decide) rfl rfl 4 (by decide) (S.2.2.2.2 _ (List.mem_cons_of_mem _ (wd_78))) (fun _ h => h) t_Fl t_Fl_ok n_Fl rfl (ty := .int) rfl rfl rfl (Nat.le_of_ble_eq_true rfl) rfl d_Fl_meet_53 ?_
    refine v_sg (fun σ13 eσ13 => ?_)
    exact v_vret S hret hlocks d_Fl_meet_56
def fn_Fl_takeLeastWaiting_5  : Nat → mm_M → Int32 → Option (Int32 × mm_M)
  | 0, _, _ => none
  | n + 1, σ, l1 =>
    (if (100 : Int32) ≤ l1 then
    (nm (mw σ 8 4 (100 : Int32)) (fun σ3 =>
    (some ((-1 : Int32), σ3))))
    else
    (if (l1 < 0 ∨ 100 ≤ l1.toNatClampNeg) then none else
    (if (σ 15 l1.toNatClampNeg) = 0 then
    (fn_Fl_takeLeastWaiting_5  n σ (l1 + (1 : Int32)))
    else
    (if (l1 < 0 ∨ 100 ≤ l1.toNatClampNeg) then none else (nm (mw σ 15 l1.toNatClampNeg (0 : Int32)) (fun σ8 =>
    (nm (mw σ8 8 4 (l1 + (1 : Int32))) (fun σ9 =>
    (some (l1, σ9))))))))))
def fn_Fl_takeLeastWaiting (σ : mm_M)  : Option (Int32 × mm_M) :=
    (nm (σ 8 4) (fun x1 =>
    (fn_Fl_takeLeastWaiting_5  fuel0 σ x1)))
set_option maxRecDepth 100000 in
set_option maxHeartbeats 40000000 in
theorem c_Fl_takeLeastWaiting (l : Launch) (D : va_G) (ca : Nat → ClassId) (ax : Nat → Nat → Nat) (b : Nat) (σ : mm_M)   {r : Int32} {σ' : mm_M} (hf : fn_Fl_takeLeastWaiting σ  = some (r, σ')) : Met l y_Fl_takeLeastWaiting w_Fl_takeLeastWaiting rm_Fl_takeLeastWaiting (pc_w D cls b N_C (ce_C ca b) (kC D ca ax b) [.ref (b + 8)] σ) (qc_i D cls b N_C (ce_C ca b) r σ') 0 0 (mm_A b N_C) := by
  refine vv_go (cc := b_Fl_takeLeastWaiting) (maxL := 2) (ret := (some .int)) (fin := (r, σ')) (k := fn_Fl_takeLeastWaiting σ ) (by decide) rfl (by simp [Value.category]) (Nat.le_of_ble_eq_true rfl) hf ?_
  intro p e s m below meth c hlocks hret S hKK
  have C5 : ∀ (n : Nat) (σ : mm_M) (l1 : Int32), vv p l e (headSpec w_Fl_takeLeastWaiting rm_Fl_takeLeastWaiting).room s m [.ref (b + 8)].toArray below meth c D cls b N_C (ce_C ca b) 2 (MQ below (qc_i D cls b N_C (ce_C ca b) r σ') [.ref (b + 8)].toArray s 0 0 (mm_A b N_C)) (r, σ') (fn_Fl_takeLeastWaiting_5  n σ l1) σ 5 [some (.ref (b + 8)), some (.int l1)] [] := by
    intro n
    induction n with
    | zero => intro σ l1  h; cases h
    | succ n ih =>
      intro σ l1
      show vv p l e (headSpec w_Fl_takeLeastWaiting rm_Fl_takeLeastWaiting).room s m [.ref (b + 8)].toArray below meth c D cls b N_C (ce_C ca b) 2 (MQ below (qc_i D cls b N_C (ce_C ca b) r σ') [.ref (b + 8)].toArray s 0 0 (mm_A b N_C)) (r, σ') (        (if (100 : Int32) ≤ l1 then
        (nm (mw σ 8 4 (100 : Int32)) (fun σ3 =>
        (some ((-1 : Int32), σ3))))
        else
        (if (l1 < 0 ∨ 100 ≤ l1.toNatClampNeg) then none else
        (if (σ 15 l1.toNatClampNeg) = 0 then
        (fn_Fl_takeLeastWaiting_5  n σ (l1 + (1 : Int32)))
        else
        (if (l1 < 0 ∨ 100 ≤ l1.toNatClampNeg) then none else (nm (mw σ 15 l1.toNatClampNeg (0 : Int32)) (fun σ8 =>
        (nm (mw σ8 8 4 (l1 + (1 : Int32))) (fun σ9 =>
        (some (l1, σ9))))))))))) σ 5 [some (.ref (b + 8)), some (.int l1)] []
      refine v_iload_n S d_Fl_takeLeastWaiting_5 rfl rfl ?_
      refine v_bipush S d_Fl_takeLeastWaiting_6 (v := (100 : Int32)) (by decide) ?_
      refine v_icmp_ge S d_Fl_takeLeastWaiting_8 (tgt := 42) (by decide) (fun h2 => ?_) (fun h2 => ?_)
      · refine v_aload_n S d_Fl_takeLeastWaiting_42 rfl rfl ?_
        refine v_bipush S d_Fl_takeLeastWaiting_43 (v := (100 : Int32)) (by decide) ?_
        refine v_puti S (fun w h => List.mem_cons_of_mem _ (i_Fl w h)) hKK.1 8 (by decide) rfl rfl 4 (by decide) (S.2.2.2.2 _ (List.mem_cons_of_mem _ (wd_78))) (fun _ h => h) t_Fl t_Fl_ok n_Fl rfl (ty := .int) rfl rfl rfl (Nat.le_of_ble_eq_true rfl) rfl d_Fl_takeLeastWaiting_45 ?_
        refine v_sg (fun σ3 eσ3 => ?_)
        refine v_iconst S d_Fl_takeLeastWaiting_48 (v := (-1 : Int32)) (by decide) ?_
        exact v_iret S hret hlocks d_Fl_takeLeastWaiting_49
      · refine v_aload_n S d_Fl_takeLeastWaiting_11 rfl rfl ?_
        refine v_get S (fun w h => List.mem_cons_of_mem _ (i_Fl w h)) hKK.1 8 (by decide) rfl rfl 3 (by decide) (S.2.2.2.2 _ (List.mem_cons_of_mem _ (wd_77))) (fun _ h => h) rfl d_Fl_takeLeastWaiting_12 ?_
        refine v_iload_n S d_Fl_takeLeastWaiting_15 rfl rfl ?_
        refine v_zald S hKK.1 15 1 (by decide) rfl rfl d_Fl_takeLeastWaiting_16 (fun h4 => ?_)
        refine v_if_eq S d_Fl_takeLeastWaiting_17 (tgt := 36) (by decide) (fun h5 => ?_) (fun h5 => ?_)
        · refine v_iinc S d_Fl_takeLeastWaiting_36 rfl (v := (l1 + (1 : Int32))) (by first | rfl | decide) (by decide) (L2 := [some (.ref (b + 8)), some (.int (l1 + (1 : Int32)))]) rfl ?_
          refine v_goto S d_Fl_takeLeastWaiting_39 (tgt := 5) (by decide) ?_
          refine v_sub (L2 := [some (.ref (b + 8)), some (.int (l1 + (1 : Int32)))]) (And.intro rfl (And.intro rfl True.intro)) ?_
          exact ih σ (l1 + (1 : Int32))
        · refine v_aload_n S d_Fl_takeLeastWaiting_20 rfl rfl ?_
          refine v_get S (fun w h => List.mem_cons_of_mem _ (i_Fl w h)) hKK.1 8 (by decide) rfl rfl 3 (by decide) (S.2.2.2.2 _ (List.mem_cons_of_mem _ (wd_77))) (fun _ h => h) rfl d_Fl_takeLeastWaiting_21 ?_
          refine v_iload_n S d_Fl_takeLeastWaiting_24 rfl rfl ?_
          refine v_iconst S d_Fl_takeLeastWaiting_25 (v := (0 : Int32)) (by decide) ?_
          refine v_zast1 S hKK.1 15 1 (by decide) (fun _ => rfl) rfl (Or.inl rfl) d_Fl_takeLeastWaiting_26 (fun h7 => ?_)
          refine v_sg (fun σ8 eσ8 => ?_)
          refine v_aload_n S d_Fl_takeLeastWaiting_27 rfl rfl ?_
          refine v_iload_n S d_Fl_takeLeastWaiting_28 rfl rfl ?_
          refine v_iconst S d_Fl_takeLeastWaiting_29 (v := (1 : Int32)) (by decide) ?_
          refine v_iadd S d_Fl_takeLeastWaiting_30 ?_
          refine v_puti S (fun w h => List.mem_cons_of_mem _ (i_Fl w h)) hKK.1 8 (by decide) rfl rfl 4 (by decide) (S.2.2.2.2 _ (List.mem_cons_of_mem _ (wd_78))) (fun _ h => h) t_Fl t_Fl_ok n_Fl rfl (ty := .int) rfl rfl rfl (Nat.le_of_ble_eq_true rfl) rfl d_Fl_takeLeastWaiting_31 ?_
          refine v_sg (fun σ9 eσ9 => ?_)
          refine v_iload_n S d_Fl_takeLeastWaiting_34 rfl rfl ?_
          exact v_iret S hret hlocks d_Fl_takeLeastWaiting_35
  unfold fn_Fl_takeLeastWaiting
  refine v_aload_n S d_Fl_takeLeastWaiting_0 rfl rfl ?_
  refine v_get S (fun w h => List.mem_cons_of_mem _ (i_Fl w h)) hKK.1 8 (by decide) rfl rfl 4 (by decide) (S.2.2.2.2 _ (List.mem_cons_of_mem _ (wd_78))) (fun _ h => h) rfl d_Fl_takeLeastWaiting_1 ?_
  refine v_top (fun x1 ex1 => ?_)
  refine v_istore_nP S d_Fl_takeLeastWaiting_4 rfl (by decide) (L2 := [some (.ref (b + 8)), some (.int x1)]) rfl ?_
  refine v_sub (L2 := [some (.ref (b + 8)), some (.int x1)]) (And.intro rfl (And.intro rfl True.intro)) ?_
  exact C5 fuel0 σ x1
def fn_Fl_goOn_62 (a0 : Int32) (a1 : Int32) (σ : mm_M) (l4 : Nat) (l5 : Int32) : Option (mm_M) :=
    (bd (fn_Op_jumps σ l4) (fun r14 σ13 =>
    (if r14 = 0 then
    (some σ13)
    else
    (bd (fn_Co_numberAt σ13 a1) (fun r17 σ16 =>
    (bv (fn_Fl_meet σ16 a0 r17 l5) (fun σ18 =>
    (some σ18))))))))
def fn_Fl_goOn (σ : mm_M) (a0 : Int32) (a1 : Int32) : Option (mm_M) :=
    (if (a0 < 0 ∨ 4 ≤ a0.toNatClampNeg) then none else
    (if (a1 < 0 ∨ 100 ≤ a1.toNatClampNeg) then none else
    (nm (σ (11 + (a0.toNatClampNeg)) a1.toNatClampNeg) (fun x3 =>
    (bd (fn_Co_fits σ a0 a1 x3) (fun r5 σ4 =>
    (if r5 = 0 then
    (some σ4)
    else
    (bd (fn_Co_opAt σ4 a1) (fun r8 σ7 =>
    (bd (fn_Co_after σ7 a1 x3) (fun r11 σ10 =>
    (if (op_behind r8) = 0 then
    (fn_Fl_goOn_62 a0 a1 σ10 r8 r11)
    else
    (bv (fn_Fl_meet σ10 a0 (a1 + (1 : Int32)) r11) (fun σ19 =>
    (fn_Fl_goOn_62 a0 a1 σ19 r8 r11)))))))))))))))
set_option maxRecDepth 100000 in
set_option maxHeartbeats 40000000 in
theorem c_Fl_goOn (l : Launch) (D : va_G) (ca : Nat → ClassId) (ax : Nat → Nat → Nat) (b : Nat) (σ : mm_M) (a0 : Int32) (a1 : Int32)  {σ' : mm_M} (hf : fn_Fl_goOn σ a0 a1 = some σ') : Met l y_Fl_goOn w_Fl_goOn rm_Fl_goOn (pc_w D cls b N_C (ce_C ca b) (kC D ca ax b) [.ref (b + 8), .int a0, .int a1] σ) (qc_v D cls b N_C (ce_C ca b) σ') 0 0 (mm_A b N_C) := by
  refine vv_go (cc := b_Fl_goOn) (maxL := 6) (ret := none) (fin := σ') (k := fn_Fl_goOn σ a0 a1) (by decide) rfl (by simp [Value.category]) (Nat.le_of_ble_eq_true rfl) hf ?_
  intro p e s m below meth c hlocks hret S hKK
  have C62 : ∀ (σ : mm_M) (l4 : Nat) (l5 : Int32) (hl4 : l4 < 20), vv p l e (headSpec w_Fl_goOn rm_Fl_goOn).room s m [.ref (b + 8), .int a0, .int a1].toArray below meth c D cls b N_C (ce_C ca b) 6 (MQ below (qc_v D cls b N_C (ce_C ca b) σ') [.ref (b + 8), .int a0, .int a1].toArray s 0 0 (mm_A b N_C)) σ' (fn_Fl_goOn_62 a0 a1 σ l4 l5) σ 62 [some (.ref (b + 8)), some (.int a0), some (.int a1), none, some (.ref (ax 0 l4)), some (.int l5)] [] := by
    intro σ l4 l5 hl4
    unfold fn_Fl_goOn_62
    refine v_aload S d_Fl_goOn_62 rfl ?_
    refine v_ci (rest := []) (fun _ _ hg H locs ls hsz hP hS => run_V (As := []) (rest := []) S kC_ok hKK (c_Op_jumps l D ca ax b σ l4 hl4 hg) (k_Fl_81 S.2.2.2.2 (fun _ => List.mem_cons_of_mem _) ⟨Nat.le_of_ble_eq_true rfl, Nat.le_of_ble_eq_true rfl⟩) (rc_op hKK hl4 hS) rfl rfl (Nat.zero_le _) d_Fl_goOn_64 hsz hP hS) (fun r14 σ13 _ => ?_)
    refine v_if_eq S d_Fl_goOn_67 (tgt := 85) (by decide) (fun h15 => ?_) (fun h15 => ?_)
    · exact v_vret S hret hlocks d_Fl_goOn_85
    · refine v_aload_n S d_Fl_goOn_70 rfl rfl ?_
      refine v_iload_n S d_Fl_goOn_71 rfl rfl ?_
      refine v_aload_n S d_Fl_goOn_72 rfl rfl ?_
      refine v_get S (fun w h => List.mem_cons_of_mem _ (i_Fl w h)) hKK.1 8 (by decide) rfl rfl 0 (by decide) (S.2.2.2.2 _ (List.mem_cons_of_mem _ (wd_74))) (fun _ h => h) rfl d_Fl_goOn_73 ?_
      refine v_iload_n S d_Fl_goOn_76 rfl rfl ?_
      refine v_ci (rest := [.int a0, .ref (b + 8)]) (fun _ _ hg H locs ls hsz hP hS => run_V (As := [.int a1]) (rest := [.int a0, .ref (b + 8)]) S kC_ok hKK (c_Co_numberAt l D ca ax b σ13 a1 hg) (k_Fl_85 S.2.2.2.2 (fun _ => List.mem_cons_of_mem _) ⟨Nat.le_of_ble_eq_true rfl, Nat.le_of_ble_eq_true rfl⟩) (rc_w hKK.1 hP 1 (by decide) rfl rfl) rfl rfl (by simp [Value.category]) d_Fl_goOn_77 hsz hP hS) (fun r17 σ16 _ => ?_)
      refine v_iload S d_Fl_goOn_80 rfl ?_
      refine v_cv (rest := []) (fun _ hg H locs ls hsz hP hS => run_V (As := [.int a0, .int r17, .int l5]) (rest := []) S kC_ok hKK (c_Fl_meet l D ca ax b σ16 a0 r17 l5 hg) (k_Fl_48 S.2.2.2.2 (fun _ => List.mem_cons_of_mem _) ⟨Nat.le_of_ble_eq_true rfl, Nat.le_of_ble_eq_true rfl⟩) (rc_w hKK.1 hP 8 (by decide) rfl rfl) rfl rfl (Nat.zero_le _) d_Fl_goOn_82 hsz hP hS) (fun σ18 _ => ?_)
      exact v_vret S hret hlocks d_Fl_goOn_85
  unfold fn_Fl_goOn
  refine v_aload_n S d_Fl_goOn_0 rfl rfl ?_
  refine v_get S (fun w h => List.mem_cons_of_mem _ (i_Fl w h)) hKK.1 8 (by decide) rfl rfl 2 (by decide) (S.2.2.2.2 _ (List.mem_cons_of_mem _ (wd_76))) (fun _ h => h) rfl d_Fl_goOn_1 ?_
  refine v_iload_n S d_Fl_goOn_4 rfl rfl ?_
  refine v_aald S hKK.1 10 3 (by decide) (ty := .array .int) rfl rfl rfl d_Fl_goOn_5 (fun h1 => ?_)
  refine v_iload_n S d_Fl_goOn_6 rfl rfl ?_
  refine v_iald S hKK.1 (11 + (a0.toNatClampNeg)) 0 (rw_lt (ib h1)) (ce_rw (ib h1)) rfl d_Fl_goOn_7 (fun h2 => ?_)
  refine v_top (fun x3 ex3 => ?_)
  refine v_istore_nP S d_Fl_goOn_8 rfl (by decide) (L2 := [some (.ref (b + 8)), some (.int a0), some (.int a1), some (.int x3)]) rfl ?_
  refine v_aload_n S d_Fl_goOn_9 rfl rfl ?_
  refine v_get S (fun w h => List.mem_cons_of_mem _ (i_Fl w h)) hKK.1 8 (by decide) rfl rfl 0 (by decide) (S.2.2.2.2 _ (List.mem_cons_of_mem _ (wd_74))) (fun _ h => h) rfl d_Fl_goOn_10 ?_
  refine v_iload_n S d_Fl_goOn_13 rfl rfl ?_
  refine v_iload_n S d_Fl_goOn_14 rfl rfl ?_
  refine v_iload_n S d_Fl_goOn_15 rfl rfl ?_
  refine v_ci (rest := []) (fun _ _ hg H locs ls hsz hP hS => run_V (As := [.int a0, .int a1, .int x3]) (rest := []) S kC_ok hKK (c_Co_fits l D ca ax b σ a0 a1 x3 hg) (k_Fl_63 S.2.2.2.2 (fun _ => List.mem_cons_of_mem _) ⟨Nat.le_of_ble_eq_true rfl, Nat.le_of_ble_eq_true rfl⟩) (rc_w hKK.1 hP 1 (by decide) rfl rfl) rfl rfl (Nat.zero_le _) d_Fl_goOn_16 hsz hP hS) (fun r5 σ4 _ => ?_)
  refine v_if_ne S d_Fl_goOn_19 (tgt := 23) (by decide) (fun h6 => ?_) (fun h6 => ?_)
  · refine v_aload_n S d_Fl_goOn_23 rfl rfl ?_
    refine v_get S (fun w h => List.mem_cons_of_mem _ (i_Fl w h)) hKK.1 8 (by decide) rfl rfl 0 (by decide) (S.2.2.2.2 _ (List.mem_cons_of_mem _ (wd_74))) (fun _ h => h) rfl d_Fl_goOn_24 ?_
    refine v_iload_n S d_Fl_goOn_27 rfl rfl ?_
    refine v_ca (ax 0) (rest := []) (fun _ _ hg H locs ls hsz hP hS => run_V (As := [.int a1]) (rest := []) S kC_ok hKK (c_Co_opAt l D ca ax b σ4 a1 hg) (k_Fl_67 S.2.2.2.2 (fun _ => List.mem_cons_of_mem _) ⟨Nat.le_of_ble_eq_true rfl, Nat.le_of_ble_eq_true rfl⟩) (rc_w hKK.1 hP 1 (by decide) rfl rfl) rfl rfl (Nat.zero_le _) d_Fl_goOn_28 hsz hP hS) (fun r8 σ7 g9 => ?_)
    refine v_astoreP S d_Fl_goOn_31 (by decide) (L2 := [some (.ref (b + 8)), some (.int a0), some (.int a1), some (.int x3), some (.ref (ax 0 r8))]) rfl ?_
    refine v_aload_n S d_Fl_goOn_33 rfl rfl ?_
    refine v_get S (fun w h => List.mem_cons_of_mem _ (i_Fl w h)) hKK.1 8 (by decide) rfl rfl 0 (by decide) (S.2.2.2.2 _ (List.mem_cons_of_mem _ (wd_74))) (fun _ h => h) rfl d_Fl_goOn_34 ?_
    refine v_iload_n S d_Fl_goOn_37 rfl rfl ?_
    refine v_iload_n S d_Fl_goOn_38 rfl rfl ?_
    refine v_ci (rest := []) (fun _ _ hg H locs ls hsz hP hS => run_V (As := [.int a1, .int x3]) (rest := []) S kC_ok hKK (c_Co_after l D ca ax b σ7 a1 x3 hg) (k_Fl_71 S.2.2.2.2 (fun _ => List.mem_cons_of_mem _) ⟨Nat.le_of_ble_eq_true rfl, Nat.le_of_ble_eq_true rfl⟩) (rc_w hKK.1 hP 1 (by decide) rfl rfl) rfl rfl (Nat.zero_le _) d_Fl_goOn_39 hsz hP hS) (fun r11 σ10 _ => ?_)
    refine v_istoreP S d_Fl_goOn_42 (by decide) (L2 := [some (.ref (b + 8)), some (.int a0), some (.int a1), some (.int x3), some (.ref (ax 0 r8)), some (.int r11)]) rfl ?_
    refine v_aload S d_Fl_goOn_44 rfl ?_
    refine v_of S (kc_fB hKK (rb_Co_opAt g9)) (S.2.2.2.2 _ (List.mem_cons_of_mem _ (wd_993))) (fun _ h => h) d_Fl_goOn_46 ?_
    refine v_if_eq S d_Fl_goOn_49 (tgt := 62) (by decide) (fun h12 => ?_) (fun h12 => ?_)
    · refine v_sub (L2 := [some (.ref (b + 8)), some (.int a0), some (.int a1), none, some (.ref (ax 0 r8)), some (.int r11)]) (And.intro rfl (And.intro rfl (And.intro rfl (And.intro rfl (And.intro rfl True.intro))))) ?_
      exact C62 σ10 r8 r11 (rb_Co_opAt g9)
    · refine v_aload_n S d_Fl_goOn_52 rfl rfl ?_
      refine v_iload_n S d_Fl_goOn_53 rfl rfl ?_
      refine v_iload_n S d_Fl_goOn_54 rfl rfl ?_
      refine v_iconst S d_Fl_goOn_55 (v := (1 : Int32)) (by decide) ?_
      refine v_iadd S d_Fl_goOn_56 ?_
      refine v_iload S d_Fl_goOn_57 rfl ?_
      refine v_cv (rest := []) (fun _ hg H locs ls hsz hP hS => run_V (As := [.int a0, .int (a1 + (1 : Int32)), .int r11]) (rest := []) S kC_ok hKK (c_Fl_meet l D ca ax b σ10 a0 (a1 + (1 : Int32)) r11 hg) (k_Fl_48 S.2.2.2.2 (fun _ => List.mem_cons_of_mem _) ⟨Nat.le_of_ble_eq_true rfl, Nat.le_of_ble_eq_true rfl⟩) (rc_w hKK.1 hP 8 (by decide) rfl rfl) rfl rfl (Nat.zero_le _) d_Fl_goOn_59 hsz hP hS) (fun σ19 _ => ?_)
      refine v_sub (L2 := [some (.ref (b + 8)), some (.int a0), some (.int a1), none, some (.ref (ax 0 r8)), some (.int r11)]) (And.intro rfl (And.intro rfl (And.intro rfl (And.intro rfl (And.intro rfl True.intro))))) ?_
      exact C62 σ19 r8 r11 (rb_Co_opAt g9)
  · exact v_vret S hret hlocks d_Fl_goOn_22
def fn_Fl_workOut_56 (a0 : Int32) : Nat → mm_M → Int32 → Option (mm_M)
  | 0, _, _ => none
  | n + 1, σ, l2 =>
    (if (1400 : Int32) < l2 then
    (if (a0 < 0 ∨ 4 ≤ a0.toNatClampNeg) then none else (nm (mw σ 9 a0.toNatClampNeg (1 : Int32)) (fun σ11 =>
    (some σ11))))
    else
    (bd (fn_Fl_takeLeastWaiting σ) (fun r13 σ12 =>
    (if r13 = (-1 : Int32) then
    (if (a0 < 0 ∨ 4 ≤ a0.toNatClampNeg) then none else (nm (mw σ12 9 a0.toNatClampNeg (1 : Int32)) (fun σ18 =>
    (some σ18))))
    else
    (bv (fn_Fl_goOn σ12 a0 r13) (fun σ15 =>
    (fn_Fl_workOut_56 a0 n σ15 (l2 + (1 : Int32)))))))))
def fn_Fl_workOut (σ : mm_M) (a0 : Int32) : Option (mm_M) :=
    (if (a0 < 0 ∨ 4 ≤ a0.toNatClampNeg) then none else
    (if (σ 9 a0.toNatClampNeg) = 0 then
    (bv (fn_Fl_clear σ a0) (fun σ3 =>
    (bd (fn_Co_startOf σ3 a0) (fun r5 σ4 =>
    (bd (fn_Co_hasInstruction σ4 r5) (fun r7 σ6 =>
    (if r7 = 0 then
    (fn_Fl_workOut_56 a0 fuel0 σ6 (0 : Int32))
    else
    (bd (fn_Co_startOf σ6 a0) (fun r20 σ19 =>
    (bd (fn_Co_firstState σ19 a0) (fun r22 σ21 =>
    (bv (fn_Fl_meet σ21 a0 r20 r22) (fun σ23 =>
    (fn_Fl_workOut_56 a0 fuel0 σ23 (0 : Int32)))))))))))))))
    else
    (some σ)))
set_option maxRecDepth 100000 in
set_option maxHeartbeats 40000000 in
theorem c_Fl_workOut (l : Launch) (D : va_G) (ca : Nat → ClassId) (ax : Nat → Nat → Nat) (b : Nat) (σ : mm_M) (a0 : Int32)  {σ' : mm_M} (hf : fn_Fl_workOut σ a0 = some σ') : Met l y_Fl_workOut w_Fl_workOut rm_Fl_workOut (pc_w D cls b N_C (ce_C ca b) (kC D ca ax b) [.ref (b + 8), .int a0] σ) (qc_v D cls b N_C (ce_C ca b) σ') 0 0 (mm_A b N_C) := by
  refine vv_go (cc := b_Fl_workOut) (maxL := 4) (ret := none) (fin := σ') (k := fn_Fl_workOut σ a0) (by decide) rfl (by simp [Value.category]) (Nat.le_of_ble_eq_true rfl) hf ?_
  intro p e s m below meth c hlocks hret S hKK
  have C56 : ∀ (n : Nat) (σ : mm_M) (l2 : Int32), vv p l e (headSpec w_Fl_workOut rm_Fl_workOut).room s m [.ref (b + 8), .int a0].toArray below meth c D cls b N_C (ce_C ca b) 4 (MQ below (qc_v D cls b N_C (ce_C ca b) σ') [.ref (b + 8), .int a0].toArray s 0 0 (mm_A b N_C)) σ' (fn_Fl_workOut_56 a0 n σ l2) σ 56 [some (.ref (b + 8)), some (.int a0), some (.int l2)] [] := by
    intro n
    induction n with
    | zero => intro σ l2  h; cases h
    | succ n ih =>
      intro σ l2
      show vv p l e (headSpec w_Fl_workOut rm_Fl_workOut).room s m [.ref (b + 8), .int a0].toArray below meth c D cls b N_C (ce_C ca b) 4 (MQ below (qc_v D cls b N_C (ce_C ca b) σ') [.ref (b + 8), .int a0].toArray s 0 0 (mm_A b N_C)) σ' (        (if (1400 : Int32) < l2 then
        (if (a0 < 0 ∨ 4 ≤ a0.toNatClampNeg) then none else (nm (mw σ 9 a0.toNatClampNeg (1 : Int32)) (fun σ11 =>
        (some σ11))))
        else
        (bd (fn_Fl_takeLeastWaiting σ) (fun r13 σ12 =>
        (if r13 = (-1 : Int32) then
        (if (a0 < 0 ∨ 4 ≤ a0.toNatClampNeg) then none else (nm (mw σ12 9 a0.toNatClampNeg (1 : Int32)) (fun σ18 =>
        (some σ18))))
        else
        (bv (fn_Fl_goOn σ12 a0 r13) (fun σ15 =>
        (fn_Fl_workOut_56 a0 n σ15 (l2 + (1 : Int32)))))))))) σ 56 [some (.ref (b + 8)), some (.int a0), some (.int l2)] []
      refine v_iload_n S d_Fl_workOut_56 rfl rfl ?_
      refine v_sipush S d_Fl_workOut_57 (v := (1400 : Int32)) (by decide) ?_
      refine v_icmp_gt S d_Fl_workOut_60 (tgt := 88) (by decide) (fun h9 => ?_) (fun h9 => ?_)
      · refine v_aload_n S d_Fl_workOut_88 rfl rfl ?_
        refine v_get S (fun w h => List.mem_cons_of_mem _ (i_Fl w h)) hKK.1 8 (by decide) rfl rfl 1 (by decide) (S.2.2.2.2 _ (List.mem_cons_of_mem _ (wd_75))) (fun _ h => h) rfl d_Fl_workOut_89 ?_
        refine v_iload_n S d_Fl_workOut_92 rfl rfl ?_
        refine v_iconst S d_Fl_workOut_93 (v := (1 : Int32)) (by decide) ?_
        refine v_zast1 S hKK.1 9 1 (by decide) (fun _ => rfl) rfl (Or.inr rfl) d_Fl_workOut_94 (fun h10 => ?_)
        refine v_sg (fun σ11 eσ11 => ?_)
        exact v_vret S hret hlocks d_Fl_workOut_95
      · refine v_aload_n S d_Fl_workOut_63 rfl rfl ?_
        refine v_ci (rest := []) (fun _ _ hg H locs ls hsz hP hS => run_V (As := []) (rest := []) S kC_ok hKK (c_Fl_takeLeastWaiting l D ca ax b σ hg) (k_Fl_52 S.2.2.2.2 (fun _ => List.mem_cons_of_mem _) ⟨Nat.le_of_ble_eq_true rfl, Nat.le_of_ble_eq_true rfl⟩) (rc_w hKK.1 hP 8 (by decide) rfl rfl) rfl rfl (Nat.zero_le _) d_Fl_workOut_64 hsz hP hS) (fun r13 σ12 _ => ?_)
        refine v_istore_nP S d_Fl_workOut_67 rfl (by decide) (L2 := [some (.ref (b + 8)), some (.int a0), some (.int l2), some (.int r13)]) rfl ?_
        refine v_iload_n S d_Fl_workOut_68 rfl rfl ?_
        refine v_iconst S d_Fl_workOut_69 (v := (-1 : Int32)) (by decide) ?_
        refine v_icmp_ne S d_Fl_workOut_70 (tgt := 76) (by decide) (fun h14 => ?_) (fun h14 => ?_)
        · refine v_aload_n S d_Fl_workOut_76 rfl rfl ?_
          refine v_iload_n S d_Fl_workOut_77 rfl rfl ?_
          refine v_iload_n S d_Fl_workOut_78 rfl rfl ?_
          refine v_cv (rest := []) (fun _ hg H locs ls hsz hP hS => run_V (As := [.int a0, .int r13]) (rest := []) S kC_ok hKK (c_Fl_goOn l D ca ax b σ12 a0 r13 hg) (k_Fl_56 S.2.2.2.2 (fun _ => List.mem_cons_of_mem _) ⟨Nat.le_of_ble_eq_true rfl, Nat.le_of_ble_eq_true rfl⟩) (rc_w hKK.1 hP 8 (by decide) rfl rfl) rfl rfl (Nat.zero_le _) d_Fl_workOut_79 hsz hP hS) (fun σ15 _ => ?_)
          refine v_iinc S d_Fl_workOut_82 rfl (v := (l2 + (1 : Int32))) (by first | rfl | decide) (by decide) (L2 := [some (.ref (b + 8)), some (.int a0), some (.int (l2 + (1 : Int32))), some (.int r13)]) rfl ?_
          refine v_goto S d_Fl_workOut_85 (tgt := 56) (by decide) ?_
          refine v_sub (L2 := [some (.ref (b + 8)), some (.int a0), some (.int (l2 + (1 : Int32)))]) (And.intro rfl (And.intro rfl (And.intro rfl True.intro))) ?_
          exact ih σ15 (l2 + (1 : Int32))
        · refine v_goto S d_Fl_workOut_73 (tgt := 88) (by decide) ?_
          refine v_aload_n S d_Fl_workOut_88 rfl rfl ?_
          refine v_get S (fun w h => List.mem_cons_of_mem _ (i_Fl w h)) hKK.1 8 (by decide) rfl rfl 1 (by decide) (S.2.2.2.2 _ (List.mem_cons_of_mem _ (wd_75))) (fun _ h => h) rfl d_Fl_workOut_89 ?_
          refine v_iload_n S d_Fl_workOut_92 rfl rfl ?_
          refine v_iconst S d_Fl_workOut_93 (v := (1 : Int32)) (by decide) ?_
          refine v_zast1 S hKK.1 9 1 (by decide) (fun _ => rfl) rfl (Or.inr rfl) d_Fl_workOut_94 (fun h17 => ?_)
          refine v_sg (fun σ18 eσ18 => ?_)
          exact v_vret S hret hlocks d_Fl_workOut_95
  unfold fn_Fl_workOut
  refine v_aload_n S d_Fl_workOut_0 rfl rfl ?_
  refine v_get S (fun w h => List.mem_cons_of_mem _ (i_Fl w h)) hKK.1 8 (by decide) rfl rfl 1 (by decide) (S.2.2.2.2 _ (List.mem_cons_of_mem _ (wd_75))) (fun _ h => h) rfl d_Fl_workOut_1 ?_
  refine v_iload_n S d_Fl_workOut_4 rfl rfl ?_
  refine v_zald S hKK.1 9 1 (by decide) rfl rfl d_Fl_workOut_5 (fun h1 => ?_)
  refine v_if_eq S d_Fl_workOut_6 (tgt := 10) (by decide) (fun h2 => ?_) (fun h2 => ?_)
  · refine v_aload_n S d_Fl_workOut_10 rfl rfl ?_
    refine v_iload_n S d_Fl_workOut_11 rfl rfl ?_
    refine v_cv (rest := []) (fun _ hg H locs ls hsz hP hS => run_V (As := [.int a0]) (rest := []) S kC_ok hKK (c_Fl_clear l D ca ax b σ a0 hg) (k_Fl_31 S.2.2.2.2 (fun _ => List.mem_cons_of_mem _) ⟨Nat.le_of_ble_eq_true rfl, Nat.le_of_ble_eq_true rfl⟩) (rc_w hKK.1 hP 8 (by decide) rfl rfl) rfl rfl (Nat.zero_le _) d_Fl_workOut_12 hsz hP hS) (fun σ3 _ => ?_)
    refine v_aload_n S d_Fl_workOut_15 rfl rfl ?_
    refine v_get S (fun w h => List.mem_cons_of_mem _ (i_Fl w h)) hKK.1 8 (by decide) rfl rfl 0 (by decide) (S.2.2.2.2 _ (List.mem_cons_of_mem _ (wd_74))) (fun _ h => h) rfl d_Fl_workOut_16 ?_
    refine v_aload_n S d_Fl_workOut_19 rfl rfl ?_
    refine v_get S (fun w h => List.mem_cons_of_mem _ (i_Fl w h)) hKK.1 8 (by decide) rfl rfl 0 (by decide) (S.2.2.2.2 _ (List.mem_cons_of_mem _ (wd_74))) (fun _ h => h) rfl d_Fl_workOut_20 ?_
    refine v_iload_n S d_Fl_workOut_23 rfl rfl ?_
    refine v_ci (rest := [.ref (b + 1)]) (fun _ _ hg H locs ls hsz hP hS => run_V (As := [.int a0]) (rest := [.ref (b + 1)]) S kC_ok hKK (c_Co_startOf l D ca ax b σ3 a0 hg) (k_Fl_35 S.2.2.2.2 (fun _ => List.mem_cons_of_mem _) ⟨Nat.le_of_ble_eq_true rfl, Nat.le_of_ble_eq_true rfl⟩) (rc_w hKK.1 hP 1 (by decide) rfl rfl) rfl rfl (by simp [Value.category]) d_Fl_workOut_24 hsz hP hS) (fun r5 σ4 _ => ?_)
    refine v_ci (rest := []) (fun _ _ hg H locs ls hsz hP hS => run_V (As := [.int r5]) (rest := []) S kC_ok hKK (c_Co_hasInstruction l D ca ax b σ4 r5 hg) (k_Fl_41 S.2.2.2.2 (fun _ => List.mem_cons_of_mem _) ⟨Nat.le_of_ble_eq_true rfl, Nat.le_of_ble_eq_true rfl⟩) (rc_w hKK.1 hP 1 (by decide) rfl rfl) rfl rfl (Nat.zero_le _) d_Fl_workOut_27 hsz hP hS) (fun r7 σ6 _ => ?_)
    refine v_if_eq S d_Fl_workOut_30 (tgt := 54) (by decide) (fun h8 => ?_) (fun h8 => ?_)
    · refine v_iconst S d_Fl_workOut_54 (v := (0 : Int32)) (by decide) ?_
      refine v_istore_nP S d_Fl_workOut_55 rfl (by decide) (L2 := [some (.ref (b + 8)), some (.int a0), some (.int (0 : Int32))]) rfl ?_
      refine v_sub (L2 := [some (.ref (b + 8)), some (.int a0), some (.int (0 : Int32))]) (And.intro rfl (And.intro rfl (And.intro rfl True.intro))) ?_
      exact C56 fuel0 σ6 (0 : Int32)
    · refine v_aload_n S d_Fl_workOut_33 rfl rfl ?_
      refine v_iload_n S d_Fl_workOut_34 rfl rfl ?_
      refine v_aload_n S d_Fl_workOut_35 rfl rfl ?_
      refine v_get S (fun w h => List.mem_cons_of_mem _ (i_Fl w h)) hKK.1 8 (by decide) rfl rfl 0 (by decide) (S.2.2.2.2 _ (List.mem_cons_of_mem _ (wd_74))) (fun _ h => h) rfl d_Fl_workOut_36 ?_
      refine v_iload_n S d_Fl_workOut_39 rfl rfl ?_
      refine v_ci (rest := [.int a0, .ref (b + 8)]) (fun _ _ hg H locs ls hsz hP hS => run_V (As := [.int a0]) (rest := [.int a0, .ref (b + 8)]) S kC_ok hKK (c_Co_startOf l D ca ax b σ6 a0 hg) (k_Fl_35 S.2.2.2.2 (fun _ => List.mem_cons_of_mem _) ⟨Nat.le_of_ble_eq_true rfl, Nat.le_of_ble_eq_true rfl⟩) (rc_w hKK.1 hP 1 (by decide) rfl rfl) rfl rfl (by simp [Value.category]) d_Fl_workOut_40 hsz hP hS) (fun r20 σ19 _ => ?_)
      refine v_aload_n S d_Fl_workOut_43 rfl rfl ?_
      refine v_get S (fun w h => List.mem_cons_of_mem _ (i_Fl w h)) hKK.1 8 (by decide) rfl rfl 0 (by decide) (S.2.2.2.2 _ (List.mem_cons_of_mem _ (wd_74))) (fun _ h => h) rfl d_Fl_workOut_44 ?_
      refine v_iload_n S d_Fl_workOut_47 rfl rfl ?_
      refine v_ci (rest := [.int r20, .int a0, .ref (b + 8)]) (fun _ _ hg H locs ls hsz hP hS => run_V (As := [.int a0]) (rest := [.int r20, .int a0, .ref (b + 8)]) S kC_ok hKK (c_Co_firstState l D ca ax b σ19 a0 hg) (k_Fl_45 S.2.2.2.2 (fun _ => List.mem_cons_of_mem _) ⟨Nat.le_of_ble_eq_true rfl, Nat.le_of_ble_eq_true rfl⟩) (rc_w hKK.1 hP 1 (by decide) rfl rfl) rfl rfl (by simp [Value.category]) d_Fl_workOut_48 hsz hP hS) (fun r22 σ21 _ => ?_)
      refine v_cv (rest := []) (fun _ hg H locs ls hsz hP hS => run_V (As := [.int a0, .int r20, .int r22]) (rest := []) S kC_ok hKK (c_Fl_meet l D ca ax b σ21 a0 r20 r22 hg) (k_Fl_48 S.2.2.2.2 (fun _ => List.mem_cons_of_mem _) ⟨Nat.le_of_ble_eq_true rfl, Nat.le_of_ble_eq_true rfl⟩) (rc_w hKK.1 hP 8 (by decide) rfl rfl) rfl rfl (Nat.zero_le _) d_Fl_workOut_51 hsz hP hS) (fun σ23 _ => ?_)
      refine v_iconst S d_Fl_workOut_54 (v := (0 : Int32)) (by decide) ?_
      refine v_istore_nP S d_Fl_workOut_55 rfl (by decide) (L2 := [some (.ref (b + 8)), some (.int a0), some (.int (0 : Int32))]) rfl ?_
      refine v_sub (L2 := [some (.ref (b + 8)), some (.int a0), some (.int (0 : Int32))]) (And.intro rfl (And.intro rfl (And.intro rfl True.intro))) ?_
      exact C56 fuel0 σ23 (0 : Int32)
  · exact v_vret S hret hlocks d_Fl_workOut_9
def fn_Fl_stateOf (σ : mm_M) (a0 : Int32) (a1 : Int32) : Option (Int32 × mm_M) :=
    (if (a0 < 0 ∨ 4 ≤ a0.toNatClampNeg) then none else
    (if (a1 < 0 ∨ 100 ≤ a1.toNatClampNeg) then none else
    (some ((σ (11 + (a0.toNatClampNeg)) a1.toNatClampNeg), σ))))
set_option maxRecDepth 100000 in
set_option maxHeartbeats 40000000 in
theorem c_Fl_stateOf (l : Launch) (D : va_G) (ca : Nat → ClassId) (ax : Nat → Nat → Nat) (b : Nat) (σ : mm_M) (a0 : Int32) (a1 : Int32)  {r : Int32} {σ' : mm_M} (hf : fn_Fl_stateOf σ a0 a1 = some (r, σ')) : Met l y_Fl_stateOf w_Fl_stateOf rm_Fl_stateOf (pc_w D cls b N_C (ce_C ca b) (kC D ca ax b) [.ref (b + 8), .int a0, .int a1] σ) (qc_i D cls b N_C (ce_C ca b) r σ') 0 0 (mm_A b N_C) := by
  refine vv_go (cc := b_Fl_stateOf) (maxL := 3) (ret := (some .int)) (fin := (r, σ')) (k := fn_Fl_stateOf σ a0 a1) (by decide) rfl (by simp [Value.category]) (Nat.le_of_ble_eq_true rfl) hf ?_
  intro p e s m below meth c hlocks hret S hKK
  unfold fn_Fl_stateOf
  refine v_aload_n S d_Fl_stateOf_0 rfl rfl ?_
  refine v_get S (fun w h => List.mem_cons_of_mem _ (i_Fl w h)) hKK.1 8 (by decide) rfl rfl 2 (by decide) (S.2.2.2.2 _ (List.mem_cons_of_mem _ (wd_76))) (fun _ h => h) rfl d_Fl_stateOf_1 ?_
  refine v_iload_n S d_Fl_stateOf_4 rfl rfl ?_
  refine v_aald S hKK.1 10 3 (by decide) (ty := .array .int) rfl rfl rfl d_Fl_stateOf_5 (fun h1 => ?_)
  refine v_iload_n S d_Fl_stateOf_6 rfl rfl ?_
  refine v_iald S hKK.1 (11 + (a0.toNatClampNeg)) 0 (rw_lt (ib h1)) (ce_rw (ib h1)) rfl d_Fl_stateOf_7 (fun h2 => ?_)
  exact v_iret S hret hlocks d_Fl_stateOf_8
def fn_Fl_leastUnfit_24 (a0 : Int32) : Nat → mm_M → Int32 → Option (Int32 × mm_M)
  | 0, _, _ => none
  | n + 1, σ, l2 =>
    (if (σ 1 0) ≤ l2 then
    (some ((-1 : Int32), σ))
    else
    (if (a0 < 0 ∨ 4 ≤ a0.toNatClampNeg) then none else
    (if (l2 < 0 ∨ 100 ≤ l2.toNatClampNeg) then none else
    (nm (σ (11 + (a0.toNatClampNeg)) l2.toNatClampNeg) (fun x9 =>
    (if x9 = (-1 : Int32) then
    (fn_Fl_leastUnfit_24 a0 n σ (l2 + (1 : Int32)))
    else
    (bd (fn_Co_fits σ a0 l2 x9) (fun r13 σ12 =>
    (if r13 = 0 then
    (some (l2, σ12))
    else
    (fn_Fl_leastUnfit_24 a0 n σ12 (l2 + (1 : Int32))))))))))))
def fn_Fl_leastUnfit (σ : mm_M) (a0 : Int32) : Option (Int32 × mm_M) :=
    (bd (fn_Co_startOf σ a0) (fun r2 σ1 =>
    (bd (fn_Co_hasInstruction σ1 r2) (fun r4 σ3 =>
    (if r4 = 0 then
    (some ((999 : Int32), σ3))
    else
    (fn_Fl_leastUnfit_24 a0 fuel0 σ3 (0 : Int32)))))))
set_option maxRecDepth 100000 in
set_option maxHeartbeats 40000000 in
theorem c_Fl_leastUnfit (l : Launch) (D : va_G) (ca : Nat → ClassId) (ax : Nat → Nat → Nat) (b : Nat) (σ : mm_M) (a0 : Int32)  {r : Int32} {σ' : mm_M} (hf : fn_Fl_leastUnfit σ a0 = some (r, σ')) : Met l y_Fl_leastUnfit w_Fl_leastUnfit rm_Fl_leastUnfit (pc_w D cls b N_C (ce_C ca b) (kC D ca ax b) [.ref (b + 8), .int a0] σ) (qc_i D cls b N_C (ce_C ca b) r σ') 0 0 (mm_A b N_C) := by
  refine vv_go (cc := b_Fl_leastUnfit) (maxL := 4) (ret := (some .int)) (fin := (r, σ')) (k := fn_Fl_leastUnfit σ a0) (by decide) rfl (by simp [Value.category]) (Nat.le_of_ble_eq_true rfl) hf ?_
  intro p e s m below meth c hlocks hret S hKK
  have C24 : ∀ (n : Nat) (σ : mm_M) (l2 : Int32), vv p l e (headSpec w_Fl_leastUnfit rm_Fl_leastUnfit).room s m [.ref (b + 8), .int a0].toArray below meth c D cls b N_C (ce_C ca b) 4 (MQ below (qc_i D cls b N_C (ce_C ca b) r σ') [.ref (b + 8), .int a0].toArray s 0 0 (mm_A b N_C)) (r, σ') (fn_Fl_leastUnfit_24 a0 n σ l2) σ 24 [some (.ref (b + 8)), some (.int a0), some (.int l2)] [] := by
    intro n
    induction n with
    | zero => intro σ l2  h; cases h
    | succ n ih =>
      intro σ l2
      show vv p l e (headSpec w_Fl_leastUnfit rm_Fl_leastUnfit).room s m [.ref (b + 8), .int a0].toArray below meth c D cls b N_C (ce_C ca b) 4 (MQ below (qc_i D cls b N_C (ce_C ca b) r σ') [.ref (b + 8), .int a0].toArray s 0 0 (mm_A b N_C)) (r, σ') (        (if (σ 1 0) ≤ l2 then
        (some ((-1 : Int32), σ))
        else
        (if (a0 < 0 ∨ 4 ≤ a0.toNatClampNeg) then none else
        (if (l2 < 0 ∨ 100 ≤ l2.toNatClampNeg) then none else
        (nm (σ (11 + (a0.toNatClampNeg)) l2.toNatClampNeg) (fun x9 =>
        (if x9 = (-1 : Int32) then
        (fn_Fl_leastUnfit_24 a0 n σ (l2 + (1 : Int32)))
        else
        (bd (fn_Co_fits σ a0 l2 x9) (fun r13 σ12 =>
        (if r13 = 0 then
        (some (l2, σ12))
        else
        (fn_Fl_leastUnfit_24 a0 n σ12 (l2 + (1 : Int32))))))))))))) σ 24 [some (.ref (b + 8)), some (.int a0), some (.int l2)] []
      refine v_iload_n S d_Fl_leastUnfit_24 rfl rfl ?_
      refine v_aload_n S d_Fl_leastUnfit_25 rfl rfl ?_
      refine v_get S (fun w h => List.mem_cons_of_mem _ (i_Fl w h)) hKK.1 8 (by decide) rfl rfl 0 (by decide) (S.2.2.2.2 _ (List.mem_cons_of_mem _ (wd_74))) (fun _ h => h) rfl d_Fl_leastUnfit_26 ?_
      refine v_get S (fun w h => List.mem_cons_of_mem _ (i_Co w h)) hKK.1 1 (by decide) rfl rfl 0 (by decide) (S.2.2.2.2 _ (List.mem_cons_of_mem _ (wd_42))) (fun _ h => h) rfl d_Fl_leastUnfit_29 ?_
      refine v_icmp_ge S d_Fl_leastUnfit_32 (tgt := 70) (by decide) (fun h6 => ?_) (fun h6 => ?_)
      · refine v_iconst S d_Fl_leastUnfit_70 (v := (-1 : Int32)) (by decide) ?_
        exact v_iret S hret hlocks d_Fl_leastUnfit_71
      · refine v_aload_n S d_Fl_leastUnfit_35 rfl rfl ?_
        refine v_get S (fun w h => List.mem_cons_of_mem _ (i_Fl w h)) hKK.1 8 (by decide) rfl rfl 2 (by decide) (S.2.2.2.2 _ (List.mem_cons_of_mem _ (wd_76))) (fun _ h => h) rfl d_Fl_leastUnfit_36 ?_
        refine v_iload_n S d_Fl_leastUnfit_39 rfl rfl ?_
        refine v_aald S hKK.1 10 3 (by decide) (ty := .array .int) rfl rfl rfl d_Fl_leastUnfit_40 (fun h7 => ?_)
        refine v_iload_n S d_Fl_leastUnfit_41 rfl rfl ?_
        refine v_iald S hKK.1 (11 + (a0.toNatClampNeg)) 0 (rw_lt (ib h7)) (ce_rw (ib h7)) rfl d_Fl_leastUnfit_42 (fun h8 => ?_)
        refine v_top (fun x9 ex9 => ?_)
        refine v_istore_nP S d_Fl_leastUnfit_43 rfl (by decide) (L2 := [some (.ref (b + 8)), some (.int a0), some (.int l2), some (.int x9)]) rfl ?_
        refine v_iload_n S d_Fl_leastUnfit_44 rfl rfl ?_
        refine v_iconst S d_Fl_leastUnfit_45 (v := (-1 : Int32)) (by decide) ?_
        refine v_icmp_eq S d_Fl_leastUnfit_46 (tgt := 64) (by decide) (fun h10 => ?_) (fun h10 => ?_)
        · refine v_iinc S d_Fl_leastUnfit_64 rfl (v := (l2 + (1 : Int32))) (by first | rfl | decide) (by decide) (L2 := [some (.ref (b + 8)), some (.int a0), some (.int (l2 + (1 : Int32))), some (.int x9)]) rfl ?_
          refine v_goto S d_Fl_leastUnfit_67 (tgt := 24) (by decide) ?_
          refine v_sub (L2 := [some (.ref (b + 8)), some (.int a0), some (.int (l2 + (1 : Int32)))]) (And.intro rfl (And.intro rfl (And.intro rfl True.intro))) ?_
          exact ih σ (l2 + (1 : Int32))
        · refine v_aload_n S d_Fl_leastUnfit_49 rfl rfl ?_
          refine v_get S (fun w h => List.mem_cons_of_mem _ (i_Fl w h)) hKK.1 8 (by decide) rfl rfl 0 (by decide) (S.2.2.2.2 _ (List.mem_cons_of_mem _ (wd_74))) (fun _ h => h) rfl d_Fl_leastUnfit_50 ?_
          refine v_iload_n S d_Fl_leastUnfit_53 rfl rfl ?_
          refine v_iload_n S d_Fl_leastUnfit_54 rfl rfl ?_
          refine v_iload_n S d_Fl_leastUnfit_55 rfl rfl ?_
          refine v_ci (rest := []) (fun _ _ hg H locs ls hsz hP hS => run_V (As := [.int a0, .int l2, .int x9]) (rest := []) S kC_ok hKK (c_Co_fits l D ca ax b σ a0 l2 x9 hg) (k_Fl_63 S.2.2.2.2 (fun _ => List.mem_cons_of_mem _) ⟨Nat.le_of_ble_eq_true rfl, Nat.le_of_ble_eq_true rfl⟩) (rc_w hKK.1 hP 1 (by decide) rfl rfl) rfl rfl (Nat.zero_le _) d_Fl_leastUnfit_56 hsz hP hS) (fun r13 σ12 _ => ?_)
          refine v_if_ne S d_Fl_leastUnfit_59 (tgt := 64) (by decide) (fun h14 => ?_) (fun h14 => ?_)
          · refine v_iinc S d_Fl_leastUnfit_64 rfl (v := (l2 + (1 : Int32))) (by first | rfl | decide) (by decide) (L2 := [some (.ref (b + 8)), some (.int a0), some (.int (l2 + (1 : Int32))), some (.int x9)]) rfl ?_
            refine v_goto S d_Fl_leastUnfit_67 (tgt := 24) (by decide) ?_
            refine v_sub (L2 := [some (.ref (b + 8)), some (.int a0), some (.int (l2 + (1 : Int32)))]) (And.intro rfl (And.intro rfl (And.intro rfl True.intro))) ?_
            exact ih σ12 (l2 + (1 : Int32))
          · refine v_iload_n S d_Fl_leastUnfit_62 rfl rfl ?_
            exact v_iret S hret hlocks d_Fl_leastUnfit_63
  unfold fn_Fl_leastUnfit
  refine v_aload_n S d_Fl_leastUnfit_0 rfl rfl ?_
  refine v_get S (fun w h => List.mem_cons_of_mem _ (i_Fl w h)) hKK.1 8 (by decide) rfl rfl 0 (by decide) (S.2.2.2.2 _ (List.mem_cons_of_mem _ (wd_74))) (fun _ h => h) rfl d_Fl_leastUnfit_1 ?_
  refine v_aload_n S d_Fl_leastUnfit_4 rfl rfl ?_
  refine v_get S (fun w h => List.mem_cons_of_mem _ (i_Fl w h)) hKK.1 8 (by decide) rfl rfl 0 (by decide) (S.2.2.2.2 _ (List.mem_cons_of_mem _ (wd_74))) (fun _ h => h) rfl d_Fl_leastUnfit_5 ?_
  refine v_iload_n S d_Fl_leastUnfit_8 rfl rfl ?_
  refine v_ci (rest := [.ref (b + 1)]) (fun _ _ hg H locs ls hsz hP hS => run_V (As := [.int a0]) (rest := [.ref (b + 1)]) S kC_ok hKK (c_Co_startOf l D ca ax b σ a0 hg) (k_Fl_35 S.2.2.2.2 (fun _ => List.mem_cons_of_mem _) ⟨Nat.le_of_ble_eq_true rfl, Nat.le_of_ble_eq_true rfl⟩) (rc_w hKK.1 hP 1 (by decide) rfl rfl) rfl rfl (by simp [Value.category]) d_Fl_leastUnfit_9 hsz hP hS) (fun r2 σ1 _ => ?_)
  refine v_ci (rest := []) (fun _ _ hg H locs ls hsz hP hS => run_V (As := [.int r2]) (rest := []) S kC_ok hKK (c_Co_hasInstruction l D ca ax b σ1 r2 hg) (k_Fl_41 S.2.2.2.2 (fun _ => List.mem_cons_of_mem _) ⟨Nat.le_of_ble_eq_true rfl, Nat.le_of_ble_eq_true rfl⟩) (rc_w hKK.1 hP 1 (by decide) rfl rfl) rfl rfl (Nat.zero_le _) d_Fl_leastUnfit_12 hsz hP hS) (fun r4 σ3 _ => ?_)
  refine v_if_ne S d_Fl_leastUnfit_15 (tgt := 22) (by decide) (fun h5 => ?_) (fun h5 => ?_)
  · refine v_iconst S d_Fl_leastUnfit_22 (v := (0 : Int32)) (by decide) ?_
    refine v_istore_nP S d_Fl_leastUnfit_23 rfl (by decide) (L2 := [some (.ref (b + 8)), some (.int a0), some (.int (0 : Int32))]) rfl ?_
    refine v_sub (L2 := [some (.ref (b + 8)), some (.int a0), some (.int (0 : Int32))]) (And.intro rfl (And.intro rfl (And.intro rfl True.intro))) ?_
    exact C24 fuel0 σ3 (0 : Int32)
  · refine v_sipush S d_Fl_leastUnfit_18 (v := (999 : Int32)) (by decide) ?_
    exact v_iret S hret hlocks d_Fl_leastUnfit_21

/-! contracts of 08.code; written by wip/whole/make.py -/
def fn_Co_wantedBelow (σ : mm_M) (a0 : Int32) (o1 : Nat) (a2 : Int32) (a3 : Int32) : Option (Int32 × mm_M) :=
    (if ((nI o1) < 0 ∨ 20 ≤ (nI o1).toNatClampNeg) then none else
    (if (sw_op (nI o1).toNatClampNeg) = (5 : Int32) then
    (if (a2 < 0 ∨ 4 ≤ a2.toNatClampNeg) then none else
    (bd (fn_Co_kindOf σ a2 (((σ 6 a2.toNatClampNeg) - (1 : Int32)) - a3)) (fun r5 σ4 =>
    (some (r5, σ4)))))
    else
    (if (sw_op (nI o1).toNatClampNeg) = (6 : Int32) then
    (bd (fn_Co_kindOf σ a0 (3 : Int32)) (fun r8 σ7 =>
    (some (r8, σ7))))
    else
    (bd (fn_Op_wanted σ o1 a3) (fun r10 σ9 =>
    (some (r10, σ9)))))))
set_option maxRecDepth 100000 in
set_option maxHeartbeats 40000000 in
theorem c_Co_wantedBelow (l : Launch) (D : va_G) (ca : Nat → ClassId) (ax : Nat → Nat → Nat) (b : Nat) (σ : mm_M) (a0 : Int32) (o1 : Nat) (a2 : Int32) (a3 : Int32) (ho1 : o1 < 20) {r : Int32} {σ' : mm_M} (hf : fn_Co_wantedBelow σ a0 o1 a2 a3 = some (r, σ')) : Met l y_Co_wantedBelow w_Co_wantedBelow rm_Co_wantedBelow (pc_w D cls b N_C (ce_C ca b) (kC D ca ax b) [.ref (b + 1), .int a0, .ref (ax 0 o1), .int a2, .int a3] σ) (qc_i D cls b N_C (ce_C ca b) r σ') 0 0 (mm_A b N_C) := by
  refine vv_go (cc := b_Co_wantedBelow) (maxL := 5) (ret := (some .int)) (fin := (r, σ')) (k := fn_Co_wantedBelow σ a0 o1 a2 a3) (by decide) rfl (by simp [Value.category]) (Nat.le_of_ble_eq_true rfl) hf ?_
  intro p e s m below meth c hlocks hret S hKK
  unfold fn_Co_wantedBelow
  refine v_gets S (kc_zOp hKK) (S.2.2.2.2 _ (List.mem_cons_of_mem _ (wd_251))) (fun _ h => h) d_Co_wantedBelow_0 ?_
  refine v_aload_n S d_Co_wantedBelow_3 rfl rfl ?_
  refine v_ordO (rest := [.ref (ax 3 0)]) S hKK ho1 (k_Co_93 S.2.2.2.2 (fun _ => List.mem_cons_of_mem _) ⟨Nat.le_of_ble_eq_true rfl, Nat.le_of_ble_eq_true rfl⟩) (by simp [Value.category]) d_Co_wantedBelow_4 ?_
  refine v_ti0 S (kc_swOp hKK) d_Co_wantedBelow_7 (fun h1 => ?_)
  refine v_lsw S (5 : Int32) (tgt := 36) d_Co_wantedBelow_8 (by decide) (off := 28) (by decide) (by decide) (fun h2 => ?_) (fun h2 => ?_)
  · refine v_aload_n S d_Co_wantedBelow_36 rfl rfl ?_
    refine v_iload_n S d_Co_wantedBelow_37 rfl rfl ?_
    refine v_aload_n S d_Co_wantedBelow_38 rfl rfl ?_
    refine v_get S (fun w h => List.mem_cons_of_mem _ (i_Co w h)) hKK.1 1 (by decide) rfl rfl 5 (by decide) (S.2.2.2.2 _ (List.mem_cons_of_mem _ (wd_47))) (fun _ h => h) rfl d_Co_wantedBelow_39 ?_
    refine v_iload_n S d_Co_wantedBelow_42 rfl rfl ?_
    refine v_iald S hKK.1 6 0 (by decide) rfl rfl d_Co_wantedBelow_43 (fun h3 => ?_)
    refine v_iconst S d_Co_wantedBelow_44 (v := (1 : Int32)) (by decide) ?_
    refine v_isub S d_Co_wantedBelow_45 ?_
    refine v_iload S d_Co_wantedBelow_46 rfl ?_
    refine v_isub S d_Co_wantedBelow_48 ?_
    refine v_ci (rest := []) (fun _ _ hg H locs ls hsz hP hS => run_V (As := [.int a2, .int (((σ 6 a2.toNatClampNeg) - (1 : Int32)) - a3)]) (rest := []) S kC_ok hKK (c_Co_kindOf l D ca ax b σ a2 (((σ 6 a2.toNatClampNeg) - (1 : Int32)) - a3) hg) (k_Co_41 S.2.2.2.2 (fun _ => List.mem_cons_of_mem _) ⟨Nat.le_of_ble_eq_true rfl, Nat.le_of_ble_eq_true rfl⟩) (rc_w hKK.1 hP 1 (by decide) rfl rfl) rfl rfl (Nat.zero_le _) d_Co_wantedBelow_49 hsz hP hS) (fun r5 σ4 _ => ?_)
    exact v_iret S hret hlocks d_Co_wantedBelow_52
  · refine v_lsw S (6 : Int32) (tgt := 53) d_Co_wantedBelow_8 (by decide) (off := 45) (by decide) (by decide) (fun h6 => ?_) (fun h6 => ?_)
    · refine v_aload_n S d_Co_wantedBelow_53 rfl rfl ?_
      refine v_iload_n S d_Co_wantedBelow_54 rfl rfl ?_
      refine v_iconst S d_Co_wantedBelow_55 (v := (3 : Int32)) (by decide) ?_
      refine v_ci (rest := []) (fun _ _ hg H locs ls hsz hP hS => run_V (As := [.int a0, .int (3 : Int32)]) (rest := []) S kC_ok hKK (c_Co_kindOf l D ca ax b σ a0 (3 : Int32) hg) (k_Co_41 S.2.2.2.2 (fun _ => List.mem_cons_of_mem _) ⟨Nat.le_of_ble_eq_true rfl, Nat.le_of_ble_eq_true rfl⟩) (rc_w hKK.1 hP 1 (by decide) rfl rfl) rfl rfl (Nat.zero_le _) d_Co_wantedBelow_56 hsz hP hS) (fun r8 σ7 _ => ?_)
      exact v_iret S hret hlocks d_Co_wantedBelow_59
    · refine v_lswD S (tgt := 60) d_Co_wantedBelow_8 (by decide) (by rw [lv_osw h2 (by decide)]; rw [lv_osw h6 (by decide)]; rfl) (by decide) ?_
      refine v_aload_n S d_Co_wantedBelow_60 rfl rfl ?_
      refine v_iload S d_Co_wantedBelow_61 rfl ?_
      refine v_ci (rest := []) (fun _ _ hg H locs ls hsz hP hS => run_V (As := [.int a3]) (rest := []) S kC_ok hKK (c_Op_wanted l D ca ax b σ o1 a3 ho1 hg) (k_Co_136 S.2.2.2.2 (fun _ => List.mem_cons_of_mem _) ⟨Nat.le_of_ble_eq_true rfl, Nat.le_of_ble_eq_true rfl⟩) (rc_op hKK ho1 hS) rfl rfl (Nat.zero_le _) d_Co_wantedBelow_63 hsz hP hS) (fun r10 σ9 _ => ?_)
      exact v_iret S hret hlocks d_Co_wantedBelow_66
def fn_Co_takenFits_23 (a0 : Int32) (o1 : Nat) (a2 : Int32) (a3 : Int32) : Nat → mm_M → Int32 → Int32 → Option (Int32 × mm_M)
  | 0, _, _, _ => none
  | n + 1, σ, l5, l6 =>
    (if l5 ≤ l6 then
    (if (1 : Int32) = 0 ∨ (1 : Int32) = 1 then some ((1 : Int32), σ) else none)
    else
    (bd (fn_Co_wantedBelow σ a0 o1 a2 l6) (fun r8 σ7 =>
    (if r8 = (3 : Int32) then
    (fn_Co_takenFits_23 a0 o1 a2 a3 n σ7 l5 (l6 + (1 : Int32)))
    else
    (bd (fn_Ty_below σ7 a3 l6) (fun r12 σ11 =>
    (if r8 = r12 then
    (fn_Co_takenFits_23 a0 o1 a2 a3 n σ11 l5 (l6 + (1 : Int32)))
    else
    (if (0 : Int32) = 0 ∨ (0 : Int32) = 1 then some ((0 : Int32), σ11) else none))))))))
def fn_Co_takenFits (σ : mm_M) (a0 : Int32) (o1 : Nat) (a2 : Int32) (a3 : Int32) : Option (Int32 × mm_M) :=
    (bd (fn_Co_takenCount σ o1 a2) (fun r2 σ1 =>
    (bd (fn_Ty_height σ1 a3) (fun r4 σ3 =>
    (if r2 ≤ r4 then
    (fn_Co_takenFits_23 a0 o1 a2 a3 fuel0 σ3 r2 (0 : Int32))
    else
    (if (0 : Int32) = 0 ∨ (0 : Int32) = 1 then some ((0 : Int32), σ3) else none))))))
set_option maxRecDepth 100000 in
set_option maxHeartbeats 40000000 in
theorem c_Co_takenFits (l : Launch) (D : va_G) (ca : Nat → ClassId) (ax : Nat → Nat → Nat) (b : Nat) (σ : mm_M) (a0 : Int32) (o1 : Nat) (a2 : Int32) (a3 : Int32) (ho1 : o1 < 20) {r : Int32} {σ' : mm_M} (hf : fn_Co_takenFits σ a0 o1 a2 a3 = some (r, σ')) : Met l y_Co_takenFits w_Co_takenFits rm_Co_takenFits (pc_w D cls b N_C (ce_C ca b) (kC D ca ax b) [.ref (b + 1), .int a0, .ref (ax 0 o1), .int a2, .int a3] σ) (qc_i D cls b N_C (ce_C ca b) r σ') 0 0 (mm_A b N_C) := by
  refine vv_go (cc := b_Co_takenFits) (maxL := 8) (ret := (some .boolean)) (fin := (r, σ')) (k := fn_Co_takenFits σ a0 o1 a2 a3) (by decide) rfl (by simp [Value.category]) (Nat.le_of_ble_eq_true rfl) hf ?_
  intro p e s m below meth c hlocks hret S hKK
  have C23 : ∀ (n : Nat) (σ : mm_M) (l5 : Int32) (l6 : Int32), vv p l e (headSpec w_Co_takenFits rm_Co_takenFits).room s m [.ref (b + 1), .int a0, .ref (ax 0 o1), .int a2, .int a3].toArray below meth c D cls b N_C (ce_C ca b) 8 (MQ below (qc_i D cls b N_C (ce_C ca b) r σ') [.ref (b + 1), .int a0, .ref (ax 0 o1), .int a2, .int a3].toArray s 0 0 (mm_A b N_C)) (r, σ') (fn_Co_takenFits_23 a0 o1 a2 a3 n σ l5 l6) σ 23 [some (.ref (b + 1)), some (.int a0), some (.ref (ax 0 o1)), some (.int a2), some (.int a3), some (.int l5), some (.int l6)] [] := by
    intro n
    induction n with
    | zero => intro σ l5 l6  h; cases h
    | succ n ih =>
      intro σ l5 l6
      show vv p l e (headSpec w_Co_takenFits rm_Co_takenFits).room s m [.ref (b + 1), .int a0, .ref (ax 0 o1), .int a2, .int a3].toArray below meth c D cls b N_C (ce_C ca b) 8 (MQ below (qc_i D cls b N_C (ce_C ca b) r σ') [.ref (b + 1), .int a0, .ref (ax 0 o1), .int a2, .int a3].toArray s 0 0 (mm_A b N_C)) (r, σ') (        (if l5 ≤ l6 then
        (if (1 : Int32) = 0 ∨ (1 : Int32) = 1 then some ((1 : Int32), σ) else none)
        else
        (bd (fn_Co_wantedBelow σ a0 o1 a2 l6) (fun r8 σ7 =>
        (if r8 = (3 : Int32) then
        (fn_Co_takenFits_23 a0 o1 a2 a3 n σ7 l5 (l6 + (1 : Int32)))
        else
        (bd (fn_Ty_below σ7 a3 l6) (fun r12 σ11 =>
        (if r8 = r12 then
        (fn_Co_takenFits_23 a0 o1 a2 a3 n σ11 l5 (l6 + (1 : Int32)))
        else
        (if (0 : Int32) = 0 ∨ (0 : Int32) = 1 then some ((0 : Int32), σ11) else none))))))))) σ 23 [some (.ref (b + 1)), some (.int a0), some (.ref (ax 0 o1)), some (.int a2), some (.int a3), some (.int l5), some (.int l6)] []
      refine v_iload S d_Co_takenFits_23 rfl ?_
      refine v_iload S d_Co_takenFits_25 rfl ?_
      refine v_icmp_ge S d_Co_takenFits_27 (tgt := 67) (by decide) (fun h6 => ?_) (fun h6 => ?_)
      · refine v_iconst S d_Co_takenFits_67 (v := (1 : Int32)) (by decide) ?_
        exact v_zret S hret hlocks d_Co_takenFits_68
      · refine v_aload_n S d_Co_takenFits_30 rfl rfl ?_
        refine v_iload_n S d_Co_takenFits_31 rfl rfl ?_
        refine v_aload_n S d_Co_takenFits_32 rfl rfl ?_
        refine v_iload_n S d_Co_takenFits_33 rfl rfl ?_
        refine v_iload S d_Co_takenFits_34 rfl ?_
        refine v_ci (rest := []) (fun _ _ hg H locs ls hsz hP hS => run_V (As := [.int a0, .ref (ax 0 o1), .int a2, .int l6]) (rest := []) S kC_ok hKK (c_Co_wantedBelow l D ca ax b σ a0 o1 a2 l6 ho1 hg) (k_Co_132 S.2.2.2.2 (fun _ => List.mem_cons_of_mem _) ⟨Nat.le_of_ble_eq_true rfl, Nat.le_of_ble_eq_true rfl⟩) (rc_w hKK.1 hP 1 (by decide) rfl rfl) rfl rfl (Nat.zero_le _) d_Co_takenFits_36 hsz hP hS) (fun r8 σ7 _ => ?_)
        refine v_istoreP S d_Co_takenFits_39 (by decide) (L2 := [some (.ref (b + 1)), some (.int a0), some (.ref (ax 0 o1)), some (.int a2), some (.int a3), some (.int l5), some (.int l6), some (.int r8)]) rfl ?_
        refine v_iload S d_Co_takenFits_41 rfl ?_
        refine v_iconst S d_Co_takenFits_43 (v := (3 : Int32)) (by decide) ?_
        refine v_icmp_eq S d_Co_takenFits_44 (tgt := 61) (by decide) (fun h9 => ?_) (fun h9 => ?_)
        · refine v_iinc S d_Co_takenFits_61 rfl (v := (l6 + (1 : Int32))) (by first | rfl | decide) (by decide) (L2 := [some (.ref (b + 1)), some (.int a0), some (.ref (ax 0 o1)), some (.int a2), some (.int a3), some (.int l5), some (.int (l6 + (1 : Int32))), some (.int r8)]) rfl ?_
          refine v_goto S d_Co_takenFits_64 (tgt := 23) (by decide) ?_
          refine v_sub (L2 := [some (.ref (b + 1)), some (.int a0), some (.ref (ax 0 o1)), some (.int a2), some (.int a3), some (.int l5), some (.int (l6 + (1 : Int32)))]) (And.intro rfl (And.intro rfl (And.intro rfl (And.intro rfl (And.intro rfl (And.intro rfl (And.intro rfl True.intro))))))) ?_
          exact ih σ7 l5 (l6 + (1 : Int32))
        · refine v_iload S d_Co_takenFits_47 rfl ?_
          refine v_iload S d_Co_takenFits_49 rfl ?_
          refine v_iload S d_Co_takenFits_51 rfl ?_
          refine v_ci (rest := [.int r8]) (fun _ _ hg H locs ls hsz hP hS => run_S (As := [.int a3, .int l6]) (rest := [.int r8]) S kC_ok hKK (c_Ty_below l D ca ax b σ7 a3 l6 hg) (k_Co_103 S.2.2.2.2 (fun _ => List.mem_cons_of_mem _) ⟨Nat.le_of_ble_eq_true rfl, Nat.le_of_ble_eq_true rfl⟩) rfl rfl (by simp [Value.category]) d_Co_takenFits_53 hsz hP hS) (fun r12 σ11 _ => ?_)
          refine v_icmp_eq S d_Co_takenFits_56 (tgt := 61) (by decide) (fun h13 => ?_) (fun h13 => ?_)
          · refine v_iinc S d_Co_takenFits_61 rfl (v := (l6 + (1 : Int32))) (by first | rfl | decide) (by decide) (L2 := [some (.ref (b + 1)), some (.int a0), some (.ref (ax 0 o1)), some (.int a2), some (.int a3), some (.int l5), some (.int (l6 + (1 : Int32))), some (.int r8)]) rfl ?_
            refine v_goto S d_Co_takenFits_64 (tgt := 23) (by decide) ?_
            refine v_sub (L2 := [some (.ref (b + 1)), some (.int a0), some (.ref (ax 0 o1)), some (.int a2), some (.int a3), some (.int l5), some (.int (l6 + (1 : Int32)))]) (And.intro rfl (And.intro rfl (And.intro rfl (And.intro rfl (And.intro rfl (And.intro rfl (And.intro rfl True.intro))))))) ?_
            exact ih σ11 l5 (l6 + (1 : Int32))
          · refine v_iconst S d_Co_takenFits_59 (v := (0 : Int32)) (by decide) ?_
            exact v_zret S hret hlocks d_Co_takenFits_60
  unfold fn_Co_takenFits
  refine v_aload_n S d_Co_takenFits_0 rfl rfl ?_
  refine v_aload_n S d_Co_takenFits_1 rfl rfl ?_
  refine v_iload_n S d_Co_takenFits_2 rfl rfl ?_
  refine v_ci (rest := []) (fun _ _ hg H locs ls hsz hP hS => run_V (As := [.ref (ax 0 o1), .int a2]) (rest := []) S kC_ok hKK (c_Co_takenCount l D ca ax b σ o1 a2 ho1 hg) (k_Co_81 S.2.2.2.2 (fun _ => List.mem_cons_of_mem _) ⟨Nat.le_of_ble_eq_true rfl, Nat.le_of_ble_eq_true rfl⟩) (rc_w hKK.1 hP 1 (by decide) rfl rfl) rfl rfl (Nat.zero_le _) d_Co_takenFits_3 hsz hP hS) (fun r2 σ1 _ => ?_)
  refine v_istoreP S d_Co_takenFits_6 (by decide) (L2 := [some (.ref (b + 1)), some (.int a0), some (.ref (ax 0 o1)), some (.int a2), some (.int a3), some (.int r2)]) rfl ?_
  refine v_iload S d_Co_takenFits_8 rfl ?_
  refine v_ci (rest := []) (fun _ _ hg H locs ls hsz hP hS => run_S (As := [.int a3]) (rest := []) S kC_ok hKK (c_Ty_height l D ca ax b σ1 a3 hg) (k_Co_77 S.2.2.2.2 (fun _ => List.mem_cons_of_mem _) ⟨Nat.le_of_ble_eq_true rfl, Nat.le_of_ble_eq_true rfl⟩) rfl rfl (Nat.zero_le _) d_Co_takenFits_10 hsz hP hS) (fun r4 σ3 _ => ?_)
  refine v_iload S d_Co_takenFits_13 rfl ?_
  refine v_icmp_ge S d_Co_takenFits_15 (tgt := 20) (by decide) (fun h5 => ?_) (fun h5 => ?_)
  · refine v_iconst S d_Co_takenFits_20 (v := (0 : Int32)) (by decide) ?_
    refine v_istoreP S d_Co_takenFits_21 (by decide) (L2 := [some (.ref (b + 1)), some (.int a0), some (.ref (ax 0 o1)), some (.int a2), some (.int a3), some (.int r2), some (.int (0 : Int32))]) rfl ?_
    refine v_sub (L2 := [some (.ref (b + 1)), some (.int a0), some (.ref (ax 0 o1)), some (.int a2), some (.int a3), some (.int r2), some (.int (0 : Int32))]) (And.intro rfl (And.intro rfl (And.intro rfl (And.intro rfl (And.intro rfl (And.intro rfl (And.intro rfl True.intro))))))) ?_
    exact C23 fuel0 σ3 r2 (0 : Int32)
  · refine v_iconst S d_Co_takenFits_18 (v := (0 : Int32)) (by decide) ?_
    exact v_zret S hret hlocks d_Co_takenFits_19
def fn_Co_after (σ : mm_M) (a0 : Int32) (a1 : Int32) : Option (Int32 × mm_M) :=
    (bd (fn_Co_opAt σ a0) (fun r2 σ1 =>
    (if (a0 < 0 ∨ 100 ≤ a0.toNatClampNeg) then none else
    (nm (σ1 3 a0.toNatClampNeg) (fun x5 =>
    (bd (fn_Co_takenCount σ1 r2 x5) (fun r7 σ6 =>
    (bd (fn_Ty_dropped σ6 a1 r7) (fun r9 σ8 =>
    (if ((nI r2) < 0 ∨ 20 ≤ (nI r2).toNatClampNeg) then none else
    (if (sw_op (nI r2).toNatClampNeg) = (1 : Int32) then
    (bd (fn_Ty_at σ8 a1 x5) (fun r13 σ12 =>
    (bd (fn_Ty_pushed σ12 r9 r13) (fun r15 σ14 =>
    (some (r15, σ14))))))
    else
    (if (sw_op (nI r2).toNatClampNeg) = (2 : Int32) then
    (bd (fn_Ty_below σ8 a1 (0 : Int32)) (fun r18 σ17 =>
    (bd (fn_Ty_with σ17 r9 x5 r18) (fun r20 σ19 =>
    (some (r20, σ19))))))
    else
    (if (sw_op (nI r2).toNatClampNeg) = (3 : Int32) then
    (bd (fn_Ty_below σ8 a1 (0 : Int32)) (fun r23 σ22 =>
    (bd (fn_Ty_pushed σ22 a1 r23) (fun r25 σ24 =>
    (some (r25, σ24))))))
    else
    (if (sw_op (nI r2).toNatClampNeg) = (4 : Int32) then
    (bd (fn_Ty_below σ8 a1 (0 : Int32)) (fun r28 σ27 =>
    (bd (fn_Ty_pushed σ27 r9 r28) (fun r30 σ29 =>
    (bd (fn_Ty_below σ29 a1 (1 : Int32)) (fun r32 σ31 =>
    (bd (fn_Ty_pushed σ31 r30 r32) (fun r34 σ33 =>
    (some (r34, σ33))))))))))
    else
    (if (sw_op (nI r2).toNatClampNeg) = (5 : Int32) then
    (bd (fn_Co_kindOf σ8 x5 (3 : Int32)) (fun r37 σ36 =>
    (bd (fn_Ty_pushed σ36 r9 r37) (fun r39 σ38 =>
    (some (r39, σ38))))))
    else
    (if (op_gives r2) = 0 then
    (some (r9, σ8))
    else
    (bd (fn_Ty_pushed σ8 r9 (op_gives r2)) (fun r42 σ41 =>
    (some (r42, σ41))))))))))))))))))))
set_option maxRecDepth 100000 in
set_option maxHeartbeats 40000000 in
theorem c_Co_after (l : Launch) (D : va_G) (ca : Nat → ClassId) (ax : Nat → Nat → Nat) (b : Nat) (σ : mm_M) (a0 : Int32) (a1 : Int32)  {r : Int32} {σ' : mm_M} (hf : fn_Co_after σ a0 a1 = some (r, σ')) : Met l y_Co_after w_Co_after rm_Co_after (pc_w D cls b N_C (ce_C ca b) (kC D ca ax b) [.ref (b + 1), .int a0, .int a1] σ) (qc_i D cls b N_C (ce_C ca b) r σ') 0 0 (mm_A b N_C) := by
  refine vv_go (cc := b_Co_after) (maxL := 6) (ret := (some .int)) (fin := (r, σ')) (k := fn_Co_after σ a0 a1) (by decide) rfl (by simp [Value.category]) (Nat.le_of_ble_eq_true rfl) hf ?_
  intro p e s m below meth c hlocks hret S hKK
  unfold fn_Co_after
  refine v_aload_n S d_Co_after_0 rfl rfl ?_
  refine v_iload_n S d_Co_after_1 rfl rfl ?_
  refine v_ca (ax 0) (rest := []) (fun _ _ hg H locs ls hsz hP hS => run_V (As := [.int a0]) (rest := []) S kC_ok hKK (c_Co_opAt l D ca ax b σ a0 hg) (k_Co_53 S.2.2.2.2 (fun _ => List.mem_cons_of_mem _) ⟨Nat.le_of_ble_eq_true rfl, Nat.le_of_ble_eq_true rfl⟩) (rc_w hKK.1 hP 1 (by decide) rfl rfl) rfl rfl (Nat.zero_le _) d_Co_after_2 hsz hP hS) (fun r2 σ1 g3 => ?_)
  refine v_astore_nP S d_Co_after_5 rfl (by decide) (L2 := [some (.ref (b + 1)), some (.int a0), some (.int a1), some (.ref (ax 0 r2))]) rfl ?_
  refine v_aload_n S d_Co_after_6 rfl rfl ?_
  refine v_get S (fun w h => List.mem_cons_of_mem _ (i_Co w h)) hKK.1 1 (by decide) rfl rfl 2 (by decide) (S.2.2.2.2 _ (List.mem_cons_of_mem _ (wd_44))) (fun _ h => h) rfl d_Co_after_7 ?_
  refine v_iload_n S d_Co_after_10 rfl rfl ?_
  refine v_iald S hKK.1 3 0 (by decide) rfl rfl d_Co_after_11 (fun h4 => ?_)
  refine v_top (fun x5 ex5 => ?_)
  refine v_istoreP S d_Co_after_12 (by decide) (L2 := [some (.ref (b + 1)), some (.int a0), some (.int a1), some (.ref (ax 0 r2)), some (.int x5)]) rfl ?_
  refine v_iload_n S d_Co_after_14 rfl rfl ?_
  refine v_aload_n S d_Co_after_15 rfl rfl ?_
  refine v_aload_n S d_Co_after_16 rfl rfl ?_
  refine v_iload S d_Co_after_17 rfl ?_
  refine v_ci (rest := [.int a1]) (fun _ _ hg H locs ls hsz hP hS => run_V (As := [.ref (ax 0 r2), .int x5]) (rest := [.int a1]) S kC_ok hKK (c_Co_takenCount l D ca ax b σ1 r2 x5 (rb_Co_opAt g3) hg) (k_Co_81 S.2.2.2.2 (fun _ => List.mem_cons_of_mem _) ⟨Nat.le_of_ble_eq_true rfl, Nat.le_of_ble_eq_true rfl⟩) (rc_w hKK.1 hP 1 (by decide) rfl rfl) rfl rfl (by simp [Value.category]) d_Co_after_19 hsz hP hS) (fun r7 σ6 _ => ?_)
  refine v_ci (rest := []) (fun _ _ hg H locs ls hsz hP hS => run_S (As := [.int a1, .int r7]) (rest := []) S kC_ok hKK (c_Ty_dropped l D ca ax b σ6 a1 r7 hg) (k_Co_85 S.2.2.2.2 (fun _ => List.mem_cons_of_mem _) ⟨Nat.le_of_ble_eq_true rfl, Nat.le_of_ble_eq_true rfl⟩) rfl rfl (Nat.zero_le _) d_Co_after_22 hsz hP hS) (fun r9 σ8 _ => ?_)
  refine v_istoreP S d_Co_after_25 (by decide) (L2 := [some (.ref (b + 1)), some (.int a0), some (.int a1), some (.ref (ax 0 r2)), some (.int x5), some (.int r9)]) rfl ?_
  refine v_gets S (kc_zOp hKK) (S.2.2.2.2 _ (List.mem_cons_of_mem _ (wd_251))) (fun _ h => h) d_Co_after_27 ?_
  refine v_aload_n S d_Co_after_30 rfl rfl ?_
  refine v_ordO (rest := [.ref (ax 3 0)]) S hKK (rb_Co_opAt g3) (k_Co_93 S.2.2.2.2 (fun _ => List.mem_cons_of_mem _) ⟨Nat.le_of_ble_eq_true rfl, Nat.le_of_ble_eq_true rfl⟩) (by simp [Value.category]) d_Co_after_31 ?_
  refine v_ti0 S (kc_swOp hKK) d_Co_after_34 (fun h10 => ?_)
  refine v_tsw S (1 : Int32) (tgt := 68) d_Co_after_35 (by decide) (by decide) (off := 33) rfl (by decide) (fun h11 => ?_) (fun h11 => ?_)
  · refine v_iload S d_Co_after_68 rfl ?_
    refine v_iload_n S d_Co_after_70 rfl rfl ?_
    refine v_iload S d_Co_after_71 rfl ?_
    refine v_ci (rest := [.int r9]) (fun _ _ hg H locs ls hsz hP hS => run_S (As := [.int a1, .int x5]) (rest := [.int r9]) S kC_ok hKK (c_Ty_at l D ca ax b σ8 a1 x5 hg) (k_Co_97 S.2.2.2.2 (fun _ => List.mem_cons_of_mem _) ⟨Nat.le_of_ble_eq_true rfl, Nat.le_of_ble_eq_true rfl⟩) rfl rfl (by simp [Value.category]) d_Co_after_73 hsz hP hS) (fun r13 σ12 _ => ?_)
    refine v_ci (rest := []) (fun _ _ hg H locs ls hsz hP hS => run_S (As := [.int r9, .int r13]) (rest := []) S kC_ok hKK (c_Ty_pushed l D ca ax b σ12 r9 r13 hg) (k_Co_100 S.2.2.2.2 (fun _ => List.mem_cons_of_mem _) ⟨Nat.le_of_ble_eq_true rfl, Nat.le_of_ble_eq_true rfl⟩) rfl rfl (Nat.zero_le _) d_Co_after_76 hsz hP hS) (fun r15 σ14 _ => ?_)
    exact v_iret S hret hlocks d_Co_after_79
  · refine v_tsw S (2 : Int32) (tgt := 80) d_Co_after_35 (by decide) (by decide) (off := 45) rfl (by decide) (fun h16 => ?_) (fun h16 => ?_)
    · refine v_iload S d_Co_after_80 rfl ?_
      refine v_iload S d_Co_after_82 rfl ?_
      refine v_iload_n S d_Co_after_84 rfl rfl ?_
      refine v_iconst S d_Co_after_85 (v := (0 : Int32)) (by decide) ?_
      refine v_ci (rest := [.int x5, .int r9]) (fun _ _ hg H locs ls hsz hP hS => run_S (As := [.int a1, .int (0 : Int32)]) (rest := [.int x5, .int r9]) S kC_ok hKK (c_Ty_below l D ca ax b σ8 a1 (0 : Int32) hg) (k_Co_103 S.2.2.2.2 (fun _ => List.mem_cons_of_mem _) ⟨Nat.le_of_ble_eq_true rfl, Nat.le_of_ble_eq_true rfl⟩) rfl rfl (by simp [Value.category]) d_Co_after_86 hsz hP hS) (fun r18 σ17 _ => ?_)
      refine v_ci (rest := []) (fun _ _ hg H locs ls hsz hP hS => run_S (As := [.int r9, .int x5, .int r18]) (rest := []) S kC_ok hKK (c_Ty_with l D ca ax b σ17 r9 x5 r18 hg) (k_Co_45 S.2.2.2.2 (fun _ => List.mem_cons_of_mem _) ⟨Nat.le_of_ble_eq_true rfl, Nat.le_of_ble_eq_true rfl⟩) rfl rfl (Nat.zero_le _) d_Co_after_89 hsz hP hS) (fun r20 σ19 _ => ?_)
      exact v_iret S hret hlocks d_Co_after_92
    · refine v_tsw S (3 : Int32) (tgt := 93) d_Co_after_35 (by decide) (by decide) (off := 58) rfl (by decide) (fun h21 => ?_) (fun h21 => ?_)
      · refine v_iload_n S d_Co_after_93 rfl rfl ?_
        refine v_iload_n S d_Co_after_94 rfl rfl ?_
        refine v_iconst S d_Co_after_95 (v := (0 : Int32)) (by decide) ?_
        refine v_ci (rest := [.int a1]) (fun _ _ hg H locs ls hsz hP hS => run_S (As := [.int a1, .int (0 : Int32)]) (rest := [.int a1]) S kC_ok hKK (c_Ty_below l D ca ax b σ8 a1 (0 : Int32) hg) (k_Co_103 S.2.2.2.2 (fun _ => List.mem_cons_of_mem _) ⟨Nat.le_of_ble_eq_true rfl, Nat.le_of_ble_eq_true rfl⟩) rfl rfl (by simp [Value.category]) d_Co_after_96 hsz hP hS) (fun r23 σ22 _ => ?_)
        refine v_ci (rest := []) (fun _ _ hg H locs ls hsz hP hS => run_S (As := [.int a1, .int r23]) (rest := []) S kC_ok hKK (c_Ty_pushed l D ca ax b σ22 a1 r23 hg) (k_Co_100 S.2.2.2.2 (fun _ => List.mem_cons_of_mem _) ⟨Nat.le_of_ble_eq_true rfl, Nat.le_of_ble_eq_true rfl⟩) rfl rfl (Nat.zero_le _) d_Co_after_99 hsz hP hS) (fun r25 σ24 _ => ?_)
        exact v_iret S hret hlocks d_Co_after_102
      · refine v_tsw S (4 : Int32) (tgt := 103) d_Co_after_35 (by decide) (by decide) (off := 68) rfl (by decide) (fun h26 => ?_) (fun h26 => ?_)
        · refine v_iload S d_Co_after_103 rfl ?_
          refine v_iload_n S d_Co_after_105 rfl rfl ?_
          refine v_iconst S d_Co_after_106 (v := (0 : Int32)) (by decide) ?_
          refine v_ci (rest := [.int r9]) (fun _ _ hg H locs ls hsz hP hS => run_S (As := [.int a1, .int (0 : Int32)]) (rest := [.int r9]) S kC_ok hKK (c_Ty_below l D ca ax b σ8 a1 (0 : Int32) hg) (k_Co_103 S.2.2.2.2 (fun _ => List.mem_cons_of_mem _) ⟨Nat.le_of_ble_eq_true rfl, Nat.le_of_ble_eq_true rfl⟩) rfl rfl (by simp [Value.category]) d_Co_after_107 hsz hP hS) (fun r28 σ27 _ => ?_)
          refine v_ci (rest := []) (fun _ _ hg H locs ls hsz hP hS => run_S (As := [.int r9, .int r28]) (rest := []) S kC_ok hKK (c_Ty_pushed l D ca ax b σ27 r9 r28 hg) (k_Co_100 S.2.2.2.2 (fun _ => List.mem_cons_of_mem _) ⟨Nat.le_of_ble_eq_true rfl, Nat.le_of_ble_eq_true rfl⟩) rfl rfl (Nat.zero_le _) d_Co_after_110 hsz hP hS) (fun r30 σ29 _ => ?_)
          refine v_istoreP S d_Co_after_113 (by decide) (L2 := [some (.ref (b + 1)), some (.int a0), some (.int a1), some (.ref (ax 0 r2)), some (.int x5), some (.int r30)]) rfl ?_
          refine v_iload S d_Co_after_115 rfl ?_
          refine v_iload_n S d_Co_after_117 rfl rfl ?_
          refine v_iconst S d_Co_after_118 (v := (1 : Int32)) (by decide) ?_
          refine v_ci (rest := [.int r30]) (fun _ _ hg H locs ls hsz hP hS => run_S (As := [.int a1, .int (1 : Int32)]) (rest := [.int r30]) S kC_ok hKK (c_Ty_below l D ca ax b σ29 a1 (1 : Int32) hg) (k_Co_103 S.2.2.2.2 (fun _ => List.mem_cons_of_mem _) ⟨Nat.le_of_ble_eq_true rfl, Nat.le_of_ble_eq_true rfl⟩) rfl rfl (by simp [Value.category]) d_Co_after_119 hsz hP hS) (fun r32 σ31 _ => ?_)
          refine v_ci (rest := []) (fun _ _ hg H locs ls hsz hP hS => run_S (As := [.int r30, .int r32]) (rest := []) S kC_ok hKK (c_Ty_pushed l D ca ax b σ31 r30 r32 hg) (k_Co_100 S.2.2.2.2 (fun _ => List.mem_cons_of_mem _) ⟨Nat.le_of_ble_eq_true rfl, Nat.le_of_ble_eq_true rfl⟩) rfl rfl (Nat.zero_le _) d_Co_after_122 hsz hP hS) (fun r34 σ33 _ => ?_)
          exact v_iret S hret hlocks d_Co_after_125
        · refine v_tsw S (5 : Int32) (tgt := 126) d_Co_after_35 (by decide) (by decide) (off := 91) rfl (by decide) (fun h35 => ?_) (fun h35 => ?_)
          · refine v_iload S d_Co_after_126 rfl ?_
            refine v_aload_n S d_Co_after_128 rfl rfl ?_
            refine v_iload S d_Co_after_129 rfl ?_
            refine v_iconst S d_Co_after_131 (v := (3 : Int32)) (by decide) ?_
            refine v_ci (rest := [.int r9]) (fun _ _ hg H locs ls hsz hP hS => run_V (As := [.int x5, .int (3 : Int32)]) (rest := [.int r9]) S kC_ok hKK (c_Co_kindOf l D ca ax b σ8 x5 (3 : Int32) hg) (k_Co_41 S.2.2.2.2 (fun _ => List.mem_cons_of_mem _) ⟨Nat.le_of_ble_eq_true rfl, Nat.le_of_ble_eq_true rfl⟩) (rc_w hKK.1 hP 1 (by decide) rfl rfl) rfl rfl (by simp [Value.category]) d_Co_after_132 hsz hP hS) (fun r37 σ36 _ => ?_)
            refine v_ci (rest := []) (fun _ _ hg H locs ls hsz hP hS => run_S (As := [.int r9, .int r37]) (rest := []) S kC_ok hKK (c_Ty_pushed l D ca ax b σ36 r9 r37 hg) (k_Co_100 S.2.2.2.2 (fun _ => List.mem_cons_of_mem _) ⟨Nat.le_of_ble_eq_true rfl, Nat.le_of_ble_eq_true rfl⟩) rfl rfl (Nat.zero_le _) d_Co_after_135 hsz hP hS) (fun r39 σ38 _ => ?_)
            exact v_iret S hret hlocks d_Co_after_138
          · refine v_tswD S (tgt := 139) d_Co_after_35 (by have nh11 := i32_ne (n := 1) h11 (by decide); have nh16 := i32_ne (n := 2) h16 (by decide); have nh21 := i32_ne (n := 3) h21 (by decide); have nh26 := i32_ne (n := 4) h26 (by decide); have nh35 := i32_ne (n := 5) h35 (by decide); omega) (by decide) ?_
            refine v_aload_n S d_Co_after_139 rfl rfl ?_
            refine v_of S (kc_fG hKK (rb_Co_opAt g3)) (S.2.2.2.2 _ (List.mem_cons_of_mem _ (wd_992))) (fun _ h => h) d_Co_after_140 ?_
            refine v_if_ne S d_Co_after_143 (tgt := 151) (by decide) (fun h40 => ?_) (fun h40 => ?_)
            · refine v_iload S d_Co_after_151 rfl ?_
              refine v_aload_n S d_Co_after_153 rfl rfl ?_
              refine v_of S (kc_fG hKK (rb_Co_opAt g3)) (S.2.2.2.2 _ (List.mem_cons_of_mem _ (wd_992))) (fun _ h => h) d_Co_after_154 ?_
              refine v_ci (rest := []) (fun _ _ hg H locs ls hsz hP hS => run_S (As := [.int r9, .int (op_gives r2)]) (rest := []) S kC_ok hKK (c_Ty_pushed l D ca ax b σ8 r9 (op_gives r2) hg) (k_Co_100 S.2.2.2.2 (fun _ => List.mem_cons_of_mem _) ⟨Nat.le_of_ble_eq_true rfl, Nat.le_of_ble_eq_true rfl⟩) rfl rfl (Nat.zero_le _) d_Co_after_157 hsz hP hS) (fun r42 σ41 _ => ?_)
              exact v_iret S hret hlocks d_Co_after_160
            · refine v_iload S d_Co_after_146 rfl ?_
              refine v_goto S d_Co_after_148 (tgt := 160) (by decide) ?_
              exact v_iret S hret hlocks d_Co_after_160
def fn_Co_fits_54 (a0 : Int32) (a1 : Int32) (a2 : Int32) (σ : mm_M) (l4 : Nat) (l5 : Int32) : Option (Int32 × mm_M) :=
    (bd (fn_Co_numberFits σ l4 l5 a2) (fun r13 σ12 =>
    (if r13 = 0 then
    (if (0 : Int32) = 0 ∨ (0 : Int32) = 1 then some ((0 : Int32), σ12) else none)
    else
    (bd (fn_Co_takenFits σ12 a0 l4 l5 a2) (fun r16 σ15 =>
    (if r16 = 0 then
    (if (0 : Int32) = 0 ∨ (0 : Int32) = 1 then some ((0 : Int32), σ15) else none)
    else
    (bd (fn_Co_after σ15 a1 a2) (fun r19 σ18 =>
    (bd (fn_Ty_height σ18 r19) (fun r21 σ20 =>
    (if (6 : Int32) < r21 then
    (if (0 : Int32) = 0 ∨ (0 : Int32) = 1 then some ((0 : Int32), σ20) else none)
    else
    (if (1 : Int32) = 0 ∨ (1 : Int32) = 1 then some ((1 : Int32), σ20) else none))))))))))))
def fn_Co_fits (σ : mm_M) (a0 : Int32) (a1 : Int32) (a2 : Int32) : Option (Int32 × mm_M) :=
    (if a2 = (-1 : Int32) then
    (if (0 : Int32) = 0 ∨ (0 : Int32) = 1 then some ((0 : Int32), σ) else none)
    else
    (if a2 = (-2 : Int32) then
    (if (0 : Int32) = 0 ∨ (0 : Int32) = 1 then some ((0 : Int32), σ) else none)
    else
    (bd (fn_Co_hasOp σ a1) (fun r4 σ3 =>
    (if r4 = 0 then
    (if (0 : Int32) = 0 ∨ (0 : Int32) = 1 then some ((0 : Int32), σ3) else none)
    else
    (bd (fn_Co_opAt σ3 a1) (fun r7 σ6 =>
    (if (a1 < 0 ∨ 100 ≤ a1.toNatClampNeg) then none else
    (nm (σ6 3 a1.toNatClampNeg) (fun x10 =>
    (if (op_behind r7) = 0 then
    (fn_Co_fits_54 a0 a1 a2 σ6 r7 x10)
    else
    (bd (fn_Co_hasInstruction σ6 (a1 + (1 : Int32))) (fun r24 σ23 =>
    (if r24 = 0 then
    (if (0 : Int32) = 0 ∨ (0 : Int32) = 1 then some ((0 : Int32), σ23) else none)
    else
    (fn_Co_fits_54 a0 a1 a2 σ23 r7 x10)))))))))))))))
set_option maxRecDepth 100000 in
set_option maxHeartbeats 40000000 in
theorem c_Co_fits (l : Launch) (D : va_G) (ca : Nat → ClassId) (ax : Nat → Nat → Nat) (b : Nat) (σ : mm_M) (a0 : Int32) (a1 : Int32) (a2 : Int32)  {r : Int32} {σ' : mm_M} (hf : fn_Co_fits σ a0 a1 a2 = some (r, σ')) : Met l y_Co_fits w_Co_fits rm_Co_fits (pc_w D cls b N_C (ce_C ca b) (kC D ca ax b) [.ref (b + 1), .int a0, .int a1, .int a2] σ) (qc_i D cls b N_C (ce_C ca b) r σ') 0 0 (mm_A b N_C) := by
  refine vv_go (cc := b_Co_fits) (maxL := 6) (ret := (some .boolean)) (fin := (r, σ')) (k := fn_Co_fits σ a0 a1 a2) (by decide) rfl (by simp [Value.category]) (Nat.le_of_ble_eq_true rfl) hf ?_
  intro p e s m below meth c hlocks hret S hKK
  have C54 : ∀ (σ : mm_M) (l4 : Nat) (l5 : Int32) (hl4 : l4 < 20), vv p l e (headSpec w_Co_fits rm_Co_fits).room s m [.ref (b + 1), .int a0, .int a1, .int a2].toArray below meth c D cls b N_C (ce_C ca b) 6 (MQ below (qc_i D cls b N_C (ce_C ca b) r σ') [.ref (b + 1), .int a0, .int a1, .int a2].toArray s 0 0 (mm_A b N_C)) (r, σ') (fn_Co_fits_54 a0 a1 a2 σ l4 l5) σ 54 [some (.ref (b + 1)), some (.int a0), some (.int a1), some (.int a2), some (.ref (ax 0 l4)), some (.int l5)] [] := by
    intro σ l4 l5 hl4
    unfold fn_Co_fits_54
    refine v_aload_n S d_Co_fits_54 rfl rfl ?_
    refine v_aload S d_Co_fits_55 rfl ?_
    refine v_iload S d_Co_fits_57 rfl ?_
    refine v_iload_n S d_Co_fits_59 rfl rfl ?_
    refine v_ci (rest := []) (fun _ _ hg H locs ls hsz hP hS => run_V (As := [.ref (ax 0 l4), .int l5, .int a2]) (rest := []) S kC_ok hKK (c_Co_numberFits l D ca ax b σ l4 l5 a2 hl4 hg) (k_Co_66 S.2.2.2.2 (fun _ => List.mem_cons_of_mem _) ⟨Nat.le_of_ble_eq_true rfl, Nat.le_of_ble_eq_true rfl⟩) (rc_w hKK.1 hP 1 (by decide) rfl rfl) rfl rfl (Nat.zero_le _) d_Co_fits_60 hsz hP hS) (fun r13 σ12 _ => ?_)
    refine v_if_eq S d_Co_fits_63 (tgt := 97) (by decide) (fun h14 => ?_) (fun h14 => ?_)
    · refine v_iconst S d_Co_fits_97 (v := (0 : Int32)) (by decide) ?_
      exact v_zret S hret hlocks d_Co_fits_98
    · refine v_aload_n S d_Co_fits_66 rfl rfl ?_
      refine v_iload_n S d_Co_fits_67 rfl rfl ?_
      refine v_aload S d_Co_fits_68 rfl ?_
      refine v_iload S d_Co_fits_70 rfl ?_
      refine v_iload_n S d_Co_fits_72 rfl rfl ?_
      refine v_ci (rest := []) (fun _ _ hg H locs ls hsz hP hS => run_V (As := [.int a0, .ref (ax 0 l4), .int l5, .int a2]) (rest := []) S kC_ok hKK (c_Co_takenFits l D ca ax b σ12 a0 l4 l5 a2 hl4 hg) (k_Co_70 S.2.2.2.2 (fun _ => List.mem_cons_of_mem _) ⟨Nat.le_of_ble_eq_true rfl, Nat.le_of_ble_eq_true rfl⟩) (rc_w hKK.1 hP 1 (by decide) rfl rfl) rfl rfl (Nat.zero_le _) d_Co_fits_73 hsz hP hS) (fun r16 σ15 _ => ?_)
      refine v_if_eq S d_Co_fits_76 (tgt := 97) (by decide) (fun h17 => ?_) (fun h17 => ?_)
      · refine v_iconst S d_Co_fits_97 (v := (0 : Int32)) (by decide) ?_
        exact v_zret S hret hlocks d_Co_fits_98
      · refine v_aload_n S d_Co_fits_79 rfl rfl ?_
        refine v_iload_n S d_Co_fits_80 rfl rfl ?_
        refine v_iload_n S d_Co_fits_81 rfl rfl ?_
        refine v_ci (rest := []) (fun _ _ hg H locs ls hsz hP hS => run_V (As := [.int a1, .int a2]) (rest := []) S kC_ok hKK (c_Co_after l D ca ax b σ15 a1 a2 hg) (k_Co_74 S.2.2.2.2 (fun _ => List.mem_cons_of_mem _) ⟨Nat.le_of_ble_eq_true rfl, Nat.le_of_ble_eq_true rfl⟩) (rc_w hKK.1 hP 1 (by decide) rfl rfl) rfl rfl (Nat.zero_le _) d_Co_fits_82 hsz hP hS) (fun r19 σ18 _ => ?_)
        refine v_ci (rest := []) (fun _ _ hg H locs ls hsz hP hS => run_S (As := [.int r19]) (rest := []) S kC_ok hKK (c_Ty_height l D ca ax b σ18 r19 hg) (k_Co_77 S.2.2.2.2 (fun _ => List.mem_cons_of_mem _) ⟨Nat.le_of_ble_eq_true rfl, Nat.le_of_ble_eq_true rfl⟩) rfl rfl (Nat.zero_le _) d_Co_fits_85 hsz hP hS) (fun r21 σ20 _ => ?_)
        refine v_bipush S d_Co_fits_88 (v := (6 : Int32)) (by decide) ?_
        refine v_icmp_gt S d_Co_fits_90 (tgt := 97) (by decide) (fun h22 => ?_) (fun h22 => ?_)
        · refine v_iconst S d_Co_fits_97 (v := (0 : Int32)) (by decide) ?_
          exact v_zret S hret hlocks d_Co_fits_98
        · refine v_iconst S d_Co_fits_93 (v := (1 : Int32)) (by decide) ?_
          refine v_goto S d_Co_fits_94 (tgt := 98) (by decide) ?_
          exact v_zret S hret hlocks d_Co_fits_98
  unfold fn_Co_fits
  refine v_iload_n S d_Co_fits_0 rfl rfl ?_
  refine v_iconst S d_Co_fits_1 (v := (-1 : Int32)) (by decide) ?_
  refine v_icmp_eq S d_Co_fits_2 (tgt := 19) (by decide) (fun h1 => ?_) (fun h1 => ?_)
  · refine v_iconst S d_Co_fits_19 (v := (0 : Int32)) (by decide) ?_
    exact v_zret S hret hlocks d_Co_fits_20
  · refine v_iload_n S d_Co_fits_5 rfl rfl ?_
    refine v_bipush S d_Co_fits_6 (v := (-2 : Int32)) (by decide) ?_
    refine v_icmp_eq S d_Co_fits_8 (tgt := 19) (by decide) (fun h2 => ?_) (fun h2 => ?_)
    · refine v_iconst S d_Co_fits_19 (v := (0 : Int32)) (by decide) ?_
      exact v_zret S hret hlocks d_Co_fits_20
    · refine v_aload_n S d_Co_fits_11 rfl rfl ?_
      refine v_iload_n S d_Co_fits_12 rfl rfl ?_
      refine v_ci (rest := []) (fun _ _ hg H locs ls hsz hP hS => run_V (As := [.int a1]) (rest := []) S kC_ok hKK (c_Co_hasOp l D ca ax b σ a1 hg) (k_Co_49 S.2.2.2.2 (fun _ => List.mem_cons_of_mem _) ⟨Nat.le_of_ble_eq_true rfl, Nat.le_of_ble_eq_true rfl⟩) (rc_w hKK.1 hP 1 (by decide) rfl rfl) rfl rfl (Nat.zero_le _) d_Co_fits_13 hsz hP hS) (fun r4 σ3 _ => ?_)
      refine v_if_ne S d_Co_fits_16 (tgt := 21) (by decide) (fun h5 => ?_) (fun h5 => ?_)
      · refine v_aload_n S d_Co_fits_21 rfl rfl ?_
        refine v_iload_n S d_Co_fits_22 rfl rfl ?_
        refine v_ca (ax 0) (rest := []) (fun _ _ hg H locs ls hsz hP hS => run_V (As := [.int a1]) (rest := []) S kC_ok hKK (c_Co_opAt l D ca ax b σ3 a1 hg) (k_Co_53 S.2.2.2.2 (fun _ => List.mem_cons_of_mem _) ⟨Nat.le_of_ble_eq_true rfl, Nat.le_of_ble_eq_true rfl⟩) (rc_w hKK.1 hP 1 (by decide) rfl rfl) rfl rfl (Nat.zero_le _) d_Co_fits_23 hsz hP hS) (fun r7 σ6 g8 => ?_)
        refine v_astoreP S d_Co_fits_26 (by decide) (L2 := [some (.ref (b + 1)), some (.int a0), some (.int a1), some (.int a2), some (.ref (ax 0 r7))]) rfl ?_
        refine v_aload_n S d_Co_fits_28 rfl rfl ?_
        refine v_get S (fun w h => List.mem_cons_of_mem _ (i_Co w h)) hKK.1 1 (by decide) rfl rfl 2 (by decide) (S.2.2.2.2 _ (List.mem_cons_of_mem _ (wd_44))) (fun _ h => h) rfl d_Co_fits_29 ?_
        refine v_iload_n S d_Co_fits_32 rfl rfl ?_
        refine v_iald S hKK.1 3 0 (by decide) rfl rfl d_Co_fits_33 (fun h9 => ?_)
        refine v_top (fun x10 ex10 => ?_)
        refine v_istoreP S d_Co_fits_34 (by decide) (L2 := [some (.ref (b + 1)), some (.int a0), some (.int a1), some (.int a2), some (.ref (ax 0 r7)), some (.int x10)]) rfl ?_
        refine v_aload S d_Co_fits_36 rfl ?_
        refine v_of S (kc_fB hKK (rb_Co_opAt g8)) (S.2.2.2.2 _ (List.mem_cons_of_mem _ (wd_986))) (fun _ h => h) d_Co_fits_38 ?_
        refine v_if_eq S d_Co_fits_41 (tgt := 54) (by decide) (fun h11 => ?_) (fun h11 => ?_)
        · refine v_sub (L2 := [some (.ref (b + 1)), some (.int a0), some (.int a1), some (.int a2), some (.ref (ax 0 r7)), some (.int x10)]) (And.intro rfl (And.intro rfl (And.intro rfl (And.intro rfl (And.intro rfl (And.intro rfl True.intro)))))) ?_
          exact C54 σ6 r7 x10 (rb_Co_opAt g8)
        · refine v_aload_n S d_Co_fits_44 rfl rfl ?_
          refine v_iload_n S d_Co_fits_45 rfl rfl ?_
          refine v_iconst S d_Co_fits_46 (v := (1 : Int32)) (by decide) ?_
          refine v_iadd S d_Co_fits_47 ?_
          refine v_ci (rest := []) (fun _ _ hg H locs ls hsz hP hS => run_V (As := [.int (a1 + (1 : Int32))]) (rest := []) S kC_ok hKK (c_Co_hasInstruction l D ca ax b σ6 (a1 + (1 : Int32)) hg) (k_Co_63 S.2.2.2.2 (fun _ => List.mem_cons_of_mem _) ⟨Nat.le_of_ble_eq_true rfl, Nat.le_of_ble_eq_true rfl⟩) (rc_w hKK.1 hP 1 (by decide) rfl rfl) rfl rfl (Nat.zero_le _) d_Co_fits_48 hsz hP hS) (fun r24 σ23 _ => ?_)
          refine v_if_eq S d_Co_fits_51 (tgt := 97) (by decide) (fun h25 => ?_) (fun h25 => ?_)
          · refine v_iconst S d_Co_fits_97 (v := (0 : Int32)) (by decide) ?_
            exact v_zret S hret hlocks d_Co_fits_98
          · refine v_sub (L2 := [some (.ref (b + 1)), some (.int a0), some (.int a1), some (.int a2), some (.ref (ax 0 r7)), some (.int x10)]) (And.intro rfl (And.intro rfl (And.intro rfl (And.intro rfl (And.intro rfl (And.intro rfl True.intro)))))) ?_
            exact C54 σ23 r7 x10 (rb_Co_opAt g8)
      · refine v_iconst S d_Co_fits_19 (v := (0 : Int32)) (by decide) ?_
        exact v_zret S hret hlocks d_Co_fits_20

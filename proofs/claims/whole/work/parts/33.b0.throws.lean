/-! contracts of the methods that may throw -/
def fn_Ma_report (σ : mm_M) (t0 : Nat) : Option (Nat × Int32 × mm_M) :=
    (if ((nI t0) < 0 ∨ 6 ≤ (nI t0).toNatClampNeg) then none else
    (if (sw_tr (nI t0).toNatClampNeg) = (1 : Int32) then
    (some (1, 0, σ))
    else
    (if (sw_tr (nI t0).toNatClampNeg) = (2 : Int32) then
    (some (2, 0, σ))
    else
    (if (sw_tr (nI t0).toNatClampNeg) = (3 : Int32) then
    (some (3, 0, σ))
    else
    (if (sw_tr (nI t0).toNatClampNeg) = (4 : Int32) then
    (some (4, 0, σ))
    else
    (some (5, 0, σ)))))))
set_option maxRecDepth 100000 in
set_option maxHeartbeats 40000000 in
theorem c_Ma_report (l : Launch) (D : va_G) (ca : Nat → ClassId) (ax : Nat → Nat → Nat) (b : Nat) (σ : mm_M) (t0 : Nat) (ht0 : t0 < 6) (htr : l.stackTraces = false) {x : Nat} {r : Int32} {σ' : mm_M} (hf : fn_Ma_report σ t0 = some (x, r, σ')) : MetX l y_Ma_report w_Ma_report rm_Ma_report (pc_w D cls b N_C (ce_C ca b) (kC D ca ax b) [.ref (ax 1 t0)] σ) (qc_x D cls b N_C (ce_C ca b) (fun _ => none) x r σ') 1 6 (mm_A b N_C) := by
  refine vv_goX (cc := b_Ma_report) (maxL := 1) (ret := none) (by decide) rfl (by simp [Value.category]) (Nat.le_of_ble_eq_true rfl) ?_
  intro p e s m below meth c hlocks hret hnh S hKK hP0 ls0 hl0
  have hx := S.1
  have hb := S.2.1
  have hsz : ls0.size = 1 := hl0.1
  refine va_gets hx hb (kc_zTr hKK) va_S.rf S.2.2.2.1 (S.2.2.2.2 _ (List.mem_cons_of_mem _ wd_569)) (fun _ h => h) d_Ma_report_0 ?_
  refine lv_aload_n hx hb d_Ma_report_3 rfl (hl0.2.2 0 _ rfl).2 ?_
  refine W.callR (g := F0 m 4 ls0 [.ref (ax 1 t0), .ref (ax 4 0)]) (rest := [.ref (ax 4 0)]) (r := nI t0) (va_Run.run (va_runU (As := []) S (c_En_ordP l (mm_A b N_C) (ax 1 t0) (nI t0)) (k_Ma_159 S.2.2.2.2 (fun _ => List.mem_cons_of_mem _) ⟨Nat.le_of_ble_eq_true rfl, Nat.le_of_ble_eq_true rfl⟩) ⟨fun a U g mk q => ⟨q.1, va_OF.moved (u := U) (U := U.calling g mk a) (Vm.Alike.refl U.vm) q.2⟩, rc_o (hKK.2.1.2.1 t0 ht0).2.1 va_S.rf, fun U hU hW => ⟨rfl, by show va_OF _ _ _ _ _ _ U U.heap; rw [hU]; exact (hKK.2.1.2.1 t0 ht0).2.2.moved hW.alike⟩⟩ rfl rfl hsz rfl (lv_room (by simp [Value.category])) d_Ma_report_4 ⟨Nat.zero_le _, Nat.zero_le _⟩)) ?_
  refine W.eq (g2 := F0 m 7 ls0 [.int (nI t0), .ref (ax 4 0)]) rfl ?_
  refine va_ti hx hb (kc_swTr hKK) va_S.rf (i := nI t0) (vp_in_nI ht0 (by decide)) rfl d_Ma_report_7 ?_
  rcases (show t0 = 0 ∨ t0 = 1 ∨ t0 = 2 ∨ t0 = 3 ∨ t0 = 4 ∨ t0 = 5 by omega) with rfl | rfl | rfl | rfl | rfl | rfl
  · cases Option.some.inj ((show fn_Ma_report σ 0 = some (5, 0, σ) by unfold fn_Ma_report; rw [if_neg (by decide), if_neg (by decide), if_neg (by decide), if_neg (by decide), if_neg (by decide)]).symm.trans hf)
    rw [show sw_tr (nI 0).toNatClampNeg = (0 : Int32) by decide]
    refine lv_tableOut hx hb d_Ma_report_8 (by decide) (tgt := 72) (by decide) ?_
    exact w_throw S htr (S.2.2.2.2 _ (List.mem_cons_of_mem _ wd_634)) (S.2.2.2.2 _ (List.mem_cons_of_mem _ wd_10)) (xN := ex_nm 5) (by decide +kernel) (ow_of (i := 5) hKK S.2.2.2.2 (fun _ => List.mem_cons_of_mem _) (by decide) ow_Ma_report_72 oz_Ma_report_72) hnh hlocks hsz d_Ma_report_72 d_Ma_report_75 d_Ma_report_76 d_Ma_report_79 ⟨Nat.le_of_ble_eq_true rfl, Nat.le_of_ble_eq_true rfl, Nat.le_of_ble_eq_true rfl, Nat.le_of_ble_eq_true rfl⟩ (fun a t hx h1 h2 => ⟨Or.inr ⟨by decide, a, rfl, hx⟩, hP0.kept (fun k q hq => h2 _ ((hP0 k q hq).lt)), h1, fun q g1 _ => h2 q g1⟩)
  · cases Option.some.inj ((show fn_Ma_report σ 1 = some (1, 0, σ) by unfold fn_Ma_report; rw [if_neg (by decide), if_pos (by decide)]).symm.trans hf)
    rw [show sw_tr (nI 1).toNatClampNeg = (1 : Int32) by decide]
    refine lv_tableIn hx hb d_Ma_report_8 (by decide) (by decide) (off := 32) rfl (tgt := 40) (by decide) ?_
    exact w_throw S htr (S.2.2.2.2 _ (List.mem_cons_of_mem _ wd_574)) (S.2.2.2.2 _ (List.mem_cons_of_mem _ wd_21)) (xN := ex_nm 1) (by decide +kernel) (ow_of (i := 1) hKK S.2.2.2.2 (fun _ => List.mem_cons_of_mem _) (by decide) ow_Ma_report_40 oz_Ma_report_40) hnh hlocks hsz d_Ma_report_40 d_Ma_report_43 d_Ma_report_44 d_Ma_report_47 ⟨Nat.le_of_ble_eq_true rfl, Nat.le_of_ble_eq_true rfl, Nat.le_of_ble_eq_true rfl, Nat.le_of_ble_eq_true rfl⟩ (fun a t hx h1 h2 => ⟨Or.inr ⟨by decide, a, rfl, hx⟩, hP0.kept (fun k q hq => h2 _ ((hP0 k q hq).lt)), h1, fun q g1 _ => h2 q g1⟩)
  · cases Option.some.inj ((show fn_Ma_report σ 2 = some (2, 0, σ) by unfold fn_Ma_report; rw [if_neg (by decide), if_neg (by decide), if_pos (by decide)]).symm.trans hf)
    rw [show sw_tr (nI 2).toNatClampNeg = (2 : Int32) by decide]
    refine lv_tableIn hx hb d_Ma_report_8 (by decide) (by decide) (off := 40) rfl (tgt := 48) (by decide) ?_
    exact w_throw S htr (S.2.2.2.2 _ (List.mem_cons_of_mem _ wd_589)) (S.2.2.2.2 _ (List.mem_cons_of_mem _ wd_22)) (xN := ex_nm 2) (by decide +kernel) (ow_of (i := 2) hKK S.2.2.2.2 (fun _ => List.mem_cons_of_mem _) (by decide) ow_Ma_report_48 oz_Ma_report_48) hnh hlocks hsz d_Ma_report_48 d_Ma_report_51 d_Ma_report_52 d_Ma_report_55 ⟨Nat.le_of_ble_eq_true rfl, Nat.le_of_ble_eq_true rfl, Nat.le_of_ble_eq_true rfl, Nat.le_of_ble_eq_true rfl⟩ (fun a t hx h1 h2 => ⟨Or.inr ⟨by decide, a, rfl, hx⟩, hP0.kept (fun k q hq => h2 _ ((hP0 k q hq).lt)), h1, fun q g1 _ => h2 q g1⟩)
  · cases Option.some.inj ((show fn_Ma_report σ 3 = some (3, 0, σ) by unfold fn_Ma_report; rw [if_neg (by decide), if_neg (by decide), if_neg (by decide), if_pos (by decide)]).symm.trans hf)
    rw [show sw_tr (nI 3).toNatClampNeg = (3 : Int32) by decide]
    refine lv_tableIn hx hb d_Ma_report_8 (by decide) (by decide) (off := 48) rfl (tgt := 56) (by decide) ?_
    exact w_throw S htr (S.2.2.2.2 _ (List.mem_cons_of_mem _ wd_604)) (S.2.2.2.2 _ (List.mem_cons_of_mem _ wd_23)) (xN := ex_nm 3) (by decide +kernel) (ow_of (i := 3) hKK S.2.2.2.2 (fun _ => List.mem_cons_of_mem _) (by decide) ow_Ma_report_56 oz_Ma_report_56) hnh hlocks hsz d_Ma_report_56 d_Ma_report_59 d_Ma_report_60 d_Ma_report_63 ⟨Nat.le_of_ble_eq_true rfl, Nat.le_of_ble_eq_true rfl, Nat.le_of_ble_eq_true rfl, Nat.le_of_ble_eq_true rfl⟩ (fun a t hx h1 h2 => ⟨Or.inr ⟨by decide, a, rfl, hx⟩, hP0.kept (fun k q hq => h2 _ ((hP0 k q hq).lt)), h1, fun q g1 _ => h2 q g1⟩)
  · cases Option.some.inj ((show fn_Ma_report σ 4 = some (4, 0, σ) by unfold fn_Ma_report; rw [if_neg (by decide), if_neg (by decide), if_neg (by decide), if_neg (by decide), if_pos (by decide)]).symm.trans hf)
    rw [show sw_tr (nI 4).toNatClampNeg = (4 : Int32) by decide]
    refine lv_tableIn hx hb d_Ma_report_8 (by decide) (by decide) (off := 56) rfl (tgt := 64) (by decide) ?_
    exact w_throw S htr (S.2.2.2.2 _ (List.mem_cons_of_mem _ wd_619)) (S.2.2.2.2 _ (List.mem_cons_of_mem _ wd_24)) (xN := ex_nm 4) (by decide +kernel) (ow_of (i := 4) hKK S.2.2.2.2 (fun _ => List.mem_cons_of_mem _) (by decide) ow_Ma_report_64 oz_Ma_report_64) hnh hlocks hsz d_Ma_report_64 d_Ma_report_67 d_Ma_report_68 d_Ma_report_71 ⟨Nat.le_of_ble_eq_true rfl, Nat.le_of_ble_eq_true rfl, Nat.le_of_ble_eq_true rfl, Nat.le_of_ble_eq_true rfl⟩ (fun a t hx h1 h2 => ⟨Or.inr ⟨by decide, a, rfl, hx⟩, hP0.kept (fun k q hq => h2 _ ((hP0 k q hq).lt)), h1, fun q g1 _ => h2 q g1⟩)
  · cases Option.some.inj ((show fn_Ma_report σ 5 = some (5, 0, σ) by unfold fn_Ma_report; rw [if_neg (by decide), if_neg (by decide), if_neg (by decide), if_neg (by decide), if_neg (by decide)]).symm.trans hf)
    rw [show sw_tr (nI 5).toNatClampNeg = (0 : Int32) by decide]
    refine lv_tableOut hx hb d_Ma_report_8 (by decide) (tgt := 72) (by decide) ?_
    exact w_throw S htr (S.2.2.2.2 _ (List.mem_cons_of_mem _ wd_634)) (S.2.2.2.2 _ (List.mem_cons_of_mem _ wd_10)) (xN := ex_nm 5) (by decide +kernel) (ow_of (i := 5) hKK S.2.2.2.2 (fun _ => List.mem_cons_of_mem _) (by decide) ow_Ma_report_72 oz_Ma_report_72) hnh hlocks hsz d_Ma_report_72 d_Ma_report_75 d_Ma_report_76 d_Ma_report_79 ⟨Nat.le_of_ble_eq_true rfl, Nat.le_of_ble_eq_true rfl, Nat.le_of_ble_eq_true rfl, Nat.le_of_ble_eq_true rfl⟩ (fun a t hx h1 h2 => ⟨Or.inr ⟨by decide, a, rfl, hx⟩, hP0.kept (fun k q hq => h2 _ ((hP0 k q hq).lt)), h1, fun q g1 _ => h2 q g1⟩)
def fn_Ma_doInstruction (σ : mm_M)  : Option (Nat × Int32 × mm_M) :=
    (bd (fn_Ma_top σ) (fun r2 σ1 =>
    (bd (fn_Ma_trapOf σ1 r2) (fun r5 σ4 =>
    (if r5 = 0 then
    (bd (fn_Co_opAt σ4 (σ4 (19 + 2 * r2) 1)) (fun r9 σ8 =>
    (bd (fn_Co_numberAt σ8 (σ8 (19 + 2 * r2) 1)) (fun r12 σ11 =>
    (nm (mw σ11 (19 + 2 * r2) 1 ((σ11 (19 + 2 * r2) 1) + (1 : Int32))) (fun σ13 =>
    (bd (fn_Op_jumps σ13 r9) (fun r15 σ14 =>
    (if r15 = 0 then
    (bv (fn_Ma_act σ14 r2 r9 r12) (fun σ17 =>
    (some (0, 0, σ17))))
    else
    (bv (fn_Ma_jump σ14 r2 r9 r12) (fun σ18 =>
    (some (0, 0, σ18)))))))))))))
    else
    (nm (mw σ4 16 0 (0 : Int32)) (fun σ19 =>
    (bx (fn_Ma_report σ19 r5) (fun x1 z1 => some (x1, 0, z1)) (fun _ σ20 =>
    (some (0, 0, σ20)))))))))))
set_option maxRecDepth 100000 in
set_option maxHeartbeats 40000000 in
theorem c_Ma_doInstruction (l : Launch) (D : va_G) (ca : Nat → ClassId) (ax : Nat → Nat → Nat) (b : Nat) (σ : mm_M)   (htr : l.stackTraces = false) {x : Nat} {r : Int32} {σ' : mm_M} (hf : fn_Ma_doInstruction σ  = some (x, r, σ')) : MetX l y_Ma_doInstruction w_Ma_doInstruction rm_Ma_doInstruction (pc_w D cls b N_C (ce_C ca b) (kC D ca ax b) [.ref (b + 16)] σ) (qc_x D cls b N_C (ce_C ca b) (fun _ => none) x r σ') 1 6 (mm_A b N_C) := by
  refine vv_goX (cc := b_Ma_doInstruction) (maxL := 5) (ret := none) (by decide) rfl (by simp [Value.category]) (Nat.le_of_ble_eq_true rfl) ?_
  intro p e s m below meth c hlocks hret hnh S hKK hP0 ls0 hl0
  refine (?_ : vv p l e (headSpec w_Ma_doInstruction rm_Ma_doInstruction).room s m [.ref (b + 16)].toArray below meth c D cls b N_C (ce_C ca b) 5 (mx_Q below (qc_x D cls b N_C (ce_C ca b) (fun _ => none) x r σ') [.ref (b + 16)].toArray s 1 6 (mm_A b N_C)) (x, r, σ') (fn_Ma_doInstruction σ ) σ 0 [some (.ref (b + 16))] []) hf s.heap [] ls0 hl0 hP0 va_S.rf
  unfold fn_Ma_doInstruction
  refine v_aload_n S d_Ma_doInstruction_0 rfl rfl ?_
  refine v_ca (fun q => b + (19 + 2 * q)) (rest := []) (fun _ _ hg H locs ls hsz hP hS => run_V (As := []) (rest := []) S kC_ok hKK (c_Ma_top l D ca ax b σ hg) (k_Ma_48 S.2.2.2.2 (fun _ => List.mem_cons_of_mem _) ⟨Nat.le_of_ble_eq_true rfl, Nat.le_of_ble_eq_true rfl⟩) (rc_w hKK.1 hP 16 (by decide) rfl rfl) rfl rfl (Nat.zero_le _) d_Ma_doInstruction_1 hsz hP hS) (fun r2 σ1 g3 => ?_)
  refine v_astore_nP S d_Ma_doInstruction_4 rfl (by decide) (L2 := [some (.ref (b + 16)), some (.ref (b + (19 + 2 * r2)))]) rfl ?_
  refine v_aload_n S d_Ma_doInstruction_5 rfl rfl ?_
  refine v_aload_n S d_Ma_doInstruction_6 rfl rfl ?_
  refine v_ca (ax 1) (rest := []) (fun _ _ hg H locs ls hsz hP hS => run_V (As := [.ref (b + (19 + 2 * r2))]) (rest := []) S kC_ok hKK (c_Ma_trapOf l D ca ax b σ1 r2 (rb_Ma_top g3) hg) (k_Ma_52 S.2.2.2.2 (fun _ => List.mem_cons_of_mem _) ⟨Nat.le_of_ble_eq_true rfl, Nat.le_of_ble_eq_true rfl⟩) (rc_w hKK.1 hP 16 (by decide) rfl rfl) rfl rfl (Nat.zero_le _) d_Ma_doInstruction_7 hsz hP hS) (fun r5 σ4 g6 => ?_)
  refine v_astore_nP S d_Ma_doInstruction_10 rfl (by decide) (L2 := [some (.ref (b + 16)), some (.ref (b + (19 + 2 * r2))), some (.ref (ax 1 r5))]) rfl ?_
  refine v_aload_n S d_Ma_doInstruction_11 rfl rfl ?_
  refine v_gets S (kc_zT hKK (i := 0) (by decide)) (S.2.2.2.2 _ (List.mem_cons_of_mem _ (wd_548))) (fun _ h => h) d_Ma_doInstruction_12 ?_
  refine v_acmp_eq S d_Ma_doInstruction_15 (tgt := 28) (by decide) (tr_inj hKK (rb_Ma_trapOf g6) (by decide)) (fun h7 => ?_) (fun h7 => ?_)
  · refine v_aload_n S d_Ma_doInstruction_28 rfl rfl ?_
    refine v_get S (fun w h => List.mem_cons_of_mem _ (i_Ma w h)) hKK.1 16 (by decide) rfl rfl 3 (by decide) (S.2.2.2.2 _ (List.mem_cons_of_mem _ (wd_127))) (fun _ h => h) rfl d_Ma_doInstruction_29 ?_
    refine v_aload_n S d_Ma_doInstruction_32 rfl rfl ?_
    refine v_get S (fun w h => List.mem_cons_of_mem _ (i_Fr w h)) hKK.1 (19 + 2 * r2) (fr_lt (rb_Ma_top g3)) (ce_fr (rb_Ma_top g3)) rfl 1 (by decide) (S.2.2.2.2 _ (List.mem_cons_of_mem _ (wd_106))) (fun _ h => h) rfl d_Ma_doInstruction_33 ?_
    refine v_ca (ax 0) (rest := []) (fun _ _ hg H locs ls hsz hP hS => run_V (As := [.int (σ4 (19 + 2 * r2) 1)]) (rest := []) S kC_ok hKK (c_Co_opAt l D ca ax b σ4 (σ4 (19 + 2 * r2) 1) hg) (k_Ma_69 S.2.2.2.2 (fun _ => List.mem_cons_of_mem _) ⟨Nat.le_of_ble_eq_true rfl, Nat.le_of_ble_eq_true rfl⟩) (rc_w hKK.1 hP 1 (by decide) rfl rfl) rfl rfl (Nat.zero_le _) d_Ma_doInstruction_36 hsz hP hS) (fun r9 σ8 g10 => ?_)
    refine v_astore_nP S d_Ma_doInstruction_39 rfl (by decide) (L2 := [some (.ref (b + 16)), some (.ref (b + (19 + 2 * r2))), some (.ref (ax 1 r5)), some (.ref (ax 0 r9))]) rfl ?_
    refine v_aload_n S d_Ma_doInstruction_40 rfl rfl ?_
    refine v_get S (fun w h => List.mem_cons_of_mem _ (i_Ma w h)) hKK.1 16 (by decide) rfl rfl 3 (by decide) (S.2.2.2.2 _ (List.mem_cons_of_mem _ (wd_127))) (fun _ h => h) rfl d_Ma_doInstruction_41 ?_
    refine v_aload_n S d_Ma_doInstruction_44 rfl rfl ?_
    refine v_get S (fun w h => List.mem_cons_of_mem _ (i_Fr w h)) hKK.1 (19 + 2 * r2) (fr_lt (rb_Ma_top g3)) (ce_fr (rb_Ma_top g3)) rfl 1 (by decide) (S.2.2.2.2 _ (List.mem_cons_of_mem _ (wd_106))) (fun _ h => h) rfl d_Ma_doInstruction_45 ?_
    refine v_ci (rest := []) (fun _ _ hg H locs ls hsz hP hS => run_V (As := [.int (σ8 (19 + 2 * r2) 1)]) (rest := []) S kC_ok hKK (c_Co_numberAt l D ca ax b σ8 (σ8 (19 + 2 * r2) 1) hg) (k_Ma_75 S.2.2.2.2 (fun _ => List.mem_cons_of_mem _) ⟨Nat.le_of_ble_eq_true rfl, Nat.le_of_ble_eq_true rfl⟩) (rc_w hKK.1 hP 1 (by decide) rfl rfl) rfl rfl (Nat.zero_le _) d_Ma_doInstruction_48 hsz hP hS) (fun r12 σ11 _ => ?_)
    refine v_istoreP S d_Ma_doInstruction_51 (by decide) (L2 := [some (.ref (b + 16)), some (.ref (b + (19 + 2 * r2))), some (.ref (ax 1 r5)), some (.ref (ax 0 r9)), some (.int r12)]) rfl ?_
    refine v_aload_n S d_Ma_doInstruction_53 rfl rfl ?_
    refine v_dup S d_Ma_doInstruction_54 rfl ?_
    refine v_get S (fun w h => List.mem_cons_of_mem _ (i_Fr w h)) hKK.1 (19 + 2 * r2) (fr_lt (rb_Ma_top g3)) (ce_fr (rb_Ma_top g3)) rfl 1 (by decide) (S.2.2.2.2 _ (List.mem_cons_of_mem _ (wd_106))) (fun _ h => h) rfl d_Ma_doInstruction_55 ?_
    refine v_iconst S d_Ma_doInstruction_58 (v := (1 : Int32)) (by decide) ?_
    refine v_iadd S d_Ma_doInstruction_59 ?_
    refine v_puti S (fun w h => List.mem_cons_of_mem _ (i_Fr w h)) hKK.1 (19 + 2 * r2) (fr_lt (rb_Ma_top g3)) (ce_fr (rb_Ma_top g3)) rfl 1 (by decide) (S.2.2.2.2 _ (List.mem_cons_of_mem _ (wd_106))) (fun _ h => h) t_Fr t_Fr_ok n_Fr rfl (ty := .int) rfl rfl rfl (Nat.le_of_ble_eq_true rfl) (ce_frP (rb_Ma_top g3) 1 (by decide)) d_Ma_doInstruction_60 ?_
    refine v_sg (fun σ13 eσ13 => ?_)
    refine v_aload_n S d_Ma_doInstruction_63 rfl rfl ?_
    refine v_ci (rest := []) (fun _ _ hg H locs ls hsz hP hS => run_V (As := []) (rest := []) S kC_ok hKK (c_Op_jumps l D ca ax b σ13 r9 (rb_Co_opAt g10) hg) (k_Ma_79 S.2.2.2.2 (fun _ => List.mem_cons_of_mem _) ⟨Nat.le_of_ble_eq_true rfl, Nat.le_of_ble_eq_true rfl⟩) (rc_op hKK (rb_Co_opAt g10) hS) rfl rfl (Nat.zero_le _) d_Ma_doInstruction_64 hsz hP hS) (fun r15 σ14 _ => ?_)
    refine v_if_eq S d_Ma_doInstruction_67 (tgt := 80) (by decide) (fun h16 => ?_) (fun h16 => ?_)
    · refine v_aload_n S d_Ma_doInstruction_80 rfl rfl ?_
      refine v_aload_n S d_Ma_doInstruction_81 rfl rfl ?_
      refine v_aload_n S d_Ma_doInstruction_82 rfl rfl ?_
      refine v_iload S d_Ma_doInstruction_83 rfl ?_
      refine v_cv (rest := []) (fun _ hg H locs ls hsz hP hS => run_V (As := [.ref (b + (19 + 2 * r2)), .ref (ax 0 r9), .int r12]) (rest := []) S kC_ok hKK (c_Ma_act l D ca ax b σ14 r2 r9 r12 (rb_Ma_top g3) (rb_Co_opAt g10) hg) (k_Ma_89 S.2.2.2.2 (fun _ => List.mem_cons_of_mem _) ⟨Nat.le_of_ble_eq_true rfl, Nat.le_of_ble_eq_true rfl⟩) (rc_w hKK.1 hP 16 (by decide) rfl rfl) rfl rfl (Nat.zero_le _) d_Ma_doInstruction_85 hsz hP hS) (fun σ17 _ => ?_)
      exact v_vretX S hret hlocks d_Ma_doInstruction_88
    · refine v_aload_n S d_Ma_doInstruction_70 rfl rfl ?_
      refine v_aload_n S d_Ma_doInstruction_71 rfl rfl ?_
      refine v_iload S d_Ma_doInstruction_72 rfl ?_
      refine v_cv (rest := []) (fun _ hg H locs ls hsz hP hS => run_S (As := [.ref (b + (19 + 2 * r2)), .ref (ax 0 r9), .int r12]) (rest := []) S kC_ok hKK (c_Ma_jump l D ca ax b σ14 r2 r9 r12 (rb_Ma_top g3) (rb_Co_opAt g10) hg) (k_Ma_85 S.2.2.2.2 (fun _ => List.mem_cons_of_mem _) ⟨Nat.le_of_ble_eq_true rfl, Nat.le_of_ble_eq_true rfl⟩) rfl rfl (Nat.zero_le _) d_Ma_doInstruction_74 hsz hP hS) (fun σ18 _ => ?_)
      refine v_goto S d_Ma_doInstruction_77 (tgt := 88) (by decide) ?_
      exact v_vretX S hret hlocks d_Ma_doInstruction_88
  · refine v_aload_n S d_Ma_doInstruction_18 rfl rfl ?_
    refine v_iconst S d_Ma_doInstruction_19 (v := (0 : Int32)) (by decide) ?_
    refine v_puti S (fun w h => List.mem_cons_of_mem _ (i_Ma w h)) hKK.1 16 (by decide) rfl rfl 0 (by decide) (S.2.2.2.2 _ (List.mem_cons_of_mem _ (wd_121))) (fun _ h => h) t_Ma t_Ma_ok n_Ma rfl (ty := .int) rfl rfl rfl (Nat.le_of_ble_eq_true rfl) rfl d_Ma_doInstruction_20 ?_
    refine v_sg (fun σ19 eσ19 => ?_)
    refine v_aload_n S d_Ma_doInstruction_23 rfl rfl ?_
    refine v_cxv (rest := []) hnh hlocks (fun _ _ _ hg H locs ls hsz hP hS => xr_S (As := [.ref (ax 1 r5)]) (rest := []) S (c_Ma_report l D ca ax b σ19 r5 (rb_Ma_trapOf g6) htr hg) (k_Ma_62 S.2.2.2.2 (fun _ => List.mem_cons_of_mem _) ⟨Nat.le_of_ble_eq_true rfl, Nat.le_of_ble_eq_true rfl⟩) (pw_pre kC_ok hKK hP hS) rfl rfl hsz rfl (lv_room (Nat.zero_le _)) d_Ma_doInstruction_24 ⟨Nat.le_of_ble_eq_true rfl, Nat.le_of_ble_eq_true rfl⟩) (fun _ σ20 _ => ?_)
    exact v_vretX S hret hlocks d_Ma_doInstruction_27
def fn_FV_add_20 (a0 : Int32) (a1 : Int32) (σ : mm_M)  : Option (Nat × Int32 × mm_M) :=
    (bv (fn_FV_forgetVerification σ) (fun σ2 =>
    (bd (fn_Co_append σ2 a0 a1) (fun r4 σ3 =>
    (some (0, r4, σ3))))))
def fn_FV_add (σ : mm_M) (a0 : Int32) (a1 : Int32) : Option (Nat × Int32 × mm_M) :=
    (if (σ 1 0) < (100 : Int32) then
    (fn_FV_add_20 a0 a1 σ)
    else
    (some (5, 0, σ)))
set_option maxRecDepth 100000 in
set_option maxHeartbeats 40000000 in
theorem c_FV_add (l : Launch) (D : va_G) (ca : Nat → ClassId) (ax : Nat → Nat → Nat) (b : Nat) (σ : mm_M) (a0 : Int32) (a1 : Int32)  (htr : l.stackTraces = false) {x : Nat} {r : Int32} {σ' : mm_M} (hf : fn_FV_add σ a0 a1 = some (x, r, σ')) : MetX l y_FV_add w_FV_add rm_FV_add (pc_w D cls b N_C (ce_C ca b) (kC D ca ax b) [.ref (b + 0), .int a0, .int a1] σ) (qc_x D cls b N_C (ce_C ca b) (fun r => some (.int r)) x r σ') 1 6 (mm_A b N_C) := by
  refine vv_goX (cc := b_FV_add) (maxL := 3) (ret := (some .int)) (by decide) rfl (by simp [Value.category]) (Nat.le_of_ble_eq_true rfl) ?_
  intro p e s m below meth c hlocks hret hnh S hKK hP0 ls0 hl0
  have C20 : ∀ (σ : mm_M) , vv p l e (headSpec w_FV_add rm_FV_add).room s m [.ref (b + 0), .int a0, .int a1].toArray below meth c D cls b N_C (ce_C ca b) 3 (mx_Q below (qc_x D cls b N_C (ce_C ca b) (fun r => some (.int r)) x r σ') [.ref (b + 0), .int a0, .int a1].toArray s 1 6 (mm_A b N_C)) (x, r, σ') (fn_FV_add_20 a0 a1 σ ) σ 20 [some (.ref (b + 0)), some (.int a0), some (.int a1)] [] := by
    intro σ
    unfold fn_FV_add_20
    refine v_aload_n S d_FV_add_20 rfl rfl ?_
    refine v_cv (rest := []) (fun _ hg H locs ls hsz hP hS => run_V (As := []) (rest := []) S kC_ok hKK (c_FV_forgetVerification l D ca ax b σ hg) (k_FV_43 S.2.2.2.2 (fun _ => List.mem_cons_of_mem _) ⟨Nat.le_of_ble_eq_true rfl, Nat.le_of_ble_eq_true rfl⟩) (rc_w hKK.1 hP 0 (by decide) rfl rfl) rfl rfl (Nat.zero_le _) d_FV_add_21 hsz hP hS) (fun σ2 _ => ?_)
    refine v_aload_n S d_FV_add_24 rfl rfl ?_
    refine v_get S (fun w h => List.mem_cons_of_mem _ (i_FV w h)) hKK.1 0 (by decide) rfl rfl 0 (by decide) (S.2.2.2.2 _ (List.mem_cons_of_mem _ (wd_143))) (fun _ h => h) rfl d_FV_add_25 ?_
    refine v_iload_n S d_FV_add_28 rfl rfl ?_
    refine v_iload_n S d_FV_add_29 rfl rfl ?_
    refine v_ci (rest := []) (fun _ _ hg H locs ls hsz hP hS => run_V (As := [.int a0, .int a1]) (rest := []) S kC_ok hKK (c_Co_append l D ca ax b σ2 a0 a1 hg) (k_FV_46 S.2.2.2.2 (fun _ => List.mem_cons_of_mem _) ⟨Nat.le_of_ble_eq_true rfl, Nat.le_of_ble_eq_true rfl⟩) (rc_w hKK.1 hP 1 (by decide) rfl rfl) rfl rfl (Nat.zero_le _) d_FV_add_30 hsz hP hS) (fun r4 σ3 _ => ?_)
    exact v_iretX S hret hlocks d_FV_add_33
  have hx := S.1
  have hb := S.2.1
  have hsz : ls0.size = 3 := hl0.1
  refine lv_aload_n hx hb d_FV_add_0 rfl (hl0.2.2 0 _ rfl).2 ?_
  refine va_get hx hb S.2.2.2.2 (fun w h => List.mem_cons_of_mem _ (i_FV w h)) S.2.2.2.1 hKK.1 hP0 0 (mm_get (by decide)) rfl 0 (by decide) (S.2.2.2.2 _ (List.mem_cons_of_mem _ wd_143)) (fun _ h => h) rfl d_FV_add_1 ?_
  refine va_get hx hb S.2.2.2.2 (fun w h => List.mem_cons_of_mem _ (i_Co w h)) S.2.2.2.1 hKK.1 hP0 1 (mm_get (by decide)) rfl 0 (by decide) (S.2.2.2.2 _ (List.mem_cons_of_mem _ wd_41)) (fun _ h => h) rfl d_FV_add_4 ?_
  refine lv_bipush hx hb d_FV_add_7 (v := 100) (by decide) ?_
  unfold fn_FV_add at hf
  refine lv_icmp_lt hx hb d_FV_add_9 (tgt := 20) (by decide) (fun h => ?_) (fun h => ?_)
  · rw [if_pos h] at hf
    exact C20 σ hf s.heap [] ls0 hl0 hP0 va_S.rf
  · rw [if_neg h] at hf
    cases Option.some.inj hf
    exact w_throw S htr (S.2.2.2.2 _ (List.mem_cons_of_mem _ wd_445)) (S.2.2.2.2 _ (List.mem_cons_of_mem _ wd_10)) (xN := ex_nm 5) (by decide +kernel) (ow_of (i := 5) hKK S.2.2.2.2 (fun _ => List.mem_cons_of_mem _) (by decide) ow_FV_add_12 oz_FV_add_12) hnh hlocks hsz d_FV_add_12 d_FV_add_15 d_FV_add_16 d_FV_add_19 ⟨Nat.le_of_ble_eq_true rfl, Nat.le_of_ble_eq_true rfl, Nat.le_of_ble_eq_true rfl, Nat.le_of_ble_eq_true rfl⟩ (fun a t hx h1 h2 => ⟨Or.inr ⟨by decide, a, rfl, hx⟩, hP0.kept (fun k q hq => h2 _ ((hP0 k q hq).lt)), h1, fun q g1 _ => h2 q g1⟩)
def fn_FV_step_17  (σ : mm_M)  : Option (Nat × Int32 × mm_M) :=
    (bd (fn_Ma_isRunning σ) (fun r5 σ4 =>
    (if r5 = 0 then
    (some (0, (0 : Int32), σ4))
    else
    (some (0, (1 : Int32), σ4)))))
def fn_FV_step (σ : mm_M)  : Option (Nat × Int32 × mm_M) :=
    (bd (fn_Ma_isRunning σ) (fun r2 σ1 =>
    (if r2 = 0 then
    (fn_FV_step_17 σ1)
    else
    (bx (fn_Ma_doInstruction σ1) (fun x1 z1 => some (x1, 0, z1)) (fun _ σ7 =>
    (fn_FV_step_17 σ7))))))
set_option maxRecDepth 100000 in
set_option maxHeartbeats 40000000 in
theorem c_FV_step (l : Launch) (D : va_G) (ca : Nat → ClassId) (ax : Nat → Nat → Nat) (b : Nat) (σ : mm_M)   (htr : l.stackTraces = false) {x : Nat} {r : Int32} {σ' : mm_M} (hf : fn_FV_step σ  = some (x, r, σ')) : MetX l y_FV_step w_FV_step rm_FV_step (pc_w D cls b N_C (ce_C ca b) (kC D ca ax b) [.ref (b + 0)] σ) (qc_x D cls b N_C (ce_C ca b) (fun r => some (.int r)) x r σ') 1 6 (mm_A b N_C) := by
  refine vv_goX (cc := b_FV_step) (maxL := 1) (ret := (some .int)) (by decide) rfl (by simp [Value.category]) (Nat.le_of_ble_eq_true rfl) ?_
  intro p e s m below meth c hlocks hret hnh S hKK hP0 ls0 hl0
  have C17 : ∀ (σ : mm_M) , vv p l e (headSpec w_FV_step rm_FV_step).room s m [.ref (b + 0)].toArray below meth c D cls b N_C (ce_C ca b) 1 (mx_Q below (qc_x D cls b N_C (ce_C ca b) (fun r => some (.int r)) x r σ') [.ref (b + 0)].toArray s 1 6 (mm_A b N_C)) (x, r, σ') (fn_FV_step_17  σ ) σ 17 [some (.ref (b + 0))] [] := by
    intro σ
    unfold fn_FV_step_17
    refine v_aload_n S d_FV_step_17 rfl rfl ?_
    refine v_get S (fun w h => List.mem_cons_of_mem _ (i_FV w h)) hKK.1 0 (by decide) rfl rfl 2 (by decide) (S.2.2.2.2 _ (List.mem_cons_of_mem _ (wd_145))) (fun _ h => h) rfl d_FV_step_18 ?_
    refine v_ci (rest := []) (fun _ _ hg H locs ls hsz hP hS => run_V (As := []) (rest := []) S kC_ok hKK (c_Ma_isRunning l D ca ax b σ hg) (k_FV_84 S.2.2.2.2 (fun _ => List.mem_cons_of_mem _) ⟨Nat.le_of_ble_eq_true rfl, Nat.le_of_ble_eq_true rfl⟩) (rc_w hKK.1 hP 16 (by decide) rfl rfl) rfl rfl (Nat.zero_le _) d_FV_step_21 hsz hP hS) (fun r5 σ4 _ => ?_)
    refine v_if_eq S d_FV_step_24 (tgt := 31) (by decide) (fun h6 => ?_) (fun h6 => ?_)
    · refine v_iconst S d_FV_step_31 (v := (0 : Int32)) (by decide) ?_
      exact v_iretX S hret hlocks d_FV_step_32
    · refine v_iconst S d_FV_step_27 (v := (1 : Int32)) (by decide) ?_
      refine v_goto S d_FV_step_28 (tgt := 32) (by decide) ?_
      exact v_iretX S hret hlocks d_FV_step_32
  refine (?_ : vv p l e (headSpec w_FV_step rm_FV_step).room s m [.ref (b + 0)].toArray below meth c D cls b N_C (ce_C ca b) 1 (mx_Q below (qc_x D cls b N_C (ce_C ca b) (fun r => some (.int r)) x r σ') [.ref (b + 0)].toArray s 1 6 (mm_A b N_C)) (x, r, σ') (fn_FV_step σ ) σ 0 [some (.ref (b + 0))] []) hf s.heap [] ls0 hl0 hP0 va_S.rf
  unfold fn_FV_step
  refine v_aload_n S d_FV_step_0 rfl rfl ?_
  refine v_get S (fun w h => List.mem_cons_of_mem _ (i_FV w h)) hKK.1 0 (by decide) rfl rfl 2 (by decide) (S.2.2.2.2 _ (List.mem_cons_of_mem _ (wd_145))) (fun _ h => h) rfl d_FV_step_1 ?_
  refine v_ci (rest := []) (fun _ _ hg H locs ls hsz hP hS => run_V (As := []) (rest := []) S kC_ok hKK (c_Ma_isRunning l D ca ax b σ hg) (k_FV_84 S.2.2.2.2 (fun _ => List.mem_cons_of_mem _) ⟨Nat.le_of_ble_eq_true rfl, Nat.le_of_ble_eq_true rfl⟩) (rc_w hKK.1 hP 16 (by decide) rfl rfl) rfl rfl (Nat.zero_le _) d_FV_step_4 hsz hP hS) (fun r2 σ1 _ => ?_)
  refine v_if_eq S d_FV_step_7 (tgt := 17) (by decide) (fun h3 => ?_) (fun h3 => ?_)
  · refine v_sub (L2 := [some (.ref (b + 0))]) (And.intro rfl True.intro) ?_
    exact C17 σ1
  · refine v_aload_n S d_FV_step_10 rfl rfl ?_
    refine v_get S (fun w h => List.mem_cons_of_mem _ (i_FV w h)) hKK.1 0 (by decide) rfl rfl 2 (by decide) (S.2.2.2.2 _ (List.mem_cons_of_mem _ (wd_145))) (fun _ h => h) rfl d_FV_step_11 ?_
    refine v_cxv (rest := []) hnh hlocks (fun _ _ _ hg H locs ls hsz hP hS => xr_V (As := []) (rest := []) S (c_Ma_doInstruction l D ca ax b σ1   htr hg) (k_FV_88 S.2.2.2.2 (fun _ => List.mem_cons_of_mem _) ⟨Nat.le_of_ble_eq_true rfl, Nat.le_of_ble_eq_true rfl⟩) ⟨(pw_pre kC_ok hKK hP hS).1, (rc_w hKK.1 hP 16 (by decide) rfl rfl), (pw_pre (av := .ref (b + 16) :: []) kC_ok hKK hP hS).2⟩ rfl rfl hsz rfl (lv_room (Nat.zero_le _)) d_FV_step_14 ⟨Nat.le_of_ble_eq_true rfl, Nat.le_of_ble_eq_true rfl⟩) (fun _ σ7 _ => ?_)
    refine v_sub (L2 := [some (.ref (b + 0))]) (And.intro rfl True.intro) ?_
    exact C17 σ7
def fn_FV_steps_22 (a0 : Int32) : Nat → mm_M → Int32 → Option (Nat × Int32 × mm_M)
  | 0, _, _ => none
  | n + 1, σ, l2 =>
    (if a0 ≤ l2 then
    (some (0, l2, σ))
    else
    (bd (fn_Ma_isRunning σ) (fun r5 σ4 =>
    (if r5 = 0 then
    (some (0, l2, σ4))
    else
    (bx (fn_Ma_doInstruction σ4) (fun x1 z1 => some (x1, 0, z1)) (fun _ σ7 =>
    (fn_FV_steps_22 a0 n σ7 (l2 + (1 : Int32)))))))))
def fn_FV_steps_20 (a0 : Int32) (σ : mm_M)  : Option (Nat × Int32 × mm_M) :=
    (fn_FV_steps_22 a0 fuel0 σ (0 : Int32))
def fn_FV_steps (σ : mm_M) (a0 : Int32) : Option (Nat × Int32 × mm_M) :=
    (if a0 < (1 : Int32) then
    (some (6, 0, σ))
    else
    (if a0 ≤ (200 : Int32) then
    (fn_FV_steps_20 a0 σ)
    else
    (some (6, 0, σ))))
set_option maxRecDepth 100000 in
set_option maxHeartbeats 40000000 in
theorem c_FV_steps (l : Launch) (D : va_G) (ca : Nat → ClassId) (ax : Nat → Nat → Nat) (b : Nat) (σ : mm_M) (a0 : Int32)  (htr : l.stackTraces = false) {x : Nat} {r : Int32} {σ' : mm_M} (hf : fn_FV_steps σ a0 = some (x, r, σ')) : MetX l y_FV_steps w_FV_steps rm_FV_steps (pc_w D cls b N_C (ce_C ca b) (kC D ca ax b) [.ref (b + 0), .int a0] σ) (qc_x D cls b N_C (ce_C ca b) (fun r => some (.int r)) x r σ') 1 6 (mm_A b N_C) := by
  refine vv_goX (cc := b_FV_steps) (maxL := 3) (ret := (some .int)) (by decide) rfl (by simp [Value.category]) (Nat.le_of_ble_eq_true rfl) ?_
  intro p e s m below meth c hlocks hret hnh S hKK hP0 ls0 hl0
  have C22 : ∀ (n : Nat) (σ : mm_M) (l2 : Int32), vv p l e (headSpec w_FV_steps rm_FV_steps).room s m [.ref (b + 0), .int a0].toArray below meth c D cls b N_C (ce_C ca b) 3 (mx_Q below (qc_x D cls b N_C (ce_C ca b) (fun r => some (.int r)) x r σ') [.ref (b + 0), .int a0].toArray s 1 6 (mm_A b N_C)) (x, r, σ') (fn_FV_steps_22 a0 n σ l2) σ 22 [some (.ref (b + 0)), some (.int a0), some (.int l2)] [] := by
    intro n
    induction n with
    | zero => intro σ l2  h; cases h
    | succ n ih =>
      intro σ l2
      show vv p l e (headSpec w_FV_steps rm_FV_steps).room s m [.ref (b + 0), .int a0].toArray below meth c D cls b N_C (ce_C ca b) 3 (mx_Q below (qc_x D cls b N_C (ce_C ca b) (fun r => some (.int r)) x r σ') [.ref (b + 0), .int a0].toArray s 1 6 (mm_A b N_C)) (x, r, σ') (        (if a0 ≤ l2 then
        (some (0, l2, σ))
        else
        (bd (fn_Ma_isRunning σ) (fun r5 σ4 =>
        (if r5 = 0 then
        (some (0, l2, σ4))
        else
        (bx (fn_Ma_doInstruction σ4) (fun x1 z1 => some (x1, 0, z1)) (fun _ σ7 =>
        (fn_FV_steps_22 a0 n σ7 (l2 + (1 : Int32)))))))))) σ 22 [some (.ref (b + 0)), some (.int a0), some (.int l2)] []
      refine v_iload_n S d_FV_steps_22 rfl rfl ?_
      refine v_iload_n S d_FV_steps_23 rfl rfl ?_
      refine v_icmp_ge S d_FV_steps_24 (tgt := 50) (by decide) (fun h3 => ?_) (fun h3 => ?_)
      · refine v_iload_n S d_FV_steps_50 rfl rfl ?_
        exact v_iretX S hret hlocks d_FV_steps_51
      · refine v_aload_n S d_FV_steps_27 rfl rfl ?_
        refine v_get S (fun w h => List.mem_cons_of_mem _ (i_FV w h)) hKK.1 0 (by decide) rfl rfl 2 (by decide) (S.2.2.2.2 _ (List.mem_cons_of_mem _ (wd_145))) (fun _ h => h) rfl d_FV_steps_28 ?_
        refine v_ci (rest := []) (fun _ _ hg H locs ls hsz hP hS => run_V (As := []) (rest := []) S kC_ok hKK (c_Ma_isRunning l D ca ax b σ hg) (k_FV_84 S.2.2.2.2 (fun _ => List.mem_cons_of_mem _) ⟨Nat.le_of_ble_eq_true rfl, Nat.le_of_ble_eq_true rfl⟩) (rc_w hKK.1 hP 16 (by decide) rfl rfl) rfl rfl (Nat.zero_le _) d_FV_steps_31 hsz hP hS) (fun r5 σ4 _ => ?_)
        refine v_if_eq S d_FV_steps_34 (tgt := 50) (by decide) (fun h6 => ?_) (fun h6 => ?_)
        · refine v_iload_n S d_FV_steps_50 rfl rfl ?_
          exact v_iretX S hret hlocks d_FV_steps_51
        · refine v_aload_n S d_FV_steps_37 rfl rfl ?_
          refine v_get S (fun w h => List.mem_cons_of_mem _ (i_FV w h)) hKK.1 0 (by decide) rfl rfl 2 (by decide) (S.2.2.2.2 _ (List.mem_cons_of_mem _ (wd_145))) (fun _ h => h) rfl d_FV_steps_38 ?_
          refine v_cxv (rest := []) hnh hlocks (fun _ _ _ hg H locs ls hsz hP hS => xr_V (As := []) (rest := []) S (c_Ma_doInstruction l D ca ax b σ4   htr hg) (k_FV_88 S.2.2.2.2 (fun _ => List.mem_cons_of_mem _) ⟨Nat.le_of_ble_eq_true rfl, Nat.le_of_ble_eq_true rfl⟩) ⟨(pw_pre kC_ok hKK hP hS).1, (rc_w hKK.1 hP 16 (by decide) rfl rfl), (pw_pre (av := .ref (b + 16) :: []) kC_ok hKK hP hS).2⟩ rfl rfl hsz rfl (lv_room (Nat.zero_le _)) d_FV_steps_41 ⟨Nat.le_of_ble_eq_true rfl, Nat.le_of_ble_eq_true rfl⟩) (fun _ σ7 _ => ?_)
          refine v_iinc S d_FV_steps_44 rfl (v := (l2 + (1 : Int32))) (by first | rfl | decide) (by decide) (L2 := [some (.ref (b + 0)), some (.int a0), some (.int (l2 + (1 : Int32)))]) rfl ?_
          refine v_goto S d_FV_steps_47 (tgt := 22) (by decide) ?_
          refine v_sub (L2 := [some (.ref (b + 0)), some (.int a0), some (.int (l2 + (1 : Int32)))]) (And.intro rfl (And.intro rfl (And.intro rfl True.intro))) ?_
          exact ih σ7 (l2 + (1 : Int32))
  have C20 : ∀ (σ : mm_M) , vv p l e (headSpec w_FV_steps rm_FV_steps).room s m [.ref (b + 0), .int a0].toArray below meth c D cls b N_C (ce_C ca b) 3 (mx_Q below (qc_x D cls b N_C (ce_C ca b) (fun r => some (.int r)) x r σ') [.ref (b + 0), .int a0].toArray s 1 6 (mm_A b N_C)) (x, r, σ') (fn_FV_steps_20 a0 σ ) σ 20 [some (.ref (b + 0)), some (.int a0)] [] := by
    intro σ
    unfold fn_FV_steps_20
    refine v_iconst S d_FV_steps_20 (v := (0 : Int32)) (by decide) ?_
    refine v_istore_nP S d_FV_steps_21 rfl (by decide) (L2 := [some (.ref (b + 0)), some (.int a0), some (.int (0 : Int32))]) rfl ?_
    refine v_sub (L2 := [some (.ref (b + 0)), some (.int a0), some (.int (0 : Int32))]) (And.intro rfl (And.intro rfl (And.intro rfl True.intro))) ?_
    exact C22 fuel0 σ (0 : Int32)
  have hx := S.1
  have hb := S.2.1
  have hsz : ls0.size = 3 := hl0.1
  unfold fn_FV_steps at hf
  refine lv_iload_n hx hb d_FV_steps_0 rfl (hl0.2.2 1 _ rfl).2 ?_
  refine lv_iconst hx hb d_FV_steps_1 (v := 1) (by decide) ?_
  refine lv_icmp_lt hx hb d_FV_steps_2 (tgt := 12) (by decide) (fun h => ?_) (fun h => ?_)
  · rw [if_pos h] at hf
    cases Option.some.inj hf
    exact w_throw S htr (S.2.2.2.2 _ (List.mem_cons_of_mem _ wd_720)) (S.2.2.2.2 _ (List.mem_cons_of_mem _ wd_25)) (xN := ex_nm 6) (by decide +kernel) (ow_of (i := 6) hKK S.2.2.2.2 (fun _ => List.mem_cons_of_mem _) (by decide) ow_FV_steps_12 oz_FV_steps_12) hnh hlocks hsz d_FV_steps_12 d_FV_steps_15 d_FV_steps_16 d_FV_steps_19 ⟨Nat.le_of_ble_eq_true rfl, Nat.le_of_ble_eq_true rfl, Nat.le_of_ble_eq_true rfl, Nat.le_of_ble_eq_true rfl⟩ (fun a t hx h1 h2 => ⟨Or.inr ⟨by decide, a, rfl, hx⟩, hP0.kept (fun k q hq => h2 _ ((hP0 k q hq).lt)), h1, fun q g1 _ => h2 q g1⟩)
  · rw [if_neg h] at hf
    refine lv_iload_n hx hb d_FV_steps_5 rfl (hl0.2.2 1 _ rfl).2 ?_
    refine lv_sipush hx hb d_FV_steps_6 (v := 200) (by decide) ?_
    refine lv_icmp_le hx hb d_FV_steps_9 (tgt := 20) (by decide) (fun h2 => ?_) (fun h2 => ?_)
    · rw [if_pos h2] at hf
      exact C20 σ hf s.heap [] ls0 hl0 hP0 va_S.rf
    · rw [if_neg h2] at hf
      cases Option.some.inj hf
      exact w_throw S htr (S.2.2.2.2 _ (List.mem_cons_of_mem _ wd_720)) (S.2.2.2.2 _ (List.mem_cons_of_mem _ wd_25)) (xN := ex_nm 6) (by decide +kernel) (ow_of (i := 6) hKK S.2.2.2.2 (fun _ => List.mem_cons_of_mem _) (by decide) ow_FV_steps_12 oz_FV_steps_12) hnh hlocks hsz d_FV_steps_12 d_FV_steps_15 d_FV_steps_16 d_FV_steps_19 ⟨Nat.le_of_ble_eq_true rfl, Nat.le_of_ble_eq_true rfl, Nat.le_of_ble_eq_true rfl, Nat.le_of_ble_eq_true rfl⟩ (fun a t hx h1 h2 => ⟨Or.inr ⟨by decide, a, rfl, hx⟩, hP0.kept (fun k q hq => h2 _ ((hP0 k q hq).lt)), h1, fun q g1 _ => h2 q g1⟩)

/-! contracts of 20.model; written by wip/whole/make.py -/
def fn_Mo_put (σ : mm_M) (a0 : Int32) (a1 : Int32) : Option (mm_M) :=
    (if (((σ 0 16) - (1 : Int32)) < 0 ∨ 8 ≤ ((σ 0 16) - (1 : Int32)).toNatClampNeg) then none else
    (nm ((((12 : Int32) * ((σ 0 16) - (1 : Int32))) + (6 : Int32)) + (σ 13 ((σ 0 16) - (1 : Int32)).toNatClampNeg)) (fun x2 =>
    (if (x2 < 0 ∨ 96 ≤ x2.toNatClampNeg) then none else (nm (mw σ 15 x2.toNatClampNeg a0) (fun σ4 =>
    (if (x2 < 0 ∨ 96 ≤ x2.toNatClampNeg) then none else (nm (mw σ4 14 x2.toNatClampNeg a1) (fun σ6 =>
    (if (((σ6 0 16) - (1 : Int32)) < 0 ∨ 8 ≤ ((σ6 0 16) - (1 : Int32)).toNatClampNeg) then none else
    (if (((σ6 0 16) - (1 : Int32)) < 0 ∨ 8 ≤ ((σ6 0 16) - (1 : Int32)).toNatClampNeg) then none else (nm (mw σ6 13 ((σ6 0 16) - (1 : Int32)).toNatClampNeg ((σ6 13 ((σ6 0 16) - (1 : Int32)).toNatClampNeg) + (1 : Int32))) (fun σ9 =>
    (some σ9))))))))))))))
set_option maxRecDepth 100000 in
set_option maxHeartbeats 40000000 in
theorem c_Mo_put (l : Launch) (D : va_G) (ca : Nat → ClassId) (ax : Nat → Nat → Nat) (b : Nat) (σ : mm_M) (a0 : Int32) (a1 : Int32)  {σ' : mm_M} (hf : fn_Mo_put σ a0 a1 = some σ') : Met l y_Mo_put w_Mo_put rm_Mo_put (pc_w D cls b N_M (ce_M ca b) (kM D ca ax b) [.ref (b + 0), .int a0, .int a1] σ) (qc_v D cls b N_M (ce_M ca b) σ') 0 0 (mm_A b N_M) := by
  refine vv_go (cc := b_Mo_put) (maxL := 4) (ret := none) (fin := σ') (k := fn_Mo_put σ a0 a1) (by decide) rfl (by simp [Value.category]) (Nat.le_of_ble_eq_true rfl) hf ?_
  intro p e s m below meth c hlocks hret S hKK
  unfold fn_Mo_put
  refine v_bipush S d_Mo_put_0 (v := (12 : Int32)) (by decide) ?_
  refine v_aload_n S d_Mo_put_2 rfl rfl ?_
  refine v_get S (fun w h => List.mem_cons_of_mem _ (i_Mo w h)) hKK.1 0 (by decide) rfl rfl 16 (by decide) (S.2.2.2.2 _ (List.mem_cons_of_mem _ (wd_757))) (fun _ h => h) rfl d_Mo_put_3 ?_
  refine v_iconst S d_Mo_put_6 (v := (1 : Int32)) (by decide) ?_
  refine v_isub S d_Mo_put_7 ?_
  refine v_imul S d_Mo_put_8 ?_
  refine v_bipush S d_Mo_put_9 (v := (6 : Int32)) (by decide) ?_
  refine v_iadd S d_Mo_put_11 ?_
  refine v_aload_n S d_Mo_put_12 rfl rfl ?_
  refine v_get S (fun w h => List.mem_cons_of_mem _ (i_Mo w h)) hKK.1 0 (by decide) rfl rfl 19 (by decide) (S.2.2.2.2 _ (List.mem_cons_of_mem _ (wd_760))) (fun _ h => h) rfl d_Mo_put_13 ?_
  refine v_aload_n S d_Mo_put_16 rfl rfl ?_
  refine v_get S (fun w h => List.mem_cons_of_mem _ (i_Mo w h)) hKK.1 0 (by decide) rfl rfl 16 (by decide) (S.2.2.2.2 _ (List.mem_cons_of_mem _ (wd_757))) (fun _ h => h) rfl d_Mo_put_17 ?_
  refine v_iconst S d_Mo_put_20 (v := (1 : Int32)) (by decide) ?_
  refine v_isub S d_Mo_put_21 ?_
  refine v_iald S hKK.1 13 0 (by decide) rfl rfl d_Mo_put_22 (fun h1 => ?_)
  refine v_iadd S d_Mo_put_23 ?_
  refine v_top (fun x2 ex2 => ?_)
  refine v_istore_nP S d_Mo_put_24 rfl (by decide) (L2 := [some (.ref (b + 0)), some (.int a0), some (.int a1), some (.int x2)]) rfl ?_
  refine v_aload_n S d_Mo_put_25 rfl rfl ?_
  refine v_get S (fun w h => List.mem_cons_of_mem _ (i_Mo w h)) hKK.1 0 (by decide) rfl rfl 21 (by decide) (S.2.2.2.2 _ (List.mem_cons_of_mem _ (wd_762))) (fun _ h => h) rfl d_Mo_put_26 ?_
  refine v_iload_n S d_Mo_put_29 rfl rfl ?_
  refine v_iload_n S d_Mo_put_30 rfl rfl ?_
  refine v_iast1 S hKK.1 15 0 (by decide) (fun _ => rfl) rfl d_Mo_put_31 (fun h3 => ?_)
  refine v_sg (fun σ4 eσ4 => ?_)
  refine v_aload_n S d_Mo_put_32 rfl rfl ?_
  refine v_get S (fun w h => List.mem_cons_of_mem _ (i_Mo w h)) hKK.1 0 (by decide) rfl rfl 20 (by decide) (S.2.2.2.2 _ (List.mem_cons_of_mem _ (wd_761))) (fun _ h => h) rfl d_Mo_put_33 ?_
  refine v_iload_n S d_Mo_put_36 rfl rfl ?_
  refine v_iload_n S d_Mo_put_37 rfl rfl ?_
  refine v_iast1 S hKK.1 14 0 (by decide) (fun _ => rfl) rfl d_Mo_put_38 (fun h5 => ?_)
  refine v_sg (fun σ6 eσ6 => ?_)
  refine v_aload_n S d_Mo_put_39 rfl rfl ?_
  refine v_get S (fun w h => List.mem_cons_of_mem _ (i_Mo w h)) hKK.1 0 (by decide) rfl rfl 19 (by decide) (S.2.2.2.2 _ (List.mem_cons_of_mem _ (wd_760))) (fun _ h => h) rfl d_Mo_put_40 ?_
  refine v_aload_n S d_Mo_put_43 rfl rfl ?_
  refine v_get S (fun w h => List.mem_cons_of_mem _ (i_Mo w h)) hKK.1 0 (by decide) rfl rfl 16 (by decide) (S.2.2.2.2 _ (List.mem_cons_of_mem _ (wd_757))) (fun _ h => h) rfl d_Mo_put_44 ?_
  refine v_iconst S d_Mo_put_47 (v := (1 : Int32)) (by decide) ?_
  refine v_isub S d_Mo_put_48 ?_
  refine v_dup2 S d_Mo_put_49 rfl rfl ?_
  refine v_iald S hKK.1 13 0 (by decide) rfl rfl d_Mo_put_50 (fun h7 => ?_)
  refine v_iconst S d_Mo_put_51 (v := (1 : Int32)) (by decide) ?_
  refine v_iadd S d_Mo_put_52 ?_
  refine v_iast1 S hKK.1 13 0 (by decide) (fun _ => rfl) rfl d_Mo_put_53 (fun h8 => ?_)
  refine v_sg (fun σ9 eσ9 => ?_)
  exact v_vret S hret hlocks d_Mo_put_54
def fn_Mo_lengthOf (σ : mm_M) (a0 : Int32) : Option (Int32 × mm_M) :=
    (if (16 : Int32) = 0 then none else
    (some (((a0 - (1 : Int32)) - (a0 - (1 : Int32)) / (16 : Int32) * (16 : Int32)), σ)))
set_option maxRecDepth 100000 in
set_option maxHeartbeats 40000000 in
theorem c_Mo_lengthOf (l : Launch) (D : va_G) (ca : Nat → ClassId) (ax : Nat → Nat → Nat) (b : Nat) (σ : mm_M) (a0 : Int32)  {r : Int32} {σ' : mm_M} (hf : fn_Mo_lengthOf σ a0 = some (r, σ')) : Met l y_Mo_lengthOf w_Mo_lengthOf rm_Mo_lengthOf (pc_w D cls b N_M (ce_M ca b) (kM D ca ax b) [.int a0] σ) (qc_i D cls b N_M (ce_M ca b) r σ') 0 0 (mm_A b N_M) := by
  refine vv_go (cc := b_Mo_lengthOf) (maxL := 1) (ret := (some .int)) (fin := (r, σ')) (k := fn_Mo_lengthOf σ a0) (by decide) rfl (by simp [Value.category]) (Nat.le_of_ble_eq_true rfl) hf ?_
  intro p e s m below meth c hlocks hret S hKK
  unfold fn_Mo_lengthOf
  refine v_iload_n S d_Mo_lengthOf_0 rfl rfl ?_
  refine v_iconst S d_Mo_lengthOf_1 (v := (1 : Int32)) (by decide) ?_
  refine v_isub S d_Mo_lengthOf_2 ?_
  refine v_bipush S d_Mo_lengthOf_3 (v := (16 : Int32)) (by decide) ?_
  refine v_irem S d_Mo_lengthOf_5 (fun h1 => ?_)
  exact v_iret S hret hlocks d_Mo_lengthOf_6
def fn_Mo_fitsValues_19 (a0 : Int32) : Nat → mm_M → Int32 → Int32 → Option (Int32 × mm_M)
  | 0, _, _, _ => none
  | n + 1, σ, l2, l3 =>
    (if ((6 : Int32) + (σ 0 11)) ≤ l3 then
    (if (l2 < 0 ∨ 8 ≤ l2.toNatClampNeg) then none else
    (bv (fn_Mo_tryOut σ (σ 11 l2.toNatClampNeg) a0) (fun σ6 =>
    (if (σ6 0 13) = 0 then
    (if (1 : Int32) = 0 ∨ (1 : Int32) = 1 then some ((1 : Int32), σ6) else none)
    else
    (if (0 : Int32) = 0 ∨ (0 : Int32) = 1 then some ((0 : Int32), σ6) else none)))))
    else
    (if ((((12 : Int32) * l2) + l3) < 0 ∨ 96 ≤ (((12 : Int32) * l2) + l3).toNatClampNeg) then none else
    (if (l3 < 0 ∨ 12 ≤ l3.toNatClampNeg) then none else (nm (mw σ 10 l3.toNatClampNeg (σ 15 (((12 : Int32) * l2) + l3).toNatClampNeg)) (fun σ10 =>
    (fn_Mo_fitsValues_19 a0 n σ10 l2 (l3 + (1 : Int32))))))))
def fn_Mo_fitsValues (σ : mm_M) (a0 : Int32) : Option (Int32 × mm_M) :=
    (nm ((σ 0 16) - (1 : Int32)) (fun x1 =>
    (if (x1 < 0 ∨ 8 ≤ x1.toNatClampNeg) then none else
    (nm (mw σ 0 11 (σ 13 x1.toNatClampNeg)) (fun σ3 =>
    (fn_Mo_fitsValues_19 a0 fuel0 σ3 x1 (0 : Int32)))))))
set_option maxRecDepth 100000 in
set_option maxHeartbeats 40000000 in
theorem c_Mo_fitsValues (l : Launch) (D : va_G) (ca : Nat → ClassId) (ax : Nat → Nat → Nat) (b : Nat) (σ : mm_M) (a0 : Int32)  {r : Int32} {σ' : mm_M} (hf : fn_Mo_fitsValues σ a0 = some (r, σ')) : Met l y_Mo_fitsValues w_Mo_fitsValues rm_Mo_fitsValues (pc_w D cls b N_M (ce_M ca b) (kM D ca ax b) [.ref (b + 0), .int a0] σ) (qc_i D cls b N_M (ce_M ca b) r σ') 0 0 (mm_A b N_M) := by
  refine vv_go (cc := b_Mo_fitsValues) (maxL := 4) (ret := (some .boolean)) (fin := (r, σ')) (k := fn_Mo_fitsValues σ a0) (by decide) rfl (by simp [Value.category]) (Nat.le_of_ble_eq_true rfl) hf ?_
  intro p e s m below meth c hlocks hret S hKK
  have C19 : ∀ (n : Nat) (σ : mm_M) (l2 : Int32) (l3 : Int32), vv p l e (headSpec w_Mo_fitsValues rm_Mo_fitsValues).room s m [.ref (b + 0), .int a0].toArray below meth c D cls b N_M (ce_M ca b) 4 (MQ below (qc_i D cls b N_M (ce_M ca b) r σ') [.ref (b + 0), .int a0].toArray s 0 0 (mm_A b N_M)) (r, σ') (fn_Mo_fitsValues_19 a0 n σ l2 l3) σ 19 [some (.ref (b + 0)), some (.int a0), some (.int l2), some (.int l3)] [] := by
    intro n
    induction n with
    | zero => intro σ l2 l3  h; cases h
    | succ n ih =>
      intro σ l2 l3
      show vv p l e (headSpec w_Mo_fitsValues rm_Mo_fitsValues).room s m [.ref (b + 0), .int a0].toArray below meth c D cls b N_M (ce_M ca b) 4 (MQ below (qc_i D cls b N_M (ce_M ca b) r σ') [.ref (b + 0), .int a0].toArray s 0 0 (mm_A b N_M)) (r, σ') (        (if ((6 : Int32) + (σ 0 11)) ≤ l3 then
        (if (l2 < 0 ∨ 8 ≤ l2.toNatClampNeg) then none else
        (bv (fn_Mo_tryOut σ (σ 11 l2.toNatClampNeg) a0) (fun σ6 =>
        (if (σ6 0 13) = 0 then
        (if (1 : Int32) = 0 ∨ (1 : Int32) = 1 then some ((1 : Int32), σ6) else none)
        else
        (if (0 : Int32) = 0 ∨ (0 : Int32) = 1 then some ((0 : Int32), σ6) else none)))))
        else
        (if ((((12 : Int32) * l2) + l3) < 0 ∨ 96 ≤ (((12 : Int32) * l2) + l3).toNatClampNeg) then none else
        (if (l3 < 0 ∨ 12 ≤ l3.toNatClampNeg) then none else (nm (mw σ 10 l3.toNatClampNeg (σ 15 (((12 : Int32) * l2) + l3).toNatClampNeg)) (fun σ10 =>
        (fn_Mo_fitsValues_19 a0 n σ10 l2 (l3 + (1 : Int32))))))))) σ 19 [some (.ref (b + 0)), some (.int a0), some (.int l2), some (.int l3)] []
      refine v_iload_n S d_Mo_fitsValues_19 rfl rfl ?_
      refine v_bipush S d_Mo_fitsValues_20 (v := (6 : Int32)) (by decide) ?_
      refine v_aload_n S d_Mo_fitsValues_22 rfl rfl ?_
      refine v_get S (fun w h => List.mem_cons_of_mem _ (i_Mo w h)) hKK.1 0 (by decide) rfl rfl 11 (by decide) (S.2.2.2.2 _ (List.mem_cons_of_mem _ (wd_752))) (fun _ h => h) rfl d_Mo_fitsValues_23 ?_
      refine v_iadd S d_Mo_fitsValues_26 ?_
      refine v_icmp_ge S d_Mo_fitsValues_27 (tgt := 53) (by decide) (fun h4 => ?_) (fun h4 => ?_)
      · refine v_aload_n S d_Mo_fitsValues_53 rfl rfl ?_
        refine v_aload_n S d_Mo_fitsValues_54 rfl rfl ?_
        refine v_get S (fun w h => List.mem_cons_of_mem _ (i_Mo w h)) hKK.1 0 (by decide) rfl rfl 17 (by decide) (S.2.2.2.2 _ (List.mem_cons_of_mem _ (wd_758))) (fun _ h => h) rfl d_Mo_fitsValues_55 ?_
        refine v_iload_n S d_Mo_fitsValues_58 rfl rfl ?_
        refine v_iald S hKK.1 11 0 (by decide) rfl rfl d_Mo_fitsValues_59 (fun h5 => ?_)
        refine v_iload_n S d_Mo_fitsValues_60 rfl rfl ?_
        refine v_cv (rest := []) (fun _ hg H locs ls hsz hP hS => run_V (As := [.int (σ 11 l2.toNatClampNeg), .int a0]) (rest := []) S kM_ok hKK (c_Mo_tryOut l D ca ax b σ (σ 11 l2.toNatClampNeg) a0 hg) (k_Mo_117 S.2.2.2.2 (fun _ => List.mem_cons_of_mem _) ⟨Nat.le_of_ble_eq_true rfl, Nat.le_of_ble_eq_true rfl⟩) (rc_w hKK.1 hP 0 (by decide) rfl rfl) rfl rfl (Nat.zero_le _) d_Mo_fitsValues_61 hsz hP hS) (fun σ6 _ => ?_)
        refine v_aload_n S d_Mo_fitsValues_64 rfl rfl ?_
        refine v_get S (fun w h => List.mem_cons_of_mem _ (i_Mo w h)) hKK.1 0 (by decide) rfl rfl 13 (by decide) (S.2.2.2.2 _ (List.mem_cons_of_mem _ (wd_754))) (fun _ h => h) rfl d_Mo_fitsValues_65 ?_
        refine v_if_ne S d_Mo_fitsValues_68 (tgt := 75) (by decide) (fun h7 => ?_) (fun h7 => ?_)
        · refine v_iconst S d_Mo_fitsValues_75 (v := (0 : Int32)) (by decide) ?_
          exact v_zret S hret hlocks d_Mo_fitsValues_76
        · refine v_iconst S d_Mo_fitsValues_71 (v := (1 : Int32)) (by decide) ?_
          refine v_goto S d_Mo_fitsValues_72 (tgt := 76) (by decide) ?_
          exact v_zret S hret hlocks d_Mo_fitsValues_76
      · refine v_aload_n S d_Mo_fitsValues_30 rfl rfl ?_
        refine v_get S (fun w h => List.mem_cons_of_mem _ (i_Mo w h)) hKK.1 0 (by decide) rfl rfl 12 (by decide) (S.2.2.2.2 _ (List.mem_cons_of_mem _ (wd_753))) (fun _ h => h) rfl d_Mo_fitsValues_31 ?_
        refine v_iload_n S d_Mo_fitsValues_34 rfl rfl ?_
        refine v_aload_n S d_Mo_fitsValues_35 rfl rfl ?_
        refine v_get S (fun w h => List.mem_cons_of_mem _ (i_Mo w h)) hKK.1 0 (by decide) rfl rfl 21 (by decide) (S.2.2.2.2 _ (List.mem_cons_of_mem _ (wd_762))) (fun _ h => h) rfl d_Mo_fitsValues_36 ?_
        refine v_bipush S d_Mo_fitsValues_39 (v := (12 : Int32)) (by decide) ?_
        refine v_iload_n S d_Mo_fitsValues_41 rfl rfl ?_
        refine v_imul S d_Mo_fitsValues_42 ?_
        refine v_iload_n S d_Mo_fitsValues_43 rfl rfl ?_
        refine v_iadd S d_Mo_fitsValues_44 ?_
        refine v_iald S hKK.1 15 0 (by decide) rfl rfl d_Mo_fitsValues_45 (fun h8 => ?_)
        refine v_iast1 S hKK.1 10 0 (by decide) (fun _ => rfl) rfl d_Mo_fitsValues_46 (fun h9 => ?_)
        refine v_sg (fun σ10 eσ10 => ?_)
        refine v_iinc S d_Mo_fitsValues_47 rfl (v := (l3 + (1 : Int32))) (by first | rfl | decide) (by decide) (L2 := [some (.ref (b + 0)), some (.int a0), some (.int l2), some (.int (l3 + (1 : Int32)))]) rfl ?_
        refine v_goto S d_Mo_fitsValues_50 (tgt := 19) (by decide) ?_
        refine v_sub (L2 := [some (.ref (b + 0)), some (.int a0), some (.int l2), some (.int (l3 + (1 : Int32)))]) (And.intro rfl (And.intro rfl (And.intro rfl (And.intro rfl True.intro)))) ?_
        exact ih σ10 l2 (l3 + (1 : Int32))
  unfold fn_Mo_fitsValues
  refine v_aload_n S d_Mo_fitsValues_0 rfl rfl ?_
  refine v_get S (fun w h => List.mem_cons_of_mem _ (i_Mo w h)) hKK.1 0 (by decide) rfl rfl 16 (by decide) (S.2.2.2.2 _ (List.mem_cons_of_mem _ (wd_757))) (fun _ h => h) rfl d_Mo_fitsValues_1 ?_
  refine v_iconst S d_Mo_fitsValues_4 (v := (1 : Int32)) (by decide) ?_
  refine v_isub S d_Mo_fitsValues_5 ?_
  refine v_top (fun x1 ex1 => ?_)
  refine v_istore_nP S d_Mo_fitsValues_6 rfl (by decide) (L2 := [some (.ref (b + 0)), some (.int a0), some (.int x1)]) rfl ?_
  refine v_aload_n S d_Mo_fitsValues_7 rfl rfl ?_
  refine v_aload_n S d_Mo_fitsValues_8 rfl rfl ?_
  refine v_get S (fun w h => List.mem_cons_of_mem _ (i_Mo w h)) hKK.1 0 (by decide) rfl rfl 19 (by decide) (S.2.2.2.2 _ (List.mem_cons_of_mem _ (wd_760))) (fun _ h => h) rfl d_Mo_fitsValues_9 ?_
  refine v_iload_n S d_Mo_fitsValues_12 rfl rfl ?_
  refine v_iald S hKK.1 13 0 (by decide) rfl rfl d_Mo_fitsValues_13 (fun h2 => ?_)
  refine v_puti S (fun w h => List.mem_cons_of_mem _ (i_Mo w h)) hKK.1 0 (by decide) rfl rfl 11 (by decide) (S.2.2.2.2 _ (List.mem_cons_of_mem _ (wd_752))) (fun _ h => h) t_Mo t_Mo_ok n_Mo rfl (ty := .int) rfl rfl rfl (Nat.le_of_ble_eq_true rfl) rfl d_Mo_fitsValues_14 ?_
  refine v_sg (fun σ3 eσ3 => ?_)
  refine v_iconst S d_Mo_fitsValues_17 (v := (0 : Int32)) (by decide) ?_
  refine v_istore_nP S d_Mo_fitsValues_18 rfl (by decide) (L2 := [some (.ref (b + 0)), some (.int a0), some (.int x1), some (.int (0 : Int32))]) rfl ?_
  refine v_sub (L2 := [some (.ref (b + 0)), some (.int a0), some (.int x1), some (.int (0 : Int32))]) (And.intro rfl (And.intro rfl (And.intro rfl (And.intro rfl True.intro)))) ?_
  exact C19 fuel0 σ3 x1 (0 : Int32)
def fn_Mo_trapAt (σ : mm_M) (a0 : Int32) (a1 : Int32) : Option (Int32 × mm_M) :=
    (if a0 = 0 then
    (some ((3 : Int32), σ))
    else
    (if a1 < 0 then
    (some ((4 : Int32), σ))
    else
    (bd (fn_Mo_lengthOf σ a0) (fun r4 σ3 =>
    (if a1 < r4 then
    (some ((0 : Int32), σ3))
    else
    (some ((4 : Int32), σ3)))))))
set_option maxRecDepth 100000 in
set_option maxHeartbeats 40000000 in
theorem c_Mo_trapAt (l : Launch) (D : va_G) (ca : Nat → ClassId) (ax : Nat → Nat → Nat) (b : Nat) (σ : mm_M) (a0 : Int32) (a1 : Int32)  {r : Int32} {σ' : mm_M} (hf : fn_Mo_trapAt σ a0 a1 = some (r, σ')) : Met l y_Mo_trapAt w_Mo_trapAt rm_Mo_trapAt (pc_w D cls b N_M (ce_M ca b) (kM D ca ax b) [.int a0, .int a1] σ) (qc_i D cls b N_M (ce_M ca b) r σ') 0 0 (mm_A b N_M) := by
  refine vv_go (cc := b_Mo_trapAt) (maxL := 2) (ret := (some .int)) (fin := (r, σ')) (k := fn_Mo_trapAt σ a0 a1) (by decide) rfl (by simp [Value.category]) (Nat.le_of_ble_eq_true rfl) hf ?_
  intro p e s m below meth c hlocks hret S hKK
  unfold fn_Mo_trapAt
  refine v_iload_n S d_Mo_trapAt_0 rfl rfl ?_
  refine v_if_ne S d_Mo_trapAt_1 (tgt := 8) (by decide) (fun h1 => ?_) (fun h1 => ?_)
  · refine v_iload_n S d_Mo_trapAt_8 rfl rfl ?_
    refine v_if_lt S d_Mo_trapAt_9 (tgt := 20) (by decide) (fun h2 => ?_) (fun h2 => ?_)
    · refine v_iconst S d_Mo_trapAt_20 (v := (4 : Int32)) (by decide) ?_
      refine v_goto S d_Mo_trapAt_21 (tgt := 25) (by decide) ?_
      exact v_iret S hret hlocks d_Mo_trapAt_25
    · refine v_iload_n S d_Mo_trapAt_12 rfl rfl ?_
      refine v_iload_n S d_Mo_trapAt_13 rfl rfl ?_
      refine v_ci (rest := [.int a1]) (fun _ _ hg H locs ls hsz hP hS => run_S (As := [.int a0]) (rest := [.int a1]) S kM_ok hKK (c_Mo_lengthOf l D ca ax b σ a0 hg) (k_Mo_145 S.2.2.2.2 (fun _ => List.mem_cons_of_mem _) ⟨Nat.le_of_ble_eq_true rfl, Nat.le_of_ble_eq_true rfl⟩) rfl rfl (by simp [Value.category]) d_Mo_trapAt_14 hsz hP hS) (fun r4 σ3 _ => ?_)
      refine v_icmp_lt S d_Mo_trapAt_17 (tgt := 24) (by decide) (fun h5 => ?_) (fun h5 => ?_)
      · refine v_iconst S d_Mo_trapAt_24 (v := (0 : Int32)) (by decide) ?_
        exact v_iret S hret hlocks d_Mo_trapAt_25
      · refine v_iconst S d_Mo_trapAt_20 (v := (4 : Int32)) (by decide) ?_
        refine v_goto S d_Mo_trapAt_21 (tgt := 25) (by decide) ?_
        exact v_iret S hret hlocks d_Mo_trapAt_25
  · refine v_iconst S d_Mo_trapAt_4 (v := (3 : Int32)) (by decide) ?_
    refine v_goto S d_Mo_trapAt_5 (tgt := 25) (by decide) ?_
    exact v_iret S hret hlocks d_Mo_trapAt_25
def fn_Mo_trapOf (σ : mm_M) (a0 : Int32) (a1 : Int32) : Option (Int32 × mm_M) :=
    (if a0 = (4 : Int32) then
    (bd (fn_Mo_below σ (0 : Int32)) (fun r3 σ2 =>
    (if r3 = 0 then
    (some ((2 : Int32), σ2))
    else
    (some ((0 : Int32), σ2)))))
    else
    (if a0 = (11 : Int32) then
    (bd (fn_Mo_below σ (0 : Int32)) (fun r7 σ6 =>
    (if r7 < 0 then
    (some ((5 : Int32), σ6))
    else
    (bd (fn_Mo_below σ6 (0 : Int32)) (fun r10 σ9 =>
    (if (12 : Int32) < r10 then
    (some ((5 : Int32), σ9))
    else
    (bd (fn_Mo_below σ9 (0 : Int32)) (fun r13 σ12 =>
    (if ((σ9 0 22) + r13) ≤ (30 : Int32) then
    (some ((0 : Int32), σ12))
    else
    (some ((5 : Int32), σ12)))))))))))
    else
    (if a0 = (12 : Int32) then
    (bd (fn_Mo_below σ (1 : Int32)) (fun r17 σ16 =>
    (bd (fn_Mo_below σ16 (0 : Int32)) (fun r19 σ18 =>
    (bd (fn_Mo_trapAt σ18 r17 r19) (fun r21 σ20 =>
    (some (r21, σ20))))))))
    else
    (if a0 = (13 : Int32) then
    (bd (fn_Mo_below σ (2 : Int32)) (fun r24 σ23 =>
    (bd (fn_Mo_below σ23 (1 : Int32)) (fun r26 σ25 =>
    (bd (fn_Mo_trapAt σ25 r24 r26) (fun r28 σ27 =>
    (some (r28, σ27))))))))
    else
    (if a0 = (14 : Int32) then
    (bd (fn_Mo_below σ (0 : Int32)) (fun r31 σ30 =>
    (if r31 = 0 then
    (some ((3 : Int32), σ30))
    else
    (some ((0 : Int32), σ30)))))
    else
    (if a0 = (18 : Int32) then
    (if (σ 0 16) = (8 : Int32) then
    (some ((5 : Int32), σ))
    else
    (some ((0 : Int32), σ)))
    else
    (some ((0 : Int32), σ))))))))
set_option maxRecDepth 100000 in
set_option maxHeartbeats 40000000 in
theorem c_Mo_trapOf (l : Launch) (D : va_G) (ca : Nat → ClassId) (ax : Nat → Nat → Nat) (b : Nat) (σ : mm_M) (a0 : Int32) (a1 : Int32)  {r : Int32} {σ' : mm_M} (hf : fn_Mo_trapOf σ a0 a1 = some (r, σ')) : Met l y_Mo_trapOf w_Mo_trapOf rm_Mo_trapOf (pc_w D cls b N_M (ce_M ca b) (kM D ca ax b) [.ref (b + 0), .int a0, .int a1] σ) (qc_i D cls b N_M (ce_M ca b) r σ') 0 0 (mm_A b N_M) := by
  refine vv_go (cc := b_Mo_trapOf) (maxL := 3) (ret := (some .int)) (fin := (r, σ')) (k := fn_Mo_trapOf σ a0 a1) (by decide) rfl (by simp [Value.category]) (Nat.le_of_ble_eq_true rfl) hf ?_
  intro p e s m below meth c hlocks hret S hKK
  unfold fn_Mo_trapOf
  refine v_iload_n S d_Mo_trapOf_0 rfl rfl ?_
  refine v_tsw S (4 : Int32) (tgt := 76) d_Mo_trapOf_1 (by decide) (by decide) (off := 75) rfl (by decide) (fun h1 => ?_) (fun h1 => ?_)
  · refine v_aload_n S d_Mo_trapOf_76 rfl rfl ?_
    refine v_iconst S d_Mo_trapOf_77 (v := (0 : Int32)) (by decide) ?_
    refine v_ci (rest := []) (fun _ _ hg H locs ls hsz hP hS => run_V (As := [.int (0 : Int32)]) (rest := []) S kM_ok hKK (c_Mo_below l D ca ax b σ (0 : Int32) hg) (k_Mo_139 S.2.2.2.2 (fun _ => List.mem_cons_of_mem _) ⟨Nat.le_of_ble_eq_true rfl, Nat.le_of_ble_eq_true rfl⟩) (rc_w hKK.1 hP 0 (by decide) rfl rfl) rfl rfl (Nat.zero_le _) d_Mo_trapOf_78 hsz hP hS) (fun r3 σ2 _ => ?_)
    refine v_if_ne S d_Mo_trapOf_81 (tgt := 88) (by decide) (fun h4 => ?_) (fun h4 => ?_)
    · refine v_iconst S d_Mo_trapOf_88 (v := (0 : Int32)) (by decide) ?_
      exact v_iret S hret hlocks d_Mo_trapOf_89
    · refine v_iconst S d_Mo_trapOf_84 (v := (2 : Int32)) (by decide) ?_
      refine v_goto S d_Mo_trapOf_85 (tgt := 89) (by decide) ?_
      exact v_iret S hret hlocks d_Mo_trapOf_89
  · refine v_tsw S (11 : Int32) (tgt := 90) d_Mo_trapOf_1 (by decide) (by decide) (off := 89) rfl (by decide) (fun h5 => ?_) (fun h5 => ?_)
    · refine v_aload_n S d_Mo_trapOf_90 rfl rfl ?_
      refine v_iconst S d_Mo_trapOf_91 (v := (0 : Int32)) (by decide) ?_
      refine v_ci (rest := []) (fun _ _ hg H locs ls hsz hP hS => run_V (As := [.int (0 : Int32)]) (rest := []) S kM_ok hKK (c_Mo_below l D ca ax b σ (0 : Int32) hg) (k_Mo_139 S.2.2.2.2 (fun _ => List.mem_cons_of_mem _) ⟨Nat.le_of_ble_eq_true rfl, Nat.le_of_ble_eq_true rfl⟩) (rc_w hKK.1 hP 0 (by decide) rfl rfl) rfl rfl (Nat.zero_le _) d_Mo_trapOf_92 hsz hP hS) (fun r7 σ6 _ => ?_)
      refine v_if_lt S d_Mo_trapOf_95 (tgt := 123) (by decide) (fun h8 => ?_) (fun h8 => ?_)
      · refine v_iconst S d_Mo_trapOf_123 (v := (5 : Int32)) (by decide) ?_
        refine v_goto S d_Mo_trapOf_124 (tgt := 128) (by decide) ?_
        exact v_iret S hret hlocks d_Mo_trapOf_128
      · refine v_aload_n S d_Mo_trapOf_98 rfl rfl ?_
        refine v_iconst S d_Mo_trapOf_99 (v := (0 : Int32)) (by decide) ?_
        refine v_ci (rest := []) (fun _ _ hg H locs ls hsz hP hS => run_V (As := [.int (0 : Int32)]) (rest := []) S kM_ok hKK (c_Mo_below l D ca ax b σ6 (0 : Int32) hg) (k_Mo_139 S.2.2.2.2 (fun _ => List.mem_cons_of_mem _) ⟨Nat.le_of_ble_eq_true rfl, Nat.le_of_ble_eq_true rfl⟩) (rc_w hKK.1 hP 0 (by decide) rfl rfl) rfl rfl (Nat.zero_le _) d_Mo_trapOf_100 hsz hP hS) (fun r10 σ9 _ => ?_)
        refine v_bipush S d_Mo_trapOf_103 (v := (12 : Int32)) (by decide) ?_
        refine v_icmp_gt S d_Mo_trapOf_105 (tgt := 123) (by decide) (fun h11 => ?_) (fun h11 => ?_)
        · refine v_iconst S d_Mo_trapOf_123 (v := (5 : Int32)) (by decide) ?_
          refine v_goto S d_Mo_trapOf_124 (tgt := 128) (by decide) ?_
          exact v_iret S hret hlocks d_Mo_trapOf_128
        · refine v_aload_n S d_Mo_trapOf_108 rfl rfl ?_
          refine v_get S (fun w h => List.mem_cons_of_mem _ (i_Mo w h)) hKK.1 0 (by decide) rfl rfl 22 (by decide) (S.2.2.2.2 _ (List.mem_cons_of_mem _ (wd_763))) (fun _ h => h) rfl d_Mo_trapOf_109 ?_
          refine v_aload_n S d_Mo_trapOf_112 rfl rfl ?_
          refine v_iconst S d_Mo_trapOf_113 (v := (0 : Int32)) (by decide) ?_
          refine v_ci (rest := [.int (σ9 0 22)]) (fun _ _ hg H locs ls hsz hP hS => run_V (As := [.int (0 : Int32)]) (rest := [.int (σ9 0 22)]) S kM_ok hKK (c_Mo_below l D ca ax b σ9 (0 : Int32) hg) (k_Mo_139 S.2.2.2.2 (fun _ => List.mem_cons_of_mem _) ⟨Nat.le_of_ble_eq_true rfl, Nat.le_of_ble_eq_true rfl⟩) (rc_w hKK.1 hP 0 (by decide) rfl rfl) rfl rfl (by simp [Value.category]) d_Mo_trapOf_114 hsz hP hS) (fun r13 σ12 _ => ?_)
          refine v_iadd S d_Mo_trapOf_117 ?_
          refine v_bipush S d_Mo_trapOf_118 (v := (30 : Int32)) (by decide) ?_
          refine v_icmp_le S d_Mo_trapOf_120 (tgt := 127) (by decide) (fun h14 => ?_) (fun h14 => ?_)
          · refine v_iconst S d_Mo_trapOf_127 (v := (0 : Int32)) (by decide) ?_
            exact v_iret S hret hlocks d_Mo_trapOf_128
          · refine v_iconst S d_Mo_trapOf_123 (v := (5 : Int32)) (by decide) ?_
            refine v_goto S d_Mo_trapOf_124 (tgt := 128) (by decide) ?_
            exact v_iret S hret hlocks d_Mo_trapOf_128
    · refine v_tsw S (12 : Int32) (tgt := 129) d_Mo_trapOf_1 (by decide) (by decide) (off := 128) rfl (by decide) (fun h15 => ?_) (fun h15 => ?_)
      · refine v_aload_n S d_Mo_trapOf_129 rfl rfl ?_
        refine v_iconst S d_Mo_trapOf_130 (v := (1 : Int32)) (by decide) ?_
        refine v_ci (rest := []) (fun _ _ hg H locs ls hsz hP hS => run_V (As := [.int (1 : Int32)]) (rest := []) S kM_ok hKK (c_Mo_below l D ca ax b σ (1 : Int32) hg) (k_Mo_139 S.2.2.2.2 (fun _ => List.mem_cons_of_mem _) ⟨Nat.le_of_ble_eq_true rfl, Nat.le_of_ble_eq_true rfl⟩) (rc_w hKK.1 hP 0 (by decide) rfl rfl) rfl rfl (Nat.zero_le _) d_Mo_trapOf_131 hsz hP hS) (fun r17 σ16 _ => ?_)
        refine v_aload_n S d_Mo_trapOf_134 rfl rfl ?_
        refine v_iconst S d_Mo_trapOf_135 (v := (0 : Int32)) (by decide) ?_
        refine v_ci (rest := [.int r17]) (fun _ _ hg H locs ls hsz hP hS => run_V (As := [.int (0 : Int32)]) (rest := [.int r17]) S kM_ok hKK (c_Mo_below l D ca ax b σ16 (0 : Int32) hg) (k_Mo_139 S.2.2.2.2 (fun _ => List.mem_cons_of_mem _) ⟨Nat.le_of_ble_eq_true rfl, Nat.le_of_ble_eq_true rfl⟩) (rc_w hKK.1 hP 0 (by decide) rfl rfl) rfl rfl (by simp [Value.category]) d_Mo_trapOf_136 hsz hP hS) (fun r19 σ18 _ => ?_)
        refine v_ci (rest := []) (fun _ _ hg H locs ls hsz hP hS => run_S (As := [.int r17, .int r19]) (rest := []) S kM_ok hKK (c_Mo_trapAt l D ca ax b σ18 r17 r19 hg) (k_Mo_142 S.2.2.2.2 (fun _ => List.mem_cons_of_mem _) ⟨Nat.le_of_ble_eq_true rfl, Nat.le_of_ble_eq_true rfl⟩) rfl rfl (Nat.zero_le _) d_Mo_trapOf_139 hsz hP hS) (fun r21 σ20 _ => ?_)
        exact v_iret S hret hlocks d_Mo_trapOf_142
      · refine v_tsw S (13 : Int32) (tgt := 143) d_Mo_trapOf_1 (by decide) (by decide) (off := 142) rfl (by decide) (fun h22 => ?_) (fun h22 => ?_)
        · refine v_aload_n S d_Mo_trapOf_143 rfl rfl ?_
          refine v_iconst S d_Mo_trapOf_144 (v := (2 : Int32)) (by decide) ?_
          refine v_ci (rest := []) (fun _ _ hg H locs ls hsz hP hS => run_V (As := [.int (2 : Int32)]) (rest := []) S kM_ok hKK (c_Mo_below l D ca ax b σ (2 : Int32) hg) (k_Mo_139 S.2.2.2.2 (fun _ => List.mem_cons_of_mem _) ⟨Nat.le_of_ble_eq_true rfl, Nat.le_of_ble_eq_true rfl⟩) (rc_w hKK.1 hP 0 (by decide) rfl rfl) rfl rfl (Nat.zero_le _) d_Mo_trapOf_145 hsz hP hS) (fun r24 σ23 _ => ?_)
          refine v_aload_n S d_Mo_trapOf_148 rfl rfl ?_
          refine v_iconst S d_Mo_trapOf_149 (v := (1 : Int32)) (by decide) ?_
          refine v_ci (rest := [.int r24]) (fun _ _ hg H locs ls hsz hP hS => run_V (As := [.int (1 : Int32)]) (rest := [.int r24]) S kM_ok hKK (c_Mo_below l D ca ax b σ23 (1 : Int32) hg) (k_Mo_139 S.2.2.2.2 (fun _ => List.mem_cons_of_mem _) ⟨Nat.le_of_ble_eq_true rfl, Nat.le_of_ble_eq_true rfl⟩) (rc_w hKK.1 hP 0 (by decide) rfl rfl) rfl rfl (by simp [Value.category]) d_Mo_trapOf_150 hsz hP hS) (fun r26 σ25 _ => ?_)
          refine v_ci (rest := []) (fun _ _ hg H locs ls hsz hP hS => run_S (As := [.int r24, .int r26]) (rest := []) S kM_ok hKK (c_Mo_trapAt l D ca ax b σ25 r24 r26 hg) (k_Mo_142 S.2.2.2.2 (fun _ => List.mem_cons_of_mem _) ⟨Nat.le_of_ble_eq_true rfl, Nat.le_of_ble_eq_true rfl⟩) rfl rfl (Nat.zero_le _) d_Mo_trapOf_153 hsz hP hS) (fun r28 σ27 _ => ?_)
          exact v_iret S hret hlocks d_Mo_trapOf_156
        · refine v_tsw S (14 : Int32) (tgt := 157) d_Mo_trapOf_1 (by decide) (by decide) (off := 156) rfl (by decide) (fun h29 => ?_) (fun h29 => ?_)
          · refine v_aload_n S d_Mo_trapOf_157 rfl rfl ?_
            refine v_iconst S d_Mo_trapOf_158 (v := (0 : Int32)) (by decide) ?_
            refine v_ci (rest := []) (fun _ _ hg H locs ls hsz hP hS => run_V (As := [.int (0 : Int32)]) (rest := []) S kM_ok hKK (c_Mo_below l D ca ax b σ (0 : Int32) hg) (k_Mo_139 S.2.2.2.2 (fun _ => List.mem_cons_of_mem _) ⟨Nat.le_of_ble_eq_true rfl, Nat.le_of_ble_eq_true rfl⟩) (rc_w hKK.1 hP 0 (by decide) rfl rfl) rfl rfl (Nat.zero_le _) d_Mo_trapOf_159 hsz hP hS) (fun r31 σ30 _ => ?_)
            refine v_if_ne S d_Mo_trapOf_162 (tgt := 169) (by decide) (fun h32 => ?_) (fun h32 => ?_)
            · refine v_iconst S d_Mo_trapOf_169 (v := (0 : Int32)) (by decide) ?_
              exact v_iret S hret hlocks d_Mo_trapOf_170
            · refine v_iconst S d_Mo_trapOf_165 (v := (3 : Int32)) (by decide) ?_
              refine v_goto S d_Mo_trapOf_166 (tgt := 170) (by decide) ?_
              exact v_iret S hret hlocks d_Mo_trapOf_170
          · refine v_tsw S (18 : Int32) (tgt := 171) d_Mo_trapOf_1 (by decide) (by decide) (off := 170) rfl (by decide) (fun h33 => ?_) (fun h33 => ?_)
            · refine v_aload_n S d_Mo_trapOf_171 rfl rfl ?_
              refine v_get S (fun w h => List.mem_cons_of_mem _ (i_Mo w h)) hKK.1 0 (by decide) rfl rfl 16 (by decide) (S.2.2.2.2 _ (List.mem_cons_of_mem _ (wd_757))) (fun _ h => h) rfl d_Mo_trapOf_172 ?_
              refine v_bipush S d_Mo_trapOf_175 (v := (8 : Int32)) (by decide) ?_
              refine v_icmp_ne S d_Mo_trapOf_177 (tgt := 184) (by decide) (fun h34 => ?_) (fun h34 => ?_)
              · refine v_iconst S d_Mo_trapOf_184 (v := (0 : Int32)) (by decide) ?_
                exact v_iret S hret hlocks d_Mo_trapOf_185
              · refine v_iconst S d_Mo_trapOf_180 (v := (5 : Int32)) (by decide) ?_
                refine v_goto S d_Mo_trapOf_181 (tgt := 185) (by decide) ?_
                exact v_iret S hret hlocks d_Mo_trapOf_185
            · refine v_tswQ S (5 : Int32) (tgt := 186) d_Mo_trapOf_1 (by decide) (by decide) (off := 185) rfl (by decide) ?_ (fun h35 => ?_)
              · refine v_iconst S d_Mo_trapOf_186 (v := (0 : Int32)) (by decide) ?_
                exact v_iret S hret hlocks d_Mo_trapOf_187
              · refine v_tswQ S (6 : Int32) (tgt := 186) d_Mo_trapOf_1 (by decide) (by decide) (off := 185) rfl (by decide) ?_ (fun h36 => ?_)
                · refine v_iconst S d_Mo_trapOf_186 (v := (0 : Int32)) (by decide) ?_
                  exact v_iret S hret hlocks d_Mo_trapOf_187
                · refine v_tswQ S (7 : Int32) (tgt := 186) d_Mo_trapOf_1 (by decide) (by decide) (off := 185) rfl (by decide) ?_ (fun h37 => ?_)
                  · refine v_iconst S d_Mo_trapOf_186 (v := (0 : Int32)) (by decide) ?_
                    exact v_iret S hret hlocks d_Mo_trapOf_187
                  · refine v_tswQ S (8 : Int32) (tgt := 186) d_Mo_trapOf_1 (by decide) (by decide) (off := 185) rfl (by decide) ?_ (fun h38 => ?_)
                    · refine v_iconst S d_Mo_trapOf_186 (v := (0 : Int32)) (by decide) ?_
                      exact v_iret S hret hlocks d_Mo_trapOf_187
                    · refine v_tswQ S (9 : Int32) (tgt := 186) d_Mo_trapOf_1 (by decide) (by decide) (off := 185) rfl (by decide) ?_ (fun h39 => ?_)
                      · refine v_iconst S d_Mo_trapOf_186 (v := (0 : Int32)) (by decide) ?_
                        exact v_iret S hret hlocks d_Mo_trapOf_187
                      · refine v_tswQ S (10 : Int32) (tgt := 186) d_Mo_trapOf_1 (by decide) (by decide) (off := 185) rfl (by decide) ?_ (fun h40 => ?_)
                        · refine v_iconst S d_Mo_trapOf_186 (v := (0 : Int32)) (by decide) ?_
                          exact v_iret S hret hlocks d_Mo_trapOf_187
                        · refine v_tswQ S (15 : Int32) (tgt := 186) d_Mo_trapOf_1 (by decide) (by decide) (off := 185) rfl (by decide) ?_ (fun h41 => ?_)
                          · refine v_iconst S d_Mo_trapOf_186 (v := (0 : Int32)) (by decide) ?_
                            exact v_iret S hret hlocks d_Mo_trapOf_187
                          · refine v_tswQ S (16 : Int32) (tgt := 186) d_Mo_trapOf_1 (by decide) (by decide) (off := 185) rfl (by decide) ?_ (fun h42 => ?_)
                            · refine v_iconst S d_Mo_trapOf_186 (v := (0 : Int32)) (by decide) ?_
                              exact v_iret S hret hlocks d_Mo_trapOf_187
                            · refine v_tswQ S (17 : Int32) (tgt := 186) d_Mo_trapOf_1 (by decide) (by decide) (off := 185) rfl (by decide) ?_ (fun h43 => ?_)
                              · refine v_iconst S d_Mo_trapOf_186 (v := (0 : Int32)) (by decide) ?_
                                exact v_iret S hret hlocks d_Mo_trapOf_187
                              · refine v_tswD S (tgt := 186) d_Mo_trapOf_1 (by have nh1 := i32_ne (n := 4) h1 (by decide); have nh5 := i32_ne (n := 11) h5 (by decide); have nh15 := i32_ne (n := 12) h15 (by decide); have nh22 := i32_ne (n := 13) h22 (by decide); have nh29 := i32_ne (n := 14) h29 (by decide); have nh33 := i32_ne (n := 18) h33 (by decide); have nh35 := i32_ne (n := 5) h35 (by decide); have nh36 := i32_ne (n := 6) h36 (by decide); have nh37 := i32_ne (n := 7) h37 (by decide); have nh38 := i32_ne (n := 8) h38 (by decide); have nh39 := i32_ne (n := 9) h39 (by decide); have nh40 := i32_ne (n := 10) h40 (by decide); have nh41 := i32_ne (n := 15) h41 (by decide); have nh42 := i32_ne (n := 16) h42 (by decide); have nh43 := i32_ne (n := 17) h43 (by decide); omega) (by decide) ?_
                                refine v_iconst S d_Mo_trapOf_186 (v := (0 : Int32)) (by decide) ?_
                                exact v_iret S hret hlocks d_Mo_trapOf_187
def fn_Mo_calculate (σ : mm_M) (a0 : Int32) : Option (mm_M) :=
    (bd (fn_Mo_below σ (0 : Int32)) (fun r2 σ1 =>
    (bd (fn_Mo_below σ1 (1 : Int32)) (fun r4 σ3 =>
    (bv (fn_Mo_drop σ3 (2 : Int32)) (fun σ5 =>
    (if a0 = (1 : Int32) then
    (bv (fn_Mo_put σ5 (1 : Int32) (r4 + r2)) (fun σ13 =>
    (some σ13)))
    else
    (if a0 = (2 : Int32) then
    (bv (fn_Mo_put σ5 (1 : Int32) (r4 - r2)) (fun σ12 =>
    (some σ12)))
    else
    (if a0 = (3 : Int32) then
    (bv (fn_Mo_put σ5 (1 : Int32) (r4 * r2)) (fun σ11 =>
    (some σ11)))
    else
    (if r2 = 0 then none else
    (bv (fn_Mo_put σ5 (1 : Int32) (r4 / r2)) (fun σ10 =>
    (some σ10)))))))))))))
set_option maxRecDepth 100000 in
set_option maxHeartbeats 40000000 in
theorem c_Mo_calculate (l : Launch) (D : va_G) (ca : Nat → ClassId) (ax : Nat → Nat → Nat) (b : Nat) (σ : mm_M) (a0 : Int32)  {σ' : mm_M} (hf : fn_Mo_calculate σ a0 = some σ') : Met l y_Mo_calculate w_Mo_calculate rm_Mo_calculate (pc_w D cls b N_M (ce_M ca b) (kM D ca ax b) [.ref (b + 0), .int a0] σ) (qc_v D cls b N_M (ce_M ca b) σ') 0 0 (mm_A b N_M) := by
  refine vv_go (cc := b_Mo_calculate) (maxL := 4) (ret := none) (fin := σ') (k := fn_Mo_calculate σ a0) (by decide) rfl (by simp [Value.category]) (Nat.le_of_ble_eq_true rfl) hf ?_
  intro p e s m below meth c hlocks hret S hKK
  unfold fn_Mo_calculate
  refine v_aload_n S d_Mo_calculate_0 rfl rfl ?_
  refine v_iconst S d_Mo_calculate_1 (v := (0 : Int32)) (by decide) ?_
  refine v_ci (rest := []) (fun _ _ hg H locs ls hsz hP hS => run_V (As := [.int (0 : Int32)]) (rest := []) S kM_ok hKK (c_Mo_below l D ca ax b σ (0 : Int32) hg) (k_Mo_139 S.2.2.2.2 (fun _ => List.mem_cons_of_mem _) ⟨Nat.le_of_ble_eq_true rfl, Nat.le_of_ble_eq_true rfl⟩) (rc_w hKK.1 hP 0 (by decide) rfl rfl) rfl rfl (Nat.zero_le _) d_Mo_calculate_2 hsz hP hS) (fun r2 σ1 _ => ?_)
  refine v_istore_nP S d_Mo_calculate_5 rfl (by decide) (L2 := [some (.ref (b + 0)), some (.int a0), some (.int r2)]) rfl ?_
  refine v_aload_n S d_Mo_calculate_6 rfl rfl ?_
  refine v_iconst S d_Mo_calculate_7 (v := (1 : Int32)) (by decide) ?_
  refine v_ci (rest := []) (fun _ _ hg H locs ls hsz hP hS => run_V (As := [.int (1 : Int32)]) (rest := []) S kM_ok hKK (c_Mo_below l D ca ax b σ1 (1 : Int32) hg) (k_Mo_139 S.2.2.2.2 (fun _ => List.mem_cons_of_mem _) ⟨Nat.le_of_ble_eq_true rfl, Nat.le_of_ble_eq_true rfl⟩) (rc_w hKK.1 hP 0 (by decide) rfl rfl) rfl rfl (Nat.zero_le _) d_Mo_calculate_8 hsz hP hS) (fun r4 σ3 _ => ?_)
  refine v_istore_nP S d_Mo_calculate_11 rfl (by decide) (L2 := [some (.ref (b + 0)), some (.int a0), some (.int r2), some (.int r4)]) rfl ?_
  refine v_aload_n S d_Mo_calculate_12 rfl rfl ?_
  refine v_iconst S d_Mo_calculate_13 (v := (2 : Int32)) (by decide) ?_
  refine v_cv (rest := []) (fun _ hg H locs ls hsz hP hS => run_V (As := [.int (2 : Int32)]) (rest := []) S kM_ok hKK (c_Mo_drop l D ca ax b σ3 (2 : Int32) hg) (k_Mo_148 S.2.2.2.2 (fun _ => List.mem_cons_of_mem _) ⟨Nat.le_of_ble_eq_true rfl, Nat.le_of_ble_eq_true rfl⟩) (rc_w hKK.1 hP 0 (by decide) rfl rfl) rfl rfl (Nat.zero_le _) d_Mo_calculate_14 hsz hP hS) (fun σ5 _ => ?_)
  refine v_aload_n S d_Mo_calculate_17 rfl rfl ?_
  refine v_iconst S d_Mo_calculate_18 (v := (1 : Int32)) (by decide) ?_
  refine v_iload_n S d_Mo_calculate_19 rfl rfl ?_
  refine v_iconst S d_Mo_calculate_20 (v := (1 : Int32)) (by decide) ?_
  refine v_icmp_ne S d_Mo_calculate_21 (tgt := 30) (by decide) (fun h6 => ?_) (fun h6 => ?_)
  · refine v_iload_n S d_Mo_calculate_30 rfl rfl ?_
    refine v_iconst S d_Mo_calculate_31 (v := (2 : Int32)) (by decide) ?_
    refine v_icmp_ne S d_Mo_calculate_32 (tgt := 41) (by decide) (fun h7 => ?_) (fun h7 => ?_)
    · refine v_iload_n S d_Mo_calculate_41 rfl rfl ?_
      refine v_iconst S d_Mo_calculate_42 (v := (3 : Int32)) (by decide) ?_
      refine v_icmp_ne S d_Mo_calculate_43 (tgt := 52) (by decide) (fun h8 => ?_) (fun h8 => ?_)
      · refine v_iload_n S d_Mo_calculate_52 rfl rfl ?_
        refine v_iload_n S d_Mo_calculate_53 rfl rfl ?_
        refine v_idiv S d_Mo_calculate_54 (fun h9 => ?_)
        refine v_cv (rest := []) (fun _ hg H locs ls hsz hP hS => run_V (As := [.int (1 : Int32), .int (r4 / r2)]) (rest := []) S kM_ok hKK (c_Mo_put l D ca ax b σ5 (1 : Int32) (r4 / r2) hg) (k_Mo_151 S.2.2.2.2 (fun _ => List.mem_cons_of_mem _) ⟨Nat.le_of_ble_eq_true rfl, Nat.le_of_ble_eq_true rfl⟩) (rc_w hKK.1 hP 0 (by decide) rfl rfl) rfl rfl (Nat.zero_le _) d_Mo_calculate_55 hsz hP hS) (fun σ10 _ => ?_)
        exact v_vret S hret hlocks d_Mo_calculate_58
      · refine v_iload_n S d_Mo_calculate_46 rfl rfl ?_
        refine v_iload_n S d_Mo_calculate_47 rfl rfl ?_
        refine v_imul S d_Mo_calculate_48 ?_
        refine v_goto S d_Mo_calculate_49 (tgt := 55) (by decide) ?_
        refine v_cv (rest := []) (fun _ hg H locs ls hsz hP hS => run_V (As := [.int (1 : Int32), .int (r4 * r2)]) (rest := []) S kM_ok hKK (c_Mo_put l D ca ax b σ5 (1 : Int32) (r4 * r2) hg) (k_Mo_151 S.2.2.2.2 (fun _ => List.mem_cons_of_mem _) ⟨Nat.le_of_ble_eq_true rfl, Nat.le_of_ble_eq_true rfl⟩) (rc_w hKK.1 hP 0 (by decide) rfl rfl) rfl rfl (Nat.zero_le _) d_Mo_calculate_55 hsz hP hS) (fun σ11 _ => ?_)
        exact v_vret S hret hlocks d_Mo_calculate_58
    · refine v_iload_n S d_Mo_calculate_35 rfl rfl ?_
      refine v_iload_n S d_Mo_calculate_36 rfl rfl ?_
      refine v_isub S d_Mo_calculate_37 ?_
      refine v_goto S d_Mo_calculate_38 (tgt := 55) (by decide) ?_
      refine v_cv (rest := []) (fun _ hg H locs ls hsz hP hS => run_V (As := [.int (1 : Int32), .int (r4 - r2)]) (rest := []) S kM_ok hKK (c_Mo_put l D ca ax b σ5 (1 : Int32) (r4 - r2) hg) (k_Mo_151 S.2.2.2.2 (fun _ => List.mem_cons_of_mem _) ⟨Nat.le_of_ble_eq_true rfl, Nat.le_of_ble_eq_true rfl⟩) (rc_w hKK.1 hP 0 (by decide) rfl rfl) rfl rfl (Nat.zero_le _) d_Mo_calculate_55 hsz hP hS) (fun σ12 _ => ?_)
      exact v_vret S hret hlocks d_Mo_calculate_58
  · refine v_iload_n S d_Mo_calculate_24 rfl rfl ?_
    refine v_iload_n S d_Mo_calculate_25 rfl rfl ?_
    refine v_iadd S d_Mo_calculate_26 ?_
    refine v_goto S d_Mo_calculate_27 (tgt := 55) (by decide) ?_
    refine v_cv (rest := []) (fun _ hg H locs ls hsz hP hS => run_V (As := [.int (1 : Int32), .int (r4 + r2)]) (rest := []) S kM_ok hKK (c_Mo_put l D ca ax b σ5 (1 : Int32) (r4 + r2) hg) (k_Mo_151 S.2.2.2.2 (fun _ => List.mem_cons_of_mem _) ⟨Nat.le_of_ble_eq_true rfl, Nat.le_of_ble_eq_true rfl⟩) (rc_w hKK.1 hP 0 (by decide) rfl rfl) rfl rfl (Nat.zero_le _) d_Mo_calculate_55 hsz hP hS) (fun σ13 _ => ?_)
    exact v_vret S hret hlocks d_Mo_calculate_58

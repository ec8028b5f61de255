/-! contracts of 05.types; written by wip/whole/make.py -/
def fn_Ty_height (σ : mm_M) (a0 : Int32) : Option (Int32 × mm_M) :=
    (some ((a0 &&& (7 : Int32)), σ))
set_option maxRecDepth 100000 in
set_option maxHeartbeats 40000000 in
theorem c_Ty_height (l : Launch) (D : va_G) (ca : Nat → ClassId) (ax : Nat → Nat → Nat) (b : Nat) (σ : mm_M) (a0 : Int32)  {r : Int32} {σ' : mm_M} (hf : fn_Ty_height σ a0 = some (r, σ')) : Met l y_Ty_height w_Ty_height rm_Ty_height (pc_w D cls b N_C (ce_C ca b) (kC D ca ax b) [.int a0] σ) (qc_i D cls b N_C (ce_C ca b) r σ') 0 0 (mm_A b N_C) := by
  refine vv_go (cc := b_Ty_height) (maxL := 1) (ret := (some .int)) (fin := (r, σ')) (k := fn_Ty_height σ a0) (by decide) rfl (by simp [Value.category]) (Nat.le_of_ble_eq_true rfl) hf ?_
  intro p e s m below meth c hlocks hret S hKK
  unfold fn_Ty_height
  refine v_iload_n S d_Ty_height_0 rfl rfl ?_
  refine v_bipush S d_Ty_height_1 (v := (7 : Int32)) (by decide) ?_
  refine v_iand S d_Ty_height_3 ?_
  exact v_iret S hret hlocks d_Ty_height_4
def fn_Ty_at (σ : mm_M) (a0 : Int32) (a1 : Int32) : Option (Int32 × mm_M) :=
    (some (((a0 >>> (((3 : Int32) + ((2 : Int32) * a1)) &&& 31)) &&& (3 : Int32)), σ))
set_option maxRecDepth 100000 in
set_option maxHeartbeats 40000000 in
theorem c_Ty_at (l : Launch) (D : va_G) (ca : Nat → ClassId) (ax : Nat → Nat → Nat) (b : Nat) (σ : mm_M) (a0 : Int32) (a1 : Int32)  {r : Int32} {σ' : mm_M} (hf : fn_Ty_at σ a0 a1 = some (r, σ')) : Met l y_Ty_at w_Ty_at rm_Ty_at (pc_w D cls b N_C (ce_C ca b) (kC D ca ax b) [.int a0, .int a1] σ) (qc_i D cls b N_C (ce_C ca b) r σ') 0 0 (mm_A b N_C) := by
  refine vv_go (cc := b_Ty_at) (maxL := 2) (ret := (some .int)) (fin := (r, σ')) (k := fn_Ty_at σ a0 a1) (by decide) rfl (by simp [Value.category]) (Nat.le_of_ble_eq_true rfl) hf ?_
  intro p e s m below meth c hlocks hret S hKK
  unfold fn_Ty_at
  refine v_iload_n S d_Ty_at_0 rfl rfl ?_
  refine v_iconst S d_Ty_at_1 (v := (3 : Int32)) (by decide) ?_
  refine v_iconst S d_Ty_at_2 (v := (2 : Int32)) (by decide) ?_
  refine v_iload_n S d_Ty_at_3 rfl rfl ?_
  refine v_imul S d_Ty_at_4 ?_
  refine v_iadd S d_Ty_at_5 ?_
  refine v_ishr S d_Ty_at_6 ?_
  refine v_iconst S d_Ty_at_7 (v := (3 : Int32)) (by decide) ?_
  refine v_iand S d_Ty_at_8 ?_
  exact v_iret S hret hlocks d_Ty_at_9
def fn_Ty_with (σ : mm_M) (a0 : Int32) (a1 : Int32) (a2 : Int32) : Option (Int32 × mm_M) :=
    (nm ((3 : Int32) + ((2 : Int32) * a1)) (fun x1 =>
    (some (((a0 &&& (((3 : Int32) <<< (x1 &&& 31)) ^^^ (-1 : Int32))) ||| (a2 <<< (x1 &&& 31))), σ))))
set_option maxRecDepth 100000 in
set_option maxHeartbeats 40000000 in
theorem c_Ty_with (l : Launch) (D : va_G) (ca : Nat → ClassId) (ax : Nat → Nat → Nat) (b : Nat) (σ : mm_M) (a0 : Int32) (a1 : Int32) (a2 : Int32)  {r : Int32} {σ' : mm_M} (hf : fn_Ty_with σ a0 a1 a2 = some (r, σ')) : Met l y_Ty_with w_Ty_with rm_Ty_with (pc_w D cls b N_C (ce_C ca b) (kC D ca ax b) [.int a0, .int a1, .int a2] σ) (qc_i D cls b N_C (ce_C ca b) r σ') 0 0 (mm_A b N_C) := by
  refine vv_go (cc := b_Ty_with) (maxL := 4) (ret := (some .int)) (fin := (r, σ')) (k := fn_Ty_with σ a0 a1 a2) (by decide) rfl (by simp [Value.category]) (Nat.le_of_ble_eq_true rfl) hf ?_
  intro p e s m below meth c hlocks hret S hKK
  unfold fn_Ty_with
  refine v_iconst S d_Ty_with_0 (v := (3 : Int32)) (by decide) ?_
  refine v_iconst S d_Ty_with_1 (v := (2 : Int32)) (by decide) ?_
  refine v_iload_n S d_Ty_with_2 rfl rfl ?_
  refine v_imul S d_Ty_with_3 ?_
  refine v_iadd S d_Ty_with_4 ?_
  refine v_top (fun x1 ex1 => ?_)
  refine v_istore_nP S d_Ty_with_5 rfl (by decide) (L2 := [some (.int a0), some (.int a1), some (.int a2), some (.int x1)]) rfl ?_
  refine v_iload_n S d_Ty_with_6 rfl rfl ?_
  refine v_iconst S d_Ty_with_7 (v := (3 : Int32)) (by decide) ?_
  refine v_iload_n S d_Ty_with_8 rfl rfl ?_
  refine v_ishl S d_Ty_with_9 ?_
  refine v_iconst S d_Ty_with_10 (v := (-1 : Int32)) (by decide) ?_
  refine v_ixor S d_Ty_with_11 ?_
  refine v_iand S d_Ty_with_12 ?_
  refine v_iload_n S d_Ty_with_13 rfl rfl ?_
  refine v_iload_n S d_Ty_with_14 rfl rfl ?_
  refine v_ishl S d_Ty_with_15 ?_
  refine v_ior S d_Ty_with_16 ?_
  exact v_iret S hret hlocks d_Ty_with_17
def fn_Ty_slotBelow (σ : mm_M) (a0 : Int32) (a1 : Int32) : Option (Int32 × mm_M) :=
    (some (((((6 : Int32) + (a0 &&& (7 : Int32))) - (1 : Int32)) - a1), σ))
set_option maxRecDepth 100000 in
set_option maxHeartbeats 40000000 in
theorem c_Ty_slotBelow (l : Launch) (D : va_G) (ca : Nat → ClassId) (ax : Nat → Nat → Nat) (b : Nat) (σ : mm_M) (a0 : Int32) (a1 : Int32)  {r : Int32} {σ' : mm_M} (hf : fn_Ty_slotBelow σ a0 a1 = some (r, σ')) : Met l y_Ty_slotBelow w_Ty_slotBelow rm_Ty_slotBelow (pc_w D cls b N_C (ce_C ca b) (kC D ca ax b) [.int a0, .int a1] σ) (qc_i D cls b N_C (ce_C ca b) r σ') 0 0 (mm_A b N_C) := by
  refine vv_go (cc := b_Ty_slotBelow) (maxL := 2) (ret := (some .int)) (fin := (r, σ')) (k := fn_Ty_slotBelow σ a0 a1) (by decide) rfl (by simp [Value.category]) (Nat.le_of_ble_eq_true rfl) hf ?_
  intro p e s m below meth c hlocks hret S hKK
  unfold fn_Ty_slotBelow
  refine v_bipush S d_Ty_slotBelow_0 (v := (6 : Int32)) (by decide) ?_
  refine v_iload_n S d_Ty_slotBelow_2 rfl rfl ?_
  refine v_bipush S d_Ty_slotBelow_3 (v := (7 : Int32)) (by decide) ?_
  refine v_iand S d_Ty_slotBelow_5 ?_
  refine v_iadd S d_Ty_slotBelow_6 ?_
  refine v_iconst S d_Ty_slotBelow_7 (v := (1 : Int32)) (by decide) ?_
  refine v_isub S d_Ty_slotBelow_8 ?_
  refine v_iload_n S d_Ty_slotBelow_9 rfl rfl ?_
  refine v_isub S d_Ty_slotBelow_10 ?_
  exact v_iret S hret hlocks d_Ty_slotBelow_11
def fn_Ty_below (σ : mm_M) (a0 : Int32) (a1 : Int32) : Option (Int32 × mm_M) :=
    (bd (fn_Ty_slotBelow σ a0 a1) (fun r2 σ1 =>
    (bd (fn_Ty_at σ1 a0 r2) (fun r4 σ3 =>
    (some (r4, σ3))))))
set_option maxRecDepth 100000 in
set_option maxHeartbeats 40000000 in
theorem c_Ty_below (l : Launch) (D : va_G) (ca : Nat → ClassId) (ax : Nat → Nat → Nat) (b : Nat) (σ : mm_M) (a0 : Int32) (a1 : Int32)  {r : Int32} {σ' : mm_M} (hf : fn_Ty_below σ a0 a1 = some (r, σ')) : Met l y_Ty_below w_Ty_below rm_Ty_below (pc_w D cls b N_C (ce_C ca b) (kC D ca ax b) [.int a0, .int a1] σ) (qc_i D cls b N_C (ce_C ca b) r σ') 0 0 (mm_A b N_C) := by
  refine vv_go (cc := b_Ty_below) (maxL := 2) (ret := (some .int)) (fin := (r, σ')) (k := fn_Ty_below σ a0 a1) (by decide) rfl (by simp [Value.category]) (Nat.le_of_ble_eq_true rfl) hf ?_
  intro p e s m below meth c hlocks hret S hKK
  unfold fn_Ty_below
  refine v_iload_n S d_Ty_below_0 rfl rfl ?_
  refine v_iload_n S d_Ty_below_1 rfl rfl ?_
  refine v_iload_n S d_Ty_below_2 rfl rfl ?_
  refine v_ci (rest := [.int a0]) (fun _ _ hg H locs ls hsz hP hS => run_S (As := [.int a0, .int a1]) (rest := [.int a0]) S kC_ok hKK (c_Ty_slotBelow l D ca ax b σ a0 a1 hg) (k_Ty_11 S.2.2.2.2 (fun _ => List.mem_cons_of_mem _) ⟨Nat.le_of_ble_eq_true rfl, Nat.le_of_ble_eq_true rfl⟩) rfl rfl (by simp [Value.category]) d_Ty_below_3 hsz hP hS) (fun r2 σ1 _ => ?_)
  refine v_ci (rest := []) (fun _ _ hg H locs ls hsz hP hS => run_S (As := [.int a0, .int r2]) (rest := []) S kC_ok hKK (c_Ty_at l D ca ax b σ1 a0 r2 hg) (k_Ty_15 S.2.2.2.2 (fun _ => List.mem_cons_of_mem _) ⟨Nat.le_of_ble_eq_true rfl, Nat.le_of_ble_eq_true rfl⟩) rfl rfl (Nat.zero_le _) d_Ty_below_6 hsz hP hS) (fun r4 σ3 _ => ?_)
  exact v_iret S hret hlocks d_Ty_below_9
def fn_Ty_pushed (σ : mm_M) (a0 : Int32) (a1 : Int32) : Option (Int32 × mm_M) :=
    (bd (fn_Ty_height σ a0) (fun r2 σ1 =>
    (bd (fn_Ty_with σ1 a0 ((6 : Int32) + r2) a1) (fun r4 σ3 =>
    (some ((r4 + (1 : Int32)), σ3))))))
set_option maxRecDepth 100000 in
set_option maxHeartbeats 40000000 in
theorem c_Ty_pushed (l : Launch) (D : va_G) (ca : Nat → ClassId) (ax : Nat → Nat → Nat) (b : Nat) (σ : mm_M) (a0 : Int32) (a1 : Int32)  {r : Int32} {σ' : mm_M} (hf : fn_Ty_pushed σ a0 a1 = some (r, σ')) : Met l y_Ty_pushed w_Ty_pushed rm_Ty_pushed (pc_w D cls b N_C (ce_C ca b) (kC D ca ax b) [.int a0, .int a1] σ) (qc_i D cls b N_C (ce_C ca b) r σ') 0 0 (mm_A b N_C) := by
  refine vv_go (cc := b_Ty_pushed) (maxL := 2) (ret := (some .int)) (fin := (r, σ')) (k := fn_Ty_pushed σ a0 a1) (by decide) rfl (by simp [Value.category]) (Nat.le_of_ble_eq_true rfl) hf ?_
  intro p e s m below meth c hlocks hret S hKK
  unfold fn_Ty_pushed
  refine v_iload_n S d_Ty_pushed_0 rfl rfl ?_
  refine v_bipush S d_Ty_pushed_1 (v := (6 : Int32)) (by decide) ?_
  refine v_iload_n S d_Ty_pushed_3 rfl rfl ?_
  refine v_ci (rest := [.int (6 : Int32), .int a0]) (fun _ _ hg H locs ls hsz hP hS => run_S (As := [.int a0]) (rest := [.int (6 : Int32), .int a0]) S kC_ok hKK (c_Ty_height l D ca ax b σ a0 hg) (k_Ty_18 S.2.2.2.2 (fun _ => List.mem_cons_of_mem _) ⟨Nat.le_of_ble_eq_true rfl, Nat.le_of_ble_eq_true rfl⟩) rfl rfl (by simp [Value.category]) d_Ty_pushed_4 hsz hP hS) (fun r2 σ1 _ => ?_)
  refine v_iadd S d_Ty_pushed_7 ?_
  refine v_iload_n S d_Ty_pushed_8 rfl rfl ?_
  refine v_ci (rest := []) (fun _ _ hg H locs ls hsz hP hS => run_S (As := [.int a0, .int ((6 : Int32) + r2), .int a1]) (rest := []) S kC_ok hKK (c_Ty_with l D ca ax b σ1 a0 ((6 : Int32) + r2) a1 hg) (k_Ty_22 S.2.2.2.2 (fun _ => List.mem_cons_of_mem _) ⟨Nat.le_of_ble_eq_true rfl, Nat.le_of_ble_eq_true rfl⟩) rfl rfl (Nat.zero_le _) d_Ty_pushed_9 hsz hP hS) (fun r4 σ3 _ => ?_)
  refine v_iconst S d_Ty_pushed_12 (v := (1 : Int32)) (by decide) ?_
  refine v_iadd S d_Ty_pushed_13 ?_
  exact v_iret S hret hlocks d_Ty_pushed_14
def fn_Ty_dropped_4 (a0 : Int32) (a1 : Int32) : Nat → mm_M → Int32 → Int32 → Option (Int32 × mm_M)
  | 0, _, _, _ => none
  | n + 1, σ, l2, l3 =>
    (if a1 ≤ l3 then
    (some (l2, σ))
    else
    (bd (fn_Ty_slotBelow σ l2 (0 : Int32)) (fun r3 σ2 =>
    (bd (fn_Ty_with σ2 l2 r3 (0 : Int32)) (fun r5 σ4 =>
    (nm (r5 - (1 : Int32)) (fun x6 =>
    (fn_Ty_dropped_4 a0 a1 n σ4 x6 (l3 + (1 : Int32))))))))))
def fn_Ty_dropped (σ : mm_M) (a0 : Int32) (a1 : Int32) : Option (Int32 × mm_M) :=
    (fn_Ty_dropped_4 a0 a1 fuel0 σ a0 (0 : Int32))
set_option maxRecDepth 100000 in
set_option maxHeartbeats 40000000 in
theorem c_Ty_dropped (l : Launch) (D : va_G) (ca : Nat → ClassId) (ax : Nat → Nat → Nat) (b : Nat) (σ : mm_M) (a0 : Int32) (a1 : Int32)  {r : Int32} {σ' : mm_M} (hf : fn_Ty_dropped σ a0 a1 = some (r, σ')) : Met l y_Ty_dropped w_Ty_dropped rm_Ty_dropped (pc_w D cls b N_C (ce_C ca b) (kC D ca ax b) [.int a0, .int a1] σ) (qc_i D cls b N_C (ce_C ca b) r σ') 0 0 (mm_A b N_C) := by
  refine vv_go (cc := b_Ty_dropped) (maxL := 4) (ret := (some .int)) (fin := (r, σ')) (k := fn_Ty_dropped σ a0 a1) (by decide) rfl (by simp [Value.category]) (Nat.le_of_ble_eq_true rfl) hf ?_
  intro p e s m below meth c hlocks hret S hKK
  have C4 : ∀ (n : Nat) (σ : mm_M) (l2 : Int32) (l3 : Int32), vv p l e (headSpec w_Ty_dropped rm_Ty_dropped).room s m [.int a0, .int a1].toArray below meth c D cls b N_C (ce_C ca b) 4 (MQ below (qc_i D cls b N_C (ce_C ca b) r σ') [.int a0, .int a1].toArray s 0 0 (mm_A b N_C)) (r, σ') (fn_Ty_dropped_4 a0 a1 n σ l2 l3) σ 4 [none, some (.int a1), some (.int l2), some (.int l3)] [] := by
    intro n
    induction n with
    | zero => intro σ l2 l3  h; cases h
    | succ n ih =>
      intro σ l2 l3
      show vv p l e (headSpec w_Ty_dropped rm_Ty_dropped).room s m [.int a0, .int a1].toArray below meth c D cls b N_C (ce_C ca b) 4 (MQ below (qc_i D cls b N_C (ce_C ca b) r σ') [.int a0, .int a1].toArray s 0 0 (mm_A b N_C)) (r, σ') (        (if a1 ≤ l3 then
        (some (l2, σ))
        else
        (bd (fn_Ty_slotBelow σ l2 (0 : Int32)) (fun r3 σ2 =>
        (bd (fn_Ty_with σ2 l2 r3 (0 : Int32)) (fun r5 σ4 =>
        (nm (r5 - (1 : Int32)) (fun x6 =>
        (fn_Ty_dropped_4 a0 a1 n σ4 x6 (l3 + (1 : Int32))))))))))) σ 4 [none, some (.int a1), some (.int l2), some (.int l3)] []
      refine v_iload_n S d_Ty_dropped_4 rfl rfl ?_
      refine v_iload_n S d_Ty_dropped_5 rfl rfl ?_
      refine v_icmp_ge S d_Ty_dropped_6 (tgt := 28) (by decide) (fun h1 => ?_) (fun h1 => ?_)
      · refine v_iload_n S d_Ty_dropped_28 rfl rfl ?_
        exact v_iret S hret hlocks d_Ty_dropped_29
      · refine v_iload_n S d_Ty_dropped_9 rfl rfl ?_
        refine v_iload_n S d_Ty_dropped_10 rfl rfl ?_
        refine v_iconst S d_Ty_dropped_11 (v := (0 : Int32)) (by decide) ?_
        refine v_ci (rest := [.int l2]) (fun _ _ hg H locs ls hsz hP hS => run_S (As := [.int l2, .int (0 : Int32)]) (rest := [.int l2]) S kC_ok hKK (c_Ty_slotBelow l D ca ax b σ l2 (0 : Int32) hg) (k_Ty_11 S.2.2.2.2 (fun _ => List.mem_cons_of_mem _) ⟨Nat.le_of_ble_eq_true rfl, Nat.le_of_ble_eq_true rfl⟩) rfl rfl (by simp [Value.category]) d_Ty_dropped_12 hsz hP hS) (fun r3 σ2 _ => ?_)
        refine v_iconst S d_Ty_dropped_15 (v := (0 : Int32)) (by decide) ?_
        refine v_ci (rest := []) (fun _ _ hg H locs ls hsz hP hS => run_S (As := [.int l2, .int r3, .int (0 : Int32)]) (rest := []) S kC_ok hKK (c_Ty_with l D ca ax b σ2 l2 r3 (0 : Int32) hg) (k_Ty_22 S.2.2.2.2 (fun _ => List.mem_cons_of_mem _) ⟨Nat.le_of_ble_eq_true rfl, Nat.le_of_ble_eq_true rfl⟩) rfl rfl (Nat.zero_le _) d_Ty_dropped_16 hsz hP hS) (fun r5 σ4 _ => ?_)
        refine v_iconst S d_Ty_dropped_19 (v := (1 : Int32)) (by decide) ?_
        refine v_isub S d_Ty_dropped_20 ?_
        refine v_top (fun x6 ex6 => ?_)
        refine v_istore_nP S d_Ty_dropped_21 rfl (by decide) (L2 := [none, some (.int a1), some (.int x6), some (.int l3)]) rfl ?_
        refine v_iinc S d_Ty_dropped_22 rfl (v := (l3 + (1 : Int32))) (by first | rfl | decide) (by decide) (L2 := [none, some (.int a1), some (.int x6), some (.int (l3 + (1 : Int32)))]) rfl ?_
        refine v_goto S d_Ty_dropped_25 (tgt := 4) (by decide) ?_
        refine v_sub (L2 := [none, some (.int a1), some (.int x6), some (.int (l3 + (1 : Int32)))]) (And.intro rfl (And.intro rfl (And.intro rfl True.intro))) ?_
        exact ih σ4 x6 (l3 + (1 : Int32))
  unfold fn_Ty_dropped
  refine v_iload_n S d_Ty_dropped_0 rfl rfl ?_
  refine v_istore_nP S d_Ty_dropped_1 rfl (by decide) (L2 := [some (.int a0), some (.int a1), some (.int a0)]) rfl ?_
  refine v_iconst S d_Ty_dropped_2 (v := (0 : Int32)) (by decide) ?_
  refine v_istore_nP S d_Ty_dropped_3 rfl (by decide) (L2 := [some (.int a0), some (.int a1), some (.int a0), some (.int (0 : Int32))]) rfl ?_
  refine v_sub (L2 := [none, some (.int a1), some (.int a0), some (.int (0 : Int32))]) (And.intro rfl (And.intro rfl (And.intro rfl True.intro))) ?_
  exact C4 fuel0 σ a0 (0 : Int32)
def fn_Ty_met_31 (a0 : Int32) (a1 : Int32) : Nat → mm_M → Int32 → Int32 → Option (Int32 × mm_M)
  | 0, _, _, _ => none
  | n + 1, σ, l2, l3 =>
    (if (12 : Int32) ≤ l3 then
    (some (l2, σ))
    else
    (bd (fn_Ty_at σ a0 l3) (fun r10 σ9 =>
    (bd (fn_Ty_at σ9 a1 l3) (fun r12 σ11 =>
    (if r10 = r12 then
    (fn_Ty_met_31 a0 a1 n σ11 l2 (l3 + (1 : Int32)))
    else
    (bd (fn_Ty_with σ11 l2 l3 (3 : Int32)) (fun r16 σ15 =>
    (fn_Ty_met_31 a0 a1 n σ15 r16 (l3 + (1 : Int32)))))))))))
def fn_Ty_met (σ : mm_M) (a0 : Int32) (a1 : Int32) : Option (Int32 × mm_M) :=
    (if a0 = (-1 : Int32) then
    (some (a1, σ))
    else
    (if a0 = (-2 : Int32) then
    (some ((-2 : Int32), σ))
    else
    (bd (fn_Ty_height σ a0) (fun r4 σ3 =>
    (bd (fn_Ty_height σ3 a1) (fun r6 σ5 =>
    (if r4 = r6 then
    (fn_Ty_met_31 a0 a1 fuel0 σ5 a0 (0 : Int32))
    else
    (some ((-2 : Int32), σ5)))))))))
set_option maxRecDepth 100000 in
set_option maxHeartbeats 40000000 in
theorem c_Ty_met (l : Launch) (D : va_G) (ca : Nat → ClassId) (ax : Nat → Nat → Nat) (b : Nat) (σ : mm_M) (a0 : Int32) (a1 : Int32)  {r : Int32} {σ' : mm_M} (hf : fn_Ty_met σ a0 a1 = some (r, σ')) : Met l y_Ty_met w_Ty_met rm_Ty_met (pc_w D cls b N_C (ce_C ca b) (kC D ca ax b) [.int a0, .int a1] σ) (qc_i D cls b N_C (ce_C ca b) r σ') 0 0 (mm_A b N_C) := by
  refine vv_go (cc := b_Ty_met) (maxL := 4) (ret := (some .int)) (fin := (r, σ')) (k := fn_Ty_met σ a0 a1) (by decide) rfl (by simp [Value.category]) (Nat.le_of_ble_eq_true rfl) hf ?_
  intro p e s m below meth c hlocks hret S hKK
  have C31 : ∀ (n : Nat) (σ : mm_M) (l2 : Int32) (l3 : Int32), vv p l e (headSpec w_Ty_met rm_Ty_met).room s m [.int a0, .int a1].toArray below meth c D cls b N_C (ce_C ca b) 4 (MQ below (qc_i D cls b N_C (ce_C ca b) r σ') [.int a0, .int a1].toArray s 0 0 (mm_A b N_C)) (r, σ') (fn_Ty_met_31 a0 a1 n σ l2 l3) σ 31 [some (.int a0), some (.int a1), some (.int l2), some (.int l3)] [] := by
    intro n
    induction n with
    | zero => intro σ l2 l3  h; cases h
    | succ n ih =>
      intro σ l2 l3
      show vv p l e (headSpec w_Ty_met rm_Ty_met).room s m [.int a0, .int a1].toArray below meth c D cls b N_C (ce_C ca b) 4 (MQ below (qc_i D cls b N_C (ce_C ca b) r σ') [.int a0, .int a1].toArray s 0 0 (mm_A b N_C)) (r, σ') (        (if (12 : Int32) ≤ l3 then
        (some (l2, σ))
        else
        (bd (fn_Ty_at σ a0 l3) (fun r10 σ9 =>
        (bd (fn_Ty_at σ9 a1 l3) (fun r12 σ11 =>
        (if r10 = r12 then
        (fn_Ty_met_31 a0 a1 n σ11 l2 (l3 + (1 : Int32)))
        else
        (bd (fn_Ty_with σ11 l2 l3 (3 : Int32)) (fun r16 σ15 =>
        (fn_Ty_met_31 a0 a1 n σ15 r16 (l3 + (1 : Int32)))))))))))) σ 31 [some (.int a0), some (.int a1), some (.int l2), some (.int l3)] []
      refine v_iload_n S d_Ty_met_31 rfl rfl ?_
      refine v_bipush S d_Ty_met_32 (v := (12 : Int32)) (by decide) ?_
      refine v_icmp_ge S d_Ty_met_34 (tgt := 63) (by decide) (fun h8 => ?_) (fun h8 => ?_)
      · refine v_iload_n S d_Ty_met_63 rfl rfl ?_
        exact v_iret S hret hlocks d_Ty_met_64
      · refine v_iload_n S d_Ty_met_37 rfl rfl ?_
        refine v_iload_n S d_Ty_met_38 rfl rfl ?_
        refine v_ci (rest := []) (fun _ _ hg H locs ls hsz hP hS => run_S (As := [.int a0, .int l3]) (rest := []) S kC_ok hKK (c_Ty_at l D ca ax b σ a0 l3 hg) (k_Ty_15 S.2.2.2.2 (fun _ => List.mem_cons_of_mem _) ⟨Nat.le_of_ble_eq_true rfl, Nat.le_of_ble_eq_true rfl⟩) rfl rfl (Nat.zero_le _) d_Ty_met_39 hsz hP hS) (fun r10 σ9 _ => ?_)
        refine v_iload_n S d_Ty_met_42 rfl rfl ?_
        refine v_iload_n S d_Ty_met_43 rfl rfl ?_
        refine v_ci (rest := [.int r10]) (fun _ _ hg H locs ls hsz hP hS => run_S (As := [.int a1, .int l3]) (rest := [.int r10]) S kC_ok hKK (c_Ty_at l D ca ax b σ9 a1 l3 hg) (k_Ty_15 S.2.2.2.2 (fun _ => List.mem_cons_of_mem _) ⟨Nat.le_of_ble_eq_true rfl, Nat.le_of_ble_eq_true rfl⟩) rfl rfl (by simp [Value.category]) d_Ty_met_44 hsz hP hS) (fun r12 σ11 _ => ?_)
        refine v_icmp_eq S d_Ty_met_47 (tgt := 57) (by decide) (fun h13 => ?_) (fun h13 => ?_)
        · refine v_iinc S d_Ty_met_57 rfl (v := (l3 + (1 : Int32))) (by first | rfl | decide) (by decide) (L2 := [some (.int a0), some (.int a1), some (.int l2), some (.int (l3 + (1 : Int32)))]) rfl ?_
          refine v_goto S d_Ty_met_60 (tgt := 31) (by decide) ?_
          refine v_sub (L2 := [some (.int a0), some (.int a1), some (.int l2), some (.int (l3 + (1 : Int32)))]) (And.intro rfl (And.intro rfl (And.intro rfl (And.intro rfl True.intro)))) ?_
          exact ih σ11 l2 (l3 + (1 : Int32))
        · refine v_iload_n S d_Ty_met_50 rfl rfl ?_
          refine v_iload_n S d_Ty_met_51 rfl rfl ?_
          refine v_iconst S d_Ty_met_52 (v := (3 : Int32)) (by decide) ?_
          refine v_ci (rest := []) (fun _ _ hg H locs ls hsz hP hS => run_S (As := [.int l2, .int l3, .int (3 : Int32)]) (rest := []) S kC_ok hKK (c_Ty_with l D ca ax b σ11 l2 l3 (3 : Int32) hg) (k_Ty_22 S.2.2.2.2 (fun _ => List.mem_cons_of_mem _) ⟨Nat.le_of_ble_eq_true rfl, Nat.le_of_ble_eq_true rfl⟩) rfl rfl (Nat.zero_le _) d_Ty_met_53 hsz hP hS) (fun r16 σ15 _ => ?_)
          refine v_istore_nP S d_Ty_met_56 rfl (by decide) (L2 := [some (.int a0), some (.int a1), some (.int r16), some (.int l3)]) rfl ?_
          refine v_iinc S d_Ty_met_57 rfl (v := (l3 + (1 : Int32))) (by first | rfl | decide) (by decide) (L2 := [some (.int a0), some (.int a1), some (.int r16), some (.int (l3 + (1 : Int32)))]) rfl ?_
          refine v_goto S d_Ty_met_60 (tgt := 31) (by decide) ?_
          refine v_sub (L2 := [some (.int a0), some (.int a1), some (.int r16), some (.int (l3 + (1 : Int32)))]) (And.intro rfl (And.intro rfl (And.intro rfl (And.intro rfl True.intro)))) ?_
          exact ih σ15 r16 (l3 + (1 : Int32))
  unfold fn_Ty_met
  refine v_iload_n S d_Ty_met_0 rfl rfl ?_
  refine v_iconst S d_Ty_met_1 (v := (-1 : Int32)) (by decide) ?_
  refine v_icmp_ne S d_Ty_met_2 (tgt := 7) (by decide) (fun h1 => ?_) (fun h1 => ?_)
  · refine v_iload_n S d_Ty_met_7 rfl rfl ?_
    refine v_bipush S d_Ty_met_8 (v := (-2 : Int32)) (by decide) ?_
    refine v_icmp_eq S d_Ty_met_10 (tgt := 24) (by decide) (fun h2 => ?_) (fun h2 => ?_)
    · refine v_bipush S d_Ty_met_24 (v := (-2 : Int32)) (by decide) ?_
      exact v_iret S hret hlocks d_Ty_met_26
    · refine v_iload_n S d_Ty_met_13 rfl rfl ?_
      refine v_ci (rest := []) (fun _ _ hg H locs ls hsz hP hS => run_S (As := [.int a0]) (rest := []) S kC_ok hKK (c_Ty_height l D ca ax b σ a0 hg) (k_Ty_18 S.2.2.2.2 (fun _ => List.mem_cons_of_mem _) ⟨Nat.le_of_ble_eq_true rfl, Nat.le_of_ble_eq_true rfl⟩) rfl rfl (Nat.zero_le _) d_Ty_met_14 hsz hP hS) (fun r4 σ3 _ => ?_)
      refine v_iload_n S d_Ty_met_17 rfl rfl ?_
      refine v_ci (rest := [.int r4]) (fun _ _ hg H locs ls hsz hP hS => run_S (As := [.int a1]) (rest := [.int r4]) S kC_ok hKK (c_Ty_height l D ca ax b σ3 a1 hg) (k_Ty_18 S.2.2.2.2 (fun _ => List.mem_cons_of_mem _) ⟨Nat.le_of_ble_eq_true rfl, Nat.le_of_ble_eq_true rfl⟩) rfl rfl (by simp [Value.category]) d_Ty_met_18 hsz hP hS) (fun r6 σ5 _ => ?_)
      refine v_icmp_eq S d_Ty_met_21 (tgt := 27) (by decide) (fun h7 => ?_) (fun h7 => ?_)
      · refine v_iload_n S d_Ty_met_27 rfl rfl ?_
        refine v_istore_nP S d_Ty_met_28 rfl (by decide) (L2 := [some (.int a0), some (.int a1), some (.int a0)]) rfl ?_
        refine v_iconst S d_Ty_met_29 (v := (0 : Int32)) (by decide) ?_
        refine v_istore_nP S d_Ty_met_30 rfl (by decide) (L2 := [some (.int a0), some (.int a1), some (.int a0), some (.int (0 : Int32))]) rfl ?_
        refine v_sub (L2 := [some (.int a0), some (.int a1), some (.int a0), some (.int (0 : Int32))]) (And.intro rfl (And.intro rfl (And.intro rfl (And.intro rfl True.intro)))) ?_
        exact C31 fuel0 σ5 a0 (0 : Int32)
      · refine v_bipush S d_Ty_met_24 (v := (-2 : Int32)) (by decide) ?_
        exact v_iret S hret hlocks d_Ty_met_26
  · refine v_iload_n S d_Ty_met_5 rfl rfl ?_
    exact v_iret S hret hlocks d_Ty_met_6

/-! the functions alone, 10 -/
noncomputable section
theorem zp_Yo_jmp {κ : mm_M} {r o : Nat} {z : Int32} {ds : List Nat} {ws : List Nat} (h : zp_wS 12 ds) (ho : o = 7 ∨ o = 8 ∨ o = 10) (hw : zp_wants κ r o z = ws) : zp_Yo κ r o z ds ((zp_tks ws (ds, true)).1, (zp_tks ws (ds, true)).2 && zp_isA κ z) := by
  have h2 := h.2
  obtain ⟨t1, t2⟩ := zp_tks_spec ws ds true h
  have tw := zp_tks_w ws (ds, true) h
  have hn : zp_nf κ o z ds = zp_isA κ z := by rcases ho with rfl | rfl | rfl <;> simp [zp_nf, zp_jmp]
  have hp : zp_puts κ o z ds = [] := by rcases ho with rfl | rfl | rfl <;> simp [zp_puts, zp_ptab]
  have ea : zp_aft κ o z ds = ds.take (ds.length - ws.length) := by
    unfold zp_aft
    rw [if_neg (by omega), zp_wants_len κ 0 r, hw, hp, List.append_nil]
  refine ⟨tw, ?_, fun q => ?_⟩
  · rw [hn, hw, ea, t1, decide_eq_true (by simp; omega), Bool.true_and, Bool.and_true, Bool.and_comm]
  · rw [Bool.and_eq_true] at q
    rw [ea]; exact t2 q.1
section
variable {κ τ τ' : mm_M} {g t : Int32} {r o : Nat} {z : Int32} {ds : List Nat}
theorem zp_yb_9 (hw : zp_wS 12 ds) (H : zp_RS τ' τ g t (ds, true)) : ∃ τ'' p, fn_Mo_tryGo τ' 9 z = some τ'' ∧ zp_RS τ'' τ g t p ∧ zp_Yo κ r 9 z ds p := by
  obtain ⟨x, e, Hx⟩ := zp_m_give (v := 2) hw H
  refine ⟨x, _, ?_, Hx, zp_Yo_gen (ws := []) (vs := [2]) hw (by decide) rfl (zp_d4_one (by decide)) (fun _ => rfl) rfl rfl⟩
  unfold fn_Mo_tryGo
  rw [if_pos rfl, show fn_Mo_give τ' 2 = _ from e]; rfl
theorem zp_yb_11 (hw : zp_wS 12 ds) (H : zp_RS τ' τ g t (ds, true)) : ∃ τ'' p, fn_Mo_tryGo τ' 11 z = some τ'' ∧ zp_RS τ'' τ g t p ∧ zp_Yo κ r 11 z ds p := by
  obtain ⟨x, ex, Hx⟩ := zp_m_take (v := 1) hw (by decide) H
  have wx := (zp_tk_w (v := 1) (p := (ds, true)) hw).1
  obtain ⟨y, ey, Hy⟩ := zp_m_give (v := 2) wx Hx
  refine ⟨y, zp_gvs [2] (zp_tks [1] (ds, true)), ?_, Hy, zp_Yo_gen (ws := [1]) (vs := [2]) hw (by decide) rfl (zp_d4_one (by decide)) (fun _ => rfl) rfl rfl⟩
  unfold fn_Mo_tryGo
  rw [if_neg (by decide), if_pos rfl, show fn_Mo_take τ' 1 = _ from ex]
  simp only [bd]
  rw [show fn_Mo_give x 2 = _ from ey]; rfl
theorem zp_yb_7 (hE : zp_cE κ τ) (hw : zp_wS 12 ds) (H : zp_RS τ' τ g t (ds, true)) : ∃ τ'' p, fn_Mo_tryGo τ' 7 z = some τ'' ∧ zp_RS τ'' τ g z p ∧ zp_Yo κ r 7 z ds p := by
  obtain ⟨x, e, Hx⟩ := zp_m_goTo (z := z) hE H
  refine ⟨x, _, ?_, Hx, zp_Yo_jmp (ws := []) hw (by decide) rfl⟩
  unfold fn_Mo_tryGo
  rw [if_neg (by decide), if_neg (by decide), if_pos rfl, e]; rfl
theorem zp_yb_8 (hE : zp_cE κ τ) (hw : zp_wS 12 ds) (H : zp_RS τ' τ g t (ds, true)) : ∃ τ'' p, fn_Mo_tryGo τ' 8 z = some τ'' ∧ zp_RS τ'' τ g z p ∧ zp_Yo κ r 8 z ds p := by
  obtain ⟨x, ex, Hx⟩ := zp_m_take (v := 1) hw (by decide) H
  obtain ⟨y, ey, Hy⟩ := zp_m_goTo (z := z) hE Hx
  refine ⟨y, _, ?_, Hy, zp_Yo_jmp (ws := [1]) hw (by decide) rfl⟩
  unfold fn_Mo_tryGo
  rw [if_neg (by decide), if_neg (by decide), if_neg (by decide), if_pos rfl, show fn_Mo_take τ' 1 = _ from ex]
  simp only [bd]
  rw [ey]; rfl
theorem zp_yb_10 (hE : zp_cE κ τ) (hw : zp_wS 12 ds) (H : zp_RS τ' τ g t (ds, true)) : ∃ τ'' p, fn_Mo_tryGo τ' 10 z = some τ'' ∧ zp_RS τ'' τ g z p ∧ zp_Yo κ r 10 z ds p := by
  obtain ⟨x, ex, Hx⟩ := zp_m_take (v := 2) hw (by decide) H
  obtain ⟨y, ey, Hy⟩ := zp_m_goTo (z := z) hE Hx
  refine ⟨y, _, ?_, Hy, zp_Yo_jmp (ws := [2]) hw (by decide) rfl⟩
  unfold fn_Mo_tryGo
  rw [if_neg (by decide), if_neg (by decide), if_neg (by decide), if_neg (by decide), show fn_Mo_take τ' 2 = _ from ex]
  simp only [bd]
  rw [ey]; rfl
theorem zp_yb_12 (hw : zp_wS 12 ds) (H : zp_RS τ' τ g t (ds, true)) : ∃ τ'' p, fn_Mo_tryArray τ' 12 = some τ'' ∧ zp_RS τ'' τ g t p ∧ zp_Yo κ r 12 z ds p := by
  obtain ⟨x, ex, Hx⟩ := zp_m_take (v := 1) hw (by decide) H
  have wx := (zp_tk_w (v := 1) (p := (ds, true)) hw).1
  obtain ⟨y, ey, Hy⟩ := zp_m_take (v := 2) wx (by decide) Hx
  have wy := (zp_tk_w (v := 2) wx).1
  obtain ⟨w, ew, Hw⟩ := zp_m_give (v := 1) wy Hy
  refine ⟨w, zp_gvs [1] (zp_tks [1, 2] (ds, true)), ?_, Hw, zp_Yo_gen (ws := [1, 2]) (vs := [1]) hw (by decide) rfl (zp_d4_one (by decide)) (fun _ => rfl) rfl rfl⟩
  unfold fn_Mo_tryArray fn_Mo_tryArray_15 fn_Mo_tryArray_31
  rw [if_neg (by decide), if_neg (by decide), show fn_Mo_take τ' 1 = _ from ex]
  simp only [bd]
  rw [show fn_Mo_take x 2 = _ from ey]
  simp only
  rw [if_neg (by decide), show fn_Mo_give y 1 = _ from ew]; rfl
theorem zp_yb_13 (hw : zp_wS 12 ds) (H : zp_RS τ' τ g t (ds, true)) : ∃ τ'' p, fn_Mo_tryArray τ' 13 = some τ'' ∧ zp_RS τ'' τ g t p ∧ zp_Yo κ r 13 z ds p := by
  obtain ⟨x, ex, Hx⟩ := zp_m_take (v := 1) hw (by decide) H
  have wx := (zp_tk_w (v := 1) (p := (ds, true)) hw).1
  obtain ⟨y, ey, Hy⟩ := zp_m_take (v := 1) wx (by decide) Hx
  have wy := (zp_tk_w (v := 1) wx).1
  obtain ⟨w, ew, Hw⟩ := zp_m_take (v := 2) wy (by decide) Hy
  refine ⟨w, zp_gvs [] (zp_tks [1, 1, 2] (ds, true)), ?_, Hw, zp_Yo_gen (ws := [1, 1, 2]) (vs := []) hw (by decide) rfl (fun x hx => by cases hx) (fun _ => rfl) rfl rfl⟩
  unfold fn_Mo_tryArray fn_Mo_tryArray_15 fn_Mo_tryArray_31
  rw [if_pos rfl, show fn_Mo_take τ' 1 = _ from ex]
  simp only [bd]
  rw [if_neg (by decide), show fn_Mo_take x 1 = _ from ey]
  simp only
  rw [show fn_Mo_take y 2 = _ from ew]
  simp only
  rw [if_pos (by decide)]
theorem zp_yb_14 (hw : zp_wS 12 ds) (H : zp_RS τ' τ g t (ds, true)) : ∃ τ'' p, fn_Mo_tryArray τ' 14 = some τ'' ∧ zp_RS τ'' τ g t p ∧ zp_Yo κ r 14 z ds p := by
  obtain ⟨y, ey, Hy⟩ := zp_m_take (v := 2) hw (by decide) H
  have wy := (zp_tk_w (v := 2) (p := (ds, true)) hw).1
  obtain ⟨w, ew, Hw⟩ := zp_m_give (v := 1) wy Hy
  refine ⟨w, zp_gvs [1] (zp_tks [2] (ds, true)), ?_, Hw, zp_Yo_gen (ws := [2]) (vs := [1]) hw (by decide) rfl (zp_d4_one (by decide)) (fun _ => rfl) rfl rfl⟩
  unfold fn_Mo_tryArray fn_Mo_tryArray_15 fn_Mo_tryArray_31
  rw [if_neg (by decide), if_pos (by decide), show fn_Mo_take τ' 2 = _ from ey]
  simp only [bd]
  rw [if_neg (by decide), show fn_Mo_give y 1 = _ from ew]; rfl
theorem zp_popok_6 {v : Nat} {ws : List Nat} (h : zp_popok (v :: ws) ds = true) : 6 < ds.length := by
  unfold zp_popok at h
  rw [Bool.and_eq_true] at h
  have := of_decide_eq_true h.1
  simp only [List.length_cons] at this
  omega
theorem zp_yb_17 (hw : zp_wS 12 ds) (H : zp_RS τ' τ g t (ds, true)) : ∃ τ'' p, fn_Mo_tryPlaces τ' 17 = some τ'' ∧ zp_RS τ'' τ g t p ∧ zp_Yo κ r 17 z ds p := by
  obtain ⟨x, ex, Hx⟩ := zp_m_take (v := 3) hw (by decide) H
  refine ⟨x, zp_gvs [] (zp_tks [3] (ds, true)), ?_, Hx, zp_Yo_gen (ws := [3]) (vs := []) hw (by decide) rfl (fun x hx => by cases hx) (fun _ => rfl) rfl rfl⟩
  unfold fn_Mo_tryPlaces
  rw [show fn_Mo_take τ' 3 = _ from ex]
  simp only [bd]
  rw [if_neg (by decide), if_neg (by decide)]
theorem zp_yb_15 (hw : zp_wS 12 ds) (H : zp_RS τ' τ g t (ds, true)) : ∃ τ'' p, fn_Mo_tryPlaces τ' 15 = some τ'' ∧ zp_RS τ'' τ g t p ∧ zp_Yo κ r 15 z ds p := by
  obtain ⟨x, ex, Hx⟩ := zp_m_take (v := 3) hw (by decide) H
  obtain ⟨wx, vx⟩ := zp_tk_w (v := 3) (p := (ds, true)) hw
  obtain ⟨y, ey, Hy⟩ := zp_m_give (v := (zp_tk 3 (ds, true)).1) wx Hx
  have wy := zp_gv_w (p := (zp_tk 3 (ds, true)).2) wx vx
  obtain ⟨w, ew, Hw⟩ := zp_m_give (v := (zp_tk 3 (ds, true)).1) wy Hy
  refine ⟨w, zp_gvs [(zp_tk 3 (ds, true)).1, (zp_tk 3 (ds, true)).1] (zp_tks [3] (ds, true)), ?_, Hw, zp_Yo_gen (ws := [3]) (vs := [(zp_tk 3 (ds, true)).1, (zp_tk 3 (ds, true)).1]) hw (by decide) rfl (fun x hx => by simp only [List.mem_cons, List.not_mem_nil, or_false, or_self] at hx; rw [hx]; exact vx) (fun q => ?_) rfl rfl⟩
  · unfold fn_Mo_tryPlaces
    rw [show fn_Mo_take τ' 3 = _ from ex]
    simp only [bd]
    rw [if_pos (by decide), ey]
    simp only [bv]
    rw [ew]
  · have h6 := zp_popok_6 q
    have e : (zp_tk 3 (ds, true)).1 = ds.getD (ds.length - 1) 0 := by
      unfold zp_tk
      rw [if_neg (by show ¬ ds.length = 6; omega)]
    rw [e]; rfl
theorem zp_yb_16 (hw : zp_wS 12 ds) (H : zp_RS τ' τ g t (ds, true)) : ∃ τ'' p, fn_Mo_tryPlaces τ' 16 = some τ'' ∧ zp_RS τ'' τ g t p ∧ zp_Yo κ r 16 z ds p := by
  obtain ⟨x, ex, Hx⟩ := zp_m_take (v := 3) hw (by decide) H
  obtain ⟨wx, vx⟩ := zp_tk_w (v := 3) (p := (ds, true)) hw
  obtain ⟨u, eu, Hu⟩ := zp_m_take (v := 3) wx (by decide) Hx
  obtain ⟨wu, vu⟩ := zp_tk_w (v := 3) (p := (zp_tk 3 (ds, true)).2) wx
  obtain ⟨y, ey, Hy⟩ := zp_m_give (v := (zp_tk 3 (ds, true)).1) wu Hu
  have wy := zp_gv_w (p := (zp_tk 3 (zp_tk 3 (ds, true)).2).2) wu vx
  obtain ⟨w, ew, Hw⟩ := zp_m_give (v := (zp_tk 3 (zp_tk 3 (ds, true)).2).1) wy Hy
  refine ⟨w, zp_gvs [(zp_tk 3 (ds, true)).1, (zp_tk 3 (zp_tk 3 (ds, true)).2).1] (zp_tks [3, 3] (ds, true)), ?_, Hw, zp_Yo_gen (ws := [3, 3]) (vs := [(zp_tk 3 (ds, true)).1, (zp_tk 3 (zp_tk 3 (ds, true)).2).1]) hw (by decide) rfl (fun x hx => by simp only [List.mem_cons, List.not_mem_nil, or_false] at hx; rcases hx with q | q <;> rw [q] <;> assumption) (fun q => ?_) rfl rfl⟩
  · unfold fn_Mo_tryPlaces
    rw [show fn_Mo_take τ' 3 = _ from ex]
    simp only [bd]
    rw [if_neg (by decide), if_pos (by decide), show fn_Mo_take x 3 = _ from eu]
    simp only
    rw [ey]
    simp only [bv]
    rw [ew]
  · have h8 : 7 < ds.length := by
      unfold zp_popok at q
      rw [Bool.and_eq_true] at q
      have := of_decide_eq_true q.1
      simp only [List.length_cons, List.length_nil] at this
      omega
    have e : zp_tk 3 (ds, true) = (ds.getD (ds.length - 1) 0, ds.take (ds.length - 1), true) := by
      unfold zp_tk
      rw [if_neg (by show ¬ ds.length = 6; omega)]; rfl
    rw [e]
    have e2 : (zp_tk 3 (ds.take (ds.length - 1), true)).1 = ds.getD (ds.length - 2) 0 := by
      unfold zp_tk
      simp only [List.length_take]
      rw [if_neg (by omega)]
      show (ds.take (ds.length - 1)).getD (min (ds.length - 1) ds.length - 1) 0 = _
      rw [zp_take_getD (by omega)]
      congr 1; omega
    show zp_puts κ 16 z ds = [ds.getD (ds.length - 1) 0, (zp_tk 3 (ds.take (ds.length - 1), true)).1]
    rw [e2]; rfl
theorem zp_yb_19 (hE : zp_cE κ τ) (hr : r < 4) (hw : zp_wS 12 ds) (H : zp_RS τ' τ g t (ds, true)) : ∃ τ'' p, bd (fn_Mo_kindOf τ' (nI r) 3) (fun k x => bd (fn_Mo_take x k) (fun _ y => some y)) = some τ'' ∧ zp_RS τ'' τ g t p ∧ zp_Yo κ r 19 z ds p := by
  obtain ⟨x, ex, Hx⟩ := zp_m_take (v := zp_kd κ r 3) hw (zp_kd_lt _ _ _) H
  refine ⟨x, zp_gvs [] (zp_tks [zp_kd κ r 3] (ds, true)), ?_, Hx, zp_Yo_gen (ws := [zp_kd κ r 3]) (vs := []) hw (by decide) rfl (fun x hx => by cases hx) (fun _ => rfl) rfl rfl⟩
  rw [zp_m_kind (zp_RS_cE hE H) hr]
  simp only [bd]
  rw [ex]
def zp_wsm (κ : mm_M) (n m : Nat) : List Nat := (List.range m).map (fun d => zp_kd κ n (nI (m - 1 - d)))
theorem zp_wsm_succ (n m : Nat) : zp_wsm κ n (m + 1) = zp_kd κ n (nI m) :: zp_wsm κ n m := by
  unfold zp_wsm
  rw [List.range_succ_eq_map, List.map_cons, List.map_map]
  congr 1
  apply List.map_congr_left
  intro d hd
  show zp_kd κ n (nI (m + 1 - 1 - (d + 1))) = _
  rw [show m + 1 - 1 - (d + 1) = m - 1 - d by omega]
theorem zp_yb_loop {n : Nat} (hE : zp_cE κ τ) (hn : n < 4) : ∀ (m f : Nat) (τ' : mm_M) (p : List Nat × Bool), m ≤ 3 → m < f → zp_wS 12 p.1 → zp_RS τ' τ g t p → ∃ τ'', fn_Mo_tryCall_33 (nI n) f τ' (nI m - 1) = some τ'' ∧ zp_RS τ'' τ g t (zp_gvs [zp_kd κ n 3] (zp_tks (zp_wsm κ n m) p))
  | 0, f + 1, τ', p, _, _, hw, H => by
    unfold fn_Mo_tryCall_33
    rw [if_pos (by decide), zp_m_kind (zp_RS_cE hE H) hn]
    simp only [bd]
    obtain ⟨x, ex, Hx⟩ := zp_m_give (v := zp_kd κ n 3) hw H
    rw [ex]
    exact ⟨x, rfl, Hx⟩
  | m + 1, f + 1, τ', p, h3, hf, hw, H => by
    unfold fn_Mo_tryCall_33
    have e1 : nI (m + 1) - 1 = nI m := by rw [show (1 : Int32) = nI 1 from rfl, zp_q_sub (by omega)]; rfl
    rw [e1, if_neg (zp_q_nn (by omega)), zp_m_kind (zp_RS_cE hE H) hn]
    simp only [bd]
    obtain ⟨x, ex, Hx⟩ := zp_m_take (v := zp_kd κ n (nI m)) hw (zp_kd_lt _ _ _) H
    rw [ex]
    simp only
    have e2 : nI m + (-1 : Int32) = nI m - 1 := by rw [Int32.sub_eq_add_neg]
    rw [e2, zp_wsm_succ]
    exact zp_yb_loop hE hn m f x _ (by omega) (by omega) (zp_tk_w hw).1 Hx
theorem zp_yb_18 (hC : zp_wC κ) (hE : zp_cE κ τ) (hw : zp_wS 12 ds) (H : zp_RS τ' τ g t (ds, true)) : ∃ τ'' p, fn_Mo_tryCall τ' z = some τ'' ∧ zp_RS τ'' τ g t p ∧ zp_Yo κ r 18 z ds p := by
  have hE' := zp_RS_cE hE H
  unfold fn_Mo_tryCall
  have hnf : ∀ z, zp_nf κ 18 z ds = zp_hasR κ z := fun z => by simp [zp_nf]
  by_cases h1 : z < 0
  · rw [if_pos h1]
    exact ⟨_, _, rfl, zp_RS_bad H, zp_Yo_bad hw (by rw [hnf]; simp [zp_hasR, h1])⟩
  · obtain ⟨n, hn, rfl⟩ := zp_q_of h1
    rw [if_neg h1]
    by_cases h3 : 3 < n
    · rw [if_pos (show (3 : Int32) < nI n from (zp_q_lt (a := 3) (by decide) hn).mpr h3)]
      refine ⟨_, _, rfl, zp_RS_bad H, zp_Yo_bad hw ?_⟩
      rw [hnf]
      have : (4 : Int32) ≤ nI n := (zp_q_le (a := 4) (by decide) hn).mpr h3
      simp [zp_hasR, this]
    · rw [if_neg (show ¬ (3 : Int32) < nI n from fun q => h3 ((zp_q_lt (a := 3) (by decide) hn).mp q)), if_neg (zp_q_in hn (by omega)), zp_q_nat hn, hE'.2.2.2.1]
      by_cases h4 : κ 4 n = 0
      · rw [if_pos h4]
        refine ⟨_, _, rfl, zp_RS_bad H, zp_Yo_bad hw ?_⟩
        rw [hnf]
        simp [zp_hasR, zp_q_nat hn, h4]
      · have hin : ¬ (nI n < 0 ∨ 4 ≤ n) := fun q => q.elim h1 (by omega)
        rw [if_neg h4, if_neg hin, hE'.2.2.2.2.2.1]
        simp only [nm]
        obtain ⟨p, hp, e⟩ := (hC.2 n (by omega)).2
        rw [e]
        have hf0 : p < fuel0 := by unfold fuel0; omega
        generalize fuel0 = F at hf0 ⊢
        obtain ⟨x, ex, Hx⟩ := zp_yb_loop hE (show n < 4 by omega) p F τ' (ds, true) hp hf0 hw H
        refine ⟨x, _, ex, Hx, zp_Yo_gen (ws := zp_wsm κ n p) (vs := [zp_kd κ n 3]) hw (by decide) ?_ (zp_d4_one (zp_kd_lt _ _ _)) (fun _ => ?_) (by simp [zp_puts]) ?_⟩
        · unfold zp_wants zp_wsm
          rw [if_pos rfl, zp_q_nat hn, e, zp_q_nat (by omega)]
        · simp [zp_puts, zp_q_nat hn]
        · rw [hnf]
          have : ¬ (4 : Int32) ≤ nI n := fun q => by have := (zp_q_le (a := 4) (by decide) hn).mp q; omega
          simp [zp_hasR, h1, this, zp_q_nat hn, h4]
end
end

/-! the functions alone, 9 -/
noncomputable section
def zp_bdy (r : Int32) (o : Nat) (z : Int32) (τ : mm_M) : Option mm_M :=
  if o = 0 then fn_Mo_give τ 1 else if o ≤ 4 then bd (fn_Mo_take τ 1) (fun _ x => bd (fn_Mo_take x 1) (fun _ y => fn_Mo_give y 1)) else if o ≤ 6 then fn_Mo_tryLocal τ (nI o) z else if o ≤ 11 then fn_Mo_tryGo τ (nI o) z else if o ≤ 14 then fn_Mo_tryArray τ (nI o) else if o ≤ 17 then fn_Mo_tryPlaces τ (nI o) else if o = 18 then fn_Mo_tryCall τ z else bd (fn_Mo_kindOf τ r 3) (fun k x => bd (fn_Mo_take x k) (fun _ y => some y))
theorem zp_bv_bd {α β : Type} (x : Option (α × mm_M)) (f : α → mm_M → Option mm_M) (k : mm_M → Option β) : bv (bd x f) k = bd x (fun r a => bv (f r a) k) := by cases x <;> rfl
theorem zp_bv_some {β : Type} (x : mm_M) (k : mm_M → Option β) : bv (some x) k = k x := rfl
theorem zp_m_path {τ : mm_M} {r z : Int32} {o a : Nat} (ho : o < 20) (ha : a < 100) (e1 : τ 1 a = nI o) (e2 : τ 2 a = z) : fn_Mo_tryOut τ r (nI a) = bv (zp_bdy r o z (mw (mw (mw τ 0 13 0) 0 14 (if op_behind o = 0 then 0 else 1)) 0 15 (-1))) (fun σ => fn_Mo_tryOut_214 r (nI a) σ) := by
  unfold fn_Mo_tryOut
  rw [if_neg (zp_q_in (by omega) ha), zp_q_nat (by omega), e1, e2]
  have hin : ¬ (nI a < 0 ∨ 100 ≤ a) := fun q => q.elim (zp_q_nn (by omega)) (by omega)
  simp only [nm]
  rw [if_neg hin]
  unfold zp_bdy
  rcases zp_o20 ho with rfl | rfl | rfl | rfl | rfl | rfl | rfl | rfl | rfl | rfl | rfl | rfl | rfl | rfl | rfl | rfl | rfl | rfl | rfl | rfl <;>
    simp +decide only [fn_Mo_tryOut_37, fn_Mo_tryOut_38, fn_Mo_tryOut_78, fn_Mo_tryOut_101, fn_Mo_tryOut_133, fn_Mo_tryOut_153, fn_Mo_tryOut_173, nm, if_true, if_false, zp_bv_bd, zp_bv_some]
section
variable {κ τ τ' : mm_M} {g t : Int32} {r o : Nat} {z : Int32} {ds : List Nat}
theorem zp_yb_0 (hw : zp_wS 12 ds) (H : zp_RS τ' τ g t (ds, true)) : ∃ τ'' p, fn_Mo_give τ' 1 = some τ'' ∧ zp_RS τ'' τ g t p ∧ zp_Yo κ r 0 z ds p := by
  obtain ⟨x, e, Hx⟩ := zp_m_give (v := 1) hw H
  exact ⟨x, _, e, Hx, zp_Yo_gen (ws := []) (vs := [1]) hw (by decide) rfl (zp_d4_one (by decide)) (fun _ => rfl) rfl rfl⟩
theorem zp_yb_1 (ho : o = 1 ∨ o = 2 ∨ o = 3 ∨ o = 4) (hw : zp_wS 12 ds) (H : zp_RS τ' τ g t (ds, true)) : ∃ τ'' p, bd (fn_Mo_take τ' 1) (fun _ x => bd (fn_Mo_take x 1) (fun _ y => fn_Mo_give y 1)) = some τ'' ∧ zp_RS τ'' τ g t p ∧ zp_Yo κ r o z ds p := by
  obtain ⟨x, ex, Hx⟩ := zp_m_take (v := 1) hw (by decide) H
  have wx := (zp_tk_w (v := 1) (p := (ds, true)) hw).1
  obtain ⟨y, ey, Hy⟩ := zp_m_take (v := 1) wx (by decide) Hx
  have wy := (zp_tk_w (v := 1) wx).1
  obtain ⟨w, ew, Hw⟩ := zp_m_give (v := 1) wy Hy
  refine ⟨w, zp_gvs [1] (zp_tks [1, 1] (ds, true)), ?_, Hw, ?_⟩
  · rw [show fn_Mo_take τ' 1 = _ from ex]
    simp only [bd]
    rw [show fn_Mo_take x 1 = _ from ey]
    exact ew
  · rcases ho with rfl | rfl | rfl | rfl <;> exact zp_Yo_gen (ws := [1, 1]) (vs := [1]) hw (by decide) rfl (zp_d4_one (by decide)) (fun _ => rfl) rfl rfl
theorem zp_q_5 (h1 : ¬ z < 0) : z ≤ 5 ↔ ¬ (6 : Int32) ≤ z := by
  obtain ⟨n, hn, rfl⟩ := zp_q_of h1
  rw [show (5 : Int32) = nI 5 from rfl, show (6 : Int32) = nI 6 from rfl, zp_q_le hn (by decide), zp_q_le (by decide) hn]
  omega
theorem zp_isLo_ft (h : zp_isLo z = false) : z < 0 ∨ (¬ z < 0 ∧ ¬ z ≤ 5) := by
  by_cases h1 : z < 0
  · exact Or.inl h1
  · refine Or.inr ⟨h1, fun q => ?_⟩
    have := (zp_q_5 h1).mp q
    simp [zp_isLo, h1, this] at h
theorem zp_Yo_bad (hw : zp_wS 12 ds) (hn : zp_nf κ o z ds = false) : zp_Yo κ r o z ds (ds, false) := ⟨hw, by rw [hn]; rfl, fun q => by cases q⟩
theorem zp_yb_5 (hw : zp_wS 12 ds) (H : zp_RS τ' τ g t (ds, true)) : ∃ τ'' p, fn_Mo_tryLocal τ' 5 z = some τ'' ∧ zp_RS τ'' τ g t p ∧ zp_Yo κ r 5 z ds p := by
  have h2 := hw.2
  unfold fn_Mo_tryLocal
  cases hl : zp_isLo z with
  | false =>
    have hY : zp_Yo κ r 5 z ds (ds, false) := zp_Yo_bad hw (by simp [zp_nf, hl])
    rcases zp_isLo_ft hl with q | ⟨q1, q2⟩
    · rw [if_pos q]; exact ⟨_, _, rfl, zp_RS_bad H, hY⟩
    · rw [if_neg q1, if_neg q2]; exact ⟨_, _, rfl, zp_RS_bad H, hY⟩
  | true =>
    obtain ⟨n, hn, rfl⟩ := zp_isLo_n hl
    rw [if_neg (zp_q_nn (by omega)), if_pos (show nI n ≤ (5 : Int32) from (zp_q_le (b := 5) (by omega) (by decide)).mpr (by omega)), if_neg (show ¬ (5 : Int32) = 6 by decide), if_neg (zp_q_in (by omega) (by omega)), zp_q_nat (by omega)]
    have hin : ¬ (nI n < 0 ∨ 12 ≤ n) := fun q => q.elim (zp_q_nn (by omega)) (by omega)
    rw [if_neg hin]
    have l4 := zp_d4_get hw.1 n
    have hr10 : τ' 10 n = nI (ds.getD n 0) := by
      obtain ⟨row, rfl, hr⟩ := H
      exact hr n (by show n < ds.length; omega)
    rw [hr10]
    have key : ∀ ok : Bool, ok = (decide (ds.getD n 0 = 1) || decide (ds.getD n 0 = 2)) → ∃ τ'' p, fn_Mo_tryLocal_63 5 (nI n) τ' (zp_b2 ok) = some τ'' ∧ zp_RS τ'' τ g t p ∧ zp_Yo κ r 5 (nI n) ds p := fun ok hok => by
      unfold fn_Mo_tryLocal_63
      rw [if_pos (by cases ok; exact Or.inr rfl; exact Or.inl rfl)]
      simp only [nm]
      rw [if_neg (zp_q_in (by omega) (by omega)), zp_q_nat (by omega)]
      have H7 : zp_RS (mw τ' 0 13 (zp_b2 ok)) τ g t (ds, ok) := by
        obtain ⟨row, rfl, hr⟩ := H
        rw [zp_mw_b]
        exact ⟨row, rfl, hr⟩
      have e7 : mw τ' 0 13 (zp_b2 ok) 10 n = nI (ds.getD n 0) := by rw [← hr10]; rfl
      obtain ⟨x, ex, Hx⟩ := zp_m_give (v := ds.getD n 0) hw H7
      rw [e7, ex]
      refine ⟨x, _, rfl, Hx, zp_gv_w hw l4, ?_⟩
      obtain ⟨g1, g2⟩ := zp_gvs_spec [ds.getD n 0] ds ok hw (zp_d4_one l4)
      have hpo : zp_popok (zp_wants κ r 5 (nI n)) ds = true := by
        unfold zp_popok
        simp [zp_wants, zp_wtab, h2.1]
      have ea : zp_aft κ 5 (nI n) ds = ds ++ [ds.getD n 0] := by
        unfold zp_aft
        rw [if_neg (by decide)]
        simp [zp_wants, zp_wtab, zp_puts, zp_q_nat (show n < 2 ^ 31 by omega)]
      refine ⟨?_, fun q => ?_⟩
      · rw [show (zp_gv (ds.getD n 0) (ds, ok)).2 = (zp_gvs [ds.getD n 0] (ds, ok)).2 from rfl, g1, hpo, ea, Bool.and_true, hok]
        simp [zp_nf, hl, zp_q_nat (show n < 2 ^ 31 by omega)]
      · rw [ea]; exact g2 q
    unfold fn_Mo_tryLocal_62
    generalize ds.getD n 0 = v at l4 key ⊢
    rcases (show v = 0 ∨ v = 1 ∨ v = 2 ∨ v = 3 by omega) with rfl | rfl | rfl | rfl
    · rw [if_neg (by decide), if_neg (by decide)]; exact key false (by decide)
    · rw [if_pos (by decide)]; exact key true (by decide)
    · rw [if_neg (by decide), if_pos (by decide)]; exact key true (by decide)
    · rw [if_neg (by decide), if_neg (by decide)]; exact key false (by decide)
theorem zp_yb_6 (hw : zp_wS 12 ds) (H : zp_RS τ' τ g t (ds, true)) : ∃ τ'' p, fn_Mo_tryLocal τ' 6 z = some τ'' ∧ zp_RS τ'' τ g t p ∧ zp_Yo κ r 6 z ds p := by
  have h2 := hw.2
  unfold fn_Mo_tryLocal
  cases hl : zp_isLo z with
  | false =>
    have hY : zp_Yo κ r 6 z ds (ds, false) := zp_Yo_bad hw (by simp [zp_nf, hl])
    rcases zp_isLo_ft hl with q | ⟨q1, q2⟩
    · rw [if_pos q]; exact ⟨_, _, rfl, zp_RS_bad H, hY⟩
    · rw [if_neg q1, if_neg q2]; exact ⟨_, _, rfl, zp_RS_bad H, hY⟩
  | true =>
    obtain ⟨n, hn, rfl⟩ := zp_isLo_n hl
    obtain ⟨x, ex, Hx⟩ := zp_m_take (v := 3) hw (by decide) H
    have wx := zp_tk_w (v := 3) (p := (ds, true)) hw
    rw [if_neg (zp_q_nn (by omega)), if_pos (show nI n ≤ (5 : Int32) from (zp_q_le (b := 5) (by omega) (by decide)).mpr (by omega)), if_pos rfl, show fn_Mo_take τ' 3 = _ from ex]
    simp only [bd, nm]
    rw [if_neg (zp_q_in (by omega) (by omega)), zp_q_nat (by omega)]
    obtain ⟨row, rfl, hr⟩ := Hx
    rw [zp_mw_r]
    have hln : n < (zp_tk 3 (ds, true)).2.1.length := by have := wx.1.2; omega
    refine ⟨_, ((zp_tk 3 (ds, true)).2.1.set n (zp_tk 3 (ds, true)).1, (zp_tk 3 (ds, true)).2.2), rfl, ⟨upd row n (nI (zp_tk 3 (ds, true)).1), ?_, ?_⟩, ?_⟩
    · simp only [List.length_set]
    · intro i hi
      simp only [List.length_set] at hi ⊢
      rw [zp_set_getD hln]
      unfold upd
      by_cases q : i = n
      · rw [if_pos q, if_pos q]
      · rw [if_neg q, if_neg q]; exact hr i hi
    · refine ⟨⟨fun y hy => ?_, by simp only [List.length_set]; exact wx.1.2.1, by simp only [List.length_set]; exact wx.1.2.2⟩, ?_, ?_⟩
      · rcases List.mem_or_eq_of_mem_set hy with q | q
        · exact wx.1.1 y q
        · rw [q]; exact wx.2
      · unfold zp_tk
        by_cases h6 : ds.length = 6
        · simp [h6, zp_popok, zp_wants, zp_wtab]
        · have e1 : zp_popok (zp_wants κ r 6 (nI n)) ds = true := by
            unfold zp_popok
            simp [zp_wants, zp_wtab]
            omega
          have e2 : (zp_aft κ 6 (nI n) ds).length ≤ 12 := by
            unfold zp_aft
            simp; omega
          rw [e1, decide_eq_true e2]
          simp [h6, zp_nf, hl]
      · intro q
        unfold zp_tk at q ⊢
        by_cases h6 : ds.length = 6
        · simp [h6] at q
        · simp only [h6, if_false]
          unfold zp_aft
          rw [if_pos rfl, zp_q_nat (by omega)]
end
end

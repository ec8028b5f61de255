/-! the functions alone, 8 -/
noncomputable section
def zp_cE (κ τ : mm_M) : Prop := τ 0 0 = κ 1 0 ∧ τ 1 = κ 2 ∧ τ 2 = κ 3 ∧ τ 3 = κ 4 ∧ τ 4 = κ 5 ∧ τ 5 = κ 6 ∧ τ 6 = κ 7
def zp_tks : List Nat → List Nat × Bool → List Nat × Bool
  | [], p => p
  | v :: ws, p => zp_tks ws (zp_tk v p).2
def zp_gvs : List Nat → List Nat × Bool → List Nat × Bool
  | [], p => p
  | v :: vs, p => zp_gvs vs (zp_gv v p)
theorem zp_ck_sh {v : Nat} {ws ds : List Nat} {d : Nat} (hd : d + 1 < ds.length) : zp_ck (v :: ws) ds (d + 1) = zp_ck ws (ds.take (ds.length - 1)) d := by
  unfold zp_ck
  rw [show (v :: ws).getD (d + 1) 0 = ws.getD d 0 by simp, List.length_take, zp_take_getD (by omega), show min (ds.length - 1) ds.length - 1 - d = ds.length - 1 - (d + 1) by omega]
theorem zp_popok_ck (ws ds : List Nat) : zp_popok ws ds = (decide (ws.length + 6 ≤ ds.length) && (List.range ws.length).all (zp_ck ws ds)) := rfl
theorem zp_popok_cons {v : Nat} {ws ds : List Nat} (h : 6 < ds.length) : zp_popok (v :: ws) ds = (zp_ck (v :: ws) ds 0 && zp_popok ws (ds.take (ds.length - 1))) := by
  rw [zp_popok_ck, zp_popok_ck]
  have e1 : (decide ((v :: ws).length + 6 ≤ ds.length)) = (decide (ws.length + 6 ≤ (ds.take (ds.length - 1)).length)) := by
    apply decide_eq_decide.mpr
    simp only [List.length_cons, List.length_take]; omega
  rw [e1, List.length_cons, List.range_succ_eq_map, List.all_cons, List.all_map]
  by_cases hl : ws.length + 6 ≤ (ds.take (ds.length - 1)).length
  · have e2 : (List.range ws.length).all (zp_ck (v :: ws) ds ∘ Nat.succ) = (List.range ws.length).all (zp_ck ws (ds.take (ds.length - 1))) := by
      have hl2 := hl
      rw [List.length_take] at hl2
      rw [Bool.eq_iff_iff, List.all_eq_true, List.all_eq_true]
      constructor
      · intro q x hx
        have hx2 := List.mem_range.mp hx
        have := q x hx
        rw [Function.comp_apply, Nat.succ_eq_add_one, zp_ck_sh (by omega)] at this
        exact this
      · intro q x hx
        have hx2 := List.mem_range.mp hx
        rw [Function.comp_apply, Nat.succ_eq_add_one, zp_ck_sh (by omega)]
        exact q x hx
    rw [e2]
    simp only [hl, decide_true, Bool.true_and]
  · simp only [hl, decide_false, Bool.false_and, Bool.and_false]
theorem zp_tks_no : ∀ (ws : List Nat) (ds : List Nat), (zp_tks ws (ds, false)).2 = false
  | [], _ => rfl
  | v :: ws, ds => by
    unfold zp_tks zp_tk
    split
    · exact zp_tks_no ws ds
    · exact zp_tks_no ws _
theorem zp_tks_w : ∀ (ws : List Nat) (p : List Nat × Bool), zp_wS 12 p.1 → zp_wS 12 (zp_tks ws p).1
  | [], _, h => h
  | v :: ws, p, h => zp_tks_w ws (zp_tk v p).2 (zp_tk_w h).1
theorem zp_gvs_w : ∀ (vs : List Nat) (p : List Nat × Bool), zp_d4 vs → zp_wS 12 p.1 → zp_wS 12 (zp_gvs vs p).1
  | [], _, _, h => h
  | v :: vs, p, h4, h => zp_gvs_w vs (zp_gv v p) (fun x hx => h4 x (by simp [hx])) (zp_gv_w h (h4 v (by simp)))
theorem zp_tks_spec : ∀ (ws : List Nat) (ds : List Nat) (ok : Bool), zp_wS 12 ds → (zp_tks ws (ds, ok)).2 = (ok && zp_popok ws ds) ∧ ((zp_tks ws (ds, ok)).2 = true → (zp_tks ws (ds, ok)).1 = ds.take (ds.length - ws.length))
  | [], ds, ok, h => by
    have h2 := h.2
    refine ⟨?_, fun _ => ?_⟩
    · simp [zp_tks, zp_popok]; intro _; omega
    · simp [zp_tks]
  | v :: ws, ds, ok, h => by
    have h2 := h.2
    unfold zp_tks zp_tk
    by_cases h6 : ds.length = 6
    · simp only [h6, if_true]
      rw [zp_tks_no]
      refine ⟨?_, fun q => by cases q⟩
      have : zp_popok (v :: ws) ds = false := by
        unfold zp_popok
        rw [decide_eq_false (by simp only [List.length_cons]; omega)]; rfl
      rw [this, Bool.and_false]
    · simp only [h6, if_false]
      obtain ⟨i1, i2⟩ := zp_tks_spec ws (ds.take (ds.length - 1)) (ok && (decide (v = 3) || decide (v = ds.getD (ds.length - 1) 0))) ⟨zp_d4_take h.1 _, by simp; omega, by simp; omega⟩
      refine ⟨?_, fun q => ?_⟩
      · rw [i1, zp_popok_cons (by omega), Bool.and_assoc]
        rfl
      · rw [i2 q, List.take_take, List.length_take, List.length_cons]
        congr 1; omega
theorem zp_gvs_no : ∀ (vs : List Nat) (ds : List Nat), (zp_gvs vs (ds, false)).2 = false
  | [], _ => rfl
  | v :: vs, ds => by
    unfold zp_gvs zp_gv
    split
    · exact zp_gvs_no vs ds
    · exact zp_gvs_no vs _
theorem zp_gvs_spec : ∀ (vs : List Nat) (ds : List Nat) (ok : Bool), zp_wS 12 ds → zp_d4 vs → (zp_gvs vs (ds, ok)).2 = (ok && decide (ds.length + vs.length ≤ 12)) ∧ ((zp_gvs vs (ds, ok)).2 = true → (zp_gvs vs (ds, ok)).1 = ds ++ vs)
  | [], ds, ok, h, _ => by
    have h2 := h.2
    refine ⟨?_, fun _ => ?_⟩
    · simp [zp_gvs]; intro _; omega
    · simp [zp_gvs]
  | v :: vs, ds, ok, h, h4 => by
    have h2 := h.2
    unfold zp_gvs zp_gv
    by_cases h12 : ds.length = 12
    · simp only [h12, if_true]
      rw [zp_gvs_no]
      refine ⟨?_, fun q => by cases q⟩
      rw [decide_eq_false (by simp only [List.length_cons]; omega), Bool.and_false]
    · simp only [h12, if_false]
      have hv : v < 4 := h4 v (by simp)
      obtain ⟨i1, i2⟩ := zp_gvs_spec vs (ds ++ [v]) ok ⟨zp_d4_app h.1 (zp_d4_one hv), by simp; omega, by simp; omega⟩ (fun x hx => h4 x (by simp [hx]))
      refine ⟨?_, fun q => ?_⟩
      · rw [i1]
        congr 1
        apply decide_eq_decide.mpr
        simp only [List.length_append, List.length_cons, List.length_nil]; omega
      · rw [i2 q, List.append_assoc]; rfl
def zp_Yo (κ : mm_M) (r o : Nat) (z : Int32) (ds : List Nat) (p : List Nat × Bool) : Prop := zp_wS 12 p.1 ∧ p.2 = (zp_nf κ o z ds && zp_popok (zp_wants κ r o z) ds && decide ((zp_aft κ o z ds).length ≤ 12)) ∧ (p.2 = true → p.1 = zp_aft κ o z ds)
theorem zp_Yo_gen {κ : mm_M} {r o : Nat} {z : Int32} {ds : List Nat} {ws vs : List Nat} (h : zp_wS 12 ds) (h6 : o ≠ 6) (hw : zp_wants κ r o z = ws) (h4 : zp_d4 vs) (hv : zp_popok ws ds = true → zp_puts κ o z ds = vs) (hvl : (zp_puts κ o z ds).length = vs.length) (hn : zp_nf κ o z ds = true) : zp_Yo κ r o z ds (zp_gvs vs (zp_tks ws (ds, true))) := by
  have h2 := h.2
  obtain ⟨t1, t2⟩ := zp_tks_spec ws ds true h
  have tw := zp_tks_w ws (ds, true) h
  generalize zp_tks ws (ds, true) = q at t1 t2 tw
  obtain ⟨d, k⟩ := q
  obtain ⟨g1, g2⟩ := zp_gvs_spec vs d k tw h4
  refine ⟨zp_gvs_w vs _ h4 tw, ?_, ?_⟩
  · rw [g1, hn, hw, Bool.true_and]
    simp only at t1
    rw [t1, Bool.true_and]
    by_cases hp : zp_popok ws ds = true
    · rw [hp, Bool.true_and, Bool.true_and]
      have hk : k = true := by rw [t1, hp]; rfl
      have hd := t2 hk
      simp only at hd
      apply decide_eq_decide.mpr
      unfold zp_aft
      rw [if_neg h6, zp_wants_len κ 0 r, hw, List.length_append, hvl, hd]
    · simp only [Bool.not_eq_true] at hp
      rw [hp]; rfl
  · intro q
    have hk : k = true ∧ decide (d.length + vs.length ≤ 12) = true := by rw [g1, Bool.and_eq_true] at q; exact q
    have hd := t2 hk.1
    simp only at hd t1
    rw [g2 q, hd]
    unfold zp_aft
    rw [if_neg h6, zp_wants_len κ 0 r, hw, hv (by rw [hk.1, Bool.true_and] at t1; exact t1.symm)]
section
variable {κ τ τ' : mm_M} {g t : Int32} {p : List Nat × Bool} {r : Nat} {z k : Int32}
theorem zp_m_isA (hE : zp_cE κ τ') : fn_Mo_isAddress τ' z = some (if zp_isA κ z then 1 else 0, τ') := by
  unfold fn_Mo_isAddress zp_isA
  rw [hE.1]
  by_cases h1 : z < 0
  · simp [h1]
  · by_cases h2 : κ 1 0 ≤ z
    · simp [h1, h2]
    · simp [h1, h2]
theorem zp_m_kind (hE : zp_cE κ τ') (hr : r < 4) : fn_Mo_kindOf τ' (nI r) k = some (nI (zp_kd κ r k), τ') := by
  unfold fn_Mo_kindOf zp_kd
  rw [if_neg (zp_q_in (by omega) hr), zp_q_nat (by omega), hE.2.2.2.2.2.2]
  by_cases h : ((κ 7 r >>> (k &&& 31)) &&& 1) = 1
  · rw [if_pos h, if_pos h]; rfl
  · rw [if_neg h, if_neg h]; rfl
theorem zp_RS_cE (hE : zp_cE κ τ) (H : zp_RS τ' τ g t p) : zp_cE κ τ' := by
  obtain ⟨row, rfl, -⟩ := H
  exact hE
theorem zp_m_214 {a : Nat} {a0 : Int32} (hE : zp_cE κ τ) (H : zp_RS τ' τ g t p) (hg : g = 0 ∨ g = 1) : ∃ τ'', fn_Mo_tryOut_214 a0 (nI a) τ' = some τ'' ∧ zp_RS τ'' τ g t (p.1, p.2 && (decide (g = 0) || zp_isA κ (nI a + 1))) := by
  have hE' := zp_RS_cE hE H
  unfold fn_Mo_tryOut_214
  rw [zp_m_isA hE']
  obtain ⟨row, rfl, hr⟩ := H
  simp only [zp_sc_b, zp_sc_g, zp_mw_b, nm, bd]
  cases hp : p.2 with
  | false =>
    rw [if_neg (show ¬ zp_b2 false = 0 by decide)]
    exact ⟨_, rfl, row, rfl, hr⟩
  | true =>
    rw [if_pos (show zp_b2 true = 0 by decide)]
    rcases hg with rfl | rfl
    · rw [if_pos rfl]
      exact ⟨_, rfl, row, rfl, hr⟩
    · rw [if_neg (by decide)]
      cases hi : zp_isA κ (nI a + 1) with
      | false => exact ⟨_, rfl, row, rfl, hr⟩
      | true => exact ⟨_, rfl, row, rfl, hr⟩
theorem zp_m_goTo (hE : zp_cE κ τ) (H : zp_RS τ' τ g t p) : ∃ τ'', fn_Mo_goTo τ' z = some τ'' ∧ zp_RS τ'' τ g z (p.1, p.2 && zp_isA κ z) := by
  have hE' := zp_RS_cE hE H
  unfold fn_Mo_goTo fn_Mo_goTo_16
  rw [zp_m_isA hE']
  obtain ⟨row, rfl, hr⟩ := H
  simp only [zp_sc_b, zp_mw_b, zp_mw_t, nm, bd]
  cases hp : p.2 with
  | false =>
    rw [if_neg (show ¬ zp_b2 false = 0 by decide)]
    exact ⟨_, rfl, row, rfl, hr⟩
  | true =>
    rw [if_pos (show zp_b2 true = 0 by decide)]
    cases hi : zp_isA κ z with
    | false => exact ⟨_, rfl, row, rfl, hr⟩
    | true => exact ⟨_, rfl, row, rfl, hr⟩
theorem zp_RS_bad (H : zp_RS τ' τ g t p) : zp_RS (mw τ' 0 13 1) τ g t (p.1, false) := by
  obtain ⟨row, rfl, hr⟩ := H
  rw [zp_mw_b]
  exact ⟨row, rfl, hr⟩
end
end

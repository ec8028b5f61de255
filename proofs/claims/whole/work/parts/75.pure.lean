/-! the functions alone, 25 -/
noncomputable section
theorem zp_q_shl : ∀ u : Nat, u < 31 → nI u <<< ((4 : Int32) &&& 31) = nI (16 * u) := by decide
theorem zp_q_div {x : Nat} (h : x < 2 ^ 31) : nI x / (16 : Int32) = nI (x / 16) := by
  apply Int32.toInt_inj.mp
  rw [Int32.toInt_div_of_ne_left, zp_q_int h, zp_q_int (by omega), show (16 : Int32).toInt = ((16 : Nat) : Int) by decide, Int.ofNat_tdiv]
  intro q
  have := congrArg Int32.toInt q
  rw [zp_q_int h, show Int32.minValue.toInt = -2147483648 by decide] at this
  omega
theorem zp_r_len {e n : Nat} (hn : n ≤ 12) (he : e ≤ 30) : ((nI (1 + 16 * e + n) - (1 : Int32)) &&& (15 : Int32)) = nI n ∧ (nI (1 + 16 * e + n) - (1 : Int32)) - (nI (1 + 16 * e + n) - (1 : Int32)) / (16 : Int32) * (16 : Int32) = nI n ∧ (nI (1 + 16 * e + n) - (1 : Int32)) >>> ((4 : Int32) &&& 31) = nI e ∧ (nI (1 + 16 * e + n) - (1 : Int32)) / (16 : Int32) = nI e := by
  have e1 : nI (1 + 16 * e + n) - (1 : Int32) = nI (16 * e + n) := by
    rw [show (1 : Int32) = nI 1 from rfl, zp_q_sub (by omega)]; congr 1; omega
  rw [e1]
  have e2 : (16 * e + n) / 16 = e := by omega
  refine ⟨by rw [zp_q_m15]; congr 1; omega, ?_, ?_, by rw [zp_q_div (by omega), e2]⟩
  · rw [zp_q_div (by omega), e2, show (16 : Int32) = nI 16 from rfl, zp_q_mul, zp_q_sub (by omega)]; congr 1; omega
  · rw [show ((4 : Int32) &&& 31) = nI 4 by decide, zp_q_sh (by omega) (by omega)]; congr 1
def zp_TOP (σ τ : mm_M) (i u : Nat) (vs : zp_VL) : Prop := i < 8 ∧ u ≤ 30 ∧ σ 16 1 = nI u ∧ τ 0 22 = nI u ∧ (∀ j, j < u → σ 17 j = τ 16 j) ∧ zp_CF σ i vs ∧ zp_MF τ i vs ∧ zp_okv u vs ∧ τ 0 16 = nI (i + 1) ∧ σ 16 0 = nI (i + 1)
def zp_PO (σ τ σ' τ' : mm_M) (i u : Nat) (vs' : zp_VL) : Prop := ∃ u', u ≤ u' ∧ u' ≤ 30 ∧ σ' 16 1 = nI u' ∧ τ' 0 22 = nI u' ∧ (∀ j, j < u' → σ' 17 j = τ' 16 j) ∧ zp_CF σ' i vs' ∧ zp_MF τ' i vs' ∧ zp_okv u' vs' ∧ (∀ k j, ¬ (k = 19 + 2 * i ∧ j = 2) → k ≠ 20 + 2 * i → k ≠ 17 → ¬ (k = 16 ∧ j = 1) → σ' k j = σ k j) ∧ ∀ k j, ¬ (k = 13 ∧ j = i) → ¬ ((k = 14 ∨ k = 15) ∧ 12 * i ≤ j ∧ j < 12 * i + 12) → k ≠ 16 → ¬ (k = 0 ∧ j = 22) → τ' k j = τ k j
def zp_pfT (o : Nat) (z : Int32) (τ : mm_M) : Option mm_M :=
  if o = 0 then fn_Mo_put τ 1 z else if o = 9 then fn_Mo_put τ 2 0 else if o ≤ 4 then fn_Mo_calculate τ (nI o) else if o = 8 then fn_Mo_drop τ 1 else if o = 10 then fn_Mo_drop τ 1 else if o = 11 ∨ o = 12 ∨ o = 13 ∨ o = 14 then fn_Mo_onArrays τ (nI o) else if o = 18 then fn_Mo_call τ z else if o = 19 then fn_Mo_giveBack τ else if o = 7 then some τ else fn_Mo_onPlaces τ (nI o) z
theorem zp_bd_some {α β : Type} (x : α) (σ : mm_M) (k : α → mm_M → Option β) : bd (some (x, σ)) k = k x σ := rfl
theorem zp_bv_id (x : Option mm_M) : bv x (fun y => some y) = x := by cases x <;> rfl
theorem zp_m_pf {τ : mm_M} {a0 s0 z : Int32} {o i : Nat} (ho : o < 20) (hi : i < 8) : fn_Mo_perform_69 a0 τ (nI o) z s0 (nI i) = zp_pfT o z (mw τ 12 i s0) := by
  have hi1 : ¬ (nI i < 0 ∨ 8 ≤ i) := fun q => q.elim (zp_q_nn (by omega)) (by omega)
  unfold fn_Mo_perform_69
  rw [zp_q_nat (by omega), if_neg hi1]
  simp only [nm]
  unfold zp_pfT
  rcases zp_o20 ho with rfl | rfl | rfl | rfl | rfl | rfl | rfl | rfl | rfl | rfl | rfl | rfl | rfl | rfl | rfl | rfl | rfl | rfl | rfl | rfl <;>
    simp +decide only [fn_Mo_perform_80, fn_Mo_perform_90, fn_Mo_perform_158, if_true, if_false, zp_bv_id]
  all_goals rfl
section
variable {σ τ : mm_M} {i u : Nat} {vs ws : zp_VL} {z : Int32}
theorem zp_PO_of {σ' τ' : mm_M} (H : zp_TOP σ τ i u vs) (h1 : zp_CF σ' i ws) (h2 : zp_MF τ' i ws) (h3 : zp_okv u ws) (f : zp_FrF i σ σ') (g : zp_MrF i τ τ') : zp_PO σ τ σ' τ' i u ws := by
  obtain ⟨a1, a2, a3, a4, a5, a6, a7, a8, a9, a10⟩ := H
  refine ⟨u, Nat.le_refl _, a2, ?_, ?_, fun j hj => ?_, h1, h2, h3, fun k j b1 zp_b2 _ _ => f k j b1 zp_b2, fun k j b1 zp_b2 _ _ => g k j b1 zp_b2⟩
  · rw [f 16 1 (by omega) (by omega)]; exact a3
  · rw [g 0 22 (by omega) (by omega)]; exact a4
  · rw [f 17 j (by omega) (by omega), g 16 j (by omega) (by omega)]; exact a5 j hj
theorem zp_op_push {t : Nat} {v : Int32} (H : zp_TOP σ τ i u vs) (hl : vs.length ≤ 11) (ht : t < 4) (h0 : t ≠ 0) (h2 : t = 2 → zp_okr u v) : ∃ σ' τ', fn_Fr_push σ i (nI t) v = some σ' ∧ fn_Mo_put τ (nI t) v = some τ' ∧ zp_PO σ τ σ' τ' i u (vs ++ [(t, v)]) := by
  obtain ⟨a1, a2, a3, a4, a5, a6, a7, a8, a9, a10⟩ := id H
  obtain ⟨σ', e1, c1, f1⟩ := zp_cf_push (t := t) (v := v) a6 a8.1 hl ht
  obtain ⟨τ', e2, c2, f2⟩ := zp_mf_put (t := t) (v := v) a7 a1 a9 (zp_okv_len a8).1 hl
  exact ⟨σ', τ', e1, e2, zp_PO_of H c1 c2 (zp_okv_app a8 hl ht h0 h2) f1 f2⟩
theorem zp_op_0 (H : zp_TOP σ τ i u vs) (hl : vs.length ≤ 11) : ∃ σ' τ' vs', fn_Ma_act σ i 0 z = some σ' ∧ zp_pfT 0 z τ = some τ' ∧ zp_PO σ τ σ' τ' i u vs' := by
  obtain ⟨σ', τ', e1, e2, P⟩ := zp_op_push (t := 1) (v := z) H hl (by decide) (by decide) (fun q => by cases q)
  refine ⟨σ', τ', _, ?_, ?_, P⟩
  · unfold fn_Ma_act fn_Ma_move
    simp +decide only [if_false, if_true, zp_bv_id]
    exact e1
  · unfold zp_pfT
    simp +decide only [if_false, if_true]
    exact e2
theorem zp_op_9 (H : zp_TOP σ τ i u vs) (hl : vs.length ≤ 11) : ∃ σ' τ' vs', fn_Ma_act σ i 9 z = some σ' ∧ zp_pfT 9 z τ = some τ' ∧ zp_PO σ τ σ' τ' i u vs' := by
  obtain ⟨σ', τ', e1, e2, P⟩ := zp_op_push (t := 2) (v := 0) H hl (by decide) (by decide) (fun _ => Or.inl rfl)
  refine ⟨σ', τ', _, ?_, ?_, P⟩
  · unfold fn_Ma_act fn_Ma_move
    simp +decide only [if_false, if_true, zp_bv_id]
    exact e1
  · unfold zp_pfT
    simp +decide only [if_false, if_true]
    exact e2
theorem zp_gk_1 {ws : zp_VL} {p : Nat × Int32} : zp_gk (ws ++ [p]) ((ws ++ [p]).length - 1 - 0) = p := by
  rw [show (ws ++ [p]).length - 1 - 0 = ws.length by simp, zp_gk_r (Nat.le_refl _), Nat.sub_self]; rfl
theorem zp_gk_2 {ws : zp_VL} {q p : Nat × Int32} : zp_gk (ws ++ [q] ++ [p]) ((ws ++ [q] ++ [p]).length - 1 - 1) = q := by
  rw [show (ws ++ [q] ++ [p]).length - 1 - 1 = ws.length by simp, zp_gk_l (by simp), zp_gk_r (Nat.le_refl _), Nat.sub_self]; rfl
theorem zp_gk_3 {ws : zp_VL} {w q p : Nat × Int32} : zp_gk (ws ++ [w] ++ [q] ++ [p]) ((ws ++ [w] ++ [q] ++ [p]).length - 1 - 2) = w := by
  rw [show (ws ++ [w] ++ [q] ++ [p]).length - 1 - 2 = ws.length by simp, zp_gk_l (by simp), zp_gk_l (by simp), zp_gk_r (Nat.le_refl _), Nat.sub_self]; rfl
theorem zp_op_14 {p : Nat × Int32} (H : zp_TOP σ τ i u (ws ++ [p])) (h6 : 6 ≤ ws.length) (hp : p.1 = 2) (hv : p.2 ≠ 0) : ∃ σ' τ' vs', fn_Ma_act σ i 14 z = some σ' ∧ zp_pfT 14 z τ = some τ' ∧ zp_PO σ τ σ' τ' i u vs' := by
  obtain ⟨a1, a2, a3, a4, a5, a6, a7, a8, a9, a10⟩ := id H
  have hl := zp_okv_len a8
  rw [List.length_append] at hl
  simp only [List.length_cons, List.length_nil] at hl
  have hp0 : p.1 ≠ 0 := by rw [hp]; decide
  have hr : zp_okr u p.2 := by
    have := zp_okv_get a8 (k := ws.length) (by omega) (by simp)
    rw [zp_gk_r (Nat.le_refl _), Nat.sub_self] at this
    exact this.2.2 hp
  obtain ⟨e, n, hn, hen, ev⟩ := hr.resolve_left hv
  obtain ⟨r1, r2, r3, r4⟩ := zp_r_len hn (show e ≤ 30 by omega)
  rw [← ev] at r1 r2 r3 r4
  obtain ⟨σ1, e1, c1, f1⟩ := zp_cf_pop a6 a8.1 h6 hp0
  have ok1 := zp_okv_pre a8 h6
  obtain ⟨σ2, e2, c2, f2⟩ := zp_cf_push (t := 1) (v := nI n) c1 ok1.1 (by omega) (by decide)
  have eb := zp_mf_below (d := 0) a7 a1 a9 (by simp; omega) (by simp; omega) (by rw [zp_gk_1]; exact hp0)
  rw [zp_gk_1] at eb
  obtain ⟨τ1, e3, c3, f3⟩ := zp_mf_drop (xs := [p]) a7 a1 a9 h6 (by simp; omega)
  obtain ⟨τ2, e4, c4, f4⟩ := zp_mf_put (t := 1) (v := nI n) c3 a1 (by rw [f3 0 16 (by omega) (by omega)]; exact a9) h6 (by omega)
  refine ⟨σ2, τ2, _, ?_, ?_, zp_PO_of H c2 c4 (zp_okv_app ok1 (by omega) (by decide) (by decide) (fun q => by cases q)) (zp_FrF_tr f1 f2) (zp_MrF_tr f3 f4)⟩
  · have hA : fn_Ma_act σ i 14 z = bd (fn_Fr_pop σ i) (fun r13 σ12 => bd (fn_Ma_lengthOf σ12 r13) (fun r15 σ14 => fn_Fr_push σ14 i 1 r15)) := by
      unfold fn_Ma_act fn_Ma_useArray
      simp +decide only [if_false, if_true, zp_bv_id]
    have hB : fn_Ma_lengthOf σ1 p.2 = some (nI n, σ1) := by unfold fn_Ma_lengthOf; rw [r1]
    rw [hA, e1, zp_bd_some, hB, zp_bd_some]
    exact e2
  · unfold zp_pfT fn_Mo_onArrays fn_Mo_lengthOf
    simp +decide only [if_false, if_true, zp_bv_id]
    rw [show fn_Mo_below τ 0 = _ from eb]
    simp only [bd]
    rw [r2, show fn_Mo_drop τ 1 = _ from e3]
    simp only [zp_bv_some]
    exact e4
theorem zp_op_17 {p : Nat × Int32} (H : zp_TOP σ τ i u (ws ++ [p])) (h6 : 6 ≤ ws.length) (hp0 : p.1 ≠ 0) : ∃ σ' τ' vs', fn_Ma_act σ i 17 z = some σ' ∧ zp_pfT 17 z τ = some τ' ∧ zp_PO σ τ σ' τ' i u vs' := by
  obtain ⟨a1, a2, a3, a4, a5, a6, a7, a8, a9, a10⟩ := id H
  have hl := zp_okv_len a8
  rw [List.length_append] at hl
  simp only [List.length_cons, List.length_nil] at hl
  obtain ⟨σ1, e1, c1, f1⟩ := zp_cf_pop a6 a8.1 h6 hp0
  obtain ⟨τ1, e3, c3, f3⟩ := zp_mf_drop (xs := [p]) a7 a1 a9 h6 (by simp; omega)
  refine ⟨σ1, τ1, _, ?_, ?_, zp_PO_of H c1 c3 (zp_okv_pre a8 h6) f1 f3⟩
  · unfold fn_Ma_act fn_Ma_move
    simp +decide only [if_false, zp_bv_id]
    rw [e1]; rfl
  · have hi1 : ¬ (nI i < 0 ∨ 8 ≤ i) := fun q => q.elim (zp_q_nn (by omega)) (by omega)
    unfold zp_pfT fn_Mo_onPlaces
    rw [a9, zp_q_top a1]
    simp +decide only [if_false, zp_bv_id, nm, zp_q_nat (show i < 2 ^ 31 by omega), if_neg hi1]
    exact e3
theorem zp_op_1 {o : Nat} {p q : Nat × Int32} (H : zp_TOP σ τ i u (ws ++ [q] ++ [p])) (h6 : 6 ≤ ws.length) (hp : p.1 = 1) (hq : q.1 = 1) (ho : o = 1 ∨ o = 2 ∨ o = 3 ∨ o = 4) (hd : o = 4 → p.2 ≠ 0) : ∃ σ' τ' vs', fn_Ma_act σ i o z = some σ' ∧ zp_pfT o z τ = some τ' ∧ zp_PO σ τ σ' τ' i u vs' := by
  obtain ⟨a1, a2, a3, a4, a5, a6, a7, a8, a9, a10⟩ := id H
  have hl := zp_okv_len a8
  simp only [List.length_append, List.length_cons, List.length_nil] at hl
  have hp0 : p.1 ≠ 0 := by rw [hp]; decide
  have hq0 : q.1 ≠ 0 := by rw [hq]; decide
  have ok1 := zp_okv_pre a8 (by simp; omega)
  have ok2 := zp_okv_pre ok1 h6
  obtain ⟨σ1, e1, c1, f1⟩ := zp_cf_pop a6 a8.1 (by simp; omega) hp0
  obtain ⟨σ2, e2, c2, f2⟩ := zp_cf_pop c1 ok1.1 h6 hq0
  have eb0 := zp_mf_below (d := 0) a7 a1 a9 (by simp; omega) (by simp; omega) (by rw [zp_gk_1]; exact hp0)
  rw [zp_gk_1] at eb0
  have eb1 := zp_mf_below (d := 1) a7 a1 a9 (by simp; omega) (by simp; omega) (by rw [zp_gk_2]; exact hq0)
  rw [zp_gk_2] at eb1
  have a7' : zp_MF τ i (ws ++ [q, p]) := by rw [List.append_assoc] at a7; exact a7
  obtain ⟨τ1, e3, c3, f3⟩ := zp_mf_drop (xs := [q, p]) a7' a1 a9 h6 (by simp; omega)
  have key : ∀ v, ∃ σ' τ' vs', fn_Fr_push σ2 i 1 v = some σ' ∧ fn_Mo_put τ1 1 v = some τ' ∧ zp_PO σ τ σ' τ' i u vs' := fun v => by
    obtain ⟨σ3, e5, c5, f5⟩ := zp_cf_push (t := 1) (v := v) c2 ok2.1 (by omega) (by decide)
    obtain ⟨τ2, e4, c4, f4⟩ := zp_mf_put (t := 1) (v := v) c3 a1 (by rw [f3 0 16 (by omega) (by omega)]; exact a9) h6 (by omega)
    exact ⟨σ3, τ2, _, e5, e4, zp_PO_of H c5 c4 (zp_okv_app ok2 (by omega) (by decide) (by decide) (fun q => by cases q)) (zp_FrF_tr (zp_FrF_tr f1 f2) f5) (zp_MrF_tr f3 f4)⟩
  have hA : ∀ o, (o = 1 ∨ o = 2 ∨ o = 3 ∨ o = 4) → fn_Ma_act σ i o z = bd (fn_Ma_reckoned σ2 o q.2 p.2) (fun r6 σ5 => fn_Fr_push σ5 i 1 r6) := fun o ho => by
    unfold fn_Ma_act fn_Ma_reckon
    rw [e1]
    simp only [bd]
    rw [e2]
    rcases ho with rfl | rfl | rfl | rfl <;> simp +decide only [if_false, if_true, zp_bv_id]
  have hB : ∀ o, (o = 1 ∨ o = 2 ∨ o = 3 ∨ o = 4) → zp_pfT o z τ = fn_Mo_calculate τ (nI o) := fun o ho => by
    unfold zp_pfT
    rcases ho with rfl | rfl | rfl | rfl <;> simp +decide only [if_false, if_true]
  rw [hA o ho, hB o ho]
  unfold fn_Mo_calculate fn_Ma_reckoned
  rw [show fn_Mo_below τ 0 = _ from eb0]
  simp only [bd]
  rw [show fn_Mo_below τ 1 = _ from eb1]
  simp only
  rw [show fn_Mo_drop τ 2 = _ from e3]
  simp only [zp_bv_id, zp_bv_some]
  rcases ho with rfl | rfl | rfl | rfl
  · simp +decide only [if_false, if_true]
    exact key _
  · simp +decide only [if_false, if_true]
    exact key _
  · simp +decide only [if_false, if_true]
    exact key _
  · have hd' := hd rfl
    simp +decide only [if_false, hd']
    exact key _
end
end

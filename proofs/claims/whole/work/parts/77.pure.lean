/-! the functions alone, 27 -/
noncomputable section
section
variable {σ τ : mm_M} {i u : Nat} {vs ws : zp_VL} {z : Int32}
theorem zp_op_12 {q p : Nat × Int32} {e n k : Nat} (H : zp_TOP σ τ i u (ws ++ [q] ++ [p])) (h6 : 6 ≤ ws.length) (hp0 : p.1 ≠ 0) (hq0 : q.1 ≠ 0) (hn : n ≤ 12) (hen : e + n ≤ u) (hq : q.2 = nI (1 + 16 * e + n)) (hk : k < n) (hp : p.2 = nI k) : ∃ σ' τ' vs', fn_Ma_act σ i 12 z = some σ' ∧ zp_pfT 12 z τ = some τ' ∧ zp_PO σ τ σ' τ' i u vs' := by
  obtain ⟨a1, a2, a3, a4, a5, a6, a7, a8, a9, a10⟩ := id H
  have hlen : (ws ++ [q] ++ [p]).length = ws.length + 2 := by simp
  have hl := zp_okv_len a8
  have ok1 := zp_okv_pre a8 (by simp; omega)
  have ok2 := zp_okv_pre ok1 h6
  obtain ⟨r1, r2, r3, r4⟩ := zp_r_len hn (show e ≤ 30 by omega)
  rw [← hq] at r1 r2 r3 r4
  obtain ⟨σ1, e1, c1, f1⟩ := zp_cf_pop a6 a8.1 (by simp; omega) hp0
  obtain ⟨σ2, e2, c2, f2⟩ := zp_cf_pop c1 ok1.1 h6 hq0
  have eb0 := zp_mf_below (d := 0) a7 a1 a9 (by omega) (by omega) (by rw [zp_gk_1]; exact hp0)
  rw [zp_gk_1] at eb0
  have eb1 := zp_mf_below (d := 1) a7 a1 a9 (by omega) (by omega) (by rw [zp_gk_2]; exact hq0)
  rw [zp_gk_2] at eb1
  have a7' : zp_MF τ i (ws ++ [q, p]) := by rw [List.append_assoc] at a7; exact a7
  obtain ⟨τ1, e3, c3, f3⟩ := zp_mf_drop (xs := [q, p]) a7' a1 a9 h6 (by simp; omega)
  obtain ⟨σ3, e5, c5, f5⟩ := zp_cf_push (t := 1) (v := σ 17 (e + k)) c2 ok2.1 (by omega) (by decide)
  obtain ⟨τ2, e4, c4, f4⟩ := zp_mf_put (t := 1) (v := σ 17 (e + k)) c3 a1 (by rw [f3 0 16 (by omega) (by omega)]; exact a9) h6 (by omega)
  have hi1 : ¬ (nI (e + k) < 0 ∨ 30 ≤ e + k) := fun q => q.elim (zp_q_nn (by omega)) (by omega)
  have hi2 : ¬ (nI (e + k) < 0 ∨ 31 ≤ e + k) := fun q => q.elim (zp_q_nn (by omega)) (by omega)
  have f12 := zp_FrF_tr f1 f2
  refine ⟨σ3, τ2, _, ?_, ?_, zp_PO_of H c5 c4 (zp_okv_app ok2 (by omega) (by decide) (by decide) (fun q => by cases q)) (zp_FrF_tr f12 f5) (zp_MrF_tr f3 f4)⟩
  · have hA : fn_Ma_act σ i 12 z = bd (fn_Fr_pop σ i) (fun r4 σ3 => bd (fn_Fr_pop σ3 i) (fun r6 σ5 => bd (fn_Ma_placeOf σ5 r6 r4) (fun r8 σ7 => if (r8 < 0 ∨ 30 ≤ r8.toNatClampNeg) then none else fn_Fr_push σ7 i 1 (σ7 17 r8.toNatClampNeg)))) := by
      unfold fn_Ma_act fn_Ma_useArray
      simp +decide only [if_false, if_true, zp_bv_id]
    have hB : fn_Ma_placeOf σ2 q.2 p.2 = some (nI (e + k), σ2) := by unfold fn_Ma_placeOf; rw [r3, hp, zp_q_add]
    rw [hA, e1, zp_bd_some, e2, zp_bd_some, hB, zp_bd_some, zp_q_nat (by omega), if_neg hi1, f12 17 (e + k) (by omega) (by omega)]
    exact e5
  · have hA : zp_pfT 12 z τ = fn_Mo_onArrays τ 12 := by
      unfold zp_pfT
      simp +decide only [if_false, if_true]
      rfl
    rw [hA]
    unfold fn_Mo_onArrays
    simp +decide only [if_false, if_true]
    rw [show fn_Mo_below τ 1 = _ from eb1, zp_bd_some, show fn_Mo_below τ 0 = _ from eb0, zp_bd_some, r4, hp, zp_q_add, zp_q_nat (by omega), if_neg hi2]
    simp only [nm]
    rw [show fn_Mo_drop τ 2 = _ from e3, zp_bv_some, zp_bv_id, ← a5 (e + k) (by omega)]
    exact e4
theorem zp_op_13 {w q p : Nat × Int32} {e n k : Nat} (H : zp_TOP σ τ i u (ws ++ [w] ++ [q] ++ [p])) (h6 : 6 ≤ ws.length) (hp0 : p.1 ≠ 0) (hq0 : q.1 ≠ 0) (hw0 : w.1 ≠ 0) (hn : n ≤ 12) (hen : e + n ≤ u) (hw : w.2 = nI (1 + 16 * e + n)) (hk : k < n) (hq : q.2 = nI k) : ∃ σ' τ' vs', fn_Ma_act σ i 13 z = some σ' ∧ zp_pfT 13 z τ = some τ' ∧ zp_PO σ τ σ' τ' i u vs' := by
  obtain ⟨a1, a2, a3, a4, a5, a6, a7, a8, a9, a10⟩ := id H
  have hlen : (ws ++ [w] ++ [q] ++ [p]).length = ws.length + 3 := by simp
  have hl := zp_okv_len a8
  have ok1 := zp_okv_pre a8 (by simp; omega)
  have ok2 := zp_okv_pre ok1 (by simp; omega)
  have ok3 := zp_okv_pre ok2 h6
  obtain ⟨r1, r2, r3, r4⟩ := zp_r_len hn (show e ≤ 30 by omega)
  rw [← hw] at r1 r2 r3 r4
  obtain ⟨σ1, e1, c1, f1⟩ := zp_cf_pop a6 a8.1 (by simp; omega) hp0
  obtain ⟨σ2, e2, c2, f2⟩ := zp_cf_pop c1 ok1.1 (by simp; omega) hq0
  obtain ⟨σ3, e3, c3, f3⟩ := zp_cf_pop c2 ok2.1 h6 hw0
  have eb0 := zp_mf_below (d := 0) a7 a1 a9 (by omega) (by omega) (by rw [zp_gk_1]; exact hp0)
  rw [zp_gk_1] at eb0
  have eb1 := zp_mf_below (d := 1) a7 a1 a9 (by omega) (by omega) (by rw [zp_gk_2]; exact hq0)
  rw [zp_gk_2] at eb1
  have eb2 := zp_mf_below (d := 2) a7 a1 a9 (by omega) (by omega) (by rw [zp_gk_3]; exact hw0)
  rw [zp_gk_3] at eb2
  have a7' : zp_MF τ i (ws ++ [w, q, p]) := by rw [List.append_assoc, List.append_assoc] at a7; exact a7
  have hi1 : ¬ (nI (e + k) < 0 ∨ 30 ≤ e + k) := fun q => q.elim (zp_q_nn (by omega)) (by omega)
  have hi2 : ¬ (nI (e + k) < 0 ∨ 31 ≤ e + k) := fun q => q.elim (zp_q_nn (by omega)) (by omega)
  have a7'' : zp_MF (mw τ 16 (e + k) p.2) i (ws ++ [w, q, p]) := by
    unfold zp_MF
    rw [zp_mw_k (by omega), zp_mw_k (by omega), zp_mw_k (by omega)]
    exact a7'
  obtain ⟨τ1, e4, c4, f4⟩ := zp_mf_drop (xs := [w, q, p]) a7'' a1 (by rw [zp_mw_k (by omega)]; exact a9) h6 (by simp; omega)
  have f123 := zp_FrF_tr (zp_FrF_tr f1 f2) f3
  refine ⟨mw σ3 17 (e + k) p.2, τ1, ws, ?_, ?_, u, Nat.le_refl _, a2, ?_, ?_, fun j hj => ?_, ?_, c4, ok3, fun k' j h1 h2 h3 h4 => ?_, fun k' j h1 h2 h3 h4 => ?_⟩
  · have hA : fn_Ma_act σ i 13 z = bd (fn_Fr_pop σ i) (fun r25 σ24 => bd (fn_Fr_pop σ24 i) (fun r27 σ26 => bd (fn_Fr_pop σ26 i) (fun r29 σ28 => bd (fn_Ma_placeOf σ28 r29 r27) (fun r31 σ30 => if (r31 < 0 ∨ 30 ≤ r31.toNatClampNeg) then none else some (mw σ30 17 r31.toNatClampNeg r25))))) := by
      unfold fn_Ma_act fn_Ma_useArray
      simp +decide only [if_false, if_true, zp_bv_id, nm]
    have hB : fn_Ma_placeOf σ3 w.2 q.2 = some (nI (e + k), σ3) := by unfold fn_Ma_placeOf; rw [r3, hq, zp_q_add]
    rw [hA, e1, zp_bd_some, e2, zp_bd_some, e3, zp_bd_some, hB, zp_bd_some, zp_q_nat (by omega), if_neg hi1]
  · have hA : zp_pfT 13 z τ = fn_Mo_onArrays τ 13 := by
      unfold zp_pfT
      simp +decide only [if_false, if_true]
      rfl
    rw [hA]
    unfold fn_Mo_onArrays
    simp +decide only [if_false, if_true]
    rw [show fn_Mo_below τ 2 = _ from eb2, zp_bd_some, show fn_Mo_below τ 1 = _ from eb1, zp_bd_some, show fn_Mo_below τ 0 = _ from eb0, zp_bd_some, r4, hq, zp_q_add, zp_q_nat (by omega), if_neg hi2]
    simp only [nm]
    rw [zp_bv_id]
    exact e4
  · rw [zp_mw_k (by omega), f123 16 1 (by omega) (by omega)]; exact a3
  · rw [f4 0 22 (by omega) (by omega), zp_mw_k (by omega)]; exact a4
  · rw [f4 16 j (by omega) (by omega)]
    by_cases g : j = e + k
    · rw [g, zp_mw_at, zp_mw_at]
    · rw [zp_mw_j g, zp_mw_j g, f123 17 j (by omega) (by omega)]; exact a5 j hj
  · unfold zp_CF
    rw [zp_mw_k (by omega), zp_mw_k (by omega)]; exact c3
  · rw [zp_mw_k h3]; exact f123 k' j h1 h2
  · rw [f4 k' j h1 h2, zp_mw_k h3]
theorem zp_c_make {n : Nat} {a0 x : Int32} (ea : a0 = nI n) : ∀ (m f j : Nat) (σ : mm_M), n - j = m → j ≤ n → m < f → u + n ≤ 30 → σ 16 1 = nI u → ∃ σ', fn_Ma_makeArray_13 a0 f σ x (nI j) = some (x, σ') ∧ σ' 16 1 = nI (u + n) ∧ (∀ k, u + j ≤ k → k < u + n → σ' 17 k = 0) ∧ (∀ k, k < u + j → σ' 17 k = σ 17 k) ∧ ∀ k' j', k' ≠ 17 → ¬ (k' = 16 ∧ j' = 1) → σ' k' j' = σ k' j' := by
  subst ea
  intro m
  induction m with
  | zero =>
    intro f j σ hm hj hf hu h1
    obtain ⟨f', rfl⟩ : ∃ f', f = f' + 1 := ⟨f - 1, by omega⟩
    unfold fn_Ma_makeArray_13
    rw [if_pos ((zp_q_le (by omega) (by omega)).mpr (by omega))]
    simp only [nm]
    refine ⟨_, rfl, by rw [zp_mw_at, h1, zp_q_add], fun k h1 h2 => by omega, fun k hk => by rw [zp_mw_k (by omega)], fun k' j' h1 h2 => zp_mw_kj h2⟩
  | succ m ih =>
    intro f j σ hm hj hf hu h1
    obtain ⟨f', rfl⟩ : ∃ f', f = f' + 1 := ⟨f - 1, by omega⟩
    have hi1 : ¬ (nI (u + j) < 0 ∨ 30 ≤ u + j) := fun q => q.elim (zp_q_nn (by omega)) (by omega)
    unfold fn_Ma_makeArray_13
    rw [if_neg (fun q => by have := (zp_q_le (by omega) (by omega)).mp q; omega), h1, zp_q_add, zp_q_nat (by omega), if_neg hi1]
    simp only [nm]
    rw [zp_q_succ]
    obtain ⟨σ', e, k1, k2, k3, k4⟩ := ih f' (j + 1) (mw σ 17 (u + j) 0) (by omega) (by omega) (by omega) hu (by rw [zp_mw_k (by omega)]; exact h1)
    refine ⟨σ', e, k1, fun k h1 h2 => ?_, fun k hk => ?_, fun k' j' h1 h2 => ?_⟩
    · by_cases g : k = u + j
      · rw [k3 k (by omega), g, zp_mw_at]
      · exact k2 k (by omega) h2
    · rw [k3 k (by omega), zp_mw_j (by omega)]
    · rw [k4 k' j' h1 h2, zp_mw_k h1]
theorem zp_m_make {n : Nat} {a0 a1 : Int32} (ea : a1 = nI n) : ∀ (m f j : Nat) (σ : mm_M), n - j = m → j ≤ n → m < f → u + n ≤ 30 → σ 0 22 = nI u → ∃ σ', fn_Mo_onArrays_35 a0 f σ a1 (nI j) = some σ' ∧ σ' 0 22 = nI (u + n) ∧ (∀ k, u + j ≤ k → k < u + n → σ' 16 k = 0) ∧ (∀ k, k < u + j → σ' 16 k = σ 16 k) ∧ ∀ k' j', k' ≠ 16 → ¬ (k' = 0 ∧ j' = 22) → σ' k' j' = σ k' j' := by
  subst ea
  intro m
  induction m with
  | zero =>
    intro f j σ hm hj hf hu h1
    obtain ⟨f', rfl⟩ : ∃ f', f = f' + 1 := ⟨f - 1, by omega⟩
    unfold fn_Mo_onArrays_35
    rw [if_pos ((zp_q_le (by omega) (by omega)).mpr (by omega))]
    simp only [nm]
    refine ⟨_, rfl, by rw [zp_mw_at, h1, zp_q_add], fun k h1 h2 => by omega, fun k hk => by rw [zp_mw_k (by omega)], fun k' j' h1 h2 => zp_mw_kj h2⟩
  | succ m ih =>
    intro f j σ hm hj hf hu h1
    obtain ⟨f', rfl⟩ : ∃ f', f = f' + 1 := ⟨f - 1, by omega⟩
    have hi1 : ¬ (nI (u + j) < 0 ∨ 31 ≤ u + j) := fun q => q.elim (zp_q_nn (by omega)) (by omega)
    unfold fn_Mo_onArrays_35
    rw [if_neg (fun q => by have := (zp_q_le (by omega) (by omega)).mp q; omega), h1, zp_q_add, zp_q_nat (by omega), if_neg hi1]
    simp only [nm]
    rw [zp_q_succ]
    obtain ⟨σ', e, k1, k2, k3, k4⟩ := ih f' (j + 1) (mw σ 16 (u + j) 0) (by omega) (by omega) (by omega) hu (by rw [zp_mw_k (by omega)]; exact h1)
    refine ⟨σ', e, k1, fun k h1 h2 => ?_, fun k hk => ?_, fun k' j' h1 h2 => ?_⟩
    · by_cases g : k = u + j
      · rw [k3 k (by omega), g, zp_mw_at]
      · exact k2 k (by omega) h2
    · rw [k3 k (by omega), zp_mw_j (by omega)]
    · rw [k4 k' j' h1 h2, zp_mw_k h1]
theorem zp_op_11 {p : Nat × Int32} {n : Nat} (H : zp_TOP σ τ i u (ws ++ [p])) (h6 : 6 ≤ ws.length) (hp0 : p.1 ≠ 0) (hn : n ≤ 12) (hun : u + n ≤ 30) (hp : p.2 = nI n) : ∃ σ' τ' vs', fn_Ma_act σ i 11 z = some σ' ∧ zp_pfT 11 z τ = some τ' ∧ zp_PO σ τ σ' τ' i u vs' := by
  obtain ⟨a1, a2, a3, a4, a5, a6, a7, a8, a9, a10⟩ := id H
  have hlen : (ws ++ [p]).length = ws.length + 1 := by simp
  have hl := zp_okv_len a8
  have ok1 := zp_okv_le (zp_okv_pre a8 h6) (show u ≤ u + n by omega)
  obtain ⟨σ1, e1, c1, f1⟩ := zp_cf_pop a6 a8.1 h6 hp0
  have hx : ((1 : Int32) + (nI u <<< ((4 : Int32) &&& 31))) + nI n = nI (1 + 16 * u + n) := by
    rw [zp_q_shl u (by omega), show (1 : Int32) = nI 1 from rfl, zp_q_add, zp_q_add]
  have hx2 : ((1 : Int32) + ((16 : Int32) * nI u)) + nI n = nI (1 + 16 * u + n) := by
    rw [show (16 : Int32) = nI 16 from rfl, show (1 : Int32) = nI 1 from rfl, zp_q_mul, zp_q_add, zp_q_add]
  have hf0 : n < fuel0 := by unfold fuel0; omega
  obtain ⟨σ2, e2, k1, k2, k3, k4⟩ := zp_c_make (x := nI (1 + 16 * u + n)) hp n fuel0 0 σ1 (by omega) (by omega) hf0 hun (by rw [f1 16 1 (by omega) (by omega)]; exact a3)
  have c2 : zp_CF σ2 i ws := by
    refine ⟨?_, fun k hk hk2 => ?_⟩
    · rw [k4 _ _ (by omega) (by omega)]; exact c1.1
    · rw [k4 _ _ (by omega) (by omega)]; exact c1.2 k hk hk2
  obtain ⟨σ3, e3, c3, f3⟩ := zp_cf_push (t := 2) (v := nI (1 + 16 * u + n)) c2 ok1.1 (by omega) (by decide)
  have eb0 := zp_mf_below (d := 0) a7 a1 a9 (by omega) (by omega) (by rw [zp_gk_1]; exact hp0)
  rw [zp_gk_1] at eb0
  obtain ⟨τ1, e4, c4, f4⟩ := zp_mf_drop (xs := [p]) a7 a1 a9 h6 (by simp; omega)
  obtain ⟨τ2, e5, c5, f5⟩ := zp_mf_put (t := 2) (v := nI (1 + 16 * u + n)) c4 a1 (by rw [f4 0 16 (by omega) (by omega)]; exact a9) h6 (by omega)
  have f45 := zp_MrF_tr f4 f5
  obtain ⟨τ3, e6, j1, j2, j3, j4⟩ := zp_m_make (a0 := 11) hp n fuel0 0 τ2 (by omega) (by omega) hf0 hun (by rw [f45 0 22 (by omega) (by omega)]; exact a4)
  have ok2 := zp_okv_app (t := 2) (v := nI (1 + 16 * u + n)) ok1 (by omega) (by decide) (by decide) (fun _ => Or.inr ⟨u, n, hn, Nat.le_refl _, rfl⟩)
  refine ⟨σ3, τ3, ws ++ [(2, nI (1 + 16 * u + n))], ?_, ?_, u + n, by omega, hun, ?_, j1, fun j hj => ?_, c3, ?_, ok2, fun k' j h1 h2 h3 h4 => ?_, fun k' j h1 h2 h3 h4 => ?_⟩
  · have hA : fn_Ma_act σ i 11 z = bd (fn_Fr_pop σ i) (fun r19 σ18 => bd (fn_Ma_makeArray σ18 r19) (fun r21 σ20 => fn_Fr_push σ20 i 2 r21)) := by
      unfold fn_Ma_act fn_Ma_useArray
      simp +decide only [if_false, if_true, zp_bv_id]
    have hB : fn_Ma_makeArray σ1 p.2 = some (nI (1 + 16 * u + n), σ2) := by
      unfold fn_Ma_makeArray
      simp only [nm]
      have e16 : σ1 16 1 = nI u := by rw [f1 16 1 (by omega) (by omega)]; exact a3
      have hx' : ((1 : Int32) + ((σ1 16 1) <<< ((4 : Int32) &&& 31))) + p.2 = nI (1 + 16 * u + n) := by rw [e16, hp, hx]
      rw [hx']
      exact e2
    rw [hA, e1, zp_bd_some, hB, zp_bd_some]
    exact e3
  · have hA : zp_pfT 11 z τ = fn_Mo_onArrays τ 11 := by
      unfold zp_pfT
      simp +decide only [if_false, if_true]
      rfl
    rw [hA]
    unfold fn_Mo_onArrays
    simp +decide only [if_true]
    rw [show fn_Mo_below τ 0 = _ from eb0, zp_bd_some, show fn_Mo_drop τ 1 = _ from e4, zp_bv_some]
    have hx' : ((1 : Int32) + ((16 : Int32) * (τ1 0 22))) + p.2 = nI (1 + 16 * u + n) := by
      rw [show τ1 0 22 = nI u by rw [f4 0 22 (by omega) (by omega)]; exact a4, hp, hx2]
    rw [hx', show fn_Mo_put τ1 2 _ = _ from e5, zp_bv_some]
    exact e6
  · rw [f3 16 1 (by omega) (by omega)]; exact k1
  · rw [f3 17 j (by omega) (by omega)]
    rcases Nat.lt_or_ge j u with g | g
    · rw [k3 j (by omega), j3 j (by omega), f1 17 j (by omega) (by omega), f45 16 j (by omega) (by omega)]; exact a5 j g
    · rw [k2 j (by omega) hj, j2 j (by omega) hj]
  · refine ⟨?_, fun k hk => ?_⟩
    · rw [j4 _ _ (by omega) (by omega)]; exact c5.1
    · rw [j4 _ _ (by omega) (by omega), j4 _ _ (by omega) (by omega)]; exact c5.2 k hk
  · rw [f3 k' j h1 h2, k4 k' j h3 h4]; exact f1 k' j h1 h2
  · rw [j4 k' j h3 h4]; exact f45 k' j h1 h2
end
end

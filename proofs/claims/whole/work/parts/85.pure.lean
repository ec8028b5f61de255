/-! the functions alone, 35 -/
noncomputable section
section
variable {σ τ : mm_M}
theorem zp_Rl_25 {v : Int32} (H : zp_Rl σ τ) : zp_Rl σ (mw τ 0 25 v) := by
  have hM := H.2.2.2.2
  exact zp_Rl_mach H (fun _ _ => rfl) (fun k h1 h2 => zp_mw_k (by omega)) (zp_mw_j (by omega)) (zp_mw_j (by omega)) (zp_MR_of hM (fun _ _ => rfl) (zp_mw_j (by omega)) (zp_mw_j (by omega)) (zp_mw_j (by omega)) (fun k hk => zp_mw_k (by omega)))
theorem zp_c_run1x : fn_Ma_isRunning σ = some (if σ 16 0 ≤ 0 then 0 else 1, σ) := by
  unfold fn_Ma_isRunning
  by_cases h : σ 16 0 ≤ 0
  · simp [h]
  · simp [h]
theorem zp_R_dep (H : zp_Rl σ τ) : σ 16 0 = τ 0 16 ∧ (σ 16 0 ≤ 0 ↔ σ 16 0 = 0) := by
  obtain ⟨d, u, fr, a1, a2, a3, a4, -⟩ := H.2.2.2.2
  rw [a3, a4]
  refine ⟨rfl, ?_⟩
  rw [show (nI d ≤ 0 ↔ d ≤ 0) from zp_q_le (b := 0) (by omega) (by decide), show (nI d = 0 ↔ d = 0) from zp_q_eq (b := 0) (by omega) (by decide)]
  omega
theorem zp_m_once0 (h : τ 0 16 = 0) : fn_Mo_stepOnce τ = some (0, mw τ 0 25 0) := by
  unfold fn_Mo_stepOnce
  simp only [nm]
  rw [zp_mw_j (by omega), if_pos h]
  simp
theorem zp_bx_0 {β : Type} (r : Int32) (σ : mm_M) (z : Nat → mm_M → Option β) (k : Int32 → mm_M → Option β) : bx (some (0, r, σ)) z k = k r σ := rfl
theorem zp_bx_s {β : Type} (t : Nat) (r : Int32) (σ : mm_M) (z : Nat → mm_M → Option β) (k : Int32 → mm_M → Option β) (h : 0 < t) : bx (some (t, r, σ)) z k = z t σ := by
  obtain ⟨t', rfl⟩ : ∃ t', t = t' + 1 := ⟨t - 1, by omega⟩
  rfl
theorem zp_cd_st {t : Nat} (h : t ≤ 5) : nI t = cd_La_step t := by
  rcases (show t = 0 ∨ t = 1 ∨ t = 2 ∨ t = 3 ∨ t = 4 ∨ t = 5 by omega) with rfl | rfl | rfl | rfl | rfl | rfl <;> rfl
theorem zp_cd_ss {t : Nat} (h : t ≤ 5) (h1 : 0 < t) : nI (t + 1) = cd_La_steps t := by
  rcases (show t = 1 ∨ t = 2 ∨ t = 3 ∨ t = 4 ∨ t = 5 by omega) with rfl | rfl | rfl | rfl | rfl <;> rfl
theorem zp_R_step (H : zp_Rl σ τ) : ∃ x r σ' q τ', fn_FV_step σ = some (x, r, σ') ∧ fn_Mo_step τ = some (q, τ') ∧ fn_Mo_thrown τ' = some (cd_La_step x, τ') ∧ (x = 0 ∨ x = 1 ∨ x = 2 ∨ x = 3 ∨ x = 4 ∨ x = 5) ∧ (x = 0 → r = q) ∧ zp_Rl σ' τ' := by
  obtain ⟨d1, d2⟩ := zp_R_dep H
  unfold fn_FV_step fn_Mo_step
  rw [zp_c_run1x, zp_bd_some]
  by_cases h0 : σ 16 0 = 0
  · have h0' : σ 16 0 ≤ 0 := d2.mpr h0
    have t0 : τ 0 16 = 0 := by rw [← d1]; exact h0
    rw [if_pos h0', if_pos rfl, zp_m_once0 t0, zp_bd_some]
    unfold fn_FV_step_17
    rw [zp_c_run1x, zp_bd_some, if_pos h0', if_pos rfl]
    simp only [nm, zp_mw_at]
    have t1 : mw (mw τ 0 25 0) 0 26 0 0 16 = 0 := by rw [zp_mw_j (by omega), zp_mw_j (by omega)]; exact t0
    rw [t1, if_pos (by decide)]
    refine ⟨0, 0, σ, 0, _, rfl, rfl, ?_, Or.inl rfl, fun _ => rfl, zp_Rl_26 (zp_Rl_25 H)⟩
    unfold fn_Mo_thrown
    rw [zp_mw_at]; rfl
  · have h0' : ¬ σ 16 0 ≤ 0 := fun q => h0 (d2.mp q)
    rw [if_neg h0', if_neg (by decide)]
    obtain ⟨t, σ', τ', ht, e1, e2, v1, v2, H'⟩ := zp_R_do H h0
    obtain ⟨g1, g2⟩ := zp_R_dep H'
    rw [e1, e2, zp_bd_some]
    simp only [nm]
    rw [v1]
    have e16 : mw τ' 0 26 (nI t) 0 16 = σ' 16 0 := by rw [zp_mw_j (by omega), g1]
    rw [e16]
    have hth : fn_Mo_thrown (mw τ' 0 26 (nI t)) = some (cd_La_step t, mw τ' 0 26 (nI t)) := by
      unfold fn_Mo_thrown
      rw [zp_mw_at, zp_cd_st ht]
    by_cases t0 : t = 0
    · subst t0
      rw [zp_bx_0]
      unfold fn_FV_step_17
      rw [zp_c_run1x, zp_bd_some]
      by_cases g : σ' 16 0 ≤ 0
      · rw [if_pos g, if_pos rfl, if_pos g]
        exact ⟨0, 0, σ', 0, _, rfl, rfl, hth, Or.inl rfl, fun _ => rfl, zp_Rl_26 H'⟩
      · rw [if_neg g, if_neg (by decide), if_neg g]
        exact ⟨0, 1, σ', 1, _, rfl, rfl, hth, Or.inl rfl, fun _ => rfl, zp_Rl_26 H'⟩
    · rw [zp_bx_s _ _ _ _ _ (by omega)]
      by_cases g : σ' 16 0 ≤ 0
      · rw [if_pos g]
        exact ⟨t, 0, σ', 0, _, rfl, rfl, hth, by omega, fun q => absurd q t0, zp_Rl_26 H'⟩
      · rw [if_neg g]
        exact ⟨t, 0, σ', 1, _, rfl, rfl, hth, by omega, fun q => absurd q t0, zp_Rl_26 H'⟩
theorem zp_R_steps1 {n : Nat} (hn : n ≤ 200) : ∀ (m f l : Nat) (σ τ : mm_M), n - l = m → l ≤ n → m < f → τ 0 26 = 0 → τ 0 25 = 0 → zp_Rl σ τ → ∃ x r σ' q τ', fn_FV_steps_22 (nI n) f σ (nI l) = some (x, r, σ') ∧ fn_Mo_steps_28 (nI n) f τ (nI l) = some (q, τ') ∧ fn_Mo_thrown τ' = some (cd_La_steps x, τ') ∧ x ≤ 5 ∧ (x = 0 → r = q) ∧ zp_Rl σ' τ' := by
  have fin60 : ∀ (l : Nat) (τ : mm_M), τ 0 26 = 0 → τ 0 25 = 0 → fn_Mo_steps_60 (nI n) τ (nI l) = some (nI l, mw τ 0 26 0) := fun l τ h26 h25 => by
    unfold fn_Mo_steps_60 fn_Mo_steps_92
    rw [if_pos h26, if_pos h25]
    simp only [nm, zp_mw_at]
    rw [if_pos trivial]
  have th0 : ∀ τ : mm_M, fn_Mo_thrown (mw τ 0 26 0) = some (cd_La_steps 0, mw τ 0 26 0) := fun τ => by
    unfold fn_Mo_thrown
    rw [zp_mw_at]; rfl
  intro m
  induction m with
  | zero =>
    intro f l σ τ hm hl hf h26 h25 H
    obtain ⟨f', rfl⟩ : ∃ f', f = f' + 1 := ⟨f - 1, by omega⟩
    unfold fn_FV_steps_22 fn_Mo_steps_28
    have hle : nI n ≤ nI l := (zp_q_le (by omega) (by omega)).mpr (by omega)
    rw [if_pos hle, if_pos h26, if_pos h25, if_pos hle, fin60 l τ h26 h25]
    exact ⟨0, nI l, σ, nI l, _, rfl, rfl, th0 τ, by omega, fun _ => rfl, zp_Rl_26 H⟩
  | succ m ih =>
    intro f l σ τ hm hl hf h26 h25 H
    obtain ⟨f', rfl⟩ : ∃ f', f = f' + 1 := ⟨f - 1, by omega⟩
    obtain ⟨d1, d2⟩ := zp_R_dep H
    unfold fn_FV_steps_22 fn_Mo_steps_28
    have hle : ¬ nI n ≤ nI l := fun q => by have := (zp_q_le (by omega) (by omega)).mp q; omega
    rw [if_neg hle, if_pos h26, if_pos h25, if_neg hle, zp_c_run1x, zp_bd_some]
    by_cases h0 : σ 16 0 = 0
    · have h0' : σ 16 0 ≤ 0 := d2.mpr h0
      have t0 : τ 0 16 = 0 := by rw [← d1]; exact h0
      rw [if_pos h0', if_pos rfl, zp_m_once0 t0, zp_bd_some, if_pos rfl, fin60 l _ (by rw [zp_mw_j (by omega)]; exact h26) zp_mw_at]
      exact ⟨0, nI l, σ, nI l, _, rfl, rfl, th0 _, by omega, fun _ => rfl, zp_Rl_26 (zp_Rl_25 H)⟩
    · have h0' : ¬ σ 16 0 ≤ 0 := fun q => h0 (d2.mp q)
      rw [if_neg h0', if_neg (by decide)]
      obtain ⟨t, σ', τ', ht, e1, e2, v1, v2, H'⟩ := zp_R_do H h0
      rw [e1, e2, zp_bd_some]
      by_cases t0 : t = 0
      · subst t0
        rw [zp_bx_0, if_pos rfl, if_neg (by decide), zp_q_succ]
        exact ih f' (l + 1) σ' τ' (by omega) (by omega) (by omega) (by rw [v2]; exact h26) v1 H'
      · rw [zp_bx_s _ _ _ _ _ (by omega), if_neg t0, if_pos rfl]
        unfold fn_Mo_steps_60 fn_Mo_steps_92
        have hne : ¬ nI t = 0 := fun q => by have := (zp_q_eq (b := 0) (by omega) (by decide)).mp q; omega
        have hne2 : ¬ nI (t + 1) = 0 := fun q => by have := (zp_q_eq (b := 0) (by omega) (by decide)).mp q; omega
        rw [v2, if_pos h26, v1, if_neg hne, zp_q_succ]
        simp only [nm, zp_mw_at]
        rw [if_neg hne2]
        refine ⟨t, 0, σ', 0, _, rfl, rfl, ?_, ht, fun q => absurd q t0, zp_Rl_26 H'⟩
        unfold fn_Mo_thrown
        rw [zp_mw_at, zp_cd_ss ht (by omega)]
theorem zp_R_steps (H : zp_Rl σ τ) (a0 : Int32) : ∃ x r σ' q τ', fn_FV_steps σ a0 = some (x, r, σ') ∧ fn_Mo_steps τ a0 = some (q, τ') ∧ fn_Mo_thrown τ' = some (cd_La_steps x, τ') ∧ (x = 0 ∨ x = 1 ∨ x = 2 ∨ x = 3 ∨ x = 4 ∨ x = 5 ∨ x = 6) ∧ (x = 0 → r = q) ∧ zp_Rl σ' τ' := by
  have hf0 : 300 < fuel0 := by decide
  have bad : ∃ x r σ' q τ', some (6, 0, σ) = some (x, r, σ') ∧ fn_Mo_steps_28 a0 fuel0 (mw (mw τ 0 26 1) 0 25 0) 0 = some (q, τ') ∧ fn_Mo_thrown τ' = some (cd_La_steps x, τ') ∧ (x = 0 ∨ x = 1 ∨ x = 2 ∨ x = 3 ∨ x = 4 ∨ x = 5 ∨ x = 6) ∧ (x = 0 → r = q) ∧ zp_Rl σ' τ' := by
    obtain ⟨f', ef⟩ : ∃ f', fuel0 = f' + 1 := ⟨fuel0 - 1, by omega⟩
    rw [ef]
    unfold fn_Mo_steps_28 fn_Mo_steps_60 fn_Mo_steps_92
    have e : mw (mw τ 0 26 1) 0 25 0 0 26 = 1 := by rw [zp_mw_j (by omega), zp_mw_at]
    rw [e, if_neg (by decide), if_neg (by decide)]
    simp only [nm, zp_mw_at]
    rw [if_neg (by decide)]
    refine ⟨6, 0, σ, 0, _, rfl, rfl, ?_, by omega, (fun q => by cases q), zp_Rl_26 (zp_Rl_25 (zp_Rl_26 H))⟩
    unfold fn_Mo_thrown
    rw [zp_mw_at]; rfl
  unfold fn_FV_steps fn_Mo_steps
  simp only [nm]
  by_cases h1 : a0 < 1
  · rw [if_pos h1, if_pos h1]; exact bad
  · rw [if_neg h1, if_neg h1]
    by_cases h2 : a0 ≤ 200
    · rw [if_pos h2, if_pos h2]
      have hnn : ¬ a0 < 0 := fun q => h1 (by
        rw [Int32.lt_iff_toInt_lt] at q ⊢
        have e0 : (0 : Int32).toInt = 0 := by decide
        have e1 : (1 : Int32).toInt = 1 := by decide
        omega)
      obtain ⟨n, hn, rfl⟩ := zp_q_of hnn
      have hn200 : n ≤ 200 := (zp_q_le (b := 200) hn (by decide)).mp h2
      unfold fn_FV_steps_20
      obtain ⟨x, r, σ', q, τ', e1, e2, e3, e4, e5, e6⟩ := zp_R_steps1 hn200 n fuel0 0 σ (mw (mw τ 0 26 0) 0 25 0) (by omega) (by omega) (by omega) (by rw [zp_mw_j (by omega), zp_mw_at]) zp_mw_at (zp_Rl_25 (zp_Rl_26 H))
      exact ⟨x, r, σ', q, τ', e1, e2, e3, by omega, e5, e6⟩
    · rw [if_neg h2, if_neg h2]; exact bad
end
end

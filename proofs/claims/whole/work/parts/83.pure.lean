/-! the functions alone, 33 -/
noncomputable section
section
variable {σ τ : mm_M} {i u r o a : Nat} {vs ws : zp_VL} {y z : Int32} {fr : Nat → Nat × Int32 × zp_VL}
theorem zp_c_fits0 {ds : List Nat} (h : zp_wS 12 ds) (hA : zp_isA σ z = false) : fn_Co_fits σ (nI r) z (nI (zp_pkd ds)) = some (0, σ) := by
  have p0 := zp_pkd_lt h
  unfold fn_Co_fits fn_Co_hasOp
  rw [if_neg (zp_nI_ne (by omega) _ (by decide)), if_neg (zp_nI_ne (by omega) _ (by decide)), zp_c_hasI, hA]
  simp [bd]
theorem zp_BASE_of {τ' : mm_M} (B : zp_BASE σ τ i u fr vs) (hk : ∀ k, 11 ≤ k → τ' k = τ k) (h1 : τ' 0 16 = τ 0 16) (h2 : τ' 0 22 = τ 0 22) (h3 : τ' 0 24 = τ 0 24) : zp_BASE σ τ' i u fr vs := by
  obtain ⟨⟨a1, a2, a3, a4, a5, a6, a7, a8, a9, a10⟩, zp_b2, b3, b4⟩ := B
  refine ⟨⟨a1, a2, a3, by rw [h2]; exact a4, fun j hj => by rw [hk 16 (by omega)]; exact a5 j hj, a6, ?_, a8, by rw [h1]; exact a9, a10⟩, by rw [h3]; exact zp_b2, fun j hj => ?_, b4⟩
  · unfold zp_MF
    rw [hk 13 (by omega), hk 14 (by omega), hk 15 (by omega)]; exact a7
  · unfold zp_FR zp_MF
    rw [hk 11 (by omega), hk 12 (by omega), hk 13 (by omega), hk 14 (by omega), hk 15 (by omega)]; exact b3 j hj
theorem zp_BASE_fr {τ' : mm_M} (B : zp_BASE σ τ i u fr vs) (f : zp_FrM τ τ') : zp_BASE σ τ' i u fr vs :=
  zp_BASE_of B (fun k hk => by funext j; exact f k j (by omega) (by omega) (by omega) (by omega) (by omega)) (f 0 16 (by omega) (by omega) (by omega) (by omega) (by omega)) (f 0 22 (by omega) (by omega) (by omega) (by omega) (by omega)) (f 0 24 (by omega) (by omega) (by omega) (by omega) (by omega))
theorem zp_m_loadV {a0 : Int32} {n : Nat} (hi : i < 8) (hn6 : 6 ≤ n) (hn : n ≤ 12) : ∀ (m f j : Nat) (τ : mm_M), n - j = m → j ≤ n → m < f → τ 0 11 = nI (n - 6) → τ 11 i = nI r → (∀ k, k < j → τ 10 k = τ 15 (12 * i + k)) → ∃ τ1, fn_Mo_fitsValues_19 a0 f τ (nI i) (nI j) = bv (fn_Mo_tryOut τ1 (nI r) a0) (fun σ7 => if (σ7 0 13) = 0 then some ((1 : Int32), σ7) else some ((0 : Int32), σ7)) ∧ (∀ k, k ≠ 10 → τ1 k = τ k) ∧ ∀ k, k < n → τ1 10 k = τ 15 (12 * i + k) := by
  intro m
  induction m with
  | zero =>
    intro f j τ hm hj hf h11 hr11 hlow
    obtain ⟨f', rfl⟩ : ∃ f', f = f' + 1 := ⟨f - 1, by omega⟩
    have hi1 : ¬ (nI i < 0 ∨ 8 ≤ i) := fun q => q.elim (zp_q_nn (by omega)) (by omega)
    unfold fn_Mo_fitsValues_19
    rw [h11, show (6 : Int32) = nI 6 from rfl, zp_q_add, if_pos ((zp_q_le (by omega) (by omega)).mpr (by omega)), zp_q_nat (show i < 2 ^ 31 by omega), if_neg hi1, hr11]
    refine ⟨τ, ?_, fun _ _ => rfl, fun k hk => hlow k (by omega)⟩
    simp
  | succ m ih =>
    intro f j τ hm hj hf h11 hr11 hlow
    obtain ⟨f', rfl⟩ : ∃ f', f = f' + 1 := ⟨f - 1, by omega⟩
    have hi1 : ¬ (nI (12 * i + j) < 0 ∨ 96 ≤ 12 * i + j) := fun q => q.elim (zp_q_nn (by omega)) (by omega)
    have hi2 : ¬ (nI j < 0 ∨ 12 ≤ j) := fun q => q.elim (zp_q_nn (by omega)) (by omega)
    have e12 : (12 : Int32) * nI i + nI j = nI (12 * i + j) := by rw [show (12 : Int32) = nI 12 from rfl, zp_q_mul, zp_q_add]
    unfold fn_Mo_fitsValues_19
    rw [h11, show (6 : Int32) = nI 6 from rfl, zp_q_add, if_neg (fun q => by have := (zp_q_le (by omega) (by omega)).mp q; omega), e12, zp_q_nat (show 12 * i + j < 2 ^ 31 by omega), zp_q_nat (show j < 2 ^ 31 by omega)]
    simp only [nm, if_neg hi1, if_neg hi2]
    rw [zp_q_succ]
    obtain ⟨τ1, e, q1, q2⟩ := ih f' (j + 1) (mw τ 10 j (τ 15 (12 * i + j))) (by omega) (by omega) (by omega) (by rw [zp_mw_k (by omega)]; exact h11) (by rw [zp_mw_k (by omega)]; exact hr11) (fun k hk => by
      rw [zp_mw_k (show 15 ≠ 10 by omega)]
      by_cases q : k = j
      · subst q; exact zp_mw_at
      · rw [zp_mw_j q]; exact hlow k (by omega))
    refine ⟨τ1, e, fun k hk => by rw [q1 k hk, zp_mw_k hk], fun k hk => ?_⟩
    rw [q2 k hk, zp_mw_k (by omega)]
theorem zp_m_fitsV {κ : mm_M} (hC : zp_wC κ) (hE : zp_cE κ τ) (hi : i < 8) (hr : r < 4) (ha : a < 100) (h0 : τ 0 16 = nI (i + 1)) (h11 : τ 11 i = nI r) (hM : zp_MF τ i vs) (hv : zp_okv u vs) : ∃ τ', fn_Mo_fitsValues τ (nI a) = some (zp_bw (zp_tr κ r a (zp_dgs vs)).isSome, τ') ∧ zp_FrM τ τ' := by
  have hl := zp_okv_len hv
  have hi1 : ¬ (nI i < 0 ∨ 8 ≤ i) := fun q => q.elim (zp_q_nn (by omega)) (by omega)
  unfold fn_Mo_fitsValues
  rw [h0, zp_q_top hi]
  simp only [nm]
  rw [zp_q_nat (show i < 2 ^ 31 by omega), if_neg hi1, hM.1]
  obtain ⟨τ1, el, q1, q2⟩ := zp_m_loadV (a0 := nI a) (r := r) hi hl.1 hl.2 vs.length fuel0 0 (mw τ 0 11 (nI (vs.length - 6))) (by omega) (by omega) (by unfold fuel0; omega) zp_mw_at (by rw [zp_mw_k (by omega)]; exact h11) (fun k hk => by omega)
  rw [show (0 : Int32) = nI 0 from rfl, el]
  have f1 : zp_FrM τ τ1 := fun k j h7 h8 h9 h10 h0 => by
    rw [q1 k h10, zp_mw_kj (by omega)]
  obtain ⟨τ2, d2, g, t, et, ⟨row, rfl, hrow⟩, wd, hres⟩ := zp_m_try (r := r) (a := a) hC (zp_FrM_cE f1 hE) hr ha hv.1 (by rw [q1 0 (by omega), zp_mw_at, zp_dgs_len]) (fun k hk => by
    rw [zp_dgs_len] at hk
    rw [q2 k hk, zp_mw_k (by omega), zp_dgs_get]; exact (hM.2 k hk).1)
  rw [et]
  simp only [bv, zp_sc_b]
  refine ⟨zp_sc τ1 (nI (d2.length - 6)) (zp_b2 (zp_tr κ r a (zp_dgs vs)).isSome) g t row, ?_, ?_⟩
  · generalize (zp_tr κ r a (zp_dgs vs)).isSome = ok
    cases ok with
    | true => rfl
    | false => rfl
  · intro k j h7 h8 h9 h10 h0
    rw [← f1 k j h7 h8 h9 h10 h0]
    unfold zp_sc
    by_cases qk : k = 0
    · rw [if_pos qk, if_neg (by omega), if_neg (by omega), if_neg (by omega), if_neg (by omega), qk]
    · rw [if_neg qk, if_neg h10]
theorem zp_m_perf (ho : o < 20) (ha : a < 100) (hi : i < 8) (e1 : τ 1 a = nI o) (e2 : τ 2 a = z) (h0 : τ 0 16 = nI (i + 1)) (hb : o = 8 ∨ o = 10 → ∃ v, fn_Mo_below τ 0 = some (v, τ)) : fn_Mo_perform τ (nI a) = zp_doM τ i o (nI a + 1) z := by
  have hi2 : ¬ (nI a < 0 ∨ 100 ≤ a) := fun q => q.elim (zp_q_nn (by omega)) (by omega)
  have h69 : ∀ s0 a0 (x : mm_M), x = τ → fn_Mo_perform_69 a0 x (nI o) z s0 ((x 0 16) - 1) = zp_pfT o z (mw x 12 i s0) := fun s0 a0 x hx => by
    subst hx
    rw [h0, zp_q_top hi]; exact zp_m_pf ho hi
  unfold fn_Mo_perform
  rw [zp_q_nat (show a < 2 ^ 31 by omega), if_neg hi2, e1, e2]
  simp only [nm, if_neg hi2]
  unfold fn_Mo_perform_32 fn_Mo_perform_40 fn_Mo_perform_44 fn_Mo_perform_45 zp_doM
  by_cases h7 : o = 7
  · rw [if_pos (by rw [h7]; rfl), if_neg (by decide), h69 _ _ _ rfl, if_pos h7]
  · rw [if_neg (show ¬ nI o = 7 from fun q => h7 ((zp_q_eq (b := 7) (by omega) (by decide)).mp q)), if_neg h7]
    by_cases h8 : o = 8 ∨ o = 10
    · obtain ⟨v, eb⟩ := hb h8
      rw [if_pos h8, eb]
      simp only [zp_bd_some]
      have key : (if v = 0 then (if (1 : Int32) = 0 then fn_Mo_perform_69 (nI a) τ (nI o) z (nI a + 1) ((τ 0 16) - 1) else fn_Mo_perform_69 (nI a) τ (nI o) z z ((τ 0 16) - 1)) else (if (0 : Int32) = 0 then fn_Mo_perform_69 (nI a) τ (nI o) z (nI a + 1) ((τ 0 16) - 1) else fn_Mo_perform_69 (nI a) τ (nI o) z z ((τ 0 16) - 1))) = if v = 0 then zp_pfT o z (mw τ 12 i z) else zp_pfT o z (mw τ 12 i (nI a + 1)) := by
        by_cases q : v = 0
        · rw [if_pos q, if_pos q, if_neg (by decide), h69 _ _ _ rfl]
        · rw [if_neg q, if_neg q, if_pos rfl, h69 _ _ _ rfl]
      rcases h8 with q | q
      · rw [if_pos (by rw [q]; rfl)]; exact key
      · rw [if_neg (show ¬ nI o = 8 from fun q2 => by have := (zp_q_eq (b := 8) (by omega) (by decide)).mp q2; omega), if_pos (by rw [q]; rfl)]; exact key
    · rw [if_neg h8, if_neg (show ¬ nI o = 8 from fun q2 => by have := (zp_q_eq (b := 8) (by omega) (by decide)).mp q2; omega), if_neg (show ¬ nI o = 10 from fun q2 => by have := (zp_q_eq (b := 10) (by omega) (by decide)).mp q2; omega), if_pos rfl, h69 _ _ _ rfl]
theorem zp_Rl_mach {σ' τ' : mm_M} (H : zp_Rl σ τ) (h1 : ∀ k, k < 16 → σ' k = σ k) (h2 : ∀ k, 1 ≤ k → k < 7 → τ' k = τ k) (h3 : τ' 0 0 = τ 0 0) (h4 : τ' 0 7 = τ 0 7) (hM : zp_MR σ' τ') : zp_Rl σ' τ' := by
  obtain ⟨hC, hE, hK, hV, -⟩ := H
  obtain ⟨E0, E1, E2, E3, E4, E5, E6⟩ := hE
  have hc : ∀ k, 1 ≤ k → k ≤ 7 → σ' k = σ k := fun k _ q => h1 k (by omega)
  refine ⟨zp_wC_of hc hC, ⟨by rw [h3, h1 1 (by omega)]; exact E0, by rw [h2 1 (by omega) (by omega), h1 2 (by omega)]; exact E1, by rw [h2 2 (by omega) (by omega), h1 3 (by omega)]; exact E2, by rw [h2 3 (by omega) (by omega), h1 4 (by omega)]; exact E3, by rw [h2 4 (by omega) (by omega), h1 5 (by omega)]; exact E4, by rw [h2 5 (by omega) (by omega), h1 6 (by omega)]; exact E5, by rw [h2 6 (by omega) (by omega), h1 7 (by omega)]; exact E6⟩, fun s hs => ?_, ⟨by rw [h1 0 (by omega), h4]; exact hV.1, by rw [h1 0 (by omega)]; exact hV.2⟩, hM⟩
  unfold zp_knC
  rw [h1 9 (by omega), zp_cod_of hc, h1 (11 + s) (by omega)]
  exact hK s hs
theorem zp_c_report {t : Nat} (h1 : 0 < t) (h5 : t ≤ 5) : fn_Ma_report σ t = some (t, 0, σ) := by
  unfold fn_Ma_report
  rcases (show t = 1 ∨ t = 2 ∨ t = 3 ∨ t = 4 ∨ t = 5 by omega) with rfl | rfl | rfl | rfl | rfl <;> simp +decide only [if_false, if_true]
end
end

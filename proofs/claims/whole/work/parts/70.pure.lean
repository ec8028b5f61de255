/-! the functions alone, 20 -/
noncomputable section
theorem zp_arun_none {κ : mm_M} {r : Nat} {F : zp_FF} (h : zp_least F.2 = none) (n : Nat) : zp_arun κ r n F = F := by
  cases n with
  | zero => rfl
  | succ n => unfold zp_arun; rw [h]
theorem zp_least_em : zp_least zp_em.2 = none := by decide
section
variable {κ : mm_M} {r : Nat}
theorem zp_m_row (hC : zp_wC κ) (hr : r < 4) : ∀ (m f j : Nat) (τ : mm_M), 6 - j = m → j ≤ 6 → m < f → zp_cE κ τ → (∀ k, k < j → τ 10 k = nI ((zp_fst0 κ r).getD k 0)) → ∃ τ1, fn_Mo_work_71 (nI r) f τ (nI j) = bv (fn_Mo_meet τ1 (nI r) (κ 5 r)) (fun σ12 => fn_Mo_work_122 (nI r) fuel0 σ12 0) ∧ (∀ k, k ≠ 10 → τ1 k = τ k) ∧ zp_rwo (τ1 10) (zp_fst0 κ r) := by
  have hi1 : ¬ (nI r < 0 ∨ 4 ≤ r) := fun q => q.elim (zp_q_nn (by omega)) (by omega)
  obtain ⟨p, hp, ep⟩ := (hC.2 r hr).2
  intro m
  induction m with
  | zero =>
    intro f j τ hm hj hf hE hlow
    obtain ⟨f', rfl⟩ : ∃ f', f = f' + 1 := ⟨f - 1, by omega⟩
    have e : j = 6 := by omega
    subst e
    unfold fn_Mo_work_71
    rw [if_pos (by decide), zp_q_nat (show r < 2 ^ 31 by omega), if_neg hi1, hE.2.2.2.2.1]
    exact ⟨τ, rfl, fun _ _ => rfl, fun i hi => hlow i (by rw [zp_fst0_len] at hi; exact hi)⟩
  | succ m ih =>
    intro f j τ hm hj hf hE hlow
    obtain ⟨f', rfl⟩ : ∃ f', f = f' + 1 := ⟨f - 1, by omega⟩
    have hi2 : ¬ (nI j < 0 ∨ 12 ≤ j) := fun q => q.elim (zp_q_nn (by omega)) (by omega)
    have go : ∃ τ1, fn_Mo_work_71 (nI r) f' (mw τ 10 j (nI ((zp_fst0 κ r).getD j 0))) (nI (j + 1)) = bv (fn_Mo_meet τ1 (nI r) (κ 5 r)) (fun σ12 => fn_Mo_work_122 (nI r) fuel0 σ12 0) ∧ (∀ k, k ≠ 10 → τ1 k = τ k) ∧ zp_rwo (τ1 10) (zp_fst0 κ r) := by
      obtain ⟨τ1, e, k1, k2⟩ := ih f' (j + 1) (mw τ 10 j (nI ((zp_fst0 κ r).getD j 0))) (by omega) (by omega) (by omega) hE (fun k hk => by
        by_cases q : k = j
        · subst q; exact zp_mw_at
        · rw [zp_mw_j q]; exact hlow k (by omega))
      exact ⟨τ1, e, fun k hk => by rw [k1 k hk, zp_mw_k hk], k2⟩
    unfold fn_Mo_work_71
    rw [if_neg (show ¬ (6 : Int32) ≤ nI j from fun q => by have := (zp_q_le (a := 6) (by decide) (by omega)).mp q; omega), zp_q_nat (show r < 2 ^ 31 by omega), if_neg hi1, hE.2.2.2.2.2.1, ep, zp_q_nat (show j < 2 ^ 31 by omega)]
    have eg := zp_fst0_get κ r (show j < 6 by omega)
    rw [ep, zp_q_nat (by omega)] at eg
    by_cases q : j < p
    · rw [if_neg (fun q2 => by have := (zp_q_le (by omega) (by omega)).mp q2; omega), zp_m_kind hE hr]
      rw [if_pos q] at eg
      rw [eg] at go
      simp only [nm, bd, if_neg hi2]
      rw [zp_q_succ]; exact go
    · rw [if_pos ((zp_q_le (by omega) (by omega)).mpr (by omega))]
      rw [if_neg q] at eg
      rw [eg] at go
      simp only [nm, if_neg hi2]
      rw [zp_q_succ]; exact go
theorem zp_m_clear (hr : r < 4) : ∀ (m f j : Nat) (τ : mm_M), 100 - j = m → j ≤ 100 → m < f → (∀ k, k < j → τ 7 (100 * r + k) = -1 ∧ τ 9 (100 * r + k) = 0) → ∃ τ1, fn_Mo_work_5 (nI r) f τ (nI (100 * r + j)) = fn_Mo_work_5 (nI r) (f - m) τ1 (nI (100 * r + 100)) ∧ zp_FrM τ τ1 ∧ zp_RepM τ1 r zp_em := by
  intro m
  induction m with
  | zero =>
    intro f j τ hm hj hf hlow
    have e : j = 100 := by omega
    subst e
    exact ⟨τ, rfl, zp_FrM_refl, fun a ha => (hlow a ha).1, (fun a ha d hd => by cases hd), fun a ha => (hlow a ha).2⟩
  | succ m ih =>
    intro f j τ hm hj hf hlow
    obtain ⟨f', rfl⟩ : ∃ f', f = f' + 1 := ⟨f - 1, by omega⟩
    have e1 : (100 : Int32) * nI r + (100 : Int32) = nI (100 * r + 100) := by rw [show (100 : Int32) = nI 100 from rfl, zp_q_mul, zp_q_add]
    have hi : ¬ (nI (100 * r + j) < 0 ∨ 400 ≤ 100 * r + j) := fun q => q.elim (zp_q_nn (by omega)) (by omega)
    obtain ⟨τ1, e, f1, R1⟩ := ih f' (j + 1) (mw (mw τ 7 (100 * r + j) (-1)) 9 (100 * r + j) 0) (by omega) (by omega) (by omega) (fun k hk => by
      by_cases q : k = j
      · subst q
        exact ⟨by rw [zp_mw_k (by omega), zp_mw_at], zp_mw_at⟩
      · rw [zp_mw_k (by omega), zp_mw_j (by omega), zp_mw_j (by omega), zp_mw_k (by omega)]
        exact hlow k (by omega))
    refine ⟨τ1, ?_, zp_FrM_tr (zp_FrM_tr (zp_FrM_w (by omega)) (zp_FrM_w (by omega))) f1, R1⟩
    rw [show f' + 1 - (m + 1) = f' - m by omega, ← e]
    rw [fn_Mo_work_5]
    rw [e1, if_neg (fun q => by have := (zp_q_le (by omega) (by omega)).mp q; omega), zp_q_nat (show 100 * r + j < 2 ^ 31 by omega)]
    simp only [nm, if_neg hi]
    rw [zp_q_succ]
    rfl
def zp_finT (κ : mm_M) (r : Nat) : zp_FF := if κ 4 r = 0 then zp_em else zp_fin κ r
theorem zp_m_work {τ : mm_M} (hC : zp_wC κ) (hE : zp_cE κ τ) (hr : r < 4) : ∃ τ', fn_Mo_work τ (nI r) = some (if κ 4 r = 0 then -1 else zp_luf κ r, τ') ∧ zp_FrM τ τ' ∧ zp_RepM τ' r (zp_finT κ r) := by
  have hi1 : ¬ (nI r < 0 ∨ 4 ≤ r) := fun q => q.elim (zp_q_nn (by omega)) (by omega)
  unfold fn_Mo_work zp_finT
  simp only [nm]
  have e0 : (100 : Int32) * nI r = nI (100 * r + 0) := by rw [show (100 : Int32) = nI 100 from rfl, zp_q_mul, Nat.add_zero]
  have e1 : (100 : Int32) * nI r + (100 : Int32) = nI (100 * r + 100) := by rw [show (100 : Int32) = nI 100 from rfl, zp_q_mul, zp_q_add]
  have hf0 : 141501 < fuel0 := by decide
  obtain ⟨f', ef⟩ : ∃ f', fuel0 - 100 = f' + 1 := ⟨fuel0 - 101, by omega⟩
  obtain ⟨τ1, ec, f1, R1⟩ := zp_m_clear hr 100 fuel0 0 τ (by omega) (by omega) (by omega) (fun k hk => by omega)
  rw [e0, ec, ef]
  have hE1 := zp_FrM_cE f1 hE
  unfold fn_Mo_work_5
  rw [e1, if_pos ((zp_q_le (by omega) (by omega)).mpr (by omega)), zp_q_nat (show r < 2 ^ 31 by omega), if_neg hi1, hE1.2.2.2.1]
  by_cases ht : κ 4 r = 0
  · rw [if_pos ht, if_pos ht, if_pos ht]
    exact ⟨τ1, rfl, f1, R1⟩
  · rw [if_neg ht, if_neg ht, if_neg ht, if_neg hi1, hE1.2.2.2.2.1, zp_m_isA hE1]
    simp only [bd]
    unfold zp_luf
    cases hA : zp_isA κ (κ 5 r) with
    | false =>
      simp only [Bool.false_eq_true, if_false, if_true]
      refine ⟨τ1, rfl, f1, ?_⟩
      have : zp_fin κ r = zp_em := by
        unfold zp_fin zp_ini
        rw [hA]
        simp only [Bool.false_eq_true, if_false]
        exact zp_arun_none zp_least_em _
      rw [this]; exact R1
    | true =>
      simp only [if_true, if_neg (show ¬ (1 : Int32) = 0 by decide)]
      have f2 : zp_FrM τ1 (mw τ1 0 11 0) := zp_FrM_w (by omega)
      have hE2 := zp_FrM_cE f2 hE1
      obtain ⟨τ3, e3, k3, row3⟩ := zp_m_row hC hr 6 fuel0 0 (mw τ1 0 11 0) (by omega) (by omega) (by omega) hE2 (fun k hk => by omega)
      simp only [nm]
      rw [show (0 : Int32) = nI 0 from rfl] at e3 ⊢
      rw [e3]
      have f3 : zp_FrM τ1 τ3 := fun k j h7 h8 h9 h10 h0 => by rw [k3 k h10]; exact f2 k j h7 h8 h9 h10 h0
      have R3 : zp_RepM τ3 r zp_em := zp_RepM_of R1 (by rw [k3 7 (by omega), zp_mw_k (by omega)]) (by rw [k3 8 (by omega), zp_mw_k (by omega)]) (by rw [k3 9 (by omega), zp_mw_k (by omega)])
      obtain ⟨n, hn, en, hlt⟩ := zp_isA_n hC hA
      rw [en]
      obtain ⟨τ4, e4, R4, k4⟩ := zp_m_meet (a := n) hr hn (fun b d hb => by cases hb) (zp_fst0_w κ r) (by rw [k3 0 (by omega), zp_fst0_len]; rfl) row3 R3
      rw [e4]
      simp only [bv]
      have f4 : zp_FrM τ τ4 := zp_FrM_tr f1 (zp_FrM_tr f3 (zp_FrM_of k4))
      have eini : zp_ini κ r = zp_aput zp_em n (zp_fst0 κ r) := by unfold zp_ini; rw [if_pos hA, en, zp_q_nat (by omega)]
      rw [← eini] at R4
      obtain ⟨wi, pi⟩ := zp_ini_ok hC r
      have hN := zp_cn_le hC
      obtain ⟨τ5, e5, R5, f5⟩ := zp_m_run hC hr fuel0 1400 0 τ4 (zp_ini κ r) (by omega) (by omega) (zp_FrM_cE f4 hE) wi pi (fun j hj => by omega) R4
      rw [e5]
      have f6 := zp_FrM_tr f4 f5
      obtain ⟨τ6, e6, R6, f7⟩ := zp_m_scan (S := (zp_fin κ r).1) (W := (zp_fin κ r).2) hC hr (fun a d hd => (zp_fin_wF hC r).1 a d hd) (κ 1 0).toNatClampNeg fuel0 0 τ5 (by omega) (by omega) (by omega) (zp_FrM_cE f6 hE) R5
      exact ⟨τ6, e6, zp_FrM_tr f6 f7, R6⟩
end
end

/-! the functions alone, 37 -/
noncomputable section
def zp_sv (σ : mm_M) (a0 a1 a2 : Int32) (k : Nat) : Int32 := if zp_kd σ 0 (nI k) = 2 then 0 else (if k = 0 then a0 else if k = 1 then a1 else a2)
def zp_sargs (σ : mm_M) (a0 a1 a2 : Int32) (p : Nat) : zp_VL := (List.range p).map (fun k => (zp_kd σ 0 (nI k), zp_sv σ a0 a1 a2 k))
theorem zp_sargs_len (σ : mm_M) (a0 a1 a2 : Int32) (p : Nat) : (zp_sargs σ a0 a1 a2 p).length = p := by simp [zp_sargs]
theorem zp_sargs_get {σ : mm_M} {a0 a1 a2 : Int32} {p k : Nat} (h : k < p) : zp_gk (zp_sargs σ a0 a1 a2 p) k = (zp_kd σ 0 (nI k), zp_sv σ a0 a1 a2 k) := by
  unfold zp_gk zp_sargs
  simp [List.getD_eq_getElem?_getD, h]
section
variable {σ τ : mm_M}
theorem zp_m_start34 {p : Nat} {a0 a1 a2 : Int32} (hp3 : p ≤ 3) : ∀ (m f j : Nat) (τ : mm_M), p - j = m → j ≤ p → m < f → zp_cE σ τ → σ 6 0 = nI p → (∀ k, k < j → τ 15 k = nI (zp_kd σ 0 (nI k)) ∧ τ 14 k = zp_sv σ a0 a1 a2 k) → ∃ τ', fn_Mo_start_34 a0 a1 a2 f τ (nI j) = some (1, τ') ∧ (∀ k, k < p → τ' 15 k = nI (zp_kd σ 0 (nI k)) ∧ τ' 14 k = zp_sv σ a0 a1 a2 k) ∧ ∀ k' j', ¬ ((k' = 14 ∨ k' = 15) ∧ j' < p) → τ' k' j' = τ k' j' := by
  have hi0 : ¬ ((0 : Int32) < 0 ∨ 4 ≤ (0 : Int32).toNatClampNeg) := by decide
  have e00 : (0 : Int32).toNatClampNeg = 0 := by decide
  intro m
  induction m with
  | zero =>
    intro f j τ hm hj hf hE hp hlow
    obtain ⟨f', rfl⟩ : ∃ f', f = f' + 1 := ⟨f - 1, by omega⟩
    unfold fn_Mo_start_34
    rw [if_neg hi0, e00, hE.2.2.2.2.2.1, hp, if_pos ((zp_q_le (by omega) (by omega)).mpr (by omega)), if_pos (by decide)]
    exact ⟨τ, rfl, fun k hk => hlow k (by omega), fun _ _ _ => rfl⟩
  | succ m ih =>
    intro f j τ hm hj hf hE hp hlow
    obtain ⟨f', rfl⟩ : ∃ f', f = f' + 1 := ⟨f - 1, by omega⟩
    have hi1 : ¬ (nI j < 0 ∨ 96 ≤ j) := fun q => q.elim (zp_q_nn (by omega)) (by omega)
    have hk4 := zp_kd_lt σ 0 (nI j)
    have go : ∃ τ', fn_Mo_start_34 a0 a1 a2 f' (mw (mw τ 15 j (nI (zp_kd σ 0 (nI j)))) 14 j (zp_sv σ a0 a1 a2 j)) (nI (j + 1)) = some (1, τ') ∧ (∀ k, k < p → τ' 15 k = nI (zp_kd σ 0 (nI k)) ∧ τ' 14 k = zp_sv σ a0 a1 a2 k) ∧ ∀ k' j', ¬ ((k' = 14 ∨ k' = 15) ∧ j' < p) → τ' k' j' = τ k' j' := by
      obtain ⟨τ', e, k1, k2⟩ := ih f' (j + 1) (mw (mw τ 15 j (nI (zp_kd σ 0 (nI j)))) 14 j (zp_sv σ a0 a1 a2 j)) (by omega) (by omega) (by omega) hE hp (fun k hk => by
        rw [zp_mw_k (show 15 ≠ 14 by omega)]
        by_cases q : k = j
        · subst q; exact ⟨zp_mw_at, zp_mw_at⟩
        · rw [zp_mw_j q, zp_mw_j q, zp_mw_k (by omega)]; exact hlow k (by omega))
      refine ⟨τ', e, k1, fun k' j' h1 => ?_⟩
      rw [k2 k' j' h1, zp_mw_kj (by omega), zp_mw_kj (by omega)]
    unfold fn_Mo_start_34
    rw [if_neg hi0, e00, hE.2.2.2.2.2.1, hp, if_neg (fun q => by have := (zp_q_le (by omega) (by omega)).mp q; omega), show fn_Mo_kindOf τ 0 (nI j) = some (nI (zp_kd σ 0 (nI j)), τ) from zp_m_kind (r := 0) (k := nI j) hE (by omega), zp_bd_some, zp_q_nat (show j < 2 ^ 31 by omega)]
    simp only [nm, if_neg hi1, zp_mw_at]
    rw [zp_q_succ]
    have ev : zp_sv σ a0 a1 a2 j = if zp_kd σ 0 (nI j) = 2 then 0 else (if j = 0 then a0 else if j = 1 then a1 else a2) := rfl
    by_cases q : zp_kd σ 0 (nI j) = 2
    · rw [if_pos (show nI (zp_kd σ 0 (nI j)) = 2 by rw [q]; rfl)]
      rw [ev, if_pos q] at go; exact go
    · rw [if_neg (show ¬ nI (zp_kd σ 0 (nI j)) = 2 from fun q2 => q ((zp_q_eq (b := 2) (by omega) (by decide)).mp q2))]
      rw [ev, if_neg q] at go
      by_cases q0 : j = 0
      · rw [if_pos (show nI j = 0 by rw [q0]; rfl)]
        rw [if_pos q0] at go; exact go
      · rw [if_neg (show ¬ nI j = 0 from fun q2 => q0 ((zp_q_eq (b := 0) (by omega) (by decide)).mp q2))]
        rw [if_neg q0] at go
        by_cases q1 : j = 1
        · rw [if_pos (show nI j = 1 by rw [q1]; rfl)]
          rw [if_pos q1] at go; exact go
        · rw [if_neg (show ¬ nI j = 1 from fun q2 => q1 ((zp_q_eq (b := 1) (by omega) (by decide)).mp q2))]
          rw [if_neg q1] at go; exact go
theorem zp_c_first1 {ds : List Nat} {k : Nat} {v : Int32} {β : Type} (K : mm_M → Option β) (h : zp_wS 12 ds) (h2 : σ (19 + 2 * 0) 2 = nI (zp_pkd ds)) (hk : k < 12) : bd (fn_Ma_firstValue σ 0 (nI k) v) (fun r7 σ6 => bv (fn_Fr_setParameter σ6 0 (nI k) r7) K) = K (mw σ (20 + 2 * 0) k (if ds.getD k 0 = 2 then 0 else v)) := by
  have hi : ¬ (nI k < 0 ∨ 12 ≤ k) := fun q => q.elim (zp_q_nn (by omega)) (by omega)
  have l4 := zp_d4_get h.1 k
  unfold fn_Ma_firstValue fn_Fr_setParameter
  rw [h2, zp_s_at (zp_w12 h) (by omega), zp_bd_some]
  by_cases q : ds.getD k 0 = 2
  · rw [if_pos (show nI (ds.getD k 0) = 2 by rw [q]; rfl), zp_bd_some, zp_q_nat (by omega), if_neg hi, if_pos q]
    rfl
  · rw [if_neg (show ¬ nI (ds.getD k 0) = 2 from fun q2 => q ((zp_q_eq (b := 2) (by omega) (by decide)).mp q2)), zp_bd_some, zp_q_nat (by omega), if_neg hi, if_neg q]
    rfl
theorem zp_m_enterA {d n : Nat} {s : Int32} (hd : d < 8) (hn : n < 4) (h16 : τ 0 16 = nI d) (h4 : τ 4 n = s) : ∃ τ3, fn_Mo_enter τ (nI n) = some τ3 ∧ τ3 0 16 = nI (d + 1) ∧ (∀ k, k < 6 → τ3 15 (12 * d + k) = 0) ∧ ∀ k' j', ¬ (k' = 0 ∧ j' = 16) → ¬ ((k' = 14 ∨ k' = 15) ∧ 12 * d ≤ j' ∧ j' < 12 * d + 12) → τ3 k' j' = mw (mw (mw τ 11 d (nI n)) 12 d s) 13 d 0 k' j' := by
  have hi2 : ¬ (nI d < 0 ∨ 8 ≤ d) := fun q => q.elim (zp_q_nn (by omega)) (by omega)
  have hi4 : ¬ (nI n < 0 ∨ 4 ≤ n) := fun q => q.elim (zp_q_nn (by omega)) (by omega)
  have hf0 : 10 < fuel0 := by decide
  obtain ⟨τ3, e6, b16, b15, f6⟩ := zp_m_enter37 (a0 := nI n) hd 6 fuel0 0 (mw (mw (mw τ 11 d (nI n)) 12 d s) 13 d 0) (by omega) (by omega) (by omega) (by rw [zp_mw_k (by omega), zp_mw_k (by omega), zp_mw_k (by omega)]; exact h16) (fun k hk => by omega)
  refine ⟨τ3, ?_, b16, b15, f6⟩
  unfold fn_Mo_enter
  have z0 : ∀ v, mw τ 11 d v 0 16 = nI d := fun v => by rw [zp_mw_k (by omega)]; exact h16
  have z1 : ∀ v w, mw (mw τ 11 d v) 12 d w 0 16 = nI d := fun v w => by rw [zp_mw_k (by omega)]; exact z0 v
  have z4 : ∀ v, mw τ 11 d v 4 n = s := fun v => by rw [zp_mw_k (by omega)]; exact h4
  simp only [nm, h16, zp_q_nat (show d < 2 ^ 31 by omega), zp_q_nat (show n < 2 ^ 31 by omega), if_neg hi2, if_neg hi4, z0, z1, z4]
  exact e6
theorem zp_R_start (H : zp_Rl σ τ) (a0 a1 a2 : Int32) : ∃ r σ' τ', fn_FV_start σ a0 a1 a2 = some (r, σ') ∧ fn_Mo_start τ a0 a1 a2 = some (r, τ') ∧ zp_Rl σ' τ' := by
  obtain ⟨hC, hE, hK, hV, hM⟩ := id H
  have H26 : zp_Rl σ (mw τ 0 26 0) := zp_Rl_26 H
  have hE1 := H26.2.1
  have e00 : (0 : Int32).toNatClampNeg = 0 := by decide
  have hi0 : ¬ ((0 : Int32) < 0 ∨ 4 ≤ (0 : Nat)) := by decide
  have hhR : zp_hasR σ 0 = !decide (σ 4 0 = 0) := by unfold zp_hasR; rw [e00]; rfl
  unfold fn_FV_start fn_Mo_start
  simp only [nm]
  rw [zp_c_hasR, hhR, zp_bd_some, e00, if_neg hi0, hE1.2.2.2.1]
  by_cases ht : σ 4 0 = 0
  · simp only [ht, decide_true, Bool.not_true, Bool.false_eq_true, if_false, if_true, true_or]
    exact ⟨0, σ, _, rfl, rfl, H26⟩
  · simp only [ht, decide_false, Bool.not_false, if_true, if_false, if_neg (show ¬ (1 : Int32) = 0 by decide), or_true]
    obtain ⟨p, hp3, ep⟩ := (hC.2 0 (by omega)).2
    have hpN : (σ 6 0).toNatClampNeg = p := by rw [ep, zp_q_nat (by omega)]
    have hf0 : 10 < fuel0 := by decide
    have hc2 : ∀ k, 1 ≤ k → k ≤ 7 → mw (mw σ 16 0 0) 16 1 0 k = σ k := fun k h1 h2 => by rw [zp_mw_k (by omega), zp_mw_k (by omega)]
    have hopen := zp_c_open (σ := mw (mw σ 16 0 0) 16 1 0) (n := 0) (d := 0) (zp_wC_of hc2 hC) (by omega) (by omega) (by rw [zp_mw_j (by omega), zp_mw_at]; rfl)
    rw [zp_fst0_of hc2, show mw (mw σ 16 0 0) 16 1 0 5 0 = σ 5 0 by rw [zp_mw_k (by omega), zp_mw_k (by omega)]] at hopen
    generalize hs3 : mw (mw (mw (mw (mw (mw σ 16 0 0) 16 1 0) 16 0 (nI (0 + 1))) (19 + 2 * 0) 0 (nI 0)) (19 + 2 * 0) 1 (σ 5 0)) (19 + 2 * 0) 2 (nI (zp_pkd (zp_fst0 σ 0))) = σ3 at hopen
    have hw0 := zp_fst0_w σ 0
    have eB : fn_Ma_begin σ a0 a1 a2 = some (mw (mw (mw σ3 20 0 (if (zp_fst0 σ 0).getD 0 0 = 2 then 0 else a0)) 20 1 (if (zp_fst0 σ 0).getD 1 0 = 2 then 0 else a1)) 20 2 (if (zp_fst0 σ 0).getD 2 0 = 2 then 0 else a2)) := by
      unfold fn_Ma_begin
      simp only [nm]
      rw [show fn_Ma_openFrame (mw (mw σ 16 0 0) 16 1 0) 0 = _ from hopen, zp_bd_some]
      have s3 : σ3 (19 + 2 * 0) 2 = nI (zp_pkd (zp_fst0 σ 0)) := by rw [← hs3, zp_mw_at]
      rw [show (0 : Int32) = nI 0 from rfl, zp_c_first1 _ hw0 s3 (by omega), show (1 : Int32) = nI 1 from rfl, zp_c_first1 _ hw0 (by rw [zp_mw_k (by omega)]; exact s3) (by omega), show (2 : Int32) = nI 2 from rfl, zp_c_first1 _ hw0 (by rw [zp_mw_k (by omega), zp_mw_k (by omega)]; exact s3) (by omega)]
      rfl
    rw [eB, zp_bv_some]
    generalize hs4 : mw (mw (mw σ3 20 0 (if (zp_fst0 σ 0).getD 0 0 = 2 then 0 else a0)) 20 1 (if (zp_fst0 σ 0).getD 1 0 = 2 then 0 else a1)) 20 2 (if (zp_fst0 σ 0).getD 2 0 = 2 then 0 else a2) = σ4
    have s20 : ∀ k, k < p → σ4 20 k = zp_sv σ a0 a1 a2 k := fun k hk => by
      have eg := zp_fst0_get σ 0 (show k < 6 by omega)
      rw [hpN, if_pos hk] at eg
      rw [← hs4]
      rcases (show k = 0 ∨ k = 1 ∨ k = 2 by omega) with rfl | rfl | rfl
      · rw [zp_mw_j (by omega), zp_mw_j (by omega), zp_mw_at, eg]; rfl
      · rw [zp_mw_j (by omega), zp_mw_at, eg]; rfl
      · rw [zp_mw_at, eg]; rfl
    have s4 : ∀ k j, k ≠ 20 → σ4 k j = σ3 k j := fun k j h => by rw [← hs4, zp_mw_k h, zp_mw_k h, zp_mw_k h]
    have s3' : ∀ k j, k ≠ 19 → ¬ (k = 16 ∧ j = 0) → ¬ (k = 16 ∧ j = 1) → σ3 k j = σ k j := fun k j h1 h2 h3 => by
      rw [← hs3, zp_mw_k (by omega), zp_mw_k (by omega), zp_mw_k (by omega), zp_mw_kj h2, zp_mw_kj h3, zp_mw_kj h2]
    have t1 : mw (mw (mw τ 0 26 0) 0 16 0) 0 22 0 0 16 = nI 0 := by rw [zp_mw_j (by omega), zp_mw_at]; rfl
    have t4 : mw (mw (mw τ 0 26 0) 0 16 0) 0 22 0 4 0 = σ 5 0 := by rw [zp_mw_k (by omega), zp_mw_k (by omega), hE1.2.2.2.2.1]
    obtain ⟨τ3, eEn, b16, b15, f6⟩ := zp_m_enterA (d := 0) (n := 0) (by omega) (by omega) t1 t4
    rw [show fn_Mo_enter (mw (mw (mw τ 0 26 0) 0 16 0) 0 22 0) 0 = some τ3 from eEn, zp_bv_some]
    have f6' : ∀ k j, ¬ (k = 0 ∧ (j = 16 ∨ j = 22 ∨ j = 26)) → ¬ ((k = 14 ∨ k = 15) ∧ j < 12) → ¬ ((k = 11 ∨ k = 12 ∨ k = 13) ∧ j = 0) → τ3 k j = τ k j := fun k j h1 h2 h3 => by
      rw [f6 k j (by omega) (by omega), zp_mw_kj (by omega), zp_mw_kj (by omega), zp_mw_kj (by omega), zp_mw_kj (by omega), zp_mw_kj (by omega), zp_mw_kj (by omega)]
    have hE3 : zp_cE σ τ3 := by
      obtain ⟨E0, E1, E2, E3, E4, E5, E6⟩ := hE
      have ek : ∀ k, 1 ≤ k → k < 7 → τ3 k = τ k := fun k h1 h2 => by funext j; exact f6' k j (by omega) (by omega) (by omega)
      exact ⟨by rw [f6' 0 0 (by omega) (by omega) (by omega)]; exact E0, by rw [ek 1 (by omega) (by omega)]; exact E1, by rw [ek 2 (by omega) (by omega)]; exact E2, by rw [ek 3 (by omega) (by omega)]; exact E3, by rw [ek 4 (by omega) (by omega)]; exact E4, by rw [ek 5 (by omega) (by omega)]; exact E5, by rw [ek 6 (by omega) (by omega)]; exact E6⟩
    obtain ⟨τ4, e7, k7, f7⟩ := zp_m_start34 (a0 := a0) (a1 := a1) (a2 := a2) hp3 p fuel0 0 τ3 (by omega) (by omega) (by omega) hE3 ep (fun k hk => by omega)
    have f67 : ∀ k j, ¬ (k = 0 ∧ (j = 16 ∨ j = 22 ∨ j = 26)) → ¬ ((k = 14 ∨ k = 15) ∧ j < 12) → ¬ ((k = 11 ∨ k = 12 ∨ k = 13) ∧ j = 0) → τ4 k j = τ k j := fun k j h1 h2 h3 => by
      rw [f7 k j (by omega), f6' k j h1 h2 h3]
    have hsl := zp_sargs_len σ a0 a1 a2 p
    have hok : zp_okv 0 (zp_padv (zp_sargs σ a0 a1 a2 p)) := zp_padv_ok (σ := σ) (n := 0) (by omega) (by rw [hpN, hsl]) (fun k hk => by
      rw [hsl] at hk
      rw [zp_sargs_get hk]
      refine ⟨rfl, fun q => Or.inl ?_⟩
      show zp_sv σ a0 a1 a2 k = 0
      unfold zp_sv; rw [if_pos q])
    obtain ⟨d, u, fr, -, -, -, -, -, -, c7, -, -, -⟩ := hM
    refine ⟨1, σ4, τ4, rfl, e7, zp_Rl_mach H (fun k hk => ?_) (fun k h1 h2 => ?_) ?_ ?_ ⟨1, 0, fun _ => (0, σ 5 0, zp_padv (zp_sargs σ a0 a1 a2 p)), by omega, by omega, ?_, ?_, ?_, ?_, ?_, fun j hj => by omega, fun j hj => ?_, fun j hj => by omega⟩⟩
    · funext j; rw [s4 k j (by omega), s3' k j (by omega) (by omega) (by omega)]
    · funext j; exact f67 k j (by omega) (by omega) (by omega)
    · exact f67 0 0 (by omega) (by omega) (by omega)
    · exact f67 0 7 (by omega) (by omega) (by omega)
    · rw [s4 _ _ (by omega), ← hs3, zp_mw_k (by omega), zp_mw_k (by omega), zp_mw_k (by omega), zp_mw_at]
    · rw [f7 _ _ (by omega)]; exact b16
    · rw [s4 _ _ (by omega), ← hs3, zp_mw_k (by omega), zp_mw_k (by omega), zp_mw_k (by omega), zp_mw_j (by omega), zp_mw_at]; rfl
    · rw [f7 _ _ (by omega), f6 _ _ (by omega) (by omega), zp_mw_k (by omega), zp_mw_k (by omega), zp_mw_k (by omega), zp_mw_at]; rfl
    · rw [s4 _ _ (by omega), s3' _ _ (by omega) (by omega) (by omega), f67 _ _ (by omega) (by omega) (by omega)]; exact c7
    · have hj0 : j = 0 := by omega
      subst hj0
      refine ⟨by show 0 < 4; omega, ?_, ?_, ?_, ?_, ⟨?_, fun k h1 h2 => ?_⟩, ⟨?_, fun k h1 => ?_⟩, hok⟩
      · rw [s4 _ _ (by omega), ← hs3, zp_mw_j (by omega), zp_mw_j (by omega), zp_mw_at]
      · rw [f7 _ _ (by omega), f6 _ _ (by omega) (by omega), zp_mw_k (by omega), zp_mw_k (by omega), zp_mw_at]
      · rw [s4 _ _ (by omega), ← hs3, zp_mw_j (by omega), zp_mw_at]
      · rw [f7 _ _ (by omega), f6 _ _ (by omega) (by omega), zp_mw_k (by omega), zp_mw_at]
      · rw [s4 _ _ (by omega), ← hs3, zp_mw_at, zp_padv_dgs (κ := σ) (n := 0) (by omega) (by rw [hpN, hsl]) (fun k hk => by rw [hsl] at hk; rw [zp_sargs_get hk])]
      · rw [zp_padv_get] at h2 ⊢
        rw [hsl] at h2 ⊢
        by_cases q : k < p
        · rw [if_pos q, zp_sargs_get q]
          exact s20 k q
        · rw [if_neg q] at h2; exact absurd rfl h2
      · rw [f7 _ _ (by omega), f6 _ _ (by omega) (by omega), zp_mw_at, zp_padv_len (by omega)]; rfl
      · have h1' : k < (zp_padv (zp_sargs σ a0 a1 a2 p)).length := h1
        rw [zp_padv_len (by omega)] at h1'
        rw [zp_padv_get, hsl]
        by_cases q : k < p
        · rw [if_pos q, zp_sargs_get q, show 12 * 0 + k = k by omega]
          exact ⟨(k7 k q).1, fun _ => (k7 k q).2⟩
        · rw [if_neg q]
          refine ⟨?_, fun q4 => absurd rfl q4⟩
          rw [f7 _ _ (by omega)]; exact b15 k h1'
theorem zp_ok_Rl : okR zp_Rl :=
  ⟨zp_Rl_init, fun _ _ H a0 a1 => zp_R_add H a0 a1, fun _ _ H a0 a1 a2 a3 => zp_R_routine H a0 a1 a2 a3, fun _ _ H => zp_R_verify H, fun _ _ H => zp_R_isVerified H, fun _ _ H a0 a1 a2 => zp_R_type H a0 a1 a2, fun _ _ H a0 a1 a2 => zp_R_start H a0 a1 a2, fun _ _ H => zp_R_step H, fun _ _ H a0 => zp_R_steps H a0, fun _ _ H a0 => zp_R_about H a0, fun _ _ H a0 => zp_R_local H a0⟩
end
end

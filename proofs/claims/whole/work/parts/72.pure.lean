/-! the functions alone, 22 -/
noncomputable section
section
variable {σ τ : mm_M}
theorem zp_Rl_26 {v : Int32} (H : zp_Rl σ τ) : zp_Rl σ (mw τ 0 26 v) := by
  obtain ⟨hC, hE, hK, hV, hM⟩ := H
  obtain ⟨E0, E1, E2, E3, E4, E5, E6⟩ := id hE
  exact ⟨hC, ⟨by rw [zp_mw_j (by omega)]; exact E0, by rw [zp_mw_k (by omega)]; exact E1, by rw [zp_mw_k (by omega)]; exact E2, by rw [zp_mw_k (by omega)]; exact E3, by rw [zp_mw_k (by omega)]; exact E4, by rw [zp_mw_k (by omega)]; exact E5, by rw [zp_mw_k (by omega)]; exact E6⟩, hK, ⟨by rw [zp_mw_j (by omega)]; exact hV.1, hV.2⟩, zp_MR_of hM (fun _ _ => rfl) (zp_mw_j (by omega)) (zp_mw_j (by omega)) (zp_mw_j (by omega)) (fun k hk => zp_mw_k (by omega))⟩
theorem zp_R_isVerified (H : zp_Rl σ τ) : ∃ r σ' τ', fn_FV_isVerified σ = some (r, σ') ∧ fn_Mo_isVerified τ = some (r, τ') ∧ zp_Rl σ' τ' := by
  have hV := H.2.2.2.1
  refine ⟨σ 0 3, σ, mw τ 0 26 0, ?_, ?_, zp_Rl_26 H⟩
  · unfold fn_FV_isVerified
    rw [if_pos hV.2]
  · unfold fn_Mo_isVerified
    simp only [nm]
    rw [zp_mw_j (by omega), ← hV.1, if_pos hV.2]
theorem zp_q_3 {z : Int32} : (3 : Int32) < z ↔ (4 : Int32) ≤ z := by
  rw [Int32.lt_iff_toInt_lt, Int32.le_iff_toInt_le, show (3 : Int32).toInt = 3 by decide, show (4 : Int32).toInt = 4 by decide]
  omega
theorem zp_R_routine (H : zp_Rl σ τ) (a0 a1 a2 a3 : Int32) : ∃ r σ' τ', fn_FV_routine σ a0 a1 a2 a3 = some (r, σ') ∧ fn_Mo_routine τ a0 a1 a2 a3 = some (r, τ') ∧ zp_Rl σ' τ' := by
  unfold fn_FV_routine fn_Mo_routine
  simp only [nm, zp_q_3]
  have no : ∃ r σ' τ', (if (0 : Int32) = 0 ∨ (0 : Int32) = 1 then some ((0 : Int32), σ) else none) = some (r, σ') ∧ (if (0 : Int32) = 0 ∨ (0 : Int32) = 1 then some ((0 : Int32), mw τ 0 26 0) else none) = some (r, τ') ∧ zp_Rl σ' τ' := ⟨0, σ, mw τ 0 26 0, by simp, by simp, zp_Rl_26 H⟩
  by_cases h1 : a0 < 0
  · simp only [if_pos h1]; exact no
  by_cases h2 : (4 : Int32) ≤ a0
  · simp only [if_neg h1, if_pos h2]; exact no
  by_cases h3 : a2 < 0
  · simp only [if_neg h1, if_neg h2, if_pos h3]; exact no
  by_cases h4 : (4 : Int32) ≤ a2
  · simp only [if_neg h1, if_neg h2, if_neg h3, if_pos h4]; exact no
  by_cases h5 : a3 < 0
  · simp only [if_neg h1, if_neg h2, if_neg h3, if_neg h4, if_pos h5]; exact no
  by_cases h6 : a3 ≤ 15
  · simp only [if_neg h1, if_neg h2, if_neg h3, if_neg h4, if_neg h5, if_pos h6]
    obtain ⟨r, hr, rfl⟩ := zp_q_bd (N := 4) (by decide) h1 h2
    obtain ⟨p, hp, rfl⟩ := zp_q_bd (N := 4) (by decide) h3 h4
    obtain ⟨hC, hE, hK, hV, hM⟩ := H
    obtain ⟨⟨N, hN, eN⟩, hC2⟩ := id hC
    obtain ⟨E0, E1, E2, E3, E4, E5, E6⟩ := id hE
    obtain ⟨σ1, e1, k1, v1, f1⟩ := zp_c_forgetV (σ := σ)
    have hi1 : ¬ (nI r < 0 ∨ 4 ≤ r) := fun q => q.elim (zp_q_nn (by omega)) (by omega)
    rw [e1]
    unfold fn_Co_tell
    simp only [bv, nm, zp_q_nat (show r < 2 ^ 31 by omega), if_neg hi1]
    refine ⟨1, _, _, rfl, rfl, ⟨⟨N, hN, ?_⟩, fun s hs => ?_⟩, ⟨?_, ?_, ?_, ?_, ?_, ?_, ?_⟩, fun s hs => Or.inl ?_, ⟨?_, Or.inl ?_⟩, zp_MR_of hM (fun k hk => ?_) ?_ ?_ ?_ (fun k hk => ?_)⟩
    · simp only [zp_mw_k, ne_eq, show ¬ 1 = 7 by decide, show ¬ 1 = 6 by decide, show ¬ 1 = 5 by decide, show ¬ 1 = 4 by decide, not_false_eq_true]
      rw [f1 1 (by omega) (by omega)]; exact eN
    · rw [zp_mw_k (show 4 ≠ 7 by omega), zp_mw_k (show 4 ≠ 6 by omega), zp_mw_k (show 4 ≠ 5 by omega), zp_mw_k (show 6 ≠ 7 by omega)]
      by_cases q : s = r
      · subst q
        rw [zp_mw_at, zp_mw_at]
        exact ⟨Or.inr rfl, p, by omega, rfl⟩
      · rw [zp_mw_j q, zp_mw_j q, zp_mw_k (show 6 ≠ 5 by omega), zp_mw_k (show 6 ≠ 4 by omega), f1 4 (by omega) (by omega), f1 6 (by omega) (by omega)]
        exact hC2 s hs
    · simp [zp_mw_k, zp_mw_row, upd]
      rw [f1 1 (by omega) (by omega)]; exact E0
    · simp [zp_mw_k]; rw [f1 2 (by omega) (by omega)]; exact E1
    · simp [zp_mw_k]; rw [f1 3 (by omega) (by omega)]; exact E2
    · simp [zp_mw_k, zp_mw_row]; rw [f1 4 (by omega) (by omega), E3]
    · simp [zp_mw_k, zp_mw_row]; rw [f1 5 (by omega) (by omega), E4]
    · simp [zp_mw_k, zp_mw_row]; rw [f1 6 (by omega) (by omega), E5]
    · simp [zp_mw_k, zp_mw_row]; rw [f1 7 (by omega) (by omega), E6]
    · simp [zp_mw_k]; exact k1 s hs
    · simp [zp_mw_k, zp_mw_at]; exact v1
    · simp [zp_mw_k]; exact v1
    · rw [zp_mw_k (by omega), zp_mw_k (by omega), zp_mw_k (by omega), zp_mw_k (by omega)]; exact f1 k (by omega) (by omega)
    · simp [zp_mw_k, zp_mw_row, upd]
    · simp [zp_mw_k, zp_mw_row, upd]
    · simp [zp_mw_k, zp_mw_row, upd]
    · rw [zp_mw_k (by omega), zp_mw_k (by omega), zp_mw_k (by omega), zp_mw_k (by omega), zp_mw_k (by omega), zp_mw_k (by omega)]
  · simp only [if_neg h1, if_neg h2, if_neg h3, if_neg h4, if_neg h5, if_neg h6]; exact no
theorem zp_scan_cases (p : Nat → Bool) : ∀ (m i : Nat), zp_scan p m i = -1 ∨ ∃ n, n < i + m ∧ zp_scan p m i = nI n
  | 0, i => Or.inl rfl
  | m + 1, i => by
    unfold zp_scan
    by_cases h : p i = true
    · rw [if_pos h]; exact Or.inr ⟨i, by omega, rfl⟩
    · rw [if_neg h]
      rcases zp_scan_cases p m (i + 1) with q | ⟨n, hn, q⟩
      · exact Or.inl q
      · exact Or.inr ⟨n, by omega, q⟩
theorem zp_luf_cases {κ : mm_M} (hC : zp_wC κ) (r : Nat) : zp_luf κ r = -1 ∨ ∃ n, n < 1000 ∧ zp_luf κ r = nI n := by
  unfold zp_luf
  split
  · have := zp_cn_le hC
    rcases zp_scan_cases (zp_unf κ r (zp_fin κ r).1) (κ 1 0).toNatClampNeg 0 with q | ⟨n, hn, q⟩
    · exact Or.inl q
    · exact Or.inr ⟨n, by omega, q⟩
  · exact Or.inr ⟨999, by omega, rfl⟩
def zp_vr (κ : mm_M) : Nat → Nat → Int32
  | 0, _ => 0
  | m + 1, i => if κ 4 i ≠ 0 ∧ zp_luf κ i ≠ -1 then (1000 : Int32) * ((1 : Int32) + nI i) + zp_luf κ i else zp_vr κ m (i + 1)
theorem zp_FrC_kn {r s : Nat} {σ' : mm_M} (f : zp_FrC r σ σ') (hs : s < 4) (hr : r < 4) (hne : s ≠ r) (h : zp_knC σ s) : zp_knC σ' s := by
  unfold zp_knC at h ⊢
  rw [f 9 s (by omega) (by omega) (by omega) (by omega), zp_FrC_cod f]
  rcases h with q | ⟨q1, q2⟩
  · exact Or.inl q
  · exact Or.inr ⟨q1, fun a ha => by rw [f (11 + s) a (by omega) (by omega) (by omega) (by omega)]; exact q2 a ha⟩
theorem zp_c_work2 {r : Nat} (hC : zp_wC σ) (hr : r < 4) (hK : ∀ s, s < 4 → zp_knC σ s) : ∃ σ', fn_Fl_workOut σ (nI r) = some σ' ∧ (∀ a, a < 100 → σ' (11 + r) a = zp_enc ((zp_fin (zp_cod σ) r).1 a)) ∧ (∀ s, s < 4 → zp_knC σ' s) ∧ zp_FrC r σ σ' := by
  obtain ⟨σ', e, h1, h2, f⟩ := zp_c_work hC hr (hK r hr)
  refine ⟨σ', e, h1, fun s hs => ?_, f⟩
  by_cases q : s = r
  · subst q
    refine Or.inr ⟨h2, ?_⟩
    rw [zp_FrC_cod f]; exact h1
  · exact zp_FrC_kn f hs hr q (hK s hs)
theorem zp_c_verify (κ : mm_M) : ∀ (m f i : Nat) (σ : mm_M), 4 - i = m → i ≤ 4 → m < f → zp_cod σ = κ → zp_wC σ → (∀ s, s < 4 → zp_knC σ s) → σ 0 3 = 0 → ∃ σ', fn_FV_verify_22 f σ (nI i) = some (zp_vr κ m i, σ') ∧ zp_cod σ' = κ ∧ (∀ s, s < 4 → zp_knC σ' s) ∧ σ' 0 3 = (if zp_vr κ m i = 0 then 1 else 0) ∧ ∀ k, 16 ≤ k → σ' k = σ k := by
  intro m
  induction m with
  | zero =>
    intro f i σ hm hi hf hk hC hK h0
    obtain ⟨f', rfl⟩ : ∃ f', f = f' + 1 := ⟨f - 1, by omega⟩
    unfold fn_FV_verify_22
    rw [if_pos (show (4 : Int32) ≤ nI i from (zp_q_le (a := 4) (by decide) (by omega)).mpr (by omega))]
    simp only [nm]
    refine ⟨_, rfl, ?_, fun s hs => ?_, ?_, fun k hk => zp_mw_k (by omega)⟩
    · rw [← hk]
      funext k j
      unfold zp_cod
      split
      · rw [zp_mw_k (by omega)]
      · rfl
    · have e : zp_cod (mw σ 0 3 1) = zp_cod σ := by
        funext k j
        unfold zp_cod
        split
        · rw [zp_mw_k (by omega)]
        · rfl
      unfold zp_knC
      rw [zp_mw_k (by omega), e, zp_mw_k (by omega)]
      exact hK s hs
    · rw [zp_mw_at]; rfl
  | succ m ih =>
    intro f i σ hm hi hf hk hC hK h0
    obtain ⟨f', rfl⟩ : ∃ f', f = f' + 1 := ⟨f - 1, by omega⟩
    unfold fn_FV_verify_22 zp_vr
    rw [if_neg (show ¬ (4 : Int32) ≤ nI i from fun q => by have := (zp_q_le (a := 4) (by decide) (by omega)).mp q; omega), zp_c_hasR]
    simp only [bd]
    have hhR : zp_hasR σ (nI i) = !decide (κ 4 i = 0) := by
      unfold zp_hasR
      have h1 : ¬ nI i < 0 := zp_q_nn (by omega)
      have h2 : ¬ (4 : Int32) ≤ nI i := fun q => by have := (zp_q_le (a := 4) (by decide) (by omega)).mp q; omega
      rw [zp_q_nat (by omega), ← hk]
      simp only [h1, h2, decide_false, Bool.not_false, Bool.true_and]
      rfl
    rw [hhR]
    by_cases ht : κ 4 i = 0
    · simp only [ht, decide_true, Bool.not_true, Bool.false_eq_true, if_false, if_true, ne_eq, not_true_eq_false, false_and]
      rw [zp_q_succ]
      exact ih f' (i + 1) σ (by omega) (by omega) (by omega) hk hC hK h0
    · simp only [ht, decide_false, Bool.not_false, if_true, if_neg (show ¬ (1 : Int32) = 0 by decide), ne_eq, not_false_eq_true, true_and]
      obtain ⟨σ1, e1, h1, K1, f1⟩ := zp_c_work2 (r := i) hC (by omega) hK
      rw [e1]
      simp only [bv]
      have ec := zp_FrC_cod f1
      have hk1 : zp_cod σ1 = κ := ec.trans hk
      have hC1 : zp_wC σ1 := zp_cod_wC (by rw [ec]; exact zp_wC_cod hC)
      rw [zp_c_least hC1 (by omega) (by rw [ec]; exact h1), hk1]
      simp only
      have h01 : σ1 0 3 = 0 := by rw [f1 0 3 (by omega) (by omega) (by omega) (by omega)]; exact h0
      have fr1 : ∀ k, 16 ≤ k → σ1 k = σ k := fun k hk => by funext j; exact f1 k j (by omega) (by omega) (by omega) (by omega)
      by_cases hl : zp_luf κ i = -1
      · rw [if_pos hl, if_neg (fun q => q hl), zp_q_succ]
        obtain ⟨σ2, e2, c2, K2, v2, f2⟩ := ih f' (i + 1) σ1 (by omega) (by omega) (by omega) hk1 hC1 K1 h01
        exact ⟨σ2, e2, c2, K2, v2, fun k hk => by rw [f2 k hk, fr1 k hk]⟩
      · rw [if_neg hl, if_pos hl]
        refine ⟨σ1, rfl, hk1, K1, ?_, fr1⟩
        rw [if_neg, h01]
        rcases zp_luf_cases (κ := κ) (by rw [← hk]; exact zp_wC_cod hC) i with q | ⟨n, hn, q⟩
        · exact absurd q hl
        · rw [q, show (1000 : Int32) = nI 1000 from rfl, show (1 : Int32) = nI 1 from rfl, zp_q_add, zp_q_mul, zp_q_add]
          intro q2
          have := (zp_q_eq (b := 0) (by omega) (by decide)).mp q2
          omega
theorem zp_m_verify {κ : mm_M} (hC : zp_wC κ) : ∀ (m f i : Nat) (τ : mm_M) (l1 : Int32), 4 - i = m → i ≤ 4 → m < f → zp_cE κ τ → ∃ τ', fn_Mo_verify_24 f τ l1 (nI i) = some (if l1 = 0 then zp_vr κ m i else l1, τ') ∧ τ' 0 7 = (if (if l1 = 0 then zp_vr κ m i else l1) = 0 then 1 else 0) ∧ zp_FrM τ (mw τ' 0 7 (τ 0 7)) := by
  intro m
  induction m with
  | zero =>
    intro f i τ l1 hm hi hf hE
    obtain ⟨f', rfl⟩ : ∃ f', f = f' + 1 := ⟨f - 1, by omega⟩
    unfold fn_Mo_verify_24
    rw [if_pos (show (4 : Int32) ≤ nI i from (zp_q_le (a := 4) (by decide) (by omega)).mpr (by omega))]
    have fr : ∀ v, zp_FrM τ (mw (mw τ 0 7 v) 0 7 (τ 0 7)) := fun v k j h7 h8 h9 h10 h0 => by
      by_cases q : k = 0 ∧ j = 7
      · rw [q.1, q.2, zp_mw_at]
      · rw [zp_mw_kj q, zp_mw_kj q]
    by_cases h : l1 = 0
    · simp only [nm, if_pos h]
      exact ⟨_, by rw [h]; rfl, by rw [zp_mw_at]; rfl, fr _⟩
    · simp only [nm, if_neg h]
      exact ⟨_, rfl, by rw [zp_mw_at], fr _⟩
  | succ m ih =>
    intro f i τ l1 hm hi hf hE
    obtain ⟨f', rfl⟩ : ∃ f', f = f' + 1 := ⟨f - 1, by omega⟩
    unfold fn_Mo_verify_24
    rw [if_neg (show ¬ (4 : Int32) ≤ nI i from fun q => by have := (zp_q_le (a := 4) (by decide) (by omega)).mp q; omega)]
    obtain ⟨τ1, e1, f1, -⟩ := zp_m_work (r := i) hC hE (by omega)
    rw [e1]
    simp only [bd]
    have hE1 := zp_FrM_cE f1 hE
    have fr : ∀ τ', zp_FrM τ1 (mw τ' 0 7 (τ1 0 7)) → zp_FrM τ (mw τ' 0 7 (τ 0 7)) := fun τ' h => by
      have e7 : τ1 0 7 = τ 0 7 := f1 0 7 (by omega) (by omega) (by omega) (by omega) (by omega)
      rw [e7] at h
      exact zp_FrM_tr f1 h
    have go : ∀ l, (if l1 = 0 then zp_vr κ (m + 1) i else l1) = (if l = 0 then zp_vr κ m (i + 1) else l) → ∃ τ', fn_Mo_verify_24 f' τ1 l (nI i + 1) = some (if l1 = 0 then zp_vr κ (m + 1) i else l1, τ') ∧ τ' 0 7 = (if (if l1 = 0 then zp_vr κ (m + 1) i else l1) = 0 then 1 else 0) ∧ zp_FrM τ (mw τ' 0 7 (τ 0 7)) := fun l hl => by
      obtain ⟨τ2, e2, v2, f2⟩ := ih f' (i + 1) τ1 l (by omega) (by omega) (by omega) hE1
      rw [zp_q_succ, hl]
      exact ⟨τ2, e2, v2, fr _ f2⟩
    have ev : zp_vr κ (m + 1) i = if κ 4 i ≠ 0 ∧ zp_luf κ i ≠ -1 then (1000 : Int32) * ((1 : Int32) + nI i) + zp_luf κ i else zp_vr κ m (i + 1) := rfl
    by_cases ht : κ 4 i = 0
    · rw [if_pos ht, if_pos (by decide)]
      exact go l1 (by rw [ev, if_neg (show ¬ (κ 4 i ≠ 0 ∧ zp_luf κ i ≠ -1) from fun q => q.1 ht)])
    · rw [if_neg ht]
      rcases zp_luf_cases hC i with q | ⟨n, hn, q⟩
      · rw [q, if_pos (by decide)]
        exact go l1 (by rw [ev, if_neg (show ¬ (κ 4 i ≠ 0 ∧ zp_luf κ i ≠ -1) from fun q2 => q2.2 q)])
      · have hne : zp_luf κ i ≠ -1 := by rw [q]; exact zp_nI_ne (by omega) _ (by decide)
        rw [if_neg (by rw [q]; exact zp_q_nn (by omega))]
        by_cases hl : l1 = 0
        · rw [if_pos hl]
          simp only [nm]
          refine go _ ?_
          rw [if_pos hl, ev, if_pos ⟨ht, hne⟩, if_neg]
          rw [q, show (1000 : Int32) = nI 1000 from rfl, show (1 : Int32) = nI 1 from rfl, zp_q_add, zp_q_mul, zp_q_add]
          intro q2
          have := (zp_q_eq (b := 0) (by omega) (by decide)).mp q2
          omega
        · rw [if_neg hl]
          exact go l1 (by rw [if_neg hl, if_neg hl])
theorem zp_cE_cod (hE : zp_cE σ τ) : zp_cE (zp_cod σ) τ := hE
theorem zp_cod_cE (hE : zp_cE (zp_cod σ) τ) : zp_cE σ τ := hE
theorem zp_R_verify (H : zp_Rl σ τ) : ∃ r σ' τ', fn_FV_verify σ = some (r, σ') ∧ fn_Mo_verify τ = some (r, τ') ∧ zp_Rl σ' τ' := by
  obtain ⟨hC, hE, hK, hV, hM⟩ := H
  unfold fn_FV_verify fn_Mo_verify
  simp only [nm]
  have ec : zp_cod (mw σ 0 3 0) = zp_cod σ := by
    funext k j
    unfold zp_cod
    split
    · rw [zp_mw_k (by omega)]
    · rfl
  have hC1 : zp_wC (mw σ 0 3 0) := zp_cod_wC (by rw [ec]; exact zp_wC_cod hC)
  have hK1 : ∀ s, s < 4 → zp_knC (mw σ 0 3 0) s := fun s hs => by
    unfold zp_knC
    rw [zp_mw_k (by omega), ec, zp_mw_k (by omega)]
    exact hK s hs
  have hE1 : zp_cE (zp_cod σ) (mw τ 0 26 0) := zp_cE_cod (zp_Rl_26 ⟨hC, hE, hK, hV, hM⟩).2.1
  have hf0 : 4 < fuel0 := by decide
  have e3 : (0 : Int32).toNatClampNeg = 0 := by decide
  have hi1 : ¬ ((0 : Int32) < 0 ∨ 4 ≤ (0 : Nat)) := by decide
  have fin2 : ∀ (σ2 τ2 : mm_M) (x : Int32), zp_cod σ2 = zp_cod σ → (∀ s, s < 4 → zp_knC σ2 s) → (∀ k, 16 ≤ k → σ2 k = σ k) → σ2 0 3 = (if x = 0 then 1 else 0) → τ2 0 7 = (if x = 0 then 1 else 0) → zp_FrM (mw τ 0 26 0) (mw τ2 0 7 ((mw τ 0 26 0) 0 7)) → zp_Rl σ2 τ2 := by
    intro σ2 τ2 x h1 h2 h3 h4 h5 h6
    have hE2 : zp_cE (zp_cod σ) (mw τ2 0 7 ((mw τ 0 26 0) 0 7)) := zp_FrM_cE h6 hE1
    have hk : ∀ k, 11 ≤ k → τ2 k = τ k := fun k hk => by
      funext j
      have := h6 k j (by omega) (by omega) (by omega) (by omega) (by omega)
      rw [zp_mw_k (by omega), zp_mw_k (by omega)] at this
      exact this
    have h0 : ∀ j, j = 16 ∨ j = 22 ∨ j = 24 → τ2 0 j = τ 0 j := fun j hj => by
      have := h6 0 j (by omega) (by omega) (by omega) (by omega) (by omega)
      rw [zp_mw_j (by omega), zp_mw_j (by omega)] at this
      exact this
    have hE3 : zp_cE (zp_cod σ) τ2 := by
      obtain ⟨E0, E1, E2, E3, E4, E5, E6⟩ := hE2
      exact ⟨by rw [zp_mw_j (by omega)] at E0; exact E0, by rw [zp_mw_k (by omega)] at E1; exact E1, by rw [zp_mw_k (by omega)] at E2; exact E2, by rw [zp_mw_k (by omega)] at E3; exact E3, by rw [zp_mw_k (by omega)] at E4; exact E4, by rw [zp_mw_k (by omega)] at E5; exact E5, by rw [zp_mw_k (by omega)] at E6; exact E6⟩
    refine ⟨zp_cod_wC (by rw [h1]; exact zp_wC_cod hC), zp_cod_cE (by rw [h1]; exact hE3), h2, ⟨by rw [h4, h5], by rw [h4]; split; exact Or.inr rfl; exact Or.inl rfl⟩, zp_MR_of hM h3 (h0 16 (by omega)) (h0 22 (by omega)) (h0 24 (by omega)) hk⟩
  have e30 : mw τ 0 26 0 3 0 = zp_cod σ 4 0 := by rw [hE1.2.2.2.1]
  have hhR : zp_hasR (mw σ 0 3 0) 0 = !decide (zp_cod σ 4 0 = 0) := by
    unfold zp_hasR
    rw [e3, ← ec]
    rfl
  rw [zp_c_hasR, e3, if_neg hi1, e30, hhR]
  simp only [bd]
  by_cases ht : zp_cod σ 4 0 = 0
  · simp only [ht, decide_true, Bool.not_true, Bool.false_eq_true, if_false, if_true]
    obtain ⟨τ2, e2, v2, f2⟩ := zp_m_verify (zp_wC_cod hC) 4 fuel0 0 (mw τ 0 26 0) 1999 (by omega) (by omega) hf0 hE1
    rw [if_neg (show ¬ (1999 : Int32) = 0 by decide)] at e2 v2
    exact ⟨1999, mw σ 0 3 0, τ2, rfl, e2, fin2 _ τ2 1999 ec hK1 (fun k hk => zp_mw_k (by omega)) zp_mw_at v2 f2⟩
  · simp only [ht, decide_false, Bool.not_false, if_true, if_false, if_neg (show ¬ (1 : Int32) = 0 by decide)]
    obtain ⟨σ2, e2, c2, K2, v2, f2⟩ := zp_c_verify (zp_cod σ) 4 fuel0 0 (mw σ 0 3 0) (by omega) (by omega) hf0 ec hC1 hK1 zp_mw_at
    obtain ⟨τ3, e3', v3, f3⟩ := zp_m_verify (zp_wC_cod hC) 4 fuel0 0 (mw τ 0 26 0) 0 (by omega) (by omega) hf0 hE1
    rw [if_pos rfl] at e3' v3
    exact ⟨_, σ2, τ3, e2, e3', fin2 σ2 τ3 _ c2 K2 (fun k hk => by rw [f2 k hk, zp_mw_k (by omega)]) v2 v3 f3⟩
end
end

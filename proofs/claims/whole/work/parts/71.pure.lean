/-! the functions alone, 21 -/
noncomputable section
abbrev zp_VL : Type := List (Nat × Int32)
def zp_dgs (vs : zp_VL) : List Nat := vs.map Prod.fst
def zp_gk (vs : zp_VL) (k : Nat) : Nat × Int32 := vs.getD k (0, 0)
def zp_CF (σ : mm_M) (i : Nat) (vs : zp_VL) : Prop := σ (19 + 2 * i) 2 = nI (zp_pkd (zp_dgs vs)) ∧ ∀ k, k < vs.length → (zp_gk vs k).1 ≠ 0 → σ (20 + 2 * i) k = (zp_gk vs k).2
def zp_MF (τ : mm_M) (i : Nat) (vs : zp_VL) : Prop := τ 13 i = nI (vs.length - 6) ∧ ∀ k, k < vs.length → τ 15 (12 * i + k) = nI (zp_gk vs k).1 ∧ ((zp_gk vs k).1 ≠ 0 → τ 14 (12 * i + k) = (zp_gk vs k).2)
def zp_okr (u : Nat) (v : Int32) : Prop := v = 0 ∨ ∃ e n, n ≤ 12 ∧ e + n ≤ u ∧ v = nI (1 + 16 * e + n)
def zp_okv (u : Nat) (vs : zp_VL) : Prop := zp_wS 12 (zp_dgs vs) ∧ (∀ k, 6 ≤ k → k < vs.length → (zp_gk vs k).1 ≠ 0) ∧ ∀ k, (zp_gk vs k).1 = 2 → zp_okr u (zp_gk vs k).2
def zp_FR (σ τ : mm_M) (u i : Nat) (x : Nat × Int32 × zp_VL) : Prop := x.1 < 4 ∧ σ (19 + 2 * i) 0 = nI x.1 ∧ τ 11 i = nI x.1 ∧ σ (19 + 2 * i) 1 = x.2.1 ∧ τ 12 i = x.2.1 ∧ zp_CF σ i x.2.2 ∧ zp_MF τ i x.2.2 ∧ zp_okv u x.2.2
def zp_MR (σ τ : mm_M) : Prop := ∃ (d u : Nat) (fr : Nat → Nat × Int32 × zp_VL), d ≤ 8 ∧ u ≤ 30 ∧ σ 16 0 = nI d ∧ τ 0 16 = nI d ∧ σ 16 1 = nI u ∧ τ 0 22 = nI u ∧ σ 16 2 = τ 0 24 ∧ (∀ j, j < u → σ 17 j = τ 16 j) ∧ (∀ i, i < d → zp_FR σ τ u i (fr i)) ∧ ∀ i, i + 1 < d → (fr i).2.2.length ≤ 11
def zp_Rl (σ τ : mm_M) : Prop := zp_wC σ ∧ zp_cE σ τ ∧ (∀ r, r < 4 → zp_knC σ r) ∧ (σ 0 3 = τ 0 7 ∧ (σ 0 3 = 0 ∨ σ 0 3 = 1)) ∧ zp_MR σ τ
theorem zp_MR_of {σ τ σ' τ' : mm_M} (h : zp_MR σ τ) (hs : ∀ k, 16 ≤ k → σ' k = σ k) (h1 : τ' 0 16 = τ 0 16) (h2 : τ' 0 22 = τ 0 22) (h3 : τ' 0 24 = τ 0 24) (ht : ∀ k, 11 ≤ k → τ' k = τ k) : zp_MR σ' τ' := by
  obtain ⟨d, u, fr, a1, a2, a3, a4, a5, a6, a7, a8, a9, a10⟩ := h
  refine ⟨d, u, fr, a1, a2, by rw [hs 16 (by omega)]; exact a3, by rw [h1]; exact a4, by rw [hs 16 (by omega)]; exact a5, by rw [h2]; exact a6, by rw [hs 16 (by omega), h3]; exact a7, fun j hj => by rw [hs 17 (by omega), ht 16 (by omega)]; exact a8 j hj, fun i hi => ?_, a10⟩
  obtain ⟨b1, zp_b2, b3, b4, b5, b6, b7, b8⟩ := a9 i hi
  unfold zp_FR zp_CF zp_MF
  rw [hs (19 + 2 * i) (by omega), hs (20 + 2 * i) (by omega), ht 11 (by omega), ht 12 (by omega), ht 13 (by omega), ht 14 (by omega), ht 15 (by omega)]
  exact ⟨b1, zp_b2, b3, b4, b5, b6, b7, b8⟩
section
variable {σ τ : mm_M}
theorem zp_mw_row {σ : mm_M} {k j : Nat} {v : Int32} : mw σ k j v k = upd (σ k) j v := by simp [mw, va_up]
theorem zp_Rl_init : zp_Rl si_C si_M := by
  refine ⟨⟨⟨0, by omega, rfl⟩, fun r hr => ⟨Or.inl rfl, 0, by omega, rfl⟩⟩, ⟨rfl, rfl, rfl, rfl, rfl, rfl, rfl⟩, fun r hr => Or.inl rfl, ⟨rfl, Or.inl rfl⟩, ?_⟩
  exact ⟨0, 0, fun _ => (0, 0, []), by omega, by omega, rfl, rfl, rfl, rfl, rfl, fun j hj => by omega, fun i hi => by omega, fun i hi => by omega⟩
theorem zp_c_forget : ∀ (m f i : Nat) (σ : mm_M), 4 - i = m → i ≤ 4 → m < f → (∀ r, r < i → σ 9 r = 0) → ∃ σ', fn_Fl_forget_2 f σ (nI i) = some σ' ∧ (∀ r, r < 4 → σ' 9 r = 0) ∧ ∀ k, k ≠ 9 → σ' k = σ k := by
  intro m
  induction m with
  | zero =>
    intro f i σ hm hi hf hlow
    obtain ⟨f', rfl⟩ : ∃ f', f = f' + 1 := ⟨f - 1, by omega⟩
    unfold fn_Fl_forget_2
    rw [if_pos (show (4 : Int32) ≤ nI i from (zp_q_le (a := 4) (by decide) (by omega)).mpr (by omega))]
    exact ⟨σ, rfl, fun r hr => hlow r (by omega), fun _ _ => rfl⟩
  | succ m ih =>
    intro f i σ hm hi hf hlow
    obtain ⟨f', rfl⟩ : ∃ f', f = f' + 1 := ⟨f - 1, by omega⟩
    have hi1 : ¬ (nI i < 0 ∨ 4 ≤ i) := fun q => q.elim (zp_q_nn (by omega)) (by omega)
    unfold fn_Fl_forget_2
    rw [if_neg (show ¬ (4 : Int32) ≤ nI i from fun q => by have := (zp_q_le (a := 4) (by decide) (by omega)).mp q; omega), zp_q_nat (show i < 2 ^ 31 by omega)]
    simp only [nm, if_neg hi1]
    rw [zp_q_succ]
    obtain ⟨σ', e, h1, h2⟩ := ih f' (i + 1) (mw σ 9 i 0) (by omega) (by omega) (by omega) (fun r hr => by
      by_cases q : r = i
      · subst q; exact zp_mw_at
      · rw [zp_mw_j q]; exact hlow r (by omega))
    exact ⟨σ', e, h1, fun k hk => by rw [h2 k hk, zp_mw_k hk]⟩
theorem zp_c_forgetV : ∃ σ', fn_FV_forgetVerification σ = some σ' ∧ (∀ r, r < 4 → σ' 9 r = 0) ∧ σ' 0 3 = 0 ∧ (∀ k, k ≠ 9 → k ≠ 0 → σ' k = σ k) := by
  unfold fn_FV_forgetVerification fn_Fl_forget
  simp only [nm]
  obtain ⟨σ', e, h1, h2⟩ := zp_c_forget 4 fuel0 0 (mw σ 0 3 0) (by omega) (by omega) (by unfold fuel0; omega) (fun r hr => by omega)
  rw [show (0 : Int32) = nI 0 from rfl] at e ⊢
  rw [e]
  exact ⟨σ', rfl, h1, by rw [h2 0 (by omega)]; exact zp_mw_at, fun k h9 h0 => by rw [h2 k h9, zp_mw_k h0]⟩
theorem zp_R_add (H : zp_Rl σ τ) (a0 a1 : Int32) : ∃ x r σ' q τ', fn_FV_add σ a0 a1 = some (x, r, σ') ∧ fn_Mo_add τ a0 a1 = some (q, τ') ∧ fn_Mo_thrown τ' = some (cd_La_add x, τ') ∧ (x = 0 ∨ x = 5) ∧ (x = 0 → r = q) ∧ zp_Rl σ' τ' := by
  obtain ⟨hC, hE, hK, hV, hM⟩ := H
  obtain ⟨⟨N, hN, eN⟩, hC2⟩ := id hC
  obtain ⟨E0, E1, E2, E3, E4, E5, E6⟩ := id hE
  unfold fn_FV_add fn_Mo_add
  rw [E0, eN]
  by_cases h : N = 100
  · rw [if_neg (show ¬ nI N < (100 : Int32) from fun q => by have := (zp_q_lt (b := 100) (by omega) (by decide)).mp q; omega), if_pos (by rw [h]; rfl)]
    unfold fn_Mo_add_15
    simp only [nm, zp_mw_at]
    rw [if_neg (by decide)]
    refine ⟨5, 0, σ, _, _, rfl, rfl, ?_, Or.inr rfl, (fun q => by cases q), hC, ⟨by rw [zp_mw_j (by omega)]; exact E0, E1, E2, E3, E4, E5, E6⟩, hK, ⟨by rw [zp_mw_j (by omega)]; exact hV.1, hV.2⟩, zp_MR_of hM (fun _ _ => rfl) (zp_mw_j (by omega)) (zp_mw_j (by omega)) (zp_mw_j (by omega)) (fun k hk => zp_mw_k (by omega))⟩
    unfold fn_Mo_thrown
    rw [zp_mw_at]; rfl
  · have hi1 : ¬ (nI N < 0 ∨ 100 ≤ N) := fun q => q.elim (zp_q_nn (by omega)) (by omega)
    rw [if_pos (show nI N < (100 : Int32) from (zp_q_lt (b := 100) (by omega) (by decide)).mpr (by omega)), if_neg (show ¬ nI N = (100 : Int32) from fun q => h ((zp_q_eq (b := 100) (by omega) (by decide)).mp q))]
    unfold fn_FV_add_20 fn_Mo_add_15 fn_Co_append
    obtain ⟨σ1, e1, k1, v1, f1⟩ := zp_c_forgetV (σ := σ)
    rw [e1]
    simp only [bv, nm, zp_mw_at, if_true, bd]
    have c10 : σ1 1 0 = nI N := by rw [f1 1 (by omega) (by omega)]; exact eN
    have t00 : ∀ v, mw τ 0 26 v 0 0 = nI N := fun v => by rw [zp_mw_j (by omega), E0, eN]
    have t00' : ∀ v w j, mw (mw τ 0 26 v) 1 j w 0 0 = nI N := fun v w j => by rw [zp_mw_k (by omega)]; exact t00 v
    have t00'' : ∀ v w j w' j', mw (mw (mw τ 0 26 v) 1 j w) 2 j' w' 0 0 = nI N := fun v w j w' j' => by rw [zp_mw_k (by omega)]; exact t00' v w j
    have c1' : ∀ a b w w', mw (mw σ1 2 a w) 3 b w' 1 0 = nI N := fun a b w w' => by rw [zp_mw_k (by omega), zp_mw_k (by omega)]; exact c10
    simp only [c10, t00, t00', t00'', c1', zp_q_nat (show N < 2 ^ 31 by omega), if_neg hi1, zp_q_succ]
    have e00 : nI (N + 1) - 1 = nI N := by rw [show (1 : Int32) = nI 1 from rfl, zp_q_sub (by omega)]; rfl
    refine ⟨0, nI N, _, _, _, rfl, rfl, ?_, Or.inl rfl, fun _ => ?_, ⟨⟨N + 1, by omega, zp_mw_at⟩, fun r hr => ?_⟩, ⟨?_, ?_, ?_, ?_, ?_, ?_, ?_⟩, fun r hr => Or.inl ?_, ⟨?_, Or.inl ?_⟩, zp_MR_of hM (fun k hk => ?_) ?_ ?_ ?_ (fun k hk => ?_)⟩
    · unfold fn_Mo_thrown
      rw [zp_mw_j (by omega), zp_mw_j (by omega), zp_mw_k (by omega), zp_mw_k (by omega), zp_mw_at]; rfl
    · rw [zp_mw_j (by omega), zp_mw_at, e00]
    · rw [zp_mw_k (by omega), zp_mw_k (by omega), zp_mw_k (by omega), zp_mw_k (by omega), zp_mw_k (by omega), zp_mw_k (by omega), f1 4 (by omega) (by omega), f1 6 (by omega) (by omega)]; exact hC2 r hr
    · rw [zp_mw_j (by omega), zp_mw_at, zp_mw_at]
    · simp [zp_mw_k, zp_mw_row]
      rw [f1 2 (by omega) (by omega), E1]
    · simp [zp_mw_k, zp_mw_row]
      rw [f1 3 (by omega) (by omega), E2]
    · rw [zp_mw_k (by omega), zp_mw_k (by omega), zp_mw_k (by omega), zp_mw_k (by omega), zp_mw_k (by omega), zp_mw_k (by omega), zp_mw_k (by omega), zp_mw_k (by omega), f1 4 (by omega) (by omega)]; exact E3
    · rw [zp_mw_k (by omega), zp_mw_k (by omega), zp_mw_k (by omega), zp_mw_k (by omega), zp_mw_k (by omega), zp_mw_k (by omega), zp_mw_k (by omega), zp_mw_k (by omega), f1 5 (by omega) (by omega)]; exact E4
    · rw [zp_mw_k (by omega), zp_mw_k (by omega), zp_mw_k (by omega), zp_mw_k (by omega), zp_mw_k (by omega), zp_mw_k (by omega), zp_mw_k (by omega), zp_mw_k (by omega), f1 6 (by omega) (by omega)]; exact E5
    · rw [zp_mw_k (by omega), zp_mw_k (by omega), zp_mw_k (by omega), zp_mw_k (by omega), zp_mw_k (by omega), zp_mw_k (by omega), zp_mw_k (by omega), zp_mw_k (by omega), f1 7 (by omega) (by omega)]; exact E6
    · rw [zp_mw_k (by omega), zp_mw_k (by omega), zp_mw_k (by omega)]; exact k1 r hr
    · rw [zp_mw_k (by omega), zp_mw_k (by omega), zp_mw_k (by omega), v1, zp_mw_at]
    · rw [zp_mw_k (by omega), zp_mw_k (by omega), zp_mw_k (by omega)]; exact v1
    · rw [zp_mw_k (by omega), zp_mw_k (by omega), zp_mw_k (by omega)]; exact f1 k (by omega) (by omega)
    · rw [zp_mw_j (by omega), zp_mw_j (by omega), zp_mw_k (by omega), zp_mw_k (by omega), zp_mw_j (by omega)]
    · rw [zp_mw_j (by omega), zp_mw_j (by omega), zp_mw_k (by omega), zp_mw_k (by omega), zp_mw_j (by omega)]
    · rw [zp_mw_j (by omega), zp_mw_j (by omega), zp_mw_k (by omega), zp_mw_k (by omega), zp_mw_j (by omega)]
    · rw [zp_mw_k (by omega), zp_mw_k (by omega), zp_mw_k (by omega), zp_mw_k (by omega), zp_mw_k (by omega)]
end
end

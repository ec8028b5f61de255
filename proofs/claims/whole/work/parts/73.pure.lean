/-! the functions alone, 23 -/
noncomputable section
def zp_isLo12 (z : Int32) : Prop := ¬ z < 0 ∧ z < 12
def zp_tyv (s : zp_AS) (k : Nat) : Int32 := match s with
  | none => -1
  | some none => -2
  | some (some ds) => if k < ds.length then nI (ds.getD k 0) else -1
section
variable {σ τ : mm_M}
theorem zp_Rl_fr {σ' τ' : mm_M} {r : Nat} (H : zp_Rl σ τ) (f : zp_FrC r σ σ') (K : ∀ s, s < 4 → zp_knC σ' s) (g : zp_FrM τ τ') (hr : r < 4) : zp_Rl σ' τ' := by
  obtain ⟨hC, hE, hK, hV, hM⟩ := H
  have ec := zp_FrC_cod f
  refine ⟨zp_cod_wC (by rw [ec]; exact zp_wC_cod hC), zp_cod_cE (by rw [ec]; exact zp_FrM_cE g (zp_cE_cod hE)), K, ?_, zp_MR_of hM (fun k hk => ?_) ?_ ?_ ?_ (fun k hk => ?_)⟩
  · rw [f 0 3 (by omega) (by omega) (by omega) (by omega), g 0 7 (by omega) (by omega) (by omega) (by omega) (by omega)]; exact hV
  · funext j; exact f k j (by omega) (by omega) (by omega) (by omega)
  · exact g 0 16 (by omega) (by omega) (by omega) (by omega) (by omega)
  · exact g 0 22 (by omega) (by omega) (by omega) (by omega) (by omega)
  · exact g 0 24 (by omega) (by omega) (by omega) (by omega) (by omega)
  · funext j; exact g k j (by omega) (by omega) (by omega) (by omega) (by omega)
theorem zp_m_type {r a k : Nat} {κ : mm_M} (hC : zp_wC κ) (hE : zp_cE κ τ) (hr : r < 4) (ha : a < 100) (hk : k < 12) : ∃ τ', fn_Mo_type τ (nI r) (nI a) (nI k) = some (zp_tyv ((zp_finT κ r).1 a) k, τ') ∧ zp_FrM (mw τ 0 26 0) τ' := by
  have hE1 : zp_cE κ (mw τ 0 26 0) := hE
  unfold fn_Mo_type
  simp only [nm]
  rw [if_neg (zp_q_nn (by omega)), if_neg (show ¬ (3 : Int32) < nI r from fun q => by have := (zp_q_lt (a := 3) (by decide) (by omega)).mp q; omega), if_neg (zp_q_nn (by omega)), if_neg (show ¬ (99 : Int32) < nI a from fun q => by have := (zp_q_lt (a := 99) (by decide) (by omega)).mp q; omega), if_neg (zp_q_nn (by omega)), if_pos (show nI k ≤ (11 : Int32) from (zp_q_le (b := 11) (by omega) (by decide)).mpr (by omega))]
  obtain ⟨τ', e, f, R⟩ := zp_m_work hC hE1 hr
  rw [e]
  have e1 : (100 : Int32) * nI r + nI a = nI (100 * r + a) := by rw [show (100 : Int32) = nI 100 from rfl, zp_q_mul, zp_q_add]
  have hi : ¬ (nI (100 * r + a) < 0 ∨ 400 ≤ 100 * r + a) := fun q => q.elim (zp_q_nn (by omega)) (by omega)
  simp only [bd, e1, zp_q_nat (show 100 * r + a < 2 ^ 31 by omega), if_neg hi]
  refine ⟨τ', ?_, f⟩
  have h7 := R.1 a ha
  have h8 := R.2.1 a ha
  have hok : zp_okA ((zp_finT κ r).1 a) := by
    unfold zp_finT
    split
    · intro d hd; cases hd
    · intro d hd; exact (zp_fin_wF hC r).1 a d hd
  unfold zp_tyv
  cases hs : (zp_finT κ r).1 a with
  | none =>
    rw [hs] at h7
    have h7' : τ' 7 (100 * r + a) = -1 := h7
    rw [h7', if_neg (by decide), if_pos rfl]
  | some s =>
    cases s with
    | none =>
      rw [hs] at h7
      have h7' : τ' 7 (100 * r + a) = -2 := h7
      rw [h7', if_pos rfl]
    | some ds =>
      rw [hs] at h7 hok
      have hw := (hok ds rfl).2
      have h7' : τ' 7 (100 * r + a) = nI (ds.length - 6) := h7
      rw [h7', if_neg (zp_nI_ne (by omega) _ (by decide)), if_neg (zp_nI_ne (by omega) _ (by decide)), show (6 : Int32) = nI 6 from rfl, zp_q_add]
      by_cases hl : k < ds.length
      · have e12 : (12 : Int32) * nI (100 * r + a) + nI k = nI (12 * (100 * r + a) + k) := by rw [show (12 : Int32) = nI 12 from rfl, zp_q_mul, zp_q_add]
        have hi2 : ¬ (nI (12 * (100 * r + a) + k) < 0 ∨ 4800 ≤ 12 * (100 * r + a) + k) := fun q => q.elim (zp_q_nn (by omega)) (by omega)
        rw [if_pos ((zp_q_lt (by omega) (by omega)).mpr (by omega)), e12, zp_q_nat (show 12 * (100 * r + a) + k < 2 ^ 31 by omega), if_neg hi2, h8 ds hs k hl]
        simp only [hl, if_true]
      · rw [if_neg (fun q => by have := (zp_q_lt (by omega) (by omega)).mp q; omega)]
        simp only [hl, if_false]
theorem zp_c_type {r a k : Nat} (hC : zp_wC σ) (hK : ∀ s, s < 4 → zp_knC σ s) (hr : r < 4) (ht : ¬ σ 4 r = 0) (ha : a < (σ 1 0).toNatClampNeg) (hk : k < 12) : ∃ σ', fn_FV_type σ (nI r) (nI a) (nI k) = some (zp_tyv ((zp_finT (zp_cod σ) r).1 a) k, σ') ∧ zp_FrC r σ σ' ∧ ∀ s, s < 4 → zp_knC σ' s := by
  have hc := zp_cn_le hC
  have hhR : zp_hasR σ (nI r) = true := by
    unfold zp_hasR
    have h1 : ¬ nI r < 0 := zp_q_nn (by omega)
    have h2 : ¬ (4 : Int32) ≤ nI r := fun q => by have := (zp_q_le (a := 4) (by decide) (by omega)).mp q; omega
    rw [zp_q_nat (by omega)]
    simp [h1, h2, ht]
  unfold fn_FV_type
  rw [zp_c_hasR, hhR]
  simp only [bd, if_true, if_neg (show ¬ (1 : Int32) = 0 by decide)]
  rw [zp_c_hasI, zp_isA_of hC ha]
  simp only [if_true, if_neg (show ¬ (1 : Int32) = 0 by decide)]
  rw [if_neg (zp_q_nn (by omega)), if_pos (show nI k < (12 : Int32) from (zp_q_lt (b := 12) (by omega) (by decide)).mpr (by omega))]
  obtain ⟨σ', e, h1, h2, f⟩ := zp_c_work2 hC hr hK
  rw [e]
  have hi1 : ¬ (nI r < 0 ∨ 4 ≤ r) := fun q => q.elim (zp_q_nn (by omega)) (by omega)
  have hi2 : ¬ (nI a < 0 ∨ 100 ≤ a) := fun q => q.elim (zp_q_nn (by omega)) (by omega)
  unfold fn_Fl_stateOf
  simp only [bv, zp_q_nat (show r < 2 ^ 31 by omega), zp_q_nat (show a < 2 ^ 31 by omega), if_neg hi1, if_neg hi2]
  refine ⟨σ', ?_, f, h2⟩
  have hT : zp_finT (zp_cod σ) r = zp_fin (zp_cod σ) r := by unfold zp_finT; rw [if_neg (show ¬ zp_cod σ 4 r = 0 from ht)]
  rw [hT, h1 a (by omega)]
  have hok : zp_okA ((zp_fin (zp_cod σ) r).1 a) := fun d hd => (zp_fin_wF (zp_wC_cod hC) r).1 a d hd
  cases hs : (zp_fin (zp_cod σ) r).1 a with
  | none =>
    rw [show zp_enc none = -1 from rfl, if_neg (by decide), if_pos rfl]; rfl
  | some s =>
    cases s with
    | none =>
      rw [show zp_enc (some none) = -2 from rfl, if_pos rfl]; rfl
    | some ds =>
      rw [hs] at hok
      have hw := hok ds rfl
      have hw2 := hw.2
      have hp := zp_pkd_lt hw
      rw [show zp_enc (some (some ds)) = nI (zp_pkd ds) from rfl, if_neg (zp_nI_ne (by omega) _ (by decide)), if_neg (zp_nI_ne (by omega) _ (by decide)), zp_s_height (zp_w12 hw)]
      simp only
      rw [show (6 : Int32) = nI 6 from rfl, zp_q_add]
      unfold zp_tyv
      by_cases hl : k < ds.length
      · rw [if_pos ((zp_q_lt (by omega) (by omega)).mpr (by omega)), zp_s_at (zp_w12 hw) (by omega)]
        simp only [hl, if_true]
      · rw [if_neg (fun q => by have := (zp_q_lt (by omega) (by omega)).mp q; omega)]
        simp only [hl, if_false]
theorem zp_R_type (H : zp_Rl σ τ) (a0 a1 a2 : Int32) : ∃ r σ' τ', fn_FV_type σ a0 a1 a2 = some (r, σ') ∧ fn_Mo_type τ a0 a1 a2 = some (r, τ') ∧ zp_Rl σ' τ' := by
  obtain ⟨hC, hE, hK, hV, hM⟩ := id H
  have H26 : zp_Rl σ (mw τ 0 26 0) := zp_Rl_26 H
  have hc := zp_cn_le hC
  have mref : (∃ τ', fn_Mo_type τ a0 a1 a2 = some (-1, τ') ∧ zp_FrM (mw τ 0 26 0) τ') ∨ ∃ r a k, r < 4 ∧ a < 100 ∧ k < 12 ∧ a0 = nI r ∧ a1 = nI a ∧ a2 = nI k := by
    by_cases g : (¬ a0 < 0 ∧ ¬ (4 : Int32) ≤ a0) ∧ (¬ a1 < 0 ∧ ¬ (100 : Int32) ≤ a1) ∧ (¬ a2 < 0 ∧ ¬ (12 : Int32) ≤ a2)
    · obtain ⟨⟨g1, g2⟩, ⟨g3, g4⟩, g5, g6⟩ := g
      obtain ⟨r, hr, e1⟩ := zp_q_bd (N := 4) (by decide) g1 g2
      obtain ⟨a, ha, e2⟩ := zp_q_bd (N := 100) (by decide) g3 g4
      obtain ⟨k, hk, e3⟩ := zp_q_bd (N := 12) (by decide) g5 g6
      exact Or.inr ⟨r, a, k, hr, ha, hk, e1, e2, e3⟩
    · refine Or.inl ⟨mw τ 0 26 0, ?_, zp_FrM_refl⟩
      unfold fn_Mo_type
      simp only [nm]
      have q99 : (99 : Int32) < a1 ↔ (100 : Int32) ≤ a1 := by
        rw [Int32.lt_iff_toInt_lt, Int32.le_iff_toInt_le, show (99 : Int32).toInt = 99 by decide, show (100 : Int32).toInt = 100 by decide]; omega
      have q11 : a2 ≤ (11 : Int32) ↔ ¬ (12 : Int32) ≤ a2 := by
        rw [Int32.le_iff_toInt_le, Int32.le_iff_toInt_le, show (11 : Int32).toInt = 11 by decide, show (12 : Int32).toInt = 12 by decide]; omega
      by_cases g1 : a0 < 0
      · rw [if_pos g1]
      · by_cases g2 : (4 : Int32) ≤ a0
        · rw [if_neg g1, if_pos (zp_q_3.mpr g2)]
        · by_cases g3 : a1 < 0
          · rw [if_neg g1, if_neg (fun q => g2 (zp_q_3.mp q)), if_pos g3]
          · by_cases g4 : (100 : Int32) ≤ a1
            · rw [if_neg g1, if_neg (fun q => g2 (zp_q_3.mp q)), if_neg g3, if_pos (q99.mpr g4)]
            · by_cases g5 : a2 < 0
              · rw [if_neg g1, if_neg (fun q => g2 (zp_q_3.mp q)), if_neg g3, if_neg (fun q => g4 (q99.mp q)), if_pos g5]
              · by_cases g6 : (12 : Int32) ≤ a2
                · rw [if_neg g1, if_neg (fun q => g2 (zp_q_3.mp q)), if_neg g3, if_neg (fun q => g4 (q99.mp q)), if_neg g5, if_neg (fun q => q11.mp q g6)]
                · exact absurd ⟨⟨g1, g2⟩, ⟨g3, g4⟩, g5, g6⟩ g
  have cno : ∀ τ', zp_FrM (mw τ 0 26 0) τ' → zp_Rl σ τ' := fun τ' f => zp_Rl_fr (r := 0) H26 zp_FrC_refl hK f (by omega)
  have cref : (zp_hasR σ a0 = true ∧ zp_isA σ a1 = true ∧ zp_isLo12 a2) ∨ fn_FV_type σ a0 a1 a2 = some (-1, σ) := by
    by_cases g1 : zp_hasR σ a0 = true
    · by_cases g2 : zp_isA σ a1 = true
      · by_cases g3 : zp_isLo12 a2
        · exact Or.inl ⟨g1, g2, g3⟩
        · refine Or.inr ?_
          unfold fn_FV_type
          rw [zp_c_hasR, g1]
          simp only [bd, if_true, if_neg (show ¬ (1 : Int32) = 0 by decide)]
          rw [zp_c_hasI, g2]
          simp only [if_true, if_neg (show ¬ (1 : Int32) = 0 by decide)]
          unfold zp_isLo12 at g3
          by_cases g4 : a2 < 0
          · rw [if_pos g4]
          · by_cases g5 : a2 < 12
            · exact absurd ⟨g4, g5⟩ g3
            · rw [if_neg g4, if_neg g5]
      · refine Or.inr ?_
        unfold fn_FV_type
        rw [zp_c_hasR, g1]
        simp only [bd, if_true, if_neg (show ¬ (1 : Int32) = 0 by decide)]
        rw [zp_c_hasI]
        simp only [Bool.not_eq_true] at g2
        simp [g2]
    · refine Or.inr ?_
      unfold fn_FV_type
      rw [zp_c_hasR]
      simp only [Bool.not_eq_true] at g1
      simp [g1, bd]
  rcases cref with ⟨g1, g2, g3⟩ | g
  · obtain ⟨r, hr, rfl, ht⟩ := zp_hasR_n g1
    obtain ⟨a, ha, rfl, hlt⟩ := zp_isA_n hC g2
    obtain ⟨k, hk, rfl⟩ := zp_q_bd (N := 12) (by decide) g3.1 (fun q => by
      have := g3.2
      rw [Int32.lt_iff_toInt_lt] at this
      rw [Int32.le_iff_toInt_le] at q
      have e : (nI 12).toInt = (12 : Int32).toInt := rfl
      omega)
    obtain ⟨σ', e1, f1, K1⟩ := zp_c_type hC hK hr ht hlt hk
    obtain ⟨τ', e2, f2⟩ := zp_m_type (zp_wC_cod hC) (zp_cE_cod hE) hr ha hk
    exact ⟨_, σ', τ', e1, e2, zp_Rl_fr H26 f1 K1 f2 hr⟩
  · rcases mref with ⟨τ', e, f⟩ | ⟨r, a, k, hr, ha, hk, rfl, rfl, rfl⟩
    · exact ⟨-1, σ, τ', g, e, cno τ' f⟩
    · obtain ⟨τ', e2, f2⟩ := zp_m_type (zp_wC_cod hC) (zp_cE_cod hE) hr ha hk
      by_cases ht : σ 4 r = 0
      · have : (zp_finT (zp_cod σ) r).1 a = none := by
          unfold zp_finT
          rw [if_pos (show zp_cod σ 4 r = 0 from ht)]; rfl
        rw [this] at e2
        exact ⟨-1, σ, τ', g, e2, cno τ' f2⟩
      · by_cases hlt : a < (σ 1 0).toNatClampNeg
        · obtain ⟨σ', e1, f1, K1⟩ := zp_c_type hC hK hr ht hlt hk
          exact ⟨_, σ', τ', e1, e2, zp_Rl_fr H26 f1 K1 f2 hr⟩
        · have : (zp_finT (zp_cod σ) r).1 a = none := by
            unfold zp_finT
            rw [if_neg (show ¬ zp_cod σ 4 r = 0 from ht)]
            exact (zp_fin_wF (zp_wC_cod hC) r).2.2 a (show (σ 1 0).toNatClampNeg ≤ a by omega)
          rw [this] at e2
          exact ⟨-1, σ, τ', g, e2, cno τ' f2⟩
end
end

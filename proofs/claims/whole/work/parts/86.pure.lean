/-! the functions alone, 36 -/
noncomputable section
section
variable {σ τ : mm_M}
theorem zp_R_local (H : zp_Rl σ τ) (a0 : Int32) : ∃ r σ' τ', fn_FV_local σ a0 = some (r, σ') ∧ fn_Mo_local τ a0 = some (r, τ') ∧ zp_Rl σ' τ' := by
  obtain ⟨d1, d2⟩ := zp_R_dep H
  unfold fn_FV_local fn_Mo_local
  rw [zp_c_isLo, zp_bd_some]
  simp only [nm]
  have t16 : mw τ 0 26 0 0 16 = σ 16 0 := by rw [zp_mw_j (by omega), d1]
  have no : ∃ r σ' τ', some ((-1 : Int32), σ) = some (r, σ') ∧ some ((-1 : Int32), mw τ 0 26 0) = some (r, τ') ∧ zp_Rl σ' τ' := ⟨-1, σ, _, rfl, rfl, zp_Rl_26 H⟩
  cases hl : zp_isLo a0 with
  | false =>
    rw [if_pos (show (if false = true then (1 : Int32) else 0) = 0 by decide)]
    rcases zp_isLo_ft hl with q | ⟨q1, q2⟩
    · rw [if_pos q]; exact no
    · rw [if_neg q1, if_pos]
      · exact no
      · rw [Int32.lt_iff_toInt_lt]
        rw [Int32.le_iff_toInt_le] at q2
        omega
  | true =>
    obtain ⟨n, hn, rfl⟩ := zp_isLo_n hl
    rw [if_neg (show ¬ (if true = true then (1 : Int32) else 0) = 0 by decide), if_neg (zp_q_nn (by omega)), if_neg (show ¬ (5 : Int32) < nI n from fun q => by have := (zp_q_lt (a := 5) (by decide) (by omega)).mp q; omega), zp_c_run1x, zp_bd_some, t16]
    by_cases h0 : σ 16 0 = 0
    · rw [if_pos (d2.mpr h0), if_pos rfl, if_pos h0]; exact no
    · rw [if_neg (fun q => h0 (d2.mp q)), if_neg (by decide), if_neg h0]
      obtain ⟨d, u, fr, a1, a2, a3, a4, a5, a6, a7, a8, a9, a10⟩ := id H.2.2.2.2
      obtain ⟨i, rfl⟩ : ∃ i, d = i + 1 := by
        cases d with
        | zero => exact absurd a3 h0
        | succ d => exact ⟨d, rfl⟩
      obtain ⟨b1, zp_b2, b3, b4, b5, b6, b7, b8⟩ := a9 i (by omega)
      have hlv := zp_okv_len b8
      have hi8 : i < 8 := by omega
      have hi1 : ¬ (nI i < 0 ∨ 8 ≤ i) := fun q => q.elim (zp_q_nn (by omega)) (by omega)
      have hi2 : ¬ (nI (12 * i + n) < 0 ∨ 96 ≤ 12 * i + n) := fun q => q.elim (zp_q_nn (by omega)) (by omega)
      have e12 : (12 : Int32) * nI i + nI n = nI (12 * i + n) := by rw [show (12 : Int32) = nI 12 from rfl, zp_q_mul, zp_q_add]
      unfold fn_Ma_top
      rw [a3, zp_q_top hi8, zp_q_nat (show i < 2 ^ 31 by omega), if_neg hi1, zp_bd_some, zp_cf_shown b6 b8.1 (by omega), zp_bd_some, e12, zp_q_nat (show 12 * i + n < 2 ^ 31 by omega), if_neg hi2, zp_mw_k (by omega), zp_mw_k (by omega), (b7.2 n (by omega)).1]
      have l4 := zp_d4_get b8.1.1 n
      rw [zp_dgs_get] at l4
      by_cases g : (zp_gk (fr i).2.2 n).1 = 0
      · rw [if_pos g, if_pos (by rw [g]; rfl)]
        exact no
      · rw [if_neg (show ¬ nI (zp_gk (fr i).2.2 n).1 = 0 from fun q => g ((zp_q_eq (b := 0) (by omega) (by decide)).mp q)), (b7.2 n (by omega)).2 g]
        simp only [if_neg hi2]
        rw [zp_m_seen l4 g, zp_bd_some]
        exact ⟨_, σ, _, rfl, rfl, zp_Rl_26 H⟩
theorem zp_R_about (H : zp_Rl σ τ) (a0 : Int32) : ∃ r σ' τ', fn_FV_about σ a0 = some (r, σ') ∧ fn_Mo_about τ a0 = some (r, τ') ∧ zp_Rl σ' τ' := by
  obtain ⟨d1, d2⟩ := zp_R_dep H
  have H26 : zp_Rl σ (mw τ 0 26 0) := zp_Rl_26 H
  have hE0 := H26.2.1.1
  obtain ⟨d, u, fr, a1, a2, a3, a4, a5, a6, a7, a8, a9, a10⟩ := id H26.2.2.2.2
  unfold fn_FV_about fn_Mo_about fn_Mo_about_17
  simp only [nm]
  rw [zp_c_run1x]
  simp only [zp_bd_some]
  rw [a4]
  generalize hτ : mw τ 0 26 0 = τ1 at *
  have fin1 : ∀ x : Int32, ∃ r σ' τ', some (x, σ) = some (r, σ') ∧ some (x, τ1) = some (r, τ') ∧ zp_Rl σ' τ' := fun x => ⟨x, σ, τ1, rfl, rfl, H26⟩
  have fin2 : ∀ x y : Int32, x = y → ∃ r σ' τ', some (x, σ) = some (r, σ') ∧ some (y, τ1) = some (r, τ') ∧ zp_Rl σ' τ' := fun x y h => by rw [h]; exact fin1 y
  cases d with
  | zero =>
    have hle : σ 16 0 ≤ 0 := by rw [a3]; decide
    have hr : (if σ 16 0 ≤ 0 then (0 : Int32) else 1) = 0 := if_pos hle
    simp only [hr, if_pos (show nI 0 ≤ 0 by decide), if_true]
    unfold fn_Mo_about_32
    rw [if_neg (show ¬ ((0 : Int32) < 0 ∨ 8 ≤ (0 : Int32).toNatClampNeg) by decide)]
    simp only [nm, if_true]
    by_cases c0 : a0 = 0
    · simp only [if_pos c0]; exact fin1 0
    by_cases c1 : a0 = 1
    · subst c1; simp +decide only [if_false, if_true]; exact fin1 (-1)
    by_cases c2 : a0 = 2
    · subst c2; simp +decide only [if_false, if_true]; exact fin1 (-1)
    by_cases c3 : a0 = 3
    · subst c3; simp +decide only [if_false, if_true]; exact fin1 (-1)
    by_cases c4 : a0 = 4
    · subst c4; simp +decide only [if_false, if_true]; exact fin1 (-1)
    by_cases c5 : a0 = 5
    · subst c5; simp +decide only [if_false, if_true]; exact fin2 _ _ a7
    by_cases c6 : a0 = 6
    · subst c6; simp +decide only [if_false, if_true]; exact fin2 _ _ (a5.trans a6.symm)
    by_cases c7 : a0 = 7
    · subst c7; simp +decide only [if_false, if_true]; exact fin2 _ _ hE0.symm
    simp only [if_neg c0, if_neg c1, if_neg c2, if_neg c3, if_neg c4, if_neg c5, if_neg c6, if_neg c7]
    exact fin1 (-1)
  | succ i =>
    obtain ⟨b1, zp_b2, b3, b4, b5, b6, b7, b8⟩ := a9 i (by omega)
    have hlv := zp_okv_len b8
    have hi8 : i < 8 := by omega
    have hi1 : ¬ (nI i < 0 ∨ 8 ≤ i) := fun q => q.elim (zp_q_nn (by omega)) (by omega)
    have hle : ¬ σ 16 0 ≤ 0 := by rw [a3]; exact fun q => by have := (zp_q_le (b := 0) (by omega) (by decide)).mp q; omega
    have hle2 : ¬ nI (i + 1) ≤ 0 := fun q => by have := (zp_q_le (b := 0) (by omega) (by decide)).mp q; omega
    have hr : (if σ 16 0 ≤ 0 then (0 : Int32) else 1) = 1 := if_neg hle
    simp only [hr, if_neg hle2, if_neg (show ¬ (1 : Int32) = 0 by decide), zp_q_top hi8]
    have e12 : (12 : Int32) * nI i + 5 + nI ((fr i).2.2.length - 6) = nI (12 * i + ((fr i).2.2.length - 1)) := by
      rw [show (12 : Int32) = nI 12 from rfl, show (5 : Int32) = nI 5 from rfl, zp_q_mul, zp_q_add, zp_q_add]; congr 1; omega
    have hi2 : ¬ (nI (12 * i + ((fr i).2.2.length - 1)) < 0 ∨ 96 ≤ 12 * i + ((fr i).2.2.length - 1)) := fun q => q.elim (zp_q_nn (by omega)) (by omega)
    unfold fn_FV_aboutTopFrame fn_Ma_top fn_Mo_about_32
    rw [a3, zp_q_top hi8, zp_q_nat (show i < 2 ^ 31 by omega), if_neg hi1, if_neg hi1, zp_bd_some, b7.1, e12, b6.1, zp_s_height (zp_w12 b8.1), zp_dgs_len]
    simp only [nm, zp_bd_some, if_neg (show ¬ (1 : Int32) = 0 by decide), if_neg hi1]
    by_cases c0 : a0 = 0
    · simp only [if_pos c0]; exact fin1 1
    by_cases c1 : a0 = 1
    · subst c1; simp +decide only [if_false, if_true]; exact fin2 _ _ (b4.trans b5.symm)
    by_cases c2 : a0 = 2
    · subst c2; simp +decide only [if_false, if_true]; exact fin2 _ _ (a3.trans a4.symm)
    by_cases c3 : a0 = 3
    · subst c3; simp +decide only [if_false, if_true]; exact fin1 _
    by_cases c4 : a0 = 4
    · subst c4
      simp +decide only [if_false, if_true]
      by_cases g : (fr i).2.2.length = 6
      · rw [g]
        rw [if_pos (show nI (6 - 6) = 0 from rfl), if_pos (show nI (6 - 6) ≤ 0 by decide)]
        exact fin1 (-1)
      · have hn6 := zp_okv_get b8 (k := (fr i).2.2.length - 1) (by omega) (by omega)
        have hsl := zp_cf_slot (d := 0) b6 b8.1 (by omega)
        rw [if_neg (show ¬ nI ((fr i).2.2.length - 6) = 0 from fun q => by have := (zp_q_eq (b := 0) (by omega) (by decide)).mp q; omega), if_neg (show ¬ nI ((fr i).2.2.length - 6) ≤ 0 from fun q => by have := (zp_q_le (b := 0) (by omega) (by decide)).mp q; omega), show fn_Ty_slotBelow σ (σ (19 + 2 * i) 2) 0 = _ from hsl, zp_bd_some, show (fr i).2.2.length - 1 - 0 = (fr i).2.2.length - 1 from rfl, zp_cf_shown b6 b8.1 (by omega), zp_bd_some, zp_bd_some, zp_q_nat (show 12 * i + ((fr i).2.2.length - 1) < 2 ^ 31 by omega), if_neg hi2, if_neg hi2, (b7.2 _ (by omega)).1, (b7.2 _ (by omega)).2 hn6.1, zp_m_seen hn6.2.1 hn6.1, zp_bd_some]
        exact fin1 _
    by_cases c5 : a0 = 5
    · subst c5; simp +decide only [if_false, if_true]; exact fin2 _ _ a7
    by_cases c6 : a0 = 6
    · subst c6; simp +decide only [if_false, if_true]; exact fin2 _ _ (a5.trans a6.symm)
    by_cases c7 : a0 = 7
    · subst c7; simp +decide only [if_false, if_true]; exact fin2 _ _ hE0.symm
    simp only [if_neg c0, if_neg c1, if_neg c2, if_neg c3, if_neg c4, if_neg c5, if_neg c6, if_neg c7]
    exact fin1 (-1)
end
end

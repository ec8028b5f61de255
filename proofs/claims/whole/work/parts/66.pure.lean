/-! the functions alone, 16 -/
noncomputable section
def zp_hgt : zp_AS → Int32
  | none => -1
  | some none => -2
  | some (some ds) => nI (ds.length - 6)
def zp_bw (b : Bool) : Int32 := if b = true then 1 else 0
def zp_RepM (τ : mm_M) (r : Nat) (F : zp_FF) : Prop := (∀ a, a < 100 → τ 7 (100 * r + a) = zp_hgt (F.1 a)) ∧ (∀ a, a < 100 → ∀ ds, F.1 a = some (some ds) → ∀ k, k < ds.length → τ 8 (12 * (100 * r + a) + k) = nI (ds.getD k 0)) ∧ ∀ a, a < 100 → τ 9 (100 * r + a) = zp_bw (F.2 a)
section
variable {a0 a1 : Int32} {ds d0 : List Nat} {s : Nat}
theorem zp_m_190 {τ : mm_M} {ch w : Bool} (hs : s < 400) (e : τ 9 s = zp_bw w) : fn_Mo_meet_190 a0 a1 τ (nI s) (zp_bw ch) = some (mw τ 9 s (zp_bw (w || ch))) := by
  have hi : ¬ (nI s < 0 ∨ 400 ≤ s) := fun q => q.elim (zp_q_nn (by omega)) (by omega)
  unfold fn_Mo_meet_190
  rw [zp_q_nat (show s < 2 ^ 31 by omega), e]
  simp only [nm, if_neg hi]
  cases w <;> cases ch <;> rfl
def zp_LoopQ (τ τ' : mm_M) (s : Nat) (new : List Nat) (w : Bool) : Prop := (∀ k, k < new.length → τ' 8 (12 * s + k) = nI (new.getD k 0)) ∧ τ' 9 s = zp_bw w ∧ (∀ i, i ≠ s → τ' 9 i = τ 9 i) ∧ (∀ i, i < 12 * s ∨ 12 * s + 12 ≤ i → τ' 8 i = τ 8 i) ∧ ∀ k, k ≠ 8 → k ≠ 9 → τ' k = τ k
theorem zp_m_fresh (hs : s < 400) (hd : zp_wS 12 ds) {w : Bool} : ∀ (m f j : Nat) (τ : mm_M), ds.length - j = m → j ≤ ds.length → m < f → τ 0 11 = nI (ds.length - 6) → zp_rwo (τ 10) ds → τ 9 s = zp_bw w → (∀ k, k < j → τ 8 (12 * s + k) = nI (ds.getD k 0)) → ∃ τ', fn_Mo_meet_95 a0 a1 f τ (nI s) 1 1 (nI j) = some τ' ∧ zp_LoopQ τ τ' s ds true := by
  have hd2 := hd.2
  intro m
  induction m with
  | zero =>
    intro f j τ hm hj hf hh hr hw hlow
    obtain ⟨f', rfl⟩ : ∃ f', f = f' + 1 := ⟨f - 1, by omega⟩
    unfold fn_Mo_meet_95
    rw [hh, show (6 : Int32) = nI 6 from rfl, zp_q_add, if_pos ((zp_q_le (by omega) (by omega)).mpr (by omega)), show (1 : Int32) = zp_bw true from rfl, zp_m_190 hs hw]
    refine ⟨_, rfl, fun k hk => ?_, ?_, fun i hi => zp_mw_j hi, fun i _ => ?_, fun k _ h9 => zp_mw_k h9⟩
    · rw [zp_mw_k (by omega)]; exact hlow k (by omega)
    · rw [zp_mw_at, Bool.or_true]
    · rw [zp_mw_k (by omega)]
  | succ m ih =>
    intro f j τ hm hj hf hh hr hw hlow
    obtain ⟨f', rfl⟩ : ∃ f', f = f' + 1 := ⟨f - 1, by omega⟩
    have hi1 : ¬ (nI (12 * s + j) < 0 ∨ 4800 ≤ 12 * s + j) := fun q => q.elim (zp_q_nn (by omega)) (by omega)
    have hi2 : ¬ (nI j < 0 ∨ 12 ≤ j) := fun q => q.elim (zp_q_nn (by omega)) (by omega)
    unfold fn_Mo_meet_95
    have e12 : (12 : Int32) * nI s + nI j = nI (12 * s + j) := by rw [show (12 : Int32) = nI 12 from rfl, zp_q_mul, zp_q_add]
    rw [hh, show (6 : Int32) = nI 6 from rfl, zp_q_add, if_neg (fun q => by have := (zp_q_le (by omega) (by omega)).mp q; omega), e12, zp_q_nat (show 12 * s + j < 2 ^ 31 by omega), zp_q_nat (show j < 2 ^ 31 by omega)]
    simp only [nm, if_neg hi1, if_neg hi2, if_neg (show ¬ (1 : Int32) = 0 by decide)]
    rw [zp_q_succ, hr j (by omega)]
    obtain ⟨τ', e, q1, q2, q3, q4, q5⟩ := ih f' (j + 1) (mw τ 8 (12 * s + j) (nI (ds.getD j 0))) (by omega) (by omega) (by omega) (by rw [zp_mw_k (by omega)]; exact hh) (by rw [zp_mw_k (by omega)]; exact hr) (by rw [zp_mw_k (by omega)]; exact hw) (fun k hk => by
      by_cases q : k = j
      · subst q; exact zp_mw_at
      · rw [zp_mw_j (by omega)]; exact hlow k (by omega))
    refine ⟨τ', e, q1, q2, fun i hi => ?_, fun i hi => ?_, fun k h8 h9 => ?_⟩
    · rw [q3 i hi, zp_mw_k (by omega)]
    · rw [q4 i hi, zp_mw_j (by omega)]
    · rw [q5 k h8 h9, zp_mw_k h8]
theorem zp_m_old (hs : s < 400) (hd : zp_wS 12 ds) (h0 : zp_wS 12 d0) (hl : d0.length = ds.length) {w : Bool} : ∀ (m f j : Nat) (ch : Bool) (τ : mm_M), ds.length - j = m → j ≤ ds.length → m < f → τ 0 11 = nI (ds.length - 6) → zp_rwo (τ 10) ds → τ 9 s = zp_bw w → (∀ k, k < j → τ 8 (12 * s + k) = nI (zp_m1 (d0.getD k 0) (ds.getD k 0))) → (∀ k, j ≤ k → k < ds.length → τ 8 (12 * s + k) = nI (d0.getD k 0)) → (ch = false ↔ ∀ k, k < j → zp_m1 (d0.getD k 0) (ds.getD k 0) = d0.getD k 0) → ∃ τ', fn_Mo_meet_95 a0 a1 f τ (nI s) (zp_bw ch) 0 (nI j) = some τ' ∧ zp_LoopQ τ τ' s (zp_md d0 ds) (w || !decide (zp_md d0 ds = d0)) := by
  have hd2 := hd.2
  intro m
  induction m with
  | zero =>
    intro f j ch τ hm hj hf hh hr hw hlow hup hch
    obtain ⟨f', rfl⟩ : ∃ f', f = f' + 1 := ⟨f - 1, by omega⟩
    unfold fn_Mo_meet_95
    rw [hh, show (6 : Int32) = nI 6 from rfl, zp_q_add, if_pos ((zp_q_le (by omega) (by omega)).mpr (by omega)), zp_m_190 hs hw]
    have ech : ch = !decide (zp_md d0 ds = d0) := by
      cases hq : ch with
      | false =>
        have h1 := hch.mp hq
        have : zp_md d0 ds = d0 := by
          apply zp_ext_getD (zp_md_len hl)
          intro i hi
          rw [zp_md_len hl] at hi
          rw [zp_md_get hl i hi]; exact h1 i (by omega)
        rw [decide_eq_true this]; rfl
      | true =>
        have : ¬ zp_md d0 ds = d0 := fun q => by
          have : ch = false := hch.mpr (fun k hk => by rw [← zp_md_get hl k (by omega), q])
          rw [hq] at this; cases this
        rw [decide_eq_false this]; rfl
    refine ⟨_, rfl, fun k hk => ?_, ?_, fun i hi => zp_mw_j hi, fun i _ => ?_, fun k _ h9 => zp_mw_k h9⟩
    · rw [zp_md_len hl] at hk
      rw [zp_mw_k (by omega), zp_md_get hl k hk]; exact hlow k (by omega)
    · rw [zp_mw_at, ech]
    · rw [zp_mw_k (by omega)]
  | succ m ih =>
    intro f j ch τ hm hj hf hh hr hw hlow hup hch
    obtain ⟨f', rfl⟩ : ∃ f', f = f' + 1 := ⟨f - 1, by omega⟩
    have hi1 : ¬ (nI (12 * s + j) < 0 ∨ 4800 ≤ 12 * s + j) := fun q => q.elim (zp_q_nn (by omega)) (by omega)
    have hi2 : ¬ (nI j < 0 ∨ 12 ≤ j) := fun q => q.elim (zp_q_nn (by omega)) (by omega)
    unfold fn_Mo_meet_95
    have e12 : (12 : Int32) * nI s + nI j = nI (12 * s + j) := by rw [show (12 : Int32) = nI 12 from rfl, zp_q_mul, zp_q_add]
    rw [hh, show (6 : Int32) = nI 6 from rfl, zp_q_add, if_neg (fun q => by have := (zp_q_le (by omega) (by omega)).mp q; omega), e12, zp_q_nat (show 12 * s + j < 2 ^ 31 by omega), zp_q_nat (show j < 2 ^ 31 by omega)]
    simp only [nm, if_neg hi1, if_neg hi2, if_true]
    rw [zp_q_succ, hr j (by omega), hup j (Nat.le_refl _) (by omega)]
    have l0 := zp_d4_get h0.1 j
    have l1 := zp_d4_get hd.1 j
    have goal : ∀ ch' : Bool, (ch' = (ch || !decide (zp_m1 (d0.getD j 0) (ds.getD j 0) = d0.getD j 0))) → ∃ τ', fn_Mo_meet_95 a0 a1 f' (mw τ 8 (12 * s + j) (nI (zp_m1 (d0.getD j 0) (ds.getD j 0)))) (nI s) (zp_bw ch') 0 (nI (j + 1)) = some τ' ∧ zp_LoopQ τ τ' s (zp_md d0 ds) (w || !decide (zp_md d0 ds = d0)) := by
      intro ch' hc'
      obtain ⟨τ', e, q1, q2, q3, q4, q5⟩ := ih f' (j + 1) ch' (mw τ 8 (12 * s + j) (nI (zp_m1 (d0.getD j 0) (ds.getD j 0)))) (by omega) (by omega) (by omega) (by rw [zp_mw_k (by omega)]; exact hh) (by rw [zp_mw_k (by omega)]; exact hr) (by rw [zp_mw_k (by omega)]; exact hw) (fun k hk => by
        by_cases q : k = j
        · subst q; exact zp_mw_at
        · rw [zp_mw_j (by omega)]; exact hlow k (by omega)) (fun k hk hk2 => by
        rw [zp_mw_j (by omega)]; exact hup k (by omega) hk2) (by
        rw [hc', Bool.or_eq_false_iff, Bool.not_eq_false', decide_eq_true_eq, hch]
        constructor
        · intro q k hk
          by_cases q2 : k = j
          · rw [q2]; exact q.2
          · exact q.1 k (by omega)
        · intro q
          exact ⟨fun k hk => q k (by omega), q j (by omega)⟩)
      refine ⟨τ', e, q1, q2, fun i hi => ?_, fun i hi => ?_, fun k h8 h9 => ?_⟩
      · rw [q3 i hi, zp_mw_k (by omega)]
      · rw [q4 i hi, zp_mw_j (by omega)]
      · rw [q5 k h8 h9, zp_mw_k h8]
    by_cases hq : d0.getD j 0 = ds.getD j 0
    · have em1 : zp_m1 (d0.getD j 0) (ds.getD j 0) = ds.getD j 0 := by unfold zp_m1; rw [if_pos hq, hq]
      rw [em1] at goal
      simp only [hq, if_true]
      cases hc : ch with
      | false =>
        rw [if_pos (show zp_bw false = 0 from rfl)]
        exact goal false (by rw [hc, hq]; simp)
      | true =>
        rw [if_neg (show ¬ zp_bw true = 0 by decide)]
        exact goal true (by rw [hc]; rfl)
    · have em1 : zp_m1 (d0.getD j 0) (ds.getD j 0) = 3 := by unfold zp_m1; rw [if_neg hq]
      rw [em1] at goal
      rw [if_neg (fun q => hq ((zp_q_eq (by omega) (by omega)).mp q))]
      cases hc : ch with
      | false =>
        rw [if_pos (show zp_bw false = 0 from rfl)]
        by_cases h3 : d0.getD j 0 = 3
        · rw [if_pos (by rw [h3]; rfl)]
          exact goal false (by rw [hc, h3]; rfl)
        · rw [if_neg (fun q => h3 ((zp_q_eq (b := 3) (by omega) (by decide)).mp q.symm))]
          exact goal true (by rw [hc, decide_eq_false (fun q => h3 q.symm)]; rfl)
      | true =>
        rw [if_neg (show ¬ zp_bw true = 0 by decide)]
        exact goal true (by rw [hc]; rfl)
end
end

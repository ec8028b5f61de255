/-! the functions alone, 17 -/
noncomputable section
def zp_FrM (τ τ' : mm_M) : Prop := ∀ k j, k ≠ 7 → k ≠ 8 → k ≠ 9 → k ≠ 10 → ¬ (k = 0 ∧ (j = 11 ∨ j = 13 ∨ j = 14 ∨ j = 15)) → τ' k j = τ k j
theorem zp_FrM_refl {τ : mm_M} : zp_FrM τ τ := fun _ _ _ _ _ _ _ => rfl
theorem zp_FrM_tr {τ τ' τ'' : mm_M} (h : zp_FrM τ τ') (h2 : zp_FrM τ' τ'') : zp_FrM τ τ'' := fun k j a b c d e => (h2 k j a b c d e).trans (h k j a b c d e)
theorem zp_FrM_cE {κ τ τ' : mm_M} (h : zp_FrM τ τ') (hE : zp_cE κ τ) : zp_cE κ τ' := by
  have e : ∀ k, 0 < k → k < 7 → τ' k = τ k := fun k h0 h7 => by
    funext j; exact h k j (by omega) (by omega) (by omega) (by omega) (by omega)
  obtain ⟨a, b, c, d, e1, f, g⟩ := hE
  exact ⟨by rw [h 0 0 (by omega) (by omega) (by omega) (by omega) (by omega)]; exact a, by rw [e 1 (by omega) (by omega)]; exact b, by rw [e 2 (by omega) (by omega)]; exact c, by rw [e 3 (by omega) (by omega)]; exact d, by rw [e 4 (by omega) (by omega)]; exact e1, by rw [e 5 (by omega) (by omega)]; exact f, by rw [e 6 (by omega) (by omega)]; exact g⟩
theorem zp_FrM_of {τ τ' : mm_M} (h : ∀ k, k ≠ 7 → k ≠ 8 → k ≠ 9 → τ' k = τ k) : zp_FrM τ τ' := fun k j h7 h8 h9 _ _ => by rw [h k h7 h8 h9]
section
variable {τ : mm_M} {r a : Nat} {F : zp_FF} {ds : List Nat}
theorem zp_bw_or (x : Bool) : zp_bw (x || true) = 1 := by cases x <;> rfl
theorem zp_m_meet (hr : r < 4) (ha : a < 100) (hF : ∀ a, zp_okA (F.1 a)) (h : zp_wS 12 ds) (hh : τ 0 11 = nI (ds.length - 6)) (hrow : zp_rwo (τ 10) ds) (H : zp_RepM τ r F) : ∃ τ', fn_Mo_meet τ (nI r) (nI a) = some τ' ∧ zp_RepM τ' r (zp_aput F a ds) ∧ ∀ k, k ≠ 7 → k ≠ 8 → k ≠ 9 → τ' k = τ k := by
  have h2 := h.2
  have e1 : (100 : Int32) * nI r + nI a = nI (100 * r + a) := by rw [show (100 : Int32) = nI 100 from rfl, zp_q_mul, zp_q_add]
  have hs : 100 * r + a < 400 := by omega
  have hi : ¬ (nI (100 * r + a) < 0 ∨ 400 ≤ 100 * r + a) := fun q => q.elim (zp_q_nn (by omega)) (by omega)
  have hrep : ∀ (τ' τ1 : mm_M) (n : zp_AS) (w : Bool), zp_amet (F.1 a) ds = n → (∀ k, k ≠ 7 → τ1 k = τ k) → (∀ i, i ≠ 100 * r + a → τ1 7 i = τ 7 i) → τ1 7 (100 * r + a) = zp_hgt n → (∀ k, k ≠ 8 → k ≠ 9 → τ' k = τ1 k) → (∀ i, i ≠ 100 * r + a → τ' 9 i = τ1 9 i) → τ' 9 (100 * r + a) = zp_bw w → (∀ i, i < 12 * (100 * r + a) ∨ 12 * (100 * r + a) + 12 ≤ i → τ' 8 i = τ1 8 i) → (∀ d, n = some (some d) → ∀ k, k < d.length → τ' 8 (12 * (100 * r + a) + k) = nI (d.getD k 0)) → w = (F.2 a || !decide (n = F.1 a)) → zp_RepM τ' r (zp_aput F a ds) ∧ ∀ k, k ≠ 7 → k ≠ 8 → k ≠ 9 → τ' k = τ k := by
    intro τ' τ1 n w en t1 t2 t3 t4 t5 t6 t7 t8 ew
    refine ⟨?_, fun k h7 h8 h9 => by rw [t4 k h8 h9, t1 k h7]⟩
    have e9 : ∀ b, τ' 9 (100 * r + b) = zp_bw (if b = a then w else F.2 b) ∨ 100 ≤ b := fun b => by
      by_cases hb : b < 100
      · refine Or.inl ?_
        by_cases q : b = a
        · rw [q, if_pos rfl]; exact t6
        · rw [if_neg q, t5 _ (by omega), t1 9 (by omega)]; exact H.2.2 b hb
      · exact Or.inr (by omega)
    have e7 : ∀ b, b < 100 → τ' 7 (100 * r + b) = zp_hgt (if b = a then n else F.1 b) := fun b hb => by
      rw [t4 7 (by omega) (by omega)]
      by_cases q : b = a
      · rw [q, if_pos rfl]; exact t3
      · rw [if_neg q, t2 _ (by omega)]; exact H.1 b hb
    have e8 : ∀ b, b < 100 → ∀ d, (if b = a then n else F.1 b) = some (some d) → (b ≠ a → d.length ≤ 12) → ∀ k, k < d.length → τ' 8 (12 * (100 * r + b) + k) = nI (d.getD k 0) := fun b hb d hd hlen k hk => by
      by_cases q : b = a
      · rw [if_pos q] at hd
        rw [q]; exact t8 d hd k hk
      · rw [if_neg q] at hd
        have := hlen q
        rw [t7 _ (by omega), t1 8 (by omega)]; exact H.2.1 b hb d hd k hk
    have hlen : ∀ b d, F.1 b = some (some d) → d.length ≤ 12 := fun b d hd => (hF b d hd).2.2
    unfold zp_aput
    rw [en]
    by_cases q : n = F.1 a
    · rw [if_pos q]
      have i1 : ∀ b, (if b = a then n else F.1 b) = F.1 b := fun b => by
        by_cases q2 : b = a
        · rw [if_pos q2, q, q2]
        · rw [if_neg q2]
      have i2 : ∀ b, (if b = a then w else F.2 b) = F.2 b := fun b => by
        by_cases q2 : b = a
        · rw [if_pos q2, ew, decide_eq_true q, q2]; simp
        · rw [if_neg q2]
      refine ⟨fun b hb => by rw [e7 b hb, i1], fun b hb d hd k hk => e8 b hb d (by rw [i1]; exact hd) (fun _ => hlen b d hd) k hk, fun b hb => ?_⟩
      rcases e9 b with q3 | q3
      · rw [q3, i2]
      · omega
    · rw [if_neg q]
      refine ⟨fun b hb => ?_, fun b hb d hd k hk => ?_, fun b hb => ?_⟩
      · rw [e7 b hb]; rfl
      · exact e8 b hb d hd (fun q4 => by have hd' : zp_fu F.1 a n b = some (some d) := hd; rw [zp_fu_ne q4] at hd'; exact hlen b d hd') k hk
      · rcases e9 b with q3 | q3
        · rw [q3]
          have ew' : w = true := by rw [ew, decide_eq_false q]; simp
          rw [ew']; rfl
        · omega
  unfold fn_Mo_meet
  rw [e1, hh]
  simp only [nm, zp_q_nat (show 100 * r + a < 2 ^ 31 by omega), if_neg hi]
  have h7 := H.1 a ha
  have h9 := H.2.2 a ha
  have hf0 : ds.length < fuel0 := by unfold fuel0; omega
  have n1 : ∀ m : Nat, m < 100 → ¬ nI m = -1 := fun m hm => zp_nI_ne (by omega) _ (by decide)
  have n2 : ∀ m : Nat, m < 100 → ¬ nI m = -2 := fun m hm => zp_nI_ne (by omega) _ (by decide)
  have loopfresh : ∀ n, n = F.1 a → n = none → ∃ τ', fn_Mo_meet_95 (nI r) (nI a) fuel0 (mw τ 7 (100 * r + a) (nI (ds.length - 6))) (nI (100 * r + a)) 1 1 0 = some τ' ∧ zp_RepM τ' r (zp_aput F a ds) ∧ ∀ k, k ≠ 7 → k ≠ 8 → k ≠ 9 → τ' k = τ k := by
    intro n hn hn2
    obtain ⟨τ', e, q1, q2, q3, q4, q5⟩ := zp_m_fresh (a0 := nI r) (a1 := nI a) hs h (w := F.2 a) ds.length fuel0 0 (mw τ 7 (100 * r + a) (nI (ds.length - 6))) (by omega) (by omega) hf0 (by rw [zp_mw_k (by omega)]; exact hh) (by rw [zp_mw_k (by omega)]; exact hrow) (by rw [zp_mw_k (by omega)]; exact h9) (fun k hk => by omega)
    have hFa : F.1 a = none := by rw [← hn]; exact hn2
    refine ⟨τ', e, hrep τ' _ (some (some ds)) true (by rw [hFa]; rfl) (fun k hk => zp_mw_k hk) (fun i hi => zp_mw_j hi) zp_mw_at q5 q3 q2 q4 (fun d hd => by cases hd; exact q1) (by rw [hFa]; simp)⟩
  cases hs7 : F.1 a with
  | none =>
    rw [hs7] at h7
    have h7' : τ 7 (100 * r + a) = -1 := h7
    rw [h7', if_neg (by decide), if_neg (fun q => n1 _ (by omega) q.symm), if_pos rfl, if_pos rfl]
    exact loopfresh none (by rw [hs7]) rfl
  | some s =>
    cases s with
    | none =>
      rw [hs7] at h7
      have h7' : τ 7 (100 * r + a) = -2 := h7
      rw [h7', if_pos rfl]
      refine ⟨τ, rfl, ?_, fun _ _ _ _ => rfl⟩
      unfold zp_aput
      rw [if_pos (by rw [hs7]; rfl)]
      exact H
    | some d0 =>
      have w0 := hF a d0 hs7
      have w02 := w0.2
      rw [hs7] at h7
      have h7' : τ 7 (100 * r + a) = nI (d0.length - 6) := h7
      rw [h7', if_neg (n2 _ (by omega))]
      by_cases hl : d0.length = ds.length
      · rw [if_pos (by rw [hl]), if_neg (n1 _ (by omega)), if_neg (n1 _ (by omega))]
        obtain ⟨τ', e, q1, q2, q3, q4, q5⟩ := zp_m_old (a0 := nI r) (a1 := nI a) hs h w0 hl (w := F.2 a) ds.length fuel0 0 false (mw τ 7 (100 * r + a) (nI (ds.length - 6))) (by omega) (by omega) hf0 (by rw [zp_mw_k (by omega)]; exact hh) (by rw [zp_mw_k (by omega)]; exact hrow) (by rw [zp_mw_k (by omega)]; exact h9) (fun k hk => by omega) (fun k _ hk => by
          rw [zp_mw_k (by omega)]; exact H.2.1 a ha d0 hs7 k (by omega)) ⟨fun _ k hk => by omega, fun _ => rfl⟩
        refine ⟨τ', e, hrep τ' _ (some (some (zp_md d0 ds))) _ (by rw [hs7]; simp only [zp_amet, hl, if_true]) (fun k hk => zp_mw_k hk) (fun i hi => zp_mw_j hi) (by rw [zp_mw_at]; show _ = nI ((zp_md d0 ds).length - 6); rw [zp_md_len hl, hl]) q5 q3 q2 q4 (fun d hd => by cases hd; exact q1) ?_⟩
        rw [hs7]
        congr 2
        apply decide_eq_decide.mpr
        exact ⟨fun q => by rw [q], fun q => Option.some.inj (Option.some.inj q)⟩
      · rw [if_neg (fun q => hl (by have := (zp_q_eq (by omega) (by omega)).mp q; omega)), if_neg (n1 _ (by omega))]
        rw [show (1 : Int32) = zp_bw true from rfl, zp_m_190 (w := F.2 a) hs (by rw [zp_mw_k (by omega)]; exact h9)]
        refine ⟨_, rfl, hrep _ (mw τ 7 (100 * r + a) (-2)) (some none) true (by rw [hs7]; simp only [zp_amet, hl, if_false]) (fun k hk => zp_mw_k hk) (fun i hi => zp_mw_j hi) zp_mw_at (fun k _ h9 => zp_mw_k h9) (fun i hi => zp_mw_j hi) (by rw [zp_mw_at, Bool.or_true]) (fun i _ => by rw [zp_mw_k (by omega)]) (fun d hd => by cases hd) ?_⟩
        rw [hs7]; simp
end
end

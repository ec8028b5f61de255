/-! the functions alone, 18 -/
noncomputable section
def zp_fitv (κ : mm_M) (r a : Nat) (s : zp_AS) : Int32 := match s with
  | some (some ds) => zp_bw (zp_tr κ r a ds).isSome
  | _ => 0
section
variable {κ τ : mm_M} {r a : Nat} {F : zp_FF} {ds : List Nat}
theorem zp_RepM_of {τ' : mm_M} (H : zp_RepM τ r F) (h7 : τ' 7 = τ 7) (h8 : τ' 8 = τ 8) (h9 : τ' 9 = τ 9) : zp_RepM τ' r F := by
  unfold zp_RepM at H ⊢
  rw [h7, h8, h9]; exact H
theorem zp_m_load {a0 a1 : Int32} {s : Nat} (hs : s < 400) : ∀ (m f j : Nat) (τ : mm_M), 12 - j = m → j ≤ 12 → m < f → (∀ k, k < j → τ 10 k = τ 8 (12 * s + k)) → ∃ τ1, fn_Mo_fits_31 a0 a1 f τ (nI s) (nI j) = bv (fn_Mo_tryOut τ1 a0 a1) (fun σ7 => if (σ7 0 13) = 0 then some ((1 : Int32), σ7) else some ((0 : Int32), σ7)) ∧ (∀ k, k ≠ 10 → τ1 k = τ k) ∧ ∀ k, k < 12 → τ1 10 k = τ 8 (12 * s + k) := by
  intro m
  induction m with
  | zero =>
    intro f j τ hm hj hf hlow
    obtain ⟨f', rfl⟩ : ∃ f', f = f' + 1 := ⟨f - 1, by omega⟩
    have e : j = 12 := by omega
    subst e
    unfold fn_Mo_fits_31
    rw [if_pos (by decide)]
    refine ⟨τ, ?_, fun _ _ => rfl, hlow⟩
    simp
  | succ m ih =>
    intro f j τ hm hj hf hlow
    obtain ⟨f', rfl⟩ : ∃ f', f = f' + 1 := ⟨f - 1, by omega⟩
    have hi1 : ¬ (nI (12 * s + j) < 0 ∨ 4800 ≤ 12 * s + j) := fun q => q.elim (zp_q_nn (by omega)) (by omega)
    have hi2 : ¬ (nI j < 0 ∨ 12 ≤ j) := fun q => q.elim (zp_q_nn (by omega)) (by omega)
    have e12 : (12 : Int32) * nI s + nI j = nI (12 * s + j) := by rw [show (12 : Int32) = nI 12 from rfl, zp_q_mul, zp_q_add]
    unfold fn_Mo_fits_31
    rw [if_neg (show ¬ (12 : Int32) ≤ nI j from fun q => by have := (zp_q_le (a := 12) (by decide) (by omega)).mp q; omega), e12, zp_q_nat (show 12 * s + j < 2 ^ 31 by omega), zp_q_nat (show j < 2 ^ 31 by omega)]
    simp only [nm, if_neg hi1, if_neg hi2]
    rw [zp_q_succ]
    obtain ⟨τ1, e, q1, q2⟩ := ih f' (j + 1) (mw τ 10 j (τ 8 (12 * s + j))) (by omega) (by omega) (by omega) (fun k hk => by
      rw [zp_mw_k (show 8 ≠ 10 by omega)]
      by_cases q : k = j
      · subst q; exact zp_mw_at
      · rw [zp_mw_j q]; exact hlow k (by omega))
    refine ⟨τ1, e, fun k hk => by rw [q1 k hk, zp_mw_k hk], fun k hk => ?_⟩
    rw [q2 k hk, zp_mw_k (by omega)]
theorem zp_m_fits (hC : zp_wC κ) (hE : zp_cE κ τ) (hr : r < 4) (ha : a < 100) (hF : ∀ a, zp_okA (F.1 a)) (H : zp_RepM τ r F) : ∃ τ', fn_Mo_fits τ (nI r) (nI a) = some (zp_fitv κ r a (F.1 a), τ') ∧ zp_FrM τ τ' ∧ (∀ k, k = 7 ∨ k = 8 ∨ k = 9 → τ' k = τ k) ∧ ∀ ds d, F.1 a = some (some ds) → zp_tr κ r a ds = some d → τ' 0 11 = nI (d.length - 6) ∧ zp_rwo (τ' 10) d ∧ τ' 0 14 = zp_gOf (zp_oo κ a) ∧ τ' 0 15 = zp_tOf (zp_oo κ a) (κ 3 a) := by
  have e1 : (100 : Int32) * nI r + nI a = nI (100 * r + a) := by rw [show (100 : Int32) = nI 100 from rfl, zp_q_mul, zp_q_add]
  have hs : 100 * r + a < 400 := by omega
  have hi : ¬ (nI (100 * r + a) < 0 ∨ 400 ≤ 100 * r + a) := fun q => q.elim (zp_q_nn (by omega)) (by omega)
  unfold fn_Mo_fits
  rw [e1]
  simp only [nm, zp_q_nat (show 100 * r + a < 2 ^ 31 by omega), if_neg hi]
  have h7 := H.1 a ha
  cases h1 : F.1 a with
  | none =>
    rw [h1] at h7
    have h7' : τ 7 (100 * r + a) = -1 := h7
    rw [h7', if_neg (by decide)]
    exact ⟨τ, by simp [zp_fitv], zp_FrM_refl, fun _ _ => rfl, fun _ _ q => by cases q⟩
  | some s =>
    cases s with
    | none =>
      rw [h1] at h7
      have h7' : τ 7 (100 * r + a) = -2 := h7
      rw [h7', if_neg (by decide)]
      exact ⟨τ, by simp [zp_fitv], zp_FrM_refl, fun _ _ => rfl, fun _ _ q => by cases q⟩
    | some ds =>
      have hw := hF a ds h1
      have hw2 := hw.2
      rw [h1] at h7
      have h7' : τ 7 (100 * r + a) = nI (ds.length - 6) := h7
      rw [h7', if_pos (show (0 : Int32) ≤ nI (ds.length - 6) from (zp_q_le (a := 0) (by decide) (by omega)).mpr (by omega))]
      obtain ⟨τ1, el, q1, q2⟩ := zp_m_load (a0 := nI r) (a1 := nI a) hs 12 fuel0 0 (mw τ 0 11 (nI (ds.length - 6))) rfl (by omega) (by unfold fuel0; omega) (fun k hk => by omega)
      rw [show (0 : Int32) = nI 0 from rfl, el]
      have f1 : zp_FrM τ τ1 := fun k j h7 h8 h9 h10 h0 => by
        rw [q1 k h10, zp_mw_kj (by omega)]
      obtain ⟨τ2, d2, g, t, et, ⟨row, rfl, hrow⟩, wd, hres⟩ := zp_m_try (r := r) (a := a) hC (zp_FrM_cE f1 hE) hr ha hw (by rw [q1 0 (by omega), zp_mw_at]) (fun i hi => by
        rw [q2 i (by omega), zp_mw_k (by omega)]; exact H.2.1 a ha ds h1 i hi)
      rw [et]
      simp only [bv, zp_sc_b]
      refine ⟨zp_sc τ1 (nI (d2.length - 6)) (zp_b2 (zp_tr κ r a ds).isSome) g t row, ?_, ?_, ?_⟩
      · unfold zp_fitv
        simp only
        generalize (zp_tr κ r a ds).isSome = ok
        cases ok with
        | true => rfl
        | false => rfl
      · intro k j h7 h8 h9 h10 h0
        rw [← f1 k j h7 h8 h9 h10 h0]
        unfold zp_sc
        by_cases qk : k = 0
        · rw [if_pos qk, if_neg (by omega), if_neg (by omega), if_neg (by omega), if_neg (by omega), qk]
        · rw [if_neg qk, if_neg h10]
      · refine ⟨fun k hk => ?_, fun ds' d hds hd => ?_⟩
        · rw [← zp_mw_k (σ := τ) (k := 0) (j := 11) (v := nI (ds.length - 6)) (show k ≠ 0 by omega), ← q1 k (by omega)]
          funext j
          unfold zp_sc
          rw [if_neg (by omega), if_neg (by omega)]
        · have eds : ds = ds' := Option.some.inj (Option.some.inj hds)
          subst eds
          obtain ⟨r1, r2, r3⟩ := hres (by rw [hd]; rfl)
          rw [hd] at r1
          have ed : d = d2 := Option.some.inj r1
          subst ed
          exact ⟨rfl, hrow, r2, r3⟩
end
end

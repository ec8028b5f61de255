/-! the functions alone, 29 -/
noncomputable section
theorem zp_pop_args {κ : mm_M} {n u : Nat} : ∀ (m : Nat) (vs : zp_VL), zp_okv u vs → zp_popok (zp_wsm κ n m) (zp_dgs vs) = true → ∃ ws args, vs = ws ++ args ∧ args.length = m ∧ 6 ≤ ws.length ∧ zp_okv u ws ∧ ∀ k, k < m → (zp_gk args k).1 = zp_kd κ n (nI k) ∧ ((zp_gk args k).1 = 2 → zp_okr u (zp_gk args k).2) := by
  intro m
  induction m with
  | zero =>
    intro vs h _
    exact ⟨vs, [], by simp, rfl, (zp_okv_len h).1, h, fun k hk => by omega⟩
  | succ m ih =>
    intro vs h hp
    rw [zp_wsm_succ] at hp
    obtain ⟨ws0, p, rfl, hw, h6, hp2, ok0, hp0, hp4, hpr⟩ := zp_pop_cons h hp
    obtain ⟨ws, args, rfl, ha, hw6, okw, hk⟩ := ih ws0 ok0 hp2
    refine ⟨ws, args ++ [p], by rw [List.append_assoc], by simp [ha], hw6, okw, fun k hk2 => ?_⟩
    by_cases q : k = m
    · subst q
      rw [zp_gk_r (by omega), show k - args.length = 0 by omega]
      have e : (zp_gk [p] 0) = p := rfl
      rw [e]
      exact ⟨(hw.resolve_left (zp_kd_3 _ _ _)).symm, hpr⟩
    · rw [zp_gk_l (by omega)]
      exact hk k (by omega)
section
variable {σ τ : mm_M} {i u : Nat} {vs ws : zp_VL} {z : Int32}
theorem zp_c_enter {j : Nat} {a1 : Int32} (hij : i ≠ j) (h6 : 6 ≤ ws.length) : ∀ (m f : Nat) (args : zp_VL) (σ : mm_M), args.length = m → m ≤ 6 → m < f → zp_CF σ i (ws ++ args) → zp_okv u (ws ++ args) → ∃ σ', fn_Ma_enter_18 i a1 f σ j (nI m - 1) = some σ' ∧ zp_CF σ' i ws ∧ (∀ k, k < m → σ' (20 + 2 * j) k = (zp_gk args k).2) ∧ ∀ k' j', ¬ (k' = 19 + 2 * i ∧ j' = 2) → k' ≠ 20 + 2 * i → k' ≠ 20 + 2 * j → σ' k' j' = σ k' j' := by
  have keep : ∀ (m f : Nat) (args : zp_VL) (σ : mm_M), args.length = m → m ≤ 6 → m < f → zp_CF σ i (ws ++ args) → zp_okv u (ws ++ args) → ∃ σ', fn_Ma_enter_18 i a1 f σ j (nI m - 1) = some σ' ∧ zp_CF σ' i ws ∧ (∀ k, k < m → σ' (20 + 2 * j) k = (zp_gk args k).2) ∧ (∀ k, m ≤ k → σ' (20 + 2 * j) k = σ (20 + 2 * j) k) ∧ ∀ k' j', ¬ (k' = 19 + 2 * i ∧ j' = 2) → k' ≠ 20 + 2 * i → k' ≠ 20 + 2 * j → σ' k' j' = σ k' j' := by
    intro m
    induction m with
    | zero =>
      intro f args σ ha _ hf hc hok
      obtain ⟨f', rfl⟩ : ∃ f', f = f' + 1 := ⟨f - 1, by omega⟩
      have ea : args = [] := List.length_eq_zero_iff.mp ha
      subst ea
      rw [List.append_nil] at hc
      unfold fn_Ma_enter_18
      rw [if_pos (by decide)]
      exact ⟨σ, rfl, hc, fun k hk => by omega, fun _ _ => rfl, fun _ _ _ _ _ => rfl⟩
    | succ m ih =>
      intro f args σ ha h3 hf hc hok
      obtain ⟨f', rfl⟩ : ∃ f', f = f' + 1 := ⟨f - 1, by omega⟩
      obtain ⟨args0, p, rfl⟩ : ∃ args0 p, args = args0 ++ [p] := ⟨args.dropLast, args.getLast (by intro q; rw [q] at ha; simp at ha), (List.dropLast_concat_getLast _).symm⟩
      have ha0 : args0.length = m := by simpa using ha
      rw [← List.append_assoc] at hc hok
      have hl := zp_okv_len hok
      have hg := zp_okv_get hok (k := (ws ++ args0).length) (by simp; omega) (by simp)
      rw [zp_gk_r (Nat.le_refl _), Nat.sub_self] at hg
      have hp0 : p.1 ≠ 0 := hg.1
      obtain ⟨σ1, e1, c1, f1⟩ := zp_cf_pop hc hok.1 (by simp; omega) hp0
      have hi2 : ¬ (nI m < 0 ∨ 12 ≤ m) := fun q => q.elim (zp_q_nn (by omega)) (by omega)
      have zp_em : nI (m + 1) - 1 = nI m := by rw [show (1 : Int32) = nI 1 from rfl, zp_q_sub (by omega)]; rfl
      unfold fn_Ma_enter_18 fn_Fr_setParameter
      rw [zp_em, if_neg (zp_q_nn (by omega)), e1, zp_bd_some, zp_q_nat (by omega), if_neg hi2]
      simp only [nm]
      rw [zp_bv_some, show nI m + (-1 : Int32) = nI m - 1 by rw [Int32.sub_eq_add_neg]]
      have c2 : zp_CF (mw σ1 (20 + 2 * j) m p.2) i (ws ++ args0) := by
        unfold zp_CF
        rw [zp_mw_k (by omega), zp_mw_k (by omega)]; exact c1
      obtain ⟨σ2, e2, c3, k1, k2, k3⟩ := ih f' args0 (mw σ1 (20 + 2 * j) m p.2) ha0 (by omega) (by omega) c2 (zp_okv_pre hok (by simp; omega))
      refine ⟨σ2, e2, c3, fun k hk => ?_, fun k hk => ?_, fun k' j' h1 h2 h3 => ?_⟩
      · by_cases q : k = m
        · subst q
          rw [k2 k (Nat.le_refl _), zp_mw_at, zp_gk_r (by omega), show k - args0.length = 0 by omega]; rfl
        · rw [k1 k (by omega), zp_gk_l (by omega)]
      · rw [k2 k (by omega), zp_mw_j (by omega), f1 _ _ (by omega) (by omega)]
      · rw [k3 k' j' h1 h2 h3, zp_mw_k h3]; exact f1 k' j' h1 h2
  intro m f args σ h1 h2 h3 h4 h5
  obtain ⟨σ', e, k1, k2, -, k4⟩ := keep m f args σ h1 h2 h3 h4 h5
  exact ⟨σ', e, k1, k2, k4⟩
theorem zp_m_enter37 {d : Nat} {a0 : Int32} (hd : d < 8) : ∀ (m f j : Nat) (τ : mm_M), 6 - j = m → j ≤ 6 → m < f → τ 0 16 = nI d → (∀ k, k < j → τ 15 (12 * d + k) = 0) → ∃ τ', fn_Mo_enter_37 a0 f τ (nI j) = some τ' ∧ τ' 0 16 = nI (d + 1) ∧ (∀ k, k < 6 → τ' 15 (12 * d + k) = 0) ∧ ∀ k' j', ¬ (k' = 0 ∧ j' = 16) → ¬ ((k' = 14 ∨ k' = 15) ∧ 12 * d ≤ j' ∧ j' < 12 * d + 12) → τ' k' j' = τ k' j' := by
  intro m
  induction m with
  | zero =>
    intro f j τ hm hj hf h0 hlow
    obtain ⟨f', rfl⟩ : ∃ f', f = f' + 1 := ⟨f - 1, by omega⟩
    unfold fn_Mo_enter_37
    rw [if_pos (show (6 : Int32) ≤ nI j from (zp_q_le (a := 6) (by decide) (by omega)).mpr (by omega))]
    simp only [nm]
    refine ⟨_, rfl, by rw [zp_mw_at, h0, zp_q_succ], fun k hk => ?_, fun k' j' h1 h2 => zp_mw_kj h1⟩
    rw [zp_mw_k (by omega)]; exact hlow k (by omega)
  | succ m ih =>
    intro f j τ hm hj hf h0 hlow
    obtain ⟨f', rfl⟩ : ∃ f', f = f' + 1 := ⟨f - 1, by omega⟩
    have hi : ¬ (nI (12 * d + j) < 0 ∨ 96 ≤ 12 * d + j) := fun q => q.elim (zp_q_nn (by omega)) (by omega)
    have ex : (12 : Int32) * nI d + nI j = nI (12 * d + j) := by rw [show (12 : Int32) = nI 12 from rfl, zp_q_mul, zp_q_add]
    unfold fn_Mo_enter_37
    rw [if_neg (show ¬ (6 : Int32) ≤ nI j from fun q => by have := (zp_q_le (a := 6) (by decide) (by omega)).mp q; omega), h0, ex, zp_q_nat (show 12 * d + j < 2 ^ 31 by omega), if_neg hi]
    have h0' : ∀ v k, mw τ 15 k v 0 16 = nI d := fun v k => by rw [zp_mw_k (by omega)]; exact h0
    simp only [nm, h0', ex, zp_q_nat (show 12 * d + j < 2 ^ 31 by omega), if_neg hi]
    rw [zp_q_succ]
    obtain ⟨τ', e, k1, k2, k3⟩ := ih f' (j + 1) (mw (mw τ 15 (12 * d + j) 0) 14 (12 * d + j) 0) (by omega) (by omega) (by omega) (by rw [zp_mw_k (by omega)]; exact h0' _ _) (fun k hk => by
      rw [zp_mw_k (by omega)]
      by_cases q : k = j
      · subst q; exact zp_mw_at
      · rw [zp_mw_j (by omega)]; exact hlow k (by omega))
    refine ⟨τ', e, k1, k2, fun k' j' h1 h2 => ?_⟩
    rw [k3 k' j' h1 h2, zp_mw_kj (by omega), zp_mw_kj (by omega)]
theorem zp_m_call40 {n : Nat} {x : Nat} {args : zp_VL} (hn : n < 4) (hi : i + 1 < 8) (hx : x + args.length ≤ 12 * i + 12) (hal : args.length ≤ 3) : ∀ (m f j : Nat) (τ : mm_M), args.length - j = m → j ≤ args.length → m < f → τ 5 n = nI args.length → (∀ k, k < args.length → τ 15 (x + k) = nI (zp_gk args k).1 ∧ ((zp_gk args k).1 ≠ 0 → τ 14 (x + k) = (zp_gk args k).2)) → (∀ k, k < j → τ 15 (12 * (i + 1) + k) = nI (zp_gk args k).1 ∧ ((zp_gk args k).1 ≠ 0 → τ 14 (12 * (i + 1) + k) = (zp_gk args k).2)) → ∃ τ', fn_Mo_call_40 (nI n) f τ (nI i) (nI x) (nI j) = some τ' ∧ (∀ k, k < args.length → τ' 15 (12 * (i + 1) + k) = nI (zp_gk args k).1 ∧ ((zp_gk args k).1 ≠ 0 → τ' 14 (12 * (i + 1) + k) = (zp_gk args k).2)) ∧ ∀ k' j', ¬ ((k' = 14 ∨ k' = 15) ∧ 12 * (i + 1) ≤ j' ∧ j' < 12 * (i + 1) + args.length) → τ' k' j' = τ k' j' := by
  have hi1 : ¬ (nI n < 0 ∨ 4 ≤ n) := fun q => q.elim (zp_q_nn (by omega)) (by omega)
  intro m
  induction m with
  | zero =>
    intro f j τ hm hj hf h5 hs hlow
    obtain ⟨f', rfl⟩ : ∃ f', f = f' + 1 := ⟨f - 1, by omega⟩
    unfold fn_Mo_call_40
    rw [zp_q_nat (show n < 2 ^ 31 by omega), if_neg hi1, h5, if_pos ((zp_q_le (by omega) (by omega)).mpr (by omega))]
    exact ⟨τ, rfl, fun k hk => hlow k (by omega), fun _ _ _ => rfl⟩
  | succ m ih =>
    intro f j τ hm hj hf h5 hs hlow
    obtain ⟨f', rfl⟩ : ∃ f', f = f' + 1 := ⟨f - 1, by omega⟩
    have hi2 : ¬ (nI (x + j) < 0 ∨ 96 ≤ x + j) := fun q => q.elim (zp_q_nn (by omega)) (by omega)
    have hi3 : ¬ (nI (12 * (i + 1) + j) < 0 ∨ 96 ≤ 12 * (i + 1) + j) := fun q => q.elim (zp_q_nn (by omega)) (by omega)
    have ex : (12 : Int32) * (nI i + (1 : Int32)) + nI j = nI (12 * (i + 1) + j) := by rw [zp_q_succ, show (12 : Int32) = nI 12 from rfl, zp_q_mul, zp_q_add]
    unfold fn_Mo_call_40
    rw [zp_q_nat (show n < 2 ^ 31 by omega), if_neg hi1, h5, if_neg (fun q => by have := (zp_q_le (by omega) (by omega)).mp q; omega), zp_q_add, ex, zp_q_nat (show x + j < 2 ^ 31 by omega), zp_q_nat (show 12 * (i + 1) + j < 2 ^ 31 by omega)]
    simp only [nm, if_neg hi2, if_neg hi3]
    rw [zp_q_succ]
    have hsj := hs j (by omega)
    obtain ⟨τ', e, k1, k2⟩ := ih f' (j + 1) (mw (mw τ 15 (12 * (i + 1) + j) (τ 15 (x + j))) 14 (12 * (i + 1) + j) ((mw τ 15 (12 * (i + 1) + j) (τ 15 (x + j))) 14 (x + j))) (by omega) (by omega) (by omega) (by rw [zp_mw_k (by omega), zp_mw_k (by omega)]; exact h5) (fun k hk => by
      rw [zp_mw_k (show 15 ≠ 14 by omega), zp_mw_j (by omega), zp_mw_j (by omega), zp_mw_k (by omega)]
      exact hs k hk) (fun k hk => by
      rw [zp_mw_k (show 15 ≠ 14 by omega)]
      by_cases q : k = j
      · subst q
        rw [zp_mw_at, zp_mw_at, zp_mw_k (by omega)]
        exact hsj
      · rw [zp_mw_j (by omega), zp_mw_j (by omega), zp_mw_k (by omega)]
        exact hlow k (by omega))
    refine ⟨τ', e, k1, fun k' j' h1 => ?_⟩
    rw [k2 k' j' h1, zp_mw_kj (by omega), zp_mw_kj (by omega)]
end
end

/-! the functions alone, 24 -/
noncomputable section
theorem zp_dgs_len (vs : zp_VL) : (zp_dgs vs).length = vs.length := by simp [zp_dgs]
theorem zp_dgs_get (vs : zp_VL) (k : Nat) : (zp_dgs vs).getD k 0 = (zp_gk vs k).1 := by
  unfold zp_dgs zp_gk
  simp only [List.getD_eq_getElem?_getD, List.getElem?_map]
  cases vs[k]? <;> rfl
theorem zp_dgs_app (xs ys : zp_VL) : zp_dgs (xs ++ ys) = zp_dgs xs ++ zp_dgs ys := by simp [zp_dgs]
theorem zp_gk_l {xs ys : zp_VL} {k : Nat} (h : k < xs.length) : zp_gk (xs ++ ys) k = zp_gk xs k := by
  unfold zp_gk; simp only [List.getD_eq_getElem?_getD, List.getElem?_append_left h]
theorem zp_gk_r {xs ys : zp_VL} {k : Nat} (h : xs.length ≤ k) : zp_gk (xs ++ ys) k = zp_gk ys (k - xs.length) := by
  unfold zp_gk; simp only [List.getD_eq_getElem?_getD, List.getElem?_append_right h]
theorem zp_gk_out {xs : zp_VL} {k : Nat} (h : xs.length ≤ k) : zp_gk xs k = (0, 0) := by
  unfold zp_gk; simp [List.getD_eq_getElem?_getD, h]
def zp_FrF (i : Nat) (σ σ' : mm_M) : Prop := ∀ k j, ¬ (k = 19 + 2 * i ∧ j = 2) → k ≠ 20 + 2 * i → σ' k j = σ k j
def zp_MrF (i : Nat) (τ τ' : mm_M) : Prop := ∀ k j, ¬ (k = 13 ∧ j = i) → ¬ ((k = 14 ∨ k = 15) ∧ 12 * i ≤ j ∧ j < 12 * i + 12) → τ' k j = τ k j
theorem zp_FrF_refl {i : Nat} {σ : mm_M} : zp_FrF i σ σ := fun _ _ _ _ => rfl
theorem zp_MrF_refl {i : Nat} {σ : mm_M} : zp_MrF i σ σ := fun _ _ _ _ => rfl
theorem zp_FrF_tr {i : Nat} {a b c : mm_M} (h : zp_FrF i a b) (h2 : zp_FrF i b c) : zp_FrF i a c := fun k j x y => (h2 k j x y).trans (h k j x y)
theorem zp_MrF_tr {i : Nat} {a b c : mm_M} (h : zp_MrF i a b) (h2 : zp_MrF i b c) : zp_MrF i a c := fun k j x y => (h2 k j x y).trans (h k j x y)
section
variable {σ τ : mm_M} {i u : Nat} {vs ws : zp_VL}
theorem zp_cf_type {d : Nat} (h : zp_CF σ i vs) (hw : zp_wS 12 (zp_dgs vs)) (hd : d + 6 < vs.length) : fn_Fr_typeBelow σ i (nI d) = some (nI (zp_gk vs (vs.length - 1 - d)).1, σ) := by
  unfold fn_Fr_typeBelow
  rw [h.1, zp_s_below (zp_w12 hw) (by rw [zp_dgs_len]; exact hd)]
  simp only [bd, zp_dgs_len, zp_dgs_get]
theorem zp_cf_slot {d : Nat} (h : zp_CF σ i vs) (hw : zp_wS 12 (zp_dgs vs)) (hd : d + 6 < vs.length) : fn_Ty_slotBelow σ (σ (19 + 2 * i) 2) (nI d) = some (nI (vs.length - 1 - d), σ) := by
  rw [h.1, zp_s_slot (zp_w12 hw) (by rw [zp_dgs_len]; exact hd), zp_dgs_len]
theorem zp_cf_below {d : Nat} (h : zp_CF σ i vs) (hw : zp_wS 12 (zp_dgs vs)) (hd : d + 6 < vs.length) (hn : (zp_gk vs (vs.length - 1 - d)).1 ≠ 0) : fn_Fr_below σ i (nI d) = some ((zp_gk vs (vs.length - 1 - d)).2, σ) := by
  unfold fn_Fr_below
  have hl := hw.2
  rw [zp_dgs_len] at hl
  rw [zp_cf_slot h hw hd]
  simp only [bd]
  rw [if_neg (zp_q_in (by omega) (by omega)), zp_q_nat (by omega), h.2 _ (by omega) hn]
theorem zp_cf_pop {p : Nat × Int32} (h : zp_CF σ i (ws ++ [p])) (hw : zp_wS 12 (zp_dgs (ws ++ [p]))) (h6 : 6 ≤ ws.length) (hn : p.1 ≠ 0) : ∃ σ', fn_Fr_pop σ i = some (p.2, σ') ∧ zp_CF σ' i ws ∧ zp_FrF i σ σ' := by
  have e1 : (ws ++ [p]).length - 1 - 0 = ws.length := by simp
  have hg : zp_gk (ws ++ [p]) ws.length = p := by rw [zp_gk_r (Nat.le_refl _), Nat.sub_self]; rfl
  unfold fn_Fr_pop
  have hb := zp_cf_below (d := 0) h hw (by simp; omega) (by rw [e1, hg]; exact hn)
  rw [e1, hg] at hb
  rw [show (0 : Int32) = nI 0 from rfl, hb]
  simp only [bd]
  rw [h.1, show (1 : Int32) = nI 1 from rfl, zp_s_dropped (zp_w12 hw) (by rw [zp_dgs_len]; simp; omega)]
  simp only [nm]
  have e2 : (zp_dgs (ws ++ [p])).take ((zp_dgs (ws ++ [p])).length - 1) = zp_dgs ws := by
    rw [zp_dgs_app]
    simp [zp_dgs]
  rw [e2]
  refine ⟨_, rfl, ⟨zp_mw_at, fun k hk hk2 => ?_⟩, fun k j h1 h2 => zp_mw_kj h1⟩
  rw [zp_mw_k (by omega)]
  have := h.2 k (by simp; omega) (by rw [zp_gk_l hk]; exact hk2)
  rw [zp_gk_l hk] at this
  exact this
theorem zp_cf_push {t : Nat} {v : Int32} (h : zp_CF σ i vs) (hw : zp_wS 12 (zp_dgs vs)) (hl : vs.length ≤ 11) (ht : t < 4) : ∃ σ', fn_Fr_push σ i (nI t) v = some σ' ∧ zp_CF σ' i (vs ++ [(t, v)]) ∧ zp_FrF i σ σ' := by
  have h6 := hw.2.1
  rw [zp_dgs_len] at h6
  have hw2 : zp_wS 12 (zp_dgs vs ++ [t]) := ⟨zp_d4_app hw.1 (zp_d4_one ht), by simp [zp_dgs_len]; omega, by simp [zp_dgs_len]; omega⟩
  unfold fn_Fr_push
  rw [h.1, zp_s_pushed hw ht]
  simp only [bd, nm, zp_mw_at]
  have hs0 := zp_s_slot (σ := mw σ (19 + 2 * i) 2 (nI (zp_pkd (zp_dgs vs ++ [t])))) (d := 0) (zp_w12 hw2) (by simp [zp_dgs_len]; omega)
  rw [show nI 0 = (0 : Int32) from rfl] at hs0
  rw [hs0]
  simp only
  have e1 : (zp_dgs vs ++ [t]).length - 1 - 0 = vs.length := by simp [zp_dgs_len]
  rw [e1, if_neg (zp_q_in (by omega) (by omega)), zp_q_nat (by omega)]
  refine ⟨_, rfl, ⟨?_, fun k hk hk2 => ?_⟩, fun k j h1 h2 => ?_⟩
  · rw [zp_mw_k (by omega), zp_mw_at, zp_dgs_app]; rfl
  · by_cases q : k = vs.length
    · subst q
      rw [zp_mw_at, zp_gk_r (Nat.le_refl _), Nat.sub_self]; rfl
    · simp only [List.length_append, List.length_cons, List.length_nil] at hk
      rw [zp_gk_l (by omega)] at hk2 ⊢
      rw [zp_mw_j q, zp_mw_k (by omega)]
      exact h.2 k (by omega) hk2
  · rw [zp_mw_k h2, zp_mw_kj h1]
theorem zp_q_top (hi : i < 8) : nI (i + 1) - (1 : Int32) = nI i := by rw [show (1 : Int32) = nI 1 from rfl, zp_q_sub (by omega)]; rfl
theorem zp_mf_below {d : Nat} (h : zp_MF τ i vs) (hi : i < 8) (h0 : τ 0 16 = nI (i + 1)) (hl : vs.length ≤ 12) (hd : d + 6 < vs.length) (hn : (zp_gk vs (vs.length - 1 - d)).1 ≠ 0) : fn_Mo_below τ (nI d) = some ((zp_gk vs (vs.length - 1 - d)).2, τ) := by
  unfold fn_Mo_below
  have hi1 : ¬ (nI i < 0 ∨ 8 ≤ i) := fun q => q.elim (zp_q_nn (by omega)) (by omega)
  rw [h0, zp_q_top hi, zp_q_nat (show i < 2 ^ 31 by omega), if_neg hi1, h.1]
  have e : (((12 : Int32) * nI i + 6) + nI (vs.length - 6)) - 1 - nI d = nI (12 * i + (vs.length - 1 - d)) := by
    rw [show (12 : Int32) = nI 12 from rfl, show (6 : Int32) = nI 6 from rfl, show (1 : Int32) = nI 1 from rfl, zp_q_mul, zp_q_add, zp_q_add, zp_q_sub (by omega), zp_q_sub (by omega)]
    congr 1; omega
  have hi2 : ¬ (nI (12 * i + (vs.length - 1 - d)) < 0 ∨ 96 ≤ 12 * i + (vs.length - 1 - d)) := fun q => q.elim (zp_q_nn (by omega)) (by omega)
  rw [e, zp_q_nat (by omega), if_neg hi2, (h.2 _ (by omega)).2 hn]
theorem zp_mf_drop {xs : zp_VL} (h : zp_MF τ i (ws ++ xs)) (hi : i < 8) (h0 : τ 0 16 = nI (i + 1)) (h6 : 6 ≤ ws.length) (hl : ws.length + xs.length ≤ 12) : ∃ τ', fn_Mo_drop τ (nI xs.length) = some τ' ∧ zp_MF τ' i ws ∧ zp_MrF i τ τ' := by
  unfold fn_Mo_drop
  have hi1 : ¬ (nI i < 0 ∨ 8 ≤ i) := fun q => q.elim (zp_q_nn (by omega)) (by omega)
  have h1 := h.1
  rw [List.length_append] at h1
  rw [h0, zp_q_top hi, zp_q_nat (show i < 2 ^ 31 by omega), if_neg hi1, h1, zp_q_sub (by omega)]
  simp only [nm, if_neg hi1]
  rw [show ws.length + xs.length - 6 - xs.length = ws.length - 6 by omega]
  refine ⟨_, rfl, ⟨zp_mw_at, fun k hk => ?_⟩, fun k j h1 h2 => zp_mw_kj h1⟩
  rw [zp_mw_k (by omega), zp_mw_k (by omega)]
  have := h.2 k (by rw [List.length_append]; omega)
  rw [zp_gk_l hk] at this
  exact this
theorem zp_mf_put {t : Nat} {v : Int32} (h : zp_MF τ i vs) (hi : i < 8) (h0 : τ 0 16 = nI (i + 1)) (h6 : 6 ≤ vs.length) (hl : vs.length ≤ 11) : ∃ τ', fn_Mo_put τ (nI t) v = some τ' ∧ zp_MF τ' i (vs ++ [(t, v)]) ∧ zp_MrF i τ τ' := by
  unfold fn_Mo_put
  have hi1 : ¬ (nI i < 0 ∨ 8 ≤ i) := fun q => q.elim (zp_q_nn (by omega)) (by omega)
  have e : ((12 : Int32) * nI i + 6) + nI (vs.length - 6) = nI (12 * i + vs.length) := by
    rw [show (12 : Int32) = nI 12 from rfl, show (6 : Int32) = nI 6 from rfl, zp_q_mul, zp_q_add, zp_q_add]
    congr 1; omega
  have hi2 : ¬ (nI (12 * i + vs.length) < 0 ∨ 96 ≤ 12 * i + vs.length) := fun q => q.elim (zp_q_nn (by omega)) (by omega)
  rw [h0, zp_q_top hi, zp_q_nat (show i < 2 ^ 31 by omega), if_neg hi1, h.1, e]
  simp only [nm, zp_q_nat (show 12 * i + vs.length < 2 ^ 31 by omega), if_neg hi2]
  have e0 : ∀ a b j j', mw (mw τ 15 j a) 14 j' b 0 16 = nI (i + 1) := fun a b j j' => by rw [zp_mw_k (by omega), zp_mw_k (by omega)]; exact h0
  have e13 : ∀ a b j j', mw (mw τ 15 j a) 14 j' b 13 i = nI (vs.length - 6) := fun a b j j' => by rw [zp_mw_k (by omega), zp_mw_k (by omega)]; exact h.1
  simp only [e0, zp_q_top hi, zp_q_nat (show i < 2 ^ 31 by omega), if_neg hi1, e13]
  refine ⟨_, rfl, ⟨?_, fun k hk => ?_⟩, fun k j h1 h2 => ?_⟩
  · rw [zp_mw_at, zp_q_succ, List.length_append]
    congr 1; simp; omega
  · rw [zp_mw_k (by omega), zp_mw_k (by omega), zp_mw_k (show 14 ≠ 13 by omega)]
    simp only [List.length_append, List.length_cons, List.length_nil] at hk
    by_cases q : k = vs.length
    · subst q
      rw [zp_mw_at, zp_mw_at, zp_gk_r (Nat.le_refl _), Nat.sub_self]
      exact ⟨rfl, fun _ => rfl⟩
    · rw [zp_mw_j (by omega), zp_mw_j (by omega), zp_mw_k (by omega), zp_gk_l (by omega)]
      exact h.2 k (by omega)
  · rw [zp_mw_kj h1, zp_mw_kj (by omega), zp_mw_kj (by omega)]
theorem zp_okr_le {u' : Nat} {v : Int32} (h : zp_okr u v) (hu : u ≤ u') : zp_okr u' v := by
  rcases h with q | ⟨e, n, h1, h2, h3⟩
  · exact Or.inl q
  · exact Or.inr ⟨e, n, h1, by omega, h3⟩
theorem zp_okv_le {u' : Nat} (h : zp_okv u vs) (hu : u ≤ u') : zp_okv u' vs := ⟨h.1, h.2.1, fun k hk => zp_okr_le (h.2.2 k hk) hu⟩
theorem zp_okv_len (h : zp_okv u vs) : 6 ≤ vs.length ∧ vs.length ≤ 12 := by
  have := h.1.2
  rw [zp_dgs_len] at this; exact this
theorem zp_okv_pre {xs : zp_VL} (h : zp_okv u (ws ++ xs)) (h6 : 6 ≤ ws.length) : zp_okv u ws := by
  have hl := zp_okv_len h
  rw [List.length_append] at hl
  refine ⟨⟨?_, by rw [zp_dgs_len]; exact h6, by rw [zp_dgs_len]; omega⟩, fun k h1 h2 => ?_, fun k hk => ?_⟩
  · have := h.1.1
    rw [zp_dgs_app] at this
    exact zp_d4_pre this
  · have := h.2.1 k h1 (by rw [List.length_append]; omega)
    rw [zp_gk_l h2] at this; exact this
  · rcases Nat.lt_or_ge k ws.length with q | q
    · have := h.2.2 k (by rw [zp_gk_l q]; exact hk)
      rw [zp_gk_l q] at this; exact this
    · rw [zp_gk_out q] at hk; exact absurd hk (by decide)
theorem zp_okv_get (h : zp_okv u vs) {k : Nat} (h6 : 6 ≤ k) (hk : k < vs.length) : (zp_gk vs k).1 ≠ 0 ∧ (zp_gk vs k).1 < 4 ∧ ((zp_gk vs k).1 = 2 → zp_okr u (zp_gk vs k).2) := by
  refine ⟨h.2.1 k h6 hk, ?_, h.2.2 k⟩
  have := zp_d4_get h.1.1 k
  rw [zp_dgs_get] at this; exact this
theorem zp_okv_app {t : Nat} {v : Int32} (h : zp_okv u vs) (hl : vs.length ≤ 11) (ht : t < 4) (h0 : t ≠ 0) (h2 : t = 2 → zp_okr u v) : zp_okv u (vs ++ [(t, v)]) := by
  have h6 := zp_okv_len h
  refine ⟨⟨?_, by rw [zp_dgs_len]; simp; omega, by rw [zp_dgs_len]; simp; omega⟩, fun k h1 hk => ?_, fun k hk => ?_⟩
  · rw [zp_dgs_app]; exact zp_d4_app h.1.1 (zp_d4_one ht)
  · simp only [List.length_append, List.length_cons, List.length_nil] at hk
    by_cases q : k = vs.length
    · subst q; rw [zp_gk_r (Nat.le_refl _), Nat.sub_self]; exact h0
    · rw [zp_gk_l (by omega)]; exact h.2.1 k h1 (by omega)
  · rcases Nat.lt_trichotomy k vs.length with q | q | q
    · rw [zp_gk_l q] at hk ⊢; exact h.2.2 k hk
    · subst q
      rw [zp_gk_r (Nat.le_refl _), Nat.sub_self] at hk ⊢
      exact h2 hk
    · rw [zp_gk_out (by simp; omega)] at hk; exact absurd hk (by decide)
theorem zp_pop_cons {w : Nat} {W : List Nat} (h : zp_okv u vs) (hp : zp_popok (w :: W) (zp_dgs vs) = true) : ∃ ws p, vs = ws ++ [p] ∧ (w = 3 ∨ w = p.1) ∧ 6 ≤ ws.length ∧ zp_popok W (zp_dgs ws) = true ∧ zp_okv u ws ∧ p.1 ≠ 0 ∧ p.1 < 4 ∧ (p.1 = 2 → zp_okr u p.2) := by
  have h6 := zp_popok_6 hp
  rw [zp_dgs_len] at h6
  obtain ⟨ws, p, rfl⟩ : ∃ ws p, vs = ws ++ [p] := ⟨vs.dropLast, vs.getLast (by intro q; rw [q] at h6; simp at h6), (List.dropLast_concat_getLast _).symm⟩
  have hlen : (ws ++ [p]).length = ws.length + 1 := by simp
  rw [zp_popok_cons (by rw [zp_dgs_len]; exact h6), Bool.and_eq_true] at hp
  have e2 : (zp_dgs (ws ++ [p])).take ((zp_dgs (ws ++ [p])).length - 1) = zp_dgs ws := by
    rw [zp_dgs_app]
    simp [zp_dgs]
  rw [e2] at hp
  have hg : zp_gk (ws ++ [p]) ws.length = p := by rw [zp_gk_r (Nat.le_refl _), Nat.sub_self]; rfl
  have zp_hgt := zp_okv_get h (k := ws.length) (by omega) (by omega)
  rw [hg] at zp_hgt
  refine ⟨ws, p, rfl, ?_, by omega, hp.2, zp_okv_pre h (by omega), zp_hgt.1, zp_hgt.2.1, zp_hgt.2.2⟩
  have h1 := hp.1
  unfold zp_ck at h1
  rw [zp_dgs_len, hlen, zp_dgs_get, show ws.length + 1 - 1 - 0 = ws.length by omega, hg, Bool.or_eq_true, decide_eq_true_eq, decide_eq_true_eq] at h1
  exact h1
end
end

/-! the functions alone, 28 -/
noncomputable section
section
variable {σ τ : mm_M} {i u : Nat} {vs ws : zp_VL} {z : Int32}
theorem zp_CF_addr {y : Int32} (h : zp_CF σ i vs) : zp_CF (mw σ (19 + 2 * i) 1 y) i vs := by
  refine ⟨by rw [zp_mw_j (by omega)]; exact h.1, fun k hk hk2 => ?_⟩
  rw [zp_mw_k (by omega)]; exact h.2 k hk hk2
theorem zp_MF_addr {y : Int32} (h : zp_MF τ i vs) : zp_MF (mw τ 12 i y) i vs := by
  unfold zp_MF
  rw [zp_mw_k (by omega), zp_mw_k (by omega), zp_mw_k (by omega)]; exact h
theorem zp_TOP_addr {y y' : Int32} (H : zp_TOP σ τ i u vs) : zp_TOP (mw σ (19 + 2 * i) 1 y) (mw τ 12 i y') i u vs := by
  obtain ⟨a1, a2, a3, a4, a5, a6, a7, a8, a9, a10⟩ := H
  refine ⟨a1, a2, by rw [zp_mw_k (by omega)]; exact a3, by rw [zp_mw_k (by omega)]; exact a4, fun j hj => by rw [zp_mw_k (by omega), zp_mw_k (by omega)]; exact a5 j hj, zp_CF_addr a6, zp_MF_addr a7, a8, by rw [zp_mw_k (by omega)]; exact a9, by rw [zp_mw_k (by omega)]; exact a10⟩
theorem zp_op_j {o : Nat} {p : Nat × Int32} {y : Int32} (H : zp_TOP σ τ i u (ws ++ [p])) (h6 : 6 ≤ ws.length) (hp0 : p.1 ≠ 0) (ho : o = 8 ∨ o = 10) : ∃ σ' τ', fn_Ma_jump (mw σ (19 + 2 * i) 1 y) i o z = some σ' ∧ zp_pfT o z (mw τ 12 i (if p.2 = 0 then z else y)) = some τ' ∧ zp_PO (mw σ (19 + 2 * i) 1 (if p.2 = 0 then z else y)) (mw τ 12 i (if p.2 = 0 then z else y)) σ' τ' i u ws := by
  have hB : ∀ t, zp_pfT o z t = fn_Mo_drop t 1 := fun t => by
    unfold zp_pfT
    rcases ho with rfl | rfl <;> simp +decide only [if_false, if_true]
  have H1 := zp_TOP_addr (y := y) (y' := y) H
  have H2 := zp_TOP_addr (y := if p.2 = 0 then z else y) (y' := if p.2 = 0 then z else y) H
  obtain ⟨a1, a2, a3, a4, a5, a6, a7, a8, a9, a10⟩ := id H1
  obtain ⟨b1, zp_b2, b3, b4, b5, b6, b7, b8, b9, b10⟩ := id H2
  have hl := zp_okv_len a8
  simp only [List.length_append, List.length_cons, List.length_nil] at hl
  obtain ⟨σ1, e1, c1, f1⟩ := zp_cf_pop a6 a8.1 h6 hp0
  obtain ⟨τ1, e3, c3, f3⟩ := zp_mf_drop (xs := [p]) b7 b1 b9 h6 (by simp; omega)
  have hJ : fn_Ma_jump (mw σ (19 + 2 * i) 1 y) i o z = some (if p.2 = 0 then mw σ1 (19 + 2 * i) 1 z else σ1) := by
    unfold fn_Ma_jump
    rw [if_neg (by omega), e1, zp_bd_some]
    by_cases q : p.2 = 0
    · simp only [nm, if_pos q]
    · simp only [if_neg q]
  refine ⟨_, τ1, hJ, by rw [hB]; exact e3, zp_PO_of H2 ?_ c3 (zp_okv_pre a8 h6) (fun k j h1 h2 => ?_) f3⟩
  · by_cases q : p.2 = 0
    · rw [if_pos q]; exact zp_CF_addr c1
    · rw [if_neg q]; exact c1
  · by_cases q : p.2 = 0
    · simp only [if_pos q]
      by_cases g : k = 19 + 2 * i ∧ j = 1
      · rw [g.1, g.2, zp_mw_at, zp_mw_at]
      · rw [zp_mw_kj g, zp_mw_kj g, f1 k j h1 h2, zp_mw_kj g]
    · simp only [if_neg q]
      exact f1 k j h1 h2
theorem zp_op_7 {y : Int32} (H : zp_TOP σ τ i u vs) : ∃ σ' τ', fn_Ma_jump (mw σ (19 + 2 * i) 1 y) i 7 z = some σ' ∧ zp_pfT 7 z (mw τ 12 i z) = some τ' ∧ zp_PO (mw σ (19 + 2 * i) 1 z) (mw τ 12 i z) σ' τ' i u vs := by
  have H2 := zp_TOP_addr (y := z) (y' := z) H
  obtain ⟨b1, zp_b2, b3, b4, b5, b6, b7, b8, b9, b10⟩ := id H2
  refine ⟨mw (mw σ (19 + 2 * i) 1 y) (19 + 2 * i) 1 z, mw τ 12 i z, ?_, ?_, zp_PO_of H2 (zp_CF_addr (zp_CF_addr H.2.2.2.2.2.1)) b7 b8 (fun k j h1 h2 => ?_) zp_MrF_refl⟩
  · unfold fn_Ma_jump
    rw [if_pos rfl]; rfl
  · unfold zp_pfT
    simp +decide only [if_false, if_true]
  · by_cases g : k = 19 + 2 * i ∧ j = 1
    · rw [g.1, g.2, zp_mw_at, zp_mw_at]
    · rw [zp_mw_kj g, zp_mw_kj g, zp_mw_kj g]
theorem zp_MR_PO {σ' τ' : mm_M} {fr : Nat → Nat × Int32 × zp_VL} {vs' : zp_VL} {z1 : Int32} (H : zp_TOP σ τ i u vs) (h2 : σ 16 2 = τ 0 24) (hfr : ∀ j, j < i + 1 → zp_FR σ τ u j (fr j)) (hlen : ∀ j, j + 1 < i + 1 → (fr j).2.2.length ≤ 11) (P : zp_PO (mw σ (19 + 2 * i) 1 z1) (mw τ 12 i z1) σ' τ' i u vs') : zp_MR σ' τ' := by
  obtain ⟨a1, a2, a3, a4, a5, a6, a7, a8, a9, a10⟩ := id H
  obtain ⟨u', p1, p2, p3, p4, p5, p6, p7, p8, p9, p10⟩ := P
  refine ⟨i + 1, u', fun j => if j = i then ((fr i).1, z1, vs') else fr j, by omega, p2, ?_, ?_, p3, p4, ?_, p5, fun j hj => ?_, fun j hj => ?_⟩
  · rw [p9 16 0 (by omega) (by omega) (by omega) (by omega), zp_mw_k (by omega)]; exact a10
  · rw [p10 0 16 (by omega) (by omega) (by omega) (by omega), zp_mw_k (by omega)]; exact a9
  · rw [p9 16 2 (by omega) (by omega) (by omega) (by omega), zp_mw_k (by omega), p10 0 24 (by omega) (by omega) (by omega) (by omega), zp_mw_k (by omega)]; exact h2
  · obtain ⟨b1, zp_b2, b3, b4, b5, b6, b7, b8⟩ := hfr j hj
    by_cases q : j = i
    · subst q
      simp only [if_true]
      refine ⟨b1, ?_, ?_, ?_, ?_, p6, p7, p8⟩
      · rw [p9 _ _ (by omega) (by omega) (by omega) (by omega), zp_mw_j (by omega)]; exact zp_b2
      · rw [p10 _ _ (by omega) (by omega) (by omega) (by omega), zp_mw_k (by omega)]; exact b3
      · rw [p9 _ _ (by omega) (by omega) (by omega) (by omega), zp_mw_at]
      · rw [p10 _ _ (by omega) (by omega) (by omega) (by omega), zp_mw_at]
    · simp only [if_neg q]
      have hl := zp_okv_len b8
      refine ⟨b1, ?_, ?_, ?_, ?_, ⟨?_, fun k hk hk2 => ?_⟩, ⟨?_, fun k hk => ?_⟩, zp_okv_le b8 p1⟩
      · rw [p9 _ _ (by omega) (by omega) (by omega) (by omega), zp_mw_k (by omega)]; exact zp_b2
      · rw [p10 _ _ (by omega) (by omega) (by omega) (by omega), zp_mw_k (by omega)]; exact b3
      · rw [p9 _ _ (by omega) (by omega) (by omega) (by omega), zp_mw_k (by omega)]; exact b4
      · rw [p10 _ _ (by omega) (by omega) (by omega) (by omega), zp_mw_j (by omega)]; exact b5
      · rw [p9 _ _ (by omega) (by omega) (by omega) (by omega), zp_mw_k (by omega)]; exact b6.1
      · rw [p9 _ _ (by omega) (by omega) (by omega) (by omega), zp_mw_k (by omega)]; exact b6.2 k hk hk2
      · rw [p10 _ _ (by omega) (by omega) (by omega) (by omega), zp_mw_k (by omega)]; exact b7.1
      · rw [p10 _ _ (by omega) (by omega) (by omega) (by omega), p10 _ _ (by omega) (by omega) (by omega) (by omega), zp_mw_k (by omega), zp_mw_k (by omega)]; exact b7.2 k hk
  · by_cases q : j = i
    · omega
    · simp only [if_neg q]; exact hlen j hj
theorem zp_cf_shown {n : Nat} (h : zp_CF σ i vs) (hw : zp_wS 12 (zp_dgs vs)) (hn : n < vs.length) : fn_Fr_shown σ i (nI n) = some (if (zp_gk vs n).1 = 0 then -1 else if (zp_gk vs n).1 = 2 then (if (zp_gk vs n).2 = 0 then 0 else 1) else (zp_gk vs n).2, σ) := by
  have hl := hw.2.2
  rw [zp_dgs_len] at hl
  have hi2 : ¬ (nI n < 0 ∨ 12 ≤ n) := fun q => q.elim (zp_q_nn (by omega)) (by omega)
  have zp_d4 := zp_d4_get hw.1 n
  rw [zp_dgs_get] at zp_d4
  unfold fn_Fr_shown
  rw [h.1, zp_s_at (zp_w12 hw) (by omega), zp_bd_some, zp_dgs_get, zp_q_nat (by omega)]
  by_cases h0 : (zp_gk vs n).1 = 0
  · rw [if_pos (by rw [h0]; rfl), if_pos h0]
  · have hv := h.2 n hn h0
    rw [if_neg (show ¬ nI (zp_gk vs n).1 = 0 from fun q => h0 ((zp_q_eq (b := 0) (by omega) (by decide)).mp q)), if_neg h0]
    by_cases h2 : (zp_gk vs n).1 = 2
    · rw [if_pos (by rw [h2]; rfl), if_pos h2, if_neg hi2, hv]
      by_cases h3 : (zp_gk vs n).2 = 0
      · rw [if_pos h3, if_neg hi2, if_pos h3, h3]
      · rw [if_neg h3, if_neg h3]
    · rw [if_neg (show ¬ nI (zp_gk vs n).1 = 2 from fun q => h2 ((zp_q_eq (b := 2) (by omega) (by decide)).mp q)), if_neg h2, if_neg hi2, hv]
theorem zp_m_seen {t : Nat} {v : Int32} (h4 : t < 4) (h0 : t ≠ 0) : fn_Mo_seen τ (nI t) v = some (if t = 0 then -1 else if t = 2 then (if v = 0 then 0 else 1) else v, τ) := by
  unfold fn_Mo_seen
  rw [if_neg h0]
  by_cases h2 : t = 2
  · rw [if_pos (by rw [h2]; rfl), if_pos h2]
    by_cases h3 : v = 0
    · rw [if_pos h3, if_pos h3]
    · rw [if_neg h3, if_neg h3]
  · rw [if_neg (show ¬ nI t = 2 from fun q => h2 ((zp_q_eq (b := 2) (by omega) (by decide)).mp q)), if_neg h2]
theorem zp_op_19 {fr : Nat → Nat × Int32 × zp_VL} {p : Nat × Int32} {y y' : Int32} (H : zp_TOP σ τ i u (ws ++ [p])) (h2 : σ 16 2 = τ 0 24) (hfr : ∀ j, j < i + 1 → zp_FR σ τ u j (fr j)) (hlen : ∀ j, j + 1 < i + 1 → (fr j).2.2.length ≤ 11) (h6 : 6 ≤ ws.length) (hp0 : p.1 ≠ 0) (hp4 : p.1 < 4) (hp2 : p.1 = 2 → zp_okr u p.2) : ∃ σ' τ', fn_Ma_act (mw σ (19 + 2 * i) 1 y) i 19 z = some σ' ∧ zp_pfT 19 z (mw τ 12 i y') = some τ' ∧ zp_MR σ' τ' ∧ (∀ k, k < 16 → σ' k = σ k) ∧ (∀ k, 1 ≤ k → k < 11 → τ' k = τ k) ∧ ∀ j, j ≠ 16 → j ≠ 22 → j ≠ 24 → τ' 0 j = τ 0 j := by
  have H1 := zp_TOP_addr (y := y) (y' := y') H
  obtain ⟨a1, a2, a3, a4, a5, a6, a7, a8, a9, a10⟩ := id H1
  have hl := zp_okv_len a8
  have hlen1 : (ws ++ [p]).length = ws.length + 1 := by simp
  have hg : zp_gk (ws ++ [p]) ws.length = p := by rw [zp_gk_r (Nat.le_refl _), Nat.sub_self]; rfl
  have hA : fn_Ma_act (mw σ (19 + 2 * i) 1 y) i 19 z = fn_Ma_leave (mw σ (19 + 2 * i) 1 y) i := by
    unfold fn_Ma_act
    simp +decide only [if_false, if_true, zp_bv_id]
  have hB : zp_pfT 19 z (mw τ 12 i y') = fn_Mo_giveBack (mw τ 12 i y') := by
    unfold zp_pfT
    simp +decide only [if_false, if_true]
  have hi1 : ¬ (nI i < 0 ∨ 8 ≤ i) := fun q => q.elim (zp_q_nn (by omega)) (by omega)
  have hi2 : ¬ (nI (12 * i + ws.length) < 0 ∨ 96 ≤ 12 * i + ws.length) := fun q => q.elim (zp_q_nn (by omega)) (by omega)
  have ex : (12 : Int32) * nI i + 5 + nI (ws.length + 1 - 6) = nI (12 * i + ws.length) := by
    rw [show (12 : Int32) = nI 12 from rfl, show (5 : Int32) = nI 5 from rfl, zp_q_mul, zp_q_add, zp_q_add]; congr 1; omega
  have zp_m1 := a7.2 ws.length (by omega)
  rw [hg] at zp_m1
  have m13 := a7.1
  rw [hlen1] at m13
  have hG : fn_Mo_giveBack (mw τ 12 i y') = (if nI i ≤ 0 then bd (fn_Mo_seen (mw (mw τ 12 i y') 0 16 (nI i)) (nI p.1) p.2) (fun r10 σ9 => some (mw σ9 0 24 r10)) else fn_Mo_put (mw (mw τ 12 i y') 0 16 (nI i)) (nI p.1) p.2) := by
    unfold fn_Mo_giveBack
    rw [a9, zp_q_top a1, zp_q_nat (show i < 2 ^ 31 by omega), m13, ex]
    simp only [nm, if_neg hi1, zp_q_nat (show 12 * i + ws.length < 2 ^ 31 by omega), if_neg hi2, zp_mw_at, zp_bv_id]
    rw [zp_m1.1, zp_m1.2 hp0]
  rw [hA, hB, hG]
  unfold fn_Ma_leave
  rw [a10]
  by_cases hi0 : i = 0
  · subst hi0
    rw [if_pos (show nI (0 + 1) = 1 from rfl), if_pos (show nI 0 ≤ 0 by decide), zp_m_seen hp4 hp0, zp_bd_some]
    have hs := zp_cf_slot (d := 0) a6 a8.1 (by omega)
    have hsh := zp_cf_shown (n := ws.length) a6 a8.1 (by omega)
    rw [hg] at hsh
    rw [show (ws ++ [p]).length - 1 - 0 = ws.length by simp] at hs
    rw [show fn_Ty_slotBelow (mw σ (19 + 2 * 0) 1 y) (mw σ (19 + 2 * 0) 1 y (19 + 2 * 0) 2) 0 = _ from hs, zp_bd_some, hsh, zp_bd_some]
    simp only [nm]
    refine ⟨_, _, rfl, rfl, ⟨0, u, fr, by omega, a2, by rw [zp_mw_at]; rfl, ?_, ?_, ?_, ?_, fun j hj => ?_, fun j hj => by omega, fun j hj => by omega⟩, fun k hk => ?_, fun k h1 h2 => ?_, fun j h1 h2 h3 => ?_⟩
    · rw [zp_mw_j (by omega), zp_mw_at]
    · rw [zp_mw_j (by omega), zp_mw_j (by omega)]; exact a3
    · rw [zp_mw_j (by omega), zp_mw_j (by omega)]; exact a4
    · rw [zp_mw_j (by omega), zp_mw_at, zp_mw_at]
    · rw [zp_mw_k (by omega), zp_mw_k (by omega), zp_mw_k (by omega), zp_mw_k (by omega)]; exact a5 j hj
    · rw [zp_mw_k (by omega), zp_mw_k (by omega), zp_mw_k (by omega)]
    · rw [zp_mw_k (by omega), zp_mw_k (by omega), zp_mw_k (by omega)]
    · rw [zp_mw_j h3, zp_mw_j h1, zp_mw_k (by omega)]
  · obtain ⟨j, rfl⟩ : ∃ j, i = j + 1 := ⟨i - 1, by omega⟩
    rw [if_neg (show ¬ nI (j + 1 + 1) = 1 from fun q => by have := (zp_q_eq (b := 1) (by omega) (by decide)).mp q; omega), if_neg (show ¬ nI (j + 1) ≤ 0 from fun q => by have := (zp_q_le (b := 0) (by omega) (by decide)).mp q; omega), zp_q_top a1]
    simp only [nm]
    unfold fn_Ma_top
    rw [zp_mw_at, zp_q_top (show j < 8 by omega)]
    have hi3 : ¬ (nI j < 0 ∨ 8 ≤ j) := fun q => q.elim (zp_q_nn (by omega)) (by omega)
    rw [zp_q_nat (show j < 2 ^ 31 by omega), if_neg hi3, zp_bd_some]
    have a6' : zp_CF (mw (mw σ (19 + 2 * (j + 1)) 1 y) 16 0 (nI (j + 1))) (j + 1) (ws ++ [p]) := by
      unfold zp_CF
      rw [zp_mw_k (by omega), zp_mw_k (show 20 + 2 * (j + 1) ≠ 16 by omega)]; exact a6
    have t1 := zp_cf_type (d := 0) a6' a8.1 (by omega)
    have t2 := zp_cf_below (d := 0) a6' a8.1 (by omega) (by rw [zp_gk_1]; exact hp0)
    rw [zp_gk_1] at t1 t2
    rw [show fn_Fr_typeBelow (mw (mw σ (19 + 2 * (j + 1)) 1 y) 16 0 (nI (j + 1))) (j + 1) 0 = _ from t1, zp_bd_some, show fn_Fr_below (mw (mw σ (19 + 2 * (j + 1)) 1 y) 16 0 (nI (j + 1))) (j + 1) 0 = _ from t2, zp_bd_some]
    obtain ⟨b1, zp_b2, b3, b4, b5, b6, b7, b8⟩ := hfr j (by omega)
    have hlj := hlen j (by omega)
    have hl6 := zp_okv_len b8
    have c6 : zp_CF (mw (mw σ (19 + 2 * (j + 1)) 1 y) 16 0 (nI (j + 1))) j (fr j).2.2 := by
      unfold zp_CF
      rw [zp_mw_k (by omega), zp_mw_k (by omega), zp_mw_k (show 20 + 2 * j ≠ 16 by omega), zp_mw_k (by omega)]; exact b6
    have c7 : zp_MF (mw (mw τ 12 (j + 1) y') 0 16 (nI (j + 1))) j (fr j).2.2 := by
      unfold zp_MF
      rw [zp_mw_k (by omega), zp_mw_k (by omega), zp_mw_k (show 15 ≠ 0 by omega), zp_mw_k (by omega), zp_mw_k (show 14 ≠ 0 by omega), zp_mw_k (by omega)]; exact b7
    obtain ⟨σ', e1, d1, f1⟩ := zp_cf_push (t := p.1) (v := p.2) c6 b8.1 hlj hp4
    obtain ⟨τ', e2, d2, f2⟩ := zp_mf_put (t := p.1) (v := p.2) c7 (show j < 8 by omega) (by rw [zp_mw_at]) hl6.1 hlj
    rw [e1, zp_bv_some]
    have s16 : ∀ k j', k < 19 → ¬ (k = 16 ∧ j' = 0) → σ' k j' = σ k j' := fun k j' h1 h2 => by rw [f1 k j' (by omega) (by omega), zp_mw_kj (by omega), zp_mw_k (by omega)]
    refine ⟨σ', τ', rfl, e2, ⟨j + 1, u, fun m => if m = j then ((fr j).1, (fr j).2.1, (fr j).2.2 ++ [(p.1, p.2)]) else fr m, by omega, a2, ?_, ?_, ?_, ?_, ?_, fun m hm => ?_, fun m hm => ?_, fun m hm => ?_⟩, fun k hk => ?_, fun k h1 h2 => ?_, fun j' h1 h2 h3 => ?_⟩
    · rw [f1 16 0 (by omega) (by omega), zp_mw_at]
    · rw [f2 0 16 (by omega) (by omega), zp_mw_at]
    · rw [s16 16 1 (by omega) (by omega)]; exact H.2.2.1
    · rw [f2 0 22 (by omega) (by omega), zp_mw_j (by omega), zp_mw_k (by omega)]; exact H.2.2.2.1
    · rw [s16 16 2 (by omega) (by omega), f2 0 24 (by omega) (by omega), zp_mw_j (by omega), zp_mw_k (by omega)]; exact h2
    · rw [s16 17 m (by omega) (by omega), f2 16 m (by omega) (by omega), zp_mw_k (by omega), zp_mw_k (by omega)]; exact H.2.2.2.2.1 m hm
    · by_cases q : m = j
      · subst q
        simp only [if_true]
        refine ⟨b1, ?_, ?_, ?_, ?_, d1, d2, zp_okv_app b8 hlj hp4 hp0 hp2⟩
        · rw [f1 _ _ (by omega) (by omega), zp_mw_k (by omega), zp_mw_k (by omega)]; exact zp_b2
        · rw [f2 _ _ (by omega) (by omega), zp_mw_k (by omega), zp_mw_k (by omega)]; exact b3
        · rw [f1 _ _ (by omega) (by omega), zp_mw_k (by omega), zp_mw_k (by omega)]; exact b4
        · rw [f2 _ _ (by omega) (by omega), zp_mw_k (by omega), zp_mw_j (by omega)]; exact b5
      · simp only [if_neg q]
        obtain ⟨g1, g2, g3, g4, g5, g6, g7, g8⟩ := hfr m (by omega)
        have hlm := zp_okv_len g8
        refine ⟨g1, ?_, ?_, ?_, ?_, ⟨?_, fun k hk hk2 => ?_⟩, ⟨?_, fun k hk => ?_⟩, g8⟩
        · rw [f1 _ _ (by omega) (by omega), zp_mw_k (by omega), zp_mw_k (by omega)]; exact g2
        · rw [f2 _ _ (by omega) (by omega), zp_mw_k (by omega), zp_mw_k (by omega)]; exact g3
        · rw [f1 _ _ (by omega) (by omega), zp_mw_k (by omega), zp_mw_k (by omega)]; exact g4
        · rw [f2 _ _ (by omega) (by omega), zp_mw_k (by omega), zp_mw_j (by omega)]; exact g5
        · rw [f1 _ _ (by omega) (by omega), zp_mw_k (by omega), zp_mw_k (by omega)]; exact g6.1
        · rw [f1 _ _ (by omega) (by omega), zp_mw_k (by omega), zp_mw_k (by omega)]; exact g6.2 k hk hk2
        · rw [f2 _ _ (by omega) (by omega), zp_mw_k (by omega), zp_mw_k (by omega)]; exact g7.1
        · rw [f2 _ _ (by omega) (by omega), f2 _ _ (by omega) (by omega), zp_mw_k (by omega), zp_mw_k (by omega), zp_mw_k (by omega), zp_mw_k (by omega)]; exact g7.2 k hk
    · have q : m ≠ j := by omega
      simp only [if_neg q]; exact hlen m (by omega)
    · funext j'
      exact s16 k j' (by omega) (by omega)
    · funext j'
      rw [f2 k j' (by omega) (by omega), zp_mw_k (by omega), zp_mw_k (by omega)]
    · rw [f2 0 j' (by omega) (by omega), zp_mw_j h1, zp_mw_k (by omega)]
end
end

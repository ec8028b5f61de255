/-! the functions alone, 26 -/
noncomputable section
theorem zp_dgs_set (ws : zp_VL) (n : Nat) (p : Nat × Int32) : zp_dgs (ws.set n p) = (zp_dgs ws).set n p.1 := by simp [zp_dgs, List.map_set]
theorem zp_gk_set {ws : zp_VL} {n k : Nat} {p : Nat × Int32} (h : n < ws.length) : zp_gk (ws.set n p) k = if k = n then p else zp_gk ws k := by
  unfold zp_gk
  simp only [List.getD_eq_getElem?_getD, List.getElem?_set]
  by_cases q : n = k
  · subst q; simp [h]
  · have q' : ¬ k = n := fun x => q x.symm
    simp [q, q']
section
variable {σ τ : mm_M} {i u : Nat} {vs ws : zp_VL} {z : Int32}
theorem zp_op_5 {n : Nat} (H : zp_TOP σ τ i u vs) (hl : vs.length ≤ 11) (hn : n < 6) (ht : (zp_gk vs n).1 = 1 ∨ (zp_gk vs n).1 = 2) : ∃ σ' τ' vs', fn_Ma_act σ i 5 (nI n) = some σ' ∧ zp_pfT 5 (nI n) τ = some τ' ∧ zp_PO σ τ σ' τ' i u vs' := by
  obtain ⟨a1, a2, a3, a4, a5, a6, a7, a8, a9, a10⟩ := id H
  have hl6 := zp_okv_len a8
  have ht0 : (zp_gk vs n).1 ≠ 0 := by omega
  obtain ⟨σ', τ', e1, e2, P⟩ := zp_op_push (t := (zp_gk vs n).1) (v := (zp_gk vs n).2) H hl (by omega) ht0 (fun q => a8.2.2 n q)
  refine ⟨σ', τ', _, ?_, ?_, P⟩
  · have hA : fn_Ma_act σ i 5 (nI n) = fn_Fr_load σ i (nI n) := by
      unfold fn_Ma_act fn_Ma_move
      simp +decide only [if_false, if_true, zp_bv_id]
    rw [hA]
    unfold fn_Fr_load
    rw [a6.1, zp_s_at (zp_w12 a8.1) (by omega), zp_bd_some, if_neg (zp_q_in (by omega) (by omega)), zp_q_nat (by omega), a6.2 n (by omega) ht0, zp_dgs_get, e1, zp_bv_some]
  · have hi1 : ¬ (nI i < 0 ∨ 8 ≤ i) := fun q => q.elim (zp_q_nn (by omega)) (by omega)
    have hi2 : ¬ (nI (12 * i + n) < 0 ∨ 96 ≤ 12 * i + n) := fun q => q.elim (zp_q_nn (by omega)) (by omega)
    have hB : zp_pfT 5 (nI n) τ = fn_Mo_onPlaces τ 5 (nI n) := by
      unfold zp_pfT
      simp +decide only [if_false]
      rfl
    have ex : (12 : Int32) * nI i + nI n = nI (12 * i + n) := by rw [show (12 : Int32) = nI 12 from rfl, zp_q_mul, zp_q_add]
    rw [hB]
    unfold fn_Mo_onPlaces
    rw [a9, zp_q_top a1, zp_q_nat (show i < 2 ^ 31 by omega)]
    simp only [nm, if_neg hi1, if_true, ex, zp_q_nat (show 12 * i + n < 2 ^ 31 by omega), if_neg hi2]
    rw [(a7.2 n (by omega)).1, (a7.2 n (by omega)).2 ht0, e2, zp_bv_some]
theorem zp_op_15 {p : Nat × Int32} (H : zp_TOP σ τ i u (ws ++ [p])) (h6 : 6 ≤ ws.length) (hl : ws.length ≤ 10) (hp0 : p.1 ≠ 0) (hp4 : p.1 < 4) (hp2 : p.1 = 2 → zp_okr u p.2) : ∃ σ' τ' vs', fn_Ma_act σ i 15 z = some σ' ∧ zp_pfT 15 z τ = some τ' ∧ zp_PO σ τ σ' τ' i u vs' := by
  obtain ⟨a1, a2, a3, a4, a5, a6, a7, a8, a9, a10⟩ := id H
  have hlen : (ws ++ [p]).length = ws.length + 1 := by simp
  obtain ⟨σ', τ', e1, e2, P⟩ := zp_op_push (t := p.1) (v := p.2) H (by omega) hp4 hp0 hp2
  refine ⟨σ', τ', _, ?_, ?_, P⟩
  · have hA : fn_Ma_act σ i 15 z = bd (fn_Fr_typeBelow σ i 0) (fun r8 σ7 => bd (fn_Fr_below σ7 i 0) (fun r10 σ9 => fn_Fr_push σ9 i r8 r10)) := by
      unfold fn_Ma_act fn_Ma_move
      simp +decide only [if_false, if_true, zp_bv_id]
    have h1 := zp_cf_type (d := 0) a6 a8.1 (by omega)
    have h2 := zp_cf_below (d := 0) a6 a8.1 (by omega) (by rw [zp_gk_1]; exact hp0)
    rw [zp_gk_1] at h1 h2
    rw [hA, show fn_Fr_typeBelow σ i 0 = _ from h1, zp_bd_some, show fn_Fr_below σ i 0 = _ from h2, zp_bd_some]
    exact e1
  · have hi1 : ¬ (nI i < 0 ∨ 8 ≤ i) := fun q => q.elim (zp_q_nn (by omega)) (by omega)
    have hi2 : ¬ (nI (12 * i + ws.length) < 0 ∨ 96 ≤ 12 * i + ws.length) := fun q => q.elim (zp_q_nn (by omega)) (by omega)
    have hB : zp_pfT 15 z τ = fn_Mo_onPlaces τ 15 z := by
      unfold zp_pfT
      simp +decide only [if_false]
      rfl
    have ex : (12 : Int32) * nI i + 5 + nI (ws.length + 1 - 6) = nI (12 * i + ws.length) := by
      rw [show (12 : Int32) = nI 12 from rfl, show (5 : Int32) = nI 5 from rfl, zp_q_mul, zp_q_add, zp_q_add]; congr 1; omega
    have hg : zp_gk (ws ++ [p]) ws.length = p := by rw [zp_gk_r (Nat.le_refl _), Nat.sub_self]; rfl
    have zp_m1 := a7.2 ws.length (by omega)
    rw [hg] at zp_m1
    have m13 := a7.1
    rw [hlen] at m13
    rw [hB]
    unfold fn_Mo_onPlaces
    rw [a9, zp_q_top a1, zp_q_nat (show i < 2 ^ 31 by omega), m13]
    simp +decide only [nm, if_neg hi1, if_true, if_false, ex, zp_q_nat (show 12 * i + ws.length < 2 ^ 31 by omega), if_neg hi2]
    rw [zp_m1.1, zp_m1.2 hp0, e2, zp_bv_some]
theorem zp_op_6 {n : Nat} {p : Nat × Int32} (H : zp_TOP σ τ i u (ws ++ [p])) (h6 : 6 ≤ ws.length) (hn : n < 6) (hp0 : p.1 ≠ 0) (hp4 : p.1 < 4) (hp2 : p.1 = 2 → zp_okr u p.2) : ∃ σ' τ' vs', fn_Ma_act σ i 6 (nI n) = some σ' ∧ zp_pfT 6 (nI n) τ = some τ' ∧ zp_PO σ τ σ' τ' i u vs' := by
  obtain ⟨a1, a2, a3, a4, a5, a6, a7, a8, a9, a10⟩ := id H
  have hlen : (ws ++ [p]).length = ws.length + 1 := by simp
  have hl := zp_okv_len a8
  have ok1 := zp_okv_pre a8 h6
  have hg : zp_gk (ws ++ [p]) ws.length = p := by rw [zp_gk_r (Nat.le_refl _), Nat.sub_self]; rfl
  obtain ⟨σ1, e1, c1, f1⟩ := zp_cf_pop a6 a8.1 h6 hp0
  have hok : zp_okv u (ws.set n p) := by
    refine ⟨⟨?_, by rw [zp_dgs_len, List.length_set]; exact h6, by rw [zp_dgs_len, List.length_set]; omega⟩, fun k h1 h2 => ?_, fun k hk => ?_⟩
    · intro x hx
      rw [zp_dgs_set] at hx
      rcases List.mem_or_eq_of_mem_set hx with q | q
      · exact ok1.1.1 x q
      · rw [q]; exact hp4
    · rw [List.length_set] at h2
      rw [zp_gk_set (by omega), if_neg (by omega)]
      exact ok1.2.1 k h1 h2
    · rw [zp_gk_set (by omega)] at hk ⊢
      by_cases q : k = n
      · rw [if_pos q] at hk ⊢; exact hp2 hk
      · rw [if_neg q] at hk ⊢; exact ok1.2.2 k hk
  have hA : fn_Ma_act σ i 6 (nI n) = fn_Fr_store σ i (nI n) := by
    unfold fn_Ma_act fn_Ma_move
    simp +decide only [if_false, if_true, zp_bv_id]
  have h1 := zp_cf_type (d := 0) a6 a8.1 (by omega)
  rw [zp_gk_1] at h1
  have hS : fn_Fr_store σ i (nI n) = some (mw (mw σ1 (20 + 2 * i) n p.2) (19 + 2 * i) 2 (nI (zp_pkd ((zp_dgs ws).set n p.1)))) := by
    unfold fn_Fr_store
    rw [show fn_Fr_typeBelow σ i 0 = _ from h1, zp_bd_some, e1, zp_bd_some, if_neg (zp_q_in (by omega) (by omega)), zp_q_nat (by omega)]
    simp only [nm]
    rw [show mw σ1 (20 + 2 * i) n p.2 (19 + 2 * i) 2 = nI (zp_pkd (zp_dgs ws)) by rw [zp_mw_k (by omega)]; exact c1.1, zp_s_withL (zp_w12 ok1.1) hn hp4, zp_bd_some]
  have hi1 : ¬ (nI i < 0 ∨ 8 ≤ i) := fun q => q.elim (zp_q_nn (by omega)) (by omega)
  have hi2 : ¬ (nI (12 * i + ws.length) < 0 ∨ 96 ≤ 12 * i + ws.length) := fun q => q.elim (zp_q_nn (by omega)) (by omega)
  have hi3 : ¬ (nI (12 * i + n) < 0 ∨ 96 ≤ 12 * i + n) := fun q => q.elim (zp_q_nn (by omega)) (by omega)
  have hB : zp_pfT 6 (nI n) τ = fn_Mo_onPlaces τ 6 (nI n) := by
    unfold zp_pfT
    simp +decide only [if_false]
    rfl
  have ex : (12 : Int32) * nI i + 5 + nI (ws.length + 1 - 6) = nI (12 * i + ws.length) := by
    rw [show (12 : Int32) = nI 12 from rfl, show (5 : Int32) = nI 5 from rfl, zp_q_mul, zp_q_add, zp_q_add]; congr 1; omega
  have ex2 : (12 : Int32) * nI i + nI n = nI (12 * i + n) := by rw [show (12 : Int32) = nI 12 from rfl, zp_q_mul, zp_q_add]
  have zp_m1 := a7.2 ws.length (by omega)
  rw [hg] at zp_m1
  have m13 := a7.1
  rw [hlen] at m13
  have hM : fn_Mo_onPlaces τ 6 (nI n) = fn_Mo_drop (mw (mw τ 15 (12 * i + n) (nI p.1)) 14 (12 * i + n) p.2) 1 := by
    unfold fn_Mo_onPlaces
    rw [a9, zp_q_top a1, zp_q_nat (show i < 2 ^ 31 by omega), m13]
    simp +decide only [nm, if_neg hi1, if_true, if_false, ex, ex2, zp_q_nat (show 12 * i + ws.length < 2 ^ 31 by omega), zp_q_nat (show 12 * i + n < 2 ^ 31 by omega), if_neg hi2, if_neg hi3, zp_bv_id]
    rw [zp_m1.1, zp_mw_k (show 14 ≠ 15 by omega), zp_m1.2 hp0]
  have cM : zp_MF (mw (mw τ 15 (12 * i + n) (nI p.1)) 14 (12 * i + n) p.2) i (ws.set n p ++ [p]) := by
    refine ⟨?_, fun k hk => ?_⟩
    · rw [zp_mw_k (by omega), zp_mw_k (by omega), m13]; simp
    · simp only [List.length_append, List.length_set, List.length_cons, List.length_nil] at hk
      rw [zp_mw_k (show 15 ≠ 14 by omega)]
      by_cases q : k = n
      · subst q
        rw [zp_mw_at, zp_mw_at, zp_gk_l (by rw [List.length_set]; omega), zp_gk_set (by omega), if_pos rfl]
        exact ⟨rfl, fun _ => rfl⟩
      · rw [zp_mw_j (by omega), zp_mw_j (by omega), zp_mw_k (by omega)]
        have := a7.2 k (by omega)
        by_cases q2 : k < ws.length
        · rw [zp_gk_l (by rw [List.length_set]; exact q2), zp_gk_set (by omega), if_neg q]
          rw [zp_gk_l q2] at this
          exact this
        · have q3 : k = ws.length := by omega
          subst q3
          rw [zp_gk_r (by rw [List.length_set]; exact Nat.le_refl _), List.length_set, Nat.sub_self]
          rw [hg] at this
          exact this
  obtain ⟨τ1, e3, c3, f3⟩ := zp_mf_drop (xs := [p]) cM a1 (by rw [zp_mw_k (by omega), zp_mw_k (by omega)]; exact a9) (by rw [List.length_set]; exact h6) (by rw [List.length_set]; simp; omega)
  refine ⟨_, τ1, ws.set n p, hA.trans hS, (hB.trans hM).trans e3, zp_PO_of H ⟨?_, fun k hk hk2 => ?_⟩ c3 hok (fun k j h1 h2 => ?_) (fun k j h1 h2 => ?_)⟩
  · rw [zp_mw_at, zp_dgs_set]
  · rw [List.length_set] at hk
    rw [zp_mw_k (by omega)]
    rw [zp_gk_set (by omega)] at hk2 ⊢
    by_cases q : k = n
    · subst q; rw [zp_mw_at, if_pos rfl]
    · rw [if_neg q] at hk2 ⊢
      rw [zp_mw_j q]; exact c1.2 k hk hk2
  · rw [zp_mw_kj h1, zp_mw_k h2]; exact f1 k j h1 h2
  · rw [f3 k j h1 h2, zp_mw_kj (by omega), zp_mw_kj (by omega)]
theorem zp_op_16 {q p : Nat × Int32} (H : zp_TOP σ τ i u (ws ++ [q] ++ [p])) (h6 : 6 ≤ ws.length) (hp0 : p.1 ≠ 0) (hp4 : p.1 < 4) (hp2 : p.1 = 2 → zp_okr u p.2) (hq0 : q.1 ≠ 0) (hq4 : q.1 < 4) (hq2 : q.1 = 2 → zp_okr u q.2) : ∃ σ' τ' vs', fn_Ma_act σ i 16 z = some σ' ∧ zp_pfT 16 z τ = some τ' ∧ zp_PO σ τ σ' τ' i u vs' := by
  obtain ⟨a1, a2, a3, a4, a5, a6, a7, a8, a9, a10⟩ := id H
  have hlen : (ws ++ [q] ++ [p]).length = ws.length + 2 := by simp
  have hl := zp_okv_len a8
  have ok1 := zp_okv_pre a8 (by simp; omega)
  have ok2 := zp_okv_pre ok1 h6
  obtain ⟨σ1, e1, c1, f1⟩ := zp_cf_pop a6 a8.1 (by simp; omega) hp0
  obtain ⟨σ2, e2, c2, f2⟩ := zp_cf_pop c1 ok1.1 h6 hq0
  obtain ⟨σ3, e3, c3, f3⟩ := zp_cf_push (t := p.1) (v := p.2) c2 ok2.1 (by omega) hp4
  have ok3 := zp_okv_app ok2 (show ws.length ≤ 11 by omega) hp4 hp0 hp2
  obtain ⟨σ4, e4, c4, f4⟩ := zp_cf_push (t := q.1) (v := q.2) c3 ok3.1 (by simp; omega) hq4
  have ok4 := zp_okv_app ok3 (show (ws ++ [(p.1, p.2)]).length ≤ 11 by simp; omega) hq4 hq0 hq2
  have hA : fn_Ma_act σ i 16 z = fn_Fr_exchange σ i := by
    unfold fn_Ma_act fn_Ma_move
    simp +decide only [if_false, if_true, zp_bv_id]
  have t1 := zp_cf_type (d := 0) a6 a8.1 (by omega)
  rw [zp_gk_1] at t1
  have t2 := zp_cf_type (d := 0) c1 ok1.1 (by simp; omega)
  rw [zp_gk_1] at t2
  have hS : fn_Fr_exchange σ i = some σ4 := by
    unfold fn_Fr_exchange
    rw [show fn_Fr_typeBelow σ i 0 = _ from t1, zp_bd_some, e1, zp_bd_some, show fn_Fr_typeBelow σ1 i 0 = _ from t2, zp_bd_some, e2, zp_bd_some, e3, zp_bv_some, e4, zp_bv_some]
  have hi1 : ¬ (nI i < 0 ∨ 8 ≤ i) := fun q => q.elim (zp_q_nn (by omega)) (by omega)
  have hi2 : ¬ (nI (12 * i + (ws.length + 1)) < 0 ∨ 96 ≤ 12 * i + (ws.length + 1)) := fun q => q.elim (zp_q_nn (by omega)) (by omega)
  have hi3 : ¬ (nI (12 * i + ws.length) < 0 ∨ 96 ≤ 12 * i + ws.length) := fun q => q.elim (zp_q_nn (by omega)) (by omega)
  have hB : zp_pfT 16 z τ = fn_Mo_onPlaces τ 16 z := by
    unfold zp_pfT
    simp +decide only [if_false]
    rfl
  have ex : (12 : Int32) * nI i + 5 + nI (ws.length + 2 - 6) = nI (12 * i + (ws.length + 1)) := by
    rw [show (12 : Int32) = nI 12 from rfl, show (5 : Int32) = nI 5 from rfl, zp_q_mul, zp_q_add, zp_q_add]; congr 1; omega
  have ex2 : nI (12 * i + (ws.length + 1)) - (1 : Int32) = nI (12 * i + ws.length) := by
    rw [show (1 : Int32) = nI 1 from rfl, zp_q_sub (by omega)]; congr 1
  have hgp : zp_gk (ws ++ [q] ++ [p]) (ws.length + 1) = p := by
    rw [zp_gk_r (by simp), show ws.length + 1 - (ws ++ [q]).length = 0 by simp]; rfl
  have hgq : zp_gk (ws ++ [q] ++ [p]) ws.length = q := by rw [zp_gk_l (by simp), zp_gk_r (Nat.le_refl _), Nat.sub_self]; rfl
  have mp := a7.2 (ws.length + 1) (by omega)
  rw [hgp] at mp
  have mq := a7.2 ws.length (by omega)
  rw [hgq] at mq
  have m13 := a7.1
  rw [hlen] at m13
  have hM : fn_Mo_onPlaces τ 16 z = some (mw (mw (mw (mw τ 15 (12 * i + (ws.length + 1)) (nI q.1)) 14 (12 * i + (ws.length + 1)) q.2) 15 (12 * i + ws.length) (nI p.1)) 14 (12 * i + ws.length) p.2) := by
    unfold fn_Mo_onPlaces
    rw [a9, zp_q_top a1, zp_q_nat (show i < 2 ^ 31 by omega), m13]
    simp +decide only [nm, if_neg hi1, if_true, if_false, ex, ex2, zp_q_nat (show 12 * i + (ws.length + 1) < 2 ^ 31 by omega), zp_q_nat (show 12 * i + ws.length < 2 ^ 31 by omega), if_neg hi2, if_neg hi3, zp_bv_id]
    rw [mq.1, zp_mw_k (show 14 ≠ 15 by omega), mq.2 hq0, mp.1, mp.2 hp0]
  refine ⟨σ4, _, ws ++ [(p.1, p.2)] ++ [(q.1, q.2)], hA.trans hS, hB.trans hM, zp_PO_of H c4 ⟨?_, fun k hk => ?_⟩ ok4 (zp_FrF_tr (zp_FrF_tr f1 f2) (zp_FrF_tr f3 f4)) (fun k j h1 h2 => ?_)⟩
  · rw [zp_mw_k (by omega), zp_mw_k (by omega), zp_mw_k (by omega), zp_mw_k (by omega), m13]; simp
  · simp only [List.length_append, List.length_cons, List.length_nil] at hk
    rw [zp_mw_k (show 15 ≠ 14 by omega)]
    rcases Nat.lt_trichotomy k ws.length with g | g | g
    · rw [zp_mw_j (by omega), zp_mw_k (by omega), zp_mw_j (by omega), zp_mw_j (by omega), zp_mw_k (by omega), zp_mw_j (by omega), zp_mw_k (by omega), zp_gk_l (by simp; omega), zp_gk_l g]
      have := a7.2 k (by omega)
      rw [zp_gk_l (by simp; omega), zp_gk_l g] at this
      exact this
    · subst g
      rw [zp_mw_at, zp_mw_at, zp_gk_l (by simp), zp_gk_r (Nat.le_refl _), Nat.sub_self]
      exact ⟨rfl, fun _ => rfl⟩
    · have g' : k = ws.length + 1 := by omega
      subst g'
      rw [zp_mw_j (by omega), zp_mw_k (by omega), zp_mw_at, zp_mw_j (by omega), zp_mw_k (by omega), zp_mw_at, zp_gk_r (by simp), show ws.length + 1 - (ws ++ [(p.1, p.2)]).length = 0 by simp]
      exact ⟨rfl, fun _ => rfl⟩
  · rw [zp_mw_kj (by omega), zp_mw_kj (by omega), zp_mw_kj (by omega), zp_mw_kj (by omega)]
end
end

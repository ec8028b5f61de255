/-! the functions alone, 30 -/
noncomputable section
theorem zp_cod_of {σ σ' : mm_M} (h : ∀ k, 1 ≤ k → k ≤ 7 → σ' k = σ k) : zp_cod σ' = zp_cod σ := by
  funext k j
  unfold zp_cod
  by_cases q : 1 ≤ k ∧ k ≤ 7
  · rw [if_pos q, if_pos q, h k q.1 q.2]
  · rw [if_neg q, if_neg q]
theorem zp_wC_of {σ σ' : mm_M} (h : ∀ k, 1 ≤ k → k ≤ 7 → σ' k = σ k) (hC : zp_wC σ) : zp_wC σ' := zp_cod_wC (by rw [zp_cod_of h]; exact zp_wC_cod hC)
theorem zp_fst0_of {σ σ' : mm_M} (h : ∀ k, 1 ≤ k → k ≤ 7 → σ' k = σ k) (n : Nat) : zp_fst0 σ' n = zp_fst0 σ n := by
  unfold zp_fst0 zp_kd
  rw [h 6 (by omega) (by omega), h 7 (by omega) (by omega)]
def zp_padv (args : zp_VL) : zp_VL := args ++ List.replicate (6 - args.length) (0, 0)
theorem zp_padv_len {args : zp_VL} (h : args.length ≤ 6) : (zp_padv args).length = 6 := by simp [zp_padv]; omega
theorem zp_padv_get {args : zp_VL} (k : Nat) : zp_gk (zp_padv args) k = if k < args.length then zp_gk args k else (0, 0) := by
  unfold zp_padv
  by_cases q : k < args.length
  · rw [zp_gk_l q, if_pos q]
  · rw [zp_gk_r (by omega), if_neg q]
    unfold zp_gk
    rw [List.getD_eq_getElem?_getD]
    rcases Nat.lt_or_ge (k - args.length) (6 - args.length) with g | g
    · simp [g]
    · rw [List.getElem?_eq_none (by simp; omega)]; rfl
theorem zp_padv_dgs {κ : mm_M} {n : Nat} {args : zp_VL} (h : args.length ≤ 6) (hp : (κ 6 n).toNatClampNeg = args.length) (hk : ∀ k, k < args.length → (zp_gk args k).1 = zp_kd κ n (nI k)) : zp_dgs (zp_padv args) = zp_fst0 κ n := by
  apply zp_ext_getD (by rw [zp_dgs_len, zp_padv_len h, zp_fst0_len])
  intro k hk2
  rw [zp_dgs_len, zp_padv_len h] at hk2
  rw [zp_dgs_get, zp_padv_get, zp_fst0_get κ n hk2, hp]
  by_cases q : k < args.length
  · rw [if_pos q, if_pos q]; exact hk k q
  · rw [if_neg q, if_neg q]
section
variable {σ τ : mm_M} {i u : Nat} {vs ws : zp_VL} {z : Int32}
theorem zp_padv_ok {n : Nat} {args : zp_VL} (h : args.length ≤ 6) (hp : (σ 6 n).toNatClampNeg = args.length) (hk : ∀ k, k < args.length → (zp_gk args k).1 = zp_kd σ n (nI k) ∧ ((zp_gk args k).1 = 2 → zp_okr u (zp_gk args k).2)) : zp_okv u (zp_padv args) := by
  refine ⟨by rw [zp_padv_dgs h hp (fun k q => (hk k q).1)]; exact zp_fst0_w σ n, fun k h1 h2 => by rw [zp_padv_len h] at h2; omega, fun k h1 => ?_⟩
  rw [zp_padv_get] at h1 ⊢
  by_cases q : k < args.length
  · rw [if_pos q] at h1 ⊢; exact (hk k q).2 h1
  · rw [if_neg q] at h1; exact absurd h1 (by decide)
theorem zp_c_open {n : Nat} {d : Nat} (hC : zp_wC σ) (hn : n < 4) (hd : d < 8) (h16 : σ 16 0 = nI d) : fn_Ma_openFrame σ (nI n) = some (d, mw (mw (mw (mw σ 16 0 (nI (d + 1))) (19 + 2 * d) 0 (nI n)) (19 + 2 * d) 1 (σ 5 n)) (19 + 2 * d) 2 (nI (zp_pkd (zp_fst0 σ n)))) := by
  have hi1 : ¬ (nI d < 0 ∨ 8 ≤ d) := fun q => q.elim (zp_q_nn (by omega)) (by omega)
  have hi2 : ¬ (nI n < 0 ∨ 4 ≤ n) := fun q => q.elim (zp_q_nn (by omega)) (by omega)
  have hc : ∀ k, 1 ≤ k → k ≤ 7 → mw σ 16 0 (nI (d + 1)) k = σ k := fun k h1 h2 => zp_mw_k (by omega)
  unfold fn_Ma_openFrame
  rw [h16, zp_q_nat (show d < 2 ^ 31 by omega), if_neg hi1, zp_q_succ]
  simp only [nm]
  unfold fn_Co_startOf
  rw [zp_q_nat (show n < 2 ^ 31 by omega), if_neg hi2, zp_bd_some, zp_c_first (zp_wC_of hc hC) hn, zp_bd_some, zp_fst0_of hc]
  unfold fn_Fr_open
  simp only [nm]
  rw [zp_bv_some, zp_mw_k (by omega)]
theorem zp_op_18 {fr : Nat → Nat × Int32 × zp_VL} {args : zp_VL} {n : Nat} {y : Int32} (hC : zp_wC σ) (hE : zp_cE σ τ) (H : zp_TOP σ τ i u (ws ++ args)) (h2 : σ 16 2 = τ 0 24) (hfr : ∀ j, j < i + 1 → zp_FR σ τ u j (fr j)) (hlen : ∀ j, j + 1 < i + 1 → (fr j).2.2.length ≤ 11) (h6 : 6 ≤ ws.length) (hw11 : ws.length ≤ 11) (okw : zp_okv u ws) (hn : n < 4) (hi : i + 1 < 8) (hp : σ 6 n = nI args.length) (hal : args.length ≤ 3) (hk : ∀ k, k < args.length → (zp_gk args k).1 = zp_kd σ n (nI k) ∧ ((zp_gk args k).1 = 2 → zp_okr u (zp_gk args k).2)) : ∃ σ' τ', fn_Ma_act (mw σ (19 + 2 * i) 1 y) i 18 (nI n) = some σ' ∧ zp_pfT 18 (nI n) (mw τ 12 i y) = some τ' ∧ zp_MR σ' τ' ∧ (∀ k, k < 16 → σ' k = σ k) ∧ (∀ k, 1 ≤ k → k < 11 → τ' k = τ k) ∧ ∀ j, j ≠ 16 → j ≠ 22 → j ≠ 24 → τ' 0 j = τ 0 j := by
  have H1 := zp_TOP_addr (y := y) (y' := y) H
  obtain ⟨a1, a2, a3, a4, a5, a6, a7, a8, a9, a10⟩ := id H1
  have hl := zp_okv_len a8
  have hla : (ws ++ args).length = ws.length + args.length := by simp
  have hf0 : 10 < fuel0 := by decide
  have hA : fn_Ma_act (mw σ (19 + 2 * i) 1 y) i 18 (nI n) = fn_Ma_enter (mw σ (19 + 2 * i) 1 y) i (nI n) := by
    unfold fn_Ma_act
    simp +decide only [if_true, if_false, zp_bv_id]
  have hB : zp_pfT 18 (nI n) (mw τ 12 i y) = fn_Mo_call (mw τ 12 i y) (nI n) := by
    unfold zp_pfT
    simp +decide only [if_false, if_true]
  have hi4 : ¬ (nI n < 0 ∨ 4 ≤ n) := fun q => q.elim (zp_q_nn (by omega)) (by omega)
  have hpN : (σ 6 n).toNatClampNeg = args.length := by rw [hp, zp_q_nat (by omega)]
  have hc1 : ∀ k, 1 ≤ k → k ≤ 7 → mw σ (19 + 2 * i) 1 y k = σ k := fun k h1 h2 => zp_mw_k (by omega)
  have hopen := zp_c_open (n := n) (d := i + 1) (zp_wC_of hc1 hC) hn hi a10
  rw [zp_fst0_of hc1, show mw σ (19 + 2 * i) 1 y 5 n = σ 5 n by rw [zp_mw_k (by omega)]] at hopen
  generalize hs3 : mw (mw (mw (mw (mw σ (19 + 2 * i) 1 y) 16 0 (nI (i + 1 + 1))) (19 + 2 * (i + 1)) 0 (nI n)) (19 + 2 * (i + 1)) 1 (σ 5 n)) (19 + 2 * (i + 1)) 2 (nI (zp_pkd (zp_fst0 σ n))) = σ3 at hopen
  have g3 : ∀ k j, ¬ (k = 16 ∧ j = 0) → k ≠ 19 + 2 * (i + 1) → ¬ (k = 19 + 2 * i ∧ j = 1) → σ3 k j = σ k j := fun k j b1 zp_b2 b3 => by
    rw [← hs3, zp_mw_k zp_b2, zp_mw_k zp_b2, zp_mw_k zp_b2, zp_mw_kj b1, zp_mw_kj b3]
  have c3 : zp_CF σ3 i (ws ++ args) := by
    refine ⟨?_, fun k hk1 hk2 => ?_⟩
    · rw [g3 _ _ (by omega) (by omega) (by omega)]
      have := a6.1
      rw [zp_mw_j (by omega)] at this; exact this
    · rw [g3 _ _ (by omega) (by omega) (by omega)]
      have := a6.2 k hk1 hk2
      rw [zp_mw_k (by omega)] at this; exact this
  obtain ⟨σ4, e4, c4, k4, f4⟩ := zp_c_enter (j := i + 1) (a1 := nI n) (by omega) h6 args.length fuel0 args σ3 rfl (by omega) (by omega) c3 a8
  have hEn : fn_Ma_enter (mw σ (19 + 2 * i) 1 y) i (nI n) = some σ4 := by
    unfold fn_Ma_enter
    rw [hopen, zp_bd_some]
    unfold fn_Co_parametersOf
    rw [zp_q_nat (show n < 2 ^ 31 by omega), if_neg hi4, zp_bd_some, g3 6 n (by omega) (by omega) (by omega), hp]
    simp only [nm]
    exact e4
  have f34 : ∀ k j, ¬ (k = 19 + 2 * i ∧ (j = 1 ∨ j = 2)) → k ≠ 20 + 2 * i → k ≠ 20 + 2 * (i + 1) → ¬ (k = 16 ∧ j = 0) → k ≠ 19 + 2 * (i + 1) → σ4 k j = σ k j := fun k j b1 zp_b2 b3 b4 b5 => by
    rw [f4 k j (by omega) zp_b2 b3, g3 k j b4 b5 (by omega)]
  have hi1 : ¬ (nI i < 0 ∨ 8 ≤ i) := fun q => q.elim (zp_q_nn (by omega)) (by omega)
  have hi2 : ¬ (nI (i + 1) < 0 ∨ 8 ≤ i + 1) := fun q => q.elim (zp_q_nn (by omega)) (by omega)
  obtain ⟨τ2, e5, c5, f5⟩ := zp_mf_drop (xs := args) a7 a1 a9 h6 (by omega)
  have t5 : τ2 5 n = nI args.length := by rw [f5 5 n (by omega) (by omega), zp_mw_k (by omega), hE.2.2.2.2.2.1]; exact hp
  have t4 : τ2 4 n = σ 5 n := by rw [f5 4 n (by omega) (by omega), zp_mw_k (by omega), hE.2.2.2.2.1]
  have t16 : τ2 0 16 = nI (i + 1) := by rw [f5 0 16 (by omega) (by omega)]; exact a9
  have ex : (12 : Int32) * nI i + 6 + nI (ws.length - 6) = nI (12 * i + ws.length) := by
    rw [show (12 : Int32) = nI 12 from rfl, show (6 : Int32) = nI 6 from rfl, zp_q_mul, zp_q_add, zp_q_add]; congr 1; omega
  obtain ⟨τ3, e6, b16, b15, f6⟩ := zp_m_enter37 (a0 := nI n) hi 6 fuel0 0 (mw (mw (mw τ2 11 (i + 1) (nI n)) 12 (i + 1) (σ 5 n)) 13 (i + 1) 0) (by omega) (by omega) (by omega) (by rw [zp_mw_k (by omega), zp_mw_k (by omega), zp_mw_k (by omega)]; exact t16) (fun k hk => by omega)
  have hEnt : fn_Mo_enter τ2 (nI n) = some τ3 := by
    unfold fn_Mo_enter
    have z0 : ∀ v, mw τ2 11 (i + 1) v 0 16 = nI (i + 1) := fun v => by rw [zp_mw_k (by omega)]; exact t16
    have z1 : ∀ v w, mw (mw τ2 11 (i + 1) v) 12 (i + 1) w 0 16 = nI (i + 1) := fun v w => by rw [zp_mw_k (by omega)]; exact z0 v
    have z4 : ∀ v, mw τ2 11 (i + 1) v 4 n = σ 5 n := fun v => by rw [zp_mw_k (by omega)]; exact t4
    simp only [nm, t16, zp_q_nat (show i + 1 < 2 ^ 31 by omega), zp_q_nat (show n < 2 ^ 31 by omega), if_neg hi2, if_neg hi4, z0, z1, z4]
    exact e6
  have f56 : ∀ k j, ¬ (k = 13 ∧ j = i) → ¬ ((k = 14 ∨ k = 15) ∧ 12 * i ≤ j ∧ j < 12 * i + 24) → ¬ (k = 0 ∧ j = 16) → ¬ ((k = 11 ∨ k = 12 ∨ k = 13) ∧ j = i + 1) → ¬ (k = 12 ∧ j = i) → τ3 k j = τ k j := fun k j d1 d2 d3 zp_d4 d5 => by
    rw [f6 k j d3 (by omega), zp_mw_kj (by omega), zp_mw_kj (by omega), zp_mw_kj (by omega), f5 k j d1 (by omega), zp_mw_kj (by omega)]
  have src : ∀ k, k < args.length → τ3 15 (12 * i + ws.length + k) = nI (zp_gk args k).1 ∧ ((zp_gk args k).1 ≠ 0 → τ3 14 (12 * i + ws.length + k) = (zp_gk args k).2) := fun k hk => by
    obtain ⟨τx, ex1, cx, -⟩ := zp_mf_drop (xs := args) a7 a1 a9 h6 (by omega)
    have hd : ∀ kk, kk = 14 ∨ kk = 15 → τ2 kk = mw τ 12 i y kk := fun kk hkk => by
      unfold fn_Mo_drop at e5
      rw [a9, zp_q_top a1, zp_q_nat (show i < 2 ^ 31 by omega)] at e5
      simp only [if_neg hi1, nm, Option.some.injEq] at e5
      rw [← e5, zp_mw_k (by omega)]
    have m := a7.2 (ws.length + k) (by omega)
    rw [zp_gk_r (by omega), show ws.length + k - ws.length = k by omega] at m
    rw [f6 _ _ (by omega) (by omega), f6 _ _ (by omega) (by omega), zp_mw_k (by omega), zp_mw_k (by omega), zp_mw_k (by omega), zp_mw_k (show 14 ≠ 13 by omega), zp_mw_k (by omega), zp_mw_k (by omega), hd 15 (by omega), hd 14 (by omega), Nat.add_assoc]
    exact m
  obtain ⟨τ4, e7, k7, f7⟩ := zp_m_call40 (x := 12 * i + ws.length) (args := args) hn hi (by omega) hal args.length fuel0 0 τ3 (by omega) (by omega) (by omega) (by rw [f6 _ _ (by omega) (by omega), zp_mw_k (by omega), zp_mw_k (by omega), zp_mw_k (by omega)]; exact t5) src (fun k hk => by omega)
  have hCall : fn_Mo_call (mw τ 12 i y) (nI n) = some τ4 := by
    unfold fn_Mo_call
    rw [a9, zp_q_top a1, zp_q_nat (show n < 2 ^ 31 by omega), show mw τ 12 i y 5 n = nI args.length by rw [zp_mw_k (by omega), hE.2.2.2.2.2.1]; exact hp, e5]
    simp only [nm, if_neg hi4, zp_bv_some, zp_q_nat (show i < 2 ^ 31 by omega), if_neg hi1]
    rw [c5.1, ex, hEnt, zp_bv_some]
    exact e7
  have f567 : ∀ k j, ¬ (k = 13 ∧ j = i) → ¬ ((k = 14 ∨ k = 15) ∧ 12 * i ≤ j ∧ j < 12 * i + 24) → ¬ (k = 0 ∧ j = 16) → ¬ ((k = 11 ∨ k = 12 ∨ k = 13) ∧ j = i + 1) → ¬ (k = 12 ∧ j = i) → τ4 k j = τ k j := fun k j d1 d2 d3 zp_d4 d5 => by
    rw [f7 k j (by omega), f56 k j d1 d2 d3 zp_d4 d5]
  refine ⟨σ4, τ4, hA.trans hEn, hB.trans hCall, ⟨i + 2, u, fun m => if m = i then ((fr i).1, y, ws) else if m = i + 1 then (n, σ 5 n, zp_padv args) else fr m, by omega, a2, ?_, ?_, ?_, ?_, ?_, fun m hm => ?_, fun m hm => ?_, fun m hm => ?_⟩, fun k hk => ?_, fun k d1 d2 => ?_, fun j d1 d2 d3 => ?_⟩
  · rw [f4 _ _ (by omega) (by omega) (by omega), ← hs3, zp_mw_k (by omega), zp_mw_k (by omega), zp_mw_k (by omega), zp_mw_at]
  · rw [f7 _ _ (by omega)]; exact b16
  · rw [f34 _ _ (by omega) (by omega) (by omega) (by omega) (by omega)]; exact H.2.2.1
  · rw [f567 _ _ (by omega) (by omega) (by omega) (by omega) (by omega)]; exact H.2.2.2.1
  · rw [f34 _ _ (by omega) (by omega) (by omega) (by omega) (by omega), f567 _ _ (by omega) (by omega) (by omega) (by omega) (by omega)]; exact h2
  · rw [f34 _ _ (by omega) (by omega) (by omega) (by omega) (by omega), f567 _ _ (by omega) (by omega) (by omega) (by omega) (by omega)]; exact H.2.2.2.2.1 m hm
  · by_cases q : m = i
    · subst q
      simp only [if_true]
      obtain ⟨b1, zp_b2, b3, b4, b5, b6, b7, b8⟩ := hfr m (by omega)
      refine ⟨b1, ?_, ?_, ?_, ?_, c4, ⟨?_, fun k hk => ?_⟩, okw⟩
      · rw [f34 _ _ (by omega) (by omega) (by omega) (by omega) (by omega)]; exact zp_b2
      · rw [f567 _ _ (by omega) (by omega) (by omega) (by omega) (by omega)]; exact b3
      · rw [f4 _ _ (by omega) (by omega) (by omega), ← hs3, zp_mw_k (by omega), zp_mw_k (by omega), zp_mw_k (by omega), zp_mw_k (by omega), zp_mw_at]
      · rw [f7 _ _ (by omega), f6 _ _ (by omega) (by omega), zp_mw_k (by omega), zp_mw_j (by omega), zp_mw_k (by omega), f5 _ _ (by omega) (by omega), zp_mw_at]
      · rw [f7 _ _ (by omega), f6 _ _ (by omega) (by omega), zp_mw_j (by omega), zp_mw_k (by omega), zp_mw_k (by omega)]; exact c5.1
      · have hk' : k < ws.length := hk
        have e15 : ∀ kk, kk = 14 ∨ kk = 15 → τ4 kk (12 * m + k) = τ2 kk (12 * m + k) := fun kk hkk => by
          rw [f7 _ _ (by omega), f6 _ _ (by omega) (by omega), zp_mw_k (by omega), zp_mw_k (by omega), zp_mw_k (by omega)]
        rw [e15 15 (by omega), e15 14 (by omega)]
        exact c5.2 k hk
    · simp only [if_neg q]
      by_cases q2 : m = i + 1
      · subst q2
        simp only [if_true]
        refine ⟨hn, ?_, ?_, ?_, ?_, ⟨?_, fun k d1 d2 => ?_⟩, ⟨?_, fun k d1 => ?_⟩, zp_padv_ok (by omega) hpN hk⟩
        · rw [f4 _ _ (by omega) (by omega) (by omega), ← hs3, zp_mw_j (by omega), zp_mw_j (by omega), zp_mw_at]
        · rw [f7 _ _ (by omega), f6 _ _ (by omega) (by omega), zp_mw_k (by omega), zp_mw_k (by omega), zp_mw_at]
        · rw [f4 _ _ (by omega) (by omega) (by omega), ← hs3, zp_mw_j (by omega), zp_mw_at]
        · rw [f7 _ _ (by omega), f6 _ _ (by omega) (by omega), zp_mw_k (by omega), zp_mw_at]
        · rw [f4 _ _ (by omega) (by omega) (by omega), ← hs3, zp_mw_at, zp_padv_dgs (by omega) hpN (fun k q => (hk k q).1)]
        · rw [zp_padv_get] at d2 ⊢
          by_cases q3 : k < args.length
          · rw [if_pos q3]; exact k4 k q3
          · rw [if_neg q3] at d2; exact absurd rfl d2
        · rw [f7 _ _ (by omega), f6 _ _ (by omega) (by omega), zp_mw_at, zp_padv_len (by omega)]; rfl
        · rw [zp_padv_len (by omega)] at d1
          rw [zp_padv_get]
          by_cases q3 : k < args.length
          · rw [if_pos q3]; exact k7 k q3
          · rw [if_neg q3]
            refine ⟨?_, fun q4 => absurd rfl q4⟩
            rw [f7 _ _ (by omega)]; exact b15 k d1
      · simp only [if_neg q2]
        obtain ⟨b1, zp_b2, b3, b4, b5, b6, b7, b8⟩ := hfr m (by omega)
        have hlm := zp_okv_len b8
        refine ⟨b1, ?_, ?_, ?_, ?_, ⟨?_, fun k d1 d2 => ?_⟩, ⟨?_, fun k d1 => ?_⟩, b8⟩
        · rw [f34 _ _ (by omega) (by omega) (by omega) (by omega) (by omega)]; exact zp_b2
        · rw [f567 _ _ (by omega) (by omega) (by omega) (by omega) (by omega)]; exact b3
        · rw [f34 _ _ (by omega) (by omega) (by omega) (by omega) (by omega)]; exact b4
        · rw [f567 _ _ (by omega) (by omega) (by omega) (by omega) (by omega)]; exact b5
        · rw [f34 _ _ (by omega) (by omega) (by omega) (by omega) (by omega)]; exact b6.1
        · rw [f34 _ _ (by omega) (by omega) (by omega) (by omega) (by omega)]; exact b6.2 k d1 d2
        · rw [f567 _ _ (by omega) (by omega) (by omega) (by omega) (by omega)]; exact b7.1
        · rw [f567 _ _ (by omega) (by omega) (by omega) (by omega) (by omega), f567 _ _ (by omega) (by omega) (by omega) (by omega) (by omega)]; exact b7.2 k d1
  · by_cases q : m = i
    · simp only [if_pos q]; exact hw11
    · have q2 : m ≠ i + 1 := by omega
      simp only [if_neg q, if_neg q2]
      exact hlen m (by omega)
  · funext j
    exact f34 k j (by omega) (by omega) (by omega) (by omega) (by omega)
  · funext j
    exact f567 k j (by omega) (by omega) (by omega) (by omega) (by omega)
  · exact f567 0 j (by omega) (by omega) (by omega) (by omega) (by omega)
end
end

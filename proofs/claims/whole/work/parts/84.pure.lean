/-! the functions alone, 34 -/
noncomputable section
section
variable {σ τ : mm_M} {i u r o a : Nat} {vs ws : zp_VL} {y z : Int32} {fr : Nat → Nat × Int32 × zp_VL}
theorem zp_MR_0 {σ' τ' : mm_M} (h : zp_MR σ τ) (hs : σ' 16 0 = 0) (hs1 : σ' 16 1 = σ 16 1) (hs2 : σ' 16 2 = σ 16 2) (hs3 : σ' 17 = σ 17) (ht : τ' 0 16 = 0) (ht1 : τ' 0 22 = τ 0 22) (ht2 : τ' 0 24 = τ 0 24) (ht3 : τ' 16 = τ 16) : zp_MR σ' τ' := by
  obtain ⟨d, u, fr, a1, a2, a3, a4, a5, a6, a7, a8, a9, a10⟩ := h
  exact ⟨0, u, fr, by omega, a2, by rw [hs]; rfl, by rw [ht]; rfl, by rw [hs1]; exact a5, by rw [ht1]; exact a6, by rw [hs2, ht2]; exact a7, fun j hj => by rw [hs3, ht3]; exact a8 j hj, fun j hj => by omega, fun j hj => by omega⟩
theorem zp_R_do (H : zp_Rl σ τ) (hrun : σ 16 0 ≠ 0) : ∃ t σ' τ', t ≤ 5 ∧ fn_Ma_doInstruction σ = some (t, 0, σ') ∧ fn_Mo_stepOnce τ = some (if t = 0 then 1 else 0, τ') ∧ τ' 0 25 = nI t ∧ τ' 0 26 = τ 0 26 ∧ zp_Rl σ' τ' := by
  obtain ⟨hC, hE, hK, hV, hM⟩ := id H
  obtain ⟨d, u, fr, a1, a2, a3, a4, a5, a6, a7, a8, a9, a10⟩ := id hM
  obtain ⟨i, rfl⟩ : ∃ i, d = i + 1 := by
    cases d with
    | zero => exact absurd a3 hrun
    | succ d => exact ⟨d, rfl⟩
  obtain ⟨b1, zp_b2, b3, b4, b5, b6, b7, b8⟩ := a9 i (by omega)
  generalize hrr : (fr i).1 = r at b1 zp_b2 b3
  generalize hzz : (fr i).2.1 = z0 at b4 b5
  generalize hvv : (fr i).2.2 = vs at b6 b7 b8
  have hi8 : i < 8 := by omega
  have hi1 : ¬ (nI i < 0 ∨ 8 ≤ i) := fun q => q.elim (zp_q_nn (by omega)) (by omega)
  have B0 : zp_BASE σ τ i u fr vs := ⟨⟨hi8, a2, a5, a6, a8, b6, b7, b8, a4, a3⟩, a7, a9, a10⟩
  have bad : ∀ t (τ2 : mm_M), 0 < t → t ≤ 5 → (∀ k, 1 ≤ k → k < 7 → τ2 k = τ k) → τ2 0 0 = τ 0 0 → τ2 0 7 = τ 0 7 → τ2 0 22 = τ 0 22 → τ2 0 24 = τ 0 24 → τ2 0 26 = τ 0 26 → τ2 16 = τ 16 → fn_Ma_trapOf σ i = some (t, σ) → fn_Mo_stepOnce τ = fn_Mo_stepOnce_63 τ2 z0 (nI t) → ∃ t σ' τ', t ≤ 5 ∧ fn_Ma_doInstruction σ = some (t, 0, σ') ∧ fn_Mo_stepOnce τ = some (if t = 0 then 1 else 0, τ') ∧ τ' 0 25 = nI t ∧ τ' 0 26 = τ 0 26 ∧ zp_Rl σ' τ' := by
    intro t τ2 h1 h5 k1 k2 k3 k4 k5 k6 k7 eT eM
    refine ⟨t, mw σ 16 0 0, mw (mw τ2 0 25 (nI t)) 0 16 0, h5, ?_, ?_, ?_, ?_, zp_Rl_mach H (fun k hk => zp_mw_k (by omega)) (fun k h1 h2 => by rw [zp_mw_k (by omega), zp_mw_k (by omega)]; exact k1 k h1 h2) (by rw [zp_mw_j (by omega), zp_mw_j (by omega)]; exact k2) (by rw [zp_mw_j (by omega), zp_mw_j (by omega)]; exact k3) (zp_MR_0 hM zp_mw_at (zp_mw_j (by omega)) (zp_mw_j (by omega)) (zp_mw_k (by omega)) zp_mw_at (by rw [zp_mw_j (by omega), zp_mw_j (by omega)]; exact k4) (by rw [zp_mw_j (by omega), zp_mw_j (by omega)]; exact k5) (by rw [zp_mw_k (by omega), zp_mw_k (by omega)]; exact k7))⟩
    · unfold fn_Ma_doInstruction fn_Ma_top
      rw [a3, zp_q_top hi8, zp_q_nat (show i < 2 ^ 31 by omega), if_neg hi1, zp_bd_some, eT, zp_bd_some, if_neg (by omega)]
      simp only [nm]
      rw [zp_c_report h1 h5]
      obtain ⟨t', rfl⟩ : ∃ t', t = t' + 1 := ⟨t - 1, by omega⟩
      rfl
    · rw [eM]
      unfold fn_Mo_stepOnce_63
      simp only [nm, zp_mw_at]
      rw [if_neg (show ¬ nI t = 0 from fun q => by have := (zp_q_eq (b := 0) (by omega) (by decide)).mp q; omega), if_neg (show ¬ t = 0 by omega)]
      simp
    · rw [zp_mw_j (by omega), zp_mw_at]
    · rw [zp_mw_j (by omega), zp_mw_j (by omega)]; exact k6
  have hE1 : zp_cE σ (mw τ 0 25 0) := by
    obtain ⟨E0, E1, E2, E3, E4, E5, E6⟩ := hE
    exact ⟨by rw [zp_mw_j (by omega)]; exact E0, by rw [zp_mw_k (by omega)]; exact E1, by rw [zp_mw_k (by omega)]; exact E2, by rw [zp_mw_k (by omega)]; exact E3, by rw [zp_mw_k (by omega)]; exact E4, by rw [zp_mw_k (by omega)]; exact E5, by rw [zp_mw_k (by omega)]; exact E6⟩
  have eS : fn_Mo_stepOnce τ = (if zp_isA σ z0 = true then (bd (fn_Mo_fitsValues (mw τ 0 25 0) z0) (fun r13 σ12 => (if r13 = 0 then fn_Mo_stepOnce_63 σ12 z0 1 else (if (z0 < 0 ∨ 100 ≤ z0.toNatClampNeg) then none else (bd (fn_Mo_trapOf σ12 (σ12 1 z0.toNatClampNeg) (σ12 2 z0.toNatClampNeg)) (fun r18 σ17 => fn_Mo_stepOnce_63 σ17 z0 r18)))))) else fn_Mo_stepOnce_63 (mw τ 0 25 0) z0 1) := by
    unfold fn_Mo_stepOnce fn_Mo_stepOnce_43
    simp only [nm]
    rw [show mw τ 0 25 0 0 16 = nI (i + 1) by rw [zp_mw_j (by omega)]; exact a4, if_neg (show ¬ nI (i + 1) = 0 from fun q => by have := (zp_q_eq (b := 0) (by omega) (by decide)).mp q; omega), zp_q_top hi8, zp_q_nat (show i < 2 ^ 31 by omega), if_neg hi1, show mw τ 0 25 0 12 i = z0 by rw [zp_mw_k (by omega)]; exact b5, zp_m_isA hE1, zp_bd_some]
    cases zp_isA σ z0 with
    | false => simp
    | true =>
      simp only [if_true, if_neg (show ¬ (1 : Int32) = 0 by decide)]
      congr 1
      funext r13 σ12
      by_cases q : r13 = 0
      · rw [if_pos q, if_pos q]
      · rw [if_neg q, if_neg q]
        by_cases q2 : (z0 < 0 ∨ 100 ≤ z0.toNatClampNeg)
        · rw [if_pos q2, if_pos q2]
        · rw [if_neg q2, if_neg q2]
  cases hA : zp_isA σ z0 with
  | false =>
    rw [hA, if_neg (by decide)] at eS
    refine bad 1 (mw τ 0 25 0) (by omega) (by omega) (fun k h1 h2 => zp_mw_k (by omega)) (zp_mw_j (by omega)) (zp_mw_j (by omega)) (zp_mw_j (by omega)) (zp_mw_j (by omega)) (zp_mw_j (by omega)) (zp_mw_k (by omega)) ?_ eS
    unfold fn_Ma_trapOf
    rw [zp_b2, b4, b6.1, zp_c_fits0 b8.1 hA, zp_bd_some, if_pos rfl]
  | true =>
    rw [hA, if_pos rfl] at eS
    obtain ⟨a, ha, rfl, hlt⟩ := zp_isA_n hC hA
    have hi2 : ¬ (nI a < 0 ∨ 100 ≤ a) := fun q => q.elim (zp_q_nn (by omega)) (by omega)
    obtain ⟨τ2, e2, f2⟩ := zp_m_fitsV (r := r) (a := a) (vs := vs) (u := u) hC hE1 hi8 b1 ha (by rw [zp_mw_j (by omega)]; exact a4) (by rw [zp_mw_k (by omega)]; exact b3) (by unfold zp_MF; rw [zp_mw_k (by omega), zp_mw_k (by omega), zp_mw_k (by omega)]; exact b7) b8
    rw [e2, zp_bd_some] at eS
    have g : ∀ k j, k ≠ 7 → k ≠ 8 → k ≠ 9 → k ≠ 10 → ¬ (k = 0 ∧ (j = 11 ∨ j = 13 ∨ j = 14 ∨ j = 15 ∨ j = 25)) → τ2 k j = τ k j := fun k j h7 h8 h9 h10 h0 => by
      rw [f2 k j h7 h8 h9 h10 (by omega), zp_mw_kj (by omega)]
    have gk' : ∀ k, k ≠ 7 → k ≠ 8 → k ≠ 9 → k ≠ 10 → k ≠ 0 → τ2 k = τ k := fun k h7 h8 h9 h10 h0 => by
      funext j; exact g k j h7 h8 h9 h10 (by omega)
    have eFits := zp_c_fits (r := r) (a := a) hC b8.1 b1 hlt
    cases ht : zp_tr σ r a (zp_dgs vs) with
    | none =>
      rw [ht] at eS eFits
      rw [if_pos (show zp_bw (none : Option (List Nat)).isSome = 0 from rfl)] at eS
      refine bad 1 τ2 (by omega) (by omega) (fun k h1 h2 => gk' k (by omega) (by omega) (by omega) (by omega) (by omega)) (g 0 0 (by omega) (by omega) (by omega) (by omega) (by omega)) (g 0 7 (by omega) (by omega) (by omega) (by omega) (by omega)) (g 0 22 (by omega) (by omega) (by omega) (by omega) (by omega)) (g 0 24 (by omega) (by omega) (by omega) (by omega) (by omega)) (g 0 26 (by omega) (by omega) (by omega) (by omega) (by omega)) (gk' 16 (by omega) (by omega) (by omega) (by omega) (by omega)) ?_ eS
      unfold fn_Ma_trapOf
      rw [zp_b2, b4, b6.1, eFits, zp_bd_some]
      rfl
    | some dd =>
      rw [ht] at eS eFits
      rw [if_neg (show ¬ zp_bw (some dd).isSome = 0 by show ¬ zp_bw true = 0; decide), zp_q_nat (show a < 2 ^ 31 by omega), if_neg hi2] at eS
      obtain ⟨wd, hk, ho, -, -, hn, hl, edd, hp⟩ := zp_tr_ok hC b8.1 ht
      have ha12 : (zp_aft σ (zp_oo σ a) (σ 3 a) (zp_dgs vs)).length ≤ 12 := by rw [← edd]; exact wd.2.2
      obtain ⟨-, hop⟩ := zp_c_opAt ha hk
      have eo : σ 2 a = nI (zp_oo σ a) := by
        simp only [zp_okop, Bool.and_eq_true, Bool.not_eq_true', decide_eq_false_iff_not] at hk
        obtain ⟨n, hn, e⟩ := zp_q_bd (N := 20) (by decide) hk.1 hk.2
        unfold zp_oo; rw [e, zp_q_nat (by omega)]
      have B2 : zp_BASE σ τ2 i u fr vs := zp_BASE_of B0 (fun k hk => gk' k (by omega) (by omega) (by omega) (by omega) (by omega)) (g 0 16 (by omega) (by omega) (by omega) (by omega) (by omega)) (g 0 22 (by omega) (by omega) (by omega) (by omega) (by omega)) (g 0 24 (by omega) (by omega) (by omega) (by omega) (by omega))
      obtain ⟨t, ht5, eT, eM, hgo⟩ := zp_st_all (y := nI a + 1) hC B2 ho hn hp ha12
      have eTrap : fn_Ma_trapOf σ i = some (t, σ) := by
        rw [← eT]
        unfold fn_Ma_trapOf
        rw [zp_b2, b4, b6.1, eFits, zp_bd_some, if_neg (show ¬ (if (some dd).isSome = true then (1 : Int32) else 0) = 0 by simp), b4, hop, zp_bd_some]
        rfl
      rw [gk' 1 (by omega) (by omega) (by omega) (by omega) (by omega), gk' 2 (by omega) (by omega) (by omega) (by omega) (by omega), hE.2.1, hE.2.2.1, eo, eM, zp_bd_some] at eS
      by_cases ht0 : t = 0
      · subst ht0
        have B3 : zp_BASE σ (mw τ2 0 25 0) i u fr vs := zp_BASE_of B2 (fun k hk => zp_mw_k (by omega)) (zp_mw_j (by omega)) (zp_mw_j (by omega)) (zp_mw_j (by omega))
        have hE3 : zp_cE σ (mw τ2 0 25 0) := by
          obtain ⟨E0, E1, E2, E3, E4, E5, E6⟩ := hE
          refine ⟨?_, ?_, ?_, ?_, ?_, ?_, ?_⟩
          · rw [zp_mw_j (by omega), g 0 0 (by omega) (by omega) (by omega) (by omega) (by omega)]; exact E0
          · rw [zp_mw_k (by omega), gk' 1 (by omega) (by omega) (by omega) (by omega) (by omega)]; exact E1
          · rw [zp_mw_k (by omega), gk' 2 (by omega) (by omega) (by omega) (by omega) (by omega)]; exact E2
          · rw [zp_mw_k (by omega), gk' 3 (by omega) (by omega) (by omega) (by omega) (by omega)]; exact E3
          · rw [zp_mw_k (by omega), gk' 4 (by omega) (by omega) (by omega) (by omega) (by omega)]; exact E4
          · rw [zp_mw_k (by omega), gk' 5 (by omega) (by omega) (by omega) (by omega) (by omega)]; exact E5
          · rw [zp_mw_k (by omega), gk' 6 (by omega) (by omega) (by omega) (by omega) (by omega)]; exact E6
        obtain ⟨σ', τ', eC, eP, hMR, k1, k2, k3⟩ := hgo rfl (mw τ2 0 25 0) B3 hE3
        have hb : zp_oo σ a = 8 ∨ zp_oo σ a = 10 → ∃ v, fn_Mo_below (mw τ2 0 25 0) 0 = some (v, mw τ2 0 25 0) := fun q => by
          have hp' : ∃ w, zp_popok [w] (zp_dgs vs) = true := by
            rcases q with q | q <;> rw [q] at hp
            · exact ⟨1, hp⟩
            · exact ⟨2, hp⟩
          obtain ⟨w, hp'⟩ := hp'
          obtain ⟨ws, p, rfl, hw, h6, hp2, ok0, hp0, hp4, hpr⟩ := zp_pop_cons b8 hp'
          exact ⟨p.2, (zp_mf_b0 B3.1 h6 hp0).2⟩
        have ePerf := zp_m_perf (τ := mw τ2 0 25 0) (z := σ 3 a) ho ha hi8 (by rw [hE3.2.1]; exact eo) (by rw [hE3.2.2.1]) B3.1.2.2.2.2.2.2.2.2.1 hb
        refine ⟨0, σ', τ', by omega, ?_, ?_, ?_, ?_, zp_Rl_mach H k1 (fun k h1 h2 => by rw [k2 k h1 (by omega), zp_mw_k (by omega)]; exact gk' k (by omega) (by omega) (by omega) (by omega) (by omega)) ?_ ?_ hMR⟩
        · unfold fn_Ma_doInstruction fn_Ma_top
          rw [a3, zp_q_top hi8, zp_q_nat (show i < 2 ^ 31 by omega), if_neg hi1, zp_bd_some, eTrap, zp_bd_some, if_pos rfl, b4, hop, zp_bd_some]
          unfold fn_Co_numberAt
          rw [b4, zp_q_nat (show a < 2 ^ 31 by omega), if_neg hi2, zp_bd_some, b4]
          simp only [nm]
          rw [zp_c_jmp, zp_bd_some]
          unfold zp_doC at eC
          cases hj : zp_jmp (zp_oo σ a) with
          | false =>
            rw [hj, if_neg (by decide)] at eC
            rw [if_pos (show (if false = true then (1 : Int32) else 0) = 0 by decide), eC, zp_bv_some]
          | true =>
            rw [hj, if_pos rfl] at eC
            rw [if_neg (show ¬ (if true = true then (1 : Int32) else 0) = 0 by decide), eC, zp_bv_some]
        · rw [eS]
          unfold fn_Mo_stepOnce_63
          simp only [nm, zp_mw_at]
          rw [show nI 0 = (0 : Int32) from rfl, if_pos rfl, ePerf, eP, zp_bv_some]
          simp
        · rw [k3 25 (by omega) (by omega) (by omega), zp_mw_at]; rfl
        · rw [k3 26 (by omega) (by omega) (by omega), zp_mw_j (by omega)]; exact g 0 26 (by omega) (by omega) (by omega) (by omega) (by omega)
        · rw [k3 0 (by omega) (by omega) (by omega), zp_mw_j (by omega)]; exact g 0 0 (by omega) (by omega) (by omega) (by omega) (by omega)
        · rw [k3 7 (by omega) (by omega) (by omega), zp_mw_j (by omega)]; exact g 0 7 (by omega) (by omega) (by omega) (by omega) (by omega)
      · exact bad t τ2 (by omega) ht5 (fun k h1 h2 => gk' k (by omega) (by omega) (by omega) (by omega) (by omega)) (g 0 0 (by omega) (by omega) (by omega) (by omega) (by omega)) (g 0 7 (by omega) (by omega) (by omega) (by omega) (by omega)) (g 0 22 (by omega) (by omega) (by omega) (by omega) (by omega)) (g 0 24 (by omega) (by omega) (by omega) (by omega) (by omega)) (g 0 26 (by omega) (by omega) (by omega) (by omega) (by omega)) (gk' 16 (by omega) (by omega) (by omega) (by omega) (by omega)) eTrap eS
end
end

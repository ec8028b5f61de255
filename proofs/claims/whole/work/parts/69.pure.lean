/-! the functions alone, 19 -/
noncomputable section
section
variable {κ : mm_M} {r : Nat}
theorem zp_FrM_w {τ : mm_M} {k j : Nat} {v : Int32} (h : k = 7 ∨ k = 8 ∨ k = 9 ∨ k = 10 ∨ (k = 0 ∧ j = 11)) : zp_FrM τ (mw τ k j v) := fun k' j' h7 h8 h9 h10 h0 => zp_mw_kj (by omega)
theorem zp_m_goOn {τ : mm_M} {a : Nat} {F : zp_FF} (hC : zp_wC κ) (hE : zp_cE κ τ) (hr : r < 4) (ha : a < 100) (hF : zp_wF κ F) (H : zp_RepM τ r F) (K : mm_M → Option (Int32 × mm_M)) : ∃ τ', (bd (fn_Mo_fits τ (nI r) (nI a)) (fun r28 σ27 =>
    (if r28 = 0 then
    (if r28 = 0 then K σ27 else
    (if (σ27 0 15) < 0 then K σ27 else
    (bv (fn_Mo_meet σ27 (nI r) (σ27 0 15)) (fun σ32 => K σ32))))
    else
    (if (σ27 0 14) = 0 then
    (if r28 = 0 then K σ27 else
    (if (σ27 0 15) < 0 then K σ27 else
    (bv (fn_Mo_meet σ27 (nI r) (σ27 0 15)) (fun σ36 => K σ36))))
    else
    (bv (fn_Mo_meet σ27 (nI r) (nI a + (1 : Int32))) (fun σ37 =>
    (if r28 = 0 then K σ37 else
    (if (σ37 0 15) < 0 then K σ37 else
    (bv (fn_Mo_meet σ37 (nI r) (σ37 0 15)) (fun σ40 => K σ40))))))))) = K τ') ∧ zp_RepM τ' r (zp_agoOn κ r a F) ∧ zp_FrM τ τ' := by
  have hFo : ∀ a, zp_okA (F.1 a) := fun a d hd => hF.1 a d hd
  obtain ⟨τ1, e1, f1, k1, h1⟩ := zp_m_fits hC hE hr ha hFo H
  generalize hx : zp_fitv κ r a (F.1 a) = x at e1
  have H1 : zp_RepM τ1 r F := zp_RepM_of H (k1 7 (by omega)) (k1 8 (by omega)) (k1 9 (by omega))
  rw [e1]
  simp only [bd]
  unfold zp_agoOn
  have none_case : x = 0 → ∃ τ', (if x = 0 then
    (if x = 0 then K τ1 else
    (if (τ1 0 15) < 0 then K τ1 else
    (bv (fn_Mo_meet τ1 (nI r) (τ1 0 15)) (fun σ32 => K σ32))))
    else
    (if (τ1 0 14) = 0 then
    (if x = 0 then K τ1 else
    (if (τ1 0 15) < 0 then K τ1 else
    (bv (fn_Mo_meet τ1 (nI r) (τ1 0 15)) (fun σ36 => K σ36))))
    else
    (bv (fn_Mo_meet τ1 (nI r) (nI a + (1 : Int32))) (fun σ37 =>
    (if x = 0 then K σ37 else
    (if (σ37 0 15) < 0 then K σ37 else
    (bv (fn_Mo_meet σ37 (nI r) (σ37 0 15)) (fun σ40 => K σ40)))))))) = K τ' ∧ zp_RepM τ' r F ∧ zp_FrM τ τ' := fun hx => by
    rw [if_pos hx, if_pos hx]
    exact ⟨τ1, rfl, H1, f1⟩
  cases hs : F.1 a with
  | none => rw [hs] at hx; exact none_case hx.symm
  | some s =>
    cases s with
    | none => rw [hs] at hx; exact none_case hx.symm
    | some ds =>
      rw [hs] at hx
      unfold zp_fitv at hx
      simp only at hx ⊢
      have hw := hF.1 a ds hs
      cases ht : zp_tr κ r a ds with
      | none => rw [ht] at hx; exact none_case hx.symm
      | some d =>
        rw [ht] at hx
        have hx0 : ¬ x = 0 := by rw [← hx]; show ¬ zp_bw true = 0; decide
        obtain ⟨g1, g2, g3, g4⟩ := h1 ds d hs ht
        obtain ⟨wd, hk, ho, hb, hj, -⟩ := zp_tr_ok hC hw ht
        simp only [if_neg hx0]
        have step2 : ∀ (σ : mm_M) (F2 : zp_FF), zp_wF κ F2 → zp_RepM σ r F2 → σ 0 11 = nI (d.length - 6) → zp_rwo (σ 10) d → σ 0 15 = zp_tOf (zp_oo κ a) (κ 3 a) → zp_FrM τ σ → ∃ τ', (if (σ 0 15) < 0 then K σ else (bv (fn_Mo_meet σ (nI r) (σ 0 15)) (fun σ40 => K σ40))) = K τ' ∧ zp_RepM τ' r (if zp_jmp (zp_oo κ a) = true then zp_aput F2 (κ 3 a).toNatClampNeg d else F2) ∧ zp_FrM τ τ' := by
          intro σ F2 hF2 HR s11 s10 s15 fr
          rw [s15]
          unfold zp_tOf
          by_cases hjm : zp_jmp (zp_oo κ a) = true
          · obtain ⟨n, hn, e, hlt⟩ := zp_isA_n hC (hj hjm)
            simp only [hjm, if_true]
            rw [e, if_neg (zp_q_nn (by omega)), zp_q_nat (by omega)]
            obtain ⟨τ', e2, H2, k2⟩ := zp_m_meet (a := n) hr hn (fun a d hd => hF2.1 a d hd) wd s11 s10 HR
            rw [e2]
            exact ⟨τ', rfl, H2, zp_FrM_tr fr (zp_FrM_of k2)⟩
          · rw [if_neg hjm, if_neg hjm, if_pos (by decide)]
            exact ⟨σ, rfl, HR, fr⟩
        by_cases q : op_behind (zp_oo κ a) = 0
        · have g0 : τ1 0 14 = 0 := by rw [g3]; unfold zp_gOf; rw [if_pos q]
          rw [if_pos g0]
          simp only [q, if_true]
          exact step2 τ1 F hF H1 g1 g2 g4 f1
        · have g0 : ¬ τ1 0 14 = 0 := by rw [g3]; unfold zp_gOf; rw [if_neg q]; decide
          rw [if_neg g0]
          simp only [q, if_false]
          have hA := hb q
          rw [zp_q_succ] at hA ⊢
          obtain ⟨n, hn2, e, hlt⟩ := zp_isA_n hC hA
          have e' : a + 1 = n := (zp_q_eq (by omega) (by omega)).mp e
          obtain ⟨τ2, e2, H2, k2⟩ := zp_m_meet (a := a + 1) hr (by omega) hFo wd g1 g2 H1
          rw [e2]
          simp only [bv]
          have e0 : τ2 0 = τ1 0 := k2 0 (by omega) (by omega) (by omega)
          exact step2 τ2 _ (zp_aput_wF hF (by rw [e']; exact hlt) wd) H2 (by rw [e0]; exact g1) (by rw [k2 10 (by omega) (by omega) (by omega)]; exact g2) (by rw [e0]; exact g4) (zp_FrM_tr f1 (zp_FrM_of k2))
theorem zp_m_run (hC : zp_wC κ) (hr : r < 4) (f : Nat) : ∀ (n i : Nat) (τ : mm_M) (F : zp_FF), 101 * n + 101 - i < f → i ≤ (κ 1 0).toNatClampNeg → zp_cE κ τ → zp_wF κ F → zp_ph F ≤ n → (∀ j, j < i → F.2 j = false) → zp_RepM τ r F → ∃ τ', fn_Mo_work_122 (nI r) f τ (nI i) = fn_Mo_work_215 (nI r) fuel0 τ' 0 ∧ zp_RepM τ' r (zp_arun κ r n F) ∧ zp_FrM τ τ' := by
  obtain ⟨⟨N, hN, eN⟩, -⟩ := id hC
  have eN2 : (κ 1 0).toNatClampNeg = N := by rw [eN, zp_q_nat (by omega)]
  induction f with
  | zero => intro n i τ F hf; omega
  | succ f ih =>
    intro n i τ F hf hi hE hF hp hlow H
    unfold fn_Mo_work_122
    rw [hE.1, eN]
    by_cases hiN : i = N
    · rw [if_pos ((zp_q_le (by omega) (by omega)).mpr (by omega))]
      refine ⟨τ, rfl, ?_, zp_FrM_refl⟩
      have hl : zp_least F.2 = none := by
        cases hq : zp_least F.2 with
        | none => rfl
        | some x =>
          obtain ⟨h1, h2, -⟩ := zp_least_some hq
          have := hF.2.1 x h2
          rw [hlow x (by omega)] at h2; cases h2
      cases n with
      | zero => exact H
      | succ n => unfold zp_arun; rw [hl]; exact H
    · have e1 : (100 : Int32) * nI r + nI i = nI (100 * r + i) := by rw [show (100 : Int32) = nI 100 from rfl, zp_q_mul, zp_q_add]
      have hs : 100 * r + i < 400 := by omega
      have hin : ¬ (nI (100 * r + i) < 0 ∨ 400 ≤ 100 * r + i) := fun q => q.elim (zp_q_nn (by omega)) (by omega)
      rw [if_neg (fun q => by have := (zp_q_le (by omega) (by omega)).mp q; omega), e1, zp_q_nat (show 100 * r + i < 2 ^ 31 by omega), if_neg hin, H.2.2 i (by omega)]
      cases hw : F.2 i with
      | false =>
        rw [if_pos (show zp_bw false = 0 from rfl), zp_q_succ]
        exact ih n (i + 1) τ F (by omega) (by omega) hE hF hp (fun j hj => by
          rcases Nat.lt_or_ge j i with q | q
          · exact hlow j q
          · rw [show j = i by omega]; exact hw) H
      | true =>
        rw [if_neg (show ¬ zp_bw true = 0 by decide)]
        simp only [nm, if_neg hin]
        have hl : zp_least F.2 = some i := by
          cases hq : zp_least F.2 with
          | none => rw [zp_least_none hq i (by omega)] at hw; cases hw
          | some x =>
            obtain ⟨h1, h2, h3⟩ := zp_least_some hq
            rcases Nat.lt_trichotomy x i with q | q | q
            · rw [hlow x q] at h2; cases h2
            · rw [q]
            · rw [h3 i q] at hw; cases hw
        obtain ⟨hF1, hp1⟩ := zp_take_ok hF (show i < 100 by omega) hw
        have H1 : zp_RepM (mw τ 9 (100 * r + i) 0) r (F.1, zp_fu F.2 i false) := by
          refine ⟨fun b hb => ?_, fun b hb d hd k hk => ?_, fun b hb => ?_⟩
          · rw [zp_mw_k (by omega)]; exact H.1 b hb
          · rw [zp_mw_k (by omega)]; exact H.2.1 b hb d hd k hk
          · by_cases q : b = i
            · subst q; rw [zp_mw_at]; simp only [zp_fu_at]; rfl
            · rw [zp_mw_j (by omega)]; simp only [zp_fu_ne q]; exact H.2.2 b hb
        have f1 : zp_FrM τ (mw τ 9 (100 * r + i) 0) := zp_FrM_w (by omega)
        obtain ⟨τ2, e2, H2, f2⟩ := zp_m_goOn (a := i) hC (zp_FrM_cE f1 hE) hr (by omega) hF1 H1 (fun σ => fn_Mo_work_122 (nI r) f σ 0)
        obtain ⟨hF2, hp2⟩ := zp_agoOn_ok (r := r) hC hF1 (show i < 100 by omega)
        cases n with
        | zero =>
          have := zp_ph0 (F := F) (by omega)
          rw [this] at hl; cases hl
        | succ n =>
          have f3 := zp_FrM_tr f1 f2
          obtain ⟨τ3, e3, H3, f4⟩ := ih n 0 τ2 _ (by omega) (by omega) (zp_FrM_cE f3 hE) hF2 (by omega) (fun j hj => by omega) H2
          refine ⟨τ3, e2.trans e3, ?_, zp_FrM_tr f3 f4⟩
          unfold zp_arun
          rw [hl]
          exact H3
theorem zp_m_scan {S : Nat → zp_AS} {W : Nat → Bool} (hC : zp_wC κ) (hr : r < 4) (hS : ∀ a, zp_okA (S a)) : ∀ (m f i : Nat) (τ : mm_M), (κ 1 0).toNatClampNeg - i = m → i ≤ (κ 1 0).toNatClampNeg → m < f → zp_cE κ τ → zp_RepM τ r (S, W) → ∃ τ', fn_Mo_work_215 (nI r) f τ (nI i) = some (zp_scan (zp_unf κ r S) m i, τ') ∧ zp_RepM τ' r (S, W) ∧ zp_FrM τ τ' := by
  obtain ⟨⟨N, hN, eN⟩, -⟩ := id hC
  have eN2 : (κ 1 0).toNatClampNeg = N := by rw [eN, zp_q_nat (by omega)]
  intro m
  induction m with
  | zero =>
    intro f i τ hm hi hf hE H
    obtain ⟨f', rfl⟩ : ∃ f', f = f' + 1 := ⟨f - 1, by omega⟩
    unfold fn_Mo_work_215
    rw [hE.1, eN, if_pos ((zp_q_le (by omega) (by omega)).mpr (by omega))]
    exact ⟨τ, rfl, H, zp_FrM_refl⟩
  | succ m ih =>
    intro f i τ hm hi hf hE H
    obtain ⟨f', rfl⟩ : ∃ f', f = f' + 1 := ⟨f - 1, by omega⟩
    have e1 : (100 : Int32) * nI r + nI i = nI (100 * r + i) := by rw [show (100 : Int32) = nI 100 from rfl, zp_q_mul, zp_q_add]
    have hs : 100 * r + i < 400 := by omega
    have hin : ¬ (nI (100 * r + i) < 0 ∨ 400 ≤ 100 * r + i) := fun q => q.elim (zp_q_nn (by omega)) (by omega)
    unfold fn_Mo_work_215 zp_scan
    rw [hE.1, eN, if_neg (fun q => by have := (zp_q_le (by omega) (by omega)).mp q; omega), e1, zp_q_nat (show 100 * r + i < 2 ^ 31 by omega), if_neg hin]
    have h7 := H.1 i (by omega)
    cases hs1 : S i with
    | none =>
      have h7' : τ 7 (100 * r + i) = -1 := by rw [h7]; show zp_hgt (S i) = -1; rw [hs1]; rfl
      have hu : zp_unf κ r S i = false := by unfold zp_unf; rw [hs1]
      rw [h7', if_pos rfl, zp_q_succ, hu]
      exact ih f' (i + 1) τ (by omega) (by omega) (by omega) hE H
    | some s =>
      have hne : ¬ τ 7 (100 * r + i) = -1 := by
        rw [h7]
        show ¬ zp_hgt (S i) = -1
        rw [hs1]
        cases s with
        | none => decide
        | some ds => exact zp_nI_ne (by have := (hS i ds hs1).2; omega) _ (by decide)
      rw [if_neg hne]
      obtain ⟨τ1, e2, f1, k1, -⟩ := zp_m_fits (F := (S, W)) hC hE hr (show i < 100 by omega) hS H
      have H1 : zp_RepM τ1 r (S, W) := zp_RepM_of H (k1 7 (by omega)) (k1 8 (by omega)) (k1 9 (by omega))
      have ev : zp_fitv κ r i (S i) = zp_bw (!zp_unf κ r S i) := by
        unfold zp_unf zp_fitv
        rw [hs1]
        cases s with
        | none => rfl
        | some ds => simp
      simp only at e2
      rw [ev] at e2
      rw [e2]
      simp only [bd]
      cases hu : zp_unf κ r S i with
      | true => exact ⟨τ1, rfl, H1, f1⟩
      | false =>
        rw [if_neg (show ¬ zp_bw (!false) = 0 by decide), zp_q_succ]
        obtain ⟨τ2, e3, H2, f2⟩ := ih f' (i + 1) τ1 (by omega) (by omega) (by omega) (zp_FrM_cE f1 hE) H1
        exact ⟨τ2, e3, H2, zp_FrM_tr f1 f2⟩
end
end

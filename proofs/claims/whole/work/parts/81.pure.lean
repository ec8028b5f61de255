/-! the functions alone, 31 -/
noncomputable section
def zp_tailC (σ : mm_M) (i0 r5 : Nat) : Option (Nat × mm_M) :=
    (if ((nI r5) < 0 ∨ 20 ≤ (nI r5).toNatClampNeg) then none else
    (if (sw_op (nI r5).toNatClampNeg) = (5 : Int32) then
    (if (8 : Int32) ≤ (σ 16 0) then
    (some (5, σ))
    else
    (some (0, σ)))
    else
    (if (sw_op (nI r5).toNatClampNeg) = (7 : Int32) then
    (bd (fn_Fr_below σ i0 (0 : Int32)) (fun r12 σ11 =>
    (if r12 = 0 then
    (some (2, σ11))
    else
    (some (0, σ11)))))
    else
    (if (sw_op (nI r5).toNatClampNeg) = (8 : Int32) then
    (bd (fn_Fr_below σ i0 (1 : Int32)) (fun r16 σ15 =>
    (bd (fn_Fr_below σ15 i0 (0 : Int32)) (fun r18 σ17 =>
    (bd (fn_Ma_elementTrap σ17 r16 r18) (fun r20 σ19 =>
    (some (r20, σ19))))))))
    else
    (if (sw_op (nI r5).toNatClampNeg) = (9 : Int32) then
    (bd (fn_Fr_below σ i0 (2 : Int32)) (fun r24 σ23 =>
    (bd (fn_Fr_below σ23 i0 (1 : Int32)) (fun r26 σ25 =>
    (bd (fn_Ma_elementTrap σ25 r24 r26) (fun r28 σ27 =>
    (some (r28, σ27))))))))
    else
    (if (sw_op (nI r5).toNatClampNeg) = (10 : Int32) then
    (bd (fn_Fr_below σ i0 (0 : Int32)) (fun r32 σ31 =>
    (if r32 = 0 then
    (some (3, σ31))
    else
    (some (0, σ31)))))
    else
    (if (sw_op (nI r5).toNatClampNeg) = (11 : Int32) then
    (bd (fn_Fr_below σ i0 (0 : Int32)) (fun r36 σ35 =>
    (bd (fn_Ma_canMake σ35 r36) (fun r38 σ37 =>
    (if r38 = 0 then
    (some (5, σ37))
    else
    (some (0, σ37)))))))
    else
    (some (0, σ)))))))))
def zp_doC (σ : mm_M) (i o : Nat) (y z : Int32) : Option mm_M := if zp_jmp o = true then fn_Ma_jump (mw σ (19 + 2 * i) 1 y) i o z else fn_Ma_act (mw σ (19 + 2 * i) 1 y) i o z
def zp_doM (τ : mm_M) (i o : Nat) (y z : Int32) : Option mm_M :=
  if o = 7 then zp_pfT o z (mw τ 12 i z) else if o = 8 ∨ o = 10 then bd (fn_Mo_below τ 0) (fun r x => if r = 0 then zp_pfT o z (mw x 12 i z) else zp_pfT o z (mw x 12 i y)) else zp_pfT o z (mw τ 12 i y)
def zp_BASE (σ τ : mm_M) (i u : Nat) (fr : Nat → Nat × Int32 × zp_VL) (vs : zp_VL) : Prop := zp_TOP σ τ i u vs ∧ σ 16 2 = τ 0 24 ∧ (∀ j, j < i + 1 → zp_FR σ τ u j (fr j)) ∧ ∀ j, j + 1 < i + 1 → (fr j).2.2.length ≤ 11
def zp_NX (σ τ σ' τ' : mm_M) : Prop := zp_MR σ' τ' ∧ (∀ k, k < 16 → σ' k = σ k) ∧ (∀ k, 1 ≤ k → k < 11 → τ' k = τ k) ∧ ∀ j, j ≠ 16 → j ≠ 22 → j ≠ 24 → τ' 0 j = τ 0 j
section
variable {σ τ : mm_M} {i u : Nat} {vs ws : zp_VL} {y z : Int32} {fr : Nat → Nat × Int32 × zp_VL}
theorem zp_NX_PO {σ' τ' : mm_M} {vs' : zp_VL} {z1 : Int32} (B : zp_BASE σ τ i u fr vs) (P : zp_PO (mw σ (19 + 2 * i) 1 z1) (mw τ 12 i z1) σ' τ' i u vs') : zp_NX σ τ σ' τ' := by
  obtain ⟨H, h2, hfr, hlen⟩ := B
  refine ⟨zp_MR_PO H h2 hfr hlen P, fun k hk => ?_, fun k h1 h2 => ?_, fun j h1 h2 h3 => ?_⟩
  · obtain ⟨u', p1, p2, p3, p4, p5, p6, p7, p8, p9, p10⟩ := P
    funext j
    rw [p9 k j (by omega) (by omega) (by omega) (by omega), zp_mw_k (by omega)]
  · obtain ⟨u', p1, p2, p3, p4, p5, p6, p7, p8, p9, p10⟩ := P
    funext j
    rw [p10 k j (by omega) (by omega) (by omega) (by omega), zp_mw_k (by omega)]
  · obtain ⟨u', p1, p2, p3, p4, p5, p6, p7, p8, p9, p10⟩ := P
    rw [p10 0 j (by omega) (by omega) (by omega) (by omega), zp_mw_k (by omega)]
theorem zp_do_act {o : Nat} (ho : zp_jmp o = false) (h7 : o ≠ 7 ∧ o ≠ 8 ∧ o ≠ 10) (B : zp_BASE σ τ i u fr vs) (h : ∃ σ' τ' vs', fn_Ma_act (mw σ (19 + 2 * i) 1 y) i o z = some σ' ∧ zp_pfT o z (mw τ 12 i y) = some τ' ∧ zp_PO (mw σ (19 + 2 * i) 1 y) (mw τ 12 i y) σ' τ' i u vs') : ∃ σ' τ', zp_doC σ i o y z = some σ' ∧ zp_doM τ i o y z = some τ' ∧ zp_NX σ τ σ' τ' := by
  obtain ⟨σ', τ', vs', e1, e2, P⟩ := h
  refine ⟨σ', τ', ?_, ?_, zp_NX_PO B P⟩
  · unfold zp_doC
    rw [ho, if_neg (by decide)]; exact e1
  · unfold zp_doM
    rw [if_neg h7.1, if_neg (by omega)]; exact e2
theorem zp_mf_b0 {p : Nat × Int32} (H : zp_TOP σ τ i u (ws ++ [p])) (h6 : 6 ≤ ws.length) (hp : p.1 ≠ 0) : fn_Fr_below σ i 0 = some (p.2, σ) ∧ fn_Mo_below τ 0 = some (p.2, τ) := by
  obtain ⟨a1, a2, a3, a4, a5, a6, a7, a8, a9, a10⟩ := H
  have hl := zp_okv_len a8
  have h1 := zp_cf_below (d := 0) a6 a8.1 (by simp; omega) (by rw [zp_gk_1]; exact hp)
  have h2 := zp_mf_below (d := 0) a7 a1 a9 hl.2 (by simp; omega) (by rw [zp_gk_1]; exact hp)
  rw [zp_gk_1] at h1 h2
  exact ⟨h1, h2⟩
theorem zp_mf_b1 {q p : Nat × Int32} (H : zp_TOP σ τ i u (ws ++ [q] ++ [p])) (h6 : 6 ≤ ws.length) (hq : q.1 ≠ 0) : fn_Fr_below σ i 1 = some (q.2, σ) ∧ fn_Mo_below τ 1 = some (q.2, τ) := by
  obtain ⟨a1, a2, a3, a4, a5, a6, a7, a8, a9, a10⟩ := H
  have hl := zp_okv_len a8
  have h1 := zp_cf_below (d := 1) a6 a8.1 (by simp; omega) (by rw [zp_gk_2]; exact hq)
  have h2 := zp_mf_below (d := 1) a7 a1 a9 hl.2 (by simp; omega) (by rw [zp_gk_2]; exact hq)
  rw [zp_gk_2] at h1 h2
  exact ⟨h1, h2⟩
theorem zp_mf_b2 {w q p : Nat × Int32} (H : zp_TOP σ τ i u (ws ++ [w] ++ [q] ++ [p])) (h6 : 6 ≤ ws.length) (hw : w.1 ≠ 0) : fn_Fr_below σ i 2 = some (w.2, σ) ∧ fn_Mo_below τ 2 = some (w.2, τ) := by
  obtain ⟨a1, a2, a3, a4, a5, a6, a7, a8, a9, a10⟩ := H
  have hl := zp_okv_len a8
  have h1 := zp_cf_below (d := 2) a6 a8.1 (by simp; omega) (by rw [zp_gk_3]; exact hw)
  have h2 := zp_mf_below (d := 2) a7 a1 a9 hl.2 (by simp; omega) (by rw [zp_gk_3]; exact hw)
  rw [zp_gk_3] at h1 h2
  exact ⟨h1, h2⟩
def zp_STEP (σ τ : mm_M) (i u : Nat) (fr : Nat → Nat × Int32 × zp_VL) (vs : zp_VL) (o : Nat) (y z : Int32) : Prop := ∃ t, t ≤ 5 ∧ zp_tailC σ i o = some (t, σ) ∧ fn_Mo_trapOf τ (nI o) z = some (nI t, τ) ∧ (t = 0 → ∀ τ2, zp_BASE σ τ2 i u fr vs → zp_cE σ τ2 → ∃ σ' τ', zp_doC σ i o y z = some σ' ∧ zp_doM τ2 i o y z = some τ' ∧ zp_NX σ τ2 σ' τ')
theorem zp_ST_plain {o : Nat} (ho : o = 0 ∨ o = 1 ∨ o = 2 ∨ o = 3 ∨ o = 5 ∨ o = 6 ∨ o = 7 ∨ o = 8 ∨ o = 9 ∨ o = 10 ∨ o = 15 ∨ o = 16 ∨ o = 17 ∨ o = 19) (h : ∀ τ2, zp_BASE σ τ2 i u fr vs → zp_cE σ τ2 → ∃ σ' τ', zp_doC σ i o y z = some σ' ∧ zp_doM τ2 i o y z = some τ' ∧ zp_NX σ τ2 σ' τ') : zp_STEP σ τ i u fr vs o y z := by
  refine ⟨0, by omega, ?_, ?_, fun _ => h⟩
  · unfold zp_tailC
    rcases ho with rfl | rfl | rfl | rfl | rfl | rfl | rfl | rfl | rfl | rfl | rfl | rfl | rfl | rfl <;> simp +decide only [if_false]
  · unfold fn_Mo_trapOf
    rcases ho with rfl | rfl | rfl | rfl | rfl | rfl | rfl | rfl | rfl | rfl | rfl | rfl | rfl | rfl <;> (simp +decide only [if_false]; rfl)
theorem zp_et_ok {v k : Int32} (hr : zp_okr u v) (hu : u ≤ 30) : ∃ t, t ≤ 5 ∧ (∀ σ, fn_Ma_elementTrap σ v k = some (t, σ)) ∧ (∀ τ, fn_Mo_trapAt τ v k = some (nI t, τ)) ∧ (t = 0 → ∃ e n m, n ≤ 12 ∧ e + n ≤ u ∧ v = nI (1 + 16 * e + n) ∧ m < n ∧ k = nI m) := by
  unfold fn_Ma_elementTrap fn_Mo_trapAt
  by_cases h0 : v = 0
  · exact ⟨3, by omega, fun σ => by rw [if_pos h0], fun τ => by rw [if_pos h0]; rfl, fun q => by cases q⟩
  · by_cases hk : k < 0
    · exact ⟨4, by omega, fun σ => by rw [if_neg h0, if_pos hk], fun τ => by rw [if_neg h0, if_pos hk]; rfl, fun q => by cases q⟩
    · obtain ⟨e, n, hn, hen, ev⟩ := hr.resolve_left h0
      obtain ⟨m, hm, rfl⟩ := zp_q_of hk
      obtain ⟨r1, r2, r3, r4⟩ := zp_r_len hn (show e ≤ 30 by omega)
      rw [← ev] at r1 r2
      have hB : ∀ τ, fn_Mo_lengthOf τ v = some (nI n, τ) := fun τ => by
        unfold fn_Mo_lengthOf
        rw [if_neg (by decide), r2]
      have hA : ∀ σ, fn_Ma_lengthOf σ v = some (nI n, σ) := fun σ => by unfold fn_Ma_lengthOf; rw [r1]
      by_cases hlt : m < n
      · refine ⟨0, by omega, fun σ => ?_, fun τ => ?_, fun _ => ⟨e, n, m, hn, hen, ev, hlt, rfl⟩⟩
        · rw [if_neg h0, if_neg hk, hA, zp_bd_some, if_neg (fun q => by have := (zp_q_le (by omega) hm).mp q; omega)]
        · rw [if_neg h0, if_neg hk, hB, zp_bd_some, if_pos ((zp_q_lt hm (by omega)).mpr hlt)]; rfl
      · refine ⟨4, by omega, fun σ => ?_, fun τ => ?_, fun q => by cases q⟩
        · rw [if_neg h0, if_neg hk, hA, zp_bd_some, if_pos ((zp_q_le (by omega) hm).mpr (by omega))]
        · rw [if_neg h0, if_neg hk, hB, zp_bd_some, if_neg (fun q => hlt ((zp_q_lt hm (by omega)).mp q))]; rfl
end
end

/-! the functions alone, 13 -/
noncomputable section
theorem zp_mw_at {σ : mm_M} {k j : Nat} {v : Int32} : mw σ k j v k j = v := by simp [mw, va_up, upd]
theorem zp_mw_j {σ : mm_M} {k j j' : Nat} {v : Int32} (h : j' ≠ j) : mw σ k j v k j' = σ k j' := by simp [mw, va_up, upd, h]
theorem zp_mw_k {σ : mm_M} {k k' j : Nat} {v : Int32} (h : k' ≠ k) : mw σ k j v k' = σ k' := by funext x; simp [mw, va_up, h]
theorem zp_mw_kj {σ : mm_M} {k k' j j' : Nat} {v : Int32} (h : ¬ (k' = k ∧ j' = j)) : mw σ k j v k' j' = σ k' j' := by
  by_cases q : k' = k
  · subst q; exact zp_mw_j (fun q2 => h ⟨rfl, q2⟩)
  · rw [zp_mw_k q]
theorem zp_pkd_lt {ds : List Nat} (h : zp_wS 12 ds) : zp_pkd ds < 2 ^ 29 := zp_pk_lt (by have := h.2; omega) h.1 (by have := h.2; omega)
theorem zp_pkd_inj {x y : List Nat} (hx : zp_wS 12 x) (hy : zp_wS 12 y) (h : zp_pkd x = zp_pkd y) : x = y := by
  have h1 := hx.2
  have h2 := hy.2
  unfold zp_pkd zp_pk at h
  have hl : x.length = y.length := by omega
  have hd : zp_dg x = zp_dg y := by omega
  apply zp_ext_getD hl
  intro i _
  rw [← zp_dg_div i x hx.1, ← zp_dg_div i y hy.1, hd]
def zp_cod (σ : mm_M) : mm_M := fun k j => if 1 ≤ k ∧ k ≤ 7 then σ k j else 0
def zp_enc : zp_AS → Int32
  | none => -1
  | some none => -2
  | some (some ds) => nI (zp_pkd ds)
def zp_okA (s : zp_AS) : Prop := ∀ d, s = some (some d) → zp_wS 12 d
theorem zp_enc_inj {x y : zp_AS} (hx : zp_okA x) (hy : zp_okA y) (h : zp_enc x = zp_enc y) : x = y := by
  have ne1 : ∀ d, zp_okA (some (some d)) → ¬ nI (zp_pkd d) = -1 := fun d hd => zp_nI_ne (by have := zp_pkd_lt (hd d rfl); omega) _ (by decide)
  have ne2 : ∀ d, zp_okA (some (some d)) → ¬ nI (zp_pkd d) = -2 := fun d hd => zp_nI_ne (by have := zp_pkd_lt (hd d rfl); omega) _ (by decide)
  match x, y with
  | none, none => rfl
  | some none, some none => rfl
  | none, some none => exact absurd h (by decide)
  | some none, none => exact absurd h (by decide)
  | none, some (some d) => exact absurd h.symm (ne1 d hy)
  | some (some d), none => exact absurd h (ne1 d hx)
  | some none, some (some d) => exact absurd h.symm (ne2 d hy)
  | some (some d), some none => exact absurd h (ne2 d hx)
  | some (some d), some (some e) =>
    have w1 := hx d rfl
    have w2 := hy e rfl
    have := zp_pkd_lt w1
    have := zp_pkd_lt w2
    rw [zp_pkd_inj w1 w2 ((zp_q_eq (by omega) (by omega)).mp h)]
def zp_FrC (r : Nat) (σ σ' : mm_M) : Prop := ∀ k j, k ≠ 11 + r → k ≠ 15 → k ≠ 8 → ¬ (k = 9 ∧ j = r) → σ' k j = σ k j
def zp_RepC (σ : mm_M) (r : Nat) (F : zp_FF) : Prop := (∀ a, a < 100 → σ (11 + r) a = zp_enc (F.1 a)) ∧ (∀ a, a < 100 → σ 15 a = if F.2 a = true then 1 else 0) ∧ ∃ w, w ≤ 100 ∧ σ 8 4 = nI w ∧ ∀ a, a < w → F.2 a = false
theorem zp_FrC_refl {r : Nat} {σ : mm_M} : zp_FrC r σ σ := fun _ _ _ _ _ _ => rfl
theorem zp_FrC_tr {r : Nat} {σ σ' σ'' : mm_M} (h : zp_FrC r σ σ') (h2 : zp_FrC r σ' σ'') : zp_FrC r σ σ'' := fun k j a b c d => (h2 k j a b c d).trans (h k j a b c d)
theorem zp_FrC_cod {r : Nat} {σ σ' : mm_M} (h : zp_FrC r σ σ') : zp_cod σ' = zp_cod σ := by
  funext k j
  unfold zp_cod
  by_cases q : 1 ≤ k ∧ k ≤ 7
  · rw [if_pos q, if_pos q]; exact h k j (by omega) (by omega) (by omega) (by omega)
  · rw [if_neg q, if_neg q]
theorem zp_mi_nI {x y : Nat} (hx : x < 2 ^ 31) (hy : y < 2 ^ 31) : mi_n (nI x) (nI y) = nI (min x y) := by
  unfold mi_n
  by_cases h : y < x
  · rw [if_pos ((zp_q_lt hy hx).mpr h)]; congr 1; omega
  · rw [if_neg (fun q => h ((zp_q_lt hy hx).mp q))]; congr 1; omega
section
variable {σ : mm_M} {r a : Nat} {F : zp_FF} {ds : List Nat}
theorem zp_c_met {s : zp_AS} (hs : zp_okA s) (h : zp_wS 12 ds) : fn_Ty_met σ (zp_enc s) (nI (zp_pkd ds)) = some (zp_enc (zp_amet s ds), σ) := by
  match s with
  | none => rfl
  | some none => rfl
  | some (some d0) =>
    show fn_Ty_met σ (nI (zp_pkd d0)) (nI (zp_pkd ds)) = _
    rw [zp_s_met (hs d0 rfl) h]
    unfold zp_amet
    by_cases q : d0.length = ds.length
    · simp only [q, if_true]; rfl
    · simp only [q, if_false]; rfl
theorem zp_c_meet (hr : r < 4) (ha : a < 100) (hF : ∀ a, zp_okA (F.1 a)) (h : zp_wS 12 ds) (H : zp_RepC σ r F) : ∃ σ', fn_Fl_meet σ (nI r) (nI a) (nI (zp_pkd ds)) = some σ' ∧ zp_RepC σ' r (zp_aput F a ds) ∧ zp_FrC r σ σ' := by
  have hi1 : ¬ (nI r < 0 ∨ 4 ≤ r) := fun q => q.elim (zp_q_nn (by omega)) (by omega)
  have hi2 : ¬ (nI a < 0 ∨ 100 ≤ a) := fun q => q.elim (zp_q_nn (by omega)) (by omega)
  unfold fn_Fl_meet
  rw [zp_q_nat (show r < 2 ^ 31 by omega), zp_q_nat (show a < 2 ^ 31 by omega), if_neg hi1, if_neg hi2, H.1 a ha, zp_c_met (hF a) h]
  simp only [bd]
  rw [if_neg hi1, if_neg hi2, H.1 a ha]
  unfold zp_aput
  by_cases q : zp_amet (F.1 a) ds = F.1 a
  · rw [if_pos (by rw [q]), if_pos q]
    exact ⟨σ, rfl, H, zp_FrC_refl⟩
  · rw [if_neg (fun q2 => q (zp_enc_inj (zp_amet_w (hF a) h) (hF a) q2)), if_neg q]
    simp only [nm, if_neg hi1, if_neg hi2]
    obtain ⟨w, hw, e, hlow⟩ := H.2.2
    refine ⟨_, rfl, ⟨fun b hb => ?_, fun b hb => ?_, ⟨min w a, by omega, ?_, fun b hb => ?_⟩⟩, fun k j h1 h2 h3 h4 => ?_⟩
    · rw [zp_mw_k (by omega), zp_mw_k (by omega)]
      by_cases q2 : b = a
      · subst q2; rw [zp_mw_at]; simp only [zp_fu_at]
      · rw [zp_mw_j q2]; simp only [zp_fu_ne q2]; exact H.1 b hb
    · rw [zp_mw_k (by omega)]
      by_cases q2 : b = a
      · subst q2; rw [zp_mw_at]; simp only [zp_fu_at, if_true]
      · rw [zp_mw_j q2, zp_mw_k (by omega)]; simp only [zp_fu_ne q2]; exact H.2.1 b hb
    · rw [zp_mw_at, zp_mw_k (by omega), zp_mw_k (by omega), e, zp_mi_nI (by omega) (by omega)]
    · simp only
      rw [zp_fu_ne (by omega)]; exact hlow b (by omega)
    · rw [zp_mw_k h3, zp_mw_k h2, zp_mw_k h1]
theorem zp_c_take5 (H2 : ∀ a, a < 100 → σ 15 a = if F.2 a = true then 1 else 0) : ∀ (m f i : Nat), 100 - i = m → i ≤ 100 → m < f → (∀ j, j < i → F.2 j = false) → fn_Fl_takeLeastWaiting_5 f σ (nI i) = match zp_least F.2 with
    | none => some (-1, mw σ 8 4 100)
    | some x => some (nI x, mw (mw σ 15 x 0) 8 4 (nI (x + 1)))
  | 0, f + 1, i, hm, hi, hf, hlow => by
    have e : i = 100 := by omega
    subst e
    unfold fn_Fl_takeLeastWaiting_5
    rw [if_pos (by decide)]
    cases hq : zp_least F.2 with
    | none => rfl
    | some x =>
      obtain ⟨h1, h2, -⟩ := zp_least_some hq
      rw [hlow x h1] at h2; cases h2
  | m + 1, f + 1, i, hm, hi, hf, hlow => by
    have hin : ¬ (nI i < 0 ∨ 100 ≤ i) := fun q => q.elim (zp_q_nn (by omega)) (by omega)
    unfold fn_Fl_takeLeastWaiting_5
    rw [if_neg (show ¬ (100 : Int32) ≤ nI i from fun q => by have := (zp_q_le (a := 100) (by decide) (by omega)).mp q; omega), zp_q_nat (by omega), if_neg hin, H2 i (by omega)]
    cases hw : F.2 i with
    | false =>
      rw [if_pos (show (if false = true then (1 : Int32) else 0) = 0 by decide), zp_q_succ]
      exact zp_c_take5 H2 m f (i + 1) (by omega) (by omega) (by omega) (fun j hj => by
        rcases Nat.lt_or_ge j i with q | q
        · exact hlow j q
        · rw [show j = i by omega]; exact hw)
    | true =>
      rw [if_neg (show ¬ (if true = true then (1 : Int32) else 0) = 0 by decide), if_neg hin]
      simp only [nm]
      have hl : zp_least F.2 = some i := by
        cases hq : zp_least F.2 with
        | none => rw [zp_least_none hq i (by omega)] at hw; cases hw
        | some x =>
          obtain ⟨h1, h2, h3⟩ := zp_least_some hq
          rcases Nat.lt_trichotomy x i with q | q | q
          · rw [hlow x q] at h2; cases h2
          · rw [q]
          · rw [h3 i q] at hw; cases hw
      rw [hl, zp_q_succ]
theorem zp_c_takeLeast (hr : r < 4) (H : zp_RepC σ r F) : (zp_least F.2 = none → ∃ σ', fn_Fl_takeLeastWaiting σ = some (-1, σ') ∧ zp_RepC σ' r F ∧ zp_FrC r σ σ') ∧ ∀ x, zp_least F.2 = some x → ∃ σ', fn_Fl_takeLeastWaiting σ = some (nI x, σ') ∧ zp_RepC σ' r (F.1, zp_fu F.2 x false) ∧ zp_FrC r σ σ' := by
  obtain ⟨w, hw, e, hlow⟩ := H.2.2
  have key := zp_c_take5 (σ := σ) H.2.1 (100 - w) fuel0 w rfl hw (by unfold fuel0; omega) hlow
  unfold fn_Fl_takeLeastWaiting
  simp only [nm]
  rw [e]
  refine ⟨fun hq => ?_, fun x hq => ?_⟩
  · rw [hq] at key
    refine ⟨_, key, ⟨fun b hb => ?_, fun b hb => ?_, 100, by omega, ?_, fun b hb => zp_least_none hq b hb⟩, fun k j h1 h2 h3 h4 => ?_⟩
    · rw [zp_mw_k (by omega)]; exact H.1 b hb
    · rw [zp_mw_k (by omega)]; exact H.2.1 b hb
    · rw [zp_mw_at]; rfl
    · rw [zp_mw_k h3]
  · rw [hq] at key
    obtain ⟨h1, h2, h3⟩ := zp_least_some hq
    refine ⟨_, key, ⟨fun b hb => ?_, fun b hb => ?_, x + 1, by omega, ?_, fun b hb => ?_⟩, fun k j h1 h2 h3 h4 => ?_⟩
    · rw [zp_mw_k (by omega), zp_mw_k (by omega)]; exact H.1 b hb
    · rw [zp_mw_k (by omega)]
      by_cases q : b = x
      · subst q; rw [zp_mw_at]; simp only [zp_fu_at]; rfl
      · rw [zp_mw_j q]; simp only [zp_fu_ne q]; exact H.2.1 b hb
    · rw [zp_mw_at]
    · by_cases q : b = x
      · subst q; exact zp_fu_at
      · show zp_fu F.2 x false b = false
        rw [zp_fu_ne q]; exact h3 b (by omega)
    · rw [zp_mw_k h3, zp_mw_k h2]
end
end

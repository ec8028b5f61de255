/-! the functions alone, 4 -/
noncomputable section
def zp_m1 (x y : Nat) : Nat := if x = y then x else 3
def zp_md (a b : List Nat) : List Nat := List.zipWith zp_m1 a b
theorem zp_md_len {a b : List Nat} (h : a.length = b.length) : (zp_md a b).length = a.length := by simp [zp_md, h]
theorem zp_md_get {a b : List Nat} (h : a.length = b.length) (i : Nat) (hi : i < a.length) : (zp_md a b).getD i 0 = zp_m1 (a.getD i 0) (b.getD i 0) := by
  have hi2 : i < b.length := by omega
  simp [zp_md, List.getD_eq_getElem?_getD, List.getElem?_zipWith, hi, hi2]
theorem zp_md_4 {a b : List Nat} (ha : zp_d4 a) : zp_d4 (zp_md a b) := by
  intro x hx
  obtain ⟨i, hi⟩ := List.getElem?_of_mem hx
  rw [zp_md, List.getElem?_zipWith] at hi
  cases e1 : a[i]? with
  | none => simp [e1] at hi
  | some y =>
    cases e2 : b[i]? with
    | none => simp [e1, e2] at hi
    | some z =>
      simp [e1, e2] at hi
      have := ha y (List.mem_of_getElem? e1)
      unfold zp_m1 at hi
      split at hi <;> omega
theorem zp_ext_getD {a b : List Nat} (h : a.length = b.length) (hg : ∀ i, i < a.length → a.getD i 0 = b.getD i 0) : a = b := by
  apply List.ext_getElem h
  intro i h1 h2
  have := hg i h1
  simpa [List.getD_eq_getElem?_getD, h1, h2] using this
theorem zp_set_getD {ds : List Nat} {k v i : Nat} (hk : k < ds.length) : (ds.set k v).getD i 0 = if i = k then v else ds.getD i 0 := by
  simp only [List.getD_eq_getElem?_getD, List.getElem?_set]
  by_cases h : k = i
  · subst h; simp [hk]
  · have h' : ¬ i = k := fun q => h q.symm
    simp [h, h']
theorem zp_getD_out {ds : List Nat} {i : Nat} (h : ds.length ≤ i) : ds.getD i 0 = 0 := by
  simp [List.getD_eq_getElem?_getD, h]
theorem zp_nI_ne {n : Nat} (h : n < 2 ^ 31) (z : Int32) (hz : z < 0) : ¬ nI n = z := fun q => zp_q_nn h (q ▸ hz)
section
variable {σ : mm_M}
theorem zp_s_with {ds : List Nat} {k v : Nat} (h : zp_wS 13 ds) (hk : k < ds.length) (hv : v < 4) : fn_Ty_with σ (nI (zp_pkd ds)) (nI k) (nI v) = some (nI (zp_pkd (ds.set k v)), σ) := by
  have h2 := h.2
  unfold zp_pkd
  rw [zp_t_with (by omega) h.1 h2.2 (by omega) hv, zp_ps_len _ _ _ hk, List.length_set]
theorem zp_s_met_31 {d0 d1 : List Nat} (h0 : zp_wS 12 d0) (h1 : zp_wS 12 d1) (hl : d0.length = d1.length) : ∀ (m f j : Nat) (E : List Nat), 12 - j = m → m < f → j ≤ 12 → E.length = d0.length → zp_d4 E → (∀ i, i < j → i < E.length → E.getD i 0 = zp_m1 (d0.getD i 0) (d1.getD i 0)) → (∀ i, j ≤ i → E.getD i 0 = d0.getD i 0) → fn_Ty_met_31 (nI (zp_pkd d0)) (nI (zp_pkd d1)) f σ (nI (zp_pkd E)) (nI j) = some (nI (zp_pkd (zp_md d0 d1)), σ)
  | 0, f + 1, j, E, hm, hf, hj, hE, h4, ha, hb => by
    unfold fn_Ty_met_31
    rw [show (12 : Int32) = nI 12 from rfl, if_pos ((zp_q_le (by omega) (by omega)).mpr (by omega))]
    have e : E = zp_md d0 d1 := by
      apply zp_ext_getD (by rw [zp_md_len hl, hE])
      intro i hi
      have := h0.2
      rw [ha i (by omega) hi, zp_md_get hl i (by omega)]
    rw [e]
  | m + 1, f + 1, j, E, hm, hf, hj, hE, h4, ha, hb => by
    unfold fn_Ty_met_31
    rw [show (12 : Int32) = nI 12 from rfl, if_neg (fun q => by have := (zp_q_le (by omega) (by omega)).mp q; omega)]
    have w0 : zp_wS 13 d0 := ⟨h0.1, h0.2.1, by have := h0.2.2; omega⟩
    have w1 : zp_wS 13 d1 := ⟨h1.1, h1.2.1, by have := h1.2.2; omega⟩
    have wE : zp_wS 13 E := ⟨h4, by rw [hE]; exact h0.2.1, by rw [hE]; have := h0.2.2; omega⟩
    rw [zp_s_at w0 (by omega)]
    simp only [bd]
    rw [zp_s_at w1 (by omega)]
    simp only [bd]
    have l0 := zp_d4_get h0.1 j
    have l1 := zp_d4_get h1.1 j
    by_cases hq : d0.getD j 0 = d1.getD j 0
    · rw [if_pos (by rw [hq]), show (1 : Int32) = nI 1 from rfl, zp_q_add]
      refine zp_s_met_31 h0 h1 hl m f (j + 1) E (by omega) (by omega) (by omega) hE h4 (fun i hi hl2 => ?_) (fun i hi => hb i (by omega))
      by_cases hij : i = j
      · subst hij
        rw [hb i (Nat.le_refl _)]
        unfold zp_m1
        rw [if_pos hq]
      · exact ha i (by omega) hl2
    · rw [if_neg (fun q => hq ((zp_q_eq (by omega) (by omega)).mp q))]
      have hjl : j < E.length := by
        rcases Nat.lt_or_ge j E.length with h | h
        · exact h
        · exact absurd (by rw [zp_getD_out (by omega), zp_getD_out (by omega)]) hq
      rw [show (3 : Int32) = nI 3 from rfl, zp_s_with wE hjl (by decide)]
      simp only [bd]
      rw [show (1 : Int32) = nI 1 from rfl, zp_q_add]
      refine zp_s_met_31 h0 h1 hl m f (j + 1) (E.set j 3) (by omega) (by omega) (by omega) (by rw [List.length_set, hE]) (fun x hx => ?_) (fun i hi hl2 => ?_) (fun i hi => ?_)
      · rcases List.mem_or_eq_of_mem_set hx with h | h
        · exact h4 x h
        · omega
      · rw [List.length_set] at hl2
        rw [zp_set_getD hjl]
        by_cases hij : i = j
        · rw [if_pos hij]
          subst hij
          unfold zp_m1
          rw [if_neg hq]
        · rw [if_neg hij]
          exact ha i (by omega) hl2
      · rw [zp_set_getD hjl, if_neg (by omega)]
        exact hb i (by omega)
theorem zp_s_met {d0 d1 : List Nat} (h0 : zp_wS 12 d0) (h1 : zp_wS 12 d1) : fn_Ty_met σ (nI (zp_pkd d0)) (nI (zp_pkd d1)) = some (if d0.length = d1.length then nI (zp_pkd (zp_md d0 d1)) else -2, σ) := by
  have w0 : zp_wS 13 d0 := ⟨h0.1, h0.2.1, by have := h0.2.2; omega⟩
  have w1 : zp_wS 13 d1 := ⟨h1.1, h1.2.1, by have := h1.2.2; omega⟩
  have p0 : zp_pkd d0 < 2 ^ 29 := zp_pk_lt (by have := h0.2; omega) h0.1 (by have := h0.2; omega)
  unfold fn_Ty_met
  rw [if_neg (zp_nI_ne (by omega) _ (by decide)), if_neg (zp_nI_ne (by omega) _ (by decide)), zp_s_height w0]
  simp only [bd]
  rw [zp_s_height w1]
  simp only [bd]
  have hA := h0.2
  have hB := h1.2
  by_cases hl : d0.length = d1.length
  · rw [if_pos (by rw [hl]), if_pos hl]
    exact zp_s_met_31 h0 h1 hl 12 fuel0 0 d0 rfl (by unfold fuel0; omega) (by omega) rfl h0.1 (fun i hi => by omega) (fun i _ => rfl)
  · rw [if_neg (fun q => hl (by have := (zp_q_eq (by omega) (by omega)).mp q; omega)), if_neg hl]
end
end

/-! the functions alone, 7 -/
noncomputable section
def zp_sc (τ : mm_M) (h b g t : Int32) (row : Nat → Int32) : mm_M := fun k j => if k = 0 then (if j = 11 then h else if j = 13 then b else if j = 14 then g else if j = 15 then t else τ 0 j) else if k = 10 then row j else τ k j
section
variable {τ : mm_M} {h b g t v : Int32} {row : Nat → Int32} {j : Nat}
theorem zp_mw_h : mw (zp_sc τ h b g t row) 0 11 v = zp_sc τ v b g t row := by
  funext k j; unfold mw va_up upd zp_sc
  by_cases q : k = 0 <;> simp [q]
  by_cases q2 : j = 11 <;> simp [q2]
theorem zp_mw_b : mw (zp_sc τ h b g t row) 0 13 v = zp_sc τ h v g t row := by
  funext k j; unfold mw va_up upd zp_sc
  by_cases q : k = 0 <;> simp [q]
  by_cases q2 : j = 11
  · simp [q2]
  · by_cases q3 : j = 13 <;> simp [q2, q3]
theorem zp_mw_g : mw (zp_sc τ h b g t row) 0 14 v = zp_sc τ h b v t row := by
  funext k j; unfold mw va_up upd zp_sc
  by_cases q : k = 0 <;> simp [q]
  by_cases q2 : j = 11
  · simp [q2]
  · by_cases q3 : j = 13
    · simp [q3]
    · by_cases q4 : j = 14 <;> simp [q2, q3, q4]
theorem zp_mw_t : mw (zp_sc τ h b g t row) 0 15 v = zp_sc τ h b g v row := by
  funext k j; unfold mw va_up upd zp_sc
  by_cases q : k = 0 <;> simp [q]
  by_cases q2 : j = 11
  · simp [q2]
  · by_cases q3 : j = 13
    · simp [q3]
    · by_cases q4 : j = 14
      · simp [q4]
      · by_cases q5 : j = 15 <;> simp [q2, q3, q4, q5]
theorem zp_mw_r : mw (zp_sc τ h b g t row) 10 j v = zp_sc τ h b g t (upd row j v) := by
  funext k i; unfold mw va_up upd zp_sc
  by_cases q : k = 0
  · simp [q]
  · by_cases q2 : k = 10 <;> simp [q2, q]
theorem zp_sc_h : zp_sc τ h b g t row 0 11 = h := rfl
theorem zp_sc_b : zp_sc τ h b g t row 0 13 = b := rfl
theorem zp_sc_g : zp_sc τ h b g t row 0 14 = g := rfl
theorem zp_sc_t : zp_sc τ h b g t row 0 15 = t := rfl
theorem zp_sc_r : zp_sc τ h b g t row 10 j = row j := rfl
theorem zp_sc_self : zp_sc τ (τ 0 11) (τ 0 13) (τ 0 14) (τ 0 15) (τ 10) = τ := by
  funext k j; unfold zp_sc
  by_cases q : k = 0
  · subst q
    by_cases q2 : j = 11
    · simp [q2]
    · by_cases q3 : j = 13
      · simp [q3]
      · by_cases q4 : j = 14
        · simp [q4]
        · by_cases q5 : j = 15 <;> simp [q2, q3, q4, q5]
  · by_cases q2 : k = 10 <;> simp [q, q2]
theorem zp_sc_sc {h' b' g' t' : Int32} {row' : Nat → Int32} : zp_sc (zp_sc τ h' b' g' t' row') h b g t row = zp_sc τ h b g t row := by
  funext k j; unfold zp_sc
  by_cases q : k = 0
  · subst q
    by_cases q2 : j = 11
    · simp [q2]
    · by_cases q3 : j = 13
      · simp [q3]
      · by_cases q4 : j = 14
        · simp [q4]
        · by_cases q5 : j = 15 <;> simp [q2, q3, q4, q5]
  · by_cases q2 : k = 10 <;> simp [q, q2]
end
def zp_b2 (b : Bool) : Int32 := if b then 0 else 1
def zp_rwo (row : Nat → Int32) (ds : List Nat) : Prop := ∀ i, i < ds.length → row i = nI (ds.getD i 0)
def zp_RS (τ' τ : mm_M) (g t : Int32) (p : List Nat × Bool) : Prop := ∃ row, τ' = zp_sc τ (nI (p.1.length - 6)) (zp_b2 p.2) g t row ∧ zp_rwo row p.1
def zp_tk (v : Nat) (p : List Nat × Bool) : Nat × List Nat × Bool :=
  if p.1.length = 6 then (3, p.1, false) else (p.1.getD (p.1.length - 1) 0, p.1.take (p.1.length - 1), p.2 && (decide (v = 3) || decide (v = p.1.getD (p.1.length - 1) 0)))
def zp_gv (v : Nat) (p : List Nat × Bool) : List Nat × Bool := if p.1.length = 12 then (p.1, false) else (p.1 ++ [v], p.2)
theorem zp_take_getD {ds : List Nat} {n i : Nat} (h : i < n) : (ds.take n).getD i 0 = ds.getD i 0 := by
  simp [List.getD_eq_getElem?_getD, h]
theorem zp_app_getD {ds : List Nat} {v i : Nat} (h : i < ds.length) : (ds ++ [v]).getD i 0 = ds.getD i 0 := by
  simp only [List.getD_eq_getElem?_getD, List.getElem?_append_left h]
theorem zp_app_getD_end {ds : List Nat} {v : Nat} : (ds ++ [v]).getD ds.length 0 = v := by
  simp [List.getD_eq_getElem?_getD]
section
variable {τ τ' : mm_M} {g t : Int32} {p : List Nat × Bool} {v : Nat}
theorem zp_tk_w (h : zp_wS 12 p.1) : zp_wS 12 (zp_tk v p).2.1 ∧ (zp_tk v p).1 < 4 := by
  unfold zp_tk
  split
  · exact ⟨h, by show 3 < 4; decide⟩
  · have h2 := h.2
    exact ⟨⟨zp_d4_take h.1 _, by simp; omega, by simp; omega⟩, zp_d4_get h.1 _⟩
theorem zp_gv_w (h : zp_wS 12 p.1) (hv : v < 4) : zp_wS 12 (zp_gv v p).1 := by
  unfold zp_gv
  split
  · exact h
  · have h2 := h.2
    exact ⟨zp_d4_app h.1 (zp_d4_one hv), by simp; omega, by simp; omega⟩
theorem zp_m_give (hw : zp_wS 12 p.1) (H : zp_RS τ' τ g t p) : ∃ τ'', fn_Mo_give τ' (nI v) = some τ'' ∧ zp_RS τ'' τ g t (zp_gv v p) := by
  obtain ⟨row, rfl, hr⟩ := H
  have h2 := hw.2
  unfold fn_Mo_give zp_gv
  rw [zp_sc_h]
  by_cases hl : p.1.length = 12
  · rw [if_pos (show nI (p.1.length - 6) = 6 by rw [hl]; rfl), if_pos hl]
    simp only [nm, zp_mw_b]
    exact ⟨_, rfl, row, rfl, hr⟩
  · rw [if_neg (fun q => hl (by have := (zp_q_eq (b := 6) (by omega) (by decide)).mp q; omega)), if_neg hl, show (6 : Int32) = nI 6 from rfl, zp_q_add, show 6 + (p.1.length - 6) = p.1.length by omega, if_neg (zp_q_in (by omega) (by omega)), zp_q_nat (by omega)]
    simp only [nm, zp_mw_r, zp_mw_h, zp_sc_h]
    refine ⟨_, rfl, upd row p.1.length (nI v), ?_, ?_⟩
    · rw [zp_q_succ]
      simp only [List.length_append, List.length_cons, List.length_nil]
      rw [show p.1.length + (0 + 1) - 6 = p.1.length - 6 + 1 by omega]
    · intro i hi
      simp only [List.length_append, List.length_cons, List.length_nil] at hi
      unfold upd
      by_cases q : i = p.1.length
      · rw [if_pos q, q, zp_app_getD_end]
      · rw [if_neg q, zp_app_getD (by omega)]
        exact hr i (by omega)
theorem zp_m_take58 {row : Nat → Int32} {h : Nat} {b0 b : Int32} {a0 : Int32} (hh : h < 6) (hb : b = 0 ∨ b = 1) : fn_Mo_take_58 a0 (zp_sc τ (nI h) b0 g t row) b = some (row (6 + h), zp_sc τ (nI h) b g t row) := by
  unfold fn_Mo_take_58
  rw [if_pos hb]
  simp only [nm, zp_mw_b, zp_sc_h]
  rw [show (6 : Int32) = nI 6 from rfl, zp_q_add, if_neg (zp_q_in (by omega) (by omega)), zp_q_nat (by omega), zp_sc_r]
theorem zp_m_take (hw : zp_wS 12 p.1) (hv : v < 4) (H : zp_RS τ' τ g t p) : ∃ τ'', fn_Mo_take τ' (nI v) = some (nI (zp_tk v p).1, τ'') ∧ zp_RS τ'' τ g t (zp_tk v p).2 := by
  obtain ⟨row, rfl, hr⟩ := H
  have h2 := hw.2
  unfold fn_Mo_take zp_tk
  rw [zp_sc_h]
  by_cases hl : p.1.length = 6
  · rw [if_pos (show nI (p.1.length - 6) = 0 by rw [hl]; rfl), if_pos hl]
    simp only [nm, zp_mw_b]
    exact ⟨_, rfl, row, rfl, hr⟩
  · have e1 : nI (p.1.length - 6) - (1 : Int32) = nI (p.1.length - 7) := by
      rw [show (1 : Int32) = nI 1 from rfl, zp_q_sub (by omega)]; congr 1
    rw [if_neg (fun q => hl (by have := (zp_q_eq (b := 0) (by omega) (by decide)).mp q; omega)), if_neg hl, e1]
    simp only [nm, zp_mw_h, zp_sc_h, zp_sc_b, zp_sc_r]
    rw [show (6 : Int32) + nI (p.1.length - 7) = nI (p.1.length - 1) by rw [show (6 : Int32) = nI 6 from rfl, zp_q_add]; congr 1; omega, if_neg (zp_q_in (by omega) (by omega)), zp_q_nat (by omega)]
    have hlast := hr (p.1.length - 1) (by omega)
    have l4 := zp_d4_get hw.1 (p.1.length - 1)
    have t0 : ∀ b0 a0 (b : Int32), (b = 0 ∨ b = 1) → fn_Mo_take_58 a0 (zp_sc τ (nI (p.1.length - 7)) b0 g t row) b = some (nI (p.1.getD (p.1.length - 1) 0), zp_sc τ (nI (p.1.length - 7)) b g t row) := fun b0 a0 b hb => by
      rw [zp_m_take58 (by omega) hb, show 6 + (p.1.length - 7) = p.1.length - 1 by omega, hlast]
    have zp_fin : ∀ ok : Bool, zp_RS (zp_sc τ (nI (p.1.length - 7)) (zp_b2 ok) g t row) τ g t (p.1.take (p.1.length - 1), ok) := fun ok => by
      refine ⟨row, ?_, fun i hi => ?_⟩
      · simp only [List.length_take]
        rw [show min (p.1.length - 1) p.1.length - 6 = p.1.length - 7 by omega]
      · simp only [List.length_take] at hi ⊢
        rw [zp_take_getD (by omega)]
        exact hr i (by omega)
    rw [hlast]
    unfold fn_Mo_take_57 fn_Mo_take_53
    cases hp : p.2 with
    | false =>
      rw [if_neg (show ¬ zp_b2 false = 0 by decide), t0 _ _ 1 (Or.inr rfl)]
      exact ⟨_, rfl, zp_fin false⟩
    | true =>
      rw [if_pos (show zp_b2 true = 0 by decide)]
      by_cases h3 : v = 3
      · rw [if_pos (show nI v = 3 by rw [h3]; rfl), t0 _ _ 0 (Or.inl rfl)]
        simp only [h3, decide_true, Bool.true_or, Bool.and_true]
        exact ⟨_, rfl, zp_fin true⟩
      · rw [if_neg (show ¬ nI v = (3 : Int32) from fun q => h3 ((zp_q_eq (b := 3) (by omega) (by decide)).mp q))]
        by_cases h4 : v = p.1.getD (p.1.length - 1) 0
        · rw [if_pos (by rw [← h4]), t0 _ _ 0 (Or.inl rfl)]
          have e : (decide (v = p.1.getD (p.1.length - 1) 0)) = true := decide_eq_true h4
          simp only [e, Bool.or_true, Bool.and_true]
          exact ⟨_, rfl, zp_fin true⟩
        · rw [if_neg (fun q => h4 ((zp_q_eq (by omega) (by omega)).mp q).symm), t0 _ _ 1 (Or.inr rfl)]
          have e : (decide (v = p.1.getD (p.1.length - 1) 0)) = false := decide_eq_false h4
          have e3 : (decide (v = 3)) = false := decide_eq_false h3
          simp only [e, e3, Bool.or_false, Bool.and_false]
          exact ⟨_, rfl, zp_fin false⟩
end
end

/-! the functions alone, 11 -/
noncomputable section
def zp_gOf (o : Nat) : Int32 := if op_behind o = 0 then 0 else 1
def zp_tOf (o : Nat) (z : Int32) : Int32 := if zp_jmp o then z else -1
section
variable {κ τ τ' : mm_M} {g t : Int32} {r o a : Nat} {z : Int32} {ds : List Nat}
theorem zp_m_body (hC : zp_wC κ) (hE : zp_cE κ τ) (hr : r < 4) (ho : o < 20) (hw : zp_wS 12 ds) (H : zp_RS τ' τ g (-1) (ds, true)) : ∃ τ'' p, zp_bdy (nI r) o z τ' = some τ'' ∧ zp_RS τ'' τ g (zp_tOf o z) p ∧ zp_Yo κ r o z ds p := by
  rcases zp_o20 ho with rfl | rfl | rfl | rfl | rfl | rfl | rfl | rfl | rfl | rfl | rfl | rfl | rfl | rfl | rfl | rfl | rfl | rfl | rfl | rfl <;> simp +decide only [zp_bdy, zp_tOf, if_true, if_false]
  · exact zp_yb_0 hw H
  · exact zp_yb_1 (by decide) hw H
  · exact zp_yb_1 (by decide) hw H
  · exact zp_yb_1 (by decide) hw H
  · exact zp_yb_1 (by decide) hw H
  · exact zp_yb_5 hw H
  · exact zp_yb_6 hw H
  · exact zp_yb_7 hE hw H
  · exact zp_yb_8 hE hw H
  · exact zp_yb_9 hw H
  · exact zp_yb_10 hE hw H
  · exact zp_yb_11 hw H
  · exact zp_yb_12 hw H
  · exact zp_yb_13 hw H
  · exact zp_yb_14 hw H
  · exact zp_yb_15 hw H
  · exact zp_yb_16 hw H
  · exact zp_yb_17 hw H
  · exact zp_yb_18 hC hE hw H
  · exact zp_yb_19 hE hr hw H
theorem zp_m_pathx (ha : a < 100) (hx : τ 1 a < 0 ∨ 20 ≤ τ 1 a) : fn_Mo_tryOut τ (nI r) (nI a) = fn_Mo_tryOut_214 (nI r) (nI a) (mw (mw (mw (mw τ 0 13 0) 0 14 1) 0 15 (-1)) 0 13 1) := by
  have hin : ¬ (nI a < 0 ∨ 100 ≤ a) := fun q => q.elim (zp_q_nn (by omega)) (by omega)
  unfold fn_Mo_tryOut
  rw [if_neg (zp_q_in (by omega) ha), zp_q_nat (by omega)]
  simp only [nm]
  rw [if_neg hin]
  generalize τ 1 a = x at hx ⊢
  generalize τ 2 a = z
  have ne : ∀ y : Int32, ¬ y < 0 → ¬ 20 ≤ y → ¬ x = y := fun y h1 h2 q => by subst q; exact hx.elim h1 h2
  have n0 := ne 0 (by decide) (by decide)
  have n5 := ne 5 (by decide) (by decide)
  have n6 := ne 6 (by decide) (by decide)
  have n7 := ne 7 (by decide) (by decide)
  have n18 := ne 18 (by decide) (by decide)
  have n19 := ne 19 (by decide) (by decide)
  have e0 : (0 : Int32).toInt = 0 := by decide
  have e1 : (1 : Int32).toInt = 1 := by decide
  have e4 : (4 : Int32).toInt = 4 := by decide
  have e7 : (7 : Int32).toInt = 7 := by decide
  have e11 : (11 : Int32).toInt = 11 := by decide
  have e12 : (12 : Int32).toInt = 12 := by decide
  have e14 : (14 : Int32).toInt = 14 := by decide
  have e15 : (15 : Int32).toInt = 15 := by decide
  have e17 : (17 : Int32).toInt = 17 := by decide
  have e20 : (20 : Int32).toInt = 20 := by decide
  rw [if_neg n7, if_neg n19]
  unfold fn_Mo_tryOut_38 fn_Mo_tryOut_78 fn_Mo_tryOut_133 fn_Mo_tryOut_153 fn_Mo_tryOut_173
  simp only [nm, n0, n5, n6, n18, n19, if_false, Int32.lt_iff_toInt_lt, e1, e4, e7, e11, e12, e14, e15, e17]
  rw [Int32.lt_iff_toInt_lt, Int32.le_iff_toInt_le, e0, e20] at hx
  rw [if_pos (by decide)]
  rcases hx with q | q
  · rw [if_pos (by omega), if_pos (by omega), if_pos (by omega), if_pos (by omega)]
  · rw [if_neg (by omega), if_pos (by omega), if_neg (by omega), if_pos (by omega), if_neg (by omega), if_pos (by omega), if_neg (by omega), if_pos (by omega)]
theorem zp_m_try (hC : zp_wC κ) (hE : zp_cE κ τ) (hr : r < 4) (ha : a < 100) (hw : zp_wS 12 ds) (hh : τ 0 11 = nI (ds.length - 6)) (hrow : zp_rwo (τ 10) ds) : ∃ τ'' d2 g t, fn_Mo_tryOut τ (nI r) (nI a) = some τ'' ∧ zp_RS τ'' τ g t (d2, (zp_tr κ r a ds).isSome) ∧ zp_wS 12 d2 ∧ ((zp_tr κ r a ds).isSome = true → zp_tr κ r a ds = some d2 ∧ g = zp_gOf (zp_oo κ a) ∧ t = zp_tOf (zp_oo κ a) (κ 3 a)) := by
  have H0 : ∀ g : Int32, zp_RS (mw (mw (mw τ 0 13 0) 0 14 g) 0 15 (-1)) τ g (-1) (ds, true) := fun g => by
    refine ⟨τ 10, ?_, hrow⟩
    have e : τ = zp_sc τ (τ 0 11) (τ 0 13) (τ 0 14) (τ 0 15) (τ 10) := zp_sc_self.symm
    have e2 : mw (mw (mw τ 0 13 0) 0 14 g) 0 15 (-1) = zp_sc τ (τ 0 11) 0 g (-1) (τ 10) := by
      conv => lhs; rw [e]
      rw [zp_mw_b, zp_mw_g, zp_mw_t]
    rw [e2, hh]
    rfl
  cases hk : zp_okop κ a with
  | true =>
    have hk2 := hk
    simp only [zp_okop, Bool.and_eq_true, Bool.not_eq_true', decide_eq_false_iff_not] at hk2
    obtain ⟨n, hn, e⟩ := zp_q_bd (N := 20) (by decide) hk2.1 hk2.2
    have e2 : zp_oo κ a = n := by unfold zp_oo; rw [e, zp_q_nat (by omega)]
    rw [zp_m_path (o := n) (z := κ 3 a) hn ha (by rw [hE.2.1]; exact e) (by rw [hE.2.2.1])]
    obtain ⟨x, p, ex, Hx, wp, ky, dy⟩ := zp_m_body (z := κ 3 a) hC hE hr hn hw (H0 (if op_behind n = 0 then 0 else 1))
    rw [ex]
    simp only [bv]
    obtain ⟨y, ey, Hy⟩ := zp_m_214 (a := a) (a0 := nI r) hE Hx (by split; exact Or.inl rfl; exact Or.inr rfl)
    have hb : (decide ((if op_behind n = 0 then (0 : Int32) else 1) = 0) || zp_isA κ (nI a + 1)) = zp_bh κ a := by
      unfold zp_bh
      rw [e2]
      by_cases q : op_behind n = 0
      · simp [q]
      · simp [q]
    rw [hb] at Hy
    have etr : zp_tr κ r a ds = if (p.2 && zp_bh κ a) = true then some (zp_aft κ n (κ 3 a) ds) else none := by
      unfold zp_tr
      rw [hk, e2, ky, Bool.true_and]
      congr 2
      cases zp_bh κ a <;> simp
    have esome : (zp_tr κ r a ds).isSome = (p.2 && zp_bh κ a) := by
      rw [etr]
      cases p.2 && zp_bh κ a <;> rfl
    rw [esome]
    refine ⟨y, p.1, _, _, ey, Hy, wp, fun q => ⟨?_, ?_, ?_⟩⟩
    · rw [etr, if_pos q, dy (by rw [Bool.and_eq_true] at q; exact q.1)]
    · rw [e2]; rfl
    · rw [e2]
  | false =>
    have hx : τ 1 a < 0 ∨ (20 : Int32) ≤ τ 1 a := by
      rw [hE.2.1]
      by_cases q : κ 2 a < 0
      · exact Or.inl q
      · by_cases q2 : (20 : Int32) ≤ κ 2 a
        · exact Or.inr q2
        · simp [zp_okop, q, q2] at hk
    have e : zp_tr κ r a ds = none := by unfold zp_tr; rw [hk]; rfl
    rw [zp_m_pathx ha hx, e]
    obtain ⟨y, ey, Hy⟩ := zp_m_214 (a := a) (a0 := nI r) hE (zp_RS_bad (H0 1)) (Or.inr rfl)
    exact ⟨y, ds, _, _, ey, Hy, hw, fun q => by cases q⟩
end
end

/-! the functions alone, 5 -/
noncomputable section
theorem zp_q_of {z : Int32} (h : ¬ z < 0) : ∃ n, n < 2 ^ 31 ∧ z = nI n := by
  refine ⟨z.toInt.toNat, ?_, ?_⟩
  · have := z.toInt_lt
    have h2 : ¬ z.toInt < 0 := fun q => h (by rw [Int32.lt_iff_toInt_lt]; exact q)
    have e : (2 : Int) ^ 31 = 2147483648 := by decide
    omega
  · apply Int32.toInt_inj.mp
    have h2 : ¬ z.toInt < 0 := fun q => h (by rw [Int32.lt_iff_toInt_lt]; exact q)
    rw [zp_q_int (by have := z.toInt_lt; omega)]
    omega
theorem zp_q_succ (d : Nat) : nI d + (1 : Int32) = nI (d + 1) := zp_q_add d 1
def zp_wC (κ : mm_M) : Prop := (∃ n, n ≤ 100 ∧ κ 1 0 = nI n) ∧ ∀ r, r < 4 → (κ 4 r = 0 ∨ κ 4 r = 1) ∧ ∃ p, p ≤ 3 ∧ κ 6 r = nI p
def zp_isA (κ : mm_M) (z : Int32) : Bool := !decide (z < 0) && !decide (κ 1 0 ≤ z)
def zp_isLo (z : Int32) : Bool := !decide (z < 0) && !decide (6 ≤ z)
def zp_hasR (κ : mm_M) (z : Int32) : Bool := !decide (z < 0) && !decide (4 ≤ z) && !decide (κ 4 z.toNatClampNeg = 0)
def zp_kd (κ : mm_M) (r : Nat) (k : Int32) : Nat := if ((κ 7 r >>> (k &&& 31)) &&& 1) = 1 then 2 else 1
def zp_jmp (o : Nat) : Bool := decide (o = 7) || decide (o = 8) || decide (o = 10)
def zp_nf (κ : mm_M) (o : Nat) (z : Int32) (ds : List Nat) : Bool :=
  if o = 5 then zp_isLo z && (decide (ds.getD z.toNatClampNeg 0 = 1) || decide (ds.getD z.toNatClampNeg 0 = 2)) else if o = 6 then zp_isLo z else if o = 18 then zp_hasR κ z else if zp_jmp o then zp_isA κ z else true
def zp_wtab : List (List Nat) := [[], [1, 1], [1, 1], [1, 1], [1, 1], [], [3], [], [1], [], [2], [1], [1, 2], [1, 1, 2], [2], [3], [3, 3], [3], [], []]
def zp_wants (κ : mm_M) (r o : Nat) (z : Int32) : List Nat :=
  if o = 18 then (List.range (κ 6 z.toNatClampNeg).toNatClampNeg).map (fun d => zp_kd κ z.toNatClampNeg (nI ((κ 6 z.toNatClampNeg).toNatClampNeg - 1 - d))) else if o = 19 then [zp_kd κ r 3] else
    zp_wtab.getD o []
def zp_popok (ws ds : List Nat) : Bool := decide (ws.length + 6 ≤ ds.length) && (List.range ws.length).all (fun d => decide (ws.getD d 0 = 3) || decide (ws.getD d 0 = ds.getD (ds.length - 1 - d) 0))
section
variable {σ : mm_M} {r a o : Nat} {z : Int32} {ds : List Nat}
theorem zp_c_hasI : fn_Co_hasInstruction σ z = some (if zp_isA σ z then 1 else 0, σ) := by
  unfold fn_Co_hasInstruction zp_isA
  by_cases h1 : z < 0
  · simp [h1]
  · by_cases h2 : σ 1 0 ≤ z
    · simp [h1, h2]
    · simp [h1, h2]
theorem zp_c_isLo : fn_FV_isLocal σ z = some (if zp_isLo z then 1 else 0, σ) := by
  unfold fn_FV_isLocal zp_isLo
  by_cases h1 : z < 0
  · simp [h1]
  · by_cases h2 : (6 : Int32) ≤ z
    · simp [h1, h2]
    · simp [h1, h2]
theorem zp_q_bd {z : Int32} {N : Nat} (hN : N < 2 ^ 31) (h1 : ¬ z < 0) (h2 : ¬ nI N ≤ z) : ∃ n, n < N ∧ z = nI n := by
  obtain ⟨n, hn, rfl⟩ := zp_q_of h1
  refine ⟨n, ?_, rfl⟩
  rcases Nat.lt_or_ge n N with h | h
  · exact h
  · exact absurd ((zp_q_le hN hn).mpr h) h2
theorem zp_isLo_n (h : zp_isLo z = true) : ∃ n, n < 6 ∧ z = nI n := by
  simp only [zp_isLo, Bool.and_eq_true, Bool.not_eq_true', decide_eq_false_iff_not] at h
  exact zp_q_bd (N := 6) (by decide) h.1 h.2
theorem zp_hasR_n (h : zp_hasR σ z = true) : ∃ n, n < 4 ∧ z = nI n ∧ σ 4 n ≠ 0 := by
  simp only [zp_hasR, Bool.and_eq_true, Bool.not_eq_true', decide_eq_false_iff_not] at h
  obtain ⟨n, hn, rfl⟩ := zp_q_bd (N := 4) (by decide) h.1.1 h.1.2
  have := h.2
  rw [zp_q_nat (by omega)] at this
  exact ⟨n, hn, rfl, this⟩
theorem zp_isA_n (hC : zp_wC σ) (h : zp_isA σ z = true) : ∃ n, n < 100 ∧ z = nI n ∧ n < (σ 1 0).toNatClampNeg := by
  simp only [zp_isA, Bool.and_eq_true, Bool.not_eq_true', decide_eq_false_iff_not] at h
  obtain ⟨⟨N, hN, e⟩, -⟩ := hC
  rw [e] at h
  obtain ⟨n, hn, rfl⟩ := zp_q_bd (N := N) (by omega) h.1 h.2
  exact ⟨n, by omega, rfl, by rw [e, zp_q_nat (by omega)]; exact hn⟩
theorem zp_isA_of (hC : zp_wC σ) (h : a < (σ 1 0).toNatClampNeg) : zp_isA σ (nI a) = true := by
  obtain ⟨⟨N, hN, e⟩, -⟩ := hC
  rw [e, zp_q_nat (by omega)] at h
  simp only [zp_isA, Bool.and_eq_true, Bool.not_eq_true', decide_eq_false_iff_not, e]
  exact ⟨zp_q_nn (by omega), fun q => by have := (zp_q_le (by omega) (by omega)).mp q; omega⟩
theorem zp_cn_le (hC : zp_wC σ) : (σ 1 0).toNatClampNeg ≤ 100 := by
  obtain ⟨⟨N, hN, e⟩, -⟩ := hC
  rw [e, zp_q_nat (by omega)]; exact hN
theorem zp_c_hasR : fn_Co_hasRoutine σ z = some (if zp_hasR σ z then 1 else 0, σ) := by
  unfold fn_Co_hasRoutine zp_hasR
  by_cases h1 : z < 0
  · simp [h1]
  · by_cases h2 : (4 : Int32) ≤ z
    · simp [h1, h2]
    · obtain ⟨n, hn, rfl⟩ := zp_q_bd (N := 4) (by decide) h1 h2
      rw [if_neg h1, if_neg h2, if_neg (zp_q_in (by omega) hn)]
      by_cases h3 : σ 4 (nI n).toNatClampNeg = 0
      · simp [h3]
      · simp [h1, h2, h3]
theorem zp_c_kind {k : Int32} (hr : r < 4) : fn_Co_kindOf σ (nI r) k = some (nI (zp_kd σ r k), σ) := by
  unfold fn_Co_kindOf zp_kd
  rw [if_neg (zp_q_in (by omega) hr), zp_q_nat (by omega)]
  by_cases h : ((σ 7 r >>> (k &&& 31)) &&& 1) = 1
  · rw [if_pos h, if_pos h]; rfl
  · rw [if_neg h, if_neg h]; rfl
theorem zp_kd_lt (κ : mm_M) (r : Nat) (k : Int32) : zp_kd κ r k < 4 := by unfold zp_kd; split <;> omega
theorem zp_kd_3 (κ : mm_M) (r : Nat) (k : Int32) : zp_kd κ r k ≠ 3 := by unfold zp_kd; split <;> omega
theorem zp_o20 (ho : o < 20) : o = 0 ∨ o = 1 ∨ o = 2 ∨ o = 3 ∨ o = 4 ∨ o = 5 ∨ o = 6 ∨ o = 7 ∨ o = 8 ∨ o = 9 ∨ o = 10 ∨ o = 11 ∨ o = 12 ∨ o = 13 ∨ o = 14 ∨ o = 15 ∨ o = 16 ∨ o = 17 ∨ o = 18 ∨ o = 19 := by omega
theorem zp_c_jmp : fn_Op_jumps σ o = some (if zp_jmp o then 1 else 0, σ) := by
  unfold fn_Op_jumps zp_jmp
  by_cases h1 : o = 7
  · simp [h1]
  · by_cases h2 : o = 8
    · simp [h2]
    · by_cases h3 : o = 10
      · simp [h3]
      · simp [h1, h2, h3]
theorem zp_w12 (h : zp_wS 12 ds) : zp_wS 13 ds := ⟨h.1, h.2.1, Nat.le_succ_of_le h.2.2⟩
theorem zp_c_nf (ho : o < 20) (h : zp_wS 12 ds) : fn_Co_numberFits σ o z (nI (zp_pkd ds)) = some (if zp_nf σ o z ds then 1 else 0, σ) := by
  unfold fn_Co_numberFits
  rw [if_neg (zp_q_in (by omega) ho), zp_q_nat (by omega)]
  by_cases h5 : o = 5
  · subst h5
    rw [if_pos (by decide), zp_c_isLo]
    simp only [bd, zp_nf]
    by_cases hl : zp_isLo z = true
    · obtain ⟨n, hn, rfl⟩ := zp_isLo_n hl
      have l4 := zp_d4_get h.1 n
      simp only [hl, if_true, if_neg (show ¬ (1 : Int32) = 0 by decide), zp_s_at (zp_w12 h) (show n < 14 by omega), zp_q_nat (show n < 2 ^ 31 by omega), Bool.true_and]
      generalize ds.getD n 0 = v at l4 ⊢
      rcases (show v = 0 ∨ v = 1 ∨ v = 2 ∨ v = 3 by omega) with rfl | rfl | rfl | rfl <;> simp [show nI 0 = (0 : Int32) from rfl, show nI 1 = (1 : Int32) from rfl, show nI 2 = (2 : Int32) from rfl, show nI 3 = (3 : Int32) from rfl]
    · simp only [Bool.not_eq_true] at hl
      simp [hl]
  · by_cases h6 : o = 6
    · subst h6
      rw [if_neg (by decide), if_pos (by decide), zp_c_isLo]
      simp only [bd, zp_nf]
      cases zp_isLo z <;> simp
    · by_cases h18 : o = 18
      · subst h18
        rw [if_neg (by decide), if_neg (by decide), if_pos (by decide), zp_c_hasR]
        simp only [bd, zp_nf]
        cases zp_hasR σ z <;> simp
      · have s1 : ¬ sw_op o = 1 := by rcases zp_o20 ho with rfl | rfl | rfl | rfl | rfl | rfl | rfl | rfl | rfl | rfl | rfl | rfl | rfl | rfl | rfl | rfl | rfl | rfl | rfl | rfl <;> first | decide | exact absurd rfl h5
        have s2 : ¬ sw_op o = 2 := by rcases zp_o20 ho with rfl | rfl | rfl | rfl | rfl | rfl | rfl | rfl | rfl | rfl | rfl | rfl | rfl | rfl | rfl | rfl | rfl | rfl | rfl | rfl <;> first | decide | exact absurd rfl h6
        have s3 : ¬ sw_op o = 5 := by rcases zp_o20 ho with rfl | rfl | rfl | rfl | rfl | rfl | rfl | rfl | rfl | rfl | rfl | rfl | rfl | rfl | rfl | rfl | rfl | rfl | rfl | rfl <;> first | decide | exact absurd rfl h18
        rw [if_neg s1, if_neg s2, if_neg s3, zp_c_jmp]
        simp only [bd, zp_nf, if_neg h5, if_neg h6, if_neg h18]
        cases zp_jmp o
        · simp
        · simp only [if_true, if_neg (show ¬ (1 : Int32) = 0 by decide), zp_c_hasI]
          cases zp_isA σ z <;> simp
end
end

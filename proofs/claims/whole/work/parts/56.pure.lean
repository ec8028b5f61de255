/-! the functions alone, 6 -/
noncomputable section
def zp_oo (κ : mm_M) (a : Nat) : Nat := (κ 2 a).toNatClampNeg
def zp_okop (κ : mm_M) (a : Nat) : Bool := !decide (κ 2 a < 0) && !decide (20 ≤ κ 2 a)
def zp_bh (κ : mm_M) (a : Nat) : Bool := decide (op_behind (zp_oo κ a) = 0) || zp_isA κ (nI a + 1)
def zp_ptab : List (List Nat) := [[1], [1], [1], [1], [1], [], [], [], [], [2], [], [2], [1], [], [1], [], [], [], [], []]
def zp_puts (κ : mm_M) (o : Nat) (z : Int32) (ds : List Nat) : List Nat :=
  if o = 5 then [ds.getD z.toNatClampNeg 0] else if o = 15 then [ds.getD (ds.length - 1) 0, ds.getD (ds.length - 1) 0] else if o = 16 then [ds.getD (ds.length - 1) 0, ds.getD (ds.length - 2) 0] else if o = 18 then [zp_kd κ z.toNatClampNeg 3] else
    zp_ptab.getD o []
def zp_aft (κ : mm_M) (o : Nat) (z : Int32) (ds : List Nat) : List Nat :=
  if o = 6 then (ds.take (ds.length - 1)).set z.toNatClampNeg (ds.getD (ds.length - 1) 0) else ds.take (ds.length - (zp_wants κ 0 o z).length) ++ zp_puts κ o z ds
def zp_tr (κ : mm_M) (r a : Nat) (ds : List Nat) : Option (List Nat) :=
  if (zp_okop κ a && zp_bh κ a && zp_nf κ (zp_oo κ a) (κ 3 a) ds && zp_popok (zp_wants κ r (zp_oo κ a) (κ 3 a)) ds && decide ((zp_aft κ (zp_oo κ a) (κ 3 a) ds).length ≤ 12)) = true then some (zp_aft κ (zp_oo κ a) (κ 3 a) ds) else none
theorem zp_wants_len (κ : mm_M) (r r' o : Nat) (z : Int32) : (zp_wants κ r o z).length = (zp_wants κ r' o z).length := by
  unfold zp_wants
  by_cases h : o = 18
  · rw [if_pos h, if_pos h]
  · rw [if_neg h, if_neg h]
    by_cases h2 : o = 19
    · rw [if_pos h2, if_pos h2]; simp only [List.length_cons, List.length_nil]
    · rw [if_neg h2, if_neg h2]
theorem zp_wants_lt (κ : mm_M) (r o : Nat) (z : Int32) (d : Nat) : (zp_wants κ r o z).getD d 0 < 4 := by
  apply zp_d4_get
  intro x hx
  unfold zp_wants at hx
  split at hx
  · obtain ⟨i, -, rfl⟩ := List.mem_map.mp hx
    exact zp_kd_lt _ _ _
  · split at hx
    · simp at hx; rw [hx]; exact zp_kd_lt _ _ _
    · rcases Nat.lt_or_ge o 20 with h | h
      · rcases zp_o20 h with rfl | rfl | rfl | rfl | rfl | rfl | rfl | rfl | rfl | rfl | rfl | rfl | rfl | rfl | rfl | rfl | rfl | rfl | rfl | rfl <;> simp [zp_wtab] at hx <;> omega
      · simp [zp_wtab, List.getD_eq_getElem?_getD, h] at hx
theorem zp_wants_le {κ : mm_M} (hC : zp_wC κ) {r o : Nat} {z : Int32} (h18 : o = 18 → zp_hasR κ z = true) : (zp_wants κ r o z).length ≤ 3 := by
  unfold zp_wants
  by_cases h : o = 18
  · rw [if_pos h]
    obtain ⟨n, hn, rfl, -⟩ := zp_hasR_n (h18 h)
    obtain ⟨p, hp, e⟩ := (hC.2 n hn).2
    rw [zp_q_nat (by omega), e, zp_q_nat (by omega)]
    simpa using hp
  · rw [if_neg h]
    split
    · simp
    · rcases Nat.lt_or_ge o 20 with h | h
      · rcases zp_o20 h with rfl | rfl | rfl | rfl | rfl | rfl | rfl | rfl | rfl | rfl | rfl | rfl | rfl | rfl | rfl | rfl | rfl | rfl | rfl | rfl <;> simp [zp_wtab]
      · simp [zp_wtab, List.getD_eq_getElem?_getD, h]
section
variable {σ : mm_M} {r a o : Nat} {z : Int32} {ds : List Nat}
theorem zp_c_cnt (hC : zp_wC σ) (ho : o < 20) (h18 : o = 18 → zp_hasR σ z = true) : fn_Co_takenCount σ o z = some (nI (zp_wants σ r o z).length, σ) := by
  unfold fn_Co_takenCount zp_wants
  by_cases h : o = 18
  · rw [if_pos h, if_pos h]
    obtain ⟨n, hn, rfl, -⟩ := zp_hasR_n (h18 h)
    obtain ⟨p, hp, e⟩ := (hC.2 n hn).2
    rw [if_neg (zp_q_in (by omega) hn), zp_q_nat (by omega), e, zp_q_nat (by omega)]
    simp
  · rw [if_neg h, if_neg h]
    by_cases h19 : o = 19
    · subst h19; rfl
    · rw [if_neg h19]
      rcases zp_o20 ho with rfl | rfl | rfl | rfl | rfl | rfl | rfl | rfl | rfl | rfl | rfl | rfl | rfl | rfl | rfl | rfl | rfl | rfl | rfl | rfl <;> first | rfl | exact absurd rfl h | exact absurd rfl h19
theorem zp_c_wb (hC : zp_wC σ) (hr : r < 4) (ho : o < 20) (h18 : o = 18 → zp_hasR σ z = true) {d : Nat} (hd : d < (zp_wants σ r o z).length) : fn_Co_wantedBelow σ (nI r) o z (nI d) = some (nI ((zp_wants σ r o z).getD d 0), σ) := by
  unfold fn_Co_wantedBelow
  rw [if_neg (zp_q_in (by omega) ho), zp_q_nat (by omega)]
  by_cases h : o = 18
  · rw [if_pos (by rw [h]; decide)]
    obtain ⟨n, hn, rfl, -⟩ := zp_hasR_n (h18 h)
    obtain ⟨p, hp, e⟩ := (hC.2 n hn).2
    have hdp : d < p := by
      unfold zp_wants at hd
      rw [if_pos h, zp_q_nat (by omega), e, zp_q_nat (by omega)] at hd
      simpa using hd
    rw [if_neg (zp_q_in (by omega) hn), zp_q_nat (by omega), e, show (1 : Int32) = nI 1 from rfl, zp_q_sub (by omega), zp_q_sub (by omega), zp_c_kind hn]
    simp only [bd]
    unfold zp_wants
    rw [if_pos h, zp_q_nat (by omega), e, zp_q_nat (by omega)]
    simp [List.getD_eq_getElem?_getD, hdp]
  · have s5 : ¬ sw_op o = 5 := by rcases zp_o20 ho with rfl | rfl | rfl | rfl | rfl | rfl | rfl | rfl | rfl | rfl | rfl | rfl | rfl | rfl | rfl | rfl | rfl | rfl | rfl | rfl <;> first | decide | exact absurd rfl h
    rw [if_neg s5]
    by_cases h19 : o = 19
    · subst h19
      rw [if_pos (by decide), show (3 : Int32) = nI 3 from rfl, zp_c_kind hr]
      have hd0 : d = 0 := by simp [zp_wants] at hd; exact hd
      subst hd0
      simp [bd, zp_wants]
      rfl
    · have s6 : ¬ sw_op o = 6 := by rcases zp_o20 ho with rfl | rfl | rfl | rfl | rfl | rfl | rfl | rfl | rfl | rfl | rfl | rfl | rfl | rfl | rfl | rfl | rfl | rfl | rfl | rfl <;> first | decide | exact absurd rfl h19
      rw [if_neg s6]
      have hd2 := hd
      unfold zp_wants at hd2 ⊢
      rw [if_neg h, if_neg h19] at hd2 ⊢
      have key : ∀ o, o < 20 → ∀ d, d < 3 → d < (zp_wtab.getD o []).length → ¬ ((((st_len o) - (1 : Int32)) - nI d) < 0 ∨ st_n o ≤ (((st_len o) - (1 : Int32)) - nI d).toNatClampNeg) ∧ (if st_at o (((st_len o) - (1 : Int32)) - nI d).toNatClampNeg = 105 then (1 : Int32) else if st_at o (((st_len o) - (1 : Int32)) - nI d).toNatClampNeg = 114 then 2 else 3) = nI ((zp_wtab.getD o []).getD d 0) := by decide
      have hd3 : d < 3 := by
        have := zp_wants_le (r := r) (z := z) hC (fun q => absurd q h)
        omega
      obtain ⟨k1, k2⟩ := key o ho d hd3 hd2
      unfold fn_Op_wanted
      rw [if_neg k1]
      simp only [nm]
      rw [← k2]
      by_cases q1 : st_at o (((st_len o) - (1 : Int32)) - nI d).toNatClampNeg = 105
      · rw [if_pos q1, if_pos q1]; rfl
      · rw [if_neg q1, if_neg q1]
        by_cases q2 : st_at o (((st_len o) - (1 : Int32)) - nI d).toNatClampNeg = 114
        · rw [if_pos q2, if_pos q2]; rfl
        · rw [if_neg q2, if_neg q2]; rfl
def zp_ck (ws ds : List Nat) (d : Nat) : Bool := decide (ws.getD d 0 = 3) || decide (ws.getD d 0 = ds.getD (ds.length - 1 - d) 0)
theorem zp_c_tf (h : zp_wS 12 ds) (hC : zp_wC σ) (hr : r < 4) (ho : o < 20) (h18 : o = 18 → zp_hasR σ z = true) (hl : (zp_wants σ r o z).length + 6 ≤ ds.length) : ∀ (m f d : Nat), (zp_wants σ r o z).length - d = m → m < f → d ≤ (zp_wants σ r o z).length → fn_Co_takenFits_23 (nI r) o z (nI (zp_pkd ds)) f σ (nI (zp_wants σ r o z).length) (nI d) = some (if (List.range' d m).all (zp_ck (zp_wants σ r o z) ds) then 1 else 0, σ)
  | 0, f + 1, d, hm, hf, hd => by
    have := zp_wants_le (r := r) hC h18
    unfold fn_Co_takenFits_23
    rw [if_pos ((zp_q_le (by omega) (by omega)).mpr (by omega))]
    simp
  | m + 1, f + 1, d, hm, hf, hd => by
    have h3 := zp_wants_le (r := r) hC h18
    have h2 := h.2
    unfold fn_Co_takenFits_23
    rw [if_neg (fun q => by have := (zp_q_le (by omega) (by omega)).mp q; omega), zp_c_wb hC hr ho h18 (by omega)]
    simp only [bd]
    have l4 := zp_wants_lt σ r o z d
    have e1 : (List.range' d (m + 1)).all (zp_ck (zp_wants σ r o z) ds) = (zp_ck (zp_wants σ r o z) ds d && (List.range' (d + 1) m).all (zp_ck (zp_wants σ r o z) ds)) := by
      rw [List.range'_succ]; rfl
    have ih := zp_c_tf h hC hr ho h18 hl m f (d + 1) (by omega) (by omega) (by omega)
    rw [e1]
    by_cases hq : (zp_wants σ r o z).getD d 0 = 3
    · rw [if_pos (by rw [hq]; rfl), zp_q_succ, ih]
      simp only [zp_ck, hq, decide_true, Bool.true_or, Bool.true_and]
    · rw [if_neg (show ¬ nI ((zp_wants σ r o z).getD d 0) = (3 : Int32) from fun q => hq ((zp_q_eq (b := 3) (by omega) (by decide)).mp q)), zp_s_below (zp_w12 h) (by omega)]
      have l5 := zp_d4_get h.1 (ds.length - 1 - d)
      by_cases hq2 : (zp_wants σ r o z).getD d 0 = ds.getD (ds.length - 1 - d) 0
      · simp only [if_pos (show nI ((zp_wants σ r o z).getD d 0) = nI (ds.getD (ds.length - 1 - d) 0) by rw [hq2])]
        rw [zp_q_succ, ih]
        simp only [zp_ck, hq2, decide_true, Bool.or_true, Bool.true_and]
      · simp only [if_neg (fun q => hq2 ((zp_q_eq (by omega) (by omega)).mp q))]
        have hck : zp_ck (zp_wants σ r o z) ds d = false := by unfold zp_ck; rw [decide_eq_false hq, decide_eq_false hq2]; rfl
        rw [hck]
        simp
theorem zp_c_taken (h : zp_wS 12 ds) (hC : zp_wC σ) (hr : r < 4) (ho : o < 20) (h18 : o = 18 → zp_hasR σ z = true) : fn_Co_takenFits σ (nI r) o z (nI (zp_pkd ds)) = some (if zp_popok (zp_wants σ r o z) ds then 1 else 0, σ) := by
  have h3 := zp_wants_le (r := r) hC h18
  have h2 := h.2
  unfold fn_Co_takenFits
  rw [zp_c_cnt (r := r) hC ho h18]
  simp only [bd]
  rw [zp_s_height (zp_w12 h)]
  simp only
  unfold zp_popok
  by_cases hl : (zp_wants σ r o z).length + 6 ≤ ds.length
  · rw [if_pos ((zp_q_le (by omega) (by omega)).mpr (by omega)), show (0 : Int32) = nI 0 from rfl, zp_c_tf h hC hr ho h18 hl (zp_wants σ r o z).length fuel0 0 (by omega) (by unfold fuel0; omega) (by omega), List.range_eq_range']
    simp only [hl, decide_true, Bool.true_and]
    rfl
  · rw [if_neg (fun q => by have := (zp_q_le (by omega) (by omega)).mp q; omega)]
    simp [hl]
theorem zp_tk_getD {ds : List Nat} (h : 0 < ds.length) : ds.take (ds.length - 1) ++ [ds.getD (ds.length - 1) 0] = ds := by
  obtain ⟨e, x, rfl⟩ := zp_snoc_of h
  simp
theorem zp_c_opAt (ha : a < 100) (ho : zp_okop σ a = true) : zp_oo σ a < 20 ∧ fn_Co_opAt σ (nI a) = some (zp_oo σ a, σ) := by
  simp only [zp_okop, Bool.and_eq_true, Bool.not_eq_true', decide_eq_false_iff_not] at ho
  obtain ⟨n, hn, e⟩ := zp_q_bd (N := 20) (by decide) ho.1 ho.2
  have e2 : zp_oo σ a = n := by unfold zp_oo; rw [e, zp_q_nat (by omega)]
  refine ⟨by rw [e2]; exact hn, ?_⟩
  unfold fn_Co_opAt
  rw [if_neg (zp_q_in (by omega) ha), zp_q_nat (by omega), e, if_neg (zp_q_in (by omega) hn), zp_q_nat (by omega), e2]
theorem zp_aft_ok (hC : zp_wC σ) (h : zp_wS 12 ds) (ho : o < 20) (hn : zp_nf σ o z ds = true) (hl : (zp_wants σ 0 o z).length + 6 ≤ ds.length) : zp_wS 13 (zp_aft σ o z ds) := by
  have h2 := h.2
  have t4 := zp_d4_take h.1
  unfold zp_aft
  by_cases h6 : o = 6
  · rw [if_pos h6]
    refine ⟨fun x hx => ?_, by subst h6; simp [zp_wants, zp_wtab] at hl ⊢; omega, by simp; omega⟩
    rcases List.mem_or_eq_of_mem_set hx with q | q
    · exact t4 _ x q
    · rw [q]; exact zp_d4_get h.1 _
  · rw [if_neg h6]
    have hp : zp_d4 (zp_puts σ o z ds) ∧ (zp_puts σ o z ds).length ≤ (zp_wants σ 0 o z).length + 1 := by
      unfold zp_puts
      by_cases h5 : o = 5
      · rw [if_pos h5]; exact ⟨zp_d4_one (zp_d4_get h.1 _), by simp⟩
      · rw [if_neg h5]
        by_cases h15 : o = 15
        · rw [if_pos h15]; subst h15
          exact ⟨fun x hx => by simp only [List.mem_cons, List.not_mem_nil, or_false, or_self] at hx; rw [hx]; exact zp_d4_get h.1 _, by simp [zp_wants, zp_wtab]⟩
        · rw [if_neg h15]
          by_cases h16 : o = 16
          · rw [if_pos h16]; subst h16
            exact ⟨fun x hx => by simp only [List.mem_cons, List.not_mem_nil, or_false] at hx; rcases hx with q | q <;> rw [q] <;> exact zp_d4_get h.1 _, by simp [zp_wants, zp_wtab]⟩
          · rw [if_neg h16]
            by_cases h18 : o = 18
            · rw [if_pos h18]; exact ⟨zp_d4_one (zp_kd_lt _ _ _), by simp⟩
            · rw [if_neg h18]
              rcases zp_o20 ho with rfl | rfl | rfl | rfl | rfl | rfl | rfl | rfl | rfl | rfl | rfl | rfl | rfl | rfl | rfl | rfl | rfl | rfl | rfl | rfl <;> first | exact absurd rfl h18 | exact absurd rfl h16 | exact ⟨fun x hx => by simp [zp_ptab] at hx; try omega, by simp [zp_ptab]⟩
    refine ⟨zp_d4_app (t4 _) hp.1, by simp; omega, ?_⟩
    have := hp.2
    simp; omega
theorem zp_c_after (hC : zp_wC σ) (h : zp_wS 12 ds) (ha : a < 100) (hk : zp_okop σ a = true) (hn : zp_nf σ (zp_oo σ a) (σ 3 a) ds = true) (hl : (zp_wants σ 0 (zp_oo σ a) (σ 3 a)).length + 6 ≤ ds.length) : fn_Co_after σ (nI a) (nI (zp_pkd ds)) = some (nI (zp_pkd (zp_aft σ (zp_oo σ a) (σ 3 a) ds)), σ) := by
  obtain ⟨ho, hop⟩ := zp_c_opAt ha hk
  have h18 : zp_oo σ a = 18 → zp_hasR σ (σ 3 a) = true := fun q => by rw [zp_nf, if_neg (by omega), if_neg (by omega), if_pos q] at hn; exact hn
  have h2 := h.2
  unfold fn_Co_after
  rw [hop]
  simp only [bd, nm]
  rw [if_neg (zp_q_in (by omega) ha), zp_q_nat (show a < 2 ^ 31 by omega), zp_c_cnt (r := 0) hC ho h18]
  simp only
  rw [zp_s_dropped (zp_w12 h) hl]
  simp only
  rw [if_neg (zp_q_in (by omega) ho), zp_q_nat (show zp_oo σ a < 2 ^ 31 by omega)]
  generalize zp_oo σ a = o at *
  generalize σ 3 a = z at *
  have zp_wt : zp_wS 12 (ds.take (ds.length - (zp_wants σ 0 o z).length)) := ⟨zp_d4_take h.1 _, by simp; omega, by simp; omega⟩
  by_cases h5 : o = 5
  · subst h5
    rw [zp_nf, if_pos rfl, Bool.and_eq_true] at hn
    obtain ⟨n, hn6, rfl⟩ := zp_isLo_n hn.1
    simp only [if_pos (show sw_op 5 = 1 by decide), zp_s_at (zp_w12 h) (show n < 14 by omega), zp_s_pushed zp_wt (zp_d4_get h.1 n)]
    simp [zp_aft, zp_puts, zp_q_nat (show n < 2 ^ 31 by omega)]
  · by_cases h6 : o = 6
    · subst h6
      rw [zp_nf, if_neg (by decide), if_pos rfl] at hn
      obtain ⟨n, hn6, rfl⟩ := zp_isLo_n hn
      have hl1 : (zp_wants σ 0 6 (nI n)).length = 1 := by simp [zp_wants, zp_wtab]
      rw [hl1] at hl zp_wt ⊢
      simp only [if_neg (show ¬ sw_op 6 = 1 by decide), if_pos (show sw_op 6 = 2 by decide), show (0 : Int32) = nI 0 from rfl, zp_s_below (zp_w12 h) (show 0 + 6 < ds.length by omega), zp_s_withL (zp_w12 zp_wt) hn6 (zp_d4_get h.1 _)]
      simp [zp_aft, zp_q_nat (show n < 2 ^ 31 by omega)]
    · by_cases h15 : o = 15
      · subst h15
        have hl1 : (zp_wants σ 0 15 z).length = 1 := by simp [zp_wants, zp_wtab]
        rw [hl1] at hl zp_wt ⊢
        simp only [if_neg (show ¬ sw_op 15 = 1 by decide), if_neg (show ¬ sw_op 15 = 2 by decide), if_pos (show sw_op 15 = 3 by decide), show (0 : Int32) = nI 0 from rfl, zp_s_below (zp_w12 h) (show 0 + 6 < ds.length by omega), zp_s_pushed h (zp_d4_get h.1 _)]
        have e : zp_aft σ 15 z ds = ds ++ [ds.getD (ds.length - 1) 0] := by
          unfold zp_aft zp_puts
          rw [if_neg (by decide), if_neg (by decide), if_pos rfl, hl1]
          conv => rhs; rw [← zp_tk_getD (ds := ds) (by omega)]
          rw [show ([ds.getD (ds.length - 1) 0, ds.getD (ds.length - 1) 0] : List Nat) = [ds.getD (ds.length - 1) 0] ++ [ds.getD (ds.length - 1) 0] from rfl, ← List.append_assoc, zp_tk_getD (by omega)]
        rw [e]
        rfl
      · by_cases h16 : o = 16
        · subst h16
          have hl1 : (zp_wants σ 0 16 z).length = 2 := by simp [zp_wants, zp_wtab]
          rw [hl1] at hl zp_wt ⊢
          have w2 : zp_wS 12 (ds.take (ds.length - 2) ++ [ds.getD (ds.length - 1 - 0) 0]) := ⟨zp_d4_app zp_wt.1 (zp_d4_one (zp_d4_get h.1 _)), by simp; omega, by simp; omega⟩
          simp only [if_neg (show ¬ sw_op 16 = 1 by decide), if_neg (show ¬ sw_op 16 = 2 by decide), if_neg (show ¬ sw_op 16 = 3 by decide), if_pos (show sw_op 16 = 4 by decide), show (0 : Int32) = nI 0 from rfl, show (1 : Int32) = nI 1 from rfl, zp_s_below (zp_w12 h) (show 0 + 6 < ds.length by omega), zp_s_pushed zp_wt (zp_d4_get h.1 _), zp_s_below (zp_w12 h) (show 1 + 6 < ds.length by omega), zp_s_pushed w2 (zp_d4_get h.1 _)]
          unfold zp_aft zp_puts
          rw [if_neg (by decide), if_neg (by decide), if_neg (by decide), if_pos rfl, hl1]
          simp [Nat.sub_sub]
        · by_cases h18' : o = 18
          · subst h18'
            obtain ⟨n, hn4, rfl, -⟩ := zp_hasR_n (h18 rfl)
            simp only [if_neg (show ¬ sw_op 18 = 1 by decide), if_neg (show ¬ sw_op 18 = 2 by decide), if_neg (show ¬ sw_op 18 = 3 by decide), if_neg (show ¬ sw_op 18 = 4 by decide), if_pos (show sw_op 18 = 5 by decide), zp_c_kind hn4, zp_s_pushed zp_wt (zp_kd_lt _ _ _)]
            simp [zp_aft, zp_puts, zp_q_nat (show n < 2 ^ 31 by omega)]
          · have s1 : ¬ sw_op o = 1 ∧ ¬ sw_op o = 2 ∧ ¬ sw_op o = 3 ∧ ¬ sw_op o = 4 ∧ ¬ sw_op o = 5 := by rcases zp_o20 ho with rfl | rfl | rfl | rfl | rfl | rfl | rfl | rfl | rfl | rfl | rfl | rfl | rfl | rfl | rfl | rfl | rfl | rfl | rfl | rfl <;> first | decide | contradiction
            rw [if_neg s1.1, if_neg s1.2.1, if_neg s1.2.2.1, if_neg s1.2.2.2.1, if_neg s1.2.2.2.2]
            have hp : (op_gives o = 0 ∧ zp_ptab.getD o [] = []) ∨ (¬ op_gives o = 0 ∧ ∃ v, v < 4 ∧ op_gives o = nI v ∧ zp_ptab.getD o [] = [v]) := by
              rcases zp_o20 ho with rfl | rfl | rfl | rfl | rfl | rfl | rfl | rfl | rfl | rfl | rfl | rfl | rfl | rfl | rfl | rfl | rfl | rfl | rfl | rfl <;> first | contradiction | exact Or.inl ⟨by decide, by decide⟩ | exact Or.inr ⟨by decide, 1, by decide, by decide, by decide⟩ | exact Or.inr ⟨by decide, 2, by decide, by decide, by decide⟩
            have e : zp_aft σ o z ds = ds.take (ds.length - (zp_wants σ 0 o z).length) ++ zp_ptab.getD o [] := by
              unfold zp_aft zp_puts
              rw [if_neg h6, if_neg h5, if_neg h15, if_neg h16, if_neg h18']
            rw [e]
            rcases hp with ⟨g1, g2⟩ | ⟨g1, v, g2, g3, g4⟩
            · rw [if_pos g1, g2, List.append_nil]
            · rw [if_neg g1, g4, g3, zp_s_pushed zp_wt g2]
theorem zp_nI1_ne0 : ¬ nI 1 = (0 : Int32) := by decide
theorem zp_c_fits (hC : zp_wC σ) (h : zp_wS 12 ds) (hr : r < 4) (ha : a < (σ 1 0).toNatClampNeg) : fn_Co_fits σ (nI r) (nI a) (nI (zp_pkd ds)) = some (if (zp_tr σ r a ds).isSome then 1 else 0, σ) := by
  have p0 : zp_pkd ds < 2 ^ 29 := zp_pk_lt (by have := h.2; omega) h.1 (by have := h.2; omega)
  have hc := zp_cn_le hC
  have hA := zp_isA_of hC ha
  unfold fn_Co_fits fn_Co_hasOp
  rw [if_neg (zp_nI_ne (by omega) _ (by decide)), if_neg (zp_nI_ne (by omega) _ (by decide)), zp_c_hasI]
  have hin : ¬ (nI a < 0 ∨ 100 ≤ a) := fun q => q.elim (zp_q_nn (by omega)) (by omega)
  simp only [bd, hA, if_true, if_neg (show ¬ (1 : Int32) = 0 by decide), zp_q_nat (show a < 2 ^ 31 by omega), if_neg hin]
  unfold zp_tr
  by_cases hk : zp_okop σ a = true
  · have hk2 := hk
    simp only [zp_okop, Bool.and_eq_true, Bool.not_eq_true', decide_eq_false_iff_not] at hk2
    obtain ⟨ho, hop⟩ := zp_c_opAt (show a < 100 by omega) hk
    simp only [if_neg hk2.1, if_neg hk2.2, hk, Bool.true_and]
    simp only [or_true, if_true, if_neg (show ¬ (1 : Int32) = 0 by decide), hop, nm]
    have main : fn_Co_fits_54 (nI r) (nI a) (nI (zp_pkd ds)) σ (zp_oo σ a) (σ 3 a) = some (if (zp_nf σ (zp_oo σ a) (σ 3 a) ds && zp_popok (zp_wants σ r (zp_oo σ a) (σ 3 a)) ds && decide ((zp_aft σ (zp_oo σ a) (σ 3 a) ds).length ≤ 12)) = true then 1 else 0, σ) := by
      unfold fn_Co_fits_54
      rw [zp_c_nf ho h]
      simp only [bd]
      by_cases hn : zp_nf σ (zp_oo σ a) (σ 3 a) ds = true
      · have h18 : zp_oo σ a = 18 → zp_hasR σ (σ 3 a) = true := fun q => by rw [zp_nf, if_neg (by omega), if_neg (by omega), if_pos q] at hn; exact hn
        simp only [hn, if_true, if_neg (show ¬ (1 : Int32) = 0 by decide), Bool.true_and]
        rw [zp_c_taken h hC hr ho h18]
        simp only
        by_cases hp : zp_popok (zp_wants σ r (zp_oo σ a) (σ 3 a)) ds = true
        · simp only [hp, if_true, if_neg (show ¬ (1 : Int32) = 0 by decide), Bool.true_and]
          have hl : (zp_wants σ 0 (zp_oo σ a) (σ 3 a)).length + 6 ≤ ds.length := by
            unfold zp_popok at hp
            simp only [Bool.and_eq_true, decide_eq_true_eq] at hp
            rw [zp_wants_len σ 0 r]; exact hp.1
          rw [zp_c_after hC h (by omega) hk hn hl]
          simp only
          have w13 := zp_aft_ok hC h ho hn hl
          rw [zp_s_height w13]
          simp only
          have h13 := w13.2
          by_cases hq : (zp_aft σ (zp_oo σ a) (σ 3 a) ds).length ≤ 12
          · rw [if_neg (show ¬ (6 : Int32) < nI ((zp_aft σ (zp_oo σ a) (σ 3 a) ds).length - 6) from fun q => by have := (zp_q_lt (a := 6) (by decide) (by omega)).mp q; omega)]
            simp [hq]
          · rw [if_pos (show (6 : Int32) < nI ((zp_aft σ (zp_oo σ a) (σ 3 a) ds).length - 6) from (zp_q_lt (a := 6) (by decide) (by omega)).mpr (by omega))]
            simp [hq]
        · simp only [Bool.not_eq_true] at hp
          simp [hp]
      · simp only [Bool.not_eq_true] at hn
        simp [hn]
    by_cases hb : op_behind (zp_oo σ a) = 0
    · rw [if_pos hb, main]
      have hbh : zp_bh σ a = true := by unfold zp_bh; rw [decide_eq_true hb]; rfl
      rw [hbh, Bool.true_and]
      split <;> simp_all
    · rw [if_neg hb, zp_q_succ, zp_c_hasI]
      have hbh : zp_bh σ a = zp_isA σ (nI (a + 1)) := by unfold zp_bh; rw [decide_eq_false hb, zp_q_succ]; rfl
      rw [hbh]
      simp only
      cases hi : zp_isA σ (nI (a + 1)) with
      | false => simp
      | true =>
        simp only [if_true, if_neg (show ¬ (1 : Int32) = 0 by decide), main, Bool.true_and]
        split <;> simp_all
  · have hk2 : σ 2 a < 0 ∨ (20 : Int32) ≤ σ 2 a := by
      simp only [zp_okop, Bool.and_eq_true, Bool.not_eq_true', decide_eq_false_iff_not] at hk
      by_cases q : σ 2 a < 0
      · exact Or.inl q
      · by_cases q2 : (20 : Int32) ≤ σ 2 a
        · exact Or.inr q2
        · exact absurd ⟨q, q2⟩ hk
    simp only [Bool.not_eq_true] at hk
    rcases hk2 with q | q
    · simp [hk, q]
    · by_cases q1 : σ 2 a < 0
      · simp [hk, q1]
      · simp [hk, q1, q]
end
end

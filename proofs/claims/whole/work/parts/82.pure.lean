/-! the functions alone, 32 -/
noncomputable section
section
variable {σ τ : mm_M} {i u r o : Nat} {vs ws : zp_VL} {y z : Int32} {fr : Nat → Nat × Int32 × zp_VL}
theorem zp_aft_len (h6 : o ≠ 6) (hl : (zp_wants σ 0 o z).length ≤ vs.length) : (zp_aft σ o z (zp_dgs vs)).length = vs.length - (zp_wants σ 0 o z).length + (zp_puts σ o z (zp_dgs vs)).length := by
  unfold zp_aft
  rw [if_neg h6, List.length_append, List.length_take, zp_dgs_len]
  omega
theorem zp_ST_0 (ha : (zp_aft σ 0 z (zp_dgs vs)).length ≤ 12) : zp_STEP σ τ i u fr vs 0 y z :=
  zp_ST_plain (by decide) (fun τ2 B2 _ => zp_do_act (by decide) (by decide) B2 (zp_op_0 (zp_TOP_addr B2.1) (by
    rw [zp_aft_len (by decide) (by simp [zp_wants, zp_wtab])] at ha
    simp [zp_wants, zp_wtab, zp_puts, zp_ptab] at ha; omega)))
theorem zp_ST_9 (ha : (zp_aft σ 9 z (zp_dgs vs)).length ≤ 12) : zp_STEP σ τ i u fr vs 9 y z :=
  zp_ST_plain (by decide) (fun τ2 B2 _ => zp_do_act (by decide) (by decide) B2 (zp_op_9 (zp_TOP_addr B2.1) (by
    rw [zp_aft_len (by decide) (by simp [zp_wants, zp_wtab])] at ha
    simp [zp_wants, zp_wtab, zp_puts, zp_ptab] at ha; omega)))
theorem zp_ST_1 (ho : o = 1 ∨ o = 2 ∨ o = 3) (hv : zp_okv u vs) (hp : zp_popok [1, 1] (zp_dgs vs) = true) : zp_STEP σ τ i u fr vs o y z := by
  obtain ⟨ws0, p, rfl, hw, h6, hp2, ok0, hp0, -, -⟩ := zp_pop_cons hv hp
  obtain ⟨ws, q, rfl, hw2, h62, -, ok1, hq0, -, -⟩ := zp_pop_cons ok0 hp2
  refine zp_ST_plain (by omega) (fun τ2 B2 _ => zp_do_act (by rcases ho with rfl | rfl | rfl <;> decide) (by omega) B2 (zp_op_1 (zp_TOP_addr B2.1) h62 ?_ ?_ (by omega) (fun q => by omega)))
  · exact (hw.resolve_left (by decide)).symm
  · exact (hw2.resolve_left (by decide)).symm
theorem zp_ST_4 (B : zp_BASE σ τ i u fr vs) (hp : zp_popok [1, 1] (zp_dgs vs) = true) : zp_STEP σ τ i u fr vs 4 y z := by
  obtain ⟨ws0, p, rfl, hw, h6, hp2, ok0, hp0, -, -⟩ := zp_pop_cons B.1.2.2.2.2.2.2.2.1 hp
  obtain ⟨ws, q, rfl, hw2, h62, -, ok1, hq0, -, -⟩ := zp_pop_cons ok0 hp2
  obtain ⟨b1, zp_b2⟩ := zp_mf_b0 B.1 (by simp; omega) hp0
  have eT : zp_tailC σ i 4 = bd (fn_Fr_below σ i (0 : Int32)) (fun r12 σ11 => if r12 = 0 then some (2, σ11) else some (0, σ11)) := by
    unfold zp_tailC
    simp +decide only [if_false, if_true]
  have eM : fn_Mo_trapOf τ (nI 4) z = bd (fn_Mo_below τ (0 : Int32)) (fun r3 σ2 => if r3 = 0 then some ((2 : Int32), σ2) else some ((0 : Int32), σ2)) := by
    unfold fn_Mo_trapOf
    simp +decide only [if_true]
  unfold zp_STEP
  rw [eT, eM, b1, zp_b2, zp_bd_some, zp_bd_some]
  by_cases h : p.2 = 0
  · exact ⟨2, by omega, by rw [if_pos h], by rw [if_pos h]; rfl, fun q => by cases q⟩
  · exact ⟨0, by omega, by rw [if_neg h], by rw [if_neg h]; rfl, fun _ τ2 B2 _ => zp_do_act (by decide) (by decide) B2 (zp_op_1 (zp_TOP_addr B2.1) h62 (hw.resolve_left (by decide)).symm (hw2.resolve_left (by decide)).symm (by decide) (fun _ => h))⟩
theorem zp_ST_5 (hn : zp_nf σ 5 z (zp_dgs vs) = true) (ha : (zp_aft σ 5 z (zp_dgs vs)).length ≤ 12) : zp_STEP σ τ i u fr vs 5 y z := by
  rw [zp_nf, if_pos rfl, Bool.and_eq_true, Bool.or_eq_true, decide_eq_true_eq, decide_eq_true_eq] at hn
  obtain ⟨n, hn6, rfl⟩ := zp_isLo_n hn.1
  have ht := hn.2
  rw [zp_q_nat (by omega), zp_dgs_get] at ht
  exact zp_ST_plain (by decide) (fun τ2 B2 _ => zp_do_act (by decide) (by decide) B2 (zp_op_5 (zp_TOP_addr B2.1) (by
    rw [zp_aft_len (by decide) (by simp [zp_wants, zp_wtab])] at ha
    simp [zp_wants, zp_wtab, zp_puts] at ha; omega) hn6 ht))
theorem zp_ST_6 (hv : zp_okv u vs) (hn : zp_nf σ 6 z (zp_dgs vs) = true) (hp : zp_popok [3] (zp_dgs vs) = true) : zp_STEP σ τ i u fr vs 6 y z := by
  rw [zp_nf, if_neg (by decide), if_pos rfl] at hn
  obtain ⟨n, hn6, rfl⟩ := zp_isLo_n hn
  obtain ⟨ws, p, rfl, hw, h6, hp2, ok0, hp0, hp4, hpr⟩ := zp_pop_cons hv hp
  exact zp_ST_plain (by decide) (fun τ2 B2 _ => zp_do_act (by decide) (by decide) B2 (zp_op_6 (zp_TOP_addr B2.1) h6 hn6 hp0 hp4 hpr))
theorem zp_ST_7 : zp_STEP σ τ i u fr vs 7 y z := by
  refine zp_ST_plain (by decide) (fun τ2 B2 _ => ?_)
  obtain ⟨σ', τ', e1, e2, P⟩ := zp_op_7 (y := y) (z := z) B2.1
  refine ⟨σ', τ', ?_, ?_, zp_NX_PO B2 P⟩
  · unfold zp_doC
    rw [if_pos (by decide)]; exact e1
  · unfold zp_doM
    rw [if_pos rfl]; exact e2
theorem zp_ST_8 {w : Nat} (ho : o = 8 ∨ o = 10) (hv : zp_okv u vs) (hp : zp_popok [w] (zp_dgs vs) = true) : zp_STEP σ τ i u fr vs o y z := by
  obtain ⟨ws, p, rfl, hw, h6, hp2, ok0, hp0, hp4, hpr⟩ := zp_pop_cons hv hp
  refine zp_ST_plain (by omega) (fun τ2 B2 _ => ?_)
  obtain ⟨σ', τ', e1, e2, P⟩ := zp_op_j (y := y) (z := z) B2.1 h6 hp0 ho
  refine ⟨σ', τ', ?_, ?_, zp_NX_PO B2 P⟩
  · unfold zp_doC
    rw [if_pos (by rcases ho with rfl | rfl <;> decide)]; exact e1
  · unfold zp_doM
    rw [if_neg (by omega), if_pos ho, (zp_mf_b0 B2.1 h6 hp0).2, zp_bd_some]
    by_cases q : p.2 = 0
    · rw [if_pos q] at e2 ⊢; exact e2
    · rw [if_neg q] at e2 ⊢; exact e2
theorem zp_ST_11 (B : zp_BASE σ τ i u fr vs) (hp : zp_popok [1] (zp_dgs vs) = true) : zp_STEP σ τ i u fr vs 11 y z := by
  obtain ⟨ws, p, rfl, hw, h6, hp2, ok0, hp0, hp4, hpr⟩ := zp_pop_cons B.1.2.2.2.2.2.2.2.1 hp
  obtain ⟨b1, zp_b2⟩ := zp_mf_b0 B.1 h6 hp0
  have hu := B.1.2.1
  have h16 := B.1.2.2.1
  have h22 := B.1.2.2.2.1
  have eT : zp_tailC σ i 11 = bd (fn_Fr_below σ i (0 : Int32)) (fun r36 σ35 => bd (fn_Ma_canMake σ35 r36) (fun r38 σ37 => if r38 = 0 then some (5, σ37) else some (0, σ37))) := by
    unfold zp_tailC
    simp +decide only [if_false, if_true]
  have eM : fn_Mo_trapOf τ (nI 11) z = bd (fn_Mo_below τ (0 : Int32)) (fun r7 σ6 => if r7 < 0 then some ((5 : Int32), σ6) else bd (fn_Mo_below σ6 (0 : Int32)) (fun r10 σ9 => if (12 : Int32) < r10 then some ((5 : Int32), σ9) else bd (fn_Mo_below σ9 (0 : Int32)) (fun r13 σ12 => if ((σ9 0 22) + r13) ≤ (30 : Int32) then some ((0 : Int32), σ12) else some ((5 : Int32), σ12)))) := by
    unfold fn_Mo_trapOf
    simp +decide only [if_false, if_true]
  unfold zp_STEP
  rw [eT, eM, b1, zp_b2, zp_bd_some, zp_bd_some]
  unfold fn_Ma_canMake
  rw [zp_b2, zp_bd_some, zp_b2, zp_bd_some, h16, h22]
  by_cases g1 : p.2 < 0
  · exact ⟨5, by omega, by simp only [if_pos g1, true_or, if_true, zp_bd_some], by simp only [if_pos g1]; rfl, fun q => by cases q⟩
  · obtain ⟨n, hn, en⟩ := zp_q_of g1
    by_cases g2 : 12 < n
    · have g2' : (12 : Int32) < p.2 := by rw [en]; exact (zp_q_lt (a := 12) (by decide) hn).mpr g2
      exact ⟨5, by omega, by simp only [if_neg g1, if_pos g2', true_or, if_true, zp_bd_some], by simp only [if_neg g1, if_pos g2']; rfl, fun q => by cases q⟩
    · have g2' : ¬ (12 : Int32) < p.2 := by rw [en]; exact fun q => g2 ((zp_q_lt (a := 12) (by decide) hn).mp q)
      by_cases g3 : u + n ≤ 30
      · have g3' : ¬ (30 : Int32) < nI u + p.2 := by rw [en, zp_q_add]; exact fun q => by have := (zp_q_lt (a := 30) (by decide) (by omega)).mp q; omega
        have g3'' : nI u + p.2 ≤ (30 : Int32) := by rw [en, zp_q_add]; exact (zp_q_le (b := 30) (by omega) (by decide)).mpr g3
        refine ⟨0, by omega, ?_, ?_, fun _ τ2 B2 _ => zp_do_act (by decide) (by decide) B2 (zp_op_11 (zp_TOP_addr B2.1) h6 hp0 (by omega) g3 en)⟩
        · simp only [if_neg g1, if_neg g2', if_neg g3', or_true, if_true, zp_bd_some, if_neg (show ¬ (1 : Int32) = 0 by decide)]
        · simp only [if_neg g1, if_neg g2', if_pos g3'']; rfl
      · have g3' : (30 : Int32) < nI u + p.2 := by rw [en, zp_q_add]; exact (zp_q_lt (a := 30) (by decide) (by omega)).mpr (by omega)
        have g3'' : ¬ nI u + p.2 ≤ (30 : Int32) := by rw [en, zp_q_add]; exact fun q => g3 ((zp_q_le (b := 30) (by omega) (by decide)).mp q)
        refine ⟨5, by omega, ?_, ?_, fun q => by cases q⟩
        · simp only [if_neg g1, if_neg g2', if_pos g3', true_or, if_true, zp_bd_some]
        · simp only [if_neg g1, if_neg g2', if_neg g3'']; rfl
theorem zp_ST_12 (B : zp_BASE σ τ i u fr vs) (hp : zp_popok [1, 2] (zp_dgs vs) = true) : zp_STEP σ τ i u fr vs 12 y z := by
  obtain ⟨ws0, p, rfl, hw, h6, hp2, ok0, hp0, -, -⟩ := zp_pop_cons B.1.2.2.2.2.2.2.2.1 hp
  obtain ⟨ws, q, rfl, hw2, h62, -, ok1, hq0, -, hqr⟩ := zp_pop_cons ok0 hp2
  have hq2 : q.1 = 2 := (hw2.resolve_left (by decide)).symm
  obtain ⟨b1, zp_b2⟩ := zp_mf_b0 B.1 (by simp; omega) hp0
  obtain ⟨b3, b4⟩ := zp_mf_b1 B.1 h62 hq0
  obtain ⟨t, ht, t1, t2, t3⟩ := zp_et_ok (k := p.2) (hqr hq2) B.1.2.1
  have eT : zp_tailC σ i 12 = bd (fn_Fr_below σ i (1 : Int32)) (fun r16 σ15 => bd (fn_Fr_below σ15 i (0 : Int32)) (fun r18 σ17 => bd (fn_Ma_elementTrap σ17 r16 r18) (fun r20 σ19 => some (r20, σ19)))) := by
    unfold zp_tailC
    simp +decide only [if_false, if_true]
  have eM : fn_Mo_trapOf τ (nI 12) z = bd (fn_Mo_below τ (1 : Int32)) (fun r17 σ16 => bd (fn_Mo_below σ16 (0 : Int32)) (fun r19 σ18 => bd (fn_Mo_trapAt σ18 r17 r19) (fun r21 σ20 => some (r21, σ20)))) := by
    unfold fn_Mo_trapOf
    simp +decide only [if_false, if_true]
  refine ⟨t, ht, ?_, ?_, fun q0 τ2 B2 _ => ?_⟩
  · rw [eT, b3, zp_bd_some, b1, zp_bd_some, t1, zp_bd_some]
  · rw [eM, b4, zp_bd_some, zp_b2, zp_bd_some, t2, zp_bd_some]
  · obtain ⟨e, n, m, hn, hen, ev, hm, ek⟩ := t3 q0
    exact zp_do_act (by decide) (by decide) B2 (zp_op_12 (zp_TOP_addr B2.1) h62 hp0 hq0 hn hen ev hm ek)
theorem zp_ST_13 (B : zp_BASE σ τ i u fr vs) (hp : zp_popok [1, 1, 2] (zp_dgs vs) = true) : zp_STEP σ τ i u fr vs 13 y z := by
  obtain ⟨ws1, p, rfl, hw, h6, hp2, ok0, hp0, -, -⟩ := zp_pop_cons B.1.2.2.2.2.2.2.2.1 hp
  obtain ⟨ws0, q, rfl, hw1, h61, hp3, ok1, hq0, -, -⟩ := zp_pop_cons ok0 hp2
  obtain ⟨ws, w, rfl, hw2, h62, -, ok2, hw0, -, hwr⟩ := zp_pop_cons ok1 hp3
  have hw22 : w.1 = 2 := (hw2.resolve_left (by decide)).symm
  obtain ⟨b3, b4⟩ := zp_mf_b1 B.1 (by simp; omega) hq0
  obtain ⟨b5, b6⟩ := zp_mf_b2 B.1 h62 hw0
  obtain ⟨t, ht, t1, t2, t3⟩ := zp_et_ok (k := q.2) (hwr hw22) B.1.2.1
  have eT : zp_tailC σ i 13 = bd (fn_Fr_below σ i (2 : Int32)) (fun r24 σ23 => bd (fn_Fr_below σ23 i (1 : Int32)) (fun r26 σ25 => bd (fn_Ma_elementTrap σ25 r24 r26) (fun r28 σ27 => some (r28, σ27)))) := by
    unfold zp_tailC
    simp +decide only [if_false, if_true]
  have eM : fn_Mo_trapOf τ (nI 13) z = bd (fn_Mo_below τ (2 : Int32)) (fun r24 σ23 => bd (fn_Mo_below σ23 (1 : Int32)) (fun r26 σ25 => bd (fn_Mo_trapAt σ25 r24 r26) (fun r28 σ27 => some (r28, σ27)))) := by
    unfold fn_Mo_trapOf
    simp +decide only [if_false, if_true]
  refine ⟨t, ht, ?_, ?_, fun q0 τ2 B2 _ => ?_⟩
  · rw [eT, b5, zp_bd_some, b3, zp_bd_some, t1, zp_bd_some]
  · rw [eM, b6, zp_bd_some, b4, zp_bd_some, t2, zp_bd_some]
  · obtain ⟨e, n, m, hn, hen, ev, hm, ek⟩ := t3 q0
    exact zp_do_act (by decide) (by decide) B2 (zp_op_13 (zp_TOP_addr B2.1) h62 hp0 hq0 hw0 hn hen ev hm ek)
theorem zp_ST_14 (B : zp_BASE σ τ i u fr vs) (hp : zp_popok [2] (zp_dgs vs) = true) : zp_STEP σ τ i u fr vs 14 y z := by
  obtain ⟨ws, p, rfl, hw, h6, hp2, ok0, hp0, hp4, hpr⟩ := zp_pop_cons B.1.2.2.2.2.2.2.2.1 hp
  obtain ⟨b1, zp_b2⟩ := zp_mf_b0 B.1 h6 hp0
  have eT : zp_tailC σ i 14 = bd (fn_Fr_below σ i (0 : Int32)) (fun r12 σ11 => if r12 = 0 then some (3, σ11) else some (0, σ11)) := by
    unfold zp_tailC
    simp +decide only [if_false, if_true]
  have eM : fn_Mo_trapOf τ (nI 14) z = bd (fn_Mo_below τ (0 : Int32)) (fun r3 σ2 => if r3 = 0 then some ((3 : Int32), σ2) else some ((0 : Int32), σ2)) := by
    unfold fn_Mo_trapOf
    simp +decide only [if_false, if_true]
  unfold zp_STEP
  rw [eT, eM, b1, zp_b2, zp_bd_some, zp_bd_some]
  by_cases h : p.2 = 0
  · exact ⟨3, by omega, by rw [if_pos h], by rw [if_pos h]; rfl, fun q => by cases q⟩
  · exact ⟨0, by omega, by rw [if_neg h], by rw [if_neg h]; rfl, fun _ τ2 B2 _ => zp_do_act (by decide) (by decide) B2 (zp_op_14 (zp_TOP_addr B2.1) h6 (hw.resolve_left (by decide)).symm h)⟩
theorem zp_ST_15 (hv : zp_okv u vs) (hp : zp_popok [3] (zp_dgs vs) = true) (ha : (zp_aft σ 15 z (zp_dgs vs)).length ≤ 12) : zp_STEP σ τ i u fr vs 15 y z := by
  obtain ⟨ws, p, rfl, hw, h6, hp2, ok0, hp0, hp4, hpr⟩ := zp_pop_cons hv hp
  exact zp_ST_plain (by decide) (fun τ2 B2 _ => zp_do_act (by decide) (by decide) B2 (zp_op_15 (zp_TOP_addr B2.1) h6 (by
    rw [zp_aft_len (by decide) (by simp [zp_wants, zp_wtab])] at ha
    simp [zp_wants, zp_wtab, zp_puts] at ha; omega) hp0 hp4 hpr))
theorem zp_ST_16 (hv : zp_okv u vs) (hp : zp_popok [3, 3] (zp_dgs vs) = true) : zp_STEP σ τ i u fr vs 16 y z := by
  obtain ⟨ws0, p, rfl, hw, h6, hp2, ok0, hp0, hp4, hpr⟩ := zp_pop_cons hv hp
  obtain ⟨ws, q, rfl, hw2, h62, -, ok1, hq0, hq4, hqr⟩ := zp_pop_cons ok0 hp2
  exact zp_ST_plain (by decide) (fun τ2 B2 _ => zp_do_act (by decide) (by decide) B2 (zp_op_16 (zp_TOP_addr B2.1) h62 hp0 hp4 hpr hq0 hq4 hqr))
theorem zp_ST_17 (hv : zp_okv u vs) (hp : zp_popok [3] (zp_dgs vs) = true) : zp_STEP σ τ i u fr vs 17 y z := by
  obtain ⟨ws, p, rfl, hw, h6, hp2, ok0, hp0, hp4, hpr⟩ := zp_pop_cons hv hp
  exact zp_ST_plain (by decide) (fun τ2 B2 _ => zp_do_act (by decide) (by decide) B2 (zp_op_17 (zp_TOP_addr B2.1) h6 hp0))
theorem zp_ST_19 {w : Nat} (hv : zp_okv u vs) (hp : zp_popok [w] (zp_dgs vs) = true) : zp_STEP σ τ i u fr vs 19 y z := by
  obtain ⟨ws, p, rfl, hw, h6, hp2, ok0, hp0, hp4, hpr⟩ := zp_pop_cons hv hp
  refine zp_ST_plain (by decide) (fun τ2 B2 _ => ?_)
  obtain ⟨σ', τ', e1, e2, P⟩ := zp_op_19 (y := y) (y' := y) (z := z) B2.1 B2.2.1 B2.2.2.1 B2.2.2.2 h6 hp0 hp4 hpr
  refine ⟨σ', τ', ?_, ?_, P⟩
  · unfold zp_doC
    rw [if_neg (by decide)]; exact e1
  · unfold zp_doM
    rw [if_neg (by decide), if_neg (by decide)]; exact e2
theorem zp_ST_18 (hC : zp_wC σ) (B : zp_BASE σ τ i u fr vs) (hn : zp_nf σ 18 z (zp_dgs vs) = true) (hp : zp_popok (zp_wants σ r 18 z) (zp_dgs vs) = true) (ha : (zp_aft σ 18 z (zp_dgs vs)).length ≤ 12) : zp_STEP σ τ i u fr vs 18 y z := by
  rw [zp_nf, if_neg (by decide), if_neg (by decide), if_pos rfl] at hn
  obtain ⟨n, hn4, rfl, hto⟩ := zp_hasR_n hn
  obtain ⟨p, hp3, ep⟩ := (hC.2 n hn4).2
  have hws : ∀ r, zp_wants σ r 18 (nI n) = zp_wsm σ n p := fun r => by
    unfold zp_wants zp_wsm
    rw [if_pos rfl, zp_q_nat (by omega), ep, zp_q_nat (by omega)]
  rw [hws] at hp
  have hlw : (zp_wsm σ n p).length = p := by simp [zp_wsm]
  obtain ⟨ws, args, rfl, hal, h6, okw, hk⟩ := zp_pop_args p vs B.1.2.2.2.2.2.2.2.1 hp
  have hi8 := B.1.1
  have h16 := B.1.2.2.2.2.2.2.2.2.2
  have h016 := B.1.2.2.2.2.2.2.2.2.1
  have eT : zp_tailC σ i 18 = if (8 : Int32) ≤ (σ 16 0) then some (5, σ) else some (0, σ) := by
    unfold zp_tailC
    simp +decide only [if_false, if_true]
  have eM : fn_Mo_trapOf τ (nI 18) (nI n) = if (τ 0 16) = (8 : Int32) then some ((5 : Int32), τ) else some ((0 : Int32), τ) := by
    unfold fn_Mo_trapOf
    simp +decide only [if_false, if_true]
  unfold zp_STEP
  rw [eT, eM, h16, h016]
  by_cases g : i + 1 = 8
  · exact ⟨5, by omega, by rw [if_pos (show (8 : Int32) ≤ nI (i + 1) by rw [g]; decide)], by rw [if_pos (show nI (i + 1) = (8 : Int32) by rw [g]; rfl)]; rfl, fun q => by cases q⟩
  · refine ⟨0, by omega, by rw [if_neg (show ¬ (8 : Int32) ≤ nI (i + 1) from fun q => by have := (zp_q_le (a := 8) (by decide) (by omega)).mp q; omega)], by rw [if_neg (show ¬ nI (i + 1) = (8 : Int32) from fun q => g ((zp_q_eq (b := 8) (by omega) (by decide)).mp q))]; rfl, fun _ τ2 B2 hE2 => ?_⟩
    have hw11 : ws.length ≤ 11 := by
      rw [zp_aft_len (by decide) (by rw [hws, hlw]; simp; omega), hws, hlw] at ha
      simp [zp_puts] at ha; omega
    subst hal
    obtain ⟨σ', τ', e1, e2, P⟩ := zp_op_18 (y := y) hC hE2 B2.1 B2.2.1 B2.2.2.1 B2.2.2.2 h6 hw11 okw hn4 (by omega) ep hp3 hk
    refine ⟨σ', τ', ?_, ?_, P⟩
    · unfold zp_doC
      rw [if_neg (by decide)]; exact e1
    · unfold zp_doM
      rw [if_neg (by decide), if_neg (by decide)]; exact e2
theorem zp_st_all (hC : zp_wC σ) (B : zp_BASE σ τ i u fr vs) (ho : o < 20) (hn : zp_nf σ o z (zp_dgs vs) = true) (hp : zp_popok (zp_wants σ r o z) (zp_dgs vs) = true) (ha : (zp_aft σ o z (zp_dgs vs)).length ≤ 12) : zp_STEP σ τ i u fr vs o y z := by
  have hv := B.1.2.2.2.2.2.2.2.1
  rcases zp_o20 ho with rfl | rfl | rfl | rfl | rfl | rfl | rfl | rfl | rfl | rfl | rfl | rfl | rfl | rfl | rfl | rfl | rfl | rfl | rfl | rfl
  · exact zp_ST_0 ha
  · exact zp_ST_1 (by decide) hv hp
  · exact zp_ST_1 (by decide) hv hp
  · exact zp_ST_1 (by decide) hv hp
  · exact zp_ST_4 B hp
  · exact zp_ST_5 hn ha
  · exact zp_ST_6 hv hn hp
  · exact zp_ST_7
  · exact zp_ST_8 (by decide) hv hp
  · exact zp_ST_9 ha
  · exact zp_ST_8 (by decide) hv hp
  · exact zp_ST_11 B hp
  · exact zp_ST_12 B hp
  · exact zp_ST_13 B hp
  · exact zp_ST_14 B hp
  · exact zp_ST_15 hv hp ha
  · exact zp_ST_16 hv hp
  · exact zp_ST_17 hv hp
  · exact zp_ST_18 hC B hn hp ha
  · exact zp_ST_19 hv hp
end
end

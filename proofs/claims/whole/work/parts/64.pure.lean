/-! the functions alone, 14 -/
noncomputable section
theorem zp_tr_cod (σ : mm_M) (r a : Nat) (ds : List Nat) : zp_tr (zp_cod σ) r a ds = zp_tr σ r a ds := rfl
theorem zp_oo_cod (σ : mm_M) (a : Nat) : zp_oo (zp_cod σ) a = zp_oo σ a := rfl
theorem zp_wC_cod {σ : mm_M} (h : zp_wC σ) : zp_wC (zp_cod σ) := h
theorem zp_cod_wC {σ : mm_M} (h : zp_wC (zp_cod σ)) : zp_wC σ := h
theorem zp_isA_cod (σ : mm_M) (z : Int32) : zp_isA (zp_cod σ) z = zp_isA σ z := rfl
def zp_fst0 (κ : mm_M) (r : Nat) : List Nat := (List.range 6).map (fun k => if k < (κ 6 r).toNatClampNeg then zp_kd κ r (nI k) else 0)
theorem zp_fst0_len (κ : mm_M) (r : Nat) : (zp_fst0 κ r).length = 6 := by simp [zp_fst0]
theorem zp_fst0_get (κ : mm_M) (r : Nat) {k : Nat} (h : k < 6) : (zp_fst0 κ r).getD k 0 = if k < (κ 6 r).toNatClampNeg then zp_kd κ r (nI k) else 0 := by
  simp [zp_fst0, List.getD_eq_getElem?_getD, h]
theorem zp_fst0_w (κ : mm_M) (r : Nat) : zp_wS 12 (zp_fst0 κ r) := by
  refine ⟨fun x hx => ?_, Nat.le_of_eq (zp_fst0_len κ r).symm, by rw [zp_fst0_len]; omega⟩
  unfold zp_fst0 at hx
  obtain ⟨k, -, rfl⟩ := List.mem_map.mp hx
  split
  · exact zp_kd_lt _ _ _
  · decide
def zp_ini (κ : mm_M) (r : Nat) : zp_FF := if zp_isA κ (κ 5 r) = true then zp_aput zp_em (κ 5 r).toNatClampNeg (zp_fst0 κ r) else zp_em
def zp_fin (κ : mm_M) (r : Nat) : zp_FF := zp_arun κ r 1400 (zp_ini κ r)
theorem zp_ini_ok {κ : mm_M} (hC : zp_wC κ) (r : Nat) : zp_wF κ (zp_ini κ r) ∧ zp_ph (zp_ini κ r) ≤ 1400 := by
  unfold zp_ini
  split
  · rename_i h
    obtain ⟨n, hn, e, hlt⟩ := zp_isA_n hC h
    rw [e, zp_q_nat (by omega)]
    exact ⟨zp_aput_wF zp_em_ok.1 hlt (zp_fst0_w κ r), Nat.le_trans (zp_aput_ph (κ := κ) zp_em_ok.1 (zp_fst0_w κ r) hn) (Nat.le_of_eq (zp_em_ok (κ := κ)).2)⟩
  · exact ⟨zp_em_ok.1, Nat.le_of_eq (zp_em_ok (κ := κ)).2⟩
section
variable {σ : mm_M} {r a : Nat} {F : zp_FF} {ds : List Nat}
theorem zp_c_goOn62 {o : Nat} {d : List Nat} (hr : r < 4) (ha : a < 100) (hF : zp_wF (zp_cod σ) F) (hd : zp_wS 12 d) (hj : zp_jmp o = true → zp_isA σ (σ 3 a) = true) (hC : zp_wC σ) (H : zp_RepC σ r F) : ∃ σ', fn_Fl_goOn_62 (nI r) (nI a) σ o (nI (zp_pkd d)) = some σ' ∧ zp_RepC σ' r (if zp_jmp o = true then zp_aput F (σ 3 a).toNatClampNeg d else F) ∧ zp_FrC r σ σ' := by
  unfold fn_Fl_goOn_62 fn_Co_numberAt
  rw [zp_c_jmp]
  simp only [bd]
  cases h : zp_jmp o with
  | false =>
    simp only [Bool.false_eq_true, if_false, if_true]
    exact ⟨σ, rfl, H, zp_FrC_refl⟩
  | true =>
    obtain ⟨n, hn, e, hlt⟩ := zp_isA_n hC (hj h)
    have hin : ¬ (nI a < 0 ∨ 100 ≤ a) := fun q => q.elim (zp_q_nn (by omega)) (by omega)
    simp only [if_true, if_neg (show ¬ (1 : Int32) = 0 by decide), zp_q_nat (show a < 2 ^ 31 by omega), if_neg hin]
    rw [e, zp_q_nat (by omega)]
    obtain ⟨σ', e1, H1, f1⟩ := zp_c_meet hr hn (fun b d hb => hF.1 b d hb) hd H
    rw [e1]
    exact ⟨σ', rfl, H1, f1⟩
theorem zp_c_goOn (hC : zp_wC σ) (hr : r < 4) (ha : a < (σ 1 0).toNatClampNeg) (hF : zp_wF (zp_cod σ) F) (H : zp_RepC σ r F) : ∃ σ', fn_Fl_goOn σ (nI r) (nI a) = some σ' ∧ zp_RepC σ' r (zp_agoOn (zp_cod σ) r a F) ∧ zp_FrC r σ σ' := by
  have hc := zp_cn_le hC
  have hi1 : ¬ (nI r < 0 ∨ 4 ≤ r) := fun q => q.elim (zp_q_nn (by omega)) (by omega)
  have hi2 : ¬ (nI a < 0 ∨ 100 ≤ a) := fun q => q.elim (zp_q_nn (by omega)) (by omega)
  unfold fn_Fl_goOn zp_agoOn
  rw [zp_q_nat (show r < 2 ^ 31 by omega), zp_q_nat (show a < 2 ^ 31 by omega), if_neg hi1, if_neg hi2, H.1 a (by omega)]
  simp only [nm]
  cases hs : F.1 a with
  | none =>
    have : fn_Co_fits σ (nI r) (nI a) (zp_enc none) = some (0, σ) := by unfold fn_Co_fits zp_enc; simp
    rw [this]
    exact ⟨σ, rfl, H, zp_FrC_refl⟩
  | some s =>
    cases s with
    | none =>
      have : fn_Co_fits σ (nI r) (nI a) (zp_enc (some none)) = some (0, σ) := by unfold fn_Co_fits zp_enc; simp
      rw [this]
      exact ⟨σ, rfl, H, zp_FrC_refl⟩
    | some ds =>
      have hw := hF.1 a ds hs
      show ∃ σ', (bd (fn_Co_fits σ (nI r) (nI a) (nI (zp_pkd ds))) _) = some σ' ∧ _
      rw [zp_c_fits hC hw hr ha]
      simp only [bd, zp_tr_cod]
      cases ht : zp_tr σ r a ds with
      | none =>
        simp only [Option.isSome_none, Bool.false_eq_true, if_false, if_true]
        exact ⟨σ, rfl, H, zp_FrC_refl⟩
      | some d =>
        simp only [Option.isSome_some, if_true, if_neg (show ¬ (1 : Int32) = 0 by decide)]
        obtain ⟨wd, hk, ho, hb, hj, hn, hl, rfl, -⟩ := zp_tr_ok hC hw ht
        obtain ⟨-, hop⟩ := zp_c_opAt (show a < 100 by omega) hk
        rw [hop]
        simp only [zp_enc]
        rw [zp_c_after hC hw (by omega) hk hn (by rw [zp_wants_len σ 0 r]; exact hl)]
        simp only [zp_oo_cod]
        show ∃ σ', _ = some σ' ∧ zp_RepC σ' r (if zp_jmp (zp_oo σ a) = true then zp_aput (if op_behind (zp_oo σ a) = 0 then F else zp_aput F (a + 1) (zp_aft σ (zp_oo σ a) (σ 3 a) ds)) (σ 3 a).toNatClampNeg (zp_aft σ (zp_oo σ a) (σ 3 a) ds) else (if op_behind (zp_oo σ a) = 0 then F else zp_aput F (a + 1) (zp_aft σ (zp_oo σ a) (σ 3 a) ds))) ∧ _
        by_cases q : op_behind (zp_oo σ a) = 0
        · simp only [q, if_true]
          exact zp_c_goOn62 hr (by omega) hF wd hj hC H
        · simp only [q, if_false]
          have hA := hb q
          rw [zp_q_succ] at hA ⊢
          obtain ⟨n, hn2, e, hlt⟩ := zp_isA_n hC hA
          have e' : a + 1 = n := (zp_q_eq (by omega) (by omega)).mp e
          obtain ⟨σ1, e1, H1, f1⟩ := zp_c_meet (a := a + 1) hr (by omega) (fun b d hb => hF.1 b d hb) wd H
          rw [e1]
          simp only [bv]
          have ec := zp_FrC_cod f1
          have hF1 : zp_wF (zp_cod σ1) (zp_aput F (a + 1) (zp_aft σ (zp_oo σ a) (σ 3 a) ds)) := by
            rw [ec]; exact zp_aput_wF hF (by rw [e']; exact hlt) wd
          have e3 : σ1 3 a = σ 3 a := f1 3 a (by omega) (by omega) (by omega) (by omega)
          have hC1 : zp_wC σ1 := zp_cod_wC (by rw [ec]; exact zp_wC_cod hC)
          obtain ⟨σ2, e2, H2, f2⟩ := zp_c_goOn62 (σ := σ1) (o := zp_oo σ a) (a := a) (d := zp_aft σ (zp_oo σ a) (σ 3 a) ds) hr (by omega) hF1 wd (fun q => by rw [e3, ← zp_isA_cod, ec, zp_isA_cod]; exact hj q) hC1 H1
          rw [e3] at H2
          exact ⟨σ2, e2, H2, zp_FrC_tr f1 f2⟩
theorem zp_c_run1 {κ : mm_M} {n f l2 : Nat} (ih : ∀ (l2 : Nat) (σ : mm_M) (F : zp_FF) (m : Nat), n = m + 1 → l2 + m ≤ 1400 → zp_cod σ = κ → zp_wC σ → zp_wF κ F → zp_ph F ≤ m → zp_RepC σ r F → ∃ σ', fn_Fl_workOut_56 (nI r) f σ (nI l2) = some σ' ∧ (∀ a, a < 100 → σ' (11 + r) a = zp_enc ((zp_arun κ r m F).1 a)) ∧ σ' 9 r = 1 ∧ zp_FrC r σ σ') (hr : r < 4) (hl : l2 + n ≤ 1400) (hk : zp_cod σ = κ) (hC : zp_wC σ) (hF : zp_wF κ F) (hp : zp_ph F ≤ n) (H : zp_RepC σ r F) : ∃ σ', fn_Fl_workOut_56 (nI r) (f + 1) σ (nI l2) = some σ' ∧ (∀ a, a < 100 → σ' (11 + r) a = zp_enc ((zp_arun κ r n F).1 a)) ∧ σ' 9 r = 1 ∧ zp_FrC r σ σ' := by
    have hi1 : ¬ (nI r < 0 ∨ 4 ≤ r) := fun q => q.elim (zp_q_nn (by omega)) (by omega)
    unfold fn_Fl_workOut_56
    rw [if_neg (show ¬ (1400 : Int32) < nI l2 from fun q => by have := (zp_q_lt (a := 1400) (by decide) (by omega)).mp q; omega)]
    obtain ⟨t1, t2⟩ := zp_c_takeLeast hr H
    cases hq : zp_least F.2 with
    | none =>
      obtain ⟨σ1, e1, H1, f1⟩ := t1 hq
      rw [e1]
      simp only [bd, nm, if_true, zp_q_nat (show r < 2 ^ 31 by omega), if_neg hi1]
      refine ⟨_, rfl, fun a ha => ?_, zp_mw_at, fun k j h1 h2 h3 h4 => ?_⟩
      · rw [zp_mw_k (by omega), H1.1 a ha]
        cases n with
        | zero => rfl
        | succ n => unfold zp_arun; rw [hq]
      · rw [zp_mw_kj h4]; exact f1 k j h1 h2 h3 h4
    | some x =>
      obtain ⟨σ1, e1, H1, f1⟩ := t2 x hq
      obtain ⟨hx, hWx, -⟩ := zp_least_some hq
      rw [e1]
      simp only [bd]
      rw [if_neg (zp_nI_ne (by omega) _ (by decide))]
      have ec := zp_FrC_cod f1
      have hC1 : zp_wC σ1 := zp_cod_wC (by rw [ec]; exact zp_wC_cod hC)
      obtain ⟨hF1, hp1⟩ := zp_take_ok hF hx hWx
      have hk1 : zp_cod σ1 = κ := ec.trans hk
      have hx1 : x < (σ1 1 0).toNatClampNeg := by
        have := hF.2.1 x hWx
        rw [← hk1] at this; exact this
      obtain ⟨σ2, e2, H2, f2⟩ := zp_c_goOn hC1 hr hx1 (by rw [hk1]; exact hF1) H1
      rw [e2]
      simp only [bv]
      rw [hk1] at H2
      have hk2 : zp_cod σ2 = κ := (zp_FrC_cod f2).trans hk1
      obtain ⟨hF2, hp2⟩ := zp_agoOn_ok (r := r) (by rw [← hk]; exact hC) hF1 hx
      cases n with
      | zero =>
        have := zp_ph0 (F := F) (by omega)
        rw [this] at hq; cases hq
      | succ n =>
        rw [zp_q_succ]
        obtain ⟨σ3, e3, H3, k3, f3⟩ := ih (l2 + 1) σ2 _ n rfl (by omega) hk2 (zp_cod_wC (by rw [hk2, ← hk]; exact zp_wC_cod hC)) hF2 (by omega) H2
        refine ⟨σ3, e3, ?_, k3, zp_FrC_tr (zp_FrC_tr f1 f2) f3⟩
        unfold zp_arun
        rw [hq]
        exact H3
theorem zp_c_run {κ : mm_M} (hr : r < 4) (n : Nat) : ∀ (f l2 : Nat) (σ : mm_M) (F : zp_FF), n < f → l2 + n ≤ 1400 → zp_cod σ = κ → zp_wC σ → zp_wF κ F → zp_ph F ≤ n → zp_RepC σ r F → ∃ σ', fn_Fl_workOut_56 (nI r) f σ (nI l2) = some σ' ∧ (∀ a, a < 100 → σ' (11 + r) a = zp_enc ((zp_arun κ r n F).1 a)) ∧ σ' 9 r = 1 ∧ zp_FrC r σ σ' := by
  induction n with
  | zero =>
    intro f l2 σ F hf hl hk hC hF hp H
    obtain ⟨f', rfl⟩ : ∃ f', f = f' + 1 := ⟨f - 1, by omega⟩
    exact zp_c_run1 (fun _ _ _ m q => by omega) hr hl hk hC hF hp H
  | succ n ih =>
    intro f l2 σ F hf hl hk hC hF hp H
    obtain ⟨f', rfl⟩ : ∃ f', f = f' + 1 := ⟨f - 1, by omega⟩
    refine zp_c_run1 (fun l2 σ F m q h1 h2 h3 h4 h5 h6 => ?_) hr hl hk hC hF hp H
    have e : n = m := by omega
    subst e
    exact ih f' l2 σ F (by omega) h1 h2 h3 h4 h5 h6
end
end

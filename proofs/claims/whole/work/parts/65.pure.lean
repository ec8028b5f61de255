/-! the functions alone, 15 -/
noncomputable section
def zp_scan (p : Nat → Bool) : Nat → Nat → Int32
  | 0, _ => -1
  | n + 1, i => if p i = true then nI i else zp_scan p n (i + 1)
def zp_unf (κ : mm_M) (r : Nat) (S : Nat → zp_AS) (a : Nat) : Bool := match S a with
  | none => false
  | some none => true
  | some (some ds) => !(zp_tr κ r a ds).isSome
def zp_luf (κ : mm_M) (r : Nat) : Int32 := if zp_isA κ (κ 5 r) = true then zp_scan (zp_unf κ r (zp_fin κ r).1) (κ 1 0).toNatClampNeg 0 else 999
theorem zp_arun_wF {κ : mm_M} (hC : zp_wC κ) (r n : Nat) : ∀ F, zp_wF κ F → zp_wF κ (zp_arun κ r n F) := by
  induction n with
  | zero => exact fun F h => h
  | succ n ih =>
    intro F h
    unfold zp_arun
    split
    · exact h
    · rename_i a hq
      obtain ⟨h1, h2, -⟩ := zp_least_some hq
      exact ih _ (zp_agoOn_ok hC (zp_take_ok h h1 h2).1 h1).1
theorem zp_fin_wF {κ : mm_M} (hC : zp_wC κ) (r : Nat) : zp_wF κ (zp_fin κ r) := zp_arun_wF hC r _ _ (zp_ini_ok hC r).1
section
variable {σ : mm_M} {r a : Nat} {ds : List Nat}
theorem zp_c_clear2 (hr : r < 4) : ∀ (m f i : Nat) (σ : mm_M), 100 - i = m → i ≤ 100 → m < f → (∀ a, a < i → σ (11 + r) a = -1 ∧ σ 15 a = 0) → ∃ σ', fn_Fl_clear_2 (nI r) f σ (nI i) = some σ' ∧ zp_RepC σ' r zp_em ∧ zp_FrC r σ σ' := by
  intro m
  induction m with
  | zero =>
    intro f i σ hm hi hf hlow
    obtain ⟨f', rfl⟩ : ∃ f', f = f' + 1 := ⟨f - 1, by omega⟩
    have e : i = 100 := by omega
    subst e
    unfold fn_Fl_clear_2
    rw [if_pos (by decide)]
    simp only [nm]
    refine ⟨_, rfl, ⟨fun a ha => ?_, fun a ha => ?_, 100, by omega, zp_mw_at, fun _ _ => rfl⟩, fun k j h1 h2 h3 h4 => by rw [zp_mw_k h3]⟩
    · rw [zp_mw_k (by omega)]; exact (hlow a ha).1
    · rw [zp_mw_k (by omega)]; exact (hlow a ha).2
  | succ m ih =>
    intro f i σ hm hi hf hlow
    obtain ⟨f', rfl⟩ : ∃ f', f = f' + 1 := ⟨f - 1, by omega⟩
    have hi1 : ¬ (nI r < 0 ∨ 4 ≤ r) := fun q => q.elim (zp_q_nn (by omega)) (by omega)
    have hi2 : ¬ (nI i < 0 ∨ 100 ≤ i) := fun q => q.elim (zp_q_nn (by omega)) (by omega)
    unfold fn_Fl_clear_2
    rw [if_neg (show ¬ (100 : Int32) ≤ nI i from fun q => by have := (zp_q_le (a := 100) (by decide) (by omega)).mp q; omega), zp_q_nat (show i < 2 ^ 31 by omega), zp_q_nat (show r < 2 ^ 31 by omega)]
    simp only [nm, if_neg hi1, if_neg hi2]
    rw [zp_q_succ]
    obtain ⟨σ', e, H, fr⟩ := ih f' (i + 1) (mw (mw σ (11 + r) i (-1)) 15 i 0) (by omega) (by omega) (by omega) (fun a ha => by
      rw [zp_mw_k (by omega)]
      by_cases q : a = i
      · subst q; exact ⟨zp_mw_at, zp_mw_at⟩
      · rw [zp_mw_j q, zp_mw_j q, zp_mw_k (by omega)]
        exact hlow a (by omega))
    refine ⟨σ', e, H, fun k j h1 h2 h3 h4 => ?_⟩
    rw [fr k j h1 h2 h3 h4, zp_mw_k h2, zp_mw_k h1]
theorem zp_c_clear (hr : r < 4) : ∃ σ', fn_Fl_clear σ (nI r) = some σ' ∧ zp_RepC σ' r zp_em ∧ zp_FrC r σ σ' :=
  zp_c_clear2 hr 100 fuel0 0 σ rfl (by omega) (by unfold fuel0; omega) (fun a ha => by omega)
theorem zp_c_first4 (hr : r < 4) {p : Nat} (hp : p ≤ 3) (e : σ 6 r = nI p) : ∀ (m f i : Nat) (ds : List Nat), p - i = m → i ≤ p → m < f → ds.length = 6 → zp_d4 ds → (∀ k, k < i → ds.getD k 0 = zp_kd σ r (nI k)) → (∀ k, i ≤ k → ds.getD k 0 = 0) → fn_Co_firstState_4 (nI r) f σ (nI (zp_pkd ds)) (nI i) = some (nI (zp_pkd (zp_fst0 σ r)), σ) := by
  have hi1 : ¬ (nI r < 0 ∨ 4 ≤ r) := fun q => q.elim (zp_q_nn (by omega)) (by omega)
  intro m
  induction m with
  | zero =>
    intro f i ds hm hi hf hl h4 ha hb
    obtain ⟨f', rfl⟩ : ∃ f', f = f' + 1 := ⟨f - 1, by omega⟩
    unfold fn_Co_firstState_4
    rw [zp_q_nat (show r < 2 ^ 31 by omega), if_neg hi1, e, if_pos ((zp_q_le (by omega) (by omega)).mpr (by omega))]
    have : ds = zp_fst0 σ r := by
      apply zp_ext_getD (by rw [hl, zp_fst0_len])
      intro k hk
      rw [zp_fst0_get _ _ (by omega), e, zp_q_nat (by omega)]
      by_cases q : k < p
      · rw [if_pos q]; exact ha k (by omega)
      · rw [if_neg q]; exact hb k (by omega)
    rw [this]
  | succ m ih =>
    intro f i ds hm hi hf hl h4 ha hb
    obtain ⟨f', rfl⟩ : ∃ f', f = f' + 1 := ⟨f - 1, by omega⟩
    unfold fn_Co_firstState_4
    rw [zp_q_nat (show r < 2 ^ 31 by omega), if_neg hi1, e, if_neg (fun q => by have := (zp_q_le (by omega) (by omega)).mp q; omega), zp_c_kind hr]
    simp only [bd]
    rw [zp_s_withL ⟨h4, by omega, by omega⟩ (by omega) (zp_kd_lt _ _ _)]
    simp only
    rw [zp_q_succ]
    refine ih f' (i + 1) (ds.set i (zp_kd σ r (nI i))) (by omega) (by omega) (by omega) (by rw [List.length_set]; exact hl) (fun x hx => ?_) (fun k hk => ?_) (fun k hk => ?_)
    · rcases List.mem_or_eq_of_mem_set hx with q | q
      · exact h4 x q
      · rw [q]; exact zp_kd_lt _ _ _
    · rw [zp_set_getD (by omega)]
      by_cases q : k = i
      · rw [if_pos q, q]
      · rw [if_neg q]; exact ha k (by omega)
    · rw [zp_set_getD (by omega), if_neg (by omega)]; exact hb k (by omega)
theorem zp_c_first (hC : zp_wC σ) (hr : r < 4) : fn_Co_firstState σ (nI r) = some (nI (zp_pkd (zp_fst0 σ r)), σ) := by
  obtain ⟨p, hp, e⟩ := (hC.2 r hr).2
  have key := zp_c_first4 hr hp e p fuel0 0 [0, 0, 0, 0, 0, 0] (by omega) (by omega) (by unfold fuel0; omega) rfl (fun x hx => by simp at hx; omega) (fun k hk => by omega) (fun k _ => by
    rcases Nat.lt_or_ge k 6 with q | q
    · rcases (show k = 0 ∨ k = 1 ∨ k = 2 ∨ k = 3 ∨ k = 4 ∨ k = 5 by omega) with rfl | rfl | rfl | rfl | rfl | rfl <;> rfl
    · exact zp_getD_out (by simpa using q))
  exact key
def zp_knC (σ : mm_M) (r : Nat) : Prop := σ 9 r = 0 ∨ (σ 9 r = 1 ∧ ∀ a, a < 100 → σ (11 + r) a = zp_enc ((zp_fin (zp_cod σ) r).1 a))
theorem zp_c_work (hC : zp_wC σ) (hr : r < 4) (hk : zp_knC σ r) : ∃ σ', fn_Fl_workOut σ (nI r) = some σ' ∧ (∀ a, a < 100 → σ' (11 + r) a = zp_enc ((zp_fin (zp_cod σ) r).1 a)) ∧ σ' 9 r = 1 ∧ zp_FrC r σ σ' := by
  have hi1 : ¬ (nI r < 0 ∨ 4 ≤ r) := fun q => q.elim (zp_q_nn (by omega)) (by omega)
  unfold fn_Fl_workOut
  rw [zp_q_nat (show r < 2 ^ 31 by omega), if_neg hi1]
  rcases hk with h0 | ⟨h1, h2⟩
  · rw [if_pos h0]
    obtain ⟨σ1, e1, H1, f1⟩ := zp_c_clear (σ := σ) hr
    have ec := zp_FrC_cod f1
    have hC1 : zp_wC σ1 := zp_cod_wC (by rw [ec]; exact zp_wC_cod hC)
    rw [e1]
    simp only [bv, fn_Co_startOf, bd, zp_q_nat (show r < 2 ^ 31 by omega), if_neg hi1]
    rw [zp_c_hasI]
    simp only
    have hini : zp_ini (zp_cod σ) r = if zp_isA σ1 (σ1 5 r) = true then zp_aput zp_em (σ1 5 r).toNatClampNeg (zp_fst0 σ1 r) else zp_em := by rw [← ec]; rfl
    obtain ⟨wi, pi⟩ := zp_ini_ok (zp_wC_cod hC) r
    have hf0 : 1400 < fuel0 := by decide
    cases hi : zp_isA σ1 (σ1 5 r) with
    | false =>
      simp only [Bool.false_eq_true, if_false, if_true]
      rw [hi] at hini
      simp only [Bool.false_eq_true, if_false] at hini
      obtain ⟨σ2, e2, k1, k2, f2⟩ := zp_c_run hr 1400 fuel0 0 σ1 zp_em hf0 (by omega) ec hC1 zp_em_ok.1 (Nat.le_of_eq (zp_em_ok (κ := σ)).2) H1
      refine ⟨σ2, e2, ?_, k2, zp_FrC_tr f1 f2⟩
      unfold zp_fin
      rw [hini]; exact k1
    | true =>
      simp only [if_true, if_neg (show ¬ (1 : Int32) = 0 by decide)]
      rw [hi] at hini
      simp only [if_true] at hini
      obtain ⟨n, hn, e, hlt⟩ := zp_isA_n hC1 hi
      rw [e] at hini ⊢
      rw [zp_q_nat (by omega)] at hini
      rw [zp_c_first hC1 hr]
      simp only
      obtain ⟨σ2, e2, H2, f2⟩ := zp_c_meet (a := n) hr hn (fun b d hb => by cases hb) (zp_fst0_w σ1 r) H1
      rw [e2]
      simp only
      rw [← hini] at H2
      have ec2 : zp_cod σ2 = zp_cod σ := (zp_FrC_cod f2).trans ec
      obtain ⟨σ3, e3, k1, k2, f3⟩ := zp_c_run hr 1400 fuel0 0 σ2 _ hf0 (by omega) ec2 (zp_cod_wC (by rw [ec2]; exact zp_wC_cod hC)) wi pi H2
      exact ⟨σ3, e3, k1, k2, zp_FrC_tr (zp_FrC_tr f1 f2) f3⟩
  · rw [if_neg (by rw [h1]; decide)]
    exact ⟨σ, rfl, h2, h1, zp_FrC_refl⟩
theorem zp_c_fitsA {s : Option (List Nat)} (hC : zp_wC σ) (hr : r < 4) (ha : a < (σ 1 0).toNatClampNeg) (hs : zp_okA (some s)) : fn_Co_fits σ (nI r) (nI a) (zp_enc (some s)) = some (if zp_unf σ r (fun _ => some s) a = true then 0 else 1, σ) := by
  match s with
  | none =>
    unfold fn_Co_fits zp_enc zp_unf
    simp
  | some ds =>
    show fn_Co_fits σ (nI r) (nI a) (nI (zp_pkd ds)) = _
    rw [zp_c_fits hC (hs ds rfl) hr ha]
    unfold zp_unf
    simp only
    by_cases hq : (zp_tr σ r a ds).isSome = true
    · simp [hq]
    · simp [hq]
theorem zp_c_scan (hC : zp_wC σ) (hr : r < 4) {S : Nat → zp_AS} (hS : ∀ a, zp_okA (S a)) (H : ∀ a, a < 100 → σ (11 + r) a = zp_enc (S a)) : ∀ (m f i : Nat), (σ 1 0).toNatClampNeg - i = m → i ≤ (σ 1 0).toNatClampNeg → m < f → fn_Fl_leastUnfit_24 (nI r) f σ (nI i) = some (zp_scan (zp_unf σ r S) m i, σ) := by
  have hi1 : ¬ (nI r < 0 ∨ 4 ≤ r) := fun q => q.elim (zp_q_nn (by omega)) (by omega)
  obtain ⟨⟨N, hN, eN⟩, -⟩ := id hC
  have eN2 : (σ 1 0).toNatClampNeg = N := by rw [eN, zp_q_nat (by omega)]
  intro m
  induction m with
  | zero =>
    intro f i hm hi hf
    obtain ⟨f', rfl⟩ : ∃ f', f = f' + 1 := ⟨f - 1, by omega⟩
    unfold fn_Fl_leastUnfit_24
    rw [eN, if_pos ((zp_q_le (by omega) (by omega)).mpr (by omega))]
    rfl
  | succ m ih =>
    intro f i hm hi hf
    obtain ⟨f', rfl⟩ : ∃ f', f = f' + 1 := ⟨f - 1, by omega⟩
    have hi2 : ¬ (nI i < 0 ∨ 100 ≤ i) := fun q => q.elim (zp_q_nn (by omega)) (by omega)
    unfold fn_Fl_leastUnfit_24 zp_scan
    rw [eN, if_neg (fun q => by have := (zp_q_le (by omega) (by omega)).mp q; omega), zp_q_nat (show r < 2 ^ 31 by omega), zp_q_nat (show i < 2 ^ 31 by omega), if_neg hi1, if_neg hi2, H i (by omega)]
    simp only [nm]
    have ih' := ih f' (i + 1) (by omega) (by omega) (by omega)
    cases hs : S i with
    | none =>
      rw [if_pos (show zp_enc none = -1 from rfl), zp_q_succ, ih']
      simp [zp_unf, hs]
    | some s =>
      have hok := hS i
      rw [hs] at hok
      have hne : ¬ zp_enc (some s) = -1 := by
        cases s with
        | none => decide
        | some ds => exact zp_nI_ne (by have := zp_pkd_lt (hok ds rfl); omega) _ (by decide)
      rw [if_neg hne, zp_c_fitsA hC hr (by omega) hok]
      simp only [bd]
      have hu : zp_unf σ r S i = zp_unf σ r (fun _ => some s) i := by unfold zp_unf; rw [hs]
      rw [hu]
      cases zp_unf σ r (fun _ => some s) i with
      | true => simp
      | false =>
        simp only [Bool.false_eq_true, if_false, if_neg (show ¬ (1 : Int32) = 0 by decide)]
        rw [zp_q_succ]; exact ih'
theorem zp_c_least (hC : zp_wC σ) (hr : r < 4) (H : ∀ a, a < 100 → σ (11 + r) a = zp_enc ((zp_fin (zp_cod σ) r).1 a)) : fn_Fl_leastUnfit σ (nI r) = some (zp_luf (zp_cod σ) r, σ) := by
  have hi1 : ¬ (nI r < 0 ∨ 4 ≤ r) := fun q => q.elim (zp_q_nn (by omega)) (by omega)
  unfold fn_Fl_leastUnfit fn_Co_startOf zp_luf
  rw [zp_q_nat (show r < 2 ^ 31 by omega), if_neg hi1]
  simp only [bd]
  rw [zp_c_hasI]
  simp only
  show _ = some (if zp_isA σ (σ 5 r) = true then _ else _, σ)
  have hc := zp_cn_le hC
  cases hi : zp_isA σ (σ 5 r) with
  | false => simp
  | true =>
    simp only [if_true, if_neg (show ¬ (1 : Int32) = 0 by decide)]
    exact zp_c_scan hC hr (fun a => fun d hd => (zp_fin_wF (zp_wC_cod hC) r).1 a d hd) H (σ 1 0).toNatClampNeg fuel0 0 rfl (by omega) (by unfold fuel0; omega)
end
end

/-! the functions alone, 12 -/
noncomputable section
abbrev zp_AS : Type := Option (Option (List Nat))
abbrev zp_FF : Type := (Nat → zp_AS) × (Nat → Bool)
def zp_amet (s : zp_AS) (ds : List Nat) : zp_AS := match s with
  | none => some (some ds)
  | some none => some none
  | some (some d0) => if d0.length = ds.length then some (some (zp_md d0 ds)) else some none
def zp_fu {α : Type} (f : Nat → α) (k : Nat) (x : α) : Nat → α := fun j => if j = k then x else f j
theorem zp_fu_at {α : Type} {f : Nat → α} {k : Nat} {x : α} : zp_fu f k x k = x := if_pos rfl
theorem zp_fu_ne {α : Type} {f : Nat → α} {k j : Nat} {x : α} (h : j ≠ k) : zp_fu f k x j = f j := if_neg h
def zp_aput (F : zp_FF) (a : Nat) (ds : List Nat) : zp_FF := if zp_amet (F.1 a) ds = F.1 a then F else (zp_fu F.1 a (zp_amet (F.1 a) ds), zp_fu F.2 a true)
def zp_fstW : Nat → (Nat → Bool) → Nat → Option Nat
  | 0, _, _ => none
  | n + 1, W, i => if W i = true then some i else zp_fstW n W (i + 1)
def zp_least (W : Nat → Bool) : Option Nat := zp_fstW 100 W 0
def zp_agoOn (κ : mm_M) (r a : Nat) (F : zp_FF) : zp_FF := match F.1 a with
  | some (some ds) => match zp_tr κ r a ds with
    | some d => if zp_jmp (zp_oo κ a) = true then zp_aput (if op_behind (zp_oo κ a) = 0 then F else zp_aput F (a + 1) d) (κ 3 a).toNatClampNeg d else (if op_behind (zp_oo κ a) = 0 then F else zp_aput F (a + 1) d)
    | none => F
  | _ => F
def zp_arun (κ : mm_M) (r : Nat) : Nat → zp_FF → zp_FF
  | 0, F => F
  | n + 1, F => match zp_least F.2 with
    | none => F
    | some a => zp_arun κ r n (zp_agoOn κ r a (F.1, zp_fu F.2 a false))
def zp_wF (κ : mm_M) (F : zp_FF) : Prop := (∀ a ds, F.1 a = some (some ds) → zp_wS 12 ds) ∧ (∀ a, F.2 a = true → a < (κ 1 0).toNatClampNeg) ∧ ∀ a, (κ 1 0).toNatClampNeg ≤ a → F.1 a = none
def zp_em : zp_FF := (fun _ => none, fun _ => false)
def zp_sm : Nat → (Nat → Nat) → Nat
  | 0, _ => 0
  | n + 1, f => zp_sm n f + f n
def zp_any3 (ds : List Nat) : Nat := ds.countP (fun x => decide (x = 3))
def zp_wt : zp_AS → Nat
  | none => 14
  | some none => 0
  | some (some ds) => 13 - zp_any3 ds
def zp_ph (F : zp_FF) : Nat := zp_sm 100 (fun a => zp_wt (F.1 a) + (if F.2 a = true then 1 else 0))
theorem zp_sm_le : ∀ (n : Nat) (f g : Nat → Nat), (∀ i, i < n → f i ≤ g i) → zp_sm n f ≤ zp_sm n g
  | 0, _, _, _ => Nat.le_refl _
  | n + 1, f, g, h => Nat.add_le_add (zp_sm_le n f g (fun i hi => h i (by omega))) (h n (by omega))
theorem zp_sm_lt : ∀ (n : Nat) (f g : Nat → Nat) (k : Nat), k < n → (∀ i, i < n → f i ≤ g i) → f k < g k → zp_sm n f < zp_sm n g
  | 0, _, _, _, h, _, _ => by omega
  | n + 1, f, g, k, hk, h, hl => by
    unfold zp_sm
    have h1 := h n (by omega)
    rcases Nat.lt_or_ge k n with q | q
    · have := zp_sm_lt n f g k q (fun i hi => h i (by omega)) hl
      omega
    · have e : k = n := by omega
      subst e
      have := zp_sm_le k f g (fun i hi => h i (by omega))
      omega
theorem zp_any3_md : ∀ (a b : List Nat), a.length = b.length → zp_any3 a ≤ zp_any3 (zp_md a b) ∧ (zp_md a b ≠ a → zp_any3 a < zp_any3 (zp_md a b))
  | [], [], _ => ⟨Nat.le_refl _, fun h => absurd rfl h⟩
  | [], _ :: _, h => by simp at h
  | _ :: _, [], h => by simp at h
  | x :: a, y :: b, h => by
    obtain ⟨i1, i2⟩ := zp_any3_md a b (by simpa using h)
    have e : zp_md (x :: a) (y :: b) = zp_m1 x y :: zp_md a b := rfl
    rw [e]
    unfold zp_any3 at i1 i2 ⊢
    rw [List.countP_cons, List.countP_cons]
    by_cases hxy : zp_m1 x y = x
    · rw [hxy]
      refine ⟨by omega, fun q => ?_⟩
      have := i2 (fun q2 => q (by rw [q2]))
      omega
    · have hx3 : ¬ x = 3 := fun q => hxy (by unfold zp_m1; split; rfl; exact q.symm)
      have h3 : zp_m1 x y = 3 := by unfold zp_m1 at hxy ⊢; split; rename_i q; exact absurd (by rw [if_pos q]) hxy; rfl
      simp only [h3, hx3, decide_true, decide_false, if_true]
      refine ⟨by simp; omega, fun _ => by simp; omega⟩
theorem zp_any3_le {ds : List Nat} (h : zp_wS 12 ds) : zp_any3 ds ≤ 12 := Nat.le_trans List.countP_le_length h.2.2
theorem zp_amet_w {s : zp_AS} {ds : List Nat} (hs : ∀ d, s = some (some d) → zp_wS 12 d) (h : zp_wS 12 ds) : ∀ d, zp_amet s ds = some (some d) → zp_wS 12 d := by
  intro d hd
  unfold zp_amet at hd
  split at hd
  · cases hd; exact h
  · cases hd
  · rename_i d0
    split at hd
    · rename_i hl
      cases hd
      have := hs d0 rfl
      exact ⟨zp_md_4 this.1, by rw [zp_md_len hl]; exact this.2.1, by rw [zp_md_len hl]; exact this.2.2⟩
    · cases hd
theorem zp_wt_lt {s : zp_AS} {ds : List Nat} (hs : ∀ d, s = some (some d) → zp_wS 12 d) (h : zp_wS 12 ds) (hne : zp_amet s ds ≠ s) : zp_wt (zp_amet s ds) < zp_wt s := by
  have hw := zp_amet_w hs h
  unfold zp_amet at hne hw ⊢
  split at hne
  · show 13 - zp_any3 ds < 14; omega
  · exact absurd rfl hne
  · rename_i d0
    have w0 := hs d0 rfl
    have := zp_any3_le w0
    split at hne
    · rename_i hl
      simp only [hl, if_true] at hw ⊢
      have h1 := (zp_any3_md d0 ds hl).2 (fun q => hne (by rw [q]))
      have h2 := zp_any3_le (hw _ rfl)
      show 13 - zp_any3 (zp_md d0 ds) < 13 - zp_any3 d0
      omega
    · rename_i hl
      simp only [hl, if_false]
      show 0 < 13 - zp_any3 d0
      omega
section
variable {κ : mm_M} {F : zp_FF} {a r : Nat} {ds : List Nat}
theorem zp_aput_wF (hF : zp_wF κ F) (ha : a < (κ 1 0).toNatClampNeg) (h : zp_wS 12 ds) : zp_wF κ (zp_aput F a ds) := by
  unfold zp_aput
  split
  · exact hF
  · refine ⟨fun b d hb => ?_, fun b hb => ?_, fun b hb => ?_⟩
    · by_cases q : b = a
      · subst q
        simp only [zp_fu_at] at hb
        exact zp_amet_w (hF.1 b) h d hb
      · simp only [zp_fu_ne q] at hb
        exact hF.1 b d hb
    · by_cases q : b = a
      · rw [q]; exact ha
      · simp only [zp_fu_ne q] at hb
        exact hF.2.1 b hb
    · show zp_fu F.1 a _ b = none
      rw [zp_fu_ne (by omega)]
      exact hF.2.2 b hb
theorem zp_aput_ph (hF : zp_wF κ F) (h : zp_wS 12 ds) (ha : a < 100) : zp_ph (zp_aput F a ds) ≤ zp_ph F := by
  unfold zp_aput
  split
  · exact Nat.le_refl _
  · rename_i hne
    apply zp_sm_le
    intro i hi
    by_cases q : i = a
    · subst q
      simp only [zp_fu_at, if_true]
      have := zp_wt_lt (hF.1 i) h hne
      omega
    · simp only [zp_fu_ne q]
      exact Nat.le_refl _
theorem zp_tr_ok (hC : zp_wC κ) {d : List Nat} (h : zp_wS 12 ds) (ht : zp_tr κ r a ds = some d) : zp_wS 12 d ∧ zp_okop κ a = true ∧ zp_oo κ a < 20 ∧ (op_behind (zp_oo κ a) ≠ 0 → zp_isA κ (nI a + 1) = true) ∧ (zp_jmp (zp_oo κ a) = true → zp_isA κ (κ 3 a) = true) ∧ zp_nf κ (zp_oo κ a) (κ 3 a) ds = true ∧ (zp_wants κ r (zp_oo κ a) (κ 3 a)).length + 6 ≤ ds.length ∧ d = zp_aft κ (zp_oo κ a) (κ 3 a) ds ∧ zp_popok (zp_wants κ r (zp_oo κ a) (κ 3 a)) ds = true := by
  unfold zp_tr at ht
  split at ht
  · rename_i hc
    cases ht
    simp only [Bool.and_eq_true, decide_eq_true_eq] at hc
    obtain ⟨⟨⟨⟨h1, h2⟩, h3⟩, h4⟩, h5⟩ := hc
    have ho : zp_oo κ a < 20 := by
      have h1' := h1
      simp only [zp_okop, Bool.and_eq_true, Bool.not_eq_true', decide_eq_false_iff_not] at h1'
      obtain ⟨n, hn, e⟩ := zp_q_bd (N := 20) (by decide) h1'.1 h1'.2
      unfold zp_oo; rw [e, zp_q_nat (by omega)]; exact hn
    have hp := h4
    unfold zp_popok at h4
    simp only [Bool.and_eq_true, decide_eq_true_eq] at h4
    have w13 := zp_aft_ok hC h ho h3 (by rw [zp_wants_len κ 0 r]; exact h4.1)
    refine ⟨⟨w13.1, w13.2.1, h5⟩, h1, ho, fun q => ?_, fun q => ?_, h3, h4.1, rfl, hp⟩
    · unfold zp_bh at h2
      rw [Bool.or_eq_true, decide_eq_true_eq] at h2
      exact h2.resolve_left q
    · unfold zp_nf at h3
      simp only [zp_jmp, Bool.or_eq_true, decide_eq_true_eq] at q
      rw [if_neg (by omega), if_neg (by omega), if_neg (by omega), if_pos (by simp only [zp_jmp, Bool.or_eq_true, decide_eq_true_eq]; exact q)] at h3
      exact h3
  · cases ht
theorem zp_agoOn_ok (hC : zp_wC κ) (hF : zp_wF κ F) (ha : a < 100) : zp_wF κ (zp_agoOn κ r a F) ∧ zp_ph (zp_agoOn κ r a F) ≤ zp_ph F := by
  unfold zp_agoOn
  split
  · rename_i ds hs
    have hw := hF.1 a ds hs
    split
    · rename_i d ht
      obtain ⟨wd, -, -, h1, h2, -⟩ := zp_tr_ok hC hw ht
      have step1 : zp_wF κ (if op_behind (zp_oo κ a) = 0 then F else zp_aput F (a + 1) d) ∧ zp_ph (if op_behind (zp_oo κ a) = 0 then F else zp_aput F (a + 1) d) ≤ zp_ph F := by
        split
        · exact ⟨hF, Nat.le_refl _⟩
        · rename_i q
          have hA := h1 q
          rw [zp_q_succ] at hA
          obtain ⟨n, hn, e, hlt⟩ := zp_isA_n hC hA
          have e' : a + 1 = n := (zp_q_eq (by omega) (by omega)).mp e
          subst e'
          exact ⟨zp_aput_wF hF hlt wd, zp_aput_ph hF wd hn⟩
      split
      · rename_i q
        obtain ⟨n, hn, e, hlt⟩ := zp_isA_n hC (h2 q)
        rw [e, zp_q_nat (by omega)]
        exact ⟨zp_aput_wF step1.1 hlt wd, Nat.le_trans (zp_aput_ph step1.1 wd hn) step1.2⟩
      · exact step1
    · exact ⟨hF, Nat.le_refl _⟩
  · exact ⟨hF, Nat.le_refl _⟩
theorem zp_fstW_spec (W : Nat → Bool) : ∀ (n i : Nat), match zp_fstW n W i with
    | none => ∀ j, i ≤ j → j < i + n → W j = false
    | some a => i ≤ a ∧ a < i + n ∧ W a = true ∧ ∀ j, i ≤ j → j < a → W j = false
  | 0, i => fun j h1 h2 => by omega
  | n + 1, i => by
    unfold zp_fstW
    by_cases h : W i = true
    · simp only [h, if_true]
      exact ⟨Nat.le_refl _, by omega, trivial, fun j h1 h2 => by omega⟩
    · simp only [h]
      have ih := zp_fstW_spec W n (i + 1)
      have hi : W i = false := by cases hq : W i; rfl; exact absurd hq h
      cases hq : zp_fstW n W (i + 1) with
      | none =>
        rw [hq] at ih
        intro j h1 h2
        rcases Nat.eq_or_lt_of_le h1 with q | q
        · rw [← q]; exact hi
        · exact ih j (by omega) (by omega)
      | some x =>
        rw [hq] at ih
        refine ⟨by omega, by omega, ih.2.2.1, fun j h1 h2 => ?_⟩
        rcases Nat.eq_or_lt_of_le h1 with q | q
        · rw [← q]; exact hi
        · exact ih.2.2.2 j (by omega) h2
theorem zp_least_none {W : Nat → Bool} (h : zp_least W = none) : ∀ j, j < 100 → W j = false := by
  have := zp_fstW_spec W 100 0
  unfold zp_least at h
  rw [h] at this
  exact fun j hj => this j (by omega) (by omega)
theorem zp_least_some {W : Nat → Bool} (h : zp_least W = some a) : a < 100 ∧ W a = true ∧ ∀ j, j < a → W j = false := by
  have := zp_fstW_spec W 100 0
  unfold zp_least at h
  rw [h] at this
  exact ⟨by omega, this.2.2.1, fun j hj => this.2.2.2 j (by omega) hj⟩
theorem zp_take_ok (hF : zp_wF κ F) (ha : a < 100) (hWa : F.2 a = true) : zp_wF κ (F.1, zp_fu F.2 a false) ∧ zp_ph (F.1, zp_fu F.2 a false) < zp_ph F := by
  refine ⟨⟨hF.1, fun b hb => ?_, hF.2.2⟩, ?_⟩
  · by_cases q : b = a
    · subst q; simp only [zp_fu_at] at hb; cases hb
    · simp only [zp_fu_ne q] at hb; exact hF.2.1 b hb
  · apply zp_sm_lt _ _ _ a ha
    · intro i hi
      by_cases q : i = a
      · subst q; simp only [zp_fu_at]; simp
      · simp only [zp_fu_ne q]; exact Nat.le_refl _
    · simp only [zp_fu_at, hWa]; simp
theorem zp_ph0 (h : zp_ph F = 0) : zp_least F.2 = none := by
  cases hq : zp_least F.2 with
  | none => rfl
  | some a =>
    obtain ⟨ha, hWa, -⟩ := zp_least_some hq
    have := zp_sm_lt 100 (fun _ => 0) (fun a => zp_wt (F.1 a) + (if F.2 a = true then 1 else 0)) a ha (fun i _ => Nat.zero_le _) (by simp only [hWa]; simp)
    unfold zp_ph at h
    omega
theorem zp_em_ok : zp_wF κ zp_em ∧ zp_ph zp_em = 1400 := ⟨⟨fun _ _ h => (by cases h), fun _ h => (by cases h), fun _ _ => rfl⟩, by decide⟩
end
end

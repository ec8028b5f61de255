/-! the functions alone, 3 -/
noncomputable section
def zp_pkd (ds : List Nat) : Nat := zp_pk (ds.length - 6) ds
def zp_wS (m : Nat) (ds : List Nat) : Prop := zp_d4 ds ∧ 6 ≤ ds.length ∧ ds.length ≤ m
theorem zp_d4_app {a b : List Nat} (ha : zp_d4 a) (hb : zp_d4 b) : zp_d4 (a ++ b) := fun x hx => (List.mem_append.mp hx).elim (ha x) (hb x)
theorem zp_d4_one {v : Nat} (h : v < 4) : zp_d4 [v] := fun x hx => by simp at hx; omega
theorem zp_d4_pre {a b : List Nat} (h : zp_d4 (a ++ b)) : zp_d4 a := fun x hx => h x (List.mem_append_left _ hx)
theorem zp_d4_suf {a b : List Nat} (h : zp_d4 (a ++ b)) : zp_d4 b := fun x hx => h x (List.mem_append_right _ hx)
theorem zp_d4_get {ds : List Nat} (h : zp_d4 ds) (k : Nat) : ds.getD k 0 < 4 := by
  rw [List.getD_eq_getElem?_getD]
  cases e : ds[k]? with
  | none => simp
  | some x => exact h x (List.mem_of_getElem? e)
theorem zp_d4_take {ds : List Nat} (h : zp_d4 ds) (k : Nat) : zp_d4 (ds.take k) := fun x hx => h x (List.mem_of_mem_take hx)
section
variable {σ : mm_M} {v k : Nat} {ds : List Nat}
theorem zp_s_height (h : zp_wS 13 ds) : fn_Ty_height σ (nI (zp_pkd ds)) = some (nI (ds.length - 6), σ) := zp_t_height (by have := h.2; omega)
theorem zp_s_at (h : zp_wS 13 ds) (hk : k < 14) : fn_Ty_at σ (nI (zp_pkd ds)) (nI k) = some (nI (ds.getD k 0), σ) := zp_t_at (by have := h.2; omega) h.1 h.2.2 hk
theorem zp_s_slot {d : Nat} (h : zp_wS 13 ds) (hd : d + 6 < ds.length) : fn_Ty_slotBelow σ (nI (zp_pkd ds)) (nI d) = some (nI (ds.length - 1 - d), σ) := by
  unfold fn_Ty_slotBelow
  have h2 := h.2
  have e : nI (zp_pkd ds) &&& 7 = nI (ds.length - 6) := by
    rw [zp_q_m7]; congr 1; unfold zp_pkd zp_pk; omega
  rw [e, show (6 : Int32) = nI 6 from rfl, show (1 : Int32) = nI 1 from rfl, zp_q_add, zp_q_sub (by omega), zp_q_sub (by omega)]
  congr 3; omega
theorem zp_s_below {d : Nat} (h : zp_wS 13 ds) (hd : d + 6 < ds.length) : fn_Ty_below σ (nI (zp_pkd ds)) (nI d) = some (nI (ds.getD (ds.length - 1 - d) 0), σ) := by
  unfold fn_Ty_below
  rw [zp_s_slot h hd]
  simp only [bd]
  rw [zp_s_at h (by have := h.2; omega)]
theorem zp_s_pushed (h : zp_wS 12 ds) (hv : v < 4) : fn_Ty_pushed σ (nI (zp_pkd ds)) (nI v) = some (nI (zp_pkd (ds ++ [v])), σ) := by
  have h2 := h.2
  unfold fn_Ty_pushed
  rw [zp_s_height ⟨h.1, h2.1, by omega⟩]
  simp only [bd]
  rw [show (6 : Int32) = nI 6 from rfl, zp_q_add, show 6 + (ds.length - 6) = ds.length by omega]
  unfold zp_pkd
  rw [zp_t_with (by omega) h.1 (by omega) (by omega) hv, zp_ps_end]
  simp only [bd]
  rw [show (1 : Int32) = nI 1 from rfl, zp_q_add]
  congr 3
  unfold zp_pk
  simp only [List.length_append, List.length_cons, List.length_nil]
  omega
theorem zp_s_withL (h : zp_wS 13 ds) (hk : k < 6) (hv : v < 4) : fn_Ty_with σ (nI (zp_pkd ds)) (nI k) (nI v) = some (nI (zp_pkd (ds.set k v)), σ) := by
  have h2 := h.2
  unfold zp_pkd
  rw [zp_t_with (by omega) h.1 h2.2 (by omega) hv, zp_ps_len _ _ _ (by omega), List.length_set]
theorem zp_snoc_of {ds : List Nat} (h : 0 < ds.length) : ∃ e x, ds = e ++ [x] := ⟨ds.dropLast, ds.getLast (by intro q; rw [q] at h; simp at h), (List.dropLast_concat_getLast _).symm⟩
theorem zp_s_drop1 (h : zp_wS 13 ds) (hl : 6 < ds.length) : (bd (fn_Ty_slotBelow σ (nI (zp_pkd ds)) (0 : Int32)) (fun r3 σ2 => bd (fn_Ty_with σ2 (nI (zp_pkd ds)) r3 (0 : Int32)) (fun r5 σ4 => some (r5 - (1 : Int32), σ4)))) = some (nI (zp_pkd (ds.take (ds.length - 1))), σ) := by
  have h2 := h.2
  rw [show (0 : Int32) = nI 0 from rfl, zp_s_slot h (by omega)]
  simp only [bd]
  obtain ⟨e, x, rfl⟩ := zp_snoc_of (ds := ds) (by omega)
  simp only [List.length_append, List.length_cons, List.length_nil] at h2 hl ⊢
  unfold zp_pkd
  rw [zp_t_with (by simp; omega) h.1 (by simp; omega) (by omega) (by decide), show e.length + (0 + 1) - 1 - 0 = e.length by omega]
  simp only [bd]
  rw [zp_ps_len _ _ _ (by simp), show (1 : Int32) = nI 1 from rfl]
  have e1 : (e ++ [x]).set e.length 0 = e ++ [0] := by simp
  have e2 : (e ++ [x]).take (e.length + (0 + 1) - 1) = e := by simp
  rw [e1, e2]
  unfold zp_pk
  rw [zp_dg_app0, zp_q_sub (by simp; omega)]
  congr 3
  simp only [List.length_append, List.length_cons, List.length_nil]
  omega
theorem zp_s_dropped_4 (a0 : Int32) : ∀ (m f : Nat) (n j : Nat) (ds : List Nat), n - j = m → j ≤ n → n < 100 → m < f → zp_wS 13 ds → m + 6 ≤ ds.length → fn_Ty_dropped_4 a0 (nI n) f σ (nI (zp_pkd ds)) (nI j) = some (nI (zp_pkd (ds.take (ds.length - m))), σ)
  | 0, f + 1, n, j, ds, hm, hj, hn, hf, h, hl => by
    unfold fn_Ty_dropped_4
    rw [if_pos ((zp_q_le (by omega) (by omega)).mpr (by omega))]
    simp
  | m + 1, f + 1, n, j, ds, hm, hj, hn, hf, h, hl => by
    unfold fn_Ty_dropped_4
    rw [if_neg (fun q => by have := (zp_q_le (by omega) (by omega)).mp q; omega)]
    have h2 := h.2
    have key := zp_s_drop1 (σ := σ) h (by omega)
    rw [show (0 : Int32) = nI 0 from rfl, zp_s_slot h (by omega)] at key ⊢
    simp only [bd, nm] at key ⊢
    cases e : fn_Ty_with σ (nI (zp_pkd ds)) (nI (ds.length - 1 - 0)) (nI 0) with
    | none => rw [e] at key; cases key
    | some z =>
      rw [e] at key
      simp only [bd, Option.some.injEq, Prod.mk.injEq] at key ⊢
      obtain ⟨k1, k2⟩ := key
      have k1' : z.1 - (1 : Int32) = nI (zp_pkd (ds.take (ds.length - 1))) := k1
      rw [k1', k2, show (1 : Int32) = nI 1 from rfl, zp_q_add, zp_s_dropped_4 a0 m f n (j + 1) (ds.take (ds.length - 1)) (by omega) (by omega) hn (by omega) ⟨zp_d4_take h.1 _, by simp; omega, by simp; omega⟩ (by simp; omega)]
      have e5 : (ds.take (ds.length - 1)).take ((ds.take (ds.length - 1)).length - m) = ds.take (ds.length - (m + 1)) := by
        rw [List.take_take, List.length_take]
        congr 1
        omega
      rw [e5]
theorem zp_s_dropped {n : Nat} (h : zp_wS 13 ds) (hn : n + 6 ≤ ds.length) : fn_Ty_dropped σ (nI (zp_pkd ds)) (nI n) = some (nI (zp_pkd (ds.take (ds.length - n))), σ) := by
  unfold fn_Ty_dropped
  have := h.2
  exact zp_s_dropped_4 _ n fuel0 n 0 ds (by omega) (by omega) (by omega) (by unfold fuel0; omega) h (by omega)
end
end

/-! the functions alone, 2 -/
noncomputable section
def zp_dg : List Nat → Nat
  | [] => 0
  | d :: ds => d + 4 * zp_dg ds
def zp_d4 (ds : List Nat) : Prop := ∀ x ∈ ds, x < 4
def zp_ps : List Nat → Nat → Nat → List Nat
  | [], 0, v => [v]
  | [], k + 1, v => 0 :: zp_ps [] k v
  | _ :: ds, 0, v => v :: ds
  | d :: ds, k + 1, v => d :: zp_ps ds k v
theorem zp_dg_div : ∀ (k : Nat) (ds : List Nat), zp_d4 ds → zp_dg ds / 4 ^ k % 4 = ds.getD k 0
  | 0, [], _ => by simp [zp_dg]
  | 0, d :: ds, h => by
    have : d < 4 := h d (by simp)
    simp [zp_dg]; omega
  | k + 1, [], _ => by simp [zp_dg]
  | k + 1, d :: ds, h => by
    have hd : d < 4 := h d (by simp)
    have e : zp_dg (d :: ds) / 4 ^ (k + 1) = zp_dg ds / 4 ^ k := by
      rw [Nat.pow_succ, Nat.mul_comm (4 ^ k) 4, ← Nat.div_div_eq_div_mul]
      congr 1
      simp only [zp_dg]; omega
    rw [e, zp_dg_div k ds (fun x hx => h x (by simp [hx]))]
    simp
theorem zp_dg_lt : ∀ (m : Nat) (ds : List Nat), zp_d4 ds → ds.length ≤ m → zp_dg ds < 4 ^ m
  | m, [], _, _ => by simp only [zp_dg]; exact Nat.pow_pos (by decide)
  | 0, d :: ds, _, h => by simp at h
  | m + 1, d :: ds, h, hl => by
    have hd : d < 4 := h d (by simp)
    have := zp_dg_lt m ds (fun x hx => h x (by simp [hx])) (by simpa using hl)
    simp only [zp_dg, Nat.pow_succ]; omega
theorem zp_d4_ps : ∀ (k v : Nat) (ds : List Nat), zp_d4 ds → v < 4 → zp_d4 (zp_ps ds k v)
  | 0, v, [], _, hv => by intro x hx; simp [zp_ps] at hx; omega
  | 0, v, d :: ds, h, hv => by intro x hx; simp [zp_ps] at hx; rcases hx with rfl | hx; exact hv; exact h x (by simp [hx])
  | k + 1, v, [], h, hv => by
    intro x hx
    simp only [zp_ps, List.mem_cons] at hx
    rcases hx with rfl | hx
    · decide
    · exact zp_d4_ps k v [] h hv x hx
  | k + 1, v, d :: ds, h, hv => by
    intro x hx
    simp only [zp_ps, List.mem_cons] at hx
    rcases hx with rfl | hx
    · exact h x (by simp)
    · exact zp_d4_ps k v ds (fun y hy => h y (by simp [hy])) hv x hx
theorem zp_dg_ps : ∀ (k v : Nat) (ds : List Nat), zp_d4 ds → v < 4 → zp_dg (zp_ps ds k v) % 4 ^ k = zp_dg ds % 4 ^ k ∧ zp_dg (zp_ps ds k v) / 4 ^ k % 4 = v ∧ zp_dg (zp_ps ds k v) / 4 ^ k / 4 = zp_dg ds / 4 ^ k / 4
  | 0, v, [], _, hv => by simp [zp_ps, zp_dg]; omega
  | 0, v, d :: ds, h, hv => by
    have hd : d < 4 := h d (by simp)
    simp [zp_ps, zp_dg]; omega
  | k + 1, v, [], h, hv => by
    obtain ⟨a, b, c⟩ := zp_dg_ps k v [] h hv
    have e : zp_dg (zp_ps [] (k + 1) v) / 4 ^ (k + 1) = zp_dg (zp_ps [] k v) / 4 ^ k := by
      rw [Nat.pow_succ, Nat.mul_comm (4 ^ k) 4, ← Nat.div_div_eq_div_mul]; congr 1; simp only [zp_ps, zp_dg]; omega
    have e2 : zp_dg ([] : List Nat) / 4 ^ (k + 1) = zp_dg ([] : List Nat) / 4 ^ k := by simp [zp_dg]
    refine ⟨?_, by rw [e]; exact b, by rw [e, e2]; exact c⟩
    rw [Nat.pow_succ, Nat.mul_comm (4 ^ k) 4, Nat.mod_mul, Nat.mod_mul]
    have e3 : zp_dg (zp_ps [] (k + 1) v) / 4 = zp_dg (zp_ps [] k v) := by simp only [zp_ps, zp_dg]; omega
    have e4 : zp_dg (zp_ps [] (k + 1) v) % 4 = 0 := by simp only [zp_ps, zp_dg]; omega
    rw [e3, e4, a]; simp [zp_dg]
  | k + 1, v, d :: ds, h, hv => by
    have hd : d < 4 := h d (by simp)
    obtain ⟨a, b, c⟩ := zp_dg_ps k v ds (fun x hx => h x (by simp [hx])) hv
    have e : zp_dg (zp_ps (d :: ds) (k + 1) v) / 4 ^ (k + 1) = zp_dg (zp_ps ds k v) / 4 ^ k := by
      rw [Nat.pow_succ, Nat.mul_comm (4 ^ k) 4, ← Nat.div_div_eq_div_mul]; congr 1; simp only [zp_ps, zp_dg]; omega
    have e2 : zp_dg (d :: ds) / 4 ^ (k + 1) = zp_dg ds / 4 ^ k := by
      rw [Nat.pow_succ, Nat.mul_comm (4 ^ k) 4, ← Nat.div_div_eq_div_mul]; congr 1; simp only [zp_dg]; omega
    refine ⟨?_, by rw [e]; exact b, by rw [e, e2]; exact c⟩
    rw [Nat.pow_succ, Nat.mul_comm (4 ^ k) 4, Nat.mod_mul, Nat.mod_mul]
    have e3 : zp_dg (zp_ps (d :: ds) (k + 1) v) / 4 = zp_dg (zp_ps ds k v) := by simp only [zp_ps, zp_dg]; omega
    have e4 : zp_dg (zp_ps (d :: ds) (k + 1) v) % 4 = d := by simp only [zp_ps, zp_dg]; omega
    have e5 : zp_dg (d :: ds) / 4 = zp_dg ds := by simp only [zp_dg]; omega
    have e6 : zp_dg (d :: ds) % 4 = d := by simp only [zp_dg]; omega
    rw [e3, e4, e5, e6, a]
theorem zp_ps_len : ∀ (k v : Nat) (ds : List Nat), k < ds.length → zp_ps ds k v = ds.set k v
  | 0, v, d :: ds, _ => rfl
  | k + 1, v, d :: ds, h => by simp only [zp_ps, List.set_cons_succ]; rw [zp_ps_len k v ds (by simpa using h)]
  | _, _, [], h => by simp at h
theorem zp_ps_end : ∀ (v : Nat) (ds : List Nat), zp_ps ds ds.length v = ds ++ [v]
  | v, [] => rfl
  | v, d :: ds => by simp only [List.length_cons, zp_ps, List.cons_append]; rw [zp_ps_end v ds]
theorem zp_dg_app0 : ∀ (ds : List Nat), zp_dg (ds ++ [0]) = zp_dg ds
  | [] => rfl
  | d :: ds => by simp only [List.cons_append, zp_dg, zp_dg_app0 ds]
def zp_pk (h : Nat) (ds : List Nat) : Nat := h + 8 * zp_dg ds
theorem zp_pk_lt {h : Nat} {ds : List Nat} (hh : h < 8) (h4 : zp_d4 ds) (hl : ds.length ≤ 13) : zp_pk h ds < 2 ^ 29 := by
  have := zp_dg_lt 13 ds h4 hl
  unfold zp_pk
  have e : (4 : Nat) ^ 13 = 67108864 := by decide
  rw [e] at this
  omega
theorem zp_pw_s (k : Nat) : 2 ^ (3 + 2 * k) = 8 * 4 ^ k := by
  rw [Nat.pow_add, Nat.pow_mul]
theorem zp_pk_div {h k : Nat} {ds : List Nat} (hh : h < 8) : zp_pk h ds / 2 ^ (3 + 2 * k) = zp_dg ds / 4 ^ k := by
  rw [zp_pw_s, ← Nat.div_div_eq_div_mul]
  congr 1
  unfold zp_pk; omega
theorem zp_q_s {k : Nat} (hk : k < 14) : ((3 : Int32) + ((2 : Int32) * nI k)) &&& 31 = nI (3 + 2 * k) := by
  rw [show (3 : Int32) = nI 3 from rfl, show (2 : Int32) = nI 2 from rfl, zp_q_mul, zp_q_add, zp_q_31 (by omega)]
section
variable {σ : mm_M} {h k v : Nat} {ds : List Nat}
theorem zp_t_at (hh : h < 8) (h4 : zp_d4 ds) (hl : ds.length ≤ 13) (hk : k < 14) : fn_Ty_at σ (nI (zp_pk h ds)) (nI k) = some (nI (ds.getD k 0), σ) := by
  unfold fn_Ty_at
  have := zp_pk_lt hh h4 hl
  rw [zp_q_s hk, zp_q_sh (by omega) (by omega), zp_pk_div hh, zp_q_m3, zp_dg_div k ds h4]
theorem zp_t_height (hh : h < 8) : fn_Ty_height σ (nI (zp_pk h ds)) = some (nI h, σ) := by
  unfold fn_Ty_height
  rw [zp_q_m7]
  congr 3
  unfold zp_pk; omega
theorem zp_t_with (hh : h < 8) (h4 : zp_d4 ds) (hl : ds.length ≤ 13) (hk : k < 13) (hv : v < 4) : fn_Ty_with σ (nI (zp_pk h ds)) (nI k) (nI v) = some (nI (zp_pk h (zp_ps ds k v)), σ) := by
  unfold fn_Ty_with nm
  have h4' := zp_d4_ps k v ds h4 hv
  have hps : (zp_ps ds k v).length ≤ 13 := by
    by_cases hkl : k < ds.length
    · rw [zp_ps_len k v ds hkl, List.length_set]; exact hl
    · have : ∀ (k : Nat) (ds : List Nat), ds.length ≤ k → (zp_ps ds k v).length = k + 1 := by
        intro k
        induction k with
        | zero => intro ds hd; cases ds with | nil => rfl | cons => simp at hd
        | succ k ih => intro ds hd; cases ds with
          | nil => simp only [zp_ps, List.length_cons]; rw [ih [] (by simp)]
          | cons d ds => simp only [zp_ps, List.length_cons]; rw [ih ds (by simpa using hd)]
      rw [this k ds (by omega)]; omega
  have b1 := zp_pk_lt (h := h) hh h4 hl
  have zp_b2 := zp_pk_lt (h := h) hh h4' hps
  obtain ⟨e1, e2, e3⟩ := zp_dg_ps k v ds h4 hv
  show some ((nI (zp_pk h ds) &&& (((3 : Int32) <<< (((3 : Int32) + ((2 : Int32) * nI k)) &&& 31)) ^^^ (-1 : Int32))) ||| (nI v <<< (((3 : Int32) + ((2 : Int32) * nI k)) &&& 31)), σ) = _
  rw [zp_q_s (by omega)]
  have := zp_q_wi (n := zp_pk h ds) (m := zp_pk h (zp_ps ds k v)) (s := 3 + 2 * k) (v := v) (by omega) (by omega) (by omega) hv (by
    rw [zp_pw_s, Nat.mod_mul, Nat.mod_mul]
    have a1 : zp_pk h (zp_ps ds k v) % 8 = h := by unfold zp_pk; omega
    have a2 : zp_pk h ds % 8 = h := by unfold zp_pk; omega
    have a3 : zp_pk h (zp_ps ds k v) / 8 = zp_dg (zp_ps ds k v) := by unfold zp_pk; omega
    have a4 : zp_pk h ds / 8 = zp_dg ds := by unfold zp_pk; omega
    rw [a1, a2, a3, a4, e1]) (by rw [zp_pk_div hh]; exact e2) (by rw [zp_pk_div hh, zp_pk_div hh]; exact e3)
  rw [this]
end
end

/-! the law from its entry -/
theorem wd_1 : (Jvm.Cond.initialized "FrameVerifier") ∈ wG := wg_t 1 (by decide +kernel) (by decide +kernel)
theorem wd_6 : (Jvm.Cond.initialized "FrameVerifierModel") ∈ wG := wg_t 6 (by decide +kernel) (by decide +kernel)
theorem wd_26 : (Jvm.Cond.classLink "FrameVerifierLaw" (8 : Nat) "FrameVerifier") ∈ wG := wg_t 26 (by decide +kernel) (by decide +kernel)
theorem wd_27 : (Jvm.Cond.instantiable "FrameVerifier" (4 : Nat)) ∈ wG := wg_t 27 (by decide +kernel) (by decide +kernel)
theorem wd_28 : (Jvm.Cond.methodLink "FrameVerifierLaw" (33 : Nat) ({ cls := "FrameVerifier", name := "<init>", desc := "()V" } : Jvm.MethodName)) ∈ wG := wg_t 28 (by decide +kernel) (by decide +kernel)
theorem wd_735 : (Jvm.Cond.classLink "FrameVerifierLaw" (34 : Nat) "FrameVerifierModel") ∈ wG := wg_t 735 (by decide +kernel) (by decide +kernel)
theorem wd_736 : (Jvm.Cond.instantiable "FrameVerifierModel" (27 : Nat)) ∈ wG := wg_t 736 (by decide +kernel) (by decide +kernel)
theorem wd_737 : (Jvm.Cond.methodLink "FrameVerifierLaw" (36 : Nat) ({ cls := "FrameVerifierModel", name := "<init>", desc := "()V" } : Jvm.MethodName)) ∈ wG := wg_t 737 (by decide +kernel) (by decide +kernel)
theorem wd_984 : (Jvm.Cond.arrayClass Jvm.ClassFile.FieldType.long) ∈ wG := wg_t 984 (by decide +kernel) (by decide +kernel)
/-- the law's walk: for every relation that every pair of calls keeps -/
theorem law_start {p : Program} {e : Env} {s : State} {m : MethodId} {below : List Frame} {meth : Method} {c : Code} (l : Launch) (htr : l.stackTraces = false) {Rl : mm_M → mm_M → Prop} (hR : okR Rl) {bs L0 : Nat} {xs : Nat → Int32} (hL : L0 ≤ 2560) (C0 : lw_At p s m meth c bs L0 xs) : W p l e room_1 s m #[Value.ref bs] below meth c s.heap [] 0 0 (lw_Z below #[Value.ref bs] s) (entryFrame m ([Value.ref bs] : List Value).toArray 7) := by
  obtain ⟨hx, hb, hret, hml, hown, hT, hX, hbl, hlocks, hN⟩ := C0
  have hw : ∀ w ∈ wG, w ∈ lw_tbl := fun w h => (List.mem_filter.mp h).1
  obtain ⟨D, ca, hK, hAO, hMA⟩ := st_K hT
  have hKO : kO D ca s := ⟨hK, hAO, hMA⟩
  generalize hbsz : s.heap.size = b
  have hbl2 : bs < b := by omega
  have hKL : kL D ca (ax_of #[Value.ref bs] s) b s := ⟨hK, st_C hN hT (fun a h1 h2 => by omega), st_N hT, st_X hN hT⟩
  have S : CallFix p m c code 7 s #[Value.ref bs] lw_tbl "FrameVerifierLaw" := ⟨hx, hb, hml, hown, hT⟩
  rw [entry_eq m [Value.ref bs] (by simp [Value.category]) 7]
  suffices body : ∀ ls, lo_ok ls 7 (([Value.ref bs] : List Value).map some) → W p l e room_1 s m #[Value.ref bs] below meth c s.heap [] 0 0 (lw_Z below #[Value.ref bs] s) (F0 m 0 ls []) from body _ (lo_entry [Value.ref bs] (by simp [Value.category]) (Nat.le_of_ble_eq_true rfl))
  intro ls hl
  have hKn := hK.1 0 _ rfl
  refine W.newcK (h := b) S.1 S.2.1 S.2.2.2.1 (hT _ (hw _ wd_26)) (hT _ (hw _ wd_27)) (hT _ (hw _ wd_1)) (g := F0 m 0 ls []) rfl d_L_0 (Nat.le_of_ble_eq_true rfl) (Nat.le_of_ble_eq_true rfl) hKn.2.1 hbsz (fun H1 kC hkC e1 z1 o1 => ?_)
  have hP1 : va_P D cls (mm_wl b 1 (fun _ => .inr (0, [.null, .null, .null, .int 0]))) H1 := fun k q hq => by
    obtain ⟨hlt, rfl⟩ := mm_key hq
    have h0 : k = 0 := by omega
    subst h0
    exact ⟨_, rfl, (u_born t_FV S.2.2.2.2 (fun w h => hw w (i_FV w h)) hKn hkC e1 t_FV_ok).to (by decide)⟩
  have hS1 : va_S (fun q => b ≤ q) s.heap H1 [] := ⟨by omega, fun q h1 h2 => o1 q (by omega), fun q h => by cases h⟩
  suffices kk : vo p l e room_1 s m #[Value.ref bs] below meth c D b 7 (lw_Z below #[Value.ref bs] s) (fun _ => .inr (0, [.null, .null, .null, .int 0])) 1 1 4 3 [some (.ref bs)] [.ref (b + 0)] by
    exact kk H1 [] ls hl hP1 hS1
  refine vo_lift (fun H locs ls hl k => lv_dup S.1 S.2.1 d_L_3 rfl k) ?_
  refine vo_ci (n2 := 35) (mc := 34) (ms := 908) (kq := 0) (As := []) (cf2 := (fun k => ce_C ca b k (si_C k))) S hKO (by omega) (by omega) (c_FV_init l D ca b _ rfl) (cb_C S.2.2.2.2 hw m_FV_init g_FV_init wd_28 s_FV_init rfl q_FV_init rfl rfl ⟨Nat.le_of_ble_eq_true rfl, Nat.le_of_ble_eq_true rfl⟩) rfl rfl (Nat.le_of_ble_eq_true rfl) d_L_4 ⟨Nat.le_of_ble_eq_true rfl, Nat.le_of_ble_eq_true rfl⟩ ?_
  refine vo_astore (L2 := [some (.ref bs), some (.ref (b + 0))]) S d_L_7 rfl (Nat.le_of_ble_eq_true rfl) rfl ?_
  refine vo_new (ci := 5) (fs := [.int 0, .null, .null, .null, .null, .null, .null, .int 0, .null, .null, .null, .int 0, .null, .int 0, .int 0, .int 0, .int 0, .null, .null, .null, .null, .null, .int 0, .null, .int 0, .int 0, .int 0]) S (fun w h => hw w (i_Mo w h)) t_Mo t_Mo_ok (hT _ (hw _ wd_735)) (hT _ (hw _ wd_736)) (hT _ (hw _ wd_6)) hK rfl (by decide) (by omega) (by omega) (Nat.le_of_ble_eq_true rfl) (Nat.le_of_ble_eq_true rfl) d_L_8 ?_
  refine vo_lift (fun H locs ls hl k => lv_dup S.1 S.2.1 d_L_11 rfl k) ?_
  refine vo_cj (d := 35) (n2 := 17) (mc := 16) (ms := 6075) (cfM := fun _ => .inr (5, [.int 0, .null, .null, .null, .null, .null, .null, .int 0, .null, .null, .null, .int 0, .null, .int 0, .int 0, .int 0, .int 0, .null, .null, .null, .null, .null, .int 0, .null, .int 0, .int 0, .int 0])) (cf2 := (fun k => ce_M ca (b + 35) k (si_M k))) S hKO (by omega) rfl (c_Mo_init l D ca (b + 35) _ rfl) (cb_C S.2.2.2.2 hw m_Mo_init g_Mo_init wd_737 s_Mo_init rfl q_Mo_init rfl rfl ⟨Nat.le_of_ble_eq_true rfl, Nat.le_of_ble_eq_true rfl⟩) rfl (Nat.le_of_ble_eq_true rfl) d_L_12 ⟨Nat.le_of_ble_eq_true rfl, Nat.le_of_ble_eq_true rfl⟩ ?_
  refine vo_astore (L2 := [some (.ref bs), some (.ref (b + 0)), some (.ref (b + 35 + 0))]) S d_L_15 rfl (Nat.le_of_ble_eq_true rfl) rfl ?_
  refine vo_lift (fun H locs ls hl k => lv_iconst S.1 S.2.1 d_L_16 (v := 1) (by decide) k) ?_
  refine vo_newl S (hT _ (hw _ wd_984)) hK (by omega) (by omega) rfl (Nat.le_of_ble_eq_true rfl) (Nat.le_of_ble_eq_true rfl) d_L_17 ?_
  refine vo_astore (L2 := [some (.ref bs), some (.ref (b + 0)), some (.ref (b + 35 + 0)), some (.ref (b + 52))]) S d_L_19 rfl (Nat.le_of_ble_eq_true rfl) rfl ?_
  refine vo_lift (fun H locs ls hl k => lv_iconst S.1 S.2.1 d_L_20 (v := 0) (by decide) k) ?_
  refine vo_istoreL (L2 := [some (.ref bs), some (.ref (b + 0)), some (.ref (b + 35 + 0)), some (.ref (b + 52)), some (.int (Int32.ofNat 0))]) S d_L_21 (Nat.le_of_ble_eq_true rfl) rfl ?_
  intro H locs ls hl hP hS
  refine law_loop hR htr S hw hKL hX hbl2 hbsz hL hret hlocks 512 0 0 si_C si_M (by omega) (by omega) (by omega) (by omega) hR.1 H locs ls _ _ (Nat.le_of_ble_eq_true rfl) (Nat.le_of_ble_eq_true rfl) hl (fun k q hq => ?_) (fun k q hq => ?_) ⟨fun _ => 0, ?_, fun v hv => by cases hv⟩ hS
  · obtain ⟨hlt, rfl⟩ := mm_key hq
    have hlt : k < 35 := hlt
    have h1 := hP k _ (mm_get (by omega))
    rw [va_up_ne _ _ (by omega)] at h1
    simp only [if_pos hlt] at h1
    rw [va_up_ne _ _ (by omega)] at h1
    exact h1
  · obtain ⟨hlt, rfl⟩ := mm_key hq
    have hlt : k < 17 := hlt
    have h1 := hP (35 + k) _ (mm_get (by omega))
    rw [va_up_ne _ _ (by omega)] at h1
    simp only [if_neg (show ¬ 35 + k < 35 by omega)] at h1
    rw [show 35 + k - 35 = k by omega, ← Nat.add_assoc] at h1
    exact h1
  · have h1 := hP 52 _ (mm_get (by omega))
    rw [va_up_self] at h1
    exact h1

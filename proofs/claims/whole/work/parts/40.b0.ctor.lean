/-! part 40.m: the model's constructor's loop -/
theorem i4_400 : ∀ i, i < 400 → (¬ (400 : Int32) ≤ Int32.ofNat i) ∧ (¬ (Int32.ofNat i < 0 ∨ 400 ≤ (Int32.ofNat i).toNatClampNeg)) ∧ Int32.ofNat i + Int32.ofInt 1 = Int32.ofNat (i + 1) ∧ (Int32.ofNat i).toNatClampNeg = i := by decide +kernel
section VC6
variable {p : Program} {l : Launch} {e : Env} {R : Room} {s : State} {m : MethodId} {args : Array Value} {below : List Frame} {meth : Method} {c : Code} {D : va_G} {b nL : Nat} {Q : State → Prop} {n cs ss : Nat} {Ts : List Cond} {ca : Nat → ClassId}
theorem lp_model {fs : List Value} (S : CallFix p m c b_Mo_init 2 s args Ts "FrameVerifierModel") (hK : va_K D cls (tys ca) s) (hin : ∀ w ∈ u_ws "FrameVerifierModel" F_Mo 27, w ∈ Ts) (hlink : (Cond.fieldLink "FrameVerifierModel" 29 "FrameVerifierModel" "height" "[I").before args s = true) :
    ∀ (k i : Nat), k + i = 400 → ∀ {cf : Nat → va_E}, cf 0 = .inr (5, fs) → fs[8]? = some (.ref (b + 7)) → ∀ (f : Nat → Int32), cf 7 = .inl (ca 0, 400, .inl f) → (∀ j, j < i → f j = -1) → 7 < n → (∀ (cf' : Nat → va_E) (f' : Nat → Int32), cf' 7 = .inl (ca 0, 400, .inl f') → (∀ j, j < 400 → f' j = -1) → (∀ k, k ≠ 7 → cf' k = cf k) → vo p l e R s m args below meth c D b 2 Q cf' n cs ss 153 [some (.ref (b + 0)), some (.int 400)] []) →
      vo p l e R s m args below meth c D b 2 Q cf n cs ss 133 [some (.ref (b + 0)), some (.int (Int32.ofNat i))] []
  | 0, i, hi, cf, h0, h8, f, h7, hf, hn, kk => by
    have hi : i = 400 := by omega
    subst hi
    refine vo_lift (fun H locs ls hl k => lv_iload_n S.1 S.2.1 d_Mo_init_133 rfl (hl.2.2 1 _ rfl).2 k) ?_
    refine vo_lift (fun H locs ls hl k => lv_sipush S.1 S.2.1 d_Mo_init_134 (v := 400) (by decide) k) ?_
    exact vo_geT (tgt := 153) S d_Mo_init_137 (by decide) (by decide) (kk cf f h7 hf (fun _ _ => rfl))
  | k + 1, i, hi, cf, h0, h8, f, h7, hf, hn, kk => by
    have hlt : i < 400 := by omega
    obtain ⟨q1, q2, q3, hN⟩ := i4_400 i hlt
    refine vo_lift (fun H locs ls hl k => lv_iload_n S.1 S.2.1 d_Mo_init_133 rfl (hl.2.2 1 _ rfl).2 k) ?_
    refine vo_lift (fun H locs ls hl k => lv_sipush S.1 S.2.1 d_Mo_init_134 (v := 400) (by decide) k) ?_
    refine vo_geF (tgt := 153) S d_Mo_init_137 (by decide) q1 ?_
    refine vo_lift (fun H locs ls hl k => lv_aload_n S.1 S.2.1 d_Mo_init_140 rfl (hl.2.2 0 _ rfl).2 k) ?_
    refine vo_get (ci := 5) (kq := 0) (j := 8) (fs := fs) (v := .ref (b + 7)) S hin hK (by omega) h0 rfl (by decide) hlink (fun _ h => h) h8 d_Mo_init_141 ?_
    refine vo_lift (fun H locs ls hl k => lv_iload_n S.1 S.2.1 d_Mo_init_144 rfl (hl.2.2 1 _ rfl).2 k) ?_
    refine vo_lift (fun H locs ls hl k => lv_iconst S.1 S.2.1 d_Mo_init_145 (v := -1) (by decide) k) ?_
    refine vo_iast (t0 := 0) (N := 400) S hK hn h7 rfl q2 d_Mo_init_146 ?_
    refine vo_iinc (v := Int32.ofNat (i + 1)) (L2 := [some (.ref (b + 0)), some (.int (Int32.ofNat (i + 1)))]) S d_Mo_init_147 rfl q3 (Nat.le_of_ble_eq_true rfl) rfl ?_
    refine vo_goto (tgt := 133) S d_Mo_init_150 (by decide) ?_
    refine lp_model S hK hin hlink k (i + 1) (by omega) ?_ h8 (upd f (Int32.ofNat i).toNatClampNeg (-1)) (va_up_self _ _ _) ?_ hn (fun cf' f' h7' hf' hne => kk cf' f' h7' hf' (fun k hk => (hne k hk).trans (va_up_ne _ _ hk)))
    · rw [va_up_ne _ _ (by decide)]; exact h0
    · intro j hj
      rw [hN]
      unfold upd
      by_cases h : j = i
      · rw [if_pos h]
      · rw [if_neg h]
        exact hf j (by omega)
end VC6

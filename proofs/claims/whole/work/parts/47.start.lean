/-! part 47: the start's knowledge, put together -/
section ST
variable {args : Array Value} {s : State} {A : Nat → Prop}
theorem ex_ev {t : Term} {nm : String} (h : (Cond.exactly t nm).before args s = true) : t.eval args s none [] s = some (.ref (ad_of args s t)) := by
  obtain ⟨a, c, cA, kA, q1, -⟩ := Cond.exactly_spec (args := args) (first := s) (o := none) (s := s) (idx := []) (t := t) (cls := nm) h
  exact ad_ok ⟨a, q1⟩
theorem ar_ev {tm : Term} {ty : FieldType} {N : Nat} {f : Nat → Value} (hN : N < 2 ^ 31) (harr : (Cond.arrayOf tm ty).before args s = true) (hlen : (Cond.eq (.length tm) (.int (Int32.ofNat N))).before args s = true) (hel : ∀ j : Nat, j < N → (Term.elem tm (.int (Int32.ofNat j))).eval args s none [] s = some (f j)) (hA : ∀ a : Nat, a < s.heap.size → ¬ A a) : tm.eval args s none [] s = some (.ref (ad_of args s tm)) ∧ va_T ty (ad_of args s tm) N f A s s.heap := by
  obtain ⟨t, h1, h2⟩ := va_Tof hN harr (va_eqt hlen) hel hA
  have h3 := ad_ok ⟨t, h1⟩
  have e : t = ad_of args s tm := by
    have := h1.symm.trans h3
    injection this with this
    injection this
  rw [e] at h2
  exact ⟨h3, h2⟩
theorem st_C (hN : (Jvm.Cond.and given_1 narrow_1).before args s = true) (hT : ∀ w ∈ lw_tbl, w.before args s = true) (hA : ∀ a : Nat, a < s.heap.size → ¬ A a) : kc_c (ax_of args s) A s s.heap := by
  have eO : ∀ i, i < 20 → (tO i).eval args s none [] s = some (.ref (ad_of args s (tO i))) := fun i hi => ex_ev (nr_at hN _ (nO_e i hi))
  have eT : ∀ i, i < 6 → (tT i).eval args s none [] s = some (.ref (ad_of args s (tT i))) := fun i hi => ex_ev (nr_at hN _ (nT_e i hi))
  have eS : ∀ i, i < 8 → (tS i).eval args s none [] s = some (.ref (ad_of args s (tS i))) := fun i hi => ex_ev (nr_at hN _ (nS_e i hi))
  have eV : ∀ i, i < 8 → (tV i).eval args s none [] s = some (.ref (ad_of args s (tV i))) ∧ va_T .byte (ad_of args s (tV i)) (tx_n i) (fun j => .int (tx_b i j)) A s s.heap := fun i hi =>
    ar_ev (Nat.lt_of_le_of_lt ((show ∀ i, i < 8 → tx_n i ≤ 3 by decide) i hi) (by decide)) (nr_at hN _ (nS_a i hi)) (nr_at hN _ (nS_n i hi)) (fun j hj => va_eqt (nr_at hN _ (nS_b i hi j hj))) hA
  have eP := ar_ev (A := A) (tm := tOps) (f := fun j => .ref (ad_of args s (tO j))) (by decide) (nr_at hN _ nP_a) (nr_at hN _ nP_n) (fun j hj => by
    obtain ⟨y, h1, h2⟩ := Cond.eq_one (nr_at hN _ (nP_e j hj))
    rw [h1, ← h2, eO j hj]) hA
  have eQ := ar_ev (A := A) (tm := tSwO) (f := fun j => .int (sw_op j)) (by decide) (nr_at hN _ nQ_a) (nr_at hN _ nQ_n) (fun j hj => va_eqt (nr_at hN _ (nQ_e j hj))) hA
  have eR := ar_ev (A := A) (tm := tSwT) (f := fun j => .int (sw_tr j)) (by decide) (nr_at hN _ nR_a) (nr_at hN _ nR_n) (fun j hj => va_eqt (nr_at hN _ (nR_e j hj))) hA
  refine ⟨fun i hi => ⟨va_Zref (tb_at hT _ (tO_l i hi)) (tb_at hT _ ti_op) (eO i hi) hA, va_Oof (nr_at hN _ (nO_e i hi)) (eO i hi) hA, vk_OFof (eO i hi) (va_eqt (nr_at hN _ (nO_o i hi))) hA, vk_OFof (eO i hi) (va_eqt (nr_at hN _ (nO_g i hi))) hA, vk_OFof (eO i hi) (va_eqt (nr_at hN _ (nO_b i hi))) hA, vk_OFof (eO i hi) ?_ hA⟩,
    fun i hi => ⟨va_Zref (tb_at hT _ (tT_l i hi)) (tb_at hT _ ti_tr) (eT i hi) hA, va_Oof (nr_at hN _ (nT_e i hi)) (eT i hi) hA, vk_OFof (eT i hi) (va_eqt (nr_at hN _ (nT_o i hi))) hA⟩,
    fun i hi => ⟨va_Oof (nr_at hN _ (nS_e i hi)) (eS i hi) hA, vk_OFof (eS i hi) (va_eqt (nr_at hN _ (nS_c i hi))) hA, vk_OFof (eS i hi) (eV i hi).1 hA, (eV i hi).2⟩,
    ⟨va_Zref (tb_at hT _ tl_ops) (tb_at hT _ ti_fv) eP.1 hA, eP.2⟩, ⟨va_Zref (tb_at hT _ tl_so) (tb_at hT _ ti_1) eQ.1 hA, eQ.2⟩, ⟨va_Zref (tb_at hT _ tl_st) (tb_at hT _ ti_1) eR.1 hA, eR.2⟩,
    va_Zof (tb_at hT _ tl_c) (tb_at hT _ ti_s) (va_eqt (nr_at hN _ nC_c)) hA, va_Zqof (tb_at hT _ tl_f) (tb_at hT _ ti_p) (nr_at hN _ nC_f) hA, va_Zqof (tb_at hT _ tl_u) (tb_at hT _ ti_t) (nr_at hN _ nC_u) hA, va_Zqof (tb_at hT _ tl_s) (tb_at hT _ ti_t) (nr_at hN _ nC_s) hA, va_Ls.of (tb_at hT _ tl_u) hA, va_Ls.of (tb_at hT _ tl_s) hA⟩
  obtain ⟨y, h1, h2⟩ := Cond.eq_one (nr_at hN _ (nO_t i hi))
  rw [h1, ← h2, eS (st_of i) ((show ∀ i, i < 20 → st_of i < 8 by decide) i hi)]
  rfl
theorem st_N (hT : ∀ w ∈ lw_tbl, w.before args s = true) : kc_n s := ⟨va_Nw.of rfl (tb_at hT _ tn_1), va_Nw.of rfl (tb_at hT _ tn_2), fun i hi => va_Nw.of rfl (tb_at hT _ (tn_3 i hi)), fun i hi => va_Nw.of rfl (tb_at hT _ (tX_c i hi))⟩
theorem st_X (hN : (Jvm.Cond.and given_1 narrow_1).before args s = true) (hT : ∀ w ∈ lw_tbl, w.before args s = true) : kX s := by
  intro i j hi hj h1 h2 ci cj f1 f2
  by_cases h : i = j
  · subst h
    obtain ⟨c, t, g1, g2, g3⟩ := Cond.castable_spec (tb_at hT _ (tX_c i hi))
    cases f1.symm.trans g1
    cases f2.symm.trans g2
    rw [g3]
    simp
  · have hn := nr_at hN _ (nX_n hi hj h1 h2 h)
    simp only [Cond.before, Cond.holds, Cond.value, f1, f2] at hn
    cases ha : s.vm.assignable ci cj with
    | false => simp [h]
    | true => simp [ha] at hn
theorem st_K (hT : ∀ w ∈ lw_tbl, w.before args s = true) : ∃ (D : va_G) (ca : Nat → ClassId), va_K D cls (tys ca) s ∧ va_AO "FrameVerifier$Frame" s ∧ ma_AO s := by
  have hw : ∀ w ∈ wG, w ∈ lw_tbl := fun w h => (List.mem_filter.mp h).1
  obtain ⟨c0, i0, k0⟩ := u_known hT (fun w h => hw w (i_FV w h)) (tb_at hT _ ts_FV)
  obtain ⟨c1, i1, k1⟩ := u_known hT (fun w h => hw w (i_Co w h)) (tb_at hT _ ts_Co)
  obtain ⟨c2, i2, k2⟩ := u_known hT (fun w h => hw w (i_Fl w h)) (tb_at hT _ ts_Fl)
  obtain ⟨c3, i3, k3⟩ := u_known hT (fun w h => hw w (i_Fr w h)) (tb_at hT _ ts_Fr)
  obtain ⟨c4, i4, k4⟩ := u_known hT (fun w h => hw w (i_Ma w h)) (tb_at hT _ ts_Ma)
  obtain ⟨c5, i5, k5⟩ := u_known hT (fun w h => hw w (i_Mo w h)) (tb_at hT _ ts_Mo)
  obtain ⟨a0, ka0, x0, p0, q0, r0⟩ := Cond.arrayClass_spec (tb_at hT _ ta_0)
  obtain ⟨a1, ka1, x1, p1, q1, r1⟩ := Cond.arrayClass_spec (tb_at hT _ ta_1)
  obtain ⟨y2, a2, ka2, p2, -, q2, r2, t2⟩ := Cond.arrayOver_spec (tb_at hT _ ta_2)
  obtain ⟨y3, a3, ka3, p3, -, q3, r3, t3⟩ := arrayOverA_spec (tb_at hT _ ta_3)
  obtain ⟨a4, ka4, x4, p4, q4, r4⟩ := Cond.arrayClass_spec (tb_at hT _ ta_4)
  refine ⟨(fun c => match c with | 0 => c0 | 1 => c1 | 2 => c2 | 3 => c3 | 4 => c4 | _ => c5, fun c => match c with | 0 => i0 | 1 => i1 | 2 => i2 | 3 => i3 | 4 => i4 | _ => i5), (fun c => match c with | 0 => a0 | 1 => a1 | 2 => a2 | 3 => a3 | _ => a4), ⟨fun c q hq => ?_, fun k q hq => ?_⟩, va_AO.of (tb_at hT _ ta_2), ⟨y3, a3, ka3, p3, q3, r3, t3⟩⟩
  · match c, hq with
    | 0, hq => cases Option.some.inj hq; exact k0
    | 1, hq => cases Option.some.inj hq; exact k1
    | 2, hq => cases Option.some.inj hq; exact k2
    | 3, hq => cases Option.some.inj hq; exact k3
    | 4, hq => cases Option.some.inj hq; exact k4
    | 5, hq => cases Option.some.inj hq; exact k5
    | c + 6, hq => cases hq
  · match k, hq with
    | 0, hq => cases Option.some.inj hq; exact ⟨fun n z => ⟨fun k h => (by cases h), ka0, q0, x0, r0⟩, p0⟩
    | 1, hq => cases Option.some.inj hq; exact ⟨fun n z => ⟨fun k h => (by cases h), ka1, q1, x1, r1⟩, p1⟩
    | 2, hq => cases Option.some.inj hq; exact ⟨fun n z => ⟨fun k h => (by cases h), ka2, q2, y2, r2⟩, ka2, y2, q2, r2, p2, t2⟩
    | 3, hq => cases Option.some.inj hq; exact ⟨fun n z => ⟨fun k h => (by cases h), ka3, q3, y3, r3⟩, t3⟩
    | 4, hq => cases Option.some.inj hq; exact ⟨fun n z => ⟨fun k h => (by cases h), ka4, q4, x4, r4⟩, p4⟩
    | k + 5, hq => cases hq
end ST

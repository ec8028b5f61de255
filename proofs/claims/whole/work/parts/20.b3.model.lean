/-! contracts of 20.model; written by wip/whole/make.py -/
def fn_Mo_meet_190 (a0 : Int32) (a1 : Int32) (σ : mm_M) (l3 : Int32) (l4 : Int32) : Option (mm_M) :=
    (if (l3 < 0 ∨ 400 ≤ l3.toNatClampNeg) then none else
    (if (σ 9 l3.toNatClampNeg) = 0 then
    (if l4 = 0 then
    (if (l3 < 0 ∨ 400 ≤ l3.toNatClampNeg) then none else (nm (mw σ 9 l3.toNatClampNeg (0 : Int32)) (fun σ19 =>
    (some σ19))))
    else
    (if (l3 < 0 ∨ 400 ≤ l3.toNatClampNeg) then none else (nm (mw σ 9 l3.toNatClampNeg (1 : Int32)) (fun σ21 =>
    (some σ21)))))
    else
    (if (l3 < 0 ∨ 400 ≤ l3.toNatClampNeg) then none else (nm (mw σ 9 l3.toNatClampNeg (1 : Int32)) (fun σ16 =>
    (some σ16))))))
def fn_Mo_meet_95 (a0 : Int32) (a1 : Int32) : Nat → mm_M → Int32 → Int32 → Int32 → Int32 → Option (mm_M)
  | 0, _, _, _, _, _ => none
  | n + 1, σ, l3, l4, l5, l6 =>
    (if ((6 : Int32) + (σ 0 11)) ≤ l6 then
    (fn_Mo_meet_190 a0 a1 σ l3 l4)
    else
    (if ((((12 : Int32) * l3) + l6) < 0 ∨ 4800 ≤ (((12 : Int32) * l3) + l6).toNatClampNeg) then none else
    (nm (σ 8 (((12 : Int32) * l3) + l6).toNatClampNeg) (fun x23 =>
    (if l5 = 0 then
    (if (l6 < 0 ∨ 12 ≤ l6.toNatClampNeg) then none else
    (if x23 = (σ 10 l6.toNatClampNeg) then
    (if (l6 < 0 ∨ 12 ≤ l6.toNatClampNeg) then none else
    (nm (σ 10 l6.toNatClampNeg) (fun x52 =>
    (if l4 = 0 then
    (if x52 = x23 then
    (if ((((12 : Int32) * l3) + l6) < 0 ∨ 4800 ≤ (((12 : Int32) * l3) + l6).toNatClampNeg) then none else (nm (mw σ 8 (((12 : Int32) * l3) + l6).toNatClampNeg x52) (fun σ59 =>
    (fn_Mo_meet_95 a0 a1 n σ59 l3 (0 : Int32) l5 (l6 + (1 : Int32))))))
    else
    (if ((((12 : Int32) * l3) + l6) < 0 ∨ 4800 ≤ (((12 : Int32) * l3) + l6).toNatClampNeg) then none else (nm (mw σ 8 (((12 : Int32) * l3) + l6).toNatClampNeg x52) (fun σ62 =>
    (fn_Mo_meet_95 a0 a1 n σ62 l3 (1 : Int32) l5 (l6 + (1 : Int32)))))))
    else
    (if ((((12 : Int32) * l3) + l6) < 0 ∨ 4800 ≤ (((12 : Int32) * l3) + l6).toNatClampNeg) then none else (nm (mw σ 8 (((12 : Int32) * l3) + l6).toNatClampNeg x52) (fun σ55 =>
    (fn_Mo_meet_95 a0 a1 n σ55 l3 (1 : Int32) l5 (l6 + (1 : Int32))))))))))
    else
    (if l4 = 0 then
    (if (3 : Int32) = x23 then
    (if ((((12 : Int32) * l3) + l6) < 0 ∨ 4800 ≤ (((12 : Int32) * l3) + l6).toNatClampNeg) then none else (nm (mw σ 8 (((12 : Int32) * l3) + l6).toNatClampNeg (3 : Int32)) (fun σ46 =>
    (fn_Mo_meet_95 a0 a1 n σ46 l3 (0 : Int32) l5 (l6 + (1 : Int32))))))
    else
    (if ((((12 : Int32) * l3) + l6) < 0 ∨ 4800 ≤ (((12 : Int32) * l3) + l6).toNatClampNeg) then none else (nm (mw σ 8 (((12 : Int32) * l3) + l6).toNatClampNeg (3 : Int32)) (fun σ49 =>
    (fn_Mo_meet_95 a0 a1 n σ49 l3 (1 : Int32) l5 (l6 + (1 : Int32)))))))
    else
    (if ((((12 : Int32) * l3) + l6) < 0 ∨ 4800 ≤ (((12 : Int32) * l3) + l6).toNatClampNeg) then none else (nm (mw σ 8 (((12 : Int32) * l3) + l6).toNatClampNeg (3 : Int32)) (fun σ42 =>
    (fn_Mo_meet_95 a0 a1 n σ42 l3 (1 : Int32) l5 (l6 + (1 : Int32)))))))))
    else
    (if (l6 < 0 ∨ 12 ≤ l6.toNatClampNeg) then none else
    (nm (σ 10 l6.toNatClampNeg) (fun x26 =>
    (if l4 = 0 then
    (if x26 = x23 then
    (if ((((12 : Int32) * l3) + l6) < 0 ∨ 4800 ≤ (((12 : Int32) * l3) + l6).toNatClampNeg) then none else (nm (mw σ 8 (((12 : Int32) * l3) + l6).toNatClampNeg x26) (fun σ33 =>
    (fn_Mo_meet_95 a0 a1 n σ33 l3 (0 : Int32) l5 (l6 + (1 : Int32))))))
    else
    (if ((((12 : Int32) * l3) + l6) < 0 ∨ 4800 ≤ (((12 : Int32) * l3) + l6).toNatClampNeg) then none else (nm (mw σ 8 (((12 : Int32) * l3) + l6).toNatClampNeg x26) (fun σ36 =>
    (fn_Mo_meet_95 a0 a1 n σ36 l3 (1 : Int32) l5 (l6 + (1 : Int32)))))))
    else
    (if ((((12 : Int32) * l3) + l6) < 0 ∨ 4800 ≤ (((12 : Int32) * l3) + l6).toNatClampNeg) then none else (nm (mw σ 8 (((12 : Int32) * l3) + l6).toNatClampNeg x26) (fun σ29 =>
    (fn_Mo_meet_95 a0 a1 n σ29 l3 (1 : Int32) l5 (l6 + (1 : Int32)))))))))))))))
def fn_Mo_meet (σ : mm_M) (a0 : Int32) (a1 : Int32) : Option (mm_M) :=
    (nm (((100 : Int32) * a0) + a1) (fun x1 =>
    (if (x1 < 0 ∨ 400 ≤ x1.toNatClampNeg) then none else
    (if (σ 7 x1.toNatClampNeg) = (-2 : Int32) then
    (some σ)
    else
    (if (x1 < 0 ∨ 400 ≤ x1.toNatClampNeg) then none else
    (if (σ 7 x1.toNatClampNeg) = (σ 0 11) then
    (if (x1 < 0 ∨ 400 ≤ x1.toNatClampNeg) then none else
    (if (σ 7 x1.toNatClampNeg) = (-1 : Int32) then
    (if (x1 < 0 ∨ 400 ≤ x1.toNatClampNeg) then none else
    (if (σ 7 x1.toNatClampNeg) = (-1 : Int32) then
    (if (x1 < 0 ∨ 400 ≤ x1.toNatClampNeg) then none else (nm (mw σ 7 x1.toNatClampNeg (σ 0 11)) (fun σ65 =>
    (fn_Mo_meet_95 a0 a1 fuel0 σ65 x1 (0 : Int32) (1 : Int32) (0 : Int32)))))
    else
    (if (x1 < 0 ∨ 400 ≤ x1.toNatClampNeg) then none else (nm (mw σ 7 x1.toNatClampNeg (σ 0 11)) (fun σ11 =>
    (fn_Mo_meet_95 a0 a1 fuel0 σ11 x1 (0 : Int32) (0 : Int32) (0 : Int32)))))))
    else
    (if (x1 < 0 ∨ 400 ≤ x1.toNatClampNeg) then none else
    (if (σ 7 x1.toNatClampNeg) = (-1 : Int32) then
    (if (x1 < 0 ∨ 400 ≤ x1.toNatClampNeg) then none else (nm (mw σ 7 x1.toNatClampNeg (σ 0 11)) (fun σ71 =>
    (fn_Mo_meet_95 a0 a1 fuel0 σ71 x1 (0 : Int32) (1 : Int32) (0 : Int32)))))
    else
    (if (x1 < 0 ∨ 400 ≤ x1.toNatClampNeg) then none else (nm (mw σ 7 x1.toNatClampNeg (σ 0 11)) (fun σ69 =>
    (fn_Mo_meet_95 a0 a1 fuel0 σ69 x1 (0 : Int32) (0 : Int32) (0 : Int32)))))))))
    else
    (if (x1 < 0 ∨ 400 ≤ x1.toNatClampNeg) then none else
    (if (σ 7 x1.toNatClampNeg) = (-1 : Int32) then
    (if (x1 < 0 ∨ 400 ≤ x1.toNatClampNeg) then none else
    (if (σ 7 x1.toNatClampNeg) = (-1 : Int32) then
    (if (x1 < 0 ∨ 400 ≤ x1.toNatClampNeg) then none else (nm (mw σ 7 x1.toNatClampNeg (σ 0 11)) (fun σ79 =>
    (fn_Mo_meet_95 a0 a1 fuel0 σ79 x1 (1 : Int32) (1 : Int32) (0 : Int32)))))
    else
    (if (x1 < 0 ∨ 400 ≤ x1.toNatClampNeg) then none else (nm (mw σ 7 x1.toNatClampNeg (σ 0 11)) (fun σ77 =>
    (fn_Mo_meet_95 a0 a1 fuel0 σ77 x1 (1 : Int32) (0 : Int32) (0 : Int32)))))))
    else
    (if (x1 < 0 ∨ 400 ≤ x1.toNatClampNeg) then none else (nm (mw σ 7 x1.toNatClampNeg (-2 : Int32)) (fun σ81 =>
    (fn_Mo_meet_190 a0 a1 σ81 x1 (1 : Int32)))))))))))))
set_option maxRecDepth 100000 in
set_option maxHeartbeats 40000000 in
theorem c_Mo_meet (l : Launch) (D : va_G) (ca : Nat → ClassId) (ax : Nat → Nat → Nat) (b : Nat) (σ : mm_M) (a0 : Int32) (a1 : Int32)  {σ' : mm_M} (hf : fn_Mo_meet σ a0 a1 = some σ') : Met l y_Mo_meet w_Mo_meet rm_Mo_meet (pc_w D cls b N_M (ce_M ca b) (kM D ca ax b) [.ref (b + 0), .int a0, .int a1] σ) (qc_v D cls b N_M (ce_M ca b) σ') 0 0 (mm_A b N_M) := by
  refine vv_go (cc := b_Mo_meet) (maxL := 9) (ret := none) (fin := σ') (k := fn_Mo_meet σ a0 a1) (by decide) rfl (by simp [Value.category]) (Nat.le_of_ble_eq_true rfl) hf ?_
  intro p e s m below meth c hlocks hret S hKK
  have C190 : ∀ (σ : mm_M) (l3 : Int32) (l4 : Int32), vv p l e (headSpec w_Mo_meet rm_Mo_meet).room s m [.ref (b + 0), .int a0, .int a1].toArray below meth c D cls b N_M (ce_M ca b) 9 (MQ below (qc_v D cls b N_M (ce_M ca b) σ') [.ref (b + 0), .int a0, .int a1].toArray s 0 0 (mm_A b N_M)) σ' (fn_Mo_meet_190 a0 a1 σ l3 l4) σ 190 [some (.ref (b + 0)), none, none, some (.int l3), some (.int l4)] [] := by
    intro σ l3 l4
    unfold fn_Mo_meet_190
    refine v_aload_n S d_Mo_meet_190 rfl rfl ?_
    refine v_get S (fun w h => List.mem_cons_of_mem _ (i_Mo w h)) hKK.1 0 (by decide) rfl rfl 10 (by decide) (S.2.2.2.2 _ (List.mem_cons_of_mem _ (wd_751))) (fun _ h => h) rfl d_Mo_meet_191 ?_
    refine v_iload_n S d_Mo_meet_194 rfl rfl ?_
    refine v_aload_n S d_Mo_meet_195 rfl rfl ?_
    refine v_get S (fun w h => List.mem_cons_of_mem _ (i_Mo w h)) hKK.1 0 (by decide) rfl rfl 10 (by decide) (S.2.2.2.2 _ (List.mem_cons_of_mem _ (wd_751))) (fun _ h => h) rfl d_Mo_meet_196 ?_
    refine v_iload_n S d_Mo_meet_199 rfl rfl ?_
    refine v_zald S hKK.1 9 1 (by decide) rfl rfl d_Mo_meet_200 (fun h13 => ?_)
    refine v_if_ne S d_Mo_meet_201 (tgt := 209) (by decide) (fun h14 => ?_) (fun h14 => ?_)
    · refine v_iconst S d_Mo_meet_209 (v := (1 : Int32)) (by decide) ?_
      refine v_goto S d_Mo_meet_210 (tgt := 214) (by decide) ?_
      refine v_zast1 S hKK.1 9 1 (by decide) (fun _ => rfl) rfl (Or.inr rfl) d_Mo_meet_214 (fun h15 => ?_)
      refine v_sg (fun σ16 eσ16 => ?_)
      exact v_vret S hret hlocks d_Mo_meet_215
    · refine v_iload S d_Mo_meet_204 rfl ?_
      refine v_if_eq S d_Mo_meet_206 (tgt := 213) (by decide) (fun h17 => ?_) (fun h17 => ?_)
      · refine v_iconst S d_Mo_meet_213 (v := (0 : Int32)) (by decide) ?_
        refine v_zast1 S hKK.1 9 1 (by decide) (fun _ => rfl) rfl (Or.inl rfl) d_Mo_meet_214 (fun h18 => ?_)
        refine v_sg (fun σ19 eσ19 => ?_)
        exact v_vret S hret hlocks d_Mo_meet_215
      · refine v_iconst S d_Mo_meet_209 (v := (1 : Int32)) (by decide) ?_
        refine v_goto S d_Mo_meet_210 (tgt := 214) (by decide) ?_
        refine v_zast1 S hKK.1 9 1 (by decide) (fun _ => rfl) rfl (Or.inr rfl) d_Mo_meet_214 (fun h20 => ?_)
        refine v_sg (fun σ21 eσ21 => ?_)
        exact v_vret S hret hlocks d_Mo_meet_215
  have C95 : ∀ (n : Nat) (σ : mm_M) (l3 : Int32) (l4 : Int32) (l5 : Int32) (l6 : Int32), vv p l e (headSpec w_Mo_meet rm_Mo_meet).room s m [.ref (b + 0), .int a0, .int a1].toArray below meth c D cls b N_M (ce_M ca b) 9 (MQ below (qc_v D cls b N_M (ce_M ca b) σ') [.ref (b + 0), .int a0, .int a1].toArray s 0 0 (mm_A b N_M)) σ' (fn_Mo_meet_95 a0 a1 n σ l3 l4 l5 l6) σ 95 [some (.ref (b + 0)), none, none, some (.int l3), some (.int l4), some (.int l5), some (.int l6)] [] := by
    intro n
    induction n with
    | zero => intro σ l3 l4 l5 l6  h; cases h
    | succ n ih =>
      intro σ l3 l4 l5 l6
      show vv p l e (headSpec w_Mo_meet rm_Mo_meet).room s m [.ref (b + 0), .int a0, .int a1].toArray below meth c D cls b N_M (ce_M ca b) 9 (MQ below (qc_v D cls b N_M (ce_M ca b) σ') [.ref (b + 0), .int a0, .int a1].toArray s 0 0 (mm_A b N_M)) σ' (        (if ((6 : Int32) + (σ 0 11)) ≤ l6 then
        (fn_Mo_meet_190 a0 a1 σ l3 l4)
        else
        (if ((((12 : Int32) * l3) + l6) < 0 ∨ 4800 ≤ (((12 : Int32) * l3) + l6).toNatClampNeg) then none else
        (nm (σ 8 (((12 : Int32) * l3) + l6).toNatClampNeg) (fun x23 =>
        (if l5 = 0 then
        (if (l6 < 0 ∨ 12 ≤ l6.toNatClampNeg) then none else
        (if x23 = (σ 10 l6.toNatClampNeg) then
        (if (l6 < 0 ∨ 12 ≤ l6.toNatClampNeg) then none else
        (nm (σ 10 l6.toNatClampNeg) (fun x52 =>
        (if l4 = 0 then
        (if x52 = x23 then
        (if ((((12 : Int32) * l3) + l6) < 0 ∨ 4800 ≤ (((12 : Int32) * l3) + l6).toNatClampNeg) then none else (nm (mw σ 8 (((12 : Int32) * l3) + l6).toNatClampNeg x52) (fun σ59 =>
        (fn_Mo_meet_95 a0 a1 n σ59 l3 (0 : Int32) l5 (l6 + (1 : Int32))))))
        else
        (if ((((12 : Int32) * l3) + l6) < 0 ∨ 4800 ≤ (((12 : Int32) * l3) + l6).toNatClampNeg) then none else (nm (mw σ 8 (((12 : Int32) * l3) + l6).toNatClampNeg x52) (fun σ62 =>
        (fn_Mo_meet_95 a0 a1 n σ62 l3 (1 : Int32) l5 (l6 + (1 : Int32)))))))
        else
        (if ((((12 : Int32) * l3) + l6) < 0 ∨ 4800 ≤ (((12 : Int32) * l3) + l6).toNatClampNeg) then none else (nm (mw σ 8 (((12 : Int32) * l3) + l6).toNatClampNeg x52) (fun σ55 =>
        (fn_Mo_meet_95 a0 a1 n σ55 l3 (1 : Int32) l5 (l6 + (1 : Int32))))))))))
        else
        (if l4 = 0 then
        (if (3 : Int32) = x23 then
        (if ((((12 : Int32) * l3) + l6) < 0 ∨ 4800 ≤ (((12 : Int32) * l3) + l6).toNatClampNeg) then none else (nm (mw σ 8 (((12 : Int32) * l3) + l6).toNatClampNeg (3 : Int32)) (fun σ46 =>
        (fn_Mo_meet_95 a0 a1 n σ46 l3 (0 : Int32) l5 (l6 + (1 : Int32))))))
        else
        (if ((((12 : Int32) * l3) + l6) < 0 ∨ 4800 ≤ (((12 : Int32) * l3) + l6).toNatClampNeg) then none else (nm (mw σ 8 (((12 : Int32) * l3) + l6).toNatClampNeg (3 : Int32)) (fun σ49 =>
        (fn_Mo_meet_95 a0 a1 n σ49 l3 (1 : Int32) l5 (l6 + (1 : Int32)))))))
        else
        (if ((((12 : Int32) * l3) + l6) < 0 ∨ 4800 ≤ (((12 : Int32) * l3) + l6).toNatClampNeg) then none else (nm (mw σ 8 (((12 : Int32) * l3) + l6).toNatClampNeg (3 : Int32)) (fun σ42 =>
        (fn_Mo_meet_95 a0 a1 n σ42 l3 (1 : Int32) l5 (l6 + (1 : Int32)))))))))
        else
        (if (l6 < 0 ∨ 12 ≤ l6.toNatClampNeg) then none else
        (nm (σ 10 l6.toNatClampNeg) (fun x26 =>
        (if l4 = 0 then
        (if x26 = x23 then
        (if ((((12 : Int32) * l3) + l6) < 0 ∨ 4800 ≤ (((12 : Int32) * l3) + l6).toNatClampNeg) then none else (nm (mw σ 8 (((12 : Int32) * l3) + l6).toNatClampNeg x26) (fun σ33 =>
        (fn_Mo_meet_95 a0 a1 n σ33 l3 (0 : Int32) l5 (l6 + (1 : Int32))))))
        else
        (if ((((12 : Int32) * l3) + l6) < 0 ∨ 4800 ≤ (((12 : Int32) * l3) + l6).toNatClampNeg) then none else (nm (mw σ 8 (((12 : Int32) * l3) + l6).toNatClampNeg x26) (fun σ36 =>
        (fn_Mo_meet_95 a0 a1 n σ36 l3 (1 : Int32) l5 (l6 + (1 : Int32)))))))
        else
        (if ((((12 : Int32) * l3) + l6) < 0 ∨ 4800 ≤ (((12 : Int32) * l3) + l6).toNatClampNeg) then none else (nm (mw σ 8 (((12 : Int32) * l3) + l6).toNatClampNeg x26) (fun σ29 =>
        (fn_Mo_meet_95 a0 a1 n σ29 l3 (1 : Int32) l5 (l6 + (1 : Int32)))))))))))))))) σ 95 [some (.ref (b + 0)), none, none, some (.int l3), some (.int l4), some (.int l5), some (.int l6)] []
      refine v_iload S d_Mo_meet_95 rfl ?_
      refine v_bipush S d_Mo_meet_97 (v := (6 : Int32)) (by decide) ?_
      refine v_aload_n S d_Mo_meet_99 rfl rfl ?_
      refine v_get S (fun w h => List.mem_cons_of_mem _ (i_Mo w h)) hKK.1 0 (by decide) rfl rfl 11 (by decide) (S.2.2.2.2 _ (List.mem_cons_of_mem _ (wd_752))) (fun _ h => h) rfl d_Mo_meet_100 ?_
      refine v_iadd S d_Mo_meet_103 ?_
      refine v_icmp_ge S d_Mo_meet_104 (tgt := 190) (by decide) (fun h12 => ?_) (fun h12 => ?_)
      · refine v_sub (L2 := [some (.ref (b + 0)), none, none, some (.int l3), some (.int l4)]) (And.intro rfl (And.intro rfl (And.intro rfl True.intro))) ?_
        exact C190 σ l3 l4
      · refine v_aload_n S d_Mo_meet_107 rfl rfl ?_
        refine v_get S (fun w h => List.mem_cons_of_mem _ (i_Mo w h)) hKK.1 0 (by decide) rfl rfl 9 (by decide) (S.2.2.2.2 _ (List.mem_cons_of_mem _ (wd_750))) (fun _ h => h) rfl d_Mo_meet_108 ?_
        refine v_bipush S d_Mo_meet_111 (v := (12 : Int32)) (by decide) ?_
        refine v_iload_n S d_Mo_meet_113 rfl rfl ?_
        refine v_imul S d_Mo_meet_114 ?_
        refine v_iload S d_Mo_meet_115 rfl ?_
        refine v_iadd S d_Mo_meet_117 ?_
        refine v_iald S hKK.1 8 0 (by decide) rfl rfl d_Mo_meet_118 (fun h22 => ?_)
        refine v_top (fun x23 ex23 => ?_)
        refine v_istoreP S d_Mo_meet_119 (by decide) (L2 := [some (.ref (b + 0)), none, none, some (.int l3), some (.int l4), some (.int l5), some (.int l6), some (.int x23)]) rfl ?_
        refine v_iload S d_Mo_meet_121 rfl ?_
        refine v_if_ne S d_Mo_meet_123 (tgt := 138) (by decide) (fun h24 => ?_) (fun h24 => ?_)
        · refine v_aload_n S d_Mo_meet_138 rfl rfl ?_
          refine v_get S (fun w h => List.mem_cons_of_mem _ (i_Mo w h)) hKK.1 0 (by decide) rfl rfl 12 (by decide) (S.2.2.2.2 _ (List.mem_cons_of_mem _ (wd_753))) (fun _ h => h) rfl d_Mo_meet_139 ?_
          refine v_iload S d_Mo_meet_142 rfl ?_
          refine v_iald S hKK.1 10 0 (by decide) rfl rfl d_Mo_meet_144 (fun h25 => ?_)
          refine v_goto S d_Mo_meet_145 (tgt := 149) (by decide) ?_
          refine v_top (fun x26 ex26 => ?_)
          refine v_istoreP S d_Mo_meet_149 (by decide) (L2 := [some (.ref (b + 0)), none, none, some (.int l3), some (.int l4), some (.int l5), some (.int l6), some (.int x23), some (.int x26)]) rfl ?_
          refine v_iload S d_Mo_meet_151 rfl ?_
          refine v_if_ne S d_Mo_meet_153 (tgt := 163) (by decide) (fun h27 => ?_) (fun h27 => ?_)
          · refine v_iconst S d_Mo_meet_163 (v := (1 : Int32)) (by decide) ?_
            refine v_goto S d_Mo_meet_164 (tgt := 168) (by decide) ?_
            refine v_istoreP S d_Mo_meet_168 (by decide) (L2 := [some (.ref (b + 0)), none, none, some (.int l3), some (.int (1 : Int32)), some (.int l5), some (.int l6), some (.int x23), some (.int x26)]) rfl ?_
            refine v_aload_n S d_Mo_meet_170 rfl rfl ?_
            refine v_get S (fun w h => List.mem_cons_of_mem _ (i_Mo w h)) hKK.1 0 (by decide) rfl rfl 9 (by decide) (S.2.2.2.2 _ (List.mem_cons_of_mem _ (wd_750))) (fun _ h => h) rfl d_Mo_meet_171 ?_
            refine v_bipush S d_Mo_meet_174 (v := (12 : Int32)) (by decide) ?_
            refine v_iload_n S d_Mo_meet_176 rfl rfl ?_
            refine v_imul S d_Mo_meet_177 ?_
            refine v_iload S d_Mo_meet_178 rfl ?_
            refine v_iadd S d_Mo_meet_180 ?_
            refine v_iload S d_Mo_meet_181 rfl ?_
            refine v_iast1 S hKK.1 8 0 (by decide) (fun _ => rfl) rfl d_Mo_meet_183 (fun h28 => ?_)
            refine v_sg (fun σ29 eσ29 => ?_)
            refine v_iinc S d_Mo_meet_184 rfl (v := (l6 + (1 : Int32))) (by first | rfl | decide) (by decide) (L2 := [some (.ref (b + 0)), none, none, some (.int l3), some (.int (1 : Int32)), some (.int l5), some (.int (l6 + (1 : Int32))), some (.int x23), some (.int x26)]) rfl ?_
            refine v_goto S d_Mo_meet_187 (tgt := 95) (by decide) ?_
            refine v_sub (L2 := [some (.ref (b + 0)), none, none, some (.int l3), some (.int (1 : Int32)), some (.int l5), some (.int (l6 + (1 : Int32)))]) (And.intro rfl (And.intro rfl (And.intro rfl (And.intro rfl (And.intro rfl True.intro))))) ?_
            exact ih σ29 l3 (1 : Int32) l5 (l6 + (1 : Int32))
          · refine v_iload S d_Mo_meet_156 rfl ?_
            refine v_iload S d_Mo_meet_158 rfl ?_
            refine v_icmp_eq S d_Mo_meet_160 (tgt := 167) (by decide) (fun h31 => ?_) (fun h31 => ?_)
            · refine v_iconst S d_Mo_meet_167 (v := (0 : Int32)) (by decide) ?_
              refine v_istoreP S d_Mo_meet_168 (by decide) (L2 := [some (.ref (b + 0)), none, none, some (.int l3), some (.int (0 : Int32)), some (.int l5), some (.int l6), some (.int x23), some (.int x26)]) rfl ?_
              refine v_aload_n S d_Mo_meet_170 rfl rfl ?_
              refine v_get S (fun w h => List.mem_cons_of_mem _ (i_Mo w h)) hKK.1 0 (by decide) rfl rfl 9 (by decide) (S.2.2.2.2 _ (List.mem_cons_of_mem _ (wd_750))) (fun _ h => h) rfl d_Mo_meet_171 ?_
              refine v_bipush S d_Mo_meet_174 (v := (12 : Int32)) (by decide) ?_
              refine v_iload_n S d_Mo_meet_176 rfl rfl ?_
              refine v_imul S d_Mo_meet_177 ?_
              refine v_iload S d_Mo_meet_178 rfl ?_
              refine v_iadd S d_Mo_meet_180 ?_
              refine v_iload S d_Mo_meet_181 rfl ?_
              refine v_iast1 S hKK.1 8 0 (by decide) (fun _ => rfl) rfl d_Mo_meet_183 (fun h32 => ?_)
              refine v_sg (fun σ33 eσ33 => ?_)
              refine v_iinc S d_Mo_meet_184 rfl (v := (l6 + (1 : Int32))) (by first | rfl | decide) (by decide) (L2 := [some (.ref (b + 0)), none, none, some (.int l3), some (.int (0 : Int32)), some (.int l5), some (.int (l6 + (1 : Int32))), some (.int x23), some (.int x26)]) rfl ?_
              refine v_goto S d_Mo_meet_187 (tgt := 95) (by decide) ?_
              refine v_sub (L2 := [some (.ref (b + 0)), none, none, some (.int l3), some (.int (0 : Int32)), some (.int l5), some (.int (l6 + (1 : Int32)))]) (And.intro rfl (And.intro rfl (And.intro rfl (And.intro rfl (And.intro rfl True.intro))))) ?_
              exact ih σ33 l3 (0 : Int32) l5 (l6 + (1 : Int32))
            · refine v_iconst S d_Mo_meet_163 (v := (1 : Int32)) (by decide) ?_
              refine v_goto S d_Mo_meet_164 (tgt := 168) (by decide) ?_
              refine v_istoreP S d_Mo_meet_168 (by decide) (L2 := [some (.ref (b + 0)), none, none, some (.int l3), some (.int (1 : Int32)), some (.int l5), some (.int l6), some (.int x23), some (.int x26)]) rfl ?_
              refine v_aload_n S d_Mo_meet_170 rfl rfl ?_
              refine v_get S (fun w h => List.mem_cons_of_mem _ (i_Mo w h)) hKK.1 0 (by decide) rfl rfl 9 (by decide) (S.2.2.2.2 _ (List.mem_cons_of_mem _ (wd_750))) (fun _ h => h) rfl d_Mo_meet_171 ?_
              refine v_bipush S d_Mo_meet_174 (v := (12 : Int32)) (by decide) ?_
              refine v_iload_n S d_Mo_meet_176 rfl rfl ?_
              refine v_imul S d_Mo_meet_177 ?_
              refine v_iload S d_Mo_meet_178 rfl ?_
              refine v_iadd S d_Mo_meet_180 ?_
              refine v_iload S d_Mo_meet_181 rfl ?_
              refine v_iast1 S hKK.1 8 0 (by decide) (fun _ => rfl) rfl d_Mo_meet_183 (fun h35 => ?_)
              refine v_sg (fun σ36 eσ36 => ?_)
              refine v_iinc S d_Mo_meet_184 rfl (v := (l6 + (1 : Int32))) (by first | rfl | decide) (by decide) (L2 := [some (.ref (b + 0)), none, none, some (.int l3), some (.int (1 : Int32)), some (.int l5), some (.int (l6 + (1 : Int32))), some (.int x23), some (.int x26)]) rfl ?_
              refine v_goto S d_Mo_meet_187 (tgt := 95) (by decide) ?_
              refine v_sub (L2 := [some (.ref (b + 0)), none, none, some (.int l3), some (.int (1 : Int32)), some (.int l5), some (.int (l6 + (1 : Int32)))]) (And.intro rfl (And.intro rfl (And.intro rfl (And.intro rfl (And.intro rfl True.intro))))) ?_
              exact ih σ36 l3 (1 : Int32) l5 (l6 + (1 : Int32))
        · refine v_iload S d_Mo_meet_126 rfl ?_
          refine v_aload_n S d_Mo_meet_128 rfl rfl ?_
          refine v_get S (fun w h => List.mem_cons_of_mem _ (i_Mo w h)) hKK.1 0 (by decide) rfl rfl 12 (by decide) (S.2.2.2.2 _ (List.mem_cons_of_mem _ (wd_753))) (fun _ h => h) rfl d_Mo_meet_129 ?_
          refine v_iload S d_Mo_meet_132 rfl ?_
          refine v_iald S hKK.1 10 0 (by decide) rfl rfl d_Mo_meet_134 (fun h38 => ?_)
          refine v_icmp_ne S d_Mo_meet_135 (tgt := 148) (by decide) (fun h39 => ?_) (fun h39 => ?_)
          · refine v_iconst S d_Mo_meet_148 (v := (3 : Int32)) (by decide) ?_
            refine v_istoreP S d_Mo_meet_149 (by decide) (L2 := [some (.ref (b + 0)), none, none, some (.int l3), some (.int l4), some (.int l5), some (.int l6), some (.int x23), some (.int (3 : Int32))]) rfl ?_
            refine v_iload S d_Mo_meet_151 rfl ?_
            refine v_if_ne S d_Mo_meet_153 (tgt := 163) (by decide) (fun h40 => ?_) (fun h40 => ?_)
            · refine v_iconst S d_Mo_meet_163 (v := (1 : Int32)) (by decide) ?_
              refine v_goto S d_Mo_meet_164 (tgt := 168) (by decide) ?_
              refine v_istoreP S d_Mo_meet_168 (by decide) (L2 := [some (.ref (b + 0)), none, none, some (.int l3), some (.int (1 : Int32)), some (.int l5), some (.int l6), some (.int x23), some (.int (3 : Int32))]) rfl ?_
              refine v_aload_n S d_Mo_meet_170 rfl rfl ?_
              refine v_get S (fun w h => List.mem_cons_of_mem _ (i_Mo w h)) hKK.1 0 (by decide) rfl rfl 9 (by decide) (S.2.2.2.2 _ (List.mem_cons_of_mem _ (wd_750))) (fun _ h => h) rfl d_Mo_meet_171 ?_
              refine v_bipush S d_Mo_meet_174 (v := (12 : Int32)) (by decide) ?_
              refine v_iload_n S d_Mo_meet_176 rfl rfl ?_
              refine v_imul S d_Mo_meet_177 ?_
              refine v_iload S d_Mo_meet_178 rfl ?_
              refine v_iadd S d_Mo_meet_180 ?_
              refine v_iload S d_Mo_meet_181 rfl ?_
              refine v_iast1 S hKK.1 8 0 (by decide) (fun _ => rfl) rfl d_Mo_meet_183 (fun h41 => ?_)
              refine v_sg (fun σ42 eσ42 => ?_)
              refine v_iinc S d_Mo_meet_184 rfl (v := (l6 + (1 : Int32))) (by first | rfl | decide) (by decide) (L2 := [some (.ref (b + 0)), none, none, some (.int l3), some (.int (1 : Int32)), some (.int l5), some (.int (l6 + (1 : Int32))), some (.int x23), some (.int (3 : Int32))]) rfl ?_
              refine v_goto S d_Mo_meet_187 (tgt := 95) (by decide) ?_
              refine v_sub (L2 := [some (.ref (b + 0)), none, none, some (.int l3), some (.int (1 : Int32)), some (.int l5), some (.int (l6 + (1 : Int32)))]) (And.intro rfl (And.intro rfl (And.intro rfl (And.intro rfl (And.intro rfl True.intro))))) ?_
              exact ih σ42 l3 (1 : Int32) l5 (l6 + (1 : Int32))
            · refine v_iload S d_Mo_meet_156 rfl ?_
              refine v_iload S d_Mo_meet_158 rfl ?_
              refine v_icmp_eq S d_Mo_meet_160 (tgt := 167) (by decide) (fun h44 => ?_) (fun h44 => ?_)
              · refine v_iconst S d_Mo_meet_167 (v := (0 : Int32)) (by decide) ?_
                refine v_istoreP S d_Mo_meet_168 (by decide) (L2 := [some (.ref (b + 0)), none, none, some (.int l3), some (.int (0 : Int32)), some (.int l5), some (.int l6), some (.int x23), some (.int (3 : Int32))]) rfl ?_
                refine v_aload_n S d_Mo_meet_170 rfl rfl ?_
                refine v_get S (fun w h => List.mem_cons_of_mem _ (i_Mo w h)) hKK.1 0 (by decide) rfl rfl 9 (by decide) (S.2.2.2.2 _ (List.mem_cons_of_mem _ (wd_750))) (fun _ h => h) rfl d_Mo_meet_171 ?_
                refine v_bipush S d_Mo_meet_174 (v := (12 : Int32)) (by decide) ?_
                refine v_iload_n S d_Mo_meet_176 rfl rfl ?_
                refine v_imul S d_Mo_meet_177 ?_
                refine v_iload S d_Mo_meet_178 rfl ?_
                refine v_iadd S d_Mo_meet_180 ?_
                refine v_iload S d_Mo_meet_181 rfl ?_
                refine v_iast1 S hKK.1 8 0 (by decide) (fun _ => rfl) rfl d_Mo_meet_183 (fun h45 => ?_)
                refine v_sg (fun σ46 eσ46 => ?_)
                refine v_iinc S d_Mo_meet_184 rfl (v := (l6 + (1 : Int32))) (by first | rfl | decide) (by decide) (L2 := [some (.ref (b + 0)), none, none, some (.int l3), some (.int (0 : Int32)), some (.int l5), some (.int (l6 + (1 : Int32))), some (.int x23), some (.int (3 : Int32))]) rfl ?_
                refine v_goto S d_Mo_meet_187 (tgt := 95) (by decide) ?_
                refine v_sub (L2 := [some (.ref (b + 0)), none, none, some (.int l3), some (.int (0 : Int32)), some (.int l5), some (.int (l6 + (1 : Int32)))]) (And.intro rfl (And.intro rfl (And.intro rfl (And.intro rfl (And.intro rfl True.intro))))) ?_
                exact ih σ46 l3 (0 : Int32) l5 (l6 + (1 : Int32))
              · refine v_iconst S d_Mo_meet_163 (v := (1 : Int32)) (by decide) ?_
                refine v_goto S d_Mo_meet_164 (tgt := 168) (by decide) ?_
                refine v_istoreP S d_Mo_meet_168 (by decide) (L2 := [some (.ref (b + 0)), none, none, some (.int l3), some (.int (1 : Int32)), some (.int l5), some (.int l6), some (.int x23), some (.int (3 : Int32))]) rfl ?_
                refine v_aload_n S d_Mo_meet_170 rfl rfl ?_
                refine v_get S (fun w h => List.mem_cons_of_mem _ (i_Mo w h)) hKK.1 0 (by decide) rfl rfl 9 (by decide) (S.2.2.2.2 _ (List.mem_cons_of_mem _ (wd_750))) (fun _ h => h) rfl d_Mo_meet_171 ?_
                refine v_bipush S d_Mo_meet_174 (v := (12 : Int32)) (by decide) ?_
                refine v_iload_n S d_Mo_meet_176 rfl rfl ?_
                refine v_imul S d_Mo_meet_177 ?_
                refine v_iload S d_Mo_meet_178 rfl ?_
                refine v_iadd S d_Mo_meet_180 ?_
                refine v_iload S d_Mo_meet_181 rfl ?_
                refine v_iast1 S hKK.1 8 0 (by decide) (fun _ => rfl) rfl d_Mo_meet_183 (fun h48 => ?_)
                refine v_sg (fun σ49 eσ49 => ?_)
                refine v_iinc S d_Mo_meet_184 rfl (v := (l6 + (1 : Int32))) (by first | rfl | decide) (by decide) (L2 := [some (.ref (b + 0)), none, none, some (.int l3), some (.int (1 : Int32)), some (.int l5), some (.int (l6 + (1 : Int32))), some (.int x23), some (.int (3 : Int32))]) rfl ?_
                refine v_goto S d_Mo_meet_187 (tgt := 95) (by decide) ?_
                refine v_sub (L2 := [some (.ref (b + 0)), none, none, some (.int l3), some (.int (1 : Int32)), some (.int l5), some (.int (l6 + (1 : Int32)))]) (And.intro rfl (And.intro rfl (And.intro rfl (And.intro rfl (And.intro rfl True.intro))))) ?_
                exact ih σ49 l3 (1 : Int32) l5 (l6 + (1 : Int32))
          · refine v_aload_n S d_Mo_meet_138 rfl rfl ?_
            refine v_get S (fun w h => List.mem_cons_of_mem _ (i_Mo w h)) hKK.1 0 (by decide) rfl rfl 12 (by decide) (S.2.2.2.2 _ (List.mem_cons_of_mem _ (wd_753))) (fun _ h => h) rfl d_Mo_meet_139 ?_
            refine v_iload S d_Mo_meet_142 rfl ?_
            refine v_iald S hKK.1 10 0 (by decide) rfl rfl d_Mo_meet_144 (fun h51 => ?_)
            refine v_goto S d_Mo_meet_145 (tgt := 149) (by decide) ?_
            refine v_top (fun x52 ex52 => ?_)
            refine v_istoreP S d_Mo_meet_149 (by decide) (L2 := [some (.ref (b + 0)), none, none, some (.int l3), some (.int l4), some (.int l5), some (.int l6), some (.int x23), some (.int x52)]) rfl ?_
            refine v_iload S d_Mo_meet_151 rfl ?_
            refine v_if_ne S d_Mo_meet_153 (tgt := 163) (by decide) (fun h53 => ?_) (fun h53 => ?_)
            · refine v_iconst S d_Mo_meet_163 (v := (1 : Int32)) (by decide) ?_
              refine v_goto S d_Mo_meet_164 (tgt := 168) (by decide) ?_
              refine v_istoreP S d_Mo_meet_168 (by decide) (L2 := [some (.ref (b + 0)), none, none, some (.int l3), some (.int (1 : Int32)), some (.int l5), some (.int l6), some (.int x23), some (.int x52)]) rfl ?_
              refine v_aload_n S d_Mo_meet_170 rfl rfl ?_
              refine v_get S (fun w h => List.mem_cons_of_mem _ (i_Mo w h)) hKK.1 0 (by decide) rfl rfl 9 (by decide) (S.2.2.2.2 _ (List.mem_cons_of_mem _ (wd_750))) (fun _ h => h) rfl d_Mo_meet_171 ?_
              refine v_bipush S d_Mo_meet_174 (v := (12 : Int32)) (by decide) ?_
              refine v_iload_n S d_Mo_meet_176 rfl rfl ?_
              refine v_imul S d_Mo_meet_177 ?_
              refine v_iload S d_Mo_meet_178 rfl ?_
              refine v_iadd S d_Mo_meet_180 ?_
              refine v_iload S d_Mo_meet_181 rfl ?_
              refine v_iast1 S hKK.1 8 0 (by decide) (fun _ => rfl) rfl d_Mo_meet_183 (fun h54 => ?_)
              refine v_sg (fun σ55 eσ55 => ?_)
              refine v_iinc S d_Mo_meet_184 rfl (v := (l6 + (1 : Int32))) (by first | rfl | decide) (by decide) (L2 := [some (.ref (b + 0)), none, none, some (.int l3), some (.int (1 : Int32)), some (.int l5), some (.int (l6 + (1 : Int32))), some (.int x23), some (.int x52)]) rfl ?_
              refine v_goto S d_Mo_meet_187 (tgt := 95) (by decide) ?_
              refine v_sub (L2 := [some (.ref (b + 0)), none, none, some (.int l3), some (.int (1 : Int32)), some (.int l5), some (.int (l6 + (1 : Int32)))]) (And.intro rfl (And.intro rfl (And.intro rfl (And.intro rfl (And.intro rfl True.intro))))) ?_
              exact ih σ55 l3 (1 : Int32) l5 (l6 + (1 : Int32))
            · refine v_iload S d_Mo_meet_156 rfl ?_
              refine v_iload S d_Mo_meet_158 rfl ?_
              refine v_icmp_eq S d_Mo_meet_160 (tgt := 167) (by decide) (fun h57 => ?_) (fun h57 => ?_)
              · refine v_iconst S d_Mo_meet_167 (v := (0 : Int32)) (by decide) ?_
                refine v_istoreP S d_Mo_meet_168 (by decide) (L2 := [some (.ref (b + 0)), none, none, some (.int l3), some (.int (0 : Int32)), some (.int l5), some (.int l6), some (.int x23), some (.int x52)]) rfl ?_
                refine v_aload_n S d_Mo_meet_170 rfl rfl ?_
                refine v_get S (fun w h => List.mem_cons_of_mem _ (i_Mo w h)) hKK.1 0 (by decide) rfl rfl 9 (by decide) (S.2.2.2.2 _ (List.mem_cons_of_mem _ (wd_750))) (fun _ h => h) rfl d_Mo_meet_171 ?_
                refine v_bipush S d_Mo_meet_174 (v := (12 : Int32)) (by decide) ?_
                refine v_iload_n S d_Mo_meet_176 rfl rfl ?_
                refine v_imul S d_Mo_meet_177 ?_
                refine v_iload S d_Mo_meet_178 rfl ?_
                refine v_iadd S d_Mo_meet_180 ?_
                refine v_iload S d_Mo_meet_181 rfl ?_
                refine v_iast1 S hKK.1 8 0 (by decide) (fun _ => rfl) rfl d_Mo_meet_183 (fun h58 => ?_)
                refine v_sg (fun σ59 eσ59 => ?_)
                refine v_iinc S d_Mo_meet_184 rfl (v := (l6 + (1 : Int32))) (by first | rfl | decide) (by decide) (L2 := [some (.ref (b + 0)), none, none, some (.int l3), some (.int (0 : Int32)), some (.int l5), some (.int (l6 + (1 : Int32))), some (.int x23), some (.int x52)]) rfl ?_
                refine v_goto S d_Mo_meet_187 (tgt := 95) (by decide) ?_
                refine v_sub (L2 := [some (.ref (b + 0)), none, none, some (.int l3), some (.int (0 : Int32)), some (.int l5), some (.int (l6 + (1 : Int32)))]) (And.intro rfl (And.intro rfl (And.intro rfl (And.intro rfl (And.intro rfl True.intro))))) ?_
                exact ih σ59 l3 (0 : Int32) l5 (l6 + (1 : Int32))
              · refine v_iconst S d_Mo_meet_163 (v := (1 : Int32)) (by decide) ?_
                refine v_goto S d_Mo_meet_164 (tgt := 168) (by decide) ?_
                refine v_istoreP S d_Mo_meet_168 (by decide) (L2 := [some (.ref (b + 0)), none, none, some (.int l3), some (.int (1 : Int32)), some (.int l5), some (.int l6), some (.int x23), some (.int x52)]) rfl ?_
                refine v_aload_n S d_Mo_meet_170 rfl rfl ?_
                refine v_get S (fun w h => List.mem_cons_of_mem _ (i_Mo w h)) hKK.1 0 (by decide) rfl rfl 9 (by decide) (S.2.2.2.2 _ (List.mem_cons_of_mem _ (wd_750))) (fun _ h => h) rfl d_Mo_meet_171 ?_
                refine v_bipush S d_Mo_meet_174 (v := (12 : Int32)) (by decide) ?_
                refine v_iload_n S d_Mo_meet_176 rfl rfl ?_
                refine v_imul S d_Mo_meet_177 ?_
                refine v_iload S d_Mo_meet_178 rfl ?_
                refine v_iadd S d_Mo_meet_180 ?_
                refine v_iload S d_Mo_meet_181 rfl ?_
                refine v_iast1 S hKK.1 8 0 (by decide) (fun _ => rfl) rfl d_Mo_meet_183 (fun h61 => ?_)
                refine v_sg (fun σ62 eσ62 => ?_)
                refine v_iinc S d_Mo_meet_184 rfl (v := (l6 + (1 : Int32))) (by first | rfl | decide) (by decide) (L2 := [some (.ref (b + 0)), none, none, some (.int l3), some (.int (1 : Int32)), some (.int l5), some (.int (l6 + (1 : Int32))), some (.int x23), some (.int x52)]) rfl ?_
                refine v_goto S d_Mo_meet_187 (tgt := 95) (by decide) ?_
                refine v_sub (L2 := [some (.ref (b + 0)), none, none, some (.int l3), some (.int (1 : Int32)), some (.int l5), some (.int (l6 + (1 : Int32)))]) (And.intro rfl (And.intro rfl (And.intro rfl (And.intro rfl (And.intro rfl True.intro))))) ?_
                exact ih σ62 l3 (1 : Int32) l5 (l6 + (1 : Int32))
  unfold fn_Mo_meet
  refine v_bipush S d_Mo_meet_0 (v := (100 : Int32)) (by decide) ?_
  refine v_iload_n S d_Mo_meet_2 rfl rfl ?_
  refine v_imul S d_Mo_meet_3 ?_
  refine v_iload_n S d_Mo_meet_4 rfl rfl ?_
  refine v_iadd S d_Mo_meet_5 ?_
  refine v_top (fun x1 ex1 => ?_)
  refine v_istore_nP S d_Mo_meet_6 rfl (by decide) (L2 := [some (.ref (b + 0)), some (.int a0), some (.int a1), some (.int x1)]) rfl ?_
  refine v_aload_n S d_Mo_meet_7 rfl rfl ?_
  refine v_get S (fun w h => List.mem_cons_of_mem _ (i_Mo w h)) hKK.1 0 (by decide) rfl rfl 8 (by decide) (S.2.2.2.2 _ (List.mem_cons_of_mem _ (wd_749))) (fun _ h => h) rfl d_Mo_meet_8 ?_
  refine v_iload_n S d_Mo_meet_11 rfl rfl ?_
  refine v_iald S hKK.1 7 0 (by decide) rfl rfl d_Mo_meet_12 (fun h2 => ?_)
  refine v_bipush S d_Mo_meet_13 (v := (-2 : Int32)) (by decide) ?_
  refine v_icmp_ne S d_Mo_meet_15 (tgt := 19) (by decide) (fun h3 => ?_) (fun h3 => ?_)
  · refine v_aload_n S d_Mo_meet_19 rfl rfl ?_
    refine v_get S (fun w h => List.mem_cons_of_mem _ (i_Mo w h)) hKK.1 0 (by decide) rfl rfl 8 (by decide) (S.2.2.2.2 _ (List.mem_cons_of_mem _ (wd_749))) (fun _ h => h) rfl d_Mo_meet_20 ?_
    refine v_iload_n S d_Mo_meet_23 rfl rfl ?_
    refine v_iald S hKK.1 7 0 (by decide) rfl rfl d_Mo_meet_24 (fun h4 => ?_)
    refine v_aload_n S d_Mo_meet_25 rfl rfl ?_
    refine v_get S (fun w h => List.mem_cons_of_mem _ (i_Mo w h)) hKK.1 0 (by decide) rfl rfl 11 (by decide) (S.2.2.2.2 _ (List.mem_cons_of_mem _ (wd_752))) (fun _ h => h) rfl d_Mo_meet_26 ?_
    refine v_icmp_eq S d_Mo_meet_29 (tgt := 36) (by decide) (fun h5 => ?_) (fun h5 => ?_)
    · refine v_iconst S d_Mo_meet_36 (v := (0 : Int32)) (by decide) ?_
      refine v_istoreP S d_Mo_meet_37 (by decide) (L2 := [some (.ref (b + 0)), some (.int a0), some (.int a1), some (.int x1), some (.int (0 : Int32))]) rfl ?_
      refine v_aload_n S d_Mo_meet_39 rfl rfl ?_
      refine v_get S (fun w h => List.mem_cons_of_mem _ (i_Mo w h)) hKK.1 0 (by decide) rfl rfl 8 (by decide) (S.2.2.2.2 _ (List.mem_cons_of_mem _ (wd_749))) (fun _ h => h) rfl d_Mo_meet_40 ?_
      refine v_iload_n S d_Mo_meet_43 rfl rfl ?_
      refine v_iald S hKK.1 7 0 (by decide) rfl rfl d_Mo_meet_44 (fun h6 => ?_)
      refine v_iconst S d_Mo_meet_45 (v := (-1 : Int32)) (by decide) ?_
      refine v_icmp_eq S d_Mo_meet_46 (tgt := 65) (by decide) (fun h7 => ?_) (fun h7 => ?_)
      · refine v_aload_n S d_Mo_meet_65 rfl rfl ?_
        refine v_get S (fun w h => List.mem_cons_of_mem _ (i_Mo w h)) hKK.1 0 (by decide) rfl rfl 8 (by decide) (S.2.2.2.2 _ (List.mem_cons_of_mem _ (wd_749))) (fun _ h => h) rfl d_Mo_meet_66 ?_
        refine v_iload_n S d_Mo_meet_69 rfl rfl ?_
        refine v_iald S hKK.1 7 0 (by decide) rfl rfl d_Mo_meet_70 (fun h8 => ?_)
        refine v_iconst S d_Mo_meet_71 (v := (-1 : Int32)) (by decide) ?_
        refine v_icmp_ne S d_Mo_meet_72 (tgt := 79) (by decide) (fun h9 => ?_) (fun h9 => ?_)
        · refine v_iconst S d_Mo_meet_79 (v := (0 : Int32)) (by decide) ?_
          refine v_istoreP S d_Mo_meet_80 (by decide) (L2 := [some (.ref (b + 0)), some (.int a0), some (.int a1), some (.int x1), some (.int (0 : Int32)), some (.int (0 : Int32))]) rfl ?_
          refine v_aload_n S d_Mo_meet_82 rfl rfl ?_
          refine v_get S (fun w h => List.mem_cons_of_mem _ (i_Mo w h)) hKK.1 0 (by decide) rfl rfl 8 (by decide) (S.2.2.2.2 _ (List.mem_cons_of_mem _ (wd_749))) (fun _ h => h) rfl d_Mo_meet_83 ?_
          refine v_iload_n S d_Mo_meet_86 rfl rfl ?_
          refine v_aload_n S d_Mo_meet_87 rfl rfl ?_
          refine v_get S (fun w h => List.mem_cons_of_mem _ (i_Mo w h)) hKK.1 0 (by decide) rfl rfl 11 (by decide) (S.2.2.2.2 _ (List.mem_cons_of_mem _ (wd_752))) (fun _ h => h) rfl d_Mo_meet_88 ?_
          refine v_iast1 S hKK.1 7 0 (by decide) (fun _ => rfl) rfl d_Mo_meet_91 (fun h10 => ?_)
          refine v_sg (fun σ11 eσ11 => ?_)
          refine v_iconst S d_Mo_meet_92 (v := (0 : Int32)) (by decide) ?_
          refine v_istoreP S d_Mo_meet_93 (by decide) (L2 := [some (.ref (b + 0)), some (.int a0), some (.int a1), some (.int x1), some (.int (0 : Int32)), some (.int (0 : Int32)), some (.int (0 : Int32))]) rfl ?_
          refine v_sub (L2 := [some (.ref (b + 0)), none, none, some (.int x1), some (.int (0 : Int32)), some (.int (0 : Int32)), some (.int (0 : Int32))]) (And.intro rfl (And.intro rfl (And.intro rfl (And.intro rfl (And.intro rfl True.intro))))) ?_
          exact C95 fuel0 σ11 x1 (0 : Int32) (0 : Int32) (0 : Int32)
        · refine v_iconst S d_Mo_meet_75 (v := (1 : Int32)) (by decide) ?_
          refine v_goto S d_Mo_meet_76 (tgt := 80) (by decide) ?_
          refine v_istoreP S d_Mo_meet_80 (by decide) (L2 := [some (.ref (b + 0)), some (.int a0), some (.int a1), some (.int x1), some (.int (0 : Int32)), some (.int (1 : Int32))]) rfl ?_
          refine v_aload_n S d_Mo_meet_82 rfl rfl ?_
          refine v_get S (fun w h => List.mem_cons_of_mem _ (i_Mo w h)) hKK.1 0 (by decide) rfl rfl 8 (by decide) (S.2.2.2.2 _ (List.mem_cons_of_mem _ (wd_749))) (fun _ h => h) rfl d_Mo_meet_83 ?_
          refine v_iload_n S d_Mo_meet_86 rfl rfl ?_
          refine v_aload_n S d_Mo_meet_87 rfl rfl ?_
          refine v_get S (fun w h => List.mem_cons_of_mem _ (i_Mo w h)) hKK.1 0 (by decide) rfl rfl 11 (by decide) (S.2.2.2.2 _ (List.mem_cons_of_mem _ (wd_752))) (fun _ h => h) rfl d_Mo_meet_88 ?_
          refine v_iast1 S hKK.1 7 0 (by decide) (fun _ => rfl) rfl d_Mo_meet_91 (fun h64 => ?_)
          refine v_sg (fun σ65 eσ65 => ?_)
          refine v_iconst S d_Mo_meet_92 (v := (0 : Int32)) (by decide) ?_
          refine v_istoreP S d_Mo_meet_93 (by decide) (L2 := [some (.ref (b + 0)), some (.int a0), some (.int a1), some (.int x1), some (.int (0 : Int32)), some (.int (1 : Int32)), some (.int (0 : Int32))]) rfl ?_
          refine v_sub (L2 := [some (.ref (b + 0)), none, none, some (.int x1), some (.int (0 : Int32)), some (.int (1 : Int32)), some (.int (0 : Int32))]) (And.intro rfl (And.intro rfl (And.intro rfl (And.intro rfl (And.intro rfl True.intro))))) ?_
          exact C95 fuel0 σ65 x1 (0 : Int32) (1 : Int32) (0 : Int32)
      · refine v_iload S d_Mo_meet_49 rfl ?_
        refine v_if_eqT S d_Mo_meet_51 (tgt := 65) (by decide) (by decide) ?_
        refine v_aload_n S d_Mo_meet_65 rfl rfl ?_
        refine v_get S (fun w h => List.mem_cons_of_mem _ (i_Mo w h)) hKK.1 0 (by decide) rfl rfl 8 (by decide) (S.2.2.2.2 _ (List.mem_cons_of_mem _ (wd_749))) (fun _ h => h) rfl d_Mo_meet_66 ?_
        refine v_iload_n S d_Mo_meet_69 rfl rfl ?_
        refine v_iald S hKK.1 7 0 (by decide) rfl rfl d_Mo_meet_70 (fun h66 => ?_)
        refine v_iconst S d_Mo_meet_71 (v := (-1 : Int32)) (by decide) ?_
        refine v_icmp_ne S d_Mo_meet_72 (tgt := 79) (by decide) (fun h67 => ?_) (fun h67 => ?_)
        · refine v_iconst S d_Mo_meet_79 (v := (0 : Int32)) (by decide) ?_
          refine v_istoreP S d_Mo_meet_80 (by decide) (L2 := [some (.ref (b + 0)), some (.int a0), some (.int a1), some (.int x1), some (.int (0 : Int32)), some (.int (0 : Int32))]) rfl ?_
          refine v_aload_n S d_Mo_meet_82 rfl rfl ?_
          refine v_get S (fun w h => List.mem_cons_of_mem _ (i_Mo w h)) hKK.1 0 (by decide) rfl rfl 8 (by decide) (S.2.2.2.2 _ (List.mem_cons_of_mem _ (wd_749))) (fun _ h => h) rfl d_Mo_meet_83 ?_
          refine v_iload_n S d_Mo_meet_86 rfl rfl ?_
          refine v_aload_n S d_Mo_meet_87 rfl rfl ?_
          refine v_get S (fun w h => List.mem_cons_of_mem _ (i_Mo w h)) hKK.1 0 (by decide) rfl rfl 11 (by decide) (S.2.2.2.2 _ (List.mem_cons_of_mem _ (wd_752))) (fun _ h => h) rfl d_Mo_meet_88 ?_
          refine v_iast1 S hKK.1 7 0 (by decide) (fun _ => rfl) rfl d_Mo_meet_91 (fun h68 => ?_)
          refine v_sg (fun σ69 eσ69 => ?_)
          refine v_iconst S d_Mo_meet_92 (v := (0 : Int32)) (by decide) ?_
          refine v_istoreP S d_Mo_meet_93 (by decide) (L2 := [some (.ref (b + 0)), some (.int a0), some (.int a1), some (.int x1), some (.int (0 : Int32)), some (.int (0 : Int32)), some (.int (0 : Int32))]) rfl ?_
          refine v_sub (L2 := [some (.ref (b + 0)), none, none, some (.int x1), some (.int (0 : Int32)), some (.int (0 : Int32)), some (.int (0 : Int32))]) (And.intro rfl (And.intro rfl (And.intro rfl (And.intro rfl (And.intro rfl True.intro))))) ?_
          exact C95 fuel0 σ69 x1 (0 : Int32) (0 : Int32) (0 : Int32)
        · refine v_iconst S d_Mo_meet_75 (v := (1 : Int32)) (by decide) ?_
          refine v_goto S d_Mo_meet_76 (tgt := 80) (by decide) ?_
          refine v_istoreP S d_Mo_meet_80 (by decide) (L2 := [some (.ref (b + 0)), some (.int a0), some (.int a1), some (.int x1), some (.int (0 : Int32)), some (.int (1 : Int32))]) rfl ?_
          refine v_aload_n S d_Mo_meet_82 rfl rfl ?_
          refine v_get S (fun w h => List.mem_cons_of_mem _ (i_Mo w h)) hKK.1 0 (by decide) rfl rfl 8 (by decide) (S.2.2.2.2 _ (List.mem_cons_of_mem _ (wd_749))) (fun _ h => h) rfl d_Mo_meet_83 ?_
          refine v_iload_n S d_Mo_meet_86 rfl rfl ?_
          refine v_aload_n S d_Mo_meet_87 rfl rfl ?_
          refine v_get S (fun w h => List.mem_cons_of_mem _ (i_Mo w h)) hKK.1 0 (by decide) rfl rfl 11 (by decide) (S.2.2.2.2 _ (List.mem_cons_of_mem _ (wd_752))) (fun _ h => h) rfl d_Mo_meet_88 ?_
          refine v_iast1 S hKK.1 7 0 (by decide) (fun _ => rfl) rfl d_Mo_meet_91 (fun h70 => ?_)
          refine v_sg (fun σ71 eσ71 => ?_)
          refine v_iconst S d_Mo_meet_92 (v := (0 : Int32)) (by decide) ?_
          refine v_istoreP S d_Mo_meet_93 (by decide) (L2 := [some (.ref (b + 0)), some (.int a0), some (.int a1), some (.int x1), some (.int (0 : Int32)), some (.int (1 : Int32)), some (.int (0 : Int32))]) rfl ?_
          refine v_sub (L2 := [some (.ref (b + 0)), none, none, some (.int x1), some (.int (0 : Int32)), some (.int (1 : Int32)), some (.int (0 : Int32))]) (And.intro rfl (And.intro rfl (And.intro rfl (And.intro rfl (And.intro rfl True.intro))))) ?_
          exact C95 fuel0 σ71 x1 (0 : Int32) (1 : Int32) (0 : Int32)
    · refine v_iconst S d_Mo_meet_32 (v := (1 : Int32)) (by decide) ?_
      refine v_goto S d_Mo_meet_33 (tgt := 37) (by decide) ?_
      refine v_istoreP S d_Mo_meet_37 (by decide) (L2 := [some (.ref (b + 0)), some (.int a0), some (.int a1), some (.int x1), some (.int (1 : Int32))]) rfl ?_
      refine v_aload_n S d_Mo_meet_39 rfl rfl ?_
      refine v_get S (fun w h => List.mem_cons_of_mem _ (i_Mo w h)) hKK.1 0 (by decide) rfl rfl 8 (by decide) (S.2.2.2.2 _ (List.mem_cons_of_mem _ (wd_749))) (fun _ h => h) rfl d_Mo_meet_40 ?_
      refine v_iload_n S d_Mo_meet_43 rfl rfl ?_
      refine v_iald S hKK.1 7 0 (by decide) rfl rfl d_Mo_meet_44 (fun h72 => ?_)
      refine v_iconst S d_Mo_meet_45 (v := (-1 : Int32)) (by decide) ?_
      refine v_icmp_eq S d_Mo_meet_46 (tgt := 65) (by decide) (fun h73 => ?_) (fun h73 => ?_)
      · refine v_aload_n S d_Mo_meet_65 rfl rfl ?_
        refine v_get S (fun w h => List.mem_cons_of_mem _ (i_Mo w h)) hKK.1 0 (by decide) rfl rfl 8 (by decide) (S.2.2.2.2 _ (List.mem_cons_of_mem _ (wd_749))) (fun _ h => h) rfl d_Mo_meet_66 ?_
        refine v_iload_n S d_Mo_meet_69 rfl rfl ?_
        refine v_iald S hKK.1 7 0 (by decide) rfl rfl d_Mo_meet_70 (fun h74 => ?_)
        refine v_iconst S d_Mo_meet_71 (v := (-1 : Int32)) (by decide) ?_
        refine v_icmp_ne S d_Mo_meet_72 (tgt := 79) (by decide) (fun h75 => ?_) (fun h75 => ?_)
        · refine v_iconst S d_Mo_meet_79 (v := (0 : Int32)) (by decide) ?_
          refine v_istoreP S d_Mo_meet_80 (by decide) (L2 := [some (.ref (b + 0)), some (.int a0), some (.int a1), some (.int x1), some (.int (1 : Int32)), some (.int (0 : Int32))]) rfl ?_
          refine v_aload_n S d_Mo_meet_82 rfl rfl ?_
          refine v_get S (fun w h => List.mem_cons_of_mem _ (i_Mo w h)) hKK.1 0 (by decide) rfl rfl 8 (by decide) (S.2.2.2.2 _ (List.mem_cons_of_mem _ (wd_749))) (fun _ h => h) rfl d_Mo_meet_83 ?_
          refine v_iload_n S d_Mo_meet_86 rfl rfl ?_
          refine v_aload_n S d_Mo_meet_87 rfl rfl ?_
          refine v_get S (fun w h => List.mem_cons_of_mem _ (i_Mo w h)) hKK.1 0 (by decide) rfl rfl 11 (by decide) (S.2.2.2.2 _ (List.mem_cons_of_mem _ (wd_752))) (fun _ h => h) rfl d_Mo_meet_88 ?_
          refine v_iast1 S hKK.1 7 0 (by decide) (fun _ => rfl) rfl d_Mo_meet_91 (fun h76 => ?_)
          refine v_sg (fun σ77 eσ77 => ?_)
          refine v_iconst S d_Mo_meet_92 (v := (0 : Int32)) (by decide) ?_
          refine v_istoreP S d_Mo_meet_93 (by decide) (L2 := [some (.ref (b + 0)), some (.int a0), some (.int a1), some (.int x1), some (.int (1 : Int32)), some (.int (0 : Int32)), some (.int (0 : Int32))]) rfl ?_
          refine v_sub (L2 := [some (.ref (b + 0)), none, none, some (.int x1), some (.int (1 : Int32)), some (.int (0 : Int32)), some (.int (0 : Int32))]) (And.intro rfl (And.intro rfl (And.intro rfl (And.intro rfl (And.intro rfl True.intro))))) ?_
          exact C95 fuel0 σ77 x1 (1 : Int32) (0 : Int32) (0 : Int32)
        · refine v_iconst S d_Mo_meet_75 (v := (1 : Int32)) (by decide) ?_
          refine v_goto S d_Mo_meet_76 (tgt := 80) (by decide) ?_
          refine v_istoreP S d_Mo_meet_80 (by decide) (L2 := [some (.ref (b + 0)), some (.int a0), some (.int a1), some (.int x1), some (.int (1 : Int32)), some (.int (1 : Int32))]) rfl ?_
          refine v_aload_n S d_Mo_meet_82 rfl rfl ?_
          refine v_get S (fun w h => List.mem_cons_of_mem _ (i_Mo w h)) hKK.1 0 (by decide) rfl rfl 8 (by decide) (S.2.2.2.2 _ (List.mem_cons_of_mem _ (wd_749))) (fun _ h => h) rfl d_Mo_meet_83 ?_
          refine v_iload_n S d_Mo_meet_86 rfl rfl ?_
          refine v_aload_n S d_Mo_meet_87 rfl rfl ?_
          refine v_get S (fun w h => List.mem_cons_of_mem _ (i_Mo w h)) hKK.1 0 (by decide) rfl rfl 11 (by decide) (S.2.2.2.2 _ (List.mem_cons_of_mem _ (wd_752))) (fun _ h => h) rfl d_Mo_meet_88 ?_
          refine v_iast1 S hKK.1 7 0 (by decide) (fun _ => rfl) rfl d_Mo_meet_91 (fun h78 => ?_)
          refine v_sg (fun σ79 eσ79 => ?_)
          refine v_iconst S d_Mo_meet_92 (v := (0 : Int32)) (by decide) ?_
          refine v_istoreP S d_Mo_meet_93 (by decide) (L2 := [some (.ref (b + 0)), some (.int a0), some (.int a1), some (.int x1), some (.int (1 : Int32)), some (.int (1 : Int32)), some (.int (0 : Int32))]) rfl ?_
          refine v_sub (L2 := [some (.ref (b + 0)), none, none, some (.int x1), some (.int (1 : Int32)), some (.int (1 : Int32)), some (.int (0 : Int32))]) (And.intro rfl (And.intro rfl (And.intro rfl (And.intro rfl (And.intro rfl True.intro))))) ?_
          exact C95 fuel0 σ79 x1 (1 : Int32) (1 : Int32) (0 : Int32)
      · refine v_iload S d_Mo_meet_49 rfl ?_
        refine v_if_eqF S d_Mo_meet_51 (tgt := 65) (by decide) (by decide) ?_
        refine v_aload_n S d_Mo_meet_54 rfl rfl ?_
        refine v_get S (fun w h => List.mem_cons_of_mem _ (i_Mo w h)) hKK.1 0 (by decide) rfl rfl 8 (by decide) (S.2.2.2.2 _ (List.mem_cons_of_mem _ (wd_749))) (fun _ h => h) rfl d_Mo_meet_55 ?_
        refine v_iload_n S d_Mo_meet_58 rfl rfl ?_
        refine v_bipush S d_Mo_meet_59 (v := (-2 : Int32)) (by decide) ?_
        refine v_iast1 S hKK.1 7 0 (by decide) (fun _ => rfl) rfl d_Mo_meet_61 (fun h80 => ?_)
        refine v_sg (fun σ81 eσ81 => ?_)
        refine v_goto S d_Mo_meet_62 (tgt := 190) (by decide) ?_
        refine v_sub (L2 := [some (.ref (b + 0)), none, none, some (.int x1), some (.int (1 : Int32))]) (And.intro rfl (And.intro rfl (And.intro rfl True.intro))) ?_
        exact C190 σ81 x1 (1 : Int32)
  · exact v_vret S hret hlocks d_Mo_meet_18

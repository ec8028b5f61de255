/-! part 48: from the law's entry to its loop -/
section BG
variable {p : Program} {l : Launch} {e : Env} {R : Room} {s : State} {m : MethodId} {args : Array Value} {below : List Frame} {meth : Method} {c : Code} {D : va_G} {b nL : Nat} {Q : State → Prop} {cf cf2 cfM : Nat → va_E} {n n2 cs ss pc : Nat} {L L2 : List (Option Value)} {rest : List Value} {cc : ByteArray} {Ts : List Cond} {own : String} {ca : Nat → ClassId}
/-- a constructor's call, whose world is the last cell alone -/
theorem vo_cj {index d maxL mc ms : Nat} {y : MethodName} {bytes : ByteArray} {ws : List Cond} {rm : Room} {st0 : List Value} (S : CallFix p m c cc nL s args Ts own) (hK : kO D ca s) (hcnt : s.heap.size + cs = b + (d + 1)) (hce : cf d = cfM 0) (hM : Met l y ws rm (pc_c D ca (b + d) 1 cfM [.ref (b + d + 0)]) (qc_c D (b + d) n2 cf2) mc ms (fun q => b + d ≤ q)) (cw : CallB R s args own index y bytes maxL none ws rm mc ms 0 ∧ y.name = "<init>" ∧ (Cond.instanceMethod y).before args s = true) (hst : st0 = .ref (b + d + 0) :: rest) (hw : (rest.map fun v => v.category).sum ≤ 8) (dc : decode cc pc = .ok (.invokespecial index, 3)) (hf : cs + mc ≤ R.cells ∧ ss + ms ≤ R.slots)
    (kk : vo p l e R s m args below meth c D b nL Q (fun k => if k < d then cf k else cf2 (k - d)) (d + n2) (cs + mc) (ss + ms) (pc + 3) L rest) : vo p l e R s m args below meth c D b nL Q cf (d + 1) cs ss pc L st0 := by
  intro H locs ls hl hP hS T0 hT X
  have hz := vo_sz hcnt (Nat.succ_pos d) hP hT X
  have hP1 : va_P D cls (mm_wl (b + d) 1 cfM) H := fun k q hq => by
    obtain ⟨hlt, rfl⟩ := mm_key hq
    have h0 : k = 0 := by omega
    subst h0
    have h1 := hP d _ (mm_get (Nat.lt_succ_self d))
    rw [hce] at h1
    exact h1
  refine va_callv (va_runI (As := []) (b := b + d + 0) S hM cw ⟨fun a U g mk q => ⟨q.1, q.2.1, q.2.2.1, kO.moved (u := U) (U := U.calling g mk a) (Vm.Alike.refl U.vm) q.2.2.2⟩, fun U hU hW => ⟨rfl, by rw [hU]; exact hP1, by rw [hU, hz]; omega, kO.moved hW.alike hK⟩⟩ rfl rfl hl.1 hst (lv_room hw) dc hf) hS (fun q _ h => by have : b + d ≤ q := h; omega) (fun q h => by have : b + d ≤ q := h; omega) (fun u t H1 locs1 ht hvm _ hB hz1 hk1 hS1 => ?_) T0 hT X
  refine kk H1 locs1 ls hl (fun k q hq => ?_) hS1
  obtain ⟨hlt, rfl⟩ := mm_key hq
  by_cases hk : k < d
  · simp only [if_pos hk]
    exact (hP k _ (mm_get (by omega))).kept (hk1 _ (by show b + k < H.size; omega) (by show ¬ b + d ≤ b + k; omega))
  · simp only [if_neg hk]
    have h1 := hB (k - d) _ (mm_get (by omega))
    rw [ht] at h1
    have e : b + d + (k - d) = b + k := by omega
    rw [e] at h1
    exact h1
theorem vo_newl {x : Int32} (S : CallFix p m c cc nL s args Ts own) (harr : (Cond.arrayClass (newarray.typeOf .long)).before args s = true) (hK : va_K D cls (tys ca) s) (hcnt : s.heap.size + cs = b + n) (hn : 0 < n) (hx : x = 1) (hcells : cs + 1 ≤ R.cells) (hslots : ss + 1 ≤ R.slots) (d : decode cc pc = .ok (.newarray .long, 2))
    (kk : vo p l e R s m args below meth c D b nL Q (va_up cf n (.inl (ca 4, 1, .inr (.inl (fun _ => 0))))) (n + 1) (cs + 1) (ss + 1) (pc + 2) L (.ref (b + n) :: rest)) : vo p l e R s m args below meth c D b nL Q cf n cs ss pc L (.int x :: rest) := by
  intro H locs ls hl hP hS T0 hT X
  have hz := vo_sz hcnt hn hP hT X
  subst hx
  refine va_newaK (N := 1) S.1 S.2.1 harr (g := F0 m pc ls (.int 1 :: rest)) rfl d rfl (by decide) (by decide) (by decide) hcells hslots hz (fun H1 cA e1 z1 o1 hAr hNm => ?_) T0 hT X
  have hcA : cA = ca 4 := Option.some.inj (hNm.symm.trans (hK.2 4 (ca 4, .long) rfl).2)
  subst hcA
  exact kk H1 locs ls hl (mm_push hP (fun q hq => o1 q hq) (by show H1[b + n]? = some (vp_cell _ _); rw [e1, vp_cell_l]; rfl)) ⟨by have := hS.1; omega, fun x h1 h2 => (o1 x (by have := hS.1; omega)).trans (hS.2.1 x h1 h2), hS.2.2⟩
theorem vo_astore {q : Fin 4} {i x : Nat} (S : CallFix p m c cc nL s args Ts own) (d : decode cc pc = .ok (.astore_n q, 1)) (hi : (q : Nat) = i) (hn : i < nL) (hL : lo_st L i (.ref x) = L2)
    (kk : vo p l e R s m args below meth c D b nL Q cf n cs ss (pc + 1) L2 rest) : vo p l e R s m args below meth c D b nL Q cf n cs ss pc L (.ref x :: rest) := fun H locs ls hl hP hS => lv_astore_n S.1 S.2.1 d hi (lo_has hl) hn rfl (fun ls' h2 => kk H locs ls' (hL ▸ lo_putP hl rfl h2) hP hS)
theorem vo_istoreL {i : Nat} {x : Int32} (S : CallFix p m c cc nL s args Ts own) (d : decode cc pc = .ok (.istore i, 2)) (hn : i < nL) (hL : lo_st L i (.int x) = L2)
    (kk : vo p l e R s m args below meth c D b nL Q cf n cs ss (pc + 2) L2 rest) : vo p l e R s m args below meth c D b nL Q cf n cs ss pc L (.int x :: rest) := fun H locs ls hl hP hS => lv_istore S.1 S.2.1 d (lo_has hl) hn rfl (fun ls' h2 => kk H locs ls' (hL ▸ lo_putP hl rfl h2) hP hS)
end BG

/-! part 37: rows for constructors with loops, arrays of rows, calls -/
section VC4
variable {p : Program} {l : Launch} {e : Env} {R : Room} {s : State} {m : MethodId} {args : Array Value} {below : List Frame} {meth : Method} {c : Code} {D : va_G} {b nL : Nat} {Q : State → Prop} {cf cf2 : Nat → va_E} {n n2 cs ss pc : Nat} {L L2 : List (Option Value)} {rest : List Value} {cc : ByteArray} {Ts : List Cond} {own : String} {ca : Nat → ClassId}
theorem mm_wl_cong {cf cf2 : Nat → va_E} (h : ∀ k, k < n → cf k = cf2 k) : mm_wl b n cf = mm_wl b n cf2 := by
  unfold mm_wl
  apply List.map_congr_left
  intro k hk
  rw [h k (List.mem_range.mp hk)]
theorem vo_multi {index : Nat} (S : CallFix p m c cc nL s args Ts own) (hcl : (Cond.classLink own index ("[" ++ (FieldType.array .int).toString)).before args s = true) (hover : ma_AO s) (harr : (Cond.arrayClass .int).before args s = true) (hK : va_K D cls (tys ca) s) (hcnt : s.heap.size + cs = b + n) (hn : 0 < n) (hcells : cs + 5 ≤ R.cells) (hslots : ss + 404 ≤ R.slots) (d : decode cc pc = .ok (.multianewarray index 2, 4))
    (kk : vo p l e R s m args below meth c D b nL Q (va_up (va_up (va_up (va_up (va_up cf n (.inl (ca 3, 4, .inr (.inr (.inr (.inr (fun j => some (b + (n + 1 + j))))))))) (n + 1) (.inl (ca 0, 100, .inl (fun _ => 0)))) (n + 2) (.inl (ca 0, 100, .inl (fun _ => 0)))) (n + 3) (.inl (ca 0, 100, .inl (fun _ => 0)))) (n + 4) (.inl (ca 0, 100, .inl (fun _ => 0)))) (n + 5) (cs + 5) (ss + 404) (pc + 4) L (.ref (b + n) :: rest)) : vo p l e R s m args below meth c D b nL Q cf n cs ss pc L (.int 100 :: .int 4 :: rest) := by
  intro H locs ls hl hP hS T0 hT X
  have hz := vo_sz hcnt hn hP hT X
  refine mu_W S hcl hover harr hcells hslots d (fun cA cI H1 hA hI ho hi hz1 old => ?_) T0 hT X
  rw [hz] at ho hi hz1 old ⊢
  have eA : cA = ca 3 := Option.some.inj (hA.symm.trans (hK.2 3 (ca 3, .array .int) rfl).2)
  have eI : cI = ca 0 := Option.some.inj (hI.symm.trans (hK.2 0 (ca 0, .int) rfl).2)
  subst eA eI
  refine kk H1 _ ls hl ?_ ⟨by have := hS.1; omega, fun x h1 h2 => (old x (by have := hS.1; omega)).trans (hS.2.1 x h1 h2), ?_⟩
  · intro k q hq
    obtain ⟨hlt, rfl⟩ := mm_key hq
    by_cases h0 : k < n
    · rw [va_up_ne _ _ (by omega), va_up_ne _ _ (by omega), va_up_ne _ _ (by omega), va_up_ne _ _ (by omega), va_up_ne _ _ (by omega)]
      exact (hP k _ (mm_get h0)).kept (old _ (by show b + k < b + n; omega))
    · rcases (show k = n ∨ k = n + 1 ∨ k = n + 2 ∨ k = n + 3 ∨ k = n + 4 by omega) with rfl | rfl | rfl | rfl | rfl
      · rw [va_up_ne _ _ (by omega), va_up_ne _ _ (by omega), va_up_ne _ _ (by omega), va_up_ne _ _ (by omega), va_up_self]
        show H1[b + k]? = some (vp_cell _ _)
        rw [ho, vp_cell_q]
        unfold mu_o arrV
        congr 3
        funext j
        have h4 := j.isLt
        show va_rf (if j.val < 4 then some (b + k + 1 + j.val) else none) = va_rf (some (b + (k + 1 + j.val)))
        rw [if_pos h4, show b + k + 1 + j.val = b + (k + 1 + j.val) by omega]
      · rw [va_up_ne _ _ (by omega), va_up_ne _ _ (by omega), va_up_ne _ _ (by omega), va_up_self]
        exact hi 0 (by omega)
      · rw [va_up_ne _ _ (by omega), va_up_ne _ _ (by omega), va_up_self]
        exact hi 1 (by omega)
      · rw [va_up_ne _ _ (by omega), va_up_self]
        exact hi 2 (by omega)
      · rw [va_up_self]
        exact hi 3 (by omega)
  · intro q hq
    rcases List.mem_append.mp hq with hq | hq
    · exact hS.2.2 q hq
    · obtain ⟨j, -, rfl⟩ := List.mem_map.mp hq
      show b ≤ b + n
      omega
theorem vo_istore {q : Fin 4} {i : Nat} {x : Int32} (S : CallFix p m c cc nL s args Ts own) (d : decode cc pc = .ok (.istore_n q, 1)) (hi : (q : Nat) = i) (hn : i < nL) (hL : lo_st L i (.int x) = L2)
    (kk : vo p l e R s m args below meth c D b nL Q cf n cs ss (pc + 1) L2 rest) : vo p l e R s m args below meth c D b nL Q cf n cs ss pc L (.int x :: rest) := fun H locs ls hl hP hS => lv_istore_n S.1 S.2.1 d hi (lo_has hl) hn rfl (fun ls' h2 => kk H locs ls' (hL ▸ lo_putP hl rfl h2) hP hS)
theorem vo_iinc {i : Nat} {k : Int} {x v : Int32} (S : CallFix p m c cc nL s args Ts own) (d : decode cc pc = .ok (.iinc i k, 3)) (hx : L[i]? = some (some (.int x))) (hv : x + Int32.ofInt k = v) (hn : i < nL) (hL : L.set i (some (.int v)) = L2)
    (kk : vo p l e R s m args below meth c D b nL Q cf n cs ss (pc + 3) L2 rest) : vo p l e R s m args below meth c D b nL Q cf n cs ss pc L rest := fun H locs ls hl hP hS => by
  obtain ⟨j, hj⟩ := List.mem_iff_getElem?.mp (lo_mem.mpr hx)
  exact lv_iinc S.1 S.2.1 d (lo_has hl) hj hv hn rfl (fun ls' h2 => kk H locs ls' (hL ▸ lo_put hl rfl h2) hP hS)
theorem vo_goto {off : Int} {tgt : Nat} (S : CallFix p m c cc nL s args Ts own) (d : decode cc pc = .ok (.goto off, 3)) (ht : (pc : Int) + off = (tgt : Int))
    (kk : vo p l e R s m args below meth c D b nL Q cf n cs ss tgt L rest) : vo p l e R s m args below meth c D b nL Q cf n cs ss pc L rest := fun H locs ls hl hP hS => lv_goto S.1 S.2.1 d ht (kk H locs ls hl hP hS)
theorem vo_geT {x y : Int32} {off : Int} {tgt : Nat} (S : CallFix p m c cc nL s args Ts own) (d : decode cc pc = .ok (.if_icmp .ge off, 3)) (ht : (pc : Int) + off = (tgt : Int)) (h0 : y ≤ x)
    (kk : vo p l e R s m args below meth c D b nL Q cf n cs ss tgt L rest) : vo p l e R s m args below meth c D b nL Q cf n cs ss pc L (.int y :: .int x :: rest) := fun H locs ls hl hP hS => lv_icmp_ge S.1 S.2.1 d ht (fun _ => kk H locs ls hl hP hS) (fun h => absurd h0 h)
theorem vo_geF {x y : Int32} {off : Int} {tgt : Nat} (S : CallFix p m c cc nL s args Ts own) (d : decode cc pc = .ok (.if_icmp .ge off, 3)) (ht : (pc : Int) + off = (tgt : Int)) (h0 : ¬ y ≤ x)
    (kk : vo p l e R s m args below meth c D b nL Q cf n cs ss (pc + 3) L rest) : vo p l e R s m args below meth c D b nL Q cf n cs ss pc L (.int y :: .int x :: rest) := fun H locs ls hl hP hS => lv_icmp_ge S.1 S.2.1 d ht (fun h => absurd h h0) (fun _ => kk H locs ls hl hP hS)
theorem vo_aast {N kq kv ci : Nat} {C : String} {T : u_T} {Nf : Nat} {f : Nat → Option Nat} {fs : List Value} {i : Int32} {t0 : Nat} (S : CallFix p m c cc nL s args Ts own) (hK : va_K D cls (tys ca) s) (hkq : kq < n) (hkv : kv < n) (hce : cf kq = .inl (ca t0, N, .inr (.inr (.inr (.inr f))))) (ht : (tys ca)[t0]? = some (ca t0, .object C)) (hcv : cf kv = .inr (ci, fs)) (hc : cls[ci]? = some (C, T, Nf)) (hin : vp_in i N) (d : decode cc pc = .ok (.aastore, 1))
    (kk : vo p l e R s m args below meth c D b nL Q (va_up cf kq (.inl (ca t0, N, .inr (.inr (.inr (.inr (va_up f i.toNatClampNeg (some (b + kv))))))))) n cs ss (pc + 1) L rest) : vo p l e R s m args below meth c D b nL Q cf n cs ss pc L (.ref (b + kv) :: .int i :: .ref (b + kq) :: rest) := fun H locs ls hl hP hS =>
  va_astq (r := (C, T, Nf)) S.1 S.2.1 hK hP mm_DB hS kq t0 kv ci (by rw [mm_get hkq, hce]) ht (by rw [mm_get hkv, hcv]) hc hin d (fun H1 locs1 hP1 _ hS1 => kk H1 locs1 ls hl (by rw [mm_set] at hP1; exact hP1) hS1)
theorem vo_iast {N kq : Nat} {f : Nat → Int32} {i x : Int32} {t0 : Nat} (S : CallFix p m c cc nL s args Ts own) (hK : va_K D cls (tys ca) s) (hkq : kq < n) (hce : cf kq = .inl (ca t0, N, .inl f)) (ht : (tys ca)[t0]? = some (ca t0, .int)) (hin : vp_in i N) (d : decode cc pc = .ok (.iastore, 1))
    (kk : vo p l e R s m args below meth c D b nL Q (va_up cf kq (.inl (ca t0, N, .inl (upd f i.toNatClampNeg x)))) n cs ss (pc + 1) L rest) : vo p l e R s m args below meth c D b nL Q cf n cs ss pc L (.int x :: .int i :: .ref (b + kq) :: rest) := fun H locs ls hl hP hS =>
  va_iast S.1 S.2.1 hK hP mm_DB hS kq t0 (by rw [mm_get hkq, hce]) ht hin d (fun H1 locs1 hP1 _ hS1 => kk H1 locs1 ls hl (by rw [mm_set] at hP1; exact hP1) hS1)
theorem vo_is (h : ∀ k, k < n → cf k = cf2 k) {st : List Value} (kk : vo p l e R s m args below meth c D b nL Q cf2 n cs ss pc L st) : vo p l e R s m args below meth c D b nL Q cf n cs ss pc L st := fun H locs ls hl hP hS =>
  kk H locs ls hl (by rw [← mm_wl_cong h]; exact hP) hS
theorem cb_C {index : Nat} {y : MethodName} {bytes : ByteArray} {maxL k mc ms : Nat} {rm : Room} (hts : ∀ w ∈ Ts, w.before args s = true) (hsub : ∀ w ∈ wG, w ∈ Ts) (hc : Cond.code y bytes maxL none ∈ wG) (hini : Cond.initialized y.cls ∈ wG) (hl : Cond.methodLink own index y ∈ wG) (hi : Cond.instanceMethod y ∈ wG) (hnm : y.name = "<init>")
    (hd : y.cls ≠ "java/lang/invoke/MethodHandle" ∧ y.cls ≠ "java/lang/invoke/VarHandle" ∧ (parseMethodDescriptor y.desc).map (fun d => d.parameters.length) = some k) (hrc : rm.cells = mc) (hrs : rm.slots = ms) (hR : rm.frames + 1 ≤ R.frames ∧ 8 + (maxL + 11) + rm.locals ≤ R.locals) : CallB R s args own index y bytes maxL none (Cond.code y bytes maxL none :: wG) rm mc ms k ∧ y.name = "<init>" ∧ (Cond.instanceMethod y).before args s = true :=
  ⟨callB_of k hts (wg_in hsub hc) rfl hrc hrs (hts _ (hsub _ hini)) (hts _ (hsub _ hl)) hd hR, hnm, hts _ (hsub _ hi)⟩
end VC4

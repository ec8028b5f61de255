/-! the law's loop -/
/-- what is wanted of the two classes' functions: a relation that every pair of calls keeps, with equal answers -/
def okR (Rl : mm_M → mm_M → Prop) : Prop := Rl si_C si_M ∧
  (∀ σ τ, Rl σ τ → ∀ a0 a1, ∃ x r σ' q τ', fn_FV_add σ a0 a1 = some (x, r, σ') ∧ fn_Mo_add τ a0 a1 = some (q, τ') ∧ fn_Mo_thrown τ' = some (cd_La_add x, τ') ∧ (x = 0 ∨ x = 5) ∧ (x = 0 → r = q) ∧ Rl σ' τ') ∧
  (∀ σ τ, Rl σ τ → ∀ a0 a1 a2 a3, ∃ r σ' τ', fn_FV_routine σ a0 a1 a2 a3 = some (r, σ') ∧ fn_Mo_routine τ a0 a1 a2 a3 = some (r, τ') ∧ Rl σ' τ') ∧
  (∀ σ τ, Rl σ τ → ∃ r σ' τ', fn_FV_verify σ = some (r, σ') ∧ fn_Mo_verify τ = some (r, τ') ∧ Rl σ' τ') ∧
  (∀ σ τ, Rl σ τ → ∃ r σ' τ', fn_FV_isVerified σ = some (r, σ') ∧ fn_Mo_isVerified τ = some (r, τ') ∧ Rl σ' τ') ∧
  (∀ σ τ, Rl σ τ → ∀ a0 a1 a2, ∃ r σ' τ', fn_FV_type σ a0 a1 a2 = some (r, σ') ∧ fn_Mo_type τ a0 a1 a2 = some (r, τ') ∧ Rl σ' τ') ∧
  (∀ σ τ, Rl σ τ → ∀ a0 a1 a2, ∃ r σ' τ', fn_FV_start σ a0 a1 a2 = some (r, σ') ∧ fn_Mo_start τ a0 a1 a2 = some (r, τ') ∧ Rl σ' τ') ∧
  (∀ σ τ, Rl σ τ → ∃ x r σ' q τ', fn_FV_step σ = some (x, r, σ') ∧ fn_Mo_step τ = some (q, τ') ∧ fn_Mo_thrown τ' = some (cd_La_step x, τ') ∧ (x = 0 ∨ x = 1 ∨ x = 2 ∨ x = 3 ∨ x = 4 ∨ x = 5) ∧ (x = 0 → r = q) ∧ Rl σ' τ') ∧
  (∀ σ τ, Rl σ τ → ∀ a0, ∃ x r σ' q τ', fn_FV_steps σ a0 = some (x, r, σ') ∧ fn_Mo_steps τ a0 = some (q, τ') ∧ fn_Mo_thrown τ' = some (cd_La_steps x, τ') ∧ (x = 0 ∨ x = 1 ∨ x = 2 ∨ x = 3 ∨ x = 4 ∨ x = 5 ∨ x = 6) ∧ (x = 0 → r = q) ∧ Rl σ' τ') ∧
  (∀ σ τ, Rl σ τ → ∀ a0, ∃ r σ' τ', fn_FV_about σ a0 = some (r, σ') ∧ fn_Mo_about τ a0 = some (r, τ') ∧ Rl σ' τ') ∧
  (∀ σ τ, Rl σ τ → ∀ a0, ∃ r σ' τ', fn_FV_local σ a0 = some (r, σ') ∧ fn_Mo_local τ a0 = some (r, τ') ∧ Rl σ' τ')
theorem Nat.le_of_ble_eq_true_add (b : Nat) : b + N_C ≤ b + 52 := Nat.add_le_add_left (Nat.le_of_ble_eq_true rfl) b
section VL2
variable {p : Program} {l : Launch} {e : Env} {s : State} {m : MethodId} {below : List Frame} {meth : Method} {c : Code} {D : va_G} {ca : Nat → ClassId} {ax : Nat → Nat → Nat} {b bs : Nat} {Q : State → Prop} {σ τ σ' τ' : mm_M} {ov : Option Int64} {K pc : Nat} {L L2 : List (Option Value)} {rest : List Value} {Ts : List Cond} {own : String}
theorem vl_eqT {x y : Int32} {off : Int} {tgt : Nat} (S : CallFix p m c code 7 s #[Value.ref bs] Ts own) (d : decode code pc = .ok (.if_icmp .eq off, 3)) (ht : (pc : Int) + off = (tgt : Int)) (h0 : x = y) (kk : vl p l e s m below meth c D ca b bs Q σ τ ov K tgt L rest) : vl p l e s m below meth c D ca b bs Q σ τ ov K pc L (.int y :: .int x :: rest) := vl_lift (fun H locs ls cs ss hl k => lv_icmp_eq S.1 S.2.1 d ht (fun _ => k) (fun h => absurd h0 h)) kk
theorem vl_eq0 {x : Int32} {off : Int} {tgt : Nat} (S : CallFix p m c code 7 s #[Value.ref bs] Ts own) (d : decode code pc = .ok (.ifCond .eq off, 3)) (ht : (pc : Int) + off = (tgt : Int)) (h0 : x = 0) (kk : vl p l e s m below meth c D ca b bs Q σ τ ov K tgt L rest) : vl p l e s m below meth c D ca b bs Q σ τ ov K pc L (.int x :: rest) := vl_lift (fun H locs ls cs ss hl k => lv_if_eq S.1 S.2.1 d ht (fun _ => k) (fun h => absurd h0 h)) kk
theorem vl_neT {x : Int32} {off : Int} {tgt : Nat} (S : CallFix p m c code 7 s #[Value.ref bs] Ts own) (d : decode code pc = .ok (.ifCond .ne off, 3)) (ht : (pc : Int) + off = (tgt : Int)) (h0 : ¬ x = 0) (kk : vl p l e s m below meth c D ca b bs Q σ τ ov K tgt L rest) : vl p l e s m below meth c D ca b bs Q σ τ ov K pc L (.int x :: rest) := vl_lift (fun H locs ls cs ss hl k => lv_if_ne S.1 S.2.1 d ht (fun _ => k) (fun h => absurd h h0)) kk
theorem vl_neF {x : Int32} {off : Int} {tgt : Nat} (S : CallFix p m c code 7 s #[Value.ref bs] Ts own) (d : decode code pc = .ok (.ifCond .ne off, 3)) (ht : (pc : Int) + off = (tgt : Int)) (h0 : x = 0) (kk : vl p l e s m below meth c D ca b bs Q σ τ ov K (pc + 3) L rest) : vl p l e s m below meth c D ca b bs Q σ τ ov K pc L (.int x :: rest) := vl_lift (fun H locs ls cs ss hl k => lv_if_ne S.1 S.2.1 d ht (fun h => absurd h0 h) (fun _ => k)) kk
theorem vl_end (S : CallFix p m c code 7 s #[Value.ref bs] Ts own) (hr : meth.sig.returnType = ret) (hlocks : meth.locks = false) (hsz : s.heap.size = b) (hK5 : K ≤ 512) : vl p l e s m below meth c D ca b bs (lw_Z below #[Value.ref bs] s) σ τ ov K 501 L [] := by
  intro H locs ls cs ss h1 h2 hl hP hM hO hS
  refine lv_iconst S.1 S.2.1 d_L_501 (v := 1) (by decide) ?_
  refine W.widen (k := 601024) (n := 7293034) (by omega) (by omega) ?_
  have h := W.forget (L := locs) (locs := []) (fun q hq => by rw [hsz]; exact hS.2.2 q hq) (lw_ret (p := p) (l := l) (e := e) (s := s) (m := m) (below := below) (meth := meth) (c := c) (b := bs) (H := H) (ls := ls) S.1 S.2.1 hr hlocks d_L_502)
  exact h
end VL2
set_option maxRecDepth 100000 in
set_option maxHeartbeats 40000000 in
theorem cs_add {p : Program} {l : Launch} {e : Env} {s : State} {m : MethodId} {below : List Frame} {meth : Method} {c : Code} {D : va_G} {ca : Nat → ClassId} {ax : Nat → Nat → Nat} {b bs : Nat} {Q : State → Prop} {Ts : List Cond} {Rl : mm_M → mm_M → Prop} {L0 : Nat} {xs : Nat → Int32} (hR : okR Rl) (htr : l.stackTraces = false) (S : CallFix p m c code 7 s #[Value.ref bs] Ts "FrameVerifierLaw") (hsub : ∀ w ∈ wG, w ∈ Ts) (hKL : kL D ca ax b s) (hX : va_X bs L0 xs s s.heap) (hbl : bs < b) (hsz : s.heap.size = b) (hL0 : L0 ≤ 2560) {i K : Nat} (hi : i + 4 < L0) (hK : 5 * K ≤ i) {σ τ : mm_M} (hr : Rl σ τ) (hend : ∀ (σ τ : mm_M) (ov : Option Int64) (K2 : Nat) (t : List (Option Value)), Rl σ τ → 5 * K2 ≤ i + 5 → vl p l e s m below meth c D ca b bs Q σ τ ov K2 495 ([some (.ref bs), some (.ref (b + 0)), some (.ref (b + 35 + 0)), some (.ref (b + 52)), some (.int (Int32.ofNat i))] ++ t) []) : vl p l e s m below meth c D ca b bs Q σ τ none K 92 [some (.ref bs), some (.ref (b + 0)), some (.ref (b + 35 + 0)), some (.ref (b + 52)), some (.int (Int32.ofNat i))] [] := by
  obtain ⟨x, r, σ', q, τ', h1, h2, h3, hx, hq, hR'⟩ := hR.2.1 σ τ hr (xs (i + 1)) (xs (i + 2))
  refine vl_lift (fun H locs ls cs ss hl k => lv_aload_n S.1 S.2.1 d_L_92 rfl (hl.2.2 1 _ rfl).2 k) ?_
  refine vl_arg (j := 1) S hX hbl hsz hi hL0 (by decide) (by decide) rfl rfl d_L_93 d_L_94 d_L_96 d_L_97 d_L_98 ?_
  refine vl_arg (j := 2) S hX hbl hsz hi hL0 (by decide) (by decide) rfl rfl d_L_99 d_L_100 d_L_102 d_L_103 d_L_104 ?_
  refine vl_lift (fun H locs ls cs ss hl k => lv_aload_n S.1 S.2.1 d_L_105 rfl (hl.2.2 3 _ rfl).2 k) ?_
  refine vl_L (As := [.ref (b + 0), .int (xs (i + 1)), .int (xs (i + 2)), .ref (b + 52)]) (rest := []) S hsub hKL hsz (by omega) (c_La_add l D ca ax b (b + 52) σ (xs (i + 1)) (xs (i + 2)) htr h1 hx (Nat.le_of_ble_eq_true_add b)) m_La_add g_La_add wd_437 s_La_add q_La_add rfl rfl ⟨Nat.le_of_ble_eq_true rfl, Nat.le_of_ble_eq_true rfl⟩ rfl rfl (Nat.zero_le _) d_L_106 ?_
  refine vl_istore (L2 := [some (.ref bs), some (.ref (b + 0)), some (.ref (b + 35 + 0)), some (.ref (b + 52)), some (.int (Int32.ofNat i)), some (.int (cd_La_add x))]) S d_L_109 (by decide) rfl ?_
  refine vl_lift (fun H locs ls cs ss hl k => lv_aload_n S.1 S.2.1 d_L_111 rfl (hl.2.2 2 _ rfl).2 k) ?_
  refine vl_arg (j := 1) S hX hbl hsz hi hL0 (by decide) (by decide) rfl rfl d_L_112 d_L_113 d_L_115 d_L_116 d_L_117 ?_
  refine vl_arg (j := 2) S hX hbl hsz hi hL0 (by decide) (by decide) rfl rfl d_L_118 d_L_119 d_L_121 d_L_122 d_L_123 ?_
  refine vl_M (As := [.int (xs (i + 1)), .int (xs (i + 2))]) (rest := []) S hKL hsz (by omega) (c_Mo_add l D ca ax (b + 35) τ (xs (i + 1)) (xs (i + 2)) h2) (k_La_42 S.2.2.2.2 hsub ⟨Nat.le_of_ble_eq_true rfl, Nat.le_of_ble_eq_true rfl⟩) rfl rfl (Nat.le_of_ble_eq_true rfl) d_L_124 ?_
  refine vl_istore (L2 := [some (.ref bs), some (.ref (b + 0)), some (.ref (b + 35 + 0)), some (.ref (b + 52)), some (.int (Int32.ofNat i)), some (.int (cd_La_add x)), some (.int q)]) S d_L_127 (by decide) rfl ?_
  refine vl_lift (fun H locs ls cs ss hl k => lv_aload_n S.1 S.2.1 d_L_129 rfl (hl.2.2 2 _ rfl).2 k) ?_
  refine vl_M (As := []) (rest := []) S hKL hsz (by omega) (c_Mo_thrown l D ca ax (b + 35) τ'  h3) (k_La_43 S.2.2.2.2 hsub ⟨Nat.le_of_ble_eq_true rfl, Nat.le_of_ble_eq_true rfl⟩) rfl rfl (Nat.le_of_ble_eq_true rfl) d_L_130 ?_
  refine vl_lift (fun H locs ls cs ss hl k => lv_iload S.1 S.2.1 d_L_133 (hl.2.2 5 _ rfl).2 k) ?_
  refine vl_eqT S d_L_135 (tgt := 140) (by decide) rfl ?_
  refine vl_lift (fun H locs ls cs ss hl k => lv_iload S.1 S.2.1 d_L_140 (hl.2.2 5 _ rfl).2 k) ?_
  rcases hx with rfl | rfl
  · refine vl_neF S d_L_142 (tgt := 157) (by decide) rfl ?_
    refine vl_lift (fun H locs ls cs ss hl k => lv_aload_n S.1 S.2.1 d_L_145 rfl (hl.2.2 3 _ rfl).2 k) ?_
    refine vl_lift (fun H locs ls cs ss hl k => lv_iconst S.1 S.2.1 d_L_146 (v := 0) (by decide) k) ?_
    refine vl_out (v := r.toInt64) S hKL.1 d_L_147 ?_
    refine vl_lift (fun H locs ls cs ss hl k => lv_iload S.1 S.2.1 d_L_148 (hl.2.2 6 _ rfl).2 k) ?_
    refine vl_lift (fun H locs ls cs ss hl k => lv_i2l S.1 S.2.1 d_L_150 rfl k) ?_
    refine vl_lift (fun H locs ls cs ss hl k => W.lcmp S.1 S.2.1 d_L_151 k) ?_
    refine vl_eq0 S d_L_152 (tgt := 157) (by decide) (by rw [hq rfl]; simp [lg_cmp]) ?_
    refine vl_lift (fun H locs ls cs ss hl k => lv_goto S.1 S.2.1 d_L_157 (tgt := 495) (by decide) k) ?_
    exact hend σ' τ' _ (K + 1) [some (.int (cd_La_add 0)), some (.int q)] hR' (by omega)
  · refine vl_neT S d_L_142 (tgt := 157) (by decide) (by decide) ?_
    refine vl_lift (fun H locs ls cs ss hl k => lv_goto S.1 S.2.1 d_L_157 (tgt := 495) (by decide) k) ?_
    exact hend σ' τ' _ (K + 1) [some (.int (cd_La_add 5)), some (.int q)] hR' (by omega)
set_option maxRecDepth 100000 in
set_option maxHeartbeats 40000000 in
theorem cs_routine {p : Program} {l : Launch} {e : Env} {s : State} {m : MethodId} {below : List Frame} {meth : Method} {c : Code} {D : va_G} {ca : Nat → ClassId} {ax : Nat → Nat → Nat} {b bs : Nat} {Q : State → Prop} {Ts : List Cond} {Rl : mm_M → mm_M → Prop} {L0 : Nat} {xs : Nat → Int32} (hR : okR Rl) (htr : l.stackTraces = false) (S : CallFix p m c code 7 s #[Value.ref bs] Ts "FrameVerifierLaw") (hsub : ∀ w ∈ wG, w ∈ Ts) (hKL : kL D ca ax b s) (hX : va_X bs L0 xs s s.heap) (hbl : bs < b) (hsz : s.heap.size = b) (hL0 : L0 ≤ 2560) {i K : Nat} (hi : i + 4 < L0) (hK : 5 * K ≤ i) {σ τ : mm_M} (hr : Rl σ τ) (hend : ∀ (σ τ : mm_M) (ov : Option Int64) (K2 : Nat) (t : List (Option Value)), Rl σ τ → 5 * K2 ≤ i + 5 → vl p l e s m below meth c D ca b bs Q σ τ ov K2 495 ([some (.ref bs), some (.ref (b + 0)), some (.ref (b + 35 + 0)), some (.ref (b + 52)), some (.int (Int32.ofNat i))] ++ t) []) : vl p l e s m below meth c D ca b bs Q σ τ none K 160 [some (.ref bs), some (.ref (b + 0)), some (.ref (b + 35 + 0)), some (.ref (b + 52)), some (.int (Int32.ofNat i))] [] := by
  obtain ⟨r, σ', τ', h1, h2, hR'⟩ := hR.2.2.1 σ τ hr (xs (i + 1)) (xs (i + 2)) (xs (i + 3)) (xs (i + 4))
  refine vl_lift (fun H locs ls cs ss hl k => lv_aload_n S.1 S.2.1 d_L_160 rfl (hl.2.2 1 _ rfl).2 k) ?_
  refine vl_arg (j := 1) S hX hbl hsz hi hL0 (by decide) (by decide) rfl rfl d_L_161 d_L_162 d_L_164 d_L_165 d_L_166 ?_
  refine vl_arg (j := 2) S hX hbl hsz hi hL0 (by decide) (by decide) rfl rfl d_L_167 d_L_168 d_L_170 d_L_171 d_L_172 ?_
  refine vl_arg (j := 3) S hX hbl hsz hi hL0 (by decide) (by decide) rfl rfl d_L_173 d_L_174 d_L_176 d_L_177 d_L_178 ?_
  refine vl_arg (j := 4) S hX hbl hsz hi hL0 (by decide) (by decide) rfl rfl d_L_179 d_L_180 d_L_182 d_L_183 d_L_184 ?_
  refine vl_C (As := [.int (xs (i + 1)), .int (xs (i + 2)), .int (xs (i + 3)), .int (xs (i + 4))]) (rest := []) S hKL hsz (by omega) (c_FV_routine l D ca ax b σ (xs (i + 1)) (xs (i + 2)) (xs (i + 3)) (xs (i + 4)) h1) (k_La_46 S.2.2.2.2 hsub ⟨Nat.le_of_ble_eq_true rfl, Nat.le_of_ble_eq_true rfl⟩) rfl rfl (Nat.le_of_ble_eq_true rfl) d_L_185 ?_
  refine vl_lift (fun H locs ls cs ss hl k => lv_aload_n S.1 S.2.1 d_L_188 rfl (hl.2.2 2 _ rfl).2 k) ?_
  refine vl_arg (j := 1) S hX hbl hsz hi hL0 (by decide) (by decide) rfl rfl d_L_189 d_L_190 d_L_192 d_L_193 d_L_194 ?_
  refine vl_arg (j := 2) S hX hbl hsz hi hL0 (by decide) (by decide) rfl rfl d_L_195 d_L_196 d_L_198 d_L_199 d_L_200 ?_
  refine vl_arg (j := 3) S hX hbl hsz hi hL0 (by decide) (by decide) rfl rfl d_L_201 d_L_202 d_L_204 d_L_205 d_L_206 ?_
  refine vl_arg (j := 4) S hX hbl hsz hi hL0 (by decide) (by decide) rfl rfl d_L_207 d_L_208 d_L_210 d_L_211 d_L_212 ?_
  refine vl_M (As := [.int (xs (i + 1)), .int (xs (i + 2)), .int (xs (i + 3)), .int (xs (i + 4))]) (rest := [.int r]) S hKL hsz (by omega) (c_Mo_routine l D ca ax (b + 35) τ (xs (i + 1)) (xs (i + 2)) (xs (i + 3)) (xs (i + 4)) h2) (k_La_50 S.2.2.2.2 hsub ⟨Nat.le_of_ble_eq_true rfl, Nat.le_of_ble_eq_true rfl⟩) rfl rfl (Nat.le_of_ble_eq_true rfl) d_L_213 ?_
  refine vl_eqT S d_L_216 (tgt := 495) (by decide) rfl ?_
  exact hend σ' τ' _ K [] hR' (by omega)
set_option maxRecDepth 100000 in
set_option maxHeartbeats 40000000 in
theorem cs_verify {p : Program} {l : Launch} {e : Env} {s : State} {m : MethodId} {below : List Frame} {meth : Method} {c : Code} {D : va_G} {ca : Nat → ClassId} {ax : Nat → Nat → Nat} {b bs : Nat} {Q : State → Prop} {Ts : List Cond} {Rl : mm_M → mm_M → Prop} {L0 : Nat} {xs : Nat → Int32} (hR : okR Rl) (htr : l.stackTraces = false) (S : CallFix p m c code 7 s #[Value.ref bs] Ts "FrameVerifierLaw") (hsub : ∀ w ∈ wG, w ∈ Ts) (hKL : kL D ca ax b s) (hX : va_X bs L0 xs s s.heap) (hbl : bs < b) (hsz : s.heap.size = b) (hL0 : L0 ≤ 2560) {i K : Nat} (hi : i + 4 < L0) (hK : 5 * K ≤ i) {σ τ : mm_M} (hr : Rl σ τ) (hend : ∀ (σ τ : mm_M) (ov : Option Int64) (K2 : Nat) (t : List (Option Value)), Rl σ τ → 5 * K2 ≤ i + 5 → vl p l e s m below meth c D ca b bs Q σ τ ov K2 495 ([some (.ref bs), some (.ref (b + 0)), some (.ref (b + 35 + 0)), some (.ref (b + 52)), some (.int (Int32.ofNat i))] ++ t) []) : vl p l e s m below meth c D ca b bs Q σ τ none K 221 [some (.ref bs), some (.ref (b + 0)), some (.ref (b + 35 + 0)), some (.ref (b + 52)), some (.int (Int32.ofNat i))] [] := by
  obtain ⟨r, σ', τ', h1, h2, hR'⟩ := hR.2.2.2.1 σ τ hr 
  refine vl_lift (fun H locs ls cs ss hl k => lv_aload_n S.1 S.2.1 d_L_221 rfl (hl.2.2 1 _ rfl).2 k) ?_
  refine vl_C (As := []) (rest := []) S hKL hsz (by omega) (c_FV_verify l D ca ax b σ  h1) (k_La_51 S.2.2.2.2 hsub ⟨Nat.le_of_ble_eq_true rfl, Nat.le_of_ble_eq_true rfl⟩) rfl rfl (Nat.le_of_ble_eq_true rfl) d_L_222 ?_
  refine vl_lift (fun H locs ls cs ss hl k => lv_aload_n S.1 S.2.1 d_L_225 rfl (hl.2.2 2 _ rfl).2 k) ?_
  refine vl_M (As := []) (rest := [.int r]) S hKL hsz (by omega) (c_Mo_verify l D ca ax (b + 35) τ  h2) (k_La_54 S.2.2.2.2 hsub ⟨Nat.le_of_ble_eq_true rfl, Nat.le_of_ble_eq_true rfl⟩) rfl rfl (Nat.le_of_ble_eq_true rfl) d_L_226 ?_
  refine vl_eqT S d_L_229 (tgt := 495) (by decide) rfl ?_
  exact hend σ' τ' _ K [] hR' (by omega)
set_option maxRecDepth 100000 in
set_option maxHeartbeats 40000000 in
theorem cs_isVerified {p : Program} {l : Launch} {e : Env} {s : State} {m : MethodId} {below : List Frame} {meth : Method} {c : Code} {D : va_G} {ca : Nat → ClassId} {ax : Nat → Nat → Nat} {b bs : Nat} {Q : State → Prop} {Ts : List Cond} {Rl : mm_M → mm_M → Prop} {L0 : Nat} {xs : Nat → Int32} (hR : okR Rl) (htr : l.stackTraces = false) (S : CallFix p m c code 7 s #[Value.ref bs] Ts "FrameVerifierLaw") (hsub : ∀ w ∈ wG, w ∈ Ts) (hKL : kL D ca ax b s) (hX : va_X bs L0 xs s s.heap) (hbl : bs < b) (hsz : s.heap.size = b) (hL0 : L0 ≤ 2560) {i K : Nat} (hi : i + 4 < L0) (hK : 5 * K ≤ i) {σ τ : mm_M} (hr : Rl σ τ) (hend : ∀ (σ τ : mm_M) (ov : Option Int64) (K2 : Nat) (t : List (Option Value)), Rl σ τ → 5 * K2 ≤ i + 5 → vl p l e s m below meth c D ca b bs Q σ τ ov K2 495 ([some (.ref bs), some (.ref (b + 0)), some (.ref (b + 35 + 0)), some (.ref (b + 52)), some (.int (Int32.ofNat i))] ++ t) []) : vl p l e s m below meth c D ca b bs Q σ τ none K 234 [some (.ref bs), some (.ref (b + 0)), some (.ref (b + 35 + 0)), some (.ref (b + 52)), some (.int (Int32.ofNat i))] [] := by
  obtain ⟨r, σ', τ', h1, h2, hR'⟩ := hR.2.2.2.2.1 σ τ hr 
  refine vl_lift (fun H locs ls cs ss hl k => lv_aload_n S.1 S.2.1 d_L_234 rfl (hl.2.2 1 _ rfl).2 k) ?_
  refine vl_C (As := []) (rest := []) S hKL hsz (by omega) (c_FV_isVerified l D ca ax b σ  h1) (k_La_55 S.2.2.2.2 hsub ⟨Nat.le_of_ble_eq_true rfl, Nat.le_of_ble_eq_true rfl⟩) rfl rfl (Nat.le_of_ble_eq_true rfl) d_L_235 ?_
  refine vl_lift (fun H locs ls cs ss hl k => lv_aload_n S.1 S.2.1 d_L_238 rfl (hl.2.2 2 _ rfl).2 k) ?_
  refine vl_M (As := []) (rest := [.int r]) S hKL hsz (by omega) (c_Mo_isVerified l D ca ax (b + 35) τ  h2) (k_La_59 S.2.2.2.2 hsub ⟨Nat.le_of_ble_eq_true rfl, Nat.le_of_ble_eq_true rfl⟩) rfl rfl (Nat.le_of_ble_eq_true rfl) d_L_239 ?_
  refine vl_eqT S d_L_242 (tgt := 495) (by decide) rfl ?_
  exact hend σ' τ' _ K [] hR' (by omega)
set_option maxRecDepth 100000 in
set_option maxHeartbeats 40000000 in
theorem cs_type {p : Program} {l : Launch} {e : Env} {s : State} {m : MethodId} {below : List Frame} {meth : Method} {c : Code} {D : va_G} {ca : Nat → ClassId} {ax : Nat → Nat → Nat} {b bs : Nat} {Q : State → Prop} {Ts : List Cond} {Rl : mm_M → mm_M → Prop} {L0 : Nat} {xs : Nat → Int32} (hR : okR Rl) (htr : l.stackTraces = false) (S : CallFix p m c code 7 s #[Value.ref bs] Ts "FrameVerifierLaw") (hsub : ∀ w ∈ wG, w ∈ Ts) (hKL : kL D ca ax b s) (hX : va_X bs L0 xs s s.heap) (hbl : bs < b) (hsz : s.heap.size = b) (hL0 : L0 ≤ 2560) {i K : Nat} (hi : i + 4 < L0) (hK : 5 * K ≤ i) {σ τ : mm_M} (hr : Rl σ τ) (hend : ∀ (σ τ : mm_M) (ov : Option Int64) (K2 : Nat) (t : List (Option Value)), Rl σ τ → 5 * K2 ≤ i + 5 → vl p l e s m below meth c D ca b bs Q σ τ ov K2 495 ([some (.ref bs), some (.ref (b + 0)), some (.ref (b + 35 + 0)), some (.ref (b + 52)), some (.int (Int32.ofNat i))] ++ t) []) : vl p l e s m below meth c D ca b bs Q σ τ none K 247 [some (.ref bs), some (.ref (b + 0)), some (.ref (b + 35 + 0)), some (.ref (b + 52)), some (.int (Int32.ofNat i))] [] := by
  obtain ⟨r, σ', τ', h1, h2, hR'⟩ := hR.2.2.2.2.2.1 σ τ hr (xs (i + 1)) (xs (i + 2)) (xs (i + 3))
  refine vl_lift (fun H locs ls cs ss hl k => lv_aload_n S.1 S.2.1 d_L_247 rfl (hl.2.2 1 _ rfl).2 k) ?_
  refine vl_arg (j := 1) S hX hbl hsz hi hL0 (by decide) (by decide) rfl rfl d_L_248 d_L_249 d_L_251 d_L_252 d_L_253 ?_
  refine vl_arg (j := 2) S hX hbl hsz hi hL0 (by decide) (by decide) rfl rfl d_L_254 d_L_255 d_L_257 d_L_258 d_L_259 ?_
  refine vl_arg (j := 3) S hX hbl hsz hi hL0 (by decide) (by decide) rfl rfl d_L_260 d_L_261 d_L_263 d_L_264 d_L_265 ?_
  refine vl_C (As := [.int (xs (i + 1)), .int (xs (i + 2)), .int (xs (i + 3))]) (rest := []) S hKL hsz (by omega) (c_FV_type l D ca ax b σ (xs (i + 1)) (xs (i + 2)) (xs (i + 3)) h1) (k_La_60 S.2.2.2.2 hsub ⟨Nat.le_of_ble_eq_true rfl, Nat.le_of_ble_eq_true rfl⟩) rfl rfl (Nat.le_of_ble_eq_true rfl) d_L_266 ?_
  refine vl_lift (fun H locs ls cs ss hl k => lv_aload_n S.1 S.2.1 d_L_269 rfl (hl.2.2 2 _ rfl).2 k) ?_
  refine vl_arg (j := 1) S hX hbl hsz hi hL0 (by decide) (by decide) rfl rfl d_L_270 d_L_271 d_L_273 d_L_274 d_L_275 ?_
  refine vl_arg (j := 2) S hX hbl hsz hi hL0 (by decide) (by decide) rfl rfl d_L_276 d_L_277 d_L_279 d_L_280 d_L_281 ?_
  refine vl_arg (j := 3) S hX hbl hsz hi hL0 (by decide) (by decide) rfl rfl d_L_282 d_L_283 d_L_285 d_L_286 d_L_287 ?_
  refine vl_M (As := [.int (xs (i + 1)), .int (xs (i + 2)), .int (xs (i + 3))]) (rest := [.int r]) S hKL hsz (by omega) (c_Mo_type l D ca ax (b + 35) τ (xs (i + 1)) (xs (i + 2)) (xs (i + 3)) h2) (k_La_64 S.2.2.2.2 hsub ⟨Nat.le_of_ble_eq_true rfl, Nat.le_of_ble_eq_true rfl⟩) rfl rfl (Nat.le_of_ble_eq_true rfl) d_L_288 ?_
  refine vl_eqT S d_L_291 (tgt := 495) (by decide) rfl ?_
  exact hend σ' τ' _ K [] hR' (by omega)
set_option maxRecDepth 100000 in
set_option maxHeartbeats 40000000 in
theorem cs_start {p : Program} {l : Launch} {e : Env} {s : State} {m : MethodId} {below : List Frame} {meth : Method} {c : Code} {D : va_G} {ca : Nat → ClassId} {ax : Nat → Nat → Nat} {b bs : Nat} {Q : State → Prop} {Ts : List Cond} {Rl : mm_M → mm_M → Prop} {L0 : Nat} {xs : Nat → Int32} (hR : okR Rl) (htr : l.stackTraces = false) (S : CallFix p m c code 7 s #[Value.ref bs] Ts "FrameVerifierLaw") (hsub : ∀ w ∈ wG, w ∈ Ts) (hKL : kL D ca ax b s) (hX : va_X bs L0 xs s s.heap) (hbl : bs < b) (hsz : s.heap.size = b) (hL0 : L0 ≤ 2560) {i K : Nat} (hi : i + 4 < L0) (hK : 5 * K ≤ i) {σ τ : mm_M} (hr : Rl σ τ) (hend : ∀ (σ τ : mm_M) (ov : Option Int64) (K2 : Nat) (t : List (Option Value)), Rl σ τ → 5 * K2 ≤ i + 5 → vl p l e s m below meth c D ca b bs Q σ τ ov K2 495 ([some (.ref bs), some (.ref (b + 0)), some (.ref (b + 35 + 0)), some (.ref (b + 52)), some (.int (Int32.ofNat i))] ++ t) []) : vl p l e s m below meth c D ca b bs Q σ τ none K 296 [some (.ref bs), some (.ref (b + 0)), some (.ref (b + 35 + 0)), some (.ref (b + 52)), some (.int (Int32.ofNat i))] [] := by
  obtain ⟨r, σ', τ', h1, h2, hR'⟩ := hR.2.2.2.2.2.2.1 σ τ hr (xs (i + 1)) (xs (i + 2)) (xs (i + 3))
  refine vl_lift (fun H locs ls cs ss hl k => lv_aload_n S.1 S.2.1 d_L_296 rfl (hl.2.2 1 _ rfl).2 k) ?_
  refine vl_arg (j := 1) S hX hbl hsz hi hL0 (by decide) (by decide) rfl rfl d_L_297 d_L_298 d_L_300 d_L_301 d_L_302 ?_
  refine vl_arg (j := 2) S hX hbl hsz hi hL0 (by decide) (by decide) rfl rfl d_L_303 d_L_304 d_L_306 d_L_307 d_L_308 ?_
  refine vl_arg (j := 3) S hX hbl hsz hi hL0 (by decide) (by decide) rfl rfl d_L_309 d_L_310 d_L_312 d_L_313 d_L_314 ?_
  refine vl_C (As := [.int (xs (i + 1)), .int (xs (i + 2)), .int (xs (i + 3))]) (rest := []) S hKL hsz (by omega) (c_FV_start l D ca ax b σ (xs (i + 1)) (xs (i + 2)) (xs (i + 3)) h1) (k_La_65 S.2.2.2.2 hsub ⟨Nat.le_of_ble_eq_true rfl, Nat.le_of_ble_eq_true rfl⟩) rfl rfl (Nat.le_of_ble_eq_true rfl) d_L_315 ?_
  refine vl_lift (fun H locs ls cs ss hl k => lv_aload_n S.1 S.2.1 d_L_318 rfl (hl.2.2 2 _ rfl).2 k) ?_
  refine vl_arg (j := 1) S hX hbl hsz hi hL0 (by decide) (by decide) rfl rfl d_L_319 d_L_320 d_L_322 d_L_323 d_L_324 ?_
  refine vl_arg (j := 2) S hX hbl hsz hi hL0 (by decide) (by decide) rfl rfl d_L_325 d_L_326 d_L_328 d_L_329 d_L_330 ?_
  refine vl_arg (j := 3) S hX hbl hsz hi hL0 (by decide) (by decide) rfl rfl d_L_331 d_L_332 d_L_334 d_L_335 d_L_336 ?_
  refine vl_M (As := [.int (xs (i + 1)), .int (xs (i + 2)), .int (xs (i + 3))]) (rest := [.int r]) S hKL hsz (by omega) (c_Mo_start l D ca ax (b + 35) τ (xs (i + 1)) (xs (i + 2)) (xs (i + 3)) h2) (k_La_69 S.2.2.2.2 hsub ⟨Nat.le_of_ble_eq_true rfl, Nat.le_of_ble_eq_true rfl⟩) rfl rfl (Nat.le_of_ble_eq_true rfl) d_L_337 ?_
  refine vl_eqT S d_L_340 (tgt := 495) (by decide) rfl ?_
  exact hend σ' τ' _ K [] hR' (by omega)
set_option maxRecDepth 100000 in
set_option maxHeartbeats 40000000 in
theorem cs_step {p : Program} {l : Launch} {e : Env} {s : State} {m : MethodId} {below : List Frame} {meth : Method} {c : Code} {D : va_G} {ca : Nat → ClassId} {ax : Nat → Nat → Nat} {b bs : Nat} {Q : State → Prop} {Ts : List Cond} {Rl : mm_M → mm_M → Prop} {L0 : Nat} {xs : Nat → Int32} (hR : okR Rl) (htr : l.stackTraces = false) (S : CallFix p m c code 7 s #[Value.ref bs] Ts "FrameVerifierLaw") (hsub : ∀ w ∈ wG, w ∈ Ts) (hKL : kL D ca ax b s) (hX : va_X bs L0 xs s s.heap) (hbl : bs < b) (hsz : s.heap.size = b) (hL0 : L0 ≤ 2560) {i K : Nat} (hi : i + 4 < L0) (hK : 5 * K ≤ i) {σ τ : mm_M} (hr : Rl σ τ) (hend : ∀ (σ τ : mm_M) (ov : Option Int64) (K2 : Nat) (t : List (Option Value)), Rl σ τ → 5 * K2 ≤ i + 5 → vl p l e s m below meth c D ca b bs Q σ τ ov K2 495 ([some (.ref bs), some (.ref (b + 0)), some (.ref (b + 35 + 0)), some (.ref (b + 52)), some (.int (Int32.ofNat i))] ++ t) []) : vl p l e s m below meth c D ca b bs Q σ τ none K 345 [some (.ref bs), some (.ref (b + 0)), some (.ref (b + 35 + 0)), some (.ref (b + 52)), some (.int (Int32.ofNat i))] [] := by
  obtain ⟨x, r, σ', q, τ', h1, h2, h3, hx, hq, hR'⟩ := hR.2.2.2.2.2.2.2.1 σ τ hr 
  refine vl_lift (fun H locs ls cs ss hl k => lv_aload_n S.1 S.2.1 d_L_345 rfl (hl.2.2 1 _ rfl).2 k) ?_
  refine vl_lift (fun H locs ls cs ss hl k => lv_aload_n S.1 S.2.1 d_L_346 rfl (hl.2.2 3 _ rfl).2 k) ?_
  refine vl_L (As := [.ref (b + 0), .ref (b + 52)]) (rest := []) S hsub hKL hsz (by omega) (c_La_step l D ca ax b (b + 52) σ  htr h1 hx (Nat.le_of_ble_eq_true_add b)) m_La_step g_La_step wd_515 s_La_step q_La_step rfl rfl ⟨Nat.le_of_ble_eq_true rfl, Nat.le_of_ble_eq_true rfl⟩ rfl rfl (Nat.zero_le _) d_L_347 ?_
  refine vl_istore (L2 := [some (.ref bs), some (.ref (b + 0)), some (.ref (b + 35 + 0)), some (.ref (b + 52)), some (.int (Int32.ofNat i)), some (.int (cd_La_step x))]) S d_L_350 (by decide) rfl ?_
  refine vl_lift (fun H locs ls cs ss hl k => lv_aload_n S.1 S.2.1 d_L_352 rfl (hl.2.2 2 _ rfl).2 k) ?_
  refine vl_M (As := []) (rest := []) S hKL hsz (by omega) (c_Mo_step l D ca ax (b + 35) τ  h2) (k_La_73 S.2.2.2.2 hsub ⟨Nat.le_of_ble_eq_true rfl, Nat.le_of_ble_eq_true rfl⟩) rfl rfl (Nat.le_of_ble_eq_true rfl) d_L_353 ?_
  refine vl_istore (L2 := [some (.ref bs), some (.ref (b + 0)), some (.ref (b + 35 + 0)), some (.ref (b + 52)), some (.int (Int32.ofNat i)), some (.int (cd_La_step x)), some (.int q)]) S d_L_356 (by decide) rfl ?_
  refine vl_lift (fun H locs ls cs ss hl k => lv_aload_n S.1 S.2.1 d_L_358 rfl (hl.2.2 2 _ rfl).2 k) ?_
  refine vl_M (As := []) (rest := []) S hKL hsz (by omega) (c_Mo_thrown l D ca ax (b + 35) τ'  h3) (k_La_43 S.2.2.2.2 hsub ⟨Nat.le_of_ble_eq_true rfl, Nat.le_of_ble_eq_true rfl⟩) rfl rfl (Nat.le_of_ble_eq_true rfl) d_L_359 ?_
  refine vl_lift (fun H locs ls cs ss hl k => lv_iload S.1 S.2.1 d_L_362 (hl.2.2 5 _ rfl).2 k) ?_
  refine vl_eqT S d_L_364 (tgt := 369) (by decide) rfl ?_
  refine vl_lift (fun H locs ls cs ss hl k => lv_iload S.1 S.2.1 d_L_369 (hl.2.2 5 _ rfl).2 k) ?_
  rcases hx with rfl | rfl | rfl | rfl | rfl | rfl
  · refine vl_neF S d_L_371 (tgt := 386) (by decide) rfl ?_
    refine vl_lift (fun H locs ls cs ss hl k => lv_aload_n S.1 S.2.1 d_L_374 rfl (hl.2.2 3 _ rfl).2 k) ?_
    refine vl_lift (fun H locs ls cs ss hl k => lv_iconst S.1 S.2.1 d_L_375 (v := 0) (by decide) k) ?_
    refine vl_out (v := r.toInt64) S hKL.1 d_L_376 ?_
    refine vl_lift (fun H locs ls cs ss hl k => lv_iload S.1 S.2.1 d_L_377 (hl.2.2 6 _ rfl).2 k) ?_
    refine vl_lift (fun H locs ls cs ss hl k => lv_i2l S.1 S.2.1 d_L_379 rfl k) ?_
    refine vl_lift (fun H locs ls cs ss hl k => W.lcmp S.1 S.2.1 d_L_380 k) ?_
    refine vl_eq0 S d_L_381 (tgt := 386) (by decide) (by rw [hq rfl]; simp [lg_cmp]) ?_
    refine vl_lift (fun H locs ls cs ss hl k => lv_goto S.1 S.2.1 d_L_386 (tgt := 495) (by decide) k) ?_
    exact hend σ' τ' _ (K + 1) [some (.int (cd_La_step 0)), some (.int q)] hR' (by omega)
  · refine vl_neT S d_L_371 (tgt := 386) (by decide) (by decide) ?_
    refine vl_lift (fun H locs ls cs ss hl k => lv_goto S.1 S.2.1 d_L_386 (tgt := 495) (by decide) k) ?_
    exact hend σ' τ' _ (K + 1) [some (.int (cd_La_step 1)), some (.int q)] hR' (by omega)
  · refine vl_neT S d_L_371 (tgt := 386) (by decide) (by decide) ?_
    refine vl_lift (fun H locs ls cs ss hl k => lv_goto S.1 S.2.1 d_L_386 (tgt := 495) (by decide) k) ?_
    exact hend σ' τ' _ (K + 1) [some (.int (cd_La_step 2)), some (.int q)] hR' (by omega)
  · refine vl_neT S d_L_371 (tgt := 386) (by decide) (by decide) ?_
    refine vl_lift (fun H locs ls cs ss hl k => lv_goto S.1 S.2.1 d_L_386 (tgt := 495) (by decide) k) ?_
    exact hend σ' τ' _ (K + 1) [some (.int (cd_La_step 3)), some (.int q)] hR' (by omega)
  · refine vl_neT S d_L_371 (tgt := 386) (by decide) (by decide) ?_
    refine vl_lift (fun H locs ls cs ss hl k => lv_goto S.1 S.2.1 d_L_386 (tgt := 495) (by decide) k) ?_
    exact hend σ' τ' _ (K + 1) [some (.int (cd_La_step 4)), some (.int q)] hR' (by omega)
  · refine vl_neT S d_L_371 (tgt := 386) (by decide) (by decide) ?_
    refine vl_lift (fun H locs ls cs ss hl k => lv_goto S.1 S.2.1 d_L_386 (tgt := 495) (by decide) k) ?_
    exact hend σ' τ' _ (K + 1) [some (.int (cd_La_step 5)), some (.int q)] hR' (by omega)
set_option maxRecDepth 100000 in
set_option maxHeartbeats 40000000 in
theorem cs_steps {p : Program} {l : Launch} {e : Env} {s : State} {m : MethodId} {below : List Frame} {meth : Method} {c : Code} {D : va_G} {ca : Nat → ClassId} {ax : Nat → Nat → Nat} {b bs : Nat} {Q : State → Prop} {Ts : List Cond} {Rl : mm_M → mm_M → Prop} {L0 : Nat} {xs : Nat → Int32} (hR : okR Rl) (htr : l.stackTraces = false) (S : CallFix p m c code 7 s #[Value.ref bs] Ts "FrameVerifierLaw") (hsub : ∀ w ∈ wG, w ∈ Ts) (hKL : kL D ca ax b s) (hX : va_X bs L0 xs s s.heap) (hbl : bs < b) (hsz : s.heap.size = b) (hL0 : L0 ≤ 2560) {i K : Nat} (hi : i + 4 < L0) (hK : 5 * K ≤ i) {σ τ : mm_M} (hr : Rl σ τ) (hend : ∀ (σ τ : mm_M) (ov : Option Int64) (K2 : Nat) (t : List (Option Value)), Rl σ τ → 5 * K2 ≤ i + 5 → vl p l e s m below meth c D ca b bs Q σ τ ov K2 495 ([some (.ref bs), some (.ref (b + 0)), some (.ref (b + 35 + 0)), some (.ref (b + 52)), some (.int (Int32.ofNat i))] ++ t) []) : vl p l e s m below meth c D ca b bs Q σ τ none K 389 [some (.ref bs), some (.ref (b + 0)), some (.ref (b + 35 + 0)), some (.ref (b + 52)), some (.int (Int32.ofNat i))] [] := by
  obtain ⟨x, r, σ', q, τ', h1, h2, h3, hx, hq, hR'⟩ := hR.2.2.2.2.2.2.2.2.1 σ τ hr (xs (i + 1))
  refine vl_lift (fun H locs ls cs ss hl k => lv_aload_n S.1 S.2.1 d_L_389 rfl (hl.2.2 1 _ rfl).2 k) ?_
  refine vl_arg (j := 1) S hX hbl hsz hi hL0 (by decide) (by decide) rfl rfl d_L_390 d_L_391 d_L_393 d_L_394 d_L_395 ?_
  refine vl_lift (fun H locs ls cs ss hl k => lv_aload_n S.1 S.2.1 d_L_396 rfl (hl.2.2 3 _ rfl).2 k) ?_
  refine vl_L (As := [.ref (b + 0), .int (xs (i + 1)), .ref (b + 52)]) (rest := []) S hsub hKL hsz (by omega) (c_La_steps l D ca ax b (b + 52) σ (xs (i + 1)) htr h1 hx (Nat.le_of_ble_eq_true_add b)) m_La_steps g_La_steps wd_712 s_La_steps q_La_steps rfl rfl ⟨Nat.le_of_ble_eq_true rfl, Nat.le_of_ble_eq_true rfl⟩ rfl rfl (Nat.zero_le _) d_L_397 ?_
  refine vl_istore (L2 := [some (.ref bs), some (.ref (b + 0)), some (.ref (b + 35 + 0)), some (.ref (b + 52)), some (.int (Int32.ofNat i)), some (.int (cd_La_steps x))]) S d_L_400 (by decide) rfl ?_
  refine vl_lift (fun H locs ls cs ss hl k => lv_aload_n S.1 S.2.1 d_L_402 rfl (hl.2.2 2 _ rfl).2 k) ?_
  refine vl_arg (j := 1) S hX hbl hsz hi hL0 (by decide) (by decide) rfl rfl d_L_403 d_L_404 d_L_406 d_L_407 d_L_408 ?_
  refine vl_M (As := [.int (xs (i + 1))]) (rest := []) S hKL hsz (by omega) (c_Mo_steps l D ca ax (b + 35) τ (xs (i + 1)) h2) (k_La_77 S.2.2.2.2 hsub ⟨Nat.le_of_ble_eq_true rfl, Nat.le_of_ble_eq_true rfl⟩) rfl rfl (Nat.le_of_ble_eq_true rfl) d_L_409 ?_
  refine vl_istore (L2 := [some (.ref bs), some (.ref (b + 0)), some (.ref (b + 35 + 0)), some (.ref (b + 52)), some (.int (Int32.ofNat i)), some (.int (cd_La_steps x)), some (.int q)]) S d_L_412 (by decide) rfl ?_
  refine vl_lift (fun H locs ls cs ss hl k => lv_aload_n S.1 S.2.1 d_L_414 rfl (hl.2.2 2 _ rfl).2 k) ?_
  refine vl_M (As := []) (rest := []) S hKL hsz (by omega) (c_Mo_thrown l D ca ax (b + 35) τ'  h3) (k_La_43 S.2.2.2.2 hsub ⟨Nat.le_of_ble_eq_true rfl, Nat.le_of_ble_eq_true rfl⟩) rfl rfl (Nat.le_of_ble_eq_true rfl) d_L_415 ?_
  refine vl_lift (fun H locs ls cs ss hl k => lv_iload S.1 S.2.1 d_L_418 (hl.2.2 5 _ rfl).2 k) ?_
  refine vl_eqT S d_L_420 (tgt := 425) (by decide) rfl ?_
  refine vl_lift (fun H locs ls cs ss hl k => lv_iload S.1 S.2.1 d_L_425 (hl.2.2 5 _ rfl).2 k) ?_
  rcases hx with rfl | rfl | rfl | rfl | rfl | rfl | rfl
  · refine vl_neF S d_L_427 (tgt := 442) (by decide) rfl ?_
    refine vl_lift (fun H locs ls cs ss hl k => lv_aload_n S.1 S.2.1 d_L_430 rfl (hl.2.2 3 _ rfl).2 k) ?_
    refine vl_lift (fun H locs ls cs ss hl k => lv_iconst S.1 S.2.1 d_L_431 (v := 0) (by decide) k) ?_
    refine vl_out (v := r.toInt64) S hKL.1 d_L_432 ?_
    refine vl_lift (fun H locs ls cs ss hl k => lv_iload S.1 S.2.1 d_L_433 (hl.2.2 6 _ rfl).2 k) ?_
    refine vl_lift (fun H locs ls cs ss hl k => lv_i2l S.1 S.2.1 d_L_435 rfl k) ?_
    refine vl_lift (fun H locs ls cs ss hl k => W.lcmp S.1 S.2.1 d_L_436 k) ?_
    refine vl_eq0 S d_L_437 (tgt := 442) (by decide) (by rw [hq rfl]; simp [lg_cmp]) ?_
    refine vl_lift (fun H locs ls cs ss hl k => lv_goto S.1 S.2.1 d_L_442 (tgt := 495) (by decide) k) ?_
    exact hend σ' τ' _ (K + 1) [some (.int (cd_La_steps 0)), some (.int q)] hR' (by omega)
  · refine vl_neT S d_L_427 (tgt := 442) (by decide) (by decide) ?_
    refine vl_lift (fun H locs ls cs ss hl k => lv_goto S.1 S.2.1 d_L_442 (tgt := 495) (by decide) k) ?_
    exact hend σ' τ' _ (K + 1) [some (.int (cd_La_steps 1)), some (.int q)] hR' (by omega)
  · refine vl_neT S d_L_427 (tgt := 442) (by decide) (by decide) ?_
    refine vl_lift (fun H locs ls cs ss hl k => lv_goto S.1 S.2.1 d_L_442 (tgt := 495) (by decide) k) ?_
    exact hend σ' τ' _ (K + 1) [some (.int (cd_La_steps 2)), some (.int q)] hR' (by omega)
  · refine vl_neT S d_L_427 (tgt := 442) (by decide) (by decide) ?_
    refine vl_lift (fun H locs ls cs ss hl k => lv_goto S.1 S.2.1 d_L_442 (tgt := 495) (by decide) k) ?_
    exact hend σ' τ' _ (K + 1) [some (.int (cd_La_steps 3)), some (.int q)] hR' (by omega)
  · refine vl_neT S d_L_427 (tgt := 442) (by decide) (by decide) ?_
    refine vl_lift (fun H locs ls cs ss hl k => lv_goto S.1 S.2.1 d_L_442 (tgt := 495) (by decide) k) ?_
    exact hend σ' τ' _ (K + 1) [some (.int (cd_La_steps 4)), some (.int q)] hR' (by omega)
  · refine vl_neT S d_L_427 (tgt := 442) (by decide) (by decide) ?_
    refine vl_lift (fun H locs ls cs ss hl k => lv_goto S.1 S.2.1 d_L_442 (tgt := 495) (by decide) k) ?_
    exact hend σ' τ' _ (K + 1) [some (.int (cd_La_steps 5)), some (.int q)] hR' (by omega)
  · refine vl_neT S d_L_427 (tgt := 442) (by decide) (by decide) ?_
    refine vl_lift (fun H locs ls cs ss hl k => lv_goto S.1 S.2.1 d_L_442 (tgt := 495) (by decide) k) ?_
    exact hend σ' τ' _ (K + 1) [some (.int (cd_La_steps 6)), some (.int q)] hR' (by omega)
set_option maxRecDepth 100000 in
set_option maxHeartbeats 40000000 in
theorem cs_about {p : Program} {l : Launch} {e : Env} {s : State} {m : MethodId} {below : List Frame} {meth : Method} {c : Code} {D : va_G} {ca : Nat → ClassId} {ax : Nat → Nat → Nat} {b bs : Nat} {Q : State → Prop} {Ts : List Cond} {Rl : mm_M → mm_M → Prop} {L0 : Nat} {xs : Nat → Int32} (hR : okR Rl) (htr : l.stackTraces = false) (S : CallFix p m c code 7 s #[Value.ref bs] Ts "FrameVerifierLaw") (hsub : ∀ w ∈ wG, w ∈ Ts) (hKL : kL D ca ax b s) (hX : va_X bs L0 xs s s.heap) (hbl : bs < b) (hsz : s.heap.size = b) (hL0 : L0 ≤ 2560) {i K : Nat} (hi : i + 4 < L0) (hK : 5 * K ≤ i) {σ τ : mm_M} (hr : Rl σ τ) (hend : ∀ (σ τ : mm_M) (ov : Option Int64) (K2 : Nat) (t : List (Option Value)), Rl σ τ → 5 * K2 ≤ i + 5 → vl p l e s m below meth c D ca b bs Q σ τ ov K2 495 ([some (.ref bs), some (.ref (b + 0)), some (.ref (b + 35 + 0)), some (.ref (b + 52)), some (.int (Int32.ofNat i))] ++ t) []) : vl p l e s m below meth c D ca b bs Q σ τ none K 445 [some (.ref bs), some (.ref (b + 0)), some (.ref (b + 35 + 0)), some (.ref (b + 52)), some (.int (Int32.ofNat i))] [] := by
  obtain ⟨r, σ', τ', h1, h2, hR'⟩ := hR.2.2.2.2.2.2.2.2.2.1 σ τ hr (xs (i + 1))
  refine vl_lift (fun H locs ls cs ss hl k => lv_aload_n S.1 S.2.1 d_L_445 rfl (hl.2.2 1 _ rfl).2 k) ?_
  refine vl_arg (j := 1) S hX hbl hsz hi hL0 (by decide) (by decide) rfl rfl d_L_446 d_L_447 d_L_449 d_L_450 d_L_451 ?_
  refine vl_C (As := [.int (xs (i + 1))]) (rest := []) S hKL hsz (by omega) (c_FV_about l D ca ax b σ (xs (i + 1)) h1) (k_La_78 S.2.2.2.2 hsub ⟨Nat.le_of_ble_eq_true rfl, Nat.le_of_ble_eq_true rfl⟩) rfl rfl (Nat.le_of_ble_eq_true rfl) d_L_452 ?_
  refine vl_lift (fun H locs ls cs ss hl k => lv_aload_n S.1 S.2.1 d_L_455 rfl (hl.2.2 2 _ rfl).2 k) ?_
  refine vl_arg (j := 1) S hX hbl hsz hi hL0 (by decide) (by decide) rfl rfl d_L_456 d_L_457 d_L_459 d_L_460 d_L_461 ?_
  refine vl_M (As := [.int (xs (i + 1))]) (rest := [.int r]) S hKL hsz (by omega) (c_Mo_about l D ca ax (b + 35) τ (xs (i + 1)) h2) (k_La_81 S.2.2.2.2 hsub ⟨Nat.le_of_ble_eq_true rfl, Nat.le_of_ble_eq_true rfl⟩) rfl rfl (Nat.le_of_ble_eq_true rfl) d_L_462 ?_
  refine vl_eqT S d_L_465 (tgt := 495) (by decide) rfl ?_
  exact hend σ' τ' _ K [] hR' (by omega)
set_option maxRecDepth 100000 in
set_option maxHeartbeats 40000000 in
theorem cs_local {p : Program} {l : Launch} {e : Env} {s : State} {m : MethodId} {below : List Frame} {meth : Method} {c : Code} {D : va_G} {ca : Nat → ClassId} {ax : Nat → Nat → Nat} {b bs : Nat} {Q : State → Prop} {Ts : List Cond} {Rl : mm_M → mm_M → Prop} {L0 : Nat} {xs : Nat → Int32} (hR : okR Rl) (htr : l.stackTraces = false) (S : CallFix p m c code 7 s #[Value.ref bs] Ts "FrameVerifierLaw") (hsub : ∀ w ∈ wG, w ∈ Ts) (hKL : kL D ca ax b s) (hX : va_X bs L0 xs s s.heap) (hbl : bs < b) (hsz : s.heap.size = b) (hL0 : L0 ≤ 2560) {i K : Nat} (hi : i + 4 < L0) (hK : 5 * K ≤ i) {σ τ : mm_M} (hr : Rl σ τ) (hend : ∀ (σ τ : mm_M) (ov : Option Int64) (K2 : Nat) (t : List (Option Value)), Rl σ τ → 5 * K2 ≤ i + 5 → vl p l e s m below meth c D ca b bs Q σ τ ov K2 495 ([some (.ref bs), some (.ref (b + 0)), some (.ref (b + 35 + 0)), some (.ref (b + 52)), some (.int (Int32.ofNat i))] ++ t) []) : vl p l e s m below meth c D ca b bs Q σ τ none K 470 [some (.ref bs), some (.ref (b + 0)), some (.ref (b + 35 + 0)), some (.ref (b + 52)), some (.int (Int32.ofNat i))] [] := by
  obtain ⟨r, σ', τ', h1, h2, hR'⟩ := hR.2.2.2.2.2.2.2.2.2.2 σ τ hr (xs (i + 1))
  refine vl_lift (fun H locs ls cs ss hl k => lv_aload_n S.1 S.2.1 d_L_470 rfl (hl.2.2 1 _ rfl).2 k) ?_
  refine vl_arg (j := 1) S hX hbl hsz hi hL0 (by decide) (by decide) rfl rfl d_L_471 d_L_472 d_L_474 d_L_475 d_L_476 ?_
  refine vl_C (As := [.int (xs (i + 1))]) (rest := []) S hKL hsz (by omega) (c_FV_local l D ca ax b σ (xs (i + 1)) h1) (k_La_82 S.2.2.2.2 hsub ⟨Nat.le_of_ble_eq_true rfl, Nat.le_of_ble_eq_true rfl⟩) rfl rfl (Nat.le_of_ble_eq_true rfl) d_L_477 ?_
  refine vl_lift (fun H locs ls cs ss hl k => lv_aload_n S.1 S.2.1 d_L_480 rfl (hl.2.2 2 _ rfl).2 k) ?_
  refine vl_arg (j := 1) S hX hbl hsz hi hL0 (by decide) (by decide) rfl rfl d_L_481 d_L_482 d_L_484 d_L_485 d_L_486 ?_
  refine vl_M (As := [.int (xs (i + 1))]) (rest := [.int r]) S hKL hsz (by omega) (c_Mo_local l D ca ax (b + 35) τ (xs (i + 1)) h2) (k_La_85 S.2.2.2.2 hsub ⟨Nat.le_of_ble_eq_true rfl, Nat.le_of_ble_eq_true rfl⟩) rfl rfl (Nat.le_of_ble_eq_true rfl) d_L_487 ?_
  refine vl_eqT S d_L_490 (tgt := 495) (by decide) rfl ?_
  exact hend σ' τ' _ K [] hR' (by omega)
set_option maxRecDepth 100000 in
set_option maxHeartbeats 40000000 in
theorem law_loop {p : Program} {l : Launch} {e : Env} {s : State} {m : MethodId} {below : List Frame} {meth : Method} {c : Code} {D : va_G} {ca : Nat → ClassId} {ax : Nat → Nat → Nat} {b bs : Nat} {Ts : List Cond} {Rl : mm_M → mm_M → Prop} {L0 : Nat} {xs : Nat → Int32} (hR : okR Rl) (htr : l.stackTraces = false) (S : CallFix p m c code 7 s #[Value.ref bs] Ts "FrameVerifierLaw") (hsub : ∀ w ∈ wG, w ∈ Ts) (hKL : kL D ca ax b s) (hX : va_X bs L0 xs s s.heap) (hbl : bs < b) (hsz : s.heap.size = b) (hL0 : L0 ≤ 2560) (hret : meth.sig.returnType = ret) (hlocks : meth.locks = false) : ∀ (n i K : Nat) (σ τ : mm_M), L0 ≤ i + 5 * n → i ≤ L0 + 4 → 5 * K ≤ i → K ≤ 512 → Rl σ τ → vl p l e s m below meth c D ca b bs (lw_Z below #[Value.ref bs] s) σ τ none K 23 [some (.ref bs), some (.ref (b + 0)), some (.ref (b + 35 + 0)), some (.ref (b + 52)), some (.int (Int32.ofNat i))] []
  | n, i, K, σ, τ, hn, hi, hK, hK5, hr => by
    have head : (L0 < i + 5 → vl p l e s m below meth c D ca b bs (lw_Z below #[Value.ref bs] s) σ τ none K 501 [some (.ref bs), some (.ref (b + 0)), some (.ref (b + 35 + 0)), some (.ref (b + 52)), some (.int (Int32.ofNat i))] []) → (¬ L0 < i + 5 → vl p l e s m below meth c D ca b bs (lw_Z below #[Value.ref bs] s) σ τ none K 32 [some (.ref bs), some (.ref (b + 0)), some (.ref (b + 35 + 0)), some (.ref (b + 52)), some (.int (Int32.ofNat i))] []) → vl p l e s m below meth c D ca b bs (lw_Z below #[Value.ref bs] s) σ τ none K 23 [some (.ref bs), some (.ref (b + 0)), some (.ref (b + 35 + 0)), some (.ref (b + 52)), some (.int (Int32.ofNat i))] [] := by
      intro ka kb H locs ls cs ss h1 h2 hl hP hM hO hS
      refine lv_iload S.1 S.2.1 d_L_23 (hl.2.2 4 _ rfl).2 ?_
      refine lv_aload_n S.1 S.2.1 d_L_25 rfl (hl.2.2 0 _ rfl).2 ?_
      refine va_slen S.1 S.2.1 hX (by omega) (by omega) hS d_L_26 ?_
      refine lv_iconst S.1 S.2.1 d_L_27 (v := 5) (by decide) ?_
      refine lv_isub S.1 S.2.1 d_L_28 ?_
      refine lv_icmp_gt S.1 S.2.1 d_L_29 (tgt := 501) (by decide) (fun h => ?_) (fun h => ?_)
      · exact ka ((ri_gt hL0 (by omega)).mp h) H locs ls cs ss h1 h2 hl hP hM hO hS
      · exact kb (fun q => h ((ri_gt hL0 (by omega)).mpr q)) H locs ls cs ss h1 h2 hl hP hM hO hS
    refine head (fun _ => vl_end S hret hlocks hsz hK5) (fun hlt => ?_)
    match n, hn with
    | 0, hn => exact absurd hn (by omega)
    | n + 1, hn =>
    have hi4 : i + 4 < L0 := by omega
    have hend : ∀ (σ τ : mm_M) (ov : Option Int64) (K2 : Nat) (t : List (Option Value)), Rl σ τ → 5 * K2 ≤ i + 5 → vl p l e s m below meth c D ca b bs (lw_Z below #[Value.ref bs] s) σ τ ov K2 495 ([some (.ref bs), some (.ref (b + 0)), some (.ref (b + 35 + 0)), some (.ref (b + 52)), some (.int (Int32.ofNat i))] ++ t) [] := by
      intro σ τ ov K2 t hr2 hK2
      refine vl_iinc (v := Int32.ofNat (i + 5)) (L2 := [some (.ref bs), some (.ref (b + 0)), some (.ref (b + 35 + 0)), some (.ref (b + 52)), some (.int (Int32.ofNat (i + 5)))] ++ t) S d_L_495 rfl (Int32.ofNat_add i 5).symm (by decide) rfl ?_
      refine vl_lift (fun H locs ls cs ss hl k => lv_goto S.1 S.2.1 d_L_498 (tgt := 23) (by decide) k) ?_
      refine vl_sub (L2 := [some (.ref bs), some (.ref (b + 0)), some (.ref (b + 35 + 0)), some (.ref (b + 52)), some (.int (Int32.ofNat (i + 5)))]) (fun j v hj => ?_) rfl (Nat.le_refl _) (law_loop hR htr S hsub hKL hX hbl hsz hL0 hret hlocks n (i + 5) K2 σ τ (by omega) (by omega) hK2 (by omega) hr2)
      rw [List.getElem?_append_left (List.getElem?_eq_some_iff.mp hj).1]
      exact hj
    have sw : ∀ {pc2 : Nat}, (∀ (H : Heap) (locs : List Loc) (ls : Array Slot) (cs ss : Nat), W p l e room_1 s m #[Value.ref bs] below meth c H locs cs ss (lw_Z below #[Value.ref bs] s) (F0 m pc2 ls []) → W p l e room_1 s m #[Value.ref bs] below meth c H locs cs ss (lw_Z below #[Value.ref bs] s) (F0 m 39 ls [.int (xs i &&& 15)])) → vl p l e s m below meth c D ca b bs (lw_Z below #[Value.ref bs] s) σ τ none K pc2 [some (.ref bs), some (.ref (b + 0)), some (.ref (b + 35 + 0)), some (.ref (b + 52)), some (.int (Int32.ofNat i))] [] → vl p l e s m below meth c D ca b bs (lw_Z below #[Value.ref bs] s) σ τ none K 32 [some (.ref bs), some (.ref (b + 0)), some (.ref (b + 35 + 0)), some (.ref (b + 52)), some (.int (Int32.ofNat i))] [] := by
      intro pc2 hw kk H locs ls cs ss h1 h2 hl hP hM hO hS
      refine lv_aload_n S.1 S.2.1 d_L_32 rfl (hl.2.2 0 _ rfl).2 ?_
      refine lv_iload S.1 S.2.1 d_L_33 (hl.2.2 4 _ rfl).2 ?_
      refine va_sld S.1 S.2.1 hX (by omega) (by omega) hS (ri_in (by omega) (by omega)) d_L_35 ?_
      rw [ri_nat (by omega)]
      refine lv_bipush S.1 S.2.1 d_L_36 (v := 15) (by decide) ?_
      refine lv_iand S.1 S.2.1 d_L_38 ?_
      exact hw H locs ls cs ss (kk H locs ls cs ss h1 h2 hl hP hM hO hS)
    rcases ri_ten (xs i &&& 15) with h | h | h | h | h | h | h | h | h | h | h
    · exact sw (pc2 := 495) (fun H locs ls cs ss k => lv_tableOut S.1 S.2.1 d_L_39 (by exact h) (by decide) k) (hend σ τ none K [] hr (by omega))
    · exact sw (pc2 := 92) (fun H locs ls cs ss k => by rw [h]; exact lv_tableIn S.1 S.2.1 d_L_39 (off := 53) (by decide) (by decide) (by decide) (by decide) k) (cs_add hR htr S hsub hKL hX hbl hsz hL0 hi4 hK hr hend)
    · exact sw (pc2 := 160) (fun H locs ls cs ss k => by rw [h]; exact lv_tableIn S.1 S.2.1 d_L_39 (off := 121) (by decide) (by decide) (by decide) (by decide) k) (cs_routine hR htr S hsub hKL hX hbl hsz hL0 hi4 hK hr hend)
    · exact sw (pc2 := 221) (fun H locs ls cs ss k => by rw [h]; exact lv_tableIn S.1 S.2.1 d_L_39 (off := 182) (by decide) (by decide) (by decide) (by decide) k) (cs_verify hR htr S hsub hKL hX hbl hsz hL0 hi4 hK hr hend)
    · exact sw (pc2 := 234) (fun H locs ls cs ss k => by rw [h]; exact lv_tableIn S.1 S.2.1 d_L_39 (off := 195) (by decide) (by decide) (by decide) (by decide) k) (cs_isVerified hR htr S hsub hKL hX hbl hsz hL0 hi4 hK hr hend)
    · exact sw (pc2 := 247) (fun H locs ls cs ss k => by rw [h]; exact lv_tableIn S.1 S.2.1 d_L_39 (off := 208) (by decide) (by decide) (by decide) (by decide) k) (cs_type hR htr S hsub hKL hX hbl hsz hL0 hi4 hK hr hend)
    · exact sw (pc2 := 296) (fun H locs ls cs ss k => by rw [h]; exact lv_tableIn S.1 S.2.1 d_L_39 (off := 257) (by decide) (by decide) (by decide) (by decide) k) (cs_start hR htr S hsub hKL hX hbl hsz hL0 hi4 hK hr hend)
    · exact sw (pc2 := 345) (fun H locs ls cs ss k => by rw [h]; exact lv_tableIn S.1 S.2.1 d_L_39 (off := 306) (by decide) (by decide) (by decide) (by decide) k) (cs_step hR htr S hsub hKL hX hbl hsz hL0 hi4 hK hr hend)
    · exact sw (pc2 := 389) (fun H locs ls cs ss k => by rw [h]; exact lv_tableIn S.1 S.2.1 d_L_39 (off := 350) (by decide) (by decide) (by decide) (by decide) k) (cs_steps hR htr S hsub hKL hX hbl hsz hL0 hi4 hK hr hend)
    · exact sw (pc2 := 445) (fun H locs ls cs ss k => by rw [h]; exact lv_tableIn S.1 S.2.1 d_L_39 (off := 406) (by decide) (by decide) (by decide) (by decide) k) (cs_about hR htr S hsub hKL hX hbl hsz hL0 hi4 hK hr hend)
    · exact sw (pc2 := 470) (fun H locs ls cs ss k => by rw [h]; exact lv_tableIn S.1 S.2.1 d_L_39 (off := 431) (by decide) (by decide) (by decide) (by decide) k) (cs_local hR htr S hsub hKL hX hbl hsz hL0 hi4 hK hr hend)

/-! part 39: the worlds when they are new -/
def va_sm (e e2 : va_E) : Prop := ∀ (D : va_G) (cl : List vw_C) (q : Nat) (H : Heap), va_at D cl (q, e) H → va_at D cl (q, e2) H
theorem va_sm_of {e e2 : va_E} (h : e = e2) : va_sm e e2 := by subst h; exact fun _ _ _ _ h => h
theorem va_sm_q {cA : ClassId} {N : Nat} {f g : Nat → Option Nat} (h : ∀ j, j < N → f j = g j) : va_sm (.inl (cA, N, .inr (.inr (.inr (.inr f))))) (.inl (cA, N, .inr (.inr (.inr (.inr g))))) := by
  intro D cl q H hq
  show H[q]? = some (vp_cell _ _)
  have hq : H[q]? = some (vp_cell _ _) := hq
  rw [hq, vp_cell_q, vp_cell_q]
  unfold arrV
  congr 3
  funext j
  show va_rf (f j.val) = va_rf (g j.val)
  rw [h _ j.isLt]
theorem va_sm_i {cA : ClassId} {N : Nat} {f g : Nat → Int32} (h : ∀ j, j < N → f j = g j) : va_sm (.inl (cA, N, .inl f)) (.inl (cA, N, .inl g)) := by
  intro D cl q H hq
  show H[q]? = some (vp_cell _ _)
  have hq : H[q]? = some (vp_cell _ _) := hq
  rw [hq, vp_cell_i, vp_cell_i]
  unfold arrV
  congr 3
  funext j
  show Value.int (f j.val) = Value.int (g j.val)
  rw [h _ j.isLt]
/-- a new FrameVerifier; a new FrameVerifierModel -/
def si_C : mm_M := fun k j => if k = 8 then (if j = 4 then 100 else 0) else 0
def si_M : mm_M := fun k _ => if k = 7 then -1 else 0
section VC5
variable {p : Program} {l : Launch} {e : Env} {R : Room} {s : State} {m : MethodId} {args : Array Value} {below : List Frame} {meth : Method} {c : Code} {D : va_G} {b nL : Nat} {Q : State → Prop} {cf cf2 : Nat → va_E} {n n2 cs ss pc : Nat} {L L2 : List (Option Value)} {rest : List Value} {cc : ByteArray} {Ts : List Cond} {own : String} {ca : Nat → ClassId}
theorem vo_isW (h : ∀ k, k < n → va_sm (cf k) (cf2 k)) {st : List Value} (kk : vo p l e R s m args below meth c D b nL Q cf2 n cs ss pc L st) : vo p l e R s m args below meth c D b nL Q cf n cs ss pc L st := fun H locs ls hl hP hS =>
  kk H locs ls hl (fun k q hq => by
    obtain ⟨hlt, rfl⟩ := mm_key hq
    exact h k hlt D cls (b + k) H (hP k _ (mm_get hlt))) hS
end VC5

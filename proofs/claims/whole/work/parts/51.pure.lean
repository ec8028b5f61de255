/-! the functions alone, 1 -/
noncomputable section
theorem zp_q_nat {n : Nat} (h : n < 2 ^ 31) : (nI n).toNatClampNeg = n := by
  show (Int32.ofNat n).toInt.toNat = n
  rw [Int32.toInt_ofNat_of_lt h]; rfl
theorem zp_q_int {n : Nat} (h : n < 2 ^ 31) : (nI n).toInt = n := Int32.toInt_ofNat_of_lt h
theorem zp_q_le {a b : Nat} (ha : a < 2 ^ 31) (hb : b < 2 ^ 31) : nI a ≤ nI b ↔ a ≤ b := by
  rw [Int32.le_iff_toInt_le, zp_q_int ha, zp_q_int hb]; omega
theorem zp_q_lt {a b : Nat} (ha : a < 2 ^ 31) (hb : b < 2 ^ 31) : nI a < nI b ↔ a < b := by
  rw [Int32.lt_iff_toInt_lt, zp_q_int ha, zp_q_int hb]; omega
theorem zp_q_eq {a b : Nat} (ha : a < 2 ^ 31) (hb : b < 2 ^ 31) : nI a = nI b ↔ a = b := by
  rw [← Int32.toInt_inj, zp_q_int ha, zp_q_int hb]; omega
theorem zp_q_nn {a : Nat} (ha : a < 2 ^ 31) : ¬ nI a < 0 := by
  rw [show (0 : Int32) = nI 0 from rfl, zp_q_lt ha (by decide)]; omega
theorem zp_q_add (a b : Nat) : nI a + nI b = nI (a + b) := (Int32.ofNat_add a b).symm
theorem zp_q_mul (a b : Nat) : nI a * nI b = nI (a * b) := (Int32.ofNat_mul a b).symm
theorem zp_q_sub {a b : Nat} (h : b ≤ a) : nI a - nI b = nI (a - b) := (Int32.ofNat_sub a b h).symm
theorem zp_q_in {a N : Nat} (ha : a < 2 ^ 31) (h : a < N) : ¬ (nI a < 0 ∨ N ≤ (nI a).toNatClampNeg) := by
  rw [zp_q_nat ha]
  intro q
  rcases q with q | q
  · exact zp_q_nn ha q
  · omega
theorem zp_q_bv (n : Nat) : (nI n).toBitVec = BitVec.ofNat 32 n := rfl
theorem zp_q_sm : ∀ s, s < 32 → (BitVec.ofNat 32 s).smod 32 = BitVec.ofNat 32 s := by decide
theorem zp_q_msb {n : Nat} (h : n < 2 ^ 31) : (BitVec.ofNat 32 n).msb = false := by
  rw [BitVec.msb_eq_decide]
  simp only [BitVec.toNat_ofNat]
  rw [Nat.mod_eq_of_lt (by omega)]
  simp; omega
theorem zp_q_sh {n s : Nat} (h : n < 2 ^ 31) (hs : s < 32) : (nI n) >>> (nI s) = nI (n / 2 ^ s) := by
  apply Int32.toBitVec_inj.mp
  rw [Int32.toBitVec_shiftRight, zp_q_bv, zp_q_bv, zp_q_bv, zp_q_sm s hs]
  show (BitVec.ofNat 32 n).sshiftRight (BitVec.ofNat 32 s).toNat = _
  rw [BitVec.sshiftRight_eq_of_msb_false (zp_q_msb h)]
  apply BitVec.eq_of_toNat_eq
  have h1 : n / 2 ^ s ≤ n := Nat.div_le_self _ _
  simp only [BitVec.toNat_ushiftRight, BitVec.toNat_ofNat, Nat.shiftRight_eq_div_pow]
  rw [Nat.mod_eq_of_lt (by omega), Nat.mod_eq_of_lt (by omega : s < 2 ^ 32), Nat.mod_eq_of_lt (by omega)]
theorem zp_q_and (a b : Nat) : nI a &&& nI b = nI (a &&& b) := by
  apply Int32.toBitVec_inj.mp
  rw [Int32.toBitVec_and, zp_q_bv, zp_q_bv, zp_q_bv]
  apply BitVec.eq_of_toNat_eq
  simp only [BitVec.toNat_and, BitVec.toNat_ofNat]
  exact (Nat.and_mod_two_pow (n := 32)).symm
theorem zp_q_31 {s : Nat} (h : s < 32) : nI s &&& 31 = nI s := by
  rw [show (31 : Int32) = nI 31 from rfl, zp_q_and, show (31 : Nat) = 2 ^ 5 - 1 from rfl, Nat.and_two_pow_sub_one_eq_mod, Nat.mod_eq_of_lt (by omega)]
theorem zp_q_m3 (a : Nat) : nI a &&& 3 = nI (a % 4) := by
  rw [show (3 : Int32) = nI 3 from rfl, zp_q_and, show (3 : Nat) = 2 ^ 2 - 1 from rfl, Nat.and_two_pow_sub_one_eq_mod]
theorem zp_q_m7 (a : Nat) : nI a &&& 7 = nI (a % 8) := by
  rw [show (7 : Int32) = nI 7 from rfl, zp_q_and, show (7 : Nat) = 2 ^ 3 - 1 from rfl, Nat.and_two_pow_sub_one_eq_mod]
theorem zp_q_m15 (a : Nat) : nI a &&& 15 = nI (a % 16) := by
  rw [show (15 : Int32) = nI 15 from rfl, zp_q_and, show (15 : Nat) = 2 ^ 4 - 1 from rfl, Nat.and_two_pow_sub_one_eq_mod]
theorem zp_q_wi {n m s v : Nat} (hm : m < 2 ^ 31) (hn : n < 2 ^ 31) (hs : s < 30) (hv : v < 4) (h1 : m % 2 ^ s = n % 2 ^ s) (h2 : m / 2 ^ s % 4 = v) (h3 : m / 2 ^ s / 4 = n / 2 ^ s / 4) :
    (nI n &&& (((3 : Int32) <<< nI s) ^^^ (-1 : Int32))) ||| (nI v <<< nI s) = nI m := by
  apply Int32.toBitVec_inj.mp
  rw [Int32.toBitVec_or, Int32.toBitVec_and, Int32.toBitVec_xor, Int32.toBitVec_shiftLeft, Int32.toBitVec_shiftLeft, zp_q_bv, zp_q_bv, zp_q_bv, zp_q_bv, zp_q_sm s (by omega), show (3 : Int32).toBitVec = BitVec.ofNat 32 3 from rfl, show (-1 : Int32).toBitVec = BitVec.allOnes 32 from rfl]
  apply BitVec.eq_of_getLsbD_eq
  intro i hi
  simp only [BitVec.getLsbD_or, BitVec.getLsbD_and, BitVec.getLsbD_xor, BitVec.shiftLeft_eq', BitVec.getLsbD_shiftLeft, BitVec.getLsbD_ofNat, BitVec.getLsbD_allOnes, BitVec.toNat_ofNat, hi, decide_true, Bool.true_and]
  rw [Nat.mod_eq_of_lt (by omega : s < 2 ^ 32)]
  by_cases hlt : i < s
  · have e : m.testBit i = n.testBit i := by
      have a1 : (m % 2 ^ s).testBit i = m.testBit i := by rw [Nat.testBit_mod_two_pow]; simp [hlt]
      have a2 : (n % 2 ^ s).testBit i = n.testBit i := by rw [Nat.testBit_mod_two_pow]; simp [hlt]
      rw [← a1, ← a2, h1]
    simp [hlt, e]
  · have hk : ∃ k, i = s + k := ⟨i - s, by omega⟩
    obtain ⟨k, rfl⟩ := hk
    have zp_em : m.testBit (s + k) = (m / 2 ^ s).testBit k := by rw [Nat.testBit_div_two_pow, Nat.add_comm]
    have en : n.testBit (s + k) = (n / 2 ^ s).testBit k := by rw [Nat.testBit_div_two_pow, Nat.add_comm]
    rw [zp_em, en]
    have hsub : s + k - s = k := by omega
    rw [hsub]
    by_cases hk2 : k < 2
    · have e4 : (m / 2 ^ s).testBit k = v.testBit k := by
        have : (m / 2 ^ s % 2 ^ 2).testBit k = (m / 2 ^ s).testBit k := by rw [Nat.testBit_mod_two_pow]; simp [hk2]
        rw [← this, show (2 : Nat) ^ 2 = 4 from rfl, h2]
      rw [e4]
      have h3b : Nat.testBit 3 k = true := by rcases (show k = 0 ∨ k = 1 by omega) with rfl | rfl <;> decide
      have hki : k < 32 := by omega
      simp [h3b, hlt, hki]
    · have e4 : (m / 2 ^ s).testBit k = (n / 2 ^ s).testBit k := by
        obtain ⟨j, rfl⟩ : ∃ j, k = j + 2 := ⟨k - 2, by omega⟩
        have a1 : (m / 2 ^ s).testBit (j + 2) = (m / 2 ^ s / 2 ^ 2).testBit j := by rw [Nat.testBit_div_two_pow (m / 2 ^ s)]
        have a2 : (n / 2 ^ s).testBit (j + 2) = (n / 2 ^ s / 2 ^ 2).testBit j := by rw [Nat.testBit_div_two_pow (n / 2 ^ s)]
        rw [a1, a2, show (2 : Nat) ^ 2 = 4 from rfl, h3]
      have h3b : Nat.testBit 3 k = false := Nat.testBit_lt_two_pow (Nat.lt_of_lt_of_le (by decide : 3 < 2 ^ 2) (Nat.pow_le_pow_right (by decide) (by omega)))
      have hvb : Nat.testBit v k = false := Nat.testBit_lt_two_pow (Nat.lt_of_lt_of_le (by omega : v < 2 ^ 2) (Nat.pow_le_pow_right (by decide) (by omega)))
      simp [h3b, hvb, e4]
end

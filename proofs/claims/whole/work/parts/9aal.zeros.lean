/-! The lowest and the highest place of a set: numberOfTrailingZeros, numberOfLeadingZeros -/
def ib (x : Int32) (i : Nat) : Bool := x.toBitVec.getLsbD i
theorem ib_ext {x y : Int32} (h : ∀ i, i < 32 → ib x i = ib y i) : x = y := Int32.toBitVec_inj.mp (BitVec.eq_of_getLsbD_eq h)
theorem ib_tb (x : Int32) (i : Nat) : ib x i = x.toBitVec.toNat.testBit i := rfl
theorem ib_nI {k : Nat} (hk : k < 2 ^ 32) (i : Nat) : ib (nI k) i = k.testBit i := by rw [ib_tb, pk_tn hk]
theorem ib_lo (l : Int64) {i : Nat} (h : i < 32) : ib l.toInt32 i = lb l i := by
  unfold ib lb
  rw [Int64.toBitVec_toInt32, BitVec.getLsbD_signExtend, decide_eq_true h, Bool.true_and, if_pos (by omega)]
theorem lb_hi (l : Int64) (i : Nat) : lb ((l.toUInt64 >>> ((32 : Int32).toInt64.toUInt64 &&& Int64.toUInt64 63)).toInt64) i = lb l (32 + i) := by
  unfold lb
  show ((l.toUInt64 >>> ((32 : Int32).toInt64.toUInt64 &&& Int64.toUInt64 63)).toBitVec).getLsbD i = _
  rw [UInt64.toBitVec_shiftRight, show ((32 : Int32).toInt64.toUInt64 &&& Int64.toUInt64 63).toBitVec % 64 = 32#64 from by decide +kernel]
  show (l.toBitVec >>> (32#64).toNat).getLsbD i = _
  rw [BitVec.getLsbD_ushiftRight]
  rfl
theorem ib_hi (l : Int64) {i : Nat} (h : i < 32) : ib ((l.toUInt64 >>> ((32 : Int32).toInt64.toUInt64 &&& Int64.toUInt64 63)).toInt64).toInt32 i = lb l (32 + i) := by
  rw [ib_lo _ h, lb_hi]
/-- the lowest place of a number -/
theorem tz_nat {N p : Nat} (h1 : N.testBit p = true) (h2 : ∀ j, j < p → N.testBit j = false) : ∃ m, N = 2 ^ (p + 1) * m + 2 ^ p := by
  refine ⟨N / 2 ^ (p + 1), ?_⟩
  have hm : N % 2 ^ (p + 1) = 2 ^ p := by
    refine Nat.eq_of_testBit_eq fun j => ?_
    rw [Nat.testBit_mod_two_pow, Nat.testBit_two_pow]
    by_cases e : j = p
    · subst e
      rw [h1, decide_eq_true (by omega), decide_eq_true rfl]
      rfl
    · rw [decide_eq_false (show ¬ p = j from fun q => e q.symm)]
      by_cases f : j < p
      · rw [h2 j f, Bool.and_false]
      · rw [decide_eq_false (show ¬ j < p + 1 by omega), Bool.false_and]
  have h := Nat.div_add_mod N (2 ^ (p + 1))
  rw [hm] at h
  exact h.symm
theorem tz_int {x : Int32} {p : Nat} (hp : p < 32) (h1 : ib x p = true) (h2 : ∀ j, j < p → ib x j = false) : (x ^^^ (-1)) &&& (x - 1) = nI (2 ^ p - 1) := by
  obtain ⟨m, hm⟩ := tz_nat (N := x.toBitVec.toNat) h1 h2
  have hlt : x.toBitVec.toNat < 2 ^ 32 := x.toBitVec.isLt
  have hp2 : 2 ^ p ≤ 2 ^ 31 := Nat.pow_le_pow_right (by decide) (by omega)
  have hpos : 0 < 2 ^ p := Nat.pow_pos (by decide)
  have hsub : (x - 1).toBitVec.toNat = 2 ^ (p + 1) * m + (2 ^ p - 1) := by
    rw [Int32.toBitVec_sub, BitVec.toNat_sub, show (1 : Int32).toBitVec.toNat = 1 from by decide]
    rw [show 2 ^ 32 - 1 + x.toBitVec.toNat = 2 ^ 32 + (x.toBitVec.toNat - 1) by omega, Nat.add_mod_left, Nat.mod_eq_of_lt (by omega)]
    omega
  refine ib_ext fun j hj => ?_
  rw [ib_nI (by omega), Nat.testBit_two_pow_sub_one]
  have e1 : ib ((x ^^^ (-1)) &&& (x - 1)) j = ((!ib x j) && ib (x - 1) j) := by
    unfold ib
    rw [Int32.toBitVec_and, BitVec.getLsbD_and, Int32.toBitVec_xor, BitVec.getLsbD_xor, show (-1 : Int32).toBitVec = BitVec.allOnes 32 from by decide +kernel, BitVec.getLsbD_allOnes, decide_eq_true hj, Bool.xor_true]
  have hr : 2 ^ p - 1 < 2 ^ (p + 1) := by rw [Nat.pow_succ]; omega
  have hr2 : 2 ^ p < 2 ^ (p + 1) := by rw [Nat.pow_succ]; omega
  rw [e1, ib_tb, ib_tb, hsub, hm, Nat.testBit_two_pow_mul_add _ hr, Nat.testBit_two_pow_mul_add _ hr2]
  by_cases f : j < p + 1
  · rw [if_pos f, if_pos f, Nat.testBit_two_pow_sub_one, Nat.testBit_two_pow]
    by_cases g : j = p
    · subst g
      rw [decide_eq_true rfl, decide_eq_false (Nat.lt_irrefl _)]
      rfl
    · rw [decide_eq_false (show ¬ p = j from fun q => g q.symm), decide_eq_true (show j < p by omega)]
      rfl
  · rw [if_neg f, if_neg f, decide_eq_false (show ¬ j < p by omega)]
    cases m.testBit (j - (p + 1)) <;> rfl
theorem ib_z {x : Int32} (h : ∀ j, j < 32 → ib x j = false) : x = 0 := ib_ext fun j hj => by
  rw [h j hj, show (0 : Int32) = nI 0 from by decide, ib_nI (by decide), Nat.zero_testBit]
theorem nI_bv (x : Int32) : nI x.toBitVec.toNat = x := Int32.toBitVec_inj.mp (BitVec.eq_of_toNat_eq (pk_tn x.toBitVec.isLt))
/-- the highest place of a number -/
theorem nz_nat {N p : Nat} (h1 : N.testBit p = true) (h2 : ∀ j, p < j → N.testBit j = false) : 2 ^ p ≤ N ∧ N < 2 ^ (p + 1) :=
  ⟨Nat.ge_two_pow_of_testBit h1, Nat.lt_pow_two_of_testBit N fun j hj => h2 j (by omega)⟩
theorem nz_int {x : Int32} {p : Nat} (hp : p < 32) (h1 : ib x p = true) (h2 : ∀ j, p < j → j < 32 → ib x j = false) : ∃ k, x = nI k ∧ 2 ^ p ≤ k ∧ k < 2 ^ (p + 1) := by
  have h := nz_nat (N := x.toBitVec.toNat) h1 (fun j hj => by
    by_cases hj2 : j < 32
    · exact h2 j hj hj2
    · exact Nat.testBit_lt_two_pow (Nat.lt_of_lt_of_le x.toBitVec.isLt (Nat.pow_le_pow_right (by decide) (by omega))))
  exact ⟨_, (nI_bv x).symm, h⟩
theorem tz_div {t s : Nat} (h : s ≤ t) : (2 ^ t - 1) / 2 ^ s = 2 ^ (t - s) - 1 := by
  have hpos : 0 < 2 ^ s := Nat.pow_pos (by decide)
  have hpos2 : 0 < 2 ^ (t - s) := Nat.pow_pos (by decide)
  have e : 2 ^ t = 2 ^ s * 2 ^ (t - s) := by rw [← Nat.pow_add]; congr 1; omega
  have e2 : 2 ^ t - 1 = (2 ^ s - 1) + 2 ^ s * (2 ^ (t - s) - 1) := by
    rw [Nat.mul_sub, Nat.mul_one, ← e]
    have : 2 ^ s ≤ 2 ^ t := Nat.pow_le_pow_right (by decide) h
    omega
  rw [e2, Nat.add_mul_div_left _ _ hpos, Nat.div_eq_of_lt (by omega), Nat.zero_add]

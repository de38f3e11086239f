/-! Bits of a long -/
def lb (x : Int64) (i : Nat) : Bool := x.toBitVec.getLsbD i
theorem lb_inj {x y : Int64} (h : x.toBitVec = y.toBitVec) : x = y := Int64.toBitVec_inj.mp h
theorem lb_ext {x y : Int64} (h : ∀ i, i < 64 → lb x i = lb y i) : x = y := lb_inj (BitVec.eq_of_getLsbD_eq h)
theorem lb_big {x : Int64} {i : Nat} (h : 64 ≤ i) : lb x i = false := BitVec.getLsbD_of_ge _ _ h
theorem lb_0 (i : Nat) : lb 0 i = false := by
  show (0 : Int64).toBitVec.getLsbD i = false
  rw [show (0 : Int64).toBitVec = 0#64 from rfl]
  exact BitVec.getLsbD_zero
theorem lb_or (x y : Int64) (i : Nat) : lb (x ||| y) i = (lb x i || lb y i) := by
  unfold lb
  rw [Int64.toBitVec_or, BitVec.getLsbD_or]
theorem lb_and (x y : Int64) (i : Nat) : lb (x &&& y) i = (lb x i && lb y i) := by
  unfold lb
  rw [Int64.toBitVec_and, BitVec.getLsbD_and]
theorem lb_not (x : Int64) {i : Nat} (h : i < 64) : lb (x ^^^ (-1)) i = !lb x i := by
  unfold lb
  rw [Int64.toBitVec_xor, BitVec.getLsbD_xor, show (-1 : Int64).toBitVec = BitVec.allOnes 64 from by decide +kernel, BitVec.getLsbD_allOnes, decide_eq_true h, Bool.xor_true]
theorem lb_tw : ∀ c, c < 64 → ((1 : Int64) <<< ((nI c).toInt64 &&& 63)).toBitVec = BitVec.twoPow 64 c := by decide +kernel
theorem lb_one {c : Nat} (hc : c < 64) (i : Nat) : lb ((1 : Int64) <<< ((nI c).toInt64 &&& 63)) i = decide (i = c) := by
  unfold lb
  rw [lb_tw c hc, BitVec.getLsbD_twoPow, decide_eq_true hc, Bool.true_and]
  by_cases h : i = c
  · rw [decide_eq_true h, decide_eq_true h.symm]
  · rw [decide_eq_false h, decide_eq_false (fun z => h z.symm)]
theorem lb_1 {i : Nat} : lb 1 i = decide (i = 0) := by
  have h := lb_one (c := 0) (by decide) i
  rw [show ((1 : Int64) <<< ((nI 0).toInt64 &&& 63)) = 1 from by decide] at h
  exact h
theorem lb_am : ∀ c, c < 64 → (((nI c).toInt64 &&& 63).toBitVec.smod 64).toNat = c := by decide +kernel
theorem lb_shr {c : Nat} (hc : c < 64) (x : Int64) : lb (x >>> ((nI c).toInt64 &&& 63)) 0 = lb x c := by
  unfold lb
  rw [Int64.toBitVec_shiftRight]
  show (x.toBitVec.sshiftRight (((nI c).toInt64 &&& 63).toBitVec.smod 64).toNat).getLsbD 0 = _
  rw [BitVec.getLsbD_sshiftRight, lb_am c hc]
  simp [hc]
theorem lb_eq0 {x : Int64} : x = 0 ↔ ∀ i, i < 64 → lb x i = false := ⟨fun h i _ => by rw [h]; exact lb_0 i, fun h => lb_ext (fun i hi => by rw [h i hi, lb_0])⟩
theorem lb_a1 (x : Int64) : (x &&& 1 = 0) ↔ lb x 0 = false := by
  rw [lb_eq0]
  refine ⟨fun h => ?_, fun h i hi => ?_⟩
  · have z := h 0 (by decide)
    rw [lb_and, lb_1] at z
    simpa using z
  · rw [lb_and, lb_1]
    by_cases q : i = 0
    · rw [q, h, Bool.false_and]
    · rw [decide_eq_false q, Bool.and_false]
theorem lb_shl1 (x : Int64) {i : Nat} (h : i < 64) : lb (x <<< ((1 : Int32).toInt64 &&& 63)) i = (decide (0 < i) && lb x (i - 1)) := by
  unfold lb
  rw [Int64.toBitVec_shiftLeft, BitVec.shiftLeft_eq', BitVec.getLsbD_shiftLeft, show (((1 : Int32).toInt64 &&& 63).toBitVec.smod 64).toNat = 1 from by decide +kernel, decide_eq_true h, Bool.true_and]
  by_cases q : i < 1
  · rw [decide_eq_true q, decide_eq_false (show ¬ 0 < i by omega)]
    rfl
  · rw [decide_eq_false q, decide_eq_true (show 0 < i by omega)]
    rfl
theorem lcmp_0 (x : Int64) : lg_cmp x 0 = 0 ↔ x = 0 := by
  unfold lg_cmp
  constructor
  · intro h
    split at h
    · exact absurd h (by decide)
    · split at h
      · assumption
      · exact absurd h (by decide)
  · intro h
    subst h
    rfl
/-! The two longs of a set -/
def xbt (q : Int64 × Int64) (c : Nat) : Bool := if c < 64 then lb q.1 c else lb q.2 (c - 64)
def cB (q : Int64 × Int64) (cs : Nat → Bool) : Prop := ∀ c, c < 128 → xbt q c = (decide (32 ≤ c ∧ c ≤ 126) && cs (c - 32))
theorem xbt_ls2 : ∀ (k c : Nat) (q : Int64 × Int64) (j : Nat), c + k ≤ 128 → j < 128 → xbt (xLs2 c k q) j = (xbt q j || decide (c ≤ j ∧ j < c + k))
  | 0, c, q, j, h1, h2 => by
    rw [show xLs2 c 0 q = q from rfl, decide_eq_false (by omega), Bool.or_false]
  | k + 1, c, q, j, h1, h2 => by
    rw [show xLs2 c (k + 1) q = xLs2 (c + 1) k (if c < 64 then (q.1 ||| ((1 : Int64) <<< ((nI c).toInt64 &&& 63)), q.2) else (q.1, q.2 ||| ((1 : Int64) <<< ((nI (c - 64)).toInt64 &&& 63)))) from rfl, xbt_ls2 k (c + 1) _ j (by omega) h2]
    have e : xbt (if c < 64 then (q.1 ||| ((1 : Int64) <<< ((nI c).toInt64 &&& 63)), q.2) else (q.1, q.2 ||| ((1 : Int64) <<< ((nI (c - 64)).toInt64 &&& 63)))) j = (xbt q j || decide (j = c)) := by
      by_cases hc : c < 64
      · rw [if_pos hc]
        unfold xbt
        by_cases hj : j < 64
        · rw [if_pos hj, if_pos hj, lb_or, lb_one hc]
        · rw [if_neg hj, if_neg hj, decide_eq_false (show ¬ j = c by omega), Bool.or_false]
      · rw [if_neg hc]
        unfold xbt
        by_cases hj : j < 64
        · rw [if_pos hj, if_pos hj, decide_eq_false (show ¬ j = c by omega), Bool.or_false]
        · rw [if_neg hj, if_neg hj, lb_or, lb_one (show c - 64 < 64 by omega)]
          congr 1
          by_cases z : j = c
          · rw [decide_eq_true z, decide_eq_true (by omega)]
          · rw [decide_eq_false z, decide_eq_false (by omega)]
    rw [e, Bool.or_assoc]
    congr 1
    by_cases z : j = c
    · rw [decide_eq_true z, Bool.true_or, decide_eq_true (by omega)]
    · rw [decide_eq_false z, Bool.false_or]
      by_cases z2 : c ≤ j ∧ j < c + (k + 1)
      · rw [decide_eq_true z2, decide_eq_true (by omega)]
      · rw [decide_eq_false z2, decide_eq_false (by omega)]
theorem cB_0 : cB (0, 0) pNo := by
  intro c hc
  unfold xbt
  split
  · rw [lb_0]
    simp [pNo]
  · rw [lb_0]
    simp [pNo]
theorem pSet_n {u v k : Nat} (hu : u < 1000) (hv : v < 1000) (hk : k < 1000) : pSet (nI u) (nI v) k = decide (u ≤ k + 32 ∧ k + 32 ≤ v) := by
  unfold pSet
  by_cases h : u ≤ k + 32 ∧ k + 32 ≤ v
  · rw [decide_eq_true h, decide_eq_true ⟨nI_le h.1 (by omega), nI_le h.2 (by omega)⟩]
  · rw [decide_eq_false h, decide_eq_false (fun z => h ⟨(nI_leI (by omega) (by omega)).mp z.1, (nI_leI (by omega) (by omega)).mp z.2⟩)]
/-- listing u to v -/
theorem cB_ls {q : Int64 × Int64} {cs : Nat → Bool} {u v : Nat} (h : cB q cs) (hu : 32 ≤ u) (hv : v ≤ 126) (huv : u ≤ v + 1) : cB (xLs2 u (v + 1 - u) q) (pOr cs (nI u) (nI v)) := by
  intro c hc
  rw [xbt_ls2 _ _ _ _ (by omega) hc, h c hc]
  unfold pOr
  by_cases z : 32 ≤ c ∧ c ≤ 126
  · rw [decide_eq_true z, Bool.true_and, Bool.true_and, pSet_n (by omega) (by omega) (by omega)]
    congr 1
    by_cases z2 : u ≤ c ∧ c < u + (v + 1 - u)
    · rw [decide_eq_true z2, decide_eq_true (by omega)]
    · rw [decide_eq_false z2, decide_eq_false (by omega)]
  · rw [decide_eq_false z, Bool.false_and, Bool.false_and, decide_eq_false (by omega)]
    rfl
/-- all others -/
theorem cB_turn {q : Int64 × Int64} {cs : Nat → Bool} (h : cB q cs) : cB ((xLs2 32 95 q).1 &&& (q.1 ^^^ (-1)), (xLs2 32 95 q).2 &&& (q.2 ^^^ (-1))) (fun k => !cs k) := by
  intro c hc
  have h1 := xbt_ls2 95 32 q c (by omega) hc
  have h2 := h c hc
  have e : xbt ((xLs2 32 95 q).1 &&& (q.1 ^^^ (-1)), (xLs2 32 95 q).2 &&& (q.2 ^^^ (-1))) c = (xbt (xLs2 32 95 q) c && !xbt q c) := by
    unfold xbt
    by_cases z : c < 64
    · rw [if_pos z, if_pos z, if_pos z, lb_and, lb_not _ z]
    · rw [if_neg z, if_neg z, if_neg z, lb_and, lb_not _ (by omega)]
  rw [e, h1, h2]
  by_cases z : 32 ≤ c ∧ c ≤ 126
  · rw [decide_eq_true z, decide_eq_true (show 32 ≤ c ∧ c < 32 + 95 by omega)]
    show _ = (true && !cs (c - 32))
    cases cs (c - 32) <;> rfl
  · rw [decide_eq_false z, decide_eq_false (show ¬ (32 ≤ c ∧ c < 32 + 95) by omega)]
    rfl

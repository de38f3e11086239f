/-- a long as the number of its bits -/
def lgN (x : Int64) : Nat := x.toBitVec.toNat
theorem lgN_lt (x : Int64) : lgN x < 2 ^ 64 := x.toBitVec.isLt
theorem lgN_and (x y : Int64) : lgN (x &&& y) = lgN x &&& lgN y := by
  unfold lgN
  rw [Int64.toBitVec_and, BitVec.toNat_and]
theorem lgN_sub {x y : Int64} (h : lgN y ≤ lgN x) : lgN (x - y) = lgN x - lgN y := by
  unfold lgN at h ⊢
  rw [Int64.toBitVec_sub, BitVec.toNat_sub_of_le (BitVec.le_def.mpr h)]
theorem lgN_add {x y : Int64} (h : lgN x + lgN y < 2 ^ 64) : lgN (x + y) = lgN x + lgN y := by
  unfold lgN at h ⊢
  rw [Int64.toBitVec_add, BitVec.toNat_add, Nat.mod_eq_of_lt h]
theorem lgN_ush (x : Int64) {s : Int32} {k : Nat} (h : (s.toInt64.toUInt64 &&& Int64.toUInt64 63).toNat = k) (hk : k < 64) : lgN ((x.toUInt64 >>> (s.toInt64.toUInt64 &&& Int64.toUInt64 63)).toInt64) = lgN x / 2 ^ k := by
  show (x.toUInt64 >>> (s.toInt64.toUInt64 &&& Int64.toUInt64 63)).toBitVec.toNat = _
  have e := UInt64.toNat_shiftRight x.toUInt64 (s.toInt64.toUInt64 &&& Int64.toUInt64 63)
  rw [h, Nat.mod_eq_of_lt hk, Nat.shiftRight_eq_div_pow] at e
  exact e
theorem lgN_127 (x : Int64) : x.toInt32 &&& 127 = nI (lgN x % 128) := by
  apply Int32.toBitVec_inj.mp
  rw [Int32.toBitVec_and]
  apply BitVec.eq_of_toNat_eq
  rw [BitVec.toNat_and]
  have h1 : x.toInt32.toBitVec.toNat = lgN x % 2 ^ 32 := by
    rw [Int64.toBitVec_toInt32, BitVec.signExtend_eq_setWidth_of_le _ (by decide), BitVec.toNat_setWidth]
    rfl
  have h2 : (127 : Int32).toBitVec.toNat = 2 ^ 7 - 1 := by decide
  rw [h1, h2, Nat.and_two_pow_sub_one_eq_mod]
  have h3 : (nI (lgN x % 128)).toBitVec.toNat = (lgN x % 128) % 2 ^ 32 := by
    rw [show (nI (lgN x % 128)).toBitVec = BitVec.ofNat 32 (lgN x % 128) from Int32.toBitVec_ofNat', BitVec.toNat_ofNat]
  rw [h3]
  have : lgN x % 128 < 128 := Nat.mod_lt _ (by decide)
  omega
/-- what Long.bitCount answers -/
def lCnt (x : Int64) : Nat := pc8 (lgN x % 2 ^ 8) + pc8 (lgN x / 2 ^ 8 % 2 ^ 8) + pc8 (lgN x / 2 ^ 16 % 2 ^ 8) + pc8 (lgN x / 2 ^ 24 % 2 ^ 8) + pc8 (lgN x / 2 ^ 32 % 2 ^ 8) + pc8 (lgN x / 2 ^ 40 % 2 ^ 8) + pc8 (lgN x / 2 ^ 48 % 2 ^ 8) + pc8 (lgN x / 2 ^ 56 % 2 ^ 8)
theorem pcA_8 (n : Nat) : n - (n / 2 &&& 6148914691236517205) = pcA 8 n := rfl
theorem pcB_8 (n : Nat) : (n &&& 3689348814741910323) + (n / 4 &&& 3689348814741910323) = pcB 8 n := rfl
theorem pcC_8 (n : Nat) : (n + n / 16) &&& 1085102592571150095 = pcC 8 n := rfl
theorem pcB_lt (n : Nat) : (n &&& 3689348814741910323) + (n / 4 &&& 3689348814741910323) ≤ 2 * 3689348814741910323 := by
  have h1 : n &&& 3689348814741910323 ≤ 3689348814741910323 := Nat.and_le_right
  have h2 : n / 4 &&& 3689348814741910323 ≤ 3689348814741910323 := Nat.and_le_right
  omega
theorem lCnt_eq {x a b c d e f : Int64} (ha : a = x - ((x.toUInt64 >>> ((1 : Int32).toInt64.toUInt64 &&& Int64.toUInt64 63)).toInt64 &&& 6148914691236517205)) (hb : b = (a &&& 3689348814741910323) + ((a.toUInt64 >>> ((2 : Int32).toInt64.toUInt64 &&& Int64.toUInt64 63)).toInt64 &&& 3689348814741910323)) (hc : c = (b + (b.toUInt64 >>> ((4 : Int32).toInt64.toUInt64 &&& Int64.toUInt64 63)).toInt64) &&& 1085102592571150095) (hd : d = c + (c.toUInt64 >>> ((8 : Int32).toInt64.toUInt64 &&& Int64.toUInt64 63)).toInt64) (he : e = d + (d.toUInt64 >>> ((16 : Int32).toInt64.toUInt64 &&& Int64.toUInt64 63)).toInt64) (hf : f = e + (e.toUInt64 >>> ((32 : Int32).toInt64.toUInt64 &&& Int64.toUInt64 63)).toInt64) : f.toInt32 &&& 127 = nI (lCnt x) := by
  have c5 : lgN 6148914691236517205 = 6148914691236517205 := by decide
  have c3 : lgN 3689348814741910323 = 3689348814741910323 := by decide
  have cf : lgN 1085102592571150095 = 1085102592571150095 := by decide
  have sa : lgN a = pcA 8 (lgN x) := by
    have h1 := lgN_ush x (s := 1) (k := 1) (by decide) (by decide)
    rw [ha, lgN_sub (by rw [lgN_and, h1, c5]; exact Nat.le_trans Nat.and_le_left (Nat.div_le_self _ _)), lgN_and, h1, c5]
    rfl
  have sb : lgN b = pcB 8 (lgN a) ∧ lgN b ≤ 2 * 3689348814741910323 := by
    have h1 := lgN_ush a (s := 2) (k := 2) (by decide) (by decide)
    have h2 := pcB_lt (lgN a)
    have e1 : lgN (a &&& 3689348814741910323) + lgN ((a.toUInt64 >>> ((2 : Int32).toInt64.toUInt64 &&& Int64.toUInt64 63)).toInt64 &&& 3689348814741910323) = pcB 8 (lgN a) := by
      rw [lgN_and, lgN_and, h1, c3]
      exact pcB_8 (lgN a)
    rw [pcB_8] at h2
    rw [hb, lgN_add (by rw [e1]; exact Nat.lt_of_le_of_lt h2 (by decide)), e1]
    exact ⟨rfl, h2⟩
  have sc : lgN c = pcC 8 (lgN b) := by
    have h1 := lgN_ush b (s := 4) (k := 4) (by decide) (by decide)
    have h2 : lgN b + lgN ((b.toUInt64 >>> ((4 : Int32).toInt64.toUInt64 &&& Int64.toUInt64 63)).toInt64) = lgN b + lgN b / 16 := by rw [h1]
    have h3 : lgN b / 16 ≤ 2 * 3689348814741910323 / 16 := Nat.div_le_div_right sb.2
    have h4 : lgN b + lgN b / 16 < 2 ^ 64 := Nat.lt_of_le_of_lt (Nat.add_le_add sb.2 h3) (by decide)
    rw [hc, lgN_and, lgN_add (by rw [h2]; exact h4), h2, cf]
    rfl
  have s8 : lgN c = pcS 8 (lgN x) := by
    rw [sc, sb.1, sa]
    exact pcT_S 8 (lgN x)
  obtain ⟨p1, p2, p3, p4⟩ := pc_sum (V0 := pcS 8 (lgN x)) (V1 := pcS 7 (lgN x / 2 ^ 8)) (V2 := pcS 6 (lgN x / 2 ^ 8 / 2 ^ 8)) (V3 := pcS 5 (lgN x / 2 ^ 8 / 2 ^ 8 / 2 ^ 8)) (V4 := pcS 4 (lgN x / 2 ^ 8 / 2 ^ 8 / 2 ^ 8 / 2 ^ 8)) (V5 := pcS 3 (lgN x / 2 ^ 8 / 2 ^ 8 / 2 ^ 8 / 2 ^ 8 / 2 ^ 8)) (V6 := pcS 2 (lgN x / 2 ^ 8 / 2 ^ 8 / 2 ^ 8 / 2 ^ 8 / 2 ^ 8 / 2 ^ 8)) (p7 := pc8 (lgN x / 2 ^ 8 / 2 ^ 8 / 2 ^ 8 / 2 ^ 8 / 2 ^ 8 / 2 ^ 8 / 2 ^ 8 % 2 ^ 8)) (pc8_le _) (pc8_le _) (pc8_le _) (pc8_le _) (pc8_le _) (pc8_le _) (pc8_le _) (pc8_le _) rfl rfl rfl rfl rfl rfl rfl
  have b0 : lgN c ≤ 1085102592571150095 := by
    rw [sc]
    exact Nat.and_le_right
  have k1 : lgN d = lgN c + lgN c / 256 := by
    have h1 := lgN_ush c (s := 8) (k := 8) (by decide) (by decide)
    have h2 : lgN c / 2 ^ 8 ≤ 1085102592571150095 := Nat.le_trans (Nat.div_le_self _ _) b0
    rw [hd, lgN_add (by rw [h1]; exact Nat.lt_of_le_of_lt (Nat.add_le_add b0 h2) (by decide)), h1]
  have b1 : lgN d ≤ 2 * 1085102592571150095 := by
    have h2 : lgN c / 256 ≤ 1085102592571150095 := Nat.le_trans (Nat.div_le_self _ _) b0
    rw [k1]
    exact Nat.le_trans (Nat.add_le_add b0 h2) (by decide)
  have k2 : lgN e = lgN d + lgN d / 65536 := by
    have h1 := lgN_ush d (s := 16) (k := 16) (by decide) (by decide)
    have h2 : lgN d / 2 ^ 16 ≤ 2 * 1085102592571150095 := Nat.le_trans (Nat.div_le_self _ _) b1
    rw [he, lgN_add (by rw [h1]; exact Nat.lt_of_le_of_lt (Nat.add_le_add b1 h2) (by decide)), h1]
  have b2 : lgN e ≤ 4 * 1085102592571150095 := by
    have h2 : lgN d / 65536 ≤ 2 * 1085102592571150095 := Nat.le_trans (Nat.div_le_self _ _) b1
    rw [k2]
    exact Nat.le_trans (Nat.add_le_add b1 h2) (by decide)
  have k3 : lgN f = lgN e + lgN e / 4294967296 := by
    have h1 := lgN_ush e (s := 32) (k := 32) (by decide) (by decide)
    have h2 : lgN e / 2 ^ 32 ≤ 4 * 1085102592571150095 := Nat.le_trans (Nat.div_le_self _ _) b2
    rw [hf, lgN_add (by rw [h1]; exact Nat.lt_of_le_of_lt (Nat.add_le_add b2 h2) (by decide)), h1]
  have hq : lgN f % 128 = lCnt x := by
    rw [k3, k2, k1, s8, p1, p2, p3, p4]
    unfold lCnt
    simp only [Nat.div_div_eq_div_mul, ← Nat.pow_add]
  rw [lgN_127, hq]
/-- how many of the first n hold -/
def bsum (f : Nat → Bool) : Nat → Nat
  | 0 => 0
  | n + 1 => bsum f n + (bif f n then 1 else 0)
theorem bsum_add (f : Nat → Bool) (n : Nat) : ∀ m, bsum f (n + m) = bsum f n + bsum (fun i => f (n + i)) m
  | 0 => rfl
  | m + 1 => by
    show bsum f (n + m) + (bif f (n + m) then 1 else 0) = bsum f n + (bsum (fun i => f (n + i)) m + (bif f (n + m) then 1 else 0))
    rw [bsum_add f n m, Nat.add_assoc]
theorem bsum_cg {f g : Nat → Bool} : ∀ n, (∀ i, i < n → f i = g i) → bsum f n = bsum g n
  | 0, _ => rfl
  | n + 1, h => by
    show bsum f n + _ = bsum g n + _
    rw [bsum_cg n (fun i hi => h i (by omega)), h n (by omega)]
theorem bsum_0 : ∀ n, bsum (fun _ => false) n = 0
  | 0 => rfl
  | n + 1 => by
    show bsum (fun _ => false) n + 0 = 0
    rw [bsum_0 n]
theorem bsum_len (f : Nat → Bool) : ∀ n, ((List.range n).filter f).length = bsum f n
  | 0 => rfl
  | n + 1 => by
    rw [List.range_succ, List.filter_append, List.length_append, bsum_len f n]
    show _ = bsum f n + _
    congr 1
    cases h : f n <;> simp [h]
def nbit (N i : Nat) : Bool := decide (N / 2 ^ i % 2 = 1)
theorem nbit_n (N i : Nat) : (bif nbit N i then 1 else 0) = N / 2 ^ i % 2 := by
  unfold nbit
  by_cases h : N / 2 ^ i % 2 = 1
  · rw [decide_eq_true h, h]
    rfl
  · rw [decide_eq_false h]
    show 0 = _
    omega
theorem pc8_bits (N m : Nat) : pc8 (N / 2 ^ m % 2 ^ 8) = bsum (fun i => nbit N (m + i)) 8 := by
  have e : ∀ j, N / 2 ^ (m + j) = N / 2 ^ m / 2 ^ j := fun j => by rw [Nat.div_div_eq_div_mul, ← Nat.pow_add]
  show _ = 0 + (bif nbit N (m + 0) then 1 else 0) + (bif nbit N (m + 1) then 1 else 0) + (bif nbit N (m + 2) then 1 else 0) + (bif nbit N (m + 3) then 1 else 0) + (bif nbit N (m + 4) then 1 else 0) + (bif nbit N (m + 5) then 1 else 0) + (bif nbit N (m + 6) then 1 else 0) + (bif nbit N (m + 7) then 1 else 0)
  rw [nbit_n, nbit_n, nbit_n, nbit_n, nbit_n, nbit_n, nbit_n, nbit_n, e 0, e 1, e 2, e 3, e 4, e 5, e 6, e 7]
  generalize N / 2 ^ m = a
  unfold pc8
  omega
theorem lCnt_bits (x : Int64) : lCnt x = bsum (nbit (lgN x)) 64 := by
  have h := fun m => pc8_bits (lgN x) m
  have e : bsum (nbit (lgN x)) 64 = bsum (fun i => nbit (lgN x) (0 + i)) 8 + bsum (fun i => nbit (lgN x) (8 + i)) 8 + bsum (fun i => nbit (lgN x) (16 + i)) 8 + bsum (fun i => nbit (lgN x) (24 + i)) 8 + bsum (fun i => nbit (lgN x) (32 + i)) 8 + bsum (fun i => nbit (lgN x) (40 + i)) 8 + bsum (fun i => nbit (lgN x) (48 + i)) 8 + bsum (fun i => nbit (lgN x) (56 + i)) 8 := by
    rw [show (64 : Nat) = 56 + 8 from rfl, bsum_add, show (56 : Nat) = 48 + 8 from rfl, bsum_add, show (48 : Nat) = 40 + 8 from rfl, bsum_add, show (40 : Nat) = 32 + 8 from rfl, bsum_add, show (32 : Nat) = 24 + 8 from rfl, bsum_add, show (24 : Nat) = 16 + 8 from rfl, bsum_add, show (16 : Nat) = 8 + 8 from rfl, bsum_add]
    rw [show bsum (fun i => nbit (lgN x) (0 + i)) 8 = bsum (nbit (lgN x)) 8 from bsum_cg 8 (fun i _ => by rw [Nat.zero_add])]
  rw [e, ← h 0, ← h 8, ← h 16, ← h 24, ← h 32, ← h 40, ← h 48, ← h 56]
  unfold lCnt
  rw [Nat.pow_zero, Nat.div_one]
theorem nbit_lb (x : Int64) (i : Nat) : nbit (lgN x) i = lb x i := by
  show decide (lgN x / 2 ^ i % 2 = 1) = x.toBitVec.getLsbD i
  rw [← BitVec.testBit_toNat, Nat.testBit_eq_decide_div_mod_eq]
  rfl
/-- the characters of a set, counted -/
theorem cB_cnt {q : Int64 × Int64} {cs : Nat → Bool} (h : cB q cs) : lCnt q.1 + lCnt q.2 = bsum cs 95 := by
  have h1 : lCnt q.1 = bsum (xbt q) 64 := by
    rw [lCnt_bits]
    exact bsum_cg 64 (fun i hi => (nbit_lb _ i).trans (if_pos hi).symm)
  have h2 : lCnt q.2 = bsum (fun i => xbt q (64 + i)) 64 := by
    rw [lCnt_bits]
    refine bsum_cg 64 (fun i hi => (nbit_lb _ i).trans ?_)
    show lb q.2 i = xbt q (64 + i)
    rw [show xbt q (64 + i) = lb q.2 (64 + i - 64) from if_neg (by omega), show 64 + i - 64 = i by omega]
  rw [h1, h2, ← bsum_add]
  rw [show (64 + 64 : Nat) = 32 + 96 from rfl, bsum_add, show (96 : Nat) = 95 + 1 from rfl, bsum_add]
  have e1 : bsum (xbt q) 32 = 0 := by
    rw [bsum_cg (g := fun _ => false) 32 (fun i hi => by rw [h i (by omega), decide_eq_false (by omega)]; rfl), bsum_0]
  have e2 : bsum (fun i => xbt q (32 + i)) 95 = bsum cs 95 := bsum_cg 95 (fun i hi => by
    show xbt q (32 + i) = cs i
    rw [h (32 + i) (by omega), decide_eq_true (by omega), show 32 + i - 32 = i by omega]
    rfl)
  have e3 : bsum (fun i => xbt q (32 + (95 + i))) 1 = 0 := by
    rw [bsum_cg (g := fun _ => false) 1 (fun i hi => by
      show xbt q (32 + (95 + i)) = false
      rw [h (32 + (95 + i)) (by omega), decide_eq_false (by omega)]
      rfl), bsum_0]
  rw [e1, e2, e3]
  omega

/-! Counting the bits of a long, as Long.bitCount does it -/
theorem pc_and (k a b A B : Nat) (ha : a < 2 ^ k) (hb : b < 2 ^ k) : (a + 2 ^ k * A) &&& (b + 2 ^ k * B) = (a &&& b) + 2 ^ k * (A &&& B) := by
  have hk : 0 < 2 ^ k := Nat.two_pow_pos k
  have e1 : (a + 2 ^ k * A) % 2 ^ k = a := by rw [Nat.add_mul_mod_self_left, Nat.mod_eq_of_lt ha]
  have e2 : (b + 2 ^ k * B) % 2 ^ k = b := by rw [Nat.add_mul_mod_self_left, Nat.mod_eq_of_lt hb]
  have e3 : (a + 2 ^ k * A) / 2 ^ k = A := by rw [Nat.add_mul_div_left _ _ hk, Nat.div_eq_of_lt ha, Nat.zero_add]
  have e4 : (b + 2 ^ k * B) / 2 ^ k = B := by rw [Nat.add_mul_div_left _ _ hk, Nat.div_eq_of_lt hb, Nat.zero_add]
  have h1 := Nat.mod_add_div ((a + 2 ^ k * A) &&& (b + 2 ^ k * B)) (2 ^ k)
  rw [Nat.and_mod_two_pow, Nat.and_div_two_pow, e1, e2, e3, e4] at h1
  exact h1.symm
def pc5 : Nat → Nat
  | 0 => 0
  | n + 1 => 0x55 + 2 ^ 8 * pc5 n
def pc3 : Nat → Nat
  | 0 => 0
  | n + 1 => 0x33 + 2 ^ 8 * pc3 n
def pcf : Nat → Nat
  | 0 => 0
  | n + 1 => 0x0f + 2 ^ 8 * pcf n
def pcA (n x : Nat) : Nat := x - (x / 2 &&& pc5 n)
def pcB (n x : Nat) : Nat := (x &&& pc3 n) + (x / 4 &&& pc3 n)
def pcC (n x : Nat) : Nat := (x + x / 16) &&& pcf n
/-- the bits of a byte -/
def pc8 (a : Nat) : Nat := a % 2 + a / 2 % 2 + a / 4 % 2 + a / 8 % 2 + a / 16 % 2 + a / 32 % 2 + a / 64 % 2 + a / 128 % 2
theorem pcA_s (n a A : Nat) (ha : a < 2 ^ 8) (hA : A / 2 &&& pc5 n ≤ A) : pcA (n + 1) (a + 2 ^ 8 * A) = pcA 1 a + 2 ^ 8 * pcA n A := by
  unfold pcA
  have e0 : (a + 2 ^ 8 * A) / 2 = (a / 2 + 128 * (A % 2)) + 2 ^ 8 * (A / 2) := by omega
  have e1 : (a + 2 ^ 8 * A) / 2 &&& pc5 (n + 1) = (a / 2 &&& 0x55) + 2 ^ 8 * (A / 2 &&& pc5 n) := by
    rw [e0, show pc5 (n + 1) = 0x55 + 2 ^ 8 * pc5 n from rfl, pc_and 8 _ _ _ _ (by omega) (by decide)]
    congr 1
    rcases Nat.mod_two_eq_zero_or_one A with h | h
    · rw [h, Nat.mul_zero, Nat.add_zero]
    · rw [h]
      exact (show ∀ a, a < 256 → (a / 2 + 128 * 1) &&& 0x55 = a / 2 &&& 0x55 by decide +kernel) a ha
  have e2 : a / 2 &&& pc5 1 = a / 2 &&& 0x55 := rfl
  rw [e1, e2]
  have h2 : a / 2 &&& 0x55 ≤ a := Nat.le_trans Nat.and_le_left (Nat.div_le_self _ _)
  omega
theorem pcB_s (n a A : Nat) (ha : a < 2 ^ 8) : pcB (n + 1) (a + 2 ^ 8 * A) = pcB 1 a + 2 ^ 8 * pcB n A := by
  unfold pcB
  have e0 : (a + 2 ^ 8 * A) / 4 = (a / 4 + 64 * (A % 4)) + 2 ^ 8 * (A / 4) := by omega
  have e1 : (a + 2 ^ 8 * A) / 4 &&& pc3 (n + 1) = (a / 4 &&& 0x33) + 2 ^ 8 * (A / 4 &&& pc3 n) := by
    rw [e0, show pc3 (n + 1) = 0x33 + 2 ^ 8 * pc3 n from rfl, pc_and 8 _ _ _ _ (by omega) (by decide)]
    congr 1
    have h4 : A % 4 < 4 := Nat.mod_lt _ (by decide)
    exact (show ∀ b, b < 4 → ∀ a, a < 256 → (a / 4 + 64 * b) &&& 0x33 = a / 4 &&& 0x33 by decide +kernel) (A % 4) h4 a ha
  have e2 : (a + 2 ^ 8 * A) &&& pc3 (n + 1) = (a &&& 0x33) + 2 ^ 8 * (A &&& pc3 n) := by
    rw [show pc3 (n + 1) = 0x33 + 2 ^ 8 * pc3 n from rfl, pc_and 8 _ _ _ _ ha (by decide)]
  have e3 : a / 4 &&& pc3 1 = a / 4 &&& 0x33 := rfl
  have e4 : a &&& pc3 1 = a &&& 0x33 := rfl
  rw [e1, e2, e3, e4]
  omega
theorem pcC_s (n a A : Nat) (ha : a < 2 ^ 7) (hA : A % 16 ≤ 7) : pcC (n + 1) (a + 2 ^ 8 * A) = pcC 1 a + 2 ^ 8 * pcC n A := by
  unfold pcC
  have e0 : a + 2 ^ 8 * A + (a + 2 ^ 8 * A) / 16 = (a + a / 16 + 16 * (A % 16)) + 2 ^ 8 * (A + A / 16) := by omega
  have hlt : a + a / 16 + 16 * (A % 16) < 2 ^ 8 := by omega
  rw [e0, show pcf (n + 1) = 0x0f + 2 ^ 8 * pcf n from rfl, pc_and 8 _ _ _ _ hlt (by decide)]
  congr 1
  rw [show pcf 1 = 0x0f from rfl]
  have h9 : A % 16 < 8 := by omega
  exact (show ∀ b, b < 8 → ∀ a, a < 128 → (a + a / 16 + 16 * b) &&& 0x0f = (a + a / 16) &&& 0x0f by decide +kernel) (A % 16) h9 a ha
def pcS : Nat → Nat → Nat
  | 0, _ => 0
  | n + 1, x => pc8 (x % 2 ^ 8) + 2 ^ 8 * pcS n (x / 2 ^ 8)
theorem pcA_le (n x : Nat) : x / 2 &&& pc5 n ≤ x := Nat.le_trans Nat.and_le_left (Nat.div_le_self _ _)
def pcT (n x : Nat) : Nat := pcC n (pcB n (pcA n x))
theorem pc_1 : ∀ a, a < 256 → pcA 1 a < 2 ^ 8 ∧ pcB 1 (pcA 1 a) < 2 ^ 7 ∧ pcB 1 (pcA 1 a) % 16 ≤ 4 ∧ pcT 1 a = pc8 a := by decide +kernel
theorem pc_low (n x : Nat) : pcB n (pcA n x) % 16 ≤ 7 := by
  cases n with
  | zero => simp [pcB, pc3]
  | succ n =>
    obtain ⟨a, A, ha, rfl⟩ : ∃ a A, a < 2 ^ 8 ∧ x = a + 2 ^ 8 * A := ⟨x % 2 ^ 8, x / 2 ^ 8, Nat.mod_lt _ (by decide), (Nat.mod_add_div _ _).symm⟩
    obtain ⟨h1, h2, h3, h4⟩ := pc_1 a ha
    rw [pcA_s n a A ha (pcA_le n A), pcB_s n _ _ h1]
    omega
theorem pcT_s (n a A : Nat) (ha : a < 2 ^ 8) : pcT (n + 1) (a + 2 ^ 8 * A) = pc8 a + 2 ^ 8 * pcT n A := by
  obtain ⟨h1, h2, h3, h4⟩ := pc_1 a ha
  have h5 : pcT (n + 1) (a + 2 ^ 8 * A) = pcT 1 a + 2 ^ 8 * pcT n A := by
    unfold pcT
    rw [pcA_s n a A ha (pcA_le n A), pcB_s n _ _ h1, pcC_s n _ _ h2 (pc_low n A)]
  rw [h5, h4]
theorem pcT_S : ∀ n x, pcT n x = pcS n x
  | 0, x => by
    show (_ &&& 0) = 0
    exact Nat.and_zero _
  | n + 1, x => by
    obtain ⟨a, A, ha, rfl⟩ : ∃ a A, a < 2 ^ 8 ∧ x = a + 2 ^ 8 * A := ⟨x % 2 ^ 8, x / 2 ^ 8, Nat.mod_lt _ (by decide), (Nat.mod_add_div _ _).symm⟩
    rw [pcT_s n a A ha, pcT_S n A]
    show _ = pc8 ((a + 2 ^ 8 * A) % 2 ^ 8) + 2 ^ 8 * pcS n ((a + 2 ^ 8 * A) / 2 ^ 8)
    rw [Nat.add_mul_mod_self_left, Nat.mod_eq_of_lt ha, Nat.add_mul_div_left _ _ (by decide), Nat.div_eq_of_lt ha, Nat.zero_add]
theorem pc8_le : ∀ a, pc8 a ≤ 8 := by
  intro a
  unfold pc8
  omega
/-- the eight bytes' counts come together in the lowest byte -/
theorem pc_sum {p0 p1 p2 p3 p4 p5 p6 p7 V0 V1 V2 V3 V4 V5 V6 : Nat} (h0 : p0 ≤ 8) (h1 : p1 ≤ 8) (h2 : p2 ≤ 8) (h3 : p3 ≤ 8) (h4 : p4 ≤ 8) (h5 : p5 ≤ 8) (h6 : p6 ≤ 8) (h7 : p7 ≤ 8) (e0 : V0 = p0 + 256 * V1) (e1 : V1 = p1 + 256 * V2) (e2 : V2 = p2 + 256 * V3) (e3 : V3 = p3 + 256 * V4) (e4 : V4 = p4 + 256 * V5) (e5 : V5 = p5 + 256 * V6) (e6 : V6 = p6 + 256 * p7) : V0 / 256 = V1 ∧ (V0 + V1) / 65536 = V2 + V3 ∧ (V0 + V1 + (V2 + V3)) / 4294967296 = V4 + V5 + (V6 + p7) ∧ (V0 + V1 + (V2 + V3) + (V4 + V5 + (V6 + p7))) % 128 = p0 + p1 + p2 + p3 + p4 + p5 + p6 + p7 := by
  have a1 : V0 / 256 = V1 := by omega
  have a2 : (V0 + V1) / 65536 = V2 + V3 := by omega
  have b3 : V0 + V1 + (V2 + V3) = (p0 + p1 + p2 + p3) + 256 * ((p1 + p2 + p3 + p4) + 256 * ((p2 + p3 + p4 + p5) + 256 * ((p3 + p4 + p5 + p6) + 256 * (V4 + V5 + (V6 + p7))))) := by omega
  have a3 : (V0 + V1 + (V2 + V3)) / 4294967296 = V4 + V5 + (V6 + p7) := by
    rw [b3]
    generalize V4 + V5 + (V6 + p7) = W
    omega
  have a4 : (V0 + V1 + (V2 + V3) + (V4 + V5 + (V6 + p7))) % 128 = p0 + p1 + p2 + p3 + p4 + p5 + p6 + p7 := by
    have c4 : V4 + V5 + (V6 + p7) = (p4 + p5 + p6 + p7) + 256 * (V5 + V6 + p7) := by omega
    rw [b3, c4]
    generalize (p1 + p2 + p3 + p4) + 256 * ((p2 + p3 + p4 + p5) + 256 * ((p3 + p4 + p5 + p6) + 256 * ((p4 + p5 + p6 + p7) + 256 * (V5 + V6 + p7)))) = W
    generalize V5 + V6 + p7 = X
    omega
  exact ⟨a1, a2, a3, a4⟩

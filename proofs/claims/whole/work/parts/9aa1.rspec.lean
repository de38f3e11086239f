/-! What a pattern reaches in a line of len letters, as mathematics -/
def rPa (R : Nat → Nat → Nat → Prop) : List Nat → Nat → Nat → Prop
  | [], a, b => a = b
  | c :: l, a, b => ∃ m, R c a m ∧ rPa R l m b
def rIt (R : Nat → Nat → Prop) : Nat → Nat → Nat → Prop
  | 0, a, b => a = b
  | k + 1, a, b => ∃ m, R a m ∧ rIt R k m b
def rQ (len : Nat) (ln : Nat → Nat) (R : Nat → Nat → Nat → Prop) (q : xNode) (a b : Nat) : Prop := (q.1 = 1 ∧ a < len ∧ q.2.2.2.2.2 (ln a) = true ∧ b = a + 1) ∨ (q.1 = 2 ∧ a = 0 ∧ b = 0) ∨ (q.1 = 3 ∧ a = len ∧ b = len) ∨ (q.1 = 4 ∧ ∃ k, q.2.2.2.1.toNatClampNeg ≤ k ∧ (q.2.2.2.2.1 = -1 ∨ k ≤ q.2.2.2.2.1.toNatClampNeg) ∧ rIt (R (q.2.2.1.headD 0)) k a b) ∨ (q.1 = 5 ∧ rPa R q.2.2.1 a b) ∨ (q.1 = 6 ∧ ∃ c ∈ q.2.2.1, R c a b)
theorem rPa_mono {R R' : Nat → Nat → Nat → Prop} (h : ∀ c a b, R c a b → R' c a b) : ∀ {l : List Nat} {a b : Nat}, rPa R l a b → rPa R' l a b
  | [], _, _, z => z
  | c :: _, _, _, ⟨m, z1, z2⟩ => ⟨m, h c _ _ z1, rPa_mono h z2⟩
theorem rIt_mono {R R' : Nat → Nat → Prop} (h : ∀ a b, R a b → R' a b) : ∀ {k a b : Nat}, rIt R k a b → rIt R' k a b
  | 0, _, _, z => z
  | _ + 1, _, _, ⟨m, z1, z2⟩ => ⟨m, h _ _ z1, rIt_mono h z2⟩
theorem rQ_mono {len : Nat} {ln : Nat → Nat} {R R' : Nat → Nat → Nat → Prop} {q : xNode} {a b : Nat} (h : ∀ c a b, R c a b → R' c a b) (z : rQ len ln R q a b) : rQ len ln R' q a b := by
  rcases z with z | z | z | ⟨z, k, z1, z2, z3⟩ | ⟨z, z1⟩ | ⟨z, c, z1, z2⟩
  · exact Or.inl z
  · exact Or.inr (Or.inl z)
  · exact Or.inr (Or.inr (Or.inl z))
  · exact Or.inr (Or.inr (Or.inr (Or.inl ⟨z, k, z1, z2, rIt_mono (h _) z3⟩)))
  · exact Or.inr (Or.inr (Or.inr (Or.inr (Or.inl ⟨z, rPa_mono h z1⟩))))
  · exact Or.inr (Or.inr (Or.inr (Or.inr (Or.inr ⟨z, c, z1, h c a b z2⟩))))
def rY (len : Nat) (ln : Nat → Nat) (A : List xNode) (i a b : Nat) : Prop := ∀ P : Nat → Nat → Nat → Prop, (∀ (j : Nat) (q : xNode) (a b : Nat), A[j]? = some q → rQ len ln P q a b → P j a b) → P i a b
section rS
variable {len : Nat} {ln : Nat → Nat} {A : List xNode}
theorem rY_in {i a b : Nat} {q : xNode} (hq : A[i]? = some q) (h : rQ len ln (rY len ln A) q a b) : rY len ln A i a b := fun P hP => hP i q a b hq (rQ_mono (fun c a b hc => hc P hP) h)
theorem rY_iff {i : Nat} {q : xNode} (hq : A[i]? = some q) (a b : Nat) : rY len ln A i a b ↔ rQ len ln (rY len ln A) q a b := by
  refine ⟨fun h => ?_, rY_in hq⟩
  obtain ⟨p, hp, h2⟩ := h (fun j a b => ∃ p, A[j]? = some p ∧ rQ len ln (rY len ln A) p a b) (fun j p a b hp hz => ⟨p, hp, rQ_mono (fun c a b ⟨p', hp', hz'⟩ => rY_in hp' hz') hz⟩)
  rw [hq] at hp
  cases hp
  exact h2
theorem rPa_le {R : Nat → Nat → Nat → Prop} (h : ∀ c a b, R c a b → a ≤ len → a ≤ b ∧ b ≤ len) : ∀ {l : List Nat} {a b : Nat}, rPa R l a b → a ≤ len → a ≤ b ∧ b ≤ len
  | [], _, _, z, ha => by
    cases z
    exact ⟨Nat.le_refl _, ha⟩
  | c :: _, _, _, ⟨m, z1, z2⟩, ha => by
    have e1 := h c _ _ z1 ha
    have e2 := rPa_le h z2 e1.2
    omega
theorem rIt_le {R : Nat → Nat → Prop} (h : ∀ a b, R a b → a ≤ len → a ≤ b ∧ b ≤ len) : ∀ {k a b : Nat}, rIt R k a b → a ≤ len → a ≤ b ∧ b ≤ len
  | 0, _, _, z, ha => by
    cases z
    exact ⟨Nat.le_refl _, ha⟩
  | _ + 1, _, _, ⟨m, z1, z2⟩, ha => by
    have e1 := h _ _ z1 ha
    have e2 := rIt_le h z2 e1.2
    omega
/-- no part reaches back, and none beyond the line -/
theorem rY_le {i a b : Nat} (h : rY len ln A i a b) : a ≤ len → a ≤ b ∧ b ≤ len := by
  refine h (fun _ a b => a ≤ len → a ≤ b ∧ b ≤ len) (fun j q a b hq hz ha => ?_)
  rcases hz with ⟨-, z1, -, z2⟩ | ⟨-, z1, z2⟩ | ⟨-, z1, z2⟩ | ⟨z, k, z1, z2, z3⟩ | ⟨z, z1⟩ | ⟨z, c, z1, z2⟩
  · omega
  · omega
  · omega
  · exact rIt_le (fun a b q => q) z3 ha
  · exact rPa_le (fun c a b q => q) z1 ha
  · exact z2 ha
end rS
theorem rIt_add {R : Nat → Nat → Prop} : ∀ {k m a b c : Nat}, rIt R k a b → rIt R m b c → rIt R (k + m) a c
  | 0, m, _, _, _, h, h2 => by
    cases h
    rw [Nat.zero_add]
    exact h2
  | k + 1, m, _, _, _, ⟨x, h1, h2⟩, h3 => by
    rw [show k + 1 + m = k + m + 1 by omega]
    exact ⟨x, h1, rIt_add h2 h3⟩
theorem rIt_split {R : Nat → Nat → Prop} : ∀ {k m a c : Nat}, rIt R (k + m) a c → ∃ b, rIt R k a b ∧ rIt R m b c
  | 0, m, a, _, h => ⟨a, rfl, by rw [Nat.zero_add] at h; exact h⟩
  | k + 1, m, _, _, h => by
    rw [show k + 1 + m = k + m + 1 by omega] at h
    obtain ⟨x, h1, h2⟩ := h
    obtain ⟨b, h3, h4⟩ := rIt_split h2
    exact ⟨b, ⟨x, h1, h3⟩, h4⟩
theorem rIt_snoc {R : Nat → Nat → Prop} {k a b c : Nat} (h : rIt R k a b) (h2 : R b c) : rIt R (k + 1) a c := rIt_add h ⟨c, h2, rfl⟩
theorem rIt_last {R : Nat → Nat → Prop} {k a c : Nat} (h : rIt R (k + 1) a c) : ∃ b, rIt R k a b ∧ R b c := by
  obtain ⟨b, h1, h2⟩ := rIt_split h
  obtain ⟨x, h3, h4⟩ := h2
  cases h4
  exact ⟨b, h1, h3⟩
/-- steps that stand still can be left out -/
theorem rIt_short {len : Nat} {R : Nat → Nat → Prop} (h : ∀ a b, R a b → a ≤ len → a ≤ b ∧ b ≤ len) : ∀ {k a b : Nat}, rIt R k a b → a ≤ len → ∃ m, m ≤ b - a ∧ m ≤ k ∧ rIt R m a b
  | 0, a, b, z, _ => ⟨0, Nat.zero_le _, Nat.le_refl _, z⟩
  | k + 1, a, b, ⟨c, z1, z2⟩, ha => by
    have e1 := h a c z1 ha
    obtain ⟨m, m1, m2, m3⟩ := rIt_short h z2 e1.2
    have e2 := rIt_le h z2 e1.2
    by_cases q : c = a
    · subst q
      exact ⟨m, m1, by omega, m3⟩
    · exact ⟨m + 1, by omega, by omega, c, z1, m3⟩
/-- all that any number of steps reaches -/
def rSt (R : Nat → Nat → Prop) (a b : Nat) : Prop := ∃ k, rIt R k a b
theorem rSt_r {R : Nat → Nat → Prop} (a : Nat) : rSt R a a := ⟨0, rfl⟩
theorem rSt_t {R : Nat → Nat → Prop} {a b c : Nat} (h : rSt R a b) (h2 : rSt R b c) : rSt R a c := ⟨_, rIt_add h.choose_spec h2.choose_spec⟩
theorem rSt_le {len : Nat} {R : Nat → Nat → Prop} (h : ∀ a b, R a b → a ≤ len → a ≤ b ∧ b ≤ len) {a b : Nat} (z : rSt R a b) (ha : a ≤ len) : a ≤ b ∧ b ≤ len := rIt_le h z.choose_spec ha
theorem rSt_step {R : Nat → Nat → Prop} (a b : Nat) : rSt R a b ↔ a = b ∨ ∃ m, R a m ∧ ¬ m = a ∧ rSt R m b := by
  constructor
  · rintro ⟨k, hk⟩
    induction k with
    | zero => exact Or.inl hk
    | succ k ih =>
      obtain ⟨m, h1, h2⟩ := hk
      by_cases q : m = a
      · subst q
        exact ih h2
      · exact Or.inr ⟨m, h1, q, k, h2⟩
  · rintro (h | ⟨m, h1, -, k, h2⟩)
    · exact ⟨0, h⟩
    · exact ⟨k + 1, m, h1, h2⟩
/-- the bits of a long are the places of a set -/
def bS (x : Int64) (P : Nat → Prop) : Prop := ∀ j, j < 64 → (lb x j = true ↔ P j)
theorem bS_0 {P : Nat → Prop} (h : ∀ j, ¬ P j) : bS 0 P := fun j _ => ⟨fun q => absurd q (by rw [lb_0]; decide), fun q => absurd q (h j)⟩
theorem bS_cg {x : Int64} {P Q : Nat → Prop} (h : bS x P) (e : ∀ j, j < 64 → (P j ↔ Q j)) : bS x Q := fun j hj => (h j hj).trans (e j hj)
theorem bS_or {x y : Int64} {P Q : Nat → Prop} (h : bS x P) (h2 : bS y Q) : bS (x ||| y) (fun j => P j ∨ Q j) := fun j hj => by rw [lb_or, Bool.or_eq_true, h j hj, h2 j hj]
theorem bS_and {x y : Int64} {P Q : Nat → Prop} (h : bS x P) (h2 : bS y Q) : bS (x &&& y) (fun j => P j ∧ Q j) := fun j hj => by rw [lb_and, Bool.and_eq_true, h j hj, h2 j hj]
theorem bS_no {x : Int64} {P : Nat → Prop} (h : bS x P) : bS (x ^^^ (-1)) (fun j => ¬ P j) := fun j hj => by rw [lb_not x hj, Bool.not_eq_true', ← Bool.not_eq_true, h j hj]
theorem bS_ne {x : Int64} {P : Nat → Prop} (h : bS x P) (hP : ∀ j, P j → j < 64) : ¬ x = 0 ↔ ∃ j, P j := by
  constructor
  · intro hx
    refine Classical.byContradiction fun q => hx (lb_eq0.mpr fun j hj => ?_)
    cases hb : lb x j with
    | false => rfl
    | true => exact absurd ⟨j, (h j hj).mp hb⟩ q
  · rintro ⟨j, hj⟩ hx
    have h2 := (h j (hP j hj)).mpr hj
    rw [hx, lb_0] at h2
    cases h2
theorem bS_z {x : Int64} {P : Nat → Prop} (h : bS x P) (hx : x = 0) : ∀ j, j < 64 → ¬ P j := fun j hj q => by
  have h2 := (h j hj).mpr q
  rw [hx, lb_0] at h2
  cases h2
theorem bS_one {c : Nat} (hc : c < 64) : bS ((1 : Int64) <<< ((nI c).toInt64 &&& 63)) (fun j => j = c) := fun j _ => by rw [lb_one hc, decide_eq_true_iff]
theorem bS_1 : bS 1 (fun j => j = 0) := fun j _ => by rw [lb_1, decide_eq_true_iff]
theorem bS_shl {x : Int64} {P : Nat → Prop} (h : bS x P) : bS (x <<< ((1 : Int32).toInt64 &&& 63)) (fun j => ∃ a, j = a + 1 ∧ P a) := fun j hj => by
  rw [lb_shl1 x hj, Bool.and_eq_true, decide_eq_true_iff]
  constructor
  · rintro ⟨h1, h2⟩
    exact ⟨j - 1, by omega, (h (j - 1) (by omega)).mp h2⟩
  · rintro ⟨a, rfl, h2⟩
    exact ⟨by omega, (h a (by omega)).mpr h2⟩
theorem bS_eq {x y : Int64} {P : Nat → Prop} (h : bS x P) (h2 : bS y P) : x = y := lb_ext fun j hj => by
  have e := (h j hj).trans (h2 j hj).symm
  cases h3 : lb x j with
  | true => rw [e.mp h3]
  | false =>
    cases h4 : lb y j with
    | false => rfl
    | true => rw [e.mpr h4] at h3; cases h3

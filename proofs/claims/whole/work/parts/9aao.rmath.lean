/-! Images of sets of places -/
def rI (R : Nat → Nat → Prop) (len : Nat) (x : Int64) (j : Nat) : Prop := ∃ a, a ≤ len ∧ lb x a = true ∧ R a j
/-- all places of x stand in the line -/
def bL (len : Nat) (x : Int64) : Prop := ∀ j, j < 64 → lb x j = true → j ≤ len
theorem bS_s (x : Int64) : bS x (fun j => lb x j = true) := fun _ _ => Iff.rfl
section rIm
variable {len : Nat} {R R' : Nat → Nat → Prop} {x y : Int64}
theorem bL_im (hR : ∀ a b, R a b → a ≤ len → a ≤ b ∧ b ≤ len) (h : bS y (rI R len x)) : bL len y := fun j hj hb => by
  obtain ⟨a, a1, -, a3⟩ := (h j hj).mp hb
  exact (hR a j a3 a1).2
theorem rI_comp (hl : len ≤ 40) (hR : ∀ a b, R a b → a ≤ len → a ≤ b ∧ b ≤ len) (h : bS y (rI R len x)) (j : Nat) : rI R' len y j ↔ rI (fun a j => ∃ m, R a m ∧ R' m j) len x j := by
  constructor
  · rintro ⟨a, a1, a2, a3⟩
    obtain ⟨b, b1, b2, b3⟩ := (h a (by omega)).mp a2
    exact ⟨b, b1, b2, a, b3, a3⟩
  · rintro ⟨b, b1, b2, a, b3, a3⟩
    have := hR b a b3 b1
    exact ⟨a, this.2, (h a (by omega)).mpr ⟨b, b1, b2, b3⟩, a3⟩
theorem rI_cg (h : ∀ a b, R a b ↔ R' a b) (j : Nat) : rI R len x j ↔ rI R' len x j := ⟨fun ⟨a, a1, a2, a3⟩ => ⟨a, a1, a2, (h a j).mp a3⟩, fun ⟨a, a1, a2, a3⟩ => ⟨a, a1, a2, (h a j).mpr a3⟩⟩
theorem bS_rI (h : bS y (rI R len x)) (e : ∀ a b, R a b ↔ R' a b) : bS y (rI R' len x) := bS_cg h (fun j _ => rI_cg e j)
theorem bS_rIl (h : bS y (rI R len x)) (e : ∀ a b, a ≤ len → (R a b ↔ R' a b)) : bS y (rI R' len x) := bS_cg h (fun j _ => ⟨fun ⟨a, a1, a2, a3⟩ => ⟨a, a1, a2, (e a j a1).mp a3⟩, fun ⟨a, a1, a2, a3⟩ => ⟨a, a1, a2, (e a j a1).mpr a3⟩⟩)
theorem bS_0I (hl : len ≤ 40) (h : bS x (fun j => lb x j = true)) (hx : x = 0) : bS 0 (rI R len x) := bS_0 fun j ⟨a, a1, a2, _⟩ => by
  rw [hx, lb_0] at a2
  cases a2
/-- from nothing nothing is reached -/
theorem bS_im0 (hl : len ≤ 40) (hR : ∀ a b, R a b → a ≤ len → a ≤ b ∧ b ≤ len) (h : bS y (rI R len x)) (hy : y = 0) : bS y (rI (fun a j => ∃ m, R a m ∧ R' m j) len x) := by
  subst hy
  refine bS_0 fun j => ?_
  rintro ⟨b, b1, b2, a, b3, a3⟩
  have h1 := hR b a b3 b1
  exact bS_z h rfl a (by omega) ⟨b, b1, b2, b3⟩
theorem rPa_snoc {Q : Nat → Nat → Nat → Prop} {c : Nat} : ∀ {l : List Nat} {a b : Nat}, rPa Q (l ++ [c]) a b ↔ ∃ m, rPa Q l a m ∧ Q c m b
  | [], a, b => ⟨fun ⟨m, h1, h2⟩ => ⟨a, rfl, by cases h2; exact h1⟩, fun ⟨m, h1, h2⟩ => by cases h1; exact ⟨b, h2, rfl⟩⟩
  | d :: l, a, b => ⟨fun ⟨m, h1, h2⟩ => by
      obtain ⟨k, k1, k2⟩ := rPa_snoc.mp h2
      exact ⟨k, ⟨m, h1, k1⟩, k2⟩, fun ⟨k, ⟨m, h1, h2⟩, h3⟩ => ⟨m, h1, rPa_snoc.mpr ⟨k, h2, h3⟩⟩⟩
theorem rPa_app {Q : Nat → Nat → Nat → Prop} : ∀ {l l' : List Nat} {a b : Nat}, rPa Q (l ++ l') a b ↔ ∃ m, rPa Q l a m ∧ rPa Q l' m b
  | [], l', a, b => ⟨fun h => ⟨a, rfl, h⟩, fun ⟨m, h1, h2⟩ => by cases h1; exact h2⟩
  | d :: l, l', a, b => ⟨fun ⟨m, h1, h2⟩ => by
      obtain ⟨k, k1, k2⟩ := rPa_app.mp h2
      exact ⟨k, ⟨m, h1, k1⟩, k2⟩, fun ⟨k, ⟨m, h1, h2⟩, h3⟩ => ⟨m, h1, rPa_app.mpr ⟨k, h2, h3⟩⟩⟩
theorem rIt_snc {k a b : Nat} : rIt R (k + 1) a b ↔ ∃ m, rIt R k a m ∧ R m b := ⟨fun h => rIt_last h, fun ⟨m, h1, h2⟩ => rIt_snoc h1 h2⟩
/-- breadth first: what is reached in at most k steps, what of it is new -/
def bfs (R : Nat → Nat → Prop) (len : Nat) (x y f : Int64) (k : Nat) : Prop := bS y (rI (fun a j => ∃ m, m ≤ k ∧ rIt R m a j) len x) ∧ (∀ j, j < 64 → lb f j = true → lb y j = true) ∧ ∀ a j, a ≤ len → lb y a = true → ¬ lb f a = true → R a j → lb y j = true
theorem bfs_0 (hx : bL len x) : bfs R len x x x 0 := by
  refine ⟨fun j hj => ⟨fun h => ⟨j, hx j hj h, h, 0, Nat.le_refl _, rfl⟩, fun ⟨a, a1, a2, m, a3, a4⟩ => ?_⟩, fun j _ h => h, fun a j _ h1 h2 _ => absurd h1 h2⟩
  have hm : m = 0 := by omega
  subst hm
  cases a4
  exact a2
theorem bfs_s {f g : Int64} {k : Nat} (hl : len ≤ 40) (hR : ∀ a b, R a b → a ≤ len → a ≤ b ∧ b ≤ len) (h : bfs R len x y f k) (hg : bS g (rI R len f)) : bfs R len x (y ||| (g &&& (y ^^^ (-1)))) (g &&& (y ^^^ (-1))) (k + 1) := by
  obtain ⟨h1, h2, h3⟩ := h
  have hRk : ∀ {m a b : Nat}, rIt R m a b → a ≤ len → a ≤ b ∧ b ≤ len := fun z => rIt_le hR z
  have hf : ∀ j, j < 64 → (lb (g &&& (y ^^^ (-1))) j = true ↔ rI R len f j ∧ ¬ lb y j = true) := bS_and hg (bS_no (bS_s y))
  have hy : ∀ j, j < 64 → (lb (y ||| (g &&& (y ^^^ (-1)))) j = true ↔ lb y j = true ∨ rI R len f j) := fun j hj => by
    rw [lb_or, Bool.or_eq_true, hf j hj]
    constructor
    · rintro (z | z)
      · exact Or.inl z
      · exact Or.inr z.1
    · rintro (z | z)
      · exact Or.inl z
      · by_cases w : lb y j = true
        · exact Or.inl w
        · exact Or.inr ⟨z, w⟩
  refine ⟨fun j hj => ?_, fun j hj z => (hy j hj).mpr (Or.inr ((hf j hj).mp z).1), fun a j ha z1 z2 z3 => ?_⟩
  · rw [hy j hj]
    constructor
    · rintro (z | ⟨b, b1, b2, b3⟩)
      · obtain ⟨a, a1, a2, m, a3, a4⟩ := (h1 j hj).mp z
        exact ⟨a, a1, a2, m, by omega, a4⟩
      · obtain ⟨a, a1, a2, m, a3, a4⟩ := (h1 b (by omega)).mp (h2 b (by omega) b2)
        exact ⟨a, a1, a2, m + 1, by omega, rIt_snoc a4 b3⟩
    · rintro ⟨a, a1, a2, m, a3, a4⟩
      by_cases hm : m ≤ k
      · exact Or.inl ((h1 j hj).mpr ⟨a, a1, a2, m, hm, a4⟩)
      · have hm' : m = k + 1 := by omega
        subst hm'
        obtain ⟨b, b1, b2⟩ := rIt_last a4
        have hb := hRk b1 a1
        have hby : lb y b = true := (h1 b (by omega)).mpr ⟨a, a1, a2, k, Nat.le_refl _, b1⟩
        by_cases w : lb f b = true
        · exact Or.inr ⟨b, hb.2, w, b2⟩
        · exact Or.inl (h3 b j hb.2 hby w b2)
  · have hj := hR a j z3 ha
    rw [hy j (by omega)]
    have z1' := (hy a (by omega)).mp z1
    have hay : lb y a = true := by
      rcases z1' with q | q
      · exact q
      · exact Classical.byContradiction fun w => z2 ((hf a (by omega)).mpr ⟨q, w⟩)
    by_cases w : lb f a = true
    · exact Or.inr ⟨a, ha, w, z3⟩
    · exact Or.inl (h3 a j ha hay w z3)
theorem bfs_e {f : Int64} {k t : Nat} (hl : len ≤ 40) (hR : ∀ a b, R a b → a ≤ len → a ≤ b ∧ b ≤ len) (h : bfs R len x y f k) (hf : f = 0) (hk : k ≤ t) : bS y (rI (fun a j => ∃ m, m ≤ t ∧ rIt R m a j) len x) := by
  obtain ⟨h1, h2, h3⟩ := h
  have hcl : ∀ m a j, a ≤ len → lb y a = true → rIt R m a j → lb y j = true := by
    intro m
    induction m with
    | zero =>
      intro a j _ ha hz
      cases hz
      exact ha
    | succ m ih =>
      intro a j ha hy hz
      obtain ⟨b, b1, b2⟩ := hz
      have hb := hR a b b1 ha
      exact ih b j hb.2 (h3 a b ha hy (by rw [hf, lb_0]; decide) b1) b2
  refine fun j hj => ⟨fun z => ?_, fun ⟨a, a1, a2, m, a3, a4⟩ => ?_⟩
  · obtain ⟨a, a1, a2, m, a3, a4⟩ := (h1 j hj).mp z
    exact ⟨a, a1, a2, m, by omega, a4⟩
  · exact hcl m a j a1 ((h1 a (by omega)).mpr ⟨a, a1, a2, 0, Nat.zero_le _, rfl⟩) a4
/-- closures, one lowest place after the other -/
def bcl (R : Nat → Nat → Prop) (len : Nat) (x y f : Int64) (k : Nat) : Prop := (∀ j, j < 64 → lb f j = true → lb x j = true ∧ k ≤ j) ∧ (∀ j, j < 64 → lb x j = true → lb f j = true ∨ lb y j = true) ∧ (∀ a j, a ≤ len → lb y a = true → rSt R a j → lb y j = true) ∧ ∀ j, j < 64 → lb y j = true → rI (rSt R) len x j
theorem bcl_0 : bcl R len x 0 x 0 := ⟨fun j _ h => ⟨h, Nat.zero_le _⟩, fun j _ h => Or.inl h, fun a j _ h => absurd h (by rw [lb_0]; decide), fun j _ h => absurd h (by rw [lb_0]; decide)⟩
theorem bcl_s {f : Int64} {k p : Nat} {cl : Int64} (hl : len ≤ 40) (hR : ∀ a b, R a b → a ≤ len → a ≤ b ∧ b ≤ len) (h : bcl R len x y f k) (hp : p ≤ len) (h1 : lb f p = true) (h2 : ∀ j, j < p → lb f j = false) (hc : bS cl (fun j => rSt R p j)) : bcl R len x (y ||| cl) (f &&& ((y ||| cl) ^^^ (-1))) (k + 1) := by
  obtain ⟨g1, g2, g3, g4⟩ := h
  have hy : ∀ j, j < 64 → (lb (y ||| cl) j = true ↔ lb y j = true ∨ rSt R p j) := fun j hj => by rw [lb_or, Bool.or_eq_true, hc j hj]
  have hf : ∀ j, j < 64 → (lb (f &&& ((y ||| cl) ^^^ (-1))) j = true ↔ lb f j = true ∧ ¬ lb (y ||| cl) j = true) := bS_and (bS_s f) (bS_no (bS_s _))
  have hlt : ∀ {a j : Nat}, a ≤ len → rSt R a j → j < 64 := fun ha z => by
    have := rSt_le hR z ha
    omega
  refine ⟨fun j hj z => ?_, fun j hj z => ?_, fun a j ha z1 z2 => ?_, fun j hj z => ?_⟩
  · obtain ⟨z1, z2⟩ := (hf j hj).mp z
    obtain ⟨e1, e2⟩ := g1 j hj z1
    refine ⟨e1, Classical.byContradiction fun w => z2 ((hy j hj).mpr (Or.inr ?_))⟩
    have hk : k ≤ p := (g1 p (by omega) h1).2
    have hpj : p = j := by
      by_cases q : j < p
      · rw [h2 j q] at z1
        cases z1
      · omega
    rw [hpj]
    exact rSt_r j
  · by_cases w : lb (y ||| cl) j = true
    · exact Or.inr w
    · refine Or.inl ((hf j hj).mpr ⟨?_, w⟩)
      rcases g2 j hj z with q | q
      · exact q
      · exact absurd ((hy j hj).mpr (Or.inl q)) w
  · have hj := hlt ha z2
    rw [hy j hj]
    rcases (hy a (by omega)).mp z1 with q | q
    · exact Or.inl (g3 a j ha q z2)
    · exact Or.inr (rSt_t q z2)
  · rcases (hy j hj).mp z with q | q
    · exact g4 j hj q
    · exact ⟨p, hp, (g1 p (by omega) h1).1, q⟩
theorem bcl_e {f : Int64} {k : Nat} (hl : len ≤ 40) (hR : ∀ a b, R a b → a ≤ len → a ≤ b ∧ b ≤ len) (hx : bL len x) (h : bcl R len x y f k) (hf : f = 0) : bS y (rI (rSt R) len x) := by
  obtain ⟨g1, g2, g3, g4⟩ := h
  refine fun j hj => ⟨g4 j hj, fun ⟨a, a1, a2, a3⟩ => ?_⟩
  rcases g2 a (by omega) a2 with q | q
  · rw [hf, lb_0] at q
    cases q
  · exact g3 a j a1 q a3
theorem bcl_f {f : Int64} (hl : len ≤ 40) (hx : bL len x) (h : bcl R len x y f 41) : f = 0 := lb_eq0.mpr fun j hj => by
  cases hb : lb f j with
  | false => rfl
  | true =>
    obtain ⟨e1, e2⟩ := h.1 j hj hb
    have := hx j hj e1
    omega
theorem lb_low {f : Int64} (h : ¬ f = 0) : ∃ p, p < 64 ∧ lb f p = true ∧ ∀ j, j < p → lb f j = false := by
  have hex : ∃ j, lb f j = true := Classical.byContradiction fun q => h (lb_eq0.mpr fun j _ => by
    cases hb : lb f j with
    | false => rfl
    | true => exact absurd ⟨j, hb⟩ q)
  obtain ⟨j, hj⟩ := hex
  induction j using Nat.strongRecOn with
  | ind j ih =>
    by_cases w : ∃ i, i < j ∧ lb f i = true
    · obtain ⟨i, i1, i2⟩ := w
      exact ih i i1 i2
    · refine ⟨j, Classical.byContradiction fun q => ?_, hj, fun i hi => ?_⟩
      · rw [lb_big (by omega)] at hj
        cases hj
      · cases hb : lb f i with
        | false => rfl
        | true => exact absurd ⟨i, hi, hb⟩ w
/-- a place's closure by its steps' closures -/
theorem bcl_p {k : Nat} {own g c : Int64} (hl : len ≤ 40) (hR : ∀ a b, R a b → a ≤ len → a ≤ b ∧ b ≤ len) (hk : k ≤ len) (ho : bS own (fun j => j = k)) (hg : bS g (rI R len own)) (hc : bS c (rI (rSt R) len (g &&& (own ^^^ (-1))))) : bS (own ||| c) (fun j => rSt R k j) := by
  have hb : bS (g &&& (own ^^^ (-1))) (fun j => R k j ∧ ¬ j = k) := bS_cg (bS_and hg (bS_no ho)) (fun j hj => by
    constructor
    · rintro ⟨⟨a, a1, a2, a3⟩, z⟩
      have := (ho a (by omega)).mp a2
      rw [this] at a3
      exact ⟨a3, z⟩
    · rintro ⟨z1, z2⟩
      exact ⟨⟨k, hk, (ho k (by omega)).mpr rfl, z1⟩, z2⟩)
  refine bS_cg (bS_or ho hc) (fun j hj => ?_)
  rw [rSt_step]
  constructor
  · rintro (z | ⟨a, a1, a2, a3⟩)
    · exact Or.inl z.symm
    · obtain ⟨b1, b2⟩ := (hb a (by omega)).mp a2
      exact Or.inr ⟨a, b1, b2, a3⟩
  · rintro (z | ⟨m, m1, m2, m3⟩)
    · exact Or.inl z.symm
    · have := hR k m m1 hk
      exact Or.inr ⟨m, this.2, (hb m (by omega)).mpr ⟨m1, m2⟩, m3⟩
end rIm

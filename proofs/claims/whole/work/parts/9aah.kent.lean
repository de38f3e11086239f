/-! The parts of the class while a line is searched: their places and closures -/
def mUp (μ : Nat → xMu) (i : Nat) (v : xMu) : Nat → xMu := fun j => if j = i then v else μ j
theorem mUp_s {μ : Nat → xMu} {i : Nat} {v : xMu} : mUp μ i v i = v := if_pos rfl
theorem mUp_n {μ : Nat → xMu} {i j : Nat} {v : xMu} (h : j ≠ i) : mUp μ i v j = μ j := if_neg h
section kE
variable {M M' : xM} {ow rk ad : Nat → Nat} {T X : Nat} {ℓ : xLk} {μ : xMu} {q : xNode}
/-- one cell of a node has changed: what else the node holds -/
theorem cV_X {wv : Value} {w : Option (List (List Int32))} (h : cV M ow wv w) (hm : M.1 ≤ M'.1) {Z : Nat} (hZ : ow Z ≠ 1) (hf : ∀ y, y ≠ Z → M'.2 y = M.2 y) : cV M' ow wv w := cV_fr h hm (fun _ _ => rfl) (fun y _ z => hf y (fun e => hZ (by rw [← e]; exact z)))
theorem cNd_X {T' nd : Nat} {z : xNl} (h : cNd M ow rk ad T' nd z) (hm : M.1 ≤ M'.1) {Z : Nat} (hZ : ow Z ≠ 1) (h1 : rk (ow Z) ≠ T') (h2 : rk (ow Z) ≠ T' + 1) (hf : ∀ y, y ≠ Z → M'.2 y = M.2 y) : cNd M' ow rk ad T' nd z := cNd_fr h hm (fun _ _ => rfl) (fun _ _ z => z) (fun _ _ z => z) (fun y _ z => hf y (fun e => by
  rw [e] at z
  rcases z with z | z | z
  · exact h1 z
  · exact h2 z
  · exact hZ z)) (fun _ _ => rfl)
theorem cN_m1 {z1 z2 p0 p1 : Int64} {w0 : Value} (hxn : xn = 16) (h : cN M ow rk ad T X ℓ μ q) (hq : q.1 = 1) (hm : M.1 ≤ M'.1) (hf : ∀ y, y ≠ X → M'.2 y = M.2 y) (h0 : M.2 X = .inr (10, [.long z1, .long z2, .long p0, w0])) (h1 : M'.2 X = .inr (10, [.long z1, .long z2, .long p1, w0])) : cN M' ow rk ad T X ℓ (p1, μ.2) q := by
  obtain ⟨wv, hv, ⟨g1, g2, g3, g4⟩, k1, k2, k4, k5, k6⟩ := h
  have hX1 : ow X ≠ 1 := by rw [g3]; omega
  obtain ⟨y, e1, e2⟩ := k1 hq
  clear k1 k2 k4 k5 k6
  rw [h0] at e1
  cases e1
  exact ⟨w0, cV_X hv hm hX1 hf, ⟨g1, by omega, g3, g4⟩, fun _ => ⟨y, h1, e2⟩, fun z => by omega, fun z => by omega, fun z => by omega, fun z => by omega⟩
theorem cN_m2 {x0 : Int32} {p0 p1 : Int64} {w0 : Value} (hxn : xn = 16) (h : cN M ow rk ad T X ℓ μ q) (hq : q.1 = 2 ∨ q.1 = 3) (hm : M.1 ≤ M'.1) (hf : ∀ y, y ≠ X → M'.2 y = M.2 y) (h0 : M.2 X = .inr (11, [.int x0, .long p0, w0])) (h1 : M'.2 X = .inr (11, [.int x0, .long p1, w0])) : cN M' ow rk ad T X ℓ (p1, μ.2) q := by
  obtain ⟨wv, hv, ⟨g1, g2, g3, g4⟩, k1, k2, k4, k5, k6⟩ := h
  have hX1 : ow X ≠ 1 := by rw [g3]; omega
  have e1 := k2 hq
  clear k1 k2 k4 k5 k6
  rw [h0] at e1
  cases e1
  exact ⟨w0, cV_X hv hm hX1 hf, ⟨g1, by omega, g3, g4⟩, fun z => by omega, fun _ => h1, fun z => by omega, fun z => by omega, fun z => by omega⟩
theorem cN_m4 {a0 n0 : Nat} {l0 m0 c0 c1 e0 e1 : Int32} {v0 w0 : Value} (hxn : xn = 16) (h : cN M ow rk ad T X ℓ μ q) (hq : q.1 = 4) (hm : M.1 ≤ M'.1) (hf : ∀ y, y ≠ X → M'.2 y = M.2 y) (h0 : M.2 X = .inr (9, [.ref a0, .int l0, .int m0, .ref n0, v0, .int c0, .int e0, w0])) (h1 : M'.2 X = .inr (9, [.ref a0, .int l0, .int m0, .ref n0, v0, .int c1, .int e1, w0])) : cN M' ow rk ad T X ℓ (μ.1, c1, e1, μ.2.2.2) q := by
  obtain ⟨wv, hv, ⟨g1, g2, g3, g4⟩, k1, k2, k4, k5, k6⟩ := h
  have hX1 : ow X ≠ 1 := by rw [g3]; omega
  obtain ⟨e, nd, cv, f1, f2, f3, f4⟩ := k4 hq
  clear k1 k2 k4 k5 k6
  have hXX := h0
  rw [h0] at f2
  cases f2
  refine ⟨w0, cV_X hv hm hX1 hf, ⟨g1, by omega, g3, g4⟩, fun z => by omega, fun z => by omega, fun _ => ⟨e, n0, v0, f1, h1, cNd_X f3 hm hX1 (by rw [g3, g4]; omega) (by rw [g3, g4]; omega) hf, ?_⟩, fun z => by omega, fun z => by omega⟩
  rcases f4 with ⟨r1, cl, r2, ⟨r3, r4, r5⟩, r6⟩ | r1
  · exact Or.inl ⟨r1, cl, r2, ⟨r3, Nat.lt_of_lt_of_le r4 hm, r5⟩, (hf cl (xne_io hXX r6).symm).trans r6⟩
  · exact Or.inr r1
theorem cN_mc {cl : Nat} {f f' : Nat → Int64} (hxn : xn = 16) (h : cN M ow rk ad T X ℓ μ q) (hq : q.1 = 4) (hm : M.1 ≤ M'.1) (hf : ∀ y, y ≠ cl → M'.2 y = M.2 y) (hcl : ∃ (a0 n0 : Nat) (l0 m0 c0 e0 : Int32) (w0 : Value), M.2 X = .inr (9, [.ref a0, .int l0, .int m0, .ref n0, .ref cl, .int c0, .int e0, w0])) (h0 : M.2 cl = .inl (3, 41, .inr (.inl f))) (h1 : M'.2 cl = .inl (3, 41, .inr (.inl f'))) : cN M' ow rk ad T X ℓ (μ.1, μ.2.1, μ.2.2.1, f') q := by
  obtain ⟨wv, hv, ⟨g1, g2, g3, g4⟩, k1, k2, k4, k5, k6⟩ := h
  obtain ⟨a0, n0, l0, m0, c0, e0, w0, hX0⟩ := hcl
  obtain ⟨e, nd, cv, f1, f2, f3, f4⟩ := k4 hq
  clear k1 k2 k4 k5 k6
  have hXX := hX0
  rw [hX0] at f2
  cases f2
  rcases f4 with ⟨r1, cl', r2, ⟨r3, r4, r5⟩, r6⟩ | ⟨-, r1⟩
  · cases r2
    have hX1 : ow cl ≠ 1 := by rw [r5]; omega
    exact ⟨wv, cV_X hv hm hX1 hf, ⟨g1, Nat.lt_of_lt_of_le g2 hm, g3, g4⟩, fun z => by omega, fun z => by omega, fun _ => ⟨e, n0, .ref cl, f1, (hf X (xne_io hXX r6)).trans hXX, cNd_X f3 hm hX1 (by rw [r5, g4]; omega) (by rw [r5, g4]; omega) hf, Or.inl ⟨r1, cl, rfl, ⟨r3, Nat.lt_of_lt_of_le r4 hm, r5⟩, h1⟩⟩, fun z => by omega, fun z => by omega⟩
  · cases r1
end kE
/-- the parts of the reader in the cells from r0 to r1 -/
def kS (r0 r1 : Nat) (ow rk ad : Nat → Nat) (A : List xNode) (M : xM) (μ : Nat → xMu) : Prop := (52 ≤ r0 ∧ r1 ≤ M.1) ∧ (∀ y, y < r0 → ow y = 0) ∧ rk 1 = 1 ∧ cA (r1, M.2) ow rk ad (sLr A) μ A
def kF (r0 r1 : Nat) (M M' : xM) : Prop := M'.1 = M.1 ∧ ∀ y, y < r0 ∨ r1 ≤ y → M'.2 y = M.2 y
theorem kF_r {r0 r1 : Nat} {M : xM} : kF r0 r1 M M := ⟨rfl, fun _ _ => rfl⟩
theorem kF_t {r0 r1 : Nat} {M M' M'' : xM} (h : kF r0 r1 M M') (h2 : kF r0 r1 M' M'') : kF r0 r1 M M'' := ⟨h2.1.trans h.1, fun y z => (h2.2 y z).trans (h.2 y z)⟩
/-- the same, and no cell of a later part has changed -/
def kG (r0 r1 : Nat) (ow rk : Nat → Nat) (i : Nat) (M M' : xM) : Prop := kF r0 r1 M M' ∧ ∀ y, 3 * i + 103 ≤ rk (ow y) → M'.2 y = M.2 y
theorem kG_r {r0 r1 : Nat} {ow rk : Nat → Nat} {i : Nat} {M : xM} : kG r0 r1 ow rk i M M := ⟨kF_r, fun _ _ => rfl⟩
theorem kG_t {r0 r1 : Nat} {ow rk : Nat → Nat} {i : Nat} {M M' M'' : xM} (h : kG r0 r1 ow rk i M M') (h2 : kG r0 r1 ow rk i M' M'') : kG r0 r1 ow rk i M M'' := ⟨kF_t h.1 h2.1, fun y z => (h2.2 y z).trans (h.2 y z)⟩
theorem kG_le {r0 r1 : Nat} {ow rk : Nat → Nat} {i c : Nat} {M M' : xM} (hc : c ≤ i) (h : kG r0 r1 ow rk c M M') : kG r0 r1 ow rk i M M' := ⟨h.1, fun y z => h.2 y (by omega)⟩
theorem kG_of {r0 r1 : Nat} {ow rk : Nat → Nat} {i Z : Nat} {M M' : xM} (h : kF r0 r1 M M') (hf : ∀ y, y ≠ Z → M'.2 y = M.2 y) (hZ : rk (ow Z) = 3 * i + 100) : kG r0 r1 ow rk i M M' := ⟨h, fun y z => hf y (fun e => by rw [e, hZ] at z; omega)⟩
/-- where a node stands -/
theorem kS_at {r0 r1 : Nat} {ow rk ad : Nat → Nat} {A : List xNode} {M : xM} {μ : Nat → xMu} (hxn : xn = 16) (h : kS r0 r1 ow rk ad A M μ) {i : Nat} {q : xNode} (hq : A[i]? = some q) : r0 ≤ ad i ∧ ad i < r1 ∧ r1 ≤ M.1 ∧ 52 ≤ ad i := by
  obtain ⟨wv, -, ⟨g1, g2, g3, g4⟩, -⟩ := h.2.2.2 i q hq
  have g2' : ad i < r1 := g2
  have hr : r0 ≤ ad i := Classical.byContradiction fun z => by
    have := h.2.1 (ad i) (by omega)
    omega
  have := h.1
  exact ⟨hr, g2', h.1.2, by omega⟩
theorem kS_up {r0 r1 : Nat} {ow rk ad : Nat → Nat} {A : List xNode} {M M' : xM} {μ : Nat → xMu} (h : kS r0 r1 ow rk ad A M μ) {i : Nat} {v : xMu} (hm : M'.1 = M.1) {Z : Nat} (hZ : r0 ≤ Z ∧ Z < r1 ∧ rk (ow Z) = 3 * i + 100) (hf : ∀ y, y ≠ Z → M'.2 y = M.2 y) (hi : ∀ p, A[i]? = some p → cN (r1, M'.2) ow rk ad (3 * i + 100) (ad i) (sLr A i) v p) : kS r0 r1 ow rk ad A M' (mUp μ i v) ∧ kF r0 r1 M M' := by
  refine ⟨⟨⟨h.1.1, by rw [hm]; exact h.1.2⟩, h.2.1, h.2.2.1, ?_⟩, hm, fun y z => hf y (by omega)⟩
  intro j p hp
  by_cases e : j = i
  · subst e
    rw [mUp_s]
    exact hi p hp
  · rw [mUp_n e]
    refine cN_fr (h.2.2.2 j p hp) (Nat.le_refl _) (fun _ _ => rfl) (fun _ _ _ _ z => z) (fun y hy z => hf y (fun e2 => ?_)) (fun _ _ => rfl) (fun _ _ => rfl)
    rw [e2] at z
    rcases z with z | z
    · omega
    · have := hZ.2.2
      rw [z, h.2.2.1] at this
      omega
/-- a part that has entered the line -/
def eN (len : Nat) (ln : Nat → Nat) (A : List xNode) (μ : xMu) (q : xNode) : Prop := (q.1 = 1 → bS μ.1 (fun j => j < len ∧ q.2.2.2.2.2 (ln j) = true)) ∧ (q.1 = 2 → bS μ.1 (fun j => j = 0)) ∧ (q.1 = 3 → bS μ.1 (fun j => j = len)) ∧ (q.1 = 4 → μ.2.2.1 = nI len ∧ (μ.2.1 = 0 ∨ (μ.2.1 = 1 ∧ ∀ p, p ≤ len → bS (μ.2.2.2 p) (fun j => rSt (rY len ln A (q.2.2.1.headD 0)) p j))))
theorem eN_mu {len : Nat} {ln : Nat → Nat} {A : List xNode} {μ : Nat → xMu} {i c : Nat} {v : xMu} {p : xNode} (h : eN len ln A (μ c) p) (hv : c = i → eN len ln A v p) : eN len ln A (mUp μ i v c) p := by
  by_cases e : c = i
  · rw [e, mUp_s]
    exact hv e
  · rw [mUp_n e]
    exact h
/-- what entering the parts from l to i leaves -/
def kEn (len : Nat) (ln : Nat → Nat) (A : List xNode) (μ μ' : Nat → xMu) (l i : Nat) : Prop := ∀ (c : Nat) (p : xNode), A[c]? = some p → (eN len ln A (μ c) p ∨ (l ≤ c ∧ c < i)) → eN len ln A (μ' c) p
theorem kEn_t {len : Nat} {ln : Nat → Nat} {A : List xNode} {μ μ' μ'' : Nat → xMu} {l i k : Nat} (h : kEn len ln A μ μ' l i) (h2 : kEn len ln A μ' μ'' i k) : kEn len ln A μ μ'' l k := fun c p hp z => by
  refine h2 c p hp ?_
  by_cases hi : i ≤ c
  · rcases z with z | z
    · exact Or.inl (h c p hp (Or.inl z))
    · exact Or.inr ⟨hi, z.2⟩
  · rcases z with z | z
    · exact Or.inl (h c p hp (Or.inl z))
    · exact Or.inl (h c p hp (Or.inr ⟨z.1, by omega⟩))
theorem kEn_r {len : Nat} {ln : Nat → Nat} {A : List xNode} {μ : Nat → xMu} {l : Nat} : kEn len ln A μ μ l l := fun c p hp z => z.elim id (fun z => by omega)

/-! The state of the class's reader against the pure machine -/
def cRo (pl gs W : Nat) (x : Int32) (a og : Nat) : xE := .inr (4, [.ref W, .int x, .ref 18, .int (nI pl), .int (nI a), .ref gs, .int (nI og)])
def cH (R : Nat) (M0 : xM) (pl gs : Nat) (fg : Nat → Option Nat) (ow rk ad gA bA : Nat → Nat) (μ : Nat → xMu) (M : xM) (σ : xSg) : Prop :=
  (52 ≤ M0.1 ∧ M0.1 ≤ M.1 ∧ ∀ j, j < M0.1 → M.2 j = M0.2 j) ∧ (M0.1 ≤ R ∧ R < M.1 ∧ M0.1 ≤ gs ∧ gs < M.1 ∧ ow R = 0 ∧ ow gs = 0) ∧ ((∀ x, x < M0.1 → ow x = 0) ∧ rk 0 = 0 ∧ rk 1 = 1) ∧ M.2 R = cRo pl gs (gA 0) σ.2.1 σ.1 (σ.2.2.2.length - 1) ∧ M.2 gs = .inl (6, 7, .inr (.inr (.inr (.inr fg)))) ∧ (∀ e, e < σ.2.2.2.length → fg e = some (gA e)) ∧ (∀ e v, plv σ e = some v → cL M ow rk ad e (gA e) (bA e) v) ∧ ∀ i q, σ.2.2.1[i]? = some q → cN M ow rk ad (3 * i + 100) (ad i) lk0 (μ i) q
/-- what is left of a state with a fault -/
def cF (R : Nat) (M0 : xM) (pl : Nat) (M : xM) (x : Int32) : Prop := (52 ≤ M0.1 ∧ M0.1 ≤ M.1 ∧ ∀ j, j < M0.1 → M.2 j = M0.2 j) ∧ (M0.1 ≤ R ∧ R < M.1) ∧ ∃ gs W a og, M.2 R = cRo pl gs W x a og ∧ a ≤ 1000
def cHe (R : Nat) (M0 : xM) (pl : Nat) (M : xM) (σ : xSg) : Prop := ∃ (gs : Nat) (fg : Nat → Option Nat) (ow rk ad gA bA : Nat → Nat) (μ : Nat → xMu), cH R M0 pl gs fg ow rk ad gA bA μ M σ
def cK (R : Nat) (M0 : xM) (pl : Nat) (M : xM) (σ : xSg) : Prop := cHe R M0 pl M σ ∧ ∃ lo, pZ lo σ
def cX (R : Nat) (M0 : xM) (pl : Nat) (M : xM) (σ : xSg) : Prop := (σ.2.1 = 0 → cK R M0 pl M σ) ∧ (¬ σ.2.1 = 0 → cF R M0 pl M σ.2.1)
def muUp (μ : Nat → xMu) (k : Nat) (v : xMu) : Nat → xMu := fun i => if i = k then v else μ i
section cSt
variable {R : Nat} {M0 M M' : xM} {pl gs : Nat} {fg fg' : Nat → Option Nat} {ow ow' rk rk' ad ad' gA bA : Nat → Nat} {μ : Nat → xMu} {a a' : Nat} {x x' : Int32} {A : List xNode} {t : List Nat × List Nat} {r : List (List Nat × List Nat)} {q : xNode}
theorem xsnoc_at {A : List xNode} {q p : xNode} {i : Nat} (h : (A ++ [q])[i]? = some p) : (i < A.length ∧ A[i]? = some p) ∨ (i = A.length ∧ p = q) := by
  by_cases hi : i < A.length
  · rw [List.getElem?_append_left hi] at h
    exact Or.inl ⟨hi, h⟩
  · have hh := (List.getElem?_eq_some_iff.mp h).1
    rw [List.length_append, List.length_singleton] at hh
    have hi8 : i = A.length := by omega
    rw [hi8, List.getElem?_append_right (Nat.le_refl _), Nat.sub_self] at h
    exact Or.inr ⟨hi8, (Option.some.inj h).symm⟩
theorem cA_snoc {X : Nat} {μx : xMu} (h : ∀ (i : Nat) (p : xNode), A[i]? = some p → cN M ow rk ad (3 * i + 100) (ad i) lk0 (μ i) p) (hX : cN M ow rk ad (3 * A.length + 100) X lk0 μx q) (hch : ∀ (i : Nat) (p : xNode), A[i]? = some p → ∀ c ∈ p.2.2.1, c < A.length) (hq : ∀ c ∈ q.2.2.1, c < A.length) : ∀ (i : Nat) (p : xNode), (A ++ [q])[i]? = some p → cN M ow rk (pUp ad A.length X) (3 * i + 100) (pUp ad A.length X i) lk0 (muUp μ A.length μx i) p := by
  intro i p hp
  have hz : ∀ c ∈ lk0.2.2.1, pUp ad A.length X c = ad c := fun c hc => absurd hc (by simp [lk0])
  rcases xsnoc_at hp with ⟨h1, h2⟩ | ⟨h1, h2⟩
  · rw [show pUp ad A.length X i = ad i from pUp_n (by omega), show muUp μ A.length μx i = μ i from if_neg (by omega)]
    exact cN_fr (h i p h2) (Nat.le_refl _) (fun _ _ => rfl) (fun _ _ _ _ z => z) (fun _ _ _ => rfl) (fun c hc => pUp_n (by have := hch i p h2 c hc; omega)) hz
  · rw [h1, h2, pUp_s, show muUp μ A.length μx A.length = μx from if_pos rfl]
    exact cN_fr hX (Nat.le_refl _) (fun _ _ => rfl) (fun _ _ _ _ z => z) (fun _ _ _ => rfl) (fun c hc => pUp_n (by have := hq c hc; omega)) hz
theorem cN_mv {T X : Nat} {ℓ : xLk} {μx : xMu} (h : cN M ow rk ad T X ℓ μx q) (hm : M.1 ≤ M'.1) (ho : ∀ y, y < M.1 → ow' y = ow y) (hk : ∀ y, y < M.1 → T ≤ rk y → rk y < T + 3 → rk' y = rk y) (hf : ∀ y, y < M.1 → (T ≤ rk (ow y) ∧ rk (ow y) < T + 3) ∨ ow y = 1 → M'.2 y = M.2 y) : cN M' ow' rk' ad T X ℓ μx q := cN_fr h hm ho (fun y k hy hk3 z => (hk y hy (by omega) (by omega)).trans z) hf (fun _ _ => rfl) (fun _ _ => rfl)
/-- new cells beside all that is there -/
theorem cH_grow {σ : xSg} (h : cH R M0 pl gs fg ow rk ad gA bA μ M σ) (hm : M.1 ≤ M'.1) (ho : ∀ y, y < M.1 → ow' y = ow y) (hk : ∀ y, y < M.1 → rk' y = rk y) (hf : ∀ y, y < M.1 → M'.2 y = M.2 y) : cH R M0 pl gs fg ow' rk' ad gA bA μ M' σ := by
  obtain ⟨⟨i1, i2, i3⟩, ⟨r1, r2, r3, r4, r5, r6⟩, ⟨o1, o2, o3⟩, kR, kg, kf, kL, kN⟩ := h
  exact ⟨⟨i1, by omega, fun j hj => (hf j (by omega)).trans (i3 j hj)⟩, ⟨r1, by omega, r3, by omega, (ho R r2).trans r5, (ho gs r4).trans r6⟩, ⟨fun y hy => (ho y (by omega)).trans (o1 y hy), (hk 0 (by omega)).trans o2, (hk 1 (by omega)).trans o3⟩, (hf R r2).trans kR, (hf gs r4).trans kg, kf, fun e v hv => cL_fr (kL e v hv) hm ho (fun y hy _ _ => hk y hy) (fun y hy _ => hf y hy) (fun _ _ => rfl) (fun _ _ => rfl), fun i p hp => cN_mv (kN i p hp) hm ho (fun y hy _ _ => hk y hy) (fun y hy _ => hf y hy)⟩
/-- the reader's place alone -/
theorem cH_at {L : List (List Nat × List Nat)} (h : cH R M0 pl gs fg ow rk ad gA bA μ M (a, x, A, L)) (hm : M'.1 = M.1) (hR : M'.2 R = cRo pl gs (gA 0) x' a' (L.length - 1)) (hf : ∀ y, y ≠ R → M'.2 y = M.2 y) : cH R M0 pl gs fg ow rk ad gA bA μ M' (a', x', A, L) := by
  obtain ⟨⟨i1, i2, i3⟩, ⟨r1, r2, r3, r4, r5, r6⟩, ⟨o1, o2, o3⟩, kR, kg, kf, kL, kN⟩ := h
  have f2 : ∀ y T, T ≠ 0 → rk (ow y) = T ∨ ow y = 1 → M'.2 y = M.2 y := fun y T hT z => hf y (fun e => by
    rw [e, r5] at z
    rcases z with z | z
    · rw [o2] at z
      exact hT z.symm
    · cases z)
  exact ⟨⟨i1, by omega, fun j hj => (hf j (by omega)).trans (i3 j hj)⟩, ⟨r1, by omega, r3, by omega, r5, r6⟩, ⟨o1, o2, o3⟩, hR, (hf gs (xne_io kR kg).symm).trans kg, kf, fun e v hv => cL_fr (kL e v hv) (by omega) (fun _ _ => rfl) (fun y hy _ _ => rfl) (fun y hy z => f2 y (if ow y = 1 then 1 else rk (ow y)) (by split <;> omega) (by split <;> simp_all)) (fun _ _ => rfl) (fun _ _ => rfl), fun i p hp => cN_mv (kN i p hp) (by omega) (fun _ _ => rfl) (fun y hy _ _ => rfl) (fun y hy z => f2 y (if ow y = 1 then 1 else rk (ow y)) (by split <;> omega) (by split <;> simp_all))⟩
/-- the innermost list of parts gets another end -/
theorem cH_put {p nd X : Nat} {μx : xMu} {l' : List Nat} (h : cH R M0 pl gs fg ow rk ad gA bA μ M (a, x, A, t :: r)) (hp : M.2 (bA r.length) = .inr (6, [.ref p, .ref nd, .null])) (hX : cN M ow rk ad (3 * A.length + 100) X lk0 μx q) (hr : r.length ≤ 6) (hm : M.1 ≤ M'.1) (ho : ∀ y, y < M.1 → ow' y = ow y) (hf : ∀ y, y < M.1 → ¬ ow y = p → M'.2 y = M.2 y) (hl : xLs (fun y => ow' y = p) M' p (l'.map ad ++ [X])) (hlv : ∀ v ∈ t :: r, (∀ c ∈ v.1, c < A.length) ∧ ∀ c ∈ v.2, c < A.length) (hl' : ∀ c ∈ l', c < A.length) (hch : ∀ (i : Nat) (q : xNode), A[i]? = some q → ∀ c ∈ q.2.2.1, c < A.length) (hq : ∀ c ∈ q.2.2.1, c < A.length) : cH R M0 pl gs fg ow' rk (pUp ad A.length X) gA bA (muUp μ A.length μx) M' (a, x, A ++ [q], (t.1, l' ++ [A.length]) :: r) := by
  obtain ⟨⟨i1, i2, i3⟩, ⟨r1, r2, r3, r4, r5, r6⟩, ⟨o1, o2, o3⟩, kR, kg, kf, kL, kN⟩ := h
  obtain ⟨bl, p', nd', ⟨g1, g2, g3, g4⟩, k1, k2, ⟨b1, b2, b3, b4⟩, k3, k4, k5⟩ := kL r.length t plv_mine
  cases (hp.symm.trans k3)
  obtain ⟨⟨p1, p2, p3, p4⟩, p5⟩ := k4
  have hA' : ∀ c, c < A.length → pUp ad A.length X c = ad c := fun c hc => pUp_n (by omega)
  have hp0 : p ≠ 0 := fun z => by rw [z, o2] at p4; omega
  have hp1 : p ≠ 1 := fun z => by rw [z, o3] at p4; omega
  have ff : ∀ y, y < M.1 → rk (ow y) ≠ 4 * r.length + 11 → M'.2 y = M.2 y := fun y hy z => hf y hy (fun e => by rw [e] at z; exact z p4)
  have f1 : ∀ y, y < M.1 → ow y = 1 → M'.2 y = M.2 y := fun y hy z => hf y hy (by omega)
  refine ⟨⟨i1, by omega, fun j hj => (hf j (by omega) (by rw [o1 j hj]; omega)).trans (i3 j hj)⟩, ⟨r1, by omega, r3, by omega, (ho R r2).trans r5, (ho gs r4).trans r6⟩, ⟨fun y hy => (ho y (by omega)).trans (o1 y hy), o2, o3⟩, (hf R r2 (by rw [r5]; omega)).trans kR, (hf gs r4 (by rw [r6]; omega)).trans kg, kf, fun e v hv => ?_, ?_⟩
  · rcases plv_top (A := A) (t := t) hv with ⟨he, hv2⟩ | ⟨he, hv2⟩
    · rw [he, hv2]
      refine ⟨bl, p, nd, ⟨g1, by omega, (ho _ g2).trans g3, g4⟩, (ff _ g2 (by rw [g3]; omega)).trans k1, ?_, ⟨b1, by omega, (ho _ b2).trans b3, b4⟩, (hf _ b2 (fun z => by
        rw [b3] at z
        rw [z] at k3
        obtain ⟨e9, mo9, cap9, y1, -⟩ := p5
        rw [y1] at k3
        cases k3)).trans k3, ⟨⟨p1, by omega, (ho _ p2).trans p3, p4⟩, ?_⟩, cNd_fr k5 hm ho (fun y hy z => z) (fun y hy z => z) (fun y hy z => ?_) (fun c hc => absurd hc (by simp [lk0]))⟩
      · show cLi M' ow' rk _ bl (t.1.map (pUp ad A.length X) ++ [bA r.length])
        rw [xmap_ad (fun c hc => hA' c ((hlv t List.mem_cons_self).1 c hc))]
        exact cLi_fr k2 hm ho (fun y hy z => z) (fun y hy z => ff y hy (by omega))
      · show xLs _ M' p ((l' ++ [A.length]).map (pUp ad A.length X))
        rw [List.map_append, xmap_ad (fun c hc => hA' c (hl' c hc)), List.map_singleton, pUp_s]
        exact hl
      · rcases z with z | z | z
        · exact ff y hy (by omega)
        · exact ff y hy (by omega)
        · exact f1 y hy z
    · have hv9 : v ∈ t :: r := by
        unfold plv at hv2
        split at hv2
        · exact List.mem_of_getElem? hv2
        · cases hv2
      exact cL_fr (kL e v hv2) hm ho (fun y hy _ _ => rfl) (fun y hy z => by
        rcases z with z | z
        · exact ff y hy (by omega)
        · exact f1 y hy z) (fun c hc => hA' c ((hlv v hv9).1 c hc)) (fun c hc => hA' c ((hlv v hv9).2 c hc))
  · refine cA_snoc (fun i p hp => cN_mv (kN i p hp) hm ho (fun y hy _ _ => rfl) (fun y hy z => ?_)) (cN_mv hX hm ho (fun y hy _ _ => rfl) (fun y hy z => ?_)) hch hq
    · rcases z with z | z
      · exact ff y hy (by omega)
      · exact f1 y hy z
    · rcases z with z | z
      · exact ff y hy (by omega)
      · exact f1 y hy z
theorem plv_mem {σ : xSg} {e : Nat} {v : List Nat × List Nat} (h : plv σ e = some v) : v ∈ σ.2.2.2 := by
  unfold plv at h
  split at h
  · exact List.mem_of_getElem? h
  · cases h
theorem cL_node {e g b : Nat} {w : Int32} {N : Nat} {v : List Nat × List Nat} (h : cL M ow rk ad e g b v) (hk : ∀ y k, y < M.1 → k < 3 → rk y = 4 * e + 11 + k → rk' y = 3 * N + 100 + k) {μx : xMu} : cN M ow rk' ad (3 * N + 100) b lk0 μx (5, w, v.2, 0, 0, pNo) := by
  obtain ⟨bl, p, nd, ⟨g1, g2, g3, g4⟩, k1, k2, ⟨b1, b2, b3, b4⟩, k3, k4, k5⟩ := h
  exact ⟨.null, Or.inl ⟨rfl, rfl⟩, ⟨b1, b2, b3, hk b 0 b2 (by decide) b4⟩, fun z => absurd z (show ¬ (5 : Nat) = 1 by decide), fun z => absurd z (show ¬ ((5 : Nat) = 2 ∨ (5 : Nat) = 3) by decide), fun z => absurd z (show ¬ (5 : Nat) = 4 by decide), fun _ => ⟨p, nd, k3, cLi_fr k4 (Nat.le_refl _) (fun _ _ => rfl) (fun y hy z => hk y 0 hy (by decide) z) (fun _ _ _ => rfl), cNd_fr k5 (Nat.le_refl _) (fun _ _ => rfl) (fun y hy z => hk y 1 hy (by decide) z) (fun y hy z => hk y 2 hy (by decide) z) (fun _ _ _ => rfl) (fun _ _ => rfl)⟩, fun z => absurd z (show ¬ (5 : Nat) = 6 by decide)⟩
/-- the open branch is finished, another begun -/
theorem cH_bar {bl b' p' nd' : Nat} {w : Int32} {μx : xMu} (h : cH R M0 pl gs fg ow rk ad gA bA μ M (a, x, A, t :: r)) (hb : M.2 (gA r.length) = .inr (5, [.ref bl, .ref (bA r.length), .null])) (hr : r.length ≤ 6) (hm : M.1 ≤ M'.1) (ho : ∀ y, y < M.1 → ow' y = ow y) (hk : ∀ y, y < M.1 → rk' y = rtg (4 * r.length + 11) (3 * A.length + 100) (rk y)) (hf : ∀ y, y < M.1 → ¬ ow y = bl → y ≠ gA r.length → M'.2 y = M.2 y) (hg' : M'.2 (gA r.length) = .inr (5, [.ref bl, .ref b', .null])) (hl : xLs (fun y => ow' y = bl) M' bl (t.1.map ad ++ [bA r.length] ++ [b'])) (hb1 : xn ≤ b' ∧ b' < M'.1 ∧ ow' b' = b' ∧ rk' b' = 4 * r.length + 11) (hb2 : M'.2 b' = .inr (6, [.ref p', .ref nd', .null])) (hb3 : cLi M' ow' rk' (4 * r.length + 11) p' []) (hb4 : cNd M' ow' rk' ad (4 * r.length + 12) nd' lk0.2) (hlv : ∀ v ∈ t :: r, (∀ c ∈ v.1, c < A.length) ∧ ∀ c ∈ v.2, c < A.length) (hch : ∀ (i : Nat) (q : xNode), A[i]? = some q → ∀ c ∈ q.2.2.1, c < A.length) : cH R M0 pl gs fg ow' rk' (pUp ad A.length (bA r.length)) gA (pUp bA r.length b') (muUp μ A.length μx) M' (a, x, A ++ [(5, w, t.2, 0, 0, pNo)], (t.1 ++ [A.length], []) :: r) := by
  obtain ⟨⟨i1, i2, i3⟩, ⟨r1, r2, r3, r4, r5, r6⟩, ⟨o1, o2, o3⟩, kR, kg, kf, kL, kN⟩ := h
  have kLt := kL r.length t plv_mine
  obtain ⟨bl', p, nd, ⟨g1, g2, g3, g4⟩, k1, k2, ⟨b1, b2, b3, b4⟩, k3, k4, k5⟩ := id kLt
  cases (hb.symm.trans k1)
  obtain ⟨⟨p1, p2, p3, p4⟩, p5⟩ := k2
  have hA' : ∀ c, c < A.length → pUp ad A.length (bA r.length) c = ad c := fun c hc => pUp_n (by omega)
  have hA9 := r.length
  have hki : ∀ y k, y < M.1 → k < 3 → rk y = 4 * r.length + 11 + k → rk' y = 3 * A.length + 100 + k := fun y k hy hk3 z => (hk y hy).trans (rtg_i z hk3)
  have hko : ∀ y, y < M.1 → rk y < 4 * r.length + 11 ∨ 4 * r.length + 14 ≤ rk y → rk' y = rk y := fun y hy z => (hk y hy).trans (rtg_o (by omega))
  have hp0 : bl ≠ 0 := fun z => by rw [z, o2] at p4; omega
  have hp1 : bl ≠ 1 := fun z => by rw [z, o3] at p4; omega
  have hg0 : ∀ y, y < M.1 → rk (ow y) ≠ 4 * r.length + 10 → y ≠ gA r.length := fun y hy z e => by rw [e, g3] at z; exact z g4
  have ff : ∀ y, y < M.1 → rk (ow y) ≠ 4 * r.length + 10 → M'.2 y = M.2 y := fun y hy z => hf y hy (fun e => by rw [e] at z; exact z p4) (hg0 y hy z)
  have f1 : ∀ y, y < M.1 → ow y = 1 → M'.2 y = M.2 y := fun y hy z => ff y hy (by rw [z, o3]; omega)
  have f0 : ∀ y, y < M.1 → ow y = 0 → M'.2 y = M.2 y := fun y hy z => ff y hy (by rw [z, o2]; omega)
  refine ⟨⟨i1, by omega, fun j hj => (f0 j (by omega) (o1 j hj)).trans (i3 j hj)⟩, ⟨r1, by omega, r3, by omega, (ho R r2).trans r5, (ho gs r4).trans r6⟩, ⟨fun y hy => (ho y (by omega)).trans (o1 y hy), (hko 0 (by omega) (by omega)).trans o2, (hko 1 (by omega) (by omega)).trans o3⟩, (f0 R r2 r5).trans kR, (f0 gs r4 r6).trans kg, kf, fun e v hv => ?_, ?_⟩
  · rcases plv_top (A := A) (t := t) hv with ⟨he, hv2⟩ | ⟨he, hv2⟩
    · rw [he, hv2, show pUp bA r.length b' r.length = b' from pUp_s]
      refine ⟨bl, p', nd', ⟨g1, by omega, (ho _ g2).trans g3, (hko _ g2 (by omega)).trans g4⟩, hg', ⟨⟨p1, by omega, (ho _ p2).trans p3, (hko _ p2 (by omega)).trans p4⟩, ?_⟩, hb1, hb2, hb3, ?_⟩
      · show xLs _ M' bl ((t.1 ++ [A.length]).map (pUp ad A.length (bA r.length)) ++ [b'])
        rw [List.map_append, xmap_ad (fun c hc => hA' c ((hlv t List.mem_cons_self).1 c hc)), List.map_singleton, pUp_s]
        exact hl
      · exact cNd_fr hb4 (Nat.le_refl _) (fun _ _ => rfl) (fun _ _ z => z) (fun _ _ z => z) (fun _ _ _ => rfl) (fun c hc => absurd hc (by simp [lk0]))
    · have hv9 := plv_mem hv2
      rw [show pUp bA r.length b' e = bA e from pUp_n (by omega)]
      exact cL_fr (kL e v hv2) hm ho (fun y hy z1 z2 => hko y hy (by omega)) (fun y hy z => by
        rcases z with z | z
        · exact ff y hy (by omega)
        · exact f1 y hy z) (fun c hc => hA' c ((hlv v hv9).1 c hc)) (fun c hc => hA' c ((hlv v hv9).2 c hc))
  · refine cA_snoc (fun i p hp => cN_mv (kN i p hp) hm ho (fun y hy z1 z2 => hko y hy (by omega)) (fun y hy z => ?_)) ?_ hch (fun c hc => (hlv t List.mem_cons_self).2 c hc)
    · rcases z with z | z
      · exact ff y hy (by omega)
      · exact f1 y hy z
    · refine cN_mv (M := M) (ow := ow) (rk := fun y => rtg (4 * r.length + 11) (3 * A.length + 100) (rk y)) (cL_node kLt (fun y k hy hk3 z => rtg_i z hk3)) hm ho (fun y hy _ _ => hk y hy) (fun y hy z => ?_)
      rcases z with ⟨z1, z2⟩ | z
      · refine ff y hy (fun e => ?_)
        rw [e, rtg_o (by omega)] at z1
        omega
      · exact f1 y hy z
/-- a group is opened -/
theorem cH_push {g' b' : Nat} (h : cH R M0 pl gs fg ow rk ad gA bA μ M (a, x, A, t :: r)) (hm : M.1 ≤ M'.1) (ho : ∀ y, y < M.1 → ow' y = ow y) (hk : ∀ y, y < M.1 → rk' y = rk y) (hR : M'.2 R = cRo pl gs (gA 0) x a (r.length + 1)) (hgs : M'.2 gs = .inl (6, 7, .inr (.inr (.inr (.inr fg'))))) (hf1 : fg' (r.length + 1) = some g') (hf2 : ∀ e, e ≤ r.length → fg' e = fg e) (hf : ∀ y, y < M.1 → y ≠ R → y ≠ gs → M'.2 y = M.2 y) (hL : cL M' ow' rk' ad (r.length + 1) g' b' ([], [])) : cH R M0 pl gs fg' ow' rk' ad (pUp gA (r.length + 1) g') (pUp bA (r.length + 1) b') μ M' (a, x, A, ([], []) :: t :: r) := by
  obtain ⟨⟨i1, i2, i3⟩, ⟨r1, r2, r3, r4, r5, r6⟩, ⟨o1, o2, o3⟩, kR, kg, kf, kL, kN⟩ := h
  have ff : ∀ y, y < M.1 → rk (ow y) ≠ 0 → M'.2 y = M.2 y := fun y hy z => hf y hy (fun e => z (by rw [e, r5, o2])) (fun e => z (by rw [e, r6, o2]))
  have f1 : ∀ y, y < M.1 → ow y = 1 → M'.2 y = M.2 y := fun y hy z => ff y hy (by rw [z, o3]; omega)
  refine ⟨⟨i1, by omega, fun j hj => (hf j (by omega) (by omega) (by omega)).trans (i3 j hj)⟩, ⟨r1, by omega, r3, by omega, (ho R r2).trans r5, (ho gs r4).trans r6⟩, ⟨fun y hy => (ho y (by omega)).trans (o1 y hy), (hk 0 (by omega)).trans o2, (hk 1 (by omega)).trans o3⟩, ?_, hgs, fun e he => ?_, fun e v hv => ?_, fun i p hp => cN_mv (kN i p hp) hm ho (fun y hy _ _ => hk y hy) (fun y hy z => ?_)⟩
  · rw [pUp_n (by omega)]
    exact hR
  · have he' : e < r.length + 1 + 1 := he
    by_cases q : e = r.length + 1
    · rw [q, hf1, pUp_s]
    · rw [hf2 e (by omega), pUp_n q]
      exact kf e (by show e < r.length + 1; omega)
  · rcases plv_push (a := a) (x := x) hv with ⟨he, hv2⟩ | ⟨he, hv2⟩
    · rw [he, hv2, pUp_s, pUp_s]
      exact hL
    · rw [pUp_n (by omega), pUp_n (by omega)]
      exact cL_fr (kL e v hv2) hm ho (fun y hy _ _ => hk y hy) (fun y hy z => by
        rcases z with z | z
        · exact ff y hy (by omega)
        · exact f1 y hy z) (fun _ _ => rfl) (fun _ _ => rfl)
  · rcases z with z | z
    · exact ff y hy (by omega)
    · exact f1 y hy z
theorem cL_grp {e g b N N0 : Nat} {w : Int32} {v : List Nat × List Nat} {μx : xMu} (h : cL M ow rk ad e g b v) (hk : ∀ y, y < M.1 → rk y = 4 * e + 10 → rk' y = 3 * N + 100) (hb : ad' N0 = b) (hv : ∀ c ∈ v.1, ad' c = ad c) : cN M ow rk' ad' (3 * N + 100) g lk0 μx (6, w, v.1 ++ [N0], 0, 0, pNo) := by
  obtain ⟨bl, p, nd, ⟨g1, g2, g3, g4⟩, k1, k2, ⟨b1, b2, b3, b4⟩, k3, k4, k5⟩ := h
  refine ⟨.null, Or.inl ⟨rfl, rfl⟩, ⟨g1, g2, g3, hk g g2 g4⟩, fun z => absurd z (show ¬ (6 : Nat) = 1 by decide), fun z => absurd z (show ¬ ((6 : Nat) = 2 ∨ (6 : Nat) = 3) by decide), fun z => absurd z (show ¬ (6 : Nat) = 4 by decide), fun z => absurd z (show ¬ (6 : Nat) = 5 by decide), fun _ => ⟨bl, b, k1, ?_⟩⟩
  show cLi M ow rk' _ bl ((v.1 ++ [N0]).map ad')
  rw [List.map_append, xmap_ad hv, List.map_singleton, hb]
  exact cLi_fr k2 (Nat.le_refl _) (fun _ _ => rfl) hk (fun _ _ _ => rfl)
/-- the innermost group is finished: its branch is a node, it itself another, not yet in a list -/
theorem cA_end {w w' : Int32} {μx μy : xMu} (hk0 : rk 0 = 0) (hk1 : rk 1 = 1) (kL : cL M ow rk ad r.length (gA r.length) (bA r.length) t) (kN : ∀ (i : Nat) (p : xNode), A[i]? = some p → cN M ow rk ad (3 * i + 100) (ad i) lk0 (μ i) p) (hr : r.length ≤ 6) (ht : (∀ c ∈ t.1, c < A.length) ∧ ∀ c ∈ t.2, c < A.length) (hch : ∀ (i : Nat) (q : xNode), A[i]? = some q → ∀ c ∈ q.2.2.1, c < A.length) : ∃ rk' : Nat → Nat, (∀ y, y < M.1 → rk y < 4 * r.length + 10 ∨ 100 ≤ rk y → rk' y = rk y) ∧ rk' 0 = 0 ∧ rk' 1 = 1 ∧ (∀ (i : Nat) (p : xNode), (A ++ [(5, w, t.2, 0, 0, pNo)])[i]? = some p → cN M ow rk' (pUp ad A.length (bA r.length)) (3 * i + 100) (pUp ad A.length (bA r.length) i) lk0 (muUp μ A.length μx i) p) ∧ cN M ow rk' (pUp ad A.length (bA r.length)) (3 * (A.length + 1) + 100) (gA r.length) lk0 μy (6, w', t.1 ++ [A.length], 0, 0, pNo) := by
  have e1 : ∀ z, z < 4 * r.length + 10 ∨ 100 ≤ z → rtg (4 * r.length + 10) (3 * (A.length + 1) + 100) (rtg (4 * r.length + 11) (3 * A.length + 100) z) = z := fun z hz => by
    rw [rtg_o (A := 4 * r.length + 11) (by omega), rtg_o (by omega)]
  have e2 : ∀ z k, k < 3 → z = 4 * r.length + 11 + k → rtg (4 * r.length + 10) (3 * (A.length + 1) + 100) (rtg (4 * r.length + 11) (3 * A.length + 100) z) = 3 * A.length + 100 + k := fun z k hk hz => by
    rw [rtg_i hz hk, rtg_o (by omega)]
  have e3 : ∀ z, z = 4 * r.length + 10 → rtg (4 * r.length + 10) (3 * (A.length + 1) + 100) (rtg (4 * r.length + 11) (3 * A.length + 100) z) = 3 * (A.length + 1) + 100 := fun z hz => by
    rw [rtg_o (A := 4 * r.length + 11) (by omega), rtg_i (k := 0) (by omega) (by decide)]
  refine ⟨fun y => rtg (4 * r.length + 10) (3 * (A.length + 1) + 100) (rtg (4 * r.length + 11) (3 * A.length + 100) (rk y)), fun y hy z => e1 _ z, ?_, ?_, ?_, cL_grp kL (fun y hy z => e3 _ z) pUp_s (fun c hc => pUp_n (by have := ht.1 c hc; omega))⟩
  · show rtg _ _ (rtg _ _ (rk 0)) = 0
    rw [hk0]
    exact e1 0 (by omega)
  · show rtg _ _ (rtg _ _ (rk 1)) = 1
    rw [hk1]
    exact e1 1 (by omega)
  · exact cA_snoc (fun i p hp => cN_mv (kN i p hp) (Nat.le_refl _) (fun _ _ => rfl) (fun y hy z1 z2 => e1 _ (by omega)) (fun _ _ _ => rfl)) (cL_node kL (fun y k hy hk3 z => e2 _ k hk3 z)) hch ht.2
theorem cH_drop {w w' : Int32} {μx μy : xMu} {t2 : List Nat × List Nat} (h : cH R M0 pl gs fg ow rk ad gA bA μ M (a, x, A, t :: t2 :: r)) (hr : r.length ≤ 5) (hm : M'.1 = M.1) (hR : M'.2 R = cRo pl gs (gA 0) x a r.length) (hf : ∀ y, y ≠ R → M'.2 y = M.2 y) (hlv : ∀ v ∈ t :: t2 :: r, (∀ c ∈ v.1, c < A.length) ∧ ∀ c ∈ v.2, c < A.length) (hch : ∀ (i : Nat) (q : xNode), A[i]? = some q → ∀ c ∈ q.2.2.1, c < A.length) : ∃ rk' : Nat → Nat, cH R M0 pl gs fg ow rk' (pUp ad A.length (bA (r.length + 1))) gA bA (muUp μ A.length μx) M' (a, x, A ++ [(5, w, t.2, 0, 0, pNo)], t2 :: r) ∧ cN M' ow rk' (pUp ad A.length (bA (r.length + 1))) (3 * (A.length + 1) + 100) (gA (r.length + 1)) lk0 μy (6, w', t.1 ++ [A.length], 0, 0, pNo) := by
  obtain ⟨⟨i1, i2, i3⟩, ⟨r1, r2, r3, r4, r5, r6⟩, ⟨o1, o2, o3⟩, kR, kg, kf, kL, kN⟩ := h
  obtain ⟨rk', j1, j2, j3, j4, j5⟩ := cA_end (r := t2 :: r) (w := w) (w' := w') (μx := μx) (μy := μy) o2 o3 (kL (t2 :: r).length t plv_mine) kN (by show r.length + 1 ≤ 6; omega) ⟨(hlv t List.mem_cons_self).1, (hlv t List.mem_cons_self).2⟩ hch
  have j1' : ∀ y, y < M.1 → rk y < 4 * (r.length + 1) + 10 ∨ 100 ≤ rk y → rk' y = rk y := j1
  have ff : ∀ y, y < M.1 → rk' (ow y) ≠ 0 → M'.2 y = M.2 y := fun y hy z => hf y (fun e => z (by rw [e, r5, j2]))
  have fo : ∀ y, y < M.1 → rk (ow y) ≠ 0 → M'.2 y = M.2 y := fun y hy z => hf y (fun e => z (by rw [e, r5, o2]))
  refine ⟨rk', ⟨⟨i1, by omega, fun j hj => (hf j (by omega)).trans (i3 j hj)⟩, ⟨r1, by omega, r3, by omega, r5, r6⟩, ⟨o1, j2, j3⟩, hR, (hf gs (xne_io kR kg).symm).trans kg, fun e he => kf e (by have he' : e < r.length + 1 := he; show e < r.length + 1 + 1; omega), fun e v hv => ?_, fun i p hp => ?_⟩, ?_⟩
  · have hv2 : plv (a, x, A, t :: t2 :: r) e = some v := pW_pop (a' := a) (x' := x) hv
    have hv9 := plv_mem hv2
    have he9 : e < r.length + 1 := by
      unfold plv at hv
      split at hv
      · assumption
      · cases hv
    refine cL_fr (kL e v hv2) (by omega) (fun _ _ => rfl) (fun y hy z1 z2 => j1' y hy (by omega)) (fun y hy z => ?_) (fun c hc => pUp_n (by have := (hlv v hv9).1 c hc; omega)) (fun c hc => pUp_n (by have := (hlv v hv9).2 c hc; omega))
    rcases z with z | z
    · exact fo y hy (by omega)
    · exact fo y hy (by rw [z, o3]; omega)
  · refine cN_mv (j4 i p hp) (by omega) (fun _ _ => rfl) (fun _ _ _ _ => rfl) (fun y hy z => ?_)
    rcases z with z | z
    · exact ff y hy (by omega)
    · exact ff y hy (by rw [z, j3]; omega)
  · refine cN_mv j5 (by omega) (fun _ _ => rfl) (fun _ _ _ _ => rfl) (fun y hy z => ?_)
    rcases z with z | z
    · exact ff y hy (by omega)
    · exact ff y hy (by rw [z, j3]; omega)
/-- a new group's level: g the group, its list of branches, the branch, its list, needs, their lists, words, the array -/
theorem cL_new {e g : Nat} {m1 m2 m3 m4 : Int32} (hx : xn ≤ g) (hm : g + 11 ≤ M.1) (o : ∀ k, k < 7 → ow (g + k) = g + k) (o1 : ∀ k, 7 ≤ k → k < 10 → ow (g + k) = 1) (o2 : ow (g + 10) = g + 1) (hk : rk g = 4 * e + 10 ∧ rk (g + 1) = 4 * e + 10 ∧ rk (g + 2) = 4 * e + 11 ∧ rk (g + 3) = 4 * e + 11 ∧ rk (g + 4) = 4 * e + 12 ∧ rk (g + 5) = 4 * e + 12 ∧ rk (g + 6) = 4 * e + 13) (k0 : M.2 g = .inr (5, [.ref (g + 1), .ref (g + 2), .null])) (k1 : M.2 (g + 1) = .inr (2, [.ref (g + 10), .int 1, .int m1])) (k2 : M.2 (g + 2) = .inr (6, [.ref (g + 3), .ref (g + 4), .null])) (k3 : M.2 (g + 3) = .inr (2, [.ref 1, .int 0, .int m2])) (k4 : M.2 (g + 4) = .inr (7, [.ref (g + 5), .ref (g + 6), .ref (g + 7), .int 1])) (k5 : M.2 (g + 5) = .inr (2, [.ref 1, .int 0, .int m3])) (k6 : M.2 (g + 6) = .inr (2, [.ref 1, .int 0, .int m4])) (k7 : M.2 (g + 7) = .inr (8, [.ref (g + 8), .ref (g + 9), .int 1])) (k8 : M.2 (g + 8) = .inl (1, 60, .inl (fun _ => 0))) (k9 : M.2 (g + 9) = .inl (0, 5, .inl (fun _ => 0))) (k10 : M.2 (g + 10) = .inl (4, 10, .inr (.inr (.inr (.inr (fun i => [g + 2][i]?)))))) : cL M ow rk ad e g (g + 2) ([], []) := by
  obtain ⟨h0, h1, h2, h3, h4, h5, h6⟩ := hk
  exact ⟨g + 1, g + 3, g + 4, ⟨hx, by omega, o 0 (by decide), h0⟩, k0, ⟨⟨by omega, by omega, o 1 (by decide), h1⟩, g + 10, m1, 10, k1, by show 1 ≤ 10; decide, by decide, by decide, Or.inr ⟨o2, by omega, by omega, k10⟩⟩, ⟨by omega, by omega, o 2 (by decide), h2⟩, k2, ⟨⟨by omega, by omega, o 3 (by decide), h3⟩, xLs_new k3⟩, cNd_new (by omega) (by omega) (o 4 (by decide)) (o 5 (by decide)) (o 6 (by decide)) (o1 7 (by decide) (by decide)) (o1 8 (by decide) (by decide)) (o1 9 (by decide) (by decide)) h4 h5 h6 k4 k5 k6 k7 k8 k9⟩
theorem cN_set {T X : Nat} {z : Int64 × Int64} {ps : Int64} {w m n : Int32} {cs : Nat → Bool} {l : List Nat} {μx : xMu} (h1 : xn ≤ X) (h2 : X < M.1) (h3 : ow X = X) (h4 : rk X = T) (h5 : M.2 X = .inr (10, [.long z.1, .long z.2, .long ps, .null])) (h6 : cB z cs) (h7 : μx.1 = ps) : cN M ow rk ad T X lk0 μx (1, w, l, m, n, cs) := by
  refine ⟨.null, Or.inl ⟨rfl, rfl⟩, ⟨h1, h2, h3, h4⟩, fun _ => ⟨z, by rw [h7]; exact h5, h6⟩, fun q => absurd q (show ¬ ((1 : Nat) = 2 ∨ (1 : Nat) = 3) by decide), fun q => absurd q (show ¬ (1 : Nat) = 4 by decide), fun q => absurd q (show ¬ (1 : Nat) = 5 by decide), fun q => absurd q (show ¬ (1 : Nat) = 6 by decide)⟩
theorem cN_anc {T X kd : Nat} {ps : Int64} {v w m n : Int32} {cs : Nat → Bool} {l : List Nat} {μx : xMu} (h1 : xn ≤ X) (h2 : X < M.1) (h3 : ow X = X) (h4 : rk X = T) (hkd : kd = 2 ∨ kd = 3) (h5 : M.2 X = .inr (11, [.int v, .long ps, .null])) (hv : v = if kd = 2 then 1 else 0) (h7 : μx.1 = ps) : cN M ow rk ad T X lk0 μx (kd, w, l, m, n, cs) := by
  refine ⟨.null, Or.inl ⟨rfl, rfl⟩, ⟨h1, h2, h3, h4⟩, fun q => absurd (show kd = 1 from q) (by omega), fun _ => ?_, fun q => absurd (show kd = 4 from q) (by omega), fun q => absurd (show kd = 5 from q) (by omega), fun q => absurd (show kd = 6 from q) (by omega)⟩
  rw [h7]
  show M.2 X = .inr (11, [.int (if kd = 2 then 1 else 0), .long ps, .null])
  rw [← hv]
  exact h5
theorem cN_rep {T X nd e : Nat} {w m n : Int32} {cv : Value} {ck ll : Int32} {μx : xMu} (h1 : xn ≤ X) (h2 : X < M.1) (h3 : ow X = X) (h4 : rk X = T) (h5 : M.2 X = .inr (9, [.ref (ad e), .int m, .int n, .ref nd, cv, .int ck, .int ll, .null])) (h6 : cNd M ow rk ad (T + 1) nd lk0.2) (h7 : (n = -1 ∧ ∃ cl, cv = .ref cl ∧ (xn ≤ cl ∧ cl < M.1 ∧ ow cl = X) ∧ M.2 cl = .inl (3, 41, .inr (.inl μx.2.2.2))) ∨ (¬ n = -1 ∧ cv = .null)) (h8 : μx.2.1 = ck) (h9 : μx.2.2.1 = ll) : cN M ow rk ad T X lk0 μx (4, w, [e], m, n, pNo) := by
  refine ⟨.null, Or.inl ⟨rfl, rfl⟩, ⟨h1, h2, h3, h4⟩, fun q => absurd q (show ¬ (4 : Nat) = 1 by decide), fun q => absurd q (show ¬ ((4 : Nat) = 2 ∨ (4 : Nat) = 3) by decide), fun _ => ⟨e, nd, cv, rfl, ?_, h6, h7⟩, fun q => absurd q (show ¬ (4 : Nat) = 5 by decide), fun q => absurd q (show ¬ (4 : Nat) = 6 by decide)⟩
  rw [h8, h9]
  exact h5
/-- what the innermost level shows -/
theorem cH_top (h : cH R M0 pl gs fg ow rk ad gA bA μ M (a, x, A, t :: r)) (h16 : xn = 16) : ∃ g b bl p nd : Nat, (gA r.length = g ∧ bA r.length = b ∧ fg r.length = some g) ∧ (16 ≤ g ∧ g < M.1 ∧ 16 ≤ b ∧ b < M.1 ∧ 16 ≤ p ∧ p < M.1 ∧ 16 ≤ bl ∧ bl < M.1) ∧ (M.2 R = cRo pl gs (gA 0) x a r.length ∧ M.2 gs = .inl (6, 7, .inr (.inr (.inr (.inr fg)))) ∧ M.2 g = .inr (5, [.ref bl, .ref b, .null]) ∧ M.2 b = .inr (6, [.ref p, .ref nd, .null])) ∧ (xLs (fun y => ow y = p) M p (t.2.map ad) ∧ xLs (fun y => ow y = bl) M bl (t.1.map ad ++ [b])) ∧ (ow g = g ∧ ow b = b ∧ ow p = p ∧ ow bl = bl) ∧ (52 ≤ R ∧ R < M.1 ∧ 52 ≤ gs ∧ gs < M.1 ∧ M0.1 ≤ M.1 ∧ M0.1 ≤ R ∧ M0.1 ≤ gs ∧ 52 ≤ M0.1 ∧ M0.1 ≤ p ∧ M0.1 ≤ bl ∧ M0.1 ≤ g ∧ M0.1 ≤ b) ∧ (∀ y, y < M0.1 → M.2 y = M0.2 y) ∧ (R ≠ gs ∧ R ≠ g ∧ R ≠ b ∧ R ≠ p ∧ R ≠ bl ∧ gs ≠ g ∧ gs ≠ b ∧ gs ≠ p ∧ gs ≠ bl ∧ g ≠ b ∧ g ≠ p ∧ g ≠ bl ∧ b ≠ p ∧ b ≠ bl) ∧ ow R = 0 ∧ ow gs = 0 := by
  obtain ⟨⟨i1, i2, i3⟩, ⟨r1, r2, r3, r4, r5, r6⟩, ⟨o1, o2, o3⟩, kR, kg, kf, kL, kN⟩ := h
  obtain ⟨bl, p, nd, ⟨g1, g2, g3, g4⟩, k1, ⟨⟨l1, l2, l3, l4⟩, l5⟩, ⟨b1, b2, b3, b4⟩, k3, ⟨⟨p1, p2, p3, p4⟩, p5⟩, k5⟩ := kL r.length t plv_mine
  obtain ⟨e6, mo6, cap6, q6, -⟩ := id p5
  obtain ⟨e7, mo7, cap7, q7, -⟩ := id l5
  have big : ∀ y, y < M.1 → rk (ow y) ≠ 0 → M0.1 ≤ y := fun y hy z => Classical.byContradiction fun w => z (by rw [o1 y (by omega), o2])
  have kR' : M.2 R = .inr (4, _) := kR
  refine ⟨gA r.length, bA r.length, bl, p, nd, ⟨rfl, rfl, kf r.length (by show r.length < r.length + 1; omega)⟩, ⟨by omega, g2, by omega, b2, by omega, p2, by omega, l2⟩, ⟨kR, kg, k1, k3⟩, ⟨p5, l5⟩, ⟨g3, b3, p3, l3⟩, ⟨by omega, r2, by omega, r4, i2, r1, r3, i1, big p p2 (by rw [p3, p4]; omega), big bl l2 (by rw [l3, l4]; omega), big _ g2 (by rw [g3, g4]; omega), big _ b2 (by rw [b3, b4]; omega)⟩, i3, ⟨xne_io kR kg, xne_cl kR' k1 (by decide), xne_cl kR' k3 (by decide), xne_cl kR' q6 (by decide), xne_cl kR' q7 (by decide), (xne_io k1 kg).symm, (xne_io k3 kg).symm, (xne_io q6 kg).symm, (xne_io q7 kg).symm, xne_cl k1 k3 (by decide), xne_cl k1 q6 (by decide), xne_cl k1 q7 (by decide), xne_cl k3 q6 (by decide), xne_cl k3 q7 (by decide)⟩, r5, r6⟩
theorem cH_F (h : cH R M0 pl gs fg ow rk ad gA bA μ M (a, x, A, t :: r)) (ha : a ≤ 1000) (hm : M'.1 = M.1) (hR : M'.2 R = cRo pl gs (gA 0) x' a (r.length)) (hf : ∀ y, y ≠ R → M'.2 y = M.2 y) : cF R M0 pl M' x' := by
  obtain ⟨⟨i1, i2, i3⟩, ⟨r1, r2, r3, r4, r5, r6⟩, -⟩ := h
  exact ⟨⟨i1, by omega, fun j hj => (hf j (by omega)).trans (i3 j hj)⟩, ⟨r1, by omega⟩, gs, gA 0, a, r.length, hR, ha⟩
end cSt

/-! Nodes that learn: their words, their needs -/
section cLn
variable {M M' : xM} {ow ow' rk ad : Nat → Nat} {T X : Nat} {ℓ : xLk} {μ : xMu} {q : xNode}
theorem hx_of {M M' : xM} {X c0 : Nat} {l0 : List Value} {v0 wv' : Value} (k : M.2 X = .inr (c0, l0 ++ [v0])) (k' : M'.2 X = .inr (c0, l0 ++ [wv'])) : ∀ (ci : Nat) (l : List Value) (w0 : Value), M.2 X = .inr (ci, l ++ [w0]) → M'.2 X = .inr (ci, l ++ [wv']) := by
  intro ci l w0 e
  have e2 : (c0, l0 ++ [v0]) = (ci, l ++ [w0]) := Sum.inr.inj (k.symm.trans e)
  have e3 : c0 = ci := congrArg Prod.fst e2
  have e4 : l0 ++ [v0] = l ++ [w0] := congrArg Prod.snd e2
  obtain ⟨e5, -⟩ := xsnoc_inj e4
  rw [← e3, ← e5]
  exact k'
/-- a node gets its words -/
theorem cN_wd {wv' : Value} {w' : Option (List (List Int32))} (h : cN M ow rk ad T X ℓ μ q) (hk1 : rk 1 = 1) (hT : 2 ≤ T) (hm : M.1 ≤ M'.1) (ho : ∀ y, y < M.1 → ow' y = ow y) (hf : ∀ y, y < M.1 → y ≠ X → M'.2 y = M.2 y) (hx : ∀ (ci : Nat) (l : List Value) (w0 : Value), M.2 X = .inr (ci, l ++ [w0]) → M'.2 X = .inr (ci, l ++ [wv'])) (hv' : cV M' ow' wv' w') : cN M' ow' rk ad T X (w', ℓ.2) μ q := by
  obtain ⟨wv, hv, ⟨h1, h2, h3, h4⟩, k1, k2, k4, k5, k6⟩ := h
  have fL : ∀ y, y < M.1 → ow y ≠ X → M'.2 y = M.2 y := fun y hy z => hf y hy (fun e => z (by rw [e]; exact h3))
  have li : ∀ {T' a : Nat} {l : List Nat}, a ≠ X → cLi M ow rk T' a l → cLi M' ow' rk T' a l := fun {T' a l} hne hl => by
    obtain ⟨⟨g1, g2, g3, g4⟩, g5⟩ := hl
    exact ⟨⟨g1, by omega, (ho a g2).trans g3, g4⟩, xLs_mv g5 hm (hf a g2 hne) (fun y hy hlt => ⟨(ho y hlt).trans hy, fL y hlt (fun e => hne (hy.symm.trans e))⟩)⟩
  have hX1 : X ≠ 1 := fun e => by rw [e, hk1] at h4; omega
  have cw : ∀ {a : Nat} {S : List (List Int32)}, cW M ow a S → cW M' ow' a S := fun {a S} hw => cW_fr hw hm ho (fun y hy z => fL y hy (fun e => hX1 (e.symm.trans z)))
  have ndd : ∀ {T' nd : Nat} {z : xNl}, nd ≠ X → T' ≠ T → T' + 1 ≠ T → cNd M ow rk ad T' nd z → cNd M' ow' rk ad T' nd z := fun {T' nd z} hne t1 t2 hn => by
    obtain ⟨al, pa, cu, la, ⟨n1, n2, n3, n4⟩, e1, e2, e3, e4, e5, e6⟩ := hn
    refine ⟨al, pa, cu, la, ⟨n1, by omega, (ho nd n2).trans n3, n4⟩, (hf nd n2 hne).trans e1, li (fun e => t1 ?_) e2, li (fun e => t2 ?_) e3, e4, fun k a S q1 q2 => cw (e5 k a S q1 q2), cw e6⟩
    · rw [← e2.1.2.2.2, e]
      exact h4
    · rw [← e3.1.2.2.2, e]
      exact h4
  refine ⟨wv', hv', ⟨h1, by omega, (ho X h2).trans h3, h4⟩, fun z => ?_, fun z => ?_, fun z => ?_, fun z => ?_, fun z => ?_⟩
  · obtain ⟨y, e1, e2⟩ := k1 z
    exact ⟨y, hx 10 [_, _, _] wv e1, e2⟩
  · exact hx 11 [_, _] wv (k2 z)
  · obtain ⟨e, nd, cv, e1, e2, e3, e4⟩ := k4 z
    have hne : nd ≠ X := fun e0 => by
      have g4 := e3
      obtain ⟨al, pa, cu, la, ⟨n1, n2, n3, n4⟩, -⟩ := g4
      rw [e0, h4] at n4
      omega
    refine ⟨e, nd, cv, e1, hx 9 [_, _, _, _, _, _, _] wv e2, ndd hne (by omega) (by omega) e3, ?_⟩
    rcases e4 with ⟨g1, cl, g2, ⟨g3, g4, g5⟩, g6⟩ | g1
    · exact Or.inl ⟨g1, cl, g2, ⟨g3, Nat.lt_of_lt_of_le g4 hm, (ho cl g4).trans g5⟩, (hf cl g4 (xne_io e2 g6).symm).trans g6⟩
    · exact Or.inr g1
  · obtain ⟨p, nd, e1, e2, e3⟩ := k5 z
    have hne : nd ≠ X := fun e0 => by
      have g4 := e3
      obtain ⟨al, pa, cu, la, ⟨n1, n2, n3, n4⟩, -⟩ := g4
      rw [e0, h4] at n4
      omega
    have hp : p ≠ X := by
      obtain ⟨el, mo, hl, -⟩ := xLs_len e2.2
      exact xne_cl hl e1 (by decide)
    exact ⟨p, nd, hx 6 [_, _] wv e1, li hp e2, ndd hne (by omega) (by omega) e3⟩
  · obtain ⟨bl, lv, e1, e2⟩ := k6 z
    have hp : bl ≠ X := by
      obtain ⟨el, mo, hl, -⟩ := xLs_len e2.2
      exact xne_cl hl e1 (by decide)
    exact ⟨bl, lv, hx 5 [_, _] wv e1, li hp e2⟩
/-- a node's needs go on -/
theorem cN_nd {nd : Nat} {z' : xNl} (h : cN M ow rk ad T X ℓ μ q) (hk1 : rk 1 = 1) (hT : 2 ≤ T) (hm : M.1 ≤ M'.1) (ho : ∀ y, y < M.1 → ow' y = ow y) (hf : ∀ y, y < M.1 → ¬ (rk (ow y) = T + 1 ∨ rk (ow y) = T + 1 + 1) → M'.2 y = M.2 y) (hn : (∃ p wv, M.2 X = .inr (6, [.ref p, .ref nd, wv])) ∨ ∃ a b c cv d e wv, M.2 X = .inr (9, [a, b, c, .ref nd, cv, d, e, wv])) (hz : cNd M' ow' rk ad (T + 1) nd z') : cN M' ow' rk ad T X (ℓ.1, z') μ q := by
  obtain ⟨wv, hv, ⟨h1, h2, h3, h4⟩, k1, k2, k4, k5, k6⟩ := h
  have fX : M'.2 X = M.2 X := hf X h2 (by rw [h3, h4]; omega)
  have f0 : ∀ y, y < M.1 → rk (ow y) = T → M'.2 y = M.2 y := fun y hy z => hf y hy (by omega)
  refine ⟨wv, cV_fr hv hm ho (fun y hy z => hf y hy (by rw [z, hk1]; omega)), ⟨h1, by omega, (ho X h2).trans h3, h4⟩, fun z => ?_, fun z => fX.trans (k2 z), fun z => ?_, fun z => ?_, fun z => ?_⟩
  · obtain ⟨y, e1, e2⟩ := k1 z
    exact ⟨y, fX.trans e1, e2⟩
  · obtain ⟨e, nd', cv, e1, e2, e3, e4⟩ := k4 z
    have hnd : nd' = nd := by
      rcases hn with ⟨p, w, g⟩ | ⟨a, b, c, cv', d, e', w, g⟩
      · rw [e2] at g
        cases g
      · rw [e2] at g
        cases g
        rfl
    rw [hnd] at e2
    refine ⟨e, nd, cv, e1, fX.trans e2, hz, ?_⟩
    rcases e4 with ⟨g1, cl, g2, ⟨g3, g4, g5⟩, g6⟩ | g1
    · exact Or.inl ⟨g1, cl, g2, ⟨g3, Nat.lt_of_lt_of_le g4 hm, (ho cl g4).trans g5⟩, (f0 cl g4 (by rw [g5]; exact h4)).trans g6⟩
    · exact Or.inr g1
  · obtain ⟨p, nd', e1, e2, e3⟩ := k5 z
    have hnd : nd' = nd := by
      rcases hn with ⟨p', w, g⟩ | ⟨a, b, c, cv', d, e', w, g⟩
      · rw [e1] at g
        cases g
        rfl
      · rw [e1] at g
        cases g
    rw [hnd] at e1
    exact ⟨p, nd, fX.trans e1, cLi_fr e2 hm ho (fun y hy z => z) f0, hz⟩
  · obtain ⟨bl, lv, e1, e2⟩ := k6 z
    exact ⟨bl, lv, fX.trans e1, cLi_fr e2 hm ho (fun y hy z => z) f0⟩
def lUp (ℓ : Nat → xLk) (i : Nat) (v : xLk) : Nat → xLk := fun j => if j = i then v else ℓ j
theorem lUp_s {ℓ : Nat → xLk} {i : Nat} {v : xLk} : lUp ℓ i v i = v := if_pos rfl
theorem lUp_n {ℓ : Nat → xLk} {i j : Nat} {v : xLk} (h : j ≠ i) : lUp ℓ i v j = ℓ j := if_neg h
/-- all the nodes, when one of them has changed -/
theorem cA_up {ℓ : Nat → xLk} {μ : Nat → xMu} {A : List xNode} {i : Nat} {v : xLk} (hA : ∀ (j : Nat) (p : xNode), A[j]? = some p → cN M ow rk ad (3 * j + 100) (ad j) (ℓ j) (μ j) p) (hk1 : rk 1 = 1) (hm : M.1 ≤ M'.1) (ho : ∀ y, y < M.1 → ow' y = ow y) (hf : ∀ y, y < M.1 → ¬ (3 * i + 100 ≤ rk (ow y) ∧ rk (ow y) < 3 * i + 103) → M'.2 y = M.2 y) (hi : ∀ p, A[i]? = some p → cN M' ow' rk ad (3 * i + 100) (ad i) v (μ i) p) : ∀ (j : Nat) (p : xNode), A[j]? = some p → cN M' ow' rk ad (3 * j + 100) (ad j) (lUp ℓ i v j) (μ j) p := by
  intro j p hp
  by_cases h : j = i
  · rw [h] at hp ⊢
    rw [lUp_s]
    exact hi p hp
  · rw [lUp_n h]
    refine cN_fr (hA j p hp) hm ho (fun _ _ _ _ z => z) (fun y hy z => hf y hy ?_) (fun _ _ => rfl) (fun _ _ => rfl)
    rcases z with z | z
    · omega
    · rw [z, hk1]
      omega
end cLn

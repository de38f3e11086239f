/-! The pure machine: its place stays inside the pattern, its kinds are 1 to 6 -/
def pKk (σ : xSg) : Prop := ∀ q ∈ σ.2.2.1, q.1 ≤ 6
theorem pKk_app {A : List xNode} {q : xNode} (h : ∀ p ∈ A, p.1 ≤ 6) (hq : q.1 ≤ 6) : ∀ p ∈ A ++ [q], p.1 ≤ 6 := by
  intro p hp
  rcases List.mem_append.mp hp with z | z
  · exact h p z
  · rw [List.mem_singleton.mp z]
    exact hq
theorem pKk_nd {A : List xNode} (h : ∀ p ∈ A, p.1 ≤ 6) : ∀ i, i < A.length → (pNd A i).1 ≤ 6 := fun i hi => h _ (List.mem_of_getElem? (xnd_at hi))
section pOneS
variable {fp : Nat → Int32} {pl : Nat} {c : Int32} {σ : xSg}
theorem pClose_k (h : pKk σ) : (pClose σ).1 = σ.1 ∧ pKk (pClose σ) := by
  unfold pClose
  by_cases h1 : σ.2.2.2.length ≤ 1
  · rw [if_pos h1]
    exact ⟨rfl, h⟩
  · rw [if_neg h1]
    by_cases h2 : (pTop σ).2 = []
    · rw [if_pos h2]
      exact ⟨rfl, h⟩
    · rw [if_neg h2]
      exact ⟨rfl, pKk_app (pKk_app h (by show (5 : Nat) ≤ 6; decide)) (by show (6 : Nat) ≤ 6; decide)⟩
theorem pRep_k {m n : Int32} (h : pKk σ) : (pRep σ m n).1 = σ.1 ∧ pKk (pRep σ m n) := ⟨rfl, pKk_app h (by show (4 : Nat) ≤ 6; decide)⟩
theorem pBraces_k (hs : σ.1 ≤ pl) (h : pKk σ) : pKk (pBraces fp pl σ) ∧ ((pBraces fp pl σ).2.1 = 0 → σ.1 ≤ (pBraces fp pl σ).1 ∧ (pBraces fp pl σ).1 ≤ pl) := by
  unfold pBraces
  by_cases h1 : ¬ pDig (pch fp pl σ.1)
  · rw [if_pos h1]
    exact ⟨h, fun q => absurd q (show ¬ (4 : Int32) = 0 by decide)⟩
  · rw [if_neg h1]
    by_cases h2 : pch fp pl (σ.1 + 1) = 125
    · rw [if_pos h2]
      have hb := pch_in h2 (by decide)
      exact ⟨(pRep_k h).2, fun _ => ⟨by show σ.1 ≤ σ.1 + 2; omega, by show σ.1 + 2 ≤ pl; omega⟩⟩
    · rw [if_neg h2]
      by_cases h3 : pch fp pl (σ.1 + 1) = 44 ∧ pch fp pl (σ.1 + 2) = 125
      · rw [if_pos h3]
        have hb := pch_in h3.2 (by decide)
        exact ⟨(pRep_k h).2, fun _ => ⟨by show σ.1 ≤ σ.1 + 3; omega, by show σ.1 + 3 ≤ pl; omega⟩⟩
      · rw [if_neg h3]
        by_cases h4 : pch fp pl (σ.1 + 1) = 44 ∧ pDig (pch fp pl (σ.1 + 2)) ∧ pch fp pl σ.1 - 48 ≤ pch fp pl (σ.1 + 2) - 48 ∧ pch fp pl (σ.1 + 3) = 125
        · rw [if_pos h4]
          have hb := pch_in h4.2.2.2 (by decide)
          exact ⟨(pRep_k h).2, fun _ => ⟨by show σ.1 ≤ σ.1 + 4; omega, by show σ.1 + 4 ≤ pl; omega⟩⟩
        · rw [if_neg h4]
          exact ⟨h, fun q => absurd q (show ¬ (4 : Int32) = 0 by decide)⟩
theorem pRepeat_k (hs : σ.1 ≤ pl) (h : pKk σ) : pKk (pRepeat fp pl c σ) ∧ ((pRepeat fp pl c σ).2.1 = 0 → σ.1 ≤ (pRepeat fp pl c σ).1 ∧ (pRepeat fp pl c σ).1 ≤ pl) := by
  unfold pRepeat
  by_cases h1 : (pTop σ).2 = [] ∨ (pNd σ.2.2.1 (pLast σ)).1 = 2 ∨ (pNd σ.2.2.1 (pLast σ)).1 = 3
  · rw [if_pos h1]
    exact ⟨h, fun q => absurd q (show ¬ (3 : Int32) = 0 by decide)⟩
  · rw [if_neg h1]
    by_cases h2 : c = 42
    · rw [if_pos h2]
      exact ⟨(pRep_k h).2, fun _ => ⟨Nat.le_refl _, hs⟩⟩
    · rw [if_neg h2]
      by_cases h3 : c = 43
      · rw [if_pos h3]
        exact ⟨(pRep_k h).2, fun _ => ⟨Nat.le_refl _, hs⟩⟩
      · rw [if_neg h3]
        by_cases h4 : c = 63
        · rw [if_pos h4]
          exact ⟨(pRep_k h).2, fun _ => ⟨Nat.le_refl _, hs⟩⟩
        · rw [if_neg h4]
          exact pBraces_k hs h
theorem pBracket_k (hs : σ.1 ≤ pl) (h : pKk σ) : pKk (pBracket fp pl σ) ∧ ((pBracket fp pl σ).2.1 = 0 → σ.1 ≤ (pBracket fp pl σ).1 ∧ (pBracket fp pl σ).1 ≤ pl) := by
  unfold pBracket
  by_cases h1 : ¬ (pBrk fp pl σ.1).2.1 = 0
  · rw [if_pos h1]
    exact ⟨h, fun q => absurd q h1⟩
  · rw [if_neg h1]
    by_cases h2 : pl ≤ (pBrk fp pl σ.1).1
    · rw [if_pos h2]
      exact ⟨h, fun q => absurd q (show ¬ (5 : Int32) = 0 by decide)⟩
    · rw [if_neg h2]
      refine ⟨pKk_app h (by show (1 : Nat) ≤ 6; decide), fun _ => ?_⟩
      have hz : (pBrk fp pl σ.1).2.1 = 0 := Classical.not_not.mp h1
      have hge : σ.1 ≤ (pBrk fp pl σ.1).1 := by
        by_cases hN : pch fp pl σ.1 = 94
        · have hlt := pch_in hN (by decide)
          have hbk : pBrk fp pl σ.1 = pItems fp pl pl true (σ.1 + 1, 0, pNo) := by unfold pBrk; rw [if_pos hN]
          rw [hbk] at hz ⊢
          have := (pItems_le (fp := fp) pl true (σ.1 + 1) pNo (by omega) hz).1
          omega
        · have hbk : pBrk fp pl σ.1 = pItems fp pl pl true (σ.1, 0, pNo) := by unfold pBrk; rw [if_neg hN]
          rw [hbk] at hz ⊢
          exact (pItems_le (fp := fp) pl true σ.1 pNo hs hz).1
      exact ⟨by show σ.1 ≤ (pBrk fp pl σ.1).1 + 1; omega, by show (pBrk fp pl σ.1).1 + 1 ≤ pl; omega⟩
theorem pSimple_k (hs : σ.1 ≤ pl) (h : pKk σ) : pKk (pSimple fp pl c σ) ∧ ((pSimple fp pl c σ).2.1 = 0 → σ.1 ≤ (pSimple fp pl c σ).1 ∧ (pSimple fp pl c σ).1 ≤ pl) := by
  unfold pSimple
  by_cases h1 : c = 92
  · rw [if_pos h1]
    by_cases h2 : pSpe (pch fp pl σ.1)
    · rw [if_pos h2]
      have hb := pch_in (pl := pl) (fp := fp) rfl (xspe_0 h2)
      exact ⟨pKk_app h (by show (1 : Nat) ≤ 6; decide), fun _ => ⟨by show σ.1 ≤ σ.1 + 1; omega, by show σ.1 + 1 ≤ pl; omega⟩⟩
    · rw [if_neg h2]
      exact ⟨h, fun q => absurd q (show ¬ (7 : Int32) = 0 by decide)⟩
  · rw [if_neg h1]
    by_cases h2 : c = 94 ∨ c = 36
    · rw [if_pos h2]
      refine ⟨pKk_app h ?_, fun _ => ⟨Nat.le_refl _, hs⟩⟩
      show (if c = 94 then 2 else 3) ≤ 6
      by_cases h3 : c = 94
      · rw [if_pos h3]; decide
      · rw [if_neg h3]; decide
    · rw [if_neg h2]
      by_cases h3 : c = 91
      · rw [if_pos h3]
        exact pBracket_k hs h
      · rw [if_neg h3]
        by_cases h4 : c = 46
        · rw [if_pos h4]
          exact ⟨pKk_app h (by show (1 : Nat) ≤ 6; decide), fun _ => ⟨Nat.le_refl _, hs⟩⟩
        · rw [if_neg h4]
          exact ⟨pKk_app h (by show (1 : Nat) ≤ 6; decide), fun _ => ⟨Nat.le_refl _, hs⟩⟩
theorem pOneC_k (hs : σ.1 ≤ pl) (h : pKk σ) : pKk (pOneC fp pl c σ) ∧ ((pOneC fp pl c σ).2.1 = 0 → σ.1 ≤ (pOneC fp pl c σ).1 ∧ (pOneC fp pl c σ).1 ≤ pl) := by
  unfold pOneC
  by_cases h1 : c = 40
  · rw [if_pos h1]
    by_cases h2 : σ.2.2.2.length = 7
    · rw [if_pos h2]
      exact ⟨h, fun _ => ⟨Nat.le_refl _, hs⟩⟩
    · rw [if_neg h2]
      exact ⟨h, fun _ => ⟨Nat.le_refl _, hs⟩⟩
  · rw [if_neg h1]
    by_cases h2 : c = 41
    · rw [if_pos h2]
      have hc := pClose_k h
      exact ⟨hc.2, fun _ => by rw [hc.1]; exact ⟨Nat.le_refl _, hs⟩⟩
    · rw [if_neg h2]
      by_cases h3 : c = 124
      · rw [if_pos h3]
        by_cases h4 : (pTop σ).2 = []
        · rw [if_pos h4]
          exact ⟨h, fun _ => ⟨Nat.le_refl _, hs⟩⟩
        · rw [if_neg h4]
          exact ⟨pKk_app h (by show (5 : Nat) ≤ 6; decide), fun _ => ⟨Nat.le_refl _, hs⟩⟩
      · rw [if_neg h3]
        by_cases h5 : c = 42 ∨ c = 43 ∨ c = 63 ∨ c = 123
        · rw [if_pos h5]
          exact pRepeat_k hs h
        · rw [if_neg h5]
          exact pSimple_k hs h
end pOneS

/-! Learning: what the loops want -/
section cOw
variable {M : xM} {ow ow' rk ad : Nat → Nat}
theorem cW_ow {a : Nat} {S : List (List Int32)} (h : cW M ow a S) (ho : ∀ y, ow y ≠ 0 → ow' y = ow y) : cW M ow' a S := by
  obtain ⟨lt, ln, f, g, h1, ⟨h7, h8, h9⟩, k⟩ := h
  exact ⟨lt, ln, f, g, h1, ⟨(ho a (by rw [h7]; decide)).trans h7, (ho lt (by rw [h8]; decide)).trans h8, (ho ln (by rw [h9]; decide)).trans h9⟩, k⟩
theorem cV_ow {wv : Value} {w : Option (List (List Int32))} (h : cV M ow wv w) (ho : ∀ y, ow y ≠ 0 → ow' y = ow y) : cV M ow' wv w := by
  rcases h with h | ⟨S, a, h1, h2, h3⟩
  · exact Or.inl h
  · exact Or.inr ⟨S, a, h1, h2, cW_ow h3 ho⟩
theorem cLi_ow {T a : Nat} {l : List Nat} (h : cLi M ow rk T a l) (hx : 1 ≤ xn) (ho : ∀ y, ow y ≠ 0 → ow' y = ow y) : cLi M ow' rk T a l := by
  obtain ⟨⟨h1, h2, h3, h4⟩, h5⟩ := h
  exact ⟨⟨h1, h2, (ho a (by rw [h3]; omega)).trans h3, h4⟩, xLs_mv h5 (Nat.le_refl _) rfl (fun y hy _ => ⟨(ho y (by rw [hy]; omega)).trans hy, rfl⟩)⟩
theorem cNd_ow {T nd : Nat} {z : xNl} (h : cNd M ow rk ad T nd z) (hx : 1 ≤ xn) (ho : ∀ y, ow y ≠ 0 → ow' y = ow y) : cNd M ow' rk ad T nd z := by
  obtain ⟨al, pa, cu, la, ⟨h1, h2, h3, h4⟩, k1, k2, k3, k4, k5, k6⟩ := h
  exact ⟨al, pa, cu, la, ⟨h1, h2, (ho nd (by rw [h3]; omega)).trans h3, h4⟩, k1, cLi_ow k2 hx ho, cLi_ow k3 hx ho, k4, fun k a S q1 q2 => cW_ow (k5 k a S q1 q2) ho, cW_ow k6 ho⟩
theorem cN_ow {T X : Nat} {ℓ : xLk} {μ : xMu} {q : xNode} (h : cN M ow rk ad T X ℓ μ q) (hx : 1 ≤ xn) (ho : ∀ y, ow y ≠ 0 → ow' y = ow y) : cN M ow' rk ad T X ℓ μ q := by
  obtain ⟨wv, hv, ⟨h1, h2, h3, h4⟩, k1, k2, k4, k5, k6⟩ := h
  refine ⟨wv, cV_ow hv ho, ⟨h1, h2, (ho X (by rw [h3]; omega)).trans h3, h4⟩, k1, k2, fun z => ?_, fun z => ?_, fun z => ?_⟩
  · obtain ⟨e, nd, cv, e1, e2, e3, e4⟩ := k4 z
    refine ⟨e, nd, cv, e1, e2, cNd_ow e3 hx ho, ?_⟩
    rcases e4 with ⟨g1, cl, g2, ⟨g3, g4, g5⟩, g6⟩ | g1
    · exact Or.inl ⟨g1, cl, g2, ⟨g3, g4, (ho cl (by rw [g5]; omega)).trans g5⟩, g6⟩
    · exact Or.inr g1
  · obtain ⟨p, nd, e1, e2, e3⟩ := k5 z
    exact ⟨p, nd, e1, cLi_ow e2 hx ho, cNd_ow e3 hx ho⟩
  · obtain ⟨bl, lv, e1, e2⟩ := k6 z
    exact ⟨bl, lv, e1, cLi_ow e2 hx ho⟩
end cOw
theorem cN_cl {M : xM} {ow rk ad : Nat → Nat} {T X : Nat} {ℓ : xLk} {μ : xMu} {q : xNode} (h : cN M ow rk ad T X ℓ μ q) (h1 : 1 ≤ q.1) (h6 : q.1 ≤ 6) : ∃ (bc : Nat) (bf : List Value), M.2 X = .inr (bc, bf) ∧ bc ≠ 2 ∧ bc ≠ 7 := by
  have hkk : q.1 = 1 ∨ (q.1 = 2 ∨ q.1 = 3) ∨ q.1 = 4 ∨ q.1 = 5 ∨ q.1 = 6 := by omega
  obtain ⟨wv, hv, -, k1, k2, k4, k5, k6⟩ := h
  rcases hkk with z | z | z | z | z
  · obtain ⟨y, e1, -⟩ := k1 z
    exact ⟨_, _, e1, by decide, by decide⟩
  · exact ⟨_, _, k2 z, by decide, by decide⟩
  · obtain ⟨e, nd, cv, -, e1, -⟩ := k4 z
    exact ⟨_, _, e1, by decide, by decide⟩
  · obtain ⟨p, nd, e1, -⟩ := k5 z
    exact ⟨_, _, e1, by decide, by decide⟩
  · obtain ⟨bl, lv, e1, -⟩ := k6 z
    exact ⟨_, _, e1, by decide, by decide⟩
/-- parts and allowed lists grow by one at the most -/
theorem sFol_in (z : xNl) (c : Nat) (w : Option (List (List Int32))) : (∀ d ∈ (sFol z c w).2.1, d ∈ z.2.1 ∨ d = c) ∧ (sFol z c w).1.length ≤ z.1.length + 1 ∧ (sFol z c w).2.1.length ≤ z.2.1.length + 1 := by
  cases w with
  | none =>
    refine ⟨fun d hd => ?_, ?_, ?_⟩
    · rcases List.mem_append.mp hd with q | q
      · exact Or.inl q
      · exact Or.inr (List.mem_singleton.mp q)
    · show (z.1 ++ [z.2.2.1]).length ≤ _
      rw [List.length_append]
      exact Nat.le_refl _
    · show (z.2.1 ++ [c]).length ≤ _
      rw [List.length_append]
      exact Nat.le_refl _
  | some W =>
    have e : sFol z c (some W) = match sJoin z.2.2.1 W with
      | none => (z.1 ++ [z.2.2.1], z.2.1, W, 0)
      | some J => (z.1, z.2.1, J, z.2.2.2) := rfl
    rw [e]
    cases sJoin z.2.2.1 W with
    | none =>
      refine ⟨fun d hd => Or.inl hd, ?_, Nat.le_succ _⟩
      show (z.1 ++ [z.2.2.1]).length ≤ _
      rw [List.length_append]
      exact Nat.le_refl _
    | some J => exact ⟨fun d hd => Or.inl hd, Nat.le_succ _, Nat.le_succ _⟩
theorem sAlong_app (W : Nat → Option (List (List Int32))) (l : List Nat) (c : Nat) : sAlong W (l ++ [c]) = sFol (sAlong W l) c (W c) := by
  unfold sAlong
  rw [List.foldl_append]
  rfl
theorem sAlong_in (W : Nat → Option (List (List Int32))) : ∀ l, (∀ d ∈ (sAlong W l).2.1, d ∈ l) ∧ (sAlong W l).1.length ≤ l.length ∧ (sAlong W l).2.1.length ≤ l.length := by
  refine xrev_ind ⟨fun d hd => absurd hd (show ¬ d ∈ ([] : List Nat) by simp), Nat.le_refl _, Nat.le_refl _⟩ (fun l c ih => ?_)
  rw [sAlong_app, List.length_append, List.length_singleton]
  obtain ⟨h1, h2, h3⟩ := sFol_in (sAlong W l) c (W c)
  refine ⟨fun d hd => ?_, by omega, by omega⟩
  rcases h1 d hd with q | q
  · exact List.mem_append_left _ (ih.1 d q)
  · rw [q]
    simp
theorem sTimes_in (W : Nat → Option (List (List Int32))) (e : Nat) : ∀ k, (∀ d ∈ (sTimes W e k).2.1, d = e) ∧ (sTimes W e k).1.length ≤ k ∧ (sTimes W e k).2.1.length ≤ k
  | 0 => ⟨fun d hd => absurd hd (show ¬ d ∈ ([] : List Nat) by simp), Nat.le_refl _, Nat.le_refl _⟩
  | k + 1 => by
    obtain ⟨i1, i2, i3⟩ := sTimes_in W e k
    obtain ⟨h1, h2, h3⟩ := sFol_in (sTimes W e k) e (W e)
    refine ⟨fun d hd => ?_, Nat.le_trans h2 (by omega), Nat.le_trans h3 (by omega)⟩
    rcases h1 d hd with q | q
    · exact i1 d q
    · exact q
/-- while node i learns: the nodes from l to s have learnt, i's needs are z -/
def lB (ℓ : Nat → xLk) (A : List xNode) (l s i : Nat) (z : xNl) : Nat → xLk := fun j => if l ≤ j ∧ j < s then sLr A j else if j = i then (none, z) else ℓ j
theorem lB_0 {ℓ : Nat → xLk} {A : List xNode} {l i : Nat} (h : ℓ i = lk0) : lB ℓ A l l i lk0.2 = ℓ := by
  funext j
  unfold lB
  rw [if_neg (by omega)]
  by_cases q : j = i
  · rw [if_pos q, q, h]
    rfl
  · rw [if_neg q]
theorem lB_c {ℓ : Nat → xLk} {A : List xNode} {l s i c : Nat} {z : xNl} (h1 : l ≤ s) (h2 : s ≤ c) (h3 : c < i) : (fun j => if s ≤ j ∧ j ≤ c then sLr A j else lB ℓ A l s i z j) = lB ℓ A l (c + 1) i z := by
  funext j
  unfold lB
  by_cases q1 : s ≤ j ∧ j ≤ c
  · rw [if_pos q1, if_pos (by omega)]
  · rw [if_neg q1]
    by_cases q2 : l ≤ j ∧ j < s
    · rw [if_pos q2, if_pos (by omega)]
    · rw [if_neg q2, if_neg (show ¬ (l ≤ j ∧ j < c + 1) by omega)]
theorem lB_u {ℓ : Nat → xLk} {A : List xNode} {l s i : Nat} {z z' : xNl} (h : s ≤ i) : lUp (lB ℓ A l s i z) i (none, z') = lB ℓ A l s i z' := by
  funext j
  by_cases q : j = i
  · rw [q, lUp_s]
    unfold lB
    rw [if_neg (by omega), if_pos rfl]
  · rw [lUp_n q]
    unfold lB
    by_cases q2 : l ≤ j ∧ j < s
    · rw [if_pos q2, if_pos q2]
    · rw [if_neg q2, if_neg q2, if_neg q, if_neg q]
theorem lB_e {ℓ : Nat → xLk} {A : List xNode} {l i : Nat} {z : xNl} (h : l ≤ i) : lUp (lB ℓ A l i i z) i (sLr A i) = fun j => if l ≤ j ∧ j ≤ i then sLr A j else ℓ j := by
  funext j
  by_cases q : j = i
  · rw [q, lUp_s, if_pos ⟨h, Nat.le_refl _⟩]
  · rw [lUp_n q]
    unfold lB
    by_cases q2 : l ≤ j ∧ j < i
    · rw [if_pos q2, if_pos (by omega)]
    · rw [if_neg q2, if_neg q, if_neg (by omega)]
theorem lB_i {ℓ : Nat → xLk} {A : List xNode} {l s i : Nat} {z : xNl} (h : s ≤ i) : lB ℓ A l s i z i = (none, z) := by
  unfold lB
  rw [if_neg (by omega), if_pos rfl]
theorem lB_d {ℓ : Nat → xLk} {A : List xNode} {l s i j : Nat} {z : xNl} (h1 : s ≤ j) (h2 : j ≠ i) : lB ℓ A l s i z j = ℓ j := by
  unfold lB
  rw [if_neg (by omega), if_neg h2]
theorem lB_o {ℓ : Nat → xLk} {A : List xNode} {l s i j : Nat} {z : xNl} (h1 : l ≤ j) (h2 : j < s) : lB ℓ A l s i z j = sLr A j := by
  unfold lB
  rw [if_pos ⟨h1, h2⟩]
/-- what learning the first k nodes costs -/
def pC (A : List xNode) (k : Nat) : Nat := pCst (A.take k)
theorem pC_s {A : List xNode} {i : Nat} {q : xNode} (h : A[i]? = some q) : pC A (i + 1) = pC A i + pOwn q := by
  unfold pC
  rw [List.take_add_one, h]
  exact pCst_app _ q
theorem pC_le {A : List xNode} : ∀ {i j : Nat}, i ≤ j → pC A i ≤ pC A j := by
  intro i j h
  obtain ⟨k, rfl⟩ := Nat.exists_eq_add_of_le h
  clear h
  induction k with
  | zero => exact Nat.le_refl _
  | succ k ih =>
    refine Nat.le_trans ih ?_
    show pC A (i + k) ≤ pC A (i + k + 1)
    cases hq : A[i + k]? with
    | none =>
      unfold pC
      rw [List.take_add_one, hq]
      simp
    | some q =>
      rw [pC_s hq]
      omega
theorem sPrd_one (W : List (List Int32)) : sPrd [[]] W = W := by
  unfold sPrd
  simp
def sUn (W : Nat → Option (List (List Int32))) (l : List Nat) : Option (List (List Int32)) := sUni W l
theorem sUni_app (W : Nat → Option (List (List Int32))) (l : List Nat) (c : Nat) : sUni W (l ++ [c]) = (sUni W l).bind fun S => (W c).bind fun T => sAdds S T := by
  unfold sUni
  rw [List.foldl_append]
  rfl

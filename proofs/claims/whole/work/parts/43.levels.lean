/-! A merge on lists of shards; the levels fall -/
theorem xflt_le {p q : Nat → Bool} : ∀ l : List Nat, (∀ x ∈ l, p x = true → q x = true) → (l.filter p).length ≤ (l.filter q).length
  | [], _ => Nat.le_refl _
  | a :: l, h => by
    have ih := xflt_le l (fun x hx => h x (List.mem_cons_of_mem _ hx))
    have ha := h a List.mem_cons_self
    by_cases hp : p a = true
    · rw [List.filter_cons_of_pos hp, List.filter_cons_of_pos (ha hp), List.length_cons, List.length_cons]
      omega
    · rw [List.filter_cons_of_neg hp]
      by_cases hq : q a = true
      · rw [List.filter_cons_of_pos hq, List.length_cons]
        omega
      · rw [List.filter_cons_of_neg hq]
        exact ih
theorem xsnoc {α : Type} : ∀ l : List α, l = [] ∨ ∃ a b, l = a ++ [b]
  | [] => Or.inl rfl
  | x :: l => by
    rcases xsnoc l with h | ⟨a, b, h⟩
    · exact Or.inr ⟨[], x, by rw [h]; rfl⟩
    · exact Or.inr ⟨x :: a, b, by rw [h]; rfl⟩
theorem xsnoc2 {α : Type} (l : List α) (h : 2 ≤ l.length) : ∃ a b c, l = a ++ [b, c] := by
  rcases xsnoc l with e | ⟨a, c, e⟩
  · rw [e] at h
    simp at h
  · rcases xsnoc a with e2 | ⟨a2, b, e2⟩
    · rw [e, e2] at h
      simp at h
    · exact ⟨a2, b, c, by rw [e, e2, List.append_assoc]; rfl⟩
/-- what stands in place of two shards that merge -/
def xmT (lv : Nat → Int32) (qo qn : Int32 × List Nat) : List (Int32 × List Nat) := if xLive lv qo.2 qn.2 = [] then [] else [(xmx qo.1 qn.1 + 1, xLive lv qo.2 qn.2)]
section xMrgA
variable {T0 : List (Int32 × List Nat)} {qo qn : Int32 × List Nat} {va : Nat → Nat} {f li le lv : Nat → Int32} {av : Nat}
theorem xAbs_two (hA : xAbs (T0 ++ [qo, qn]) va f le (av + 2)) : T0.length = av ∧ qo.1 = le av ∧ qo.2.Perm ((xsl f (nI av)).map va) ∧ qn.1 = le (av + 1) ∧ qn.2.Perm ((xsl f (nI (av + 1))).map va) := by
  obtain ⟨h1, h2, -⟩ := hA
  have h0 : T0.length = av := by
    rw [List.length_append] at h1
    have e : ([qo, qn] : List (Int32 × List Nat)).length = 2 := rfl
    omega
  have ho := h2 av qo (by rw [List.getElem?_append_right (by omega), h0]; simp)
  have hn := h2 (av + 1) qn (by rw [List.getElem?_append_right (by omega), h0]; simp)
  exact ⟨h0, ho.1, ho.2, hn.1, hn.2⟩
theorem xAbs_cnt (hA : xAbs (T0 ++ [qo, qn]) va f le (av + 2)) (hav : av < 64) (hlv : ∀ s, s < 128 → ¬ f s = -1 → lv (va s) = li s) : xcnt (xmrgF f li (nI av) (nI (av + 1))) (nI av) 128 = (xLive lv qo.2 qn.2).length := by
  obtain ⟨h0, ho1, ho2, hn1, hn2⟩ := xAbs_two hA
  have hp := xsl_mrg (lv := lv) (li := li) (show av + 1 < 2 ^ 31 by omega) hlv ho2 hn2
  rw [xcnt_len, hp.length_eq, List.length_map]
  rfl
theorem xAbs_mrg (hA : xAbs (T0 ++ [qo, qn]) va f le (av + 2)) (hav : av < 64) (hlv : ∀ s, s < 128 → ¬ f s = -1 → lv (va s) = li s) : xAbs (T0 ++ xmT lv qo qn) va (xmrgF f li (nI av) (nI (av + 1))) (upd le av (xmx (le av) (le (av + 1)) + 1)) (if xcnt (xmrgF f li (nI av) (nI (av + 1))) (nI av) 128 = 0 then av else av + 1) := by
  have hc := xAbs_cnt hA hav hlv
  obtain ⟨h0, ho1, ho2, hn1, hn2⟩ := xAbs_two hA
  obtain ⟨-, hk, hs⟩ := hA
  have hp := xsl_mrg (lv := lv) (li := li) (show av + 1 < 2 ^ 31 by omega) hlv ho2 hn2
  have hold : ∀ k q, T0[k]? = some q → q.1 = upd le av (xmx (le av) (le (av + 1)) + 1) k ∧ q.2.Perm ((xsl (xmrgF f li (nI av) (nI (av + 1))) (nI k)).map va) := by
    intro k q hq
    have hk1 := (List.getElem?_eq_some_iff.mp hq).1
    have hka : k < av := by omega
    have hh := hk k q ((List.getElem?_append_left hk1).trans hq)
    refine ⟨hh.1.trans (if_neg (show ¬ k = av by omega)).symm, ?_⟩
    rw [xsl_oth (by omega) hka]
    exact hh.2
  have hst : ∀ s, s < 128 → xmrgF f li (nI av) (nI (av + 1)) s = -1 ∨ xmrgF f li (nI av) (nI (av + 1)) s = 99 ∨ xmrgF f li (nI av) (nI (av + 1)) s = nI av ∨ ∃ k, k < av ∧ xmrgF f li (nI av) (nI (av + 1)) s = nI k := by
    intro s h
    by_cases e : f s = nI av ∨ f s = nI (av + 1)
    · by_cases l : li s = 0
      · exact Or.inl (xmrg_d e l).symm
      · exact Or.inr (Or.inr (Or.inl (xmrg_l e l).symm))
    · have e2 : xmrgF f li (nI av) (nI (av + 1)) s = f s := (xmrg_n e).symm
      rw [e2]
      rcases hs s h with a | a | ⟨k, a, b⟩
      · exact Or.inl a
      · exact Or.inr (Or.inl a)
      · refine Or.inr (Or.inr (Or.inr ⟨k, ?_, b⟩))
        have n1 : k ≠ av := fun q => e (Or.inl (by rw [b, q]))
        have n2 : k ≠ av + 1 := fun q => e (Or.inr (by rw [b, q]))
        omega
  by_cases hm : xLive lv qo.2 qn.2 = []
  · have e1 : (if xcnt (xmrgF f li (nI av) (nI (av + 1))) (nI av) 128 = 0 then av else av + 1) = av := if_pos (by rw [hc, hm]; rfl)
    have e2 : T0 ++ xmT lv qo qn = T0 := by rw [xmT, if_pos hm, List.append_nil]
    rw [e1, e2]
    refine ⟨h0, hold, fun s h => ?_⟩
    rcases hst s h with a | a | a | a
    · exact Or.inl a
    · exact Or.inr (Or.inl a)
    · have h6 := hp.length_eq
      rw [hm, List.length_map] at h6
      have h7 := List.length_pos_of_mem (xsl_mem.mpr ⟨h, a⟩)
      rw [← h6] at h7
      exact absurd h7 (Nat.lt_irrefl 0)
    · exact Or.inr (Or.inr a)
  · have e1 : (if xcnt (xmrgF f li (nI av) (nI (av + 1))) (nI av) 128 = 0 then av else av + 1) = av + 1 := if_neg (by rw [hc]; exact fun q => hm (List.length_eq_zero_iff.mp q))
    have e2 : T0 ++ xmT lv qo qn = T0 ++ [(xmx qo.1 qn.1 + 1, xLive lv qo.2 qn.2)] := by rw [xmT, if_neg hm]
    rw [e1, e2]
    refine ⟨by rw [List.length_append, h0]; rfl, fun k q hq => ?_, fun s h => ?_⟩
    · by_cases hk2 : k < T0.length
      · exact hold k q ((List.getElem?_append_left hk2).symm.trans hq)
      · rw [List.getElem?_append_right (by omega)] at hq
        have hk3 : k = av := by
          have hh := (List.getElem?_eq_some_iff.mp hq).1
          rw [List.length_singleton] at hh
          omega
        rw [hk3, h0, Nat.sub_self] at hq
        have hq2 : (xmx qo.1 qn.1 + 1, xLive lv qo.2 qn.2) = q := Option.some.inj hq
        rw [← hq2, hk3]
        refine ⟨?_, hp⟩
        show xmx qo.1 qn.1 + 1 = _
        rw [ho1, hn1]
        exact (if_pos rfl).symm
    · rcases hst s h with a | a | a | ⟨k, a, b⟩
      · exact Or.inl a
      · exact Or.inr (Or.inl a)
      · exact Or.inr (Or.inr ⟨av, by omega, a⟩)
      · exact Or.inr (Or.inr ⟨k, by omega, b⟩)
theorem xAbs_tk (hA : xAbs (T0 ++ [qo, qn]) va f le (av + 2)) (hav : av < 64) (hlv : ∀ s, s < 128 → ¬ f s = -1 → lv (va s) = li s) : qo.2.length + qn.2.length - (xLive lv qo.2 qn.2).length = xnum (fun j => (f j = nI av ∨ f j = nI (av + 1)) ∧ li j = 0) 128 := by
  obtain ⟨h0, ho1, ho2, hn1, hn2⟩ := xAbs_two hA
  exact xsl_tk (by omega) hlv ho2 hn2
/-- slots that stay keep their version's mark -/
theorem xmrg_lv (hlv : ∀ s, s < 128 → ¬ f s = -1 → lv (va s) = li s) (hav : av < 64) : ∀ s, s < 128 → ¬ xmrgF f li (nI av) (nI (av + 1)) s = -1 → lv (va s) = li s := by
  intro s h h2
  refine hlv s h (fun q => h2 ?_)
  have n1 : ¬ (f s = nI av ∨ f s = nI (av + 1)) := by
    rw [q]
    exact fun e => e.elim (xneg1 (by omega)) (xneg1 (by omega))
  rw [← xmrg_n n1]
  exact q
theorem xAbs_ten (hA : xAbs (T0 ++ [qo, qn]) va f le (av + 2)) (hav : av < 64) (hlv : ∀ s, s < 128 → ¬ f s = -1 → lv (va s) = li s) (hten : ((List.range 128).filter (fun s => decide (li s ≠ 0))).length ≤ 10) : (xLive lv qo.2 qn.2).length ≤ 10 := by
  rw [← xAbs_cnt hA hav hlv, xcnt_len]
  refine Nat.le_trans (xflt_le _ (fun s _ h => ?_)) hten
  have h2 : xmrgF f li (nI av) (nI (av + 1)) s = nI av := by simpa using h
  by_cases e : f s = nI av ∨ f s = nI (av + 1)
  · by_cases l : li s = 0
    · rw [← xmrg_d e l] at h2
      exact absurd h2 (xneg1 (by omega))
    · simpa using l
  · rw [← xmrg_n e] at h2
    exact absurd (Or.inl h2) e
end xMrgA
/-- the sum of 2 to the level -/
def xpw : List Nat → Nat
  | [] => 0
  | a :: l => 2 ^ a + xpw l
theorem xpw_app : ∀ a b : List Nat, xpw (a ++ b) = xpw a + xpw b
  | [], b => (Nat.zero_add _).symm
  | x :: a, b => by
    rw [List.cons_append, xpw, xpw, xpw_app a b]
    omega
theorem xdec_len : ∀ (l : List Nat) (a : Nat), l.Pairwise (fun x y => y < x) → (∀ x ∈ l, x < a) → l.length ≤ a
  | [], _, _, _ => Nat.zero_le _
  | b :: l, a, h, h2 => by
    rw [List.pairwise_cons] at h
    have h3 := xdec_len l b h.2 h.1
    have h4 := h2 b List.mem_cons_self
    rw [List.length_cons]
    omega
theorem xdec_pw : ∀ l : List Nat, l.Pairwise (fun x y => y < x) → 2 ^ l.length ≤ xpw l + 1
  | [], _ => Nat.le_refl _
  | b :: l, h => by
    rw [List.pairwise_cons] at h
    have h1 := xdec_len l b h.2 h.1
    have h2 := xdec_pw l h.2
    have h3 : 2 ^ l.length ≤ 2 ^ b := Nat.pow_le_pow_right (by omega) h1
    rw [List.length_cons, Nat.pow_succ, xpw]
    omega
/-- the levels behind the bottom shard fall strictly -/
def xLvl (T : List (Int32 × List Nat)) (B : Nat) : Prop := ∃ ls : List Nat, T.tail.map Prod.fst = ls.map nI ∧ ls.Pairwise (fun x y => y < x) ∧ xpw ls ≤ B
/-- the same while merges go on: the last one may be as large as the one before -/
def xLvs (T : List (Int32 × List Nat)) (B : Nat) : Prop := T.tail = [] ∨ ∃ (ls : List Nat) (a : Nat), T.tail.map Prod.fst = (ls ++ [a]).map nI ∧ ls.Pairwise (fun x y => y < x) ∧ (∀ x ∈ ls, a ≤ x) ∧ xpw ls + 2 ^ a ≤ B
theorem xlen7 {l : List Nat} {B : Nat} (h : l.Pairwise (fun x y => y < x)) (h2 : xpw l ≤ B) (hB : B ≤ 171) : l.length ≤ 7 := by
  have h1 := xdec_pw l h
  refine Classical.byContradiction fun q => ?_
  have h3 : 2 ^ 8 ≤ 2 ^ l.length := Nat.pow_le_pow_right (by omega) (by omega)
  omega
theorem xLvs_len {T : List (Int32 × List Nat)} {B : Nat} (h : xLvs T B) (hB : B ≤ 171) : T.length ≤ 9 := by
  have e : T.tail.length = T.length - 1 := List.length_tail
  rcases h with h | ⟨ls, a, h1, h2, h3, h4⟩
  · rw [h] at e
    have e0 : ([] : List (Int32 × List Nat)).length = 0 := rfl
    omega
  · have h5 := xlen7 h2 (Nat.le_trans (Nat.le_add_right _ _) h4) hB
    have h6 := congrArg List.length h1
    rw [List.length_map, List.length_map, List.length_append, List.length_singleton] at h6
    omega
theorem xLvl_len {T : List (Int32 × List Nat)} {B : Nat} (h : xLvl T B) (hB : B ≤ 171) : T.length ≤ 8 := by
  have e : T.tail.length = T.length - 1 := List.length_tail
  obtain ⟨ls, h1, h2, h3⟩ := h
  have h5 := xlen7 h2 h3 hB
  have h6 := congrArg List.length h1
  rw [List.length_map, List.length_map] at h6
  omega
theorem xLvl_nil {T : List (Int32 × List Nat)} (h : T.length ≤ 1) (B : Nat) : xLvl T B := by
  refine ⟨[], ?_, List.Pairwise.nil, Nat.zero_le _⟩
  match T, h with
  | [], _ => rfl
  | [_], _ => rfl
theorem xLvl_seal {T : List (Int32 × List Nat)} {B : Nat} {l : List Nat} (h : xLvl T B) : xLvs (T ++ [(0, l)]) (B + 1) := by
  obtain ⟨ls, h1, h2, h3⟩ := h
  cases T with
  | nil => exact Or.inl rfl
  | cons b T =>
    refine Or.inr ⟨ls, 0, ?_, h2, fun _ _ => Nat.zero_le _, by omega⟩
    show (T ++ [(0, l)]).map Prod.fst = _
    rw [List.map_append, List.map_append]
    have h1' : T.map Prod.fst = ls.map nI := h1
    rw [h1']
    rfl
theorem xsnoc_inj {α : Type} {a b : List α} {x y : α} (h : a ++ [x] = b ++ [y]) : a = b ∧ x = y := by
  have h2 := List.append_inj' h rfl
  exact ⟨h2.1, by simpa using h2.2⟩
theorem xlt_pw {a B : Nat} (h : 2 ^ a ≤ B) : a < B := Nat.lt_of_lt_of_le Nat.lt_two_pow_self h
theorem xLvs_mrg {T0 : List (Int32 × List Nat)} {qo qn : Int32 × List Nat} {B : Nat} {lv : Nat → Int32} (h : xLvs (T0 ++ [qo, qn]) B) (he : qn.1 = qo.1) (hB : B ≤ 171) : xLvs (T0 ++ xmT lv qo qn) B := by
  cases T0 with
  | nil =>
    refine Or.inl ?_
    rw [List.nil_append, xmT]
    by_cases hm : xLive lv qo.2 qn.2 = []
    · rw [if_pos hm]; rfl
    · rw [if_neg hm]; rfl
  | cons b T =>
    rcases h with h | ⟨ls, a, h1, h2, h3, h4⟩
    · have h' : T ++ [qo, qn] = [] := h
      exact absurd h' (by simp)
    · have h1' : (T ++ [qo, qn]).map Prod.fst = (ls ++ [a]).map nI := h1
      rw [show [qo, qn] = [qo] ++ [qn] from rfl, ← List.append_assoc, List.map_append, List.map_append (l₁ := ls)] at h1'
      obtain ⟨e1, e2⟩ := xsnoc_inj (x := qn.1) (y := nI a) h1'
      rw [List.map_append] at e1
      have e1' : T.map Prod.fst ++ [qo.1] = ls.map nI := e1
      rcases xsnoc ls with q | ⟨l0, x, q⟩
      · rw [q] at e1'
        exact absurd e1' (by simp)
      · rw [q, List.map_append] at e1'
        obtain ⟨e3, e4⟩ := xsnoc_inj (x := qo.1) (y := nI x) e1'
        rw [q, xpw_app] at h4
        have hx1 : xpw [x] = 2 ^ x := Nat.add_zero _
        rw [hx1] at h4
        have pa : 0 < 2 ^ a := Nat.two_pow_pos a
        have px : 0 < 2 ^ x := Nat.two_pow_pos x
        have lx : x < 171 := xlt_pw (a := x) (B := 171) (by omega)
        have la : a < 171 := xlt_pw (a := a) (B := 171) (by omega)
        have hxa : x = a := (nI_eq (a := x) (b := a) (by omega) (by omega)).mp (by rw [← e4, ← he, e2])
        rw [q, List.pairwise_append] at h2
        obtain ⟨p1, -, p2⟩ := h2
        have p2' : ∀ y ∈ l0, x < y := fun y hy => p2 y hy x List.mem_cons_self
        by_cases hm : xLive lv qo.2 qn.2 = []
        · rw [xmT, if_pos hm, List.append_nil]
          rcases xsnoc l0 with r | ⟨l1, y, r⟩
          · refine Or.inl ?_
            rw [r] at e3
            exact List.map_eq_nil_iff.mp e3
          · refine Or.inr ⟨l1, y, ?_, ?_, ?_, ?_⟩
            · rw [← r]
              exact e3
            · rw [r, List.pairwise_append] at p1
              exact p1.1
            · rw [r, List.pairwise_append] at p1
              exact fun z hz => Nat.le_of_lt (p1.2.2 z hz y List.mem_cons_self)
            · rw [r, xpw_app, show xpw [y] = 2 ^ y from Nat.add_zero _] at h4
              omega
        · rw [xmT, if_neg hm]
          refine Or.inr ⟨l0, a + 1, ?_, p1, fun y hy => ?_, ?_⟩
          · show (T ++ [(xmx qo.1 qn.1 + 1, xLive lv qo.2 qn.2)]).map Prod.fst = _
            rw [List.map_append, List.map_append, e3]
            show l0.map nI ++ [xmx qo.1 qn.1 + 1] = l0.map nI ++ [nI (a + 1)]
            rw [e2, e4, hxa, nI_succ, xmx]
            by_cases hh : nI a ≤ nI a
            · rw [if_pos hh]
            · rw [if_neg hh]
          · have := p2' y hy
            omega
          · rw [Nat.pow_succ]
            rw [hxa] at h4
            omega
theorem xLvs_end {T0 : List (Int32 × List Nat)} {qo qn : Int32 × List Nat} {B : Nat} (h : xLvs (T0 ++ [qo, qn]) B) (he : ¬ qn.1 = qo.1) : xLvl (T0 ++ [qo, qn]) B := by
  cases T0 with
  | nil =>
    rcases h with h | ⟨ls, a, h1, h2, h3, h4⟩
    · have h' : [qn] = [] := h
      exact absurd h' (by simp)
    · have h6 := congrArg List.length h1
      rw [List.length_map, List.length_map, List.length_append, List.length_singleton] at h6
      have h7 : ls = [] := List.length_eq_zero_iff.mp (by have h8 : ([] ++ [qo, qn] : List (Int32 × List Nat)).tail.length = 1 := rfl; omega)
      rw [h7] at h1 h4
      exact ⟨[a], h1, List.pairwise_singleton _ _, by have hx1 : xpw [a] = 2 ^ a := Nat.add_zero _; have hx0 : xpw [] = 0 := rfl; omega⟩
  | cons b T =>
    rcases h with h | ⟨ls, a, h1, h2, h3, h4⟩
    · have h' : T ++ [qo, qn] = [] := h
      exact absurd h' (by simp)
    · have h1' : (T ++ [qo, qn]).map Prod.fst = (ls ++ [a]).map nI := h1
      rw [show [qo, qn] = [qo] ++ [qn] from rfl, ← List.append_assoc, List.map_append, List.map_append (l₁ := ls)] at h1'
      obtain ⟨e1, e2⟩ := xsnoc_inj (x := qn.1) (y := nI a) h1'
      rw [List.map_append] at e1
      have e1' : T.map Prod.fst ++ [qo.1] = ls.map nI := e1
      refine ⟨ls ++ [a], h1, ?_, by rw [xpw_app, show xpw [a] = 2 ^ a from Nat.add_zero _]; exact h4⟩
      rcases xsnoc ls with q | ⟨l0, x, q⟩
      · rw [q] at e1'
        exact absurd e1' (by simp)
      · have e5 : T.map Prod.fst ++ [qo.1] = l0.map nI ++ [nI x] := by rw [e1', q, List.map_append]; rfl
        obtain ⟨e3, e4⟩ := xsnoc_inj e5
        have hxa : x ≠ a := fun w => he (by rw [e2, e4, w])
        have h2' := h2
        rw [q, List.pairwise_append] at h2'
        rw [List.pairwise_append]
        refine ⟨h2, List.pairwise_singleton _ _, fun y hy z hz => ?_⟩
        have hz' : z = a := by simpa using hz
        have hax := h3 x (by rw [q]; simp)
        rw [hz']
        rw [q] at hy
        rcases List.mem_append.mp hy with hy | hy
        · have := h2'.2.2 y hy x List.mem_cons_self
          omega
        · have hyx : y = x := by simpa using hy
          omega

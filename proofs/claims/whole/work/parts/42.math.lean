/-! Shards as lists, against the reference's numbers -/
/-- the slots that lie in shard x -/
def xsl (f : Nat → Int32) (x : Int32) : List Nat := (List.range 128).filter (fun s => decide (f s = x))
theorem xnum_len (P : Nat → Prop) [∀ j, Decidable (P j)] : ∀ N, xnum P N = ((List.range N).filter (fun s => decide (P s))).length
  | 0 => rfl
  | N + 1 => by
    rw [List.range_succ, List.filter_append, List.length_append, ← xnum_len P N, xnum]
    by_cases h : P N
    · rw [if_pos h, List.filter_cons_of_pos (by simp [h])]
      rfl
    · rw [if_neg h, List.filter_cons_of_neg (by simp [h])]
      rfl
theorem xcnt_len (f : Nat → Int32) (x : Int32) : ∀ N, xcnt f x N = ((List.range N).filter (fun s => decide (f s = x))).length
  | 0 => rfl
  | N + 1 => by
    rw [List.range_succ, List.filter_append, List.length_append, ← xcnt_len f x N, xcnt]
    by_cases h : f N = x
    · rw [if_pos h, List.filter_cons_of_pos (by simp [h])]
      rfl
    · rw [if_neg h, List.filter_cons_of_neg (by simp [h])]
      rfl
theorem xflt_or {p q : Nat → Bool} : ∀ l : List Nat, (∀ x ∈ l, ¬ (p x = true ∧ q x = true)) → (l.filter (fun x => p x || q x)).Perm (l.filter p ++ l.filter q)
  | [], _ => List.Perm.refl _
  | a :: l, h => by
    have ih := xflt_or l (fun x hx => h x (List.mem_cons_of_mem _ hx))
    have ha := h a List.mem_cons_self
    by_cases hp : p a = true
    · have hq : ¬ q a = true := fun hq => ha ⟨hp, hq⟩
      rw [List.filter_cons_of_pos (by simp [hp]), List.filter_cons_of_pos hp, List.filter_cons_of_neg hq]
      exact ih.cons a
    · by_cases hq : q a = true
      · rw [List.filter_cons_of_pos (by simp [hq]), List.filter_cons_of_neg hp, List.filter_cons_of_pos hq]
        exact (ih.cons a).trans List.perm_middle.symm
      · rw [List.filter_cons_of_neg (by simp [hp, hq]), List.filter_cons_of_neg hp, List.filter_cons_of_neg hq]
        exact ih
theorem xflt_split (p q : Nat → Bool) : ∀ l : List Nat, (l.filter p).length = (l.filter (fun x => p x && q x)).length + (l.filter (fun x => p x && !q x)).length
  | [] => rfl
  | a :: l => by
    have ih := xflt_split p q l
    by_cases hp : p a = true
    · by_cases hq : q a = true
      · rw [List.filter_cons_of_pos hp, List.filter_cons_of_pos (by simp [hp, hq]), List.filter_cons_of_neg (by simp [hp, hq]), List.length_cons, List.length_cons, ih]
        omega
      · rw [List.filter_cons_of_pos hp, List.filter_cons_of_neg (by simp [hp, hq]), List.filter_cons_of_pos (by simp [hp, hq]), List.length_cons, List.length_cons, ih]
        omega
    · rw [List.filter_cons_of_neg hp, List.filter_cons_of_neg (by simp [hp]), List.filter_cons_of_neg (by simp [hp]), ih]
theorem xflt_map {f : Nat → Nat} {p : Nat → Bool} : ∀ l : List Nat, (l.map f).filter p = (l.filter (fun x => p (f x))).map f
  | [] => rfl
  | a :: l => by
    by_cases h : p (f a) = true
    · rw [List.map_cons, List.filter_cons_of_pos h, List.filter_cons_of_pos (p := fun x => p (f x)) h, List.map_cons, xflt_map l]
    · rw [List.map_cons, List.filter_cons_of_neg h, List.filter_cons_of_neg (p := fun x => p (f x)) h, xflt_map l]
/-- the shards T hold what the reference's arrays say; va: where the class keeps a slot's version -/
def xAbs (T : List (Int32 × List Nat)) (va : Nat → Nat) (f le : Nat → Int32) (sn : Nat) : Prop :=
  T.length = sn ∧ (∀ k q, T[k]? = some q → q.1 = le k ∧ q.2.Perm ((xsl f (nI k)).map va)) ∧ ∀ s, s < 128 → f s = -1 ∨ f s = 99 ∨ ∃ k, k < sn ∧ f s = nI k
/-- what is left of two lists when they merge -/
def xLive (lv : Nat → Int32) (vo vn : List Nat) : List Nat := vo.filter (fun w => decide (lv w ≠ 0)) ++ vn.filter (fun w => decide (lv w ≠ 0))
theorem xmax_xmx {a b : Int32} : (if a < b then b else a) = xmx a b := by
  rw [xmx]
  by_cases h : a < b
  · rw [if_pos h, if_pos (Int32.le_of_lt h)]
  · rw [if_neg h]
    by_cases h2 : a ≤ b
    · rw [if_pos h2]
      exact Int32.le_antisymm h2 (Int32.not_lt.mp h)
    · rw [if_neg h2]
theorem xneg1 {k : Nat} (h : k < 2 ^ 31) : ¬ (-1 : Int32) = nI k := by
  intro e
  have h1 : ((-1 : Int32)).toInt = -1 := by decide
  rw [e, nI_toInt h] at h1
  omega
theorem xsl_mem {f : Nat → Int32} {x : Int32} {s : Nat} : s ∈ xsl f x ↔ s < 128 ∧ f s = x := by
  simp [xsl]
section xAbsM
variable {va : Nat → Nat} {f li le lv : Nat → Int32} {av : Nat} {lo ln : Int32} {vo vn : List Nat}
theorem xsl_mrg (hav : av + 1 < 2 ^ 31) (hlv : ∀ s, s < 128 → ¬ f s = -1 → lv (va s) = li s) (h1 : vo.Perm ((xsl f (nI av)).map va)) (h2 : vn.Perm ((xsl f (nI (av + 1))).map va)) : (xLive lv vo vn).Perm ((xsl (xmrgF f li (nI av) (nI (av + 1))) (nI av)).map va) := by
  have key : ∀ k, k < 2 ^ 31 → ∀ v : List Nat, v.Perm ((xsl f (nI k)).map va) → (v.filter (fun w => decide (lv w ≠ 0))).Perm (((List.range 128).filter (fun s => decide (f s = nI k) && decide (li s ≠ 0))).map va) := by
    intro k hk v hv
    refine (hv.filter _).trans ?_
    rw [xflt_map, xsl, List.filter_filter]
    refine List.Perm.of_eq (congrArg _ (List.filter_congr (fun s hs => ?_)))
    have hs' : s < 128 := List.mem_range.mp hs
    by_cases e : f s = nI k
    · have := hlv s hs' (fun q => xneg1 hk (q.symm.trans e))
      simp [e, this]
    · simp [e]
  have a1 := key av (by omega) vo h1
  have a2 := key (av + 1) hav vn h2
  refine (a1.append a2).trans ?_
  rw [← List.map_append]
  refine List.Perm.map va ((xflt_or _ ?_).symm.trans (List.Perm.of_eq (List.filter_congr (fun s hs => ?_))))
  · intro s _ ⟨e1, e2⟩
    simp at e1 e2
    have := (nI_eq (a := av) (b := av + 1) (by omega) hav).mp (e1.1.symm.trans e2.1)
    omega
  · have hn : ¬ nI (av + 1) = nI av := fun q => by have := (nI_eq (a := av + 1) (b := av) hav (by omega)).mp q; omega
    by_cases e1 : f s = nI av
    · by_cases l : li s = 0
      · simp [xmrgF, e1, l, xneg1 (show av < 2 ^ 31 by omega)]
      · simp [xmrgF, e1, l]
    · by_cases e2 : f s = nI (av + 1)
      · by_cases l : li s = 0
        · simp [xmrgF, e2, l, xneg1 (show av < 2 ^ 31 by omega)]
        · simp [xmrgF, e2, l]
      · simp [xmrgF, e1, e2]
theorem xsl_oth {k : Nat} (hav : av + 1 < 2 ^ 31) (hk : k < av) : xsl (xmrgF f li (nI av) (nI (av + 1))) (nI k) = xsl f (nI k) := by
  refine List.filter_congr (fun s hs => ?_)
  have h1 : ¬ nI av = nI k := fun q => by have := (nI_eq (a := av) (b := k) (by omega) (by omega)).mp q; omega
  have h2 : ¬ nI (av + 1) = nI k := fun q => by have := (nI_eq (a := av + 1) (b := k) (by omega) (by omega)).mp q; omega
  by_cases e1 : f s = nI av
  · by_cases l : li s = 0
    · simp [xmrgF, e1, l, h1, xneg1 (show k < 2 ^ 31 by omega)]
    · simp [xmrgF, e1, l, h1]
  · by_cases e2 : f s = nI (av + 1)
    · by_cases l : li s = 0
      · simp [xmrgF, e2, l, h2, xneg1 (show k < 2 ^ 31 by omega)]
      · simp [xmrgF, e2, l, h1, h2]
    · simp [xmrgF, e1, e2]
theorem xsl_tk (hav : av + 1 < 2 ^ 31) (hlv : ∀ s, s < 128 → ¬ f s = -1 → lv (va s) = li s) (h1 : vo.Perm ((xsl f (nI av)).map va)) (h2 : vn.Perm ((xsl f (nI (av + 1))).map va)) : vo.length + vn.length - (xLive lv vo vn).length = xnum (fun j => (f j = nI av ∨ f j = nI (av + 1)) ∧ li j = 0) 128 := by
  have hn : ∀ s, f s = nI av → ¬ f s = nI (av + 1) := fun s q r => by have := (nI_eq (a := av) (b := av + 1) (by omega) (by omega)).mp (q.symm.trans r); omega
  have e1 : vo.length + vn.length = ((List.range 128).filter (fun s => decide (f s = nI av) || decide (f s = nI (av + 1)))).length := by
    rw [h1.length_eq, h2.length_eq, List.length_map, List.length_map, ← List.length_append]
    refine (xflt_or (p := fun s => decide (f s = nI av)) (q := fun s => decide (f s = nI (av + 1))) (List.range 128) ?_).length_eq.symm
    intro s _ ⟨q1, q2⟩
    exact hn s (by simpa using q1) (by simpa using q2)
  have e2 : (xLive lv vo vn).length = ((List.range 128).filter (fun s => (decide (f s = nI av) || decide (f s = nI (av + 1))) && decide (li s ≠ 0))).length := by
    rw [(xsl_mrg hav hlv h1 h2).length_eq, List.length_map, xsl]
    refine congrArg _ (List.filter_congr (fun s hs => ?_))
    have hn2 : ¬ nI (av + 1) = nI av := fun q => by have := (nI_eq (a := av + 1) (b := av) hav (by omega)).mp q; omega
    by_cases e1 : f s = nI av
    · by_cases l : li s = 0
      · simp [xmrgF, e1, l, xneg1 (show av < 2 ^ 31 by omega)]
      · simp [xmrgF, e1, l]
    · by_cases e2 : f s = nI (av + 1)
      · by_cases l : li s = 0
        · simp [xmrgF, e2, l, xneg1 (show av < 2 ^ 31 by omega)]
        · simp [xmrgF, e2, l]
      · simp [xmrgF, e1, e2]
  have e3 := xflt_split (fun s => decide (f s = nI av) || decide (f s = nI (av + 1))) (fun s => decide (li s ≠ 0)) (List.range 128)
  rw [xnum_len, e1, e2, e3]
  have e4 : (List.range 128).filter (fun s => decide ((f s = nI av ∨ f s = nI (av + 1)) ∧ li s = 0)) = (List.range 128).filter (fun x => (decide (f x = nI av) || decide (f x = nI (av + 1))) && !decide (li x ≠ 0)) := by
    refine List.filter_congr (fun s _ => ?_)
    simp
  rw [e4]
  omega
end xAbsM

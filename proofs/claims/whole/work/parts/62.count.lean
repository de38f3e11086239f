/-! Counting over shards -/
def xsum (g : Nat → Nat) : Nat → Nat
  | 0 => 0
  | k + 1 => xsum g k + g k
theorem xsum_congr {g h : Nat → Nat} : ∀ n, (∀ k, k < n → g k = h k) → xsum g n = xsum h n
  | 0, _ => rfl
  | n + 1, e => by
    rw [xsum, xsum, xsum_congr n (fun k hk => e k (by omega)), e n (by omega)]
theorem xus_iff {f : Nat → Int32} {s : Nat} : ∀ k, xus f k s = true ↔ f s = 99 ∨ ∃ j, j < k ∧ f s = nI j
  | 0 => by
    rw [xus]
    refine ⟨fun h => Or.inl (by simpa using h), fun h => ?_⟩
    rcases h with h | ⟨j, hj, -⟩
    · simpa using h
    · exact absurd hj (Nat.not_lt_zero _)
  | k + 1 => by
    rw [xus, Bool.or_eq_true, xus_iff k]
    refine ⟨fun h => ?_, fun h => ?_⟩
    · rcases h with (h | ⟨j, a, b⟩) | h
      · exact Or.inl h
      · exact Or.inr ⟨j, by omega, b⟩
      · exact Or.inr ⟨k, by omega, by simpa using h⟩
    · rcases h with h | ⟨j, a, b⟩
      · exact Or.inl (Or.inl h)
      · by_cases e : j = k
        · rw [e] at b
          exact Or.inr (by simpa using b)
        · exact Or.inl (Or.inr ⟨j, by omega, b⟩)
theorem xcount {f : Nat → Int32} {h : Nat → Bool} : ∀ k, k ≤ 64 → ((List.range 128).filter (fun s => xus f k s && h s)).length = ((xsl f 99).filter h).length + xsum (fun i => ((xsl f (nI i)).filter h).length) k
  | 0, _ => by
    rw [xsum, Nat.add_zero, xsl, List.filter_filter]
    refine congrArg _ (List.filter_congr (fun s _ => ?_))
    rw [xus, Bool.and_comm]
  | k + 1, hk => by
    have ih := xcount (f := f) (h := h) k (by omega)
    have e1 : (List.range 128).filter (fun s => xus f (k + 1) s && h s) = (List.range 128).filter (fun s => (xus f k s && h s) || (decide (f s = nI k) && h s)) := by
      refine List.filter_congr (fun s _ => ?_)
      rw [xus, Bool.and_or_distrib_right]
    have e2 := (xflt_or (p := fun s => xus f k s && h s) (q := fun s => decide (f s = nI k) && h s) (List.range 128) (fun s _ => by
      rintro ⟨a, b⟩
      rw [Bool.and_eq_true] at a b
      have b1 : f s = nI k := by simpa using b.1
      rcases (xus_iff k).mp a.1 with c | ⟨j, c, d⟩
      · exact x99 (show k < 64 by omega) (c.symm.trans b1)
      · have := (nI_eq (a := j) (b := k) (by omega) (by omega)).mp (d.symm.trans b1)
        omega)).length_eq
    rw [List.length_append] at e2
    have e3 : (xsl f (nI k)).filter h = (List.range 128).filter (fun s => decide (f s = nI k) && h s) := by
      rw [xsl, List.filter_filter]
      refine List.filter_congr (fun s _ => ?_)
      rw [Bool.and_comm]
    rw [e1, e2, ih, xsum, e3]
    omega
theorem xnum_congr {P Q : Nat → Prop} : ∀ N, (∀ k, k < N → (P k ↔ Q k)) → xnum P N = xnum Q N
  | 0, _ => rfl
  | N + 1, h => by
    have ih := xnum_congr N (fun k hk => h k (by omega))
    by_cases q : P N
    · rw [xnum, xnum, if_pos q, if_pos ((h N (by omega)).mp q), ih]
    · rw [xnum, xnum, if_neg q, if_neg (fun z => q ((h N (by omega)).mpr z)), ih]
theorem xnum_list (p : Nat → Bool) : ∀ (n : Nat) (l : List Nat), l.length = n → xnum (fun k => p ((l[k]?).getD 0) = true) n = (l.filter p).length
  | 0, l, h => by
    rw [List.length_eq_zero_iff.mp h]
    rfl
  | n + 1, l, h => by
    rcases xsnoc l with e | ⟨a, b, e⟩
    · rw [e] at h
      cases h
    · have hl : a.length = n := by
        rw [e, List.length_append, List.length_singleton] at h
        omega
      have ih := xnum_list p n a hl
      have e1 : xnum (fun k => p ((l[k]?).getD 0) = true) n = xnum (fun k => p ((a[k]?).getD 0) = true) n := by
        refine xnum_congr n (fun k hk => ?_)
        rw [e, List.getElem?_append_left (by omega)]
      have e2 : (l[n]?).getD 0 = b := by
        rw [e, List.getElem?_append_right (by omega), hl, Nat.sub_self]
        rfl
      have e3 : l.filter p = a.filter p ++ [b].filter p := by rw [e, List.filter_append]
      rw [e3, List.length_append, ← ih, ← e1]
      by_cases q : p b = true
      · rw [xnum, if_pos (by rw [e2]; exact q), List.filter_cons_of_pos q]
        rfl
      · rw [xnum, if_neg (by rw [e2]; exact q), List.filter_cons_of_neg q]
        rfl
theorem xnum_bool {P : Nat → Prop} {p : Nat → Bool} (N : Nat) (h : ∀ k, k < N → (P k ↔ p k = true)) : xnum P N = ((List.range N).filter p).length := by
  have e := xnum_len (fun s => p s = true) N
  rw [xnum_congr N h, e]
  refine congrArg _ (List.filter_congr (fun s _ => ?_))
  simp
theorem xcl_len (f li : Nat → Int32) (x : Int32) : ∀ N, xcl f li x N = ((List.range N).filter (fun s => decide (f s = x) && decide (li s ≠ 0))).length
  | 0 => rfl
  | N + 1 => by
    rw [List.range_succ, List.filter_append, List.length_append, ← xcl_len f li x N, xcl]
    by_cases h : f N = x ∧ ¬ li N = 0
    · rw [if_pos h, List.filter_cons_of_pos (by simp [h.1, h.2])]
      rfl
    · rw [if_neg h, List.filter_cons_of_neg (by simpa using h)]
      rfl
/-- the living of a shard -/
theorem xliv {l : List Nat} {va : Nat → Nat} {f li lv : Nat → Int32} {x : Int32} (hp : l.Perm ((xsl f x).map va)) (hlv : ∀ s, s < 128 → f s = x → lv (va s) = li s) : (l.filter (fun w => decide (lv w ≠ 0))).length = xcl f li x 128 := by
  rw [(hp.filter _).length_eq, xflt_map, List.length_map, xcl_len, xsl, List.filter_filter]
  refine congrArg _ (List.filter_congr (fun s hs => ?_))
  by_cases e : f s = x
  · rw [hlv s (List.mem_range.mp hs) e]
    simp [e]
  · simp [e]
/-- those of all shards that have something -/
theorem xhav {T : List (Int32 × List Nat)} {ov : List Nat} {va : Nat → Nat} {f le : Nat → Int32} {sn : Nat} {H : Nat → Prop} {h : Nat → Bool} (hA : xAbs T va f le sn) (hsn : sn ≤ 60) (hO : ov.Perm ((xsl f 99).map va)) (hh : ∀ s, s < 128 → ¬ f s = -1 → (H s ↔ h (va s) = true)) : xnum (fun s => ¬ f s < 0 ∧ H s) 128 = (ov.filter h).length + xsum (fun i => (((T[i]?).getD (0, [])).2.filter h).length) sn := by
  have e1 : xnum (fun s => ¬ f s < 0 ∧ H s) 128 = ((List.range 128).filter (fun s => xus f sn s && h (va s))).length := by
    refine xnum_bool 128 (fun s hs => ?_)
    rw [Bool.and_eq_true, xus_iff]
    rcases hA.2.2 s hs with a | a
    · rw [a]
      refine ⟨fun q => absurd (show (-1 : Int32) < 0 by decide) q.1, fun q => ?_⟩
      rcases q.1 with z | ⟨j, z, z2⟩
      · exact absurd z xm99
      · exact absurd z2 (xneg1 (by omega))
    · have hu : ¬ f s = -1 := by
        rcases a with a | ⟨j, a, b⟩
        · rw [a]
          decide
        · rw [b]
          exact fun q => xneg1 (by omega) q.symm
      have hp : ¬ f s < 0 := by
        rcases a with a | ⟨j, a, b⟩
        · rw [a]
          decide
        · rw [b]
          exact nI_pos (by omega)
      exact ⟨fun q => ⟨a, (hh s hs hu).mp q.2⟩, fun q => ⟨hp, (hh s hs hu).mpr q.2⟩⟩
  rw [e1, xcount (h := fun s => h (va s)) sn (by omega)]
  have e2 : (ov.filter h).length = ((xsl f 99).filter (fun s => h (va s))).length := by rw [(hO.filter _).length_eq, xflt_map, List.length_map]
  rw [e2]
  refine congrArg _ (xsum_congr sn (fun k hk => ?_))
  have hk2 : k < T.length := by rw [hA.1]; exact hk
  rw [List.getElem?_eq_getElem hk2]
  obtain ⟨-, b⟩ := hA.2.1 k T[k] (List.getElem?_eq_getElem hk2)
  show ((xsl f (nI k)).filter (fun s => h (va s))).length = (T[k].2.filter h).length
  rw [(b.filter _).length_eq, xflt_map, List.length_map]

/-! A put, a seal, free slots, the living: in mathematics -/
/-- va with another value at k -/
def upN (va : Nat → Nat) (k x : Nat) : Nat → Nat := fun j => if j = k then x else va j
theorem x99 {k : Nat} (h : k < 64) : ¬ (99 : Int32) = nI k := by
  intro e
  have h1 : ((99 : Int32)).toInt = 99 := by decide
  rw [e, nI_toInt (by omega)] at h1
  omega
theorem xm99 : ¬ (-1 : Int32) = 99 := by decide
theorem xrange_one {sl : Nat} : ∀ N, (List.range N).filter (fun s => decide (s = sl)) = if sl < N then [sl] else []
  | 0 => rfl
  | N + 1 => by
    rw [List.range_succ, List.filter_append, xrange_one N]
    by_cases h : N = sl
    · rw [if_neg (by omega), if_pos (by omega), List.filter_cons_of_pos (by simpa using h), h]
      rfl
    · rw [List.filter_cons_of_neg (by simpa using h)]
      by_cases h2 : sl < N
      · rw [if_pos h2, if_pos (by omega)]
        rfl
      · rw [if_neg h2, if_neg (by omega)]
        rfl
section xPutA
variable {T : List (Int32 × List Nat)} {va : Nat → Nat} {f le : Nat → Int32} {sn sl w : Nat} {ov : List Nat}
theorem xmap_put {x : Int32} (hx : ¬ f sl = x) : (xsl f x).map (upN va sl w) = (xsl f x).map va := by
  refine List.map_congr_left (fun s hs => if_neg (fun q => hx ?_))
  rw [← q]
  exact (xsl_mem.mp hs).2
theorem xAbs_put (h : xAbs T va f le sn) (hsn : sn ≤ 64) (hf : f sl = -1) : xAbs T (upN va sl w) (upd f sl 99) le sn := by
  refine ⟨h.1, fun k q hq => ?_, fun s hs => ?_⟩
  · obtain ⟨a, b⟩ := h.2.1 k q hq
    have hk : k < sn := by
      rw [← h.1]
      exact (List.getElem?_eq_some_iff.mp hq).1
    have n1 : ¬ (-1 : Int32) = nI k := xneg1 (by omega)
    have n2 : ¬ (99 : Int32) = nI k := x99 (by omega)
    have e1 : xsl (upd f sl 99) (nI k) = xsl f (nI k) := by
      refine List.filter_congr (fun s hs => ?_)
      by_cases q : s = sl
      · have e3 : upd f sl 99 s = 99 := if_pos q
        rw [e3, q, hf]
        simp [n1, n2]
      · have e3 : upd f sl 99 s = f s := if_neg q
        rw [e3]
    refine ⟨a, ?_⟩
    rw [e1, xmap_put (by rw [hf]; exact n1)]
    exact b
  · by_cases q : s = sl
    · exact Or.inr (Or.inl (if_pos q))
    · have e3 : upd f sl 99 s = f s := if_neg q
      rw [e3]
      exact h.2.2 s hs
theorem xOv_put (h : ov.Perm ((xsl f 99).map va)) (hsl : sl < 128) (hf : f sl = -1) : (ov ++ [w]).Perm ((xsl (upd f sl 99) 99).map (upN va sl w)) := by
  have e1 : (xsl (upd f sl 99) 99).Perm (xsl f 99 ++ [sl]) := by
    have e2 : xsl (upd f sl 99) 99 = (List.range 128).filter (fun s => decide (f s = 99) || decide (s = sl)) := by
      refine List.filter_congr (fun s hs => ?_)
      by_cases q : s = sl
      · have e3 : upd f sl 99 s = 99 := if_pos q
        rw [e3]
        simp [q]
      · have e3 : upd f sl 99 s = f s := if_neg q
        rw [e3]
        simp [q]
    rw [e2]
    refine (xflt_or (List.range 128) (fun s _ => ?_)).trans ?_
    · rintro ⟨a, b⟩
      have a' : f s = 99 := by simpa using a
      have b' : s = sl := by simpa using b
      rw [b', hf] at a'
      exact xm99 a'
    · rw [xrange_one, if_pos hsl]
      exact List.Perm.refl _
  refine List.Perm.trans ?_ (e1.map (upN va sl w)).symm
  rw [List.map_append, xmap_put (by rw [hf]; exact xm99)]
  have e4 : [sl].map (upN va sl w) = [w] := congrArg (fun x => [x]) (if_pos rfl)
  rw [e4]
  exact h.append_right [w]
theorem xAbs_seal (h : xAbs T va f le sn) (ho : ov.Perm ((xsl f 99).map va)) (hsn : sn < 64) : xAbs (T ++ [(0, ov)]) va (xsealF f (nI sn)) (upd le sn 0) (sn + 1) := by
  refine ⟨by rw [List.length_append, h.1]; rfl, fun k q hq => ?_, fun s hs => ?_⟩
  · by_cases hk : k < T.length
    · have hq' := (List.getElem?_append_left hk).symm.trans hq
      obtain ⟨a, b⟩ := h.2.1 k q hq'
      have hk' : k < sn := by rw [← h.1]; exact hk
      refine ⟨a.trans (if_neg (show ¬ k = sn by omega)).symm, ?_⟩
      have e1 : xsl (xsealF f (nI sn)) (nI k) = xsl f (nI k) := by
        refine List.filter_congr (fun s hs => ?_)
        by_cases q : f s = 99
        · rw [← xseal_t q, q]
          have n1 : ¬ nI sn = nI k := fun e => by have := (nI_eq (a := sn) (b := k) (by omega) (by omega)).mp e; omega
          have n2 := x99 (show k < 64 by omega)
          simp [n1, n2]
        · rw [← xseal_f q]
      rw [e1]
      exact b
    · rw [List.getElem?_append_right (by omega)] at hq
      have hk3 : k = sn := by
        have hh := (List.getElem?_eq_some_iff.mp hq).1
        rw [List.length_singleton] at hh
        have := h.1
        omega
      rw [hk3, h.1, Nat.sub_self] at hq
      have hq2 : ((0 : Int32), ov) = q := Option.some.inj hq
      rw [← hq2, hk3]
      refine ⟨(if_pos rfl).symm, ?_⟩
      have e1 : xsl (xsealF f (nI sn)) (nI sn) = xsl f 99 := by
        refine List.filter_congr (fun s hs => ?_)
        by_cases q : f s = 99
        · rw [← xseal_t q, q]
          simp
        · rw [← xseal_f q]
          have n1 : ¬ f s = nI sn := by
            intro e
            rcases h.2.2 s (List.mem_range.mp hs) with a | a | ⟨k2, a, b⟩
            · exact xneg1 (show sn < 2 ^ 31 by omega) (a.symm.trans e)
            · exact q a
            · have := (nI_eq (a := k2) (b := sn) (by omega) (by omega)).mp (b.symm.trans e)
              omega
          simp [n1, q]
      rw [e1]
      exact ho
  · by_cases q : f s = 99
    · exact Or.inr (Or.inr ⟨sn, by omega, (xseal_t q).symm⟩)
    · rw [← xseal_f q]
      rcases h.2.2 s hs with a | a | ⟨k2, a, b⟩
      · exact Or.inl a
      · exact Or.inr (Or.inl a)
      · exact Or.inr (Or.inr ⟨k2, by omega, b⟩)
theorem xOv_seal (hsn : sn < 64) : xsl (xsealF f (nI sn)) 99 = [] := by
  refine List.filter_eq_nil_iff.mpr (fun s hs => ?_)
  by_cases q : f s = 99
  · rw [← xseal_t q]
    have := x99 hsn
    simpa using fun e => this e.symm
  · rw [← xseal_f q]
    simpa using q
/-- no slot is lost by a seal -/
theorem xseal_u {s : Nat} (h : ¬ xsealF f (nI sn) s = -1) : ¬ f s = -1 := by
  intro q
  refine h ?_
  rw [← xseal_f (by rw [q]; exact xm99)]
  exact q
end xPutA
theorem xflt_or_le {p q : Nat → Bool} : ∀ l : List Nat, (l.filter (fun x => p x || q x)).length ≤ (l.filter p).length + (l.filter q).length
  | [] => Nat.le_refl _
  | a :: l => by
    have ih := xflt_or_le (p := p) (q := q) l
    by_cases hp : p a = true
    · rw [List.filter_cons_of_pos (by simp [hp]), List.filter_cons_of_pos hp, List.length_cons, List.length_cons]
      by_cases hq : q a = true
      · rw [List.filter_cons_of_pos hq, List.length_cons]
        omega
      · rw [List.filter_cons_of_neg hq]
        omega
    · by_cases hq : q a = true
      · rw [List.filter_cons_of_pos (by simp [hq]), List.filter_cons_of_neg hp, List.filter_cons_of_pos hq, List.length_cons, List.length_cons]
        omega
      · rw [List.filter_cons_of_neg (by simp [hp, hq]), List.filter_cons_of_neg hp, List.filter_cons_of_neg hq]
        exact ih
/-- a slot that lies in the open shard or in one of the first k -/
def xus (f : Nat → Int32) : Nat → Nat → Bool
  | 0, s => decide (f s = 99)
  | k + 1, s => xus f k s || decide (f s = nI k)
theorem xus_99 {f : Nat → Int32} {s : Nat} (h : f s = 99) : ∀ k, xus f k s = true
  | 0 => by simpa [xus] using h
  | k + 1 => by simp [xus, xus_99 h k]
theorem xus_k {f : Nat → Int32} {s k : Nat} (h : f s = nI k) : ∀ n, k < n → xus f n s = true
  | 0, q => absurd q (Nat.not_lt_zero _)
  | n + 1, q => by
    by_cases e : k = n
    · rw [xus, h, e]
      simp
    · rw [xus, xus_k h n (by omega)]
      rfl
theorem xus_len {T : List (Int32 × List Nat)} {va : Nat → Nat} {f le : Nat → Int32} {sn o : Nat} (h : xAbs T va f le sn) (hT : ∀ q ∈ T, q.2.length ≤ 10) (ho : (xsl f 99).length ≤ o) : ∀ k, k ≤ sn → ((List.range 128).filter (xus f k)).length ≤ o + 10 * k
  | 0, _ => ho
  | k + 1, hk => by
    have ih := xus_len h hT ho k (by omega)
    have hk2 : k < T.length := by rw [h.1]; omega
    obtain ⟨a, b⟩ := h.2.1 k T[k] (List.getElem?_eq_getElem hk2)
    have h3 := hT T[k] (List.getElem_mem hk2)
    rw [b.length_eq, List.length_map] at h3
    have h4 := xflt_or_le (p := xus f k) (q := fun s => decide (f s = nI k)) (List.range 128)
    have h5 : ((List.range 128).filter (xus f (k + 1))).length ≤ ((List.range 128).filter (xus f k)).length + (xsl f (nI k)).length := h4
    omega
theorem xleast {P : Nat → Prop} : ∀ N, (∃ s, s < N ∧ P s) → ∃ s, s < N ∧ P s ∧ ∀ j, j < s → ¬ P j
  | 0, ⟨s, h, _⟩ => absurd h (Nat.not_lt_zero _)
  | N + 1, h => by
    by_cases q : ∃ s, s < N ∧ P s
    · obtain ⟨s, a, b, c⟩ := xleast N q
      exact ⟨s, by omega, b, c⟩
    · obtain ⟨s, a, b⟩ := h
      have e : s = N := Classical.byContradiction fun e => q ⟨s, by omega, b⟩
      exact ⟨s, a, b, fun j hj hp => q ⟨j, by omega, hp⟩⟩
/-- there is a free slot -/
theorem xfree {T : List (Int32 × List Nat)} {va : Nat → Nat} {f le : Nat → Int32} {sn : Nat} (h : xAbs T va f le sn) (hT : ∀ q ∈ T, q.2.length ≤ 10) (ho : (xsl f 99).length ≤ 3) (hsn : sn ≤ 9) : ∃ sl, sl < 128 ∧ f sl = -1 ∧ ∀ j, j < sl → ¬ f j = -1 := by
  refine xleast 128 (Classical.byContradiction fun q => ?_)
  have h1 := xus_len h hT ho sn (Nat.le_refl _)
  have h2 : (List.range 128).filter (xus f sn) = List.range 128 := by
    refine List.filter_eq_self.mpr (fun s hs => ?_)
    rcases h.2.2 s (List.mem_range.mp hs) with a | a | ⟨k, a, b⟩
    · exact absurd ⟨s, List.mem_range.mp hs, a⟩ q
    · exact xus_99 a sn
    · exact xus_k b sn a
  rw [h2, List.length_range] at h1
  omega
theorem xlen_split (p : Nat → Bool) : ∀ l : List Nat, l.length = (l.filter p).length + (l.filter (fun x => !p x)).length
  | [] => rfl
  | a :: l => by
    have ih := xlen_split p l
    by_cases hp : p a = true
    · rw [List.filter_cons_of_pos hp, List.filter_cons_of_neg (by simp [hp]), List.length_cons, List.length_cons]
      omega
    · rw [List.filter_cons_of_neg hp, List.filter_cons_of_pos (by simp [hp]), List.length_cons, List.length_cons]
      omega
theorem xnod1 : ∀ l : List Nat, l.Nodup → (∀ x ∈ l, ∀ y ∈ l, x = y) → l.length ≤ 1
  | [], _, _ => by decide
  | [_], _, _ => Nat.le_refl _
  | a :: b :: l, h, h2 => by
    rw [List.nodup_cons] at h
    refine absurd ?_ h.1
    rw [h2 a (by simp) b (by simp)]
    exact List.mem_cons_self
theorem xten_aux (cu : Nat → Int32) : ∀ (K : Nat) (l : List Nat), l.Nodup → (∀ s ∈ l, s < 128 ∧ ∃ k, k < K ∧ cu k = nI s) → l.length ≤ K
  | 0, [], _, _ => Nat.le_refl _
  | 0, a :: l, _, h => by
    obtain ⟨-, k, hk, -⟩ := h a List.mem_cons_self
    exact absurd hk (Nat.not_lt_zero _)
  | K + 1, l, hn, h => by
    have h1 := xten_aux cu K (l.filter (fun s => !decide (cu K = nI s))) (List.Pairwise.filter _ hn) (fun s hs => by
      rw [List.mem_filter] at hs
      obtain ⟨a, k, b, c⟩ := h s hs.1
      refine ⟨a, k, ?_, c⟩
      have : k ≠ K := fun e => by
        have h9 := hs.2
        rw [← e, c] at h9
        simp at h9
      omega)
    have h2 : (l.filter (fun s => decide (cu K = nI s))).length ≤ 1 := by
      refine xnod1 _ (List.Pairwise.filter _ hn) (fun x hx y hy => ?_)
      rw [List.mem_filter] at hx hy
      have ex : cu K = nI x := by simpa using hx.2
      have ey : cu K = nI y := by simpa using hy.2
      exact (nI_eq (a := x) (b := y) (by have := (h x hx.1).1; omega) (by have := (h y hy.1).1; omega)).mp (ex.symm.trans ey)
    have h3 := xlen_split (fun s => decide (cu K = nI s)) l
    omega
theorem xten {cu li : Nat → Int32} (h : ∀ s, s < 128 → ¬ li s = 0 → ∃ k, k < 10 ∧ cu k = nI s) : ((List.range 128).filter (fun s => decide (li s ≠ 0))).length ≤ 10 := by
  refine xten_aux cu 10 _ (List.Pairwise.filter _ List.nodup_range) (fun s hs => ?_)
  rw [List.mem_filter] at hs
  have hs1 := List.mem_range.mp hs.1
  exact ⟨hs1, h s hs1 (by simpa using hs.2)⟩

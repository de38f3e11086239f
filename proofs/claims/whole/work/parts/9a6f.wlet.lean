/-- a letter is written behind the strings -/
theorem wRow1 {f g : Nat → Int32} {S : List (List Int32)} {cc : Nat} (h0 : cWd f g S) (hc : cc < 127) : (∀ x, ∃ u, u < 127 ∧ upd f (S.length * 12) (nI cc) x = nI u) ∧ (∀ (k : Nat) (w : List Int32), S[k]? = some w → w.length ≤ 12 ∧ upd g S.length 1 k = nI w.length ∧ ∀ (z : Nat) (c : Int32), w[z]? = some c → upd f (S.length * 12) (nI cc) (k * 12 + z) = c) ∧ ([nI cc].length ≤ 12 ∧ upd g S.length 1 S.length = nI [nI cc].length ∧ ∀ (z : Nat) (c : Int32), [nI cc][z]? = some c → upd f (S.length * 12) (nI cc) (S.length * 12 + z) = c) := by
  refine ⟨fun x => ?_, fun k w hw => ?_, by show 1 ≤ 12; decide, (if_pos rfl).trans (show (1 : Int32) = nI 1 by decide), fun z c hz => ?_⟩
  · unfold upd
    split
    · exact ⟨cc, hc, rfl⟩
    · exact h0.1 x
  · have hk : k < S.length := (List.getElem?_eq_some_iff.mp hw).1
    obtain ⟨c1, c2, c3⟩ := h0.2 k w hw
    refine ⟨c1, (if_neg (by omega)).trans c2, fun z c hz => ?_⟩
    have hz2 : z < w.length := (List.getElem?_eq_some_iff.mp hz).1
    exact (if_neg (by omega)).trans (c3 z c hz)
  · have hz2 : z < 1 := (List.getElem?_eq_some_iff.mp hz).1
    have hz0 : z = 0 := by omega
    subst hz0
    have hc2 : nI cc = c := Option.some.inj hz
    rw [← hc2]
    exact if_pos rfl
theorem cWd_app {f g : Nat → Int32} {S : List (List Int32)} {w : List Int32} (h1 : ∀ x, ∃ u, u < 127 ∧ f x = nI u) (h2 : ∀ (k : Nat) (w : List Int32), S[k]? = some w → w.length ≤ 12 ∧ g k = nI w.length ∧ ∀ (z : Nat) (c : Int32), w[z]? = some c → f (k * 12 + z) = c) (h3 : w.length ≤ 12 ∧ g S.length = nI w.length ∧ ∀ (z : Nat) (c : Int32), w[z]? = some c → f (S.length * 12 + z) = c) : cWd f g (S ++ [w]) := by
  refine ⟨h1, fun k u hu => ?_⟩
  by_cases hk : k < S.length
  · rw [List.getElem?_append_left hk] at hu
    exact h2 k u hu
  · have hh := (List.getElem?_eq_some_iff.mp hu).1
    rw [List.length_append, List.length_singleton] at hh
    have hk8 : k = S.length := by omega
    rw [hk8, List.getElem?_append_right (Nat.le_refl _), Nat.sub_self] at hu
    have hw' : w = u := Option.some.inj hu
    rw [hk8, ← hw']
    exact h3
/-- the letters of a set up to k -/
def sLk (cs : Nat → Bool) (k : Nat) : List (List Int32) := ((List.range k).filter cs).map fun c => [nI (c + 32)]
theorem sLk_s (cs : Nat → Bool) (k : Nat) : sLk cs (k + 1) = if cs k = true then sLk cs k ++ [[nI (k + 32)]] else sLk cs k := by
  unfold sLk
  rw [List.range_succ, List.filter_append, List.map_append]
  cases h : cs k <;> simp [h]
theorem sLk_len (cs : Nat → Bool) (k : Nat) : (sLk cs k).length = bsum cs k := by
  unfold sLk
  rw [List.length_map, bsum_len]
theorem bsum_le (f : Nat → Bool) : ∀ {n m : Nat}, n ≤ m → bsum f n ≤ bsum f m := by
  intro n m h
  obtain ⟨k, rfl⟩ := Nat.exists_eq_add_of_le h
  rw [bsum_add]
  omega
theorem sLk_new (cs : Nat → Bool) {k : Nat} (hk : k < 95) : [nI (k + 32)] ∉ sLk cs k := by
  intro h
  unfold sLk at h
  obtain ⟨c, hc, he⟩ := List.mem_map.mp h
  have h1 : c < k := by
    have := (List.mem_filter.mp hc).1
    exact List.mem_range.mp this
  have h2 : nI (c + 32) = nI (k + 32) := (List.cons.inj he).1
  have h3 := (nI_eq (a := c + 32) (b := k + 32) (by omega) (by omega)).mp h2
  omega

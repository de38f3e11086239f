/-- a string is written behind the others: its two halves, its length -/
theorem wRow {f g f1 g1 f2 g2 : Nat → Int32} {S S1 S2 : List (List Int32)} {i j : Nat} {s t : List Int32} (h0 : cWd f g S) (h1 : cWd f1 g1 S1) (h2 : cWd f2 g2 S2) (hs : S1[i]? = some s) (ht : S2[j]? = some t) (hl : s.length + t.length ≤ 12) : (∀ x, ∃ u, u < 127 ∧ va_cpy f2 (va_cpy f1 f (i * 12) (S.length * 12) s.length) (j * 12) (S.length * 12 + s.length) t.length x = nI u) ∧ (∀ (k : Nat) (w : List Int32), S[k]? = some w → w.length ≤ 12 ∧ upd g S.length (nI (s.length + t.length)) k = nI w.length ∧ ∀ (z : Nat) (c : Int32), w[z]? = some c → va_cpy f2 (va_cpy f1 f (i * 12) (S.length * 12) s.length) (j * 12) (S.length * 12 + s.length) t.length (k * 12 + z) = c) ∧ ((s ++ t).length ≤ 12 ∧ upd g S.length (nI (s.length + t.length)) S.length = nI (s ++ t).length ∧ ∀ (z : Nat) (c : Int32), (s ++ t)[z]? = some c → va_cpy f2 (va_cpy f1 f (i * 12) (S.length * 12) s.length) (j * 12) (S.length * 12 + s.length) t.length (S.length * 12 + z) = c) := by
  obtain ⟨a1, a2, a3⟩ := h1.2 i s hs
  obtain ⟨b1, b2, b3⟩ := h2.2 j t ht
  refine ⟨fun x => ?_, fun k w hw => ?_, ?_, ?_, fun z c hz => ?_⟩
  · unfold va_cpy
    split
    · exact h2.1 _
    · split
      · exact h1.1 _
      · exact h0.1 _
  · have hk : k < S.length := (List.getElem?_eq_some_iff.mp hw).1
    obtain ⟨c1, c2, c3⟩ := h0.2 k w hw
    refine ⟨c1, (if_neg (by omega)).trans c2, fun z c hz => ?_⟩
    have hz2 : z < w.length := (List.getElem?_eq_some_iff.mp hz).1
    rw [va_cpy, if_neg (by omega), va_cpy, if_neg (by omega)]
    exact c3 z c hz
  · rw [List.length_append]
    exact hl
  · rw [List.length_append]
    exact if_pos rfl
  · by_cases hzs : z < s.length
    · rw [List.getElem?_append_left hzs] at hz
      rw [va_cpy, if_neg (by omega), va_cpy, if_pos (by omega)]
      rw [show i * 12 + (S.length * 12 + z - S.length * 12) = i * 12 + z by omega]
      exact a3 z c hz
    · rw [List.getElem?_append_right (by omega)] at hz
      have hz2 : z - s.length < t.length := (List.getElem?_eq_some_iff.mp hz).1
      rw [va_cpy, if_pos (by omega)]
      rw [show j * 12 + (S.length * 12 + z - (S.length * 12 + s.length)) = j * 12 + (z - s.length) by omega]
      exact b3 _ c hz
theorem sAdds_app : ∀ (l1 l2 S : List (List Int32)), sAdds S (l1 ++ l2) = (sAdds S l1).bind fun T => sAdds T l2
  | [], _, _ => rfl
  | w :: l1, l2, S => by
    show ((sAdd S w).bind fun T => sAdds T (l1 ++ l2)) = ((sAdd S w).bind fun T => sAdds T l1).bind fun T => sAdds T l2
    cases sAdd S w with
    | none => rfl
    | some U => exact sAdds_app l1 l2 U
theorem sPrd_cons (s : List Int32) (S T : List (List Int32)) : sPrd (s :: S) T = (T.map fun t => s ++ t) ++ sPrd S T := rfl
/-- the list of strings that is being made -/
def cWm (M : xM) (o lt ln : Nat) (S : List (List Int32)) : Prop := ∃ f g : Nat → Int32, M.2 o = .inr (8, [.ref lt, .ref ln, .int (nI S.length)]) ∧ M.2 lt = .inl (1, 60, .inl f) ∧ M.2 ln = .inl (0, 5, .inl g) ∧ S.length ≤ 4 ∧ cWd f g S

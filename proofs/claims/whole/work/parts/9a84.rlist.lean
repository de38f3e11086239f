/-! The reference's lists of strings -/
/-- list n holds the strings S -/
def rL (st lg lt : Nat → Int32) (n : Nat) (S : List (List Int32)) : Prop := st n = nI S.length ∧ S.length ≤ 4 ∧ ∀ (k : Nat) (s : List Int32), S[k]? = some s → s.length ≤ 12 ∧ lg (4 * n + k) = nI s.length ∧ ∀ (j : Nat) (c : Int32), s[j]? = some c → lt (48 * n + 12 * k + j) = c
/-- list m stands as it was -/
def rSame (st lg lt st' lg' lt' : Nat → Int32) (m : Nat) : Prop := st' m = st m ∧ (∀ k, k < 4 → lg' (4 * m + k) = lg (4 * m + k)) ∧ ∀ j, j < 48 → lt' (48 * m + j) = lt (48 * m + j)
theorem rL_same {st lg lt st' lg' lt' : Nat → Int32} {m : Nat} {S : List (List Int32)} (h : rL st lg lt m S) (hs : rSame st lg lt st' lg' lt' m) : rL st' lg' lt' m S := by
  obtain ⟨h1, h2, h3⟩ := h
  refine ⟨hs.1.trans h1, h2, fun k s hk => ?_⟩
  obtain ⟨g1, g2, g3⟩ := h3 k s hk
  have hk4 : k < S.length := (List.getElem?_eq_some_iff.mp hk).1
  refine ⟨g1, (hs.2.1 k (by omega)).trans g2, fun j c hj => ?_⟩
  have hj12 : j < s.length := (List.getElem?_eq_some_iff.mp hj).1
  rw [Nat.add_assoc, hs.2.2 (12 * k + j) (by omega), ← Nat.add_assoc]
  exact g3 j c hj
theorem rSame_r {st lg lt : Nat → Int32} {m : Nat} : rSame st lg lt st lg lt m := ⟨rfl, fun _ _ => rfl, fun _ _ => rfl⟩
theorem rSame_t {st lg lt st' lg' lt' st'' lg'' lt'' : Nat → Int32} {m : Nat} (h : rSame st lg lt st' lg' lt' m) (h2 : rSame st' lg' lt' st'' lg'' lt'' m) : rSame st lg lt st'' lg'' lt'' m := ⟨h2.1.trans h.1, fun k hk => (h2.2.1 k hk).trans (h.2.1 k hk), fun j hj => (h2.2.2 j hj).trans (h.2.2 j hj)⟩
theorem rcpy_0 {f g : Nat → Int32} {i j : Nat} : va_cpy f g i j 0 = g := by
  funext q
  unfold va_cpy
  rw [if_neg (by omega)]
theorem rcpy_st {f g : Nat → Int32} {i j k : Nat} : upd (va_cpy f g i j k) (j + k) (f (i + k)) = va_cpy f g i j (k + 1) := by
  funext q
  unfold upd va_cpy
  by_cases h : q = j + k
  · rw [if_pos h, if_pos (by omega), show i + (q - j) = i + k by omega]
  · rw [if_neg h]
    by_cases h2 : j ≤ q ∧ q < j + k
    · rw [if_pos h2, if_pos (by omega)]
    · rw [if_neg h2, if_neg (by omega)]
/-- list n is the one empty string -/
theorem rL_alone {st lg lt : Nat → Int32} {m : Nat} : rL (upd st m 1) (upd lg (4 * m) 0) lt m [[]] := by
  refine ⟨(if_pos rfl).trans (show (1 : Int32) = nI 1 by decide), by decide, fun k s hk => ?_⟩
  match k, hk with
  | 0, h =>
    have h' : [] = s := Option.some.inj h
    rw [← h']
    exact ⟨by decide, (if_pos rfl).trans (show (0 : Int32) = nI 0 by decide), fun j c hc => by simp at hc⟩
  | k + 1, h => simp at h
theorem rSame_alone {st lg lt : Nat → Int32} {m n : Nat} (h : m ≠ n) : rSame st lg lt (upd st n 1) (upd lg (4 * n) 0) lt m := ⟨if_neg h, fun k hk => if_neg (by omega), fun _ _ => rfl⟩
/-- after s strings of a list are copied -/
theorem rcp_step {lg lt : Nat → Int32} {fr to s m : Nat} (hft : fr ≠ to) (hs : s < 4) (hm : m ≠ to) : (∀ k, k < 4 → upd lg (4 * to + s) (lg (4 * fr + s)) (4 * m + k) = lg (4 * m + k)) ∧ ∀ j, j < 48 → va_cpy lt lt (48 * fr + 12 * s) (48 * to + 12 * s) 12 (48 * m + j) = lt (48 * m + j) := by
  refine ⟨fun k hk => if_neg (by omega), fun j hj => ?_⟩
  rw [va_cpy, if_neg (by omega)]

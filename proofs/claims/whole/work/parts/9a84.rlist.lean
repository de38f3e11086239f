/-! The reference's lists of strings -/
/-- string s of list a is w -/
def rS (lg lt : Nat → Int32) (a s : Nat) (w : List Int32) : Prop := w.length ≤ 12 ∧ lg (4 * a + s) = nI w.length ∧ ∀ (j : Nat) (c : Int32), w[j]? = some c → lt (48 * a + 12 * s + j) = c
/-- list n holds the strings S -/
def rL (st lg lt : Nat → Int32) (n : Nat) (S : List (List Int32)) : Prop := st n = nI S.length ∧ S.length ≤ 4 ∧ ∀ (k : Nat) (s : List Int32), S[k]? = some s → rS lg lt n k s
/-- list m stands as it was -/
def rSame (st lg lt st' lg' lt' : Nat → Int32) (m : Nat) : Prop := st' m = st m ∧ (∀ k, k < 4 → lg' (4 * m + k) = lg (4 * m + k)) ∧ ∀ j, j < 48 → lt' (48 * m + j) = lt (48 * m + j)
theorem rS_same {lg lt lg' lt' : Nat → Int32} {m s : Nat} {w : List Int32} (h : rS lg lt m s w) (hs : s < 4) (h1 : ∀ k, k < 4 → lg' (4 * m + k) = lg (4 * m + k)) (h2 : ∀ j, j < 48 → lt' (48 * m + j) = lt (48 * m + j)) : rS lg' lt' m s w := by
  obtain ⟨g1, g2, g3⟩ := h
  refine ⟨g1, (h1 s hs).trans g2, fun j c hj => ?_⟩
  have hj12 : j < w.length := (List.getElem?_eq_some_iff.mp hj).1
  rw [Nat.add_assoc, h2 (12 * s + j) (by omega), ← Nat.add_assoc]
  exact g3 j c hj
theorem rL_same {st lg lt st' lg' lt' : Nat → Int32} {m : Nat} {S : List (List Int32)} (h : rL st lg lt m S) (hs : rSame st lg lt st' lg' lt' m) : rL st' lg' lt' m S := by
  obtain ⟨h1, h2, h3⟩ := h
  refine ⟨hs.1.trans h1, h2, fun k s hk => ?_⟩
  have hk4 : k < S.length := (List.getElem?_eq_some_iff.mp hk).1
  exact rS_same (h3 k s hk) (by omega) hs.2.1 hs.2.2
theorem rSame_r {st lg lt : Nat → Int32} {m : Nat} : rSame st lg lt st lg lt m := ⟨rfl, fun _ _ => rfl, fun _ _ => rfl⟩
theorem rSame_t {st lg lt st' lg' lt' st'' lg'' lt'' : Nat → Int32} {m : Nat} (h : rSame st lg lt st' lg' lt' m) (h2 : rSame st' lg' lt' st'' lg'' lt'' m) : rSame st lg lt st'' lg'' lt'' m := ⟨h2.1.trans h.1, fun k hk => (h2.2.1 k hk).trans (h.2.1 k hk), fun j hj => (h2.2.2 j hj).trans (h.2.2 j hj)⟩
theorem rcpy_0 {f g : Nat → Int32} {i j : Nat} : va_cpy f g i j 0 = g := by
  funext q
  unfold va_cpy
  rw [if_neg (by omega)]
theorem rcpy_st {f g : Nat → Int32} {i j k : Nat} : upd (va_cpy f g i j k) (j + k) (f (i + k)) = va_cpy f g i j (k + 1) := by
  funext q
  unfold upd va_cpy
  by_cases h : q = j + k
  · rw [if_pos h, if_pos (by omega), show i + (q - j) = i + k by omega]
  · rw [if_neg h]
    by_cases h2 : j ≤ q ∧ q < j + k
    · rw [if_pos h2, if_pos (by omega)]
    · rw [if_neg h2, if_neg (by omega)]
/-- list n is the one empty string -/
theorem rL_alone {st lg lt : Nat → Int32} {m : Nat} : rL (upd st m 1) (upd lg (4 * m) 0) lt m [[]] := by
  refine ⟨(if_pos rfl).trans (show (1 : Int32) = nI 1 by decide), by decide, fun k s hk => ?_⟩
  match k, hk with
  | 0, h =>
    have h' : [] = s := Option.some.inj h
    rw [← h']
    exact ⟨by decide, (if_pos rfl).trans (show (0 : Int32) = nI 0 by decide), fun j c hc => by simp at hc⟩
  | k + 1, h => simp at h
theorem rSame_alone {st lg lt : Nat → Int32} {m n : Nat} (h : m ≠ n) : rSame st lg lt (upd st n 1) (upd lg (4 * n) 0) lt m := ⟨if_neg h, fun k hk => if_neg (by omega), fun _ _ => rfl⟩
/-- after s strings of a list are copied -/
theorem rcp_step {lg lt : Nat → Int32} {fr to s m : Nat} (hft : fr ≠ to) (hs : s < 4) (hm : m ≠ to) : (∀ k, k < 4 → upd lg (4 * to + s) (lg (4 * fr + s)) (4 * m + k) = lg (4 * m + k)) ∧ ∀ j, j < 48 → va_cpy lt lt (48 * fr + 12 * s) (48 * to + 12 * s) 12 (48 * m + j) = lt (48 * m + j) := by
  refine ⟨fun k hk => if_neg (by omega), fun j hj => ?_⟩
  rw [va_cpy, if_neg (by omega)]
theorem rcp_new {lg lt : Nat → Int32} {fr to s : Nat} {w : List Int32} (h : rS lg lt fr s w) : rS (upd lg (4 * to + s) (lg (4 * fr + s))) (va_cpy lt lt (48 * fr + 12 * s) (48 * to + 12 * s) 12) to s w := by
  obtain ⟨g1, g2, g3⟩ := h
  refine ⟨g1, (if_pos rfl).trans g2, fun j c hj => ?_⟩
  have hj12 : j < w.length := (List.getElem?_eq_some_iff.mp hj).1
  rw [va_cpy, if_pos (by omega), show 48 * fr + 12 * s + (48 * to + 12 * s + j - (48 * to + 12 * s)) = 48 * fr + 12 * s + j by omega]
  exact g3 j c hj
theorem rcp_old {lg lt : Nat → Int32} {fr to s k : Nat} {w : List Int32} (h : rS lg lt to k w) (hk : k < s) (hs : s < 4) : rS (upd lg (4 * to + s) (lg (4 * fr + s))) (va_cpy lt lt (48 * fr + 12 * s) (48 * to + 12 * s) 12) to k w := by
  obtain ⟨g1, g2, g3⟩ := h
  refine ⟨g1, (if_neg (by omega)).trans g2, fun j c hj => ?_⟩
  have hj12 : j < w.length := (List.getElem?_eq_some_iff.mp hj).1
  rw [va_cpy, if_neg (by omega)]
  exact g3 j c hj
/-- strings, letters, lengths: the cells beside them stand as in M0 -/
def rT (M0 M : xM) (st lg lt : Nat → Int32) : Prop := M.1 = M0.1 ∧ (∀ j, j < M0.1 → j ≠ 46 → j ≠ 47 → j ≠ 48 → M.2 j = M0.2 j) ∧ M.2 46 = .inl (0, 32, .inl st) ∧ M.2 47 = .inl (0, 1536, .inl lt) ∧ M.2 48 = .inl (0, 128, .inl lg)
theorem rT_0 {M : xM} {st lg lt : Nat → Int32} (h1 : M.2 46 = .inl (0, 32, .inl st)) (h2 : M.2 47 = .inl (0, 1536, .inl lt)) (h3 : M.2 48 = .inl (0, 128, .inl lg)) : rT M M st lg lt := ⟨rfl, fun _ _ _ _ _ => rfl, h1, h2, h3⟩
theorem rT_t {M0 M M' : xM} {st lg lt st' lg' lt' : Nat → Int32} (h : rT M0 M st lg lt) (h2 : rT M M' st' lg' lt') : rT M0 M' st' lg' lt' := ⟨h2.1.trans h.1, fun j z a b c => (h2.2.1 j (by rw [h.1]; exact z) a b c).trans (h.2.1 j z a b c), h2.2.2⟩
/-- two strings behind one another are written into row y of list l -/
theorem rwr {lg lt : Nat → Int32} {a s b t l y : Nat} {u v : List Int32} (h1 : rS lg lt a s u) (h2 : v = [] ∨ (rS lg lt b t v ∧ b ≠ l ∧ t < 4)) (ha : a ≠ l) (hs : s < 4) (hy : y < 4) (h12 : u.length + v.length ≤ 12) : rS (upd lg (4 * l + y) (nI (u.length + v.length))) (va_cpy (va_cpy lt lt (48 * a + 12 * s) (48 * l + 12 * y) u.length) (va_cpy lt lt (48 * a + 12 * s) (48 * l + 12 * y) u.length) (48 * b + 12 * t) (48 * l + 12 * y + u.length) v.length) l y (u ++ v) := by
  refine ⟨by rw [List.length_append]; exact h12, by rw [List.length_append]; exact if_pos rfl, fun j c hj => ?_⟩
  have hl := (List.getElem?_eq_some_iff.mp hj).1
  rw [List.length_append] at hl
  by_cases hu : j < u.length
  · rw [List.getElem?_append_left hu] at hj
    rw [va_cpy, if_neg (by omega), va_cpy, if_pos (by omega), show 48 * a + 12 * s + (48 * l + 12 * y + j - (48 * l + 12 * y)) = 48 * a + 12 * s + j by omega]
    exact h1.2.2 j c hj
  · rw [List.getElem?_append_right (by omega)] at hj
    rcases h2 with q | ⟨⟨q1, q2, q3⟩, q4, q5⟩
    · rw [q] at hj
      simp at hj
    · rw [va_cpy, if_pos (by omega), show 48 * b + 12 * t + (48 * l + 12 * y + j - (48 * l + 12 * y + u.length)) = 48 * b + 12 * t + (j - u.length) by omega, va_cpy, if_neg (by omega)]
      exact q3 _ c hj
/-- the other rows stand -/
theorem rwr_o {lg lt : Nat → Int32} {a s b t l y m k : Nat} {u v w : List Int32} (h : rS lg lt m k w) (hk : k < 4) (hne : m ≠ l ∨ k ≠ y) (hy : y < 4) (h12 : u.length + v.length ≤ 12) : rS (upd lg (4 * l + y) (nI (u.length + v.length))) (va_cpy (va_cpy lt lt (48 * a + 12 * s) (48 * l + 12 * y) u.length) (va_cpy lt lt (48 * a + 12 * s) (48 * l + 12 * y) u.length) (48 * b + 12 * t) (48 * l + 12 * y + u.length) v.length) m k w := by
  obtain ⟨g1, g2, g3⟩ := h
  refine ⟨g1, (if_neg (by omega)).trans g2, fun j c hj => ?_⟩
  have hj12 : j < w.length := (List.getElem?_eq_some_iff.mp hj).1
  rw [va_cpy, if_neg (by omega), va_cpy, if_neg (by omega)]
  exact g3 j c hj
theorem rwr_m {st lg lt : Nat → Int32} {a s b t l y m : Nat} {u v : List Int32} {x : Int32} {g : Nat} (hm : m ≠ l) (hg : m ≠ g) (hy : y < 4) (h12 : u.length + v.length ≤ 12) : rSame st lg lt (upd st g x) (upd lg (4 * l + y) (nI (u.length + v.length))) (va_cpy (va_cpy lt lt (48 * a + 12 * s) (48 * l + 12 * y) u.length) (va_cpy lt lt (48 * a + 12 * s) (48 * l + 12 * y) u.length) (48 * b + 12 * t) (48 * l + 12 * y + u.length) v.length) m := by
  refine ⟨if_neg hg, fun k hk => if_neg (by omega), fun j hj => ?_⟩
  rw [va_cpy, if_neg (by omega), va_cpy, if_neg (by omega)]
theorem rwr_m0 {st lg lt : Nat → Int32} {a s b t l y m : Nat} {u v : List Int32} (hm : m ≠ l) (hy : y < 4) (h12 : u.length + v.length ≤ 12) : rSame st lg lt st (upd lg (4 * l + y) (nI (u.length + v.length))) (va_cpy (va_cpy lt lt (48 * a + 12 * s) (48 * l + 12 * y) u.length) (va_cpy lt lt (48 * a + 12 * s) (48 * l + 12 * y) u.length) (48 * b + 12 * t) (48 * l + 12 * y + u.length) v.length) m := by
  refine ⟨rfl, fun k hk => if_neg (by omega), fun j hj => ?_⟩
  rw [va_cpy, if_neg (by omega), va_cpy, if_neg (by omega)]
theorem rS_eq {lg lt : Nat → Int32} {a s b t : Nat} {u v : List Int32} (h1 : rS lg lt a s u) (h2 : rS lg lt b t v) : (u.length = v.length ∧ ∀ j, j < u.length → lt (48 * a + 12 * s + j) = lt (48 * b + 12 * t + j)) ↔ u = v := by
  refine ⟨fun h => List.ext_getElem? (fun j => ?_), fun h => ?_⟩
  · by_cases hj : j < u.length
    · have hj2 : j < v.length := by omega
      rw [List.getElem?_eq_getElem hj, List.getElem?_eq_getElem hj2]
      have e1 := h1.2.2 j _ (List.getElem?_eq_getElem hj)
      have e2 := h2.2.2 j _ (List.getElem?_eq_getElem hj2)
      rw [← e1, ← e2, h.2 j hj]
    · rw [List.getElem?_eq_none (by omega), List.getElem?_eq_none (by omega)]
  · subst h
    refine ⟨rfl, fun j hj => ?_⟩
    rw [h1.2.2 j _ (List.getElem?_eq_getElem hj), h2.2.2 j _ (List.getElem?_eq_getElem hj)]

/-! The needs of parts that stand behind one another, step by step -/
def vA (al : List (List Int32) → Prop) (V : Nat → Prop) (z : xNl) : Prop := (∀ S ∈ z.1, al S) ∧ ∀ c ∈ z.2.1, V c
theorem vA_0 {al : List (List Int32) → Prop} {V : Nat → Prop} : vA al V sNd0 := ⟨fun S hS => absurd hS (by simp [sNd0]), fun c hc => absurd hc (by simp [sNd0])⟩
theorem vA_nd {al : List (List Int32) → Prop} {V : Nat → Prop} {z : xNl} : vNd al V z ↔ vA al V z ∧ al z.2.2.1 := ⟨fun h => ⟨⟨h.1, h.2.1⟩, h.2.2⟩, fun h => ⟨h.1.1, h.1.2, h.2⟩⟩
theorem sFol_y {z : xNl} {c : Nat} {W J : List (List Int32)} (h : sJoin z.2.2.1 W = some J) : sFol z c (some W) = (z.1, z.2.1, J, z.2.2.2) := by
  unfold sFol
  show (match sJoin z.2.2.1 W with | none => (z.1 ++ [z.2.2.1], z.2.1, W, (0 : Int32)) | some J => (z.1, z.2.1, J, z.2.2.2)) = _
  rw [h]
theorem sFol_n {z : xNl} {c : Nat} {W : List (List Int32)} (h : sJoin z.2.2.1 W = none) : sFol z c (some W) = (z.1 ++ [z.2.2.1], z.2.1, W, 0) := by
  unfold sFol
  show (match sJoin z.2.2.1 W with | none => (z.1 ++ [z.2.2.1], z.2.1, W, (0 : Int32)) | some J => (z.1, z.2.1, J, z.2.2.2)) = _
  rw [h]
theorem sFol_o {z : xNl} {c : Nat} : sFol z c none = (z.1 ++ [z.2.2.1], z.2.1 ++ [c], [[]], 0) := rfl
theorem vA_n {al : List (List Int32) → Prop} {V : Nat → Prop} {z : xNl} {W : List (List Int32)} {x : Int32} : vA al V (z.1 ++ [z.2.2.1], z.2.1, W, x) ↔ vA al V z ∧ al z.2.2.1 := by
  unfold vA
  constructor
  · rintro ⟨h1, h2⟩
    exact ⟨⟨fun S hS => h1 S (List.mem_append.mpr (Or.inl hS)), h2⟩, h1 _ (List.mem_append.mpr (Or.inr (List.mem_singleton.mpr rfl)))⟩
  · rintro ⟨⟨h1, h2⟩, h3⟩
    refine ⟨fun S hS => ?_, h2⟩
    rcases List.mem_append.mp hS with q | q
    · exact h1 S q
    · rw [List.mem_singleton.mp q]
      exact h3
theorem vA_o {al : List (List Int32) → Prop} {V : Nat → Prop} {z : xNl} {W : List (List Int32)} {x : Int32} {c : Nat} : vA al V (z.1 ++ [z.2.2.1], z.2.1 ++ [c], W, x) ↔ (vA al V z ∧ al z.2.2.1) ∧ V c := by
  rw [← vA_n (W := W) (x := x)]
  unfold vA
  constructor
  · rintro ⟨h1, h2⟩
    exact ⟨⟨h1, fun d hd => h2 d (List.mem_append.mpr (Or.inl hd))⟩, h2 _ (List.mem_append.mpr (Or.inr (List.mem_singleton.mpr rfl)))⟩
  · rintro ⟨⟨h1, h2⟩, h3⟩
    refine ⟨h1, fun d hd => ?_⟩
    rcases List.mem_append.mp hd with q | q
    · exact h2 d q
    · rw [List.mem_singleton.mp q]
      exact h3
theorem xB_cg {p q : Prop} (h : p ↔ q) : xB p = xB q := congrArg xB (propext h)
/-- which texts a search asks of: none, or the one in slot sl -/
def rSl (sI : Int32) (tx te : Nat → Int32) (al : List (List Int32) → Prop) : Prop := (sI = -1 ∧ ∀ S, al S) ∨ ∃ sl tl, sI = nI sl ∧ sl < 128 ∧ te sl = nI tl ∧ tl ≤ 40 ∧ ∀ S, al S ↔ vAl (vHas (fun j => tx (40 * sl + j)) tl) S
/-- the same, with what the parts may -/
def rMy (sI : Int32) (my : Nat → Int32) (V : Nat → Prop) (c : Nat) : Prop := (sI = -1 ∧ V c) ∨ (¬ sI < 0 ∧ my c = xB (V c))
/-- lists 30, 31, 29 and the object may change -/
def rU (M0 M : xM) (st lg lt : Nat → Int32) : Prop := M.1 = M0.1 ∧ (∀ j, j < M0.1 → j ≠ 24 → j ≠ 46 → j ≠ 47 → j ≠ 48 → M.2 j = M0.2 j) ∧ M.2 46 = .inl (0, 32, .inl st) ∧ M.2 47 = .inl (0, 1536, .inl lt) ∧ M.2 48 = .inl (0, 128, .inl lg)
theorem rU_T {M0 M M' : xM} {st lg lt st' lg' lt' : Nat → Int32} (h : rU M0 M st lg lt) (h2 : rT M M' st' lg' lt') : rU M0 M' st' lg' lt' := ⟨h2.1.trans h.1, fun j z z2 a b c => (h2.2.1 j (by rw [h.1]; exact z) a b c).trans (h.2.1 j z z2 a b c), h2.2.2⟩
theorem rU_t {M0 M M' : xM} {st lg lt st' lg' lt' : Nat → Int32} (h : rU M0 M st lg lt) (h2 : rU M M' st' lg' lt') : rU M0 M' st' lg' lt' := ⟨h2.1.trans h.1, fun j z z2 a b c => (h2.2.1 j (by rw [h.1]; exact z) z2 a b c).trans (h.2.1 j z z2 a b c), h2.2.2⟩
theorem rT_U {M0 M : xM} {st lg lt : Nat → Int32} (h : rT M0 M st lg lt) : rU M0 M st lg lt := ⟨h.1, fun j z _ => h.2.1 j z, h.2.2⟩
/-- what is known of a part's strings -/
def rKn (st lg lt kn : Nat → Int32) (W : Nat → Option (List (List Int32))) (c : Nat) : Prop := c < 29 ∧ ((W c = none ∧ kn c = 0) ∨ ∃ S, W c = some S ∧ kn c = 1 ∧ rL st lg lt c S)
theorem rKn_same {st lg lt st' lg' lt' kn : Nat → Int32} {W : Nat → Option (List (List Int32))} {c : Nat} (h : rKn st lg lt kn W c) (hs : ∀ m, m < 29 → rSame st lg lt st' lg' lt' m) : rKn st' lg' lt' kn W c := by
  obtain ⟨h1, h2⟩ := h
  refine ⟨h1, h2.imp_right ?_⟩
  rintro ⟨S, a, b, e⟩
  exact ⟨S, a, b, rL_same e (hs c h1)⟩

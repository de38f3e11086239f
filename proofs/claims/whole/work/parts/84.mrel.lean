/-! The reference's arrays against the pure machine -/
theorem xCn_fr {nx nx' : Nat → Int32} : ∀ {l : List Nat} {p : Int32}, xCn nx p l → (∀ c ∈ l, nx' c = nx c) → xCn nx' p l
  | [], _, h, _ => h
  | a :: l, _, h, e => ⟨h.1, by
    rw [e a List.mem_cons_self]
    exact xCn_fr h.2 (fun c hc => e c (List.mem_cons_of_mem _ hc))⟩
/-- a chain grows at its end -/
theorem xCn_app {nx nx' : Nat → Int32} {n : Nat} : ∀ {l : List Nat} {p : Int32}, xCn nx p l → l ≠ [] → l.Pairwise (fun x y => x < y) → (∀ c ∈ l, ¬ some c = l.getLast? → nx' c = nx c) → (∀ c, some c = l.getLast? → nx' c = nI n) → nx' n = -1 → xCn nx' p (l ++ [n])
  | [], _, _, h, _, _, _, _ => absurd rfl h
  | [a], _, h, _, _, _, e2, e3 => ⟨h.1, e2 a rfl, by rw [e3]; rfl⟩
  | a :: b :: l, _, h, _, hp, e1, e2, e3 => by
    rw [List.pairwise_cons] at hp
    have hl : (a :: b :: l).getLast? = (b :: l).getLast? := rfl
    have hne : ¬ some a = (a :: b :: l).getLast? := by
      rw [hl]
      intro q
      have hm := List.mem_of_getLast? q.symm
      have := hp.1 a hm
      omega
    refine ⟨h.1, ?_⟩
    rw [e1 a List.mem_cons_self hne]
    refine xCn_app (l := b :: l) h.2 (by simp) hp.2 (fun c hc hn => e1 c (List.mem_cons_of_mem _ hc) (by rw [hl]; exact hn)) (fun c hc => e2 c (by rw [hl]; exact hc)) e3
/-- the last of a list, as the reference keeps it -/
def xla (l : List Nat) : Int32 := (l.getLast?.map nI).getD (-1)
theorem xla_app (l : List Nat) (n : Nat) : xla (l ++ [n]) = nI n := by
  unfold xla
  rw [List.getLast?_concat]
  rfl
/-- the piece before each piece -/
def xBe (be : Nat → Int32) (l : List Nat) : Prop := ∀ a b c, l = a ++ c :: b → be c = xla a
theorem xBe_fr {be be' : Nat → Int32} {l : List Nat} (h : xBe be l) (e : ∀ c ∈ l, be' c = be c) : xBe be' l := by
  intro a b c q
  rw [e c (by rw [q]; simp)]
  exact h a b c q
theorem xBe_app {be be' : Nat → Int32} {l : List Nat} {n : Nat} (h : xBe be l) (hn : n ∉ l) (e : ∀ c ∈ l, be' c = be c) (en : be' n = xla l) : xBe be' (l ++ [n]) := by
  intro a b c q
  rcases xsnoc b with z | ⟨b', y, z⟩
  · rw [z] at q
    obtain ⟨q1, q2⟩ := xsnoc_inj q
    rw [← q1, ← q2]
    exact en
  · rw [z, show a ++ c :: (b' ++ [y]) = (a ++ c :: b') ++ [y] by simp] at q
    obtain ⟨q1, q2⟩ := xsnoc_inj q
    rw [e c (by rw [q1]; simp)]
    exact h a b' c q1
/-- a level by its depth -/
def plv (σ : xSg) (e : Nat) : Option (List Nat × List Nat) := if e < σ.2.2.2.length then σ.2.2.2[σ.2.2.2.length - 1 - e]? else none
/-- a node in the arrays -/
def nS (kd ch nx lo hi wt cs : Nat → Int32) (i : Nat) (q : xNode) : Prop := kd i = nI q.1 ∧ wt i = q.2.1 ∧ (q.1 = 1 → ∀ c, c < 95 → cs (95 * i + c) = if q.2.2.2.2.2 c = true then 1 else 0) ∧ (q.1 = 4 → ∃ e, q.2.2.1 = [e] ∧ ch i = nI e ∧ lo i = q.2.2.2.1 ∧ hi i = q.2.2.2.2.1) ∧ (5 ≤ q.1 → xCn nx (ch i) q.2.2.1)
/-- a level in the arrays -/
def lS (nx be fP lP fB lB : Nat → Int32) (e : Nat) (v : List Nat × List Nat) : Prop := xCn nx (fP e) v.2 ∧ xCn nx (fB e) v.1 ∧ lP e = xla v.2 ∧ lB e = xla v.1 ∧ xBe be v.2
def mA (kd ch nx be lo hi wt cs fP lP fB lB : Nat → Int32) (σ : xSg) : Prop := (∀ i q, σ.2.2.1[i]? = some q → nS kd ch nx lo hi wt cs i q) ∧ ∀ e v, plv σ e = some v → lS nx be fP lP fB lB e v
/-- each number stands in one list alone -/
def pW (σ : xSg) : Prop := σ.2.2.2 ≠ [] ∧ σ.2.2.2.length ≤ 7 ∧ σ.1 ≤ 24 ∧ σ.2.2.1.length + σ.2.2.2.length ≤ σ.1 + 1 ∧ ∃ ow : Nat → Nat, (∀ i q, σ.2.2.1[i]? = some q → ∀ c ∈ q.2.2.1, c < i ∧ ow c = i) ∧ ∀ e v, plv σ e = some v → (∀ c ∈ v.1, c < σ.2.2.1.length ∧ ow c = 1000 + 2 * e) ∧ (∀ c ∈ v.2, c < σ.2.2.1.length ∧ ow c = 1001 + 2 * e) ∧ v.1.Pairwise (fun x y => x < y) ∧ v.2.Pairwise (fun x y => x < y)
theorem nS_fr {kd ch nx lo hi wt cs kd' ch' nx' lo' hi' wt' cs' : Nat → Int32} {i : Nat} {q : xNode} (h : nS kd ch nx lo hi wt cs i q) (e1 : kd' i = kd i) (e2 : wt' i = wt i) (e3 : ∀ c, c < 95 → cs' (95 * i + c) = cs (95 * i + c)) (e4 : ch' i = ch i) (e5 : lo' i = lo i) (e6 : hi' i = hi i) (e7 : ∀ c ∈ q.2.2.1, nx' c = nx c) : nS kd' ch' nx' lo' hi' wt' cs' i q := by
  obtain ⟨h1, h2, h3, h4, h5⟩ := h
  refine ⟨e1.trans h1, e2.trans h2, fun z c hc => (e3 c hc).trans (h3 z c hc), fun z => ?_, fun z => ?_⟩
  · obtain ⟨e, g1, g2, g3, g4⟩ := h4 z
    exact ⟨e, g1, e4.trans g2, e5.trans g3, e6.trans g4⟩
  · rw [e4]
    exact xCn_fr (h5 z) e7
theorem lS_fr {nx be fP lP fB lB nx' be' fP' lP' fB' lB' : Nat → Int32} {e : Nat} {v : List Nat × List Nat} (h : lS nx be fP lP fB lB e v) (e1 : ∀ c ∈ v.1, nx' c = nx c) (e2 : ∀ c ∈ v.2, nx' c = nx c) (e3 : ∀ c ∈ v.2, be' c = be c) (e4 : fP' e = fP e) (e5 : lP' e = lP e) (e6 : fB' e = fB e) (e7 : lB' e = lB e) : lS nx' be' fP' lP' fB' lB' e v := by
  obtain ⟨h1, h2, h3, h4, h5⟩ := h
  exact ⟨by rw [e4]; exact xCn_fr h1 e2, by rw [e6]; exact xCn_fr h2 e1, e5.trans h3, e7.trans h4, xBe_fr h5 e3⟩
/-- the levels of a state whose innermost level alone is another -/
theorem plv_top {a : Nat} {x : Int32} {A A' : List xNode} {t t' : List Nat × List Nat} {r : List (List Nat × List Nat)} {e : Nat} {v : List Nat × List Nat} (h : plv (a, x, A', t' :: r) e = some v) : (e = r.length ∧ v = t') ∨ (e < r.length ∧ plv (a, x, A, t :: r) e = some v) := by
  unfold plv at h ⊢
  simp only [List.length_cons] at h ⊢
  by_cases he : e < r.length + 1
  · rw [if_pos he] at h
    by_cases q : e = r.length
    · refine Or.inl ⟨q, ?_⟩
      rw [q, show r.length + 1 - 1 - r.length = 0 by omega] at h
      exact (Option.some.inj h).symm
    · refine Or.inr ⟨by omega, ?_⟩
      rw [if_pos he]
      obtain ⟨k, hk⟩ : ∃ k, r.length + 1 - 1 - e = k + 1 := ⟨r.length - e - 1, by omega⟩
      rw [hk] at h ⊢
      exact h
  · rw [if_neg he] at h
    cases h
theorem plv_mine {a : Nat} {x : Int32} {A : List xNode} {t : List Nat × List Nat} {r : List (List Nat × List Nat)} : plv (a, x, A, t :: r) r.length = some t := by
  unfold plv
  simp

/-! A repetition, a new group, on the reference's arrays -/
/-- the last link of a chain is another -/
theorem xCn_rep {nx nx' : Nat → Int32} {n e : Nat} : ∀ {l : List Nat} {p : Int32}, xCn nx p (l ++ [e]) → l ≠ [] → l.Pairwise (fun x y => x < y) → (∀ c ∈ l, ¬ some c = l.getLast? → nx' c = nx c) → (∀ c, some c = l.getLast? → nx' c = nI n) → nx' n = -1 → xCn nx' p (l ++ [n])
  | [], _, _, h, _, _, _, _ => absurd rfl h
  | [a], _, h, _, _, _, e2, e3 => ⟨h.1, e2 a rfl, by rw [e3]; rfl⟩
  | a :: b :: l, _, h, _, hp, e1, e2, e3 => by
    rw [List.pairwise_cons] at hp
    have hl : (a :: b :: l).getLast? = (b :: l).getLast? := rfl
    have hne : ¬ some a = (a :: b :: l).getLast? := by
      rw [hl]
      intro q
      have hm := List.mem_of_getLast? q.symm
      have := hp.1 a hm
      omega
    refine ⟨h.1, ?_⟩
    rw [e1 a List.mem_cons_self hne]
    exact xCn_rep (l := b :: l) h.2 (by simp) hp.2 (fun c hc hn => e1 c (List.mem_cons_of_mem _ hc) (by rw [hl]; exact hn)) (fun c hc => e2 c (by rw [hl]; exact hc)) e3
section mRepO
variable {a a' : Nat} {x x' : Int32} {A : List xNode} {t1 l : List Nat} {e : Nat} {r : List (List Nat × List Nat)} {q : xNode} {kd ch nx be lo hi wt cs fP lP fB lB kd' ch' nx' be' lo' hi' wt' cs' fP' lP' fB' lB' : Nat → Int32}
theorem mA_rep (hA : mA kd ch nx be lo hi wt cs fP lP fB lB (a, x, A, (t1, l ++ [e]) :: r)) (hW : pW (a, x, A, (t1, l ++ [e]) :: r)) (k1 : ∀ i, i < A.length → kd' i = kd i ∧ wt' i = wt i ∧ ch' i = ch i ∧ lo' i = lo i ∧ hi' i = hi i ∧ ∀ c, c < 95 → cs' (95 * i + c) = cs (95 * i + c)) (kn : nS kd' ch' nx' lo' hi' wt' cs' A.length q) (kx : ∀ c, c < A.length → ¬ some c = l.getLast? → c ≠ e → nx' c = nx c) (kl : ∀ c, some c = l.getLast? → nx' c = nI A.length) (kz : nx' A.length = -1) (kb : ∀ c, c < A.length → be' c = be c) (kbn : be' A.length = be e) (kf : fP' r.length = if l = [] then nI A.length else fP r.length) (kf2 : ∀ e, e < r.length → fP' e = fP e) (kp : lP' r.length = nI A.length) (kp2 : ∀ e, e < r.length → lP' e = lP e) (kB : ∀ e, e ≤ r.length → fB' e = fB e ∧ lB' e = lB e) : mA kd' ch' nx' be' lo' hi' wt' cs' fP' lP' fB' lB' (a', x', A ++ [q], (t1, l ++ [A.length]) :: r) := by
  obtain ⟨g1, g2, g3⟩ := pW_tag hW
  obtain ⟨-, -, -, -, ow, w1, w2⟩ := hW
  have wt1 := w2 r.length (t1, l ++ [e]) plv_mine
  have hl1 : ∀ c ∈ l, c < A.length ∧ ow c = 1001 + 2 * r.length := fun c hc => wt1.2.1 c (List.mem_append_left _ hc)
  have he1 : e < A.length ∧ ow e = 1001 + 2 * r.length := wt1.2.1 e (by simp)
  have hpw : l.Pairwise (fun x y => x < y) ∧ ∀ c ∈ l, c < e := by
    have h9 : (l ++ [e]).Pairwise (fun x y => x < y) := wt1.2.2.2
    rw [List.pairwise_append] at h9
    exact ⟨h9.1, fun c hc => h9.2.2 c hc e (by simp)⟩
  have oth : ∀ c, c < A.length → ¬ ow c = 1001 + 2 * r.length → nx' c = nx c := fun c z1 z2 => kx c z1 (fun z => z2 (hl1 c (xlast_mem z)).2) (fun z => z2 (by rw [z]; exact he1.2))
  refine ⟨fun i p hp => ?_, fun e2 v hv => ?_⟩
  · have hp' : (A ++ [q])[i]? = some p := hp
    by_cases hi9 : i < A.length
    · have hpo : A[i]? = some p := (List.getElem?_append_left hi9).symm.trans hp'
      obtain ⟨z1, z2, z3, z4, z5, z6⟩ := k1 i hi9
      refine nS_fr (hA.1 i p hpo) z1 z2 z6 z3 z4 z5 (fun c hc => ?_)
      obtain ⟨y1, y2⟩ := w1 i p hpo c hc
      exact oth c (by omega) (by omega)
    · have hh := (List.getElem?_eq_some_iff.mp hp').1
      rw [List.length_append, List.length_singleton] at hh
      have hi8 : i = A.length := by omega
      rw [hi8, List.getElem?_append_right (Nat.le_refl _), Nat.sub_self] at hp'
      have hq : q = p := Option.some.inj hp'
      rw [hi8, ← hq]
      exact kn
  · rcases plv_top (A := A) (t := (t1, l ++ [e])) hv with ⟨he, hv2⟩ | ⟨he, hv2⟩
    · rw [he, hv2]
      obtain ⟨u1, u2, u3, u4, u5⟩ := hA.2 r.length (t1, l ++ [e]) plv_mine
      refine ⟨?_, ?_, ?_, ?_, ?_⟩
      · show xCn nx' (fP' r.length) (l ++ [A.length])
        by_cases h0 : l = []
        · rw [kf, if_pos h0, h0]
          exact ⟨rfl, kz⟩
        · rw [kf, if_neg h0]
          exact xCn_rep u1 h0 hpw.1 (fun c hc hn => kx c (hl1 c hc).1 hn (Nat.ne_of_lt (hpw.2 c hc))) kl kz
      · show xCn nx' (fB' r.length) t1
        rw [(kB r.length (Nat.le_refl _)).1]
        exact xCn_fr u2 (fun c hc => oth c (wt1.1 c hc).1 (by have := (wt1.1 c hc).2; omega))
      · show lP' r.length = xla (l ++ [A.length])
        rw [kp, xla_app]
      · show lB' r.length = xla t1
        rw [(kB r.length (Nat.le_refl _)).2]
        exact u4
      · show xBe be' (l ++ [A.length])
        have u6 : xBe be l := fun a b c z => u5 a (b ++ [e]) c (by show l ++ [e] = _; rw [z]; simp)
        refine xBe_app u6 (fun z => absurd (hl1 _ z).1 (Nat.lt_irrefl _)) (fun c hc => kb c (hl1 c hc).1) ?_
        rw [kbn]
        exact u5 l [] e rfl
    · have wv := w2 e2 v hv2
      refine lS_fr (hA.2 e2 v hv2) (fun c hc => oth c (wv.1 c hc).1 ?_) (fun c hc => oth c (wv.2.1 c hc).1 ?_) (fun c hc => kb c (wv.2.1 c hc).1) (kf2 e2 he) (kp2 e2 he) (kB e2 (Nat.le_of_lt he)).1 (kB e2 (Nat.le_of_lt he)).2
      · have := (wv.1 c hc).2
        omega
      · have := (wv.2.1 c hc).2
        omega
theorem pW_rep (hW : pW (a, x, A, (t1, l ++ [e]) :: r)) (hq : q.2.2.1 = [e]) (ha : A.length + r.length + 1 ≤ a') (ha2 : a' ≤ 24) : pW (a', x', A ++ [q], (t1, l ++ [A.length]) :: r) := by
  obtain ⟨g1, g2, g3⟩ := pW_tag hW
  obtain ⟨-, -, -, -, ow, w1, w2⟩ := id hW
  have w2 : ∀ e2 v, plv (a, x, A, (t1, l ++ [e]) :: r) e2 = some v → (∀ c ∈ v.1, c < A.length ∧ ow c = 1000 + 2 * e2) ∧ (∀ c ∈ v.2, c < A.length ∧ ow c = 1001 + 2 * e2) ∧ v.1.Pairwise (fun x y => x < y) ∧ v.2.Pairwise (fun x y => x < y) := w2
  have wt1 := w2 r.length (t1, l ++ [e]) plv_mine
  have h9 : (l ++ [e]).Pairwise (fun x y => x < y) := wt1.2.2.2
  rw [List.pairwise_append] at h9
  have hne : ∀ c ∈ l, c ≠ e := fun c hc => Nat.ne_of_lt (h9.2.2 c hc e (by simp))
  have he1 := wt1.2.1 e (by simp)
  have hlow : ∀ e2 v, plv (a, x, A, (t1, l) :: r) e2 = some v → (∀ c ∈ v.1, c < A.length ∧ (if c = e then 5000 else ow c) = 1000 + 2 * e2) ∧ (∀ c ∈ v.2, c < A.length ∧ (if c = e then 5000 else ow c) = 1001 + 2 * e2) ∧ v.1.Pairwise (fun x y => x < y) ∧ v.2.Pairwise (fun x y => x < y) := by
    intro e2 v hv
    rcases plv_top (A := A) (t := (t1, l ++ [e])) hv with ⟨he, hv2⟩ | ⟨he, hv2⟩
    · rw [he, hv2]
      refine ⟨fun c hc => ⟨(wt1.1 c hc).1, ?_⟩, fun c hc => ⟨(wt1.2.1 c (List.mem_append_left _ hc)).1, ?_⟩, wt1.2.2.1, h9.1⟩
      · rw [if_neg (fun z => by have := (wt1.1 c hc).2; rw [z, he1.2] at this; omega)]
        exact (wt1.1 c hc).2
      · rw [if_neg (hne c hc)]
        exact (wt1.2.1 c (List.mem_append_left _ hc)).2
    · have wv := w2 e2 v hv2
      refine ⟨fun c hc => ⟨(wv.1 c hc).1, ?_⟩, fun c hc => ⟨(wv.2.1 c hc).1, ?_⟩, wv.2.2.1, wv.2.2.2⟩
      · rw [if_neg (fun z => by have := (wv.1 c hc).2; rw [z, he1.2] at this; omega)]
        exact (wv.1 c hc).2
      · rw [if_neg (fun z => by have := (wv.2.1 c hc).2; rw [z, he1.2] at this; omega)]
        exact (wv.2.1 c hc).2
  have w1' : ∀ i p, A[i]? = some p → ∀ c ∈ p.2.2.1, c < i ∧ (if c = e then 5000 else ow c) = i := fun i p hp c hc => by
    obtain ⟨y1, y2⟩ := w1 i p hp c hc
    have hi9 : i < A.length := (List.getElem?_eq_some_iff.mp hp).1
    refine ⟨y1, ?_⟩
    rw [if_neg (fun z => by rw [z, he1.2] at y2; omega)]
    exact y2
  have hW2 : pW (a, x, A, (t1, l) :: r) := ⟨by simp, by show r.length + 1 ≤ 7; omega, g2, by show A.length + (r.length + 1) ≤ a + 1; omega, fun c => if c = e then 5000 else ow c, w1', hlow⟩
  exact pW_piece hW2 (τ := 5000) (ow := fun c => if c = e then 5000 else ow c) w1' hlow (by omega) (fun c hc => by
    rw [hq] at hc
    have hce : c = e := by simpa using hc
    exact ⟨by rw [hce]; exact he1.1, if_pos hce⟩) ha ha2
end mRepO
section mPush
variable {a a' : Nat} {x x' : Int32} {A : List xNode} {t : List Nat × List Nat} {r : List (List Nat × List Nat)} {kd ch nx be lo hi wt cs fP lP fB lB fP' lP' fB' lB' : Nat → Int32}
theorem plv_push {e : Nat} {v : List Nat × List Nat} (h : plv (a', x', A, ([], []) :: t :: r) e = some v) : (e = r.length + 1 ∧ v = ([], [])) ∨ (e ≤ r.length ∧ plv (a, x, A, t :: r) e = some v) := by
  unfold plv at h ⊢
  simp only [List.length_cons] at h ⊢
  by_cases he : e < r.length + 1 + 1
  · rw [if_pos he] at h
    by_cases q : e = r.length + 1
    · refine Or.inl ⟨q, ?_⟩
      rw [q, show r.length + 1 + 1 - 1 - (r.length + 1) = 0 by omega] at h
      exact (Option.some.inj h).symm
    · refine Or.inr ⟨by omega, ?_⟩
      rw [if_pos (by omega)]
      rw [show r.length + 1 + 1 - 1 - e = (r.length + 1 - 1 - e) + 1 by omega] at h
      exact h
  · rw [if_neg he] at h
    cases h
theorem mA_push (hA : mA kd ch nx be lo hi wt cs fP lP fB lB (a, x, A, t :: r)) (k1 : fP' (r.length + 1) = -1 ∧ lP' (r.length + 1) = -1 ∧ fB' (r.length + 1) = -1 ∧ lB' (r.length + 1) = -1) (k2 : ∀ e, e ≤ r.length → fP' e = fP e ∧ lP' e = lP e ∧ fB' e = fB e ∧ lB' e = lB e) : mA kd ch nx be lo hi wt cs fP' lP' fB' lB' (a', x', A, ([], []) :: t :: r) := by
  refine ⟨hA.1, fun e v hv => ?_⟩
  rcases plv_push (a := a) (x := x) hv with ⟨he, hv2⟩ | ⟨he, hv2⟩
  · rw [he, hv2]
    exact ⟨k1.1, k1.2.2.1, k1.2.1, k1.2.2.2, fun a b c z => by have z' : [] = a ++ c :: b := z; simp at z'⟩
  · obtain ⟨z1, z2, z3, z4⟩ := k2 e he
    exact lS_fr (hA.2 e v hv2) (fun _ _ => rfl) (fun _ _ => rfl) (fun _ _ => rfl) z1 z2 z3 z4
theorem pW_push (hW : pW (a, x, A, t :: r)) (hr : r.length < 6) (ha : A.length + r.length + 1 ≤ a') (ha2 : a' ≤ 24) : pW (a', x', A, ([], []) :: t :: r) := by
  obtain ⟨-, -, -, -, ow, w1, w2⟩ := hW
  refine ⟨by simp, by show r.length + 1 + 1 ≤ 7; omega, ha2, by show A.length + (r.length + 1 + 1) ≤ a' + 1; omega, ow, w1, fun e v hv => ?_⟩
  rcases plv_push (a := a) (x := x) hv with ⟨he, hv2⟩ | ⟨he, hv2⟩
  · rw [hv2]
    exact ⟨fun c hc => absurd hc (by simp), fun c hc => absurd hc (by simp), List.Pairwise.nil, List.Pairwise.nil⟩
  · exact w2 e v hv2
/-- the innermost level is taken away -/
theorem mA_pop {b : List Nat × List Nat} (hA : mA kd ch nx be lo hi wt cs fP lP fB lB (a, x, A, b :: t :: r)) : mA kd ch nx be lo hi wt cs fP lP fB lB (a', x', A, t :: r) := by
  refine ⟨hA.1, fun e v hv => hA.2 e v ?_⟩
  unfold plv at hv ⊢
  simp only [List.length_cons] at hv ⊢
  by_cases he : e < r.length + 1
  · rw [if_pos he] at hv
    rw [if_pos (by omega), show r.length + 1 + 1 - 1 - e = (r.length + 1 - 1 - e) + 1 by omega]
    exact hv
  · rw [if_neg he] at hv
    cases hv
end mPush

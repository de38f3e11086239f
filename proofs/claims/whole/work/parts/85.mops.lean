/-! Each step of the pure machine, on the reference's arrays -/
theorem xlast_mem {l : List Nat} {c : Nat} (h : some c = l.getLast?) : c ∈ l := List.mem_of_getLast? h.symm
theorem pW_tag {a : Nat} {x : Int32} {A : List xNode} {t : List Nat × List Nat} {r : List (List Nat × List Nat)} (hW : pW (a, x, A, t :: r)) : A.length + r.length ≤ a ∧ a ≤ 24 ∧ r.length ≤ 6 := by
  obtain ⟨-, h1, h2, h3, -⟩ := hW
  simp only [List.length_cons] at h1 h3
  have h2' : a ≤ 24 := h2
  omega
section mOps
variable {a a' : Nat} {x x' : Int32} {A : List xNode} {t : List Nat × List Nat} {r : List (List Nat × List Nat)} {q : xNode} {kd ch nx be lo hi wt cs fP lP fB lB kd' ch' nx' be' lo' hi' wt' cs' fP' lP' fB' lB' : Nat → Int32}
/-- a node is made and stands as the newest piece -/
theorem mA_piece (hA : mA kd ch nx be lo hi wt cs fP lP fB lB (a, x, A, t :: r)) (hW : pW (a, x, A, t :: r)) (k1 : ∀ i, i < A.length → kd' i = kd i ∧ wt' i = wt i ∧ ch' i = ch i ∧ lo' i = lo i ∧ hi' i = hi i ∧ ∀ c, c < 95 → cs' (95 * i + c) = cs (95 * i + c)) (kn : nS kd' ch' nx' lo' hi' wt' cs' A.length q) (kx : ∀ c, c < A.length → ¬ some c = t.2.getLast? → nx' c = nx c) (kl : ∀ c, some c = t.2.getLast? → nx' c = nI A.length) (kz : nx' A.length = -1) (kb : ∀ c, c < A.length → be' c = be c) (kbn : be' A.length = xla t.2) (kf : fP' r.length = if t.2 = [] then nI A.length else fP r.length) (kf2 : ∀ e, e < r.length → fP' e = fP e) (kp : lP' r.length = nI A.length) (kp2 : ∀ e, e < r.length → lP' e = lP e) (kB : ∀ e, e ≤ r.length → fB' e = fB e ∧ lB' e = lB e) : mA kd' ch' nx' be' lo' hi' wt' cs' fP' lP' fB' lB' (a', x', A ++ [q], (t.1, t.2 ++ [A.length]) :: r) := by
  obtain ⟨g1, g2, g3⟩ := pW_tag hW
  obtain ⟨-, -, -, -, ow, w1, w2⟩ := hW
  have wt1 := w2 r.length t plv_mine
  have hlast : ∀ c, some c = t.2.getLast? → ow c = 1001 + 2 * r.length := fun c hc => (wt1.2.1 c (xlast_mem hc)).2
  refine ⟨fun i p hp => ?_, fun e v hv => ?_⟩
  · have hp' : (A ++ [q])[i]? = some p := hp
    by_cases hi9 : i < A.length
    · have hpo : A[i]? = some p := (List.getElem?_append_left hi9).symm.trans hp'
      obtain ⟨z1, z2, z3, z4, z5, z6⟩ := k1 i hi9
      refine nS_fr (hA.1 i p hpo) z1 z2 z6 z3 z4 z5 (fun c hc => ?_)
      obtain ⟨y1, y2⟩ := w1 i p hpo c hc
      exact kx c (by omega) (fun z => by have := hlast c z; omega)
    · have hh := (List.getElem?_eq_some_iff.mp hp').1
      rw [List.length_append, List.length_singleton] at hh
      have hi8 : i = A.length := by omega
      rw [hi8, List.getElem?_append_right (Nat.le_refl _), Nat.sub_self] at hp'
      have hq : q = p := Option.some.inj hp'
      rw [hi8, ← hq]
      exact kn
  · rcases plv_top (A := A) (t := t) hv with ⟨he, hv2⟩ | ⟨he, hv2⟩
    · rw [he, hv2]
      obtain ⟨u1, u2, u3, u4, u5⟩ := hA.2 r.length t plv_mine
      refine ⟨?_, ?_, ?_, ?_, ?_⟩
      · show xCn nx' (fP' r.length) (t.2 ++ [A.length])
        by_cases h0 : t.2 = []
        · rw [kf, if_pos h0, h0]
          exact ⟨rfl, kz⟩
        · rw [kf, if_neg h0]
          exact xCn_app u1 h0 wt1.2.2.2 (fun c hc hn => kx c (wt1.2.1 c hc).1 hn) kl kz
      · show xCn nx' (fB' r.length) t.1
        rw [(kB r.length (Nat.le_refl _)).1]
        exact xCn_fr u2 (fun c hc => kx c (wt1.1 c hc).1 (fun z => by have := hlast c z; have := (wt1.1 c hc).2; omega))
      · show lP' r.length = xla (t.2 ++ [A.length])
        rw [kp, xla_app]
      · show lB' r.length = xla t.1
        rw [(kB r.length (Nat.le_refl _)).2]
        exact u4
      · show xBe be' (t.2 ++ [A.length])
        exact xBe_app u5 (fun z => absurd (wt1.2.1 _ z).1 (Nat.lt_irrefl _)) (fun c hc => kb c (wt1.2.1 c hc).1) kbn
    · have wv := w2 e v hv2
      refine lS_fr (hA.2 e v hv2) (fun c hc => kx c (wv.1 c hc).1 (fun z => ?_)) (fun c hc => kx c (wv.2.1 c hc).1 (fun z => ?_)) (fun c hc => kb c (wv.2.1 c hc).1) (kf2 e he) (kp2 e he) (kB e (Nat.le_of_lt he)).1 (kB e (Nat.le_of_lt he)).2
      · have := hlast c z
        have := (wv.1 c hc).2
        omega
      · have := hlast c z
        have := (wv.2.1 c hc).2
        omega
/-- numbers stay apart; the children of the new node are of a list that is gone -/
theorem pW_piece (hW : pW (a, x, A, t :: r)) {τ : Nat} {ow : Nat → Nat} (w1 : ∀ i p, A[i]? = some p → ∀ c ∈ p.2.2.1, c < i ∧ ow c = i) (w2 : ∀ e v, plv (a, x, A, t :: r) e = some v → (∀ c ∈ v.1, c < A.length ∧ ow c = 1000 + 2 * e) ∧ (∀ c ∈ v.2, c < A.length ∧ ow c = 1001 + 2 * e) ∧ v.1.Pairwise (fun x y => x < y) ∧ v.2.Pairwise (fun x y => x < y)) (hτ : 1001 + 2 * r.length < τ) (hq : ∀ c ∈ q.2.2.1, c < A.length ∧ ow c = τ) (ha : A.length + r.length + 1 ≤ a') (ha2 : a' ≤ 24) : pW (a', x', A ++ [q], (t.1, t.2 ++ [A.length]) :: r) := by
  obtain ⟨g1, g2, g3⟩ := pW_tag hW
  refine ⟨by simp, by show r.length + 1 ≤ 7; omega, ha2, ?_, fun c => if c = A.length then 1001 + 2 * r.length else if ow c = τ then A.length else ow c, fun i p hp c hc => ?_, fun e v hv => ?_⟩
  · show (A ++ [q]).length + (r.length + 1) ≤ a' + 1
    rw [List.length_append, List.length_singleton]
    omega
  · have hp' : (A ++ [q])[i]? = some p := hp
    by_cases hi9 : i < A.length
    · have hpo : A[i]? = some p := (List.getElem?_append_left hi9).symm.trans hp'
      obtain ⟨y1, y2⟩ := w1 i p hpo c hc
      refine ⟨y1, ?_⟩
      show (if c = A.length then _ else if ow c = τ then _ else _) = _
      rw [if_neg (by omega), if_neg (by omega)]
      exact y2
    · have hh := (List.getElem?_eq_some_iff.mp hp').1
      rw [List.length_append, List.length_singleton] at hh
      have hi8 : i = A.length := by omega
      rw [hi8, List.getElem?_append_right (Nat.le_refl _), Nat.sub_self] at hp'
      have hqp : q = p := Option.some.inj hp'
      rw [← hqp] at hc
      obtain ⟨y1, y2⟩ := hq c hc
      refine ⟨by omega, ?_⟩
      show (if c = A.length then _ else if ow c = τ then _ else _) = _
      rw [if_neg (by omega), if_pos y2, hi8]
  · have hlen : (A ++ [q]).length = A.length + 1 := by rw [List.length_append, List.length_singleton]
    have key : ∀ c k, c < A.length → ow c = k → k < τ → (if c = A.length then 1001 + 2 * r.length else if ow c = τ then A.length else ow c) = k := fun c k z1 z2 z3 => by
      rw [if_neg (by omega), if_neg (by omega)]
      exact z2
    rcases plv_top (A := A) (t := t) hv with ⟨he, hv2⟩ | ⟨he, hv2⟩
    · have wv := w2 r.length t plv_mine
      rw [he, hv2]
      refine ⟨fun c hc => ⟨?_, ?_⟩, fun c hc => ?_, wv.2.2.1, ?_⟩
      · show c < (A ++ [q]).length
        have := (wv.1 c hc).1
        omega
      · exact key c _ (wv.1 c hc).1 (wv.1 c hc).2 (by omega)
      · rcases List.mem_append.mp hc with h | h
        · refine ⟨?_, key c _ (wv.2.1 c h).1 (wv.2.1 c h).2 (by omega)⟩
          show c < (A ++ [q]).length
          have := (wv.2.1 c h).1
          omega
        · have hcn : c = A.length := by simpa using h
          refine ⟨?_, if_pos hcn⟩
          show c < (A ++ [q]).length
          omega
      · show (t.2 ++ [A.length]).Pairwise (fun x y => x < y)
        rw [List.pairwise_append]
        refine ⟨wv.2.2.2, List.pairwise_singleton _ _, fun y hy z hz => ?_⟩
        have hz' : z = A.length := by simpa using hz
        rw [hz']
        exact (wv.2.1 y hy).1
    · have wv := w2 e v hv2
      refine ⟨fun c hc => ⟨?_, key c _ (wv.1 c hc).1 (wv.1 c hc).2 (by omega)⟩, fun c hc => ⟨?_, key c _ (wv.2.1 c hc).1 (wv.2.1 c hc).2 (by omega)⟩, wv.2.2.1, wv.2.2.2⟩
      · show c < (A ++ [q]).length
        have := (wv.1 c hc).1
        omega
      · show c < (A ++ [q]).length
        have := (wv.2.1 c hc).1
        omega
/-- the pieces become a branch -/
theorem mA_endB (hA : mA kd ch nx be lo hi wt cs fP lP fB lB (a, x, A, t :: r)) (hW : pW (a, x, A, t :: r)) (k1 : ∀ i, i < A.length → kd' i = kd i ∧ wt' i = wt i ∧ ch' i = ch i ∧ lo' i = lo i ∧ hi' i = hi i ∧ ∀ c, c < 95 → cs' (95 * i + c) = cs (95 * i + c)) {w : Int32} (kk : kd' A.length = nI 5) (kw : wt' A.length = w) (kc : ch' A.length = fP r.length) (kx : ∀ c, c < A.length → ¬ some c = t.1.getLast? → nx' c = nx c) (kl : ∀ c, some c = t.1.getLast? → nx' c = nI A.length) (kz : nx' A.length = -1) (kf : fB' r.length = if t.1 = [] then nI A.length else fB r.length) (kf2 : ∀ e, e < r.length → fB' e = fB e) (kp : lB' r.length = nI A.length) (kp2 : ∀ e, e < r.length → lB' e = lB e) (kP : fP' r.length = -1 ∧ lP' r.length = -1) (kP2 : ∀ e, e < r.length → fP' e = fP e ∧ lP' e = lP e) : mA kd' ch' nx' be lo' hi' wt' cs' fP' lP' fB' lB' (a', x', A ++ [(5, w, t.2, 0, 0, pNo)], (t.1 ++ [A.length], []) :: r) := by
  obtain ⟨g1, g2, g3⟩ := pW_tag hW
  obtain ⟨-, -, -, -, ow, w1, w2⟩ := hW
  have wt1 := w2 r.length t plv_mine
  have hlast : ∀ c, some c = t.1.getLast? → ow c = 1000 + 2 * r.length := fun c hc => (wt1.1 c (xlast_mem hc)).2
  obtain ⟨u1, u2, u3, u4, u5⟩ := hA.2 r.length t plv_mine
  refine ⟨fun i p hp => ?_, fun e v hv => ?_⟩
  · have hp' : (A ++ [(5, w, t.2, 0, 0, pNo)])[i]? = some p := hp
    by_cases hi9 : i < A.length
    · have hpo : A[i]? = some p := (List.getElem?_append_left hi9).symm.trans hp'
      obtain ⟨z1, z2, z3, z4, z5, z6⟩ := k1 i hi9
      refine nS_fr (hA.1 i p hpo) z1 z2 z6 z3 z4 z5 (fun c hc => ?_)
      obtain ⟨y1, y2⟩ := w1 i p hpo c hc
      exact kx c (by omega) (fun z => by have := hlast c z; omega)
    · have hh := (List.getElem?_eq_some_iff.mp hp').1
      rw [List.length_append, List.length_singleton] at hh
      have hi8 : i = A.length := by omega
      rw [hi8, List.getElem?_append_right (Nat.le_refl _), Nat.sub_self] at hp'
      have hq : (5, w, t.2, 0, 0, pNo) = p := Option.some.inj hp'
      rw [hi8, ← hq]
      refine ⟨kk, kw, fun z => absurd z (show ¬ (5 : Nat) = 1 by decide), fun z => absurd z (show ¬ (5 : Nat) = 4 by decide), fun _ => ?_⟩
      show xCn nx' (ch' A.length) t.2
      rw [kc]
      exact xCn_fr u1 (fun c hc => kx c (wt1.2.1 c hc).1 (fun z => by have := hlast c z; have := (wt1.2.1 c hc).2; omega))
  · rcases plv_top (A := A) (t := t) hv with ⟨he, hv2⟩ | ⟨he, hv2⟩
    · rw [he, hv2]
      refine ⟨kP.1, ?_, kP.2, ?_, fun a b c z => ?_⟩
      · show xCn nx' (fB' r.length) (t.1 ++ [A.length])
        by_cases h0 : t.1 = []
        · rw [kf, if_pos h0, h0]
          exact ⟨rfl, kz⟩
        · rw [kf, if_neg h0]
          exact xCn_app u2 h0 wt1.2.2.1 (fun c hc hn => kx c (wt1.1 c hc).1 hn) kl kz
      · show lB' r.length = xla (t.1 ++ [A.length])
        rw [kp, xla_app]
      · have z' : [] = a ++ c :: b := z
        simp at z'
    · have wv := w2 e v hv2
      refine lS_fr (hA.2 e v hv2) (fun c hc => kx c (wv.1 c hc).1 (fun z => ?_)) (fun c hc => kx c (wv.2.1 c hc).1 (fun z => ?_)) (fun c hc => rfl) (kP2 e he).1 (kP2 e he).2 (kf2 e he) (kp2 e he)
      · have := hlast c z
        have := (wv.1 c hc).2
        omega
      · have := hlast c z
        have := (wv.2.1 c hc).2
        omega
theorem pW_endB (hW : pW (a, x, A, t :: r)) {w : Int32} (ha : A.length + r.length + 1 ≤ a') (ha2 : a' ≤ 24) : pW (a', x', A ++ [(5, w, t.2, 0, 0, pNo)], (t.1 ++ [A.length], []) :: r) := by
  obtain ⟨g1, g2, g3⟩ := pW_tag hW
  obtain ⟨-, -, -, -, ow, w1, w2⟩ := hW
  have w2 : ∀ e v, plv (a, x, A, t :: r) e = some v → (∀ c ∈ v.1, c < A.length ∧ ow c = 1000 + 2 * e) ∧ (∀ c ∈ v.2, c < A.length ∧ ow c = 1001 + 2 * e) ∧ v.1.Pairwise (fun x y => x < y) ∧ v.2.Pairwise (fun x y => x < y) := w2
  refine ⟨by simp, by show r.length + 1 ≤ 7; omega, ha2, ?_, fun c => if c = A.length then 1000 + 2 * r.length else if ow c = 1001 + 2 * r.length then A.length else ow c, fun i p hp c hc => ?_, fun e v hv => ?_⟩
  · show (A ++ [(5, w, t.2, 0, 0, pNo)]).length + (r.length + 1) ≤ a' + 1
    rw [List.length_append, List.length_singleton]
    omega
  · have hp' : (A ++ [(5, w, t.2, 0, 0, pNo)])[i]? = some p := hp
    by_cases hi9 : i < A.length
    · have hpo : A[i]? = some p := (List.getElem?_append_left hi9).symm.trans hp'
      obtain ⟨y1, y2⟩ := w1 i p hpo c hc
      refine ⟨y1, ?_⟩
      show (if c = A.length then _ else if ow c = 1001 + 2 * r.length then _ else _) = _
      rw [if_neg (by omega), if_neg (by omega)]
      exact y2
    · have hh := (List.getElem?_eq_some_iff.mp hp').1
      rw [List.length_append, List.length_singleton] at hh
      have hi8 : i = A.length := by omega
      rw [hi8, List.getElem?_append_right (Nat.le_refl _), Nat.sub_self] at hp'
      have hqp : (5, w, t.2, 0, 0, pNo) = p := Option.some.inj hp'
      rw [← hqp] at hc
      obtain ⟨y1, y2⟩ := (w2 r.length t plv_mine).2.1 c hc
      have y1' : c < A.length := y1
      refine ⟨by omega, ?_⟩
      show (if c = A.length then _ else if ow c = 1001 + 2 * r.length then _ else _) = _
      rw [if_neg (by omega), if_pos y2, hi8]
  · have hlen : (A ++ [(5, w, t.2, 0, 0, pNo)]).length = A.length + 1 := by rw [List.length_append, List.length_singleton]
    have key : ∀ c k, c < A.length → ow c = k → ¬ k = 1001 + 2 * r.length → (if c = A.length then 1000 + 2 * r.length else if ow c = 1001 + 2 * r.length then A.length else ow c) = k := fun c k z1 z2 z3 => by
      rw [if_neg (by omega), if_neg (by omega)]
      exact z2
    rcases plv_top (A := A) (t := t) hv with ⟨he, hv2⟩ | ⟨he, hv2⟩
    · have wv := w2 r.length t plv_mine
      rw [he, hv2]
      refine ⟨fun c hc => ?_, fun c hc => absurd hc (by simp), ?_, List.Pairwise.nil⟩
      · rcases List.mem_append.mp hc with h | h
        · refine ⟨?_, key c _ (wv.1 c h).1 (wv.1 c h).2 (by omega)⟩
          show c < (A ++ [(5, w, t.2, 0, 0, pNo)]).length
          have := (wv.1 c h).1
          omega
        · have hcn : c = A.length := by simpa using h
          refine ⟨?_, if_pos hcn⟩
          show c < (A ++ [(5, w, t.2, 0, 0, pNo)]).length
          omega
      · show (t.1 ++ [A.length]).Pairwise (fun x y => x < y)
        rw [List.pairwise_append]
        refine ⟨wv.2.2.1, List.pairwise_singleton _ _, fun y hy z hz => ?_⟩
        have hz' : z = A.length := by simpa using hz
        rw [hz']
        exact (wv.1 y hy).1
    · have wv := w2 e v hv2
      refine ⟨fun c hc => ⟨?_, key c _ (wv.1 c hc).1 (wv.1 c hc).2 (by omega)⟩, fun c hc => ⟨?_, key c _ (wv.2.1 c hc).1 (wv.2.1 c hc).2 (by omega)⟩, wv.2.2.1, wv.2.2.2⟩
      · show c < (A ++ [(5, w, t.2, 0, 0, pNo)]).length
        have := (wv.1 c hc).1
        omega
      · show c < (A ++ [(5, w, t.2, 0, 0, pNo)]).length
        have := (wv.2.1 c hc).1
        omega
end mOps

/-! Contracts may be weakened; lists by what they hold -/
theorem xj_more {G : xG} {Y : xY} {d ce se cells slots pc c2 s2 : Nat} {L : List (Nat × Value)} {st : List Value} {M : xM} {Post : Option Value → xM → Prop} (h1 : cells ≤ c2) (h2 : slots ≤ s2) (k : XJ G Y d ce se c2 s2 pc L st M Post) : XJ G Y d ce se cells slots pc L st M Post := by
  intro p e R s m args below meth c H locs Q ls hC hR hq hl k2
  exact W.widen h1 h2 (k p e R s m args below meth c H locs Q ls hC hR hq hl k2)
theorem xroom_mono {s : State} {pl : Platform} {r r' : Room} (hf : r.frames ≤ r'.frames) (hl : r.locals ≤ r'.locals) (hc : r.cells ≤ r'.cells) (hs : r.slots ≤ r'.slots) (h : s.hasRoom pl r' = true) : s.hasRoom pl r = true := by
  simp only [State.hasRoom, Bool.and_eq_true, decide_eq_true_eq] at h ⊢
  obtain ⟨⟨⟨⟨y, a, b, c, d, e⟩, f⟩, g⟩, i⟩ := h
  exact ⟨⟨⟨⟨by omega, by omega, by omega, by omega, by omega, e⟩, by omega⟩, by omega⟩, i⟩
theorem xc_wk {G : xG} {Y : xY} {ret : Option FieldType} {d d' mc mc' ms ms' : Nat} {av : List Value} {M : xM} {P P' : Option Value → xM → Prop} (h : XC G Y ret d mc ms av M P) (hd : d ≤ d') (hc : mc ≤ mc') (hs : ms ≤ ms') (hp : ∀ v M', P v M' → P' v M') : XC G Y ret d' mc' ms' av M P' := by
  intro p e ha hcs hk s m args below hfr happ hP hK
  obtain ⟨a1, a2, a3, a4, a5, a6, a7, a8⟩ := (Spec.appliesLoose_iff hfr).mp happ
  obtain ⟨n, o, r1, r2, r3, ⟨v, M', q1, q2, q3⟩, L, q4, q5⟩ := h p e ha hcs hk s m args below hfr ((Spec.appliesLoose_iff hfr).mpr ⟨a1, a2, a3, a4, a5, a6, xroom_mono (r := { frames := d, cells := mc, slots := ms, locals := 64 * d }) (r' := { frames := d', cells := mc', slots := ms', locals := 64 * d' }) hd (Nat.mul_le_mul_left 64 hd) hc hs a7, a8⟩) hP hK
  exact ⟨n, o, r1, r2, r3, ⟨v, M', q1, hp v M' q2, q3⟩, L, ⟨q4.1, q4.2.1, q4.2.2.mono hc hs⟩, q5⟩
theorem xl_app (l : List Nat) (b : Nat) : va_up (fun i => l[i]?) l.length (some b) = fun i => (l ++ [b])[i]? := by
  funext i
  by_cases h : i = l.length
  · subst h
    rw [va_up_self]
    simp
  · rw [va_up_ne _ _ h, List.getElem?_append]
    by_cases h2 : i < l.length
    · rw [if_pos h2]
    · rw [if_neg h2, List.getElem?_eq_none (by omega), List.getElem?_eq_none (by simp; omega)]
theorem xl_pop (l : List Nat) (b : Nat) : va_up (fun i => (l ++ [b])[i]?) l.length none = fun i => l[i]? := by
  funext i
  by_cases h : i = l.length
  · subst h
    rw [va_up_self]
    simp
  · rw [va_up_ne _ _ h, List.getElem?_append]
    by_cases h2 : i < l.length
    · rw [if_pos h2]
    · rw [if_neg h2, List.getElem?_eq_none (by simp; omega), List.getElem?_eq_none (by omega)]
theorem xl_one (b : Nat) : va_up (fun _ => none) 0 (some b) = fun i => [b][i]? := xl_app [] b
theorem xne_io {M : xM} {a b : Nat} {x : Nat × List Value} {y : Nat × vp_A} (h1 : M.2 a = .inr x) (h2 : M.2 b = .inl y) : a ≠ b := by
  intro h
  rw [h, h2] at h1
  cases h1
theorem xne_cl {M : xM} {a b c1 c2 : Nat} {x y : List Value} (h1 : M.2 a = .inr (c1, x)) (h2 : M.2 b = .inr (c2, y)) (h : c1 ≠ c2) : a ≠ b := by
  intro e
  rw [e, h2] at h1
  cases h1
  exact h rfl
/-- the list object a holds l; its array, if it has one of its own, is in P -/
def xLs (P : Nat → Prop) (M : xM) (a : Nat) (l : List Nat) : Prop :=
  ∃ (e : Nat) (mo : Int32) (cap : Nat), M.2 a = .inr (2, [.ref e, .int (nI l.length), .int mo]) ∧ l.length ≤ cap ∧ 10 ≤ cap ∧ cap < 100000 ∧ ((l = [] ∧ e = 1) ∨ (P e ∧ xn ≤ e ∧ e < M.1 ∧ M.2 e = .inl (4, cap, .inr (.inr (.inr (.inr (fun i => l[i]?)))))))
theorem xLs_new {P : Nat → Prop} {M : xM} {a : Nat} {mo : Int32} (h : M.2 a = .inr (2, [.ref 1, .int 0, .int mo])) : xLs P M a [] := ⟨1, mo, 10, h, Nat.zero_le _, Nat.le_refl _, by decide, Or.inl ⟨rfl, rfl⟩⟩
theorem xLs_imp {P Q : Nat → Prop} {M : xM} {a : Nat} {l : List Nat} (h : xLs P M a l) (hPQ : ∀ x, P x → Q x) : xLs Q M a l := by
  obtain ⟨e, mo, cap, h1, h2, h3, h4, h5⟩ := h
  exact ⟨e, mo, cap, h1, h2, h3, h4, h5.imp_right (fun q => ⟨hPQ e q.1, q.2⟩)⟩
/-- a list stands over any change beside it -/
theorem xLs_fr {P : Nat → Prop} {M M' : xM} {a : Nat} {l : List Nat} (h : xLs P M a l) (hm : M.1 ≤ M'.1) (ha : M'.2 a = M.2 a) (hP : ∀ x, P x → x < M.1 → M'.2 x = M.2 x) : xLs P M' a l := by
  obtain ⟨e, mo, cap, h1, h2, h3, h4, h5⟩ := h
  exact ⟨e, mo, cap, ha.trans h1, h2, h3, h4, h5.imp_right (fun q => ⟨q.1, q.2.1, Nat.lt_of_lt_of_le q.2.2.1 hm, (hP e q.1 q.2.2.1).trans q.2.2.2⟩)⟩
theorem xLs_len {P : Nat → Prop} {M : xM} {a : Nat} {l : List Nat} (h : xLs P M a l) : ∃ (el : Value) (mo : Int32), M.2 a = .inr (2, [el, .int (nI l.length), .int mo]) ∧ l.length < 100000 := by
  obtain ⟨e, mo, cap, h1, h2, h3, h4, h5⟩ := h
  exact ⟨.ref e, mo, h1, by omega⟩
theorem xLs_get {G : xG} {P : Nat → Prop} {M : xM} {a k b : Nat} {l : List Nat} (hg : xGood G) (h : xLs P M a l) (hx : xn ≤ a) (ha : a < M.1) (hb : l[k]? = some b) : XC G Y28_20 (some (.object "java/lang/Object")) 2 0 0 [.ref a, .int (nI k)] M (fun v M' => v = some (.ref b) ∧ M' = M) := by
  obtain ⟨e, mo, cap, h1, h2, h3, h4, h5⟩ := h
  have hk : k < l.length := (List.getElem?_eq_some_iff.mp hb).1
  rcases h5 with ⟨rfl, -⟩ | ⟨-, q1, q2, q3⟩
  · exact absurd hk (by simp)
  · exact cGet hg rfl (Nat.le_trans hx (Nat.le_of_lt ha)) hx ha h1 q1 q2 q3 hk h2 h4 hb
theorem xLs_add {G : xG} (hg : xGood G) (hZ : va_Z "java/util/ArrayList" "DEFAULTCAPACITY_EMPTY_ELEMENTDATA" "[Ljava/lang/Object;" (.ref (xa G 1)) (fun q => (xs G).heap.size ≤ q) (xs G) (xs G).heap) (hT : va_T (.object "java/lang/Object") (xa G 1) 0 (fun _ => .null) (fun q => (xs G).heap.size ≤ q) (xs G) (xs G).heap) {P : Nat → Prop} {M : xM} {a b : Nat} {l : List Nat} {bc bN : Nat} {bf : List Value} {bC : String} {bT : u_T} (h : xLs P M a l) (hx : xn ≤ a) (ha : a < M.1) (hP : ∀ x, M.1 ≤ x → P x) (hl : l.length < 10) (hb1 : xn ≤ b) (hb2 : b < M.1) (hb : M.2 b = .inr (bc, bf)) (hab : a ≠ b) (hc : vwCl[bc]? = some (bC, bT, bN)) (hA : xAsg bC "java/lang/Object") :
    XC G Y28_25 (some .boolean) 4 1 10 [.ref a, .ref b] M (fun v M' => v = some (.int 1) ∧ M.1 ≤ M'.1 ∧ (∀ j, j < M.1 → j ≠ a → (P j → ∃ o, M.2 j = .inr o) → M'.2 j = M.2 j) ∧ xLs P M' a (l ++ [b])) := by
  obtain ⟨e, mo, cap, h1, h2, h3, h4, h5⟩ := h
  have hx2 : xn ≤ M.1 := Nat.le_trans hx (Nat.le_of_lt ha)
  rcases h5 with ⟨rfl, rfl⟩ | ⟨q0, q1, q2, q3⟩
  · refine xc_wk (cAddZ0 hg hZ hT rfl hx2 hx ha h1 hb1 hb2 hb hab hc hA) (Nat.le_refl _) (Nat.le_refl _) (Nat.le_refl _) ?_
    rintro v M' ⟨rfl, e1, e2, e3, e4⟩
    refine ⟨rfl, by omega, fun j hj hja _ => e2 j hj hja, M.1, mo + 1, 10, e3, by simp, Nat.le_refl _, by decide, Or.inr ⟨hP _ (Nat.le_refl _), hx2, by omega, ?_⟩⟩
    rw [e4, xl_one]
    rfl
  · refine xc_wk (cAddZ hg rfl hx2 hx ha h1 q1 q2 q3 hb1 hb2 hb (by omega) h4 (xne_io h1 q3) (xne_io hb q3) hab hc hA) (by decide) (by decide) (by decide) ?_
    rintro v M' ⟨rfl, e1, e2, e3, e4⟩
    refine ⟨rfl, by omega, fun j hj hja hjP => e2 j hj hja ?_, e, mo + 1, cap, ?_, ?_, h3, h4, Or.inr ⟨q0, q1, by omega, ?_⟩⟩
    · rintro rfl
      obtain ⟨o, ho⟩ := hjP q0
      rw [q3] at ho
      cases ho
    · rw [e3, List.length_append]
      rfl
    · rw [List.length_append]
      show l.length + 1 ≤ cap
      omega
    · rw [e4, xl_app]
theorem xLs_rem {G : xG} (hg : xGood G) {P : Nat → Prop} {M : xM} {a b k : Nat} {l : List Nat} (h : xLs P M a (l ++ [b])) (hx : xn ≤ a) (ha : a < M.1) (hk : l.length = k) :
    XC G Y28_29 (some (.object "java/lang/Object")) 2 0 0 [.ref a, .int (nI k)] M (fun v M' => v = some (.ref b) ∧ M.1 = M'.1 ∧ (∀ j, j < M.1 → j ≠ a → (P j → ∃ o, M.2 j = .inr o) → M'.2 j = M.2 j) ∧ xLs P M' a l) := by
  subst hk
  obtain ⟨e, mo, cap, h1, h2, h3, h4, h5⟩ := h
  have hx2 : xn ≤ M.1 := Nat.le_trans hx (Nat.le_of_lt ha)
  rcases h5 with ⟨h6, -⟩ | ⟨q0, q1, q2, q3⟩
  · exact absurd h6 (by simp)
  · rw [List.length_append] at h1 h2
    refine xc_wk (cRemove hg rfl hx2 (sz := l.length) (b := b) hx ha h1 q1 q2 q3 h2 h4 (xne_io h1 q3) (by simp)) (Nat.le_refl _) (Nat.le_refl _) (Nat.le_refl _) ?_
    rintro v M' ⟨rfl, e1, e2, e3, e4⟩
    refine ⟨rfl, e1.symm, fun j hj hja hjP => e2 j hj hja ?_, e, mo + 1, cap, e3, by omega, h3, h4, Or.inr ⟨q0, q1, by omega, ?_⟩⟩
    · rintro rfl
      obtain ⟨o, ho⟩ := hjP q0
      rw [q3] at ho
      cases ho
    · rw [e4, xl_pop]
/-- the list object a holds l in its own array e -/
def xLa (e : Nat) (M : xM) (a : Nat) (l : List Nat) : Prop :=
  ∃ (mo : Int32) (cap : Nat), M.2 a = .inr (2, [.ref e, .int (nI l.length), .int mo]) ∧ l.length ≤ cap ∧ 10 ≤ cap ∧ cap < 100000 ∧ xn ≤ e ∧ e < M.1 ∧ M.2 e = .inl (4, cap, .inr (.inr (.inr (.inr (fun i => l[i]?)))))
theorem xLa_s {e : Nat} {P : Nat → Prop} {M : xM} {a : Nat} {l : List Nat} (h : xLa e M a l) (hP : P e) : xLs P M a l := by
  obtain ⟨mo, cap, h1, h2, h3, h4, h5, h6, h7⟩ := h
  exact ⟨e, mo, cap, h1, h2, h3, h4, Or.inr ⟨hP, h5, h6, h7⟩⟩
theorem xLs_a {P : Nat → Prop} {M : xM} {a : Nat} {l : List Nat} (h : xLs P M a l) (hl : l ≠ []) : ∃ e, P e ∧ xLa e M a l := by
  obtain ⟨e, mo, cap, h1, h2, h3, h4, h5⟩ := h
  rcases h5 with ⟨h6, -⟩ | ⟨q0, q1, q2, q3⟩
  · exact absurd h6 hl
  · exact ⟨e, q0, mo, cap, h1, h2, h3, h4, q1, q2, q3⟩
theorem xLa_fr {e : Nat} {M M' : xM} {a : Nat} {l : List Nat} (h : xLa e M a l) (hm : M.1 ≤ M'.1) (ha : M'.2 a = M.2 a) (he : M'.2 e = M.2 e) : xLa e M' a l := by
  obtain ⟨mo, cap, h1, h2, h3, h4, h5, h6, h7⟩ := h
  exact ⟨mo, cap, ha.trans h1, h2, h3, h4, h5, by omega, he.trans h7⟩
theorem xl_p1 (S : List Nat) (o b : Nat) : va_up (fun i => (S ++ [o, b])[i]?) (S.length + 1) none = fun i => (S ++ [o])[i]? := by
  have h := xl_pop (S ++ [o]) b
  rw [List.length_append, List.append_assoc] at h
  exact h
theorem xl_p2 (S : List Nat) (o b : Nat) : va_up (va_up (fun i => (S ++ [o, b])[i]?) (S.length + 1) none) S.length none = fun i => S[i]? := by
  rw [xl_p1, xl_pop]

/-! The pure machine once more: the nodes of a part stand one behind the other; kinds, weights, what learning costs -/
def pIv (lo : Nat → Nat) : Nat → List Nat → Nat → Prop
  | s, [], e => s = e
  | s, c :: l, e => lo c = s ∧ s ≤ c ∧ pIv lo (c + 1) l e
def pLv (lo : Nat → Nat) : List (List Nat × List Nat) → Nat → Prop
  | [], e => e = 0
  | t :: r, e => ∃ s m, pIv lo s t.1 m ∧ pIv lo m t.2 e ∧ pLv lo r s
theorem pIv_le {lo : Nat → Nat} : ∀ {l : List Nat} {s e : Nat}, pIv lo s l e → s + l.length ≤ e ∧ ∀ c ∈ l, s ≤ c ∧ c < e ∧ lo c ≤ c ∧ s ≤ lo c
  | [], s, e, h => ⟨by have h' : s = e := h; simp only [List.length_nil]; omega, fun c hc => by cases hc⟩
  | c :: l, s, e, h => by
    obtain ⟨h1, h2, h3⟩ := h
    obtain ⟨g1, g2⟩ := pIv_le h3
    refine ⟨by simp only [List.length_cons]; omega, fun d hd => ?_⟩
    rcases List.mem_cons.mp hd with q | q
    · rw [q]
      exact ⟨h2, by omega, by omega, by omega⟩
    · obtain ⟨y1, y2, y3, y4⟩ := g2 d q
      exact ⟨by omega, y2, y3, by omega⟩
theorem pIv_fr {lo lo' : Nat → Nat} : ∀ {l : List Nat} {s e : Nat}, pIv lo s l e → (∀ c ∈ l, lo' c = lo c) → pIv lo' s l e
  | [], _, _, h, _ => h
  | c :: _, _, _, h, f => ⟨(f c List.mem_cons_self).trans h.1, h.2.1, pIv_fr h.2.2 (fun d hd => f d (List.mem_cons_of_mem _ hd))⟩
theorem pIv_app {lo : Nat → Nat} {c : Nat} : ∀ {l : List Nat} {s m : Nat}, pIv lo s l m → lo c = m → m ≤ c → pIv lo s (l ++ [c]) (c + 1)
  | [], s, m, h, h1, h2 => by
    have h' : s = m := h
    exact ⟨by omega, by omega, rfl⟩
  | d :: l, s, m, h, h1, h2 => ⟨h.1, h.2.1, pIv_app h.2.2 h1 h2⟩
theorem pIv_pop {lo : Nat → Nat} {c : Nat} : ∀ {l : List Nat} {s e : Nat}, pIv lo s (l ++ [c]) e → e = c + 1 ∧ lo c ≤ c ∧ pIv lo s l (lo c)
  | [], s, e, h => by
    obtain ⟨h1, h2, h3⟩ := h
    have h3' : c + 1 = e := h3
    refine ⟨h3'.symm, by omega, ?_⟩
    show s = lo c
    omega
  | d :: l, s, e, h => by
    obtain ⟨h1, h2, h3⟩ := h
    obtain ⟨g1, g2, g3⟩ := pIv_pop h3
    exact ⟨g1, g2, h1, h2, g3⟩
theorem pLv_fr {lo lo' : Nat → Nat} : ∀ {r : List (List Nat × List Nat)} {e : Nat}, pLv lo r e → (∀ c, c < e → lo' c = lo c) → pLv lo' r e
  | [], _, h, _ => h
  | t :: r, e, ⟨s, m, h1, h2, h3⟩, f => by
    have g1 := pIv_le h1
    have g2 := pIv_le h2
    exact ⟨s, m, pIv_fr h1 (fun c hc => f c (by have := (g1.2 c hc).2.1; omega)), pIv_fr h2 (fun c hc => f c (g2.2 c hc).2.1), pLv_fr h3 (fun c hc => f c (by omega))⟩
theorem pLv_in {lo : Nat → Nat} : ∀ {r : List (List Nat × List Nat)} {e : Nat}, pLv lo r e → ∀ v ∈ r, v.1.length + v.2.length ≤ e ∧ (∀ c ∈ v.1, c < e) ∧ ∀ c ∈ v.2, c < e
  | [], _, _, v, hv => by cases hv
  | t :: r, e, ⟨s, m, h1, h2, h3⟩, v, hv => by
    have g1 := pIv_le h1
    have g2 := pIv_le h2
    rcases List.mem_cons.mp hv with q | q
    · rw [q]
      exact ⟨by omega, fun c hc => by have := (g1.2 c hc).2.1; omega, fun c hc => (g2.2 c hc).2.1⟩
    · obtain ⟨y1, y2, y3⟩ := pLv_in h3 v q
      exact ⟨by omega, fun c hc => by have := y2 c hc; omega, fun c hc => by have := y3 c hc; omega⟩
def pUp (lo : Nat → Nat) (k v : Nat) : Nat → Nat := fun j => if j = k then v else lo j
theorem pUp_s {lo : Nat → Nat} {k v : Nat} : pUp lo k v k = v := if_pos rfl
theorem pUp_n {lo : Nat → Nat} {k v j : Nat} (h : j ≠ k) : pUp lo k v j = lo j := if_neg h
/-- the weight of a node by its parts -/
def pWt (A : List xNode) (q : xNode) : Int32 := if q.1 ≤ 3 then 1 else if q.1 = 4 then pTim q.2.2.2.1 q.2.2.2.2.1 * ((pNd A (q.2.2.1.headD 0)).2.1 + 1) else if q.1 = 5 then pSum A q.2.2.1 else pSumG A q.2.2.1
/-- a node is as it should be -/
def pOk (A : List xNode) (lo : Nat → Nat) (i : Nat) (q : xNode) : Prop := pIv lo (lo i) q.2.2.1 i ∧ (1 ≤ q.1 ∧ q.1 ≤ 6) ∧ q.2.1 = pWt A q ∧ (q.1 ≤ 3 → q.2.2.1 = []) ∧ (q.1 = 4 → (∃ e, q.2.2.1 = [e]) ∧ ∃ k, k ≤ 9 ∧ q.2.2.2.1 = nI k ∧ (q.2.2.2.2.1 = -1 ∨ ∃ m, k ≤ m ∧ m ≤ 9 ∧ q.2.2.2.2.1 = nI m)) ∧ (q.1 = 6 → ∀ c ∈ q.2.2.1, (pNd A c).1 = 5) ∧ (q.1 ≤ 5 → ∀ c ∈ q.2.2.1, ¬ (pNd A c).1 = 5)
/-- what learning a node's words costs, its parts aside -/
def pOwn (q : xNode) : Nat := if q.1 ≤ 3 then 3 else if q.1 = 4 then 5 * q.2.2.2.1.toNatClampNeg else if q.1 = 5 then 5 * q.2.2.1.length else 6
def pCst (A : List xNode) : Nat := (A.map pOwn).sum
def pPen (L : List (List Nat × List Nat)) : Nat := (L.map fun v => 5 * v.2.length + 11).sum
def pZ (lo : Nat → Nat) (σ : xSg) : Prop := (σ.2.2.2.length ≤ 7 ∧ σ.1 ≤ 24 ∧ σ.2.2.1.length + σ.2.2.2.length ≤ σ.1 + 1 ∧ pCst σ.2.2.1 + pPen σ.2.2.2 ≤ 15 * σ.1 + 11) ∧ pLv lo σ.2.2.2 σ.2.2.1.length ∧ (∀ v ∈ σ.2.2.2, (∀ c ∈ v.1, (pNd σ.2.2.1 c).1 = 5) ∧ ∀ c ∈ v.2, ¬ (pNd σ.2.2.1 c).1 = 5) ∧ ∀ i q, σ.2.2.1[i]? = some q → pOk σ.2.2.1 lo i q
theorem pCst_app (A : List xNode) (q : xNode) : pCst (A ++ [q]) = pCst A + pOwn q := by
  unfold pCst
  rw [List.map_append, List.sum_append]
  simp
theorem pPen_cons (t : List Nat × List Nat) (r : List (List Nat × List Nat)) : pPen (t :: r) = 5 * t.2.length + 11 + pPen r := by
  unfold pPen
  rw [List.map_cons, List.sum_cons]
theorem pNd_old {A : List xNode} {q : xNode} {c : Nat} (h : c < A.length) : pNd (A ++ [q]) c = pNd A c := by
  unfold pNd
  rw [List.getElem?_append_left h]
theorem pNd_new {A : List xNode} {q : xNode} : pNd (A ++ [q]) A.length = q := by
  unfold pNd
  rw [List.getElem?_append_right (Nat.le_refl _), Nat.sub_self]
  rfl
theorem pSum_old {A : List xNode} {q : xNode} : ∀ (l : List Nat) (w : Int32), (∀ c ∈ l, c < A.length) → l.foldl (fun w p => w + (pNd (A ++ [q]) p).2.1) w = l.foldl (fun w p => w + (pNd A p).2.1) w
  | [], _, _ => rfl
  | c :: l, w, h => by
    rw [List.foldl_cons, List.foldl_cons, pNd_old (h c List.mem_cons_self)]
    exact pSum_old l _ (fun d hd => h d (List.mem_cons_of_mem _ hd))
theorem pSumG_old {A : List xNode} {q : xNode} : ∀ (l : List Nat) (w : Int32), (∀ c ∈ l, c < A.length) → l.foldl (fun w p => w + 1 + (pNd (A ++ [q]) p).2.1) w = l.foldl (fun w p => w + 1 + (pNd A p).2.1) w
  | [], _, _ => rfl
  | c :: l, w, h => by
    rw [List.foldl_cons, List.foldl_cons, pNd_old (h c List.mem_cons_self)]
    exact pSumG_old l _ (fun d hd => h d (List.mem_cons_of_mem _ hd))
theorem pWt_old {A : List xNode} {q p : xNode} (h : ∀ c ∈ p.2.2.1, c < A.length) (h4 : p.1 = 4 → ∃ e, p.2.2.1 = [e]) : pWt (A ++ [q]) p = pWt A p := by
  unfold pWt
  by_cases c1 : p.1 ≤ 3
  · rw [if_pos c1, if_pos c1]
  · rw [if_neg c1, if_neg c1]
    by_cases c2 : p.1 = 4
    · rw [if_pos c2, if_pos c2]
      obtain ⟨e, he⟩ := h4 c2
      rw [he] at h ⊢
      rw [show [e].headD 0 = e from rfl, pNd_old (h e (by simp))]
    · rw [if_neg c2, if_neg c2]
      unfold pSum pSumG
      rw [pSum_old _ _ h, pSumG_old _ _ h]
theorem pOk_old {A : List xNode} {lo lo' : Nat → Nat} {i : Nat} {q p : xNode} (h : pOk A lo i p) (hi : i < A.length) (hl : ∀ c, c < A.length → lo' c = lo c) : pOk (A ++ [q]) lo' i p := by
  obtain ⟨h1, h2, h3, h4, h5, h6, h7⟩ := h
  have g := pIv_le h1
  have hc : ∀ c ∈ p.2.2.1, c < A.length := fun c hc => by have := (g.2 c hc).2.1; omega
  refine ⟨?_, h2, ?_, h4, h5, fun z c hc' => ?_, fun z c hc' => ?_⟩
  · rw [hl i hi]
    exact pIv_fr h1 (fun c hc' => hl c (hc c hc'))
  · rw [pWt_old hc (fun z => (h5 z).1)]
    exact h3
  · rw [pNd_old (hc c hc')]
    exact h6 z c hc'
  · rw [pNd_old (hc c hc')]
    exact h7 z c hc'
theorem pOk_all {A : List xNode} {lo lo' : Nat → Nat} {q : xNode} (h : ∀ i p, A[i]? = some p → pOk A lo i p) (hl : ∀ c, c < A.length → lo' c = lo c) (hn : pOk (A ++ [q]) lo' A.length q) : ∀ i p, (A ++ [q])[i]? = some p → pOk (A ++ [q]) lo' i p := by
  intro i p hp
  by_cases hi : i < A.length
  · rw [List.getElem?_append_left hi] at hp
    exact pOk_old (h i p hp) hi hl
  · have hh := (List.getElem?_eq_some_iff.mp hp).1
    rw [List.length_append, List.length_singleton] at hh
    have hi8 : i = A.length := by omega
    rw [hi8, List.getElem?_append_right (Nat.le_refl _), Nat.sub_self] at hp
    have hq : q = p := Option.some.inj hp
    rw [hi8, ← hq]
    exact hn
theorem pKi_old {A : List xNode} {q : xNode} {v : List Nat × List Nat} (hb : (∀ c ∈ v.1, c < A.length) ∧ ∀ c ∈ v.2, c < A.length) (h : (∀ c ∈ v.1, (pNd A c).1 = 5) ∧ ∀ c ∈ v.2, ¬ (pNd A c).1 = 5) : (∀ c ∈ v.1, (pNd (A ++ [q]) c).1 = 5) ∧ ∀ c ∈ v.2, ¬ (pNd (A ++ [q]) c).1 = 5 :=
  ⟨fun c hc => by rw [pNd_old (hb.1 c hc)]; exact h.1 c hc, fun c hc => by rw [pNd_old (hb.2 c hc)]; exact h.2 c hc⟩
section pZs
variable {lo : Nat → Nat} {a a' : Nat} {x x' : Int32} {A : List xNode} {t : List Nat × List Nat} {r : List (List Nat × List Nat)} {q : xNode}
theorem pZ_mono (h : pZ lo (a, x, A, t :: r)) (h1 : a ≤ a') (h2 : a' ≤ 24) : pZ lo (a', x', A, t :: r) := by
  obtain ⟨⟨g1, g2, g3, g4⟩, hl, hk, ho⟩ := h
  have g3' : A.length + (t :: r).length ≤ a + 1 := g3
  have g4' : pCst A + pPen (t :: r) ≤ 15 * a + 11 := g4
  exact ⟨⟨g1, h2, by show A.length + (t :: r).length ≤ a' + 1; omega, by show pCst A + pPen (t :: r) ≤ 15 * a' + 11; omega⟩, hl, hk, ho⟩
theorem pZ_num (h : pZ lo (a, x, A, t :: r)) : A.length + r.length ≤ a ∧ a ≤ 24 ∧ r.length ≤ 6 ∧ t.1.length + t.2.length ≤ A.length := by
  obtain ⟨⟨g1, g2, g3, g4⟩, hl, hk, ho⟩ := h
  have g1' : r.length + 1 ≤ 7 := g1
  have g3' : A.length + (r.length + 1) ≤ a + 1 := g3
  have g2' : a ≤ 24 := g2
  have := (pLv_in hl t List.mem_cons_self).1
  exact ⟨by omega, g2, by omega, this⟩
/-- a part without parts -/
theorem pZ_leaf (h : pZ lo (a, x, A, t :: r)) (hq : q.1 ≤ 3) (hq1 : 1 ≤ q.1) (hq2 : q.2.2.1 = []) (hq3 : q.2.1 = 1) (ha : a + 1 ≤ a') (ha2 : a' ≤ 24) : pZ (pUp lo A.length A.length) (a', x', A ++ [q], (t.1, t.2 ++ [A.length]) :: r) := by
  obtain ⟨⟨g1, g2, g3, g4⟩, hl, hk, ho⟩ := h
  have g1' : r.length + 1 ≤ 7 := g1
  have g3' : A.length + (r.length + 1) ≤ a + 1 := g3
  have g4' : pCst A + pPen (t :: r) ≤ 15 * a + 11 := g4
  rw [pPen_cons] at g4'
  have hlow : ∀ c, c < A.length → pUp lo A.length A.length c = lo c := fun c hc => pUp_n (by omega)
  have hlv := pLv_in hl
  obtain ⟨s, m, h1, h2, h3⟩ := hl
  have i1 := pIv_le h1
  have i2 := pIv_le h2
  have i1' : s + t.1.length ≤ m := i1.1
  have i2' : m + t.2.length ≤ A.length := i2.1
  refine ⟨⟨g1', ha2, ?_, ?_⟩, ⟨s, m, pIv_fr h1 (fun c hc => hlow c (by have := (i1.2 c hc).2.1; omega)), ?_, pLv_fr h3 (fun c hc => hlow c (by omega))⟩, fun v hv => ?_, pOk_all ho hlow ?_⟩
  · show (A ++ [q]).length + (r.length + 1) ≤ a' + 1
    rw [List.length_append, List.length_singleton]
    omega
  · show pCst (A ++ [q]) + pPen ((t.1, t.2 ++ [A.length]) :: r) ≤ 15 * a' + 11
    rw [pCst_app, pPen_cons, show pOwn q = 3 from if_pos hq]
    show _ + (5 * (t.2 ++ [A.length]).length + 11 + _) ≤ _
    rw [List.length_append, List.length_singleton]
    omega
  · show pIv (pUp lo A.length A.length) m (t.2 ++ [A.length]) (A ++ [q]).length
    rw [List.length_append, List.length_singleton]
    exact pIv_app (pIv_fr h2 (fun c hc => hlow c (i2.2 c hc).2.1)) pUp_s (Nat.le_refl _)
  · rcases List.mem_cons.mp hv with z | z
    · rw [z]
      obtain ⟨y1, y2⟩ := pKi_old (q := q) ⟨(hlv t List.mem_cons_self).2.1, (hlv t List.mem_cons_self).2.2⟩ (hk t List.mem_cons_self)
      refine ⟨y1, fun c hc => ?_⟩
      rcases List.mem_append.mp hc with w | w
      · exact y2 c w
      · rw [List.mem_singleton.mp w]
        show ¬ (pNd (A ++ [q]) A.length).1 = 5
        rw [pNd_new]
        omega
    · exact pKi_old ⟨(hlv v (List.mem_cons_of_mem _ z)).2.1, (hlv v (List.mem_cons_of_mem _ z)).2.2⟩ (hk v (List.mem_cons_of_mem _ z))
  · refine ⟨?_, ⟨hq1, by omega⟩, ?_, fun _ => hq2, fun z => absurd z (by omega), fun z => absurd z (by omega), fun _ c hc => by rw [hq2] at hc; cases hc⟩
    · rw [hq2]
      exact pUp_s
    · rw [hq3, show pWt (A ++ [q]) q = 1 from if_pos hq]
/-- the newest part is repeated -/
theorem pZ_rep {t1 l : List Nat} {e k : Nat} {m9 n9 w : Int32} (h : pZ lo (a, x, A, (t1, l ++ [e]) :: r)) (hk9 : k ≤ 9) (hm : m9 = nI k) (hn : n9 = -1 ∨ ∃ m, k ≤ m ∧ m ≤ 9 ∧ n9 = nI m) (hw : w = pTim m9 n9 * ((pNd A e).2.1 + 1)) (hcl : m9.toNatClampNeg = k) (ha : a + 1 ≤ a') (hak : 5 * k ≤ 15 * (a' - a)) (ha2 : a' ≤ 24) : pZ (pUp lo A.length (lo e)) (a', x', A ++ [(4, w, [e], m9, n9, pNo)], (t1, l ++ [A.length]) :: r) := by
  obtain ⟨⟨g1, g2, g3, g4⟩, hl, hk, ho⟩ := h
  have g1' : r.length + 1 ≤ 7 := g1
  have g3' : A.length + (r.length + 1) ≤ a + 1 := g3
  have g4' : pCst A + pPen ((t1, l ++ [e]) :: r) ≤ 15 * a + 11 := g4
  rw [pPen_cons] at g4'
  have g4'' : pCst A + (5 * (l ++ [e]).length + 11 + pPen r) ≤ 15 * a + 11 := g4'
  rw [List.length_append, List.length_singleton] at g4''
  have hlow : ∀ c, c < A.length → pUp lo A.length (lo e) c = lo c := fun c hc => pUp_n (by omega)
  have hlv := pLv_in hl
  obtain ⟨s, m, h1, h2, h3⟩ := hl
  have h1 : pIv lo s t1 m := h1
  have h2 : pIv lo m (l ++ [e]) A.length := h2
  have i1 := pIv_le h1
  have i2 := pIv_le h2
  obtain ⟨j1, j2, j3⟩ := pIv_pop h2
  have i3 := pIv_le j3
  have j1' : A.length = e + 1 := j1
  refine ⟨⟨g1', ha2, ?_, ?_⟩, ⟨s, m, pIv_fr h1 (fun c hc => hlow c (by have := (i1.2 c hc).2.1; omega)), ?_, pLv_fr h3 (fun c hc => hlow c (by omega))⟩, fun v hv => ?_, pOk_all ho hlow ?_⟩
  · show (A ++ [_]).length + (r.length + 1) ≤ a' + 1
    rw [List.length_append, List.length_singleton]
    omega
  · show pCst (A ++ [_]) + pPen ((t1, l ++ [A.length]) :: r) ≤ 15 * a' + 11
    rw [pCst_app, pPen_cons, show pOwn (4, w, [e], m9, n9, pNo) = 5 * m9.toNatClampNeg from rfl, hcl]
    show _ + (5 * (l ++ [A.length]).length + 11 + _) ≤ _
    rw [List.length_append, List.length_singleton]
    omega
  · show pIv (pUp lo A.length (lo e)) m (l ++ [A.length]) (A ++ [_]).length
    rw [List.length_append, List.length_singleton]
    exact pIv_app (pIv_fr j3 (fun c hc => hlow c (by have := (i3.2 c hc).2.1; omega))) pUp_s (by omega)
  · rcases List.mem_cons.mp hv with z | z
    · rw [z]
      obtain ⟨y1, y2⟩ := pKi_old (q := (4, w, [e], m9, n9, pNo)) ⟨(hlv (t1, l ++ [e]) List.mem_cons_self).2.1, (hlv (t1, l ++ [e]) List.mem_cons_self).2.2⟩ (hk (t1, l ++ [e]) List.mem_cons_self)
      refine ⟨y1, fun c hc => ?_⟩
      rcases List.mem_append.mp hc with w9 | w9
      · exact y2 c (List.mem_append_left _ w9)
      · rw [List.mem_singleton.mp w9]
        show ¬ (pNd (A ++ [_]) A.length).1 = 5
        rw [pNd_new]
        exact show ¬ (4 : Nat) = 5 by decide
    · exact pKi_old ⟨(hlv v (List.mem_cons_of_mem _ z)).2.1, (hlv v (List.mem_cons_of_mem _ z)).2.2⟩ (hk v (List.mem_cons_of_mem _ z))
  · have he : e < A.length := by omega
    refine ⟨?_, ⟨by show 1 ≤ 4; decide, by show 4 ≤ 6; decide⟩, ?_, fun z => absurd z (show ¬ 4 ≤ 3 by decide), fun _ => ⟨⟨e, rfl⟩, k, hk9, hm, hn⟩, fun z => absurd z (show ¬ (4 : Nat) = 6 by decide), fun _ c hc => ?_⟩
    · show pIv _ (pUp lo A.length (lo e) A.length) [e] A.length
      rw [pUp_s]
      exact ⟨hlow e he, j2, j1'.symm⟩
    · show w = pTim m9 n9 * ((pNd (A ++ [_]) e).2.1 + 1)
      rw [pNd_old he]
      exact hw
    · have hc' : c = e := by simpa using hc
      rw [hc', pNd_old he]
      exact (hk (t1, l ++ [e]) List.mem_cons_self).2 e (by simp)
/-- the parts become a branch -/
theorem pZ_endB (h : pZ lo (a, x, A, t :: r)) (ha : a + 1 ≤ a') (ha2 : a' ≤ 24) : ∃ m, pZ (pUp lo A.length m) (a', x', A ++ [(5, pSum A t.2, t.2, 0, 0, pNo)], (t.1 ++ [A.length], []) :: r) := by
  obtain ⟨⟨g1, g2, g3, g4⟩, hl, hk, ho⟩ := h
  have g1' : r.length + 1 ≤ 7 := g1
  have g3' : A.length + (r.length + 1) ≤ a + 1 := g3
  have g4' : pCst A + pPen (t :: r) ≤ 15 * a + 11 := g4
  rw [pPen_cons] at g4'
  have hlv := pLv_in hl
  obtain ⟨s, m, h1, h2, h3⟩ := hl
  have i1 := pIv_le h1
  have i2 := pIv_le h2
  have i2' : m + t.2.length ≤ A.length := i2.1
  have i1' : s + t.1.length ≤ m := i1.1
  have hlow : ∀ c, c < A.length → pUp lo A.length m c = lo c := fun c hc => pUp_n (by omega)
  refine ⟨m, ⟨g1', ha2, ?_, ?_⟩, ⟨s, (A ++ [(5, pSum A t.2, t.2, 0, 0, pNo)]).length, ?_, ?_, pLv_fr h3 (fun c hc => hlow c (by omega))⟩, fun v hv => ?_, pOk_all ho hlow ?_⟩
  · show (A ++ [_]).length + (r.length + 1) ≤ a' + 1
    rw [List.length_append, List.length_singleton]
    omega
  · show pCst (A ++ [_]) + pPen ((t.1 ++ [A.length], []) :: r) ≤ 15 * a' + 11
    rw [pCst_app, pPen_cons, show pOwn (5, pSum A t.2, t.2, 0, 0, pNo) = 5 * t.2.length from rfl]
    show _ + (5 * 0 + 11 + _) ≤ _
    omega
  · show pIv _ s (t.1 ++ [A.length]) (A ++ [_]).length
    rw [List.length_append, List.length_singleton]
    exact pIv_app (pIv_fr h1 (fun c hc => hlow c (by have := (i1.2 c hc).2.1; omega))) pUp_s (by omega)
  · show (A ++ [_]).length = (A ++ [_]).length
    rfl
  · rcases List.mem_cons.mp hv with z | z
    · rw [z]
      obtain ⟨y1, y2⟩ := pKi_old (q := (5, pSum A t.2, t.2, 0, 0, pNo)) ⟨(hlv t List.mem_cons_self).2.1, (hlv t List.mem_cons_self).2.2⟩ (hk t List.mem_cons_self)
      refine ⟨fun c hc => ?_, fun c hc => by cases hc⟩
      rcases List.mem_append.mp hc with w | w
      · exact y1 c w
      · rw [List.mem_singleton.mp w]
        show (pNd (A ++ [_]) A.length).1 = 5
        rw [pNd_new]
    · exact pKi_old ⟨(hlv v (List.mem_cons_of_mem _ z)).2.1, (hlv v (List.mem_cons_of_mem _ z)).2.2⟩ (hk v (List.mem_cons_of_mem _ z))
  · refine ⟨?_, ⟨by show 1 ≤ 5; decide, by show 5 ≤ 6; decide⟩, ?_, fun z => absurd z (show ¬ 5 ≤ 3 by decide), fun z => absurd z (show ¬ (5 : Nat) = 4 by decide), fun z => absurd z (show ¬ (5 : Nat) = 6 by decide), fun _ c hc => ?_⟩
    · show pIv _ (pUp lo A.length m A.length) t.2 A.length
      rw [pUp_s]
      exact pIv_fr h2 (fun c hc => hlow c (i2.2 c hc).2.1)
    · show pSum A t.2 = pSum (A ++ [_]) t.2
      exact (pSum_old _ _ (fun c hc => (i2.2 c hc).2.1)).symm
    · have hc' : c ∈ t.2 := hc
      rw [pNd_old (i2.2 c hc').2.1]
      exact (hk t List.mem_cons_self).2 c hc'
/-- the branches become a group, a part of the level below -/
theorem pZ_grp {t1 : List Nat} {t2 : List Nat × List Nat} (h : pZ lo (a, x, A, (t1, []) :: t2 :: r)) (ha2 : a' ≤ 24) (ha : a ≤ a') : ∃ m, pZ (pUp lo A.length m) (a', x', A ++ [(6, pSumG A t1, t1, 0, 0, pNo)], (t2.1, t2.2 ++ [A.length]) :: r) := by
  obtain ⟨⟨g1, g2, g3, g4⟩, hl, hk, ho⟩ := h
  have g1' : r.length + 1 + 1 ≤ 7 := g1
  have g3' : A.length + (r.length + 1 + 1) ≤ a + 1 := g3
  have g4' : pCst A + pPen ((t1, []) :: t2 :: r) ≤ 15 * a + 11 := g4
  rw [pPen_cons, pPen_cons] at g4'
  have g4'' : pCst A + (5 * 0 + 11 + (5 * t2.2.length + 11 + pPen r)) ≤ 15 * a + 11 := g4'
  have hlv := pLv_in hl
  obtain ⟨s, m0, h1, h2, s2, m2, h3, h4, h5⟩ := hl
  have h2' : m0 = A.length := h2
  subst h2'
  have h1 : pIv lo s t1 A.length := h1
  have i1 := pIv_le h1
  have i3 := pIv_le h3
  have i4 := pIv_le h4
  have i1' : s + t1.length ≤ A.length := i1.1
  have i3' : s2 + t2.1.length ≤ m2 := i3.1
  have i4' : m2 + t2.2.length ≤ s := i4.1
  have hlow : ∀ c, c < A.length → pUp lo A.length s c = lo c := fun c hc => pUp_n (by omega)
  refine ⟨s, ⟨by show r.length + 1 ≤ 7; omega, ha2, ?_, ?_⟩, ⟨s2, m2, pIv_fr h3 (fun c hc => hlow c (by have := (i3.2 c hc).2.1; omega)), ?_, pLv_fr h5 (fun c hc => hlow c (by omega))⟩, fun v hv => ?_, pOk_all ho hlow ?_⟩
  · show (A ++ [_]).length + (r.length + 1) ≤ a' + 1
    rw [List.length_append, List.length_singleton]
    omega
  · show pCst (A ++ [_]) + pPen ((t2.1, t2.2 ++ [A.length]) :: r) ≤ 15 * a' + 11
    rw [pCst_app, pPen_cons, show pOwn (6, pSumG A t1, t1, 0, 0, pNo) = 6 from rfl]
    show _ + (5 * (t2.2 ++ [A.length]).length + 11 + _) ≤ _
    rw [List.length_append, List.length_singleton]
    omega
  · show pIv _ m2 (t2.2 ++ [A.length]) (A ++ [_]).length
    rw [List.length_append, List.length_singleton]
    exact pIv_app (pIv_fr h4 (fun c hc => hlow c (by have := (i4.2 c hc).2.1; omega))) pUp_s (by omega)
  · have q2 := List.mem_cons_of_mem (t1, ([] : List Nat)) (List.mem_cons_self (a := t2) (l := r))
    rcases List.mem_cons.mp hv with z | z
    · rw [z]
      obtain ⟨y1, y2⟩ := pKi_old (q := (6, pSumG A t1, t1, 0, 0, pNo)) ⟨(hlv t2 q2).2.1, (hlv t2 q2).2.2⟩ (hk t2 q2)
      refine ⟨y1, fun c hc => ?_⟩
      rcases List.mem_append.mp hc with w | w
      · exact y2 c w
      · rw [List.mem_singleton.mp w]
        show ¬ (pNd (A ++ [_]) A.length).1 = 5
        rw [pNd_new]
        exact show ¬ (6 : Nat) = 5 by decide
    · have q3 := List.mem_cons_of_mem (t1, ([] : List Nat)) (List.mem_cons_of_mem t2 z)
      exact pKi_old ⟨(hlv v q3).2.1, (hlv v q3).2.2⟩ (hk v q3)
  · refine ⟨?_, ⟨by show 1 ≤ 6; decide, by show 6 ≤ 6; decide⟩, ?_, fun z => absurd z (show ¬ 6 ≤ 3 by decide), fun z => absurd z (show ¬ (6 : Nat) = 4 by decide), fun _ c hc => ?_, fun z => absurd z (show ¬ 6 ≤ 5 by decide)⟩
    · show pIv _ (pUp lo A.length s A.length) t1 A.length
      rw [pUp_s]
      exact pIv_fr h1 (fun c hc => hlow c (i1.2 c hc).2.1)
    · show pSumG A t1 = pSumG (A ++ [_]) t1
      exact (pSumG_old _ _ (fun c hc => (i1.2 c hc).2.1)).symm
    · have hc' : c ∈ t1 := hc
      rw [pNd_old (i1.2 c hc').2.1]
      exact (hk (t1, []) List.mem_cons_self).1 c hc'
/-- a group is opened -/
theorem pZ_push (h : pZ lo (a, x, A, t :: r)) (hr : r.length < 6) (ha : a + 1 ≤ a') (ha2 : a' ≤ 24) : pZ lo (a', x', A, ([], []) :: t :: r) := by
  obtain ⟨⟨g1, g2, g3, g4⟩, hl, hk, ho⟩ := h
  have g3' : A.length + (r.length + 1) ≤ a + 1 := g3
  have g4' : pCst A + pPen (t :: r) ≤ 15 * a + 11 := g4
  refine ⟨⟨by show r.length + 1 + 1 ≤ 7; omega, ha2, ?_, ?_⟩, ⟨A.length, A.length, rfl, rfl, hl⟩, fun v hv => ?_, ho⟩
  · show A.length + (r.length + 1 + 1) ≤ a' + 1
    omega
  · show pCst A + pPen (([], []) :: t :: r) ≤ 15 * a' + 11
    rw [pPen_cons]
    show _ + (5 * 0 + 11 + _) ≤ _
    omega
  · rcases List.mem_cons.mp hv with z | z
    · rw [z]
      exact ⟨fun c hc => absurd hc (by simp), fun c hc => absurd hc (by simp)⟩
    · exact hk v z
theorem pOk_br {m s : Nat} (h1 : pIv lo s t.1 m) (h2 : pIv lo m t.2 A.length) (hk : ∀ c ∈ t.2, ¬ (pNd A c).1 = 5) : pOk (A ++ [(5, pSum A t.2, t.2, 0, 0, pNo)]) (pUp lo A.length m) A.length (5, pSum A t.2, t.2, 0, 0, pNo) := by
  have i2 := pIv_le h2
  refine ⟨?_, ⟨by show 1 ≤ 5; decide, by show 5 ≤ 6; decide⟩, ?_, fun z => absurd z (show ¬ 5 ≤ 3 by decide), fun z => absurd z (show ¬ (5 : Nat) = 4 by decide), fun z => absurd z (show ¬ (5 : Nat) = 6 by decide), fun _ c hc => ?_⟩
  · show pIv _ (pUp lo A.length m A.length) t.2 A.length
    rw [pUp_s]
    exact pIv_fr h2 (fun c hc => pUp_n (by have := (i2.2 c hc).2.1; omega))
  · show pSum A t.2 = pSum (A ++ [_]) t.2
    exact (pSum_old _ _ (fun c hc => (i2.2 c hc).2.1)).symm
  · have hc' : c ∈ t.2 := hc
    rw [pNd_old (i2.2 c hc').2.1]
    exact hk c hc'
theorem pOk_gr {s : Nat} {l : List Nat} (h1 : pIv lo s l A.length) (hk : ∀ c ∈ l, (pNd A c).1 = 5) : pOk (A ++ [(6, pSumG A l, l, 0, 0, pNo)]) (pUp lo A.length s) A.length (6, pSumG A l, l, 0, 0, pNo) := by
  have i1 := pIv_le h1
  refine ⟨?_, ⟨by show 1 ≤ 6; decide, by show 6 ≤ 6; decide⟩, ?_, fun z => absurd z (show ¬ 6 ≤ 3 by decide), fun z => absurd z (show ¬ (6 : Nat) = 4 by decide), fun _ c hc => ?_, fun z => absurd z (show ¬ 6 ≤ 5 by decide)⟩
  · show pIv _ (pUp lo A.length s A.length) l A.length
    rw [pUp_s]
    exact pIv_fr h1 (fun c hc => pUp_n (by have := (i1.2 c hc).2.1; omega))
  · show pSumG A l = pSumG (A ++ [_]) l
    exact (pSumG_old _ _ (fun c hc => (i1.2 c hc).2.1)).symm
  · have hc' : c ∈ l := hc
    rw [pNd_old (i1.2 c hc').2.1]
    exact hk c hc'
/-- the pattern is read: its last branch, the whole -/
theorem pZ_end (h : pZ lo (a, x, A, t :: [])) : ∃ lo', (∀ (i : Nat) (q : xNode), (A ++ [(5, pSum A t.2, t.2, 0, 0, pNo)] ++ [(6, pSumG (A ++ [(5, pSum A t.2, t.2, 0, 0, pNo)]) (t.1 ++ [A.length]), t.1 ++ [A.length], 0, 0, pNo)])[i]? = some q → pOk (A ++ [(5, pSum A t.2, t.2, 0, 0, pNo)] ++ [(6, pSumG (A ++ [(5, pSum A t.2, t.2, 0, 0, pNo)]) (t.1 ++ [A.length]), t.1 ++ [A.length], 0, 0, pNo)]) lo' i q) ∧ lo' (A.length + 1) = 0 ∧ pCst (A ++ [(5, pSum A t.2, t.2, 0, 0, pNo)] ++ [(6, pSumG (A ++ [(5, pSum A t.2, t.2, 0, 0, pNo)]) (t.1 ++ [A.length]), t.1 ++ [A.length], 0, 0, pNo)]) ≤ 15 * a + 6 ∧ A.length ≤ a ∧ a ≤ 24 := by
  obtain ⟨z1, z2, z3, z4⟩ := pZ_num h
  obtain ⟨⟨g1, g2, g3, g4⟩, hl, hk, ho⟩ := h
  have g4' : pCst A + pPen (t :: []) ≤ 15 * a + 11 := g4
  rw [pPen_cons] at g4'
  obtain ⟨s, m, h1, h2, h3⟩ := hl
  have h3' : s = 0 := h3
  have ho : ∀ (i : Nat) (q : xNode), A[i]? = some q → pOk A lo i q := ho
  have hk : ∀ v ∈ t :: ([] : List (List Nat × List Nat)), (∀ c ∈ v.1, (pNd A c).1 = 5) ∧ ∀ c ∈ v.2, ¬ (pNd A c).1 = 5 := hk
  have h1 : pIv lo s t.1 m := h1
  have h2 : pIv lo m t.2 A.length := h2
  have i1 := pIv_le h1
  have i2 := pIv_le h2
  have i2' : m + t.2.length ≤ A.length := i2.1
  have hlen : (A ++ [(5, pSum A t.2, t.2, 0, 0, pNo)]).length = A.length + 1 := by rw [List.length_append, List.length_singleton]
  have hlow : ∀ c, c < A.length → pUp lo A.length m c = lo c := fun c hc => pUp_n (by omega)
  have o2 := pOk_all ho hlow (pOk_br h1 h2 (hk t List.mem_cons_self).2)
  have h8 : pIv (pUp lo A.length m) s (t.1 ++ [A.length]) (A ++ [(5, pSum A t.2, t.2, 0, 0, pNo)]).length := by
    rw [hlen]
    exact pIv_app (pIv_fr h1 (fun c hc => hlow c (by have := (i1.2 c hc).2.1; omega))) pUp_s (by omega)
  have hk2 : ∀ c ∈ t.1 ++ [A.length], (pNd (A ++ [(5, pSum A t.2, t.2, 0, 0, pNo)]) c).1 = 5 := fun c hc => by
    rcases List.mem_append.mp hc with w | w
    · have hc2 : c < A.length := by have := (i1.2 c w).2.1; omega
      rw [pNd_old hc2]
      exact (hk t List.mem_cons_self).1 c w
    · rw [List.mem_singleton.mp w, pNd_new]
  have o3 := pOk_all o2 (lo' := pUp (pUp lo A.length m) (A ++ [(5, pSum A t.2, t.2, 0, 0, pNo)]).length s) (fun c hc => pUp_n (by omega)) (pOk_gr h8 hk2)
  refine ⟨_, o3, ?_, ?_, by omega, z2⟩
  · rw [← hlen, pUp_s]
    exact h3'
  · rw [pCst_app, pCst_app, show pOwn (5, pSum A t.2, t.2, 0, 0, pNo) = 5 * t.2.length from rfl, show pOwn (6, pSumG (A ++ [(5, pSum A t.2, t.2, 0, 0, pNo)]) (t.1 ++ [A.length]), t.1 ++ [A.length], 0, 0, pNo) = 6 from rfl]
    have hpn : pPen ([] : List (List Nat × List Nat)) = 0 := rfl
    omega
theorem pZ_0 : pZ (fun _ => 0) (0, x, [], ([], []) :: []) := by
  refine ⟨⟨by show 1 ≤ 7; decide, by show 0 ≤ 24; decide, by show 0 + 1 ≤ 0 + 1; decide, by show pCst [] + pPen [([], [])] ≤ 15 * 0 + 11; decide⟩, ⟨0, 0, rfl, rfl, rfl⟩, fun v hv => ?_, fun i q hq => by simp at hq⟩
  have hv' : v = ([], []) := by simpa using hv
  rw [hv']
  exact ⟨fun c hc => absurd hc (by simp), fun c hc => absurd hc (by simp)⟩
/-- what adding to a list wants -/
def pY (A : List xNode) (t : List Nat × List Nat) (r : List (List Nat × List Nat)) : Prop := (r.length ≤ 6 ∧ t.1.length + t.2.length ≤ 26 ∧ A.length ≤ 26) ∧ (∀ v ∈ t :: r, (∀ c ∈ v.1, c < A.length) ∧ ∀ c ∈ v.2, c < A.length) ∧ ∀ (i : Nat) (q : xNode), A[i]? = some q → (∀ c ∈ q.2.2.1, c < A.length) ∧ 1 ≤ q.1 ∧ q.1 ≤ 6
theorem pZ_Y (h : pZ lo (a, x, A, t :: r)) : pY A t r := by
  obtain ⟨z1, z2, z3, z4⟩ := pZ_num h
  obtain ⟨-, hl, hk, ho⟩ := h
  have hl' : pLv lo (t :: r) A.length := hl
  refine ⟨⟨z3, by omega, by omega⟩, fun v hv => ⟨(pLv_in hl' v hv).2.1, (pLv_in hl' v hv).2.2⟩, fun i q hq => ⟨fun c hc => ?_, (ho i q hq).2.1⟩⟩
  have := ((pIv_le (ho i q hq).1).2 c hc).2.1
  have hi : i < A.length := (List.getElem?_eq_some_iff.mp hq).1
  omega
theorem pY_drop {t2 : List Nat × List Nat} {w : Int32} (h : pZ lo (a, x, A, t :: t2 :: r)) : pY (A ++ [(5, w, t.2, 0, 0, pNo)]) t2 r := by
  obtain ⟨⟨y1, y2, y3⟩, y4, y5⟩ := pZ_Y h
  obtain ⟨z1, z2, z3, z4⟩ := pZ_num h
  have y1' : r.length + 1 ≤ 6 := y1
  have z1' : A.length + (r.length + 1) ≤ a := z1
  have hlen : (A ++ [(5, w, t.2, 0, 0, pNo)]).length = A.length + 1 := by rw [List.length_append, List.length_singleton]
  have hl' : pLv lo (t :: t2 :: r) A.length := h.2.1
  have h2 := (pLv_in hl' t2 (List.mem_cons_of_mem _ List.mem_cons_self)).1
  refine ⟨⟨by omega, by omega, by omega⟩, fun v hv => ⟨fun c hc => ?_, fun c hc => ?_⟩, fun i q hq => ?_⟩
  · have := (y4 v (List.mem_cons_of_mem _ hv)).1 c hc
    omega
  · have := (y4 v (List.mem_cons_of_mem _ hv)).2 c hc
    omega
  · by_cases hi : i < A.length
    · rw [List.getElem?_append_left hi] at hq
      obtain ⟨w1, w2⟩ := y5 i q hq
      exact ⟨fun c hc => by have := w1 c hc; omega, w2⟩
    · have hh := (List.getElem?_eq_some_iff.mp hq).1
      have hi8 : i = A.length := by omega
      rw [hi8, List.getElem?_append_right (Nat.le_refl _), Nat.sub_self] at hq
      have hq' : (5, w, t.2, 0, 0, pNo) = q := Option.some.inj hq
      rw [← hq']
      exact ⟨fun c hc => by have := (y4 t List.mem_cons_self).2 c hc; omega, by show 1 ≤ 5; decide, by show 5 ≤ 6; decide⟩
end pZs

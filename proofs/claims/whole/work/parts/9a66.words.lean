/-! STRINGS, as mathematics: lists of at most four strings of at most twelve letters -/
theorem xrev_ind {α : Type} {P : List α → Prop} (h0 : P []) (h1 : ∀ l a, P l → P (l ++ [a])) : ∀ l, P l := by
  intro l
  rw [← List.reverse_reverse l]
  induction l.reverse with
  | nil => exact h0
  | cons a l ih =>
    rw [List.reverse_cons]
    exact h1 _ _ ih
def sAdd (S : List (List Int32)) (w : List Int32) : Option (List (List Int32)) := if 12 < w.length then none else if w ∈ S then some S else if 4 ≤ S.length then none else some (S ++ [w])
def sAdds : List (List Int32) → List (List Int32) → Option (List (List Int32))
  | S, [] => some S
  | S, w :: l => (sAdd S w).bind fun T => sAdds T l
def sPrd (S T : List (List Int32)) : List (List Int32) := S.flatMap fun s => T.map fun t => s ++ t
def sJoin (S T : List (List Int32)) : Option (List (List Int32)) := sAdds [] (sPrd S T)
def sWf (S : List (List Int32)) : Prop := S.length ≤ 4 ∧ ∀ s ∈ S, s.length ≤ 12
theorem sAdd_wf {S T : List (List Int32)} {w : List Int32} (h : sWf S) (e : sAdd S w = some T) : sWf T := by
  unfold sAdd at e
  split at e
  · cases e
  · split at e
    · cases e
      exact h
    · split at e
      · cases e
      · cases e
        refine ⟨by rw [List.length_append, List.length_singleton]; omega, fun s hs => ?_⟩
        rcases List.mem_append.mp hs with q | q
        · exact h.2 s q
        · rw [List.mem_singleton.mp q]
          omega
theorem sAdds_wf : ∀ {l S T : List (List Int32)}, sWf S → sAdds S l = some T → sWf T
  | [], S, T, h, e => by
    have e' : some S = some T := e
    cases e'
    exact h
  | w :: l, S, T, h, e => by
    have e' : ((sAdd S w).bind fun T => sAdds T l) = some T := e
    cases h1 : sAdd S w with
    | none => rw [h1] at e'; cases e'
    | some U => rw [h1] at e'; exact sAdds_wf (sAdd_wf h h1) e'
theorem sWf_nil : sWf [] := ⟨by decide, fun s hs => by cases hs⟩
theorem sWf_one : sWf [[]] := ⟨by decide, fun s hs => by rw [List.mem_singleton.mp hs]; decide⟩
theorem sJoin_wf {S T U : List (List Int32)} (e : sJoin S T = some U) : sWf U := sAdds_wf sWf_nil e
/-- the letters of a set -/
def sLet (cs : Nat → Bool) : List (List Int32) := ((List.range 95).filter cs).map fun c => [nI (c + 32)]
def sSmall (cs : Nat → Bool) : Option (List (List Int32)) := if (sLet cs).length ≤ 4 then some (sLet cs) else none
/-- one part more stands behind the others -/
def sFol (z : List (List (List Int32)) × List Nat × List (List Int32) × Int32) (c : Nat) (w : Option (List (List Int32))) : List (List (List Int32)) × List Nat × List (List Int32) × Int32 :=
  match w with
  | none => (z.1 ++ [z.2.2.1], z.2.1 ++ [c], [[]], 0)
  | some W => match sJoin z.2.2.1 W with
    | none => (z.1 ++ [z.2.2.1], z.2.1, W, 0)
    | some J => (z.1, z.2.1, J, z.2.2.2)
def sNd0 : List (List (List Int32)) × List Nat × List (List Int32) × Int32 := ([], [], [[]], 1)
def sJoined (z : List (List (List Int32)) × List Nat × List (List Int32) × Int32) : Option (List (List Int32)) := if z.2.2.2 = 0 then none else some z.2.2.1
def sTimes (W : Nat → Option (List (List Int32))) (e : Nat) : Nat → List (List (List Int32)) × List Nat × List (List Int32) × Int32
  | 0 => sNd0
  | k + 1 => sFol (sTimes W e k) e (W e)
def sAlong (W : Nat → Option (List (List Int32))) (l : List Nat) : List (List (List Int32)) × List Nat × List (List Int32) × Int32 := l.foldl (fun z c => sFol z c (W c)) sNd0
def sUni (W : Nat → Option (List (List Int32))) (l : List Nat) : Option (List (List Int32)) := l.foldl (fun a c => a.bind fun S => (W c).bind fun T => sAdds S T) (some [])
/-- words and needs of a node, by its parts' words -/
def sNode (W : Nat → Option (List (List Int32))) (q : xNode) : Option (List (List Int32)) × List (List (List Int32)) × List Nat × List (List Int32) × Int32 :=
  if q.1 = 1 then (sSmall q.2.2.2.2.2, sNd0)
  else if q.1 ≤ 3 then (some [[]], sNd0)
  else if q.1 = 4 then (if q.2.2.2.1 = q.2.2.2.2.1 then sJoined (sTimes W (q.2.2.1.headD 0) q.2.2.2.1.toNatClampNeg) else none, sTimes W (q.2.2.1.headD 0) q.2.2.2.1.toNatClampNeg)
  else if q.1 = 5 then (sJoined (sAlong W q.2.2.1), sAlong W q.2.2.1)
  else (sUni W q.2.2.1, sNd0)
def sAll (A : List xNode) : List (Option (List (List Int32)) × List (List (List Int32)) × List Nat × List (List Int32) × Int32) := A.foldl (fun acc q => acc ++ [sNode (fun c => ((acc[c]?).getD (none, sNd0)).1) q]) []
def sLr (A : List xNode) (i : Nat) : Option (List (List Int32)) × List (List (List Int32)) × List Nat × List (List Int32) × Int32 := ((sAll A)[i]?).getD (none, sNd0)
theorem sAll_app (A : List xNode) (q : xNode) : sAll (A ++ [q]) = sAll A ++ [sNode (fun c => (sLr A c).1) q] := by
  unfold sAll
  rw [List.foldl_append]
  rfl
theorem sAll_len : ∀ (A : List xNode), (sAll A).length = A.length := by
  refine xrev_ind rfl (fun A q ih => ?_)
  rw [sAll_app, List.length_append, List.length_append, ih]
  rfl
theorem sLr_old {A : List xNode} {q : xNode} {i : Nat} (h : i < A.length) : sLr (A ++ [q]) i = sLr A i := by
  unfold sLr
  rw [sAll_app, List.getElem?_append_left (by rw [sAll_len]; exact h)]
theorem sLr_new {A : List xNode} {q : xNode} : sLr (A ++ [q]) A.length = sNode (fun c => (sLr A c).1) q := by
  unfold sLr
  rw [sAll_app, List.getElem?_append_right (by rw [sAll_len]; exact Nat.le_refl _), sAll_len, Nat.sub_self]
  rfl
theorem sTimes_cg {W W' : Nat → Option (List (List Int32))} {e : Nat} (h : W' e = W e) : ∀ k, sTimes W' e k = sTimes W e k
  | 0 => rfl
  | k + 1 => by
    show sFol _ e (W' e) = sFol _ e (W e)
    rw [sTimes_cg h k, h]
theorem sAlong_cg {W W' : Nat → Option (List (List Int32))} : ∀ (l : List Nat) (z : List (List (List Int32)) × List Nat × List (List Int32) × Int32), (∀ c ∈ l, W' c = W c) → l.foldl (fun z c => sFol z c (W' c)) z = l.foldl (fun z c => sFol z c (W c)) z
  | [], _, _ => rfl
  | c :: l, z, h => by
    rw [List.foldl_cons, List.foldl_cons, h c List.mem_cons_self]
    exact sAlong_cg l _ (fun d hd => h d (List.mem_cons_of_mem _ hd))
theorem sUni_cg {W W' : Nat → Option (List (List Int32))} : ∀ (l : List Nat) (a : Option (List (List Int32))), (∀ c ∈ l, W' c = W c) → l.foldl (fun a c => a.bind fun S => (W' c).bind fun T => sAdds S T) a = l.foldl (fun a c => a.bind fun S => (W c).bind fun T => sAdds S T) a
  | [], _, _ => rfl
  | c :: l, a, h => by
    rw [List.foldl_cons, List.foldl_cons, h c List.mem_cons_self]
    exact sUni_cg l _ (fun d hd => h d (List.mem_cons_of_mem _ hd))
theorem sNode_cg {W W' : Nat → Option (List (List Int32))} {q : xNode} (h : ∀ c ∈ q.2.2.1, W' c = W c) (h4 : q.1 = 4 → ∃ e, q.2.2.1 = [e]) : sNode W' q = sNode W q := by
  unfold sNode
  by_cases c1 : q.1 = 1
  · rw [if_pos c1, if_pos c1]
  · rw [if_neg c1, if_neg c1]
    by_cases c2 : q.1 ≤ 3
    · rw [if_pos c2, if_pos c2]
    · rw [if_neg c2, if_neg c2]
      by_cases c3 : q.1 = 4
      · rw [if_pos c3, if_pos c3]
        obtain ⟨e, he⟩ := h4 c3
        rw [he] at h ⊢
        rw [sTimes_cg (show W' ([e].headD 0) = W ([e].headD 0) from h e (by simp))]
      · rw [if_neg c3, if_neg c3]
        by_cases c5 : q.1 = 5
        · rw [if_pos c5, if_pos c5]
          unfold sAlong
          rw [sAlong_cg _ _ h]
        · rw [if_neg c5, if_neg c5]
          unfold sUni
          rw [sUni_cg _ _ h]
/-- a node's words are those that its parts give -/
theorem sLr_at : ∀ (A : List xNode), (∀ (i : Nat) (q : xNode), A[i]? = some q → (∀ c ∈ q.2.2.1, c < i) ∧ (q.1 = 4 → ∃ e, q.2.2.1 = [e])) → ∀ (i : Nat) (q : xNode), A[i]? = some q → sLr A i = sNode (fun c => (sLr A c).1) q := by
  refine xrev_ind ?_ (fun A p ih => ?_)
  · intro _ i q hq
    simp at hq
  · intro h i q hq
    by_cases hi : i < A.length
    · have hq' : A[i]? = some q := (List.getElem?_append_left hi).symm.trans hq
      rw [sLr_old hi, ih (fun j r hr => h j r ((List.getElem?_append_left (List.getElem?_eq_some_iff.mp hr).1).trans hr)) i q hq']
      exact (sNode_cg (fun c hc => by rw [sLr_old (by have := (h i q hq).1 c hc; omega)]) (h i q hq).2).symm
    · have hh := (List.getElem?_eq_some_iff.mp hq).1
      rw [List.length_append, List.length_singleton] at hh
      have hi8 : i = A.length := by omega
      have hq2 := hq
      rw [hi8, List.getElem?_append_right (Nat.le_refl _), Nat.sub_self] at hq2
      have hqp : p = q := Option.some.inj hq2
      rw [hi8, sLr_new, hqp]
      exact (sNode_cg (fun c hc => by rw [sLr_old (by have := (h i q hq).1 c hc; omega)]) (h i q hq).2).symm

/-! What a text may hold, as mathematics. hw: a string's trigrams stand in the text -/
def vHas (f : Nat → Int32) (tl : Nat) (w : List Int32) : Prop := ∀ k, k + 2 < w.length → xhas f tl (w.getD k 0) (w.getD (k + 1) 0) (w.getD (k + 2) 0)
theorem vHas_nil (f : Nat → Int32) (tl : Nat) : vHas f tl [] := fun k h => absurd h (Nat.not_lt_zero _)
def vAl (hw : List Int32 → Prop) (S : List (List Int32)) : Prop := ∃ w ∈ S, hw w
theorem vAl_1 {hw : List Int32 → Prop} (h0 : hw []) : vAl hw [[]] := ⟨[], List.mem_singleton.mpr rfl, h0⟩
/-- needs that are met -/
def vNd (al : List (List Int32) → Prop) (V : Nat → Prop) (z : xNl) : Prop := (∀ S ∈ z.1, al S) ∧ (∀ c ∈ z.2.1, V c) ∧ al z.2.2.1
def vQ (al : List (List Int32) → Prop) (V : Nat → Prop) (ℓ : xLk) (q : xNode) : Prop := (q.1 = 1 ∧ ∀ S, ℓ.1 = some S → al S) ∨ (q.1 = 2 ∨ q.1 = 3) ∨ ((q.1 = 4 ∨ q.1 = 5) ∧ vNd al V ℓ.2) ∨ (q.1 = 6 ∧ ∃ c ∈ q.2.2.1, V c)
theorem vQ_mono {al : List (List Int32) → Prop} {V V' : Nat → Prop} {ℓ : xLk} {q : xNode} (h : ∀ c, V c → V' c) (z : vQ al V ℓ q) : vQ al V' ℓ q := by
  rcases z with z | z | ⟨z, z1, z2, z3⟩ | ⟨z, c, z1, z2⟩
  · exact Or.inl z
  · exact Or.inr (Or.inl z)
  · exact Or.inr (Or.inr (Or.inl ⟨z, z1, fun c hc => h c (z2 c hc), z3⟩))
  · exact Or.inr (Or.inr (Or.inr ⟨z, c, z1, h c z2⟩))
def vY (A : List xNode) (al : List (List Int32) → Prop) (i : Nat) : Prop := ∀ P : Nat → Prop, (∀ (j : Nat) (q : xNode), A[j]? = some q → vQ al P (sLr A j) q → P j) → P i
theorem vY_in {A : List xNode} {al : List (List Int32) → Prop} {i : Nat} {q : xNode} (hq : A[i]? = some q) (h : vQ al (vY A al) (sLr A i) q) : vY A al i := fun P hP => hP i q hq (vQ_mono (fun c hc => hc P hP) h)
theorem vY_iff {A : List xNode} {al : List (List Int32) → Prop} {i : Nat} {q : xNode} (hq : A[i]? = some q) : vY A al i ↔ vQ al (vY A al) (sLr A i) q := by
  refine ⟨fun h => ?_, vY_in hq⟩
  obtain ⟨p, hp, h2⟩ := h (fun j => ∃ p, A[j]? = some p ∧ vQ al (vY A al) (sLr A j) p) (fun j p hp hz => ⟨p, hp, vQ_mono (fun c ⟨p', hp', hz'⟩ => vY_in hp' hz') hz⟩)
  rw [hq] at hp
  cases hp
  exact h2
/-- joined needs have nothing but what is current -/
theorem sFol_j {z : xNl} {c : Nat} {w : Option (List (List Int32))} (h : ¬ z.2.2.2 = 0 → z.1 = [] ∧ z.2.1 = []) : ¬ (sFol z c w).2.2.2 = 0 → (sFol z c w).1 = [] ∧ (sFol z c w).2.1 = [] := by
  unfold sFol
  cases w with
  | none => exact fun q => absurd rfl q
  | some W =>
    show ¬ (match sJoin z.2.2.1 W with | none => (z.1 ++ [z.2.2.1], z.2.1, W, (0 : Int32)) | some J => (z.1, z.2.1, J, z.2.2.2)).2.2.2 = 0 → (match sJoin z.2.2.1 W with | none => (z.1 ++ [z.2.2.1], z.2.1, W, (0 : Int32)) | some J => (z.1, z.2.1, J, z.2.2.2)).1 = [] ∧ (match sJoin z.2.2.1 W with | none => (z.1 ++ [z.2.2.1], z.2.1, W, (0 : Int32)) | some J => (z.1, z.2.1, J, z.2.2.2)).2.1 = []
    cases sJoin z.2.2.1 W with
    | none => exact fun q => absurd rfl q
    | some J => exact h
theorem sTimes_j {W : Nat → Option (List (List Int32))} {e : Nat} : ∀ k, ¬ (sTimes W e k).2.2.2 = 0 → (sTimes W e k).1 = [] ∧ (sTimes W e k).2.1 = []
  | 0 => fun _ => ⟨rfl, rfl⟩
  | k + 1 => sFol_j (sTimes_j k)
theorem sAlong_j {W : Nat → Option (List (List Int32))} : ∀ (l : List Nat) (z : xNl), (¬ z.2.2.2 = 0 → z.1 = [] ∧ z.2.1 = []) → ¬ (l.foldl (fun z c => sFol z c (W c)) z).2.2.2 = 0 → (l.foldl (fun z c => sFol z c (W c)) z).1 = [] ∧ (l.foldl (fun z c => sFol z c (W c)) z).2.1 = []
  | [], _, h => h
  | c :: l, z, h => sAlong_j l _ (sFol_j h)
theorem sJoined_j {z : xNl} {S : List (List Int32)} (h : ¬ z.2.2.2 = 0 → z.1 = [] ∧ z.2.1 = []) (hs : sJoined z = some S) (al : List (List Int32) → Prop) (V : Nat → Prop) : vNd al V z ↔ al S := by
  unfold sJoined at hs
  by_cases q : z.2.2.2 = 0
  · rw [if_pos q] at hs
    cases hs
  · rw [if_neg q] at hs
    cases hs
    obtain ⟨h1, h2⟩ := h q
    unfold vNd
    rw [h1, h2]
    exact ⟨fun h => h.2.2, fun h => ⟨fun S hS => absurd hS (by simp), fun c hc => absurd hc (by simp), h⟩⟩
theorem sAdd_mem {S T : List (List Int32)} {w : List Int32} (e : sAdd S w = some T) (u : List Int32) : u ∈ T ↔ u ∈ S ∨ u = w := by
  unfold sAdd at e
  split at e
  · cases e
  · split at e
    · rename_i hw
      cases e
      exact ⟨Or.inl, fun h => h.elim id (fun q => by rw [q]; exact hw)⟩
    · split at e
      · cases e
      · cases e
        rw [List.mem_append, List.mem_singleton]
theorem sAdds_mem : ∀ {l S T : List (List Int32)}, sAdds S l = some T → ∀ u, u ∈ T ↔ u ∈ S ∨ u ∈ l
  | [], S, T, e, u => by
    have e' : some S = some T := e
    cases e'
    simp
  | w :: l, S, T, e, u => by
    have e' : ((sAdd S w).bind fun T => sAdds T l) = some T := e
    cases h1 : sAdd S w with
    | none => rw [h1] at e'; cases e'
    | some U =>
      rw [h1] at e'
      rw [sAdds_mem e' u, sAdd_mem h1 u, List.mem_cons, or_assoc]
theorem sUni_none {W : Nat → Option (List (List Int32))} : ∀ (l : List Nat), l.foldl (fun a c => a.bind fun S => (W c).bind fun T => sAdds S T) none = none
  | [] => rfl
  | c :: l => sUni_none l
theorem sUni_mem {W : Nat → Option (List (List Int32))} : ∀ (l : List Nat) (S0 S : List (List Int32)), l.foldl (fun a c => a.bind fun S => (W c).bind fun T => sAdds S T) (some S0) = some S → (∀ c ∈ l, ∃ T, W c = some T) ∧ ∀ u, u ∈ S ↔ u ∈ S0 ∨ ∃ c ∈ l, ∃ T, W c = some T ∧ u ∈ T
  | [], S0, S, e => by
    have e' : some S0 = some S := e
    cases e'
    exact ⟨fun c hc => absurd hc (by simp), fun u => ⟨Or.inl, fun h => h.elim id (fun ⟨c, hc, _⟩ => absurd hc (by simp))⟩⟩
  | c :: l, S0, S, e => by
    have e' : l.foldl (fun a c => a.bind fun S => (W c).bind fun T => sAdds S T) ((W c).bind fun T => sAdds S0 T) = some S := e
    cases h1 : W c with
    | none =>
      rw [h1] at e'
      exact absurd ((sUni_none l).symm.trans e') (by simp)
    | some T =>
      rw [h1] at e'
      have e2 : l.foldl (fun a c => a.bind fun S => (W c).bind fun T => sAdds S T) (sAdds S0 T) = some S := e'
      cases h2 : sAdds S0 T with
      | none =>
        rw [h2] at e2
        exact absurd ((sUni_none l).symm.trans e2) (by simp)
      | some U =>
        rw [h2] at e2
        obtain ⟨i1, i2⟩ := sUni_mem l U S e2
        refine ⟨fun d hd => ?_, fun u => ?_⟩
        · rcases List.mem_cons.mp hd with q | q
          · rw [q]
            exact ⟨T, h1⟩
          · exact i1 d q
        · rw [i2 u, sAdds_mem h2 u]
          constructor
          · rintro ((q | q) | ⟨d, d1, d2⟩)
            · exact Or.inl q
            · exact Or.inr ⟨c, List.mem_cons_self, T, h1, q⟩
            · exact Or.inr ⟨d, List.mem_cons_of_mem _ d1, d2⟩
          · rintro (q | ⟨d, d1, U', d2, d3⟩)
            · exact Or.inl (Or.inl q)
            · rcases List.mem_cons.mp d1 with q | q
              · rw [q, h1] at d2
                cases d2
                exact Or.inl (Or.inr d3)
              · exact Or.inr ⟨d, q, U', d2, d3⟩
/-- where a node's strings are known, they tell -/
theorem vY_kn {A : List xNode} {lo : Nat → Nat} (hO : ∀ (i : Nat) (q : xNode), A[i]? = some q → pOk A lo i q) {hw : List Int32 → Prop} (h0 : hw []) : ∀ (i : Nat) (q : xNode) (S : List (List Int32)), A[i]? = some q → (sLr A i).1 = some S → (vY A (vAl hw) i ↔ vAl hw S) := by
  intro i
  induction i using Nat.strongRecOn with
  | ind i ih =>
    intro q S hq hS
    have hL : sLr A i = sNode (fun c => (sLr A c).1) q := sLr_at A (fun j p hp => ⟨fun c hc => ((pIv_le (hO j p hp).1).2 c hc).2.1, fun z => ((hO j p hp).2.2.2.2.1 z).1⟩) i q hq
    obtain ⟨h1, h2, h3, h4, h5, h6, h7⟩ := hO i q hq
    have hiv := pIv_le h1
    have hkk : q.1 = 1 ∨ (q.1 = 2 ∨ q.1 = 3) ∨ q.1 = 4 ∨ q.1 = 5 ∨ q.1 = 6 := by omega
    rw [vY_iff hq]
    rcases hkk with z | z | z | z | z
    · refine ⟨fun h => ?_, fun h => Or.inl ⟨z, fun T hT => by rw [hS] at hT; cases hT; exact h⟩⟩
      rcases h with ⟨-, h⟩ | h | ⟨h, -⟩ | ⟨h, -⟩
      · exact h S hS
      · omega
      · omega
      · omega
    · have hS' : some [[]] = some S := by
        rw [← hS, hL]
        unfold sNode
        rw [if_neg (by omega), if_pos (by omega)]
      cases hS'
      exact ⟨fun _ => vAl_1 h0, fun _ => Or.inr (Or.inl z)⟩
    · have hN : vNd (vAl hw) (vY A (vAl hw)) (sLr A i).2 ↔ vAl hw S := by
        rw [hL] at hS ⊢
        unfold sNode at hS ⊢
        rw [if_neg (by omega), if_neg (by omega), if_pos z] at hS ⊢
        by_cases e : q.2.2.2.1 = q.2.2.2.2.1
        · rw [if_pos e] at hS
          exact sJoined_j (sTimes_j _) hS _ _
        · rw [if_neg e] at hS
          cases hS
      rw [← hN]
      refine ⟨fun h => ?_, fun h => Or.inr (Or.inr (Or.inl ⟨Or.inl z, h⟩))⟩
      rcases h with ⟨h, -⟩ | h | ⟨-, h⟩ | ⟨h, -⟩
      · omega
      · omega
      · exact h
      · omega
    · have hN : vNd (vAl hw) (vY A (vAl hw)) (sLr A i).2 ↔ vAl hw S := by
        rw [hL] at hS ⊢
        unfold sNode at hS ⊢
        rw [if_neg (by omega), if_neg (by omega), if_neg (by omega), if_pos z] at hS ⊢
        exact sJoined_j (sAlong_j _ _ (fun _ => ⟨rfl, rfl⟩)) hS _ _
      rw [← hN]
      refine ⟨fun h => ?_, fun h => Or.inr (Or.inr (Or.inl ⟨Or.inr z, h⟩))⟩
      rcases h with ⟨h, -⟩ | h | ⟨-, h⟩ | ⟨h, -⟩
      · omega
      · omega
      · exact h
      · omega
    · rw [hL] at hS
      unfold sNode at hS
      rw [if_neg (by omega), if_neg (by omega), if_neg (by omega), if_neg (by omega)] at hS
      obtain ⟨u1, u2⟩ := sUni_mem q.2.2.1 [] S hS
      have hcq : ∀ c ∈ q.2.2.1, ∃ p, A[c]? = some p ∧ c < i := fun c hc => by
        have hi : i < A.length := (List.getElem?_eq_some_iff.mp hq).1
        have hc2 := (hiv.2 c hc).2.1
        exact ⟨A[c]'(by omega), List.getElem?_eq_getElem (by omega), hc2⟩
      constructor
      · intro h
        rcases h with ⟨h, -⟩ | h | ⟨h, -⟩ | ⟨-, c, hc, hv⟩
        · omega
        · omega
        · omega
        · obtain ⟨p, hp, hci⟩ := hcq c hc
          obtain ⟨T, hT⟩ := u1 c hc
          obtain ⟨w, w1, w2⟩ := (ih c hci p T hp hT).mp hv
          exact ⟨w, (u2 w).mpr (Or.inr ⟨c, hc, T, hT, w1⟩), w2⟩
      · rintro ⟨w, w1, w2⟩
        rcases (u2 w).mp w1 with k | ⟨c, hc, T, hT, k⟩
        · simp at k
        · obtain ⟨p, hp, hci⟩ := hcq c hc
          exact Or.inr (Or.inr (Or.inr ⟨z, c, hc, (ih c hci p T hp hT).mpr ⟨w, k, w2⟩⟩))

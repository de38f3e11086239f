/-! A search, as mathematics -/
/-- the hit in a line: its least start, its greatest end -/
def lnH (len : Nat) (ln : Nat → Nat) (A : List xNode) (o : Option (Nat × Nat)) : Prop := (o = none ∧ ∀ a j, a ≤ len → ¬ rY len ln A (A.length - 1) a j) ∨ ∃ m j, o = some (m, j) ∧ m ≤ len ∧ rY len ln A (A.length - 1) m j ∧ (∀ a j', a < m → ¬ rY len ln A (A.length - 1) a j') ∧ ∀ j', rY len ln A (A.length - 1) m j' → j' ≤ j
theorem xlst1 {P : Nat → Prop} : ∀ n, P n → ∃ m, m ≤ n ∧ P m ∧ ∀ a, a < m → ¬ P a := by
  intro n
  induction n using Nat.strongRecOn with
  | ind n ih =>
    intro h
    by_cases w : ∃ a, a < n ∧ P a
    · obtain ⟨a, a1, a2⟩ := w
      obtain ⟨m, m1, m2⟩ := ih a a1 a2
      exact ⟨m, by omega, m2⟩
    · exact ⟨n, Nat.le_refl _, h, fun a ha hp => w ⟨a, ha, hp⟩⟩
theorem xgreatest {P : Nat → Prop} (b : Nat) : ∀ d n, n + d = b → P n → (∀ j, P j → j ≤ b) → ∃ m, P m ∧ ∀ j, P j → j ≤ m := by
  intro d
  induction d with
  | zero => exact fun n hn h hb => ⟨n, h, fun j hj => by have := hb j hj; omega⟩
  | succ d ih =>
    intro n hn h hb
    by_cases w : ∃ j, n < j ∧ P j
    · obtain ⟨j, j1, j2⟩ := w
      have h9 : ∀ e n', n' + e = b → e ≤ d → P n' → ∃ m, P m ∧ ∀ j, P j → j ≤ m := by
        intro e
        induction e with
        | zero => exact fun n' h1 _ h2 => ⟨n', h2, fun j hj => by have := hb j hj; omega⟩
        | succ e ih2 =>
          intro n' h1 h3 h2
          by_cases w2 : ∃ j, n' < j ∧ P j
          · obtain ⟨j', j1', j2'⟩ := w2
            have hj := hb j' j2'
            by_cases q : j' = n' + 1
            · exact ih2 j' (by omega) (by omega) j2'
            · exact Classical.byContradiction fun _ => by
                have : ∀ f, f ≤ e → ∀ n2, n2 + f = b → P n2 → ∃ m, P m ∧ ∀ j, P j → j ≤ m := by
                  intro f
                  induction f using Nat.strongRecOn with
                  | ind f ih3 =>
                    intro hf n2 hn2 hp2
                    by_cases w3 : ∃ j, n2 < j ∧ P j
                    · obtain ⟨j3, j31, j32⟩ := w3
                      have := hb j3 j32
                      exact ih3 (b - j3) (by omega) (by omega) j3 (by omega) j32
                    · exact ⟨n2, hp2, fun j hj => Classical.byContradiction fun z => w3 ⟨j, by omega, hj⟩⟩
                exact absurd (this (b - j') (by omega) j' (by omega) j2') (by assumption)
          · exact ⟨n', h2, fun j hj => Classical.byContradiction fun z => w2 ⟨j, by omega, hj⟩⟩
      have := hb j j2
      exact h9 (b - j) j (by omega) (by omega) j2
    · exact ⟨n, h, fun j hj => Classical.byContradiction fun z => w ⟨j, by omega, hj⟩⟩
theorem lnH_ex (len : Nat) (ln : Nat → Nat) (A : List xNode) : ∃ o, lnH len ln A o := by
  by_cases w : ∃ a, a ≤ len ∧ ∃ j, rY len ln A (A.length - 1) a j
  · obtain ⟨a, a1, a2⟩ := w
    obtain ⟨m, m1, ⟨j, m2⟩, m3⟩ := xlst1 (P := fun a => ∃ j, rY len ln A (A.length - 1) a j) a a2
    have hml : m ≤ len := by omega
    obtain ⟨g, g1, g2⟩ := xgreatest (P := fun j => rY len ln A (A.length - 1) m j) len (len - j) j (by have := (rY_le m2 hml).2; omega) m2 (fun j' h => (rY_le h hml).2)
    exact ⟨some (m, g), Or.inr ⟨m, g, rfl, hml, g1, fun a j' ha h => m3 a ha ⟨j', h⟩, g2⟩⟩
  · exact ⟨none, Or.inl ⟨rfl, fun a j ha h => w ⟨a, ha, j, h⟩⟩⟩
noncomputable def lnO (len : Nat) (ln : Nat → Nat) (A : List xNode) : Option (Nat × Nat) := Classical.choose (lnH_ex len ln A)
theorem lnH_u {len : Nat} {ln : Nat → Nat} {A : List xNode} {o o' : Option (Nat × Nat)} (h : lnH len ln A o) (h' : lnH len ln A o') : o = o' := by
  rcases h with ⟨e, h⟩ | ⟨m, j, e, h1, h2, h3, h4⟩
  · rcases h' with ⟨e', h'⟩ | ⟨m', j', e', h1', h2', -⟩
    · rw [e, e']
    · exact absurd h2' (h m' j' h1')
  · rcases h' with ⟨e', h'⟩ | ⟨m', j', e', h1', h2', h3', h4'⟩
    · exact absurd h2 (h' m j h1)
    · have hm : m = m' := by
        by_cases q : m < m'
        · exact absurd h2 (h3' m j q)
        · by_cases q2 : m' < m
          · exact absurd h2' (h3 m' j' q2)
          · omega
      subst hm
      have h5 := h4 j' h2'
      have h6 := h4' j h2
      rw [e, e', show j = j' by omega]
theorem lnO_eq {len : Nat} {ln : Nat → Nat} {A : List xNode} {o : Option (Nat × Nat)} (h : lnH len ln A o) : lnO len ln A = o := lnH_u (Classical.choose_spec (lnH_ex len ln A)) h
/-- the letters of a line, numbered from the space on -/
def lnF (f : Nat → Int32) (s k : Nat) : Nat := (f (s + k)).toNatClampNeg - 32
/-- the hits, one line more -/
noncomputable def sLin (A : List xNode) (f : Nat → Int32) (nl : Int32) (s e : Nat) (H : List Int32) : List Int32 := match lnO (e - s) (lnF f s) A with
  | none => H
  | some q => H ++ [nl + nI q.1 * 256 + nI q.2]
/-- the hits of a text, from its place k on -/
noncomputable def sTx (A : List xNode) (f : Nat → Int32) (tl : Nat) (nm : Int32) : Nat → Nat → Nat → Nat → List Int32 → List Int32
  | 0, _, _, _, H => H
  | r + 1, k, l, s, H => if k = tl ∨ f k = 10 then sTx A f tl nm r (k + 1) (l + 1) (k + 1) (sLin A f (nm * 16777216 + nI l * 65536) s k H) else sTx A f tl nm r (k + 1) l s H
/-- names from k on: which are possible, which hits there are -/
noncomputable def sNm (A : List xNode) (tx te cu : Nat → Int32) : Nat → Nat → Int32 × List Int32 → Int32 × List Int32
  | 0, _, z => z
  | r + 1, k, z => if cu k < 0 then sNm A tx te cu r (k + 1) z else
    @ite _ (vY A (vAl (vHas (fun j => tx (40 * (cu k).toNatClampNeg + j)) (te (cu k).toNatClampNeg).toNatClampNeg)) (A.length - 1)) (Classical.propDecidable _)
      (sNm A tx te cu r (k + 1) (z.1 ||| ((1 : Int32) <<< (nI k &&& 31)), sTx A (fun j => tx (40 * (cu k).toNatClampNeg + j)) (te (cu k).toNatClampNeg).toNatClampNeg (nI k) ((te (cu k).toNatClampNeg).toNatClampNeg + 1) 0 0 0 z.2))
      (sNm A tx te cu r (k + 1) z)
theorem sLin_len {A : List xNode} {f : Nat → Int32} {nl : Int32} {s e : Nat} {H : List Int32} : (sLin A f nl s e H).length ≤ H.length + 1 := by
  unfold sLin
  split
  · omega
  · rw [List.length_append, List.length_singleton]
    omega
theorem sTx_len {A : List xNode} {f : Nat → Int32} {tl : Nat} {nm : Int32} : ∀ (r k l s : Nat) (H : List Int32), (sTx A f tl nm r k l s H).length ≤ H.length + r
  | 0, _, _, _, _ => Nat.le_refl _
  | r + 1, k, l, s, H => by
    unfold sTx
    split
    · have h1 := sTx_len (A := A) (f := f) (tl := tl) (nm := nm) r (k + 1) (l + 1) (k + 1) (sLin A f (nm * 16777216 + nI l * 65536) s k H)
      have h2 := sLin_len (A := A) (f := f) (nl := nm * 16777216 + nI l * 65536) (s := s) (e := k) (H := H)
      omega
    · have h1 := sTx_len (A := A) (f := f) (tl := tl) (nm := nm) r (k + 1) l s H
      omega
/-- a line depends on its letters alone -/
theorem rQ_cg {len : Nat} {ln ln' : Nat → Nat} {R : Nat → Nat → Nat → Prop} {q : xNode} {a b : Nat} (h : ∀ k, k < len → ln' k = ln k) (z : rQ len ln R q a b) : rQ len ln' R q a b := by
  rcases z with ⟨z1, z2, z3, z4⟩ | z
  · exact Or.inl ⟨z1, z2, by rw [h a z2]; exact z3, z4⟩
  · exact Or.inr z
theorem rY_cg {len : Nat} {ln ln' : Nat → Nat} {A : List xNode} {i a b : Nat} (h : ∀ k, k < len → ln' k = ln k) (z : rY len ln A i a b) : rY len ln' A i a b := fun P hP => z P (fun j q a b hq hz => hP j q a b hq (rQ_cg h hz))
theorem lnH_cg {len : Nat} {ln ln' : Nat → Nat} {A : List xNode} {o : Option (Nat × Nat)} (h : ∀ k, k < len → ln' k = ln k) (z : lnH len ln A o) : lnH len ln' A o := by
  have h' : ∀ k, k < len → ln k = ln' k := fun k hk => (h k hk).symm
  rcases z with ⟨e, z⟩ | ⟨m, j, e, h1, h2, h3, h4⟩
  · exact Or.inl ⟨e, fun a j ha w => z a j ha (rY_cg h' w)⟩
  · exact Or.inr ⟨m, j, e, h1, rY_cg h h2, fun a j' ha w => h3 a j' ha (rY_cg h' w), fun j' w => h4 j' (rY_cg h' w)⟩
theorem lnO_cg {len : Nat} {ln ln' : Nat → Nat} {A : List xNode} (h : ∀ k, k < len → ln' k = ln k) : lnO len ln' A = lnO len ln A := lnO_eq (lnH_cg h (Classical.choose_spec (lnH_ex len ln A)))

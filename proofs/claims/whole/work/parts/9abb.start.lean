/-! What the law starts from, with the String constants -/
def xtm (i : Nat) : Term := .string "TrigramLines$Reader" ([127, 144, 150, 152, 154].getD i 0)
abbrev xgv : List Cond := flatC (Jvm.Cond.and given_1 narrow_1)
theorem xgv_ex : ∀ i, i < 5 → Cond.exactly (xtm i) "java/lang/String" ∈ xgv := by decide +kernel
theorem xgv_co : ∀ i, i < 5 → Cond.eq (.field (xtm i) "java/lang/String" "coder" "B") (.int 0) ∈ xgv := by decide +kernel
theorem xgv_ar : ∀ i, i < 5 → Cond.arrayOf (.field (xtm i) "java/lang/String" "value" "[B") .byte ∈ xgv := by decide +kernel
theorem xgv_le : ∀ i, i < 5 → Cond.eq (.length (.field (xtm i) "java/lang/String" "value" "[B")) (.int (Int32.ofNat (xjl.getD i 0))) ∈ xgv := by decide +kernel
theorem xgv_el : ∀ i, i < 5 → ∀ j, j < xjl.getD i 0 → Cond.eq (.elem (.field (xtm i) "java/lang/String" "value" "[B") (.int (Int32.ofNat j))) (.int ((xjb.getD i []).getD j 0)) ∈ xgv := by decide +kernel
theorem xgv_ne : ∀ i, i < 5 → ∀ j, j < 5 → i ≠ j → Cond.not (Cond.eq (xtm i) (xtm j)) ∈ xgv ∨ Cond.not (Cond.eq (xtm j) (xtm i)) ∈ xgv := by decide +kernel
theorem xgv_m : Cond.isRef (.mirror "[Ljava/lang/Object;") ∈ xgv ∧ Cond.not (.castable "TrigramLines$CharacterSet" "TrigramLines$Anchor") ∈ xgv ∧ Cond.not (.castable "TrigramLines$Repetition" "TrigramLines$Anchor") ∈ xgv ∧ Cond.not (.castable "TrigramLines$Group" "TrigramLines$Anchor") ∈ xgv ∧ Cond.eq (.static "java/lang/String" "COMPACT_STRINGS" "Z") (.int 1) ∈ xgv ∧ Cond.isRef (.static "jdk/internal/util/Preconditions" "SIOOBE_FORMATTER" "Ljava/util/function/BiFunction;") ∈ xgv ∧ Cond.arrayOf (.static "java/util/ArrayList" "DEFAULTCAPACITY_EMPTY_ELEMENTDATA" "[Ljava/lang/Object;") (.object "java/lang/Object") ∈ xgv ∧ Cond.eq (.length (.static "java/util/ArrayList" "DEFAULTCAPACITY_EMPTY_ELEMENTDATA" "[Ljava/lang/Object;")) (.int 0) ∈ xgv := by decide +kernel
/-- the old cells by their numbers -/
def xold (b t fm mi : Nat) (adK adV : Nat → Nat) (n k : Nat) : Nat := if k = 0 then b else if k = 1 then t else if k < 7 then adK (k - 2) else if k < 12 then adV (k - 7) else if k = 12 then fm else if k = 13 then mi else if k < 16 then b else n + (k - 16)
theorem xold_K {b t fm mi n i : Nat} {adK adV : Nat → Nat} (hi : i < 5) : xold b t fm mi adK adV n (i + 2) = adK i := by
  unfold xold
  rw [if_neg (by omega), if_neg (by omega), if_pos (by omega), Nat.add_sub_cancel]
theorem xold_V {b t fm mi n i : Nat} {adK adV : Nat → Nat} (hi : i < 5) : xold b t fm mi adK adV n (i + 7) = adV i := by
  unfold xold
  rw [if_neg (by omega), if_neg (by omega), if_neg (by omega), if_pos (by omega), Nat.add_sub_cancel]
theorem xstart (l : Launch) {s : State} {b : Nat} (hts : ∀ w ∈ lw_tbl, w.before #[Value.ref b] s = true) (hbl : b < s.heap.size) (hgv : (Jvm.Cond.and given_1 narrow_1).before #[Value.ref b] s = true) :
    ∃ G : xG, G.1 = l ∧ xs G = s ∧ xa G 0 = b ∧ xGood G ∧ va_Z "java/util/ArrayList" "DEFAULTCAPACITY_EMPTY_ELEMENTDATA" "[Ljava/lang/Object;" (.ref (xa G 1)) (fun q => (xs G).heap.size ≤ q) (xs G) (xs G).heap ∧ va_T (.object "java/lang/Object") (xa G 1) 0 (fun _ => .null) (fun q => (xs G).heap.size ≤ q) (xs G) (xs G).heap ∧ xHM G ∧ xNA G ∧ xSC G := by
  have hs : ∀ c ∈ xgv, c.before #[Value.ref b] s = true := flat_of_before _ hgv
  obtain ⟨m1, m2, m3, m4, m5, m6, m7, m8⟩ := xgv_m
  have hA : ∀ a : Nat, a < s.heap.size → ¬ (s.heap.size ≤ a) := fun a h => Nat.not_le.mpr h
  obtain ⟨t, ht, hT⟩ := va_Tof (f := fun _ => .null) (N := 0) (A := fun q => s.heap.size ≤ q) (by decide) (hs _ m7) (va_eqt (hs _ m8)) (fun j hj => absurd hj (Nat.not_lt_zero j)) hA
  have hZ := va_Zof (A := fun q => s.heap.size ≤ q) (hts _ w58) (hts _ w5) ht hA
  have htl : t < s.heap.size := by
    obtain ⟨cell, h1, -⟩ := hT
    exact (Array.getElem?_eq_some_iff.mp h1).1
  obtain ⟨mi, hMi⟩ := va_Mi.of (hs _ m1)
  obtain ⟨adK, adV, hSS, hev⟩ := vk_Sof (args := #[Value.ref b]) (s := s) (N := 5) (tm := xtm) (len := xjl) (byt := xjb) (A := fun q => s.heap.size ≤ q) (by decide) (fun i hi => hs _ (xgv_ex i hi)) (fun i hi => hs _ (xgv_co i hi)) (fun i hi => hs _ (xgv_ar i hi)) (fun i hi => hs _ (xgv_le i hi)) (fun i hi j hj => hs _ (xgv_el i hi j hj)) (fun i j hi hj h => (xgv_ne i hi j hj h).imp (hs _) (hs _)) hA
  have hK : ∀ i, i < 5 → adK i < s.heap.size := fun i hi => by
    obtain ⟨⟨cell, h1, -⟩, -⟩ := hSS.1 i hi
    exact (Array.getElem?_eq_some_iff.mp h1).1
  have hV : ∀ i, i < 5 → adV i < s.heap.size := fun i hi => by
    obtain ⟨-, -, -, cell, h1, -⟩ := hSS.1 i hi
    exact (Array.getElem?_eq_some_iff.mp h1).1
  obtain ⟨fv, hfv, hfr⟩ := Cond.isRef_spec (hs _ m6)
  obtain ⟨fm, hfm⟩ : ∃ fm : Nat, fv = .null ∨ fv = .ref fm := by
    cases fv with
    | null => exact ⟨0, Or.inl rfl⟩
    | ref a => exact ⟨a, Or.inr rfl⟩
    | int x => cases hfr
    | long x => cases hfr
    | float x => cases hfr
    | double x => cases hfr
    | retAddr x => cases hfr
  have h1 : ∀ c : Nat, ∃ p : ClassId × (Nat → Nat), ∀ q, vwCl[c]? = some q → u_Kn s q.1 q.2.1 q.2.2 p.1 p.2 := by
    intro c
    cases hq : vwCl[c]? with
    | none => exact ⟨(0, fun _ => 0), fun q h => by cases h⟩
    | some q =>
      obtain ⟨hin, n, hi⟩ := xclsOK c q hq
      obtain ⟨cC, iS, h⟩ := u_known hts hin (hts _ hi)
      exact ⟨(cC, iS), fun q' h' => by cases h'; exact h⟩
  have h2 := xarrOK hts
  refine ⟨(l, (fun c => (Classical.choose (h1 c)).1, fun c => (Classical.choose (h1 c)).2), fun t => Classical.choose (h2 t), xold b t fm mi adK adV s.heap.size, s, b), rfl, rfl, rfl, ⟨fun k hk => ?_, fun k hk => ?_, hts, fun c q hq => Classical.choose_spec (h1 c) q hq, fun k q hk => ?_⟩, hZ, hT, hMi, ⟨va_Nc.of (hs _ m2), va_Nc.of (hs _ m3), va_Nc.of (hs _ m4)⟩, ?_, ?_, ?_, ?_, ?_, ?_, ?_, ?_⟩
  · have hk : 16 ≤ k := hk
    show xold b t fm mi adK adV s.heap.size k = s.heap.size + (k - 16)
    unfold xold
    rw [if_neg (by omega), if_neg (by omega), if_neg (by omega), if_neg (by omega), if_neg (by omega), if_neg (by omega), if_neg (by omega)]
  · show xold b t fm mi adK adV s.heap.size k < s.heap.size
    by_cases e0 : k = 0
    · rw [e0]
      exact hbl
    · by_cases e1 : k = 1
      · rw [e1]
        exact htl
      · by_cases e7 : k < 7
        · rw [show k = k - 2 + 2 by omega, xold_K (by omega)]
          exact hK _ (by omega)
        · have hk12 : k < 12 := hk
          rw [show k = k - 7 + 7 by omega, xold_V (by omega)]
          exact hV _ (by omega)
  · have hl : k < 8 := by
      have := (List.getElem?_eq_some_iff.mp hk).1
      simpa [xtys] using this
    have e : q = (Classical.choose (h2 k), xty k) := by
      simp [xtys, hl] at hk
      exact hk.symm
    subst e
    exact Classical.choose_spec (h2 k) hl
  · exact va_Zof (hts _ w552) (hts _ w21) (va_eqt (hs _ m5)) hA
  · rcases hfm with e | e
    · rw [e] at hfv
      exact Or.inl (va_Zof (hts _ w591) (hts _ w13) hfv hA)
    · rw [e] at hfv
      exact Or.inr (va_Zof (hts _ w591) (hts _ w13) hfv hA)
  · refine ⟨fun i hi => ?_, fun i j hi hj e => ?_⟩
    · show va_O _ (xold b t fm mi adK adV s.heap.size (i + 2)) _ _ _ ∧ va_OF _ _ _ _ (xold b t fm mi adK adV s.heap.size (i + 2)) _ _ _ ∧ va_OF _ _ _ (.ref (xold b t fm mi adK adV s.heap.size (i + 7))) (xold b t fm mi adK adV s.heap.size (i + 2)) _ _ _ ∧ va_T _ (xold b t fm mi adK adV s.heap.size (i + 7)) _ _ _ _ _
      rw [xold_K hi, xold_V hi]
      exact hSS.1 i hi
    · have e' : xold b t fm mi adK adV s.heap.size (i + 2) = xold b t fm mi adK adV s.heap.size (j + 2) := e
      rw [xold_K hi, xold_K hj] at e'
      exact hSS.2 i j hi hj e'
  · exact vk_R.of (hts _ w538) (hev 0 (by decide))
  · exact vk_R.of (hts _ w679) (hev 1 (by decide))
  · exact vk_R.of (hts _ w703) (hev 2 (by decide))
  · exact vk_R.of (hts _ w704) (hev 3 (by decide))
  · exact vk_R.of (hts _ w705) (hev 4 (by decide))

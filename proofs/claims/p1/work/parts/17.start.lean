theorem xclsOK : ∀ (c : Nat) (q : vw_C), vwCl[c]? = some q → (∀ w ∈ u_ws q.1 q.2.1 q.2.2, w ∈ lw_tbl) ∧ ∃ n, Cond.instantiable q.1 n ∈ lw_tbl
  | 0, q, h => by
    have e : (Rc0, Tc0, 13) = q := Option.some.inj h
    subst e
    exact ⟨fun w hw => (xc0.2.1 w hw).1, 13, w30⟩
  | 1, q, h => by
    have e : (Rc1, Tc1, 2) = q := Option.some.inj h
    subst e
    exact ⟨fun w hw => (xc1.2.1 w hw).1, 2, w40⟩
  | 2, q, h => by
    have e : (Rc2, Tc2, 3) = q := Option.some.inj h
    subst e
    exact ⟨fun w hw => (xc2.2.1 w hw).1, 3, w46⟩
  | 3, q, h => by
    have e : (Rc3, Tc3, 2) = q := Option.some.inj h
    subst e
    exact ⟨fun w hw => (xc3.2.1 w hw).1, 2, w144⟩
  | 4, q, h => by
    have e : (Rc4, Tc4, 7) = q := Option.some.inj h
    subst e
    exact ⟨fun w hw => (xc4.2.1 w hw).1, 7, w305⟩
  | 5, q, h => by
    have e : (Rc5, Tc5, 3) = q := Option.some.inj h
    subst e
    exact ⟨fun w hw => (xc5.2.1 w hw).1, 3, w311⟩
  | 6, q, h => by
    have e : (Rc6, Tc6, 3) = q := Option.some.inj h
    subst e
    exact ⟨fun w hw => (xc6.2.1 w hw).1, 3, w326⟩
  | 7, q, h => by
    have e : (Rc7, Tc7, 4) = q := Option.some.inj h
    subst e
    exact ⟨fun w hw => (xc7.2.1 w hw).1, 4, w334⟩
  | 8, q, h => by
    have e : (Rc8, Tc8, 3) = q := Option.some.inj h
    subst e
    exact ⟨fun w hw => (xc8.2.1 w hw).1, 3, w345⟩
  | 9, q, h => by
    have e : (Rc9, Tc9, 8) = q := Option.some.inj h
    subst e
    exact ⟨fun w hw => (xc9.2.1 w hw).1, 8, w486⟩
  | 10, q, h => by
    have e : (Rc10, Tc10, 4) = q := Option.some.inj h
    subst e
    exact ⟨fun w hw => (xc10.2.1 w hw).1, 4, w626⟩
  | 11, q, h => by
    have e : (Rc11, Tc11, 3) = q := Option.some.inj h
    subst e
    exact ⟨fun w hw => (xc11.2.1 w hw).1, 3, w648⟩
  | 12, q, h => by
    have e : (Rc12, Tc12, 42) = q := Option.some.inj h
    subst e
    exact ⟨fun w hw => (xc12.2.1 w hw).1, 42, w997⟩
  | c + 13, q, h => by cases h
theorem xarrOK {s : State} {b : Nat} (hts : ∀ w ∈ lw_tbl, w.before #[Value.ref b] s = true) : ∀ t : Nat, ∃ cA : ClassId, t < 8 → ArrOfT s cA (xty t) ∧ va_RA s cA (xty t)
  | 0 => by
    obtain ⟨c, k, comp, h1, h2, h3⟩ := Cond.arrayClass_spec (hts _ w122)
    exact ⟨c, fun _ => ⟨fun n z => ⟨fun k h => (by cases h), k, h2, comp, h3⟩, h1⟩⟩
  | 1 => by
    obtain ⟨c, k, comp, h1, h2, h3⟩ := Cond.arrayClass_spec (hts _ w71)
    exact ⟨c, fun _ => ⟨fun n z => ⟨fun k h => (by cases h), k, h2, comp, h3⟩, h1⟩⟩
  | 2 => by
    obtain ⟨c, k, comp, h1, h2, h3⟩ := Cond.arrayClass_spec (hts _ w1129)
    exact ⟨c, fun _ => ⟨fun n z => ⟨fun k h => (by cases h), k, h2, comp, h3⟩, h1⟩⟩
  | 3 => by
    obtain ⟨c, k, comp, h1, h2, h3⟩ := Cond.arrayClass_spec (hts _ w517)
    exact ⟨c, fun _ => ⟨fun n z => ⟨fun k h => (by cases h), k, h2, comp, h3⟩, h1⟩⟩
  | 4 => by
    obtain ⟨comp, c, k, h1, h2, h3, h4, h5⟩ := Cond.arrayOver_spec (hts _ w216)
    exact ⟨c, fun _ => ⟨fun n z => ⟨fun k h => (by cases h), k, h3, comp, h4⟩, k, comp, h3, h4, h1, h5⟩⟩
  | 5 => by
    obtain ⟨comp, c, k, h1, h2, h3, h4, h5⟩ := Cond.arrayOver_spec (hts _ w38)
    exact ⟨c, fun _ => ⟨fun n z => ⟨fun k h => (by cases h), k, h3, comp, h4⟩, k, comp, h3, h4, h1, h5⟩⟩
  | 6 => by
    obtain ⟨comp, c, k, h1, h2, h3, h4, h5⟩ := Cond.arrayOver_spec (hts _ w407)
    exact ⟨c, fun _ => ⟨fun n z => ⟨fun k h => (by cases h), k, h3, comp, h4⟩, k, comp, h3, h4, h1, h5⟩⟩
  | 7 => by
    obtain ⟨c, k, comp, h1, h2, h3⟩ := Cond.arrayClass_spec (hts _ w642)
    exact ⟨c, fun _ => ⟨fun n z => ⟨fun k h => (by cases h), k, h2, comp, h3⟩, h1⟩⟩
  | t + 8 => ⟨0, fun h => absurd h (by omega)⟩
theorem xstart (l : Launch) {s : State} {b : Nat} (hts : ∀ w ∈ lw_tbl, w.before #[Value.ref b] s = true) (hbl : b < s.heap.size) (hgv : (Jvm.Cond.and given_1 narrow_1).before #[Value.ref b] s = true) :
    ∃ G : xG, G.1 = l ∧ xs G = s ∧ xa G 0 = b ∧ xGood G ∧ va_Z "java/util/ArrayList" "DEFAULTCAPACITY_EMPTY_ELEMENTDATA" "[Ljava/lang/Object;" (.ref (xa G 1)) (fun q => (xs G).heap.size ≤ q) (xs G) (xs G).heap ∧ va_T (.object "java/lang/Object") (xa G 1) 0 (fun _ => .null) (fun q => (xs G).heap.size ≤ q) (xs G) (xs G).heap := by
  have hs := flat_of_before _ hgv
  have harr : (Cond.arrayOf (.static "java/util/ArrayList" "DEFAULTCAPACITY_EMPTY_ELEMENTDATA" "[Ljava/lang/Object;") (.object "java/lang/Object")).before #[Value.ref b] s = true := hs _ (by decide +kernel)
  have hle : (Cond.eq (.length (.static "java/util/ArrayList" "DEFAULTCAPACITY_EMPTY_ELEMENTDATA" "[Ljava/lang/Object;")) (.int 0)).before #[Value.ref b] s = true := hs _ (by decide +kernel)
  have hA : ∀ a : Nat, a < s.heap.size → ¬ (s.heap.size ≤ a) := fun a h => Nat.not_le.mpr h
  obtain ⟨t, ht, hT⟩ := va_Tof (f := fun _ => .null) (N := 0) (A := fun q => s.heap.size ≤ q) (by decide) harr (va_eqt hle) (fun j hj => absurd hj (Nat.not_lt_zero j)) hA
  have hZ := va_Zof (A := fun q => s.heap.size ≤ q) (hts _ w58) (hts _ w5) ht hA
  have htl : t < s.heap.size := by
    obtain ⟨cell, h1, -⟩ := hT
    exact (Array.getElem?_eq_some_iff.mp h1).1
  have h1 : ∀ c : Nat, ∃ p : ClassId × (Nat → Nat), ∀ q, vwCl[c]? = some q → u_Kn s q.1 q.2.1 q.2.2 p.1 p.2 := by
    intro c
    cases hq : vwCl[c]? with
    | none => exact ⟨(0, fun _ => 0), fun q h => by cases h⟩
    | some q =>
      obtain ⟨hin, n, hi⟩ := xclsOK c q hq
      obtain ⟨cC, iS, h⟩ := u_known hts hin (hts _ hi)
      exact ⟨(cC, iS), fun q' h' => by cases h'; exact h⟩
  have h2 := xarrOK hts
  refine ⟨(l, (fun c => (Classical.choose (h1 c)).1, fun c => (Classical.choose (h1 c)).2), fun t => Classical.choose (h2 t), fun k => if k = 1 then t else if k < 16 then b else s.heap.size + (k - 16), s, b), rfl, rfl, rfl, ⟨fun k hk => ?_, fun k hk => ?_, hts, fun c q hq => Classical.choose_spec (h1 c) q hq, fun k q hk => ?_⟩, hZ, hT⟩
  · have hk : 16 ≤ k := hk
    show (if k = 1 then t else if k < 16 then b else s.heap.size + (k - 16)) = s.heap.size + (k - 16)
    rw [if_neg (by omega), if_neg (by omega)]
  · have hk : k < 16 := hk
    show (if k = 1 then t else if k < 16 then b else s.heap.size + (k - 16)) < s.heap.size
    by_cases h : k = 1
    · rw [if_pos h]; exact htl
    · rw [if_neg h, if_pos hk]; exact hbl
  · have hl : k < 8 := by
      have := (List.getElem?_eq_some_iff.mp hk).1
      simpa [xtys] using this
    have e : q = (Classical.choose (h2 k), xty k) := by
      simp [xtys, hl] at hk
      exact hk.symm
    subst e
    exact Classical.choose_spec (h2 k) hl

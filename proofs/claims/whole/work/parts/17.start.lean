theorem xclsOK : ∀ (c : Nat) (q : vw_C), vwCl[c]? = some q → (∀ w ∈ u_ws q.1 q.2.1 q.2.2, w ∈ lw_tbl) ∧ ∃ n, Cond.instantiable q.1 n ∈ lw_tbl
  | 0, q, h => by
    have e : (Rc0, Tc0, 13) = q := Option.some.inj h
    subst e
    exact ⟨fun w hw => (xc0.2.1 w hw).1, 13, w30⟩
  | 1, q, h => by
    have e : (Rc1, Tc1, 2) = q := Option.some.inj h
    subst e
    exact ⟨fun w hw => (xc1.2.1 w hw).1, 2, w40⟩
  | 2, q, h => by
    have e : (Rc2, Tc2, 3) = q := Option.some.inj h
    subst e
    exact ⟨fun w hw => (xc2.2.1 w hw).1, 3, w46⟩
  | 3, q, h => by
    have e : (Rc3, Tc3, 2) = q := Option.some.inj h
    subst e
    exact ⟨fun w hw => (xc3.2.1 w hw).1, 2, w144⟩
  | 4, q, h => by
    have e : (Rc4, Tc4, 7) = q := Option.some.inj h
    subst e
    exact ⟨fun w hw => (xc4.2.1 w hw).1, 7, w305⟩
  | 5, q, h => by
    have e : (Rc5, Tc5, 3) = q := Option.some.inj h
    subst e
    exact ⟨fun w hw => (xc5.2.1 w hw).1, 3, w311⟩
  | 6, q, h => by
    have e : (Rc6, Tc6, 3) = q := Option.some.inj h
    subst e
    exact ⟨fun w hw => (xc6.2.1 w hw).1, 3, w326⟩
  | 7, q, h => by
    have e : (Rc7, Tc7, 4) = q := Option.some.inj h
    subst e
    exact ⟨fun w hw => (xc7.2.1 w hw).1, 4, w334⟩
  | 8, q, h => by
    have e : (Rc8, Tc8, 3) = q := Option.some.inj h
    subst e
    exact ⟨fun w hw => (xc8.2.1 w hw).1, 3, w345⟩
  | 9, q, h => by
    have e : (Rc9, Tc9, 8) = q := Option.some.inj h
    subst e
    exact ⟨fun w hw => (xc9.2.1 w hw).1, 8, w486⟩
  | 10, q, h => by
    have e : (Rc10, Tc10, 4) = q := Option.some.inj h
    subst e
    exact ⟨fun w hw => (xc10.2.1 w hw).1, 4, w626⟩
  | 11, q, h => by
    have e : (Rc11, Tc11, 3) = q := Option.some.inj h
    subst e
    exact ⟨fun w hw => (xc11.2.1 w hw).1, 3, w648⟩
  | 12, q, h => by
    have e : (Rc12, Tc12, 42) = q := Option.some.inj h
    subst e
    exact ⟨fun w hw => (xc12.2.1 w hw).1, 42, w997⟩
  | c + 13, q, h => by cases h
theorem xarrOK {s : State} {b : Nat} (hts : ∀ w ∈ lw_tbl, w.before #[Value.ref b] s = true) : ∀ t : Nat, ∃ cA : ClassId, t < 8 → ArrOfT s cA (xty t) ∧ va_RA s cA (xty t)
  | 0 => by
    obtain ⟨c, k, comp, h1, h2, h3⟩ := Cond.arrayClass_spec (hts _ w122)
    exact ⟨c, fun _ => ⟨fun n z => ⟨fun k h => (by cases h), k, h2, comp, h3⟩, h1⟩⟩
  | 1 => by
    obtain ⟨c, k, comp, h1, h2, h3⟩ := Cond.arrayClass_spec (hts _ w71)
    exact ⟨c, fun _ => ⟨fun n z => ⟨fun k h => (by cases h), k, h2, comp, h3⟩, h1⟩⟩
  | 2 => by
    obtain ⟨c, k, comp, h1, h2, h3⟩ := Cond.arrayClass_spec (hts _ w1129)
    exact ⟨c, fun _ => ⟨fun n z => ⟨fun k h => (by cases h), k, h2, comp, h3⟩, h1⟩⟩
  | 3 => by
    obtain ⟨c, k, comp, h1, h2, h3⟩ := Cond.arrayClass_spec (hts _ w517)
    exact ⟨c, fun _ => ⟨fun n z => ⟨fun k h => (by cases h), k, h2, comp, h3⟩, h1⟩⟩
  | 4 => by
    obtain ⟨comp, c, k, h1, h2, h3, h4, h5⟩ := Cond.arrayOver_spec (hts _ w216)
    exact ⟨c, fun _ => ⟨fun n z => ⟨fun k h => (by cases h), k, h3, comp, h4⟩, k, comp, h3, h4, h1, h5⟩⟩
  | 5 => by
    obtain ⟨comp, c, k, h1, h2, h3, h4, h5⟩ := Cond.arrayOver_spec (hts _ w38)
    exact ⟨c, fun _ => ⟨fun n z => ⟨fun k h => (by cases h), k, h3, comp, h4⟩, k, comp, h3, h4, h1, h5⟩⟩
  | 6 => by
    obtain ⟨comp, c, k, h1, h2, h3, h4, h5⟩ := Cond.arrayOver_spec (hts _ w407)
    exact ⟨c, fun _ => ⟨fun n z => ⟨fun k h => (by cases h), k, h3, comp, h4⟩, k, comp, h3, h4, h1, h5⟩⟩
  | 7 => by
    obtain ⟨c, k, comp, h1, h2, h3⟩ := Cond.arrayClass_spec (hts _ w642)
    exact ⟨c, fun _ => ⟨fun n z => ⟨fun k h => (by cases h), k, h2, comp, h3⟩, h1⟩⟩
  | t + 8 => ⟨0, fun h => absurd h (by omega)⟩

def xcnt (f : Nat → Int32) (s : Int32) : Nat → Nat
  | 0 => 0
  | i + 1 => if f i = s then xcnt f s i + 1 else xcnt f s i
theorem xcnt_t {f : Nat → Int32} {s : Int32} {i : Nat} (h : f i = s) : nI (xcnt f s i) + 1 = nI (xcnt f s (i + 1)) := by
  rw [nI_1]
  simp [xcnt, h]
theorem xcnt_f {f : Nat → Int32} {s : Int32} {i : Nat} (h : ¬ f i = s) : xcnt f s (i + 1) = xcnt f s i := by
  simp [xcnt, h]
def p1M (M : xM) : Prop := ∃ f g : Nat → Int32, (∀ j, j < 128 → f j = -1) ∧ (∀ j, j < 10 → g j = -1) ∧ M.2 24 = (.inr (12, [.ref 25, .ref 26, .ref 27, .ref 28, .ref 29, .ref 30, .int 0, .int 0, .int 0, .ref 31, .int 0, .ref 32, .int 0, .int 0, .ref 33, .ref 34, .ref 35, .ref 36, .ref 37, .ref 38, .ref 39, .ref 40, .int 0, .int 0, .int 0, .ref 41, .ref 42, .ref 43, .ref 44, .ref 45, .ref 46, .ref 47, .ref 48, .int 0, .ref 49, .ref 50, .int 0, .int 0, .int 0, .int 0, .int 0, .ref 51])) ∧ M.2 25 = (.inl (0, 5120, .inl (fun _ => 0))) ∧ M.2 26 = (.inl (0, 128, .inl (fun _ => 0))) ∧ M.2 27 = (.inl (2, 128, .inl (fun _ => 0))) ∧ M.2 28 = (.inl (0, 128, .inl f)) ∧ M.2 29 = (.inl (0, 10, .inl g)) ∧ M.2 30 = (.inl (0, 64, .inl (fun _ => 0))) ∧ M.2 31 = (.inl (0, 40, .inl (fun _ => 0))) ∧ M.2 32 = (.inl (0, 24, .inl (fun _ => 0))) ∧ M.2 33 = (.inl (0, 30, .inl (fun _ => 0))) ∧ M.2 34 = (.inl (0, 30, .inl (fun _ => 0))) ∧ M.2 35 = (.inl (0, 30, .inl (fun _ => 0))) ∧ M.2 36 = (.inl (0, 30, .inl (fun _ => 0))) ∧ M.2 37 = (.inl (0, 30, .inl (fun _ => 0))) ∧ M.2 38 = (.inl (0, 30, .inl (fun _ => 0))) ∧ M.2 39 = (.inl (0, 30, .inl (fun _ => 0))) ∧ M.2 40 = (.inl (2, 2850, .inl (fun _ => 0))) ∧ M.2 41 = (.inl (0, 7, .inl (fun _ => 0))) ∧ M.2 42 = (.inl (0, 7, .inl (fun _ => 0))) ∧ M.2 43 = (.inl (0, 7, .inl (fun _ => 0))) ∧ M.2 44 = (.inl (0, 7, .inl (fun _ => 0))) ∧ M.2 45 = (.inl (2, 32, .inl (fun _ => 0))) ∧ M.2 46 = (.inl (0, 32, .inl (fun _ => 0))) ∧ M.2 47 = (.inl (0, 1536, .inl (fun _ => 0))) ∧ M.2 48 = (.inl (0, 128, .inl (fun _ => 0))) ∧ M.2 49 = (.inl (2, 30, .inl (fun _ => 0))) ∧ M.2 50 = (.inl (3, 1230, .inr (.inl (fun _ => 0)))) ∧ M.2 51 = (.inl (0, 420, .inl (fun _ => 0)))
theorem mHoldsL {G : xG} (hg : xGood G) {M : xM} {n : Nat} (hn : M.1 = n) {a ia : Nat} {f : Nat → Int32} {s : Int32} {o0 o1 o2 o4 o5 o6 o7 o8 o9 o10 o11 o12 o13 o14 o15 o16 o17 o18 o19 o20 o21 o22 o23 o24 o25 o26 o27 o28 o29 o30 o31 o32 o33 o34 o35 o36 o37 o38 o39 o40 o41 : Value} (h1_a : xn ≤ a) (h2_a : a < n) (h_a : M.2 a = (.inr (12, [o0, o1, o2, .ref ia, o4, o5, o6, o7, o8, o9, o10, o11, o12, o13, o14, o15, o16, o17, o18, o19, o20, o21, o22, o23, o24, o25, o26, o27, o28, o29, o30, o31, o32, o33, o34, o35, o36, o37, o38, o39, o40, o41]))) (h1_ia : xn ≤ ia) (h2_ia : ia < n) (h_ia : M.2 ia = (.inl (0, 128, .inl f))) {d ce se cells slots : Nat} {Post : Option Value → xM → Prop} (K : XJ G Y14_7 d ce se cells slots 35 [(3, .int (nI 128)), (2, .int (nI (xcnt f s 128))), (1, .int s), (0, .ref a)] [] M Post) : ∀ r i : Nat, i + r = 128 → XJ G Y14_7 d ce se cells slots 4 [(3, .int (nI i)), (2, .int (nI (xcnt f s i))), (1, .int s), (0, .ref a)] [] M Post := by
  intro r
  induction r with
  | zero =>
    intro i hi
    have hi' : i = 128 := by omega
    subst hi'
    refine xj_iload_n (i := 3) d14_7_4 rfl rfl ?_
    refine xj_sipush (v := 128) d14_7_5 (by decide) ?_
    refine xj_icmp_ge (tgt := 35) d14_7_8 rfl (fun _ => ?_) (fun h => absurd (by decide) h)
    exact K
  | succ r ih =>
    intro i hi
    refine xj_iload_n (i := 3) d14_7_4 rfl rfl ?_
    refine xj_sipush (v := 128) d14_7_5 (by decide) ?_
    refine xj_icmp_ge (tgt := 35) d14_7_8 rfl (fun h => absurd h (nI_ge (a := i) (b := 128) (by omega) (by decide))) (fun _ => ?_)
    refine xj_aload_n (i := 0) d14_7_11 rfl rfl ?_
    refine xj_get d14_7_12 f14_20_12 h_a (by omega) (show a < M.1 by omega) rfl ?_
    refine xj_iload_n (i := 3) d14_7_15 rfl rfl ?_
    refine xj_iaload (j := i) d14_7_16 h_ia (by omega) (show ia < M.1 by omega) (vp_in_nI (by omega) (by decide)) (nI_clamp (by omega)) ?_
    refine xj_iload_n (i := 1) d14_7_17 rfl rfl ?_
    refine xj_icmp_ne (tgt := 27) d14_7_18 rfl (fun hb => ?_) (fun hb => ?_)
    · refine xj_iload_n (i := 2) d14_7_27 rfl rfl ?_
      refine xj_istore_n (i := 2) (L' := [(2, .int (nI (xcnt f s i))), (3, .int (nI i)), (1, .int s), (0, .ref a)]) d14_7_28 rfl (by decide) rfl ?_
      refine xj_iinc (v := nI (i + 1)) (L' := [(3, .int (nI (i + 1))), (2, .int (nI (xcnt f s i))), (1, .int s), (0, .ref a)]) d14_7_29 rfl (xinc _) (by decide) rfl ?_
      refine xj_goto (tgt := 4) d14_7_32 rfl ?_
      rw [show xcnt f s i = xcnt f s (i + 1) from (xcnt_f hb).symm]
      exact ih (i + 1) (by omega)
    · refine xj_iload_n (i := 2) d14_7_21 rfl rfl ?_
      refine xj_iconst (v := 1) d14_7_22 (by decide) ?_
      refine xj_iadd (v := nI (xcnt f s (i + 1))) d14_7_23 (xcnt_t hb) ?_
      refine xj_goto (tgt := 28) d14_7_24 rfl ?_
      refine xj_istore_n (i := 2) (L' := [(2, .int (nI (xcnt f s (i + 1)))), (3, .int (nI i)), (1, .int s), (0, .ref a)]) d14_7_28 rfl (by decide) rfl ?_
      refine xj_iinc (v := nI (i + 1)) (L' := [(3, .int (nI (i + 1))), (2, .int (nI (xcnt f s (i + 1)))), (1, .int s), (0, .ref a)]) d14_7_29 rfl (xinc _) (by decide) rfl ?_
      refine xj_goto (tgt := 4) d14_7_32 rfl ?_
      exact ih (i + 1) (by omega)

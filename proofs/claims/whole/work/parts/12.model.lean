def xcnt (f : Nat → Int32) (s : Int32) : Nat → Nat
  | 0 => 0
  | i + 1 => if f i = s then xcnt f s i + 1 else xcnt f s i
theorem xcnt_t {f : Nat → Int32} {s : Int32} {i : Nat} (h : f i = s) : nI (xcnt f s i) + 1 = nI (xcnt f s (i + 1)) := by
  rw [nI_1]
  simp [xcnt, h]
theorem xcnt_zero {f : Nat → Int32} {s : Int32} (hf : ∀ j, j < 128 → f j = -1) (hs : ¬ (-1 : Int32) = s) : xcnt f s 128 = 0 := by
  have h : ∀ i, i ≤ 128 → xcnt f s i = 0 := by
    intro i
    induction i with
    | zero => intro _; rfl
    | succ i ih =>
      intro hi
      simp only [xcnt]
      rw [if_neg (by rw [hf i (by omega)]; exact hs)]
      exact ih (by omega)
  exact h 128 (by omega)
theorem xcnt_one {f : Nat → Int32} (hf : ∀ j, j < 128 → f j = -1) : xcnt (upd f 0 99) 99 128 = 1 := by
  have h : ∀ i, i < 128 → xcnt (upd f 0 99) 99 (i + 1) = 1 := by
    intro i
    induction i with
    | zero => intro _; simp [xcnt, upd]
    | succ i ih =>
      intro hi
      have e := ih (by omega)
      rw [xcnt, if_neg (by
        have h1 : upd f 0 99 (i + 1) = -1 := by rw [upd, if_neg (by omega)]; exact hf _ (by omega)
        rw [h1]; decide)]
      exact e
  exact h 127 (by omega)
def xcl (f l : Nat → Int32) (s : Int32) : Nat → Nat
  | 0 => 0
  | i + 1 => if f i = s ∧ ¬ l i = 0 then xcl f l s i + 1 else xcl f l s i
theorem xcl_t {f l : Nat → Int32} {s : Int32} {i : Nat} (h : f i = s ∧ ¬ l i = 0) : nI (xcl f l s i) + 1 = nI (xcl f l s (i + 1)) := by
  rw [nI_1, xcl, if_pos h]
theorem xcl_f {f l : Nat → Int32} {s : Int32} {i : Nat} (h : ¬ (f i = s ∧ ¬ l i = 0)) : xcl f l s (i + 1) = xcl f l s i := by
  rw [xcl, if_neg h]
theorem xcl_zero {f l : Nat → Int32} {s : Int32} (hf : ∀ j, j < 128 → f j = -1) (hs : ¬ (-1 : Int32) = s) : xcl f l s 128 = 0 := by
  have h : ∀ i, i ≤ 128 → xcl f l s i = 0 := by
    intro i
    induction i with
    | zero => intro _; rfl
    | succ i ih =>
      intro hi
      rw [xcl, if_neg (fun q => hs (by rw [← hf i (by omega)]; exact q.1))]
      exact ih (by omega)
  exact h 128 (by omega)
theorem xname_in9 {c : Int32} (h1 : ¬ c < 0) (h2 : ¬ 9 < c) : vp_in c 10 := by
  rw [vp_in_iff]
  have h1 := Int32.not_lt.mp h1
  have h2 := Int32.not_lt.mp h2
  rw [Int32.le_iff_toInt_le] at h1 h2
  have e1 : (0 : Int32).toInt = 0 := by decide
  have e2 : (9 : Int32).toInt = 9 := by decide
  omega
theorem xname_lt {c : Int32} {N : Nat} (h : vp_in c N) : c.toNatClampNeg < N := Nat.not_le.mp fun q => h (Or.inr q)
theorem xnm {c : Int32} (h : ¬ 10 ≤ c) : c ≤ 9 := by
  have h := Int32.not_le.mp h
  rw [Int32.lt_iff_toInt_lt] at h
  rw [Int32.le_iff_toInt_le]
  have e1 : (10 : Int32).toInt = 10 := by decide
  have e2 : (9 : Int32).toInt = 9 := by decide
  omega
theorem xnm2 {c : Int32} (h : c ≤ 9) : ¬ 10 ≤ c := by
  rw [Int32.le_iff_toInt_le] at h ⊢
  have e1 : (10 : Int32).toInt = 10 := by decide
  have e2 : (9 : Int32).toInt = 9 := by decide
  omega
theorem xkm1 {k : Int32} (h1 : ¬ k < -1) (h2 : ¬ 0 ≤ k) : k = -1 := by
  rw [Int32.lt_iff_toInt_lt] at h1
  rw [Int32.le_iff_toInt_le] at h2
  have e1 : (-1 : Int32).toInt = -1 := by decide
  have e2 : (0 : Int32).toInt = 0 := by decide
  exact Int32.toInt_inj.mp (by omega)
theorem xw2 {w : Int32} (h1 : ¬ w < 0) (h2 : w ≤ 2) (h3 : ¬ w = 0) (h4 : ¬ w = 1) : w = 2 := by
  have e0 : (0 : Int32).toInt = 0 := by decide
  have e1 : (1 : Int32).toInt = 1 := by decide
  have e2 : (2 : Int32).toInt = 2 := by decide
  have h3 : ¬ w.toInt = 0 := fun q => h3 (Int32.toInt_inj.mp (q.trans e0.symm))
  have h4 : ¬ w.toInt = 1 := fun q => h4 (Int32.toInt_inj.mp (q.trans e1.symm))
  rw [Int32.lt_iff_toInt_lt] at h1
  rw [Int32.le_iff_toInt_le] at h2
  exact Int32.toInt_inj.mp (by omega)
theorem xZ_t {p : Prop} (h : p) : xZ p = 0 := by simp [xZ, h]
theorem xZ_f {p : Prop} (h : ¬ p) : xZ p = -1 := by simp [xZ, h]
theorem xcnt_f {f : Nat → Int32} {s : Int32} {i : Nat} (h : ¬ f i = s) : xcnt f s (i + 1) = xcnt f s i := by
  simp [xcnt, h]
def p1M (M : xM) : Prop := ∃ f g : Nat → Int32, (∀ j, j < 128 → f j = -1) ∧ (∀ j, j < 10 → g j = -1) ∧ M.2 24 = (.inr (12, [.ref 25, .ref 26, .ref 27, .ref 28, .ref 29, .ref 30, .int 0, .int 0, .int 0, .ref 31, .int 0, .ref 32, .int 0, .int 0, .ref 33, .ref 34, .ref 35, .ref 36, .ref 37, .ref 38, .ref 39, .ref 40, .int 0, .int 0, .int 0, .ref 41, .ref 42, .ref 43, .ref 44, .ref 45, .ref 46, .ref 47, .ref 48, .int 0, .ref 49, .ref 50, .int 0, .int 0, .int 0, .int 0, .int 0, .ref 51])) ∧ M.2 25 = (.inl (0, 5120, .inl (fun _ => 0))) ∧ M.2 26 = (.inl (0, 128, .inl (fun _ => 0))) ∧ M.2 27 = (.inl (2, 128, .inl (fun _ => 0))) ∧ M.2 28 = (.inl (0, 128, .inl f)) ∧ M.2 29 = (.inl (0, 10, .inl g)) ∧ M.2 30 = (.inl (0, 64, .inl (fun _ => 0))) ∧ M.2 31 = (.inl (0, 40, .inl (fun _ => 0))) ∧ M.2 32 = (.inl (0, 24, .inl (fun _ => 0))) ∧ M.2 33 = (.inl (0, 30, .inl (fun _ => 0))) ∧ M.2 34 = (.inl (0, 30, .inl (fun _ => 0))) ∧ M.2 35 = (.inl (0, 30, .inl (fun _ => 0))) ∧ M.2 36 = (.inl (0, 30, .inl (fun _ => 0))) ∧ M.2 37 = (.inl (0, 30, .inl (fun _ => 0))) ∧ M.2 38 = (.inl (0, 30, .inl (fun _ => 0))) ∧ M.2 39 = (.inl (0, 30, .inl (fun _ => 0))) ∧ M.2 40 = (.inl (2, 2850, .inl (fun _ => 0))) ∧ M.2 41 = (.inl (0, 7, .inl (fun _ => 0))) ∧ M.2 42 = (.inl (0, 7, .inl (fun _ => 0))) ∧ M.2 43 = (.inl (0, 7, .inl (fun _ => 0))) ∧ M.2 44 = (.inl (0, 7, .inl (fun _ => 0))) ∧ M.2 45 = (.inl (2, 32, .inl (fun _ => 0))) ∧ M.2 46 = (.inl (0, 32, .inl (fun _ => 0))) ∧ M.2 47 = (.inl (0, 1536, .inl (fun _ => 0))) ∧ M.2 48 = (.inl (0, 128, .inl (fun _ => 0))) ∧ M.2 49 = (.inl (2, 30, .inl (fun _ => 0))) ∧ M.2 50 = (.inl (3, 1230, .inr (.inl (fun _ => 0)))) ∧ M.2 51 = (.inl (0, 420, .inl (fun _ => 0)))
theorem mHoldsL {G : xG} (hg : xGood G) {M : xM} {n : Nat} (hn : M.1 = n) {a ia : Nat} {f : Nat → Int32} {s : Int32} {o0 o1 o2 o4 o5 o6 o7 o8 o9 o10 o11 o12 o13 o14 o15 o16 o17 o18 o19 o20 o21 o22 o23 o24 o25 o26 o27 o28 o29 o30 o31 o32 o33 o34 o35 o36 o37 o38 o39 o40 o41 : Value} (h1_a : xn ≤ a) (h2_a : a < n) (h_a : M.2 a = (.inr (12, [o0, o1, o2, .ref ia, o4, o5, o6, o7, o8, o9, o10, o11, o12, o13, o14, o15, o16, o17, o18, o19, o20, o21, o22, o23, o24, o25, o26, o27, o28, o29, o30, o31, o32, o33, o34, o35, o36, o37, o38, o39, o40, o41]))) (h1_ia : xn ≤ ia) (h2_ia : ia < n) (h_ia : M.2 ia = (.inl (0, 128, .inl f))) {d ce se cells slots : Nat} {Post : Option Value → xM → Prop} (K : XJ G Y14_7 d ce se cells slots 35 [(3, .int (nI 128)), (2, .int (nI (xcnt f s 128))), (0, .ref a), (1, .int s)] [] M Post) : ∀ r i : Nat, i + r = 128 → XJ G Y14_7 d ce se cells slots 4 [(3, .int (nI i)), (2, .int (nI (xcnt f s i))), (0, .ref a), (1, .int s)] [] M Post := by
  intro r
  induction r with
  | zero =>
    intro i hi
    have hi' : i = 128 := by omega
    subst hi'
    refine xj_iload_n (i := 3) d14_7_4 rfl rfl ?_
    refine xj_sipush (v := 128) d14_7_5 (by decide) ?_
    refine xj_icmp_ge (tgt := 35) d14_7_8 rfl (fun _ => ?_) (fun h => absurd (by decide) h)
    exact K
  | succ r ih =>
    intro i hi
    refine xj_iload_n (i := 3) d14_7_4 rfl rfl ?_
    refine xj_sipush (v := 128) d14_7_5 (by decide) ?_
    refine xj_icmp_ge (tgt := 35) d14_7_8 rfl (fun h => absurd h (nI_ge (a := i) (b := 128) (by omega) (by decide))) (fun _ => ?_)
    refine xj_aload_n (i := 0) d14_7_11 rfl rfl ?_
    refine xj_get d14_7_12 f14_20_12 h_a (by omega) (show a < M.1 by omega) rfl ?_
    refine xj_iload_n (i := 3) d14_7_15 rfl rfl ?_
    refine xj_iaload (j := i) d14_7_16 h_ia (by omega) (show ia < M.1 by omega) (vp_in_nI (by omega) (by omega)) (nI_clamp (by omega)) ?_
    refine xj_iload_n (i := 1) d14_7_17 rfl rfl ?_
    refine xj_icmp_ne (tgt := 27) d14_7_18 rfl (fun hb => ?_) (fun hb => ?_)
    · refine xj_iload_n (i := 2) d14_7_27 rfl rfl ?_
      refine xj_istore_n (i := 2) (L' := [(2, .int (nI (xcnt f s i))), (3, .int (nI i)), (0, .ref a), (1, .int s)]) d14_7_28 rfl (by decide) rfl ?_
      refine xj_iinc (v := nI (i + 1)) (L' := [(3, .int (nI (i + 1))), (2, .int (nI (xcnt f s i))), (0, .ref a), (1, .int s)]) d14_7_29 rfl (xinc _) (by decide) rfl ?_
      refine xj_goto (tgt := 4) d14_7_32 rfl ?_
      rw [show xcnt f s i = xcnt f s (i + 1) from (xcnt_f hb).symm]
      exact ih (i + 1) (by omega)
    · refine xj_iload_n (i := 2) d14_7_21 rfl rfl ?_
      refine xj_iconst (v := 1) d14_7_22 (by decide) ?_
      refine xj_iadd (v := nI (xcnt f s (i + 1))) d14_7_23 (xcnt_t hb) ?_
      refine xj_goto (tgt := 28) d14_7_24 rfl ?_
      refine xj_istore_n (i := 2) (L' := [(2, .int (nI (xcnt f s (i + 1)))), (3, .int (nI i)), (0, .ref a), (1, .int s)]) d14_7_28 rfl (by decide) rfl ?_
      refine xj_iinc (v := nI (i + 1)) (L' := [(3, .int (nI (i + 1))), (2, .int (nI (xcnt f s (i + 1)))), (0, .ref a), (1, .int s)]) d14_7_29 rfl (xinc _) (by decide) rfl ?_
      refine xj_goto (tgt := 4) d14_7_32 rfl ?_
      exact ih (i + 1) (by omega)
set_option maxRecDepth 20000 in
theorem mHolds {G : xG} (hg : xGood G) {M : xM} {n : Nat} (hn : M.1 = n) (hx : xn ≤ n) {a : Nat} {ia : Nat} {f : Nat → Int32} {s : Int32} {o0 : Value} {o1 : Value} {o2 : Value} {o4 : Value} {o5 : Value} {o6 : Value} {o7 : Value} {o8 : Value} {o9 : Value} {o10 : Value} {o11 : Value} {o12 : Value} {o13 : Value} {o14 : Value} {o15 : Value} {o16 : Value} {o17 : Value} {o18 : Value} {o19 : Value} {o20 : Value} {o21 : Value} {o22 : Value} {o23 : Value} {o24 : Value} {o25 : Value} {o26 : Value} {o27 : Value} {o28 : Value} {o29 : Value} {o30 : Value} {o31 : Value} {o32 : Value} {o33 : Value} {o34 : Value} {o35 : Value} {o36 : Value} {o37 : Value} {o38 : Value} {o39 : Value} {o40 : Value} {o41 : Value} (h1_a : xn ≤ a) (h2_a : a < n) (h_a : M.2 a = (.inr (12, [o0, o1, o2, .ref ia, o4, o5, o6, o7, o8, o9, o10, o11, o12, o13, o14, o15, o16, o17, o18, o19, o20, o21, o22, o23, o24, o25, o26, o27, o28, o29, o30, o31, o32, o33, o34, o35, o36, o37, o38, o39, o40, o41]))) (h1_ia : xn ≤ ia) (h2_ia : ia < n) (h_ia : M.2 ia = (.inl (0, 128, .inl f))) : XC G Y14_7 (some .int) 0 0 0 [.ref a, .int s] M (fun v M' => v = some (.int (nI (xcnt f s 128))) ∧ M' = M) := by
  refine xc_of hg (by decide) (Nat.le_of_ble_eq_true rfl) (Or.inl ⟨rfl, rfl, fun v M' h => ⟨_, h.1⟩⟩) ?_
  refine xj_iconst (v := 0) d14_7_0 (by decide) ?_
  refine xj_istore_n (i := 2) (L' := [(2, .int 0), (0, .ref a), (1, .int s)]) d14_7_1 rfl (by decide) rfl ?_
  refine xj_iconst (v := 0) d14_7_2 (by decide) ?_
  refine xj_istore_n (i := 3) (L' := [(3, .int 0), (2, .int 0), (0, .ref a), (1, .int s)]) d14_7_3 rfl (by decide) rfl ?_
  refine mHoldsL hg hn h1_a h2_a h_a h1_ia h2_ia h_ia ?_ 128 0 rfl
  refine xj_iload_n (i := 2) d14_7_35 rfl rfl ?_
  exact xj_ret d14_7_36 (by omega) (by omega) rfl ⟨rfl, rfl⟩
theorem mLiveL {G : xG} (hg : xGood G) {M : xM} {n : Nat} (hn : M.1 = n) {a ia la : Nat} {f l : Nat → Int32} {s : Int32} {o0 o1 o4 o5 o6 o7 o8 o9 o10 o11 o12 o13 o14 o15 o16 o17 o18 o19 o20 o21 o22 o23 o24 o25 o26 o27 o28 o29 o30 o31 o32 o33 o34 o35 o36 o37 o38 o39 o40 o41 : Value} (h1_a : xn ≤ a) (h2_a : a < n) (h_a : M.2 a = (.inr (12, [o0, o1, .ref la, .ref ia, o4, o5, o6, o7, o8, o9, o10, o11, o12, o13, o14, o15, o16, o17, o18, o19, o20, o21, o22, o23, o24, o25, o26, o27, o28, o29, o30, o31, o32, o33, o34, o35, o36, o37, o38, o39, o40, o41]))) (h1_ia : xn ≤ ia) (h2_ia : ia < n) (h_ia : M.2 ia = (.inl (0, 128, .inl f))) (h1_la : xn ≤ la) (h2_la : la < n) (h_la : M.2 la = (.inl (2, 128, .inl l))) {d ce se cells slots : Nat} {Post : Option Value → xM → Prop} (K : XJ G Y14_8 d ce se cells slots 44 [(3, .int (nI 128)), (2, .int (nI (xcl f l s 128))), (0, .ref a), (1, .int s)] [] M Post) : ∀ r i : Nat, i + r = 128 → XJ G Y14_8 d ce se cells slots 4 [(3, .int (nI i)), (2, .int (nI (xcl f l s i))), (0, .ref a), (1, .int s)] [] M Post := by
  intro r
  induction r with
  | zero =>
    intro i hi
    have hi' : i = 128 := by omega
    subst hi'
    refine xj_iload_n (i := 3) d14_8_4 rfl rfl ?_
    refine xj_sipush (v := 128) d14_8_5 (by decide) ?_
    refine xj_icmp_ge (tgt := 44) d14_8_8 rfl (fun _ => ?_) (fun h => absurd (by decide) h)
    exact K
  | succ r ih =>
    intro i hi
    refine xj_iload_n (i := 3) d14_8_4 rfl rfl ?_
    refine xj_sipush (v := 128) d14_8_5 (by decide) ?_
    refine xj_icmp_ge (tgt := 44) d14_8_8 rfl (fun h => absurd h (nI_ge (a := i) (b := 128) (by omega) (by decide))) (fun _ => ?_)
    refine xj_aload_n (i := 0) d14_8_11 rfl rfl ?_
    refine xj_get d14_8_12 f14_20_12 h_a (by omega) (show a < M.1 by omega) rfl ?_
    refine xj_iload_n (i := 3) d14_8_15 rfl rfl ?_
    refine xj_iaload (j := i) d14_8_16 h_ia (by omega) (show ia < M.1 by omega) (vp_in_nI (by omega) (by omega)) (nI_clamp (by omega)) ?_
    refine xj_iload_n (i := 1) d14_8_17 rfl rfl ?_
    refine xj_icmp_ne (tgt := 36) d14_8_18 rfl (fun hb => ?_) (fun hb => ?_)
    · refine xj_iload_n (i := 2) d14_8_36 rfl rfl ?_
      refine xj_istore_n (i := 2) (L' := [(2, .int (nI (xcl f l s i))), (3, .int (nI i)), (0, .ref a), (1, .int s)]) d14_8_37 rfl (by decide) rfl ?_
      refine xj_iinc (v := nI (i + 1)) (L' := [(3, .int (nI (i + 1))), (2, .int (nI (xcl f l s i))), (0, .ref a), (1, .int s)]) d14_8_38 rfl (xinc _) (by decide) rfl ?_
      refine xj_goto (tgt := 4) d14_8_41 rfl ?_
      rw [show xcl f l s i = xcl f l s (i + 1) from (xcl_f (by first | exact fun h => hb h.1 | exact fun h => h.2 hb2)).symm]
      exact ih (i + 1) (by omega)
    · refine xj_aload_n (i := 0) d14_8_21 rfl rfl ?_
      refine xj_get d14_8_22 f14_16_12 h_a (by omega) (show a < M.1 by omega) rfl ?_
      refine xj_iload_n (i := 3) d14_8_25 rfl rfl ?_
      refine xj_zaload (j := i) d14_8_26 h_la (by omega) (show la < M.1 by omega) (vp_in_nI (by omega) (by omega)) (nI_clamp (by omega)) ?_
      refine xj_if_eq (tgt := 36) d14_8_27 rfl (fun hb2 => ?_) (fun hb2 => ?_)
      · refine xj_iload_n (i := 2) d14_8_36 rfl rfl ?_
        refine xj_istore_n (i := 2) (L' := [(2, .int (nI (xcl f l s i))), (3, .int (nI i)), (0, .ref a), (1, .int s)]) d14_8_37 rfl (by decide) rfl ?_
        refine xj_iinc (v := nI (i + 1)) (L' := [(3, .int (nI (i + 1))), (2, .int (nI (xcl f l s i))), (0, .ref a), (1, .int s)]) d14_8_38 rfl (xinc _) (by decide) rfl ?_
        refine xj_goto (tgt := 4) d14_8_41 rfl ?_
        rw [show xcl f l s i = xcl f l s (i + 1) from (xcl_f (by first | exact fun h => hb h.1 | exact fun h => h.2 hb2)).symm]
        exact ih (i + 1) (by omega)
      · refine xj_iload_n (i := 2) d14_8_30 rfl rfl ?_
        refine xj_iconst (v := 1) d14_8_31 (by decide) ?_
        refine xj_iadd (v := nI (xcl f l s (i + 1))) d14_8_32 (xcl_t ⟨hb, hb2⟩) ?_
        refine xj_goto (tgt := 37) d14_8_33 rfl ?_
        refine xj_istore_n (i := 2) (L' := [(2, .int (nI (xcl f l s (i + 1)))), (3, .int (nI i)), (0, .ref a), (1, .int s)]) d14_8_37 rfl (by decide) rfl ?_
        refine xj_iinc (v := nI (i + 1)) (L' := [(3, .int (nI (i + 1))), (2, .int (nI (xcl f l s (i + 1)))), (0, .ref a), (1, .int s)]) d14_8_38 rfl (xinc _) (by decide) rfl ?_
        refine xj_goto (tgt := 4) d14_8_41 rfl ?_
        exact ih (i + 1) (by omega)
set_option maxRecDepth 20000 in
theorem mLive {G : xG} (hg : xGood G) {M : xM} {n : Nat} (hn : M.1 = n) (hx : xn ≤ n) {a : Nat} {ia : Nat} {la : Nat} {f : Nat → Int32} {l : Nat → Int32} {s : Int32} {o0 : Value} {o1 : Value} {o4 : Value} {o5 : Value} {o6 : Value} {o7 : Value} {o8 : Value} {o9 : Value} {o10 : Value} {o11 : Value} {o12 : Value} {o13 : Value} {o14 : Value} {o15 : Value} {o16 : Value} {o17 : Value} {o18 : Value} {o19 : Value} {o20 : Value} {o21 : Value} {o22 : Value} {o23 : Value} {o24 : Value} {o25 : Value} {o26 : Value} {o27 : Value} {o28 : Value} {o29 : Value} {o30 : Value} {o31 : Value} {o32 : Value} {o33 : Value} {o34 : Value} {o35 : Value} {o36 : Value} {o37 : Value} {o38 : Value} {o39 : Value} {o40 : Value} {o41 : Value} (h1_a : xn ≤ a) (h2_a : a < n) (h_a : M.2 a = (.inr (12, [o0, o1, .ref la, .ref ia, o4, o5, o6, o7, o8, o9, o10, o11, o12, o13, o14, o15, o16, o17, o18, o19, o20, o21, o22, o23, o24, o25, o26, o27, o28, o29, o30, o31, o32, o33, o34, o35, o36, o37, o38, o39, o40, o41]))) (h1_ia : xn ≤ ia) (h2_ia : ia < n) (h_ia : M.2 ia = (.inl (0, 128, .inl f))) (h1_la : xn ≤ la) (h2_la : la < n) (h_la : M.2 la = (.inl (2, 128, .inl l))) : XC G Y14_8 (some .int) 0 0 0 [.ref a, .int s] M (fun v M' => v = some (.int (nI (xcl f l s 128))) ∧ M' = M) := by
  refine xc_of hg (by decide) (Nat.le_of_ble_eq_true rfl) (Or.inl ⟨rfl, rfl, fun v M' h => ⟨_, h.1⟩⟩) ?_
  refine xj_iconst (v := 0) d14_8_0 (by decide) ?_
  refine xj_istore_n (i := 2) (L' := [(2, .int 0), (0, .ref a), (1, .int s)]) d14_8_1 rfl (by decide) rfl ?_
  refine xj_iconst (v := 0) d14_8_2 (by decide) ?_
  refine xj_istore_n (i := 3) (L' := [(3, .int 0), (2, .int 0), (0, .ref a), (1, .int s)]) d14_8_3 rfl (by decide) rfl ?_
  refine mLiveL hg hn h1_a h2_a h_a h1_ia h2_ia h_ia h1_la h2_la h_la ?_ 128 0 rfl
  refine xj_iload_n (i := 2) d14_8_44 rfl rfl ?_
  exact xj_ret d14_8_45 (by omega) (by omega) rfl ⟨rfl, rfl⟩
theorem mPostL {G : xG} (hg : xGood G) {M : xM} {n : Nat} (hn : M.1 = n) {a ia : Nat} {f : Nat → Int32} {u v1 w : Int32} {o0 o1 o2 o4 o5 o6 o7 o8 o9 o10 o11 o12 o13 o14 o15 o16 o17 o18 o19 o20 o21 o22 o23 o24 o25 o26 o27 o28 o29 o30 o31 o32 o33 o34 o35 o36 o37 o38 o39 o40 o41 : Value} (h1_a : xn ≤ a) (h2_a : a < n) (h_a : M.2 a = (.inr (12, [o0, o1, o2, .ref ia, o4, o5, o6, o7, o8, o9, o10, o11, o12, o13, o14, o15, o16, o17, o18, o19, o20, o21, o22, o23, o24, o25, o26, o27, o28, o29, o30, o31, o32, o33, o34, o35, o36, o37, o38, o39, o40, o41]))) (h1_ia : xn ≤ ia) (h2_ia : ia < n) (h_ia : M.2 ia = (.inl (0, 128, .inl f))) (hf : ∀ j, j < 128 → f j = -1) {d ce se cells slots : Nat} {Post : Option Value → xM → Prop} (K : XJ G Y14_16 d ce se cells slots 53 [(5, .int (nI 128)), (4, .int 0), (0, .ref a), (1, .int u), (2, .int v1), (3, .int w)] [] M Post) : ∀ r i : Nat, i + r = 128 → XJ G Y14_16 d ce se cells slots 6 [(5, .int (nI i)), (4, .int 0), (0, .ref a), (1, .int u), (2, .int v1), (3, .int w)] [] M Post := by
  intro r
  induction r with
  | zero =>
    intro i hi
    have hi' : i = 128 := by omega
    subst hi'
    refine xj_iload (i := 5) d14_16_6 rfl ?_
    refine xj_sipush (v := 128) d14_16_8 (by decide) ?_
    refine xj_icmp_ge (tgt := 53) d14_16_11 rfl (fun _ => ?_) (fun h => absurd (by decide) h)
    exact K
  | succ r ih =>
    intro i hi
    refine xj_iload (i := 5) d14_16_6 rfl ?_
    refine xj_sipush (v := 128) d14_16_8 (by decide) ?_
    refine xj_icmp_ge (tgt := 53) d14_16_11 rfl (fun h => absurd h (nI_ge (a := i) (b := 128) (by omega) (by decide))) (fun _ => ?_)
    refine xj_aload_n (i := 0) d14_16_14 rfl rfl ?_
    refine xj_get d14_16_15 f14_20_12 h_a (by omega) (show a < M.1 by omega) rfl ?_
    refine xj_iload (i := 5) d14_16_18 rfl ?_
    refine xj_iaload (j := i) d14_16_20 h_ia (by omega) (show ia < M.1 by omega) (vp_in_nI (by omega) (by omega)) (nI_clamp (by omega)) ?_
    rw [show f i = -1 from hf i (by omega)]
    refine xj_if_lt (tgt := 43) d14_16_21 rfl (fun _ => ?_) (fun h => absurd (by decide) h)
    refine xj_iload (i := 4) d14_16_43 rfl ?_
    refine xj_istore (i := 4) (L' := [(4, .int 0), (5, .int (nI i)), (0, .ref a), (1, .int u), (2, .int v1), (3, .int w)]) d14_16_45 (by decide) rfl ?_
    refine xj_iinc (v := nI (i + 1)) (L' := [(5, .int (nI (i + 1))), (4, .int 0), (0, .ref a), (1, .int u), (2, .int v1), (3, .int w)]) d14_16_47 rfl (xinc _) (by decide) rfl ?_
    refine xj_goto (tgt := 6) d14_16_50 rfl ?_
    exact ih (i + 1) (by omega)
set_option maxRecDepth 20000 in
theorem mPost0 {G : xG} (hg : xGood G) {M : xM} {n : Nat} (hn : M.1 = n) (hx : xn ≤ n) {a : Nat} {ia : Nat} {f : Nat → Int32} {u : Int32} {v1 : Int32} {w : Int32} {o0 : Value} {o1 : Value} {o2 : Value} {o4 : Value} {o5 : Value} {o6 : Value} {o7 : Value} {o8 : Value} {o9 : Value} {o10 : Value} {o11 : Value} {o12 : Value} {o13 : Value} {o14 : Value} {o15 : Value} {o16 : Value} {o17 : Value} {o18 : Value} {o19 : Value} {o20 : Value} {o21 : Value} {o22 : Value} {o23 : Value} {o24 : Value} {o25 : Value} {o26 : Value} {o27 : Value} {o28 : Value} {o29 : Value} {o30 : Value} {o31 : Value} {o32 : Value} {o33 : Value} {o34 : Value} {o35 : Value} {o36 : Value} {o37 : Value} {o38 : Value} {o39 : Value} {o40 : Value} {o41 : Value} (h1_a : xn ≤ a) (h2_a : a < n) (h_a : M.2 a = (.inr (12, [o0, o1, o2, .ref ia, o4, o5, o6, o7, o8, o9, o10, o11, o12, o13, o14, o15, o16, o17, o18, o19, o20, o21, o22, o23, o24, o25, o26, o27, o28, o29, o30, o31, o32, o33, o34, o35, o36, o37, o38, o39, o40, o41]))) (h1_ia : xn ≤ ia) (h2_ia : ia < n) (h_ia : M.2 ia = (.inl (0, 128, .inl f))) (hf : ∀ j, j < 128 → f j = -1) : XC G Y14_16 (some .int) 0 0 0 [.ref a, .int u, .int v1, .int w] M (fun v M' => v = some (.int 0) ∧ M' = M) := by
  refine xc_of hg (by decide) (Nat.le_of_ble_eq_true rfl) (Or.inl ⟨rfl, rfl, fun v M' h => ⟨_, h.1⟩⟩) ?_
  refine xj_iconst (v := 0) d14_16_0 (by decide) ?_
  refine xj_istore (i := 4) (L' := [(4, .int 0), (0, .ref a), (1, .int u), (2, .int v1), (3, .int w)]) d14_16_1 (by decide) rfl ?_
  refine xj_iconst (v := 0) d14_16_3 (by decide) ?_
  refine xj_istore (i := 5) (L' := [(5, .int 0), (4, .int 0), (0, .ref a), (1, .int u), (2, .int v1), (3, .int w)]) d14_16_4 (by decide) rfl ?_
  refine mPostL hg hn h1_a h2_a h_a h1_ia h2_ia h_ia hf ?_ 128 0 rfl
  refine xj_iload (i := 4) d14_16_53 rfl ?_
  exact xj_ret d14_16_55 (by omega) (by omega) rfl ⟨rfl, rfl⟩
set_option maxRecDepth 20000 in
theorem mDrop0 {G : xG} (hg : xGood G) {M : xM} {n : Nat} (hn : M.1 = n) (hx : xn ≤ n) {a : Nat} {cu : Nat} {g : Nat → Int32} {c : Int32} {o0 : Value} {o1 : Value} {o2 : Value} {o3 : Value} {o5 : Value} {o6 : Value} {o7 : Value} {o8 : Value} {o9 : Value} {o10 : Value} {o11 : Value} {o12 : Value} {o13 : Value} {o14 : Value} {o15 : Value} {o16 : Value} {o17 : Value} {o18 : Value} {o19 : Value} {o20 : Value} {o21 : Value} {o22 : Value} {o23 : Value} {o24 : Value} {o25 : Value} {o26 : Value} {o27 : Value} {o28 : Value} {o29 : Value} {o30 : Value} {o31 : Value} {o32 : Value} {o33 : Value} {o34 : Value} {o35 : Value} {o36 : Value} {o37 : Value} {o38 : Value} {o39 : Value} {o40 : Value} {o41 : Value} (h1_a : xn ≤ a) (h2_a : a < n) (h_a : M.2 a = (.inr (12, [o0, o1, o2, o3, .ref cu, o5, o6, o7, o8, o9, o10, o11, o12, o13, o14, o15, o16, o17, o18, o19, o20, o21, o22, o23, o24, o25, o26, o27, o28, o29, o30, o31, o32, o33, o34, o35, o36, o37, o38, o39, o40, o41]))) (h1_cu : xn ≤ cu) (h2_cu : cu < n) (h_cu : M.2 cu = (.inl (0, 10, .inl g))) (hgc : ∀ j, j < 10 → g j = -1) : XC G Y14_5 (some .boolean) 0 0 0 [.ref a, .int c] M (fun v M' => v = some (.int 0) ∧ M' = M) := by
  refine xc_of hg (by decide) (Nat.le_of_ble_eq_true rfl) (Or.inr (Or.inl ⟨rfl, rfl, fun v M' h => ⟨_, h.1, Or.inl rfl⟩⟩)) ?_
  refine xj_iload_n (i := 1) d14_5_0 rfl rfl ?_
  refine xj_if_lt (tgt := 19) d14_5_1 rfl (fun hb1 => ?_) (fun hb1 => ?_)
  · refine xj_iconst (v := 0) d14_5_19 (by decide) ?_
    exact xj_ret d14_5_20 (by omega) (by omega) rfl ⟨rfl, rfl⟩
  · refine xj_iload_n (i := 1) d14_5_4 rfl rfl ?_
    refine xj_bipush (v := 9) d14_5_5 (by decide) ?_
    refine xj_icmp_gt (tgt := 19) d14_5_7 rfl (fun hb2 => ?_) (fun hb2 => ?_)
    · refine xj_iconst (v := 0) d14_5_19 (by decide) ?_
      exact xj_ret d14_5_20 (by omega) (by omega) rfl ⟨rfl, rfl⟩
    · refine xj_aload_n (i := 0) d14_5_10 rfl rfl ?_
      refine xj_get d14_5_11 f14_23_12 h_a (by omega) (show a < M.1 by omega) rfl ?_
      refine xj_iload_n (i := 1) d14_5_14 rfl rfl ?_
      refine xj_iaload (j := c.toNatClampNeg) d14_5_15 h_cu (by omega) (show cu < M.1 by omega) (xname_in9 hb1 hb2) rfl ?_
      rw [show g c.toNatClampNeg = -1 from hgc _ (xname_lt (xname_in9 hb1 hb2))]
      refine xj_if_ge (tgt := 21) d14_5_16 rfl (fun h => absurd h (by decide)) (fun _ => ?_)
      refine xj_iconst (v := 0) d14_5_19 (by decide) ?_
      exact xj_ret d14_5_20 (by omega) (by omega) rfl ⟨rfl, rfl⟩

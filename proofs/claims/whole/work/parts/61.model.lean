theorem xnlt_m1 {k : Nat} (h : k < 2 ^ 31) : ¬ nI k < -1 := by
  intro e
  have h1 : ((-1 : Int32)).toInt = -1 := by decide
  rw [Int32.lt_iff_toInt_lt, nI_toInt h, h1] at e
  omega
theorem xnle_m1 {k : Nat} (h : k < 2 ^ 31) : ¬ nI k ≤ -1 := by
  intro e
  have h1 : ((-1 : Int32)).toInt = -1 := by decide
  rw [Int32.le_iff_toInt_le, nI_toInt h, h1] at e
  omega
set_option maxRecDepth 20000 in
theorem mCompE {G : xG} (hg : xGood G) {M : xM} {n : Nat} (hn : M.1 = n) (hx : xn ≤ n) {dl : Nat} {pl : Nat} {vc : Nat} {tk : Nat} {hc : Nat} {sn : Nat} {y13 : Int32} {y22 : Int32} {y23 : Int32} {y24 : Int32} {y33 : Int32} {y36 : Int32} {y37 : Int32} {y38 : Int32} {y39 : Int32} {f : Nat → Int32} {li : Nat → Int32} {le : Nat → Int32} (h1_24 : xn ≤ 24) (h2_24 : 24 < n) (h_24 : M.2 24 = (.inr (12, [.ref 25, .ref 26, .ref 27, .ref 28, .ref 29, .ref 30, .int (nI sn), .int (nI vc), .int (nI tk), .ref 31, .int (nI dl), .ref 32, .int (nI pl), .int y13, .ref 33, .ref 34, .ref 35, .ref 36, .ref 37, .ref 38, .ref 39, .ref 40, .int y22, .int y23, .int y24, .ref 41, .ref 42, .ref 43, .ref 44, .ref 45, .ref 46, .ref 47, .ref 48, .int y33, .ref 49, .ref 50, .int y36, .int y37, .int y38, .int y39, .int (nI hc), .ref 51]))) (h1_28 : xn ≤ 28) (h2_28 : 28 < n) (h_28 : M.2 28 = (.inl (0, 128, .inl f))) (h1_27 : xn ≤ 27) (h2_27 : 27 < n) (h_27 : M.2 27 = (.inl (2, 128, .inl li))) (h1_30 : xn ≤ 30) (h2_30 : 30 < n) (h_30 : M.2 30 = (.inl (0, 64, .inl le))) (hxn : xn = 16) (hn2 : 52 ≤ n) (hsn : sn < 63) (hcnt : xcnt f 99 128 = 0) : XC G Y14_13 (some .int) 3 0 0 [.ref 24] M (fun v M' => v = some (.int (nI ((cmpl li (sn) (f, le, sn, tk) 0).2))) ∧ M'.1 = n ∧ (∀ j, j < n → j ≠ 24 → j ≠ 28 → j ≠ 30 → M'.2 j = M.2 j) ∧ M'.2 24 = (.inr (12, [.ref 25, .ref 26, .ref 27, .ref 28, .ref 29, .ref 30, .int (nI ((cmpl li (sn) (f, le, sn, tk) 0).1.2.2.1)), .int (nI vc), .int (nI ((cmpl li (sn) (f, le, sn, tk) 0).1.2.2.2)), .ref 31, .int (nI dl), .ref 32, .int (nI pl), .int y13, .ref 33, .ref 34, .ref 35, .ref 36, .ref 37, .ref 38, .ref 39, .ref 40, .int y22, .int y23, .int y24, .ref 41, .ref 42, .ref 43, .ref 44, .ref 45, .ref 46, .ref 47, .ref 48, .int y33, .ref 49, .ref 50, .int y36, .int y37, .int y38, .int y39, .int (nI hc), .ref 51])) ∧ M'.2 28 = (.inl (0, 128, .inl ((cmpl li (sn) (f, le, sn, tk) 0).1.1))) ∧ M'.2 30 = (.inl (0, 64, .inl ((cmpl li (sn) (f, le, sn, tk) 0).1.2.1)))) := by
  refine xc_of hg (by decide) (Nat.le_of_ble_eq_true rfl) (Or.inl ⟨rfl, rfl, fun v M' h => ⟨_, h.1⟩⟩) ?_
  refine xj_aload_n (i := 0) d14_13_0 rfl rfl ?_
  refine xj_bipush (v := 99) d14_13_1 (by decide) ?_
  refine xj_callV (rest := []) (As := [.int 99]) (b := 24) (mHolds hg (M := M) (n := n) (a := 24) (ia := 28) (f := f) (s := 99) (o0 := .ref 25) (o1 := .ref 26) (o2 := .ref 27) (o4 := .ref 29) (o5 := .ref 30) (o6 := .int (nI sn)) (o7 := .int (nI vc)) (o8 := .int (nI tk)) (o9 := .ref 31) (o10 := .int (nI dl)) (o11 := .ref 32) (o12 := .int (nI pl)) (o13 := .int y13) (o14 := .ref 33) (o15 := .ref 34) (o16 := .ref 35) (o17 := .ref 36) (o18 := .ref 37) (o19 := .ref 38) (o20 := .ref 39) (o21 := .ref 40) (o22 := .int y22) (o23 := .int y23) (o24 := .int y24) (o25 := .ref 41) (o26 := .ref 42) (o27 := .ref 43) (o28 := .ref 44) (o29 := .ref 45) (o30 := .ref 46) (o31 := .ref 47) (o32 := .ref 48) (o33 := .int y33) (o34 := .ref 49) (o35 := .ref 50) (o36 := .int y36) (o37 := .int y37) (o38 := .int y38) (o39 := .int y39) (o40 := .int (nI hc)) (o41 := .ref 51) (show M.1 = n by omega) (by omega) (by omega) (by omega) h_24 (by omega) (by omega) h_28) d14_13_3 wd14_7 h_24 (by omega) (show 24 < M.1 by omega) rfl s14_7 w1147 (Or.inl w1145) rfl rfl (Nat.le_of_ble_eq_true rfl) (by omega) (by omega) (by omega) ?_
  rintro v M' ⟨rfl, hm⟩
  subst M'
  refine xj_istore_n (i := 1) (L' := [(1, .int (nI (xcnt f 99 128))), (0, .ref 24)]) d14_13_6 rfl (by decide) rfl ?_
  refine xj_iload_n (i := 1) d14_13_7 rfl rfl ?_
  refine xj_if_le (tgt := 15) d14_13_8 rfl (fun _ => ?_) (fun h => absurd (by rw [hcnt]; decide) h)
  refine xj_iconst (v := 0) d14_13_15 (by decide) ?_
  refine xj_istore_n (i := 2) (L' := [(2, .int 0), (1, .int (nI (xcnt f 99 128))), (0, .ref 24)]) d14_13_16 rfl (by decide) rfl ?_
  refine mCmpL hg hxn (n := n) (M0 := M) (li := li) (q1 := (nI (xcnt f 99 128))) hn2 h_27 (by omega) (by omega) (by omega) (sn) (f) (le) (sn) tk 0 M (by omega) (by omega) (by omega) (fun j _ _ _ _ => rfl) h_24 h_28 h_30 (fun Mz hz1 hz2 hz3 hz4 hz5 => ?_)
  refine xj_iload_n (i := 2) d14_13_35 rfl rfl ?_
  exact xj_ret d14_13_36 (by omega) (by omega) rfl ⟨rfl, (show Mz.1 = n by omega), (fun j hj hj0 hj1 hj2 => (hz2 j (by omega) (by omega) (by omega) (by omega))), hz3, hz4, hz5⟩
set_option maxRecDepth 20000 in
theorem mCompS {G : xG} (hg : xGood G) {M : xM} {n : Nat} (hn : M.1 = n) (hx : xn ≤ n) {dl : Nat} {pl : Nat} {vc : Nat} {tk : Nat} {hc : Nat} {sn : Nat} {y13 : Int32} {y22 : Int32} {y23 : Int32} {y24 : Int32} {y33 : Int32} {y36 : Int32} {y37 : Int32} {y38 : Int32} {y39 : Int32} {f : Nat → Int32} {li : Nat → Int32} {le : Nat → Int32} (h1_24 : xn ≤ 24) (h2_24 : 24 < n) (h_24 : M.2 24 = (.inr (12, [.ref 25, .ref 26, .ref 27, .ref 28, .ref 29, .ref 30, .int (nI sn), .int (nI vc), .int (nI tk), .ref 31, .int (nI dl), .ref 32, .int (nI pl), .int y13, .ref 33, .ref 34, .ref 35, .ref 36, .ref 37, .ref 38, .ref 39, .ref 40, .int y22, .int y23, .int y24, .ref 41, .ref 42, .ref 43, .ref 44, .ref 45, .ref 46, .ref 47, .ref 48, .int y33, .ref 49, .ref 50, .int y36, .int y37, .int y38, .int y39, .int (nI hc), .ref 51]))) (h1_28 : xn ≤ 28) (h2_28 : 28 < n) (h_28 : M.2 28 = (.inl (0, 128, .inl f))) (h1_27 : xn ≤ 27) (h2_27 : 27 < n) (h_27 : M.2 27 = (.inl (2, 128, .inl li))) (h1_30 : xn ≤ 30) (h2_30 : 30 < n) (h_30 : M.2 30 = (.inl (0, 64, .inl le))) (hxn : xn = 16) (hn2 : 52 ≤ n) (hsn : sn < 63) (hcnt : 0 < xcnt f 99 128) : XC G Y14_13 (some .int) 3 0 0 [.ref 24] M (fun v M' => v = some (.int (nI ((cmpl li (sn + 1) (xsealF f (nI sn), upd le sn 0, sn + 1, tk) 0).2))) ∧ M'.1 = n ∧ (∀ j, j < n → j ≠ 28 → j ≠ 30 → j ≠ 24 → M'.2 j = M.2 j) ∧ M'.2 28 = (.inl (0, 128, .inl ((cmpl li (sn + 1) (xsealF f (nI sn), upd le sn 0, sn + 1, tk) 0).1.1))) ∧ M'.2 30 = (.inl (0, 64, .inl ((cmpl li (sn + 1) (xsealF f (nI sn), upd le sn 0, sn + 1, tk) 0).1.2.1))) ∧ M'.2 24 = (.inr (12, [.ref 25, .ref 26, .ref 27, .ref 28, .ref 29, .ref 30, .int (nI ((cmpl li (sn + 1) (xsealF f (nI sn), upd le sn 0, sn + 1, tk) 0).1.2.2.1)), .int (nI vc), .int (nI ((cmpl li (sn + 1) (xsealF f (nI sn), upd le sn 0, sn + 1, tk) 0).1.2.2.2)), .ref 31, .int (nI dl), .ref 32, .int (nI pl), .int y13, .ref 33, .ref 34, .ref 35, .ref 36, .ref 37, .ref 38, .ref 39, .ref 40, .int y22, .int y23, .int y24, .ref 41, .ref 42, .ref 43, .ref 44, .ref 45, .ref 46, .ref 47, .ref 48, .int y33, .ref 49, .ref 50, .int y36, .int y37, .int y38, .int y39, .int (nI hc), .ref 51]))) := by
  refine xc_of hg (by decide) (Nat.le_of_ble_eq_true rfl) (Or.inl ⟨rfl, rfl, fun v M' h => ⟨_, h.1⟩⟩) ?_
  refine xj_aload_n (i := 0) d14_13_0 rfl rfl ?_
  refine xj_bipush (v := 99) d14_13_1 (by decide) ?_
  refine xj_callV (rest := []) (As := [.int 99]) (b := 24) (mHolds hg (M := M) (n := n) (a := 24) (ia := 28) (f := f) (s := 99) (o0 := .ref 25) (o1 := .ref 26) (o2 := .ref 27) (o4 := .ref 29) (o5 := .ref 30) (o6 := .int (nI sn)) (o7 := .int (nI vc)) (o8 := .int (nI tk)) (o9 := .ref 31) (o10 := .int (nI dl)) (o11 := .ref 32) (o12 := .int (nI pl)) (o13 := .int y13) (o14 := .ref 33) (o15 := .ref 34) (o16 := .ref 35) (o17 := .ref 36) (o18 := .ref 37) (o19 := .ref 38) (o20 := .ref 39) (o21 := .ref 40) (o22 := .int y22) (o23 := .int y23) (o24 := .int y24) (o25 := .ref 41) (o26 := .ref 42) (o27 := .ref 43) (o28 := .ref 44) (o29 := .ref 45) (o30 := .ref 46) (o31 := .ref 47) (o32 := .ref 48) (o33 := .int y33) (o34 := .ref 49) (o35 := .ref 50) (o36 := .int y36) (o37 := .int y37) (o38 := .int y38) (o39 := .int y39) (o40 := .int (nI hc)) (o41 := .ref 51) (show M.1 = n by omega) (by omega) (by omega) (by omega) h_24 (by omega) (by omega) h_28) d14_13_3 wd14_7 h_24 (by omega) (show 24 < M.1 by omega) rfl s14_7 w1147 (Or.inl w1145) rfl rfl (Nat.le_of_ble_eq_true rfl) (by omega) (by omega) (by omega) ?_
  rintro v M' ⟨rfl, hm⟩
  subst M'
  refine xj_istore_n (i := 1) (L' := [(1, .int (nI (xcnt f 99 128))), (0, .ref 24)]) d14_13_6 rfl (by decide) rfl ?_
  refine xj_iload_n (i := 1) d14_13_7 rfl rfl ?_
  refine xj_if_le (tgt := 15) d14_13_8 rfl (fun h => absurd h (nI_nle hcnt (by have := xcnt_le f 99 128; omega))) (fun _ => ?_)
  refine xj_aload_n (i := 0) d14_13_11 rfl rfl ?_
  refine xj_callV (rest := []) (As := []) (b := 24) (mSeal hg (M := M) (n := n) (dl := dl) (pl := pl) (vc := vc) (tk := tk) (hc := hc) (sn := sn) (y13 := y13) (y22 := y22) (y23 := y23) (y24 := y24) (y33 := y33) (y36 := y36) (y37 := y37) (y38 := y38) (y39 := y39) (f := f) (le := le) (show M.1 = n by omega) (by omega) (by omega) (by omega) h_24 (by omega) (by omega) h_28 (by omega) (by omega) h_30 hxn (by omega) (by omega)) d14_13_12 wd14_9 h_24 (by omega) (show 24 < M.1 by omega) rfl s14_9 w1151 (Or.inl w1149) rfl rfl (Nat.le_of_ble_eq_true rfl) (by omega) (by omega) (by omega) ?_
  rintro v M1 ⟨rfl, hs1, ho1, hf1_0, hf1_1, hf1_2⟩
  replace hs1 : M1.1 = n := hs1
  replace hf1_0 : M1.2 28 = (.inl (0, 128, .inl (xsealF f (nI sn)))) := hf1_0
  replace hf1_1 : M1.2 30 = (.inl (0, 64, .inl (upd le sn 0))) := hf1_1
  replace hf1_2 : M1.2 24 = (.inr (12, [.ref 25, .ref 26, .ref 27, .ref 28, .ref 29, .ref 30, .int (nI (sn + 1)), .int (nI vc), .int (nI tk), .ref 31, .int (nI dl), .ref 32, .int (nI pl), .int y13, .ref 33, .ref 34, .ref 35, .ref 36, .ref 37, .ref 38, .ref 39, .ref 40, .int y22, .int y23, .int y24, .ref 41, .ref 42, .ref 43, .ref 44, .ref 45, .ref 46, .ref 47, .ref 48, .int y33, .ref 49, .ref 50, .int y36, .int y37, .int y38, .int y39, .int (nI hc), .ref 51])) := hf1_2
  refine xj_iconst (v := 0) d14_13_15 (by decide) ?_
  refine xj_istore_n (i := 2) (L' := [(2, .int 0), (1, .int (nI (xcnt f 99 128))), (0, .ref 24)]) d14_13_16 rfl (by decide) rfl ?_
  refine mCmpL hg hxn (n := n) (M0 := M1) (li := li) (q1 := (nI (xcnt f 99 128))) hn2 ((ho1 27 (by omega) (by omega) (by omega) (by omega)).trans h_27) (by omega) (by omega) (by omega) (sn + 1) (xsealF f (nI sn)) (upd le sn 0) (sn + 1) tk 0 M1 (by omega) (by omega) (by omega) (fun j _ _ _ _ => rfl) hf1_2 hf1_0 hf1_1 (fun Mz hz1 hz2 hz3 hz4 hz5 => ?_)
  refine xj_iload_n (i := 2) d14_13_35 rfl rfl ?_
  exact xj_ret d14_13_36 (by omega) (by omega) rfl ⟨rfl, (show Mz.1 = n by omega), (fun j hj hj0 hj1 hj2 => ((hz2 j (by omega) (by omega) (by omega) (by omega)).trans (ho1 j (by omega) (by omega) (by omega) (by omega)))), hz4, hz5, hz3⟩
set_option maxRecDepth 20000 in
theorem mShM0 {G : xG} (hg : xGood G) {M : xM} {n : Nat} (hn : M.1 = n) (hx : xn ≤ n) {dl : Nat} {pl : Nat} {vc : Nat} {tk : Nat} {hc : Nat} {sn : Nat} {y13 : Int32} {y22 : Int32} {y23 : Int32} {y24 : Int32} {y33 : Int32} {y36 : Int32} {y37 : Int32} {y38 : Int32} {y39 : Int32} {f : Nat → Int32} {li : Nat → Int32} {le : Nat → Int32} (h1_24 : xn ≤ 24) (h2_24 : 24 < n) (h_24 : M.2 24 = (.inr (12, [.ref 25, .ref 26, .ref 27, .ref 28, .ref 29, .ref 30, .int (nI sn), .int (nI vc), .int (nI tk), .ref 31, .int (nI dl), .ref 32, .int (nI pl), .int y13, .ref 33, .ref 34, .ref 35, .ref 36, .ref 37, .ref 38, .ref 39, .ref 40, .int y22, .int y23, .int y24, .ref 41, .ref 42, .ref 43, .ref 44, .ref 45, .ref 46, .ref 47, .ref 48, .int y33, .ref 49, .ref 50, .int y36, .int y37, .int y38, .int y39, .int (nI hc), .ref 51]))) (h1_28 : xn ≤ 28) (h2_28 : 28 < n) (h_28 : M.2 28 = (.inl (0, 128, .inl f))) (h1_27 : xn ≤ 27) (h2_27 : 27 < n) (h_27 : M.2 27 = (.inl (2, 128, .inl li))) (h1_30 : xn ≤ 30) (h2_30 : 30 < n) (h_30 : M.2 30 = (.inl (0, 64, .inl le))) (hsn : sn < 63) : XC G Y14_12 (some .int) 1 0 0 [.ref 24, .int (-1), .int 0] M (fun v M' => v = some (.int 0) ∧ M' = M) := by
  refine xc_of hg (by decide) (Nat.le_of_ble_eq_true rfl) (Or.inl ⟨rfl, rfl, fun v M' h => ⟨_, h.1⟩⟩) ?_
  refine xj_iload_n (i := 1) d14_12_0 rfl rfl ?_
  refine xj_iconst (v := (-1)) d14_12_1 (by decide) ?_
  refine xj_icmp_lt (tgt := 22) d14_12_2 rfl (fun h => absurd h (by decide)) (fun _ => ?_)
  refine xj_iload_n (i := 1) d14_12_5 rfl rfl ?_
  refine xj_aload_n (i := 0) d14_12_6 rfl rfl ?_
  refine xj_get d14_12_7 f14_114_12 h_24 (by omega) (show 24 < M.1 by omega) rfl ?_
  refine xj_icmp_ge (tgt := 22) d14_12_10 rfl (fun h => absurd h (xnle_m1 (show sn < 2 ^ 31 by omega))) (fun _ => ?_)
  refine xj_iload_n (i := 2) d14_12_13 rfl rfl ?_
  refine xj_if_lt (tgt := 22) d14_12_14 rfl (fun h => absurd h (by decide)) (fun _ => ?_)
  refine xj_iload_n (i := 2) d14_12_17 rfl rfl ?_
  refine xj_iconst (v := 2) d14_12_18 (by decide) ?_
  refine xj_icmp_le (tgt := 24) d14_12_19 rfl (fun _ => ?_) (fun h => absurd (by decide) h)
  refine xj_iload_n (i := 1) d14_12_24 rfl rfl ?_
  refine xj_iconst (v := (-1)) d14_12_25 (by decide) ?_
  refine xj_icmp_ne (tgt := 34) d14_12_26 rfl (fun h => absurd (by decide) h) (fun _ => ?_)
  refine xj_bipush (v := 99) d14_12_29 (by decide) ?_
  refine xj_goto (tgt := 35) d14_12_31 rfl ?_
  refine xj_istore_n (i := 3) (L' := [(3, .int 99), (0, .ref 24), (1, .int (-1)), (2, .int 0)]) d14_12_35 rfl (by decide) rfl ?_
  refine xj_iload_n (i := 2) d14_12_36 rfl rfl ?_
  refine xj_if_ne (tgt := 58) d14_12_37 rfl (fun h => absurd (by decide) h) (fun _ => ?_)
  refine xj_iload_n (i := 1) d14_12_40 rfl rfl ?_
  refine xj_iconst (v := (-1)) d14_12_41 (by decide) ?_
  refine xj_icmp_ne (tgt := 49) d14_12_42 rfl (fun h => absurd (by decide) h) (fun _ => ?_)
  refine xj_iconst (v := 0) d14_12_45 (by decide) ?_
  refine xj_goto (tgt := 76) d14_12_46 rfl ?_
  exact xj_ret d14_12_76 (by omega) (by omega) rfl ⟨rfl, rfl⟩
set_option maxRecDepth 20000 in
theorem mShM1 {G : xG} (hg : xGood G) {M : xM} {n : Nat} (hn : M.1 = n) (hx : xn ≤ n) {dl : Nat} {pl : Nat} {vc : Nat} {tk : Nat} {hc : Nat} {sn : Nat} {y13 : Int32} {y22 : Int32} {y23 : Int32} {y24 : Int32} {y33 : Int32} {y36 : Int32} {y37 : Int32} {y38 : Int32} {y39 : Int32} {f : Nat → Int32} {li : Nat → Int32} {le : Nat → Int32} (h1_24 : xn ≤ 24) (h2_24 : 24 < n) (h_24 : M.2 24 = (.inr (12, [.ref 25, .ref 26, .ref 27, .ref 28, .ref 29, .ref 30, .int (nI sn), .int (nI vc), .int (nI tk), .ref 31, .int (nI dl), .ref 32, .int (nI pl), .int y13, .ref 33, .ref 34, .ref 35, .ref 36, .ref 37, .ref 38, .ref 39, .ref 40, .int y22, .int y23, .int y24, .ref 41, .ref 42, .ref 43, .ref 44, .ref 45, .ref 46, .ref 47, .ref 48, .int y33, .ref 49, .ref 50, .int y36, .int y37, .int y38, .int y39, .int (nI hc), .ref 51]))) (h1_28 : xn ≤ 28) (h2_28 : 28 < n) (h_28 : M.2 28 = (.inl (0, 128, .inl f))) (h1_27 : xn ≤ 27) (h2_27 : 27 < n) (h_27 : M.2 27 = (.inl (2, 128, .inl li))) (h1_30 : xn ≤ 30) (h2_30 : 30 < n) (h_30 : M.2 30 = (.inl (0, 64, .inl le))) (hsn : sn < 63) : XC G Y14_12 (some .int) 1 0 0 [.ref 24, .int (-1), .int 1] M (fun v M' => v = some (.int (nI (xcnt f 99 128))) ∧ M' = M) := by
  refine xc_of hg (by decide) (Nat.le_of_ble_eq_true rfl) (Or.inl ⟨rfl, rfl, fun v M' h => ⟨_, h.1⟩⟩) ?_
  refine xj_iload_n (i := 1) d14_12_0 rfl rfl ?_
  refine xj_iconst (v := (-1)) d14_12_1 (by decide) ?_
  refine xj_icmp_lt (tgt := 22) d14_12_2 rfl (fun h => absurd h (by decide)) (fun _ => ?_)
  refine xj_iload_n (i := 1) d14_12_5 rfl rfl ?_
  refine xj_aload_n (i := 0) d14_12_6 rfl rfl ?_
  refine xj_get d14_12_7 f14_114_12 h_24 (by omega) (show 24 < M.1 by omega) rfl ?_
  refine xj_icmp_ge (tgt := 22) d14_12_10 rfl (fun h => absurd h (xnle_m1 (show sn < 2 ^ 31 by omega))) (fun _ => ?_)
  refine xj_iload_n (i := 2) d14_12_13 rfl rfl ?_
  refine xj_if_lt (tgt := 22) d14_12_14 rfl (fun h => absurd h (by decide)) (fun _ => ?_)
  refine xj_iload_n (i := 2) d14_12_17 rfl rfl ?_
  refine xj_iconst (v := 2) d14_12_18 (by decide) ?_
  refine xj_icmp_le (tgt := 24) d14_12_19 rfl (fun _ => ?_) (fun h => absurd (by decide) h)
  refine xj_iload_n (i := 1) d14_12_24 rfl rfl ?_
  refine xj_iconst (v := (-1)) d14_12_25 (by decide) ?_
  refine xj_icmp_ne (tgt := 34) d14_12_26 rfl (fun h => absurd (by decide) h) (fun _ => ?_)
  refine xj_bipush (v := 99) d14_12_29 (by decide) ?_
  refine xj_goto (tgt := 35) d14_12_31 rfl ?_
  refine xj_istore_n (i := 3) (L' := [(3, .int 99), (0, .ref 24), (1, .int (-1)), (2, .int 1)]) d14_12_35 rfl (by decide) rfl ?_
  refine xj_iload_n (i := 2) d14_12_36 rfl rfl ?_
  refine xj_if_ne (tgt := 58) d14_12_37 rfl (fun _ => ?_) (fun h => absurd h (by decide))
  refine xj_iload_n (i := 2) d14_12_58 rfl rfl ?_
  refine xj_iconst (v := 1) d14_12_59 (by decide) ?_
  refine xj_icmp_ne (tgt := 71) d14_12_60 rfl (fun h => absurd (by decide) h) (fun _ => ?_)
  refine xj_aload_n (i := 0) d14_12_63 rfl rfl ?_
  refine xj_iload_n (i := 3) d14_12_64 rfl rfl ?_
  refine xj_callV (rest := []) (As := [.int 99]) (b := 24) (mHolds hg (M := M) (n := n) (a := 24) (ia := 28) (f := f) (s := 99) (o0 := .ref 25) (o1 := .ref 26) (o2 := .ref 27) (o4 := .ref 29) (o5 := .ref 30) (o6 := .int (nI sn)) (o7 := .int (nI vc)) (o8 := .int (nI tk)) (o9 := .ref 31) (o10 := .int (nI dl)) (o11 := .ref 32) (o12 := .int (nI pl)) (o13 := .int y13) (o14 := .ref 33) (o15 := .ref 34) (o16 := .ref 35) (o17 := .ref 36) (o18 := .ref 37) (o19 := .ref 38) (o20 := .ref 39) (o21 := .ref 40) (o22 := .int y22) (o23 := .int y23) (o24 := .int y24) (o25 := .ref 41) (o26 := .ref 42) (o27 := .ref 43) (o28 := .ref 44) (o29 := .ref 45) (o30 := .ref 46) (o31 := .ref 47) (o32 := .ref 48) (o33 := .int y33) (o34 := .ref 49) (o35 := .ref 50) (o36 := .int y36) (o37 := .int y37) (o38 := .int y38) (o39 := .int y39) (o40 := .int (nI hc)) (o41 := .ref 51) (show M.1 = n by omega) (by omega) (by omega) (by omega) h_24 (by omega) (by omega) h_28) d14_12_65 wd14_7 h_24 (by omega) (show 24 < M.1 by omega) rfl s14_7 w1147 (Or.inl w1145) rfl rfl (Nat.le_of_ble_eq_true rfl) (by omega) (by omega) (by omega) ?_
  rintro v M' ⟨rfl, hm⟩
  subst M'
  refine xj_goto (tgt := 76) d14_12_68 rfl ?_
  exact xj_ret d14_12_76 (by omega) (by omega) rfl ⟨rfl, rfl⟩
set_option maxRecDepth 20000 in
theorem mShM2 {G : xG} (hg : xGood G) {M : xM} {n : Nat} (hn : M.1 = n) (hx : xn ≤ n) {dl : Nat} {pl : Nat} {vc : Nat} {tk : Nat} {hc : Nat} {sn : Nat} {y13 : Int32} {y22 : Int32} {y23 : Int32} {y24 : Int32} {y33 : Int32} {y36 : Int32} {y37 : Int32} {y38 : Int32} {y39 : Int32} {f : Nat → Int32} {li : Nat → Int32} {le : Nat → Int32} (h1_24 : xn ≤ 24) (h2_24 : 24 < n) (h_24 : M.2 24 = (.inr (12, [.ref 25, .ref 26, .ref 27, .ref 28, .ref 29, .ref 30, .int (nI sn), .int (nI vc), .int (nI tk), .ref 31, .int (nI dl), .ref 32, .int (nI pl), .int y13, .ref 33, .ref 34, .ref 35, .ref 36, .ref 37, .ref 38, .ref 39, .ref 40, .int y22, .int y23, .int y24, .ref 41, .ref 42, .ref 43, .ref 44, .ref 45, .ref 46, .ref 47, .ref 48, .int y33, .ref 49, .ref 50, .int y36, .int y37, .int y38, .int y39, .int (nI hc), .ref 51]))) (h1_28 : xn ≤ 28) (h2_28 : 28 < n) (h_28 : M.2 28 = (.inl (0, 128, .inl f))) (h1_27 : xn ≤ 27) (h2_27 : 27 < n) (h_27 : M.2 27 = (.inl (2, 128, .inl li))) (h1_30 : xn ≤ 30) (h2_30 : 30 < n) (h_30 : M.2 30 = (.inl (0, 64, .inl le))) (hsn : sn < 63) : XC G Y14_12 (some .int) 1 0 0 [.ref 24, .int (-1), .int 2] M (fun v M' => v = some (.int (nI (xcl f li 99 128))) ∧ M' = M) := by
  refine xc_of hg (by decide) (Nat.le_of_ble_eq_true rfl) (Or.inl ⟨rfl, rfl, fun v M' h => ⟨_, h.1⟩⟩) ?_
  refine xj_iload_n (i := 1) d14_12_0 rfl rfl ?_
  refine xj_iconst (v := (-1)) d14_12_1 (by decide) ?_
  refine xj_icmp_lt (tgt := 22) d14_12_2 rfl (fun h => absurd h (by decide)) (fun _ => ?_)
  refine xj_iload_n (i := 1) d14_12_5 rfl rfl ?_
  refine xj_aload_n (i := 0) d14_12_6 rfl rfl ?_
  refine xj_get d14_12_7 f14_114_12 h_24 (by omega) (show 24 < M.1 by omega) rfl ?_
  refine xj_icmp_ge (tgt := 22) d14_12_10 rfl (fun h => absurd h (xnle_m1 (show sn < 2 ^ 31 by omega))) (fun _ => ?_)
  refine xj_iload_n (i := 2) d14_12_13 rfl rfl ?_
  refine xj_if_lt (tgt := 22) d14_12_14 rfl (fun h => absurd h (by decide)) (fun _ => ?_)
  refine xj_iload_n (i := 2) d14_12_17 rfl rfl ?_
  refine xj_iconst (v := 2) d14_12_18 (by decide) ?_
  refine xj_icmp_le (tgt := 24) d14_12_19 rfl (fun _ => ?_) (fun h => absurd (by decide) h)
  refine xj_iload_n (i := 1) d14_12_24 rfl rfl ?_
  refine xj_iconst (v := (-1)) d14_12_25 (by decide) ?_
  refine xj_icmp_ne (tgt := 34) d14_12_26 rfl (fun h => absurd (by decide) h) (fun _ => ?_)
  refine xj_bipush (v := 99) d14_12_29 (by decide) ?_
  refine xj_goto (tgt := 35) d14_12_31 rfl ?_
  refine xj_istore_n (i := 3) (L' := [(3, .int 99), (0, .ref 24), (1, .int (-1)), (2, .int 2)]) d14_12_35 rfl (by decide) rfl ?_
  refine xj_iload_n (i := 2) d14_12_36 rfl rfl ?_
  refine xj_if_ne (tgt := 58) d14_12_37 rfl (fun _ => ?_) (fun h => absurd h (by decide))
  refine xj_iload_n (i := 2) d14_12_58 rfl rfl ?_
  refine xj_iconst (v := 1) d14_12_59 (by decide) ?_
  refine xj_icmp_ne (tgt := 71) d14_12_60 rfl (fun _ => ?_) (fun h => absurd h (by decide))
  refine xj_aload_n (i := 0) d14_12_71 rfl rfl ?_
  refine xj_iload_n (i := 3) d14_12_72 rfl rfl ?_
  refine xj_callV (rest := []) (As := [.int 99]) (b := 24) (mLive hg (M := M) (n := n) (a := 24) (ia := 28) (la := 27) (f := f) (l := li) (s := 99) (o0 := .ref 25) (o1 := .ref 26) (o4 := .ref 29) (o5 := .ref 30) (o6 := .int (nI sn)) (o7 := .int (nI vc)) (o8 := .int (nI tk)) (o9 := .ref 31) (o10 := .int (nI dl)) (o11 := .ref 32) (o12 := .int (nI pl)) (o13 := .int y13) (o14 := .ref 33) (o15 := .ref 34) (o16 := .ref 35) (o17 := .ref 36) (o18 := .ref 37) (o19 := .ref 38) (o20 := .ref 39) (o21 := .ref 40) (o22 := .int y22) (o23 := .int y23) (o24 := .int y24) (o25 := .ref 41) (o26 := .ref 42) (o27 := .ref 43) (o28 := .ref 44) (o29 := .ref 45) (o30 := .ref 46) (o31 := .ref 47) (o32 := .ref 48) (o33 := .int y33) (o34 := .ref 49) (o35 := .ref 50) (o36 := .int y36) (o37 := .int y37) (o38 := .int y38) (o39 := .int y39) (o40 := .int (nI hc)) (o41 := .ref 51) (show M.1 = n by omega) (by omega) (by omega) (by omega) h_24 (by omega) (by omega) h_28 (by omega) (by omega) h_27) d14_12_73 wd14_8 h_24 (by omega) (show 24 < M.1 by omega) rfl s14_8 w1172 (Or.inl w1170) rfl rfl (Nat.le_of_ble_eq_true rfl) (by omega) (by omega) (by omega) ?_
  rintro v M' ⟨rfl, hm⟩
  subst M'
  exact xj_ret d14_12_76 (by omega) (by omega) rfl ⟨rfl, rfl⟩
set_option maxRecDepth 20000 in
theorem mShK0 {G : xG} (hg : xGood G) {M : xM} {n : Nat} (hn : M.1 = n) (hx : xn ≤ n) {dl : Nat} {pl : Nat} {vc : Nat} {tk : Nat} {hc : Nat} {sn : Nat} {y13 : Int32} {y22 : Int32} {y23 : Int32} {y24 : Int32} {y33 : Int32} {y36 : Int32} {y37 : Int32} {y38 : Int32} {y39 : Int32} {f : Nat → Int32} {li : Nat → Int32} {le : Nat → Int32} {k : Nat} (h1_24 : xn ≤ 24) (h2_24 : 24 < n) (h_24 : M.2 24 = (.inr (12, [.ref 25, .ref 26, .ref 27, .ref 28, .ref 29, .ref 30, .int (nI sn), .int (nI vc), .int (nI tk), .ref 31, .int (nI dl), .ref 32, .int (nI pl), .int y13, .ref 33, .ref 34, .ref 35, .ref 36, .ref 37, .ref 38, .ref 39, .ref 40, .int y22, .int y23, .int y24, .ref 41, .ref 42, .ref 43, .ref 44, .ref 45, .ref 46, .ref 47, .ref 48, .int y33, .ref 49, .ref 50, .int y36, .int y37, .int y38, .int y39, .int (nI hc), .ref 51]))) (h1_28 : xn ≤ 28) (h2_28 : 28 < n) (h_28 : M.2 28 = (.inl (0, 128, .inl f))) (h1_27 : xn ≤ 27) (h2_27 : 27 < n) (h_27 : M.2 27 = (.inl (2, 128, .inl li))) (h1_30 : xn ≤ 30) (h2_30 : 30 < n) (h_30 : M.2 30 = (.inl (0, 64, .inl le))) (hsn : sn < 63) (hk : k < sn) : XC G Y14_12 (some .int) 1 0 0 [.ref 24, .int (nI k), .int 0] M (fun v M' => v = some (.int (le k)) ∧ M' = M) := by
  refine xc_of hg (by decide) (Nat.le_of_ble_eq_true rfl) (Or.inl ⟨rfl, rfl, fun v M' h => ⟨_, h.1⟩⟩) ?_
  refine xj_iload_n (i := 1) d14_12_0 rfl rfl ?_
  refine xj_iconst (v := (-1)) d14_12_1 (by decide) ?_
  refine xj_icmp_lt (tgt := 22) d14_12_2 rfl (fun h => absurd h (xnlt_m1 (show k < 2 ^ 31 by omega))) (fun _ => ?_)
  refine xj_iload_n (i := 1) d14_12_5 rfl rfl ?_
  refine xj_aload_n (i := 0) d14_12_6 rfl rfl ?_
  refine xj_get d14_12_7 f14_114_12 h_24 (by omega) (show 24 < M.1 by omega) rfl ?_
  refine xj_icmp_ge (tgt := 22) d14_12_10 rfl (fun h => absurd h (nI_ge (a := k) (b := sn) (by omega) (by omega))) (fun _ => ?_)
  refine xj_iload_n (i := 2) d14_12_13 rfl rfl ?_
  refine xj_if_lt (tgt := 22) d14_12_14 rfl (fun h => absurd h (by decide)) (fun _ => ?_)
  refine xj_iload_n (i := 2) d14_12_17 rfl rfl ?_
  refine xj_iconst (v := 2) d14_12_18 (by decide) ?_
  refine xj_icmp_le (tgt := 24) d14_12_19 rfl (fun _ => ?_) (fun h => absurd (by decide) h)
  refine xj_iload_n (i := 1) d14_12_24 rfl rfl ?_
  refine xj_iconst (v := (-1)) d14_12_25 (by decide) ?_
  refine xj_icmp_ne (tgt := 34) d14_12_26 rfl (fun _ => ?_) (fun h => absurd h (fun e => xneg1 (show k < 2 ^ 31 by omega) e.symm))
  refine xj_iload_n (i := 1) d14_12_34 rfl rfl ?_
  refine xj_istore_n (i := 3) (L' := [(3, .int (nI k)), (0, .ref 24), (1, .int (nI k)), (2, .int 0)]) d14_12_35 rfl (by decide) rfl ?_
  refine xj_iload_n (i := 2) d14_12_36 rfl rfl ?_
  refine xj_if_ne (tgt := 58) d14_12_37 rfl (fun h => absurd (by decide) h) (fun _ => ?_)
  refine xj_iload_n (i := 1) d14_12_40 rfl rfl ?_
  refine xj_iconst (v := (-1)) d14_12_41 (by decide) ?_
  refine xj_icmp_ne (tgt := 49) d14_12_42 rfl (fun _ => ?_) (fun h => absurd h (fun e => xneg1 (show k < 2 ^ 31 by omega) e.symm))
  refine xj_aload_n (i := 0) d14_12_49 rfl rfl ?_
  refine xj_get d14_12_50 f14_26_12 h_24 (by omega) (show 24 < M.1 by omega) rfl ?_
  refine xj_iload_n (i := 1) d14_12_53 rfl rfl ?_
  refine xj_iaload (j := k) d14_12_54 h_30 (by omega) (show 30 < M.1 by omega) (vp_in_nI (by omega) (by omega)) (nI_clamp (by omega)) ?_
  refine xj_goto (tgt := 76) d14_12_55 rfl ?_
  exact xj_ret d14_12_76 (by omega) (by omega) rfl ⟨rfl, rfl⟩
set_option maxRecDepth 20000 in
theorem mShK1 {G : xG} (hg : xGood G) {M : xM} {n : Nat} (hn : M.1 = n) (hx : xn ≤ n) {dl : Nat} {pl : Nat} {vc : Nat} {tk : Nat} {hc : Nat} {sn : Nat} {y13 : Int32} {y22 : Int32} {y23 : Int32} {y24 : Int32} {y33 : Int32} {y36 : Int32} {y37 : Int32} {y38 : Int32} {y39 : Int32} {f : Nat → Int32} {li : Nat → Int32} {le : Nat → Int32} {k : Nat} (h1_24 : xn ≤ 24) (h2_24 : 24 < n) (h_24 : M.2 24 = (.inr (12, [.ref 25, .ref 26, .ref 27, .ref 28, .ref 29, .ref 30, .int (nI sn), .int (nI vc), .int (nI tk), .ref 31, .int (nI dl), .ref 32, .int (nI pl), .int y13, .ref 33, .ref 34, .ref 35, .ref 36, .ref 37, .ref 38, .ref 39, .ref 40, .int y22, .int y23, .int y24, .ref 41, .ref 42, .ref 43, .ref 44, .ref 45, .ref 46, .ref 47, .ref 48, .int y33, .ref 49, .ref 50, .int y36, .int y37, .int y38, .int y39, .int (nI hc), .ref 51]))) (h1_28 : xn ≤ 28) (h2_28 : 28 < n) (h_28 : M.2 28 = (.inl (0, 128, .inl f))) (h1_27 : xn ≤ 27) (h2_27 : 27 < n) (h_27 : M.2 27 = (.inl (2, 128, .inl li))) (h1_30 : xn ≤ 30) (h2_30 : 30 < n) (h_30 : M.2 30 = (.inl (0, 64, .inl le))) (hsn : sn < 63) (hk : k < sn) : XC G Y14_12 (some .int) 1 0 0 [.ref 24, .int (nI k), .int 1] M (fun v M' => v = some (.int (nI (xcnt f (nI k) 128))) ∧ M' = M) := by
  refine xc_of hg (by decide) (Nat.le_of_ble_eq_true rfl) (Or.inl ⟨rfl, rfl, fun v M' h => ⟨_, h.1⟩⟩) ?_
  refine xj_iload_n (i := 1) d14_12_0 rfl rfl ?_
  refine xj_iconst (v := (-1)) d14_12_1 (by decide) ?_
  refine xj_icmp_lt (tgt := 22) d14_12_2 rfl (fun h => absurd h (xnlt_m1 (show k < 2 ^ 31 by omega))) (fun _ => ?_)
  refine xj_iload_n (i := 1) d14_12_5 rfl rfl ?_
  refine xj_aload_n (i := 0) d14_12_6 rfl rfl ?_
  refine xj_get d14_12_7 f14_114_12 h_24 (by omega) (show 24 < M.1 by omega) rfl ?_
  refine xj_icmp_ge (tgt := 22) d14_12_10 rfl (fun h => absurd h (nI_ge (a := k) (b := sn) (by omega) (by omega))) (fun _ => ?_)
  refine xj_iload_n (i := 2) d14_12_13 rfl rfl ?_
  refine xj_if_lt (tgt := 22) d14_12_14 rfl (fun h => absurd h (by decide)) (fun _ => ?_)
  refine xj_iload_n (i := 2) d14_12_17 rfl rfl ?_
  refine xj_iconst (v := 2) d14_12_18 (by decide) ?_
  refine xj_icmp_le (tgt := 24) d14_12_19 rfl (fun _ => ?_) (fun h => absurd (by decide) h)
  refine xj_iload_n (i := 1) d14_12_24 rfl rfl ?_
  refine xj_iconst (v := (-1)) d14_12_25 (by decide) ?_
  refine xj_icmp_ne (tgt := 34) d14_12_26 rfl (fun _ => ?_) (fun h => absurd h (fun e => xneg1 (show k < 2 ^ 31 by omega) e.symm))
  refine xj_iload_n (i := 1) d14_12_34 rfl rfl ?_
  refine xj_istore_n (i := 3) (L' := [(3, .int (nI k)), (0, .ref 24), (1, .int (nI k)), (2, .int 1)]) d14_12_35 rfl (by decide) rfl ?_
  refine xj_iload_n (i := 2) d14_12_36 rfl rfl ?_
  refine xj_if_ne (tgt := 58) d14_12_37 rfl (fun _ => ?_) (fun h => absurd h (by decide))
  refine xj_iload_n (i := 2) d14_12_58 rfl rfl ?_
  refine xj_iconst (v := 1) d14_12_59 (by decide) ?_
  refine xj_icmp_ne (tgt := 71) d14_12_60 rfl (fun h => absurd (by decide) h) (fun _ => ?_)
  refine xj_aload_n (i := 0) d14_12_63 rfl rfl ?_
  refine xj_iload_n (i := 3) d14_12_64 rfl rfl ?_
  refine xj_callV (rest := []) (As := [.int (nI k)]) (b := 24) (mHolds hg (M := M) (n := n) (a := 24) (ia := 28) (f := f) (s := nI k) (o0 := .ref 25) (o1 := .ref 26) (o2 := .ref 27) (o4 := .ref 29) (o5 := .ref 30) (o6 := .int (nI sn)) (o7 := .int (nI vc)) (o8 := .int (nI tk)) (o9 := .ref 31) (o10 := .int (nI dl)) (o11 := .ref 32) (o12 := .int (nI pl)) (o13 := .int y13) (o14 := .ref 33) (o15 := .ref 34) (o16 := .ref 35) (o17 := .ref 36) (o18 := .ref 37) (o19 := .ref 38) (o20 := .ref 39) (o21 := .ref 40) (o22 := .int y22) (o23 := .int y23) (o24 := .int y24) (o25 := .ref 41) (o26 := .ref 42) (o27 := .ref 43) (o28 := .ref 44) (o29 := .ref 45) (o30 := .ref 46) (o31 := .ref 47) (o32 := .ref 48) (o33 := .int y33) (o34 := .ref 49) (o35 := .ref 50) (o36 := .int y36) (o37 := .int y37) (o38 := .int y38) (o39 := .int y39) (o40 := .int (nI hc)) (o41 := .ref 51) (show M.1 = n by omega) (by omega) (by omega) (by omega) h_24 (by omega) (by omega) h_28) d14_12_65 wd14_7 h_24 (by omega) (show 24 < M.1 by omega) rfl s14_7 w1147 (Or.inl w1145) rfl rfl (Nat.le_of_ble_eq_true rfl) (by omega) (by omega) (by omega) ?_
  rintro v M' ⟨rfl, hm⟩
  subst M'
  refine xj_goto (tgt := 76) d14_12_68 rfl ?_
  exact xj_ret d14_12_76 (by omega) (by omega) rfl ⟨rfl, rfl⟩
set_option maxRecDepth 20000 in
theorem mShK2 {G : xG} (hg : xGood G) {M : xM} {n : Nat} (hn : M.1 = n) (hx : xn ≤ n) {dl : Nat} {pl : Nat} {vc : Nat} {tk : Nat} {hc : Nat} {sn : Nat} {y13 : Int32} {y22 : Int32} {y23 : Int32} {y24 : Int32} {y33 : Int32} {y36 : Int32} {y37 : Int32} {y38 : Int32} {y39 : Int32} {f : Nat → Int32} {li : Nat → Int32} {le : Nat → Int32} {k : Nat} (h1_24 : xn ≤ 24) (h2_24 : 24 < n) (h_24 : M.2 24 = (.inr (12, [.ref 25, .ref 26, .ref 27, .ref 28, .ref 29, .ref 30, .int (nI sn), .int (nI vc), .int (nI tk), .ref 31, .int (nI dl), .ref 32, .int (nI pl), .int y13, .ref 33, .ref 34, .ref 35, .ref 36, .ref 37, .ref 38, .ref 39, .ref 40, .int y22, .int y23, .int y24, .ref 41, .ref 42, .ref 43, .ref 44, .ref 45, .ref 46, .ref 47, .ref 48, .int y33, .ref 49, .ref 50, .int y36, .int y37, .int y38, .int y39, .int (nI hc), .ref 51]))) (h1_28 : xn ≤ 28) (h2_28 : 28 < n) (h_28 : M.2 28 = (.inl (0, 128, .inl f))) (h1_27 : xn ≤ 27) (h2_27 : 27 < n) (h_27 : M.2 27 = (.inl (2, 128, .inl li))) (h1_30 : xn ≤ 30) (h2_30 : 30 < n) (h_30 : M.2 30 = (.inl (0, 64, .inl le))) (hsn : sn < 63) (hk : k < sn) : XC G Y14_12 (some .int) 1 0 0 [.ref 24, .int (nI k), .int 2] M (fun v M' => v = some (.int (nI (xcl f li (nI k) 128))) ∧ M' = M) := by
  refine xc_of hg (by decide) (Nat.le_of_ble_eq_true rfl) (Or.inl ⟨rfl, rfl, fun v M' h => ⟨_, h.1⟩⟩) ?_
  refine xj_iload_n (i := 1) d14_12_0 rfl rfl ?_
  refine xj_iconst (v := (-1)) d14_12_1 (by decide) ?_
  refine xj_icmp_lt (tgt := 22) d14_12_2 rfl (fun h => absurd h (xnlt_m1 (show k < 2 ^ 31 by omega))) (fun _ => ?_)
  refine xj_iload_n (i := 1) d14_12_5 rfl rfl ?_
  refine xj_aload_n (i := 0) d14_12_6 rfl rfl ?_
  refine xj_get d14_12_7 f14_114_12 h_24 (by omega) (show 24 < M.1 by omega) rfl ?_
  refine xj_icmp_ge (tgt := 22) d14_12_10 rfl (fun h => absurd h (nI_ge (a := k) (b := sn) (by omega) (by omega))) (fun _ => ?_)
  refine xj_iload_n (i := 2) d14_12_13 rfl rfl ?_
  refine xj_if_lt (tgt := 22) d14_12_14 rfl (fun h => absurd h (by decide)) (fun _ => ?_)
  refine xj_iload_n (i := 2) d14_12_17 rfl rfl ?_
  refine xj_iconst (v := 2) d14_12_18 (by decide) ?_
  refine xj_icmp_le (tgt := 24) d14_12_19 rfl (fun _ => ?_) (fun h => absurd (by decide) h)
  refine xj_iload_n (i := 1) d14_12_24 rfl rfl ?_
  refine xj_iconst (v := (-1)) d14_12_25 (by decide) ?_
  refine xj_icmp_ne (tgt := 34) d14_12_26 rfl (fun _ => ?_) (fun h => absurd h (fun e => xneg1 (show k < 2 ^ 31 by omega) e.symm))
  refine xj_iload_n (i := 1) d14_12_34 rfl rfl ?_
  refine xj_istore_n (i := 3) (L' := [(3, .int (nI k)), (0, .ref 24), (1, .int (nI k)), (2, .int 2)]) d14_12_35 rfl (by decide) rfl ?_
  refine xj_iload_n (i := 2) d14_12_36 rfl rfl ?_
  refine xj_if_ne (tgt := 58) d14_12_37 rfl (fun _ => ?_) (fun h => absurd h (by decide))
  refine xj_iload_n (i := 2) d14_12_58 rfl rfl ?_
  refine xj_iconst (v := 1) d14_12_59 (by decide) ?_
  refine xj_icmp_ne (tgt := 71) d14_12_60 rfl (fun _ => ?_) (fun h => absurd h (by decide))
  refine xj_aload_n (i := 0) d14_12_71 rfl rfl ?_
  refine xj_iload_n (i := 3) d14_12_72 rfl rfl ?_
  refine xj_callV (rest := []) (As := [.int (nI k)]) (b := 24) (mLive hg (M := M) (n := n) (a := 24) (ia := 28) (la := 27) (f := f) (l := li) (s := nI k) (o0 := .ref 25) (o1 := .ref 26) (o4 := .ref 29) (o5 := .ref 30) (o6 := .int (nI sn)) (o7 := .int (nI vc)) (o8 := .int (nI tk)) (o9 := .ref 31) (o10 := .int (nI dl)) (o11 := .ref 32) (o12 := .int (nI pl)) (o13 := .int y13) (o14 := .ref 33) (o15 := .ref 34) (o16 := .ref 35) (o17 := .ref 36) (o18 := .ref 37) (o19 := .ref 38) (o20 := .ref 39) (o21 := .ref 40) (o22 := .int y22) (o23 := .int y23) (o24 := .int y24) (o25 := .ref 41) (o26 := .ref 42) (o27 := .ref 43) (o28 := .ref 44) (o29 := .ref 45) (o30 := .ref 46) (o31 := .ref 47) (o32 := .ref 48) (o33 := .int y33) (o34 := .ref 49) (o35 := .ref 50) (o36 := .int y36) (o37 := .int y37) (o38 := .int y38) (o39 := .int y39) (o40 := .int (nI hc)) (o41 := .ref 51) (show M.1 = n by omega) (by omega) (by omega) (by omega) h_24 (by omega) (by omega) h_28 (by omega) (by omega) h_27) d14_12_73 wd14_8 h_24 (by omega) (show 24 < M.1 by omega) rfl s14_8 w1172 (Or.inl w1170) rfl rfl (Nat.le_of_ble_eq_true rfl) (by omega) (by omega) (by omega) ?_
  rintro v M' ⟨rfl, hm⟩
  subst M'
  exact xj_ret d14_12_76 (by omega) (by omega) rfl ⟨rfl, rfl⟩
set_option maxRecDepth 20000 in
theorem mShO {G : xG} (hg : xGood G) {M : xM} {n : Nat} (hn : M.1 = n) (hx : xn ≤ n) {dl : Nat} {pl : Nat} {vc : Nat} {tk : Nat} {hc : Nat} {sn : Nat} {y13 : Int32} {y22 : Int32} {y23 : Int32} {y24 : Int32} {y33 : Int32} {y36 : Int32} {y37 : Int32} {y38 : Int32} {y39 : Int32} {c : Int32} {wv : Int32} (h1_24 : xn ≤ 24) (h2_24 : 24 < n) (h_24 : M.2 24 = (.inr (12, [.ref 25, .ref 26, .ref 27, .ref 28, .ref 29, .ref 30, .int (nI sn), .int (nI vc), .int (nI tk), .ref 31, .int (nI dl), .ref 32, .int (nI pl), .int y13, .ref 33, .ref 34, .ref 35, .ref 36, .ref 37, .ref 38, .ref 39, .ref 40, .int y22, .int y23, .int y24, .ref 41, .ref 42, .ref 43, .ref 44, .ref 45, .ref 46, .ref 47, .ref 48, .int y33, .ref 49, .ref 50, .int y36, .int y37, .int y38, .int y39, .int (nI hc), .ref 51]))) (ho : c < -1 ∨ nI sn ≤ c ∨ wv < 0 ∨ 2 < wv) : XC G Y14_12 (some .int) 1 0 0 [.ref 24, .int c, .int wv] M (fun v M' => v = some (.int (-1)) ∧ M' = M) := by
  refine xc_of hg (by decide) (Nat.le_of_ble_eq_true rfl) (Or.inl ⟨rfl, rfl, fun v M' h => ⟨_, h.1⟩⟩) ?_
  refine xj_iload_n (i := 1) d14_12_0 rfl rfl ?_
  refine xj_iconst (v := (-1)) d14_12_1 (by decide) ?_
  refine xj_icmp_lt (tgt := 22) d14_12_2 rfl (fun hb1 => ?_) (fun hb1 => ?_)
  · refine xj_iconst (v := (-1)) d14_12_22 (by decide) ?_
    exact xj_ret d14_12_23 (by omega) (by omega) rfl ⟨rfl, rfl⟩
  · refine xj_iload_n (i := 1) d14_12_5 rfl rfl ?_
    refine xj_aload_n (i := 0) d14_12_6 rfl rfl ?_
    refine xj_get d14_12_7 f14_114_12 h_24 (by omega) (show 24 < M.1 by omega) rfl ?_
    refine xj_icmp_ge (tgt := 22) d14_12_10 rfl (fun hb2 => ?_) (fun hb2 => ?_)
    · refine xj_iconst (v := (-1)) d14_12_22 (by decide) ?_
      exact xj_ret d14_12_23 (by omega) (by omega) rfl ⟨rfl, rfl⟩
    · refine xj_iload_n (i := 2) d14_12_13 rfl rfl ?_
      refine xj_if_lt (tgt := 22) d14_12_14 rfl (fun hb3 => ?_) (fun hb3 => ?_)
      · refine xj_iconst (v := (-1)) d14_12_22 (by decide) ?_
        exact xj_ret d14_12_23 (by omega) (by omega) rfl ⟨rfl, rfl⟩
      · refine xj_iload_n (i := 2) d14_12_17 rfl rfl ?_
        refine xj_iconst (v := 2) d14_12_18 (by decide) ?_
        refine xj_icmp_le (tgt := 24) d14_12_19 rfl (fun h => absurd h (Int32.not_le.mpr (((ho.resolve_left hb1).resolve_left hb2).resolve_left hb3))) (fun _ => ?_)
        refine xj_iconst (v := (-1)) d14_12_22 (by decide) ?_
        exact xj_ret d14_12_23 (by omega) (by omega) rfl ⟨rfl, rfl⟩
set_option maxRecDepth 20000 in
theorem mPost {G : xG} (hg : xGood G) {M : xM} {n : Nat} (hn : M.1 = n) (hx : xn ≤ n) {dl : Nat} {pl : Nat} {vc : Nat} {tk : Nat} {hc : Nat} {sn : Nat} {y13 : Int32} {y22 : Int32} {y23 : Int32} {y24 : Int32} {y33 : Int32} {y36 : Int32} {y37 : Int32} {y38 : Int32} {y39 : Int32} {tx : Nat → Int32} {te : Nat → Int32} {f : Nat → Int32} {tls : Nat → Nat} {u : Int32} {v1 : Int32} {w : Int32} (h1_24 : xn ≤ 24) (h2_24 : 24 < n) (h_24 : M.2 24 = (.inr (12, [.ref 25, .ref 26, .ref 27, .ref 28, .ref 29, .ref 30, .int (nI sn), .int (nI vc), .int (nI tk), .ref 31, .int (nI dl), .ref 32, .int (nI pl), .int y13, .ref 33, .ref 34, .ref 35, .ref 36, .ref 37, .ref 38, .ref 39, .ref 40, .int y22, .int y23, .int y24, .ref 41, .ref 42, .ref 43, .ref 44, .ref 45, .ref 46, .ref 47, .ref 48, .int y33, .ref 49, .ref 50, .int y36, .int y37, .int y38, .int y39, .int (nI hc), .ref 51]))) (h1_25 : xn ≤ 25) (h2_25 : 25 < n) (h_25 : M.2 25 = (.inl (0, 5120, .inl tx))) (h1_26 : xn ≤ 26) (h2_26 : 26 < n) (h_26 : M.2 26 = (.inl (0, 128, .inl te))) (h1_28 : xn ≤ 28) (h2_28 : 28 < n) (h_28 : M.2 28 = (.inl (0, 128, .inl f))) (hxn : xn = 16) (hn2 : 52 ≤ n) (hte : ∀ k, k < 128 → te k = nI (tls k)) (htl : ∀ k, k < 128 → tls k ≤ 40) : XC G Y14_16 (some .int) 2 0 0 [.ref 24, .int u, .int v1, .int w] M (fun v M' => v = some (.int (nI (xnum (fun k => ¬ f k < 0 ∧ xhas (fun j => tx (40 * k + j)) (tls k) u v1 w) 128))) ∧ M' = M) := by
  refine xc_of hg (by decide) (Nat.le_of_ble_eq_true rfl) (Or.inl ⟨rfl, rfl, fun v M' h => ⟨_, h.1⟩⟩) ?_
  refine xj_iconst (v := 0) d14_16_0 (by decide) ?_
  refine xj_istore (i := 4) (L' := [(4, .int 0), (0, .ref 24), (1, .int u), (2, .int v1), (3, .int w)]) d14_16_1 (by decide) rfl ?_
  refine xj_iconst (v := 0) d14_16_3 (by decide) ?_
  refine xj_istore (i := 5) (L' := [(5, .int 0), (4, .int 0), (0, .ref 24), (1, .int u), (2, .int v1), (3, .int w)]) d14_16_4 (by decide) rfl ?_
  refine mPosL hg hxn hn hn2 h_24 h_25 h_26 h_28 hte htl (by omega) (by omega) (by omega) ?_ 128 0 rfl
  refine xj_iload (i := 4) d14_16_53 rfl ?_
  exact xj_ret d14_16_55 (by omega) (by omega) rfl ⟨rfl, rfl⟩

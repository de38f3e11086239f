set_option maxRecDepth 20000 in
theorem mPutSN {G : xG} (hg : xGood G) {M : xM} {n : Nat} (hn : M.1 = n) (hx : xn ≤ n) {dl : Nat} {pl : Nat} {vc : Nat} {tk : Nat} {hc : Nat} {sn : Nat} {y13 : Int32} {y22 : Int32} {y23 : Int32} {y24 : Int32} {y33 : Int32} {y36 : Int32} {y37 : Int32} {y38 : Int32} {y39 : Int32} {tx : Nat → Int32} {te : Nat → Int32} {li : Nat → Int32} {f : Nat → Int32} {cu : Nat → Int32} {fd : Nat → Int32} {k : Nat} {sl : Nat} {le : Nat → Int32} (h1_24 : xn ≤ 24) (h2_24 : 24 < n) (h_24 : M.2 24 = (.inr (12, [.ref 25, .ref 26, .ref 27, .ref 28, .ref 29, .ref 30, .int (nI sn), .int (nI vc), .int (nI tk), .ref 31, .int (nI dl), .ref 32, .int (nI pl), .int y13, .ref 33, .ref 34, .ref 35, .ref 36, .ref 37, .ref 38, .ref 39, .ref 40, .int y22, .int y23, .int y24, .ref 41, .ref 42, .ref 43, .ref 44, .ref 45, .ref 46, .ref 47, .ref 48, .int y33, .ref 49, .ref 50, .int y36, .int y37, .int y38, .int y39, .int (nI hc), .ref 51]))) (h1_25 : xn ≤ 25) (h2_25 : 25 < n) (h_25 : M.2 25 = (.inl (0, 5120, .inl tx))) (h1_26 : xn ≤ 26) (h2_26 : 26 < n) (h_26 : M.2 26 = (.inl (0, 128, .inl te))) (h1_27 : xn ≤ 27) (h2_27 : 27 < n) (h_27 : M.2 27 = (.inl (2, 128, .inl li))) (h1_28 : xn ≤ 28) (h2_28 : 28 < n) (h_28 : M.2 28 = (.inl (0, 128, .inl f))) (h1_29 : xn ≤ 29) (h2_29 : 29 < n) (h_29 : M.2 29 = (.inl (0, 10, .inl cu))) (h1_31 : xn ≤ 31) (h2_31 : 31 < n) (h_31 : M.2 31 = (.inl (0, 40, .inl fd))) (h1_30 : xn ≤ 30) (h2_30 : 30 < n) (h_30 : M.2 30 = (.inl (0, 64, .inl le))) (hxn : xn = 16) (hn2 : 52 ≤ n) (hk : k < 10) (hsl : sl < 128) (hf : f sl = -1) (hno : ∀ j, j < sl → ¬ f j = -1) (hdl : dl ≤ 40) (hv : cu k = -1) (hsn : sn < 63) (hcnt : nI (xcnt (upd f sl 99) 99 128) = 3) : XC G Y14_4 (some .int) 3 0 0 [.ref 24, .int (nI k)] M (fun v M' => v = some (.int (nI (vc + 1))) ∧ M'.1 = n ∧ (∀ j, j < n → j ≠ 25 → j ≠ 26 → j ≠ 24 → j ≠ 29 → j ≠ 27 → j ≠ 28 → j ≠ 30 → M'.2 j = M.2 j) ∧ M'.2 25 = (.inl (0, 5120, .inl (va_cpy fd tx 0 (40 * sl) dl))) ∧ M'.2 26 = (.inl (0, 128, .inl (upd te sl (nI dl)))) ∧ M'.2 24 = (.inr (12, [.ref 25, .ref 26, .ref 27, .ref 28, .ref 29, .ref 30, .int (nI ((setl (upd li sl 1) (sn + 1) (xsealF (upd f sl 99) (nI sn), upd le sn 0, sn + 1, tk)).2.2.1)), .int (nI (vc + 1)), .int (nI ((setl (upd li sl 1) (sn + 1) (xsealF (upd f sl 99) (nI sn), upd le sn 0, sn + 1, tk)).2.2.2)), .ref 31, .int (nI 0), .ref 32, .int (nI pl), .int y13, .ref 33, .ref 34, .ref 35, .ref 36, .ref 37, .ref 38, .ref 39, .ref 40, .int y22, .int y23, .int y24, .ref 41, .ref 42, .ref 43, .ref 44, .ref 45, .ref 46, .ref 47, .ref 48, .int y33, .ref 49, .ref 50, .int y36, .int y37, .int y38, .int y39, .int (nI hc), .ref 51])) ∧ M'.2 29 = (.inl (0, 10, .inl (upd cu k (nI sl)))) ∧ M'.2 27 = (.inl (2, 128, .inl (upd li sl 1))) ∧ M'.2 28 = (.inl (0, 128, .inl ((setl (upd li sl 1) (sn + 1) (xsealF (upd f sl 99) (nI sn), upd le sn 0, sn + 1, tk)).1))) ∧ M'.2 30 = (.inl (0, 64, .inl ((setl (upd li sl 1) (sn + 1) (xsealF (upd f sl 99) (nI sn), upd le sn 0, sn + 1, tk)).2.1)))) := by
  refine xc_of hg (by decide) (Nat.le_of_ble_eq_true rfl) (Or.inl ⟨rfl, rfl, fun v M' h => ⟨_, h.1⟩⟩) ?_
  refine xj_iload_n (i := 1) d14_4_0 rfl rfl ?_
  refine xj_if_lt (tgt := 10) d14_4_1 rfl (fun h => absurd h (nI_nlt (a := k) (b := 0) (by omega) (by omega))) (fun _ => ?_)
  refine xj_iload_n (i := 1) d14_4_4 rfl rfl ?_
  refine xj_bipush (v := 9) d14_4_5 (by decide) ?_
  refine xj_icmp_le (tgt := 12) d14_4_7 rfl (fun _ => ?_) (fun h => absurd (nI_le (a := k) (b := 9) (by omega) (by omega)) h)
  refine xj_iconst (v := 0) d14_4_12 (by decide) ?_
  refine xj_istore_n (i := 2) (L' := [(2, .int 0), (0, .ref 24), (1, .int (nI k))]) d14_4_13 rfl (by decide) rfl ?_
  refine mSlotL hxn hn hn2 h_24 h_28 hsl hf hno ?_ sl 0 (by omega)
  refine xj_iconst (v := 0) d14_4_36 (by decide) ?_
  refine xj_istore_n (i := 3) (L' := [(3, .int 0), (2, .int (nI sl)), (0, .ref 24), (1, .int (nI k))]) d14_4_37 rfl (by decide) rfl ?_
  refine mCpyL (n := n) (M0 := M) hxn hn2 h_24 h_31 hsl hdl (fun Mc hsc hoc hac => ?_) dl 0 M (by omega) (by omega) (fun j _ => rfl) (by rw [xcpy_0]; exact h_25)
  refine xj_aload_n (i := 0) d14_4_69 rfl rfl ?_
  refine xj_get d14_4_70 f14_13_12 ((hoc 24 (by omega)).trans h_24) (by omega) (show 24 < Mc.1 by omega) rfl ?_
  refine xj_iload_n (i := 2) d14_4_73 rfl rfl ?_
  refine xj_aload_n (i := 0) d14_4_74 rfl rfl ?_
  refine xj_get d14_4_75 f14_97_12 ((hoc 24 (by omega)).trans h_24) (by omega) (show 24 < Mc.1 by omega) rfl ?_
  refine xj_iastore (j := sl) (x' := nI dl) d14_4_78 ((hoc 26 (by omega)).trans h_26) (by omega) (show 26 < Mc.1 by omega) (vp_in_nI (by omega) (by omega)) (nI_clamp (by omega)) rfl ?_
  refine xj_abs_set (fun M1 hs1 ha1 ho1 => ?_)
  refine xj_aload_n (i := 0) d14_4_79 rfl rfl ?_
  refine xj_iconst (v := 0) d14_4_80 (by decide) ?_
  refine xj_put (a := 24) (fs' := [.ref 25, .ref 26, .ref 27, .ref 28, .ref 29, .ref 30, .int (nI sn), .int (nI vc), .int (nI tk), .ref 31, .int 0, .ref 32, .int (nI pl), .int y13, .ref 33, .ref 34, .ref 35, .ref 36, .ref 37, .ref 38, .ref 39, .ref 40, .int y22, .int y23, .int y24, .ref 41, .ref 42, .ref 43, .ref 44, .ref 45, .ref 46, .ref 47, .ref 48, .int y33, .ref 49, .ref 50, .int y36, .int y37, .int y38, .int y39, .int (nI hc), .ref 51]) d14_4_81 f14_97_12 ((ho1 24 (by omega)).trans ((hoc 24 (by omega)).trans h_24)) (by omega) (show 24 < M1.1 by omega) (Nat.le_of_ble_eq_true rfl) rfl rfl rfl ?_
  refine xj_abs_set (fun M2 hs2 ha2 ho2 => ?_)
  refine xj_aload_n (i := 0) d14_4_84 rfl rfl ?_
  refine xj_iload_n (i := 1) d14_4_85 rfl rfl ?_
  refine xj_callV (rest := []) (As := [.int (nI k)]) (b := 24) (mDropN hg (M := M2) (n := n) (dl := 0) (pl := pl) (vc := vc) (tk := tk) (hc := hc) (sn := sn) (y13 := y13) (y22 := y22) (y23 := y23) (y24 := y24) (y33 := y33) (y36 := y36) (y37 := y37) (y38 := y38) (y39 := y39) (cu := cu) (k := k) (show M2.1 = n by omega) (by omega) (by omega) (by omega) ha2 (by omega) (by omega) ((ho2 29 (by omega)).trans ((ho1 29 (by omega)).trans ((hoc 29 (by omega)).trans h_29))) hk hv) d14_4_86 wd14_5 ha2 (by omega) (show 24 < M2.1 by omega) rfl w1143 w1142 (Or.inl w1141) rfl rfl (Nat.le_of_ble_eq_true rfl) (by omega) (by omega) (by omega) ?_
  rintro v M' ⟨rfl, hm⟩
  subst M'
  refine xj_istore_n (i := 3) (L' := [(3, .int 0), (2, .int (nI sl)), (0, .ref 24), (1, .int (nI k))]) d14_4_89 rfl (by decide) rfl ?_
  refine xj_aload_n (i := 0) d14_4_90 rfl rfl ?_
  refine xj_get d14_4_91 f14_23_12 ha2 (by omega) (show 24 < M2.1 by omega) rfl ?_
  refine xj_iload_n (i := 1) d14_4_94 rfl rfl ?_
  refine xj_iload_n (i := 2) d14_4_95 rfl rfl ?_
  refine xj_iastore (j := k) (x' := nI sl) d14_4_96 ((ho2 29 (by omega)).trans ((ho1 29 (by omega)).trans ((hoc 29 (by omega)).trans h_29))) (by omega) (show 29 < M2.1 by omega) (vp_in_nI (by omega) (by omega)) (nI_clamp (by omega)) rfl ?_
  refine xj_abs_set (fun M3 hs3 ha3 ho3 => ?_)
  refine xj_aload_n (i := 0) d14_4_97 rfl rfl ?_
  refine xj_get d14_4_98 f14_16_12 ((ho3 24 (by omega)).trans ha2) (by omega) (show 24 < M3.1 by omega) rfl ?_
  refine xj_iload_n (i := 2) d14_4_101 rfl rfl ?_
  refine xj_iconst (v := 1) d14_4_102 (by decide) ?_
  refine xj_zastore (j := sl) (x' := 1) d14_4_103 ((ho3 27 (by omega)).trans ((ho2 27 (by omega)).trans ((ho1 27 (by omega)).trans ((hoc 27 (by omega)).trans h_27)))) (by omega) (show 27 < M3.1 by omega) (vp_in_nI (by omega) (by omega)) (nI_clamp (by omega)) rfl ?_
  refine xj_abs_set (fun M4 hs4 ha4 ho4 => ?_)
  refine xj_aload_n (i := 0) d14_4_104 rfl rfl ?_
  refine xj_get d14_4_105 f14_20_12 ((ho4 24 (by omega)).trans ((ho3 24 (by omega)).trans ha2)) (by omega) (show 24 < M4.1 by omega) rfl ?_
  refine xj_iload_n (i := 2) d14_4_108 rfl rfl ?_
  refine xj_bipush (v := 99) d14_4_109 (by decide) ?_
  refine xj_iastore (j := sl) (x' := 99) d14_4_111 ((ho4 28 (by omega)).trans ((ho3 28 (by omega)).trans ((ho2 28 (by omega)).trans ((ho1 28 (by omega)).trans ((hoc 28 (by omega)).trans h_28))))) (by omega) (show 28 < M4.1 by omega) (vp_in_nI (by omega) (by omega)) (nI_clamp (by omega)) rfl ?_
  refine xj_abs_set (fun M5 hs5 ha5 ho5 => ?_)
  refine xj_aload_n (i := 0) d14_4_112 rfl rfl ?_
  refine xj_dup d14_4_113 rfl ?_
  refine xj_get d14_4_114 f14_104_12 ((ho5 24 (by omega)).trans ((ho4 24 (by omega)).trans ((ho3 24 (by omega)).trans ha2))) (by omega) (show 24 < M5.1 by omega) rfl ?_
  refine xj_iconst (v := 1) d14_4_117 (by decide) ?_
  refine xj_iadd (v := nI (vc + 1)) d14_4_118 (nI_1 _) ?_
  refine xj_put (a := 24) (fs' := [.ref 25, .ref 26, .ref 27, .ref 28, .ref 29, .ref 30, .int (nI sn), .int (nI (vc + 1)), .int (nI tk), .ref 31, .int 0, .ref 32, .int (nI pl), .int y13, .ref 33, .ref 34, .ref 35, .ref 36, .ref 37, .ref 38, .ref 39, .ref 40, .int y22, .int y23, .int y24, .ref 41, .ref 42, .ref 43, .ref 44, .ref 45, .ref 46, .ref 47, .ref 48, .int y33, .ref 49, .ref 50, .int y36, .int y37, .int y38, .int y39, .int (nI hc), .ref 51]) d14_4_119 f14_104_12 ((ho5 24 (by omega)).trans ((ho4 24 (by omega)).trans ((ho3 24 (by omega)).trans ha2))) (by omega) (show 24 < M5.1 by omega) (Nat.le_of_ble_eq_true rfl) rfl rfl rfl ?_
  refine xj_abs_set (fun M6 hs6 ha6 ho6 => ?_)
  refine xj_aload_n (i := 0) d14_4_122 rfl rfl ?_
  refine xj_bipush (v := 99) d14_4_123 (by decide) ?_
  refine xj_callV (rest := []) (As := [.int 99]) (b := 24) (mHolds hg (M := M6) (n := n) (a := 24) (ia := 28) (f := upd f sl 99) (s := 99) (o0 := .ref 25) (o1 := .ref 26) (o2 := .ref 27) (o4 := .ref 29) (o5 := .ref 30) (o6 := .int (nI sn)) (o7 := .int (nI (vc + 1))) (o8 := .int (nI tk)) (o9 := .ref 31) (o10 := .int 0) (o11 := .ref 32) (o12 := .int (nI pl)) (o13 := .int y13) (o14 := .ref 33) (o15 := .ref 34) (o16 := .ref 35) (o17 := .ref 36) (o18 := .ref 37) (o19 := .ref 38) (o20 := .ref 39) (o21 := .ref 40) (o22 := .int y22) (o23 := .int y23) (o24 := .int y24) (o25 := .ref 41) (o26 := .ref 42) (o27 := .ref 43) (o28 := .ref 44) (o29 := .ref 45) (o30 := .ref 46) (o31 := .ref 47) (o32 := .ref 48) (o33 := .int y33) (o34 := .ref 49) (o35 := .ref 50) (o36 := .int y36) (o37 := .int y37) (o38 := .int y38) (o39 := .int y39) (o40 := .int (nI hc)) (o41 := .ref 51) (show M6.1 = n by omega) (by omega) (by omega) (by omega) ha6 (by omega) (by omega) ((ho6 28 (by omega)).trans ha5)) d14_4_125 wd14_7 ha6 (by omega) (show 24 < M6.1 by omega) rfl s14_7 w1147 (Or.inl w1145) rfl rfl (Nat.le_of_ble_eq_true rfl) (by omega) (by omega) (by omega) ?_
  rintro v M' ⟨rfl, hm⟩
  subst M'
  refine xj_istore (i := 4) (L' := [(4, .int (nI (xcnt (upd f sl 99) 99 128))), (3, .int 0), (2, .int (nI sl)), (0, .ref 24), (1, .int (nI k))]) d14_4_128 (by decide) rfl ?_
  refine xj_iload (i := 4) d14_4_130 rfl ?_
  refine xj_iconst (v := 3) d14_4_132 (by decide) ?_
  refine xj_icmp_ne (tgt := 180) d14_4_133 rfl (fun h => absurd hcnt h) (fun _ => ?_)
  refine xj_aload_n (i := 0) d14_4_136 rfl rfl ?_
  refine xj_callV (rest := []) (As := []) (b := 24) (mSeal hg (M := M6) (n := n) (dl := 0) (pl := pl) (vc := vc + 1) (tk := tk) (hc := hc) (sn := sn) (y13 := y13) (y22 := y22) (y23 := y23) (y24 := y24) (y33 := y33) (y36 := y36) (y37 := y37) (y38 := y38) (y39 := y39) (f := upd f sl 99) (le := le) (show M6.1 = n by omega) (by omega) (by omega) (by omega) ha6 (by omega) (by omega) ((ho6 28 (by omega)).trans ha5) (by omega) (by omega) ((ho6 30 (by omega)).trans ((ho5 30 (by omega)).trans ((ho4 30 (by omega)).trans ((ho3 30 (by omega)).trans ((ho2 30 (by omega)).trans ((ho1 30 (by omega)).trans ((hoc 30 (by omega)).trans h_30))))))) hxn (by omega) (by omega)) d14_4_137 wd14_9 ha6 (by omega) (show 24 < M6.1 by omega) rfl s14_9 w1151 (Or.inl w1149) rfl rfl (Nat.le_of_ble_eq_true rfl) (by omega) (by omega) (by omega) ?_
  rintro v M7 ⟨rfl, hs7, ho7, hf7_0, hf7_1, hf7_2⟩
  replace hs7 : M7.1 = n := hs7
  replace hf7_0 : M7.2 28 = (.inl (0, 128, .inl (xsealF (upd f sl 99) (nI sn)))) := hf7_0
  replace hf7_1 : M7.2 30 = (.inl (0, 64, .inl (upd le sn 0))) := hf7_1
  replace hf7_2 : M7.2 24 = (.inr (12, [.ref 25, .ref 26, .ref 27, .ref 28, .ref 29, .ref 30, .int (nI (sn + 1)), .int (nI (vc + 1)), .int (nI tk), .ref 31, .int (nI 0), .ref 32, .int (nI pl), .int y13, .ref 33, .ref 34, .ref 35, .ref 36, .ref 37, .ref 38, .ref 39, .ref 40, .int y22, .int y23, .int y24, .ref 41, .ref 42, .ref 43, .ref 44, .ref 45, .ref 46, .ref 47, .ref 48, .int y33, .ref 49, .ref 50, .int y36, .int y37, .int y38, .int y39, .int (nI hc), .ref 51])) := hf7_2
  refine mSetL hg hxn (n := n) (M0 := M7) (dl := 0) (vc := vc + 1) (li := (upd li sl 1)) (q1 := (nI k)) (q2 := (nI sl)) (q3 := 0) (q4 := (nI (xcnt (upd f sl 99) 99 128))) hn2 ((ho7 27 (by omega) (by omega) (by omega) (by omega)).trans ((ho6 27 (by omega)).trans ((ho5 27 (by omega)).trans ha4))) (by omega) (by omega) (by omega) (sn + 1) (xsealF (upd f sl 99) (nI sn)) (upd le sn 0) (sn + 1) tk M7 (by omega) (by omega) (by omega) (fun j _ _ _ _ => rfl) hf7_2 hf7_0 hf7_1 (fun Mz hz1 hz2 hz3 hz4 hz5 => ?_)
  refine xj_aload_n (i := 0) d14_4_180 rfl rfl ?_
  refine xj_get d14_4_181 f14_104_12 hz3 (by omega) (show 24 < Mz.1 by omega) rfl ?_
  exact xj_ret d14_4_184 (by omega) (by omega) rfl ⟨rfl, (show Mz.1 = n by omega), (fun j hj hj0 hj1 hj2 hj3 hj4 hj5 hj6 => ((hz2 j (by omega) (by omega) (by omega) (by omega)).trans ((ho7 j (by omega) (by omega) (by omega) (by omega)).trans ((ho6 j (by omega)).trans ((ho5 j (by omega)).trans ((ho4 j (by omega)).trans ((ho3 j (by omega)).trans ((ho2 j (by omega)).trans ((ho1 j (by omega)).trans (hoc j (by omega))))))))))), ((hz2 25 (by omega) (by omega) (by omega) (by omega)).trans ((ho7 25 (by omega) (by omega) (by omega) (by omega)).trans ((ho6 25 (by omega)).trans ((ho5 25 (by omega)).trans ((ho4 25 (by omega)).trans ((ho3 25 (by omega)).trans ((ho2 25 (by omega)).trans ((ho1 25 (by omega)).trans hac)))))))), ((hz2 26 (by omega) (by omega) (by omega) (by omega)).trans ((ho7 26 (by omega) (by omega) (by omega) (by omega)).trans ((ho6 26 (by omega)).trans ((ho5 26 (by omega)).trans ((ho4 26 (by omega)).trans ((ho3 26 (by omega)).trans ((ho2 26 (by omega)).trans ha1))))))), hz3, ((hz2 29 (by omega) (by omega) (by omega) (by omega)).trans ((ho7 29 (by omega) (by omega) (by omega) (by omega)).trans ((ho6 29 (by omega)).trans ((ho5 29 (by omega)).trans ((ho4 29 (by omega)).trans ha3))))), ((hz2 27 (by omega) (by omega) (by omega) (by omega)).trans ((ho7 27 (by omega) (by omega) (by omega) (by omega)).trans ((ho6 27 (by omega)).trans ((ho5 27 (by omega)).trans ha4)))), hz4, hz5⟩
set_option maxRecDepth 20000 in
theorem mPutSD {G : xG} (hg : xGood G) {M : xM} {n : Nat} (hn : M.1 = n) (hx : xn ≤ n) {dl : Nat} {pl : Nat} {vc : Nat} {tk : Nat} {hc : Nat} {sn : Nat} {y13 : Int32} {y22 : Int32} {y23 : Int32} {y24 : Int32} {y33 : Int32} {y36 : Int32} {y37 : Int32} {y38 : Int32} {y39 : Int32} {tx : Nat → Int32} {te : Nat → Int32} {li : Nat → Int32} {f : Nat → Int32} {cu : Nat → Int32} {fd : Nat → Int32} {k : Nat} {sl : Nat} {le : Nat → Int32} {sb : Nat} (h1_24 : xn ≤ 24) (h2_24 : 24 < n) (h_24 : M.2 24 = (.inr (12, [.ref 25, .ref 26, .ref 27, .ref 28, .ref 29, .ref 30, .int (nI sn), .int (nI vc), .int (nI tk), .ref 31, .int (nI dl), .ref 32, .int (nI pl), .int y13, .ref 33, .ref 34, .ref 35, .ref 36, .ref 37, .ref 38, .ref 39, .ref 40, .int y22, .int y23, .int y24, .ref 41, .ref 42, .ref 43, .ref 44, .ref 45, .ref 46, .ref 47, .ref 48, .int y33, .ref 49, .ref 50, .int y36, .int y37, .int y38, .int y39, .int (nI hc), .ref 51]))) (h1_25 : xn ≤ 25) (h2_25 : 25 < n) (h_25 : M.2 25 = (.inl (0, 5120, .inl tx))) (h1_26 : xn ≤ 26) (h2_26 : 26 < n) (h_26 : M.2 26 = (.inl (0, 128, .inl te))) (h1_27 : xn ≤ 27) (h2_27 : 27 < n) (h_27 : M.2 27 = (.inl (2, 128, .inl li))) (h1_28 : xn ≤ 28) (h2_28 : 28 < n) (h_28 : M.2 28 = (.inl (0, 128, .inl f))) (h1_29 : xn ≤ 29) (h2_29 : 29 < n) (h_29 : M.2 29 = (.inl (0, 10, .inl cu))) (h1_31 : xn ≤ 31) (h2_31 : 31 < n) (h_31 : M.2 31 = (.inl (0, 40, .inl fd))) (h1_30 : xn ≤ 30) (h2_30 : 30 < n) (h_30 : M.2 30 = (.inl (0, 64, .inl le))) (hxn : xn = 16) (hn2 : 52 ≤ n) (hk : k < 10) (hsl : sl < 128) (hf : f sl = -1) (hno : ∀ j, j < sl → ¬ f j = -1) (hdl : dl ≤ 40) (hv : cu k = nI sb) (hsb : sb < 128) (hsn : sn < 63) (hcnt : nI (xcnt (upd f sl 99) 99 128) = 3) : XC G Y14_4 (some .int) 3 0 0 [.ref 24, .int (nI k)] M (fun v M' => v = some (.int (nI (vc + 1))) ∧ M'.1 = n ∧ (∀ j, j < n → j ≠ 25 → j ≠ 26 → j ≠ 24 → j ≠ 27 → j ≠ 29 → j ≠ 28 → j ≠ 30 → M'.2 j = M.2 j) ∧ M'.2 25 = (.inl (0, 5120, .inl (va_cpy fd tx 0 (40 * sl) dl))) ∧ M'.2 26 = (.inl (0, 128, .inl (upd te sl (nI dl)))) ∧ M'.2 24 = (.inr (12, [.ref 25, .ref 26, .ref 27, .ref 28, .ref 29, .ref 30, .int (nI ((setl (upd (upd li sb 0) sl 1) (sn + 1) (xsealF (upd f sl 99) (nI sn), upd le sn 0, sn + 1, tk)).2.2.1)), .int (nI (vc + 1)), .int (nI ((setl (upd (upd li sb 0) sl 1) (sn + 1) (xsealF (upd f sl 99) (nI sn), upd le sn 0, sn + 1, tk)).2.2.2)), .ref 31, .int (nI 0), .ref 32, .int (nI pl), .int y13, .ref 33, .ref 34, .ref 35, .ref 36, .ref 37, .ref 38, .ref 39, .ref 40, .int y22, .int y23, .int y24, .ref 41, .ref 42, .ref 43, .ref 44, .ref 45, .ref 46, .ref 47, .ref 48, .int y33, .ref 49, .ref 50, .int y36, .int y37, .int y38, .int y39, .int (nI hc), .ref 51])) ∧ M'.2 27 = (.inl (2, 128, .inl (upd (upd li sb 0) sl 1))) ∧ M'.2 29 = (.inl (0, 10, .inl (upd (upd cu k (-1)) k (nI sl)))) ∧ M'.2 28 = (.inl (0, 128, .inl ((setl (upd (upd li sb 0) sl 1) (sn + 1) (xsealF (upd f sl 99) (nI sn), upd le sn 0, sn + 1, tk)).1))) ∧ M'.2 30 = (.inl (0, 64, .inl ((setl (upd (upd li sb 0) sl 1) (sn + 1) (xsealF (upd f sl 99) (nI sn), upd le sn 0, sn + 1, tk)).2.1)))) := by
  refine xc_of hg (by decide) (Nat.le_of_ble_eq_true rfl) (Or.inl ⟨rfl, rfl, fun v M' h => ⟨_, h.1⟩⟩) ?_
  refine xj_iload_n (i := 1) d14_4_0 rfl rfl ?_
  refine xj_if_lt (tgt := 10) d14_4_1 rfl (fun h => absurd h (nI_nlt (a := k) (b := 0) (by omega) (by omega))) (fun _ => ?_)
  refine xj_iload_n (i := 1) d14_4_4 rfl rfl ?_
  refine xj_bipush (v := 9) d14_4_5 (by decide) ?_
  refine xj_icmp_le (tgt := 12) d14_4_7 rfl (fun _ => ?_) (fun h => absurd (nI_le (a := k) (b := 9) (by omega) (by omega)) h)
  refine xj_iconst (v := 0) d14_4_12 (by decide) ?_
  refine xj_istore_n (i := 2) (L' := [(2, .int 0), (0, .ref 24), (1, .int (nI k))]) d14_4_13 rfl (by decide) rfl ?_
  refine mSlotL hxn hn hn2 h_24 h_28 hsl hf hno ?_ sl 0 (by omega)
  refine xj_iconst (v := 0) d14_4_36 (by decide) ?_
  refine xj_istore_n (i := 3) (L' := [(3, .int 0), (2, .int (nI sl)), (0, .ref 24), (1, .int (nI k))]) d14_4_37 rfl (by decide) rfl ?_
  refine mCpyL (n := n) (M0 := M) hxn hn2 h_24 h_31 hsl hdl (fun Mc hsc hoc hac => ?_) dl 0 M (by omega) (by omega) (fun j _ => rfl) (by rw [xcpy_0]; exact h_25)
  refine xj_aload_n (i := 0) d14_4_69 rfl rfl ?_
  refine xj_get d14_4_70 f14_13_12 ((hoc 24 (by omega)).trans h_24) (by omega) (show 24 < Mc.1 by omega) rfl ?_
  refine xj_iload_n (i := 2) d14_4_73 rfl rfl ?_
  refine xj_aload_n (i := 0) d14_4_74 rfl rfl ?_
  refine xj_get d14_4_75 f14_97_12 ((hoc 24 (by omega)).trans h_24) (by omega) (show 24 < Mc.1 by omega) rfl ?_
  refine xj_iastore (j := sl) (x' := nI dl) d14_4_78 ((hoc 26 (by omega)).trans h_26) (by omega) (show 26 < Mc.1 by omega) (vp_in_nI (by omega) (by omega)) (nI_clamp (by omega)) rfl ?_
  refine xj_abs_set (fun M1 hs1 ha1 ho1 => ?_)
  refine xj_aload_n (i := 0) d14_4_79 rfl rfl ?_
  refine xj_iconst (v := 0) d14_4_80 (by decide) ?_
  refine xj_put (a := 24) (fs' := [.ref 25, .ref 26, .ref 27, .ref 28, .ref 29, .ref 30, .int (nI sn), .int (nI vc), .int (nI tk), .ref 31, .int 0, .ref 32, .int (nI pl), .int y13, .ref 33, .ref 34, .ref 35, .ref 36, .ref 37, .ref 38, .ref 39, .ref 40, .int y22, .int y23, .int y24, .ref 41, .ref 42, .ref 43, .ref 44, .ref 45, .ref 46, .ref 47, .ref 48, .int y33, .ref 49, .ref 50, .int y36, .int y37, .int y38, .int y39, .int (nI hc), .ref 51]) d14_4_81 f14_97_12 ((ho1 24 (by omega)).trans ((hoc 24 (by omega)).trans h_24)) (by omega) (show 24 < M1.1 by omega) (Nat.le_of_ble_eq_true rfl) rfl rfl rfl ?_
  refine xj_abs_set (fun M2 hs2 ha2 ho2 => ?_)
  refine xj_aload_n (i := 0) d14_4_84 rfl rfl ?_
  refine xj_iload_n (i := 1) d14_4_85 rfl rfl ?_
  refine xj_callV (rest := []) (As := [.int (nI k)]) (b := 24) (mDropY hg (M := M2) (n := n) (dl := 0) (pl := pl) (vc := vc) (tk := tk) (hc := hc) (sn := sn) (y13 := y13) (y22 := y22) (y23 := y23) (y24 := y24) (y33 := y33) (y36 := y36) (y37 := y37) (y38 := y38) (y39 := y39) (cu := cu) (li := li) (k := k) (sl := sb) (show M2.1 = n by omega) (by omega) (by omega) (by omega) ha2 (by omega) (by omega) ((ho2 29 (by omega)).trans ((ho1 29 (by omega)).trans ((hoc 29 (by omega)).trans h_29))) (by omega) (by omega) ((ho2 27 (by omega)).trans ((ho1 27 (by omega)).trans ((hoc 27 (by omega)).trans h_27))) hk hv hsb) d14_4_86 wd14_5 ha2 (by omega) (show 24 < M2.1 by omega) rfl w1143 w1142 (Or.inl w1141) rfl rfl (Nat.le_of_ble_eq_true rfl) (by omega) (by omega) (by omega) ?_
  rintro v M3 ⟨rfl, hs3, ho3, hf3_0, hf3_1⟩
  replace hs3 : M3.1 = n := hs3
  replace hf3_0 : M3.2 27 = (.inl (2, 128, .inl (upd li sb 0))) := hf3_0
  replace hf3_1 : M3.2 29 = (.inl (0, 10, .inl (upd cu k (-1)))) := hf3_1
  refine xj_istore_n (i := 3) (L' := [(3, .int 1), (2, .int (nI sl)), (0, .ref 24), (1, .int (nI k))]) d14_4_89 rfl (by decide) rfl ?_
  refine xj_aload_n (i := 0) d14_4_90 rfl rfl ?_
  refine xj_get d14_4_91 f14_23_12 ((ho3 24 (by omega) (by omega) (by omega)).trans ha2) (by omega) (show 24 < M3.1 by omega) rfl ?_
  refine xj_iload_n (i := 1) d14_4_94 rfl rfl ?_
  refine xj_iload_n (i := 2) d14_4_95 rfl rfl ?_
  refine xj_iastore (j := k) (x' := nI sl) d14_4_96 hf3_1 (by omega) (show 29 < M3.1 by omega) (vp_in_nI (by omega) (by omega)) (nI_clamp (by omega)) rfl ?_
  refine xj_abs_set (fun M4 hs4 ha4 ho4 => ?_)
  refine xj_aload_n (i := 0) d14_4_97 rfl rfl ?_
  refine xj_get d14_4_98 f14_16_12 ((ho4 24 (by omega)).trans ((ho3 24 (by omega) (by omega) (by omega)).trans ha2)) (by omega) (show 24 < M4.1 by omega) rfl ?_
  refine xj_iload_n (i := 2) d14_4_101 rfl rfl ?_
  refine xj_iconst (v := 1) d14_4_102 (by decide) ?_
  refine xj_zastore (j := sl) (x' := 1) d14_4_103 ((ho4 27 (by omega)).trans hf3_0) (by omega) (show 27 < M4.1 by omega) (vp_in_nI (by omega) (by omega)) (nI_clamp (by omega)) rfl ?_
  refine xj_abs_set (fun M5 hs5 ha5 ho5 => ?_)
  refine xj_aload_n (i := 0) d14_4_104 rfl rfl ?_
  refine xj_get d14_4_105 f14_20_12 ((ho5 24 (by omega)).trans ((ho4 24 (by omega)).trans ((ho3 24 (by omega) (by omega) (by omega)).trans ha2))) (by omega) (show 24 < M5.1 by omega) rfl ?_
  refine xj_iload_n (i := 2) d14_4_108 rfl rfl ?_
  refine xj_bipush (v := 99) d14_4_109 (by decide) ?_
  refine xj_iastore (j := sl) (x' := 99) d14_4_111 ((ho5 28 (by omega)).trans ((ho4 28 (by omega)).trans ((ho3 28 (by omega) (by omega) (by omega)).trans ((ho2 28 (by omega)).trans ((ho1 28 (by omega)).trans ((hoc 28 (by omega)).trans h_28)))))) (by omega) (show 28 < M5.1 by omega) (vp_in_nI (by omega) (by omega)) (nI_clamp (by omega)) rfl ?_
  refine xj_abs_set (fun M6 hs6 ha6 ho6 => ?_)
  refine xj_aload_n (i := 0) d14_4_112 rfl rfl ?_
  refine xj_dup d14_4_113 rfl ?_
  refine xj_get d14_4_114 f14_104_12 ((ho6 24 (by omega)).trans ((ho5 24 (by omega)).trans ((ho4 24 (by omega)).trans ((ho3 24 (by omega) (by omega) (by omega)).trans ha2)))) (by omega) (show 24 < M6.1 by omega) rfl ?_
  refine xj_iconst (v := 1) d14_4_117 (by decide) ?_
  refine xj_iadd (v := nI (vc + 1)) d14_4_118 (nI_1 _) ?_
  refine xj_put (a := 24) (fs' := [.ref 25, .ref 26, .ref 27, .ref 28, .ref 29, .ref 30, .int (nI sn), .int (nI (vc + 1)), .int (nI tk), .ref 31, .int 0, .ref 32, .int (nI pl), .int y13, .ref 33, .ref 34, .ref 35, .ref 36, .ref 37, .ref 38, .ref 39, .ref 40, .int y22, .int y23, .int y24, .ref 41, .ref 42, .ref 43, .ref 44, .ref 45, .ref 46, .ref 47, .ref 48, .int y33, .ref 49, .ref 50, .int y36, .int y37, .int y38, .int y39, .int (nI hc), .ref 51]) d14_4_119 f14_104_12 ((ho6 24 (by omega)).trans ((ho5 24 (by omega)).trans ((ho4 24 (by omega)).trans ((ho3 24 (by omega) (by omega) (by omega)).trans ha2)))) (by omega) (show 24 < M6.1 by omega) (Nat.le_of_ble_eq_true rfl) rfl rfl rfl ?_
  refine xj_abs_set (fun M7 hs7 ha7 ho7 => ?_)
  refine xj_aload_n (i := 0) d14_4_122 rfl rfl ?_
  refine xj_bipush (v := 99) d14_4_123 (by decide) ?_
  refine xj_callV (rest := []) (As := [.int 99]) (b := 24) (mHolds hg (M := M7) (n := n) (a := 24) (ia := 28) (f := upd f sl 99) (s := 99) (o0 := .ref 25) (o1 := .ref 26) (o2 := .ref 27) (o4 := .ref 29) (o5 := .ref 30) (o6 := .int (nI sn)) (o7 := .int (nI (vc + 1))) (o8 := .int (nI tk)) (o9 := .ref 31) (o10 := .int 0) (o11 := .ref 32) (o12 := .int (nI pl)) (o13 := .int y13) (o14 := .ref 33) (o15 := .ref 34) (o16 := .ref 35) (o17 := .ref 36) (o18 := .ref 37) (o19 := .ref 38) (o20 := .ref 39) (o21 := .ref 40) (o22 := .int y22) (o23 := .int y23) (o24 := .int y24) (o25 := .ref 41) (o26 := .ref 42) (o27 := .ref 43) (o28 := .ref 44) (o29 := .ref 45) (o30 := .ref 46) (o31 := .ref 47) (o32 := .ref 48) (o33 := .int y33) (o34 := .ref 49) (o35 := .ref 50) (o36 := .int y36) (o37 := .int y37) (o38 := .int y38) (o39 := .int y39) (o40 := .int (nI hc)) (o41 := .ref 51) (show M7.1 = n by omega) (by omega) (by omega) (by omega) ha7 (by omega) (by omega) ((ho7 28 (by omega)).trans ha6)) d14_4_125 wd14_7 ha7 (by omega) (show 24 < M7.1 by omega) rfl s14_7 w1147 (Or.inl w1145) rfl rfl (Nat.le_of_ble_eq_true rfl) (by omega) (by omega) (by omega) ?_
  rintro v M' ⟨rfl, hm⟩
  subst M'
  refine xj_istore (i := 4) (L' := [(4, .int (nI (xcnt (upd f sl 99) 99 128))), (3, .int 1), (2, .int (nI sl)), (0, .ref 24), (1, .int (nI k))]) d14_4_128 (by decide) rfl ?_
  refine xj_iload (i := 4) d14_4_130 rfl ?_
  refine xj_iconst (v := 3) d14_4_132 (by decide) ?_
  refine xj_icmp_ne (tgt := 180) d14_4_133 rfl (fun h => absurd hcnt h) (fun _ => ?_)
  refine xj_aload_n (i := 0) d14_4_136 rfl rfl ?_
  refine xj_callV (rest := []) (As := []) (b := 24) (mSeal hg (M := M7) (n := n) (dl := 0) (pl := pl) (vc := vc + 1) (tk := tk) (hc := hc) (sn := sn) (y13 := y13) (y22 := y22) (y23 := y23) (y24 := y24) (y33 := y33) (y36 := y36) (y37 := y37) (y38 := y38) (y39 := y39) (f := upd f sl 99) (le := le) (show M7.1 = n by omega) (by omega) (by omega) (by omega) ha7 (by omega) (by omega) ((ho7 28 (by omega)).trans ha6) (by omega) (by omega) ((ho7 30 (by omega)).trans ((ho6 30 (by omega)).trans ((ho5 30 (by omega)).trans ((ho4 30 (by omega)).trans ((ho3 30 (by omega) (by omega) (by omega)).trans ((ho2 30 (by omega)).trans ((ho1 30 (by omega)).trans ((hoc 30 (by omega)).trans h_30)))))))) hxn (by omega) (by omega)) d14_4_137 wd14_9 ha7 (by omega) (show 24 < M7.1 by omega) rfl s14_9 w1151 (Or.inl w1149) rfl rfl (Nat.le_of_ble_eq_true rfl) (by omega) (by omega) (by omega) ?_
  rintro v M8 ⟨rfl, hs8, ho8, hf8_0, hf8_1, hf8_2⟩
  replace hs8 : M8.1 = n := hs8
  replace hf8_0 : M8.2 28 = (.inl (0, 128, .inl (xsealF (upd f sl 99) (nI sn)))) := hf8_0
  replace hf8_1 : M8.2 30 = (.inl (0, 64, .inl (upd le sn 0))) := hf8_1
  replace hf8_2 : M8.2 24 = (.inr (12, [.ref 25, .ref 26, .ref 27, .ref 28, .ref 29, .ref 30, .int (nI (sn + 1)), .int (nI (vc + 1)), .int (nI tk), .ref 31, .int (nI 0), .ref 32, .int (nI pl), .int y13, .ref 33, .ref 34, .ref 35, .ref 36, .ref 37, .ref 38, .ref 39, .ref 40, .int y22, .int y23, .int y24, .ref 41, .ref 42, .ref 43, .ref 44, .ref 45, .ref 46, .ref 47, .ref 48, .int y33, .ref 49, .ref 50, .int y36, .int y37, .int y38, .int y39, .int (nI hc), .ref 51])) := hf8_2
  refine mSetL hg hxn (n := n) (M0 := M8) (dl := 0) (vc := vc + 1) (li := (upd (upd li sb 0) sl 1)) (q1 := (nI k)) (q2 := (nI sl)) (q3 := 1) (q4 := (nI (xcnt (upd f sl 99) 99 128))) hn2 ((ho8 27 (by omega) (by omega) (by omega) (by omega)).trans ((ho7 27 (by omega)).trans ((ho6 27 (by omega)).trans ha5))) (by omega) (by omega) (by omega) (sn + 1) (xsealF (upd f sl 99) (nI sn)) (upd le sn 0) (sn + 1) tk M8 (by omega) (by omega) (by omega) (fun j _ _ _ _ => rfl) hf8_2 hf8_0 hf8_1 (fun Mz hz1 hz2 hz3 hz4 hz5 => ?_)
  refine xj_aload_n (i := 0) d14_4_180 rfl rfl ?_
  refine xj_get d14_4_181 f14_104_12 hz3 (by omega) (show 24 < Mz.1 by omega) rfl ?_
  exact xj_ret d14_4_184 (by omega) (by omega) rfl ⟨rfl, (show Mz.1 = n by omega), (fun j hj hj0 hj1 hj2 hj3 hj4 hj5 hj6 => ((hz2 j (by omega) (by omega) (by omega) (by omega)).trans ((ho8 j (by omega) (by omega) (by omega) (by omega)).trans ((ho7 j (by omega)).trans ((ho6 j (by omega)).trans ((ho5 j (by omega)).trans ((ho4 j (by omega)).trans ((ho3 j (by omega) (by omega) (by omega)).trans ((ho2 j (by omega)).trans ((ho1 j (by omega)).trans (hoc j (by omega)))))))))))), ((hz2 25 (by omega) (by omega) (by omega) (by omega)).trans ((ho8 25 (by omega) (by omega) (by omega) (by omega)).trans ((ho7 25 (by omega)).trans ((ho6 25 (by omega)).trans ((ho5 25 (by omega)).trans ((ho4 25 (by omega)).trans ((ho3 25 (by omega) (by omega) (by omega)).trans ((ho2 25 (by omega)).trans ((ho1 25 (by omega)).trans hac))))))))), ((hz2 26 (by omega) (by omega) (by omega) (by omega)).trans ((ho8 26 (by omega) (by omega) (by omega) (by omega)).trans ((ho7 26 (by omega)).trans ((ho6 26 (by omega)).trans ((ho5 26 (by omega)).trans ((ho4 26 (by omega)).trans ((ho3 26 (by omega) (by omega) (by omega)).trans ((ho2 26 (by omega)).trans ha1)))))))), hz3, ((hz2 27 (by omega) (by omega) (by omega) (by omega)).trans ((ho8 27 (by omega) (by omega) (by omega) (by omega)).trans ((ho7 27 (by omega)).trans ((ho6 27 (by omega)).trans ha5)))), ((hz2 29 (by omega) (by omega) (by omega) (by omega)).trans ((ho8 29 (by omega) (by omega) (by omega) (by omega)).trans ((ho7 29 (by omega)).trans ((ho6 29 (by omega)).trans ((ho5 29 (by omega)).trans ha4))))), hz4, hz5⟩

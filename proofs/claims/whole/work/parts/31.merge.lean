def xmrgF (f li : Nat → Int32) (a b : Int32) : Nat → Int32 := fun j => if f j = a ∨ f j = b then (if li j = 0 then -1 else a) else f j
theorem xmrg_n {f li : Nat → Int32} {a b : Int32} {i : Nat} (h : ¬ (f i = a ∨ f i = b)) : f i = xmrgF f li a b i := by rw [xmrgF, if_neg h]
theorem xmrg_d {f li : Nat → Int32} {a b : Int32} {i : Nat} (h : f i = a ∨ f i = b) (hl : li i = 0) : -1 = xmrgF f li a b i := by rw [xmrgF, if_pos h, if_pos hl]
theorem xmrg_l {f li : Nat → Int32} {a b : Int32} {i : Nat} (h : f i = a ∨ f i = b) (hl : ¬ li i = 0) : a = xmrgF f li a b i := by rw [xmrgF, if_pos h, if_neg hl]
theorem xmap_same {g F : Nat → Int32} {i : Nat} (h : ∀ j, j < i → g j = F j) (hx : g i = F i) : ∀ j, j < i + 1 → g j = F j := by
  intro j hj
  by_cases e : j = i
  · rw [e, hx]
  · exact h j (by omega)
theorem xnum_k {P : Nat → Prop} {i tk : Nat} (h : P i) : nI (tk + xnum P i) + 1 = nI (tk + xnum P (i + 1)) := by
  rw [nI_1, xnum, if_pos h, Nat.add_assoc]
theorem mMrgL {G : xG} (hxn : xn = 16) {M0 : xM} {n : Nat} (hn2 : 52 ≤ n) {dl : Nat} {pl : Nat} {vc : Nat} {tk : Nat} {hc : Nat} {y13 : Int32} {y22 : Int32} {y23 : Int32} {y24 : Int32} {y33 : Int32} {y36 : Int32} {y37 : Int32} {y38 : Int32} {y39 : Int32} {av : Nat} {f li le : Nat → Int32} (h_27 : M0.2 27 = (.inl (2, 128, .inl li))) (h_30 : M0.2 30 = (.inl (0, 64, .inl le))) (hav : av + 2 ≤ 64) {d ce se cells slots : Nat} {Post : Option Value → xM → Prop} (K : ∀ (M : xM) (g : Nat → Int32), M.1 = n → (∀ j, j ≠ 28 → j ≠ 24 → M.2 j = M0.2 j) → M.2 28 = (.inl (0, 128, .inl g)) → M.2 24 = (.inr (12, [.ref 25, .ref 26, .ref 27, .ref 28, .ref 29, .ref 30, .int (nI (av + 2)), .int (nI vc), .int (nI (tk + xnum (fun j => (f j = nI av ∨ f j = nI (av + 1)) ∧ li j = 0) 128)), .ref 31, .int (nI dl), .ref 32, .int (nI pl), .int y13, .ref 33, .ref 34, .ref 35, .ref 36, .ref 37, .ref 38, .ref 39, .ref 40, .int y22, .int y23, .int y24, .ref 41, .ref 42, .ref 43, .ref 44, .ref 45, .ref 46, .ref 47, .ref 48, .int y33, .ref 49, .ref 50, .int y36, .int y37, .int y38, .int y39, .int (nI hc), .ref 51])) → (∀ j, j < 128 → g j = xmrgF f li (nI av) (nI (av + 1)) j) → XJ G Y14_10 d ce se cells slots 95 [(3, .int (nI 128)), (2, .int (nI (av + 1))), (1, .int (nI av)), (0, .ref 24)] [] M Post) : ∀ (r i : Nat) (M : xM) (g : Nat → Int32), i + r = 128 → M.1 = n → (∀ j, j ≠ 28 → j ≠ 24 → M.2 j = M0.2 j) → M.2 28 = (.inl (0, 128, .inl g)) → M.2 24 = (.inr (12, [.ref 25, .ref 26, .ref 27, .ref 28, .ref 29, .ref 30, .int (nI (av + 2)), .int (nI vc), .int (nI (tk + xnum (fun j => (f j = nI av ∨ f j = nI (av + 1)) ∧ li j = 0) i)), .ref 31, .int (nI dl), .ref 32, .int (nI pl), .int y13, .ref 33, .ref 34, .ref 35, .ref 36, .ref 37, .ref 38, .ref 39, .ref 40, .int y22, .int y23, .int y24, .ref 41, .ref 42, .ref 43, .ref 44, .ref 45, .ref 46, .ref 47, .ref 48, .int y33, .ref 49, .ref 50, .int y36, .int y37, .int y38, .int y39, .int (nI hc), .ref 51])) → (∀ j, j < i → g j = xmrgF f li (nI av) (nI (av + 1)) j) → (∀ j, i ≤ j → g j = f j) → XJ G Y14_10 d ce se cells slots 16 [(3, .int (nI i)), (2, .int (nI (av + 1))), (1, .int (nI av)), (0, .ref 24)] [] M Post := by
  intro r
  induction r with
  | zero =>
    intro i M g hi hm hfr hA hO h1 h2
    have hi' : i = 128 := by omega
    subst i
    refine xj_iload_n (i := 3) d14_10_16 rfl rfl ?_
    refine xj_sipush (v := 128) d14_10_17 (by decide) ?_
    refine xj_icmp_ge (tgt := 95) d14_10_20 rfl (fun _ => ?_) (fun h => absurd (nI_le (a := 128) (b := 128) (by omega) (by omega)) h)
    exact K M g hm hfr hA hO h1
  | succ r ih =>
    intro i M g hi hm hfr hA hO h1 h2
    refine xj_iload_n (i := 3) d14_10_16 rfl rfl ?_
    refine xj_sipush (v := 128) d14_10_17 (by decide) ?_
    refine xj_icmp_ge (tgt := 95) d14_10_20 rfl (fun h => absurd h (nI_ge (a := i) (b := 128) (by omega) (by omega))) (fun _ => ?_)
    refine xj_aload_n (i := 0) d14_10_23 rfl rfl ?_
    refine xj_get d14_10_24 f14_20_12 hO (by omega) (show 24 < M.1 by omega) rfl ?_
    refine xj_iload_n (i := 3) d14_10_27 rfl rfl ?_
    refine xj_iaload (j := i) d14_10_28 hA (by omega) (show 28 < M.1 by omega) (vp_in_nI (by omega) (by omega)) (nI_clamp (by omega)) ?_
    refine xj_iload_n (i := 1) d14_10_29 rfl rfl ?_
    refine xj_icmp_eq (tgt := 43) d14_10_30 rfl (fun hb1 => ?_) (fun hb1 => ?_)
    · refine xj_aload_n (i := 0) d14_10_43 rfl rfl ?_
      refine xj_get d14_10_44 f14_20_12 hO (by omega) (show 24 < M.1 by omega) rfl ?_
      refine xj_iload_n (i := 3) d14_10_47 rfl rfl ?_
      refine xj_aload_n (i := 0) d14_10_48 rfl rfl ?_
      refine xj_get d14_10_49 f14_16_12 hO (by omega) (show 24 < M.1 by omega) rfl ?_
      refine xj_iload_n (i := 3) d14_10_52 rfl rfl ?_
      refine xj_zaload (j := i) d14_10_53 ((hfr 27 (by omega) (by omega)).trans h_27) (by omega) (show 27 < M.1 by omega) (vp_in_nI (by omega) (by omega)) (nI_clamp (by omega)) ?_
      refine xj_if_eq (tgt := 61) d14_10_54 rfl (fun hl => ?_) (fun hl => ?_)
      · refine xj_iconst (v := (-1)) d14_10_61 (by decide) ?_
        refine xj_iastore (j := i) (x' := (-1)) d14_10_62 hA (by omega) (show 28 < M.1 by omega) (vp_in_nI (by omega) (by omega)) (nI_clamp (by omega)) rfl ?_
        refine xj_abs_set (fun M1 hs1 ha1 ho1 => ?_)
        refine xj_aload_n (i := 0) d14_10_63 rfl rfl ?_
        refine xj_aload_n (i := 0) d14_10_64 rfl rfl ?_
        refine xj_get d14_10_65 f14_16_12 ((ho1 24 (by omega)).trans hO) (by omega) (show 24 < M1.1 by omega) rfl ?_
        refine xj_iload_n (i := 3) d14_10_68 rfl rfl ?_
        refine xj_zaload (j := i) d14_10_69 ((ho1 27 (by omega)).trans ((hfr 27 (by omega) (by omega)).trans h_27)) (by omega) (show 27 < M1.1 by omega) (vp_in_nI (by omega) (by omega)) (nI_clamp (by omega)) ?_
        refine xj_if_eq (tgt := 80) d14_10_70 rfl (fun _ => ?_) (fun h => absurd hl h)
        refine xj_aload_n (i := 0) d14_10_80 rfl rfl ?_
        refine xj_get d14_10_81 f14_120_12 ((ho1 24 (by omega)).trans hO) (by omega) (show 24 < M1.1 by omega) rfl ?_
        refine xj_iconst (v := 1) d14_10_84 (by decide) ?_
        refine xj_iadd (v := nI (tk + xnum (fun j => (f j = nI av ∨ f j = nI (av + 1)) ∧ li j = 0) (i + 1))) d14_10_85 (xnum_k (show (fun j => (f j = nI av ∨ f j = nI (av + 1)) ∧ li j = 0) i from ⟨by first | exact Or.inl ((h2 i (Nat.le_refl i)).symm.trans hb1) | exact Or.inr ((h2 i (Nat.le_refl i)).symm.trans hb2), hl⟩)) ?_
        refine xj_put (a := 24) (fs' := [.ref 25, .ref 26, .ref 27, .ref 28, .ref 29, .ref 30, .int (nI (av + 2)), .int (nI vc), .int (nI (tk + xnum (fun j => (f j = nI av ∨ f j = nI (av + 1)) ∧ li j = 0) (i + 1))), .ref 31, .int (nI dl), .ref 32, .int (nI pl), .int y13, .ref 33, .ref 34, .ref 35, .ref 36, .ref 37, .ref 38, .ref 39, .ref 40, .int y22, .int y23, .int y24, .ref 41, .ref 42, .ref 43, .ref 44, .ref 45, .ref 46, .ref 47, .ref 48, .int y33, .ref 49, .ref 50, .int y36, .int y37, .int y38, .int y39, .int (nI hc), .ref 51]) d14_10_86 f14_120_12 ((ho1 24 (by omega)).trans hO) (by omega) (show 24 < M1.1 by omega) (Nat.le_of_ble_eq_true rfl) rfl rfl rfl ?_
        refine xj_abs_set (fun M2 hs2 ha2 ho2 => ?_)
        refine xj_iinc (v := nI (i + 1)) (L' := [(3, .int (nI (i + 1))), (2, .int (nI (av + 1))), (1, .int (nI av)), (0, .ref 24)]) d14_10_89 rfl (xinc _) (by decide) rfl ?_
        refine xj_goto (tgt := 16) d14_10_92 rfl ?_
        have hyes : f i = nI av ∨ f i = nI (av + 1) := by first | exact Or.inl ((h2 i (Nat.le_refl i)).symm.trans hb1) | exact Or.inr ((h2 i (Nat.le_refl i)).symm.trans hb2)
        exact ih (i + 1) M2 (upd g i ((-1))) (by omega) (by omega) (fun j hj hj2 => ((ho2 j (by omega)).trans (ho1 j (by omega))).trans (hfr j hj hj2)) ((ho2 28 (by omega)).trans ha1) ha2 (xmap_step h1 (xmrg_d hyes hl)) (xmap_rest h2)
      · refine xj_iload_n (i := 1) d14_10_57 rfl rfl ?_
        refine xj_goto (tgt := 62) d14_10_58 rfl ?_
        refine xj_iastore (j := i) (x' := nI av) d14_10_62 hA (by omega) (show 28 < M.1 by omega) (vp_in_nI (by omega) (by omega)) (nI_clamp (by omega)) rfl ?_
        refine xj_abs_set (fun M3 hs3 ha3 ho3 => ?_)
        refine xj_aload_n (i := 0) d14_10_63 rfl rfl ?_
        refine xj_aload_n (i := 0) d14_10_64 rfl rfl ?_
        refine xj_get d14_10_65 f14_16_12 ((ho3 24 (by omega)).trans hO) (by omega) (show 24 < M3.1 by omega) rfl ?_
        refine xj_iload_n (i := 3) d14_10_68 rfl rfl ?_
        refine xj_zaload (j := i) d14_10_69 ((ho3 27 (by omega)).trans ((hfr 27 (by omega) (by omega)).trans h_27)) (by omega) (show 27 < M3.1 by omega) (vp_in_nI (by omega) (by omega)) (nI_clamp (by omega)) ?_
        refine xj_if_eq (tgt := 80) d14_10_70 rfl (fun h => absurd h hl) (fun _ => ?_)
        refine xj_aload_n (i := 0) d14_10_73 rfl rfl ?_
        refine xj_get d14_10_74 f14_120_12 ((ho3 24 (by omega)).trans hO) (by omega) (show 24 < M3.1 by omega) rfl ?_
        refine xj_goto (tgt := 86) d14_10_77 rfl ?_
        refine xj_put (a := 24) (fs' := [.ref 25, .ref 26, .ref 27, .ref 28, .ref 29, .ref 30, .int (nI (av + 2)), .int (nI vc), .int (nI (tk + xnum (fun j => (f j = nI av ∨ f j = nI (av + 1)) ∧ li j = 0) i)), .ref 31, .int (nI dl), .ref 32, .int (nI pl), .int y13, .ref 33, .ref 34, .ref 35, .ref 36, .ref 37, .ref 38, .ref 39, .ref 40, .int y22, .int y23, .int y24, .ref 41, .ref 42, .ref 43, .ref 44, .ref 45, .ref 46, .ref 47, .ref 48, .int y33, .ref 49, .ref 50, .int y36, .int y37, .int y38, .int y39, .int (nI hc), .ref 51]) d14_10_86 f14_120_12 ((ho3 24 (by omega)).trans hO) (by omega) (show 24 < M3.1 by omega) (Nat.le_of_ble_eq_true rfl) rfl rfl rfl ?_
        refine xj_abs_set (fun M4 hs4 ha4 ho4 => ?_)
        refine xj_iinc (v := nI (i + 1)) (L' := [(3, .int (nI (i + 1))), (2, .int (nI (av + 1))), (1, .int (nI av)), (0, .ref 24)]) d14_10_89 rfl (xinc _) (by decide) rfl ?_
        refine xj_goto (tgt := 16) d14_10_92 rfl ?_
        have hyes : f i = nI av ∨ f i = nI (av + 1) := by first | exact Or.inl ((h2 i (Nat.le_refl i)).symm.trans hb1) | exact Or.inr ((h2 i (Nat.le_refl i)).symm.trans hb2)
        exact ih (i + 1) M4 (upd g i (nI av)) (by omega) (by omega) (fun j hj hj2 => ((ho4 j (by omega)).trans (ho3 j (by omega))).trans (hfr j hj hj2)) ((ho4 28 (by omega)).trans ha3) (by rw [xnum_e (fun q => hl q.2)]; exact ha4) (xmap_step h1 (xmrg_l hyes hl)) (xmap_rest h2)
    · refine xj_aload_n (i := 0) d14_10_33 rfl rfl ?_
      refine xj_get d14_10_34 f14_20_12 hO (by omega) (show 24 < M.1 by omega) rfl ?_
      refine xj_iload_n (i := 3) d14_10_37 rfl rfl ?_
      refine xj_iaload (j := i) d14_10_38 hA (by omega) (show 28 < M.1 by omega) (vp_in_nI (by omega) (by omega)) (nI_clamp (by omega)) ?_
      refine xj_iload_n (i := 2) d14_10_39 rfl rfl ?_
      refine xj_icmp_ne (tgt := 89) d14_10_40 rfl (fun hb2 => ?_) (fun hb2 => ?_)
      · refine xj_iinc (v := nI (i + 1)) (L' := [(3, .int (nI (i + 1))), (2, .int (nI (av + 1))), (1, .int (nI av)), (0, .ref 24)]) d14_10_89 rfl (xinc _) (by decide) rfl ?_
        refine xj_goto (tgt := 16) d14_10_92 rfl ?_
        have hno : ¬ (f i = nI av ∨ f i = nI (av + 1)) := fun q => q.elim (fun q => hb1 ((h2 i (Nat.le_refl i)).trans q)) (fun q => hb2 ((h2 i (Nat.le_refl i)).trans q))
        exact ih (i + 1) M g (by omega) hm hfr hA (by rw [xnum_e (fun q => hno q.1)]; exact hO) (xmap_same h1 ((h2 i (Nat.le_refl i)).trans (xmrg_n hno))) (fun j hj => h2 j (by omega))
      · refine xj_aload_n (i := 0) d14_10_43 rfl rfl ?_
        refine xj_get d14_10_44 f14_20_12 hO (by omega) (show 24 < M.1 by omega) rfl ?_
        refine xj_iload_n (i := 3) d14_10_47 rfl rfl ?_
        refine xj_aload_n (i := 0) d14_10_48 rfl rfl ?_
        refine xj_get d14_10_49 f14_16_12 hO (by omega) (show 24 < M.1 by omega) rfl ?_
        refine xj_iload_n (i := 3) d14_10_52 rfl rfl ?_
        refine xj_zaload (j := i) d14_10_53 ((hfr 27 (by omega) (by omega)).trans h_27) (by omega) (show 27 < M.1 by omega) (vp_in_nI (by omega) (by omega)) (nI_clamp (by omega)) ?_
        refine xj_if_eq (tgt := 61) d14_10_54 rfl (fun hl => ?_) (fun hl => ?_)
        · refine xj_iconst (v := (-1)) d14_10_61 (by decide) ?_
          refine xj_iastore (j := i) (x' := (-1)) d14_10_62 hA (by omega) (show 28 < M.1 by omega) (vp_in_nI (by omega) (by omega)) (nI_clamp (by omega)) rfl ?_
          refine xj_abs_set (fun M5 hs5 ha5 ho5 => ?_)
          refine xj_aload_n (i := 0) d14_10_63 rfl rfl ?_
          refine xj_aload_n (i := 0) d14_10_64 rfl rfl ?_
          refine xj_get d14_10_65 f14_16_12 ((ho5 24 (by omega)).trans hO) (by omega) (show 24 < M5.1 by omega) rfl ?_
          refine xj_iload_n (i := 3) d14_10_68 rfl rfl ?_
          refine xj_zaload (j := i) d14_10_69 ((ho5 27 (by omega)).trans ((hfr 27 (by omega) (by omega)).trans h_27)) (by omega) (show 27 < M5.1 by omega) (vp_in_nI (by omega) (by omega)) (nI_clamp (by omega)) ?_
          refine xj_if_eq (tgt := 80) d14_10_70 rfl (fun _ => ?_) (fun h => absurd hl h)
          refine xj_aload_n (i := 0) d14_10_80 rfl rfl ?_
          refine xj_get d14_10_81 f14_120_12 ((ho5 24 (by omega)).trans hO) (by omega) (show 24 < M5.1 by omega) rfl ?_
          refine xj_iconst (v := 1) d14_10_84 (by decide) ?_
          refine xj_iadd (v := nI (tk + xnum (fun j => (f j = nI av ∨ f j = nI (av + 1)) ∧ li j = 0) (i + 1))) d14_10_85 (xnum_k (show (fun j => (f j = nI av ∨ f j = nI (av + 1)) ∧ li j = 0) i from ⟨by first | exact Or.inl ((h2 i (Nat.le_refl i)).symm.trans hb1) | exact Or.inr ((h2 i (Nat.le_refl i)).symm.trans hb2), hl⟩)) ?_
          refine xj_put (a := 24) (fs' := [.ref 25, .ref 26, .ref 27, .ref 28, .ref 29, .ref 30, .int (nI (av + 2)), .int (nI vc), .int (nI (tk + xnum (fun j => (f j = nI av ∨ f j = nI (av + 1)) ∧ li j = 0) (i + 1))), .ref 31, .int (nI dl), .ref 32, .int (nI pl), .int y13, .ref 33, .ref 34, .ref 35, .ref 36, .ref 37, .ref 38, .ref 39, .ref 40, .int y22, .int y23, .int y24, .ref 41, .ref 42, .ref 43, .ref 44, .ref 45, .ref 46, .ref 47, .ref 48, .int y33, .ref 49, .ref 50, .int y36, .int y37, .int y38, .int y39, .int (nI hc), .ref 51]) d14_10_86 f14_120_12 ((ho5 24 (by omega)).trans hO) (by omega) (show 24 < M5.1 by omega) (Nat.le_of_ble_eq_true rfl) rfl rfl rfl ?_
          refine xj_abs_set (fun M6 hs6 ha6 ho6 => ?_)
          refine xj_iinc (v := nI (i + 1)) (L' := [(3, .int (nI (i + 1))), (2, .int (nI (av + 1))), (1, .int (nI av)), (0, .ref 24)]) d14_10_89 rfl (xinc _) (by decide) rfl ?_
          refine xj_goto (tgt := 16) d14_10_92 rfl ?_
          have hyes : f i = nI av ∨ f i = nI (av + 1) := by first | exact Or.inl ((h2 i (Nat.le_refl i)).symm.trans hb1) | exact Or.inr ((h2 i (Nat.le_refl i)).symm.trans hb2)
          exact ih (i + 1) M6 (upd g i ((-1))) (by omega) (by omega) (fun j hj hj2 => ((ho6 j (by omega)).trans (ho5 j (by omega))).trans (hfr j hj hj2)) ((ho6 28 (by omega)).trans ha5) ha6 (xmap_step h1 (xmrg_d hyes hl)) (xmap_rest h2)
        · refine xj_iload_n (i := 1) d14_10_57 rfl rfl ?_
          refine xj_goto (tgt := 62) d14_10_58 rfl ?_
          refine xj_iastore (j := i) (x' := nI av) d14_10_62 hA (by omega) (show 28 < M.1 by omega) (vp_in_nI (by omega) (by omega)) (nI_clamp (by omega)) rfl ?_
          refine xj_abs_set (fun M7 hs7 ha7 ho7 => ?_)
          refine xj_aload_n (i := 0) d14_10_63 rfl rfl ?_
          refine xj_aload_n (i := 0) d14_10_64 rfl rfl ?_
          refine xj_get d14_10_65 f14_16_12 ((ho7 24 (by omega)).trans hO) (by omega) (show 24 < M7.1 by omega) rfl ?_
          refine xj_iload_n (i := 3) d14_10_68 rfl rfl ?_
          refine xj_zaload (j := i) d14_10_69 ((ho7 27 (by omega)).trans ((hfr 27 (by omega) (by omega)).trans h_27)) (by omega) (show 27 < M7.1 by omega) (vp_in_nI (by omega) (by omega)) (nI_clamp (by omega)) ?_
          refine xj_if_eq (tgt := 80) d14_10_70 rfl (fun h => absurd h hl) (fun _ => ?_)
          refine xj_aload_n (i := 0) d14_10_73 rfl rfl ?_
          refine xj_get d14_10_74 f14_120_12 ((ho7 24 (by omega)).trans hO) (by omega) (show 24 < M7.1 by omega) rfl ?_
          refine xj_goto (tgt := 86) d14_10_77 rfl ?_
          refine xj_put (a := 24) (fs' := [.ref 25, .ref 26, .ref 27, .ref 28, .ref 29, .ref 30, .int (nI (av + 2)), .int (nI vc), .int (nI (tk + xnum (fun j => (f j = nI av ∨ f j = nI (av + 1)) ∧ li j = 0) i)), .ref 31, .int (nI dl), .ref 32, .int (nI pl), .int y13, .ref 33, .ref 34, .ref 35, .ref 36, .ref 37, .ref 38, .ref 39, .ref 40, .int y22, .int y23, .int y24, .ref 41, .ref 42, .ref 43, .ref 44, .ref 45, .ref 46, .ref 47, .ref 48, .int y33, .ref 49, .ref 50, .int y36, .int y37, .int y38, .int y39, .int (nI hc), .ref 51]) d14_10_86 f14_120_12 ((ho7 24 (by omega)).trans hO) (by omega) (show 24 < M7.1 by omega) (Nat.le_of_ble_eq_true rfl) rfl rfl rfl ?_
          refine xj_abs_set (fun M8 hs8 ha8 ho8 => ?_)
          refine xj_iinc (v := nI (i + 1)) (L' := [(3, .int (nI (i + 1))), (2, .int (nI (av + 1))), (1, .int (nI av)), (0, .ref 24)]) d14_10_89 rfl (xinc _) (by decide) rfl ?_
          refine xj_goto (tgt := 16) d14_10_92 rfl ?_
          have hyes : f i = nI av ∨ f i = nI (av + 1) := by first | exact Or.inl ((h2 i (Nat.le_refl i)).symm.trans hb1) | exact Or.inr ((h2 i (Nat.le_refl i)).symm.trans hb2)
          exact ih (i + 1) M8 (upd g i (nI av)) (by omega) (by omega) (fun j hj hj2 => ((ho8 j (by omega)).trans (ho7 j (by omega))).trans (hfr j hj hj2)) ((ho8 28 (by omega)).trans ha7) (by rw [xnum_e (fun q => hl q.2)]; exact ha8) (xmap_step h1 (xmrg_l hyes hl)) (xmap_rest h2)

def xmx (a b : Int32) : Int32 := if a ≤ b then b else a
theorem xmx_l {a b : Int32} (h : a ≤ b) : b = xmx a b := by rw [xmx, if_pos h]
theorem xmx_g {a b : Int32} (h : ¬ a ≤ b) : a = xmx a b := by rw [xmx, if_neg h]
def xmrgF (f li : Nat → Int32) (a b : Int32) : Nat → Int32 := fun j => if f j = a ∨ f j = b then (if li j = 0 then -1 else a) else f j
theorem xmrg_n {f li : Nat → Int32} {a b : Int32} {i : Nat} (h : ¬ (f i = a ∨ f i = b)) : f i = xmrgF f li a b i := by rw [xmrgF, if_neg h]
theorem xmrg_d {f li : Nat → Int32} {a b : Int32} {i : Nat} (h : f i = a ∨ f i = b) (hl : li i = 0) : -1 = xmrgF f li a b i := by rw [xmrgF, if_pos h, if_pos hl]
theorem xmrg_l {f li : Nat → Int32} {a b : Int32} {i : Nat} (h : f i = a ∨ f i = b) (hl : ¬ li i = 0) : a = xmrgF f li a b i := by rw [xmrgF, if_pos h, if_neg hl]
theorem xmap_same {g F : Nat → Int32} {i : Nat} (h : ∀ j, j < i → g j = F j) (hx : g i = F i) : ∀ j, j < i + 1 → g j = F j := by
  intro j hj
  by_cases e : j = i
  · rw [e, hx]
  · exact h j (by omega)
theorem xsub2 (a : Nat) : nI (a + 2) - 2 = nI a := by
  have h := pk_sub (a := a + 2) (b := 2) (by omega)
  rw [Nat.add_sub_cancel] at h
  exact h
theorem xcnt_le (f : Nat → Int32) (s : Int32) : ∀ i, xcnt f s i ≤ i
  | 0 => Nat.le_refl 0
  | i + 1 => by
    have := xcnt_le f s i
    rw [xcnt]
    split <;> omega
theorem xcnt_congr {f g : Nat → Int32} {s : Int32} {N : Nat} (h : ∀ j, j < N → g j = f j) : xcnt g s N = xcnt f s N := by
  have k : ∀ i, i ≤ N → xcnt g s i = xcnt f s i := by
    intro i
    induction i with
    | zero => intro _; rfl
    | succ i ih =>
      intro hi
      rw [xcnt, xcnt, h i (by omega), ih (by omega)]
  exact k N (Nat.le_refl N)
theorem xnum_k {P : Nat → Prop} {i tk : Nat} (h : P i) : nI (tk + xnum P i) + 1 = nI (tk + xnum P (i + 1)) := by
  rw [nI_1, xnum, if_pos h, Nat.add_assoc]
theorem mMrgL {G : xG} (hxn : xn = 16) {M0 : xM} {n : Nat} (hn2 : 52 ≤ n) {dl : Nat} {pl : Nat} {vc : Nat} {tk : Nat} {hc : Nat} {y13 : Int32} {y22 : Int32} {y23 : Int32} {y24 : Int32} {y33 : Int32} {y36 : Int32} {y37 : Int32} {y38 : Int32} {y39 : Int32} {av : Nat} {f li le : Nat → Int32} (h_27 : M0.2 27 = (.inl (2, 128, .inl li))) (h_30 : M0.2 30 = (.inl (0, 64, .inl le))) (hav : av + 2 ≤ 64) {d ce se cells slots : Nat} {Post : Option Value → xM → Prop} (K : ∀ (M : xM) (g : Nat → Int32), M.1 = n → (∀ j, j ≠ 28 → j ≠ 24 → M.2 j = M0.2 j) → M.2 28 = (.inl (0, 128, .inl g)) → M.2 24 = (.inr (12, [.ref 25, .ref 26, .ref 27, .ref 28, .ref 29, .ref 30, .int (nI (av + 2)), .int (nI vc), .int (nI (tk + xnum (fun j => (f j = nI av ∨ f j = nI (av + 1)) ∧ li j = 0) 128)), .ref 31, .int (nI dl), .ref 32, .int (nI pl), .int y13, .ref 33, .ref 34, .ref 35, .ref 36, .ref 37, .ref 38, .ref 39, .ref 40, .int y22, .int y23, .int y24, .ref 41, .ref 42, .ref 43, .ref 44, .ref 45, .ref 46, .ref 47, .ref 48, .int y33, .ref 49, .ref 50, .int y36, .int y37, .int y38, .int y39, .int (nI hc), .ref 51])) → (∀ j, j < 128 → g j = xmrgF f li (nI av) (nI (av + 1)) j) → XJ G Y14_10 d ce se cells slots 95 [(3, .int (nI 128)), (2, .int (nI (av + 1))), (1, .int (nI av)), (0, .ref 24)] [] M Post) : ∀ (r i : Nat) (M : xM) (g : Nat → Int32), i + r = 128 → M.1 = n → (∀ j, j ≠ 28 → j ≠ 24 → M.2 j = M0.2 j) → M.2 28 = (.inl (0, 128, .inl g)) → M.2 24 = (.inr (12, [.ref 25, .ref 26, .ref 27, .ref 28, .ref 29, .ref 30, .int (nI (av + 2)), .int (nI vc), .int (nI (tk + xnum (fun j => (f j = nI av ∨ f j = nI (av + 1)) ∧ li j = 0) i)), .ref 31, .int (nI dl), .ref 32, .int (nI pl), .int y13, .ref 33, .ref 34, .ref 35, .ref 36, .ref 37, .ref 38, .ref 39, .ref 40, .int y22, .int y23, .int y24, .ref 41, .ref 42, .ref 43, .ref 44, .ref 45, .ref 46, .ref 47, .ref 48, .int y33, .ref 49, .ref 50, .int y36, .int y37, .int y38, .int y39, .int (nI hc), .ref 51])) → (∀ j, j < i → g j = xmrgF f li (nI av) (nI (av + 1)) j) → (∀ j, i ≤ j → g j = f j) → XJ G Y14_10 d ce se cells slots 16 [(3, .int (nI i)), (2, .int (nI (av + 1))), (1, .int (nI av)), (0, .ref 24)] [] M Post := by
  intro r
  induction r with
  | zero =>
    intro i M g hi hm hfr hA hO h1 h2
    have hi' : i = 128 := by omega
    subst i
    refine xj_iload_n (i := 3) d14_10_16 rfl rfl ?_
    refine xj_sipush (v := 128) d14_10_17 (by decide) ?_
    refine xj_icmp_ge (tgt := 95) d14_10_20 rfl (fun _ => ?_) (fun h => absurd (nI_le (a := 128) (b := 128) (by omega) (by omega)) h)
    exact K M g hm hfr hA hO h1
  | succ r ih =>
    intro i M g hi hm hfr hA hO h1 h2
    refine xj_iload_n (i := 3) d14_10_16 rfl rfl ?_
    refine xj_sipush (v := 128) d14_10_17 (by decide) ?_
    refine xj_icmp_ge (tgt := 95) d14_10_20 rfl (fun h => absurd h (nI_ge (a := i) (b := 128) (by omega) (by omega))) (fun _ => ?_)
    refine xj_aload_n (i := 0) d14_10_23 rfl rfl ?_
    refine xj_get d14_10_24 f14_20_12 hO (by omega) (show 24 < M.1 by omega) rfl ?_
    refine xj_iload_n (i := 3) d14_10_27 rfl rfl ?_
    refine xj_iaload (j := i) d14_10_28 hA (by omega) (show 28 < M.1 by omega) (vp_in_nI (by omega) (by omega)) (nI_clamp (by omega)) ?_
    refine xj_iload_n (i := 1) d14_10_29 rfl rfl ?_
    refine xj_icmp_eq (tgt := 43) d14_10_30 rfl (fun hb1 => ?_) (fun hb1 => ?_)
    · refine xj_aload_n (i := 0) d14_10_43 rfl rfl ?_
      refine xj_get d14_10_44 f14_20_12 hO (by omega) (show 24 < M.1 by omega) rfl ?_
      refine xj_iload_n (i := 3) d14_10_47 rfl rfl ?_
      refine xj_aload_n (i := 0) d14_10_48 rfl rfl ?_
      refine xj_get d14_10_49 f14_16_12 hO (by omega) (show 24 < M.1 by omega) rfl ?_
      refine xj_iload_n (i := 3) d14_10_52 rfl rfl ?_
      refine xj_zaload (j := i) d14_10_53 ((hfr 27 (by omega) (by omega)).trans h_27) (by omega) (show 27 < M.1 by omega) (vp_in_nI (by omega) (by omega)) (nI_clamp (by omega)) ?_
      refine xj_if_eq (tgt := 61) d14_10_54 rfl (fun hl => ?_) (fun hl => ?_)
      · refine xj_iconst (v := (-1)) d14_10_61 (by decide) ?_
        refine xj_iastore (j := i) (x' := (-1)) d14_10_62 hA (by omega) (show 28 < M.1 by omega) (vp_in_nI (by omega) (by omega)) (nI_clamp (by omega)) rfl ?_
        refine xj_abs_set (fun M1 hs1 ha1 ho1 => ?_)
        refine xj_aload_n (i := 0) d14_10_63 rfl rfl ?_
        refine xj_aload_n (i := 0) d14_10_64 rfl rfl ?_
        refine xj_get d14_10_65 f14_16_12 ((ho1 24 (by omega)).trans hO) (by omega) (show 24 < M1.1 by omega) rfl ?_
        refine xj_iload_n (i := 3) d14_10_68 rfl rfl ?_
        refine xj_zaload (j := i) d14_10_69 ((ho1 27 (by omega)).trans ((hfr 27 (by omega) (by omega)).trans h_27)) (by omega) (show 27 < M1.1 by omega) (vp_in_nI (by omega) (by omega)) (nI_clamp (by omega)) ?_
        refine xj_if_eq (tgt := 80) d14_10_70 rfl (fun _ => ?_) (fun h => absurd hl h)
        refine xj_aload_n (i := 0) d14_10_80 rfl rfl ?_
        refine xj_get d14_10_81 f14_120_12 ((ho1 24 (by omega)).trans hO) (by omega) (show 24 < M1.1 by omega) rfl ?_
        refine xj_iconst (v := 1) d14_10_84 (by decide) ?_
        refine xj_iadd (v := nI (tk + xnum (fun j => (f j = nI av ∨ f j = nI (av + 1)) ∧ li j = 0) (i + 1))) d14_10_85 (xnum_k (show (fun j => (f j = nI av ∨ f j = nI (av + 1)) ∧ li j = 0) i from ⟨by first | exact Or.inl ((h2 i (Nat.le_refl i)).symm.trans hb1) | exact Or.inr ((h2 i (Nat.le_refl i)).symm.trans hb2), hl⟩)) ?_
        refine xj_put (a := 24) (fs' := [.ref 25, .ref 26, .ref 27, .ref 28, .ref 29, .ref 30, .int (nI (av + 2)), .int (nI vc), .int (nI (tk + xnum (fun j => (f j = nI av ∨ f j = nI (av + 1)) ∧ li j = 0) (i + 1))), .ref 31, .int (nI dl), .ref 32, .int (nI pl), .int y13, .ref 33, .ref 34, .ref 35, .ref 36, .ref 37, .ref 38, .ref 39, .ref 40, .int y22, .int y23, .int y24, .ref 41, .ref 42, .ref 43, .ref 44, .ref 45, .ref 46, .ref 47, .ref 48, .int y33, .ref 49, .ref 50, .int y36, .int y37, .int y38, .int y39, .int (nI hc), .ref 51]) d14_10_86 f14_120_12 ((ho1 24 (by omega)).trans hO) (by omega) (show 24 < M1.1 by omega) (Nat.le_of_ble_eq_true rfl) rfl rfl rfl ?_
        refine xj_abs_set (fun M2 hs2 ha2 ho2 => ?_)
        refine xj_iinc (v := nI (i + 1)) (L' := [(3, .int (nI (i + 1))), (2, .int (nI (av + 1))), (1, .int (nI av)), (0, .ref 24)]) d14_10_89 rfl (xinc _) (by decide) rfl ?_
        refine xj_goto (tgt := 16) d14_10_92 rfl ?_
        have hyes : f i = nI av ∨ f i = nI (av + 1) := by first | exact Or.inl ((h2 i (Nat.le_refl i)).symm.trans hb1) | exact Or.inr ((h2 i (Nat.le_refl i)).symm.trans hb2)
        exact ih (i + 1) M2 (upd g i ((-1))) (by omega) (by omega) (fun j hj hj2 => ((ho2 j (by omega)).trans (ho1 j (by omega))).trans (hfr j hj hj2)) ((ho2 28 (by omega)).trans ha1) ha2 (xmap_step h1 (xmrg_d hyes hl)) (xmap_rest h2)
      · refine xj_iload_n (i := 1) d14_10_57 rfl rfl ?_
        refine xj_goto (tgt := 62) d14_10_58 rfl ?_
        refine xj_iastore (j := i) (x' := nI av) d14_10_62 hA (by omega) (show 28 < M.1 by omega) (vp_in_nI (by omega) (by omega)) (nI_clamp (by omega)) rfl ?_
        refine xj_abs_set (fun M3 hs3 ha3 ho3 => ?_)
        refine xj_aload_n (i := 0) d14_10_63 rfl rfl ?_
        refine xj_aload_n (i := 0) d14_10_64 rfl rfl ?_
        refine xj_get d14_10_65 f14_16_12 ((ho3 24 (by omega)).trans hO) (by omega) (show 24 < M3.1 by omega) rfl ?_
        refine xj_iload_n (i := 3) d14_10_68 rfl rfl ?_
        refine xj_zaload (j := i) d14_10_69 ((ho3 27 (by omega)).trans ((hfr 27 (by omega) (by omega)).trans h_27)) (by omega) (show 27 < M3.1 by omega) (vp_in_nI (by omega) (by omega)) (nI_clamp (by omega)) ?_
        refine xj_if_eq (tgt := 80) d14_10_70 rfl (fun h => absurd h hl) (fun _ => ?_)
        refine xj_aload_n (i := 0) d14_10_73 rfl rfl ?_
        refine xj_get d14_10_74 f14_120_12 ((ho3 24 (by omega)).trans hO) (by omega) (show 24 < M3.1 by omega) rfl ?_
        refine xj_goto (tgt := 86) d14_10_77 rfl ?_
        refine xj_put (a := 24) (fs' := [.ref 25, .ref 26, .ref 27, .ref 28, .ref 29, .ref 30, .int (nI (av + 2)), .int (nI vc), .int (nI (tk + xnum (fun j => (f j = nI av ∨ f j = nI (av + 1)) ∧ li j = 0) i)), .ref 31, .int (nI dl), .ref 32, .int (nI pl), .int y13, .ref 33, .ref 34, .ref 35, .ref 36, .ref 37, .ref 38, .ref 39, .ref 40, .int y22, .int y23, .int y24, .ref 41, .ref 42, .ref 43, .ref 44, .ref 45, .ref 46, .ref 47, .ref 48, .int y33, .ref 49, .ref 50, .int y36, .int y37, .int y38, .int y39, .int (nI hc), .ref 51]) d14_10_86 f14_120_12 ((ho3 24 (by omega)).trans hO) (by omega) (show 24 < M3.1 by omega) (Nat.le_of_ble_eq_true rfl) rfl rfl rfl ?_
        refine xj_abs_set (fun M4 hs4 ha4 ho4 => ?_)
        refine xj_iinc (v := nI (i + 1)) (L' := [(3, .int (nI (i + 1))), (2, .int (nI (av + 1))), (1, .int (nI av)), (0, .ref 24)]) d14_10_89 rfl (xinc _) (by decide) rfl ?_
        refine xj_goto (tgt := 16) d14_10_92 rfl ?_
        have hyes : f i = nI av ∨ f i = nI (av + 1) := by first | exact Or.inl ((h2 i (Nat.le_refl i)).symm.trans hb1) | exact Or.inr ((h2 i (Nat.le_refl i)).symm.trans hb2)
        exact ih (i + 1) M4 (upd g i (nI av)) (by omega) (by omega) (fun j hj hj2 => ((ho4 j (by omega)).trans (ho3 j (by omega))).trans (hfr j hj hj2)) ((ho4 28 (by omega)).trans ha3) (by rw [xnum_e (fun q => hl q.2)]; exact ha4) (xmap_step h1 (xmrg_l hyes hl)) (xmap_rest h2)
    · refine xj_aload_n (i := 0) d14_10_33 rfl rfl ?_
      refine xj_get d14_10_34 f14_20_12 hO (by omega) (show 24 < M.1 by omega) rfl ?_
      refine xj_iload_n (i := 3) d14_10_37 rfl rfl ?_
      refine xj_iaload (j := i) d14_10_38 hA (by omega) (show 28 < M.1 by omega) (vp_in_nI (by omega) (by omega)) (nI_clamp (by omega)) ?_
      refine xj_iload_n (i := 2) d14_10_39 rfl rfl ?_
      refine xj_icmp_ne (tgt := 89) d14_10_40 rfl (fun hb2 => ?_) (fun hb2 => ?_)
      · refine xj_iinc (v := nI (i + 1)) (L' := [(3, .int (nI (i + 1))), (2, .int (nI (av + 1))), (1, .int (nI av)), (0, .ref 24)]) d14_10_89 rfl (xinc _) (by decide) rfl ?_
        refine xj_goto (tgt := 16) d14_10_92 rfl ?_
        have hno : ¬ (f i = nI av ∨ f i = nI (av + 1)) := fun q => q.elim (fun q => hb1 ((h2 i (Nat.le_refl i)).trans q)) (fun q => hb2 ((h2 i (Nat.le_refl i)).trans q))
        exact ih (i + 1) M g (by omega) hm hfr hA (by rw [xnum_e (fun q => hno q.1)]; exact hO) (xmap_same h1 ((h2 i (Nat.le_refl i)).trans (xmrg_n hno))) (fun j hj => h2 j (by omega))
      · refine xj_aload_n (i := 0) d14_10_43 rfl rfl ?_
        refine xj_get d14_10_44 f14_20_12 hO (by omega) (show 24 < M.1 by omega) rfl ?_
        refine xj_iload_n (i := 3) d14_10_47 rfl rfl ?_
        refine xj_aload_n (i := 0) d14_10_48 rfl rfl ?_
        refine xj_get d14_10_49 f14_16_12 hO (by omega) (show 24 < M.1 by omega) rfl ?_
        refine xj_iload_n (i := 3) d14_10_52 rfl rfl ?_
        refine xj_zaload (j := i) d14_10_53 ((hfr 27 (by omega) (by omega)).trans h_27) (by omega) (show 27 < M.1 by omega) (vp_in_nI (by omega) (by omega)) (nI_clamp (by omega)) ?_
        refine xj_if_eq (tgt := 61) d14_10_54 rfl (fun hl => ?_) (fun hl => ?_)
        · refine xj_iconst (v := (-1)) d14_10_61 (by decide) ?_
          refine xj_iastore (j := i) (x' := (-1)) d14_10_62 hA (by omega) (show 28 < M.1 by omega) (vp_in_nI (by omega) (by omega)) (nI_clamp (by omega)) rfl ?_
          refine xj_abs_set (fun M5 hs5 ha5 ho5 => ?_)
          refine xj_aload_n (i := 0) d14_10_63 rfl rfl ?_
          refine xj_aload_n (i := 0) d14_10_64 rfl rfl ?_
          refine xj_get d14_10_65 f14_16_12 ((ho5 24 (by omega)).trans hO) (by omega) (show 24 < M5.1 by omega) rfl ?_
          refine xj_iload_n (i := 3) d14_10_68 rfl rfl ?_
          refine xj_zaload (j := i) d14_10_69 ((ho5 27 (by omega)).trans ((hfr 27 (by omega) (by omega)).trans h_27)) (by omega) (show 27 < M5.1 by omega) (vp_in_nI (by omega) (by omega)) (nI_clamp (by omega)) ?_
          refine xj_if_eq (tgt := 80) d14_10_70 rfl (fun _ => ?_) (fun h => absurd hl h)
          refine xj_aload_n (i := 0) d14_10_80 rfl rfl ?_
          refine xj_get d14_10_81 f14_120_12 ((ho5 24 (by omega)).trans hO) (by omega) (show 24 < M5.1 by omega) rfl ?_
          refine xj_iconst (v := 1) d14_10_84 (by decide) ?_
          refine xj_iadd (v := nI (tk + xnum (fun j => (f j = nI av ∨ f j = nI (av + 1)) ∧ li j = 0) (i + 1))) d14_10_85 (xnum_k (show (fun j => (f j = nI av ∨ f j = nI (av + 1)) ∧ li j = 0) i from ⟨by first | exact Or.inl ((h2 i (Nat.le_refl i)).symm.trans hb1) | exact Or.inr ((h2 i (Nat.le_refl i)).symm.trans hb2), hl⟩)) ?_
          refine xj_put (a := 24) (fs' := [.ref 25, .ref 26, .ref 27, .ref 28, .ref 29, .ref 30, .int (nI (av + 2)), .int (nI vc), .int (nI (tk + xnum (fun j => (f j = nI av ∨ f j = nI (av + 1)) ∧ li j = 0) (i + 1))), .ref 31, .int (nI dl), .ref 32, .int (nI pl), .int y13, .ref 33, .ref 34, .ref 35, .ref 36, .ref 37, .ref 38, .ref 39, .ref 40, .int y22, .int y23, .int y24, .ref 41, .ref 42, .ref 43, .ref 44, .ref 45, .ref 46, .ref 47, .ref 48, .int y33, .ref 49, .ref 50, .int y36, .int y37, .int y38, .int y39, .int (nI hc), .ref 51]) d14_10_86 f14_120_12 ((ho5 24 (by omega)).trans hO) (by omega) (show 24 < M5.1 by omega) (Nat.le_of_ble_eq_true rfl) rfl rfl rfl ?_
          refine xj_abs_set (fun M6 hs6 ha6 ho6 => ?_)
          refine xj_iinc (v := nI (i + 1)) (L' := [(3, .int (nI (i + 1))), (2, .int (nI (av + 1))), (1, .int (nI av)), (0, .ref 24)]) d14_10_89 rfl (xinc _) (by decide) rfl ?_
          refine xj_goto (tgt := 16) d14_10_92 rfl ?_
          have hyes : f i = nI av ∨ f i = nI (av + 1) := by first | exact Or.inl ((h2 i (Nat.le_refl i)).symm.trans hb1) | exact Or.inr ((h2 i (Nat.le_refl i)).symm.trans hb2)
          exact ih (i + 1) M6 (upd g i ((-1))) (by omega) (by omega) (fun j hj hj2 => ((ho6 j (by omega)).trans (ho5 j (by omega))).trans (hfr j hj hj2)) ((ho6 28 (by omega)).trans ha5) ha6 (xmap_step h1 (xmrg_d hyes hl)) (xmap_rest h2)
        · refine xj_iload_n (i := 1) d14_10_57 rfl rfl ?_
          refine xj_goto (tgt := 62) d14_10_58 rfl ?_
          refine xj_iastore (j := i) (x' := nI av) d14_10_62 hA (by omega) (show 28 < M.1 by omega) (vp_in_nI (by omega) (by omega)) (nI_clamp (by omega)) rfl ?_
          refine xj_abs_set (fun M7 hs7 ha7 ho7 => ?_)
          refine xj_aload_n (i := 0) d14_10_63 rfl rfl ?_
          refine xj_aload_n (i := 0) d14_10_64 rfl rfl ?_
          refine xj_get d14_10_65 f14_16_12 ((ho7 24 (by omega)).trans hO) (by omega) (show 24 < M7.1 by omega) rfl ?_
          refine xj_iload_n (i := 3) d14_10_68 rfl rfl ?_
          refine xj_zaload (j := i) d14_10_69 ((ho7 27 (by omega)).trans ((hfr 27 (by omega) (by omega)).trans h_27)) (by omega) (show 27 < M7.1 by omega) (vp_in_nI (by omega) (by omega)) (nI_clamp (by omega)) ?_
          refine xj_if_eq (tgt := 80) d14_10_70 rfl (fun h => absurd h hl) (fun _ => ?_)
          refine xj_aload_n (i := 0) d14_10_73 rfl rfl ?_
          refine xj_get d14_10_74 f14_120_12 ((ho7 24 (by omega)).trans hO) (by omega) (show 24 < M7.1 by omega) rfl ?_
          refine xj_goto (tgt := 86) d14_10_77 rfl ?_
          refine xj_put (a := 24) (fs' := [.ref 25, .ref 26, .ref 27, .ref 28, .ref 29, .ref 30, .int (nI (av + 2)), .int (nI vc), .int (nI (tk + xnum (fun j => (f j = nI av ∨ f j = nI (av + 1)) ∧ li j = 0) i)), .ref 31, .int (nI dl), .ref 32, .int (nI pl), .int y13, .ref 33, .ref 34, .ref 35, .ref 36, .ref 37, .ref 38, .ref 39, .ref 40, .int y22, .int y23, .int y24, .ref 41, .ref 42, .ref 43, .ref 44, .ref 45, .ref 46, .ref 47, .ref 48, .int y33, .ref 49, .ref 50, .int y36, .int y37, .int y38, .int y39, .int (nI hc), .ref 51]) d14_10_86 f14_120_12 ((ho7 24 (by omega)).trans hO) (by omega) (show 24 < M7.1 by omega) (Nat.le_of_ble_eq_true rfl) rfl rfl rfl ?_
          refine xj_abs_set (fun M8 hs8 ha8 ho8 => ?_)
          refine xj_iinc (v := nI (i + 1)) (L' := [(3, .int (nI (i + 1))), (2, .int (nI (av + 1))), (1, .int (nI av)), (0, .ref 24)]) d14_10_89 rfl (xinc _) (by decide) rfl ?_
          refine xj_goto (tgt := 16) d14_10_92 rfl ?_
          have hyes : f i = nI av ∨ f i = nI (av + 1) := by first | exact Or.inl ((h2 i (Nat.le_refl i)).symm.trans hb1) | exact Or.inr ((h2 i (Nat.le_refl i)).symm.trans hb2)
          exact ih (i + 1) M8 (upd g i (nI av)) (by omega) (by omega) (fun j hj hj2 => ((ho8 j (by omega)).trans (ho7 j (by omega))).trans (hfr j hj hj2)) ((ho8 28 (by omega)).trans ha7) (by rw [xnum_e (fun q => hl q.2)]; exact ha8) (xmap_step h1 (xmrg_l hyes hl)) (xmap_rest h2)
set_option maxRecDepth 20000 in
theorem mMergeY {G : xG} (hg : xGood G) {M : xM} {n : Nat} (hn : M.1 = n) (hx : xn ≤ n) {dl : Nat} {pl : Nat} {vc : Nat} {tk : Nat} {hc : Nat} {y13 : Int32} {y22 : Int32} {y23 : Int32} {y24 : Int32} {y33 : Int32} {y36 : Int32} {y37 : Int32} {y38 : Int32} {y39 : Int32} {av : Nat} {f : Nat → Int32} {li : Nat → Int32} {le : Nat → Int32} (h1_24 : xn ≤ 24) (h2_24 : 24 < n) (h_24 : M.2 24 = (.inr (12, [.ref 25, .ref 26, .ref 27, .ref 28, .ref 29, .ref 30, .int (nI (av + 2)), .int (nI vc), .int (nI tk), .ref 31, .int (nI dl), .ref 32, .int (nI pl), .int y13, .ref 33, .ref 34, .ref 35, .ref 36, .ref 37, .ref 38, .ref 39, .ref 40, .int y22, .int y23, .int y24, .ref 41, .ref 42, .ref 43, .ref 44, .ref 45, .ref 46, .ref 47, .ref 48, .int y33, .ref 49, .ref 50, .int y36, .int y37, .int y38, .int y39, .int (nI hc), .ref 51]))) (h1_28 : xn ≤ 28) (h2_28 : 28 < n) (h_28 : M.2 28 = (.inl (0, 128, .inl f))) (h1_27 : xn ≤ 27) (h2_27 : 27 < n) (h_27 : M.2 27 = (.inl (2, 128, .inl li))) (h1_30 : xn ≤ 30) (h2_30 : 30 < n) (h_30 : M.2 30 = (.inl (0, 64, .inl le))) (hxn : xn = 16) (hn2 : 52 ≤ n) (hav : av + 2 ≤ 64) (hcnt : 0 < xcnt (xmrgF f li (nI av) (nI (av + 1))) (nI av) 128) : XC G Y14_10 none 1 0 0 [.ref 24] M (fun v M' => v = none ∧ M'.1 = n ∧ (∀ j, j < n → j ≠ 28 → j ≠ 24 → j ≠ 30 → M'.2 j = M.2 j) ∧ M'.2 28 = (.inl (0, 128, .inl (xmrgF f li (nI av) (nI (av + 1))))) ∧ M'.2 24 = (.inr (12, [.ref 25, .ref 26, .ref 27, .ref 28, .ref 29, .ref 30, .int (nI (av + 1)), .int (nI vc), .int (nI (tk + xnum (fun j => (f j = nI av ∨ f j = nI (av + 1)) ∧ li j = 0) 128)), .ref 31, .int (nI dl), .ref 32, .int (nI pl), .int y13, .ref 33, .ref 34, .ref 35, .ref 36, .ref 37, .ref 38, .ref 39, .ref 40, .int y22, .int y23, .int y24, .ref 41, .ref 42, .ref 43, .ref 44, .ref 45, .ref 46, .ref 47, .ref 48, .int y33, .ref 49, .ref 50, .int y36, .int y37, .int y38, .int y39, .int (nI hc), .ref 51])) ∧ M'.2 30 = (.inl (0, 64, .inl (upd le av (xmx (le av) (le (av + 1)) + 1))))) := by
  refine xc_of hg (by decide) (Nat.le_of_ble_eq_true rfl) (Or.inr (Or.inr (Or.inr (Or.inr (Or.inl ⟨rfl, rfl, fun v M' h => h.1⟩))))) ?_
  refine xj_aload_n (i := 0) d14_10_0 rfl rfl ?_
  refine xj_get d14_10_1 f14_114_12 h_24 (by omega) (show 24 < M.1 by omega) rfl ?_
  refine xj_iconst (v := 2) d14_10_4 (by decide) ?_
  refine xj_isub (v := nI av) d14_10_5 (xsub2 av) ?_
  refine xj_istore_n (i := 1) (L' := [(1, .int (nI av)), (0, .ref 24)]) d14_10_6 rfl (by decide) rfl ?_
  refine xj_aload_n (i := 0) d14_10_7 rfl rfl ?_
  refine xj_get d14_10_8 f14_114_12 h_24 (by omega) (show 24 < M.1 by omega) rfl ?_
  refine xj_iconst (v := 1) d14_10_11 (by decide) ?_
  refine xj_isub (v := nI (av + 1)) d14_10_12 (nI_pred (av + 1)) ?_
  refine xj_istore_n (i := 2) (L' := [(2, .int (nI (av + 1))), (1, .int (nI av)), (0, .ref 24)]) d14_10_13 rfl (by decide) rfl ?_
  refine xj_iconst (v := 0) d14_10_14 (by decide) ?_
  refine xj_istore_n (i := 3) (L' := [(3, .int 0), (2, .int (nI (av + 1))), (1, .int (nI av)), (0, .ref 24)]) d14_10_15 rfl (by decide) rfl ?_
  refine mMrgL (n := n) (M0 := M) hxn hn2 h_27 h_30 hav (fun Ma g hsa hoa haa hab hga => ?_) 128 0 M f rfl (by omega) (fun j _ _ => rfl) h_28 h_24 (fun j hj => absurd hj (by omega)) (fun j _ => rfl)
  refine xj_norm haa hga (fun Mn hsn2 han hon => ?_)
  refine xj_aload_n (i := 0) d14_10_95 rfl rfl ?_
  refine xj_get d14_10_96 f14_26_12 ((hon 24 (by omega)).trans hab) (by omega) (show 24 < Mn.1 by omega) rfl ?_
  refine xj_iload_n (i := 1) d14_10_99 rfl rfl ?_
  refine xj_aload_n (i := 0) d14_10_100 rfl rfl ?_
  refine xj_get d14_10_101 f14_26_12 ((hon 24 (by omega)).trans hab) (by omega) (show 24 < Mn.1 by omega) rfl ?_
  refine xj_iload_n (i := 1) d14_10_104 rfl rfl ?_
  refine xj_iaload (j := av) d14_10_105 ((hon 30 (by omega)).trans ((hoa 30 (by omega) (by omega)).trans h_30)) (by omega) (show 30 < Mn.1 by omega) (vp_in_nI (by omega) (by omega)) (nI_clamp (by omega)) ?_
  refine xj_aload_n (i := 0) d14_10_106 rfl rfl ?_
  refine xj_get d14_10_107 f14_26_12 ((hon 24 (by omega)).trans hab) (by omega) (show 24 < Mn.1 by omega) rfl ?_
  refine xj_iload_n (i := 2) d14_10_110 rfl rfl ?_
  refine xj_iaload (j := av + 1) d14_10_111 ((hon 30 (by omega)).trans ((hoa 30 (by omega) (by omega)).trans h_30)) (by omega) (show 30 < Mn.1 by omega) (vp_in_nI (by omega) (by omega)) (nI_clamp (by omega)) ?_
  refine xj_icmp_le (tgt := 124) d14_10_112 rfl (fun hlv => ?_) (fun hlv => ?_)
  · refine xj_aload_n (i := 0) d14_10_124 rfl rfl ?_
    refine xj_get d14_10_125 f14_26_12 ((hon 24 (by omega)).trans hab) (by omega) (show 24 < Mn.1 by omega) rfl ?_
    refine xj_iload_n (i := 2) d14_10_128 rfl rfl ?_
    refine xj_iaload (j := av + 1) d14_10_129 ((hon 30 (by omega)).trans ((hoa 30 (by omega) (by omega)).trans h_30)) (by omega) (show 30 < Mn.1 by omega) (vp_in_nI (by omega) (by omega)) (nI_clamp (by omega)) ?_
    refine xj_iconst (v := 1) d14_10_130 (by decide) ?_
    refine xj_iadd (v := xmx (le av) (le (av + 1)) + 1) d14_10_131 (congrArg (· + 1) (xmx_l hlv)) ?_
    refine xj_iastore (j := av) (x' := xmx (le av) (le (av + 1)) + 1) d14_10_132 ((hon 30 (by omega)).trans ((hoa 30 (by omega) (by omega)).trans h_30)) (by omega) (show 30 < Mn.1 by omega) (vp_in_nI (by omega) (by omega)) (nI_clamp (by omega)) rfl ?_
    refine xj_abs_set (fun M1 hs1 ha1 ho1 => ?_)
    refine xj_aload_n (i := 0) d14_10_133 rfl rfl ?_
    refine xj_iload_n (i := 1) d14_10_134 rfl rfl ?_
    refine xj_callV (rest := []) (As := [.int (nI av)]) (b := 24) (mHolds hg (M := M1) (n := n) (a := 24) (ia := 28) (f := xmrgF f li (nI av) (nI (av + 1))) (s := nI av) (o0 := .ref 25) (o1 := .ref 26) (o2 := .ref 27) (o4 := .ref 29) (o5 := .ref 30) (o6 := .int (nI (av + 2))) (o7 := .int (nI vc)) (o8 := .int (nI (tk + xnum (fun j => (f j = nI av ∨ f j = nI (av + 1)) ∧ li j = 0) 128))) (o9 := .ref 31) (o10 := .int (nI dl)) (o11 := .ref 32) (o12 := .int (nI pl)) (o13 := .int y13) (o14 := .ref 33) (o15 := .ref 34) (o16 := .ref 35) (o17 := .ref 36) (o18 := .ref 37) (o19 := .ref 38) (o20 := .ref 39) (o21 := .ref 40) (o22 := .int y22) (o23 := .int y23) (o24 := .int y24) (o25 := .ref 41) (o26 := .ref 42) (o27 := .ref 43) (o28 := .ref 44) (o29 := .ref 45) (o30 := .ref 46) (o31 := .ref 47) (o32 := .ref 48) (o33 := .int y33) (o34 := .ref 49) (o35 := .ref 50) (o36 := .int y36) (o37 := .int y37) (o38 := .int y38) (o39 := .int y39) (o40 := .int (nI hc)) (o41 := .ref 51) (show M1.1 = n by omega) (by omega) (by omega) (by omega) ((ho1 24 (by omega)).trans ((hon 24 (by omega)).trans hab)) (by omega) (by omega) ((ho1 28 (by omega)).trans han)) d14_10_135 wd14_7 ((ho1 24 (by omega)).trans ((hon 24 (by omega)).trans hab)) (by omega) (show 24 < M1.1 by omega) rfl s14_7 w1147 (Or.inl w1145) rfl rfl (Nat.le_of_ble_eq_true rfl) (by omega) (by omega) (by omega) ?_
    rintro v M' ⟨rfl, hm⟩
    subst M'
    refine xj_istore_n (i := 3) (L' := [(3, .int (nI (xcnt (xmrgF f li (nI av) (nI (av + 1))) (nI av) 128))), (2, .int (nI (av + 1))), (1, .int (nI av)), (0, .ref 24)]) d14_10_138 rfl (by decide) rfl ?_
    refine xj_aload_n (i := 0) d14_10_139 rfl rfl ?_
    refine xj_iload_n (i := 3) d14_10_140 rfl rfl ?_
    refine xj_if_ne (tgt := 148) d14_10_141 rfl (fun _ => ?_) (fun h => absurd h (nI_ne0 hcnt (Nat.lt_of_le_of_lt (xcnt_le _ _ _) (by decide))))
    refine xj_iload_n (i := 2) d14_10_148 rfl rfl ?_
    refine xj_put (a := 24) (fs' := [.ref 25, .ref 26, .ref 27, .ref 28, .ref 29, .ref 30, .int (nI (av + 1)), .int (nI vc), .int (nI (tk + xnum (fun j => (f j = nI av ∨ f j = nI (av + 1)) ∧ li j = 0) 128)), .ref 31, .int (nI dl), .ref 32, .int (nI pl), .int y13, .ref 33, .ref 34, .ref 35, .ref 36, .ref 37, .ref 38, .ref 39, .ref 40, .int y22, .int y23, .int y24, .ref 41, .ref 42, .ref 43, .ref 44, .ref 45, .ref 46, .ref 47, .ref 48, .int y33, .ref 49, .ref 50, .int y36, .int y37, .int y38, .int y39, .int (nI hc), .ref 51]) d14_10_149 f14_114_12 ((ho1 24 (by omega)).trans ((hon 24 (by omega)).trans hab)) (by omega) (show 24 < M1.1 by omega) (Nat.le_of_ble_eq_true rfl) rfl rfl rfl ?_
    refine xj_abs_set (fun M2 hs2 ha2 ho2 => ?_)
    exact xj_ret d14_10_152 (by omega) (by omega) rfl ⟨rfl, (show M2.1 = n by omega), (fun j hj hj0 hj1 hj2 => ((ho2 j (by omega)).trans ((ho1 j (by omega)).trans ((hon j (by omega)).trans (hoa j (by omega) (by omega)))))), ((ho2 28 (by omega)).trans ((ho1 28 (by omega)).trans han)), ha2, ((ho2 30 (by omega)).trans ha1)⟩
  · refine xj_aload_n (i := 0) d14_10_115 rfl rfl ?_
    refine xj_get d14_10_116 f14_26_12 ((hon 24 (by omega)).trans hab) (by omega) (show 24 < Mn.1 by omega) rfl ?_
    refine xj_iload_n (i := 1) d14_10_119 rfl rfl ?_
    refine xj_iaload (j := av) d14_10_120 ((hon 30 (by omega)).trans ((hoa 30 (by omega) (by omega)).trans h_30)) (by omega) (show 30 < Mn.1 by omega) (vp_in_nI (by omega) (by omega)) (nI_clamp (by omega)) ?_
    refine xj_goto (tgt := 130) d14_10_121 rfl ?_
    refine xj_iconst (v := 1) d14_10_130 (by decide) ?_
    refine xj_iadd (v := xmx (le av) (le (av + 1)) + 1) d14_10_131 (congrArg (· + 1) (xmx_g hlv)) ?_
    refine xj_iastore (j := av) (x' := xmx (le av) (le (av + 1)) + 1) d14_10_132 ((hon 30 (by omega)).trans ((hoa 30 (by omega) (by omega)).trans h_30)) (by omega) (show 30 < Mn.1 by omega) (vp_in_nI (by omega) (by omega)) (nI_clamp (by omega)) rfl ?_
    refine xj_abs_set (fun M3 hs3 ha3 ho3 => ?_)
    refine xj_aload_n (i := 0) d14_10_133 rfl rfl ?_
    refine xj_iload_n (i := 1) d14_10_134 rfl rfl ?_
    refine xj_callV (rest := []) (As := [.int (nI av)]) (b := 24) (mHolds hg (M := M3) (n := n) (a := 24) (ia := 28) (f := xmrgF f li (nI av) (nI (av + 1))) (s := nI av) (o0 := .ref 25) (o1 := .ref 26) (o2 := .ref 27) (o4 := .ref 29) (o5 := .ref 30) (o6 := .int (nI (av + 2))) (o7 := .int (nI vc)) (o8 := .int (nI (tk + xnum (fun j => (f j = nI av ∨ f j = nI (av + 1)) ∧ li j = 0) 128))) (o9 := .ref 31) (o10 := .int (nI dl)) (o11 := .ref 32) (o12 := .int (nI pl)) (o13 := .int y13) (o14 := .ref 33) (o15 := .ref 34) (o16 := .ref 35) (o17 := .ref 36) (o18 := .ref 37) (o19 := .ref 38) (o20 := .ref 39) (o21 := .ref 40) (o22 := .int y22) (o23 := .int y23) (o24 := .int y24) (o25 := .ref 41) (o26 := .ref 42) (o27 := .ref 43) (o28 := .ref 44) (o29 := .ref 45) (o30 := .ref 46) (o31 := .ref 47) (o32 := .ref 48) (o33 := .int y33) (o34 := .ref 49) (o35 := .ref 50) (o36 := .int y36) (o37 := .int y37) (o38 := .int y38) (o39 := .int y39) (o40 := .int (nI hc)) (o41 := .ref 51) (show M3.1 = n by omega) (by omega) (by omega) (by omega) ((ho3 24 (by omega)).trans ((hon 24 (by omega)).trans hab)) (by omega) (by omega) ((ho3 28 (by omega)).trans han)) d14_10_135 wd14_7 ((ho3 24 (by omega)).trans ((hon 24 (by omega)).trans hab)) (by omega) (show 24 < M3.1 by omega) rfl s14_7 w1147 (Or.inl w1145) rfl rfl (Nat.le_of_ble_eq_true rfl) (by omega) (by omega) (by omega) ?_
    rintro v M' ⟨rfl, hm⟩
    subst M'
    refine xj_istore_n (i := 3) (L' := [(3, .int (nI (xcnt (xmrgF f li (nI av) (nI (av + 1))) (nI av) 128))), (2, .int (nI (av + 1))), (1, .int (nI av)), (0, .ref 24)]) d14_10_138 rfl (by decide) rfl ?_
    refine xj_aload_n (i := 0) d14_10_139 rfl rfl ?_
    refine xj_iload_n (i := 3) d14_10_140 rfl rfl ?_
    refine xj_if_ne (tgt := 148) d14_10_141 rfl (fun _ => ?_) (fun h => absurd h (nI_ne0 hcnt (Nat.lt_of_le_of_lt (xcnt_le _ _ _) (by decide))))
    refine xj_iload_n (i := 2) d14_10_148 rfl rfl ?_
    refine xj_put (a := 24) (fs' := [.ref 25, .ref 26, .ref 27, .ref 28, .ref 29, .ref 30, .int (nI (av + 1)), .int (nI vc), .int (nI (tk + xnum (fun j => (f j = nI av ∨ f j = nI (av + 1)) ∧ li j = 0) 128)), .ref 31, .int (nI dl), .ref 32, .int (nI pl), .int y13, .ref 33, .ref 34, .ref 35, .ref 36, .ref 37, .ref 38, .ref 39, .ref 40, .int y22, .int y23, .int y24, .ref 41, .ref 42, .ref 43, .ref 44, .ref 45, .ref 46, .ref 47, .ref 48, .int y33, .ref 49, .ref 50, .int y36, .int y37, .int y38, .int y39, .int (nI hc), .ref 51]) d14_10_149 f14_114_12 ((ho3 24 (by omega)).trans ((hon 24 (by omega)).trans hab)) (by omega) (show 24 < M3.1 by omega) (Nat.le_of_ble_eq_true rfl) rfl rfl rfl ?_
    refine xj_abs_set (fun M4 hs4 ha4 ho4 => ?_)
    exact xj_ret d14_10_152 (by omega) (by omega) rfl ⟨rfl, (show M4.1 = n by omega), (fun j hj hj0 hj1 hj2 => ((ho4 j (by omega)).trans ((ho3 j (by omega)).trans ((hon j (by omega)).trans (hoa j (by omega) (by omega)))))), ((ho4 28 (by omega)).trans ((ho3 28 (by omega)).trans han)), ha4, ((ho4 30 (by omega)).trans ha3)⟩
set_option maxRecDepth 20000 in
theorem mMergeN {G : xG} (hg : xGood G) {M : xM} {n : Nat} (hn : M.1 = n) (hx : xn ≤ n) {dl : Nat} {pl : Nat} {vc : Nat} {tk : Nat} {hc : Nat} {y13 : Int32} {y22 : Int32} {y23 : Int32} {y24 : Int32} {y33 : Int32} {y36 : Int32} {y37 : Int32} {y38 : Int32} {y39 : Int32} {av : Nat} {f : Nat → Int32} {li : Nat → Int32} {le : Nat → Int32} (h1_24 : xn ≤ 24) (h2_24 : 24 < n) (h_24 : M.2 24 = (.inr (12, [.ref 25, .ref 26, .ref 27, .ref 28, .ref 29, .ref 30, .int (nI (av + 2)), .int (nI vc), .int (nI tk), .ref 31, .int (nI dl), .ref 32, .int (nI pl), .int y13, .ref 33, .ref 34, .ref 35, .ref 36, .ref 37, .ref 38, .ref 39, .ref 40, .int y22, .int y23, .int y24, .ref 41, .ref 42, .ref 43, .ref 44, .ref 45, .ref 46, .ref 47, .ref 48, .int y33, .ref 49, .ref 50, .int y36, .int y37, .int y38, .int y39, .int (nI hc), .ref 51]))) (h1_28 : xn ≤ 28) (h2_28 : 28 < n) (h_28 : M.2 28 = (.inl (0, 128, .inl f))) (h1_27 : xn ≤ 27) (h2_27 : 27 < n) (h_27 : M.2 27 = (.inl (2, 128, .inl li))) (h1_30 : xn ≤ 30) (h2_30 : 30 < n) (h_30 : M.2 30 = (.inl (0, 64, .inl le))) (hxn : xn = 16) (hn2 : 52 ≤ n) (hav : av + 2 ≤ 64) (hcnt : xcnt (xmrgF f li (nI av) (nI (av + 1))) (nI av) 128 = 0) : XC G Y14_10 none 1 0 0 [.ref 24] M (fun v M' => v = none ∧ M'.1 = n ∧ (∀ j, j < n → j ≠ 28 → j ≠ 24 → j ≠ 30 → M'.2 j = M.2 j) ∧ M'.2 28 = (.inl (0, 128, .inl (xmrgF f li (nI av) (nI (av + 1))))) ∧ M'.2 24 = (.inr (12, [.ref 25, .ref 26, .ref 27, .ref 28, .ref 29, .ref 30, .int (nI av), .int (nI vc), .int (nI (tk + xnum (fun j => (f j = nI av ∨ f j = nI (av + 1)) ∧ li j = 0) 128)), .ref 31, .int (nI dl), .ref 32, .int (nI pl), .int y13, .ref 33, .ref 34, .ref 35, .ref 36, .ref 37, .ref 38, .ref 39, .ref 40, .int y22, .int y23, .int y24, .ref 41, .ref 42, .ref 43, .ref 44, .ref 45, .ref 46, .ref 47, .ref 48, .int y33, .ref 49, .ref 50, .int y36, .int y37, .int y38, .int y39, .int (nI hc), .ref 51])) ∧ M'.2 30 = (.inl (0, 64, .inl (upd le av (xmx (le av) (le (av + 1)) + 1))))) := by
  refine xc_of hg (by decide) (Nat.le_of_ble_eq_true rfl) (Or.inr (Or.inr (Or.inr (Or.inr (Or.inl ⟨rfl, rfl, fun v M' h => h.1⟩))))) ?_
  refine xj_aload_n (i := 0) d14_10_0 rfl rfl ?_
  refine xj_get d14_10_1 f14_114_12 h_24 (by omega) (show 24 < M.1 by omega) rfl ?_
  refine xj_iconst (v := 2) d14_10_4 (by decide) ?_
  refine xj_isub (v := nI av) d14_10_5 (xsub2 av) ?_
  refine xj_istore_n (i := 1) (L' := [(1, .int (nI av)), (0, .ref 24)]) d14_10_6 rfl (by decide) rfl ?_
  refine xj_aload_n (i := 0) d14_10_7 rfl rfl ?_
  refine xj_get d14_10_8 f14_114_12 h_24 (by omega) (show 24 < M.1 by omega) rfl ?_
  refine xj_iconst (v := 1) d14_10_11 (by decide) ?_
  refine xj_isub (v := nI (av + 1)) d14_10_12 (nI_pred (av + 1)) ?_
  refine xj_istore_n (i := 2) (L' := [(2, .int (nI (av + 1))), (1, .int (nI av)), (0, .ref 24)]) d14_10_13 rfl (by decide) rfl ?_
  refine xj_iconst (v := 0) d14_10_14 (by decide) ?_
  refine xj_istore_n (i := 3) (L' := [(3, .int 0), (2, .int (nI (av + 1))), (1, .int (nI av)), (0, .ref 24)]) d14_10_15 rfl (by decide) rfl ?_
  refine mMrgL (n := n) (M0 := M) hxn hn2 h_27 h_30 hav (fun Ma g hsa hoa haa hab hga => ?_) 128 0 M f rfl (by omega) (fun j _ _ => rfl) h_28 h_24 (fun j hj => absurd hj (by omega)) (fun j _ => rfl)
  refine xj_norm haa hga (fun Mn hsn2 han hon => ?_)
  refine xj_aload_n (i := 0) d14_10_95 rfl rfl ?_
  refine xj_get d14_10_96 f14_26_12 ((hon 24 (by omega)).trans hab) (by omega) (show 24 < Mn.1 by omega) rfl ?_
  refine xj_iload_n (i := 1) d14_10_99 rfl rfl ?_
  refine xj_aload_n (i := 0) d14_10_100 rfl rfl ?_
  refine xj_get d14_10_101 f14_26_12 ((hon 24 (by omega)).trans hab) (by omega) (show 24 < Mn.1 by omega) rfl ?_
  refine xj_iload_n (i := 1) d14_10_104 rfl rfl ?_
  refine xj_iaload (j := av) d14_10_105 ((hon 30 (by omega)).trans ((hoa 30 (by omega) (by omega)).trans h_30)) (by omega) (show 30 < Mn.1 by omega) (vp_in_nI (by omega) (by omega)) (nI_clamp (by omega)) ?_
  refine xj_aload_n (i := 0) d14_10_106 rfl rfl ?_
  refine xj_get d14_10_107 f14_26_12 ((hon 24 (by omega)).trans hab) (by omega) (show 24 < Mn.1 by omega) rfl ?_
  refine xj_iload_n (i := 2) d14_10_110 rfl rfl ?_
  refine xj_iaload (j := av + 1) d14_10_111 ((hon 30 (by omega)).trans ((hoa 30 (by omega) (by omega)).trans h_30)) (by omega) (show 30 < Mn.1 by omega) (vp_in_nI (by omega) (by omega)) (nI_clamp (by omega)) ?_
  refine xj_icmp_le (tgt := 124) d14_10_112 rfl (fun hlv => ?_) (fun hlv => ?_)
  · refine xj_aload_n (i := 0) d14_10_124 rfl rfl ?_
    refine xj_get d14_10_125 f14_26_12 ((hon 24 (by omega)).trans hab) (by omega) (show 24 < Mn.1 by omega) rfl ?_
    refine xj_iload_n (i := 2) d14_10_128 rfl rfl ?_
    refine xj_iaload (j := av + 1) d14_10_129 ((hon 30 (by omega)).trans ((hoa 30 (by omega) (by omega)).trans h_30)) (by omega) (show 30 < Mn.1 by omega) (vp_in_nI (by omega) (by omega)) (nI_clamp (by omega)) ?_
    refine xj_iconst (v := 1) d14_10_130 (by decide) ?_
    refine xj_iadd (v := xmx (le av) (le (av + 1)) + 1) d14_10_131 (congrArg (· + 1) (xmx_l hlv)) ?_
    refine xj_iastore (j := av) (x' := xmx (le av) (le (av + 1)) + 1) d14_10_132 ((hon 30 (by omega)).trans ((hoa 30 (by omega) (by omega)).trans h_30)) (by omega) (show 30 < Mn.1 by omega) (vp_in_nI (by omega) (by omega)) (nI_clamp (by omega)) rfl ?_
    refine xj_abs_set (fun M1 hs1 ha1 ho1 => ?_)
    refine xj_aload_n (i := 0) d14_10_133 rfl rfl ?_
    refine xj_iload_n (i := 1) d14_10_134 rfl rfl ?_
    refine xj_callV (rest := []) (As := [.int (nI av)]) (b := 24) (mHolds hg (M := M1) (n := n) (a := 24) (ia := 28) (f := xmrgF f li (nI av) (nI (av + 1))) (s := nI av) (o0 := .ref 25) (o1 := .ref 26) (o2 := .ref 27) (o4 := .ref 29) (o5 := .ref 30) (o6 := .int (nI (av + 2))) (o7 := .int (nI vc)) (o8 := .int (nI (tk + xnum (fun j => (f j = nI av ∨ f j = nI (av + 1)) ∧ li j = 0) 128))) (o9 := .ref 31) (o10 := .int (nI dl)) (o11 := .ref 32) (o12 := .int (nI pl)) (o13 := .int y13) (o14 := .ref 33) (o15 := .ref 34) (o16 := .ref 35) (o17 := .ref 36) (o18 := .ref 37) (o19 := .ref 38) (o20 := .ref 39) (o21 := .ref 40) (o22 := .int y22) (o23 := .int y23) (o24 := .int y24) (o25 := .ref 41) (o26 := .ref 42) (o27 := .ref 43) (o28 := .ref 44) (o29 := .ref 45) (o30 := .ref 46) (o31 := .ref 47) (o32 := .ref 48) (o33 := .int y33) (o34 := .ref 49) (o35 := .ref 50) (o36 := .int y36) (o37 := .int y37) (o38 := .int y38) (o39 := .int y39) (o40 := .int (nI hc)) (o41 := .ref 51) (show M1.1 = n by omega) (by omega) (by omega) (by omega) ((ho1 24 (by omega)).trans ((hon 24 (by omega)).trans hab)) (by omega) (by omega) ((ho1 28 (by omega)).trans han)) d14_10_135 wd14_7 ((ho1 24 (by omega)).trans ((hon 24 (by omega)).trans hab)) (by omega) (show 24 < M1.1 by omega) rfl s14_7 w1147 (Or.inl w1145) rfl rfl (Nat.le_of_ble_eq_true rfl) (by omega) (by omega) (by omega) ?_
    rintro v M' ⟨rfl, hm⟩
    subst M'
    refine xj_istore_n (i := 3) (L' := [(3, .int (nI (xcnt (xmrgF f li (nI av) (nI (av + 1))) (nI av) 128))), (2, .int (nI (av + 1))), (1, .int (nI av)), (0, .ref 24)]) d14_10_138 rfl (by decide) rfl ?_
    refine xj_aload_n (i := 0) d14_10_139 rfl rfl ?_
    refine xj_iload_n (i := 3) d14_10_140 rfl rfl ?_
    refine xj_if_ne (tgt := 148) d14_10_141 rfl (fun h => absurd (by rw [hcnt]; rfl) h) (fun _ => ?_)
    refine xj_iload_n (i := 1) d14_10_144 rfl rfl ?_
    refine xj_goto (tgt := 149) d14_10_145 rfl ?_
    refine xj_put (a := 24) (fs' := [.ref 25, .ref 26, .ref 27, .ref 28, .ref 29, .ref 30, .int (nI av), .int (nI vc), .int (nI (tk + xnum (fun j => (f j = nI av ∨ f j = nI (av + 1)) ∧ li j = 0) 128)), .ref 31, .int (nI dl), .ref 32, .int (nI pl), .int y13, .ref 33, .ref 34, .ref 35, .ref 36, .ref 37, .ref 38, .ref 39, .ref 40, .int y22, .int y23, .int y24, .ref 41, .ref 42, .ref 43, .ref 44, .ref 45, .ref 46, .ref 47, .ref 48, .int y33, .ref 49, .ref 50, .int y36, .int y37, .int y38, .int y39, .int (nI hc), .ref 51]) d14_10_149 f14_114_12 ((ho1 24 (by omega)).trans ((hon 24 (by omega)).trans hab)) (by omega) (show 24 < M1.1 by omega) (Nat.le_of_ble_eq_true rfl) rfl rfl rfl ?_
    refine xj_abs_set (fun M2 hs2 ha2 ho2 => ?_)
    exact xj_ret d14_10_152 (by omega) (by omega) rfl ⟨rfl, (show M2.1 = n by omega), (fun j hj hj0 hj1 hj2 => ((ho2 j (by omega)).trans ((ho1 j (by omega)).trans ((hon j (by omega)).trans (hoa j (by omega) (by omega)))))), ((ho2 28 (by omega)).trans ((ho1 28 (by omega)).trans han)), ha2, ((ho2 30 (by omega)).trans ha1)⟩
  · refine xj_aload_n (i := 0) d14_10_115 rfl rfl ?_
    refine xj_get d14_10_116 f14_26_12 ((hon 24 (by omega)).trans hab) (by omega) (show 24 < Mn.1 by omega) rfl ?_
    refine xj_iload_n (i := 1) d14_10_119 rfl rfl ?_
    refine xj_iaload (j := av) d14_10_120 ((hon 30 (by omega)).trans ((hoa 30 (by omega) (by omega)).trans h_30)) (by omega) (show 30 < Mn.1 by omega) (vp_in_nI (by omega) (by omega)) (nI_clamp (by omega)) ?_
    refine xj_goto (tgt := 130) d14_10_121 rfl ?_
    refine xj_iconst (v := 1) d14_10_130 (by decide) ?_
    refine xj_iadd (v := xmx (le av) (le (av + 1)) + 1) d14_10_131 (congrArg (· + 1) (xmx_g hlv)) ?_
    refine xj_iastore (j := av) (x' := xmx (le av) (le (av + 1)) + 1) d14_10_132 ((hon 30 (by omega)).trans ((hoa 30 (by omega) (by omega)).trans h_30)) (by omega) (show 30 < Mn.1 by omega) (vp_in_nI (by omega) (by omega)) (nI_clamp (by omega)) rfl ?_
    refine xj_abs_set (fun M3 hs3 ha3 ho3 => ?_)
    refine xj_aload_n (i := 0) d14_10_133 rfl rfl ?_
    refine xj_iload_n (i := 1) d14_10_134 rfl rfl ?_
    refine xj_callV (rest := []) (As := [.int (nI av)]) (b := 24) (mHolds hg (M := M3) (n := n) (a := 24) (ia := 28) (f := xmrgF f li (nI av) (nI (av + 1))) (s := nI av) (o0 := .ref 25) (o1 := .ref 26) (o2 := .ref 27) (o4 := .ref 29) (o5 := .ref 30) (o6 := .int (nI (av + 2))) (o7 := .int (nI vc)) (o8 := .int (nI (tk + xnum (fun j => (f j = nI av ∨ f j = nI (av + 1)) ∧ li j = 0) 128))) (o9 := .ref 31) (o10 := .int (nI dl)) (o11 := .ref 32) (o12 := .int (nI pl)) (o13 := .int y13) (o14 := .ref 33) (o15 := .ref 34) (o16 := .ref 35) (o17 := .ref 36) (o18 := .ref 37) (o19 := .ref 38) (o20 := .ref 39) (o21 := .ref 40) (o22 := .int y22) (o23 := .int y23) (o24 := .int y24) (o25 := .ref 41) (o26 := .ref 42) (o27 := .ref 43) (o28 := .ref 44) (o29 := .ref 45) (o30 := .ref 46) (o31 := .ref 47) (o32 := .ref 48) (o33 := .int y33) (o34 := .ref 49) (o35 := .ref 50) (o36 := .int y36) (o37 := .int y37) (o38 := .int y38) (o39 := .int y39) (o40 := .int (nI hc)) (o41 := .ref 51) (show M3.1 = n by omega) (by omega) (by omega) (by omega) ((ho3 24 (by omega)).trans ((hon 24 (by omega)).trans hab)) (by omega) (by omega) ((ho3 28 (by omega)).trans han)) d14_10_135 wd14_7 ((ho3 24 (by omega)).trans ((hon 24 (by omega)).trans hab)) (by omega) (show 24 < M3.1 by omega) rfl s14_7 w1147 (Or.inl w1145) rfl rfl (Nat.le_of_ble_eq_true rfl) (by omega) (by omega) (by omega) ?_
    rintro v M' ⟨rfl, hm⟩
    subst M'
    refine xj_istore_n (i := 3) (L' := [(3, .int (nI (xcnt (xmrgF f li (nI av) (nI (av + 1))) (nI av) 128))), (2, .int (nI (av + 1))), (1, .int (nI av)), (0, .ref 24)]) d14_10_138 rfl (by decide) rfl ?_
    refine xj_aload_n (i := 0) d14_10_139 rfl rfl ?_
    refine xj_iload_n (i := 3) d14_10_140 rfl rfl ?_
    refine xj_if_ne (tgt := 148) d14_10_141 rfl (fun h => absurd (by rw [hcnt]; rfl) h) (fun _ => ?_)
    refine xj_iload_n (i := 1) d14_10_144 rfl rfl ?_
    refine xj_goto (tgt := 149) d14_10_145 rfl ?_
    refine xj_put (a := 24) (fs' := [.ref 25, .ref 26, .ref 27, .ref 28, .ref 29, .ref 30, .int (nI av), .int (nI vc), .int (nI (tk + xnum (fun j => (f j = nI av ∨ f j = nI (av + 1)) ∧ li j = 0) 128)), .ref 31, .int (nI dl), .ref 32, .int (nI pl), .int y13, .ref 33, .ref 34, .ref 35, .ref 36, .ref 37, .ref 38, .ref 39, .ref 40, .int y22, .int y23, .int y24, .ref 41, .ref 42, .ref 43, .ref 44, .ref 45, .ref 46, .ref 47, .ref 48, .int y33, .ref 49, .ref 50, .int y36, .int y37, .int y38, .int y39, .int (nI hc), .ref 51]) d14_10_149 f14_114_12 ((ho3 24 (by omega)).trans ((hon 24 (by omega)).trans hab)) (by omega) (show 24 < M3.1 by omega) (Nat.le_of_ble_eq_true rfl) rfl rfl rfl ?_
    refine xj_abs_set (fun M4 hs4 ha4 ho4 => ?_)
    exact xj_ret d14_10_152 (by omega) (by omega) rfl ⟨rfl, (show M4.1 = n by omega), (fun j hj hj0 hj1 hj2 => ((ho4 j (by omega)).trans ((ho3 j (by omega)).trans ((hon j (by omega)).trans (hoa j (by omega) (by omega)))))), ((ho4 28 (by omega)).trans ((ho3 28 (by omega)).trans han)), ha4, ((ho4 30 (by omega)).trans ha3)⟩

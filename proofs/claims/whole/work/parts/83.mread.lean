/-- a chain by next -/
def xCn (nx : Nat → Int32) : Int32 → List Nat → Prop
  | p, [] => p = -1
  | p, a :: l => p = nI a ∧ xCn nx (nx a) l
set_option maxRecDepth 20000 in
theorem mAhead {G : xG} (hg : xGood G) {M : xM} {n : Nat} (hn : M.1 = n) (hx : xn ≤ n) {dl : Nat} {pl : Nat} {vc : Nat} {tk : Nat} {hc : Nat} {sn : Nat} {y24 : Int32} {y33 : Int32} {y36 : Int32} {y37 : Int32} {y38 : Int32} {y39 : Int32} {np : Nat} {a : Nat} {dp : Nat} {fp : Nat → Int32} {k : Nat} (h1_24 : xn ≤ 24) (h2_24 : 24 < n) (h_24 : M.2 24 = (.inr (12, [.ref 25, .ref 26, .ref 27, .ref 28, .ref 29, .ref 30, .int (nI sn), .int (nI vc), .int (nI tk), .ref 31, .int (nI dl), .ref 32, .int (nI pl), .int (nI np), .ref 33, .ref 34, .ref 35, .ref 36, .ref 37, .ref 38, .ref 39, .ref 40, .int (nI a), .int (nI dp), .int y24, .ref 41, .ref 42, .ref 43, .ref 44, .ref 45, .ref 46, .ref 47, .ref 48, .int y33, .ref 49, .ref 50, .int y36, .int y37, .int y38, .int y39, .int (nI hc), .ref 51]))) (h1_32 : xn ≤ 32) (h2_32 : 32 < n) (h_32 : M.2 32 = (.inl (0, 24, .inl fp))) (hak : a + k < 1000) (hpl : pl ≤ 24) : XC G Y14_19 (some .int) 0 0 0 [.ref 24, .int (nI k)] M (fun v M' => v = some (.int (pch fp pl (a + k))) ∧ M' = M) := by
  refine xc_of hg (by decide) (Nat.le_of_ble_eq_true rfl) (Or.inl ⟨rfl, rfl, fun v M' h => ⟨_, h.1⟩⟩) ?_
  refine xj_aload_n (i := 0) d14_19_0 rfl rfl ?_
  refine xj_get d14_19_1 f14_133_12 h_24 (by omega) (show 24 < M.1 by omega) rfl ?_
  refine xj_iload_n (i := 1) d14_19_4 rfl rfl ?_
  refine xj_iadd (v := nI (a + k)) d14_19_5 (nI_add a k) ?_
  refine xj_aload_n (i := 0) d14_19_6 rfl rfl ?_
  refine xj_get d14_19_7 f14_130_12 h_24 (by omega) (show 24 < M.1 by omega) rfl ?_
  refine xj_icmp_ge (tgt := 27) d14_19_10 rfl (fun hb => ?_) (fun hb => ?_)
  · refine xj_iconst (v := 0) d14_19_27 (by decide) ?_
    exact xj_ret d14_19_28 (by omega) (by omega) rfl ⟨(by rw [show pch fp pl (a + k) = 0 from if_neg (fun q => absurd hb (nI_ge q (by omega)))]), rfl⟩
  · have hb2 : a + k < pl := Classical.byContradiction fun q => hb (nI_le (by omega) (by omega))
    refine xj_aload_n (i := 0) d14_19_13 rfl rfl ?_
    refine xj_get d14_19_14 f14_32_12 h_24 (by omega) (show 24 < M.1 by omega) rfl ?_
    refine xj_aload_n (i := 0) d14_19_17 rfl rfl ?_
    refine xj_get d14_19_18 f14_133_12 h_24 (by omega) (show 24 < M.1 by omega) rfl ?_
    refine xj_iload_n (i := 1) d14_19_21 rfl rfl ?_
    refine xj_iadd (v := nI (a + k)) d14_19_22 (nI_add a k) ?_
    refine xj_iaload (j := a + k) d14_19_23 h_32 (by omega) (show 32 < M.1 by omega) (vp_in_nI (by omega) (by omega)) (nI_clamp (by omega)) ?_
    refine xj_goto (tgt := 28) d14_19_24 rfl ?_
    exact xj_ret d14_19_28 (by omega) (by omega) rfl ⟨(by rw [show pch fp pl (a + k) = fp (a + k) from if_pos hb2]), rfl⟩
theorem mPartL {G : xG} (hxn : xn = 16) {M0 : xM} {n : Nat} (hn2 : 52 ≤ n) {dl : Nat} {pl : Nat} {vc : Nat} {tk : Nat} {hc : Nat} {sn : Nat} {y24 : Int32} {y33 : Int32} {y36 : Int32} {y37 : Int32} {y38 : Int32} {y39 : Int32} {np : Nat} {a : Nat} {dp : Nat} {cs : Nat → Int32} {kk w : Int32} (h_24 : M0.2 24 = (.inr (12, [.ref 25, .ref 26, .ref 27, .ref 28, .ref 29, .ref 30, .int (nI sn), .int (nI vc), .int (nI tk), .ref 31, .int (nI dl), .ref 32, .int (nI pl), .int (nI np), .ref 33, .ref 34, .ref 35, .ref 36, .ref 37, .ref 38, .ref 39, .ref 40, .int (nI a), .int (nI dp), .int y24, .ref 41, .ref 42, .ref 43, .ref 44, .ref 45, .ref 46, .ref 47, .ref 48, .int y33, .ref 49, .ref 50, .int y36, .int y37, .int y38, .int y39, .int (nI hc), .ref 51]))) (hnp : np < 30) {d ce se cells slots : Nat} {Post : Option Value → xM → Prop} (K : ∀ M : xM, M.1 = n → (∀ j, j ≠ 40 → M.2 j = M0.2 j) → M.2 40 = (.inl (2, 2850, .inl (va_cpy (fun _ => 0) cs 0 (95 * np) 95))) → XJ G Y14_20 d ce se cells slots 69 [(3, .int (nI 95)), (0, .ref 24), (1, .int kk), (2, .int w)] [] M Post) : ∀ (r i : Nat) (M : xM), i + r = 95 → M.1 = n → (∀ j, j ≠ 40 → M.2 j = M0.2 j) → M.2 40 = (.inl (2, 2850, .inl (va_cpy (fun _ => 0) cs 0 (95 * np) i))) → XJ G Y14_20 d ce se cells slots 42 [(3, .int (nI i)), (0, .ref 24), (1, .int kk), (2, .int w)] [] M Post := by
  intro r
  induction r with
  | zero =>
    intro i M hi hm hfr hA
    have hi' : i = 95 := by omega
    subst i
    refine xj_iload_n (i := 3) d14_20_42 rfl rfl ?_
    refine xj_bipush (v := 95) d14_20_43 (by decide) ?_
    refine xj_icmp_ge (tgt := 69) d14_20_45 rfl (fun _ => ?_) (fun h => absurd (nI_le (a := 95) (b := 95) (by omega) (by omega)) h)
    exact K M hm hfr hA
  | succ r ih =>
    intro i M hi hm hfr hA
    refine xj_iload_n (i := 3) d14_20_42 rfl rfl ?_
    refine xj_bipush (v := 95) d14_20_43 (by decide) ?_
    refine xj_icmp_ge (tgt := 69) d14_20_45 rfl (fun h => absurd h (nI_ge (a := i) (b := 95) (by omega) (by omega))) (fun _ => ?_)
    refine xj_aload_n (i := 0) d14_20_48 rfl rfl ?_
    refine xj_get d14_20_49 f14_56_12 ((hfr 24 (by omega)).trans h_24) (by omega) (show 24 < M.1 by omega) rfl ?_
    refine xj_bipush (v := 95) d14_20_52 (by decide) ?_
    refine xj_aload_n (i := 0) d14_20_54 rfl rfl ?_
    refine xj_get d14_20_55 f14_136_12 ((hfr 24 (by omega)).trans h_24) (by omega) (show 24 < M.1 by omega) rfl ?_
    refine xj_imul (v := nI (95 * np)) d14_20_58 (pk_mul 95 np) ?_
    refine xj_iload_n (i := 3) d14_20_59 rfl rfl ?_
    refine xj_iadd (v := nI (95 * np + i)) d14_20_60 (nI_add (95 * np) i) ?_
    refine xj_iconst (v := 0) d14_20_61 (by decide) ?_
    refine xj_zastore (j := 95 * np + i) (x' := 0) d14_20_62 hA (by omega) (show 40 < M.1 by omega) (vp_in_nI (by omega) (by omega)) (nI_clamp (by omega)) (by decide) ?_
    refine xj_abs_set (fun M1 hs1 ha1 ho1 => ?_)
    refine xj_iinc (v := nI (i + 1)) (L' := [(3, .int (nI (i + 1))), (0, .ref 24), (1, .int kk), (2, .int w)]) d14_20_63 rfl (xinc _) (by decide) rfl ?_
    refine xj_goto (tgt := 42) d14_20_66 rfl ?_
    exact ih (i + 1) M1 (by omega) (by omega) (fun j hj => (ho1 j hj).trans (hfr j hj)) (by rw [← xcpy_step]; exact ha1)
set_option maxRecDepth 20000 in
theorem mPart {G : xG} (hg : xGood G) {M : xM} {n : Nat} (hn : M.1 = n) (hx : xn ≤ n) {dl : Nat} {pl : Nat} {vc : Nat} {tk : Nat} {hc : Nat} {sn : Nat} {y24 : Int32} {y33 : Int32} {y36 : Int32} {y37 : Int32} {y38 : Int32} {y39 : Int32} {np : Nat} {a : Nat} {dp : Nat} {kd : Nat → Int32} {wt : Nat → Int32} {ch : Nat → Int32} {nx : Nat → Int32} {cs : Nat → Int32} {kk : Int32} {w : Int32} (h1_24 : xn ≤ 24) (h2_24 : 24 < n) (h_24 : M.2 24 = (.inr (12, [.ref 25, .ref 26, .ref 27, .ref 28, .ref 29, .ref 30, .int (nI sn), .int (nI vc), .int (nI tk), .ref 31, .int (nI dl), .ref 32, .int (nI pl), .int (nI np), .ref 33, .ref 34, .ref 35, .ref 36, .ref 37, .ref 38, .ref 39, .ref 40, .int (nI a), .int (nI dp), .int y24, .ref 41, .ref 42, .ref 43, .ref 44, .ref 45, .ref 46, .ref 47, .ref 48, .int y33, .ref 49, .ref 50, .int y36, .int y37, .int y38, .int y39, .int (nI hc), .ref 51]))) (h1_33 : xn ≤ 33) (h2_33 : 33 < n) (h_33 : M.2 33 = (.inl (0, 30, .inl kd))) (h1_39 : xn ≤ 39) (h2_39 : 39 < n) (h_39 : M.2 39 = (.inl (0, 30, .inl wt))) (h1_34 : xn ≤ 34) (h2_34 : 34 < n) (h_34 : M.2 34 = (.inl (0, 30, .inl ch))) (h1_35 : xn ≤ 35) (h2_35 : 35 < n) (h_35 : M.2 35 = (.inl (0, 30, .inl nx))) (h1_40 : xn ≤ 40) (h2_40 : 40 < n) (h_40 : M.2 40 = (.inl (2, 2850, .inl cs))) (hxn : xn = 16) (hn2 : 52 ≤ n) (hnp : np < 30) : XC G Y14_20 (some .int) 0 0 0 [.ref 24, .int kk, .int w] M (fun v M' => v = some (.int (nI np)) ∧ M'.1 = n ∧ (∀ j, j < n → j ≠ 33 → j ≠ 39 → j ≠ 34 → j ≠ 35 → j ≠ 40 → j ≠ 24 → M'.2 j = M.2 j) ∧ M'.2 33 = (.inl (0, 30, .inl (upd kd np kk))) ∧ M'.2 39 = (.inl (0, 30, .inl (upd wt np w))) ∧ M'.2 34 = (.inl (0, 30, .inl (upd ch np (-1)))) ∧ M'.2 35 = (.inl (0, 30, .inl (upd nx np (-1)))) ∧ M'.2 40 = (.inl (2, 2850, .inl (va_cpy (fun _ => 0) cs 0 (95 * np) 95))) ∧ M'.2 24 = (.inr (12, [.ref 25, .ref 26, .ref 27, .ref 28, .ref 29, .ref 30, .int (nI sn), .int (nI vc), .int (nI tk), .ref 31, .int (nI dl), .ref 32, .int (nI pl), .int (nI (np + 1)), .ref 33, .ref 34, .ref 35, .ref 36, .ref 37, .ref 38, .ref 39, .ref 40, .int (nI a), .int (nI dp), .int y24, .ref 41, .ref 42, .ref 43, .ref 44, .ref 45, .ref 46, .ref 47, .ref 48, .int y33, .ref 49, .ref 50, .int y36, .int y37, .int y38, .int y39, .int (nI hc), .ref 51]))) := by
  refine xc_of hg (by decide) (Nat.le_of_ble_eq_true rfl) (Or.inl ⟨rfl, rfl, fun v M' h => ⟨_, h.1⟩⟩) ?_
  refine xj_aload_n (i := 0) d14_20_0 rfl rfl ?_
  refine xj_get d14_20_1 f14_35_12 h_24 (by omega) (show 24 < M.1 by omega) rfl ?_
  refine xj_aload_n (i := 0) d14_20_4 rfl rfl ?_
  refine xj_get d14_20_5 f14_136_12 h_24 (by omega) (show 24 < M.1 by omega) rfl ?_
  refine xj_iload_n (i := 1) d14_20_8 rfl rfl ?_
  refine xj_iastore (j := np) (x' := kk) d14_20_9 h_33 (by omega) (show 33 < M.1 by omega) (vp_in_nI (by omega) (by omega)) (nI_clamp (by omega)) rfl ?_
  refine xj_abs_set (fun M1 hs1 ha1 ho1 => ?_)
  refine xj_aload_n (i := 0) d14_20_10 rfl rfl ?_
  refine xj_get d14_20_11 f14_53_12 ((ho1 24 (by omega)).trans h_24) (by omega) (show 24 < M1.1 by omega) rfl ?_
  refine xj_aload_n (i := 0) d14_20_14 rfl rfl ?_
  refine xj_get d14_20_15 f14_136_12 ((ho1 24 (by omega)).trans h_24) (by omega) (show 24 < M1.1 by omega) rfl ?_
  refine xj_iload_n (i := 2) d14_20_18 rfl rfl ?_
  refine xj_iastore (j := np) (x' := w) d14_20_19 ((ho1 39 (by omega)).trans h_39) (by omega) (show 39 < M1.1 by omega) (vp_in_nI (by omega) (by omega)) (nI_clamp (by omega)) rfl ?_
  refine xj_abs_set (fun M2 hs2 ha2 ho2 => ?_)
  refine xj_aload_n (i := 0) d14_20_20 rfl rfl ?_
  refine xj_get d14_20_21 f14_38_12 ((ho2 24 (by omega)).trans ((ho1 24 (by omega)).trans h_24)) (by omega) (show 24 < M2.1 by omega) rfl ?_
  refine xj_aload_n (i := 0) d14_20_24 rfl rfl ?_
  refine xj_get d14_20_25 f14_136_12 ((ho2 24 (by omega)).trans ((ho1 24 (by omega)).trans h_24)) (by omega) (show 24 < M2.1 by omega) rfl ?_
  refine xj_iconst (v := (-1)) d14_20_28 (by decide) ?_
  refine xj_iastore (j := np) (x' := (-1)) d14_20_29 ((ho2 34 (by omega)).trans ((ho1 34 (by omega)).trans h_34)) (by omega) (show 34 < M2.1 by omega) (vp_in_nI (by omega) (by omega)) (nI_clamp (by omega)) rfl ?_
  refine xj_abs_set (fun M3 hs3 ha3 ho3 => ?_)
  refine xj_aload_n (i := 0) d14_20_30 rfl rfl ?_
  refine xj_get d14_20_31 f14_41_12 ((ho3 24 (by omega)).trans ((ho2 24 (by omega)).trans ((ho1 24 (by omega)).trans h_24))) (by omega) (show 24 < M3.1 by omega) rfl ?_
  refine xj_aload_n (i := 0) d14_20_34 rfl rfl ?_
  refine xj_get d14_20_35 f14_136_12 ((ho3 24 (by omega)).trans ((ho2 24 (by omega)).trans ((ho1 24 (by omega)).trans h_24))) (by omega) (show 24 < M3.1 by omega) rfl ?_
  refine xj_iconst (v := (-1)) d14_20_38 (by decide) ?_
  refine xj_iastore (j := np) (x' := (-1)) d14_20_39 ((ho3 35 (by omega)).trans ((ho2 35 (by omega)).trans ((ho1 35 (by omega)).trans h_35))) (by omega) (show 35 < M3.1 by omega) (vp_in_nI (by omega) (by omega)) (nI_clamp (by omega)) rfl ?_
  refine xj_abs_set (fun M4 hs4 ha4 ho4 => ?_)
  refine xj_iconst (v := 0) d14_20_40 (by decide) ?_
  refine xj_istore_n (i := 3) (L' := [(3, .int 0), (0, .ref 24), (1, .int kk), (2, .int w)]) d14_20_41 rfl (by decide) rfl ?_
  refine mPartL (n := n) (M0 := M4) (cs := cs) hxn hn2 ((ho4 24 (by omega)).trans ((ho3 24 (by omega)).trans ((ho2 24 (by omega)).trans ((ho1 24 (by omega)).trans h_24)))) hnp (fun Mc hsc hoc hac => ?_) 95 0 M4 (by omega) (by omega) (fun j _ => rfl) (by rw [xcpy_0]; exact ((ho4 40 (by omega)).trans ((ho3 40 (by omega)).trans ((ho2 40 (by omega)).trans ((ho1 40 (by omega)).trans h_40)))))
  refine xj_aload_n (i := 0) d14_20_69 rfl rfl ?_
  refine xj_dup d14_20_70 rfl ?_
  refine xj_get d14_20_71 f14_136_12 ((hoc 24 (by omega)).trans ((ho4 24 (by omega)).trans ((ho3 24 (by omega)).trans ((ho2 24 (by omega)).trans ((ho1 24 (by omega)).trans h_24))))) (by omega) (show 24 < Mc.1 by omega) rfl ?_
  refine xj_iconst (v := 1) d14_20_74 (by decide) ?_
  refine xj_iadd (v := nI (np + 1)) d14_20_75 (nI_1 _) ?_
  refine xj_put (a := 24) (fs' := [.ref 25, .ref 26, .ref 27, .ref 28, .ref 29, .ref 30, .int (nI sn), .int (nI vc), .int (nI tk), .ref 31, .int (nI dl), .ref 32, .int (nI pl), .int (nI (np + 1)), .ref 33, .ref 34, .ref 35, .ref 36, .ref 37, .ref 38, .ref 39, .ref 40, .int (nI a), .int (nI dp), .int y24, .ref 41, .ref 42, .ref 43, .ref 44, .ref 45, .ref 46, .ref 47, .ref 48, .int y33, .ref 49, .ref 50, .int y36, .int y37, .int y38, .int y39, .int (nI hc), .ref 51]) d14_20_76 f14_136_12 ((hoc 24 (by omega)).trans ((ho4 24 (by omega)).trans ((ho3 24 (by omega)).trans ((ho2 24 (by omega)).trans ((ho1 24 (by omega)).trans h_24))))) (by omega) (show 24 < Mc.1 by omega) (Nat.le_of_ble_eq_true rfl) rfl rfl rfl ?_
  refine xj_abs_set (fun M5 hs5 ha5 ho5 => ?_)
  refine xj_aload_n (i := 0) d14_20_79 rfl rfl ?_
  refine xj_get d14_20_80 f14_136_12 ha5 (by omega) (show 24 < M5.1 by omega) rfl ?_
  refine xj_iconst (v := 1) d14_20_83 (by decide) ?_
  refine xj_isub (v := nI np) d14_20_84 (nI_pred np) ?_
  exact xj_ret d14_20_85 (by omega) (by omega) rfl ⟨rfl, (show M5.1 = n by omega), (fun j hj hj0 hj1 hj2 hj3 hj4 hj5 => ((ho5 j (by omega)).trans ((hoc j (by omega)).trans ((ho4 j (by omega)).trans ((ho3 j (by omega)).trans ((ho2 j (by omega)).trans (ho1 j (by omega)))))))), ((ho5 33 (by omega)).trans ((hoc 33 (by omega)).trans ((ho4 33 (by omega)).trans ((ho3 33 (by omega)).trans ((ho2 33 (by omega)).trans ha1))))), ((ho5 39 (by omega)).trans ((hoc 39 (by omega)).trans ((ho4 39 (by omega)).trans ((ho3 39 (by omega)).trans ha2)))), ((ho5 34 (by omega)).trans ((hoc 34 (by omega)).trans ((ho4 34 (by omega)).trans ha3))), ((ho5 35 (by omega)).trans ((hoc 35 (by omega)).trans ha4)), ((ho5 40 (by omega)).trans hac), ha5⟩
set_option maxRecDepth 20000 in
theorem mBare {G : xG} (hg : xGood G) {M : xM} {n : Nat} (hn : M.1 = n) (hx : xn ≤ n) {dl : Nat} {pl : Nat} {vc : Nat} {tk : Nat} {hc : Nat} {sn : Nat} {y24 : Int32} {y33 : Int32} {y36 : Int32} {y37 : Int32} {y38 : Int32} {y39 : Int32} {np : Nat} {a : Nat} {dp : Nat} {fP : Nat → Int32} (h1_24 : xn ≤ 24) (h2_24 : 24 < n) (h_24 : M.2 24 = (.inr (12, [.ref 25, .ref 26, .ref 27, .ref 28, .ref 29, .ref 30, .int (nI sn), .int (nI vc), .int (nI tk), .ref 31, .int (nI dl), .ref 32, .int (nI pl), .int (nI np), .ref 33, .ref 34, .ref 35, .ref 36, .ref 37, .ref 38, .ref 39, .ref 40, .int (nI a), .int (nI dp), .int y24, .ref 41, .ref 42, .ref 43, .ref 44, .ref 45, .ref 46, .ref 47, .ref 48, .int y33, .ref 49, .ref 50, .int y36, .int y37, .int y38, .int y39, .int (nI hc), .ref 51]))) (h1_41 : xn ≤ 41) (h2_41 : 41 < n) (h_41 : M.2 41 = (.inl (0, 7, .inl fP))) (hdp : dp < 7) : XC G Y14_21 (some .boolean) 0 0 0 [.ref 24] M (fun v M' => v = some (.int (xB (fP dp < 0))) ∧ M' = M) := by
  refine xc_of hg (by decide) (Nat.le_of_ble_eq_true rfl) (Or.inr (Or.inl ⟨rfl, rfl, fun v M' h => ⟨_, h.1, xB_01 _⟩⟩)) ?_
  refine xj_aload_n (i := 0) d14_21_0 rfl rfl ?_
  refine xj_get d14_21_1 f14_59_12 h_24 (by omega) (show 24 < M.1 by omega) rfl ?_
  refine xj_aload_n (i := 0) d14_21_4 rfl rfl ?_
  refine xj_get d14_21_5 f14_139_12 h_24 (by omega) (show 24 < M.1 by omega) rfl ?_
  refine xj_iaload (j := dp) d14_21_8 h_41 (by omega) (show 41 < M.1 by omega) (vp_in_nI (by omega) (by omega)) (nI_clamp (by omega)) ?_
  refine xj_if_ge (tgt := 16) d14_21_9 rfl (fun hb => ?_) (fun hb => ?_)
  · refine xj_iconst (v := 0) d14_21_16 (by decide) ?_
    exact xj_ret d14_21_17 (by omega) (by omega) rfl ⟨(by rw [xB_f (Int32.not_lt.mpr hb)]), rfl⟩
  · refine xj_iconst (v := 1) d14_21_12 (by decide) ?_
    refine xj_goto (tgt := 17) d14_21_13 rfl ?_
    exact xj_ret d14_21_17 (by omega) (by omega) rfl ⟨(by rw [xB_t (Int32.not_le.mp hb)]), rfl⟩
set_option maxRecDepth 20000 in
theorem mAddPE {G : xG} (hg : xGood G) {M : xM} {n : Nat} (hn : M.1 = n) (hx : xn ≤ n) {dl : Nat} {pl : Nat} {vc : Nat} {tk : Nat} {hc : Nat} {sn : Nat} {y24 : Int32} {y33 : Int32} {y36 : Int32} {y37 : Int32} {y38 : Int32} {y39 : Int32} {np : Nat} {a : Nat} {dp : Nat} {be : Nat → Int32} {fP : Nat → Int32} {lP : Nat → Int32} {nx : Nat → Int32} {m : Nat} (h1_24 : xn ≤ 24) (h2_24 : 24 < n) (h_24 : M.2 24 = (.inr (12, [.ref 25, .ref 26, .ref 27, .ref 28, .ref 29, .ref 30, .int (nI sn), .int (nI vc), .int (nI tk), .ref 31, .int (nI dl), .ref 32, .int (nI pl), .int (nI np), .ref 33, .ref 34, .ref 35, .ref 36, .ref 37, .ref 38, .ref 39, .ref 40, .int (nI a), .int (nI dp), .int y24, .ref 41, .ref 42, .ref 43, .ref 44, .ref 45, .ref 46, .ref 47, .ref 48, .int y33, .ref 49, .ref 50, .int y36, .int y37, .int y38, .int y39, .int (nI hc), .ref 51]))) (h1_36 : xn ≤ 36) (h2_36 : 36 < n) (h_36 : M.2 36 = (.inl (0, 30, .inl be))) (h1_41 : xn ≤ 41) (h2_41 : 41 < n) (h_41 : M.2 41 = (.inl (0, 7, .inl fP))) (h1_42 : xn ≤ 42) (h2_42 : 42 < n) (h_42 : M.2 42 = (.inl (0, 7, .inl lP))) (h1_35 : xn ≤ 35) (h2_35 : 35 < n) (h_35 : M.2 35 = (.inl (0, 30, .inl nx))) (hxn : xn = 16) (hn2 : 52 ≤ n) (hdp : dp < 7) (hm : m < 30) (hb : fP dp < 0) : XC G Y14_22 none 1 0 0 [.ref 24, .int (nI m)] M (fun v M' => v = none ∧ M'.1 = n ∧ (∀ j, j < n → j ≠ 36 → j ≠ 41 → j ≠ 42 → M'.2 j = M.2 j) ∧ M'.2 36 = (.inl (0, 30, .inl (upd be m (lP dp)))) ∧ M'.2 41 = (.inl (0, 7, .inl (upd fP dp (nI m)))) ∧ M'.2 42 = (.inl (0, 7, .inl (upd lP dp (nI m))))) := by
  refine xc_of hg (by decide) (Nat.le_of_ble_eq_true rfl) (Or.inr (Or.inr (Or.inr (Or.inr (Or.inl ⟨rfl, rfl, fun v M' h => h.1⟩))))) ?_
  refine xj_aload_n (i := 0) d14_22_0 rfl rfl ?_
  refine xj_get d14_22_1 f14_44_12 h_24 (by omega) (show 24 < M.1 by omega) rfl ?_
  refine xj_iload_n (i := 1) d14_22_4 rfl rfl ?_
  refine xj_aload_n (i := 0) d14_22_5 rfl rfl ?_
  refine xj_get d14_22_6 f14_62_12 h_24 (by omega) (show 24 < M.1 by omega) rfl ?_
  refine xj_aload_n (i := 0) d14_22_9 rfl rfl ?_
  refine xj_get d14_22_10 f14_139_12 h_24 (by omega) (show 24 < M.1 by omega) rfl ?_
  refine xj_iaload (j := dp) d14_22_13 h_42 (by omega) (show 42 < M.1 by omega) (vp_in_nI (by omega) (by omega)) (nI_clamp (by omega)) ?_
  refine xj_iastore (j := m) (x' := lP dp) d14_22_14 h_36 (by omega) (show 36 < M.1 by omega) (vp_in_nI (by omega) (by omega)) (nI_clamp (by omega)) rfl ?_
  refine xj_abs_set (fun M1 hs1 ha1 ho1 => ?_)
  refine xj_aload_n (i := 0) d14_22_15 rfl rfl ?_
  refine xj_callV (rest := []) (As := []) (b := 24) (mBare hg (M := M1) (n := n) (dl := dl) (pl := pl) (vc := vc) (tk := tk) (hc := hc) (sn := sn) (y24 := y24) (y33 := y33) (y36 := y36) (y37 := y37) (y38 := y38) (y39 := y39) (np := np) (a := a) (dp := dp) (fP := fP) (show M1.1 = n by omega) (by omega) (by omega) (by omega) ((ho1 24 (by omega)).trans h_24) (by omega) (by omega) ((ho1 41 (by omega)).trans h_41) hdp) d14_22_16 wd14_21 ((ho1 24 (by omega)).trans h_24) (by omega) (show 24 < M1.1 by omega) rfl s14_21 w1224 (Or.inl w1222) rfl rfl (Nat.le_of_ble_eq_true rfl) (by omega) (by omega) (by omega) ?_
  rintro v M' ⟨rfl, hm⟩
  subst M'
  refine xj_if_eq (tgt := 35) d14_22_19 rfl (fun h => absurd h (by rw [xB_t hb]; decide)) (fun _ => ?_)
  refine xj_aload_n (i := 0) d14_22_22 rfl rfl ?_
  refine xj_get d14_22_23 f14_59_12 ((ho1 24 (by omega)).trans h_24) (by omega) (show 24 < M1.1 by omega) rfl ?_
  refine xj_aload_n (i := 0) d14_22_26 rfl rfl ?_
  refine xj_get d14_22_27 f14_139_12 ((ho1 24 (by omega)).trans h_24) (by omega) (show 24 < M1.1 by omega) rfl ?_
  refine xj_iload_n (i := 1) d14_22_30 rfl rfl ?_
  refine xj_iastore (j := dp) (x' := nI m) d14_22_31 ((ho1 41 (by omega)).trans h_41) (by omega) (show 41 < M1.1 by omega) (vp_in_nI (by omega) (by omega)) (nI_clamp (by omega)) rfl ?_
  refine xj_abs_set (fun M2 hs2 ha2 ho2 => ?_)
  refine xj_goto (tgt := 50) d14_22_32 rfl ?_
  refine xj_aload_n (i := 0) d14_22_50 rfl rfl ?_
  refine xj_get d14_22_51 f14_62_12 ((ho2 24 (by omega)).trans ((ho1 24 (by omega)).trans h_24)) (by omega) (show 24 < M2.1 by omega) rfl ?_
  refine xj_aload_n (i := 0) d14_22_54 rfl rfl ?_
  refine xj_get d14_22_55 f14_139_12 ((ho2 24 (by omega)).trans ((ho1 24 (by omega)).trans h_24)) (by omega) (show 24 < M2.1 by omega) rfl ?_
  refine xj_iload_n (i := 1) d14_22_58 rfl rfl ?_
  refine xj_iastore (j := dp) (x' := nI m) d14_22_59 ((ho2 42 (by omega)).trans ((ho1 42 (by omega)).trans h_42)) (by omega) (show 42 < M2.1 by omega) (vp_in_nI (by omega) (by omega)) (nI_clamp (by omega)) rfl ?_
  refine xj_abs_set (fun M3 hs3 ha3 ho3 => ?_)
  exact xj_ret d14_22_60 (by omega) (by omega) rfl ⟨rfl, (show M3.1 = n by omega), (fun j hj hj0 hj1 hj2 => ((ho3 j (by omega)).trans ((ho2 j (by omega)).trans (ho1 j (by omega))))), ((ho3 36 (by omega)).trans ((ho2 36 (by omega)).trans ha1)), ((ho3 41 (by omega)).trans ha2), ha3⟩
set_option maxRecDepth 20000 in
theorem mAddPN {G : xG} (hg : xGood G) {M : xM} {n : Nat} (hn : M.1 = n) (hx : xn ≤ n) {dl : Nat} {pl : Nat} {vc : Nat} {tk : Nat} {hc : Nat} {sn : Nat} {y24 : Int32} {y33 : Int32} {y36 : Int32} {y37 : Int32} {y38 : Int32} {y39 : Int32} {np : Nat} {a : Nat} {dp : Nat} {be : Nat → Int32} {fP : Nat → Int32} {lP : Nat → Int32} {nx : Nat → Int32} {m : Nat} {ll : Nat} (h1_24 : xn ≤ 24) (h2_24 : 24 < n) (h_24 : M.2 24 = (.inr (12, [.ref 25, .ref 26, .ref 27, .ref 28, .ref 29, .ref 30, .int (nI sn), .int (nI vc), .int (nI tk), .ref 31, .int (nI dl), .ref 32, .int (nI pl), .int (nI np), .ref 33, .ref 34, .ref 35, .ref 36, .ref 37, .ref 38, .ref 39, .ref 40, .int (nI a), .int (nI dp), .int y24, .ref 41, .ref 42, .ref 43, .ref 44, .ref 45, .ref 46, .ref 47, .ref 48, .int y33, .ref 49, .ref 50, .int y36, .int y37, .int y38, .int y39, .int (nI hc), .ref 51]))) (h1_36 : xn ≤ 36) (h2_36 : 36 < n) (h_36 : M.2 36 = (.inl (0, 30, .inl be))) (h1_41 : xn ≤ 41) (h2_41 : 41 < n) (h_41 : M.2 41 = (.inl (0, 7, .inl fP))) (h1_42 : xn ≤ 42) (h2_42 : 42 < n) (h_42 : M.2 42 = (.inl (0, 7, .inl lP))) (h1_35 : xn ≤ 35) (h2_35 : 35 < n) (h_35 : M.2 35 = (.inl (0, 30, .inl nx))) (hxn : xn = 16) (hn2 : 52 ≤ n) (hdp : dp < 7) (hm : m < 30) (hb : ¬ fP dp < 0) (hll : lP dp = nI ll) (hl30 : ll < 30) : XC G Y14_22 none 1 0 0 [.ref 24, .int (nI m)] M (fun v M' => v = none ∧ M'.1 = n ∧ (∀ j, j < n → j ≠ 36 → j ≠ 35 → j ≠ 42 → M'.2 j = M.2 j) ∧ M'.2 36 = (.inl (0, 30, .inl (upd be m (nI ll)))) ∧ M'.2 35 = (.inl (0, 30, .inl (upd nx ll (nI m)))) ∧ M'.2 42 = (.inl (0, 7, .inl (upd lP dp (nI m))))) := by
  refine xc_of hg (by decide) (Nat.le_of_ble_eq_true rfl) (Or.inr (Or.inr (Or.inr (Or.inr (Or.inl ⟨rfl, rfl, fun v M' h => h.1⟩))))) ?_
  refine xj_aload_n (i := 0) d14_22_0 rfl rfl ?_
  refine xj_get d14_22_1 f14_44_12 h_24 (by omega) (show 24 < M.1 by omega) rfl ?_
  refine xj_iload_n (i := 1) d14_22_4 rfl rfl ?_
  refine xj_aload_n (i := 0) d14_22_5 rfl rfl ?_
  refine xj_get d14_22_6 f14_62_12 h_24 (by omega) (show 24 < M.1 by omega) rfl ?_
  refine xj_aload_n (i := 0) d14_22_9 rfl rfl ?_
  refine xj_get d14_22_10 f14_139_12 h_24 (by omega) (show 24 < M.1 by omega) rfl ?_
  refine xj_iaload (j := dp) d14_22_13 h_42 (by omega) (show 42 < M.1 by omega) (vp_in_nI (by omega) (by omega)) (nI_clamp (by omega)) ?_
  rw [show lP dp = nI ll from hll]
  refine xj_iastore (j := m) (x' := nI ll) d14_22_14 h_36 (by omega) (show 36 < M.1 by omega) (vp_in_nI (by omega) (by omega)) (nI_clamp (by omega)) rfl ?_
  refine xj_abs_set (fun M1 hs1 ha1 ho1 => ?_)
  refine xj_aload_n (i := 0) d14_22_15 rfl rfl ?_
  refine xj_callV (rest := []) (As := []) (b := 24) (mBare hg (M := M1) (n := n) (dl := dl) (pl := pl) (vc := vc) (tk := tk) (hc := hc) (sn := sn) (y24 := y24) (y33 := y33) (y36 := y36) (y37 := y37) (y38 := y38) (y39 := y39) (np := np) (a := a) (dp := dp) (fP := fP) (show M1.1 = n by omega) (by omega) (by omega) (by omega) ((ho1 24 (by omega)).trans h_24) (by omega) (by omega) ((ho1 41 (by omega)).trans h_41) hdp) d14_22_16 wd14_21 ((ho1 24 (by omega)).trans h_24) (by omega) (show 24 < M1.1 by omega) rfl s14_21 w1224 (Or.inl w1222) rfl rfl (Nat.le_of_ble_eq_true rfl) (by omega) (by omega) (by omega) ?_
  rintro v M' ⟨rfl, hm⟩
  subst M'
  refine xj_if_eq (tgt := 35) d14_22_19 rfl (fun _ => ?_) (fun h => absurd (xB_f hb) h)
  refine xj_aload_n (i := 0) d14_22_35 rfl rfl ?_
  refine xj_get d14_22_36 f14_41_12 ((ho1 24 (by omega)).trans h_24) (by omega) (show 24 < M1.1 by omega) rfl ?_
  refine xj_aload_n (i := 0) d14_22_39 rfl rfl ?_
  refine xj_get d14_22_40 f14_62_12 ((ho1 24 (by omega)).trans h_24) (by omega) (show 24 < M1.1 by omega) rfl ?_
  refine xj_aload_n (i := 0) d14_22_43 rfl rfl ?_
  refine xj_get d14_22_44 f14_139_12 ((ho1 24 (by omega)).trans h_24) (by omega) (show 24 < M1.1 by omega) rfl ?_
  refine xj_iaload (j := dp) d14_22_47 ((ho1 42 (by omega)).trans h_42) (by omega) (show 42 < M1.1 by omega) (vp_in_nI (by omega) (by omega)) (nI_clamp (by omega)) ?_
  rw [show lP dp = nI ll from hll]
  refine xj_iload_n (i := 1) d14_22_48 rfl rfl ?_
  refine xj_iastore (j := ll) (x' := nI m) d14_22_49 ((ho1 35 (by omega)).trans h_35) (by omega) (show 35 < M1.1 by omega) (vp_in_nI (by omega) (by omega)) (nI_clamp (by omega)) rfl ?_
  refine xj_abs_set (fun M2 hs2 ha2 ho2 => ?_)
  refine xj_aload_n (i := 0) d14_22_50 rfl rfl ?_
  refine xj_get d14_22_51 f14_62_12 ((ho2 24 (by omega)).trans ((ho1 24 (by omega)).trans h_24)) (by omega) (show 24 < M2.1 by omega) rfl ?_
  refine xj_aload_n (i := 0) d14_22_54 rfl rfl ?_
  refine xj_get d14_22_55 f14_139_12 ((ho2 24 (by omega)).trans ((ho1 24 (by omega)).trans h_24)) (by omega) (show 24 < M2.1 by omega) rfl ?_
  refine xj_iload_n (i := 1) d14_22_58 rfl rfl ?_
  refine xj_iastore (j := dp) (x' := nI m) d14_22_59 ((ho2 42 (by omega)).trans ((ho1 42 (by omega)).trans h_42)) (by omega) (show 42 < M2.1 by omega) (vp_in_nI (by omega) (by omega)) (nI_clamp (by omega)) rfl ?_
  refine xj_abs_set (fun M3 hs3 ha3 ho3 => ?_)
  exact xj_ret d14_22_60 (by omega) (by omega) rfl ⟨rfl, (show M3.1 = n by omega), (fun j hj hj0 hj1 hj2 => ((ho3 j (by omega)).trans ((ho2 j (by omega)).trans (ho1 j (by omega))))), ((ho3 36 (by omega)).trans ((ho2 36 (by omega)).trans ha1)), ((ho3 35 (by omega)).trans ha2), ha3⟩
set_option maxRecDepth 20000 in
theorem mBegin {G : xG} (hg : xGood G) {M : xM} {n : Nat} (hn : M.1 = n) (hx : xn ≤ n) {dl : Nat} {pl : Nat} {vc : Nat} {tk : Nat} {hc : Nat} {sn : Nat} {y24 : Int32} {y33 : Int32} {y36 : Int32} {y37 : Int32} {y38 : Int32} {y39 : Int32} {np : Nat} {a : Nat} {dp : Nat} {fP : Nat → Int32} {lP : Nat → Int32} {fB : Nat → Int32} {lB : Nat → Int32} (h1_24 : xn ≤ 24) (h2_24 : 24 < n) (h_24 : M.2 24 = (.inr (12, [.ref 25, .ref 26, .ref 27, .ref 28, .ref 29, .ref 30, .int (nI sn), .int (nI vc), .int (nI tk), .ref 31, .int (nI dl), .ref 32, .int (nI pl), .int (nI np), .ref 33, .ref 34, .ref 35, .ref 36, .ref 37, .ref 38, .ref 39, .ref 40, .int (nI a), .int (nI dp), .int y24, .ref 41, .ref 42, .ref 43, .ref 44, .ref 45, .ref 46, .ref 47, .ref 48, .int y33, .ref 49, .ref 50, .int y36, .int y37, .int y38, .int y39, .int (nI hc), .ref 51]))) (h1_41 : xn ≤ 41) (h2_41 : 41 < n) (h_41 : M.2 41 = (.inl (0, 7, .inl fP))) (h1_42 : xn ≤ 42) (h2_42 : 42 < n) (h_42 : M.2 42 = (.inl (0, 7, .inl lP))) (h1_43 : xn ≤ 43) (h2_43 : 43 < n) (h_43 : M.2 43 = (.inl (0, 7, .inl fB))) (h1_44 : xn ≤ 44) (h2_44 : 44 < n) (h_44 : M.2 44 = (.inl (0, 7, .inl lB))) (hxn : xn = 16) (hn2 : 52 ≤ n) (hdp : dp < 7) : XC G Y14_23 none 0 0 0 [.ref 24] M (fun v M' => v = none ∧ M'.1 = n ∧ (∀ j, j < n → j ≠ 41 → j ≠ 42 → j ≠ 43 → j ≠ 44 → M'.2 j = M.2 j) ∧ M'.2 41 = (.inl (0, 7, .inl (upd fP dp (-1)))) ∧ M'.2 42 = (.inl (0, 7, .inl (upd lP dp (-1)))) ∧ M'.2 43 = (.inl (0, 7, .inl (upd fB dp (-1)))) ∧ M'.2 44 = (.inl (0, 7, .inl (upd lB dp (-1))))) := by
  refine xc_of hg (by decide) (Nat.le_of_ble_eq_true rfl) (Or.inr (Or.inr (Or.inr (Or.inr (Or.inl ⟨rfl, rfl, fun v M' h => h.1⟩))))) ?_
  refine xj_aload_n (i := 0) d14_23_0 rfl rfl ?_
  refine xj_get d14_23_1 f14_59_12 h_24 (by omega) (show 24 < M.1 by omega) rfl ?_
  refine xj_aload_n (i := 0) d14_23_4 rfl rfl ?_
  refine xj_get d14_23_5 f14_139_12 h_24 (by omega) (show 24 < M.1 by omega) rfl ?_
  refine xj_iconst (v := (-1)) d14_23_8 (by decide) ?_
  refine xj_iastore (j := dp) (x' := (-1)) d14_23_9 h_41 (by omega) (show 41 < M.1 by omega) (vp_in_nI (by omega) (by omega)) (nI_clamp (by omega)) rfl ?_
  refine xj_abs_set (fun M1 hs1 ha1 ho1 => ?_)
  refine xj_aload_n (i := 0) d14_23_10 rfl rfl ?_
  refine xj_get d14_23_11 f14_62_12 ((ho1 24 (by omega)).trans h_24) (by omega) (show 24 < M1.1 by omega) rfl ?_
  refine xj_aload_n (i := 0) d14_23_14 rfl rfl ?_
  refine xj_get d14_23_15 f14_139_12 ((ho1 24 (by omega)).trans h_24) (by omega) (show 24 < M1.1 by omega) rfl ?_
  refine xj_iconst (v := (-1)) d14_23_18 (by decide) ?_
  refine xj_iastore (j := dp) (x' := (-1)) d14_23_19 ((ho1 42 (by omega)).trans h_42) (by omega) (show 42 < M1.1 by omega) (vp_in_nI (by omega) (by omega)) (nI_clamp (by omega)) rfl ?_
  refine xj_abs_set (fun M2 hs2 ha2 ho2 => ?_)
  refine xj_aload_n (i := 0) d14_23_20 rfl rfl ?_
  refine xj_get d14_23_21 f14_65_12 ((ho2 24 (by omega)).trans ((ho1 24 (by omega)).trans h_24)) (by omega) (show 24 < M2.1 by omega) rfl ?_
  refine xj_aload_n (i := 0) d14_23_24 rfl rfl ?_
  refine xj_get d14_23_25 f14_139_12 ((ho2 24 (by omega)).trans ((ho1 24 (by omega)).trans h_24)) (by omega) (show 24 < M2.1 by omega) rfl ?_
  refine xj_iconst (v := (-1)) d14_23_28 (by decide) ?_
  refine xj_iastore (j := dp) (x' := (-1)) d14_23_29 ((ho2 43 (by omega)).trans ((ho1 43 (by omega)).trans h_43)) (by omega) (show 43 < M2.1 by omega) (vp_in_nI (by omega) (by omega)) (nI_clamp (by omega)) rfl ?_
  refine xj_abs_set (fun M3 hs3 ha3 ho3 => ?_)
  refine xj_aload_n (i := 0) d14_23_30 rfl rfl ?_
  refine xj_get d14_23_31 f14_68_12 ((ho3 24 (by omega)).trans ((ho2 24 (by omega)).trans ((ho1 24 (by omega)).trans h_24))) (by omega) (show 24 < M3.1 by omega) rfl ?_
  refine xj_aload_n (i := 0) d14_23_34 rfl rfl ?_
  refine xj_get d14_23_35 f14_139_12 ((ho3 24 (by omega)).trans ((ho2 24 (by omega)).trans ((ho1 24 (by omega)).trans h_24))) (by omega) (show 24 < M3.1 by omega) rfl ?_
  refine xj_iconst (v := (-1)) d14_23_38 (by decide) ?_
  refine xj_iastore (j := dp) (x' := (-1)) d14_23_39 ((ho3 44 (by omega)).trans ((ho2 44 (by omega)).trans ((ho1 44 (by omega)).trans h_44))) (by omega) (show 44 < M3.1 by omega) (vp_in_nI (by omega) (by omega)) (nI_clamp (by omega)) rfl ?_
  refine xj_abs_set (fun M4 hs4 ha4 ho4 => ?_)
  exact xj_ret d14_23_40 (by omega) (by omega) rfl ⟨rfl, (show M4.1 = n by omega), (fun j hj hj0 hj1 hj2 hj3 => ((ho4 j (by omega)).trans ((ho3 j (by omega)).trans ((ho2 j (by omega)).trans (ho1 j (by omega)))))), ((ho4 41 (by omega)).trans ((ho3 41 (by omega)).trans ((ho2 41 (by omega)).trans ha1))), ((ho4 42 (by omega)).trans ((ho3 42 (by omega)).trans ha2)), ((ho4 43 (by omega)).trans ha3), ha4⟩
theorem mEndL {G : xG} (hxn : xn = 16) {M : xM} {n : Nat} (hn : M.1 = n) (hn2 : 52 ≤ n) {dl : Nat} {pl : Nat} {vc : Nat} {tk : Nat} {hc : Nat} {sn : Nat} {y24 : Int32} {y33 : Int32} {y36 : Int32} {y37 : Int32} {y38 : Int32} {y39 : Int32} {np : Nat} {a : Nat} {dp : Nat} {wt nx : Nat → Int32} (h_24 : M.2 24 = (.inr (12, [.ref 25, .ref 26, .ref 27, .ref 28, .ref 29, .ref 30, .int (nI sn), .int (nI vc), .int (nI tk), .ref 31, .int (nI dl), .ref 32, .int (nI pl), .int (nI np), .ref 33, .ref 34, .ref 35, .ref 36, .ref 37, .ref 38, .ref 39, .ref 40, .int (nI a), .int (nI dp), .int y24, .ref 41, .ref 42, .ref 43, .ref 44, .ref 45, .ref 46, .ref 47, .ref 48, .int y33, .ref 49, .ref 50, .int y36, .int y37, .int y38, .int y39, .int (nI hc), .ref 51]))) (h_39 : M.2 39 = (.inl (0, 30, .inl wt))) (h_35 : M.2 35 = (.inl (0, 30, .inl nx))) {d ce se cells slots : Nat} {Post : Option Value → xM → Prop} : ∀ (l : List Nat) (p w : Int32), xCn nx p l → (∀ c ∈ l, c < 30) → XJ G Y14_24 d ce se cells slots 35 [(2, .int (-1)), (1, .int (List.foldl (fun w p => w + wt p) w l)), (0, .ref 24)] [] M Post → XJ G Y14_24 d ce se cells slots 12 [(2, .int p), (1, .int w), (0, .ref 24)] [] M Post := by
  intro l
  induction l with
  | nil =>
    intro p w hc hl K
    have hp : p = -1 := hc
    subst hp
    refine xj_iload_n (i := 2) d14_24_12 rfl rfl ?_
    refine xj_if_lt (tgt := 35) d14_24_13 rfl (fun _ => ?_) (fun h => absurd (by decide) h)
    exact K
  | cons a2 l ih =>
    intro p w hc hl K
    have hp : p = nI a2 := hc.1
    subst hp
    have ha2 := hl a2 List.mem_cons_self
    refine xj_iload_n (i := 2) d14_24_12 rfl rfl ?_
    refine xj_if_lt (tgt := 35) d14_24_13 rfl (fun h => absurd h (nI_nlt (a := a2) (b := 0) (by omega) (by omega))) (fun _ => ?_)
    refine xj_iload_n (i := 1) d14_24_16 rfl rfl ?_
    refine xj_aload_n (i := 0) d14_24_17 rfl rfl ?_
    refine xj_get d14_24_18 f14_53_12 h_24 (by omega) (show 24 < M.1 by omega) rfl ?_
    refine xj_iload_n (i := 2) d14_24_21 rfl rfl ?_
    refine xj_iaload (j := a2) d14_24_22 h_39 (by omega) (show 39 < M.1 by omega) (vp_in_nI (by omega) (by omega)) (nI_clamp (by omega)) ?_
    refine xj_iadd (v := w + (wt a2)) d14_24_23 rfl ?_
    refine xj_istore_n (i := 1) (L' := [(1, .int (w + (wt a2))), (2, .int (nI a2)), (0, .ref 24)]) d14_24_24 rfl (by decide) rfl ?_
    refine xj_aload_n (i := 0) d14_24_25 rfl rfl ?_
    refine xj_get d14_24_26 f14_41_12 h_24 (by omega) (show 24 < M.1 by omega) rfl ?_
    refine xj_iload_n (i := 2) d14_24_29 rfl rfl ?_
    refine xj_iaload (j := a2) d14_24_30 h_35 (by omega) (show 35 < M.1 by omega) (vp_in_nI (by omega) (by omega)) (nI_clamp (by omega)) ?_
    refine xj_istore_n (i := 2) (L' := [(2, .int (nx a2)), (1, .int (w + (wt a2))), (0, .ref 24)]) d14_24_31 rfl (by decide) rfl ?_
    refine xj_goto (tgt := 12) d14_24_32 rfl ?_
    exact ih (nx a2) (w + wt a2) hc.2 (fun c hc2 => hl c (List.mem_cons_of_mem _ hc2)) K
theorem mWhoL {G : xG} (hxn : xn = 16) {M : xM} {n : Nat} (hn : M.1 = n) (hn2 : 52 ≤ n) {dl : Nat} {pl : Nat} {vc : Nat} {tk : Nat} {hc : Nat} {sn : Nat} {y24 : Int32} {y33 : Int32} {y36 : Int32} {y37 : Int32} {y38 : Int32} {y39 : Int32} {np : Nat} {a : Nat} {dp : Nat} {wt nx : Nat → Int32} (h_24 : M.2 24 = (.inr (12, [.ref 25, .ref 26, .ref 27, .ref 28, .ref 29, .ref 30, .int (nI sn), .int (nI vc), .int (nI tk), .ref 31, .int (nI dl), .ref 32, .int (nI pl), .int (nI np), .ref 33, .ref 34, .ref 35, .ref 36, .ref 37, .ref 38, .ref 39, .ref 40, .int (nI a), .int (nI dp), .int y24, .ref 41, .ref 42, .ref 43, .ref 44, .ref 45, .ref 46, .ref 47, .ref 48, .int y33, .ref 49, .ref 50, .int y36, .int y37, .int y38, .int y39, .int (nI hc), .ref 51]))) (h_39 : M.2 39 = (.inl (0, 30, .inl wt))) (h_35 : M.2 35 = (.inl (0, 30, .inl nx))) {d ce se cells slots : Nat} {Post : Option Value → xM → Prop} : ∀ (l : List Nat) (p w : Int32), xCn nx p l → (∀ c ∈ l, c < 30) → XJ G Y14_25 d ce se cells slots 37 [(2, .int (-1)), (1, .int (List.foldl (fun w p => w + 1 + wt p) w l)), (0, .ref 24)] [] M Post → XJ G Y14_25 d ce se cells slots 12 [(2, .int p), (1, .int w), (0, .ref 24)] [] M Post := by
  intro l
  induction l with
  | nil =>
    intro p w hc hl K
    have hp : p = -1 := hc
    subst hp
    refine xj_iload_n (i := 2) d14_25_12 rfl rfl ?_
    refine xj_if_lt (tgt := 37) d14_25_13 rfl (fun _ => ?_) (fun h => absurd (by decide) h)
    exact K
  | cons a2 l ih =>
    intro p w hc hl K
    have hp : p = nI a2 := hc.1
    subst hp
    have ha2 := hl a2 List.mem_cons_self
    refine xj_iload_n (i := 2) d14_25_12 rfl rfl ?_
    refine xj_if_lt (tgt := 37) d14_25_13 rfl (fun h => absurd h (nI_nlt (a := a2) (b := 0) (by omega) (by omega))) (fun _ => ?_)
    refine xj_iload_n (i := 1) d14_25_16 rfl rfl ?_
    refine xj_iconst (v := 1) d14_25_17 (by decide) ?_
    refine xj_iadd (v := w + 1) d14_25_18 rfl ?_
    refine xj_aload_n (i := 0) d14_25_19 rfl rfl ?_
    refine xj_get d14_25_20 f14_53_12 h_24 (by omega) (show 24 < M.1 by omega) rfl ?_
    refine xj_iload_n (i := 2) d14_25_23 rfl rfl ?_
    refine xj_iaload (j := a2) d14_25_24 h_39 (by omega) (show 39 < M.1 by omega) (vp_in_nI (by omega) (by omega)) (nI_clamp (by omega)) ?_
    refine xj_iadd (v := (w + 1) + (wt a2)) d14_25_25 rfl ?_
    refine xj_istore_n (i := 1) (L' := [(1, .int ((w + 1) + (wt a2))), (2, .int (nI a2)), (0, .ref 24)]) d14_25_26 rfl (by decide) rfl ?_
    refine xj_aload_n (i := 0) d14_25_27 rfl rfl ?_
    refine xj_get d14_25_28 f14_41_12 h_24 (by omega) (show 24 < M.1 by omega) rfl ?_
    refine xj_iload_n (i := 2) d14_25_31 rfl rfl ?_
    refine xj_iaload (j := a2) d14_25_32 h_35 (by omega) (show 35 < M.1 by omega) (vp_in_nI (by omega) (by omega)) (nI_clamp (by omega)) ?_
    refine xj_istore_n (i := 2) (L' := [(2, .int (nx a2)), (1, .int ((w + 1) + (wt a2))), (0, .ref 24)]) d14_25_33 rfl (by decide) rfl ?_
    refine xj_goto (tgt := 12) d14_25_34 rfl ?_
    exact ih (nx a2) (w + 1 + wt a2) hc.2 (fun c hc2 => hl c (List.mem_cons_of_mem _ hc2)) K
set_option maxRecDepth 20000 in
theorem mEndBE {G : xG} (hg : xGood G) {M : xM} {n : Nat} (hn : M.1 = n) (hx : xn ≤ n) {dl : Nat} {pl : Nat} {vc : Nat} {tk : Nat} {hc : Nat} {sn : Nat} {y24 : Int32} {y33 : Int32} {y36 : Int32} {y37 : Int32} {y38 : Int32} {y39 : Int32} {np : Nat} {a : Nat} {dp : Nat} {kd : Nat → Int32} {ch : Nat → Int32} {nx : Nat → Int32} {wt : Nat → Int32} {cs : Nat → Int32} {fP : Nat → Int32} {lP : Nat → Int32} {fB : Nat → Int32} {lB : Nat → Int32} {l : List Nat} (h1_24 : xn ≤ 24) (h2_24 : 24 < n) (h_24 : M.2 24 = (.inr (12, [.ref 25, .ref 26, .ref 27, .ref 28, .ref 29, .ref 30, .int (nI sn), .int (nI vc), .int (nI tk), .ref 31, .int (nI dl), .ref 32, .int (nI pl), .int (nI np), .ref 33, .ref 34, .ref 35, .ref 36, .ref 37, .ref 38, .ref 39, .ref 40, .int (nI a), .int (nI dp), .int y24, .ref 41, .ref 42, .ref 43, .ref 44, .ref 45, .ref 46, .ref 47, .ref 48, .int y33, .ref 49, .ref 50, .int y36, .int y37, .int y38, .int y39, .int (nI hc), .ref 51]))) (h1_33 : xn ≤ 33) (h2_33 : 33 < n) (h_33 : M.2 33 = (.inl (0, 30, .inl kd))) (h1_34 : xn ≤ 34) (h2_34 : 34 < n) (h_34 : M.2 34 = (.inl (0, 30, .inl ch))) (h1_35 : xn ≤ 35) (h2_35 : 35 < n) (h_35 : M.2 35 = (.inl (0, 30, .inl nx))) (h1_39 : xn ≤ 39) (h2_39 : 39 < n) (h_39 : M.2 39 = (.inl (0, 30, .inl wt))) (h1_40 : xn ≤ 40) (h2_40 : 40 < n) (h_40 : M.2 40 = (.inl (2, 2850, .inl cs))) (h1_41 : xn ≤ 41) (h2_41 : 41 < n) (h_41 : M.2 41 = (.inl (0, 7, .inl fP))) (h1_42 : xn ≤ 42) (h2_42 : 42 < n) (h_42 : M.2 42 = (.inl (0, 7, .inl lP))) (h1_43 : xn ≤ 43) (h2_43 : 43 < n) (h_43 : M.2 43 = (.inl (0, 7, .inl fB))) (h1_44 : xn ≤ 44) (h2_44 : 44 < n) (h_44 : M.2 44 = (.inl (0, 7, .inl lB))) (hxn : xn = 16) (hn2 : 52 ≤ n) (hdp : dp < 7) (hnp : np < 30) (hcn : xCn nx (fP dp) l) (hl : ∀ c ∈ l, c < 30) (hfB : fB dp = -1) : XC G Y14_24 none 1 0 0 [.ref 24] M (fun v M' => v = none ∧ M'.1 = n ∧ (∀ j, j < n → j ≠ 33 → j ≠ 39 → j ≠ 34 → j ≠ 35 → j ≠ 40 → j ≠ 24 → j ≠ 43 → j ≠ 44 → j ≠ 41 → j ≠ 42 → M'.2 j = M.2 j) ∧ M'.2 33 = (.inl (0, 30, .inl (upd kd np 5))) ∧ M'.2 39 = (.inl (0, 30, .inl (upd wt np (List.foldl (fun w p => w + wt p) 0 l)))) ∧ M'.2 34 = (.inl (0, 30, .inl (upd (upd ch np (-1)) np (fP dp)))) ∧ M'.2 35 = (.inl (0, 30, .inl (upd nx np (-1)))) ∧ M'.2 40 = (.inl (2, 2850, .inl (va_cpy (fun _ => 0) cs 0 (95 * np) 95))) ∧ M'.2 24 = (.inr (12, [.ref 25, .ref 26, .ref 27, .ref 28, .ref 29, .ref 30, .int (nI sn), .int (nI vc), .int (nI tk), .ref 31, .int (nI dl), .ref 32, .int (nI pl), .int (nI (np + 1)), .ref 33, .ref 34, .ref 35, .ref 36, .ref 37, .ref 38, .ref 39, .ref 40, .int (nI a), .int (nI dp), .int y24, .ref 41, .ref 42, .ref 43, .ref 44, .ref 45, .ref 46, .ref 47, .ref 48, .int y33, .ref 49, .ref 50, .int y36, .int y37, .int y38, .int y39, .int (nI hc), .ref 51])) ∧ M'.2 43 = (.inl (0, 7, .inl (upd fB dp (nI np)))) ∧ M'.2 44 = (.inl (0, 7, .inl (upd lB dp (nI np)))) ∧ M'.2 41 = (.inl (0, 7, .inl (upd fP dp (-1)))) ∧ M'.2 42 = (.inl (0, 7, .inl (upd lP dp (-1))))) := by
  refine xc_of hg (by decide) (Nat.le_of_ble_eq_true rfl) (Or.inr (Or.inr (Or.inr (Or.inr (Or.inl ⟨rfl, rfl, fun v M' h => h.1⟩))))) ?_
  refine xj_iconst (v := 0) d14_24_0 (by decide) ?_
  refine xj_istore_n (i := 1) (L' := [(1, .int 0), (0, .ref 24)]) d14_24_1 rfl (by decide) rfl ?_
  refine xj_aload_n (i := 0) d14_24_2 rfl rfl ?_
  refine xj_get d14_24_3 f14_59_12 h_24 (by omega) (show 24 < M.1 by omega) rfl ?_
  refine xj_aload_n (i := 0) d14_24_6 rfl rfl ?_
  refine xj_get d14_24_7 f14_139_12 h_24 (by omega) (show 24 < M.1 by omega) rfl ?_
  refine xj_iaload (j := dp) d14_24_10 h_41 (by omega) (show 41 < M.1 by omega) (vp_in_nI (by omega) (by omega)) (nI_clamp (by omega)) ?_
  refine xj_istore_n (i := 2) (L' := [(2, .int (fP dp)), (1, .int 0), (0, .ref 24)]) d14_24_11 rfl (by decide) rfl ?_
  refine mEndL hxn (show M.1 = n by omega) hn2 h_24 h_39 h_35 l (fP dp) 0 hcn hl ?_
  refine xj_aload_n (i := 0) d14_24_35 rfl rfl ?_
  refine xj_iconst (v := 5) d14_24_36 (by decide) ?_
  refine xj_iload_n (i := 1) d14_24_37 rfl rfl ?_
  refine xj_callV (rest := []) (As := [.int 5, .int (List.foldl (fun w p => w + wt p) 0 l)]) (b := 24) (mPart hg (M := M) (n := n) (dl := dl) (pl := pl) (vc := vc) (tk := tk) (hc := hc) (sn := sn) (y24 := y24) (y33 := y33) (y36 := y36) (y37 := y37) (y38 := y38) (y39 := y39) (np := np) (a := a) (dp := dp) (kd := kd) (wt := wt) (ch := ch) (nx := nx) (cs := cs) (kk := 5) (w := List.foldl (fun w p => w + wt p) 0 l) (show M.1 = n by omega) (by omega) (by omega) (by omega) h_24 (by omega) (by omega) h_33 (by omega) (by omega) h_39 (by omega) (by omega) h_34 (by omega) (by omega) h_35 (by omega) (by omega) h_40 hxn hn2 (by omega)) d14_24_38 wd14_20 h_24 (by omega) (show 24 < M.1 by omega) rfl s14_20 w1232 (Or.inl w1230) rfl rfl (Nat.le_of_ble_eq_true rfl) (by omega) (by omega) (by omega) ?_
  rintro v M1 ⟨rfl, hs1, ho1, hf1_0, hf1_1, hf1_2, hf1_3, hf1_4, hf1_5⟩
  replace hs1 : M1.1 = n := hs1
  replace hf1_0 : M1.2 33 = (.inl (0, 30, .inl (upd kd np 5))) := hf1_0
  replace hf1_1 : M1.2 39 = (.inl (0, 30, .inl (upd wt np (List.foldl (fun w p => w + wt p) 0 l)))) := hf1_1
  replace hf1_2 : M1.2 34 = (.inl (0, 30, .inl (upd ch np (-1)))) := hf1_2
  replace hf1_3 : M1.2 35 = (.inl (0, 30, .inl (upd nx np (-1)))) := hf1_3
  replace hf1_4 : M1.2 40 = (.inl (2, 2850, .inl (va_cpy (fun _ => 0) cs 0 (95 * np) 95))) := hf1_4
  replace hf1_5 : M1.2 24 = (.inr (12, [.ref 25, .ref 26, .ref 27, .ref 28, .ref 29, .ref 30, .int (nI sn), .int (nI vc), .int (nI tk), .ref 31, .int (nI dl), .ref 32, .int (nI pl), .int (nI (np + 1)), .ref 33, .ref 34, .ref 35, .ref 36, .ref 37, .ref 38, .ref 39, .ref 40, .int (nI a), .int (nI dp), .int y24, .ref 41, .ref 42, .ref 43, .ref 44, .ref 45, .ref 46, .ref 47, .ref 48, .int y33, .ref 49, .ref 50, .int y36, .int y37, .int y38, .int y39, .int (nI hc), .ref 51])) := hf1_5
  refine xj_istore_n (i := 2) (L' := [(2, .int (nI np)), (1, .int (List.foldl (fun w p => w + wt p) 0 l)), (0, .ref 24)]) d14_24_41 rfl (by decide) rfl ?_
  refine xj_aload_n (i := 0) d14_24_42 rfl rfl ?_
  refine xj_get d14_24_43 f14_38_12 hf1_5 (by omega) (show 24 < M1.1 by omega) rfl ?_
  refine xj_iload_n (i := 2) d14_24_46 rfl rfl ?_
  refine xj_aload_n (i := 0) d14_24_47 rfl rfl ?_
  refine xj_get d14_24_48 f14_59_12 hf1_5 (by omega) (show 24 < M1.1 by omega) rfl ?_
  refine xj_aload_n (i := 0) d14_24_51 rfl rfl ?_
  refine xj_get d14_24_52 f14_139_12 hf1_5 (by omega) (show 24 < M1.1 by omega) rfl ?_
  refine xj_iaload (j := dp) d14_24_55 ((ho1 41 (by omega) (by omega) (by omega) (by omega) (by omega) (by omega) (by omega)).trans h_41) (by omega) (show 41 < M1.1 by omega) (vp_in_nI (by omega) (by omega)) (nI_clamp (by omega)) ?_
  refine xj_iastore (j := np) (x' := fP dp) d14_24_56 hf1_2 (by omega) (show 34 < M1.1 by omega) (vp_in_nI (by omega) (by omega)) (nI_clamp (by omega)) rfl ?_
  refine xj_abs_set (fun M2 hs2 ha2 ho2 => ?_)
  refine xj_aload_n (i := 0) d14_24_57 rfl rfl ?_
  refine xj_get d14_24_58 f14_65_12 ((ho2 24 (by omega)).trans hf1_5) (by omega) (show 24 < M2.1 by omega) rfl ?_
  refine xj_aload_n (i := 0) d14_24_61 rfl rfl ?_
  refine xj_get d14_24_62 f14_139_12 ((ho2 24 (by omega)).trans hf1_5) (by omega) (show 24 < M2.1 by omega) rfl ?_
  refine xj_iaload (j := dp) d14_24_65 ((ho2 43 (by omega)).trans ((ho1 43 (by omega) (by omega) (by omega) (by omega) (by omega) (by omega) (by omega)).trans h_43)) (by omega) (show 43 < M2.1 by omega) (vp_in_nI (by omega) (by omega)) (nI_clamp (by omega)) ?_
  rw [show fB dp = -1 from hfB]
  refine xj_if_ge (tgt := 82) d14_24_66 rfl (fun h => absurd h (by decide)) (fun _ => ?_)
  refine xj_aload_n (i := 0) d14_24_69 rfl rfl ?_
  refine xj_get d14_24_70 f14_65_12 ((ho2 24 (by omega)).trans hf1_5) (by omega) (show 24 < M2.1 by omega) rfl ?_
  refine xj_aload_n (i := 0) d14_24_73 rfl rfl ?_
  refine xj_get d14_24_74 f14_139_12 ((ho2 24 (by omega)).trans hf1_5) (by omega) (show 24 < M2.1 by omega) rfl ?_
  refine xj_iload_n (i := 2) d14_24_77 rfl rfl ?_
  refine xj_iastore (j := dp) (x' := nI np) d14_24_78 ((ho2 43 (by omega)).trans ((ho1 43 (by omega) (by omega) (by omega) (by omega) (by omega) (by omega) (by omega)).trans h_43)) (by omega) (show 43 < M2.1 by omega) (vp_in_nI (by omega) (by omega)) (nI_clamp (by omega)) rfl ?_
  refine xj_abs_set (fun M3 hs3 ha3 ho3 => ?_)
  refine xj_goto (tgt := 97) d14_24_79 rfl ?_
  refine xj_aload_n (i := 0) d14_24_97 rfl rfl ?_
  refine xj_get d14_24_98 f14_68_12 ((ho3 24 (by omega)).trans ((ho2 24 (by omega)).trans hf1_5)) (by omega) (show 24 < M3.1 by omega) rfl ?_
  refine xj_aload_n (i := 0) d14_24_101 rfl rfl ?_
  refine xj_get d14_24_102 f14_139_12 ((ho3 24 (by omega)).trans ((ho2 24 (by omega)).trans hf1_5)) (by omega) (show 24 < M3.1 by omega) rfl ?_
  refine xj_iload_n (i := 2) d14_24_105 rfl rfl ?_
  refine xj_iastore (j := dp) (x' := nI np) d14_24_106 ((ho3 44 (by omega)).trans ((ho2 44 (by omega)).trans ((ho1 44 (by omega) (by omega) (by omega) (by omega) (by omega) (by omega) (by omega)).trans h_44))) (by omega) (show 44 < M3.1 by omega) (vp_in_nI (by omega) (by omega)) (nI_clamp (by omega)) rfl ?_
  refine xj_abs_set (fun M4 hs4 ha4 ho4 => ?_)
  refine xj_aload_n (i := 0) d14_24_107 rfl rfl ?_
  refine xj_get d14_24_108 f14_59_12 ((ho4 24 (by omega)).trans ((ho3 24 (by omega)).trans ((ho2 24 (by omega)).trans hf1_5))) (by omega) (show 24 < M4.1 by omega) rfl ?_
  refine xj_aload_n (i := 0) d14_24_111 rfl rfl ?_
  refine xj_get d14_24_112 f14_139_12 ((ho4 24 (by omega)).trans ((ho3 24 (by omega)).trans ((ho2 24 (by omega)).trans hf1_5))) (by omega) (show 24 < M4.1 by omega) rfl ?_
  refine xj_iconst (v := (-1)) d14_24_115 (by decide) ?_
  refine xj_iastore (j := dp) (x' := (-1)) d14_24_116 ((ho4 41 (by omega)).trans ((ho3 41 (by omega)).trans ((ho2 41 (by omega)).trans ((ho1 41 (by omega) (by omega) (by omega) (by omega) (by omega) (by omega) (by omega)).trans h_41)))) (by omega) (show 41 < M4.1 by omega) (vp_in_nI (by omega) (by omega)) (nI_clamp (by omega)) rfl ?_
  refine xj_abs_set (fun M5 hs5 ha5 ho5 => ?_)
  refine xj_aload_n (i := 0) d14_24_117 rfl rfl ?_
  refine xj_get d14_24_118 f14_62_12 ((ho5 24 (by omega)).trans ((ho4 24 (by omega)).trans ((ho3 24 (by omega)).trans ((ho2 24 (by omega)).trans hf1_5)))) (by omega) (show 24 < M5.1 by omega) rfl ?_
  refine xj_aload_n (i := 0) d14_24_121 rfl rfl ?_
  refine xj_get d14_24_122 f14_139_12 ((ho5 24 (by omega)).trans ((ho4 24 (by omega)).trans ((ho3 24 (by omega)).trans ((ho2 24 (by omega)).trans hf1_5)))) (by omega) (show 24 < M5.1 by omega) rfl ?_
  refine xj_iconst (v := (-1)) d14_24_125 (by decide) ?_
  refine xj_iastore (j := dp) (x' := (-1)) d14_24_126 ((ho5 42 (by omega)).trans ((ho4 42 (by omega)).trans ((ho3 42 (by omega)).trans ((ho2 42 (by omega)).trans ((ho1 42 (by omega) (by omega) (by omega) (by omega) (by omega) (by omega) (by omega)).trans h_42))))) (by omega) (show 42 < M5.1 by omega) (vp_in_nI (by omega) (by omega)) (nI_clamp (by omega)) rfl ?_
  refine xj_abs_set (fun M6 hs6 ha6 ho6 => ?_)
  exact xj_ret d14_24_127 (by omega) (by omega) rfl ⟨rfl, (show M6.1 = n by omega), (fun j hj hj0 hj1 hj2 hj3 hj4 hj5 hj6 hj7 hj8 hj9 => ((ho6 j (by omega)).trans ((ho5 j (by omega)).trans ((ho4 j (by omega)).trans ((ho3 j (by omega)).trans ((ho2 j (by omega)).trans (ho1 j (by omega) (by omega) (by omega) (by omega) (by omega) (by omega) (by omega)))))))), ((ho6 33 (by omega)).trans ((ho5 33 (by omega)).trans ((ho4 33 (by omega)).trans ((ho3 33 (by omega)).trans ((ho2 33 (by omega)).trans hf1_0))))), ((ho6 39 (by omega)).trans ((ho5 39 (by omega)).trans ((ho4 39 (by omega)).trans ((ho3 39 (by omega)).trans ((ho2 39 (by omega)).trans hf1_1))))), ((ho6 34 (by omega)).trans ((ho5 34 (by omega)).trans ((ho4 34 (by omega)).trans ((ho3 34 (by omega)).trans ha2)))), ((ho6 35 (by omega)).trans ((ho5 35 (by omega)).trans ((ho4 35 (by omega)).trans ((ho3 35 (by omega)).trans ((ho2 35 (by omega)).trans hf1_3))))), ((ho6 40 (by omega)).trans ((ho5 40 (by omega)).trans ((ho4 40 (by omega)).trans ((ho3 40 (by omega)).trans ((ho2 40 (by omega)).trans hf1_4))))), ((ho6 24 (by omega)).trans ((ho5 24 (by omega)).trans ((ho4 24 (by omega)).trans ((ho3 24 (by omega)).trans ((ho2 24 (by omega)).trans hf1_5))))), ((ho6 43 (by omega)).trans ((ho5 43 (by omega)).trans ((ho4 43 (by omega)).trans ha3))), ((ho6 44 (by omega)).trans ((ho5 44 (by omega)).trans ha4)), ((ho6 41 (by omega)).trans ha5), ha6⟩
set_option maxRecDepth 20000 in
theorem mEndBN {G : xG} (hg : xGood G) {M : xM} {n : Nat} (hn : M.1 = n) (hx : xn ≤ n) {dl : Nat} {pl : Nat} {vc : Nat} {tk : Nat} {hc : Nat} {sn : Nat} {y24 : Int32} {y33 : Int32} {y36 : Int32} {y37 : Int32} {y38 : Int32} {y39 : Int32} {np : Nat} {a : Nat} {dp : Nat} {kd : Nat → Int32} {ch : Nat → Int32} {nx : Nat → Int32} {wt : Nat → Int32} {cs : Nat → Int32} {fP : Nat → Int32} {lP : Nat → Int32} {fB : Nat → Int32} {lB : Nat → Int32} {l : List Nat} {b0 : Nat} {lb : Nat} (h1_24 : xn ≤ 24) (h2_24 : 24 < n) (h_24 : M.2 24 = (.inr (12, [.ref 25, .ref 26, .ref 27, .ref 28, .ref 29, .ref 30, .int (nI sn), .int (nI vc), .int (nI tk), .ref 31, .int (nI dl), .ref 32, .int (nI pl), .int (nI np), .ref 33, .ref 34, .ref 35, .ref 36, .ref 37, .ref 38, .ref 39, .ref 40, .int (nI a), .int (nI dp), .int y24, .ref 41, .ref 42, .ref 43, .ref 44, .ref 45, .ref 46, .ref 47, .ref 48, .int y33, .ref 49, .ref 50, .int y36, .int y37, .int y38, .int y39, .int (nI hc), .ref 51]))) (h1_33 : xn ≤ 33) (h2_33 : 33 < n) (h_33 : M.2 33 = (.inl (0, 30, .inl kd))) (h1_34 : xn ≤ 34) (h2_34 : 34 < n) (h_34 : M.2 34 = (.inl (0, 30, .inl ch))) (h1_35 : xn ≤ 35) (h2_35 : 35 < n) (h_35 : M.2 35 = (.inl (0, 30, .inl nx))) (h1_39 : xn ≤ 39) (h2_39 : 39 < n) (h_39 : M.2 39 = (.inl (0, 30, .inl wt))) (h1_40 : xn ≤ 40) (h2_40 : 40 < n) (h_40 : M.2 40 = (.inl (2, 2850, .inl cs))) (h1_41 : xn ≤ 41) (h2_41 : 41 < n) (h_41 : M.2 41 = (.inl (0, 7, .inl fP))) (h1_42 : xn ≤ 42) (h2_42 : 42 < n) (h_42 : M.2 42 = (.inl (0, 7, .inl lP))) (h1_43 : xn ≤ 43) (h2_43 : 43 < n) (h_43 : M.2 43 = (.inl (0, 7, .inl fB))) (h1_44 : xn ≤ 44) (h2_44 : 44 < n) (h_44 : M.2 44 = (.inl (0, 7, .inl lB))) (hxn : xn = 16) (hn2 : 52 ≤ n) (hdp : dp < 7) (hnp : np < 30) (hcn : xCn nx (fP dp) l) (hl : ∀ c ∈ l, c < 30) (hfB : fB dp = nI b0) (hb0 : b0 < 30) (hlB : lB dp = nI lb) (hlb : lb < 30) : XC G Y14_24 none 1 0 0 [.ref 24] M (fun v M' => v = none ∧ M'.1 = n ∧ (∀ j, j < n → j ≠ 33 → j ≠ 39 → j ≠ 34 → j ≠ 35 → j ≠ 40 → j ≠ 24 → j ≠ 44 → j ≠ 41 → j ≠ 42 → M'.2 j = M.2 j) ∧ M'.2 33 = (.inl (0, 30, .inl (upd kd np 5))) ∧ M'.2 39 = (.inl (0, 30, .inl (upd wt np (List.foldl (fun w p => w + wt p) 0 l)))) ∧ M'.2 34 = (.inl (0, 30, .inl (upd (upd ch np (-1)) np (fP dp)))) ∧ M'.2 35 = (.inl (0, 30, .inl (upd (upd nx np (-1)) lb (nI np)))) ∧ M'.2 40 = (.inl (2, 2850, .inl (va_cpy (fun _ => 0) cs 0 (95 * np) 95))) ∧ M'.2 24 = (.inr (12, [.ref 25, .ref 26, .ref 27, .ref 28, .ref 29, .ref 30, .int (nI sn), .int (nI vc), .int (nI tk), .ref 31, .int (nI dl), .ref 32, .int (nI pl), .int (nI (np + 1)), .ref 33, .ref 34, .ref 35, .ref 36, .ref 37, .ref 38, .ref 39, .ref 40, .int (nI a), .int (nI dp), .int y24, .ref 41, .ref 42, .ref 43, .ref 44, .ref 45, .ref 46, .ref 47, .ref 48, .int y33, .ref 49, .ref 50, .int y36, .int y37, .int y38, .int y39, .int (nI hc), .ref 51])) ∧ M'.2 44 = (.inl (0, 7, .inl (upd lB dp (nI np)))) ∧ M'.2 41 = (.inl (0, 7, .inl (upd fP dp (-1)))) ∧ M'.2 42 = (.inl (0, 7, .inl (upd lP dp (-1))))) := by
  refine xc_of hg (by decide) (Nat.le_of_ble_eq_true rfl) (Or.inr (Or.inr (Or.inr (Or.inr (Or.inl ⟨rfl, rfl, fun v M' h => h.1⟩))))) ?_
  refine xj_iconst (v := 0) d14_24_0 (by decide) ?_
  refine xj_istore_n (i := 1) (L' := [(1, .int 0), (0, .ref 24)]) d14_24_1 rfl (by decide) rfl ?_
  refine xj_aload_n (i := 0) d14_24_2 rfl rfl ?_
  refine xj_get d14_24_3 f14_59_12 h_24 (by omega) (show 24 < M.1 by omega) rfl ?_
  refine xj_aload_n (i := 0) d14_24_6 rfl rfl ?_
  refine xj_get d14_24_7 f14_139_12 h_24 (by omega) (show 24 < M.1 by omega) rfl ?_
  refine xj_iaload (j := dp) d14_24_10 h_41 (by omega) (show 41 < M.1 by omega) (vp_in_nI (by omega) (by omega)) (nI_clamp (by omega)) ?_
  refine xj_istore_n (i := 2) (L' := [(2, .int (fP dp)), (1, .int 0), (0, .ref 24)]) d14_24_11 rfl (by decide) rfl ?_
  refine mEndL hxn (show M.1 = n by omega) hn2 h_24 h_39 h_35 l (fP dp) 0 hcn hl ?_
  refine xj_aload_n (i := 0) d14_24_35 rfl rfl ?_
  refine xj_iconst (v := 5) d14_24_36 (by decide) ?_
  refine xj_iload_n (i := 1) d14_24_37 rfl rfl ?_
  refine xj_callV (rest := []) (As := [.int 5, .int (List.foldl (fun w p => w + wt p) 0 l)]) (b := 24) (mPart hg (M := M) (n := n) (dl := dl) (pl := pl) (vc := vc) (tk := tk) (hc := hc) (sn := sn) (y24 := y24) (y33 := y33) (y36 := y36) (y37 := y37) (y38 := y38) (y39 := y39) (np := np) (a := a) (dp := dp) (kd := kd) (wt := wt) (ch := ch) (nx := nx) (cs := cs) (kk := 5) (w := List.foldl (fun w p => w + wt p) 0 l) (show M.1 = n by omega) (by omega) (by omega) (by omega) h_24 (by omega) (by omega) h_33 (by omega) (by omega) h_39 (by omega) (by omega) h_34 (by omega) (by omega) h_35 (by omega) (by omega) h_40 hxn hn2 (by omega)) d14_24_38 wd14_20 h_24 (by omega) (show 24 < M.1 by omega) rfl s14_20 w1232 (Or.inl w1230) rfl rfl (Nat.le_of_ble_eq_true rfl) (by omega) (by omega) (by omega) ?_
  rintro v M1 ⟨rfl, hs1, ho1, hf1_0, hf1_1, hf1_2, hf1_3, hf1_4, hf1_5⟩
  replace hs1 : M1.1 = n := hs1
  replace hf1_0 : M1.2 33 = (.inl (0, 30, .inl (upd kd np 5))) := hf1_0
  replace hf1_1 : M1.2 39 = (.inl (0, 30, .inl (upd wt np (List.foldl (fun w p => w + wt p) 0 l)))) := hf1_1
  replace hf1_2 : M1.2 34 = (.inl (0, 30, .inl (upd ch np (-1)))) := hf1_2
  replace hf1_3 : M1.2 35 = (.inl (0, 30, .inl (upd nx np (-1)))) := hf1_3
  replace hf1_4 : M1.2 40 = (.inl (2, 2850, .inl (va_cpy (fun _ => 0) cs 0 (95 * np) 95))) := hf1_4
  replace hf1_5 : M1.2 24 = (.inr (12, [.ref 25, .ref 26, .ref 27, .ref 28, .ref 29, .ref 30, .int (nI sn), .int (nI vc), .int (nI tk), .ref 31, .int (nI dl), .ref 32, .int (nI pl), .int (nI (np + 1)), .ref 33, .ref 34, .ref 35, .ref 36, .ref 37, .ref 38, .ref 39, .ref 40, .int (nI a), .int (nI dp), .int y24, .ref 41, .ref 42, .ref 43, .ref 44, .ref 45, .ref 46, .ref 47, .ref 48, .int y33, .ref 49, .ref 50, .int y36, .int y37, .int y38, .int y39, .int (nI hc), .ref 51])) := hf1_5
  refine xj_istore_n (i := 2) (L' := [(2, .int (nI np)), (1, .int (List.foldl (fun w p => w + wt p) 0 l)), (0, .ref 24)]) d14_24_41 rfl (by decide) rfl ?_
  refine xj_aload_n (i := 0) d14_24_42 rfl rfl ?_
  refine xj_get d14_24_43 f14_38_12 hf1_5 (by omega) (show 24 < M1.1 by omega) rfl ?_
  refine xj_iload_n (i := 2) d14_24_46 rfl rfl ?_
  refine xj_aload_n (i := 0) d14_24_47 rfl rfl ?_
  refine xj_get d14_24_48 f14_59_12 hf1_5 (by omega) (show 24 < M1.1 by omega) rfl ?_
  refine xj_aload_n (i := 0) d14_24_51 rfl rfl ?_
  refine xj_get d14_24_52 f14_139_12 hf1_5 (by omega) (show 24 < M1.1 by omega) rfl ?_
  refine xj_iaload (j := dp) d14_24_55 ((ho1 41 (by omega) (by omega) (by omega) (by omega) (by omega) (by omega) (by omega)).trans h_41) (by omega) (show 41 < M1.1 by omega) (vp_in_nI (by omega) (by omega)) (nI_clamp (by omega)) ?_
  refine xj_iastore (j := np) (x' := fP dp) d14_24_56 hf1_2 (by omega) (show 34 < M1.1 by omega) (vp_in_nI (by omega) (by omega)) (nI_clamp (by omega)) rfl ?_
  refine xj_abs_set (fun M2 hs2 ha2 ho2 => ?_)
  refine xj_aload_n (i := 0) d14_24_57 rfl rfl ?_
  refine xj_get d14_24_58 f14_65_12 ((ho2 24 (by omega)).trans hf1_5) (by omega) (show 24 < M2.1 by omega) rfl ?_
  refine xj_aload_n (i := 0) d14_24_61 rfl rfl ?_
  refine xj_get d14_24_62 f14_139_12 ((ho2 24 (by omega)).trans hf1_5) (by omega) (show 24 < M2.1 by omega) rfl ?_
  refine xj_iaload (j := dp) d14_24_65 ((ho2 43 (by omega)).trans ((ho1 43 (by omega) (by omega) (by omega) (by omega) (by omega) (by omega) (by omega)).trans h_43)) (by omega) (show 43 < M2.1 by omega) (vp_in_nI (by omega) (by omega)) (nI_clamp (by omega)) ?_
  rw [show fB dp = nI b0 from hfB]
  refine xj_if_ge (tgt := 82) d14_24_66 rfl (fun _ => ?_) (fun h => absurd (nI_le (a := 0) (b := b0) (by omega) (by omega)) h)
  refine xj_aload_n (i := 0) d14_24_82 rfl rfl ?_
  refine xj_get d14_24_83 f14_41_12 ((ho2 24 (by omega)).trans hf1_5) (by omega) (show 24 < M2.1 by omega) rfl ?_
  refine xj_aload_n (i := 0) d14_24_86 rfl rfl ?_
  refine xj_get d14_24_87 f14_68_12 ((ho2 24 (by omega)).trans hf1_5) (by omega) (show 24 < M2.1 by omega) rfl ?_
  refine xj_aload_n (i := 0) d14_24_90 rfl rfl ?_
  refine xj_get d14_24_91 f14_139_12 ((ho2 24 (by omega)).trans hf1_5) (by omega) (show 24 < M2.1 by omega) rfl ?_
  refine xj_iaload (j := dp) d14_24_94 ((ho2 44 (by omega)).trans ((ho1 44 (by omega) (by omega) (by omega) (by omega) (by omega) (by omega) (by omega)).trans h_44)) (by omega) (show 44 < M2.1 by omega) (vp_in_nI (by omega) (by omega)) (nI_clamp (by omega)) ?_
  rw [show lB dp = nI lb from hlB]
  refine xj_iload_n (i := 2) d14_24_95 rfl rfl ?_
  refine xj_iastore (j := lb) (x' := nI np) d14_24_96 ((ho2 35 (by omega)).trans hf1_3) (by omega) (show 35 < M2.1 by omega) (vp_in_nI (by omega) (by omega)) (nI_clamp (by omega)) rfl ?_
  refine xj_abs_set (fun M3 hs3 ha3 ho3 => ?_)
  refine xj_aload_n (i := 0) d14_24_97 rfl rfl ?_
  refine xj_get d14_24_98 f14_68_12 ((ho3 24 (by omega)).trans ((ho2 24 (by omega)).trans hf1_5)) (by omega) (show 24 < M3.1 by omega) rfl ?_
  refine xj_aload_n (i := 0) d14_24_101 rfl rfl ?_
  refine xj_get d14_24_102 f14_139_12 ((ho3 24 (by omega)).trans ((ho2 24 (by omega)).trans hf1_5)) (by omega) (show 24 < M3.1 by omega) rfl ?_
  refine xj_iload_n (i := 2) d14_24_105 rfl rfl ?_
  refine xj_iastore (j := dp) (x' := nI np) d14_24_106 ((ho3 44 (by omega)).trans ((ho2 44 (by omega)).trans ((ho1 44 (by omega) (by omega) (by omega) (by omega) (by omega) (by omega) (by omega)).trans h_44))) (by omega) (show 44 < M3.1 by omega) (vp_in_nI (by omega) (by omega)) (nI_clamp (by omega)) rfl ?_
  refine xj_abs_set (fun M4 hs4 ha4 ho4 => ?_)
  refine xj_aload_n (i := 0) d14_24_107 rfl rfl ?_
  refine xj_get d14_24_108 f14_59_12 ((ho4 24 (by omega)).trans ((ho3 24 (by omega)).trans ((ho2 24 (by omega)).trans hf1_5))) (by omega) (show 24 < M4.1 by omega) rfl ?_
  refine xj_aload_n (i := 0) d14_24_111 rfl rfl ?_
  refine xj_get d14_24_112 f14_139_12 ((ho4 24 (by omega)).trans ((ho3 24 (by omega)).trans ((ho2 24 (by omega)).trans hf1_5))) (by omega) (show 24 < M4.1 by omega) rfl ?_
  refine xj_iconst (v := (-1)) d14_24_115 (by decide) ?_
  refine xj_iastore (j := dp) (x' := (-1)) d14_24_116 ((ho4 41 (by omega)).trans ((ho3 41 (by omega)).trans ((ho2 41 (by omega)).trans ((ho1 41 (by omega) (by omega) (by omega) (by omega) (by omega) (by omega) (by omega)).trans h_41)))) (by omega) (show 41 < M4.1 by omega) (vp_in_nI (by omega) (by omega)) (nI_clamp (by omega)) rfl ?_
  refine xj_abs_set (fun M5 hs5 ha5 ho5 => ?_)
  refine xj_aload_n (i := 0) d14_24_117 rfl rfl ?_
  refine xj_get d14_24_118 f14_62_12 ((ho5 24 (by omega)).trans ((ho4 24 (by omega)).trans ((ho3 24 (by omega)).trans ((ho2 24 (by omega)).trans hf1_5)))) (by omega) (show 24 < M5.1 by omega) rfl ?_
  refine xj_aload_n (i := 0) d14_24_121 rfl rfl ?_
  refine xj_get d14_24_122 f14_139_12 ((ho5 24 (by omega)).trans ((ho4 24 (by omega)).trans ((ho3 24 (by omega)).trans ((ho2 24 (by omega)).trans hf1_5)))) (by omega) (show 24 < M5.1 by omega) rfl ?_
  refine xj_iconst (v := (-1)) d14_24_125 (by decide) ?_
  refine xj_iastore (j := dp) (x' := (-1)) d14_24_126 ((ho5 42 (by omega)).trans ((ho4 42 (by omega)).trans ((ho3 42 (by omega)).trans ((ho2 42 (by omega)).trans ((ho1 42 (by omega) (by omega) (by omega) (by omega) (by omega) (by omega) (by omega)).trans h_42))))) (by omega) (show 42 < M5.1 by omega) (vp_in_nI (by omega) (by omega)) (nI_clamp (by omega)) rfl ?_
  refine xj_abs_set (fun M6 hs6 ha6 ho6 => ?_)
  exact xj_ret d14_24_127 (by omega) (by omega) rfl ⟨rfl, (show M6.1 = n by omega), (fun j hj hj0 hj1 hj2 hj3 hj4 hj5 hj6 hj7 hj8 => ((ho6 j (by omega)).trans ((ho5 j (by omega)).trans ((ho4 j (by omega)).trans ((ho3 j (by omega)).trans ((ho2 j (by omega)).trans (ho1 j (by omega) (by omega) (by omega) (by omega) (by omega) (by omega) (by omega)))))))), ((ho6 33 (by omega)).trans ((ho5 33 (by omega)).trans ((ho4 33 (by omega)).trans ((ho3 33 (by omega)).trans ((ho2 33 (by omega)).trans hf1_0))))), ((ho6 39 (by omega)).trans ((ho5 39 (by omega)).trans ((ho4 39 (by omega)).trans ((ho3 39 (by omega)).trans ((ho2 39 (by omega)).trans hf1_1))))), ((ho6 34 (by omega)).trans ((ho5 34 (by omega)).trans ((ho4 34 (by omega)).trans ((ho3 34 (by omega)).trans ha2)))), ((ho6 35 (by omega)).trans ((ho5 35 (by omega)).trans ((ho4 35 (by omega)).trans ha3))), ((ho6 40 (by omega)).trans ((ho5 40 (by omega)).trans ((ho4 40 (by omega)).trans ((ho3 40 (by omega)).trans ((ho2 40 (by omega)).trans hf1_4))))), ((ho6 24 (by omega)).trans ((ho5 24 (by omega)).trans ((ho4 24 (by omega)).trans ((ho3 24 (by omega)).trans ((ho2 24 (by omega)).trans hf1_5))))), ((ho6 44 (by omega)).trans ((ho5 44 (by omega)).trans ha4)), ((ho6 41 (by omega)).trans ha5), ha6⟩
set_option maxRecDepth 20000 in
theorem mWhole {G : xG} (hg : xGood G) {M : xM} {n : Nat} (hn : M.1 = n) (hx : xn ≤ n) {dl : Nat} {pl : Nat} {vc : Nat} {tk : Nat} {hc : Nat} {sn : Nat} {y24 : Int32} {y33 : Int32} {y36 : Int32} {y37 : Int32} {y38 : Int32} {y39 : Int32} {np : Nat} {a : Nat} {dp : Nat} {kd : Nat → Int32} {ch : Nat → Int32} {nx : Nat → Int32} {wt : Nat → Int32} {cs : Nat → Int32} {fB : Nat → Int32} {l : List Nat} (h1_24 : xn ≤ 24) (h2_24 : 24 < n) (h_24 : M.2 24 = (.inr (12, [.ref 25, .ref 26, .ref 27, .ref 28, .ref 29, .ref 30, .int (nI sn), .int (nI vc), .int (nI tk), .ref 31, .int (nI dl), .ref 32, .int (nI pl), .int (nI np), .ref 33, .ref 34, .ref 35, .ref 36, .ref 37, .ref 38, .ref 39, .ref 40, .int (nI a), .int (nI dp), .int y24, .ref 41, .ref 42, .ref 43, .ref 44, .ref 45, .ref 46, .ref 47, .ref 48, .int y33, .ref 49, .ref 50, .int y36, .int y37, .int y38, .int y39, .int (nI hc), .ref 51]))) (h1_33 : xn ≤ 33) (h2_33 : 33 < n) (h_33 : M.2 33 = (.inl (0, 30, .inl kd))) (h1_34 : xn ≤ 34) (h2_34 : 34 < n) (h_34 : M.2 34 = (.inl (0, 30, .inl ch))) (h1_35 : xn ≤ 35) (h2_35 : 35 < n) (h_35 : M.2 35 = (.inl (0, 30, .inl nx))) (h1_39 : xn ≤ 39) (h2_39 : 39 < n) (h_39 : M.2 39 = (.inl (0, 30, .inl wt))) (h1_40 : xn ≤ 40) (h2_40 : 40 < n) (h_40 : M.2 40 = (.inl (2, 2850, .inl cs))) (h1_43 : xn ≤ 43) (h2_43 : 43 < n) (h_43 : M.2 43 = (.inl (0, 7, .inl fB))) (hxn : xn = 16) (hn2 : 52 ≤ n) (hdp : dp < 7) (hnp : np < 30) (hcn : xCn nx (fB dp) l) (hl : ∀ c ∈ l, c < 30) : XC G Y14_25 (some .int) 1 0 0 [.ref 24] M (fun v M' => v = some (.int (nI np)) ∧ M'.1 = n ∧ (∀ j, j < n → j ≠ 33 → j ≠ 39 → j ≠ 34 → j ≠ 35 → j ≠ 40 → j ≠ 24 → M'.2 j = M.2 j) ∧ M'.2 33 = (.inl (0, 30, .inl (upd kd np 6))) ∧ M'.2 39 = (.inl (0, 30, .inl (upd wt np (List.foldl (fun w p => w + 1 + wt p) (-1) l)))) ∧ M'.2 34 = (.inl (0, 30, .inl (upd (upd ch np (-1)) np (fB dp)))) ∧ M'.2 35 = (.inl (0, 30, .inl (upd nx np (-1)))) ∧ M'.2 40 = (.inl (2, 2850, .inl (va_cpy (fun _ => 0) cs 0 (95 * np) 95))) ∧ M'.2 24 = (.inr (12, [.ref 25, .ref 26, .ref 27, .ref 28, .ref 29, .ref 30, .int (nI sn), .int (nI vc), .int (nI tk), .ref 31, .int (nI dl), .ref 32, .int (nI pl), .int (nI (np + 1)), .ref 33, .ref 34, .ref 35, .ref 36, .ref 37, .ref 38, .ref 39, .ref 40, .int (nI a), .int (nI dp), .int y24, .ref 41, .ref 42, .ref 43, .ref 44, .ref 45, .ref 46, .ref 47, .ref 48, .int y33, .ref 49, .ref 50, .int y36, .int y37, .int y38, .int y39, .int (nI hc), .ref 51]))) := by
  refine xc_of hg (by decide) (Nat.le_of_ble_eq_true rfl) (Or.inl ⟨rfl, rfl, fun v M' h => ⟨_, h.1⟩⟩) ?_
  refine xj_iconst (v := (-1)) d14_25_0 (by decide) ?_
  refine xj_istore_n (i := 1) (L' := [(1, .int (-1)), (0, .ref 24)]) d14_25_1 rfl (by decide) rfl ?_
  refine xj_aload_n (i := 0) d14_25_2 rfl rfl ?_
  refine xj_get d14_25_3 f14_65_12 h_24 (by omega) (show 24 < M.1 by omega) rfl ?_
  refine xj_aload_n (i := 0) d14_25_6 rfl rfl ?_
  refine xj_get d14_25_7 f14_139_12 h_24 (by omega) (show 24 < M.1 by omega) rfl ?_
  refine xj_iaload (j := dp) d14_25_10 h_43 (by omega) (show 43 < M.1 by omega) (vp_in_nI (by omega) (by omega)) (nI_clamp (by omega)) ?_
  refine xj_istore_n (i := 2) (L' := [(2, .int (fB dp)), (1, .int (-1)), (0, .ref 24)]) d14_25_11 rfl (by decide) rfl ?_
  refine mWhoL hxn (show M.1 = n by omega) hn2 h_24 h_39 h_35 l (fB dp) (-1) hcn hl ?_
  refine xj_aload_n (i := 0) d14_25_37 rfl rfl ?_
  refine xj_bipush (v := 6) d14_25_38 (by decide) ?_
  refine xj_iload_n (i := 1) d14_25_40 rfl rfl ?_
  refine xj_callV (rest := []) (As := [.int 6, .int (List.foldl (fun w p => w + 1 + wt p) (-1) l)]) (b := 24) (mPart hg (M := M) (n := n) (dl := dl) (pl := pl) (vc := vc) (tk := tk) (hc := hc) (sn := sn) (y24 := y24) (y33 := y33) (y36 := y36) (y37 := y37) (y38 := y38) (y39 := y39) (np := np) (a := a) (dp := dp) (kd := kd) (wt := wt) (ch := ch) (nx := nx) (cs := cs) (kk := 6) (w := List.foldl (fun w p => w + 1 + wt p) (-1) l) (show M.1 = n by omega) (by omega) (by omega) (by omega) h_24 (by omega) (by omega) h_33 (by omega) (by omega) h_39 (by omega) (by omega) h_34 (by omega) (by omega) h_35 (by omega) (by omega) h_40 hxn hn2 (by omega)) d14_25_41 wd14_20 h_24 (by omega) (show 24 < M.1 by omega) rfl s14_20 w1232 (Or.inl w1230) rfl rfl (Nat.le_of_ble_eq_true rfl) (by omega) (by omega) (by omega) ?_
  rintro v M1 ⟨rfl, hs1, ho1, hf1_0, hf1_1, hf1_2, hf1_3, hf1_4, hf1_5⟩
  replace hs1 : M1.1 = n := hs1
  replace hf1_0 : M1.2 33 = (.inl (0, 30, .inl (upd kd np 6))) := hf1_0
  replace hf1_1 : M1.2 39 = (.inl (0, 30, .inl (upd wt np (List.foldl (fun w p => w + 1 + wt p) (-1) l)))) := hf1_1
  replace hf1_2 : M1.2 34 = (.inl (0, 30, .inl (upd ch np (-1)))) := hf1_2
  replace hf1_3 : M1.2 35 = (.inl (0, 30, .inl (upd nx np (-1)))) := hf1_3
  replace hf1_4 : M1.2 40 = (.inl (2, 2850, .inl (va_cpy (fun _ => 0) cs 0 (95 * np) 95))) := hf1_4
  replace hf1_5 : M1.2 24 = (.inr (12, [.ref 25, .ref 26, .ref 27, .ref 28, .ref 29, .ref 30, .int (nI sn), .int (nI vc), .int (nI tk), .ref 31, .int (nI dl), .ref 32, .int (nI pl), .int (nI (np + 1)), .ref 33, .ref 34, .ref 35, .ref 36, .ref 37, .ref 38, .ref 39, .ref 40, .int (nI a), .int (nI dp), .int y24, .ref 41, .ref 42, .ref 43, .ref 44, .ref 45, .ref 46, .ref 47, .ref 48, .int y33, .ref 49, .ref 50, .int y36, .int y37, .int y38, .int y39, .int (nI hc), .ref 51])) := hf1_5
  refine xj_istore_n (i := 2) (L' := [(2, .int (nI np)), (1, .int (List.foldl (fun w p => w + 1 + wt p) (-1) l)), (0, .ref 24)]) d14_25_44 rfl (by decide) rfl ?_
  refine xj_aload_n (i := 0) d14_25_45 rfl rfl ?_
  refine xj_get d14_25_46 f14_38_12 hf1_5 (by omega) (show 24 < M1.1 by omega) rfl ?_
  refine xj_iload_n (i := 2) d14_25_49 rfl rfl ?_
  refine xj_aload_n (i := 0) d14_25_50 rfl rfl ?_
  refine xj_get d14_25_51 f14_65_12 hf1_5 (by omega) (show 24 < M1.1 by omega) rfl ?_
  refine xj_aload_n (i := 0) d14_25_54 rfl rfl ?_
  refine xj_get d14_25_55 f14_139_12 hf1_5 (by omega) (show 24 < M1.1 by omega) rfl ?_
  refine xj_iaload (j := dp) d14_25_58 ((ho1 43 (by omega) (by omega) (by omega) (by omega) (by omega) (by omega) (by omega)).trans h_43) (by omega) (show 43 < M1.1 by omega) (vp_in_nI (by omega) (by omega)) (nI_clamp (by omega)) ?_
  refine xj_iastore (j := np) (x' := fB dp) d14_25_59 hf1_2 (by omega) (show 34 < M1.1 by omega) (vp_in_nI (by omega) (by omega)) (nI_clamp (by omega)) rfl ?_
  refine xj_abs_set (fun M2 hs2 ha2 ho2 => ?_)
  refine xj_iload_n (i := 2) d14_25_60 rfl rfl ?_
  exact xj_ret d14_25_61 (by omega) (by omega) rfl ⟨rfl, (show M2.1 = n by omega), (fun j hj hj0 hj1 hj2 hj3 hj4 hj5 => ((ho2 j (by omega)).trans (ho1 j (by omega) (by omega) (by omega) (by omega) (by omega) (by omega) (by omega)))), ((ho2 33 (by omega)).trans hf1_0), ((ho2 39 (by omega)).trans hf1_1), ha2, ((ho2 35 (by omega)).trans hf1_3), ((ho2 40 (by omega)).trans hf1_4), ((ho2 24 (by omega)).trans hf1_5)⟩

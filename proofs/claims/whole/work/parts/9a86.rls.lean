set_option maxRecDepth 20000 in
theorem mAlone {G : xG} (hg : xGood G) {M : xM} {n : Nat} (hn : M.1 = n) (hx : xn ≤ n) {dl : Nat} {pl : Nat} {vc : Nat} {tk : Nat} {hc : Nat} {sn : Nat} {y13 : Int32} {y22 : Int32} {y23 : Int32} {y24 : Int32} {y33 : Int32} {y36 : Int32} {y37 : Int32} {y38 : Int32} {y39 : Int32} {st : Nat → Int32} {lg : Nat → Int32} {nn : Nat} (h1_24 : xn ≤ 24) (h2_24 : 24 < n) (h_24 : M.2 24 = (.inr (12, [.ref 25, .ref 26, .ref 27, .ref 28, .ref 29, .ref 30, .int (nI sn), .int (nI vc), .int (nI tk), .ref 31, .int (nI dl), .ref 32, .int (nI pl), .int y13, .ref 33, .ref 34, .ref 35, .ref 36, .ref 37, .ref 38, .ref 39, .ref 40, .int y22, .int y23, .int y24, .ref 41, .ref 42, .ref 43, .ref 44, .ref 45, .ref 46, .ref 47, .ref 48, .int y33, .ref 49, .ref 50, .int y36, .int y37, .int y38, .int y39, .int (nI hc), .ref 51]))) (h1_46 : xn ≤ 46) (h2_46 : 46 < n) (h_46 : M.2 46 = (.inl (0, 32, .inl st))) (h1_48 : xn ≤ 48) (h2_48 : 48 < n) (h_48 : M.2 48 = (.inl (0, 128, .inl lg))) (hxn : xn = 16) (hn2 : 52 ≤ n) (hnn : nn < 32) : XC G Y14_43 none 0 0 0 [.ref 24, .int (nI nn)] M (fun v M' => v = none ∧ M'.1 = n ∧ (∀ j, j < n → j ≠ 46 → j ≠ 48 → M'.2 j = M.2 j) ∧ M'.2 46 = (.inl (0, 32, .inl (upd st nn 1))) ∧ M'.2 48 = (.inl (0, 128, .inl (upd lg (4 * nn) 0)))) := by
  refine xc_of hg (by decide) (Nat.le_of_ble_eq_true rfl) (Or.inr (Or.inr (Or.inr (Or.inr (Or.inl ⟨rfl, rfl, fun v M' h => h.1⟩))))) ?_
  refine xj_aload_n (i := 0) d14_43_0 rfl rfl ?_
  refine xj_get d14_43_1 f14_74_12 h_24 (by omega) (show 24 < M.1 by omega) rfl ?_
  refine xj_iload_n (i := 1) d14_43_4 rfl rfl ?_
  refine xj_iconst (v := 1) d14_43_5 (by decide) ?_
  refine xj_iastore (j := nn) (x' := 1) d14_43_6 h_46 (by omega) (show 46 < M.1 by omega) (vp_in_nI (by omega) (by omega)) (nI_clamp (by omega)) rfl ?_
  refine xj_abs_set (fun M1 hs1 ha1 ho1 => ?_)
  refine xj_aload_n (i := 0) d14_43_7 rfl rfl ?_
  refine xj_get d14_43_8 f14_80_12 ((ho1 24 (by omega)).trans h_24) (by omega) (show 24 < M1.1 by omega) rfl ?_
  refine xj_iconst (v := 4) d14_43_11 (by decide) ?_
  refine xj_iload_n (i := 1) d14_43_12 rfl rfl ?_
  refine xj_imul (v := nI (4 * nn)) d14_43_13 (pk_mul 4 nn) ?_
  refine xj_iconst (v := 0) d14_43_14 (by decide) ?_
  refine xj_iastore (j := 4 * nn) (x' := 0) d14_43_15 ((ho1 48 (by omega)).trans h_48) (by omega) (show 48 < M1.1 by omega) (vp_in_nI (by omega) (by omega)) (nI_clamp (by omega)) rfl ?_
  refine xj_abs_set (fun M2 hs2 ha2 ho2 => ?_)
  exact xj_ret d14_43_16 (by omega) (by omega) rfl ⟨rfl, (show M2.1 = n by omega), (fun j hj hj0 hj1 => ((ho2 j (by omega)).trans (ho1 j (by omega)))), ((ho2 46 (by omega)).trans ha1), ha2⟩
set_option maxRecDepth 20000 in
theorem mCsL {G : xG} (hxn : xn = 16) {M0 : xM} {n : Nat} (hn2 : 52 ≤ n) {dl : Nat} {pl : Nat} {vc : Nat} {tk : Nat} {hc : Nat} {sn : Nat} {y13 : Int32} {y22 : Int32} {y23 : Int32} {y24 : Int32} {y33 : Int32} {y36 : Int32} {y37 : Int32} {y38 : Int32} {y39 : Int32} {lt : Nat → Int32} {fr to s1 t1 : Nat} (h_24 : M0.2 24 = (.inr (12, [.ref 25, .ref 26, .ref 27, .ref 28, .ref 29, .ref 30, .int (nI sn), .int (nI vc), .int (nI tk), .ref 31, .int (nI dl), .ref 32, .int (nI pl), .int y13, .ref 33, .ref 34, .ref 35, .ref 36, .ref 37, .ref 38, .ref 39, .ref 40, .int y22, .int y23, .int y24, .ref 41, .ref 42, .ref 43, .ref 44, .ref 45, .ref 46, .ref 47, .ref 48, .int y33, .ref 49, .ref 50, .int y36, .int y37, .int y38, .int y39, .int (nI hc), .ref 51]))) (hfr1 : fr < 32) (hto1 : to < 32) (hss4 : s1 < 4) (htt4 : t1 < 4) (hft : fr ≠ to) {d ce se cells slots : Nat} {Post : Option Value → xM → Prop} (K : ∀ M : xM, M.1 = n → (∀ j, j ≠ 47 → M.2 j = M0.2 j) → M.2 47 = (.inl (0, 1536, .inl (va_cpy lt lt (48 * fr + 12 * s1) (48 * to + 12 * t1) 12))) → XJ G Y14_44 d ce se cells slots 72 [(5, .int (nI 12)), (0, .ref 24), (1, .int (nI fr)), (2, .int (nI s1)), (3, .int (nI to)), (4, .int (nI t1))] [] M Post) : ∀ (r i : Nat) (M : xM), i + r = 12 → M.1 = n → (∀ j, j ≠ 47 → M.2 j = M0.2 j) → M.2 47 = (.inl (0, 1536, .inl (va_cpy lt lt (48 * fr + 12 * s1) (48 * to + 12 * t1) i))) → XJ G Y14_44 d ce se cells slots 24 [(5, .int (nI i)), (0, .ref 24), (1, .int (nI fr)), (2, .int (nI s1)), (3, .int (nI to)), (4, .int (nI t1))] [] M Post := by
  intro r
  induction r with
  | zero =>
    intro i M hi hm hfr hA
    have hi' : i = 12 := by omega
    subst i
    refine xj_iload (i := 5) d14_44_24 rfl ?_
    refine xj_bipush (v := 12) d14_44_26 (by decide) ?_
    refine xj_icmp_ge (tgt := 72) d14_44_28 rfl (fun _ => ?_) (fun h => absurd (nI_le (a := 12) (b := 12) (by omega) (by omega)) h)
    exact K M hm hfr hA
  | succ r ih =>
    intro i M hi hm hfr hA
    refine xj_iload (i := 5) d14_44_24 rfl ?_
    refine xj_bipush (v := 12) d14_44_26 (by decide) ?_
    refine xj_icmp_ge (tgt := 72) d14_44_28 rfl (fun h => absurd h (nI_ge (a := i) (b := 12) (by omega) (by omega))) (fun _ => ?_)
    refine xj_aload_n (i := 0) d14_44_31 rfl rfl ?_
    refine xj_get d14_44_32 f14_77_12 ((hfr 24 (by omega)).trans h_24) (by omega) (show 24 < M.1 by omega) rfl ?_
    refine xj_bipush (v := 48) d14_44_35 (by decide) ?_
    refine xj_iload_n (i := 3) d14_44_37 rfl rfl ?_
    refine xj_imul (v := nI (48 * to)) d14_44_38 (pk_mul 48 to) ?_
    refine xj_bipush (v := 12) d14_44_39 (by decide) ?_
    refine xj_iload (i := 4) d14_44_41 rfl ?_
    refine xj_imul (v := nI (12 * t1)) d14_44_43 (pk_mul 12 t1) ?_
    refine xj_iadd (v := nI (48 * to + (12 * t1))) d14_44_44 (nI_add (48 * to) (12 * t1)) ?_
    refine xj_iload (i := 5) d14_44_45 rfl ?_
    refine xj_iadd (v := nI (48 * to + (12 * t1) + i)) d14_44_47 (nI_add (48 * to + (12 * t1)) i) ?_
    refine xj_aload_n (i := 0) d14_44_48 rfl rfl ?_
    refine xj_get d14_44_49 f14_77_12 ((hfr 24 (by omega)).trans h_24) (by omega) (show 24 < M.1 by omega) rfl ?_
    refine xj_bipush (v := 48) d14_44_52 (by decide) ?_
    refine xj_iload_n (i := 1) d14_44_54 rfl rfl ?_
    refine xj_imul (v := nI (48 * fr)) d14_44_55 (pk_mul 48 fr) ?_
    refine xj_bipush (v := 12) d14_44_56 (by decide) ?_
    refine xj_iload_n (i := 2) d14_44_58 rfl rfl ?_
    refine xj_imul (v := nI (12 * s1)) d14_44_59 (pk_mul 12 s1) ?_
    refine xj_iadd (v := nI (48 * fr + (12 * s1))) d14_44_60 (nI_add (48 * fr) (12 * s1)) ?_
    refine xj_iload (i := 5) d14_44_61 rfl ?_
    refine xj_iadd (v := nI (48 * fr + (12 * s1) + i)) d14_44_63 (nI_add (48 * fr + (12 * s1)) i) ?_
    refine xj_iaload (j := 48 * fr + (12 * s1) + i) d14_44_64 hA (by omega) (show 47 < M.1 by omega) (vp_in_nI (by omega) (by omega)) (nI_clamp (by omega)) ?_
    rw [show (va_cpy lt lt (48 * fr + 12 * s1) (48 * to + 12 * t1) i) (48 * fr + (12 * s1) + i) = lt (48 * fr + 12 * s1 + i) from (by rw [va_cpy, if_neg (by omega)])]
    refine xj_iastore (j := 48 * to + (12 * t1) + i) (x' := lt (48 * fr + 12 * s1 + i)) d14_44_65 hA (by omega) (show 47 < M.1 by omega) (vp_in_nI (by omega) (by omega)) (nI_clamp (by omega)) rfl ?_
    refine xj_abs_set (fun M1 hs1 ha1 ho1 => ?_)
    refine xj_iinc (v := nI (i + 1)) (L' := [(5, .int (nI (i + 1))), (0, .ref 24), (1, .int (nI fr)), (2, .int (nI s1)), (3, .int (nI to)), (4, .int (nI t1))]) d14_44_66 rfl (xinc _) (by decide) rfl ?_
    refine xj_goto (tgt := 24) d14_44_69 rfl ?_
    exact ih (i + 1) M1 (by omega) (by omega) (fun j hj => (ho1 j hj).trans (hfr j hj)) (by rw [← rcpy_st]; exact ha1)
set_option maxRecDepth 20000 in
theorem mCs {G : xG} (hg : xGood G) {M : xM} {n : Nat} (hn : M.1 = n) (hx : xn ≤ n) {dl : Nat} {pl : Nat} {vc : Nat} {tk : Nat} {hc : Nat} {sn : Nat} {y13 : Int32} {y22 : Int32} {y23 : Int32} {y24 : Int32} {y33 : Int32} {y36 : Int32} {y37 : Int32} {y38 : Int32} {y39 : Int32} {lg : Nat → Int32} {lt : Nat → Int32} {fr : Nat} {s1 : Nat} {to : Nat} {t1 : Nat} (h1_24 : xn ≤ 24) (h2_24 : 24 < n) (h_24 : M.2 24 = (.inr (12, [.ref 25, .ref 26, .ref 27, .ref 28, .ref 29, .ref 30, .int (nI sn), .int (nI vc), .int (nI tk), .ref 31, .int (nI dl), .ref 32, .int (nI pl), .int y13, .ref 33, .ref 34, .ref 35, .ref 36, .ref 37, .ref 38, .ref 39, .ref 40, .int y22, .int y23, .int y24, .ref 41, .ref 42, .ref 43, .ref 44, .ref 45, .ref 46, .ref 47, .ref 48, .int y33, .ref 49, .ref 50, .int y36, .int y37, .int y38, .int y39, .int (nI hc), .ref 51]))) (h1_47 : xn ≤ 47) (h2_47 : 47 < n) (h_47 : M.2 47 = (.inl (0, 1536, .inl lt))) (h1_48 : xn ≤ 48) (h2_48 : 48 < n) (h_48 : M.2 48 = (.inl (0, 128, .inl lg))) (hxn : xn = 16) (hn2 : 52 ≤ n) (hfr1 : fr < 32) (hto1 : to < 32) (hss4 : s1 < 4) (htt4 : t1 < 4) (hft : fr ≠ to) : XC G Y14_44 none 0 0 0 [.ref 24, .int (nI fr), .int (nI s1), .int (nI to), .int (nI t1)] M (fun v M' => v = none ∧ M'.1 = n ∧ (∀ j, j < n → j ≠ 48 → j ≠ 47 → M'.2 j = M.2 j) ∧ M'.2 48 = (.inl (0, 128, .inl (upd lg (4 * to + t1) (lg (4 * fr + s1))))) ∧ M'.2 47 = (.inl (0, 1536, .inl (va_cpy lt lt (48 * fr + 12 * s1) (48 * to + 12 * t1) 12)))) := by
  refine xc_of hg (by decide) (Nat.le_of_ble_eq_true rfl) (Or.inr (Or.inr (Or.inr (Or.inr (Or.inl ⟨rfl, rfl, fun v M' h => h.1⟩))))) ?_
  refine xj_aload_n (i := 0) d14_44_0 rfl rfl ?_
  refine xj_get d14_44_1 f14_80_12 h_24 (by omega) (show 24 < M.1 by omega) rfl ?_
  refine xj_iconst (v := 4) d14_44_4 (by decide) ?_
  refine xj_iload_n (i := 3) d14_44_5 rfl rfl ?_
  refine xj_imul (v := nI (4 * to)) d14_44_6 (pk_mul 4 to) ?_
  refine xj_iload (i := 4) d14_44_7 rfl ?_
  refine xj_iadd (v := nI (4 * to + t1)) d14_44_9 (nI_add (4 * to) t1) ?_
  refine xj_aload_n (i := 0) d14_44_10 rfl rfl ?_
  refine xj_get d14_44_11 f14_80_12 h_24 (by omega) (show 24 < M.1 by omega) rfl ?_
  refine xj_iconst (v := 4) d14_44_14 (by decide) ?_
  refine xj_iload_n (i := 1) d14_44_15 rfl rfl ?_
  refine xj_imul (v := nI (4 * fr)) d14_44_16 (pk_mul 4 fr) ?_
  refine xj_iload_n (i := 2) d14_44_17 rfl rfl ?_
  refine xj_iadd (v := nI (4 * fr + s1)) d14_44_18 (nI_add (4 * fr) s1) ?_
  refine xj_iaload (j := 4 * fr + s1) d14_44_19 h_48 (by omega) (show 48 < M.1 by omega) (vp_in_nI (by omega) (by omega)) (nI_clamp (by omega)) ?_
  refine xj_iastore (j := 4 * to + t1) (x' := lg (4 * fr + s1)) d14_44_20 h_48 (by omega) (show 48 < M.1 by omega) (vp_in_nI (by omega) (by omega)) (nI_clamp (by omega)) rfl ?_
  refine xj_abs_set (fun M1 hs1 ha1 ho1 => ?_)
  refine xj_iconst (v := 0) d14_44_21 (by decide) ?_
  refine xj_istore (i := 5) (L' := [(5, .int 0), (0, .ref 24), (1, .int (nI fr)), (2, .int (nI s1)), (3, .int (nI to)), (4, .int (nI t1))]) d14_44_22 (by decide) rfl ?_
  refine mCsL (n := n) (M0 := M1) (lt := lt) hxn hn2 ((ho1 24 (by omega)).trans h_24) hfr1 hto1 hss4 htt4 hft (fun Md hsd hod had => ?_) 12 0 M1 (by omega) (by omega) (fun j _ => rfl) (by rw [rcpy_0]; exact ((ho1 47 (by omega)).trans h_47))
  exact xj_ret d14_44_72 (by omega) (by omega) rfl ⟨rfl, (show Md.1 = n by omega), (fun j hj hj0 hj1 => ((hod j (by omega)).trans (ho1 j (by omega)))), ((hod 48 (by omega)).trans ha1), had⟩

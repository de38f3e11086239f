set_option maxRecDepth 20000 in
theorem mAlone {G : xG} (hg : xGood G) {M : xM} {n : Nat} (hn : M.1 = n) (hx : xn ≤ n) {dl : Nat} {pl : Nat} {vc : Nat} {tk : Nat} {hc : Nat} {sn : Nat} {y13 : Int32} {y22 : Int32} {y23 : Int32} {y24 : Int32} {y33 : Int32} {y36 : Int32} {y37 : Int32} {y38 : Int32} {y39 : Int32} {st : Nat → Int32} {lg : Nat → Int32} {nn : Nat} (h1_24 : xn ≤ 24) (h2_24 : 24 < n) (h_24 : M.2 24 = (.inr (12, [.ref 25, .ref 26, .ref 27, .ref 28, .ref 29, .ref 30, .int (nI sn), .int (nI vc), .int (nI tk), .ref 31, .int (nI dl), .ref 32, .int (nI pl), .int y13, .ref 33, .ref 34, .ref 35, .ref 36, .ref 37, .ref 38, .ref 39, .ref 40, .int y22, .int y23, .int y24, .ref 41, .ref 42, .ref 43, .ref 44, .ref 45, .ref 46, .ref 47, .ref 48, .int y33, .ref 49, .ref 50, .int y36, .int y37, .int y38, .int y39, .int (nI hc), .ref 51]))) (h1_46 : xn ≤ 46) (h2_46 : 46 < n) (h_46 : M.2 46 = (.inl (0, 32, .inl st))) (h1_48 : xn ≤ 48) (h2_48 : 48 < n) (h_48 : M.2 48 = (.inl (0, 128, .inl lg))) (hxn : xn = 16) (hn2 : 52 ≤ n) (hnn : nn < 32) : XC G Y14_43 none 0 0 0 [.ref 24, .int (nI nn)] M (fun v M' => v = none ∧ M'.1 = n ∧ (∀ j, j < n → j ≠ 46 → j ≠ 48 → M'.2 j = M.2 j) ∧ M'.2 46 = (.inl (0, 32, .inl (upd st nn 1))) ∧ M'.2 48 = (.inl (0, 128, .inl (upd lg (4 * nn) 0)))) := by
  refine xc_of hg (by decide) (Nat.le_of_ble_eq_true rfl) (Or.inr (Or.inr (Or.inr (Or.inr (Or.inl ⟨rfl, rfl, fun v M' h => h.1⟩))))) ?_
  refine xj_aload_n (i := 0) d14_43_0 rfl rfl ?_
  refine xj_get d14_43_1 f14_74_12 h_24 (by omega) (show 24 < M.1 by omega) rfl ?_
  refine xj_iload_n (i := 1) d14_43_4 rfl rfl ?_
  refine xj_iconst (v := 1) d14_43_5 (by decide) ?_
  refine xj_iastore (j := nn) (x' := 1) d14_43_6 h_46 (by omega) (show 46 < M.1 by omega) (vp_in_nI (by omega) (by omega)) (nI_clamp (by omega)) rfl ?_
  refine xj_abs_set (fun M1 hs1 ha1 ho1 => ?_)
  refine xj_aload_n (i := 0) d14_43_7 rfl rfl ?_
  refine xj_get d14_43_8 f14_80_12 ((ho1 24 (by omega)).trans h_24) (by omega) (show 24 < M1.1 by omega) rfl ?_
  refine xj_iconst (v := 4) d14_43_11 (by decide) ?_
  refine xj_iload_n (i := 1) d14_43_12 rfl rfl ?_
  refine xj_imul (v := nI (4 * nn)) d14_43_13 (pk_mul 4 nn) ?_
  refine xj_iconst (v := 0) d14_43_14 (by decide) ?_
  refine xj_iastore (j := 4 * nn) (x' := 0) d14_43_15 ((ho1 48 (by omega)).trans h_48) (by omega) (show 48 < M1.1 by omega) (vp_in_nI (by omega) (by omega)) (nI_clamp (by omega)) rfl ?_
  refine xj_abs_set (fun M2 hs2 ha2 ho2 => ?_)
  exact xj_ret d14_43_16 (by omega) (by omega) rfl ⟨rfl, (show M2.1 = n by omega), (fun j hj hj0 hj1 => ((ho2 j (by omega)).trans (ho1 j (by omega)))), ((ho2 46 (by omega)).trans ha1), ha2⟩
set_option maxRecDepth 20000 in
theorem mCsL {G : xG} (hxn : xn = 16) {M0 : xM} {n : Nat} (hn2 : 52 ≤ n) {dl : Nat} {pl : Nat} {vc : Nat} {tk : Nat} {hc : Nat} {sn : Nat} {y13 : Int32} {y22 : Int32} {y23 : Int32} {y24 : Int32} {y33 : Int32} {y36 : Int32} {y37 : Int32} {y38 : Int32} {y39 : Int32} {lt : Nat → Int32} {fr to s1 t1 : Nat} (h_24 : M0.2 24 = (.inr (12, [.ref 25, .ref 26, .ref 27, .ref 28, .ref 29, .ref 30, .int (nI sn), .int (nI vc), .int (nI tk), .ref 31, .int (nI dl), .ref 32, .int (nI pl), .int y13, .ref 33, .ref 34, .ref 35, .ref 36, .ref 37, .ref 38, .ref 39, .ref 40, .int y22, .int y23, .int y24, .ref 41, .ref 42, .ref 43, .ref 44, .ref 45, .ref 46, .ref 47, .ref 48, .int y33, .ref 49, .ref 50, .int y36, .int y37, .int y38, .int y39, .int (nI hc), .ref 51]))) (hfr1 : fr < 32) (hto1 : to < 32) (hss4 : s1 < 4) (htt4 : t1 < 4) (hft : fr ≠ to) {d ce se cells slots : Nat} {Post : Option Value → xM → Prop} (K : ∀ M : xM, M.1 = n → (∀ j, j ≠ 47 → M.2 j = M0.2 j) → M.2 47 = (.inl (0, 1536, .inl (va_cpy lt lt (48 * fr + 12 * s1) (48 * to + 12 * t1) 12))) → XJ G Y14_44 d ce se cells slots 72 [(5, .int (nI 12)), (0, .ref 24), (1, .int (nI fr)), (2, .int (nI s1)), (3, .int (nI to)), (4, .int (nI t1))] [] M Post) : ∀ (r i : Nat) (M : xM), i + r = 12 → M.1 = n → (∀ j, j ≠ 47 → M.2 j = M0.2 j) → M.2 47 = (.inl (0, 1536, .inl (va_cpy lt lt (48 * fr + 12 * s1) (48 * to + 12 * t1) i))) → XJ G Y14_44 d ce se cells slots 24 [(5, .int (nI i)), (0, .ref 24), (1, .int (nI fr)), (2, .int (nI s1)), (3, .int (nI to)), (4, .int (nI t1))] [] M Post := by
  intro r
  induction r with
  | zero =>
    intro i M hi hm hfr hA
    have hi' : i = 12 := by omega
    subst i
    refine xj_iload (i := 5) d14_44_24 rfl ?_
    refine xj_bipush (v := 12) d14_44_26 (by decide) ?_
    refine xj_icmp_ge (tgt := 72) d14_44_28 rfl (fun _ => ?_) (fun h => absurd (nI_le (a := 12) (b := 12) (by omega) (by omega)) h)
    exact K M hm hfr hA
  | succ r ih =>
    intro i M hi hm hfr hA
    refine xj_iload (i := 5) d14_44_24 rfl ?_
    refine xj_bipush (v := 12) d14_44_26 (by decide) ?_
    refine xj_icmp_ge (tgt := 72) d14_44_28 rfl (fun h => absurd h (nI_ge (a := i) (b := 12) (by omega) (by omega))) (fun _ => ?_)
    refine xj_aload_n (i := 0) d14_44_31 rfl rfl ?_
    refine xj_get d14_44_32 f14_77_12 ((hfr 24 (by omega)).trans h_24) (by omega) (show 24 < M.1 by omega) rfl ?_
    refine xj_bipush (v := 48) d14_44_35 (by decide) ?_
    refine xj_iload_n (i := 3) d14_44_37 rfl rfl ?_
    refine xj_imul (v := nI (48 * to)) d14_44_38 (pk_mul 48 to) ?_
    refine xj_bipush (v := 12) d14_44_39 (by decide) ?_
    refine xj_iload (i := 4) d14_44_41 rfl ?_
    refine xj_imul (v := nI (12 * t1)) d14_44_43 (pk_mul 12 t1) ?_
    refine xj_iadd (v := nI (48 * to + (12 * t1))) d14_44_44 (nI_add (48 * to) (12 * t1)) ?_
    refine xj_iload (i := 5) d14_44_45 rfl ?_
    refine xj_iadd (v := nI (48 * to + (12 * t1) + i)) d14_44_47 (nI_add (48 * to + (12 * t1)) i) ?_
    refine xj_aload_n (i := 0) d14_44_48 rfl rfl ?_
    refine xj_get d14_44_49 f14_77_12 ((hfr 24 (by omega)).trans h_24) (by omega) (show 24 < M.1 by omega) rfl ?_
    refine xj_bipush (v := 48) d14_44_52 (by decide) ?_
    refine xj_iload_n (i := 1) d14_44_54 rfl rfl ?_
    refine xj_imul (v := nI (48 * fr)) d14_44_55 (pk_mul 48 fr) ?_
    refine xj_bipush (v := 12) d14_44_56 (by decide) ?_
    refine xj_iload_n (i := 2) d14_44_58 rfl rfl ?_
    refine xj_imul (v := nI (12 * s1)) d14_44_59 (pk_mul 12 s1) ?_
    refine xj_iadd (v := nI (48 * fr + (12 * s1))) d14_44_60 (nI_add (48 * fr) (12 * s1)) ?_
    refine xj_iload (i := 5) d14_44_61 rfl ?_
    refine xj_iadd (v := nI (48 * fr + (12 * s1) + i)) d14_44_63 (nI_add (48 * fr + (12 * s1)) i) ?_
    refine xj_iaload (j := 48 * fr + (12 * s1) + i) d14_44_64 hA (by omega) (show 47 < M.1 by omega) (vp_in_nI (by omega) (by omega)) (nI_clamp (by omega)) ?_
    rw [show (va_cpy lt lt (48 * fr + 12 * s1) (48 * to + 12 * t1) i) (48 * fr + (12 * s1) + i) = lt (48 * fr + 12 * s1 + i) from (by rw [va_cpy, if_neg (by omega)])]
    refine xj_iastore (j := 48 * to + (12 * t1) + i) (x' := lt (48 * fr + 12 * s1 + i)) d14_44_65 hA (by omega) (show 47 < M.1 by omega) (vp_in_nI (by omega) (by omega)) (nI_clamp (by omega)) rfl ?_
    refine xj_abs_set (fun M1 hs1 ha1 ho1 => ?_)
    refine xj_iinc (v := nI (i + 1)) (L' := [(5, .int (nI (i + 1))), (0, .ref 24), (1, .int (nI fr)), (2, .int (nI s1)), (3, .int (nI to)), (4, .int (nI t1))]) d14_44_66 rfl (xinc _) (by decide) rfl ?_
    refine xj_goto (tgt := 24) d14_44_69 rfl ?_
    exact ih (i + 1) M1 (by omega) (by omega) (fun j hj => (ho1 j hj).trans (hfr j hj)) (by rw [← rcpy_st]; exact ha1)
set_option maxRecDepth 20000 in
theorem mCs {G : xG} (hg : xGood G) {M : xM} {n : Nat} (hn : M.1 = n) (hx : xn ≤ n) {dl : Nat} {pl : Nat} {vc : Nat} {tk : Nat} {hc : Nat} {sn : Nat} {y13 : Int32} {y22 : Int32} {y23 : Int32} {y24 : Int32} {y33 : Int32} {y36 : Int32} {y37 : Int32} {y38 : Int32} {y39 : Int32} {lg : Nat → Int32} {lt : Nat → Int32} {fr : Nat} {s1 : Nat} {to : Nat} {t1 : Nat} (h1_24 : xn ≤ 24) (h2_24 : 24 < n) (h_24 : M.2 24 = (.inr (12, [.ref 25, .ref 26, .ref 27, .ref 28, .ref 29, .ref 30, .int (nI sn), .int (nI vc), .int (nI tk), .ref 31, .int (nI dl), .ref 32, .int (nI pl), .int y13, .ref 33, .ref 34, .ref 35, .ref 36, .ref 37, .ref 38, .ref 39, .ref 40, .int y22, .int y23, .int y24, .ref 41, .ref 42, .ref 43, .ref 44, .ref 45, .ref 46, .ref 47, .ref 48, .int y33, .ref 49, .ref 50, .int y36, .int y37, .int y38, .int y39, .int (nI hc), .ref 51]))) (h1_47 : xn ≤ 47) (h2_47 : 47 < n) (h_47 : M.2 47 = (.inl (0, 1536, .inl lt))) (h1_48 : xn ≤ 48) (h2_48 : 48 < n) (h_48 : M.2 48 = (.inl (0, 128, .inl lg))) (hxn : xn = 16) (hn2 : 52 ≤ n) (hfr1 : fr < 32) (hto1 : to < 32) (hss4 : s1 < 4) (htt4 : t1 < 4) (hft : fr ≠ to) : XC G Y14_44 none 0 0 0 [.ref 24, .int (nI fr), .int (nI s1), .int (nI to), .int (nI t1)] M (fun v M' => v = none ∧ M'.1 = n ∧ (∀ j, j < n → j ≠ 48 → j ≠ 47 → M'.2 j = M.2 j) ∧ M'.2 48 = (.inl (0, 128, .inl (upd lg (4 * to + t1) (lg (4 * fr + s1))))) ∧ M'.2 47 = (.inl (0, 1536, .inl (va_cpy lt lt (48 * fr + 12 * s1) (48 * to + 12 * t1) 12)))) := by
  refine xc_of hg (by decide) (Nat.le_of_ble_eq_true rfl) (Or.inr (Or.inr (Or.inr (Or.inr (Or.inl ⟨rfl, rfl, fun v M' h => h.1⟩))))) ?_
  refine xj_aload_n (i := 0) d14_44_0 rfl rfl ?_
  refine xj_get d14_44_1 f14_80_12 h_24 (by omega) (show 24 < M.1 by omega) rfl ?_
  refine xj_iconst (v := 4) d14_44_4 (by decide) ?_
  refine xj_iload_n (i := 3) d14_44_5 rfl rfl ?_
  refine xj_imul (v := nI (4 * to)) d14_44_6 (pk_mul 4 to) ?_
  refine xj_iload (i := 4) d14_44_7 rfl ?_
  refine xj_iadd (v := nI (4 * to + t1)) d14_44_9 (nI_add (4 * to) t1) ?_
  refine xj_aload_n (i := 0) d14_44_10 rfl rfl ?_
  refine xj_get d14_44_11 f14_80_12 h_24 (by omega) (show 24 < M.1 by omega) rfl ?_
  refine xj_iconst (v := 4) d14_44_14 (by decide) ?_
  refine xj_iload_n (i := 1) d14_44_15 rfl rfl ?_
  refine xj_imul (v := nI (4 * fr)) d14_44_16 (pk_mul 4 fr) ?_
  refine xj_iload_n (i := 2) d14_44_17 rfl rfl ?_
  refine xj_iadd (v := nI (4 * fr + s1)) d14_44_18 (nI_add (4 * fr) s1) ?_
  refine xj_iaload (j := 4 * fr + s1) d14_44_19 h_48 (by omega) (show 48 < M.1 by omega) (vp_in_nI (by omega) (by omega)) (nI_clamp (by omega)) ?_
  refine xj_iastore (j := 4 * to + t1) (x' := lg (4 * fr + s1)) d14_44_20 h_48 (by omega) (show 48 < M.1 by omega) (vp_in_nI (by omega) (by omega)) (nI_clamp (by omega)) rfl ?_
  refine xj_abs_set (fun M1 hs1 ha1 ho1 => ?_)
  refine xj_iconst (v := 0) d14_44_21 (by decide) ?_
  refine xj_istore (i := 5) (L' := [(5, .int 0), (0, .ref 24), (1, .int (nI fr)), (2, .int (nI s1)), (3, .int (nI to)), (4, .int (nI t1))]) d14_44_22 (by decide) rfl ?_
  refine mCsL (n := n) (M0 := M1) (lt := lt) hxn hn2 ((ho1 24 (by omega)).trans h_24) hfr1 hto1 hss4 htt4 hft (fun Md hsd hod had => ?_) 12 0 M1 (by omega) (by omega) (fun j _ => rfl) (by rw [rcpy_0]; exact ((ho1 47 (by omega)).trans h_47))
  exact xj_ret d14_44_72 (by omega) (by omega) rfl ⟨rfl, (show Md.1 = n by omega), (fun j hj hj0 hj1 => ((hod j (by omega)).trans (ho1 j (by omega)))), ((hod 48 (by omega)).trans ha1), had⟩
set_option maxRecDepth 20000 in
theorem mCopyL {G : xG} (hg : xGood G) (hxn : xn = 16) {n : Nat} (hn2 : 52 ≤ n) {dl : Nat} {pl : Nat} {vc : Nat} {tk : Nat} {hc : Nat} {sn : Nat} {y13 : Int32} {y22 : Int32} {y23 : Int32} {y24 : Int32} {y33 : Int32} {y36 : Int32} {y37 : Int32} {y38 : Int32} {y39 : Int32} {M0 : xM} {S : List (List Int32)} {fr to : Nat} {st0 lg0 lt0 : Nat → Int32} (hfr1 : fr < 32) (hto1 : to < 32) (hft : fr ≠ to) {d ce se cells slots : Nat} {Post : Option Value → xM → Prop} (hd : 1 ≤ d) (hcc : cells ≤ ce) (hss : slots ≤ se) (K : ∀ (M : xM) (st lg lt : Nat → Int32), rT M0 M st lg lt → rL st lg lt to S → (∀ m, m ≠ to → rSame st0 lg0 lt0 st lg lt m) → XJ G Y14_45 d ce se cells slots 38 [(3, .int (nI S.length)), (0, .ref 24), (1, .int (nI fr)), (2, .int (nI to))] [] M Post) : ∀ (r i : Nat) (M : xM) (st lg lt : Nat → Int32), i + r = S.length → rT M0 M st lg lt → M.2 24 = (.inr (12, [.ref 25, .ref 26, .ref 27, .ref 28, .ref 29, .ref 30, .int (nI sn), .int (nI vc), .int (nI tk), .ref 31, .int (nI dl), .ref 32, .int (nI pl), .int y13, .ref 33, .ref 34, .ref 35, .ref 36, .ref 37, .ref 38, .ref 39, .ref 40, .int y22, .int y23, .int y24, .ref 41, .ref 42, .ref 43, .ref 44, .ref 45, .ref 46, .ref 47, .ref 48, .int y33, .ref 49, .ref 50, .int y36, .int y37, .int y38, .int y39, .int (nI hc), .ref 51])) → M.1 = n → rL st lg lt fr S → st to = nI S.length → (∀ (k : Nat) (s : List Int32), k < i → S[k]? = some s → rS lg lt to k s) → (∀ m, m ≠ to → rSame st0 lg0 lt0 st lg lt m) → XJ G Y14_45 d ce se cells slots 14 [(3, .int (nI i)), (0, .ref 24), (1, .int (nI fr)), (2, .int (nI to))] [] M Post := by
  intro r
  induction r with
  | zero =>
    intro i M st lg lt hi hT h_24 hn hL hto hrw hS
    obtain ⟨-, -, k46, k47, k48⟩ := id hT
    have hi' : i = S.length := by omega
    have hl4 := hL.2.1
    subst hi'
    refine xj_iload_n (i := 3) d14_45_14 rfl rfl ?_
    refine xj_aload_n (i := 0) d14_45_15 rfl rfl ?_
    refine xj_get d14_45_16 f14_74_12 h_24 (by omega) (show 24 < M.1 by omega) rfl ?_
    refine xj_iload_n (i := 1) d14_45_19 rfl rfl ?_
    refine xj_iaload (j := fr) d14_45_20 k46 (by omega) (show 46 < M.1 by omega) (vp_in_nI (by omega) (by omega)) (nI_clamp (by omega)) ?_
    rw [show st fr = nI S.length from hL.1]
    refine xj_icmp_ge (tgt := 38) d14_45_21 rfl (fun _ => ?_) (fun h => absurd (nI_le (a := S.length) (b := S.length) (by omega) (by omega)) h)
    exact K M st lg lt hT ⟨hto, hL.2.1, fun k s hk => hrw k s (List.getElem?_eq_some_iff.mp hk).1 hk⟩ hS
  | succ r ih =>
    intro i M st lg lt hi hT h_24 hn hL hto hrw hS
    obtain ⟨-, -, k46, k47, k48⟩ := id hT
    have hl4 := hL.2.1
    have hi4 : i < 4 := by omega
    obtain ⟨w, hw⟩ : ∃ w, S[i]? = some w := ⟨_, List.getElem?_eq_getElem (show i < S.length by omega)⟩
    refine xj_iload_n (i := 3) d14_45_14 rfl rfl ?_
    refine xj_aload_n (i := 0) d14_45_15 rfl rfl ?_
    refine xj_get d14_45_16 f14_74_12 h_24 (by omega) (show 24 < M.1 by omega) rfl ?_
    refine xj_iload_n (i := 1) d14_45_19 rfl rfl ?_
    refine xj_iaload (j := fr) d14_45_20 k46 (by omega) (show 46 < M.1 by omega) (vp_in_nI (by omega) (by omega)) (nI_clamp (by omega)) ?_
    rw [show st fr = nI S.length from hL.1]
    refine xj_icmp_ge (tgt := 38) d14_45_21 rfl (fun h => absurd h (nI_ge (a := i) (b := S.length) (by omega) (by omega))) (fun _ => ?_)
    refine xj_aload_n (i := 0) d14_45_24 rfl rfl ?_
    refine xj_iload_n (i := 1) d14_45_25 rfl rfl ?_
    refine xj_iload_n (i := 3) d14_45_26 rfl rfl ?_
    refine xj_iload_n (i := 2) d14_45_27 rfl rfl ?_
    refine xj_iload_n (i := 3) d14_45_28 rfl rfl ?_
    refine xj_callV (rest := []) (As := [.int (nI fr), .int (nI i), .int (nI to), .int (nI i)]) (b := 24) (mCs hg (M := M) (n := n) (dl := dl) (pl := pl) (vc := vc) (tk := tk) (hc := hc) (sn := sn) (y13 := y13) (y22 := y22) (y23 := y23) (y24 := y24) (y33 := y33) (y36 := y36) (y37 := y37) (y38 := y38) (y39 := y39) (lg := lg) (lt := lt) (fr := fr) (s1 := i) (to := to) (t1 := i) (show M.1 = n by omega) (by omega) (by omega) (by omega) h_24 (by omega) (by omega) k47 (by omega) (by omega) k48 hxn hn2 (by omega) (by omega) (by omega) (by omega) hft) d14_45_29 wd14_44 h_24 (by omega) (show 24 < M.1 by omega) rfl s14_44 w1322 (Or.inl w1320) rfl rfl (Nat.le_of_ble_eq_true rfl) (by omega) (by omega) (by omega) ?_
    rintro v M1 ⟨rfl, hs1, ho1, hf1_0, hf1_1⟩
    replace hs1 : M1.1 = n := hs1
    replace hf1_0 : M1.2 48 = (.inl (0, 128, .inl (upd lg (4 * to + i) (lg (4 * fr + i))))) := hf1_0
    replace hf1_1 : M1.2 47 = (.inl (0, 1536, .inl (va_cpy lt lt (48 * fr + 12 * i) (48 * to + 12 * i) 12))) := hf1_1
    refine xj_iinc (v := nI (i + 1)) (L' := [(3, .int (nI (i + 1))), (0, .ref 24), (1, .int (nI fr)), (2, .int (nI to))]) d14_45_32 rfl (xinc _) (by decide) rfl ?_
    refine xj_goto (tgt := 14) d14_45_35 rfl ?_
    have hT9 : rT M M1 st _ _ := ⟨(show M1.1 = M.1 by omega), (fun j hj a b c => (ho1 j (by omega) (by omega) (by omega))), ((ho1 46 (by omega) (by omega) (by omega)).trans k46), hf1_1, hf1_0⟩
    refine ih (i + 1) M1 st _ _ (by omega) (rT_t hT hT9) (by rw [(ho1 24 (by omega) (by omega) (by omega))]; exact h_24) (by omega) ⟨hL.1, hL.2.1, fun k s hk => ?_⟩ hto (fun k s hk hk2 => ?_) (fun m hm => rSame_t (hS m hm) ⟨rfl, rcp_step hft hi4 hm⟩)
    · exact rS_same (hL.2.2 k s hk) (by have := (List.getElem?_eq_some_iff.mp hk).1; have := hL.2.1; omega) (rcp_step (lt := lt) hft hi4 hft).1 (rcp_step (lg := lg) hft hi4 hft).2
    · by_cases hki : k = i
      · subst hki
        rw [hw] at hk2
        cases hk2
        exact rcp_new (hL.2.2 k w hw)
      · exact rcp_old (hrw k s (by omega) hk2) (by omega) hi4
set_option maxRecDepth 20000 in
theorem mCopy {G : xG} (hg : xGood G) (hxn : xn = 16) {n : Nat} (hn2 : 52 ≤ n) {dl : Nat} {pl : Nat} {vc : Nat} {tk : Nat} {hc : Nat} {sn : Nat} {y13 : Int32} {y22 : Int32} {y23 : Int32} {y24 : Int32} {y33 : Int32} {y36 : Int32} {y37 : Int32} {y38 : Int32} {y39 : Int32} {M : xM} (hn : M.1 = n) {S : List (List Int32)} {fr to : Nat} {st lg lt : Nat → Int32} (h_24 : M.2 24 = (.inr (12, [.ref 25, .ref 26, .ref 27, .ref 28, .ref 29, .ref 30, .int (nI sn), .int (nI vc), .int (nI tk), .ref 31, .int (nI dl), .ref 32, .int (nI pl), .int y13, .ref 33, .ref 34, .ref 35, .ref 36, .ref 37, .ref 38, .ref 39, .ref 40, .int y22, .int y23, .int y24, .ref 41, .ref 42, .ref 43, .ref 44, .ref 45, .ref 46, .ref 47, .ref 48, .int y33, .ref 49, .ref 50, .int y36, .int y37, .int y38, .int y39, .int (nI hc), .ref 51]))) (k46 : M.2 46 = .inl (0, 32, .inl st)) (k47 : M.2 47 = .inl (0, 1536, .inl lt)) (k48 : M.2 48 = .inl (0, 128, .inl lg)) (hfr1 : fr < 32) (hto1 : to < 32) (hft : fr ≠ to) (hL : rL st lg lt fr S) : XC G Y14_45 none 1 0 0 [.ref 24, .int (nI fr), .int (nI to)] M (fun v M' => v = none ∧ ∃ st' lg' lt', rT M M' st' lg' lt' ∧ rL st' lg' lt' to S ∧ ∀ m, m ≠ to → rSame st lg lt st' lg' lt' m) := by
  have hl4 := hL.2.1
  refine xc_of hg (by decide) (Nat.le_of_ble_eq_true rfl) (Or.inr (Or.inr (Or.inr (Or.inr (Or.inl ⟨rfl, rfl, fun v M' h => h.1⟩))))) ?_
  refine xj_aload_n (i := 0) d14_45_0 rfl rfl ?_
  refine xj_get d14_45_1 f14_74_12 h_24 (by omega) (show 24 < M.1 by omega) rfl ?_
  refine xj_iload_n (i := 2) d14_45_4 rfl rfl ?_
  refine xj_aload_n (i := 0) d14_45_5 rfl rfl ?_
  refine xj_get d14_45_6 f14_74_12 h_24 (by omega) (show 24 < M.1 by omega) rfl ?_
  refine xj_iload_n (i := 1) d14_45_9 rfl rfl ?_
  refine xj_iaload (j := fr) d14_45_10 k46 (by omega) (show 46 < M.1 by omega) (vp_in_nI (by omega) (by omega)) (nI_clamp (by omega)) ?_
  rw [show st fr = nI S.length from hL.1]
  refine xj_iastore (j := to) (x' := nI S.length) d14_45_11 k46 (by omega) (show 46 < M.1 by omega) (vp_in_nI (by omega) (by omega)) (nI_clamp (by omega)) rfl ?_
  refine xj_abs_set (fun M1 hs1 ha1 ho1 => ?_)
  refine xj_iconst (v := 0) d14_45_12 (by decide) ?_
  refine xj_istore_n (i := 3) (L' := [(3, .int 0), (0, .ref 24), (1, .int (nI fr)), (2, .int (nI to))]) d14_45_13 rfl (by decide) rfl ?_
  have hT1 : rT M M1 (upd st to (nI S.length)) lg lt := ⟨(show M1.1 = M.1 by omega), (fun j hj a b c => (ho1 j (by omega))), ha1, ((ho1 47 (by omega)).trans k47), ((ho1 48 (by omega)).trans k48)⟩
  refine mCopyL hg hxn hn2 (M0 := M) (st0 := st) (lg0 := lg) (lt0 := lt) hfr1 hto1 hft (by omega) (by omega) (by omega) (fun M9 st9 lg9 lt9 h1 h2 h3 => ?_) S.length 0 M1 _ _ _ (by omega) hT1 ((ho1 24 (by omega)).trans h_24) (show M1.1 = n by omega) ⟨(if_neg hft).trans hL.1, hL.2.1, hL.2.2⟩ (if_pos rfl) (fun k s hk => absurd hk (by omega)) (fun m hm => ⟨if_neg hm, fun _ _ => rfl, fun _ _ => rfl⟩)
  exact xj_ret d14_45_38 (by omega) (by omega) rfl ⟨rfl, st9, lg9, lt9, h1, h2, h3⟩
set_option maxRecDepth 20000 in
theorem mSamL {G : xG} (hg : xGood G) (hxn : xn = 16) {n : Nat} (hn2 : 52 ≤ n) {dl : Nat} {pl : Nat} {vc : Nat} {tk : Nat} {hc : Nat} {sn : Nat} {y13 : Int32} {y22 : Int32} {y23 : Int32} {y24 : Int32} {y33 : Int32} {y36 : Int32} {y37 : Int32} {y38 : Int32} {y39 : Int32} {M : xM} (hn : M.1 = n) {st lg lt : Nat → Int32} {a1 s1 b1 t1 : Nat} {u w : List Int32} (h_24 : M.2 24 = (.inr (12, [.ref 25, .ref 26, .ref 27, .ref 28, .ref 29, .ref 30, .int (nI sn), .int (nI vc), .int (nI tk), .ref 31, .int (nI dl), .ref 32, .int (nI pl), .int y13, .ref 33, .ref 34, .ref 35, .ref 36, .ref 37, .ref 38, .ref 39, .ref 40, .int y22, .int y23, .int y24, .ref 41, .ref 42, .ref 43, .ref 44, .ref 45, .ref 46, .ref 47, .ref 48, .int y33, .ref 49, .ref 50, .int y36, .int y37, .int y38, .int y39, .int (nI hc), .ref 51]))) (k46 : M.2 46 = .inl (0, 32, .inl st)) (k47 : M.2 47 = .inl (0, 1536, .inl lt)) (k48 : M.2 48 = .inl (0, 128, .inl lg)) (ha1 : a1 < 32) (hs1 : s1 < 4) (hb1 : b1 < 32) (ht1 : t1 < 4) (hu : rS lg lt a1 s1 u) (hw : rS lg lt b1 t1 w) {d ce se cells slots : Nat} (hcc : cells ≤ ce) (hss : slots ≤ se) : ∀ (r k : Nat) (x : Int32), k + r = u.length → x = xB (u.length = w.length ∧ ∀ j, j < k → lt (48 * a1 + 12 * s1 + j) = lt (48 * b1 + 12 * t1 + j)) → XJ G Y14_46 d ce se cells slots 34 [(6, .int (nI k)), (5, .int x), (0, .ref 24), (1, .int (nI a1)), (2, .int (nI s1)), (3, .int (nI b1)), (4, .int (nI t1))] [] M (fun v M' => v = some (.int (xB (u = w))) ∧ M' = M) := by
  have hu12 := hu.1
  intro r
  induction r with
  | zero =>
    intro k x hk hx
    have hk' : k = u.length := by omega
    by_cases h12 : u.length = 12
    · skip
      refine xj_iload (i := 6) d14_46_34 rfl ?_
      refine xj_bipush (v := 12) d14_46_36 (by decide) ?_
      refine xj_icmp_ge (tgt := 112) d14_46_38 rfl (fun _ => ?_) (fun h => absurd (nI_le (a := 12) (b := k) (by omega) (by omega)) h)
      refine xj_iload (i := 5) d14_46_112 rfl ?_
      have hpp : (u.length = w.length ∧ ∀ j, j < u.length → lt (48 * a1 + 12 * s1 + j) = lt (48 * b1 + 12 * t1 + j)) = (u = w) := propext (rS_eq hu hw)
      exact xj_ret (v := some (.int x)) d14_46_114 hcc hss rfl ⟨by rw [hx, hk', hpp], rfl⟩
    · skip
      refine xj_iload (i := 6) d14_46_34 rfl ?_
      refine xj_bipush (v := 12) d14_46_36 (by decide) ?_
      refine xj_icmp_ge (tgt := 112) d14_46_38 rfl (fun h => absurd h (nI_ge (a := k) (b := 12) (by omega) (by omega))) (fun _ => ?_)
      refine xj_iload (i := 6) d14_46_41 rfl ?_
      refine xj_aload_n (i := 0) d14_46_43 rfl rfl ?_
      refine xj_get d14_46_44 f14_80_12 h_24 (by omega) (show 24 < M.1 by omega) rfl ?_
      refine xj_iconst (v := 4) d14_46_47 (by decide) ?_
      refine xj_iload_n (i := 1) d14_46_48 rfl rfl ?_
      refine xj_imul (v := nI (4 * a1)) d14_46_49 (pk_mul 4 a1) ?_
      refine xj_iload_n (i := 2) d14_46_50 rfl rfl ?_
      refine xj_iadd (v := nI (4 * a1 + s1)) d14_46_51 (nI_add (4 * a1) s1) ?_
      refine xj_iaload (j := 4 * a1 + s1) d14_46_52 k48 (by omega) (show 48 < M.1 by omega) (vp_in_nI (by omega) (by omega)) (nI_clamp (by omega)) ?_
      rw [show lg (4 * a1 + s1) = nI u.length from hu.2.1]
      refine xj_icmp_ge (tgt := 112) d14_46_53 rfl (fun _ => ?_) (fun h => absurd (nI_le (a := u.length) (b := k) (by omega) (by omega)) h)
      refine xj_iload (i := 5) d14_46_112 rfl ?_
      have hpp : (u.length = w.length ∧ ∀ j, j < u.length → lt (48 * a1 + 12 * s1 + j) = lt (48 * b1 + 12 * t1 + j)) = (u = w) := propext (rS_eq hu hw)
      exact xj_ret (v := some (.int x)) d14_46_114 hcc hss rfl ⟨by rw [hx, hk', hpp], rfl⟩
  | succ r ih =>
    intro k x hk hx
    refine xj_iload (i := 6) d14_46_34 rfl ?_
    refine xj_bipush (v := 12) d14_46_36 (by decide) ?_
    refine xj_icmp_ge (tgt := 112) d14_46_38 rfl (fun h => absurd h (nI_ge (a := k) (b := 12) (by omega) (by omega))) (fun _ => ?_)
    refine xj_iload (i := 6) d14_46_41 rfl ?_
    refine xj_aload_n (i := 0) d14_46_43 rfl rfl ?_
    refine xj_get d14_46_44 f14_80_12 h_24 (by omega) (show 24 < M.1 by omega) rfl ?_
    refine xj_iconst (v := 4) d14_46_47 (by decide) ?_
    refine xj_iload_n (i := 1) d14_46_48 rfl rfl ?_
    refine xj_imul (v := nI (4 * a1)) d14_46_49 (pk_mul 4 a1) ?_
    refine xj_iload_n (i := 2) d14_46_50 rfl rfl ?_
    refine xj_iadd (v := nI (4 * a1 + s1)) d14_46_51 (nI_add (4 * a1) s1) ?_
    refine xj_iaload (j := 4 * a1 + s1) d14_46_52 k48 (by omega) (show 48 < M.1 by omega) (vp_in_nI (by omega) (by omega)) (nI_clamp (by omega)) ?_
    rw [show lg (4 * a1 + s1) = nI u.length from hu.2.1]
    refine xj_icmp_ge (tgt := 112) d14_46_53 rfl (fun h => absurd h (nI_ge (a := k) (b := u.length) (by omega) (by omega))) (fun _ => ?_)
    refine xj_iload (i := 5) d14_46_56 rfl ?_
    refine xj_if_eq (tgt := 103) d14_46_58 rfl (fun hz9 => ?_) (fun hz9 => ?_)
    · refine xj_iconst (v := 0) d14_46_103 (by decide) ?_
      refine xj_istore (i := 5) (L' := [(5, .int 0), (6, .int (nI k)), (0, .ref 24), (1, .int (nI a1)), (2, .int (nI s1)), (3, .int (nI b1)), (4, .int (nI t1))]) d14_46_104 (by decide) rfl ?_
      refine xj_iinc (v := nI (k + 1)) (L' := [(6, .int (nI (k + 1))), (5, .int 0), (0, .ref 24), (1, .int (nI a1)), (2, .int (nI s1)), (3, .int (nI b1)), (4, .int (nI t1))]) d14_46_106 rfl (xinc _) (by decide) rfl ?_
      refine xj_goto (tgt := 34) d14_46_109 rfl ?_
      have hP9 : ¬ (u.length = w.length ∧ ∀ j, j < k → lt (48 * a1 + 12 * s1 + j) = lt (48 * b1 + 12 * t1 + j)) := xB_n (by rw [← hx]; exact hz9)
      exact ih (k + 1) _ (by omega) (by rw [xB_f (show ¬ (u.length = w.length ∧ ∀ j, j < k + 1 → lt (48 * a1 + 12 * s1 + j) = lt (48 * b1 + 12 * t1 + j)) from fun z => hP9 ⟨z.1, fun j hj => z.2 j (by omega)⟩)])
    · refine xj_aload_n (i := 0) d14_46_61 rfl rfl ?_
      refine xj_get d14_46_62 f14_77_12 h_24 (by omega) (show 24 < M.1 by omega) rfl ?_
      refine xj_bipush (v := 48) d14_46_65 (by decide) ?_
      refine xj_iload_n (i := 1) d14_46_67 rfl rfl ?_
      refine xj_imul (v := nI (48 * a1)) d14_46_68 (pk_mul 48 a1) ?_
      refine xj_bipush (v := 12) d14_46_69 (by decide) ?_
      refine xj_iload_n (i := 2) d14_46_71 rfl rfl ?_
      refine xj_imul (v := nI (12 * s1)) d14_46_72 (pk_mul 12 s1) ?_
      refine xj_iadd (v := nI (48 * a1 + (12 * s1))) d14_46_73 (nI_add (48 * a1) (12 * s1)) ?_
      refine xj_iload (i := 6) d14_46_74 rfl ?_
      refine xj_iadd (v := nI (48 * a1 + (12 * s1) + k)) d14_46_76 (nI_add (48 * a1 + (12 * s1)) k) ?_
      refine xj_iaload (j := 48 * a1 + (12 * s1) + k) d14_46_77 k47 (by omega) (show 47 < M.1 by omega) (vp_in_nI (by omega) (by omega)) (nI_clamp (by omega)) ?_
      refine xj_aload_n (i := 0) d14_46_78 rfl rfl ?_
      refine xj_get d14_46_79 f14_77_12 h_24 (by omega) (show 24 < M.1 by omega) rfl ?_
      refine xj_bipush (v := 48) d14_46_82 (by decide) ?_
      refine xj_iload_n (i := 3) d14_46_84 rfl rfl ?_
      refine xj_imul (v := nI (48 * b1)) d14_46_85 (pk_mul 48 b1) ?_
      refine xj_bipush (v := 12) d14_46_86 (by decide) ?_
      refine xj_iload (i := 4) d14_46_88 rfl ?_
      refine xj_imul (v := nI (12 * t1)) d14_46_90 (pk_mul 12 t1) ?_
      refine xj_iadd (v := nI (48 * b1 + (12 * t1))) d14_46_91 (nI_add (48 * b1) (12 * t1)) ?_
      refine xj_iload (i := 6) d14_46_92 rfl ?_
      refine xj_iadd (v := nI (48 * b1 + (12 * t1) + k)) d14_46_94 (nI_add (48 * b1 + (12 * t1)) k) ?_
      refine xj_iaload (j := 48 * b1 + (12 * t1) + k) d14_46_95 k47 (by omega) (show 47 < M.1 by omega) (vp_in_nI (by omega) (by omega)) (nI_clamp (by omega)) ?_
      refine xj_icmp_ne (tgt := 103) d14_46_96 rfl (fun hq9 => ?_) (fun hq9 => ?_)
      · refine xj_iconst (v := 0) d14_46_103 (by decide) ?_
        refine xj_istore (i := 5) (L' := [(5, .int 0), (6, .int (nI k)), (0, .ref 24), (1, .int (nI a1)), (2, .int (nI s1)), (3, .int (nI b1)), (4, .int (nI t1))]) d14_46_104 (by decide) rfl ?_
        refine xj_iinc (v := nI (k + 1)) (L' := [(6, .int (nI (k + 1))), (5, .int 0), (0, .ref 24), (1, .int (nI a1)), (2, .int (nI s1)), (3, .int (nI b1)), (4, .int (nI t1))]) d14_46_106 rfl (xinc _) (by decide) rfl ?_
        refine xj_goto (tgt := 34) d14_46_109 rfl ?_
        exact ih (k + 1) _ (by omega) (by rw [xB_f (show ¬ (u.length = w.length ∧ ∀ j, j < k + 1 → lt (48 * a1 + 12 * s1 + j) = lt (48 * b1 + 12 * t1 + j)) from fun z => hq9 (z.2 k (by omega)))])
      · refine xj_iconst (v := 1) d14_46_99 (by decide) ?_
        refine xj_goto (tgt := 104) d14_46_100 rfl ?_
        refine xj_istore (i := 5) (L' := [(5, .int 1), (6, .int (nI k)), (0, .ref 24), (1, .int (nI a1)), (2, .int (nI s1)), (3, .int (nI b1)), (4, .int (nI t1))]) d14_46_104 (by decide) rfl ?_
        refine xj_iinc (v := nI (k + 1)) (L' := [(6, .int (nI (k + 1))), (5, .int 1), (0, .ref 24), (1, .int (nI a1)), (2, .int (nI s1)), (3, .int (nI b1)), (4, .int (nI t1))]) d14_46_106 rfl (xinc _) (by decide) rfl ?_
        refine xj_goto (tgt := 34) d14_46_109 rfl ?_
        have hP9 : (u.length = w.length ∧ ∀ j, j < k → lt (48 * a1 + 12 * s1 + j) = lt (48 * b1 + 12 * t1 + j)) := xB_y (by rw [← hx]; exact hz9)
        exact ih (k + 1) _ (by omega) (by rw [xB_t (show (u.length = w.length ∧ ∀ j, j < k + 1 → lt (48 * a1 + 12 * s1 + j) = lt (48 * b1 + 12 * t1 + j)) from ⟨hP9.1, fun j hj => if z : j = k then by rw [z]; exact hq9 else hP9.2 j (by omega)⟩)])
set_option maxRecDepth 20000 in
theorem mSame {G : xG} (hg : xGood G) (hxn : xn = 16) {n : Nat} (hn2 : 52 ≤ n) {dl : Nat} {pl : Nat} {vc : Nat} {tk : Nat} {hc : Nat} {sn : Nat} {y13 : Int32} {y22 : Int32} {y23 : Int32} {y24 : Int32} {y33 : Int32} {y36 : Int32} {y37 : Int32} {y38 : Int32} {y39 : Int32} {M : xM} (hn : M.1 = n) {st lg lt : Nat → Int32} {a1 s1 b1 t1 : Nat} {u w : List Int32} (h_24 : M.2 24 = (.inr (12, [.ref 25, .ref 26, .ref 27, .ref 28, .ref 29, .ref 30, .int (nI sn), .int (nI vc), .int (nI tk), .ref 31, .int (nI dl), .ref 32, .int (nI pl), .int y13, .ref 33, .ref 34, .ref 35, .ref 36, .ref 37, .ref 38, .ref 39, .ref 40, .int y22, .int y23, .int y24, .ref 41, .ref 42, .ref 43, .ref 44, .ref 45, .ref 46, .ref 47, .ref 48, .int y33, .ref 49, .ref 50, .int y36, .int y37, .int y38, .int y39, .int (nI hc), .ref 51]))) (k46 : M.2 46 = .inl (0, 32, .inl st)) (k47 : M.2 47 = .inl (0, 1536, .inl lt)) (k48 : M.2 48 = .inl (0, 128, .inl lg)) (ha1 : a1 < 32) (hs1 : s1 < 4) (hb1 : b1 < 32) (ht1 : t1 < 4) (hu : rS lg lt a1 s1 u) (hw : rS lg lt b1 t1 w) : XC G Y14_46 (some .boolean) 0 0 0 [.ref 24, .int (nI a1), .int (nI s1), .int (nI b1), .int (nI t1)] M (fun v M' => v = some (.int (xB (u = w))) ∧ M' = M) := by
  have hu12 := hu.1
  have hw12 := hw.1
  refine xc_of hg (by decide) (Nat.le_of_ble_eq_true rfl) (Or.inr (Or.inl ⟨rfl, rfl, fun v M' h => ⟨_, h.1, xB_01 _⟩⟩)) ?_
  refine xj_aload_n (i := 0) d14_46_0 rfl rfl ?_
  refine xj_get d14_46_1 f14_80_12 h_24 (by omega) (show 24 < M.1 by omega) rfl ?_
  refine xj_iconst (v := 4) d14_46_4 (by decide) ?_
  refine xj_iload_n (i := 1) d14_46_5 rfl rfl ?_
  refine xj_imul (v := nI (4 * a1)) d14_46_6 (pk_mul 4 a1) ?_
  refine xj_iload_n (i := 2) d14_46_7 rfl rfl ?_
  refine xj_iadd (v := nI (4 * a1 + s1)) d14_46_8 (nI_add (4 * a1) s1) ?_
  refine xj_iaload (j := 4 * a1 + s1) d14_46_9 k48 (by omega) (show 48 < M.1 by omega) (vp_in_nI (by omega) (by omega)) (nI_clamp (by omega)) ?_
  rw [show lg (4 * a1 + s1) = nI u.length from hu.2.1]
  refine xj_aload_n (i := 0) d14_46_10 rfl rfl ?_
  refine xj_get d14_46_11 f14_80_12 h_24 (by omega) (show 24 < M.1 by omega) rfl ?_
  refine xj_iconst (v := 4) d14_46_14 (by decide) ?_
  refine xj_iload_n (i := 3) d14_46_15 rfl rfl ?_
  refine xj_imul (v := nI (4 * b1)) d14_46_16 (pk_mul 4 b1) ?_
  refine xj_iload (i := 4) d14_46_17 rfl ?_
  refine xj_iadd (v := nI (4 * b1 + t1)) d14_46_19 (nI_add (4 * b1) t1) ?_
  refine xj_iaload (j := 4 * b1 + t1) d14_46_20 k48 (by omega) (show 48 < M.1 by omega) (vp_in_nI (by omega) (by omega)) (nI_clamp (by omega)) ?_
  rw [show lg (4 * b1 + t1) = nI w.length from hw.2.1]
  refine xj_icmp_ne (tgt := 28) d14_46_21 rfl (fun hb9 => ?_) (fun hb9 => ?_)
  · refine xj_iconst (v := 0) d14_46_28 (by decide) ?_
    refine xj_istore (i := 5) (L' := [(5, .int 0), (0, .ref 24), (1, .int (nI a1)), (2, .int (nI s1)), (3, .int (nI b1)), (4, .int (nI t1))]) d14_46_29 (by decide) rfl ?_
    refine xj_iconst (v := 0) d14_46_31 (by decide) ?_
    refine xj_istore (i := 6) (L' := [(6, .int 0), (5, .int 0), (0, .ref 24), (1, .int (nI a1)), (2, .int (nI s1)), (3, .int (nI b1)), (4, .int (nI t1))]) d14_46_32 (by decide) rfl ?_
    exact mSamL hg hxn hn2 hn h_24 k46 k47 k48 ha1 hs1 hb1 ht1 hu hw (by omega) (by omega) u.length 0 0 (by omega) (by rw [xB_f (show ¬ (u.length = w.length ∧ ∀ j, j < 0 → lt (48 * a1 + 12 * s1 + j) = lt (48 * b1 + 12 * t1 + j)) from fun z => hb9 (congrArg nI z.1))])
  · refine xj_iconst (v := 1) d14_46_24 (by decide) ?_
    refine xj_goto (tgt := 29) d14_46_25 rfl ?_
    refine xj_istore (i := 5) (L' := [(5, .int 1), (0, .ref 24), (1, .int (nI a1)), (2, .int (nI s1)), (3, .int (nI b1)), (4, .int (nI t1))]) d14_46_29 (by decide) rfl ?_
    refine xj_iconst (v := 0) d14_46_31 (by decide) ?_
    refine xj_istore (i := 6) (L' := [(6, .int 0), (5, .int 1), (0, .ref 24), (1, .int (nI a1)), (2, .int (nI s1)), (3, .int (nI b1)), (4, .int (nI t1))]) d14_46_32 (by decide) rfl ?_
    exact mSamL hg hxn hn2 hn h_24 k46 k47 k48 ha1 hs1 hb1 ht1 hu hw (by omega) (by omega) u.length 0 1 (by omega) (by rw [xB_t (show (u.length = w.length ∧ ∀ j, j < 0 → lt (48 * a1 + 12 * s1 + j) = lt (48 * b1 + 12 * t1 + j)) from ⟨(nI_eq (a := u.length) (b := w.length) (by omega) (by omega)).mp hb9, fun j hj => absurd hj (by omega)⟩)])

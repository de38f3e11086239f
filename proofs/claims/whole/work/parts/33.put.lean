theorem xcpy_step {fd tx : Nat → Int32} {o i : Nat} : upd (va_cpy fd tx 0 o i) (o + i) (fd i) = va_cpy fd tx 0 o (i + 1) := by
  funext q
  by_cases e : q = o + i
  · rw [e, pk_us, pk_cpy_in (by omega) (by omega), Nat.add_sub_cancel_left, Nat.zero_add]
  · rw [pk_un e]
    by_cases h : o ≤ q ∧ q < o + i
    · rw [pk_cpy_in h.1 h.2, pk_cpy_in h.1 (by omega)]
    · rw [pk_cpy_out (by omega), pk_cpy_out (by omega)]
theorem mSlotL {G : xG} (hxn : xn = 16) {M : xM} {n : Nat} (hn : M.1 = n) (hn2 : 52 ≤ n) {dl : Nat} {pl : Nat} {vc : Nat} {tk : Nat} {hc : Nat} {sn : Nat} {y13 : Int32} {y22 : Int32} {y23 : Int32} {y24 : Int32} {y33 : Int32} {y36 : Int32} {y37 : Int32} {y38 : Int32} {y39 : Int32} {k sl : Nat} {f : Nat → Int32} (h_24 : M.2 24 = (.inr (12, [.ref 25, .ref 26, .ref 27, .ref 28, .ref 29, .ref 30, .int (nI sn), .int (nI vc), .int (nI tk), .ref 31, .int (nI dl), .ref 32, .int (nI pl), .int y13, .ref 33, .ref 34, .ref 35, .ref 36, .ref 37, .ref 38, .ref 39, .ref 40, .int y22, .int y23, .int y24, .ref 41, .ref 42, .ref 43, .ref 44, .ref 45, .ref 46, .ref 47, .ref 48, .int y33, .ref 49, .ref 50, .int y36, .int y37, .int y38, .int y39, .int (nI hc), .ref 51]))) (h_28 : M.2 28 = (.inl (0, 128, .inl f))) (hsl : sl < 128) (hf : f sl = -1) (hno : ∀ j, j < sl → ¬ f j = -1) {d ce se cells slots : Nat} {Post : Option Value → xM → Prop} (K : XJ G Y14_4 d ce se cells slots 36 [(2, .int (nI sl)), (0, .ref 24), (1, .int (nI k))] [] M Post) : ∀ r i : Nat, i + r = sl → XJ G Y14_4 d ce se cells slots 14 [(2, .int (nI i)), (0, .ref 24), (1, .int (nI k))] [] M Post := by
  intro r
  induction r with
  | zero =>
    intro i hi
    have hi' : i = sl := by omega
    subst i
    by_cases hlt : sl < 127
    · skip
      refine xj_iload_n (i := 2) d14_4_14 rfl rfl ?_
      refine xj_bipush (v := 127) d14_4_15 (by decide) ?_
      refine xj_icmp_ge (tgt := 36) d14_4_17 rfl (fun h => absurd h (nI_ge (a := sl) (b := 127) (by omega) (by omega))) (fun _ => ?_)
      refine xj_aload_n (i := 0) d14_4_20 rfl rfl ?_
      refine xj_get d14_4_21 f14_20_12 h_24 (by omega) (show 24 < M.1 by omega) rfl ?_
      refine xj_iload_n (i := 2) d14_4_24 rfl rfl ?_
      refine xj_iaload (j := sl) d14_4_25 h_28 (by omega) (show 28 < M.1 by omega) (vp_in_nI (by omega) (by omega)) (nI_clamp (by omega)) ?_
      rw [show f sl = -1 from hf]
      refine xj_iconst (v := (-1)) d14_4_26 (by decide) ?_
      refine xj_icmp_eq (tgt := 36) d14_4_27 rfl (fun _ => ?_) (fun h => absurd (by decide) h)
      exact K
    · skip
      refine xj_iload_n (i := 2) d14_4_14 rfl rfl ?_
      refine xj_bipush (v := 127) d14_4_15 (by decide) ?_
      refine xj_icmp_ge (tgt := 36) d14_4_17 rfl (fun _ => ?_) (fun h => absurd (nI_le (a := 127) (b := sl) (by omega) (by omega)) h)
      exact K
  | succ r ih =>
    intro i hi
    refine xj_iload_n (i := 2) d14_4_14 rfl rfl ?_
    refine xj_bipush (v := 127) d14_4_15 (by decide) ?_
    refine xj_icmp_ge (tgt := 36) d14_4_17 rfl (fun h => absurd h (nI_ge (a := i) (b := 127) (by omega) (by omega))) (fun _ => ?_)
    refine xj_aload_n (i := 0) d14_4_20 rfl rfl ?_
    refine xj_get d14_4_21 f14_20_12 h_24 (by omega) (show 24 < M.1 by omega) rfl ?_
    refine xj_iload_n (i := 2) d14_4_24 rfl rfl ?_
    refine xj_iaload (j := i) d14_4_25 h_28 (by omega) (show 28 < M.1 by omega) (vp_in_nI (by omega) (by omega)) (nI_clamp (by omega)) ?_
    refine xj_iconst (v := (-1)) d14_4_26 (by decide) ?_
    refine xj_icmp_eq (tgt := 36) d14_4_27 rfl (fun h => absurd h (hno i (by omega))) (fun _ => ?_)
    refine xj_iinc (v := nI (i + 1)) (L' := [(2, .int (nI (i + 1))), (0, .ref 24), (1, .int (nI k))]) d14_4_30 rfl (xinc _) (by decide) rfl ?_
    refine xj_goto (tgt := 14) d14_4_33 rfl ?_
    exact ih (i + 1) (by omega)
theorem mCpyL {G : xG} (hxn : xn = 16) {M0 : xM} {n : Nat} (hn2 : 52 ≤ n) {dl : Nat} {pl : Nat} {vc : Nat} {tk : Nat} {hc : Nat} {sn : Nat} {y13 : Int32} {y22 : Int32} {y23 : Int32} {y24 : Int32} {y33 : Int32} {y36 : Int32} {y37 : Int32} {y38 : Int32} {y39 : Int32} {k sl : Nat} {fd tx : Nat → Int32} (h_24 : M0.2 24 = (.inr (12, [.ref 25, .ref 26, .ref 27, .ref 28, .ref 29, .ref 30, .int (nI sn), .int (nI vc), .int (nI tk), .ref 31, .int (nI dl), .ref 32, .int (nI pl), .int y13, .ref 33, .ref 34, .ref 35, .ref 36, .ref 37, .ref 38, .ref 39, .ref 40, .int y22, .int y23, .int y24, .ref 41, .ref 42, .ref 43, .ref 44, .ref 45, .ref 46, .ref 47, .ref 48, .int y33, .ref 49, .ref 50, .int y36, .int y37, .int y38, .int y39, .int (nI hc), .ref 51]))) (h_31 : M0.2 31 = (.inl (0, 40, .inl fd))) (hsl : sl < 128) (hdl : dl ≤ 40) {d ce se cells slots : Nat} {Post : Option Value → xM → Prop} (K : ∀ M : xM, M.1 = n → (∀ j, j ≠ 25 → M.2 j = M0.2 j) → M.2 25 = (.inl (0, 5120, .inl (va_cpy fd tx 0 (40 * sl) dl))) → XJ G Y14_4 d ce se cells slots 69 [(3, .int (nI dl)), (2, .int (nI sl)), (0, .ref 24), (1, .int (nI k))] [] M Post) : ∀ (r i : Nat) (M : xM), i + r = dl → M.1 = n → (∀ j, j ≠ 25 → M.2 j = M0.2 j) → M.2 25 = (.inl (0, 5120, .inl (va_cpy fd tx 0 (40 * sl) i))) → XJ G Y14_4 d ce se cells slots 38 [(3, .int (nI i)), (2, .int (nI sl)), (0, .ref 24), (1, .int (nI k))] [] M Post := by
  intro r
  induction r with
  | zero =>
    intro i M hi hm hfr hA
    have hi' : i = dl := by omega
    subst i
    refine xj_iload_n (i := 3) d14_4_38 rfl rfl ?_
    refine xj_aload_n (i := 0) d14_4_39 rfl rfl ?_
    refine xj_get d14_4_40 f14_97_12 ((hfr 24 (by omega)).trans h_24) (by omega) (show 24 < M.1 by omega) rfl ?_
    refine xj_icmp_ge (tgt := 69) d14_4_43 rfl (fun _ => ?_) (fun h => absurd (nI_le (a := dl) (b := dl) (by omega) (by omega)) h)
    exact K M hm hfr hA
  | succ r ih =>
    intro i M hi hm hfr hA
    refine xj_iload_n (i := 3) d14_4_38 rfl rfl ?_
    refine xj_aload_n (i := 0) d14_4_39 rfl rfl ?_
    refine xj_get d14_4_40 f14_97_12 ((hfr 24 (by omega)).trans h_24) (by omega) (show 24 < M.1 by omega) rfl ?_
    refine xj_icmp_ge (tgt := 69) d14_4_43 rfl (fun h => absurd h (nI_ge (a := i) (b := dl) (by omega) (by omega))) (fun _ => ?_)
    refine xj_aload_n (i := 0) d14_4_46 rfl rfl ?_
    refine xj_get d14_4_47 f14_7_12 ((hfr 24 (by omega)).trans h_24) (by omega) (show 24 < M.1 by omega) rfl ?_
    refine xj_bipush (v := 40) d14_4_50 (by decide) ?_
    refine xj_iload_n (i := 2) d14_4_52 rfl rfl ?_
    refine xj_imul (v := nI (40 * sl)) d14_4_53 (pk_mul 40 sl) ?_
    refine xj_iload_n (i := 3) d14_4_54 rfl rfl ?_
    refine xj_iadd (v := nI (40 * sl + i)) d14_4_55 (nI_add (40 * sl) i) ?_
    refine xj_aload_n (i := 0) d14_4_56 rfl rfl ?_
    refine xj_get d14_4_57 f14_29_12 ((hfr 24 (by omega)).trans h_24) (by omega) (show 24 < M.1 by omega) rfl ?_
    refine xj_iload_n (i := 3) d14_4_60 rfl rfl ?_
    refine xj_iaload (j := i) d14_4_61 ((hfr 31 (by omega)).trans h_31) (by omega) (show 31 < M.1 by omega) (vp_in_nI (by omega) (by omega)) (nI_clamp (by omega)) ?_
    refine xj_iastore (j := 40 * sl + i) (x' := fd i) d14_4_62 hA (by omega) (show 25 < M.1 by omega) (vp_in_nI (by omega) (by omega)) (nI_clamp (by omega)) rfl ?_
    refine xj_abs_set (fun M1 hs1 ha1 ho1 => ?_)
    refine xj_iinc (v := nI (i + 1)) (L' := [(3, .int (nI (i + 1))), (2, .int (nI sl)), (0, .ref 24), (1, .int (nI k))]) d14_4_63 rfl (xinc _) (by decide) rfl ?_
    refine xj_goto (tgt := 38) d14_4_66 rfl ?_
    exact ih (i + 1) M1 (by omega) (by omega) (fun j hj => (ho1 j hj).trans (hfr j hj)) (by rw [← xcpy_step]; exact ha1)

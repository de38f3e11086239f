/-- read on, or a fault -/
def mX (dl pl vc tk hc sn : Nat) (y33 y36 y37 y38 y39 : Int32) (fp : Nat → Int32) (M0 M : xM) (σ : xSg) : Prop := (σ.2.1 = 0 → mR dl pl vc tk hc sn y33 y36 y37 y38 y39 fp M0 M σ) ∧ (¬ σ.2.1 = 0 → mRf dl pl vc tk hc sn y33 y36 y37 y38 y39 fp M0 M σ.2.1)
set_option maxRecDepth 20000 in
theorem mAhead0 {G : xG} (hg : xGood G) {M : xM} {n : Nat} (hn : M.1 = n) (hx : xn ≤ n) {dl : Nat} {pl : Nat} {vc : Nat} {tk : Nat} {hc : Nat} {sn : Nat} {y24 : Int32} {y33 : Int32} {y36 : Int32} {y37 : Int32} {y38 : Int32} {y39 : Int32} {np : Nat} {a : Nat} {dp : Nat} {fp : Nat → Int32} (h1_24 : xn ≤ 24) (h2_24 : 24 < n) (h_24 : M.2 24 = (.inr (12, [.ref 25, .ref 26, .ref 27, .ref 28, .ref 29, .ref 30, .int (nI sn), .int (nI vc), .int (nI tk), .ref 31, .int (nI dl), .ref 32, .int (nI pl), .int (nI np), .ref 33, .ref 34, .ref 35, .ref 36, .ref 37, .ref 38, .ref 39, .ref 40, .int (nI a), .int (nI dp), .int y24, .ref 41, .ref 42, .ref 43, .ref 44, .ref 45, .ref 46, .ref 47, .ref 48, .int y33, .ref 49, .ref 50, .int y36, .int y37, .int y38, .int y39, .int (nI hc), .ref 51]))) (h1_32 : xn ≤ 32) (h2_32 : 32 < n) (h_32 : M.2 32 = (.inl (0, 24, .inl fp))) (hak : a < 1000) (hpl : pl ≤ 24) : XC G Y14_19 (some .int) 0 0 0 [.ref 24, .int 0] M (fun v M' => v = some (.int (pch fp pl a)) ∧ M' = M) := by
  refine xc_of hg (by decide) (Nat.le_of_ble_eq_true rfl) (Or.inl ⟨rfl, rfl, fun v M' h => ⟨_, h.1⟩⟩) ?_
  refine xj_aload_n (i := 0) d14_19_0 rfl rfl ?_
  refine xj_get d14_19_1 f14_133_12 h_24 (by omega) (show 24 < M.1 by omega) rfl ?_
  refine xj_iload_n (i := 1) d14_19_4 rfl rfl ?_
  refine xj_iadd (v := nI a) d14_19_5 (Int32.add_zero _) ?_
  refine xj_aload_n (i := 0) d14_19_6 rfl rfl ?_
  refine xj_get d14_19_7 f14_130_12 h_24 (by omega) (show 24 < M.1 by omega) rfl ?_
  refine xj_icmp_ge (tgt := 27) d14_19_10 rfl (fun hb => ?_) (fun hb => ?_)
  · refine xj_iconst (v := 0) d14_19_27 (by decide) ?_
    exact xj_ret d14_19_28 (by omega) (by omega) rfl ⟨(by rw [show pch fp pl a = 0 from if_neg (fun q => absurd hb (nI_ge q (by omega)))]), rfl⟩
  · have hb2 : a < pl := Classical.byContradiction fun q => hb (nI_le (by omega) (by omega))
    refine xj_aload_n (i := 0) d14_19_13 rfl rfl ?_
    refine xj_get d14_19_14 f14_32_12 h_24 (by omega) (show 24 < M.1 by omega) rfl ?_
    refine xj_aload_n (i := 0) d14_19_17 rfl rfl ?_
    refine xj_get d14_19_18 f14_133_12 h_24 (by omega) (show 24 < M.1 by omega) rfl ?_
    refine xj_iload_n (i := 1) d14_19_21 rfl rfl ?_
    refine xj_iadd (v := nI a) d14_19_22 (Int32.add_zero _) ?_
    refine xj_iaload (j := a) d14_19_23 h_32 (by omega) (show 32 < M.1 by omega) (vp_in_nI (by omega) (by omega)) (nI_clamp (by omega)) ?_
    refine xj_goto (tgt := 28) d14_19_24 rfl ?_
    exact xj_ret d14_19_28 (by omega) (by omega) rfl ⟨(by rw [show pch fp pl a = fp a from if_pos hb2]), rfl⟩
theorem pW_at {σ : xSg} {k : Nat} (h : pW σ) (hk : σ.1 + k ≤ 24) : pW (pAt σ k) := by
  obtain ⟨h1, h2, h3, h4, ow, w1, w2⟩ := h
  exact ⟨h1, h2, hk, by show σ.2.2.1.length + σ.2.2.2.length ≤ σ.1 + k + 1; omega, ow, w1, w2⟩
theorem pch_in {fp : Nat → Int32} {pl k : Nat} {x : Int32} (h : pch fp pl k = x) (hx : ¬ x = 0) : k < pl := Classical.byContradiction fun q => hx (h.symm.trans (if_neg q))
theorem mR_at {dl pl vc tk hc sn : Nat} {y33 y36 y37 y38 y39 : Int32} {fp : Nat → Int32} {M0 M : xM} {M' : xM} {σ : xSg} {k : Nat} (h : mR dl pl vc tk hc sn y33 y36 y37 y38 y39 fp M0 M σ) (hk : σ.1 + k ≤ 24) {np : Nat} (hnp : np = σ.2.2.1.length) (e0 : M'.1 = M.1) (e1 : ∀ j, j ≠ 24 → M'.2 j = M.2 j) (e2 : M'.2 24 = (.inr (12, [.ref 25, .ref 26, .ref 27, .ref 28, .ref 29, .ref 30, .int (nI sn), .int (nI vc), .int (nI tk), .ref 31, .int (nI dl), .ref 32, .int (nI pl), .int (nI np), .ref 33, .ref 34, .ref 35, .ref 36, .ref 37, .ref 38, .ref 39, .ref 40, .int (nI (σ.1 + k)), .int (nI (σ.2.2.2.length - 1)), .int 0, .ref 41, .ref 42, .ref 43, .ref 44, .ref 45, .ref 46, .ref 47, .ref 48, .int y33, .ref 49, .ref 50, .int y36, .int y37, .int y38, .int y39, .int (nI hc), .ref 51]))) : mR dl pl vc tk hc sn y33 y36 y37 y38 y39 fp M0 M' (pAt σ k) := by
  obtain ⟨⟨i1, i2⟩, k32, np', kd, ch, nx, be, lo, hi, wt, cs, fP, lP, fB, lB, hnp', k24, k33, k34, k35, k36, k37, k38, k39, k40, k41, k42, k43, k44, hA, hW⟩ := h
  exact ⟨⟨e0.trans i1, fun j h1 h2 h3 => (e1 j h2).trans (i2 j h1 h2 h3)⟩, (e1 32 (by decide)).trans k32, np, kd, ch, nx, be, lo, hi, wt, cs, fP, lP, fB, lB, hnp, e2, (e1 33 (by decide)).trans k33, (e1 34 (by decide)).trans k34, (e1 35 (by decide)).trans k35, (e1 36 (by decide)).trans k36, (e1 37 (by decide)).trans k37, (e1 38 (by decide)).trans k38, (e1 39 (by decide)).trans k39, (e1 40 (by decide)).trans k40, (e1 41 (by decide)).trans k41, (e1 42 (by decide)).trans k42, (e1 43 (by decide)).trans k43, (e1 44 (by decide)).trans k44, hA, pW_at hW hk⟩
theorem mR_fa {dl pl vc tk hc sn : Nat} {y33 y36 y37 y38 y39 : Int32} {fp : Nat → Int32} {M0 M : xM} {M' : xM} {σ : xSg} {x y13 y22 y23 : Int32} (h : mR dl pl vc tk hc sn y33 y36 y37 y38 y39 fp M0 M σ) (e0 : M'.1 = M.1) (e1 : ∀ j, j ≠ 24 → M'.2 j = M.2 j) (e2 : M'.2 24 = (.inr (12, [.ref 25, .ref 26, .ref 27, .ref 28, .ref 29, .ref 30, .int (nI sn), .int (nI vc), .int (nI tk), .ref 31, .int (nI dl), .ref 32, .int (nI pl), .int y13, .ref 33, .ref 34, .ref 35, .ref 36, .ref 37, .ref 38, .ref 39, .ref 40, .int y22, .int y23, .int x, .ref 41, .ref 42, .ref 43, .ref 44, .ref 45, .ref 46, .ref 47, .ref 48, .int y33, .ref 49, .ref 50, .int y36, .int y37, .int y38, .int y39, .int (nI hc), .ref 51]))) : mRf dl pl vc tk hc sn y33 y36 y37 y38 y39 fp M0 M' x := by
  obtain ⟨⟨i1, i2⟩, k32, np', kd, ch, nx, be, lo, hi, wt, cs, fP, lP, fB, lB, hnp', k24, k33, k34, k35, k36, k37, k38, k39, k40, k41, k42, k43, k44, hA, hW⟩ := h
  exact ⟨⟨e0.trans i1, fun j h1 h2 h3 => (e1 j h2).trans (i2 j h1 h2 h3)⟩, (e1 32 (by decide)).trans k32, y13, y22, y23, kd, ch, nx, be, lo, hi, wt, cs, fP, lP, fB, lB, e2, (e1 33 (by decide)).trans k33, (e1 34 (by decide)).trans k34, (e1 35 (by decide)).trans k35, (e1 36 (by decide)).trans k36, (e1 37 (by decide)).trans k37, (e1 38 (by decide)).trans k38, (e1 39 (by decide)).trans k39, (e1 40 (by decide)).trans k40, (e1 41 (by decide)).trans k41, (e1 42 (by decide)).trans k42, (e1 43 (by decide)).trans k43, (e1 44 (by decide)).trans k44⟩
theorem mR_24 {dl pl vc tk hc sn : Nat} {y33 y36 y37 y38 y39 : Int32} {fp : Nat → Int32} {M0 M : xM} {σ : xSg} (h : mR dl pl vc tk hc sn y33 y36 y37 y38 y39 fp M0 M σ) : ∃ np, np = σ.2.2.1.length ∧ M.2 24 = (.inr (12, [.ref 25, .ref 26, .ref 27, .ref 28, .ref 29, .ref 30, .int (nI sn), .int (nI vc), .int (nI tk), .ref 31, .int (nI dl), .ref 32, .int (nI pl), .int (nI np), .ref 33, .ref 34, .ref 35, .ref 36, .ref 37, .ref 38, .ref 39, .ref 40, .int (nI σ.1), .int (nI (σ.2.2.2.length - 1)), .int 0, .ref 41, .ref 42, .ref 43, .ref 44, .ref 45, .ref 46, .ref 47, .ref 48, .int y33, .ref 49, .ref 50, .int y36, .int y37, .int y38, .int y39, .int (nI hc), .ref 51])) := by
  obtain ⟨-, -, np, -, -, -, -, -, -, -, -, -, -, -, -, hnp, k24, -⟩ := h
  exact ⟨np, hnp, k24⟩
set_option maxRecDepth 20000 in
set_option maxHeartbeats 1000000 in
theorem rBraces {G : xG} (hg : xGood G) (hxn : xn = 16) {dl pl vc tk hc sn : Nat} {y33 y36 y37 y38 y39 : Int32} {fp : Nat → Int32} {M0 M : xM} (h52 : 52 ≤ M0.1) (hpl : pl ≤ 24) {a : Nat} {A : List xNode} {t1 l : List Nat} {e : Nat} {r : List (List Nat × List Nat)} (hR0 : mR dl pl vc tk hc sn y33 y36 y37 y38 y39 fp M0 M (a, 0, A, (t1, l ++ [e]) :: r)) (ha : A.length + r.length + 1 ≤ a) : XC G Y14_28 none 2 0 0 [.ref 24] M (fun v M' => v = none ∧ mX dl pl vc tk hc sn y33 y36 y37 y38 y39 fp M0 M' (pBraces fp pl (a, 0, A, (t1, l ++ [e]) :: r))) := by
  obtain ⟨⟨i1, i2⟩, k32, np, kd, ch, nx, be, lo, hi, wt, cs, fP, lP, fB, lB, hnp, k24, k33, k34, k35, k36, k37, k38, k39, k40, k41, k42, k43, k44, hA, hW⟩ := id hR0
  subst hnp
  replace k24 : M.2 24 = (.inr (12, [.ref 25, .ref 26, .ref 27, .ref 28, .ref 29, .ref 30, .int (nI sn), .int (nI vc), .int (nI tk), .ref 31, .int (nI dl), .ref 32, .int (nI pl), .int (nI A.length), .ref 33, .ref 34, .ref 35, .ref 36, .ref 37, .ref 38, .ref 39, .ref 40, .int (nI a), .int (nI r.length), .int 0, .ref 41, .ref 42, .ref 43, .ref 44, .ref 45, .ref 46, .ref 47, .ref 48, .int y33, .ref 49, .ref 50, .int y36, .int y37, .int y38, .int y39, .int (nI hc), .ref 51])) := k24
  obtain ⟨g1, g2, g3⟩ := pW_tag hW
  refine xc_of hg (by decide) (Nat.le_of_ble_eq_true rfl) (Or.inr (Or.inr (Or.inr (Or.inr (Or.inl ⟨rfl, rfl, fun v M' h => h.1⟩))))) ?_
  refine xj_aload_n (i := 0) d14_28_0 rfl rfl ?_
  refine xj_iconst (v := 0) d14_28_1 (by decide) ?_
  refine xj_callV (rest := []) (As := [.int 0]) (b := 24) (mAhead0 hg (M := M) (n := M.1) (dl := dl) (pl := pl) (vc := vc) (tk := tk) (hc := hc) (sn := sn) (y24 := 0) (y33 := y33) (y36 := y36) (y37 := y37) (y38 := y38) (y39 := y39) (np := A.length) (a := a) (dp := r.length) (fp := fp) rfl (by omega) (by omega) (by omega) k24 (by omega) (by omega) k32 (by omega) hpl) d14_28_2 wd14_19 k24 (by omega) (show 24 < M.1 by omega) rfl s14_19 w1216 (Or.inl w1214) rfl rfl (Nat.le_of_ble_eq_true rfl) (by omega) (by omega) (by omega) ?_
  rintro v M' ⟨rfl, hm⟩
  subst M'
  refine xj_bipush (v := 48) d14_28_5 (by decide) ?_
  refine xj_isub (v := (pch fp pl a) - 48) d14_28_7 rfl ?_
  refine xj_istore_n (i := 1) (L' := [(1, .int ((pch fp pl a) - 48)), (0, .ref 24)]) d14_28_8 rfl (by decide) rfl ?_
  refine xj_aload_n (i := 0) d14_28_9 rfl rfl ?_
  refine xj_iconst (v := 0) d14_28_10 (by decide) ?_
  refine xj_callV (rest := []) (As := [.int 0]) (b := 24) (mAhead0 hg (M := M) (n := M.1) (dl := dl) (pl := pl) (vc := vc) (tk := tk) (hc := hc) (sn := sn) (y24 := 0) (y33 := y33) (y36 := y36) (y37 := y37) (y38 := y38) (y39 := y39) (np := A.length) (a := a) (dp := r.length) (fp := fp) rfl (by omega) (by omega) (by omega) k24 (by omega) (by omega) k32 (by omega) hpl) d14_28_11 wd14_19 k24 (by omega) (show 24 < M.1 by omega) rfl s14_19 w1216 (Or.inl w1214) rfl rfl (Nat.le_of_ble_eq_true rfl) (by omega) (by omega) (by omega) ?_
  rintro v M' ⟨rfl, hm⟩
  subst M'
  refine xj_callS (rest := []) (As := [.int (pch fp pl a)]) (mDigit hg (M := M) (n := M.1) (c := pch fp pl a) rfl (by omega) ) d14_28_14 wd14_27 w1255 (Or.inl w1254) rfl rfl (Nat.le_of_ble_eq_true rfl) (by omega) (by omega) (by omega) ?_
  rintro v M' ⟨rfl, hm⟩
  subst M'
  refine xj_if_ne (tgt := 28) d14_28_17 rfl (fun hd0 => ?_) (fun hd0 => ?_)
  · refine xj_aload_n (i := 0) d14_28_28 rfl rfl ?_
    refine xj_iconst (v := 1) d14_28_29 (by decide) ?_
    refine xj_callV (rest := []) (As := [.int 1]) (b := 24) (mAhead hg (M := M) (n := M.1) (dl := dl) (pl := pl) (vc := vc) (tk := tk) (hc := hc) (sn := sn) (y24 := 0) (y33 := y33) (y36 := y36) (y37 := y37) (y38 := y38) (y39 := y39) (np := A.length) (a := a) (dp := r.length) (fp := fp) (k := 1) rfl (by omega) (by omega) (by omega) k24 (by omega) (by omega) k32 (by omega) hpl) d14_28_30 wd14_19 k24 (by omega) (show 24 < M.1 by omega) rfl s14_19 w1216 (Or.inl w1214) rfl rfl (Nat.le_of_ble_eq_true rfl) (by omega) (by omega) (by omega) ?_
    rintro v M' ⟨rfl, hm⟩
    subst M'
    refine xj_bipush (v := 125) d14_28_33 (by decide) ?_
    refine xj_icmp_ne (tgt := 57) d14_28_35 rfl (fun h1 => ?_) (fun h1 => ?_)
    · refine xj_aload_n (i := 0) d14_28_57 rfl rfl ?_
      refine xj_iconst (v := 1) d14_28_58 (by decide) ?_
      refine xj_callV (rest := []) (As := [.int 1]) (b := 24) (mAhead hg (M := M) (n := M.1) (dl := dl) (pl := pl) (vc := vc) (tk := tk) (hc := hc) (sn := sn) (y24 := 0) (y33 := y33) (y36 := y36) (y37 := y37) (y38 := y38) (y39 := y39) (np := A.length) (a := a) (dp := r.length) (fp := fp) (k := 1) rfl (by omega) (by omega) (by omega) k24 (by omega) (by omega) k32 (by omega) hpl) d14_28_59 wd14_19 k24 (by omega) (show 24 < M.1 by omega) rfl s14_19 w1216 (Or.inl w1214) rfl rfl (Nat.le_of_ble_eq_true rfl) (by omega) (by omega) (by omega) ?_
      rintro v M' ⟨rfl, hm⟩
      subst M'
      refine xj_bipush (v := 44) d14_28_62 (by decide) ?_
      refine xj_icmp_ne (tgt := 96) d14_28_64 rfl (fun h2 => ?_) (fun h2 => ?_)
      · refine xj_aload_n (i := 0) d14_28_96 rfl rfl ?_
        refine xj_iconst (v := 1) d14_28_97 (by decide) ?_
        refine xj_callV (rest := []) (As := [.int 1]) (b := 24) (mAhead hg (M := M) (n := M.1) (dl := dl) (pl := pl) (vc := vc) (tk := tk) (hc := hc) (sn := sn) (y24 := 0) (y33 := y33) (y36 := y36) (y37 := y37) (y38 := y38) (y39 := y39) (np := A.length) (a := a) (dp := r.length) (fp := fp) (k := 1) rfl (by omega) (by omega) (by omega) k24 (by omega) (by omega) k32 (by omega) hpl) d14_28_98 wd14_19 k24 (by omega) (show 24 < M.1 by omega) rfl s14_19 w1216 (Or.inl w1214) rfl rfl (Nat.le_of_ble_eq_true rfl) (by omega) (by omega) (by omega) ?_
        rintro v M' ⟨rfl, hm⟩
        subst M'
        refine xj_bipush (v := 44) d14_28_101 (by decide) ?_
        refine xj_icmp_ne (tgt := 165) d14_28_103 rfl (fun _ => ?_) (fun h => absurd h h2)
        refine xj_aload_n (i := 0) d14_28_165 rfl rfl ?_
        refine xj_iconst (v := 4) d14_28_166 (by decide) ?_
        refine xj_put (a := 24) (fs' := [.ref 25, .ref 26, .ref 27, .ref 28, .ref 29, .ref 30, .int (nI sn), .int (nI vc), .int (nI tk), .ref 31, .int (nI dl), .ref 32, .int (nI pl), .int (nI A.length), .ref 33, .ref 34, .ref 35, .ref 36, .ref 37, .ref 38, .ref 39, .ref 40, .int (nI a), .int (nI r.length), .int 4, .ref 41, .ref 42, .ref 43, .ref 44, .ref 45, .ref 46, .ref 47, .ref 48, .int y33, .ref 49, .ref 50, .int y36, .int y37, .int y38, .int y39, .int (nI hc), .ref 51]) d14_28_167 f14_156_12 k24 (by omega) (show 24 < M.1 by omega) (Nat.le_of_ble_eq_true rfl) rfl rfl rfl ?_
        refine xj_abs_set (fun M1 hs1 ha1 ho1 => ?_)
        have hq : pBraces fp pl (a, 0, A, (t1, l ++ [e]) :: r) = pFau (a, 0, A, (t1, l ++ [e]) :: r) 4 := (if_neg (fun q => q (xB_y hd0))).trans ((if_neg h1).trans ((if_neg (fun q => h2 q.1)).trans (if_neg (fun q => h2 q.1))))
        refine xj_ret d14_28_170 (by omega) (by omega) rfl ⟨rfl, ?_⟩
        rw [hq]
        exact ⟨fun q => absurd q (show ¬ (4 : Int32) = 0 by decide), fun _ => mR_fa hR0 (show M1.1 = M.1 by omega) (fun j hj => (ho1 j (by omega))) ha1⟩
      · refine xj_aload_n (i := 0) d14_28_67 rfl rfl ?_
        refine xj_iconst (v := 2) d14_28_68 (by decide) ?_
        refine xj_callV (rest := []) (As := [.int 2]) (b := 24) (mAhead hg (M := M) (n := M.1) (dl := dl) (pl := pl) (vc := vc) (tk := tk) (hc := hc) (sn := sn) (y24 := 0) (y33 := y33) (y36 := y36) (y37 := y37) (y38 := y38) (y39 := y39) (np := A.length) (a := a) (dp := r.length) (fp := fp) (k := 2) rfl (by omega) (by omega) (by omega) k24 (by omega) (by omega) k32 (by omega) hpl) d14_28_69 wd14_19 k24 (by omega) (show 24 < M.1 by omega) rfl s14_19 w1216 (Or.inl w1214) rfl rfl (Nat.le_of_ble_eq_true rfl) (by omega) (by omega) (by omega) ?_
        rintro v M' ⟨rfl, hm⟩
        subst M'
        refine xj_bipush (v := 125) d14_28_72 (by decide) ?_
        refine xj_icmp_ne (tgt := 96) d14_28_74 rfl (fun h3 => ?_) (fun h3 => ?_)
        · refine xj_aload_n (i := 0) d14_28_96 rfl rfl ?_
          refine xj_iconst (v := 1) d14_28_97 (by decide) ?_
          refine xj_callV (rest := []) (As := [.int 1]) (b := 24) (mAhead hg (M := M) (n := M.1) (dl := dl) (pl := pl) (vc := vc) (tk := tk) (hc := hc) (sn := sn) (y24 := 0) (y33 := y33) (y36 := y36) (y37 := y37) (y38 := y38) (y39 := y39) (np := A.length) (a := a) (dp := r.length) (fp := fp) (k := 1) rfl (by omega) (by omega) (by omega) k24 (by omega) (by omega) k32 (by omega) hpl) d14_28_98 wd14_19 k24 (by omega) (show 24 < M.1 by omega) rfl s14_19 w1216 (Or.inl w1214) rfl rfl (Nat.le_of_ble_eq_true rfl) (by omega) (by omega) (by omega) ?_
          rintro v M' ⟨rfl, hm⟩
          subst M'
          refine xj_bipush (v := 44) d14_28_101 (by decide) ?_
          refine xj_icmp_ne (tgt := 165) d14_28_103 rfl (fun h => absurd h2 h) (fun _ => ?_)
          refine xj_aload_n (i := 0) d14_28_106 rfl rfl ?_
          refine xj_iconst (v := 2) d14_28_107 (by decide) ?_
          refine xj_callV (rest := []) (As := [.int 2]) (b := 24) (mAhead hg (M := M) (n := M.1) (dl := dl) (pl := pl) (vc := vc) (tk := tk) (hc := hc) (sn := sn) (y24 := 0) (y33 := y33) (y36 := y36) (y37 := y37) (y38 := y38) (y39 := y39) (np := A.length) (a := a) (dp := r.length) (fp := fp) (k := 2) rfl (by omega) (by omega) (by omega) k24 (by omega) (by omega) k32 (by omega) hpl) d14_28_108 wd14_19 k24 (by omega) (show 24 < M.1 by omega) rfl s14_19 w1216 (Or.inl w1214) rfl rfl (Nat.le_of_ble_eq_true rfl) (by omega) (by omega) (by omega) ?_
          rintro v M' ⟨rfl, hm⟩
          subst M'
          refine xj_callS (rest := []) (As := [.int (pch fp pl (a + 2))]) (mDigit hg (M := M) (n := M.1) (c := pch fp pl (a + 2)) rfl (by omega) ) d14_28_111 wd14_27 w1255 (Or.inl w1254) rfl rfl (Nat.le_of_ble_eq_true rfl) (by omega) (by omega) (by omega) ?_
          rintro v M' ⟨rfl, hm⟩
          subst M'
          refine xj_if_eq (tgt := 165) d14_28_114 rfl (fun h5 => ?_) (fun h5 => ?_)
          · refine xj_aload_n (i := 0) d14_28_165 rfl rfl ?_
            refine xj_iconst (v := 4) d14_28_166 (by decide) ?_
            refine xj_put (a := 24) (fs' := [.ref 25, .ref 26, .ref 27, .ref 28, .ref 29, .ref 30, .int (nI sn), .int (nI vc), .int (nI tk), .ref 31, .int (nI dl), .ref 32, .int (nI pl), .int (nI A.length), .ref 33, .ref 34, .ref 35, .ref 36, .ref 37, .ref 38, .ref 39, .ref 40, .int (nI a), .int (nI r.length), .int 4, .ref 41, .ref 42, .ref 43, .ref 44, .ref 45, .ref 46, .ref 47, .ref 48, .int y33, .ref 49, .ref 50, .int y36, .int y37, .int y38, .int y39, .int (nI hc), .ref 51]) d14_28_167 f14_156_12 k24 (by omega) (show 24 < M.1 by omega) (Nat.le_of_ble_eq_true rfl) rfl rfl rfl ?_
            refine xj_abs_set (fun M2 hs2 ha2 ho2 => ?_)
            have hq : pBraces fp pl (a, 0, A, (t1, l ++ [e]) :: r) = pFau (a, 0, A, (t1, l ++ [e]) :: r) 4 := (if_neg (fun q => q (xB_y hd0))).trans ((if_neg h1).trans ((if_neg (fun q => h3 q.2)).trans (if_neg (fun q => xB_n h5 q.2.1))))
            refine xj_ret d14_28_170 (by omega) (by omega) rfl ⟨rfl, ?_⟩
            rw [hq]
            exact ⟨fun q => absurd q (show ¬ (4 : Int32) = 0 by decide), fun _ => mR_fa hR0 (show M2.1 = M.1 by omega) (fun j hj => (ho2 j (by omega))) ha2⟩
          · refine xj_aload_n (i := 0) d14_28_117 rfl rfl ?_
            refine xj_iconst (v := 2) d14_28_118 (by decide) ?_
            refine xj_callV (rest := []) (As := [.int 2]) (b := 24) (mAhead hg (M := M) (n := M.1) (dl := dl) (pl := pl) (vc := vc) (tk := tk) (hc := hc) (sn := sn) (y24 := 0) (y33 := y33) (y36 := y36) (y37 := y37) (y38 := y38) (y39 := y39) (np := A.length) (a := a) (dp := r.length) (fp := fp) (k := 2) rfl (by omega) (by omega) (by omega) k24 (by omega) (by omega) k32 (by omega) hpl) d14_28_119 wd14_19 k24 (by omega) (show 24 < M.1 by omega) rfl s14_19 w1216 (Or.inl w1214) rfl rfl (Nat.le_of_ble_eq_true rfl) (by omega) (by omega) (by omega) ?_
            rintro v M' ⟨rfl, hm⟩
            subst M'
            refine xj_bipush (v := 48) d14_28_122 (by decide) ?_
            refine xj_isub (v := (pch fp pl (a + 2)) - 48) d14_28_124 rfl ?_
            refine xj_iload_n (i := 1) d14_28_125 rfl rfl ?_
            refine xj_icmp_lt (tgt := 165) d14_28_126 rfl (fun h6 => ?_) (fun h6 => ?_)
            · refine xj_aload_n (i := 0) d14_28_165 rfl rfl ?_
              refine xj_iconst (v := 4) d14_28_166 (by decide) ?_
              refine xj_put (a := 24) (fs' := [.ref 25, .ref 26, .ref 27, .ref 28, .ref 29, .ref 30, .int (nI sn), .int (nI vc), .int (nI tk), .ref 31, .int (nI dl), .ref 32, .int (nI pl), .int (nI A.length), .ref 33, .ref 34, .ref 35, .ref 36, .ref 37, .ref 38, .ref 39, .ref 40, .int (nI a), .int (nI r.length), .int 4, .ref 41, .ref 42, .ref 43, .ref 44, .ref 45, .ref 46, .ref 47, .ref 48, .int y33, .ref 49, .ref 50, .int y36, .int y37, .int y38, .int y39, .int (nI hc), .ref 51]) d14_28_167 f14_156_12 k24 (by omega) (show 24 < M.1 by omega) (Nat.le_of_ble_eq_true rfl) rfl rfl rfl ?_
              refine xj_abs_set (fun M3 hs3 ha3 ho3 => ?_)
              have hq : pBraces fp pl (a, 0, A, (t1, l ++ [e]) :: r) = pFau (a, 0, A, (t1, l ++ [e]) :: r) 4 := (if_neg (fun q => q (xB_y hd0))).trans ((if_neg h1).trans ((if_neg (fun q => h3 q.2)).trans (if_neg (fun q => absurd h6 (Int32.not_lt.mpr q.2.2.1)))))
              refine xj_ret d14_28_170 (by omega) (by omega) rfl ⟨rfl, ?_⟩
              rw [hq]
              exact ⟨fun q => absurd q (show ¬ (4 : Int32) = 0 by decide), fun _ => mR_fa hR0 (show M3.1 = M.1 by omega) (fun j hj => (ho3 j (by omega))) ha3⟩
            · refine xj_aload_n (i := 0) d14_28_129 rfl rfl ?_
              refine xj_iconst (v := 3) d14_28_130 (by decide) ?_
              refine xj_callV (rest := []) (As := [.int 3]) (b := 24) (mAhead hg (M := M) (n := M.1) (dl := dl) (pl := pl) (vc := vc) (tk := tk) (hc := hc) (sn := sn) (y24 := 0) (y33 := y33) (y36 := y36) (y37 := y37) (y38 := y38) (y39 := y39) (np := A.length) (a := a) (dp := r.length) (fp := fp) (k := 3) rfl (by omega) (by omega) (by omega) k24 (by omega) (by omega) k32 (by omega) hpl) d14_28_131 wd14_19 k24 (by omega) (show 24 < M.1 by omega) rfl s14_19 w1216 (Or.inl w1214) rfl rfl (Nat.le_of_ble_eq_true rfl) (by omega) (by omega) (by omega) ?_
              rintro v M' ⟨rfl, hm⟩
              subst M'
              refine xj_bipush (v := 125) d14_28_134 (by decide) ?_
              refine xj_icmp_ne (tgt := 165) d14_28_136 rfl (fun h7 => ?_) (fun h7 => ?_)
              · refine xj_aload_n (i := 0) d14_28_165 rfl rfl ?_
                refine xj_iconst (v := 4) d14_28_166 (by decide) ?_
                refine xj_put (a := 24) (fs' := [.ref 25, .ref 26, .ref 27, .ref 28, .ref 29, .ref 30, .int (nI sn), .int (nI vc), .int (nI tk), .ref 31, .int (nI dl), .ref 32, .int (nI pl), .int (nI A.length), .ref 33, .ref 34, .ref 35, .ref 36, .ref 37, .ref 38, .ref 39, .ref 40, .int (nI a), .int (nI r.length), .int 4, .ref 41, .ref 42, .ref 43, .ref 44, .ref 45, .ref 46, .ref 47, .ref 48, .int y33, .ref 49, .ref 50, .int y36, .int y37, .int y38, .int y39, .int (nI hc), .ref 51]) d14_28_167 f14_156_12 k24 (by omega) (show 24 < M.1 by omega) (Nat.le_of_ble_eq_true rfl) rfl rfl rfl ?_
                refine xj_abs_set (fun M4 hs4 ha4 ho4 => ?_)
                have hq : pBraces fp pl (a, 0, A, (t1, l ++ [e]) :: r) = pFau (a, 0, A, (t1, l ++ [e]) :: r) 4 := (if_neg (fun q => q (xB_y hd0))).trans ((if_neg h1).trans ((if_neg (fun q => h3 q.2)).trans (if_neg (fun q => h7 q.2.2.2))))
                refine xj_ret d14_28_170 (by omega) (by omega) rfl ⟨rfl, ?_⟩
                rw [hq]
                exact ⟨fun q => absurd q (show ¬ (4 : Int32) = 0 by decide), fun _ => mR_fa hR0 (show M4.1 = M.1 by omega) (fun j hj => (ho4 j (by omega))) ha4⟩
              · refine xj_aload_n (i := 0) d14_28_139 rfl rfl ?_
                refine xj_iload_n (i := 1) d14_28_140 rfl rfl ?_
                refine xj_aload_n (i := 0) d14_28_141 rfl rfl ?_
                refine xj_iconst (v := 2) d14_28_142 (by decide) ?_
                refine xj_callV (rest := [.int ((pch fp pl a) - 48), .ref 24]) (As := [.int 2]) (b := 24) (mAhead hg (M := M) (n := M.1) (dl := dl) (pl := pl) (vc := vc) (tk := tk) (hc := hc) (sn := sn) (y24 := 0) (y33 := y33) (y36 := y36) (y37 := y37) (y38 := y38) (y39 := y39) (np := A.length) (a := a) (dp := r.length) (fp := fp) (k := 2) rfl (by omega) (by omega) (by omega) k24 (by omega) (by omega) k32 (by omega) hpl) d14_28_143 wd14_19 k24 (by omega) (show 24 < M.1 by omega) rfl s14_19 w1216 (Or.inl w1214) rfl rfl (Nat.le_of_ble_eq_true rfl) (by omega) (by omega) (by omega) ?_
                rintro v M' ⟨rfl, hm⟩
                subst M'
                refine xj_bipush (v := 48) d14_28_146 (by decide) ?_
                refine xj_isub (v := (pch fp pl (a + 2)) - 48) d14_28_148 rfl ?_
                refine xj_callV (rest := []) (As := [.int ((pch fp pl a) - 48), .int ((pch fp pl (a + 2)) - 48)]) (b := 24) (rRep hg hxn h52 hR0 ha (m := (pch fp pl a) - 48) (nn := (pch fp pl (a + 2)) - 48)) d14_28_149 wd14_26 k24 (by omega) (show 24 < M.1 by omega) rfl s14_26 w1248 (Or.inl w1246) rfl rfl (Nat.le_of_ble_eq_true rfl) (by omega) (by omega) (by omega) ?_
                rintro v M1 ⟨rfl, hR1⟩
                obtain ⟨np1, hnp1, l24⟩ := mR_24 hR1
                replace l24 : M1.2 24 = (.inr (12, [.ref 25, .ref 26, .ref 27, .ref 28, .ref 29, .ref 30, .int (nI sn), .int (nI vc), .int (nI tk), .ref 31, .int (nI dl), .ref 32, .int (nI pl), .int (nI np1), .ref 33, .ref 34, .ref 35, .ref 36, .ref 37, .ref 38, .ref 39, .ref 40, .int (nI a), .int (nI r.length), .int 0, .ref 41, .ref 42, .ref 43, .ref 44, .ref 45, .ref 46, .ref 47, .ref 48, .int y33, .ref 49, .ref 50, .int y36, .int y37, .int y38, .int y39, .int (nI hc), .ref 51])) := l24
                have hs1 : M1.1 = M0.1 := hR1.1.1
                refine xj_aload_n (i := 0) d14_28_152 rfl rfl ?_
                refine xj_aload_n (i := 0) d14_28_153 rfl rfl ?_
                refine xj_get d14_28_154 f14_133_12 l24 (by omega) (show 24 < M1.1 by omega) rfl ?_
                refine xj_iconst (v := 4) d14_28_157 (by decide) ?_
                refine xj_iadd (v := nI (a + 4)) d14_28_158 (nI_add a 4) ?_
                refine xj_put (a := 24) (fs' := [.ref 25, .ref 26, .ref 27, .ref 28, .ref 29, .ref 30, .int (nI sn), .int (nI vc), .int (nI tk), .ref 31, .int (nI dl), .ref 32, .int (nI pl), .int (nI np1), .ref 33, .ref 34, .ref 35, .ref 36, .ref 37, .ref 38, .ref 39, .ref 40, .int (nI (a + 4)), .int (nI r.length), .int 0, .ref 41, .ref 42, .ref 43, .ref 44, .ref 45, .ref 46, .ref 47, .ref 48, .int y33, .ref 49, .ref 50, .int y36, .int y37, .int y38, .int y39, .int (nI hc), .ref 51]) d14_28_159 f14_133_12 l24 (by omega) (show 24 < M1.1 by omega) (Nat.le_of_ble_eq_true rfl) rfl rfl rfl ?_
                refine xj_abs_set (fun M5 hs5 ha5 ho5 => ?_)
                refine xj_goto (tgt := 170) d14_28_162 rfl ?_
                have hq : pBraces fp pl (a, 0, A, (t1, l ++ [e]) :: r) = pAt (pRep (a, 0, A, (t1, l ++ [e]) :: r) ((pch fp pl a) - 48) ((pch fp pl (a + 2)) - 48)) 4 := (if_neg (fun q => q (xB_y hd0))).trans ((if_neg h1).trans ((if_neg (fun q => h3 q.2)).trans (if_pos ⟨h2, xB_y h5, Int32.not_lt.mp h6, h7⟩)))
                have hbn := (pch_in h7 (by decide))
                refine xj_ret d14_28_170 (by omega) (by omega) rfl ⟨rfl, ?_⟩
                rw [hq]
                exact ⟨fun _ => mR_at hR1 (show a + 4 ≤ 24 by omega) hnp1 (show M5.1 = M1.1 by omega) (fun j hj => (ho5 j (by omega))) ha5, fun q => absurd rfl q⟩
        · refine xj_aload_n (i := 0) d14_28_77 rfl rfl ?_
          refine xj_iload_n (i := 1) d14_28_78 rfl rfl ?_
          refine xj_iconst (v := (-1)) d14_28_79 (by decide) ?_
          refine xj_callV (rest := []) (As := [.int ((pch fp pl a) - 48), .int (-1)]) (b := 24) (rRep hg hxn h52 hR0 ha (m := (pch fp pl a) - 48) (nn := (-1))) d14_28_80 wd14_26 k24 (by omega) (show 24 < M.1 by omega) rfl s14_26 w1248 (Or.inl w1246) rfl rfl (Nat.le_of_ble_eq_true rfl) (by omega) (by omega) (by omega) ?_
          rintro v M1 ⟨rfl, hR1⟩
          obtain ⟨np1, hnp1, l24⟩ := mR_24 hR1
          replace l24 : M1.2 24 = (.inr (12, [.ref 25, .ref 26, .ref 27, .ref 28, .ref 29, .ref 30, .int (nI sn), .int (nI vc), .int (nI tk), .ref 31, .int (nI dl), .ref 32, .int (nI pl), .int (nI np1), .ref 33, .ref 34, .ref 35, .ref 36, .ref 37, .ref 38, .ref 39, .ref 40, .int (nI a), .int (nI r.length), .int 0, .ref 41, .ref 42, .ref 43, .ref 44, .ref 45, .ref 46, .ref 47, .ref 48, .int y33, .ref 49, .ref 50, .int y36, .int y37, .int y38, .int y39, .int (nI hc), .ref 51])) := l24
          have hs1 : M1.1 = M0.1 := hR1.1.1
          refine xj_aload_n (i := 0) d14_28_83 rfl rfl ?_
          refine xj_aload_n (i := 0) d14_28_84 rfl rfl ?_
          refine xj_get d14_28_85 f14_133_12 l24 (by omega) (show 24 < M1.1 by omega) rfl ?_
          refine xj_iconst (v := 3) d14_28_88 (by decide) ?_
          refine xj_iadd (v := nI (a + 3)) d14_28_89 (nI_add a 3) ?_
          refine xj_put (a := 24) (fs' := [.ref 25, .ref 26, .ref 27, .ref 28, .ref 29, .ref 30, .int (nI sn), .int (nI vc), .int (nI tk), .ref 31, .int (nI dl), .ref 32, .int (nI pl), .int (nI np1), .ref 33, .ref 34, .ref 35, .ref 36, .ref 37, .ref 38, .ref 39, .ref 40, .int (nI (a + 3)), .int (nI r.length), .int 0, .ref 41, .ref 42, .ref 43, .ref 44, .ref 45, .ref 46, .ref 47, .ref 48, .int y33, .ref 49, .ref 50, .int y36, .int y37, .int y38, .int y39, .int (nI hc), .ref 51]) d14_28_90 f14_133_12 l24 (by omega) (show 24 < M1.1 by omega) (Nat.le_of_ble_eq_true rfl) rfl rfl rfl ?_
          refine xj_abs_set (fun M6 hs6 ha6 ho6 => ?_)
          refine xj_goto (tgt := 170) d14_28_93 rfl ?_
          have hq : pBraces fp pl (a, 0, A, (t1, l ++ [e]) :: r) = pAt (pRep (a, 0, A, (t1, l ++ [e]) :: r) ((pch fp pl a) - 48) ((-1))) 3 := (if_neg (fun q => q (xB_y hd0))).trans ((if_neg h1).trans (if_pos ⟨h2, h3⟩))
          have hbn := (pch_in h3 (by decide))
          refine xj_ret d14_28_170 (by omega) (by omega) rfl ⟨rfl, ?_⟩
          rw [hq]
          exact ⟨fun _ => mR_at hR1 (show a + 3 ≤ 24 by omega) hnp1 (show M6.1 = M1.1 by omega) (fun j hj => (ho6 j (by omega))) ha6, fun q => absurd rfl q⟩
    · refine xj_aload_n (i := 0) d14_28_38 rfl rfl ?_
      refine xj_iload_n (i := 1) d14_28_39 rfl rfl ?_
      refine xj_iload_n (i := 1) d14_28_40 rfl rfl ?_
      refine xj_callV (rest := []) (As := [.int ((pch fp pl a) - 48), .int ((pch fp pl a) - 48)]) (b := 24) (rRep hg hxn h52 hR0 ha (m := (pch fp pl a) - 48) (nn := (pch fp pl a) - 48)) d14_28_41 wd14_26 k24 (by omega) (show 24 < M.1 by omega) rfl s14_26 w1248 (Or.inl w1246) rfl rfl (Nat.le_of_ble_eq_true rfl) (by omega) (by omega) (by omega) ?_
      rintro v M1 ⟨rfl, hR1⟩
      obtain ⟨np1, hnp1, l24⟩ := mR_24 hR1
      replace l24 : M1.2 24 = (.inr (12, [.ref 25, .ref 26, .ref 27, .ref 28, .ref 29, .ref 30, .int (nI sn), .int (nI vc), .int (nI tk), .ref 31, .int (nI dl), .ref 32, .int (nI pl), .int (nI np1), .ref 33, .ref 34, .ref 35, .ref 36, .ref 37, .ref 38, .ref 39, .ref 40, .int (nI a), .int (nI r.length), .int 0, .ref 41, .ref 42, .ref 43, .ref 44, .ref 45, .ref 46, .ref 47, .ref 48, .int y33, .ref 49, .ref 50, .int y36, .int y37, .int y38, .int y39, .int (nI hc), .ref 51])) := l24
      have hs1 : M1.1 = M0.1 := hR1.1.1
      refine xj_aload_n (i := 0) d14_28_44 rfl rfl ?_
      refine xj_aload_n (i := 0) d14_28_45 rfl rfl ?_
      refine xj_get d14_28_46 f14_133_12 l24 (by omega) (show 24 < M1.1 by omega) rfl ?_
      refine xj_iconst (v := 2) d14_28_49 (by decide) ?_
      refine xj_iadd (v := nI (a + 2)) d14_28_50 (nI_add a 2) ?_
      refine xj_put (a := 24) (fs' := [.ref 25, .ref 26, .ref 27, .ref 28, .ref 29, .ref 30, .int (nI sn), .int (nI vc), .int (nI tk), .ref 31, .int (nI dl), .ref 32, .int (nI pl), .int (nI np1), .ref 33, .ref 34, .ref 35, .ref 36, .ref 37, .ref 38, .ref 39, .ref 40, .int (nI (a + 2)), .int (nI r.length), .int 0, .ref 41, .ref 42, .ref 43, .ref 44, .ref 45, .ref 46, .ref 47, .ref 48, .int y33, .ref 49, .ref 50, .int y36, .int y37, .int y38, .int y39, .int (nI hc), .ref 51]) d14_28_51 f14_133_12 l24 (by omega) (show 24 < M1.1 by omega) (Nat.le_of_ble_eq_true rfl) rfl rfl rfl ?_
      refine xj_abs_set (fun M7 hs7 ha7 ho7 => ?_)
      refine xj_goto (tgt := 170) d14_28_54 rfl ?_
      have hq : pBraces fp pl (a, 0, A, (t1, l ++ [e]) :: r) = pAt (pRep (a, 0, A, (t1, l ++ [e]) :: r) ((pch fp pl a) - 48) ((pch fp pl a) - 48)) 2 := (if_neg (fun q => q (xB_y hd0))).trans (if_pos h1)
      have hbn := (pch_in h1 (by decide))
      refine xj_ret d14_28_170 (by omega) (by omega) rfl ⟨rfl, ?_⟩
      rw [hq]
      exact ⟨fun _ => mR_at hR1 (show a + 2 ≤ 24 by omega) hnp1 (show M7.1 = M1.1 by omega) (fun j hj => (ho7 j (by omega))) ha7, fun q => absurd rfl q⟩
  · refine xj_aload_n (i := 0) d14_28_20 rfl rfl ?_
    refine xj_iconst (v := 4) d14_28_21 (by decide) ?_
    refine xj_put (a := 24) (fs' := [.ref 25, .ref 26, .ref 27, .ref 28, .ref 29, .ref 30, .int (nI sn), .int (nI vc), .int (nI tk), .ref 31, .int (nI dl), .ref 32, .int (nI pl), .int (nI A.length), .ref 33, .ref 34, .ref 35, .ref 36, .ref 37, .ref 38, .ref 39, .ref 40, .int (nI a), .int (nI r.length), .int 4, .ref 41, .ref 42, .ref 43, .ref 44, .ref 45, .ref 46, .ref 47, .ref 48, .int y33, .ref 49, .ref 50, .int y36, .int y37, .int y38, .int y39, .int (nI hc), .ref 51]) d14_28_22 f14_156_12 k24 (by omega) (show 24 < M.1 by omega) (Nat.le_of_ble_eq_true rfl) rfl rfl rfl ?_
    refine xj_abs_set (fun M8 hs8 ha8 ho8 => ?_)
    refine xj_goto (tgt := 170) d14_28_25 rfl ?_
    have hq : pBraces fp pl (a, 0, A, (t1, l ++ [e]) :: r) = pFau (a, 0, A, (t1, l ++ [e]) :: r) 4 := if_pos (xB_n hd0)
    refine xj_ret d14_28_170 (by omega) (by omega) rfl ⟨rfl, ?_⟩
    rw [hq]
    exact ⟨fun q => absurd q (show ¬ (4 : Int32) = 0 by decide), fun _ => mR_fa hR0 (show M8.1 = M.1 by omega) (fun j hj => (ho8 j (by omega))) ha8⟩

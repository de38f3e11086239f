theorem pW_0 : pW (0, 0, [], ([], []) :: []) := by
  refine ⟨by simp, by decide, by decide, by decide, fun _ => 0, fun i q h => by simp at h, fun e v hv => ?_⟩
  rcases plv_top (A := []) (t := ([], [])) hv with ⟨-, z⟩ | ⟨z, -⟩
  · rw [z]
    exact ⟨fun c hc => absurd hc (by simp), fun c hc => absurd hc (by simp), List.Pairwise.nil, List.Pairwise.nil⟩
  · exact absurd z (Nat.not_lt_zero _)
theorem mA_0 {kd ch nx be lo hi wt cs fP lP fB lB : Nat → Int32} (h1 : fP 0 = -1) (h2 : lP 0 = -1) (h3 : fB 0 = -1) (h4 : lB 0 = -1) : mA kd ch nx be lo hi wt cs fP lP fB lB (0, 0, [], ([], []) :: []) := by
  refine ⟨fun i q h => by simp at h, fun e v hv => ?_⟩
  rcases plv_top (A := []) (t := ([], [])) hv with ⟨z0, z⟩ | ⟨z, -⟩
  · rw [z, z0]
    exact ⟨h1, h3, h2, h4, fun a b c w => by have w' : [] = a ++ c :: b := w; simp at w'⟩
  · exact absurd z (Nat.not_lt_zero _)
set_option maxRecDepth 20000 in
set_option maxHeartbeats 1000000 in
theorem rRead {G : xG} (hg : xGood G) (hxn : xn = 16) {dl pl vc tk hc sn : Nat} {y33 y36 y37 y38 y39 : Int32} {fp : Nat → Int32} {M : xM} (h52 : 52 ≤ M.1) (hpl : pl ≤ 24) (hPR : ∀ j, j < pl → ∃ u1, u1 < 95 ∧ fp j = nI (u1 + 32)) {x : Int32} (hf : mRf dl pl vc tk hc sn y33 y36 y37 y38 y39 fp M M x) : XC G Y14_40 none 10 0 0 [.ref 24] M (fun v M' => v = none ∧ mZ dl pl vc tk hc sn y33 y36 y37 y38 y39 fp M M' (pRead fp pl)) := by
  obtain ⟨-, k32, y13, y22, y23, kd, ch, nx, be, lo, hi, wt, cs, fP, lP, fB, lB, k24, k33, k34, k35, k36, k37, k38, k39, k40, k41, k42, k43, k44⟩ := hf
  obtain ⟨n, hn⟩ : ∃ n, M.1 = n := ⟨_, rfl⟩
  have hn2 : 52 ≤ n := by omega
  refine xc_of hg (by decide) (Nat.le_of_ble_eq_true rfl) (Or.inr (Or.inr (Or.inr (Or.inr (Or.inl ⟨rfl, rfl, fun v M' h => h.1⟩))))) ?_
  refine xj_aload_n (i := 0) d14_40_0 rfl rfl ?_
  refine xj_iconst (v := 0) d14_40_1 (by decide) ?_
  refine xj_put (a := 24) (fs' := [.ref 25, .ref 26, .ref 27, .ref 28, .ref 29, .ref 30, .int (nI sn), .int (nI vc), .int (nI tk), .ref 31, .int (nI dl), .ref 32, .int (nI pl), .int 0, .ref 33, .ref 34, .ref 35, .ref 36, .ref 37, .ref 38, .ref 39, .ref 40, .int y22, .int y23, .int x, .ref 41, .ref 42, .ref 43, .ref 44, .ref 45, .ref 46, .ref 47, .ref 48, .int y33, .ref 49, .ref 50, .int y36, .int y37, .int y38, .int y39, .int (nI hc), .ref 51]) d14_40_2 f14_136_12 k24 (by omega) (show 24 < M.1 by omega) (Nat.le_of_ble_eq_true rfl) rfl rfl rfl ?_
  refine xj_abs_set (fun M1 hs1 ha1 ho1 => ?_)
  refine xj_aload_n (i := 0) d14_40_5 rfl rfl ?_
  refine xj_iconst (v := 0) d14_40_6 (by decide) ?_
  refine xj_put (a := 24) (fs' := [.ref 25, .ref 26, .ref 27, .ref 28, .ref 29, .ref 30, .int (nI sn), .int (nI vc), .int (nI tk), .ref 31, .int (nI dl), .ref 32, .int (nI pl), .int 0, .ref 33, .ref 34, .ref 35, .ref 36, .ref 37, .ref 38, .ref 39, .ref 40, .int 0, .int y23, .int x, .ref 41, .ref 42, .ref 43, .ref 44, .ref 45, .ref 46, .ref 47, .ref 48, .int y33, .ref 49, .ref 50, .int y36, .int y37, .int y38, .int y39, .int (nI hc), .ref 51]) d14_40_7 f14_133_12 ha1 (by omega) (show 24 < M1.1 by omega) (Nat.le_of_ble_eq_true rfl) rfl rfl rfl ?_
  refine xj_abs_set (fun M2 hs2 ha2 ho2 => ?_)
  refine xj_aload_n (i := 0) d14_40_10 rfl rfl ?_
  refine xj_iconst (v := 0) d14_40_11 (by decide) ?_
  refine xj_put (a := 24) (fs' := [.ref 25, .ref 26, .ref 27, .ref 28, .ref 29, .ref 30, .int (nI sn), .int (nI vc), .int (nI tk), .ref 31, .int (nI dl), .ref 32, .int (nI pl), .int 0, .ref 33, .ref 34, .ref 35, .ref 36, .ref 37, .ref 38, .ref 39, .ref 40, .int 0, .int 0, .int x, .ref 41, .ref 42, .ref 43, .ref 44, .ref 45, .ref 46, .ref 47, .ref 48, .int y33, .ref 49, .ref 50, .int y36, .int y37, .int y38, .int y39, .int (nI hc), .ref 51]) d14_40_12 f14_139_12 ha2 (by omega) (show 24 < M2.1 by omega) (Nat.le_of_ble_eq_true rfl) rfl rfl rfl ?_
  refine xj_abs_set (fun M3 hs3 ha3 ho3 => ?_)
  refine xj_aload_n (i := 0) d14_40_15 rfl rfl ?_
  refine xj_iconst (v := 0) d14_40_16 (by decide) ?_
  refine xj_put (a := 24) (fs' := [.ref 25, .ref 26, .ref 27, .ref 28, .ref 29, .ref 30, .int (nI sn), .int (nI vc), .int (nI tk), .ref 31, .int (nI dl), .ref 32, .int (nI pl), .int 0, .ref 33, .ref 34, .ref 35, .ref 36, .ref 37, .ref 38, .ref 39, .ref 40, .int 0, .int 0, .int 0, .ref 41, .ref 42, .ref 43, .ref 44, .ref 45, .ref 46, .ref 47, .ref 48, .int y33, .ref 49, .ref 50, .int y36, .int y37, .int y38, .int y39, .int (nI hc), .ref 51]) d14_40_17 f14_156_12 ha3 (by omega) (show 24 < M3.1 by omega) (Nat.le_of_ble_eq_true rfl) rfl rfl rfl ?_
  refine xj_abs_set (fun M4 hs4 ha4 ho4 => ?_)
  refine xj_aload_n (i := 0) d14_40_20 rfl rfl ?_
  refine xj_callV (rest := []) (As := []) (b := 24) (mBegin hg (M := M4) (n := n) (dl := dl) (pl := pl) (vc := vc) (tk := tk) (hc := hc) (sn := sn) (y24 := 0) (y33 := y33) (y36 := y36) (y37 := y37) (y38 := y38) (y39 := y39) (np := 0) (a := 0) (dp := 0) (fP := fP) (lP := lP) (fB := fB) (lB := lB) (show M4.1 = n by omega) (by omega) (by omega) (by omega) ha4 (by omega) (by omega) ((ho4 41 (by omega)).trans ((ho3 41 (by omega)).trans ((ho2 41 (by omega)).trans ((ho1 41 (by omega)).trans k41)))) (by omega) (by omega) ((ho4 42 (by omega)).trans ((ho3 42 (by omega)).trans ((ho2 42 (by omega)).trans ((ho1 42 (by omega)).trans k42)))) (by omega) (by omega) ((ho4 43 (by omega)).trans ((ho3 43 (by omega)).trans ((ho2 43 (by omega)).trans ((ho1 43 (by omega)).trans k43)))) (by omega) (by omega) ((ho4 44 (by omega)).trans ((ho3 44 (by omega)).trans ((ho2 44 (by omega)).trans ((ho1 44 (by omega)).trans k44)))) hxn hn2 (by omega)) d14_40_21 wd14_23 ha4 (by omega) (show 24 < M4.1 by omega) rfl s14_23 w1208 (Or.inl w1206) rfl rfl (Nat.le_of_ble_eq_true rfl) (by omega) (by omega) (by omega) ?_
  rintro v M5 ⟨rfl, hs5, ho5, hf5_0, hf5_1, hf5_2, hf5_3⟩
  replace hs5 : M5.1 = n := hs5
  replace hf5_0 : M5.2 41 = (.inl (0, 7, .inl (upd fP 0 (-1)))) := hf5_0
  replace hf5_1 : M5.2 42 = (.inl (0, 7, .inl (upd lP 0 (-1)))) := hf5_1
  replace hf5_2 : M5.2 43 = (.inl (0, 7, .inl (upd fB 0 (-1)))) := hf5_2
  replace hf5_3 : M5.2 44 = (.inl (0, 7, .inl (upd lB 0 (-1)))) := hf5_3
  have hR1 : mR dl pl vc tk hc sn y33 y36 y37 y38 y39 fp M M5 (0, 0, [], ([], []) :: []) := ⟨⟨(show M5.1 = M.1 by omega), fun j h1 h2 h3 => ((ho5 j (by omega) (by omega) (by omega) (by omega) (by omega)).trans ((ho4 j (by omega)).trans ((ho3 j (by omega)).trans ((ho2 j (by omega)).trans (ho1 j (by omega))))))⟩, ((ho5 32 (by omega) (by omega) (by omega) (by omega) (by omega)).trans ((ho4 32 (by omega)).trans ((ho3 32 (by omega)).trans ((ho2 32 (by omega)).trans (ho1 32 (by omega)))))).trans k32, 0, kd, ch, nx, be, lo, hi, wt, cs, (upd fP 0 (-1)), (upd lP 0 (-1)), (upd fB 0 (-1)), (upd lB 0 (-1)), rfl, ((ho5 24 (by omega) (by omega) (by omega) (by omega) (by omega)).trans ha4), ((ho5 33 (by omega) (by omega) (by omega) (by omega) (by omega)).trans ((ho4 33 (by omega)).trans ((ho3 33 (by omega)).trans ((ho2 33 (by omega)).trans ((ho1 33 (by omega)).trans k33))))), ((ho5 34 (by omega) (by omega) (by omega) (by omega) (by omega)).trans ((ho4 34 (by omega)).trans ((ho3 34 (by omega)).trans ((ho2 34 (by omega)).trans ((ho1 34 (by omega)).trans k34))))), ((ho5 35 (by omega) (by omega) (by omega) (by omega) (by omega)).trans ((ho4 35 (by omega)).trans ((ho3 35 (by omega)).trans ((ho2 35 (by omega)).trans ((ho1 35 (by omega)).trans k35))))), ((ho5 36 (by omega) (by omega) (by omega) (by omega) (by omega)).trans ((ho4 36 (by omega)).trans ((ho3 36 (by omega)).trans ((ho2 36 (by omega)).trans ((ho1 36 (by omega)).trans k36))))), ((ho5 37 (by omega) (by omega) (by omega) (by omega) (by omega)).trans ((ho4 37 (by omega)).trans ((ho3 37 (by omega)).trans ((ho2 37 (by omega)).trans ((ho1 37 (by omega)).trans k37))))), ((ho5 38 (by omega) (by omega) (by omega) (by omega) (by omega)).trans ((ho4 38 (by omega)).trans ((ho3 38 (by omega)).trans ((ho2 38 (by omega)).trans ((ho1 38 (by omega)).trans k38))))), ((ho5 39 (by omega) (by omega) (by omega) (by omega) (by omega)).trans ((ho4 39 (by omega)).trans ((ho3 39 (by omega)).trans ((ho2 39 (by omega)).trans ((ho1 39 (by omega)).trans k39))))), ((ho5 40 (by omega) (by omega) (by omega) (by omega) (by omega)).trans ((ho4 40 (by omega)).trans ((ho3 40 (by omega)).trans ((ho2 40 (by omega)).trans ((ho1 40 (by omega)).trans k40))))), hf5_0, hf5_1, hf5_2, hf5_3, mA_0 (if_pos rfl) (if_pos rfl) (if_pos rfl) (if_pos rfl), pW_0⟩
  refine rRunL hg hxn h52 hpl hPR (by omega) (by omega) (by omega) pl 0 [] ([], []) [] M5 hR1 (fun q hq => absurd hq (by simp)) (by omega) (by omega) (fun M9 hX => ?_)
  by_cases hz : (pRun fp pl pl (0, 0, [], ([], []) :: [])).2.1 = 0
  · have hR9 := hX.1 hz
    obtain ⟨a, A, t, r, hform⟩ := mR_form hR9 hz
    have hrd : pRead fp pl = pEnd (a, 0, A, t :: r) := congrArg pEnd hform
    rw [hform] at hR9
    rw [hrd]
    cases r with
    | nil => exact rFinN hg hxn h52 (by omega) (by omega) (by omega) hR9 (fun M' h => ⟨rfl, h⟩)
    | cons t2 r2 => exact rFinG hxn h52 (by omega) (by omega) (by omega) hR9 (fun M' h => ⟨rfl, h⟩)
  · exact rFinF hxn h52 (by omega) (by omega) (by omega) (hX.2 hz) hz (fun M' h => ⟨rfl, h⟩)
set_option maxRecDepth 20000 in
theorem rFault {G : xG} (hg : xGood G) (hxn : xn = 16) {dl pl vc tk hc sn : Nat} {y33 y36 y37 y38 y39 : Int32} {fp : Nat → Int32} {M : xM} (h52 : 52 ≤ M.1) (hpl : pl ≤ 24) (hPR : ∀ j, j < pl → ∃ u1, u1 < 95 ∧ fp j = nI (u1 + 32)) {x : Int32} (hf : mRf dl pl vc tk hc sn y33 y36 y37 y38 y39 fp M M x) : XC G Y14_41 (some .int) 11 0 0 [.ref 24] M (fun v M' => v = some (.int (pRead fp pl).2.1) ∧ mZ dl pl vc tk hc sn y33 y36 y37 y38 y39 fp M M' (pRead fp pl)) := by
  obtain ⟨-, k32, y13, y22, y23, kd, ch, nx, be, lo, hi, wt, cs, fP, lP, fB, lB, k24, k33, k34, k35, k36, k37, k38, k39, k40, k41, k42, k43, k44⟩ := id hf
  obtain ⟨n, hn⟩ : ∃ n, M.1 = n := ⟨_, rfl⟩
  have hn2 : 52 ≤ n := by omega
  refine xc_of hg (by decide) (Nat.le_of_ble_eq_true rfl) (Or.inl ⟨rfl, rfl, fun v M' h => ⟨_, h.1⟩⟩) ?_
  refine xj_aload_n (i := 0) d14_41_0 rfl rfl ?_
  refine xj_callV (rest := []) (As := []) (b := 24) (rRead hg hxn h52 hpl hPR hf) d14_41_1 wd14_40 k24 (by omega) (show 24 < M.1 by omega) rfl s14_40 w1204 (Or.inl w1202) rfl rfl (Nat.le_of_ble_eq_true rfl) (by omega) (by omega) (by omega) ?_
  rintro v M9 ⟨rfl, hZ9⟩
  have s9 : M9.1 = M.1 := hZ9.1.1
  obtain ⟨-, -, y139, y229, y239, kd1, ch1, nx1, be1, lo1, hi1, wt1, cs1, fP1, lP1, fB1, lB1, l24, l33, l34, l35, l36, l37, l38, l39, l40, l41, l42, l43, l44, hN9⟩ := id hZ9
  refine xj_aload_n (i := 0) d14_41_4 rfl rfl ?_
  refine xj_get d14_41_5 f14_156_12 l24 (by omega) (show 24 < M9.1 by omega) rfl ?_
  exact xj_ret d14_41_8 (by omega) (by omega) rfl ⟨rfl, hZ9⟩
/-- the document's size, or -1 -/
noncomputable def pSize (fp : Nat → Int32) (pl : Nat) : Int32 := if (pRead fp pl).2.1 = 0 then (pNd (pRead fp pl).2.2.1 ((pRead fp pl).2.2.1.length - 1)).2.1 else -1
set_option maxRecDepth 20000 in
theorem rSize {G : xG} (hg : xGood G) (hxn : xn = 16) {dl pl vc tk hc sn : Nat} {y33 y36 y37 y38 y39 : Int32} {fp : Nat → Int32} {M : xM} (h52 : 52 ≤ M.1) (hpl : pl ≤ 24) (hPR : ∀ j, j < pl → ∃ u1, u1 < 95 ∧ fp j = nI (u1 + 32)) {x : Int32} (hf : mRf dl pl vc tk hc sn y33 y36 y37 y38 y39 fp M M x) : XC G Y14_42 (some .int) 11 0 0 [.ref 24] M (fun v M' => v = some (.int (pSize fp pl)) ∧ mZ dl pl vc tk hc sn y33 y36 y37 y38 y39 fp M M' (pRead fp pl)) := by
  obtain ⟨-, k32, y13, y22, y23, kd, ch, nx, be, lo, hi, wt, cs, fP, lP, fB, lB, k24, k33, k34, k35, k36, k37, k38, k39, k40, k41, k42, k43, k44⟩ := id hf
  obtain ⟨n, hn⟩ : ∃ n, M.1 = n := ⟨_, rfl⟩
  have hn2 : 52 ≤ n := by omega
  refine xc_of hg (by decide) (Nat.le_of_ble_eq_true rfl) (Or.inl ⟨rfl, rfl, fun v M' h => ⟨_, h.1⟩⟩) ?_
  refine xj_aload_n (i := 0) d14_42_0 rfl rfl ?_
  refine xj_callV (rest := []) (As := []) (b := 24) (rRead hg hxn h52 hpl hPR hf) d14_42_1 wd14_40 k24 (by omega) (show 24 < M.1 by omega) rfl s14_40 w1204 (Or.inl w1202) rfl rfl (Nat.le_of_ble_eq_true rfl) (by omega) (by omega) (by omega) ?_
  rintro v M9 ⟨rfl, hZ9⟩
  have s9 : M9.1 = M.1 := hZ9.1.1
  obtain ⟨-, -, y139, y229, y239, kd1, ch1, nx1, be1, lo1, hi1, wt1, cs1, fP1, lP1, fB1, lB1, l24, l33, l34, l35, l36, l37, l38, l39, l40, l41, l42, l43, l44, hN9⟩ := id hZ9
  refine xj_aload_n (i := 0) d14_42_4 rfl rfl ?_
  refine xj_get d14_42_5 f14_156_12 l24 (by omega) (show 24 < M9.1 by omega) rfl ?_
  refine xj_if_ne (tgt := 25) d14_42_8 rfl (fun hb => ?_) (fun hb => ?_)
  · refine xj_iconst (v := (-1)) d14_42_25 (by decide) ?_
    exact xj_ret d14_42_26 (by omega) (by omega) rfl ⟨by rw [show pSize fp pl = -1 from if_neg hb], hZ9⟩
  · obtain ⟨⟨hn0, hn27⟩, hy, hnd⟩ := hN9 hb
    subst hy
    refine xj_aload_n (i := 0) d14_42_11 rfl rfl ?_
    refine xj_get d14_42_12 f14_53_12 l24 (by omega) (show 24 < M9.1 by omega) rfl ?_
    refine xj_aload_n (i := 0) d14_42_15 rfl rfl ?_
    refine xj_get d14_42_16 f14_136_12 l24 (by omega) (show 24 < M9.1 by omega) rfl ?_
    refine xj_iconst (v := 1) d14_42_19 (by decide) ?_
    refine xj_isub (v := nI ((pRead fp pl).2.2.1.length - 1)) d14_42_20 (pk_sub (b := 1) (by omega)) ?_
    refine xj_iaload (j := (pRead fp pl).2.2.1.length - 1) d14_42_21 l39 (by omega) (show 39 < M9.1 by omega) (vp_in_nI (by omega) (by omega)) (nI_clamp (by omega)) ?_
    refine xj_goto (tgt := 26) d14_42_22 rfl ?_
    have hw9 : wt1 ((pRead fp pl).2.2.1.length - 1) = pSize fp pl := ((hnd _ _ (xnd_at (show (pRead fp pl).2.2.1.length - 1 < (pRead fp pl).2.2.1.length by omega))).1.2.1).trans (if_pos hb).symm
    rw [hw9]
    exact xj_ret d14_42_26 (by omega) (by omega) rfl ⟨rfl, hZ9⟩
theorem xIm_rf {M : xM} {f li tx te cu le fd fp fh : Nat → Int32} {sn vc tk dl pl hc : Nat} {sr pn : Int32} (h : xIm M f li tx te cu le fd fp fh sn vc tk dl pl hc sr pn) : ∃ y33 y36 y37 x, mRf dl pl vc tk hc sn y33 y36 y37 sr pn fp M M x := by
  obtain ⟨⟨y13, y22, y23, y24, y33, y36, y37, k24⟩, b25, b26, b27, b28, b29, b30, b31, b32, b51, g, z, w33, w34, w35, w36, w37, w38, w39, w40, w41, w42, w43, w44, w45, w46, w47, w48, w49, kz⟩ := h
  exact ⟨y33, y36, y37, y24, ⟨rfl, fun _ _ _ _ => rfl⟩, b32, y13, y22, y23, g 33, g 34, g 35, g 36, g 37, g 38, g 39, g 40, g 41, g 42, g 43, g 44, k24, w33, w34, w35, w36, w37, w38, w39, w40, w41, w42, w43, w44⟩
theorem mZ_im {M M' : xM} {f li tx te cu le fd fp fh : Nat → Int32} {sn vc tk dl pl hc : Nat} {sr pn : Int32} {y33 y36 y37 : Int32} {σ : xSg} (h : xIm M f li tx te cu le fd fp fh sn vc tk dl pl hc sr pn) (h52 : 52 ≤ M.1) (hz : mZ dl pl vc tk hc sn y33 y36 y37 sr pn fp M M' σ) : xIm M' f li tx te cu le fd fp fh sn vc tk dl pl hc sr pn := by
  obtain ⟨-, b25, b26, b27, b28, b29, b30, b31, b32, b51, g, z, w33, w34, w35, w36, w37, w38, w39, w40, w41, w42, w43, w44, w45, w46, w47, w48, w49, kz⟩ := h
  obtain ⟨⟨i1, i2⟩, l32, w13, w22, w23, kd, ch, nx, be, lo, hi, wt, cs, fP, lP, fB, lB, l24, l33, l34, l35, l36, l37, l38, l39, l40, l41, l42, l43, l44, -⟩ := hz
  have fr : ∀ j, j < 52 → j ≠ 24 → j < 33 ∨ 44 < j → M'.2 j = M.2 j := fun j h1 h2 h3 => i2 j (by omega) h2 h3
  exact ⟨⟨w13, w22, w23, σ.2.1, y33, y36, y37, l24⟩, (fr 25 (by omega) (by omega) (by omega)).trans b25, (fr 26 (by omega) (by omega) (by omega)).trans b26, (fr 27 (by omega) (by omega) (by omega)).trans b27, (fr 28 (by omega) (by omega) (by omega)).trans b28, (fr 29 (by omega) (by omega) (by omega)).trans b29, (fr 30 (by omega) (by omega) (by omega)).trans b30, (fr 31 (by omega) (by omega) (by omega)).trans b31, l32, (fr 51 (by omega) (by omega) (by omega)).trans b51, fun c => match c with
    | 33 => kd
    | 34 => ch
    | 35 => nx
    | 36 => be
    | 37 => lo
    | 38 => hi
    | 39 => wt
    | 40 => cs
    | 41 => fP
    | 42 => lP
    | 43 => fB
    | 44 => lB
    | c => g c, z, l33, l34, l35, l36, l37, l38, l39, l40, l41, l42, l43, l44, (fr 45 (by omega) (by omega) (by omega)).trans w45, (fr 46 (by omega) (by omega) (by omega)).trans w46, (fr 47 (by omega) (by omega) (by omega)).trans w47, (fr 48 (by omega) (by omega) (by omega)).trans w48, (fr 49 (by omega) (by omega) (by omega)).trans w49, (fr 50 (by omega) (by omega) (by omega)).trans kz⟩

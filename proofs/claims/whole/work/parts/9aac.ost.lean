theorem rV_im {M M' : xM} {f li tx te cu le fd fp fh : Nat → Int32} {sn vc tk dl pl hc : Nat} {sr pn : Int32} (h : xIm M f li tx te cu le fd fp fh sn vc tk dl pl hc sr pn) (h52 : 52 ≤ M.1) {kn st lg lt : Nat → Int32} (hV : rV M M' kn st lg lt) {y13 y22 y23 y24 y33 y36 y37 : Int32} (h24 : M'.2 24 = (.inr (12, [.ref 25, .ref 26, .ref 27, .ref 28, .ref 29, .ref 30, .int (nI sn), .int (nI vc), .int (nI tk), .ref 31, .int (nI dl), .ref 32, .int (nI pl), .int y13, .ref 33, .ref 34, .ref 35, .ref 36, .ref 37, .ref 38, .ref 39, .ref 40, .int y22, .int y23, .int y24, .ref 41, .ref 42, .ref 43, .ref 44, .ref 45, .ref 46, .ref 47, .ref 48, .int y33, .ref 49, .ref 50, .int y36, .int y37, .int sr, .int pn, .int (nI hc), .ref 51]))) : xIm M' f li tx te cu le fd fp fh sn vc tk dl pl hc sr pn := by
  obtain ⟨⟨-, -, -, -, -, -, -, -⟩, b25, b26, b27, b28, b29, b30, b31, b32, b51, g, z, w33, w34, w35, w36, w37, w38, w39, w40, w41, w42, w43, w44, w45, w46, w47, w48, w49, kz⟩ := h
  have fr : ∀ j, j < 52 → j ≠ 24 → j < 45 ∨ 48 < j → M'.2 j = M.2 j := fun j h1 h2 h3 => hV.2.1 j (by omega) h2 (by omega) (by omega) (by omega) (by omega)
  exact ⟨⟨y13, y22, y23, y24, y33, y36, y37, h24⟩, (fr 25 (by omega) (by omega) (by omega)).trans b25, (fr 26 (by omega) (by omega) (by omega)).trans b26, (fr 27 (by omega) (by omega) (by omega)).trans b27, (fr 28 (by omega) (by omega) (by omega)).trans b28, (fr 29 (by omega) (by omega) (by omega)).trans b29, (fr 30 (by omega) (by omega) (by omega)).trans b30, (fr 31 (by omega) (by omega) (by omega)).trans b31, (fr 32 (by omega) (by omega) (by omega)).trans b32, (fr 51 (by omega) (by omega) (by omega)).trans b51, fun c => match c with
    | 45 => kn
    | 46 => st
    | 47 => lt
    | 48 => lg
    | c => g c, z, (fr 33 (by omega) (by omega) (by omega)).trans w33, (fr 34 (by omega) (by omega) (by omega)).trans w34, (fr 35 (by omega) (by omega) (by omega)).trans w35, (fr 36 (by omega) (by omega) (by omega)).trans w36, (fr 37 (by omega) (by omega) (by omega)).trans w37, (fr 38 (by omega) (by omega) (by omega)).trans w38, (fr 39 (by omega) (by omega) (by omega)).trans w39, (fr 40 (by omega) (by omega) (by omega)).trans w40, (fr 41 (by omega) (by omega) (by omega)).trans w41, (fr 42 (by omega) (by omega) (by omega)).trans w42, (fr 43 (by omega) (by omega) (by omega)).trans w43, (fr 44 (by omega) (by omega) (by omega)).trans w44, hV.2.2.1, hV.2.2.2.1, hV.2.2.2.2.1, hV.2.2.2.2.2, (fr 49 (by omega) (by omega) (by omega)).trans w49, (fr 50 (by omega) (by omega) (by omega)).trans kz⟩
/-- how many strings a pattern has; -1 if that is not known, -2 where it has a fault -/
noncomputable def pStr (fp : Nat → Int32) (pl : Nat) : Int32 := if (pRead fp pl).2.1 = 0 then (match (sLr (pRead fp pl).2.2.1 ((pRead fp pl).2.2.1.length - 1)).1 with | none => -1 | some S => nI S.length) else -2
set_option maxRecDepth 20000 in
theorem rStr {G : xG} (hg : xGood G) (hxn : xn = 16) {M : xM} {f li tx te cu le fd fp fh : Nat → Int32} {sn vc tk dl pl hc : Nat} {sr pn : Int32} (hIm : xIm M f li tx te cu le fd fp fh sn vc tk dl pl hc sr pn) (h52 : 52 ≤ M.1) (hpl : pl ≤ 24) (hPR : ∀ j, j < pl → ∃ u1, u1 < 95 ∧ fp j = nI (u1 + 32)) (hOk : (pRead fp pl).2.1 = 0 → ∃ lo_ : Nat → Nat, (∀ (i : Nat) (q : xNode), (pRead fp pl).2.2.1[i]? = some q → pOk (pRead fp pl).2.2.1 lo_ i q) ∧ (pRead fp pl).2.2.1.length ≤ 26) : XC G Y14_55 (some .int) 20 0 0 [.ref 24] M (fun v M' => v = some (.int (pStr fp pl)) ∧ xIm M' f li tx te cu le fd fp fh sn vc tk dl pl hc sr pn ∧ M'.1 = M.1 ∧ ∀ j, j < M.1 → j < 24 ∨ 52 ≤ j → M'.2 j = M.2 j) := by
  obtain ⟨⟨y13, y22, y23, y24, y33, y36, y37, k24⟩, b25, b26, b27, b28, b29, b30, b31, b32, b51, g, z, w33, w34, w35, w36, w37, w38, w39, w40, w41, w42, w43, w44, w45, w46, w47, w48, w49, kz⟩ := id hIm
  have hf : mRf dl pl vc tk hc sn y33 y36 y37 sr pn fp M M y24 := ⟨⟨rfl, fun _ _ _ _ => rfl⟩, b32, y13, y22, y23, g 33, g 34, g 35, g 36, g 37, g 38, g 39, g 40, g 41, g 42, g 43, g 44, k24, w33, w34, w35, w36, w37, w38, w39, w40, w41, w42, w43, w44⟩
  obtain ⟨x9, hx9⟩ : ∃ x9, (pRead fp pl).2.1 = x9 := ⟨_, rfl⟩
  obtain ⟨n, hn⟩ : ∃ n, M.1 = n := ⟨_, rfl⟩
  have hn2 : 52 ≤ n := by omega
  refine xc_of hg (by decide) (Nat.le_of_ble_eq_true rfl) (Or.inl ⟨rfl, rfl, fun v M' h => ⟨_, h.1⟩⟩) ?_
  refine xj_aload_n (i := 0) d14_55_0 rfl rfl ?_
  refine xj_callV (rest := []) (As := []) (b := 24) (rRead hg hxn h52 hpl hPR hf) d14_55_1 wd14_40 k24 (by omega) (show 24 < M.1 by omega) rfl s14_40 w1204 (Or.inl w1202) rfl rfl (Nat.le_of_ble_eq_true rfl) (by omega) (by omega) (by omega) ?_
  rintro v M9 ⟨rfl, hZ9⟩
  have s9 : M9.1 = M.1 := hZ9.1.1
  have hI9 := mZ_im hIm h52 hZ9
  obtain ⟨-, -, y139, y229, y239, kd1, ch1, nx1, be1, lo1, hi1, wt1, cs1, fP1, lP1, fB1, lB1, l24, l33, l34, l35, l36, l37, l38, l39, l40, l41, l42, l43, l44, hN9⟩ := id hZ9
  rw [hx9] at l24
  refine xj_aload_n (i := 0) d14_55_4 rfl rfl ?_
  refine xj_get d14_55_5 f14_156_12 l24 (by omega) (show 24 < M9.1 by omega) rfl ?_
  refine xj_if_eq (tgt := 14) d14_55_8 rfl (fun hb => ?_) (fun hb => ?_)
  · have hz : (pRead fp pl).2.1 = 0 := hx9.trans hb
    subst hb
    obtain ⟨⟨hn0, hn27⟩, hy, hnd⟩ := hN9 hz
    subst hy
    obtain ⟨lo_, hO, hA26⟩ := hOk hz
    obtain ⟨A, hA⟩ : ∃ A, (pRead fp pl).2.2.1 = A := ⟨_, rfl⟩
    rw [hA] at hn0 hnd hO hA26 l24
    refine xj_aload_n (i := 0) d14_55_14 rfl rfl ?_
    refine xj_callV (rest := []) (As := []) (b := 24) (mFind hg hxn hn2 (show M9.1 = n by omega) ((hZ9.1.2 25 (by omega) (by omega) (by omega)).trans b25) ((hZ9.1.2 26 (by omega) (by omega) (by omega)).trans b26) l33 l34 l35 l37 l38 l40 ((hZ9.1.2 49 (by omega) (by omega) (by omega)).trans w49) hA26 hO (fun i q hq => (hnd i q hq).1) l24 ((hZ9.1.2 45 (by omega) (by omega) (by omega)).trans w45) ((hZ9.1.2 46 (by omega) (by omega) (by omega)).trans w46) ((hZ9.1.2 47 (by omega) (by omega) (by omega)).trans w47) ((hZ9.1.2 48 (by omega) (by omega) (by omega)).trans w48)) d14_55_15 wd14_54 l24 (by omega) (show 24 < M9.1 by omega) rfl s14_54 w1298 (Or.inl w1296) rfl rfl (Nat.le_of_ble_eq_true rfl) (by omega) (by omega) (by omega) ?_
    rintro v M8 ⟨rfl, kn8, st8, lg8, lt8, jn8, hV8, h248, hK8⟩
    have s8 := hV8.1
    have hI8 := rV_im hI9 (by omega) hV8 h248
    refine xj_aload_n (i := 0) d14_55_18 rfl rfl ?_
    refine xj_get d14_55_19 f14_71_12 h248 (by omega) (show 24 < M8.1 by omega) rfl ?_
    refine xj_aload_n (i := 0) d14_55_22 rfl rfl ?_
    refine xj_get d14_55_23 f14_136_12 h248 (by omega) (show 24 < M8.1 by omega) rfl ?_
    refine xj_iconst (v := 1) d14_55_26 (by decide) ?_
    refine xj_isub (v := nI (A.length - 1)) d14_55_27 (pk_sub (b := 1) (by omega)) ?_
    refine xj_zaload (j := A.length - 1) d14_55_28 hV8.2.2.1 (by omega) (show 45 < M8.1 by omega) (vp_in_nI (by omega) (by omega)) (nI_clamp (by omega)) ?_
    refine xj_if_eq (tgt := 46) d14_55_29 rfl (fun hk9 => ?_) (fun hk9 => ?_)
    · refine xj_iconst (v := (-1)) d14_55_46 (by decide) ?_
      have hv : pStr fp pl = (match (sLr A (A.length - 1)).1 with | none => -1 | some S => nI S.length) := by
        rw [← hA]
        exact if_pos hz
      obtain ⟨hr29, hr9⟩ := hK8 (A.length - 1) (by omega)
      rcases hr9 with ⟨r1, r2⟩ | ⟨S, r1, r2, r3⟩
      · have r1' : (sLr A (A.length - 1)).1 = none := r1
        rw [r1'] at hv
        exact xj_ret d14_55_47 (by omega) (by omega) rfl ⟨by rw [hv], hI8, (by omega), fun j a b => (hV8.2.1 j (by omega) (by omega) (by omega) (by omega) (by omega) (by omega)).trans (hZ9.1.2 j a (by omega) (by omega))⟩
      · rw [r2] at hk9
        exact absurd hk9 (by decide)
    · refine xj_aload_n (i := 0) d14_55_32 rfl rfl ?_
      refine xj_get d14_55_33 f14_74_12 h248 (by omega) (show 24 < M8.1 by omega) rfl ?_
      refine xj_aload_n (i := 0) d14_55_36 rfl rfl ?_
      refine xj_get d14_55_37 f14_136_12 h248 (by omega) (show 24 < M8.1 by omega) rfl ?_
      refine xj_iconst (v := 1) d14_55_40 (by decide) ?_
      refine xj_isub (v := nI (A.length - 1)) d14_55_41 (pk_sub (b := 1) (by omega)) ?_
      refine xj_iaload (j := A.length - 1) d14_55_42 hV8.2.2.2.1 (by omega) (show 46 < M8.1 by omega) (vp_in_nI (by omega) (by omega)) (nI_clamp (by omega)) ?_
      refine xj_goto (tgt := 47) d14_55_43 rfl ?_
      have hv : pStr fp pl = (match (sLr A (A.length - 1)).1 with | none => -1 | some S => nI S.length) := by
        rw [← hA]
        exact if_pos hz
      obtain ⟨hr29, hr9⟩ := hK8 (A.length - 1) (by omega)
      rcases hr9 with ⟨r1, r2⟩ | ⟨S, r1, r2, r3⟩
      · exact absurd r2 hk9
      · have r1' : (sLr A (A.length - 1)).1 = some S := r1
        rw [r1'] at hv
        rw [r3.1]
        exact xj_ret d14_55_47 (by omega) (by omega) rfl ⟨by rw [hv], hI8, (by omega), fun j a b => (hV8.2.1 j (by omega) (by omega) (by omega) (by omega) (by omega) (by omega)).trans (hZ9.1.2 j a (by omega) (by omega))⟩
  · refine xj_bipush (v := (-2)) d14_55_11 (by decide) ?_
    exact xj_ret d14_55_13 (by omega) (by omega) rfl ⟨by rw [show pStr fp pl = -2 from if_neg (fun q => hb (hx9.symm.trans q))], hI9, hZ9.1.1, fun j a b => hZ9.1.2 j a (by omega) (by omega)⟩
theorem RD_ok {M : xM} {rd r0 r1 : Nat} {fp : Nat → Int32} {pl : Nat} (h : RD M rd r0 r1 fp pl) (hz : (pRead fp pl).2.1 = 0) : ∃ lo_ : Nat → Nat, (∀ (i : Nat) (q : xNode), (pRead fp pl).2.2.1[i]? = some q → pOk (pRead fp pl).2.2.1 lo_ i q) ∧ (pRead fp pl).2.2.1.length ≤ 26 := by
  obtain ⟨gs, a, og, ow, rk, ad, μ, lo, e1, -, e2, e3, e4, -⟩ := h.2.2 hz
  exact ⟨lo, e3, e4⟩
theorem RD_v {M : xM} {rd r0 r1 : Nat} {fp : Nat → Int32} {pl : Nat} (h : RD M rd r0 r1 fp pl) (hz : (pRead fp pl).2.1 = 0) : ∃ gs W a og b7 l7 : Nat, ∃ w7 : Value, M.2 rd = cRo pl gs W 0 a og ∧ (xn ≤ W ∧ W < M.1) ∧ M.2 W = .inr (5, [.ref b7, .ref l7, w7]) ∧ ((w7 = .null ∧ pStr fp pl = -1) ∨ ∃ wa lt ln : Nat, w7 = .ref wa ∧ (xn ≤ wa ∧ wa < M.1) ∧ M.2 wa = .inr (8, [.ref lt, .ref ln, .int (pStr fp pl)])) := by
  obtain ⟨gs, a, og, ow, rk, ad, μ, lo, e1, ⟨o1, o2, o3, o4⟩, e2, e3, e4, ⟨q, hq, hq6⟩, e6⟩ := h.2.2 hz
  have hr1 := h.1.2.2.2.1
  obtain ⟨wv, hv, ⟨x1, x2, -, -⟩, -, -, -, -, k6⟩ := e2 _ q hq
  obtain ⟨bl, lv, e7, -⟩ := k6 hq6
  have hps : pStr fp pl = (match (sLr (pRead fp pl).2.2.1 ((pRead fp pl).2.2.1.length - 1)).1 with | none => -1 | some S => nI S.length) := if_pos hz
  refine ⟨gs, _, a, og, bl, lv, wv, e1, ⟨x1, Nat.lt_of_lt_of_le x2 hr1⟩, e7, ?_⟩
  rcases hv with ⟨v1, v2⟩ | ⟨S, wa, v1, v2, v3⟩
  · rw [v1] at hps
    exact Or.inl ⟨v2, hps⟩
  · rw [v1] at hps
    obtain ⟨lt, ln, f, g, ⟨g1, g2, -⟩, -, g3, -⟩ := v3
    refine Or.inr ⟨wa, lt, ln, v2, ⟨g1, Nat.lt_of_lt_of_le g2 hr1⟩, ?_⟩
    rw [hps]
    exact g3
set_option maxRecDepth 20000 in
theorem kStr0 {G : xG} (hg : xGood G) (hxn : xn = 16) (hZ : va_Z "java/util/ArrayList" "DEFAULTCAPACITY_EMPTY_ELEMENTDATA" "[Ljava/lang/Object;" (.ref (xa G 1)) (fun q => (xs G).heap.size ≤ q) (xs G) (xs G).heap) (hT : va_T (.object "java/lang/Object") (xa G 1) 0 (fun _ => .null) (fun q => (xs G).heap.size ≤ q) (xs G) (xs G).heap) (hMi : xHM G) (hNA : xNA G) (hSC : xSC G) {px fp : Nat → Int32} {M : xM} {dl pl vc tk hc op : Nat} {pn : Int32} (h52 : 52 ≤ M.1) (hpl : pl ≤ 24) (hpx : ∀ j, j < pl → px j = fp j) (hPR : ∀ j, j < pl → ∃ u1, u1 < 95 ∧ fp j = nI (u1 + 32)) (c16 : M.2 16 = (.inr (0, [.ref 17, .int (nI dl), .ref 18, .int (nI pl), .null, .ref 19, .int (nI vc), .ref op, .ref 22, .int (nI tk), .ref 23, .int (nI hc), .int pn]))) (c18 : M.2 18 = (.inl (1, 24, .inl px))) : XC G Y1_10 (some .int) 104 643 14142 [.ref 16] M (fun v M' => v = some (.int (pStr fp pl)) ∧ M.1 ≤ M'.1 ∧ (∀ j, j < M.1 → j ≠ 16 → M'.2 j = M.2 j) ∧ M'.2 16 = (.inr (0, [.ref 17, .int (nI dl), .ref 18, .int (nI pl), .ref M.1, .ref 19, .int (nI vc), .ref op, .ref 22, .int (nI tk), .ref 23, .int (nI hc), .int pn])) ∧ RD M' M.1 M.1 M'.1 fp pl) := by
  by_cases hz : (pRead fp pl).2.1 = 0
  · refine xc_of hg (by decide) (Nat.le_of_ble_eq_true rfl) (Or.inl ⟨rfl, rfl, fun v M' h => ⟨_, h.1⟩⟩) ?_
    refine xj_aload_n (i := 0) d1_10_0 rfl rfl ?_
    refine xj_callV (rest := []) (As := []) (b := 16) (kRP0 hg hxn hZ hT hMi hNA hSC h52 hpl hpx hPR c16 c18) d1_10_1 wd1_28 c16 (by omega) (show 16 < M.1 by omega) rfl s1_28 w302 (Or.inl w300) rfl rfl (Nat.le_of_ble_eq_true rfl) (by omega) (by omega) (by omega) ?_
    rintro v M9 ⟨rfl, hm9, hfr9, k16, hRD9⟩
    have hb9 := hRD9.1
    obtain ⟨gs, W9, a9, og, b7, l7, w7, kR, ⟨w1, w2⟩, kW, hw7⟩ := RD_v hRD9 hz
    replace kR : M9.2 M.1 = (.inr (4, [.ref W9, .int 0, .ref 18, .int (nI pl), .int (nI a9), .ref gs, .int (nI og)])) := kR
    rcases hw7 with ⟨rfl, hv7⟩ | ⟨wa, lt7, ln7, rfl, ⟨wa1, wa2⟩, kwa⟩
    · refine xj_astore_n (i := 1) (L' := [(1, .ref M.1), (0, .ref 16)]) d1_10_4 rfl (by decide) rfl ?_
      refine xj_aload_n (i := 1) d1_10_5 rfl rfl ?_
      refine xj_get d1_10_6 f1_93_4 kR (by omega) (show M.1 < M9.1 by omega) rfl ?_
      refine xj_if_eq (tgt := 15) d1_10_9 rfl (fun _ => ?_) (fun h => absurd (by decide) h)
      refine xj_aload_n (i := 1) d1_10_15 rfl rfl ?_
      refine xj_get d1_10_16 f1_98_4 kR (by omega) (show M.1 < M9.1 by omega) rfl ?_
      refine xj_get d1_10_19 f1_107_5 kW (by omega) (show W9 < M9.1 by omega) rfl ?_
      refine xj_astore_nN (i := 2) (L' := [(2, .null), (1, .ref M.1), (0, .ref 16)]) d1_10_22 rfl (by decide) rfl ?_
      refine xj_aload_nN (i := 2) d1_10_23 rfl rfl ?_
      refine xj_ifnonnullN d1_10_24 ?_
      refine xj_iconst (v := (-1)) d1_10_27 (by decide) ?_
      refine xj_goto (tgt := 35) d1_10_28 rfl ?_
      exact xj_ret d1_10_35 (by omega) (by omega) rfl ⟨by rw [hv7], hm9, hfr9, k16, hRD9⟩
    · refine xj_astore_n (i := 1) (L' := [(1, .ref M.1), (0, .ref 16)]) d1_10_4 rfl (by decide) rfl ?_
      refine xj_aload_n (i := 1) d1_10_5 rfl rfl ?_
      refine xj_get d1_10_6 f1_93_4 kR (by omega) (show M.1 < M9.1 by omega) rfl ?_
      refine xj_if_eq (tgt := 15) d1_10_9 rfl (fun _ => ?_) (fun h => absurd (by decide) h)
      refine xj_aload_n (i := 1) d1_10_15 rfl rfl ?_
      refine xj_get d1_10_16 f1_98_4 kR (by omega) (show M.1 < M9.1 by omega) rfl ?_
      refine xj_get d1_10_19 f1_107_5 kW (by omega) (show W9 < M9.1 by omega) rfl ?_
      refine xj_astore_n (i := 2) (L' := [(2, .ref wa), (1, .ref M.1), (0, .ref 16)]) d1_10_22 rfl (by decide) rfl ?_
      refine xj_aload_n (i := 2) d1_10_23 rfl rfl ?_
      refine xj_ifnonnull (tgt := 31) d1_10_24 rfl ?_
      refine xj_aload_n (i := 2) d1_10_31 rfl rfl ?_
      refine xj_get d1_10_32 f1_111_8 kwa (by omega) (show wa < M9.1 by omega) rfl ?_
      exact xj_ret d1_10_35 (by omega) (by omega) rfl ⟨rfl, hm9, hfr9, k16, hRD9⟩
  · obtain ⟨x9, hx9⟩ : ∃ x9, (pRead fp pl).2.1 = x9 := ⟨_, rfl⟩
    have hx : ¬ x9 = 0 := by rw [← hx9]; exact hz
    refine xc_of hg (by decide) (Nat.le_of_ble_eq_true rfl) (Or.inl ⟨rfl, rfl, fun v M' h => ⟨_, h.1⟩⟩) ?_
    refine xj_aload_n (i := 0) d1_10_0 rfl rfl ?_
    refine xj_callV (rest := []) (As := []) (b := 16) (kRP0 hg hxn hZ hT hMi hNA hSC h52 hpl hpx hPR c16 c18) d1_10_1 wd1_28 c16 (by omega) (show 16 < M.1 by omega) rfl s1_28 w302 (Or.inl w300) rfl rfl (Nat.le_of_ble_eq_true rfl) (by omega) (by omega) (by omega) ?_
    rintro v M9 ⟨rfl, hm9, hfr9, k16, hRD9⟩
    have hb9 := hRD9.1
    obtain ⟨gs, W9, a9, og, kR⟩ := RD_f hRD9
    rw [hx9] at kR
    replace kR : M9.2 M.1 = (.inr (4, [.ref W9, .int x9, .ref 18, .int (nI pl), .int (nI a9), .ref gs, .int (nI og)])) := kR
    refine xj_astore_n (i := 1) (L' := [(1, .ref M.1), (0, .ref 16)]) d1_10_4 rfl (by decide) rfl ?_
    refine xj_aload_n (i := 1) d1_10_5 rfl rfl ?_
    refine xj_get d1_10_6 f1_93_4 kR (by omega) (show M.1 < M9.1 by omega) rfl ?_
    refine xj_if_eq (tgt := 15) d1_10_9 rfl (fun h => absurd h hx) (fun _ => ?_)
    refine xj_bipush (v := (-2)) d1_10_12 (by decide) ?_
    exact xj_ret d1_10_14 (by omega) (by omega) rfl ⟨by rw [show pStr fp pl = -2 from if_neg hz], hm9, hfr9, k16, hRD9⟩
set_option maxRecDepth 20000 in
theorem kStr1 {G : xG} (hg : xGood G) (hxn : xn = 16) (hZ : va_Z "java/util/ArrayList" "DEFAULTCAPACITY_EMPTY_ELEMENTDATA" "[Ljava/lang/Object;" (.ref (xa G 1)) (fun q => (xs G).heap.size ≤ q) (xs G) (xs G).heap) (hT : va_T (.object "java/lang/Object") (xa G 1) 0 (fun _ => .null) (fun q => (xs G).heap.size ≤ q) (xs G) (xs G).heap) (hMi : xHM G) (hNA : xNA G) (hSC : xSC G) {px fp : Nat → Int32} {M : xM} {dl pl vc tk hc op : Nat} {pn : Int32} (h52 : 52 ≤ M.1) (hpl : pl ≤ 24) (hpx : ∀ j, j < pl → px j = fp j) (hPR : ∀ j, j < pl → ∃ u1, u1 < 95 ∧ fp j = nI (u1 + 32)) {rd r0 r1 : Nat} (c16 : M.2 16 = (.inr (0, [.ref 17, .int (nI dl), .ref 18, .int (nI pl), .ref rd, .ref 19, .int (nI vc), .ref op, .ref 22, .int (nI tk), .ref 23, .int (nI hc), .int pn]))) (hRD : RD M rd r0 r1 fp pl) : XC G Y1_10 (some .int) 104 0 0 [.ref 16] M (fun v M' => v = some (.int (pStr fp pl)) ∧ M' = M) := by
  by_cases hz : (pRead fp pl).2.1 = 0
  · refine xc_of hg (by decide) (Nat.le_of_ble_eq_true rfl) (Or.inl ⟨rfl, rfl, fun v M' h => ⟨_, h.1⟩⟩) ?_
    refine xj_aload_n (i := 0) d1_10_0 rfl rfl ?_
    refine xj_callV (rest := []) (As := []) (b := 16) (kRP1 hg hxn h52 c16) d1_10_1 wd1_28 c16 (by omega) (show 16 < M.1 by omega) rfl s1_28 w302 (Or.inl w300) rfl rfl (Nat.le_of_ble_eq_true rfl) (by omega) (by omega) (by omega) ?_
    rintro v M' ⟨rfl, hm⟩
    subst M'
    have hb9 := hRD.1
    obtain ⟨gs, W9, a9, og, b7, l7, w7, kR, ⟨w1, w2⟩, kW, hw7⟩ := RD_v hRD hz
    replace kR : M.2 rd = (.inr (4, [.ref W9, .int 0, .ref 18, .int (nI pl), .int (nI a9), .ref gs, .int (nI og)])) := kR
    rcases hw7 with ⟨rfl, hv7⟩ | ⟨wa, lt7, ln7, rfl, ⟨wa1, wa2⟩, kwa⟩
    · refine xj_astore_n (i := 1) (L' := [(1, .ref rd), (0, .ref 16)]) d1_10_4 rfl (by decide) rfl ?_
      refine xj_aload_n (i := 1) d1_10_5 rfl rfl ?_
      refine xj_get d1_10_6 f1_93_4 kR (by omega) (show rd < M.1 by omega) rfl ?_
      refine xj_if_eq (tgt := 15) d1_10_9 rfl (fun _ => ?_) (fun h => absurd (by decide) h)
      refine xj_aload_n (i := 1) d1_10_15 rfl rfl ?_
      refine xj_get d1_10_16 f1_98_4 kR (by omega) (show rd < M.1 by omega) rfl ?_
      refine xj_get d1_10_19 f1_107_5 kW (by omega) (show W9 < M.1 by omega) rfl ?_
      refine xj_astore_nN (i := 2) (L' := [(2, .null), (1, .ref rd), (0, .ref 16)]) d1_10_22 rfl (by decide) rfl ?_
      refine xj_aload_nN (i := 2) d1_10_23 rfl rfl ?_
      refine xj_ifnonnullN d1_10_24 ?_
      refine xj_iconst (v := (-1)) d1_10_27 (by decide) ?_
      refine xj_goto (tgt := 35) d1_10_28 rfl ?_
      exact xj_ret d1_10_35 (by omega) (by omega) rfl ⟨by rw [hv7], rfl⟩
    · refine xj_astore_n (i := 1) (L' := [(1, .ref rd), (0, .ref 16)]) d1_10_4 rfl (by decide) rfl ?_
      refine xj_aload_n (i := 1) d1_10_5 rfl rfl ?_
      refine xj_get d1_10_6 f1_93_4 kR (by omega) (show rd < M.1 by omega) rfl ?_
      refine xj_if_eq (tgt := 15) d1_10_9 rfl (fun _ => ?_) (fun h => absurd (by decide) h)
      refine xj_aload_n (i := 1) d1_10_15 rfl rfl ?_
      refine xj_get d1_10_16 f1_98_4 kR (by omega) (show rd < M.1 by omega) rfl ?_
      refine xj_get d1_10_19 f1_107_5 kW (by omega) (show W9 < M.1 by omega) rfl ?_
      refine xj_astore_n (i := 2) (L' := [(2, .ref wa), (1, .ref rd), (0, .ref 16)]) d1_10_22 rfl (by decide) rfl ?_
      refine xj_aload_n (i := 2) d1_10_23 rfl rfl ?_
      refine xj_ifnonnull (tgt := 31) d1_10_24 rfl ?_
      refine xj_aload_n (i := 2) d1_10_31 rfl rfl ?_
      refine xj_get d1_10_32 f1_111_8 kwa (by omega) (show wa < M.1 by omega) rfl ?_
      exact xj_ret d1_10_35 (by omega) (by omega) rfl ⟨rfl, rfl⟩
  · obtain ⟨x9, hx9⟩ : ∃ x9, (pRead fp pl).2.1 = x9 := ⟨_, rfl⟩
    have hx : ¬ x9 = 0 := by rw [← hx9]; exact hz
    refine xc_of hg (by decide) (Nat.le_of_ble_eq_true rfl) (Or.inl ⟨rfl, rfl, fun v M' h => ⟨_, h.1⟩⟩) ?_
    refine xj_aload_n (i := 0) d1_10_0 rfl rfl ?_
    refine xj_callV (rest := []) (As := []) (b := 16) (kRP1 hg hxn h52 c16) d1_10_1 wd1_28 c16 (by omega) (show 16 < M.1 by omega) rfl s1_28 w302 (Or.inl w300) rfl rfl (Nat.le_of_ble_eq_true rfl) (by omega) (by omega) (by omega) ?_
    rintro v M' ⟨rfl, hm⟩
    subst M'
    have hb9 := hRD.1
    obtain ⟨gs, W9, a9, og, kR⟩ := RD_f hRD
    rw [hx9] at kR
    replace kR : M.2 rd = (.inr (4, [.ref W9, .int x9, .ref 18, .int (nI pl), .int (nI a9), .ref gs, .int (nI og)])) := kR
    refine xj_astore_n (i := 1) (L' := [(1, .ref rd), (0, .ref 16)]) d1_10_4 rfl (by decide) rfl ?_
    refine xj_aload_n (i := 1) d1_10_5 rfl rfl ?_
    refine xj_get d1_10_6 f1_93_4 kR (by omega) (show rd < M.1 by omega) rfl ?_
    refine xj_if_eq (tgt := 15) d1_10_9 rfl (fun h => absurd h hx) (fun _ => ?_)
    refine xj_bipush (v := (-2)) d1_10_12 (by decide) ?_
    exact xj_ret d1_10_14 (by omega) (by omega) rfl ⟨by rw [show pStr fp pl = -2 from if_neg hz], rfl⟩
theorem oStr {G : xG} (hg : xGood G) (hxn : xn = 16) (hZ : va_Z "java/util/ArrayList" "DEFAULTCAPACITY_EMPTY_ELEMENTDATA" "[Ljava/lang/Object;" (.ref (xa G 1)) (fun q => (xs G).heap.size ≤ q) (xs G) (xs G).heap) (hT : va_T (.object "java/lang/Object") (xa G 1) 0 (fun _ => .null) (fun q => (xs G).heap.size ≤ q) (xs G) (xs G).heap) (hMi : xHM G) (hNA : xNA G) (hSC : xSC G) {c : Nat} {M : xM} (hI : xInv RD c M) : xOp G RD c M Y1_10 Y14_55 (some .int) [] := by
  obtain ⟨f, li, tx, te, cu, le, fd, fp, fh, fx, px, hx, sn, vc, tk, dl, pl, hc, sr, pn, lr, va, S, T, ov, es, op, ol, oe, r0, r1, hM, hC, hG, hR⟩ := hI
  have h52 := hC.2.2.2.2.1.1
  obtain ⟨c16, c17, c18, c23, cS⟩ := id hC
  have hpl := hG.2.1.1
  have hpx : ∀ j, j < pl → px j = fp j := fun j hj => (hG.2.1.2 j hj).1
  have hPR : ∀ j, j < pl → ∃ u1, u1 < 95 ∧ fp j = nI (u1 + 32) := fun j hj => xprt (hG.2.1.2 j hj).2
  have hend : ∀ (M' : xM) (rd' q0 q1 : Nat), xIm M' f li tx te cu le fd fp fh sn vc tk dl pl hc sr pn → xIc M' f li tx te cu le fx px hx sn vc tk dl pl hc pn (.ref rd') va S T ov es op ol oe q0 q1 → 52 ≤ q0 → RD M' rd' q0 q1 fp pl → (52 ≤ M'.1 ∧ ∃ fs, M'.2 24 = .inr (12, fs)) ∧ XC G Y14_55 (some .int) 1000 0 0 [.ref 24] M' (fun v M'' => v = some (.int (pStr fp pl)) ∧ xInv RD (c + 1) M'') := by
    intro M' rd' q0 q1 hM' hC' h5' hR'
    have h52' := hC'.2.2.2.2.1.1
    obtain ⟨⟨z13, z22, z23, z24, z33, z36, z37, m24⟩, -⟩ := id hM'
    refine ⟨⟨h52', _, m24⟩, xc_wk (rStr hg hxn hM' h52' hpl hPR (fun hz => RD_ok hR' hz)) (by omega) (Nat.le_refl _) (Nat.le_refl _) ?_⟩
    rintro v M'' ⟨rfl, hM2, i1, i2⟩
    have hC2 := xIc_fr hxn hC' i1 i2
    refine ⟨rfl, f, li, tx, te, cu, le, fd, fp, fh, fx, px, hx, sn, vc, tk, dl, pl, hc, sr, pn, .ref rd', va, S, T, ov, es, op, ol, oe, q0, q1, hM2, hC2, xIg_c hG, xRr_fr RD_s (Or.inr ⟨rd', rfl, h5', hR'⟩) (by omega) (fun j a b d => i2 j ?_ (by omega))⟩
    have hq1 := hC'.2.2.2.2.1.2.1
    omega
  rcases id hR with ⟨rfl, rfl, rfl⟩ | ⟨rd, rfl, h5, hRD⟩
  · refine ⟨pStr fp pl, fun M' => M.1 ≤ M'.1 ∧ (∀ j, j < M.1 → j ≠ 16 → M'.2 j = M.2 j) ∧ M'.2 16 = (.inr (0, [.ref 17, .int (nI dl), .ref 18, .int (nI pl), .ref M.1, .ref 19, .int (nI vc), .ref op, .ref 22, .int (nI tk), .ref 23, .int (nI hc), .int pn])) ∧ RD M' M.1 M.1 M'.1 fp pl, xc_wk (kStr0 hg hxn hZ hT hMi hNA hSC h52 hpl hpx hPR c16 c18) (by decide) (by decide) (by decide) (fun v M' h => h), fun M' hq => ?_⟩
    obtain ⟨e1, e2, e3, e4⟩ := hq
    exact hend M' M.1 M.1 M'.1 (xIm_fr hM (fun j a b => e2 j (by omega) (by omega))) ⟨e3, (e2 17 (by omega) (by decide)).trans c17, (e2 18 (by omega) (by decide)).trans c18, (e2 23 (by omega) (by decide)).trans c23, xSt_rd hxn cS e1 e2⟩ h52 e4
  · refine ⟨pStr fp pl, fun M' => M' = M, xc_wk (kStr1 hg hxn hZ hT hMi hNA hSC h52 hpl hpx hPR c16 hRD) (by decide) (by decide) (by decide) (fun v M' h => h), fun M' hq => ?_⟩
    subst hq
    exact hend M' rd r0 r1 hM hC h5 hRD

theorem rClose0 {G : xG} (hg : xGood G) (hxn : xn = 16) {dl pl vc tk hc sn : Nat} {y33 y36 y37 y38 y39 : Int32} {fp : Nat → Int32} {M0 M : xM} (h52 : 52 ≤ M0.1) {a : Nat} {A : List xNode} {t : List Nat × List Nat} (hR0 : mR dl pl vc tk hc sn y33 y36 y37 y38 y39 fp M0 M (a, 0, A, t :: [])) : XC G Y14_37 none 2 0 0 [.ref 24] M (fun v M' => v = none ∧ mX dl pl vc tk hc sn y33 y36 y37 y38 y39 fp M0 M' (pClose (a, 0, A, t :: []))) := by
  obtain ⟨⟨i1, i2⟩, k32, np, kd, ch, nx, be, lo, hi, wt, cs, fP, lP, fB, lB, hnp, k24, k33, k34, k35, k36, k37, k38, k39, k40, k41, k42, k43, k44, hA, hW⟩ := id hR0
  subst hnp
  replace k24 : M.2 24 = (.inr (12, [.ref 25, .ref 26, .ref 27, .ref 28, .ref 29, .ref 30, .int (nI sn), .int (nI vc), .int (nI tk), .ref 31, .int (nI dl), .ref 32, .int (nI pl), .int (nI A.length), .ref 33, .ref 34, .ref 35, .ref 36, .ref 37, .ref 38, .ref 39, .ref 40, .int (nI a), .int (nI 0), .int 0, .ref 41, .ref 42, .ref 43, .ref 44, .ref 45, .ref 46, .ref 47, .ref 48, .int y33, .ref 49, .ref 50, .int y36, .int y37, .int y38, .int y39, .int (nI hc), .ref 51])) := k24
  refine xc_of hg (by decide) (Nat.le_of_ble_eq_true rfl) (Or.inr (Or.inr (Or.inr (Or.inr (Or.inl ⟨rfl, rfl, fun v M' h => h.1⟩))))) ?_
  refine xj_aload_n (i := 0) d14_37_0 rfl rfl ?_
  refine xj_get d14_37_1 f14_139_12 k24 (by omega) (show 24 < M.1 by omega) rfl ?_
  refine xj_if_ne (tgt := 13) d14_37_4 rfl (fun h => absurd (congrArg nI (show 0 = 0 by omega)) h) (fun _ => ?_)
  refine xj_aload_n (i := 0) d14_37_7 rfl rfl ?_
  refine xj_iconst (v := 2) d14_37_8 (by decide) ?_
  refine xj_put (a := 24) (fs' := [.ref 25, .ref 26, .ref 27, .ref 28, .ref 29, .ref 30, .int (nI sn), .int (nI vc), .int (nI tk), .ref 31, .int (nI dl), .ref 32, .int (nI pl), .int (nI A.length), .ref 33, .ref 34, .ref 35, .ref 36, .ref 37, .ref 38, .ref 39, .ref 40, .int (nI a), .int (nI 0), .int 2, .ref 41, .ref 42, .ref 43, .ref 44, .ref 45, .ref 46, .ref 47, .ref 48, .int y33, .ref 49, .ref 50, .int y36, .int y37, .int y38, .int y39, .int (nI hc), .ref 51]) d14_37_9 f14_156_12 k24 (by omega) (show 24 < M.1 by omega) (Nat.le_of_ble_eq_true rfl) rfl rfl rfl ?_
  refine xj_abs_set (fun M1 hs1 ha1 ho1 => ?_)
  have hq : pClose (a, 0, A, t :: []) = pFau (a, 0, A, t :: []) 2 := if_pos (Nat.le_refl 1)
  refine xj_ret d14_37_12 (by omega) (by omega) rfl ⟨rfl, ?_⟩
  rw [hq]
  exact ⟨fun q => absurd q (show ¬ (2 : Int32) = 0 by decide), fun _ => mR_fa hR0 (show M1.1 = M.1 by omega) (fun j hj => (ho1 j (by omega))) ha1⟩
theorem rCloseB {G : xG} (hg : xGood G) (hxn : xn = 16) {dl pl vc tk hc sn : Nat} {y33 y36 y37 y38 y39 : Int32} {fp : Nat → Int32} {M0 M : xM} (h52 : 52 ≤ M0.1) {a : Nat} {A : List xNode} {t1 : List Nat} {t2 : List Nat × List Nat} {r2 : List (List Nat × List Nat)} (hR0 : mR dl pl vc tk hc sn y33 y36 y37 y38 y39 fp M0 M (a, 0, A, (t1, []) :: t2 :: r2)) : XC G Y14_37 none 2 0 0 [.ref 24] M (fun v M' => v = none ∧ mX dl pl vc tk hc sn y33 y36 y37 y38 y39 fp M0 M' (pClose (a, 0, A, (t1, []) :: t2 :: r2))) := by
  obtain ⟨⟨i1, i2⟩, k32, np, kd, ch, nx, be, lo, hi, wt, cs, fP, lP, fB, lB, hnp, k24, k33, k34, k35, k36, k37, k38, k39, k40, k41, k42, k43, k44, hA, hW⟩ := id hR0
  subst hnp
  replace k24 : M.2 24 = (.inr (12, [.ref 25, .ref 26, .ref 27, .ref 28, .ref 29, .ref 30, .int (nI sn), .int (nI vc), .int (nI tk), .ref 31, .int (nI dl), .ref 32, .int (nI pl), .int (nI A.length), .ref 33, .ref 34, .ref 35, .ref 36, .ref 37, .ref 38, .ref 39, .ref 40, .int (nI a), .int (nI (r2.length + 1)), .int 0, .ref 41, .ref 42, .ref 43, .ref 44, .ref 45, .ref 46, .ref 47, .ref 48, .int y33, .ref 49, .ref 50, .int y36, .int y37, .int y38, .int y39, .int (nI hc), .ref 51])) := k24
  obtain ⟨g1, g2, g3⟩ := pW_tag hW
  have g3b : r2.length + 1 ≤ 6 := g3
  have hb4 : fP (r2.length + 1) < 0 := by
    have z := (mA_bare hA rfl).1
    have z2 : fP (r2.length + 1) = -1 := z
    rw [z2]
    decide
  refine xc_of hg (by decide) (Nat.le_of_ble_eq_true rfl) (Or.inr (Or.inr (Or.inr (Or.inr (Or.inl ⟨rfl, rfl, fun v M' h => h.1⟩))))) ?_
  refine xj_aload_n (i := 0) d14_37_0 rfl rfl ?_
  refine xj_get d14_37_1 f14_139_12 k24 (by omega) (show 24 < M.1 by omega) rfl ?_
  refine xj_if_ne (tgt := 13) d14_37_4 rfl (fun _ => ?_) (fun h => absurd h (fun h => absurd ((nI_eq (a := r2.length + 1) (b := 0) (by omega) (by omega)).mp h) (by omega)))
  refine xj_aload_n (i := 0) d14_37_13 rfl rfl ?_
  refine xj_callV (rest := []) (As := []) (b := 24) (mBare hg (M := M) (n := M.1) (dl := dl) (pl := pl) (vc := vc) (tk := tk) (hc := hc) (sn := sn) (y24 := 0) (y33 := y33) (y36 := y36) (y37 := y37) (y38 := y38) (y39 := y39) (np := A.length) (a := a) (dp := r2.length + 1) (fP := fP) rfl (by omega) (by omega) (by omega) k24 (by omega) (by omega) k41 (by omega)) d14_37_14 wd14_21 k24 (by omega) (show 24 < M.1 by omega) rfl s14_21 w1224 (Or.inl w1222) rfl rfl (Nat.le_of_ble_eq_true rfl) (by omega) (by omega) (by omega) ?_
  rintro v M' ⟨rfl, hm⟩
  subst M'
  refine xj_if_eq (tgt := 26) d14_37_17 rfl (fun h => absurd h (by rw [xB_t hb4]; decide)) (fun _ => ?_)
  refine xj_aload_n (i := 0) d14_37_20 rfl rfl ?_
  refine xj_iconst (v := 1) d14_37_21 (by decide) ?_
  refine xj_put (a := 24) (fs' := [.ref 25, .ref 26, .ref 27, .ref 28, .ref 29, .ref 30, .int (nI sn), .int (nI vc), .int (nI tk), .ref 31, .int (nI dl), .ref 32, .int (nI pl), .int (nI A.length), .ref 33, .ref 34, .ref 35, .ref 36, .ref 37, .ref 38, .ref 39, .ref 40, .int (nI a), .int (nI (r2.length + 1)), .int 1, .ref 41, .ref 42, .ref 43, .ref 44, .ref 45, .ref 46, .ref 47, .ref 48, .int y33, .ref 49, .ref 50, .int y36, .int y37, .int y38, .int y39, .int (nI hc), .ref 51]) d14_37_22 f14_156_12 k24 (by omega) (show 24 < M.1 by omega) (Nat.le_of_ble_eq_true rfl) rfl rfl rfl ?_
  refine xj_abs_set (fun M1 hs1 ha1 ho1 => ?_)
  have hq : pClose (a, 0, A, (t1, []) :: t2 :: r2) = pFau (a, 0, A, (t1, []) :: t2 :: r2) 1 := (if_neg (by show ¬ r2.length + 1 + 1 ≤ 1; omega)).trans (if_pos rfl)
  refine xj_ret d14_37_25 (by omega) (by omega) rfl ⟨rfl, ?_⟩
  rw [hq]
  exact ⟨fun q => absurd q (show ¬ (1 : Int32) = 0 by decide), fun _ => mR_fa hR0 (show M1.1 = M.1 by omega) (fun j hj => (ho1 j (by omega))) ha1⟩
theorem rCloseX {G : xG} (hg : xGood G) (hxn : xn = 16) {dl pl vc tk hc sn : Nat} {y33 y36 y37 y38 y39 : Int32} {fp : Nat → Int32} {M0 M : xM} (h52 : 52 ≤ M0.1) (hpl : pl ≤ 24) (hPR : ∀ j, j < pl → ∃ u1, u1 < 95 ∧ fp j = nI (u1 + 32)) {a : Nat} {A : List xNode} {t : List Nat × List Nat} {r : List (List Nat × List Nat)} (hR0 : mR dl pl vc tk hc sn y33 y36 y37 y38 y39 fp M0 M (a, 0, A, t :: r)) (ha : A.length + r.length + 1 ≤ a) : XC G Y14_37 none 2 0 0 [.ref 24] M (fun v M' => v = none ∧ mX dl pl vc tk hc sn y33 y36 y37 y38 y39 fp M0 M' (pClose (a, 0, A, t :: r))) := by
  cases r with
  | nil => exact rClose0 hg hxn h52 hR0
  | cons t2 r2 =>
    by_cases h0 : t.2 = []
    · obtain ⟨t1, t3⟩ := t
      have h0' : t3 = [] := h0
      subst h0'
      exact rCloseB hg hxn h52 hR0
    · have ha2 : A.length + r2.length + 2 ≤ a := by
        have z : A.length + (r2.length + 1) + 1 ≤ a := ha
        omega
      by_cases h2 : t2.2 = []
      · exact xc_wk (rCloseE hg hxn h52 hR0 ha2 h0 h2) (Nat.le_refl _) (Nat.le_refl _) (Nat.le_refl _) (fun v M' h => ⟨h.1, fun _ => h.2, fun q => absurd (by rw [pClose_eq h0]) q⟩)
      · exact xc_wk (rCloseN hg hxn h52 hR0 ha2 h0 h2) (Nat.le_refl _) (Nat.le_refl _) (Nat.le_refl _) (fun v M' h => ⟨h.1, fun _ => h.2, fun q => absurd (by rw [pClose_eq h0]) q⟩)
theorem rRepeatX {G : xG} (hg : xGood G) (hxn : xn = 16) {dl pl vc tk hc sn : Nat} {y33 y36 y37 y38 y39 : Int32} {fp : Nat → Int32} {M0 M : xM} (h52 : 52 ≤ M0.1) (hpl : pl ≤ 24) (hPR : ∀ j, j < pl → ∃ u1, u1 < 95 ∧ fp j = nI (u1 + 32)) {a : Nat} {A : List xNode} {t : List Nat × List Nat} {r : List (List Nat × List Nat)} (hR0 : mR dl pl vc tk hc sn y33 y36 y37 y38 y39 fp M0 M (a, 0, A, t :: r)) (ha : A.length + r.length + 1 ≤ a) (hkn : ∀ i, i < A.length → (pNd A i).1 ≤ 6) {c : Int32} : XC G Y14_29 none 3 0 0 [.ref 24, .int c] M (fun v M' => v = none ∧ mX dl pl vc tk hc sn y33 y36 y37 y38 y39 fp M0 M' (pRepeat fp pl c (a, 0, A, t :: r))) := by
  obtain ⟨t1, t3⟩ := t
  rcases xsnoc t3 with z | ⟨l, e, z⟩
  · subst z
    exact rRepeat0 hg hxn h52 hpl hR0
  · subst z
    exact rRepeat hg hxn h52 hpl hR0 ha hkn
theorem rSimpleX {G : xG} (hg : xGood G) (hxn : xn = 16) {dl pl vc tk hc sn : Nat} {y33 y36 y37 y38 y39 : Int32} {fp : Nat → Int32} {M0 M : xM} (h52 : 52 ≤ M0.1) (hpl : pl ≤ 24) (hPR : ∀ j, j < pl → ∃ u1, u1 < 95 ∧ fp j = nI (u1 + 32)) {a : Nat} {A : List xNode} {t : List Nat × List Nat} {r : List (List Nat × List Nat)} (hR0 : mR dl pl vc tk hc sn y33 y36 y37 y38 y39 fp M0 M (a, 0, A, t :: r)) (ha : A.length + r.length + 1 ≤ a) (hap : a ≤ pl) {c : Int32} {uc : Nat} (huc1 : uc < 95) (huc : c = nI (uc + 32)) : XC G Y14_39 none 6 0 0 [.ref 24, .int c] M (fun v M' => v = none ∧ mX dl pl vc tk hc sn y33 y36 y37 y38 y39 fp M0 M' (pSimple fp pl c (a, 0, A, t :: r))) := by
  by_cases h0 : t.2 = []
  · exact rSimpleE hg hxn h52 hpl hPR hR0 ha hap huc1 huc h0
  · exact rSimpleN hg hxn h52 hpl hPR hR0 ha hap huc1 huc h0
set_option maxRecDepth 20000 in
set_option maxHeartbeats 1000000 in
theorem rOneC {G : xG} (hg : xGood G) (hxn : xn = 16) {dl pl vc tk hc sn : Nat} {y33 y36 y37 y38 y39 : Int32} {fp : Nat → Int32} {M0 M : xM} (h52 : 52 ≤ M0.1) (hpl : pl ≤ 24) (hPR : ∀ j, j < pl → ∃ u1, u1 < 95 ∧ fp j = nI (u1 + 32)) {a : Nat} {A : List xNode} {t : List Nat × List Nat} {r : List (List Nat × List Nat)} (hR0 : mR dl pl vc tk hc sn y33 y36 y37 y38 y39 fp M0 M (a, 0, A, t :: r)) (ha : A.length + r.length + 1 ≤ a) (hap : a ≤ pl) (hkn : ∀ i, i < A.length → (pNd A i).1 ≤ 6) {c : Int32} {uc : Nat} (huc1 : uc < 95) (huc : c = nI (uc + 32)) {d ce se cells slots : Nat} {Post : Option Value → xM → Prop} (hd : 8 ≤ d) (hcc : cells ≤ ce) (hss : slots ≤ se) (K : ∀ M' : xM, mX dl pl vc tk hc sn y33 y36 y37 y38 y39 fp M0 M' (pOneC fp pl c (a, 0, A, t :: r)) → Post none M') : XJ G Y14_38 d ce se cells slots 16 [(1, .int c), (0, .ref 24)] [] M Post := by
  obtain ⟨⟨i1, i2⟩, k32, np, kd, ch, nx, be, lo, hi, wt, cs, fP, lP, fB, lB, hnp, k24, k33, k34, k35, k36, k37, k38, k39, k40, k41, k42, k43, k44, hA, hW⟩ := id hR0
  subst hnp
  replace k24 : M.2 24 = (.inr (12, [.ref 25, .ref 26, .ref 27, .ref 28, .ref 29, .ref 30, .int (nI sn), .int (nI vc), .int (nI tk), .ref 31, .int (nI dl), .ref 32, .int (nI pl), .int (nI A.length), .ref 33, .ref 34, .ref 35, .ref 36, .ref 37, .ref 38, .ref 39, .ref 40, .int (nI a), .int (nI r.length), .int 0, .ref 41, .ref 42, .ref 43, .ref 44, .ref 45, .ref 46, .ref 47, .ref 48, .int y33, .ref 49, .ref 50, .int y36, .int y37, .int y38, .int y39, .int (nI hc), .ref 51])) := k24
  obtain ⟨g1, g2, g3⟩ := pW_tag hW
  obtain ⟨n, hn⟩ : ∃ n, M.1 = n := ⟨_, rfl⟩
  have hn2 : 52 ≤ n := by omega
  refine xj_iload_n (i := 1) d14_38_16 rfl rfl ?_
  refine xj_bipush (v := 40) d14_38_17 (by decide) ?_
  refine xj_icmp_ne (tgt := 57) d14_38_19 rfl (fun o1 => ?_) (fun o1 => ?_)
  · refine xj_iload_n (i := 1) d14_38_57 rfl rfl ?_
    refine xj_bipush (v := 41) d14_38_58 (by decide) ?_
    refine xj_icmp_ne (tgt := 70) d14_38_60 rfl (fun o3 => ?_) (fun o3 => ?_)
    · refine xj_iload_n (i := 1) d14_38_70 rfl rfl ?_
      refine xj_bipush (v := 124) d14_38_71 (by decide) ?_
      refine xj_icmp_ne (tgt := 98) d14_38_73 rfl (fun o4 => ?_) (fun o4 => ?_)
      · refine xj_iload_n (i := 1) d14_38_98 rfl rfl ?_
        refine xj_bipush (v := 42) d14_38_99 (by decide) ?_
        refine xj_icmp_eq (tgt := 122) d14_38_101 rfl (fun o6 => ?_) (fun o6 => ?_)
        · refine xj_aload_n (i := 0) d14_38_122 rfl rfl ?_
          refine xj_iload_n (i := 1) d14_38_123 rfl rfl ?_
          refine xj_callV (rest := []) (As := [.int c]) (b := 24) (rRepeatX hg hxn h52 hpl hPR hR0 ha hkn) d14_38_124 wd14_29 k24 (by omega) (show 24 < M.1 by omega) rfl s14_29 w1244 (Or.inl w1242) rfl rfl (Nat.le_of_ble_eq_true rfl) (by omega) (by omega) (by omega) ?_
          rintro v M8 ⟨rfl, hX8⟩
          refine xj_goto (tgt := 135) d14_38_127 rfl ?_
          have hq : pOneC fp pl c (a, 0, A, t :: r) = pRepeat fp pl c (a, 0, A, t :: r) := (if_neg o1).trans ((if_neg o3).trans ((if_neg o4).trans (if_pos (Or.inl o6))))
          refine xj_ret d14_38_135 (by omega) (by omega) rfl (K _ ?_)
          rw [hq]
          exact hX8
        · refine xj_iload_n (i := 1) d14_38_104 rfl rfl ?_
          refine xj_bipush (v := 43) d14_38_105 (by decide) ?_
          refine xj_icmp_eq (tgt := 122) d14_38_107 rfl (fun o7 => ?_) (fun o7 => ?_)
          · refine xj_aload_n (i := 0) d14_38_122 rfl rfl ?_
            refine xj_iload_n (i := 1) d14_38_123 rfl rfl ?_
            refine xj_callV (rest := []) (As := [.int c]) (b := 24) (rRepeatX hg hxn h52 hpl hPR hR0 ha hkn) d14_38_124 wd14_29 k24 (by omega) (show 24 < M.1 by omega) rfl s14_29 w1244 (Or.inl w1242) rfl rfl (Nat.le_of_ble_eq_true rfl) (by omega) (by omega) (by omega) ?_
            rintro v M8 ⟨rfl, hX8⟩
            refine xj_goto (tgt := 135) d14_38_127 rfl ?_
            have hq : pOneC fp pl c (a, 0, A, t :: r) = pRepeat fp pl c (a, 0, A, t :: r) := (if_neg o1).trans ((if_neg o3).trans ((if_neg o4).trans (if_pos (Or.inr (Or.inl o7)))))
            refine xj_ret d14_38_135 (by omega) (by omega) rfl (K _ ?_)
            rw [hq]
            exact hX8
          · refine xj_iload_n (i := 1) d14_38_110 rfl rfl ?_
            refine xj_bipush (v := 63) d14_38_111 (by decide) ?_
            refine xj_icmp_eq (tgt := 122) d14_38_113 rfl (fun o8 => ?_) (fun o8 => ?_)
            · refine xj_aload_n (i := 0) d14_38_122 rfl rfl ?_
              refine xj_iload_n (i := 1) d14_38_123 rfl rfl ?_
              refine xj_callV (rest := []) (As := [.int c]) (b := 24) (rRepeatX hg hxn h52 hpl hPR hR0 ha hkn) d14_38_124 wd14_29 k24 (by omega) (show 24 < M.1 by omega) rfl s14_29 w1244 (Or.inl w1242) rfl rfl (Nat.le_of_ble_eq_true rfl) (by omega) (by omega) (by omega) ?_
              rintro v M8 ⟨rfl, hX8⟩
              refine xj_goto (tgt := 135) d14_38_127 rfl ?_
              have hq : pOneC fp pl c (a, 0, A, t :: r) = pRepeat fp pl c (a, 0, A, t :: r) := (if_neg o1).trans ((if_neg o3).trans ((if_neg o4).trans (if_pos (Or.inr (Or.inr (Or.inl o8))))))
              refine xj_ret d14_38_135 (by omega) (by omega) rfl (K _ ?_)
              rw [hq]
              exact hX8
            · refine xj_iload_n (i := 1) d14_38_116 rfl rfl ?_
              refine xj_bipush (v := 123) d14_38_117 (by decide) ?_
              refine xj_icmp_ne (tgt := 130) d14_38_119 rfl (fun o9 => ?_) (fun o9 => ?_)
              · refine xj_aload_n (i := 0) d14_38_130 rfl rfl ?_
                refine xj_iload_n (i := 1) d14_38_131 rfl rfl ?_
                refine xj_callV (rest := []) (As := [.int c]) (b := 24) (rSimpleX hg hxn h52 hpl hPR hR0 ha hap huc1 huc) d14_38_132 wd14_39 k24 (by omega) (show 24 < M.1 by omega) rfl s14_39 w1259 (Or.inl w1257) rfl rfl (Nat.le_of_ble_eq_true rfl) (by omega) (by omega) (by omega) ?_
                rintro v M8 ⟨rfl, hX8⟩
                have hq : pOneC fp pl c (a, 0, A, t :: r) = pSimple fp pl c (a, 0, A, t :: r) := (if_neg o1).trans ((if_neg o3).trans ((if_neg o4).trans (if_neg (fun q => q.elim o6 (fun q => q.elim o7 (fun q => q.elim o8 o9))))))
                refine xj_ret d14_38_135 (by omega) (by omega) rfl (K _ ?_)
                rw [hq]
                exact hX8
              · refine xj_aload_n (i := 0) d14_38_122 rfl rfl ?_
                refine xj_iload_n (i := 1) d14_38_123 rfl rfl ?_
                refine xj_callV (rest := []) (As := [.int c]) (b := 24) (rRepeatX hg hxn h52 hpl hPR hR0 ha hkn) d14_38_124 wd14_29 k24 (by omega) (show 24 < M.1 by omega) rfl s14_29 w1244 (Or.inl w1242) rfl rfl (Nat.le_of_ble_eq_true rfl) (by omega) (by omega) (by omega) ?_
                rintro v M8 ⟨rfl, hX8⟩
                refine xj_goto (tgt := 135) d14_38_127 rfl ?_
                have hq : pOneC fp pl c (a, 0, A, t :: r) = pRepeat fp pl c (a, 0, A, t :: r) := (if_neg o1).trans ((if_neg o3).trans ((if_neg o4).trans (if_pos (Or.inr (Or.inr (Or.inr o9))))))
                refine xj_ret d14_38_135 (by omega) (by omega) rfl (K _ ?_)
                rw [hq]
                exact hX8
      · refine xj_aload_n (i := 0) d14_38_76 rfl rfl ?_
        refine xj_callV (rest := []) (As := []) (b := 24) (mBare hg (M := M) (n := n) (dl := dl) (pl := pl) (vc := vc) (tk := tk) (hc := hc) (sn := sn) (y24 := 0) (y33 := y33) (y36 := y36) (y37 := y37) (y38 := y38) (y39 := y39) (np := A.length) (a := a) (dp := r.length) (fP := fP) (show M.1 = n by omega) (by omega) (by omega) (by omega) k24 (by omega) (by omega) k41 (by omega)) d14_38_77 wd14_21 k24 (by omega) (show 24 < M.1 by omega) rfl s14_21 w1224 (Or.inl w1222) rfl rfl (Nat.le_of_ble_eq_true rfl) (by omega) (by omega) (by omega) ?_
        rintro v M' ⟨rfl, hm⟩
        subst M'
        refine xj_if_eq (tgt := 91) d14_38_80 rfl (fun o5 => ?_) (fun o5 => ?_)
        · refine xj_aload_n (i := 0) d14_38_91 rfl rfl ?_
          refine xj_callV (rest := []) (As := []) (b := 24) (rEndB hg hxn h52 hR0 ha) d14_38_92 wd14_24 k24 (by omega) (show 24 < M.1 by omega) rfl s14_24 w1228 (Or.inl w1226) rfl rfl (Nat.le_of_ble_eq_true rfl) (by omega) (by omega) (by omega) ?_
          rintro v M8 ⟨rfl, hX8⟩
          refine xj_goto (tgt := 135) d14_38_95 rfl ?_
          have hbare : ¬ t.2 = [] := fun q => xB_n o5 (by rw [(mA_bare hA q).1]; decide)
          have hq : pOneC fp pl c (a, 0, A, t :: r) = pEndB (a, 0, A, t :: r) := (if_neg o1).trans ((if_neg o3).trans ((if_pos o4).trans (if_neg hbare)))
          refine xj_ret d14_38_135 (by omega) (by omega) rfl (K _ ?_)
          rw [hq]
          exact ⟨fun _ => hX8, fun q => absurd rfl q⟩
        · refine xj_aload_n (i := 0) d14_38_83 rfl rfl ?_
          refine xj_iconst (v := 1) d14_38_84 (by decide) ?_
          refine xj_put (a := 24) (fs' := [.ref 25, .ref 26, .ref 27, .ref 28, .ref 29, .ref 30, .int (nI sn), .int (nI vc), .int (nI tk), .ref 31, .int (nI dl), .ref 32, .int (nI pl), .int (nI A.length), .ref 33, .ref 34, .ref 35, .ref 36, .ref 37, .ref 38, .ref 39, .ref 40, .int (nI a), .int (nI r.length), .int 1, .ref 41, .ref 42, .ref 43, .ref 44, .ref 45, .ref 46, .ref 47, .ref 48, .int y33, .ref 49, .ref 50, .int y36, .int y37, .int y38, .int y39, .int (nI hc), .ref 51]) d14_38_85 f14_156_12 k24 (by omega) (show 24 < M.1 by omega) (Nat.le_of_ble_eq_true rfl) rfl rfl rfl ?_
          refine xj_abs_set (fun M1 hs1 ha1 ho1 => ?_)
          refine xj_goto (tgt := 135) d14_38_88 rfl ?_
          have hbare : t.2 = [] := Classical.byContradiction fun q => by obtain ⟨ll, -, -, -, z⟩ := mA_last hA hW q; exact z (xB_y o5)
          have hq : pOneC fp pl c (a, 0, A, t :: r) = pFau (a, 0, A, t :: r) 1 := (if_neg o1).trans ((if_neg o3).trans ((if_pos o4).trans (if_pos hbare)))
          refine xj_ret d14_38_135 (by omega) (by omega) rfl (K _ ?_)
          rw [hq]
          exact ⟨fun q => absurd q (show ¬ (1 : Int32) = 0 by decide), fun _ => mR_fa hR0 (show M1.1 = M.1 by omega) (fun j hj => (ho1 j (by omega))) ha1⟩
    · refine xj_aload_n (i := 0) d14_38_63 rfl rfl ?_
      refine xj_callV (rest := []) (As := []) (b := 24) (rCloseX hg hxn h52 hpl hPR hR0 ha) d14_38_64 wd14_37 k24 (by omega) (show 24 < M.1 by omega) rfl s14_37 w1220 (Or.inl w1218) rfl rfl (Nat.le_of_ble_eq_true rfl) (by omega) (by omega) (by omega) ?_
      rintro v M8 ⟨rfl, hX8⟩
      refine xj_goto (tgt := 135) d14_38_67 rfl ?_
      have hq : pOneC fp pl c (a, 0, A, t :: r) = pClose (a, 0, A, t :: r) := (if_neg o1).trans (if_pos o3)
      refine xj_ret d14_38_135 (by omega) (by omega) rfl (K _ ?_)
      rw [hq]
      exact hX8
  · refine xj_aload_n (i := 0) d14_38_22 rfl rfl ?_
    refine xj_get d14_38_23 f14_139_12 k24 (by omega) (show 24 < M.1 by omega) rfl ?_
    refine xj_bipush (v := 6) d14_38_26 (by decide) ?_
    refine xj_icmp_ne (tgt := 40) d14_38_28 rfl (fun o2 => ?_) (fun o2 => ?_)
    · refine xj_aload_n (i := 0) d14_38_40 rfl rfl ?_
      refine xj_dup d14_38_41 rfl ?_
      refine xj_get d14_38_42 f14_139_12 k24 (by omega) (show 24 < M.1 by omega) rfl ?_
      refine xj_iconst (v := 1) d14_38_45 (by decide) ?_
      refine xj_iadd (v := nI (r.length + 1)) d14_38_46 (nI_1 _) ?_
      refine xj_put (a := 24) (fs' := [.ref 25, .ref 26, .ref 27, .ref 28, .ref 29, .ref 30, .int (nI sn), .int (nI vc), .int (nI tk), .ref 31, .int (nI dl), .ref 32, .int (nI pl), .int (nI A.length), .ref 33, .ref 34, .ref 35, .ref 36, .ref 37, .ref 38, .ref 39, .ref 40, .int (nI a), .int (nI (r.length + 1)), .int 0, .ref 41, .ref 42, .ref 43, .ref 44, .ref 45, .ref 46, .ref 47, .ref 48, .int y33, .ref 49, .ref 50, .int y36, .int y37, .int y38, .int y39, .int (nI hc), .ref 51]) d14_38_47 f14_139_12 k24 (by omega) (show 24 < M.1 by omega) (Nat.le_of_ble_eq_true rfl) rfl rfl rfl ?_
      refine xj_abs_set (fun M2 hs2 ha2 ho2 => ?_)
      have hr6 : r.length < 6 := Classical.byContradiction fun q => o2 (congrArg nI (show r.length = 6 by omega))
      refine xj_aload_n (i := 0) d14_38_50 rfl rfl ?_
      refine xj_callV (rest := []) (As := []) (b := 24) (mBegin hg (M := M2) (n := n) (dl := dl) (pl := pl) (vc := vc) (tk := tk) (hc := hc) (sn := sn) (y24 := 0) (y33 := y33) (y36 := y36) (y37 := y37) (y38 := y38) (y39 := y39) (np := A.length) (a := a) (dp := r.length + 1) (fP := fP) (lP := lP) (fB := fB) (lB := lB) (show M2.1 = n by omega) (by omega) (by omega) (by omega) ha2 (by omega) (by omega) ((ho2 41 (by omega)).trans k41) (by omega) (by omega) ((ho2 42 (by omega)).trans k42) (by omega) (by omega) ((ho2 43 (by omega)).trans k43) (by omega) (by omega) ((ho2 44 (by omega)).trans k44) hxn hn2 (by omega)) d14_38_51 wd14_23 ha2 (by omega) (show 24 < M2.1 by omega) rfl s14_23 w1208 (Or.inl w1206) rfl rfl (Nat.le_of_ble_eq_true rfl) (by omega) (by omega) (by omega) ?_
      rintro v M3 ⟨rfl, hs3, ho3, hf3_0, hf3_1, hf3_2, hf3_3⟩
      replace hs3 : M3.1 = n := hs3
      replace hf3_0 : M3.2 41 = (.inl (0, 7, .inl (upd fP (r.length + 1) (-1)))) := hf3_0
      replace hf3_1 : M3.2 42 = (.inl (0, 7, .inl (upd lP (r.length + 1) (-1)))) := hf3_1
      replace hf3_2 : M3.2 43 = (.inl (0, 7, .inl (upd fB (r.length + 1) (-1)))) := hf3_2
      replace hf3_3 : M3.2 44 = (.inl (0, 7, .inl (upd lB (r.length + 1) (-1)))) := hf3_3
      refine xj_goto (tgt := 135) d14_38_54 rfl ?_
      have hq : pOneC fp pl c (a, 0, A, t :: r) = (a, 0, A, ([], []) :: t :: r) := (if_pos o1).trans (if_neg (by show ¬ r.length + 1 = 7; omega))
      refine xj_ret d14_38_135 (by omega) (by omega) rfl (K _ ?_)
      rw [hq]
      refine ⟨fun _ => ⟨⟨(show M3.1 = M0.1 by omega), fun j h1 h2 h3 => ((ho3 j (by omega) (by omega) (by omega) (by omega) (by omega)).trans (ho2 j (by omega))).trans (i2 j h1 h2 h3)⟩, ((ho3 32 (by omega) (by omega) (by omega) (by omega) (by omega)).trans (ho2 32 (by omega))).trans k32, A.length, kd, ch, nx, be, lo, hi, wt, cs, (upd fP (r.length + 1) (-1)), (upd lP (r.length + 1) (-1)), (upd fB (r.length + 1) (-1)), (upd lB (r.length + 1) (-1)), rfl, ((ho3 24 (by omega) (by omega) (by omega) (by omega) (by omega)).trans ha2), ((ho3 33 (by omega) (by omega) (by omega) (by omega) (by omega)).trans ((ho2 33 (by omega)).trans k33)), ((ho3 34 (by omega) (by omega) (by omega) (by omega) (by omega)).trans ((ho2 34 (by omega)).trans k34)), ((ho3 35 (by omega) (by omega) (by omega) (by omega) (by omega)).trans ((ho2 35 (by omega)).trans k35)), ((ho3 36 (by omega) (by omega) (by omega) (by omega) (by omega)).trans ((ho2 36 (by omega)).trans k36)), ((ho3 37 (by omega) (by omega) (by omega) (by omega) (by omega)).trans ((ho2 37 (by omega)).trans k37)), ((ho3 38 (by omega) (by omega) (by omega) (by omega) (by omega)).trans ((ho2 38 (by omega)).trans k38)), ((ho3 39 (by omega) (by omega) (by omega) (by omega) (by omega)).trans ((ho2 39 (by omega)).trans k39)), ((ho3 40 (by omega) (by omega) (by omega) (by omega) (by omega)).trans ((ho2 40 (by omega)).trans k40)), hf3_0, hf3_1, hf3_2, hf3_3, ?_, ?_⟩, fun q => absurd rfl q⟩
      · exact mA_push hA ⟨if_pos rfl, if_pos rfl, if_pos rfl, if_pos rfl⟩ (fun e he => ⟨if_neg (by omega), if_neg (by omega), if_neg (by omega), if_neg (by omega)⟩)
      · exact pW_push hW hr6 ha g2
    · refine xj_aload_n (i := 0) d14_38_31 rfl rfl ?_
      refine xj_bipush (v := 8) d14_38_32 (by decide) ?_
      refine xj_put (a := 24) (fs' := [.ref 25, .ref 26, .ref 27, .ref 28, .ref 29, .ref 30, .int (nI sn), .int (nI vc), .int (nI tk), .ref 31, .int (nI dl), .ref 32, .int (nI pl), .int (nI A.length), .ref 33, .ref 34, .ref 35, .ref 36, .ref 37, .ref 38, .ref 39, .ref 40, .int (nI a), .int (nI r.length), .int 8, .ref 41, .ref 42, .ref 43, .ref 44, .ref 45, .ref 46, .ref 47, .ref 48, .int y33, .ref 49, .ref 50, .int y36, .int y37, .int y38, .int y39, .int (nI hc), .ref 51]) d14_38_34 f14_156_12 k24 (by omega) (show 24 < M.1 by omega) (Nat.le_of_ble_eq_true rfl) rfl rfl rfl ?_
      refine xj_abs_set (fun M4 hs4 ha4 ho4 => ?_)
      refine xj_goto (tgt := 135) d14_38_37 rfl ?_
      have hq : pOneC fp pl c (a, 0, A, t :: r) = pFau (a, 0, A, t :: r) 8 := (if_pos o1).trans (if_pos (by show r.length + 1 = 7; have := (nI_eq (a := r.length) (b := 6) (by omega) (by decide)).mp o2; omega))
      refine xj_ret d14_38_135 (by omega) (by omega) rfl (K _ ?_)
      rw [hq]
      exact ⟨fun q => absurd q (show ¬ (8 : Int32) = 0 by decide), fun _ => mR_fa hR0 (show M4.1 = M.1 by omega) (fun j hj => (ho4 j (by omega))) ha4⟩

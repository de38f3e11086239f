set_option maxRecDepth 20000 in
set_option maxHeartbeats 1000000 in
theorem rRepeat {G : xG} (hg : xGood G) (hxn : xn = 16) {dl pl vc tk hc sn : Nat} {y33 y36 y37 y38 y39 : Int32} {fp : Nat → Int32} {M0 M : xM} (h52 : 52 ≤ M0.1) (hpl : pl ≤ 24) {a : Nat} {A : List xNode} {t1 l : List Nat} {e : Nat} {r : List (List Nat × List Nat)} (hR0 : mR dl pl vc tk hc sn y33 y36 y37 y38 y39 fp M0 M (a, 0, A, (t1, l ++ [e]) :: r)) (ha : A.length + r.length + 1 ≤ a) (hkn : ∀ i, i < A.length → (pNd A i).1 ≤ 6) {c : Int32} : XC G Y14_29 none 3 0 0 [.ref 24, .int c] M (fun v M' => v = none ∧ mX dl pl vc tk hc sn y33 y36 y37 y38 y39 fp M0 M' (pRepeat fp pl c (a, 0, A, (t1, l ++ [e]) :: r))) := by
  obtain ⟨⟨i1, i2⟩, k32, np, kd, ch, nx, be, lo, hi, wt, cs, fP, lP, fB, lB, hnp, k24, k33, k34, k35, k36, k37, k38, k39, k40, k41, k42, k43, k44, hA, hW⟩ := id hR0
  subst hnp
  replace k24 : M.2 24 = (.inr (12, [.ref 25, .ref 26, .ref 27, .ref 28, .ref 29, .ref 30, .int (nI sn), .int (nI vc), .int (nI tk), .ref 31, .int (nI dl), .ref 32, .int (nI pl), .int (nI A.length), .ref 33, .ref 34, .ref 35, .ref 36, .ref 37, .ref 38, .ref 39, .ref 40, .int (nI a), .int (nI r.length), .int 0, .ref 41, .ref 42, .ref 43, .ref 44, .ref 45, .ref 46, .ref 47, .ref 48, .int y33, .ref 49, .ref 50, .int y36, .int y37, .int y38, .int y39, .int (nI hc), .ref 51])) := k24
  obtain ⟨g1, g2, g3⟩ := pW_tag hW
  have hlS := hA.2 r.length (t1, l ++ [e]) plv_mine
  have hm2 : ∀ c ∈ l ++ [e], c < A.length := fun c hc => by
    obtain ⟨-, -, -, -, ow, w1, w2⟩ := hW
    exact ((w2 r.length (t1, l ++ [e]) plv_mine).2.1 c hc).1
  have he := hm2 e (by simp)
  have hlP : lP r.length = nI e := by
    rw [hlS.2.2.1]
    exact xla_app l e
  have hpl2 : pLast (a, 0, A, (t1, l ++ [e]) :: r) = e := by
    show ((l ++ [e]).getLast?).getD 0 = e
    rw [List.getLast?_concat]
    rfl
  have hne0 : ¬ (pTop (a, 0, A, (t1, l ++ [e]) :: r)).2 = [] := by
    show ¬ l ++ [e] = []
    simp
  obtain ⟨l4, -, -, -, hb4⟩ := mA_last hA hW hne0
  obtain ⟨kq, hkq⟩ : ∃ kq, kq = (pNd A e).1 := ⟨_, rfl⟩
  have hkd : kd e = nI kq := by
    rw [hkq]
    exact (mA_wt hA he).2
  have hk6 : kq ≤ 6 := by
    rw [hkq]
    exact hkn e he
  have hk2 : ∀ {z : Nat}, kq = z → (pNd A (pLast (a, 0, A, (t1, l ++ [e]) :: r))).1 = z := fun h => by
    rw [hpl2, ← hkq]
    exact h
  have hk3 : ∀ {z : Nat}, (pNd A (pLast (a, 0, A, (t1, l ++ [e]) :: r))).1 = z → kq = z := fun h => by
    rw [hkq]
    rw [hpl2] at h
    exact h
  have xk2 : ∀ {z : Nat}, nI kq = nI z → z < 100 → kq = z := fun h hz => (nI_eq (by omega) (by omega)).mp h
  refine xc_of hg (by decide) (Nat.le_of_ble_eq_true rfl) (Or.inr (Or.inr (Or.inr (Or.inr (Or.inl ⟨rfl, rfl, fun v M' h => h.1⟩))))) ?_
  refine xj_aload_n (i := 0) d14_29_0 rfl rfl ?_
  refine xj_callV (rest := []) (As := []) (b := 24) (mBare hg (M := M) (n := M.1) (dl := dl) (pl := pl) (vc := vc) (tk := tk) (hc := hc) (sn := sn) (y24 := 0) (y33 := y33) (y36 := y36) (y37 := y37) (y38 := y38) (y39 := y39) (np := A.length) (a := a) (dp := r.length) (fP := fP) rfl (by omega) (by omega) (by omega) k24 (by omega) (by omega) k41 (by omega)) d14_29_1 wd14_21 k24 (by omega) (show 24 < M.1 by omega) rfl s14_21 w1224 (Or.inl w1222) rfl rfl (Nat.le_of_ble_eq_true rfl) (by omega) (by omega) (by omega) ?_
  rintro v M' ⟨rfl, hm⟩
  subst M'
  refine xj_if_ne (tgt := 43) d14_29_4 rfl (fun h => absurd (xB_f hb4) h) (fun _ => ?_)
  refine xj_aload_n (i := 0) d14_29_7 rfl rfl ?_
  refine xj_get d14_29_8 f14_35_12 k24 (by omega) (show 24 < M.1 by omega) rfl ?_
  refine xj_aload_n (i := 0) d14_29_11 rfl rfl ?_
  refine xj_get d14_29_12 f14_62_12 k24 (by omega) (show 24 < M.1 by omega) rfl ?_
  refine xj_aload_n (i := 0) d14_29_15 rfl rfl ?_
  refine xj_get d14_29_16 f14_139_12 k24 (by omega) (show 24 < M.1 by omega) rfl ?_
  refine xj_iaload (j := r.length) d14_29_19 k42 (by omega) (show 42 < M.1 by omega) (vp_in_nI (by omega) (by omega)) (nI_clamp (by omega)) ?_
  rw [show lP r.length = nI e from hlP]
  refine xj_iaload (j := e) d14_29_20 k33 (by omega) (show 33 < M.1 by omega) (vp_in_nI (by omega) (by omega)) (nI_clamp (by omega)) ?_
  rw [show kd e = nI kq from hkd]
  refine xj_iconst (v := 2) d14_29_21 (by decide) ?_
  refine xj_icmp_eq (tgt := 43) d14_29_22 rfl (fun h1 => ?_) (fun h1 => ?_)
  · refine xj_aload_n (i := 0) d14_29_43 rfl rfl ?_
    refine xj_iconst (v := 3) d14_29_44 (by decide) ?_
    refine xj_put (a := 24) (fs' := [.ref 25, .ref 26, .ref 27, .ref 28, .ref 29, .ref 30, .int (nI sn), .int (nI vc), .int (nI tk), .ref 31, .int (nI dl), .ref 32, .int (nI pl), .int (nI A.length), .ref 33, .ref 34, .ref 35, .ref 36, .ref 37, .ref 38, .ref 39, .ref 40, .int (nI a), .int (nI r.length), .int 3, .ref 41, .ref 42, .ref 43, .ref 44, .ref 45, .ref 46, .ref 47, .ref 48, .int y33, .ref 49, .ref 50, .int y36, .int y37, .int y38, .int y39, .int (nI hc), .ref 51]) d14_29_45 f14_156_12 k24 (by omega) (show 24 < M.1 by omega) (Nat.le_of_ble_eq_true rfl) rfl rfl rfl ?_
    refine xj_abs_set (fun M1 hs1 ha1 ho1 => ?_)
    refine xj_goto (tgt := 100) d14_29_48 rfl ?_
    have hq : pRepeat fp pl c (a, 0, A, (t1, l ++ [e]) :: r) = pFau (a, 0, A, (t1, l ++ [e]) :: r) 3 := if_pos (Or.inr (Or.inl (hk2 (xk2 (z := 2) h1 (by decide)))))
    refine xj_ret d14_29_100 (by omega) (by omega) rfl ⟨rfl, ?_⟩
    rw [hq]
    exact ⟨fun q => absurd q (show ¬ (3 : Int32) = 0 by decide), fun _ => mR_fa hR0 (show M1.1 = M.1 by omega) (fun j hj => (ho1 j (by omega))) ha1⟩
  · refine xj_aload_n (i := 0) d14_29_25 rfl rfl ?_
    refine xj_get d14_29_26 f14_35_12 k24 (by omega) (show 24 < M.1 by omega) rfl ?_
    refine xj_aload_n (i := 0) d14_29_29 rfl rfl ?_
    refine xj_get d14_29_30 f14_62_12 k24 (by omega) (show 24 < M.1 by omega) rfl ?_
    refine xj_aload_n (i := 0) d14_29_33 rfl rfl ?_
    refine xj_get d14_29_34 f14_139_12 k24 (by omega) (show 24 < M.1 by omega) rfl ?_
    refine xj_iaload (j := r.length) d14_29_37 k42 (by omega) (show 42 < M.1 by omega) (vp_in_nI (by omega) (by omega)) (nI_clamp (by omega)) ?_
    rw [show lP r.length = nI e from hlP]
    refine xj_iaload (j := e) d14_29_38 k33 (by omega) (show 33 < M.1 by omega) (vp_in_nI (by omega) (by omega)) (nI_clamp (by omega)) ?_
    rw [show kd e = nI kq from hkd]
    refine xj_iconst (v := 3) d14_29_39 (by decide) ?_
    refine xj_icmp_ne (tgt := 51) d14_29_40 rfl (fun h2 => ?_) (fun h2 => ?_)
    · refine xj_iload_n (i := 1) d14_29_51 rfl rfl ?_
      refine xj_bipush (v := 42) d14_29_52 (by decide) ?_
      refine xj_icmp_ne (tgt := 66) d14_29_54 rfl (fun h3 => ?_) (fun h3 => ?_)
      · refine xj_iload_n (i := 1) d14_29_66 rfl rfl ?_
        refine xj_bipush (v := 43) d14_29_67 (by decide) ?_
        refine xj_icmp_ne (tgt := 81) d14_29_69 rfl (fun h4 => ?_) (fun h4 => ?_)
        · refine xj_iload_n (i := 1) d14_29_81 rfl rfl ?_
          refine xj_bipush (v := 63) d14_29_82 (by decide) ?_
          refine xj_icmp_ne (tgt := 96) d14_29_84 rfl (fun h5 => ?_) (fun h5 => ?_)
          · refine xj_aload_n (i := 0) d14_29_96 rfl rfl ?_
            refine xj_callV (rest := []) (As := []) (b := 24) (rBraces hg hxn h52 hpl hR0 ha) d14_29_97 wd14_28 k24 (by omega) (show 24 < M.1 by omega) rfl s14_28 w1252 (Or.inl w1250) rfl rfl (Nat.le_of_ble_eq_true rfl) (by omega) (by omega) (by omega) ?_
            rintro v M1 ⟨rfl, hX1⟩
            have hq : pRepeat fp pl c (a, 0, A, (t1, l ++ [e]) :: r) = pBraces fp pl (a, 0, A, (t1, l ++ [e]) :: r) := (if_neg (fun q => q.elim hne0 (fun q => q.elim (fun z => h1 (congrArg nI (hk3 z))) (fun z => h2 (congrArg nI (hk3 z)))))).trans ((if_neg h3).trans ((if_neg h4).trans (if_neg h5)))
            refine xj_ret d14_29_100 (by omega) (by omega) rfl ⟨rfl, ?_⟩
            rw [hq]
            exact hX1
          · refine xj_aload_n (i := 0) d14_29_87 rfl rfl ?_
            refine xj_iconst (v := 0) d14_29_88 (by decide) ?_
            refine xj_iconst (v := 1) d14_29_89 (by decide) ?_
            refine xj_callV (rest := []) (As := [.int 0, .int 1]) (b := 24) (rRep hg hxn h52 hR0 ha (m := 0) (nn := 1)) d14_29_90 wd14_26 k24 (by omega) (show 24 < M.1 by omega) rfl s14_26 w1248 (Or.inl w1246) rfl rfl (Nat.le_of_ble_eq_true rfl) (by omega) (by omega) (by omega) ?_
            rintro v M1 ⟨rfl, hR1⟩
            obtain ⟨np1, hnp1, l24⟩ := mR_24 hR1
            replace l24 : M1.2 24 = (.inr (12, [.ref 25, .ref 26, .ref 27, .ref 28, .ref 29, .ref 30, .int (nI sn), .int (nI vc), .int (nI tk), .ref 31, .int (nI dl), .ref 32, .int (nI pl), .int (nI np1), .ref 33, .ref 34, .ref 35, .ref 36, .ref 37, .ref 38, .ref 39, .ref 40, .int (nI a), .int (nI r.length), .int 0, .ref 41, .ref 42, .ref 43, .ref 44, .ref 45, .ref 46, .ref 47, .ref 48, .int y33, .ref 49, .ref 50, .int y36, .int y37, .int y38, .int y39, .int (nI hc), .ref 51])) := l24
            have hs1 : M1.1 = M0.1 := hR1.1.1
            refine xj_goto (tgt := 100) d14_29_93 rfl ?_
            have hq : pRepeat fp pl c (a, 0, A, (t1, l ++ [e]) :: r) = pRep (a, 0, A, (t1, l ++ [e]) :: r) (0) (1) := (if_neg (fun q => q.elim hne0 (fun q => q.elim (fun z => h1 (congrArg nI (hk3 z))) (fun z => h2 (congrArg nI (hk3 z)))))).trans ((if_neg h3).trans ((if_neg h4).trans (if_pos h5)))
            refine xj_ret d14_29_100 (by omega) (by omega) rfl ⟨rfl, ?_⟩
            rw [hq]
            exact ⟨fun _ => hR1, fun q => absurd rfl q⟩
        · refine xj_aload_n (i := 0) d14_29_72 rfl rfl ?_
          refine xj_iconst (v := 1) d14_29_73 (by decide) ?_
          refine xj_iconst (v := (-1)) d14_29_74 (by decide) ?_
          refine xj_callV (rest := []) (As := [.int 1, .int (-1)]) (b := 24) (rRep hg hxn h52 hR0 ha (m := 1) (nn := (-1))) d14_29_75 wd14_26 k24 (by omega) (show 24 < M.1 by omega) rfl s14_26 w1248 (Or.inl w1246) rfl rfl (Nat.le_of_ble_eq_true rfl) (by omega) (by omega) (by omega) ?_
          rintro v M1 ⟨rfl, hR1⟩
          obtain ⟨np1, hnp1, l24⟩ := mR_24 hR1
          replace l24 : M1.2 24 = (.inr (12, [.ref 25, .ref 26, .ref 27, .ref 28, .ref 29, .ref 30, .int (nI sn), .int (nI vc), .int (nI tk), .ref 31, .int (nI dl), .ref 32, .int (nI pl), .int (nI np1), .ref 33, .ref 34, .ref 35, .ref 36, .ref 37, .ref 38, .ref 39, .ref 40, .int (nI a), .int (nI r.length), .int 0, .ref 41, .ref 42, .ref 43, .ref 44, .ref 45, .ref 46, .ref 47, .ref 48, .int y33, .ref 49, .ref 50, .int y36, .int y37, .int y38, .int y39, .int (nI hc), .ref 51])) := l24
          have hs1 : M1.1 = M0.1 := hR1.1.1
          refine xj_goto (tgt := 100) d14_29_78 rfl ?_
          have hq : pRepeat fp pl c (a, 0, A, (t1, l ++ [e]) :: r) = pRep (a, 0, A, (t1, l ++ [e]) :: r) (1) ((-1)) := (if_neg (fun q => q.elim hne0 (fun q => q.elim (fun z => h1 (congrArg nI (hk3 z))) (fun z => h2 (congrArg nI (hk3 z)))))).trans ((if_neg h3).trans (if_pos h4))
          refine xj_ret d14_29_100 (by omega) (by omega) rfl ⟨rfl, ?_⟩
          rw [hq]
          exact ⟨fun _ => hR1, fun q => absurd rfl q⟩
      · refine xj_aload_n (i := 0) d14_29_57 rfl rfl ?_
        refine xj_iconst (v := 0) d14_29_58 (by decide) ?_
        refine xj_iconst (v := (-1)) d14_29_59 (by decide) ?_
        refine xj_callV (rest := []) (As := [.int 0, .int (-1)]) (b := 24) (rRep hg hxn h52 hR0 ha (m := 0) (nn := (-1))) d14_29_60 wd14_26 k24 (by omega) (show 24 < M.1 by omega) rfl s14_26 w1248 (Or.inl w1246) rfl rfl (Nat.le_of_ble_eq_true rfl) (by omega) (by omega) (by omega) ?_
        rintro v M1 ⟨rfl, hR1⟩
        obtain ⟨np1, hnp1, l24⟩ := mR_24 hR1
        replace l24 : M1.2 24 = (.inr (12, [.ref 25, .ref 26, .ref 27, .ref 28, .ref 29, .ref 30, .int (nI sn), .int (nI vc), .int (nI tk), .ref 31, .int (nI dl), .ref 32, .int (nI pl), .int (nI np1), .ref 33, .ref 34, .ref 35, .ref 36, .ref 37, .ref 38, .ref 39, .ref 40, .int (nI a), .int (nI r.length), .int 0, .ref 41, .ref 42, .ref 43, .ref 44, .ref 45, .ref 46, .ref 47, .ref 48, .int y33, .ref 49, .ref 50, .int y36, .int y37, .int y38, .int y39, .int (nI hc), .ref 51])) := l24
        have hs1 : M1.1 = M0.1 := hR1.1.1
        refine xj_goto (tgt := 100) d14_29_63 rfl ?_
        have hq : pRepeat fp pl c (a, 0, A, (t1, l ++ [e]) :: r) = pRep (a, 0, A, (t1, l ++ [e]) :: r) (0) ((-1)) := (if_neg (fun q => q.elim hne0 (fun q => q.elim (fun z => h1 (congrArg nI (hk3 z))) (fun z => h2 (congrArg nI (hk3 z)))))).trans (if_pos h3)
        refine xj_ret d14_29_100 (by omega) (by omega) rfl ⟨rfl, ?_⟩
        rw [hq]
        exact ⟨fun _ => hR1, fun q => absurd rfl q⟩
    · refine xj_aload_n (i := 0) d14_29_43 rfl rfl ?_
      refine xj_iconst (v := 3) d14_29_44 (by decide) ?_
      refine xj_put (a := 24) (fs' := [.ref 25, .ref 26, .ref 27, .ref 28, .ref 29, .ref 30, .int (nI sn), .int (nI vc), .int (nI tk), .ref 31, .int (nI dl), .ref 32, .int (nI pl), .int (nI A.length), .ref 33, .ref 34, .ref 35, .ref 36, .ref 37, .ref 38, .ref 39, .ref 40, .int (nI a), .int (nI r.length), .int 3, .ref 41, .ref 42, .ref 43, .ref 44, .ref 45, .ref 46, .ref 47, .ref 48, .int y33, .ref 49, .ref 50, .int y36, .int y37, .int y38, .int y39, .int (nI hc), .ref 51]) d14_29_45 f14_156_12 k24 (by omega) (show 24 < M.1 by omega) (Nat.le_of_ble_eq_true rfl) rfl rfl rfl ?_
      refine xj_abs_set (fun M2 hs2 ha2 ho2 => ?_)
      refine xj_goto (tgt := 100) d14_29_48 rfl ?_
      have hq : pRepeat fp pl c (a, 0, A, (t1, l ++ [e]) :: r) = pFau (a, 0, A, (t1, l ++ [e]) :: r) 3 := if_pos (Or.inr (Or.inr (hk2 (xk2 (z := 3) h2 (by decide)))))
      refine xj_ret d14_29_100 (by omega) (by omega) rfl ⟨rfl, ?_⟩
      rw [hq]
      exact ⟨fun q => absurd q (show ¬ (3 : Int32) = 0 by decide), fun _ => mR_fa hR0 (show M2.1 = M.1 by omega) (fun j hj => (ho2 j (by omega))) ha2⟩
set_option maxRecDepth 20000 in
theorem rRepeat0 {G : xG} (hg : xGood G) (hxn : xn = 16) {dl pl vc tk hc sn : Nat} {y33 y36 y37 y38 y39 : Int32} {fp : Nat → Int32} {M0 M : xM} (h52 : 52 ≤ M0.1) (hpl : pl ≤ 24) {a : Nat} {A : List xNode} {t1 : List Nat} {r : List (List Nat × List Nat)} (hR0 : mR dl pl vc tk hc sn y33 y36 y37 y38 y39 fp M0 M (a, 0, A, (t1, []) :: r)) {c : Int32} : XC G Y14_29 none 3 0 0 [.ref 24, .int c] M (fun v M' => v = none ∧ mX dl pl vc tk hc sn y33 y36 y37 y38 y39 fp M0 M' (pRepeat fp pl c (a, 0, A, (t1, []) :: r))) := by
  obtain ⟨⟨i1, i2⟩, k32, np, kd, ch, nx, be, lo, hi, wt, cs, fP, lP, fB, lB, hnp, k24, k33, k34, k35, k36, k37, k38, k39, k40, k41, k42, k43, k44, hA, hW⟩ := id hR0
  subst hnp
  replace k24 : M.2 24 = (.inr (12, [.ref 25, .ref 26, .ref 27, .ref 28, .ref 29, .ref 30, .int (nI sn), .int (nI vc), .int (nI tk), .ref 31, .int (nI dl), .ref 32, .int (nI pl), .int (nI A.length), .ref 33, .ref 34, .ref 35, .ref 36, .ref 37, .ref 38, .ref 39, .ref 40, .int (nI a), .int (nI r.length), .int 0, .ref 41, .ref 42, .ref 43, .ref 44, .ref 45, .ref 46, .ref 47, .ref 48, .int y33, .ref 49, .ref 50, .int y36, .int y37, .int y38, .int y39, .int (nI hc), .ref 51])) := k24
  obtain ⟨g1, g2, g3⟩ := pW_tag hW
  have hb4 : fP r.length < 0 := by
    rw [(mA_bare hA rfl).1]
    decide
  refine xc_of hg (by decide) (Nat.le_of_ble_eq_true rfl) (Or.inr (Or.inr (Or.inr (Or.inr (Or.inl ⟨rfl, rfl, fun v M' h => h.1⟩))))) ?_
  refine xj_aload_n (i := 0) d14_29_0 rfl rfl ?_
  refine xj_callV (rest := []) (As := []) (b := 24) (mBare hg (M := M) (n := M.1) (dl := dl) (pl := pl) (vc := vc) (tk := tk) (hc := hc) (sn := sn) (y24 := 0) (y33 := y33) (y36 := y36) (y37 := y37) (y38 := y38) (y39 := y39) (np := A.length) (a := a) (dp := r.length) (fP := fP) rfl (by omega) (by omega) (by omega) k24 (by omega) (by omega) k41 (by omega)) d14_29_1 wd14_21 k24 (by omega) (show 24 < M.1 by omega) rfl s14_21 w1224 (Or.inl w1222) rfl rfl (Nat.le_of_ble_eq_true rfl) (by omega) (by omega) (by omega) ?_
  rintro v M' ⟨rfl, hm⟩
  subst M'
  refine xj_if_ne (tgt := 43) d14_29_4 rfl (fun _ => ?_) (fun h => absurd h (by rw [xB_t hb4]; decide))
  refine xj_aload_n (i := 0) d14_29_43 rfl rfl ?_
  refine xj_iconst (v := 3) d14_29_44 (by decide) ?_
  refine xj_put (a := 24) (fs' := [.ref 25, .ref 26, .ref 27, .ref 28, .ref 29, .ref 30, .int (nI sn), .int (nI vc), .int (nI tk), .ref 31, .int (nI dl), .ref 32, .int (nI pl), .int (nI A.length), .ref 33, .ref 34, .ref 35, .ref 36, .ref 37, .ref 38, .ref 39, .ref 40, .int (nI a), .int (nI r.length), .int 3, .ref 41, .ref 42, .ref 43, .ref 44, .ref 45, .ref 46, .ref 47, .ref 48, .int y33, .ref 49, .ref 50, .int y36, .int y37, .int y38, .int y39, .int (nI hc), .ref 51]) d14_29_45 f14_156_12 k24 (by omega) (show 24 < M.1 by omega) (Nat.le_of_ble_eq_true rfl) rfl rfl rfl ?_
  refine xj_abs_set (fun M1 hs1 ha1 ho1 => ?_)
  refine xj_goto (tgt := 100) d14_29_48 rfl ?_
  have hq : pRepeat fp pl c (a, 0, A, (t1, []) :: r) = pFau (a, 0, A, (t1, []) :: r) 3 := if_pos (Or.inl rfl)
  refine xj_ret d14_29_100 (by omega) (by omega) rfl ⟨rfl, ?_⟩
  rw [hq]
  exact ⟨fun q => absurd q (show ¬ (3 : Int32) = 0 by decide), fun _ => mR_fa hR0 (show M1.1 = M.1 by omega) (fun j hj => (ho1 j (by omega))) ha1⟩

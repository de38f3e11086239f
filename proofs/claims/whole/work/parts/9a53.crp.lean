theorem xPeekV {G : xG} (hg : xGood G) (hxn : xn = 16) {M : xM} {rd gw pl a ga og : Nat} {ft : Int32} {px fp : Nat → Int32} {k : Nat} {V : Int32} (h1 : 16 ≤ rd) (h2 : rd < M.1) (h3 : 18 < M.1) (hrd : M.2 rd = (.inr (4, [.ref gw, .int ft, .ref 18, .int (nI pl), .int (nI a), .ref ga, .int (nI og)]))) (h18 : M.2 18 = (.inl (1, 24, .inl px))) (hk : k < 1000) (hpl : pl ≤ 24) (hpx : ∀ j, j < pl → px j = fp j) (hPR : ∀ j, j < pl → ∃ u1, u1 < 95 ∧ fp j = nI (u1 + 32)) (hV : pch fp pl k = V) : XC G Y8_6 (some .char) 0 0 0 [.ref rd, .int (nI k)] M (fun v M' => v = some (.int V) ∧ M' = M) := by
  rw [← hV, ← pch_eq hpx k]
  exact xPeek hg rfl (by omega) (by omega) h2 hrd (by omega) (by omega) h18 hk hpl (xpch_n (fun j hj => by obtain ⟨u, q1, q2⟩ := hPR j hj; exact ⟨u, q1, (hpx j hj).trans q2⟩))
theorem xDigitV {G : xG} (hg : xGood G) (hxn : xn = 16) {M : xM} {rd gw pl a ga og : Nat} {ft : Int32} {px fp : Nat → Int32} {k : Nat} {V : Int32} (h1 : 16 ≤ rd) (h2 : rd < M.1) (h3 : 18 < M.1) (hrd : M.2 rd = (.inr (4, [.ref gw, .int ft, .ref 18, .int (nI pl), .int (nI a), .ref ga, .int (nI og)]))) (h18 : M.2 18 = (.inl (1, 24, .inl px))) (hk : k < 1000) (hpl : pl ≤ 24) (hpx : ∀ j, j < pl → px j = fp j) (hPR : ∀ j, j < pl → ∃ u1, u1 < 95 ∧ fp j = nI (u1 + 32)) (hV : pDgv (pch fp pl k) = V) : XC G Y8_13 (some .int) 1 0 0 [.ref rd, .int (nI k)] M (fun v M' => v = some (.int V) ∧ M' = M) := by
  rw [← hV, ← pch_eq hpx k]
  exact xDigit hg rfl (by omega) (by omega) h2 hrd (by omega) (by omega) h18 hk hpl (xpch_n (fun j hj => by obtain ⟨u, q1, q2⟩ := hPR j hj; exact ⟨u, q1, (hpx j hj).trans q2⟩))
theorem xpch_cc {fp : Nat → Int32} {pl : Nat} (hPR : ∀ j, j < pl → ∃ u1, u1 < 95 ∧ fp j = nI (u1 + 32)) (k : Nat) : ∃ cc, pch fp pl k = nI cc ∧ cc < 127 := by
  by_cases h : k < pl
  · obtain ⟨u, h1, h2⟩ := hPR k h
    exact ⟨u + 32, (if_pos h).trans h2, by omega⟩
  · exact ⟨0, if_neg h, by decide⟩
theorem pDig_n {fp : Nat → Int32} {pl : Nat} (hPR : ∀ j, j < pl → ∃ u1, u1 < 95 ∧ fp j = nI (u1 + 32)) {k : Nat} (h : pDig (pch fp pl k)) : ∃ d, d ≤ 9 ∧ pch fp pl k - 48 = nI d ∧ pDgv (pch fp pl k) = nI d ∧ k < pl := by
  obtain ⟨cc, h1, h2⟩ := xpch_cc hPR k
  have hk : k < pl := Classical.byContradiction fun q => by
    rw [show pch fp pl k = 0 from if_neg q] at h
    exact absurd h.1 (by decide)
  have hdv : pDgv (pch fp pl k) = pch fp pl k - 48 := if_pos h
  rw [h1] at h hdv ⊢
  have h3 : 48 ≤ cc := Classical.byContradiction fun q => absurd h.1 (show ¬ nI 48 ≤ nI cc from nI_ge (by omega) (by decide))
  have h4 : cc ≤ 57 := Classical.byContradiction fun q => absurd h.2 (show ¬ nI cc ≤ nI 57 from nI_ge (by omega) (by omega))
  have h5 : nI cc - 48 = nI (cc - 48) := pk_sub (a := cc) (b := 48) (by omega)
  exact ⟨cc - 48, by omega, h5, hdv.trans h5, hk⟩
theorem pDgv_no {c : Int32} (h : ¬ pDig c) : pDgv c = -1 := if_neg h
theorem pOr_no (a b : Int32) : pOr pNo a b = pSet a b := by
  funext k
  show (false || pSet a b k) = pSet a b k
  rfl
theorem cHe_at {rd : Nat} {M0 M : xM} {pl a : Nat} {x : Int32} {A : List xNode} {t : List Nat × List Nat} {r : List (List Nat × List Nat)} (h : cHe rd M0 pl M (a, x, A, t :: r)) : ∃ ga gw, M.2 rd = cRo pl ga gw x a r.length ∧ 52 ≤ rd ∧ rd < M.1 ∧ ∀ (M' : xM) (a' : Nat), M'.1 = M.1 → M'.2 rd = cRo pl ga gw x a' r.length → (∀ y, y ≠ rd → M'.2 y = M.2 y) → cHe rd M0 pl M' (a', x, A, t :: r) := by
  obtain ⟨ga, fg, ow, rk, ad, gA, bA, μ, hH⟩ := h
  obtain ⟨⟨i1, i2, i3⟩, ⟨r1, r2, r3, r4, r5, r6⟩, -, kR, -⟩ := id hH
  exact ⟨ga, gA 0, kR, by omega, r2, fun M' a' e1 e2 e3 => ⟨ga, fg, ow, rk, ad, gA, bA, μ, cH_at hH e1 e2 e3⟩⟩
set_option maxRecDepth 20000 in
set_option maxHeartbeats 1000000 in
theorem kAddSet {G : xG} (hg : xGood G) (hxn : xn = 16) (hZ : va_Z "java/util/ArrayList" "DEFAULTCAPACITY_EMPTY_ELEMENTDATA" "[Ljava/lang/Object;" (.ref (xa G 1)) (fun q => (xs G).heap.size ≤ q) (xs G) (xs G).heap) (hT : va_T (.object "java/lang/Object") (xa G 1) 0 (fun _ => .null) (fun q => (xs G).heap.size ≤ q) (xs G) (xs G).heap) (hMi : xHM G) (hNA : xNA G) (hSC : xSC G) {px fp : Nat → Int32} {rd : Nat} {M0 M : xM} {pl ga : Nat} {fg : Nat → Option Nat} {ow rk ad gA bA : Nat → Nat} {μ : Nat → xMu} {a : Nat} {A : List xNode} {t : List Nat × List Nat} {r : List (List Nat × List Nat)} (hpl : pl ≤ 24) (hpx : ∀ j, j < pl → px j = fp j) (hPR : ∀ j, j < pl → ∃ u1, u1 < 95 ∧ fp j = nI (u1 + 32)) (h18 : M0.2 18 = (.inl (1, 24, .inl px))) {lo : Nat → Nat} {a0 : Nat} (hH : cH rd M0 pl ga fg ow rk ad gA bA μ M (a, 0, A, t :: r)) (hZp : pZ lo (a0, 0, A, t :: r)) (hpa1 : a0 + 1 ≤ a) (hpa2 : a ≤ pl) {u0 v0 : Nat} (hu0 : 32 ≤ u0) (huv : u0 ≤ v0) (hv0 : v0 ≤ 126) : XC G Y8_7 none 8 2 44 [.ref rd, .int (nI u0), .int (nI v0)] M (fun v M' => v = none ∧ cHe rd M0 pl M' (pSetOf (a, 0, A, t :: r) (nI u0) (nI v0))) := by
  obtain ⟨_, _, bl, p, nd, ⟨rfl, rfl, efg⟩, ⟨b1, b2, b3, b4, b5, b6, b7, b8⟩, ⟨kR, kgs, kgo, kbo⟩, ⟨klp, klb⟩, ⟨og1, og2, og3, og4⟩, ⟨c1, c2, c3, c4, c5, c6, c7, c8, c9, c10, c11, c12⟩, cfr, ⟨n1, n2, n3, n4, n5, n6, n7, n8, n9, n10, n11, n12, n13, n14⟩, oR, ogs⟩ := cH_top hH hxn
  replace kR : M.2 rd = (.inr (4, [.ref (gA 0), .int 0, .ref 18, .int (nI pl), .int (nI a), .ref ga, .int (nI r.length)])) := kR
  have k18 : M.2 18 = (.inl (1, 24, .inl px)) := (cfr 18 (by omega)).trans h18
  obtain ⟨⟨z1, z2, z3⟩, y1, y2⟩ := pZ_Y hZp
  refine xc_of hg (by decide) (Nat.le_of_ble_eq_true rfl) (Or.inr (Or.inr (Or.inr (Or.inr (Or.inl ⟨rfl, rfl, fun v M' h => h.1⟩))))) ?_
  refine xj_new (na := M.1) d8_7_0 n8_98 rfl (by omega) (by omega) ?_
  refine xj_abs_push rfl (fun M1 hs1 ha1 ho1 => ?_)
  refine xj_dup d8_7_3 rfl ?_
  refine xj_callI (rest := [.ref M.1]) (As := []) (b := M.1) (cCs hg (M := M1) (n := M.1 + 1) (a := M.1) (show M1.1 = M.1 + 1 by omega) (by omega) ) d8_7_4 wd4_1 rfl w628 (Or.inr ⟨_, w627⟩) rfl rfl (Nat.le_of_ble_eq_true rfl) (by omega) (by omega) (by omega) ?_
  rintro v M' ⟨rfl, hm⟩
  subst M'
  refine xj_astore_n (i := 3) (L' := [(3, .ref M.1), (0, .ref rd), (1, .int (nI u0)), (2, .int (nI v0))]) d8_7_7 rfl (by decide) rfl ?_
  refine xj_aload_n (i := 3) d8_7_8 rfl rfl ?_
  refine xj_iload_n (i := 1) d8_7_9 rfl rfl ?_
  refine xj_iload_n (i := 2) d8_7_10 rfl rfl ?_
  refine xj_callV (rest := []) (As := [.int (nI u0), .int (nI v0)]) (b := M.1) (xList hg hxn (M := M1) (n := M.1 + 1) (u0 := u0) (v0 := v0) (q := (0, 0)) (show M1.1 = M.1 + 1 by omega) (by omega) (by omega) (by omega) ha1 (by omega) (by omega)) d8_7_11 wd4_2 ha1 (by omega) (show M.1 < M1.1 by omega) rfl w645 w644 (Or.inl w643) rfl rfl (Nat.le_of_ble_eq_true rfl) (by omega) (by omega) (by omega) ?_
  rintro v M2 ⟨rfl, hs2, ho2, ha2⟩
  refine xj_aload_n (i := 0) d8_7_14 rfl rfl ?_
  refine xj_callV (rest := []) (As := []) (b := rd) (bBr hg (M := M2) (n := M.1 + 1) (rd := rd) (gw := gA 0) (ft := 0) (pl := pl) (a := a) (ga := ga) (og := r.length) (fg := fg) (g := gA r.length) (bl := bl) (b := bA r.length) (gv := .null) (show M2.1 = M.1 + 1 by omega) (by omega) (by omega) (by omega) ((ho2 rd (by omega)).trans ((ho1 rd (by omega)).trans kR)) (by omega) (by omega) ((ho2 ga (by omega)).trans ((ho1 ga (by omega)).trans kgs)) (by omega) (by omega) ((ho2 (gA r.length) (by omega)).trans ((ho1 (gA r.length) (by omega)).trans kgo)) (by omega) efg) d8_7_15 wd8_5 ((ho2 rd (by omega)).trans ((ho1 rd (by omega)).trans kR)) (by omega) (show rd < M2.1 by omega) rfl s8_5 w450 (Or.inl w448) rfl rfl (Nat.le_of_ble_eq_true rfl) (by omega) (by omega) (by omega) ?_
  rintro v M' ⟨rfl, hm⟩
  subst M'
  refine xj_aload_n (i := 3) d8_7_18 rfl rfl ?_
  have hH3 := cH_grow (ow' := owN ow M.1 1 1 M.1) (rk' := rkN rk M.1 [(3 * A.length + 100)]) hH (show M.1 ≤ M2.1 by omega) (fun y hy => owN_o hy) (fun y hy => rkN_o hy) (fun y hy => ((ho2 y (by omega)).trans (ho1 y (by omega))))
  have hX3 : cN M2 (owN ow M.1 1 1 M.1) (rkN rk M.1 [(3 * A.length + 100)]) ad (3 * A.length + 100) M.1 lk0 (0, 0, 0, fun _ => 0) (1, 1, [], 0, 0, pSet (nI u0) (nI v0)) := cN_set (z := (xLs2 u0 (v0 + 1 - u0) (0, 0))) (by omega) (by omega) (owN_s (by omega) (by omega)) (rkN_n 0) ha2 (by rw [← pOr_no]; exact cB_ls cB_0 hu0 hv0 (by omega)) rfl
  refine xj_callV (rest := []) (As := [.ref M.1]) (b := bA r.length) (cAddX hg hxn hZ hT hMi hH3 (pZ_Y hZp) hX3 (by show 1 ≤ 1; decide) (by show 1 ≤ 6; decide) (fun c hc => absurd hc (by simp))) d8_7_19 wd3_3 ((ho2 (bA r.length) (by omega)).trans ((ho1 (bA r.length) (by omega)).trans kbo)) (by omega) (show bA r.length < M2.1 by omega) rfl w462 w461 (Or.inl w460) rfl rfl (Nat.le_of_ble_eq_true rfl) (by omega) (by omega) (by omega) ?_
  rintro v M9 ⟨rfl, hE9⟩
  exact xj_ret d8_7_22 (by omega) (by omega) rfl ⟨rfl, hE9⟩
set_option maxRecDepth 20000 in
set_option maxHeartbeats 1000000 in
theorem kEsc {G : xG} (hg : xGood G) (hxn : xn = 16) (hZ : va_Z "java/util/ArrayList" "DEFAULTCAPACITY_EMPTY_ELEMENTDATA" "[Ljava/lang/Object;" (.ref (xa G 1)) (fun q => (xs G).heap.size ≤ q) (xs G) (xs G).heap) (hT : va_T (.object "java/lang/Object") (xa G 1) 0 (fun _ => .null) (fun q => (xs G).heap.size ≤ q) (xs G) (xs G).heap) (hMi : xHM G) (hNA : xNA G) (hSC : xSC G) {px fp : Nat → Int32} {rd : Nat} {M0 M : xM} {pl ga : Nat} {fg : Nat → Option Nat} {ow rk ad gA bA : Nat → Nat} {μ : Nat → xMu} {a : Nat} {A : List xNode} {t : List Nat × List Nat} {r : List (List Nat × List Nat)} (hpl : pl ≤ 24) (hpx : ∀ j, j < pl → px j = fp j) (hPR : ∀ j, j < pl → ∃ u1, u1 < 95 ∧ fp j = nI (u1 + 32)) (h18 : M0.2 18 = (.inl (1, 24, .inl px))) {lo : Nat → Nat} {a0 : Nat} (hH : cH rd M0 pl ga fg ow rk ad gA bA μ M (a, 0, A, t :: r)) (hZp : pZ lo (a0, 0, A, t :: r)) (hpa1 : a0 + 1 ≤ a) (hpa2 : a ≤ pl) : XC G Y8_14 none 9 2 44 [.ref rd] M (fun v M' => v = none ∧ cX rd M0 pl M' (@ite _ (pSpe (pch fp pl a)) (Classical.propDecidable _) (pSetOf (pAt (a, 0, A, t :: r) 1) (pch fp pl a) (pch fp pl a)) (pFau (a, 0, A, t :: r) 7))) := by
  obtain ⟨_, _, bl, p, nd, ⟨rfl, rfl, efg⟩, ⟨b1, b2, b3, b4, b5, b6, b7, b8⟩, ⟨kR, kgs, kgo, kbo⟩, ⟨klp, klb⟩, ⟨og1, og2, og3, og4⟩, ⟨c1, c2, c3, c4, c5, c6, c7, c8, c9, c10, c11, c12⟩, cfr, ⟨n1, n2, n3, n4, n5, n6, n7, n8, n9, n10, n11, n12, n13, n14⟩, oR, ogs⟩ := cH_top hH hxn
  replace kR : M.2 rd = (.inr (4, [.ref (gA 0), .int 0, .ref 18, .int (nI pl), .int (nI a), .ref ga, .int (nI r.length)])) := kR
  have k18 : M.2 18 = (.inl (1, 24, .inl px)) := (cfr 18 (by omega)).trans h18
  obtain ⟨⟨z1, z2, z3⟩, y1, y2⟩ := pZ_Y hZp
  by_cases hs : pSpe (pch fp pl a)
  · have hap : a < pl := pch_in rfl (xspe_0 hs)
    obtain ⟨u1, hu1, hu2⟩ := hPR a hap
    obtain ⟨cc, hcu⟩ : ∃ cc, cc = u1 + 32 := ⟨_, rfl⟩
    have hcc : pch fp pl a = nI cc := by rw [hcu]; exact (if_pos hap).trans hu2
    have hix : 0 ≤ xixF (nI cc) 0 12 := Int32.not_lt.mp (xix_spe.mpr (by rw [← hcc]; exact hs))
    refine xc_of hg (by decide) (Nat.le_of_ble_eq_true rfl) (Or.inr (Or.inr (Or.inr (Or.inr (Or.inl ⟨rfl, rfl, fun v M' h => h.1⟩))))) ?_
    refine xj_aload_n (i := 0) d8_14_0 rfl rfl ?_
    refine xj_aload_n (i := 0) d8_14_1 rfl rfl ?_
    refine xj_get d8_14_2 f8_30_4 kR (by omega) (show rd < M.1 by omega) rfl ?_
    refine xj_callV (rest := []) (As := [.int (nI a)]) (b := rd) (xPeekV hg hxn (M := M) (k := a) (V := nI cc) (by omega) (by omega) (by omega) kR k18 (by omega) hpl hpx hPR hcc) d8_14_5 wd8_6 kR (by omega) (show rd < M.1 by omega) rfl s8_6 w532 (Or.inl w530) rfl rfl (Nat.le_of_ble_eq_true rfl) (by omega) (by omega) (by omega) ?_
    rintro v M' ⟨rfl, hm⟩
    subst M'
    refine xj_istore_n (i := 1) (L' := [(1, .int (nI cc)), (0, .ref rd)]) d8_14_8 rfl (by decide) rfl ?_
    refine xj_ldcS (a := 2) hSC.2.2.2.1 d8_14_9 ?_
    refine xj_iload_n (i := 1) d8_14_11 rfl rfl ?_
    refine xj_callVs (i := 0) (rest := []) (As := [.int (nI cc)]) hSC (by decide) (sIx hg (M := M) (n := M.1) rfl (by omega) (c := cc) hSC (by omega)) d8_14_12 wd22_79 w541 w540 (Or.inl w539) rfl rfl (Nat.le_of_ble_eq_true rfl) (by omega) (by omega) (by omega) ?_
    rintro v M' ⟨rfl, hm⟩
    subst M'
    refine xj_if_ge (tgt := 27) d8_14_15 rfl (fun _ => ?_) (fun h => absurd hix h)
    refine xj_aload_n (i := 0) d8_14_27 rfl rfl ?_
    refine xj_iload_n (i := 1) d8_14_28 rfl rfl ?_
    refine xj_iload_n (i := 1) d8_14_29 rfl rfl ?_
    refine xj_callV (rest := []) (As := [.int (nI cc), .int (nI cc)]) (b := rd) (kAddSet hg hxn hZ hT hMi hNA hSC hpl hpx hPR h18 hH hZp hpa1 hpa2 (u0 := cc) (v0 := cc) (by omega) (by omega) (by omega)) d8_14_30 wd8_7 kR (by omega) (show rd < M.1 by omega) rfl s8_7 w623 (Or.inl w621) rfl rfl (Nat.le_of_ble_eq_true rfl) (by omega) (by omega) (by omega) ?_
    rintro v M9 ⟨rfl, hE9⟩
    obtain ⟨ga9, gw9, kR9, dd1, dd2, hat9⟩ := cHe_at hE9
    replace kR9 : M9.2 rd = (.inr (4, [.ref gw9, .int 0, .ref 18, .int (nI pl), .int (nI a), .ref ga9, .int (nI r.length)])) := kR9
    refine xj_aload_n (i := 0) d8_14_33 rfl rfl ?_
    refine xj_dup d8_14_34 rfl ?_
    refine xj_get d8_14_35 f8_30_4 kR9 (by omega) (show rd < M9.1 by omega) rfl ?_
    refine xj_iconst (v := 1) d8_14_38 (by decide) ?_
    refine xj_iadd (v := nI (a + 1)) d8_14_39 (nI_1 _) ?_
    refine xj_put (a := rd) (fs' := [.ref gw9, .int 0, .ref 18, .int (nI pl), .int (nI (a + 1)), .ref ga9, .int (nI r.length)]) d8_14_40 f8_30_4 kR9 (by omega) (show rd < M9.1 by omega) (Nat.le_of_ble_eq_true rfl) rfl rfl rfl ?_
    refine xj_abs_set (fun M1 hs1 ha1 ho1 => ?_)
    have hE10 : cHe rd M0 pl M1 (pSetOf (pAt (a, 0, A, t :: r) 1) (nI cc) (nI cc)) := hat9 M1 (a + 1) (show M1.1 = M9.1 by omega) ha1 (fun y hy => (ho1 y (by omega)))
    have hZ2 := pZ_leaf (q := (1, 1, [], 0, 0, pSet (nI cc) (nI cc))) (x' := 0) (a' := a + 1) hZp (by show 1 ≤ 3; decide) (by show 1 ≤ 1; decide) rfl rfl (by omega) (by omega)
    exact xj_ret d8_14_43 (by omega) (by omega) rfl ⟨rfl, (by rw [if_pos hs, hcc]; exact ⟨fun _ => ⟨hE10, _, hZ2⟩, fun q => absurd rfl q⟩)⟩
  · obtain ⟨cc, hcc, hc127⟩ := xpch_cc hPR a
    have hix : ¬ 0 ≤ xixF (nI cc) 0 12 := fun q => hs (by rw [hcc]; exact xix_spe.mp (Int32.not_lt.mpr q))
    refine xc_of hg (by decide) (Nat.le_of_ble_eq_true rfl) (Or.inr (Or.inr (Or.inr (Or.inr (Or.inl ⟨rfl, rfl, fun v M' h => h.1⟩))))) ?_
    refine xj_aload_n (i := 0) d8_14_0 rfl rfl ?_
    refine xj_aload_n (i := 0) d8_14_1 rfl rfl ?_
    refine xj_get d8_14_2 f8_30_4 kR (by omega) (show rd < M.1 by omega) rfl ?_
    refine xj_callV (rest := []) (As := [.int (nI a)]) (b := rd) (xPeekV hg hxn (M := M) (k := a) (V := nI cc) (by omega) (by omega) (by omega) kR k18 (by omega) hpl hpx hPR hcc) d8_14_5 wd8_6 kR (by omega) (show rd < M.1 by omega) rfl s8_6 w532 (Or.inl w530) rfl rfl (Nat.le_of_ble_eq_true rfl) (by omega) (by omega) (by omega) ?_
    rintro v M' ⟨rfl, hm⟩
    subst M'
    refine xj_istore_n (i := 1) (L' := [(1, .int (nI cc)), (0, .ref rd)]) d8_14_8 rfl (by decide) rfl ?_
    refine xj_ldcS (a := 2) hSC.2.2.2.1 d8_14_9 ?_
    refine xj_iload_n (i := 1) d8_14_11 rfl rfl ?_
    refine xj_callVs (i := 0) (rest := []) (As := [.int (nI cc)]) hSC (by decide) (sIx hg (M := M) (n := M.1) rfl (by omega) (c := cc) hSC (by omega)) d8_14_12 wd22_79 w541 w540 (Or.inl w539) rfl rfl (Nat.le_of_ble_eq_true rfl) (by omega) (by omega) (by omega) ?_
    rintro v M' ⟨rfl, hm⟩
    subst M'
    refine xj_if_ge (tgt := 27) d8_14_15 rfl (fun h => absurd h hix) (fun _ => ?_)
    refine xj_aload_n (i := 0) d8_14_18 rfl rfl ?_
    refine xj_bipush (v := 7) d8_14_19 (by decide) ?_
    refine xj_put (a := rd) (fs' := [.ref (gA 0), .int 7, .ref 18, .int (nI pl), .int (nI a), .ref ga, .int (nI r.length)]) d8_14_21 f8_33_4 kR (by omega) (show rd < M.1 by omega) (Nat.le_of_ble_eq_true rfl) rfl rfl rfl ?_
    refine xj_abs_set (fun M1 hs1 ha1 ho1 => ?_)
    refine xj_goto (tgt := 43) d8_14_24 rfl ?_
    exact xj_ret d8_14_43 (by omega) (by omega) rfl ⟨rfl, (by rw [if_neg hs]; exact ⟨fun q => absurd q (show ¬ (7 : Int32) = 0 by decide), fun _ => cH_F hH (by omega) (by omega) ha1 (fun y hy => (ho1 y (by omega)))⟩)⟩
set_option maxRecDepth 20000 in
theorem bMay0 {G : xG} (hg : xGood G) {M : xM} {n : Nat} (hn : M.1 = n) (hx : xn ≤ n) {b : Nat} {p : Nat} {nv : Value} {wv : Value} {el : Value} {mo : Int32} (h1_b : xn ≤ b) (h2_b : b < n) (h_b : M.2 b = (.inr (6, [.ref p, nv, wv]))) (h1_p : xn ≤ p) (h2_p : p < n) (h_p : M.2 p = (.inr (2, [el, .int 0, .int mo]))) : XC G Y3_4 (some .boolean) 3 0 0 [.ref b] M (fun v M' => v = some (.int 0) ∧ M' = M) := by
  refine xc_of hg (by decide) (Nat.le_of_ble_eq_true rfl) (Or.inr (Or.inl ⟨rfl, rfl, fun v M' h => ⟨_, h.1, Or.inl rfl⟩⟩)) ?_
  refine xj_aload_n (i := 0) d3_4_0 rfl rfl ?_
  refine xj_get d3_4_1 f3_10_6 h_b (by omega) (show b < M.1 by omega) rfl ?_
  refine xj_callV (rest := []) (As := []) (b := p) (cIsEmpty0 hg (M := M) (n := n) (a := p) (el := el) (mo := mo) (show M.1 = n by omega) (by omega) (by omega) (by omega) h_p) d3_4_4 wd28_9 h_p (by omega) (show p < M.1 by omega) rfl w458 w457 (Or.inl w456) rfl rfl (Nat.le_of_ble_eq_true rfl) (by omega) (by omega) (by omega) ?_
  rintro v M' ⟨rfl, hm⟩
  subst M'
  refine xj_if_ne (tgt := 36) d3_4_7 rfl (fun _ => ?_) (fun h => absurd h (by decide))
  refine xj_iconst (v := 0) d3_4_36 (by decide) ?_
  exact xj_ret d3_4_37 (by omega) (by omega) rfl ⟨rfl, rfl⟩
set_option maxRecDepth 20000 in
theorem bMayA {G : xG} (hg : xGood G) {M : xM} {n : Nat} (hn : M.1 = n) (hx : xn ≤ n) {b : Nat} {p : Nat} {nv : Value} {wv : Value} {e : Nat} {mo : Int32} {cap : Nat} {f : Nat → Option Nat} {k : Nat} {y : Nat} {v1 : Int32} {ps : Int64} {w1 : Value} (h1_b : xn ≤ b) (h2_b : b < n) (h_b : M.2 b = (.inr (6, [.ref p, nv, wv]))) (h1_p : xn ≤ p) (h2_p : p < n) (h_p : M.2 p = (.inr (2, [.ref e, .int (nI (k + 1)), .int mo]))) (h1_e : xn ≤ e) (h2_e : e < n) (h_e : M.2 e = (.inl (4, cap, .inr (.inr (.inr (.inr f)))))) (h1_y : xn ≤ y) (h2_y : y < n) (h_y : M.2 y = (.inr (11, [.int v1, .long ps, w1]))) (hk : k < 100) (hcp : k + 1 ≤ cap) (hcap : cap < 100000) (hf : f k = some y) : XC G Y3_4 (some .boolean) 3 0 0 [.ref b] M (fun v M' => v = some (.int 0) ∧ M' = M) := by
  refine xc_of hg (by decide) (Nat.le_of_ble_eq_true rfl) (Or.inr (Or.inl ⟨rfl, rfl, fun v M' h => ⟨_, h.1, Or.inl rfl⟩⟩)) ?_
  refine xj_aload_n (i := 0) d3_4_0 rfl rfl ?_
  refine xj_get d3_4_1 f3_10_6 h_b (by omega) (show b < M.1 by omega) rfl ?_
  refine xj_callV (rest := []) (As := []) (b := p) (lEmpN hg (M := M) (n := n) (a := p) (el := .ref e) (k := k) (mo := mo) (show M.1 = n by omega) (by omega) (by omega) (by omega) h_p (by omega)) d3_4_4 wd28_9 h_p (by omega) (show p < M.1 by omega) rfl w458 w457 (Or.inl w456) rfl rfl (Nat.le_of_ble_eq_true rfl) (by omega) (by omega) (by omega) ?_
  rintro v M' ⟨rfl, hm⟩
  subst M'
  refine xj_if_ne (tgt := 36) d3_4_7 rfl (fun h => absurd (by decide) h) (fun _ => ?_)
  refine xj_aload_n (i := 0) d3_4_10 rfl rfl ?_
  refine xj_get d3_4_11 f3_10_6 h_b (by omega) (show b < M.1 by omega) rfl ?_
  refine xj_aload_n (i := 0) d3_4_14 rfl rfl ?_
  refine xj_get d3_4_15 f3_10_6 h_b (by omega) (show b < M.1 by omega) rfl ?_
  refine xj_callV (rest := [.ref p]) (As := []) (b := p) (cSize hg (M := M) (n := n) (a := p) (el := .ref e) (sz := nI (k + 1)) (mo := mo) (show M.1 = n by omega) (by omega) (by omega) (by omega) h_p) d3_4_18 wd28_8 h_p (by omega) (show p < M.1 by omega) rfl w230 w229 (Or.inl w478) rfl rfl (Nat.le_of_ble_eq_true rfl) (by omega) (by omega) (by omega) ?_
  rintro v M' ⟨rfl, hm⟩
  subst M'
  refine xj_iconst (v := 1) d3_4_21 (by decide) ?_
  refine xj_isub (v := nI k) d3_4_22 (by rw [show (1 : Int32) = nI 1 from by decide]; exact pk_sub (a := k + 1) (b := 1) (by omega)) ?_
  refine xj_callV (rest := []) (As := [.int (nI k)]) (b := p) (cGet hg (M := M) (n := n) (a := p) (e := e) (mo := mo) (cap := cap) (f := f) (sz := k + 1) (k := k) (b := y) (show M.1 = n by omega) (by omega) (by omega) (by omega) h_p (by omega) (by omega) h_e (by omega) (by omega) (by omega) hf) d3_4_23 wd28_20 h_p (by omega) (show p < M.1 by omega) rfl w248 w247 (Or.inl w479) rfl rfl (Nat.le_of_ble_eq_true rfl) (by omega) (by omega) (by omega) ?_
  rintro v M' ⟨rfl, hm⟩
  subst M'
  refine xj_instYs d3_4_26 w480 h_y (by omega) (show y < M.1 by omega) rfl ?_
  refine xj_if_ne (tgt := 36) d3_4_29 rfl (fun _ => ?_) (fun h => absurd h (by decide))
  refine xj_iconst (v := 0) d3_4_36 (by decide) ?_
  exact xj_ret d3_4_37 (by omega) (by omega) rfl ⟨rfl, rfl⟩
set_option maxRecDepth 20000 in
theorem bMayN {G : xG} (hg : xGood G) {M : xM} {n : Nat} (hn : M.1 = n) (hx : xn ≤ n) {b : Nat} {p : Nat} {nv : Value} {wv : Value} {e : Nat} {mo : Int32} {cap : Nat} {f : Nat → Option Nat} {k : Nat} {y : Nat} {bc_y : Nat} {bf_y : List Value} {bC_y : String} {bT_y : u_T} {bN_y : Nat} (h1_b : xn ≤ b) (h2_b : b < n) (h_b : M.2 b = (.inr (6, [.ref p, nv, wv]))) (h1_p : xn ≤ p) (h2_p : p < n) (h_p : M.2 p = (.inr (2, [.ref e, .int (nI (k + 1)), .int mo]))) (h1_e : xn ≤ e) (h2_e : e < n) (h_e : M.2 e = (.inl (4, cap, .inr (.inr (.inr (.inr f)))))) (h1_y : xn ≤ y) (h2_y : y < n) (h_y : M.2 y = (.inr (bc_y, bf_y))) (hk : k < 100) (hcp : k + 1 ≤ cap) (hcap : cap < 100000) (hf : f k = some y) (hP_y : xAsg bC_y "TrigramLines$Part") (hN_y : va_Nc bC_y "TrigramLines$Anchor" (xs G)) (hc_y : vwCl[bc_y]? = some (bC_y, bT_y, bN_y)) (hA_y : xAsg bC_y "java/lang/Object") : XC G Y3_4 (some .boolean) 3 0 0 [.ref b] M (fun v M' => v = some (.int 1) ∧ M' = M) := by
  refine xc_of hg (by decide) (Nat.le_of_ble_eq_true rfl) (Or.inr (Or.inl ⟨rfl, rfl, fun v M' h => ⟨_, h.1, Or.inr rfl⟩⟩)) ?_
  refine xj_aload_n (i := 0) d3_4_0 rfl rfl ?_
  refine xj_get d3_4_1 f3_10_6 h_b (by omega) (show b < M.1 by omega) rfl ?_
  refine xj_callV (rest := []) (As := []) (b := p) (lEmpN hg (M := M) (n := n) (a := p) (el := .ref e) (k := k) (mo := mo) (show M.1 = n by omega) (by omega) (by omega) (by omega) h_p (by omega)) d3_4_4 wd28_9 h_p (by omega) (show p < M.1 by omega) rfl w458 w457 (Or.inl w456) rfl rfl (Nat.le_of_ble_eq_true rfl) (by omega) (by omega) (by omega) ?_
  rintro v M' ⟨rfl, hm⟩
  subst M'
  refine xj_if_ne (tgt := 36) d3_4_7 rfl (fun h => absurd (by decide) h) (fun _ => ?_)
  refine xj_aload_n (i := 0) d3_4_10 rfl rfl ?_
  refine xj_get d3_4_11 f3_10_6 h_b (by omega) (show b < M.1 by omega) rfl ?_
  refine xj_aload_n (i := 0) d3_4_14 rfl rfl ?_
  refine xj_get d3_4_15 f3_10_6 h_b (by omega) (show b < M.1 by omega) rfl ?_
  refine xj_callV (rest := [.ref p]) (As := []) (b := p) (cSize hg (M := M) (n := n) (a := p) (el := .ref e) (sz := nI (k + 1)) (mo := mo) (show M.1 = n by omega) (by omega) (by omega) (by omega) h_p) d3_4_18 wd28_8 h_p (by omega) (show p < M.1 by omega) rfl w230 w229 (Or.inl w478) rfl rfl (Nat.le_of_ble_eq_true rfl) (by omega) (by omega) (by omega) ?_
  rintro v M' ⟨rfl, hm⟩
  subst M'
  refine xj_iconst (v := 1) d3_4_21 (by decide) ?_
  refine xj_isub (v := nI k) d3_4_22 (by rw [show (1 : Int32) = nI 1 from by decide]; exact pk_sub (a := k + 1) (b := 1) (by omega)) ?_
  refine xj_callV (rest := []) (As := [.int (nI k)]) (b := p) (cGet hg (M := M) (n := n) (a := p) (e := e) (mo := mo) (cap := cap) (f := f) (sz := k + 1) (k := k) (b := y) (show M.1 = n by omega) (by omega) (by omega) (by omega) h_p (by omega) (by omega) h_e (by omega) (by omega) (by omega) hf) d3_4_23 wd28_20 h_p (by omega) (show p < M.1 by omega) rfl w248 w247 (Or.inl w479) rfl rfl (Nat.le_of_ble_eq_true rfl) (by omega) (by omega) (by omega) ?_
  rintro v M' ⟨rfl, hm⟩
  subst M'
  refine xj_instNo d3_4_26 w480 h_y (by omega) (show y < M.1 by omega) hc_y hN_y ?_
  refine xj_if_ne (tgt := 36) d3_4_29 rfl (fun h => absurd (by decide) h) (fun _ => ?_)
  refine xj_iconst (v := 1) d3_4_32 (by decide) ?_
  refine xj_goto (tgt := 37) d3_4_33 rfl ?_
  exact xj_ret d3_4_37 (by omega) (by omega) rfl ⟨rfl, rfl⟩
set_option maxRecDepth 20000 in
set_option maxHeartbeats 1000000 in
theorem kRep0 {G : xG} (hg : xGood G) (hxn : xn = 16) (hZ : va_Z "java/util/ArrayList" "DEFAULTCAPACITY_EMPTY_ELEMENTDATA" "[Ljava/lang/Object;" (.ref (xa G 1)) (fun q => (xs G).heap.size ≤ q) (xs G) (xs G).heap) (hT : va_T (.object "java/lang/Object") (xa G 1) 0 (fun _ => .null) (fun q => (xs G).heap.size ≤ q) (xs G) (xs G).heap) (hMi : xHM G) (hNA : xNA G) (hSC : xSC G) {px fp : Nat → Int32} {rd : Nat} {M0 M : xM} {pl ga : Nat} {fg : Nat → Option Nat} {ow rk ad gA bA : Nat → Nat} {μ : Nat → xMu} {a : Nat} {A : List xNode} {t : List Nat × List Nat} {r : List (List Nat × List Nat)} (hpl : pl ≤ 24) (hpx : ∀ j, j < pl → px j = fp j) (hPR : ∀ j, j < pl → ∃ u1, u1 < 95 ∧ fp j = nI (u1 + 32)) (h18 : M0.2 18 = (.inl (1, 24, .inl px))) {lo : Nat → Nat} {a0 : Nat} (hH : cH rd M0 pl ga fg ow rk ad gA bA μ M (a, 0, A, t :: r)) (hZp : pZ lo (a0, 0, A, t :: r)) (hpa1 : a0 + 1 ≤ a) (hpa2 : a ≤ pl) {c : Int32} (h0 : t.2 = []) : XC G Y8_11 none 10 0 0 [.ref rd, .int c] M (fun v M' => v = none ∧ cX rd M0 pl M' (pRepeat fp pl c (a, 0, A, t :: r))) := by
  obtain ⟨_, _, bl, p, nd, ⟨rfl, rfl, efg⟩, ⟨b1, b2, b3, b4, b5, b6, b7, b8⟩, ⟨kR, kgs, kgo, kbo⟩, ⟨klp, klb⟩, ⟨og1, og2, og3, og4⟩, ⟨c1, c2, c3, c4, c5, c6, c7, c8, c9, c10, c11, c12⟩, cfr, ⟨n1, n2, n3, n4, n5, n6, n7, n8, n9, n10, n11, n12, n13, n14⟩, oR, ogs⟩ := cH_top hH hxn
  replace kR : M.2 rd = (.inr (4, [.ref (gA 0), .int 0, .ref 18, .int (nI pl), .int (nI a), .ref ga, .int (nI r.length)])) := kR
  have k18 : M.2 18 = (.inl (1, 24, .inl px)) := (cfr 18 (by omega)).trans h18
  obtain ⟨⟨z1, z2, z3⟩, y1, y2⟩ := pZ_Y hZp
  have hpr : pRepeat fp pl c (a, 0, A, t :: r) = pFau (a, 0, A, t :: r) 3 := if_pos (Or.inl h0)
  have kp : ∃ el9 mo9, M.2 p = (.inr (2, [el9, .int 0, .int mo9])) := by
    obtain ⟨el9, mo9, q9, -⟩ := xLs_len klp
    rw [h0] at q9
    exact ⟨el9, mo9, q9⟩
  obtain ⟨el9, mo9, kp⟩ := kp
  refine xc_of hg (by decide) (Nat.le_of_ble_eq_true rfl) (Or.inr (Or.inr (Or.inr (Or.inr (Or.inl ⟨rfl, rfl, fun v M' h => h.1⟩))))) ?_
  refine xj_aload_n (i := 0) d8_11_0 rfl rfl ?_
  refine xj_callV (rest := []) (As := []) (b := rd) (bBr hg (M := M) (n := M.1) (rd := rd) (gw := gA 0) (ft := 0) (pl := pl) (a := a) (ga := ga) (og := r.length) (fg := fg) (g := gA r.length) (bl := bl) (b := bA r.length) (gv := .null) rfl (by omega) (by omega) (by omega) kR (by omega) (by omega) kgs (by omega) (by omega) kgo (by omega) efg) d8_11_1 wd8_5 kR (by omega) (show rd < M.1 by omega) rfl s8_5 w450 (Or.inl w448) rfl rfl (Nat.le_of_ble_eq_true rfl) (by omega) (by omega) (by omega) ?_
  rintro v M' ⟨rfl, hm⟩
  subst M'
  refine xj_callV (rest := []) (As := []) (b := bA r.length) (bMay0 hg (M := M) (n := M.1) (b := bA r.length) (p := p) (nv := .ref nd) (wv := .null) (el := el9) (mo := mo9) rfl (by omega) (by omega) (by omega) kbo (by omega) (by omega) kp) d8_11_4 wd3_4 kbo (by omega) (show bA r.length < M.1 by omega) rfl w476 w475 (Or.inl w474) rfl rfl (Nat.le_of_ble_eq_true rfl) (by omega) (by omega) (by omega) ?_
  rintro v M' ⟨rfl, hm⟩
  subst M'
  refine xj_if_ne (tgt := 18) d8_11_7 rfl (fun h => absurd (by decide) h) (fun _ => ?_)
  refine xj_aload_n (i := 0) d8_11_10 rfl rfl ?_
  refine xj_iconst (v := 3) d8_11_11 (by decide) ?_
  refine xj_put (a := rd) (fs' := [.ref (gA 0), .int 3, .ref 18, .int (nI pl), .int (nI a), .ref ga, .int (nI r.length)]) d8_11_12 f8_33_4 kR (by omega) (show rd < M.1 by omega) (Nat.le_of_ble_eq_true rfl) rfl rfl rfl ?_
  refine xj_abs_set (fun M1 hs1 ha1 ho1 => ?_)
  refine xj_goto (tgt := 76) d8_11_15 rfl ?_
  exact xj_ret d8_11_76 (by omega) (by omega) rfl ⟨rfl, (by rw [hpr]; exact ⟨fun q => absurd q (show ¬ (3 : Int32) = 0 by decide), fun _ => cH_F hH (by omega) (by omega) ha1 (fun y hy => (ho1 y (by omega)))⟩)⟩
set_option maxRecDepth 20000 in
set_option maxHeartbeats 1000000 in
theorem kRepA {G : xG} (hg : xGood G) (hxn : xn = 16) (hZ : va_Z "java/util/ArrayList" "DEFAULTCAPACITY_EMPTY_ELEMENTDATA" "[Ljava/lang/Object;" (.ref (xa G 1)) (fun q => (xs G).heap.size ≤ q) (xs G) (xs G).heap) (hT : va_T (.object "java/lang/Object") (xa G 1) 0 (fun _ => .null) (fun q => (xs G).heap.size ≤ q) (xs G) (xs G).heap) (hMi : xHM G) (hNA : xNA G) (hSC : xSC G) {px fp : Nat → Int32} {rd : Nat} {M0 M : xM} {pl ga : Nat} {fg : Nat → Option Nat} {ow rk ad gA bA : Nat → Nat} {μ : Nat → xMu} {a : Nat} {A : List xNode} {t1 l : List Nat} {e : Nat} {r : List (List Nat × List Nat)} (hpl : pl ≤ 24) (hpx : ∀ j, j < pl → px j = fp j) (hPR : ∀ j, j < pl → ∃ u1, u1 < 95 ∧ fp j = nI (u1 + 32)) (h18 : M0.2 18 = (.inl (1, 24, .inl px))) {lo : Nat → Nat} {a0 : Nat} (hH : cH rd M0 pl ga fg ow rk ad gA bA μ M (a, 0, A, (t1, l ++ [e]) :: r)) (hZp : pZ lo (a0, 0, A, (t1, l ++ [e]) :: r)) (hpa1 : a0 + 1 ≤ a) (hpa2 : a ≤ pl) {c : Int32} (hkd : (pNd A e).1 = 2 ∨ (pNd A e).1 = 3) : XC G Y8_11 none 10 0 0 [.ref rd, .int c] M (fun v M' => v = none ∧ cX rd M0 pl M' (pRepeat fp pl c (a, 0, A, (t1, l ++ [e]) :: r))) := by
  obtain ⟨_, _, bl, p, nd, ⟨rfl, rfl, efg⟩, ⟨b1, b2, b3, b4, b5, b6, b7, b8⟩, ⟨kR, kgs, kgo, kbo⟩, ⟨klp, klb⟩, ⟨og1, og2, og3, og4⟩, ⟨c1, c2, c3, c4, c5, c6, c7, c8, c9, c10, c11, c12⟩, cfr, ⟨n1, n2, n3, n4, n5, n6, n7, n8, n9, n10, n11, n12, n13, n14⟩, oR, ogs⟩ := cH_top hH hxn
  replace kR : M.2 rd = (.inr (4, [.ref (gA 0), .int 0, .ref 18, .int (nI pl), .int (nI a), .ref ga, .int (nI r.length)])) := kR
  have k18 : M.2 18 = (.inl (1, 24, .inl px)) := (cfr 18 (by omega)).trans h18
  obtain ⟨⟨z1, z2, z3⟩, y1, y2⟩ := pZ_Y hZp
  have y1e := (y1 (t1, l ++ [e]) List.mem_cons_self).2
  have hec : e < A.length := y1e e (by simp)
  have hl26 : t1.length + (l ++ [e]).length ≤ 26 := z2
  rw [List.length_append, List.length_singleton] at hl26
  have hke := (y2 e _ (xnd_at hec)).2
  have h5 : ¬ (pNd A e).1 = 5 := (hZp.2.2.1 _ List.mem_cons_self).2 e (by simp)
  have hla : pLast (a, 0, A, (t1, l ++ [e]) :: r) = e := by
    show ((l ++ [e]).getLast?).getD 0 = e
    rw [List.getLast?_concat]
    rfl
  have hbn : ¬ (pTop (a, 0, A, (t1, l ++ [e]) :: r)).2 = [] := fun z => by
    have z' : l ++ [e] = [] := z
    simp at z'
  obtain ⟨y, hye⟩ : ∃ y, ad e = y := ⟨_, rfl⟩
  have hny := hH.2.2.2.2.2.2.2 e _ (xnd_at hec)
  rw [hye] at hny
  have klp' : xLs (fun y => ow y = p) M p (l.map ad ++ [y]) := by
    have e0 : (l ++ [e]).map ad = l.map ad ++ [y] := by rw [List.map_append, List.map_singleton, hye]
    rw [← e0]
    exact klp
  obtain ⟨e9, q13, mo9, cap9, q9, q14, q10, q11, q15, q16, q12⟩ := xLs_a klp' (by simp)
  rw [List.length_append, List.length_map, List.length_singleton] at q9 q14
  have hgl : (l.map ad ++ [y])[l.length]? = some y := by
    rw [List.getElem?_append_right (by simp), List.length_map, Nat.sub_self]
    rfl
  have hpr : pRepeat fp pl c (a, 0, A, (t1, l ++ [e]) :: r) = pFau (a, 0, A, (t1, l ++ [e]) :: r) 3 := if_pos (Or.inr (by rw [hla]; exact hkd))
  obtain ⟨wv9, -, ⟨x1, x2, -, -⟩, -, k2, -⟩ := hny
  have x3 := k2 hkd
  obtain ⟨va, hva⟩ : ∃ va : Int32, (if (pNd A e).1 = 2 then 1 else 0) = va := ⟨_, rfl⟩
  rw [hva] at x3
  refine xc_of hg (by decide) (Nat.le_of_ble_eq_true rfl) (Or.inr (Or.inr (Or.inr (Or.inr (Or.inl ⟨rfl, rfl, fun v M' h => h.1⟩))))) ?_
  refine xj_aload_n (i := 0) d8_11_0 rfl rfl ?_
  refine xj_callV (rest := []) (As := []) (b := rd) (bBr hg (M := M) (n := M.1) (rd := rd) (gw := gA 0) (ft := 0) (pl := pl) (a := a) (ga := ga) (og := r.length) (fg := fg) (g := gA r.length) (bl := bl) (b := bA r.length) (gv := .null) rfl (by omega) (by omega) (by omega) kR (by omega) (by omega) kgs (by omega) (by omega) kgo (by omega) efg) d8_11_1 wd8_5 kR (by omega) (show rd < M.1 by omega) rfl s8_5 w450 (Or.inl w448) rfl rfl (Nat.le_of_ble_eq_true rfl) (by omega) (by omega) (by omega) ?_
  rintro v M' ⟨rfl, hm⟩
  subst M'
  refine xj_callV (rest := []) (As := []) (b := bA r.length) (bMayA hg (M := M) (n := M.1) (b := bA r.length) (p := p) (nv := .ref nd) (wv := .null) (e := e9) (mo := mo9) (cap := cap9) (f := fun i => (l.map ad ++ [y])[i]?) (k := l.length) (y := y) (v1 := va) (ps := μ e |>.1) (w1 := wv9) rfl (by omega) (by omega) (by omega) kbo (by omega) (by omega) q9 (by omega) (by omega) q12 (by omega) (by omega) x3 (by omega) (by omega) (by omega) hgl) d8_11_4 wd3_4 kbo (by omega) (show bA r.length < M.1 by omega) rfl w476 w475 (Or.inl w474) rfl rfl (Nat.le_of_ble_eq_true rfl) (by omega) (by omega) (by omega) ?_
  rintro v M' ⟨rfl, hm⟩
  subst M'
  refine xj_if_ne (tgt := 18) d8_11_7 rfl (fun h => absurd (by decide) h) (fun _ => ?_)
  refine xj_aload_n (i := 0) d8_11_10 rfl rfl ?_
  refine xj_iconst (v := 3) d8_11_11 (by decide) ?_
  refine xj_put (a := rd) (fs' := [.ref (gA 0), .int 3, .ref 18, .int (nI pl), .int (nI a), .ref ga, .int (nI r.length)]) d8_11_12 f8_33_4 kR (by omega) (show rd < M.1 by omega) (Nat.le_of_ble_eq_true rfl) rfl rfl rfl ?_
  refine xj_abs_set (fun M1 hs1 ha1 ho1 => ?_)
  refine xj_goto (tgt := 76) d8_11_15 rfl ?_
  exact xj_ret d8_11_76 (by omega) (by omega) rfl ⟨rfl, (by rw [hpr]; exact ⟨fun q => absurd q (show ¬ (3 : Int32) = 0 by decide), fun _ => cH_F hH (by omega) (by omega) ha1 (fun y hy => (ho1 y (by omega)))⟩)⟩
set_option maxRecDepth 20000 in
set_option maxHeartbeats 1000000 in
theorem kBraces {G : xG} (hg : xGood G) (hxn : xn = 16) (hZ : va_Z "java/util/ArrayList" "DEFAULTCAPACITY_EMPTY_ELEMENTDATA" "[Ljava/lang/Object;" (.ref (xa G 1)) (fun q => (xs G).heap.size ≤ q) (xs G) (xs G).heap) (hT : va_T (.object "java/lang/Object") (xa G 1) 0 (fun _ => .null) (fun q => (xs G).heap.size ≤ q) (xs G) (xs G).heap) (hMi : xHM G) (hNA : xNA G) (hSC : xSC G) {px fp : Nat → Int32} {rd : Nat} {M0 M : xM} {pl ga : Nat} {fg : Nat → Option Nat} {ow rk ad gA bA : Nat → Nat} {μ : Nat → xMu} {a : Nat} {A : List xNode} {t1 l : List Nat} {e : Nat} {r : List (List Nat × List Nat)} (hpl : pl ≤ 24) (hpx : ∀ j, j < pl → px j = fp j) (hPR : ∀ j, j < pl → ∃ u1, u1 < 95 ∧ fp j = nI (u1 + 32)) (h18 : M0.2 18 = (.inl (1, 24, .inl px))) {lo : Nat → Nat} {a0 : Nat} (hH : cH rd M0 pl ga fg ow rk ad gA bA μ M (a, 0, A, (t1, l ++ [e]) :: r)) (hZp : pZ lo (a0, 0, A, (t1, l ++ [e]) :: r)) (hpa1 : a0 + 1 ≤ a) (hpa2 : a ≤ pl) : XC G Y8_12 none 9 8 127 [.ref rd] M (fun v M' => v = none ∧ cX rd M0 pl M' (pBraces fp pl (a, 0, A, (t1, l ++ [e]) :: r))) := by
  obtain ⟨_, _, bl, p, nd, ⟨rfl, rfl, efg⟩, ⟨b1, b2, b3, b4, b5, b6, b7, b8⟩, ⟨kR, kgs, kgo, kbo⟩, ⟨klp, klb⟩, ⟨og1, og2, og3, og4⟩, ⟨c1, c2, c3, c4, c5, c6, c7, c8, c9, c10, c11, c12⟩, cfr, ⟨n1, n2, n3, n4, n5, n6, n7, n8, n9, n10, n11, n12, n13, n14⟩, oR, ogs⟩ := cH_top hH hxn
  replace kR : M.2 rd = (.inr (4, [.ref (gA 0), .int 0, .ref 18, .int (nI pl), .int (nI a), .ref ga, .int (nI r.length)])) := kR
  have k18 : M.2 18 = (.inl (1, 24, .inl px)) := (cfr 18 (by omega)).trans h18
  obtain ⟨⟨z1, z2, z3⟩, y1, y2⟩ := pZ_Y hZp
  have y1e := (y1 (t1, l ++ [e]) List.mem_cons_self).2
  have hec : e < A.length := y1e e (by simp)
  have hl26 : t1.length + (l ++ [e]).length ≤ 26 := z2
  rw [List.length_append, List.length_singleton] at hl26
  have hke := (y2 e _ (xnd_at hec)).2
  have h5 : ¬ (pNd A e).1 = 5 := (hZp.2.2.1 _ List.mem_cons_self).2 e (by simp)
  have hla : pLast (a, 0, A, (t1, l ++ [e]) :: r) = e := by
    show ((l ++ [e]).getLast?).getD 0 = e
    rw [List.getLast?_concat]
    rfl
  have hbn : ¬ (pTop (a, 0, A, (t1, l ++ [e]) :: r)).2 = [] := fun z => by
    have z' : l ++ [e] = [] := z
    simp at z'
  obtain ⟨y, hye⟩ : ∃ y, ad e = y := ⟨_, rfl⟩
  have hny := hH.2.2.2.2.2.2.2 e _ (xnd_at hec)
  rw [hye] at hny
  have klp' : xLs (fun y => ow y = p) M p (l.map ad ++ [y]) := by
    have e0 : (l ++ [e]).map ad = l.map ad ++ [y] := by rw [List.map_append, List.map_singleton, hye]
    rw [← e0]
    exact klp
  obtain ⟨e9, q13, mo9, cap9, q9, q14, q10, q11, q15, q16, q12⟩ := xLs_a klp' (by simp)
  rw [List.length_append, List.length_map, List.length_singleton] at q9 q14
  have hgl : (l.map ad ++ [y])[l.length]? = some y := by
    rw [List.getElem?_append_right (by simp), List.length_map, Nat.sub_self]
    rfl
  by_cases hd : pDig (pch fp pl a)
  · obtain ⟨d1, hd9, hd1, hd1b, hda⟩ := pDig_n hPR hd
    by_cases hd2 : pDig (pch fp pl (a + 2))
    · obtain ⟨d2, hd29, hd2a, hd2b, -⟩ := pDig_n hPR hd2
      refine xc_of hg (by decide) (Nat.le_of_ble_eq_true rfl) (Or.inr (Or.inr (Or.inr (Or.inr (Or.inl ⟨rfl, rfl, fun v M' h => h.1⟩))))) ?_
      refine xj_aload_n (i := 0) d8_12_0 rfl rfl ?_
      refine xj_aload_n (i := 0) d8_12_1 rfl rfl ?_
      refine xj_get d8_12_2 f8_30_4 kR (by omega) (show rd < M.1 by omega) rfl ?_
      refine xj_callV (rest := []) (As := [.int (nI a)]) (b := rd) (xDigitV hg hxn (M := M) (k := a) (V := nI d1) (by omega) (by omega) (by omega) kR k18 (by omega) hpl hpx hPR hd1b) d8_12_5 wd8_13 kR (by omega) (show rd < M.1 by omega) rfl s8_13 w528 (Or.inl w526) rfl rfl (Nat.le_of_ble_eq_true rfl) (by omega) (by omega) (by omega) ?_
      rintro v M' ⟨rfl, hm⟩
      subst M'
      refine xj_istore_n (i := 1) (L' := [(1, .int (nI d1)), (0, .ref rd)]) d8_12_8 rfl (by decide) rfl ?_
      refine xj_aload_n (i := 0) d8_12_9 rfl rfl ?_
      refine xj_aload_n (i := 0) d8_12_10 rfl rfl ?_
      refine xj_get d8_12_11 f8_30_4 kR (by omega) (show rd < M.1 by omega) rfl ?_
      refine xj_iconst (v := 2) d8_12_14 (by decide) ?_
      refine xj_iadd (v := nI (a + 2)) d8_12_15 (nI_add a 2) ?_
      refine xj_callV (rest := []) (As := [.int (nI (a + 2))]) (b := rd) (xDigitV hg hxn (M := M) (k := a + 2) (V := nI d2) (by omega) (by omega) (by omega) kR k18 (by omega) hpl hpx hPR hd2b) d8_12_16 wd8_13 kR (by omega) (show rd < M.1 by omega) rfl s8_13 w528 (Or.inl w526) rfl rfl (Nat.le_of_ble_eq_true rfl) (by omega) (by omega) (by omega) ?_
      rintro v M' ⟨rfl, hm⟩
      subst M'
      refine xj_istore_n (i := 2) (L' := [(2, .int (nI d2)), (1, .int (nI d1)), (0, .ref rd)]) d8_12_19 rfl (by decide) rfl ?_
      refine xj_iload_n (i := 1) d8_12_20 rfl rfl ?_
      refine xj_iconst (v := (-1)) d8_12_21 (by decide) ?_
      refine xj_icmp_ne (tgt := 33) d8_12_22 rfl (fun _ => ?_) (fun h => absurd h (fun q => absurd (show (-1 : Int32) < 0 by decide) (by rw [← q]; exact nI_pos (by omega))))
      refine xj_aload_n (i := 0) d8_12_33 rfl rfl ?_
      refine xj_aload_n (i := 0) d8_12_34 rfl rfl ?_
      refine xj_get d8_12_35 f8_30_4 kR (by omega) (show rd < M.1 by omega) rfl ?_
      refine xj_iconst (v := 1) d8_12_38 (by decide) ?_
      refine xj_iadd (v := nI (a + 1)) d8_12_39 (nI_1 _) ?_
      refine xj_callV (rest := []) (As := [.int (nI (a + 1))]) (b := rd) (xPeekV hg hxn (M := M) (k := a + 1) (V := pch fp pl (a + 1)) (by omega) (by omega) (by omega) kR k18 (by omega) hpl hpx hPR rfl) d8_12_40 wd8_6 kR (by omega) (show rd < M.1 by omega) rfl s8_6 w532 (Or.inl w530) rfl rfl (Nat.le_of_ble_eq_true rfl) (by omega) (by omega) (by omega) ?_
      rintro v M' ⟨rfl, hm⟩
      subst M'
      refine xj_bipush (v := 125) d8_12_43 (by decide) ?_
      refine xj_icmp_ne (tgt := 70) d8_12_45 rfl (fun h1 => ?_) (fun h1 => ?_)
      · refine xj_aload_n (i := 0) d8_12_70 rfl rfl ?_
        refine xj_aload_n (i := 0) d8_12_71 rfl rfl ?_
        refine xj_get d8_12_72 f8_30_4 kR (by omega) (show rd < M.1 by omega) rfl ?_
        refine xj_iconst (v := 1) d8_12_75 (by decide) ?_
        refine xj_iadd (v := nI (a + 1)) d8_12_76 (nI_1 _) ?_
        refine xj_callV (rest := []) (As := [.int (nI (a + 1))]) (b := rd) (xPeekV hg hxn (M := M) (k := a + 1) (V := pch fp pl (a + 1)) (by omega) (by omega) (by omega) kR k18 (by omega) hpl hpx hPR rfl) d8_12_77 wd8_6 kR (by omega) (show rd < M.1 by omega) rfl s8_6 w532 (Or.inl w530) rfl rfl (Nat.le_of_ble_eq_true rfl) (by omega) (by omega) (by omega) ?_
        rintro v M' ⟨rfl, hm⟩
        subst M'
        refine xj_bipush (v := 44) d8_12_80 (by decide) ?_
        refine xj_icmp_eq (tgt := 93) d8_12_82 rfl (fun h2 => ?_) (fun h2 => ?_)
        · refine xj_aload_n (i := 0) d8_12_93 rfl rfl ?_
          refine xj_aload_n (i := 0) d8_12_94 rfl rfl ?_
          refine xj_get d8_12_95 f8_30_4 kR (by omega) (show rd < M.1 by omega) rfl ?_
          refine xj_iconst (v := 2) d8_12_98 (by decide) ?_
          refine xj_iadd (v := nI (a + 2)) d8_12_99 (nI_add a 2) ?_
          refine xj_callV (rest := []) (As := [.int (nI (a + 2))]) (b := rd) (xPeekV hg hxn (M := M) (k := a + 2) (V := pch fp pl (a + 2)) (by omega) (by omega) (by omega) kR k18 (by omega) hpl hpx hPR rfl) d8_12_100 wd8_6 kR (by omega) (show rd < M.1 by omega) rfl s8_6 w532 (Or.inl w530) rfl rfl (Nat.le_of_ble_eq_true rfl) (by omega) (by omega) (by omega) ?_
          rintro v M' ⟨rfl, hm⟩
          subst M'
          refine xj_bipush (v := 125) d8_12_103 (by decide) ?_
          refine xj_icmp_ne (tgt := 130) d8_12_105 rfl (fun h3 => ?_) (fun h3 => ?_)
          · refine xj_iload_n (i := 2) d8_12_130 rfl rfl ?_
            refine xj_iload_n (i := 1) d8_12_131 rfl rfl ?_
            refine xj_icmp_lt (tgt := 172) d8_12_132 rfl (fun h4 => ?_) (fun h4 => ?_)
            · refine xj_aload_n (i := 0) d8_12_172 rfl rfl ?_
              refine xj_iconst (v := 4) d8_12_173 (by decide) ?_
              refine xj_put (a := rd) (fs' := [.ref (gA 0), .int 4, .ref 18, .int (nI pl), .int (nI a), .ref ga, .int (nI r.length)]) d8_12_174 f8_33_4 kR (by omega) (show rd < M.1 by omega) (Nat.le_of_ble_eq_true rfl) rfl rfl rfl ?_
              refine xj_abs_set (fun M1 hs1 ha1 ho1 => ?_)
              have hpb : pBraces fp pl (a, 0, A, (t1, l ++ [e]) :: r) = pFau (a, 0, A, (t1, l ++ [e]) :: r) 4 := by
                unfold pBraces
                rw [if_neg (fun q => q hd), show pch fp pl (a, (0 : Int32), A, (t1, l ++ [e]) :: r).1 - 48 = nI d1 from hd1]
                rw [if_neg h1, if_neg (fun q => h3 q.2), if_neg (fun q => absurd q.2.2.1 (by rw [show pch fp pl (a + 2) - 48 = nI d2 from hd2a]; exact Int32.not_le.mpr h4))]
              exact xj_ret d8_12_177 (by omega) (by omega) rfl ⟨rfl, (by rw [hpb]; exact ⟨fun q => absurd q (show ¬ (4 : Int32) = 0 by decide), fun _ => cH_F hH (by omega) (by omega) ha1 (fun y hy => (ho1 y (by omega)))⟩)⟩
            · refine xj_aload_n (i := 0) d8_12_135 rfl rfl ?_
              refine xj_aload_n (i := 0) d8_12_136 rfl rfl ?_
              refine xj_get d8_12_137 f8_30_4 kR (by omega) (show rd < M.1 by omega) rfl ?_
              refine xj_iconst (v := 3) d8_12_140 (by decide) ?_
              refine xj_iadd (v := nI (a + 3)) d8_12_141 (nI_add a 3) ?_
              refine xj_callV (rest := []) (As := [.int (nI (a + 3))]) (b := rd) (xPeekV hg hxn (M := M) (k := a + 3) (V := pch fp pl (a + 3)) (by omega) (by omega) (by omega) kR k18 (by omega) hpl hpx hPR rfl) d8_12_142 wd8_6 kR (by omega) (show rd < M.1 by omega) rfl s8_6 w532 (Or.inl w530) rfl rfl (Nat.le_of_ble_eq_true rfl) (by omega) (by omega) (by omega) ?_
              rintro v M' ⟨rfl, hm⟩
              subst M'
              refine xj_bipush (v := 125) d8_12_145 (by decide) ?_
              refine xj_icmp_ne (tgt := 172) d8_12_147 rfl (fun h6 => ?_) (fun h6 => ?_)
              · refine xj_aload_n (i := 0) d8_12_172 rfl rfl ?_
                refine xj_iconst (v := 4) d8_12_173 (by decide) ?_
                refine xj_put (a := rd) (fs' := [.ref (gA 0), .int 4, .ref 18, .int (nI pl), .int (nI a), .ref ga, .int (nI r.length)]) d8_12_174 f8_33_4 kR (by omega) (show rd < M.1 by omega) (Nat.le_of_ble_eq_true rfl) rfl rfl rfl ?_
                refine xj_abs_set (fun M2 hs2 ha2 ho2 => ?_)
                have hpb : pBraces fp pl (a, 0, A, (t1, l ++ [e]) :: r) = pFau (a, 0, A, (t1, l ++ [e]) :: r) 4 := by
                  unfold pBraces
                  rw [if_neg (fun q => q hd), show pch fp pl (a, (0 : Int32), A, (t1, l ++ [e]) :: r).1 - 48 = nI d1 from hd1]
                  rw [if_neg h1, if_neg (fun q => h3 q.2), if_neg (fun q => h6 q.2.2.2)]
                exact xj_ret d8_12_177 (by omega) (by omega) rfl ⟨rfl, (by rw [hpb]; exact ⟨fun q => absurd q (show ¬ (4 : Int32) = 0 by decide), fun _ => cH_F hH (by omega) (by omega) ha2 (fun y hy => (ho2 y (by omega)))⟩)⟩
              · refine xj_aload_n (i := 0) d8_12_150 rfl rfl ?_
                refine xj_callV (rest := []) (As := []) (b := rd) (bBr hg (M := M) (n := M.1) (rd := rd) (gw := gA 0) (ft := 0) (pl := pl) (a := a) (ga := ga) (og := r.length) (fg := fg) (g := gA r.length) (bl := bl) (b := bA r.length) (gv := .null) rfl (by omega) (by omega) (by omega) kR (by omega) (by omega) kgs (by omega) (by omega) kgo (by omega) efg) d8_12_151 wd8_5 kR (by omega) (show rd < M.1 by omega) rfl s8_5 w450 (Or.inl w448) rfl rfl (Nat.le_of_ble_eq_true rfl) (by omega) (by omega) (by omega) ?_
                rintro v M' ⟨rfl, hm⟩
                subst M'
                refine xj_iload_n (i := 1) d8_12_154 rfl rfl ?_
                refine xj_iload_n (i := 2) d8_12_155 rfl rfl ?_
                refine xj_callV (rest := []) (As := [.int (nI d1), .int (nI d2)]) (b := bA r.length) (cRepXN hg hxn hZ hT (ls := nI d1) (w9 := pTim (nI d1) (nI d2) * ((pNd A e).2.1 + 1)) (m9 := d2) (by omega) hH (pZ_Y hZp) h5) d8_12_156 wd3_5 kbo (by omega) (show bA r.length < M.1 by omega) rfl w483 w482 (Or.inl w481) rfl rfl (Nat.le_of_ble_eq_true rfl) (by omega) (by omega) (by omega) ?_
                rintro v M9 ⟨rfl, hE9⟩
                obtain ⟨ga9, gw9, kR9, dd1, dd2, hat9⟩ := cHe_at hE9
                replace kR9 : M9.2 rd = (.inr (4, [.ref gw9, .int 0, .ref 18, .int (nI pl), .int (nI a), .ref ga9, .int (nI r.length)])) := kR9
                refine xj_aload_n (i := 0) d8_12_159 rfl rfl ?_
                refine xj_dup d8_12_160 rfl ?_
                refine xj_get d8_12_161 f8_30_4 kR9 (by omega) (show rd < M9.1 by omega) rfl ?_
                refine xj_iconst (v := 4) d8_12_164 (by decide) ?_
                refine xj_iadd (v := nI (a + 4)) d8_12_165 (nI_add a 4) ?_
                refine xj_put (a := rd) (fs' := [.ref gw9, .int 0, .ref 18, .int (nI pl), .int (nI (a + 4)), .ref ga9, .int (nI r.length)]) d8_12_166 f8_30_4 kR9 (by omega) (show rd < M9.1 by omega) (Nat.le_of_ble_eq_true rfl) rfl rfl rfl ?_
                refine xj_abs_set (fun M3 hs3 ha3 ho3 => ?_)
                refine xj_goto (tgt := 177) d8_12_169 rfl ?_
                have hin := pch_in h6 (by decide)
                have h4' : nI d1 ≤ nI d2 := Int32.not_lt.mp h4
                have hdd : d1 ≤ d2 := Classical.byContradiction fun q => absurd h4' (nI_ge (by omega) (by omega))
                have hpb : pBraces fp pl (a, 0, A, (t1, l ++ [e]) :: r) = pAt (pRep (a, 0, A, (t1, l ++ [e]) :: r) (nI d1) (nI d2)) 4 := by
                  unfold pBraces
                  rw [if_neg (fun q => q hd), show pch fp pl (a, (0 : Int32), A, (t1, l ++ [e]) :: r).1 - 48 = nI d1 from hd1]
                  rw [if_neg h1, if_neg (fun q => h3 q.2), if_pos ⟨h2, hd2, (show nI d1 ≤ pch fp pl (a + 2) - 48 by rw [hd2a]; exact h4'), h6⟩, show pch fp pl (a + 2) - 48 = nI d2 from hd2a]
                rw [pRep_eq] at hpb
                have hZ2 := pZ_rep (k := d1) (m9 := nI d1) (n9 := nI d2) (x' := 0) (a' := a + 4) hZp (by omega) rfl (Or.inr ⟨d2, hdd, hd29, rfl⟩) rfl (nI_clamp (by omega)) (by omega) (by omega) (by omega)
                have hE10 : cHe rd M0 pl M3 (a + 4, 0, A ++ [(4, pTim (nI d1) (nI d2) * ((pNd A e).2.1 + 1), [e], nI d1, nI d2, pNo)], (t1, l ++ [A.length]) :: r) := hat9 M3 (a + 4) (show M3.1 = M9.1 by omega) ha3 (fun y hy => (ho3 y (by omega)))
                exact xj_ret d8_12_177 (by omega) (by omega) rfl ⟨rfl, (by rw [hpb]; exact ⟨fun _ => ⟨hE10, _, hZ2⟩, fun q => absurd rfl q⟩)⟩
          · refine xj_aload_n (i := 0) d8_12_108 rfl rfl ?_
            refine xj_callV (rest := []) (As := []) (b := rd) (bBr hg (M := M) (n := M.1) (rd := rd) (gw := gA 0) (ft := 0) (pl := pl) (a := a) (ga := ga) (og := r.length) (fg := fg) (g := gA r.length) (bl := bl) (b := bA r.length) (gv := .null) rfl (by omega) (by omega) (by omega) kR (by omega) (by omega) kgs (by omega) (by omega) kgo (by omega) efg) d8_12_109 wd8_5 kR (by omega) (show rd < M.1 by omega) rfl s8_5 w450 (Or.inl w448) rfl rfl (Nat.le_of_ble_eq_true rfl) (by omega) (by omega) (by omega) ?_
            rintro v M' ⟨rfl, hm⟩
            subst M'
            refine xj_iload_n (i := 1) d8_12_112 rfl rfl ?_
            refine xj_iconst (v := (-1)) d8_12_113 (by decide) ?_
            refine xj_callV (rest := []) (As := [.int (nI d1), .int (-1)]) (b := bA r.length) (cRepXE hg hxn hZ hT (ls := nI d1) (w9 := pTim (nI d1) (-1) * ((pNd A e).2.1 + 1)) hH (pZ_Y hZp) h5) d8_12_114 wd3_5 kbo (by omega) (show bA r.length < M.1 by omega) rfl w483 w482 (Or.inl w481) rfl rfl (Nat.le_of_ble_eq_true rfl) (by omega) (by omega) (by omega) ?_
            rintro v M9 ⟨rfl, hE9⟩
            obtain ⟨ga9, gw9, kR9, dd1, dd2, hat9⟩ := cHe_at hE9
            replace kR9 : M9.2 rd = (.inr (4, [.ref gw9, .int 0, .ref 18, .int (nI pl), .int (nI a), .ref ga9, .int (nI r.length)])) := kR9
            refine xj_aload_n (i := 0) d8_12_117 rfl rfl ?_
            refine xj_dup d8_12_118 rfl ?_
            refine xj_get d8_12_119 f8_30_4 kR9 (by omega) (show rd < M9.1 by omega) rfl ?_
            refine xj_iconst (v := 3) d8_12_122 (by decide) ?_
            refine xj_iadd (v := nI (a + 3)) d8_12_123 (nI_add a 3) ?_
            refine xj_put (a := rd) (fs' := [.ref gw9, .int 0, .ref 18, .int (nI pl), .int (nI (a + 3)), .ref ga9, .int (nI r.length)]) d8_12_124 f8_30_4 kR9 (by omega) (show rd < M9.1 by omega) (Nat.le_of_ble_eq_true rfl) rfl rfl rfl ?_
            refine xj_abs_set (fun M4 hs4 ha4 ho4 => ?_)
            refine xj_goto (tgt := 177) d8_12_127 rfl ?_
            have hin := pch_in h3 (by decide)
            have hpb : pBraces fp pl (a, 0, A, (t1, l ++ [e]) :: r) = pAt (pRep (a, 0, A, (t1, l ++ [e]) :: r) (nI d1) (-1)) 3 := by
              unfold pBraces
              rw [if_neg (fun q => q hd), show pch fp pl (a, (0 : Int32), A, (t1, l ++ [e]) :: r).1 - 48 = nI d1 from hd1]
              rw [if_neg h1, if_pos ⟨h2, h3⟩]
            rw [pRep_eq] at hpb
            have hZ2 := pZ_rep (k := d1) (m9 := nI d1) (n9 := -1) (x' := 0) (a' := a + 3) hZp (by omega) rfl (Or.inl rfl) rfl (nI_clamp (by omega)) (by omega) (by omega) (by omega)
            have hE10 : cHe rd M0 pl M4 (a + 3, 0, A ++ [(4, pTim (nI d1) (-1) * ((pNd A e).2.1 + 1), [e], nI d1, -1, pNo)], (t1, l ++ [A.length]) :: r) := hat9 M4 (a + 3) (show M4.1 = M9.1 by omega) ha4 (fun y hy => (ho4 y (by omega)))
            exact xj_ret d8_12_177 (by omega) (by omega) rfl ⟨rfl, (by rw [hpb]; exact ⟨fun _ => ⟨hE10, _, hZ2⟩, fun q => absurd rfl q⟩)⟩
        · refine xj_aload_n (i := 0) d8_12_85 rfl rfl ?_
          refine xj_iconst (v := 4) d8_12_86 (by decide) ?_
          refine xj_put (a := rd) (fs' := [.ref (gA 0), .int 4, .ref 18, .int (nI pl), .int (nI a), .ref ga, .int (nI r.length)]) d8_12_87 f8_33_4 kR (by omega) (show rd < M.1 by omega) (Nat.le_of_ble_eq_true rfl) rfl rfl rfl ?_
          refine xj_abs_set (fun M5 hs5 ha5 ho5 => ?_)
          refine xj_goto (tgt := 177) d8_12_90 rfl ?_
          have hpb : pBraces fp pl (a, 0, A, (t1, l ++ [e]) :: r) = pFau (a, 0, A, (t1, l ++ [e]) :: r) 4 := by
            unfold pBraces
            rw [if_neg (fun q => q hd), show pch fp pl (a, (0 : Int32), A, (t1, l ++ [e]) :: r).1 - 48 = nI d1 from hd1]
            rw [if_neg h1, if_neg (fun q => h2 q.1), if_neg (fun q => h2 q.1)]
          exact xj_ret d8_12_177 (by omega) (by omega) rfl ⟨rfl, (by rw [hpb]; exact ⟨fun q => absurd q (show ¬ (4 : Int32) = 0 by decide), fun _ => cH_F hH (by omega) (by omega) ha5 (fun y hy => (ho5 y (by omega)))⟩)⟩
      · refine xj_aload_n (i := 0) d8_12_48 rfl rfl ?_
        refine xj_callV (rest := []) (As := []) (b := rd) (bBr hg (M := M) (n := M.1) (rd := rd) (gw := gA 0) (ft := 0) (pl := pl) (a := a) (ga := ga) (og := r.length) (fg := fg) (g := gA r.length) (bl := bl) (b := bA r.length) (gv := .null) rfl (by omega) (by omega) (by omega) kR (by omega) (by omega) kgs (by omega) (by omega) kgo (by omega) efg) d8_12_49 wd8_5 kR (by omega) (show rd < M.1 by omega) rfl s8_5 w450 (Or.inl w448) rfl rfl (Nat.le_of_ble_eq_true rfl) (by omega) (by omega) (by omega) ?_
        rintro v M' ⟨rfl, hm⟩
        subst M'
        refine xj_iload_n (i := 1) d8_12_52 rfl rfl ?_
        refine xj_iload_n (i := 1) d8_12_53 rfl rfl ?_
        refine xj_callV (rest := []) (As := [.int (nI d1), .int (nI d1)]) (b := bA r.length) (cRepXN hg hxn hZ hT (ls := nI d1) (w9 := pTim (nI d1) (nI d1) * ((pNd A e).2.1 + 1)) (m9 := d1) (by omega) hH (pZ_Y hZp) h5) d8_12_54 wd3_5 kbo (by omega) (show bA r.length < M.1 by omega) rfl w483 w482 (Or.inl w481) rfl rfl (Nat.le_of_ble_eq_true rfl) (by omega) (by omega) (by omega) ?_
        rintro v M9 ⟨rfl, hE9⟩
        obtain ⟨ga9, gw9, kR9, dd1, dd2, hat9⟩ := cHe_at hE9
        replace kR9 : M9.2 rd = (.inr (4, [.ref gw9, .int 0, .ref 18, .int (nI pl), .int (nI a), .ref ga9, .int (nI r.length)])) := kR9
        refine xj_aload_n (i := 0) d8_12_57 rfl rfl ?_
        refine xj_dup d8_12_58 rfl ?_
        refine xj_get d8_12_59 f8_30_4 kR9 (by omega) (show rd < M9.1 by omega) rfl ?_
        refine xj_iconst (v := 2) d8_12_62 (by decide) ?_
        refine xj_iadd (v := nI (a + 2)) d8_12_63 (nI_add a 2) ?_
        refine xj_put (a := rd) (fs' := [.ref gw9, .int 0, .ref 18, .int (nI pl), .int (nI (a + 2)), .ref ga9, .int (nI r.length)]) d8_12_64 f8_30_4 kR9 (by omega) (show rd < M9.1 by omega) (Nat.le_of_ble_eq_true rfl) rfl rfl rfl ?_
        refine xj_abs_set (fun M6 hs6 ha6 ho6 => ?_)
        refine xj_goto (tgt := 177) d8_12_67 rfl ?_
        have hin := pch_in h1 (by decide)
        have hpb : pBraces fp pl (a, 0, A, (t1, l ++ [e]) :: r) = pAt (pRep (a, 0, A, (t1, l ++ [e]) :: r) (nI d1) (nI d1)) 2 := by
          unfold pBraces
          rw [if_neg (fun q => q hd), show pch fp pl (a, (0 : Int32), A, (t1, l ++ [e]) :: r).1 - 48 = nI d1 from hd1]
          rw [if_pos h1]
        rw [pRep_eq] at hpb
        have hZ2 := pZ_rep (k := d1) (m9 := nI d1) (n9 := nI d1) (x' := 0) (a' := a + 2) hZp (by omega) rfl (Or.inr ⟨d1, Nat.le_refl _, hd9, rfl⟩) rfl (nI_clamp (by omega)) (by omega) (by omega) (by omega)
        have hE10 : cHe rd M0 pl M6 (a + 2, 0, A ++ [(4, pTim (nI d1) (nI d1) * ((pNd A e).2.1 + 1), [e], nI d1, nI d1, pNo)], (t1, l ++ [A.length]) :: r) := hat9 M6 (a + 2) (show M6.1 = M9.1 by omega) ha6 (fun y hy => (ho6 y (by omega)))
        exact xj_ret d8_12_177 (by omega) (by omega) rfl ⟨rfl, (by rw [hpb]; exact ⟨fun _ => ⟨hE10, _, hZ2⟩, fun q => absurd rfl q⟩)⟩
    · refine xc_of hg (by decide) (Nat.le_of_ble_eq_true rfl) (Or.inr (Or.inr (Or.inr (Or.inr (Or.inl ⟨rfl, rfl, fun v M' h => h.1⟩))))) ?_
      refine xj_aload_n (i := 0) d8_12_0 rfl rfl ?_
      refine xj_aload_n (i := 0) d8_12_1 rfl rfl ?_
      refine xj_get d8_12_2 f8_30_4 kR (by omega) (show rd < M.1 by omega) rfl ?_
      refine xj_callV (rest := []) (As := [.int (nI a)]) (b := rd) (xDigitV hg hxn (M := M) (k := a) (V := nI d1) (by omega) (by omega) (by omega) kR k18 (by omega) hpl hpx hPR hd1b) d8_12_5 wd8_13 kR (by omega) (show rd < M.1 by omega) rfl s8_13 w528 (Or.inl w526) rfl rfl (Nat.le_of_ble_eq_true rfl) (by omega) (by omega) (by omega) ?_
      rintro v M' ⟨rfl, hm⟩
      subst M'
      refine xj_istore_n (i := 1) (L' := [(1, .int (nI d1)), (0, .ref rd)]) d8_12_8 rfl (by decide) rfl ?_
      refine xj_aload_n (i := 0) d8_12_9 rfl rfl ?_
      refine xj_aload_n (i := 0) d8_12_10 rfl rfl ?_
      refine xj_get d8_12_11 f8_30_4 kR (by omega) (show rd < M.1 by omega) rfl ?_
      refine xj_iconst (v := 2) d8_12_14 (by decide) ?_
      refine xj_iadd (v := nI (a + 2)) d8_12_15 (nI_add a 2) ?_
      refine xj_callV (rest := []) (As := [.int (nI (a + 2))]) (b := rd) (xDigitV hg hxn (M := M) (k := a + 2) (V := (-1)) (by omega) (by omega) (by omega) kR k18 (by omega) hpl hpx hPR (pDgv_no hd2)) d8_12_16 wd8_13 kR (by omega) (show rd < M.1 by omega) rfl s8_13 w528 (Or.inl w526) rfl rfl (Nat.le_of_ble_eq_true rfl) (by omega) (by omega) (by omega) ?_
      rintro v M' ⟨rfl, hm⟩
      subst M'
      refine xj_istore_n (i := 2) (L' := [(2, .int (-1)), (1, .int (nI d1)), (0, .ref rd)]) d8_12_19 rfl (by decide) rfl ?_
      refine xj_iload_n (i := 1) d8_12_20 rfl rfl ?_
      refine xj_iconst (v := (-1)) d8_12_21 (by decide) ?_
      refine xj_icmp_ne (tgt := 33) d8_12_22 rfl (fun _ => ?_) (fun h => absurd h (fun q => absurd (show (-1 : Int32) < 0 by decide) (by rw [← q]; exact nI_pos (by omega))))
      refine xj_aload_n (i := 0) d8_12_33 rfl rfl ?_
      refine xj_aload_n (i := 0) d8_12_34 rfl rfl ?_
      refine xj_get d8_12_35 f8_30_4 kR (by omega) (show rd < M.1 by omega) rfl ?_
      refine xj_iconst (v := 1) d8_12_38 (by decide) ?_
      refine xj_iadd (v := nI (a + 1)) d8_12_39 (nI_1 _) ?_
      refine xj_callV (rest := []) (As := [.int (nI (a + 1))]) (b := rd) (xPeekV hg hxn (M := M) (k := a + 1) (V := pch fp pl (a + 1)) (by omega) (by omega) (by omega) kR k18 (by omega) hpl hpx hPR rfl) d8_12_40 wd8_6 kR (by omega) (show rd < M.1 by omega) rfl s8_6 w532 (Or.inl w530) rfl rfl (Nat.le_of_ble_eq_true rfl) (by omega) (by omega) (by omega) ?_
      rintro v M' ⟨rfl, hm⟩
      subst M'
      refine xj_bipush (v := 125) d8_12_43 (by decide) ?_
      refine xj_icmp_ne (tgt := 70) d8_12_45 rfl (fun h1 => ?_) (fun h1 => ?_)
      · refine xj_aload_n (i := 0) d8_12_70 rfl rfl ?_
        refine xj_aload_n (i := 0) d8_12_71 rfl rfl ?_
        refine xj_get d8_12_72 f8_30_4 kR (by omega) (show rd < M.1 by omega) rfl ?_
        refine xj_iconst (v := 1) d8_12_75 (by decide) ?_
        refine xj_iadd (v := nI (a + 1)) d8_12_76 (nI_1 _) ?_
        refine xj_callV (rest := []) (As := [.int (nI (a + 1))]) (b := rd) (xPeekV hg hxn (M := M) (k := a + 1) (V := pch fp pl (a + 1)) (by omega) (by omega) (by omega) kR k18 (by omega) hpl hpx hPR rfl) d8_12_77 wd8_6 kR (by omega) (show rd < M.1 by omega) rfl s8_6 w532 (Or.inl w530) rfl rfl (Nat.le_of_ble_eq_true rfl) (by omega) (by omega) (by omega) ?_
        rintro v M' ⟨rfl, hm⟩
        subst M'
        refine xj_bipush (v := 44) d8_12_80 (by decide) ?_
        refine xj_icmp_eq (tgt := 93) d8_12_82 rfl (fun h2 => ?_) (fun h2 => ?_)
        · refine xj_aload_n (i := 0) d8_12_93 rfl rfl ?_
          refine xj_aload_n (i := 0) d8_12_94 rfl rfl ?_
          refine xj_get d8_12_95 f8_30_4 kR (by omega) (show rd < M.1 by omega) rfl ?_
          refine xj_iconst (v := 2) d8_12_98 (by decide) ?_
          refine xj_iadd (v := nI (a + 2)) d8_12_99 (nI_add a 2) ?_
          refine xj_callV (rest := []) (As := [.int (nI (a + 2))]) (b := rd) (xPeekV hg hxn (M := M) (k := a + 2) (V := pch fp pl (a + 2)) (by omega) (by omega) (by omega) kR k18 (by omega) hpl hpx hPR rfl) d8_12_100 wd8_6 kR (by omega) (show rd < M.1 by omega) rfl s8_6 w532 (Or.inl w530) rfl rfl (Nat.le_of_ble_eq_true rfl) (by omega) (by omega) (by omega) ?_
          rintro v M' ⟨rfl, hm⟩
          subst M'
          refine xj_bipush (v := 125) d8_12_103 (by decide) ?_
          refine xj_icmp_ne (tgt := 130) d8_12_105 rfl (fun h3 => ?_) (fun h3 => ?_)
          · refine xj_iload_n (i := 2) d8_12_130 rfl rfl ?_
            refine xj_iload_n (i := 1) d8_12_131 rfl rfl ?_
            refine xj_icmp_lt (tgt := 172) d8_12_132 rfl (fun _ => ?_) (fun h => absurd (Int32.lt_of_lt_of_le (show (-1 : Int32) < 0 by decide) (Int32.not_lt.mp (nI_pos (by omega)))) h)
            refine xj_aload_n (i := 0) d8_12_172 rfl rfl ?_
            refine xj_iconst (v := 4) d8_12_173 (by decide) ?_
            refine xj_put (a := rd) (fs' := [.ref (gA 0), .int 4, .ref 18, .int (nI pl), .int (nI a), .ref ga, .int (nI r.length)]) d8_12_174 f8_33_4 kR (by omega) (show rd < M.1 by omega) (Nat.le_of_ble_eq_true rfl) rfl rfl rfl ?_
            refine xj_abs_set (fun M1 hs1 ha1 ho1 => ?_)
            have hpb : pBraces fp pl (a, 0, A, (t1, l ++ [e]) :: r) = pFau (a, 0, A, (t1, l ++ [e]) :: r) 4 := by
              unfold pBraces
              rw [if_neg (fun q => q hd), show pch fp pl (a, (0 : Int32), A, (t1, l ++ [e]) :: r).1 - 48 = nI d1 from hd1]
              rw [if_neg h1, if_neg (fun q => h3 q.2), if_neg (fun q => hd2 q.2.1)]
            exact xj_ret d8_12_177 (by omega) (by omega) rfl ⟨rfl, (by rw [hpb]; exact ⟨fun q => absurd q (show ¬ (4 : Int32) = 0 by decide), fun _ => cH_F hH (by omega) (by omega) ha1 (fun y hy => (ho1 y (by omega)))⟩)⟩
          · refine xj_aload_n (i := 0) d8_12_108 rfl rfl ?_
            refine xj_callV (rest := []) (As := []) (b := rd) (bBr hg (M := M) (n := M.1) (rd := rd) (gw := gA 0) (ft := 0) (pl := pl) (a := a) (ga := ga) (og := r.length) (fg := fg) (g := gA r.length) (bl := bl) (b := bA r.length) (gv := .null) rfl (by omega) (by omega) (by omega) kR (by omega) (by omega) kgs (by omega) (by omega) kgo (by omega) efg) d8_12_109 wd8_5 kR (by omega) (show rd < M.1 by omega) rfl s8_5 w450 (Or.inl w448) rfl rfl (Nat.le_of_ble_eq_true rfl) (by omega) (by omega) (by omega) ?_
            rintro v M' ⟨rfl, hm⟩
            subst M'
            refine xj_iload_n (i := 1) d8_12_112 rfl rfl ?_
            refine xj_iconst (v := (-1)) d8_12_113 (by decide) ?_
            refine xj_callV (rest := []) (As := [.int (nI d1), .int (-1)]) (b := bA r.length) (cRepXE hg hxn hZ hT (ls := nI d1) (w9 := pTim (nI d1) (-1) * ((pNd A e).2.1 + 1)) hH (pZ_Y hZp) h5) d8_12_114 wd3_5 kbo (by omega) (show bA r.length < M.1 by omega) rfl w483 w482 (Or.inl w481) rfl rfl (Nat.le_of_ble_eq_true rfl) (by omega) (by omega) (by omega) ?_
            rintro v M9 ⟨rfl, hE9⟩
            obtain ⟨ga9, gw9, kR9, dd1, dd2, hat9⟩ := cHe_at hE9
            replace kR9 : M9.2 rd = (.inr (4, [.ref gw9, .int 0, .ref 18, .int (nI pl), .int (nI a), .ref ga9, .int (nI r.length)])) := kR9
            refine xj_aload_n (i := 0) d8_12_117 rfl rfl ?_
            refine xj_dup d8_12_118 rfl ?_
            refine xj_get d8_12_119 f8_30_4 kR9 (by omega) (show rd < M9.1 by omega) rfl ?_
            refine xj_iconst (v := 3) d8_12_122 (by decide) ?_
            refine xj_iadd (v := nI (a + 3)) d8_12_123 (nI_add a 3) ?_
            refine xj_put (a := rd) (fs' := [.ref gw9, .int 0, .ref 18, .int (nI pl), .int (nI (a + 3)), .ref ga9, .int (nI r.length)]) d8_12_124 f8_30_4 kR9 (by omega) (show rd < M9.1 by omega) (Nat.le_of_ble_eq_true rfl) rfl rfl rfl ?_
            refine xj_abs_set (fun M2 hs2 ha2 ho2 => ?_)
            refine xj_goto (tgt := 177) d8_12_127 rfl ?_
            have hin := pch_in h3 (by decide)
            have hpb : pBraces fp pl (a, 0, A, (t1, l ++ [e]) :: r) = pAt (pRep (a, 0, A, (t1, l ++ [e]) :: r) (nI d1) (-1)) 3 := by
              unfold pBraces
              rw [if_neg (fun q => q hd), show pch fp pl (a, (0 : Int32), A, (t1, l ++ [e]) :: r).1 - 48 = nI d1 from hd1]
              rw [if_neg h1, if_pos ⟨h2, h3⟩]
            rw [pRep_eq] at hpb
            have hZ2 := pZ_rep (k := d1) (m9 := nI d1) (n9 := -1) (x' := 0) (a' := a + 3) hZp (by omega) rfl (Or.inl rfl) rfl (nI_clamp (by omega)) (by omega) (by omega) (by omega)
            have hE10 : cHe rd M0 pl M2 (a + 3, 0, A ++ [(4, pTim (nI d1) (-1) * ((pNd A e).2.1 + 1), [e], nI d1, -1, pNo)], (t1, l ++ [A.length]) :: r) := hat9 M2 (a + 3) (show M2.1 = M9.1 by omega) ha2 (fun y hy => (ho2 y (by omega)))
            exact xj_ret d8_12_177 (by omega) (by omega) rfl ⟨rfl, (by rw [hpb]; exact ⟨fun _ => ⟨hE10, _, hZ2⟩, fun q => absurd rfl q⟩)⟩
        · refine xj_aload_n (i := 0) d8_12_85 rfl rfl ?_
          refine xj_iconst (v := 4) d8_12_86 (by decide) ?_
          refine xj_put (a := rd) (fs' := [.ref (gA 0), .int 4, .ref 18, .int (nI pl), .int (nI a), .ref ga, .int (nI r.length)]) d8_12_87 f8_33_4 kR (by omega) (show rd < M.1 by omega) (Nat.le_of_ble_eq_true rfl) rfl rfl rfl ?_
          refine xj_abs_set (fun M3 hs3 ha3 ho3 => ?_)
          refine xj_goto (tgt := 177) d8_12_90 rfl ?_
          have hpb : pBraces fp pl (a, 0, A, (t1, l ++ [e]) :: r) = pFau (a, 0, A, (t1, l ++ [e]) :: r) 4 := by
            unfold pBraces
            rw [if_neg (fun q => q hd), show pch fp pl (a, (0 : Int32), A, (t1, l ++ [e]) :: r).1 - 48 = nI d1 from hd1]
            rw [if_neg h1, if_neg (fun q => h2 q.1), if_neg (fun q => h2 q.1)]
          exact xj_ret d8_12_177 (by omega) (by omega) rfl ⟨rfl, (by rw [hpb]; exact ⟨fun q => absurd q (show ¬ (4 : Int32) = 0 by decide), fun _ => cH_F hH (by omega) (by omega) ha3 (fun y hy => (ho3 y (by omega)))⟩)⟩
      · refine xj_aload_n (i := 0) d8_12_48 rfl rfl ?_
        refine xj_callV (rest := []) (As := []) (b := rd) (bBr hg (M := M) (n := M.1) (rd := rd) (gw := gA 0) (ft := 0) (pl := pl) (a := a) (ga := ga) (og := r.length) (fg := fg) (g := gA r.length) (bl := bl) (b := bA r.length) (gv := .null) rfl (by omega) (by omega) (by omega) kR (by omega) (by omega) kgs (by omega) (by omega) kgo (by omega) efg) d8_12_49 wd8_5 kR (by omega) (show rd < M.1 by omega) rfl s8_5 w450 (Or.inl w448) rfl rfl (Nat.le_of_ble_eq_true rfl) (by omega) (by omega) (by omega) ?_
        rintro v M' ⟨rfl, hm⟩
        subst M'
        refine xj_iload_n (i := 1) d8_12_52 rfl rfl ?_
        refine xj_iload_n (i := 1) d8_12_53 rfl rfl ?_
        refine xj_callV (rest := []) (As := [.int (nI d1), .int (nI d1)]) (b := bA r.length) (cRepXN hg hxn hZ hT (ls := nI d1) (w9 := pTim (nI d1) (nI d1) * ((pNd A e).2.1 + 1)) (m9 := d1) (by omega) hH (pZ_Y hZp) h5) d8_12_54 wd3_5 kbo (by omega) (show bA r.length < M.1 by omega) rfl w483 w482 (Or.inl w481) rfl rfl (Nat.le_of_ble_eq_true rfl) (by omega) (by omega) (by omega) ?_
        rintro v M9 ⟨rfl, hE9⟩
        obtain ⟨ga9, gw9, kR9, dd1, dd2, hat9⟩ := cHe_at hE9
        replace kR9 : M9.2 rd = (.inr (4, [.ref gw9, .int 0, .ref 18, .int (nI pl), .int (nI a), .ref ga9, .int (nI r.length)])) := kR9
        refine xj_aload_n (i := 0) d8_12_57 rfl rfl ?_
        refine xj_dup d8_12_58 rfl ?_
        refine xj_get d8_12_59 f8_30_4 kR9 (by omega) (show rd < M9.1 by omega) rfl ?_
        refine xj_iconst (v := 2) d8_12_62 (by decide) ?_
        refine xj_iadd (v := nI (a + 2)) d8_12_63 (nI_add a 2) ?_
        refine xj_put (a := rd) (fs' := [.ref gw9, .int 0, .ref 18, .int (nI pl), .int (nI (a + 2)), .ref ga9, .int (nI r.length)]) d8_12_64 f8_30_4 kR9 (by omega) (show rd < M9.1 by omega) (Nat.le_of_ble_eq_true rfl) rfl rfl rfl ?_
        refine xj_abs_set (fun M4 hs4 ha4 ho4 => ?_)
        refine xj_goto (tgt := 177) d8_12_67 rfl ?_
        have hin := pch_in h1 (by decide)
        have hpb : pBraces fp pl (a, 0, A, (t1, l ++ [e]) :: r) = pAt (pRep (a, 0, A, (t1, l ++ [e]) :: r) (nI d1) (nI d1)) 2 := by
          unfold pBraces
          rw [if_neg (fun q => q hd), show pch fp pl (a, (0 : Int32), A, (t1, l ++ [e]) :: r).1 - 48 = nI d1 from hd1]
          rw [if_pos h1]
        rw [pRep_eq] at hpb
        have hZ2 := pZ_rep (k := d1) (m9 := nI d1) (n9 := nI d1) (x' := 0) (a' := a + 2) hZp (by omega) rfl (Or.inr ⟨d1, Nat.le_refl _, hd9, rfl⟩) rfl (nI_clamp (by omega)) (by omega) (by omega) (by omega)
        have hE10 : cHe rd M0 pl M4 (a + 2, 0, A ++ [(4, pTim (nI d1) (nI d1) * ((pNd A e).2.1 + 1), [e], nI d1, nI d1, pNo)], (t1, l ++ [A.length]) :: r) := hat9 M4 (a + 2) (show M4.1 = M9.1 by omega) ha4 (fun y hy => (ho4 y (by omega)))
        exact xj_ret d8_12_177 (by omega) (by omega) rfl ⟨rfl, (by rw [hpb]; exact ⟨fun _ => ⟨hE10, _, hZ2⟩, fun q => absurd rfl q⟩)⟩
  · have hpb : pBraces fp pl (a, 0, A, (t1, l ++ [e]) :: r) = pFau (a, 0, A, (t1, l ++ [e]) :: r) 4 := if_pos hd
    refine xc_of hg (by decide) (Nat.le_of_ble_eq_true rfl) (Or.inr (Or.inr (Or.inr (Or.inr (Or.inl ⟨rfl, rfl, fun v M' h => h.1⟩))))) ?_
    refine xj_aload_n (i := 0) d8_12_0 rfl rfl ?_
    refine xj_aload_n (i := 0) d8_12_1 rfl rfl ?_
    refine xj_get d8_12_2 f8_30_4 kR (by omega) (show rd < M.1 by omega) rfl ?_
    refine xj_callV (rest := []) (As := [.int (nI a)]) (b := rd) (xDigitV hg hxn (M := M) (k := a) (V := (-1)) (by omega) (by omega) (by omega) kR k18 (by omega) hpl hpx hPR (pDgv_no hd)) d8_12_5 wd8_13 kR (by omega) (show rd < M.1 by omega) rfl s8_13 w528 (Or.inl w526) rfl rfl (Nat.le_of_ble_eq_true rfl) (by omega) (by omega) (by omega) ?_
    rintro v M' ⟨rfl, hm⟩
    subst M'
    refine xj_istore_n (i := 1) (L' := [(1, .int (-1)), (0, .ref rd)]) d8_12_8 rfl (by decide) rfl ?_
    refine xj_aload_n (i := 0) d8_12_9 rfl rfl ?_
    refine xj_aload_n (i := 0) d8_12_10 rfl rfl ?_
    refine xj_get d8_12_11 f8_30_4 kR (by omega) (show rd < M.1 by omega) rfl ?_
    refine xj_iconst (v := 2) d8_12_14 (by decide) ?_
    refine xj_iadd (v := nI (a + 2)) d8_12_15 (nI_add a 2) ?_
    refine xj_callV (rest := []) (As := [.int (nI (a + 2))]) (b := rd) (xDigitV hg hxn (M := M) (k := a + 2) (V := pDgv (pch fp pl (a + 2))) (by omega) (by omega) (by omega) kR k18 (by omega) hpl hpx hPR rfl) d8_12_16 wd8_13 kR (by omega) (show rd < M.1 by omega) rfl s8_13 w528 (Or.inl w526) rfl rfl (Nat.le_of_ble_eq_true rfl) (by omega) (by omega) (by omega) ?_
    rintro v M' ⟨rfl, hm⟩
    subst M'
    refine xj_istore_n (i := 2) (L' := [(2, .int (pDgv (pch fp pl (a + 2)))), (1, .int (-1)), (0, .ref rd)]) d8_12_19 rfl (by decide) rfl ?_
    refine xj_iload_n (i := 1) d8_12_20 rfl rfl ?_
    refine xj_iconst (v := (-1)) d8_12_21 (by decide) ?_
    refine xj_icmp_ne (tgt := 33) d8_12_22 rfl (fun h => absurd (by decide) h) (fun _ => ?_)
    refine xj_aload_n (i := 0) d8_12_25 rfl rfl ?_
    refine xj_iconst (v := 4) d8_12_26 (by decide) ?_
    refine xj_put (a := rd) (fs' := [.ref (gA 0), .int 4, .ref 18, .int (nI pl), .int (nI a), .ref ga, .int (nI r.length)]) d8_12_27 f8_33_4 kR (by omega) (show rd < M.1 by omega) (Nat.le_of_ble_eq_true rfl) rfl rfl rfl ?_
    refine xj_abs_set (fun M1 hs1 ha1 ho1 => ?_)
    refine xj_goto (tgt := 177) d8_12_30 rfl ?_
    exact xj_ret d8_12_177 (by omega) (by omega) rfl ⟨rfl, (by rw [hpb]; exact ⟨fun q => absurd q (show ¬ (4 : Int32) = 0 by decide), fun _ => cH_F hH (by omega) (by omega) ha1 (fun y hy => (ho1 y (by omega)))⟩)⟩
theorem cN_na {G : xG} (hNA : xNA G) {M : xM} {ow rk ad : Nat → Nat} {T X : Nat} {ℓ : xLk} {μ : xMu} {q : xNode} (h : cN M ow rk ad T X ℓ μ q) (hk : q.1 = 1 ∨ q.1 = 4 ∨ q.1 = 6) : xn ≤ X ∧ X < M.1 ∧ ∃ (bc : Nat) (bf : List Value) (bC : String) (bT : u_T) (bN : Nat), M.2 X = .inr (bc, bf) ∧ vwCl[bc]? = some (bC, bT, bN) ∧ xAsg bC "java/lang/Object" ∧ xAsg bC "TrigramLines$Part" ∧ va_Nc bC "TrigramLines$Anchor" (xs G) := by
  obtain ⟨wv, hv, ⟨a1, a2, a3, a4⟩, k1, k2, k4, k5, k6⟩ := h
  refine ⟨a1, a2, ?_⟩
  rcases hk with z | z | z
  · obtain ⟨y, e1, -⟩ := k1 z
    exact ⟨10, _, Rc10, Tc10, _, e1, rfl, Or.inr w1401, Or.inr w1383, hNA.1⟩
  · obtain ⟨e, nd, cv, -, e1, -⟩ := k4 z
    exact ⟨9, _, Rc9, Tc9, _, e1, rfl, Or.inr w1400, Or.inr w1385, hNA.2.1⟩
  · obtain ⟨bl, lv, e1, -⟩ := k6 z
    exact ⟨5, _, Rc5, Tc5, _, e1, rfl, Or.inr w1396, Or.inr w1384, hNA.2.2⟩
set_option maxRecDepth 20000 in
set_option maxHeartbeats 1000000 in
theorem kRepN {G : xG} (hg : xGood G) (hxn : xn = 16) (hZ : va_Z "java/util/ArrayList" "DEFAULTCAPACITY_EMPTY_ELEMENTDATA" "[Ljava/lang/Object;" (.ref (xa G 1)) (fun q => (xs G).heap.size ≤ q) (xs G) (xs G).heap) (hT : va_T (.object "java/lang/Object") (xa G 1) 0 (fun _ => .null) (fun q => (xs G).heap.size ≤ q) (xs G) (xs G).heap) (hMi : xHM G) (hNA : xNA G) (hSC : xSC G) {px fp : Nat → Int32} {rd : Nat} {M0 M : xM} {pl ga : Nat} {fg : Nat → Option Nat} {ow rk ad gA bA : Nat → Nat} {μ : Nat → xMu} {a : Nat} {A : List xNode} {t1 l : List Nat} {e : Nat} {r : List (List Nat × List Nat)} (hpl : pl ≤ 24) (hpx : ∀ j, j < pl → px j = fp j) (hPR : ∀ j, j < pl → ∃ u1, u1 < 95 ∧ fp j = nI (u1 + 32)) (h18 : M0.2 18 = (.inl (1, 24, .inl px))) {lo : Nat → Nat} {a0 : Nat} (hH : cH rd M0 pl ga fg ow rk ad gA bA μ M (a, 0, A, (t1, l ++ [e]) :: r)) (hZp : pZ lo (a0, 0, A, (t1, l ++ [e]) :: r)) (hpa1 : a0 + 1 ≤ a) (hpa2 : a ≤ pl) {c : Int32} (hkd : ¬ ((pNd A e).1 = 2 ∨ (pNd A e).1 = 3)) : XC G Y8_11 none 10 8 127 [.ref rd, .int c] M (fun v M' => v = none ∧ cX rd M0 pl M' (pRepeat fp pl c (a, 0, A, (t1, l ++ [e]) :: r))) := by
  obtain ⟨_, _, bl, p, nd, ⟨rfl, rfl, efg⟩, ⟨b1, b2, b3, b4, b5, b6, b7, b8⟩, ⟨kR, kgs, kgo, kbo⟩, ⟨klp, klb⟩, ⟨og1, og2, og3, og4⟩, ⟨c1, c2, c3, c4, c5, c6, c7, c8, c9, c10, c11, c12⟩, cfr, ⟨n1, n2, n3, n4, n5, n6, n7, n8, n9, n10, n11, n12, n13, n14⟩, oR, ogs⟩ := cH_top hH hxn
  replace kR : M.2 rd = (.inr (4, [.ref (gA 0), .int 0, .ref 18, .int (nI pl), .int (nI a), .ref ga, .int (nI r.length)])) := kR
  have k18 : M.2 18 = (.inl (1, 24, .inl px)) := (cfr 18 (by omega)).trans h18
  obtain ⟨⟨z1, z2, z3⟩, y1, y2⟩ := pZ_Y hZp
  have y1e := (y1 (t1, l ++ [e]) List.mem_cons_self).2
  have hec : e < A.length := y1e e (by simp)
  have hl26 : t1.length + (l ++ [e]).length ≤ 26 := z2
  rw [List.length_append, List.length_singleton] at hl26
  have hke := (y2 e _ (xnd_at hec)).2
  have h5 : ¬ (pNd A e).1 = 5 := (hZp.2.2.1 _ List.mem_cons_self).2 e (by simp)
  have hla : pLast (a, 0, A, (t1, l ++ [e]) :: r) = e := by
    show ((l ++ [e]).getLast?).getD 0 = e
    rw [List.getLast?_concat]
    rfl
  have hbn : ¬ (pTop (a, 0, A, (t1, l ++ [e]) :: r)).2 = [] := fun z => by
    have z' : l ++ [e] = [] := z
    simp at z'
  obtain ⟨y, hye⟩ : ∃ y, ad e = y := ⟨_, rfl⟩
  have hny := hH.2.2.2.2.2.2.2 e _ (xnd_at hec)
  rw [hye] at hny
  have klp' : xLs (fun y => ow y = p) M p (l.map ad ++ [y]) := by
    have e0 : (l ++ [e]).map ad = l.map ad ++ [y] := by rw [List.map_append, List.map_singleton, hye]
    rw [← e0]
    exact klp
  obtain ⟨e9, q13, mo9, cap9, q9, q14, q10, q11, q15, q16, q12⟩ := xLs_a klp' (by simp)
  rw [List.length_append, List.length_map, List.length_singleton] at q9 q14
  have hgl : (l.map ad ++ [y])[l.length]? = some y := by
    rw [List.getElem?_append_right (by simp), List.length_map, Nat.sub_self]
    rfl
  have hk3 : (pNd A e).1 = 1 ∨ (pNd A e).1 = 4 ∨ (pNd A e).1 = 6 := by
    obtain ⟨k1, k2⟩ := hke
    clear hla hbn
    omega
  have hcond : ¬ ((pTop (a, 0, A, (t1, l ++ [e]) :: r)).2 = [] ∨ (pNd A (pLast (a, 0, A, (t1, l ++ [e]) :: r))).1 = 2 ∨ (pNd A (pLast (a, 0, A, (t1, l ++ [e]) :: r))).1 = 3) := by
    rw [hla]
    exact fun z => z.elim hbn hkd
  obtain ⟨x1, x2, bc_y, bf_y, bC_y, bT_y, bN_y, x3, hc_y, hA_y, hP_y, hN_y⟩ := cN_na hNA hny hk3
  refine xc_of hg (by decide) (Nat.le_of_ble_eq_true rfl) (Or.inr (Or.inr (Or.inr (Or.inr (Or.inl ⟨rfl, rfl, fun v M' h => h.1⟩))))) ?_
  refine xj_aload_n (i := 0) d8_11_0 rfl rfl ?_
  refine xj_callV (rest := []) (As := []) (b := rd) (bBr hg (M := M) (n := M.1) (rd := rd) (gw := gA 0) (ft := 0) (pl := pl) (a := a) (ga := ga) (og := r.length) (fg := fg) (g := gA r.length) (bl := bl) (b := bA r.length) (gv := .null) rfl (by omega) (by omega) (by omega) kR (by omega) (by omega) kgs (by omega) (by omega) kgo (by omega) efg) d8_11_1 wd8_5 kR (by omega) (show rd < M.1 by omega) rfl s8_5 w450 (Or.inl w448) rfl rfl (Nat.le_of_ble_eq_true rfl) (by omega) (by omega) (by omega) ?_
  rintro v M' ⟨rfl, hm⟩
  subst M'
  refine xj_callV (rest := []) (As := []) (b := bA r.length) (bMayN hg (M := M) (n := M.1) (b := bA r.length) (p := p) (nv := .ref nd) (wv := .null) (e := e9) (mo := mo9) (cap := cap9) (f := fun i => (l.map ad ++ [y])[i]?) (k := l.length) (y := y) (bc_y := bc_y) (bf_y := bf_y) (bC_y := bC_y) (bT_y := bT_y) (bN_y := bN_y) rfl (by omega) (by omega) (by omega) kbo (by omega) (by omega) q9 (by omega) (by omega) q12 (by omega) (by omega) x3 (by omega) (by omega) (by omega) hgl hP_y hN_y hc_y hA_y) d8_11_4 wd3_4 kbo (by omega) (show bA r.length < M.1 by omega) rfl w476 w475 (Or.inl w474) rfl rfl (Nat.le_of_ble_eq_true rfl) (by omega) (by omega) (by omega) ?_
  rintro v M' ⟨rfl, hm⟩
  subst M'
  refine xj_if_ne (tgt := 18) d8_11_7 rfl (fun _ => ?_) (fun h => absurd h (by decide))
  refine xj_iload_n (i := 1) d8_11_18 rfl rfl ?_
  refine xj_bipush (v := 42) d8_11_19 (by decide) ?_
  refine xj_icmp_ne (tgt := 36) d8_11_21 rfl (fun g1 => ?_) (fun g1 => ?_)
  · refine xj_iload_n (i := 1) d8_11_36 rfl rfl ?_
    refine xj_bipush (v := 43) d8_11_37 (by decide) ?_
    refine xj_icmp_ne (tgt := 54) d8_11_39 rfl (fun g2 => ?_) (fun g2 => ?_)
    · refine xj_iload_n (i := 1) d8_11_54 rfl rfl ?_
      refine xj_bipush (v := 63) d8_11_55 (by decide) ?_
      refine xj_icmp_ne (tgt := 72) d8_11_57 rfl (fun g3 => ?_) (fun g3 => ?_)
      · refine xj_aload_n (i := 0) d8_11_72 rfl rfl ?_
        refine xj_callV (rest := []) (As := []) (b := rd) (kBraces hg hxn hZ hT hMi hNA hSC hpl hpx hPR h18 hH hZp hpa1 hpa2) d8_11_73 wd8_12 kR (by omega) (show rd < M.1 by omega) rfl s8_12 w524 (Or.inl w522) rfl rfl (Nat.le_of_ble_eq_true rfl) (by omega) (by omega) (by omega) ?_
        rintro v M9 ⟨rfl, hX9⟩
        have hpr : pRepeat fp pl c (a, 0, A, (t1, l ++ [e]) :: r) = pBraces fp pl (a, 0, A, (t1, l ++ [e]) :: r) := by
          unfold pRepeat
          rw [if_neg hcond, if_neg g1, if_neg g2, if_neg g3]
        exact xj_ret d8_11_76 (by omega) (by omega) rfl ⟨rfl, by rw [hpr]; exact hX9⟩
      · refine xj_aload_n (i := 0) d8_11_60 rfl rfl ?_
        refine xj_callV (rest := []) (As := []) (b := rd) (bBr hg (M := M) (n := M.1) (rd := rd) (gw := gA 0) (ft := 0) (pl := pl) (a := a) (ga := ga) (og := r.length) (fg := fg) (g := gA r.length) (bl := bl) (b := bA r.length) (gv := .null) rfl (by omega) (by omega) (by omega) kR (by omega) (by omega) kgs (by omega) (by omega) kgo (by omega) efg) d8_11_61 wd8_5 kR (by omega) (show rd < M.1 by omega) rfl s8_5 w450 (Or.inl w448) rfl rfl (Nat.le_of_ble_eq_true rfl) (by omega) (by omega) (by omega) ?_
        rintro v M' ⟨rfl, hm⟩
        subst M'
        refine xj_iconst (v := 0) d8_11_64 (by decide) ?_
        refine xj_iconst (v := 1) d8_11_65 (by decide) ?_
        refine xj_callV (rest := []) (As := [.int 0, .int 1]) (b := bA r.length) (cRepXN hg hxn hZ hT (ls := 0) (w9 := pTim 0 (nI 1) * ((pNd A e).2.1 + 1)) (m9 := 1) (by omega) hH (pZ_Y hZp) h5) d8_11_66 wd3_5 kbo (by omega) (show bA r.length < M.1 by omega) rfl w483 w482 (Or.inl w481) rfl rfl (Nat.le_of_ble_eq_true rfl) (by omega) (by omega) (by omega) ?_
        rintro v M9 ⟨rfl, hE9⟩
        refine xj_goto (tgt := 76) d8_11_69 rfl ?_
        have hpr : pRepeat fp pl c (a, 0, A, (t1, l ++ [e]) :: r) = pRep (a, 0, A, (t1, l ++ [e]) :: r) 0 (nI 1) := by
          unfold pRepeat
          rw [if_neg hcond, if_neg g1, if_neg g2, if_pos g3, show (1 : Int32) = nI 1 from by decide]
        rw [pRep_eq] at hpr
        have hZ2 := pZ_rep (k := 0) (m9 := 0) (n9 := nI 1) (x' := 0) (a' := a + 0) hZp (by omega) (show (0 : Int32) = nI 0 from by decide) (Or.inr ⟨1, by omega, by omega, rfl⟩) rfl (by decide) (by omega) (by omega) (by omega)
        have hE10 := hE9
        exact xj_ret d8_11_76 (by omega) (by omega) rfl ⟨rfl, (by rw [hpr]; exact ⟨fun _ => ⟨hE10, _, hZ2⟩, fun q => absurd rfl q⟩)⟩
    · refine xj_aload_n (i := 0) d8_11_42 rfl rfl ?_
      refine xj_callV (rest := []) (As := []) (b := rd) (bBr hg (M := M) (n := M.1) (rd := rd) (gw := gA 0) (ft := 0) (pl := pl) (a := a) (ga := ga) (og := r.length) (fg := fg) (g := gA r.length) (bl := bl) (b := bA r.length) (gv := .null) rfl (by omega) (by omega) (by omega) kR (by omega) (by omega) kgs (by omega) (by omega) kgo (by omega) efg) d8_11_43 wd8_5 kR (by omega) (show rd < M.1 by omega) rfl s8_5 w450 (Or.inl w448) rfl rfl (Nat.le_of_ble_eq_true rfl) (by omega) (by omega) (by omega) ?_
      rintro v M' ⟨rfl, hm⟩
      subst M'
      refine xj_iconst (v := 1) d8_11_46 (by decide) ?_
      refine xj_iconst (v := (-1)) d8_11_47 (by decide) ?_
      refine xj_callV (rest := []) (As := [.int 1, .int (-1)]) (b := bA r.length) (cRepXE hg hxn hZ hT (ls := 1) (w9 := pTim 1 (-1) * ((pNd A e).2.1 + 1)) hH (pZ_Y hZp) h5) d8_11_48 wd3_5 kbo (by omega) (show bA r.length < M.1 by omega) rfl w483 w482 (Or.inl w481) rfl rfl (Nat.le_of_ble_eq_true rfl) (by omega) (by omega) (by omega) ?_
      rintro v M9 ⟨rfl, hE9⟩
      refine xj_goto (tgt := 76) d8_11_51 rfl ?_
      have hpr : pRepeat fp pl c (a, 0, A, (t1, l ++ [e]) :: r) = pRep (a, 0, A, (t1, l ++ [e]) :: r) 1 (-1) := by
        unfold pRepeat
        rw [if_neg hcond, if_neg g1, if_pos g2]
      rw [pRep_eq] at hpr
      have hZ2 := pZ_rep (k := 1) (m9 := 1) (n9 := -1) (x' := 0) (a' := a + 0) hZp (by omega) (show (1 : Int32) = nI 1 from by decide) (Or.inl rfl) rfl (by decide) (by omega) (by omega) (by omega)
      have hE10 := hE9
      exact xj_ret d8_11_76 (by omega) (by omega) rfl ⟨rfl, (by rw [hpr]; exact ⟨fun _ => ⟨hE10, _, hZ2⟩, fun q => absurd rfl q⟩)⟩
  · refine xj_aload_n (i := 0) d8_11_24 rfl rfl ?_
    refine xj_callV (rest := []) (As := []) (b := rd) (bBr hg (M := M) (n := M.1) (rd := rd) (gw := gA 0) (ft := 0) (pl := pl) (a := a) (ga := ga) (og := r.length) (fg := fg) (g := gA r.length) (bl := bl) (b := bA r.length) (gv := .null) rfl (by omega) (by omega) (by omega) kR (by omega) (by omega) kgs (by omega) (by omega) kgo (by omega) efg) d8_11_25 wd8_5 kR (by omega) (show rd < M.1 by omega) rfl s8_5 w450 (Or.inl w448) rfl rfl (Nat.le_of_ble_eq_true rfl) (by omega) (by omega) (by omega) ?_
    rintro v M' ⟨rfl, hm⟩
    subst M'
    refine xj_iconst (v := 0) d8_11_28 (by decide) ?_
    refine xj_iconst (v := (-1)) d8_11_29 (by decide) ?_
    refine xj_callV (rest := []) (As := [.int 0, .int (-1)]) (b := bA r.length) (cRepXE hg hxn hZ hT (ls := 0) (w9 := pTim 0 (-1) * ((pNd A e).2.1 + 1)) hH (pZ_Y hZp) h5) d8_11_30 wd3_5 kbo (by omega) (show bA r.length < M.1 by omega) rfl w483 w482 (Or.inl w481) rfl rfl (Nat.le_of_ble_eq_true rfl) (by omega) (by omega) (by omega) ?_
    rintro v M9 ⟨rfl, hE9⟩
    refine xj_goto (tgt := 76) d8_11_33 rfl ?_
    have hpr : pRepeat fp pl c (a, 0, A, (t1, l ++ [e]) :: r) = pRep (a, 0, A, (t1, l ++ [e]) :: r) 0 (-1) := by
      unfold pRepeat
      rw [if_neg hcond, if_pos g1]
    rw [pRep_eq] at hpr
    have hZ2 := pZ_rep (k := 0) (m9 := 0) (n9 := -1) (x' := 0) (a' := a + 0) hZp (by omega) (show (0 : Int32) = nI 0 from by decide) (Or.inl rfl) rfl (by decide) (by omega) (by omega) (by omega)
    have hE10 := hE9
    exact xj_ret d8_11_76 (by omega) (by omega) rfl ⟨rfl, (by rw [hpr]; exact ⟨fun _ => ⟨hE10, _, hZ2⟩, fun q => absurd rfl q⟩)⟩

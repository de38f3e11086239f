theorem RD_w {G : xG} (hg : xGood G) (hxn : xn = 16) {M : xM} {rd r0 r1 : Nat} {fp : Nat → Int32} {pl : Nat} (h : RD M rd r0 r1 fp pl) (hz : (pRead fp pl).2.1 = 0) : ∃ gs W a og b7 l7 : Nat, ∃ w7 : Value, M.2 rd = cRo pl gs W 0 a og ∧ (16 ≤ W ∧ W < M.1) ∧ M.2 W = .inr (5, [.ref b7, .ref l7, w7]) ∧ XC G Y5_3 (some .int) 90 0 0 [.ref W] M (fun v M' => v = some (.int (pSize fp pl)) ∧ M' = M) := by
  obtain ⟨gs, a, og, ow, rk, ad, μ, lo, e1, ⟨o1, o2, o3, o4⟩, e2, e3, e4, ⟨q, hq, hq6⟩, e6⟩ := h.2.2 hz
  have hr1 := h.1.2.2.2.1
  obtain ⟨A, hAe⟩ : ∃ A, (pRead fp pl).2.2.1 = A := ⟨_, rfl⟩
  have hps : pSize fp pl = q.2.1 := by
    unfold pSize
    rw [if_pos hz]
    unfold pNd
    rw [hq]
    rfl
  rw [hAe] at e1 e2 e3 e4 hq
  have hA : cA M ow rk ad (sLr A) μ A := fun j p hp => cN_mv (e2 j p hp) hr1 (fun _ _ => rfl) (fun _ _ _ _ => rfl) (fun _ _ _ => rfl)
  have hN := hA _ q hq
  have hlen : A.length - 1 < A.length := (List.getElem?_eq_some_iff.mp hq).1
  have hW := kWt hg hxn hA e3 (A.length - 1) q hq
  rw [show yV_weight q.1 = Y5_3 by unfold yV_weight; rw [hq6]; rfl, ← hps] at hW
  obtain ⟨wv, -, ⟨x1, x2, -, -⟩, -, -, -, -, k6⟩ := hN
  obtain ⟨bl, lv, e7, -⟩ := k6 hq6
  exact ⟨gs, _, a, og, bl, lv, wv, e1, ⟨by omega, x2⟩, e7, xc_wk hW (by omega) (Nat.le_refl _) (Nat.le_refl _) (fun v M' h => h)⟩
set_option maxRecDepth 20000 in
theorem kSiz0 {G : xG} (hg : xGood G) (hxn : xn = 16) (hZ : va_Z "java/util/ArrayList" "DEFAULTCAPACITY_EMPTY_ELEMENTDATA" "[Ljava/lang/Object;" (.ref (xa G 1)) (fun q => (xs G).heap.size ≤ q) (xs G) (xs G).heap) (hT : va_T (.object "java/lang/Object") (xa G 1) 0 (fun _ => .null) (fun q => (xs G).heap.size ≤ q) (xs G) (xs G).heap) (hMi : xHM G) (hNA : xNA G) (hSC : xSC G) {px fp : Nat → Int32} {M : xM} {dl pl vc tk hc op : Nat} {pn : Int32} (h52 : 52 ≤ M.1) (hpl : pl ≤ 24) (hpx : ∀ j, j < pl → px j = fp j) (hPR : ∀ j, j < pl → ∃ u1, u1 < 95 ∧ fp j = nI (u1 + 32)) (c16 : M.2 16 = (.inr (0, [.ref 17, .int (nI dl), .ref 18, .int (nI pl), .null, .ref 19, .int (nI vc), .ref op, .ref 22, .int (nI tk), .ref 23, .int (nI hc), .int pn]))) (c18 : M.2 18 = (.inl (1, 24, .inl px))) : XC G Y1_9 (some .int) 104 643 14142 [.ref 16] M (fun v M' => v = some (.int (pSize fp pl)) ∧ M.1 ≤ M'.1 ∧ (∀ j, j < M.1 → j ≠ 16 → M'.2 j = M.2 j) ∧ M'.2 16 = (.inr (0, [.ref 17, .int (nI dl), .ref 18, .int (nI pl), .ref M.1, .ref 19, .int (nI vc), .ref op, .ref 22, .int (nI tk), .ref 23, .int (nI hc), .int pn])) ∧ RD M' M.1 M.1 M'.1 fp pl) := by
  by_cases hz : (pRead fp pl).2.1 = 0
  · refine xc_of hg (by decide) (Nat.le_of_ble_eq_true rfl) (Or.inl ⟨rfl, rfl, fun v M' h => ⟨_, h.1⟩⟩) ?_
    refine xj_aload_n (i := 0) d1_9_0 rfl rfl ?_
    refine xj_callV (rest := []) (As := []) (b := 16) (kRP0 hg hxn hZ hT hMi hNA hSC h52 hpl hpx hPR c16 c18) d1_9_1 wd1_28 c16 (by omega) (show 16 < M.1 by omega) rfl s1_28 w302 (Or.inl w300) rfl rfl (Nat.le_of_ble_eq_true rfl) (by omega) (by omega) (by omega) ?_
    rintro v M9 ⟨rfl, hm9, hfr9, k16, hRD9⟩
    have hb9 := hRD9.1
    obtain ⟨gs, W9, a9, og, b7, l7, w7, kR, ⟨w1, w2⟩, kW, hWz⟩ := RD_w hg hxn hRD9 hz
    replace kR : M9.2 M.1 = (.inr (4, [.ref W9, .int 0, .ref 18, .int (nI pl), .int (nI a9), .ref gs, .int (nI og)])) := kR
    refine xj_astore_n (i := 1) (L' := [(1, .ref M.1), (0, .ref 16)]) d1_9_4 rfl (by decide) rfl ?_
    refine xj_aload_n (i := 1) d1_9_5 rfl rfl ?_
    refine xj_get d1_9_6 f1_93_4 kR (by omega) (show M.1 < M9.1 by omega) rfl ?_
    refine xj_if_ne (tgt := 22) d1_9_9 rfl (fun h => absurd (by decide) h) (fun _ => ?_)
    refine xj_aload_n (i := 1) d1_9_12 rfl rfl ?_
    refine xj_get d1_9_13 f1_98_4 kR (by omega) (show M.1 < M9.1 by omega) rfl ?_
    refine xj_callV (rest := []) (As := []) (b := W9) hWz d1_9_16 wd5_3 kW (by omega) (show W9 < M9.1 by omega) rfl w712 w711 (Or.inl w814) rfl rfl (Nat.le_of_ble_eq_true rfl) (by omega) (by omega) (by omega) ?_
    rintro v M' ⟨rfl, hm⟩
    subst M'
    refine xj_goto (tgt := 23) d1_9_19 rfl ?_
    exact xj_ret d1_9_23 (by omega) (by omega) rfl ⟨rfl, hm9, hfr9, k16, hRD9⟩
  · obtain ⟨x9, hx9⟩ : ∃ x9, (pRead fp pl).2.1 = x9 := ⟨_, rfl⟩
    have hx : ¬ x9 = 0 := by rw [← hx9]; exact hz
    refine xc_of hg (by decide) (Nat.le_of_ble_eq_true rfl) (Or.inl ⟨rfl, rfl, fun v M' h => ⟨_, h.1⟩⟩) ?_
    refine xj_aload_n (i := 0) d1_9_0 rfl rfl ?_
    refine xj_callV (rest := []) (As := []) (b := 16) (kRP0 hg hxn hZ hT hMi hNA hSC h52 hpl hpx hPR c16 c18) d1_9_1 wd1_28 c16 (by omega) (show 16 < M.1 by omega) rfl s1_28 w302 (Or.inl w300) rfl rfl (Nat.le_of_ble_eq_true rfl) (by omega) (by omega) (by omega) ?_
    rintro v M9 ⟨rfl, hm9, hfr9, k16, hRD9⟩
    have hb9 := hRD9.1
    obtain ⟨gs, W9, a9, og, kR⟩ := RD_f hRD9
    rw [hx9] at kR
    replace kR : M9.2 M.1 = (.inr (4, [.ref W9, .int x9, .ref 18, .int (nI pl), .int (nI a9), .ref gs, .int (nI og)])) := kR
    refine xj_astore_n (i := 1) (L' := [(1, .ref M.1), (0, .ref 16)]) d1_9_4 rfl (by decide) rfl ?_
    refine xj_aload_n (i := 1) d1_9_5 rfl rfl ?_
    refine xj_get d1_9_6 f1_93_4 kR (by omega) (show M.1 < M9.1 by omega) rfl ?_
    refine xj_if_ne (tgt := 22) d1_9_9 rfl (fun _ => ?_) (fun h => absurd h hx)
    refine xj_iconst (v := (-1)) d1_9_22 (by decide) ?_
    exact xj_ret d1_9_23 (by omega) (by omega) rfl ⟨by rw [show pSize fp pl = -1 from if_neg hz], hm9, hfr9, k16, hRD9⟩
set_option maxRecDepth 20000 in
theorem kSiz1 {G : xG} (hg : xGood G) (hxn : xn = 16) (hZ : va_Z "java/util/ArrayList" "DEFAULTCAPACITY_EMPTY_ELEMENTDATA" "[Ljava/lang/Object;" (.ref (xa G 1)) (fun q => (xs G).heap.size ≤ q) (xs G) (xs G).heap) (hT : va_T (.object "java/lang/Object") (xa G 1) 0 (fun _ => .null) (fun q => (xs G).heap.size ≤ q) (xs G) (xs G).heap) (hMi : xHM G) (hNA : xNA G) (hSC : xSC G) {px fp : Nat → Int32} {M : xM} {dl pl vc tk hc op : Nat} {pn : Int32} (h52 : 52 ≤ M.1) (hpl : pl ≤ 24) (hpx : ∀ j, j < pl → px j = fp j) (hPR : ∀ j, j < pl → ∃ u1, u1 < 95 ∧ fp j = nI (u1 + 32)) {rd r0 r1 : Nat} (c16 : M.2 16 = (.inr (0, [.ref 17, .int (nI dl), .ref 18, .int (nI pl), .ref rd, .ref 19, .int (nI vc), .ref op, .ref 22, .int (nI tk), .ref 23, .int (nI hc), .int pn]))) (hRD : RD M rd r0 r1 fp pl) : XC G Y1_9 (some .int) 104 0 0 [.ref 16] M (fun v M' => v = some (.int (pSize fp pl)) ∧ M' = M) := by
  by_cases hz : (pRead fp pl).2.1 = 0
  · refine xc_of hg (by decide) (Nat.le_of_ble_eq_true rfl) (Or.inl ⟨rfl, rfl, fun v M' h => ⟨_, h.1⟩⟩) ?_
    refine xj_aload_n (i := 0) d1_9_0 rfl rfl ?_
    refine xj_callV (rest := []) (As := []) (b := 16) (kRP1 hg hxn h52 c16) d1_9_1 wd1_28 c16 (by omega) (show 16 < M.1 by omega) rfl s1_28 w302 (Or.inl w300) rfl rfl (Nat.le_of_ble_eq_true rfl) (by omega) (by omega) (by omega) ?_
    rintro v M' ⟨rfl, hm⟩
    subst M'
    have hb9 := hRD.1
    obtain ⟨gs, W9, a9, og, b7, l7, w7, kR, ⟨w1, w2⟩, kW, hWz⟩ := RD_w hg hxn hRD hz
    replace kR : M.2 rd = (.inr (4, [.ref W9, .int 0, .ref 18, .int (nI pl), .int (nI a9), .ref gs, .int (nI og)])) := kR
    refine xj_astore_n (i := 1) (L' := [(1, .ref rd), (0, .ref 16)]) d1_9_4 rfl (by decide) rfl ?_
    refine xj_aload_n (i := 1) d1_9_5 rfl rfl ?_
    refine xj_get d1_9_6 f1_93_4 kR (by omega) (show rd < M.1 by omega) rfl ?_
    refine xj_if_ne (tgt := 22) d1_9_9 rfl (fun h => absurd (by decide) h) (fun _ => ?_)
    refine xj_aload_n (i := 1) d1_9_12 rfl rfl ?_
    refine xj_get d1_9_13 f1_98_4 kR (by omega) (show rd < M.1 by omega) rfl ?_
    refine xj_callV (rest := []) (As := []) (b := W9) hWz d1_9_16 wd5_3 kW (by omega) (show W9 < M.1 by omega) rfl w712 w711 (Or.inl w814) rfl rfl (Nat.le_of_ble_eq_true rfl) (by omega) (by omega) (by omega) ?_
    rintro v M' ⟨rfl, hm⟩
    subst M'
    refine xj_goto (tgt := 23) d1_9_19 rfl ?_
    exact xj_ret d1_9_23 (by omega) (by omega) rfl ⟨rfl, rfl⟩
  · obtain ⟨x9, hx9⟩ : ∃ x9, (pRead fp pl).2.1 = x9 := ⟨_, rfl⟩
    have hx : ¬ x9 = 0 := by rw [← hx9]; exact hz
    refine xc_of hg (by decide) (Nat.le_of_ble_eq_true rfl) (Or.inl ⟨rfl, rfl, fun v M' h => ⟨_, h.1⟩⟩) ?_
    refine xj_aload_n (i := 0) d1_9_0 rfl rfl ?_
    refine xj_callV (rest := []) (As := []) (b := 16) (kRP1 hg hxn h52 c16) d1_9_1 wd1_28 c16 (by omega) (show 16 < M.1 by omega) rfl s1_28 w302 (Or.inl w300) rfl rfl (Nat.le_of_ble_eq_true rfl) (by omega) (by omega) (by omega) ?_
    rintro v M' ⟨rfl, hm⟩
    subst M'
    have hb9 := hRD.1
    obtain ⟨gs, W9, a9, og, kR⟩ := RD_f hRD
    rw [hx9] at kR
    replace kR : M.2 rd = (.inr (4, [.ref W9, .int x9, .ref 18, .int (nI pl), .int (nI a9), .ref gs, .int (nI og)])) := kR
    refine xj_astore_n (i := 1) (L' := [(1, .ref rd), (0, .ref 16)]) d1_9_4 rfl (by decide) rfl ?_
    refine xj_aload_n (i := 1) d1_9_5 rfl rfl ?_
    refine xj_get d1_9_6 f1_93_4 kR (by omega) (show rd < M.1 by omega) rfl ?_
    refine xj_if_ne (tgt := 22) d1_9_9 rfl (fun _ => ?_) (fun h => absurd h hx)
    refine xj_iconst (v := (-1)) d1_9_22 (by decide) ?_
    exact xj_ret d1_9_23 (by omega) (by omega) rfl ⟨by rw [show pSize fp pl = -1 from if_neg hz], rfl⟩
theorem oSiz {G : xG} (hg : xGood G) (hxn : xn = 16) (hZ : va_Z "java/util/ArrayList" "DEFAULTCAPACITY_EMPTY_ELEMENTDATA" "[Ljava/lang/Object;" (.ref (xa G 1)) (fun q => (xs G).heap.size ≤ q) (xs G) (xs G).heap) (hT : va_T (.object "java/lang/Object") (xa G 1) 0 (fun _ => .null) (fun q => (xs G).heap.size ≤ q) (xs G) (xs G).heap) (hMi : xHM G) (hNA : xNA G) (hSC : xSC G) {c : Nat} {M : xM} (hI : xInv RD c M) : xOp G RD c M Y1_9 Y14_42 (some .int) [] := by
  obtain ⟨f, li, tx, te, cu, le, fd, fp, fh, fx, px, hx, sn, vc, tk, dl, pl, hc, sr, pn, lr, va, S, T, ov, es, op, ol, oe, r0, r1, hM, hC, hG, hR⟩ := hI
  have h52 := hC.2.2.2.2.1.1
  obtain ⟨c16, c17, c18, c23, cS⟩ := id hC
  have hpl := hG.2.1.1
  have hpx : ∀ j, j < pl → px j = fp j := fun j hj => (hG.2.1.2 j hj).1
  have hPR : ∀ j, j < pl → ∃ u1, u1 < 95 ∧ fp j = nI (u1 + 32) := fun j hj => xprt (hG.2.1.2 j hj).2
  have hend : ∀ (M' : xM) (lr' : Value) (q0 q1 : Nat), xIm M' f li tx te cu le fd fp fh sn vc tk dl pl hc sr pn → xIc M' f li tx te cu le fx px hx sn vc tk dl pl hc pn lr' va S T ov es op ol oe q0 q1 → xRr RD M' lr' q0 q1 fp pl → (52 ≤ M'.1 ∧ ∃ fs, M'.2 24 = .inr (12, fs)) ∧ XC G Y14_42 (some .int) 1000 0 0 [.ref 24] M' (fun v M'' => v = some (.int (pSize fp pl)) ∧ xInv RD (c + 1) M'') := by
    intro M' lr' q0 q1 hM' hC' hR'
    have h52' := hC'.2.2.2.2.1.1
    obtain ⟨y33, y36, y37, x, hrf⟩ := xIm_rf hM'
    obtain ⟨⟨z13, z22, z23, z24, z33, z36, z37, m24⟩, -⟩ := id hM'
    refine ⟨⟨h52', _, m24⟩, xc_wk (rSize hg hxn h52' hpl hPR hrf) (by omega) (Nat.le_refl _) (Nat.le_refl _) ?_⟩
    rintro v M'' ⟨rfl, hz⟩
    have hM2 := mZ_im hM' h52' hz
    obtain ⟨⟨i1, i2⟩, -⟩ := id hz
    have hC2 := xIc_fr hxn hC' i1 (fun j a b => i2 j (by omega) (by omega) (by omega))
    refine ⟨rfl, f, li, tx, te, cu, le, fd, fp, fh, fx, px, hx, sn, vc, tk, dl, pl, hc, sr, pn, lr', va, S, T, ov, es, op, ol, oe, q0, q1, hM2, hC2, xIg_c hG, xRr_fr RD_s hR' (by omega) (fun j a b d => i2 j ?_ (by omega) (by omega))⟩
    have hq1 := hC'.2.2.2.2.1.2.1
    omega
  rcases id hR with ⟨rfl, rfl, rfl⟩ | ⟨rd, rfl, h5, hRD⟩
  · refine ⟨(pSize fp pl), fun M' => M.1 ≤ M'.1 ∧ (∀ j, j < M.1 → j ≠ 16 → M'.2 j = M.2 j) ∧ M'.2 16 = (.inr (0, [.ref 17, .int (nI dl), .ref 18, .int (nI pl), .ref M.1, .ref 19, .int (nI vc), .ref op, .ref 22, .int (nI tk), .ref 23, .int (nI hc), .int pn])) ∧ RD M' M.1 M.1 M'.1 fp pl, xc_wk (kSiz0 hg hxn hZ hT hMi hNA hSC h52 hpl hpx hPR c16 c18) (by decide) (by decide) (by decide) (fun v M' h => h), fun M' hq => ?_⟩
    obtain ⟨e1, e2, e3, e4⟩ := hq
    exact hend M' (.ref M.1) M.1 M'.1 (xIm_fr hM (fun j a b => e2 j (by omega) (by omega))) ⟨e3, (e2 17 (by omega) (by decide)).trans c17, (e2 18 (by omega) (by decide)).trans c18, (e2 23 (by omega) (by decide)).trans c23, xSt_rd hxn cS e1 e2⟩ (Or.inr ⟨M.1, rfl, h52, e4⟩)
  · refine ⟨(pSize fp pl), fun M' => M' = M, xc_wk (kSiz1 hg hxn hZ hT hMi hNA hSC h52 hpl hpx hPR c16 hRD) (by decide) (by decide) (by decide) (fun v M' h => h), fun M' hq => ?_⟩
    subst hq
    exact hend M' (.ref rd) r0 r1 hM hC hR

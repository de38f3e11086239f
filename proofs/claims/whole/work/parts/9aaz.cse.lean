theorem vHas_cg {g f : Nat → Int32} {tl : Nat} (h : ∀ j, j < tl → g j = f j) : vHas g tl = vHas f tl := funext fun w => propext ⟨fun z i hi => by obtain ⟨j, j1, j2, j3, j4⟩ := z i hi; exact ⟨j, j1, (h j (by omega)).symm.trans j2, (h (j + 1) (by omega)).symm.trans j3, (h (j + 2) j1).symm.trans j4⟩, fun z i hi => by obtain ⟨j, j1, j2, j3, j4⟩ := z i hi; exact ⟨j, j1, (h j (by omega)).trans j2, (h (j + 1) (by omega)).trans j3, (h (j + 2) j1).trans j4⟩⟩
set_option maxRecDepth 20000 in
set_option maxHeartbeats 4000000 in
theorem kSeL {G : xG} (hg : xGood G) (hxn : xn = 16) {rd r1 : Nat} {ow rk ad : Nat → Nat} {A : List xNode} {lo : Nat → Nat} (hO : ∀ (i : Nat) (q : xNode), A[i]? = some q → pOk A lo i q) (hA26 : A.length ≤ 26) {qr : xNode} (hrt : A[A.length - 1]? = some qr) (hr6 : qr.1 = 6) (hlo0 : lo (A.length - 1) = 0) (hk0 : rk 0 = 0) {W : Nat} (hWe : ad (A.length - 1) = W) {dl pl vc tk op gs a9 og : Nat} {f li tx te cu : Nat → Int32} {va : Nat → Nat} {nmf : Nat → Option Nat} {M0 : xM} (h52 : 52 ≤ rd) (hrd : rd < r1) (k_rd : M0.2 rd = (.inr (4, [.ref W, .int 0, .ref 18, .int (nI pl), .int (nI a9), .ref gs, .int (nI og)]))) (k19 : M0.2 19 = (.inl (5, 10, .inr (.inr (.inr (.inr nmf)))))) (hnm : ∀ k, k < 10 → (cu k = -1 ∧ nmf k = none) ∨ ∃ s, s < 128 ∧ cu k = nI s ∧ nmf k = some (va s)) (hver : xVer M0 rd r1 va f li tx te) (hlv : ∀ k, k < 10 → cu k = -1 ∨ ∃ s, s < 128 ∧ cu k = nI s ∧ ¬ f s = -1 ∧ li s = 1) (hchr : ∀ s, s < 128 → ∃ tl, tl ≤ 40 ∧ te s = nI tl ∧ (¬ f s = -1 → ∀ j, j < tl → (tx (40 * s + j) = 10 ∨ (¬ tx (40 * s + j) < 32 ∧ ¬ 126 < tx (40 * s + j))))) {Z : Int32 × List Int32} {d ce se cells slots : Nat} {Post : Option Value → xM → Prop} (hd : 1 + (3 * (A.length - 1) + 8) ≤ d) (hcc : cells ≤ ce) (hss : slots ≤ se) (K : (∀ (M : xM) (μ : Nat → xMu) (hx : Nat → Int32) (z : Int32 × List Int32), z = Z → kS (rd + 1) r1 ow rk ad A M μ → kH (rd + 1) r1 M0 M → M.2 16 = (.inr (0, [.ref 17, .int (nI dl), .ref 18, .int (nI pl), .ref rd, .ref 19, .int (nI vc), .ref op, .ref 22, .int (nI tk), .ref 23, .int (nI z.2.length), .int z.1])) → M.2 23 = (.inl (0, 410, .inl hx)) → hAr hx z.2 → ∀ k : Nat, XJ G Y1_11 d ce se cells slots 89 [(2, .int (nI k)), (1, .ref rd), (0, .ref 16)] [] M Post)) : ∀ (r k : Nat) (M : xM) (μ : Nat → xMu) (hx : Nat → Int32) (z : Int32 × List Int32), k + r = 10 → kS (rd + 1) r1 ow rk ad A M μ → kH (rd + 1) r1 M0 M → M.2 16 = (.inr (0, [.ref 17, .int (nI dl), .ref 18, .int (nI pl), .ref rd, .ref 19, .int (nI vc), .ref op, .ref 22, .int (nI tk), .ref 23, .int (nI z.2.length), .int z.1])) → M.2 23 = (.inl (0, 410, .inl hx)) → hAr hx z.2 → z.2.length ≤ 41 * k → sNm A tx te cu r k z = Z → XJ G Y1_11 d ce se cells slots 30 [(2, .int (nI k)), (1, .ref rd), (0, .ref 16)] [] M Post := by
  intro r
  induction r with
  | zero =>
    intro k M μ hx z hk hS hF h_16 h_23 hH hzl hZ
    have hm0 := hF.1
    have hr1 := hS.1.2
    obtain ⟨⟨w11, w21⟩, bl1, lv1, wv1, h_W1⟩ := kGrp hxn hS hrt hr6
    rw [hWe] at w11 w21 h_W1
    replace K := fun M μ hx z => K M μ hx z
    refine xj_iload_n (i := 2) d1_11_30 rfl rfl ?_
    refine xj_bipush (v := 10) d1_11_31 (by decide) ?_
    refine xj_icmp_ge (tgt := 89) d1_11_33 rfl (fun _ => ?_) (fun h => absurd (nI_le (a := 10) (b := k) (by omega) (by omega)) h)
    exact K M μ hx z hZ hS hF h_16 h_23 hH k
  | succ r ih =>
    intro k M μ hx z hk hS hF h_16 h_23 hH hzl hZ
    have hm0 := hF.1
    have hr1 := hS.1.2
    obtain ⟨⟨w11, w21⟩, bl1, lv1, wv1, h_W1⟩ := kGrp hxn hS hrt hr6
    rw [hWe] at w11 w21 h_W1
    rcases hnm k (by omega) with ⟨hc0, hn0⟩ | ⟨s, hs, hcs, hns⟩
    · have hstep : sNm A tx te cu (r + 1) k z = sNm A tx te cu r (k + 1) z := if_pos (by rw [hc0]; decide)
      rw [hstep] at hZ
      refine xj_iload_n (i := 2) d1_11_30 rfl rfl ?_
      refine xj_bipush (v := 10) d1_11_31 (by decide) ?_
      refine xj_icmp_ge (tgt := 89) d1_11_33 rfl (fun h => absurd h (nI_ge (a := k) (b := 10) (by omega) (by omega))) (fun _ => ?_)
      refine xj_aload_n (i := 0) d1_11_36 rfl rfl ?_
      refine xj_get d1_11_37 f1_18_0 h_16 (by omega) (show 16 < M.1 by omega) rfl ?_
      refine xj_iload_n (i := 2) d1_11_40 rfl rfl ?_
      refine xj_aaload (j := k) (v := .null) d1_11_41 ((hF.2 19 (Or.inl (by omega)) (by omega) (by omega)).trans k19) (by decide) rfl (by omega) (show 19 < M.1 by omega) (vp_in_nI (by omega) (by omega)) (nI_clamp (by omega)) (by rw [hn0]; rfl) ?_
      refine xj_astore_nN (i := 3) (L' := [(3, .null), (2, .int (nI k)), (1, .ref rd), (0, .ref 16)]) d1_11_42 rfl (by decide) rfl ?_
      refine xj_aload_nN (i := 3) d1_11_43 rfl rfl ?_
      refine xj_ifnullN (tgt := 83) d1_11_44 rfl ?_
      refine xj_iinc (v := nI (k + 1)) (L' := [(2, .int (nI (k + 1))), (3, .null), (1, .ref rd), (0, .ref 16)]) d1_11_83 rfl (xinc _) (by decide) rfl ?_
      refine xj_goto (tgt := 30) d1_11_86 rfl ?_
      refine xj_sub (L' := [(2, .int (nI (k + 1))), (1, .ref rd), (0, .ref 16)]) (fun q hq => by simp only [List.mem_cons, List.not_mem_nil, or_false] at hq ⊢; rcases hq with rfl | rfl | rfl <;> simp) ?_
      skip
      exact ih (k + 1) M μ hx z (by omega) hS hF h_16 h_23 hH (by omega) hZ
    · have hfs : ¬ f s = -1 := by
        rcases hlv k (by omega) with q | ⟨s', s1, s2, s3, -⟩
        · rw [hcs] at q
          exact absurd (show nI s < 0 by rw [q]; decide) (nI_pos (by omega))
        · rw [hcs] at s2
          rw [(nI_eq (by omega) (by omega)).mp s2]
          exact s3
      obtain ⟨⟨v1, v2⟩, tt, tl, g, ⟨t1, t2⟩, h_ve0, h_tt0, hte, htl, hgj⟩ := hver s hs hfs
      obtain ⟨tl', htl', hte', hch'⟩ := hchr s hs
      have htt : tl' = tl := (nI_eq (by omega) (by omega)).mp (hte'.symm.trans hte)
      rw [htt] at hch'
      have hcl1 : (cu k).toNatClampNeg = s := by rw [hcs]; exact nI_clamp (by omega)
      have hcl2 : (te s).toNatClampNeg = tl := by rw [hte]; exact nI_clamp (by omega)
      have hn9 : ¬ cu k < 0 := by rw [hcs]; exact nI_pos (by omega)
      obtain ⟨v20, v21, v22, v23, v24, v25⟩ := v2
      obtain ⟨t20, t21, t22, t23, t24, t25⟩ := t2
      obtain ⟨ve, hvee⟩ : ∃ ve, va s = ve := ⟨_, rfl⟩
      rw [hvee] at hns v1 v20 v21 v22 v23 v24 v25 h_ve0
      have htr9 : tt < rd + 1 ∨ r1 ≤ tt := by omega
      have h_ve := (hF.2 ve (by omega) (by omega) (by omega)).trans h_ve0
      have h_tt := (hF.2 tt (by omega) (by omega) (by omega)).trans h_tt0
      have hch9 : ∀ j, j < tl → tx (40 * s + j) = 10 ∨ ∃ u, u < 95 ∧ tx (40 * s + j) = nI (u + 32) := fun j hj => by
        exact (hch' hfs j hj).imp_right xprt
      have hMy := kMay hg hxn (M := M) (fun j p hp => cN_mv (M' := M) (hS.2.2.2 j p hp) hS.1.2 (fun _ _ => rfl) (fun _ _ _ _ => rfl) (fun _ _ _ => rfl)) hO (show xn ≤ ve by omega) (by omega) (show xn ≤ tt by omega) (by omega) h_ve h_tt htl (A.length - 1) qr hrt
      rw [show yV_mayBeIn qr.1 = Y5_5 by unfold yV_mayBeIn; rw [hr6]; rfl, hWe, show vHas g tl = vHas (fun j => tx (40 * s + j)) tl from vHas_cg hgj] at hMy
      have hstep0 : sNm A tx te cu (r + 1) k z = @ite _ (vY A (vAl (vHas (fun j => tx (40 * s + j)) tl)) (A.length - 1)) (Classical.propDecidable _) (sNm A tx te cu r (k + 1) (z.1 ||| ((1 : Int32) <<< (nI k &&& 31)), sTx A (fun j => tx (40 * s + j)) tl (nI k) (tl + 1) 0 0 0 z.2)) (sNm A tx te cu r (k + 1) z) := by
        rw [show sNm A tx te cu (r + 1) k z = _ from if_neg hn9, hcl1, hcl2]
      by_cases hv : vY A (vAl (vHas (fun j => tx (40 * s + j)) tl)) (A.length - 1)
      · rw [xB_t hv] at hMy
        have hstep := hstep0.trans (if_pos hv)
        rw [hstep] at hZ
        refine xj_iload_n (i := 2) d1_11_30 rfl rfl ?_
        refine xj_bipush (v := 10) d1_11_31 (by decide) ?_
        refine xj_icmp_ge (tgt := 89) d1_11_33 rfl (fun h => absurd h (nI_ge (a := k) (b := 10) (by omega) (by omega))) (fun _ => ?_)
        refine xj_aload_n (i := 0) d1_11_36 rfl rfl ?_
        refine xj_get d1_11_37 f1_18_0 h_16 (by omega) (show 16 < M.1 by omega) rfl ?_
        refine xj_iload_n (i := 2) d1_11_40 rfl rfl ?_
        refine xj_aaload (j := k) (v := .ref ve) d1_11_41 ((hF.2 19 (Or.inl (by omega)) (by omega) (by omega)).trans k19) (by decide) rfl (by omega) (show 19 < M.1 by omega) (vp_in_nI (by omega) (by omega)) (nI_clamp (by omega)) (by rw [hns]; rfl) ?_
        refine xj_astore_n (i := 3) (L' := [(3, .ref ve), (2, .int (nI k)), (1, .ref rd), (0, .ref 16)]) d1_11_42 rfl (by decide) rfl ?_
        refine xj_aload_n (i := 3) d1_11_43 rfl rfl ?_
        refine xj_ifnull d1_11_44 ?_
        refine xj_aload_n (i := 1) d1_11_47 rfl rfl ?_
        refine xj_get d1_11_48 f1_98_4 ((hF.2 rd (Or.inl (by omega)) (by omega) (by omega)).trans k_rd) (by omega) (show rd < M.1 by omega) rfl ?_
        refine xj_aload_n (i := 3) d1_11_51 rfl rfl ?_
        refine xj_callV (rest := []) (As := [.ref ve]) (b := W) hMy d1_11_52 wd5_5 h_W1 (by omega) (show W < M.1 by omega) rfl w825 w824 (Or.inl w823) rfl rfl (Nat.le_of_ble_eq_true rfl) (by omega) (by omega) (by omega) ?_
        rintro v9 M' ⟨rfl, hm9⟩
        subst M'
        refine xj_if_eq (tgt := 83) d1_11_55 rfl (fun h => absurd h (by decide)) (fun _ => ?_)
        refine xj_aload_n (i := 0) d1_11_58 rfl rfl ?_
        refine xj_dup d1_11_59 rfl ?_
        refine xj_get d1_11_60 f1_118_0 h_16 (by omega) (show 16 < M.1 by omega) rfl ?_
        refine xj_iconst (v := 1) d1_11_63 (by decide) ?_
        refine xj_iload_n (i := 2) d1_11_64 rfl rfl ?_
        refine xj_ishl (v := 1 <<< ((nI k) &&& 31)) d1_11_65 rfl ?_
        refine xj_ior (v := z.1 ||| (1 <<< ((nI k) &&& 31))) d1_11_66 rfl ?_
        refine xj_put (a := 16) (fs' := [.ref 17, .int (nI dl), .ref 18, .int (nI pl), .ref rd, .ref 19, .int (nI vc), .ref op, .ref 22, .int (nI tk), .ref 23, .int (nI z.2.length), .int (z.1 ||| (1 <<< ((nI k) &&& 31)))]) d1_11_67 f1_118_0 h_16 (by omega) (show 16 < M.1 by omega) (Nat.le_of_ble_eq_true rfl) rfl rfl rfl ?_
        refine xj_abs_set (fun M1 hs1 ha1 ho1 => ?_)
        refine xj_aload_n (i := 0) d1_11_70 rfl rfl ?_
        refine xj_aload_n (i := 1) d1_11_71 rfl rfl ?_
        refine xj_get d1_11_72 f1_98_4 ((ho1 rd (by omega)).trans ((hF.2 rd (Or.inl (by omega)) (by omega) (by omega)).trans k_rd)) (by omega) (show rd < M1.1 by omega) rfl ?_
        refine xj_aload_n (i := 3) d1_11_75 rfl rfl ?_
        refine xj_get d1_11_76 f1_76_3 ((ho1 ve (by omega)).trans h_ve) (by omega) (show ve < M1.1 by omega) rfl ?_
        refine xj_iload_n (i := 2) d1_11_79 rfl rfl ?_
        have hF7 : kH (rd + 1) r1 M M1 := ⟨(show M1.1 = M.1 by omega), fun y y1 y2 y3 => (ho1 y (by omega))⟩
        have hS7 : kS (rd + 1) r1 ow rk ad A M1 μ := kS_fr hS hk0 (show M.1 ≤ M1.1 by omega) (fun y y1 y2 => (ho1 y (by omega)))
        refine xj_callV (rest := []) (As := [.ref W, .ref tt, .int (nI k)]) (b := 16) (kHits hg hxn hO hrt hr6 hlo0 hk0 hWe (f := (fun j => tx (40 * s + j))) (by omega) (htr9) (by omega) htl hgj hch9 (nm := k) (by omega) (M := M1) hS7 (by omega) ((ho1 tt (by omega)).trans h_tt) ha1 ((ho1 23 (by omega)).trans h_23) hH hzl) d1_11_80 wd1_29 ha1 (by omega) (show 16 < M1.1 by omega) rfl s1_29 w873 (Or.inl w871) rfl rfl (Nat.le_of_ble_eq_true rfl) (by omega) (by omega) (by omega) ?_
        rintro v M6 ⟨rfl, μ6, hx6, hS6, hF6, e16, e23, hH6⟩
        have hm6 := hF6.1
        refine xj_iinc (v := nI (k + 1)) (L' := [(2, .int (nI (k + 1))), (3, .ref ve), (1, .ref rd), (0, .ref 16)]) d1_11_83 rfl (xinc _) (by decide) rfl ?_
        refine xj_goto (tgt := 30) d1_11_86 rfl ?_
        refine xj_sub (L' := [(2, .int (nI (k + 1))), (1, .ref rd), (0, .ref 16)]) (fun q hq => by simp only [List.mem_cons, List.not_mem_nil, or_false] at hq ⊢; rcases hq with rfl | rfl | rfl <;> simp) ?_
        skip
        refine ih (k + 1) M6 μ6 hx6 (_, _) (by omega) hS6 (kH_t hF (kH_t hF7 hF6)) e16 e23 hH6 ?_ hZ
        have h9 := sTx_len (A := A) (f := (fun j => tx (40 * s + j))) (tl := tl) (nm := nI k) (tl + 1) 0 0 0 z.2
        show (sTx A (fun j => tx (40 * s + j)) tl (nI k) (tl + 1) 0 0 0 z.2).length ≤ _
        omega
      · rw [xB_f hv] at hMy
        have hstep := hstep0.trans (if_neg hv)
        rw [hstep] at hZ
        refine xj_iload_n (i := 2) d1_11_30 rfl rfl ?_
        refine xj_bipush (v := 10) d1_11_31 (by decide) ?_
        refine xj_icmp_ge (tgt := 89) d1_11_33 rfl (fun h => absurd h (nI_ge (a := k) (b := 10) (by omega) (by omega))) (fun _ => ?_)
        refine xj_aload_n (i := 0) d1_11_36 rfl rfl ?_
        refine xj_get d1_11_37 f1_18_0 h_16 (by omega) (show 16 < M.1 by omega) rfl ?_
        refine xj_iload_n (i := 2) d1_11_40 rfl rfl ?_
        refine xj_aaload (j := k) (v := .ref ve) d1_11_41 ((hF.2 19 (Or.inl (by omega)) (by omega) (by omega)).trans k19) (by decide) rfl (by omega) (show 19 < M.1 by omega) (vp_in_nI (by omega) (by omega)) (nI_clamp (by omega)) (by rw [hns]; rfl) ?_
        refine xj_astore_n (i := 3) (L' := [(3, .ref ve), (2, .int (nI k)), (1, .ref rd), (0, .ref 16)]) d1_11_42 rfl (by decide) rfl ?_
        refine xj_aload_n (i := 3) d1_11_43 rfl rfl ?_
        refine xj_ifnull d1_11_44 ?_
        refine xj_aload_n (i := 1) d1_11_47 rfl rfl ?_
        refine xj_get d1_11_48 f1_98_4 ((hF.2 rd (Or.inl (by omega)) (by omega) (by omega)).trans k_rd) (by omega) (show rd < M.1 by omega) rfl ?_
        refine xj_aload_n (i := 3) d1_11_51 rfl rfl ?_
        refine xj_callV (rest := []) (As := [.ref ve]) (b := W) hMy d1_11_52 wd5_5 h_W1 (by omega) (show W < M.1 by omega) rfl w825 w824 (Or.inl w823) rfl rfl (Nat.le_of_ble_eq_true rfl) (by omega) (by omega) (by omega) ?_
        rintro v9 M' ⟨rfl, hm9⟩
        subst M'
        refine xj_if_eq (tgt := 83) d1_11_55 rfl (fun _ => ?_) (fun h => absurd (by decide) h)
        refine xj_iinc (v := nI (k + 1)) (L' := [(2, .int (nI (k + 1))), (3, .ref ve), (1, .ref rd), (0, .ref 16)]) d1_11_83 rfl (xinc _) (by decide) rfl ?_
        refine xj_goto (tgt := 30) d1_11_86 rfl ?_
        refine xj_sub (L' := [(2, .int (nI (k + 1))), (1, .ref rd), (0, .ref 16)]) (fun q hq => by simp only [List.mem_cons, List.not_mem_nil, or_false] at hq ⊢; rcases hq with rfl | rfl | rfl <;> simp) ?_
        skip
        exact ih (k + 1) M μ hx z (by omega) hS hF h_16 h_23 hH (by omega) hZ

theorem xsw3b (y : Int32) : y = 0 ∨ y = 1 ∨ y = 2 ∨ (y.toInt < 0 ∨ 2 < y.toInt) := by
  have e : ∀ z : Int32, y.toInt = z.toInt → y = z := fun z h => Int32.toInt_inj.mp h
  have h0 : ((0 : Int32)).toInt = 0 := by decide
  have h1 : ((1 : Int32)).toInt = 1 := by decide
  have h2 : ((2 : Int32)).toInt = 2 := by decide
  by_cases a : y.toInt = 0
  · exact Or.inl (e 0 (by omega))
  · by_cases b : y.toInt = 1
    · exact Or.inr (Or.inl (e 1 (by omega)))
    · by_cases c : y.toInt = 2
      · exact Or.inr (Or.inr (Or.inl (e 2 (by omega))))
      · exact Or.inr (Or.inr (Or.inr (by omega)))
theorem xout3 {y : Int32} (h : y.toInt < 0 ∨ 2 < y.toInt) : y < 0 ∨ 2 < y := by
  rw [Int32.lt_iff_toInt_lt, Int32.lt_iff_toInt_lt, Int32.toInt_zero]
  have h2 : ((2 : Int32)).toInt = 2 := by decide
  omega
theorem xltm1 {x : Int32} (h : ¬ x = -1) (h0 : x < 0) : x < -1 := by
  have e : x.toInt = (-1 : Int32).toInt → x = -1 := fun q => Int32.toInt_inj.mp q
  rw [Int32.lt_iff_toInt_lt] at h0 ⊢
  have h1 : ((-1 : Int32)).toInt = -1 := by decide
  rw [Int32.toInt_zero] at h0
  have h3 : ¬ x.toInt = -1 := fun q => h (e (by omega))
  omega
theorem xnum_0 {P : Nat → Prop} : ∀ N, (∀ k, k < N → ¬ P k) → xnum P N = 0
  | 0, _ => rfl
  | N + 1, h => by rw [xnum_e (h N (by omega)), xnum_0 N (fun k hk => h k (by omega))]
theorem xhas_congr {f g : Nat → Int32} {l : Nat} {a b c : Int32} (h : ∀ j, j < l → f j = g j) : xhas f l a b c ↔ xhas g l a b c := by
  refine ⟨fun q => ?_, fun q => ?_⟩
  · obtain ⟨j, h1, h2, h3, h4⟩ := q
    exact ⟨j, h1, (h j (by omega)).symm.trans h2, (h (j + 1) (by omega)).symm.trans h3, (h (j + 2) h1).symm.trans h4⟩
  · obtain ⟨j, h1, h2, h3, h4⟩ := q
    exact ⟨j, h1, (h j (by omega)).trans h2, (h (j + 1) (by omega)).trans h3, (h (j + 2) h1).trans h4⟩
set_option maxHeartbeats 1000000 in
theorem oShard {G : xG} (hg : xGood G) (hxn : xn = 16)  {RD : xM → Nat → Nat → Nat → (Nat → Int32) → Nat → Prop} (hRD : xRs RD) {c : Nat} {M : xM} (hI : xInv RD c M) (hc5 : c < 512) {x y : Int32} : xOp G RD c M Y1_15 Y14_12 (some .int) [.int x, .int y] := by
  obtain ⟨f, li, tx, te, cu, le, fd, fp, fh, fx, px, hx, sn, vc, tk, dl, pl, hc, sr, pn, lr, va, S, T, ov, es, op, ol, oe, r0, r1, hM, hC, hG, hR⟩ := hI
  have h52 := hC.2.2.2.2.1.1
  obtain ⟨c16, c17, c18, c23, cS⟩ := id hC
  obtain ⟨⟨y13, y22, y23, y24, y33, y36, y37, m24⟩, m25, m26, m27, m28, m29, m30, m31, m32, m51, mw⟩ := id hM
  have hAbs := cS.2.2.2.1
  have hOv := cS.2.2.2.2.1
  have hStp := cS.1
  obtain ⟨Bn, hLvl, hBn⟩ := id cS.2.2.2.2.2.2.2.2.2
  have hvc : vc ≤ 512 := by have := hG.2.2.2.2; omega
  have hT8 := xLvl_len hLvl (show Bn ≤ 171 by omega)
  rw [hAbs.1] at hT8
  have hxl : xcnt f 99 128 = ov.length := by
    rw [xcnt_len, hOv.length_eq, List.length_map]
    rfl
  have h_op := hStp.2.2.2.2.2.2.2.2.2.1
  have hLo := hStp.2.2.2.2.2.2.2.2.2.2
  obtain ⟨el, mo, h_ol, hlt⟩ := xLs_len hLo
  have hLs := hStp.2.2.2.2.2.2.2.1
  obtain ⟨el2, mo2, h_22, hlt2⟩ := xLs_len hLs
  have hR2 := hStp.2.2.2.2.2.2.2.2.1
  have hSl : S.length = sn := hR2.1.trans hAbs.1
  rw [hSl] at h_22
  have hop1 := hStp.2.2.2.1.1
  have hop2 := hStp.2.2.2.1.2.1
  have hol1 := hStp.2.2.2.2.1.1
  have hol2 := hStp.2.2.2.2.1.2.1
  have hus : ∀ s, s < 128 → f s = 99 → ¬ f s = -1 := fun s _ e => by rw [e]; decide
  have huk : ∀ k, k < sn → ∀ s, s < 128 → f s = nI k → ¬ f s = -1 := fun k hk s _ e => by rw [e]; exact fun q => xneg1 (by omega) q.symm
  have hwo : ∀ w ∈ ov, xVw M w := fun w hw => by
    obtain ⟨s, hs, rfl⟩ := List.mem_map.mp (hOv.mem_iff.mp hw)
    obtain ⟨s1, s2⟩ := xsl_mem.mp hs
    exact (xVw_of cS.2.1 s1 (hus s s1 s2)).1
  have hwk : ∀ k q, T[k]? = some q → k < sn ∧ ∀ w ∈ q.2, xVw M w := fun k q hq => by
    have hk : k < sn := by rw [← hAbs.1]; exact (List.getElem?_eq_some_iff.mp hq).1
    refine ⟨hk, fun w hw => ?_⟩
    obtain ⟨s, hs, rfl⟩ := List.mem_map.mp ((hAbs.2.1 k q hq).2.mem_iff.mp hw)
    obtain ⟨s1, s2⟩ := xsl_mem.mp hs
    exact (xVw_of cS.2.1 s1 (huk k hk s s1 s2)).1
  by_cases hx1 : x = -1
  · subst hx1
    rcases xsw3b y with rfl | rfl | rfl | hy
    · refine ⟨0, fun M' => M' = M, xc_wk (xShM0 hg rfl (by omega) (by omega) (by omega) c16 (by omega) hop2 h_op (by omega) hol2 h_ol) (by omega) (by omega) (by omega) (fun v M' h => ⟨h.1, h.2⟩), fun M' hq => ?_⟩
      subst hq
      exact ⟨⟨h52, _, m24⟩, xc_wk (mShM0 hg rfl (by omega) (by omega) (by omega) m24 (by omega) (by omega) m28 (by omega) (by omega) m27 (by omega) (by omega) m30 (by omega)) (by omega) (by omega) (by omega) (fun v M'' h => ⟨h.1, by rw [h.2]; exact ⟨f, li, tx, te, cu, le, fd, fp, fh, fx, px, hx, sn, vc, tk, dl, pl, hc, sr, pn, lr, va, S, T, ov, es, op, ol, oe, r0, r1, hM, hC, xIg_c hG, hR⟩⟩)⟩
    · refine ⟨nI ov.length, fun M' => M' = M, xc_wk (xShM1 hg rfl (by omega) (by omega) (by omega) c16 (by omega) hop2 h_op (by omega) hol2 h_ol) (by omega) (by omega) (by omega) (fun v M' h => ⟨h.1, h.2⟩), fun M' hq => ?_⟩
      subst hq
      exact ⟨⟨h52, _, m24⟩, xc_wk (mShM1 hg rfl (by omega) (by omega) (by omega) m24 (by omega) (by omega) m28 (by omega) (by omega) m27 (by omega) (by omega) m30 (by omega)) (by omega) (by omega) (by omega) (fun v M'' h => ⟨h.1.trans (by rw [hxl]), by rw [h.2]; exact ⟨f, li, tx, te, cu, le, fd, fp, fh, fx, px, hx, sn, vc, tk, dl, pl, hc, sr, pn, lr, va, S, T, ov, es, op, ol, oe, r0, r1, hM, hC, xIg_c hG, hR⟩⟩)⟩
    · have hlv := xliv (lv := xLvM M) hOv (fun s s1 s2 => (xVw_of cS.2.1 s1 (hus s s1 s2)).2.1)
      refine ⟨nI (xcl f li 99 128), fun M' => M' = M, xc_wk (xShM2 hg rfl (by omega) (by omega) (by omega) c16 (by omega) hop2 h_op (by omega) hol2 h_ol (xLivS hg hxn (by omega) hop2 (by omega) hol2 h_op hLo hwo)) (by omega) (by omega) (by omega) (fun v M' h => ⟨h.1.trans (by rw [hlv]), h.2⟩), fun M' hq => ?_⟩
      subst hq
      exact ⟨⟨h52, _, m24⟩, xc_wk (mShM2 hg rfl (by omega) (by omega) (by omega) m24 (by omega) (by omega) m28 (by omega) (by omega) m27 (by omega) (by omega) m30 (by omega)) (by omega) (by omega) (by omega) (fun v M'' h => ⟨h.1, by rw [h.2]; exact ⟨f, li, tx, te, cu, le, fd, fp, fh, fx, px, hx, sn, vc, tk, dl, pl, hc, sr, pn, lr, va, S, T, ov, es, op, ol, oe, r0, r1, hM, hC, xIg_c hG, hR⟩⟩)⟩
    · refine ⟨(-1), fun M' => M' = M, xc_wk (xShMO hg rfl (by omega) (by omega) (by omega) c16 (by omega) hop2 h_op hy) (by omega) (by omega) (by omega) (fun v M' h => ⟨h.1, h.2⟩), fun M' hq => ?_⟩
      subst hq
      exact ⟨⟨h52, _, m24⟩, xc_wk (mShO hg rfl (by omega) (by omega) (by omega) m24 (Or.inr (Or.inr (xout3 hy)))) (by omega) (by omega) (by omega) (fun v M'' h => ⟨h.1, by rw [h.2]; exact ⟨f, li, tx, te, cu, le, fd, fp, fh, fx, px, hx, sn, vc, tk, dl, pl, hc, sr, pn, lr, va, S, T, ov, es, op, ol, oe, r0, r1, hM, hC, xIg_c hG, hR⟩⟩)⟩
  · by_cases hxo : x < 0 ∨ nI sn ≤ x
    · refine ⟨(-1), fun M' => M' = M, xc_wk (xShO hg rfl (by omega) (by omega) (by omega) c16 (by omega) (by omega) h_22 hx1 hxo) (by omega) (by omega) (by omega) (fun v M' h => ⟨h.1, h.2⟩), fun M' hq => ?_⟩
      subst hq
      exact ⟨⟨h52, _, m24⟩, xc_wk (mShO hg rfl (by omega) (by omega) (by omega) m24 (hxo.elim (fun q => Or.inl (xltm1 hx1 q)) (fun q => Or.inr (Or.inl q)))) (by omega) (by omega) (by omega) (fun v M'' h => ⟨h.1, by rw [h.2]; exact ⟨f, li, tx, te, cu, le, fd, fp, fh, fx, px, hx, sn, vc, tk, dl, pl, hc, sr, pn, lr, va, S, T, ov, es, op, ol, oe, r0, r1, hM, hC, xIg_c hG, hR⟩⟩)⟩
    · obtain ⟨k, hk1, rfl⟩ := xInt_ex (fun q => hxo (Or.inl q))
      have hk : k < sn := Classical.byContradiction fun q => hxo (Or.inr (nI_le (by omega) hk1))
      obtain ⟨a, ha⟩ : ∃ a, S[k]? = some a := ⟨_, List.getElem?_eq_getElem (by omega)⟩
      obtain ⟨q, hq⟩ : ∃ q, T[k]? = some q := ⟨_, List.getElem?_eq_getElem (by rw [hAbs.1]; exact hk)⟩
      obtain ⟨fa, l, fl, h_a, hLl⟩ := hR2.2 k a q ha hq
      obtain ⟨el3, mo3, h_l, hlt3⟩ := xLs_len hLl
      have ba1 := fa.1.1
      have ba2 := fa.1.2.1
      have bl1 := fl.1.1
      have bl2 := fl.1.2.1
      obtain ⟨hq1, hq2⟩ := hAbs.2.1 k q hq
      have hGt := xLs_get hg hLs (by omega) (by omega) ha
      have hxk : xcnt f (nI k) 128 = q.2.length := by
        rw [xcnt_len, hq2.length_eq, List.length_map]
        rfl
      rcases xsw3b y with rfl | rfl | rfl | hy
      · refine ⟨le k, fun M' => M' = M, xc_wk (xShK0 hg rfl (by omega) (by omega) (by omega) c16 (by omega) (by omega) h_22 (by omega) ba2 h_a (by omega) bl2 h_l hk (by omega) hGt) (by omega) (by omega) (by omega) (fun v M' h => ⟨h.1.trans (by rw [hq1]), h.2⟩), fun M' hq => ?_⟩
        subst hq
        exact ⟨⟨h52, _, m24⟩, xc_wk (mShK0 hg rfl (by omega) (by omega) (by omega) m24 (by omega) (by omega) m28 (by omega) (by omega) m27 (by omega) (by omega) m30 (by omega) hk) (by omega) (by omega) (by omega) (fun v M'' h => ⟨h.1, by rw [h.2]; exact ⟨f, li, tx, te, cu, le, fd, fp, fh, fx, px, hx, sn, vc, tk, dl, pl, hc, sr, pn, lr, va, S, T, ov, es, op, ol, oe, r0, r1, hM, hC, xIg_c hG, hR⟩⟩)⟩
      · refine ⟨nI q.2.length, fun M' => M' = M, xc_wk (xShK1 hg rfl (by omega) (by omega) (by omega) c16 (by omega) (by omega) h_22 (by omega) ba2 h_a (by omega) bl2 h_l hk (by omega) hGt) (by omega) (by omega) (by omega) (fun v M' h => ⟨h.1, h.2⟩), fun M' hq => ?_⟩
        subst hq
        exact ⟨⟨h52, _, m24⟩, xc_wk (mShK1 hg rfl (by omega) (by omega) (by omega) m24 (by omega) (by omega) m28 (by omega) (by omega) m27 (by omega) (by omega) m30 (by omega) hk) (by omega) (by omega) (by omega) (fun v M'' h => ⟨h.1.trans (by rw [hxk]), by rw [h.2]; exact ⟨f, li, tx, te, cu, le, fd, fp, fh, fx, px, hx, sn, vc, tk, dl, pl, hc, sr, pn, lr, va, S, T, ov, es, op, ol, oe, r0, r1, hM, hC, xIg_c hG, hR⟩⟩)⟩
      · have hlv := xliv (lv := xLvM M) hq2 (fun s s1 s2 => (xVw_of cS.2.1 s1 (huk k hk s s1 s2)).2.1)
        refine ⟨nI (xcl f li (nI k) 128), fun M' => M' = M, xc_wk (xShK2 hg rfl (by omega) (by omega) (by omega) c16 (by omega) (by omega) h_22 (by omega) ba2 h_a (by omega) bl2 h_l hk (by omega) hGt (xLivS hg hxn (by omega) ba2 (by omega) bl2 h_a hLl (hwk k q hq).2)) (by omega) (by omega) (by omega) (fun v M' h => ⟨h.1.trans (by rw [hlv]), h.2⟩), fun M' hq => ?_⟩
        subst hq
        exact ⟨⟨h52, _, m24⟩, xc_wk (mShK2 hg rfl (by omega) (by omega) (by omega) m24 (by omega) (by omega) m28 (by omega) (by omega) m27 (by omega) (by omega) m30 (by omega) hk) (by omega) (by omega) (by omega) (fun v M'' h => ⟨h.1, by rw [h.2]; exact ⟨f, li, tx, te, cu, le, fd, fp, fh, fx, px, hx, sn, vc, tk, dl, pl, hc, sr, pn, lr, va, S, T, ov, es, op, ol, oe, r0, r1, hM, hC, xIg_c hG, hR⟩⟩)⟩
      · refine ⟨(-1), fun M' => M' = M, xc_wk (xShKO hg rfl (by omega) (by omega) (by omega) c16 (by omega) (by omega) h_22 (by omega) ba2 h_a hk (by omega) hGt hy) (by omega) (by omega) (by omega) (fun v M' h => ⟨h.1, h.2⟩), fun M' hq => ?_⟩
        subst hq
        exact ⟨⟨h52, _, m24⟩, xc_wk (mShO hg rfl (by omega) (by omega) (by omega) m24 (Or.inr (Or.inr (xout3 hy)))) (by omega) (by omega) (by omega) (fun v M'' h => ⟨h.1, by rw [h.2]; exact ⟨f, li, tx, te, cu, le, fd, fp, fh, fx, px, hx, sn, vc, tk, dl, pl, hc, sr, pn, lr, va, S, T, ov, es, op, ol, oe, r0, r1, hM, hC, xIg_c hG, hR⟩⟩)⟩
set_option maxHeartbeats 1000000 in
theorem oPostings {G : xG} (hg : xGood G) (hxn : xn = 16)  {RD : xM → Nat → Nat → Nat → (Nat → Int32) → Nat → Prop} (hRD : xRs RD) {c : Nat} {M : xM} (hI : xInv RD c M) (hc5 : c < 512) {u v1 w3 : Int32} : xOp G RD c M Y1_16 Y14_16 (some .int) [.int u, .int v1, .int w3] := by
  obtain ⟨f, li, tx, te, cu, le, fd, fp, fh, fx, px, hx, sn, vc, tk, dl, pl, hc, sr, pn, lr, va, S, T, ov, es, op, ol, oe, r0, r1, hM, hC, hG, hR⟩ := hI
  have h52 := hC.2.2.2.2.1.1
  obtain ⟨c16, c17, c18, c23, cS⟩ := id hC
  obtain ⟨⟨y13, y22, y23, y24, y33, y36, y37, m24⟩, m25, m26, m27, m28, m29, m30, m31, m32, m51, mw⟩ := id hM
  have hAbs := cS.2.2.2.1
  have hOv := cS.2.2.2.2.1
  have hStp := cS.1
  obtain ⟨Bn, hLvl, hBn⟩ := id cS.2.2.2.2.2.2.2.2.2
  have hvc : vc ≤ 512 := by have := hG.2.2.2.2; omega
  have hT8 := xLvl_len hLvl (show Bn ≤ 171 by omega)
  rw [hAbs.1] at hT8
  have hxl : xcnt f 99 128 = ov.length := by
    rw [xcnt_len, hOv.length_eq, List.length_map]
    rfl
  have h_op := hStp.2.2.2.2.2.2.2.2.2.1
  have hLo := hStp.2.2.2.2.2.2.2.2.2.2
  obtain ⟨el, mo, h_ol, hlt⟩ := xLs_len hLo
  have hLs := hStp.2.2.2.2.2.2.2.1
  obtain ⟨el2, mo2, h_22, hlt2⟩ := xLs_len hLs
  have hR2 := hStp.2.2.2.2.2.2.2.2.1
  have hSl : S.length = sn := hR2.1.trans hAbs.1
  rw [hSl] at h_22
  have hop1 := hStp.2.2.2.1.1
  have hop2 := hStp.2.2.2.1.2.1
  have hol1 := hStp.2.2.2.2.1.1
  have hol2 := hStp.2.2.2.2.1.2.1
  have hus : ∀ s, s < 128 → f s = 99 → ¬ f s = -1 := fun s _ e => by rw [e]; decide
  have huk : ∀ k, k < sn → ∀ s, s < 128 → f s = nI k → ¬ f s = -1 := fun k hk s _ e => by rw [e]; exact fun q => xneg1 (by omega) q.symm
  have hwo : ∀ w ∈ ov, xVw M w := fun w hw => by
    obtain ⟨s, hs, rfl⟩ := List.mem_map.mp (hOv.mem_iff.mp hw)
    obtain ⟨s1, s2⟩ := xsl_mem.mp hs
    exact (xVw_of cS.2.1 s1 (hus s s1 s2)).1
  have hwk : ∀ k q, T[k]? = some q → k < sn ∧ ∀ w ∈ q.2, xVw M w := fun k q hq => by
    have hk : k < sn := by rw [← hAbs.1]; exact (List.getElem?_eq_some_iff.mp hq).1
    refine ⟨hk, fun w hw => ?_⟩
    obtain ⟨s, hs, rfl⟩ := List.mem_map.mp ((hAbs.2.1 k q hq).2.mem_iff.mp hw)
    obtain ⟨s1, s2⟩ := xsl_mem.mp hs
    exact (xVw_of cS.2.1 s1 (huk k hk s s1 s2)).1
  have hte : ∀ k, k < 128 → te k = nI ((te k).toNatClampNeg) := fun k hk => by
    obtain ⟨tl, a, b, -⟩ := hG.2.2.2.1 k hk
    rw [b, nI_clamp (by omega)]
  have htl : ∀ k, k < 128 → (te k).toNatClampNeg ≤ 40 := fun k hk => by
    obtain ⟨tl, a, b, -⟩ := hG.2.2.2.1 k hk
    rw [b, nI_clamp (by omega)]
    exact a
  have hF : ∀ z, xFr es op ol oe r0 r1 M.1 z → 16 ≤ z ∧ z < M.1 := fun z hz => ⟨Nat.le_trans (by decide) hz.1.1, hz.1.2.1⟩
  have hmp := fun (tls : Nat → Nat) (e1 : ∀ k, k < 128 → te k = nI (tls k)) (e2 : ∀ k, k < 128 → tls k ≤ 40) => mPost (tls := tls) (u := u) (v1 := v1) (w := w3) hg rfl (show xn ≤ M.1 by omega) (by omega) (by omega) m24 (by omega) (by omega) m25 (by omega) (by omega) m26 (by omega) (by omega) m28 hxn h52 e1 e2
  have hmq := hmp (fun k => (te k).toNatClampNeg) hte htl
  by_cases hch : (u = 10 ∨ (¬ u < 32 ∧ ¬ 126 < u)) ∧ (v1 = 10 ∨ (¬ v1 < 32 ∧ ¬ 126 < v1)) ∧ (w3 = 10 ∨ (¬ w3 < 32 ∧ ¬ 126 < w3))
  · have hsum := xhav (H := fun s => xhas (fun j => tx (40 * s + j)) ((te s).toNatClampNeg) u v1 w3) (h := xhb M u v1 w3) hAbs (by omega) hOv (fun s hs hu => by
      obtain ⟨z1, z2, z3, z4⟩ := xVw_of cS.2.1 hs hu
      have z5 : (te s).toNatClampNeg = xTlM M (va s) := by rw [z3, nI_clamp (by have := z1.2.2.2.2; omega)]
      rw [← xhb_iff, z5]
      exact xhas_congr (fun j hj => (z4 j hj).symm))
    refine ⟨nI (xnum (fun k => ¬ f k < 0 ∧ xhas (fun j => tx (40 * k + j)) ((te k).toNatClampNeg) u v1 w3) 128), fun M' => M' = M, xc_wk (xPostY hg hxn h52 c16 hLs hR2 hF (fun q hq => by obtain ⟨k, hk⟩ := List.mem_iff_getElem?.mp hq; exact (hwk k q hk).2) h_op (by omega) hop2 (by omega) hol2 hLo hwo hch.1 hch.2.1 hch.2.2) (by omega) (by omega) (by omega) (fun v M' h => ⟨h.1.trans (by rw [hsum, hSl]; rfl), h.2⟩), fun M' hq => ?_⟩
    subst hq
    exact ⟨⟨h52, _, m24⟩, xc_wk (hmq) (by omega) (by omega) (by omega) (fun v M'' h => ⟨h.1, by rw [h.2]; exact ⟨f, li, tx, te, cu, le, fd, fp, fh, fx, px, hx, sn, vc, tk, dl, pl, hc, sr, pn, lr, va, S, T, ov, es, op, ol, oe, r0, r1, hM, hC, xIg_c hG, hR⟩⟩)⟩
  · have hz : xnum (fun k => ¬ f k < 0 ∧ xhas (fun j => tx (40 * k + j)) ((te k).toNatClampNeg) u v1 w3) 128 = 0 := xnum_0 128 (fun k hk q => by
      obtain ⟨tl, a, b, d⟩ := hG.2.2.2.1 k hk
      have hu : ¬ f k = -1 := fun e => q.1 (by rw [e]; decide)
      obtain ⟨j, h1, h2, h3, h4⟩ := q.2
      rw [b, nI_clamp (by omega)] at h1
      have d1 := d hu j (by omega)
      have d2 := d hu (j + 1) (by omega)
      have d3 := d hu (j + 2) h1
      rw [show tx (40 * k + j) = u from h2] at d1
      rw [show tx (40 * k + (j + 1)) = v1 from h3] at d2
      rw [show tx (40 * k + (j + 2)) = w3 from h4] at d3
      exact hch ⟨d1, d2, d3⟩)
    refine ⟨0, fun M' => M' = M, xc_wk (xPostN hg rfl (by omega) (by omega) (by omega) c16 hch) (by omega) (by omega) (by omega) (fun v M' h => ⟨h.1, h.2⟩), fun M' hq => ?_⟩
    subst hq
    exact ⟨⟨h52, _, m24⟩, xc_wk (hmq) (by omega) (by omega) (by omega) (fun v M'' h => ⟨h.1.trans (by rw [hz]; rfl), by rw [h.2]; exact ⟨f, li, tx, te, cu, le, fd, fp, fh, fx, px, hx, sn, vc, tk, dl, pl, hc, sr, pn, lr, va, S, T, ov, es, op, ol, oe, r0, r1, hM, hC, xIg_c hG, hR⟩⟩)⟩

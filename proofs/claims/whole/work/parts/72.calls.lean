theorem xInt_ex {c : Int32} (h0 : ¬ c < 0) : ∃ k, k < 2 ^ 31 ∧ c = nI k := by
  have h1 : 0 ≤ c.toInt := by
    rw [Int32.lt_iff_toInt_lt, Int32.toInt_zero] at h0
    omega
  have h2 := Int32.toInt_lt c
  refine ⟨c.toInt.toNat, by omega, Int32.toInt_inj.mp ?_⟩
  rw [nI_toInt (by omega)]
  omega
theorem xName_ex {c : Int32} (h : ¬ c < 0 ∧ ¬ 10 ≤ c) : ∃ k, k < 10 ∧ c = nI k := by
  obtain ⟨k, h1, h2⟩ := xInt_ex h.1
  refine ⟨k, ?_, h2⟩
  have h3 := h.2
  rw [h2, Int32.le_iff_toInt_le, nI_toInt h1] at h3
  have h4 : ((10 : Int32)).toInt = 10 := by decide
  omega
theorem xName_no {c : Int32} (h : ¬ (¬ c < 0 ∧ ¬ 10 ≤ c)) : c < 0 ∨ 9 < c := by
  by_cases q : c < 0
  · exact Or.inl q
  · refine Or.inr ?_
    have q2 : 10 ≤ c := Classical.byContradiction fun z => h ⟨q, z⟩
    rw [Int32.le_iff_toInt_le] at q2
    rw [Int32.lt_iff_toInt_lt]
    have h4 : ((10 : Int32)).toInt = 10 := by decide
    have h5 : ((9 : Int32)).toInt = 9 := by decide
    omega
theorem xCu_ex {f li cu : Nat → Int32} {k : Nat} (h : xIp f li cu) (hk : k < 10) : cu k = -1 ∨ ∃ s, s < 128 ∧ cu k = nI s := (h.1 k hk).imp_right (fun q => by
  obtain ⟨s, a, b, -⟩ := q
  exact ⟨s, a, b⟩)
theorem oType {G : xG} (hg : xGood G) (hxn : xn = 16)  {RD : xM → Nat → Nat → Nat → (Nat → Int32) → Nat → Prop} (hRD : xRs RD) {c : Nat} {M : xM} (hI : xInv RD c M) {x : Int32} (hnr : vp_nar .char x = x) : xOp G RD c M Y1_6 Y14_17 (some .boolean) [.int x] := by
  obtain ⟨f, li, tx, te, cu, le, fd, fp, fh, fx, px, hx, sn, vc, tk, dl, pl, hc, sr, pn, lr, va, S, T, ov, es, op, ol, oe, r0, r1, hM, hC, hG, hR⟩ := hI
  have h52 := hC.2.2.2.2.1.1
  obtain ⟨c16, c17, c18, c23, cS⟩ := id hC
  obtain ⟨⟨y13, y22, y23, y24, y33, y36, y37, m24⟩, m25, m26, m27, m28, m29, m30, m31, m32, m51, mw⟩ := id hM
  by_cases hch : ¬ x < 32 ∧ ¬ 126 < x
  · by_cases hpl : pl < 24
    · refine ⟨1, fun M' => xIc M' f li tx te cu le fx (upd px pl x) hx sn vc tk dl (pl + 1) hc pn .null va S T ov es op ol oe 0 0 ∧ xIm M' f li tx te cu le fd fp fh sn vc tk dl pl hc sr pn ∧ xRr RD M' .null 0 0 (upd fp pl x) (pl + 1), xc_wk (xTypeY hg rfl (by omega) (by omega) (by omega) c16 (by omega) (by omega) c18 hch hpl hnr) (by omega) (by omega) (by omega) ?_, fun M' hq => ?_⟩
      · rintro v M' ⟨rfl, e1, e2, e3, e4⟩
        refine ⟨rfl, ⟨e4, (e2 17 (by omega) (by omega) (by omega)).trans c17, e3, (e2 23 (by omega) (by omega) (by omega)).trans c23, xSt_r (xSt_fr hxn cS (by omega) (fun j hj hp => e2 j hj ?_ ?_)) (fun x h => xPl_0 h) (Nat.zero_le _)⟩, xIm_fr hM (fun j a b => e2 j (by omega) (by omega) (by omega)), Or.inl ⟨rfl, rfl, rfl⟩⟩
        · unfold xPl at hp; omega
        · unfold xPl at hp; omega
      · obtain ⟨hC', ⟨⟨y13, y22, y23, y24, y33, y36, y37, n24⟩, n25, n26, n27, n28, n29, n30, n31, n32, n51, nw⟩, hR'⟩ := hq
        have h52' := hC'.2.2.2.2.1.1
        refine ⟨⟨h52', _, n24⟩, xc_wk (mTypeY hg rfl (by omega) (by omega) (by omega) n24 (by omega) (by omega) n32 hch hpl) (by omega) (by omega) (by omega) ?_⟩
        rintro v M'' ⟨rfl, e1, e2, e3, e4⟩
        have hC2 := xIc_fr hxn hC' e1 (fun j a b => e2 j (by omega) (by omega) (by omega))
        have hM2 : xIm M'' f li tx te cu le fd (upd fp pl x) fh sn vc tk dl (pl + 1) hc sr pn := ⟨⟨y13, y22, y23, y24, y33, y36, y37, e4⟩, (e2 25 (by omega) (by omega) (by omega)).trans n25, (e2 26 (by omega) (by omega) (by omega)).trans n26, (e2 27 (by omega) (by omega) (by omega)).trans n27, (e2 28 (by omega) (by omega) (by omega)).trans n28, (e2 29 (by omega) (by omega) (by omega)).trans n29, (e2 30 (by omega) (by omega) (by omega)).trans n30, (e2 31 (by omega) (by omega) (by omega)).trans n31, e3, (e2 51 (by omega) (by omega) (by omega)).trans n51, xMw_fr nw (fun j a b => (e2 j (by omega) (by omega) (by omega)))⟩
        refine ⟨rfl, f, li, tx, te, cu, le, fd, upd fp pl x, fh, fx, upd px pl x, hx, sn, vc, tk, dl, pl + 1, hc, sr, pn, .null, va, S, T, ov, es, op, ol, oe, 0, 0, hM2, hC2, ⟨hG.1, ⟨by omega, fun j hj => ?_⟩, hG.2.2.1, hG.2.2.2.1, Nat.le_succ_of_le hG.2.2.2.2⟩, Or.inl ⟨rfl, rfl, rfl⟩⟩
        by_cases q : j = pl
        · rw [show upd px pl x j = x from if_pos q, show upd fp pl x j = x from if_pos q]; exact ⟨rfl, hch⟩
        · rw [show upd px pl x j = px j from if_neg q, show upd fp pl x j = fp j from if_neg q]; exact hG.2.1.2 j (by omega)
    · have hp24 : pl = 24 := by have := hG.2.1.1; omega
      refine ⟨0, fun M' => M' = M, xc_wk (xTypeF hg rfl (by omega) (by omega) (by omega) c16 hch hp24) (by omega) (by omega) (by omega) (fun v M' h => ⟨h.1, h.2⟩), fun M' hq => ?_⟩
      subst hq
      exact ⟨⟨h52, _, m24⟩, xc_wk (mTypeF hg rfl (by omega) (by omega) (by omega) m24 hch hp24) (by omega) (by omega) (by omega) (fun v M'' h => ⟨h.1, by rw [h.2]; exact ⟨f, li, tx, te, cu, le, fd, fp, fh, fx, px, hx, sn, vc, tk, dl, pl, hc, sr, pn, lr, va, S, T, ov, es, op, ol, oe, r0, r1, hM, hC, xIg_c hG, hR⟩⟩)⟩
  · refine ⟨0, fun M' => M' = M, xc_wk (xTypeN hg rfl (by omega) (by omega) (by omega) c16 hch) (by omega) (by omega) (by omega) (fun v M' h => ⟨h.1, h.2⟩), fun M' hq => ?_⟩
    subst hq
    exact ⟨⟨h52, _, m24⟩, xc_wk (mTypeN hg rfl (by omega) (by omega) (by omega) m24 hch) (by omega) (by omega) (by omega) (fun v M'' h => ⟨h.1, by rw [h.2]; exact ⟨f, li, tx, te, cu, le, fd, fp, fh, fx, px, hx, sn, vc, tk, dl, pl, hc, sr, pn, lr, va, S, T, ov, es, op, ol, oe, r0, r1, hM, hC, xIg_c hG, hR⟩⟩)⟩
theorem oBack {G : xG} (hg : xGood G) (hxn : xn = 16)  {RD : xM → Nat → Nat → Nat → (Nat → Int32) → Nat → Prop} (hRD : xRs RD) {c : Nat} {M : xM} (hI : xInv RD c M)  : xOp G RD c M Y1_7 Y14_18 (some .int) [] := by
  obtain ⟨f, li, tx, te, cu, le, fd, fp, fh, fx, px, hx, sn, vc, tk, dl, pl, hc, sr, pn, lr, va, S, T, ov, es, op, ol, oe, r0, r1, hM, hC, hG, hR⟩ := hI
  have h52 := hC.2.2.2.2.1.1
  obtain ⟨c16, c17, c18, c23, cS⟩ := id hC
  obtain ⟨⟨y13, y22, y23, y24, y33, y36, y37, m24⟩, m25, m26, m27, m28, m29, m30, m31, m32, m51, mw⟩ := id hM
  by_cases hp0 : pl = 0
  · subst hp0
    refine ⟨nI 0, fun M' => M' = M, xc_wk (xBackN (pl := 0) hg rfl (by omega) (by omega) (by omega) c16) (by omega) (by omega) (by omega) (fun v M' h => ⟨h.1, h.2⟩), fun M' hq => ?_⟩
    subst hq
    refine ⟨⟨h52, _, m24⟩, xc_wk (mBackN (pl := 0) hg rfl (by omega) (by omega) (by omega) m24) (by omega) (by omega) (by omega) ?_⟩
    rintro v M'' ⟨rfl, e1, e2, e4⟩
    have nw := mw
    have hC2 := xIc_fr hxn hC e1 (fun j a b => e2 j (by omega) (by omega))
    have hM2 : xIm M'' f li tx te cu le fd fp fh sn vc tk dl 0 hc sr pn := ⟨⟨y13, y22, y23, y24, y33, y36, y37, e4⟩, (e2 25 (by omega) (by omega)).trans m25, (e2 26 (by omega) (by omega)).trans m26, (e2 27 (by omega) (by omega)).trans m27, (e2 28 (by omega) (by omega)).trans m28, (e2 29 (by omega) (by omega)).trans m29, (e2 30 (by omega) (by omega)).trans m30, (e2 31 (by omega) (by omega)).trans m31, (e2 32 (by omega) (by omega)).trans m32, (e2 51 (by omega) (by omega)).trans m51, xMw_fr nw (fun j a b => (e2 j (by omega) (by omega)))⟩
    exact ⟨rfl, f, li, tx, te, cu, le, fd, fp, fh, fx, px, hx, sn, vc, tk, dl, 0, hc, sr, pn, lr, va, S, T, ov, es, op, ol, oe, r0, r1, hM2, hC2, xIg_c hG, xRr_fr hRD hR (by omega) (fun j a b d => e2 j (by have := cS.1.2.1; omega) (by omega))⟩
  · obtain ⟨p, rfl⟩ : ∃ p, pl = p + 1 := ⟨pl - 1, by omega⟩
    have hp23 : p < 24 := by have := hG.2.1.1; omega
    refine ⟨nI p, fun M' => xIc M' f li tx te cu le fx px hx sn vc tk dl p hc pn .null va S T ov es op ol oe 0 0 ∧ xIm M' f li tx te cu le fd fp fh sn vc tk dl (p + 1) hc sr pn ∧ xRr RD M' .null 0 0 fp p, xc_wk (xBackY hg rfl (by omega) (by omega) (by omega) c16 hp23) (by omega) (by omega) (by omega) ?_, fun M' hq => ?_⟩
    · rintro v M' ⟨rfl, e1, e2, e4⟩
      refine ⟨rfl, ⟨e4, (e2 17 (by omega) (by omega)).trans c17, (e2 18 (by omega) (by omega)).trans c18, (e2 23 (by omega) (by omega)).trans c23, xSt_r (xSt_fr hxn cS (by omega) (fun j hj hp => e2 j hj ?_)) (fun x h => xPl_0 h) (Nat.zero_le _)⟩, xIm_fr hM (fun j a b => e2 j (by omega) (by omega)), Or.inl ⟨rfl, rfl, rfl⟩⟩
      unfold xPl at hp; omega
    · obtain ⟨hC', ⟨⟨y13, y22, y23, y24, y33, y36, y37, n24⟩, n25, n26, n27, n28, n29, n30, n31, n32, n51, nw⟩, hR'⟩ := hq
      have h52' := hC'.2.2.2.2.1.1
      refine ⟨⟨h52', _, n24⟩, xc_wk (mBackY hg rfl (by omega) (by omega) (by omega) n24 hp23) (by omega) (by omega) (by omega) ?_⟩
      rintro v M'' ⟨rfl, e1, e2, e4⟩
      have hC2 := xIc_fr hxn hC' e1 (fun j a b => e2 j (by omega) (by omega))
      have hM2 : xIm M'' f li tx te cu le fd fp fh sn vc tk dl p hc sr pn := ⟨⟨y13, y22, y23, y24, y33, y36, y37, e4⟩, (e2 25 (by omega) (by omega)).trans n25, (e2 26 (by omega) (by omega)).trans n26, (e2 27 (by omega) (by omega)).trans n27, (e2 28 (by omega) (by omega)).trans n28, (e2 29 (by omega) (by omega)).trans n29, (e2 30 (by omega) (by omega)).trans n30, (e2 31 (by omega) (by omega)).trans n31, (e2 32 (by omega) (by omega)).trans n32, (e2 51 (by omega) (by omega)).trans n51, xMw_fr nw (fun j a b => (e2 j (by omega) (by omega)))⟩
      exact ⟨rfl, f, li, tx, te, cu, le, fd, fp, fh, fx, px, hx, sn, vc, tk, dl, p, hc, sr, pn, .null, va, S, T, ov, es, op, ol, oe, 0, 0, hM2, hC2, ⟨hG.1, ⟨by omega, fun j hj => hG.2.1.2 j (by omega)⟩, hG.2.2.1, hG.2.2.2.1, Nat.le_succ_of_le hG.2.2.2.2⟩, Or.inl ⟨rfl, rfl, rfl⟩⟩
theorem oDrop {G : xG} (hg : xGood G) (hxn : xn = 16)  {RD : xM → Nat → Nat → Nat → (Nat → Int32) → Nat → Prop} (hRD : xRs RD) {c : Nat} {M : xM} (hI : xInv RD c M) {x : Int32} : xOp G RD c M Y1_4 Y14_5 (some .boolean) [.int x] := by
  obtain ⟨f, li, tx, te, cu, le, fd, fp, fh, fx, px, hx, sn, vc, tk, dl, pl, hc, sr, pn, lr, va, S, T, ov, es, op, ol, oe, r0, r1, hM, hC, hG, hR⟩ := hI
  have h52 := hC.2.2.2.2.1.1
  obtain ⟨c16, c17, c18, c23, cS⟩ := id hC
  obtain ⟨⟨y13, y22, y23, y24, y33, y36, y37, m24⟩, m25, m26, m27, m28, m29, m30, m31, m32, m51, mw⟩ := id hM
  obtain ⟨nm, h19, hnm⟩ := id cS.2.2.1
  have hIp := cS.2.2.2.2.2.1
  by_cases hch : ¬ x < 0 ∧ ¬ 10 ≤ x
  · obtain ⟨k, hk, rfl⟩ := xName_ex hch
    rcases xCu_ex hIp hk with hck | ⟨sb, hsb, hck⟩
    · refine ⟨0, fun M' => M' = M, xc_wk (xDropN hg rfl (by omega) (by omega) (by omega) c16 (by omega) (by omega) h19 hk (xNm_no hnm hk hck)) (by omega) (by omega) (by omega) (fun v M' h => ⟨h.1, h.2⟩), fun M' hq => ?_⟩
      subst hq
      exact ⟨⟨h52, _, m24⟩, xc_wk (mDropN hg rfl (by omega) (by omega) (by omega) m24 (by omega) (by omega) m29 hk hck) (by omega) (by omega) (by omega) (fun v M'' h => ⟨h.1, by rw [h.2]; exact ⟨f, li, tx, te, cu, le, fd, fp, fh, fx, px, hx, sn, vc, tk, dl, pl, hc, sr, pn, lr, va, S, T, ov, es, op, ol, oe, r0, r1, hM, hC, xIg_c hG, hR⟩⟩)⟩
    · have hu0 := (xIp_at hIp hk hsb hck).1
      obtain ⟨⟨hv52, hvp⟩, t0, tl0, g0, ht0, hv0, -⟩ := cS.2.1 sb hsb hu0
      have hvn := hvp.2.1
      refine ⟨1, fun M' => xIc M' f (upd li sb 0) tx te (upd cu k (-1)) le fx px hx sn vc tk dl pl hc pn lr va S T ov es op ol oe r0 r1 ∧ xIm M' f li tx te cu le fd fp fh sn vc tk dl pl hc sr pn ∧ xRr RD M' lr r0 r1 fp pl, xc_wk (xDropY hg rfl (by omega) (by omega) (by omega) c16 (by omega) (by omega) h19 (by omega) hvn hv0 hk (xNm_at hnm hk hsb hck) ⟨by omega, by omega⟩) (by omega) (by omega) (by omega) ?_, fun M' hq => ?_⟩
      · rintro v M' ⟨rfl, e1, e2, e3, e4⟩
        obtain ⟨hS1, hF1⟩ := xSt_ret hxn cS hk hsb hck hnm e1 e2 hv0 e3 e4
        have hno : ∀ j, 17 ≤ j → j < 24 ∨ (24 ≤ j ∧ j < 52) → j ≠ 20 → j ≠ 21 → j ≠ 22 → j ≠ 19 → M'.2 j = M.2 j := fun j q1 q2 q3 q4 q5 q6 => hF1 j q1 (by omega) q6 q5 (fun z => by unfold xPl at z; omega)
        exact ⟨rfl, ⟨(e2 16 (by omega) (by omega) (by omega)).trans c16, (hno 17 (by omega) (by omega) (by omega) (by omega) (by omega) (by omega)).trans c17, (hno 18 (by omega) (by omega) (by omega) (by omega) (by omega) (by omega)).trans c18, (hno 23 (by omega) (by omega) (by omega) (by omega) (by omega) (by omega)).trans c23, hS1⟩, xIm_fr hM (fun j a b => hno j (by omega) (by omega) (by omega) (by omega) (by omega) (by omega)), xRr_fr hRD hR (by omega) (fun j a b d => hF1 j (by omega) (by have := cS.1.2.1; omega) (by omega) (by omega) (fun z => by unfold xPl at z; omega))⟩
      · obtain ⟨hC', ⟨⟨y13, y22, y23, y24, y33, y36, y37, n24⟩, n25, n26, n27, n28, n29, n30, n31, n32, n51, nw⟩, hR'⟩ := hq
        have h52' := hC'.2.2.2.2.1.1
        refine ⟨⟨h52', _, n24⟩, xc_wk (mDropY hg rfl (by omega) (by omega) (by omega) n24 (by omega) (by omega) n29 (by omega) (by omega) n27 hk hck hsb) (by omega) (by omega) (by omega) ?_⟩
        rintro v M'' ⟨rfl, e1, e2, e3, e4⟩
        have hC2 := xIc_fr hxn hC' e1 (fun j a b => e2 j (by omega) (by omega) (by omega))
        have hM2 : xIm M'' f (upd li sb 0) tx te (upd cu k (-1)) le fd fp fh sn vc tk dl pl hc sr pn := ⟨⟨y13, y22, y23, y24, y33, y36, y37, (e2 24 (by omega) (by omega) (by omega)).trans n24⟩, (e2 25 (by omega) (by omega) (by omega)).trans n25, (e2 26 (by omega) (by omega) (by omega)).trans n26, e3, (e2 28 (by omega) (by omega) (by omega)).trans n28, e4, (e2 30 (by omega) (by omega) (by omega)).trans n30, (e2 31 (by omega) (by omega) (by omega)).trans n31, (e2 32 (by omega) (by omega) (by omega)).trans n32, (e2 51 (by omega) (by omega) (by omega)).trans n51, xMw_fr nw (fun j a b => (e2 j (by omega) (by omega) (by omega)))⟩
        exact ⟨rfl, f, upd li sb 0, tx, te, upd cu k (-1), le, fd, fp, fh, fx, px, hx, sn, vc, tk, dl, pl, hc, sr, pn, lr, va, S, T, ov, es, op, ol, oe, r0, r1, hM2, hC2, xIg_c hG, xRr_fr hRD hR' (by omega) (fun j a b d => e2 j (by have := hC'.2.2.2.2.1.2.1; omega) (by omega) (by omega))⟩
  · refine ⟨0, fun M' => M' = M, xc_wk (xDropO hg rfl (by omega) (by omega) (by omega) c16 hch) (by omega) (by omega) (by omega) (fun v M' h => ⟨h.1, h.2⟩), fun M' hq => ?_⟩
    subst hq
    exact ⟨⟨h52, _, m24⟩, xc_wk (mDropO hg rfl (by omega) (by omega) (by omega) m24 (xName_no hch)) (by omega) (by omega) (by omega) (fun v M'' h => ⟨h.1, by rw [h.2]; exact ⟨f, li, tx, te, cu, le, fd, fp, fh, fx, px, hx, sn, vc, tk, dl, pl, hc, sr, pn, lr, va, S, T, ov, es, op, ol, oe, r0, r1, hM, hC, xIg_c hG, hR⟩⟩)⟩
theorem oLength {G : xG} (hg : xGood G) (hxn : xn = 16)  {RD : xM → Nat → Nat → Nat → (Nat → Int32) → Nat → Prop} (hRD : xRs RD) {c : Nat} {M : xM} (hI : xInv RD c M) {x : Int32} : xOp G RD c M Y1_5 Y14_6 (some .int) [.int x] := by
  obtain ⟨f, li, tx, te, cu, le, fd, fp, fh, fx, px, hx, sn, vc, tk, dl, pl, hc, sr, pn, lr, va, S, T, ov, es, op, ol, oe, r0, r1, hM, hC, hG, hR⟩ := hI
  have h52 := hC.2.2.2.2.1.1
  obtain ⟨c16, c17, c18, c23, cS⟩ := id hC
  obtain ⟨⟨y13, y22, y23, y24, y33, y36, y37, m24⟩, m25, m26, m27, m28, m29, m30, m31, m32, m51, mw⟩ := id hM
  obtain ⟨nm, h19, hnm⟩ := id cS.2.2.1
  have hIp := cS.2.2.2.2.2.1
  by_cases hch : ¬ x < 0 ∧ ¬ 10 ≤ x
  · obtain ⟨k, hk, rfl⟩ := xName_ex hch
    rcases xCu_ex hIp hk with hck | ⟨sb, hsb, hck⟩
    · refine ⟨(-1), fun M' => M' = M, xc_wk (xLenN hg rfl (by omega) (by omega) (by omega) c16 (by omega) (by omega) h19 hk (xNm_no hnm hk hck)) (by omega) (by omega) (by omega) (fun v M' h => ⟨h.1, h.2⟩), fun M' hq => ?_⟩
      subst hq
      exact ⟨⟨h52, _, m24⟩, xc_wk (mLenN hg rfl (by omega) (by omega) (by omega) m24 (by omega) (by omega) m29 hk hck) (by omega) (by omega) (by omega) (fun v M'' h => ⟨h.1, by rw [h.2]; exact ⟨f, li, tx, te, cu, le, fd, fp, fh, fx, px, hx, sn, vc, tk, dl, pl, hc, sr, pn, lr, va, S, T, ov, es, op, ol, oe, r0, r1, hM, hC, xIg_c hG, hR⟩⟩)⟩
    · have hu0 := (xIp_at hIp hk hsb hck).1
      obtain ⟨⟨hv52, hvp⟩, t0, tl0, g0, ⟨ht1, ht0⟩, hv0, ht2, hte, -⟩ := cS.2.1 sb hsb hu0
      have hvn := hvp.2.1
      have htn := ht0.2.1
      refine ⟨nI tl0, fun M' => M' = M, xc_wk (xLenY hg rfl (by omega) (by omega) (by omega) c16 (by omega) (by omega) h19 (by omega) hvn hv0 (by omega) htn ht2 hk (xNm_at hnm hk hsb hck)) (by omega) (by omega) (by omega) (fun v M' h => ⟨h.1, h.2⟩), fun M' hq => ?_⟩
      subst hq
      exact ⟨⟨h52, _, m24⟩, xc_wk (mLenY hg rfl (by omega) (by omega) (by omega) m24 (by omega) (by omega) m29 (by omega) (by omega) m26 hk hck hsb) (by omega) (by omega) (by omega) (fun v M'' h => ⟨h.1.trans (by rw [hte]), by rw [h.2]; exact ⟨f, li, tx, te, cu, le, fd, fp, fh, fx, px, hx, sn, vc, tk, dl, pl, hc, sr, pn, lr, va, S, T, ov, es, op, ol, oe, r0, r1, hM, hC, xIg_c hG, hR⟩⟩)⟩
  · refine ⟨(-1), fun M' => M' = M, xc_wk (xLenO hg rfl (by omega) (by omega) (by omega) c16 hch) (by omega) (by omega) (by omega) (fun v M' h => ⟨h.1, h.2⟩), fun M' hq => ?_⟩
    subst hq
    exact ⟨⟨h52, _, m24⟩, xc_wk (mLenO hg rfl (by omega) (by omega) (by omega) m24 (xName_no hch)) (by omega) (by omega) (by omega) (fun v M'' h => ⟨h.1, by rw [h.2]; exact ⟨f, li, tx, te, cu, le, fd, fp, fh, fx, px, hx, sn, vc, tk, dl, pl, hc, sr, pn, lr, va, S, T, ov, es, op, ol, oe, r0, r1, hM, hC, xIg_c hG, hR⟩⟩)⟩
theorem oHit {G : xG} (hg : xGood G) (hxn : xn = 16)  {RD : xM → Nat → Nat → Nat → (Nat → Int32) → Nat → Prop} (hRD : xRs RD) {c : Nat} {M : xM} (hI : xInv RD c M) {x : Int32} : xOp G RD c M Y1_13 Y14_63 (some .int) [.int x] := by
  obtain ⟨f, li, tx, te, cu, le, fd, fp, fh, fx, px, hx, sn, vc, tk, dl, pl, hc, sr, pn, lr, va, S, T, ov, es, op, ol, oe, r0, r1, hM, hC, hG, hR⟩ := hI
  have h52 := hC.2.2.2.2.1.1
  obtain ⟨c16, c17, c18, c23, cS⟩ := id hC
  obtain ⟨⟨y13, y22, y23, y24, y33, y36, y37, m24⟩, m25, m26, m27, m28, m29, m30, m31, m32, m51, mw⟩ := id hM
  by_cases hch : x < 0 ∨ nI hc ≤ x
  · refine ⟨(-1), fun M' => M' = M, xc_wk (xHitN hg rfl (by omega) (by omega) (by omega) c16 hch) (by omega) (by omega) (by omega) (fun v M' h => ⟨h.1, h.2⟩), fun M' hq => ?_⟩
    subst hq
    exact ⟨⟨h52, _, m24⟩, xc_wk (mHitN hg rfl (by omega) (by omega) (by omega) m24 hch) (by omega) (by omega) (by omega) (fun v M'' h => ⟨h.1, by rw [h.2]; exact ⟨f, li, tx, te, cu, le, fd, fp, fh, fx, px, hx, sn, vc, tk, dl, pl, hc, sr, pn, lr, va, S, T, ov, es, op, ol, oe, r0, r1, hM, hC, xIg_c hG, hR⟩⟩)⟩
  · obtain ⟨k, hk1, rfl⟩ := xInt_ex (fun q => hch (Or.inl q))
    have hk : k < hc := Classical.byContradiction fun q => hch (Or.inr (nI_le (by omega) hk1))
    have hsr : sr = 1 := hG.2.2.1.2.1 (by omega)
    have m24b := m24
    rw [hsr] at m24b
    have he := hG.2.2.1.2.2 k hk
    have h410 := hG.2.2.1.1
    refine ⟨fh k, fun M' => M' = M, xc_wk (xHitY hg rfl (by omega) (by omega) (by omega) c16 (by omega) (by omega) c23 hk h410) (by omega) (by omega) (by omega) (fun v M' h => ⟨h.1.trans (by rw [he]), h.2⟩), fun M' hq => ?_⟩
    subst hq
    exact ⟨⟨h52, _, m24⟩, xc_wk (mHitY (y38 := 0) hg rfl (by omega) (by omega) (by omega) m24b (by omega) (by omega) m51 hk h410) (by omega) (by omega) (by omega) (fun v M'' h => ⟨h.1, by rw [h.2]; exact ⟨f, li, tx, te, cu, le, fd, fp, fh, fx, px, hx, sn, vc, tk, dl, pl, hc, sr, pn, lr, va, S, T, ov, es, op, ol, oe, r0, r1, hM, hC, xIg_c hG, hR⟩⟩)⟩

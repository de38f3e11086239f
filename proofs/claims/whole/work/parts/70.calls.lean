def xIg (c : Nat) (f te tx fd fp fh fx px hx : Nat → Int32) (vc dl pl hc : Nat) (sr : Int32) : Prop := (dl ≤ 40 ∧ ∀ j, j < dl → fx j = fd j ∧ (fd j = 10 ∨ (¬ fd j < 32 ∧ ¬ 126 < fd j))) ∧ (pl ≤ 24 ∧ ∀ j, j < pl → px j = fp j ∧ (¬ fp j < 32 ∧ ¬ 126 < fp j)) ∧ (hc ≤ 410 ∧ (0 < hc → sr = 1) ∧ ∀ j, j < hc → hx j = fh j) ∧ (∀ s, s < 128 → ∃ tl, tl ≤ 40 ∧ te s = nI tl ∧ (¬ f s = -1 → ∀ j, j < tl → (tx (40 * s + j) = 10 ∨ (¬ tx (40 * s + j) < 32 ∧ ¬ 126 < tx (40 * s + j))))) ∧ vc ≤ c
/-- the reader that is kept, if one is kept -/
def xRr (RD : xM → Nat → Nat → Nat → (Nat → Int32) → Nat → Prop) (M : xM) (lr : Value) (r0 r1 : Nat) (fp : Nat → Int32) (pl : Nat) : Prop := (lr = .null ∧ r0 = 0 ∧ r1 = 0) ∨ ∃ rd, lr = .ref rd ∧ 52 ≤ r0 ∧ RD M rd r0 r1 fp pl
def xRs (RD : xM → Nat → Nat → Nat → (Nat → Int32) → Nat → Prop) : Prop := ∀ (M M' : xM) (rd r0 r1 : Nat) (fp : Nat → Int32) (pl : Nat), RD M rd r0 r1 fp pl → M.1 ≤ M'.1 → (∀ j, r0 ≤ j → j < r1 → M'.2 j = M.2 j) → RD M' rd r0 r1 fp pl
def xInv (RD : xM → Nat → Nat → Nat → (Nat → Int32) → Nat → Prop) (c : Nat) (M : xM) : Prop := ∃ (f li tx te cu le fd fp fh fx px hx : Nat → Int32) (sn vc tk dl pl hc : Nat) (sr pn : Int32) (lr : Value) (va : Nat → Nat) (S : List Nat) (T : List (Int32 × List Nat)) (ov : List Nat) (es op ol oe r0 r1 : Nat), xIm M f li tx te cu le fd fp fh sn vc tk dl pl hc sr pn ∧ xIc M f li tx te cu le fx px hx sn vc tk dl pl hc pn lr va S T ov es op ol oe r0 r1 ∧ xIg c f te tx fd fp fh fx px hx vc dl pl hc sr ∧ xRr RD M lr r0 r1 fp pl
/-- a call on both objects: both answer r, and all holds again -/
def xOp (G : xG) (RD : xM → Nat → Nat → Nat → (Nat → Int32) → Nat → Prop) (c : Nat) (M : xM) (Yx Ym : xY) (ret : Option FieldType) (ax : List Value) : Prop := ∃ (r : Int32) (Q : xM → Prop), XC G Yx ret 1000 1170 14200 (.ref 16 :: ax) M (fun v M' => v = some (.int r) ∧ Q M') ∧ ∀ M', Q M' → (52 ≤ M'.1 ∧ ∃ fs, M'.2 24 = .inr (12, fs)) ∧ XC G Ym ret 1000 0 0 (.ref 24 :: ax) M' (fun v M'' => v = some (.int r) ∧ xInv RD (c + 1) M'')
theorem xRr_fr {RD : xM → Nat → Nat → Nat → (Nat → Int32) → Nat → Prop} {M M' : xM} {lr : Value} {r0 r1 : Nat} {fp : Nat → Int32} {pl : Nat} (hRD : xRs RD) (h : xRr RD M lr r0 r1 fp pl) (hm : M.1 ≤ M'.1) (hf : ∀ j, 52 ≤ j → r0 ≤ j → j < r1 → M'.2 j = M.2 j) : xRr RD M' lr r0 r1 fp pl := by
  rcases h with h | ⟨rd, a, b, e⟩
  · exact Or.inl h
  · exact Or.inr ⟨rd, a, b, hRD M M' rd r0 r1 fp pl e hm (fun j q1 q2 => hf j (by omega) q1 q2)⟩
theorem xIg_c {c : Nat} {f te tx fd fp fh fx px hx : Nat → Int32} {vc dl pl hc : Nat} {sr : Int32} (h : xIg c f te tx fd fp fh fx px hx vc dl pl hc sr) : xIg (c + 1) f te tx fd fp fh fx px hx vc dl pl hc sr := ⟨h.1, h.2.1, h.2.2.1, h.2.2.2.1, Nat.le_succ_of_le h.2.2.2.2⟩
theorem oWrite {G : xG} (hg : xGood G) (hxn : xn = 16)  {RD : xM → Nat → Nat → Nat → (Nat → Int32) → Nat → Prop} (hRD : xRs RD) {c : Nat} {M : xM} (hI : xInv RD c M) {x : Int32} (hnr : vp_nar .char x = x) : xOp G RD c M Y1_2 Y14_3 (some .boolean) [.int x] := by
  obtain ⟨f, li, tx, te, cu, le, fd, fp, fh, fx, px, hx, sn, vc, tk, dl, pl, hc, sr, pn, lr, va, S, T, ov, es, op, ol, oe, r0, r1, hM, hC, hG, hR⟩ := hI
  have h52 := hC.2.2.2.2.1.1
  obtain ⟨c16, c17, c18, c23, cS⟩ := id hC
  obtain ⟨⟨y13, y22, y23, y24, y33, y36, y37, m24⟩, m25, m26, m27, m28, m29, m30, m31, m32, m51, mw⟩ := id hM
  by_cases hch : x = 10 ∨ (¬ x < 32 ∧ ¬ 126 < x)
  · by_cases hdl : dl < 40
    · refine ⟨1, fun M' => xIc M' f li tx te cu le (upd fx dl x) px hx sn vc tk (dl + 1) pl hc pn lr va S T ov es op ol oe r0 r1 ∧ xIm M' f li tx te cu le fd fp fh sn vc tk dl pl hc sr pn ∧ xRr RD M' lr r0 r1 fp pl, xc_wk (xWriteY hg rfl (by omega) (by omega) (by omega) c16 (by omega) (by omega) c17 hch hdl hnr) (by omega) (by omega) (by omega) ?_, fun M' hq => ?_⟩
      · rintro v M' ⟨rfl, e1, e2, e3, e4⟩
        refine ⟨rfl, ⟨e4, e3, (e2 18 (by omega) (by omega) (by omega)).trans c18, (e2 23 (by omega) (by omega) (by omega)).trans c23, xSt_fr hxn cS (by omega) (fun j hj hp => e2 j hj ?_ ?_)⟩, xIm_fr hM (fun j a b => e2 j (by omega) (by omega) (by omega)), xRr_fr hRD hR (by omega) (fun j a b d => e2 j (by have := cS.1.2.1; omega) (by omega) (by omega))⟩
        · unfold xPl at hp; omega
        · unfold xPl at hp; omega
      · obtain ⟨hC', ⟨⟨y13, y22, y23, y24, y33, y36, y37, n24⟩, n25, n26, n27, n28, n29, n30, n31, n32, n51, nw⟩, hR'⟩ := hq
        have h52' := hC'.2.2.2.2.1.1
        refine ⟨⟨h52', _, n24⟩, xc_wk (mWriteY hg rfl (by omega) (by omega) (by omega) n24 (by omega) (by omega) n31 hch hdl) (by omega) (by omega) (by omega) ?_⟩
        rintro v M'' ⟨rfl, e1, e2, e3, e4⟩
        have hC2 := xIc_fr hxn hC' e1 (fun j a b => e2 j (by omega) (by omega) (by omega))
        have hM2 : xIm M'' f li tx te cu le (upd fd dl x) fp fh sn vc tk (dl + 1) pl hc sr pn := ⟨⟨y13, y22, y23, y24, y33, y36, y37, e4⟩, (e2 25 (by omega) (by omega) (by omega)).trans n25, (e2 26 (by omega) (by omega) (by omega)).trans n26, (e2 27 (by omega) (by omega) (by omega)).trans n27, (e2 28 (by omega) (by omega) (by omega)).trans n28, (e2 29 (by omega) (by omega) (by omega)).trans n29, (e2 30 (by omega) (by omega) (by omega)).trans n30, e3, (e2 32 (by omega) (by omega) (by omega)).trans n32, (e2 51 (by omega) (by omega) (by omega)).trans n51, xMw_fr nw (fun j a b => e2 j (by omega) (by omega) (by omega))⟩
        refine ⟨rfl, f, li, tx, te, cu, le, upd fd dl x, fp, fh, upd fx dl x, px, hx, sn, vc, tk, dl + 1, pl, hc, sr, pn, lr, va, S, T, ov, es, op, ol, oe, r0, r1, hM2, hC2, ⟨⟨by omega, fun j hj => ?_⟩, hG.2.1, hG.2.2.1, hG.2.2.2.1, Nat.le_succ_of_le hG.2.2.2.2⟩, xRr_fr hRD hR' (by omega) (fun j a b d => e2 j (by have := hC'.2.2.2.2.1.2.1; omega) (by omega) (by omega))⟩
        by_cases q : j = dl
        · rw [show upd fx dl x j = x from if_pos q, show upd fd dl x j = x from if_pos q]; exact ⟨rfl, hch⟩
        · rw [show upd fx dl x j = fx j from if_neg q, show upd fd dl x j = fd j from if_neg q]; exact hG.1.2 j (by omega)
    · have hd40 : dl = 40 := by have := hG.1.1; omega
      refine ⟨0, fun M' => M' = M, xc_wk (xWriteF hg rfl (by omega) (by omega) (by omega) c16 hch hd40) (by omega) (by omega) (by omega) (fun v M' h => ⟨h.1, h.2⟩), fun M' hq => ?_⟩
      subst hq
      exact ⟨⟨h52, _, m24⟩, xc_wk (mWriteF hg rfl (by omega) (by omega) (by omega) m24 hch hd40) (by omega) (by omega) (by omega) (fun v M'' h => ⟨h.1, by rw [h.2]; exact ⟨f, li, tx, te, cu, le, fd, fp, fh, fx, px, hx, sn, vc, tk, dl, pl, hc, sr, pn, lr, va, S, T, ov, es, op, ol, oe, r0, r1, hM, hC, xIg_c hG, hR⟩⟩)⟩
  · refine ⟨0, fun M' => M' = M, xc_wk (xWriteN hg rfl (by omega) (by omega) (by omega) c16 hch) (by omega) (by omega) (by omega) (fun v M' h => ⟨h.1, h.2⟩), fun M' hq => ?_⟩
    subst hq
    exact ⟨⟨h52, _, m24⟩, xc_wk (mWriteN hg rfl (by omega) (by omega) (by omega) m24 hch) (by omega) (by omega) (by omega) (fun v M'' h => ⟨h.1, by rw [h.2]; exact ⟨f, li, tx, te, cu, le, fd, fp, fh, fx, px, hx, sn, vc, tk, dl, pl, hc, sr, pn, lr, va, S, T, ov, es, op, ol, oe, r0, r1, hM, hC, xIg_c hG, hR⟩⟩)⟩
theorem oPossible {G : xG} (hg : xGood G) (hxn : xn = 16)  {RD : xM → Nat → Nat → Nat → (Nat → Int32) → Nat → Prop} (hRD : xRs RD) {c : Nat} {M : xM} (hI : xInv RD c M)  : xOp G RD c M Y1_12 Y14_62 (some .int) [] := by
  obtain ⟨f, li, tx, te, cu, le, fd, fp, fh, fx, px, hx, sn, vc, tk, dl, pl, hc, sr, pn, lr, va, S, T, ov, es, op, ol, oe, r0, r1, hM, hC, hG, hR⟩ := hI
  have h52 := hC.2.2.2.2.1.1
  obtain ⟨c16, c17, c18, c23, cS⟩ := id hC
  obtain ⟨⟨y13, y22, y23, y24, y33, y36, y37, m24⟩, m25, m26, m27, m28, m29, m30, m31, m32, m51, mw⟩ := id hM
  refine ⟨pn, fun M' => M' = M, xc_wk (xPossible hg rfl (by omega) (by omega) (by omega) c16) (by omega) (by omega) (by omega) (fun v M' h => ⟨h.1, h.2⟩), fun M' hq => ?_⟩
  subst hq
  exact ⟨⟨h52, _, m24⟩, xc_wk (mPossible hg rfl (by omega) (by omega) (by omega) m24) (by omega) (by omega) (by omega) (fun v M'' h => ⟨h.1, by rw [h.2]; exact ⟨f, li, tx, te, cu, le, fd, fp, fh, fx, px, hx, sn, vc, tk, dl, pl, hc, sr, pn, lr, va, S, T, ov, es, op, ol, oe, r0, r1, hM, hC, xIg_c hG, hR⟩⟩)⟩
theorem oLeft {G : xG} (hg : xGood G) (hxn : xn = 16)  {RD : xM → Nat → Nat → Nat → (Nat → Int32) → Nat → Prop} (hRD : xRs RD) {c : Nat} {M : xM} (hI : xInv RD c M)  : xOp G RD c M Y1_18 Y14_14 (some .int) [] := by
  obtain ⟨f, li, tx, te, cu, le, fd, fp, fh, fx, px, hx, sn, vc, tk, dl, pl, hc, sr, pn, lr, va, S, T, ov, es, op, ol, oe, r0, r1, hM, hC, hG, hR⟩ := hI
  have h52 := hC.2.2.2.2.1.1
  obtain ⟨c16, c17, c18, c23, cS⟩ := id hC
  obtain ⟨⟨y13, y22, y23, y24, y33, y36, y37, m24⟩, m25, m26, m27, m28, m29, m30, m31, m32, m51, mw⟩ := id hM
  refine ⟨nI tk, fun M' => M' = M, xc_wk (xLeft hg rfl (by omega) (by omega) (by omega) c16) (by omega) (by omega) (by omega) (fun v M' h => ⟨h.1, h.2⟩), fun M' hq => ?_⟩
  subst hq
  exact ⟨⟨h52, _, m24⟩, xc_wk (mLeft hg rfl (by omega) (by omega) (by omega) m24) (by omega) (by omega) (by omega) (fun v M'' h => ⟨h.1, by rw [h.2]; exact ⟨f, li, tx, te, cu, le, fd, fp, fh, fx, px, hx, sn, vc, tk, dl, pl, hc, sr, pn, lr, va, S, T, ov, es, op, ol, oe, r0, r1, hM, hC, xIg_c hG, hR⟩⟩)⟩
theorem oShards {G : xG} (hg : xGood G) (hxn : xn = 16)  {RD : xM → Nat → Nat → Nat → (Nat → Int32) → Nat → Prop} (hRD : xRs RD) {c : Nat} {M : xM} (hI : xInv RD c M)  : xOp G RD c M Y1_14 Y14_11 (some .int) [] := by
  obtain ⟨f, li, tx, te, cu, le, fd, fp, fh, fx, px, hx, sn, vc, tk, dl, pl, hc, sr, pn, lr, va, S, T, ov, es, op, ol, oe, r0, r1, hM, hC, hG, hR⟩ := hI
  have h52 := hC.2.2.2.2.1.1
  obtain ⟨c16, c17, c18, c23, cS⟩ := id hC
  obtain ⟨⟨y13, y22, y23, y24, y33, y36, y37, m24⟩, m25, m26, m27, m28, m29, m30, m31, m32, m51, mw⟩ := id hM
  obtain ⟨el, mo, h22, hlt⟩ := xLs_len cS.1.2.2.2.2.2.2.2.1
  rw [cS.1.2.2.2.2.2.2.2.2.1.1, cS.2.2.2.1.1] at h22
  refine ⟨nI sn, fun M' => M' = M, xc_wk (xShards hg rfl (by omega) (by omega) (by omega) c16 (by omega) (by omega) h22) (by omega) (by omega) (by omega) (fun v M' h => ⟨h.1, h.2⟩), fun M' hq => ?_⟩
  subst hq
  exact ⟨⟨h52, _, m24⟩, xc_wk (mShards hg rfl (by omega) (by omega) (by omega) m24) (by omega) (by omega) (by omega) (fun v M'' h => ⟨h.1, by rw [h.2]; exact ⟨f, li, tx, te, cu, le, fd, fp, fh, fx, px, hx, sn, vc, tk, dl, pl, hc, sr, pn, lr, va, S, T, ov, es, op, ol, oe, r0, r1, hM, hC, xIg_c hG, hR⟩⟩)⟩

theorem xCh_nat {c : Int32} (h : c = 10 ∨ (¬ c < 32 ∧ ¬ 126 < c)) : ∃ q, q < 127 ∧ c = nI q := by
  have h0 : ¬ c < 0 := by
    rcases h with h | h
    · rw [h]
      decide
    · intro q
      refine h.1 ?_
      rw [Int32.lt_iff_toInt_lt] at q ⊢
      have h4 : ((32 : Int32)).toInt = 32 := by decide
      rw [Int32.toInt_zero] at q
      omega
  obtain ⟨k, h1, h2⟩ := xInt_ex h0
  refine ⟨k, ?_, h2⟩
  rcases h with h | h
  · rw [h2] at h
    have := (nI_eq (a := k) (b := 10) h1 (by decide)).mp h
    omega
  · have h3 := h.2
    rw [h2, Int32.lt_iff_toInt_lt, nI_toInt h1] at h3
    have h4 : ((126 : Int32)).toInt = 126 := by decide
    omega
theorem xCh_fits {c : Int32} (h : c = 10 ∨ (¬ c < 32 ∧ ¬ 126 < c)) : fits .char (.int c) = true := by
  obtain ⟨q, h1, rfl⟩ := xCh_nat h
  exact (pk_charN (by omega)).2
theorem xTx_put {f f' te tx fd : Nat → Int32} {sl dl : Nat} (h : ∀ s, s < 128 → ∃ tl, tl ≤ 40 ∧ te s = nI tl ∧ (¬ f s = -1 → ∀ j, j < tl → (tx (40 * s + j) = 10 ∨ (¬ tx (40 * s + j) < 32 ∧ ¬ 126 < tx (40 * s + j))))) (hd : ∀ j, j < dl → (fd j = 10 ∨ (¬ fd j < 32 ∧ ¬ 126 < fd j))) (hdl : dl ≤ 40) (hf : ∀ s, ¬ s = sl → ¬ f' s = -1 → ¬ f s = -1) : ∀ s, s < 128 → ∃ tl, tl ≤ 40 ∧ upd te sl (nI dl) s = nI tl ∧ (¬ f' s = -1 → ∀ j, j < tl → (va_cpy fd tx 0 (40 * sl) dl (40 * s + j) = 10 ∨ (¬ va_cpy fd tx 0 (40 * sl) dl (40 * s + j) < 32 ∧ ¬ 126 < va_cpy fd tx 0 (40 * sl) dl (40 * s + j)))) := by
  intro s hs
  by_cases q : s = sl
  · refine ⟨dl, hdl, if_pos q, fun _ j hj => ?_⟩
    have e : va_cpy fd tx 0 (40 * sl) dl (40 * s + j) = fd j := by
      rw [va_cpy, if_pos (by omega)]
      congr 1
      omega
    rw [e]
    exact hd j hj
  · obtain ⟨tl, a, b, e⟩ := h s hs
    refine ⟨tl, a, (if_neg q).trans b, fun hu j hj => ?_⟩
    have e2 : va_cpy fd tx 0 (40 * sl) dl (40 * s + j) = tx (40 * s + j) := by
      rw [va_cpy, if_neg (by omega)]
    rw [e2]
    exact e (hf s q hu) j hj
set_option maxRecDepth 20000 in
theorem xPutO {G : xG} (hg : xGood G) {M : xM} {n : Nat} (hn : M.1 = n) (hx : xn ≤ n) {dl : Nat} {pl : Nat} {vc : Nat} {tk : Nat} {hc : Nat} {op : Nat} {pn : Int32} {lr : Value} {c : Int32} (h1_16 : xn ≤ 16) (h2_16 : 16 < n) (h_16 : M.2 16 = (.inr (0, [.ref 17, .int (nI dl), .ref 18, .int (nI pl), lr, .ref 19, .int (nI vc), .ref op, .ref 22, .int (nI tk), .ref 23, .int (nI hc), .int pn]))) (hch : ¬ (¬ c < 0 ∧ ¬ 10 ≤ c)) : XC G Y1_3 (some .int) 1 0 0 [.ref 16, .int c] M (fun v M' => v = some (.int (-1)) ∧ M' = M) := by
  refine xc_of hg (by decide) (Nat.le_of_ble_eq_true rfl) (Or.inl ⟨rfl, rfl, fun v M' h => ⟨_, h.1⟩⟩) ?_
  refine xj_iload_n (i := 1) d1_3_0 rfl rfl ?_
  refine xj_callS (rest := []) (As := [.int c]) (cName hg (M := M) (n := n) (c := c) (show M.1 = n by omega) (by omega) ) d1_3_1 wd1_19 w138 (Or.inl w137) rfl rfl (Nat.le_of_ble_eq_true rfl) (by omega) (by omega) (by omega) ?_
  rintro v M' ⟨rfl, hm⟩
  subst M'
  refine xj_if_ne (tgt := 9) d1_3_4 rfl (fun h => absurd (xB_f hch) h) (fun _ => ?_)
  refine xj_iconst (v := (-1)) d1_3_7 (by decide) ?_
  exact xj_ret d1_3_8 (by omega) (by omega) rfl ⟨rfl, rfl⟩
set_option maxHeartbeats 1000000 in
theorem oPut {G : xG} (hg : xGood G) (hxn : xn = 16) (hZ : va_Z "java/util/ArrayList" "DEFAULTCAPACITY_EMPTY_ELEMENTDATA" "[Ljava/lang/Object;" (.ref (xa G 1)) (fun q => (xs G).heap.size ≤ q) (xs G) (xs G).heap) (hT : va_T (.object "java/lang/Object") (xa G 1) 0 (fun _ => .null) (fun q => (xs G).heap.size ≤ q) (xs G) (xs G).heap) {RD : xM → Nat → Nat → Nat → (Nat → Int32) → Nat → Prop} (hRD : xRs RD) {c : Nat} {M : xM} (hI : xInv RD c M) (hc5 : c < 512) {x : Int32} : xOp G RD c M Y1_3 Y14_4 (some .int) [.int x] := by
  obtain ⟨f, li, tx, te, cu, le, fd, fp, fh, fx, px, hx, sn, vc, tk, dl, pl, hc, sr, pn, lr, va, S, T, ov, es, op, ol, oe, r0, r1, hM, hC, hG, hR⟩ := hI
  have h52 := hC.2.2.2.2.1.1
  obtain ⟨c16, c17, c18, c23, cS⟩ := id hC
  obtain ⟨⟨y13, y22, y23, y24, y33, y36, y37, m24⟩, m25, m26, m27, m28, m29, m30, m31, m32, m51, mw⟩ := id hM
  have hIp := cS.2.2.2.2.2.1
  by_cases hch : ¬ x < 0 ∧ ¬ 10 ≤ x
  · obtain ⟨k, hk, rfl⟩ := xName_ex hch
    have hAbs := cS.2.2.2.1
    have hOv := cS.2.2.2.2.1
    have hT10 := cS.2.2.2.2.2.2.2.1
    have ho2 := cS.2.2.2.2.2.2.2.2.1
    obtain ⟨Bn, hLvl, hBn⟩ := id cS.2.2.2.2.2.2.2.2.2
    have hvc : vc < 512 := by have := hG.2.2.2.2; omega
    have hT8 := xLvl_len hLvl (show Bn ≤ 171 by omega)
    rw [hAbs.1] at hT8
    have hxl : (xsl f 99).length = ov.length := by rw [hOv.length_eq, List.length_map]
    obtain ⟨sl, hsl, hf, hno9⟩ := xfree hAbs hT10 (by omega) (by omega)
    have hcn : xcnt (upd f sl 99) 99 128 = ov.length + 1 := by
      have z := (xOv_put (w := 0) hOv hsl hf).length_eq
      rw [List.length_map, List.length_append, List.length_singleton] at z
      rw [xcnt_len]
      exact z.symm
    have hfd : ∀ j, j < dl → fx j = fd j := fun j hj => (hG.1.2 j hj).1
    have hft : ∀ z, z < dl → fits .char (.int (fx z)) = true := fun z hz => by rw [hfd z hz]; exact xCh_fits (hG.1.2 z hz).2
    rcases xCu_ex hIp hk with hck | ⟨sb, hsb, hck⟩
    · refine ⟨nI (vc + 1), fun M' => ((¬ ov.length + 1 = 3 ∧ ∃ va' ov' oe', xIc M' (upd f sl 99) (upd li sl 1) (va_cpy fd tx 0 (40 * sl) dl) (upd te sl (nI dl)) (upd cu k (nI sl)) le fx px hx sn (vc + 1) tk 0 pl hc pn lr va' S T ov' es op ol oe' r0 r1) ∨ (ov.length + 1 = 3 ∧ ∃ op' va' S' T' es' ol', xIc M' ((setl (upd li sl 1) (sn + 1) (xsealF (upd f sl 99) (nI sn), upd le sn 0, sn + 1, tk)).1) (upd li sl 1) (va_cpy fd tx 0 (40 * sl) dl) (upd te sl (nI dl)) (upd cu k (nI sl)) ((setl (upd li sl 1) (sn + 1) (xsealF (upd f sl 99) (nI sn), upd le sn 0, sn + 1, tk)).2.1) fx px hx ((setl (upd li sl 1) (sn + 1) (xsealF (upd f sl 99) (nI sn), upd le sn 0, sn + 1, tk)).2.2.1) (vc + 1) ((setl (upd li sl 1) (sn + 1) (xsealF (upd f sl 99) (nI sn), upd le sn 0, sn + 1, tk)).2.2.2) 0 pl hc pn lr va' S' T' ([]) es' op' ol' 0 r0 r1)) ∧ xIm M' f li tx te cu le fd fp fh sn vc tk dl pl hc sr pn ∧ xRr RD M' lr r0 r1 fp pl, xc_wk (xPutXN hg hxn hZ hT rfl cS hvc c16 c17 hfd hG.1.1 hft hk hsl hf hck) (by omega) (by omega) (by omega) ?_, fun M' hq => ?_⟩
      · rintro v M' ⟨rfl, e1, eF, e4⟩
        have hno : ∀ j, (17 ≤ j ∧ j ≤ 18) ∨ (23 ≤ j ∧ j < 52) → M'.2 j = M.2 j := fun j q => eF j (by omega) (by omega) (by omega) (by omega) (fun z => by unfold xPl at z; omega)
        refine ⟨rfl, ?_, xIm_fr hM (fun j a b => hno j (by omega)), xRr_fr hRD hR e1 (fun j a b d => eF j (by omega) (by have := cS.1.2.1; omega) (by omega) (by omega) (fun z => by unfold xPl at z; omega))⟩
        rcases e4 with ⟨h3, e16, va', ov', oe', eS⟩ | ⟨h3, op', va', S', T', es', ol', e16, eS⟩
        · exact Or.inl ⟨h3, va', ov', oe', e16, (hno 17 (by omega)).trans c17, (hno 18 (by omega)).trans c18, (hno 23 (by omega)).trans c23, eS⟩
        · exact Or.inr ⟨h3, op', va', S', T', es', ol', e16, (hno 17 (by omega)).trans c17, (hno 18 (by omega)).trans c18, (hno 23 (by omega)).trans c23, eS⟩
      · obtain ⟨hq1, ⟨⟨y13, y22, y23, y24, y33, y36, y37, n24⟩, n25, n26, n27, n28, n29, n30, n31, n32, n51, nw⟩, hR'⟩ := hq
        rcases hq1 with ⟨h3, va', ov', oe', hC'⟩ | ⟨h3, op', va', S', T', es', ol', hC'⟩
        · have h52' := hC'.2.2.2.2.1.1
          refine ⟨⟨h52', _, n24⟩, xc_wk (mPutN hg rfl (by omega) (by omega) (by omega) n24 (by omega) (by omega) n25 (by omega) (by omega) n26 (by omega) (by omega) n27 (by omega) (by omega) n28 (by omega) (by omega) n29 (by omega) (by omega) n31 hxn (by omega) hk hsl hf hno9 hG.1.1 hck (by rw [hcn]; exact fun q => h3 ((nI_eq (a := ov.length + 1) (b := 3) (by omega) (by decide)).mp q))) (by omega) (by omega) (by omega) ?_⟩
          rintro v M'' ⟨rfl, e1, e2, e25, e26, e24, e29, e27, e28⟩
          have hC2 := xIc_fr hxn hC' e1 (fun j a b => e2 j (by omega) (by omega) (by omega) (by omega) (by omega) (by omega) (by omega))
          have hM2 : xIm M'' (upd f sl 99) (upd li sl 1) (va_cpy fd tx 0 (40 * sl) dl) (upd te sl (nI dl)) (upd cu k (nI sl)) le fd fp fh sn (vc + 1) tk 0 pl hc sr pn := ⟨⟨y13, y22, y23, y24, y33, y36, y37, e24⟩, e25, e26, e27, e28, e29, (e2 30 (by omega) (by omega) (by omega) (by omega) (by omega) (by omega) (by omega)).trans n30, (e2 31 (by omega) (by omega) (by omega) (by omega) (by omega) (by omega) (by omega)).trans n31, (e2 32 (by omega) (by omega) (by omega) (by omega) (by omega) (by omega) (by omega)).trans n32, (e2 51 (by omega) (by omega) (by omega) (by omega) (by omega) (by omega) (by omega)).trans n51, xMw_fr nw (fun j a b => (e2 j (by omega) (by omega) (by omega) (by omega) (by omega) (by omega) (by omega)))⟩
          exact ⟨rfl, upd f sl 99, upd li sl 1, va_cpy fd tx 0 (40 * sl) dl, upd te sl (nI dl), upd cu k (nI sl), le, fd, fp, fh, fx, px, hx, sn, vc + 1, tk, 0, pl, hc, sr, pn, lr, va', S, T, ov', es, op, ol, oe', r0, r1, hM2, hC2, ⟨⟨Nat.zero_le _, fun j hj => absurd hj (Nat.not_lt_zero _)⟩, hG.2.1, hG.2.2.1, xTx_put hG.2.2.2.1 (fun j hj => (hG.1.2 j hj).2) hG.1.1 (fun s q hu => by rw [show upd f sl 99 s = f s from if_neg q] at hu; exact hu), Nat.succ_le_succ hG.2.2.2.2⟩, xRr_fr hRD hR' (by omega) (fun j a b d => e2 j (by have := hC'.2.2.2.2.1.2.1; omega) (by omega) (by omega) (by omega) (by omega) (by omega) (by omega))⟩
        · have h52' := hC'.2.2.2.2.1.1
          refine ⟨⟨h52', _, n24⟩, xc_wk (mPutSN hg rfl (by omega) (by omega) (by omega) n24 (by omega) (by omega) n25 (by omega) (by omega) n26 (by omega) (by omega) n27 (by omega) (by omega) n28 (by omega) (by omega) n29 (by omega) (by omega) n31 (by omega) (by omega) n30 hxn (by omega) hk hsl hf hno9 hG.1.1 hck (by omega) (by rw [hcn, h3]; rfl)) (by omega) (by omega) (by omega) ?_⟩
          rintro v M'' ⟨rfl, e1, e2, e25, e26, e24, e29, e27, e28, e30⟩
          have hC2 := xIc_fr hxn hC' e1 (fun j a b => e2 j (by omega) (by omega) (by omega) (by omega) (by omega) (by omega) (by omega) (by omega))
          have hM2 : xIm M'' ((setl (upd li sl 1) (sn + 1) (xsealF (upd f sl 99) (nI sn), upd le sn 0, sn + 1, tk)).1) (upd li sl 1) (va_cpy fd tx 0 (40 * sl) dl) (upd te sl (nI dl)) (upd cu k (nI sl)) ((setl (upd li sl 1) (sn + 1) (xsealF (upd f sl 99) (nI sn), upd le sn 0, sn + 1, tk)).2.1) fd fp fh ((setl (upd li sl 1) (sn + 1) (xsealF (upd f sl 99) (nI sn), upd le sn 0, sn + 1, tk)).2.2.1) (vc + 1) ((setl (upd li sl 1) (sn + 1) (xsealF (upd f sl 99) (nI sn), upd le sn 0, sn + 1, tk)).2.2.2) 0 pl hc sr pn := ⟨⟨y13, y22, y23, y24, y33, y36, y37, e24⟩, e25, e26, e27, e28, e29, e30, (e2 31 (by omega) (by omega) (by omega) (by omega) (by omega) (by omega) (by omega) (by omega)).trans n31, (e2 32 (by omega) (by omega) (by omega) (by omega) (by omega) (by omega) (by omega) (by omega)).trans n32, (e2 51 (by omega) (by omega) (by omega) (by omega) (by omega) (by omega) (by omega) (by omega)).trans n51, xMw_fr nw (fun j a b => (e2 j (by omega) (by omega) (by omega) (by omega) (by omega) (by omega) (by omega) (by omega)))⟩
          exact ⟨rfl, (setl (upd li sl 1) (sn + 1) (xsealF (upd f sl 99) (nI sn), upd le sn 0, sn + 1, tk)).1, upd li sl 1, va_cpy fd tx 0 (40 * sl) dl, upd te sl (nI dl), upd cu k (nI sl), (setl (upd li sl 1) (sn + 1) (xsealF (upd f sl 99) (nI sn), upd le sn 0, sn + 1, tk)).2.1, fd, fp, fh, fx, px, hx, (setl (upd li sl 1) (sn + 1) (xsealF (upd f sl 99) (nI sn), upd le sn 0, sn + 1, tk)).2.2.1, vc + 1, (setl (upd li sl 1) (sn + 1) (xsealF (upd f sl 99) (nI sn), upd le sn 0, sn + 1, tk)).2.2.2, 0, pl, hc, sr, pn, lr, va', S', T', [], es', op', ol', 0, r0, r1, hM2, hC2, ⟨⟨Nat.zero_le _, fun j hj => absurd hj (Nat.not_lt_zero _)⟩, hG.2.1, hG.2.2.1, xTx_put hG.2.2.2.1 (fun j hj => (hG.1.2 j hj).2) hG.1.1 (fun s q hu => by have z := xseal_u (setl_u _ _ _ _ _ (by omega) hu); rw [show upd f sl 99 s = f s from if_neg q] at z; exact z), Nat.succ_le_succ hG.2.2.2.2⟩, xRr_fr hRD hR' (by omega) (fun j a b d => e2 j (by have := hC'.2.2.2.2.1.2.1; omega) (by omega) (by omega) (by omega) (by omega) (by omega) (by omega) (by omega))⟩
    · refine ⟨nI (vc + 1), fun M' => ((¬ ov.length + 1 = 3 ∧ ∃ va' ov' oe', xIc M' (upd f sl 99) (upd (upd li sb 0) sl 1) (va_cpy fd tx 0 (40 * sl) dl) (upd te sl (nI dl)) (upd (upd cu k (-1)) k (nI sl)) le fx px hx sn (vc + 1) tk 0 pl hc pn lr va' S T ov' es op ol oe' r0 r1) ∨ (ov.length + 1 = 3 ∧ ∃ op' va' S' T' es' ol', xIc M' ((setl (upd (upd li sb 0) sl 1) (sn + 1) (xsealF (upd f sl 99) (nI sn), upd le sn 0, sn + 1, tk)).1) (upd (upd li sb 0) sl 1) (va_cpy fd tx 0 (40 * sl) dl) (upd te sl (nI dl)) (upd (upd cu k (-1)) k (nI sl)) ((setl (upd (upd li sb 0) sl 1) (sn + 1) (xsealF (upd f sl 99) (nI sn), upd le sn 0, sn + 1, tk)).2.1) fx px hx ((setl (upd (upd li sb 0) sl 1) (sn + 1) (xsealF (upd f sl 99) (nI sn), upd le sn 0, sn + 1, tk)).2.2.1) (vc + 1) ((setl (upd (upd li sb 0) sl 1) (sn + 1) (xsealF (upd f sl 99) (nI sn), upd le sn 0, sn + 1, tk)).2.2.2) 0 pl hc pn lr va' S' T' ([]) es' op' ol' 0 r0 r1)) ∧ xIm M' f li tx te cu le fd fp fh sn vc tk dl pl hc sr pn ∧ xRr RD M' lr r0 r1 fp pl, xc_wk (xPutXY hg hxn hZ hT rfl cS hvc c16 c17 hfd hG.1.1 hft hk hsl hf hsb hck) (by omega) (by omega) (by omega) ?_, fun M' hq => ?_⟩
      · rintro v M' ⟨rfl, e1, eF, e4⟩
        have hno : ∀ j, (17 ≤ j ∧ j ≤ 18) ∨ (23 ≤ j ∧ j < 52) → M'.2 j = M.2 j := fun j q => eF j (by omega) (by omega) (by omega) (by omega) (fun z => by unfold xPl at z; omega)
        refine ⟨rfl, ?_, xIm_fr hM (fun j a b => hno j (by omega)), xRr_fr hRD hR e1 (fun j a b d => eF j (by omega) (by have := cS.1.2.1; omega) (by omega) (by omega) (fun z => by unfold xPl at z; omega))⟩
        rcases e4 with ⟨h3, e16, va', ov', oe', eS⟩ | ⟨h3, op', va', S', T', es', ol', e16, eS⟩
        · exact Or.inl ⟨h3, va', ov', oe', e16, (hno 17 (by omega)).trans c17, (hno 18 (by omega)).trans c18, (hno 23 (by omega)).trans c23, eS⟩
        · exact Or.inr ⟨h3, op', va', S', T', es', ol', e16, (hno 17 (by omega)).trans c17, (hno 18 (by omega)).trans c18, (hno 23 (by omega)).trans c23, eS⟩
      · obtain ⟨hq1, ⟨⟨y13, y22, y23, y24, y33, y36, y37, n24⟩, n25, n26, n27, n28, n29, n30, n31, n32, n51, nw⟩, hR'⟩ := hq
        rcases hq1 with ⟨h3, va', ov', oe', hC'⟩ | ⟨h3, op', va', S', T', es', ol', hC'⟩
        · have h52' := hC'.2.2.2.2.1.1
          refine ⟨⟨h52', _, n24⟩, xc_wk (mPutD hg rfl (by omega) (by omega) (by omega) n24 (by omega) (by omega) n25 (by omega) (by omega) n26 (by omega) (by omega) n27 (by omega) (by omega) n28 (by omega) (by omega) n29 (by omega) (by omega) n31 hxn (by omega) hk hsl hf hno9 hG.1.1 hck hsb (by rw [hcn]; exact fun q => h3 ((nI_eq (a := ov.length + 1) (b := 3) (by omega) (by decide)).mp q))) (by omega) (by omega) (by omega) ?_⟩
          rintro v M'' ⟨rfl, e1, e2, e25, e26, e24, e27, e29, e28⟩
          have hC2 := xIc_fr hxn hC' e1 (fun j a b => e2 j (by omega) (by omega) (by omega) (by omega) (by omega) (by omega) (by omega))
          have hM2 : xIm M'' (upd f sl 99) (upd (upd li sb 0) sl 1) (va_cpy fd tx 0 (40 * sl) dl) (upd te sl (nI dl)) (upd (upd cu k (-1)) k (nI sl)) le fd fp fh sn (vc + 1) tk 0 pl hc sr pn := ⟨⟨y13, y22, y23, y24, y33, y36, y37, e24⟩, e25, e26, e27, e28, e29, (e2 30 (by omega) (by omega) (by omega) (by omega) (by omega) (by omega) (by omega)).trans n30, (e2 31 (by omega) (by omega) (by omega) (by omega) (by omega) (by omega) (by omega)).trans n31, (e2 32 (by omega) (by omega) (by omega) (by omega) (by omega) (by omega) (by omega)).trans n32, (e2 51 (by omega) (by omega) (by omega) (by omega) (by omega) (by omega) (by omega)).trans n51, xMw_fr nw (fun j a b => (e2 j (by omega) (by omega) (by omega) (by omega) (by omega) (by omega) (by omega)))⟩
          exact ⟨rfl, upd f sl 99, upd (upd li sb 0) sl 1, va_cpy fd tx 0 (40 * sl) dl, upd te sl (nI dl), upd (upd cu k (-1)) k (nI sl), le, fd, fp, fh, fx, px, hx, sn, vc + 1, tk, 0, pl, hc, sr, pn, lr, va', S, T, ov', es, op, ol, oe', r0, r1, hM2, hC2, ⟨⟨Nat.zero_le _, fun j hj => absurd hj (Nat.not_lt_zero _)⟩, hG.2.1, hG.2.2.1, xTx_put hG.2.2.2.1 (fun j hj => (hG.1.2 j hj).2) hG.1.1 (fun s q hu => by rw [show upd f sl 99 s = f s from if_neg q] at hu; exact hu), Nat.succ_le_succ hG.2.2.2.2⟩, xRr_fr hRD hR' (by omega) (fun j a b d => e2 j (by have := hC'.2.2.2.2.1.2.1; omega) (by omega) (by omega) (by omega) (by omega) (by omega) (by omega))⟩
        · have h52' := hC'.2.2.2.2.1.1
          refine ⟨⟨h52', _, n24⟩, xc_wk (mPutSD hg rfl (by omega) (by omega) (by omega) n24 (by omega) (by omega) n25 (by omega) (by omega) n26 (by omega) (by omega) n27 (by omega) (by omega) n28 (by omega) (by omega) n29 (by omega) (by omega) n31 (by omega) (by omega) n30 hxn (by omega) hk hsl hf hno9 hG.1.1 hck hsb (by omega) (by rw [hcn, h3]; rfl)) (by omega) (by omega) (by omega) ?_⟩
          rintro v M'' ⟨rfl, e1, e2, e25, e26, e24, e27, e29, e28, e30⟩
          have hC2 := xIc_fr hxn hC' e1 (fun j a b => e2 j (by omega) (by omega) (by omega) (by omega) (by omega) (by omega) (by omega) (by omega))
          have hM2 : xIm M'' ((setl (upd (upd li sb 0) sl 1) (sn + 1) (xsealF (upd f sl 99) (nI sn), upd le sn 0, sn + 1, tk)).1) (upd (upd li sb 0) sl 1) (va_cpy fd tx 0 (40 * sl) dl) (upd te sl (nI dl)) (upd (upd cu k (-1)) k (nI sl)) ((setl (upd (upd li sb 0) sl 1) (sn + 1) (xsealF (upd f sl 99) (nI sn), upd le sn 0, sn + 1, tk)).2.1) fd fp fh ((setl (upd (upd li sb 0) sl 1) (sn + 1) (xsealF (upd f sl 99) (nI sn), upd le sn 0, sn + 1, tk)).2.2.1) (vc + 1) ((setl (upd (upd li sb 0) sl 1) (sn + 1) (xsealF (upd f sl 99) (nI sn), upd le sn 0, sn + 1, tk)).2.2.2) 0 pl hc sr pn := ⟨⟨y13, y22, y23, y24, y33, y36, y37, e24⟩, e25, e26, e27, e28, e29, e30, (e2 31 (by omega) (by omega) (by omega) (by omega) (by omega) (by omega) (by omega) (by omega)).trans n31, (e2 32 (by omega) (by omega) (by omega) (by omega) (by omega) (by omega) (by omega) (by omega)).trans n32, (e2 51 (by omega) (by omega) (by omega) (by omega) (by omega) (by omega) (by omega) (by omega)).trans n51, xMw_fr nw (fun j a b => (e2 j (by omega) (by omega) (by omega) (by omega) (by omega) (by omega) (by omega) (by omega)))⟩
          exact ⟨rfl, (setl (upd (upd li sb 0) sl 1) (sn + 1) (xsealF (upd f sl 99) (nI sn), upd le sn 0, sn + 1, tk)).1, upd (upd li sb 0) sl 1, va_cpy fd tx 0 (40 * sl) dl, upd te sl (nI dl), upd (upd cu k (-1)) k (nI sl), (setl (upd (upd li sb 0) sl 1) (sn + 1) (xsealF (upd f sl 99) (nI sn), upd le sn 0, sn + 1, tk)).2.1, fd, fp, fh, fx, px, hx, (setl (upd (upd li sb 0) sl 1) (sn + 1) (xsealF (upd f sl 99) (nI sn), upd le sn 0, sn + 1, tk)).2.2.1, vc + 1, (setl (upd (upd li sb 0) sl 1) (sn + 1) (xsealF (upd f sl 99) (nI sn), upd le sn 0, sn + 1, tk)).2.2.2, 0, pl, hc, sr, pn, lr, va', S', T', [], es', op', ol', 0, r0, r1, hM2, hC2, ⟨⟨Nat.zero_le _, fun j hj => absurd hj (Nat.not_lt_zero _)⟩, hG.2.1, hG.2.2.1, xTx_put hG.2.2.2.1 (fun j hj => (hG.1.2 j hj).2) hG.1.1 (fun s q hu => by have z := xseal_u (setl_u _ _ _ _ _ (by omega) hu); rw [show upd f sl 99 s = f s from if_neg q] at z; exact z), Nat.succ_le_succ hG.2.2.2.2⟩, xRr_fr hRD hR' (by omega) (fun j a b d => e2 j (by have := hC'.2.2.2.2.1.2.1; omega) (by omega) (by omega) (by omega) (by omega) (by omega) (by omega) (by omega))⟩
  · refine ⟨(-1), fun M' => M' = M, xc_wk (xPutO hg rfl (by omega) (by omega) (by omega) c16 hch) (by omega) (by omega) (by omega) (fun v M' h => ⟨h.1, h.2⟩), fun M' hq => ?_⟩
    subst hq
    exact ⟨⟨h52, _, m24⟩, xc_wk (mPutO hg rfl (by omega) (by omega) (by omega) m24 (xName_no hch)) (by omega) (by omega) (by omega) (fun v M'' h => ⟨h.1, by rw [h.2]; exact ⟨f, li, tx, te, cu, le, fd, fp, fh, fx, px, hx, sn, vc, tk, dl, pl, hc, sr, pn, lr, va, S, T, ov, es, op, ol, oe, r0, r1, hM, hC, xIg_c hG, hR⟩⟩)⟩
set_option maxHeartbeats 1000000 in
theorem oCompact {G : xG} (hg : xGood G) (hxn : xn = 16) (hZ : va_Z "java/util/ArrayList" "DEFAULTCAPACITY_EMPTY_ELEMENTDATA" "[Ljava/lang/Object;" (.ref (xa G 1)) (fun q => (xs G).heap.size ≤ q) (xs G) (xs G).heap) (hT : va_T (.object "java/lang/Object") (xa G 1) 0 (fun _ => .null) (fun q => (xs G).heap.size ≤ q) (xs G) (xs G).heap) {RD : xM → Nat → Nat → Nat → (Nat → Int32) → Nat → Prop} (hRD : xRs RD) {c : Nat} {M : xM} (hI : xInv RD c M) (hc5 : c < 512) : xOp G RD c M Y1_17 Y14_13 (some .int) [] := by
  obtain ⟨f, li, tx, te, cu, le, fd, fp, fh, fx, px, hx, sn, vc, tk, dl, pl, hc, sr, pn, lr, va, S, T, ov, es, op, ol, oe, r0, r1, hM, hC, hG, hR⟩ := hI
  have h52 := hC.2.2.2.2.1.1
  obtain ⟨c16, c17, c18, c23, cS⟩ := id hC
  obtain ⟨⟨y13, y22, y23, y24, y33, y36, y37, m24⟩, m25, m26, m27, m28, m29, m30, m31, m32, m51, mw⟩ := id hM
  have hAbs := cS.2.2.2.1
  have hOv := cS.2.2.2.2.1
  obtain ⟨Bn, hLvl, hBn⟩ := id cS.2.2.2.2.2.2.2.2.2
  have hvc : vc ≤ 512 := by have := hG.2.2.2.2; omega
  have hT8 := xLvl_len hLvl (show Bn ≤ 171 by omega)
  rw [hAbs.1] at hT8
  have hxl : xcnt f 99 128 = ov.length := by
    rw [xcnt_len, hOv.length_eq, List.length_map]
    rfl
  by_cases h0 : ov = []
  · subst h0
    rw [List.length_nil] at hxl
    refine ⟨nI ((cmpl li sn (f, le, sn, tk) 0).2), fun M' => (∃ op' va' S' T' es' ol' oe', xIc M' ((cmpl li sn (f, le, sn, tk) 0).1.1) li tx te cu ((cmpl li sn (f, le, sn, tk) 0).1.2.1) fx px hx ((cmpl li sn (f, le, sn, tk) 0).1.2.2.1) vc ((cmpl li sn (f, le, sn, tk) 0).1.2.2.2) dl pl hc pn lr va' S' T' ([]) es' op' ol' oe' r0 r1) ∧ xIm M' f li tx te cu le fd fp fh sn vc tk dl pl hc sr pn ∧ xRr RD M' lr r0 r1 fp pl, xc_wk (xCompE hg hxn hZ hT cS (by omega) c16) (by omega) (by omega) (by omega) ?_, fun M' hq => ?_⟩
    · rintro v M' ⟨rfl, e1, eF, op', va', S', T', es', ol', oe', e16, eS⟩
      have hno : ∀ j, (17 ≤ j ∧ j ≤ 18) ∨ (23 ≤ j ∧ j < 52) → M'.2 j = M.2 j := fun j q => eF j (by omega) (by omega) (by omega) (by omega) (fun z => by unfold xPl at z; omega)
      exact ⟨rfl, ⟨op', va', S', T', es', ol', oe', e16, (hno 17 (by omega)).trans c17, (hno 18 (by omega)).trans c18, (hno 23 (by omega)).trans c23, eS⟩, xIm_fr hM (fun j a b => hno j (by omega)), xRr_fr hRD hR e1 (fun j a b d => eF j (by omega) (by have := cS.1.2.1; omega) (by omega) (by omega) (fun z => by unfold xPl at z; omega))⟩
    · obtain ⟨⟨op', va', S', T', es', ol', oe', hC'⟩, ⟨⟨y13, y22, y23, y24, y33, y36, y37, n24⟩, n25, n26, n27, n28, n29, n30, n31, n32, n51, nw⟩, hR'⟩ := hq
      have h52' := hC'.2.2.2.2.1.1
      refine ⟨⟨h52', _, n24⟩, xc_wk (mCompE hg rfl (by omega) (by omega) (by omega) n24 (by omega) (by omega) n28 (by omega) (by omega) n27 (by omega) (by omega) n30 hxn (by omega) (by omega) (by omega)) (by omega) (by omega) (by omega) ?_⟩
      rintro v M'' ⟨rfl, e1, e2, e24, e28, e30⟩
      have hC2 := xIc_fr hxn hC' e1 (fun j a b => e2 j (by omega) (by omega) (by omega) (by omega))
      have hM2 : xIm M'' ((cmpl li sn (f, le, sn, tk) 0).1.1) li tx te cu ((cmpl li sn (f, le, sn, tk) 0).1.2.1) fd fp fh ((cmpl li sn (f, le, sn, tk) 0).1.2.2.1) vc ((cmpl li sn (f, le, sn, tk) 0).1.2.2.2) dl pl hc sr pn := ⟨⟨y13, y22, y23, y24, y33, y36, y37, e24⟩, (e2 25 (by omega) (by omega) (by omega) (by omega)).trans n25, (e2 26 (by omega) (by omega) (by omega) (by omega)).trans n26, (e2 27 (by omega) (by omega) (by omega) (by omega)).trans n27, e28, (e2 29 (by omega) (by omega) (by omega) (by omega)).trans n29, e30, (e2 31 (by omega) (by omega) (by omega) (by omega)).trans n31, (e2 32 (by omega) (by omega) (by omega) (by omega)).trans n32, (e2 51 (by omega) (by omega) (by omega) (by omega)).trans n51, xMw_fr nw (fun j a b => (e2 j (by omega) (by omega) (by omega) (by omega)))⟩
      exact ⟨rfl, (cmpl li sn (f, le, sn, tk) 0).1.1, li, tx, te, cu, (cmpl li sn (f, le, sn, tk) 0).1.2.1, fd, fp, fh, fx, px, hx, (cmpl li sn (f, le, sn, tk) 0).1.2.2.1, vc, (cmpl li sn (f, le, sn, tk) 0).1.2.2.2, dl, pl, hc, sr, pn, lr, va', S', T', [], es', op', ol', oe', r0, r1, hM2, hC2, ⟨hG.1, hG.2.1, hG.2.2.1, fun s hs => by obtain ⟨tl, a, b, d⟩ := hG.2.2.2.1 s hs; exact ⟨tl, a, b, fun hu => d (cmpl_u _ _ _ _ _ _ (by omega) hu)⟩, Nat.le_succ_of_le hG.2.2.2.2⟩, xRr_fr hRD hR' (by omega) (fun j a b d => e2 j (by have := hC'.2.2.2.2.1.2.1; omega) (by omega) (by omega) (by omega))⟩
  · have hl0 : 0 < ov.length := Nat.pos_of_ne_zero (fun q => h0 (List.length_eq_zero_iff.mp q))
    refine ⟨nI ((cmpl li (sn + 1) (xsealF f (nI sn), upd le sn 0, sn + 1, tk) 0).2), fun M' => (∃ op' va' S' T' es' ol' oe', xIc M' ((cmpl li (sn + 1) (xsealF f (nI sn), upd le sn 0, sn + 1, tk) 0).1.1) li tx te cu ((cmpl li (sn + 1) (xsealF f (nI sn), upd le sn 0, sn + 1, tk) 0).1.2.1) fx px hx ((cmpl li (sn + 1) (xsealF f (nI sn), upd le sn 0, sn + 1, tk) 0).1.2.2.1) vc ((cmpl li (sn + 1) (xsealF f (nI sn), upd le sn 0, sn + 1, tk) 0).1.2.2.2) dl pl hc pn lr va' S' T' ([]) es' op' ol' oe' r0 r1) ∧ xIm M' f li tx te cu le fd fp fh sn vc tk dl pl hc sr pn ∧ xRr RD M' lr r0 r1 fp pl, xc_wk (xCompS hg hxn hZ hT cS (by omega) c16 (by omega)) (by omega) (by omega) (by omega) ?_, fun M' hq => ?_⟩
    · rintro v M' ⟨rfl, e1, eF, op', va', S', T', es', ol', oe', e16, eS⟩
      have hno : ∀ j, (17 ≤ j ∧ j ≤ 18) ∨ (23 ≤ j ∧ j < 52) → M'.2 j = M.2 j := fun j q => eF j (by omega) (by omega) (by omega) (by omega) (fun z => by unfold xPl at z; omega)
      exact ⟨rfl, ⟨op', va', S', T', es', ol', oe', e16, (hno 17 (by omega)).trans c17, (hno 18 (by omega)).trans c18, (hno 23 (by omega)).trans c23, eS⟩, xIm_fr hM (fun j a b => hno j (by omega)), xRr_fr hRD hR e1 (fun j a b d => eF j (by omega) (by have := cS.1.2.1; omega) (by omega) (by omega) (fun z => by unfold xPl at z; omega))⟩
    · obtain ⟨⟨op', va', S', T', es', ol', oe', hC'⟩, ⟨⟨y13, y22, y23, y24, y33, y36, y37, n24⟩, n25, n26, n27, n28, n29, n30, n31, n32, n51, nw⟩, hR'⟩ := hq
      have h52' := hC'.2.2.2.2.1.1
      refine ⟨⟨h52', _, n24⟩, xc_wk (mCompS hg rfl (by omega) (by omega) (by omega) n24 (by omega) (by omega) n28 (by omega) (by omega) n27 (by omega) (by omega) n30 hxn (by omega) (by omega) (by omega)) (by omega) (by omega) (by omega) ?_⟩
      rintro v M'' ⟨rfl, e1, e2, e28, e30, e24⟩
      have hC2 := xIc_fr hxn hC' e1 (fun j a b => e2 j (by omega) (by omega) (by omega) (by omega))
      have hM2 : xIm M'' ((cmpl li (sn + 1) (xsealF f (nI sn), upd le sn 0, sn + 1, tk) 0).1.1) li tx te cu ((cmpl li (sn + 1) (xsealF f (nI sn), upd le sn 0, sn + 1, tk) 0).1.2.1) fd fp fh ((cmpl li (sn + 1) (xsealF f (nI sn), upd le sn 0, sn + 1, tk) 0).1.2.2.1) vc ((cmpl li (sn + 1) (xsealF f (nI sn), upd le sn 0, sn + 1, tk) 0).1.2.2.2) dl pl hc sr pn := ⟨⟨y13, y22, y23, y24, y33, y36, y37, e24⟩, (e2 25 (by omega) (by omega) (by omega) (by omega)).trans n25, (e2 26 (by omega) (by omega) (by omega) (by omega)).trans n26, (e2 27 (by omega) (by omega) (by omega) (by omega)).trans n27, e28, (e2 29 (by omega) (by omega) (by omega) (by omega)).trans n29, e30, (e2 31 (by omega) (by omega) (by omega) (by omega)).trans n31, (e2 32 (by omega) (by omega) (by omega) (by omega)).trans n32, (e2 51 (by omega) (by omega) (by omega) (by omega)).trans n51, xMw_fr nw (fun j a b => (e2 j (by omega) (by omega) (by omega) (by omega)))⟩
      exact ⟨rfl, (cmpl li (sn + 1) (xsealF f (nI sn), upd le sn 0, sn + 1, tk) 0).1.1, li, tx, te, cu, (cmpl li (sn + 1) (xsealF f (nI sn), upd le sn 0, sn + 1, tk) 0).1.2.1, fd, fp, fh, fx, px, hx, (cmpl li (sn + 1) (xsealF f (nI sn), upd le sn 0, sn + 1, tk) 0).1.2.2.1, vc, (cmpl li (sn + 1) (xsealF f (nI sn), upd le sn 0, sn + 1, tk) 0).1.2.2.2, dl, pl, hc, sr, pn, lr, va', S', T', [], es', op', ol', oe', r0, r1, hM2, hC2, ⟨hG.1, hG.2.1, hG.2.2.1, fun s hs => by obtain ⟨tl, a, b, d⟩ := hG.2.2.2.1 s hs; exact ⟨tl, a, b, fun hu => d (xseal_u (cmpl_u _ _ _ _ _ _ (by omega) hu))⟩, Nat.le_succ_of_le hG.2.2.2.2⟩, xRr_fr hRD hR' (by omega) (fun j a b d => e2 j (by have := hC'.2.2.2.2.1.2.1; omega) (by omega) (by omega) (by omega))⟩

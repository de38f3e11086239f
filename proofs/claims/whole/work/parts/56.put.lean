theorem xno {r0 r1 n n' e j : Nat} (h : e = 0 ∨ xPl r0 r1 n e) (q : j = e) (hj : ¬ xPl r0 r1 n' j) (hn : n ≤ n' ∧ j ≠ 0) : False := by
  subst q
  rcases h with h | h
  · exact hn.2 h
  · exact hj (xPl_m h hn.1)
theorem xPutXN {G : xG} (hg : xGood G) (hxn : xn = 16) (hZ : va_Z "java/util/ArrayList" "DEFAULTCAPACITY_EMPTY_ELEMENTDATA" "[Ljava/lang/Object;" (.ref (xa G 1)) (fun q => (xs G).heap.size ≤ q) (xs G) (xs G).heap) (hT : va_T (.object "java/lang/Object") (xa G 1) 0 (fun _ => .null) (fun q => (xs G).heap.size ≤ q) (xs G) (xs G).heap) {M : xM} {n : Nat} (hn : M.1 = n) {f li tx te cu le : Nat → Int32} {sn : Nat} {va : Nat → Nat} {S : List Nat} {T : List (Int32 × List Nat)} {ov : List Nat} {es ol oe r0 r1 : Nat} {dl : Nat} {pl : Nat} {vc : Nat} {tk : Nat} {hc : Nat} {op : Nat} {pn : Int32} {lr : Value} {k sl : Nat} {fd fx : Nat → Int32} (hS : xSt 2 M f li tx te cu le sn vc va S T ov es op ol oe r0 r1) (hvc : vc < 512) (h16 : M.2 16 = (.inr (0, [.ref 17, .int (nI dl), .ref 18, .int (nI pl), lr, .ref 19, .int (nI vc), .ref op, .ref 22, .int (nI tk), .ref 23, .int (nI hc), .int pn]))) (h17 : M.2 17 = (.inl (1, 40, .inl fx))) (hfd : ∀ j, j < dl → fx j = fd j) (hdl : dl ≤ 40) (hft : ∀ z, z < dl → fits .char (.int (fx z)) = true) (hk : k < 10) (hsl : sl < 128) (hf : f sl = -1) (hck : cu k = -1) : XC G Y1_3 (some .int) 8 182 1707 [.ref 16, .int (nI k)] M (fun v M' => v = some (.int (nI (vc + 1))) ∧ M.1 ≤ M'.1 ∧ xFm r0 r1 M M' ∧ ((¬ ov.length + 1 = 3 ∧ M'.2 16 = (.inr (0, [.ref 17, .int 0, .ref 18, .int (nI pl), lr, .ref 19, .int (nI (vc + 1)), .ref op, .ref 22, .int (nI tk), .ref 23, .int (nI hc), .int pn])) ∧ ∃ va' ov' oe', xSt 2 M' (upd f sl 99) (upd li sl 1) (va_cpy fd tx 0 (40 * sl) dl) (upd te sl (nI dl)) (upd cu k (nI sl)) le sn (vc + 1) va' S T ov' es op ol oe' r0 r1) ∨ (ov.length + 1 = 3 ∧ ∃ op' va' S' T' es' ol', M'.2 16 = (.inr (0, [.ref 17, .int 0, .ref 18, .int (nI pl), lr, .ref 19, .int (nI (vc + 1)), .ref op', .ref 22, .int (nI ((setl (upd li sl 1) (sn + 1) (xsealF (upd f sl 99) (nI sn), upd le sn 0, sn + 1, tk)).2.2.2)), .ref 23, .int (nI hc), .int pn])) ∧ xSt 2 M' (setl (upd li sl 1) (sn + 1) (xsealF (upd f sl 99) (nI sn), upd le sn 0, sn + 1, tk)).1 (upd li sl 1) (va_cpy fd tx 0 (40 * sl) dl) (upd te sl (nI dl)) (upd cu k (nI sl)) (setl (upd li sl 1) (sn + 1) (xsealF (upd f sl 99) (nI sn), upd le sn 0, sn + 1, tk)).2.1 (setl (upd li sl 1) (sn + 1) (xsealF (upd f sl 99) (nI sn), upd le sn 0, sn + 1, tk)).2.2.1 (vc + 1) va' S' T' [] es' op' ol' 0 r0 r1))) := by
  obtain ⟨nm, h19, hnm⟩ := hS.2.2.1
  have hStp := hS.1
  have h52 := hStp.1
  have hol := hStp.2.2.2.2.1
  have hoa := xAr_p hStp.2.2.2.2.2.1
  have hea := xAr_p hStp.2.2.1
  refine xc_of hg (by decide) (Nat.le_of_ble_eq_true rfl) (Or.inl ⟨rfl, rfl, fun v M' h => ⟨_, h.1⟩⟩) ?_
  refine xj_iload_n (i := 1) d1_3_0 rfl rfl ?_
  refine xj_callS (rest := []) (As := [.int (nI k)]) (cName hg (M := M) (n := n) (c := nI k) (show M.1 = n by omega) (by omega) ) d1_3_1 wd1_19 w138 (Or.inl w137) rfl rfl (Nat.le_of_ble_eq_true rfl) (by omega) (by omega) (by omega) ?_
  rintro v M' ⟨rfl, hm⟩
  subst M'
  refine xj_if_ne (tgt := 9) d1_3_4 rfl (fun _ => ?_) (fun h => absurd h (by rw [xB_t (xname_k hk)]; decide))
  refine xj_aload_n (i := 0) d1_3_9 rfl rfl ?_
  refine xj_iload_n (i := 1) d1_3_10 rfl rfl ?_
  refine xj_callV (rest := []) (As := [.int (nI k)]) (b := 16) (xRetireN hg hn (by omega) (by omega) (by omega) h16 (by omega) (by omega) h19 hk (xNm_no hnm hk hck)) d1_3_11 wd1_23 h16 (by omega) (show 16 < M.1 by omega) rfl s1_23 w142 (Or.inl w140) rfl rfl (Nat.le_of_ble_eq_true rfl) (by omega) (by omega) (by omega) ?_
  rintro v M' ⟨rfl, hm0⟩
  subst M'
  refine xj_pop d1_3_14 rfl ?_
  refine xPutB hg hxn hZ hT hn hS hvc h16 h17 hfd hdl hft hk hsl hf hck (by omega) (by omega) (by omega) (fun h3 M' e g1 g2 g3 g4 => ?_) (fun h3 M' S' T' es' op' ol' g1 g2 g3 g4 => ?_)
  · refine ⟨rfl, by omega, fun j a b c d e9 => ?_, Or.inl ⟨h3, g3, _, _, _, g4⟩⟩
    refine (g2 j (by omega) (by omega) c (fun q => e9 (by rw [q]; exact hol)) (fun q => ?_))
    · exact xno hoa q e9 (by omega)
  · refine ⟨rfl, by omega, fun j a b c d e9 => ?_, Or.inr ⟨h3, _, _, _, _, _, _, g3, g4⟩⟩
    refine (g2 j (by omega) (by omega) c d (fun q => e9 (by rw [q]; exact hol)) (fun q => ?_) (fun q => ?_))
    · exact xno hoa q e9 (by omega)
    · exact xno hea q e9 (by omega)
theorem xPutXY {G : xG} (hg : xGood G) (hxn : xn = 16) (hZ : va_Z "java/util/ArrayList" "DEFAULTCAPACITY_EMPTY_ELEMENTDATA" "[Ljava/lang/Object;" (.ref (xa G 1)) (fun q => (xs G).heap.size ≤ q) (xs G) (xs G).heap) (hT : va_T (.object "java/lang/Object") (xa G 1) 0 (fun _ => .null) (fun q => (xs G).heap.size ≤ q) (xs G) (xs G).heap) {M : xM} {n : Nat} (hn : M.1 = n) {f li tx te cu le : Nat → Int32} {sn : Nat} {va : Nat → Nat} {S : List Nat} {T : List (Int32 × List Nat)} {ov : List Nat} {es ol oe r0 r1 : Nat} {dl : Nat} {pl : Nat} {vc : Nat} {tk : Nat} {hc : Nat} {op : Nat} {pn : Int32} {lr : Value} {k sl : Nat} {fd fx : Nat → Int32} (hS : xSt 2 M f li tx te cu le sn vc va S T ov es op ol oe r0 r1) (hvc : vc < 512) (h16 : M.2 16 = (.inr (0, [.ref 17, .int (nI dl), .ref 18, .int (nI pl), lr, .ref 19, .int (nI vc), .ref op, .ref 22, .int (nI tk), .ref 23, .int (nI hc), .int pn]))) (h17 : M.2 17 = (.inl (1, 40, .inl fx))) (hfd : ∀ j, j < dl → fx j = fd j) (hdl : dl ≤ 40) (hft : ∀ z, z < dl → fits .char (.int (fx z)) = true) (hk : k < 10) (hsl : sl < 128) (hf : f sl = -1) {sb : Nat} (hsb : sb < 128) (hcs : cu k = nI sb) : XC G Y1_3 (some .int) 8 182 1707 [.ref 16, .int (nI k)] M (fun v M' => v = some (.int (nI (vc + 1))) ∧ M.1 ≤ M'.1 ∧ xFm r0 r1 M M' ∧ ((¬ ov.length + 1 = 3 ∧ M'.2 16 = (.inr (0, [.ref 17, .int 0, .ref 18, .int (nI pl), lr, .ref 19, .int (nI (vc + 1)), .ref op, .ref 22, .int (nI tk), .ref 23, .int (nI hc), .int pn])) ∧ ∃ va' ov' oe', xSt 2 M' (upd f sl 99) (upd (upd li sb 0) sl 1) (va_cpy fd tx 0 (40 * sl) dl) (upd te sl (nI dl)) (upd (upd cu k (-1)) k (nI sl)) le sn (vc + 1) va' S T ov' es op ol oe' r0 r1) ∨ (ov.length + 1 = 3 ∧ ∃ op' va' S' T' es' ol', M'.2 16 = (.inr (0, [.ref 17, .int 0, .ref 18, .int (nI pl), lr, .ref 19, .int (nI (vc + 1)), .ref op', .ref 22, .int (nI ((setl (upd (upd li sb 0) sl 1) (sn + 1) (xsealF (upd f sl 99) (nI sn), upd le sn 0, sn + 1, tk)).2.2.2)), .ref 23, .int (nI hc), .int pn])) ∧ xSt 2 M' (setl (upd (upd li sb 0) sl 1) (sn + 1) (xsealF (upd f sl 99) (nI sn), upd le sn 0, sn + 1, tk)).1 (upd (upd li sb 0) sl 1) (va_cpy fd tx 0 (40 * sl) dl) (upd te sl (nI dl)) (upd (upd cu k (-1)) k (nI sl)) (setl (upd (upd li sb 0) sl 1) (sn + 1) (xsealF (upd f sl 99) (nI sn), upd le sn 0, sn + 1, tk)).2.1 (setl (upd (upd li sb 0) sl 1) (sn + 1) (xsealF (upd f sl 99) (nI sn), upd le sn 0, sn + 1, tk)).2.2.1 (vc + 1) va' S' T' [] es' op' ol' 0 r0 r1))) := by
  obtain ⟨nm, h19, hnm⟩ := hS.2.2.1
  have hStp := hS.1
  have h52 := hStp.1
  have hol := hStp.2.2.2.2.1
  have hoa := xAr_p hStp.2.2.2.2.2.1
  have hea := xAr_p hStp.2.2.1
  have hu0 := (xIp_at hS.2.2.2.2.2.1 hk hsb hcs).1
  obtain ⟨⟨hv52, hvp⟩, t0, tl0, g0, ht0, hv0, -⟩ := hS.2.1 sb hsb hu0
  have hvn := hvp.2.1
  refine xc_of hg (by decide) (Nat.le_of_ble_eq_true rfl) (Or.inl ⟨rfl, rfl, fun v M' h => ⟨_, h.1⟩⟩) ?_
  refine xj_iload_n (i := 1) d1_3_0 rfl rfl ?_
  refine xj_callS (rest := []) (As := [.int (nI k)]) (cName hg (M := M) (n := n) (c := nI k) (show M.1 = n by omega) (by omega) ) d1_3_1 wd1_19 w138 (Or.inl w137) rfl rfl (Nat.le_of_ble_eq_true rfl) (by omega) (by omega) (by omega) ?_
  rintro v M' ⟨rfl, hm⟩
  subst M'
  refine xj_if_ne (tgt := 9) d1_3_4 rfl (fun _ => ?_) (fun h => absurd h (by rw [xB_t (xname_k hk)]; decide))
  refine xj_aload_n (i := 0) d1_3_9 rfl rfl ?_
  refine xj_iload_n (i := 1) d1_3_10 rfl rfl ?_
  refine xj_callV (rest := []) (As := [.int (nI k)]) (b := 16) (xRetireY hg hn (by omega) (by omega) (by omega) h16 (by omega) (by omega) h19 (by omega) (by omega) hv0 hk (xNm_at hnm hk hsb hcs) ⟨by omega, by omega⟩) d1_3_11 wd1_23 h16 (by omega) (show 16 < M.1 by omega) rfl s1_23 w142 (Or.inl w140) rfl rfl (Nat.le_of_ble_eq_true rfl) (by omega) (by omega) (by omega) ?_
  rintro v M1 ⟨rfl, hs1, ho1, hf1, hg1⟩
  obtain ⟨hS1, hF1⟩ := xSt_ret hxn hS hk hsb hcs hnm (hs1.trans hn.symm) (fun j a b c => ho1 j (by omega) b c) hv0 hf1 hg1
  refine xj_pop d1_3_14 rfl ?_
  refine xPutB hg hxn hZ hT hs1 hS1 hvc ((ho1 16 (by omega) (by omega) (by omega)).trans h16) ((ho1 17 (by omega) (by omega) (by omega)).trans h17) hfd hdl hft hk hsl hf (if_pos rfl) (by omega) (by omega) (by omega) (fun h3 M' e g1 g2 g3 g4 => ?_) (fun h3 M' S' T' es' op' ol' g1 g2 g3 g4 => ?_)
  · refine ⟨rfl, by omega, fun j a b c d e9 => ?_, Or.inl ⟨h3, g3, _, _, _, g4⟩⟩
    refine (g2 j (by omega) (by omega) c (fun q => e9 (by rw [q]; exact hol)) (fun q => ?_)).trans (hF1 j a b c d e9)
    · exact xno hoa q e9 (by omega)
  · refine ⟨rfl, by omega, fun j a b c d e9 => ?_, Or.inr ⟨h3, _, _, _, _, _, _, g3, g4⟩⟩
    refine (g2 j (by omega) (by omega) c d (fun q => e9 (by rw [q]; exact hol)) (fun q => ?_) (fun q => ?_)).trans (hF1 j a b c d e9)
    · exact xno hoa q e9 (by omega)
    · exact xno hea q e9 (by omega)

theorem xprt {x : Int32} (h : ¬ x < 32 ∧ ¬ 126 < x) : ∃ u1, u1 < 95 ∧ x = nI (u1 + 32) := by
  obtain ⟨k, hk, rfl⟩ := xInt_ex (c := x) (fun q => h.1 (Int32.lt_trans q (by decide)))
  have h1 : 32 ≤ k := Classical.byContradiction fun q => h.1 (nI_lt (a := k) (b := 32) (by omega) (by omega))
  have h2 : k ≤ 126 := Classical.byContradiction fun q => h.2 (nI_lt (a := 126) (b := k) (by omega) (by omega))
  exact ⟨k - 32, by omega, by rw [show k - 32 + 32 = k by omega]⟩
theorem xStp_rd {M M' : xM} {es op ol oe : Nat} {S : List Nat} {T : List (Int32 × List Nat)} {ov : List Nat} (hxn : xn = 16) (h : xStp M es op ol oe 0 0 S T ov) (hm : M.1 ≤ M'.1) (hfr : ∀ j, j < M.1 → j ≠ 16 → M'.2 j = M.2 j) : xStp M' es op ol oe M.1 M'.1 S T ov := by
  obtain ⟨a1, a2, a3, a4, a5, a6, a7, a8, a9, b1, b2⟩ := h
  have h16 : ∀ x, xn ≤ x → x ≠ 0 := fun x hx => by omega
  have pm : ∀ x, xPl 0 0 M.1 x → xPl M.1 M'.1 M'.1 x := fun x q => ⟨q.1, Nat.lt_of_lt_of_le q.2.1 hm, q.2.2.1, q.2.2.2.1, q.2.2.2.2.1, Or.inl q.2.1⟩
  have hp : ∀ x, xPl 0 0 M.1 x → M'.2 x = M.2 x := fun x q => hfr x q.2.1 (xPl_16 q)
  have ar : ∀ e, xAr M 0 0 e → xAr M' M.1 M'.1 e := fun e q => q.imp_right (fun z => ⟨pm e z.1, by obtain ⟨y, hy⟩ := z.2; exact ⟨y, (hp e z.1).trans hy⟩⟩)
  refine ⟨Nat.le_trans a1 hm, Nat.le_refl _, ar es a3, pm op a4, pm ol a5, ar oe a6, a7, ?_, ?_, (hp op a4).trans b1, ?_⟩
  · refine xLs_fi a8 hm (hfr 22 (by omega) (by decide)) (fun x y hx hx1 _ hy => ?_)
    have hx' : x = es := hx
    subst hx'
    exact hp x (a3.resolve_left (h16 x hx1)).1
  · exact xShT_fr a9 hm (fun x hx => ⟨pm x hx.1, hx.2⟩) (fun x hx _ => hp x hx.1)
  · refine xLs_fi b2 hm (hp ol a5) (fun x y hx hx1 _ hy => ?_)
    have hx' : x = oe := hx
    subst hx'
    exact hp x (a6.resolve_left (h16 x hx1)).1
theorem xSt_rd {o : Nat} {M M' : xM} {f li tx te cu le : Nat → Int32} {sn vc : Nat} {va : Nat → Nat} {S : List Nat} {T : List (Int32 × List Nat)} {ov : List Nat} {es op ol oe : Nat} (hxn : xn = 16) (h : xSt o M f li tx te cu le sn vc va S T ov es op ol oe 0 0) (hm : M.1 ≤ M'.1) (hfr : ∀ j, j < M.1 → j ≠ 16 → M'.2 j = M.2 j) : xSt o M' f li tx te cu le sn vc va S T ov es op ol oe M.1 M'.1 := by
  obtain ⟨h1, h2, ⟨nm, h3, h3'⟩, h4⟩ := h
  have pm : ∀ x, xPl 0 0 M.1 x → xPl M.1 M'.1 M'.1 x := fun x q => ⟨q.1, Nat.lt_of_lt_of_le q.2.1 hm, q.2.2.1, q.2.2.2.1, q.2.2.2.2.1, Or.inl q.2.1⟩
  have h52 := h1.1
  refine ⟨xStp_rd hxn h1 hm hfr, fun s hs hu => ?_, ⟨nm, (hfr 19 (by omega) (by decide)).trans h3, h3'⟩, h4⟩
  obtain ⟨a, t, tl, g, b, c, d, e, k, l⟩ := h2 s hs hu
  exact ⟨⟨a.1, pm _ a.2⟩, t, tl, g, ⟨b.1, pm _ b.2⟩, (hfr _ a.2.2.1 (xPl_16 a.2)).trans c, (hfr t b.2.2.1 (xPl_16 b.2)).trans d, e, k, l⟩
theorem RD_f {M : xM} {rd r0 r1 : Nat} {fp : Nat → Int32} {pl : Nat} (h : RD M rd r0 r1 fp pl) : ∃ gs W a og : Nat, M.2 rd = cRo pl gs W (pRead fp pl).2.1 a og := by
  by_cases hz : (pRead fp pl).2.1 = 0
  · obtain ⟨gs, a, og, ow, rk, ad, μ, lo, e1, -⟩ := h.2.2 hz
    rw [hz]
    exact ⟨gs, _, a, og, e1⟩
  · obtain ⟨gs, W, a, og, e1, -⟩ := h.2.1 hz
    exact ⟨gs, W, a, og, e1⟩
set_option maxRecDepth 20000 in
theorem kRP0 {G : xG} (hg : xGood G) (hxn : xn = 16) (hZ : va_Z "java/util/ArrayList" "DEFAULTCAPACITY_EMPTY_ELEMENTDATA" "[Ljava/lang/Object;" (.ref (xa G 1)) (fun q => (xs G).heap.size ≤ q) (xs G) (xs G).heap) (hT : va_T (.object "java/lang/Object") (xa G 1) 0 (fun _ => .null) (fun q => (xs G).heap.size ≤ q) (xs G) (xs G).heap) (hMi : xHM G) (hNA : xNA G) (hSC : xSC G) {px fp : Nat → Int32} {M : xM} {dl pl vc tk hc op : Nat} {pn : Int32} (h52 : 52 ≤ M.1) (hpl : pl ≤ 24) (hpx : ∀ j, j < pl → px j = fp j) (hPR : ∀ j, j < pl → ∃ u1, u1 < 95 ∧ fp j = nI (u1 + 32)) (c16 : M.2 16 = (.inr (0, [.ref 17, .int (nI dl), .ref 18, .int (nI pl), .null, .ref 19, .int (nI vc), .ref op, .ref 22, .int (nI tk), .ref 23, .int (nI hc), .int pn]))) (c18 : M.2 18 = (.inl (1, 24, .inl px))) : XC G Y1_28 (some (.object "TrigramLines$Reader")) 103 643 14142 [.ref 16] M (fun v M' => v = some (.ref M.1) ∧ M.1 ≤ M'.1 ∧ (∀ j, j < M.1 → j ≠ 16 → M'.2 j = M.2 j) ∧ M'.2 16 = (.inr (0, [.ref 17, .int (nI dl), .ref 18, .int (nI pl), .ref M.1, .ref 19, .int (nI vc), .ref op, .ref 22, .int (nI tk), .ref 23, .int (nI hc), .int pn])) ∧ RD M' M.1 M.1 M'.1 fp pl) := by
  refine xc_of hg (by decide) (Nat.le_of_ble_eq_true rfl) (Or.inr (Or.inr (Or.inr (Or.inr (Or.inr ⟨⟨_, rfl, Or.inl ⟨_, rfl⟩⟩, rfl, fun v M' h => Or.inr ⟨_, h.1⟩⟩))))) ?_
  refine xj_aload_n (i := 0) d1_28_0 rfl rfl ?_
  refine xj_get d1_28_1 f1_85_0 c16 (by omega) (show 16 < M.1 by omega) rfl ?_
  refine xj_ifnonnullN d1_28_4 ?_
  refine xj_aload_n (i := 0) d1_28_7 rfl rfl ?_
  refine xj_new (na := M.1) d1_28_8 n1_94 rfl (by omega) (by omega) ?_
  refine xj_abs_push rfl (fun M1 hs1 ha1 ho1 => ?_)
  refine xj_dup d1_28_11 rfl ?_
  refine xj_aload_n (i := 0) d1_28_12 rfl rfl ?_
  refine xj_get d1_28_13 f1_13_0 ((ho1 16 (by omega)).trans c16) (by omega) (show 16 < M1.1 by omega) rfl ?_
  refine xj_aload_n (i := 0) d1_28_16 rfl rfl ?_
  refine xj_get d1_28_17 f1_82_0 ((ho1 16 (by omega)).trans c16) (by omega) (show 16 < M1.1 by omega) rfl ?_
  refine xj_callI (rest := [.ref M.1, .ref 16]) (As := [.ref 18, .int (nI pl)]) (b := M.1) (cReader hg hZ hT (M := M1) (n := M.1 + 1) (a := M.1) (pa := 18) (en := nI pl) (show M1.1 = M.1 + 1 by omega) (by omega) (by omega) (by omega) ha1) d1_28_20 wd8_1 rfl w307 (Or.inl w306) rfl rfl (Nat.le_of_ble_eq_true rfl) (by omega) (by omega) (by omega) ?_
  rintro v M2 ⟨rfl, hs2, ho2, hf2_0, hf2_1, hf2_2, hf2_3, hf2_4, hf2_5, hf2_6, hf2_7, hf2_8, hf2_9, hf2_10, hf2_11, hf2_12⟩
  replace hs2 : M2.1 = M.1 + 13 := hs2
  replace hf2_0 : M2.2 M.1 = (.inr (4, [.ref (M.1 + 1), .int 0, .ref 18, .int (nI pl), .int 0, .ref (M.1 + 12), .int 0])) := hf2_0
  replace hf2_1 : M2.2 (M.1 + 1) = (.inr (5, [.ref (M.1 + 2), .ref (M.1 + 3), .null])) := hf2_1
  replace hf2_2 : M2.2 (M.1 + 2) = (.inr (2, [.ref (M.1 + 11), .int 1, .int 1])) := hf2_2
  replace hf2_3 : M2.2 (M.1 + 3) = (.inr (6, [.ref (M.1 + 4), .ref (M.1 + 5), .null])) := hf2_3
  replace hf2_4 : M2.2 (M.1 + 4) = (.inr (2, [.ref 1, .int 0, .int 0])) := hf2_4
  replace hf2_5 : M2.2 (M.1 + 5) = (.inr (7, [.ref (M.1 + 6), .ref (M.1 + 7), .ref (M.1 + 8), .int 1])) := hf2_5
  replace hf2_6 : M2.2 (M.1 + 6) = (.inr (2, [.ref 1, .int 0, .int 0])) := hf2_6
  replace hf2_7 : M2.2 (M.1 + 7) = (.inr (2, [.ref 1, .int 0, .int 0])) := hf2_7
  replace hf2_8 : M2.2 (M.1 + 8) = (.inr (8, [.ref (M.1 + 9), .ref (M.1 + 10), .int 1])) := hf2_8
  replace hf2_9 : M2.2 (M.1 + 9) = (.inl (1, 60, .inl (fun _ => 0))) := hf2_9
  replace hf2_10 : M2.2 (M.1 + 10) = (.inl (0, 5, .inl (fun _ => 0))) := hf2_10
  replace hf2_11 : M2.2 (M.1 + 11) = (.inl (4, 10, .inr (.inr (.inr (.inr (va_up (fun _ => none) 0 (some (M.1 + 3)))))))) := hf2_11
  replace hf2_12 : M2.2 (M.1 + 12) = (.inl (6, 7, .inr (.inr (.inr (.inr (va_up (fun _ => none) 0 (some (M.1 + 1)))))))) := hf2_12
  refine xj_put (a := 16) (fs' := [.ref 17, .int (nI dl), .ref 18, .int (nI pl), .ref M.1, .ref 19, .int (nI vc), .ref op, .ref 22, .int (nI tk), .ref 23, .int (nI hc), .int pn]) d1_28_23 f1_85_0 ((ho2 16 (by omega) (by omega)).trans ((ho1 16 (by omega)).trans c16)) (by omega) (show 16 < M2.1 by omega) (Nat.le_of_ble_eq_true rfl) rfl rfl rfl ?_
  refine xj_abs_set (fun M3 hs3 ha3 ho3 => ?_)
  refine xj_aload_n (i := 0) d1_28_26 rfl rfl ?_
  refine xj_get d1_28_27 f1_85_0 ha3 (by omega) (show 16 < M3.1 by omega) rfl ?_
  have hK : cK M.1 (M.1, M3.2) pl M3 (0, 0, [], ([], []) :: []) := cK_new (g := M.1 + 1) hxn h52 rfl rfl (show M3.1 = M.1 + 1 + 12 by omega) (fun _ _ => rfl) ((ho3 M.1 (by omega)).trans hf2_0) ((ho3 (M.1 + 1) (by omega)).trans hf2_1) ((ho3 (M.1 + 2) (by omega)).trans hf2_2) ((ho3 (M.1 + 3) (by omega)).trans hf2_3) ((ho3 (M.1 + 4) (by omega)).trans hf2_4) ((ho3 (M.1 + 5) (by omega)).trans hf2_5) ((ho3 (M.1 + 6) (by omega)).trans hf2_6) ((ho3 (M.1 + 7) (by omega)).trans hf2_7) ((ho3 (M.1 + 8) (by omega)).trans hf2_8) ((ho3 (M.1 + 9) (by omega)).trans hf2_9) ((ho3 (M.1 + 10) (by omega)).trans hf2_10) ((ho3 (M.1 + 11) (by omega)).trans hf2_11) ((ho3 (M.1 + 12) (by omega)).trans hf2_12)
  refine xj_callV (rest := []) (As := []) (b := M.1) (kRead hg hxn hZ hT hMi hNA hSC (M0 := (M.1, M3.2)) hpl hpx hPR ((ho3 18 (by omega)).trans ((ho2 18 (by omega) (by omega)).trans ((ho1 18 (by omega)).trans c18))) hK) d1_28_30 wd8_2 ((ho3 M.1 (by omega)).trans hf2_0) (by omega) (show M.1 < M3.1 by omega) rfl w434 w433 (Or.inl w432) rfl rfl (Nat.le_of_ble_eq_true rfl) (by omega) (by omega) (by omega) ?_
  rintro v M9 ⟨rfl, hkr⟩
  obtain ⟨hRD9, hfr9, hm9⟩ := kRs_RD hkr h52 rfl
  replace hfr9 : ∀ j, j < M.1 → M9.2 j = M3.2 j := hfr9
  replace hm9 : M.1 ≤ M9.1 := hm9
  replace hRD9 : RD M9 M.1 M.1 M9.1 fp pl := hRD9
  refine xj_aload_n (i := 0) d1_28_33 rfl rfl ?_
  refine xj_get d1_28_34 f1_85_0 ((hfr9 16 (by omega)).trans ha3) (by omega) (show 16 < M9.1 by omega) rfl ?_
  exact xj_ret d1_28_37 (by omega) (by omega) rfl ⟨rfl, hm9, (fun j hj hj6 => ((hfr9 j (by omega)).trans ((ho3 j (by omega)).trans ((ho2 j (by omega) (by omega)).trans (ho1 j (by omega)))))), ((hfr9 16 (by omega)).trans ha3), hRD9⟩
set_option maxRecDepth 20000 in
theorem kRP1 {G : xG} (hg : xGood G) (hxn : xn = 16) {M : xM} {dl pl vc tk hc op : Nat} {pn : Int32} {rd : Nat} (h52 : 52 ≤ M.1) (c16 : M.2 16 = (.inr (0, [.ref 17, .int (nI dl), .ref 18, .int (nI pl), .ref rd, .ref 19, .int (nI vc), .ref op, .ref 22, .int (nI tk), .ref 23, .int (nI hc), .int pn]))) : XC G Y1_28 (some (.object "TrigramLines$Reader")) 0 0 0 [.ref 16] M (fun v M' => v = some (.ref rd) ∧ M' = M) := by
  refine xc_of hg (by decide) (Nat.le_of_ble_eq_true rfl) (Or.inr (Or.inr (Or.inr (Or.inr (Or.inr ⟨⟨_, rfl, Or.inl ⟨_, rfl⟩⟩, rfl, fun v M' h => Or.inr ⟨_, h.1⟩⟩))))) ?_
  refine xj_aload_n (i := 0) d1_28_0 rfl rfl ?_
  refine xj_get d1_28_1 f1_85_0 c16 (by omega) (show 16 < M.1 by omega) rfl ?_
  refine xj_ifnonnull (tgt := 33) d1_28_4 rfl ?_
  refine xj_aload_n (i := 0) d1_28_33 rfl rfl ?_
  refine xj_get d1_28_34 f1_85_0 c16 (by omega) (show 16 < M.1 by omega) rfl ?_
  exact xj_ret d1_28_37 (by omega) (by omega) rfl ⟨rfl, rfl⟩
set_option maxRecDepth 20000 in
theorem kFau0 {G : xG} (hg : xGood G) (hxn : xn = 16) (hZ : va_Z "java/util/ArrayList" "DEFAULTCAPACITY_EMPTY_ELEMENTDATA" "[Ljava/lang/Object;" (.ref (xa G 1)) (fun q => (xs G).heap.size ≤ q) (xs G) (xs G).heap) (hT : va_T (.object "java/lang/Object") (xa G 1) 0 (fun _ => .null) (fun q => (xs G).heap.size ≤ q) (xs G) (xs G).heap) (hMi : xHM G) (hNA : xNA G) (hSC : xSC G) {px fp : Nat → Int32} {M : xM} {dl pl vc tk hc op : Nat} {pn : Int32} (h52 : 52 ≤ M.1) (hpl : pl ≤ 24) (hpx : ∀ j, j < pl → px j = fp j) (hPR : ∀ j, j < pl → ∃ u1, u1 < 95 ∧ fp j = nI (u1 + 32)) (c16 : M.2 16 = (.inr (0, [.ref 17, .int (nI dl), .ref 18, .int (nI pl), .null, .ref 19, .int (nI vc), .ref op, .ref 22, .int (nI tk), .ref 23, .int (nI hc), .int pn]))) (c18 : M.2 18 = (.inl (1, 24, .inl px))) : XC G Y1_8 (some .int) 104 643 14142 [.ref 16] M (fun v M' => v = some (.int (pRead fp pl).2.1) ∧ M.1 ≤ M'.1 ∧ (∀ j, j < M.1 → j ≠ 16 → M'.2 j = M.2 j) ∧ M'.2 16 = (.inr (0, [.ref 17, .int (nI dl), .ref 18, .int (nI pl), .ref M.1, .ref 19, .int (nI vc), .ref op, .ref 22, .int (nI tk), .ref 23, .int (nI hc), .int pn])) ∧ RD M' M.1 M.1 M'.1 fp pl) := by
  obtain ⟨x9, hx9⟩ : ∃ x9, (pRead fp pl).2.1 = x9 := ⟨_, rfl⟩
  refine xc_of hg (by decide) (Nat.le_of_ble_eq_true rfl) (Or.inl ⟨rfl, rfl, fun v M' h => ⟨_, h.1⟩⟩) ?_
  refine xj_aload_n (i := 0) d1_8_0 rfl rfl ?_
  refine xj_callV (rest := []) (As := []) (b := 16) (kRP0 hg hxn hZ hT hMi hNA hSC h52 hpl hpx hPR c16 c18) d1_8_1 wd1_28 c16 (by omega) (show 16 < M.1 by omega) rfl s1_28 w302 (Or.inl w300) rfl rfl (Nat.le_of_ble_eq_true rfl) (by omega) (by omega) (by omega) ?_
  rintro v M9 ⟨rfl, hm9, hfr9, k16, hRD9⟩
  obtain ⟨gs, gw, a9, og, kR⟩ := RD_f hRD9
  rw [hx9] at kR
  replace kR : M9.2 M.1 = (.inr (4, [.ref gw, .int x9, .ref 18, .int (nI pl), .int (nI a9), .ref gs, .int (nI og)])) := kR
  have hlt9 := hRD9.1.2.2.1
  refine xj_get d1_8_4 f1_93_4 kR (by omega) (show M.1 < M9.1 by omega) rfl ?_
  exact xj_ret d1_8_7 (by omega) (by omega) rfl ⟨by rw [hx9], hm9, hfr9, k16, hRD9⟩
set_option maxRecDepth 20000 in
theorem kFau1 {G : xG} (hg : xGood G) (hxn : xn = 16) (hZ : va_Z "java/util/ArrayList" "DEFAULTCAPACITY_EMPTY_ELEMENTDATA" "[Ljava/lang/Object;" (.ref (xa G 1)) (fun q => (xs G).heap.size ≤ q) (xs G) (xs G).heap) (hT : va_T (.object "java/lang/Object") (xa G 1) 0 (fun _ => .null) (fun q => (xs G).heap.size ≤ q) (xs G) (xs G).heap) (hMi : xHM G) (hNA : xNA G) (hSC : xSC G) {px fp : Nat → Int32} {M : xM} {dl pl vc tk hc op : Nat} {pn : Int32} (h52 : 52 ≤ M.1) (hpl : pl ≤ 24) (hpx : ∀ j, j < pl → px j = fp j) (hPR : ∀ j, j < pl → ∃ u1, u1 < 95 ∧ fp j = nI (u1 + 32)) {rd r0 r1 : Nat} (c16 : M.2 16 = (.inr (0, [.ref 17, .int (nI dl), .ref 18, .int (nI pl), .ref rd, .ref 19, .int (nI vc), .ref op, .ref 22, .int (nI tk), .ref 23, .int (nI hc), .int pn]))) (hRD : RD M rd r0 r1 fp pl) : XC G Y1_8 (some .int) 104 0 0 [.ref 16] M (fun v M' => v = some (.int (pRead fp pl).2.1) ∧ M' = M) := by
  obtain ⟨x9, hx9⟩ : ∃ x9, (pRead fp pl).2.1 = x9 := ⟨_, rfl⟩
  obtain ⟨gs, gw, a9, og, kR⟩ := RD_f hRD
  rw [hx9] at kR
  replace kR : M.2 rd = (.inr (4, [.ref gw, .int x9, .ref 18, .int (nI pl), .int (nI a9), .ref gs, .int (nI og)])) := kR
  have hb := hRD.1
  refine xc_of hg (by decide) (Nat.le_of_ble_eq_true rfl) (Or.inl ⟨rfl, rfl, fun v M' h => ⟨_, h.1⟩⟩) ?_
  refine xj_aload_n (i := 0) d1_8_0 rfl rfl ?_
  refine xj_callV (rest := []) (As := []) (b := 16) (kRP1 hg hxn h52 c16) d1_8_1 wd1_28 c16 (by omega) (show 16 < M.1 by omega) rfl s1_28 w302 (Or.inl w300) rfl rfl (Nat.le_of_ble_eq_true rfl) (by omega) (by omega) (by omega) ?_
  rintro v M' ⟨rfl, hm⟩
  subst M'
  refine xj_get d1_8_4 f1_93_4 kR (by omega) (show rd < M.1 by omega) rfl ?_
  exact xj_ret d1_8_7 (by omega) (by omega) rfl ⟨by rw [hx9], rfl⟩
theorem oFau {G : xG} (hg : xGood G) (hxn : xn = 16) (hZ : va_Z "java/util/ArrayList" "DEFAULTCAPACITY_EMPTY_ELEMENTDATA" "[Ljava/lang/Object;" (.ref (xa G 1)) (fun q => (xs G).heap.size ≤ q) (xs G) (xs G).heap) (hT : va_T (.object "java/lang/Object") (xa G 1) 0 (fun _ => .null) (fun q => (xs G).heap.size ≤ q) (xs G) (xs G).heap) (hMi : xHM G) (hNA : xNA G) (hSC : xSC G) {c : Nat} {M : xM} (hI : xInv RD c M) : xOp G RD c M Y1_8 Y14_41 (some .int) [] := by
  obtain ⟨f, li, tx, te, cu, le, fd, fp, fh, fx, px, hx, sn, vc, tk, dl, pl, hc, sr, pn, lr, va, S, T, ov, es, op, ol, oe, r0, r1, hM, hC, hG, hR⟩ := hI
  have h52 := hC.2.2.2.2.1.1
  obtain ⟨c16, c17, c18, c23, cS⟩ := id hC
  have hpl := hG.2.1.1
  have hpx : ∀ j, j < pl → px j = fp j := fun j hj => (hG.2.1.2 j hj).1
  have hPR : ∀ j, j < pl → ∃ u1, u1 < 95 ∧ fp j = nI (u1 + 32) := fun j hj => xprt (hG.2.1.2 j hj).2
  have hend : ∀ (M' : xM) (lr' : Value) (q0 q1 : Nat), xIm M' f li tx te cu le fd fp fh sn vc tk dl pl hc sr pn → xIc M' f li tx te cu le fx px hx sn vc tk dl pl hc pn lr' va S T ov es op ol oe q0 q1 → xRr RD M' lr' q0 q1 fp pl → (52 ≤ M'.1 ∧ ∃ fs, M'.2 24 = .inr (12, fs)) ∧ XC G Y14_41 (some .int) 1000 0 0 [.ref 24] M' (fun v M'' => v = some (.int (pRead fp pl).2.1) ∧ xInv RD (c + 1) M'') := by
    intro M' lr' q0 q1 hM' hC' hR'
    have h52' := hC'.2.2.2.2.1.1
    obtain ⟨y33, y36, y37, x, hrf⟩ := xIm_rf hM'
    obtain ⟨⟨z13, z22, z23, z24, z33, z36, z37, m24⟩, -⟩ := id hM'
    refine ⟨⟨h52', _, m24⟩, xc_wk (rFault hg hxn h52' hpl hPR hrf) (by omega) (Nat.le_refl _) (Nat.le_refl _) ?_⟩
    rintro v M'' ⟨rfl, hz⟩
    have hM2 := mZ_im hM' h52' hz
    obtain ⟨⟨i1, i2⟩, -⟩ := id hz
    have hC2 := xIc_fr hxn hC' i1 (fun j a b => i2 j (by omega) (by omega) (by omega))
    refine ⟨rfl, f, li, tx, te, cu, le, fd, fp, fh, fx, px, hx, sn, vc, tk, dl, pl, hc, sr, pn, lr', va, S, T, ov, es, op, ol, oe, q0, q1, hM2, hC2, xIg_c hG, xRr_fr RD_s hR' (by omega) (fun j a b d => i2 j ?_ (by omega) (by omega))⟩
    have hq1 := hC'.2.2.2.2.1.2.1
    omega
  rcases id hR with ⟨rfl, rfl, rfl⟩ | ⟨rd, rfl, h5, hRD⟩
  · refine ⟨(pRead fp pl).2.1, fun M' => M.1 ≤ M'.1 ∧ (∀ j, j < M.1 → j ≠ 16 → M'.2 j = M.2 j) ∧ M'.2 16 = (.inr (0, [.ref 17, .int (nI dl), .ref 18, .int (nI pl), .ref M.1, .ref 19, .int (nI vc), .ref op, .ref 22, .int (nI tk), .ref 23, .int (nI hc), .int pn])) ∧ RD M' M.1 M.1 M'.1 fp pl, xc_wk (kFau0 hg hxn hZ hT hMi hNA hSC h52 hpl hpx hPR c16 c18) (by decide) (by decide) (by decide) (fun v M' h => h), fun M' hq => ?_⟩
    obtain ⟨e1, e2, e3, e4⟩ := hq
    exact hend M' (.ref M.1) M.1 M'.1 (xIm_fr hM (fun j a b => e2 j (by omega) (by omega))) ⟨e3, (e2 17 (by omega) (by decide)).trans c17, (e2 18 (by omega) (by decide)).trans c18, (e2 23 (by omega) (by decide)).trans c23, xSt_rd hxn cS e1 e2⟩ (Or.inr ⟨M.1, rfl, h52, e4⟩)
  · refine ⟨(pRead fp pl).2.1, fun M' => M' = M, xc_wk (kFau1 hg hxn hZ hT hMi hNA hSC h52 hpl hpx hPR c16 hRD) (by decide) (by decide) (by decide) (fun v M' h => h), fun M' hq => ?_⟩
    subst hq
    exact hend M' (.ref rd) r0 r1 hM hC hR

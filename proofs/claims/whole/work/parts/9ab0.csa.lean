/-- what a search finds -/
noncomputable def pZz (fp : Nat → Int32) (pl : Nat) (tx te cu : Nat → Int32) : Int32 × List Int32 := sNm (pRead fp pl).2.2.1 tx te cu 10 0 (0, [])
noncomputable def pSea (fp : Nat → Int32) (pl : Nat) (tx te cu : Nat → Int32) : Int32 := if (pRead fp pl).2.1 = 0 then nI (pZz fp pl tx te cu).2.length else -(pRead fp pl).2.1
set_option maxRecDepth 20000 in
set_option maxHeartbeats 4000000 in
theorem kSeM {G : xG} (hg : xGood G) (hxn : xn = 16) {M : xM} {dl pl vc tk hc op rd : Nat} {pn : Int32} {f li tx te cu le fp hx : Nat → Int32} {sn : Nat} {va : Nat → Nat} {S : List Nat} {T : List (Int32 × List Nat)} {ov : List Nat} {es ol oe r0 r1 : Nat} (c16 : M.2 16 = (.inr (0, [.ref 17, .int (nI dl), .ref 18, .int (nI pl), .ref rd, .ref 19, .int (nI vc), .ref op, .ref 22, .int (nI tk), .ref 23, .int (nI hc), .int pn]))) (c23 : M.2 23 = (.inl (0, 410, .inl hx))) (hRD : RD M rd r0 r1 fp pl) (cS : xSt 2 M f li tx te cu le sn vc va S T ov es op ol oe r0 r1) (hchr : ∀ s, s < 128 → ∃ tl, tl ≤ 40 ∧ te s = nI tl ∧ (¬ f s = -1 → ∀ j, j < tl → (tx (40 * s + j) = 10 ∨ (¬ tx (40 * s + j) < 32 ∧ ¬ 126 < tx (40 * s + j))))) {d ce se cells slots : Nat} (hd : 100 ≤ d) (hcc : cells ≤ ce) (hss : slots ≤ se) : XJ G Y1_11 d ce se cells slots 4 [(0, .ref 16)] [.ref rd] M (fun v M' => v = some (.int (pSea fp pl tx te cu)) ∧ ∃ (hx' : Nat → Int32) (hc' : Nat) (pn' : Int32), M'.1 = M.1 ∧ (∀ j, j < r0 ∨ r1 ≤ j → j ≠ 16 → j ≠ 23 → M'.2 j = M.2 j) ∧ M'.2 16 = (.inr (0, [.ref 17, .int (nI dl), .ref 18, .int (nI pl), .ref rd, .ref 19, .int (nI vc), .ref op, .ref 22, .int (nI tk), .ref 23, .int (nI hc'), .int pn'])) ∧ M'.2 23 = (.inl (0, 410, .inl hx')) ∧ RD M' rd r0 r1 fp pl ∧ ((¬ (pRead fp pl).2.1 = 0 ∧ hc' = hc ∧ pn' = pn ∧ hx' = hx) ∨ ((pRead fp pl).2.1 = 0 ∧ hc' = (pZz fp pl tx te cu).2.length ∧ pn' = (pZz fp pl tx te cu).1 ∧ hAr hx' (pZz fp pl tx te cu).2))) := by
  obtain ⟨b1, b2, b3, b4, b5⟩ := hRD.1
  by_cases hz : (pRead fp pl).2.1 = 0
  · obtain ⟨gs, a9, og, ow, rk, ad, μ, lo, e1, ⟨o1, o2, o3, o4⟩, e2, hO, e4, ⟨q, hq, hq6⟩, ha9, hlo0⟩ := hRD.2.2 hz
    obtain ⟨A, hAe⟩ : ∃ A, (pRead fp pl).2.2.1 = A := ⟨_, rfl⟩
    rw [hAe] at e1 e2 hO e4 hq hlo0
    obtain ⟨-, hver, ⟨nmf, k19, hnm⟩, -, -, ⟨hlv, -⟩, -⟩ := cS
    rw [← b5] at hver
    have hS : kS (rd + 1) r1 ow rk ad A M μ := ⟨⟨by omega, b4⟩, fun y hy => if e : y = rd then by rw [e]; exact o2 else o1 y (by omega), o4, e2⟩
    obtain ⟨W, hWe⟩ : ∃ W, ad (A.length - 1) = W := ⟨_, rfl⟩
    rw [hWe] at e1
    have kR : M.2 rd = (.inr (4, [.ref W, .int 0, .ref 18, .int (nI pl), .int (nI a9), .ref gs, .int (nI og)])) := e1
    subst hWe
    obtain ⟨W, hWe⟩ : ∃ W, ad (A.length - 1) = W := ⟨_, rfl⟩
    rw [hWe] at kR
    refine xj_astore_n (i := 1) (L' := [(1, .ref rd), (0, .ref 16)]) d1_11_4 rfl (by decide) rfl ?_
    refine xj_aload_n (i := 1) d1_11_5 rfl rfl ?_
    refine xj_get d1_11_6 f1_93_4 kR (by omega) (show rd < M.1 by omega) rfl ?_
    refine xj_if_eq (tgt := 18) d1_11_9 rfl (fun _ => ?_) (fun h => absurd (by decide) h)
    refine xj_aload_n (i := 0) d1_11_18 rfl rfl ?_
    refine xj_iconst (v := 0) d1_11_19 (by decide) ?_
    refine xj_put (a := 16) (fs' := [.ref 17, .int (nI dl), .ref 18, .int (nI pl), .ref rd, .ref 19, .int (nI vc), .ref op, .ref 22, .int (nI tk), .ref 23, .int 0, .int pn]) d1_11_20 f1_115_0 c16 (by omega) (show 16 < M.1 by omega) (Nat.le_of_ble_eq_true rfl) rfl rfl rfl ?_
    refine xj_abs_set (fun M1 hs1 ha1 ho1 => ?_)
    refine xj_aload_n (i := 0) d1_11_23 rfl rfl ?_
    refine xj_iconst (v := 0) d1_11_24 (by decide) ?_
    refine xj_put (a := 16) (fs' := [.ref 17, .int (nI dl), .ref 18, .int (nI pl), .ref rd, .ref 19, .int (nI vc), .ref op, .ref 22, .int (nI tk), .ref 23, .int 0, .int 0]) d1_11_25 f1_118_0 ha1 (by omega) (show 16 < M1.1 by omega) (Nat.le_of_ble_eq_true rfl) rfl rfl rfl ?_
    refine xj_abs_set (fun M2 hs2 ha2 ho2 => ?_)
    refine xj_iconst (v := 0) d1_11_28 (by decide) ?_
    refine xj_istore_n (i := 2) (L' := [(2, .int 0), (1, .ref rd), (0, .ref 16)]) d1_11_29 rfl (by decide) rfl ?_
    have hF2 : kH (rd + 1) r1 M M2 := ⟨(show M2.1 = M.1 by omega), fun y y1 y2 y3 => ((ho2 y (by omega)).trans (ho1 y (by omega)))⟩
    have hS2 : kS (rd + 1) r1 ow rk ad A M2 μ := kS_fr hS o3 (show M.1 ≤ M2.1 by omega) (fun y y1 y2 => ((ho2 y (by omega)).trans (ho1 y (by omega))))
    have hv2 : xVer M2 rd r1 va f li tx te := xVer_fr hver (by omega) (fun _ _ h => h) (fun j j1 j2 _ => ((ho2 j (by omega)).trans (ho1 j (by omega))))
    refine kSeL hg hxn hO e4 hq hq6 hlo0 o3 hWe (by omega) (by omega) ((ho2 rd (by omega)).trans ((ho1 rd (by omega)).trans kR)) ((ho2 19 (by omega)).trans ((ho1 19 (by omega)).trans k19)) hnm hv2 hlv hchr (Z := pZz fp pl tx te cu) (by omega) hcc hss (fun M7 μ7 hx7 z7 hz7 hS7 hF7 k16 k23 hH7 k7 => ?_) 10 0 M2 μ hx (0, []) (by omega) hS2 kH_r ha2 ((ho2 23 (by omega)).trans ((ho1 23 (by omega)).trans c23)) (fun j c hj => absurd hj (by simp)) (by simp) (by rw [← hAe]; rfl)
    have hm7 := hF7.1
    have hr17 := hS7.1.2
    refine xj_aload_n (i := 0) d1_11_89 rfl rfl ?_
    refine xj_get d1_11_90 f1_115_0 k16 (by omega) (show 16 < M7.1 by omega) rfl ?_
    rw [hz7] at k16 hH7 ⊢
    have hfr : ∀ j, j < r0 ∨ r1 ≤ j → j ≠ 16 → j ≠ 23 → M7.2 j = M.2 j := fun j h1 h2 h3 => (hF7.2 j (by omega) h2 h3).trans (hF2.2 j (by omega) h2 h3)
    have hps : pSea fp pl tx te cu = nI (pZz fp pl tx te cu).2.length := if_pos hz
    have hrd7 : M7.2 rd = M.2 rd := (hF7.2 rd (by omega) (by omega) (by omega)).trans (hF2.2 rd (by omega) (by omega) (by omega))
    refine xj_ret d1_11_93 hcc hss rfl ⟨by rw [hps], hx7, _, _, (by omega), hfr, k16, k23, ⟨⟨by omega, by omega, by omega, by omega, by omega⟩, fun q => absurd hz q, fun _ => ?_⟩, Or.inr ⟨hz, rfl, rfl, hH7⟩⟩
    rw [hAe]
    exact ⟨gs, a9, og, ow, rk, ad, μ7, lo, hrd7.trans (by rw [kR, ← hWe]; rfl), ⟨o1, o2, o3, o4⟩, hS7.2.2.2, hO, e4, ⟨q, hq, hq6⟩, ha9, hlo0⟩
  · obtain ⟨gs, gw, a9, og, kR⟩ := RD_f hRD
    obtain ⟨x9, hx9⟩ : ∃ x9, (pRead fp pl).2.1 = x9 := ⟨_, rfl⟩
    rw [hx9] at kR
    replace kR : M.2 rd = (.inr (4, [.ref gw, .int x9, .ref 18, .int (nI pl), .int (nI a9), .ref gs, .int (nI og)])) := kR
    have hx9n : ¬ x9 = 0 := by rw [← hx9]; exact hz
    have hps : pSea fp pl tx te cu = -x9 := by rw [← hx9]; exact if_neg hz
    refine xj_astore_n (i := 1) (L' := [(1, .ref rd), (0, .ref 16)]) d1_11_4 rfl (by decide) rfl ?_
    refine xj_aload_n (i := 1) d1_11_5 rfl rfl ?_
    refine xj_get d1_11_6 f1_93_4 kR (by omega) (show rd < M.1 by omega) rfl ?_
    refine xj_if_eq (tgt := 18) d1_11_9 rfl (fun h => absurd h hx9n) (fun _ => ?_)
    refine xj_aload_n (i := 1) d1_11_12 rfl rfl ?_
    refine xj_get d1_11_13 f1_93_4 kR (by omega) (show rd < M.1 by omega) rfl ?_
    refine xj_ineg (v := -x9) d1_11_16 rfl ?_
    exact xj_ret d1_11_17 hcc hss rfl ⟨by rw [hps], hx, hc, pn, rfl, fun _ _ _ _ => rfl, c16, c23, hRD, Or.inl ⟨hz, rfl, rfl, rfl⟩⟩
set_option maxRecDepth 20000 in
theorem kSea1 {G : xG} (hg : xGood G) (hxn : xn = 16) {M : xM} {dl pl vc tk hc op rd : Nat} {pn : Int32} {f li tx te cu le fp hx : Nat → Int32} {sn : Nat} {va : Nat → Nat} {S : List Nat} {T : List (Int32 × List Nat)} {ov : List Nat} {es ol oe r0 r1 : Nat} (c16 : M.2 16 = (.inr (0, [.ref 17, .int (nI dl), .ref 18, .int (nI pl), .ref rd, .ref 19, .int (nI vc), .ref op, .ref 22, .int (nI tk), .ref 23, .int (nI hc), .int pn]))) (c23 : M.2 23 = (.inl (0, 410, .inl hx))) (hRD : RD M rd r0 r1 fp pl) (cS : xSt 2 M f li tx te cu le sn vc va S T ov es op ol oe r0 r1) (hchr : ∀ s, s < 128 → ∃ tl, tl ≤ 40 ∧ te s = nI tl ∧ (¬ f s = -1 → ∀ j, j < tl → (tx (40 * s + j) = 10 ∨ (¬ tx (40 * s + j) < 32 ∧ ¬ 126 < tx (40 * s + j))))) (h52 : 52 ≤ M.1) : XC G Y1_11 (some .int) 104 0 0 [.ref 16] M (fun v M' => v = some (.int (pSea fp pl tx te cu)) ∧ ∃ (hx' : Nat → Int32) (hc' : Nat) (pn' : Int32), M'.1 = M.1 ∧ (∀ j, j < r0 ∨ r1 ≤ j → j ≠ 16 → j ≠ 23 → M'.2 j = M.2 j) ∧ M'.2 16 = (.inr (0, [.ref 17, .int (nI dl), .ref 18, .int (nI pl), .ref rd, .ref 19, .int (nI vc), .ref op, .ref 22, .int (nI tk), .ref 23, .int (nI hc'), .int pn'])) ∧ M'.2 23 = (.inl (0, 410, .inl hx')) ∧ RD M' rd r0 r1 fp pl ∧ ((¬ (pRead fp pl).2.1 = 0 ∧ hc' = hc ∧ pn' = pn ∧ hx' = hx) ∨ ((pRead fp pl).2.1 = 0 ∧ hc' = (pZz fp pl tx te cu).2.length ∧ pn' = (pZz fp pl tx te cu).1 ∧ hAr hx' (pZz fp pl tx te cu).2))) := by
  refine xc_of hg (by decide) (Nat.le_of_ble_eq_true rfl) (Or.inl ⟨rfl, rfl, fun v M' h => ⟨_, h.1⟩⟩) ?_
  refine xj_aload_n (i := 0) d1_11_0 rfl rfl ?_
  refine xj_callV (rest := []) (As := []) (b := 16) (kRP1 hg hxn h52 c16) d1_11_1 wd1_28 c16 (by omega) (show 16 < M.1 by omega) rfl s1_28 w302 (Or.inl w300) rfl rfl (Nat.le_of_ble_eq_true rfl) (by omega) (by omega) (by omega) ?_
  rintro v M' ⟨rfl, hm⟩
  subst M'
  exact kSeM hg hxn c16 c23 hRD cS hchr (by omega) (by omega) (by omega)
set_option maxRecDepth 20000 in
theorem kSea0 {G : xG} (hg : xGood G) (hxn : xn = 16) (hZ : va_Z "java/util/ArrayList" "DEFAULTCAPACITY_EMPTY_ELEMENTDATA" "[Ljava/lang/Object;" (.ref (xa G 1)) (fun q => (xs G).heap.size ≤ q) (xs G) (xs G).heap) (hT : va_T (.object "java/lang/Object") (xa G 1) 0 (fun _ => .null) (fun q => (xs G).heap.size ≤ q) (xs G) (xs G).heap) (hMi : xHM G) (hNA : xNA G) (hSC : xSC G) {px fp : Nat → Int32} {M : xM} {dl pl vc tk hc op : Nat} {pn : Int32} (h52 : 52 ≤ M.1) (hpl : pl ≤ 24) (hpx : ∀ j, j < pl → px j = fp j) (hPR : ∀ j, j < pl → ∃ u1, u1 < 95 ∧ fp j = nI (u1 + 32)) {f li tx te cu le hx : Nat → Int32} {sn : Nat} {va : Nat → Nat} {S : List Nat} {T : List (Int32 × List Nat)} {ov : List Nat} {es ol oe : Nat} (c16 : M.2 16 = (.inr (0, [.ref 17, .int (nI dl), .ref 18, .int (nI pl), .null, .ref 19, .int (nI vc), .ref op, .ref 22, .int (nI tk), .ref 23, .int (nI hc), .int pn]))) (c18 : M.2 18 = (.inl (1, 24, .inl px))) (c23 : M.2 23 = (.inl (0, 410, .inl hx))) (cS : xSt 2 M f li tx te cu le sn vc va S T ov es op ol oe 0 0) (hchr : ∀ s, s < 128 → ∃ tl, tl ≤ 40 ∧ te s = nI tl ∧ (¬ f s = -1 → ∀ j, j < tl → (tx (40 * s + j) = 10 ∨ (¬ tx (40 * s + j) < 32 ∧ ¬ 126 < tx (40 * s + j))))) : XC G Y1_11 (some .int) 104 643 14142 [.ref 16] M (fun v M' => v = some (.int (pSea fp pl tx te cu)) ∧ ∃ (hx' : Nat → Int32) (hc' : Nat) (pn' : Int32), M.1 ≤ M'.1 ∧ (∀ j, j < M.1 → j ≠ 16 → j ≠ 23 → M'.2 j = M.2 j) ∧ M'.2 16 = (.inr (0, [.ref 17, .int (nI dl), .ref 18, .int (nI pl), .ref M.1, .ref 19, .int (nI vc), .ref op, .ref 22, .int (nI tk), .ref 23, .int (nI hc'), .int pn'])) ∧ M'.2 23 = (.inl (0, 410, .inl hx')) ∧ RD M' M.1 M.1 M'.1 fp pl ∧ ((¬ (pRead fp pl).2.1 = 0 ∧ hc' = hc ∧ pn' = pn ∧ hx' = hx) ∨ ((pRead fp pl).2.1 = 0 ∧ hc' = (pZz fp pl tx te cu).2.length ∧ pn' = (pZz fp pl tx te cu).1 ∧ hAr hx' (pZz fp pl tx te cu).2))) := by
  refine xc_of hg (by decide) (Nat.le_of_ble_eq_true rfl) (Or.inl ⟨rfl, rfl, fun v M' h => ⟨_, h.1⟩⟩) ?_
  refine xj_aload_n (i := 0) d1_11_0 rfl rfl ?_
  refine xj_callV (rest := []) (As := []) (b := 16) (kRP0 hg hxn hZ hT hMi hNA hSC h52 hpl hpx hPR c16 c18) d1_11_1 wd1_28 c16 (by omega) (show 16 < M.1 by omega) rfl s1_28 w302 (Or.inl w300) rfl rfl (Nat.le_of_ble_eq_true rfl) (by omega) (by omega) (by omega) ?_
  rintro v M9 ⟨rfl, hm9, hfr9, k16, hRD9⟩
  refine xj_post (kSeM hg hxn k16 ((hfr9 23 (by omega) (by omega)).trans c23) hRD9 (xSt_rd hxn cS hm9 hfr9) hchr (by omega) (by omega) (by omega)) (fun v M' ⟨e0, hx', hc', pn', e1, e2, e3, e4, e5, e6⟩ => ⟨e0, hx', hc', pn', (by omega), fun j j1 j2 j3 => (e2 j (Or.inl j1) j2 j3).trans (hfr9 j j1 j2), e3, e4, (by rw [show M'.1 = M9.1 from e1]; exact e5), e6⟩)

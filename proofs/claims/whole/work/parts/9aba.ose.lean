theorem xSt_23 {M M' : xM} {f li tx te cu le : Nat → Int32} {sn vc : Nat} {va : Nat → Nat} {S : List Nat} {T : List (Int32 × List Nat)} {ov : List Nat} {es op ol oe : Nat} (hxn : xn = 16) (h : xSt 2 M f li tx te cu le sn vc va S T ov es op ol oe 0 0) (hm : M.1 ≤ M'.1) (hfr : ∀ j, j < M.1 → j ≠ 16 → j ≠ 23 → M'.2 j = M.2 j) : xSt 2 M' f li tx te cu le sn vc va S T ov es op ol oe M.1 M'.1 := by
  have h1 := xSt_rd (M' := (M'.1, fun j => if j = 23 then M.2 23 else M'.2 j)) hxn h hm (fun j hj h16 => by
    by_cases e : j = 23
    · show (if j = 23 then M.2 23 else M'.2 j) = M.2 j
      rw [if_pos e, e]
    · show (if j = 23 then M.2 23 else M'.2 j) = M.2 j
      rw [if_neg e]
      exact hfr j hj h16 e)
  refine xSt_fr (M' := M') hxn h1 (Nat.le_refl _) (fun j _ hp => ?_)
  have hne : j ≠ 23 := by
    rcases hp with q | q | q
    · omega
    · omega
    · exact q.2.2.2.1
  exact (if_neg hne).symm
theorem oSea {G : xG} (hg : xGood G) (hxn : xn = 16) (hZ : va_Z "java/util/ArrayList" "DEFAULTCAPACITY_EMPTY_ELEMENTDATA" "[Ljava/lang/Object;" (.ref (xa G 1)) (fun q => (xs G).heap.size ≤ q) (xs G) (xs G).heap) (hT : va_T (.object "java/lang/Object") (xa G 1) 0 (fun _ => .null) (fun q => (xs G).heap.size ≤ q) (xs G) (xs G).heap) (hMi : xHM G) (hNA : xNA G) (hSC : xSC G) {c : Nat} {M : xM} (hI : xInv RD c M) : xOp G RD c M Y1_11 Y14_61 (some .int) [] := by
  obtain ⟨f, li, tx, te, cu, le, fd, fp, fh, fx, px, hx, sn, vc, tk, dl, pl, hc, sr, pn, lr, va, S, T, ov, es, op, ol, oe, r0, r1, hM, hC, hG, hR⟩ := hI
  have h52 := hC.2.2.2.2.1.1
  obtain ⟨c16, c17, c18, c23, cS⟩ := id hC
  have hpl := hG.2.1.1
  have hpx : ∀ j, j < pl → px j = fp j := fun j hj => (hG.2.1.2 j hj).1
  have hPR : ∀ j, j < pl → ∃ u1, u1 < 95 ∧ fp j = nI (u1 + 32) := fun j hj => xprt (hG.2.1.2 j hj).2
  have hchr := hG.2.2.2.1
  have hlv : ∀ k, k < 10 → cu k = -1 ∨ ∃ s, s < 128 ∧ cu k = nI s ∧ ¬ f s = -1 ∧ li s = 1 := by
    obtain ⟨-, -, -, -, -, hip, -⟩ := id cS
    exact hip.1
  have hz410 : (pZz fp pl tx te cu).2.length ≤ 410 := sNm_len (fun k hk => by
    rcases hlv k hk with q | ⟨s, s1, s2, -⟩
    · exact Or.inl (by rw [q]; decide)
    · obtain ⟨tl, t1, t2, -⟩ := hchr s s1
      refine Or.inr ?_
      rw [s2, nI_clamp (by omega), t2, nI_clamp (by omega)]
      exact t1) 10 0 (0, []) (by omega) (by simp)
  have hend : ∀ (M' : xM) (rd' q0 q1 : Nat) (hx' : Nat → Int32) (hc' : Nat) (pn' : Int32), xIm M' f li tx te cu le fd fp fh sn vc tk dl pl hc sr pn → xIc M' f li tx te cu le fx px hx' sn vc tk dl pl hc' pn' (.ref rd') va S T ov es op ol oe q0 q1 → 52 ≤ q0 → RD M' rd' q0 q1 fp pl → ((¬ (pRead fp pl).2.1 = 0 ∧ hc' = hc ∧ pn' = pn ∧ hx' = hx) ∨ ((pRead fp pl).2.1 = 0 ∧ hc' = (pZz fp pl tx te cu).2.length ∧ pn' = (pZz fp pl tx te cu).1 ∧ hAr hx' (pZz fp pl tx te cu).2)) → (52 ≤ M'.1 ∧ ∃ fs, M'.2 24 = .inr (12, fs)) ∧ XC G Y14_61 (some .int) 1000 0 0 [.ref 24] M' (fun v M'' => v = some (.int (pSea fp pl tx te cu)) ∧ xInv RD (c + 1) M'') := by
    intro M' rd' q0 q1 hx' hc' pn' hM' hC' h5' hR' hcs
    have h52' := hC'.2.2.2.2.1.1
    obtain ⟨⟨z13, z22, z23, z24, z33, z36, z37, m24⟩, -⟩ := id hM'
    refine ⟨⟨h52', _, m24⟩, xc_wk (rSea hg hxn hM' h52' hpl hPR (fun hz => RD_ok hR' hz) hlv hchr) (by omega) (Nat.le_refl _) (Nat.le_refl _) ?_⟩
    rintro v M'' ⟨rfl, fh2, hc2, sr2, pn2, hM2, i1, i2, hcs2⟩
    have hC2 := xIc_fr hxn hC' i1 i2
    have hq1 := hC'.2.2.2.2.1.2.1
    have hRr := xRr_fr RD_s (Or.inr ⟨rd', rfl, h5', hR'⟩ : xRr RD M' (.ref rd') q0 q1 fp pl) (M' := M'') (by omega) (fun j a b d => i2 j (by omega) (by omega))
    rcases hcs with ⟨hz, rfl, rfl, rfl⟩ | ⟨hz, e1, e2, e3⟩
    · obtain ⟨-, rfl, rfl, rfl, rfl⟩ := hcs2.resolve_right (fun w => hz w.1)
      exact ⟨rfl, f, li, tx, te, cu, le, fd, fp, _, fx, px, _, sn, vc, tk, dl, pl, _, _, _, .ref rd', va, S, T, ov, es, op, ol, oe, q0, q1, hM2, hC2, xIg_c hG, hRr⟩
    · obtain ⟨-, g1, g2, g3, g4⟩ := hcs2.resolve_left (fun w => w.1 hz)
      have hcc : hc2 = hc' := g1.trans e1.symm
      have hpp : pn2 = pn' := g2.trans e2.symm
      subst hcc hpp
      refine ⟨rfl, f, li, tx, te, cu, le, fd, fp, fh2, fx, px, hx', sn, vc, tk, dl, pl, hc2, sr2, pn2, .ref rd', va, S, T, ov, es, op, ol, oe, q0, q1, hM2, hC2, ⟨hG.1, hG.2.1, ⟨by omega, fun _ => g3, fun j hj => ?_⟩, hG.2.2.2.1, Nat.le_succ_of_le hG.2.2.2.2⟩, hRr⟩
      have hj' : j < (pZz fp pl tx te cu).2.length := by omega
      rw [e3 j _ (List.getElem?_eq_getElem hj'), g4 j _ (List.getElem?_eq_getElem hj')]
  rcases id hR with ⟨rfl, rfl, rfl⟩ | ⟨rd, rfl, h5, hRD⟩
  · refine ⟨pSea fp pl tx te cu, fun M' => ∃ (hx' : Nat → Int32) (hc' : Nat) (pn' : Int32), M.1 ≤ M'.1 ∧ (∀ j, j < M.1 → j ≠ 16 → j ≠ 23 → M'.2 j = M.2 j) ∧ M'.2 16 = (.inr (0, [.ref 17, .int (nI dl), .ref 18, .int (nI pl), .ref M.1, .ref 19, .int (nI vc), .ref op, .ref 22, .int (nI tk), .ref 23, .int (nI hc'), .int pn'])) ∧ M'.2 23 = (.inl (0, 410, .inl hx')) ∧ RD M' M.1 M.1 M'.1 fp pl ∧ ((¬ (pRead fp pl).2.1 = 0 ∧ hc' = hc ∧ pn' = pn ∧ hx' = hx) ∨ ((pRead fp pl).2.1 = 0 ∧ hc' = (pZz fp pl tx te cu).2.length ∧ pn' = (pZz fp pl tx te cu).1 ∧ hAr hx' (pZz fp pl tx te cu).2)), xc_wk (kSea0 hg hxn hZ hT hMi hNA hSC h52 hpl hpx hPR c16 c18 c23 cS hchr) (by decide) (by decide) (by decide) (fun v M' h => h), fun M' hq => ?_⟩
    obtain ⟨hx', hc', pn', e1, e2, e3, e4, e5, e6⟩ := hq
    exact hend M' M.1 M.1 M'.1 hx' hc' pn' (xIm_fr hM (fun j a b => e2 j (by omega) (by omega) (by omega))) ⟨e3, (e2 17 (by omega) (by decide) (by decide)).trans c17, (e2 18 (by omega) (by decide) (by decide)).trans c18, e4, xSt_23 hxn cS e1 e2⟩ h52 e5 e6
  · have hb := hRD.1
    have hq1 := cS.1.2.1
    refine ⟨pSea fp pl tx te cu, fun M' => ∃ (hx' : Nat → Int32) (hc' : Nat) (pn' : Int32), M'.1 = M.1 ∧ (∀ j, j < r0 ∨ r1 ≤ j → j ≠ 16 → j ≠ 23 → M'.2 j = M.2 j) ∧ M'.2 16 = (.inr (0, [.ref 17, .int (nI dl), .ref 18, .int (nI pl), .ref rd, .ref 19, .int (nI vc), .ref op, .ref 22, .int (nI tk), .ref 23, .int (nI hc'), .int pn'])) ∧ M'.2 23 = (.inl (0, 410, .inl hx')) ∧ RD M' rd r0 r1 fp pl ∧ ((¬ (pRead fp pl).2.1 = 0 ∧ hc' = hc ∧ pn' = pn ∧ hx' = hx) ∨ ((pRead fp pl).2.1 = 0 ∧ hc' = (pZz fp pl tx te cu).2.length ∧ pn' = (pZz fp pl tx te cu).1 ∧ hAr hx' (pZz fp pl tx te cu).2)), xc_wk (kSea1 hg hxn c16 c23 hRD cS hchr h52) (by decide) (by decide) (by decide) (fun v M' h => h), fun M' hq => ?_⟩
    obtain ⟨hx', hc', pn', e1, e2, e3, e4, e5, e6⟩ := hq
    refine hend M' rd r0 r1 hx' hc' pn' (xIm_fr hM (fun j a b => e2 j (by omega) (by omega) (by omega))) ⟨e3, (e2 17 (by omega) (by decide) (by decide)).trans c17, (e2 18 (by omega) (by decide) (by decide)).trans c18, e4, xSt_fr hxn cS (by omega) (fun j hj hp => e2 j ?_ ?_ ?_)⟩ h5 e5 e6
    · rcases hp with q | q | q
      · omega
      · omega
      · exact q.2.2.2.2.2
    · rcases hp with q | q | q
      · omega
      · omega
      · have := q.1
        omega
    · rcases hp with q | q | q
      · omega
      · omega
      · exact q.2.2.2.1

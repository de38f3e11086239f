set_option maxRecDepth 20000 in
theorem kRead {G : xG} (hg : xGood G) (hxn : xn = 16) (hZ : va_Z "java/util/ArrayList" "DEFAULTCAPACITY_EMPTY_ELEMENTDATA" "[Ljava/lang/Object;" (.ref (xa G 1)) (fun q => (xs G).heap.size ≤ q) (xs G) (xs G).heap) (hT : va_T (.object "java/lang/Object") (xa G 1) 0 (fun _ => .null) (fun q => (xs G).heap.size ≤ q) (xs G) (xs G).heap) (hMi : xHM G) (hNA : xNA G) (hSC : xSC G) {px fp : Nat → Int32} {rd : Nat} {M0 M : xM} {pl : Nat} (hpl : pl ≤ 24) (hpx : ∀ j, j < pl → px j = fp j) (hPR : ∀ j, j < pl → ∃ u1, u1 < 95 ∧ fp j = nI (u1 + 32)) (h18 : M0.2 18 = (.inl (1, 24, .inl px))) (hK : cK rd M0 pl M (0, 0, [], ([], []) :: [])) : XC G Y8_2 none 102 630 14028 [.ref rd] M (fun v M' => v = none ∧ kRs rd M0 pl M' (pRead fp pl)) := by
  refine xc_of hg (by decide) (Nat.le_of_ble_eq_true rfl) (Or.inr (Or.inr (Or.inr (Or.inr (Or.inl ⟨rfl, rfl, fun v M' h => h.1⟩))))) ?_
  refine xj_iconst (v := 0) d8_2_0 (by decide) ?_
  refine xj_istore_n (i := 1) (L' := [(1, .int 0), (0, .ref rd)]) d8_2_1 rfl (by decide) rfl ?_
  refine kRunL hg hxn hZ hT hMi hNA hSC hpl hpx hPR h18 (by omega) pl 0 0 [] ([], []) [] M 0 0 hK (by omega) (by omega) (by omega) (by omega) (by omega) (fun M9 k9 hX => ?_)
  refine xj_sub (L' := [(0, .ref rd)]) (fun q hq => by simp only [List.mem_cons, List.not_mem_nil, or_false] at hq ⊢; rcases hq with rfl; simp) ?_
  have hrd : pRead fp pl = pEnd (pRun fp pl pl (0, 0, [], ([], []) :: [])) := rfl
  rw [hrd]
  by_cases hz : (pRun fp pl pl (0, 0, [], ([], []) :: [])).2.1 = 0
  · obtain ⟨hE9, lo, hZ9⟩ := hX.1 hz
    obtain ⟨a, A, t, r, hform⟩ := cK_form (pRun_ne (fp := fp) (pl := pl) pl (0, 0, [], ([], []) :: []) (List.cons_ne_nil _ _)) hz
    rw [hform] at hE9 hZ9 ⊢
    obtain ⟨ga, fg, ow, rk, ad, gA, bA, μ, hH⟩ := hE9
    have ha24 : a ≤ 24 := (pZ_num hZ9).2.1
    by_cases hx : (pEnd (a, 0, A, t :: r)).2.1 = 0
    · cases r with
      | nil =>
        have h0 : ¬ t.2 = [] := fun q => by
          rw [pEnd_1 a A q] at hx
          exact absurd hx (show ¬ (1 : Int32) = 0 by decide)
        exact kFin0 hg hxn hZ hT hMi hH hZ9 ha24 (Nat.le_refl _) (by omega) (by omega) (by omega) h0 hx (fun M' h => ⟨rfl, h⟩)
      | cons t2 r2 =>
        rw [pEnd_2] at hx
        exact absurd hx (show ¬ (2 : Int32) = 0 by decide)
    · exact kFinN hg hxn hH hZ9 ha24 (by omega) (by omega) (by omega) rfl hx (fun M' h => ⟨rfl, fun _ => h, fun q => absurd q hx⟩)
  · have hpe : pEnd (pRun fp pl pl (0, 0, [], ([], []) :: [])) = pRun fp pl pl (0, 0, [], ([], []) :: []) := if_pos hz
    rw [hpe]
    exact kFinF hxn (by omega) (by omega) (hX.2 hz) hz ⟨rfl, fun _ => hX.2 hz, fun q => absurd q hz⟩
/-- the reader that is kept, in the cells from r0 to r1 -/
def RD (M : xM) (rd r0 r1 : Nat) (fp : Nat → Int32) (pl : Nat) : Prop := (52 ≤ r0 ∧ r0 ≤ rd ∧ rd < r1 ∧ r1 ≤ M.1 ∧ rd = r0) ∧ (¬ (pRead fp pl).2.1 = 0 → ∃ gs W a og : Nat, M.2 rd = cRo pl gs W (pRead fp pl).2.1 a og ∧ a ≤ 1000) ∧ ((pRead fp pl).2.1 = 0 → ∃ (gs a og : Nat) (ow rk ad : Nat → Nat) (μ : Nat → xMu) (lo : Nat → Nat), M.2 rd = cRo pl gs (ad ((pRead fp pl).2.2.1.length - 1)) 0 a og ∧ ((∀ y, y < r0 → ow y = 0) ∧ ow rd = 0 ∧ rk 0 = 0 ∧ rk 1 = 1) ∧ cA (r1, M.2) ow rk ad (sLr (pRead fp pl).2.2.1) μ (pRead fp pl).2.2.1 ∧ (∀ (i : Nat) (q : xNode), (pRead fp pl).2.2.1[i]? = some q → pOk (pRead fp pl).2.2.1 lo i q) ∧ (pRead fp pl).2.2.1.length ≤ 26 ∧ (∃ q, (pRead fp pl).2.2.1[(pRead fp pl).2.2.1.length - 1]? = some q ∧ q.1 = 6) ∧ (a ≤ 1000 ∧ lo ((pRead fp pl).2.2.1.length - 1) = 0))
theorem RD_s : xRs RD := by
  intro M M' rd r0 r1 fp pl h hm hf
  obtain ⟨⟨h1, h2, h3, h4, h5⟩, hn, hz⟩ := h
  have hrd : M'.2 rd = M.2 rd := hf rd h2 h3
  refine ⟨⟨h1, h2, h3, by omega, h5⟩, fun q => ?_, fun q => ?_⟩
  · obtain ⟨gs, W, a, og, e1, e2⟩ := hn q
    exact ⟨gs, W, a, og, hrd.trans e1, e2⟩
  · obtain ⟨gs, a, og, ow, rk, ad, μ, lo, e1, ⟨o1, o2, o3, o4⟩, e2, e3, e4, e5, e6⟩ := hz q
    refine ⟨gs, a, og, ow, rk, ad, μ, lo, hrd.trans e1, ⟨o1, o2, o3, o4⟩, fun j p hp => ?_, e3, e4, e5, e6⟩
    refine cN_mv (e2 j p hp) (Nat.le_refl _) (fun _ _ => rfl) (fun _ _ _ _ => rfl) (fun y hy z => ?_)
    have hy' : y < r1 := hy
    refine hf y (Classical.byContradiction fun w => ?_) hy'
    have ho := o1 y (by omega)
    rcases z with z | z
    · rw [ho, o3] at z
      omega
    · rw [ho] at z
      cases z
theorem kRs_RD {M0 M : xM} {rd pl : Nat} {fp : Nat → Int32} (h : kRs rd M0 pl M (pRead fp pl)) (h52 : 52 ≤ M0.1) (hrd : rd = M0.1) : RD M rd M0.1 M.1 fp pl ∧ (∀ j, j < M0.1 → M.2 j = M0.2 j) ∧ M0.1 ≤ M.1 := by
  by_cases hz : (pRead fp pl).2.1 = 0
  · obtain ⟨⟨i1, i2, i3⟩, ⟨r1, r2⟩, hq⟩ := h.2 hz
    exact ⟨⟨⟨h52, r1, r2, Nat.le_refl _, hrd⟩, fun q => absurd hz q, fun _ => hq⟩, i3, i2⟩
  · obtain ⟨⟨i1, i2, i3⟩, ⟨r1, r2⟩, hq⟩ := h.1 hz
    exact ⟨⟨⟨h52, r1, r2, Nat.le_refl _, hrd⟩, fun _ => hq, fun q => absurd q hz⟩, i3, i2⟩

/-- a reader that has read a pattern without a fault -/
def cQ (rd : Nat) (M0 : xM) (pl : Nat) (M : xM) (A : List xNode) : Prop := (52 ≤ M0.1 ∧ M0.1 ≤ M.1 ∧ ∀ j, j < M0.1 → M.2 j = M0.2 j) ∧ (M0.1 ≤ rd ∧ rd < M.1) ∧ ∃ (gs a og : Nat) (ow rk ad : Nat → Nat) (μ : Nat → xMu) (lo : Nat → Nat), M.2 rd = cRo pl gs (ad (A.length - 1)) 0 a og ∧ ((∀ y, y < M0.1 → ow y = 0) ∧ ow rd = 0 ∧ rk 0 = 0 ∧ rk 1 = 1) ∧ cA M ow rk ad (sLr A) μ A ∧ (∀ (i : Nat) (q : xNode), A[i]? = some q → pOk A lo i q) ∧ A.length ≤ 26 ∧ (∃ q, A[A.length - 1]? = some q ∧ q.1 = 6) ∧ (a ≤ 1000 ∧ lo (A.length - 1) = 0)
def kRs (rd : Nat) (M0 : xM) (pl : Nat) (M : xM) (σ : xSg) : Prop := (¬ σ.2.1 = 0 → cF rd M0 pl M σ.2.1) ∧ (σ.2.1 = 0 → cQ rd M0 pl M σ.2.2.1)
theorem pRun_ne {fp : Nat → Int32} {pl : Nat} : ∀ (m : Nat) (σ : xSg), σ.2.2.2 ≠ [] → (pRun fp pl m σ).2.2.2 ≠ []
  | 0, _, h => h
  | m + 1, σ, h => by
    show (if σ.1 < pl ∧ σ.2.1 = 0 then pRun fp pl m (pOne fp pl σ) else σ).2.2.2 ≠ []
    by_cases q : σ.1 < pl ∧ σ.2.1 = 0
    · rw [if_pos q]
      exact pRun_ne m _ (pOneC_ne h)
    · rw [if_neg q]
      exact h
theorem kFinF {G : xG} (hxn : xn = 16) {rd : Nat} {M0 M : xM} {pl : Nat} {σ : xSg} {d ce se cells slots : Nat} {Post : Option Value → xM → Prop} (hcc : cells ≤ ce) (hss : slots ≤ se) (hf : cF rd M0 pl M σ.2.1) (hz : ¬ σ.2.1 = 0) (K : Post none M) : XJ G Y8_2 d ce se cells slots 59 [(0, .ref rd)] [] M Post := by
  obtain ⟨⟨f1, f2, f3⟩, ⟨f4, f5⟩, ga8, gw8, a8, og8, kR8, f6⟩ := hf
  obtain ⟨x8, hx8e⟩ : ∃ x8, σ.2.1 = x8 := ⟨_, rfl⟩
  rw [hx8e] at kR8
  replace kR8 : M.2 rd = (.inr (4, [.ref gw8, .int x8, .ref 18, .int (nI pl), .int (nI a8), .ref ga8, .int (nI og8)])) := kR8
  have hx8 : ¬ x8 = 0 := by rw [← hx8e]; exact hz
  refine xj_aload_n (i := 0) d8_2_59 rfl rfl ?_
  refine xj_get d8_2_60 f8_33_4 kR8 (by omega) (show rd < M.1 by omega) rfl ?_
  refine xj_if_ne (tgt := 74) d8_2_63 rfl (fun _ => ?_) (fun h => absurd h hx8)
  refine xj_aload_n (i := 0) d8_2_74 rfl rfl ?_
  refine xj_get d8_2_75 f8_33_4 kR8 (by omega) (show rd < M.1 by omega) rfl ?_
  refine xj_if_ne (tgt := 88) d8_2_78 rfl (fun _ => ?_) (fun h => absurd h hx8)
  exact xj_ret d8_2_88 hcc hss rfl K
theorem kFinN {G : xG} (hg : xGood G) (hxn : xn = 16) {rd : Nat} {M0 M : xM} {pl ga : Nat} {fg : Nat → Option Nat} {ow rk ad gA bA : Nat → Nat} {μ : Nat → xMu} {a : Nat} {A : List xNode} {t : List Nat × List Nat} {r : List (List Nat × List Nat)} {lo : Nat → Nat} {a0 : Nat} (hH : cH rd M0 pl ga fg ow rk ad gA bA μ M (a, 0, A, t :: r)) (hZp : pZ lo (a0, 0, A, t :: r)) (ha : a ≤ 24) {d ce se cells slots : Nat} {Post : Option Value → xM → Prop} (hd : 101 ≤ d) (hcc : cells ≤ ce) (hss : slots ≤ se) {x9 : Int32} (hx : (pEnd (a, 0, A, t :: r)).2.1 = x9) (hx9 : ¬ x9 = 0) (K : ∀ M' : xM, cF rd M0 pl M' x9 → Post none M') : XJ G Y8_2 d ce se cells slots 59 [(0, .ref rd)] [] M Post := by
  have hFe := kFae hg hxn hH hZp
  rw [hx] at hFe
  obtain ⟨⟨i1, i2, i3⟩, ⟨r1, r2, r3, r4, r5, r6⟩, -, kR, -⟩ := id hH
  replace kR : M.2 rd = (.inr (4, [.ref (gA 0), .int 0, .ref 18, .int (nI pl), .int (nI a), .ref ga, .int (nI r.length)])) := kR
  refine xj_aload_n (i := 0) d8_2_59 rfl rfl ?_
  refine xj_get d8_2_60 f8_33_4 kR (by omega) (show rd < M.1 by omega) rfl ?_
  refine xj_if_ne (tgt := 74) d8_2_63 rfl (fun h => absurd (by decide) h) (fun _ => ?_)
  refine xj_aload_n (i := 0) d8_2_66 rfl rfl ?_
  refine xj_aload_n (i := 0) d8_2_67 rfl rfl ?_
  refine xj_callV (rest := [.ref rd]) (As := []) (b := rd) hFe d8_2_68 wd8_3 kR (by omega) (show rd < M.1 by omega) rfl s8_3 w708 (Or.inl w706) rfl rfl (Nat.le_of_ble_eq_true rfl) (by omega) (by omega) (by omega) ?_
  rintro v M' ⟨rfl, hm⟩
  subst M'
  refine xj_put (a := rd) (fs' := [.ref (gA 0), .int x9, .ref 18, .int (nI pl), .int (nI a), .ref ga, .int (nI r.length)]) d8_2_71 f8_33_4 kR (by omega) (show rd < M.1 by omega) (Nat.le_of_ble_eq_true rfl) rfl rfl rfl ?_
  refine xj_abs_set (fun M1 hs1 ha1 ho1 => ?_)
  refine xj_aload_n (i := 0) d8_2_74 rfl rfl ?_
  refine xj_get d8_2_75 f8_33_4 ha1 (by omega) (show rd < M1.1 by omega) rfl ?_
  refine xj_if_ne (tgt := 88) d8_2_78 rfl (fun _ => ?_) (fun h => absurd h hx9)
  exact xj_ret d8_2_88 (by omega) (by omega) rfl (K M1 ⟨⟨i1, by omega, fun j hj => (ho1 j (by omega)).trans (i3 j hj)⟩, ⟨r1, by omega⟩, ga, gA 0, a, r.length, ha1, by omega⟩)
set_option maxRecDepth 20000 in
set_option maxHeartbeats 1000000 in
theorem kFin0 {G : xG} (hg : xGood G) (hxn : xn = 16) (hZ : va_Z "java/util/ArrayList" "DEFAULTCAPACITY_EMPTY_ELEMENTDATA" "[Ljava/lang/Object;" (.ref (xa G 1)) (fun q => (xs G).heap.size ≤ q) (xs G) (xs G).heap) (hT : va_T (.object "java/lang/Object") (xa G 1) 0 (fun _ => .null) (fun q => (xs G).heap.size ≤ q) (xs G) (xs G).heap) (hMi : xHM G) {rd : Nat} {M0 M : xM} {pl ga : Nat} {fg : Nat → Option Nat} {ow rk ad gA bA : Nat → Nat} {μ : Nat → xMu} {a : Nat} {A : List xNode} {t : List Nat × List Nat} {lo : Nat → Nat} {a0 : Nat} (hH : cH rd M0 pl ga fg ow rk ad gA bA μ M (a, 0, A, t :: [])) (hZp : pZ lo (a0, 0, A, t :: [])) (ha : a ≤ 24) (ha0 : a0 ≤ a) {d ce se cells slots : Nat} {Post : Option Value → xM → Prop} (hd : 101 ≤ d) (hcc : cells + 366 ≤ ce) (hss : slots + 10980 ≤ se) (h0 : ¬ t.2 = []) (hx : (pEnd (a, 0, A, t :: [])).2.1 = 0) (K : ∀ M' : xM, kRs rd M0 pl M' (pEnd (a, 0, A, t :: [])) → Post none M') : XJ G Y8_2 d ce se cells slots 59 [(0, .ref rd)] [] M Post := by
  have hFe := kFae hg hxn hH hZp
  obtain ⟨x9, hx9⟩ : ∃ x9, (pEnd (a, 0, A, t :: [])).2.1 = x9 := ⟨_, rfl⟩
  have hx0 : (if 60 < pSumG (A ++ [(5, pSum A t.2, t.2, 0, 0, pNo)]) (t.1 ++ [A.length]) then (9 : Int32) else 0) = 0 := by
    rw [pEnd_0 a A h0] at hx
    exact hx
  rw [hx] at hFe
  obtain ⟨rk', μ', hA0, hj2, hj3⟩ := cA_of hH hZp
  obtain ⟨lo', hO, hlo0, hcst, hA1', hA2'⟩ := pZ_end hZp
  obtain ⟨_, _, bl, p, nd, ⟨rfl, rfl, efg⟩, ⟨b1, b2, b3, b4, b5, b6, b7, b8⟩, ⟨kR, kgs, kgo, kbo⟩, -, -, -, -, -, -⟩ := cH_top hH hxn
  obtain ⟨⟨i1, i2, i3⟩, ⟨r1, r2, r3, r4, r5, r6⟩, ⟨o1, o2, o3⟩, -⟩ := id hH
  replace kR : M.2 rd = (.inr (4, [.ref (gA 0), .int 0, .ref 18, .int (nI pl), .int (nI a), .ref ga, .int 0])) := kR
  replace kgo : M.2 (gA 0) = (.inr (5, [.ref bl, .ref (bA 0), .null])) := kgo
  replace b1 : 16 ≤ gA 0 := b1
  replace b2 : gA 0 < M.1 := b2
  have hrg : rd ≠ gA 0 := xne_cl kR kgo (by decide)
  refine xj_aload_n (i := 0) d8_2_59 rfl rfl ?_
  refine xj_get d8_2_60 f8_33_4 kR (by omega) (show rd < M.1 by omega) rfl ?_
  refine xj_if_ne (tgt := 74) d8_2_63 rfl (fun h => absurd (by decide) h) (fun _ => ?_)
  refine xj_aload_n (i := 0) d8_2_66 rfl rfl ?_
  refine xj_aload_n (i := 0) d8_2_67 rfl rfl ?_
  refine xj_callV (rest := [.ref rd]) (As := []) (b := rd) hFe d8_2_68 wd8_3 kR (by omega) (show rd < M.1 by omega) rfl s8_3 w708 (Or.inl w706) rfl rfl (Nat.le_of_ble_eq_true rfl) (by omega) (by omega) (by omega) ?_
  rintro v M' ⟨rfl, hm⟩
  subst M'
  refine xj_put (a := rd) (fs' := [.ref (gA 0), .int 0, .ref 18, .int (nI pl), .int (nI a), .ref ga, .int 0]) d8_2_71 f8_33_4 kR (by omega) (show rd < M.1 by omega) (Nat.le_of_ble_eq_true rfl) rfl rfl rfl ?_
  refine xj_abs_set (fun M1 hs1 ha1 ho1 => ?_)
  refine xj_aload_n (i := 0) d8_2_74 rfl rfl ?_
  refine xj_get d8_2_75 f8_33_4 ha1 (by omega) (show rd < M1.1 by omega) rfl ?_
  refine xj_if_ne (tgt := 88) d8_2_78 rfl (fun h => absurd (by decide) h) (fun _ => ?_)
  refine xj_aload_n (i := 0) d8_2_81 rfl rfl ?_
  refine xj_get d8_2_82 f8_12_4 ha1 (by omega) (show rd < M1.1 by omega) rfl ?_
  have hfr1 : ∀ y, y ≠ rd → M1.2 y = M.2 y := fun y hy => (ho1 y (by omega))
  have hA1 : cA M1 ow rk' (pUp (pUp ad A.length (bA 0)) (A.length + 1) (gA 0)) (fun _ => lk0) μ' ((A ++ [(5, pSum A t.2, t.2, 0, 0, pNo)]) ++ [(6, pSumG (A ++ [(5, pSum A t.2, t.2, 0, 0, pNo)]) (t.1 ++ [A.length]), t.1 ++ [A.length], 0, 0, pNo)]) := cA_fr hA0 hj2 (by omega) (fun y hy z => hfr1 y (fun e => z (by rw [e]; exact r5)))
  have hq9 : ((A ++ [(5, pSum A t.2, t.2, 0, 0, pNo)]) ++ [(6, pSumG (A ++ [(5, pSum A t.2, t.2, 0, 0, pNo)]) (t.1 ++ [A.length]), t.1 ++ [A.length], 0, 0, pNo)])[A.length + 1]? = some (6, pSumG (A ++ [(5, pSum A t.2, t.2, 0, 0, pNo)]) (t.1 ++ [A.length]), t.1 ++ [A.length], 0, 0, pNo) := by
    rw [List.getElem?_append_right (by rw [List.length_append, List.length_singleton]; exact Nat.le_refl _), List.length_append, List.length_singleton, Nat.sub_self]
    rfl
  have hlen3 : ((A ++ [(5, pSum A t.2, t.2, 0, 0, pNo)]) ++ [(6, pSumG (A ++ [(5, pSum A t.2, t.2, 0, 0, pNo)]) (t.1 ++ [A.length]), t.1 ++ [A.length], 0, 0, pNo)]).length = A.length + 2 := by rw [List.length_append, List.length_append]; rfl
  have hLw0 := kLw hg hxn hZ hT hMi hj2 hj3 hO (by omega) (A.length + 1) (by omega) M1 ow (fun _ => lk0) hA1 (fun _ _ _ => rfl)
  rw [hlo0, show pNd ((A ++ [(5, pSum A t.2, t.2, 0, 0, pNo)]) ++ [(6, pSumG (A ++ [(5, pSum A t.2, t.2, 0, 0, pNo)]) (t.1 ++ [A.length]), t.1 ++ [A.length], 0, 0, pNo)]) (A.length + 1) = (6, pSumG (A ++ [(5, pSum A t.2, t.2, 0, 0, pNo)]) (t.1 ++ [A.length]), t.1 ++ [A.length], 0, 0, pNo) by unfold pNd; rw [hq9]; rfl, show (pUp (pUp ad A.length (bA 0)) (A.length + 1) (gA 0)) (A.length + 1) = gA 0 from pUp_s] at hLw0
  have hpc : pC ((A ++ [(5, pSum A t.2, t.2, 0, 0, pNo)]) ++ [(6, pSumG (A ++ [(5, pSum A t.2, t.2, 0, 0, pNo)]) (t.1 ++ [A.length]), t.1 ++ [A.length], 0, 0, pNo)]) (A.length + 1 + 1) - pC ((A ++ [(5, pSum A t.2, t.2, 0, 0, pNo)]) ++ [(6, pSumG (A ++ [(5, pSum A t.2, t.2, 0, 0, pNo)]) (t.1 ++ [A.length]), t.1 ++ [A.length], 0, 0, pNo)]) 0 ≤ 366 := by
    have h1 : pC ((A ++ [(5, pSum A t.2, t.2, 0, 0, pNo)]) ++ [(6, pSumG (A ++ [(5, pSum A t.2, t.2, 0, 0, pNo)]) (t.1 ++ [A.length]), t.1 ++ [A.length], 0, 0, pNo)]) (A.length + 1 + 1) = pCst ((A ++ [(5, pSum A t.2, t.2, 0, 0, pNo)]) ++ [(6, pSumG (A ++ [(5, pSum A t.2, t.2, 0, 0, pNo)]) (t.1 ++ [A.length]), t.1 ++ [A.length], 0, 0, pNo)]) := by
      unfold pC
      rw [List.take_of_length_le (by omega)]
    omega
  have hLw : XC G Y5_4 none 60 366 10980 [.ref (gA 0)] M1 (kLP M1 ow rk' (pUp (pUp ad A.length (bA 0)) (A.length + 1) (gA 0)) (fun _ => lk0) μ' ((A ++ [(5, pSum A t.2, t.2, 0, 0, pNo)]) ++ [(6, pSumG (A ++ [(5, pSum A t.2, t.2, 0, 0, pNo)]) (t.1 ++ [A.length]), t.1 ++ [A.length], 0, 0, pNo)]) 0 (A.length + 1)) := xc_wk hLw0 (by omega) hpc (by omega) (fun v M' h => h)
  have kRH := ha1
  refine xj_callV (rest := []) (As := []) (b := gA 0) hLw d8_2_85 wd5_4 ((ho1 (gA 0) (by omega)).trans kgo) (by omega) (show gA 0 < M1.1 by omega) rfl w738 w737 (Or.inl w736) rfl rfl (Nat.le_of_ble_eq_true rfl) (by omega) (by omega) (by omega) ?_
  rintro v M9 ⟨rfl, hm9, ow9, ho9, hf9, hA9⟩
  have hkR : kRs rd M0 pl M9 (pEnd (a, 0, A, t :: [])) := by
    rw [pEnd_0 a A h0]
    refine ⟨fun z => absurd (show (if 60 < pSumG (A ++ [(5, pSum A t.2, t.2, 0, 0, pNo)]) (t.1 ++ [A.length]) then (9 : Int32) else 0) = 0 from hx0) z, fun _ => ?_⟩
    refine ⟨⟨i1, by omega, fun j hj => (hf9 j (by omega) (by rw [o1 j hj, hj2]; omega)).trans ((hfr1 j (by omega)).trans (i3 j hj))⟩, ⟨r1, by omega⟩, ga, a, 0, ow9, rk', (pUp (pUp ad A.length (bA 0)) (A.length + 1) (gA 0)), μ', lo', ?_, ⟨fun y hy => (ho9 y (by omega)).trans (o1 y hy), (ho9 rd (by omega)).trans r5, hj2, hj3⟩, ?_, hO, by show ((A ++ [(5, pSum A t.2, t.2, 0, 0, pNo)]) ++ [(6, pSumG (A ++ [(5, pSum A t.2, t.2, 0, 0, pNo)]) (t.1 ++ [A.length]), t.1 ++ [A.length], 0, 0, pNo)]).length ≤ 26; omega, ⟨(6, pSumG (A ++ [(5, pSum A t.2, t.2, 0, 0, pNo)]) (t.1 ++ [A.length]), t.1 ++ [A.length], 0, 0, pNo), ?_, rfl⟩, by omega, by show lo' (((A ++ [(5, pSum A t.2, t.2, 0, 0, pNo)]) ++ [(6, pSumG (A ++ [(5, pSum A t.2, t.2, 0, 0, pNo)]) (t.1 ++ [A.length]), t.1 ++ [A.length], 0, 0, pNo)]).length - 1) = 0; rw [hlen3]; exact hlo0⟩
    · show M9.2 rd = cRo pl ga ((pUp (pUp ad A.length (bA 0)) (A.length + 1) (gA 0)) (((A ++ [(5, pSum A t.2, t.2, 0, 0, pNo)]) ++ [(6, pSumG (A ++ [(5, pSum A t.2, t.2, 0, 0, pNo)]) (t.1 ++ [A.length]), t.1 ++ [A.length], 0, 0, pNo)]).length - 1)) 0 a 0
      rw [hlen3, show (pUp (pUp ad A.length (bA 0)) (A.length + 1) (gA 0)) (A.length + 2 - 1) = gA 0 from pUp_s]
      exact (hf9 rd (by omega) (by rw [r5, hj2]; omega)).trans kRH
    · intro j p hp
      have hj9 : j < ((A ++ [(5, pSum A t.2, t.2, 0, 0, pNo)]) ++ [(6, pSumG (A ++ [(5, pSum A t.2, t.2, 0, 0, pNo)]) (t.1 ++ [A.length]), t.1 ++ [A.length], 0, 0, pNo)]).length := (List.getElem?_eq_some_iff.mp hp).1
      have h9 := hA9 j p hp
      have e9 : (if 0 ≤ j ∧ j ≤ A.length + 1 then sLr ((A ++ [(5, pSum A t.2, t.2, 0, 0, pNo)]) ++ [(6, pSumG (A ++ [(5, pSum A t.2, t.2, 0, 0, pNo)]) (t.1 ++ [A.length]), t.1 ++ [A.length], 0, 0, pNo)]) j else lk0) = sLr ((A ++ [(5, pSum A t.2, t.2, 0, 0, pNo)]) ++ [(6, pSumG (A ++ [(5, pSum A t.2, t.2, 0, 0, pNo)]) (t.1 ++ [A.length]), t.1 ++ [A.length], 0, 0, pNo)]) j := if_pos (by omega)
      show cN M9 ow9 rk' _ _ _ (sLr ((A ++ [(5, pSum A t.2, t.2, 0, 0, pNo)]) ++ [(6, pSumG (A ++ [(5, pSum A t.2, t.2, 0, 0, pNo)]) (t.1 ++ [A.length]), t.1 ++ [A.length], 0, 0, pNo)]) j) _ p
      rw [← e9]
      exact h9
    · show ((A ++ [(5, pSum A t.2, t.2, 0, 0, pNo)]) ++ [(6, pSumG (A ++ [(5, pSum A t.2, t.2, 0, 0, pNo)]) (t.1 ++ [A.length]), t.1 ++ [A.length], 0, 0, pNo)])[((A ++ [(5, pSum A t.2, t.2, 0, 0, pNo)]) ++ [(6, pSumG (A ++ [(5, pSum A t.2, t.2, 0, 0, pNo)]) (t.1 ++ [A.length]), t.1 ++ [A.length], 0, 0, pNo)]).length - 1]? = some _
      rw [hlen3]
      exact hq9
  exact xj_ret d8_2_88 (by omega) (by omega) rfl (K M9 hkR)

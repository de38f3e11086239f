set_option maxRecDepth 20000 in
set_option maxHeartbeats 1000000 in
theorem cBarX {G : xG} (hg : xGood G) (hxn : xn = 16) (hZ : va_Z "java/util/ArrayList" "DEFAULTCAPACITY_EMPTY_ELEMENTDATA" "[Ljava/lang/Object;" (.ref (xa G 1)) (fun q => (xs G).heap.size ≤ q) (xs G) (xs G).heap) (hT : va_T (.object "java/lang/Object") (xa G 1) 0 (fun _ => .null) (fun q => (xs G).heap.size ≤ q) (xs G) (xs G).heap) (hMi : xHM G) {rd : Nat} {M0 M : xM} {pl ga : Nat} {fg : Nat → Option Nat} {ow rk ad gA bA : Nat → Nat} {μ : Nat → xMu} {a : Nat} {A : List xNode} {t : List Nat × List Nat} {r : List (List Nat × List Nat)} {x w : Int32} {lo : Nat → Nat} {a0 : Nat} (hH : cH rd M0 pl ga fg ow rk ad gA bA μ M (a, x, A, t :: r)) (hZp : pZ lo (a0, x, A, t :: r)) : XC G Y5_2 none 7 9 124 [.ref (gA r.length)] M (fun v M' => v = none ∧ cHe rd M0 pl M' (a, x, A ++ [(5, w, t.2, 0, 0, pNo)], (t.1 ++ [A.length], []) :: r)) := by
  obtain ⟨_, _, bl, p, nd, ⟨rfl, rfl, efg⟩, ⟨b1, b2, b3, b4, b5, b6, b7, b8⟩, ⟨kR, kgs, kgo, kbo⟩, ⟨klp, klb⟩, ⟨og1, og2, og3, og4⟩, ⟨c1, c2, c3, c4, c5, c6, c7, c8, c9, c10, c11, c12⟩, cfr, ⟨n1, n2, n3, n4, n5, n6, n7, n8, n9, n10, n11, n12, n13, n14⟩, oR, ogs⟩ := cH_top hH hxn
  obtain ⟨⟨z1, z2, z3⟩, y1, y2⟩ := pZ_Y hZp
  obtain ⟨el9, mo9, q9, -⟩ := xLs_len klb
  refine xc_of hg (by decide) (Nat.le_of_ble_eq_true rfl) (Or.inr (Or.inr (Or.inr (Or.inr (Or.inl ⟨rfl, rfl, fun v M' h => h.1⟩))))) ?_
  refine xj_aload_n (i := 0) d5_2_0 rfl rfl ?_
  refine xj_new (na := M.1) d5_2_1 n5_19 rfl (by omega) (by omega) ?_
  refine xj_abs_push rfl (fun M1 hs1 ha1 ho1 => ?_)
  refine xj_dup d5_2_4 rfl ?_
  refine xj_callI (rest := [.ref M.1, .ref (gA r.length)]) (As := []) (b := M.1) (cBranch hg hZ hT (M := M1) (n := M.1 + 1) (a := M.1) (show M1.1 = M.1 + 1 by omega) (by omega) (by omega) (by omega) ha1) d5_2_5 wd3_1 rfl w328 (Or.inr ⟨_, w327⟩) rfl rfl (Nat.le_of_ble_eq_true rfl) (by omega) (by omega) (by omega) ?_
  rintro v M2 ⟨rfl, hs2, ho2, hf2_0, hf2_1, hf2_2, hf2_3, hf2_4, hf2_5, hf2_6, hf2_7⟩
  replace hs2 : M2.1 = M.1 + 8 := hs2
  replace hf2_0 : M2.2 M.1 = (.inr (6, [.ref (M.1 + 1), .ref (M.1 + 2), .null])) := hf2_0
  replace hf2_1 : M2.2 (M.1 + 1) = (.inr (2, [.ref 1, .int 0, .int 0])) := hf2_1
  replace hf2_2 : M2.2 (M.1 + 2) = (.inr (7, [.ref (M.1 + 3), .ref (M.1 + 4), .ref (M.1 + 5), .int 1])) := hf2_2
  replace hf2_3 : M2.2 (M.1 + 3) = (.inr (2, [.ref 1, .int 0, .int 0])) := hf2_3
  replace hf2_4 : M2.2 (M.1 + 4) = (.inr (2, [.ref 1, .int 0, .int 0])) := hf2_4
  replace hf2_5 : M2.2 (M.1 + 5) = (.inr (8, [.ref (M.1 + 6), .ref (M.1 + 7), .int 1])) := hf2_5
  replace hf2_6 : M2.2 (M.1 + 6) = (.inl (1, 60, .inl (fun _ => 0))) := hf2_6
  replace hf2_7 : M2.2 (M.1 + 7) = (.inl (0, 5, .inl (fun _ => 0))) := hf2_7
  refine xj_put (a := gA r.length) (fs' := [.ref bl, .ref M.1, .null]) d5_2_8 f5_22_5 ((ho2 (gA r.length) (by omega) (by omega)).trans ((ho1 (gA r.length) (by omega)).trans kgo)) (by omega) (show gA r.length < M2.1 by omega) (Nat.le_of_ble_eq_true rfl) rfl rfl rfl ?_
  refine xj_abs_set (fun M3 hs3 ha3 ho3 => ?_)
  refine xj_aload_n (i := 0) d5_2_11 rfl rfl ?_
  refine xj_get d5_2_12 f5_10_5 ha3 (by omega) (show gA r.length < M3.1 by omega) rfl ?_
  refine xj_aload_n (i := 0) d5_2_15 rfl rfl ?_
  refine xj_get d5_2_16 f5_22_5 ha3 (by omega) (show gA r.length < M3.1 by omega) rfl ?_
  have hsz : M3.1 = M.1 + 8 := by omega
  have hyg : ∀ y, ow y = bl → y ≠ gA r.length := fun y hy z => n12 (og1.symm.trans ((congrArg ow z.symm).trans hy))
  have hls : xLs (fun y => (owN ow M.1 5 8 bl) y = bl) M3 bl (t.1.map ad ++ [bA r.length]) := xLs_mv klb (by omega) ((ho3 bl (by omega)).trans ((ho2 bl (by omega) (by omega)).trans (ho1 bl (by omega)))) (fun y hy hlt => ⟨(owN_o hlt).trans hy, (have hy2 := hyg y hy; ((ho3 y (by omega)).trans ((ho2 y (by omega) (by omega)).trans (ho1 y (by omega)))))⟩)
  have hob9 : ∀ y ∈ t.1.map ad ++ [bA r.length], y ≠ bl ∧ xOb M3 y := by
    intro y hy
    have hy2 : xn ≤ y ∧ y < M.1 ∧ ∃ fs, M.2 y = .inr (6, fs) := by
      rcases List.mem_append.mp hy with z | z
      · obtain ⟨c, hc, rfl⟩ := List.mem_map.mp z
        have hcA := (y1 t List.mem_cons_self).1 c hc
        obtain ⟨wv, hv, ⟨a1, a2, a3, a4⟩, -, -, -, k5, -⟩ := hH.2.2.2.2.2.2.2 c _ (xnd_at hcA)
        obtain ⟨p9, nd9, w3, -⟩ := k5 ((hZp.2.2.1 t List.mem_cons_self).1 c hc)
        exact ⟨a1, a2, _, w3⟩
      · rw [List.mem_singleton.mp z]
        exact ⟨by omega, by omega, _, kbo⟩
    obtain ⟨w1, w2, fs, w3⟩ := hy2
    have hyg2 : y ≠ gA r.length := (xne_cl kgo w3 (by decide)).symm
    exact ⟨(xne_cl q9 w3 (by decide)).symm, w1, by omega, 6, fs, Rc6, Tc6, _, ((ho3 y (by omega)).trans ((ho2 y (by omega) (by omega)).trans (ho1 y (by omega)))).trans w3, rfl, Or.inr w1397⟩
  refine xj_callV (rest := []) (As := [.ref M.1]) (b := bl) (xLs_addG hg hZ hT hMi hls (by omega) (by omega) (fun y hy => owN_w (by decide) (by omega)) (by rw [List.length_append, List.length_map, List.length_singleton]; omega) hob9 (by omega) (by omega) ((ho3 M.1 (by omega)).trans hf2_0) (by omega) rfl (Or.inr w1397)) d5_2_19 wd28_25 ((ho3 bl (by omega)).trans ((ho2 bl (by omega) (by omega)).trans ((ho1 bl (by omega)).trans q9))) (by omega) (show bl < M3.1 by omega) rfl w168 w167 (Or.inl w397) rfl rfl (Nat.le_of_ble_eq_true rfl) (by omega) (by omega) (by omega) ?_
  rintro v M4 ⟨rfl, hs4, ho4, hL4⟩
  refine xj_pop d5_2_22 rfl ?_
  have hgg : ¬ gA r.length = bl := n12
  exact xj_ret d5_2_23 (by omega) (by omega) rfl ⟨rfl, ga, fg, (owN ow M.1 5 8 bl), (rkN (fun y => rtg (4 * r.length + 11) (3 * A.length + 100) (rk y)) M.1 [4 * r.length + 11, 4 * r.length + 11, 4 * r.length + 12, 4 * r.length + 12, 4 * r.length + 13]), _, gA, _, _, cH_bar (μx := (0, 0, 0, fun _ => 0)) (b' := M.1) (p' := M.1 + 1) (nd' := M.1 + 2) hH kgo z1 (by omega) (fun y hy => owN_o hy) (fun y hy => rkN_o hy) (fun y hy h1 h2 => (ho4 y (by omega) (fun z => h1 (by rw [z]; exact og4)) (fun z => absurd ((owN_o hy).symm.trans z) h1)).trans ((ho3 y (by omega)).trans ((ho2 y (by omega) (by omega)).trans (ho1 y (by omega))))) ((ho4 (gA r.length) (by omega) n12 (fun z => absurd ((owN_o b2).symm.trans z) (by rw [og1]; exact n12))).trans ha3) hL4 ⟨by omega, by omega, owN_s (by omega) (by omega), rkN_n 0⟩ ((ho4 (M.1) (by omega) (by omega) (fun z => absurd ((owN_s (ow := ow) (n := M.1) (k := 5) (j := 8) (w := bl) (x := M.1) (by omega) (by omega)).symm.trans z) (by omega))).trans ((ho3 M.1 (by omega)).trans hf2_0)) ⟨⟨by omega, by omega, owN_s (by omega) (by omega), rkN_n 1⟩, xLs_new ((ho4 (M.1 + 1) (by omega) (by omega) (fun z => absurd ((owN_s (ow := ow) (n := M.1) (k := 5) (j := 8) (w := bl) (x := M.1 + 1) (by omega) (by omega)).symm.trans z) (by omega))).trans ((ho3 (M.1 + 1) (by omega)).trans hf2_1))⟩ (cNd_new (by omega) (by omega) (owN_s (by omega) (by omega)) (owN_s (by omega) (by omega)) (owN_s (by omega) (by omega)) (owN_1 (by omega) (by omega)) (owN_1 (by omega) (by omega)) (owN_1 (by omega) (by omega)) (rkN_n 2) (rkN_n 3) (rkN_n 4) ((ho4 (M.1 + 2) (by omega) (by omega) (fun z => absurd ((owN_s (ow := ow) (n := M.1) (k := 5) (j := 8) (w := bl) (x := M.1 + 2) (by omega) (by omega)).symm.trans z) (by omega))).trans ((ho3 (M.1 + 2) (by omega)).trans hf2_2)) ((ho4 (M.1 + 3) (by omega) (by omega) (fun z => absurd ((owN_s (ow := ow) (n := M.1) (k := 5) (j := 8) (w := bl) (x := M.1 + 3) (by omega) (by omega)).symm.trans z) (by omega))).trans ((ho3 (M.1 + 3) (by omega)).trans hf2_3)) ((ho4 (M.1 + 4) (by omega) (by omega) (fun z => absurd ((owN_s (ow := ow) (n := M.1) (k := 5) (j := 8) (w := bl) (x := M.1 + 4) (by omega) (by omega)).symm.trans z) (by omega))).trans ((ho3 (M.1 + 4) (by omega)).trans hf2_4)) ((ho4 (M.1 + 5) (by omega) (by omega) (fun z => absurd ((owN_1 (ow := ow) (n := M.1) (k := 5) (j := 8) (w := bl) (x := M.1 + 5) (by omega) (by omega)).symm.trans z) (by omega))).trans ((ho3 (M.1 + 5) (by omega)).trans hf2_5)) ((ho4 (M.1 + 6) (by omega) (by omega) (fun z => absurd ((owN_1 (ow := ow) (n := M.1) (k := 5) (j := 8) (w := bl) (x := M.1 + 6) (by omega) (by omega)).symm.trans z) (by omega))).trans ((ho3 (M.1 + 6) (by omega)).trans hf2_6)) ((ho4 (M.1 + 7) (by omega) (by omega) (fun z => absurd ((owN_1 (ow := ow) (n := M.1) (k := 5) (j := 8) (w := bl) (x := M.1 + 7) (by omega) (by omega)).symm.trans z) (by omega))).trans ((ho3 (M.1 + 7) (by omega)).trans hf2_7))) y1 (fun i q hq => (y2 i q hq).1)⟩
set_option maxRecDepth 20000 in
set_option maxHeartbeats 1000000 in
theorem kOpen {G : xG} (hg : xGood G) (hxn : xn = 16) (hZ : va_Z "java/util/ArrayList" "DEFAULTCAPACITY_EMPTY_ELEMENTDATA" "[Ljava/lang/Object;" (.ref (xa G 1)) (fun q => (xs G).heap.size ≤ q) (xs G) (xs G).heap) (hT : va_T (.object "java/lang/Object") (xa G 1) 0 (fun _ => .null) (fun q => (xs G).heap.size ≤ q) (xs G) (xs G).heap) (hMi : xHM G) (hNA : xNA G) (hSC : xSC G) {px fp : Nat → Int32} {rd : Nat} {M0 M : xM} {pl ga : Nat} {fg : Nat → Option Nat} {ow rk ad gA bA : Nat → Nat} {μ : Nat → xMu} {a : Nat} {A : List xNode} {t : List Nat × List Nat} {r : List (List Nat × List Nat)} (hpl : pl ≤ 24) (hpx : ∀ j, j < pl → px j = fp j) (hPR : ∀ j, j < pl → ∃ u1, u1 < 95 ∧ fp j = nI (u1 + 32)) (h18 : M0.2 18 = (.inl (1, 24, .inl px))) {lo : Nat → Nat} {a0 : Nat} (hH : cH rd M0 pl ga fg ow rk ad gA bA μ M (a, 0, A, t :: r)) (hZp : pZ lo (a0, 0, A, t :: r)) (hpa1 : a0 + 1 ≤ a) (hpa2 : a ≤ pl) : XC G Y8_8 none 8 11 100 [.ref rd] M (fun v M' => v = none ∧ cX rd M0 pl M' (if (t :: r).length = 7 then pFau (a, 0, A, t :: r) 8 else (a, 0, A, ([], []) :: t :: r))) := by
  obtain ⟨_, _, bl, p, nd, ⟨rfl, rfl, efg⟩, ⟨b1, b2, b3, b4, b5, b6, b7, b8⟩, ⟨kR, kgs, kgo, kbo⟩, ⟨klp, klb⟩, ⟨og1, og2, og3, og4⟩, ⟨c1, c2, c3, c4, c5, c6, c7, c8, c9, c10, c11, c12⟩, cfr, ⟨n1, n2, n3, n4, n5, n6, n7, n8, n9, n10, n11, n12, n13, n14⟩, oR, ogs⟩ := cH_top hH hxn
  replace kR : M.2 rd = (.inr (4, [.ref (gA 0), .int 0, .ref 18, .int (nI pl), .int (nI a), .ref ga, .int (nI r.length)])) := kR
  have k18 : M.2 18 = (.inl (1, 24, .inl px)) := (cfr 18 (by omega)).trans h18
  obtain ⟨⟨z1, z2, z3⟩, y1, y2⟩ := pZ_Y hZp
  by_cases h7 : (t :: r).length = 7
  · have h7' : r.length + 1 = 7 := h7
    refine xc_of hg (by decide) (Nat.le_of_ble_eq_true rfl) (Or.inr (Or.inr (Or.inr (Or.inr (Or.inl ⟨rfl, rfl, fun v M' h => h.1⟩))))) ?_
    refine xj_aload_n (i := 0) d8_8_0 rfl rfl ?_
    refine xj_get d8_8_1 f8_47_4 kR (by omega) (show rd < M.1 by omega) rfl ?_
    refine xj_bipush (v := 6) d8_8_4 (by decide) ?_
    refine xj_icmp_lt (tgt := 16) d8_8_6 rfl (fun h => absurd h (nI_nlt (a := r.length) (b := 6) (by omega) (by omega))) (fun _ => ?_)
    refine xj_aload_n (i := 0) d8_8_9 rfl rfl ?_
    refine xj_bipush (v := 8) d8_8_10 (by decide) ?_
    refine xj_put (a := rd) (fs' := [.ref (gA 0), .int 8, .ref 18, .int (nI pl), .int (nI a), .ref ga, .int (nI r.length)]) d8_8_12 f8_33_4 kR (by omega) (show rd < M.1 by omega) (Nat.le_of_ble_eq_true rfl) rfl rfl rfl ?_
    refine xj_abs_set (fun M1 hs1 ha1 ho1 => ?_)
    exact xj_ret d8_8_15 (by omega) (by omega) rfl ⟨rfl, (by rw [if_pos h7]; exact ⟨fun q => absurd q (show ¬ (8 : Int32) = 0 by decide), fun _ => cH_F hH (by omega) (by omega) ha1 (fun y hy => (ho1 y (by omega)))⟩)⟩
  · have h7' : ¬ r.length + 1 = 7 := h7
    refine xc_of hg (by decide) (Nat.le_of_ble_eq_true rfl) (Or.inr (Or.inr (Or.inr (Or.inr (Or.inl ⟨rfl, rfl, fun v M' h => h.1⟩))))) ?_
    refine xj_aload_n (i := 0) d8_8_0 rfl rfl ?_
    refine xj_get d8_8_1 f8_47_4 kR (by omega) (show rd < M.1 by omega) rfl ?_
    refine xj_bipush (v := 6) d8_8_4 (by decide) ?_
    refine xj_icmp_lt (tgt := 16) d8_8_6 rfl (fun _ => ?_) (fun h => absurd (nI_lt (a := r.length) (b := 6) (by omega) (by omega)) h)
    refine xj_aload_n (i := 0) d8_8_16 rfl rfl ?_
    refine xj_dup d8_8_17 rfl ?_
    refine xj_get d8_8_18 f8_47_4 kR (by omega) (show rd < M.1 by omega) rfl ?_
    refine xj_iconst (v := 1) d8_8_21 (by decide) ?_
    refine xj_iadd (v := nI (r.length + 1)) d8_8_22 (nI_1 _) ?_
    refine xj_put (a := rd) (fs' := [.ref (gA 0), .int 0, .ref 18, .int (nI pl), .int (nI a), .ref ga, .int (nI (r.length + 1))]) d8_8_23 f8_47_4 kR (by omega) (show rd < M.1 by omega) (Nat.le_of_ble_eq_true rfl) rfl rfl rfl ?_
    refine xj_abs_set (fun M1 hs1 ha1 ho1 => ?_)
    refine xj_aload_n (i := 0) d8_8_26 rfl rfl ?_
    refine xj_get d8_8_27 f8_18_4 ha1 (by omega) (show rd < M1.1 by omega) rfl ?_
    refine xj_aload_n (i := 0) d8_8_30 rfl rfl ?_
    refine xj_get d8_8_31 f8_47_4 ha1 (by omega) (show rd < M1.1 by omega) rfl ?_
    refine xj_new (na := M.1) d8_8_34 n8_9 (show M1.1 = M.1 by omega) (by omega) (by omega) ?_
    refine xj_abs_push (show M1.1 = M.1 by omega) (fun M2 hs2 ha2 ho2 => ?_)
    refine xj_dup d8_8_37 rfl ?_
    refine xj_callI (rest := [.ref M.1, .int (nI (r.length + 1)), .ref ga]) (As := []) (b := M.1) (cGroup hg hZ hT (M := M2) (n := M.1 + 1) (a := M.1) (show M2.1 = M.1 + 1 by omega) (by omega) (by omega) (by omega) ha2) d8_8_38 wd5_1 rfl w313 (Or.inl w312) rfl rfl (Nat.le_of_ble_eq_true rfl) (by omega) (by omega) (by omega) ?_
    rintro v M3 ⟨rfl, hs3, ho3, hf3_0, hf3_1, hf3_2, hf3_3, hf3_4, hf3_5, hf3_6, hf3_7, hf3_8, hf3_9, hf3_10⟩
    replace hs3 : M3.1 = M.1 + 11 := hs3
    replace hf3_0 : M3.2 M.1 = (.inr (5, [.ref (M.1 + 1), .ref (M.1 + 2), .null])) := hf3_0
    replace hf3_1 : M3.2 (M.1 + 1) = (.inr (2, [.ref (M.1 + 10), .int 1, .int 1])) := hf3_1
    replace hf3_2 : M3.2 (M.1 + 2) = (.inr (6, [.ref (M.1 + 3), .ref (M.1 + 4), .null])) := hf3_2
    replace hf3_3 : M3.2 (M.1 + 3) = (.inr (2, [.ref 1, .int 0, .int 0])) := hf3_3
    replace hf3_4 : M3.2 (M.1 + 4) = (.inr (7, [.ref (M.1 + 5), .ref (M.1 + 6), .ref (M.1 + 7), .int 1])) := hf3_4
    replace hf3_5 : M3.2 (M.1 + 5) = (.inr (2, [.ref 1, .int 0, .int 0])) := hf3_5
    replace hf3_6 : M3.2 (M.1 + 6) = (.inr (2, [.ref 1, .int 0, .int 0])) := hf3_6
    replace hf3_7 : M3.2 (M.1 + 7) = (.inr (8, [.ref (M.1 + 8), .ref (M.1 + 9), .int 1])) := hf3_7
    replace hf3_8 : M3.2 (M.1 + 8) = (.inl (1, 60, .inl (fun _ => 0))) := hf3_8
    replace hf3_9 : M3.2 (M.1 + 9) = (.inl (0, 5, .inl (fun _ => 0))) := hf3_9
    replace hf3_10 : M3.2 (M.1 + 10) = (.inl (4, 10, .inr (.inr (.inr (.inr (va_up (fun _ => none) 0 (some (M.1 + 2)))))))) := hf3_10
    refine xj_aastore (j := r.length + 1) d8_8_41 ((ho3 ga (by omega) (by omega)).trans ((ho2 ga (by omega)).trans ((ho1 ga (by omega)).trans kgs))) (by decide) rfl (by omega) (show ga < M3.1 by omega) (vp_in_nI (by omega) (by omega)) (nI_clamp (by omega)) hf3_0 (by omega) (show M.1 < M3.1 by omega) rfl (Or.inl rfl) ?_
    refine xj_abs_set (fun M4 hs4 ha4 ho4 => ?_)
    have hLn : cL M4 (owN ow M.1 7 10 (M.1 + 1)) (rkN rk M.1 [4 * (r.length + 1) + 10, 4 * (r.length + 1) + 10, 4 * (r.length + 1) + 11, 4 * (r.length + 1) + 11, 4 * (r.length + 1) + 12, 4 * (r.length + 1) + 12, 4 * (r.length + 1) + 13]) ad (r.length + 1) M.1 (M.1 + 2) ([], []) := cL_new (by omega) (by omega) (fun k hk => owN_s (by omega) (by omega)) (fun k h1 h2 => owN_1 (by omega) (by omega)) (owN_w (by decide) (by omega)) ⟨rkN_n 0, rkN_n 1, rkN_n 2, rkN_n 3, rkN_n 4, rkN_n 5, rkN_n 6⟩ ((ho4 M.1 (by omega)).trans hf3_0) ((ho4 (M.1 + 1) (by omega)).trans hf3_1) ((ho4 (M.1 + 2) (by omega)).trans hf3_2) ((ho4 (M.1 + 3) (by omega)).trans hf3_3) ((ho4 (M.1 + 4) (by omega)).trans hf3_4) ((ho4 (M.1 + 5) (by omega)).trans hf3_5) ((ho4 (M.1 + 6) (by omega)).trans hf3_6) ((ho4 (M.1 + 7) (by omega)).trans hf3_7) ((ho4 (M.1 + 8) (by omega)).trans hf3_8) ((ho4 (M.1 + 9) (by omega)).trans hf3_9) (by rw [← xl_one]; exact ((ho4 (M.1 + 10) (by omega)).trans hf3_10))
    have hE : cHe rd M0 pl M4 (a, 0, A, ([], []) :: t :: r) := ⟨ga, _, (owN ow M.1 7 10 (M.1 + 1)), (rkN rk M.1 [4 * (r.length + 1) + 10, 4 * (r.length + 1) + 10, 4 * (r.length + 1) + 11, 4 * (r.length + 1) + 11, 4 * (r.length + 1) + 12, 4 * (r.length + 1) + 12, 4 * (r.length + 1) + 13]), ad, _, _, μ, cH_push hH (by omega) (fun y hy => owN_o hy) (fun y hy => rkN_o hy) ((ho4 rd (by omega)).trans ((ho3 rd (by omega) (by omega)).trans ((ho2 rd (by omega)).trans ha1))) ha4 (va_up_self _ _ _) (fun e he => va_up_ne _ _ (by omega)) (fun y hy h1 h2 => ((ho4 y (by omega)).trans ((ho3 y (by omega) (by omega)).trans ((ho2 y (by omega)).trans (ho1 y (by omega)))))) hLn⟩
    exact xj_ret d8_8_42 (by omega) (by omega) rfl ⟨rfl, (by rw [if_neg h7]; exact ⟨fun _ => ⟨hE, lo, pZ_push hZp (by have h7' : ¬ r.length + 1 = 7 := h7; omega) hpa1 (by omega)⟩, fun q => absurd rfl q⟩)⟩
set_option maxRecDepth 20000 in
set_option maxHeartbeats 1000000 in
theorem kBar {G : xG} (hg : xGood G) (hxn : xn = 16) (hZ : va_Z "java/util/ArrayList" "DEFAULTCAPACITY_EMPTY_ELEMENTDATA" "[Ljava/lang/Object;" (.ref (xa G 1)) (fun q => (xs G).heap.size ≤ q) (xs G) (xs G).heap) (hT : va_T (.object "java/lang/Object") (xa G 1) 0 (fun _ => .null) (fun q => (xs G).heap.size ≤ q) (xs G) (xs G).heap) (hMi : xHM G) (hNA : xNA G) (hSC : xSC G) {px fp : Nat → Int32} {rd : Nat} {M0 M : xM} {pl ga : Nat} {fg : Nat → Option Nat} {ow rk ad gA bA : Nat → Nat} {μ : Nat → xMu} {a : Nat} {A : List xNode} {t : List Nat × List Nat} {r : List (List Nat × List Nat)} (hpl : pl ≤ 24) (hpx : ∀ j, j < pl → px j = fp j) (hPR : ∀ j, j < pl → ∃ u1, u1 < 95 ∧ fp j = nI (u1 + 32)) (h18 : M0.2 18 = (.inl (1, 24, .inl px))) {lo : Nat → Nat} {a0 : Nat} (hH : cH rd M0 pl ga fg ow rk ad gA bA μ M (a, 0, A, t :: r)) (hZp : pZ lo (a0, 0, A, t :: r)) (hpa1 : a0 + 1 ≤ a) (hpa2 : a ≤ pl) : XC G Y8_10 none 8 9 124 [.ref rd] M (fun v M' => v = none ∧ cX rd M0 pl M' (if t.2 = [] then pFau (a, 0, A, t :: r) 1 else pEndB (a, 0, A, t :: r))) := by
  obtain ⟨_, _, bl, p, nd, ⟨rfl, rfl, efg⟩, ⟨b1, b2, b3, b4, b5, b6, b7, b8⟩, ⟨kR, kgs, kgo, kbo⟩, ⟨klp, klb⟩, ⟨og1, og2, og3, og4⟩, ⟨c1, c2, c3, c4, c5, c6, c7, c8, c9, c10, c11, c12⟩, cfr, ⟨n1, n2, n3, n4, n5, n6, n7, n8, n9, n10, n11, n12, n13, n14⟩, oR, ogs⟩ := cH_top hH hxn
  replace kR : M.2 rd = (.inr (4, [.ref (gA 0), .int 0, .ref 18, .int (nI pl), .int (nI a), .ref ga, .int (nI r.length)])) := kR
  have k18 : M.2 18 = (.inl (1, 24, .inl px)) := (cfr 18 (by omega)).trans h18
  obtain ⟨⟨z1, z2, z3⟩, y1, y2⟩ := pZ_Y hZp
  by_cases h0 : t.2 = []
  · skip
    have kp : ∃ el9 mo9, M.2 p = (.inr (2, [el9, .int 0, .int mo9])) := by
      obtain ⟨el9, mo9, q9, -⟩ := xLs_len klp
      rw [h0] at q9
      exact ⟨el9, mo9, q9⟩
    obtain ⟨el9, mo9, kp⟩ := kp
    refine xc_of hg (by decide) (Nat.le_of_ble_eq_true rfl) (Or.inr (Or.inr (Or.inr (Or.inr (Or.inl ⟨rfl, rfl, fun v M' h => h.1⟩))))) ?_
    refine xj_aload_n (i := 0) d8_10_0 rfl rfl ?_
    refine xj_callV (rest := []) (As := []) (b := rd) (bBr hg (M := M) (n := M.1) (rd := rd) (gw := gA 0) (ft := 0) (pl := pl) (a := a) (ga := ga) (og := r.length) (fg := fg) (g := gA r.length) (bl := bl) (b := bA r.length) (gv := .null) rfl (by omega) (by omega) (by omega) kR (by omega) (by omega) kgs (by omega) (by omega) kgo (by omega) efg) d8_10_1 wd8_5 kR (by omega) (show rd < M.1 by omega) rfl s8_5 w450 (Or.inl w448) rfl rfl (Nat.le_of_ble_eq_true rfl) (by omega) (by omega) (by omega) ?_
    rintro v M' ⟨rfl, hm⟩
    subst M'
    refine xj_callV (rest := []) (As := []) (b := bA r.length) (bBare1 hg (M := M) (n := M.1) (b := bA r.length) (p := p) (nv := .ref nd) (wv := .null) (el := el9) (mo := mo9) rfl (by omega) (by omega) (by omega) kbo (by omega) (by omega) kp) d8_10_4 wd3_2 kbo (by omega) (show bA r.length < M.1 by omega) rfl w454 w453 (Or.inl w452) rfl rfl (Nat.le_of_ble_eq_true rfl) (by omega) (by omega) (by omega) ?_
    rintro v M' ⟨rfl, hm⟩
    subst M'
    refine xj_if_eq (tgt := 18) d8_10_7 rfl (fun h => absurd h (by decide)) (fun _ => ?_)
    refine xj_aload_n (i := 0) d8_10_10 rfl rfl ?_
    refine xj_iconst (v := 1) d8_10_11 (by decide) ?_
    refine xj_put (a := rd) (fs' := [.ref (gA 0), .int 1, .ref 18, .int (nI pl), .int (nI a), .ref ga, .int (nI r.length)]) d8_10_12 f8_33_4 kR (by omega) (show rd < M.1 by omega) (Nat.le_of_ble_eq_true rfl) rfl rfl rfl ?_
    refine xj_abs_set (fun M1 hs1 ha1 ho1 => ?_)
    refine xj_goto (tgt := 30) d8_10_15 rfl ?_
    exact xj_ret d8_10_30 (by omega) (by omega) rfl ⟨rfl, (by rw [if_pos h0]; exact ⟨fun q => absurd q (show ¬ (1 : Int32) = 0 by decide), fun _ => cH_F hH (by omega) (by omega) ha1 (fun y hy => (ho1 y (by omega)))⟩)⟩
  · skip
    obtain ⟨k9, hk9⟩ : ∃ k, t.2.length = k + 1 := ⟨t.2.length - 1, by have : t.2.length ≠ 0 := fun z => h0 (List.eq_nil_of_length_eq_zero z); omega⟩
    obtain ⟨el9, mo9, kp, -⟩ := xLs_len klp
    rw [List.length_map, hk9] at kp
    refine xc_of hg (by decide) (Nat.le_of_ble_eq_true rfl) (Or.inr (Or.inr (Or.inr (Or.inr (Or.inl ⟨rfl, rfl, fun v M' h => h.1⟩))))) ?_
    refine xj_aload_n (i := 0) d8_10_0 rfl rfl ?_
    refine xj_callV (rest := []) (As := []) (b := rd) (bBr hg (M := M) (n := M.1) (rd := rd) (gw := gA 0) (ft := 0) (pl := pl) (a := a) (ga := ga) (og := r.length) (fg := fg) (g := gA r.length) (bl := bl) (b := bA r.length) (gv := .null) rfl (by omega) (by omega) (by omega) kR (by omega) (by omega) kgs (by omega) (by omega) kgo (by omega) efg) d8_10_1 wd8_5 kR (by omega) (show rd < M.1 by omega) rfl s8_5 w450 (Or.inl w448) rfl rfl (Nat.le_of_ble_eq_true rfl) (by omega) (by omega) (by omega) ?_
    rintro v M' ⟨rfl, hm⟩
    subst M'
    refine xj_callV (rest := []) (As := []) (b := bA r.length) (bBare0 hg (M := M) (n := M.1) (b := bA r.length) (p := p) (nv := .ref nd) (wv := .null) (el := el9) (mo := mo9) (k := k9) rfl (by omega) (by omega) (by omega) kbo (by omega) (by omega) kp (by omega)) d8_10_4 wd3_2 kbo (by omega) (show bA r.length < M.1 by omega) rfl w454 w453 (Or.inl w452) rfl rfl (Nat.le_of_ble_eq_true rfl) (by omega) (by omega) (by omega) ?_
    rintro v M' ⟨rfl, hm⟩
    subst M'
    refine xj_if_eq (tgt := 18) d8_10_7 rfl (fun _ => ?_) (fun h => absurd (by decide) h)
    refine xj_aload_n (i := 0) d8_10_18 rfl rfl ?_
    refine xj_get d8_10_19 f8_18_4 kR (by omega) (show rd < M.1 by omega) rfl ?_
    refine xj_aload_n (i := 0) d8_10_22 rfl rfl ?_
    refine xj_get d8_10_23 f8_47_4 kR (by omega) (show rd < M.1 by omega) rfl ?_
    refine xj_aaload (j := r.length) (v := .ref (gA r.length)) d8_10_26 kgs (by decide) rfl (by omega) (show ga < M.1 by omega) (vp_in_nI (by omega) (by omega)) (nI_clamp (by omega)) (by rw [efg]; rfl) ?_
    refine xj_callV (rest := []) (As := []) (b := gA r.length) (cBarX hg hxn hZ hT hMi (w := pSum A t.2) hH hZp) d8_10_27 wd5_2 kgo (by omega) (show gA r.length < M.1 by omega) rfl w323 w322 (Or.inl w469) rfl rfl (Nat.le_of_ble_eq_true rfl) (by omega) (by omega) (by omega) ?_
    rintro v M9 ⟨rfl, hE9⟩
    obtain ⟨m, hZ2⟩ := pZ_endB (x' := 0) hZp hpa1 (show a ≤ 24 by omega)
    exact xj_ret d8_10_30 (by omega) (by omega) rfl ⟨rfl, (by rw [if_neg h0]; exact ⟨fun _ => ⟨hE9, _, hZ2⟩, fun q => absurd rfl q⟩)⟩
set_option maxRecDepth 20000 in
set_option maxHeartbeats 1000000 in
theorem kClose0 {G : xG} (hg : xGood G) (hxn : xn = 16) (hZ : va_Z "java/util/ArrayList" "DEFAULTCAPACITY_EMPTY_ELEMENTDATA" "[Ljava/lang/Object;" (.ref (xa G 1)) (fun q => (xs G).heap.size ≤ q) (xs G) (xs G).heap) (hT : va_T (.object "java/lang/Object") (xa G 1) 0 (fun _ => .null) (fun q => (xs G).heap.size ≤ q) (xs G) (xs G).heap) (hMi : xHM G) (hNA : xNA G) (hSC : xSC G) {px fp : Nat → Int32} {rd : Nat} {M0 M : xM} {pl ga : Nat} {fg : Nat → Option Nat} {ow rk ad gA bA : Nat → Nat} {μ : Nat → xMu} {a : Nat} {A : List xNode} {t t2 : List Nat × List Nat} {r : List (List Nat × List Nat)} (hpl : pl ≤ 24) (hpx : ∀ j, j < pl → px j = fp j) (hPR : ∀ j, j < pl → ∃ u1, u1 < 95 ∧ fp j = nI (u1 + 32)) (h18 : M0.2 18 = (.inl (1, 24, .inl px))) {lo : Nat → Nat} {a0 : Nat} (hH : cH rd M0 pl ga fg ow rk ad gA bA μ M (a, 0, A, t :: [])) (hZp : pZ lo (a0, 0, A, t :: [])) (hpa1 : a0 + 1 ≤ a) (hpa2 : a ≤ pl) : XC G Y8_9 none 9 1 40 [.ref rd] M (fun v M' => v = none ∧ cX rd M0 pl M' (pClose (a, 0, A, t :: []))) := by
  obtain ⟨_, _, bl, p, nd, ⟨rfl, rfl, efg⟩, ⟨b1, b2, b3, b4, b5, b6, b7, b8⟩, ⟨kR, kgs, kgo, kbo⟩, ⟨klp, klb⟩, ⟨og1, og2, og3, og4⟩, ⟨c1, c2, c3, c4, c5, c6, c7, c8, c9, c10, c11, c12⟩, cfr, ⟨n1, n2, n3, n4, n5, n6, n7, n8, n9, n10, n11, n12, n13, n14⟩, oR, ogs⟩ := cH_top hH hxn
  replace kR : M.2 rd = (.inr (4, [.ref (gA 0), .int 0, .ref 18, .int (nI pl), .int (nI a), .ref ga, .int 0])) := kR
  have hpc : pClose (a, 0, A, t :: []) = pFau (a, 0, A, t :: []) 2 := if_pos (by show 1 ≤ 1; decide)
  refine xc_of hg (by decide) (Nat.le_of_ble_eq_true rfl) (Or.inr (Or.inr (Or.inr (Or.inr (Or.inl ⟨rfl, rfl, fun v M' h => h.1⟩))))) ?_
  refine xj_aload_n (i := 0) d8_9_0 rfl rfl ?_
  refine xj_get d8_9_1 f8_47_4 kR (by omega) (show rd < M.1 by omega) rfl ?_
  refine xj_if_ne (tgt := 15) d8_9_4 rfl (fun h => absurd (by decide) h) (fun _ => ?_)
  refine xj_aload_n (i := 0) d8_9_7 rfl rfl ?_
  refine xj_iconst (v := 2) d8_9_8 (by decide) ?_
  refine xj_put (a := rd) (fs' := [.ref (gA 0), .int 2, .ref 18, .int (nI pl), .int (nI a), .ref ga, .int 0]) d8_9_9 f8_33_4 kR (by omega) (show rd < M.1 by omega) (Nat.le_of_ble_eq_true rfl) rfl rfl rfl ?_
  refine xj_abs_set (fun M1 hs1 ha1 ho1 => ?_)
  refine xj_goto (tgt := 61) d8_9_12 rfl ?_
  exact xj_ret d8_9_61 (by omega) (by omega) rfl ⟨rfl, (by rw [hpc]; exact ⟨fun q => absurd q (show ¬ (2 : Int32) = 0 by decide), fun _ => cH_F hH (by omega) (by omega) ha1 (fun y hy => (ho1 y (by omega)))⟩)⟩
set_option maxRecDepth 20000 in
set_option maxHeartbeats 1000000 in
theorem kClose1 {G : xG} (hg : xGood G) (hxn : xn = 16) (hZ : va_Z "java/util/ArrayList" "DEFAULTCAPACITY_EMPTY_ELEMENTDATA" "[Ljava/lang/Object;" (.ref (xa G 1)) (fun q => (xs G).heap.size ≤ q) (xs G) (xs G).heap) (hT : va_T (.object "java/lang/Object") (xa G 1) 0 (fun _ => .null) (fun q => (xs G).heap.size ≤ q) (xs G) (xs G).heap) (hMi : xHM G) (hNA : xNA G) (hSC : xSC G) {px fp : Nat → Int32} {rd : Nat} {M0 M : xM} {pl ga : Nat} {fg : Nat → Option Nat} {ow rk ad gA bA : Nat → Nat} {μ : Nat → xMu} {a : Nat} {A : List xNode} {t t2 : List Nat × List Nat} {r : List (List Nat × List Nat)} (hpl : pl ≤ 24) (hpx : ∀ j, j < pl → px j = fp j) (hPR : ∀ j, j < pl → ∃ u1, u1 < 95 ∧ fp j = nI (u1 + 32)) (h18 : M0.2 18 = (.inl (1, 24, .inl px))) {lo : Nat → Nat} {a0 : Nat} (hH : cH rd M0 pl ga fg ow rk ad gA bA μ M (a, 0, A, t :: t2 :: r)) (hZp : pZ lo (a0, 0, A, t :: t2 :: r)) (hpa1 : a0 + 1 ≤ a) (hpa2 : a ≤ pl) : XC G Y8_9 none 9 1 40 [.ref rd] M (fun v M' => v = none ∧ cX rd M0 pl M' (pClose (a, 0, A, t :: t2 :: r))) := by
  obtain ⟨_, _, bl, p, nd, ⟨rfl, rfl, efg⟩, ⟨b1, b2, b3, b4, b5, b6, b7, b8⟩, ⟨kR, kgs, kgo, kbo⟩, ⟨klp, klb⟩, ⟨og1, og2, og3, og4⟩, ⟨c1, c2, c3, c4, c5, c6, c7, c8, c9, c10, c11, c12⟩, cfr, ⟨n1, n2, n3, n4, n5, n6, n7, n8, n9, n10, n11, n12, n13, n14⟩, oR, ogs⟩ := cH_top hH hxn
  replace kR : M.2 rd = (.inr (4, [.ref (gA 0), .int 0, .ref 18, .int (nI pl), .int (nI a), .ref ga, .int (nI (r.length + 1))])) := kR
  obtain ⟨⟨z1, z2, z3⟩, y1, y2⟩ := pZ_Y hZp
  have z1' : r.length + 1 ≤ 6 := z1
  replace efg : fg (r.length + 1) = some (gA (t2 :: r).length) := efg
  by_cases h0 : t.2 = []
  · have hpc : pClose (a, 0, A, t :: t2 :: r) = pFau (a, 0, A, t :: t2 :: r) 1 := (if_neg (by show ¬ r.length + 1 + 1 ≤ 1; omega)).trans (if_pos h0)
    have kp : ∃ el9 mo9, M.2 p = (.inr (2, [el9, .int 0, .int mo9])) := by
      obtain ⟨el9, mo9, q9, -⟩ := xLs_len klp
      rw [h0] at q9
      exact ⟨el9, mo9, q9⟩
    obtain ⟨el9, mo9, kp⟩ := kp
    refine xc_of hg (by decide) (Nat.le_of_ble_eq_true rfl) (Or.inr (Or.inr (Or.inr (Or.inr (Or.inl ⟨rfl, rfl, fun v M' h => h.1⟩))))) ?_
    refine xj_aload_n (i := 0) d8_9_0 rfl rfl ?_
    refine xj_get d8_9_1 f8_47_4 kR (by omega) (show rd < M.1 by omega) rfl ?_
    refine xj_if_ne (tgt := 15) d8_9_4 rfl (fun _ => ?_) (fun h => absurd h (fun h => absurd ((nI_eq (a := r.length + 1) (b := 0) (by omega) (by omega)).mp h) (by omega)))
    refine xj_aload_n (i := 0) d8_9_15 rfl rfl ?_
    refine xj_callV (rest := []) (As := []) (b := rd) (bBr hg (M := M) (n := M.1) (rd := rd) (gw := gA 0) (ft := 0) (pl := pl) (a := a) (ga := ga) (og := r.length + 1) (fg := fg) (g := gA (t2 :: r).length) (bl := bl) (b := bA (t2 :: r).length) (gv := .null) rfl (by omega) (by omega) (by omega) kR (by omega) (by omega) kgs (by omega) (by omega) kgo (by omega) efg) d8_9_16 wd8_5 kR (by omega) (show rd < M.1 by omega) rfl s8_5 w450 (Or.inl w448) rfl rfl (Nat.le_of_ble_eq_true rfl) (by omega) (by omega) (by omega) ?_
    rintro v M' ⟨rfl, hm⟩
    subst M'
    refine xj_callV (rest := []) (As := []) (b := bA (t2 :: r).length) (bBare1 hg (M := M) (n := M.1) (b := bA (t2 :: r).length) (p := p) (nv := .ref nd) (wv := .null) (el := el9) (mo := mo9) rfl (by omega) (by omega) (by omega) kbo (by omega) (by omega) kp) d8_9_19 wd3_2 kbo (by omega) (show bA (t2 :: r).length < M.1 by omega) rfl w454 w453 (Or.inl w452) rfl rfl (Nat.le_of_ble_eq_true rfl) (by omega) (by omega) (by omega) ?_
    rintro v M' ⟨rfl, hm⟩
    subst M'
    refine xj_if_eq (tgt := 33) d8_9_22 rfl (fun h => absurd h (by decide)) (fun _ => ?_)
    refine xj_aload_n (i := 0) d8_9_25 rfl rfl ?_
    refine xj_iconst (v := 1) d8_9_26 (by decide) ?_
    refine xj_put (a := rd) (fs' := [.ref (gA 0), .int 1, .ref 18, .int (nI pl), .int (nI a), .ref ga, .int (nI (r.length + 1))]) d8_9_27 f8_33_4 kR (by omega) (show rd < M.1 by omega) (Nat.le_of_ble_eq_true rfl) rfl rfl rfl ?_
    refine xj_abs_set (fun M1 hs1 ha1 ho1 => ?_)
    refine xj_goto (tgt := 61) d8_9_30 rfl ?_
    exact xj_ret d8_9_61 (by omega) (by omega) rfl ⟨rfl, (by rw [hpc]; exact ⟨fun q => absurd q (show ¬ (1 : Int32) = 0 by decide), fun _ => cH_F hH (by omega) (by omega) ha1 (fun y hy => (ho1 y (by omega)))⟩)⟩
  · have hpc : pClose (a, 0, A, t :: t2 :: r) = (a, 0, (A ++ [(5, pSum A t.2, t.2, 0, 0, pNo)]) ++ [(6, pSumG (A ++ [(5, pSum A t.2, t.2, 0, 0, pNo)]) (t.1 ++ [A.length]), t.1 ++ [A.length], 0, 0, pNo)], (t2.1, t2.2 ++ [((A ++ [(5, pSum A t.2, t.2, 0, 0, pNo)])).length]) :: r) := (if_neg (by show ¬ r.length + 1 + 1 ≤ 1; omega)).trans (if_neg h0)
    obtain ⟨k9, hk9⟩ : ∃ k, t.2.length = k + 1 := ⟨t.2.length - 1, by have : t.2.length ≠ 0 := fun z => h0 (List.eq_nil_of_length_eq_zero z); omega⟩
    obtain ⟨el9, mo9, kp, -⟩ := xLs_len klp
    rw [List.length_map, hk9] at kp
    refine xc_of hg (by decide) (Nat.le_of_ble_eq_true rfl) (Or.inr (Or.inr (Or.inr (Or.inr (Or.inl ⟨rfl, rfl, fun v M' h => h.1⟩))))) ?_
    refine xj_aload_n (i := 0) d8_9_0 rfl rfl ?_
    refine xj_get d8_9_1 f8_47_4 kR (by omega) (show rd < M.1 by omega) rfl ?_
    refine xj_if_ne (tgt := 15) d8_9_4 rfl (fun _ => ?_) (fun h => absurd h (fun h => absurd ((nI_eq (a := r.length + 1) (b := 0) (by omega) (by omega)).mp h) (by omega)))
    refine xj_aload_n (i := 0) d8_9_15 rfl rfl ?_
    refine xj_callV (rest := []) (As := []) (b := rd) (bBr hg (M := M) (n := M.1) (rd := rd) (gw := gA 0) (ft := 0) (pl := pl) (a := a) (ga := ga) (og := r.length + 1) (fg := fg) (g := gA (t2 :: r).length) (bl := bl) (b := bA (t2 :: r).length) (gv := .null) rfl (by omega) (by omega) (by omega) kR (by omega) (by omega) kgs (by omega) (by omega) kgo (by omega) efg) d8_9_16 wd8_5 kR (by omega) (show rd < M.1 by omega) rfl s8_5 w450 (Or.inl w448) rfl rfl (Nat.le_of_ble_eq_true rfl) (by omega) (by omega) (by omega) ?_
    rintro v M' ⟨rfl, hm⟩
    subst M'
    refine xj_callV (rest := []) (As := []) (b := bA (t2 :: r).length) (bBare0 hg (M := M) (n := M.1) (b := bA (t2 :: r).length) (p := p) (nv := .ref nd) (wv := .null) (el := el9) (mo := mo9) (k := k9) rfl (by omega) (by omega) (by omega) kbo (by omega) (by omega) kp (by omega)) d8_9_19 wd3_2 kbo (by omega) (show bA (t2 :: r).length < M.1 by omega) rfl w454 w453 (Or.inl w452) rfl rfl (Nat.le_of_ble_eq_true rfl) (by omega) (by omega) (by omega) ?_
    rintro v M' ⟨rfl, hm⟩
    subst M'
    refine xj_if_eq (tgt := 33) d8_9_22 rfl (fun _ => ?_) (fun h => absurd (by decide) h)
    refine xj_aload_n (i := 0) d8_9_33 rfl rfl ?_
    refine xj_get d8_9_34 f8_18_4 kR (by omega) (show rd < M.1 by omega) rfl ?_
    refine xj_aload_n (i := 0) d8_9_37 rfl rfl ?_
    refine xj_get d8_9_38 f8_47_4 kR (by omega) (show rd < M.1 by omega) rfl ?_
    refine xj_aaload (j := r.length + 1) (v := .ref (gA (t2 :: r).length)) d8_9_41 kgs (by decide) rfl (by omega) (show ga < M.1 by omega) (vp_in_nI (by omega) (by omega)) (nI_clamp (by omega)) (by rw [efg]; rfl) ?_
    refine xj_astore_n (i := 1) (L' := [(1, .ref (gA (t2 :: r).length)), (0, .ref rd)]) d8_9_42 rfl (by decide) rfl ?_
    refine xj_aload_n (i := 0) d8_9_43 rfl rfl ?_
    refine xj_dup d8_9_44 rfl ?_
    refine xj_get d8_9_45 f8_47_4 kR (by omega) (show rd < M.1 by omega) rfl ?_
    refine xj_iconst (v := 1) d8_9_48 (by decide) ?_
    refine xj_isub (v := nI r.length) d8_9_49 (by rw [show (1 : Int32) = nI 1 from by decide]; exact pk_sub (a := r.length + 1) (b := 1) (by omega)) ?_
    refine xj_put (a := rd) (fs' := [.ref (gA 0), .int 0, .ref 18, .int (nI pl), .int (nI a), .ref ga, .int (nI r.length)]) d8_9_50 f8_47_4 kR (by omega) (show rd < M.1 by omega) (Nat.le_of_ble_eq_true rfl) rfl rfl rfl ?_
    refine xj_abs_set (fun M1 hs1 ha1 ho1 => ?_)
    refine xj_aload_n (i := 0) d8_9_53 rfl rfl ?_
    obtain ⟨rk2, hH2, hX2⟩ := cH_drop (w := pSum A t.2) (w' := pSumG (A ++ [(5, pSum A t.2, t.2, 0, 0, pNo)]) (t.1 ++ [A.length])) (μx := (0, 0, 0, fun _ => 0)) (μy := (0, 0, 0, fun _ => 0)) hH (by omega) (show M1.1 = M.1 by omega) ha1 (fun y hy => (ho1 y (by omega))) y1 (fun i q hq => (y2 i q hq).1)
    have hYd := pY_drop (w := pSum A t.2) hZp
    obtain ⟨_, _, blx, px9, ndx, ⟨rfl, rfl, efgx⟩, ⟨b1x, b2x, b3x, b4x, b5x, b6x, b7x, b8x⟩, ⟨kRx, kgsx, kgox, kbox⟩, ⟨klpx, klbx⟩, ⟨og1x, og2x, og3x, og4x⟩, ⟨c1x, c2x, c3x, c4x, c5x, c6x, c7x, c8x, c9x, c10x, c11x, c12x⟩, cfrx, ⟨n1x, n2x, n3x, n4x, n5x, n6x, n7x, n8x, n9x, n10x, n11x, n12x, n13x, n14x⟩, oRx, ogsx⟩ := cH_top hH2 hxn
    replace kRx : M1.2 rd = (.inr (4, [.ref (gA 0), .int 0, .ref 18, .int (nI pl), .int (nI a), .ref ga, .int (nI r.length)])) := kRx
    refine xj_callV (rest := []) (As := []) (b := rd) (bBr hg (M := M1) (n := M1.1) (rd := rd) (gw := gA 0) (ft := 0) (pl := pl) (a := a) (ga := ga) (og := r.length) (fg := fg) (g := gA r.length) (bl := blx) (b := bA r.length) (gv := .null) rfl (by omega) (by omega) (by omega) kRx (by omega) (by omega) kgsx (by omega) (by omega) kgox (by omega) efgx) d8_9_54 wd8_5 kRx (by omega) (show rd < M1.1 by omega) rfl s8_5 w450 (Or.inl w448) rfl rfl (Nat.le_of_ble_eq_true rfl) (by omega) (by omega) (by omega) ?_
    rintro v M' ⟨rfl, hm⟩
    subst M'
    refine xj_aload_n (i := 1) d8_9_57 rfl rfl ?_
    refine xj_callV (rest := []) (As := [.ref (gA (t2 :: r).length)]) (b := bA r.length) (cAddX hg hxn hZ hT hMi hH2 hYd (by rw [List.length_append, List.length_singleton]; exact hX2) (by show 1 ≤ 6; decide) (by show 6 ≤ 6; decide) (fun c hc => by rw [List.length_append, List.length_singleton]; rcases List.mem_append.mp hc with z | z; exact Nat.lt_succ_of_lt ((y1 t List.mem_cons_self).1 c z); rw [List.mem_singleton.mp z]; exact Nat.lt_succ_self _)) d8_9_58 wd3_3 kbox (by omega) (show bA r.length < M1.1 by omega) rfl w462 w461 (Or.inl w460) rfl rfl (Nat.le_of_ble_eq_true rfl) (by omega) (by omega) (by omega) ?_
    rintro v M9 ⟨rfl, hE9⟩
    have hE8 : cHe rd M0 pl M9 (pClose (a, 0, A, t :: t2 :: r)) := by
      rw [hpc]
      exact hE9
    obtain ⟨m, hZ2⟩ := pZ_endB (x' := 0) hZp hpa1 (show a ≤ 24 by omega)
    obtain ⟨m2, hZ3⟩ := pZ_grp (x' := 0) hZ2 (show a ≤ 24 by omega) (Nat.le_refl _)
    have hZ4 : pZ (pUp (pUp lo A.length m) ((A ++ [(5, pSum A t.2, t.2, 0, 0, pNo)])).length m2) (pClose (a, 0, A, t :: t2 :: r)) := by
      rw [hpc]
      exact hZ3
    have hf0 : (pClose (a, 0, A, t :: t2 :: r)).2.1 = 0 := by rw [hpc]
    exact xj_ret d8_9_61 (by omega) (by omega) rfl ⟨rfl, fun _ => ⟨hE8, _, hZ4⟩, fun q => absurd hf0 q⟩

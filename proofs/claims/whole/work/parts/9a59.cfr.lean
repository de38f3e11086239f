theorem kRepeat {G : xG} (hg : xGood G) (hxn : xn = 16) (hZ : va_Z "java/util/ArrayList" "DEFAULTCAPACITY_EMPTY_ELEMENTDATA" "[Ljava/lang/Object;" (.ref (xa G 1)) (fun q => (xs G).heap.size ≤ q) (xs G) (xs G).heap) (hT : va_T (.object "java/lang/Object") (xa G 1) 0 (fun _ => .null) (fun q => (xs G).heap.size ≤ q) (xs G) (xs G).heap) (hMi : xHM G) (hNA : xNA G) (hSC : xSC G) {px fp : Nat → Int32} {rd : Nat} {M0 M : xM} {pl ga : Nat} {fg : Nat → Option Nat} {ow rk ad gA bA : Nat → Nat} {μ : Nat → xMu} {a : Nat} {A : List xNode} {t : List Nat × List Nat} {r : List (List Nat × List Nat)} (hpl : pl ≤ 24) (hpx : ∀ j, j < pl → px j = fp j) (hPR : ∀ j, j < pl → ∃ u1, u1 < 95 ∧ fp j = nI (u1 + 32)) (h18 : M0.2 18 = (.inl (1, 24, .inl px))) {lo : Nat → Nat} {a0 : Nat} (hH : cH rd M0 pl ga fg ow rk ad gA bA μ M (a, 0, A, t :: r)) (hZp : pZ lo (a0, 0, A, t :: r)) (hpa1 : a0 + 1 ≤ a) (hpa2 : a ≤ pl) {c : Int32} : XC G Y8_11 none 10 8 127 [.ref rd, .int c] M (fun v M' => v = none ∧ cX rd M0 pl M' (pRepeat fp pl c (a, 0, A, t :: r))) := by
  by_cases h0 : t.2 = []
  · exact xc_wk (kRep0 hg hxn hZ hT hMi hNA hSC hpl hpx hPR h18 hH hZp hpa1 hpa2 h0) (Nat.le_refl _) (by decide) (by decide) (fun v M' h => h)
  · obtain ⟨t1, tl⟩ := t
    rcases xsnoc tl with z | ⟨l, e, z⟩
    · exact absurd z h0
    · subst z
      by_cases hkd : (pNd A e).1 = 2 ∨ (pNd A e).1 = 3
      · exact xc_wk (kRepA hg hxn hZ hT hMi hNA hSC hpl hpx hPR h18 hH hZp hpa1 hpa2 hkd) (Nat.le_refl _) (by decide) (by decide) (fun v M' h => h)
      · exact kRepN hg hxn hZ hT hMi hNA hSC hpl hpx hPR h18 hH hZp hpa1 hpa2 hkd
theorem kClose {G : xG} (hg : xGood G) (hxn : xn = 16) (hZ : va_Z "java/util/ArrayList" "DEFAULTCAPACITY_EMPTY_ELEMENTDATA" "[Ljava/lang/Object;" (.ref (xa G 1)) (fun q => (xs G).heap.size ≤ q) (xs G) (xs G).heap) (hT : va_T (.object "java/lang/Object") (xa G 1) 0 (fun _ => .null) (fun q => (xs G).heap.size ≤ q) (xs G) (xs G).heap) (hMi : xHM G) (hNA : xNA G) (hSC : xSC G) {px fp : Nat → Int32} {rd : Nat} {M0 M : xM} {pl ga : Nat} {fg : Nat → Option Nat} {ow rk ad gA bA : Nat → Nat} {μ : Nat → xMu} {a : Nat} {A : List xNode} {t : List Nat × List Nat} {r : List (List Nat × List Nat)} (hpl : pl ≤ 24) (hpx : ∀ j, j < pl → px j = fp j) (hPR : ∀ j, j < pl → ∃ u1, u1 < 95 ∧ fp j = nI (u1 + 32)) (h18 : M0.2 18 = (.inl (1, 24, .inl px))) {lo : Nat → Nat} {a0 : Nat} (hH : cH rd M0 pl ga fg ow rk ad gA bA μ M (a, 0, A, t :: r)) (hZp : pZ lo (a0, 0, A, t :: r)) (hpa1 : a0 + 1 ≤ a) (hpa2 : a ≤ pl) : XC G Y8_9 none 9 1 40 [.ref rd] M (fun v M' => v = none ∧ cX rd M0 pl M' (pClose (a, 0, A, t :: r))) := by
  cases r with
  | nil => exact kClose0 (t2 := t) (r := []) hg hxn hZ hT hMi hNA hSC hpl hpx hPR h18 hH hZp hpa1 hpa2
  | cons t2 r => exact kClose1 hg hxn hZ hT hMi hNA hSC hpl hpx hPR h18 hH hZp hpa1 hpa2
set_option maxRecDepth 20000 in
set_option maxHeartbeats 1000000 in
theorem kFrom40 {G : xG} (hg : xGood G) (hxn : xn = 16) (hZ : va_Z "java/util/ArrayList" "DEFAULTCAPACITY_EMPTY_ELEMENTDATA" "[Ljava/lang/Object;" (.ref (xa G 1)) (fun q => (xs G).heap.size ≤ q) (xs G) (xs G).heap) (hT : va_T (.object "java/lang/Object") (xa G 1) 0 (fun _ => .null) (fun q => (xs G).heap.size ≤ q) (xs G) (xs G).heap) (hMi : xHM G) (hNA : xNA G) (hSC : xSC G) {px fp : Nat → Int32} {rd : Nat} {M0 M : xM} {pl ga : Nat} {fg : Nat → Option Nat} {ow rk ad gA bA : Nat → Nat} {μ : Nat → xMu} {a : Nat} {A : List xNode} {t : List Nat × List Nat} {r : List (List Nat × List Nat)} (hpl : pl ≤ 24) (hpx : ∀ j, j < pl → px j = fp j) (hPR : ∀ j, j < pl → ∃ u1, u1 < 95 ∧ fp j = nI (u1 + 32)) (h18 : M0.2 18 = (.inl (1, 24, .inl px))) {lo : Nat → Nat} {a0 : Nat} (hH : cH rd M0 pl ga fg ow rk ad gA bA μ M (a, 0, A, t :: r)) (hZp : pZ lo (a0, 0, A, t :: r)) (hpa1 : a0 + 1 ≤ a) (hpa2 : a ≤ pl) : XC G Y8_4 none 11 11 127 [.ref rd, .int 40] M (fun v M' => v = none ∧ cX rd M0 pl M' (pOneC fp pl 40 (a, 0, A, t :: r))) := by
  obtain ⟨_, _, bl, p, nd, ⟨rfl, rfl, efg⟩, ⟨b1, b2, b3, b4, b5, b6, b7, b8⟩, ⟨kR, kgs, kgo, kbo⟩, ⟨klp, klb⟩, ⟨og1, og2, og3, og4⟩, ⟨c1, c2, c3, c4, c5, c6, c7, c8, c9, c10, c11, c12⟩, cfr, ⟨n1, n2, n3, n4, n5, n6, n7, n8, n9, n10, n11, n12, n13, n14⟩, oR, ogs⟩ := cH_top hH hxn
  replace kR : M.2 rd = (.inr (4, [.ref (gA 0), .int 0, .ref 18, .int (nI pl), .int (nI a), .ref ga, .int (nI r.length)])) := kR
  have k18 : M.2 18 = (.inl (1, 24, .inl px)) := (cfr 18 (by omega)).trans h18
  obtain ⟨⟨z1, z2, z3⟩, y1, y2⟩ := pZ_Y hZp
  refine xc_of hg (by decide) (Nat.le_of_ble_eq_true rfl) (Or.inr (Or.inr (Or.inr (Or.inr (Or.inl ⟨rfl, rfl, fun v M' h => h.1⟩))))) ?_
  refine xj_iload_n (i := 1) d8_4_0 rfl rfl ?_
  refine xj_bipush (v := 40) d8_4_1 (by decide) ?_
  refine xj_icmp_ne (tgt := 13) d8_4_3 rfl (fun h => absurd (by decide) h) (fun _ => ?_)
  refine xj_aload_n (i := 0) d8_4_6 rfl rfl ?_
  refine xj_callV (rest := []) (As := []) (b := rd) (kOpen hg hxn hZ hT hMi hNA hSC hpl hpx hPR h18 hH hZp hpa1 hpa2) d8_4_7 wd8_8 kR (by omega) (show rd < M.1 by omega) rfl s8_8 w442 (Or.inl w440) rfl rfl (Nat.le_of_ble_eq_true rfl) (by omega) (by omega) (by omega) ?_
  rintro v M9 ⟨rfl, hX9⟩
  refine xj_goto (tgt := 160) d8_4_10 rfl ?_
  have hp9 : pOneC fp pl 40 (a, 0, A, t :: r) = if (t :: r).length = 7 then pFau (a, 0, A, t :: r) 8 else (a, 0, A, ([], []) :: t :: r) := by
    unfold pOneC
    rw [if_pos rfl]
  exact xj_ret d8_4_160 (by omega) (by omega) rfl ⟨rfl, by rw [hp9]; exact hX9⟩
set_option maxRecDepth 20000 in
set_option maxHeartbeats 1000000 in
theorem kFrom41 {G : xG} (hg : xGood G) (hxn : xn = 16) (hZ : va_Z "java/util/ArrayList" "DEFAULTCAPACITY_EMPTY_ELEMENTDATA" "[Ljava/lang/Object;" (.ref (xa G 1)) (fun q => (xs G).heap.size ≤ q) (xs G) (xs G).heap) (hT : va_T (.object "java/lang/Object") (xa G 1) 0 (fun _ => .null) (fun q => (xs G).heap.size ≤ q) (xs G) (xs G).heap) (hMi : xHM G) (hNA : xNA G) (hSC : xSC G) {px fp : Nat → Int32} {rd : Nat} {M0 M : xM} {pl ga : Nat} {fg : Nat → Option Nat} {ow rk ad gA bA : Nat → Nat} {μ : Nat → xMu} {a : Nat} {A : List xNode} {t : List Nat × List Nat} {r : List (List Nat × List Nat)} (hpl : pl ≤ 24) (hpx : ∀ j, j < pl → px j = fp j) (hPR : ∀ j, j < pl → ∃ u1, u1 < 95 ∧ fp j = nI (u1 + 32)) (h18 : M0.2 18 = (.inl (1, 24, .inl px))) {lo : Nat → Nat} {a0 : Nat} (hH : cH rd M0 pl ga fg ow rk ad gA bA μ M (a, 0, A, t :: r)) (hZp : pZ lo (a0, 0, A, t :: r)) (hpa1 : a0 + 1 ≤ a) (hpa2 : a ≤ pl) : XC G Y8_4 none 11 11 127 [.ref rd, .int 41] M (fun v M' => v = none ∧ cX rd M0 pl M' (pOneC fp pl 41 (a, 0, A, t :: r))) := by
  obtain ⟨_, _, bl, p, nd, ⟨rfl, rfl, efg⟩, ⟨b1, b2, b3, b4, b5, b6, b7, b8⟩, ⟨kR, kgs, kgo, kbo⟩, ⟨klp, klb⟩, ⟨og1, og2, og3, og4⟩, ⟨c1, c2, c3, c4, c5, c6, c7, c8, c9, c10, c11, c12⟩, cfr, ⟨n1, n2, n3, n4, n5, n6, n7, n8, n9, n10, n11, n12, n13, n14⟩, oR, ogs⟩ := cH_top hH hxn
  replace kR : M.2 rd = (.inr (4, [.ref (gA 0), .int 0, .ref 18, .int (nI pl), .int (nI a), .ref ga, .int (nI r.length)])) := kR
  have k18 : M.2 18 = (.inl (1, 24, .inl px)) := (cfr 18 (by omega)).trans h18
  obtain ⟨⟨z1, z2, z3⟩, y1, y2⟩ := pZ_Y hZp
  refine xc_of hg (by decide) (Nat.le_of_ble_eq_true rfl) (Or.inr (Or.inr (Or.inr (Or.inr (Or.inl ⟨rfl, rfl, fun v M' h => h.1⟩))))) ?_
  refine xj_iload_n (i := 1) d8_4_0 rfl rfl ?_
  refine xj_bipush (v := 40) d8_4_1 (by decide) ?_
  refine xj_icmp_ne (tgt := 13) d8_4_3 rfl (fun _ => ?_) (fun h => absurd h (by decide))
  refine xj_iload_n (i := 1) d8_4_13 rfl rfl ?_
  refine xj_bipush (v := 41) d8_4_14 (by decide) ?_
  refine xj_icmp_ne (tgt := 26) d8_4_16 rfl (fun h => absurd (by decide) h) (fun _ => ?_)
  refine xj_aload_n (i := 0) d8_4_19 rfl rfl ?_
  refine xj_callV (rest := []) (As := []) (b := rd) (kClose hg hxn hZ hT hMi hNA hSC hpl hpx hPR h18 hH hZp hpa1 hpa2) d8_4_20 wd8_9 kR (by omega) (show rd < M.1 by omega) rfl s8_9 w446 (Or.inl w444) rfl rfl (Nat.le_of_ble_eq_true rfl) (by omega) (by omega) (by omega) ?_
  rintro v M9 ⟨rfl, hX9⟩
  refine xj_goto (tgt := 160) d8_4_23 rfl ?_
  have hp9 : pOneC fp pl 41 (a, 0, A, t :: r) = pClose (a, 0, A, t :: r) := by
    unfold pOneC
    rw [if_neg (by decide), if_pos rfl]
  exact xj_ret d8_4_160 (by omega) (by omega) rfl ⟨rfl, by rw [hp9]; exact hX9⟩
set_option maxRecDepth 20000 in
set_option maxHeartbeats 1000000 in
theorem kFrom124 {G : xG} (hg : xGood G) (hxn : xn = 16) (hZ : va_Z "java/util/ArrayList" "DEFAULTCAPACITY_EMPTY_ELEMENTDATA" "[Ljava/lang/Object;" (.ref (xa G 1)) (fun q => (xs G).heap.size ≤ q) (xs G) (xs G).heap) (hT : va_T (.object "java/lang/Object") (xa G 1) 0 (fun _ => .null) (fun q => (xs G).heap.size ≤ q) (xs G) (xs G).heap) (hMi : xHM G) (hNA : xNA G) (hSC : xSC G) {px fp : Nat → Int32} {rd : Nat} {M0 M : xM} {pl ga : Nat} {fg : Nat → Option Nat} {ow rk ad gA bA : Nat → Nat} {μ : Nat → xMu} {a : Nat} {A : List xNode} {t : List Nat × List Nat} {r : List (List Nat × List Nat)} (hpl : pl ≤ 24) (hpx : ∀ j, j < pl → px j = fp j) (hPR : ∀ j, j < pl → ∃ u1, u1 < 95 ∧ fp j = nI (u1 + 32)) (h18 : M0.2 18 = (.inl (1, 24, .inl px))) {lo : Nat → Nat} {a0 : Nat} (hH : cH rd M0 pl ga fg ow rk ad gA bA μ M (a, 0, A, t :: r)) (hZp : pZ lo (a0, 0, A, t :: r)) (hpa1 : a0 + 1 ≤ a) (hpa2 : a ≤ pl) : XC G Y8_4 none 11 11 127 [.ref rd, .int 124] M (fun v M' => v = none ∧ cX rd M0 pl M' (pOneC fp pl 124 (a, 0, A, t :: r))) := by
  obtain ⟨_, _, bl, p, nd, ⟨rfl, rfl, efg⟩, ⟨b1, b2, b3, b4, b5, b6, b7, b8⟩, ⟨kR, kgs, kgo, kbo⟩, ⟨klp, klb⟩, ⟨og1, og2, og3, og4⟩, ⟨c1, c2, c3, c4, c5, c6, c7, c8, c9, c10, c11, c12⟩, cfr, ⟨n1, n2, n3, n4, n5, n6, n7, n8, n9, n10, n11, n12, n13, n14⟩, oR, ogs⟩ := cH_top hH hxn
  replace kR : M.2 rd = (.inr (4, [.ref (gA 0), .int 0, .ref 18, .int (nI pl), .int (nI a), .ref ga, .int (nI r.length)])) := kR
  have k18 : M.2 18 = (.inl (1, 24, .inl px)) := (cfr 18 (by omega)).trans h18
  obtain ⟨⟨z1, z2, z3⟩, y1, y2⟩ := pZ_Y hZp
  refine xc_of hg (by decide) (Nat.le_of_ble_eq_true rfl) (Or.inr (Or.inr (Or.inr (Or.inr (Or.inl ⟨rfl, rfl, fun v M' h => h.1⟩))))) ?_
  refine xj_iload_n (i := 1) d8_4_0 rfl rfl ?_
  refine xj_bipush (v := 40) d8_4_1 (by decide) ?_
  refine xj_icmp_ne (tgt := 13) d8_4_3 rfl (fun _ => ?_) (fun h => absurd h (by decide))
  refine xj_iload_n (i := 1) d8_4_13 rfl rfl ?_
  refine xj_bipush (v := 41) d8_4_14 (by decide) ?_
  refine xj_icmp_ne (tgt := 26) d8_4_16 rfl (fun _ => ?_) (fun h => absurd h (by decide))
  refine xj_iload_n (i := 1) d8_4_26 rfl rfl ?_
  refine xj_bipush (v := 124) d8_4_27 (by decide) ?_
  refine xj_icmp_ne (tgt := 39) d8_4_29 rfl (fun h => absurd (by decide) h) (fun _ => ?_)
  refine xj_aload_n (i := 0) d8_4_32 rfl rfl ?_
  refine xj_callV (rest := []) (As := []) (b := rd) (kBar hg hxn hZ hT hMi hNA hSC hpl hpx hPR h18 hH hZp hpa1 hpa2) d8_4_33 wd8_10 kR (by omega) (show rd < M.1 by omega) rfl s8_10 w467 (Or.inl w465) rfl rfl (Nat.le_of_ble_eq_true rfl) (by omega) (by omega) (by omega) ?_
  rintro v M9 ⟨rfl, hX9⟩
  refine xj_goto (tgt := 160) d8_4_36 rfl ?_
  have hp9 : pOneC fp pl 124 (a, 0, A, t :: r) = if t.2 = [] then pFau (a, 0, A, t :: r) 1 else pEndB (a, 0, A, t :: r) := by
    unfold pOneC
    rw [if_neg (by decide), if_neg (by decide), if_pos rfl]
    rfl
  exact xj_ret d8_4_160 (by omega) (by omega) rfl ⟨rfl, by rw [hp9]; exact hX9⟩
set_option maxRecDepth 20000 in
set_option maxHeartbeats 1000000 in
theorem kFrom42 {G : xG} (hg : xGood G) (hxn : xn = 16) (hZ : va_Z "java/util/ArrayList" "DEFAULTCAPACITY_EMPTY_ELEMENTDATA" "[Ljava/lang/Object;" (.ref (xa G 1)) (fun q => (xs G).heap.size ≤ q) (xs G) (xs G).heap) (hT : va_T (.object "java/lang/Object") (xa G 1) 0 (fun _ => .null) (fun q => (xs G).heap.size ≤ q) (xs G) (xs G).heap) (hMi : xHM G) (hNA : xNA G) (hSC : xSC G) {px fp : Nat → Int32} {rd : Nat} {M0 M : xM} {pl ga : Nat} {fg : Nat → Option Nat} {ow rk ad gA bA : Nat → Nat} {μ : Nat → xMu} {a : Nat} {A : List xNode} {t : List Nat × List Nat} {r : List (List Nat × List Nat)} (hpl : pl ≤ 24) (hpx : ∀ j, j < pl → px j = fp j) (hPR : ∀ j, j < pl → ∃ u1, u1 < 95 ∧ fp j = nI (u1 + 32)) (h18 : M0.2 18 = (.inl (1, 24, .inl px))) {lo : Nat → Nat} {a0 : Nat} (hH : cH rd M0 pl ga fg ow rk ad gA bA μ M (a, 0, A, t :: r)) (hZp : pZ lo (a0, 0, A, t :: r)) (hpa1 : a0 + 1 ≤ a) (hpa2 : a ≤ pl) : XC G Y8_4 none 11 11 127 [.ref rd, .int 42] M (fun v M' => v = none ∧ cX rd M0 pl M' (pOneC fp pl 42 (a, 0, A, t :: r))) := by
  obtain ⟨_, _, bl, p, nd, ⟨rfl, rfl, efg⟩, ⟨b1, b2, b3, b4, b5, b6, b7, b8⟩, ⟨kR, kgs, kgo, kbo⟩, ⟨klp, klb⟩, ⟨og1, og2, og3, og4⟩, ⟨c1, c2, c3, c4, c5, c6, c7, c8, c9, c10, c11, c12⟩, cfr, ⟨n1, n2, n3, n4, n5, n6, n7, n8, n9, n10, n11, n12, n13, n14⟩, oR, ogs⟩ := cH_top hH hxn
  replace kR : M.2 rd = (.inr (4, [.ref (gA 0), .int 0, .ref 18, .int (nI pl), .int (nI a), .ref ga, .int (nI r.length)])) := kR
  have k18 : M.2 18 = (.inl (1, 24, .inl px)) := (cfr 18 (by omega)).trans h18
  obtain ⟨⟨z1, z2, z3⟩, y1, y2⟩ := pZ_Y hZp
  refine xc_of hg (by decide) (Nat.le_of_ble_eq_true rfl) (Or.inr (Or.inr (Or.inr (Or.inr (Or.inl ⟨rfl, rfl, fun v M' h => h.1⟩))))) ?_
  refine xj_iload_n (i := 1) d8_4_0 rfl rfl ?_
  refine xj_bipush (v := 40) d8_4_1 (by decide) ?_
  refine xj_icmp_ne (tgt := 13) d8_4_3 rfl (fun _ => ?_) (fun h => absurd h (by decide))
  refine xj_iload_n (i := 1) d8_4_13 rfl rfl ?_
  refine xj_bipush (v := 41) d8_4_14 (by decide) ?_
  refine xj_icmp_ne (tgt := 26) d8_4_16 rfl (fun _ => ?_) (fun h => absurd h (by decide))
  refine xj_iload_n (i := 1) d8_4_26 rfl rfl ?_
  refine xj_bipush (v := 124) d8_4_27 (by decide) ?_
  refine xj_icmp_ne (tgt := 39) d8_4_29 rfl (fun _ => ?_) (fun h => absurd h (by decide))
  refine xj_iload_n (i := 1) d8_4_39 rfl rfl ?_
  refine xj_bipush (v := 42) d8_4_40 (by decide) ?_
  refine xj_icmp_eq (tgt := 63) d8_4_42 rfl (fun _ => ?_) (fun h => absurd (by decide) h)
  refine xj_aload_n (i := 0) d8_4_63 rfl rfl ?_
  refine xj_iload_n (i := 1) d8_4_64 rfl rfl ?_
  refine xj_callV (rest := []) (As := [.int 42]) (b := rd) (kRepeat hg hxn hZ hT hMi hNA hSC hpl hpx hPR h18 hH hZp hpa1 hpa2) d8_4_65 wd8_11 kR (by omega) (show rd < M.1 by omega) rfl s8_11 w472 (Or.inl w470) rfl rfl (Nat.le_of_ble_eq_true rfl) (by omega) (by omega) (by omega) ?_
  rintro v M9 ⟨rfl, hX9⟩
  refine xj_goto (tgt := 160) d8_4_68 rfl ?_
  have hp9 : pOneC fp pl 42 (a, 0, A, t :: r) = pRepeat fp pl 42 (a, 0, A, t :: r) := by
    unfold pOneC
    rw [if_neg (by decide), if_neg (by decide), if_neg (by decide), if_pos (by decide)]
  exact xj_ret d8_4_160 (by omega) (by omega) rfl ⟨rfl, by rw [hp9]; exact hX9⟩
set_option maxRecDepth 20000 in
set_option maxHeartbeats 1000000 in
theorem kFrom43 {G : xG} (hg : xGood G) (hxn : xn = 16) (hZ : va_Z "java/util/ArrayList" "DEFAULTCAPACITY_EMPTY_ELEMENTDATA" "[Ljava/lang/Object;" (.ref (xa G 1)) (fun q => (xs G).heap.size ≤ q) (xs G) (xs G).heap) (hT : va_T (.object "java/lang/Object") (xa G 1) 0 (fun _ => .null) (fun q => (xs G).heap.size ≤ q) (xs G) (xs G).heap) (hMi : xHM G) (hNA : xNA G) (hSC : xSC G) {px fp : Nat → Int32} {rd : Nat} {M0 M : xM} {pl ga : Nat} {fg : Nat → Option Nat} {ow rk ad gA bA : Nat → Nat} {μ : Nat → xMu} {a : Nat} {A : List xNode} {t : List Nat × List Nat} {r : List (List Nat × List Nat)} (hpl : pl ≤ 24) (hpx : ∀ j, j < pl → px j = fp j) (hPR : ∀ j, j < pl → ∃ u1, u1 < 95 ∧ fp j = nI (u1 + 32)) (h18 : M0.2 18 = (.inl (1, 24, .inl px))) {lo : Nat → Nat} {a0 : Nat} (hH : cH rd M0 pl ga fg ow rk ad gA bA μ M (a, 0, A, t :: r)) (hZp : pZ lo (a0, 0, A, t :: r)) (hpa1 : a0 + 1 ≤ a) (hpa2 : a ≤ pl) : XC G Y8_4 none 11 11 127 [.ref rd, .int 43] M (fun v M' => v = none ∧ cX rd M0 pl M' (pOneC fp pl 43 (a, 0, A, t :: r))) := by
  obtain ⟨_, _, bl, p, nd, ⟨rfl, rfl, efg⟩, ⟨b1, b2, b3, b4, b5, b6, b7, b8⟩, ⟨kR, kgs, kgo, kbo⟩, ⟨klp, klb⟩, ⟨og1, og2, og3, og4⟩, ⟨c1, c2, c3, c4, c5, c6, c7, c8, c9, c10, c11, c12⟩, cfr, ⟨n1, n2, n3, n4, n5, n6, n7, n8, n9, n10, n11, n12, n13, n14⟩, oR, ogs⟩ := cH_top hH hxn
  replace kR : M.2 rd = (.inr (4, [.ref (gA 0), .int 0, .ref 18, .int (nI pl), .int (nI a), .ref ga, .int (nI r.length)])) := kR
  have k18 : M.2 18 = (.inl (1, 24, .inl px)) := (cfr 18 (by omega)).trans h18
  obtain ⟨⟨z1, z2, z3⟩, y1, y2⟩ := pZ_Y hZp
  refine xc_of hg (by decide) (Nat.le_of_ble_eq_true rfl) (Or.inr (Or.inr (Or.inr (Or.inr (Or.inl ⟨rfl, rfl, fun v M' h => h.1⟩))))) ?_
  refine xj_iload_n (i := 1) d8_4_0 rfl rfl ?_
  refine xj_bipush (v := 40) d8_4_1 (by decide) ?_
  refine xj_icmp_ne (tgt := 13) d8_4_3 rfl (fun _ => ?_) (fun h => absurd h (by decide))
  refine xj_iload_n (i := 1) d8_4_13 rfl rfl ?_
  refine xj_bipush (v := 41) d8_4_14 (by decide) ?_
  refine xj_icmp_ne (tgt := 26) d8_4_16 rfl (fun _ => ?_) (fun h => absurd h (by decide))
  refine xj_iload_n (i := 1) d8_4_26 rfl rfl ?_
  refine xj_bipush (v := 124) d8_4_27 (by decide) ?_
  refine xj_icmp_ne (tgt := 39) d8_4_29 rfl (fun _ => ?_) (fun h => absurd h (by decide))
  refine xj_iload_n (i := 1) d8_4_39 rfl rfl ?_
  refine xj_bipush (v := 42) d8_4_40 (by decide) ?_
  refine xj_icmp_eq (tgt := 63) d8_4_42 rfl (fun h => absurd h (by decide)) (fun _ => ?_)
  refine xj_iload_n (i := 1) d8_4_45 rfl rfl ?_
  refine xj_bipush (v := 43) d8_4_46 (by decide) ?_
  refine xj_icmp_eq (tgt := 63) d8_4_48 rfl (fun _ => ?_) (fun h => absurd (by decide) h)
  refine xj_aload_n (i := 0) d8_4_63 rfl rfl ?_
  refine xj_iload_n (i := 1) d8_4_64 rfl rfl ?_
  refine xj_callV (rest := []) (As := [.int 43]) (b := rd) (kRepeat hg hxn hZ hT hMi hNA hSC hpl hpx hPR h18 hH hZp hpa1 hpa2) d8_4_65 wd8_11 kR (by omega) (show rd < M.1 by omega) rfl s8_11 w472 (Or.inl w470) rfl rfl (Nat.le_of_ble_eq_true rfl) (by omega) (by omega) (by omega) ?_
  rintro v M9 ⟨rfl, hX9⟩
  refine xj_goto (tgt := 160) d8_4_68 rfl ?_
  have hp9 : pOneC fp pl 43 (a, 0, A, t :: r) = pRepeat fp pl 43 (a, 0, A, t :: r) := by
    unfold pOneC
    rw [if_neg (by decide), if_neg (by decide), if_neg (by decide), if_pos (by decide)]
  exact xj_ret d8_4_160 (by omega) (by omega) rfl ⟨rfl, by rw [hp9]; exact hX9⟩
set_option maxRecDepth 20000 in
set_option maxHeartbeats 1000000 in
theorem kFrom63 {G : xG} (hg : xGood G) (hxn : xn = 16) (hZ : va_Z "java/util/ArrayList" "DEFAULTCAPACITY_EMPTY_ELEMENTDATA" "[Ljava/lang/Object;" (.ref (xa G 1)) (fun q => (xs G).heap.size ≤ q) (xs G) (xs G).heap) (hT : va_T (.object "java/lang/Object") (xa G 1) 0 (fun _ => .null) (fun q => (xs G).heap.size ≤ q) (xs G) (xs G).heap) (hMi : xHM G) (hNA : xNA G) (hSC : xSC G) {px fp : Nat → Int32} {rd : Nat} {M0 M : xM} {pl ga : Nat} {fg : Nat → Option Nat} {ow rk ad gA bA : Nat → Nat} {μ : Nat → xMu} {a : Nat} {A : List xNode} {t : List Nat × List Nat} {r : List (List Nat × List Nat)} (hpl : pl ≤ 24) (hpx : ∀ j, j < pl → px j = fp j) (hPR : ∀ j, j < pl → ∃ u1, u1 < 95 ∧ fp j = nI (u1 + 32)) (h18 : M0.2 18 = (.inl (1, 24, .inl px))) {lo : Nat → Nat} {a0 : Nat} (hH : cH rd M0 pl ga fg ow rk ad gA bA μ M (a, 0, A, t :: r)) (hZp : pZ lo (a0, 0, A, t :: r)) (hpa1 : a0 + 1 ≤ a) (hpa2 : a ≤ pl) : XC G Y8_4 none 11 11 127 [.ref rd, .int 63] M (fun v M' => v = none ∧ cX rd M0 pl M' (pOneC fp pl 63 (a, 0, A, t :: r))) := by
  obtain ⟨_, _, bl, p, nd, ⟨rfl, rfl, efg⟩, ⟨b1, b2, b3, b4, b5, b6, b7, b8⟩, ⟨kR, kgs, kgo, kbo⟩, ⟨klp, klb⟩, ⟨og1, og2, og3, og4⟩, ⟨c1, c2, c3, c4, c5, c6, c7, c8, c9, c10, c11, c12⟩, cfr, ⟨n1, n2, n3, n4, n5, n6, n7, n8, n9, n10, n11, n12, n13, n14⟩, oR, ogs⟩ := cH_top hH hxn
  replace kR : M.2 rd = (.inr (4, [.ref (gA 0), .int 0, .ref 18, .int (nI pl), .int (nI a), .ref ga, .int (nI r.length)])) := kR
  have k18 : M.2 18 = (.inl (1, 24, .inl px)) := (cfr 18 (by omega)).trans h18
  obtain ⟨⟨z1, z2, z3⟩, y1, y2⟩ := pZ_Y hZp
  refine xc_of hg (by decide) (Nat.le_of_ble_eq_true rfl) (Or.inr (Or.inr (Or.inr (Or.inr (Or.inl ⟨rfl, rfl, fun v M' h => h.1⟩))))) ?_
  refine xj_iload_n (i := 1) d8_4_0 rfl rfl ?_
  refine xj_bipush (v := 40) d8_4_1 (by decide) ?_
  refine xj_icmp_ne (tgt := 13) d8_4_3 rfl (fun _ => ?_) (fun h => absurd h (by decide))
  refine xj_iload_n (i := 1) d8_4_13 rfl rfl ?_
  refine xj_bipush (v := 41) d8_4_14 (by decide) ?_
  refine xj_icmp_ne (tgt := 26) d8_4_16 rfl (fun _ => ?_) (fun h => absurd h (by decide))
  refine xj_iload_n (i := 1) d8_4_26 rfl rfl ?_
  refine xj_bipush (v := 124) d8_4_27 (by decide) ?_
  refine xj_icmp_ne (tgt := 39) d8_4_29 rfl (fun _ => ?_) (fun h => absurd h (by decide))
  refine xj_iload_n (i := 1) d8_4_39 rfl rfl ?_
  refine xj_bipush (v := 42) d8_4_40 (by decide) ?_
  refine xj_icmp_eq (tgt := 63) d8_4_42 rfl (fun h => absurd h (by decide)) (fun _ => ?_)
  refine xj_iload_n (i := 1) d8_4_45 rfl rfl ?_
  refine xj_bipush (v := 43) d8_4_46 (by decide) ?_
  refine xj_icmp_eq (tgt := 63) d8_4_48 rfl (fun h => absurd h (by decide)) (fun _ => ?_)
  refine xj_iload_n (i := 1) d8_4_51 rfl rfl ?_
  refine xj_bipush (v := 63) d8_4_52 (by decide) ?_
  refine xj_icmp_eq (tgt := 63) d8_4_54 rfl (fun _ => ?_) (fun h => absurd (by decide) h)
  refine xj_aload_n (i := 0) d8_4_63 rfl rfl ?_
  refine xj_iload_n (i := 1) d8_4_64 rfl rfl ?_
  refine xj_callV (rest := []) (As := [.int 63]) (b := rd) (kRepeat hg hxn hZ hT hMi hNA hSC hpl hpx hPR h18 hH hZp hpa1 hpa2) d8_4_65 wd8_11 kR (by omega) (show rd < M.1 by omega) rfl s8_11 w472 (Or.inl w470) rfl rfl (Nat.le_of_ble_eq_true rfl) (by omega) (by omega) (by omega) ?_
  rintro v M9 ⟨rfl, hX9⟩
  refine xj_goto (tgt := 160) d8_4_68 rfl ?_
  have hp9 : pOneC fp pl 63 (a, 0, A, t :: r) = pRepeat fp pl 63 (a, 0, A, t :: r) := by
    unfold pOneC
    rw [if_neg (by decide), if_neg (by decide), if_neg (by decide), if_pos (by decide)]
  exact xj_ret d8_4_160 (by omega) (by omega) rfl ⟨rfl, by rw [hp9]; exact hX9⟩
set_option maxRecDepth 20000 in
set_option maxHeartbeats 1000000 in
theorem kFrom123 {G : xG} (hg : xGood G) (hxn : xn = 16) (hZ : va_Z "java/util/ArrayList" "DEFAULTCAPACITY_EMPTY_ELEMENTDATA" "[Ljava/lang/Object;" (.ref (xa G 1)) (fun q => (xs G).heap.size ≤ q) (xs G) (xs G).heap) (hT : va_T (.object "java/lang/Object") (xa G 1) 0 (fun _ => .null) (fun q => (xs G).heap.size ≤ q) (xs G) (xs G).heap) (hMi : xHM G) (hNA : xNA G) (hSC : xSC G) {px fp : Nat → Int32} {rd : Nat} {M0 M : xM} {pl ga : Nat} {fg : Nat → Option Nat} {ow rk ad gA bA : Nat → Nat} {μ : Nat → xMu} {a : Nat} {A : List xNode} {t : List Nat × List Nat} {r : List (List Nat × List Nat)} (hpl : pl ≤ 24) (hpx : ∀ j, j < pl → px j = fp j) (hPR : ∀ j, j < pl → ∃ u1, u1 < 95 ∧ fp j = nI (u1 + 32)) (h18 : M0.2 18 = (.inl (1, 24, .inl px))) {lo : Nat → Nat} {a0 : Nat} (hH : cH rd M0 pl ga fg ow rk ad gA bA μ M (a, 0, A, t :: r)) (hZp : pZ lo (a0, 0, A, t :: r)) (hpa1 : a0 + 1 ≤ a) (hpa2 : a ≤ pl) : XC G Y8_4 none 11 11 127 [.ref rd, .int 123] M (fun v M' => v = none ∧ cX rd M0 pl M' (pOneC fp pl 123 (a, 0, A, t :: r))) := by
  obtain ⟨_, _, bl, p, nd, ⟨rfl, rfl, efg⟩, ⟨b1, b2, b3, b4, b5, b6, b7, b8⟩, ⟨kR, kgs, kgo, kbo⟩, ⟨klp, klb⟩, ⟨og1, og2, og3, og4⟩, ⟨c1, c2, c3, c4, c5, c6, c7, c8, c9, c10, c11, c12⟩, cfr, ⟨n1, n2, n3, n4, n5, n6, n7, n8, n9, n10, n11, n12, n13, n14⟩, oR, ogs⟩ := cH_top hH hxn
  replace kR : M.2 rd = (.inr (4, [.ref (gA 0), .int 0, .ref 18, .int (nI pl), .int (nI a), .ref ga, .int (nI r.length)])) := kR
  have k18 : M.2 18 = (.inl (1, 24, .inl px)) := (cfr 18 (by omega)).trans h18
  obtain ⟨⟨z1, z2, z3⟩, y1, y2⟩ := pZ_Y hZp
  refine xc_of hg (by decide) (Nat.le_of_ble_eq_true rfl) (Or.inr (Or.inr (Or.inr (Or.inr (Or.inl ⟨rfl, rfl, fun v M' h => h.1⟩))))) ?_
  refine xj_iload_n (i := 1) d8_4_0 rfl rfl ?_
  refine xj_bipush (v := 40) d8_4_1 (by decide) ?_
  refine xj_icmp_ne (tgt := 13) d8_4_3 rfl (fun _ => ?_) (fun h => absurd h (by decide))
  refine xj_iload_n (i := 1) d8_4_13 rfl rfl ?_
  refine xj_bipush (v := 41) d8_4_14 (by decide) ?_
  refine xj_icmp_ne (tgt := 26) d8_4_16 rfl (fun _ => ?_) (fun h => absurd h (by decide))
  refine xj_iload_n (i := 1) d8_4_26 rfl rfl ?_
  refine xj_bipush (v := 124) d8_4_27 (by decide) ?_
  refine xj_icmp_ne (tgt := 39) d8_4_29 rfl (fun _ => ?_) (fun h => absurd h (by decide))
  refine xj_iload_n (i := 1) d8_4_39 rfl rfl ?_
  refine xj_bipush (v := 42) d8_4_40 (by decide) ?_
  refine xj_icmp_eq (tgt := 63) d8_4_42 rfl (fun h => absurd h (by decide)) (fun _ => ?_)
  refine xj_iload_n (i := 1) d8_4_45 rfl rfl ?_
  refine xj_bipush (v := 43) d8_4_46 (by decide) ?_
  refine xj_icmp_eq (tgt := 63) d8_4_48 rfl (fun h => absurd h (by decide)) (fun _ => ?_)
  refine xj_iload_n (i := 1) d8_4_51 rfl rfl ?_
  refine xj_bipush (v := 63) d8_4_52 (by decide) ?_
  refine xj_icmp_eq (tgt := 63) d8_4_54 rfl (fun h => absurd h (by decide)) (fun _ => ?_)
  refine xj_iload_n (i := 1) d8_4_57 rfl rfl ?_
  refine xj_bipush (v := 123) d8_4_58 (by decide) ?_
  refine xj_icmp_ne (tgt := 71) d8_4_60 rfl (fun h => absurd (by decide) h) (fun _ => ?_)
  refine xj_aload_n (i := 0) d8_4_63 rfl rfl ?_
  refine xj_iload_n (i := 1) d8_4_64 rfl rfl ?_
  refine xj_callV (rest := []) (As := [.int 123]) (b := rd) (kRepeat hg hxn hZ hT hMi hNA hSC hpl hpx hPR h18 hH hZp hpa1 hpa2) d8_4_65 wd8_11 kR (by omega) (show rd < M.1 by omega) rfl s8_11 w472 (Or.inl w470) rfl rfl (Nat.le_of_ble_eq_true rfl) (by omega) (by omega) (by omega) ?_
  rintro v M9 ⟨rfl, hX9⟩
  refine xj_goto (tgt := 160) d8_4_68 rfl ?_
  have hp9 : pOneC fp pl 123 (a, 0, A, t :: r) = pRepeat fp pl 123 (a, 0, A, t :: r) := by
    unfold pOneC
    rw [if_neg (by decide), if_neg (by decide), if_neg (by decide), if_pos (by decide)]
  exact xj_ret d8_4_160 (by omega) (by omega) rfl ⟨rfl, by rw [hp9]; exact hX9⟩
set_option maxRecDepth 20000 in
set_option maxHeartbeats 1000000 in
theorem kFrom92 {G : xG} (hg : xGood G) (hxn : xn = 16) (hZ : va_Z "java/util/ArrayList" "DEFAULTCAPACITY_EMPTY_ELEMENTDATA" "[Ljava/lang/Object;" (.ref (xa G 1)) (fun q => (xs G).heap.size ≤ q) (xs G) (xs G).heap) (hT : va_T (.object "java/lang/Object") (xa G 1) 0 (fun _ => .null) (fun q => (xs G).heap.size ≤ q) (xs G) (xs G).heap) (hMi : xHM G) (hNA : xNA G) (hSC : xSC G) {px fp : Nat → Int32} {rd : Nat} {M0 M : xM} {pl ga : Nat} {fg : Nat → Option Nat} {ow rk ad gA bA : Nat → Nat} {μ : Nat → xMu} {a : Nat} {A : List xNode} {t : List Nat × List Nat} {r : List (List Nat × List Nat)} (hpl : pl ≤ 24) (hpx : ∀ j, j < pl → px j = fp j) (hPR : ∀ j, j < pl → ∃ u1, u1 < 95 ∧ fp j = nI (u1 + 32)) (h18 : M0.2 18 = (.inl (1, 24, .inl px))) {lo : Nat → Nat} {a0 : Nat} (hH : cH rd M0 pl ga fg ow rk ad gA bA μ M (a, 0, A, t :: r)) (hZp : pZ lo (a0, 0, A, t :: r)) (hpa1 : a0 + 1 ≤ a) (hpa2 : a ≤ pl) : XC G Y8_4 none 11 11 127 [.ref rd, .int 92] M (fun v M' => v = none ∧ cX rd M0 pl M' (pOneC fp pl 92 (a, 0, A, t :: r))) := by
  obtain ⟨_, _, bl, p, nd, ⟨rfl, rfl, efg⟩, ⟨b1, b2, b3, b4, b5, b6, b7, b8⟩, ⟨kR, kgs, kgo, kbo⟩, ⟨klp, klb⟩, ⟨og1, og2, og3, og4⟩, ⟨c1, c2, c3, c4, c5, c6, c7, c8, c9, c10, c11, c12⟩, cfr, ⟨n1, n2, n3, n4, n5, n6, n7, n8, n9, n10, n11, n12, n13, n14⟩, oR, ogs⟩ := cH_top hH hxn
  replace kR : M.2 rd = (.inr (4, [.ref (gA 0), .int 0, .ref 18, .int (nI pl), .int (nI a), .ref ga, .int (nI r.length)])) := kR
  have k18 : M.2 18 = (.inl (1, 24, .inl px)) := (cfr 18 (by omega)).trans h18
  obtain ⟨⟨z1, z2, z3⟩, y1, y2⟩ := pZ_Y hZp
  refine xc_of hg (by decide) (Nat.le_of_ble_eq_true rfl) (Or.inr (Or.inr (Or.inr (Or.inr (Or.inl ⟨rfl, rfl, fun v M' h => h.1⟩))))) ?_
  refine xj_iload_n (i := 1) d8_4_0 rfl rfl ?_
  refine xj_bipush (v := 40) d8_4_1 (by decide) ?_
  refine xj_icmp_ne (tgt := 13) d8_4_3 rfl (fun _ => ?_) (fun h => absurd h (by decide))
  refine xj_iload_n (i := 1) d8_4_13 rfl rfl ?_
  refine xj_bipush (v := 41) d8_4_14 (by decide) ?_
  refine xj_icmp_ne (tgt := 26) d8_4_16 rfl (fun _ => ?_) (fun h => absurd h (by decide))
  refine xj_iload_n (i := 1) d8_4_26 rfl rfl ?_
  refine xj_bipush (v := 124) d8_4_27 (by decide) ?_
  refine xj_icmp_ne (tgt := 39) d8_4_29 rfl (fun _ => ?_) (fun h => absurd h (by decide))
  refine xj_iload_n (i := 1) d8_4_39 rfl rfl ?_
  refine xj_bipush (v := 42) d8_4_40 (by decide) ?_
  refine xj_icmp_eq (tgt := 63) d8_4_42 rfl (fun h => absurd h (by decide)) (fun _ => ?_)
  refine xj_iload_n (i := 1) d8_4_45 rfl rfl ?_
  refine xj_bipush (v := 43) d8_4_46 (by decide) ?_
  refine xj_icmp_eq (tgt := 63) d8_4_48 rfl (fun h => absurd h (by decide)) (fun _ => ?_)
  refine xj_iload_n (i := 1) d8_4_51 rfl rfl ?_
  refine xj_bipush (v := 63) d8_4_52 (by decide) ?_
  refine xj_icmp_eq (tgt := 63) d8_4_54 rfl (fun h => absurd h (by decide)) (fun _ => ?_)
  refine xj_iload_n (i := 1) d8_4_57 rfl rfl ?_
  refine xj_bipush (v := 123) d8_4_58 (by decide) ?_
  refine xj_icmp_ne (tgt := 71) d8_4_60 rfl (fun _ => ?_) (fun h => absurd h (by decide))
  refine xj_iload_n (i := 1) d8_4_71 rfl rfl ?_
  refine xj_bipush (v := 92) d8_4_72 (by decide) ?_
  refine xj_icmp_ne (tgt := 84) d8_4_74 rfl (fun h => absurd (by decide) h) (fun _ => ?_)
  refine xj_aload_n (i := 0) d8_4_77 rfl rfl ?_
  refine xj_callV (rest := []) (As := []) (b := rd) (kEsc hg hxn hZ hT hMi hNA hSC hpl hpx hPR h18 hH hZp hpa1 hpa2) d8_4_78 wd8_14 kR (by omega) (show rd < M.1 by omega) rfl s8_14 w536 (Or.inl w534) rfl rfl (Nat.le_of_ble_eq_true rfl) (by omega) (by omega) (by omega) ?_
  rintro v M9 ⟨rfl, hX9⟩
  refine xj_goto (tgt := 160) d8_4_81 rfl ?_
  have hp9 : pOneC fp pl 92 (a, 0, A, t :: r) = @ite _ (pSpe (pch fp pl a)) (Classical.propDecidable _) (pSetOf (pAt (a, 0, A, t :: r) 1) (pch fp pl a) (pch fp pl a)) (pFau (a, 0, A, t :: r) 7) := by
    unfold pOneC
    rw [if_neg (by decide), if_neg (by decide), if_neg (by decide), if_neg (by decide)]
    unfold pSimple
    rw [if_pos rfl]
  exact xj_ret d8_4_160 (by omega) (by omega) rfl ⟨rfl, by rw [hp9]; exact hX9⟩
set_option maxRecDepth 20000 in
set_option maxHeartbeats 1000000 in
theorem kFrom94 {G : xG} (hg : xGood G) (hxn : xn = 16) (hZ : va_Z "java/util/ArrayList" "DEFAULTCAPACITY_EMPTY_ELEMENTDATA" "[Ljava/lang/Object;" (.ref (xa G 1)) (fun q => (xs G).heap.size ≤ q) (xs G) (xs G).heap) (hT : va_T (.object "java/lang/Object") (xa G 1) 0 (fun _ => .null) (fun q => (xs G).heap.size ≤ q) (xs G) (xs G).heap) (hMi : xHM G) (hNA : xNA G) (hSC : xSC G) {px fp : Nat → Int32} {rd : Nat} {M0 M : xM} {pl ga : Nat} {fg : Nat → Option Nat} {ow rk ad gA bA : Nat → Nat} {μ : Nat → xMu} {a : Nat} {A : List xNode} {t : List Nat × List Nat} {r : List (List Nat × List Nat)} (hpl : pl ≤ 24) (hpx : ∀ j, j < pl → px j = fp j) (hPR : ∀ j, j < pl → ∃ u1, u1 < 95 ∧ fp j = nI (u1 + 32)) (h18 : M0.2 18 = (.inl (1, 24, .inl px))) {lo : Nat → Nat} {a0 : Nat} (hH : cH rd M0 pl ga fg ow rk ad gA bA μ M (a, 0, A, t :: r)) (hZp : pZ lo (a0, 0, A, t :: r)) (hpa1 : a0 + 1 ≤ a) (hpa2 : a ≤ pl) : XC G Y8_4 none 11 11 127 [.ref rd, .int 94] M (fun v M' => v = none ∧ cX rd M0 pl M' (pOneC fp pl 94 (a, 0, A, t :: r))) := by
  obtain ⟨_, _, bl, p, nd, ⟨rfl, rfl, efg⟩, ⟨b1, b2, b3, b4, b5, b6, b7, b8⟩, ⟨kR, kgs, kgo, kbo⟩, ⟨klp, klb⟩, ⟨og1, og2, og3, og4⟩, ⟨c1, c2, c3, c4, c5, c6, c7, c8, c9, c10, c11, c12⟩, cfr, ⟨n1, n2, n3, n4, n5, n6, n7, n8, n9, n10, n11, n12, n13, n14⟩, oR, ogs⟩ := cH_top hH hxn
  replace kR : M.2 rd = (.inr (4, [.ref (gA 0), .int 0, .ref 18, .int (nI pl), .int (nI a), .ref ga, .int (nI r.length)])) := kR
  have k18 : M.2 18 = (.inl (1, 24, .inl px)) := (cfr 18 (by omega)).trans h18
  obtain ⟨⟨z1, z2, z3⟩, y1, y2⟩ := pZ_Y hZp
  refine xc_of hg (by decide) (Nat.le_of_ble_eq_true rfl) (Or.inr (Or.inr (Or.inr (Or.inr (Or.inl ⟨rfl, rfl, fun v M' h => h.1⟩))))) ?_
  refine xj_iload_n (i := 1) d8_4_0 rfl rfl ?_
  refine xj_bipush (v := 40) d8_4_1 (by decide) ?_
  refine xj_icmp_ne (tgt := 13) d8_4_3 rfl (fun _ => ?_) (fun h => absurd h (by decide))
  refine xj_iload_n (i := 1) d8_4_13 rfl rfl ?_
  refine xj_bipush (v := 41) d8_4_14 (by decide) ?_
  refine xj_icmp_ne (tgt := 26) d8_4_16 rfl (fun _ => ?_) (fun h => absurd h (by decide))
  refine xj_iload_n (i := 1) d8_4_26 rfl rfl ?_
  refine xj_bipush (v := 124) d8_4_27 (by decide) ?_
  refine xj_icmp_ne (tgt := 39) d8_4_29 rfl (fun _ => ?_) (fun h => absurd h (by decide))
  refine xj_iload_n (i := 1) d8_4_39 rfl rfl ?_
  refine xj_bipush (v := 42) d8_4_40 (by decide) ?_
  refine xj_icmp_eq (tgt := 63) d8_4_42 rfl (fun h => absurd h (by decide)) (fun _ => ?_)
  refine xj_iload_n (i := 1) d8_4_45 rfl rfl ?_
  refine xj_bipush (v := 43) d8_4_46 (by decide) ?_
  refine xj_icmp_eq (tgt := 63) d8_4_48 rfl (fun h => absurd h (by decide)) (fun _ => ?_)
  refine xj_iload_n (i := 1) d8_4_51 rfl rfl ?_
  refine xj_bipush (v := 63) d8_4_52 (by decide) ?_
  refine xj_icmp_eq (tgt := 63) d8_4_54 rfl (fun h => absurd h (by decide)) (fun _ => ?_)
  refine xj_iload_n (i := 1) d8_4_57 rfl rfl ?_
  refine xj_bipush (v := 123) d8_4_58 (by decide) ?_
  refine xj_icmp_ne (tgt := 71) d8_4_60 rfl (fun _ => ?_) (fun h => absurd h (by decide))
  refine xj_iload_n (i := 1) d8_4_71 rfl rfl ?_
  refine xj_bipush (v := 92) d8_4_72 (by decide) ?_
  refine xj_icmp_ne (tgt := 84) d8_4_74 rfl (fun _ => ?_) (fun h => absurd h (by decide))
  refine xj_iload_n (i := 1) d8_4_84 rfl rfl ?_
  refine xj_bipush (v := 94) d8_4_85 (by decide) ?_
  refine xj_icmp_eq (tgt := 96) d8_4_87 rfl (fun _ => ?_) (fun h => absurd (by decide) h)
  refine xj_aload_n (i := 0) d8_4_96 rfl rfl ?_
  refine xj_callV (rest := []) (As := []) (b := rd) (bBr hg (M := M) (n := M.1) (rd := rd) (gw := gA 0) (ft := 0) (pl := pl) (a := a) (ga := ga) (og := r.length) (fg := fg) (g := gA r.length) (bl := bl) (b := bA r.length) (gv := .null) rfl (by omega) (by omega) (by omega) kR (by omega) (by omega) kgs (by omega) (by omega) kgo (by omega) efg) d8_4_97 wd8_5 kR (by omega) (show rd < M.1 by omega) rfl s8_5 w450 (Or.inl w448) rfl rfl (Nat.le_of_ble_eq_true rfl) (by omega) (by omega) (by omega) ?_
  rintro v M' ⟨rfl, hm⟩
  subst M'
  refine xj_new (na := M.1) d8_4_100 n8_82 rfl (by omega) (by omega) ?_
  refine xj_abs_push rfl (fun M1 hs1 ha1 ho1 => ?_)
  refine xj_dup d8_4_103 rfl ?_
  refine xj_iload_n (i := 1) d8_4_104 rfl rfl ?_
  refine xj_bipush (v := 94) d8_4_105 (by decide) ?_
  refine xj_icmp_ne (tgt := 114) d8_4_107 rfl (fun h => absurd (by decide) h) (fun _ => ?_)
  refine xj_iconst (v := 1) d8_4_110 (by decide) ?_
  refine xj_goto (tgt := 115) d8_4_111 rfl ?_
  refine xj_callI (rest := [.ref M.1, .ref (bA r.length)]) (As := [.int 1]) (b := M.1) (cAn1 hg (M := M1) (n := M.1 + 1) (a := M.1) (show M1.1 = M.1 + 1 by omega) (by omega) (by omega) (by omega) ha1) d8_4_115 wd2_1 rfl w650 (Or.inl w649) rfl rfl (Nat.le_of_ble_eq_true rfl) (by omega) (by omega) (by omega) ?_
  rintro v M2 ⟨rfl, hs2, ho2, hf2_0⟩
  replace hs2 : M2.1 = M.1 + 1 := hs2
  replace hf2_0 : M2.2 M.1 = (.inr (11, [.int 1, .long 0, .null])) := hf2_0
  have hH3 := cH_grow (ow' := owN ow M.1 1 1 M.1) (rk' := rkN rk M.1 [(3 * A.length + 100)]) hH (show M.1 ≤ M2.1 by omega) (fun y hy => owN_o hy) (fun y hy => rkN_o hy) (fun y hy => ((ho2 y (by omega) (by omega)).trans (ho1 y (by omega))))
  have hX3 : cN M2 (owN ow M.1 1 1 M.1) (rkN rk M.1 [(3 * A.length + 100)]) ad (3 * A.length + 100) M.1 lk0 (0, 0, 0, fun _ => 0) (2, 1, [], 0, 0, pNo) := cN_anc (by omega) (by omega) (owN_s (by omega) (by omega)) (rkN_n 0) (by decide) hf2_0 (by decide) rfl
  refine xj_callV (rest := []) (As := [.ref M.1]) (b := bA r.length) (cAddX hg hxn hZ hT hMi hH3 (pZ_Y hZp) hX3 (by show 1 ≤ 2; decide) (by show 2 ≤ 6; decide) (fun c hc => absurd hc (by simp))) d8_4_118 wd3_3 ((ho2 (bA r.length) (by omega) (by omega)).trans ((ho1 (bA r.length) (by omega)).trans kbo)) (by omega) (show bA r.length < M2.1 by omega) rfl w462 w461 (Or.inl w460) rfl rfl (Nat.le_of_ble_eq_true rfl) (by omega) (by omega) (by omega) ?_
  rintro v M9 ⟨rfl, hE9⟩
  refine xj_goto (tgt := 160) d8_4_121 rfl ?_
  have hp9 : pOneC fp pl 94 (a, 0, A, t :: r) = pPiece (a, 0, A, t :: r) (2, 1, [], 0, 0, pNo) := by
    unfold pOneC
    rw [if_neg (by decide), if_neg (by decide), if_neg (by decide), if_neg (by decide)]
    unfold pSimple
    rw [if_neg (by decide), if_pos (by decide)]
    rfl
  have hZ2 := pZ_leaf (q := (2, 1, [], 0, 0, pNo)) (x' := 0) (a' := a) hZp (by show 2 ≤ 3; decide) (by show 1 ≤ 2; decide) rfl rfl (by omega) (by omega)
  exact xj_ret d8_4_160 (by omega) (by omega) rfl ⟨rfl, by rw [hp9]; exact ⟨fun _ => ⟨hE9, _, hZ2⟩, fun q => absurd rfl q⟩⟩
set_option maxRecDepth 20000 in
set_option maxHeartbeats 1000000 in
theorem kFrom36 {G : xG} (hg : xGood G) (hxn : xn = 16) (hZ : va_Z "java/util/ArrayList" "DEFAULTCAPACITY_EMPTY_ELEMENTDATA" "[Ljava/lang/Object;" (.ref (xa G 1)) (fun q => (xs G).heap.size ≤ q) (xs G) (xs G).heap) (hT : va_T (.object "java/lang/Object") (xa G 1) 0 (fun _ => .null) (fun q => (xs G).heap.size ≤ q) (xs G) (xs G).heap) (hMi : xHM G) (hNA : xNA G) (hSC : xSC G) {px fp : Nat → Int32} {rd : Nat} {M0 M : xM} {pl ga : Nat} {fg : Nat → Option Nat} {ow rk ad gA bA : Nat → Nat} {μ : Nat → xMu} {a : Nat} {A : List xNode} {t : List Nat × List Nat} {r : List (List Nat × List Nat)} (hpl : pl ≤ 24) (hpx : ∀ j, j < pl → px j = fp j) (hPR : ∀ j, j < pl → ∃ u1, u1 < 95 ∧ fp j = nI (u1 + 32)) (h18 : M0.2 18 = (.inl (1, 24, .inl px))) {lo : Nat → Nat} {a0 : Nat} (hH : cH rd M0 pl ga fg ow rk ad gA bA μ M (a, 0, A, t :: r)) (hZp : pZ lo (a0, 0, A, t :: r)) (hpa1 : a0 + 1 ≤ a) (hpa2 : a ≤ pl) : XC G Y8_4 none 11 11 127 [.ref rd, .int 36] M (fun v M' => v = none ∧ cX rd M0 pl M' (pOneC fp pl 36 (a, 0, A, t :: r))) := by
  obtain ⟨_, _, bl, p, nd, ⟨rfl, rfl, efg⟩, ⟨b1, b2, b3, b4, b5, b6, b7, b8⟩, ⟨kR, kgs, kgo, kbo⟩, ⟨klp, klb⟩, ⟨og1, og2, og3, og4⟩, ⟨c1, c2, c3, c4, c5, c6, c7, c8, c9, c10, c11, c12⟩, cfr, ⟨n1, n2, n3, n4, n5, n6, n7, n8, n9, n10, n11, n12, n13, n14⟩, oR, ogs⟩ := cH_top hH hxn
  replace kR : M.2 rd = (.inr (4, [.ref (gA 0), .int 0, .ref 18, .int (nI pl), .int (nI a), .ref ga, .int (nI r.length)])) := kR
  have k18 : M.2 18 = (.inl (1, 24, .inl px)) := (cfr 18 (by omega)).trans h18
  obtain ⟨⟨z1, z2, z3⟩, y1, y2⟩ := pZ_Y hZp
  refine xc_of hg (by decide) (Nat.le_of_ble_eq_true rfl) (Or.inr (Or.inr (Or.inr (Or.inr (Or.inl ⟨rfl, rfl, fun v M' h => h.1⟩))))) ?_
  refine xj_iload_n (i := 1) d8_4_0 rfl rfl ?_
  refine xj_bipush (v := 40) d8_4_1 (by decide) ?_
  refine xj_icmp_ne (tgt := 13) d8_4_3 rfl (fun _ => ?_) (fun h => absurd h (by decide))
  refine xj_iload_n (i := 1) d8_4_13 rfl rfl ?_
  refine xj_bipush (v := 41) d8_4_14 (by decide) ?_
  refine xj_icmp_ne (tgt := 26) d8_4_16 rfl (fun _ => ?_) (fun h => absurd h (by decide))
  refine xj_iload_n (i := 1) d8_4_26 rfl rfl ?_
  refine xj_bipush (v := 124) d8_4_27 (by decide) ?_
  refine xj_icmp_ne (tgt := 39) d8_4_29 rfl (fun _ => ?_) (fun h => absurd h (by decide))
  refine xj_iload_n (i := 1) d8_4_39 rfl rfl ?_
  refine xj_bipush (v := 42) d8_4_40 (by decide) ?_
  refine xj_icmp_eq (tgt := 63) d8_4_42 rfl (fun h => absurd h (by decide)) (fun _ => ?_)
  refine xj_iload_n (i := 1) d8_4_45 rfl rfl ?_
  refine xj_bipush (v := 43) d8_4_46 (by decide) ?_
  refine xj_icmp_eq (tgt := 63) d8_4_48 rfl (fun h => absurd h (by decide)) (fun _ => ?_)
  refine xj_iload_n (i := 1) d8_4_51 rfl rfl ?_
  refine xj_bipush (v := 63) d8_4_52 (by decide) ?_
  refine xj_icmp_eq (tgt := 63) d8_4_54 rfl (fun h => absurd h (by decide)) (fun _ => ?_)
  refine xj_iload_n (i := 1) d8_4_57 rfl rfl ?_
  refine xj_bipush (v := 123) d8_4_58 (by decide) ?_
  refine xj_icmp_ne (tgt := 71) d8_4_60 rfl (fun _ => ?_) (fun h => absurd h (by decide))
  refine xj_iload_n (i := 1) d8_4_71 rfl rfl ?_
  refine xj_bipush (v := 92) d8_4_72 (by decide) ?_
  refine xj_icmp_ne (tgt := 84) d8_4_74 rfl (fun _ => ?_) (fun h => absurd h (by decide))
  refine xj_iload_n (i := 1) d8_4_84 rfl rfl ?_
  refine xj_bipush (v := 94) d8_4_85 (by decide) ?_
  refine xj_icmp_eq (tgt := 96) d8_4_87 rfl (fun h => absurd h (by decide)) (fun _ => ?_)
  refine xj_iload_n (i := 1) d8_4_90 rfl rfl ?_
  refine xj_bipush (v := 36) d8_4_91 (by decide) ?_
  refine xj_icmp_ne (tgt := 124) d8_4_93 rfl (fun h => absurd (by decide) h) (fun _ => ?_)
  refine xj_aload_n (i := 0) d8_4_96 rfl rfl ?_
  refine xj_callV (rest := []) (As := []) (b := rd) (bBr hg (M := M) (n := M.1) (rd := rd) (gw := gA 0) (ft := 0) (pl := pl) (a := a) (ga := ga) (og := r.length) (fg := fg) (g := gA r.length) (bl := bl) (b := bA r.length) (gv := .null) rfl (by omega) (by omega) (by omega) kR (by omega) (by omega) kgs (by omega) (by omega) kgo (by omega) efg) d8_4_97 wd8_5 kR (by omega) (show rd < M.1 by omega) rfl s8_5 w450 (Or.inl w448) rfl rfl (Nat.le_of_ble_eq_true rfl) (by omega) (by omega) (by omega) ?_
  rintro v M' ⟨rfl, hm⟩
  subst M'
  refine xj_new (na := M.1) d8_4_100 n8_82 rfl (by omega) (by omega) ?_
  refine xj_abs_push rfl (fun M1 hs1 ha1 ho1 => ?_)
  refine xj_dup d8_4_103 rfl ?_
  refine xj_iload_n (i := 1) d8_4_104 rfl rfl ?_
  refine xj_bipush (v := 94) d8_4_105 (by decide) ?_
  refine xj_icmp_ne (tgt := 114) d8_4_107 rfl (fun _ => ?_) (fun h => absurd h (by decide))
  refine xj_iconst (v := 0) d8_4_114 (by decide) ?_
  refine xj_callI (rest := [.ref M.1, .ref (bA r.length)]) (As := [.int 0]) (b := M.1) (cAn0 hg (M := M1) (n := M.1 + 1) (a := M.1) (show M1.1 = M.1 + 1 by omega) (by omega) (by omega) (by omega) ha1) d8_4_115 wd2_1 rfl w650 (Or.inl w649) rfl rfl (Nat.le_of_ble_eq_true rfl) (by omega) (by omega) (by omega) ?_
  rintro v M2 ⟨rfl, hs2, ho2, hf2_0⟩
  replace hs2 : M2.1 = M.1 + 1 := hs2
  replace hf2_0 : M2.2 M.1 = (.inr (11, [.int 0, .long 0, .null])) := hf2_0
  have hH3 := cH_grow (ow' := owN ow M.1 1 1 M.1) (rk' := rkN rk M.1 [(3 * A.length + 100)]) hH (show M.1 ≤ M2.1 by omega) (fun y hy => owN_o hy) (fun y hy => rkN_o hy) (fun y hy => ((ho2 y (by omega) (by omega)).trans (ho1 y (by omega))))
  have hX3 : cN M2 (owN ow M.1 1 1 M.1) (rkN rk M.1 [(3 * A.length + 100)]) ad (3 * A.length + 100) M.1 lk0 (0, 0, 0, fun _ => 0) (3, 1, [], 0, 0, pNo) := cN_anc (by omega) (by omega) (owN_s (by omega) (by omega)) (rkN_n 0) (by decide) hf2_0 (by decide) rfl
  refine xj_callV (rest := []) (As := [.ref M.1]) (b := bA r.length) (cAddX hg hxn hZ hT hMi hH3 (pZ_Y hZp) hX3 (by show 1 ≤ 3; decide) (by show 3 ≤ 6; decide) (fun c hc => absurd hc (by simp))) d8_4_118 wd3_3 ((ho2 (bA r.length) (by omega) (by omega)).trans ((ho1 (bA r.length) (by omega)).trans kbo)) (by omega) (show bA r.length < M2.1 by omega) rfl w462 w461 (Or.inl w460) rfl rfl (Nat.le_of_ble_eq_true rfl) (by omega) (by omega) (by omega) ?_
  rintro v M9 ⟨rfl, hE9⟩
  refine xj_goto (tgt := 160) d8_4_121 rfl ?_
  have hp9 : pOneC fp pl 36 (a, 0, A, t :: r) = pPiece (a, 0, A, t :: r) (3, 1, [], 0, 0, pNo) := by
    unfold pOneC
    rw [if_neg (by decide), if_neg (by decide), if_neg (by decide), if_neg (by decide)]
    unfold pSimple
    rw [if_neg (by decide), if_pos (by decide)]
    rfl
  have hZ2 := pZ_leaf (q := (3, 1, [], 0, 0, pNo)) (x' := 0) (a' := a) hZp (by show 3 ≤ 3; decide) (by show 1 ≤ 3; decide) rfl rfl (by omega) (by omega)
  exact xj_ret d8_4_160 (by omega) (by omega) rfl ⟨rfl, by rw [hp9]; exact ⟨fun _ => ⟨hE9, _, hZ2⟩, fun q => absurd rfl q⟩⟩
set_option maxRecDepth 20000 in
set_option maxHeartbeats 1000000 in
theorem kFrom46 {G : xG} (hg : xGood G) (hxn : xn = 16) (hZ : va_Z "java/util/ArrayList" "DEFAULTCAPACITY_EMPTY_ELEMENTDATA" "[Ljava/lang/Object;" (.ref (xa G 1)) (fun q => (xs G).heap.size ≤ q) (xs G) (xs G).heap) (hT : va_T (.object "java/lang/Object") (xa G 1) 0 (fun _ => .null) (fun q => (xs G).heap.size ≤ q) (xs G) (xs G).heap) (hMi : xHM G) (hNA : xNA G) (hSC : xSC G) {px fp : Nat → Int32} {rd : Nat} {M0 M : xM} {pl ga : Nat} {fg : Nat → Option Nat} {ow rk ad gA bA : Nat → Nat} {μ : Nat → xMu} {a : Nat} {A : List xNode} {t : List Nat × List Nat} {r : List (List Nat × List Nat)} (hpl : pl ≤ 24) (hpx : ∀ j, j < pl → px j = fp j) (hPR : ∀ j, j < pl → ∃ u1, u1 < 95 ∧ fp j = nI (u1 + 32)) (h18 : M0.2 18 = (.inl (1, 24, .inl px))) {lo : Nat → Nat} {a0 : Nat} (hH : cH rd M0 pl ga fg ow rk ad gA bA μ M (a, 0, A, t :: r)) (hZp : pZ lo (a0, 0, A, t :: r)) (hpa1 : a0 + 1 ≤ a) (hpa2 : a ≤ pl) : XC G Y8_4 none 11 11 127 [.ref rd, .int 46] M (fun v M' => v = none ∧ cX rd M0 pl M' (pOneC fp pl 46 (a, 0, A, t :: r))) := by
  obtain ⟨_, _, bl, p, nd, ⟨rfl, rfl, efg⟩, ⟨b1, b2, b3, b4, b5, b6, b7, b8⟩, ⟨kR, kgs, kgo, kbo⟩, ⟨klp, klb⟩, ⟨og1, og2, og3, og4⟩, ⟨c1, c2, c3, c4, c5, c6, c7, c8, c9, c10, c11, c12⟩, cfr, ⟨n1, n2, n3, n4, n5, n6, n7, n8, n9, n10, n11, n12, n13, n14⟩, oR, ogs⟩ := cH_top hH hxn
  replace kR : M.2 rd = (.inr (4, [.ref (gA 0), .int 0, .ref 18, .int (nI pl), .int (nI a), .ref ga, .int (nI r.length)])) := kR
  have k18 : M.2 18 = (.inl (1, 24, .inl px)) := (cfr 18 (by omega)).trans h18
  obtain ⟨⟨z1, z2, z3⟩, y1, y2⟩ := pZ_Y hZp
  refine xc_of hg (by decide) (Nat.le_of_ble_eq_true rfl) (Or.inr (Or.inr (Or.inr (Or.inr (Or.inl ⟨rfl, rfl, fun v M' h => h.1⟩))))) ?_
  refine xj_iload_n (i := 1) d8_4_0 rfl rfl ?_
  refine xj_bipush (v := 40) d8_4_1 (by decide) ?_
  refine xj_icmp_ne (tgt := 13) d8_4_3 rfl (fun _ => ?_) (fun h => absurd h (by decide))
  refine xj_iload_n (i := 1) d8_4_13 rfl rfl ?_
  refine xj_bipush (v := 41) d8_4_14 (by decide) ?_
  refine xj_icmp_ne (tgt := 26) d8_4_16 rfl (fun _ => ?_) (fun h => absurd h (by decide))
  refine xj_iload_n (i := 1) d8_4_26 rfl rfl ?_
  refine xj_bipush (v := 124) d8_4_27 (by decide) ?_
  refine xj_icmp_ne (tgt := 39) d8_4_29 rfl (fun _ => ?_) (fun h => absurd h (by decide))
  refine xj_iload_n (i := 1) d8_4_39 rfl rfl ?_
  refine xj_bipush (v := 42) d8_4_40 (by decide) ?_
  refine xj_icmp_eq (tgt := 63) d8_4_42 rfl (fun h => absurd h (by decide)) (fun _ => ?_)
  refine xj_iload_n (i := 1) d8_4_45 rfl rfl ?_
  refine xj_bipush (v := 43) d8_4_46 (by decide) ?_
  refine xj_icmp_eq (tgt := 63) d8_4_48 rfl (fun h => absurd h (by decide)) (fun _ => ?_)
  refine xj_iload_n (i := 1) d8_4_51 rfl rfl ?_
  refine xj_bipush (v := 63) d8_4_52 (by decide) ?_
  refine xj_icmp_eq (tgt := 63) d8_4_54 rfl (fun h => absurd h (by decide)) (fun _ => ?_)
  refine xj_iload_n (i := 1) d8_4_57 rfl rfl ?_
  refine xj_bipush (v := 123) d8_4_58 (by decide) ?_
  refine xj_icmp_ne (tgt := 71) d8_4_60 rfl (fun _ => ?_) (fun h => absurd h (by decide))
  refine xj_iload_n (i := 1) d8_4_71 rfl rfl ?_
  refine xj_bipush (v := 92) d8_4_72 (by decide) ?_
  refine xj_icmp_ne (tgt := 84) d8_4_74 rfl (fun _ => ?_) (fun h => absurd h (by decide))
  refine xj_iload_n (i := 1) d8_4_84 rfl rfl ?_
  refine xj_bipush (v := 94) d8_4_85 (by decide) ?_
  refine xj_icmp_eq (tgt := 96) d8_4_87 rfl (fun h => absurd h (by decide)) (fun _ => ?_)
  refine xj_iload_n (i := 1) d8_4_90 rfl rfl ?_
  refine xj_bipush (v := 36) d8_4_91 (by decide) ?_
  refine xj_icmp_ne (tgt := 124) d8_4_93 rfl (fun _ => ?_) (fun h => absurd h (by decide))
  refine xj_iload_n (i := 1) d8_4_124 rfl rfl ?_
  refine xj_bipush (v := 46) d8_4_125 (by decide) ?_
  refine xj_icmp_ne (tgt := 141) d8_4_127 rfl (fun h => absurd (by decide) h) (fun _ => ?_)
  refine xj_aload_n (i := 0) d8_4_130 rfl rfl ?_
  refine xj_bipush (v := 32) d8_4_131 (by decide) ?_
  refine xj_bipush (v := 126) d8_4_133 (by decide) ?_
  refine xj_callV (rest := []) (As := [.int 32, .int 126]) (b := rd) (kAddSet hg hxn hZ hT hMi hNA hSC hpl hpx hPR h18 hH hZp hpa1 hpa2 (u0 := 32) (v0 := 126) (by omega) (by omega) (by omega)) d8_4_135 wd8_7 kR (by omega) (show rd < M.1 by omega) rfl s8_7 w623 (Or.inl w621) rfl rfl (Nat.le_of_ble_eq_true rfl) (by omega) (by omega) (by omega) ?_
  rintro v M9 ⟨rfl, hE9⟩
  refine xj_goto (tgt := 160) d8_4_138 rfl ?_
  have hp9 : pOneC fp pl 46 (a, 0, A, t :: r) = pSetOf (a, 0, A, t :: r) (nI 32) (nI 126) := by
    unfold pOneC
    rw [if_neg (by decide), if_neg (by decide), if_neg (by decide), if_neg (by decide)]
    unfold pSimple
    rw [if_neg (by decide), if_neg (by decide), if_neg (by decide), if_pos rfl]
    rfl
  have hZ2 := pZ_leaf (q := (1, 1, [], 0, 0, pSet (nI 32) (nI 126))) (x' := 0) (a' := a) hZp (by show 1 ≤ 3; decide) (by show 1 ≤ 1; decide) rfl rfl (by omega) (by omega)
  exact xj_ret d8_4_160 (by omega) (by omega) rfl ⟨rfl, by rw [hp9]; exact ⟨fun _ => ⟨hE9, _, hZ2⟩, fun q => absurd rfl q⟩⟩
set_option maxRecDepth 20000 in
set_option maxHeartbeats 1000000 in
theorem kFrom91 {G : xG} (hg : xGood G) (hxn : xn = 16) (hZ : va_Z "java/util/ArrayList" "DEFAULTCAPACITY_EMPTY_ELEMENTDATA" "[Ljava/lang/Object;" (.ref (xa G 1)) (fun q => (xs G).heap.size ≤ q) (xs G) (xs G).heap) (hT : va_T (.object "java/lang/Object") (xa G 1) 0 (fun _ => .null) (fun q => (xs G).heap.size ≤ q) (xs G) (xs G).heap) (hMi : xHM G) (hNA : xNA G) (hSC : xSC G) {px fp : Nat → Int32} {rd : Nat} {M0 M : xM} {pl ga : Nat} {fg : Nat → Option Nat} {ow rk ad gA bA : Nat → Nat} {μ : Nat → xMu} {a : Nat} {A : List xNode} {t : List Nat × List Nat} {r : List (List Nat × List Nat)} (hpl : pl ≤ 24) (hpx : ∀ j, j < pl → px j = fp j) (hPR : ∀ j, j < pl → ∃ u1, u1 < 95 ∧ fp j = nI (u1 + 32)) (h18 : M0.2 18 = (.inl (1, 24, .inl px))) {lo : Nat → Nat} {a0 : Nat} (hH : cH rd M0 pl ga fg ow rk ad gA bA μ M (a, 0, A, t :: r)) (hZp : pZ lo (a0, 0, A, t :: r)) (hpa1 : a0 + 1 ≤ a) (hpa2 : a ≤ pl) : XC G Y8_4 none 11 11 127 [.ref rd, .int 91] M (fun v M' => v = none ∧ cX rd M0 pl M' (pOneC fp pl 91 (a, 0, A, t :: r))) := by
  obtain ⟨_, _, bl, p, nd, ⟨rfl, rfl, efg⟩, ⟨b1, b2, b3, b4, b5, b6, b7, b8⟩, ⟨kR, kgs, kgo, kbo⟩, ⟨klp, klb⟩, ⟨og1, og2, og3, og4⟩, ⟨c1, c2, c3, c4, c5, c6, c7, c8, c9, c10, c11, c12⟩, cfr, ⟨n1, n2, n3, n4, n5, n6, n7, n8, n9, n10, n11, n12, n13, n14⟩, oR, ogs⟩ := cH_top hH hxn
  replace kR : M.2 rd = (.inr (4, [.ref (gA 0), .int 0, .ref 18, .int (nI pl), .int (nI a), .ref ga, .int (nI r.length)])) := kR
  have k18 : M.2 18 = (.inl (1, 24, .inl px)) := (cfr 18 (by omega)).trans h18
  obtain ⟨⟨z1, z2, z3⟩, y1, y2⟩ := pZ_Y hZp
  refine xc_of hg (by decide) (Nat.le_of_ble_eq_true rfl) (Or.inr (Or.inr (Or.inr (Or.inr (Or.inl ⟨rfl, rfl, fun v M' h => h.1⟩))))) ?_
  refine xj_iload_n (i := 1) d8_4_0 rfl rfl ?_
  refine xj_bipush (v := 40) d8_4_1 (by decide) ?_
  refine xj_icmp_ne (tgt := 13) d8_4_3 rfl (fun _ => ?_) (fun h => absurd h (by decide))
  refine xj_iload_n (i := 1) d8_4_13 rfl rfl ?_
  refine xj_bipush (v := 41) d8_4_14 (by decide) ?_
  refine xj_icmp_ne (tgt := 26) d8_4_16 rfl (fun _ => ?_) (fun h => absurd h (by decide))
  refine xj_iload_n (i := 1) d8_4_26 rfl rfl ?_
  refine xj_bipush (v := 124) d8_4_27 (by decide) ?_
  refine xj_icmp_ne (tgt := 39) d8_4_29 rfl (fun _ => ?_) (fun h => absurd h (by decide))
  refine xj_iload_n (i := 1) d8_4_39 rfl rfl ?_
  refine xj_bipush (v := 42) d8_4_40 (by decide) ?_
  refine xj_icmp_eq (tgt := 63) d8_4_42 rfl (fun h => absurd h (by decide)) (fun _ => ?_)
  refine xj_iload_n (i := 1) d8_4_45 rfl rfl ?_
  refine xj_bipush (v := 43) d8_4_46 (by decide) ?_
  refine xj_icmp_eq (tgt := 63) d8_4_48 rfl (fun h => absurd h (by decide)) (fun _ => ?_)
  refine xj_iload_n (i := 1) d8_4_51 rfl rfl ?_
  refine xj_bipush (v := 63) d8_4_52 (by decide) ?_
  refine xj_icmp_eq (tgt := 63) d8_4_54 rfl (fun h => absurd h (by decide)) (fun _ => ?_)
  refine xj_iload_n (i := 1) d8_4_57 rfl rfl ?_
  refine xj_bipush (v := 123) d8_4_58 (by decide) ?_
  refine xj_icmp_ne (tgt := 71) d8_4_60 rfl (fun _ => ?_) (fun h => absurd h (by decide))
  refine xj_iload_n (i := 1) d8_4_71 rfl rfl ?_
  refine xj_bipush (v := 92) d8_4_72 (by decide) ?_
  refine xj_icmp_ne (tgt := 84) d8_4_74 rfl (fun _ => ?_) (fun h => absurd h (by decide))
  refine xj_iload_n (i := 1) d8_4_84 rfl rfl ?_
  refine xj_bipush (v := 94) d8_4_85 (by decide) ?_
  refine xj_icmp_eq (tgt := 96) d8_4_87 rfl (fun h => absurd h (by decide)) (fun _ => ?_)
  refine xj_iload_n (i := 1) d8_4_90 rfl rfl ?_
  refine xj_bipush (v := 36) d8_4_91 (by decide) ?_
  refine xj_icmp_ne (tgt := 124) d8_4_93 rfl (fun _ => ?_) (fun h => absurd h (by decide))
  refine xj_iload_n (i := 1) d8_4_124 rfl rfl ?_
  refine xj_bipush (v := 46) d8_4_125 (by decide) ?_
  refine xj_icmp_ne (tgt := 141) d8_4_127 rfl (fun _ => ?_) (fun h => absurd h (by decide))
  refine xj_iload_n (i := 1) d8_4_141 rfl rfl ?_
  refine xj_bipush (v := 91) d8_4_142 (by decide) ?_
  refine xj_icmp_ne (tgt := 154) d8_4_144 rfl (fun h => absurd (by decide) h) (fun _ => ?_)
  refine xj_aload_n (i := 0) d8_4_147 rfl rfl ?_
  refine xj_callV (rest := []) (As := []) (b := rd) (kSet hg hxn hZ hT hMi hNA hSC hpl hpx hPR h18 hH hZp hpa1 hpa2) d8_4_148 wd8_15 kR (by omega) (show rd < M.1 by omega) rfl s8_15 w663 (Or.inl w661) rfl rfl (Nat.le_of_ble_eq_true rfl) (by omega) (by omega) (by omega) ?_
  rintro v M9 ⟨rfl, hX9⟩
  refine xj_goto (tgt := 160) d8_4_151 rfl ?_
  have hp9 : pOneC fp pl 91 (a, 0, A, t :: r) = pBracket fp pl (a, 0, A, t :: r) := by
    unfold pOneC
    rw [if_neg (by decide), if_neg (by decide), if_neg (by decide), if_neg (by decide)]
    unfold pSimple
    rw [if_neg (by decide), if_neg (by decide), if_pos rfl]
  exact xj_ret d8_4_160 (by omega) (by omega) rfl ⟨rfl, by rw [hp9]; exact hX9⟩
set_option maxRecDepth 20000 in
set_option maxHeartbeats 1000000 in
theorem kFromE {G : xG} (hg : xGood G) (hxn : xn = 16) (hZ : va_Z "java/util/ArrayList" "DEFAULTCAPACITY_EMPTY_ELEMENTDATA" "[Ljava/lang/Object;" (.ref (xa G 1)) (fun q => (xs G).heap.size ≤ q) (xs G) (xs G).heap) (hT : va_T (.object "java/lang/Object") (xa G 1) 0 (fun _ => .null) (fun q => (xs G).heap.size ≤ q) (xs G) (xs G).heap) (hMi : xHM G) (hNA : xNA G) (hSC : xSC G) {px fp : Nat → Int32} {rd : Nat} {M0 M : xM} {pl ga : Nat} {fg : Nat → Option Nat} {ow rk ad gA bA : Nat → Nat} {μ : Nat → xMu} {a : Nat} {A : List xNode} {t : List Nat × List Nat} {r : List (List Nat × List Nat)} (hpl : pl ≤ 24) (hpx : ∀ j, j < pl → px j = fp j) (hPR : ∀ j, j < pl → ∃ u1, u1 < 95 ∧ fp j = nI (u1 + 32)) (h18 : M0.2 18 = (.inl (1, 24, .inl px))) {lo : Nat → Nat} {a0 : Nat} (hH : cH rd M0 pl ga fg ow rk ad gA bA μ M (a, 0, A, t :: r)) (hZp : pZ lo (a0, 0, A, t :: r)) (hpa1 : a0 + 1 ≤ a) (hpa2 : a ≤ pl) {cc : Nat} (hc1 : 32 ≤ cc) (hc2 : cc ≤ 126) (hne : ∀ x ∈ ([40, 41, 124, 42, 43, 63, 123, 92, 94, 36, 46, 91] : List Int32), ¬ nI cc = x) : XC G Y8_4 none 11 11 127 [.ref rd, .int (nI cc)] M (fun v M' => v = none ∧ cX rd M0 pl M' (pOneC fp pl (nI cc) (a, 0, A, t :: r))) := by
  obtain ⟨_, _, bl, p, nd, ⟨rfl, rfl, efg⟩, ⟨b1, b2, b3, b4, b5, b6, b7, b8⟩, ⟨kR, kgs, kgo, kbo⟩, ⟨klp, klb⟩, ⟨og1, og2, og3, og4⟩, ⟨c1, c2, c3, c4, c5, c6, c7, c8, c9, c10, c11, c12⟩, cfr, ⟨n1, n2, n3, n4, n5, n6, n7, n8, n9, n10, n11, n12, n13, n14⟩, oR, ogs⟩ := cH_top hH hxn
  replace kR : M.2 rd = (.inr (4, [.ref (gA 0), .int 0, .ref 18, .int (nI pl), .int (nI a), .ref ga, .int (nI r.length)])) := kR
  have k18 : M.2 18 = (.inl (1, 24, .inl px)) := (cfr 18 (by omega)).trans h18
  obtain ⟨⟨z1, z2, z3⟩, y1, y2⟩ := pZ_Y hZp
  refine xc_of hg (by decide) (Nat.le_of_ble_eq_true rfl) (Or.inr (Or.inr (Or.inr (Or.inr (Or.inl ⟨rfl, rfl, fun v M' h => h.1⟩))))) ?_
  refine xj_iload_n (i := 1) d8_4_0 rfl rfl ?_
  refine xj_bipush (v := 40) d8_4_1 (by decide) ?_
  refine xj_icmp_ne (tgt := 13) d8_4_3 rfl (fun _ => ?_) (fun h => absurd h (hne 40 (by decide)))
  refine xj_iload_n (i := 1) d8_4_13 rfl rfl ?_
  refine xj_bipush (v := 41) d8_4_14 (by decide) ?_
  refine xj_icmp_ne (tgt := 26) d8_4_16 rfl (fun _ => ?_) (fun h => absurd h (hne 41 (by decide)))
  refine xj_iload_n (i := 1) d8_4_26 rfl rfl ?_
  refine xj_bipush (v := 124) d8_4_27 (by decide) ?_
  refine xj_icmp_ne (tgt := 39) d8_4_29 rfl (fun _ => ?_) (fun h => absurd h (hne 124 (by decide)))
  refine xj_iload_n (i := 1) d8_4_39 rfl rfl ?_
  refine xj_bipush (v := 42) d8_4_40 (by decide) ?_
  refine xj_icmp_eq (tgt := 63) d8_4_42 rfl (fun h => absurd h (hne 42 (by decide))) (fun _ => ?_)
  refine xj_iload_n (i := 1) d8_4_45 rfl rfl ?_
  refine xj_bipush (v := 43) d8_4_46 (by decide) ?_
  refine xj_icmp_eq (tgt := 63) d8_4_48 rfl (fun h => absurd h (hne 43 (by decide))) (fun _ => ?_)
  refine xj_iload_n (i := 1) d8_4_51 rfl rfl ?_
  refine xj_bipush (v := 63) d8_4_52 (by decide) ?_
  refine xj_icmp_eq (tgt := 63) d8_4_54 rfl (fun h => absurd h (hne 63 (by decide))) (fun _ => ?_)
  refine xj_iload_n (i := 1) d8_4_57 rfl rfl ?_
  refine xj_bipush (v := 123) d8_4_58 (by decide) ?_
  refine xj_icmp_ne (tgt := 71) d8_4_60 rfl (fun _ => ?_) (fun h => absurd h (hne 123 (by decide)))
  refine xj_iload_n (i := 1) d8_4_71 rfl rfl ?_
  refine xj_bipush (v := 92) d8_4_72 (by decide) ?_
  refine xj_icmp_ne (tgt := 84) d8_4_74 rfl (fun _ => ?_) (fun h => absurd h (hne 92 (by decide)))
  refine xj_iload_n (i := 1) d8_4_84 rfl rfl ?_
  refine xj_bipush (v := 94) d8_4_85 (by decide) ?_
  refine xj_icmp_eq (tgt := 96) d8_4_87 rfl (fun h => absurd h (hne 94 (by decide))) (fun _ => ?_)
  refine xj_iload_n (i := 1) d8_4_90 rfl rfl ?_
  refine xj_bipush (v := 36) d8_4_91 (by decide) ?_
  refine xj_icmp_ne (tgt := 124) d8_4_93 rfl (fun _ => ?_) (fun h => absurd h (hne 36 (by decide)))
  refine xj_iload_n (i := 1) d8_4_124 rfl rfl ?_
  refine xj_bipush (v := 46) d8_4_125 (by decide) ?_
  refine xj_icmp_ne (tgt := 141) d8_4_127 rfl (fun _ => ?_) (fun h => absurd h (hne 46 (by decide)))
  refine xj_iload_n (i := 1) d8_4_141 rfl rfl ?_
  refine xj_bipush (v := 91) d8_4_142 (by decide) ?_
  refine xj_icmp_ne (tgt := 154) d8_4_144 rfl (fun _ => ?_) (fun h => absurd h (hne 91 (by decide)))
  refine xj_aload_n (i := 0) d8_4_154 rfl rfl ?_
  refine xj_iload_n (i := 1) d8_4_155 rfl rfl ?_
  refine xj_iload_n (i := 1) d8_4_156 rfl rfl ?_
  refine xj_callV (rest := []) (As := [.int (nI cc), .int (nI cc)]) (b := rd) (kAddSet hg hxn hZ hT hMi hNA hSC hpl hpx hPR h18 hH hZp hpa1 hpa2 (u0 := cc) (v0 := cc) (by omega) (by omega) (by omega)) d8_4_157 wd8_7 kR (by omega) (show rd < M.1 by omega) rfl s8_7 w623 (Or.inl w621) rfl rfl (Nat.le_of_ble_eq_true rfl) (by omega) (by omega) (by omega) ?_
  rintro v M9 ⟨rfl, hE9⟩
  have hp9 : pOneC fp pl (nI cc) (a, 0, A, t :: r) = pSetOf (a, 0, A, t :: r) (nI cc) (nI cc) := by
    unfold pOneC
    rw [if_neg (hne 40 (by decide)), if_neg (hne 41 (by decide)), if_neg (hne 124 (by decide)), if_neg (fun q => q.elim (hne 42 (by decide)) (fun q => q.elim (hne 43 (by decide)) (fun q => q.elim (hne 63 (by decide)) (hne 123 (by decide)))))]
    unfold pSimple
    rw [if_neg (hne 92 (by decide)), if_neg (fun q => q.elim (hne 94 (by decide)) (hne 36 (by decide))), if_neg (hne 91 (by decide)), if_neg (hne 46 (by decide))]
  have hZ2 := pZ_leaf (q := (1, 1, [], 0, 0, pSet (nI cc) (nI cc))) (x' := 0) (a' := a) hZp (by show 1 ≤ 3; decide) (by show 1 ≤ 1; decide) rfl rfl (by omega) (by omega)
  exact xj_ret d8_4_160 (by omega) (by omega) rfl ⟨rfl, by rw [hp9]; exact ⟨fun _ => ⟨hE9, _, hZ2⟩, fun q => absurd rfl q⟩⟩
theorem kFrom {G : xG} (hg : xGood G) (hxn : xn = 16) (hZ : va_Z "java/util/ArrayList" "DEFAULTCAPACITY_EMPTY_ELEMENTDATA" "[Ljava/lang/Object;" (.ref (xa G 1)) (fun q => (xs G).heap.size ≤ q) (xs G) (xs G).heap) (hT : va_T (.object "java/lang/Object") (xa G 1) 0 (fun _ => .null) (fun q => (xs G).heap.size ≤ q) (xs G) (xs G).heap) (hMi : xHM G) (hNA : xNA G) (hSC : xSC G) {px fp : Nat → Int32} {rd : Nat} {M0 M : xM} {pl ga : Nat} {fg : Nat → Option Nat} {ow rk ad gA bA : Nat → Nat} {μ : Nat → xMu} {a : Nat} {A : List xNode} {t : List Nat × List Nat} {r : List (List Nat × List Nat)} (hpl : pl ≤ 24) (hpx : ∀ j, j < pl → px j = fp j) (hPR : ∀ j, j < pl → ∃ u1, u1 < 95 ∧ fp j = nI (u1 + 32)) (h18 : M0.2 18 = (.inl (1, 24, .inl px))) {lo : Nat → Nat} {a0 : Nat} (hH : cH rd M0 pl ga fg ow rk ad gA bA μ M (a, 0, A, t :: r)) (hZp : pZ lo (a0, 0, A, t :: r)) (hpa1 : a0 + 1 ≤ a) (hpa2 : a ≤ pl) {cc : Nat} (hc1 : 32 ≤ cc) (hc2 : cc ≤ 126) : XC G Y8_4 none 11 11 127 [.ref rd, .int (nI cc)] M (fun v M' => v = none ∧ cX rd M0 pl M' (pOneC fp pl (nI cc) (a, 0, A, t :: r))) := by
  by_cases h40 : nI cc = 40
  · rw [h40]
    exact kFrom40 hg hxn hZ hT hMi hNA hSC hpl hpx hPR h18 hH hZp hpa1 hpa2
  by_cases h41 : nI cc = 41
  · rw [h41]
    exact kFrom41 hg hxn hZ hT hMi hNA hSC hpl hpx hPR h18 hH hZp hpa1 hpa2
  by_cases h124 : nI cc = 124
  · rw [h124]
    exact kFrom124 hg hxn hZ hT hMi hNA hSC hpl hpx hPR h18 hH hZp hpa1 hpa2
  by_cases h42 : nI cc = 42
  · rw [h42]
    exact kFrom42 hg hxn hZ hT hMi hNA hSC hpl hpx hPR h18 hH hZp hpa1 hpa2
  by_cases h43 : nI cc = 43
  · rw [h43]
    exact kFrom43 hg hxn hZ hT hMi hNA hSC hpl hpx hPR h18 hH hZp hpa1 hpa2
  by_cases h63 : nI cc = 63
  · rw [h63]
    exact kFrom63 hg hxn hZ hT hMi hNA hSC hpl hpx hPR h18 hH hZp hpa1 hpa2
  by_cases h123 : nI cc = 123
  · rw [h123]
    exact kFrom123 hg hxn hZ hT hMi hNA hSC hpl hpx hPR h18 hH hZp hpa1 hpa2
  by_cases h92 : nI cc = 92
  · rw [h92]
    exact kFrom92 hg hxn hZ hT hMi hNA hSC hpl hpx hPR h18 hH hZp hpa1 hpa2
  by_cases h94 : nI cc = 94
  · rw [h94]
    exact kFrom94 hg hxn hZ hT hMi hNA hSC hpl hpx hPR h18 hH hZp hpa1 hpa2
  by_cases h36 : nI cc = 36
  · rw [h36]
    exact kFrom36 hg hxn hZ hT hMi hNA hSC hpl hpx hPR h18 hH hZp hpa1 hpa2
  by_cases h46 : nI cc = 46
  · rw [h46]
    exact kFrom46 hg hxn hZ hT hMi hNA hSC hpl hpx hPR h18 hH hZp hpa1 hpa2
  by_cases h91 : nI cc = 91
  · rw [h91]
    exact kFrom91 hg hxn hZ hT hMi hNA hSC hpl hpx hPR h18 hH hZp hpa1 hpa2
  refine kFromE hg hxn hZ hT hMi hNA hSC hpl hpx hPR h18 hH hZp hpa1 hpa2 hc1 hc2 (fun x hx => ?_)
  simp only [List.mem_cons, List.not_mem_nil, or_false] at hx
  rcases hx with q | q | q | q | q | q | q | q | q | q | q | q
  · rw [q]
    exact h40
  · rw [q]
    exact h41
  · rw [q]
    exact h124
  · rw [q]
    exact h42
  · rw [q]
    exact h43
  · rw [q]
    exact h63
  · rw [q]
    exact h123
  · rw [q]
    exact h92
  · rw [q]
    exact h94
  · rw [q]
    exact h36
  · rw [q]
    exact h46
  · rw [q]
    exact h91

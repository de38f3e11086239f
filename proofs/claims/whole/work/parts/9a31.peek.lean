set_option maxRecDepth 20000 in
theorem xPeek {G : xG} (hg : xGood G) {M : xM} {n : Nat} (hn : M.1 = n) (hx : xn ≤ n) {rd : Nat} {gw : Nat} {ft : Int32} {pl : Nat} {a : Nat} {ga : Nat} {og : Nat} {px : Nat → Int32} {k : Nat} (h1_rd : xn ≤ rd) (h2_rd : rd < n) (h_rd : M.2 rd = (.inr (4, [.ref gw, .int ft, .ref 18, .int (nI pl), .int (nI a), .ref ga, .int (nI og)]))) (h1_18 : xn ≤ 18) (h2_18 : 18 < n) (h_18 : M.2 18 = (.inl (1, 24, .inl px))) (hk : k < 1000) (hpl : pl ≤ 24) (hpc : ∀ j, narrow .char (.int (pch px pl j)) = .int (pch px pl j)) : XC G Y8_6 (some .char) 0 0 0 [.ref rd, .int (nI k)] M (fun v M' => v = some (.int (pch px pl k)) ∧ M' = M) := by
  refine xc_of hg (by decide) (Nat.le_of_ble_eq_true rfl) (Or.inr (Or.inr (Or.inl ⟨rfl, rfl, fun v M' h => ⟨_, h.1, hpc k⟩⟩))) ?_
  refine xj_iload_n (i := 1) d8_6_0 rfl rfl ?_
  refine xj_aload_n (i := 0) d8_6_1 rfl rfl ?_
  refine xj_get d8_6_2 f8_26_4 h_rd (by omega) (show rd < M.1 by omega) rfl ?_
  refine xj_icmp_ge (tgt := 17) d8_6_5 rfl (fun hb => ?_) (fun hb => ?_)
  · refine xj_iconst (v := 0) d8_6_17 (by decide) ?_
    exact xj_ret d8_6_18 (by omega) (by omega) rfl ⟨(by rw [show pch px pl k = 0 from if_neg (fun q => absurd hb (nI_ge q (by omega)))]), rfl⟩
  · have hb2 : k < pl := Classical.byContradiction fun q => hb (nI_le (by omega) (by omega))
    refine xj_aload_n (i := 0) d8_6_8 rfl rfl ?_
    refine xj_get d8_6_9 f8_22_4 h_rd (by omega) (show rd < M.1 by omega) rfl ?_
    refine xj_iload_n (i := 1) d8_6_12 rfl rfl ?_
    refine xj_caload (j := k) d8_6_13 h_18 (by omega) (show 18 < M.1 by omega) (vp_in_nI (by omega) (by omega)) (nI_clamp (by omega)) ?_
    refine xj_goto (tgt := 18) d8_6_14 rfl ?_
    exact xj_ret d8_6_18 (by omega) (by omega) rfl ⟨(by rw [show pch px pl k = px k from if_pos hb2]), rfl⟩
/-- what digit answers -/
noncomputable def pDgv (c : Int32) : Int32 := @ite _ (pDig c) (Classical.propDecidable _) (c - 48) (-1)
theorem xpch_n {px : Nat → Int32} {pl : Nat} (h : ∀ j, j < pl → ∃ u1, u1 < 95 ∧ px j = nI (u1 + 32)) (j : Nat) : narrow .char (.int (pch px pl j)) = .int (pch px pl j) := by
  by_cases q : j < pl
  · obtain ⟨u, hu, he⟩ := h j q
    rw [show pch px pl j = nI (u + 32) from (if_pos q).trans he]
    exact (pk_charN (by omega)).1
  · rw [show pch px pl j = nI 0 from if_neg q]
    exact (pk_charN (by omega)).1
theorem pch_eq {fp px : Nat → Int32} {pl : Nat} (h : ∀ j, j < pl → px j = fp j) (k : Nat) : pch px pl k = pch fp pl k := by
  by_cases q : k < pl
  · rw [show pch px pl k = px k from if_pos q, show pch fp pl k = fp k from if_pos q]
    exact h k q
  · rw [show pch px pl k = 0 from if_neg q, show pch fp pl k = 0 from if_neg q]
set_option maxRecDepth 20000 in
theorem xDigit {G : xG} (hg : xGood G) {M : xM} {n : Nat} (hn : M.1 = n) (hx : xn ≤ n) {rd : Nat} {gw : Nat} {ft : Int32} {pl : Nat} {a : Nat} {ga : Nat} {og : Nat} {px : Nat → Int32} {k : Nat} (h1_rd : xn ≤ rd) (h2_rd : rd < n) (h_rd : M.2 rd = (.inr (4, [.ref gw, .int ft, .ref 18, .int (nI pl), .int (nI a), .ref ga, .int (nI og)]))) (h1_18 : xn ≤ 18) (h2_18 : 18 < n) (h_18 : M.2 18 = (.inl (1, 24, .inl px))) (hk : k < 1000) (hpl : pl ≤ 24) (hpc : ∀ j, narrow .char (.int (pch px pl j)) = .int (pch px pl j)) : XC G Y8_13 (some .int) 1 0 0 [.ref rd, .int (nI k)] M (fun v M' => v = some (.int (pDgv (pch px pl k))) ∧ M' = M) := by
  refine xc_of hg (by decide) (Nat.le_of_ble_eq_true rfl) (Or.inl ⟨rfl, rfl, fun v M' h => ⟨_, h.1⟩⟩) ?_
  refine xj_aload_n (i := 0) d8_13_0 rfl rfl ?_
  refine xj_iload_n (i := 1) d8_13_1 rfl rfl ?_
  refine xj_callV (rest := []) (As := [.int (nI k)]) (b := rd) (xPeek hg (M := M) (n := n) (rd := rd) (gw := gw) (ft := ft) (pl := pl) (a := a) (ga := ga) (og := og) (px := px) (k := k) (show M.1 = n by omega) (by omega) (by omega) (by omega) h_rd (by omega) (by omega) h_18 (by omega) (by omega) hpc) d8_13_2 wd8_6 h_rd (by omega) (show rd < M.1 by omega) rfl s8_6 w532 (Or.inl w530) rfl rfl (Nat.le_of_ble_eq_true rfl) (by omega) (by omega) (by omega) ?_
  rintro v M' ⟨rfl, hm⟩
  subst M'
  refine xj_istore_n (i := 2) (L' := [(2, .int (pch px pl k)), (0, .ref rd), (1, .int (nI k))]) d8_13_5 rfl (by decide) rfl ?_
  refine xj_iload_n (i := 2) d8_13_6 rfl rfl ?_
  refine xj_bipush (v := 48) d8_13_7 (by decide) ?_
  refine xj_icmp_lt (tgt := 25) d8_13_9 rfl (fun hb1 => ?_) (fun hb1 => ?_)
  · refine xj_iconst (v := (-1)) d8_13_25 (by decide) ?_
    exact xj_ret d8_13_26 (by omega) (by omega) rfl ⟨(by rw [show pDgv (pch px pl k) = -1 from if_neg (fun q => by first | exact absurd hb1 (Int32.not_lt.mpr q.1) | exact absurd hb2 (Int32.not_lt.mpr q.2))]), rfl⟩
  · refine xj_iload_n (i := 2) d8_13_12 rfl rfl ?_
    refine xj_bipush (v := 57) d8_13_13 (by decide) ?_
    refine xj_icmp_gt (tgt := 25) d8_13_15 rfl (fun hb2 => ?_) (fun hb2 => ?_)
    · refine xj_iconst (v := (-1)) d8_13_25 (by decide) ?_
      exact xj_ret d8_13_26 (by omega) (by omega) rfl ⟨(by rw [show pDgv (pch px pl k) = -1 from if_neg (fun q => by first | exact absurd hb1 (Int32.not_lt.mpr q.1) | exact absurd hb2 (Int32.not_lt.mpr q.2))]), rfl⟩
    · refine xj_iload_n (i := 2) d8_13_18 rfl rfl ?_
      refine xj_bipush (v := 48) d8_13_19 (by decide) ?_
      refine xj_isub (v := (pch px pl k) - 48) d8_13_21 rfl ?_
      refine xj_goto (tgt := 26) d8_13_22 rfl ?_
      exact xj_ret d8_13_26 (by omega) (by omega) rfl ⟨(by rw [show pDgv (pch px pl k) = pch px pl k - 48 from if_pos ⟨Int32.not_lt.mp hb1, Int32.not_lt.mp hb2⟩]), rfl⟩

theorem xname_k {k : Nat} (h : k < 10) : ¬ nI k < 0 ∧ ¬ 10 ≤ nI k := ⟨nI_pos (by omega), nI_ge (a := k) (b := 10) h (by decide)⟩
set_option maxRecDepth 20000 in
theorem xWriteY {G : xG} (hg : xGood G) {M : xM} {n : Nat} (hn : M.1 = n) (hx : xn ≤ n) {dl : Nat} {pl : Nat} {vc : Nat} {tk : Nat} {hc : Nat} {op : Nat} {pn : Int32} {lr : Value} {fd : Nat → Int32} {c : Int32} (h1_16 : xn ≤ 16) (h2_16 : 16 < n) (h_16 : M.2 16 = (.inr (0, [.ref 17, .int (nI dl), .ref 18, .int (nI pl), lr, .ref 19, .int (nI vc), .ref op, .ref 22, .int (nI tk), .ref 23, .int (nI hc), .int pn]))) (h1_17 : xn ≤ 17) (h2_17 : 17 < n) (h_17 : M.2 17 = (.inl (1, 40, .inl fd))) (hch : c = 10 ∨ (¬ c < 32 ∧ ¬ 126 < c)) (hdl : dl < 40) (hcn : vp_nar .char c = c) : XC G Y1_2 (some .boolean) 2 0 0 [.ref 16, .int c] M (fun v M' => v = some (.int 1) ∧ M'.1 = n ∧ (∀ j, j < n → j ≠ 17 → j ≠ 16 → M'.2 j = M.2 j) ∧ M'.2 17 = (.inl (1, 40, .inl (upd fd dl c))) ∧ M'.2 16 = (.inr (0, [.ref 17, .int (nI (dl + 1)), .ref 18, .int (nI pl), lr, .ref 19, .int (nI vc), .ref op, .ref 22, .int (nI tk), .ref 23, .int (nI hc), .int pn]))) := by
  refine xc_of hg (by decide) (Nat.le_of_ble_eq_true rfl) (Or.inr (Or.inl ⟨rfl, rfl, fun v M' h => ⟨_, h.1, Or.inr rfl⟩⟩)) ?_
  refine xj_iload_n (i := 1) d1_2_0 rfl rfl ?_
  refine xj_callS (rest := []) (As := [.int c]) (cCharacter hg (M := M) (n := n) (c := c) (show M.1 = n by omega) (by omega) ) d1_2_1 wd1_21 w128 (Or.inl w127) rfl rfl (Nat.le_of_ble_eq_true rfl) (by omega) (by omega) (by omega) ?_
  rintro v M' ⟨rfl, hm⟩
  subst M'
  refine xj_if_eq (tgt := 16) d1_2_4 rfl (fun h => absurd h (by rw [xB_t hch]; decide)) (fun _ => ?_)
  refine xj_aload_n (i := 0) d1_2_7 rfl rfl ?_
  refine xj_get d1_2_8 f1_46_0 h_16 (by omega) (show 16 < M.1 by omega) rfl ?_
  refine xj_bipush (v := 40) d1_2_11 (by decide) ?_
  refine xj_icmp_lt (tgt := 18) d1_2_13 rfl (fun _ => ?_) (fun h => absurd (nI_lt (a := dl) (b := 40) (by omega) (by omega)) h)
  refine xj_aload_n (i := 0) d1_2_18 rfl rfl ?_
  refine xj_get d1_2_19 f1_9_0 h_16 (by omega) (show 16 < M.1 by omega) rfl ?_
  refine xj_aload_n (i := 0) d1_2_22 rfl rfl ?_
  refine xj_get d1_2_23 f1_46_0 h_16 (by omega) (show 16 < M.1 by omega) rfl ?_
  refine xj_iload_n (i := 1) d1_2_26 rfl rfl ?_
  refine xj_castore (j := dl) (x' := c) d1_2_27 h_17 (by omega) (show 17 < M.1 by omega) (vp_in_nI (by omega) (by omega)) (nI_clamp (by omega)) hcn ?_
  refine xj_abs_set (fun M1 hs1 ha1 ho1 => ?_)
  refine xj_aload_n (i := 0) d1_2_28 rfl rfl ?_
  refine xj_dup d1_2_29 rfl ?_
  refine xj_get d1_2_30 f1_46_0 ((ho1 16 (by omega)).trans h_16) (by omega) (show 16 < M1.1 by omega) rfl ?_
  refine xj_iconst (v := 1) d1_2_33 (by decide) ?_
  refine xj_iadd (v := nI (dl + 1)) d1_2_34 (nI_1 _) ?_
  refine xj_put (a := 16) (fs' := [.ref 17, .int (nI (dl + 1)), .ref 18, .int (nI pl), lr, .ref 19, .int (nI vc), .ref op, .ref 22, .int (nI tk), .ref 23, .int (nI hc), .int pn]) d1_2_35 f1_46_0 ((ho1 16 (by omega)).trans h_16) (by omega) (show 16 < M1.1 by omega) (Nat.le_of_ble_eq_true rfl) rfl rfl rfl ?_
  refine xj_abs_set (fun M2 hs2 ha2 ho2 => ?_)
  refine xj_iconst (v := 1) d1_2_38 (by decide) ?_
  exact xj_ret d1_2_39 (by omega) (by omega) rfl ⟨rfl, (show M2.1 = n by omega), (fun j hj hj0 hj1 => ((ho2 j (by omega)).trans (ho1 j (by omega)))), ((ho2 17 (by omega)).trans ha1), ha2⟩
set_option maxRecDepth 20000 in
theorem xWriteN {G : xG} (hg : xGood G) {M : xM} {n : Nat} (hn : M.1 = n) (hx : xn ≤ n) {dl : Nat} {pl : Nat} {vc : Nat} {tk : Nat} {hc : Nat} {op : Nat} {pn : Int32} {lr : Value} {c : Int32} (h1_16 : xn ≤ 16) (h2_16 : 16 < n) (h_16 : M.2 16 = (.inr (0, [.ref 17, .int (nI dl), .ref 18, .int (nI pl), lr, .ref 19, .int (nI vc), .ref op, .ref 22, .int (nI tk), .ref 23, .int (nI hc), .int pn]))) (hch : ¬ (c = 10 ∨ (¬ c < 32 ∧ ¬ 126 < c))) : XC G Y1_2 (some .boolean) 2 0 0 [.ref 16, .int c] M (fun v M' => v = some (.int 0) ∧ M' = M) := by
  refine xc_of hg (by decide) (Nat.le_of_ble_eq_true rfl) (Or.inr (Or.inl ⟨rfl, rfl, fun v M' h => ⟨_, h.1, Or.inl rfl⟩⟩)) ?_
  refine xj_iload_n (i := 1) d1_2_0 rfl rfl ?_
  refine xj_callS (rest := []) (As := [.int c]) (cCharacter hg (M := M) (n := n) (c := c) (show M.1 = n by omega) (by omega) ) d1_2_1 wd1_21 w128 (Or.inl w127) rfl rfl (Nat.le_of_ble_eq_true rfl) (by omega) (by omega) (by omega) ?_
  rintro v M' ⟨rfl, hm⟩
  subst M'
  refine xj_if_eq (tgt := 16) d1_2_4 rfl (fun _ => ?_) (fun h => absurd (xB_f hch) h)
  refine xj_iconst (v := 0) d1_2_16 (by decide) ?_
  exact xj_ret d1_2_17 (by omega) (by omega) rfl ⟨rfl, rfl⟩
set_option maxRecDepth 20000 in
theorem xWriteF {G : xG} (hg : xGood G) {M : xM} {n : Nat} (hn : M.1 = n) (hx : xn ≤ n) {dl : Nat} {pl : Nat} {vc : Nat} {tk : Nat} {hc : Nat} {op : Nat} {pn : Int32} {lr : Value} {c : Int32} (h1_16 : xn ≤ 16) (h2_16 : 16 < n) (h_16 : M.2 16 = (.inr (0, [.ref 17, .int (nI dl), .ref 18, .int (nI pl), lr, .ref 19, .int (nI vc), .ref op, .ref 22, .int (nI tk), .ref 23, .int (nI hc), .int pn]))) (hch : c = 10 ∨ (¬ c < 32 ∧ ¬ 126 < c)) (hdl : dl = 40) : XC G Y1_2 (some .boolean) 2 0 0 [.ref 16, .int c] M (fun v M' => v = some (.int 0) ∧ M' = M) := by
  refine xc_of hg (by decide) (Nat.le_of_ble_eq_true rfl) (Or.inr (Or.inl ⟨rfl, rfl, fun v M' h => ⟨_, h.1, Or.inl rfl⟩⟩)) ?_
  refine xj_iload_n (i := 1) d1_2_0 rfl rfl ?_
  refine xj_callS (rest := []) (As := [.int c]) (cCharacter hg (M := M) (n := n) (c := c) (show M.1 = n by omega) (by omega) ) d1_2_1 wd1_21 w128 (Or.inl w127) rfl rfl (Nat.le_of_ble_eq_true rfl) (by omega) (by omega) (by omega) ?_
  rintro v M' ⟨rfl, hm⟩
  subst M'
  refine xj_if_eq (tgt := 16) d1_2_4 rfl (fun h => absurd h (by rw [xB_t hch]; decide)) (fun _ => ?_)
  refine xj_aload_n (i := 0) d1_2_7 rfl rfl ?_
  refine xj_get d1_2_8 f1_46_0 h_16 (by omega) (show 16 < M.1 by omega) rfl ?_
  refine xj_bipush (v := 40) d1_2_11 (by decide) ?_
  refine xj_icmp_lt (tgt := 18) d1_2_13 rfl (fun h => absurd h (nI_nlt (a := dl) (b := 40) (by omega) (by omega))) (fun _ => ?_)
  refine xj_iconst (v := 0) d1_2_16 (by decide) ?_
  exact xj_ret d1_2_17 (by omega) (by omega) rfl ⟨rfl, rfl⟩
set_option maxRecDepth 20000 in
theorem xTypeY {G : xG} (hg : xGood G) {M : xM} {n : Nat} (hn : M.1 = n) (hx : xn ≤ n) {dl : Nat} {pl : Nat} {vc : Nat} {tk : Nat} {hc : Nat} {op : Nat} {pn : Int32} {lr : Value} {fp : Nat → Int32} {c : Int32} (h1_16 : xn ≤ 16) (h2_16 : 16 < n) (h_16 : M.2 16 = (.inr (0, [.ref 17, .int (nI dl), .ref 18, .int (nI pl), lr, .ref 19, .int (nI vc), .ref op, .ref 22, .int (nI tk), .ref 23, .int (nI hc), .int pn]))) (h1_18 : xn ≤ 18) (h2_18 : 18 < n) (h_18 : M.2 18 = (.inl (1, 24, .inl fp))) (hch : ¬ c < 32 ∧ ¬ 126 < c) (hpl : pl < 24) (hcn : vp_nar .char c = c) : XC G Y1_6 (some .boolean) 1 0 0 [.ref 16, .int c] M (fun v M' => v = some (.int 1) ∧ M'.1 = n ∧ (∀ j, j < n → j ≠ 18 → j ≠ 16 → M'.2 j = M.2 j) ∧ M'.2 18 = (.inl (1, 24, .inl (upd fp pl c))) ∧ M'.2 16 = (.inr (0, [.ref 17, .int (nI dl), .ref 18, .int (nI (pl + 1)), .null, .ref 19, .int (nI vc), .ref op, .ref 22, .int (nI tk), .ref 23, .int (nI hc), .int pn]))) := by
  refine xc_of hg (by decide) (Nat.le_of_ble_eq_true rfl) (Or.inr (Or.inl ⟨rfl, rfl, fun v M' h => ⟨_, h.1, Or.inr rfl⟩⟩)) ?_
  refine xj_iload_n (i := 1) d1_6_0 rfl rfl ?_
  refine xj_callS (rest := []) (As := [.int c]) (cPrinted hg (M := M) (n := n) (c := c) (show M.1 = n by omega) (by omega) ) d1_6_1 wd1_20 w131 (Or.inl w130) rfl rfl (Nat.le_of_ble_eq_true rfl) (by omega) (by omega) (by omega) ?_
  rintro v M' ⟨rfl, hm⟩
  subst M'
  refine xj_if_eq (tgt := 16) d1_6_4 rfl (fun h => absurd h (by rw [xB_t hch]; decide)) (fun _ => ?_)
  refine xj_aload_n (i := 0) d1_6_7 rfl rfl ?_
  refine xj_get d1_6_8 f1_82_0 h_16 (by omega) (show 16 < M.1 by omega) rfl ?_
  refine xj_bipush (v := 24) d1_6_11 (by decide) ?_
  refine xj_icmp_lt (tgt := 18) d1_6_13 rfl (fun _ => ?_) (fun h => absurd (nI_lt (a := pl) (b := 24) (by omega) (by omega)) h)
  refine xj_aload_n (i := 0) d1_6_18 rfl rfl ?_
  refine xj_get d1_6_19 f1_13_0 h_16 (by omega) (show 16 < M.1 by omega) rfl ?_
  refine xj_aload_n (i := 0) d1_6_22 rfl rfl ?_
  refine xj_get d1_6_23 f1_82_0 h_16 (by omega) (show 16 < M.1 by omega) rfl ?_
  refine xj_iload_n (i := 1) d1_6_26 rfl rfl ?_
  refine xj_castore (j := pl) (x' := c) d1_6_27 h_18 (by omega) (show 18 < M.1 by omega) (vp_in_nI (by omega) (by omega)) (nI_clamp (by omega)) hcn ?_
  refine xj_abs_set (fun M1 hs1 ha1 ho1 => ?_)
  refine xj_aload_n (i := 0) d1_6_28 rfl rfl ?_
  refine xj_dup d1_6_29 rfl ?_
  refine xj_get d1_6_30 f1_82_0 ((ho1 16 (by omega)).trans h_16) (by omega) (show 16 < M1.1 by omega) rfl ?_
  refine xj_iconst (v := 1) d1_6_33 (by decide) ?_
  refine xj_iadd (v := nI (pl + 1)) d1_6_34 (nI_1 _) ?_
  refine xj_put (a := 16) (fs' := [.ref 17, .int (nI dl), .ref 18, .int (nI (pl + 1)), lr, .ref 19, .int (nI vc), .ref op, .ref 22, .int (nI tk), .ref 23, .int (nI hc), .int pn]) d1_6_35 f1_82_0 ((ho1 16 (by omega)).trans h_16) (by omega) (show 16 < M1.1 by omega) (Nat.le_of_ble_eq_true rfl) rfl rfl rfl ?_
  refine xj_abs_set (fun M2 hs2 ha2 ho2 => ?_)
  refine xj_aload_n (i := 0) d1_6_38 rfl rfl ?_
  refine xj_null d1_6_39 ?_
  refine xj_put (a := 16) (fs' := [.ref 17, .int (nI dl), .ref 18, .int (nI (pl + 1)), .null, .ref 19, .int (nI vc), .ref op, .ref 22, .int (nI tk), .ref 23, .int (nI hc), .int pn]) d1_6_40 f1_85_0 ha2 (by omega) (show 16 < M2.1 by omega) (Nat.le_of_ble_eq_true rfl) rfl rfl rfl ?_
  refine xj_abs_set (fun M3 hs3 ha3 ho3 => ?_)
  refine xj_iconst (v := 1) d1_6_43 (by decide) ?_
  exact xj_ret d1_6_44 (by omega) (by omega) rfl ⟨rfl, (show M3.1 = n by omega), (fun j hj hj0 hj1 => ((ho3 j (by omega)).trans ((ho2 j (by omega)).trans (ho1 j (by omega))))), ((ho3 18 (by omega)).trans ((ho2 18 (by omega)).trans ha1)), ha3⟩
set_option maxRecDepth 20000 in
theorem xTypeN {G : xG} (hg : xGood G) {M : xM} {n : Nat} (hn : M.1 = n) (hx : xn ≤ n) {dl : Nat} {pl : Nat} {vc : Nat} {tk : Nat} {hc : Nat} {op : Nat} {pn : Int32} {lr : Value} {c : Int32} (h1_16 : xn ≤ 16) (h2_16 : 16 < n) (h_16 : M.2 16 = (.inr (0, [.ref 17, .int (nI dl), .ref 18, .int (nI pl), lr, .ref 19, .int (nI vc), .ref op, .ref 22, .int (nI tk), .ref 23, .int (nI hc), .int pn]))) (hch : ¬ (¬ c < 32 ∧ ¬ 126 < c)) : XC G Y1_6 (some .boolean) 1 0 0 [.ref 16, .int c] M (fun v M' => v = some (.int 0) ∧ M' = M) := by
  refine xc_of hg (by decide) (Nat.le_of_ble_eq_true rfl) (Or.inr (Or.inl ⟨rfl, rfl, fun v M' h => ⟨_, h.1, Or.inl rfl⟩⟩)) ?_
  refine xj_iload_n (i := 1) d1_6_0 rfl rfl ?_
  refine xj_callS (rest := []) (As := [.int c]) (cPrinted hg (M := M) (n := n) (c := c) (show M.1 = n by omega) (by omega) ) d1_6_1 wd1_20 w131 (Or.inl w130) rfl rfl (Nat.le_of_ble_eq_true rfl) (by omega) (by omega) (by omega) ?_
  rintro v M' ⟨rfl, hm⟩
  subst M'
  refine xj_if_eq (tgt := 16) d1_6_4 rfl (fun _ => ?_) (fun h => absurd (xB_f hch) h)
  refine xj_iconst (v := 0) d1_6_16 (by decide) ?_
  exact xj_ret d1_6_17 (by omega) (by omega) rfl ⟨rfl, rfl⟩
set_option maxRecDepth 20000 in
theorem xTypeF {G : xG} (hg : xGood G) {M : xM} {n : Nat} (hn : M.1 = n) (hx : xn ≤ n) {dl : Nat} {pl : Nat} {vc : Nat} {tk : Nat} {hc : Nat} {op : Nat} {pn : Int32} {lr : Value} {c : Int32} (h1_16 : xn ≤ 16) (h2_16 : 16 < n) (h_16 : M.2 16 = (.inr (0, [.ref 17, .int (nI dl), .ref 18, .int (nI pl), lr, .ref 19, .int (nI vc), .ref op, .ref 22, .int (nI tk), .ref 23, .int (nI hc), .int pn]))) (hch : ¬ c < 32 ∧ ¬ 126 < c) (hpl : pl = 24) : XC G Y1_6 (some .boolean) 1 0 0 [.ref 16, .int c] M (fun v M' => v = some (.int 0) ∧ M' = M) := by
  refine xc_of hg (by decide) (Nat.le_of_ble_eq_true rfl) (Or.inr (Or.inl ⟨rfl, rfl, fun v M' h => ⟨_, h.1, Or.inl rfl⟩⟩)) ?_
  refine xj_iload_n (i := 1) d1_6_0 rfl rfl ?_
  refine xj_callS (rest := []) (As := [.int c]) (cPrinted hg (M := M) (n := n) (c := c) (show M.1 = n by omega) (by omega) ) d1_6_1 wd1_20 w131 (Or.inl w130) rfl rfl (Nat.le_of_ble_eq_true rfl) (by omega) (by omega) (by omega) ?_
  rintro v M' ⟨rfl, hm⟩
  subst M'
  refine xj_if_eq (tgt := 16) d1_6_4 rfl (fun h => absurd h (by rw [xB_t hch]; decide)) (fun _ => ?_)
  refine xj_aload_n (i := 0) d1_6_7 rfl rfl ?_
  refine xj_get d1_6_8 f1_82_0 h_16 (by omega) (show 16 < M.1 by omega) rfl ?_
  refine xj_bipush (v := 24) d1_6_11 (by decide) ?_
  refine xj_icmp_lt (tgt := 18) d1_6_13 rfl (fun h => absurd h (nI_nlt (a := pl) (b := 24) (by omega) (by omega))) (fun _ => ?_)
  refine xj_iconst (v := 0) d1_6_16 (by decide) ?_
  exact xj_ret d1_6_17 (by omega) (by omega) rfl ⟨rfl, rfl⟩
set_option maxRecDepth 20000 in
theorem xBackY {G : xG} (hg : xGood G) {M : xM} {n : Nat} (hn : M.1 = n) (hx : xn ≤ n) {dl : Nat} {pl : Nat} {vc : Nat} {tk : Nat} {hc : Nat} {op : Nat} {pn : Int32} {lr : Value} (h1_16 : xn ≤ 16) (h2_16 : 16 < n) (h_16 : M.2 16 = (.inr (0, [.ref 17, .int (nI dl), .ref 18, .int (nI (pl + 1)), lr, .ref 19, .int (nI vc), .ref op, .ref 22, .int (nI tk), .ref 23, .int (nI hc), .int pn]))) (hpl : pl < 24) : XC G Y1_7 (some .int) 0 0 0 [.ref 16] M (fun v M' => v = some (.int (nI pl)) ∧ M'.1 = n ∧ (∀ j, j < n → j ≠ 16 → M'.2 j = M.2 j) ∧ M'.2 16 = (.inr (0, [.ref 17, .int (nI dl), .ref 18, .int (nI pl), .null, .ref 19, .int (nI vc), .ref op, .ref 22, .int (nI tk), .ref 23, .int (nI hc), .int pn]))) := by
  refine xc_of hg (by decide) (Nat.le_of_ble_eq_true rfl) (Or.inl ⟨rfl, rfl, fun v M' h => ⟨_, h.1⟩⟩) ?_
  refine xj_aload_n (i := 0) d1_7_0 rfl rfl ?_
  refine xj_get d1_7_1 f1_82_0 h_16 (by omega) (show 16 < M.1 by omega) rfl ?_
  refine xj_if_le (tgt := 22) d1_7_4 rfl (fun h => absurd h (nI_ge (a := 0) (b := pl + 1) (by omega) (by omega))) (fun _ => ?_)
  refine xj_aload_n (i := 0) d1_7_7 rfl rfl ?_
  refine xj_dup d1_7_8 rfl ?_
  refine xj_get d1_7_9 f1_82_0 h_16 (by omega) (show 16 < M.1 by omega) rfl ?_
  refine xj_iconst (v := 1) d1_7_12 (by decide) ?_
  refine xj_isub (v := nI pl) d1_7_13 (nI_pred pl) ?_
  refine xj_put (a := 16) (fs' := [.ref 17, .int (nI dl), .ref 18, .int (nI pl), lr, .ref 19, .int (nI vc), .ref op, .ref 22, .int (nI tk), .ref 23, .int (nI hc), .int pn]) d1_7_14 f1_82_0 h_16 (by omega) (show 16 < M.1 by omega) (Nat.le_of_ble_eq_true rfl) rfl rfl rfl ?_
  refine xj_abs_set (fun M1 hs1 ha1 ho1 => ?_)
  refine xj_aload_n (i := 0) d1_7_17 rfl rfl ?_
  refine xj_null d1_7_18 ?_
  refine xj_put (a := 16) (fs' := [.ref 17, .int (nI dl), .ref 18, .int (nI pl), .null, .ref 19, .int (nI vc), .ref op, .ref 22, .int (nI tk), .ref 23, .int (nI hc), .int pn]) d1_7_19 f1_85_0 ha1 (by omega) (show 16 < M1.1 by omega) (Nat.le_of_ble_eq_true rfl) rfl rfl rfl ?_
  refine xj_abs_set (fun M2 hs2 ha2 ho2 => ?_)
  refine xj_aload_n (i := 0) d1_7_22 rfl rfl ?_
  refine xj_get d1_7_23 f1_82_0 ha2 (by omega) (show 16 < M2.1 by omega) rfl ?_
  exact xj_ret d1_7_26 (by omega) (by omega) rfl ⟨rfl, (show M2.1 = n by omega), (fun j hj hj0 => ((ho2 j (by omega)).trans (ho1 j (by omega)))), ha2⟩
set_option maxRecDepth 20000 in
theorem xBackN {G : xG} (hg : xGood G) {M : xM} {n : Nat} (hn : M.1 = n) (hx : xn ≤ n) {dl : Nat} {pl : Nat} {vc : Nat} {tk : Nat} {hc : Nat} {op : Nat} {pn : Int32} {lr : Value} (h1_16 : xn ≤ 16) (h2_16 : 16 < n) (h_16 : M.2 16 = (.inr (0, [.ref 17, .int (nI dl), .ref 18, .int (nI 0), lr, .ref 19, .int (nI vc), .ref op, .ref 22, .int (nI tk), .ref 23, .int (nI hc), .int pn]))) : XC G Y1_7 (some .int) 0 0 0 [.ref 16] M (fun v M' => v = some (.int (nI 0)) ∧ M' = M) := by
  refine xc_of hg (by decide) (Nat.le_of_ble_eq_true rfl) (Or.inl ⟨rfl, rfl, fun v M' h => ⟨_, h.1⟩⟩) ?_
  refine xj_aload_n (i := 0) d1_7_0 rfl rfl ?_
  refine xj_get d1_7_1 f1_82_0 h_16 (by omega) (show 16 < M.1 by omega) rfl ?_
  refine xj_if_le (tgt := 22) d1_7_4 rfl (fun _ => ?_) (fun h => absurd (nI_le (a := 0) (b := 0) (by omega) (by omega)) h)
  refine xj_aload_n (i := 0) d1_7_22 rfl rfl ?_
  refine xj_get d1_7_23 f1_82_0 h_16 (by omega) (show 16 < M.1 by omega) rfl ?_
  exact xj_ret d1_7_26 (by omega) (by omega) rfl ⟨rfl, rfl⟩
set_option maxRecDepth 20000 in
theorem xPossible {G : xG} (hg : xGood G) {M : xM} {n : Nat} (hn : M.1 = n) (hx : xn ≤ n) {dl : Nat} {pl : Nat} {vc : Nat} {tk : Nat} {hc : Nat} {op : Nat} {pn : Int32} {lr : Value} (h1_16 : xn ≤ 16) (h2_16 : 16 < n) (h_16 : M.2 16 = (.inr (0, [.ref 17, .int (nI dl), .ref 18, .int (nI pl), lr, .ref 19, .int (nI vc), .ref op, .ref 22, .int (nI tk), .ref 23, .int (nI hc), .int pn]))) : XC G Y1_12 (some .int) 0 0 0 [.ref 16] M (fun v M' => v = some (.int pn) ∧ M' = M) := by
  refine xc_of hg (by decide) (Nat.le_of_ble_eq_true rfl) (Or.inl ⟨rfl, rfl, fun v M' h => ⟨_, h.1⟩⟩) ?_
  refine xj_aload_n (i := 0) d1_12_0 rfl rfl ?_
  refine xj_get d1_12_1 f1_118_0 h_16 (by omega) (show 16 < M.1 by omega) rfl ?_
  exact xj_ret d1_12_4 (by omega) (by omega) rfl ⟨rfl, rfl⟩
set_option maxRecDepth 20000 in
theorem xLeft {G : xG} (hg : xGood G) {M : xM} {n : Nat} (hn : M.1 = n) (hx : xn ≤ n) {dl : Nat} {pl : Nat} {vc : Nat} {tk : Nat} {hc : Nat} {op : Nat} {pn : Int32} {lr : Value} (h1_16 : xn ≤ 16) (h2_16 : 16 < n) (h_16 : M.2 16 = (.inr (0, [.ref 17, .int (nI dl), .ref 18, .int (nI pl), lr, .ref 19, .int (nI vc), .ref op, .ref 22, .int (nI tk), .ref 23, .int (nI hc), .int pn]))) : XC G Y1_18 (some .int) 0 0 0 [.ref 16] M (fun v M' => v = some (.int (nI tk)) ∧ M' = M) := by
  refine xc_of hg (by decide) (Nat.le_of_ble_eq_true rfl) (Or.inl ⟨rfl, rfl, fun v M' h => ⟨_, h.1⟩⟩) ?_
  refine xj_aload_n (i := 0) d1_18_0 rfl rfl ?_
  refine xj_get d1_18_1 f1_149_0 h_16 (by omega) (show 16 < M.1 by omega) rfl ?_
  exact xj_ret d1_18_4 (by omega) (by omega) rfl ⟨rfl, rfl⟩
set_option maxRecDepth 20000 in
theorem xShards {G : xG} (hg : xGood G) {M : xM} {n : Nat} (hn : M.1 = n) (hx : xn ≤ n) {dl : Nat} {pl : Nat} {vc : Nat} {tk : Nat} {hc : Nat} {op : Nat} {pn : Int32} {lr : Value} {el : Value} {sn : Nat} {mo1 : Int32} (h1_16 : xn ≤ 16) (h2_16 : 16 < n) (h_16 : M.2 16 = (.inr (0, [.ref 17, .int (nI dl), .ref 18, .int (nI pl), lr, .ref 19, .int (nI vc), .ref op, .ref 22, .int (nI tk), .ref 23, .int (nI hc), .int pn]))) (h1_22 : xn ≤ 22) (h2_22 : 22 < n) (h_22 : M.2 22 = (.inr (2, [el, .int (nI sn), .int mo1]))) : XC G Y1_14 (some .int) 1 0 0 [.ref 16] M (fun v M' => v = some (.int (nI sn)) ∧ M' = M) := by
  refine xc_of hg (by decide) (Nat.le_of_ble_eq_true rfl) (Or.inl ⟨rfl, rfl, fun v M' h => ⟨_, h.1⟩⟩) ?_
  refine xj_aload_n (i := 0) d1_14_0 rfl rfl ?_
  refine xj_get d1_14_1 f1_34_0 h_16 (by omega) (show 16 < M.1 by omega) rfl ?_
  refine xj_callV (rest := []) (As := []) (b := 22) (cSize hg (M := M) (n := n) (a := 22) (el := el) (sz := nI sn) (mo := mo1) (show M.1 = n by omega) (by omega) (by omega) (by omega) h_22) d1_14_4 wd28_8 h_22 (by omega) (show 22 < M.1 by omega) rfl w230 w229 (Or.inl w241) rfl rfl (Nat.le_of_ble_eq_true rfl) (by omega) (by omega) (by omega) ?_
  rintro v M' ⟨rfl, hm⟩
  subst M'
  exact xj_ret d1_14_7 (by omega) (by omega) rfl ⟨rfl, rfl⟩
set_option maxRecDepth 20000 in
theorem xHitY {G : xG} (hg : xGood G) {M : xM} {n : Nat} (hn : M.1 = n) (hx : xn ≤ n) {dl : Nat} {pl : Nat} {vc : Nat} {tk : Nat} {hc : Nat} {op : Nat} {pn : Int32} {lr : Value} {fh : Nat → Int32} {k : Nat} (h1_16 : xn ≤ 16) (h2_16 : 16 < n) (h_16 : M.2 16 = (.inr (0, [.ref 17, .int (nI dl), .ref 18, .int (nI pl), lr, .ref 19, .int (nI vc), .ref op, .ref 22, .int (nI tk), .ref 23, .int (nI hc), .int pn]))) (h1_23 : xn ≤ 23) (h2_23 : 23 < n) (h_23 : M.2 23 = (.inl (0, 410, .inl fh))) (hk : k < hc) (hhc : hc ≤ 410) : XC G Y1_13 (some .int) 0 0 0 [.ref 16, .int (nI k)] M (fun v M' => v = some (.int (fh k)) ∧ M' = M) := by
  refine xc_of hg (by decide) (Nat.le_of_ble_eq_true rfl) (Or.inl ⟨rfl, rfl, fun v M' h => ⟨_, h.1⟩⟩) ?_
  refine xj_iload_n (i := 1) d1_13_0 rfl rfl ?_
  refine xj_if_lt (tgt := 21) d1_13_1 rfl (fun h => absurd h (nI_nlt (a := k) (b := 0) (by omega) (by omega))) (fun _ => ?_)
  refine xj_iload_n (i := 1) d1_13_4 rfl rfl ?_
  refine xj_aload_n (i := 0) d1_13_5 rfl rfl ?_
  refine xj_get d1_13_6 f1_115_0 h_16 (by omega) (show 16 < M.1 by omega) rfl ?_
  refine xj_icmp_ge (tgt := 21) d1_13_9 rfl (fun h => absurd h (nI_ge (a := k) (b := hc) (by omega) (by omega))) (fun _ => ?_)
  refine xj_aload_n (i := 0) d1_13_12 rfl rfl ?_
  refine xj_get d1_13_13 f1_38_0 h_16 (by omega) (show 16 < M.1 by omega) rfl ?_
  refine xj_iload_n (i := 1) d1_13_16 rfl rfl ?_
  refine xj_iaload (j := k) d1_13_17 h_23 (by omega) (show 23 < M.1 by omega) (vp_in_nI (by omega) (by omega)) (nI_clamp (by omega)) ?_
  refine xj_goto (tgt := 22) d1_13_18 rfl ?_
  exact xj_ret d1_13_22 (by omega) (by omega) rfl ⟨rfl, rfl⟩
set_option maxRecDepth 20000 in
theorem xHitN {G : xG} (hg : xGood G) {M : xM} {n : Nat} (hn : M.1 = n) (hx : xn ≤ n) {dl : Nat} {pl : Nat} {vc : Nat} {tk : Nat} {hc : Nat} {op : Nat} {pn : Int32} {lr : Value} {c : Int32} (h1_16 : xn ≤ 16) (h2_16 : 16 < n) (h_16 : M.2 16 = (.inr (0, [.ref 17, .int (nI dl), .ref 18, .int (nI pl), lr, .ref 19, .int (nI vc), .ref op, .ref 22, .int (nI tk), .ref 23, .int (nI hc), .int pn]))) (hk : c < 0 ∨ nI hc ≤ c) : XC G Y1_13 (some .int) 0 0 0 [.ref 16, .int c] M (fun v M' => v = some (.int (-1)) ∧ M' = M) := by
  refine xc_of hg (by decide) (Nat.le_of_ble_eq_true rfl) (Or.inl ⟨rfl, rfl, fun v M' h => ⟨_, h.1⟩⟩) ?_
  refine xj_iload_n (i := 1) d1_13_0 rfl rfl ?_
  refine xj_if_lt (tgt := 21) d1_13_1 rfl (fun hb1 => ?_) (fun hb1 => ?_)
  · refine xj_iconst (v := (-1)) d1_13_21 (by decide) ?_
    exact xj_ret d1_13_22 (by omega) (by omega) rfl ⟨rfl, rfl⟩
  · refine xj_iload_n (i := 1) d1_13_4 rfl rfl ?_
    refine xj_aload_n (i := 0) d1_13_5 rfl rfl ?_
    refine xj_get d1_13_6 f1_115_0 h_16 (by omega) (show 16 < M.1 by omega) rfl ?_
    refine xj_icmp_ge (tgt := 21) d1_13_9 rfl (fun _ => ?_) (fun h => absurd (hk.resolve_left hb1) h)
    refine xj_iconst (v := (-1)) d1_13_21 (by decide) ?_
    exact xj_ret d1_13_22 (by omega) (by omega) rfl ⟨rfl, rfl⟩
set_option maxRecDepth 20000 in
theorem xRetireY {G : xG} (hg : xGood G) {M : xM} {n : Nat} (hn : M.1 = n) (hx : xn ≤ n) {dl : Nat} {pl : Nat} {vc : Nat} {tk : Nat} {hc : Nat} {op : Nat} {pn : Int32} {lr : Value} {fn : Nat → Option Nat} {k : Nat} {ver : Nat} {tx : Nat} {li : Int32} (h1_16 : xn ≤ 16) (h2_16 : 16 < n) (h_16 : M.2 16 = (.inr (0, [.ref 17, .int (nI dl), .ref 18, .int (nI pl), lr, .ref 19, .int (nI vc), .ref op, .ref 22, .int (nI tk), .ref 23, .int (nI hc), .int pn]))) (h1_19 : xn ≤ 19) (h2_19 : 19 < n) (h_19 : M.2 19 = (.inl (5, 10, .inr (.inr (.inr (.inr fn)))))) (h1_ver : xn ≤ ver) (h2_ver : ver < n) (h_ver : M.2 ver = (.inr (3, [.ref tx, .int li]))) (hk : k < 10) (hv : fn k = some ver) (hne : ver ≠ 16 ∧ ver ≠ 19) : XC G Y1_23 (some .boolean) 0 0 0 [.ref 16, .int (nI k)] M (fun v M' => v = some (.int 1) ∧ M'.1 = n ∧ (∀ j, j < n → j ≠ ver → j ≠ 19 → M'.2 j = M.2 j) ∧ M'.2 ver = (.inr (3, [.ref tx, .int 0])) ∧ M'.2 19 = (.inl (5, 10, .inr (.inr (.inr (.inr (va_up fn k none))))))) := by
  refine xc_of hg (by decide) (Nat.le_of_ble_eq_true rfl) (Or.inr (Or.inl ⟨rfl, rfl, fun v M' h => ⟨_, h.1, Or.inr rfl⟩⟩)) ?_
  refine xj_aload_n (i := 0) d1_23_0 rfl rfl ?_
  refine xj_get d1_23_1 f1_18_0 h_16 (by omega) (show 16 < M.1 by omega) rfl ?_
  refine xj_iload_n (i := 1) d1_23_4 rfl rfl ?_
  refine xj_aaload (j := k) (v := .ref ver) d1_23_5 h_19 (by decide) rfl (by omega) (show 19 < M.1 by omega) (vp_in_nI (by omega) (by omega)) (nI_clamp (by omega)) (by rw [hv]; rfl) ?_
  refine xj_astore_n (i := 2) (L' := [(2, .ref ver), (0, .ref 16), (1, .int (nI k))]) d1_23_6 rfl (by decide) rfl ?_
  refine xj_aload_n (i := 2) d1_23_7 rfl rfl ?_
  refine xj_ifnonnull (tgt := 13) d1_23_8 rfl ?_
  refine xj_aload_n (i := 2) d1_23_13 rfl rfl ?_
  refine xj_iconst (v := 0) d1_23_14 (by decide) ?_
  refine xj_put (a := ver) (fs' := [.ref tx, .int 0]) d1_23_15 f1_152_3 h_ver (by omega) (show ver < M.1 by omega) (Nat.le_of_ble_eq_true rfl) rfl rfl rfl ?_
  refine xj_abs_set (fun M1 hs1 ha1 ho1 => ?_)
  refine xj_aload_n (i := 0) d1_23_18 rfl rfl ?_
  refine xj_get d1_23_19 f1_18_0 ((ho1 16 (by omega)).trans h_16) (by omega) (show 16 < M1.1 by omega) rfl ?_
  refine xj_iload_n (i := 1) d1_23_22 rfl rfl ?_
  refine xj_null d1_23_23 ?_
  refine xj_aastoreN (j := k) d1_23_24 ((ho1 19 (by omega)).trans h_19) (by decide) rfl (by omega) (show 19 < M1.1 by omega) (vp_in_nI (by omega) (by omega)) (nI_clamp (by omega)) ?_
  refine xj_abs_set (fun M2 hs2 ha2 ho2 => ?_)
  refine xj_iconst (v := 1) d1_23_25 (by decide) ?_
  exact xj_ret d1_23_26 (by omega) (by omega) rfl ⟨rfl, (show M2.1 = n by omega), (fun j hj hj0 hj1 => ((ho2 j (by omega)).trans (ho1 j (by omega)))), ((ho2 ver (by omega)).trans ha1), ha2⟩
set_option maxRecDepth 20000 in
theorem xRetireN {G : xG} (hg : xGood G) {M : xM} {n : Nat} (hn : M.1 = n) (hx : xn ≤ n) {dl : Nat} {pl : Nat} {vc : Nat} {tk : Nat} {hc : Nat} {op : Nat} {pn : Int32} {lr : Value} {fn : Nat → Option Nat} {k : Nat} (h1_16 : xn ≤ 16) (h2_16 : 16 < n) (h_16 : M.2 16 = (.inr (0, [.ref 17, .int (nI dl), .ref 18, .int (nI pl), lr, .ref 19, .int (nI vc), .ref op, .ref 22, .int (nI tk), .ref 23, .int (nI hc), .int pn]))) (h1_19 : xn ≤ 19) (h2_19 : 19 < n) (h_19 : M.2 19 = (.inl (5, 10, .inr (.inr (.inr (.inr fn)))))) (hk : k < 10) (hv : fn k = none) : XC G Y1_23 (some .boolean) 0 0 0 [.ref 16, .int (nI k)] M (fun v M' => v = some (.int 0) ∧ M' = M) := by
  refine xc_of hg (by decide) (Nat.le_of_ble_eq_true rfl) (Or.inr (Or.inl ⟨rfl, rfl, fun v M' h => ⟨_, h.1, Or.inl rfl⟩⟩)) ?_
  refine xj_aload_n (i := 0) d1_23_0 rfl rfl ?_
  refine xj_get d1_23_1 f1_18_0 h_16 (by omega) (show 16 < M.1 by omega) rfl ?_
  refine xj_iload_n (i := 1) d1_23_4 rfl rfl ?_
  refine xj_aaload (j := k) (v := .null) d1_23_5 h_19 (by decide) rfl (by omega) (show 19 < M.1 by omega) (vp_in_nI (by omega) (by omega)) (nI_clamp (by omega)) (by rw [hv]; rfl) ?_
  refine xj_astore_nN (i := 2) (L' := [(2, .null), (0, .ref 16), (1, .int (nI k))]) d1_23_6 rfl (by decide) rfl ?_
  refine xj_aload_nN (i := 2) d1_23_7 rfl rfl ?_
  refine xj_ifnonnullN d1_23_8 ?_
  refine xj_iconst (v := 0) d1_23_11 (by decide) ?_
  exact xj_ret d1_23_12 (by omega) (by omega) rfl ⟨rfl, rfl⟩
set_option maxRecDepth 20000 in
theorem xDropY {G : xG} (hg : xGood G) {M : xM} {n : Nat} (hn : M.1 = n) (hx : xn ≤ n) {dl : Nat} {pl : Nat} {vc : Nat} {tk : Nat} {hc : Nat} {op : Nat} {pn : Int32} {lr : Value} {fn : Nat → Option Nat} {k : Nat} {ver : Nat} {tx : Nat} {li : Int32} (h1_16 : xn ≤ 16) (h2_16 : 16 < n) (h_16 : M.2 16 = (.inr (0, [.ref 17, .int (nI dl), .ref 18, .int (nI pl), lr, .ref 19, .int (nI vc), .ref op, .ref 22, .int (nI tk), .ref 23, .int (nI hc), .int pn]))) (h1_19 : xn ≤ 19) (h2_19 : 19 < n) (h_19 : M.2 19 = (.inl (5, 10, .inr (.inr (.inr (.inr fn)))))) (h1_ver : xn ≤ ver) (h2_ver : ver < n) (h_ver : M.2 ver = (.inr (3, [.ref tx, .int li]))) (hk : k < 10) (hv : fn k = some ver) (hne : ver ≠ 16 ∧ ver ≠ 19) : XC G Y1_4 (some .boolean) 1 0 0 [.ref 16, .int (nI k)] M (fun v M' => v = some (.int 1) ∧ M'.1 = n ∧ (∀ j, j < n → j ≠ ver → j ≠ 19 → M'.2 j = M.2 j) ∧ M'.2 ver = (.inr (3, [.ref tx, .int 0])) ∧ M'.2 19 = (.inl (5, 10, .inr (.inr (.inr (.inr (va_up fn k none))))))) := by
  refine xc_of hg (by decide) (Nat.le_of_ble_eq_true rfl) (Or.inr (Or.inl ⟨rfl, rfl, fun v M' h => ⟨_, h.1, Or.inr rfl⟩⟩)) ?_
  refine xj_iload_n (i := 1) d1_4_0 rfl rfl ?_
  refine xj_callS (rest := []) (As := [.int (nI k)]) (cName hg (M := M) (n := n) (c := nI k) (show M.1 = n by omega) (by omega) ) d1_4_1 wd1_19 w138 (Or.inl w137) rfl rfl (Nat.le_of_ble_eq_true rfl) (by omega) (by omega) (by omega) ?_
  rintro v M' ⟨rfl, hm⟩
  subst M'
  refine xj_if_eq (tgt := 19) d1_4_4 rfl (fun h => absurd h (by rw [xB_t (xname_k hk)]; decide)) (fun _ => ?_)
  refine xj_aload_n (i := 0) d1_4_7 rfl rfl ?_
  refine xj_iload_n (i := 1) d1_4_8 rfl rfl ?_
  refine xj_callV (rest := []) (As := [.int (nI k)]) (b := 16) (xRetireY hg (M := M) (n := n) (dl := dl) (pl := pl) (vc := vc) (tk := tk) (hc := hc) (op := op) (pn := pn) (lr := lr) (fn := fn) (k := k) (tx := tx) (li := li) (show M.1 = n by omega) (by omega) (by omega) (by omega) h_16 (by omega) (by omega) h_19 (by omega) (by omega) h_ver hk hv hne) d1_4_9 wd1_23 h_16 (by omega) (show 16 < M.1 by omega) rfl s1_23 w142 (Or.inl w140) rfl rfl (Nat.le_of_ble_eq_true rfl) (by omega) (by omega) (by omega) ?_
  rintro v M1 ⟨rfl, hs1, ho1, hf1_0, hf1_1⟩
  replace hs1 : M1.1 = n := hs1
  replace hf1_0 : M1.2 ver = (.inr (3, [.ref tx, .int 0])) := hf1_0
  replace hf1_1 : M1.2 19 = (.inl (5, 10, .inr (.inr (.inr (.inr (va_up fn k none)))))) := hf1_1
  refine xj_if_eq (tgt := 19) d1_4_12 rfl (fun h => absurd h (by decide)) (fun _ => ?_)
  refine xj_iconst (v := 1) d1_4_15 (by decide) ?_
  refine xj_goto (tgt := 20) d1_4_16 rfl ?_
  exact xj_ret d1_4_20 (by omega) (by omega) rfl ⟨rfl, (show M1.1 = n by omega), (fun j hj hj0 hj1 => (ho1 j (by omega) (by omega) (by omega))), hf1_0, hf1_1⟩
set_option maxRecDepth 20000 in
theorem xDropN {G : xG} (hg : xGood G) {M : xM} {n : Nat} (hn : M.1 = n) (hx : xn ≤ n) {dl : Nat} {pl : Nat} {vc : Nat} {tk : Nat} {hc : Nat} {op : Nat} {pn : Int32} {lr : Value} {fn : Nat → Option Nat} {k : Nat} (h1_16 : xn ≤ 16) (h2_16 : 16 < n) (h_16 : M.2 16 = (.inr (0, [.ref 17, .int (nI dl), .ref 18, .int (nI pl), lr, .ref 19, .int (nI vc), .ref op, .ref 22, .int (nI tk), .ref 23, .int (nI hc), .int pn]))) (h1_19 : xn ≤ 19) (h2_19 : 19 < n) (h_19 : M.2 19 = (.inl (5, 10, .inr (.inr (.inr (.inr fn)))))) (hk : k < 10) (hv : fn k = none) : XC G Y1_4 (some .boolean) 1 0 0 [.ref 16, .int (nI k)] M (fun v M' => v = some (.int 0) ∧ M' = M) := by
  refine xc_of hg (by decide) (Nat.le_of_ble_eq_true rfl) (Or.inr (Or.inl ⟨rfl, rfl, fun v M' h => ⟨_, h.1, Or.inl rfl⟩⟩)) ?_
  refine xj_iload_n (i := 1) d1_4_0 rfl rfl ?_
  refine xj_callS (rest := []) (As := [.int (nI k)]) (cName hg (M := M) (n := n) (c := nI k) (show M.1 = n by omega) (by omega) ) d1_4_1 wd1_19 w138 (Or.inl w137) rfl rfl (Nat.le_of_ble_eq_true rfl) (by omega) (by omega) (by omega) ?_
  rintro v M' ⟨rfl, hm⟩
  subst M'
  refine xj_if_eq (tgt := 19) d1_4_4 rfl (fun h => absurd h (by rw [xB_t (xname_k hk)]; decide)) (fun _ => ?_)
  refine xj_aload_n (i := 0) d1_4_7 rfl rfl ?_
  refine xj_iload_n (i := 1) d1_4_8 rfl rfl ?_
  refine xj_callV (rest := []) (As := [.int (nI k)]) (b := 16) (xRetireN hg (M := M) (n := n) (dl := dl) (pl := pl) (vc := vc) (tk := tk) (hc := hc) (op := op) (pn := pn) (lr := lr) (fn := fn) (k := k) (show M.1 = n by omega) (by omega) (by omega) (by omega) h_16 (by omega) (by omega) h_19 hk hv) d1_4_9 wd1_23 h_16 (by omega) (show 16 < M.1 by omega) rfl s1_23 w142 (Or.inl w140) rfl rfl (Nat.le_of_ble_eq_true rfl) (by omega) (by omega) (by omega) ?_
  rintro v M' ⟨rfl, hm⟩
  subst M'
  refine xj_if_eq (tgt := 19) d1_4_12 rfl (fun _ => ?_) (fun h => absurd (by decide) h)
  refine xj_iconst (v := 0) d1_4_19 (by decide) ?_
  exact xj_ret d1_4_20 (by omega) (by omega) rfl ⟨rfl, rfl⟩
set_option maxRecDepth 20000 in
theorem xDropO {G : xG} (hg : xGood G) {M : xM} {n : Nat} (hn : M.1 = n) (hx : xn ≤ n) {dl : Nat} {pl : Nat} {vc : Nat} {tk : Nat} {hc : Nat} {op : Nat} {pn : Int32} {lr : Value} {c : Int32} (h1_16 : xn ≤ 16) (h2_16 : 16 < n) (h_16 : M.2 16 = (.inr (0, [.ref 17, .int (nI dl), .ref 18, .int (nI pl), lr, .ref 19, .int (nI vc), .ref op, .ref 22, .int (nI tk), .ref 23, .int (nI hc), .int pn]))) (hch : ¬ (¬ c < 0 ∧ ¬ 10 ≤ c)) : XC G Y1_4 (some .boolean) 1 0 0 [.ref 16, .int c] M (fun v M' => v = some (.int 0) ∧ M' = M) := by
  refine xc_of hg (by decide) (Nat.le_of_ble_eq_true rfl) (Or.inr (Or.inl ⟨rfl, rfl, fun v M' h => ⟨_, h.1, Or.inl rfl⟩⟩)) ?_
  refine xj_iload_n (i := 1) d1_4_0 rfl rfl ?_
  refine xj_callS (rest := []) (As := [.int c]) (cName hg (M := M) (n := n) (c := c) (show M.1 = n by omega) (by omega) ) d1_4_1 wd1_19 w138 (Or.inl w137) rfl rfl (Nat.le_of_ble_eq_true rfl) (by omega) (by omega) (by omega) ?_
  rintro v M' ⟨rfl, hm⟩
  subst M'
  refine xj_if_eq (tgt := 19) d1_4_4 rfl (fun _ => ?_) (fun h => absurd (xB_f hch) h)
  refine xj_iconst (v := 0) d1_4_19 (by decide) ?_
  exact xj_ret d1_4_20 (by omega) (by omega) rfl ⟨rfl, rfl⟩
set_option maxRecDepth 20000 in
theorem xLenO {G : xG} (hg : xGood G) {M : xM} {n : Nat} (hn : M.1 = n) (hx : xn ≤ n) {dl : Nat} {pl : Nat} {vc : Nat} {tk : Nat} {hc : Nat} {op : Nat} {pn : Int32} {lr : Value} {c : Int32} (h1_16 : xn ≤ 16) (h2_16 : 16 < n) (h_16 : M.2 16 = (.inr (0, [.ref 17, .int (nI dl), .ref 18, .int (nI pl), lr, .ref 19, .int (nI vc), .ref op, .ref 22, .int (nI tk), .ref 23, .int (nI hc), .int pn]))) (hch : ¬ (¬ c < 0 ∧ ¬ 10 ≤ c)) : XC G Y1_5 (some .int) 1 0 0 [.ref 16, .int c] M (fun v M' => v = some (.int (-1)) ∧ M' = M) := by
  refine xc_of hg (by decide) (Nat.le_of_ble_eq_true rfl) (Or.inl ⟨rfl, rfl, fun v M' h => ⟨_, h.1⟩⟩) ?_
  refine xj_iload_n (i := 1) d1_5_0 rfl rfl ?_
  refine xj_callS (rest := []) (As := [.int c]) (cName hg (M := M) (n := n) (c := c) (show M.1 = n by omega) (by omega) ) d1_5_1 wd1_19 w138 (Or.inl w137) rfl rfl (Nat.le_of_ble_eq_true rfl) (by omega) (by omega) (by omega) ?_
  rintro v M' ⟨rfl, hm⟩
  subst M'
  refine xj_if_eq (tgt := 16) d1_5_4 rfl (fun _ => ?_) (fun h => absurd (xB_f hch) h)
  refine xj_iconst (v := (-1)) d1_5_16 (by decide) ?_
  exact xj_ret d1_5_17 (by omega) (by omega) rfl ⟨rfl, rfl⟩
set_option maxRecDepth 20000 in
theorem xLenN {G : xG} (hg : xGood G) {M : xM} {n : Nat} (hn : M.1 = n) (hx : xn ≤ n) {dl : Nat} {pl : Nat} {vc : Nat} {tk : Nat} {hc : Nat} {op : Nat} {pn : Int32} {lr : Value} {fn : Nat → Option Nat} {k : Nat} (h1_16 : xn ≤ 16) (h2_16 : 16 < n) (h_16 : M.2 16 = (.inr (0, [.ref 17, .int (nI dl), .ref 18, .int (nI pl), lr, .ref 19, .int (nI vc), .ref op, .ref 22, .int (nI tk), .ref 23, .int (nI hc), .int pn]))) (h1_19 : xn ≤ 19) (h2_19 : 19 < n) (h_19 : M.2 19 = (.inl (5, 10, .inr (.inr (.inr (.inr fn)))))) (hk : k < 10) (hv : fn k = none) : XC G Y1_5 (some .int) 1 0 0 [.ref 16, .int (nI k)] M (fun v M' => v = some (.int (-1)) ∧ M' = M) := by
  refine xc_of hg (by decide) (Nat.le_of_ble_eq_true rfl) (Or.inl ⟨rfl, rfl, fun v M' h => ⟨_, h.1⟩⟩) ?_
  refine xj_iload_n (i := 1) d1_5_0 rfl rfl ?_
  refine xj_callS (rest := []) (As := [.int (nI k)]) (cName hg (M := M) (n := n) (c := nI k) (show M.1 = n by omega) (by omega) ) d1_5_1 wd1_19 w138 (Or.inl w137) rfl rfl (Nat.le_of_ble_eq_true rfl) (by omega) (by omega) (by omega) ?_
  rintro v M' ⟨rfl, hm⟩
  subst M'
  refine xj_if_eq (tgt := 16) d1_5_4 rfl (fun h => absurd h (by rw [xB_t (xname_k hk)]; decide)) (fun _ => ?_)
  refine xj_aload_n (i := 0) d1_5_7 rfl rfl ?_
  refine xj_get d1_5_8 f1_18_0 h_16 (by omega) (show 16 < M.1 by omega) rfl ?_
  refine xj_iload_n (i := 1) d1_5_11 rfl rfl ?_
  refine xj_aaload (j := k) (v := .null) d1_5_12 h_19 (by decide) rfl (by omega) (show 19 < M.1 by omega) (vp_in_nI (by omega) (by omega)) (nI_clamp (by omega)) (by rw [hv]; rfl) ?_
  refine xj_ifnonnullN d1_5_13 ?_
  refine xj_iconst (v := (-1)) d1_5_16 (by decide) ?_
  exact xj_ret d1_5_17 (by omega) (by omega) rfl ⟨rfl, rfl⟩
set_option maxRecDepth 20000 in
theorem xLenY {G : xG} (hg : xGood G) {M : xM} {n : Nat} (hn : M.1 = n) (hx : xn ≤ n) {dl : Nat} {pl : Nat} {vc : Nat} {tk : Nat} {hc : Nat} {op : Nat} {pn : Int32} {lr : Value} {fn : Nat → Option Nat} {k : Nat} {ver : Nat} {tx : Nat} {li : Int32} {tl : Nat} {ft : Nat → Int32} (h1_16 : xn ≤ 16) (h2_16 : 16 < n) (h_16 : M.2 16 = (.inr (0, [.ref 17, .int (nI dl), .ref 18, .int (nI pl), lr, .ref 19, .int (nI vc), .ref op, .ref 22, .int (nI tk), .ref 23, .int (nI hc), .int pn]))) (h1_19 : xn ≤ 19) (h2_19 : 19 < n) (h_19 : M.2 19 = (.inl (5, 10, .inr (.inr (.inr (.inr fn)))))) (h1_ver : xn ≤ ver) (h2_ver : ver < n) (h_ver : M.2 ver = (.inr (3, [.ref tx, .int li]))) (h1_tx : xn ≤ tx) (h2_tx : tx < n) (h_tx : M.2 tx = (.inl (1, tl, .inl ft))) (hk : k < 10) (hv : fn k = some ver) : XC G Y1_5 (some .int) 1 0 0 [.ref 16, .int (nI k)] M (fun v M' => v = some (.int (nI tl)) ∧ M' = M) := by
  refine xc_of hg (by decide) (Nat.le_of_ble_eq_true rfl) (Or.inl ⟨rfl, rfl, fun v M' h => ⟨_, h.1⟩⟩) ?_
  refine xj_iload_n (i := 1) d1_5_0 rfl rfl ?_
  refine xj_callS (rest := []) (As := [.int (nI k)]) (cName hg (M := M) (n := n) (c := nI k) (show M.1 = n by omega) (by omega) ) d1_5_1 wd1_19 w138 (Or.inl w137) rfl rfl (Nat.le_of_ble_eq_true rfl) (by omega) (by omega) (by omega) ?_
  rintro v M' ⟨rfl, hm⟩
  subst M'
  refine xj_if_eq (tgt := 16) d1_5_4 rfl (fun h => absurd h (by rw [xB_t (xname_k hk)]; decide)) (fun _ => ?_)
  refine xj_aload_n (i := 0) d1_5_7 rfl rfl ?_
  refine xj_get d1_5_8 f1_18_0 h_16 (by omega) (show 16 < M.1 by omega) rfl ?_
  refine xj_iload_n (i := 1) d1_5_11 rfl rfl ?_
  refine xj_aaload (j := k) (v := .ref ver) d1_5_12 h_19 (by decide) rfl (by omega) (show 19 < M.1 by omega) (vp_in_nI (by omega) (by omega)) (nI_clamp (by omega)) (by rw [hv]; rfl) ?_
  refine xj_ifnonnull (tgt := 18) d1_5_13 rfl ?_
  refine xj_aload_n (i := 0) d1_5_18 rfl rfl ?_
  refine xj_get d1_5_19 f1_18_0 h_16 (by omega) (show 16 < M.1 by omega) rfl ?_
  refine xj_iload_n (i := 1) d1_5_22 rfl rfl ?_
  refine xj_aaload (j := k) (v := .ref ver) d1_5_23 h_19 (by decide) rfl (by omega) (show 19 < M.1 by omega) (vp_in_nI (by omega) (by omega)) (nI_clamp (by omega)) (by rw [hv]; rfl) ?_
  refine xj_get d1_5_24 f1_76_3 h_ver (by omega) (show ver < M.1 by omega) rfl ?_
  refine xj_alen (v := nI tl) d1_5_27 h_tx (by decide) (by omega) (show tx < M.1 by omega) rfl ?_
  exact xj_ret d1_5_28 (by omega) (by omega) rfl ⟨rfl, rfl⟩
set_option maxRecDepth 20000 in
theorem mWriteY {G : xG} (hg : xGood G) {M : xM} {n : Nat} (hn : M.1 = n) (hx : xn ≤ n) {dl : Nat} {pl : Nat} {vc : Nat} {tk : Nat} {hc : Nat} {sn : Nat} {y13 : Int32} {y22 : Int32} {y23 : Int32} {y24 : Int32} {y33 : Int32} {y36 : Int32} {y37 : Int32} {y38 : Int32} {y39 : Int32} {fd : Nat → Int32} {c : Int32} (h1_24 : xn ≤ 24) (h2_24 : 24 < n) (h_24 : M.2 24 = (.inr (12, [.ref 25, .ref 26, .ref 27, .ref 28, .ref 29, .ref 30, .int (nI sn), .int (nI vc), .int (nI tk), .ref 31, .int (nI dl), .ref 32, .int (nI pl), .int y13, .ref 33, .ref 34, .ref 35, .ref 36, .ref 37, .ref 38, .ref 39, .ref 40, .int y22, .int y23, .int y24, .ref 41, .ref 42, .ref 43, .ref 44, .ref 45, .ref 46, .ref 47, .ref 48, .int y33, .ref 49, .ref 50, .int y36, .int y37, .int y38, .int y39, .int (nI hc), .ref 51]))) (h1_31 : xn ≤ 31) (h2_31 : 31 < n) (h_31 : M.2 31 = (.inl (0, 40, .inl fd))) (hch : c = 10 ∨ (¬ c < 32 ∧ ¬ 126 < c)) (hdl : dl < 40) : XC G Y14_3 (some .boolean) 1 0 0 [.ref 24, .int c] M (fun v M' => v = some (.int 1) ∧ M'.1 = n ∧ (∀ j, j < n → j ≠ 31 → j ≠ 24 → M'.2 j = M.2 j) ∧ M'.2 31 = (.inl (0, 40, .inl (upd fd dl c))) ∧ M'.2 24 = (.inr (12, [.ref 25, .ref 26, .ref 27, .ref 28, .ref 29, .ref 30, .int (nI sn), .int (nI vc), .int (nI tk), .ref 31, .int (nI (dl + 1)), .ref 32, .int (nI pl), .int y13, .ref 33, .ref 34, .ref 35, .ref 36, .ref 37, .ref 38, .ref 39, .ref 40, .int y22, .int y23, .int y24, .ref 41, .ref 42, .ref 43, .ref 44, .ref 45, .ref 46, .ref 47, .ref 48, .int y33, .ref 49, .ref 50, .int y36, .int y37, .int y38, .int y39, .int (nI hc), .ref 51]))) := by
  refine xc_of hg (by decide) (Nat.le_of_ble_eq_true rfl) (Or.inr (Or.inl ⟨rfl, rfl, fun v M' h => ⟨_, h.1, Or.inr rfl⟩⟩)) ?_
  refine xj_iload_n (i := 1) d14_3_0 rfl rfl ?_
  refine xj_callS (rest := []) (As := [.int c]) (mCharacter hg (M := M) (n := n) (c := c) (show M.1 = n by omega) (by omega) ) d14_3_1 wd14_2 w1135 (Or.inl w1134) rfl rfl (Nat.le_of_ble_eq_true rfl) (by omega) (by omega) (by omega) ?_
  rintro v M' ⟨rfl, hm⟩
  subst M'
  refine xj_if_eq (tgt := 16) d14_3_4 rfl (fun h => absurd h (by rw [xB_t hch]; decide)) (fun _ => ?_)
  refine xj_aload_n (i := 0) d14_3_7 rfl rfl ?_
  refine xj_get d14_3_8 f14_97_12 h_24 (by omega) (show 24 < M.1 by omega) rfl ?_
  refine xj_bipush (v := 40) d14_3_11 (by decide) ?_
  refine xj_icmp_ne (tgt := 18) d14_3_13 rfl (fun _ => ?_) (fun h => absurd h (fun h => absurd ((nI_eq (a := dl) (b := 40) (by omega) (by omega)).mp h) (by omega)))
  refine xj_aload_n (i := 0) d14_3_18 rfl rfl ?_
  refine xj_get d14_3_19 f14_29_12 h_24 (by omega) (show 24 < M.1 by omega) rfl ?_
  refine xj_aload_n (i := 0) d14_3_22 rfl rfl ?_
  refine xj_get d14_3_23 f14_97_12 h_24 (by omega) (show 24 < M.1 by omega) rfl ?_
  refine xj_iload_n (i := 1) d14_3_26 rfl rfl ?_
  refine xj_iastore (j := dl) (x' := c) d14_3_27 h_31 (by omega) (show 31 < M.1 by omega) (vp_in_nI (by omega) (by omega)) (nI_clamp (by omega)) rfl ?_
  refine xj_abs_set (fun M1 hs1 ha1 ho1 => ?_)
  refine xj_aload_n (i := 0) d14_3_28 rfl rfl ?_
  refine xj_dup d14_3_29 rfl ?_
  refine xj_get d14_3_30 f14_97_12 ((ho1 24 (by omega)).trans h_24) (by omega) (show 24 < M1.1 by omega) rfl ?_
  refine xj_iconst (v := 1) d14_3_33 (by decide) ?_
  refine xj_iadd (v := nI (dl + 1)) d14_3_34 (nI_1 _) ?_
  refine xj_put (a := 24) (fs' := [.ref 25, .ref 26, .ref 27, .ref 28, .ref 29, .ref 30, .int (nI sn), .int (nI vc), .int (nI tk), .ref 31, .int (nI (dl + 1)), .ref 32, .int (nI pl), .int y13, .ref 33, .ref 34, .ref 35, .ref 36, .ref 37, .ref 38, .ref 39, .ref 40, .int y22, .int y23, .int y24, .ref 41, .ref 42, .ref 43, .ref 44, .ref 45, .ref 46, .ref 47, .ref 48, .int y33, .ref 49, .ref 50, .int y36, .int y37, .int y38, .int y39, .int (nI hc), .ref 51]) d14_3_35 f14_97_12 ((ho1 24 (by omega)).trans h_24) (by omega) (show 24 < M1.1 by omega) (Nat.le_of_ble_eq_true rfl) rfl rfl rfl ?_
  refine xj_abs_set (fun M2 hs2 ha2 ho2 => ?_)
  refine xj_iconst (v := 1) d14_3_38 (by decide) ?_
  exact xj_ret d14_3_39 (by omega) (by omega) rfl ⟨rfl, (show M2.1 = n by omega), (fun j hj hj0 hj1 => ((ho2 j (by omega)).trans (ho1 j (by omega)))), ((ho2 31 (by omega)).trans ha1), ha2⟩
set_option maxRecDepth 20000 in
theorem mWriteN {G : xG} (hg : xGood G) {M : xM} {n : Nat} (hn : M.1 = n) (hx : xn ≤ n) {dl : Nat} {pl : Nat} {vc : Nat} {tk : Nat} {hc : Nat} {sn : Nat} {y13 : Int32} {y22 : Int32} {y23 : Int32} {y24 : Int32} {y33 : Int32} {y36 : Int32} {y37 : Int32} {y38 : Int32} {y39 : Int32} {c : Int32} (h1_24 : xn ≤ 24) (h2_24 : 24 < n) (h_24 : M.2 24 = (.inr (12, [.ref 25, .ref 26, .ref 27, .ref 28, .ref 29, .ref 30, .int (nI sn), .int (nI vc), .int (nI tk), .ref 31, .int (nI dl), .ref 32, .int (nI pl), .int y13, .ref 33, .ref 34, .ref 35, .ref 36, .ref 37, .ref 38, .ref 39, .ref 40, .int y22, .int y23, .int y24, .ref 41, .ref 42, .ref 43, .ref 44, .ref 45, .ref 46, .ref 47, .ref 48, .int y33, .ref 49, .ref 50, .int y36, .int y37, .int y38, .int y39, .int (nI hc), .ref 51]))) (hch : ¬ (c = 10 ∨ (¬ c < 32 ∧ ¬ 126 < c))) : XC G Y14_3 (some .boolean) 1 0 0 [.ref 24, .int c] M (fun v M' => v = some (.int 0) ∧ M' = M) := by
  refine xc_of hg (by decide) (Nat.le_of_ble_eq_true rfl) (Or.inr (Or.inl ⟨rfl, rfl, fun v M' h => ⟨_, h.1, Or.inl rfl⟩⟩)) ?_
  refine xj_iload_n (i := 1) d14_3_0 rfl rfl ?_
  refine xj_callS (rest := []) (As := [.int c]) (mCharacter hg (M := M) (n := n) (c := c) (show M.1 = n by omega) (by omega) ) d14_3_1 wd14_2 w1135 (Or.inl w1134) rfl rfl (Nat.le_of_ble_eq_true rfl) (by omega) (by omega) (by omega) ?_
  rintro v M' ⟨rfl, hm⟩
  subst M'
  refine xj_if_eq (tgt := 16) d14_3_4 rfl (fun _ => ?_) (fun h => absurd (xB_f hch) h)
  refine xj_iconst (v := 0) d14_3_16 (by decide) ?_
  exact xj_ret d14_3_17 (by omega) (by omega) rfl ⟨rfl, rfl⟩
set_option maxRecDepth 20000 in
theorem mWriteF {G : xG} (hg : xGood G) {M : xM} {n : Nat} (hn : M.1 = n) (hx : xn ≤ n) {dl : Nat} {pl : Nat} {vc : Nat} {tk : Nat} {hc : Nat} {sn : Nat} {y13 : Int32} {y22 : Int32} {y23 : Int32} {y24 : Int32} {y33 : Int32} {y36 : Int32} {y37 : Int32} {y38 : Int32} {y39 : Int32} {c : Int32} (h1_24 : xn ≤ 24) (h2_24 : 24 < n) (h_24 : M.2 24 = (.inr (12, [.ref 25, .ref 26, .ref 27, .ref 28, .ref 29, .ref 30, .int (nI sn), .int (nI vc), .int (nI tk), .ref 31, .int (nI dl), .ref 32, .int (nI pl), .int y13, .ref 33, .ref 34, .ref 35, .ref 36, .ref 37, .ref 38, .ref 39, .ref 40, .int y22, .int y23, .int y24, .ref 41, .ref 42, .ref 43, .ref 44, .ref 45, .ref 46, .ref 47, .ref 48, .int y33, .ref 49, .ref 50, .int y36, .int y37, .int y38, .int y39, .int (nI hc), .ref 51]))) (hch : c = 10 ∨ (¬ c < 32 ∧ ¬ 126 < c)) (hdl : dl = 40) : XC G Y14_3 (some .boolean) 1 0 0 [.ref 24, .int c] M (fun v M' => v = some (.int 0) ∧ M' = M) := by
  refine xc_of hg (by decide) (Nat.le_of_ble_eq_true rfl) (Or.inr (Or.inl ⟨rfl, rfl, fun v M' h => ⟨_, h.1, Or.inl rfl⟩⟩)) ?_
  refine xj_iload_n (i := 1) d14_3_0 rfl rfl ?_
  refine xj_callS (rest := []) (As := [.int c]) (mCharacter hg (M := M) (n := n) (c := c) (show M.1 = n by omega) (by omega) ) d14_3_1 wd14_2 w1135 (Or.inl w1134) rfl rfl (Nat.le_of_ble_eq_true rfl) (by omega) (by omega) (by omega) ?_
  rintro v M' ⟨rfl, hm⟩
  subst M'
  refine xj_if_eq (tgt := 16) d14_3_4 rfl (fun h => absurd h (by rw [xB_t hch]; decide)) (fun _ => ?_)
  refine xj_aload_n (i := 0) d14_3_7 rfl rfl ?_
  refine xj_get d14_3_8 f14_97_12 h_24 (by omega) (show 24 < M.1 by omega) rfl ?_
  refine xj_bipush (v := 40) d14_3_11 (by decide) ?_
  refine xj_icmp_ne (tgt := 18) d14_3_13 rfl (fun h => absurd (congrArg nI (show dl = 40 by omega)) h) (fun _ => ?_)
  refine xj_iconst (v := 0) d14_3_16 (by decide) ?_
  exact xj_ret d14_3_17 (by omega) (by omega) rfl ⟨rfl, rfl⟩
set_option maxRecDepth 20000 in
theorem mTypeY {G : xG} (hg : xGood G) {M : xM} {n : Nat} (hn : M.1 = n) (hx : xn ≤ n) {dl : Nat} {pl : Nat} {vc : Nat} {tk : Nat} {hc : Nat} {sn : Nat} {y13 : Int32} {y22 : Int32} {y23 : Int32} {y24 : Int32} {y33 : Int32} {y36 : Int32} {y37 : Int32} {y38 : Int32} {y39 : Int32} {fp : Nat → Int32} {c : Int32} (h1_24 : xn ≤ 24) (h2_24 : 24 < n) (h_24 : M.2 24 = (.inr (12, [.ref 25, .ref 26, .ref 27, .ref 28, .ref 29, .ref 30, .int (nI sn), .int (nI vc), .int (nI tk), .ref 31, .int (nI dl), .ref 32, .int (nI pl), .int y13, .ref 33, .ref 34, .ref 35, .ref 36, .ref 37, .ref 38, .ref 39, .ref 40, .int y22, .int y23, .int y24, .ref 41, .ref 42, .ref 43, .ref 44, .ref 45, .ref 46, .ref 47, .ref 48, .int y33, .ref 49, .ref 50, .int y36, .int y37, .int y38, .int y39, .int (nI hc), .ref 51]))) (h1_32 : xn ≤ 32) (h2_32 : 32 < n) (h_32 : M.2 32 = (.inl (0, 24, .inl fp))) (hch : ¬ c < 32 ∧ ¬ 126 < c) (hpl : pl < 24) : XC G Y14_17 (some .boolean) 0 0 0 [.ref 24, .int c] M (fun v M' => v = some (.int 1) ∧ M'.1 = n ∧ (∀ j, j < n → j ≠ 32 → j ≠ 24 → M'.2 j = M.2 j) ∧ M'.2 32 = (.inl (0, 24, .inl (upd fp pl c))) ∧ M'.2 24 = (.inr (12, [.ref 25, .ref 26, .ref 27, .ref 28, .ref 29, .ref 30, .int (nI sn), .int (nI vc), .int (nI tk), .ref 31, .int (nI dl), .ref 32, .int (nI (pl + 1)), .int y13, .ref 33, .ref 34, .ref 35, .ref 36, .ref 37, .ref 38, .ref 39, .ref 40, .int y22, .int y23, .int y24, .ref 41, .ref 42, .ref 43, .ref 44, .ref 45, .ref 46, .ref 47, .ref 48, .int y33, .ref 49, .ref 50, .int y36, .int y37, .int y38, .int y39, .int (nI hc), .ref 51]))) := by
  refine xc_of hg (by decide) (Nat.le_of_ble_eq_true rfl) (Or.inr (Or.inl ⟨rfl, rfl, fun v M' h => ⟨_, h.1, Or.inr rfl⟩⟩)) ?_
  refine xj_iload_n (i := 1) d14_17_0 rfl rfl ?_
  refine xj_bipush (v := 32) d14_17_1 (by decide) ?_
  refine xj_icmp_lt (tgt := 21) d14_17_3 rfl (fun h => absurd h hch.1) (fun _ => ?_)
  refine xj_iload_n (i := 1) d14_17_6 rfl rfl ?_
  refine xj_bipush (v := 126) d14_17_7 (by decide) ?_
  refine xj_icmp_gt (tgt := 21) d14_17_9 rfl (fun h => absurd h hch.2) (fun _ => ?_)
  refine xj_aload_n (i := 0) d14_17_12 rfl rfl ?_
  refine xj_get d14_17_13 f14_130_12 h_24 (by omega) (show 24 < M.1 by omega) rfl ?_
  refine xj_bipush (v := 24) d14_17_16 (by decide) ?_
  refine xj_icmp_ne (tgt := 23) d14_17_18 rfl (fun _ => ?_) (fun h => absurd h (fun h => absurd ((nI_eq (a := pl) (b := 24) (by omega) (by omega)).mp h) (by omega)))
  refine xj_aload_n (i := 0) d14_17_23 rfl rfl ?_
  refine xj_get d14_17_24 f14_32_12 h_24 (by omega) (show 24 < M.1 by omega) rfl ?_
  refine xj_aload_n (i := 0) d14_17_27 rfl rfl ?_
  refine xj_get d14_17_28 f14_130_12 h_24 (by omega) (show 24 < M.1 by omega) rfl ?_
  refine xj_iload_n (i := 1) d14_17_31 rfl rfl ?_
  refine xj_iastore (j := pl) (x' := c) d14_17_32 h_32 (by omega) (show 32 < M.1 by omega) (vp_in_nI (by omega) (by omega)) (nI_clamp (by omega)) rfl ?_
  refine xj_abs_set (fun M1 hs1 ha1 ho1 => ?_)
  refine xj_aload_n (i := 0) d14_17_33 rfl rfl ?_
  refine xj_dup d14_17_34 rfl ?_
  refine xj_get d14_17_35 f14_130_12 ((ho1 24 (by omega)).trans h_24) (by omega) (show 24 < M1.1 by omega) rfl ?_
  refine xj_iconst (v := 1) d14_17_38 (by decide) ?_
  refine xj_iadd (v := nI (pl + 1)) d14_17_39 (nI_1 _) ?_
  refine xj_put (a := 24) (fs' := [.ref 25, .ref 26, .ref 27, .ref 28, .ref 29, .ref 30, .int (nI sn), .int (nI vc), .int (nI tk), .ref 31, .int (nI dl), .ref 32, .int (nI (pl + 1)), .int y13, .ref 33, .ref 34, .ref 35, .ref 36, .ref 37, .ref 38, .ref 39, .ref 40, .int y22, .int y23, .int y24, .ref 41, .ref 42, .ref 43, .ref 44, .ref 45, .ref 46, .ref 47, .ref 48, .int y33, .ref 49, .ref 50, .int y36, .int y37, .int y38, .int y39, .int (nI hc), .ref 51]) d14_17_40 f14_130_12 ((ho1 24 (by omega)).trans h_24) (by omega) (show 24 < M1.1 by omega) (Nat.le_of_ble_eq_true rfl) rfl rfl rfl ?_
  refine xj_abs_set (fun M2 hs2 ha2 ho2 => ?_)
  refine xj_iconst (v := 1) d14_17_43 (by decide) ?_
  exact xj_ret d14_17_44 (by omega) (by omega) rfl ⟨rfl, (show M2.1 = n by omega), (fun j hj hj0 hj1 => ((ho2 j (by omega)).trans (ho1 j (by omega)))), ((ho2 32 (by omega)).trans ha1), ha2⟩
set_option maxRecDepth 20000 in
theorem mTypeN {G : xG} (hg : xGood G) {M : xM} {n : Nat} (hn : M.1 = n) (hx : xn ≤ n) {dl : Nat} {pl : Nat} {vc : Nat} {tk : Nat} {hc : Nat} {sn : Nat} {y13 : Int32} {y22 : Int32} {y23 : Int32} {y24 : Int32} {y33 : Int32} {y36 : Int32} {y37 : Int32} {y38 : Int32} {y39 : Int32} {c : Int32} (h1_24 : xn ≤ 24) (h2_24 : 24 < n) (h_24 : M.2 24 = (.inr (12, [.ref 25, .ref 26, .ref 27, .ref 28, .ref 29, .ref 30, .int (nI sn), .int (nI vc), .int (nI tk), .ref 31, .int (nI dl), .ref 32, .int (nI pl), .int y13, .ref 33, .ref 34, .ref 35, .ref 36, .ref 37, .ref 38, .ref 39, .ref 40, .int y22, .int y23, .int y24, .ref 41, .ref 42, .ref 43, .ref 44, .ref 45, .ref 46, .ref 47, .ref 48, .int y33, .ref 49, .ref 50, .int y36, .int y37, .int y38, .int y39, .int (nI hc), .ref 51]))) (hch : ¬ (¬ c < 32 ∧ ¬ 126 < c)) : XC G Y14_17 (some .boolean) 0 0 0 [.ref 24, .int c] M (fun v M' => v = some (.int 0) ∧ M' = M) := by
  refine xc_of hg (by decide) (Nat.le_of_ble_eq_true rfl) (Or.inr (Or.inl ⟨rfl, rfl, fun v M' h => ⟨_, h.1, Or.inl rfl⟩⟩)) ?_
  refine xj_iload_n (i := 1) d14_17_0 rfl rfl ?_
  refine xj_bipush (v := 32) d14_17_1 (by decide) ?_
  refine xj_icmp_lt (tgt := 21) d14_17_3 rfl (fun hb1 => ?_) (fun hb1 => ?_)
  · refine xj_iconst (v := 0) d14_17_21 (by decide) ?_
    exact xj_ret d14_17_22 (by omega) (by omega) rfl ⟨rfl, rfl⟩
  · refine xj_iload_n (i := 1) d14_17_6 rfl rfl ?_
    refine xj_bipush (v := 126) d14_17_7 (by decide) ?_
    refine xj_icmp_gt (tgt := 21) d14_17_9 rfl (fun _ => ?_) (fun h => absurd (Classical.byContradiction fun q => hch ⟨hb1, q⟩) h)
    refine xj_iconst (v := 0) d14_17_21 (by decide) ?_
    exact xj_ret d14_17_22 (by omega) (by omega) rfl ⟨rfl, rfl⟩
set_option maxRecDepth 20000 in
theorem mTypeF {G : xG} (hg : xGood G) {M : xM} {n : Nat} (hn : M.1 = n) (hx : xn ≤ n) {dl : Nat} {pl : Nat} {vc : Nat} {tk : Nat} {hc : Nat} {sn : Nat} {y13 : Int32} {y22 : Int32} {y23 : Int32} {y24 : Int32} {y33 : Int32} {y36 : Int32} {y37 : Int32} {y38 : Int32} {y39 : Int32} {c : Int32} (h1_24 : xn ≤ 24) (h2_24 : 24 < n) (h_24 : M.2 24 = (.inr (12, [.ref 25, .ref 26, .ref 27, .ref 28, .ref 29, .ref 30, .int (nI sn), .int (nI vc), .int (nI tk), .ref 31, .int (nI dl), .ref 32, .int (nI pl), .int y13, .ref 33, .ref 34, .ref 35, .ref 36, .ref 37, .ref 38, .ref 39, .ref 40, .int y22, .int y23, .int y24, .ref 41, .ref 42, .ref 43, .ref 44, .ref 45, .ref 46, .ref 47, .ref 48, .int y33, .ref 49, .ref 50, .int y36, .int y37, .int y38, .int y39, .int (nI hc), .ref 51]))) (hch : ¬ c < 32 ∧ ¬ 126 < c) (hpl : pl = 24) : XC G Y14_17 (some .boolean) 0 0 0 [.ref 24, .int c] M (fun v M' => v = some (.int 0) ∧ M' = M) := by
  refine xc_of hg (by decide) (Nat.le_of_ble_eq_true rfl) (Or.inr (Or.inl ⟨rfl, rfl, fun v M' h => ⟨_, h.1, Or.inl rfl⟩⟩)) ?_
  refine xj_iload_n (i := 1) d14_17_0 rfl rfl ?_
  refine xj_bipush (v := 32) d14_17_1 (by decide) ?_
  refine xj_icmp_lt (tgt := 21) d14_17_3 rfl (fun h => absurd h hch.1) (fun _ => ?_)
  refine xj_iload_n (i := 1) d14_17_6 rfl rfl ?_
  refine xj_bipush (v := 126) d14_17_7 (by decide) ?_
  refine xj_icmp_gt (tgt := 21) d14_17_9 rfl (fun h => absurd h hch.2) (fun _ => ?_)
  refine xj_aload_n (i := 0) d14_17_12 rfl rfl ?_
  refine xj_get d14_17_13 f14_130_12 h_24 (by omega) (show 24 < M.1 by omega) rfl ?_
  refine xj_bipush (v := 24) d14_17_16 (by decide) ?_
  refine xj_icmp_ne (tgt := 23) d14_17_18 rfl (fun h => absurd (congrArg nI (show pl = 24 by omega)) h) (fun _ => ?_)
  refine xj_iconst (v := 0) d14_17_21 (by decide) ?_
  exact xj_ret d14_17_22 (by omega) (by omega) rfl ⟨rfl, rfl⟩
set_option maxRecDepth 20000 in
theorem mBackY {G : xG} (hg : xGood G) {M : xM} {n : Nat} (hn : M.1 = n) (hx : xn ≤ n) {dl : Nat} {pl : Nat} {vc : Nat} {tk : Nat} {hc : Nat} {sn : Nat} {y13 : Int32} {y22 : Int32} {y23 : Int32} {y24 : Int32} {y33 : Int32} {y36 : Int32} {y37 : Int32} {y38 : Int32} {y39 : Int32} (h1_24 : xn ≤ 24) (h2_24 : 24 < n) (h_24 : M.2 24 = (.inr (12, [.ref 25, .ref 26, .ref 27, .ref 28, .ref 29, .ref 30, .int (nI sn), .int (nI vc), .int (nI tk), .ref 31, .int (nI dl), .ref 32, .int (nI (pl + 1)), .int y13, .ref 33, .ref 34, .ref 35, .ref 36, .ref 37, .ref 38, .ref 39, .ref 40, .int y22, .int y23, .int y24, .ref 41, .ref 42, .ref 43, .ref 44, .ref 45, .ref 46, .ref 47, .ref 48, .int y33, .ref 49, .ref 50, .int y36, .int y37, .int y38, .int y39, .int (nI hc), .ref 51]))) (hpl : pl < 24) : XC G Y14_18 (some .int) 0 0 0 [.ref 24] M (fun v M' => v = some (.int (nI pl)) ∧ M'.1 = n ∧ (∀ j, j < n → j ≠ 24 → M'.2 j = M.2 j) ∧ M'.2 24 = (.inr (12, [.ref 25, .ref 26, .ref 27, .ref 28, .ref 29, .ref 30, .int (nI sn), .int (nI vc), .int (nI tk), .ref 31, .int (nI dl), .ref 32, .int (nI pl), .int y13, .ref 33, .ref 34, .ref 35, .ref 36, .ref 37, .ref 38, .ref 39, .ref 40, .int y22, .int y23, .int y24, .ref 41, .ref 42, .ref 43, .ref 44, .ref 45, .ref 46, .ref 47, .ref 48, .int y33, .ref 49, .ref 50, .int y36, .int y37, .int y38, .int y39, .int (nI hc), .ref 51]))) := by
  refine xc_of hg (by decide) (Nat.le_of_ble_eq_true rfl) (Or.inl ⟨rfl, rfl, fun v M' h => ⟨_, h.1⟩⟩) ?_
  refine xj_aload_n (i := 0) d14_18_0 rfl rfl ?_
  refine xj_aload_n (i := 0) d14_18_1 rfl rfl ?_
  refine xj_get d14_18_2 f14_130_12 h_24 (by omega) (show 24 < M.1 by omega) rfl ?_
  refine xj_if_ne (tgt := 12) d14_18_5 rfl (fun _ => ?_) (fun h => absurd h (fun h => absurd ((nI_eq (a := pl + 1) (b := 0) (by omega) (by omega)).mp h) (by omega)))
  refine xj_aload_n (i := 0) d14_18_12 rfl rfl ?_
  refine xj_get d14_18_13 f14_130_12 h_24 (by omega) (show 24 < M.1 by omega) rfl ?_
  refine xj_iconst (v := 1) d14_18_16 (by decide) ?_
  refine xj_isub (v := nI pl) d14_18_17 (nI_pred pl) ?_
  refine xj_put (a := 24) (fs' := [.ref 25, .ref 26, .ref 27, .ref 28, .ref 29, .ref 30, .int (nI sn), .int (nI vc), .int (nI tk), .ref 31, .int (nI dl), .ref 32, .int (nI pl), .int y13, .ref 33, .ref 34, .ref 35, .ref 36, .ref 37, .ref 38, .ref 39, .ref 40, .int y22, .int y23, .int y24, .ref 41, .ref 42, .ref 43, .ref 44, .ref 45, .ref 46, .ref 47, .ref 48, .int y33, .ref 49, .ref 50, .int y36, .int y37, .int y38, .int y39, .int (nI hc), .ref 51]) d14_18_18 f14_130_12 h_24 (by omega) (show 24 < M.1 by omega) (Nat.le_of_ble_eq_true rfl) rfl rfl rfl ?_
  refine xj_abs_set (fun M1 hs1 ha1 ho1 => ?_)
  refine xj_aload_n (i := 0) d14_18_21 rfl rfl ?_
  refine xj_get d14_18_22 f14_130_12 ha1 (by omega) (show 24 < M1.1 by omega) rfl ?_
  exact xj_ret d14_18_25 (by omega) (by omega) rfl ⟨rfl, (show M1.1 = n by omega), (fun j hj hj0 => (ho1 j (by omega))), ha1⟩
set_option maxRecDepth 20000 in
theorem mBackN {G : xG} (hg : xGood G) {M : xM} {n : Nat} (hn : M.1 = n) (hx : xn ≤ n) {dl : Nat} {pl : Nat} {vc : Nat} {tk : Nat} {hc : Nat} {sn : Nat} {y13 : Int32} {y22 : Int32} {y23 : Int32} {y24 : Int32} {y33 : Int32} {y36 : Int32} {y37 : Int32} {y38 : Int32} {y39 : Int32} (h1_24 : xn ≤ 24) (h2_24 : 24 < n) (h_24 : M.2 24 = (.inr (12, [.ref 25, .ref 26, .ref 27, .ref 28, .ref 29, .ref 30, .int (nI sn), .int (nI vc), .int (nI tk), .ref 31, .int (nI dl), .ref 32, .int (nI 0), .int y13, .ref 33, .ref 34, .ref 35, .ref 36, .ref 37, .ref 38, .ref 39, .ref 40, .int y22, .int y23, .int y24, .ref 41, .ref 42, .ref 43, .ref 44, .ref 45, .ref 46, .ref 47, .ref 48, .int y33, .ref 49, .ref 50, .int y36, .int y37, .int y38, .int y39, .int (nI hc), .ref 51]))) : XC G Y14_18 (some .int) 0 0 0 [.ref 24] M (fun v M' => v = some (.int 0) ∧ M'.1 = n ∧ (∀ j, j < n → j ≠ 24 → M'.2 j = M.2 j) ∧ M'.2 24 = (.inr (12, [.ref 25, .ref 26, .ref 27, .ref 28, .ref 29, .ref 30, .int (nI sn), .int (nI vc), .int (nI tk), .ref 31, .int (nI dl), .ref 32, .int 0, .int y13, .ref 33, .ref 34, .ref 35, .ref 36, .ref 37, .ref 38, .ref 39, .ref 40, .int y22, .int y23, .int y24, .ref 41, .ref 42, .ref 43, .ref 44, .ref 45, .ref 46, .ref 47, .ref 48, .int y33, .ref 49, .ref 50, .int y36, .int y37, .int y38, .int y39, .int (nI hc), .ref 51]))) := by
  refine xc_of hg (by decide) (Nat.le_of_ble_eq_true rfl) (Or.inl ⟨rfl, rfl, fun v M' h => ⟨_, h.1⟩⟩) ?_
  refine xj_aload_n (i := 0) d14_18_0 rfl rfl ?_
  refine xj_aload_n (i := 0) d14_18_1 rfl rfl ?_
  refine xj_get d14_18_2 f14_130_12 h_24 (by omega) (show 24 < M.1 by omega) rfl ?_
  refine xj_if_ne (tgt := 12) d14_18_5 rfl (fun h => absurd (congrArg nI (show 0 = 0 by omega)) h) (fun _ => ?_)
  refine xj_iconst (v := 0) d14_18_8 (by decide) ?_
  refine xj_goto (tgt := 18) d14_18_9 rfl ?_
  refine xj_put (a := 24) (fs' := [.ref 25, .ref 26, .ref 27, .ref 28, .ref 29, .ref 30, .int (nI sn), .int (nI vc), .int (nI tk), .ref 31, .int (nI dl), .ref 32, .int 0, .int y13, .ref 33, .ref 34, .ref 35, .ref 36, .ref 37, .ref 38, .ref 39, .ref 40, .int y22, .int y23, .int y24, .ref 41, .ref 42, .ref 43, .ref 44, .ref 45, .ref 46, .ref 47, .ref 48, .int y33, .ref 49, .ref 50, .int y36, .int y37, .int y38, .int y39, .int (nI hc), .ref 51]) d14_18_18 f14_130_12 h_24 (by omega) (show 24 < M.1 by omega) (Nat.le_of_ble_eq_true rfl) rfl rfl rfl ?_
  refine xj_abs_set (fun M1 hs1 ha1 ho1 => ?_)
  refine xj_aload_n (i := 0) d14_18_21 rfl rfl ?_
  refine xj_get d14_18_22 f14_130_12 ha1 (by omega) (show 24 < M1.1 by omega) rfl ?_
  exact xj_ret d14_18_25 (by omega) (by omega) rfl ⟨rfl, (show M1.1 = n by omega), (fun j hj hj0 => (ho1 j (by omega))), ha1⟩
set_option maxRecDepth 20000 in
theorem mPossible {G : xG} (hg : xGood G) {M : xM} {n : Nat} (hn : M.1 = n) (hx : xn ≤ n) {dl : Nat} {pl : Nat} {vc : Nat} {tk : Nat} {hc : Nat} {sn : Nat} {y13 : Int32} {y22 : Int32} {y23 : Int32} {y24 : Int32} {y33 : Int32} {y36 : Int32} {y37 : Int32} {y38 : Int32} {y39 : Int32} (h1_24 : xn ≤ 24) (h2_24 : 24 < n) (h_24 : M.2 24 = (.inr (12, [.ref 25, .ref 26, .ref 27, .ref 28, .ref 29, .ref 30, .int (nI sn), .int (nI vc), .int (nI tk), .ref 31, .int (nI dl), .ref 32, .int (nI pl), .int y13, .ref 33, .ref 34, .ref 35, .ref 36, .ref 37, .ref 38, .ref 39, .ref 40, .int y22, .int y23, .int y24, .ref 41, .ref 42, .ref 43, .ref 44, .ref 45, .ref 46, .ref 47, .ref 48, .int y33, .ref 49, .ref 50, .int y36, .int y37, .int y38, .int y39, .int (nI hc), .ref 51]))) : XC G Y14_62 (some .int) 0 0 0 [.ref 24] M (fun v M' => v = some (.int y39) ∧ M' = M) := by
  refine xc_of hg (by decide) (Nat.le_of_ble_eq_true rfl) (Or.inl ⟨rfl, rfl, fun v M' h => ⟨_, h.1⟩⟩) ?_
  refine xj_aload_n (i := 0) d14_62_0 rfl rfl ?_
  refine xj_get d14_62_1 f14_286_12 h_24 (by omega) (show 24 < M.1 by omega) rfl ?_
  exact xj_ret d14_62_4 (by omega) (by omega) rfl ⟨rfl, rfl⟩
set_option maxRecDepth 20000 in
theorem mLeft {G : xG} (hg : xGood G) {M : xM} {n : Nat} (hn : M.1 = n) (hx : xn ≤ n) {dl : Nat} {pl : Nat} {vc : Nat} {tk : Nat} {hc : Nat} {sn : Nat} {y13 : Int32} {y22 : Int32} {y23 : Int32} {y24 : Int32} {y33 : Int32} {y36 : Int32} {y37 : Int32} {y38 : Int32} {y39 : Int32} (h1_24 : xn ≤ 24) (h2_24 : 24 < n) (h_24 : M.2 24 = (.inr (12, [.ref 25, .ref 26, .ref 27, .ref 28, .ref 29, .ref 30, .int (nI sn), .int (nI vc), .int (nI tk), .ref 31, .int (nI dl), .ref 32, .int (nI pl), .int y13, .ref 33, .ref 34, .ref 35, .ref 36, .ref 37, .ref 38, .ref 39, .ref 40, .int y22, .int y23, .int y24, .ref 41, .ref 42, .ref 43, .ref 44, .ref 45, .ref 46, .ref 47, .ref 48, .int y33, .ref 49, .ref 50, .int y36, .int y37, .int y38, .int y39, .int (nI hc), .ref 51]))) : XC G Y14_14 (some .int) 0 0 0 [.ref 24] M (fun v M' => v = some (.int (nI tk)) ∧ M' = M) := by
  refine xc_of hg (by decide) (Nat.le_of_ble_eq_true rfl) (Or.inl ⟨rfl, rfl, fun v M' h => ⟨_, h.1⟩⟩) ?_
  refine xj_aload_n (i := 0) d14_14_0 rfl rfl ?_
  refine xj_get d14_14_1 f14_120_12 h_24 (by omega) (show 24 < M.1 by omega) rfl ?_
  exact xj_ret d14_14_4 (by omega) (by omega) rfl ⟨rfl, rfl⟩
set_option maxRecDepth 20000 in
theorem mShards {G : xG} (hg : xGood G) {M : xM} {n : Nat} (hn : M.1 = n) (hx : xn ≤ n) {dl : Nat} {pl : Nat} {vc : Nat} {tk : Nat} {hc : Nat} {sn : Nat} {y13 : Int32} {y22 : Int32} {y23 : Int32} {y24 : Int32} {y33 : Int32} {y36 : Int32} {y37 : Int32} {y38 : Int32} {y39 : Int32} (h1_24 : xn ≤ 24) (h2_24 : 24 < n) (h_24 : M.2 24 = (.inr (12, [.ref 25, .ref 26, .ref 27, .ref 28, .ref 29, .ref 30, .int (nI sn), .int (nI vc), .int (nI tk), .ref 31, .int (nI dl), .ref 32, .int (nI pl), .int y13, .ref 33, .ref 34, .ref 35, .ref 36, .ref 37, .ref 38, .ref 39, .ref 40, .int y22, .int y23, .int y24, .ref 41, .ref 42, .ref 43, .ref 44, .ref 45, .ref 46, .ref 47, .ref 48, .int y33, .ref 49, .ref 50, .int y36, .int y37, .int y38, .int y39, .int (nI hc), .ref 51]))) : XC G Y14_11 (some .int) 0 0 0 [.ref 24] M (fun v M' => v = some (.int (nI sn)) ∧ M' = M) := by
  refine xc_of hg (by decide) (Nat.le_of_ble_eq_true rfl) (Or.inl ⟨rfl, rfl, fun v M' h => ⟨_, h.1⟩⟩) ?_
  refine xj_aload_n (i := 0) d14_11_0 rfl rfl ?_
  refine xj_get d14_11_1 f14_114_12 h_24 (by omega) (show 24 < M.1 by omega) rfl ?_
  exact xj_ret d14_11_4 (by omega) (by omega) rfl ⟨rfl, rfl⟩
set_option maxRecDepth 20000 in
theorem mHitY {G : xG} (hg : xGood G) {M : xM} {n : Nat} (hn : M.1 = n) (hx : xn ≤ n) {dl : Nat} {pl : Nat} {vc : Nat} {tk : Nat} {hc : Nat} {sn : Nat} {y13 : Int32} {y22 : Int32} {y23 : Int32} {y24 : Int32} {y33 : Int32} {y36 : Int32} {y37 : Int32} {y38 : Int32} {y39 : Int32} {fh : Nat → Int32} {k : Nat} (h1_24 : xn ≤ 24) (h2_24 : 24 < n) (h_24 : M.2 24 = (.inr (12, [.ref 25, .ref 26, .ref 27, .ref 28, .ref 29, .ref 30, .int (nI sn), .int (nI vc), .int (nI tk), .ref 31, .int (nI dl), .ref 32, .int (nI pl), .int y13, .ref 33, .ref 34, .ref 35, .ref 36, .ref 37, .ref 38, .ref 39, .ref 40, .int y22, .int y23, .int y24, .ref 41, .ref 42, .ref 43, .ref 44, .ref 45, .ref 46, .ref 47, .ref 48, .int y33, .ref 49, .ref 50, .int y36, .int y37, .int 1, .int y39, .int (nI hc), .ref 51]))) (h1_51 : xn ≤ 51) (h2_51 : 51 < n) (h_51 : M.2 51 = (.inl (0, 420, .inl fh))) (hk : k < hc) (hhc : hc ≤ 410) : XC G Y14_63 (some .int) 0 0 0 [.ref 24, .int (nI k)] M (fun v M' => v = some (.int (fh k)) ∧ M' = M) := by
  refine xc_of hg (by decide) (Nat.le_of_ble_eq_true rfl) (Or.inl ⟨rfl, rfl, fun v M' h => ⟨_, h.1⟩⟩) ?_
  refine xj_aload_n (i := 0) d14_63_0 rfl rfl ?_
  refine xj_get d14_63_1 f14_283_12 h_24 (by omega) (show 24 < M.1 by omega) rfl ?_
  refine xj_if_eq (tgt := 28) d14_63_4 rfl (fun h => absurd h (by decide)) (fun _ => ?_)
  refine xj_iload_n (i := 1) d14_63_7 rfl rfl ?_
  refine xj_if_lt (tgt := 28) d14_63_8 rfl (fun h => absurd h (nI_nlt (a := k) (b := 0) (by omega) (by omega))) (fun _ => ?_)
  refine xj_iload_n (i := 1) d14_63_11 rfl rfl ?_
  refine xj_aload_n (i := 0) d14_63_12 rfl rfl ?_
  refine xj_get d14_63_13 f14_275_12 h_24 (by omega) (show 24 < M.1 by omega) rfl ?_
  refine xj_icmp_ge (tgt := 28) d14_63_16 rfl (fun h => absurd h (nI_ge (a := k) (b := hc) (by omega) (by omega))) (fun _ => ?_)
  refine xj_aload_n (i := 0) d14_63_19 rfl rfl ?_
  refine xj_get d14_63_20 f14_90_12 h_24 (by omega) (show 24 < M.1 by omega) rfl ?_
  refine xj_iload_n (i := 1) d14_63_23 rfl rfl ?_
  refine xj_iaload (j := k) d14_63_24 h_51 (by omega) (show 51 < M.1 by omega) (vp_in_nI (by omega) (by omega)) (nI_clamp (by omega)) ?_
  refine xj_goto (tgt := 29) d14_63_25 rfl ?_
  exact xj_ret d14_63_29 (by omega) (by omega) rfl ⟨rfl, rfl⟩
set_option maxRecDepth 20000 in
theorem mHitN {G : xG} (hg : xGood G) {M : xM} {n : Nat} (hn : M.1 = n) (hx : xn ≤ n) {dl : Nat} {pl : Nat} {vc : Nat} {tk : Nat} {hc : Nat} {sn : Nat} {y13 : Int32} {y22 : Int32} {y23 : Int32} {y24 : Int32} {y33 : Int32} {y36 : Int32} {y37 : Int32} {y38 : Int32} {y39 : Int32} {c : Int32} (h1_24 : xn ≤ 24) (h2_24 : 24 < n) (h_24 : M.2 24 = (.inr (12, [.ref 25, .ref 26, .ref 27, .ref 28, .ref 29, .ref 30, .int (nI sn), .int (nI vc), .int (nI tk), .ref 31, .int (nI dl), .ref 32, .int (nI pl), .int y13, .ref 33, .ref 34, .ref 35, .ref 36, .ref 37, .ref 38, .ref 39, .ref 40, .int y22, .int y23, .int y24, .ref 41, .ref 42, .ref 43, .ref 44, .ref 45, .ref 46, .ref 47, .ref 48, .int y33, .ref 49, .ref 50, .int y36, .int y37, .int y38, .int y39, .int (nI hc), .ref 51]))) (hk : c < 0 ∨ nI hc ≤ c) : XC G Y14_63 (some .int) 0 0 0 [.ref 24, .int c] M (fun v M' => v = some (.int (-1)) ∧ M' = M) := by
  refine xc_of hg (by decide) (Nat.le_of_ble_eq_true rfl) (Or.inl ⟨rfl, rfl, fun v M' h => ⟨_, h.1⟩⟩) ?_
  refine xj_aload_n (i := 0) d14_63_0 rfl rfl ?_
  refine xj_get d14_63_1 f14_283_12 h_24 (by omega) (show 24 < M.1 by omega) rfl ?_
  refine xj_if_eq (tgt := 28) d14_63_4 rfl (fun hb0 => ?_) (fun hb0 => ?_)
  · refine xj_iconst (v := (-1)) d14_63_28 (by decide) ?_
    exact xj_ret d14_63_29 (by omega) (by omega) rfl ⟨rfl, rfl⟩
  · refine xj_iload_n (i := 1) d14_63_7 rfl rfl ?_
    refine xj_if_lt (tgt := 28) d14_63_8 rfl (fun hb1 => ?_) (fun hb1 => ?_)
    · refine xj_iconst (v := (-1)) d14_63_28 (by decide) ?_
      exact xj_ret d14_63_29 (by omega) (by omega) rfl ⟨rfl, rfl⟩
    · refine xj_iload_n (i := 1) d14_63_11 rfl rfl ?_
      refine xj_aload_n (i := 0) d14_63_12 rfl rfl ?_
      refine xj_get d14_63_13 f14_275_12 h_24 (by omega) (show 24 < M.1 by omega) rfl ?_
      refine xj_icmp_ge (tgt := 28) d14_63_16 rfl (fun _ => ?_) (fun h => absurd (hk.resolve_left hb1) h)
      refine xj_iconst (v := (-1)) d14_63_28 (by decide) ?_
      exact xj_ret d14_63_29 (by omega) (by omega) rfl ⟨rfl, rfl⟩
set_option maxRecDepth 20000 in
theorem mDropY {G : xG} (hg : xGood G) {M : xM} {n : Nat} (hn : M.1 = n) (hx : xn ≤ n) {dl : Nat} {pl : Nat} {vc : Nat} {tk : Nat} {hc : Nat} {sn : Nat} {y13 : Int32} {y22 : Int32} {y23 : Int32} {y24 : Int32} {y33 : Int32} {y36 : Int32} {y37 : Int32} {y38 : Int32} {y39 : Int32} {cu : Nat → Int32} {li : Nat → Int32} {k : Nat} {sl : Nat} (h1_24 : xn ≤ 24) (h2_24 : 24 < n) (h_24 : M.2 24 = (.inr (12, [.ref 25, .ref 26, .ref 27, .ref 28, .ref 29, .ref 30, .int (nI sn), .int (nI vc), .int (nI tk), .ref 31, .int (nI dl), .ref 32, .int (nI pl), .int y13, .ref 33, .ref 34, .ref 35, .ref 36, .ref 37, .ref 38, .ref 39, .ref 40, .int y22, .int y23, .int y24, .ref 41, .ref 42, .ref 43, .ref 44, .ref 45, .ref 46, .ref 47, .ref 48, .int y33, .ref 49, .ref 50, .int y36, .int y37, .int y38, .int y39, .int (nI hc), .ref 51]))) (h1_29 : xn ≤ 29) (h2_29 : 29 < n) (h_29 : M.2 29 = (.inl (0, 10, .inl cu))) (h1_27 : xn ≤ 27) (h2_27 : 27 < n) (h_27 : M.2 27 = (.inl (2, 128, .inl li))) (hk : k < 10) (hv : cu k = nI sl) (hsl : sl < 128) : XC G Y14_5 (some .boolean) 0 0 0 [.ref 24, .int (nI k)] M (fun v M' => v = some (.int 1) ∧ M'.1 = n ∧ (∀ j, j < n → j ≠ 27 → j ≠ 29 → M'.2 j = M.2 j) ∧ M'.2 27 = (.inl (2, 128, .inl (upd li sl 0))) ∧ M'.2 29 = (.inl (0, 10, .inl (upd cu k (-1))))) := by
  refine xc_of hg (by decide) (Nat.le_of_ble_eq_true rfl) (Or.inr (Or.inl ⟨rfl, rfl, fun v M' h => ⟨_, h.1, Or.inr rfl⟩⟩)) ?_
  refine xj_iload_n (i := 1) d14_5_0 rfl rfl ?_
  refine xj_if_lt (tgt := 19) d14_5_1 rfl (fun h => absurd h (nI_nlt (a := k) (b := 0) (by omega) (by omega))) (fun _ => ?_)
  refine xj_iload_n (i := 1) d14_5_4 rfl rfl ?_
  refine xj_bipush (v := 9) d14_5_5 (by decide) ?_
  refine xj_icmp_gt (tgt := 19) d14_5_7 rfl (fun h => absurd h (nI_nlt (a := 9) (b := k) (by omega) (by omega))) (fun _ => ?_)
  refine xj_aload_n (i := 0) d14_5_10 rfl rfl ?_
  refine xj_get d14_5_11 f14_23_12 h_24 (by omega) (show 24 < M.1 by omega) rfl ?_
  refine xj_iload_n (i := 1) d14_5_14 rfl rfl ?_
  refine xj_iaload (j := k) d14_5_15 h_29 (by omega) (show 29 < M.1 by omega) (vp_in_nI (by omega) (by omega)) (nI_clamp (by omega)) ?_
  rw [show cu k = nI sl from hv]
  refine xj_if_ge (tgt := 21) d14_5_16 rfl (fun _ => ?_) (fun h => absurd (nI_le (a := 0) (b := sl) (by omega) (by omega)) h)
  refine xj_aload_n (i := 0) d14_5_21 rfl rfl ?_
  refine xj_get d14_5_22 f14_16_12 h_24 (by omega) (show 24 < M.1 by omega) rfl ?_
  refine xj_aload_n (i := 0) d14_5_25 rfl rfl ?_
  refine xj_get d14_5_26 f14_23_12 h_24 (by omega) (show 24 < M.1 by omega) rfl ?_
  refine xj_iload_n (i := 1) d14_5_29 rfl rfl ?_
  refine xj_iaload (j := k) d14_5_30 h_29 (by omega) (show 29 < M.1 by omega) (vp_in_nI (by omega) (by omega)) (nI_clamp (by omega)) ?_
  rw [show cu k = nI sl from hv]
  refine xj_iconst (v := 0) d14_5_31 (by decide) ?_
  refine xj_zastore (j := sl) (x' := 0) d14_5_32 h_27 (by omega) (show 27 < M.1 by omega) (vp_in_nI (by omega) (by omega)) (nI_clamp (by omega)) (by decide) ?_
  refine xj_abs_set (fun M1 hs1 ha1 ho1 => ?_)
  refine xj_aload_n (i := 0) d14_5_33 rfl rfl ?_
  refine xj_get d14_5_34 f14_23_12 ((ho1 24 (by omega)).trans h_24) (by omega) (show 24 < M1.1 by omega) rfl ?_
  refine xj_iload_n (i := 1) d14_5_37 rfl rfl ?_
  refine xj_iconst (v := (-1)) d14_5_38 (by decide) ?_
  refine xj_iastore (j := k) (x' := (-1)) d14_5_39 ((ho1 29 (by omega)).trans h_29) (by omega) (show 29 < M1.1 by omega) (vp_in_nI (by omega) (by omega)) (nI_clamp (by omega)) rfl ?_
  refine xj_abs_set (fun M2 hs2 ha2 ho2 => ?_)
  refine xj_iconst (v := 1) d14_5_40 (by decide) ?_
  exact xj_ret d14_5_41 (by omega) (by omega) rfl ⟨rfl, (show M2.1 = n by omega), (fun j hj hj0 hj1 => ((ho2 j (by omega)).trans (ho1 j (by omega)))), ((ho2 27 (by omega)).trans ha1), ha2⟩
set_option maxRecDepth 20000 in
theorem mDropN {G : xG} (hg : xGood G) {M : xM} {n : Nat} (hn : M.1 = n) (hx : xn ≤ n) {dl : Nat} {pl : Nat} {vc : Nat} {tk : Nat} {hc : Nat} {sn : Nat} {y13 : Int32} {y22 : Int32} {y23 : Int32} {y24 : Int32} {y33 : Int32} {y36 : Int32} {y37 : Int32} {y38 : Int32} {y39 : Int32} {cu : Nat → Int32} {k : Nat} (h1_24 : xn ≤ 24) (h2_24 : 24 < n) (h_24 : M.2 24 = (.inr (12, [.ref 25, .ref 26, .ref 27, .ref 28, .ref 29, .ref 30, .int (nI sn), .int (nI vc), .int (nI tk), .ref 31, .int (nI dl), .ref 32, .int (nI pl), .int y13, .ref 33, .ref 34, .ref 35, .ref 36, .ref 37, .ref 38, .ref 39, .ref 40, .int y22, .int y23, .int y24, .ref 41, .ref 42, .ref 43, .ref 44, .ref 45, .ref 46, .ref 47, .ref 48, .int y33, .ref 49, .ref 50, .int y36, .int y37, .int y38, .int y39, .int (nI hc), .ref 51]))) (h1_29 : xn ≤ 29) (h2_29 : 29 < n) (h_29 : M.2 29 = (.inl (0, 10, .inl cu))) (hk : k < 10) (hv : cu k = -1) : XC G Y14_5 (some .boolean) 0 0 0 [.ref 24, .int (nI k)] M (fun v M' => v = some (.int 0) ∧ M' = M) := by
  refine xc_of hg (by decide) (Nat.le_of_ble_eq_true rfl) (Or.inr (Or.inl ⟨rfl, rfl, fun v M' h => ⟨_, h.1, Or.inl rfl⟩⟩)) ?_
  refine xj_iload_n (i := 1) d14_5_0 rfl rfl ?_
  refine xj_if_lt (tgt := 19) d14_5_1 rfl (fun h => absurd h (nI_nlt (a := k) (b := 0) (by omega) (by omega))) (fun _ => ?_)
  refine xj_iload_n (i := 1) d14_5_4 rfl rfl ?_
  refine xj_bipush (v := 9) d14_5_5 (by decide) ?_
  refine xj_icmp_gt (tgt := 19) d14_5_7 rfl (fun h => absurd h (nI_nlt (a := 9) (b := k) (by omega) (by omega))) (fun _ => ?_)
  refine xj_aload_n (i := 0) d14_5_10 rfl rfl ?_
  refine xj_get d14_5_11 f14_23_12 h_24 (by omega) (show 24 < M.1 by omega) rfl ?_
  refine xj_iload_n (i := 1) d14_5_14 rfl rfl ?_
  refine xj_iaload (j := k) d14_5_15 h_29 (by omega) (show 29 < M.1 by omega) (vp_in_nI (by omega) (by omega)) (nI_clamp (by omega)) ?_
  rw [show cu k = -1 from hv]
  refine xj_if_ge (tgt := 21) d14_5_16 rfl (fun h => absurd h (by decide)) (fun _ => ?_)
  refine xj_iconst (v := 0) d14_5_19 (by decide) ?_
  exact xj_ret d14_5_20 (by omega) (by omega) rfl ⟨rfl, rfl⟩
set_option maxRecDepth 20000 in
theorem mDropO {G : xG} (hg : xGood G) {M : xM} {n : Nat} (hn : M.1 = n) (hx : xn ≤ n) {dl : Nat} {pl : Nat} {vc : Nat} {tk : Nat} {hc : Nat} {sn : Nat} {y13 : Int32} {y22 : Int32} {y23 : Int32} {y24 : Int32} {y33 : Int32} {y36 : Int32} {y37 : Int32} {y38 : Int32} {y39 : Int32} {c : Int32} (h1_24 : xn ≤ 24) (h2_24 : 24 < n) (h_24 : M.2 24 = (.inr (12, [.ref 25, .ref 26, .ref 27, .ref 28, .ref 29, .ref 30, .int (nI sn), .int (nI vc), .int (nI tk), .ref 31, .int (nI dl), .ref 32, .int (nI pl), .int y13, .ref 33, .ref 34, .ref 35, .ref 36, .ref 37, .ref 38, .ref 39, .ref 40, .int y22, .int y23, .int y24, .ref 41, .ref 42, .ref 43, .ref 44, .ref 45, .ref 46, .ref 47, .ref 48, .int y33, .ref 49, .ref 50, .int y36, .int y37, .int y38, .int y39, .int (nI hc), .ref 51]))) (hk : c < 0 ∨ 9 < c) : XC G Y14_5 (some .boolean) 0 0 0 [.ref 24, .int c] M (fun v M' => v = some (.int 0) ∧ M' = M) := by
  refine xc_of hg (by decide) (Nat.le_of_ble_eq_true rfl) (Or.inr (Or.inl ⟨rfl, rfl, fun v M' h => ⟨_, h.1, Or.inl rfl⟩⟩)) ?_
  refine xj_iload_n (i := 1) d14_5_0 rfl rfl ?_
  refine xj_if_lt (tgt := 19) d14_5_1 rfl (fun hb1 => ?_) (fun hb1 => ?_)
  · refine xj_iconst (v := 0) d14_5_19 (by decide) ?_
    exact xj_ret d14_5_20 (by omega) (by omega) rfl ⟨rfl, rfl⟩
  · refine xj_iload_n (i := 1) d14_5_4 rfl rfl ?_
    refine xj_bipush (v := 9) d14_5_5 (by decide) ?_
    refine xj_icmp_gt (tgt := 19) d14_5_7 rfl (fun _ => ?_) (fun h => absurd (hk.resolve_left hb1) h)
    refine xj_iconst (v := 0) d14_5_19 (by decide) ?_
    exact xj_ret d14_5_20 (by omega) (by omega) rfl ⟨rfl, rfl⟩
set_option maxRecDepth 20000 in
theorem mLenO {G : xG} (hg : xGood G) {M : xM} {n : Nat} (hn : M.1 = n) (hx : xn ≤ n) {dl : Nat} {pl : Nat} {vc : Nat} {tk : Nat} {hc : Nat} {sn : Nat} {y13 : Int32} {y22 : Int32} {y23 : Int32} {y24 : Int32} {y33 : Int32} {y36 : Int32} {y37 : Int32} {y38 : Int32} {y39 : Int32} {c : Int32} (h1_24 : xn ≤ 24) (h2_24 : 24 < n) (h_24 : M.2 24 = (.inr (12, [.ref 25, .ref 26, .ref 27, .ref 28, .ref 29, .ref 30, .int (nI sn), .int (nI vc), .int (nI tk), .ref 31, .int (nI dl), .ref 32, .int (nI pl), .int y13, .ref 33, .ref 34, .ref 35, .ref 36, .ref 37, .ref 38, .ref 39, .ref 40, .int y22, .int y23, .int y24, .ref 41, .ref 42, .ref 43, .ref 44, .ref 45, .ref 46, .ref 47, .ref 48, .int y33, .ref 49, .ref 50, .int y36, .int y37, .int y38, .int y39, .int (nI hc), .ref 51]))) (hk : c < 0 ∨ 9 < c) : XC G Y14_6 (some .int) 0 0 0 [.ref 24, .int c] M (fun v M' => v = some (.int (-1)) ∧ M' = M) := by
  refine xc_of hg (by decide) (Nat.le_of_ble_eq_true rfl) (Or.inl ⟨rfl, rfl, fun v M' h => ⟨_, h.1⟩⟩) ?_
  refine xj_iload_n (i := 1) d14_6_0 rfl rfl ?_
  refine xj_if_lt (tgt := 19) d14_6_1 rfl (fun hb1 => ?_) (fun hb1 => ?_)
  · refine xj_iconst (v := (-1)) d14_6_19 (by decide) ?_
    refine xj_goto (tgt := 34) d14_6_20 rfl ?_
    exact xj_ret d14_6_34 (by omega) (by omega) rfl ⟨rfl, rfl⟩
  · refine xj_iload_n (i := 1) d14_6_4 rfl rfl ?_
    refine xj_bipush (v := 9) d14_6_5 (by decide) ?_
    refine xj_icmp_gt (tgt := 19) d14_6_7 rfl (fun _ => ?_) (fun h => absurd (hk.resolve_left hb1) h)
    refine xj_iconst (v := (-1)) d14_6_19 (by decide) ?_
    refine xj_goto (tgt := 34) d14_6_20 rfl ?_
    exact xj_ret d14_6_34 (by omega) (by omega) rfl ⟨rfl, rfl⟩
set_option maxRecDepth 20000 in
theorem mLenN {G : xG} (hg : xGood G) {M : xM} {n : Nat} (hn : M.1 = n) (hx : xn ≤ n) {dl : Nat} {pl : Nat} {vc : Nat} {tk : Nat} {hc : Nat} {sn : Nat} {y13 : Int32} {y22 : Int32} {y23 : Int32} {y24 : Int32} {y33 : Int32} {y36 : Int32} {y37 : Int32} {y38 : Int32} {y39 : Int32} {cu : Nat → Int32} {k : Nat} (h1_24 : xn ≤ 24) (h2_24 : 24 < n) (h_24 : M.2 24 = (.inr (12, [.ref 25, .ref 26, .ref 27, .ref 28, .ref 29, .ref 30, .int (nI sn), .int (nI vc), .int (nI tk), .ref 31, .int (nI dl), .ref 32, .int (nI pl), .int y13, .ref 33, .ref 34, .ref 35, .ref 36, .ref 37, .ref 38, .ref 39, .ref 40, .int y22, .int y23, .int y24, .ref 41, .ref 42, .ref 43, .ref 44, .ref 45, .ref 46, .ref 47, .ref 48, .int y33, .ref 49, .ref 50, .int y36, .int y37, .int y38, .int y39, .int (nI hc), .ref 51]))) (h1_29 : xn ≤ 29) (h2_29 : 29 < n) (h_29 : M.2 29 = (.inl (0, 10, .inl cu))) (hk : k < 10) (hv : cu k = -1) : XC G Y14_6 (some .int) 0 0 0 [.ref 24, .int (nI k)] M (fun v M' => v = some (.int (-1)) ∧ M' = M) := by
  refine xc_of hg (by decide) (Nat.le_of_ble_eq_true rfl) (Or.inl ⟨rfl, rfl, fun v M' h => ⟨_, h.1⟩⟩) ?_
  refine xj_iload_n (i := 1) d14_6_0 rfl rfl ?_
  refine xj_if_lt (tgt := 19) d14_6_1 rfl (fun h => absurd h (nI_nlt (a := k) (b := 0) (by omega) (by omega))) (fun _ => ?_)
  refine xj_iload_n (i := 1) d14_6_4 rfl rfl ?_
  refine xj_bipush (v := 9) d14_6_5 (by decide) ?_
  refine xj_icmp_gt (tgt := 19) d14_6_7 rfl (fun h => absurd h (nI_nlt (a := 9) (b := k) (by omega) (by omega))) (fun _ => ?_)
  refine xj_aload_n (i := 0) d14_6_10 rfl rfl ?_
  refine xj_get d14_6_11 f14_23_12 h_24 (by omega) (show 24 < M.1 by omega) rfl ?_
  refine xj_iload_n (i := 1) d14_6_14 rfl rfl ?_
  refine xj_iaload (j := k) d14_6_15 h_29 (by omega) (show 29 < M.1 by omega) (vp_in_nI (by omega) (by omega)) (nI_clamp (by omega)) ?_
  rw [show cu k = -1 from hv]
  refine xj_if_ge (tgt := 23) d14_6_16 rfl (fun h => absurd h (by decide)) (fun _ => ?_)
  refine xj_iconst (v := (-1)) d14_6_19 (by decide) ?_
  refine xj_goto (tgt := 34) d14_6_20 rfl ?_
  exact xj_ret d14_6_34 (by omega) (by omega) rfl ⟨rfl, rfl⟩
set_option maxRecDepth 20000 in
theorem mLenY {G : xG} (hg : xGood G) {M : xM} {n : Nat} (hn : M.1 = n) (hx : xn ≤ n) {dl : Nat} {pl : Nat} {vc : Nat} {tk : Nat} {hc : Nat} {sn : Nat} {y13 : Int32} {y22 : Int32} {y23 : Int32} {y24 : Int32} {y33 : Int32} {y36 : Int32} {y37 : Int32} {y38 : Int32} {y39 : Int32} {cu : Nat → Int32} {k : Nat} {sl : Nat} {te : Nat → Int32} (h1_24 : xn ≤ 24) (h2_24 : 24 < n) (h_24 : M.2 24 = (.inr (12, [.ref 25, .ref 26, .ref 27, .ref 28, .ref 29, .ref 30, .int (nI sn), .int (nI vc), .int (nI tk), .ref 31, .int (nI dl), .ref 32, .int (nI pl), .int y13, .ref 33, .ref 34, .ref 35, .ref 36, .ref 37, .ref 38, .ref 39, .ref 40, .int y22, .int y23, .int y24, .ref 41, .ref 42, .ref 43, .ref 44, .ref 45, .ref 46, .ref 47, .ref 48, .int y33, .ref 49, .ref 50, .int y36, .int y37, .int y38, .int y39, .int (nI hc), .ref 51]))) (h1_29 : xn ≤ 29) (h2_29 : 29 < n) (h_29 : M.2 29 = (.inl (0, 10, .inl cu))) (h1_26 : xn ≤ 26) (h2_26 : 26 < n) (h_26 : M.2 26 = (.inl (0, 128, .inl te))) (hk : k < 10) (hv : cu k = nI sl) (hsl : sl < 128) : XC G Y14_6 (some .int) 0 0 0 [.ref 24, .int (nI k)] M (fun v M' => v = some (.int (te sl)) ∧ M' = M) := by
  refine xc_of hg (by decide) (Nat.le_of_ble_eq_true rfl) (Or.inl ⟨rfl, rfl, fun v M' h => ⟨_, h.1⟩⟩) ?_
  refine xj_iload_n (i := 1) d14_6_0 rfl rfl ?_
  refine xj_if_lt (tgt := 19) d14_6_1 rfl (fun h => absurd h (nI_nlt (a := k) (b := 0) (by omega) (by omega))) (fun _ => ?_)
  refine xj_iload_n (i := 1) d14_6_4 rfl rfl ?_
  refine xj_bipush (v := 9) d14_6_5 (by decide) ?_
  refine xj_icmp_gt (tgt := 19) d14_6_7 rfl (fun h => absurd h (nI_nlt (a := 9) (b := k) (by omega) (by omega))) (fun _ => ?_)
  refine xj_aload_n (i := 0) d14_6_10 rfl rfl ?_
  refine xj_get d14_6_11 f14_23_12 h_24 (by omega) (show 24 < M.1 by omega) rfl ?_
  refine xj_iload_n (i := 1) d14_6_14 rfl rfl ?_
  refine xj_iaload (j := k) d14_6_15 h_29 (by omega) (show 29 < M.1 by omega) (vp_in_nI (by omega) (by omega)) (nI_clamp (by omega)) ?_
  rw [show cu k = nI sl from hv]
  refine xj_if_ge (tgt := 23) d14_6_16 rfl (fun _ => ?_) (fun h => absurd (nI_le (a := 0) (b := sl) (by omega) (by omega)) h)
  refine xj_aload_n (i := 0) d14_6_23 rfl rfl ?_
  refine xj_get d14_6_24 f14_13_12 h_24 (by omega) (show 24 < M.1 by omega) rfl ?_
  refine xj_aload_n (i := 0) d14_6_27 rfl rfl ?_
  refine xj_get d14_6_28 f14_23_12 h_24 (by omega) (show 24 < M.1 by omega) rfl ?_
  refine xj_iload_n (i := 1) d14_6_31 rfl rfl ?_
  refine xj_iaload (j := k) d14_6_32 h_29 (by omega) (show 29 < M.1 by omega) (vp_in_nI (by omega) (by omega)) (nI_clamp (by omega)) ?_
  rw [show cu k = nI sl from hv]
  refine xj_iaload (j := sl) d14_6_33 h_26 (by omega) (show 26 < M.1 by omega) (vp_in_nI (by omega) (by omega)) (nI_clamp (by omega)) ?_
  exact xj_ret d14_6_34 (by omega) (by omega) rfl ⟨rfl, rfl⟩

theorem xList {G : xG} (hg : xGood G) (hxn : xn = 16) {M : xM} {n : Nat} (hn : M.1 = n) (hn2 : 52 ≤ n) {o u0 v0 : Nat} {q : Int64 × Int64} {ps : Int64} {wv : Value} (h1 : 16 ≤ o) (h2 : o < n) (h_o : M.2 o = (.inr (10, [.long q.1, .long q.2, .long ps, wv]))) (hu : u0 ≤ v0 + 1) (hv : v0 < 1000) : XC G Y4_2 none 0 0 0 [.ref o, .int (nI u0), .int (nI v0)] M (fun v M' => v = none ∧ M'.1 = n ∧ (∀ j, j ≠ o → M'.2 j = M.2 j) ∧ M'.2 o = (.inr (10, [.long ((xLs2 u0 (v0 + 1 - u0) q).1), .long ((xLs2 u0 (v0 + 1 - u0) q).2), .long ps, wv]))) := by
  refine xc_of hg (by decide) (Nat.le_of_ble_eq_true rfl) (Or.inr (Or.inr (Or.inr (Or.inr (Or.inl ⟨rfl, rfl, fun v M' h => h.1⟩))))) ?_
  refine xj_iload_n (i := 1) d4_2_0 rfl rfl ?_
  refine xj_istore_n (i := 3) (L' := [(3, .int (nI u0)), (0, .ref o), (1, .int (nI u0)), (2, .int (nI v0))]) d4_2_1 rfl (by decide) rfl ?_
  refine xLisL hxn (M0 := M) (n := n) hn2 (by omega) (by omega) (by omega) (v0 + 1 - u0) u0 q M (by omega) hn (fun _ _ => rfl) h_o (fun M' e1 e2 e3 => ?_)
  exact xj_ret d4_2_49 (by omega) (by omega) rfl ⟨rfl, e1, e2, e3⟩
set_option maxRecDepth 20000 in
theorem xTurn {G : xG} (hg : xGood G) {M : xM} {n : Nat} (hn : M.1 = n) (hx : xn ≤ n) {o : Nat} {q : Int64 × Int64} {ps : Int64} {wv : Value} (h1_o : xn ≤ o) (h2_o : o < n) (h_o : M.2 o = (.inr (10, [.long q.1, .long q.2, .long ps, wv]))) (hxn : xn = 16) (hn2 : 52 ≤ n) : XC G Y4_3 none 1 0 0 [.ref o] M (fun v M' => v = none ∧ M'.1 = n ∧ (∀ j, j < n → j ≠ o → M'.2 j = M.2 j) ∧ M'.2 o = (.inr (10, [.long (((xLs2 32 (126 + 1 - 32) q).1) &&& (q.1 ^^^ (-1))), .long (((xLs2 32 (126 + 1 - 32) q).2) &&& (q.2 ^^^ (-1))), .long ps, wv]))) := by
  refine xc_of hg (by decide) (Nat.le_of_ble_eq_true rfl) (Or.inr (Or.inr (Or.inr (Or.inr (Or.inl ⟨rfl, rfl, fun v M' h => h.1⟩))))) ?_
  refine xj_aload_n (i := 0) d4_3_0 rfl rfl ?_
  refine xj_get d4_3_1 f4_9_10 h_o (by omega) (show o < M.1 by omega) rfl ?_
  refine xj_lstore_n (i := 1) (L' := [(1, .long q.1), (0, .ref o)]) d4_3_4 rfl (by decide) rfl ?_
  refine xj_aload_n (i := 0) d4_3_5 rfl rfl ?_
  refine xj_get d4_3_6 f4_15_10 h_o (by omega) (show o < M.1 by omega) rfl ?_
  refine xj_lstore_n (i := 3) (L' := [(3, .long q.2), (1, .long q.1), (0, .ref o)]) d4_3_9 rfl (by decide) rfl ?_
  refine xj_aload_n (i := 0) d4_3_10 rfl rfl ?_
  refine xj_bipush (v := 32) d4_3_11 (by decide) ?_
  refine xj_bipush (v := 126) d4_3_13 (by decide) ?_
  refine xj_callV (rest := []) (As := [.int 32, .int 126]) (b := o) (xList hg hxn (M := M) (n := n) (u0 := 32) (v0 := 126) (q := q) (show M.1 = n by omega) (by omega) (by omega) (by omega) h_o (by omega) (by omega)) d4_3_15 wd4_2 h_o (by omega) (show o < M.1 by omega) rfl w645 w644 (Or.inl w669) rfl rfl (Nat.le_of_ble_eq_true rfl) (by omega) (by omega) (by omega) ?_
  rintro v M1 ⟨rfl, hs1, ho1, ha1⟩
  refine xj_aload_n (i := 0) d4_3_18 rfl rfl ?_
  refine xj_dup d4_3_19 rfl ?_
  refine xj_get d4_3_20 f4_9_10 ha1 (by omega) (show o < M1.1 by omega) rfl ?_
  refine xj_lload_n (i := 1) d4_3_23 rfl rfl ?_
  refine xj_ldc2 (v := (-1)) d4_3_24 w670 ?_
  refine xj_lxor (v := q.1 ^^^ (-1)) d4_3_27 rfl ?_
  refine xj_land (v := ((xLs2 32 (126 + 1 - 32) q).1) &&& (q.1 ^^^ (-1))) d4_3_28 rfl ?_
  refine xj_put (a := o) (fs' := [.long (((xLs2 32 (126 + 1 - 32) q).1) &&& (q.1 ^^^ (-1))), .long ((xLs2 32 (126 + 1 - 32) q).2), .long ps, wv]) d4_3_29 f4_9_10 ha1 (by omega) (show o < M1.1 by omega) (Nat.le_of_ble_eq_true rfl) rfl rfl rfl ?_
  refine xj_abs_set (fun M2 hs2 ha2 ho2 => ?_)
  refine xj_aload_n (i := 0) d4_3_32 rfl rfl ?_
  refine xj_dup d4_3_33 rfl ?_
  refine xj_get d4_3_34 f4_15_10 ha2 (by omega) (show o < M2.1 by omega) rfl ?_
  refine xj_lload_n (i := 3) d4_3_37 rfl rfl ?_
  refine xj_ldc2 (v := (-1)) d4_3_38 w670 ?_
  refine xj_lxor (v := q.2 ^^^ (-1)) d4_3_41 rfl ?_
  refine xj_land (v := ((xLs2 32 (126 + 1 - 32) q).2) &&& (q.2 ^^^ (-1))) d4_3_42 rfl ?_
  refine xj_put (a := o) (fs' := [.long (((xLs2 32 (126 + 1 - 32) q).1) &&& (q.1 ^^^ (-1))), .long (((xLs2 32 (126 + 1 - 32) q).2) &&& (q.2 ^^^ (-1))), .long ps, wv]) d4_3_43 f4_15_10 ha2 (by omega) (show o < M2.1 by omega) (Nat.le_of_ble_eq_true rfl) rfl rfl rfl ?_
  refine xj_abs_set (fun M3 hs3 ha3 ho3 => ?_)
  exact xj_ret d4_3_46 (by omega) (by omega) rfl ⟨rfl, (show M3.1 = n by omega), (fun j hj hj0 => ((ho3 j (by omega)).trans ((ho2 j (by omega)).trans (ho1 j (by omega))))), ha3⟩
def xbi (b : Bool) : Int32 := bif b then 1 else 0
theorem xbi_01 (b : Bool) : xbi b = 0 ∨ xbi b = 1 := by cases b <;> simp [xbi]
set_option maxRecDepth 20000 in
theorem xHasC {G : xG} (hg : xGood G) {M : xM} {n : Nat} (hn : M.1 = n) (hx : xn ≤ n) {o : Nat} {q : Int64 × Int64} {ps : Int64} {wv : Value} {c : Nat} (h1_o : xn ≤ o) (h2_o : o < n) (h_o : M.2 o = (.inr (10, [.long q.1, .long q.2, .long ps, wv]))) (hc8 : c < 128) : XC G Y4_4 (some .boolean) 0 0 0 [.ref o, .int (nI c)] M (fun v M' => v = some (.int (xbi (xbt q c))) ∧ M' = M) := by
  refine xc_of hg (by decide) (Nat.le_of_ble_eq_true rfl) (Or.inr (Or.inl ⟨rfl, rfl, fun v M' h => ⟨_, h.1, xbi_01 _⟩⟩)) ?_
  refine xj_iload_n (i := 1) d4_4_0 rfl rfl ?_
  refine xj_bipush (v := 64) d4_4_1 (by decide) ?_
  refine xj_icmp_ge (tgt := 15) d4_4_3 rfl (fun hic => ?_) (fun hic => ?_)
  · refine xj_aload_n (i := 0) d4_4_15 rfl rfl ?_
    refine xj_get d4_4_16 f4_15_10 h_o (by omega) (show o < M.1 by omega) rfl ?_
    refine xj_iload_n (i := 1) d4_4_19 rfl rfl ?_
    refine xj_bipush (v := 64) d4_4_20 (by decide) ?_
    have hc : ¬ c < 64 := fun q => absurd hic (nI_ge q (by decide))
    refine xj_isub (v := nI (c - 64)) d4_4_22 (by rw [show (64 : Int32) = nI 64 from by decide]; exact pk_sub (by omega)) ?_
    refine xj_lshr (v := q.2 >>> ((nI (c - 64)).toInt64 &&& 63)) d4_4_23 rfl ?_
    refine xj_lconst (v := 1) d4_4_24 (by decide) ?_
    refine xj_land (v := (q.2 >>> ((nI (c - 64)).toInt64 &&& 63)) &&& 1) d4_4_25 rfl ?_
    refine xj_lconst (v := 0) d4_4_26 (by decide) ?_
    refine xj_lcmp (v := lg_cmp ((q.2 >>> ((nI (c - 64)).toInt64 &&& 63)) &&& 1) 0) d4_4_27 rfl ?_
    refine xj_if_eq (tgt := 35) d4_4_28 rfl (fun hb => ?_) (fun hb => ?_)
    · refine xj_iconst (v := 0) d4_4_35 (by decide) ?_
      exact xj_ret d4_4_36 (by omega) (by omega) rfl ⟨(by rw [show xbt q c = lb q.2 (c - 64) from if_neg hc, show lb q.2 (c - 64) = false from (lb_shr (by omega) _).symm.trans ((lb_a1 _).mp ((lcmp_0 _).mp hb))]), rfl⟩
    · refine xj_iconst (v := 1) d4_4_31 (by decide) ?_
      refine xj_goto (tgt := 36) d4_4_32 rfl ?_
      exact xj_ret d4_4_36 (by omega) (by omega) rfl ⟨(by rw [show xbt q c = lb q.2 (c - 64) from if_neg hc, show lb q.2 (c - 64) = true from Bool.of_not_eq_false (fun z => hb ((lcmp_0 _).mpr ((lb_a1 _).mpr ((lb_shr (by omega) _).trans z))))]), rfl⟩
  · have hc : c < 64 := Classical.byContradiction fun q => hic (nI_le (a := 64) (b := c) (by omega) (by omega))
    refine xj_aload_n (i := 0) d4_4_6 rfl rfl ?_
    refine xj_get d4_4_7 f4_9_10 h_o (by omega) (show o < M.1 by omega) rfl ?_
    refine xj_iload_n (i := 1) d4_4_10 rfl rfl ?_
    refine xj_lshr (v := q.1 >>> ((nI c).toInt64 &&& 63)) d4_4_11 rfl ?_
    refine xj_goto (tgt := 24) d4_4_12 rfl ?_
    refine xj_lconst (v := 1) d4_4_24 (by decide) ?_
    refine xj_land (v := (q.1 >>> ((nI c).toInt64 &&& 63)) &&& 1) d4_4_25 rfl ?_
    refine xj_lconst (v := 0) d4_4_26 (by decide) ?_
    refine xj_lcmp (v := lg_cmp ((q.1 >>> ((nI c).toInt64 &&& 63)) &&& 1) 0) d4_4_27 rfl ?_
    refine xj_if_eq (tgt := 35) d4_4_28 rfl (fun hb => ?_) (fun hb => ?_)
    · refine xj_iconst (v := 0) d4_4_35 (by decide) ?_
      exact xj_ret d4_4_36 (by omega) (by omega) rfl ⟨(by rw [show xbt q c = lb q.1 c from if_pos hc, show lb q.1 c = false from (lb_shr (by omega) _).symm.trans ((lb_a1 _).mp ((lcmp_0 _).mp hb))]), rfl⟩
    · refine xj_iconst (v := 1) d4_4_31 (by decide) ?_
      refine xj_goto (tgt := 36) d4_4_32 rfl ?_
      exact xj_ret d4_4_36 (by omega) (by omega) rfl ⟨(by rw [show xbt q c = lb q.1 c from if_pos hc, show lb q.1 c = true from Bool.of_not_eq_false (fun z => hb ((lcmp_0 _).mpr ((lb_a1 _).mpr ((lb_shr (by omega) _).trans z))))]), rfl⟩

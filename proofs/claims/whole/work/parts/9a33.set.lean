/-- the two longs of a set when the characters from c on, k of them, are listed -/
def xLs2 : Nat → Nat → Int64 × Int64 → Int64 × Int64
  | _, 0, q => q
  | c, k + 1, q => xLs2 (c + 1) k (if c < 64 then (q.1 ||| ((1 : Int64) <<< ((nI c).toInt64 &&& 63)), q.2) else (q.1, q.2 ||| ((1 : Int64) <<< ((nI (c - 64)).toInt64 &&& 63))))
theorem xLisL {G : xG} (hxn : xn = 16) {M0 : xM} {n o v0 : Nat} (hn2 : 52 ≤ n) (ho1 : 16 ≤ o) (ho2 : o < n) (hv0 : v0 < 1000) {u : Int32} {ps : Int64} {wv : Value} {d ce se cells slots : Nat} {Post : Option Value → xM → Prop} : ∀ (r c : Nat) (q : Int64 × Int64) (M : xM), c + r = v0 + 1 → M.1 = n → (∀ j, j ≠ o → M.2 j = M0.2 j) → M.2 o = (.inr (10, [.long q.1, .long q.2, .long ps, wv])) → (∀ M' : xM, M'.1 = n → (∀ j, j ≠ o → M'.2 j = M0.2 j) → M'.2 o = (.inr (10, [.long ((xLs2 c r q).1), .long ((xLs2 c r q).2), .long ps, wv])) → XJ G Y4_2 d ce se cells slots 49 [(3, .int (nI (v0 + 1))), (0, .ref o), (1, .int u), (2, .int (nI v0))] [] M' Post) → XJ G Y4_2 d ce se cells slots 2 [(3, .int (nI c)), (0, .ref o), (1, .int u), (2, .int (nI v0))] [] M Post := by
  intro r
  induction r with
  | zero =>
    intro c q M hi hm hfr hO K
    have hi' : c = v0 + 1 := by omega
    subst c
    refine xj_iload_n (i := 3) d4_2_2 rfl rfl ?_
    refine xj_iload_n (i := 2) d4_2_3 rfl rfl ?_
    refine xj_icmp_gt (tgt := 49) d4_2_4 rfl (fun _ => ?_) (fun h => absurd (nI_lt (a := v0) (b := v0 + 1) (by omega) (by omega)) h)
    exact K M hm hfr hO
  | succ r ih =>
    intro c q M hi hm hfr hO K
    by_cases hc : c < 64
    · skip
      refine xj_iload_n (i := 3) d4_2_2 rfl rfl ?_
      refine xj_iload_n (i := 2) d4_2_3 rfl rfl ?_
      refine xj_icmp_gt (tgt := 49) d4_2_4 rfl (fun h => absurd h (nI_nlt (a := v0) (b := c) (by omega) (by omega))) (fun _ => ?_)
      refine xj_iload_n (i := 3) d4_2_7 rfl rfl ?_
      refine xj_bipush (v := 64) d4_2_8 (by decide) ?_
      refine xj_icmp_ge (tgt := 28) d4_2_10 rfl (fun h => absurd h (nI_ge (a := c) (b := 64) (by omega) (by omega))) (fun _ => ?_)
      refine xj_aload_n (i := 0) d4_2_13 rfl rfl ?_
      refine xj_dup d4_2_14 rfl ?_
      refine xj_get d4_2_15 f4_9_10 hO (by omega) (show o < M.1 by omega) rfl ?_
      refine xj_lconst (v := 1) d4_2_18 (by decide) ?_
      refine xj_iload_n (i := 3) d4_2_19 rfl rfl ?_
      refine xj_lshl (v := 1 <<< ((nI c).toInt64 &&& 63)) d4_2_20 rfl ?_
      refine xj_lor (v := q.1 ||| (1 <<< ((nI c).toInt64 &&& 63))) d4_2_21 rfl ?_
      refine xj_put (a := o) (fs' := [.long (q.1 ||| (1 <<< ((nI c).toInt64 &&& 63))), .long q.2, .long ps, wv]) d4_2_22 f4_9_10 hO (by omega) (show o < M.1 by omega) (Nat.le_of_ble_eq_true rfl) rfl rfl rfl ?_
      refine xj_abs_set (fun M1 hs1 ha1 ho1 => ?_)
      refine xj_goto (tgt := 43) d4_2_25 rfl ?_
      refine xj_iinc (v := nI (c + 1)) (L' := [(3, .int (nI (c + 1))), (0, .ref o), (1, .int u), (2, .int (nI v0))]) d4_2_43 rfl (xinc _) (by decide) rfl ?_
      refine xj_goto (tgt := 2) d4_2_46 rfl ?_
      refine ih (c + 1) _ M1 (by omega) (by omega) (fun j hj => (ho1 j hj).trans (hfr j hj)) (by rw [if_pos hc]; exact ha1) (fun M' e1 e2 e3 => K M' e1 e2 e3)
    · skip
      refine xj_iload_n (i := 3) d4_2_2 rfl rfl ?_
      refine xj_iload_n (i := 2) d4_2_3 rfl rfl ?_
      refine xj_icmp_gt (tgt := 49) d4_2_4 rfl (fun h => absurd h (nI_nlt (a := v0) (b := c) (by omega) (by omega))) (fun _ => ?_)
      refine xj_iload_n (i := 3) d4_2_7 rfl rfl ?_
      refine xj_bipush (v := 64) d4_2_8 (by decide) ?_
      refine xj_icmp_ge (tgt := 28) d4_2_10 rfl (fun _ => ?_) (fun h => absurd (nI_le (a := 64) (b := c) (by omega) (by omega)) h)
      refine xj_aload_n (i := 0) d4_2_28 rfl rfl ?_
      refine xj_dup d4_2_29 rfl ?_
      refine xj_get d4_2_30 f4_15_10 hO (by omega) (show o < M.1 by omega) rfl ?_
      refine xj_lconst (v := 1) d4_2_33 (by decide) ?_
      refine xj_iload_n (i := 3) d4_2_34 rfl rfl ?_
      refine xj_bipush (v := 64) d4_2_35 (by decide) ?_
      refine xj_isub (v := nI (c - 64)) d4_2_37 (by rw [show (64 : Int32) = nI 64 from by decide]; exact pk_sub (by omega)) ?_
      refine xj_lshl (v := 1 <<< ((nI (c - 64)).toInt64 &&& 63)) d4_2_38 rfl ?_
      refine xj_lor (v := q.2 ||| (1 <<< ((nI (c - 64)).toInt64 &&& 63))) d4_2_39 rfl ?_
      refine xj_put (a := o) (fs' := [.long q.1, .long (q.2 ||| (1 <<< ((nI (c - 64)).toInt64 &&& 63))), .long ps, wv]) d4_2_40 f4_15_10 hO (by omega) (show o < M.1 by omega) (Nat.le_of_ble_eq_true rfl) rfl rfl rfl ?_
      refine xj_abs_set (fun M1 hs1 ha1 ho1 => ?_)
      refine xj_iinc (v := nI (c + 1)) (L' := [(3, .int (nI (c + 1))), (0, .ref o), (1, .int u), (2, .int (nI v0))]) d4_2_43 rfl (xinc _) (by decide) rfl ?_
      refine xj_goto (tgt := 2) d4_2_46 rfl ?_
      refine ih (c + 1) _ M1 (by omega) (by omega) (fun j hj => (ho1 j hj).trans (hfr j hj)) (by rw [if_neg hc]; exact ha1) (fun M' e1 e2 e3 => K M' e1 e2 e3)

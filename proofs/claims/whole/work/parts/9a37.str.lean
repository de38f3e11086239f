theorem sCoder {G : xG} (hg : xGood G) {M : xM} {n : Nat} (hn : M.1 = n) (hx : xn ≤ n) {i : Nat} (hSC : xSC G) (hi5 : i < 5) : XC G Y22_152 (some .byte) 0 0 0 [.ref (i + 2)] M (fun v M' => v = some (.int 0) ∧ M' = M) := by
  refine xc_ofB hg (by decide) (Nat.le_of_ble_eq_true rfl) ⟨rfl, fun v M' h => ⟨_, h.1, by decide⟩⟩ ?_
  refine xj_gets (v := .int 1) hSC.1 d22_152_0 w551 ?_
  refine xj_if_eq (tgt := 13) d22_152_3 rfl (fun h => absurd h (by decide)) (fun _ => ?_)
  refine xj_aload_n (i := 0) d22_152_6 rfl rfl ?_
  refine xj_getSc (i := i) hSC hi5 d22_152_7 w1404 ?_
  refine xj_goto (tgt := 14) d22_152_10 rfl ?_
  exact xj_ret d22_152_14 (by omega) (by omega) rfl ⟨rfl, rfl⟩
set_option maxRecDepth 20000 in
theorem sLat {G : xG} (hg : xGood G) {M : xM} {n : Nat} (hn : M.1 = n) (hx : xn ≤ n) {i : Nat} (hSC : xSC G) (hi5 : i < 5) : XC G Y22_154 (some .boolean) 0 0 0 [.ref (i + 2)] M (fun v M' => v = some (.int 1) ∧ M' = M) := by
  refine xc_of hg (by decide) (Nat.le_of_ble_eq_true rfl) (Or.inr (Or.inl ⟨rfl, rfl, fun v M' h => ⟨_, h.1, Or.inr rfl⟩⟩)) ?_
  refine xj_gets (v := .int 1) hSC.1 d22_154_0 w551 ?_
  refine xj_if_eq (tgt := 17) d22_154_3 rfl (fun h => absurd h (by decide)) (fun _ => ?_)
  refine xj_aload_n (i := 0) d22_154_6 rfl rfl ?_
  refine xj_getSc (i := i) hSC hi5 d22_154_7 w1404 ?_
  refine xj_if_ne (tgt := 17) d22_154_10 rfl (fun h => absurd (by decide) h) (fun _ => ?_)
  refine xj_iconst (v := 1) d22_154_13 (by decide) ?_
  refine xj_goto (tgt := 18) d22_154_14 rfl ?_
  exact xj_ret d22_154_18 (by omega) (by omega) rfl ⟨rfl, rfl⟩
set_option maxRecDepth 20000 in
theorem sLen {G : xG} (hg : xGood G) {M : xM} {n : Nat} (hn : M.1 = n) (hx : xn ≤ n) {i : Nat} (hSC : xSC G) (hi5 : i < 5) : XC G Y22_54 (some .int) 1 0 0 [.ref (i + 2)] M (fun v M' => v = some (.int (nI (xjl.getD i 0))) ∧ M' = M) := by
  refine xc_of hg (by decide) (Nat.le_of_ble_eq_true rfl) (Or.inl ⟨rfl, rfl, fun v M' h => ⟨_, h.1⟩⟩) ?_
  refine xj_aload_n (i := 0) d22_54_0 rfl rfl ?_
  refine xj_getSv (i := i) hSC hi5 d22_54_1 w1405 ?_
  refine xj_tlen (a := i + 7) (N := xjl.getD i 0) (hSC.2.2.1.1 i hi5).2.2.2 d22_54_4 ?_
  refine xj_aload_n (i := 0) d22_54_5 rfl rfl ?_
  refine xj_callVs (i := i) (rest := [.int (nI (xjl.getD i 0))]) (As := []) hSC hi5 (sCoder hg (M := M) (n := n) (i := i) (show M.1 = n by omega) (by omega) hSC hi5) d22_54_6 wd22_152 w559 w558 (Or.inl w557) rfl rfl (Nat.le_of_ble_eq_true rfl) (by omega) (by omega) (by omega) ?_
  rintro v M' ⟨rfl, hm⟩
  subst M'
  refine xj_ishr (v := nI (xjl.getD i 0)) d22_54_9 ((show ∀ i, i < 5 → nI (xjl.getD i 0) >>> ((0 : Int32) &&& 31) = nI (xjl.getD i 0) by decide +kernel) i hi5) ?_
  exact xj_ret d22_54_10 (by omega) (by omega) rfl ⟨rfl, rfl⟩
set_option maxRecDepth 20000 in
theorem cChkR {G : xG} (hg : xGood G) {M : xM} {n : Nat} (hn : M.1 = n) (hx : xn ≤ n) {k : Nat} {sz : Nat} (hk : k < sz) (hsz : sz < 100000) : XC G Y36_11 (some .int) 0 0 0 [.int (nI k), .int (nI sz), .ref 12] M (fun v M' => v = some (.int (nI k)) ∧ M' = M) := by
  refine xc_of hg (by decide) (Nat.le_of_ble_eq_true rfl) (Or.inl ⟨rfl, rfl, fun v M' h => ⟨_, h.1⟩⟩) ?_
  refine xj_iload_n (i := 0) d36_11_0 rfl rfl ?_
  refine xj_if_lt (tgt := 9) d36_11_1 rfl (fun h => absurd h (nI_nlt (a := k) (b := 0) (by omega) (by omega))) (fun _ => ?_)
  refine xj_iload_n (i := 0) d36_11_4 rfl rfl ?_
  refine xj_iload_n (i := 1) d36_11_5 rfl rfl ?_
  refine xj_icmp_lt (tgt := 16) d36_11_6 rfl (fun _ => ?_) (fun h => absurd (nI_lt (a := k) (b := sz) (by omega) (by omega)) h)
  refine xj_iload_n (i := 0) d36_11_16 rfl rfl ?_
  exact xj_ret d36_11_17 (by omega) (by omega) rfl ⟨rfl, rfl⟩
theorem sChk {G : xG} (hg : xGood G) {M : xM} {n : Nat} (hn : M.1 = n) (hx : xn ≤ n) {k sz : Nat} (hSC : xSC G) (hk : k < sz) (hsz : sz < 100000) : XC G Y22_155 none 1 0 0 [.int (nI k), .int (nI sz)] M (fun v M' => v = none ∧ M' = M) := by
  refine xc_of hg (by decide) (Nat.le_of_ble_eq_true rfl) (Or.inr (Or.inr (Or.inr (Or.inr (Or.inl ⟨rfl, rfl, fun v M' h => h.1⟩))))) ?_
  refine xj_iload_n (i := 0) d22_155_0 rfl rfl ?_
  refine xj_iload_n (i := 1) d22_155_1 rfl rfl ?_
  rcases hSC.2.1 with hzf | hzf
  · refine xj_gets (v := .null) hzf d22_155_2 w590 ?_
    refine xj_callS (rest := []) (As := [.int (nI k), .int (nI sz), .null]) (cPre hg (M := M) (n := n) (k := k) (sz := sz) (show M.1 = n by omega) (by omega) (by omega) (by omega)) d22_155_5 wd36_11 w254 (Or.inl w695) rfl rfl (Nat.le_of_ble_eq_true rfl) (by omega) (by omega) (by omega) ?_
    rintro v M' ⟨rfl, hm⟩
    subst M'
    refine xj_pop d22_155_8 rfl ?_
    exact xj_ret d22_155_9 (by omega) (by omega) rfl ⟨rfl, rfl⟩
  · refine xj_gets (v := .ref 12) hzf d22_155_2 w590 ?_
    refine xj_callS (rest := []) (As := [.int (nI k), .int (nI sz), .ref 12]) (cChkR hg (M := M) (n := n) (k := k) (sz := sz) (show M.1 = n by omega) (by omega) (by omega) (by omega)) d22_155_5 wd36_11 w254 (Or.inl w695) rfl rfl (Nat.le_of_ble_eq_true rfl) (by omega) (by omega) (by omega) ?_
    rintro v M' ⟨rfl, hm⟩
    subst M'
    refine xj_pop d22_155_8 rfl ?_
    exact xj_ret d22_155_9 (by omega) (by omega) rfl ⟨rfl, rfl⟩
set_option maxRecDepth 20000 in
theorem s1At {G : xG} (hg : xGood G) {M : xM} {n : Nat} (hn : M.1 = n) (hx : xn ≤ n) {i : Nat} {k : Nat} (hSC : xSC G) (hi5 : i < 5) (hk : k < xjl.getD i 0) : XC G Y23_2 (some .char) 2 0 0 [.ref (i + 7), .int (nI k)] M (fun v M' => v = some (.int (xjc i k)) ∧ M' = M) := by
  refine xc_of hg (by decide) (Nat.le_of_ble_eq_true rfl) (Or.inr (Or.inr (Or.inl ⟨rfl, rfl, fun v M' h => ⟨_, h.1, (xjc_c i hi5 k (by have := xjl_lt i hi5; omega)).2⟩⟩))) ?_
  refine xj_iload_n (i := 1) d23_2_0 rfl rfl ?_
  refine xj_aload_n (i := 0) d23_2_1 rfl rfl ?_
  refine xj_tlen (a := i + 7) (N := xjl.getD i 0) (hSC.2.2.1.1 i hi5).2.2.2 d23_2_2 ?_
  refine xj_callS (rest := []) (As := [.int (nI k), .int (nI (xjl.getD i 0))]) (sChk hg (M := M) (n := n) hn (by omega) (k := k) (sz := xjl.getD i 0) hSC hk (by have := xjl_lt i hi5; omega)) d23_2_3 wd22_155 w693 (Or.inl w692) rfl rfl (Nat.le_of_ble_eq_true rfl) (by omega) (by omega) (by omega) ?_
  rintro v M' ⟨rfl, hm⟩
  subst M'
  refine xj_aload_n (i := 0) d23_2_6 rfl rfl ?_
  refine xj_iload_n (i := 1) d23_2_7 rfl rfl ?_
  refine xj_sbld (i := i) (j := k) hSC hi5 d23_2_8 (vp_in_nI hk (by have := xjl_lt i hi5; omega)) (nI_clamp (by have := xjl_lt i hi5; omega)) ?_
  refine xj_sipush (v := 255) d23_2_9 (by decide) ?_
  refine xj_iand (v := (xjc i k) &&& 255) d23_2_12 rfl ?_
  refine xj_i2c (v := xjc i k) d23_2_13 (xjc_c i hi5 k (by have := xjl_lt i hi5; omega)).1 ?_
  exact xj_ret d23_2_14 (by omega) (by omega) rfl ⟨rfl, rfl⟩
set_option maxRecDepth 20000 in
theorem sAt {G : xG} (hg : xGood G) {M : xM} {n : Nat} (hn : M.1 = n) (hx : xn ≤ n) {i : Nat} {k : Nat} (hSC : xSC G) (hi5 : i < 5) (hk : k < xjl.getD i 0) : XC G Y22_56 (some .char) 3 0 0 [.ref (i + 2), .int (nI k)] M (fun v M' => v = some (.int (xjc i k)) ∧ M' = M) := by
  refine xc_of hg (by decide) (Nat.le_of_ble_eq_true rfl) (Or.inr (Or.inr (Or.inl ⟨rfl, rfl, fun v M' h => ⟨_, h.1, (xjc_c i hi5 k (by have := xjl_lt i hi5; omega)).2⟩⟩))) ?_
  refine xj_aload_n (i := 0) d22_56_0 rfl rfl ?_
  refine xj_callVs (i := i) (rest := []) (As := []) hSC hi5 (sLat hg (M := M) (n := n) (i := i) (show M.1 = n by omega) (by omega) hSC hi5) d22_56_1 wd22_154 w549 w548 (Or.inl w547) rfl rfl (Nat.le_of_ble_eq_true rfl) (by omega) (by omega) (by omega) ?_
  rintro v M' ⟨rfl, hm⟩
  subst M'
  refine xj_if_eq (tgt := 16) d22_56_4 rfl (fun h => absurd h (by decide)) (fun _ => ?_)
  refine xj_aload_n (i := 0) d22_56_7 rfl rfl ?_
  refine xj_getSv (i := i) hSC hi5 d22_56_8 w1405 ?_
  refine xj_iload_n (i := 1) d22_56_11 rfl rfl ?_
  refine xj_callS (rest := []) (As := [.ref (i + 7), .int (nI k)]) (s1At hg (M := M) (n := n) (k := k) (show M.1 = n by omega) (by omega) hSC hi5 hk) d22_56_12 wd23_2 w690 (Or.inl w689) rfl rfl (Nat.le_of_ble_eq_true rfl) (by omega) (by omega) (by omega) ?_
  rintro v M' ⟨rfl, hm⟩
  subst M'
  exact xj_ret d22_56_15 (by omega) (by omega) rfl ⟨rfl, rfl⟩
set_option maxRecDepth 20000 in
theorem sCan {G : xG} (hg : xGood G) {M : xM} {n : Nat} (hn : M.1 = n) (hx : xn ≤ n) {c : Nat} (hc : c < 128) : XC G Y23_4 (some .boolean) 0 0 0 [.int (nI c)] M (fun v M' => v = some (.int 1) ∧ M' = M) := by
  refine xc_of hg (by decide) (Nat.le_of_ble_eq_true rfl) (Or.inr (Or.inl ⟨rfl, rfl, fun v M' h => ⟨_, h.1, Or.inr rfl⟩⟩)) ?_
  refine xj_iload_n (i := 0) d23_4_0 rfl rfl ?_
  refine xj_if_lt (tgt := 15) d23_4_1 rfl (fun h => absurd h (nI_nlt (a := c) (b := 0) (by omega) (by omega))) (fun _ => ?_)
  refine xj_iload_n (i := 0) d23_4_4 rfl rfl ?_
  refine xj_sipush (v := 255) d23_4_5 (by decide) ?_
  refine xj_icmp_gt (tgt := 15) d23_4_8 rfl (fun h => absurd h (nI_nlt (a := 255) (b := c) (by omega) (by omega))) (fun _ => ?_)
  refine xj_iconst (v := 1) d23_4_11 (by decide) ?_
  refine xj_goto (tgt := 16) d23_4_12 rfl ?_
  exact xj_ret d23_4_16 (by omega) (by omega) rfl ⟨rfl, rfl⟩
theorem sIxL {G : xG} {M : xM} {c : Nat} (hSC : xSC G) {d ce se cells slots : Nat} {Post : Option Value → xM → Prop} (hcc : cells ≤ ce) (hss : slots ≤ se) (hi5 : 0 < 5) : ∀ (r k : Nat), k + r = 12 → Post (some (.int (xixF (nI c) k r))) M → XJ G Y23_23 d ce se cells slots 7 [(5, .int (nI k)), (4, .int (nI c)), (0, .ref (0 + 7)), (1, .int (nI c)), (2, .int 0), (3, .int (nI 12))] [] M Post
  | 0, k, hk, K => by
    replace K : Post (some (.int (-1))) M := K
    refine xj_iload (i := 5) d23_23_7 rfl ?_
    refine xj_iload_n (i := 3) d23_23_9 rfl rfl ?_
    refine xj_icmp_ge (tgt := 31) d23_23_10 rfl (fun _ => ?_) (fun h => absurd (nI_le (a := 12) (b := k) (by omega) (by omega)) h)
    refine xj_iconst (v := (-1)) d23_23_31 (by decide) ?_
    exact xj_ret d23_23_32 (by omega) (by omega) rfl K
  | r + 1, k, hk, K => by
    have ih := sIxL (G := G) (M := M) (c := c) hSC (d := d) (ce := ce) (se := se) (cells := cells) (slots := slots) (Post := Post) hcc hss hi5 r
    refine xj_iload (i := 5) d23_23_7 rfl ?_
    refine xj_iload_n (i := 3) d23_23_9 rfl rfl ?_
    refine xj_icmp_ge (tgt := 31) d23_23_10 rfl (fun h => absurd h (nI_ge (a := k) (b := 12) (by omega) (by omega))) (fun _ => ?_)
    refine xj_aload_n (i := 0) d23_23_13 rfl rfl ?_
    refine xj_iload (i := 5) d23_23_14 rfl ?_
    refine xj_sbld (i := 0) (j := k) hSC hi5 d23_23_16 (vp_in_nI (N := 12) (by omega) (by decide)) (nI_clamp (by omega)) ?_
    refine xj_iload (i := 4) d23_23_17 rfl ?_
    refine xj_icmp_ne (tgt := 25) d23_23_19 rfl (fun hq => ?_) (fun hq => ?_)
    · refine xj_iinc (v := nI (k + 1)) (L' := [(5, .int (nI (k + 1))), (4, .int (nI c)), (0, .ref (0 + 7)), (1, .int (nI c)), (2, .int 0), (3, .int (nI 12))]) d23_23_25 rfl (xinc _) (by decide) rfl ?_
      refine xj_goto (tgt := 7) d23_23_28 rfl ?_
      exact ih (k + 1) (by omega) (by rw [show xixF (nI c) k (r + 1) = xixF (nI c) (k + 1) r from if_neg hq] at K; exact K)
    · refine xj_iload (i := 5) d23_23_22 rfl ?_
      exact xj_ret d23_23_24 (by omega) (by omega) rfl (by rw [show xixF (nI c) k (r + 1) = nI k from if_pos hq] at K; exact K)
theorem sIxC {G : xG} (hg : xGood G) {M : xM} {n : Nat} (hn : M.1 = n) (hx : xn ≤ n) {c : Nat} (hSC : xSC G) (hc : c < 128) : XC G Y23_23 (some .int) 0 0 0 [.ref (0 + 7), .int (nI c), .int 0, .int (nI 12)] M (fun v M' => v = some (.int (xixF (nI c) 0 12)) ∧ M' = M) := by
  have hi5 : 0 < 5 := by decide
  refine xc_of hg (by decide) (Nat.le_of_ble_eq_true rfl) (Or.inl ⟨rfl, rfl, fun v M' h => ⟨_, h.1⟩⟩) ?_
  refine xj_iload_n (i := 1) d23_23_0 rfl rfl ?_
  refine xj_i2b (v := nI c) d23_23_1 (xi8 c hc) ?_
  refine xj_istore (i := 4) (L' := [(4, .int (nI c)), (0, .ref (0 + 7)), (1, .int (nI c)), (2, .int 0), (3, .int (nI 12))]) d23_23_2 (by decide) rfl ?_
  refine xj_iload_n (i := 2) d23_23_4 rfl rfl ?_
  refine xj_istore (i := 5) (L' := [(5, .int 0), (4, .int (nI c)), (0, .ref (0 + 7)), (1, .int (nI c)), (2, .int 0), (3, .int (nI 12))]) d23_23_5 (by decide) rfl ?_
  exact sIxL hSC (by omega) (by omega) (by decide) 12 0 rfl ⟨rfl, rfl⟩
theorem sIx1 {G : xG} (hg : xGood G) {M : xM} {n : Nat} (hn : M.1 = n) (hx : xn ≤ n) {c : Nat} (hSC : xSC G) (hc : c < 128) : XC G Y23_22 (some .int) 1 0 0 [.ref (0 + 7), .int (nI c), .int 0, .int (nI 12)] M (fun v M' => v = some (.int (xixF (nI c) 0 12)) ∧ M' = M) := by
  have hi5 : 0 < 5 := by decide
  refine xc_of hg (by decide) (Nat.le_of_ble_eq_true rfl) (Or.inl ⟨rfl, rfl, fun v M' h => ⟨_, h.1⟩⟩) ?_
  refine xj_iload_n (i := 1) d23_22_0 rfl rfl ?_
  refine xj_callS (rest := []) (As := [.int (nI c)]) (sCan hg (M := M) (n := n) (c := c) (show M.1 = n by omega) (by omega) (by omega)) d23_22_1 wd23_4 w565 (Or.inl w564) rfl rfl (Nat.le_of_ble_eq_true rfl) (by omega) (by omega) (by omega) ?_
  rintro v M' ⟨rfl, hm⟩
  subst M'
  refine xj_if_ne (tgt := 9) d23_22_4 rfl (fun _ => ?_) (fun h => absurd h (by decide))
  refine xj_iload_n (i := 2) d23_22_9 rfl rfl ?_
  refine xj_iconst (v := 0) d23_22_10 (by decide) ?_
  refine xj_max d23_22_11 w567 w186 w10 w187 (by omega) (Nat.le_of_ble_eq_true rfl) (by omega) (by omega) ?_
  show XJ _ _ _ _ _ _ _ _ _ (.int 0 :: _) _ _
  refine xj_istore_n (i := 2) (L' := [(2, .int 0), (0, .ref (0 + 7)), (1, .int (nI c)), (3, .int (nI 12))]) d23_22_14 rfl (by decide) rfl ?_
  refine xj_iload_n (i := 3) d23_22_15 rfl rfl ?_
  refine xj_aload_n (i := 0) d23_22_16 rfl rfl ?_
  show XJ _ _ _ _ _ _ _ _ _ (.ref (0 + 7) :: .int (nI 12) :: []) _ _
  refine xj_tlen (a := 0 + 7) (N := xjl.getD 0 0) (hSC.2.2.1.1 0 hi5).2.2.2 d23_22_17 ?_
  refine xj_min d23_22_18 w568 w219 w10 w220 (by omega) (Nat.le_of_ble_eq_true rfl) (by omega) (by omega) ?_
  rw [show (if nI (xjl.getD 0 0) < nI 12 then nI (xjl.getD 0 0) else nI 12) = nI 12 from (ite_self _)]
  refine xj_istore_n (i := 3) (L' := [(3, .int (nI 12)), (2, .int 0), (0, .ref (0 + 7)), (1, .int (nI c))]) d23_22_21 rfl (by decide) rfl ?_
  refine xj_iload_n (i := 2) d23_22_22 rfl rfl ?_
  refine xj_iload_n (i := 3) d23_22_23 rfl rfl ?_
  refine xj_icmp_lt (tgt := 29) d23_22_24 rfl (fun _ => ?_) (fun h => absurd (nI_lt (a := 0) (b := 12) (by omega) (by omega)) h)
  refine xj_aload_n (i := 0) d23_22_29 rfl rfl ?_
  refine xj_iload_n (i := 1) d23_22_30 rfl rfl ?_
  refine xj_iload_n (i := 2) d23_22_31 rfl rfl ?_
  refine xj_iload_n (i := 3) d23_22_32 rfl rfl ?_
  refine xj_callS (rest := []) (As := [.ref (0 + 7), .int (nI c), .int 0, .int (nI 12)]) (sIxC hg hn hx hSC hc) d23_22_33 wd23_23 w570 (Or.inl w569) rfl rfl (Nat.le_of_ble_eq_true rfl) (by omega) (by omega) (by omega) ?_
  rintro v M' ⟨rfl, hm⟩
  subst M'
  exact xj_ret d23_22_36 (by omega) (by omega) rfl ⟨rfl, rfl⟩
theorem sIx2 {G : xG} (hg : xGood G) {M : xM} {n : Nat} (hn : M.1 = n) (hx : xn ≤ n) {c : Nat} (hSC : xSC G) (hc : c < 128) : XC G Y22_80 (some .int) 2 0 0 [.ref (0 + 2), .int (nI c), .int 0] M (fun v M' => v = some (.int (xixF (nI c) 0 12)) ∧ M' = M) := by
  have hi5 : 0 < 5 := by decide
  refine xc_of hg (by decide) (Nat.le_of_ble_eq_true rfl) (Or.inl ⟨rfl, rfl, fun v M' h => ⟨_, h.1⟩⟩) ?_
  refine xj_aload_n (i := 0) d22_80_0 rfl rfl ?_
  refine xj_callVs (i := 0) (rest := []) (As := []) hSC hi5 (sLat hg (M := M) (n := n) (i := 0) (show M.1 = n by omega) (by omega) hSC hi5) d22_80_1 wd22_154 w549 w548 (Or.inl w547) rfl rfl (Nat.le_of_ble_eq_true rfl) (by omega) (by omega) (by omega) ?_
  rintro v M' ⟨rfl, hm⟩
  subst M'
  refine xj_if_eq (tgt := 23) d22_80_4 rfl (fun h => absurd h (by decide)) (fun _ => ?_)
  refine xj_aload_n (i := 0) d22_80_7 rfl rfl ?_
  refine xj_getSv (i := 0) hSC hi5 d22_80_8 w1405 ?_
  refine xj_iload_n (i := 1) d22_80_11 rfl rfl ?_
  refine xj_iload_n (i := 2) d22_80_12 rfl rfl ?_
  refine xj_aload_n (i := 0) d22_80_13 rfl rfl ?_
  refine xj_callVs (i := 0) (rest := [.int 0, .int (nI c), .ref (0 + 7)]) (As := []) hSC hi5 (sLen hg (M := M) (n := n) (i := 0) (show M.1 = n by omega) (by omega) hSC hi5) d22_80_14 wd22_54 w555 w554 (Or.inl w553) rfl rfl (Nat.le_of_ble_eq_true rfl) (by omega) (by omega) (by omega) ?_
  rintro v M' ⟨rfl, hm⟩
  subst M'
  refine xj_callS (rest := []) (As := [.ref (0 + 7), .int (nI c), .int 0, .int (nI (xjl.getD 0 0))]) (sIx1 hg hn hx hSC hc) d22_80_17 wd23_22 w562 (Or.inl w561) rfl rfl (Nat.le_of_ble_eq_true rfl) (by omega) (by omega) (by omega) ?_
  rintro v M' ⟨rfl, hm⟩
  subst M'
  refine xj_goto (tgt := 36) d22_80_20 rfl ?_
  exact xj_ret d22_80_36 (by omega) (by omega) rfl ⟨rfl, rfl⟩
theorem sIx {G : xG} (hg : xGood G) {M : xM} {n : Nat} (hn : M.1 = n) (hx : xn ≤ n) {c : Nat} (hSC : xSC G) (hc : c < 128) : XC G Y22_79 (some .int) 3 0 0 [.ref (0 + 2), .int (nI c)] M (fun v M' => v = some (.int (xixF (nI c) 0 12)) ∧ M' = M) := by
  have hi5 : 0 < 5 := by decide
  refine xc_of hg (by decide) (Nat.le_of_ble_eq_true rfl) (Or.inl ⟨rfl, rfl, fun v M' h => ⟨_, h.1⟩⟩) ?_
  refine xj_aload_n (i := 0) d22_79_0 rfl rfl ?_
  refine xj_iload_n (i := 1) d22_79_1 rfl rfl ?_
  refine xj_iconst (v := 0) d22_79_2 (by decide) ?_
  refine xj_callVs (i := 0) (rest := []) (As := [.int (nI c), .int 0]) hSC hi5 (sIx2 hg hn hx hSC hc) d22_79_3 wd22_80 w545 w544 (Or.inl w543) rfl rfl (Nat.le_of_ble_eq_true rfl) (by omega) (by omega) (by omega) ?_
  rintro v M' ⟨rfl, hm⟩
  subst M'
  exact xj_ret d22_79_6 (by omega) (by omega) rfl ⟨rfl, rfl⟩

set_option maxRecDepth 20000 in
theorem xAlikeN {G : xG} (hg : xGood G) {M : xM} {n : Nat} (hn : M.1 = n) (hx : xn ≤ n) {dl : Nat} {pl : Nat} {vc : Nat} {tk : Nat} {hc : Nat} {op : Nat} {pn : Int32} {lr : Value} {el : Value} {sz : Nat} {mo : Int32} (h1_16 : xn ≤ 16) (h2_16 : 16 < n) (h_16 : M.2 16 = (.inr (0, [.ref 17, .int (nI dl), .ref 18, .int (nI pl), lr, .ref 19, .int (nI vc), .ref op, .ref 22, .int (nI tk), .ref 23, .int (nI hc), .int pn]))) (h1_22 : xn ≤ 22) (h2_22 : 22 < n) (h_22 : M.2 22 = (.inr (2, [el, .int (nI sz), .int mo]))) (hsz : sz < 2) : XC G Y1_26 (some .boolean) 3 0 0 [.ref 16] M (fun v M' => v = some (.int 0) ∧ M' = M) := by
  refine xc_of hg (by decide) (Nat.le_of_ble_eq_true rfl) (Or.inr (Or.inl ⟨rfl, rfl, fun v M' h => ⟨_, h.1, Or.inl rfl⟩⟩)) ?_
  refine xj_aload_n (i := 0) d1_26_0 rfl rfl ?_
  refine xj_get d1_26_1 f1_34_0 h_16 (by omega) (show 16 < M.1 by omega) rfl ?_
  refine xj_callV (rest := []) (As := []) (b := 22) (cSize hg (M := M) (n := n) (a := 22) (el := el) (sz := nI sz) (mo := mo) (show M.1 = n by omega) (by omega) (by omega) (by omega) h_22) d1_26_4 wd28_8 h_22 (by omega) (show 22 < M.1 by omega) rfl w230 w229 (Or.inl w241) rfl rfl (Nat.le_of_ble_eq_true rfl) (by omega) (by omega) (by omega) ?_
  rintro v M' ⟨rfl, hm⟩
  subst M'
  refine xj_istore_n (i := 1) (L' := [(1, .int (nI sz)), (0, .ref 16)]) d1_26_7 rfl (by decide) rfl ?_
  refine xj_iload_n (i := 1) d1_26_8 rfl rfl ?_
  refine xj_iconst (v := 2) d1_26_9 (by decide) ?_
  refine xj_icmp_lt (tgt := 52) d1_26_10 rfl (fun _ => ?_) (fun h => absurd (nI_lt (a := sz) (b := 2) (by omega) (by omega)) h)
  refine xj_iconst (v := 0) d1_26_52 (by decide) ?_
  exact xj_ret d1_26_53 (by omega) (by omega) rfl ⟨rfl, rfl⟩
set_option maxRecDepth 20000 in
theorem xAlikeE {G : xG} (hg : xGood G) {M : xM} {n : Nat} (hn : M.1 = n) (hx : xn ≤ n) {dl : Nat} {pl : Nat} {vc : Nat} {tk : Nat} {hc : Nat} {op : Nat} {pn : Int32} {lr : Value} {es : Nat} {mo : Int32} {cap : Nat} {fs : Nat → Option Nat} {sz : Nat} {ob : Nat} {nb : Nat} {lob : Nat} {lnb : Nat} {lo : Int32} {ln : Int32} (h1_16 : xn ≤ 16) (h2_16 : 16 < n) (h_16 : M.2 16 = (.inr (0, [.ref 17, .int (nI dl), .ref 18, .int (nI pl), lr, .ref 19, .int (nI vc), .ref op, .ref 22, .int (nI tk), .ref 23, .int (nI hc), .int pn]))) (h1_22 : xn ≤ 22) (h2_22 : 22 < n) (h_22 : M.2 22 = (.inr (2, [.ref es, .int (nI (sz + 2)), .int mo]))) (h1_es : xn ≤ es) (h2_es : es < n) (h_es : M.2 es = (.inl (4, cap, .inr (.inr (.inr (.inr fs)))))) (h1_ob : xn ≤ ob) (h2_ob : ob < n) (h_ob : M.2 ob = (.inr (1, [.int lo, .ref lob]))) (h1_nb : xn ≤ nb) (h2_nb : nb < n) (h_nb : M.2 nb = (.inr (1, [.int ln, .ref lnb]))) (hsz : sz + 2 ≤ cap) (hcap : cap < 100000) (hv1 : fs sz = some ob) (hv2 : fs (sz + 1) = some nb) (hr : ln = lo) : XC G Y1_26 (some .boolean) 3 0 0 [.ref 16] M (fun v M' => v = some (.int 1) ∧ M' = M) := by
  refine xc_of hg (by decide) (Nat.le_of_ble_eq_true rfl) (Or.inr (Or.inl ⟨rfl, rfl, fun v M' h => ⟨_, h.1, Or.inr rfl⟩⟩)) ?_
  refine xj_aload_n (i := 0) d1_26_0 rfl rfl ?_
  refine xj_get d1_26_1 f1_34_0 h_16 (by omega) (show 16 < M.1 by omega) rfl ?_
  refine xj_callV (rest := []) (As := []) (b := 22) (cSize hg (M := M) (n := n) (a := 22) (el := .ref es) (sz := nI (sz + 2)) (mo := mo) (show M.1 = n by omega) (by omega) (by omega) (by omega) h_22) d1_26_4 wd28_8 h_22 (by omega) (show 22 < M.1 by omega) rfl w230 w229 (Or.inl w241) rfl rfl (Nat.le_of_ble_eq_true rfl) (by omega) (by omega) (by omega) ?_
  rintro v M' ⟨rfl, hm⟩
  subst M'
  refine xj_istore_n (i := 1) (L' := [(1, .int (nI (sz + 2))), (0, .ref 16)]) d1_26_7 rfl (by decide) rfl ?_
  refine xj_iload_n (i := 1) d1_26_8 rfl rfl ?_
  refine xj_iconst (v := 2) d1_26_9 (by decide) ?_
  refine xj_icmp_lt (tgt := 52) d1_26_10 rfl (fun h => absurd h (nI_nlt (a := sz + 2) (b := 2) (by omega) (by omega))) (fun _ => ?_)
  refine xj_aload_n (i := 0) d1_26_13 rfl rfl ?_
  refine xj_get d1_26_14 f1_34_0 h_16 (by omega) (show 16 < M.1 by omega) rfl ?_
  refine xj_iload_n (i := 1) d1_26_17 rfl rfl ?_
  refine xj_iconst (v := 1) d1_26_18 (by decide) ?_
  refine xj_isub (v := nI (sz + 1)) d1_26_19 (nI_pred _) ?_
  refine xj_callV (rest := []) (As := [.int (nI (sz + 1))]) (b := 22) (cGet hg (M := M) (n := n) (a := 22) (e := es) (mo := mo) (cap := cap) (f := fs) (sz := sz + 2) (k := sz + 1) (b := nb) (show M.1 = n by omega) (by omega) (by omega) (by omega) h_22 (by omega) (by omega) h_es (by omega) (by omega) (by omega) hv2) d1_26_20 wd28_20 h_22 (by omega) (show 22 < M.1 by omega) rfl w248 w247 (Or.inl w246) rfl rfl (Nat.le_of_ble_eq_true rfl) (by omega) (by omega) (by omega) ?_
  rintro v M' ⟨rfl, hm⟩
  subst M'
  refine xj_cast d1_26_23 w39 h_nb (by omega) (show nb < M.1 by omega) rfl (Or.inl rfl) ?_
  refine xj_get d1_26_26 f1_136_1 h_nb (by omega) (show nb < M.1 by omega) rfl ?_
  refine xj_aload_n (i := 0) d1_26_29 rfl rfl ?_
  refine xj_get d1_26_30 f1_34_0 h_16 (by omega) (show 16 < M.1 by omega) rfl ?_
  refine xj_iload_n (i := 1) d1_26_33 rfl rfl ?_
  refine xj_iconst (v := 2) d1_26_34 (by decide) ?_
  refine xj_isub (v := nI sz) d1_26_35 (xsub2 _) ?_
  refine xj_callV (rest := [.int ln]) (As := [.int (nI sz)]) (b := 22) (cGet hg (M := M) (n := n) (a := 22) (e := es) (mo := mo) (cap := cap) (f := fs) (sz := sz + 2) (k := sz) (b := ob) (show M.1 = n by omega) (by omega) (by omega) (by omega) h_22 (by omega) (by omega) h_es (by omega) (by omega) (by omega) hv1) d1_26_36 wd28_20 h_22 (by omega) (show 22 < M.1 by omega) rfl w248 w247 (Or.inl w246) rfl rfl (Nat.le_of_ble_eq_true rfl) (by omega) (by omega) (by omega) ?_
  rintro v M' ⟨rfl, hm⟩
  subst M'
  refine xj_cast d1_26_39 w39 h_ob (by omega) (show ob < M.1 by omega) rfl (Or.inl rfl) ?_
  refine xj_get d1_26_42 f1_136_1 h_ob (by omega) (show ob < M.1 by omega) rfl ?_
  refine xj_icmp_ne (tgt := 52) d1_26_45 rfl (fun h => absurd hr h) (fun _ => ?_)
  refine xj_iconst (v := 1) d1_26_48 (by decide) ?_
  refine xj_goto (tgt := 53) d1_26_49 rfl ?_
  exact xj_ret d1_26_53 (by omega) (by omega) rfl ⟨rfl, rfl⟩
set_option maxRecDepth 20000 in
theorem xAlikeD {G : xG} (hg : xGood G) {M : xM} {n : Nat} (hn : M.1 = n) (hx : xn ≤ n) {dl : Nat} {pl : Nat} {vc : Nat} {tk : Nat} {hc : Nat} {op : Nat} {pn : Int32} {lr : Value} {es : Nat} {mo : Int32} {cap : Nat} {fs : Nat → Option Nat} {sz : Nat} {ob : Nat} {nb : Nat} {lob : Nat} {lnb : Nat} {lo : Int32} {ln : Int32} (h1_16 : xn ≤ 16) (h2_16 : 16 < n) (h_16 : M.2 16 = (.inr (0, [.ref 17, .int (nI dl), .ref 18, .int (nI pl), lr, .ref 19, .int (nI vc), .ref op, .ref 22, .int (nI tk), .ref 23, .int (nI hc), .int pn]))) (h1_22 : xn ≤ 22) (h2_22 : 22 < n) (h_22 : M.2 22 = (.inr (2, [.ref es, .int (nI (sz + 2)), .int mo]))) (h1_es : xn ≤ es) (h2_es : es < n) (h_es : M.2 es = (.inl (4, cap, .inr (.inr (.inr (.inr fs)))))) (h1_ob : xn ≤ ob) (h2_ob : ob < n) (h_ob : M.2 ob = (.inr (1, [.int lo, .ref lob]))) (h1_nb : xn ≤ nb) (h2_nb : nb < n) (h_nb : M.2 nb = (.inr (1, [.int ln, .ref lnb]))) (hsz : sz + 2 ≤ cap) (hcap : cap < 100000) (hv1 : fs sz = some ob) (hv2 : fs (sz + 1) = some nb) (hr : ¬ ln = lo) : XC G Y1_26 (some .boolean) 3 0 0 [.ref 16] M (fun v M' => v = some (.int 0) ∧ M' = M) := by
  refine xc_of hg (by decide) (Nat.le_of_ble_eq_true rfl) (Or.inr (Or.inl ⟨rfl, rfl, fun v M' h => ⟨_, h.1, Or.inl rfl⟩⟩)) ?_
  refine xj_aload_n (i := 0) d1_26_0 rfl rfl ?_
  refine xj_get d1_26_1 f1_34_0 h_16 (by omega) (show 16 < M.1 by omega) rfl ?_
  refine xj_callV (rest := []) (As := []) (b := 22) (cSize hg (M := M) (n := n) (a := 22) (el := .ref es) (sz := nI (sz + 2)) (mo := mo) (show M.1 = n by omega) (by omega) (by omega) (by omega) h_22) d1_26_4 wd28_8 h_22 (by omega) (show 22 < M.1 by omega) rfl w230 w229 (Or.inl w241) rfl rfl (Nat.le_of_ble_eq_true rfl) (by omega) (by omega) (by omega) ?_
  rintro v M' ⟨rfl, hm⟩
  subst M'
  refine xj_istore_n (i := 1) (L' := [(1, .int (nI (sz + 2))), (0, .ref 16)]) d1_26_7 rfl (by decide) rfl ?_
  refine xj_iload_n (i := 1) d1_26_8 rfl rfl ?_
  refine xj_iconst (v := 2) d1_26_9 (by decide) ?_
  refine xj_icmp_lt (tgt := 52) d1_26_10 rfl (fun h => absurd h (nI_nlt (a := sz + 2) (b := 2) (by omega) (by omega))) (fun _ => ?_)
  refine xj_aload_n (i := 0) d1_26_13 rfl rfl ?_
  refine xj_get d1_26_14 f1_34_0 h_16 (by omega) (show 16 < M.1 by omega) rfl ?_
  refine xj_iload_n (i := 1) d1_26_17 rfl rfl ?_
  refine xj_iconst (v := 1) d1_26_18 (by decide) ?_
  refine xj_isub (v := nI (sz + 1)) d1_26_19 (nI_pred _) ?_
  refine xj_callV (rest := []) (As := [.int (nI (sz + 1))]) (b := 22) (cGet hg (M := M) (n := n) (a := 22) (e := es) (mo := mo) (cap := cap) (f := fs) (sz := sz + 2) (k := sz + 1) (b := nb) (show M.1 = n by omega) (by omega) (by omega) (by omega) h_22 (by omega) (by omega) h_es (by omega) (by omega) (by omega) hv2) d1_26_20 wd28_20 h_22 (by omega) (show 22 < M.1 by omega) rfl w248 w247 (Or.inl w246) rfl rfl (Nat.le_of_ble_eq_true rfl) (by omega) (by omega) (by omega) ?_
  rintro v M' ⟨rfl, hm⟩
  subst M'
  refine xj_cast d1_26_23 w39 h_nb (by omega) (show nb < M.1 by omega) rfl (Or.inl rfl) ?_
  refine xj_get d1_26_26 f1_136_1 h_nb (by omega) (show nb < M.1 by omega) rfl ?_
  refine xj_aload_n (i := 0) d1_26_29 rfl rfl ?_
  refine xj_get d1_26_30 f1_34_0 h_16 (by omega) (show 16 < M.1 by omega) rfl ?_
  refine xj_iload_n (i := 1) d1_26_33 rfl rfl ?_
  refine xj_iconst (v := 2) d1_26_34 (by decide) ?_
  refine xj_isub (v := nI sz) d1_26_35 (xsub2 _) ?_
  refine xj_callV (rest := [.int ln]) (As := [.int (nI sz)]) (b := 22) (cGet hg (M := M) (n := n) (a := 22) (e := es) (mo := mo) (cap := cap) (f := fs) (sz := sz + 2) (k := sz) (b := ob) (show M.1 = n by omega) (by omega) (by omega) (by omega) h_22 (by omega) (by omega) h_es (by omega) (by omega) (by omega) hv1) d1_26_36 wd28_20 h_22 (by omega) (show 22 < M.1 by omega) rfl w248 w247 (Or.inl w246) rfl rfl (Nat.le_of_ble_eq_true rfl) (by omega) (by omega) (by omega) ?_
  rintro v M' ⟨rfl, hm⟩
  subst M'
  refine xj_cast d1_26_39 w39 h_ob (by omega) (show ob < M.1 by omega) rfl (Or.inl rfl) ?_
  refine xj_get d1_26_42 f1_136_1 h_ob (by omega) (show ob < M.1 by omega) rfl ?_
  refine xj_icmp_ne (tgt := 52) d1_26_45 rfl (fun _ => ?_) (fun h => absurd h hr)
  refine xj_iconst (v := 0) d1_26_52 (by decide) ?_
  exact xj_ret d1_26_53 (by omega) (by omega) rfl ⟨rfl, rfl⟩
theorem xAlikeT {G : xG} (hg : xGood G) (hxn : xn = 16) {M0 : xM} {n0 es : Nat} {F0 : Nat → Prop} {va vt : Nat → Nat} {lv li : Nat → Int32} {f le : Nat → Int32} {sn : Nat} {M : xM} (h52 : 52 ≤ n0) {S : List Nat} {T0 : List (Int32 × List Nat)} {qo qn : Int32 × List Nat} (hF0 : ∀ x, F0 x → 16 ≤ x ∧ x < n0 ∧ x ≠ 16 ∧ x ≠ 22 ∧ x ≠ es) {dl : Nat} {pl : Nat} {vc : Nat} {tk : Nat} {hc : Nat} {op : Nat} {pn : Int32} {lr : Value} (h_16 : M.2 16 = (.inr (0, [.ref 17, .int (nI dl), .ref 18, .int (nI pl), lr, .ref 19, .int (nI vc), .ref op, .ref 22, .int (nI tk), .ref 23, .int (nI hc), .int pn]))) (hI : xSv M0 M n0 es F0 va vt lv li f le sn S (T0 ++ [qo, qn])) (hr : qn.1 = qo.1) : XC G Y1_26 (some .boolean) 3 0 0 [.ref 16] M (fun v M' => v = some (.int 1) ∧ M' = M) := by
  obtain ⟨i1, i2, i3, ⟨hl, hR⟩, -⟩ := hI
  obtain ⟨S0, ob, nb, rfl⟩ := xsnoc2 S (by rw [hl, List.length_append]; exact Nat.le_add_left 2 _)
  have hl0 : S0.length = T0.length := by
    rw [List.length_append, List.length_append] at hl
    have e1 : ([ob, nb] : List Nat).length = 2 := rfl
    have e2 : ([qo, qn] : List (Int32 × List Nat)).length = 2 := rfl
    omega
  obtain ⟨hob, lob, hlob, h_ob, hO⟩ := hR S0.length ob qo (xat0 S0 ob nb) (by rw [hl0]; exact xat0 T0 qo qn)
  obtain ⟨hnb, lnb, hlnb, h_nb, hN⟩ := hR (S0.length + 1) nb qn (xat1 S0 ob nb) (by rw [hl0]; exact xat1 T0 qo qn)
  obtain ⟨mo, cap, q1, q2, q3, q4, q5, q6, q7⟩ := i3
  rw [List.length_append] at q1 q2
  have z : ∀ x, (F0 x ∨ (n0 ≤ x ∧ x < M.1)) → xn ≤ x ∧ x < M.1 := fun x hx => hx.elim (fun h => by have := hF0 x h; omega) (fun h => by omega)
  exact xAlikeE hg rfl (by omega) (by omega) (by omega) h_16 (by omega) (by omega) q1 q5 q6 q7 (z ob hob).1 (z ob hob).2 h_ob (z nb hnb).1 (z nb hnb).2 h_nb q2 q4 (xat0 S0 ob nb) (xat1 S0 ob nb) hr
theorem xAlikeF {G : xG} (hg : xGood G) (hxn : xn = 16) {M0 : xM} {n0 es : Nat} {F0 : Nat → Prop} {va vt : Nat → Nat} {lv li : Nat → Int32} {f le : Nat → Int32} {sn : Nat} {M : xM} (h52 : 52 ≤ n0) {S : List Nat} {T0 : List (Int32 × List Nat)} {qo qn : Int32 × List Nat} (hF0 : ∀ x, F0 x → 16 ≤ x ∧ x < n0 ∧ x ≠ 16 ∧ x ≠ 22 ∧ x ≠ es) {dl : Nat} {pl : Nat} {vc : Nat} {tk : Nat} {hc : Nat} {op : Nat} {pn : Int32} {lr : Value} (h_16 : M.2 16 = (.inr (0, [.ref 17, .int (nI dl), .ref 18, .int (nI pl), lr, .ref 19, .int (nI vc), .ref op, .ref 22, .int (nI tk), .ref 23, .int (nI hc), .int pn]))) (hI : xSv M0 M n0 es F0 va vt lv li f le sn S (T0 ++ [qo, qn])) (hr : ¬ qn.1 = qo.1) : XC G Y1_26 (some .boolean) 3 0 0 [.ref 16] M (fun v M' => v = some (.int 0) ∧ M' = M) := by
  obtain ⟨i1, i2, i3, ⟨hl, hR⟩, -⟩ := hI
  obtain ⟨S0, ob, nb, rfl⟩ := xsnoc2 S (by rw [hl, List.length_append]; exact Nat.le_add_left 2 _)
  have hl0 : S0.length = T0.length := by
    rw [List.length_append, List.length_append] at hl
    have e1 : ([ob, nb] : List Nat).length = 2 := rfl
    have e2 : ([qo, qn] : List (Int32 × List Nat)).length = 2 := rfl
    omega
  obtain ⟨hob, lob, hlob, h_ob, hO⟩ := hR S0.length ob qo (xat0 S0 ob nb) (by rw [hl0]; exact xat0 T0 qo qn)
  obtain ⟨hnb, lnb, hlnb, h_nb, hN⟩ := hR (S0.length + 1) nb qn (xat1 S0 ob nb) (by rw [hl0]; exact xat1 T0 qo qn)
  obtain ⟨mo, cap, q1, q2, q3, q4, q5, q6, q7⟩ := i3
  rw [List.length_append] at q1 q2
  have z : ∀ x, (F0 x ∨ (n0 ≤ x ∧ x < M.1)) → xn ≤ x ∧ x < M.1 := fun x hx => hx.elim (fun h => by have := hF0 x h; omega) (fun h => by omega)
  exact xAlikeD hg rfl (by omega) (by omega) (by omega) h_16 (by omega) (by omega) q1 q5 q6 q7 (z ob hob).1 (z ob hob).2 h_ob (z nb hnb).1 (z nb hnb).2 h_nb q2 q4 (xat0 S0 ob nb) (xat1 S0 ob nb) hr
theorem xSetL {G : xG} (hg : xGood G) (hxn : xn = 16) (hZ : va_Z "java/util/ArrayList" "DEFAULTCAPACITY_EMPTY_ELEMENTDATA" "[Ljava/lang/Object;" (.ref (xa G 1)) (fun q => (xs G).heap.size ≤ q) (xs G) (xs G).heap) (hT : va_T (.object "java/lang/Object") (xa G 1) 0 (fun _ => .null) (fun q => (xs G).heap.size ≤ q) (xs G) (xs G).heap) {M0 : xM} {n0 es : Nat} {F0 : Nat → Prop} {va vt : Nat → Nat} {lv li : Nat → Int32} {B : Nat} (hB : B ≤ 171) (h52 : 52 ≤ n0) (hes : es < n0) (hF0 : ∀ x, F0 x → 16 ≤ x ∧ x < n0 ∧ x ≠ 16 ∧ x ≠ 22 ∧ x ≠ es) (hten : ((List.range 128).filter (fun s => decide (li s ≠ 0))).length ≤ 10) {dl : Nat} {pl : Nat} {vc : Nat} {hc : Nat} {op : Nat} {pn : Int32} {lr : Value} {bf : Nat} (hbf : bf ≤ 9) {d ce se c9 s9 : Nat} {Post : Option Value → xM → Prop} (hd : 7 ≤ d) (hc9 : c9 ≤ ce) (hs9 : s9 ≤ se) : ∀ (m k : Nat) (f le : Nat → Int32) (sn tk : Nat) (S : List Nat) (T : List (Int32 × List Nat)) (M : xM) (cells slots : Nat), k + m = bf → sn ≤ m + 1 → xSv M0 M n0 es F0 va vt lv li f le sn S T → xLvs T B → M.2 16 = (.inr (0, [.ref 17, .int (nI dl), .ref 18, .int (nI pl), lr, .ref 19, .int (nI vc), .ref op, .ref 22, .int (nI tk), .ref 23, .int (nI hc), .int pn])) → cells + 22 * m ≤ c9 → slots + 205 * m ≤ s9 → (∀ (M' : xM) (S' : List Nat) (T' : List (Int32 × List Nat)) (k' : Nat), xSv M0 M' n0 es F0 va vt lv li (setl li (m + 1) (f, le, sn, tk)).1 (setl li (m + 1) (f, le, sn, tk)).2.1 (setl li (m + 1) (f, le, sn, tk)).2.2.1 S' T' → xLvl T' B → M'.2 16 = (.inr (0, [.ref 17, .int (nI dl), .ref 18, .int (nI pl), lr, .ref 19, .int (nI vc), .ref op, .ref 22, .int (nI ((setl li (m + 1) (f, le, sn, tk)).2.2.2)), .ref 23, .int (nI hc), .int pn])) → XJ G Y1_25 d ce se c9 s9 32 [(2, .int (nI k')), (1, .int (nI bf)), (0, .ref 16)] [] M' Post) → XJ G Y1_25 d ce se cells slots 10 [(2, .int (nI k)), (1, .int (nI bf)), (0, .ref 16)] [] M Post := by
  intro m
  induction m with
  | zero =>
    intro k f le sn tk S T M cells slots hk hsn hI hL hO hcc hss K
    have hset : setl li (0 + 1) (f, le, sn, tk) = (f, le, sn, tk) := setl_1 (by omega)
    have hm := hI.1
    refine xj_iload_n (i := 2) d1_25_10 rfl rfl ?_
    refine xj_iload_n (i := 1) d1_25_11 rfl rfl ?_
    refine xj_icmp_ge (tgt := 32) d1_25_12 rfl (fun _ => ?_) (fun h => absurd (nI_le (a := bf) (b := k) (by omega) (by omega)) h)
    refine xj_more (show _ ≤ c9 by omega) (show _ ≤ s9 by omega) (K M S T k (by rw [hset]; exact hI) (xLvl_nil (by rw [hI.2.2.2.2.1.1]; omega) B) (by rw [hset]; exact hO))
  | succ m ih =>
    intro k f le sn tk S T M cells slots hk hsn hI hL hO hcc hss K
    have hm := hI.1
    by_cases hs1 : sn ≤ 1
    · have hset : setl li (m + 1 + 1) (f, le, sn, tk) = (f, le, sn, tk) := setl_1 hs1
      obtain ⟨el, mo, h22, hlt⟩ := xLs_len (xLa_s (P := fun x => x = es) hI.2.2.1 rfl)
      rw [hI.2.2.2.1.1, hI.2.2.2.2.1.1] at h22
      refine xj_iload_n (i := 2) d1_25_10 rfl rfl ?_
      refine xj_iload_n (i := 1) d1_25_11 rfl rfl ?_
      refine xj_icmp_ge (tgt := 32) d1_25_12 rfl (fun h => absurd h (nI_ge (a := k) (b := bf) (by omega) (by omega))) (fun _ => ?_)
      refine xj_aload_n (i := 0) d1_25_15 rfl rfl ?_
      refine xj_callV (rest := []) (As := []) (b := 16) (xAlikeN hg rfl (by omega) (by omega) (by omega) hO (by omega) (by omega) h22 (by omega)) d1_25_16 wd1_26 hO (by omega) (show 16 < M.1 by omega) rfl s1_26 w244 (Or.inl w242) rfl rfl (Nat.le_of_ble_eq_true rfl) (by omega) (by omega) (by omega) ?_
      rintro v M' ⟨rfl, hm0⟩
      subst M'
      refine xj_if_eq (tgt := 32) d1_25_19 rfl (fun _ => ?_) (fun h => absurd (by decide) h)
      refine xj_more (show _ ≤ c9 by omega) (show _ ≤ s9 by omega) (K M S T k (by rw [hset]; exact hI) (xLvl_nil (by rw [hI.2.2.2.2.1.1]; omega) B) (by rw [hset]; exact hO))
    · obtain ⟨av, rfl⟩ : ∃ av, sn = av + 2 := ⟨sn - 2, by omega⟩
      obtain ⟨T0, qo, qn, rfl⟩ := xsnoc2 T (by rw [hI.2.2.2.2.1.1]; omega)
      obtain ⟨t0, lo1, -, ln1, -⟩ := xAbs_two hI.2.2.2.2.1
      have hT9 := xLvs_len hL hB
      rw [hI.2.2.2.2.1.1] at hT9
      by_cases hr : qn.1 = qo.1
      · have hset : setl li (m + 1 + 1) (f, le, av + 2, tk) = setl li (m + 1) (xmrgF f li (nI av) (nI (av + 1)), upd le av (xmx (le av) (le (av + 1)) + 1), (if xcnt (xmrgF f li (nI av) (nI (av + 1))) (nI av) 128 = 0 then av else av + 1), tk + xnum (fun j => (f j = nI av ∨ f j = nI (av + 1)) ∧ li j = 0) 128) := by rw [setl, if_pos (by rw [← ln1, ← lo1, hr])]
        refine xj_iload_n (i := 2) d1_25_10 rfl rfl ?_
        refine xj_iload_n (i := 1) d1_25_11 rfl rfl ?_
        refine xj_icmp_ge (tgt := 32) d1_25_12 rfl (fun h => absurd h (nI_ge (a := k) (b := bf) (by omega) (by omega))) (fun _ => ?_)
        refine xj_aload_n (i := 0) d1_25_15 rfl rfl ?_
        refine xj_callV (rest := []) (As := []) (b := 16) (xAlikeT hg hxn h52 hF0 hO hI hr) d1_25_16 wd1_26 hO (by omega) (show 16 < M.1 by omega) rfl s1_26 w244 (Or.inl w242) rfl rfl (Nat.le_of_ble_eq_true rfl) (by omega) (by omega) (by omega) ?_
        rintro v M' ⟨rfl, hm0⟩
        subst M'
        refine xj_if_eq (tgt := 32) d1_25_19 rfl (fun h => absurd h (by decide)) (fun _ => ?_)
        refine xj_aload_n (i := 0) d1_25_22 rfl rfl ?_
        refine xj_callV (rest := []) (As := []) (b := 16) (xMergeS hg hxn hZ hT h52 hes hF0 hten hO hI (by omega)) d1_25_23 wd1_27 hO (by omega) (show 16 < M.1 by omega) rfl s1_27 w262 (Or.inl w260) rfl rfl (Nat.le_of_ble_eq_true rfl) (by omega) (by omega) (by omega) ?_
        rintro v M1 ⟨rfl, hs1, hO1, S1, hI1⟩
        refine xj_iinc (v := nI (k + 1)) (L' := [(2, .int (nI (k + 1))), (1, .int (nI bf)), (0, .ref 16)]) d1_25_26 rfl (xinc _) (by decide) rfl ?_
        refine xj_goto (tgt := 10) d1_25_29 rfl ?_
        refine ih (k + 1) _ _ _ _ S1 _ M1 _ _ (by omega) ?_ hI1 (xLvs_mrg hL hr hB) hO1 (by omega) (by omega) (fun M' S' T' k' e1 e2 e3 => K M' S' T' k' (by rw [hset]; exact e1) e2 (by rw [hset]; exact e3))
        split <;> omega
      · have hset : setl li (m + 1 + 1) (f, le, av + 2, tk) = (f, le, av + 2, tk) := setl_d (by rw [← ln1, ← lo1]; exact hr)
        refine xj_iload_n (i := 2) d1_25_10 rfl rfl ?_
        refine xj_iload_n (i := 1) d1_25_11 rfl rfl ?_
        refine xj_icmp_ge (tgt := 32) d1_25_12 rfl (fun h => absurd h (nI_ge (a := k) (b := bf) (by omega) (by omega))) (fun _ => ?_)
        refine xj_aload_n (i := 0) d1_25_15 rfl rfl ?_
        refine xj_callV (rest := []) (As := []) (b := 16) (xAlikeF hg hxn h52 hF0 hO hI hr) d1_25_16 wd1_26 hO (by omega) (show 16 < M.1 by omega) rfl s1_26 w244 (Or.inl w242) rfl rfl (Nat.le_of_ble_eq_true rfl) (by omega) (by omega) (by omega) ?_
        rintro v M' ⟨rfl, hm0⟩
        subst M'
        refine xj_if_eq (tgt := 32) d1_25_19 rfl (fun _ => ?_) (fun h => absurd (by decide) h)
        refine xj_more (show _ ≤ c9 by omega) (show _ ≤ s9 by omega) (K M S (T0 ++ [qo, qn]) k (by rw [hset]; exact hI) (xLvs_end hL hr) (by rw [hset]; exact hO))
theorem xSettle {G : xG} (hg : xGood G) (hxn : xn = 16) (hZ : va_Z "java/util/ArrayList" "DEFAULTCAPACITY_EMPTY_ELEMENTDATA" "[Ljava/lang/Object;" (.ref (xa G 1)) (fun q => (xs G).heap.size ≤ q) (xs G) (xs G).heap) (hT : va_T (.object "java/lang/Object") (xa G 1) 0 (fun _ => .null) (fun q => (xs G).heap.size ≤ q) (xs G) (xs G).heap) {M0 : xM} {n0 es : Nat} {F0 : Nat → Prop} {va vt : Nat → Nat} {lv li : Nat → Int32} {B : Nat} (hB : B ≤ 171) (h52 : 52 ≤ n0) (hes : es < n0) (hF0 : ∀ x, F0 x → 16 ≤ x ∧ x < n0 ∧ x ≠ 16 ∧ x ≠ 22 ∧ x ≠ es) (hten : ((List.range 128).filter (fun s => decide (li s ≠ 0))).length ≤ 10) {dl : Nat} {pl : Nat} {vc : Nat} {hc : Nat} {op : Nat} {pn : Int32} {lr : Value} {m tk : Nat} {f le : Nat → Int32} {S : List Nat} {T : List (Int32 × List Nat)} {M : xM} (hI : xSv M0 M n0 es F0 va vt lv li f le (m + 1) S T) (hL : xLvs T B) (hO : M.2 16 = (.inr (0, [.ref 17, .int (nI dl), .ref 18, .int (nI pl), lr, .ref 19, .int (nI vc), .ref op, .ref 22, .int (nI tk), .ref 23, .int (nI hc), .int pn]))) : XC G Y1_25 none 7 176 1640 [.ref 16] M (fun v M' => v = none ∧ ∃ S' T', xSv M0 M' n0 es F0 va vt lv li (setl li (m + 1) (f, le, m + 1, tk)).1 (setl li (m + 1) (f, le, m + 1, tk)).2.1 (setl li (m + 1) (f, le, m + 1, tk)).2.2.1 S' T' ∧ xLvl T' B ∧ M'.2 16 = (.inr (0, [.ref 17, .int (nI dl), .ref 18, .int (nI pl), lr, .ref 19, .int (nI vc), .ref op, .ref 22, .int (nI ((setl li (m + 1) (f, le, m + 1, tk)).2.2.2)), .ref 23, .int (nI hc), .int pn]))) := by
  have hm := hI.1
  have hT9 := xLvs_len hL hB
  rw [hI.2.2.2.2.1.1] at hT9
  obtain ⟨el, mo, h22, hlt⟩ := xLs_len (xLa_s (P := fun x => x = es) hI.2.2.1 rfl)
  rw [hI.2.2.2.1.1, hI.2.2.2.2.1.1] at h22
  refine xc_of hg (by decide) (Nat.le_of_ble_eq_true rfl) (Or.inr (Or.inr (Or.inr (Or.inr (Or.inl ⟨rfl, rfl, fun v M' h => h.1⟩))))) ?_
  refine xj_aload_n (i := 0) d1_25_0 rfl rfl ?_
  refine xj_get d1_25_1 f1_34_0 hO (by omega) (show 16 < M.1 by omega) rfl ?_
  refine xj_callV (rest := []) (As := []) (b := 22) (cSize hg (M := M) (n := M.1) (a := 22) (el := el) (sz := nI (m + 1)) (mo := mo) rfl (by omega) (by omega) (by omega) h22) d1_25_4 wd28_8 h22 (by omega) (show 22 < M.1 by omega) rfl w230 w229 (Or.inl w241) rfl rfl (Nat.le_of_ble_eq_true rfl) (by omega) (by omega) (by omega) ?_
  rintro v M' ⟨rfl, hm⟩
  subst M'
  refine xj_istore_n (i := 1) (L' := [(1, .int (nI (m + 1))), (0, .ref 16)]) d1_25_7 rfl (by decide) rfl ?_
  refine xj_iconst (v := 1) d1_25_8 (by decide) ?_
  refine xj_istore_n (i := 2) (L' := [(2, .int 1), (1, .int (nI (m + 1))), (0, .ref 16)]) d1_25_9 rfl (by decide) rfl ?_
  refine xSetL hg hxn hZ hT hB h52 hes hF0 hten (c9 := 176) (s9 := 1640) (bf := m + 1) (by omega) (by omega) (by omega) (by omega) m 1 f le (m + 1) tk S T M 0 0 (by omega) (by omega) hI hL hO (by omega) (by omega) (fun M' S' T' k' e1 e2 e3 => ?_)
  exact xj_ret d1_25_32 (by omega) (by omega) rfl ⟨rfl, S', T', e1, e2, e3⟩
theorem xCmpL {G : xG} (hg : xGood G) (hxn : xn = 16) (hZ : va_Z "java/util/ArrayList" "DEFAULTCAPACITY_EMPTY_ELEMENTDATA" "[Ljava/lang/Object;" (.ref (xa G 1)) (fun q => (xs G).heap.size ≤ q) (xs G) (xs G).heap) (hT : va_T (.object "java/lang/Object") (xa G 1) 0 (fun _ => .null) (fun q => (xs G).heap.size ≤ q) (xs G) (xs G).heap) {M0 : xM} {n0 es : Nat} {F0 : Nat → Prop} {va vt : Nat → Nat} {lv li : Nat → Int32} (h52 : 52 ≤ n0) (hes : es < n0) (hF0 : ∀ x, F0 x → 16 ≤ x ∧ x < n0 ∧ x ≠ 16 ∧ x ≠ 22 ∧ x ≠ es) (hten : ((List.range 128).filter (fun s => decide (li s ≠ 0))).length ≤ 10) {dl : Nat} {pl : Nat} {vc : Nat} {hc : Nat} {op : Nat} {pn : Int32} {lr : Value} {bf : Nat} (hbf : bf ≤ 9) {d ce se c9 s9 : Nat} {Post : Option Value → xM → Prop} (hd : 7 ≤ d) (hc9 : c9 ≤ ce) (hs9 : s9 ≤ se) : ∀ (m k : Nat) (f le : Nat → Int32) (sn tk c0 : Nat) (S : List Nat) (T : List (Int32 × List Nat)) (M : xM) (cells slots : Nat), k + m = bf → sn ≤ m + 1 → xSv M0 M n0 es F0 va vt lv li f le sn S T → T.length ≤ 9 → M.2 16 = (.inr (0, [.ref 17, .int (nI dl), .ref 18, .int (nI pl), lr, .ref 19, .int (nI vc), .ref op, .ref 22, .int (nI tk), .ref 23, .int (nI hc), .int pn])) → cells + 22 * m ≤ c9 → slots + 205 * m ≤ s9 → (∀ (M' : xM) (S' : List Nat) (T' : List (Int32 × List Nat)) (k' : Nat), xSv M0 M' n0 es F0 va vt lv li (cmpl li (m + 1) (f, le, sn, tk) c0).1.1 (cmpl li (m + 1) (f, le, sn, tk) c0).1.2.1 (cmpl li (m + 1) (f, le, sn, tk) c0).1.2.2.1 S' T' → T'.length ≤ 1 → M'.2 16 = (.inr (0, [.ref 17, .int (nI dl), .ref 18, .int (nI pl), lr, .ref 19, .int (nI vc), .ref op, .ref 22, .int (nI ((cmpl li (m + 1) (f, le, sn, tk) c0).1.2.2.2)), .ref 23, .int (nI hc), .int pn])) → XJ G Y1_17 d ce se c9 s9 55 [(3, .int (nI k')), (2, .int (nI bf)), (1, .int (nI ((cmpl li (m + 1) (f, le, sn, tk) c0).2))), (0, .ref 16)] [] M' Post) → XJ G Y1_17 d ce se cells slots 26 [(3, .int (nI k)), (2, .int (nI bf)), (1, .int (nI c0)), (0, .ref 16)] [] M Post := by
  intro m
  induction m with
  | zero =>
    intro k f le sn tk c0 S T M cells slots hk hsn hI hT9 hO hcc hss K
    have hset : cmpl li (0 + 1) (f, le, sn, tk) c0 = ((f, le, sn, tk), c0) := cmpl_1 (by omega)
    have hm := hI.1
    refine xj_iload_n (i := 3) d1_17_26 rfl rfl ?_
    refine xj_iload_n (i := 2) d1_17_27 rfl rfl ?_
    refine xj_icmp_ge (tgt := 55) d1_17_28 rfl (fun _ => ?_) (fun h => absurd (nI_le (a := bf) (b := k) (by omega) (by omega)) h)
    refine xj_more (show _ ≤ c9 by omega) (show _ ≤ s9 by omega) (by rw [hset] at K; exact K M S T k hI (by rw [hI.2.2.2.2.1.1]; omega) hO)
  | succ m ih =>
    intro k f le sn tk c0 S T M cells slots hk hsn hI hT9 hO hcc hss K
    have hm := hI.1
    by_cases hs1 : sn ≤ 1
    · have hset : cmpl li (m + 1 + 1) (f, le, sn, tk) c0 = ((f, le, sn, tk), c0) := cmpl_1 hs1
      obtain ⟨el, mo, h22, hlt⟩ := xLs_len (xLa_s (P := fun x => x = es) hI.2.2.1 rfl)
      rw [hI.2.2.2.1.1, hI.2.2.2.2.1.1] at h22
      refine xj_iload_n (i := 3) d1_17_26 rfl rfl ?_
      refine xj_iload_n (i := 2) d1_17_27 rfl rfl ?_
      refine xj_icmp_ge (tgt := 55) d1_17_28 rfl (fun h => absurd h (nI_ge (a := k) (b := bf) (by omega) (by omega))) (fun _ => ?_)
      refine xj_aload_n (i := 0) d1_17_31 rfl rfl ?_
      refine xj_get d1_17_32 f1_34_0 hO (by omega) (show 16 < M.1 by omega) rfl ?_
      refine xj_callV (rest := []) (As := []) (b := 22) (cSize hg (M := M) (n := M.1) (a := 22) (el := el) (sz := nI sn) (mo := mo) rfl (by omega) (by omega) (by omega) h22) d1_17_35 wd28_8 h22 (by omega) (show 22 < M.1 by omega) rfl w230 w229 (Or.inl w241) rfl rfl (Nat.le_of_ble_eq_true rfl) (by omega) (by omega) (by omega) ?_
      rintro v M' ⟨rfl, hm⟩
      subst M'
      refine xj_iconst (v := 2) d1_17_38 (by decide) ?_
      refine xj_icmp_lt (tgt := 55) d1_17_39 rfl (fun _ => ?_) (fun h => absurd (nI_lt (a := sn) (b := 2) (by omega) (by omega)) h)
      refine xj_more (show _ ≤ c9 by omega) (show _ ≤ s9 by omega) (by rw [hset] at K; exact K M S T k hI (by rw [hI.2.2.2.2.1.1]; omega) hO)
    · obtain ⟨av, rfl⟩ : ∃ av, sn = av + 2 := ⟨sn - 2, by omega⟩
      obtain ⟨T0, qo, qn, rfl⟩ := xsnoc2 T (by rw [hI.2.2.2.2.1.1]; omega)
      obtain ⟨t0, lo1, -, ln1, -⟩ := xAbs_two hI.2.2.2.2.1
      rw [hI.2.2.2.2.1.1] at hT9
      obtain ⟨el, mo, h22, hlt⟩ := xLs_len (xLa_s (P := fun x => x = es) hI.2.2.1 rfl)
      rw [hI.2.2.2.1.1, hI.2.2.2.2.1.1] at h22
      have hset : cmpl li (m + 1 + 1) (f, le, av + 2, tk) c0 = cmpl li (m + 1) (xmrgF f li (nI av) (nI (av + 1)), upd le av (xmx (le av) (le (av + 1)) + 1), (if xcnt (xmrgF f li (nI av) (nI (av + 1))) (nI av) 128 = 0 then av else av + 1), tk + xnum (fun j => (f j = nI av ∨ f j = nI (av + 1)) ∧ li j = 0) 128) (c0 + 1) := by rw [cmpl]
      refine xj_iload_n (i := 3) d1_17_26 rfl rfl ?_
      refine xj_iload_n (i := 2) d1_17_27 rfl rfl ?_
      refine xj_icmp_ge (tgt := 55) d1_17_28 rfl (fun h => absurd h (nI_ge (a := k) (b := bf) (by omega) (by omega))) (fun _ => ?_)
      refine xj_aload_n (i := 0) d1_17_31 rfl rfl ?_
      refine xj_get d1_17_32 f1_34_0 hO (by omega) (show 16 < M.1 by omega) rfl ?_
      refine xj_callV (rest := []) (As := []) (b := 22) (cSize hg (M := M) (n := M.1) (a := 22) (el := el) (sz := nI (av + 2)) (mo := mo) rfl (by omega) (by omega) (by omega) h22) d1_17_35 wd28_8 h22 (by omega) (show 22 < M.1 by omega) rfl w230 w229 (Or.inl w241) rfl rfl (Nat.le_of_ble_eq_true rfl) (by omega) (by omega) (by omega) ?_
      rintro v M' ⟨rfl, hm⟩
      subst M'
      refine xj_iconst (v := 2) d1_17_38 (by decide) ?_
      refine xj_icmp_lt (tgt := 55) d1_17_39 rfl (fun h => absurd h (nI_nlt (a := av + 2) (b := 2) (by omega) (by omega))) (fun _ => ?_)
      refine xj_aload_n (i := 0) d1_17_42 rfl rfl ?_
      refine xj_callV (rest := []) (As := []) (b := 16) (xMergeS hg hxn hZ hT h52 hes hF0 hten hO hI (by omega)) d1_17_43 wd1_27 hO (by omega) (show 16 < M.1 by omega) rfl s1_27 w262 (Or.inl w260) rfl rfl (Nat.le_of_ble_eq_true rfl) (by omega) (by omega) (by omega) ?_
      rintro v M1 ⟨rfl, hs1, hO1, S1, hI1⟩
      refine xj_iinc (v := nI (c0 + 1)) (L' := [(1, .int (nI (c0 + 1))), (3, .int (nI k)), (2, .int (nI bf)), (0, .ref 16)]) d1_17_46 rfl (xinc _) (by decide) rfl ?_
      refine xj_iinc (v := nI (k + 1)) (L' := [(3, .int (nI (k + 1))), (1, .int (nI (c0 + 1))), (2, .int (nI bf)), (0, .ref 16)]) d1_17_49 rfl (xinc _) (by decide) rfl ?_
      refine xj_goto (tgt := 26) d1_17_52 rfl ?_
      rw [hset] at K
      refine xj_sub (L' := [(3, .int (nI (k + 1))), (2, .int (nI bf)), (1, .int (nI (c0 + 1))), (0, .ref 16)]) (fun q hq => by simp only [List.mem_cons, List.not_mem_nil, or_false] at hq ⊢; rcases hq with rfl | rfl | rfl | rfl <;> simp) ?_
      refine ih (k + 1) _ _ _ _ (c0 + 1) S1 _ M1 (cells + 22) (slots + 205) (by omega) ?_ hI1 (by rw [hI1.2.2.2.2.1.1]; split <;> omega) hO1 (by omega) (by omega) K
      split <;> omega

theorem xAddLvL {G : xG} (hg : xGood G) (hxn : xn = 16) (hZ : va_Z "java/util/ArrayList" "DEFAULTCAPACITY_EMPTY_ELEMENTDATA" "[Ljava/lang/Object;" (.ref (xa G 1)) (fun q => (xs G).heap.size ≤ q) (xs G) (xs G).heap) (hT : va_T (.object "java/lang/Object") (xa G 1) 0 (fun _ => .null) (fun q => (xs G).heap.size ≤ q) (xs G) (xs G).heap) {M0 : xM} {n0 a l b lb : Nat} {lvl lvb : Int32} {vo : List Nat} {lv : Nat → Int32} {vt : Nat → Nat} (h16 : 16 ≤ n0) (hn0 : n0 ≤ M0.1) (ha : n0 ≤ a) (ha2 : a < M0.1) (hl : n0 ≤ l) (hl2 : l < M0.1) (hne : a ≠ l) (h1b : 16 ≤ b) (h2b : b < n0) (h1lb : 16 ≤ lb) (h2lb : lb < n0) (h_b : M0.2 b = (.inr (1, [.int lvb, .ref lb]))) (hB : xLs (fun x => x < n0) M0 lb vo) (hV : ∀ w ∈ vo, 16 ≤ w ∧ w < n0 ∧ M0.2 w = (.inr (3, [.ref (vt w), .int (lv w)]))) {d ce se c9 s9 : Nat} {Post : Option Value → xM → Prop} (hd : 5 ≤ d) (hc9 : c9 ≤ ce) (hs9 : s9 ≤ se) : ∀ (r : List Nat) (i : Nat) (vs : List Nat) (M : xM) (cells slots : Nat), i + r.length = vo.length → vo.drop i = r → vs.length + (r.filter (fun w => decide (lv w ≠ 0))).length ≤ 10 → M0.1 ≤ M.1 → (∀ j, j < n0 → M.2 j = M0.2 j) → M.2 a = (.inr (1, [.int lvl, .ref l])) → xLs (fun x => n0 ≤ x) M l vs → cells + r.length ≤ c9 → slots + 10 * r.length ≤ s9 → (∀ M' : xM, M0.1 ≤ M'.1 → (∀ j, j < n0 → M'.2 j = M0.2 j) → M'.2 a = (.inr (1, [.int lvl, .ref l])) → xLs (fun x => n0 ≤ x) M' l (vs ++ r.filter (fun w => decide (lv w ≠ 0))) → XJ G Y10_3 d ce se c9 s9 55 [(2, .int (nI vo.length)), (0, .ref a), (1, .ref b)] [] M' Post) → XJ G Y10_3 d ce se cells slots 2 [(2, .int (nI i)), (0, .ref a), (1, .ref b)] [] M Post := by
  intro r
  induction r with
  | nil =>
    intro i vs M cells slots hi hdr hlen hm hfr hA hL hcc hss K
    have hi' : i = vo.length := by simpa using hi
    subst i
    have hBM : xLs (fun x => x < n0) M lb vo := xLs_fr hB hm (hfr lb h2lb) (fun x hx _ => hfr x hx)
    obtain ⟨elb, mob, hlb, hlt⟩ := xLs_len hBM
    obtain ⟨ell, mol, hll, hlt2⟩ := xLs_len hL
    refine xj_iload_n (i := 2) d10_3_2 rfl rfl ?_
    refine xj_aload_n (i := 1) d10_3_3 rfl rfl ?_
    refine xj_get d10_3_4 f10_10_1 ((hfr b h2b).trans h_b) (by omega) (show b < M.1 by omega) rfl ?_
    refine xj_callV (rest := [.int (nI vo.length)]) (As := []) (b := lb) (cSize hg (M := M) (n := M.1) (a := lb) (el := elb) (sz := nI vo.length) (mo := mob) rfl (by omega) (by omega) (by omega) hlb) d10_3_7 wd28_8 hlb (by omega) (show lb < M.1 by omega) rfl w230 w229 (Or.inl w228) rfl rfl (Nat.le_of_ble_eq_true rfl) (by omega) (by omega) (by omega) ?_
    rintro v M' ⟨rfl, hm⟩
    subst M'
    refine xj_icmp_ge (tgt := 55) d10_3_10 rfl (fun _ => ?_) (fun h => absurd (nI_le (a := vo.length) (b := vo.length) (by omega) (by omega)) h)
    exact xj_more (by simpa using hcc) (by simpa using hss) (K M hm hfr hA (by simpa using hL))
  | cons w r ih =>
    intro i vs M cells slots hi hdr hlen hm hfr hA hL hcc hss K
    have hget : vo[i]? = some w := by rw [← List.head?_drop, hdr]; rfl
    have hdr2 : vo.drop (i + 1) = r := by rw [← List.tail_drop, hdr]; rfl
    obtain ⟨hw1, hw2, hw3⟩ := hV w (List.mem_of_getElem? hget)
    rw [List.length_cons] at hi hcc hss
    have hBM : xLs (fun x => x < n0) M lb vo := xLs_fr hB hm (hfr lb h2lb) (fun x hx _ => hfr x hx)
    obtain ⟨elb, mob, hlb, hlt⟩ := xLs_len hBM
    obtain ⟨ell, mol, hll, hlt2⟩ := xLs_len hL
    have hlt10 : ¬ lv w = 0 → vs.length < 10 := fun hlw => by rw [List.filter_cons_of_pos (by simp [hlw])] at hlen; simp at hlen; omega
    refine xj_iload_n (i := 2) d10_3_2 rfl rfl ?_
    refine xj_aload_n (i := 1) d10_3_3 rfl rfl ?_
    refine xj_get d10_3_4 f10_10_1 ((hfr b h2b).trans h_b) (by omega) (show b < M.1 by omega) rfl ?_
    refine xj_callV (rest := [.int (nI i)]) (As := []) (b := lb) (cSize hg (M := M) (n := M.1) (a := lb) (el := elb) (sz := nI vo.length) (mo := mob) rfl (by omega) (by omega) (by omega) hlb) d10_3_7 wd28_8 hlb (by omega) (show lb < M.1 by omega) rfl w230 w229 (Or.inl w228) rfl rfl (Nat.le_of_ble_eq_true rfl) (by omega) (by omega) (by omega) ?_
    rintro v M' ⟨rfl, hm⟩
    subst M'
    refine xj_icmp_ge (tgt := 55) d10_3_10 rfl (fun h => absurd h (nI_ge (a := i) (b := vo.length) (by omega) (by omega))) (fun _ => ?_)
    refine xj_aload_n (i := 1) d10_3_13 rfl rfl ?_
    refine xj_get d10_3_14 f10_10_1 ((hfr b h2b).trans h_b) (by omega) (show b < M.1 by omega) rfl ?_
    refine xj_iload_n (i := 2) d10_3_17 rfl rfl ?_
    refine xj_callV (rest := []) (As := [.int (nI i)]) (b := lb) (xLs_get (k := i) (b := w) hg hBM (by omega) (by omega) hget) d10_3_18 wd28_20 hlb (by omega) (show lb < M.1 by omega) rfl w248 w247 (Or.inl w278) rfl rfl (Nat.le_of_ble_eq_true rfl) (by omega) (by omega) (by omega) ?_
    rintro v M' ⟨rfl, hm0⟩
    subst M'
    refine xj_cast d10_3_21 w279 ((hfr w hw2).trans hw3) (by omega) (show w < M.1 by omega) rfl (Or.inl rfl) ?_
    refine xj_get d10_3_24 f10_34_3 ((hfr w hw2).trans hw3) (by omega) (show w < M.1 by omega) rfl ?_
    refine xj_if_eq (tgt := 49) d10_3_27 rfl (fun hlw => ?_) (fun hlw => ?_)
    · refine xj_iinc (v := nI (i + 1)) (L' := [(2, .int (nI (i + 1))), (0, .ref a), (1, .ref b)]) d10_3_49 rfl (xinc _) (by decide) rfl ?_
      refine xj_goto (tgt := 2) d10_3_52 rfl ?_
      refine xj_more (Nat.le_refl _) (Nat.le_refl _) (ih (i + 1) vs M cells slots (by omega) hdr2 (by rw [List.filter_cons_of_neg (by simp [hlw])] at hlen; exact hlen) hm hfr hA hL (by omega) (by omega) (fun M' e1 e2 e3 e4 => K M' e1 e2 e3 (by rw [List.filter_cons_of_neg (by simp [hlw])]; exact e4)))
    · refine xj_aload_n (i := 0) d10_3_30 rfl rfl ?_
      refine xj_get d10_3_31 f10_10_1 hA (by omega) (show a < M.1 by omega) rfl ?_
      refine xj_aload_n (i := 1) d10_3_34 rfl rfl ?_
      refine xj_get d10_3_35 f10_10_1 ((hfr b h2b).trans h_b) (by omega) (show b < M.1 by omega) rfl ?_
      refine xj_iload_n (i := 2) d10_3_38 rfl rfl ?_
      refine xj_callV (rest := [.ref l]) (As := [.int (nI i)]) (b := lb) (xLs_get (k := i) (b := w) hg hBM (by omega) (by omega) hget) d10_3_39 wd28_20 hlb (by omega) (show lb < M.1 by omega) rfl w248 w247 (Or.inl w278) rfl rfl (Nat.le_of_ble_eq_true rfl) (by omega) (by omega) (by omega) ?_
      rintro v M' ⟨rfl, hm0⟩
      subst M'
      refine xj_cast d10_3_42 w279 ((hfr w hw2).trans hw3) (by omega) (show w < M.1 by omega) rfl (Or.inl rfl) ?_
      refine xj_callV (rest := []) (As := [.ref w]) (b := l) (xLs_add (P := fun x => n0 ≤ x) hg hZ hT hL (by omega) (by omega) (fun x hx => Nat.le_trans (Nat.le_trans hn0 hm) hx) (hlt10 hlw) (by omega) (by omega) ((hfr w hw2).trans hw3) (xne_cl hll ((hfr w hw2).trans hw3) (by decide)) rfl (Or.inr w1394)) d10_3_45 wd28_25 hll (by omega) (show l < M.1 by omega) rfl w168 w167 (Or.inl w166) rfl rfl (Nat.le_of_ble_eq_true rfl) (by omega) (by omega) (by omega) ?_
      rintro v M1 ⟨rfl, hs1, ho1, hL2⟩
      refine xj_pop d10_3_48 rfl ?_
      refine xj_iinc (v := nI (i + 1)) (L' := [(2, .int (nI (i + 1))), (0, .ref a), (1, .ref b)]) d10_3_49 rfl (xinc _) (by decide) rfl ?_
      refine xj_goto (tgt := 2) d10_3_52 rfl ?_
      refine ih (i + 1) (vs ++ [w]) M1 _ _ (by omega) hdr2 (by rw [List.filter_cons_of_pos (by simp [hlw])] at hlen; simp at hlen ⊢; omega) (by omega) (fun j hj => (ho1 j (by omega) (by omega) (fun (q : n0 ≤ j) => absurd q (by omega))).trans (hfr j hj)) ((ho1 a (by omega) (by omega) (fun _ => ⟨_, hA⟩)).trans hA) hL2 (by omega) (by omega) (fun M' e1 e2 e3 e4 => K M' e1 e2 e3 (by rw [List.filter_cons_of_pos (by simp [hlw]), List.append_cons]; exact e4))
theorem xAddLive {G : xG} (hg : xGood G) (hxn : xn = 16) (hZ : va_Z "java/util/ArrayList" "DEFAULTCAPACITY_EMPTY_ELEMENTDATA" "[Ljava/lang/Object;" (.ref (xa G 1)) (fun q => (xs G).heap.size ≤ q) (xs G) (xs G).heap) (hT : va_T (.object "java/lang/Object") (xa G 1) 0 (fun _ => .null) (fun q => (xs G).heap.size ≤ q) (xs G) (xs G).heap) {M : xM} {n0 a l b lb : Nat} {lvl lvb : Int32} {vo : List Nat} {lv : Nat → Int32} {vt : Nat → Nat} (h16 : 16 ≤ n0) (hn0 : n0 ≤ M.1) (ha : n0 ≤ a) (ha2 : a < M.1) (hl : n0 ≤ l) (hl2 : l < M.1) (hne : a ≠ l) (h1b : 16 ≤ b) (h2b : b < n0) (h1lb : 16 ≤ lb) (h2lb : lb < n0) (h_b : M.2 b = (.inr (1, [.int lvb, .ref lb]))) (hB : xLs (fun x => x < n0) M lb vo) (hV : ∀ w ∈ vo, 16 ≤ w ∧ w < n0 ∧ M.2 w = (.inr (3, [.ref (vt w), .int (lv w)]))) {vs : List Nat} (h_a : M.2 a = (.inr (1, [.int lvl, .ref l]))) (hL : xLs (fun x => n0 ≤ x) M l vs) (hlen : vs.length + (vo.filter (fun w => decide (lv w ≠ 0))).length ≤ 10) (hvo : vo.length ≤ 10) : XC G Y10_3 none 5 10 100 [.ref a, .ref b] M (fun v M' => v = none ∧ M.1 ≤ M'.1 ∧ (∀ j, j < n0 → M'.2 j = M.2 j) ∧ M'.2 a = (.inr (1, [.int lvl, .ref l])) ∧ xLs (fun x => n0 ≤ x) M' l (vs ++ vo.filter (fun w => decide (lv w ≠ 0)))) := by
  refine xc_of hg (by decide) (Nat.le_of_ble_eq_true rfl) (Or.inr (Or.inr (Or.inr (Or.inr (Or.inl ⟨rfl, rfl, fun v M' h => h.1⟩))))) ?_
  refine xj_iconst (v := 0) d10_3_0 (by decide) ?_
  refine xj_istore_n (i := 2) (L' := [(2, .int 0), (0, .ref a), (1, .ref b)]) d10_3_1 rfl (by decide) rfl ?_
  refine xAddLvL (M0 := M) (c9 := 10) (s9 := 100) hg hxn hZ hT h16 hn0 ha ha2 hl hl2 hne h1b h2b h1lb h2lb h_b hB hV (by omega) (by omega) (by omega) vo 0 vs M 0 0 (by omega) rfl hlen (Nat.le_refl _) (fun j _ => rfl) h_a hL (by omega) (by omega) (fun M' e1 e2 e3 e4 => ?_)
  exact xj_ret d10_3_55 (by omega) (by omega) rfl ⟨rfl, e1, e2, e3, e4⟩
theorem xl_at2 (S : List Nat) (o b : Nat) : (fun i => (S ++ [o, b])[i]?) (S.length + 1) = some b := by
  show (S ++ [o, b])[S.length + 1]? = some b
  rw [List.getElem?_append_right (by omega)]
  simp
theorem xl_at1 (S : List Nat) (o b : Nat) : (va_up (fun i => (S ++ [o, b])[i]?) (S.length + 1) none) S.length = some o := by
  rw [xl_p1]
  simp
theorem xsubN {a b : Nat} (h : b ≤ a) : nI a - nI b = nI (a - b) := pk_sub h
theorem xfl (vo vn : List Nat) (p : Nat → Bool) : (vo.filter p ++ vn.filter p).length ≤ vo.length + vn.length := by
  rw [List.length_append]
  have h1 := List.length_filter_le p vo
  have h2 := List.length_filter_le p vn
  omega
theorem xle0 {k : Nat} (h : nI k ≤ 0) (hk : k < 2 ^ 31) : k = 0 := by
  cases k with
  | zero => rfl
  | succ k => exact absurd h (nI_nle (by omega) hk)
set_option maxRecDepth 20000 in
theorem xMerge {G : xG} (hg : xGood G) (hxn : xn = 16) (hZ : va_Z "java/util/ArrayList" "DEFAULTCAPACITY_EMPTY_ELEMENTDATA" "[Ljava/lang/Object;" (.ref (xa G 1)) (fun q => (xs G).heap.size ≤ q) (xs G) (xs G).heap) (hT : va_T (.object "java/lang/Object") (xa G 1) 0 (fun _ => .null) (fun q => (xs G).heap.size ≤ q) (xs G) (xs G).heap) {M : xM} {n : Nat} (hn : M.1 = n) (h24 : 24 ≤ n) {Fz : Nat → Prop} {es : Nat} {dl : Nat} {pl : Nat} {vc : Nat} {tk : Nat} {hc : Nat} {op : Nat} {pn : Int32} {lr : Value} (h_16 : M.2 16 = (.inr (0, [.ref 17, .int (nI dl), .ref 18, .int (nI pl), lr, .ref 19, .int (nI vc), .ref op, .ref 22, .int (nI tk), .ref 23, .int (nI hc), .int pn]))) {S0 : List Nat} {ob nb lob lnb : Nat} {lo ln : Int32} {vo vn : List Nat} {lv : Nat → Int32} {vt : Nat → Nat} (hFz : ∀ x, Fz x → 16 ≤ x ∧ x < n ∧ x ≠ 16 ∧ x ≠ 22 ∧ x ≠ es) (hS : xLa es M 22 (S0 ++ [ob, nb])) (h_ob : M.2 ob = (.inr (1, [.int lo, .ref lob]))) (h_nb : M.2 nb = (.inr (1, [.int ln, .ref lnb]))) (hob : Fz ob) (hlob : Fz lob) (hnb : Fz nb) (hlnb : Fz lnb) (hO : xLs Fz M lob vo) (hN : xLs Fz M lnb vn) (hV : ∀ w, w ∈ vo ∨ w ∈ vn → 16 ≤ w ∧ w < n ∧ M.2 w = (.inr (3, [.ref (vt w), .int (lv w)]))) (hlen : (vo.filter (fun w => decide (lv w ≠ 0))).length + (vn.filter (fun w => decide (lv w ≠ 0))).length ≤ 10) (hvo : vo.length ≤ 10) (hvn : vn.length ≤ 10) (hS0 : S0.length < 9) : XC G Y1_27 none 6 22 205 [.ref 16] M (fun v M' => v = none ∧ n ≤ M'.1 ∧ (∀ j, j < n → j ≠ 16 → j ≠ 22 → j ≠ es → M'.2 j = M.2 j) ∧ M'.2 16 = (.inr (0, [.ref 17, .int (nI dl), .ref 18, .int (nI pl), lr, .ref 19, .int (nI vc), .ref op, .ref 22, .int (nI (tk + (vo.length + vn.length - (vo.filter (fun w => decide (lv w ≠ 0)) ++ vn.filter (fun w => decide (lv w ≠ 0))).length))), .ref 23, .int (nI hc), .int pn])) ∧ (((vo.filter (fun w => decide (lv w ≠ 0)) ++ vn.filter (fun w => decide (lv w ≠ 0))) = [] ∧ xLa es M' 22 S0) ∨ ((vo.filter (fun w => decide (lv w ≠ 0)) ++ vn.filter (fun w => decide (lv w ≠ 0))) ≠ [] ∧ xLa es M' 22 (S0 ++ [n]) ∧ M'.2 n = (.inr (1, [.int ((if lo < ln then ln else lo) + 1), .ref (n + 1)])) ∧ xLs (fun x => n ≤ x) M' (n + 1) (vo.filter (fun w => decide (lv w ≠ 0)) ++ vn.filter (fun w => decide (lv w ≠ 0)))))) := by
  obtain ⟨mo, cap, h_22, hle, hc10, hcap, h1_es, h2_es, h_es⟩ := hS
  rw [List.length_append] at h_22 hle
  replace h_22 : M.2 22 = (.inr (2, [.ref es, .int (nI (S0.length + 2)), .int mo])) := h_22
  replace hle : S0.length + 2 ≤ cap := hle
  have hz1 := hFz ob hob
  have hz2 := hFz nb hnb
  have hz3 := hFz lob hlob
  have hz4 := hFz lnb hlnb
  have hn1 : 16 ≠ es := xne_io h_16 h_es
  have hn2 : 22 ≠ es := xne_io h_22 h_es
  have hVn : ∀ w, w ∈ vo ∨ w ∈ vn → w ≠ 16 ∧ w ≠ 22 ∧ w ≠ es := fun w hw => ⟨xne_cl (hV w hw).2.2 h_16 (by decide), xne_cl (hV w hw).2.2 h_22 (by decide), xne_io (hV w hw).2.2 h_es⟩
  have hlo : (vo.filter (fun w => decide (lv w ≠ 0))).length ≤ 10 := by omega
  refine xc_of hg (by decide) (Nat.le_of_ble_eq_true rfl) (Or.inr (Or.inr (Or.inr (Or.inr (Or.inl ⟨rfl, rfl, fun v M' h => h.1⟩))))) ?_
  refine xj_aload_n (i := 0) d1_27_0 rfl rfl ?_
  refine xj_get d1_27_1 f1_34_0 h_16 (by omega) (show 16 < M.1 by omega) rfl ?_
  refine xj_callV (rest := []) (As := []) (b := 22) (cSize hg (M := M) (n := n) (a := 22) (el := .ref es) (sz := nI (S0.length + 2)) (mo := mo) (show M.1 = n by omega) (by omega) (by omega) (by omega) h_22) d1_27_4 wd28_8 h_22 (by omega) (show 22 < M.1 by omega) rfl w230 w229 (Or.inl w241) rfl rfl (Nat.le_of_ble_eq_true rfl) (by omega) (by omega) (by omega) ?_
  rintro v M' ⟨rfl, hm⟩
  subst M'
  refine xj_istore_n (i := 1) (L' := [(1, .int (nI (S0.length + 2))), (0, .ref 16)]) d1_27_7 rfl (by decide) rfl ?_
  refine xj_iload_n (i := 1) d1_27_8 rfl rfl ?_
  refine xj_iconst (v := 2) d1_27_9 (by decide) ?_
  refine xj_icmp_ge (tgt := 14) d1_27_10 rfl (fun _ => ?_) (fun h => absurd (nI_le (a := 2) (b := S0.length + 2) (by omega) (by omega)) h)
  refine xj_aload_n (i := 0) d1_27_14 rfl rfl ?_
  refine xj_get d1_27_15 f1_34_0 h_16 (by omega) (show 16 < M.1 by omega) rfl ?_
  refine xj_iload_n (i := 1) d1_27_18 rfl rfl ?_
  refine xj_iconst (v := 1) d1_27_19 (by decide) ?_
  refine xj_isub (v := nI (S0.length + 1)) d1_27_20 (nI_pred _) ?_
  refine xj_callV (rest := []) (As := [.int (nI (S0.length + 1))]) (b := 22) (cRemove hg (M := M) (n := n) (a := 22) (e := es) (mo := mo) (cap := cap) (f := fun i => (S0 ++ [ob, nb])[i]?) (sz := S0.length + 1) (b := nb) (show M.1 = n by omega) (by omega) (by omega) (by omega) h_22 (by omega) (by omega) h_es (by omega) (by omega) (by omega) (xl_at2 S0 ob nb)) d1_27_21 wd28_29 h_22 (by omega) (show 22 < M.1 by omega) rfl w266 w265 (Or.inl w264) rfl rfl (Nat.le_of_ble_eq_true rfl) (by omega) (by omega) (by omega) ?_
  rintro v M1 ⟨rfl, hs1, ho1, hf1_0, hf1_1⟩
  replace hs1 : M1.1 = n := hs1
  replace hf1_0 : M1.2 22 = (.inr (2, [.ref es, .int (nI (S0.length + 1)), .int (mo + 1)])) := hf1_0
  replace hf1_1 : M1.2 es = (.inl (4, cap, .inr (.inr (.inr (.inr (va_up (fun i => (S0 ++ [ob, nb])[i]?) (S0.length + 1) none)))))) := hf1_1
  refine xj_cast d1_27_24 w39 ((ho1 nb (by omega) (by omega) (by omega)).trans h_nb) (by omega) (show nb < M1.1 by omega) rfl (Or.inl rfl) ?_
  refine xj_astore_n (i := 2) (L' := [(2, .ref nb), (1, .int (nI (S0.length + 2))), (0, .ref 16)]) d1_27_27 rfl (by decide) rfl ?_
  refine xj_aload_n (i := 0) d1_27_28 rfl rfl ?_
  refine xj_get d1_27_29 f1_34_0 ((ho1 16 (by omega) (by omega) (by omega)).trans h_16) (by omega) (show 16 < M1.1 by omega) rfl ?_
  refine xj_iload_n (i := 1) d1_27_32 rfl rfl ?_
  refine xj_iconst (v := 2) d1_27_33 (by decide) ?_
  refine xj_isub (v := nI S0.length) d1_27_34 (xsub2 _) ?_
  refine xj_callV (rest := []) (As := [.int (nI S0.length)]) (b := 22) (cRemove hg (M := M1) (n := n) (a := 22) (e := es) (mo := mo + 1) (cap := cap) (f := va_up (fun i => (S0 ++ [ob, nb])[i]?) (S0.length + 1) none) (sz := S0.length) (b := ob) (show M1.1 = n by omega) (by omega) (by omega) (by omega) hf1_0 (by omega) (by omega) hf1_1 (by omega) (by omega) (by omega) (xl_at1 S0 ob nb)) d1_27_35 wd28_29 hf1_0 (by omega) (show 22 < M1.1 by omega) rfl w266 w265 (Or.inl w264) rfl rfl (Nat.le_of_ble_eq_true rfl) (by omega) (by omega) (by omega) ?_
  rintro v M2 ⟨rfl, hs2, ho2, hf2_0, hf2_1⟩
  replace hs2 : M2.1 = n := hs2
  replace hf2_0 : M2.2 22 = (.inr (2, [.ref es, .int (nI S0.length), .int ((mo + 1) + 1)])) := hf2_0
  replace hf2_1 : M2.2 es = (.inl (4, cap, .inr (.inr (.inr (.inr (va_up (va_up (fun i => (S0 ++ [ob, nb])[i]?) (S0.length + 1) none) S0.length none)))))) := hf2_1
  refine xj_cast d1_27_38 w39 ((ho2 ob (by omega) (by omega) (by omega)).trans ((ho1 ob (by omega) (by omega) (by omega)).trans h_ob)) (by omega) (show ob < M2.1 by omega) rfl (Or.inl rfl) ?_
  refine xj_astore_n (i := 3) (L' := [(3, .ref ob), (2, .ref nb), (1, .int (nI (S0.length + 2))), (0, .ref 16)]) d1_27_41 rfl (by decide) rfl ?_
  refine xj_new (na := n) d1_27_42 n1_22 (show M2.1 = n by omega) (by omega) (by omega) ?_
  refine xj_abs_push (show M2.1 = n by omega) (fun M3 hs3 ha3 ho3 => ?_)
  refine xj_dup d1_27_45 rfl ?_
  refine xj_aload_n (i := 3) d1_27_46 rfl rfl ?_
  refine xj_get d1_27_47 f1_136_1 ((ho3 ob (by omega)).trans ((ho2 ob (by omega) (by omega) (by omega)).trans ((ho1 ob (by omega) (by omega) (by omega)).trans h_ob))) (by omega) (show ob < M3.1 by omega) rfl ?_
  refine xj_aload_n (i := 2) d1_27_50 rfl rfl ?_
  refine xj_get d1_27_51 f1_136_1 ((ho3 nb (by omega)).trans ((ho2 nb (by omega) (by omega) (by omega)).trans ((ho1 nb (by omega) (by omega) (by omega)).trans h_nb))) (by omega) (show nb < M3.1 by omega) rfl ?_
  refine xj_max d1_27_54 w273 w186 w10 w187 (by omega) (Nat.le_of_ble_eq_true rfl) (by omega) (by omega) ?_
  refine xj_iconst (v := 1) d1_27_57 (by decide) ?_
  refine xj_iadd (v := (if lo < ln then ln else lo) + 1) d1_27_58 rfl ?_
  refine xj_callI (rest := [.ref n]) (As := [.int ((if lo < ln then ln else lo) + 1)]) (b := n) (c10_1 hg hZ hT (M := M3) (n := n + 1) (a := n) (lv := (if lo < ln then ln else lo) + 1) (show M3.1 = n + 1 by omega) (by omega) (by omega) (by omega) ha3) d1_27_59 wd10_1 rfl w42 (Or.inl w41) rfl rfl (Nat.le_of_ble_eq_true rfl) (by omega) (by omega) (by omega) ?_
  rintro v M4 ⟨rfl, hs4, ho4, hf4_0, hf4_1⟩
  replace hs4 : M4.1 = n + 2 := hs4
  replace hf4_0 : M4.2 n = (.inr (1, [.int ((if lo < ln then ln else lo) + 1), .ref (n + 1)])) := hf4_0
  replace hf4_1 : M4.2 (n + 1) = (.inr (2, [.ref 1, .int 0, .int 0])) := hf4_1
  refine xj_astore (i := 4) (L' := [(4, .ref n), (3, .ref ob), (2, .ref nb), (1, .int (nI (S0.length + 2))), (0, .ref 16)]) d1_27_62 (by decide) rfl ?_
  refine xj_aload (i := 4) d1_27_64 rfl ?_
  refine xj_aload_n (i := 3) d1_27_66 rfl rfl ?_
  refine xj_callV (rest := []) (As := [.ref ob]) (b := n) (xAddLive (n0 := n) (M := M4) (vo := vo) (vs := []) (lv := lv) (vt := vt) hg hxn hZ hT (by omega) (by omega) (by omega) (by omega) (by omega) (by omega) (by omega) (by omega) (by omega) (by omega) (by omega) ((ho4 ob (by omega) (by omega)).trans ((ho3 ob (by omega)).trans ((ho2 ob (by omega) (by omega) (by omega)).trans ((ho1 ob (by omega) (by omega) (by omega)).trans h_ob)))) (xLs_imp (xLs_fr (xLs_fr (xLs_fr (xLs_fr hO (by omega) (ho1 lob (by omega) (by omega) (by omega)) (fun x hx hx2 => by have hz := hFz x hx; exact (ho1 x (by omega) (by omega) (by omega)))) (by omega) (ho2 lob (by omega) (by omega) (by omega)) (fun x hx hx2 => by have hz := hFz x hx; exact (ho2 x (by omega) (by omega) (by omega)))) (by omega) (ho3 lob (by omega)) (fun x hx hx2 => by have hz := hFz x hx; exact (ho3 x (by omega)))) (by omega) (ho4 lob (by omega) (by omega)) (fun x hx hx2 => by have hz := hFz x hx; exact (ho4 x (by omega) (by omega)))) (fun x hx => (hFz x hx).2.1)) (fun w hw => ⟨(hV w (Or.inl hw)).1, (hV w (Or.inl hw)).2.1, by have hz := hV w (Or.inl hw); have hz1 := hVn w (Or.inl hw); exact ((ho4 w (by omega) (by omega)).trans ((ho3 w (by omega)).trans ((ho2 w (by omega) (by omega) (by omega)).trans (ho1 w (by omega) (by omega) (by omega))))).trans hz.2.2⟩) hf4_0 (xLs_new hf4_1) (by simpa using hlo) hvo) d1_27_67 wd10_3 hf4_0 (by omega) (show n < M4.1 by omega) rfl w276 w275 (Or.inl w274) rfl rfl (Nat.le_of_ble_eq_true rfl) (by omega) (by omega) (by omega) ?_
  rintro v M5 ⟨rfl, hs5, ho5, ha5, hL5⟩
  replace hL5 : xLs (fun x => n ≤ x) M5 (n + 1) (vo.filter (fun w => decide (lv w ≠ 0))) := hL5
  refine xj_aload (i := 4) d1_27_70 rfl ?_
  refine xj_aload_n (i := 2) d1_27_72 rfl rfl ?_
  refine xj_callV (rest := []) (As := [.ref nb]) (b := n) (xAddLive (n0 := n) (M := M5) (vo := vn) (vs := vo.filter (fun w => decide (lv w ≠ 0))) (lv := lv) (vt := vt) hg hxn hZ hT (by omega) (by omega) (by omega) (by omega) (by omega) (by omega) (by omega) (by omega) (by omega) (by omega) (by omega) ((ho5 nb (by omega)).trans ((ho4 nb (by omega) (by omega)).trans ((ho3 nb (by omega)).trans ((ho2 nb (by omega) (by omega) (by omega)).trans ((ho1 nb (by omega) (by omega) (by omega)).trans h_nb))))) (xLs_imp (xLs_fr (xLs_fr (xLs_fr (xLs_fr (xLs_fr hN (by omega) (ho1 lnb (by omega) (by omega) (by omega)) (fun x hx hx2 => by have hz := hFz x hx; exact (ho1 x (by omega) (by omega) (by omega)))) (by omega) (ho2 lnb (by omega) (by omega) (by omega)) (fun x hx hx2 => by have hz := hFz x hx; exact (ho2 x (by omega) (by omega) (by omega)))) (by omega) (ho3 lnb (by omega)) (fun x hx hx2 => by have hz := hFz x hx; exact (ho3 x (by omega)))) (by omega) (ho4 lnb (by omega) (by omega)) (fun x hx hx2 => by have hz := hFz x hx; exact (ho4 x (by omega) (by omega)))) (by omega) (ho5 lnb (by omega)) (fun x hx hx2 => by have hz := hFz x hx; exact (ho5 x (by omega)))) (fun x hx => (hFz x hx).2.1)) (fun w hw => ⟨(hV w (Or.inr hw)).1, (hV w (Or.inr hw)).2.1, by have hz := hV w (Or.inr hw); have hz1 := hVn w (Or.inr hw); exact ((ho5 w (by omega)).trans ((ho4 w (by omega) (by omega)).trans ((ho3 w (by omega)).trans ((ho2 w (by omega) (by omega) (by omega)).trans (ho1 w (by omega) (by omega) (by omega)))))).trans hz.2.2⟩) ha5 hL5 (by simpa using hlen) hvn) d1_27_73 wd10_3 ha5 (by omega) (show n < M5.1 by omega) rfl w276 w275 (Or.inl w274) rfl rfl (Nat.le_of_ble_eq_true rfl) (by omega) (by omega) (by omega) ?_
  rintro v M6 ⟨rfl, hs6, ho6, ha6, hL6⟩
  replace hL6 : xLs (fun x => n ≤ x) M6 (n + 1) ((vo.filter (fun w => decide (lv w ≠ 0)) ++ vn.filter (fun w => decide (lv w ≠ 0)))) := hL6
  refine xj_aload_n (i := 0) d1_27_76 rfl rfl ?_
  refine xj_dup d1_27_77 rfl ?_
  refine xj_get d1_27_78 f1_149_0 ((ho6 16 (by omega)).trans ((ho5 16 (by omega)).trans ((ho4 16 (by omega) (by omega)).trans ((ho3 16 (by omega)).trans ((ho2 16 (by omega) (by omega) (by omega)).trans ((ho1 16 (by omega) (by omega) (by omega)).trans h_16)))))) (by omega) (show 16 < M6.1 by omega) rfl ?_
  refine xj_aload_n (i := 3) d1_27_81 rfl rfl ?_
  obtain ⟨el7, mo7, hq7, hlt7⟩ := xLs_len (xLs_fr (xLs_fr (xLs_fr (xLs_fr (xLs_fr (xLs_fr hO (by omega) (ho1 lob (by omega) (by omega) (by omega)) (fun x hx hx2 => by have hz := hFz x hx; exact (ho1 x (by omega) (by omega) (by omega)))) (by omega) (ho2 lob (by omega) (by omega) (by omega)) (fun x hx hx2 => by have hz := hFz x hx; exact (ho2 x (by omega) (by omega) (by omega)))) (by omega) (ho3 lob (by omega)) (fun x hx hx2 => by have hz := hFz x hx; exact (ho3 x (by omega)))) (by omega) (ho4 lob (by omega) (by omega)) (fun x hx hx2 => by have hz := hFz x hx; exact (ho4 x (by omega) (by omega)))) (by omega) (ho5 lob (by omega)) (fun x hx hx2 => by have hz := hFz x hx; exact (ho5 x (by omega)))) (by omega) (ho6 lob (by omega)) (fun x hx hx2 => by have hz := hFz x hx; exact (ho6 x (by omega))))
  refine xj_callV (rest := [.int (nI tk), .ref 16]) (As := []) (b := ob) (cCount hg (M := M6) (n := M6.1) (a := ob) (l := lob) (lv := lo) (el := el7) (sz := nI (vo).length) (mo := mo7) rfl (by omega) (by omega) (by omega) ((ho6 ob (by omega)).trans ((ho5 ob (by omega)).trans ((ho4 ob (by omega) (by omega)).trans ((ho3 ob (by omega)).trans ((ho2 ob (by omega) (by omega) (by omega)).trans ((ho1 ob (by omega) (by omega) (by omega)).trans h_ob)))))) (by omega) (by omega) hq7) d1_27_82 wd10_4 ((ho6 ob (by omega)).trans ((ho5 ob (by omega)).trans ((ho4 ob (by omega) (by omega)).trans ((ho3 ob (by omega)).trans ((ho2 ob (by omega) (by omega) (by omega)).trans ((ho1 ob (by omega) (by omega) (by omega)).trans h_ob)))))) (by omega) (show ob < M6.1 by omega) rfl w226 w225 (Or.inl w224) rfl rfl (Nat.le_of_ble_eq_true rfl) (by omega) (by omega) (by omega) ?_
  rintro v M' ⟨rfl, hm⟩
  subst M'
  refine xj_aload_n (i := 2) d1_27_85 rfl rfl ?_
  obtain ⟨el8, mo8, hq8, hlt8⟩ := xLs_len (xLs_fr (xLs_fr (xLs_fr (xLs_fr (xLs_fr (xLs_fr hN (by omega) (ho1 lnb (by omega) (by omega) (by omega)) (fun x hx hx2 => by have hz := hFz x hx; exact (ho1 x (by omega) (by omega) (by omega)))) (by omega) (ho2 lnb (by omega) (by omega) (by omega)) (fun x hx hx2 => by have hz := hFz x hx; exact (ho2 x (by omega) (by omega) (by omega)))) (by omega) (ho3 lnb (by omega)) (fun x hx hx2 => by have hz := hFz x hx; exact (ho3 x (by omega)))) (by omega) (ho4 lnb (by omega) (by omega)) (fun x hx hx2 => by have hz := hFz x hx; exact (ho4 x (by omega) (by omega)))) (by omega) (ho5 lnb (by omega)) (fun x hx hx2 => by have hz := hFz x hx; exact (ho5 x (by omega)))) (by omega) (ho6 lnb (by omega)) (fun x hx hx2 => by have hz := hFz x hx; exact (ho6 x (by omega))))
  refine xj_callV (rest := [.int (nI (vo).length), .int (nI tk), .ref 16]) (As := []) (b := nb) (cCount hg (M := M6) (n := M6.1) (a := nb) (l := lnb) (lv := ln) (el := el8) (sz := nI (vn).length) (mo := mo8) rfl (by omega) (by omega) (by omega) ((ho6 nb (by omega)).trans ((ho5 nb (by omega)).trans ((ho4 nb (by omega) (by omega)).trans ((ho3 nb (by omega)).trans ((ho2 nb (by omega) (by omega) (by omega)).trans ((ho1 nb (by omega) (by omega) (by omega)).trans h_nb)))))) (by omega) (by omega) hq8) d1_27_86 wd10_4 ((ho6 nb (by omega)).trans ((ho5 nb (by omega)).trans ((ho4 nb (by omega) (by omega)).trans ((ho3 nb (by omega)).trans ((ho2 nb (by omega) (by omega) (by omega)).trans ((ho1 nb (by omega) (by omega) (by omega)).trans h_nb)))))) (by omega) (show nb < M6.1 by omega) rfl w226 w225 (Or.inl w224) rfl rfl (Nat.le_of_ble_eq_true rfl) (by omega) (by omega) (by omega) ?_
  rintro v M' ⟨rfl, hm⟩
  subst M'
  refine xj_iadd (v := nI ((vo).length + ((vn).length))) d1_27_89 (nI_add ((vo).length) ((vn).length)) ?_
  refine xj_aload (i := 4) d1_27_90 rfl ?_
  obtain ⟨el9, mo9, hq9, hlt9⟩ := xLs_len hL6
  refine xj_callV (rest := [.int (nI ((vo).length + ((vn).length))), .int (nI tk), .ref 16]) (As := []) (b := n) (cCount hg (M := M6) (n := M6.1) (a := n) (l := n + 1) (lv := ((if lo < ln then ln else lo) + 1)) (el := el9) (sz := nI ((vo.filter (fun w => decide (lv w ≠ 0)) ++ vn.filter (fun w => decide (lv w ≠ 0)))).length) (mo := mo9) rfl (by omega) (by omega) (by omega) ha6 (by omega) (by omega) hq9) d1_27_92 wd10_4 ha6 (by omega) (show n < M6.1 by omega) rfl w226 w225 (Or.inl w224) rfl rfl (Nat.le_of_ble_eq_true rfl) (by omega) (by omega) (by omega) ?_
  rintro v M' ⟨rfl, hm⟩
  subst M'
  refine xj_isub (v := nI (vo.length + vn.length - (vo.filter (fun w => decide (lv w ≠ 0)) ++ vn.filter (fun w => decide (lv w ≠ 0))).length)) d1_27_95 (xsubN (xfl _ _ _)) ?_
  refine xj_iadd (v := nI (tk + (vo.length + vn.length - (vo.filter (fun w => decide (lv w ≠ 0)) ++ vn.filter (fun w => decide (lv w ≠ 0))).length))) d1_27_96 (nI_add tk (vo.length + vn.length - (vo.filter (fun w => decide (lv w ≠ 0)) ++ vn.filter (fun w => decide (lv w ≠ 0))).length)) ?_
  refine xj_put (a := 16) (fs' := [.ref 17, .int (nI dl), .ref 18, .int (nI pl), lr, .ref 19, .int (nI vc), .ref op, .ref 22, .int (nI (tk + (vo.length + vn.length - (vo.filter (fun w => decide (lv w ≠ 0)) ++ vn.filter (fun w => decide (lv w ≠ 0))).length))), .ref 23, .int (nI hc), .int pn]) d1_27_97 f1_149_0 ((ho6 16 (by omega)).trans ((ho5 16 (by omega)).trans ((ho4 16 (by omega) (by omega)).trans ((ho3 16 (by omega)).trans ((ho2 16 (by omega) (by omega) (by omega)).trans ((ho1 16 (by omega) (by omega) (by omega)).trans h_16)))))) (by omega) (show 16 < M6.1 by omega) (Nat.le_of_ble_eq_true rfl) rfl rfl rfl ?_
  refine xj_abs_set (fun M10 hs10 ha10 ho10 => ?_)
  refine xj_aload (i := 4) d1_27_100 rfl ?_
  obtain ⟨el11, mo11, hq11, hlt11⟩ := xLs_len (xLs_fr hL6 (by omega) (ho10 (n + 1) (by omega)) (fun x hx hx2 => by have hz : n ≤ x := hx; exact (ho10 x (by omega))))
  refine xj_callV (rest := []) (As := []) (b := n) (cCount hg (M := M10) (n := M6.1) (a := n) (l := n + 1) (lv := ((if lo < ln then ln else lo) + 1)) (el := el11) (sz := nI ((vo.filter (fun w => decide (lv w ≠ 0)) ++ vn.filter (fun w => decide (lv w ≠ 0)))).length) (mo := mo11) (show M10.1 = M6.1 by omega) (by omega) (by omega) (by omega) ((ho10 n (by omega)).trans ha6) (by omega) (by omega) hq11) d1_27_102 wd10_4 ((ho10 n (by omega)).trans ha6) (by omega) (show n < M10.1 by omega) rfl w226 w225 (Or.inl w224) rfl rfl (Nat.le_of_ble_eq_true rfl) (by omega) (by omega) (by omega) ?_
  rintro v M' ⟨rfl, hm⟩
  subst M'
  refine xj_if_le (tgt := 118) d1_27_105 rfl (fun hcnt => ?_) (fun hcnt => ?_)
  · exact xj_ret d1_27_118 (by omega) (by omega) rfl ⟨rfl, (by omega), (fun j hj hj1 hj2 hj3 => ((ho10 j (by omega)).trans ((ho6 j (by omega)).trans ((ho5 j (by omega)).trans ((ho4 j (by omega) (by omega)).trans ((ho3 j (by omega)).trans ((ho2 j (by omega) (by omega) (by omega)).trans (ho1 j (by omega) (by omega) (by omega))))))))), ha10, Or.inl ⟨(List.length_eq_zero_iff.mp (xle0 hcnt (by omega))), ⟨_, cap, ((ho10 22 (by omega)).trans ((ho6 22 (by omega)).trans ((ho5 22 (by omega)).trans ((ho4 22 (by omega) (by omega)).trans ((ho3 22 (by omega)).trans hf2_0))))), (by omega), hc10, hcap, h1_es, (by omega), (by rw [((ho10 es (by omega)).trans ((ho6 es (by omega)).trans ((ho5 es (by omega)).trans ((ho4 es (by omega) (by omega)).trans ((ho3 es (by omega)).trans hf2_1))))), xl_p2])⟩⟩⟩
  · refine xj_aload_n (i := 0) d1_27_108 rfl rfl ?_
    refine xj_get d1_27_109 f1_34_0 ha10 (by omega) (show 16 < M10.1 by omega) rfl ?_
    refine xj_aload (i := 4) d1_27_112 rfl ?_
    refine xj_callV (rest := []) (As := [.ref n]) (b := 22) (cAddZ hg (M := M10) (n := M6.1) (a := 22) (e := es) (mo := (mo + 1) + 1) (cap := cap) (f := va_up (va_up (fun i => (S0 ++ [ob, nb])[i]?) (S0.length + 1) none) S0.length none) (sz := S0.length) (b := n) (bc_b := 1) (bf_b := [.int ((if lo < ln then ln else lo) + 1), .ref (n + 1)]) (bC_b := Rc1) (bT_b := Tc1) (bN_b := 2) (show M10.1 = M6.1 by omega) (by omega) (by omega) (by omega) ((ho10 22 (by omega)).trans ((ho6 22 (by omega)).trans ((ho5 22 (by omega)).trans ((ho4 22 (by omega) (by omega)).trans ((ho3 22 (by omega)).trans hf2_0))))) (by omega) (by omega) ((ho10 es (by omega)).trans ((ho6 es (by omega)).trans ((ho5 es (by omega)).trans ((ho4 es (by omega) (by omega)).trans ((ho3 es (by omega)).trans hf2_1))))) (by omega) (by omega) ((ho10 n (by omega)).trans ha6) (by omega) (by omega) (by omega) (by omega) (by omega) rfl (Or.inr w1392)) d1_27_114 wd28_25 ((ho10 22 (by omega)).trans ((ho6 22 (by omega)).trans ((ho5 22 (by omega)).trans ((ho4 22 (by omega) (by omega)).trans ((ho3 22 (by omega)).trans hf2_0))))) (by omega) (show 22 < M10.1 by omega) rfl w168 w167 (Or.inl w236) rfl rfl (Nat.le_of_ble_eq_true rfl) (by omega) (by omega) (by omega) ?_
    rintro v M12 ⟨rfl, hs12, ho12, hf12_0, hf12_1⟩
    replace hs12 : M12.1 = M6.1 := hs12
    replace hf12_0 : M12.2 22 = (.inr (2, [.ref es, .int (nI (S0.length + 1)), .int (((mo + 1) + 1) + 1)])) := hf12_0
    replace hf12_1 : M12.2 es = (.inl (4, cap, .inr (.inr (.inr (.inr (va_up (va_up (va_up (fun i => (S0 ++ [ob, nb])[i]?) (S0.length + 1) none) S0.length none) S0.length (some n))))))) := hf12_1
    refine xj_pop d1_27_117 rfl ?_
    exact xj_ret d1_27_118 (by omega) (by omega) rfl ⟨rfl, (by omega), (fun j hj hj1 hj2 hj3 => ((ho12 j (by omega) (by omega) (by omega)).trans ((ho10 j (by omega)).trans ((ho6 j (by omega)).trans ((ho5 j (by omega)).trans ((ho4 j (by omega) (by omega)).trans ((ho3 j (by omega)).trans ((ho2 j (by omega) (by omega) (by omega)).trans (ho1 j (by omega) (by omega) (by omega)))))))))), ((ho12 16 (by omega) (by omega) (by omega)).trans ha10), Or.inr ⟨(by intro q; rw [q] at hcnt; exact hcnt (by decide)), ⟨_, cap, (by rw [List.length_append]; exact hf12_0), (by rw [List.length_append]; show S0.length + 1 ≤ cap; omega), hc10, hcap, h1_es, (by omega), (by rw [hf12_1, xl_p2, xl_app])⟩, ((ho12 n (by omega) (by omega) (by omega)).trans ((ho10 n (by omega)).trans ha6)), (xLs_fr (xLs_fr hL6 (by omega) (ho10 (n + 1) (by omega)) (fun x hx hx2 => by have hz : n ≤ x := hx; exact (ho10 x (by omega)))) (by omega) (ho12 (n + 1) (by omega) (by omega) (by omega)) (fun x hx hx2 => by have hz : n ≤ x := hx; exact (ho12 x (by omega) (by omega) (by omega))))⟩⟩

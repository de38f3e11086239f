theorem cWd_gd {f g : Nat → Int32} {S : List (List Int32)} {k j : Nat} {w : List Int32} (h : cWd f g S) (hw : S[k]? = some w) (hj : j < w.length) : f (k * 12 + j) = w.getD j 0 := by
  rw [(h.2 k w hw).2.2 j _ (List.getElem?_eq_getElem hj)]
  simp [List.getD, List.getElem?_eq_getElem hj]
set_option maxRecDepth 20000 in
theorem wLengthOf {G : xG} (hg : xGood G) {M : xM} {n : Nat} (hn : M.1 = n) (hx : xn ≤ n) {o : Nat} {lt : Nat} {ln : Nat} {ct : Int32} {g : Nat → Int32} {k : Nat} (h1_o : xn ≤ o) (h2_o : o < n) (h_o : M.2 o = (.inr (8, [.ref lt, .ref ln, .int ct]))) (h1_ln : xn ≤ ln) (h2_ln : ln < n) (h_ln : M.2 ln = (.inl (0, 5, .inl g))) (hk : k < 5) : XC G Y12_3 (some .int) 0 0 0 [.ref o, .int (nI k)] M (fun v M' => v = some (.int (g k)) ∧ M' = M) := by
  refine xc_of hg (by decide) (Nat.le_of_ble_eq_true rfl) (Or.inl ⟨rfl, rfl, fun v M' h => ⟨_, h.1⟩⟩) ?_
  refine xj_aload_n (i := 0) d12_3_0 rfl rfl ?_
  refine xj_get d12_3_1 f12_13_8 h_o (by omega) (show o < M.1 by omega) rfl ?_
  refine xj_iload_n (i := 1) d12_3_4 rfl rfl ?_
  refine xj_iaload (j := k) d12_3_5 h_ln (by omega) (show ln < M.1 by omega) (vp_in_nI (by omega) (by omega)) (nI_clamp (by omega)) ?_
  exact xj_ret d12_3_6 (by omega) (by omega) rfl ⟨rfl, rfl⟩
set_option maxRecDepth 20000 in
theorem vHtL {G : xG} (hg : xGood G) (hxn : xn = 16) {M : xM} {o lt ln ve tx tl : Nat} {f g ft : Nat → Int32} {lv : Value} {S : List (List Int32)} (h1_o : xn ≤ o) (h2_o : o < M.1) (h1_lt : xn ≤ lt) (h2_lt : lt < M.1) (h1_ln : xn ≤ ln) (h2_ln : ln < M.1) (h1_ve : xn ≤ ve) (h2_ve : ve < M.1) (h1_tx : xn ≤ tx) (h2_tx : tx < M.1) (h_o : M.2 o = (.inr (8, [.ref lt, .ref ln, .int (nI S.length)]))) (h_lt : M.2 lt = (.inl (1, 60, .inl f))) (h_ln : M.2 ln = (.inl (0, 5, .inl g))) (h_ve : M.2 ve = (.inr (3, [.ref tx, lv]))) (h_tx : M.2 tx = (.inl (1, tl, .inl ft))) (hS4 : S.length ≤ 4) (hD : cWd f g S) (htl : tl ≤ 40) {k : Nat} {w : List Int32} (hw : S[k]? = some w) {d ce se cells slots : Nat} (hd : 1 ≤ d) (hcc : cells ≤ ce) (hss : slots ≤ se) : ∀ r j : Nat, w.length ≤ j + 2 + r → j ≤ 12 → (∀ i, i < j → i + 2 < w.length → xhas ft tl (w.getD i 0) (w.getD (i + 1) 0) (w.getD (i + 2) 0)) → XJ G Y11_4 d ce se cells slots 2 [(3, .int (nI j)), (0, .ref ve), (1, .ref o), (2, .int (nI k))] [] M (fun v M' => v = some (.int (xB (vHas ft tl w))) ∧ M' = M) := by
  have hk4 : k < S.length := (List.getElem?_eq_some_iff.mp hw).1
  obtain ⟨hw12, hgw, -⟩ := hD.2 k w hw
  have hLo := wLengthOf hg (M := M) (n := M.1) (k := k) rfl (by omega) (by omega) (by omega) h_o (by omega) (by omega) h_ln (by omega)
  rw [hgw] at hLo
  intro r
  induction r with
  | zero =>
    intro j hj hj12 hno
    refine xj_iload_n (i := 3) d11_4_2 rfl rfl ?_
    refine xj_iconst (v := 2) d11_4_3 (by decide) ?_
    refine xj_iadd (v := nI (j + 2)) d11_4_4 (nI_add j 2) ?_
    refine xj_aload_n (i := 1) d11_4_5 rfl rfl ?_
    refine xj_iload_n (i := 2) d11_4_6 rfl rfl ?_
    refine xj_callV (rest := [.int (nI (j + 2))]) (As := [.int (nI k)]) (b := o) hLo d11_4_7 wd12_3 h_o (by omega) (show o < M.1 by omega) rfl w847 w846 (Or.inl w845) rfl rfl (Nat.le_of_ble_eq_true rfl) (by omega) (by omega) (by omega) ?_
    rintro v9 M' ⟨rfl, hm9⟩
    subst M'
    refine xj_icmp_ge (tgt := 50) d11_4_10 rfl (fun _ => ?_) (fun h => absurd (nI_le (a := w.length) (b := j + 2) (by omega) (by omega)) h)
    refine xj_iconst (v := 1) d11_4_50 (by decide) ?_
    exact xj_ret d11_4_51 hcc hss rfl ⟨by rw [xB_t (show (vHas ft tl w) from fun i hi => hno i (by omega) hi)], rfl⟩
  | succ r ih =>
    intro j hj hj12 hno
    by_cases hj2 : j + 2 < w.length
    · have hg0 := cWd_gd hD hw (show j < w.length by omega)
      have hg1 := cWd_gd hD hw (show j + 1 < w.length by omega)
      have hg2 := cWd_gd hD hw hj2
      refine xj_iload_n (i := 3) d11_4_2 rfl rfl ?_
      refine xj_iconst (v := 2) d11_4_3 (by decide) ?_
      refine xj_iadd (v := nI (j + 2)) d11_4_4 (nI_add j 2) ?_
      refine xj_aload_n (i := 1) d11_4_5 rfl rfl ?_
      refine xj_iload_n (i := 2) d11_4_6 rfl rfl ?_
      refine xj_callV (rest := [.int (nI (j + 2))]) (As := [.int (nI k)]) (b := o) hLo d11_4_7 wd12_3 h_o (by omega) (show o < M.1 by omega) rfl w847 w846 (Or.inl w845) rfl rfl (Nat.le_of_ble_eq_true rfl) (by omega) (by omega) (by omega) ?_
      rintro v9 M' ⟨rfl, hm9⟩
      subst M'
      refine xj_icmp_ge (tgt := 50) d11_4_10 rfl (fun h => absurd h (nI_ge (a := j + 2) (b := w.length) (by omega) (by omega))) (fun _ => ?_)
      refine xj_aload_n (i := 0) d11_4_13 rfl rfl ?_
      refine xj_aload_n (i := 1) d11_4_14 rfl rfl ?_
      refine xj_iload_n (i := 2) d11_4_15 rfl rfl ?_
      refine xj_iload_n (i := 3) d11_4_16 rfl rfl ?_
      refine xj_callV (rest := [.ref ve]) (As := [.int (nI k), .int (nI j)]) (b := o) (wLetter hg (M := M) (n := M.1) (o := o) (lt := lt) (ln := ln) (ct := nI S.length) (f := f) (k := k) (j := j) rfl (by omega) (by omega) (by omega) h_o (by omega) (by omega) h_lt (by omega) hD.1) d11_4_17 wd12_4 h_o (by omega) (show o < M.1 by omega) rfl w784 w783 (Or.inl w849) rfl rfl (Nat.le_of_ble_eq_true rfl) (by omega) (by omega) (by omega) ?_
      rintro v9 M' ⟨rfl, hm9⟩
      subst M'
      refine xj_aload_n (i := 1) d11_4_20 rfl rfl ?_
      refine xj_iload_n (i := 2) d11_4_21 rfl rfl ?_
      refine xj_iload_n (i := 3) d11_4_22 rfl rfl ?_
      refine xj_iconst (v := 1) d11_4_23 (by decide) ?_
      refine xj_iadd (v := nI (j + 1)) d11_4_24 (nI_1 _) ?_
      refine xj_callV (rest := [.int (f (k * 12 + j)), .ref ve]) (As := [.int (nI k), .int (nI (j + 1))]) (b := o) (wLetter hg (M := M) (n := M.1) (o := o) (lt := lt) (ln := ln) (ct := nI S.length) (f := f) (k := k) (j := (j + 1)) rfl (by omega) (by omega) (by omega) h_o (by omega) (by omega) h_lt (by omega) hD.1) d11_4_25 wd12_4 h_o (by omega) (show o < M.1 by omega) rfl w784 w783 (Or.inl w849) rfl rfl (Nat.le_of_ble_eq_true rfl) (by omega) (by omega) (by omega) ?_
      rintro v9 M' ⟨rfl, hm9⟩
      subst M'
      refine xj_aload_n (i := 1) d11_4_28 rfl rfl ?_
      refine xj_iload_n (i := 2) d11_4_29 rfl rfl ?_
      refine xj_iload_n (i := 3) d11_4_30 rfl rfl ?_
      refine xj_iconst (v := 2) d11_4_31 (by decide) ?_
      refine xj_iadd (v := nI (j + 2)) d11_4_32 (nI_add j 2) ?_
      refine xj_callV (rest := [.int (f (k * 12 + (j + 1))), .int (f (k * 12 + j)), .ref ve]) (As := [.int (nI k), .int (nI (j + 2))]) (b := o) (wLetter hg (M := M) (n := M.1) (o := o) (lt := lt) (ln := ln) (ct := nI S.length) (f := f) (k := k) (j := (j + 2)) rfl (by omega) (by omega) (by omega) h_o (by omega) (by omega) h_lt (by omega) hD.1) d11_4_33 wd12_4 h_o (by omega) (show o < M.1 by omega) rfl w784 w783 (Or.inl w849) rfl rfl (Nat.le_of_ble_eq_true rfl) (by omega) (by omega) (by omega) ?_
      rintro v9 M' ⟨rfl, hm9⟩
      subst M'
      refine xj_callV (rest := []) (As := [.int (f (k * 12 + j)), .int (f (k * 12 + (j + 1))), .int (f (k * 12 + (j + 2)))]) (b := ve) (xHas hg (M := M) (n := M.1) rfl (by omega) (by omega) (by omega) h_ve (by omega) (by omega) h_tx htl) d11_4_36 wd11_2 h_ve (by omega) (show ve < M.1 by omega) rfl w852 w851 (Or.inl w850) rfl rfl (Nat.le_of_ble_eq_true rfl) (by omega) (by omega) (by omega) ?_
      rintro v9 M' ⟨rfl, hm9⟩
      subst M'
      refine xj_if_ne (tgt := 44) d11_4_39 rfl (fun hq9 => ?_) (fun hq9 => ?_)
      · refine xj_iinc (v := nI (j + 1)) (L' := [(3, .int (nI (j + 1))), (0, .ref ve), (1, .ref o), (2, .int (nI k))]) d11_4_44 rfl (xinc _) (by decide) rfl ?_
        refine xj_goto (tgt := 2) d11_4_47 rfl ?_
        exact ih (j + 1) (by omega) (by omega) (fun i hi hi2 => if z : i = j then by rw [z, ← hg0, ← hg1, ← hg2]; exact xB_y hq9 else hno i (by omega) hi2)
      · refine xj_iconst (v := 0) d11_4_42 (by decide) ?_
        exact xj_ret d11_4_43 hcc hss rfl ⟨by rw [xB_f (show ¬ (vHas ft tl w) from fun z => xB_n hq9 (by rw [hg0, hg1, hg2]; exact z j hj2))], rfl⟩
    · exact ih j (by omega) hj12 hno
set_option maxRecDepth 20000 in
theorem vHt {G : xG} (hg : xGood G) (hxn : xn = 16) {M : xM} {o lt ln ve tx tl : Nat} {f g ft : Nat → Int32} {lv : Value} {S : List (List Int32)} (h1_o : xn ≤ o) (h2_o : o < M.1) (h1_lt : xn ≤ lt) (h2_lt : lt < M.1) (h1_ln : xn ≤ ln) (h2_ln : ln < M.1) (h1_ve : xn ≤ ve) (h2_ve : ve < M.1) (h1_tx : xn ≤ tx) (h2_tx : tx < M.1) (h_o : M.2 o = (.inr (8, [.ref lt, .ref ln, .int (nI S.length)]))) (h_lt : M.2 lt = (.inl (1, 60, .inl f))) (h_ln : M.2 ln = (.inl (0, 5, .inl g))) (h_ve : M.2 ve = (.inr (3, [.ref tx, lv]))) (h_tx : M.2 tx = (.inl (1, tl, .inl ft))) (hS4 : S.length ≤ 4) (hD : cWd f g S) (htl : tl ≤ 40) {k : Nat} {w : List Int32} (hw : S[k]? = some w) : XC G Y11_4 (some .boolean) 1 0 0 [.ref ve, .ref o, .int (nI k)] M (fun v M' => v = some (.int (xB (vHas ft tl w))) ∧ M' = M) := by
  have hw12 := (hD.2 k w hw).1
  refine xc_of hg (by decide) (Nat.le_of_ble_eq_true rfl) (Or.inr (Or.inl ⟨rfl, rfl, fun v M' h => ⟨_, h.1, xB_01 _⟩⟩)) ?_
  refine xj_iconst (v := 0) d11_4_0 (by decide) ?_
  refine xj_istore_n (i := 3) (L' := [(3, .int 0), (0, .ref ve), (1, .ref o), (2, .int (nI k))]) d11_4_1 rfl (by decide) rfl ?_
  exact vHtL hg hxn h1_o h2_o h1_lt h2_lt h1_ln h2_ln h1_ve h2_ve h1_tx h2_tx h_o h_lt h_ln h_ve h_tx hS4 hD htl hw (by omega) (by omega) (by omega) 12 0 (by omega) (by omega) (fun i hi => absurd hi (by omega))
set_option maxRecDepth 20000 in
theorem vAwL {G : xG} (hg : xGood G) (hxn : xn = 16) {M : xM} {o lt ln ve tx tl : Nat} {f g ft : Nat → Int32} {lv : Value} {S : List (List Int32)} (h1_o : xn ≤ o) (h2_o : o < M.1) (h1_lt : xn ≤ lt) (h2_lt : lt < M.1) (h1_ln : xn ≤ ln) (h2_ln : ln < M.1) (h1_ve : xn ≤ ve) (h2_ve : ve < M.1) (h1_tx : xn ≤ tx) (h2_tx : tx < M.1) (h_o : M.2 o = (.inr (8, [.ref lt, .ref ln, .int (nI S.length)]))) (h_lt : M.2 lt = (.inl (1, 60, .inl f))) (h_ln : M.2 ln = (.inl (0, 5, .inl g))) (h_ve : M.2 ve = (.inr (3, [.ref tx, lv]))) (h_tx : M.2 tx = (.inl (1, tl, .inl ft))) (hS4 : S.length ≤ 4) (hD : cWd f g S) (htl : tl ≤ 40) {d ce se cells slots : Nat} (hd : 2 ≤ d) (hcc : cells ≤ ce) (hss : slots ≤ se) : ∀ r k : Nat, k + r = S.length → (∀ (i : Nat) (u : List Int32), i < k → S[i]? = some u → ¬ vHas ft tl u) → XJ G Y11_3 d ce se cells slots 2 [(2, .int (nI k)), (0, .ref ve), (1, .ref o)] [] M (fun v M' => v = some (.int (xB (vAl (vHas ft tl) S))) ∧ M' = M) := by
  intro r
  induction r with
  | zero =>
    intro k hk hno
    refine xj_iload_n (i := 2) d11_3_2 rfl rfl ?_
    refine xj_aload_n (i := 1) d11_3_3 rfl rfl ?_
    refine xj_get d11_3_4 f11_23_8 h_o (by omega) (show o < M.1 by omega) rfl ?_
    refine xj_icmp_ge (tgt := 27) d11_3_7 rfl (fun _ => ?_) (fun h => absurd (nI_le (a := S.length) (b := k) (by omega) (by omega)) h)
    refine xj_iconst (v := 0) d11_3_27 (by decide) ?_
    exact xj_ret d11_3_28 hcc hss rfl ⟨by rw [xB_f (show ¬ (vAl (vHas ft tl) S) from fun ⟨u, u1, u2⟩ => by obtain ⟨i, hi⟩ := List.getElem?_of_mem u1; exact hno i u (by have := (List.getElem?_eq_some_iff.mp hi).1; omega) hi u2)], rfl⟩
  | succ r ih =>
    intro k hk hno
    obtain ⟨w, hw⟩ : ∃ w, S[k]? = some w := ⟨_, List.getElem?_eq_getElem (show k < S.length by omega)⟩
    have hHt := vHt hg hxn h1_o h2_o h1_lt h2_lt h1_ln h2_ln h1_ve h2_ve h1_tx h2_tx h_o h_lt h_ln h_ve h_tx hS4 hD htl hw
    refine xj_iload_n (i := 2) d11_3_2 rfl rfl ?_
    refine xj_aload_n (i := 1) d11_3_3 rfl rfl ?_
    refine xj_get d11_3_4 f11_23_8 h_o (by omega) (show o < M.1 by omega) rfl ?_
    refine xj_icmp_ge (tgt := 27) d11_3_7 rfl (fun h => absurd h (nI_ge (a := k) (b := S.length) (by omega) (by omega))) (fun _ => ?_)
    refine xj_aload_n (i := 0) d11_3_10 rfl rfl ?_
    refine xj_aload_n (i := 1) d11_3_11 rfl rfl ?_
    refine xj_iload_n (i := 2) d11_3_12 rfl rfl ?_
    refine xj_callV (rest := []) (As := [.ref o, .int (nI k)]) (b := ve) hHt d11_3_13 wd11_4 h_ve (by omega) (show ve < M.1 by omega) rfl s11_4 w843 (Or.inl w841) rfl rfl (Nat.le_of_ble_eq_true rfl) (by omega) (by omega) (by omega) ?_
    rintro v9 M' ⟨rfl, hm9⟩
    subst M'
    refine xj_if_eq (tgt := 21) d11_3_16 rfl (fun hq9 => ?_) (fun hq9 => ?_)
    · refine xj_iinc (v := nI (k + 1)) (L' := [(2, .int (nI (k + 1))), (0, .ref ve), (1, .ref o)]) d11_3_21 rfl (xinc _) (by decide) rfl ?_
      refine xj_goto (tgt := 2) d11_3_24 rfl ?_
      exact ih (k + 1) (by omega) (fun i u hi hu => if z : i = k then by rw [z, hw] at hu; cases hu; exact xB_n hq9 else hno i u (by omega) hu)
    · refine xj_iconst (v := 1) d11_3_19 (by decide) ?_
      exact xj_ret d11_3_20 hcc hss rfl ⟨by rw [xB_t (show (vAl (vHas ft tl) S) from ⟨w, List.mem_of_getElem? hw, xB_y hq9⟩)], rfl⟩
set_option maxRecDepth 20000 in
theorem vAlw {G : xG} (hg : xGood G) (hxn : xn = 16) {M : xM} {ow : Nat → Nat} {o : Nat} {S : List (List Int32)} (hW : cW M ow o S) {ve tx tl : Nat} {ft : Nat → Int32} {lv : Value} (h1_ve : xn ≤ ve) (h2_ve : ve < M.1) (h1_tx : xn ≤ tx) (h2_tx : tx < M.1) (h_ve : M.2 ve = (.inr (3, [.ref tx, lv]))) (h_tx : M.2 tx = (.inl (1, tl, .inl ft))) (htl : tl ≤ 40) : XC G Y11_3 (some .boolean) 2 0 0 [.ref ve, .ref o] M (fun v M' => v = some (.int (xB (vAl (vHas ft tl) S))) ∧ M' = M) := by
  obtain ⟨lt, ln, f, g, ⟨h1_o, h2_o, h1_lt, h2_lt, h1_ln, h2_ln⟩, -, h_o, h_lt, h_ln, hS4, hD⟩ := hW
  refine xc_of hg (by decide) (Nat.le_of_ble_eq_true rfl) (Or.inr (Or.inl ⟨rfl, rfl, fun v M' h => ⟨_, h.1, xB_01 _⟩⟩)) ?_
  refine xj_iconst (v := 0) d11_3_0 (by decide) ?_
  refine xj_istore_n (i := 2) (L' := [(2, .int 0), (0, .ref ve), (1, .ref o)]) d11_3_1 rfl (by decide) rfl ?_
  exact vAwL hg hxn h1_o h2_o h1_lt h2_lt h1_ln h2_ln h1_ve h2_ve h1_tx h2_tx h_o h_lt h_ln h_ve h_tx hS4 hD htl (by omega) (by omega) (by omega) S.length 0 (by omega) (fun i u hi => absurd hi (by omega))
set_option maxRecDepth 20000 in
theorem nMtP {G : xG} (hg : xGood G) (hxn : xn = 16) {M : xM} {ow rk ad : Nat → Nat} {ℓ : Nat → xLk} {μ : Nat → xMu} {A : List xNode} {T nd : Nat} {z : xNl} {V : Nat → Prop} {d0 : Nat} (hd0 : 3 ≤ d0) {ve tx tl : Nat} {ft : Nat → Int32} {lv : Value} (h1_ve : xn ≤ ve) (h2_ve : ve < M.1) (h1_tx : xn ≤ tx) (h2_tx : tx < M.1) (h_ve : M.2 ve = (.inr (3, [.ref tx, lv]))) (h_tx : M.2 tx = (.inl (1, tl, .inl ft))) (htl : tl ≤ 40) (hA : cA M ow rk ad ℓ μ A) (hch : ∀ c ∈ z.2.1, c < A.length ∧ 1 ≤ (pNd A c).1 ∧ (pNd A c).1 ≤ 6 ∧ ¬ (pNd A c).1 = 5) (hIH : ∀ c ∈ z.2.1, XC G (yV_mayBeIn (pNd A c).1) (some .boolean) d0 0 0 [.ref (ad c), .ref ve] M (fun v M' => v = some (.int (xB (V c))) ∧ M' = M)) {al pa cu : Nat} {la : List Nat} (n1 : xn ≤ nd) (n2 : nd < M.1) (k1 : M.2 nd = (.inr (7, [.ref al, .ref pa, .ref cu, .int z.2.2.2]))) (k2 : cLi M ow rk T al la) (k3 : cLi M ow rk (T + 1) pa (z.2.1.map ad)) (k4 : la.length = z.1.length) (k5 : ∀ (k a : Nat) (S : List (List Int32)), la[k]? = some a → z.1[k]? = some S → cW M ow a S) (k6 : cW M ow cu z.2.2.1) {d ce se cells slots : Nat} (hd : d0 + 1 ≤ d) (hcc : cells ≤ ce) (hss : slots ≤ se) {Post : Option Value → xM → Prop} (K0 : (¬ ∀ c ∈ z.2.1, V c) → Post (some (.int 0)) M) (K : ∀ k : Nat, (∀ c ∈ z.2.1, V c) → XJ G Y6_4 d ce se cells slots 78 [(2, .int (nI k)), (0, .ref nd), (1, .ref ve)] [] M Post) : ∀ r k : Nat, k + r = z.2.1.length → (∀ i c : Nat, i < k → z.2.1[i]? = some c → V c) → XJ G Y6_4 d ce se cells slots 41 [(2, .int (nI k)), (0, .ref nd), (1, .ref ve)] [] M Post := by
  obtain ⟨el_al, mo_al, h_al, hl_al⟩ := xLs_len k2.2
  obtain ⟨el_pa, mo_pa, h_pa, hl_pa⟩ := xLs_len k3.2
  rw [List.length_map] at h_pa hl_pa
  obtain ⟨⟨al1, al2, -, -⟩, k2'⟩ := k2
  obtain ⟨⟨pa1, pa2, -, -⟩, k3'⟩ := k3
  intro r
  induction r with
  | zero =>
    intro k hk hno
    refine xj_iload_n (i := 2) d6_4_41 rfl rfl ?_
    refine xj_aload_n (i := 0) d6_4_42 rfl rfl ?_
    refine xj_get d6_4_43 f6_16_7 k1 (by omega) (show nd < M.1 by omega) rfl ?_
    refine xj_callV (rest := [.int (nI k)]) (As := []) (b := pa) (cSize hg (M := M) (n := M.1) (a := pa) (el := el_pa) (sz := nI z.2.1.length) (mo := mo_pa) rfl (by omega) (by omega) (by omega) h_pa) d6_4_46 wd28_8 h_pa (by omega) (show pa < M.1 by omega) rfl w230 w229 (Or.inl w835) rfl rfl (Nat.le_of_ble_eq_true rfl) (by omega) (by omega) (by omega) ?_
    rintro v M' ⟨rfl, hm⟩
    subst M'
    refine xj_icmp_ge (tgt := 78) d6_4_49 rfl (fun _ => ?_) (fun h => absurd (nI_le (a := z.2.1.length) (b := k) (by omega) (by omega)) h)
    exact K k (fun c hc => by obtain ⟨i, hi⟩ := List.getElem?_of_mem hc; exact hno i c (by have := (List.getElem?_eq_some_iff.mp hi).1; omega) hi)
  | succ r ih =>
    intro k hkr hno
    obtain ⟨c, hck⟩ : ∃ c, z.2.1[k]? = some c := ⟨_, List.getElem?_eq_getElem (show k < z.2.1.length by omega)⟩
    have hcm : c ∈ z.2.1 := List.mem_of_getElem? hck
    have hk := hch c hcm
    obtain ⟨y, hy⟩ : ∃ y, ad c = y := ⟨_, rfl⟩
    have hN := hA c _ (xnd_at hk.1)
    have hX := hIH c hcm
    rw [hy] at hN hX
    have hgl : (z.2.1.map ad)[k]? = some y := by rw [List.getElem?_map, hck, ← hy]; rfl
    obtain ⟨x1, x2, bc_y, bf_y, bC_y, bT_y, bN_y, x3, hc_y, hA_y, x6, x7, hP_y⟩ := cN_ob hN hk.2.1 hk.2.2.1
    replace hP_y := hP_y hk.2.2.2
    refine xj_iload_n (i := 2) d6_4_41 rfl rfl ?_
    refine xj_aload_n (i := 0) d6_4_42 rfl rfl ?_
    refine xj_get d6_4_43 f6_16_7 k1 (by omega) (show nd < M.1 by omega) rfl ?_
    refine xj_callV (rest := [.int (nI k)]) (As := []) (b := pa) (cSize hg (M := M) (n := M.1) (a := pa) (el := el_pa) (sz := nI z.2.1.length) (mo := mo_pa) rfl (by omega) (by omega) (by omega) h_pa) d6_4_46 wd28_8 h_pa (by omega) (show pa < M.1 by omega) rfl w230 w229 (Or.inl w835) rfl rfl (Nat.le_of_ble_eq_true rfl) (by omega) (by omega) (by omega) ?_
    rintro v M' ⟨rfl, hm⟩
    subst M'
    refine xj_icmp_ge (tgt := 78) d6_4_49 rfl (fun h => absurd h (nI_ge (a := k) (b := z.2.1.length) (by omega) (by omega))) (fun _ => ?_)
    refine xj_aload_n (i := 0) d6_4_52 rfl rfl ?_
    refine xj_get d6_4_53 f6_16_7 k1 (by omega) (show nd < M.1 by omega) rfl ?_
    refine xj_iload_n (i := 2) d6_4_56 rfl rfl ?_
    refine xj_callV (rest := []) (As := [.int (nI k)]) (b := pa) (xLs_get (k := k) (b := y) hg k3' (by omega) (by omega) hgl) d6_4_57 wd28_20 h_pa (by omega) (show pa < M.1 by omega) rfl w248 w247 (Or.inl w836) rfl rfl (Nat.le_of_ble_eq_true rfl) (by omega) (by omega) (by omega) ?_
    rintro v M' ⟨rfl, hm0⟩
    subst M'
    refine xj_cast d6_4_60 w854 x3 (by omega) (show y < M.1 by omega) hc_y hP_y ?_
    refine xj_aload_n (i := 1) d6_4_63 rfl rfl ?_
    refine xj_v_mayBeIn (rest := []) (As := [.ref ve]) hN hk.2.1 hk.2.2.1 hk.2.2.2 hX d6_4_64 w855 rfl rfl (Nat.le_of_ble_eq_true rfl) (by omega) (by omega) (by omega) ?_
    rintro v M' ⟨rfl, hm⟩
    subst M'
    refine xj_if_ne (tgt := 72) d6_4_67 rfl (fun hq9 => ?_) (fun hq9 => ?_)
    · refine xj_iinc (v := nI (k + 1)) (L' := [(2, .int (nI (k + 1))), (0, .ref nd), (1, .ref ve)]) d6_4_72 rfl (xinc _) (by decide) rfl ?_
      refine xj_goto (tgt := 41) d6_4_75 rfl ?_
      exact ih (k + 1) (by omega) (fun i c' hi hc' => if e : i = k then by rw [e, hck] at hc'; cases hc'; exact xB_y hq9 else hno i c' (by omega) hc')
    · refine xj_iconst (v := 0) d6_4_70 (by decide) ?_
      exact xj_ret d6_4_71 hcc hss rfl (K0 (fun q => xB_n hq9 (q c hcm)))
set_option maxRecDepth 20000 in
theorem nMtA {G : xG} (hg : xGood G) (hxn : xn = 16) {M : xM} {ow rk ad : Nat → Nat} {ℓ : Nat → xLk} {μ : Nat → xMu} {A : List xNode} {T nd : Nat} {z : xNl} {V : Nat → Prop} {d0 : Nat} (hd0 : 3 ≤ d0) {ve tx tl : Nat} {ft : Nat → Int32} {lv : Value} (h1_ve : xn ≤ ve) (h2_ve : ve < M.1) (h1_tx : xn ≤ tx) (h2_tx : tx < M.1) (h_ve : M.2 ve = (.inr (3, [.ref tx, lv]))) (h_tx : M.2 tx = (.inl (1, tl, .inl ft))) (htl : tl ≤ 40) (hA : cA M ow rk ad ℓ μ A) (hch : ∀ c ∈ z.2.1, c < A.length ∧ 1 ≤ (pNd A c).1 ∧ (pNd A c).1 ≤ 6 ∧ ¬ (pNd A c).1 = 5) (hIH : ∀ c ∈ z.2.1, XC G (yV_mayBeIn (pNd A c).1) (some .boolean) d0 0 0 [.ref (ad c), .ref ve] M (fun v M' => v = some (.int (xB (V c))) ∧ M' = M)) {al pa cu : Nat} {la : List Nat} (n1 : xn ≤ nd) (n2 : nd < M.1) (k1 : M.2 nd = (.inr (7, [.ref al, .ref pa, .ref cu, .int z.2.2.2]))) (k2 : cLi M ow rk T al la) (k3 : cLi M ow rk (T + 1) pa (z.2.1.map ad)) (k4 : la.length = z.1.length) (k5 : ∀ (k a : Nat) (S : List (List Int32)), la[k]? = some a → z.1[k]? = some S → cW M ow a S) (k6 : cW M ow cu z.2.2.1) {d ce se cells slots : Nat} (hd : d0 + 1 ≤ d) (hcc : cells ≤ ce) (hss : slots ≤ se) {Post : Option Value → xM → Prop} (K0 : (¬ ∀ S ∈ z.1, vAl (vHas ft tl) S) → Post (some (.int 0)) M) (K : ∀ k : Nat, (∀ S ∈ z.1, vAl (vHas ft tl) S) → XJ G Y6_4 d ce se cells slots 39 [(2, .int (nI k)), (0, .ref nd), (1, .ref ve)] [] M Post) : ∀ r k : Nat, k + r = la.length → (∀ (i : Nat) (S : List (List Int32)), i < k → z.1[i]? = some S → vAl (vHas ft tl) S) → XJ G Y6_4 d ce se cells slots 2 [(2, .int (nI k)), (0, .ref nd), (1, .ref ve)] [] M Post := by
  obtain ⟨el_al, mo_al, h_al, hl_al⟩ := xLs_len k2.2
  obtain ⟨el_pa, mo_pa, h_pa, hl_pa⟩ := xLs_len k3.2
  rw [List.length_map] at h_pa hl_pa
  obtain ⟨⟨al1, al2, -, -⟩, k2'⟩ := k2
  obtain ⟨⟨pa1, pa2, -, -⟩, k3'⟩ := k3
  intro r
  induction r with
  | zero =>
    intro k hk hno
    refine xj_iload_n (i := 2) d6_4_2 rfl rfl ?_
    refine xj_aload_n (i := 0) d6_4_3 rfl rfl ?_
    refine xj_get d6_4_4 f6_10_7 k1 (by omega) (show nd < M.1 by omega) rfl ?_
    refine xj_callV (rest := [.int (nI k)]) (As := []) (b := al) (cSize hg (M := M) (n := M.1) (a := al) (el := el_al) (sz := nI la.length) (mo := mo_al) rfl (by omega) (by omega) (by omega) h_al) d6_4_7 wd28_8 h_al (by omega) (show al < M.1 by omega) rfl w230 w229 (Or.inl w835) rfl rfl (Nat.le_of_ble_eq_true rfl) (by omega) (by omega) (by omega) ?_
    rintro v M' ⟨rfl, hm⟩
    subst M'
    refine xj_icmp_ge (tgt := 39) d6_4_10 rfl (fun _ => ?_) (fun h => absurd (nI_le (a := la.length) (b := k) (by omega) (by omega)) h)
    exact K k (fun S hS => by obtain ⟨i, hi⟩ := List.getElem?_of_mem hS; exact hno i S (by have := (List.getElem?_eq_some_iff.mp hi).1; omega) hi)
  | succ r ih =>
    intro k hkr hno
    obtain ⟨a9, ha9⟩ : ∃ a, la[k]? = some a := ⟨_, List.getElem?_eq_getElem (show k < la.length by omega)⟩
    obtain ⟨S9, hS9⟩ : ∃ S, z.1[k]? = some S := ⟨_, List.getElem?_eq_getElem (show k < z.1.length by omega)⟩
    have hW9 := k5 k a9 S9 ha9 hS9
    obtain ⟨lt9, ln9, f9, g9, ⟨b1, b2, -⟩, -, k_a9, -⟩ := id hW9
    refine xj_iload_n (i := 2) d6_4_2 rfl rfl ?_
    refine xj_aload_n (i := 0) d6_4_3 rfl rfl ?_
    refine xj_get d6_4_4 f6_10_7 k1 (by omega) (show nd < M.1 by omega) rfl ?_
    refine xj_callV (rest := [.int (nI k)]) (As := []) (b := al) (cSize hg (M := M) (n := M.1) (a := al) (el := el_al) (sz := nI la.length) (mo := mo_al) rfl (by omega) (by omega) (by omega) h_al) d6_4_7 wd28_8 h_al (by omega) (show al < M.1 by omega) rfl w230 w229 (Or.inl w835) rfl rfl (Nat.le_of_ble_eq_true rfl) (by omega) (by omega) (by omega) ?_
    rintro v M' ⟨rfl, hm⟩
    subst M'
    refine xj_icmp_ge (tgt := 39) d6_4_10 rfl (fun h => absurd h (nI_ge (a := k) (b := la.length) (by omega) (by omega))) (fun _ => ?_)
    refine xj_aload_n (i := 1) d6_4_13 rfl rfl ?_
    refine xj_aload_n (i := 0) d6_4_14 rfl rfl ?_
    refine xj_get d6_4_15 f6_10_7 k1 (by omega) (show nd < M.1 by omega) rfl ?_
    refine xj_iload_n (i := 2) d6_4_18 rfl rfl ?_
    refine xj_callV (rest := [.ref ve]) (As := [.int (nI k)]) (b := al) (xLs_get (k := k) (b := a9) hg k2' (by omega) (by omega) ha9) d6_4_19 wd28_20 h_al (by omega) (show al < M.1 by omega) rfl w248 w247 (Or.inl w836) rfl rfl (Nat.le_of_ble_eq_true rfl) (by omega) (by omega) (by omega) ?_
    rintro v M' ⟨rfl, hm0⟩
    subst M'
    refine xj_cast d6_4_22 w795 k_a9 (by omega) (show a9 < M.1 by omega) rfl (Or.inl rfl) ?_
    refine xj_callV (rest := []) (As := [.ref a9]) (b := ve) (vAlw hg hxn hW9 h1_ve h2_ve h1_tx h2_tx h_ve h_tx htl) d6_4_25 wd11_3 h_ve (by omega) (show ve < M.1 by omega) rfl w839 w838 (Or.inl w837) rfl rfl (Nat.le_of_ble_eq_true rfl) (by omega) (by omega) (by omega) ?_
    rintro v9 M' ⟨rfl, hm9⟩
    subst M'
    refine xj_if_ne (tgt := 33) d6_4_28 rfl (fun hq9 => ?_) (fun hq9 => ?_)
    · refine xj_iinc (v := nI (k + 1)) (L' := [(2, .int (nI (k + 1))), (0, .ref nd), (1, .ref ve)]) d6_4_33 rfl (xinc _) (by decide) rfl ?_
      refine xj_goto (tgt := 2) d6_4_36 rfl ?_
      exact ih (k + 1) (by omega) (fun i S' hi hS' => if e : i = k then by rw [e, hS9] at hS'; cases hS'; exact xB_y hq9 else hno i S' (by omega) hS')
    · refine xj_iconst (v := 0) d6_4_31 (by decide) ?_
      exact xj_ret d6_4_32 hcc hss rfl (K0 (fun q => xB_n hq9 (q S9 (List.mem_of_getElem? hS9))))
set_option maxRecDepth 20000 in
theorem nMet {G : xG} (hg : xGood G) (hxn : xn = 16) {M : xM} {ow rk ad : Nat → Nat} {ℓ : Nat → xLk} {μ : Nat → xMu} {A : List xNode} {T nd : Nat} {z : xNl} {V : Nat → Prop} {d0 : Nat} (hd0 : 3 ≤ d0) {ve tx tl : Nat} {ft : Nat → Int32} {lv : Value} (h1_ve : xn ≤ ve) (h2_ve : ve < M.1) (h1_tx : xn ≤ tx) (h2_tx : tx < M.1) (h_ve : M.2 ve = (.inr (3, [.ref tx, lv]))) (h_tx : M.2 tx = (.inl (1, tl, .inl ft))) (htl : tl ≤ 40) (hA : cA M ow rk ad ℓ μ A) (hch : ∀ c ∈ z.2.1, c < A.length ∧ 1 ≤ (pNd A c).1 ∧ (pNd A c).1 ≤ 6 ∧ ¬ (pNd A c).1 = 5) (hIH : ∀ c ∈ z.2.1, XC G (yV_mayBeIn (pNd A c).1) (some .boolean) d0 0 0 [.ref (ad c), .ref ve] M (fun v M' => v = some (.int (xB (V c))) ∧ M' = M)) (hN : cNd M ow rk ad T nd z) : XC G Y6_4 (some .boolean) (d0 + 1) 0 0 [.ref nd, .ref ve] M (fun v M' => v = some (.int (xB (vNd (vAl (vHas ft tl)) V z))) ∧ M' = M) := by
  obtain ⟨al, pa, cu, la, ⟨n1, n2, -, -⟩, k1, k2, k3, k4, k5, k6⟩ := hN
  obtain ⟨lt9, ln9, f9, g9, ⟨cu1, cu2, -⟩, -, k_cu, -⟩ := id k6
  refine xc_of hg (by decide) (Nat.le_of_ble_eq_true rfl) (Or.inr (Or.inl ⟨rfl, rfl, fun v M' h => ⟨_, h.1, xB_01 _⟩⟩)) ?_
  refine xj_iconst (v := 0) d6_4_0 (by decide) ?_
  refine xj_istore_n (i := 2) (L' := [(2, .int 0), (0, .ref nd), (1, .ref ve)]) d6_4_1 rfl (by decide) rfl ?_
  refine nMtA hg hxn hd0 h1_ve h2_ve h1_tx h2_tx h_ve h_tx htl hA hch hIH n1 n2 k1 k2 k3 k4 k5 k6 (Nat.le_refl _) (Nat.le_refl _) (Nat.le_refl _) (fun q => ⟨by rw [xB_f (show ¬ (vNd (vAl (vHas ft tl)) V z) from fun h => q h.1)], rfl⟩) (fun k9 hq1 => ?_) la.length 0 (by omega) (fun i S hi => absurd hi (by omega))
  refine xj_iconst (v := 0) d6_4_39 (by decide) ?_
  refine xj_istore_n (i := 2) (L' := [(2, .int 0), (0, .ref nd), (1, .ref ve)]) d6_4_40 rfl (by decide) rfl ?_
  refine nMtP hg hxn hd0 h1_ve h2_ve h1_tx h2_tx h_ve h_tx htl hA hch hIH n1 n2 k1 k2 k3 k4 k5 k6 (Nat.le_refl _) (Nat.le_refl _) (Nat.le_refl _) (fun q => ⟨by rw [xB_f (show ¬ (vNd (vAl (vHas ft tl)) V z) from fun h => q h.2.1)], rfl⟩) (fun k8 hq2 => ?_) z.2.1.length 0 (by omega) (fun i S hi => absurd hi (by omega))
  refine xj_aload_n (i := 1) d6_4_78 rfl rfl ?_
  refine xj_aload_n (i := 0) d6_4_79 rfl rfl ?_
  refine xj_get d6_4_80 f6_25_7 k1 (by omega) (show nd < M.1 by omega) rfl ?_
  refine xj_callV (rest := []) (As := [.ref cu]) (b := ve) (vAlw hg hxn k6 h1_ve h2_ve h1_tx h2_tx h_ve h_tx htl) d6_4_83 wd11_3 h_ve (by omega) (show ve < M.1 by omega) rfl w839 w838 (Or.inl w837) rfl rfl (Nat.le_of_ble_eq_true rfl) (by omega) (by omega) (by omega) ?_
  rintro v9 M' ⟨rfl, hm9⟩
  subst M'
  exact xj_ret d6_4_86 (by omega) (by omega) rfl ⟨by rw [xB_cg (show (vNd (vAl (vHas ft tl)) V z) ↔ vAl (vHas ft tl) z.2.2.1 from ⟨fun h => h.2.2, fun h => ⟨hq1, hq2, h⟩⟩)], rfl⟩

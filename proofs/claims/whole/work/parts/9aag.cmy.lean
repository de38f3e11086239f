theorem sFol_p {z : xNl} {d c : Nat} {w : Option (List (List Int32))} (h : c ∈ (sFol z d w).2.1) : c ∈ z.2.1 ∨ c = d := by
  cases w with
  | none =>
    rcases List.mem_append.mp h with q | q
    · exact Or.inl q
    · exact Or.inr (List.mem_singleton.mp q)
  | some W =>
    cases hj : sJoin z.2.2.1 W with
    | none =>
      rw [sFol_n hj] at h
      exact Or.inl h
    | some J =>
      rw [sFol_y hj] at h
      exact Or.inl h
theorem sTimes_p {W : Nat → Option (List (List Int32))} {e c : Nat} : ∀ k, c ∈ (sTimes W e k).2.1 → c = e
  | 0, h => absurd h (by simp [sTimes, sNd0])
  | k + 1, h => (sFol_p h).elim (sTimes_p k) id
theorem sAlong_p {W : Nat → Option (List (List Int32))} {c : Nat} : ∀ (l : List Nat) (z : xNl), c ∈ (l.foldl (fun z c => sFol z c (W c)) z).2.1 → c ∈ z.2.1 ∨ c ∈ l
  | [], z, h => Or.inl h
  | d :: l, z, h => by
    rcases sAlong_p l _ h with q | q
    · rcases sFol_p q with q2 | q2
      · exact Or.inl q2
      · exact Or.inr (by rw [q2]; exact List.mem_cons_self)
    · exact Or.inr (List.mem_cons_of_mem _ q)
/-- what stands among a part's needs are its own parts -/
theorem sLr_p {A : List xNode} {lo : Nat → Nat} (hO : ∀ (i : Nat) (q : xNode), A[i]? = some q → pOk A lo i q) {i : Nat} {q : xNode} (hq : A[i]? = some q) {c : Nat} (hc : c ∈ (sLr A i).2.2.1) : c ∈ q.2.2.1 ∧ q.1 ≤ 5 := by
  have hL : sLr A i = sNode (fun c => (sLr A c).1) q := sLr_at A (fun j p hp => ⟨fun c hc => ((pIv_le (hO j p hp).1).2 c hc).2.1, fun z => ((hO j p hp).2.2.2.2.1 z).1⟩) i q hq
  obtain ⟨-, h2, -, -, h5, -⟩ := hO i q hq
  rw [hL] at hc
  unfold sNode at hc
  by_cases c1 : q.1 = 1
  · rw [if_pos c1] at hc
    exact absurd hc (by simp [sNd0])
  · rw [if_neg c1] at hc
    by_cases c2 : q.1 ≤ 3
    · rw [if_pos c2] at hc
      exact absurd hc (by simp [sNd0])
    · rw [if_neg c2] at hc
      by_cases c3 : q.1 = 4
      · rw [if_pos c3] at hc
        obtain ⟨⟨e, he⟩, -⟩ := h5 c3
        have := sTimes_p _ hc
        rw [he] at this ⊢
        have h9 : c = e := this
        exact ⟨by rw [h9]; simp, by omega⟩
      · rw [if_neg c3] at hc
        by_cases c5 : q.1 = 5
        · rw [if_pos c5] at hc
          refine ⟨(sAlong_p q.2.2.1 sNd0 hc).elim (fun z => absurd z (by simp [sNd0])) id, by omega⟩
        · rw [if_neg c5] at hc
          exact absurd hc (by simp [sNd0])
set_option maxRecDepth 20000 in
theorem mbS0 {G : xG} (hg : xGood G) (hxn : xn = 16) {M : xM} {o : Nat} {z1 z2 pl9 : Int64} {ve tx tl : Nat} {ft : Nat → Int32} {lv : Value} (h1_ve : xn ≤ ve) (h2_ve : ve < M.1) (h1_tx : xn ≤ tx) (h2_tx : tx < M.1) (h_ve : M.2 ve = (.inr (3, [.ref tx, lv]))) (h_tx : M.2 tx = (.inl (1, tl, .inl ft))) (htl : tl ≤ 40) (h1_o : xn ≤ o) (h2_o : o < M.1) (h_o : M.2 o = (.inr (10, [.long z1, .long z2, .long pl9, .null]))) : XC G Y4_7 (some .boolean) 3 0 0 [.ref o, .ref ve] M (fun v M' => v = some (.int (1)) ∧ M' = M) := by
  refine xc_of hg (by decide) (Nat.le_of_ble_eq_true rfl) (Or.inr (Or.inl ⟨rfl, rfl, fun v M' h => ⟨_, h.1, Or.inr rfl⟩⟩)) ?_
  refine xj_aload_n (i := 0) d4_7_0 rfl rfl ?_
  refine xj_get d4_7_1 f4_33_10 h_o (by omega) (show o < M.1 by omega) rfl ?_
  refine xj_ifnullN (tgt := 18) d4_7_4 rfl ?_
  refine xj_iconst (v := 1) d4_7_18 (by decide) ?_
  refine xj_goto (tgt := 23) d4_7_19 rfl ?_
  exact xj_ret d4_7_23 (by omega) (by omega) rfl ⟨rfl, rfl⟩
set_option maxRecDepth 20000 in
theorem mbS1 {G : xG} (hg : xGood G) (hxn : xn = 16) {M : xM} {o : Nat} {z1 z2 pl9 : Int64} {ve tx tl : Nat} {ft : Nat → Int32} {lv : Value} (h1_ve : xn ≤ ve) (h2_ve : ve < M.1) (h1_tx : xn ≤ tx) (h2_tx : tx < M.1) (h_ve : M.2 ve = (.inr (3, [.ref tx, lv]))) (h_tx : M.2 tx = (.inl (1, tl, .inl ft))) (htl : tl ≤ 40) {wa : Nat} {ow : Nat → Nat} {S : List (List Int32)} (hW : cW M ow wa S) (h1_o : xn ≤ o) (h2_o : o < M.1) (h_o : M.2 o = (.inr (10, [.long z1, .long z2, .long pl9, .ref wa]))) : XC G Y4_7 (some .boolean) 3 0 0 [.ref o, .ref ve] M (fun v M' => v = some (.int (xB (vAl (vHas ft tl) S))) ∧ M' = M) := by
  obtain ⟨lt9, ln9, f9, g9, ⟨wa1, wa2, -⟩, -, k_wa, -⟩ := id hW
  refine xc_of hg (by decide) (Nat.le_of_ble_eq_true rfl) (Or.inr (Or.inl ⟨rfl, rfl, fun v M' h => ⟨_, h.1, xB_01 _⟩⟩)) ?_
  refine xj_aload_n (i := 0) d4_7_0 rfl rfl ?_
  refine xj_get d4_7_1 f4_33_10 h_o (by omega) (show o < M.1 by omega) rfl ?_
  refine xj_ifnull d4_7_4 ?_
  refine xj_aload_n (i := 1) d4_7_7 rfl rfl ?_
  refine xj_aload_n (i := 0) d4_7_8 rfl rfl ?_
  refine xj_get d4_7_9 f4_33_10 h_o (by omega) (show o < M.1 by omega) rfl ?_
  refine xj_callV (rest := []) (As := [.ref wa]) (b := ve) (vAlw hg hxn hW h1_ve h2_ve h1_tx h2_tx h_ve h_tx htl) d4_7_12 wd11_3 h_ve (by omega) (show ve < M.1 by omega) rfl w839 w838 (Or.inl w865) rfl rfl (Nat.le_of_ble_eq_true rfl) (by omega) (by omega) (by omega) ?_
  rintro v9 M' ⟨rfl, hm9⟩
  subst M'
  refine xj_if_eq (tgt := 22) d4_7_15 rfl (fun hq9 => ?_) (fun hq9 => ?_)
  · refine xj_iconst (v := 0) d4_7_22 (by decide) ?_
    exact xj_ret d4_7_23 (by omega) (by omega) rfl ⟨by rw [xB_f (xB_n hq9)], rfl⟩
  · refine xj_iconst (v := 1) d4_7_18 (by decide) ?_
    refine xj_goto (tgt := 23) d4_7_19 rfl ?_
    exact xj_ret d4_7_23 (by omega) (by omega) rfl ⟨by rw [xB_t (xB_y hq9)], rfl⟩
set_option maxRecDepth 20000 in
theorem mbA {G : xG} (hg : xGood G) {M : xM} {n : Nat} (hn : M.1 = n) (hx : xn ≤ n) {o : Nat} {ve : Nat} : XC G Y2_4 (some .boolean) 0 0 0 [.ref o, .ref ve] M (fun v M' => v = some (.int 1) ∧ M' = M) := by
  refine xc_of hg (by decide) (Nat.le_of_ble_eq_true rfl) (Or.inr (Or.inl ⟨rfl, rfl, fun v M' h => ⟨_, h.1, Or.inr rfl⟩⟩)) ?_
  refine xj_iconst (v := 1) d2_4_0 (by decide) ?_
  exact xj_ret d2_4_1 (by omega) (by omega) rfl ⟨rfl, rfl⟩
set_option maxRecDepth 20000 in
theorem mbR {G : xG} (hg : xGood G) (hxn : xn = 16) {M : xM} {ow rk ad : Nat → Nat} {ℓ : Nat → xLk} {μ : Nat → xMu} {A : List xNode} {T nd : Nat} {z : xNl} {V : Nat → Prop} {d0 : Nat} (hd0 : 3 ≤ d0) {ve tx tl : Nat} {ft : Nat → Int32} {lv : Value} (h1_ve : xn ≤ ve) (h2_ve : ve < M.1) (h1_tx : xn ≤ tx) (h2_tx : tx < M.1) (h_ve : M.2 ve = (.inr (3, [.ref tx, lv]))) (h_tx : M.2 tx = (.inl (1, tl, .inl ft))) (htl : tl ≤ 40) (hA : cA M ow rk ad ℓ μ A) (hch : ∀ c ∈ z.2.1, c < A.length ∧ 1 ≤ (pNd A c).1 ∧ (pNd A c).1 ≤ 6 ∧ ¬ (pNd A c).1 = 5) (hIH : ∀ c ∈ z.2.1, XC G (yV_mayBeIn (pNd A c).1) (some .boolean) d0 0 0 [.ref (ad c), .ref ve] M (fun v M' => v = some (.int (xB (V c))) ∧ M' = M)) (hN : cNd M ow rk ad T nd z) {o y9 : Nat} {ls ms ck ll : Int32} {cv wv : Value} (h1_o : xn ≤ o) (h2_o : o < M.1) (h_o : M.2 o = (.inr (9, [.ref y9, .int ls, .int ms, .ref nd, cv, .int ck, .int ll, wv]))) : XC G Y9_4 (some .boolean) (d0 + 2) 0 0 [.ref o, .ref ve] M (fun v M' => v = some (.int (xB (vNd (vAl (vHas ft tl)) V z))) ∧ M' = M) := by
  have hNm := nMet hg hxn hd0 h1_ve h2_ve h1_tx h2_tx h_ve h_tx htl hA hch hIH hN
  obtain ⟨al9, pa9, cu9, la9, ⟨n1, n2, -, -⟩, kn9, -⟩ := hN
  refine xc_of hg (by decide) (Nat.le_of_ble_eq_true rfl) (Or.inr (Or.inl ⟨rfl, rfl, fun v M' h => ⟨_, h.1, xB_01 _⟩⟩)) ?_
  refine xj_aload_n (i := 0) d9_4_0 rfl rfl ?_
  refine xj_get d9_4_1 f9_12_9 h_o (by omega) (show o < M.1 by omega) rfl ?_
  refine xj_aload_n (i := 1) d9_4_4 rfl rfl ?_
  refine xj_callV (rest := []) (As := [.ref ve]) (b := nd) hNm d9_4_5 wd6_4 kn9 (by omega) (show nd < M.1 by omega) rfl w833 w832 (Or.inl w870) rfl rfl (Nat.le_of_ble_eq_true rfl) (by omega) (by omega) (by omega) ?_
  rintro v9 M' ⟨rfl, hm9⟩
  subst M'
  exact xj_ret d9_4_8 (by omega) (by omega) rfl ⟨rfl, rfl⟩
set_option maxRecDepth 20000 in
theorem mbB {G : xG} (hg : xGood G) (hxn : xn = 16) {M : xM} {ow rk ad : Nat → Nat} {ℓ : Nat → xLk} {μ : Nat → xMu} {A : List xNode} {T nd : Nat} {z : xNl} {V : Nat → Prop} {d0 : Nat} (hd0 : 3 ≤ d0) {ve tx tl : Nat} {ft : Nat → Int32} {lv : Value} (h1_ve : xn ≤ ve) (h2_ve : ve < M.1) (h1_tx : xn ≤ tx) (h2_tx : tx < M.1) (h_ve : M.2 ve = (.inr (3, [.ref tx, lv]))) (h_tx : M.2 tx = (.inl (1, tl, .inl ft))) (htl : tl ≤ 40) (hA : cA M ow rk ad ℓ μ A) (hch : ∀ c ∈ z.2.1, c < A.length ∧ 1 ≤ (pNd A c).1 ∧ (pNd A c).1 ≤ 6 ∧ ¬ (pNd A c).1 = 5) (hIH : ∀ c ∈ z.2.1, XC G (yV_mayBeIn (pNd A c).1) (some .boolean) d0 0 0 [.ref (ad c), .ref ve] M (fun v M' => v = some (.int (xB (V c))) ∧ M' = M)) (hN : cNd M ow rk ad T nd z) {o y9 : Nat} {ls ms ck ll : Int32} {cv wv : Value} (h1_o : xn ≤ o) (h2_o : o < M.1) (h_o : M.2 o = (.inr (6, [.ref y9, .ref nd, wv]))) : XC G Y3_8 (some .boolean) (d0 + 2) 0 0 [.ref o, .ref ve] M (fun v M' => v = some (.int (xB (vNd (vAl (vHas ft tl)) V z))) ∧ M' = M) := by
  have hNm := nMet hg hxn hd0 h1_ve h2_ve h1_tx h2_tx h_ve h_tx htl hA hch hIH hN
  obtain ⟨al9, pa9, cu9, la9, ⟨n1, n2, -, -⟩, kn9, -⟩ := hN
  refine xc_of hg (by decide) (Nat.le_of_ble_eq_true rfl) (Or.inr (Or.inl ⟨rfl, rfl, fun v M' h => ⟨_, h.1, xB_01 _⟩⟩)) ?_
  refine xj_aload_n (i := 0) d3_8_0 rfl rfl ?_
  refine xj_get d3_8_1 f3_19_6 h_o (by omega) (show o < M.1 by omega) rfl ?_
  refine xj_aload_n (i := 1) d3_8_4 rfl rfl ?_
  refine xj_callV (rest := []) (As := [.ref ve]) (b := nd) hNm d3_8_5 wd6_4 kn9 (by omega) (show nd < M.1 by omega) rfl w833 w832 (Or.inl w831) rfl rfl (Nat.le_of_ble_eq_true rfl) (by omega) (by omega) (by omega) ?_
  rintro v9 M' ⟨rfl, hm9⟩
  subst M'
  exact xj_ret d3_8_8 (by omega) (by omega) rfl ⟨rfl, rfl⟩
set_option maxRecDepth 20000 in
theorem mbGL {G : xG} (hg : xGood G) (hxn : xn = 16) {M : xM} {ow rk ad : Nat → Nat} {ℓ : Nat → xLk} {μ : Nat → xMu} {A : List xNode} {V : Nat → Prop} {d0 : Nat} (hd0 : 3 ≤ d0) {ve tx tl : Nat} {ft : Nat → Int32} {lv : Value} (h1_ve : xn ≤ ve) (h2_ve : ve < M.1) (h1_tx : xn ≤ tx) (h2_tx : tx < M.1) (h_ve : M.2 ve = (.inr (3, [.ref tx, lv]))) (h_tx : M.2 tx = (.inl (1, tl, .inl ft))) (htl : tl ≤ 40) {b p : Nat} {lv9 wv : Value} {chl : List Nat} {P : Nat → Prop} (hA : cA M ow rk ad ℓ μ A) (hch : ∀ c ∈ chl, c < A.length ∧ (pNd A c).1 = 5) (hIH : ∀ c ∈ chl, XC G (yV_mayBeIn (pNd A c).1) (some .boolean) d0 0 0 [.ref (ad c), .ref ve] M (fun v M' => v = some (.int (xB (V c))) ∧ M' = M)) (hb1 : xn ≤ b) (hb2 : b < M.1) (h_b : M.2 b = (.inr (5, [.ref p, lv9, wv]))) (hp1 : xn ≤ p) (hp2 : p < M.1) (hp : xLs P M p (chl.map ad)) {d ce se cells slots : Nat} (hd : d0 + 1 ≤ d) (hcc : cells ≤ ce) (hss : slots ≤ se) : ∀ r k : Nat, k + r = chl.length → (∀ i c : Nat, i < k → chl[i]? = some c → ¬ V c) → XJ G Y5_5 d ce se cells slots 2 [(2, .int (nI k)), (0, .ref b), (1, .ref ve)] [] M (fun v M' => v = some (.int (xB (∃ c ∈ chl, V c))) ∧ M' = M) := by
  obtain ⟨el_p, mo_p, h_p, hl9⟩ := xLs_len hp
  rw [List.length_map] at h_p hl9
  intro r
  induction r with
  | zero =>
    intro k hk hno
    refine xj_iload_n (i := 2) d5_5_2 rfl rfl ?_
    refine xj_aload_n (i := 0) d5_5_3 rfl rfl ?_
    refine xj_get d5_5_4 f5_10_5 h_b (by omega) (show b < M.1 by omega) rfl ?_
    refine xj_callV (rest := [.int (nI k)]) (As := []) (b := p) (cSize hg (M := M) (n := M.1) (a := p) (el := el_p) (sz := nI chl.length) (mo := mo_p) rfl (by omega) (by omega) (by omega) h_p) d5_5_7 wd28_8 h_p (by omega) (show p < M.1 by omega) rfl w230 w229 (Or.inl w714) rfl rfl (Nat.le_of_ble_eq_true rfl) (by omega) (by omega) (by omega) ?_
    rintro v M' ⟨rfl, hm⟩
    subst M'
    refine xj_icmp_ge (tgt := 39) d5_5_10 rfl (fun _ => ?_) (fun h => absurd (nI_le (a := chl.length) (b := k) (by omega) (by omega)) h)
    refine xj_iconst (v := 0) d5_5_39 (by decide) ?_
    exact xj_ret d5_5_40 hcc hss rfl ⟨by rw [xB_f (show ¬ (∃ c ∈ chl, V c) from fun ⟨c, c1, c2⟩ => by obtain ⟨i, hi⟩ := List.getElem?_of_mem c1; exact hno i c (by have := (List.getElem?_eq_some_iff.mp hi).1; omega) hi c2)], rfl⟩
  | succ r ih =>
    intro k hkr hno
    obtain ⟨c, hck⟩ : ∃ c, chl[k]? = some c := ⟨_, List.getElem?_eq_getElem (show k < chl.length by omega)⟩
    have hcm : c ∈ chl := List.mem_of_getElem? hck
    have hk := hch c hcm
    obtain ⟨y, hy⟩ : ∃ y, ad c = y := ⟨_, rfl⟩
    have hN := hA c _ (xnd_at hk.1)
    have hX := hIH c hcm
    rw [hy] at hN hX
    have hgl : (chl.map ad)[k]? = some y := by rw [List.getElem?_map, hck, ← hy]; rfl
    obtain ⟨wv9, -, ⟨x1, x2, -, -⟩, -, -, -, k5, -⟩ := hN
    obtain ⟨p9, nd9, x3, -⟩ := k5 hk.2
    rw [show yV_mayBeIn (pNd A c).1 = Y3_8 by unfold yV_mayBeIn; rw [hk.2]; rfl] at hX
    refine xj_iload_n (i := 2) d5_5_2 rfl rfl ?_
    refine xj_aload_n (i := 0) d5_5_3 rfl rfl ?_
    refine xj_get d5_5_4 f5_10_5 h_b (by omega) (show b < M.1 by omega) rfl ?_
    refine xj_callV (rest := [.int (nI k)]) (As := []) (b := p) (cSize hg (M := M) (n := M.1) (a := p) (el := el_p) (sz := nI chl.length) (mo := mo_p) rfl (by omega) (by omega) (by omega) h_p) d5_5_7 wd28_8 h_p (by omega) (show p < M.1 by omega) rfl w230 w229 (Or.inl w714) rfl rfl (Nat.le_of_ble_eq_true rfl) (by omega) (by omega) (by omega) ?_
    rintro v M' ⟨rfl, hm⟩
    subst M'
    refine xj_icmp_ge (tgt := 39) d5_5_10 rfl (fun h => absurd h (nI_ge (a := k) (b := chl.length) (by omega) (by omega))) (fun _ => ?_)
    refine xj_aload_n (i := 0) d5_5_13 rfl rfl ?_
    refine xj_get d5_5_14 f5_10_5 h_b (by omega) (show b < M.1 by omega) rfl ?_
    refine xj_iload_n (i := 2) d5_5_17 rfl rfl ?_
    refine xj_callV (rest := []) (As := [.int (nI k)]) (b := p) (xLs_get (k := k) (b := y) hg hp (by omega) (by omega) hgl) d5_5_18 wd28_20 h_p (by omega) (show p < M.1 by omega) rfl w248 w247 (Or.inl w715) rfl rfl (Nat.le_of_ble_eq_true rfl) (by omega) (by omega) (by omega) ?_
    rintro v M' ⟨rfl, hm0⟩
    subst M'
    refine xj_cast d5_5_21 w325 x3 (by omega) (show y < M.1 by omega) rfl (Or.inl rfl) ?_
    refine xj_aload_n (i := 1) d5_5_24 rfl rfl ?_
    refine xj_callV (rest := []) (As := [.ref ve]) (b := y) hX d5_5_25 wd3_8 x3 (by omega) (show y < M.1 by omega) rfl w829 w828 (Or.inl w827) rfl rfl (Nat.le_of_ble_eq_true rfl) (by omega) (by omega) (by omega) ?_
    rintro v9 M' ⟨rfl, hm9⟩
    subst M'
    refine xj_if_eq (tgt := 33) d5_5_28 rfl (fun hq9 => ?_) (fun hq9 => ?_)
    · refine xj_iinc (v := nI (k + 1)) (L' := [(2, .int (nI (k + 1))), (0, .ref b), (1, .ref ve)]) d5_5_33 rfl (xinc _) (by decide) rfl ?_
      refine xj_goto (tgt := 2) d5_5_36 rfl ?_
      exact ih (k + 1) (by omega) (fun i c' hi hc' => if e : i = k then by rw [e, hck] at hc'; cases hc'; exact xB_n hq9 else hno i c' (by omega) hc')
    · refine xj_iconst (v := 1) d5_5_31 (by decide) ?_
      exact xj_ret d5_5_32 hcc hss rfl ⟨by rw [xB_t (show (∃ c ∈ chl, V c) from ⟨c, hcm, xB_y hq9⟩)], rfl⟩
set_option maxRecDepth 20000 in
theorem mbG {G : xG} (hg : xGood G) (hxn : xn = 16) {M : xM} {ow rk ad : Nat → Nat} {ℓ : Nat → xLk} {μ : Nat → xMu} {A : List xNode} {V : Nat → Prop} {d0 : Nat} (hd0 : 3 ≤ d0) {ve tx tl : Nat} {ft : Nat → Int32} {lv : Value} (h1_ve : xn ≤ ve) (h2_ve : ve < M.1) (h1_tx : xn ≤ tx) (h2_tx : tx < M.1) (h_ve : M.2 ve = (.inr (3, [.ref tx, lv]))) (h_tx : M.2 tx = (.inl (1, tl, .inl ft))) (htl : tl ≤ 40) {b p : Nat} {lv9 wv : Value} {chl : List Nat} {P : Nat → Prop} (hA : cA M ow rk ad ℓ μ A) (hch : ∀ c ∈ chl, c < A.length ∧ (pNd A c).1 = 5) (hIH : ∀ c ∈ chl, XC G (yV_mayBeIn (pNd A c).1) (some .boolean) d0 0 0 [.ref (ad c), .ref ve] M (fun v M' => v = some (.int (xB (V c))) ∧ M' = M)) (hb1 : xn ≤ b) (hb2 : b < M.1) (h_b : M.2 b = (.inr (5, [.ref p, lv9, wv]))) (hp1 : xn ≤ p) (hp2 : p < M.1) (hp : xLs P M p (chl.map ad)) : XC G Y5_5 (some .boolean) (d0 + 1) 0 0 [.ref b, .ref ve] M (fun v M' => v = some (.int (xB (∃ c ∈ chl, V c))) ∧ M' = M) := by
  refine xc_of hg (by decide) (Nat.le_of_ble_eq_true rfl) (Or.inr (Or.inl ⟨rfl, rfl, fun v M' h => ⟨_, h.1, xB_01 _⟩⟩)) ?_
  refine xj_iconst (v := 0) d5_5_0 (by decide) ?_
  refine xj_istore_n (i := 2) (L' := [(2, .int 0), (0, .ref b), (1, .ref ve)]) d5_5_1 rfl (by decide) rfl ?_
  exact mbGL hg hxn hd0 h1_ve h2_ve h1_tx h2_tx h_ve h_tx htl hA hch hIH hb1 hb2 h_b hp1 hp2 hp (Nat.le_refl _) (Nat.le_refl _) (Nat.le_refl _) chl.length 0 (by omega) (fun i c hi => absurd hi (by omega))
theorem kMay {G : xG} (hg : xGood G) (hxn : xn = 16) {M : xM} {ow rk ad : Nat → Nat} {μ : Nat → xMu} {A : List xNode} {lo : Nat → Nat} (hA : cA M ow rk ad (sLr A) μ A) (hO : ∀ (i : Nat) (q : xNode), A[i]? = some q → pOk A lo i q) {ve tx tl : Nat} {ft : Nat → Int32} {lv : Value} (h1_ve : xn ≤ ve) (h2_ve : ve < M.1) (h1_tx : xn ≤ tx) (h2_tx : tx < M.1) (h_ve : M.2 ve = (.inr (3, [.ref tx, lv]))) (h_tx : M.2 tx = (.inl (1, tl, .inl ft))) (htl : tl ≤ 40) : ∀ (i : Nat) (q : xNode), A[i]? = some q → XC G (yV_mayBeIn q.1) (some .boolean) (3 * i + 5) 0 0 [.ref (ad i), .ref ve] M (fun v M' => v = some (.int (xB (vY A (vAl (vHas ft tl)) i))) ∧ M' = M) := by
  intro i
  induction i using Nat.strongRecOn with
  | ind i ih =>
    intro q hq
    obtain ⟨h1, h2, h3, h4, h5, h6, h7⟩ := hO i q hq
    have hiv := pIv_le h1
    have hN := hA i q hq
    have hi : i < A.length := (List.getElem?_eq_some_iff.mp hq).1
    have hch : ∀ c ∈ q.2.2.1, c < A.length ∧ c < i := fun c hc => by
      have := (hiv.2 c hc).2.1
      omega
    have hkd : ∀ c ∈ q.2.2.1, 1 ≤ (pNd A c).1 ∧ (pNd A c).1 ≤ 6 := fun c hc => (hO c _ (xnd_at (hch c hc).1)).2.1
    have hIH : ∀ c ∈ q.2.2.1, XC G (yV_mayBeIn (pNd A c).1) (some .boolean) (3 * i + 3) 0 0 [.ref (ad c), .ref ve] M (fun v M' => v = some (.int (xB (vY A (vAl (vHas ft tl)) c))) ∧ M' = M) := fun c hc => xc_wk (ih c (hch c hc).2 _ (xnd_at (hch c hc).1)) (by have := (hch c hc).2; omega) (Nat.le_refl _) (Nat.le_refl _) (fun v M' h => h)
    have hpc : ∀ c ∈ (sLr A i).2.2.1, c < A.length ∧ 1 ≤ (pNd A c).1 ∧ (pNd A c).1 ≤ 6 ∧ ¬ (pNd A c).1 = 5 := fun c hc => by
      obtain ⟨z1, z2⟩ := sLr_p hO hq hc
      exact ⟨(hch c z1).1, (hkd c z1).1, (hkd c z1).2, h7 z2 c z1⟩
    have hpi := fun c (hc : c ∈ (sLr A i).2.2.1) => hIH c (sLr_p hO hq hc).1
    have hkk : q.1 = 1 ∨ (q.1 = 2 ∨ q.1 = 3) ∨ q.1 = 4 ∨ q.1 = 5 ∨ q.1 = 6 := by omega
    obtain ⟨wv, hv, ⟨a1, a2, a3, a4⟩, k1, k2, k4, k5, k6⟩ := hN
    rw [xB_cg (vY_iff hq)]
    rcases hkk with z | z | z | z | z
    · rw [show yV_mayBeIn q.1 = Y4_7 by unfold yV_mayBeIn; rw [if_pos z]]
      obtain ⟨y, e1, -⟩ := k1 z
      rcases hv with ⟨v1, v2⟩ | ⟨S, wa, v1, v2, v3⟩
      · rw [v2] at e1
        rw [xB_t (show vQ (vAl (vHas ft tl)) (vY A (vAl (vHas ft tl))) (sLr A i) q from Or.inl ⟨z, fun S hS => absurd (v1.symm.trans hS) (by simp)⟩)]
        exact xc_wk (mbS0 hg hxn h1_ve h2_ve h1_tx h2_tx h_ve h_tx htl a1 a2 e1) (by omega) (Nat.le_refl _) (Nat.le_refl _) (fun v M' h => h)
      · rw [v2] at e1
        rw [xB_cg (show vQ (vAl (vHas ft tl)) (vY A (vAl (vHas ft tl))) (sLr A i) q ↔ vAl (vHas ft tl) S from ⟨fun h => by
          rcases h with ⟨-, h⟩ | h | ⟨h, -⟩ | ⟨h, -⟩
          · exact h S v1
          · omega
          · omega
          · omega, fun h => Or.inl ⟨z, fun T hT => by rw [v1] at hT; cases hT; exact h⟩⟩)]
        exact xc_wk (mbS1 hg hxn h1_ve h2_ve h1_tx h2_tx h_ve h_tx htl v3 a1 a2 e1) (by omega) (Nat.le_refl _) (Nat.le_refl _) (fun v M' h => h)
    · rw [show yV_mayBeIn q.1 = Y2_4 by unfold yV_mayBeIn; rw [if_neg (by omega), if_pos (by omega)], xB_t (show vQ (vAl (vHas ft tl)) (vY A (vAl (vHas ft tl))) (sLr A i) q from Or.inr (Or.inl z))]
      exact xc_wk (mbA hg rfl (by omega)) (by omega) (Nat.le_refl _) (Nat.le_refl _) (fun v M' h => h)
    · rw [show yV_mayBeIn q.1 = Y9_4 by unfold yV_mayBeIn; rw [if_neg (by omega), if_neg (by omega), if_pos z]]
      obtain ⟨e, nd, cv, -, e2, e3, -⟩ := k4 z
      rw [xB_cg (show vQ (vAl (vHas ft tl)) (vY A (vAl (vHas ft tl))) (sLr A i) q ↔ vNd (vAl (vHas ft tl)) (vY A (vAl (vHas ft tl))) (sLr A i).2 from ⟨fun h => by
        rcases h with ⟨h, -⟩ | h | ⟨-, h⟩ | ⟨h, -⟩
        · omega
        · omega
        · exact h
        · omega, fun h => Or.inr (Or.inr (Or.inl ⟨Or.inl z, h⟩))⟩)]
      exact mbR hg hxn (by omega) h1_ve h2_ve h1_tx h2_tx h_ve h_tx htl hA hpc hpi e3 a1 a2 e2
    · rw [show yV_mayBeIn q.1 = Y3_8 by unfold yV_mayBeIn; rw [if_neg (by omega), if_neg (by omega), if_neg (by omega), if_pos z]]
      obtain ⟨p, nd, e1, -, e3⟩ := k5 z
      rw [xB_cg (show vQ (vAl (vHas ft tl)) (vY A (vAl (vHas ft tl))) (sLr A i) q ↔ vNd (vAl (vHas ft tl)) (vY A (vAl (vHas ft tl))) (sLr A i).2 from ⟨fun h => by
        rcases h with ⟨h, -⟩ | h | ⟨-, h⟩ | ⟨h, -⟩
        · omega
        · omega
        · exact h
        · omega, fun h => Or.inr (Or.inr (Or.inl ⟨Or.inr z, h⟩))⟩)]
      exact mbB (ls := 0) (ms := 0) (ck := 0) (ll := 0) (cv := .null) hg hxn (by omega) h1_ve h2_ve h1_tx h2_tx h_ve h_tx htl hA hpc hpi e3 a1 a2 e1
    · rw [show yV_mayBeIn q.1 = Y5_5 by unfold yV_mayBeIn; rw [if_neg (by omega), if_neg (by omega), if_neg (by omega), if_neg (by omega)]]
      obtain ⟨bl, lv', e1, ⟨p1, p2, p3, p4⟩, p5⟩ := k6 z
      rw [xB_cg (show vQ (vAl (vHas ft tl)) (vY A (vAl (vHas ft tl))) (sLr A i) q ↔ ∃ c ∈ q.2.2.1, vY A (vAl (vHas ft tl)) c from ⟨fun h => by
        rcases h with ⟨h, -⟩ | h | ⟨h, -⟩ | ⟨-, h⟩
        · omega
        · omega
        · omega
        · exact h, fun h => Or.inr (Or.inr (Or.inr ⟨z, h⟩))⟩)]
      exact xc_wk (mbG hg hxn (by omega) h1_ve h2_ve h1_tx h2_tx h_ve h_tx htl hA (fun c hc => ⟨(hch c hc).1, h6 z c hc⟩) hIH a1 a2 e1 p1 p2 p5) (by omega) (Nat.le_refl _) (Nat.le_refl _) (fun v M' h => h)

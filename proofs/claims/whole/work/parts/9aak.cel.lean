set_option maxRecDepth 20000 in
theorem entBL {G : xG} (hg : xGood G) (hxn : xn = 16) {tx tl s e len : Nat} {ft : Nat → Int32} {ln : Nat → Nat} (h1_tx : xn ≤ tx) (htl : tl ≤ 40) (hse : s + len = e) (hel : e ≤ tl) (hln : ∀ k, k < len → ln k < 95 ∧ ft (s + k) = nI (ln k + 32)) {r0 r1 : Nat} {ow rk ad : Nat → Nat} {A : List xNode} {lo : Nat → Nat} (hO : ∀ (i : Nat) (q : xNode), A[i]? = some q → pOk A lo i q) (htr : tx < r0 ∨ r1 ≤ tx) {i : Nat} {q : xNode} (hq : A[i]? = some q) {d0 X : Nat} (hk : q.1 = 5) (hXe : ad i = X) (hd0 : 3 ≤ d0) (hch : ∀ c ∈ q.2.2.1, c < A.length ∧ 1 ≤ (pNd A c).1 ∧ (pNd A c).1 ≤ 6 ∧ ¬ (pNd A c).1 = 5) (hIH : ∀ c ∈ q.2.2.1, ∀ (M : xM) (μ : Nat → xMu), kS r0 r1 ow rk ad A M μ → tx < M.1 → M.2 tx = (.inl (1, tl, .inl ft)) → XC G (yV_enterLine (pNd A c).1) none d0 0 0 [.ref (ad c), .ref tx, .int (nI s), .int (nI e)] M (fun v M' => v = none ∧ ∃ μ', kS r0 r1 ow rk ad A M' μ' ∧ kF r0 r1 M M' ∧ kEn len ln A μ μ' (lo c) (c + 1))) {M0 : xM} {μ0 : Nat → xMu} {d ce se cells slots : Nat} (hd : d0 + 1 ≤ d) (hcc : cells ≤ ce) (hss : slots ≤ se) : ∀ (rest dn : List Nat) {m : Nat} (M : xM) (μ : Nat → xMu), q.2.2.1 = dn ++ rest → pIv lo m rest i → kS r0 r1 ow rk ad A M μ → tx < M.1 → M.2 tx = (.inl (1, tl, .inl ft)) → kF r0 r1 M0 M → kEn len ln A μ0 μ (lo i) m → XJ G Y3_9 d ce se cells slots 3 [(4, .int (nI dn.length)), (0, .ref X), (1, .ref tx), (2, .int (nI s)), (3, .int (nI e))] [] M (fun v M' => v = none ∧ ∃ μ', kS r0 r1 ow rk ad A M' μ' ∧ kF r0 r1 M0 M' ∧ kEn len ln A μ0 μ' (lo i) (i + 1)) := by
  intro rest
  induction rest with
  | nil =>
    intro dn m M μ hsp hiv hS h2_tx h_tx hF hE
    have hlen : q.2.2.1.length = dn.length := by rw [hsp, List.append_nil]
    have hmi : m = i := hiv
    obtain ⟨x1, x2, x3', x4⟩ := kS_at hxn hS hq
    have hN := hS.2.2.2 i q hq
    obtain ⟨wv, -, -, -, -, -, k5, k6⟩ := id hN
    obtain ⟨p, nd, h_X, ⟨⟨p1, p2, -, -⟩, p5'⟩, -⟩ := k5 hk
    clear k5 k6
    have p2' : p < r1 := p2
    have p5 : xLs (fun x => ow x = p) M p (q.2.2.1.map ad) := xLs_mv p5' hS.1.2 rfl (fun x hx _ => ⟨hx, rfl⟩)
    obtain ⟨el_p, mo_p, h_p, hl9⟩ := xLs_len p5
    rw [List.length_map] at h_p hl9
    rw [hXe] at x1 x2 x4 h_X
    refine xj_iload (i := 4) d3_9_3 rfl ?_
    refine xj_aload_n (i := 0) d3_9_5 rfl rfl ?_
    refine xj_get d3_9_6 f3_10_6 h_X (by omega) (show X < M.1 by omega) rfl ?_
    refine xj_callV (rest := [.int (nI dn.length)]) (As := []) (b := p) (cSize hg (M := M) (n := M.1) (a := p) (el := el_p) (sz := nI q.2.2.1.length) (mo := mo_p) rfl (by omega) (by omega) (by omega) h_p) d3_9_9 wd28_8 h_p (by omega) (show p < M.1 by omega) rfl w230 w229 (Or.inl w478) rfl rfl (Nat.le_of_ble_eq_true rfl) (by omega) (by omega) (by omega) ?_
    rintro v M' ⟨rfl, hm⟩
    subst M'
    refine xj_icmp_ge (tgt := 39) d3_9_12 rfl (fun _ => ?_) (fun h => absurd (nI_le (a := q.2.2.1.length) (b := dn.length) (by omega) (by omega)) h)
    refine xj_ret d3_9_39 hcc hss rfl ⟨rfl, μ, hS, hF, fun c p hp z9 => ?_⟩
    by_cases e9 : c = i
    · subst e9
      rw [hq] at hp
      cases hp
      exact ⟨fun w => by omega, fun w => by omega, fun w => by omega, fun w => by omega⟩
    · exact hE c p hp (z9.imp_right (fun w => by omega))
  | cons c rest ih =>
    intro dn m M μ hsp hiv hS h2_tx h_tx hF hE
    obtain ⟨x1, x2, x3', x4⟩ := kS_at hxn hS hq
    have hN := hS.2.2.2 i q hq
    obtain ⟨wv, -, -, -, -, -, k5, k6⟩ := id hN
    obtain ⟨p, nd, h_X, ⟨⟨p1, p2, -, -⟩, p5'⟩, -⟩ := k5 hk
    clear k5 k6
    have p2' : p < r1 := p2
    have p5 : xLs (fun x => ow x = p) M p (q.2.2.1.map ad) := xLs_mv p5' hS.1.2 rfl (fun x hx _ => ⟨hx, rfl⟩)
    obtain ⟨el_p, mo_p, h_p, hl9⟩ := xLs_len p5
    rw [List.length_map] at h_p hl9
    rw [hXe] at x1 x2 x4 h_X
    have hcm : c ∈ q.2.2.1 := by rw [hsp]; simp
    have hlen : q.2.2.1.length = dn.length + (rest.length + 1) := by rw [hsp, List.length_append, List.length_cons]
    obtain ⟨hcA, hk1, hk6, hk5⟩ := hch c hcm
    have hX9 := hIH c hcm M μ hS h2_tx h_tx
    have hNe := cN_mv (M' := M) (hS.2.2.2 c _ (xnd_at hcA)) hS.1.2 (fun _ _ => rfl) (fun _ _ _ _ => rfl) (fun _ _ _ => rfl)
    obtain ⟨y, hy⟩ : ∃ y, ad c = y := ⟨_, rfl⟩
    rw [hy] at hNe hX9
    have hgl : (q.2.2.1.map ad)[dn.length]? = some y := by
      rw [hsp, List.map_append, List.getElem?_append_right (by rw [List.length_map]; exact Nat.le_refl _), List.length_map, Nat.sub_self, ← hy]
      rfl
    obtain ⟨x1y, x2y, bc_y, bf_y, bC_y, bT_y, bN_y, x3, hc_y, hA_y, x6, x7, hP_y⟩ := cN_ob hNe hk1 hk6
    replace hP_y := hP_y hk5
    refine xj_iload (i := 4) d3_9_3 rfl ?_
    refine xj_aload_n (i := 0) d3_9_5 rfl rfl ?_
    refine xj_get d3_9_6 f3_10_6 h_X (by omega) (show X < M.1 by omega) rfl ?_
    refine xj_callV (rest := [.int (nI dn.length)]) (As := []) (b := p) (cSize hg (M := M) (n := M.1) (a := p) (el := el_p) (sz := nI q.2.2.1.length) (mo := mo_p) rfl (by omega) (by omega) (by omega) h_p) d3_9_9 wd28_8 h_p (by omega) (show p < M.1 by omega) rfl w230 w229 (Or.inl w478) rfl rfl (Nat.le_of_ble_eq_true rfl) (by omega) (by omega) (by omega) ?_
    rintro v M' ⟨rfl, hm⟩
    subst M'
    refine xj_icmp_ge (tgt := 39) d3_9_12 rfl (fun h => absurd h (nI_ge (a := dn.length) (b := q.2.2.1.length) (by omega) (by omega))) (fun _ => ?_)
    refine xj_aload_n (i := 0) d3_9_15 rfl rfl ?_
    refine xj_get d3_9_16 f3_10_6 h_X (by omega) (show X < M.1 by omega) rfl ?_
    refine xj_iload (i := 4) d3_9_19 rfl ?_
    refine xj_callV (rest := []) (As := [.int (nI dn.length)]) (b := p) (xLs_get (k := dn.length) (b := y) hg p5 (by omega) (by omega) hgl) d3_9_21 wd28_20 h_p (by omega) (show p < M.1 by omega) rfl w248 w247 (Or.inl w479) rfl rfl (Nat.le_of_ble_eq_true rfl) (by omega) (by omega) (by omega) ?_
    rintro v M' ⟨rfl, hm0⟩
    subst M'
    refine xj_cast d3_9_24 w487 x3 (by omega) (show y < M.1 by omega) hc_y hP_y ?_
    refine xj_aload_n (i := 1) d3_9_27 rfl rfl ?_
    refine xj_iload_n (i := 2) d3_9_28 rfl rfl ?_
    refine xj_iload_n (i := 3) d3_9_29 rfl rfl ?_
    refine xj_v_enterLine (rest := []) (As := [.ref tx, .int (nI s), .int (nI e)]) hNe hk1 hk6 hk5 hX9 d3_9_30 w889 rfl rfl (Nat.le_of_ble_eq_true rfl) (by omega) (by omega) (by omega) ?_
    rintro v M5 ⟨rfl, μ5, hS5, hF5, hE5⟩
    refine xj_iinc (v := nI (dn.length + 1)) (L' := [(4, .int (nI (dn.length + 1))), (0, .ref X), (1, .ref tx), (2, .int (nI s)), (3, .int (nI e))]) d3_9_33 rfl (xinc _) (by decide) rfl ?_
    refine xj_goto (tgt := 3) d3_9_36 rfl ?_
    have h9 := ih (dn ++ [c]) M5 μ5 (by rw [hsp]; simp) hiv.2.2 hS5 (by rw [hF5.1]; exact h2_tx) ((hF5.2 tx htr).trans h_tx) (kF_t hF hF5) (kEn_t hE (by rw [hiv.1] at hE5; exact hE5))
    rw [List.length_append, List.length_singleton] at h9
    exact h9
set_option maxRecDepth 20000 in
theorem entB {G : xG} (hg : xGood G) (hxn : xn = 16) {tx tl s e len : Nat} {ft : Nat → Int32} {ln : Nat → Nat} (h1_tx : xn ≤ tx) (htl : tl ≤ 40) (hse : s + len = e) (hel : e ≤ tl) (hln : ∀ k, k < len → ln k < 95 ∧ ft (s + k) = nI (ln k + 32)) {r0 r1 : Nat} {ow rk ad : Nat → Nat} {A : List xNode} {lo : Nat → Nat} (hO : ∀ (i : Nat) (q : xNode), A[i]? = some q → pOk A lo i q) (htr : tx < r0 ∨ r1 ≤ tx) {i : Nat} {q : xNode} (hq : A[i]? = some q) {M : xM} {μ : Nat → xMu} (hS : kS r0 r1 ow rk ad A M μ) (h2_tx : tx < M.1) (h_tx : M.2 tx = (.inl (1, tl, .inl ft))) {d0 : Nat} (hk : q.1 = 5) (hd0 : 3 ≤ d0) (hch : ∀ c ∈ q.2.2.1, c < A.length ∧ 1 ≤ (pNd A c).1 ∧ (pNd A c).1 ≤ 6 ∧ ¬ (pNd A c).1 = 5) (hIH : ∀ c ∈ q.2.2.1, ∀ (M : xM) (μ : Nat → xMu), kS r0 r1 ow rk ad A M μ → tx < M.1 → M.2 tx = (.inl (1, tl, .inl ft)) → XC G (yV_enterLine (pNd A c).1) none d0 0 0 [.ref (ad c), .ref tx, .int (nI s), .int (nI e)] M (fun v M' => v = none ∧ ∃ μ', kS r0 r1 ow rk ad A M' μ' ∧ kF r0 r1 M M' ∧ kEn len ln A μ μ' (lo c) (c + 1))) : XC G Y3_9 none (d0 + 1) 0 0 [.ref (ad i), .ref tx, .int (nI s), .int (nI e)] M (fun v M' => v = none ∧ ∃ μ', kS r0 r1 ow rk ad A M' μ' ∧ kF r0 r1 M M' ∧ kEn len ln A μ μ' (lo i) (i + 1)) := by
  obtain ⟨h1, -⟩ := hO i q hq
  obtain ⟨X, hXe⟩ : ∃ X, ad i = X := ⟨_, rfl⟩
  rw [hXe]
  refine xc_of hg (by decide) (Nat.le_of_ble_eq_true rfl) (Or.inr (Or.inr (Or.inr (Or.inr (Or.inl ⟨rfl, rfl, fun v M' h => h.1⟩))))) ?_
  refine xj_iconst (v := 0) d3_9_0 (by decide) ?_
  refine xj_istore (i := 4) (L' := [(4, .int 0), (0, .ref X), (1, .ref tx), (2, .int (nI s)), (3, .int (nI e))]) d3_9_1 (by decide) rfl ?_
  exact entBL hg hxn h1_tx htl hse hel hln hO htr hq hk hXe hd0 hch hIH (Nat.le_refl _) (Nat.le_refl _) (Nat.le_refl _) q.2.2.1 [] M μ rfl h1 hS h2_tx h_tx kF_r kEn_r
set_option maxRecDepth 20000 in
theorem entGL {G : xG} (hg : xGood G) (hxn : xn = 16) {tx tl s e len : Nat} {ft : Nat → Int32} {ln : Nat → Nat} (h1_tx : xn ≤ tx) (htl : tl ≤ 40) (hse : s + len = e) (hel : e ≤ tl) (hln : ∀ k, k < len → ln k < 95 ∧ ft (s + k) = nI (ln k + 32)) {r0 r1 : Nat} {ow rk ad : Nat → Nat} {A : List xNode} {lo : Nat → Nat} (hO : ∀ (i : Nat) (q : xNode), A[i]? = some q → pOk A lo i q) (htr : tx < r0 ∨ r1 ≤ tx) {i : Nat} {q : xNode} (hq : A[i]? = some q) {d0 X : Nat} (hk : q.1 = 6) (hXe : ad i = X) (hd0 : 3 ≤ d0) (hch : ∀ c ∈ q.2.2.1, c < A.length ∧ 1 ≤ (pNd A c).1 ∧ (pNd A c).1 ≤ 6 ∧ (pNd A c).1 = 5) (hIH : ∀ c ∈ q.2.2.1, ∀ (M : xM) (μ : Nat → xMu), kS r0 r1 ow rk ad A M μ → tx < M.1 → M.2 tx = (.inl (1, tl, .inl ft)) → XC G (yV_enterLine (pNd A c).1) none d0 0 0 [.ref (ad c), .ref tx, .int (nI s), .int (nI e)] M (fun v M' => v = none ∧ ∃ μ', kS r0 r1 ow rk ad A M' μ' ∧ kF r0 r1 M M' ∧ kEn len ln A μ μ' (lo c) (c + 1))) {M0 : xM} {μ0 : Nat → xMu} {d ce se cells slots : Nat} (hd : d0 + 1 ≤ d) (hcc : cells ≤ ce) (hss : slots ≤ se) : ∀ (rest dn : List Nat) {m : Nat} (M : xM) (μ : Nat → xMu), q.2.2.1 = dn ++ rest → pIv lo m rest i → kS r0 r1 ow rk ad A M μ → tx < M.1 → M.2 tx = (.inl (1, tl, .inl ft)) → kF r0 r1 M0 M → kEn len ln A μ0 μ (lo i) m → XJ G Y5_6 d ce se cells slots 3 [(4, .int (nI dn.length)), (0, .ref X), (1, .ref tx), (2, .int (nI s)), (3, .int (nI e))] [] M (fun v M' => v = none ∧ ∃ μ', kS r0 r1 ow rk ad A M' μ' ∧ kF r0 r1 M0 M' ∧ kEn len ln A μ0 μ' (lo i) (i + 1)) := by
  intro rest
  induction rest with
  | nil =>
    intro dn m M μ hsp hiv hS h2_tx h_tx hF hE
    have hlen : q.2.2.1.length = dn.length := by rw [hsp, List.append_nil]
    have hmi : m = i := hiv
    obtain ⟨x1, x2, x3', x4⟩ := kS_at hxn hS hq
    have hN := hS.2.2.2 i q hq
    obtain ⟨wv, -, -, -, -, -, k5, k6⟩ := id hN
    obtain ⟨p, lv, h_X, ⟨⟨p1, p2, -, -⟩, p5'⟩⟩ := k6 hk
    clear k5 k6
    have p2' : p < r1 := p2
    have p5 : xLs (fun x => ow x = p) M p (q.2.2.1.map ad) := xLs_mv p5' hS.1.2 rfl (fun x hx _ => ⟨hx, rfl⟩)
    obtain ⟨el_p, mo_p, h_p, hl9⟩ := xLs_len p5
    rw [List.length_map] at h_p hl9
    rw [hXe] at x1 x2 x4 h_X
    refine xj_iload (i := 4) d5_6_3 rfl ?_
    refine xj_aload_n (i := 0) d5_6_5 rfl rfl ?_
    refine xj_get d5_6_6 f5_10_5 h_X (by omega) (show X < M.1 by omega) rfl ?_
    refine xj_callV (rest := [.int (nI dn.length)]) (As := []) (b := p) (cSize hg (M := M) (n := M.1) (a := p) (el := el_p) (sz := nI q.2.2.1.length) (mo := mo_p) rfl (by omega) (by omega) (by omega) h_p) d5_6_9 wd28_8 h_p (by omega) (show p < M.1 by omega) rfl w230 w229 (Or.inl w714) rfl rfl (Nat.le_of_ble_eq_true rfl) (by omega) (by omega) (by omega) ?_
    rintro v M' ⟨rfl, hm⟩
    subst M'
    refine xj_icmp_ge (tgt := 39) d5_6_12 rfl (fun _ => ?_) (fun h => absurd (nI_le (a := q.2.2.1.length) (b := dn.length) (by omega) (by omega)) h)
    refine xj_ret d5_6_39 hcc hss rfl ⟨rfl, μ, hS, hF, fun c p hp z9 => ?_⟩
    by_cases e9 : c = i
    · subst e9
      rw [hq] at hp
      cases hp
      exact ⟨fun w => by omega, fun w => by omega, fun w => by omega, fun w => by omega⟩
    · exact hE c p hp (z9.imp_right (fun w => by omega))
  | cons c rest ih =>
    intro dn m M μ hsp hiv hS h2_tx h_tx hF hE
    obtain ⟨x1, x2, x3', x4⟩ := kS_at hxn hS hq
    have hN := hS.2.2.2 i q hq
    obtain ⟨wv, -, -, -, -, -, k5, k6⟩ := id hN
    obtain ⟨p, lv, h_X, ⟨⟨p1, p2, -, -⟩, p5'⟩⟩ := k6 hk
    clear k5 k6
    have p2' : p < r1 := p2
    have p5 : xLs (fun x => ow x = p) M p (q.2.2.1.map ad) := xLs_mv p5' hS.1.2 rfl (fun x hx _ => ⟨hx, rfl⟩)
    obtain ⟨el_p, mo_p, h_p, hl9⟩ := xLs_len p5
    rw [List.length_map] at h_p hl9
    rw [hXe] at x1 x2 x4 h_X
    have hcm : c ∈ q.2.2.1 := by rw [hsp]; simp
    have hlen : q.2.2.1.length = dn.length + (rest.length + 1) := by rw [hsp, List.length_append, List.length_cons]
    obtain ⟨hcA, hk1, hk6, hk5⟩ := hch c hcm
    have hX9 := hIH c hcm M μ hS h2_tx h_tx
    have hNe := cN_mv (M' := M) (hS.2.2.2 c _ (xnd_at hcA)) hS.1.2 (fun _ _ => rfl) (fun _ _ _ _ => rfl) (fun _ _ _ => rfl)
    obtain ⟨y, hy⟩ : ∃ y, ad c = y := ⟨_, rfl⟩
    rw [hy] at hNe hX9
    have hgl : (q.2.2.1.map ad)[dn.length]? = some y := by
      rw [hsp, List.map_append, List.getElem?_append_right (by rw [List.length_map]; exact Nat.le_refl _), List.length_map, Nat.sub_self, ← hy]
      rfl
    obtain ⟨wv9, -, ⟨x1y, x2y, -, -⟩, -, -, -, k59, -⟩ := hNe
    obtain ⟨p9, nd9, x3, -⟩ := k59 hk5
    clear k59
    rw [show yV_enterLine (pNd A c).1 = Y3_9 by unfold yV_enterLine; rw [hk5]; rfl] at hX9
    refine xj_iload (i := 4) d5_6_3 rfl ?_
    refine xj_aload_n (i := 0) d5_6_5 rfl rfl ?_
    refine xj_get d5_6_6 f5_10_5 h_X (by omega) (show X < M.1 by omega) rfl ?_
    refine xj_callV (rest := [.int (nI dn.length)]) (As := []) (b := p) (cSize hg (M := M) (n := M.1) (a := p) (el := el_p) (sz := nI q.2.2.1.length) (mo := mo_p) rfl (by omega) (by omega) (by omega) h_p) d5_6_9 wd28_8 h_p (by omega) (show p < M.1 by omega) rfl w230 w229 (Or.inl w714) rfl rfl (Nat.le_of_ble_eq_true rfl) (by omega) (by omega) (by omega) ?_
    rintro v M' ⟨rfl, hm⟩
    subst M'
    refine xj_icmp_ge (tgt := 39) d5_6_12 rfl (fun h => absurd h (nI_ge (a := dn.length) (b := q.2.2.1.length) (by omega) (by omega))) (fun _ => ?_)
    refine xj_aload_n (i := 0) d5_6_15 rfl rfl ?_
    refine xj_get d5_6_16 f5_10_5 h_X (by omega) (show X < M.1 by omega) rfl ?_
    refine xj_iload (i := 4) d5_6_19 rfl ?_
    refine xj_callV (rest := []) (As := [.int (nI dn.length)]) (b := p) (xLs_get (k := dn.length) (b := y) hg p5 (by omega) (by omega) hgl) d5_6_21 wd28_20 h_p (by omega) (show p < M.1 by omega) rfl w248 w247 (Or.inl w715) rfl rfl (Nat.le_of_ble_eq_true rfl) (by omega) (by omega) (by omega) ?_
    rintro v M' ⟨rfl, hm0⟩
    subst M'
    refine xj_cast d5_6_24 w325 x3 (by omega) (show y < M.1 by omega) rfl (Or.inl rfl) ?_
    refine xj_aload_n (i := 1) d5_6_27 rfl rfl ?_
    refine xj_iload_n (i := 2) d5_6_28 rfl rfl ?_
    refine xj_iload_n (i := 3) d5_6_29 rfl rfl ?_
    refine xj_callV (rest := []) (As := [.ref tx, .int (nI s), .int (nI e)]) (b := y) hX9 d5_6_30 wd3_9 x3 (by omega) (show y < M.1 by omega) rfl w887 w886 (Or.inl w885) rfl rfl (Nat.le_of_ble_eq_true rfl) (by omega) (by omega) (by omega) ?_
    rintro v M5 ⟨rfl, μ5, hS5, hF5, hE5⟩
    refine xj_iinc (v := nI (dn.length + 1)) (L' := [(4, .int (nI (dn.length + 1))), (0, .ref X), (1, .ref tx), (2, .int (nI s)), (3, .int (nI e))]) d5_6_33 rfl (xinc _) (by decide) rfl ?_
    refine xj_goto (tgt := 3) d5_6_36 rfl ?_
    have h9 := ih (dn ++ [c]) M5 μ5 (by rw [hsp]; simp) hiv.2.2 hS5 (by rw [hF5.1]; exact h2_tx) ((hF5.2 tx htr).trans h_tx) (kF_t hF hF5) (kEn_t hE (by rw [hiv.1] at hE5; exact hE5))
    rw [List.length_append, List.length_singleton] at h9
    exact h9
set_option maxRecDepth 20000 in
theorem entG {G : xG} (hg : xGood G) (hxn : xn = 16) {tx tl s e len : Nat} {ft : Nat → Int32} {ln : Nat → Nat} (h1_tx : xn ≤ tx) (htl : tl ≤ 40) (hse : s + len = e) (hel : e ≤ tl) (hln : ∀ k, k < len → ln k < 95 ∧ ft (s + k) = nI (ln k + 32)) {r0 r1 : Nat} {ow rk ad : Nat → Nat} {A : List xNode} {lo : Nat → Nat} (hO : ∀ (i : Nat) (q : xNode), A[i]? = some q → pOk A lo i q) (htr : tx < r0 ∨ r1 ≤ tx) {i : Nat} {q : xNode} (hq : A[i]? = some q) {M : xM} {μ : Nat → xMu} (hS : kS r0 r1 ow rk ad A M μ) (h2_tx : tx < M.1) (h_tx : M.2 tx = (.inl (1, tl, .inl ft))) {d0 : Nat} (hk : q.1 = 6) (hd0 : 3 ≤ d0) (hch : ∀ c ∈ q.2.2.1, c < A.length ∧ 1 ≤ (pNd A c).1 ∧ (pNd A c).1 ≤ 6 ∧ (pNd A c).1 = 5) (hIH : ∀ c ∈ q.2.2.1, ∀ (M : xM) (μ : Nat → xMu), kS r0 r1 ow rk ad A M μ → tx < M.1 → M.2 tx = (.inl (1, tl, .inl ft)) → XC G (yV_enterLine (pNd A c).1) none d0 0 0 [.ref (ad c), .ref tx, .int (nI s), .int (nI e)] M (fun v M' => v = none ∧ ∃ μ', kS r0 r1 ow rk ad A M' μ' ∧ kF r0 r1 M M' ∧ kEn len ln A μ μ' (lo c) (c + 1))) : XC G Y5_6 none (d0 + 1) 0 0 [.ref (ad i), .ref tx, .int (nI s), .int (nI e)] M (fun v M' => v = none ∧ ∃ μ', kS r0 r1 ow rk ad A M' μ' ∧ kF r0 r1 M M' ∧ kEn len ln A μ μ' (lo i) (i + 1)) := by
  obtain ⟨h1, -⟩ := hO i q hq
  obtain ⟨X, hXe⟩ : ∃ X, ad i = X := ⟨_, rfl⟩
  rw [hXe]
  refine xc_of hg (by decide) (Nat.le_of_ble_eq_true rfl) (Or.inr (Or.inr (Or.inr (Or.inr (Or.inl ⟨rfl, rfl, fun v M' h => h.1⟩))))) ?_
  refine xj_iconst (v := 0) d5_6_0 (by decide) ?_
  refine xj_istore (i := 4) (L' := [(4, .int 0), (0, .ref X), (1, .ref tx), (2, .int (nI s)), (3, .int (nI e))]) d5_6_1 (by decide) rfl ?_
  exact entGL hg hxn h1_tx htl hse hel hln hO htr hq hk hXe hd0 hch hIH (Nat.le_refl _) (Nat.le_refl _) (Nat.le_refl _) q.2.2.1 [] M μ rfl h1 hS h2_tx h_tx kF_r kEn_r
theorem kEnt {G : xG} (hg : xGood G) (hxn : xn = 16) {tx tl s e len : Nat} {ft : Nat → Int32} {ln : Nat → Nat} (h1_tx : xn ≤ tx) (htl : tl ≤ 40) (hse : s + len = e) (hel : e ≤ tl) (hln : ∀ k, k < len → ln k < 95 ∧ ft (s + k) = nI (ln k + 32)) {r0 r1 : Nat} {ow rk ad : Nat → Nat} {A : List xNode} {lo : Nat → Nat} (hO : ∀ (i : Nat) (q : xNode), A[i]? = some q → pOk A lo i q) (htr : tx < r0 ∨ r1 ≤ tx) : ∀ (i : Nat) (q : xNode), A[i]? = some q → ∀ (M : xM) (μ : Nat → xMu), kS r0 r1 ow rk ad A M μ → tx < M.1 → M.2 tx = (.inl (1, tl, .inl ft)) → XC G (yV_enterLine q.1) none (3 * i + 4) 0 0 [.ref (ad i), .ref tx, .int (nI s), .int (nI e)] M (fun v M' => v = none ∧ ∃ μ', kS r0 r1 ow rk ad A M' μ' ∧ kF r0 r1 M M' ∧ kEn len ln A μ μ' (lo i) (i + 1)) := by
  intro i
  induction i using Nat.strongRecOn with
  | ind i ih =>
    intro q hq M μ hS h2_tx h_tx
    obtain ⟨h1, h2, h3, h4, h5, h6, h7⟩ := hO i q hq
    have hiv := pIv_le h1
    have hi : i < A.length := (List.getElem?_eq_some_iff.mp hq).1
    have hch : ∀ c ∈ q.2.2.1, c < A.length ∧ c < i := fun c hc => by
      have := (hiv.2 c hc).2.1
      omega
    have hkd : ∀ c ∈ q.2.2.1, 1 ≤ (pNd A c).1 ∧ (pNd A c).1 ≤ 6 := fun c hc => (hO c _ (xnd_at (hch c hc).1)).2.1
    have hIH : ∀ c ∈ q.2.2.1, ∀ (M : xM) (μ : Nat → xMu), kS r0 r1 ow rk ad A M μ → tx < M.1 → M.2 tx = (.inl (1, tl, .inl ft)) → XC G (yV_enterLine (pNd A c).1) none (3 * i + 3) 0 0 [.ref (ad c), .ref tx, .int (nI s), .int (nI e)] M (fun v M' => v = none ∧ ∃ μ', kS r0 r1 ow rk ad A M' μ' ∧ kF r0 r1 M M' ∧ kEn len ln A μ μ' (lo c) (c + 1)) := fun c hc M μ a b e9 => xc_wk (ih c (hch c hc).2 _ (xnd_at (hch c hc).1) M μ a b e9) (show 3 * c + 4 ≤ 3 * i + 3 by have := (hch c hc).2; omega) (Nat.le_refl _) (Nat.le_refl _) (fun v M' h => h)
    have hkk : q.1 = 1 ∨ q.1 = 2 ∨ q.1 = 3 ∨ q.1 = 4 ∨ q.1 = 5 ∨ q.1 = 6 := by omega
    rcases hkk with z | z | z | z | z | z
    · rw [show yV_enterLine q.1 = Y4_8 by unfold yV_enterLine; rw [if_pos z]]
      exact xc_wk (entS hg hxn h1_tx htl hse hel hln hO htr hq hS h2_tx h_tx z) (by omega) (Nat.le_refl _) (Nat.le_refl _) (fun v M' h => h)
    · rw [show yV_enterLine q.1 = Y2_5 by unfold yV_enterLine; rw [if_neg (by omega), if_pos (by omega)]]
      exact xc_wk (entA2 hg hxn h1_tx htl hse hel hln hO htr hq hS h2_tx h_tx z) (by omega) (Nat.le_refl _) (Nat.le_refl _) (fun v M' h => h)
    · rw [show yV_enterLine q.1 = Y2_5 by unfold yV_enterLine; rw [if_neg (by omega), if_pos (by omega)]]
      exact xc_wk (entA3 hg hxn h1_tx htl hse hel hln hO htr hq hS h2_tx h_tx z) (by omega) (Nat.le_refl _) (Nat.le_refl _) (fun v M' h => h)
    · rw [show yV_enterLine q.1 = Y9_5 by unfold yV_enterLine; rw [if_neg (by omega), if_neg (by omega), if_pos z]]
      exact entR hg hxn h1_tx htl hse hel hln hO htr hq hS h2_tx h_tx z hIH
    · rw [show yV_enterLine q.1 = Y3_9 by unfold yV_enterLine; rw [if_neg (by omega), if_neg (by omega), if_neg (by omega), if_pos z]]
      exact entB hg hxn h1_tx htl hse hel hln hO htr hq hS h2_tx h_tx z (by omega) (fun c hc => ⟨(hch c hc).1, (hkd c hc).1, (hkd c hc).2, h7 (by omega) c hc⟩) hIH
    · rw [show yV_enterLine q.1 = Y5_6 by unfold yV_enterLine; rw [if_neg (by omega), if_neg (by omega), if_neg (by omega), if_neg (by omega)]]
      exact entG hg hxn h1_tx htl hse hel hln hO htr hq hS h2_tx h_tx z (by omega) (fun c hc => ⟨(hch c hc).1, (hkd c hc).1, (hkd c hc).2, h6 z c hc⟩) hIH

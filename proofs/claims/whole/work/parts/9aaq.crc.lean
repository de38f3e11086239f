theorem xlcmp_ne {x : Int64} (h : ¬ lg_cmp x 0 = 0) : ¬ x = 0 := fun q => h ((lcmp_0 x).mpr q)
theorem xlcmp_eq {x : Int64} (h : lg_cmp x 0 = 0) : x = 0 := (lcmp_0 x).mp h
set_option maxRecDepth 20000 in
theorem rcS {G : xG} (hg : xGood G) (hxn : xn = 16) {len : Nat} {ln : Nat → Nat} (hl40 : len ≤ 40) {r0 r1 : Nat} {ow rk ad : Nat → Nat} {A : List xNode} {lo : Nat → Nat} (hO : ∀ (i : Nat) (q : xNode), A[i]? = some q → pOk A lo i q) {i : Nat} {q : xNode} (hq : A[i]? = some q) {M : xM} {μ : Nat → xMu} {x : Int64} (hS : kS r0 r1 ow rk ad A M μ) (hE : (∀ (c : Nat) (p : xNode), A[c]? = some p → eN len ln A (μ c) p)) (hx : bL len x) (hk : q.1 = 1) : XC G Y4_9 (some .long) 0 0 0 [.ref (ad i), .long x] M (fun v M' => ∃ y μ', v = some (.long y) ∧ bS y (rI (rY len ln A i) len x) ∧ kS r0 r1 ow rk ad A M' μ' ∧ kG r0 r1 ow rk i M M' ∧ (∀ (c : Nat) (p : xNode), A[c]? = some p → eN len ln A (μ' c) p) ∧ ∀ c9, i < c9 → μ' c9 = μ c9) := by
  obtain ⟨x1, x2, x3, x4⟩ := kS_at hxn hS hq
  obtain ⟨wv, -, -, k1, k2, -⟩ := hS.2.2.2 i q hq
  obtain ⟨z, h_X, -⟩ := k1 hk
  clear k1 k2
  obtain ⟨X, hX⟩ : ∃ X, ad i = X := ⟨_, rfl⟩
  rw [hX] at x1 x2 x4 h_X ⊢
  have hEi := hE i q hq
  have hYi := fun a b => rY_iff (len := len) (ln := ln) hq a b
  obtain ⟨p0, hp0⟩ : ∃ p0, (μ i).1 = p0 := ⟨_, rfl⟩
  replace h_X : M.2 X = (.inr (10, [.long z.1, .long z.2, .long p0, wv])) := by rw [hp0] at h_X; exact h_X
  have hEp := hEi.1 hk
  rw [hp0] at hEp
  refine xc_of hg (by decide) (Nat.le_of_ble_eq_true rfl) (Or.inr (Or.inr (Or.inr (Or.inl ⟨rfl, rfl, fun v M' h => by obtain ⟨y, _, h, -⟩ := h; exact ⟨y, h⟩⟩)))) ?_
  refine xj_lload_n (i := 1) d4_9_0 rfl rfl ?_
  refine xj_aload_n (i := 0) d4_9_1 rfl rfl ?_
  refine xj_get d4_9_2 f4_51_10 h_X (by omega) (show X < M.1 by omega) rfl ?_
  refine xj_land (v := x &&& p0) d4_9_5 rfl ?_
  refine xj_iconst (v := 1) d4_9_6 (by decide) ?_
  refine xj_lshl (v := (x &&& p0) <<< ((1 : Int32).toInt64 &&& 63)) d4_9_7 rfl ?_
  exact xj_ret d4_9_8 (by omega) (by omega) rfl ⟨_, μ, rfl, (bS_cg (bS_shl (bS_and (bS_s x) hEp)) (fun j hj => ⟨fun ⟨a, a1, a2, a3, a4⟩ => ⟨a, by omega, a2, (hYi a j).mpr (Or.inl ⟨hk, a3, a4, a1⟩)⟩, fun ⟨a, a1, a2, a3⟩ => by rcases (hYi a j).mp a3 with ⟨-, e1, e2, e3⟩ | ⟨e, -⟩ | ⟨e, -⟩ | ⟨e, -⟩ | ⟨e, -⟩ | ⟨e, -⟩ <;> first | exact ⟨a, e3, a2, e1, e2⟩ | omega⟩)), hS, kG_r, hE, fun _ _ => rfl⟩
set_option maxRecDepth 20000 in
theorem rcA2 {G : xG} (hg : xGood G) (hxn : xn = 16) {len : Nat} {ln : Nat → Nat} (hl40 : len ≤ 40) {r0 r1 : Nat} {ow rk ad : Nat → Nat} {A : List xNode} {lo : Nat → Nat} (hO : ∀ (i : Nat) (q : xNode), A[i]? = some q → pOk A lo i q) {i : Nat} {q : xNode} (hq : A[i]? = some q) {M : xM} {μ : Nat → xMu} {x : Int64} (hS : kS r0 r1 ow rk ad A M μ) (hE : (∀ (c : Nat) (p : xNode), A[c]? = some p → eN len ln A (μ c) p)) (hx : bL len x) (hk : q.1 = 2) : XC G Y2_6 (some .long) 0 0 0 [.ref (ad i), .long x] M (fun v M' => ∃ y μ', v = some (.long y) ∧ bS y (rI (rY len ln A i) len x) ∧ kS r0 r1 ow rk ad A M' μ' ∧ kG r0 r1 ow rk i M M' ∧ (∀ (c : Nat) (p : xNode), A[c]? = some p → eN len ln A (μ' c) p) ∧ ∀ c9, i < c9 → μ' c9 = μ c9) := by
  obtain ⟨x1, x2, x3, x4⟩ := kS_at hxn hS hq
  obtain ⟨wv, -, -, k1, k2, -⟩ := hS.2.2.2 i q hq
  have h_X := k2 (by omega)
  clear k1 k2
  obtain ⟨X, hX⟩ : ∃ X, ad i = X := ⟨_, rfl⟩
  rw [hX] at x1 x2 x4 h_X ⊢
  have hEi := hE i q hq
  have hYi := fun a b => rY_iff (len := len) (ln := ln) hq a b
  obtain ⟨p0, hp0⟩ : ∃ p0, (μ i).1 = p0 := ⟨_, rfl⟩
  replace h_X : M.2 X = (.inr (11, [.int (if q.1 = 2 then 1 else 0), .long p0, wv])) := by rw [hp0] at h_X; exact h_X
  have hEp := hEi.2.1 hk
  rw [hp0] at hEp
  refine xc_of hg (by decide) (Nat.le_of_ble_eq_true rfl) (Or.inr (Or.inr (Or.inr (Or.inl ⟨rfl, rfl, fun v M' h => by obtain ⟨y, _, h, -⟩ := h; exact ⟨y, h⟩⟩)))) ?_
  refine xj_lload_n (i := 1) d2_6_0 rfl rfl ?_
  refine xj_aload_n (i := 0) d2_6_1 rfl rfl ?_
  refine xj_get d2_6_2 f2_23_11 h_X (by omega) (show X < M.1 by omega) rfl ?_
  refine xj_land (v := x &&& p0) d2_6_5 rfl ?_
  exact xj_ret d2_6_6 (by omega) (by omega) rfl ⟨_, μ, rfl, (bS_cg (bS_and (bS_s x) hEp) (fun j hj => ⟨fun ⟨a1, a2⟩ => ⟨0, by omega, by rw [← a2]; exact a1, (hYi 0 j).mpr (Or.inr (Or.inl ⟨hk, rfl, a2⟩))⟩, fun ⟨a, a1, a2, a3⟩ => by rcases (hYi a j).mp a3 with ⟨e, -⟩ | ⟨-, e1, e2⟩ | ⟨e, -⟩ | ⟨e, -⟩ | ⟨e, -⟩ | ⟨e, -⟩ <;> first | exact ⟨by rw [e2, ← e1]; exact a2, e2⟩ | omega⟩)), hS, kG_r, hE, fun _ _ => rfl⟩
set_option maxRecDepth 20000 in
theorem rcA3 {G : xG} (hg : xGood G) (hxn : xn = 16) {len : Nat} {ln : Nat → Nat} (hl40 : len ≤ 40) {r0 r1 : Nat} {ow rk ad : Nat → Nat} {A : List xNode} {lo : Nat → Nat} (hO : ∀ (i : Nat) (q : xNode), A[i]? = some q → pOk A lo i q) {i : Nat} {q : xNode} (hq : A[i]? = some q) {M : xM} {μ : Nat → xMu} {x : Int64} (hS : kS r0 r1 ow rk ad A M μ) (hE : (∀ (c : Nat) (p : xNode), A[c]? = some p → eN len ln A (μ c) p)) (hx : bL len x) (hk : q.1 = 3) : XC G Y2_6 (some .long) 0 0 0 [.ref (ad i), .long x] M (fun v M' => ∃ y μ', v = some (.long y) ∧ bS y (rI (rY len ln A i) len x) ∧ kS r0 r1 ow rk ad A M' μ' ∧ kG r0 r1 ow rk i M M' ∧ (∀ (c : Nat) (p : xNode), A[c]? = some p → eN len ln A (μ' c) p) ∧ ∀ c9, i < c9 → μ' c9 = μ c9) := by
  obtain ⟨x1, x2, x3, x4⟩ := kS_at hxn hS hq
  obtain ⟨wv, -, -, k1, k2, -⟩ := hS.2.2.2 i q hq
  have h_X := k2 (by omega)
  clear k1 k2
  obtain ⟨X, hX⟩ : ∃ X, ad i = X := ⟨_, rfl⟩
  rw [hX] at x1 x2 x4 h_X ⊢
  have hEi := hE i q hq
  have hYi := fun a b => rY_iff (len := len) (ln := ln) hq a b
  obtain ⟨p0, hp0⟩ : ∃ p0, (μ i).1 = p0 := ⟨_, rfl⟩
  replace h_X : M.2 X = (.inr (11, [.int (if q.1 = 2 then 1 else 0), .long p0, wv])) := by rw [hp0] at h_X; exact h_X
  have hEp := hEi.2.2.1 hk
  rw [hp0] at hEp
  refine xc_of hg (by decide) (Nat.le_of_ble_eq_true rfl) (Or.inr (Or.inr (Or.inr (Or.inl ⟨rfl, rfl, fun v M' h => by obtain ⟨y, _, h, -⟩ := h; exact ⟨y, h⟩⟩)))) ?_
  refine xj_lload_n (i := 1) d2_6_0 rfl rfl ?_
  refine xj_aload_n (i := 0) d2_6_1 rfl rfl ?_
  refine xj_get d2_6_2 f2_23_11 h_X (by omega) (show X < M.1 by omega) rfl ?_
  refine xj_land (v := x &&& p0) d2_6_5 rfl ?_
  exact xj_ret d2_6_6 (by omega) (by omega) rfl ⟨_, μ, rfl, (bS_cg (bS_and (bS_s x) hEp) (fun j hj => ⟨fun ⟨a1, a2⟩ => ⟨len, Nat.le_refl _, by rw [← a2]; exact a1, (hYi len j).mpr (Or.inr (Or.inr (Or.inl ⟨hk, rfl, a2⟩)))⟩, fun ⟨a, a1, a2, a3⟩ => by rcases (hYi a j).mp a3 with ⟨e, -⟩ | ⟨e, -⟩ | ⟨-, e1, e2⟩ | ⟨e, -⟩ | ⟨e, -⟩ | ⟨e, -⟩ <;> first | exact ⟨by rw [e2, ← e1]; exact a2, e2⟩ | omega⟩)), hS, kG_r, hE, fun _ _ => rfl⟩
set_option maxRecDepth 20000 in
theorem rcBL {G : xG} (hg : xGood G) (hxn : xn = 16) {len : Nat} {ln : Nat → Nat} (hl40 : len ≤ 40) {r0 r1 : Nat} {ow rk ad : Nat → Nat} {A : List xNode} {lo : Nat → Nat} (hO : ∀ (i : Nat) (q : xNode), A[i]? = some q → pOk A lo i q) {i : Nat} {q : xNode} (hq : A[i]? = some q) {d0 X : Nat} {x : Int64} (hx : bL len x) (hk : q.1 = 5) (hXe : ad i = X) (hd0 : 3 ≤ d0) (hch : ∀ c ∈ q.2.2.1, c < A.length ∧ c < i ∧ 1 ≤ (pNd A c).1 ∧ (pNd A c).1 ≤ 6 ∧ ¬ (pNd A c).1 = 5) (hIH : ∀ c ∈ q.2.2.1, ∀ (M : xM) (μ : Nat → xMu) (x : Int64), kS r0 r1 ow rk ad A M μ → (∀ (c : Nat) (p : xNode), A[c]? = some p → eN len ln A (μ c) p) → bL len x → XC G (yV_reach (pNd A c).1) (some .long) d0 0 0 [.ref (ad c), .long x] M (fun v M' => ∃ y μ', v = some (.long y) ∧ bS y (rI (rY len ln A c) len x) ∧ kS r0 r1 ow rk ad A M' μ' ∧ kG r0 r1 ow rk c M M' ∧ (∀ (c : Nat) (p : xNode), A[c]? = some p → eN len ln A (μ' c) p) ∧ ∀ c9, c < c9 → μ' c9 = μ c9)) {M0 : xM} {μ0 : Nat → xMu} {d ce se cells slots : Nat} (hd : d0 + 1 ≤ d) (hcc : cells ≤ ce) (hss : slots ≤ se) : ∀ (rest dn : List Nat) (M : xM) (μ : Nat → xMu) (y : Int64), q.2.2.1 = dn ++ rest → kS r0 r1 ow rk ad A M μ → (∀ (c : Nat) (p : xNode), A[c]? = some p → eN len ln A (μ c) p) → kG r0 r1 ow rk i M0 M → (∀ c, i < c → μ c = μ0 c) → bS y (rI (fun a b => rPa (rY len ln A) dn a b) len x) → XJ G Y3_10 d ce se cells slots 5 [(5, .int (nI dn.length)), (3, .long y), (0, .ref X), (1, .long x)] [] M (fun v M' => ∃ y μ', v = some (.long y) ∧ bS y (rI (rY len ln A i) len x) ∧ kS r0 r1 ow rk ad A M' μ' ∧ kG r0 r1 ow rk i M0 M' ∧ (∀ (c : Nat) (p : xNode), A[c]? = some p → eN len ln A (μ' c) p) ∧ ∀ c9, i < c9 → μ' c9 = μ0 c9) := by
  have hYi := fun a b => rY_iff (len := len) (ln := ln) hq a b
  have hSp : ∀ a b, (rPa (rY len ln A) q.2.2.1 a b ↔ rY len ln A i a b) := fun a b => ⟨fun w => (hYi a b).mpr (Or.inr (Or.inr (Or.inr (Or.inr (Or.inl ⟨hk, w⟩))))), fun w => by rcases (hYi a b).mp w with ⟨e, -⟩ | ⟨e, -⟩ | ⟨e, -⟩ | ⟨e, -⟩ | ⟨-, e⟩ | ⟨e, -⟩ <;> first | exact e | omega⟩
  intro rest
  induction rest with
  | nil =>
    intro dn M μ y hsp hS hE hF hU hB
    have hlen : q.2.2.1.length = dn.length := by rw [hsp, List.append_nil]
    obtain ⟨x1, x2, x3', x4⟩ := kS_at hxn hS hq
    have hN := hS.2.2.2 i q hq
    obtain ⟨wv, -, -, -, -, -, k5, k6⟩ := id hN
    obtain ⟨p, nd, h_X, ⟨⟨p1, p2, -, -⟩, p5'⟩, -⟩ := k5 hk
    clear k5 k6
    have p2' : p < r1 := p2
    have p5 : xLs (fun x => ow x = p) M p (q.2.2.1.map ad) := xLs_mv p5' hS.1.2 rfl (fun x hx _ => ⟨hx, rfl⟩)
    obtain ⟨el_p, mo_p, h_p, hl9⟩ := xLs_len p5
    rw [List.length_map] at h_p hl9
    rw [hXe] at x1 x2 x4 h_X
    refine xj_iload (i := 5) d3_10_5 rfl ?_
    refine xj_aload_n (i := 0) d3_10_7 rfl rfl ?_
    refine xj_get d3_10_8 f3_10_6 h_X (by omega) (show X < M.1 by omega) rfl ?_
    refine xj_callV (rest := [.int (nI dn.length)]) (As := []) (b := p) (cSize hg (M := M) (n := M.1) (a := p) (el := el_p) (sz := nI q.2.2.1.length) (mo := mo_p) rfl (by omega) (by omega) (by omega) h_p) d3_10_11 wd28_8 h_p (by omega) (show p < M.1 by omega) rfl w230 w229 (Or.inl w478) rfl rfl (Nat.le_of_ble_eq_true rfl) (by omega) (by omega) (by omega) ?_
    rintro v M' ⟨rfl, hm⟩
    subst M'
    refine xj_icmp_ge (tgt := 46) d3_10_14 rfl (fun _ => ?_) (fun h => absurd (nI_le (a := q.2.2.1.length) (b := dn.length) (by omega) (by omega)) h)
    refine xj_lload_n (i := 3) d3_10_46 rfl rfl ?_
    have hB7 : bS y (rI (rY len ln A i) len x) := bS_rI hB (fun a b => by rw [← hSp a b, hsp, List.append_nil])
    exact xj_ret d3_10_47 hcc hss rfl ⟨y, μ, rfl, hB7, hS, hF, hE, hU⟩
  | cons c rest ih =>
    intro dn M μ y hsp hS hE hF hU hB
    obtain ⟨x1, x2, x3', x4⟩ := kS_at hxn hS hq
    have hN := hS.2.2.2 i q hq
    obtain ⟨wv, -, -, -, -, -, k5, k6⟩ := id hN
    obtain ⟨p, nd, h_X, ⟨⟨p1, p2, -, -⟩, p5'⟩, -⟩ := k5 hk
    clear k5 k6
    have p2' : p < r1 := p2
    have p5 : xLs (fun x => ow x = p) M p (q.2.2.1.map ad) := xLs_mv p5' hS.1.2 rfl (fun x hx _ => ⟨hx, rfl⟩)
    obtain ⟨el_p, mo_p, h_p, hl9⟩ := xLs_len p5
    rw [List.length_map] at h_p hl9
    rw [hXe] at x1 x2 x4 h_X
    have hPle : ∀ a b, rPa (rY len ln A) dn a b → a ≤ len → a ≤ b ∧ b ≤ len := fun a b z => rPa_le (fun c a b z => rY_le z) z
    have hcm : c ∈ q.2.2.1 := by rw [hsp]; simp
    have hlen : q.2.2.1.length = dn.length + (rest.length + 1) := by rw [hsp, List.length_append, List.length_cons]
    obtain ⟨hcA, hci, hk1, hk6, hk5⟩ := hch c hcm
    have hX9 := hIH c hcm M μ y hS hE (bL_im hPle hB)
    have hNe := cN_mv (M' := M) (hS.2.2.2 c _ (xnd_at hcA)) hS.1.2 (fun _ _ => rfl) (fun _ _ _ _ => rfl) (fun _ _ _ => rfl)
    obtain ⟨y9, hy⟩ : ∃ y, ad c = y := ⟨_, rfl⟩
    rw [hy] at hNe hX9
    have hgl : (q.2.2.1.map ad)[dn.length]? = some y9 := by
      rw [hsp, List.map_append, List.getElem?_append_right (by rw [List.length_map]; exact Nat.le_refl _), List.length_map, Nat.sub_self, ← hy]
      rfl
    obtain ⟨x1y, x2y, bc_y9, bf_y9, bC_y9, bT_y9, bN_y9, x3, hc_y9, hA_y9, x6, x7, hP_y9⟩ := cN_ob hNe hk1 hk6
    replace hP_y9 := hP_y9 hk5
    refine xj_iload (i := 5) d3_10_5 rfl ?_
    refine xj_aload_n (i := 0) d3_10_7 rfl rfl ?_
    refine xj_get d3_10_8 f3_10_6 h_X (by omega) (show X < M.1 by omega) rfl ?_
    refine xj_callV (rest := [.int (nI dn.length)]) (As := []) (b := p) (cSize hg (M := M) (n := M.1) (a := p) (el := el_p) (sz := nI q.2.2.1.length) (mo := mo_p) rfl (by omega) (by omega) (by omega) h_p) d3_10_11 wd28_8 h_p (by omega) (show p < M.1 by omega) rfl w230 w229 (Or.inl w478) rfl rfl (Nat.le_of_ble_eq_true rfl) (by omega) (by omega) (by omega) ?_
    rintro v M' ⟨rfl, hm⟩
    subst M'
    refine xj_icmp_ge (tgt := 46) d3_10_14 rfl (fun h => absurd h (nI_ge (a := dn.length) (b := q.2.2.1.length) (by omega) (by omega))) (fun _ => ?_)
    refine xj_lload_n (i := 3) d3_10_17 rfl rfl ?_
    refine xj_lconst (v := 0) d3_10_18 (by decide) ?_
    refine xj_lcmp (v := lg_cmp y 0) d3_10_19 rfl ?_
    refine xj_if_eq (tgt := 46) d3_10_20 rfl (fun hz9 => ?_) (fun hz9 => ?_)
    · refine xj_lload_n (i := 3) d3_10_46 rfl rfl ?_
      have hy0 : y = 0 := xlcmp_eq hz9
      have hB7 : bS y (rI (rY len ln A i) len x) := bS_rI (bS_im0 (R' := fun m b => rPa (rY len ln A) (c :: rest) m b) hl40 hPle hB hy0) (fun a b => by rw [← hSp a b, hsp]; exact rPa_app.symm)
      exact xj_ret d3_10_47 hcc hss rfl ⟨y, μ, rfl, hB7, hS, hF, hE, hU⟩
    · refine xj_aload_n (i := 0) d3_10_23 rfl rfl ?_
      refine xj_get d3_10_24 f3_10_6 h_X (by omega) (show X < M.1 by omega) rfl ?_
      refine xj_iload (i := 5) d3_10_27 rfl ?_
      refine xj_callV (rest := []) (As := [.int (nI dn.length)]) (b := p) (xLs_get (k := dn.length) (b := y9) hg p5 (by omega) (by omega) hgl) d3_10_29 wd28_20 h_p (by omega) (show p < M.1 by omega) rfl w248 w247 (Or.inl w479) rfl rfl (Nat.le_of_ble_eq_true rfl) (by omega) (by omega) (by omega) ?_
      rintro v M' ⟨rfl, hm0⟩
      subst M'
      refine xj_cast d3_10_32 w487 x3 (by omega) (show y9 < M.1 by omega) hc_y9 hP_y9 ?_
      refine xj_lload_n (i := 3) d3_10_35 rfl rfl ?_
      refine xj_v_reach (rest := []) (As := [.long y]) hNe hk1 hk6 hk5 hX9 d3_10_36 w918 rfl rfl (Nat.le_of_ble_eq_true rfl) (by omega) (by omega) (by omega) ?_
      rintro v M5 ⟨y5, μ5, rfl, hB5, hS5, hF5, hE5, hU5⟩
      refine xj_lstore_n (i := 3) (L' := [(3, .long y5), (5, .int (nI dn.length)), (0, .ref X), (1, .long x)]) d3_10_39 rfl (by decide) rfl ?_
      refine xj_iinc (v := nI (dn.length + 1)) (L' := [(5, .int (nI (dn.length + 1))), (3, .long y5), (0, .ref X), (1, .long x)]) d3_10_40 rfl (xinc _) (by decide) rfl ?_
      refine xj_goto (tgt := 5) d3_10_43 rfl ?_
      refine xj_sub (L' := [(5, .int (nI (dn.length + 1))), (3, .long y5), (0, .ref X), (1, .long x)]) (fun q hq => by simp only [List.mem_cons, List.not_mem_nil, or_false] at hq ⊢; rcases hq with rfl | rfl | rfl | rfl <;> simp) ?_
      have hB6 : bS y5 (rI (fun a b => rPa (rY len ln A) (dn ++ [c]) a b) len x) := bS_cg hB5 (fun j _ => (rI_comp hl40 hPle hB j).trans (rI_cg (fun a b => rPa_snoc.symm) j))
      have h9 := ih (dn ++ [c]) M5 μ5 y5 (by rw [hsp]; simp) hS5 hE5 (kG_t hF (kG_le (by omega) hF5)) (fun c' hc' => (hU5 c' (by omega)).trans (hU c' hc')) hB6
      rw [List.length_append, List.length_singleton] at h9
      exact h9
set_option maxRecDepth 20000 in
theorem rcB {G : xG} (hg : xGood G) (hxn : xn = 16) {len : Nat} {ln : Nat → Nat} (hl40 : len ≤ 40) {r0 r1 : Nat} {ow rk ad : Nat → Nat} {A : List xNode} {lo : Nat → Nat} (hO : ∀ (i : Nat) (q : xNode), A[i]? = some q → pOk A lo i q) {i : Nat} {q : xNode} (hq : A[i]? = some q) {M : xM} {μ : Nat → xMu} {x : Int64} (hS : kS r0 r1 ow rk ad A M μ) (hE : (∀ (c : Nat) (p : xNode), A[c]? = some p → eN len ln A (μ c) p)) (hx : bL len x) {d0 : Nat} (hk : q.1 = 5) (hd0 : 3 ≤ d0) (hch : ∀ c ∈ q.2.2.1, c < A.length ∧ c < i ∧ 1 ≤ (pNd A c).1 ∧ (pNd A c).1 ≤ 6 ∧ ¬ (pNd A c).1 = 5) (hIH : ∀ c ∈ q.2.2.1, ∀ (M : xM) (μ : Nat → xMu) (x : Int64), kS r0 r1 ow rk ad A M μ → (∀ (c : Nat) (p : xNode), A[c]? = some p → eN len ln A (μ c) p) → bL len x → XC G (yV_reach (pNd A c).1) (some .long) d0 0 0 [.ref (ad c), .long x] M (fun v M' => ∃ y μ', v = some (.long y) ∧ bS y (rI (rY len ln A c) len x) ∧ kS r0 r1 ow rk ad A M' μ' ∧ kG r0 r1 ow rk c M M' ∧ (∀ (c : Nat) (p : xNode), A[c]? = some p → eN len ln A (μ' c) p) ∧ ∀ c9, c < c9 → μ' c9 = μ c9)) : XC G Y3_10 (some .long) (d0 + 1) 0 0 [.ref (ad i), .long x] M (fun v M' => ∃ y μ', v = some (.long y) ∧ bS y (rI (rY len ln A i) len x) ∧ kS r0 r1 ow rk ad A M' μ' ∧ kG r0 r1 ow rk i M M' ∧ (∀ (c : Nat) (p : xNode), A[c]? = some p → eN len ln A (μ' c) p) ∧ ∀ c9, i < c9 → μ' c9 = μ c9) := by
  obtain ⟨X, hXe⟩ : ∃ X, ad i = X := ⟨_, rfl⟩
  rw [hXe]
  refine xc_of hg (by decide) (Nat.le_of_ble_eq_true rfl) (Or.inr (Or.inr (Or.inr (Or.inl ⟨rfl, rfl, fun v M' h => by obtain ⟨y, _, h, -⟩ := h; exact ⟨y, h⟩⟩)))) ?_
  refine xj_lload_n (i := 1) d3_10_0 rfl rfl ?_
  refine xj_lstore_n (i := 3) (L' := [(3, .long x), (0, .ref X), (1, .long x)]) d3_10_1 rfl (by decide) rfl ?_
  refine xj_iconst (v := 0) d3_10_2 (by decide) ?_
  refine xj_istore (i := 5) (L' := [(5, .int 0), (3, .long x), (0, .ref X), (1, .long x)]) d3_10_3 (by decide) rfl ?_
  refine xj_sub (L' := [(5, .int 0), (3, .long x), (0, .ref X), (1, .long x)]) (fun q hq => by simp only [List.mem_cons, List.not_mem_nil, or_false] at hq ⊢; rcases hq with rfl | rfl | rfl | rfl <;> simp) ?_
  exact rcBL hg hxn hl40 hO hq hx hk hXe hd0 hch hIH (Nat.le_refl _) (Nat.le_refl _) (Nat.le_refl _) q.2.2.1 [] M μ x rfl hS hE kG_r (fun _ _ => rfl) (bS_cg (bS_s x) (fun j hj => ⟨fun z => ⟨j, hx j hj z, z, rfl⟩, fun ⟨a, _, a2, a3⟩ => by cases a3; exact a2⟩))
set_option maxRecDepth 20000 in
theorem rcGL {G : xG} (hg : xGood G) (hxn : xn = 16) {len : Nat} {ln : Nat → Nat} (hl40 : len ≤ 40) {r0 r1 : Nat} {ow rk ad : Nat → Nat} {A : List xNode} {lo : Nat → Nat} (hO : ∀ (i : Nat) (q : xNode), A[i]? = some q → pOk A lo i q) {i : Nat} {q : xNode} (hq : A[i]? = some q) {d0 X : Nat} {x : Int64} (hx : bL len x) (hk : q.1 = 6) (hXe : ad i = X) (hd0 : 3 ≤ d0) (hch : ∀ c ∈ q.2.2.1, c < A.length ∧ c < i ∧ 1 ≤ (pNd A c).1 ∧ (pNd A c).1 ≤ 6 ∧ (pNd A c).1 = 5) (hIH : ∀ c ∈ q.2.2.1, ∀ (M : xM) (μ : Nat → xMu) (x : Int64), kS r0 r1 ow rk ad A M μ → (∀ (c : Nat) (p : xNode), A[c]? = some p → eN len ln A (μ c) p) → bL len x → XC G (yV_reach (pNd A c).1) (some .long) d0 0 0 [.ref (ad c), .long x] M (fun v M' => ∃ y μ', v = some (.long y) ∧ bS y (rI (rY len ln A c) len x) ∧ kS r0 r1 ow rk ad A M' μ' ∧ kG r0 r1 ow rk c M M' ∧ (∀ (c : Nat) (p : xNode), A[c]? = some p → eN len ln A (μ' c) p) ∧ ∀ c9, c < c9 → μ' c9 = μ c9)) {M0 : xM} {μ0 : Nat → xMu} {d ce se cells slots : Nat} (hd : d0 + 1 ≤ d) (hcc : cells ≤ ce) (hss : slots ≤ se) : ∀ (rest dn : List Nat) (M : xM) (μ : Nat → xMu) (y : Int64), q.2.2.1 = dn ++ rest → kS r0 r1 ow rk ad A M μ → (∀ (c : Nat) (p : xNode), A[c]? = some p → eN len ln A (μ c) p) → kG r0 r1 ow rk i M0 M → (∀ c, i < c → μ c = μ0 c) → bS y (rI (fun a b => ∃ c ∈ dn, rY len ln A c a b) len x) → XJ G Y5_7 d ce se cells slots 5 [(5, .int (nI dn.length)), (3, .long y), (0, .ref X), (1, .long x)] [] M (fun v M' => ∃ y μ', v = some (.long y) ∧ bS y (rI (rY len ln A i) len x) ∧ kS r0 r1 ow rk ad A M' μ' ∧ kG r0 r1 ow rk i M0 M' ∧ (∀ (c : Nat) (p : xNode), A[c]? = some p → eN len ln A (μ' c) p) ∧ ∀ c9, i < c9 → μ' c9 = μ0 c9) := by
  have hYi := fun a b => rY_iff (len := len) (ln := ln) hq a b
  have hSp : ∀ a b, ((∃ c ∈ q.2.2.1, rY len ln A c a b) ↔ rY len ln A i a b) := fun a b => ⟨fun w => (hYi a b).mpr (Or.inr (Or.inr (Or.inr (Or.inr (Or.inr ⟨hk, w⟩))))), fun w => by rcases (hYi a b).mp w with ⟨e, -⟩ | ⟨e, -⟩ | ⟨e, -⟩ | ⟨e, -⟩ | ⟨e, -⟩ | ⟨-, e⟩ <;> first | exact e | omega⟩
  intro rest
  induction rest with
  | nil =>
    intro dn M μ y hsp hS hE hF hU hB
    have hlen : q.2.2.1.length = dn.length := by rw [hsp, List.append_nil]
    obtain ⟨x1, x2, x3', x4⟩ := kS_at hxn hS hq
    have hN := hS.2.2.2 i q hq
    obtain ⟨wv, -, -, -, -, -, k5, k6⟩ := id hN
    obtain ⟨p, lv, h_X, ⟨⟨p1, p2, -, -⟩, p5'⟩⟩ := k6 hk
    clear k5 k6
    have p2' : p < r1 := p2
    have p5 : xLs (fun x => ow x = p) M p (q.2.2.1.map ad) := xLs_mv p5' hS.1.2 rfl (fun x hx _ => ⟨hx, rfl⟩)
    obtain ⟨el_p, mo_p, h_p, hl9⟩ := xLs_len p5
    rw [List.length_map] at h_p hl9
    rw [hXe] at x1 x2 x4 h_X
    refine xj_iload (i := 5) d5_7_5 rfl ?_
    refine xj_aload_n (i := 0) d5_7_7 rfl rfl ?_
    refine xj_get d5_7_8 f5_10_5 h_X (by omega) (show X < M.1 by omega) rfl ?_
    refine xj_callV (rest := [.int (nI dn.length)]) (As := []) (b := p) (cSize hg (M := M) (n := M.1) (a := p) (el := el_p) (sz := nI q.2.2.1.length) (mo := mo_p) rfl (by omega) (by omega) (by omega) h_p) d5_7_11 wd28_8 h_p (by omega) (show p < M.1 by omega) rfl w230 w229 (Or.inl w714) rfl rfl (Nat.le_of_ble_eq_true rfl) (by omega) (by omega) (by omega) ?_
    rintro v M' ⟨rfl, hm⟩
    subst M'
    refine xj_icmp_ge (tgt := 42) d5_7_14 rfl (fun _ => ?_) (fun h => absurd (nI_le (a := q.2.2.1.length) (b := dn.length) (by omega) (by omega)) h)
    refine xj_lload_n (i := 3) d5_7_42 rfl rfl ?_
    have hB7 : bS y (rI (rY len ln A i) len x) := bS_rI hB (fun a b => by rw [← hSp a b, hsp, List.append_nil])
    exact xj_ret d5_7_43 hcc hss rfl ⟨y, μ, rfl, hB7, hS, hF, hE, hU⟩
  | cons c rest ih =>
    intro dn M μ y hsp hS hE hF hU hB
    obtain ⟨x1, x2, x3', x4⟩ := kS_at hxn hS hq
    have hN := hS.2.2.2 i q hq
    obtain ⟨wv, -, -, -, -, -, k5, k6⟩ := id hN
    obtain ⟨p, lv, h_X, ⟨⟨p1, p2, -, -⟩, p5'⟩⟩ := k6 hk
    clear k5 k6
    have p2' : p < r1 := p2
    have p5 : xLs (fun x => ow x = p) M p (q.2.2.1.map ad) := xLs_mv p5' hS.1.2 rfl (fun x hx _ => ⟨hx, rfl⟩)
    obtain ⟨el_p, mo_p, h_p, hl9⟩ := xLs_len p5
    rw [List.length_map] at h_p hl9
    rw [hXe] at x1 x2 x4 h_X
    have hcm : c ∈ q.2.2.1 := by rw [hsp]; simp
    have hlen : q.2.2.1.length = dn.length + (rest.length + 1) := by rw [hsp, List.length_append, List.length_cons]
    obtain ⟨hcA, hci, hk1, hk6, hk5⟩ := hch c hcm
    have hX9 := hIH c hcm M μ x hS hE hx
    have hNe := cN_mv (M' := M) (hS.2.2.2 c _ (xnd_at hcA)) hS.1.2 (fun _ _ => rfl) (fun _ _ _ _ => rfl) (fun _ _ _ => rfl)
    obtain ⟨y9, hy⟩ : ∃ y, ad c = y := ⟨_, rfl⟩
    rw [hy] at hNe hX9
    have hgl : (q.2.2.1.map ad)[dn.length]? = some y9 := by
      rw [hsp, List.map_append, List.getElem?_append_right (by rw [List.length_map]; exact Nat.le_refl _), List.length_map, Nat.sub_self, ← hy]
      rfl
    obtain ⟨wv9, -, ⟨x1y, x2y, -, -⟩, -, -, -, k59, -⟩ := hNe
    obtain ⟨p9, nd9, x3, -⟩ := k59 hk5
    clear k59
    rw [show yV_reach (pNd A c).1 = Y3_10 by unfold yV_reach; rw [hk5]; rfl] at hX9
    refine xj_iload (i := 5) d5_7_5 rfl ?_
    refine xj_aload_n (i := 0) d5_7_7 rfl rfl ?_
    refine xj_get d5_7_8 f5_10_5 h_X (by omega) (show X < M.1 by omega) rfl ?_
    refine xj_callV (rest := [.int (nI dn.length)]) (As := []) (b := p) (cSize hg (M := M) (n := M.1) (a := p) (el := el_p) (sz := nI q.2.2.1.length) (mo := mo_p) rfl (by omega) (by omega) (by omega) h_p) d5_7_11 wd28_8 h_p (by omega) (show p < M.1 by omega) rfl w230 w229 (Or.inl w714) rfl rfl (Nat.le_of_ble_eq_true rfl) (by omega) (by omega) (by omega) ?_
    rintro v M' ⟨rfl, hm⟩
    subst M'
    refine xj_icmp_ge (tgt := 42) d5_7_14 rfl (fun h => absurd h (nI_ge (a := dn.length) (b := q.2.2.1.length) (by omega) (by omega))) (fun _ => ?_)
    refine xj_lload_n (i := 3) d5_7_17 rfl rfl ?_
    refine xj_aload_n (i := 0) d5_7_18 rfl rfl ?_
    refine xj_get d5_7_19 f5_10_5 h_X (by omega) (show X < M.1 by omega) rfl ?_
    refine xj_iload (i := 5) d5_7_22 rfl ?_
    refine xj_callV (rest := [.long y]) (As := [.int (nI dn.length)]) (b := p) (xLs_get (k := dn.length) (b := y9) hg p5 (by omega) (by omega) hgl) d5_7_24 wd28_20 h_p (by omega) (show p < M.1 by omega) rfl w248 w247 (Or.inl w715) rfl rfl (Nat.le_of_ble_eq_true rfl) (by omega) (by omega) (by omega) ?_
    rintro v M' ⟨rfl, hm0⟩
    subst M'
    refine xj_cast d5_7_27 w325 x3 (by omega) (show y9 < M.1 by omega) rfl (Or.inl rfl) ?_
    refine xj_lload_n (i := 1) d5_7_30 rfl rfl ?_
    refine xj_callV (rest := [.long y]) (As := [.long x]) (b := y9) hX9 d5_7_31 wd3_10 x3 (by omega) (show y9 < M.1 by omega) rfl w916 w915 (Or.inl w914) rfl rfl (Nat.le_of_ble_eq_true rfl) (by omega) (by omega) (by omega) ?_
    rintro v M5 ⟨y5, μ5, rfl, hB5, hS5, hF5, hE5, hU5⟩
    refine xj_lor (v := y ||| y5) d5_7_34 rfl ?_
    refine xj_lstore_n (i := 3) (L' := [(3, .long (y ||| y5)), (5, .int (nI dn.length)), (0, .ref X), (1, .long x)]) d5_7_35 rfl (by decide) rfl ?_
    refine xj_iinc (v := nI (dn.length + 1)) (L' := [(5, .int (nI (dn.length + 1))), (3, .long (y ||| y5)), (0, .ref X), (1, .long x)]) d5_7_36 rfl (xinc _) (by decide) rfl ?_
    refine xj_goto (tgt := 5) d5_7_39 rfl ?_
    refine xj_sub (L' := [(5, .int (nI (dn.length + 1))), (3, .long (y ||| y5)), (0, .ref X), (1, .long x)]) (fun q hq => by simp only [List.mem_cons, List.not_mem_nil, or_false] at hq ⊢; rcases hq with rfl | rfl | rfl | rfl <;> simp) ?_
    have hB6 : bS (y ||| y5) (rI (fun a b => ∃ c' ∈ dn ++ [c], rY len ln A c' a b) len x) := bS_cg (bS_or hB hB5) (fun j _ => ⟨fun z => by
      rcases z with ⟨a, a1, a2, c', c1, c2⟩ | ⟨a, a1, a2, a3⟩
      · exact ⟨a, a1, a2, c', List.mem_append.mpr (Or.inl c1), c2⟩
      · exact ⟨a, a1, a2, c, by simp, a3⟩, fun ⟨a, a1, a2, c', c1, c2⟩ => by
      rcases List.mem_append.mp c1 with w | w
      · exact Or.inl ⟨a, a1, a2, c', w, c2⟩
      · rw [List.mem_singleton.mp w] at c2
        exact Or.inr ⟨a, a1, a2, c2⟩⟩)
    have h9 := ih (dn ++ [c]) M5 μ5 (y ||| y5) (by rw [hsp]; simp) hS5 hE5 (kG_t hF (kG_le (by omega) hF5)) (fun c' hc' => (hU5 c' (by omega)).trans (hU c' hc')) hB6
    rw [List.length_append, List.length_singleton] at h9
    exact h9
set_option maxRecDepth 20000 in
theorem rcG {G : xG} (hg : xGood G) (hxn : xn = 16) {len : Nat} {ln : Nat → Nat} (hl40 : len ≤ 40) {r0 r1 : Nat} {ow rk ad : Nat → Nat} {A : List xNode} {lo : Nat → Nat} (hO : ∀ (i : Nat) (q : xNode), A[i]? = some q → pOk A lo i q) {i : Nat} {q : xNode} (hq : A[i]? = some q) {M : xM} {μ : Nat → xMu} {x : Int64} (hS : kS r0 r1 ow rk ad A M μ) (hE : (∀ (c : Nat) (p : xNode), A[c]? = some p → eN len ln A (μ c) p)) (hx : bL len x) {d0 : Nat} (hk : q.1 = 6) (hd0 : 3 ≤ d0) (hch : ∀ c ∈ q.2.2.1, c < A.length ∧ c < i ∧ 1 ≤ (pNd A c).1 ∧ (pNd A c).1 ≤ 6 ∧ (pNd A c).1 = 5) (hIH : ∀ c ∈ q.2.2.1, ∀ (M : xM) (μ : Nat → xMu) (x : Int64), kS r0 r1 ow rk ad A M μ → (∀ (c : Nat) (p : xNode), A[c]? = some p → eN len ln A (μ c) p) → bL len x → XC G (yV_reach (pNd A c).1) (some .long) d0 0 0 [.ref (ad c), .long x] M (fun v M' => ∃ y μ', v = some (.long y) ∧ bS y (rI (rY len ln A c) len x) ∧ kS r0 r1 ow rk ad A M' μ' ∧ kG r0 r1 ow rk c M M' ∧ (∀ (c : Nat) (p : xNode), A[c]? = some p → eN len ln A (μ' c) p) ∧ ∀ c9, c < c9 → μ' c9 = μ c9)) : XC G Y5_7 (some .long) (d0 + 1) 0 0 [.ref (ad i), .long x] M (fun v M' => ∃ y μ', v = some (.long y) ∧ bS y (rI (rY len ln A i) len x) ∧ kS r0 r1 ow rk ad A M' μ' ∧ kG r0 r1 ow rk i M M' ∧ (∀ (c : Nat) (p : xNode), A[c]? = some p → eN len ln A (μ' c) p) ∧ ∀ c9, i < c9 → μ' c9 = μ c9) := by
  obtain ⟨X, hXe⟩ : ∃ X, ad i = X := ⟨_, rfl⟩
  rw [hXe]
  refine xc_of hg (by decide) (Nat.le_of_ble_eq_true rfl) (Or.inr (Or.inr (Or.inr (Or.inl ⟨rfl, rfl, fun v M' h => by obtain ⟨y, _, h, -⟩ := h; exact ⟨y, h⟩⟩)))) ?_
  refine xj_lconst (v := 0) d5_7_0 (by decide) ?_
  refine xj_lstore_n (i := 3) (L' := [(3, .long 0), (0, .ref X), (1, .long x)]) d5_7_1 rfl (by decide) rfl ?_
  refine xj_iconst (v := 0) d5_7_2 (by decide) ?_
  refine xj_istore (i := 5) (L' := [(5, .int 0), (3, .long 0), (0, .ref X), (1, .long x)]) d5_7_3 (by decide) rfl ?_
  refine xj_sub (L' := [(5, .int 0), (3, .long 0), (0, .ref X), (1, .long x)]) (fun q hq => by simp only [List.mem_cons, List.not_mem_nil, or_false] at hq ⊢; rcases hq with rfl | rfl | rfl | rfl <;> simp) ?_
  exact rcGL hg hxn hl40 hO hq hx hk hXe hd0 hch hIH (Nat.le_refl _) (Nat.le_refl _) (Nat.le_refl _) q.2.2.1 [] M μ 0 rfl hS hE kG_r (fun _ _ => rfl) (bS_0 (fun j ⟨a, _, _, c, c1, _⟩ => absurd c1 (by simp)))

/-- the cell of a repetition -/
theorem kRep {r0 r1 : Nat} {ow rk ad : Nat → Nat} {A : List xNode} {M : xM} {μ : Nat → xMu} (hxn : xn = 16) (hS : kS r0 r1 ow rk ad A M μ) {i ee : Nat} {q : xNode} (hq : A[i]? = some q) (hk : q.1 = 4) (hqe : q.2.2.1 = [ee]) : (r0 ≤ ad i ∧ ad i < r1 ∧ 52 ≤ ad i ∧ r1 ≤ M.1 ∧ rk (ow (ad i)) = 3 * i + 100) ∧ ∃ (nd : Nat) (cv wv : Value), M.2 (ad i) = .inr (9, [.ref (ad ee), .int q.2.2.2.1, .int q.2.2.2.2.1, .ref nd, cv, .int (μ i).2.1, .int (μ i).2.2.1, wv]) ∧ ((q.2.2.2.2.1 = -1 ∧ ∃ cl, cv = .ref cl ∧ (r0 ≤ cl ∧ cl < r1 ∧ rk (ow cl) = 3 * i + 100) ∧ M.2 cl = .inl (3, 41, .inr (.inl (μ i).2.2.2))) ∨ (¬ q.2.2.2.2.1 = -1 ∧ cv = .null)) := by
  obtain ⟨x1, x2, x3, x4⟩ := kS_at hxn hS hq
  obtain ⟨wv, -, ⟨o1, o2, o3, o4⟩, -, -, k4, -⟩ := hS.2.2.2 i q hq
  obtain ⟨e, nd, cv, e1, e2, -, e4⟩ := k4 hk
  clear k4
  have he : e = ee := by rw [hqe] at e1; exact (List.singleton_inj.mp e1).symm
  subst he
  refine ⟨⟨x1, x2, x4, x3, by rw [o3, o4]⟩, nd, cv, wv, e2, ?_⟩
  rcases e4 with ⟨g1, cl, g2, ⟨g3, g4, g5⟩, g6⟩ | g1
  · refine Or.inl ⟨g1, cl, g2, ⟨Classical.byContradiction fun w => ?_, g4, by rw [g5, o4]⟩, g6⟩
    have := hS.2.1 cl (by omega)
    omega
  · exact Or.inr g1
set_option maxRecDepth 20000 in
theorem rcUL {G : xG} (hg : xGood G) (hxn : xn = 16) {len : Nat} {ln : Nat → Nat} (hl40 : len ≤ 40) {r0 r1 : Nat} {ow rk ad : Nat → Nat} {A : List xNode} {lo : Nat → Nat} (hO : ∀ (i : Nat) (q : xNode), A[i]? = some q → pOk A lo i q) {i ee X y : Nat} {q : xNode} (hq : A[i]? = some q) (hk : q.1 = 4) (hqe : q.2.2.1 = [ee]) (hXe : ad i = X) (hye : ad ee = y) (hei : ee < i) (heA : ee < A.length) (hk1 : 1 ≤ (pNd A ee).1) (hk6 : (pNd A ee).1 ≤ 6) (hk5 : ¬ (pNd A ee).1 = 5) {d0 : Nat} (hd0 : 3 ≤ d0) (hIH : ∀ (M : xM) (μ : Nat → xMu) (x : Int64), kS r0 r1 ow rk ad A M μ → (∀ (c : Nat) (p : xNode), A[c]? = some p → eN len ln A (μ c) p) → bL len x → XC G (yV_reach (pNd A ee).1) (some .long) d0 0 0 [.ref (ad ee), .long x] M (fun v M' => ∃ y μ', v = some (.long y) ∧ bS y (rI (rY len ln A ee) len x) ∧ kS r0 r1 ow rk ad A M' μ' ∧ kG r0 r1 ow rk ee M M' ∧ (∀ (c : Nat) (p : xNode), A[c]? = some p → eN len ln A (μ' c) p) ∧ ∀ c9, ee < c9 → μ' c9 = μ c9)) {x : Int64} (hx : bL len x) {t : Nat} (ht : t ≤ 9) {M0 : xM} {μ0 : Nat → xMu} {d ce se cells slots : Nat} (hd : d0 + 1 ≤ d) (hcc : cells ≤ ce) (hss : slots ≤ se) : ∀ (r k : Nat) (M : xM) (μ : Nat → xMu) (y9 f : Int64), k + r = t → kS r0 r1 ow rk ad A M μ → (∀ (c : Nat) (p : xNode), A[c]? = some p → eN len ln A (μ c) p) → kG r0 r1 ow rk ee M0 M → (∀ c9, ee < c9 → μ c9 = μ0 c9) → bfs (rY len ln A ee) len x y9 f k → XJ G Y9_7 d ce se cells slots 9 [(8, .int (nI k)), (4, .long y9), (6, .long f), (0, .ref X), (1, .int (nI t)), (2, .long x)] [] M (fun v M' => ∃ y9 μ', v = some (.long y9) ∧ bS y9 (rI (fun a j => ∃ m, m ≤ t ∧ rIt (rY len ln A ee) m a j) len x) ∧ kS r0 r1 ow rk ad A M' μ' ∧ kG r0 r1 ow rk ee M0 M' ∧ (∀ (c : Nat) (p : xNode), A[c]? = some p → eN len ln A (μ' c) p) ∧ ∀ c9, ee < c9 → μ' c9 = μ0 c9) := by
  have hRle : ∀ a b, (rY len ln A ee) a b → a ≤ len → a ≤ b ∧ b ≤ len := fun a b z => rY_le z
  intro r
  induction r with
  | zero =>
    intro k M μ y9 f hkt hS hE hF hU hB
    have hk' : k = t := by omega
    obtain ⟨⟨x1, x2, x4, x3, -⟩, nd, cv, wv, h_X, -⟩ := kRep hxn hS hq hk hqe
    rw [hXe] at x1 x2 x4 h_X
    rw [hye] at h_X
    obtain ⟨ls, hls⟩ : ∃ w, q.2.2.2.1 = w := ⟨_, rfl⟩
    obtain ⟨ms, hms⟩ : ∃ w, q.2.2.2.2.1 = w := ⟨_, rfl⟩
    obtain ⟨ck, hck⟩ : ∃ w, (μ i).2.1 = w := ⟨_, rfl⟩
    obtain ⟨ll, hll⟩ : ∃ w, (μ i).2.2.1 = w := ⟨_, rfl⟩
    rw [hls, hms, hck, hll] at h_X
    refine xj_iload (i := 8) d9_7_9 rfl ?_
    refine xj_iload_n (i := 1) d9_7_11 rfl rfl ?_
    refine xj_icmp_ge (tgt := 53) d9_7_12 rfl (fun _ => ?_) (fun h => absurd (nI_le (a := t) (b := k) (by omega) (by omega)) h)
    refine xj_lload (i := 4) d9_7_53 rfl ?_
    exact xj_ret d9_7_55 hcc hss rfl ⟨y9, μ, rfl, by rw [← hk']; exact hB.1, hS, hF, hE, hU⟩
  | succ r ih =>
    intro k M μ y9 f hkt hS hE hF hU hB
    have hfL : bL len f := fun j hj hb => bL_im (R := fun a j => ∃ m, m ≤ k ∧ rIt (rY len ln A ee) m a j) (fun a b ⟨m, _, z⟩ => rIt_le hRle z) hB.1 j hj (hB.2.1 j hj hb)
    obtain ⟨⟨x1, x2, x4, x3, -⟩, nd, cv, wv, h_X, -⟩ := kRep hxn hS hq hk hqe
    rw [hXe] at x1 x2 x4 h_X
    rw [hye] at h_X
    obtain ⟨ls, hls⟩ : ∃ w, q.2.2.2.1 = w := ⟨_, rfl⟩
    obtain ⟨ms, hms⟩ : ∃ w, q.2.2.2.2.1 = w := ⟨_, rfl⟩
    obtain ⟨ck, hck⟩ : ∃ w, (μ i).2.1 = w := ⟨_, rfl⟩
    obtain ⟨ll, hll⟩ : ∃ w, (μ i).2.2.1 = w := ⟨_, rfl⟩
    rw [hls, hms, hck, hll] at h_X
    have hX9 := hIH M μ f hS hE hfL
    have hNe := cN_mv (M' := M) (hS.2.2.2 ee _ (xnd_at heA)) hS.1.2 (fun _ _ => rfl) (fun _ _ _ _ => rfl) (fun _ _ _ => rfl)
    rw [hye] at hNe hX9
    refine xj_iload (i := 8) d9_7_9 rfl ?_
    refine xj_iload_n (i := 1) d9_7_11 rfl rfl ?_
    refine xj_icmp_ge (tgt := 53) d9_7_12 rfl (fun h => absurd h (nI_ge (a := k) (b := t) (by omega) (by omega))) (fun _ => ?_)
    refine xj_lload (i := 6) d9_7_15 rfl ?_
    refine xj_lconst (v := 0) d9_7_17 (by decide) ?_
    refine xj_lcmp (v := lg_cmp f 0) d9_7_18 rfl ?_
    refine xj_if_eq (tgt := 53) d9_7_19 rfl (fun hz9 => ?_) (fun hz9 => ?_)
    · refine xj_lload (i := 4) d9_7_53 rfl ?_
      exact xj_ret d9_7_55 hcc hss rfl ⟨y9, μ, rfl, bfs_e hl40 hRle hB (xlcmp_eq hz9) (by omega), hS, hF, hE, hU⟩
    · refine xj_aload_n (i := 0) d9_7_22 rfl rfl ?_
      refine xj_get d9_7_23 f9_18_9 h_X (by omega) (show X < M.1 by omega) rfl ?_
      refine xj_lload (i := 6) d9_7_26 rfl ?_
      refine xj_v_reach (rest := []) (As := [.long f]) hNe hk1 hk6 hk5 hX9 d9_7_28 w932 rfl rfl (Nat.le_of_ble_eq_true rfl) (by omega) (by omega) (by omega) ?_
      rintro v M5 ⟨y5, μ5, rfl, hB5, hS5, hF5, hE5, hU5⟩
      refine xj_lload (i := 4) d9_7_31 rfl ?_
      refine xj_ldc2 (v := (-1)) d9_7_33 w937 ?_
      refine xj_lxor (v := y9 ^^^ (-1)) d9_7_36 rfl ?_
      refine xj_land (v := y5 &&& (y9 ^^^ (-1))) d9_7_37 rfl ?_
      refine xj_lstore (i := 6) (L' := [(6, .long (y5 &&& (y9 ^^^ (-1)))), (8, .int (nI k)), (4, .long y9), (0, .ref X), (1, .int (nI t)), (2, .long x)]) d9_7_38 (by decide) rfl ?_
      refine xj_lload (i := 4) d9_7_40 rfl ?_
      refine xj_lload (i := 6) d9_7_42 rfl ?_
      refine xj_lor (v := y9 ||| (y5 &&& (y9 ^^^ (-1)))) d9_7_44 rfl ?_
      refine xj_lstore (i := 4) (L' := [(4, .long (y9 ||| (y5 &&& (y9 ^^^ (-1))))), (6, .long (y5 &&& (y9 ^^^ (-1)))), (8, .int (nI k)), (0, .ref X), (1, .int (nI t)), (2, .long x)]) d9_7_45 (by decide) rfl ?_
      refine xj_iinc (v := nI (k + 1)) (L' := [(8, .int (nI (k + 1))), (4, .long (y9 ||| (y5 &&& (y9 ^^^ (-1))))), (6, .long (y5 &&& (y9 ^^^ (-1)))), (0, .ref X), (1, .int (nI t)), (2, .long x)]) d9_7_47 rfl (xinc _) (by decide) rfl ?_
      refine xj_goto (tgt := 9) d9_7_50 rfl ?_
      refine xj_sub (L' := [(8, .int (nI (k + 1))), (4, .long (y9 ||| (y5 &&& (y9 ^^^ (-1))))), (6, .long (y5 &&& (y9 ^^^ (-1)))), (0, .ref X), (1, .int (nI t)), (2, .long x)]) (fun q hq => by simp only [List.mem_cons, List.not_mem_nil, or_false] at hq ⊢; rcases hq with rfl | rfl | rfl | rfl | rfl | rfl <;> simp) ?_
      exact ih (k + 1) M5 μ5 _ _ (by omega) hS5 hE5 (kG_t hF hF5) (fun c9 hc9 => (hU5 c9 hc9).trans (hU c9 hc9)) (bfs_s hl40 hRle hB hB5)
set_option maxRecDepth 20000 in
theorem rcU {G : xG} (hg : xGood G) (hxn : xn = 16) {len : Nat} {ln : Nat → Nat} (hl40 : len ≤ 40) {r0 r1 : Nat} {ow rk ad : Nat → Nat} {A : List xNode} {lo : Nat → Nat} (hO : ∀ (i : Nat) (q : xNode), A[i]? = some q → pOk A lo i q) {i ee X y : Nat} {q : xNode} (hq : A[i]? = some q) (hk : q.1 = 4) (hqe : q.2.2.1 = [ee]) (hXe : ad i = X) (hye : ad ee = y) (hei : ee < i) (heA : ee < A.length) (hk1 : 1 ≤ (pNd A ee).1) (hk6 : (pNd A ee).1 ≤ 6) (hk5 : ¬ (pNd A ee).1 = 5) {d0 : Nat} (hd0 : 3 ≤ d0) (hIH : ∀ (M : xM) (μ : Nat → xMu) (x : Int64), kS r0 r1 ow rk ad A M μ → (∀ (c : Nat) (p : xNode), A[c]? = some p → eN len ln A (μ c) p) → bL len x → XC G (yV_reach (pNd A ee).1) (some .long) d0 0 0 [.ref (ad ee), .long x] M (fun v M' => ∃ y μ', v = some (.long y) ∧ bS y (rI (rY len ln A ee) len x) ∧ kS r0 r1 ow rk ad A M' μ' ∧ kG r0 r1 ow rk ee M M' ∧ (∀ (c : Nat) (p : xNode), A[c]? = some p → eN len ln A (μ' c) p) ∧ ∀ c9, ee < c9 → μ' c9 = μ c9)) {M : xM} {μ : Nat → xMu} {x : Int64} (hS : kS r0 r1 ow rk ad A M μ) (hE : (∀ (c : Nat) (p : xNode), A[c]? = some p → eN len ln A (μ c) p)) (hx : bL len x) {t : Nat} (ht : t ≤ 9) : XC G Y9_7 (some .long) (d0 + 1) 0 0 [.ref X, .int (nI t), .long x] M (fun v M' => ∃ y9 μ', v = some (.long y9) ∧ bS y9 (rI (fun a j => ∃ m, m ≤ t ∧ rIt (rY len ln A ee) m a j) len x) ∧ kS r0 r1 ow rk ad A M' μ' ∧ kG r0 r1 ow rk ee M M' ∧ (∀ (c : Nat) (p : xNode), A[c]? = some p → eN len ln A (μ' c) p) ∧ ∀ c9, ee < c9 → μ' c9 = μ c9) := by
  refine xc_of hg (by decide) (Nat.le_of_ble_eq_true rfl) (Or.inr (Or.inr (Or.inr (Or.inl ⟨rfl, rfl, fun v M' h => by obtain ⟨y, _, h, -⟩ := h; exact ⟨y, h⟩⟩)))) ?_
  refine xj_lload_n (i := 2) d9_7_0 rfl rfl ?_
  refine xj_lstore (i := 4) (L' := [(4, .long x), (0, .ref X), (1, .int (nI t)), (2, .long x)]) d9_7_1 (by decide) rfl ?_
  refine xj_lload_n (i := 2) d9_7_3 rfl rfl ?_
  refine xj_lstore (i := 6) (L' := [(6, .long x), (4, .long x), (0, .ref X), (1, .int (nI t)), (2, .long x)]) d9_7_4 (by decide) rfl ?_
  refine xj_iconst (v := 0) d9_7_6 (by decide) ?_
  refine xj_istore (i := 8) (L' := [(8, .int 0), (6, .long x), (4, .long x), (0, .ref X), (1, .int (nI t)), (2, .long x)]) d9_7_7 (by decide) rfl ?_
  refine xj_sub (L' := [(8, .int 0), (4, .long x), (6, .long x), (0, .ref X), (1, .int (nI t)), (2, .long x)]) (fun q hq => by simp only [List.mem_cons, List.not_mem_nil, or_false] at hq ⊢; rcases hq with rfl | rfl | rfl | rfl | rfl | rfl <;> simp) ?_
  exact rcUL hg hxn hl40 hO hq hk hqe hXe hye hei heA hk1 hk6 hk5 hd0 hIH hx ht (Nat.le_refl _) (Nat.le_refl _) (Nat.le_refl _) t 0 M μ x x (by omega) hS hE kG_r (fun _ _ => rfl) (bfs_0 hx)
set_option maxRecDepth 20000 in
theorem rcCL {G : xG} (hg : xGood G) (hxn : xn = 16) {len : Nat} (hl40 : len ≤ 40) {R : Nat → Nat → Prop} (hRle : ∀ a b, R a b → a ≤ len → a ≤ b ∧ b ≤ len) {M : xM} {X y nd cl : Nat} {ls ms ck ll : Int32} {wv : Value} {fc : Nat → Int64} {x : Int64} (h1_X : 16 ≤ X) (h2_X : X < M.1) (h_X : M.2 X = (.inr (9, [.ref y, .int ls, .int ms, .ref nd, .ref cl, .int ck, .int ll, wv]))) (h1_cl : 16 ≤ cl) (h2_cl : cl < M.1) (h_cl : M.2 cl = (.inl (3, 41, .inr (.inl fc)))) (hx : bL len x) (hcl : ∀ a, a < 64 → lb x a = true → bS (fc a) (fun j => rSt R a j)) {d ce se cells slots : Nat} (hd : 2 ≤ d) (hcc : cells ≤ ce) (hss : slots ≤ se) : ∀ (r k : Nat) (y9 f : Int64), k + r = 41 → bcl R len x y9 f k → XJ G Y9_9 d ce se cells slots 8 [(7, .int (nI k)), (5, .long f), (3, .long y9), (0, .ref X), (1, .long x)] [] M (fun v M' => (∃ y9, v = some (.long y9) ∧ bS y9 (rI (rSt R) len x)) ∧ M' = M) := by
  intro r
  induction r with
  | zero =>
    intro k y9 f hk hB
    have hk' : k = 41 := by omega
    refine xj_iload (i := 7) d9_9_8 rfl ?_
    refine xj_bipush (v := 41) d9_9_10 (by decide) ?_
    refine xj_icmp_ge (tgt := 51) d9_9_12 rfl (fun _ => ?_) (fun h => absurd (nI_le (a := 41) (b := k) (by omega) (by omega)) h)
    refine xj_lload_n (i := 3) d9_9_51 rfl rfl ?_
    exact xj_ret d9_9_52 hcc hss rfl ⟨⟨y9, rfl, bcl_e hl40 hRle hx hB (bcl_f hl40 hx (by rw [hk'] at hB; exact hB))⟩, rfl⟩
  | succ r ih =>
    intro k y9 f hk hB
    by_cases hf0 : f = 0
    · skip
      refine xj_iload (i := 7) d9_9_8 rfl ?_
      refine xj_bipush (v := 41) d9_9_10 (by decide) ?_
      refine xj_icmp_ge (tgt := 51) d9_9_12 rfl (fun h => absurd h (nI_ge (a := k) (b := 41) (by omega) (by omega))) (fun _ => ?_)
      refine xj_lload (i := 5) d9_9_15 rfl ?_
      refine xj_lconst (v := 0) d9_9_17 (by decide) ?_
      refine xj_lcmp (v := lg_cmp f 0) d9_9_18 rfl ?_
      refine xj_if_eq (tgt := 51) d9_9_19 rfl (fun _ => ?_) (fun h => absurd ((lcmp_0 f).mpr hf0) h)
      refine xj_lload_n (i := 3) d9_9_51 rfl rfl ?_
      exact xj_ret d9_9_52 hcc hss rfl ⟨⟨y9, rfl, bcl_e hl40 hRle hx hB hf0⟩, rfl⟩
    · obtain ⟨p, hp64, p2, p3⟩ := lb_low hf0
      have hpl : p ≤ len := hx p hp64 (hB.1 p hp64 p2).1
      refine xj_iload (i := 7) d9_9_8 rfl ?_
      refine xj_bipush (v := 41) d9_9_10 (by decide) ?_
      refine xj_icmp_ge (tgt := 51) d9_9_12 rfl (fun h => absurd h (nI_ge (a := k) (b := 41) (by omega) (by omega))) (fun _ => ?_)
      refine xj_lload (i := 5) d9_9_15 rfl ?_
      refine xj_lconst (v := 0) d9_9_17 (by decide) ?_
      refine xj_lcmp (v := lg_cmp f 0) d9_9_18 rfl ?_
      refine xj_if_eq (tgt := 51) d9_9_19 rfl (fun h => absurd h (fun q => hf0 (xlcmp_eq q))) (fun _ => ?_)
      refine xj_lload_n (i := 3) d9_9_22 rfl rfl ?_
      refine xj_aload_n (i := 0) d9_9_23 rfl rfl ?_
      refine xj_get d9_9_24 f9_29_9 h_X (by omega) (show X < M.1 by omega) rfl ?_
      refine xj_lload (i := 5) d9_9_27 rfl ?_
      refine xj_callS (rest := [.ref cl, .long y9]) (As := [.long f]) (tzL hg hp64 p2 p3) d9_9_29 wd20_49 w947 (Or.inl w946) rfl rfl (Nat.le_of_ble_eq_true rfl) (by omega) (by omega) (by omega) ?_
      rintro v9 M' ⟨rfl, hm9⟩
      subst M'
      refine xj_laload (j := p) d9_9_32 h_cl (by omega) (show cl < M.1 by omega) (vp_in_nI (by omega) (by omega)) (nI_clamp (by omega)) ?_
      refine xj_lor (v := y9 ||| (fc p)) d9_9_33 rfl ?_
      refine xj_lstore_n (i := 3) (L' := [(3, .long (y9 ||| (fc p))), (7, .int (nI k)), (5, .long f), (0, .ref X), (1, .long x)]) d9_9_34 rfl (by decide) rfl ?_
      refine xj_lload (i := 5) d9_9_35 rfl ?_
      refine xj_lload_n (i := 3) d9_9_37 rfl rfl ?_
      refine xj_ldc2 (v := (-1)) d9_9_38 w937 ?_
      refine xj_lxor (v := (y9 ||| (fc p)) ^^^ (-1)) d9_9_41 rfl ?_
      refine xj_land (v := f &&& ((y9 ||| (fc p)) ^^^ (-1))) d9_9_42 rfl ?_
      refine xj_lstore (i := 5) (L' := [(5, .long (f &&& ((y9 ||| (fc p)) ^^^ (-1)))), (3, .long (y9 ||| (fc p))), (7, .int (nI k)), (0, .ref X), (1, .long x)]) d9_9_43 (by decide) rfl ?_
      refine xj_iinc (v := nI (k + 1)) (L' := [(7, .int (nI (k + 1))), (5, .long (f &&& ((y9 ||| (fc p)) ^^^ (-1)))), (3, .long (y9 ||| (fc p))), (0, .ref X), (1, .long x)]) d9_9_45 rfl (xinc _) (by decide) rfl ?_
      refine xj_goto (tgt := 8) d9_9_48 rfl ?_
      refine xj_sub (L' := [(7, .int (nI (k + 1))), (5, .long (f &&& ((y9 ||| (fc p)) ^^^ (-1)))), (3, .long (y9 ||| (fc p))), (0, .ref X), (1, .long x)]) (fun q hq => by simp only [List.mem_cons, List.not_mem_nil, or_false] at hq ⊢; rcases hq with rfl | rfl | rfl | rfl | rfl <;> simp) ?_
      exact ih (k + 1) _ _ (by omega) (bcl_s hl40 hRle hB hpl p2 p3 (hcl p hp64 (hB.1 p hp64 p2).1))
set_option maxRecDepth 20000 in
theorem rcC {G : xG} (hg : xGood G) (hxn : xn = 16) {len : Nat} (hl40 : len ≤ 40) {R : Nat → Nat → Prop} (hRle : ∀ a b, R a b → a ≤ len → a ≤ b ∧ b ≤ len) {M : xM} {X y nd cl : Nat} {ls ms ck ll : Int32} {wv : Value} {fc : Nat → Int64} {x : Int64} (h1_X : 16 ≤ X) (h2_X : X < M.1) (h_X : M.2 X = (.inr (9, [.ref y, .int ls, .int ms, .ref nd, .ref cl, .int ck, .int ll, wv]))) (h1_cl : 16 ≤ cl) (h2_cl : cl < M.1) (h_cl : M.2 cl = (.inl (3, 41, .inr (.inl fc)))) (hx : bL len x) (hcl : ∀ a, a < 64 → lb x a = true → bS (fc a) (fun j => rSt R a j)) : XC G Y9_9 (some .long) 2 0 0 [.ref X, .long x] M (fun v M' => (∃ y9, v = some (.long y9) ∧ bS y9 (rI (rSt R) len x)) ∧ M' = M) := by
  refine xc_of hg (by decide) (Nat.le_of_ble_eq_true rfl) (Or.inr (Or.inr (Or.inr (Or.inl ⟨rfl, rfl, fun v M' h => by obtain ⟨⟨y, h, -⟩, -⟩ := h; exact ⟨y, h⟩⟩)))) ?_
  refine xj_lconst (v := 0) d9_9_0 (by decide) ?_
  refine xj_lstore_n (i := 3) (L' := [(3, .long 0), (0, .ref X), (1, .long x)]) d9_9_1 rfl (by decide) rfl ?_
  refine xj_lload_n (i := 1) d9_9_2 rfl rfl ?_
  refine xj_lstore (i := 5) (L' := [(5, .long x), (3, .long 0), (0, .ref X), (1, .long x)]) d9_9_3 (by decide) rfl ?_
  refine xj_iconst (v := 0) d9_9_5 (by decide) ?_
  refine xj_istore (i := 7) (L' := [(7, .int 0), (5, .long x), (3, .long 0), (0, .ref X), (1, .long x)]) d9_9_6 (by decide) rfl ?_
  refine xj_sub (L' := [(7, .int 0), (5, .long x), (3, .long 0), (0, .ref X), (1, .long x)]) (fun q hq => by simp only [List.mem_cons, List.not_mem_nil, or_false] at hq ⊢; rcases hq with rfl | rfl | rfl | rfl | rfl <;> simp) ?_
  exact rcCL hg hxn hl40 hRle h1_X h2_X h_X h1_cl h2_cl h_cl hx hcl (by omega) (by omega) (by omega) 41 0 0 x (by omega) bcl_0
def lpV : Nat → Int32
  | 0 => -1
  | r + 1 => nI r
theorem lpV_d (r : Nat) : nI r + Int32.ofInt (-1) = lpV r := by
  cases r with
  | zero => rfl
  | succ r => exact (show nI (r + 1) + (-1) = nI r from pk_m1 r)
set_option maxRecDepth 20000 in
set_option maxHeartbeats 2000000 in
theorem rcLL {G : xG} (hg : xGood G) (hxn : xn = 16) {len : Nat} {ln : Nat → Nat} (hl40 : len ≤ 40) {r0 r1 : Nat} {ow rk ad : Nat → Nat} {A : List xNode} {lo : Nat → Nat} (hO : ∀ (i : Nat) (q : xNode), A[i]? = some q → pOk A lo i q) {i ee X y : Nat} {q : xNode} (hq : A[i]? = some q) (hk : q.1 = 4) (hqe : q.2.2.1 = [ee]) (hXe : ad i = X) (hye : ad ee = y) (hei : ee < i) (heA : ee < A.length) (hk1 : 1 ≤ (pNd A ee).1) (hk6 : (pNd A ee).1 ≤ 6) (hk5 : ¬ (pNd A ee).1 = 5) {d0 : Nat} (hd0 : 3 ≤ d0) (hIH : ∀ (M : xM) (μ : Nat → xMu) (x : Int64), kS r0 r1 ow rk ad A M μ → (∀ (c : Nat) (p : xNode), A[c]? = some p → eN len ln A (μ c) p) → bL len x → XC G (yV_reach (pNd A ee).1) (some .long) d0 0 0 [.ref (ad ee), .long x] M (fun v M' => ∃ y μ', v = some (.long y) ∧ bS y (rI (rY len ln A ee) len x) ∧ kS r0 r1 ow rk ad A M' μ' ∧ kG r0 r1 ow rk ee M M' ∧ (∀ (c : Nat) (p : xNode), A[c]? = some p → eN len ln A (μ' c) p) ∧ ∀ c9, ee < c9 → μ' c9 = μ c9)) (hm1 : q.2.2.2.2.1 = -1) {M0 : xM} {μ0 : Nat → xMu} {d ce se cells slots : Nat} (hd : d0 + 1 ≤ d) (hcc : cells ≤ ce) (hss : slots ≤ se) : ∀ (r : Nat) (M : xM) (μ : Nat → xMu), r ≤ len + 1 → kS r0 r1 ow rk ad A M μ → (∀ (c : Nat) (p : xNode), A[c]? = some p → eN len ln A (μ c) p) → kG r0 r1 ow rk i M0 M → (μ i).2.1 = 0 → (∀ c9, i < c9 → μ c9 = μ0 c9) → (∀ p, r ≤ p → p ≤ len → bS ((μ i).2.2.2 p) (fun j => rSt (rY len ln A ee) p j)) → XJ G Y9_8 d ce se cells slots 5 [(1, .int (lpV r)), (0, .ref X)] [] M (fun v M' => v = none ∧ ∃ μ', kS r0 r1 ow rk ad A M' μ' ∧ kG r0 r1 ow rk i M0 M' ∧ (∀ (c : Nat) (p : xNode), A[c]? = some p → eN len ln A (μ' c) p) ∧ (μ' i).2.1 = 1 ∧ ∀ c9, i < c9 → μ' c9 = μ0 c9) := by
  have hRle : ∀ a b, (rY len ln A ee) a b → a ≤ len → a ≤ b ∧ b ≤ len := fun a b z => rY_le z
  obtain ⟨ls, hls⟩ : ∃ w, q.2.2.2.1 = w := ⟨_, rfl⟩
  obtain ⟨ms, hms⟩ : ∃ w, q.2.2.2.2.1 = w := ⟨_, rfl⟩
  intro r
  induction r with
  | zero =>
    intro M μ hr hS hE hF hck0 hU hK
    obtain ⟨⟨x16, x26, x46, x36, x56⟩, nd6, cv6, wv6, h_X6, hcv6⟩ := kRep hxn hS hq hk hqe
    rw [hXe] at x16 x26 x46 x56 h_X6
    rw [hye] at h_X6
    obtain ⟨-, cl6, rfl, ⟨c16, c26, c36⟩, h_cl6⟩ := hcv6.resolve_right (fun z => z.1 hm1)
    clear hcv6
    have h526 := hS.1.1
    have hcr6 : cl6 < r1 := c26
    obtain ⟨ck6, hck6⟩ : ∃ w, (μ i).2.1 = w := ⟨_, rfl⟩
    obtain ⟨ll6, hll6⟩ : ∃ w, (μ i).2.2.1 = w := ⟨_, rfl⟩
    obtain ⟨fc6, hfc6⟩ : ∃ w, (μ i).2.2.2 = w := ⟨_, rfl⟩
    rw [hls, hms, hck6, hll6] at h_X6
    rw [hfc6] at h_cl6
    refine xj_iload_n (i := 1) d9_8_5 rfl rfl ?_
    refine xj_if_lt (tgt := 45) d9_8_6 rfl (fun _ => ?_) (fun h => absurd (by decide) h)
    refine xj_aload_n (i := 0) d9_8_45 rfl rfl ?_
    refine xj_iconst (v := 1) d9_8_46 (by decide) ?_
    refine xj_put (a := X) (fs' := [.ref y, .int ls, .int ms, .ref nd6, .ref cl6, .int 1, .int ll6, wv6]) d9_8_47 f9_66_9 h_X6 (by omega) (show X < M.1 by omega) (Nat.le_of_ble_eq_true rfl) rfl rfl rfl ?_
    refine xj_abs_set (fun M1 hs1 ha1 ho1 => ?_)
    have e1 : M1.1 = M.1 := by omega
    have e2 : ∀ y, y ≠ X → M1.2 y = M.2 y := fun y hy => (ho1 y (by omega))
    have hN6 := hS.2.2.2 i q hq
    rw [hXe] at hN6
    obtain ⟨u1, u2⟩ := kS_up (i := i) (v := ((μ i).1, 1, ll6, (μ i).2.2.2)) hS e1 (Z := X) ⟨x16, x26, x56⟩ e2 (fun p' hp' => by
      rw [hq] at hp'
      cases hp'
      rw [hXe]
      exact cN_m4 (M := (r1, M.2)) (M' := (r1, M1.2)) hxn hN6 hk (Nat.le_refl _) e2 h_X6 ha1)
    refine xj_ret d9_8_50 hcc hss rfl ⟨rfl, _, u1, kG_t hF (kG_of u2 e2 x56), fun c p hp => eN_mu (hE c p hp) (fun hci => ?_), by rw [mUp_s], fun c9 hc9 => by rw [mUp_n (by omega)]; exact hU c9 hc9⟩
    subst hci
    rw [hq] at hp
    cases hp
    refine ⟨fun w => by omega, fun w => by omega, fun w => by omega, fun _ => ⟨hll6.symm.trans ((hE _ _ hq).2.2.2 hk).1, Or.inr ⟨rfl, fun p hp => ?_⟩⟩⟩
    rw [hqe]
    exact hK p (Nat.zero_le _) hp
  | succ r ih =>
    intro M μ hr hS hE hF hck0 hU hK
    obtain ⟨⟨x16, x26, x46, x36, x56⟩, nd6, cv6, wv6, h_X6, hcv6⟩ := kRep hxn hS hq hk hqe
    rw [hXe] at x16 x26 x46 x56 h_X6
    rw [hye] at h_X6
    obtain ⟨-, cl6, rfl, ⟨c16, c26, c36⟩, h_cl6⟩ := hcv6.resolve_right (fun z => z.1 hm1)
    clear hcv6
    have h526 := hS.1.1
    have hcr6 : cl6 < r1 := c26
    obtain ⟨ck6, hck6⟩ : ∃ w, (μ i).2.1 = w := ⟨_, rfl⟩
    obtain ⟨ll6, hll6⟩ : ∃ w, (μ i).2.2.1 = w := ⟨_, rfl⟩
    obtain ⟨fc6, hfc6⟩ : ∃ w, (μ i).2.2.2 = w := ⟨_, rfl⟩
    rw [hls, hms, hck6, hll6] at h_X6
    rw [hfc6] at h_cl6
    rw [hfc6] at hK
    have hX9 := hIH M μ ((1 : Int64) <<< ((nI r).toInt64 &&& 63)) hS hE (fun j hj hb => by rw [(bS_one (show r < 64 by omega) j hj).mp hb]; omega)
    have hNe := cN_mv (M' := M) (hS.2.2.2 ee _ (xnd_at heA)) hS.1.2 (fun _ _ => rfl) (fun _ _ _ _ => rfl) (fun _ _ _ => rfl)
    rw [hye] at hNe hX9
    refine xj_iload_n (i := 1) d9_8_5 rfl rfl ?_
    refine xj_if_lt (tgt := 45) d9_8_6 rfl (fun h => absurd h (nI_pos (by omega))) (fun _ => ?_)
    refine xj_lconst (v := 1) d9_8_9 (by decide) ?_
    refine xj_iload_n (i := 1) d9_8_10 rfl rfl ?_
    refine xj_lshl (v := 1 <<< ((nI r).toInt64 &&& 63)) d9_8_11 rfl ?_
    refine xj_lstore_n (i := 2) (L' := [(2, .long (1 <<< ((nI r).toInt64 &&& 63))), (1, .int (nI r)), (0, .ref X)]) d9_8_12 rfl (by decide) rfl ?_
    refine xj_aload_n (i := 0) d9_8_13 rfl rfl ?_
    refine xj_get d9_8_14 f9_29_9 h_X6 (by omega) (show X < M.1 by omega) rfl ?_
    refine xj_iload_n (i := 1) d9_8_17 rfl rfl ?_
    refine xj_lload_n (i := 2) d9_8_18 rfl rfl ?_
    refine xj_aload_n (i := 0) d9_8_19 rfl rfl ?_
    refine xj_aload_n (i := 0) d9_8_20 rfl rfl ?_
    refine xj_get d9_8_21 f9_18_9 h_X6 (by omega) (show X < M.1 by omega) rfl ?_
    refine xj_lload_n (i := 2) d9_8_24 rfl rfl ?_
    refine xj_v_reach (rest := [.ref X, .long (1 <<< ((nI r).toInt64 &&& 63)), .int (nI r), .ref cl6]) (As := [.long (1 <<< ((nI r).toInt64 &&& 63))]) hNe hk1 hk6 hk5 hX9 d9_8_25 w932 rfl rfl (Nat.le_of_ble_eq_true rfl) (by omega) (by omega) (by omega) ?_
    rintro v M5 ⟨y5, μ5, rfl, hB5, hS5, hF5, hE5, hU5⟩
    have hm5 : M5.1 = M.1 := hF5.1.1
    have hcm5 : cl6 < M5.1 := Nat.lt_of_lt_of_le hcr6 hS5.1.2
    have hxx9 : bL len (y5 &&& (((1 : Int64) <<< ((nI r).toInt64 &&& 63)) ^^^ (-1))) := fun j hj hb => bL_im hRle hB5 j hj (by rw [lb_and, Bool.and_eq_true] at hb; exact hb.1)
    have hcl9 : ∀ a, a < 64 → lb (y5 &&& (((1 : Int64) <<< ((nI r).toInt64 &&& 63)) ^^^ (-1))) a = true → bS (fc6 a) (fun j => rSt (rY len ln A ee) a j) := fun a ha hb => by
      have hb2 := (bS_and hB5 (bS_no (bS_one (show r < 64 by omega))) a ha).mp hb
      obtain ⟨⟨b, b1, b2, b3⟩, b4⟩ := hb2
      have b5 := (bS_one (show r < 64 by omega) b (by omega)).mp b2
      have b6 := hRle b a b3 b1
      exact hK a (by omega) b6.2
    have h_X5 := (hF5.2 X (by rw [x56]; omega)).trans h_X6
    have h_cl5 := (hF5.2 cl6 (by rw [c36]; omega)).trans h_cl6
    refine xj_lload_n (i := 2) d9_8_28 rfl rfl ?_
    refine xj_ldc2 (v := (-1)) d9_8_29 w937 ?_
    refine xj_lxor (v := (1 <<< ((nI r).toInt64 &&& 63)) ^^^ (-1)) d9_8_32 rfl ?_
    refine xj_land (v := y5 &&& ((1 <<< ((nI r).toInt64 &&& 63)) ^^^ (-1))) d9_8_33 rfl ?_
    refine xj_callV (rest := [.long (1 <<< ((nI r).toInt64 &&& 63)), .int (nI r), .ref cl6]) (As := [.long (y5 &&& ((1 <<< ((nI r).toInt64 &&& 63)) ^^^ (-1)))]) (b := X) (rcC hg hxn hl40 hRle (x := y5 &&& ((1 <<< ((nI r).toInt64 &&& 63)) ^^^ (-1))) (by omega) (by omega) h_X5 (by omega) (by omega) h_cl5 hxx9 hcl9) d9_8_34 wd9_9 h_X5 (by omega) (show X < M5.1 by omega) rfl s9_9 w944 (Or.inl w942) rfl rfl (Nat.le_of_ble_eq_true rfl) (by omega) (by omega) (by omega) ?_
    rintro v9 M' ⟨⟨z9, rfl, hZ9⟩, hm9⟩
    subst M'
    refine xj_lor (v := (1 <<< ((nI r).toInt64 &&& 63)) ||| z9) d9_8_37 rfl ?_
    refine xj_lastore (j := r) d9_8_38 h_cl5 (by omega) (show cl6 < M5.1 by omega) (vp_in_nI (by omega) (by omega)) (nI_clamp (by omega)) ?_
    refine xj_abs_set (fun M1 hs1 ha1 ho1 => ?_)
    refine xj_iinc (v := lpV r) (L' := [(1, .int (lpV r)), (2, .long (1 <<< ((nI r).toInt64 &&& 63))), (0, .ref X)]) d9_8_39 rfl (lpV_d r) (by decide) rfl ?_
    refine xj_goto (tgt := 5) d9_8_42 rfl ?_
    refine xj_sub (L' := [(1, .int (lpV r)), (0, .ref X)]) (fun q hq => by simp only [List.mem_cons, List.not_mem_nil, or_false] at hq ⊢; rcases hq with rfl | rfl <;> simp) ?_
    have e1 : M1.1 = M5.1 := by omega
    have e2 : ∀ y, y ≠ cl6 → M1.2 y = M5.2 y := fun y hy => (ho1 y (by omega))
    have hN5 := hS5.2.2.2 i q hq
    rw [hXe] at hN5
    obtain ⟨u1, u2⟩ := kS_up (i := i) (v := ((μ5 i).1, (μ5 i).2.1, (μ5 i).2.2.1, vp_updL fc6 r (((1 : Int64) <<< ((nI r).toInt64 &&& 63)) ||| z9))) hS5 e1 (Z := cl6) ⟨c16, c26, c36⟩ e2 (fun p' hp' => by
      rw [hq] at hp'
      cases hp'
      rw [hXe]
      exact cN_mc (M := (r1, M5.2)) (M' := (r1, M1.2)) hxn hN5 hk (Nat.le_refl _) e2 ⟨_, _, _, _, _, _, _, h_X5⟩ h_cl5 ha1)
    have hcp := bcl_p hl40 hRle (show r ≤ len by omega) (bS_one (show r < 64 by omega)) hB5 hZ9
    have hK9 : ∀ p, r ≤ p → p ≤ len → bS (vp_updL fc6 r (((1 : Int64) <<< ((nI r).toInt64 &&& 63)) ||| z9) p) (fun j => rSt (rY len ln A ee) p j) := fun p hp1 hp2 => by
      by_cases hpr : p = r
      · rw [hpr, pk_uLs]
        exact hcp
      · rw [pk_uLn hpr]
        exact hK p (by omega) hp2
    refine ih M1 _ (by omega) u1 (fun c p hp => eN_mu (hE5 c p hp) (fun hci => ?_)) (kG_t hF (kG_t (kG_le (by omega) hF5) (kG_of u2 e2 c36))) (by rw [mUp_s, hU5 i (by omega)]; exact hck0) (fun c9 hc9 => by rw [mUp_n (by omega), hU5 c9 (by omega)]; exact hU c9 hc9) (by rw [mUp_s]; exact hK9)
    subst hci
    rw [hq] at hp
    cases hp
    exact ⟨fun w => by omega, fun w => by omega, fun w => by omega, fun _ => ⟨((hE5 _ _ hq).2.2.2 hk).1, Or.inl (by rw [hU5 _ (by omega)]; exact hck0)⟩⟩
set_option maxRecDepth 20000 in
theorem rcL {G : xG} (hg : xGood G) (hxn : xn = 16) {len : Nat} {ln : Nat → Nat} (hl40 : len ≤ 40) {r0 r1 : Nat} {ow rk ad : Nat → Nat} {A : List xNode} {lo : Nat → Nat} (hO : ∀ (i : Nat) (q : xNode), A[i]? = some q → pOk A lo i q) {i ee X y : Nat} {q : xNode} (hq : A[i]? = some q) (hk : q.1 = 4) (hqe : q.2.2.1 = [ee]) (hXe : ad i = X) (hye : ad ee = y) (hei : ee < i) (heA : ee < A.length) (hk1 : 1 ≤ (pNd A ee).1) (hk6 : (pNd A ee).1 ≤ 6) (hk5 : ¬ (pNd A ee).1 = 5) {d0 : Nat} (hd0 : 3 ≤ d0) (hIH : ∀ (M : xM) (μ : Nat → xMu) (x : Int64), kS r0 r1 ow rk ad A M μ → (∀ (c : Nat) (p : xNode), A[c]? = some p → eN len ln A (μ c) p) → bL len x → XC G (yV_reach (pNd A ee).1) (some .long) d0 0 0 [.ref (ad ee), .long x] M (fun v M' => ∃ y μ', v = some (.long y) ∧ bS y (rI (rY len ln A ee) len x) ∧ kS r0 r1 ow rk ad A M' μ' ∧ kG r0 r1 ow rk ee M M' ∧ (∀ (c : Nat) (p : xNode), A[c]? = some p → eN len ln A (μ' c) p) ∧ ∀ c9, ee < c9 → μ' c9 = μ c9)) (hm1 : q.2.2.2.2.1 = -1) {M : xM} {μ : Nat → xMu} (hS : kS r0 r1 ow rk ad A M μ) (hE : (∀ (c : Nat) (p : xNode), A[c]? = some p → eN len ln A (μ c) p)) (hck0 : (μ i).2.1 = 0) : XC G Y9_8 none (d0 + 1) 0 0 [.ref X] M (fun v M' => v = none ∧ ∃ μ', kS r0 r1 ow rk ad A M' μ' ∧ kG r0 r1 ow rk i M M' ∧ (∀ (c : Nat) (p : xNode), A[c]? = some p → eN len ln A (μ' c) p) ∧ (μ' i).2.1 = 1 ∧ ∀ c9, i < c9 → μ' c9 = μ c9) := by
  obtain ⟨⟨x1, x2, x4, x3, -⟩, nd, cv, wv, h_X, -⟩ := kRep hxn hS hq hk hqe
  rw [hXe] at x1 x2 x4 h_X
  rw [hye] at h_X
  obtain ⟨ls, hls⟩ : ∃ w, q.2.2.2.1 = w := ⟨_, rfl⟩
  obtain ⟨ms, hms⟩ : ∃ w, q.2.2.2.2.1 = w := ⟨_, rfl⟩
  obtain ⟨ck, hck⟩ : ∃ w, (μ i).2.1 = w := ⟨_, rfl⟩
  obtain ⟨ll, hll⟩ : ∃ w, (μ i).2.2.1 = w := ⟨_, rfl⟩
  rw [hls, hms, hck, hll] at h_X
  have hlen := ((hE i q hq).2.2.2 hk).1
  rw [hll] at hlen
  subst hlen
  refine xc_of hg (by decide) (Nat.le_of_ble_eq_true rfl) (Or.inr (Or.inr (Or.inr (Or.inr (Or.inl ⟨rfl, rfl, fun v M' h => h.1⟩))))) ?_
  refine xj_aload_n (i := 0) d9_8_0 rfl rfl ?_
  refine xj_get d9_8_1 f9_70_9 h_X (by omega) (show X < M.1 by omega) rfl ?_
  refine xj_istore_n (i := 1) (L' := [(1, .int (nI len)), (0, .ref X)]) d9_8_4 rfl (by decide) rfl ?_
  exact rcLL hg hxn hl40 hO hq hk hqe hXe hye hei heA hk1 hk6 hk5 hd0 hIH hm1 (Nat.le_refl _) (Nat.le_refl _) (Nat.le_refl _) (len + 1) M μ (by omega) hS hE kG_r hck0 (fun _ _ => rfl) (fun p h1 h2 => absurd h1 (by omega))

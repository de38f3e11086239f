set_option maxRecDepth 20000 in
theorem rcRL {G : xG} (hg : xGood G) (hxn : xn = 16) {len : Nat} {ln : Nat → Nat} (hl40 : len ≤ 40) {r0 r1 : Nat} {ow rk ad : Nat → Nat} {A : List xNode} {lo : Nat → Nat} (hO : ∀ (i : Nat) (q : xNode), A[i]? = some q → pOk A lo i q) {i ee X y : Nat} {q : xNode} (hq : A[i]? = some q) (hk : q.1 = 4) (hqe : q.2.2.1 = [ee]) (hXe : ad i = X) (hye : ad ee = y) (hei : ee < i) (heA : ee < A.length) (hk1 : 1 ≤ (pNd A ee).1) (hk6 : (pNd A ee).1 ≤ 6) (hk5 : ¬ (pNd A ee).1 = 5) {d0 : Nat} (hd0 : 3 ≤ d0) (hIH : ∀ (M : xM) (μ : Nat → xMu) (x : Int64), kS r0 r1 ow rk ad A M μ → (∀ (c : Nat) (p : xNode), A[c]? = some p → eN len ln A (μ c) p) → bL len x → XC G (yV_reach (pNd A ee).1) (some .long) d0 0 0 [.ref (ad ee), .long x] M (fun v M' => ∃ y μ', v = some (.long y) ∧ bS y (rI (rY len ln A ee) len x) ∧ kS r0 r1 ow rk ad A M' μ' ∧ kG r0 r1 ow rk ee M M' ∧ (∀ (c : Nat) (p : xNode), A[c]? = some p → eN len ln A (μ' c) p) ∧ ∀ c9, ee < c9 → μ' c9 = μ c9)) {x : Int64} (hx : bL len x) {kk : Nat} (hkk : kk ≤ 9) (hlk : q.2.2.2.1 = nI kk) {M0 : xM} {μ0 : Nat → xMu} {d ce se cells slots : Nat} {Post : Option Value → xM → Prop} (hd : d0 + 1 ≤ d) (hcc : cells ≤ ce) (hss : slots ≤ se) (K : (∀ (M : xM) (μ : Nat → xMu) (y9 : Int64) (k : Nat), kS r0 r1 ow rk ad A M μ → (∀ (c : Nat) (p : xNode), A[c]? = some p → eN len ln A (μ c) p) → kG r0 r1 ow rk ee M0 M → (∀ c9, ee < c9 → μ c9 = μ0 c9) → bS y9 (rI (fun a j => rIt (rY len ln A ee) kk a j) len x) → XJ G Y9_6 d ce se cells slots 35 [(5, .int (nI k)), (3, .long y9), (0, .ref X), (1, .long x)] [] M Post)) : ∀ (r k : Nat) (M : xM) (μ : Nat → xMu) (y9 : Int64), k + r = kk → kS r0 r1 ow rk ad A M μ → (∀ (c : Nat) (p : xNode), A[c]? = some p → eN len ln A (μ c) p) → kG r0 r1 ow rk ee M0 M → (∀ c9, ee < c9 → μ c9 = μ0 c9) → bS y9 (rI (fun a j => rIt (rY len ln A ee) k a j) len x) → XJ G Y9_6 d ce se cells slots 5 [(5, .int (nI k)), (3, .long y9), (0, .ref X), (1, .long x)] [] M Post := by
  have hRle : ∀ a b, (rY len ln A ee) a b → a ≤ len → a ≤ b ∧ b ≤ len := fun a b z => rY_le z
  intro r
  induction r with
  | zero =>
    intro k M μ y9 hk' hS hE hF hU hB
    replace hk' : k = kk := by omega
    obtain ⟨⟨x1, x2, x4, x3, -⟩, nd, cv, wv, h_X, -⟩ := kRep hxn hS hq hk hqe
    rw [hXe] at x1 x2 x4 h_X
    rw [hye] at h_X
    obtain ⟨ms, hms⟩ : ∃ w, q.2.2.2.2.1 = w := ⟨_, rfl⟩
    obtain ⟨ck, hck⟩ : ∃ w, (μ i).2.1 = w := ⟨_, rfl⟩
    obtain ⟨ll, hll⟩ : ∃ w, (μ i).2.2.1 = w := ⟨_, rfl⟩
    rw [hlk, hms, hck, hll] at h_X
    refine xj_iload (i := 5) d9_6_5 rfl ?_
    refine xj_aload_n (i := 0) d9_6_7 rfl rfl ?_
    refine xj_get d9_6_8 f9_22_9 h_X (by omega) (show X < M.1 by omega) rfl ?_
    refine xj_icmp_ge (tgt := 35) d9_6_11 rfl (fun _ => ?_) (fun h => absurd (nI_le (a := kk) (b := k) (by omega) (by omega)) h)
    exact K M μ y9 k hS hE hF hU (by rw [← hk']; exact hB)
  | succ r ih =>
    intro k M μ y9 hk_ hS hE hF hU hB
    have hIle : ∀ a b, rIt (rY len ln A ee) k a b → a ≤ len → a ≤ b ∧ b ≤ len := fun a b z => rIt_le hRle z
    obtain ⟨⟨x1, x2, x4, x3, -⟩, nd, cv, wv, h_X, -⟩ := kRep hxn hS hq hk hqe
    rw [hXe] at x1 x2 x4 h_X
    rw [hye] at h_X
    obtain ⟨ms, hms⟩ : ∃ w, q.2.2.2.2.1 = w := ⟨_, rfl⟩
    obtain ⟨ck, hck⟩ : ∃ w, (μ i).2.1 = w := ⟨_, rfl⟩
    obtain ⟨ll, hll⟩ : ∃ w, (μ i).2.2.1 = w := ⟨_, rfl⟩
    rw [hlk, hms, hck, hll] at h_X
    have hX9 := hIH M μ y9 hS hE (bL_im hIle hB)
    have hNe := cN_mv (M' := M) (hS.2.2.2 ee _ (xnd_at heA)) hS.1.2 (fun _ _ => rfl) (fun _ _ _ _ => rfl) (fun _ _ _ => rfl)
    rw [hye] at hNe hX9
    refine xj_iload (i := 5) d9_6_5 rfl ?_
    refine xj_aload_n (i := 0) d9_6_7 rfl rfl ?_
    refine xj_get d9_6_8 f9_22_9 h_X (by omega) (show X < M.1 by omega) rfl ?_
    refine xj_icmp_ge (tgt := 35) d9_6_11 rfl (fun h => absurd h (nI_ge (a := k) (b := kk) (by omega) (by omega))) (fun _ => ?_)
    refine xj_lload_n (i := 3) d9_6_14 rfl rfl ?_
    refine xj_lconst (v := 0) d9_6_15 (by decide) ?_
    refine xj_lcmp (v := lg_cmp y9 0) d9_6_16 rfl ?_
    refine xj_if_eq (tgt := 35) d9_6_17 rfl (fun hz9 => ?_) (fun hz9 => ?_)
    · refine xj_sub (L' := [(5, .int (nI k)), (3, .long y9), (0, .ref X), (1, .long x)]) (fun q hq => by simp only [List.mem_cons, List.not_mem_nil, or_false] at hq ⊢; rcases hq with rfl | rfl | rfl | rfl <;> simp) ?_
      have hy0 : y9 = 0 := xlcmp_eq hz9
      exact K M μ y9 k hS hE hF hU (bS_rI (bS_im0 (R' := fun m b => rIt (rY len ln A ee) (r + 1) m b) hl40 hIle hB hy0) (fun a b => by rw [← hk_]; exact ⟨fun ⟨m, m1, m2⟩ => rIt_add m1 m2, fun z => rIt_split z⟩))
    · refine xj_aload_n (i := 0) d9_6_20 rfl rfl ?_
      refine xj_get d9_6_21 f9_18_9 h_X (by omega) (show X < M.1 by omega) rfl ?_
      refine xj_lload_n (i := 3) d9_6_24 rfl rfl ?_
      refine xj_v_reach (rest := []) (As := [.long y9]) hNe hk1 hk6 hk5 hX9 d9_6_25 w932 rfl rfl (Nat.le_of_ble_eq_true rfl) (by omega) (by omega) (by omega) ?_
      rintro v M5 ⟨y5, μ5, rfl, hB5, hS5, hF5, hE5, hU5⟩
      refine xj_lstore_n (i := 3) (L' := [(3, .long y5), (5, .int (nI k)), (0, .ref X), (1, .long x)]) d9_6_28 rfl (by decide) rfl ?_
      refine xj_iinc (v := nI (k + 1)) (L' := [(5, .int (nI (k + 1))), (3, .long y5), (0, .ref X), (1, .long x)]) d9_6_29 rfl (xinc _) (by decide) rfl ?_
      refine xj_goto (tgt := 5) d9_6_32 rfl ?_
      refine xj_sub (L' := [(5, .int (nI (k + 1))), (3, .long y5), (0, .ref X), (1, .long x)]) (fun q hq => by simp only [List.mem_cons, List.not_mem_nil, or_false] at hq ⊢; rcases hq with rfl | rfl | rfl | rfl <;> simp) ?_
      exact ih (k + 1) M5 μ5 y5 (by omega) hS5 hE5 (kG_t hF hF5) (fun c9 hc9 => (hU5 c9 hc9).trans (hU c9 hc9)) (bS_cg hB5 (fun j _ => (rI_comp hl40 hIle hB j).trans (rI_cg (fun a b => rIt_snc.symm) j)))
set_option maxRecDepth 20000 in
set_option maxHeartbeats 2000000 in
theorem rcR {G : xG} (hg : xGood G) (hxn : xn = 16) {len : Nat} {ln : Nat → Nat} (hl40 : len ≤ 40) {r0 r1 : Nat} {ow rk ad : Nat → Nat} {A : List xNode} {lo : Nat → Nat} (hO : ∀ (i : Nat) (q : xNode), A[i]? = some q → pOk A lo i q) {i ee X y : Nat} {q : xNode} (hq : A[i]? = some q) (hk : q.1 = 4) (hqe : q.2.2.1 = [ee]) (hXe : ad i = X) (hye : ad ee = y) (hei : ee < i) (heA : ee < A.length) (hk1 : 1 ≤ (pNd A ee).1) (hk6 : (pNd A ee).1 ≤ 6) (hk5 : ¬ (pNd A ee).1 = 5) {d0 : Nat} (hd0 : 3 ≤ d0) (hIH : ∀ (M : xM) (μ : Nat → xMu) (x : Int64), kS r0 r1 ow rk ad A M μ → (∀ (c : Nat) (p : xNode), A[c]? = some p → eN len ln A (μ c) p) → bL len x → XC G (yV_reach (pNd A ee).1) (some .long) d0 0 0 [.ref (ad ee), .long x] M (fun v M' => ∃ y μ', v = some (.long y) ∧ bS y (rI (rY len ln A ee) len x) ∧ kS r0 r1 ow rk ad A M' μ' ∧ kG r0 r1 ow rk ee M M' ∧ (∀ (c : Nat) (p : xNode), A[c]? = some p → eN len ln A (μ' c) p) ∧ ∀ c9, ee < c9 → μ' c9 = μ c9)) {M : xM} {μ : Nat → xMu} {x : Int64} (hS : kS r0 r1 ow rk ad A M μ) (hE : (∀ (c : Nat) (p : xNode), A[c]? = some p → eN len ln A (μ c) p)) (hx : bL len x) : XC G Y9_6 (some .long) (d0 + 2) 0 0 [.ref X, .long x] M (fun v M' => ∃ y μ', v = some (.long y) ∧ bS y (rI (rY len ln A i) len x) ∧ kS r0 r1 ow rk ad A M' μ' ∧ kG r0 r1 ow rk i M M' ∧ (∀ (c : Nat) (p : xNode), A[c]? = some p → eN len ln A (μ' c) p) ∧ ∀ c9, i < c9 → μ' c9 = μ c9) := by
  have hRle : ∀ a b, (rY len ln A ee) a b → a ≤ len → a ≤ b ∧ b ≤ len := fun a b z => rY_le z
  obtain ⟨-, -, -, -, h5, -⟩ := hO i q hq
  obtain ⟨-, kk, hkk9, hlk, hhi⟩ := h5 hk
  have hcl1 : q.2.2.2.1.toNatClampNeg = kk := by rw [hlk]; exact nI_clamp (by omega)
  have hYi := fun a b => rY_iff (len := len) (ln := ln) hq a b
  have hIle : ∀ a b, rIt (rY len ln A ee) kk a b → a ≤ len → a ≤ b ∧ b ≤ len := fun a b z => rIt_le hRle z
  refine xc_of hg (by decide) (Nat.le_of_ble_eq_true rfl) (Or.inr (Or.inr (Or.inr (Or.inl ⟨rfl, rfl, fun v M' h => by obtain ⟨y, _, h, -⟩ := h; exact ⟨y, h⟩⟩)))) ?_
  refine xj_lload_n (i := 1) d9_6_0 rfl rfl ?_
  refine xj_lstore_n (i := 3) (L' := [(3, .long x), (0, .ref X), (1, .long x)]) d9_6_1 rfl (by decide) rfl ?_
  refine xj_iconst (v := 0) d9_6_2 (by decide) ?_
  refine xj_istore (i := 5) (L' := [(5, .int 0), (3, .long x), (0, .ref X), (1, .long x)]) d9_6_3 (by decide) rfl ?_
  refine xj_sub (L' := [(5, .int 0), (3, .long x), (0, .ref X), (1, .long x)]) (fun q hq => by simp only [List.mem_cons, List.not_mem_nil, or_false] at hq ⊢; rcases hq with rfl | rfl | rfl | rfl <;> simp) ?_
  refine rcRL hg hxn hl40 hO hq hk hqe hXe hye hei heA hk1 hk6 hk5 hd0 hIH hx hkk9 hlk (Nat.le_succ _) (Nat.le_refl _) (Nat.le_refl _) (fun M5 μ5 y5 k5 hS5 hE5 hF5 hU5 hB5 => ?_) kk 0 M μ x (by omega) hS hE kG_r (fun _ _ => rfl) (bS_cg (bS_s x) (fun j hj => ⟨fun z => ⟨j, hx j hj z, z, rfl⟩, fun ⟨a, _, a2, a3⟩ => by cases a3; exact a2⟩))
  have hyL : bL len y5 := bL_im hIle hB5
  by_cases hm1 : q.2.2.2.2.1 = -1
  · have hEq : ∀ a b, (∃ m, rIt (rY len ln A ee) kk a m ∧ rSt (rY len ln A ee) m b) ↔ rY len ln A i a b := fun a b => by
      rw [hYi a b]
      constructor
      · rintro ⟨m, m1, t', t2⟩
        exact Or.inr (Or.inr (Or.inr (Or.inl ⟨hk, kk + t', by rw [hcl1]; omega, Or.inl hm1, by rw [hqe]; exact rIt_add m1 t2⟩)))
      · intro z
        rcases z with ⟨e, -⟩ | ⟨e, -⟩ | ⟨e, -⟩ | ⟨-, k9, e1, e2, e3⟩ | ⟨e, -⟩ | ⟨e, -⟩
        · omega
        · omega
        · omega
        · rw [hcl1] at e1
          rw [hqe] at e3
          rw [show k9 = kk + (k9 - kk) by omega] at e3
          obtain ⟨m, m1, m2⟩ := rIt_split e3
          exact ⟨m, m1, k9 - kk, m2⟩
        · omega
        · omega
    have hls := hlk
    have hms := hm1
    obtain ⟨⟨x15, x25, x45, x35, x55⟩, nd5, cv5, wv5, h_X5, hcv5⟩ := kRep hxn hS5 hq hk hqe
    rw [hXe] at x15 x25 x45 x55 h_X5
    rw [hye] at h_X5
    obtain ⟨-, cl5, rfl, ⟨c15, c25, c35⟩, h_cl5⟩ := hcv5.resolve_right (fun z => z.1 hm1)
    clear hcv5
    have h525 := hS5.1.1
    have hcr5 : cl5 < r1 := c25
    obtain ⟨ck5, hck5⟩ : ∃ w, (μ5 i).2.1 = w := ⟨_, rfl⟩
    obtain ⟨ll5, hll5⟩ : ∃ w, (μ5 i).2.2.1 = w := ⟨_, rfl⟩
    obtain ⟨fc5, hfc5⟩ : ∃ w, (μ5 i).2.2.2 = w := ⟨_, rfl⟩
    rw [hls, hm1, hck5, hll5] at h_X5
    rw [hfc5] at h_cl5
    rcases ((hE5 i q hq).2.2.2 hk).2 with hck0 | ⟨hck1, hKn5⟩
    · skip
      refine xj_aload_n (i := 0) d9_6_35 rfl rfl ?_
      refine xj_get d9_6_36 f9_29_9 h_X5 (by omega) (show X < M5.1 by omega) rfl ?_
      refine xj_ifnonnull (tgt := 57) d9_6_39 rfl ?_
      refine xj_aload_n (i := 0) d9_6_57 rfl rfl ?_
      refine xj_get d9_6_58 f9_66_9 h_X5 (by omega) (show X < M5.1 by omega) rfl ?_
      refine xj_if_ne (tgt := 68) d9_6_61 rfl (fun h => absurd (hck5.symm.trans hck0) h) (fun _ => ?_)
      refine xj_aload_n (i := 0) d9_6_64 rfl rfl ?_
      refine xj_callV (rest := []) (As := []) (b := X) (rcL hg hxn hl40 hO hq hk hqe hXe hye hei heA hk1 hk6 hk5 hd0 hIH hm1 hS5 hE5 hck0) d9_6_65 wd9_8 h_X5 (by omega) (show X < M5.1 by omega) rfl s9_8 w940 (Or.inl w938) rfl rfl (Nat.le_of_ble_eq_true rfl) (by omega) (by omega) (by omega) ?_
      rintro v M6 ⟨rfl, μ6, hS6, hF6, hE6, hk6', hU6⟩
      obtain ⟨⟨x16, x26, x46, x36, x56⟩, nd6, cv6, wv6, h_X6, hcv6⟩ := kRep hxn hS6 hq hk hqe
      rw [hXe] at x16 x26 x46 x56 h_X6
      rw [hye] at h_X6
      obtain ⟨-, cl6, rfl, ⟨c16, c26, c36⟩, h_cl6⟩ := hcv6.resolve_right (fun z => z.1 hm1)
      clear hcv6
      have h526 := hS6.1.1
      have hcr6 : cl6 < r1 := c26
      obtain ⟨ck6, hck6⟩ : ∃ w, (μ6 i).2.1 = w := ⟨_, rfl⟩
      obtain ⟨ll6, hll6⟩ : ∃ w, (μ6 i).2.2.1 = w := ⟨_, rfl⟩
      obtain ⟨fc6, hfc6⟩ : ∃ w, (μ6 i).2.2.2 = w := ⟨_, rfl⟩
      rw [hls, hms, hck6, hll6] at h_X6
      rw [hfc6] at h_cl6
      have hKn6 : ∀ p, p ≤ len → bS ((μ6 i).2.2.2 p) (fun j => rSt (rY len ln A ee) p j) := by
        rcases ((hE6 i q hq).2.2.2 hk).2 with z | ⟨-, z⟩
        · rw [hk6'] at z
          exact absurd z (by decide)
        · rw [hqe] at z
          exact z
      refine xj_aload_n (i := 0) d9_6_68 rfl rfl ?_
      refine xj_lload_n (i := 3) d9_6_69 rfl rfl ?_
      refine xj_callV (rest := []) (As := [.long y5]) (b := X) (rcC hg hxn hl40 hRle (by omega) (by omega) h_X6 (by omega) (Nat.lt_of_lt_of_le hcr6 hS6.1.2) h_cl6 hyL (fun a ha hb => by rw [← hfc6]; exact hKn6 a (hyL a ha hb))) d9_6_70 wd9_9 h_X6 (by omega) (show X < M6.1 by omega) rfl s9_9 w944 (Or.inl w942) rfl rfl (Nat.le_of_ble_eq_true rfl) (by omega) (by omega) (by omega) ?_
      rintro v M' ⟨⟨z9, rfl, hZ9⟩, hm9⟩
      subst M'
      exact xj_ret d9_6_73 (Nat.le_refl _) (Nat.le_refl _) rfl ⟨z9, μ6, rfl, bS_cg hZ9 (fun j _ => (rI_comp hl40 hIle hB5 j).trans (rI_cg hEq j)), hS6, kG_t (kG_le (by omega) hF5) hF6, hE6, fun c9 hc9 => (hU6 c9 (by omega)).trans (hU5 c9 (by omega))⟩
    · rw [hqe] at hKn5
      replace hKn5 : ∀ p, p ≤ len → bS ((μ5 i).2.2.2 p) (fun j => rSt (rY len ln A ee) p j) := hKn5
      refine xj_aload_n (i := 0) d9_6_35 rfl rfl ?_
      refine xj_get d9_6_36 f9_29_9 h_X5 (by omega) (show X < M5.1 by omega) rfl ?_
      refine xj_ifnonnull (tgt := 57) d9_6_39 rfl ?_
      refine xj_aload_n (i := 0) d9_6_57 rfl rfl ?_
      refine xj_get d9_6_58 f9_66_9 h_X5 (by omega) (show X < M5.1 by omega) rfl ?_
      refine xj_if_ne (tgt := 68) d9_6_61 rfl (fun _ => ?_) (fun h => absurd h (by rw [← hck5, hck1]; decide))
      refine xj_aload_n (i := 0) d9_6_68 rfl rfl ?_
      refine xj_lload_n (i := 3) d9_6_69 rfl rfl ?_
      refine xj_callV (rest := []) (As := [.long y5]) (b := X) (rcC hg hxn hl40 hRle (by omega) (by omega) h_X5 (by omega) (Nat.lt_of_lt_of_le hcr5 hS5.1.2) h_cl5 hyL (fun a ha hb => by rw [← hfc5]; exact hKn5 a (hyL a ha hb))) d9_6_70 wd9_9 h_X5 (by omega) (show X < M5.1 by omega) rfl s9_9 w944 (Or.inl w942) rfl rfl (Nat.le_of_ble_eq_true rfl) (by omega) (by omega) (by omega) ?_
      rintro v M' ⟨⟨z9, rfl, hZ9⟩, hm9⟩
      subst M'
      exact xj_ret d9_6_73 (Nat.le_refl _) (Nat.le_refl _) rfl ⟨z9, μ5, rfl, bS_cg hZ9 (fun j _ => (rI_comp hl40 hIle hB5 j).trans (rI_cg hEq j)), hS5, kG_le (by omega) hF5, hE5, fun c9 hc9 => hU5 c9 (by omega)⟩
  · obtain ⟨mm, hm2, hm3, hm4⟩ := hhi.resolve_left hm1
    have hcl2 : q.2.2.2.2.1.toNatClampNeg = mm := by rw [hm4]; exact nI_clamp (by omega)
    obtain ⟨⟨x1, x2, x4, x3, -⟩, nd, cv, wv, h_X, hcv⟩ := kRep hxn hS5 hq hk hqe
    obtain ⟨-, rfl⟩ := hcv.resolve_left (fun z => hm1 z.1)
    rw [hXe] at x1 x2 x4 h_X
    rw [hye] at h_X
    obtain ⟨ck, hck⟩ : ∃ w, (μ5 i).2.1 = w := ⟨_, rfl⟩
    obtain ⟨ll, hll⟩ : ∃ w, (μ5 i).2.2.1 = w := ⟨_, rfl⟩
    rw [hlk, hm4, hck, hll] at h_X
    refine xj_aload_n (i := 0) d9_6_35 rfl rfl ?_
    refine xj_get d9_6_36 f9_29_9 h_X (by omega) (show X < M5.1 by omega) rfl ?_
    refine xj_ifnonnullN d9_6_39 ?_
    refine xj_aload_n (i := 0) d9_6_42 rfl rfl ?_
    refine xj_aload_n (i := 0) d9_6_43 rfl rfl ?_
    refine xj_get d9_6_44 f9_26_9 h_X (by omega) (show X < M5.1 by omega) rfl ?_
    refine xj_aload_n (i := 0) d9_6_47 rfl rfl ?_
    refine xj_get d9_6_48 f9_22_9 h_X (by omega) (show X < M5.1 by omega) rfl ?_
    refine xj_isub (v := nI (mm - kk)) d9_6_51 (pk_sub (by omega)) ?_
    refine xj_lload_n (i := 3) d9_6_52 rfl rfl ?_
    refine xj_callV (rest := []) (As := [.int (nI (mm - kk)), .long y5]) (b := X) (rcU hg hxn hl40 hO hq hk hqe hXe hye hei heA hk1 hk6 hk5 hd0 hIH hS5 hE5 hyL (t := mm - kk) (by omega)) d9_6_53 wd9_7 h_X (by omega) (show X < M5.1 by omega) rfl s9_7 w935 (Or.inl w933) rfl rfl (Nat.le_of_ble_eq_true rfl) (by omega) (by omega) (by omega) ?_
    rintro v M6 ⟨y6, μ6, rfl, hB6, hS6, hF6, hE6, hU6⟩
    refine xj_ret d9_6_56 (Nat.le_refl _) (Nat.le_refl _) rfl ⟨y6, μ6, rfl, bS_cg hB6 (fun j _ => (rI_comp hl40 hIle hB5 j).trans (rI_cg (fun a b => ?_) j)), hS6, kG_t (kG_le (by omega) hF5) (kG_le (by omega) hF6), hE6, fun c9 hc9 => (hU6 c9 (by omega)).trans (hU5 c9 (by omega))⟩
    rw [hYi a b]
    constructor
    · rintro ⟨m, m1, t', t1, t2⟩
      exact Or.inr (Or.inr (Or.inr (Or.inl ⟨hk, kk + t', by rw [hcl1]; omega, Or.inr (by rw [hcl2]; omega), by rw [hqe]; exact rIt_add m1 t2⟩)))
    · intro z
      rcases z with ⟨e, -⟩ | ⟨e, -⟩ | ⟨e, -⟩ | ⟨-, k9, e1, e2, e3⟩ | ⟨e, -⟩ | ⟨e, -⟩
      · omega
      · omega
      · omega
      · rw [hcl1] at e1
        have e2' : k9 ≤ mm := e2.elim (fun z => absurd z hm1) (fun z => by rw [hcl2] at z; exact z)
        rw [hqe] at e3
        rw [show k9 = kk + (k9 - kk) by omega] at e3
        obtain ⟨m, m1, m2⟩ := rIt_split e3
        exact ⟨m, m1, k9 - kk, by omega, m2⟩
      · omega
      · omega
theorem kRch {G : xG} (hg : xGood G) (hxn : xn = 16) {len : Nat} {ln : Nat → Nat} (hl40 : len ≤ 40) {r0 r1 : Nat} {ow rk ad : Nat → Nat} {A : List xNode} {lo : Nat → Nat} (hO : ∀ (i : Nat) (q : xNode), A[i]? = some q → pOk A lo i q) : ∀ (i : Nat) (q : xNode), A[i]? = some q → ∀ (M : xM) (μ : Nat → xMu) (x : Int64), kS r0 r1 ow rk ad A M μ → (∀ (c : Nat) (p : xNode), A[c]? = some p → eN len ln A (μ c) p) → bL len x → XC G (yV_reach q.1) (some .long) (3 * i + 5) 0 0 [.ref (ad i), .long x] M (fun v M' => ∃ y μ', v = some (.long y) ∧ bS y (rI (rY len ln A i) len x) ∧ kS r0 r1 ow rk ad A M' μ' ∧ kG r0 r1 ow rk i M M' ∧ (∀ (c : Nat) (p : xNode), A[c]? = some p → eN len ln A (μ' c) p) ∧ ∀ c9, i < c9 → μ' c9 = μ c9) := by
  intro i
  induction i using Nat.strongRecOn with
  | ind i ih =>
    intro q hq M μ x hS hE hx
    obtain ⟨h1, h2, h3, h4, h5, h6, h7⟩ := hO i q hq
    have hiv := pIv_le h1
    have hi : i < A.length := (List.getElem?_eq_some_iff.mp hq).1
    have hch : ∀ c ∈ q.2.2.1, c < A.length ∧ c < i := fun c hc => by
      have := (hiv.2 c hc).2.1
      omega
    have hkd : ∀ c ∈ q.2.2.1, 1 ≤ (pNd A c).1 ∧ (pNd A c).1 ≤ 6 := fun c hc => (hO c _ (xnd_at (hch c hc).1)).2.1
    have hIH : ∀ c ∈ q.2.2.1, ∀ (M : xM) (μ : Nat → xMu) (x : Int64), kS r0 r1 ow rk ad A M μ → (∀ (c : Nat) (p : xNode), A[c]? = some p → eN len ln A (μ c) p) → bL len x → XC G (yV_reach (pNd A c).1) (some .long) (3 * i + 3) 0 0 [.ref (ad c), .long x] M (fun v M' => ∃ y μ', v = some (.long y) ∧ bS y (rI (rY len ln A c) len x) ∧ kS r0 r1 ow rk ad A M' μ' ∧ kG r0 r1 ow rk c M M' ∧ (∀ (c : Nat) (p : xNode), A[c]? = some p → eN len ln A (μ' c) p) ∧ ∀ c9, c < c9 → μ' c9 = μ c9) := fun c hc M μ x a b e9 => xc_wk (ih c (hch c hc).2 _ (xnd_at (hch c hc).1) M μ x a b e9) (show 3 * c + 5 ≤ 3 * i + 3 by have := (hch c hc).2; omega) (Nat.le_refl _) (Nat.le_refl _) (fun v M' h => h)
    have hkk : q.1 = 1 ∨ q.1 = 2 ∨ q.1 = 3 ∨ q.1 = 4 ∨ q.1 = 5 ∨ q.1 = 6 := by omega
    rcases hkk with z | z | z | z | z | z
    · rw [show yV_reach q.1 = Y4_9 by unfold yV_reach; rw [if_pos z]]
      exact xc_wk (rcS hg hxn hl40 hO hq hS hE hx z) (by omega) (Nat.le_refl _) (Nat.le_refl _) (fun v M' h => h)
    · rw [show yV_reach q.1 = Y2_6 by unfold yV_reach; rw [if_neg (by omega), if_pos (by omega)]]
      exact xc_wk (rcA2 hg hxn hl40 hO hq hS hE hx z) (by omega) (Nat.le_refl _) (Nat.le_refl _) (fun v M' h => h)
    · rw [show yV_reach q.1 = Y2_6 by unfold yV_reach; rw [if_neg (by omega), if_pos (by omega)]]
      exact xc_wk (rcA3 hg hxn hl40 hO hq hS hE hx z) (by omega) (Nat.le_refl _) (Nat.le_refl _) (fun v M' h => h)
    · rw [show yV_reach q.1 = Y9_6 by unfold yV_reach; rw [if_neg (by omega), if_neg (by omega), if_pos z]]
      obtain ⟨⟨ee, hqe⟩, -⟩ := h5 z
      have hee : ee ∈ q.2.2.1 := by rw [hqe]; simp
      exact rcR hg hxn hl40 hO hq z hqe rfl rfl (hch ee hee).2 (hch ee hee).1 (hkd ee hee).1 (hkd ee hee).2 (h7 (by omega) ee hee) (d0 := 3 * i + 3) (by omega) (hIH ee hee) hS hE hx
    · rw [show yV_reach q.1 = Y3_10 by unfold yV_reach; rw [if_neg (by omega), if_neg (by omega), if_neg (by omega), if_pos z]]
      exact xc_wk (rcB hg hxn hl40 hO hq hS hE hx z (d0 := 3 * i + 3) (by omega) (fun c hc => ⟨(hch c hc).1, (hch c hc).2, (hkd c hc).1, (hkd c hc).2, h7 (by omega) c hc⟩) hIH) (by omega) (Nat.le_refl _) (Nat.le_refl _) (fun v M' h => h)
    · rw [show yV_reach q.1 = Y5_7 by unfold yV_reach; rw [if_neg (by omega), if_neg (by omega), if_neg (by omega), if_neg (by omega)]]
      exact xc_wk (rcG hg hxn hl40 hO hq hS hE hx z (d0 := 3 * i + 3) (by omega) (fun c hc => ⟨(hch c hc).1, (hch c hc).2, (hkd c hc).1, (hkd c hc).2, h6 z c hc⟩) hIH) (by omega) (Nat.le_refl _) (Nat.le_refl _) (fun v M' h => h)

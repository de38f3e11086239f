theorem xbt_cb {z : Int64 × Int64} {cs : Nat → Bool} (h : cB z cs) {u : Nat} (hu : u < 95) : xbi (xbt z (u + 32)) = if cs u = true then 1 else 0 := by
  rw [h (u + 32) (by omega), decide_eq_true (show 32 ≤ u + 32 ∧ u + 32 ≤ 126 by omega), Bool.true_and, Nat.add_sub_cancel]
  cases cs u <;> rfl
set_option maxRecDepth 20000 in
theorem entSL {G : xG} (hg : xGood G) (hxn : xn = 16) {tx tl s e len : Nat} {ft : Nat → Int32} {ln : Nat → Nat} (h1_tx : xn ≤ tx) (htl : tl ≤ 40) (hse : s + len = e) (hel : e ≤ tl) (hln : ∀ k, k < len → ln k < 95 ∧ ft (s + k) = nI (ln k + 32)) {M0 : xM} {n X : Nat} {z : Int64 × Int64} {cs : Nat → Bool} {wv : Value} (hz : cB z cs) (hn0 : M0.1 = n) (hX1 : xn ≤ X) (hX2 : X < n) (hXt : tx ≠ X) (h2_tx : tx < n) (h_tx : M0.2 tx = (.inl (1, tl, .inl ft))) {d ce se cells slots : Nat} {Post : Option Value → xM → Prop} (hd : 1 ≤ d) (hcc : cells ≤ ce) (hss : slots ≤ se) (K : ∀ (M : xM) (p : Int64), M.1 = n → (∀ y, y ≠ X → M.2 y = M0.2 y) → M.2 X = (.inr (10, [.long z.1, .long z.2, .long p, wv])) → bS p (fun j => j < len ∧ cs (ln j) = true) → ∀ k : Nat, XJ G Y4_8 d ce se cells slots 46 [(4, .int (nI (s + k))), (0, .ref X), (1, .ref tx), (2, .int (nI s)), (3, .int (nI e))] [] M Post) : ∀ (r k : Nat) (M : xM) (p : Int64), k + r = len → M.1 = n → (∀ y, y ≠ X → M.2 y = M0.2 y) → M.2 X = (.inr (10, [.long z.1, .long z.2, .long p, wv])) → bS p (fun j => j < k ∧ cs (ln j) = true) → XJ G Y4_8 d ce se cells slots 8 [(4, .int (nI (s + k))), (0, .ref X), (1, .ref tx), (2, .int (nI s)), (3, .int (nI e))] [] M Post := by
  intro r
  induction r with
  | zero =>
    intro k M p hk hm hfr h_X hp
    have hk' : k = len := by omega
    refine xj_iload (i := 4) d4_8_8 rfl ?_
    refine xj_iload_n (i := 3) d4_8_10 rfl rfl ?_
    refine xj_icmp_ge (tgt := 46) d4_8_11 rfl (fun _ => ?_) (fun h => absurd (nI_le (a := e) (b := s + k) (by omega) (by omega)) h)
    exact K M p hm hfr h_X (bS_cg hp (fun j _ => by rw [hk'])) k
  | succ r ih =>
    intro k M p hk hm hfr h_X hp
    have hl9 := hln k (by omega)
    have hHc := xHasC hg (M := M) (n := n) (c := ln k + 32) hm (by omega) (by omega) (by omega) h_X (by omega)
    rw [xbt_cb hz hl9.1] at hHc
    by_cases hcs : cs (ln k) = true
    · rw [if_pos hcs] at hHc
      refine xj_iload (i := 4) d4_8_8 rfl ?_
      refine xj_iload_n (i := 3) d4_8_10 rfl rfl ?_
      refine xj_icmp_ge (tgt := 46) d4_8_11 rfl (fun h => absurd h (nI_ge (a := s + k) (b := e) (by omega) (by omega))) (fun _ => ?_)
      refine xj_aload_n (i := 0) d4_8_14 rfl rfl ?_
      refine xj_aload_n (i := 1) d4_8_15 rfl rfl ?_
      refine xj_iload (i := 4) d4_8_16 rfl ?_
      refine xj_caload (j := s + k) d4_8_18 ((hfr tx hXt).trans h_tx) (by omega) (show tx < M.1 by omega) (vp_in_nI (by omega) (by omega)) (nI_clamp (by omega)) ?_
      rw [show ft (s + k) = nI (ln k + 32) from hl9.2]
      refine xj_callV (rest := []) (As := [.int (nI (ln k + 32))]) (b := X) hHc d4_8_19 wd4_4 h_X (by omega) (show X < M.1 by omega) rfl s4_4 w768 (Or.inl w766) rfl rfl (Nat.le_of_ble_eq_true rfl) (by omega) (by omega) (by omega) ?_
      rintro v9 M' ⟨rfl, hm9⟩
      subst M'
      refine xj_if_eq (tgt := 40) d4_8_22 rfl (fun h => absurd h (by decide)) (fun _ => ?_)
      refine xj_aload_n (i := 0) d4_8_25 rfl rfl ?_
      refine xj_dup d4_8_26 rfl ?_
      refine xj_get d4_8_27 f4_51_10 h_X (by omega) (show X < M.1 by omega) rfl ?_
      refine xj_lconst (v := 1) d4_8_30 (by decide) ?_
      refine xj_iload (i := 4) d4_8_31 rfl ?_
      refine xj_iload_n (i := 2) d4_8_33 rfl rfl ?_
      refine xj_isub (v := nI k) d4_8_34 (by rw [pk_sub (by omega), show s + k - s = k by omega]) ?_
      refine xj_lshl (v := 1 <<< ((nI k).toInt64 &&& 63)) d4_8_35 rfl ?_
      refine xj_lor (v := p ||| (1 <<< ((nI k).toInt64 &&& 63))) d4_8_36 rfl ?_
      refine xj_put (a := X) (fs' := [.long z.1, .long z.2, .long (p ||| (1 <<< ((nI k).toInt64 &&& 63))), wv]) d4_8_37 f4_51_10 h_X (by omega) (show X < M.1 by omega) (Nat.le_of_ble_eq_true rfl) rfl rfl rfl ?_
      refine xj_abs_set (fun M1 hs1 ha1 ho1 => ?_)
      refine xj_iinc (v := nI (s + (k + 1))) (L' := [(4, .int (nI (s + (k + 1)))), (0, .ref X), (1, .ref tx), (2, .int (nI s)), (3, .int (nI e))]) d4_8_40 rfl (by rw [show s + (k + 1) = s + k + 1 by omega]; exact xinc _) (by decide) rfl ?_
      refine xj_goto (tgt := 8) d4_8_43 rfl ?_
      exact ih (k + 1) M1 _ (by omega) (by omega) (fun y hy => (ho1 y (by omega)).trans (hfr y hy)) ha1 (bS_cg (bS_or hp (bS_one (show k < 64 by omega))) (fun j hj => ⟨fun z => z.elim (fun z => ⟨by omega, z.2⟩) (fun z => by rw [z]; exact ⟨by omega, hcs⟩), fun z => if w : j = k then Or.inr w else Or.inl ⟨by omega, z.2⟩⟩))
    · rw [if_neg hcs] at hHc
      refine xj_iload (i := 4) d4_8_8 rfl ?_
      refine xj_iload_n (i := 3) d4_8_10 rfl rfl ?_
      refine xj_icmp_ge (tgt := 46) d4_8_11 rfl (fun h => absurd h (nI_ge (a := s + k) (b := e) (by omega) (by omega))) (fun _ => ?_)
      refine xj_aload_n (i := 0) d4_8_14 rfl rfl ?_
      refine xj_aload_n (i := 1) d4_8_15 rfl rfl ?_
      refine xj_iload (i := 4) d4_8_16 rfl ?_
      refine xj_caload (j := s + k) d4_8_18 ((hfr tx hXt).trans h_tx) (by omega) (show tx < M.1 by omega) (vp_in_nI (by omega) (by omega)) (nI_clamp (by omega)) ?_
      rw [show ft (s + k) = nI (ln k + 32) from hl9.2]
      refine xj_callV (rest := []) (As := [.int (nI (ln k + 32))]) (b := X) hHc d4_8_19 wd4_4 h_X (by omega) (show X < M.1 by omega) rfl s4_4 w768 (Or.inl w766) rfl rfl (Nat.le_of_ble_eq_true rfl) (by omega) (by omega) (by omega) ?_
      rintro v9 M' ⟨rfl, hm9⟩
      subst M'
      refine xj_if_eq (tgt := 40) d4_8_22 rfl (fun _ => ?_) (fun h => absurd (by decide) h)
      refine xj_iinc (v := nI (s + (k + 1))) (L' := [(4, .int (nI (s + (k + 1)))), (0, .ref X), (1, .ref tx), (2, .int (nI s)), (3, .int (nI e))]) d4_8_40 rfl (by rw [show s + (k + 1) = s + k + 1 by omega]; exact xinc _) (by decide) rfl ?_
      refine xj_goto (tgt := 8) d4_8_43 rfl ?_
      exact ih (k + 1) M p (by omega) hm hfr h_X (bS_cg hp (fun j hj => ⟨fun z => ⟨by omega, z.2⟩, fun z => ⟨Classical.byContradiction fun w => hcs (by rw [show k = j by omega]; exact z.2), z.2⟩⟩))
set_option maxRecDepth 20000 in
theorem entS {G : xG} (hg : xGood G) (hxn : xn = 16) {tx tl s e len : Nat} {ft : Nat → Int32} {ln : Nat → Nat} (h1_tx : xn ≤ tx) (htl : tl ≤ 40) (hse : s + len = e) (hel : e ≤ tl) (hln : ∀ k, k < len → ln k < 95 ∧ ft (s + k) = nI (ln k + 32)) {r0 r1 : Nat} {ow rk ad : Nat → Nat} {A : List xNode} {lo : Nat → Nat} (hO : ∀ (i : Nat) (q : xNode), A[i]? = some q → pOk A lo i q) (htr : tx < r0 ∨ r1 ≤ tx) {i : Nat} {q : xNode} (hq : A[i]? = some q) {M : xM} {μ : Nat → xMu} (hS : kS r0 r1 ow rk ad A M μ) (h2_tx : tx < M.1) (h_tx : M.2 tx = (.inl (1, tl, .inl ft))) (hk : q.1 = 1) : XC G Y4_8 none 1 0 0 [.ref (ad i), .ref tx, .int (nI s), .int (nI e)] M (fun v M' => v = none ∧ ∃ μ', kS r0 r1 ow rk ad A M' μ' ∧ kF r0 r1 M M' ∧ kEn len ln A μ μ' (lo i) (i + 1)) := by
  obtain ⟨x1, x2, x3, x4⟩ := kS_at hxn hS hq
  have hN := hS.2.2.2 i q hq
  obtain ⟨wv, -, ⟨-, -, o3, o4⟩, k1, -⟩ := id hN
  obtain ⟨z, h_X, hz⟩ := k1 hk
  clear k1
  have hlo : lo i = i := by
    obtain ⟨h1, -, -, h4, -⟩ := hO i q hq
    rw [h4 (by omega)] at h1
    exact h1
  obtain ⟨X, hX⟩ : ∃ X, ad i = X := ⟨_, rfl⟩
  rw [hX] at x1 x2 x4 h_X hN o3 o4 ⊢
  have h1_X : xn ≤ X := by omega
  have h2_X : X < M.1 := by omega
  have hXt : tx ≠ X := by omega
  obtain ⟨p0, hp0⟩ : ∃ p0, (μ i).1 = p0 := ⟨_, rfl⟩
  replace h_X : M.2 X = (.inr (10, [.long z.1, .long z.2, .long p0, wv])) := by rw [← hp0]; exact h_X
  have K : ∀ (M' : xM) (p : Int64), M'.1 = M.1 → (∀ y, y ≠ X → M'.2 y = M.2 y) → M'.2 X = (.inr (10, [.long z.1, .long z.2, .long p, wv])) → bS p (fun j => j < len ∧ q.2.2.2.2.2 (ln j) = true) → (none : Option Value) = none ∧ ∃ μ', kS r0 r1 ow rk ad A M' μ' ∧ kF r0 r1 M M' ∧ kEn len ln A μ μ' (lo i) (i + 1) := fun M' p e1 e2 e3 e4 => by
    obtain ⟨u1, u2⟩ := kS_up (i := i) (v := (p, (μ i).2)) hS e1 (Z := X) ⟨x1, x2, by rw [o3, o4]⟩ e2 (fun p' hp' => by
      rw [hq] at hp'
      cases hp'
      rw [hX]
      exact cN_m1 (M := (r1, M.2)) (M' := (r1, M'.2)) hxn hN hk (Nat.le_refl _) e2 h_X e3)
    refine ⟨rfl, _, u1, u2, fun c p' hp' z9 => ?_⟩
    by_cases e : c = i
    · subst e
      rw [hq] at hp'
      cases hp'
      rw [mUp_s]
      exact ⟨fun _ => e4, fun w => by omega, fun w => by omega, fun w => by omega⟩
    · rw [mUp_n e]
      exact z9.elim id (fun w => by omega)
  refine xc_of hg (by decide) (Nat.le_of_ble_eq_true rfl) (Or.inr (Or.inr (Or.inr (Or.inr (Or.inl ⟨rfl, rfl, fun v M' h => h.1⟩))))) ?_
  refine xj_aload_n (i := 0) d4_8_0 rfl rfl ?_
  refine xj_lconst (v := 0) d4_8_1 (by decide) ?_
  refine xj_put (a := X) (fs' := [.long z.1, .long z.2, .long 0, wv]) d4_8_2 f4_51_10 h_X (by omega) (show X < M.1 by omega) (Nat.le_of_ble_eq_true rfl) rfl rfl rfl ?_
  refine xj_abs_set (fun M1 hs1 ha1 ho1 => ?_)
  refine xj_iload_n (i := 2) d4_8_5 rfl rfl ?_
  refine xj_istore (i := 4) (L' := [(4, .int (nI s)), (0, .ref X), (1, .ref tx), (2, .int (nI s)), (3, .int (nI e))]) d4_8_6 (by decide) rfl ?_
  refine entSL hg hxn h1_tx htl hse hel hln (M0 := M1) (n := M.1) hz (show M1.1 = M.1 by omega) h1_X h2_X hXt (by omega) ((ho1 tx (by omega)).trans h_tx) (by omega) (by omega) (by omega) (fun M9 p9 e1 e2 e3 e4 k9 => ?_) len 0 M1 0 (by omega) (show M1.1 = M.1 by omega) (fun _ _ => rfl) ha1 (bS_0 (fun j q => absurd q.1 (by omega)))
  exact xj_ret d4_8_46 (by omega) (by omega) rfl (K M9 p9 e1 (fun y hy => (e2 y hy).trans (ho1 y (by omega))) e3 e4)
set_option maxRecDepth 20000 in
theorem entA2 {G : xG} (hg : xGood G) (hxn : xn = 16) {tx tl s e len : Nat} {ft : Nat → Int32} {ln : Nat → Nat} (h1_tx : xn ≤ tx) (htl : tl ≤ 40) (hse : s + len = e) (hel : e ≤ tl) (hln : ∀ k, k < len → ln k < 95 ∧ ft (s + k) = nI (ln k + 32)) {r0 r1 : Nat} {ow rk ad : Nat → Nat} {A : List xNode} {lo : Nat → Nat} (hO : ∀ (i : Nat) (q : xNode), A[i]? = some q → pOk A lo i q) (htr : tx < r0 ∨ r1 ≤ tx) {i : Nat} {q : xNode} (hq : A[i]? = some q) {M : xM} {μ : Nat → xMu} (hS : kS r0 r1 ow rk ad A M μ) (h2_tx : tx < M.1) (h_tx : M.2 tx = (.inl (1, tl, .inl ft))) (hk : q.1 = 2) : XC G Y2_5 none 0 0 0 [.ref (ad i), .ref tx, .int (nI s), .int (nI e)] M (fun v M' => v = none ∧ ∃ μ', kS r0 r1 ow rk ad A M' μ' ∧ kF r0 r1 M M' ∧ kEn len ln A μ μ' (lo i) (i + 1)) := by
  obtain ⟨x1, x2, x3, x4⟩ := kS_at hxn hS hq
  have hN := hS.2.2.2 i q hq
  obtain ⟨wv, -, ⟨-, -, o3, o4⟩, -, k2, -⟩ := id hN
  have h_X := k2 (by omega)
  clear k2
  have hlo : lo i = i := by
    obtain ⟨h1, -, -, h4, -⟩ := hO i q hq
    rw [h4 (by omega)] at h1
    exact h1
  obtain ⟨X, hX⟩ : ∃ X, ad i = X := ⟨_, rfl⟩
  rw [hX] at x1 x2 x4 h_X hN o3 o4 ⊢
  have h1_X : xn ≤ X := by omega
  have h2_X : X < M.1 := by omega
  obtain ⟨p0, hp0⟩ : ∃ p0, (μ i).1 = p0 := ⟨_, rfl⟩
  replace h_X : M.2 X = (.inr (11, [.int 1, .long p0, wv])) := by rw [if_pos hk, hp0] at h_X; exact h_X
  have K : ∀ (M' : xM) (p : Int64), M'.1 = M.1 → (∀ y, y ≠ X → M'.2 y = M.2 y) → M'.2 X = (.inr (11, [.int 1, .long p, wv])) → bS p (fun j => j = 0) → (none : Option Value) = none ∧ ∃ μ', kS r0 r1 ow rk ad A M' μ' ∧ kF r0 r1 M M' ∧ kEn len ln A μ μ' (lo i) (i + 1) := fun M' p e1 e2 e3 e4 => by
    obtain ⟨u1, u2⟩ := kS_up (i := i) (v := (p, (μ i).2)) hS e1 (Z := X) ⟨x1, x2, by rw [o3, o4]⟩ e2 (fun p' hp' => by
      rw [hq] at hp'
      cases hp'
      rw [hX]
      exact cN_m2 (M := (r1, M.2)) (M' := (r1, M'.2)) hxn hN (by omega) (Nat.le_refl _) e2 h_X e3)
    refine ⟨rfl, _, u1, u2, fun c p' hp' z9 => ?_⟩
    by_cases e : c = i
    · subst e
      rw [hq] at hp'
      cases hp'
      rw [mUp_s]
      exact ⟨fun w => by omega, fun w => e4, fun w => by omega, fun w => by omega⟩
    · rw [mUp_n e]
      exact z9.elim id (fun w => by omega)
  refine xc_of hg (by decide) (Nat.le_of_ble_eq_true rfl) (Or.inr (Or.inr (Or.inr (Or.inr (Or.inl ⟨rfl, rfl, fun v M' h => h.1⟩))))) ?_
  refine xj_aload_n (i := 0) d2_5_0 rfl rfl ?_
  refine xj_aload_n (i := 0) d2_5_1 rfl rfl ?_
  refine xj_get d2_5_2 f2_7_11 h_X (by omega) (show X < M.1 by omega) rfl ?_
  refine xj_if_eq (tgt := 12) d2_5_5 rfl (fun h => absurd h (by decide)) (fun _ => ?_)
  refine xj_lconst (v := 1) d2_5_8 (by decide) ?_
  refine xj_goto (tgt := 17) d2_5_9 rfl ?_
  refine xj_put (a := X) (fs' := [.int 1, .long 1, wv]) d2_5_17 f2_23_11 h_X (by omega) (show X < M.1 by omega) (Nat.le_of_ble_eq_true rfl) rfl rfl rfl ?_
  refine xj_abs_set (fun M1 hs1 ha1 ho1 => ?_)
  exact xj_ret d2_5_20 (by omega) (by omega) rfl (K M1 _ (show M1.1 = M.1 by omega) (fun y hy => (ho1 y (by omega))) ha1 bS_1)
set_option maxRecDepth 20000 in
theorem entA3 {G : xG} (hg : xGood G) (hxn : xn = 16) {tx tl s e len : Nat} {ft : Nat → Int32} {ln : Nat → Nat} (h1_tx : xn ≤ tx) (htl : tl ≤ 40) (hse : s + len = e) (hel : e ≤ tl) (hln : ∀ k, k < len → ln k < 95 ∧ ft (s + k) = nI (ln k + 32)) {r0 r1 : Nat} {ow rk ad : Nat → Nat} {A : List xNode} {lo : Nat → Nat} (hO : ∀ (i : Nat) (q : xNode), A[i]? = some q → pOk A lo i q) (htr : tx < r0 ∨ r1 ≤ tx) {i : Nat} {q : xNode} (hq : A[i]? = some q) {M : xM} {μ : Nat → xMu} (hS : kS r0 r1 ow rk ad A M μ) (h2_tx : tx < M.1) (h_tx : M.2 tx = (.inl (1, tl, .inl ft))) (hk : q.1 = 3) : XC G Y2_5 none 0 0 0 [.ref (ad i), .ref tx, .int (nI s), .int (nI e)] M (fun v M' => v = none ∧ ∃ μ', kS r0 r1 ow rk ad A M' μ' ∧ kF r0 r1 M M' ∧ kEn len ln A μ μ' (lo i) (i + 1)) := by
  obtain ⟨x1, x2, x3, x4⟩ := kS_at hxn hS hq
  have hN := hS.2.2.2 i q hq
  obtain ⟨wv, -, ⟨-, -, o3, o4⟩, -, k2, -⟩ := id hN
  have h_X := k2 (by omega)
  clear k2
  have hlo : lo i = i := by
    obtain ⟨h1, -, -, h4, -⟩ := hO i q hq
    rw [h4 (by omega)] at h1
    exact h1
  obtain ⟨X, hX⟩ : ∃ X, ad i = X := ⟨_, rfl⟩
  rw [hX] at x1 x2 x4 h_X hN o3 o4 ⊢
  have h1_X : xn ≤ X := by omega
  have h2_X : X < M.1 := by omega
  obtain ⟨p0, hp0⟩ : ∃ p0, (μ i).1 = p0 := ⟨_, rfl⟩
  replace h_X : M.2 X = (.inr (11, [.int 0, .long p0, wv])) := by rw [if_neg (show ¬ q.1 = 2 by omega), hp0] at h_X; exact h_X
  have K : ∀ (M' : xM) (p : Int64), M'.1 = M.1 → (∀ y, y ≠ X → M'.2 y = M.2 y) → M'.2 X = (.inr (11, [.int 0, .long p, wv])) → bS p (fun j => j = len) → (none : Option Value) = none ∧ ∃ μ', kS r0 r1 ow rk ad A M' μ' ∧ kF r0 r1 M M' ∧ kEn len ln A μ μ' (lo i) (i + 1) := fun M' p e1 e2 e3 e4 => by
    obtain ⟨u1, u2⟩ := kS_up (i := i) (v := (p, (μ i).2)) hS e1 (Z := X) ⟨x1, x2, by rw [o3, o4]⟩ e2 (fun p' hp' => by
      rw [hq] at hp'
      cases hp'
      rw [hX]
      exact cN_m2 (M := (r1, M.2)) (M' := (r1, M'.2)) hxn hN (by omega) (Nat.le_refl _) e2 h_X e3)
    refine ⟨rfl, _, u1, u2, fun c p' hp' z9 => ?_⟩
    by_cases e : c = i
    · subst e
      rw [hq] at hp'
      cases hp'
      rw [mUp_s]
      exact ⟨fun w => by omega, fun w => by omega, fun w => e4, fun w => by omega⟩
    · rw [mUp_n e]
      exact z9.elim id (fun w => by omega)
  refine xc_of hg (by decide) (Nat.le_of_ble_eq_true rfl) (Or.inr (Or.inr (Or.inr (Or.inr (Or.inl ⟨rfl, rfl, fun v M' h => h.1⟩))))) ?_
  refine xj_aload_n (i := 0) d2_5_0 rfl rfl ?_
  refine xj_aload_n (i := 0) d2_5_1 rfl rfl ?_
  refine xj_get d2_5_2 f2_7_11 h_X (by omega) (show X < M.1 by omega) rfl ?_
  refine xj_if_eq (tgt := 12) d2_5_5 rfl (fun _ => ?_) (fun h => absurd (by decide) h)
  refine xj_lconst (v := 1) d2_5_12 (by decide) ?_
  refine xj_iload_n (i := 3) d2_5_13 rfl rfl ?_
  refine xj_iload_n (i := 2) d2_5_14 rfl rfl ?_
  refine xj_isub (v := nI len) d2_5_15 (by rw [pk_sub (by omega), show e - s = len by omega]) ?_
  refine xj_lshl (v := 1 <<< ((nI len).toInt64 &&& 63)) d2_5_16 rfl ?_
  refine xj_put (a := X) (fs' := [.int 0, .long (1 <<< ((nI len).toInt64 &&& 63)), wv]) d2_5_17 f2_23_11 h_X (by omega) (show X < M.1 by omega) (Nat.le_of_ble_eq_true rfl) rfl rfl rfl ?_
  refine xj_abs_set (fun M1 hs1 ha1 ho1 => ?_)
  exact xj_ret d2_5_20 (by omega) (by omega) rfl (K M1 _ (show M1.1 = M.1 by omega) (fun y hy => (ho1 y (by omega))) ha1 (bS_one (show len < 64 by omega)))
set_option maxRecDepth 20000 in
theorem entR {G : xG} (hg : xGood G) (hxn : xn = 16) {tx tl s e len : Nat} {ft : Nat → Int32} {ln : Nat → Nat} (h1_tx : xn ≤ tx) (htl : tl ≤ 40) (hse : s + len = e) (hel : e ≤ tl) (hln : ∀ k, k < len → ln k < 95 ∧ ft (s + k) = nI (ln k + 32)) {r0 r1 : Nat} {ow rk ad : Nat → Nat} {A : List xNode} {lo : Nat → Nat} (hO : ∀ (i : Nat) (q : xNode), A[i]? = some q → pOk A lo i q) (htr : tx < r0 ∨ r1 ≤ tx) {i : Nat} {q : xNode} (hq : A[i]? = some q) {M : xM} {μ : Nat → xMu} (hS : kS r0 r1 ow rk ad A M μ) (h2_tx : tx < M.1) (h_tx : M.2 tx = (.inl (1, tl, .inl ft))) {d0 : Nat} (hk : q.1 = 4) (hIH : ∀ c ∈ q.2.2.1, ∀ (M : xM) (μ : Nat → xMu), kS r0 r1 ow rk ad A M μ → tx < M.1 → M.2 tx = (.inl (1, tl, .inl ft)) → XC G (yV_enterLine (pNd A c).1) none d0 0 0 [.ref (ad c), .ref tx, .int (nI s), .int (nI e)] M (fun v M' => v = none ∧ ∃ μ', kS r0 r1 ow rk ad A M' μ' ∧ kF r0 r1 M M' ∧ kEn len ln A μ μ' (lo c) (c + 1))) : XC G Y9_5 none (d0 + 1) 0 0 [.ref (ad i), .ref tx, .int (nI s), .int (nI e)] M (fun v M' => v = none ∧ ∃ μ', kS r0 r1 ow rk ad A M' μ' ∧ kF r0 r1 M M' ∧ kEn len ln A μ μ' (lo i) (i + 1)) := by
  obtain ⟨x1, x2, x3, x4⟩ := kS_at hxn hS hq
  have hN := hS.2.2.2 i q hq
  obtain ⟨wv0, -, ⟨-, -, o3, o4⟩, -, -, k4, -⟩ := id hN
  obtain ⟨ee, nd0, cv0, hqe, h_X, -⟩ := k4 hk
  clear k4
  obtain ⟨h1, -, -, -, -, -, h7⟩ := hO i q hq
  have hee : ee ∈ q.2.2.1 := by rw [hqe]; simp
  have hiv := (pIv_le h1).2 ee hee
  have hla : i < A.length := (List.getElem?_eq_some_iff.mp hq).1
  have hk5 := h7 (by omega) ee hee
  obtain ⟨hk1, hk6⟩ := (hO ee _ (xnd_at (show ee < A.length by omega))).2.1
  have hle : lo ee = lo i ∧ ee + 1 = i := by rw [hqe] at h1; exact ⟨h1.1, h1.2.2⟩
  have hNe0 := hS.2.2.2 ee _ (xnd_at (show ee < A.length by omega))
  have hX9 := hIH ee hee M μ hS h2_tx h_tx
  have hNe := cN_mv (M' := M) hNe0 hS.1.2 (fun _ _ => rfl) (fun _ _ _ _ => rfl) (fun _ _ _ => rfl)
  obtain ⟨y, hye⟩ : ∃ y, ad ee = y := ⟨_, rfl⟩
  obtain ⟨X, hXe⟩ : ∃ X, ad i = X := ⟨_, rfl⟩
  rw [hye] at h_X hNe hX9
  rw [hXe] at x1 x2 x4 h_X hN o3 o4 ⊢
  have h1_X : xn ≤ X := by omega
  have h2_X : X < M.1 := by omega
  refine xc_of hg (by decide) (Nat.le_of_ble_eq_true rfl) (Or.inr (Or.inr (Or.inr (Or.inr (Or.inl ⟨rfl, rfl, fun v M' h => h.1⟩))))) ?_
  refine xj_aload_n (i := 0) d9_5_0 rfl rfl ?_
  refine xj_get d9_5_1 f9_18_9 h_X (by omega) (show X < M.1 by omega) rfl ?_
  refine xj_aload_n (i := 1) d9_5_4 rfl rfl ?_
  refine xj_iload_n (i := 2) d9_5_5 rfl rfl ?_
  refine xj_iload_n (i := 3) d9_5_6 rfl rfl ?_
  refine xj_v_enterLine (rest := []) (As := [.ref tx, .int (nI s), .int (nI e)]) hNe hk1 hk6 hk5 hX9 d9_5_7 w903 rfl rfl (Nat.le_of_ble_eq_true rfl) (by omega) (by omega) (by omega) ?_
  rintro v M5 ⟨rfl, μ5, hS5, hF5, hE5⟩
  have hm5 := hF5.1
  have hN5 := hS5.2.2.2 i q hq
  obtain ⟨wv5, -, -, -, -, k45, -⟩ := id hN5
  obtain ⟨e5, nd5, cv5, he5, h_X5, -⟩ := k45 hk
  clear k45
  have he5' : e5 = ee := by rw [hqe] at he5; exact (List.singleton_inj.mp he5).symm
  rw [he5', hye, hXe] at h_X5
  rw [hXe] at hN5
  obtain ⟨ck5, hck5⟩ : ∃ x, (μ5 i).2.1 = x := ⟨_, rfl⟩
  obtain ⟨ll5, hll5⟩ : ∃ x, (μ5 i).2.2.1 = x := ⟨_, rfl⟩
  obtain ⟨ls, hls⟩ : ∃ x, q.2.2.2.1 = x := ⟨_, rfl⟩
  obtain ⟨ms, hms⟩ : ∃ x, q.2.2.2.2.1 = x := ⟨_, rfl⟩
  rw [hck5, hll5, hls, hms] at h_X5
  refine xj_aload_n (i := 0) d9_5_10 rfl rfl ?_
  refine xj_iconst (v := 0) d9_5_11 (by decide) ?_
  refine xj_put (a := X) (fs' := [.ref y, .int ls, .int ms, .ref nd5, cv5, .int 0, .int ll5, wv5]) d9_5_12 f9_66_9 h_X5 (by omega) (show X < M5.1 by omega) (Nat.le_of_ble_eq_true rfl) rfl rfl rfl ?_
  refine xj_abs_set (fun M1 hs1 ha1 ho1 => ?_)
  refine xj_aload_n (i := 0) d9_5_15 rfl rfl ?_
  refine xj_iload_n (i := 3) d9_5_16 rfl rfl ?_
  refine xj_iload_n (i := 2) d9_5_17 rfl rfl ?_
  refine xj_isub (v := nI len) d9_5_18 (by rw [pk_sub (by omega), show e - s = len by omega]) ?_
  refine xj_put (a := X) (fs' := [.ref y, .int ls, .int ms, .ref nd5, cv5, .int 0, .int (nI len), wv5]) d9_5_19 f9_70_9 ha1 (by omega) (show X < M1.1 by omega) (Nat.le_of_ble_eq_true rfl) rfl rfl rfl ?_
  refine xj_abs_set (fun M2 hs2 ha2 ho2 => ?_)
  have e1 : M2.1 = M5.1 := by omega
  have e2 : ∀ y, y ≠ X → M2.2 y = M5.2 y := fun y hy => ((ho2 y (by omega)).trans (ho1 y (by omega)))
  obtain ⟨u1, u2⟩ := kS_up (i := i) (v := ((μ5 i).1, 0, nI len, (μ5 i).2.2.2)) hS5 e1 (Z := X) ⟨x1, x2, by rw [o3, o4]⟩ e2 (fun p' hp' => by
    rw [hq] at hp'
    cases hp'
    rw [hXe]
    exact cN_m4 (M := (r1, M5.2)) (M' := (r1, M2.2)) hxn hN5 hk (Nat.le_refl _) e2 h_X5 ha2)
  refine xj_ret d9_5_22 (by omega) (by omega) rfl ⟨rfl, _, u1, kF_t hF5 u2, fun c p' hp' z9 => ?_⟩
  by_cases e9 : c = i
  · subst e9
    rw [hq] at hp'
    cases hp'
    rw [mUp_s]
    exact ⟨fun w => by omega, fun w => by omega, fun w => by omega, fun _ => ⟨rfl, Or.inl rfl⟩⟩
  · rw [mUp_n e9]
    exact hE5 c p' hp' (z9.imp_right (fun w => by omega))

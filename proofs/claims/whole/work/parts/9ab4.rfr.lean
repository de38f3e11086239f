theorem lb_tst {x : Int64} {k : Nat} (hk : k < 64) : lg_cmp ((x >>> ((nI k).toInt64 &&& 63)) &&& 1) 0 = 0 ↔ lb x k = false := by
  rw [lcmp_0, lb_a1, lb_shr hk]
set_option maxRecDepth 20000 in
theorem mOnL {G : xG} (hg : xGood G) (hxn : xn = 16) {n : Nat} (hn2 : 52 ≤ n) {dl : Nat} {pl : Nat} {vc : Nat} {tk : Nat} {hc : Nat} {sn : Nat} {y13 : Int32} {y22 : Int32} {y23 : Int32} {y24 : Int32} {y33 : Int32} {y38 : Int32} {y39 : Int32} {len ls : Nat} (hl40 : len ≤ 40) {M : xM} (hn : M.1 = n) {rc : Nat → Int64} {nd : Nat} {x : Int64} {R : Nat → Nat → Prop} (h_24 : M.2 24 = (.inr (12, [.ref 25, .ref 26, .ref 27, .ref 28, .ref 29, .ref 30, .int (nI sn), .int (nI vc), .int (nI tk), .ref 31, .int (nI dl), .ref 32, .int (nI pl), .int y13, .ref 33, .ref 34, .ref 35, .ref 36, .ref 37, .ref 38, .ref 39, .ref 40, .int y22, .int y23, .int y24, .ref 41, .ref 42, .ref 43, .ref 44, .ref 45, .ref 46, .ref 47, .ref 48, .int y33, .ref 49, .ref 50, .int (nI ls), .int (nI len), .int y38, .int y39, .int (nI hc), .ref 51]))) (k50 : M.2 50 = (.inl (3, 1230, .inr (.inl rc)))) (hnd : nd < 30) (hrc : ∀ a, a ≤ len → bS (rc (41 * nd + a)) (fun j => R a j)) {d ce se cells slots : Nat} (hcc : cells ≤ ce) (hss : slots ≤ se) : ∀ (r k : Nat) (y : Int64), k + r = len + 1 → bS y (fun j => ∃ a, a < k ∧ lb x a = true ∧ R a j) → XJ G Y14_57 d ce se cells slots 6 [(6, .int (nI k)), (4, .long y), (0, .ref 24), (1, .int (nI nd)), (2, .long x)] [] M (fun v M' => (∃ y, v = some (.long y) ∧ bS y (rI R len x)) ∧ M' = M) := by
  intro r
  induction r with
  | zero =>
    intro k y hk hy
    refine xj_iload (i := 6) d14_57_6 rfl ?_
    refine xj_aload_n (i := 0) d14_57_8 rfl rfl ?_
    refine xj_get d14_57_9 f14_261_12 h_24 (by omega) (show 24 < M.1 by omega) rfl ?_
    refine xj_icmp_gt (tgt := 49) d14_57_12 rfl (fun _ => ?_) (fun h => absurd (nI_lt (a := len) (b := k) (by omega) (by omega)) h)
    refine xj_lload (i := 4) d14_57_49 rfl ?_
    exact xj_ret d14_57_51 hcc hss rfl ⟨⟨y, rfl, bS_cg hy (fun j _ => ⟨fun ⟨a, a1, a2⟩ => ⟨a, by omega, a2⟩, fun ⟨a, a1, a2⟩ => ⟨a, by omega, a2⟩⟩)⟩, rfl⟩
  | succ r ih =>
    intro k y hk hy
    by_cases hb : lb x k = true
    · skip
      refine xj_iload (i := 6) d14_57_6 rfl ?_
      refine xj_aload_n (i := 0) d14_57_8 rfl rfl ?_
      refine xj_get d14_57_9 f14_261_12 h_24 (by omega) (show 24 < M.1 by omega) rfl ?_
      refine xj_icmp_gt (tgt := 49) d14_57_12 rfl (fun h => absurd h (nI_nlt (a := len) (b := k) (by omega) (by omega))) (fun _ => ?_)
      refine xj_lload_n (i := 2) d14_57_15 rfl rfl ?_
      refine xj_iload (i := 6) d14_57_16 rfl ?_
      refine xj_lshr (v := x >>> ((nI k).toInt64 &&& 63)) d14_57_18 rfl ?_
      refine xj_lconst (v := 1) d14_57_19 (by decide) ?_
      refine xj_land (v := (x >>> ((nI k).toInt64 &&& 63)) &&& 1) d14_57_20 rfl ?_
      refine xj_lconst (v := 0) d14_57_21 (by decide) ?_
      refine xj_lcmp (v := lg_cmp ((x >>> ((nI k).toInt64 &&& 63)) &&& 1) 0) d14_57_22 rfl ?_
      refine xj_if_eq (tgt := 43) d14_57_23 rfl (fun h => absurd h (fun q => by have := (lb_tst (show k < 64 by omega)).mp q; rw [hb] at this; cases this)) (fun _ => ?_)
      refine xj_lload (i := 4) d14_57_26 rfl ?_
      refine xj_aload_n (i := 0) d14_57_28 rfl rfl ?_
      refine xj_get d14_57_29 f14_86_12 h_24 (by omega) (show 24 < M.1 by omega) rfl ?_
      refine xj_bipush (v := 41) d14_57_32 (by decide) ?_
      refine xj_iload_n (i := 1) d14_57_34 rfl rfl ?_
      refine xj_imul (v := nI (41 * nd)) d14_57_35 (pk_mul 41 nd) ?_
      refine xj_iload (i := 6) d14_57_36 rfl ?_
      refine xj_iadd (v := nI (41 * nd + k)) d14_57_38 (nI_add (41 * nd) k) ?_
      refine xj_laload (j := 41 * nd + k) d14_57_39 k50 (by omega) (show 50 < M.1 by omega) (vp_in_nI (by omega) (by omega)) (nI_clamp (by omega)) ?_
      refine xj_lor (v := y ||| (rc (41 * nd + k))) d14_57_40 rfl ?_
      refine xj_lstore (i := 4) (L' := [(4, .long (y ||| (rc (41 * nd + k)))), (6, .int (nI k)), (0, .ref 24), (1, .int (nI nd)), (2, .long x)]) d14_57_41 (by decide) rfl ?_
      refine xj_iinc (v := nI (k + 1)) (L' := [(6, .int (nI (k + 1))), (4, .long (y ||| (rc (41 * nd + k)))), (0, .ref 24), (1, .int (nI nd)), (2, .long x)]) d14_57_43 rfl (xinc _) (by decide) rfl ?_
      refine xj_goto (tgt := 6) d14_57_46 rfl ?_
      refine xj_sub (L' := [(6, .int (nI (k + 1))), (4, .long (y ||| (rc (41 * nd + k)))), (0, .ref 24), (1, .int (nI nd)), (2, .long x)]) (fun q hq => by simp only [List.mem_cons, List.not_mem_nil, or_false] at hq ⊢; rcases hq with rfl | rfl | rfl | rfl | rfl <;> simp) ?_
      exact ih (k + 1) _ (by omega) (bS_cg (bS_or hy (hrc k (by omega))) (fun j _ => ⟨fun z => z.elim (fun ⟨a, a1, a2⟩ => ⟨a, by omega, a2⟩) (fun z => ⟨k, by omega, hb, z⟩), fun ⟨a, a1, a2, a3⟩ => if e : a = k then Or.inr (by rw [← e]; exact a3) else Or.inl ⟨a, by omega, a2, a3⟩⟩))
    · skip
      refine xj_iload (i := 6) d14_57_6 rfl ?_
      refine xj_aload_n (i := 0) d14_57_8 rfl rfl ?_
      refine xj_get d14_57_9 f14_261_12 h_24 (by omega) (show 24 < M.1 by omega) rfl ?_
      refine xj_icmp_gt (tgt := 49) d14_57_12 rfl (fun h => absurd h (nI_nlt (a := len) (b := k) (by omega) (by omega))) (fun _ => ?_)
      refine xj_lload_n (i := 2) d14_57_15 rfl rfl ?_
      refine xj_iload (i := 6) d14_57_16 rfl ?_
      refine xj_lshr (v := x >>> ((nI k).toInt64 &&& 63)) d14_57_18 rfl ?_
      refine xj_lconst (v := 1) d14_57_19 (by decide) ?_
      refine xj_land (v := (x >>> ((nI k).toInt64 &&& 63)) &&& 1) d14_57_20 rfl ?_
      refine xj_lconst (v := 0) d14_57_21 (by decide) ?_
      refine xj_lcmp (v := lg_cmp ((x >>> ((nI k).toInt64 &&& 63)) &&& 1) 0) d14_57_22 rfl ?_
      refine xj_if_eq (tgt := 43) d14_57_23 rfl (fun _ => ?_) (fun h => absurd ((lb_tst (show k < 64 by omega)).mpr (by cases h9 : lb x k with | false => rfl | true => exact absurd h9 hb)) h)
      refine xj_iinc (v := nI (k + 1)) (L' := [(6, .int (nI (k + 1))), (4, .long y), (0, .ref 24), (1, .int (nI nd)), (2, .long x)]) d14_57_43 rfl (xinc _) (by decide) rfl ?_
      refine xj_goto (tgt := 6) d14_57_46 rfl ?_
      refine xj_sub (L' := [(6, .int (nI (k + 1))), (4, .long y), (0, .ref 24), (1, .int (nI nd)), (2, .long x)]) (fun q hq => by simp only [List.mem_cons, List.not_mem_nil, or_false] at hq ⊢; rcases hq with rfl | rfl | rfl | rfl | rfl <;> simp) ?_
      exact ih (k + 1) _ (by omega) (bS_cg hy (fun j _ => ⟨fun ⟨a, a1, a2⟩ => ⟨a, by omega, a2⟩, fun ⟨a, a1, a2, a3⟩ => ⟨a, Classical.byContradiction fun w => hb (by rw [show k = a by omega]; exact a2), a2, a3⟩⟩))
set_option maxRecDepth 20000 in
theorem mOn {G : xG} (hg : xGood G) (hxn : xn = 16) {n : Nat} (hn2 : 52 ≤ n) {dl : Nat} {pl : Nat} {vc : Nat} {tk : Nat} {hc : Nat} {sn : Nat} {y13 : Int32} {y22 : Int32} {y23 : Int32} {y24 : Int32} {y33 : Int32} {y38 : Int32} {y39 : Int32} {len ls : Nat} (hl40 : len ≤ 40) {M : xM} (hn : M.1 = n) {rc : Nat → Int64} {nd : Nat} {x : Int64} {R : Nat → Nat → Prop} (h_24 : M.2 24 = (.inr (12, [.ref 25, .ref 26, .ref 27, .ref 28, .ref 29, .ref 30, .int (nI sn), .int (nI vc), .int (nI tk), .ref 31, .int (nI dl), .ref 32, .int (nI pl), .int y13, .ref 33, .ref 34, .ref 35, .ref 36, .ref 37, .ref 38, .ref 39, .ref 40, .int y22, .int y23, .int y24, .ref 41, .ref 42, .ref 43, .ref 44, .ref 45, .ref 46, .ref 47, .ref 48, .int y33, .ref 49, .ref 50, .int (nI ls), .int (nI len), .int y38, .int y39, .int (nI hc), .ref 51]))) (k50 : M.2 50 = (.inl (3, 1230, .inr (.inl rc)))) (hnd : nd < 30) (hrc : ∀ a, a ≤ len → bS (rc (41 * nd + a)) (fun j => R a j)) : XC G Y14_57 (some .long) 0 0 0 [.ref 24, .int (nI nd), .long x] M (fun v M' => (∃ y, v = some (.long y) ∧ bS y (rI R len x)) ∧ M' = M) := by
  refine xc_of hg (by decide) (Nat.le_of_ble_eq_true rfl) (Or.inr (Or.inr (Or.inr (Or.inl ⟨rfl, rfl, fun v M' h => by obtain ⟨⟨y, h, -⟩, -⟩ := h; exact ⟨y, h⟩⟩)))) ?_
  refine xj_lconst (v := 0) d14_57_0 (by decide) ?_
  refine xj_lstore (i := 4) (L' := [(4, .long 0), (0, .ref 24), (1, .int (nI nd)), (2, .long x)]) d14_57_1 (by decide) rfl ?_
  refine xj_iconst (v := 0) d14_57_3 (by decide) ?_
  refine xj_istore (i := 6) (L' := [(6, .int 0), (4, .long 0), (0, .ref 24), (1, .int (nI nd)), (2, .long x)]) d14_57_4 (by decide) rfl ?_
  refine xj_sub (L' := [(6, .int 0), (4, .long 0), (0, .ref 24), (1, .int (nI nd)), (2, .long x)]) (fun q hq => by simp only [List.mem_cons, List.not_mem_nil, or_false] at hq ⊢; rcases hq with rfl | rfl | rfl | rfl | rfl <;> simp) ?_
  exact mOnL hg hxn hn2 hl40 hn h_24 k50 hnd hrc (by omega) (by omega) (len + 1) 0 0 (by omega) (bS_0 (fun j ⟨a, a1, _⟩ => absurd a1 (by omega)))
set_option maxRecDepth 20000 in
theorem mFr5 {G : xG} (hg : xGood G) (hxn : xn = 16) {n : Nat} (hn2 : 52 ≤ n) {dl : Nat} {pl : Nat} {vc : Nat} {tk : Nat} {hc : Nat} {sn : Nat} {y13 : Int32} {y22 : Int32} {y23 : Int32} {y24 : Int32} {y33 : Int32} {y38 : Int32} {y39 : Int32} {len ls : Nat} (hl40 : len ≤ 40) {M : xM} (hn : M.1 = n) {tx kd ch nx lo hi wt cs : Nat → Int32} {rc : Nat → Int64} {A : List xNode} {lo_ : Nat → Nat} {ln : Nat → Nat} (h_24 : M.2 24 = (.inr (12, [.ref 25, .ref 26, .ref 27, .ref 28, .ref 29, .ref 30, .int (nI sn), .int (nI vc), .int (nI tk), .ref 31, .int (nI dl), .ref 32, .int (nI pl), .int y13, .ref 33, .ref 34, .ref 35, .ref 36, .ref 37, .ref 38, .ref 39, .ref 40, .int y22, .int y23, .int y24, .ref 41, .ref 42, .ref 43, .ref 44, .ref 45, .ref 46, .ref 47, .ref 48, .int y33, .ref 49, .ref 50, .int (nI ls), .int (nI len), .int y38, .int y39, .int (nI hc), .ref 51]))) (k25 : M.2 25 = (.inl (0, 5120, .inl tx))) (k33 : M.2 33 = (.inl (0, 30, .inl kd))) (k34 : M.2 34 = (.inl (0, 30, .inl ch))) (k35 : M.2 35 = (.inl (0, 30, .inl nx))) (k37 : M.2 37 = (.inl (0, 30, .inl lo))) (k38 : M.2 38 = (.inl (0, 30, .inl hi))) (k40 : M.2 40 = (.inl (2, 2850, .inl cs))) (k50 : M.2 50 = (.inl (3, 1230, .inr (.inl rc)))) (hA26 : A.length ≤ 26) (hO : ∀ (i : Nat) (q : xNode), A[i]? = some q → pOk A lo_ i q) (hN : ∀ (i : Nat) (q : xNode), A[i]? = some q → nS kd ch nx lo hi wt cs i q) (hls : ls + len ≤ 5120) (hln : ∀ k, k < len → ln k < 95 ∧ tx (ls + k) = nI (ln k + 32)) {nd i : Nat} {q : xNode} (hq : A[nd]? = some q) (hi9 : i ≤ len) (hrc : ∀ c a, c < nd → a ≤ len → bS (rc (41 * c + a)) (fun j => rY len ln A c a j)) (hq1 : q.1 = 5) (hnd : nd < A.length) {d ce se cells slots : Nat} (hd : 1 ≤ d) (hcc : cells ≤ ce) (hss : slots ≤ se) : ∀ (rest dn : List Nat) (p : Int32) (h : Int64), q.2.2.1 = dn ++ rest → xCn nx p rest → bS h (rI (fun a b => rPa (rY len ln A) dn a b) len ((1 : Int64) <<< ((nI i).toInt64 &&& 63))) → XJ G Y14_58 d ce se cells slots 126 [(7, .int p), (3, .long h), (5, .long 0), (0, .ref 24), (1, .int (nI nd)), (2, .int (nI i))] [] M (fun v M' => (∃ y, v = some (.long y) ∧ bS y (fun j => rY len ln A nd i j)) ∧ M' = M) := by
  have hiv := pIv_le (hO nd q hq).1
  intro rest
  induction rest with
  | nil =>
    intro dn p h hsp hcn hh
    have hp : p = -1 := hcn
    subst hp
    rw [List.append_nil] at hsp
    refine xj_iload (i := 7) d14_58_126 rfl ?_
    refine xj_if_lt (tgt := 151) d14_58_128 rfl (fun _ => ?_) (fun h => absurd (by decide) h)
    refine xj_lload_n (i := 3) d14_58_151 rfl rfl ?_
    exact xj_ret d14_58_152 hcc hss rfl ⟨⟨h, rfl, bS_cg hh (fun j _ => by rw [rY_iff (len := len) (ln := ln) hq i j]; exact ⟨fun ⟨a, a1, a2, a3⟩ => by rw [(bS_one (show i < 64 by omega) a (by omega)).mp a2, ← hsp] at a3; exact Or.inr (Or.inr (Or.inr (Or.inr (Or.inl ⟨hq1, a3⟩)))), fun z => by rcases z with ⟨e, -⟩ | ⟨e, -⟩ | ⟨e, -⟩ | ⟨e, -⟩ | ⟨-, e⟩ | ⟨e, -⟩ <;> first | exact ⟨i, hi9, (bS_one (show i < 64 by omega) i (by omega)).mpr rfl, by rw [← hsp]; exact e⟩ | omega⟩)⟩, rfl⟩
  | cons c rest ih =>
    intro dn p h hsp hcn hh
    have hp : p = nI c := hcn.1
    subst hp
    have hc := (hiv.2 c (by rw [hsp]; simp)).2.1
    have hPle : ∀ a b, rPa (rY len ln A) dn a b → a ≤ len → a ≤ b ∧ b ≤ len := fun a b z => rPa_le (fun c a b z => rY_le z) z
    refine xj_iload (i := 7) d14_58_126 rfl ?_
    refine xj_if_lt (tgt := 151) d14_58_128 rfl (fun h => absurd h (nI_pos (by omega))) (fun _ => ?_)
    refine xj_aload_n (i := 0) d14_58_131 rfl rfl ?_
    refine xj_iload (i := 7) d14_58_132 rfl ?_
    refine xj_lload_n (i := 3) d14_58_134 rfl rfl ?_
    refine xj_callV (rest := []) (As := [.int (nI c), .long h]) (b := 24) (mOn hg hxn hn2 hl40 hn h_24 k50 (nd := c) (x := h) (R := fun a j => rY len ln A c a j) (by omega) (fun a ha => hrc c a (by omega) ha)) d14_58_135 wd14_57 h_24 (by omega) (show 24 < M.1 by omega) rfl s14_57 w1366 (Or.inl w1364) rfl rfl (Nat.le_of_ble_eq_true rfl) (by omega) (by omega) (by omega) ?_
    rintro v9 M' ⟨⟨y9, rfl, hY9⟩, hm9⟩
    subst M'
    refine xj_lstore_n (i := 3) (L' := [(3, .long y9), (7, .int (nI c)), (5, .long 0), (0, .ref 24), (1, .int (nI nd)), (2, .int (nI i))]) d14_58_138 rfl (by decide) rfl ?_
    refine xj_aload_n (i := 0) d14_58_139 rfl rfl ?_
    refine xj_get d14_58_140 f14_41_12 h_24 (by omega) (show 24 < M.1 by omega) rfl ?_
    refine xj_iload (i := 7) d14_58_143 rfl ?_
    refine xj_iaload (j := c) d14_58_145 k35 (by omega) (show 35 < M.1 by omega) (vp_in_nI (by omega) (by omega)) (nI_clamp (by omega)) ?_
    refine xj_istore (i := 7) (L' := [(7, .int (nx c)), (3, .long y9), (5, .long 0), (0, .ref 24), (1, .int (nI nd)), (2, .int (nI i))]) d14_58_146 (by decide) rfl ?_
    refine xj_goto (tgt := 126) d14_58_148 rfl ?_
    refine xj_sub (L' := [(7, .int (nx c)), (3, .long y9), (5, .long 0), (0, .ref 24), (1, .int (nI nd)), (2, .int (nI i))]) (fun q hq => by simp only [List.mem_cons, List.not_mem_nil, or_false] at hq ⊢; rcases hq with rfl | rfl | rfl | rfl | rfl | rfl <;> simp) ?_
    exact ih (dn ++ [c]) (nx c) y9 (by rw [hsp]; simp) hcn.2 (bS_cg hY9 (fun j _ => (rI_comp hl40 hPle hh j).trans (rI_cg (fun a b => rPa_snoc.symm) j)))
set_option maxRecDepth 20000 in
theorem mFr6 {G : xG} (hg : xGood G) (hxn : xn = 16) {n : Nat} (hn2 : 52 ≤ n) {dl : Nat} {pl : Nat} {vc : Nat} {tk : Nat} {hc : Nat} {sn : Nat} {y13 : Int32} {y22 : Int32} {y23 : Int32} {y24 : Int32} {y33 : Int32} {y38 : Int32} {y39 : Int32} {len ls : Nat} (hl40 : len ≤ 40) {M : xM} (hn : M.1 = n) {tx kd ch nx lo hi wt cs : Nat → Int32} {rc : Nat → Int64} {A : List xNode} {lo_ : Nat → Nat} {ln : Nat → Nat} (h_24 : M.2 24 = (.inr (12, [.ref 25, .ref 26, .ref 27, .ref 28, .ref 29, .ref 30, .int (nI sn), .int (nI vc), .int (nI tk), .ref 31, .int (nI dl), .ref 32, .int (nI pl), .int y13, .ref 33, .ref 34, .ref 35, .ref 36, .ref 37, .ref 38, .ref 39, .ref 40, .int y22, .int y23, .int y24, .ref 41, .ref 42, .ref 43, .ref 44, .ref 45, .ref 46, .ref 47, .ref 48, .int y33, .ref 49, .ref 50, .int (nI ls), .int (nI len), .int y38, .int y39, .int (nI hc), .ref 51]))) (k25 : M.2 25 = (.inl (0, 5120, .inl tx))) (k33 : M.2 33 = (.inl (0, 30, .inl kd))) (k34 : M.2 34 = (.inl (0, 30, .inl ch))) (k35 : M.2 35 = (.inl (0, 30, .inl nx))) (k37 : M.2 37 = (.inl (0, 30, .inl lo))) (k38 : M.2 38 = (.inl (0, 30, .inl hi))) (k40 : M.2 40 = (.inl (2, 2850, .inl cs))) (k50 : M.2 50 = (.inl (3, 1230, .inr (.inl rc)))) (hA26 : A.length ≤ 26) (hO : ∀ (i : Nat) (q : xNode), A[i]? = some q → pOk A lo_ i q) (hN : ∀ (i : Nat) (q : xNode), A[i]? = some q → nS kd ch nx lo hi wt cs i q) (hls : ls + len ≤ 5120) (hln : ∀ k, k < len → ln k < 95 ∧ tx (ls + k) = nI (ln k + 32)) {nd i : Nat} {q : xNode} (hq : A[nd]? = some q) (hi9 : i ≤ len) (hrc : ∀ c a, c < nd → a ≤ len → bS (rc (41 * c + a)) (fun j => rY len ln A c a j)) (hq1 : q.1 = 6) (hnd : nd < A.length) {d ce se cells slots : Nat} (hcc : cells ≤ ce) (hss : slots ≤ se) : ∀ (rest dn : List Nat) (p : Int32) (al : Int64), q.2.2.1 = dn ++ rest → xCn nx p rest → bS al (fun j => ∃ c8 ∈ dn, rY len ln A c8 i j) → XJ G Y14_58 d ce se cells slots 172 [(7, .int p), (5, .long al), (3, .long (1 <<< ((nI i).toInt64 &&& 63))), (0, .ref 24), (1, .int (nI nd)), (2, .int (nI i))] [] M (fun v M' => (∃ y, v = some (.long y) ∧ bS y (fun j => rY len ln A nd i j)) ∧ M' = M) := by
  have hiv := pIv_le (hO nd q hq).1
  intro rest
  induction rest with
  | nil =>
    intro dn p al hsp hcn hh
    have hp : p = -1 := hcn
    subst hp
    rw [List.append_nil] at hsp
    refine xj_iload (i := 7) d14_58_172 rfl ?_
    refine xj_if_lt (tgt := 206) d14_58_174 rfl (fun _ => ?_) (fun h => absurd (by decide) h)
    refine xj_lload (i := 5) d14_58_206 rfl ?_
    exact xj_ret d14_58_208 hcc hss rfl ⟨⟨al, rfl, bS_cg hh (fun j _ => by rw [rY_iff (len := len) (ln := ln) hq i j, ← hsp]; exact ⟨fun z => Or.inr (Or.inr (Or.inr (Or.inr (Or.inr ⟨hq1, z⟩)))), fun z => by rcases z with ⟨e, -⟩ | ⟨e, -⟩ | ⟨e, -⟩ | ⟨e, -⟩ | ⟨e, -⟩ | ⟨-, e⟩ <;> first | exact e | omega⟩)⟩, rfl⟩
  | cons c rest ih =>
    intro dn p al hsp hcn hh
    have hp : p = nI c := hcn.1
    subst hp
    have hc := (hiv.2 c (by rw [hsp]; simp)).2.1
    refine xj_iload (i := 7) d14_58_172 rfl ?_
    refine xj_if_lt (tgt := 206) d14_58_174 rfl (fun h => absurd h (nI_pos (by omega))) (fun _ => ?_)
    refine xj_lload (i := 5) d14_58_177 rfl ?_
    refine xj_aload_n (i := 0) d14_58_179 rfl rfl ?_
    refine xj_get d14_58_180 f14_86_12 h_24 (by omega) (show 24 < M.1 by omega) rfl ?_
    refine xj_bipush (v := 41) d14_58_183 (by decide) ?_
    refine xj_iload (i := 7) d14_58_185 rfl ?_
    refine xj_imul (v := nI (41 * c)) d14_58_187 (pk_mul 41 c) ?_
    refine xj_iload_n (i := 2) d14_58_188 rfl rfl ?_
    refine xj_iadd (v := nI (41 * c + i)) d14_58_189 (nI_add (41 * c) i) ?_
    refine xj_laload (j := 41 * c + i) d14_58_190 k50 (by omega) (show 50 < M.1 by omega) (vp_in_nI (by omega) (by omega)) (nI_clamp (by omega)) ?_
    refine xj_lor (v := al ||| (rc (41 * c + i))) d14_58_191 rfl ?_
    refine xj_lstore (i := 5) (L' := [(5, .long (al ||| (rc (41 * c + i)))), (7, .int (nI c)), (3, .long (1 <<< ((nI i).toInt64 &&& 63))), (0, .ref 24), (1, .int (nI nd)), (2, .int (nI i))]) d14_58_192 (by decide) rfl ?_
    refine xj_aload_n (i := 0) d14_58_194 rfl rfl ?_
    refine xj_get d14_58_195 f14_41_12 h_24 (by omega) (show 24 < M.1 by omega) rfl ?_
    refine xj_iload (i := 7) d14_58_198 rfl ?_
    refine xj_iaload (j := c) d14_58_200 k35 (by omega) (show 35 < M.1 by omega) (vp_in_nI (by omega) (by omega)) (nI_clamp (by omega)) ?_
    refine xj_istore (i := 7) (L' := [(7, .int (nx c)), (5, .long (al ||| (rc (41 * c + i)))), (3, .long (1 <<< ((nI i).toInt64 &&& 63))), (0, .ref 24), (1, .int (nI nd)), (2, .int (nI i))]) d14_58_201 (by decide) rfl ?_
    refine xj_goto (tgt := 172) d14_58_203 rfl ?_
    refine xj_sub (L' := [(7, .int (nx c)), (5, .long (al ||| (rc (41 * c + i)))), (3, .long (1 <<< ((nI i).toInt64 &&& 63))), (0, .ref 24), (1, .int (nI nd)), (2, .int (nI i))]) (fun q hq => by simp only [List.mem_cons, List.not_mem_nil, or_false] at hq ⊢; rcases hq with rfl | rfl | rfl | rfl | rfl | rfl <;> simp) ?_
    exact ih (dn ++ [c]) (nx c) _ (by rw [hsp]; simp) hcn.2 (bS_cg (bS_or hh (hrc c i hc hi9)) (fun j _ => ⟨fun z => z.elim (fun ⟨c8, c1, c2⟩ => ⟨c8, List.mem_append.mpr (Or.inl c1), c2⟩) (fun z => ⟨c, by simp, z⟩), fun ⟨c8, c1, c2⟩ => by rcases List.mem_append.mp c1 with w | w; exact Or.inl ⟨c8, w, c2⟩; rw [List.mem_singleton.mp w] at c2; exact Or.inr c2⟩))
set_option maxRecDepth 20000 in
theorem mFr4 {G : xG} (hg : xGood G) (hxn : xn = 16) {n : Nat} (hn2 : 52 ≤ n) {dl : Nat} {pl : Nat} {vc : Nat} {tk : Nat} {hc : Nat} {sn : Nat} {y13 : Int32} {y22 : Int32} {y23 : Int32} {y24 : Int32} {y33 : Int32} {y38 : Int32} {y39 : Int32} {len ls : Nat} (hl40 : len ≤ 40) {M : xM} (hn : M.1 = n) {tx kd ch nx lo hi wt cs : Nat → Int32} {rc : Nat → Int64} {A : List xNode} {lo_ : Nat → Nat} {ln : Nat → Nat} (h_24 : M.2 24 = (.inr (12, [.ref 25, .ref 26, .ref 27, .ref 28, .ref 29, .ref 30, .int (nI sn), .int (nI vc), .int (nI tk), .ref 31, .int (nI dl), .ref 32, .int (nI pl), .int y13, .ref 33, .ref 34, .ref 35, .ref 36, .ref 37, .ref 38, .ref 39, .ref 40, .int y22, .int y23, .int y24, .ref 41, .ref 42, .ref 43, .ref 44, .ref 45, .ref 46, .ref 47, .ref 48, .int y33, .ref 49, .ref 50, .int (nI ls), .int (nI len), .int y38, .int y39, .int (nI hc), .ref 51]))) (k25 : M.2 25 = (.inl (0, 5120, .inl tx))) (k33 : M.2 33 = (.inl (0, 30, .inl kd))) (k34 : M.2 34 = (.inl (0, 30, .inl ch))) (k35 : M.2 35 = (.inl (0, 30, .inl nx))) (k37 : M.2 37 = (.inl (0, 30, .inl lo))) (k38 : M.2 38 = (.inl (0, 30, .inl hi))) (k40 : M.2 40 = (.inl (2, 2850, .inl cs))) (k50 : M.2 50 = (.inl (3, 1230, .inr (.inl rc)))) (hA26 : A.length ≤ 26) (hO : ∀ (i : Nat) (q : xNode), A[i]? = some q → pOk A lo_ i q) (hN : ∀ (i : Nat) (q : xNode), A[i]? = some q → nS kd ch nx lo hi wt cs i q) (hls : ls + len ≤ 5120) (hln : ∀ k, k < len → ln k < 95 ∧ tx (ls + k) = nI (ln k + 32)) {nd i : Nat} {q : xNode} (hq : A[nd]? = some q) (hi9 : i ≤ len) (hrc : ∀ c a, c < nd → a ≤ len → bS (rc (41 * c + a)) (fun j => rY len ln A c a j)) {ee kk mo : Nat} (hee : ee < nd) (hnd : nd < A.length) (hche : ch nd = nI ee) (hlok : lo nd = nI kk) (hkk : kk ≤ 9) (hmo : mo ≤ 50) {d ce se cells slots : Nat} {Post : Option Value → xM → Prop} (hd : 1 ≤ d) (hcc : cells ≤ ce) (hss : slots ≤ se) (K : ∀ y, bS y (fun j => ∃ m, kk ≤ m ∧ m ≤ mo ∧ rIt (rY len ln A ee) m i j) → Post (some (.long y)) M) : ∀ (r k : Nat) (al h : Int64), k + r = mo + 1 → bS h (rI (fun a j => rIt (rY len ln A ee) k a j) len ((1 : Int64) <<< ((nI i).toInt64 &&& 63))) → bS al (fun j => ∃ m, kk ≤ m ∧ m < k ∧ rIt (rY len ln A ee) m i j) → XJ G Y14_58 d ce se cells slots 241 [(8, .int (nI k)), (3, .long h), (5, .long al), (7, .int (nI mo)), (0, .ref 24), (1, .int (nI nd)), (2, .int (nI i))] [] M Post := by
  have hRle : ∀ a b, (rY len ln A ee) a b → a ≤ len → a ≤ b ∧ b ≤ len := fun a b z => rY_le z
  intro r
  induction r with
  | zero =>
    intro k al h hk hh ha
    refine xj_iload (i := 8) d14_58_241 rfl ?_
    refine xj_iload (i := 7) d14_58_243 rfl ?_
    refine xj_icmp_gt (tgt := 294) d14_58_245 rfl (fun _ => ?_) (fun h => absurd (nI_lt (a := mo) (b := k) (by omega) (by omega)) h)
    refine xj_lload (i := 5) d14_58_294 rfl ?_
    exact xj_ret d14_58_296 hcc hss rfl (K al (bS_cg ha (fun j _ => ⟨fun ⟨m, m1, m2, m3⟩ => ⟨m, m1, by omega, m3⟩, fun ⟨m, m1, m2, m3⟩ => ⟨m, m1, by omega, m3⟩⟩)))
  | succ r ih =>
    intro k al h hk hh ha
    have hIle : ∀ a b, rIt (rY len ln A ee) k a b → a ≤ len → a ≤ b ∧ b ≤ len := fun a b z => rIt_le hRle z
    by_cases hh0 : h = 0
    · skip
      refine xj_iload (i := 8) d14_58_241 rfl ?_
      refine xj_iload (i := 7) d14_58_243 rfl ?_
      refine xj_icmp_gt (tgt := 294) d14_58_245 rfl (fun h => absurd h (nI_nlt (a := mo) (b := k) (by omega) (by omega))) (fun _ => ?_)
      refine xj_lload_n (i := 3) d14_58_248 rfl rfl ?_
      refine xj_lconst (v := 0) d14_58_249 (by decide) ?_
      refine xj_lcmp (v := lg_cmp h 0) d14_58_250 rfl ?_
      refine xj_if_eq (tgt := 294) d14_58_251 rfl (fun _ => ?_) (fun h => absurd ((lcmp_0 _).mpr hh0) h)
      refine xj_lload (i := 5) d14_58_294 rfl ?_
      exact xj_ret d14_58_296 hcc hss rfl (K al (bS_cg ha (fun j hj => ⟨fun ⟨m, m1, m2, m3⟩ => ⟨m, m1, by omega, m3⟩, fun ⟨m, m1, m2, m3⟩ => ⟨m, m1, Classical.byContradiction fun w => by
        rw [show m = k + (m - k) by omega] at m3
        obtain ⟨b, b1, b2⟩ := rIt_split m3
        have h5 := hIle i b b1 hi9
        exact bS_z hh hh0 b (by omega) ⟨i, hi9, (bS_one (show i < 64 by omega) i (by omega)).mpr rfl, b1⟩, m3⟩⟩)))
    · by_cases hlk : k < kk
      · skip
        refine xj_iload (i := 8) d14_58_241 rfl ?_
        refine xj_iload (i := 7) d14_58_243 rfl ?_
        refine xj_icmp_gt (tgt := 294) d14_58_245 rfl (fun h => absurd h (nI_nlt (a := mo) (b := k) (by omega) (by omega))) (fun _ => ?_)
        refine xj_lload_n (i := 3) d14_58_248 rfl rfl ?_
        refine xj_lconst (v := 0) d14_58_249 (by decide) ?_
        refine xj_lcmp (v := lg_cmp h 0) d14_58_250 rfl ?_
        refine xj_if_eq (tgt := 294) d14_58_251 rfl (fun h => absurd h (fun z => hh0 (xlcmp_eq z))) (fun _ => ?_)
        refine xj_iload (i := 8) d14_58_254 rfl ?_
        refine xj_aload_n (i := 0) d14_58_256 rfl rfl ?_
        refine xj_get d14_58_257 f14_47_12 h_24 (by omega) (show 24 < M.1 by omega) rfl ?_
        refine xj_iload_n (i := 1) d14_58_260 rfl rfl ?_
        refine xj_iaload (j := nd) d14_58_261 k37 (by omega) (show 37 < M.1 by omega) (vp_in_nI (by omega) (by omega)) (nI_clamp (by omega)) ?_
        rw [show lo nd = nI kk from hlok]
        refine xj_icmp_lt (tgt := 272) d14_58_262 rfl (fun _ => ?_) (fun h => absurd (nI_lt (a := k) (b := kk) (by omega) (by omega)) h)
        refine xj_lload (i := 5) d14_58_272 rfl ?_
        refine xj_lstore (i := 5) (L' := [(5, .long al), (8, .int (nI k)), (3, .long h), (7, .int (nI mo)), (0, .ref 24), (1, .int (nI nd)), (2, .int (nI i))]) d14_58_274 (by decide) rfl ?_
        refine xj_aload_n (i := 0) d14_58_276 rfl rfl ?_
        refine xj_aload_n (i := 0) d14_58_277 rfl rfl ?_
        refine xj_get d14_58_278 f14_38_12 h_24 (by omega) (show 24 < M.1 by omega) rfl ?_
        refine xj_iload_n (i := 1) d14_58_281 rfl rfl ?_
        refine xj_iaload (j := nd) d14_58_282 k34 (by omega) (show 34 < M.1 by omega) (vp_in_nI (by omega) (by omega)) (nI_clamp (by omega)) ?_
        rw [show ch nd = nI ee from hche]
        refine xj_lload_n (i := 3) d14_58_283 rfl rfl ?_
        refine xj_callV (rest := []) (As := [.int (nI ee), .long h]) (b := 24) (mOn hg hxn hn2 hl40 hn h_24 k50 (nd := ee) (x := h) (R := fun a j => rY len ln A ee a j) (by omega) (fun a ha => hrc ee a (by omega) ha)) d14_58_284 wd14_57 h_24 (by omega) (show 24 < M.1 by omega) rfl s14_57 w1366 (Or.inl w1364) rfl rfl (Nat.le_of_ble_eq_true rfl) (by omega) (by omega) (by omega) ?_
        rintro v9 M' ⟨⟨y9, rfl, hY9⟩, hm9⟩
        subst M'
        refine xj_lstore_n (i := 3) (L' := [(3, .long y9), (5, .long al), (8, .int (nI k)), (7, .int (nI mo)), (0, .ref 24), (1, .int (nI nd)), (2, .int (nI i))]) d14_58_287 rfl (by decide) rfl ?_
        refine xj_iinc (v := nI (k + 1)) (L' := [(8, .int (nI (k + 1))), (3, .long y9), (5, .long al), (7, .int (nI mo)), (0, .ref 24), (1, .int (nI nd)), (2, .int (nI i))]) d14_58_288 rfl (xinc _) (by decide) rfl ?_
        refine xj_goto (tgt := 241) d14_58_291 rfl ?_
        refine xj_sub (L' := [(8, .int (nI (k + 1))), (3, .long y9), (5, .long al), (7, .int (nI mo)), (0, .ref 24), (1, .int (nI nd)), (2, .int (nI i))]) (fun q hq => by simp only [List.mem_cons, List.not_mem_nil, or_false] at hq ⊢; rcases hq with rfl | rfl | rfl | rfl | rfl | rfl | rfl <;> simp) ?_
        have hh9 : bS y9 (rI (fun a j => rIt (rY len ln A ee) (k + 1) a j) len ((1 : Int64) <<< ((nI i).toInt64 &&& 63))) := bS_cg hY9 (fun j _ => (rI_comp hl40 hIle hh j).trans (rI_cg (fun a b => rIt_snc.symm) j))
        exact ih (k + 1) _ y9 (by omega) hh9 (bS_cg ha (fun j _ => ⟨fun ⟨m, m1, m2, m3⟩ => ⟨m, m1, by omega, m3⟩, fun ⟨m, m1, m2, m3⟩ => ⟨m, m1, by omega, m3⟩⟩))
      · skip
        refine xj_iload (i := 8) d14_58_241 rfl ?_
        refine xj_iload (i := 7) d14_58_243 rfl ?_
        refine xj_icmp_gt (tgt := 294) d14_58_245 rfl (fun h => absurd h (nI_nlt (a := mo) (b := k) (by omega) (by omega))) (fun _ => ?_)
        refine xj_lload_n (i := 3) d14_58_248 rfl rfl ?_
        refine xj_lconst (v := 0) d14_58_249 (by decide) ?_
        refine xj_lcmp (v := lg_cmp h 0) d14_58_250 rfl ?_
        refine xj_if_eq (tgt := 294) d14_58_251 rfl (fun h => absurd h (fun z => hh0 (xlcmp_eq z))) (fun _ => ?_)
        refine xj_iload (i := 8) d14_58_254 rfl ?_
        refine xj_aload_n (i := 0) d14_58_256 rfl rfl ?_
        refine xj_get d14_58_257 f14_47_12 h_24 (by omega) (show 24 < M.1 by omega) rfl ?_
        refine xj_iload_n (i := 1) d14_58_260 rfl rfl ?_
        refine xj_iaload (j := nd) d14_58_261 k37 (by omega) (show 37 < M.1 by omega) (vp_in_nI (by omega) (by omega)) (nI_clamp (by omega)) ?_
        rw [show lo nd = nI kk from hlok]
        refine xj_icmp_lt (tgt := 272) d14_58_262 rfl (fun h => absurd h (nI_nlt (a := k) (b := kk) (by omega) (by omega))) (fun _ => ?_)
        refine xj_lload (i := 5) d14_58_265 rfl ?_
        refine xj_lload_n (i := 3) d14_58_267 rfl rfl ?_
        refine xj_lor (v := al ||| h) d14_58_268 rfl ?_
        refine xj_goto (tgt := 274) d14_58_269 rfl ?_
        refine xj_lstore (i := 5) (L' := [(5, .long (al ||| h)), (8, .int (nI k)), (3, .long h), (7, .int (nI mo)), (0, .ref 24), (1, .int (nI nd)), (2, .int (nI i))]) d14_58_274 (by decide) rfl ?_
        refine xj_aload_n (i := 0) d14_58_276 rfl rfl ?_
        refine xj_aload_n (i := 0) d14_58_277 rfl rfl ?_
        refine xj_get d14_58_278 f14_38_12 h_24 (by omega) (show 24 < M.1 by omega) rfl ?_
        refine xj_iload_n (i := 1) d14_58_281 rfl rfl ?_
        refine xj_iaload (j := nd) d14_58_282 k34 (by omega) (show 34 < M.1 by omega) (vp_in_nI (by omega) (by omega)) (nI_clamp (by omega)) ?_
        rw [show ch nd = nI ee from hche]
        refine xj_lload_n (i := 3) d14_58_283 rfl rfl ?_
        refine xj_callV (rest := []) (As := [.int (nI ee), .long h]) (b := 24) (mOn hg hxn hn2 hl40 hn h_24 k50 (nd := ee) (x := h) (R := fun a j => rY len ln A ee a j) (by omega) (fun a ha => hrc ee a (by omega) ha)) d14_58_284 wd14_57 h_24 (by omega) (show 24 < M.1 by omega) rfl s14_57 w1366 (Or.inl w1364) rfl rfl (Nat.le_of_ble_eq_true rfl) (by omega) (by omega) (by omega) ?_
        rintro v9 M' ⟨⟨y9, rfl, hY9⟩, hm9⟩
        subst M'
        refine xj_lstore_n (i := 3) (L' := [(3, .long y9), (5, .long (al ||| h)), (8, .int (nI k)), (7, .int (nI mo)), (0, .ref 24), (1, .int (nI nd)), (2, .int (nI i))]) d14_58_287 rfl (by decide) rfl ?_
        refine xj_iinc (v := nI (k + 1)) (L' := [(8, .int (nI (k + 1))), (3, .long y9), (5, .long (al ||| h)), (7, .int (nI mo)), (0, .ref 24), (1, .int (nI nd)), (2, .int (nI i))]) d14_58_288 rfl (xinc _) (by decide) rfl ?_
        refine xj_goto (tgt := 241) d14_58_291 rfl ?_
        refine xj_sub (L' := [(8, .int (nI (k + 1))), (3, .long y9), (5, .long (al ||| h)), (7, .int (nI mo)), (0, .ref 24), (1, .int (nI nd)), (2, .int (nI i))]) (fun q hq => by simp only [List.mem_cons, List.not_mem_nil, or_false] at hq ⊢; rcases hq with rfl | rfl | rfl | rfl | rfl | rfl | rfl <;> simp) ?_
        have hh9 : bS y9 (rI (fun a j => rIt (rY len ln A ee) (k + 1) a j) len ((1 : Int64) <<< ((nI i).toInt64 &&& 63))) := bS_cg hY9 (fun j _ => (rI_comp hl40 hIle hh j).trans (rI_cg (fun a b => rIt_snc.symm) j))
        exact ih (k + 1) _ y9 (by omega) hh9 (bS_cg (bS_or ha hh) (fun j _ => ⟨fun z => z.elim (fun ⟨m, m1, m2, m3⟩ => ⟨m, m1, by omega, m3⟩) (fun ⟨a, a1, a2, a3⟩ => ⟨k, by omega, by omega, by rw [(bS_one (show i < 64 by omega) a (by omega)).mp a2] at a3; exact a3⟩), fun ⟨m, m1, m2, m3⟩ => if e : m = k then Or.inr ⟨i, hi9, (bS_one (show i < 64 by omega) i (by omega)).mpr rfl, by rw [← e]; exact m3⟩ else Or.inl ⟨m, m1, by omega, m3⟩⟩))
set_option maxRecDepth 20000 in
set_option maxHeartbeats 4000000 in
theorem mFr {G : xG} (hg : xGood G) (hxn : xn = 16) {n : Nat} (hn2 : 52 ≤ n) {dl : Nat} {pl : Nat} {vc : Nat} {tk : Nat} {hc : Nat} {sn : Nat} {y13 : Int32} {y22 : Int32} {y23 : Int32} {y24 : Int32} {y33 : Int32} {y38 : Int32} {y39 : Int32} {len ls : Nat} (hl40 : len ≤ 40) {M : xM} (hn : M.1 = n) {tx kd ch nx lo hi wt cs : Nat → Int32} {rc : Nat → Int64} {A : List xNode} {lo_ : Nat → Nat} {ln : Nat → Nat} (h_24 : M.2 24 = (.inr (12, [.ref 25, .ref 26, .ref 27, .ref 28, .ref 29, .ref 30, .int (nI sn), .int (nI vc), .int (nI tk), .ref 31, .int (nI dl), .ref 32, .int (nI pl), .int y13, .ref 33, .ref 34, .ref 35, .ref 36, .ref 37, .ref 38, .ref 39, .ref 40, .int y22, .int y23, .int y24, .ref 41, .ref 42, .ref 43, .ref 44, .ref 45, .ref 46, .ref 47, .ref 48, .int y33, .ref 49, .ref 50, .int (nI ls), .int (nI len), .int y38, .int y39, .int (nI hc), .ref 51]))) (k25 : M.2 25 = (.inl (0, 5120, .inl tx))) (k33 : M.2 33 = (.inl (0, 30, .inl kd))) (k34 : M.2 34 = (.inl (0, 30, .inl ch))) (k35 : M.2 35 = (.inl (0, 30, .inl nx))) (k37 : M.2 37 = (.inl (0, 30, .inl lo))) (k38 : M.2 38 = (.inl (0, 30, .inl hi))) (k40 : M.2 40 = (.inl (2, 2850, .inl cs))) (k50 : M.2 50 = (.inl (3, 1230, .inr (.inl rc)))) (hA26 : A.length ≤ 26) (hO : ∀ (i : Nat) (q : xNode), A[i]? = some q → pOk A lo_ i q) (hN : ∀ (i : Nat) (q : xNode), A[i]? = some q → nS kd ch nx lo hi wt cs i q) (hls : ls + len ≤ 5120) (hln : ∀ k, k < len → ln k < 95 ∧ tx (ls + k) = nI (ln k + 32)) {nd i : Nat} {q : xNode} (hq : A[nd]? = some q) (hi9 : i ≤ len) (hrc : ∀ c a, c < nd → a ≤ len → bS (rc (41 * c + a)) (fun j => rY len ln A c a j)) : XC G Y14_58 (some .long) 1 0 0 [.ref 24, .int (nI nd), .int (nI i)] M (fun v M' => (∃ y, v = some (.long y) ∧ bS y (fun j => rY len ln A nd i j)) ∧ M' = M) := by
  have hnd : nd < A.length := (List.getElem?_eq_some_iff.mp hq).1
  have hNq := hN nd q hq
  obtain ⟨h1, h2, h3, h4, h5, h6, h7⟩ := hO nd q hq
  have hiv := pIv_le h1
  have hkd := hNq.1
  have hkk : q.1 = 1 ∨ q.1 = 2 ∨ q.1 = 3 ∨ q.1 = 4 ∨ q.1 = 5 ∨ q.1 = 6 := by omega
  rcases hkk with hq1 | hq1 | hq1 | hq1 | hq1 | hq1
  · replace hkd : kd nd = 1 := by rw [hkd, hq1]; decide
    by_cases hil : i < len
    · have hu := (hln i hil).1
      have hcv := hNq.2.2.1 hq1 (ln i) hu
      by_cases hcs : q.2.2.2.2.2 (ln i) = true
      · rw [if_pos hcs] at hcv
        refine xc_of hg (by decide) (Nat.le_of_ble_eq_true rfl) (Or.inr (Or.inr (Or.inr (Or.inl ⟨rfl, rfl, fun v M' h => by obtain ⟨⟨y, h, -⟩, -⟩ := h; exact ⟨y, h⟩⟩)))) ?_
        refine xj_lconst (v := 1) d14_58_0 (by decide) ?_
        refine xj_iload_n (i := 2) d14_58_1 rfl rfl ?_
        refine xj_lshl (v := 1 <<< ((nI i).toInt64 &&& 63)) d14_58_2 rfl ?_
        refine xj_lstore_n (i := 3) (L' := [(3, .long (1 <<< ((nI i).toInt64 &&& 63))), (0, .ref 24), (1, .int (nI nd)), (2, .int (nI i))]) d14_58_3 rfl (by decide) rfl ?_
        refine xj_lconst (v := 0) d14_58_4 (by decide) ?_
        refine xj_lstore (i := 5) (L' := [(5, .long 0), (3, .long (1 <<< ((nI i).toInt64 &&& 63))), (0, .ref 24), (1, .int (nI nd)), (2, .int (nI i))]) d14_58_5 (by decide) rfl ?_
        refine xj_aload_n (i := 0) d14_58_7 rfl rfl ?_
        refine xj_get d14_58_8 f14_35_12 h_24 (by omega) (show 24 < M.1 by omega) rfl ?_
        refine xj_iload_n (i := 1) d14_58_11 rfl rfl ?_
        refine xj_iaload (j := nd) d14_58_12 k33 (by omega) (show 33 < M.1 by omega) (vp_in_nI (by omega) (by omega)) (nI_clamp (by omega)) ?_
        rw [show kd nd = 1 from hkd]
        refine xj_iconst (v := 1) d14_58_13 (by decide) ?_
        refine xj_icmp_ne (tgt := 60) d14_58_14 rfl (fun h => absurd (by decide) h) (fun _ => ?_)
        refine xj_iload_n (i := 2) d14_58_17 rfl rfl ?_
        refine xj_aload_n (i := 0) d14_58_18 rfl rfl ?_
        refine xj_get d14_58_19 f14_261_12 h_24 (by omega) (show 24 < M.1 by omega) rfl ?_
        refine xj_icmp_ge (tgt := 58) d14_58_22 rfl (fun h => absurd h (nI_ge (a := i) (b := len) (by omega) (by omega))) (fun _ => ?_)
        refine xj_aload_n (i := 0) d14_58_25 rfl rfl ?_
        refine xj_get d14_58_26 f14_56_12 h_24 (by omega) (show 24 < M.1 by omega) rfl ?_
        refine xj_bipush (v := 95) d14_58_29 (by decide) ?_
        refine xj_iload_n (i := 1) d14_58_31 rfl rfl ?_
        refine xj_imul (v := nI (95 * nd)) d14_58_32 (pk_mul 95 nd) ?_
        refine xj_aload_n (i := 0) d14_58_33 rfl rfl ?_
        refine xj_get d14_58_34 f14_7_12 h_24 (by omega) (show 24 < M.1 by omega) rfl ?_
        refine xj_aload_n (i := 0) d14_58_37 rfl rfl ?_
        refine xj_get d14_58_38 f14_264_12 h_24 (by omega) (show 24 < M.1 by omega) rfl ?_
        refine xj_iload_n (i := 2) d14_58_41 rfl rfl ?_
        refine xj_iadd (v := nI (ls + i)) d14_58_42 (nI_add ls i) ?_
        refine xj_iaload (j := ls + i) d14_58_43 k25 (by omega) (show 25 < M.1 by omega) (vp_in_nI (by omega) (by omega)) (nI_clamp (by omega)) ?_
        rw [show tx (ls + i) = nI (ln i + 32) from (hln i hil).2]
        refine xj_iadd (v := nI (95 * nd + (ln i + 32))) d14_58_44 (nI_add (95 * nd) (ln i + 32)) ?_
        refine xj_bipush (v := 32) d14_58_45 (by decide) ?_
        refine xj_isub (v := nI (95 * nd + ln i)) d14_58_47 (by rw [show (32 : Int32) = nI 32 from by decide, pk_sub (by omega)]; congr 1) ?_
        refine xj_zaload (j := 95 * nd + ln i) d14_58_48 k40 (by omega) (show 40 < M.1 by omega) (vp_in_nI (by omega) (by omega)) (nI_clamp (by omega)) ?_
        rw [show cs (95 * nd + ln i) = 1 from hcv]
        refine xj_if_eq (tgt := 58) d14_58_49 rfl (fun h => absurd h (by decide)) (fun _ => ?_)
        refine xj_lload_n (i := 3) d14_58_52 rfl rfl ?_
        refine xj_iconst (v := 1) d14_58_53 (by decide) ?_
        refine xj_lshl (v := (1 <<< ((nI i).toInt64 &&& 63)) <<< ((1 : Int32).toInt64 &&& 63)) d14_58_54 rfl ?_
        refine xj_goto (tgt := 59) d14_58_55 rfl ?_
        exact xj_ret d14_58_59 (by omega) (by omega) rfl ⟨⟨_, rfl, bS_cg (bS_shl (bS_one (show i < 64 by omega))) (fun j _ => by rw [rY_iff (len := len) (ln := ln) hq i j]; exact ⟨fun ⟨a, a1, a2⟩ => Or.inl ⟨hq1, hil, hcs, by omega⟩, fun z => by rcases z with ⟨-, -, -, e⟩ | ⟨e, -⟩ | ⟨e, -⟩ | ⟨e, -⟩ | ⟨e, -⟩ | ⟨e, -⟩ <;> first | exact ⟨i, e, rfl⟩ | omega⟩)⟩, rfl⟩
      · rw [if_neg hcs] at hcv
        refine xc_of hg (by decide) (Nat.le_of_ble_eq_true rfl) (Or.inr (Or.inr (Or.inr (Or.inl ⟨rfl, rfl, fun v M' h => by obtain ⟨⟨y, h, -⟩, -⟩ := h; exact ⟨y, h⟩⟩)))) ?_
        refine xj_lconst (v := 1) d14_58_0 (by decide) ?_
        refine xj_iload_n (i := 2) d14_58_1 rfl rfl ?_
        refine xj_lshl (v := 1 <<< ((nI i).toInt64 &&& 63)) d14_58_2 rfl ?_
        refine xj_lstore_n (i := 3) (L' := [(3, .long (1 <<< ((nI i).toInt64 &&& 63))), (0, .ref 24), (1, .int (nI nd)), (2, .int (nI i))]) d14_58_3 rfl (by decide) rfl ?_
        refine xj_lconst (v := 0) d14_58_4 (by decide) ?_
        refine xj_lstore (i := 5) (L' := [(5, .long 0), (3, .long (1 <<< ((nI i).toInt64 &&& 63))), (0, .ref 24), (1, .int (nI nd)), (2, .int (nI i))]) d14_58_5 (by decide) rfl ?_
        refine xj_aload_n (i := 0) d14_58_7 rfl rfl ?_
        refine xj_get d14_58_8 f14_35_12 h_24 (by omega) (show 24 < M.1 by omega) rfl ?_
        refine xj_iload_n (i := 1) d14_58_11 rfl rfl ?_
        refine xj_iaload (j := nd) d14_58_12 k33 (by omega) (show 33 < M.1 by omega) (vp_in_nI (by omega) (by omega)) (nI_clamp (by omega)) ?_
        rw [show kd nd = 1 from hkd]
        refine xj_iconst (v := 1) d14_58_13 (by decide) ?_
        refine xj_icmp_ne (tgt := 60) d14_58_14 rfl (fun h => absurd (by decide) h) (fun _ => ?_)
        refine xj_iload_n (i := 2) d14_58_17 rfl rfl ?_
        refine xj_aload_n (i := 0) d14_58_18 rfl rfl ?_
        refine xj_get d14_58_19 f14_261_12 h_24 (by omega) (show 24 < M.1 by omega) rfl ?_
        refine xj_icmp_ge (tgt := 58) d14_58_22 rfl (fun h => absurd h (nI_ge (a := i) (b := len) (by omega) (by omega))) (fun _ => ?_)
        refine xj_aload_n (i := 0) d14_58_25 rfl rfl ?_
        refine xj_get d14_58_26 f14_56_12 h_24 (by omega) (show 24 < M.1 by omega) rfl ?_
        refine xj_bipush (v := 95) d14_58_29 (by decide) ?_
        refine xj_iload_n (i := 1) d14_58_31 rfl rfl ?_
        refine xj_imul (v := nI (95 * nd)) d14_58_32 (pk_mul 95 nd) ?_
        refine xj_aload_n (i := 0) d14_58_33 rfl rfl ?_
        refine xj_get d14_58_34 f14_7_12 h_24 (by omega) (show 24 < M.1 by omega) rfl ?_
        refine xj_aload_n (i := 0) d14_58_37 rfl rfl ?_
        refine xj_get d14_58_38 f14_264_12 h_24 (by omega) (show 24 < M.1 by omega) rfl ?_
        refine xj_iload_n (i := 2) d14_58_41 rfl rfl ?_
        refine xj_iadd (v := nI (ls + i)) d14_58_42 (nI_add ls i) ?_
        refine xj_iaload (j := ls + i) d14_58_43 k25 (by omega) (show 25 < M.1 by omega) (vp_in_nI (by omega) (by omega)) (nI_clamp (by omega)) ?_
        rw [show tx (ls + i) = nI (ln i + 32) from (hln i hil).2]
        refine xj_iadd (v := nI (95 * nd + (ln i + 32))) d14_58_44 (nI_add (95 * nd) (ln i + 32)) ?_
        refine xj_bipush (v := 32) d14_58_45 (by decide) ?_
        refine xj_isub (v := nI (95 * nd + ln i)) d14_58_47 (by rw [show (32 : Int32) = nI 32 from by decide, pk_sub (by omega)]; congr 1) ?_
        refine xj_zaload (j := 95 * nd + ln i) d14_58_48 k40 (by omega) (show 40 < M.1 by omega) (vp_in_nI (by omega) (by omega)) (nI_clamp (by omega)) ?_
        rw [show cs (95 * nd + ln i) = 0 from hcv]
        refine xj_if_eq (tgt := 58) d14_58_49 rfl (fun _ => ?_) (fun h => absurd (by decide) h)
        refine xj_lconst (v := 0) d14_58_58 (by decide) ?_
        exact xj_ret d14_58_59 (by omega) (by omega) rfl ⟨⟨_, rfl, bS_0 (fun j w => by rw [rY_iff (len := len) (ln := ln) hq i j] at w; rcases w with ⟨-, -, e, -⟩ | ⟨e, -⟩ | ⟨e, -⟩ | ⟨e, -⟩ | ⟨e, -⟩ | ⟨e, -⟩ <;> first | exact hcs e | omega)⟩, rfl⟩
    · refine xc_of hg (by decide) (Nat.le_of_ble_eq_true rfl) (Or.inr (Or.inr (Or.inr (Or.inl ⟨rfl, rfl, fun v M' h => by obtain ⟨⟨y, h, -⟩, -⟩ := h; exact ⟨y, h⟩⟩)))) ?_
      refine xj_lconst (v := 1) d14_58_0 (by decide) ?_
      refine xj_iload_n (i := 2) d14_58_1 rfl rfl ?_
      refine xj_lshl (v := 1 <<< ((nI i).toInt64 &&& 63)) d14_58_2 rfl ?_
      refine xj_lstore_n (i := 3) (L' := [(3, .long (1 <<< ((nI i).toInt64 &&& 63))), (0, .ref 24), (1, .int (nI nd)), (2, .int (nI i))]) d14_58_3 rfl (by decide) rfl ?_
      refine xj_lconst (v := 0) d14_58_4 (by decide) ?_
      refine xj_lstore (i := 5) (L' := [(5, .long 0), (3, .long (1 <<< ((nI i).toInt64 &&& 63))), (0, .ref 24), (1, .int (nI nd)), (2, .int (nI i))]) d14_58_5 (by decide) rfl ?_
      refine xj_aload_n (i := 0) d14_58_7 rfl rfl ?_
      refine xj_get d14_58_8 f14_35_12 h_24 (by omega) (show 24 < M.1 by omega) rfl ?_
      refine xj_iload_n (i := 1) d14_58_11 rfl rfl ?_
      refine xj_iaload (j := nd) d14_58_12 k33 (by omega) (show 33 < M.1 by omega) (vp_in_nI (by omega) (by omega)) (nI_clamp (by omega)) ?_
      rw [show kd nd = 1 from hkd]
      refine xj_iconst (v := 1) d14_58_13 (by decide) ?_
      refine xj_icmp_ne (tgt := 60) d14_58_14 rfl (fun h => absurd (by decide) h) (fun _ => ?_)
      refine xj_iload_n (i := 2) d14_58_17 rfl rfl ?_
      refine xj_aload_n (i := 0) d14_58_18 rfl rfl ?_
      refine xj_get d14_58_19 f14_261_12 h_24 (by omega) (show 24 < M.1 by omega) rfl ?_
      refine xj_icmp_ge (tgt := 58) d14_58_22 rfl (fun _ => ?_) (fun h => absurd (nI_le (a := len) (b := i) (by omega) (by omega)) h)
      refine xj_lconst (v := 0) d14_58_58 (by decide) ?_
      exact xj_ret d14_58_59 (by omega) (by omega) rfl ⟨⟨_, rfl, bS_0 (fun j w => by rw [rY_iff (len := len) (ln := ln) hq i j] at w; rcases w with ⟨-, e, -⟩ | ⟨e, -⟩ | ⟨e, -⟩ | ⟨e, -⟩ | ⟨e, -⟩ | ⟨e, -⟩ <;> omega)⟩, rfl⟩
  · replace hkd : kd nd = 2 := by rw [hkd, hq1]; decide
    by_cases hii : i = 0
    · have heq : nI i = 0 := by rw [hii]; rfl
      refine xc_of hg (by decide) (Nat.le_of_ble_eq_true rfl) (Or.inr (Or.inr (Or.inr (Or.inl ⟨rfl, rfl, fun v M' h => by obtain ⟨⟨y, h, -⟩, -⟩ := h; exact ⟨y, h⟩⟩)))) ?_
      refine xj_lconst (v := 1) d14_58_0 (by decide) ?_
      refine xj_iload_n (i := 2) d14_58_1 rfl rfl ?_
      refine xj_lshl (v := 1 <<< ((nI i).toInt64 &&& 63)) d14_58_2 rfl ?_
      refine xj_lstore_n (i := 3) (L' := [(3, .long (1 <<< ((nI i).toInt64 &&& 63))), (0, .ref 24), (1, .int (nI nd)), (2, .int (nI i))]) d14_58_3 rfl (by decide) rfl ?_
      refine xj_lconst (v := 0) d14_58_4 (by decide) ?_
      refine xj_lstore (i := 5) (L' := [(5, .long 0), (3, .long (1 <<< ((nI i).toInt64 &&& 63))), (0, .ref 24), (1, .int (nI nd)), (2, .int (nI i))]) d14_58_5 (by decide) rfl ?_
      refine xj_aload_n (i := 0) d14_58_7 rfl rfl ?_
      refine xj_get d14_58_8 f14_35_12 h_24 (by omega) (show 24 < M.1 by omega) rfl ?_
      refine xj_iload_n (i := 1) d14_58_11 rfl rfl ?_
      refine xj_iaload (j := nd) d14_58_12 k33 (by omega) (show 33 < M.1 by omega) (vp_in_nI (by omega) (by omega)) (nI_clamp (by omega)) ?_
      rw [show kd nd = 2 from hkd]
      refine xj_iconst (v := 1) d14_58_13 (by decide) ?_
      refine xj_icmp_ne (tgt := 60) d14_58_14 rfl (fun _ => ?_) (fun h => absurd h (by decide))
      refine xj_aload_n (i := 0) d14_58_60 rfl rfl ?_
      refine xj_get d14_58_61 f14_35_12 h_24 (by omega) (show 24 < M.1 by omega) rfl ?_
      refine xj_iload_n (i := 1) d14_58_64 rfl rfl ?_
      refine xj_iaload (j := nd) d14_58_65 k33 (by omega) (show 33 < M.1 by omega) (vp_in_nI (by omega) (by omega)) (nI_clamp (by omega)) ?_
      rw [show kd nd = 2 from hkd]
      refine xj_iconst (v := 2) d14_58_66 (by decide) ?_
      refine xj_icmp_eq (tgt := 80) d14_58_67 rfl (fun _ => ?_) (fun h => absurd (by decide) h)
      refine xj_iload_n (i := 2) d14_58_80 rfl rfl ?_
      refine xj_aload_n (i := 0) d14_58_81 rfl rfl ?_
      refine xj_get d14_58_82 f14_35_12 h_24 (by omega) (show 24 < M.1 by omega) rfl ?_
      refine xj_iload_n (i := 1) d14_58_85 rfl rfl ?_
      refine xj_iaload (j := nd) d14_58_86 k33 (by omega) (show 33 < M.1 by omega) (vp_in_nI (by omega) (by omega)) (nI_clamp (by omega)) ?_
      rw [show kd nd = 2 from hkd]
      refine xj_iconst (v := 2) d14_58_87 (by decide) ?_
      refine xj_icmp_ne (tgt := 95) d14_58_88 rfl (fun h => absurd (by decide) h) (fun _ => ?_)
      refine xj_iconst (v := 0) d14_58_91 (by decide) ?_
      refine xj_goto (tgt := 99) d14_58_92 rfl ?_
      refine xj_icmp_ne (tgt := 106) d14_58_99 rfl (fun h => absurd heq h) (fun _ => ?_)
      refine xj_lload_n (i := 3) d14_58_102 rfl rfl ?_
      refine xj_goto (tgt := 107) d14_58_103 rfl ?_
      exact xj_ret d14_58_107 (by omega) (by omega) rfl ⟨⟨_, rfl, bS_cg (bS_one (show i < 64 by omega)) (fun j _ => by rw [rY_iff (len := len) (ln := ln) hq i j]; exact ⟨fun z => Or.inr (Or.inl ⟨hq1, hii, z.trans hii⟩), fun z => by rcases z with ⟨e, -⟩ | ⟨-, e1, e2⟩ | ⟨e, -⟩ | ⟨e, -⟩ | ⟨e, -⟩ | ⟨e, -⟩ <;> first | exact e2.trans e1.symm | omega⟩)⟩, rfl⟩
    · have heq : ¬ nI i = 0 := fun z => hii ((nI_eq (a := i) (b := 0) (by omega) (by omega)).mp z)
      refine xc_of hg (by decide) (Nat.le_of_ble_eq_true rfl) (Or.inr (Or.inr (Or.inr (Or.inl ⟨rfl, rfl, fun v M' h => by obtain ⟨⟨y, h, -⟩, -⟩ := h; exact ⟨y, h⟩⟩)))) ?_
      refine xj_lconst (v := 1) d14_58_0 (by decide) ?_
      refine xj_iload_n (i := 2) d14_58_1 rfl rfl ?_
      refine xj_lshl (v := 1 <<< ((nI i).toInt64 &&& 63)) d14_58_2 rfl ?_
      refine xj_lstore_n (i := 3) (L' := [(3, .long (1 <<< ((nI i).toInt64 &&& 63))), (0, .ref 24), (1, .int (nI nd)), (2, .int (nI i))]) d14_58_3 rfl (by decide) rfl ?_
      refine xj_lconst (v := 0) d14_58_4 (by decide) ?_
      refine xj_lstore (i := 5) (L' := [(5, .long 0), (3, .long (1 <<< ((nI i).toInt64 &&& 63))), (0, .ref 24), (1, .int (nI nd)), (2, .int (nI i))]) d14_58_5 (by decide) rfl ?_
      refine xj_aload_n (i := 0) d14_58_7 rfl rfl ?_
      refine xj_get d14_58_8 f14_35_12 h_24 (by omega) (show 24 < M.1 by omega) rfl ?_
      refine xj_iload_n (i := 1) d14_58_11 rfl rfl ?_
      refine xj_iaload (j := nd) d14_58_12 k33 (by omega) (show 33 < M.1 by omega) (vp_in_nI (by omega) (by omega)) (nI_clamp (by omega)) ?_
      rw [show kd nd = 2 from hkd]
      refine xj_iconst (v := 1) d14_58_13 (by decide) ?_
      refine xj_icmp_ne (tgt := 60) d14_58_14 rfl (fun _ => ?_) (fun h => absurd h (by decide))
      refine xj_aload_n (i := 0) d14_58_60 rfl rfl ?_
      refine xj_get d14_58_61 f14_35_12 h_24 (by omega) (show 24 < M.1 by omega) rfl ?_
      refine xj_iload_n (i := 1) d14_58_64 rfl rfl ?_
      refine xj_iaload (j := nd) d14_58_65 k33 (by omega) (show 33 < M.1 by omega) (vp_in_nI (by omega) (by omega)) (nI_clamp (by omega)) ?_
      rw [show kd nd = 2 from hkd]
      refine xj_iconst (v := 2) d14_58_66 (by decide) ?_
      refine xj_icmp_eq (tgt := 80) d14_58_67 rfl (fun _ => ?_) (fun h => absurd (by decide) h)
      refine xj_iload_n (i := 2) d14_58_80 rfl rfl ?_
      refine xj_aload_n (i := 0) d14_58_81 rfl rfl ?_
      refine xj_get d14_58_82 f14_35_12 h_24 (by omega) (show 24 < M.1 by omega) rfl ?_
      refine xj_iload_n (i := 1) d14_58_85 rfl rfl ?_
      refine xj_iaload (j := nd) d14_58_86 k33 (by omega) (show 33 < M.1 by omega) (vp_in_nI (by omega) (by omega)) (nI_clamp (by omega)) ?_
      rw [show kd nd = 2 from hkd]
      refine xj_iconst (v := 2) d14_58_87 (by decide) ?_
      refine xj_icmp_ne (tgt := 95) d14_58_88 rfl (fun h => absurd (by decide) h) (fun _ => ?_)
      refine xj_iconst (v := 0) d14_58_91 (by decide) ?_
      refine xj_goto (tgt := 99) d14_58_92 rfl ?_
      refine xj_icmp_ne (tgt := 106) d14_58_99 rfl (fun _ => ?_) (fun h => absurd h heq)
      refine xj_lconst (v := 0) d14_58_106 (by decide) ?_
      exact xj_ret d14_58_107 (by omega) (by omega) rfl ⟨⟨_, rfl, bS_0 (fun j w => by rw [rY_iff (len := len) (ln := ln) hq i j] at w; rcases w with ⟨e, -⟩ | ⟨-, e1, e2⟩ | ⟨e, -⟩ | ⟨e, -⟩ | ⟨e, -⟩ | ⟨e, -⟩ <;> first | exact hii e1 | omega)⟩, rfl⟩
  · replace hkd : kd nd = 3 := by rw [hkd, hq1]; decide
    by_cases hii : i = len
    · have heq : nI i = nI len := by rw [hii]
      refine xc_of hg (by decide) (Nat.le_of_ble_eq_true rfl) (Or.inr (Or.inr (Or.inr (Or.inl ⟨rfl, rfl, fun v M' h => by obtain ⟨⟨y, h, -⟩, -⟩ := h; exact ⟨y, h⟩⟩)))) ?_
      refine xj_lconst (v := 1) d14_58_0 (by decide) ?_
      refine xj_iload_n (i := 2) d14_58_1 rfl rfl ?_
      refine xj_lshl (v := 1 <<< ((nI i).toInt64 &&& 63)) d14_58_2 rfl ?_
      refine xj_lstore_n (i := 3) (L' := [(3, .long (1 <<< ((nI i).toInt64 &&& 63))), (0, .ref 24), (1, .int (nI nd)), (2, .int (nI i))]) d14_58_3 rfl (by decide) rfl ?_
      refine xj_lconst (v := 0) d14_58_4 (by decide) ?_
      refine xj_lstore (i := 5) (L' := [(5, .long 0), (3, .long (1 <<< ((nI i).toInt64 &&& 63))), (0, .ref 24), (1, .int (nI nd)), (2, .int (nI i))]) d14_58_5 (by decide) rfl ?_
      refine xj_aload_n (i := 0) d14_58_7 rfl rfl ?_
      refine xj_get d14_58_8 f14_35_12 h_24 (by omega) (show 24 < M.1 by omega) rfl ?_
      refine xj_iload_n (i := 1) d14_58_11 rfl rfl ?_
      refine xj_iaload (j := nd) d14_58_12 k33 (by omega) (show 33 < M.1 by omega) (vp_in_nI (by omega) (by omega)) (nI_clamp (by omega)) ?_
      rw [show kd nd = 3 from hkd]
      refine xj_iconst (v := 1) d14_58_13 (by decide) ?_
      refine xj_icmp_ne (tgt := 60) d14_58_14 rfl (fun _ => ?_) (fun h => absurd h (by decide))
      refine xj_aload_n (i := 0) d14_58_60 rfl rfl ?_
      refine xj_get d14_58_61 f14_35_12 h_24 (by omega) (show 24 < M.1 by omega) rfl ?_
      refine xj_iload_n (i := 1) d14_58_64 rfl rfl ?_
      refine xj_iaload (j := nd) d14_58_65 k33 (by omega) (show 33 < M.1 by omega) (vp_in_nI (by omega) (by omega)) (nI_clamp (by omega)) ?_
      rw [show kd nd = 3 from hkd]
      refine xj_iconst (v := 2) d14_58_66 (by decide) ?_
      refine xj_icmp_eq (tgt := 80) d14_58_67 rfl (fun h => absurd h (by decide)) (fun _ => ?_)
      refine xj_aload_n (i := 0) d14_58_70 rfl rfl ?_
      refine xj_get d14_58_71 f14_35_12 h_24 (by omega) (show 24 < M.1 by omega) rfl ?_
      refine xj_iload_n (i := 1) d14_58_74 rfl rfl ?_
      refine xj_iaload (j := nd) d14_58_75 k33 (by omega) (show 33 < M.1 by omega) (vp_in_nI (by omega) (by omega)) (nI_clamp (by omega)) ?_
      rw [show kd nd = 3 from hkd]
      refine xj_iconst (v := 3) d14_58_76 (by decide) ?_
      refine xj_icmp_ne (tgt := 108) d14_58_77 rfl (fun h => absurd (by decide) h) (fun _ => ?_)
      refine xj_iload_n (i := 2) d14_58_80 rfl rfl ?_
      refine xj_aload_n (i := 0) d14_58_81 rfl rfl ?_
      refine xj_get d14_58_82 f14_35_12 h_24 (by omega) (show 24 < M.1 by omega) rfl ?_
      refine xj_iload_n (i := 1) d14_58_85 rfl rfl ?_
      refine xj_iaload (j := nd) d14_58_86 k33 (by omega) (show 33 < M.1 by omega) (vp_in_nI (by omega) (by omega)) (nI_clamp (by omega)) ?_
      rw [show kd nd = 3 from hkd]
      refine xj_iconst (v := 2) d14_58_87 (by decide) ?_
      refine xj_icmp_ne (tgt := 95) d14_58_88 rfl (fun _ => ?_) (fun h => absurd h (by decide))
      refine xj_aload_n (i := 0) d14_58_95 rfl rfl ?_
      refine xj_get d14_58_96 f14_261_12 h_24 (by omega) (show 24 < M.1 by omega) rfl ?_
      refine xj_icmp_ne (tgt := 106) d14_58_99 rfl (fun h => absurd heq h) (fun _ => ?_)
      refine xj_lload_n (i := 3) d14_58_102 rfl rfl ?_
      refine xj_goto (tgt := 107) d14_58_103 rfl ?_
      exact xj_ret d14_58_107 (by omega) (by omega) rfl ⟨⟨_, rfl, bS_cg (bS_one (show i < 64 by omega)) (fun j _ => by rw [rY_iff (len := len) (ln := ln) hq i j]; exact ⟨fun z => Or.inr (Or.inr (Or.inl ⟨hq1, hii, z.trans hii⟩)), fun z => by rcases z with ⟨e, -⟩ | ⟨e, -⟩ | ⟨-, e1, e2⟩ | ⟨e, -⟩ | ⟨e, -⟩ | ⟨e, -⟩ <;> first | exact e2.trans e1.symm | omega⟩)⟩, rfl⟩
    · have heq : ¬ nI i = nI len := fun z => hii ((nI_eq (a := i) (b := len) (by omega) (by omega)).mp z)
      refine xc_of hg (by decide) (Nat.le_of_ble_eq_true rfl) (Or.inr (Or.inr (Or.inr (Or.inl ⟨rfl, rfl, fun v M' h => by obtain ⟨⟨y, h, -⟩, -⟩ := h; exact ⟨y, h⟩⟩)))) ?_
      refine xj_lconst (v := 1) d14_58_0 (by decide) ?_
      refine xj_iload_n (i := 2) d14_58_1 rfl rfl ?_
      refine xj_lshl (v := 1 <<< ((nI i).toInt64 &&& 63)) d14_58_2 rfl ?_
      refine xj_lstore_n (i := 3) (L' := [(3, .long (1 <<< ((nI i).toInt64 &&& 63))), (0, .ref 24), (1, .int (nI nd)), (2, .int (nI i))]) d14_58_3 rfl (by decide) rfl ?_
      refine xj_lconst (v := 0) d14_58_4 (by decide) ?_
      refine xj_lstore (i := 5) (L' := [(5, .long 0), (3, .long (1 <<< ((nI i).toInt64 &&& 63))), (0, .ref 24), (1, .int (nI nd)), (2, .int (nI i))]) d14_58_5 (by decide) rfl ?_
      refine xj_aload_n (i := 0) d14_58_7 rfl rfl ?_
      refine xj_get d14_58_8 f14_35_12 h_24 (by omega) (show 24 < M.1 by omega) rfl ?_
      refine xj_iload_n (i := 1) d14_58_11 rfl rfl ?_
      refine xj_iaload (j := nd) d14_58_12 k33 (by omega) (show 33 < M.1 by omega) (vp_in_nI (by omega) (by omega)) (nI_clamp (by omega)) ?_
      rw [show kd nd = 3 from hkd]
      refine xj_iconst (v := 1) d14_58_13 (by decide) ?_
      refine xj_icmp_ne (tgt := 60) d14_58_14 rfl (fun _ => ?_) (fun h => absurd h (by decide))
      refine xj_aload_n (i := 0) d14_58_60 rfl rfl ?_
      refine xj_get d14_58_61 f14_35_12 h_24 (by omega) (show 24 < M.1 by omega) rfl ?_
      refine xj_iload_n (i := 1) d14_58_64 rfl rfl ?_
      refine xj_iaload (j := nd) d14_58_65 k33 (by omega) (show 33 < M.1 by omega) (vp_in_nI (by omega) (by omega)) (nI_clamp (by omega)) ?_
      rw [show kd nd = 3 from hkd]
      refine xj_iconst (v := 2) d14_58_66 (by decide) ?_
      refine xj_icmp_eq (tgt := 80) d14_58_67 rfl (fun h => absurd h (by decide)) (fun _ => ?_)
      refine xj_aload_n (i := 0) d14_58_70 rfl rfl ?_
      refine xj_get d14_58_71 f14_35_12 h_24 (by omega) (show 24 < M.1 by omega) rfl ?_
      refine xj_iload_n (i := 1) d14_58_74 rfl rfl ?_
      refine xj_iaload (j := nd) d14_58_75 k33 (by omega) (show 33 < M.1 by omega) (vp_in_nI (by omega) (by omega)) (nI_clamp (by omega)) ?_
      rw [show kd nd = 3 from hkd]
      refine xj_iconst (v := 3) d14_58_76 (by decide) ?_
      refine xj_icmp_ne (tgt := 108) d14_58_77 rfl (fun h => absurd (by decide) h) (fun _ => ?_)
      refine xj_iload_n (i := 2) d14_58_80 rfl rfl ?_
      refine xj_aload_n (i := 0) d14_58_81 rfl rfl ?_
      refine xj_get d14_58_82 f14_35_12 h_24 (by omega) (show 24 < M.1 by omega) rfl ?_
      refine xj_iload_n (i := 1) d14_58_85 rfl rfl ?_
      refine xj_iaload (j := nd) d14_58_86 k33 (by omega) (show 33 < M.1 by omega) (vp_in_nI (by omega) (by omega)) (nI_clamp (by omega)) ?_
      rw [show kd nd = 3 from hkd]
      refine xj_iconst (v := 2) d14_58_87 (by decide) ?_
      refine xj_icmp_ne (tgt := 95) d14_58_88 rfl (fun _ => ?_) (fun h => absurd h (by decide))
      refine xj_aload_n (i := 0) d14_58_95 rfl rfl ?_
      refine xj_get d14_58_96 f14_261_12 h_24 (by omega) (show 24 < M.1 by omega) rfl ?_
      refine xj_icmp_ne (tgt := 106) d14_58_99 rfl (fun _ => ?_) (fun h => absurd h heq)
      refine xj_lconst (v := 0) d14_58_106 (by decide) ?_
      exact xj_ret d14_58_107 (by omega) (by omega) rfl ⟨⟨_, rfl, bS_0 (fun j w => by rw [rY_iff (len := len) (ln := ln) hq i j] at w; rcases w with ⟨e, -⟩ | ⟨e, -⟩ | ⟨-, e1, e2⟩ | ⟨e, -⟩ | ⟨e, -⟩ | ⟨e, -⟩ <;> first | exact hii e1 | omega)⟩, rfl⟩
  · replace hkd : kd nd = 4 := by rw [hkd, hq1]; decide
    obtain ⟨ee, hqe, hche, hlo, hhi⟩ := hNq.2.2.2.1 hq1
    obtain ⟨-, kk, hkk9, hlk, hhk⟩ := h5 hq1
    have hlok : lo nd = nI kk := hlo.trans hlk
    have hcl1 : q.2.2.2.1.toNatClampNeg = kk := by rw [hlk]; exact nI_clamp (by omega)
    have hee : ee < nd := (hiv.2 ee (by rw [hqe]; simp)).2.1
    have hRle : ∀ a b, (rY len ln A ee) a b → a ≤ len → a ≤ b ∧ b ≤ len := fun a b z => rY_le z
    rcases hhk with hm1 | ⟨mm, hm2, hm3, hm4⟩
    · have hhi9 : hi nd = -1 := hhi.trans hm1
      refine xc_of hg (by decide) (Nat.le_of_ble_eq_true rfl) (Or.inr (Or.inr (Or.inr (Or.inl ⟨rfl, rfl, fun v M' h => by obtain ⟨⟨y, h, -⟩, -⟩ := h; exact ⟨y, h⟩⟩)))) ?_
      refine xj_lconst (v := 1) d14_58_0 (by decide) ?_
      refine xj_iload_n (i := 2) d14_58_1 rfl rfl ?_
      refine xj_lshl (v := 1 <<< ((nI i).toInt64 &&& 63)) d14_58_2 rfl ?_
      refine xj_lstore_n (i := 3) (L' := [(3, .long (1 <<< ((nI i).toInt64 &&& 63))), (0, .ref 24), (1, .int (nI nd)), (2, .int (nI i))]) d14_58_3 rfl (by decide) rfl ?_
      refine xj_lconst (v := 0) d14_58_4 (by decide) ?_
      refine xj_lstore (i := 5) (L' := [(5, .long 0), (3, .long (1 <<< ((nI i).toInt64 &&& 63))), (0, .ref 24), (1, .int (nI nd)), (2, .int (nI i))]) d14_58_5 (by decide) rfl ?_
      refine xj_aload_n (i := 0) d14_58_7 rfl rfl ?_
      refine xj_get d14_58_8 f14_35_12 h_24 (by omega) (show 24 < M.1 by omega) rfl ?_
      refine xj_iload_n (i := 1) d14_58_11 rfl rfl ?_
      refine xj_iaload (j := nd) d14_58_12 k33 (by omega) (show 33 < M.1 by omega) (vp_in_nI (by omega) (by omega)) (nI_clamp (by omega)) ?_
      rw [show kd nd = 4 from hkd]
      refine xj_iconst (v := 1) d14_58_13 (by decide) ?_
      refine xj_icmp_ne (tgt := 60) d14_58_14 rfl (fun _ => ?_) (fun h => absurd h (by decide))
      refine xj_aload_n (i := 0) d14_58_60 rfl rfl ?_
      refine xj_get d14_58_61 f14_35_12 h_24 (by omega) (show 24 < M.1 by omega) rfl ?_
      refine xj_iload_n (i := 1) d14_58_64 rfl rfl ?_
      refine xj_iaload (j := nd) d14_58_65 k33 (by omega) (show 33 < M.1 by omega) (vp_in_nI (by omega) (by omega)) (nI_clamp (by omega)) ?_
      rw [show kd nd = 4 from hkd]
      refine xj_iconst (v := 2) d14_58_66 (by decide) ?_
      refine xj_icmp_eq (tgt := 80) d14_58_67 rfl (fun h => absurd h (by decide)) (fun _ => ?_)
      refine xj_aload_n (i := 0) d14_58_70 rfl rfl ?_
      refine xj_get d14_58_71 f14_35_12 h_24 (by omega) (show 24 < M.1 by omega) rfl ?_
      refine xj_iload_n (i := 1) d14_58_74 rfl rfl ?_
      refine xj_iaload (j := nd) d14_58_75 k33 (by omega) (show 33 < M.1 by omega) (vp_in_nI (by omega) (by omega)) (nI_clamp (by omega)) ?_
      rw [show kd nd = 4 from hkd]
      refine xj_iconst (v := 3) d14_58_76 (by decide) ?_
      refine xj_icmp_ne (tgt := 108) d14_58_77 rfl (fun _ => ?_) (fun h => absurd h (by decide))
      refine xj_aload_n (i := 0) d14_58_108 rfl rfl ?_
      refine xj_get d14_58_109 f14_35_12 h_24 (by omega) (show 24 < M.1 by omega) rfl ?_
      refine xj_iload_n (i := 1) d14_58_112 rfl rfl ?_
      refine xj_iaload (j := nd) d14_58_113 k33 (by omega) (show 33 < M.1 by omega) (vp_in_nI (by omega) (by omega)) (nI_clamp (by omega)) ?_
      rw [show kd nd = 4 from hkd]
      refine xj_iconst (v := 5) d14_58_114 (by decide) ?_
      refine xj_icmp_ne (tgt := 153) d14_58_115 rfl (fun _ => ?_) (fun h => absurd h (by decide))
      refine xj_aload_n (i := 0) d14_58_153 rfl rfl ?_
      refine xj_get d14_58_154 f14_35_12 h_24 (by omega) (show 24 < M.1 by omega) rfl ?_
      refine xj_iload_n (i := 1) d14_58_157 rfl rfl ?_
      refine xj_iaload (j := nd) d14_58_158 k33 (by omega) (show 33 < M.1 by omega) (vp_in_nI (by omega) (by omega)) (nI_clamp (by omega)) ?_
      rw [show kd nd = 4 from hkd]
      refine xj_bipush (v := 6) d14_58_159 (by decide) ?_
      refine xj_icmp_ne (tgt := 209) d14_58_161 rfl (fun _ => ?_) (fun h => absurd h (by decide))
      refine xj_aload_n (i := 0) d14_58_209 rfl rfl ?_
      refine xj_get d14_58_210 f14_50_12 h_24 (by omega) (show 24 < M.1 by omega) rfl ?_
      refine xj_iload_n (i := 1) d14_58_213 rfl rfl ?_
      refine xj_iaload (j := nd) d14_58_214 k38 (by omega) (show 38 < M.1 by omega) (vp_in_nI (by omega) (by omega)) (nI_clamp (by omega)) ?_
      rw [show hi nd = (-1) from hhi9]
      refine xj_if_ge (tgt := 230) d14_58_215 rfl (fun h => absurd h (by decide)) (fun _ => ?_)
      refine xj_aload_n (i := 0) d14_58_218 rfl rfl ?_
      refine xj_get d14_58_219 f14_47_12 h_24 (by omega) (show 24 < M.1 by omega) rfl ?_
      refine xj_iload_n (i := 1) d14_58_222 rfl rfl ?_
      refine xj_iaload (j := nd) d14_58_223 k37 (by omega) (show 37 < M.1 by omega) (vp_in_nI (by omega) (by omega)) (nI_clamp (by omega)) ?_
      rw [show lo nd = nI kk from hlok]
      refine xj_bipush (v := 41) d14_58_224 (by decide) ?_
      refine xj_iadd (v := nI (kk + 41)) d14_58_226 (nI_add kk 41) ?_
      refine xj_goto (tgt := 236) d14_58_227 rfl ?_
      refine xj_istore (i := 7) (L' := [(7, .int (nI (kk + 41))), (5, .long 0), (3, .long (1 <<< ((nI i).toInt64 &&& 63))), (0, .ref 24), (1, .int (nI nd)), (2, .int (nI i))]) d14_58_236 (by decide) rfl ?_
      refine xj_iconst (v := 0) d14_58_238 (by decide) ?_
      refine xj_istore (i := 8) (L' := [(8, .int 0), (7, .int (nI (kk + 41))), (5, .long 0), (3, .long (1 <<< ((nI i).toInt64 &&& 63))), (0, .ref 24), (1, .int (nI nd)), (2, .int (nI i))]) d14_58_239 (by decide) rfl ?_
      refine xj_sub (L' := [(8, .int 0), (3, .long (1 <<< ((nI i).toInt64 &&& 63))), (5, .long 0), (7, .int (nI (kk + 41))), (0, .ref 24), (1, .int (nI nd)), (2, .int (nI i))]) (fun q hq => by simp only [List.mem_cons, List.not_mem_nil, or_false] at hq ⊢; rcases hq with rfl | rfl | rfl | rfl | rfl | rfl | rfl <;> simp) ?_
      refine mFr4 hg hxn hn2 hl40 hn h_24 k25 k33 k34 k35 k37 k38 k40 k50 hA26 hO hN hls hln hq hi9 hrc (ee := ee) (kk := kk) (mo := kk + 41) hee hnd hche hlok hkk9 (by omega) (by omega) (by omega) (by omega) (fun y hy => ?_) (kk + 41 + 1) 0 0 ((1 : Int64) <<< ((nI i).toInt64 &&& 63)) (by omega) (bS_cg (bS_one (show i < 64 by omega)) (fun j _ => ⟨fun z => ⟨i, hi9, (bS_one (show i < 64 by omega) i (by omega)).mpr rfl, z.symm⟩, fun ⟨a, a1, a2, a3⟩ => (show a = j from a3).symm.trans ((bS_one (show i < 64 by omega) a (by omega)).mp a2)⟩)) (bS_0 (fun j ⟨m, _, m2, _⟩ => absurd m2 (by omega)))
      refine ⟨⟨y, rfl, bS_cg hy (fun j _ => ?_)⟩, rfl⟩
      rw [rY_iff (len := len) (ln := ln) hq i j]
      constructor
      · rintro ⟨m, m1, m2, m3⟩
        exact Or.inr (Or.inr (Or.inr (Or.inl ⟨hq1, m, by rw [hcl1]; exact m1, Or.inl hm1, by rw [hqe]; exact m3⟩)))
      · intro z
        rcases z with ⟨e, -⟩ | ⟨e, -⟩ | ⟨e, -⟩ | ⟨-, k9, e1, e2, e3⟩ | ⟨e, -⟩ | ⟨e, -⟩
        · omega
        · omega
        · omega
        · rw [hcl1] at e1
          rw [hqe] at e3
          rw [show k9 = kk + (k9 - kk) by omega] at e3
          obtain ⟨b, b1, b2⟩ := rIt_split e3
          have hb := rIt_le hRle b1 hi9
          obtain ⟨t, t1, t2, t3⟩ := rIt_short hRle b2 hb.2
          have hj := rIt_le hRle b2 hb.2
          exact ⟨kk + t, by omega, by omega, rIt_add b1 t3⟩
        · omega
        · omega
    · have hhi9 : hi nd = nI mm := hhi.trans hm4
      have hcl2 : q.2.2.2.2.1.toNatClampNeg = mm := by rw [hm4]; exact nI_clamp (by omega)
      have hm1 : ¬ q.2.2.2.2.1 = -1 := fun z => absurd (show nI mm < 0 by rw [← hm4, z]; decide) (nI_pos (by omega))
      refine xc_of hg (by decide) (Nat.le_of_ble_eq_true rfl) (Or.inr (Or.inr (Or.inr (Or.inl ⟨rfl, rfl, fun v M' h => by obtain ⟨⟨y, h, -⟩, -⟩ := h; exact ⟨y, h⟩⟩)))) ?_
      refine xj_lconst (v := 1) d14_58_0 (by decide) ?_
      refine xj_iload_n (i := 2) d14_58_1 rfl rfl ?_
      refine xj_lshl (v := 1 <<< ((nI i).toInt64 &&& 63)) d14_58_2 rfl ?_
      refine xj_lstore_n (i := 3) (L' := [(3, .long (1 <<< ((nI i).toInt64 &&& 63))), (0, .ref 24), (1, .int (nI nd)), (2, .int (nI i))]) d14_58_3 rfl (by decide) rfl ?_
      refine xj_lconst (v := 0) d14_58_4 (by decide) ?_
      refine xj_lstore (i := 5) (L' := [(5, .long 0), (3, .long (1 <<< ((nI i).toInt64 &&& 63))), (0, .ref 24), (1, .int (nI nd)), (2, .int (nI i))]) d14_58_5 (by decide) rfl ?_
      refine xj_aload_n (i := 0) d14_58_7 rfl rfl ?_
      refine xj_get d14_58_8 f14_35_12 h_24 (by omega) (show 24 < M.1 by omega) rfl ?_
      refine xj_iload_n (i := 1) d14_58_11 rfl rfl ?_
      refine xj_iaload (j := nd) d14_58_12 k33 (by omega) (show 33 < M.1 by omega) (vp_in_nI (by omega) (by omega)) (nI_clamp (by omega)) ?_
      rw [show kd nd = 4 from hkd]
      refine xj_iconst (v := 1) d14_58_13 (by decide) ?_
      refine xj_icmp_ne (tgt := 60) d14_58_14 rfl (fun _ => ?_) (fun h => absurd h (by decide))
      refine xj_aload_n (i := 0) d14_58_60 rfl rfl ?_
      refine xj_get d14_58_61 f14_35_12 h_24 (by omega) (show 24 < M.1 by omega) rfl ?_
      refine xj_iload_n (i := 1) d14_58_64 rfl rfl ?_
      refine xj_iaload (j := nd) d14_58_65 k33 (by omega) (show 33 < M.1 by omega) (vp_in_nI (by omega) (by omega)) (nI_clamp (by omega)) ?_
      rw [show kd nd = 4 from hkd]
      refine xj_iconst (v := 2) d14_58_66 (by decide) ?_
      refine xj_icmp_eq (tgt := 80) d14_58_67 rfl (fun h => absurd h (by decide)) (fun _ => ?_)
      refine xj_aload_n (i := 0) d14_58_70 rfl rfl ?_
      refine xj_get d14_58_71 f14_35_12 h_24 (by omega) (show 24 < M.1 by omega) rfl ?_
      refine xj_iload_n (i := 1) d14_58_74 rfl rfl ?_
      refine xj_iaload (j := nd) d14_58_75 k33 (by omega) (show 33 < M.1 by omega) (vp_in_nI (by omega) (by omega)) (nI_clamp (by omega)) ?_
      rw [show kd nd = 4 from hkd]
      refine xj_iconst (v := 3) d14_58_76 (by decide) ?_
      refine xj_icmp_ne (tgt := 108) d14_58_77 rfl (fun _ => ?_) (fun h => absurd h (by decide))
      refine xj_aload_n (i := 0) d14_58_108 rfl rfl ?_
      refine xj_get d14_58_109 f14_35_12 h_24 (by omega) (show 24 < M.1 by omega) rfl ?_
      refine xj_iload_n (i := 1) d14_58_112 rfl rfl ?_
      refine xj_iaload (j := nd) d14_58_113 k33 (by omega) (show 33 < M.1 by omega) (vp_in_nI (by omega) (by omega)) (nI_clamp (by omega)) ?_
      rw [show kd nd = 4 from hkd]
      refine xj_iconst (v := 5) d14_58_114 (by decide) ?_
      refine xj_icmp_ne (tgt := 153) d14_58_115 rfl (fun _ => ?_) (fun h => absurd h (by decide))
      refine xj_aload_n (i := 0) d14_58_153 rfl rfl ?_
      refine xj_get d14_58_154 f14_35_12 h_24 (by omega) (show 24 < M.1 by omega) rfl ?_
      refine xj_iload_n (i := 1) d14_58_157 rfl rfl ?_
      refine xj_iaload (j := nd) d14_58_158 k33 (by omega) (show 33 < M.1 by omega) (vp_in_nI (by omega) (by omega)) (nI_clamp (by omega)) ?_
      rw [show kd nd = 4 from hkd]
      refine xj_bipush (v := 6) d14_58_159 (by decide) ?_
      refine xj_icmp_ne (tgt := 209) d14_58_161 rfl (fun _ => ?_) (fun h => absurd h (by decide))
      refine xj_aload_n (i := 0) d14_58_209 rfl rfl ?_
      refine xj_get d14_58_210 f14_50_12 h_24 (by omega) (show 24 < M.1 by omega) rfl ?_
      refine xj_iload_n (i := 1) d14_58_213 rfl rfl ?_
      refine xj_iaload (j := nd) d14_58_214 k38 (by omega) (show 38 < M.1 by omega) (vp_in_nI (by omega) (by omega)) (nI_clamp (by omega)) ?_
      rw [show hi nd = nI mm from hhi9]
      refine xj_if_ge (tgt := 230) d14_58_215 rfl (fun _ => ?_) (fun h => absurd (Int32.not_lt.mp (nI_pos (by omega))) h)
      refine xj_aload_n (i := 0) d14_58_230 rfl rfl ?_
      refine xj_get d14_58_231 f14_50_12 h_24 (by omega) (show 24 < M.1 by omega) rfl ?_
      refine xj_iload_n (i := 1) d14_58_234 rfl rfl ?_
      refine xj_iaload (j := nd) d14_58_235 k38 (by omega) (show 38 < M.1 by omega) (vp_in_nI (by omega) (by omega)) (nI_clamp (by omega)) ?_
      rw [show hi nd = nI mm from hhi9]
      refine xj_istore (i := 7) (L' := [(7, .int (nI mm)), (5, .long 0), (3, .long (1 <<< ((nI i).toInt64 &&& 63))), (0, .ref 24), (1, .int (nI nd)), (2, .int (nI i))]) d14_58_236 (by decide) rfl ?_
      refine xj_iconst (v := 0) d14_58_238 (by decide) ?_
      refine xj_istore (i := 8) (L' := [(8, .int 0), (7, .int (nI mm)), (5, .long 0), (3, .long (1 <<< ((nI i).toInt64 &&& 63))), (0, .ref 24), (1, .int (nI nd)), (2, .int (nI i))]) d14_58_239 (by decide) rfl ?_
      refine xj_sub (L' := [(8, .int 0), (3, .long (1 <<< ((nI i).toInt64 &&& 63))), (5, .long 0), (7, .int (nI mm)), (0, .ref 24), (1, .int (nI nd)), (2, .int (nI i))]) (fun q hq => by simp only [List.mem_cons, List.not_mem_nil, or_false] at hq ⊢; rcases hq with rfl | rfl | rfl | rfl | rfl | rfl | rfl <;> simp) ?_
      refine mFr4 hg hxn hn2 hl40 hn h_24 k25 k33 k34 k35 k37 k38 k40 k50 hA26 hO hN hls hln hq hi9 hrc (ee := ee) (kk := kk) (mo := mm) hee hnd hche hlok hkk9 (by omega) (by omega) (by omega) (by omega) (fun y hy => ?_) (mm + 1) 0 0 ((1 : Int64) <<< ((nI i).toInt64 &&& 63)) (by omega) (bS_cg (bS_one (show i < 64 by omega)) (fun j _ => ⟨fun z => ⟨i, hi9, (bS_one (show i < 64 by omega) i (by omega)).mpr rfl, z.symm⟩, fun ⟨a, a1, a2, a3⟩ => (show a = j from a3).symm.trans ((bS_one (show i < 64 by omega) a (by omega)).mp a2)⟩)) (bS_0 (fun j ⟨m, _, m2, _⟩ => absurd m2 (by omega)))
      refine ⟨⟨y, rfl, bS_cg hy (fun j _ => ?_)⟩, rfl⟩
      rw [rY_iff (len := len) (ln := ln) hq i j]
      constructor
      · rintro ⟨m, m1, m2, m3⟩
        exact Or.inr (Or.inr (Or.inr (Or.inl ⟨hq1, m, by rw [hcl1]; exact m1, Or.inr (by rw [hcl2]; exact m2), by rw [hqe]; exact m3⟩)))
      · intro z
        rcases z with ⟨e, -⟩ | ⟨e, -⟩ | ⟨e, -⟩ | ⟨-, k9, e1, e2, e3⟩ | ⟨e, -⟩ | ⟨e, -⟩
        · omega
        · omega
        · omega
        · rw [hcl1] at e1
          rw [hqe] at e3
          exact ⟨k9, e1, e2.elim (fun z => absurd z hm1) (fun z => by rw [hcl2] at z; exact z), e3⟩
        · omega
        · omega
  · replace hkd : kd nd = 5 := by rw [hkd, hq1]; decide
    refine xc_of hg (by decide) (Nat.le_of_ble_eq_true rfl) (Or.inr (Or.inr (Or.inr (Or.inl ⟨rfl, rfl, fun v M' h => by obtain ⟨⟨y, h, -⟩, -⟩ := h; exact ⟨y, h⟩⟩)))) ?_
    refine xj_lconst (v := 1) d14_58_0 (by decide) ?_
    refine xj_iload_n (i := 2) d14_58_1 rfl rfl ?_
    refine xj_lshl (v := 1 <<< ((nI i).toInt64 &&& 63)) d14_58_2 rfl ?_
    refine xj_lstore_n (i := 3) (L' := [(3, .long (1 <<< ((nI i).toInt64 &&& 63))), (0, .ref 24), (1, .int (nI nd)), (2, .int (nI i))]) d14_58_3 rfl (by decide) rfl ?_
    refine xj_lconst (v := 0) d14_58_4 (by decide) ?_
    refine xj_lstore (i := 5) (L' := [(5, .long 0), (3, .long (1 <<< ((nI i).toInt64 &&& 63))), (0, .ref 24), (1, .int (nI nd)), (2, .int (nI i))]) d14_58_5 (by decide) rfl ?_
    refine xj_aload_n (i := 0) d14_58_7 rfl rfl ?_
    refine xj_get d14_58_8 f14_35_12 h_24 (by omega) (show 24 < M.1 by omega) rfl ?_
    refine xj_iload_n (i := 1) d14_58_11 rfl rfl ?_
    refine xj_iaload (j := nd) d14_58_12 k33 (by omega) (show 33 < M.1 by omega) (vp_in_nI (by omega) (by omega)) (nI_clamp (by omega)) ?_
    rw [show kd nd = 5 from hkd]
    refine xj_iconst (v := 1) d14_58_13 (by decide) ?_
    refine xj_icmp_ne (tgt := 60) d14_58_14 rfl (fun _ => ?_) (fun h => absurd h (by decide))
    refine xj_aload_n (i := 0) d14_58_60 rfl rfl ?_
    refine xj_get d14_58_61 f14_35_12 h_24 (by omega) (show 24 < M.1 by omega) rfl ?_
    refine xj_iload_n (i := 1) d14_58_64 rfl rfl ?_
    refine xj_iaload (j := nd) d14_58_65 k33 (by omega) (show 33 < M.1 by omega) (vp_in_nI (by omega) (by omega)) (nI_clamp (by omega)) ?_
    rw [show kd nd = 5 from hkd]
    refine xj_iconst (v := 2) d14_58_66 (by decide) ?_
    refine xj_icmp_eq (tgt := 80) d14_58_67 rfl (fun h => absurd h (by decide)) (fun _ => ?_)
    refine xj_aload_n (i := 0) d14_58_70 rfl rfl ?_
    refine xj_get d14_58_71 f14_35_12 h_24 (by omega) (show 24 < M.1 by omega) rfl ?_
    refine xj_iload_n (i := 1) d14_58_74 rfl rfl ?_
    refine xj_iaload (j := nd) d14_58_75 k33 (by omega) (show 33 < M.1 by omega) (vp_in_nI (by omega) (by omega)) (nI_clamp (by omega)) ?_
    rw [show kd nd = 5 from hkd]
    refine xj_iconst (v := 3) d14_58_76 (by decide) ?_
    refine xj_icmp_ne (tgt := 108) d14_58_77 rfl (fun _ => ?_) (fun h => absurd h (by decide))
    refine xj_aload_n (i := 0) d14_58_108 rfl rfl ?_
    refine xj_get d14_58_109 f14_35_12 h_24 (by omega) (show 24 < M.1 by omega) rfl ?_
    refine xj_iload_n (i := 1) d14_58_112 rfl rfl ?_
    refine xj_iaload (j := nd) d14_58_113 k33 (by omega) (show 33 < M.1 by omega) (vp_in_nI (by omega) (by omega)) (nI_clamp (by omega)) ?_
    rw [show kd nd = 5 from hkd]
    refine xj_iconst (v := 5) d14_58_114 (by decide) ?_
    refine xj_icmp_ne (tgt := 153) d14_58_115 rfl (fun h => absurd (by decide) h) (fun _ => ?_)
    refine xj_aload_n (i := 0) d14_58_118 rfl rfl ?_
    refine xj_get d14_58_119 f14_38_12 h_24 (by omega) (show 24 < M.1 by omega) rfl ?_
    refine xj_iload_n (i := 1) d14_58_122 rfl rfl ?_
    refine xj_iaload (j := nd) d14_58_123 k34 (by omega) (show 34 < M.1 by omega) (vp_in_nI (by omega) (by omega)) (nI_clamp (by omega)) ?_
    refine xj_istore (i := 7) (L' := [(7, .int (ch nd)), (5, .long 0), (3, .long (1 <<< ((nI i).toInt64 &&& 63))), (0, .ref 24), (1, .int (nI nd)), (2, .int (nI i))]) d14_58_124 (by decide) rfl ?_
    refine xj_sub (L' := [(7, .int (ch nd)), (3, .long (1 <<< ((nI i).toInt64 &&& 63))), (5, .long 0), (0, .ref 24), (1, .int (nI nd)), (2, .int (nI i))]) (fun q hq => by simp only [List.mem_cons, List.not_mem_nil, or_false] at hq ⊢; rcases hq with rfl | rfl | rfl | rfl | rfl | rfl <;> simp) ?_
    exact mFr5 hg hxn hn2 hl40 hn h_24 k25 k33 k34 k35 k37 k38 k40 k50 hA26 hO hN hls hln hq hi9 hrc hq1 hnd (by omega) (by omega) (by omega) q.2.2.1 [] (ch nd) ((1 : Int64) <<< ((nI i).toInt64 &&& 63)) rfl (hNq.2.2.2.2 (by omega)) (bS_cg (bS_one (show i < 64 by omega)) (fun j _ => ⟨fun z => ⟨i, hi9, (bS_one (show i < 64 by omega) i (by omega)).mpr rfl, z.symm⟩, fun ⟨a, a1, a2, a3⟩ => (show a = j from a3).symm.trans ((bS_one (show i < 64 by omega) a (by omega)).mp a2)⟩))
  · replace hkd : kd nd = 6 := by rw [hkd, hq1]; decide
    refine xc_of hg (by decide) (Nat.le_of_ble_eq_true rfl) (Or.inr (Or.inr (Or.inr (Or.inl ⟨rfl, rfl, fun v M' h => by obtain ⟨⟨y, h, -⟩, -⟩ := h; exact ⟨y, h⟩⟩)))) ?_
    refine xj_lconst (v := 1) d14_58_0 (by decide) ?_
    refine xj_iload_n (i := 2) d14_58_1 rfl rfl ?_
    refine xj_lshl (v := 1 <<< ((nI i).toInt64 &&& 63)) d14_58_2 rfl ?_
    refine xj_lstore_n (i := 3) (L' := [(3, .long (1 <<< ((nI i).toInt64 &&& 63))), (0, .ref 24), (1, .int (nI nd)), (2, .int (nI i))]) d14_58_3 rfl (by decide) rfl ?_
    refine xj_lconst (v := 0) d14_58_4 (by decide) ?_
    refine xj_lstore (i := 5) (L' := [(5, .long 0), (3, .long (1 <<< ((nI i).toInt64 &&& 63))), (0, .ref 24), (1, .int (nI nd)), (2, .int (nI i))]) d14_58_5 (by decide) rfl ?_
    refine xj_aload_n (i := 0) d14_58_7 rfl rfl ?_
    refine xj_get d14_58_8 f14_35_12 h_24 (by omega) (show 24 < M.1 by omega) rfl ?_
    refine xj_iload_n (i := 1) d14_58_11 rfl rfl ?_
    refine xj_iaload (j := nd) d14_58_12 k33 (by omega) (show 33 < M.1 by omega) (vp_in_nI (by omega) (by omega)) (nI_clamp (by omega)) ?_
    rw [show kd nd = 6 from hkd]
    refine xj_iconst (v := 1) d14_58_13 (by decide) ?_
    refine xj_icmp_ne (tgt := 60) d14_58_14 rfl (fun _ => ?_) (fun h => absurd h (by decide))
    refine xj_aload_n (i := 0) d14_58_60 rfl rfl ?_
    refine xj_get d14_58_61 f14_35_12 h_24 (by omega) (show 24 < M.1 by omega) rfl ?_
    refine xj_iload_n (i := 1) d14_58_64 rfl rfl ?_
    refine xj_iaload (j := nd) d14_58_65 k33 (by omega) (show 33 < M.1 by omega) (vp_in_nI (by omega) (by omega)) (nI_clamp (by omega)) ?_
    rw [show kd nd = 6 from hkd]
    refine xj_iconst (v := 2) d14_58_66 (by decide) ?_
    refine xj_icmp_eq (tgt := 80) d14_58_67 rfl (fun h => absurd h (by decide)) (fun _ => ?_)
    refine xj_aload_n (i := 0) d14_58_70 rfl rfl ?_
    refine xj_get d14_58_71 f14_35_12 h_24 (by omega) (show 24 < M.1 by omega) rfl ?_
    refine xj_iload_n (i := 1) d14_58_74 rfl rfl ?_
    refine xj_iaload (j := nd) d14_58_75 k33 (by omega) (show 33 < M.1 by omega) (vp_in_nI (by omega) (by omega)) (nI_clamp (by omega)) ?_
    rw [show kd nd = 6 from hkd]
    refine xj_iconst (v := 3) d14_58_76 (by decide) ?_
    refine xj_icmp_ne (tgt := 108) d14_58_77 rfl (fun _ => ?_) (fun h => absurd h (by decide))
    refine xj_aload_n (i := 0) d14_58_108 rfl rfl ?_
    refine xj_get d14_58_109 f14_35_12 h_24 (by omega) (show 24 < M.1 by omega) rfl ?_
    refine xj_iload_n (i := 1) d14_58_112 rfl rfl ?_
    refine xj_iaload (j := nd) d14_58_113 k33 (by omega) (show 33 < M.1 by omega) (vp_in_nI (by omega) (by omega)) (nI_clamp (by omega)) ?_
    rw [show kd nd = 6 from hkd]
    refine xj_iconst (v := 5) d14_58_114 (by decide) ?_
    refine xj_icmp_ne (tgt := 153) d14_58_115 rfl (fun _ => ?_) (fun h => absurd h (by decide))
    refine xj_aload_n (i := 0) d14_58_153 rfl rfl ?_
    refine xj_get d14_58_154 f14_35_12 h_24 (by omega) (show 24 < M.1 by omega) rfl ?_
    refine xj_iload_n (i := 1) d14_58_157 rfl rfl ?_
    refine xj_iaload (j := nd) d14_58_158 k33 (by omega) (show 33 < M.1 by omega) (vp_in_nI (by omega) (by omega)) (nI_clamp (by omega)) ?_
    rw [show kd nd = 6 from hkd]
    refine xj_bipush (v := 6) d14_58_159 (by decide) ?_
    refine xj_icmp_ne (tgt := 209) d14_58_161 rfl (fun h => absurd (by decide) h) (fun _ => ?_)
    refine xj_aload_n (i := 0) d14_58_164 rfl rfl ?_
    refine xj_get d14_58_165 f14_38_12 h_24 (by omega) (show 24 < M.1 by omega) rfl ?_
    refine xj_iload_n (i := 1) d14_58_168 rfl rfl ?_
    refine xj_iaload (j := nd) d14_58_169 k34 (by omega) (show 34 < M.1 by omega) (vp_in_nI (by omega) (by omega)) (nI_clamp (by omega)) ?_
    refine xj_istore (i := 7) (L' := [(7, .int (ch nd)), (5, .long 0), (3, .long (1 <<< ((nI i).toInt64 &&& 63))), (0, .ref 24), (1, .int (nI nd)), (2, .int (nI i))]) d14_58_170 (by decide) rfl ?_
    refine xj_sub (L' := [(7, .int (ch nd)), (5, .long 0), (3, .long (1 <<< ((nI i).toInt64 &&& 63))), (0, .ref 24), (1, .int (nI nd)), (2, .int (nI i))]) (fun q hq => by simp only [List.mem_cons, List.not_mem_nil, or_false] at hq ⊢; rcases hq with rfl | rfl | rfl | rfl | rfl | rfl <;> simp) ?_
    exact mFr6 hg hxn hn2 hl40 hn h_24 k25 k33 k34 k35 k37 k38 k40 k50 hA26 hO hN hls hln hq hi9 hrc hq1 hnd (by omega) (by omega) q.2.2.1 [] (ch nd) 0 rfl (hNq.2.2.2.2 (by omega)) (bS_0 (fun j ⟨c8, c1, _⟩ => absurd c1 (by simp)))

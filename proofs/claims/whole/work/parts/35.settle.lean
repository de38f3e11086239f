/-- the merges that follow a seal: while the two newest shards have one level -/
noncomputable def setl (li : Nat → Int32) : Nat → (Nat → Int32) × (Nat → Int32) × Nat × Nat → (Nat → Int32) × (Nat → Int32) × Nat × Nat
  | 0, q => q
  | m + 1, (f, le, 0, tk) => (f, le, 0, tk)
  | m + 1, (f, le, 1, tk) => (f, le, 1, tk)
  | m + 1, (f, le, av + 2, tk) => if le (av + 1) = le av then setl li m (xmrgF f li (nI av) (nI (av + 1)), upd le av (xmx (le av) (le (av + 1)) + 1), (if xcnt (xmrgF f li (nI av) (nI (av + 1))) (nI av) 128 = 0 then av else av + 1), tk + xnum (fun j => (f j = nI av ∨ f j = nI (av + 1)) ∧ li j = 0) 128) else (f, le, av + 2, tk)
/-- the merges of compact, counted -/
noncomputable def cmpl (li : Nat → Int32) : Nat → (Nat → Int32) × (Nat → Int32) × Nat × Nat → Nat → ((Nat → Int32) × (Nat → Int32) × Nat × Nat) × Nat
  | 0, q, c => (q, c)
  | m + 1, (f, le, 0, tk), c => ((f, le, 0, tk), c)
  | m + 1, (f, le, 1, tk), c => ((f, le, 1, tk), c)
  | m + 1, (f, le, av + 2, tk), c => cmpl li m (xmrgF f li (nI av) (nI (av + 1)), upd le av (xmx (le av) (le (av + 1)) + 1), (if xcnt (xmrgF f li (nI av) (nI (av + 1))) (nI av) 128 = 0 then av else av + 1), tk + xnum (fun j => (f j = nI av ∨ f j = nI (av + 1)) ∧ li j = 0) 128) (c + 1)
theorem cmpl_1 {li f le : Nat → Int32} {m sn tk c : Nat} (h : sn ≤ 1) : cmpl li (m + 1) (f, le, sn, tk) c = ((f, le, sn, tk), c) := by
  rcases (show sn = 0 ∨ sn = 1 by omega) with rfl | rfl <;> rfl
theorem cmpl_n {li f le : Nat → Int32} {m av tk c : Nat} (hc : xcnt (xmrgF f li (nI av) (nI (av + 1))) (nI av) 128 = 0) : cmpl li (m + 1) (f, le, av + 2, tk) c = cmpl li m (xmrgF f li (nI av) (nI (av + 1)), upd le av (xmx (le av) (le (av + 1)) + 1), av, tk + xnum (fun j => (f j = nI av ∨ f j = nI (av + 1)) ∧ li j = 0) 128) (c + 1) := by
  rw [cmpl, if_pos hc]
theorem cmpl_y {li f le : Nat → Int32} {m av tk c : Nat} (hc : 0 < xcnt (xmrgF f li (nI av) (nI (av + 1))) (nI av) 128) : cmpl li (m + 1) (f, le, av + 2, tk) c = cmpl li m (xmrgF f li (nI av) (nI (av + 1)), upd le av (xmx (le av) (le (av + 1)) + 1), av + 1, tk + xnum (fun j => (f j = nI av ∨ f j = nI (av + 1)) ∧ li j = 0) 128) (c + 1) := by
  rw [cmpl, if_neg (Nat.ne_of_gt hc)]
theorem setl_1 {li f le : Nat → Int32} {m sn tk : Nat} (h : sn ≤ 1) : setl li (m + 1) (f, le, sn, tk) = (f, le, sn, tk) := by
  rcases (show sn = 0 ∨ sn = 1 by omega) with rfl | rfl <;> rfl
theorem setl_d {li f le : Nat → Int32} {m av tk : Nat} (h : ¬ le (av + 1) = le av) : setl li (m + 1) (f, le, av + 2, tk) = (f, le, av + 2, tk) := by
  rw [setl, if_neg h]
theorem setl_n {li f le : Nat → Int32} {m av tk : Nat} (h : le (av + 1) = le av) (hc : xcnt (xmrgF f li (nI av) (nI (av + 1))) (nI av) 128 = 0) : setl li (m + 1) (f, le, av + 2, tk) = setl li m (xmrgF f li (nI av) (nI (av + 1)), upd le av (xmx (le av) (le (av + 1)) + 1), av, tk + xnum (fun j => (f j = nI av ∨ f j = nI (av + 1)) ∧ li j = 0) 128) := by
  rw [setl, if_pos h, if_pos hc]
theorem setl_y {li f le : Nat → Int32} {m av tk : Nat} (h : le (av + 1) = le av) (hc : 0 < xcnt (xmrgF f li (nI av) (nI (av + 1))) (nI av) 128) : setl li (m + 1) (f, le, av + 2, tk) = setl li m (xmrgF f li (nI av) (nI (av + 1)), upd le av (xmx (le av) (le (av + 1)) + 1), av + 1, tk + xnum (fun j => (f j = nI av ∨ f j = nI (av + 1)) ∧ li j = 0) 128) := by
  rw [setl, if_pos h, if_neg (Nat.ne_of_gt hc)]
theorem mSetL {G : xG} (hg : xGood G) (hxn : xn = 16) {M0 : xM} {n : Nat} (hn2 : 52 ≤ n) {dl : Nat} {pl : Nat} {vc : Nat} {hc : Nat} {y13 : Int32} {y22 : Int32} {y23 : Int32} {y24 : Int32} {y33 : Int32} {y36 : Int32} {y37 : Int32} {y38 : Int32} {y39 : Int32} {li : Nat → Int32} (h_27 : M0.2 27 = (.inl (2, 128, .inl li))) {q1 q2 q3 q4 : Int32} {d ce se cells slots : Nat} {Post : Option Value → xM → Prop} (hd : 2 ≤ d) (hcc : cells ≤ ce) (hss : slots ≤ se) : ∀ (m : Nat) (f le : Nat → Int32) (sn tk : Nat) (M : xM), sn ≤ m → sn ≤ 64 → M.1 = n → (∀ j, j < n → j ≠ 24 → j ≠ 28 → j ≠ 30 → M.2 j = M0.2 j) → M.2 24 = (.inr (12, [.ref 25, .ref 26, .ref 27, .ref 28, .ref 29, .ref 30, .int (nI (sn)), .int (nI vc), .int (nI (tk)), .ref 31, .int (nI dl), .ref 32, .int (nI pl), .int y13, .ref 33, .ref 34, .ref 35, .ref 36, .ref 37, .ref 38, .ref 39, .ref 40, .int y22, .int y23, .int y24, .ref 41, .ref 42, .ref 43, .ref 44, .ref 45, .ref 46, .ref 47, .ref 48, .int y33, .ref 49, .ref 50, .int y36, .int y37, .int y38, .int y39, .int (nI hc), .ref 51])) → M.2 28 = (.inl (0, 128, .inl f)) → M.2 30 = (.inl (0, 64, .inl le)) → (∀ M' : xM, M'.1 = n → (∀ j, j < n → j ≠ 24 → j ≠ 28 → j ≠ 30 → M'.2 j = M0.2 j) → M'.2 24 = (.inr (12, [.ref 25, .ref 26, .ref 27, .ref 28, .ref 29, .ref 30, .int (nI ((setl li m (f, le, sn, tk)).2.2.1)), .int (nI vc), .int (nI ((setl li m (f, le, sn, tk)).2.2.2)), .ref 31, .int (nI dl), .ref 32, .int (nI pl), .int y13, .ref 33, .ref 34, .ref 35, .ref 36, .ref 37, .ref 38, .ref 39, .ref 40, .int y22, .int y23, .int y24, .ref 41, .ref 42, .ref 43, .ref 44, .ref 45, .ref 46, .ref 47, .ref 48, .int y33, .ref 49, .ref 50, .int y36, .int y37, .int y38, .int y39, .int (nI hc), .ref 51])) → M'.2 28 = (.inl (0, 128, .inl ((setl li m (f, le, sn, tk)).1))) → M'.2 30 = (.inl (0, 64, .inl ((setl li m (f, le, sn, tk)).2.1))) → XJ G Y14_4 d ce se cells slots 180 [(4, .int q4), (3, .int q3), (2, .int q2), (0, .ref 24), (1, .int q1)] [] M' Post) → XJ G Y14_4 d ce se cells slots 140 [(4, .int q4), (3, .int q3), (2, .int q2), (0, .ref 24), (1, .int q1)] [] M Post := by
  intro m
  induction m with
  | zero =>
    intro f le sn tk M hsm hs64 hm hfr hO hA hE K
    have hz : sn = 0 := by omega
    subst hz
    refine xj_aload_n (i := 0) d14_4_140 rfl rfl ?_
    refine xj_get d14_4_141 f14_114_12 hO (by omega) (show 24 < M.1 by omega) rfl ?_
    refine xj_iconst (v := 1) d14_4_144 (by decide) ?_
    refine xj_icmp_le (tgt := 180) d14_4_145 rfl (fun _ => ?_) (fun h => absurd (nI_le (a := 0) (b := 1) (by omega) (by omega)) h)
    exact K M hm hfr hO hA hE
  | succ m ih =>
    intro f le sn tk M hsm hs64 hm hfr hO hA hE K
    by_cases h1 : sn ≤ 1
    · have hset : setl li (m + 1) (f, le, sn, tk) = (f, le, sn, tk) := setl_1 h1
      refine xj_aload_n (i := 0) d14_4_140 rfl rfl ?_
      refine xj_get d14_4_141 f14_114_12 hO (by omega) (show 24 < M.1 by omega) rfl ?_
      refine xj_iconst (v := 1) d14_4_144 (by decide) ?_
      refine xj_icmp_le (tgt := 180) d14_4_145 rfl (fun _ => ?_) (fun h => absurd (nI_le (a := sn) (b := 1) (by omega) (by omega)) h)
      exact K M hm hfr (by rw [hset]; exact hO) (by rw [hset]; exact hA) (by rw [hset]; exact hE)
    · obtain ⟨av, rfl⟩ : ∃ av, sn = av + 2 := ⟨sn - 2, by omega⟩
      by_cases hlv : le (av + 1) = le av
      · by_cases hcnt0 : xcnt (xmrgF f li (nI av) (nI (av + 1))) (nI av) 128 = 0
        · have hcnt := hcnt0
          have hset : setl li (m + 1) (f, le, av + 2, tk) = setl li m (xmrgF f li (nI av) (nI (av + 1)), upd le av (xmx (le av) (le (av + 1)) + 1), av, tk + xnum (fun j => (f j = nI av ∨ f j = nI (av + 1)) ∧ li j = 0) 128) := setl_n hlv hcnt
          refine xj_aload_n (i := 0) d14_4_140 rfl rfl ?_
          refine xj_get d14_4_141 f14_114_12 hO (by omega) (show 24 < M.1 by omega) rfl ?_
          refine xj_iconst (v := 1) d14_4_144 (by decide) ?_
          refine xj_icmp_le (tgt := 180) d14_4_145 rfl (fun h => absurd h (nI_ge (a := 1) (b := av + 2) (by omega) (by omega))) (fun _ => ?_)
          refine xj_aload_n (i := 0) d14_4_148 rfl rfl ?_
          refine xj_get d14_4_149 f14_26_12 hO (by omega) (show 24 < M.1 by omega) rfl ?_
          refine xj_aload_n (i := 0) d14_4_152 rfl rfl ?_
          refine xj_get d14_4_153 f14_114_12 hO (by omega) (show 24 < M.1 by omega) rfl ?_
          refine xj_iconst (v := 1) d14_4_156 (by decide) ?_
          refine xj_isub (v := nI (av + 1)) d14_4_157 (nI_pred (av + 1)) ?_
          refine xj_iaload (j := av + 1) d14_4_158 hE (by omega) (show 30 < M.1 by omega) (vp_in_nI (by omega) (by omega)) (nI_clamp (by omega)) ?_
          refine xj_aload_n (i := 0) d14_4_159 rfl rfl ?_
          refine xj_get d14_4_160 f14_26_12 hO (by omega) (show 24 < M.1 by omega) rfl ?_
          refine xj_aload_n (i := 0) d14_4_163 rfl rfl ?_
          refine xj_get d14_4_164 f14_114_12 hO (by omega) (show 24 < M.1 by omega) rfl ?_
          refine xj_iconst (v := 2) d14_4_167 (by decide) ?_
          refine xj_isub (v := nI av) d14_4_168 (xsub2 av) ?_
          refine xj_iaload (j := av) d14_4_169 hE (by omega) (show 30 < M.1 by omega) (vp_in_nI (by omega) (by omega)) (nI_clamp (by omega)) ?_
          refine xj_icmp_ne (tgt := 180) d14_4_170 rfl (fun h => absurd hlv h) (fun _ => ?_)
          refine xj_aload_n (i := 0) d14_4_173 rfl rfl ?_
          refine xj_callV (rest := []) (As := []) (b := 24) (mMergeN hg (M := M) (n := n) (dl := dl) (pl := pl) (vc := vc) (tk := tk) (hc := hc) (y13 := y13) (y22 := y22) (y23 := y23) (y24 := y24) (y33 := y33) (y36 := y36) (y37 := y37) (y38 := y38) (y39 := y39) (f := f) (li := li) (le := le) (show M.1 = n by omega) (by omega) (by omega) (by omega) hO (by omega) (by omega) hA (by omega) (by omega) ((hfr 27 (by omega) (by omega) (by omega) (by omega)).trans h_27) (by omega) (by omega) hE hxn (by omega) (by omega) hcnt) d14_4_174 wd14_10 hO (by omega) (show 24 < M.1 by omega) rfl s14_10 w1155 (Or.inl w1153) rfl rfl (Nat.le_of_ble_eq_true rfl) (by omega) (by omega) (by omega) ?_
          rintro v M1 ⟨rfl, hs1, ho1, hf1_0, hf1_1, hf1_2⟩
          replace hs1 : M1.1 = n := hs1
          replace hf1_0 : M1.2 28 = (.inl (0, 128, .inl (xmrgF f li (nI av) (nI (av + 1))))) := hf1_0
          replace hf1_1 : M1.2 24 = (.inr (12, [.ref 25, .ref 26, .ref 27, .ref 28, .ref 29, .ref 30, .int (nI av), .int (nI vc), .int (nI (tk + xnum (fun j => (f j = nI av ∨ f j = nI (av + 1)) ∧ li j = 0) 128)), .ref 31, .int (nI dl), .ref 32, .int (nI pl), .int y13, .ref 33, .ref 34, .ref 35, .ref 36, .ref 37, .ref 38, .ref 39, .ref 40, .int y22, .int y23, .int y24, .ref 41, .ref 42, .ref 43, .ref 44, .ref 45, .ref 46, .ref 47, .ref 48, .int y33, .ref 49, .ref 50, .int y36, .int y37, .int y38, .int y39, .int (nI hc), .ref 51])) := hf1_1
          replace hf1_2 : M1.2 30 = (.inl (0, 64, .inl (upd le av (xmx (le av) (le (av + 1)) + 1)))) := hf1_2
          refine xj_goto (tgt := 140) d14_4_177 rfl ?_
          refine ih (xmrgF f li (nI av) (nI (av + 1))) (upd le av (xmx (le av) (le (av + 1)) + 1)) (av) (tk + xnum (fun j => (f j = nI av ∨ f j = nI (av + 1)) ∧ li j = 0) 128) M1 (by omega) (by omega) (by omega) (fun j hj0 hj hj2 hj3 => (ho1 j (by omega) (by omega) (by omega) (by omega)).trans (hfr j hj0 hj hj2 hj3)) hf1_1 hf1_0 hf1_2 (fun M' e1 e2 e3 e4 e5 => K M' e1 e2 (by rw [hset]; exact e3) (by rw [hset]; exact e4) (by rw [hset]; exact e5))
        · have hcnt := Nat.pos_of_ne_zero hcnt0
          have hset : setl li (m + 1) (f, le, av + 2, tk) = setl li m (xmrgF f li (nI av) (nI (av + 1)), upd le av (xmx (le av) (le (av + 1)) + 1), av + 1, tk + xnum (fun j => (f j = nI av ∨ f j = nI (av + 1)) ∧ li j = 0) 128) := setl_y hlv hcnt
          refine xj_aload_n (i := 0) d14_4_140 rfl rfl ?_
          refine xj_get d14_4_141 f14_114_12 hO (by omega) (show 24 < M.1 by omega) rfl ?_
          refine xj_iconst (v := 1) d14_4_144 (by decide) ?_
          refine xj_icmp_le (tgt := 180) d14_4_145 rfl (fun h => absurd h (nI_ge (a := 1) (b := av + 2) (by omega) (by omega))) (fun _ => ?_)
          refine xj_aload_n (i := 0) d14_4_148 rfl rfl ?_
          refine xj_get d14_4_149 f14_26_12 hO (by omega) (show 24 < M.1 by omega) rfl ?_
          refine xj_aload_n (i := 0) d14_4_152 rfl rfl ?_
          refine xj_get d14_4_153 f14_114_12 hO (by omega) (show 24 < M.1 by omega) rfl ?_
          refine xj_iconst (v := 1) d14_4_156 (by decide) ?_
          refine xj_isub (v := nI (av + 1)) d14_4_157 (nI_pred (av + 1)) ?_
          refine xj_iaload (j := av + 1) d14_4_158 hE (by omega) (show 30 < M.1 by omega) (vp_in_nI (by omega) (by omega)) (nI_clamp (by omega)) ?_
          refine xj_aload_n (i := 0) d14_4_159 rfl rfl ?_
          refine xj_get d14_4_160 f14_26_12 hO (by omega) (show 24 < M.1 by omega) rfl ?_
          refine xj_aload_n (i := 0) d14_4_163 rfl rfl ?_
          refine xj_get d14_4_164 f14_114_12 hO (by omega) (show 24 < M.1 by omega) rfl ?_
          refine xj_iconst (v := 2) d14_4_167 (by decide) ?_
          refine xj_isub (v := nI av) d14_4_168 (xsub2 av) ?_
          refine xj_iaload (j := av) d14_4_169 hE (by omega) (show 30 < M.1 by omega) (vp_in_nI (by omega) (by omega)) (nI_clamp (by omega)) ?_
          refine xj_icmp_ne (tgt := 180) d14_4_170 rfl (fun h => absurd hlv h) (fun _ => ?_)
          refine xj_aload_n (i := 0) d14_4_173 rfl rfl ?_
          refine xj_callV (rest := []) (As := []) (b := 24) (mMergeY hg (M := M) (n := n) (dl := dl) (pl := pl) (vc := vc) (tk := tk) (hc := hc) (y13 := y13) (y22 := y22) (y23 := y23) (y24 := y24) (y33 := y33) (y36 := y36) (y37 := y37) (y38 := y38) (y39 := y39) (f := f) (li := li) (le := le) (show M.1 = n by omega) (by omega) (by omega) (by omega) hO (by omega) (by omega) hA (by omega) (by omega) ((hfr 27 (by omega) (by omega) (by omega) (by omega)).trans h_27) (by omega) (by omega) hE hxn (by omega) (by omega) hcnt) d14_4_174 wd14_10 hO (by omega) (show 24 < M.1 by omega) rfl s14_10 w1155 (Or.inl w1153) rfl rfl (Nat.le_of_ble_eq_true rfl) (by omega) (by omega) (by omega) ?_
          rintro v M1 ⟨rfl, hs1, ho1, hf1_0, hf1_1, hf1_2⟩
          replace hs1 : M1.1 = n := hs1
          replace hf1_0 : M1.2 28 = (.inl (0, 128, .inl (xmrgF f li (nI av) (nI (av + 1))))) := hf1_0
          replace hf1_1 : M1.2 24 = (.inr (12, [.ref 25, .ref 26, .ref 27, .ref 28, .ref 29, .ref 30, .int (nI (av + 1)), .int (nI vc), .int (nI (tk + xnum (fun j => (f j = nI av ∨ f j = nI (av + 1)) ∧ li j = 0) 128)), .ref 31, .int (nI dl), .ref 32, .int (nI pl), .int y13, .ref 33, .ref 34, .ref 35, .ref 36, .ref 37, .ref 38, .ref 39, .ref 40, .int y22, .int y23, .int y24, .ref 41, .ref 42, .ref 43, .ref 44, .ref 45, .ref 46, .ref 47, .ref 48, .int y33, .ref 49, .ref 50, .int y36, .int y37, .int y38, .int y39, .int (nI hc), .ref 51])) := hf1_1
          replace hf1_2 : M1.2 30 = (.inl (0, 64, .inl (upd le av (xmx (le av) (le (av + 1)) + 1)))) := hf1_2
          refine xj_goto (tgt := 140) d14_4_177 rfl ?_
          refine ih (xmrgF f li (nI av) (nI (av + 1))) (upd le av (xmx (le av) (le (av + 1)) + 1)) (av + 1) (tk + xnum (fun j => (f j = nI av ∨ f j = nI (av + 1)) ∧ li j = 0) 128) M1 (by omega) (by omega) (by omega) (fun j hj0 hj hj2 hj3 => (ho1 j (by omega) (by omega) (by omega) (by omega)).trans (hfr j hj0 hj hj2 hj3)) hf1_1 hf1_0 hf1_2 (fun M' e1 e2 e3 e4 e5 => K M' e1 e2 (by rw [hset]; exact e3) (by rw [hset]; exact e4) (by rw [hset]; exact e5))
      · have hset : setl li (m + 1) (f, le, av + 2, tk) = (f, le, av + 2, tk) := setl_d hlv
        refine xj_aload_n (i := 0) d14_4_140 rfl rfl ?_
        refine xj_get d14_4_141 f14_114_12 hO (by omega) (show 24 < M.1 by omega) rfl ?_
        refine xj_iconst (v := 1) d14_4_144 (by decide) ?_
        refine xj_icmp_le (tgt := 180) d14_4_145 rfl (fun h => absurd h (nI_ge (a := 1) (b := av + 2) (by omega) (by omega))) (fun _ => ?_)
        refine xj_aload_n (i := 0) d14_4_148 rfl rfl ?_
        refine xj_get d14_4_149 f14_26_12 hO (by omega) (show 24 < M.1 by omega) rfl ?_
        refine xj_aload_n (i := 0) d14_4_152 rfl rfl ?_
        refine xj_get d14_4_153 f14_114_12 hO (by omega) (show 24 < M.1 by omega) rfl ?_
        refine xj_iconst (v := 1) d14_4_156 (by decide) ?_
        refine xj_isub (v := nI (av + 1)) d14_4_157 (nI_pred (av + 1)) ?_
        refine xj_iaload (j := av + 1) d14_4_158 hE (by omega) (show 30 < M.1 by omega) (vp_in_nI (by omega) (by omega)) (nI_clamp (by omega)) ?_
        refine xj_aload_n (i := 0) d14_4_159 rfl rfl ?_
        refine xj_get d14_4_160 f14_26_12 hO (by omega) (show 24 < M.1 by omega) rfl ?_
        refine xj_aload_n (i := 0) d14_4_163 rfl rfl ?_
        refine xj_get d14_4_164 f14_114_12 hO (by omega) (show 24 < M.1 by omega) rfl ?_
        refine xj_iconst (v := 2) d14_4_167 (by decide) ?_
        refine xj_isub (v := nI av) d14_4_168 (xsub2 av) ?_
        refine xj_iaload (j := av) d14_4_169 hE (by omega) (show 30 < M.1 by omega) (vp_in_nI (by omega) (by omega)) (nI_clamp (by omega)) ?_
        refine xj_icmp_ne (tgt := 180) d14_4_170 rfl (fun _ => ?_) (fun h => absurd h hlv)
        exact K M hm hfr (by rw [hset]; exact hO) (by rw [hset]; exact hA) (by rw [hset]; exact hE)
theorem mCmpL {G : xG} (hg : xGood G) (hxn : xn = 16) {M0 : xM} {n : Nat} (hn2 : 52 ≤ n) {dl : Nat} {pl : Nat} {vc : Nat} {hc : Nat} {y13 : Int32} {y22 : Int32} {y23 : Int32} {y24 : Int32} {y33 : Int32} {y36 : Int32} {y37 : Int32} {y38 : Int32} {y39 : Int32} {li : Nat → Int32} (h_27 : M0.2 27 = (.inl (2, 128, .inl li))) {q1 : Int32} {d ce se cells slots : Nat} {Post : Option Value → xM → Prop} (hd : 2 ≤ d) (hcc : cells ≤ ce) (hss : slots ≤ se) : ∀ (m : Nat) (f le : Nat → Int32) (sn tk c0 : Nat) (M : xM), sn ≤ m → sn ≤ 64 → M.1 = n → (∀ j, j < n → j ≠ 24 → j ≠ 28 → j ≠ 30 → M.2 j = M0.2 j) → M.2 24 = (.inr (12, [.ref 25, .ref 26, .ref 27, .ref 28, .ref 29, .ref 30, .int (nI (sn)), .int (nI vc), .int (nI (tk)), .ref 31, .int (nI dl), .ref 32, .int (nI pl), .int y13, .ref 33, .ref 34, .ref 35, .ref 36, .ref 37, .ref 38, .ref 39, .ref 40, .int y22, .int y23, .int y24, .ref 41, .ref 42, .ref 43, .ref 44, .ref 45, .ref 46, .ref 47, .ref 48, .int y33, .ref 49, .ref 50, .int y36, .int y37, .int y38, .int y39, .int (nI hc), .ref 51])) → M.2 28 = (.inl (0, 128, .inl f)) → M.2 30 = (.inl (0, 64, .inl le)) → (∀ M' : xM, M'.1 = n → (∀ j, j < n → j ≠ 24 → j ≠ 28 → j ≠ 30 → M'.2 j = M0.2 j) → M'.2 24 = (.inr (12, [.ref 25, .ref 26, .ref 27, .ref 28, .ref 29, .ref 30, .int (nI ((cmpl li m (f, le, sn, tk) c0).1.2.2.1)), .int (nI vc), .int (nI ((cmpl li m (f, le, sn, tk) c0).1.2.2.2)), .ref 31, .int (nI dl), .ref 32, .int (nI pl), .int y13, .ref 33, .ref 34, .ref 35, .ref 36, .ref 37, .ref 38, .ref 39, .ref 40, .int y22, .int y23, .int y24, .ref 41, .ref 42, .ref 43, .ref 44, .ref 45, .ref 46, .ref 47, .ref 48, .int y33, .ref 49, .ref 50, .int y36, .int y37, .int y38, .int y39, .int (nI hc), .ref 51])) → M'.2 28 = (.inl (0, 128, .inl ((cmpl li m (f, le, sn, tk) c0).1.1))) → M'.2 30 = (.inl (0, 64, .inl ((cmpl li m (f, le, sn, tk) c0).1.2.1))) → XJ G Y14_13 d ce se cells slots 35 [(2, .int (nI ((cmpl li m (f, le, sn, tk) c0).2))), (1, .int q1), (0, .ref 24)] [] M' Post) → XJ G Y14_13 d ce se cells slots 17 [(2, .int (nI c0)), (1, .int q1), (0, .ref 24)] [] M Post := by
  intro m
  induction m with
  | zero =>
    intro f le sn tk c0 M hsm hs64 hm hfr hO hA hE K
    have hz : sn = 0 := by omega
    subst hz
    refine xj_aload_n (i := 0) d14_13_17 rfl rfl ?_
    refine xj_get d14_13_18 f14_114_12 hO (by omega) (show 24 < M.1 by omega) rfl ?_
    refine xj_iconst (v := 1) d14_13_21 (by decide) ?_
    refine xj_icmp_le (tgt := 35) d14_13_22 rfl (fun _ => ?_) (fun h => absurd (nI_le (a := 0) (b := 1) (by omega) (by omega)) h)
    exact K M hm hfr hO hA hE
  | succ m ih =>
    intro f le sn tk c0 M hsm hs64 hm hfr hO hA hE K
    by_cases h1 : sn ≤ 1
    · have hset : cmpl li (m + 1) (f, le, sn, tk) c0 = ((f, le, sn, tk), c0) := cmpl_1 h1
      rw [hset] at K
      refine xj_aload_n (i := 0) d14_13_17 rfl rfl ?_
      refine xj_get d14_13_18 f14_114_12 hO (by omega) (show 24 < M.1 by omega) rfl ?_
      refine xj_iconst (v := 1) d14_13_21 (by decide) ?_
      refine xj_icmp_le (tgt := 35) d14_13_22 rfl (fun _ => ?_) (fun h => absurd (nI_le (a := sn) (b := 1) (by omega) (by omega)) h)
      exact K M hm hfr hO hA hE
    · obtain ⟨av, rfl⟩ : ∃ av, sn = av + 2 := ⟨sn - 2, by omega⟩
      by_cases hcnt0 : xcnt (xmrgF f li (nI av) (nI (av + 1))) (nI av) 128 = 0
      · have hcnt := hcnt0
        have hset : cmpl li (m + 1) (f, le, av + 2, tk) c0 = cmpl li m (xmrgF f li (nI av) (nI (av + 1)), upd le av (xmx (le av) (le (av + 1)) + 1), av, tk + xnum (fun j => (f j = nI av ∨ f j = nI (av + 1)) ∧ li j = 0) 128) (c0 + 1) := cmpl_n hcnt
        refine xj_aload_n (i := 0) d14_13_17 rfl rfl ?_
        refine xj_get d14_13_18 f14_114_12 hO (by omega) (show 24 < M.1 by omega) rfl ?_
        refine xj_iconst (v := 1) d14_13_21 (by decide) ?_
        refine xj_icmp_le (tgt := 35) d14_13_22 rfl (fun h => absurd h (nI_ge (a := 1) (b := av + 2) (by omega) (by omega))) (fun _ => ?_)
        refine xj_aload_n (i := 0) d14_13_25 rfl rfl ?_
        refine xj_callV (rest := []) (As := []) (b := 24) (mMergeN hg (M := M) (n := n) (dl := dl) (pl := pl) (vc := vc) (tk := tk) (hc := hc) (y13 := y13) (y22 := y22) (y23 := y23) (y24 := y24) (y33 := y33) (y36 := y36) (y37 := y37) (y38 := y38) (y39 := y39) (f := f) (li := li) (le := le) (show M.1 = n by omega) (by omega) (by omega) (by omega) hO (by omega) (by omega) hA (by omega) (by omega) ((hfr 27 (by omega) (by omega) (by omega) (by omega)).trans h_27) (by omega) (by omega) hE hxn (by omega) (by omega) hcnt) d14_13_26 wd14_10 hO (by omega) (show 24 < M.1 by omega) rfl s14_10 w1155 (Or.inl w1153) rfl rfl (Nat.le_of_ble_eq_true rfl) (by omega) (by omega) (by omega) ?_
        rintro v M1 ⟨rfl, hs1, ho1, hf1_0, hf1_1, hf1_2⟩
        replace hs1 : M1.1 = n := hs1
        replace hf1_0 : M1.2 28 = (.inl (0, 128, .inl (xmrgF f li (nI av) (nI (av + 1))))) := hf1_0
        replace hf1_1 : M1.2 24 = (.inr (12, [.ref 25, .ref 26, .ref 27, .ref 28, .ref 29, .ref 30, .int (nI av), .int (nI vc), .int (nI (tk + xnum (fun j => (f j = nI av ∨ f j = nI (av + 1)) ∧ li j = 0) 128)), .ref 31, .int (nI dl), .ref 32, .int (nI pl), .int y13, .ref 33, .ref 34, .ref 35, .ref 36, .ref 37, .ref 38, .ref 39, .ref 40, .int y22, .int y23, .int y24, .ref 41, .ref 42, .ref 43, .ref 44, .ref 45, .ref 46, .ref 47, .ref 48, .int y33, .ref 49, .ref 50, .int y36, .int y37, .int y38, .int y39, .int (nI hc), .ref 51])) := hf1_1
        replace hf1_2 : M1.2 30 = (.inl (0, 64, .inl (upd le av (xmx (le av) (le (av + 1)) + 1)))) := hf1_2
        refine xj_iinc (v := nI (c0 + 1)) (L' := [(2, .int (nI (c0 + 1))), (1, .int q1), (0, .ref 24)]) d14_13_29 rfl (xinc _) (by decide) rfl ?_
        refine xj_goto (tgt := 17) d14_13_32 rfl ?_
        refine ih (xmrgF f li (nI av) (nI (av + 1))) (upd le av (xmx (le av) (le (av + 1)) + 1)) (av) (tk + xnum (fun j => (f j = nI av ∨ f j = nI (av + 1)) ∧ li j = 0) 128) (c0 + 1) M1 (by omega) (by omega) (by omega) (fun j hj0 hj hj2 hj3 => (ho1 j (by omega) (by omega) (by omega) (by omega)).trans (hfr j hj0 hj hj2 hj3)) hf1_1 hf1_0 hf1_2 (fun M' e1 e2 e3 e4 e5 => by rw [hset] at K; exact K M' e1 e2 e3 e4 e5)
      · have hcnt := Nat.pos_of_ne_zero hcnt0
        have hset : cmpl li (m + 1) (f, le, av + 2, tk) c0 = cmpl li m (xmrgF f li (nI av) (nI (av + 1)), upd le av (xmx (le av) (le (av + 1)) + 1), av + 1, tk + xnum (fun j => (f j = nI av ∨ f j = nI (av + 1)) ∧ li j = 0) 128) (c0 + 1) := cmpl_y hcnt
        refine xj_aload_n (i := 0) d14_13_17 rfl rfl ?_
        refine xj_get d14_13_18 f14_114_12 hO (by omega) (show 24 < M.1 by omega) rfl ?_
        refine xj_iconst (v := 1) d14_13_21 (by decide) ?_
        refine xj_icmp_le (tgt := 35) d14_13_22 rfl (fun h => absurd h (nI_ge (a := 1) (b := av + 2) (by omega) (by omega))) (fun _ => ?_)
        refine xj_aload_n (i := 0) d14_13_25 rfl rfl ?_
        refine xj_callV (rest := []) (As := []) (b := 24) (mMergeY hg (M := M) (n := n) (dl := dl) (pl := pl) (vc := vc) (tk := tk) (hc := hc) (y13 := y13) (y22 := y22) (y23 := y23) (y24 := y24) (y33 := y33) (y36 := y36) (y37 := y37) (y38 := y38) (y39 := y39) (f := f) (li := li) (le := le) (show M.1 = n by omega) (by omega) (by omega) (by omega) hO (by omega) (by omega) hA (by omega) (by omega) ((hfr 27 (by omega) (by omega) (by omega) (by omega)).trans h_27) (by omega) (by omega) hE hxn (by omega) (by omega) hcnt) d14_13_26 wd14_10 hO (by omega) (show 24 < M.1 by omega) rfl s14_10 w1155 (Or.inl w1153) rfl rfl (Nat.le_of_ble_eq_true rfl) (by omega) (by omega) (by omega) ?_
        rintro v M1 ⟨rfl, hs1, ho1, hf1_0, hf1_1, hf1_2⟩
        replace hs1 : M1.1 = n := hs1
        replace hf1_0 : M1.2 28 = (.inl (0, 128, .inl (xmrgF f li (nI av) (nI (av + 1))))) := hf1_0
        replace hf1_1 : M1.2 24 = (.inr (12, [.ref 25, .ref 26, .ref 27, .ref 28, .ref 29, .ref 30, .int (nI (av + 1)), .int (nI vc), .int (nI (tk + xnum (fun j => (f j = nI av ∨ f j = nI (av + 1)) ∧ li j = 0) 128)), .ref 31, .int (nI dl), .ref 32, .int (nI pl), .int y13, .ref 33, .ref 34, .ref 35, .ref 36, .ref 37, .ref 38, .ref 39, .ref 40, .int y22, .int y23, .int y24, .ref 41, .ref 42, .ref 43, .ref 44, .ref 45, .ref 46, .ref 47, .ref 48, .int y33, .ref 49, .ref 50, .int y36, .int y37, .int y38, .int y39, .int (nI hc), .ref 51])) := hf1_1
        replace hf1_2 : M1.2 30 = (.inl (0, 64, .inl (upd le av (xmx (le av) (le (av + 1)) + 1)))) := hf1_2
        refine xj_iinc (v := nI (c0 + 1)) (L' := [(2, .int (nI (c0 + 1))), (1, .int q1), (0, .ref 24)]) d14_13_29 rfl (xinc _) (by decide) rfl ?_
        refine xj_goto (tgt := 17) d14_13_32 rfl ?_
        refine ih (xmrgF f li (nI av) (nI (av + 1))) (upd le av (xmx (le av) (le (av + 1)) + 1)) (av + 1) (tk + xnum (fun j => (f j = nI av ∨ f j = nI (av + 1)) ∧ li j = 0) 128) (c0 + 1) M1 (by omega) (by omega) (by omega) (fun j hj0 hj hj2 hj3 => (ho1 j (by omega) (by omega) (by omega) (by omega)).trans (hfr j hj0 hj hj2 hj3)) hf1_1 hf1_0 hf1_2 (fun M' e1 e2 e3 e4 e5 => by rw [hset] at K; exact K M' e1 e2 e3 e4 e5)

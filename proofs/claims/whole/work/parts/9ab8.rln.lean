set_option maxRecDepth 20000 in
set_option maxHeartbeats 4000000 in
theorem mLnL {G : xG} (hg : xGood G) (hxn : xn = 16) {n : Nat} (hn2 : 52 ≤ n) {dl : Nat} {pl : Nat} {vc : Nat} {tk : Nat} {sn : Nat} {y22 : Int32} {y23 : Int32} {y24 : Int32} {y33 : Int32} {y38 : Int32} {y39 : Int32} {M0 : xM} (hn0 : M0.1 = n) {tx te kd ch nx lo hi wt cs : Nat → Int32} {A : List xNode} {lo_ : Nat → Nat} (k25 : M0.2 25 = (.inl (0, 5120, .inl tx))) (k26 : M0.2 26 = (.inl (0, 128, .inl te))) (k33 : M0.2 33 = (.inl (0, 30, .inl kd))) (k34 : M0.2 34 = (.inl (0, 30, .inl ch))) (k35 : M0.2 35 = (.inl (0, 30, .inl nx))) (k37 : M0.2 37 = (.inl (0, 30, .inl lo))) (k38 : M0.2 38 = (.inl (0, 30, .inl hi))) (k40 : M0.2 40 = (.inl (2, 2850, .inl cs))) (hA26 : A.length ≤ 26) (hA0 : 0 < A.length) (hO : ∀ (i : Nat) (q : xNode), A[i]? = some q → pOk A lo_ i q) (hN : ∀ (i : Nat) (q : xNode), A[i]? = some q → nS kd ch nx lo hi wt cs i q) {sl tl nm : Nat} (hsl : sl < 128) (hte : te sl = nI tl) (htl : tl ≤ 40) (hnm : nm < 10) (hch : ∀ j, j < tl → tx (40 * sl + j) = 10 ∨ ∃ u, u < 95 ∧ tx (40 * sl + j) = nI (u + 32)) {d ce se cells slots : Nat} (hd : 3 ≤ d) (hcc : cells ≤ ce) (hss : slots ≤ se) : ∀ (r k l s : Nat) (H : List Int32) (M : xM) (rc : Nat → Int64) (fh : Nat → Int32) (ll : Int32), k + r = tl + 1 → s ≤ k → l ≤ k → (∀ j, s ≤ j → j < k → ¬ tx (40 * sl + j) = 10) → H.length ≤ 41 * nm + l → rZ M0 M rc fh → M.2 24 = (.inr (12, [.ref 25, .ref 26, .ref 27, .ref 28, .ref 29, .ref 30, .int (nI sn), .int (nI vc), .int (nI tk), .ref 31, .int (nI dl), .ref 32, .int (nI pl), .int (nI A.length), .ref 33, .ref 34, .ref 35, .ref 36, .ref 37, .ref 38, .ref 39, .ref 40, .int y22, .int y23, .int y24, .ref 41, .ref 42, .ref 43, .ref 44, .ref 45, .ref 46, .ref 47, .ref 48, .int y33, .ref 49, .ref 50, .int (nI (40 * sl + s)), .int ll, .int y38, .int y39, .int (nI H.length), .ref 51])) → hAr fh H → XJ G Y14_60 d ce se cells slots 13 [(4, .int (nI k)), (3, .int (nI l)), (0, .ref 24), (1, .int (nI nm)), (2, .int (nI sl))] [] M (fun v M' => v = none ∧ ∃ (rc' : Nat → Int64) (fh' : Nat → Int32) (x' z' : Int32), rZ M0 M' rc' fh' ∧ M'.2 24 = (.inr (12, [.ref 25, .ref 26, .ref 27, .ref 28, .ref 29, .ref 30, .int (nI sn), .int (nI vc), .int (nI tk), .ref 31, .int (nI dl), .ref 32, .int (nI pl), .int (nI A.length), .ref 33, .ref 34, .ref 35, .ref 36, .ref 37, .ref 38, .ref 39, .ref 40, .int y22, .int y23, .int y24, .ref 41, .ref 42, .ref 43, .ref 44, .ref 45, .ref 46, .ref 47, .ref 48, .int y33, .ref 49, .ref 50, .int z', .int x', .int y38, .int y39, .int (nI (sTx A (fun j => tx (40 * sl + j)) tl (nI nm) r k l s H).length), .ref 51])) ∧ hAr fh' (sTx A (fun j => tx (40 * sl + j)) tl (nI nm) r k l s H)) := by
  intro r
  induction r with
  | zero =>
    intro k l s H M rc fh ll hk hsk hlk hnn hHl hZ h_24 hH
    have hm0 := hZ.1
    refine xj_iload (i := 4) d14_60_13 rfl ?_
    refine xj_aload_n (i := 0) d14_60_15 rfl rfl ?_
    refine xj_get d14_60_16 f14_13_12 h_24 (by omega) (show 24 < M.1 by omega) rfl ?_
    refine xj_iload_n (i := 2) d14_60_19 rfl rfl ?_
    refine xj_iaload (j := sl) d14_60_20 ((hZ.2.1 26 (by omega) (by omega) (by omega) (by omega)).trans k26) (by omega) (show 26 < M.1 by omega) (vp_in_nI (by omega) (by omega)) (nI_clamp (by omega)) ?_
    rw [show te sl = nI tl from hte]
    refine xj_icmp_gt (tgt := 96) d14_60_21 rfl (fun _ => ?_) (fun h => absurd (nI_lt (a := tl) (b := k) (by omega) (by omega)) h)
    exact xj_ret d14_60_96 hcc hss rfl ⟨rfl, rc, fh, _, _, hZ, h_24, hH⟩
  | succ r ih =>
    intro k l s H M rc fh ll hk hsk hlk hnn hHl hZ h_24 hH
    have hm0 := hZ.1
    have hln9 : ∀ i, i < k - s → lnF (fun j => tx (40 * sl + j)) s i < 95 ∧ tx (40 * sl + s + i) = nI (lnF (fun j => tx (40 * sl + j)) s i + 32) := fun i hi => by
      obtain ⟨u, u1, u2⟩ := (hch (s + i) (by omega)).resolve_left (hnn (s + i) (by omega) (by omega))
      rw [lnF_eq (f := (fun j => tx (40 * sl + j))) u1 u2, Nat.add_assoc]
      exact ⟨u1, u2⟩
    by_cases hkt : k = tl
    · have hcase : k = tl ∨ tx (40 * sl + k) = 10 := Or.inl hkt
      refine xj_iload (i := 4) d14_60_13 rfl ?_
      refine xj_aload_n (i := 0) d14_60_15 rfl rfl ?_
      refine xj_get d14_60_16 f14_13_12 h_24 (by omega) (show 24 < M.1 by omega) rfl ?_
      refine xj_iload_n (i := 2) d14_60_19 rfl rfl ?_
      refine xj_iaload (j := sl) d14_60_20 ((hZ.2.1 26 (by omega) (by omega) (by omega) (by omega)).trans k26) (by omega) (show 26 < M.1 by omega) (vp_in_nI (by omega) (by omega)) (nI_clamp (by omega)) ?_
      rw [show te sl = nI tl from hte]
      refine xj_icmp_gt (tgt := 96) d14_60_21 rfl (fun h => absurd h (nI_nlt (a := tl) (b := k) (by omega) (by omega))) (fun _ => ?_)
      refine xj_iload (i := 4) d14_60_24 rfl ?_
      refine xj_aload_n (i := 0) d14_60_26 rfl rfl ?_
      refine xj_get d14_60_27 f14_13_12 h_24 (by omega) (show 24 < M.1 by omega) rfl ?_
      refine xj_iload_n (i := 2) d14_60_30 rfl rfl ?_
      refine xj_iaload (j := sl) d14_60_31 ((hZ.2.1 26 (by omega) (by omega) (by omega) (by omega)).trans k26) (by omega) (show 26 < M.1 by omega) (vp_in_nI (by omega) (by omega)) (nI_clamp (by omega)) ?_
      rw [show te sl = nI tl from hte]
      refine xj_icmp_eq (tgt := 52) d14_60_32 rfl (fun _ => ?_) (fun h => absurd (congrArg nI hkt) h)
      refine xj_aload_n (i := 0) d14_60_52 rfl rfl ?_
      refine xj_bipush (v := 40) d14_60_53 (by decide) ?_
      refine xj_iload_n (i := 2) d14_60_55 rfl rfl ?_
      refine xj_imul (v := nI (40 * sl)) d14_60_56 (pk_mul 40 sl) ?_
      refine xj_iload (i := 4) d14_60_57 rfl ?_
      refine xj_iadd (v := nI (40 * sl + k)) d14_60_59 (nI_add (40 * sl) k) ?_
      refine xj_aload_n (i := 0) d14_60_60 rfl rfl ?_
      refine xj_get d14_60_61 f14_264_12 h_24 (by omega) (show 24 < M.1 by omega) rfl ?_
      refine xj_isub (v := nI (k - s)) d14_60_64 (by rw [pk_sub (by omega), show 40 * sl + k - (40 * sl + s) = k - s by omega]) ?_
      refine xj_put (a := 24) (fs' := [.ref 25, .ref 26, .ref 27, .ref 28, .ref 29, .ref 30, .int (nI sn), .int (nI vc), .int (nI tk), .ref 31, .int (nI dl), .ref 32, .int (nI pl), .int (nI A.length), .ref 33, .ref 34, .ref 35, .ref 36, .ref 37, .ref 38, .ref 39, .ref 40, .int y22, .int y23, .int y24, .ref 41, .ref 42, .ref 43, .ref 44, .ref 45, .ref 46, .ref 47, .ref 48, .int y33, .ref 49, .ref 50, .int (nI (40 * sl + s)), .int (nI (k - s)), .int y38, .int y39, .int (nI H.length), .ref 51]) d14_60_65 f14_261_12 h_24 (by omega) (show 24 < M.1 by omega) (Nat.le_of_ble_eq_true rfl) rfl rfl rfl ?_
      refine xj_abs_set (fun M1 hs1 ha1 ho1 => ?_)
      refine xj_aload_n (i := 0) d14_60_68 rfl rfl ?_
      refine xj_iload_n (i := 1) d14_60_69 rfl rfl ?_
      refine xj_iload_n (i := 3) d14_60_70 rfl rfl ?_
      have hm7 : M1.1 = n := by omega
      have hZ7 : rZ M M1 rc fh := ⟨(show M1.1 = M.1 by omega), (fun j hj a b c => (ho1 j (by omega))), ((ho1 50 (by omega)).trans hZ.2.2.1), ((ho1 51 (by omega)).trans hZ.2.2.2)⟩
      refine xj_callV (rest := []) (As := [.int (nI nm), .int (nI l)]) (b := 24) (mLine hg hxn hn2 hm7 ((ho1 25 (by omega)).trans ((hZ.2.1 25 (by omega) (by omega) (by omega) (by omega)).trans k25)) ((ho1 26 (by omega)).trans ((hZ.2.1 26 (by omega) (by omega) (by omega) (by omega)).trans k26)) ((ho1 33 (by omega)).trans ((hZ.2.1 33 (by omega) (by omega) (by omega) (by omega)).trans k33)) ((ho1 34 (by omega)).trans ((hZ.2.1 34 (by omega) (by omega) (by omega) (by omega)).trans k34)) ((ho1 35 (by omega)).trans ((hZ.2.1 35 (by omega) (by omega) (by omega) (by omega)).trans k35)) ((ho1 37 (by omega)).trans ((hZ.2.1 37 (by omega) (by omega) (by omega) (by omega)).trans k37)) ((ho1 38 (by omega)).trans ((hZ.2.1 38 (by omega) (by omega) (by omega) (by omega)).trans k38)) ((ho1 40 (by omega)).trans ((hZ.2.1 40 (by omega) (by omega) (by omega) (by omega)).trans k40)) hA26 hA0 hO hN (len := k - s) (ls := 40 * sl + s) (ln := lnF (fun j => tx (40 * sl + j)) s) (by omega) (by omega) hln9 (nm := nm) (l := l) hH (by omega) ha1 ((ho1 50 (by omega)).trans hZ.2.2.1) ((ho1 51 (by omega)).trans hZ.2.2.2)) d14_60_71 wd14_59 ha1 (by omega) (show 24 < M1.1 by omega) rfl s14_59 w1358 (Or.inl w1356) rfl rfl (Nat.le_of_ble_eq_true rfl) (by omega) (by omega) (by omega) ?_
      rintro v M6 ⟨rfl, rc6, fh6, hZ6, e24, hH6⟩
      have hm6 := hZ6.1
      replace e24 : M6.2 24 = (.inr (12, [.ref 25, .ref 26, .ref 27, .ref 28, .ref 29, .ref 30, .int (nI sn), .int (nI vc), .int (nI tk), .ref 31, .int (nI dl), .ref 32, .int (nI pl), .int (nI A.length), .ref 33, .ref 34, .ref 35, .ref 36, .ref 37, .ref 38, .ref 39, .ref 40, .int y22, .int y23, .int y24, .ref 41, .ref 42, .ref 43, .ref 44, .ref 45, .ref 46, .ref 47, .ref 48, .int y33, .ref 49, .ref 50, .int (nI (40 * sl + s)), .int (nI (k - s)), .int y38, .int y39, .int (nI ((sLin A (fun j => tx (40 * sl + j)) (nI nm * 16777216 + nI l * 65536) s k H).length)), .ref 51])) := e24
      replace hH6 : hAr fh6 (sLin A (fun j => tx (40 * sl + j)) (nI nm * 16777216 + nI l * 65536) s k H) := hH6
      refine xj_iinc (v := nI (l + 1)) (L' := [(3, .int (nI (l + 1))), (4, .int (nI k)), (0, .ref 24), (1, .int (nI nm)), (2, .int (nI sl))]) d14_60_74 rfl (xinc _) (by decide) rfl ?_
      refine xj_aload_n (i := 0) d14_60_77 rfl rfl ?_
      refine xj_bipush (v := 40) d14_60_78 (by decide) ?_
      refine xj_iload_n (i := 2) d14_60_80 rfl rfl ?_
      refine xj_imul (v := nI (40 * sl)) d14_60_81 (pk_mul 40 sl) ?_
      refine xj_iload (i := 4) d14_60_82 rfl ?_
      refine xj_iadd (v := nI (40 * sl + k)) d14_60_84 (nI_add (40 * sl) k) ?_
      refine xj_iconst (v := 1) d14_60_85 (by decide) ?_
      refine xj_iadd (v := nI (40 * sl + (k + 1))) d14_60_86 (by rw [nI_1, show 40 * sl + k + 1 = 40 * sl + (k + 1) by omega]) ?_
      refine xj_put (a := 24) (fs' := [.ref 25, .ref 26, .ref 27, .ref 28, .ref 29, .ref 30, .int (nI sn), .int (nI vc), .int (nI tk), .ref 31, .int (nI dl), .ref 32, .int (nI pl), .int (nI A.length), .ref 33, .ref 34, .ref 35, .ref 36, .ref 37, .ref 38, .ref 39, .ref 40, .int y22, .int y23, .int y24, .ref 41, .ref 42, .ref 43, .ref 44, .ref 45, .ref 46, .ref 47, .ref 48, .int y33, .ref 49, .ref 50, .int (nI (40 * sl + (k + 1))), .int (nI (k - s)), .int y38, .int y39, .int (nI ((sLin A (fun j => tx (40 * sl + j)) (nI nm * 16777216 + nI l * 65536) s k H).length)), .ref 51]) d14_60_87 f14_264_12 e24 (by omega) (show 24 < M6.1 by omega) (Nat.le_of_ble_eq_true rfl) rfl rfl rfl ?_
      refine xj_abs_set (fun M2 hs2 ha2 ho2 => ?_)
      refine xj_iinc (v := nI (k + 1)) (L' := [(4, .int (nI (k + 1))), (3, .int (nI (l + 1))), (0, .ref 24), (1, .int (nI nm)), (2, .int (nI sl))]) d14_60_90 rfl (xinc _) (by decide) rfl ?_
      refine xj_goto (tgt := 13) d14_60_93 rfl ?_
      refine xj_sub (L' := [(4, .int (nI (k + 1))), (3, .int (nI (l + 1))), (0, .ref 24), (1, .int (nI nm)), (2, .int (nI sl))]) (fun q hq => by simp only [List.mem_cons, List.not_mem_nil, or_false] at hq ⊢; rcases hq with rfl | rfl | rfl | rfl | rfl <;> simp) ?_
      have hsl9 := sLin_len (A := A) (f := (fun j => tx (40 * sl + j))) (nl := nI nm * 16777216 + nI l * 65536) (s := s) (e := k) (H := H)
      have hst9 : sTx A (fun j => tx (40 * sl + j)) tl (nI nm) (r + 1) k l s H = sTx A (fun j => tx (40 * sl + j)) tl (nI nm) r (k + 1) (l + 1) (k + 1) (sLin A (fun j => tx (40 * sl + j)) (nI nm * 16777216 + nI l * 65536) s k H) := if_pos hcase
      rw [hst9]
      have hZ8 : rZ M6 M2 rc6 fh6 := ⟨(show M2.1 = M6.1 by omega), (fun j hj a b c => (ho2 j (by omega))), ((ho2 50 (by omega)).trans hZ6.2.2.1), ((ho2 51 (by omega)).trans hZ6.2.2.2)⟩
      exact ih (k + 1) (l + 1) (k + 1) _ M2 rc6 fh6 (nI (k - s)) (by omega) (by omega) (by omega) (fun j j1 j2 => absurd j1 (by omega)) (by omega) (rZ_t (rZ_t hZ hZ7) (rZ_t hZ6 hZ8)) ha2 hH6
    · by_cases hk10 : tx (40 * sl + k) = 10
      · have hcase : k = tl ∨ tx (40 * sl + k) = 10 := Or.inr hk10
        refine xj_iload (i := 4) d14_60_13 rfl ?_
        refine xj_aload_n (i := 0) d14_60_15 rfl rfl ?_
        refine xj_get d14_60_16 f14_13_12 h_24 (by omega) (show 24 < M.1 by omega) rfl ?_
        refine xj_iload_n (i := 2) d14_60_19 rfl rfl ?_
        refine xj_iaload (j := sl) d14_60_20 ((hZ.2.1 26 (by omega) (by omega) (by omega) (by omega)).trans k26) (by omega) (show 26 < M.1 by omega) (vp_in_nI (by omega) (by omega)) (nI_clamp (by omega)) ?_
        rw [show te sl = nI tl from hte]
        refine xj_icmp_gt (tgt := 96) d14_60_21 rfl (fun h => absurd h (nI_nlt (a := tl) (b := k) (by omega) (by omega))) (fun _ => ?_)
        refine xj_iload (i := 4) d14_60_24 rfl ?_
        refine xj_aload_n (i := 0) d14_60_26 rfl rfl ?_
        refine xj_get d14_60_27 f14_13_12 h_24 (by omega) (show 24 < M.1 by omega) rfl ?_
        refine xj_iload_n (i := 2) d14_60_30 rfl rfl ?_
        refine xj_iaload (j := sl) d14_60_31 ((hZ.2.1 26 (by omega) (by omega) (by omega) (by omega)).trans k26) (by omega) (show 26 < M.1 by omega) (vp_in_nI (by omega) (by omega)) (nI_clamp (by omega)) ?_
        rw [show te sl = nI tl from hte]
        refine xj_icmp_eq (tgt := 52) d14_60_32 rfl (fun h => absurd h (fun h => absurd ((nI_eq (a := k) (b := tl) (by omega) (by omega)).mp h) (by omega))) (fun _ => ?_)
        refine xj_aload_n (i := 0) d14_60_35 rfl rfl ?_
        refine xj_get d14_60_36 f14_7_12 h_24 (by omega) (show 24 < M.1 by omega) rfl ?_
        refine xj_bipush (v := 40) d14_60_39 (by decide) ?_
        refine xj_iload_n (i := 2) d14_60_41 rfl rfl ?_
        refine xj_imul (v := nI (40 * sl)) d14_60_42 (pk_mul 40 sl) ?_
        refine xj_iload (i := 4) d14_60_43 rfl ?_
        refine xj_iadd (v := nI (40 * sl + k)) d14_60_45 (nI_add (40 * sl) k) ?_
        refine xj_iaload (j := 40 * sl + k) d14_60_46 ((hZ.2.1 25 (by omega) (by omega) (by omega) (by omega)).trans k25) (by omega) (show 25 < M.1 by omega) (vp_in_nI (by omega) (by omega)) (nI_clamp (by omega)) ?_
        rw [show tx (40 * sl + k) = 10 from hk10]
        refine xj_bipush (v := 10) d14_60_47 (by decide) ?_
        refine xj_icmp_ne (tgt := 90) d14_60_49 rfl (fun h => absurd (by decide) h) (fun _ => ?_)
        refine xj_aload_n (i := 0) d14_60_52 rfl rfl ?_
        refine xj_bipush (v := 40) d14_60_53 (by decide) ?_
        refine xj_iload_n (i := 2) d14_60_55 rfl rfl ?_
        refine xj_imul (v := nI (40 * sl)) d14_60_56 (pk_mul 40 sl) ?_
        refine xj_iload (i := 4) d14_60_57 rfl ?_
        refine xj_iadd (v := nI (40 * sl + k)) d14_60_59 (nI_add (40 * sl) k) ?_
        refine xj_aload_n (i := 0) d14_60_60 rfl rfl ?_
        refine xj_get d14_60_61 f14_264_12 h_24 (by omega) (show 24 < M.1 by omega) rfl ?_
        refine xj_isub (v := nI (k - s)) d14_60_64 (by rw [pk_sub (by omega), show 40 * sl + k - (40 * sl + s) = k - s by omega]) ?_
        refine xj_put (a := 24) (fs' := [.ref 25, .ref 26, .ref 27, .ref 28, .ref 29, .ref 30, .int (nI sn), .int (nI vc), .int (nI tk), .ref 31, .int (nI dl), .ref 32, .int (nI pl), .int (nI A.length), .ref 33, .ref 34, .ref 35, .ref 36, .ref 37, .ref 38, .ref 39, .ref 40, .int y22, .int y23, .int y24, .ref 41, .ref 42, .ref 43, .ref 44, .ref 45, .ref 46, .ref 47, .ref 48, .int y33, .ref 49, .ref 50, .int (nI (40 * sl + s)), .int (nI (k - s)), .int y38, .int y39, .int (nI H.length), .ref 51]) d14_60_65 f14_261_12 h_24 (by omega) (show 24 < M.1 by omega) (Nat.le_of_ble_eq_true rfl) rfl rfl rfl ?_
        refine xj_abs_set (fun M1 hs1 ha1 ho1 => ?_)
        refine xj_aload_n (i := 0) d14_60_68 rfl rfl ?_
        refine xj_iload_n (i := 1) d14_60_69 rfl rfl ?_
        refine xj_iload_n (i := 3) d14_60_70 rfl rfl ?_
        have hm7 : M1.1 = n := by omega
        have hZ7 : rZ M M1 rc fh := ⟨(show M1.1 = M.1 by omega), (fun j hj a b c => (ho1 j (by omega))), ((ho1 50 (by omega)).trans hZ.2.2.1), ((ho1 51 (by omega)).trans hZ.2.2.2)⟩
        refine xj_callV (rest := []) (As := [.int (nI nm), .int (nI l)]) (b := 24) (mLine hg hxn hn2 hm7 ((ho1 25 (by omega)).trans ((hZ.2.1 25 (by omega) (by omega) (by omega) (by omega)).trans k25)) ((ho1 26 (by omega)).trans ((hZ.2.1 26 (by omega) (by omega) (by omega) (by omega)).trans k26)) ((ho1 33 (by omega)).trans ((hZ.2.1 33 (by omega) (by omega) (by omega) (by omega)).trans k33)) ((ho1 34 (by omega)).trans ((hZ.2.1 34 (by omega) (by omega) (by omega) (by omega)).trans k34)) ((ho1 35 (by omega)).trans ((hZ.2.1 35 (by omega) (by omega) (by omega) (by omega)).trans k35)) ((ho1 37 (by omega)).trans ((hZ.2.1 37 (by omega) (by omega) (by omega) (by omega)).trans k37)) ((ho1 38 (by omega)).trans ((hZ.2.1 38 (by omega) (by omega) (by omega) (by omega)).trans k38)) ((ho1 40 (by omega)).trans ((hZ.2.1 40 (by omega) (by omega) (by omega) (by omega)).trans k40)) hA26 hA0 hO hN (len := k - s) (ls := 40 * sl + s) (ln := lnF (fun j => tx (40 * sl + j)) s) (by omega) (by omega) hln9 (nm := nm) (l := l) hH (by omega) ha1 ((ho1 50 (by omega)).trans hZ.2.2.1) ((ho1 51 (by omega)).trans hZ.2.2.2)) d14_60_71 wd14_59 ha1 (by omega) (show 24 < M1.1 by omega) rfl s14_59 w1358 (Or.inl w1356) rfl rfl (Nat.le_of_ble_eq_true rfl) (by omega) (by omega) (by omega) ?_
        rintro v M6 ⟨rfl, rc6, fh6, hZ6, e24, hH6⟩
        have hm6 := hZ6.1
        replace e24 : M6.2 24 = (.inr (12, [.ref 25, .ref 26, .ref 27, .ref 28, .ref 29, .ref 30, .int (nI sn), .int (nI vc), .int (nI tk), .ref 31, .int (nI dl), .ref 32, .int (nI pl), .int (nI A.length), .ref 33, .ref 34, .ref 35, .ref 36, .ref 37, .ref 38, .ref 39, .ref 40, .int y22, .int y23, .int y24, .ref 41, .ref 42, .ref 43, .ref 44, .ref 45, .ref 46, .ref 47, .ref 48, .int y33, .ref 49, .ref 50, .int (nI (40 * sl + s)), .int (nI (k - s)), .int y38, .int y39, .int (nI ((sLin A (fun j => tx (40 * sl + j)) (nI nm * 16777216 + nI l * 65536) s k H).length)), .ref 51])) := e24
        replace hH6 : hAr fh6 (sLin A (fun j => tx (40 * sl + j)) (nI nm * 16777216 + nI l * 65536) s k H) := hH6
        refine xj_iinc (v := nI (l + 1)) (L' := [(3, .int (nI (l + 1))), (4, .int (nI k)), (0, .ref 24), (1, .int (nI nm)), (2, .int (nI sl))]) d14_60_74 rfl (xinc _) (by decide) rfl ?_
        refine xj_aload_n (i := 0) d14_60_77 rfl rfl ?_
        refine xj_bipush (v := 40) d14_60_78 (by decide) ?_
        refine xj_iload_n (i := 2) d14_60_80 rfl rfl ?_
        refine xj_imul (v := nI (40 * sl)) d14_60_81 (pk_mul 40 sl) ?_
        refine xj_iload (i := 4) d14_60_82 rfl ?_
        refine xj_iadd (v := nI (40 * sl + k)) d14_60_84 (nI_add (40 * sl) k) ?_
        refine xj_iconst (v := 1) d14_60_85 (by decide) ?_
        refine xj_iadd (v := nI (40 * sl + (k + 1))) d14_60_86 (by rw [nI_1, show 40 * sl + k + 1 = 40 * sl + (k + 1) by omega]) ?_
        refine xj_put (a := 24) (fs' := [.ref 25, .ref 26, .ref 27, .ref 28, .ref 29, .ref 30, .int (nI sn), .int (nI vc), .int (nI tk), .ref 31, .int (nI dl), .ref 32, .int (nI pl), .int (nI A.length), .ref 33, .ref 34, .ref 35, .ref 36, .ref 37, .ref 38, .ref 39, .ref 40, .int y22, .int y23, .int y24, .ref 41, .ref 42, .ref 43, .ref 44, .ref 45, .ref 46, .ref 47, .ref 48, .int y33, .ref 49, .ref 50, .int (nI (40 * sl + (k + 1))), .int (nI (k - s)), .int y38, .int y39, .int (nI ((sLin A (fun j => tx (40 * sl + j)) (nI nm * 16777216 + nI l * 65536) s k H).length)), .ref 51]) d14_60_87 f14_264_12 e24 (by omega) (show 24 < M6.1 by omega) (Nat.le_of_ble_eq_true rfl) rfl rfl rfl ?_
        refine xj_abs_set (fun M2 hs2 ha2 ho2 => ?_)
        refine xj_iinc (v := nI (k + 1)) (L' := [(4, .int (nI (k + 1))), (3, .int (nI (l + 1))), (0, .ref 24), (1, .int (nI nm)), (2, .int (nI sl))]) d14_60_90 rfl (xinc _) (by decide) rfl ?_
        refine xj_goto (tgt := 13) d14_60_93 rfl ?_
        refine xj_sub (L' := [(4, .int (nI (k + 1))), (3, .int (nI (l + 1))), (0, .ref 24), (1, .int (nI nm)), (2, .int (nI sl))]) (fun q hq => by simp only [List.mem_cons, List.not_mem_nil, or_false] at hq ⊢; rcases hq with rfl | rfl | rfl | rfl | rfl <;> simp) ?_
        have hsl9 := sLin_len (A := A) (f := (fun j => tx (40 * sl + j))) (nl := nI nm * 16777216 + nI l * 65536) (s := s) (e := k) (H := H)
        have hst9 : sTx A (fun j => tx (40 * sl + j)) tl (nI nm) (r + 1) k l s H = sTx A (fun j => tx (40 * sl + j)) tl (nI nm) r (k + 1) (l + 1) (k + 1) (sLin A (fun j => tx (40 * sl + j)) (nI nm * 16777216 + nI l * 65536) s k H) := if_pos hcase
        rw [hst9]
        have hZ8 : rZ M6 M2 rc6 fh6 := ⟨(show M2.1 = M6.1 by omega), (fun j hj a b c => (ho2 j (by omega))), ((ho2 50 (by omega)).trans hZ6.2.2.1), ((ho2 51 (by omega)).trans hZ6.2.2.2)⟩
        exact ih (k + 1) (l + 1) (k + 1) _ M2 rc6 fh6 (nI (k - s)) (by omega) (by omega) (by omega) (fun j j1 j2 => absurd j1 (by omega)) (by omega) (rZ_t (rZ_t hZ hZ7) (rZ_t hZ6 hZ8)) ha2 hH6
      · have hcase : ¬ (k = tl ∨ tx (40 * sl + k) = 10) := fun q => q.elim hkt hk10
        refine xj_iload (i := 4) d14_60_13 rfl ?_
        refine xj_aload_n (i := 0) d14_60_15 rfl rfl ?_
        refine xj_get d14_60_16 f14_13_12 h_24 (by omega) (show 24 < M.1 by omega) rfl ?_
        refine xj_iload_n (i := 2) d14_60_19 rfl rfl ?_
        refine xj_iaload (j := sl) d14_60_20 ((hZ.2.1 26 (by omega) (by omega) (by omega) (by omega)).trans k26) (by omega) (show 26 < M.1 by omega) (vp_in_nI (by omega) (by omega)) (nI_clamp (by omega)) ?_
        rw [show te sl = nI tl from hte]
        refine xj_icmp_gt (tgt := 96) d14_60_21 rfl (fun h => absurd h (nI_nlt (a := tl) (b := k) (by omega) (by omega))) (fun _ => ?_)
        refine xj_iload (i := 4) d14_60_24 rfl ?_
        refine xj_aload_n (i := 0) d14_60_26 rfl rfl ?_
        refine xj_get d14_60_27 f14_13_12 h_24 (by omega) (show 24 < M.1 by omega) rfl ?_
        refine xj_iload_n (i := 2) d14_60_30 rfl rfl ?_
        refine xj_iaload (j := sl) d14_60_31 ((hZ.2.1 26 (by omega) (by omega) (by omega) (by omega)).trans k26) (by omega) (show 26 < M.1 by omega) (vp_in_nI (by omega) (by omega)) (nI_clamp (by omega)) ?_
        rw [show te sl = nI tl from hte]
        refine xj_icmp_eq (tgt := 52) d14_60_32 rfl (fun h => absurd h (fun h => absurd ((nI_eq (a := k) (b := tl) (by omega) (by omega)).mp h) (by omega))) (fun _ => ?_)
        refine xj_aload_n (i := 0) d14_60_35 rfl rfl ?_
        refine xj_get d14_60_36 f14_7_12 h_24 (by omega) (show 24 < M.1 by omega) rfl ?_
        refine xj_bipush (v := 40) d14_60_39 (by decide) ?_
        refine xj_iload_n (i := 2) d14_60_41 rfl rfl ?_
        refine xj_imul (v := nI (40 * sl)) d14_60_42 (pk_mul 40 sl) ?_
        refine xj_iload (i := 4) d14_60_43 rfl ?_
        refine xj_iadd (v := nI (40 * sl + k)) d14_60_45 (nI_add (40 * sl) k) ?_
        refine xj_iaload (j := 40 * sl + k) d14_60_46 ((hZ.2.1 25 (by omega) (by omega) (by omega) (by omega)).trans k25) (by omega) (show 25 < M.1 by omega) (vp_in_nI (by omega) (by omega)) (nI_clamp (by omega)) ?_
        refine xj_bipush (v := 10) d14_60_47 (by decide) ?_
        refine xj_icmp_ne (tgt := 90) d14_60_49 rfl (fun _ => ?_) (fun h => absurd h hk10)
        refine xj_iinc (v := nI (k + 1)) (L' := [(4, .int (nI (k + 1))), (3, .int (nI l)), (0, .ref 24), (1, .int (nI nm)), (2, .int (nI sl))]) d14_60_90 rfl (xinc _) (by decide) rfl ?_
        refine xj_goto (tgt := 13) d14_60_93 rfl ?_
        refine xj_sub (L' := [(4, .int (nI (k + 1))), (3, .int (nI l)), (0, .ref 24), (1, .int (nI nm)), (2, .int (nI sl))]) (fun q hq => by simp only [List.mem_cons, List.not_mem_nil, or_false] at hq ⊢; rcases hq with rfl | rfl | rfl | rfl | rfl <;> simp) ?_
        have hst9 : sTx A (fun j => tx (40 * sl + j)) tl (nI nm) (r + 1) k l s H = sTx A (fun j => tx (40 * sl + j)) tl (nI nm) r (k + 1) l s H := if_neg hcase
        rw [hst9]
        exact ih (k + 1) l s H M rc fh ll (by omega) (by omega) (by omega) (fun j j1 j2 => if z : j = k then by rw [z]; exact fun q => hcase (Or.inr q) else hnn j j1 (by omega)) (by omega) hZ h_24 hH
set_option maxRecDepth 20000 in
theorem mLines {G : xG} (hg : xGood G) (hxn : xn = 16) {n : Nat} (hn2 : 52 ≤ n) {dl : Nat} {pl : Nat} {vc : Nat} {tk : Nat} {sn : Nat} {y22 : Int32} {y23 : Int32} {y24 : Int32} {y33 : Int32} {y36 : Int32} {y37 : Int32} {y38 : Int32} {y39 : Int32} {M0 : xM} (hn0 : M0.1 = n) {tx te kd ch nx lo hi wt cs : Nat → Int32} {A : List xNode} {lo_ : Nat → Nat} (k25 : M0.2 25 = (.inl (0, 5120, .inl tx))) (k26 : M0.2 26 = (.inl (0, 128, .inl te))) (k33 : M0.2 33 = (.inl (0, 30, .inl kd))) (k34 : M0.2 34 = (.inl (0, 30, .inl ch))) (k35 : M0.2 35 = (.inl (0, 30, .inl nx))) (k37 : M0.2 37 = (.inl (0, 30, .inl lo))) (k38 : M0.2 38 = (.inl (0, 30, .inl hi))) (k40 : M0.2 40 = (.inl (2, 2850, .inl cs))) (hA26 : A.length ≤ 26) (hA0 : 0 < A.length) (hO : ∀ (i : Nat) (q : xNode), A[i]? = some q → pOk A lo_ i q) (hN : ∀ (i : Nat) (q : xNode), A[i]? = some q → nS kd ch nx lo hi wt cs i q) {sl tl nm : Nat} (hsl : sl < 128) (hte : te sl = nI tl) (htl : tl ≤ 40) (hnm : nm < 10) (hch : ∀ j, j < tl → tx (40 * sl + j) = 10 ∨ ∃ u, u < 95 ∧ tx (40 * sl + j) = nI (u + 32)) {H : List Int32} {fh : Nat → Int32} {rc : Nat → Int64} (hH : hAr fh H) (hHl : H.length ≤ 41 * nm) (h_24 : M0.2 24 = (.inr (12, [.ref 25, .ref 26, .ref 27, .ref 28, .ref 29, .ref 30, .int (nI sn), .int (nI vc), .int (nI tk), .ref 31, .int (nI dl), .ref 32, .int (nI pl), .int (nI A.length), .ref 33, .ref 34, .ref 35, .ref 36, .ref 37, .ref 38, .ref 39, .ref 40, .int y22, .int y23, .int y24, .ref 41, .ref 42, .ref 43, .ref 44, .ref 45, .ref 46, .ref 47, .ref 48, .int y33, .ref 49, .ref 50, .int y36, .int y37, .int y38, .int y39, .int (nI H.length), .ref 51]))) (k50 : M0.2 50 = .inl (3, 1230, .inr (.inl rc))) (k51 : M0.2 51 = .inl (0, 420, .inl fh)) : XC G Y14_60 none 3 0 0 [.ref 24, .int (nI nm), .int (nI sl)] M0 (fun v M' => v = none ∧ ∃ (rc' : Nat → Int64) (fh' : Nat → Int32) (x' z' : Int32), rZ M0 M' rc' fh' ∧ M'.2 24 = (.inr (12, [.ref 25, .ref 26, .ref 27, .ref 28, .ref 29, .ref 30, .int (nI sn), .int (nI vc), .int (nI tk), .ref 31, .int (nI dl), .ref 32, .int (nI pl), .int (nI A.length), .ref 33, .ref 34, .ref 35, .ref 36, .ref 37, .ref 38, .ref 39, .ref 40, .int y22, .int y23, .int y24, .ref 41, .ref 42, .ref 43, .ref 44, .ref 45, .ref 46, .ref 47, .ref 48, .int y33, .ref 49, .ref 50, .int z', .int x', .int y38, .int y39, .int (nI (sTx A (fun j => tx (40 * sl + j)) tl (nI nm) (tl + 1) 0 0 0 H).length), .ref 51])) ∧ hAr fh' (sTx A (fun j => tx (40 * sl + j)) tl (nI nm) (tl + 1) 0 0 0 H)) := by
  refine xc_of hg (by decide) (Nat.le_of_ble_eq_true rfl) (Or.inr (Or.inr (Or.inr (Or.inr (Or.inl ⟨rfl, rfl, fun v M' h => h.1⟩))))) ?_
  refine xj_iconst (v := 0) d14_60_0 (by decide) ?_
  refine xj_istore_n (i := 3) (L' := [(3, .int 0), (0, .ref 24), (1, .int (nI nm)), (2, .int (nI sl))]) d14_60_1 rfl (by decide) rfl ?_
  refine xj_aload_n (i := 0) d14_60_2 rfl rfl ?_
  refine xj_bipush (v := 40) d14_60_3 (by decide) ?_
  refine xj_iload_n (i := 2) d14_60_5 rfl rfl ?_
  refine xj_imul (v := nI (40 * sl + 0)) d14_60_6 (pk_mul 40 sl) ?_
  refine xj_put (a := 24) (fs' := [.ref 25, .ref 26, .ref 27, .ref 28, .ref 29, .ref 30, .int (nI sn), .int (nI vc), .int (nI tk), .ref 31, .int (nI dl), .ref 32, .int (nI pl), .int (nI A.length), .ref 33, .ref 34, .ref 35, .ref 36, .ref 37, .ref 38, .ref 39, .ref 40, .int y22, .int y23, .int y24, .ref 41, .ref 42, .ref 43, .ref 44, .ref 45, .ref 46, .ref 47, .ref 48, .int y33, .ref 49, .ref 50, .int (nI (40 * sl + 0)), .int y37, .int y38, .int y39, .int (nI H.length), .ref 51]) d14_60_7 f14_264_12 h_24 (by omega) (show 24 < M0.1 by omega) (Nat.le_of_ble_eq_true rfl) rfl rfl rfl ?_
  refine xj_abs_set (fun M1 hs1 ha1 ho1 => ?_)
  refine xj_iconst (v := 0) d14_60_10 (by decide) ?_
  refine xj_istore (i := 4) (L' := [(4, .int 0), (3, .int 0), (0, .ref 24), (1, .int (nI nm)), (2, .int (nI sl))]) d14_60_11 (by decide) rfl ?_
  refine xj_sub (L' := [(4, .int 0), (3, .int 0), (0, .ref 24), (1, .int (nI nm)), (2, .int (nI sl))]) (fun q hq => by simp only [List.mem_cons, List.not_mem_nil, or_false] at hq ⊢; rcases hq with rfl | rfl | rfl | rfl | rfl <;> simp) ?_
  have hZ1 : rZ M0 M1 rc fh := ⟨(show M1.1 = M0.1 by omega), (fun j hj a b c => (ho1 j (by omega))), ((ho1 50 (by omega)).trans k50), ((ho1 51 (by omega)).trans k51)⟩
  exact mLnL hg hxn hn2 hn0 k25 k26 k33 k34 k35 k37 k38 k40 hA26 hA0 hO hN hsl hte htl hnm hch (by omega) (by omega) (by omega) (tl + 1) 0 0 0 H M1 rc fh _ (by omega) (by omega) (by omega) (fun j _ j2 => absurd j2 (by omega)) (by omega) hZ1 ha1 hH

theorem rS_gd {lg lt : Nat → Int32} {a s j : Nat} {w : List Int32} (h : rS lg lt a s w) (hj : j < w.length) : lt (48 * a + 12 * s + j) = w.getD j 0 := by
  rw [h.2.2 j _ (List.getElem?_eq_getElem hj)]
  simp [List.getD, List.getElem?_eq_getElem hj]
set_option maxRecDepth 20000 in
theorem mHaL {G : xG} (hg : xGood G) (hxn : xn = 16) {n : Nat} (hn2 : 52 ≤ n) {dl : Nat} {pl : Nat} {vc : Nat} {tk : Nat} {hc : Nat} {sn : Nat} {y13 : Int32} {y22 : Int32} {y23 : Int32} {y24 : Int32} {y33 : Int32} {y36 : Int32} {y37 : Int32} {y38 : Int32} {y39 : Int32} {M : xM} (hn : M.1 = n) {st lg lt tx te : Nat → Int32} {l s sl tl : Nat} {w : List Int32} (h_24 : M.2 24 = (.inr (12, [.ref 25, .ref 26, .ref 27, .ref 28, .ref 29, .ref 30, .int (nI sn), .int (nI vc), .int (nI tk), .ref 31, .int (nI dl), .ref 32, .int (nI pl), .int y13, .ref 33, .ref 34, .ref 35, .ref 36, .ref 37, .ref 38, .ref 39, .ref 40, .int y22, .int y23, .int y24, .ref 41, .ref 42, .ref 43, .ref 44, .ref 45, .ref 46, .ref 47, .ref 48, .int y33, .ref 49, .ref 50, .int y36, .int y37, .int y38, .int y39, .int (nI hc), .ref 51]))) (k46 : M.2 46 = .inl (0, 32, .inl st)) (k47 : M.2 47 = .inl (0, 1536, .inl lt)) (k48 : M.2 48 = .inl (0, 128, .inl lg)) (k25 : M.2 25 = .inl (0, 5120, .inl tx)) (k26 : M.2 26 = .inl (0, 128, .inl te)) (hl : l < 32) (hs : s < 4) (hw : rS lg lt l s w) (hsl : sl < 128) (hte : te sl = nI tl) (htl : tl ≤ 40) {d ce se cells slots : Nat} (hd : 1 ≤ d) (hcc : cells ≤ ce) (hss : slots ≤ se) : ∀ (r k : Nat) (x : Int32), w.length ≤ k + 2 + r → k ≤ 12 → x = xB (∀ j, j < k → j + 2 < w.length → xhas (fun j => tx (40 * sl + j)) tl (w.getD j 0) (w.getD (j + 1) 0) (w.getD (j + 2) 0)) → XJ G Y14_49 d ce se cells slots 17 [(6, .int (nI k)), (4, .int x), (5, .int (nI (48 * l + 12 * s))), (0, .ref 24), (1, .int (nI l)), (2, .int (nI s)), (3, .int (nI sl))] [] M (fun v M' => v = some (.int (xB (vHas (fun j => tx (40 * sl + j)) tl w))) ∧ M' = M) := by
  have hw12 := hw.1
  intro r
  induction r with
  | zero =>
    intro k x hk hk12 hx
    refine xj_iload (i := 6) d14_49_17 rfl ?_
    refine xj_iconst (v := 2) d14_49_19 (by decide) ?_
    refine xj_iadd (v := nI (k + 2)) d14_49_20 (nI_add k 2) ?_
    refine xj_aload_n (i := 0) d14_49_21 rfl rfl ?_
    refine xj_get d14_49_22 f14_80_12 h_24 (by omega) (show 24 < M.1 by omega) rfl ?_
    refine xj_iconst (v := 4) d14_49_25 (by decide) ?_
    refine xj_iload_n (i := 1) d14_49_26 rfl rfl ?_
    refine xj_imul (v := nI (4 * l)) d14_49_27 (pk_mul 4 l) ?_
    refine xj_iload_n (i := 2) d14_49_28 rfl rfl ?_
    refine xj_iadd (v := nI (4 * l + s)) d14_49_29 (nI_add (4 * l) s) ?_
    refine xj_iaload (j := 4 * l + s) d14_49_30 k48 (by omega) (show 48 < M.1 by omega) (vp_in_nI (by omega) (by omega)) (nI_clamp (by omega)) ?_
    rw [show lg (4 * l + s) = nI w.length from hw.2.1]
    refine xj_icmp_ge (tgt := 94) d14_49_31 rfl (fun _ => ?_) (fun h => absurd (nI_le (a := w.length) (b := k + 2) (by omega) (by omega)) h)
    refine xj_iload (i := 4) d14_49_94 rfl ?_
    have hpp : (∀ j, j < k → j + 2 < w.length → xhas (fun j => tx (40 * sl + j)) tl (w.getD j 0) (w.getD (j + 1) 0) (w.getD (j + 2) 0)) = vHas (fun j => tx (40 * sl + j)) tl w := propext ⟨fun q j hj => q j (by omega) hj, fun q j _ hj => q j hj⟩
    exact xj_ret (v := some (.int x)) d14_49_96 hcc hss rfl ⟨by rw [hx, hpp], rfl⟩
  | succ r ih =>
    intro k x hk hk12 hx
    by_cases hk2 : k + 2 < w.length
    · have hg0 := rS_gd hw (show k < w.length by omega)
      have hg1 := rS_gd hw (show k + 1 < w.length by omega)
      have hg2 := rS_gd hw hk2
      have hHs := mHas hg hn (by omega) (u := w.getD k 0) (v1 := w.getD (k + 1) 0) (w := w.getD (k + 2) 0) (by omega) (by omega) h_24 (by omega) (by omega) k25 (by omega) (by omega) k26 hxn hn2 hsl hte htl
      refine xj_iload (i := 6) d14_49_17 rfl ?_
      refine xj_iconst (v := 2) d14_49_19 (by decide) ?_
      refine xj_iadd (v := nI (k + 2)) d14_49_20 (nI_add k 2) ?_
      refine xj_aload_n (i := 0) d14_49_21 rfl rfl ?_
      refine xj_get d14_49_22 f14_80_12 h_24 (by omega) (show 24 < M.1 by omega) rfl ?_
      refine xj_iconst (v := 4) d14_49_25 (by decide) ?_
      refine xj_iload_n (i := 1) d14_49_26 rfl rfl ?_
      refine xj_imul (v := nI (4 * l)) d14_49_27 (pk_mul 4 l) ?_
      refine xj_iload_n (i := 2) d14_49_28 rfl rfl ?_
      refine xj_iadd (v := nI (4 * l + s)) d14_49_29 (nI_add (4 * l) s) ?_
      refine xj_iaload (j := 4 * l + s) d14_49_30 k48 (by omega) (show 48 < M.1 by omega) (vp_in_nI (by omega) (by omega)) (nI_clamp (by omega)) ?_
      rw [show lg (4 * l + s) = nI w.length from hw.2.1]
      refine xj_icmp_ge (tgt := 94) d14_49_31 rfl (fun h => absurd h (nI_ge (a := k + 2) (b := w.length) (by omega) (by omega))) (fun _ => ?_)
      refine xj_iload (i := 4) d14_49_34 rfl ?_
      refine xj_if_eq (tgt := 85) d14_49_36 rfl (fun hz9 => ?_) (fun hz9 => ?_)
      · refine xj_iconst (v := 0) d14_49_85 (by decide) ?_
        refine xj_istore (i := 4) (L' := [(4, .int 0), (6, .int (nI k)), (5, .int (nI (48 * l + 12 * s))), (0, .ref 24), (1, .int (nI l)), (2, .int (nI s)), (3, .int (nI sl))]) d14_49_86 (by decide) rfl ?_
        refine xj_iinc (v := nI (k + 1)) (L' := [(6, .int (nI (k + 1))), (4, .int 0), (5, .int (nI (48 * l + 12 * s))), (0, .ref 24), (1, .int (nI l)), (2, .int (nI s)), (3, .int (nI sl))]) d14_49_88 rfl (xinc _) (by decide) rfl ?_
        refine xj_goto (tgt := 17) d14_49_91 rfl ?_
        have hP9 : ¬ (∀ j, j < k → j + 2 < w.length → xhas (fun j => tx (40 * sl + j)) tl (w.getD j 0) (w.getD (j + 1) 0) (w.getD (j + 2) 0)) := xB_n (by rw [← hx]; exact hz9)
        exact ih (k + 1) _ (by omega) (by omega) (by rw [xB_f (show ¬ (∀ j, j < k + 1 → j + 2 < w.length → xhas (fun j => tx (40 * sl + j)) tl (w.getD j 0) (w.getD (j + 1) 0) (w.getD (j + 2) 0)) from fun z => hP9 (fun j hj => z j (by omega)))])
      · refine xj_aload_n (i := 0) d14_49_39 rfl rfl ?_
        refine xj_iload_n (i := 3) d14_49_40 rfl rfl ?_
        refine xj_aload_n (i := 0) d14_49_41 rfl rfl ?_
        refine xj_get d14_49_42 f14_77_12 h_24 (by omega) (show 24 < M.1 by omega) rfl ?_
        refine xj_iload (i := 5) d14_49_45 rfl ?_
        refine xj_iload (i := 6) d14_49_47 rfl ?_
        refine xj_iadd (v := nI (48 * l + 12 * s + k)) d14_49_49 (nI_add (48 * l + 12 * s) k) ?_
        refine xj_iaload (j := 48 * l + 12 * s + k) d14_49_50 k47 (by omega) (show 47 < M.1 by omega) (vp_in_nI (by omega) (by omega)) (nI_clamp (by omega)) ?_
        rw [show lt (48 * l + 12 * s + k) = w.getD k 0 from hg0]
        refine xj_aload_n (i := 0) d14_49_51 rfl rfl ?_
        refine xj_get d14_49_52 f14_77_12 h_24 (by omega) (show 24 < M.1 by omega) rfl ?_
        refine xj_iload (i := 5) d14_49_55 rfl ?_
        refine xj_iload (i := 6) d14_49_57 rfl ?_
        refine xj_iadd (v := nI (48 * l + 12 * s + k)) d14_49_59 (nI_add (48 * l + 12 * s) k) ?_
        refine xj_iconst (v := 1) d14_49_60 (by decide) ?_
        refine xj_iadd (v := nI (48 * l + 12 * s + k + 1)) d14_49_61 (nI_1 _) ?_
        refine xj_iaload (j := 48 * l + 12 * s + k + 1) d14_49_62 k47 (by omega) (show 47 < M.1 by omega) (vp_in_nI (by omega) (by omega)) (nI_clamp (by omega)) ?_
        rw [show lt (48 * l + 12 * s + k + 1) = w.getD (k + 1) 0 from hg1]
        refine xj_aload_n (i := 0) d14_49_63 rfl rfl ?_
        refine xj_get d14_49_64 f14_77_12 h_24 (by omega) (show 24 < M.1 by omega) rfl ?_
        refine xj_iload (i := 5) d14_49_67 rfl ?_
        refine xj_iload (i := 6) d14_49_69 rfl ?_
        refine xj_iadd (v := nI (48 * l + 12 * s + k)) d14_49_71 (nI_add (48 * l + 12 * s) k) ?_
        refine xj_iconst (v := 2) d14_49_72 (by decide) ?_
        refine xj_iadd (v := nI (48 * l + 12 * s + k + 2)) d14_49_73 (nI_add (48 * l + 12 * s + k) 2) ?_
        refine xj_iaload (j := 48 * l + 12 * s + k + 2) d14_49_74 k47 (by omega) (show 47 < M.1 by omega) (vp_in_nI (by omega) (by omega)) (nI_clamp (by omega)) ?_
        rw [show lt (48 * l + 12 * s + k + 2) = w.getD (k + 2) 0 from hg2]
        refine xj_callV (rest := []) (As := [.int (nI sl), .int (w.getD k 0), .int (w.getD (k + 1) 0), .int (w.getD (k + 2) 0)]) (b := 24) hHs d14_49_75 wd14_15 h_24 (by omega) (show 24 < M.1 by omega) rfl s14_15 w1188 (Or.inl w1186) rfl rfl (Nat.le_of_ble_eq_true rfl) (by omega) (by omega) (by omega) ?_
        rintro v9 M' ⟨rfl, hm9⟩
        subst M'
        refine xj_if_eq (tgt := 85) d14_49_78 rfl (fun hq9 => ?_) (fun hq9 => ?_)
        · refine xj_iconst (v := 0) d14_49_85 (by decide) ?_
          refine xj_istore (i := 4) (L' := [(4, .int 0), (6, .int (nI k)), (5, .int (nI (48 * l + 12 * s))), (0, .ref 24), (1, .int (nI l)), (2, .int (nI s)), (3, .int (nI sl))]) d14_49_86 (by decide) rfl ?_
          refine xj_iinc (v := nI (k + 1)) (L' := [(6, .int (nI (k + 1))), (4, .int 0), (5, .int (nI (48 * l + 12 * s))), (0, .ref 24), (1, .int (nI l)), (2, .int (nI s)), (3, .int (nI sl))]) d14_49_88 rfl (xinc _) (by decide) rfl ?_
          refine xj_goto (tgt := 17) d14_49_91 rfl ?_
          exact ih (k + 1) _ (by omega) (by omega) (by rw [xB_f (show ¬ (∀ j, j < k + 1 → j + 2 < w.length → xhas (fun j => tx (40 * sl + j)) tl (w.getD j 0) (w.getD (j + 1) 0) (w.getD (j + 2) 0)) from fun z => xB_n hq9 (z k (by omega) (by omega)))])
        · refine xj_iconst (v := 1) d14_49_81 (by decide) ?_
          refine xj_goto (tgt := 86) d14_49_82 rfl ?_
          refine xj_istore (i := 4) (L' := [(4, .int 1), (6, .int (nI k)), (5, .int (nI (48 * l + 12 * s))), (0, .ref 24), (1, .int (nI l)), (2, .int (nI s)), (3, .int (nI sl))]) d14_49_86 (by decide) rfl ?_
          refine xj_iinc (v := nI (k + 1)) (L' := [(6, .int (nI (k + 1))), (4, .int 1), (5, .int (nI (48 * l + 12 * s))), (0, .ref 24), (1, .int (nI l)), (2, .int (nI s)), (3, .int (nI sl))]) d14_49_88 rfl (xinc _) (by decide) rfl ?_
          refine xj_goto (tgt := 17) d14_49_91 rfl ?_
          have hP9 : (∀ j, j < k → j + 2 < w.length → xhas (fun j => tx (40 * sl + j)) tl (w.getD j 0) (w.getD (j + 1) 0) (w.getD (j + 2) 0)) := xB_y (by rw [← hx]; exact hz9)
          exact ih (k + 1) _ (by omega) (by omega) (by rw [xB_t (show (∀ j, j < k + 1 → j + 2 < w.length → xhas (fun j => tx (40 * sl + j)) tl (w.getD j 0) (w.getD (j + 1) 0) (w.getD (j + 2) 0)) from fun j hj => if z : j = k then by rw [z]; exact fun _ => xB_y hq9 else hP9 j (by omega))])
    · exact ih k x (by omega) hk12 hx
set_option maxRecDepth 20000 in
theorem mHaA {G : xG} (hg : xGood G) (hxn : xn = 16) {n : Nat} (hn2 : 52 ≤ n) {dl : Nat} {pl : Nat} {vc : Nat} {tk : Nat} {hc : Nat} {sn : Nat} {y13 : Int32} {y22 : Int32} {y23 : Int32} {y24 : Int32} {y33 : Int32} {y36 : Int32} {y37 : Int32} {y38 : Int32} {y39 : Int32} {M : xM} (hn : M.1 = n) {st lg lt tx te : Nat → Int32} {l s sl tl : Nat} {w : List Int32} (h_24 : M.2 24 = (.inr (12, [.ref 25, .ref 26, .ref 27, .ref 28, .ref 29, .ref 30, .int (nI sn), .int (nI vc), .int (nI tk), .ref 31, .int (nI dl), .ref 32, .int (nI pl), .int y13, .ref 33, .ref 34, .ref 35, .ref 36, .ref 37, .ref 38, .ref 39, .ref 40, .int y22, .int y23, .int y24, .ref 41, .ref 42, .ref 43, .ref 44, .ref 45, .ref 46, .ref 47, .ref 48, .int y33, .ref 49, .ref 50, .int y36, .int y37, .int y38, .int y39, .int (nI hc), .ref 51]))) (k46 : M.2 46 = .inl (0, 32, .inl st)) (k47 : M.2 47 = .inl (0, 1536, .inl lt)) (k48 : M.2 48 = .inl (0, 128, .inl lg)) (k25 : M.2 25 = .inl (0, 5120, .inl tx)) (k26 : M.2 26 = .inl (0, 128, .inl te)) (hl : l < 32) (hs : s < 4) (hw : rS lg lt l s w) (hsl : sl < 128) (hte : te sl = nI tl) (htl : tl ≤ 40) : XC G Y14_49 (some .boolean) 1 0 0 [.ref 24, .int (nI l), .int (nI s), .int (nI sl)] M (fun v M' => v = some (.int (xB (vHas (fun j => tx (40 * sl + j)) tl w))) ∧ M' = M) := by
  have hw12 := hw.1
  refine xc_of hg (by decide) (Nat.le_of_ble_eq_true rfl) (Or.inr (Or.inl ⟨rfl, rfl, fun v M' h => ⟨_, h.1, xB_01 _⟩⟩)) ?_
  refine xj_iconst (v := 1) d14_49_0 (by decide) ?_
  refine xj_istore (i := 4) (L' := [(4, .int 1), (0, .ref 24), (1, .int (nI l)), (2, .int (nI s)), (3, .int (nI sl))]) d14_49_1 (by decide) rfl ?_
  refine xj_bipush (v := 48) d14_49_3 (by decide) ?_
  refine xj_iload_n (i := 1) d14_49_5 rfl rfl ?_
  refine xj_imul (v := nI (48 * l)) d14_49_6 (pk_mul 48 l) ?_
  refine xj_bipush (v := 12) d14_49_7 (by decide) ?_
  refine xj_iload_n (i := 2) d14_49_9 rfl rfl ?_
  refine xj_imul (v := nI (12 * s)) d14_49_10 (pk_mul 12 s) ?_
  refine xj_iadd (v := nI (48 * l + (12 * s))) d14_49_11 (nI_add (48 * l) (12 * s)) ?_
  refine xj_istore (i := 5) (L' := [(5, .int (nI (48 * l + (12 * s)))), (4, .int 1), (0, .ref 24), (1, .int (nI l)), (2, .int (nI s)), (3, .int (nI sl))]) d14_49_12 (by decide) rfl ?_
  refine xj_iconst (v := 0) d14_49_14 (by decide) ?_
  refine xj_istore (i := 6) (L' := [(6, .int 0), (5, .int (nI (48 * l + (12 * s)))), (4, .int 1), (0, .ref 24), (1, .int (nI l)), (2, .int (nI s)), (3, .int (nI sl))]) d14_49_15 (by decide) rfl ?_
  refine xj_sub (L' := [(6, .int 0), (4, .int 1), (5, .int (nI (48 * l + (12 * s)))), (0, .ref 24), (1, .int (nI l)), (2, .int (nI s)), (3, .int (nI sl))]) (fun q hq => by simp only [List.mem_cons, List.not_mem_nil, or_false] at hq ⊢; rcases hq with rfl | rfl | rfl | rfl | rfl | rfl | rfl <;> simp) ?_
  exact mHaL hg hxn hn2 hn h_24 k46 k47 k48 k25 k26 hl hs hw hsl hte htl (by omega) (by omega) (by omega) 12 0 1 (by omega) (by omega) (by rw [xB_t (show (∀ j, j < 0 → j + 2 < w.length → xhas (fun j => tx (40 * sl + j)) tl (w.getD j 0) (w.getD (j + 1) 0) (w.getD (j + 2) 0)) from fun j hj => absurd hj (by omega))])
set_option maxRecDepth 20000 in
theorem mAwL {G : xG} (hg : xGood G) (hxn : xn = 16) {n : Nat} (hn2 : 52 ≤ n) {dl : Nat} {pl : Nat} {vc : Nat} {tk : Nat} {hc : Nat} {sn : Nat} {y13 : Int32} {y22 : Int32} {y23 : Int32} {y24 : Int32} {y33 : Int32} {y36 : Int32} {y37 : Int32} {y38 : Int32} {y39 : Int32} {M : xM} (hn : M.1 = n) {st lg lt tx te : Nat → Int32} {l : Nat} {S : List (List Int32)} (h_24 : M.2 24 = (.inr (12, [.ref 25, .ref 26, .ref 27, .ref 28, .ref 29, .ref 30, .int (nI sn), .int (nI vc), .int (nI tk), .ref 31, .int (nI dl), .ref 32, .int (nI pl), .int y13, .ref 33, .ref 34, .ref 35, .ref 36, .ref 37, .ref 38, .ref 39, .ref 40, .int y22, .int y23, .int y24, .ref 41, .ref 42, .ref 43, .ref 44, .ref 45, .ref 46, .ref 47, .ref 48, .int y33, .ref 49, .ref 50, .int y36, .int y37, .int y38, .int y39, .int (nI hc), .ref 51]))) (k46 : M.2 46 = .inl (0, 32, .inl st)) (k47 : M.2 47 = .inl (0, 1536, .inl lt)) (k48 : M.2 48 = .inl (0, 128, .inl lg)) (k25 : M.2 25 = .inl (0, 5120, .inl tx)) (k26 : M.2 26 = .inl (0, 128, .inl te)) (hl : l < 32) (hL : rL st lg lt l S) {sl tl : Nat} (hsl : sl < 128) (hte : te sl = nI tl) (htl : tl ≤ 40) {d ce se cells slots : Nat} (hd : 2 ≤ d) (hcc : cells ≤ ce) (hss : slots ≤ se) : ∀ (r k : Nat) (x : Int32), k + r = S.length → x = xB (∃ j w, j < k ∧ S[j]? = some w ∧ vHas (fun j => tx (40 * sl + j)) tl w) → XJ G Y14_50 d ce se cells slots 13 [(4, .int (nI k)), (3, .int x), (0, .ref 24), (1, .int (nI sl)), (2, .int (nI l))] [] M (fun v M' => v = some (.int (xB (vAl (vHas (fun j => tx (40 * sl + j)) tl) S))) ∧ M' = M) := by
  have hl4 := hL.2.1
  intro r
  induction r with
  | zero =>
    intro k x hk hx
    refine xj_iload (i := 4) d14_50_13 rfl ?_
    refine xj_aload_n (i := 0) d14_50_15 rfl rfl ?_
    refine xj_get d14_50_16 f14_74_12 h_24 (by omega) (show 24 < M.1 by omega) rfl ?_
    refine xj_iload_n (i := 2) d14_50_19 rfl rfl ?_
    refine xj_iaload (j := l) d14_50_20 k46 (by omega) (show 46 < M.1 by omega) (vp_in_nI (by omega) (by omega)) (nI_clamp (by omega)) ?_
    rw [show st l = nI S.length from hL.1]
    refine xj_icmp_ge (tgt := 55) d14_50_21 rfl (fun _ => ?_) (fun h => absurd (nI_le (a := S.length) (b := k) (by omega) (by omega)) h)
    refine xj_iload_n (i := 3) d14_50_55 rfl rfl ?_
    have hpp : (∃ j w, j < k ∧ S[j]? = some w ∧ vHas (fun j => tx (40 * sl + j)) tl w) = vAl (vHas (fun j => tx (40 * sl + j)) tl) S := propext ⟨fun ⟨j, w, _, h2, h3⟩ => ⟨w, List.mem_of_getElem? h2, h3⟩, fun ⟨w, h2, h3⟩ => by obtain ⟨j, hj⟩ := List.getElem?_of_mem h2; exact ⟨j, w, by have := (List.getElem?_eq_some_iff.mp hj).1; omega, hj, h3⟩⟩
    exact xj_ret (v := some (.int x)) d14_50_56 hcc hss rfl ⟨by rw [hx, hpp], rfl⟩
  | succ r ih =>
    intro k x hk hx
    obtain ⟨w, hw9⟩ : ∃ w, S[k]? = some w := ⟨_, List.getElem?_eq_getElem (show k < S.length by omega)⟩
    have hHs := mHaA hg hxn hn2 hn h_24 k46 k47 k48 k25 k26 hl (show k < 4 by omega) (hL.2.2 k w hw9) hsl hte htl
    refine xj_iload (i := 4) d14_50_13 rfl ?_
    refine xj_aload_n (i := 0) d14_50_15 rfl rfl ?_
    refine xj_get d14_50_16 f14_74_12 h_24 (by omega) (show 24 < M.1 by omega) rfl ?_
    refine xj_iload_n (i := 2) d14_50_19 rfl rfl ?_
    refine xj_iaload (j := l) d14_50_20 k46 (by omega) (show 46 < M.1 by omega) (vp_in_nI (by omega) (by omega)) (nI_clamp (by omega)) ?_
    rw [show st l = nI S.length from hL.1]
    refine xj_icmp_ge (tgt := 55) d14_50_21 rfl (fun h => absurd h (nI_ge (a := k) (b := S.length) (by omega) (by omega))) (fun _ => ?_)
    refine xj_iload_n (i := 1) d14_50_24 rfl rfl ?_
    refine xj_if_lt (tgt := 55) d14_50_25 rfl (fun h => absurd h (nI_pos (by omega))) (fun _ => ?_)
    refine xj_iload_n (i := 3) d14_50_28 rfl rfl ?_
    refine xj_if_ne (tgt := 43) d14_50_29 rfl (fun hz9 => ?_) (fun hz9 => ?_)
    · refine xj_iconst (v := 1) d14_50_43 (by decide) ?_
      refine xj_goto (tgt := 48) d14_50_44 rfl ?_
      refine xj_istore_n (i := 3) (L' := [(3, .int 1), (4, .int (nI k)), (0, .ref 24), (1, .int (nI sl)), (2, .int (nI l))]) d14_50_48 rfl (by decide) rfl ?_
      refine xj_iinc (v := nI (k + 1)) (L' := [(4, .int (nI (k + 1))), (3, .int 1), (0, .ref 24), (1, .int (nI sl)), (2, .int (nI l))]) d14_50_49 rfl (xinc _) (by decide) rfl ?_
      refine xj_goto (tgt := 13) d14_50_52 rfl ?_
      obtain ⟨j9, w9, g1, g2⟩ : (∃ j w, j < k ∧ S[j]? = some w ∧ vHas (fun j => tx (40 * sl + j)) tl w) := xB_y (by rw [← hx]; exact hz9)
      exact ih (k + 1) _ (by omega) (by rw [xB_t (show (∃ j w, j < k + 1 ∧ S[j]? = some w ∧ vHas (fun j => tx (40 * sl + j)) tl w) from ⟨j9, w9, by omega, g2⟩)])
    · refine xj_aload_n (i := 0) d14_50_32 rfl rfl ?_
      refine xj_iload_n (i := 2) d14_50_33 rfl rfl ?_
      refine xj_iload (i := 4) d14_50_34 rfl ?_
      refine xj_iload_n (i := 1) d14_50_36 rfl rfl ?_
      refine xj_callV (rest := []) (As := [.int (nI l), .int (nI k), .int (nI sl)]) (b := 24) hHs d14_50_37 wd14_49 h_24 (by omega) (show 24 < M.1 by omega) rfl s14_49 w1342 (Or.inl w1340) rfl rfl (Nat.le_of_ble_eq_true rfl) (by omega) (by omega) (by omega) ?_
      rintro v9 M' ⟨rfl, hm9⟩
      subst M'
      refine xj_if_eq (tgt := 47) d14_50_40 rfl (fun hq9 => ?_) (fun hq9 => ?_)
      · refine xj_iconst (v := 0) d14_50_47 (by decide) ?_
        refine xj_istore_n (i := 3) (L' := [(3, .int 0), (4, .int (nI k)), (0, .ref 24), (1, .int (nI sl)), (2, .int (nI l))]) d14_50_48 rfl (by decide) rfl ?_
        refine xj_iinc (v := nI (k + 1)) (L' := [(4, .int (nI (k + 1))), (3, .int 0), (0, .ref 24), (1, .int (nI sl)), (2, .int (nI l))]) d14_50_49 rfl (xinc _) (by decide) rfl ?_
        refine xj_goto (tgt := 13) d14_50_52 rfl ?_
        have hP9 : ¬ (∃ j w, j < k ∧ S[j]? = some w ∧ vHas (fun j => tx (40 * sl + j)) tl w) := xB_n (by rw [← hx]; exact hz9)
        exact ih (k + 1) _ (by omega) (by rw [xB_f (show ¬ (∃ j w, j < k + 1 ∧ S[j]? = some w ∧ vHas (fun j => tx (40 * sl + j)) tl w) from fun ⟨j, w9, g1, g2, g3⟩ => if z : j = k then xB_n hq9 (by rw [z, hw9] at g2; cases g2; exact g3) else hP9 ⟨j, w9, by omega, g2, g3⟩)])
      · refine xj_iconst (v := 1) d14_50_43 (by decide) ?_
        refine xj_goto (tgt := 48) d14_50_44 rfl ?_
        refine xj_istore_n (i := 3) (L' := [(3, .int 1), (4, .int (nI k)), (0, .ref 24), (1, .int (nI sl)), (2, .int (nI l))]) d14_50_48 rfl (by decide) rfl ?_
        refine xj_iinc (v := nI (k + 1)) (L' := [(4, .int (nI (k + 1))), (3, .int 1), (0, .ref 24), (1, .int (nI sl)), (2, .int (nI l))]) d14_50_49 rfl (xinc _) (by decide) rfl ?_
        refine xj_goto (tgt := 13) d14_50_52 rfl ?_
        exact ih (k + 1) _ (by omega) (by rw [xB_t (show (∃ j w, j < k + 1 ∧ S[j]? = some w ∧ vHas (fun j => tx (40 * sl + j)) tl w) from ⟨k, w, by omega, hw9, xB_y hq9⟩)])
set_option maxRecDepth 20000 in
theorem mAllow {G : xG} (hg : xGood G) (hxn : xn = 16) {n : Nat} (hn2 : 52 ≤ n) {dl : Nat} {pl : Nat} {vc : Nat} {tk : Nat} {hc : Nat} {sn : Nat} {y13 : Int32} {y22 : Int32} {y23 : Int32} {y24 : Int32} {y33 : Int32} {y36 : Int32} {y37 : Int32} {y38 : Int32} {y39 : Int32} {M : xM} (hn : M.1 = n) {st lg lt tx te : Nat → Int32} {l : Nat} {S : List (List Int32)} (h_24 : M.2 24 = (.inr (12, [.ref 25, .ref 26, .ref 27, .ref 28, .ref 29, .ref 30, .int (nI sn), .int (nI vc), .int (nI tk), .ref 31, .int (nI dl), .ref 32, .int (nI pl), .int y13, .ref 33, .ref 34, .ref 35, .ref 36, .ref 37, .ref 38, .ref 39, .ref 40, .int y22, .int y23, .int y24, .ref 41, .ref 42, .ref 43, .ref 44, .ref 45, .ref 46, .ref 47, .ref 48, .int y33, .ref 49, .ref 50, .int y36, .int y37, .int y38, .int y39, .int (nI hc), .ref 51]))) (k46 : M.2 46 = .inl (0, 32, .inl st)) (k47 : M.2 47 = .inl (0, 1536, .inl lt)) (k48 : M.2 48 = .inl (0, 128, .inl lg)) (k25 : M.2 25 = .inl (0, 5120, .inl tx)) (k26 : M.2 26 = .inl (0, 128, .inl te)) (hl : l < 32) (hL : rL st lg lt l S) {sI : Int32} {al : List (List Int32) → Prop} (hsl : rSl sI tx te al) : XC G Y14_50 (some .boolean) 2 0 0 [.ref 24, .int sI, .int (nI l)] M (fun v M' => v = some (.int (xB (al S))) ∧ M' = M) := by
  have hl4 := hL.2.1
  rcases hsl with ⟨rfl, hal⟩ | ⟨sl, tl, rfl, hsl, hte, htl, hal⟩
  · rw [xB_t (hal S)]
    by_cases h0 : S.length = 0
    · refine xc_of hg (by decide) (Nat.le_of_ble_eq_true rfl) (Or.inr (Or.inl ⟨rfl, rfl, fun v M' h => ⟨_, h.1, Or.inr rfl⟩⟩)) ?_
      refine xj_iload_n (i := 1) d14_50_0 rfl rfl ?_
      refine xj_if_ge (tgt := 8) d14_50_1 rfl (fun h => absurd h (by decide)) (fun _ => ?_)
      refine xj_iconst (v := 1) d14_50_4 (by decide) ?_
      refine xj_goto (tgt := 9) d14_50_5 rfl ?_
      refine xj_istore_n (i := 3) (L' := [(3, .int 1), (0, .ref 24), (1, .int (-1)), (2, .int (nI l))]) d14_50_9 rfl (by decide) rfl ?_
      refine xj_iconst (v := 0) d14_50_10 (by decide) ?_
      refine xj_istore (i := 4) (L' := [(4, .int 0), (3, .int 1), (0, .ref 24), (1, .int (-1)), (2, .int (nI l))]) d14_50_11 (by decide) rfl ?_
      refine xj_iload (i := 4) d14_50_13 rfl ?_
      refine xj_aload_n (i := 0) d14_50_15 rfl rfl ?_
      refine xj_get d14_50_16 f14_74_12 h_24 (by omega) (show 24 < M.1 by omega) rfl ?_
      refine xj_iload_n (i := 2) d14_50_19 rfl rfl ?_
      refine xj_iaload (j := l) d14_50_20 k46 (by omega) (show 46 < M.1 by omega) (vp_in_nI (by omega) (by omega)) (nI_clamp (by omega)) ?_
      rw [show st l = nI S.length from hL.1]
      refine xj_icmp_ge (tgt := 55) d14_50_21 rfl (fun _ => ?_) (fun h => absurd (nI_le (a := S.length) (b := 0) (by omega) (by omega)) h)
      refine xj_iload_n (i := 3) d14_50_55 rfl rfl ?_
      exact xj_ret d14_50_56 (by omega) (by omega) rfl ⟨rfl, rfl⟩
    · refine xc_of hg (by decide) (Nat.le_of_ble_eq_true rfl) (Or.inr (Or.inl ⟨rfl, rfl, fun v M' h => ⟨_, h.1, Or.inr rfl⟩⟩)) ?_
      refine xj_iload_n (i := 1) d14_50_0 rfl rfl ?_
      refine xj_if_ge (tgt := 8) d14_50_1 rfl (fun h => absurd h (by decide)) (fun _ => ?_)
      refine xj_iconst (v := 1) d14_50_4 (by decide) ?_
      refine xj_goto (tgt := 9) d14_50_5 rfl ?_
      refine xj_istore_n (i := 3) (L' := [(3, .int 1), (0, .ref 24), (1, .int (-1)), (2, .int (nI l))]) d14_50_9 rfl (by decide) rfl ?_
      refine xj_iconst (v := 0) d14_50_10 (by decide) ?_
      refine xj_istore (i := 4) (L' := [(4, .int 0), (3, .int 1), (0, .ref 24), (1, .int (-1)), (2, .int (nI l))]) d14_50_11 (by decide) rfl ?_
      refine xj_iload (i := 4) d14_50_13 rfl ?_
      refine xj_aload_n (i := 0) d14_50_15 rfl rfl ?_
      refine xj_get d14_50_16 f14_74_12 h_24 (by omega) (show 24 < M.1 by omega) rfl ?_
      refine xj_iload_n (i := 2) d14_50_19 rfl rfl ?_
      refine xj_iaload (j := l) d14_50_20 k46 (by omega) (show 46 < M.1 by omega) (vp_in_nI (by omega) (by omega)) (nI_clamp (by omega)) ?_
      rw [show st l = nI S.length from hL.1]
      refine xj_icmp_ge (tgt := 55) d14_50_21 rfl (fun h => absurd h (nI_ge (a := 0) (b := S.length) (by omega) (by omega))) (fun _ => ?_)
      refine xj_iload_n (i := 1) d14_50_24 rfl rfl ?_
      refine xj_if_lt (tgt := 55) d14_50_25 rfl (fun _ => ?_) (fun h => absurd (by decide) h)
      refine xj_iload_n (i := 3) d14_50_55 rfl rfl ?_
      exact xj_ret d14_50_56 (by omega) (by omega) rfl ⟨rfl, rfl⟩
  · rw [xB_cg (hal S)]
    refine xc_of hg (by decide) (Nat.le_of_ble_eq_true rfl) (Or.inr (Or.inl ⟨rfl, rfl, fun v M' h => ⟨_, h.1, xB_01 _⟩⟩)) ?_
    refine xj_iload_n (i := 1) d14_50_0 rfl rfl ?_
    refine xj_if_ge (tgt := 8) d14_50_1 rfl (fun _ => ?_) (fun h => absurd (Int32.not_lt.mp (nI_pos (by omega))) h)
    refine xj_iconst (v := 0) d14_50_8 (by decide) ?_
    refine xj_istore_n (i := 3) (L' := [(3, .int 0), (0, .ref 24), (1, .int (nI sl)), (2, .int (nI l))]) d14_50_9 rfl (by decide) rfl ?_
    refine xj_iconst (v := 0) d14_50_10 (by decide) ?_
    refine xj_istore (i := 4) (L' := [(4, .int 0), (3, .int 0), (0, .ref 24), (1, .int (nI sl)), (2, .int (nI l))]) d14_50_11 (by decide) rfl ?_
    exact mAwL hg hxn hn2 hn h_24 k46 k47 k48 k25 k26 hl hL hsl hte htl (by omega) (by omega) (by omega) S.length 0 0 (by omega) (by rw [xB_f (show ¬ (∃ j w, j < 0 ∧ S[j]? = some w ∧ vHas (fun j => tx (40 * sl + j)) tl w) from fun ⟨j, w9, g1, g2⟩ => absurd g1 (by omega))])

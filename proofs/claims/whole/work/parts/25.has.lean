def xhas (f : Nat → Int32) (l : Nat) (a b c : Int32) : Prop := ∃ j, j + 2 < l ∧ f j = a ∧ f (j + 1) = b ∧ f (j + 2) = c
theorem xhas_no {f : Nat → Int32} {l i : Nat} {a b c : Int32} (h : ∀ j, j < i → ¬ (f j = a ∧ f (j + 1) = b ∧ f (j + 2) = c)) (hi : l ≤ i + 2) : ¬ xhas f l a b c := fun ⟨j, h1, h2⟩ => h j (by omega) h2
theorem xhas_step {f : Nat → Int32} {i : Nat} {a b c : Int32} (h : ∀ j, j < i → ¬ (f j = a ∧ f (j + 1) = b ∧ f (j + 2) = c)) (h1 : ¬ (f i = a ∧ f (i + 1) = b ∧ f (i + 2) = c)) : ∀ j, j < i + 1 → ¬ (f j = a ∧ f (j + 1) = b ∧ f (j + 2) = c) := by
  intro j hj
  by_cases e : j = i
  · rw [e]; exact h1
  · exact h j (by omega)
theorem xHasL {G : xG} {M : xM} {n : Nat} (hn : M.1 = n) {a tx tl : Nat} {f : Nat → Int32} {lv : Value} {u v1 w : Int32} (h1_a : xn ≤ a) (h2_a : a < n) (h_a : M.2 a = (.inr (3, [.ref tx, lv]))) (h1_tx : xn ≤ tx) (h2_tx : tx < n) (h_tx : M.2 tx = (.inl (1, tl, .inl f))) (htl : tl ≤ 40) {d ce se cells slots : Nat} (hcc : cells ≤ ce) (hss : slots ≤ se) : ∀ r i : Nat, i + r = tl → (∀ j, j < i → ¬ (f j = u ∧ f (j + 1) = v1 ∧ f (j + 2) = w)) → XJ G Y11_2 d ce se cells slots 3 [(4, .int (nI i)), (0, .ref a), (1, .int u), (2, .int v1), (3, .int w)] [] M (fun v M' => v = some (.int (xB (xhas f tl u v1 w))) ∧ M' = M) := by
  intro r
  induction r with
  | zero =>
    intro i hi hno
    refine xj_iload (i := 4) d11_2_3 rfl ?_
    refine xj_iconst (v := 2) d11_2_5 (by decide) ?_
    refine xj_iadd (v := nI (i + 2)) d11_2_6 (nI_add i 2) ?_
    refine xj_aload_n (i := 0) d11_2_7 rfl rfl ?_
    refine xj_get d11_2_8 f11_13_3 h_a (by omega) (show a < M.1 by omega) rfl ?_
    refine xj_alen (v := nI tl) d11_2_11 h_tx (by decide) (by omega) (show tx < M.1 by omega) rfl ?_
    refine xj_icmp_ge (tgt := 60) d11_2_12 rfl (fun _ => ?_) (fun h => absurd (nI_le (a := tl) (b := i + 2) (by omega) (by omega)) h)
    refine xj_iconst (v := 0) d11_2_60 (by decide) ?_
    exact xj_ret d11_2_61 hcc hss rfl ⟨(congrArg (fun z => some (Value.int z)) (xB_f (xhas_no hno (by omega))).symm), rfl⟩
  | succ r ih =>
    intro i hi hno
    by_cases hlt : i + 2 < tl
    · skip
      refine xj_iload (i := 4) d11_2_3 rfl ?_
      refine xj_iconst (v := 2) d11_2_5 (by decide) ?_
      refine xj_iadd (v := nI (i + 2)) d11_2_6 (nI_add i 2) ?_
      refine xj_aload_n (i := 0) d11_2_7 rfl rfl ?_
      refine xj_get d11_2_8 f11_13_3 h_a (by omega) (show a < M.1 by omega) rfl ?_
      refine xj_alen (v := nI tl) d11_2_11 h_tx (by decide) (by omega) (show tx < M.1 by omega) rfl ?_
      refine xj_icmp_ge (tgt := 60) d11_2_12 rfl (fun h => absurd h (nI_ge (a := i + 2) (b := tl) (by omega) (by omega))) (fun _ => ?_)
      refine xj_aload_n (i := 0) d11_2_15 rfl rfl ?_
      refine xj_get d11_2_16 f11_13_3 h_a (by omega) (show a < M.1 by omega) rfl ?_
      refine xj_iload (i := 4) d11_2_19 rfl ?_
      refine xj_caload (j := i) d11_2_21 h_tx (by omega) (show tx < M.1 by omega) (vp_in_nI (by omega) (by omega)) (nI_clamp (by omega)) ?_
      refine xj_iload_n (i := 1) d11_2_22 rfl rfl ?_
      refine xj_icmp_ne (tgt := 54) d11_2_23 rfl (fun hb1 => ?_) (fun hb1 => ?_)
      · refine xj_iinc (v := nI (i + 1)) (L' := [(4, .int (nI (i + 1))), (0, .ref a), (1, .int u), (2, .int v1), (3, .int w)]) d11_2_54 rfl (xinc _) (by decide) rfl ?_
        refine xj_goto (tgt := 3) d11_2_57 rfl ?_
        exact ih (i + 1) (by omega) (xhas_step hno (by first | exact fun h => hb1 h.1 | exact fun h => hb2 h.2.1 | exact fun h => hb3 h.2.2))
      · refine xj_aload_n (i := 0) d11_2_26 rfl rfl ?_
        refine xj_get d11_2_27 f11_13_3 h_a (by omega) (show a < M.1 by omega) rfl ?_
        refine xj_iload (i := 4) d11_2_30 rfl ?_
        refine xj_iconst (v := 1) d11_2_32 (by decide) ?_
        refine xj_iadd (v := nI (i + 1)) d11_2_33 (nI_1 _) ?_
        refine xj_caload (j := i + 1) d11_2_34 h_tx (by omega) (show tx < M.1 by omega) (vp_in_nI (by omega) (by omega)) (nI_clamp (by omega)) ?_
        refine xj_iload_n (i := 2) d11_2_35 rfl rfl ?_
        refine xj_icmp_ne (tgt := 54) d11_2_36 rfl (fun hb2 => ?_) (fun hb2 => ?_)
        · refine xj_iinc (v := nI (i + 1)) (L' := [(4, .int (nI (i + 1))), (0, .ref a), (1, .int u), (2, .int v1), (3, .int w)]) d11_2_54 rfl (xinc _) (by decide) rfl ?_
          refine xj_goto (tgt := 3) d11_2_57 rfl ?_
          exact ih (i + 1) (by omega) (xhas_step hno (by first | exact fun h => hb1 h.1 | exact fun h => hb2 h.2.1 | exact fun h => hb3 h.2.2))
        · refine xj_aload_n (i := 0) d11_2_39 rfl rfl ?_
          refine xj_get d11_2_40 f11_13_3 h_a (by omega) (show a < M.1 by omega) rfl ?_
          refine xj_iload (i := 4) d11_2_43 rfl ?_
          refine xj_iconst (v := 2) d11_2_45 (by decide) ?_
          refine xj_iadd (v := nI (i + 2)) d11_2_46 (nI_add i 2) ?_
          refine xj_caload (j := i + 2) d11_2_47 h_tx (by omega) (show tx < M.1 by omega) (vp_in_nI (by omega) (by omega)) (nI_clamp (by omega)) ?_
          refine xj_iload_n (i := 3) d11_2_48 rfl rfl ?_
          refine xj_icmp_ne (tgt := 54) d11_2_49 rfl (fun hb3 => ?_) (fun hb3 => ?_)
          · refine xj_iinc (v := nI (i + 1)) (L' := [(4, .int (nI (i + 1))), (0, .ref a), (1, .int u), (2, .int v1), (3, .int w)]) d11_2_54 rfl (xinc _) (by decide) rfl ?_
            refine xj_goto (tgt := 3) d11_2_57 rfl ?_
            exact ih (i + 1) (by omega) (xhas_step hno (by first | exact fun h => hb1 h.1 | exact fun h => hb2 h.2.1 | exact fun h => hb3 h.2.2))
          · refine xj_iconst (v := 1) d11_2_52 (by decide) ?_
            exact xj_ret d11_2_53 hcc hss rfl ⟨(congrArg (fun z => some (Value.int z)) (xB_t ⟨i, hlt, hb1, hb2, hb3⟩).symm), rfl⟩
    · skip
      refine xj_iload (i := 4) d11_2_3 rfl ?_
      refine xj_iconst (v := 2) d11_2_5 (by decide) ?_
      refine xj_iadd (v := nI (i + 2)) d11_2_6 (nI_add i 2) ?_
      refine xj_aload_n (i := 0) d11_2_7 rfl rfl ?_
      refine xj_get d11_2_8 f11_13_3 h_a (by omega) (show a < M.1 by omega) rfl ?_
      refine xj_alen (v := nI tl) d11_2_11 h_tx (by decide) (by omega) (show tx < M.1 by omega) rfl ?_
      refine xj_icmp_ge (tgt := 60) d11_2_12 rfl (fun _ => ?_) (fun h => absurd (nI_le (a := tl) (b := i + 2) (by omega) (by omega)) h)
      refine xj_iconst (v := 0) d11_2_60 (by decide) ?_
      exact xj_ret d11_2_61 hcc hss rfl ⟨(congrArg (fun z => some (Value.int z)) (xB_f (xhas_no hno (by omega))).symm), rfl⟩
set_option maxRecDepth 20000 in
theorem xHas {G : xG} (hg : xGood G) {M : xM} {n : Nat} (hn : M.1 = n) (hx : xn ≤ n) {a : Nat} {tx : Nat} {tl : Nat} {f : Nat → Int32} {lv : Value} {u : Int32} {v1 : Int32} {w : Int32} (h1_a : xn ≤ a) (h2_a : a < n) (h_a : M.2 a = (.inr (3, [.ref tx, lv]))) (h1_tx : xn ≤ tx) (h2_tx : tx < n) (h_tx : M.2 tx = (.inl (1, tl, .inl f))) (htl : tl ≤ 40) : XC G Y11_2 (some .boolean) 0 0 0 [.ref a, .int u, .int v1, .int w] M (fun v M' => v = some (.int (xB (xhas f tl u v1 w))) ∧ M' = M) := by
  refine xc_of hg (by decide) (Nat.le_of_ble_eq_true rfl) (Or.inr (Or.inl ⟨rfl, rfl, fun v M' h => ⟨_, h.1, xB_01 _⟩⟩)) ?_
  refine xj_iconst (v := 0) d11_2_0 (by decide) ?_
  refine xj_istore (i := 4) (L' := [(4, .int 0), (0, .ref a), (1, .int u), (2, .int v1), (3, .int w)]) d11_2_1 (by decide) rfl ?_
  exact xHasL hn h1_a h2_a h_a h1_tx h2_tx h_tx htl (by omega) (by omega) tl 0 (by omega) (fun j hj => absurd hj (by omega))
theorem mHasL {G : xG} (hxn : xn = 16) {M : xM} {n : Nat} (hn : M.1 = n) (hn2 : 52 ≤ n) {dl : Nat} {pl : Nat} {vc : Nat} {tk : Nat} {hc : Nat} {sn : Nat} {y13 : Int32} {y22 : Int32} {y23 : Int32} {y24 : Int32} {y33 : Int32} {y36 : Int32} {y37 : Int32} {y38 : Int32} {y39 : Int32} {sl tl : Nat} {tx te : Nat → Int32} {u v1 w : Int32} (h_24 : M.2 24 = (.inr (12, [.ref 25, .ref 26, .ref 27, .ref 28, .ref 29, .ref 30, .int (nI sn), .int (nI vc), .int (nI tk), .ref 31, .int (nI dl), .ref 32, .int (nI pl), .int y13, .ref 33, .ref 34, .ref 35, .ref 36, .ref 37, .ref 38, .ref 39, .ref 40, .int y22, .int y23, .int y24, .ref 41, .ref 42, .ref 43, .ref 44, .ref 45, .ref 46, .ref 47, .ref 48, .int y33, .ref 49, .ref 50, .int y36, .int y37, .int y38, .int y39, .int (nI hc), .ref 51]))) (h_25 : M.2 25 = (.inl (0, 5120, .inl tx))) (h_26 : M.2 26 = (.inl (0, 128, .inl te))) (hsl : sl < 128) (hte : te sl = nI tl) (htl : tl ≤ 40) {d ce se cells slots : Nat} (hcc : cells ≤ ce) (hss : slots ≤ se) : ∀ r i : Nat, i + r = tl → (∀ j, j < i → ¬ ((fun j => tx (40 * sl + j)) j = u ∧ (fun j => tx (40 * sl + j)) (j + 1) = v1 ∧ (fun j => tx (40 * sl + j)) (j + 2) = w)) → XJ G Y14_15 d ce se cells slots 6 [(5, .int (nI (40 * sl + i))), (0, .ref 24), (1, .int (nI sl)), (2, .int u), (3, .int v1), (4, .int w)] [] M (fun v M' => v = some (.int (xB (xhas (fun j => tx (40 * sl + j)) tl u v1 w))) ∧ M' = M) := by
  intro r
  induction r with
  | zero =>
    intro i hi hno
    refine xj_iload (i := 5) d14_15_6 rfl ?_
    refine xj_iconst (v := 2) d14_15_8 (by decide) ?_
    refine xj_iadd (v := nI (40 * sl + i + 2)) d14_15_9 (nI_add (40 * sl + i) 2) ?_
    refine xj_bipush (v := 40) d14_15_10 (by decide) ?_
    refine xj_iload_n (i := 1) d14_15_12 rfl rfl ?_
    refine xj_imul (v := nI (40 * sl)) d14_15_13 (pk_mul 40 sl) ?_
    refine xj_aload_n (i := 0) d14_15_14 rfl rfl ?_
    refine xj_get d14_15_15 f14_13_12 h_24 (by omega) (show 24 < M.1 by omega) rfl ?_
    refine xj_iload_n (i := 1) d14_15_18 rfl rfl ?_
    refine xj_iaload (j := sl) d14_15_19 h_26 (by omega) (show 26 < M.1 by omega) (vp_in_nI (by omega) (by omega)) (nI_clamp (by omega)) ?_
    rw [show te sl = nI tl from hte]
    refine xj_iadd (v := nI (40 * sl + tl)) d14_15_20 (nI_add (40 * sl) tl) ?_
    refine xj_icmp_ge (tgt := 70) d14_15_21 rfl (fun _ => ?_) (fun h => absurd (nI_le (a := 40 * sl + tl) (b := 40 * sl + i + 2) (by omega) (by omega)) h)
    refine xj_iconst (v := 0) d14_15_70 (by decide) ?_
    exact xj_ret d14_15_71 hcc hss rfl ⟨(congrArg (fun z => some (Value.int z)) (xB_f (xhas_no hno (by omega))).symm), rfl⟩
  | succ r ih =>
    intro i hi hno
    by_cases hlt : i + 2 < tl
    · skip
      refine xj_iload (i := 5) d14_15_6 rfl ?_
      refine xj_iconst (v := 2) d14_15_8 (by decide) ?_
      refine xj_iadd (v := nI (40 * sl + i + 2)) d14_15_9 (nI_add (40 * sl + i) 2) ?_
      refine xj_bipush (v := 40) d14_15_10 (by decide) ?_
      refine xj_iload_n (i := 1) d14_15_12 rfl rfl ?_
      refine xj_imul (v := nI (40 * sl)) d14_15_13 (pk_mul 40 sl) ?_
      refine xj_aload_n (i := 0) d14_15_14 rfl rfl ?_
      refine xj_get d14_15_15 f14_13_12 h_24 (by omega) (show 24 < M.1 by omega) rfl ?_
      refine xj_iload_n (i := 1) d14_15_18 rfl rfl ?_
      refine xj_iaload (j := sl) d14_15_19 h_26 (by omega) (show 26 < M.1 by omega) (vp_in_nI (by omega) (by omega)) (nI_clamp (by omega)) ?_
      rw [show te sl = nI tl from hte]
      refine xj_iadd (v := nI (40 * sl + tl)) d14_15_20 (nI_add (40 * sl) tl) ?_
      refine xj_icmp_ge (tgt := 70) d14_15_21 rfl (fun h => absurd h (nI_ge (a := 40 * sl + i + 2) (b := 40 * sl + tl) (by omega) (by omega))) (fun _ => ?_)
      refine xj_aload_n (i := 0) d14_15_24 rfl rfl ?_
      refine xj_get d14_15_25 f14_7_12 h_24 (by omega) (show 24 < M.1 by omega) rfl ?_
      refine xj_iload (i := 5) d14_15_28 rfl ?_
      refine xj_iaload (j := 40 * sl + i) d14_15_30 h_25 (by omega) (show 25 < M.1 by omega) (vp_in_nI (by omega) (by omega)) (nI_clamp (by omega)) ?_
      refine xj_iload_n (i := 2) d14_15_31 rfl rfl ?_
      refine xj_icmp_ne (tgt := 64) d14_15_32 rfl (fun hb1 => ?_) (fun hb1 => ?_)
      · refine xj_iinc (v := nI (40 * sl + i + 1)) (L' := [(5, .int (nI (40 * sl + i + 1))), (0, .ref 24), (1, .int (nI sl)), (2, .int u), (3, .int v1), (4, .int w)]) d14_15_64 rfl (xinc _) (by decide) rfl ?_
        refine xj_goto (tgt := 6) d14_15_67 rfl ?_
        exact ih (i + 1) (by omega) (xhas_step hno (by first | exact fun h => hb1 h.1 | exact fun h => hb2 h.2.1 | exact fun h => hb3 h.2.2))
      · refine xj_aload_n (i := 0) d14_15_35 rfl rfl ?_
        refine xj_get d14_15_36 f14_7_12 h_24 (by omega) (show 24 < M.1 by omega) rfl ?_
        refine xj_iload (i := 5) d14_15_39 rfl ?_
        refine xj_iconst (v := 1) d14_15_41 (by decide) ?_
        refine xj_iadd (v := nI (40 * sl + i + 1)) d14_15_42 (nI_1 _) ?_
        refine xj_iaload (j := 40 * sl + i + 1) d14_15_43 h_25 (by omega) (show 25 < M.1 by omega) (vp_in_nI (by omega) (by omega)) (nI_clamp (by omega)) ?_
        refine xj_iload_n (i := 3) d14_15_44 rfl rfl ?_
        refine xj_icmp_ne (tgt := 64) d14_15_45 rfl (fun hb2 => ?_) (fun hb2 => ?_)
        · refine xj_iinc (v := nI (40 * sl + i + 1)) (L' := [(5, .int (nI (40 * sl + i + 1))), (0, .ref 24), (1, .int (nI sl)), (2, .int u), (3, .int v1), (4, .int w)]) d14_15_64 rfl (xinc _) (by decide) rfl ?_
          refine xj_goto (tgt := 6) d14_15_67 rfl ?_
          exact ih (i + 1) (by omega) (xhas_step hno (by first | exact fun h => hb1 h.1 | exact fun h => hb2 h.2.1 | exact fun h => hb3 h.2.2))
        · refine xj_aload_n (i := 0) d14_15_48 rfl rfl ?_
          refine xj_get d14_15_49 f14_7_12 h_24 (by omega) (show 24 < M.1 by omega) rfl ?_
          refine xj_iload (i := 5) d14_15_52 rfl ?_
          refine xj_iconst (v := 2) d14_15_54 (by decide) ?_
          refine xj_iadd (v := nI (40 * sl + i + 2)) d14_15_55 (nI_add (40 * sl + i) 2) ?_
          refine xj_iaload (j := 40 * sl + i + 2) d14_15_56 h_25 (by omega) (show 25 < M.1 by omega) (vp_in_nI (by omega) (by omega)) (nI_clamp (by omega)) ?_
          refine xj_iload (i := 4) d14_15_57 rfl ?_
          refine xj_icmp_ne (tgt := 64) d14_15_59 rfl (fun hb3 => ?_) (fun hb3 => ?_)
          · refine xj_iinc (v := nI (40 * sl + i + 1)) (L' := [(5, .int (nI (40 * sl + i + 1))), (0, .ref 24), (1, .int (nI sl)), (2, .int u), (3, .int v1), (4, .int w)]) d14_15_64 rfl (xinc _) (by decide) rfl ?_
            refine xj_goto (tgt := 6) d14_15_67 rfl ?_
            exact ih (i + 1) (by omega) (xhas_step hno (by first | exact fun h => hb1 h.1 | exact fun h => hb2 h.2.1 | exact fun h => hb3 h.2.2))
          · refine xj_iconst (v := 1) d14_15_62 (by decide) ?_
            exact xj_ret d14_15_63 hcc hss rfl ⟨(congrArg (fun z => some (Value.int z)) (xB_t ⟨i, hlt, hb1, hb2, hb3⟩).symm), rfl⟩
    · skip
      refine xj_iload (i := 5) d14_15_6 rfl ?_
      refine xj_iconst (v := 2) d14_15_8 (by decide) ?_
      refine xj_iadd (v := nI (40 * sl + i + 2)) d14_15_9 (nI_add (40 * sl + i) 2) ?_
      refine xj_bipush (v := 40) d14_15_10 (by decide) ?_
      refine xj_iload_n (i := 1) d14_15_12 rfl rfl ?_
      refine xj_imul (v := nI (40 * sl)) d14_15_13 (pk_mul 40 sl) ?_
      refine xj_aload_n (i := 0) d14_15_14 rfl rfl ?_
      refine xj_get d14_15_15 f14_13_12 h_24 (by omega) (show 24 < M.1 by omega) rfl ?_
      refine xj_iload_n (i := 1) d14_15_18 rfl rfl ?_
      refine xj_iaload (j := sl) d14_15_19 h_26 (by omega) (show 26 < M.1 by omega) (vp_in_nI (by omega) (by omega)) (nI_clamp (by omega)) ?_
      rw [show te sl = nI tl from hte]
      refine xj_iadd (v := nI (40 * sl + tl)) d14_15_20 (nI_add (40 * sl) tl) ?_
      refine xj_icmp_ge (tgt := 70) d14_15_21 rfl (fun _ => ?_) (fun h => absurd (nI_le (a := 40 * sl + tl) (b := 40 * sl + i + 2) (by omega) (by omega)) h)
      refine xj_iconst (v := 0) d14_15_70 (by decide) ?_
      exact xj_ret d14_15_71 hcc hss rfl ⟨(congrArg (fun z => some (Value.int z)) (xB_f (xhas_no hno (by omega))).symm), rfl⟩

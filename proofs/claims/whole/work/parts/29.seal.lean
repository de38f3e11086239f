/-- what an array holds beyond its length is nobody's -/
theorem xj_norm {G : xG} {Y : xY} {d ce se cells slots pc : Nat} {L : List (Nat × Value)} {st : List Value} {M : xM} {Post : Option Value → xM → Prop} {a t N : Nat} {f g : Nat → Int32} (hM : M.2 a = .inl (t, N, .inl g)) (h : ∀ j, j < N → g j = f j)
    (kk : ∀ M1 : xM, M1.1 = M.1 → M1.2 a = .inl (t, N, .inl f) → (∀ j, j ≠ a → M1.2 j = M.2 j) → XJ G Y d ce se cells slots pc L st M1 Post) : XJ G Y d ce se cells slots pc L st M Post := by
  intro p e R s m args below meth c H locs Q ls hC hR hq hl k2
  refine kk (xset M a (.inl (t, N, .inl f))) rfl xset_self (fun j hj => xset_ne hj rfl) p e R s m args below meth c H locs Q ls hC ⟨hR.1, hR.2.1, fun k h1 h2 => ?_, hR.2.2.2⟩ hq hl k2
  by_cases hk : k = a
  · subst hk
    have hat := hR.2.2.1 k h1 h2
    rw [hM] at hat
    rw [xset_self]
    have e1 : vp_cell (xA G t) (N, .inl g) = vp_cell (xA G t) (N, .inl f) := by
      rw [vp_cell_i, vp_cell_i, arrV, arrV]
      congr 2
      funext j
      rw [h j.val j.isLt]
    have hat2 : H[xa G k]? = some (vp_cell (xA G t) (N, .inl g)) := hat
    rw [e1] at hat2
    exact hat2
  · rw [xset_ne hk rfl]
    exact hR.2.2.1 k h1 h2
def xsealF (f : Nat → Int32) (s : Int32) : Nat → Int32 := fun j => if f j = 99 then s else f j
theorem xseal_t {f : Nat → Int32} {s : Int32} {i : Nat} (h : f i = 99) : s = xsealF f s i := by rw [xsealF, if_pos h]
theorem xseal_f {f : Nat → Int32} {s : Int32} {i : Nat} (h : ¬ f i = 99) : f i = xsealF f s i := by rw [xsealF, if_neg h]
theorem xmap_step {g F : Nat → Int32} {i : Nat} {x : Int32} (h : ∀ j, j < i → g j = F j) (hx : x = F i) : ∀ j, j < i + 1 → upd g i x j = F j := by
  intro j hj
  by_cases e : j = i
  · rw [e, pk_us, hx]
  · rw [pk_un e]
    exact h j (by omega)
theorem xmap_rest {g f : Nat → Int32} {i : Nat} {x : Int32} (h : ∀ j, i ≤ j → g j = f j) : ∀ j, i + 1 ≤ j → upd g i x j = f j := by
  intro j hj
  rw [pk_un (by omega)]
  exact h j (by omega)
theorem mSealL {G : xG} (hxn : xn = 16) {M0 : xM} {n : Nat} (hn2 : 52 ≤ n) {dl : Nat} {pl : Nat} {vc : Nat} {tk : Nat} {hc : Nat} {sn : Nat} {y13 : Int32} {y22 : Int32} {y23 : Int32} {y24 : Int32} {y33 : Int32} {y36 : Int32} {y37 : Int32} {y38 : Int32} {y39 : Int32} {f : Nat → Int32} (h_24 : M0.2 24 = (.inr (12, [.ref 25, .ref 26, .ref 27, .ref 28, .ref 29, .ref 30, .int (nI sn), .int (nI vc), .int (nI tk), .ref 31, .int (nI dl), .ref 32, .int (nI pl), .int y13, .ref 33, .ref 34, .ref 35, .ref 36, .ref 37, .ref 38, .ref 39, .ref 40, .int y22, .int y23, .int y24, .ref 41, .ref 42, .ref 43, .ref 44, .ref 45, .ref 46, .ref 47, .ref 48, .int y33, .ref 49, .ref 50, .int y36, .int y37, .int y38, .int y39, .int (nI hc), .ref 51]))) (hsn : sn < 64) {d ce se cells slots : Nat} {Post : Option Value → xM → Prop} (K : ∀ (M : xM) (g : Nat → Int32), M.1 = n → (∀ j, j ≠ 28 → M.2 j = M0.2 j) → M.2 28 = (.inl (0, 128, .inl g)) → (∀ j, j < 128 → g j = xsealF f (nI sn) j) → XJ G Y14_9 d ce se cells slots 45 [(1, .int (nI 128)), (0, .ref 24)] [] M Post) : ∀ (r i : Nat) (M : xM) (g : Nat → Int32), i + r = 128 → M.1 = n → (∀ j, j ≠ 28 → M.2 j = M0.2 j) → M.2 28 = (.inl (0, 128, .inl g)) → (∀ j, j < i → g j = xsealF f (nI sn) j) → (∀ j, i ≤ j → g j = f j) → XJ G Y14_9 d ce se cells slots 2 [(1, .int (nI i)), (0, .ref 24)] [] M Post := by
  intro r
  induction r with
  | zero =>
    intro i M g hi hm hfr hA h1 h2
    have hi' : i = 128 := by omega
    subst i
    refine xj_iload_n (i := 1) d14_9_2 rfl rfl ?_
    refine xj_sipush (v := 128) d14_9_3 (by decide) ?_
    refine xj_icmp_ge (tgt := 45) d14_9_6 rfl (fun _ => ?_) (fun h => absurd (nI_le (a := 128) (b := 128) (by omega) (by omega)) h)
    exact K M g hm hfr hA h1
  | succ r ih =>
    intro i M g hi hm hfr hA h1 h2
    refine xj_iload_n (i := 1) d14_9_2 rfl rfl ?_
    refine xj_sipush (v := 128) d14_9_3 (by decide) ?_
    refine xj_icmp_ge (tgt := 45) d14_9_6 rfl (fun h => absurd h (nI_ge (a := i) (b := 128) (by omega) (by omega))) (fun _ => ?_)
    refine xj_aload_n (i := 0) d14_9_9 rfl rfl ?_
    refine xj_get d14_9_10 f14_20_12 ((hfr 24 (by omega)).trans h_24) (by omega) (show 24 < M.1 by omega) rfl ?_
    refine xj_iload_n (i := 1) d14_9_13 rfl rfl ?_
    refine xj_aload_n (i := 0) d14_9_14 rfl rfl ?_
    refine xj_get d14_9_15 f14_20_12 ((hfr 24 (by omega)).trans h_24) (by omega) (show 24 < M.1 by omega) rfl ?_
    refine xj_iload_n (i := 1) d14_9_18 rfl rfl ?_
    refine xj_iaload (j := i) d14_9_19 hA (by omega) (show 28 < M.1 by omega) (vp_in_nI (by omega) (by omega)) (nI_clamp (by omega)) ?_
    refine xj_bipush (v := 99) d14_9_20 (by decide) ?_
    refine xj_icmp_ne (tgt := 32) d14_9_22 rfl (fun hb => ?_) (fun hb => ?_)
    · refine xj_aload_n (i := 0) d14_9_32 rfl rfl ?_
      refine xj_get d14_9_33 f14_20_12 ((hfr 24 (by omega)).trans h_24) (by omega) (show 24 < M.1 by omega) rfl ?_
      refine xj_iload_n (i := 1) d14_9_36 rfl rfl ?_
      refine xj_iaload (j := i) d14_9_37 hA (by omega) (show 28 < M.1 by omega) (vp_in_nI (by omega) (by omega)) (nI_clamp (by omega)) ?_
      refine xj_iastore (j := i) (x' := g i) d14_9_38 hA (by omega) (show 28 < M.1 by omega) (vp_in_nI (by omega) (by omega)) (nI_clamp (by omega)) rfl ?_
      refine xj_abs_set (fun M1 hs1 ha1 ho1 => ?_)
      refine xj_iinc (v := nI (i + 1)) (L' := [(1, .int (nI (i + 1))), (0, .ref 24)]) d14_9_39 rfl (xinc _) (by decide) rfl ?_
      refine xj_goto (tgt := 2) d14_9_42 rfl ?_
      exact ih (i + 1) M1 (upd g i (g i)) (by omega) (by omega) (fun j hj => (ho1 j hj).trans (hfr j hj)) ha1 (xmap_step h1 ((h2 i (Nat.le_refl i)).trans (xseal_f (fun q => hb ((h2 i (Nat.le_refl i)).trans q))))) (xmap_rest h2)
    · refine xj_aload_n (i := 0) d14_9_25 rfl rfl ?_
      refine xj_get d14_9_26 f14_114_12 ((hfr 24 (by omega)).trans h_24) (by omega) (show 24 < M.1 by omega) rfl ?_
      refine xj_goto (tgt := 38) d14_9_29 rfl ?_
      refine xj_iastore (j := i) (x' := nI sn) d14_9_38 hA (by omega) (show 28 < M.1 by omega) (vp_in_nI (by omega) (by omega)) (nI_clamp (by omega)) rfl ?_
      refine xj_abs_set (fun M2 hs2 ha2 ho2 => ?_)
      refine xj_iinc (v := nI (i + 1)) (L' := [(1, .int (nI (i + 1))), (0, .ref 24)]) d14_9_39 rfl (xinc _) (by decide) rfl ?_
      refine xj_goto (tgt := 2) d14_9_42 rfl ?_
      exact ih (i + 1) M2 (upd g i (nI sn)) (by omega) (by omega) (fun j hj => (ho2 j hj).trans (hfr j hj)) ha2 (xmap_step h1 (xseal_t ((h2 i (Nat.le_refl i)).symm.trans hb))) (xmap_rest h2)
set_option maxRecDepth 20000 in
theorem mSeal {G : xG} (hg : xGood G) {M : xM} {n : Nat} (hn : M.1 = n) (hx : xn ≤ n) {dl : Nat} {pl : Nat} {vc : Nat} {tk : Nat} {hc : Nat} {sn : Nat} {y13 : Int32} {y22 : Int32} {y23 : Int32} {y24 : Int32} {y33 : Int32} {y36 : Int32} {y37 : Int32} {y38 : Int32} {y39 : Int32} {f : Nat → Int32} {le : Nat → Int32} (h1_24 : xn ≤ 24) (h2_24 : 24 < n) (h_24 : M.2 24 = (.inr (12, [.ref 25, .ref 26, .ref 27, .ref 28, .ref 29, .ref 30, .int (nI sn), .int (nI vc), .int (nI tk), .ref 31, .int (nI dl), .ref 32, .int (nI pl), .int y13, .ref 33, .ref 34, .ref 35, .ref 36, .ref 37, .ref 38, .ref 39, .ref 40, .int y22, .int y23, .int y24, .ref 41, .ref 42, .ref 43, .ref 44, .ref 45, .ref 46, .ref 47, .ref 48, .int y33, .ref 49, .ref 50, .int y36, .int y37, .int y38, .int y39, .int (nI hc), .ref 51]))) (h1_28 : xn ≤ 28) (h2_28 : 28 < n) (h_28 : M.2 28 = (.inl (0, 128, .inl f))) (h1_30 : xn ≤ 30) (h2_30 : 30 < n) (h_30 : M.2 30 = (.inl (0, 64, .inl le))) (hxn : xn = 16) (hn2 : 52 ≤ n) (hsn : sn < 64) : XC G Y14_9 none 0 0 0 [.ref 24] M (fun v M' => v = none ∧ M'.1 = n ∧ (∀ j, j < n → j ≠ 28 → j ≠ 30 → j ≠ 24 → M'.2 j = M.2 j) ∧ M'.2 28 = (.inl (0, 128, .inl (xsealF f (nI sn)))) ∧ M'.2 30 = (.inl (0, 64, .inl (upd le sn 0))) ∧ M'.2 24 = (.inr (12, [.ref 25, .ref 26, .ref 27, .ref 28, .ref 29, .ref 30, .int (nI (sn + 1)), .int (nI vc), .int (nI tk), .ref 31, .int (nI dl), .ref 32, .int (nI pl), .int y13, .ref 33, .ref 34, .ref 35, .ref 36, .ref 37, .ref 38, .ref 39, .ref 40, .int y22, .int y23, .int y24, .ref 41, .ref 42, .ref 43, .ref 44, .ref 45, .ref 46, .ref 47, .ref 48, .int y33, .ref 49, .ref 50, .int y36, .int y37, .int y38, .int y39, .int (nI hc), .ref 51]))) := by
  refine xc_of hg (by decide) (Nat.le_of_ble_eq_true rfl) (Or.inr (Or.inr (Or.inr (Or.inr (Or.inl ⟨rfl, rfl, fun v M' h => h.1⟩))))) ?_
  refine xj_iconst (v := 0) d14_9_0 (by decide) ?_
  refine xj_istore_n (i := 1) (L' := [(1, .int 0), (0, .ref 24)]) d14_9_1 rfl (by decide) rfl ?_
  refine mSealL (n := n) (M0 := M) hxn hn2 h_24 hsn (fun Ma g hsa hoa haa hga => ?_) 128 0 M f rfl (by omega) (fun j _ => rfl) h_28 (fun j hj => absurd hj (by omega)) (fun j _ => rfl)
  refine xj_norm haa hga (fun Mn hsn2 han hon => ?_)
  refine xj_aload_n (i := 0) d14_9_45 rfl rfl ?_
  refine xj_get d14_9_46 f14_26_12 ((hon 24 (by omega)).trans ((hoa 24 (by omega)).trans h_24)) (by omega) (show 24 < Mn.1 by omega) rfl ?_
  refine xj_aload_n (i := 0) d14_9_49 rfl rfl ?_
  refine xj_get d14_9_50 f14_114_12 ((hon 24 (by omega)).trans ((hoa 24 (by omega)).trans h_24)) (by omega) (show 24 < Mn.1 by omega) rfl ?_
  refine xj_iconst (v := 0) d14_9_53 (by decide) ?_
  refine xj_iastore (j := sn) (x' := 0) d14_9_54 ((hon 30 (by omega)).trans ((hoa 30 (by omega)).trans h_30)) (by omega) (show 30 < Mn.1 by omega) (vp_in_nI (by omega) (by omega)) (nI_clamp (by omega)) rfl ?_
  refine xj_abs_set (fun M1 hs1 ha1 ho1 => ?_)
  refine xj_aload_n (i := 0) d14_9_55 rfl rfl ?_
  refine xj_dup d14_9_56 rfl ?_
  refine xj_get d14_9_57 f14_114_12 ((ho1 24 (by omega)).trans ((hon 24 (by omega)).trans ((hoa 24 (by omega)).trans h_24))) (by omega) (show 24 < M1.1 by omega) rfl ?_
  refine xj_iconst (v := 1) d14_9_60 (by decide) ?_
  refine xj_iadd (v := nI (sn + 1)) d14_9_61 (nI_1 _) ?_
  refine xj_put (a := 24) (fs' := [.ref 25, .ref 26, .ref 27, .ref 28, .ref 29, .ref 30, .int (nI (sn + 1)), .int (nI vc), .int (nI tk), .ref 31, .int (nI dl), .ref 32, .int (nI pl), .int y13, .ref 33, .ref 34, .ref 35, .ref 36, .ref 37, .ref 38, .ref 39, .ref 40, .int y22, .int y23, .int y24, .ref 41, .ref 42, .ref 43, .ref 44, .ref 45, .ref 46, .ref 47, .ref 48, .int y33, .ref 49, .ref 50, .int y36, .int y37, .int y38, .int y39, .int (nI hc), .ref 51]) d14_9_62 f14_114_12 ((ho1 24 (by omega)).trans ((hon 24 (by omega)).trans ((hoa 24 (by omega)).trans h_24))) (by omega) (show 24 < M1.1 by omega) (Nat.le_of_ble_eq_true rfl) rfl rfl rfl ?_
  refine xj_abs_set (fun M2 hs2 ha2 ho2 => ?_)
  exact xj_ret d14_9_65 (by omega) (by omega) rfl ⟨rfl, (show M2.1 = n by omega), (fun j hj hj0 hj1 hj2 => ((ho2 j (by omega)).trans ((ho1 j (by omega)).trans ((hon j (by omega)).trans (hoa j (by omega)))))), ((ho2 28 (by omega)).trans ((ho1 28 (by omega)).trans han)), ((ho2 30 (by omega)).trans ha1), ha2⟩

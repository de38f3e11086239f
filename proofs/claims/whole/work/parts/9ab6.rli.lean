/-- what finding the hits of a text may change -/
def rZ (M0 M : xM) (rc : Nat → Int64) (fh : Nat → Int32) : Prop := M.1 = M0.1 ∧ (∀ j, j < M0.1 → j ≠ 24 → j ≠ 50 → j ≠ 51 → M.2 j = M0.2 j) ∧ M.2 50 = .inl (3, 1230, .inr (.inl rc)) ∧ M.2 51 = .inl (0, 420, .inl fh)
theorem rZ_t {M0 M M' : xM} {rc rc' : Nat → Int64} {fh fh' : Nat → Int32} (h : rZ M0 M rc fh) (h2 : rZ M M' rc' fh') : rZ M0 M' rc' fh' := ⟨h2.1.trans h.1, fun j z a b c => (h2.2.1 j (by rw [h.1]; exact z) a b c).trans (h.2.1 j z a b c), h2.2.2⟩
set_option maxRecDepth 20000 in
theorem mLiA {G : xG} (hg : xGood G) (hxn : xn = 16) {n : Nat} (hn2 : 52 ≤ n) {dl : Nat} {pl : Nat} {vc : Nat} {tk : Nat} {sn : Nat} {y22 : Int32} {y23 : Int32} {y24 : Int32} {y33 : Int32} {y38 : Int32} {y39 : Int32} {M0 : xM} (hn0 : M0.1 = n) {tx te kd ch nx lo hi wt cs : Nat → Int32} {A : List xNode} {lo_ : Nat → Nat} (k25 : M0.2 25 = (.inl (0, 5120, .inl tx))) (k26 : M0.2 26 = (.inl (0, 128, .inl te))) (k33 : M0.2 33 = (.inl (0, 30, .inl kd))) (k34 : M0.2 34 = (.inl (0, 30, .inl ch))) (k35 : M0.2 35 = (.inl (0, 30, .inl nx))) (k37 : M0.2 37 = (.inl (0, 30, .inl lo))) (k38 : M0.2 38 = (.inl (0, 30, .inl hi))) (k40 : M0.2 40 = (.inl (2, 2850, .inl cs))) (hA26 : A.length ≤ 26) (hA0 : 0 < A.length) (hO : ∀ (i : Nat) (q : xNode), A[i]? = some q → pOk A lo_ i q) (hN : ∀ (i : Nat) (q : xNode), A[i]? = some q → nS kd ch nx lo hi wt cs i q) {len ls : Nat} {ln : Nat → Nat} (hl40 : len ≤ 40) (hls : ls + len ≤ 5120) (hln : ∀ k, k < len → ln k < 95 ∧ tx (ls + k) = nI (ln k + 32)) {nm l nd : Nat} {H : List Int32} {fh : Nat → Int32} {q : xNode} (hq : A[nd]? = some q) {d ce se cells slots : Nat} {Post : Option Value → xM → Prop} (hd : 2 ≤ d) (hcc : cells ≤ ce) (hss : slots ≤ se) (K : ∀ (M : xM) (rc : Nat → Int64), rZ M0 M rc fh → M.2 24 = (.inr (12, [.ref 25, .ref 26, .ref 27, .ref 28, .ref 29, .ref 30, .int (nI sn), .int (nI vc), .int (nI tk), .ref 31, .int (nI dl), .ref 32, .int (nI pl), .int (nI A.length), .ref 33, .ref 34, .ref 35, .ref 36, .ref 37, .ref 38, .ref 39, .ref 40, .int y22, .int y23, .int y24, .ref 41, .ref 42, .ref 43, .ref 44, .ref 45, .ref 46, .ref 47, .ref 48, .int y33, .ref 49, .ref 50, .int (nI ls), .int (nI len), .int y38, .int y39, .int (nI H.length), .ref 51])) → (∀ c a, c < nd + 1 → a ≤ len → bS (rc (41 * c + a)) (fun j => rY len ln A c a j)) → ∀ a : Nat, XJ G Y14_59 d ce se cells slots 47 [(4, .int (nI a)), (3, .int (nI nd)), (0, .ref 24), (1, .int (nI nm)), (2, .int (nI l))] [] M Post) : ∀ (r a : Nat) (M : xM) (rc : Nat → Int64), a + r = len + 1 → rZ M0 M rc fh → M.2 24 = (.inr (12, [.ref 25, .ref 26, .ref 27, .ref 28, .ref 29, .ref 30, .int (nI sn), .int (nI vc), .int (nI tk), .ref 31, .int (nI dl), .ref 32, .int (nI pl), .int (nI A.length), .ref 33, .ref 34, .ref 35, .ref 36, .ref 37, .ref 38, .ref 39, .ref 40, .int y22, .int y23, .int y24, .ref 41, .ref 42, .ref 43, .ref 44, .ref 45, .ref 46, .ref 47, .ref 48, .int y33, .ref 49, .ref 50, .int (nI ls), .int (nI len), .int y38, .int y39, .int (nI H.length), .ref 51])) → (∀ c a, c < nd → a ≤ len → bS (rc (41 * c + a)) (fun j => rY len ln A c a j)) → (∀ b, b < a → bS (rc (41 * nd + b)) (fun j => rY len ln A nd b j)) → XJ G Y14_59 d ce se cells slots 13 [(4, .int (nI a)), (3, .int (nI nd)), (0, .ref 24), (1, .int (nI nm)), (2, .int (nI l))] [] M Post := by
  have hnd : nd < A.length := (List.getElem?_eq_some_iff.mp hq).1
  intro r
  induction r with
  | zero =>
    intro a M rc ha hZ h_24 hrd hra
    have hm0 := hZ.1
    refine xj_iload (i := 4) d14_59_13 rfl ?_
    refine xj_aload_n (i := 0) d14_59_15 rfl rfl ?_
    refine xj_get d14_59_16 f14_261_12 h_24 (by omega) (show 24 < M.1 by omega) rfl ?_
    refine xj_icmp_gt (tgt := 47) d14_59_19 rfl (fun _ => ?_) (fun h => absurd (nI_lt (a := len) (b := a) (by omega) (by omega)) h)
    exact K M rc hZ h_24 (fun c b hc hb => if e : c = nd then by rw [e]; exact hra b (by omega) else hrd c b (by omega) hb) a
  | succ r ih =>
    intro a M rc ha hZ h_24 hrd hra
    have hm0 := hZ.1
    refine xj_iload (i := 4) d14_59_13 rfl ?_
    refine xj_aload_n (i := 0) d14_59_15 rfl rfl ?_
    refine xj_get d14_59_16 f14_261_12 h_24 (by omega) (show 24 < M.1 by omega) rfl ?_
    refine xj_icmp_gt (tgt := 47) d14_59_19 rfl (fun h => absurd h (nI_nlt (a := len) (b := a) (by omega) (by omega))) (fun _ => ?_)
    refine xj_aload_n (i := 0) d14_59_22 rfl rfl ?_
    refine xj_get d14_59_23 f14_86_12 h_24 (by omega) (show 24 < M.1 by omega) rfl ?_
    refine xj_bipush (v := 41) d14_59_26 (by decide) ?_
    refine xj_iload_n (i := 3) d14_59_28 rfl rfl ?_
    refine xj_imul (v := nI (41 * nd)) d14_59_29 (pk_mul 41 nd) ?_
    refine xj_iload (i := 4) d14_59_30 rfl ?_
    refine xj_iadd (v := nI (41 * nd + a)) d14_59_32 (nI_add (41 * nd) a) ?_
    refine xj_aload_n (i := 0) d14_59_33 rfl rfl ?_
    refine xj_iload_n (i := 3) d14_59_34 rfl rfl ?_
    refine xj_iload (i := 4) d14_59_35 rfl ?_
    refine xj_callV (rest := [.int (nI (41 * nd + a)), .ref 50]) (As := [.int (nI nd), .int (nI a)]) (b := 24) (mFr hg hxn hn2 hl40 (show M.1 = n by omega) h_24 ((hZ.2.1 25 (by omega) (by omega) (by omega) (by omega)).trans k25) ((hZ.2.1 33 (by omega) (by omega) (by omega) (by omega)).trans k33) ((hZ.2.1 34 (by omega) (by omega) (by omega) (by omega)).trans k34) ((hZ.2.1 35 (by omega) (by omega) (by omega) (by omega)).trans k35) ((hZ.2.1 37 (by omega) (by omega) (by omega) (by omega)).trans k37) ((hZ.2.1 38 (by omega) (by omega) (by omega) (by omega)).trans k38) ((hZ.2.1 40 (by omega) (by omega) (by omega) (by omega)).trans k40) hZ.2.2.1 hA26 hO hN hls hln (nd := nd) (i := a) hq (by omega) hrd) d14_59_37 wd14_58 h_24 (by omega) (show 24 < M.1 by omega) rfl s14_58 w1362 (Or.inl w1360) rfl rfl (Nat.le_of_ble_eq_true rfl) (by omega) (by omega) (by omega) ?_
    rintro v9 M' ⟨⟨y9, rfl, hY9⟩, hm9⟩
    subst M'
    refine xj_lastore (j := 41 * nd + a) d14_59_40 hZ.2.2.1 (by omega) (show 50 < M.1 by omega) (vp_in_nI (by omega) (by omega)) (nI_clamp (by omega)) ?_
    refine xj_abs_set (fun M1 hs1 ha1 ho1 => ?_)
    refine xj_iinc (v := nI (a + 1)) (L' := [(4, .int (nI (a + 1))), (3, .int (nI nd)), (0, .ref 24), (1, .int (nI nm)), (2, .int (nI l))]) d14_59_41 rfl (xinc _) (by decide) rfl ?_
    refine xj_goto (tgt := 13) d14_59_44 rfl ?_
    refine xj_sub (L' := [(4, .int (nI (a + 1))), (3, .int (nI nd)), (0, .ref 24), (1, .int (nI nm)), (2, .int (nI l))]) (fun q hq => by simp only [List.mem_cons, List.not_mem_nil, or_false] at hq ⊢; rcases hq with rfl | rfl | rfl | rfl | rfl <;> simp) ?_
    have hZ9 : rZ M M1 (vp_updL rc (41 * nd + a) y9) fh := ⟨(show M1.1 = M.1 by omega), (fun j hj a b c => (ho1 j (by omega))), ha1, ((ho1 51 (by omega)).trans hZ.2.2.2)⟩
    exact ih (a + 1) M1 _ (by omega) (rZ_t hZ hZ9) ((ho1 24 (by omega)).trans h_24) (fun c b hc hb => by rw [pk_uLn (by omega)]; exact hrd c b hc hb) (fun b hb => if e : b = a then by rw [e, pk_uLs]; exact hY9 else by rw [pk_uLn (by omega)]; exact hra b (by omega))
set_option maxRecDepth 20000 in
theorem mLiB {G : xG} (hg : xGood G) (hxn : xn = 16) {n : Nat} (hn2 : 52 ≤ n) {dl : Nat} {pl : Nat} {vc : Nat} {tk : Nat} {sn : Nat} {y22 : Int32} {y23 : Int32} {y24 : Int32} {y33 : Int32} {y38 : Int32} {y39 : Int32} {M0 : xM} (hn0 : M0.1 = n) {tx te kd ch nx lo hi wt cs : Nat → Int32} {A : List xNode} {lo_ : Nat → Nat} (k25 : M0.2 25 = (.inl (0, 5120, .inl tx))) (k26 : M0.2 26 = (.inl (0, 128, .inl te))) (k33 : M0.2 33 = (.inl (0, 30, .inl kd))) (k34 : M0.2 34 = (.inl (0, 30, .inl ch))) (k35 : M0.2 35 = (.inl (0, 30, .inl nx))) (k37 : M0.2 37 = (.inl (0, 30, .inl lo))) (k38 : M0.2 38 = (.inl (0, 30, .inl hi))) (k40 : M0.2 40 = (.inl (2, 2850, .inl cs))) (hA26 : A.length ≤ 26) (hA0 : 0 < A.length) (hO : ∀ (i : Nat) (q : xNode), A[i]? = some q → pOk A lo_ i q) (hN : ∀ (i : Nat) (q : xNode), A[i]? = some q → nS kd ch nx lo hi wt cs i q) {len ls : Nat} {ln : Nat → Nat} (hl40 : len ≤ 40) (hls : ls + len ≤ 5120) (hln : ∀ k, k < len → ln k < 95 ∧ tx (ls + k) = nI (ln k + 32)) {nm l : Nat} {H : List Int32} {fh : Nat → Int32} {d ce se cells slots : Nat} {Post : Option Value → xM → Prop} (hd : 2 ≤ d) (hcc : cells ≤ ce) (hss : slots ≤ se) (K : ∀ (M : xM) (rc : Nat → Int64), rZ M0 M rc fh → M.2 24 = (.inr (12, [.ref 25, .ref 26, .ref 27, .ref 28, .ref 29, .ref 30, .int (nI sn), .int (nI vc), .int (nI tk), .ref 31, .int (nI dl), .ref 32, .int (nI pl), .int (nI A.length), .ref 33, .ref 34, .ref 35, .ref 36, .ref 37, .ref 38, .ref 39, .ref 40, .int y22, .int y23, .int y24, .ref 41, .ref 42, .ref 43, .ref 44, .ref 45, .ref 46, .ref 47, .ref 48, .int y33, .ref 49, .ref 50, .int (nI ls), .int (nI len), .int y38, .int y39, .int (nI H.length), .ref 51])) → (∀ c a, c < A.length → a ≤ len → bS (rc (41 * c + a)) (fun j => rY len ln A c a j)) → ∀ i : Nat, XJ G Y14_59 d ce se cells slots 53 [(3, .int (nI i)), (0, .ref 24), (1, .int (nI nm)), (2, .int (nI l))] [] M Post) : ∀ (r i : Nat) (M : xM) (rc : Nat → Int64), i + r = A.length → rZ M0 M rc fh → M.2 24 = (.inr (12, [.ref 25, .ref 26, .ref 27, .ref 28, .ref 29, .ref 30, .int (nI sn), .int (nI vc), .int (nI tk), .ref 31, .int (nI dl), .ref 32, .int (nI pl), .int (nI A.length), .ref 33, .ref 34, .ref 35, .ref 36, .ref 37, .ref 38, .ref 39, .ref 40, .int y22, .int y23, .int y24, .ref 41, .ref 42, .ref 43, .ref 44, .ref 45, .ref 46, .ref 47, .ref 48, .int y33, .ref 49, .ref 50, .int (nI ls), .int (nI len), .int y38, .int y39, .int (nI H.length), .ref 51])) → (∀ c a, c < i → a ≤ len → bS (rc (41 * c + a)) (fun j => rY len ln A c a j)) → XJ G Y14_59 d ce se cells slots 2 [(3, .int (nI i)), (0, .ref 24), (1, .int (nI nm)), (2, .int (nI l))] [] M Post := by
  intro r
  induction r with
  | zero =>
    intro i M rc hi hZ h_24 hrd
    have hm0 := hZ.1
    have hi' : i = A.length := by omega
    refine xj_iload_n (i := 3) d14_59_2 rfl rfl ?_
    refine xj_aload_n (i := 0) d14_59_3 rfl rfl ?_
    refine xj_get d14_59_4 f14_136_12 h_24 (by omega) (show 24 < M.1 by omega) rfl ?_
    refine xj_icmp_ge (tgt := 53) d14_59_7 rfl (fun _ => ?_) (fun h => absurd (nI_le (a := A.length) (b := i) (by omega) (by omega)) h)
    exact K M rc hZ h_24 (by rw [← hi']; exact hrd) i
  | succ r ih =>
    intro i M rc hi hZ h_24 hrd
    have hm0 := hZ.1
    obtain ⟨q, hq⟩ : ∃ q, A[i]? = some q := ⟨_, List.getElem?_eq_getElem (show i < A.length by omega)⟩
    refine xj_iload_n (i := 3) d14_59_2 rfl rfl ?_
    refine xj_aload_n (i := 0) d14_59_3 rfl rfl ?_
    refine xj_get d14_59_4 f14_136_12 h_24 (by omega) (show 24 < M.1 by omega) rfl ?_
    refine xj_icmp_ge (tgt := 53) d14_59_7 rfl (fun h => absurd h (nI_ge (a := i) (b := A.length) (by omega) (by omega))) (fun _ => ?_)
    refine xj_iconst (v := 0) d14_59_10 (by decide) ?_
    refine xj_istore (i := 4) (L' := [(4, .int 0), (3, .int (nI i)), (0, .ref 24), (1, .int (nI nm)), (2, .int (nI l))]) d14_59_11 (by decide) rfl ?_
    refine xj_sub (L' := [(4, .int 0), (3, .int (nI i)), (0, .ref 24), (1, .int (nI nm)), (2, .int (nI l))]) (fun q hq => by simp only [List.mem_cons, List.not_mem_nil, or_false] at hq ⊢; rcases hq with rfl | rfl | rfl | rfl | rfl <;> simp) ?_
    refine mLiA hg hxn hn2 hn0 k25 k26 k33 k34 k35 k37 k38 k40 hA26 hA0 hO hN hl40 hls hln (nd := i) hq hd hcc hss (fun M5 rc5 hZ5 h245 hrd5 a5 => ?_) (len + 1) 0 M rc (by omega) hZ h_24 hrd (fun b hb => absurd hb (by omega))
    have hm5 := hZ5.1
    refine xj_iinc (v := nI (i + 1)) (L' := [(3, .int (nI (i + 1))), (4, .int (nI a5)), (0, .ref 24), (1, .int (nI nm)), (2, .int (nI l))]) d14_59_47 rfl (xinc _) (by decide) rfl ?_
    refine xj_goto (tgt := 2) d14_59_50 rfl ?_
    refine xj_sub (L' := [(3, .int (nI (i + 1))), (0, .ref 24), (1, .int (nI nm)), (2, .int (nI l))]) (fun q hq => by simp only [List.mem_cons, List.not_mem_nil, or_false] at hq ⊢; rcases hq with rfl | rfl | rfl | rfl <;> simp) ?_
    exact ih (i + 1) M5 rc5 (by omega) hZ5 h245 hrd5
set_option maxRecDepth 20000 in
theorem mLiW {G : xG} {M : xM} {y : Int64} {P nm l i : Nat} {d ce se cells slots : Nat} {Post : Option Value → xM → Prop} (hP1 : lb y P = true) (hP2 : ∀ j, P < j → j < 64 → lb y j = false) (K : XJ G Y14_59 d ce se cells slots 110 [(6, .int (nI P)), (4, .long y), (3, .int (nI i)), (0, .ref 24), (1, .int (nI nm)), (2, .int (nI l))] [] M Post) : ∀ e : Nat, P + e ≤ 40 → XJ G Y14_59 d ce se cells slots 92 [(6, .int (nI (P + e))), (4, .long y), (3, .int (nI i)), (0, .ref 24), (1, .int (nI nm)), (2, .int (nI l))] [] M Post := by
  intro e
  induction e with
  | zero =>
    intro h40
    refine xj_lload (i := 4) d14_59_92 rfl ?_
    refine xj_iload (i := 6) d14_59_94 rfl ?_
    refine xj_lshr (v := y >>> ((nI P).toInt64 &&& 63)) d14_59_96 rfl ?_
    refine xj_lconst (v := 1) d14_59_97 (by decide) ?_
    refine xj_land (v := (y >>> ((nI P).toInt64 &&& 63)) &&& 1) d14_59_98 rfl ?_
    refine xj_lconst (v := 0) d14_59_99 (by decide) ?_
    refine xj_lcmp (v := lg_cmp ((y >>> ((nI P).toInt64 &&& 63)) &&& 1) 0) d14_59_100 rfl ?_
    refine xj_if_ne (tgt := 110) d14_59_101 rfl (fun _ => ?_) (fun h => absurd h (fun q => by have := (lb_tst (show P < 64 by omega)).mp q; rw [hP1] at this; cases this))
    exact K
  | succ e ih =>
    intro h40
    rw [show P + (e + 1) = P + e + 1 by omega] at h40 ⊢
    refine xj_lload (i := 4) d14_59_92 rfl ?_
    refine xj_iload (i := 6) d14_59_94 rfl ?_
    refine xj_lshr (v := y >>> ((nI (P + e + 1)).toInt64 &&& 63)) d14_59_96 rfl ?_
    refine xj_lconst (v := 1) d14_59_97 (by decide) ?_
    refine xj_land (v := (y >>> ((nI (P + e + 1)).toInt64 &&& 63)) &&& 1) d14_59_98 rfl ?_
    refine xj_lconst (v := 0) d14_59_99 (by decide) ?_
    refine xj_lcmp (v := lg_cmp ((y >>> ((nI (P + e + 1)).toInt64 &&& 63)) &&& 1) 0) d14_59_100 rfl ?_
    refine xj_if_ne (tgt := 110) d14_59_101 rfl (fun h => absurd ((lb_tst (show P + e + 1 < 64 by omega)).mpr (hP2 (P + e + 1) (by omega) (by omega))) h) (fun _ => ?_)
    refine xj_iinc (v := nI (P + e)) (L' := [(6, .int (nI (P + e))), (4, .long y), (3, .int (nI i)), (0, .ref 24), (1, .int (nI nm)), (2, .int (nI l))]) d14_59_104 rfl (show nI (P + e + 1) + Int32.ofInt (-1) = nI (P + e) from pk_m1 _) (by decide) rfl ?_
    refine xj_goto (tgt := 92) d14_59_107 rfl ?_
    refine xj_sub (L' := [(6, .int (nI (P + e))), (4, .long y), (3, .int (nI i)), (0, .ref 24), (1, .int (nI nm)), (2, .int (nI l))]) (fun q hq => by simp only [List.mem_cons, List.not_mem_nil, or_false] at hq ⊢; rcases hq with rfl | rfl | rfl | rfl | rfl | rfl <;> simp) ?_
    exact ih (by omega)
set_option maxRecDepth 20000 in
set_option maxHeartbeats 2000000 in
theorem mLiS {G : xG} (hg : xGood G) (hxn : xn = 16) {n : Nat} (hn2 : 52 ≤ n) {dl : Nat} {pl : Nat} {vc : Nat} {tk : Nat} {sn : Nat} {y22 : Int32} {y23 : Int32} {y24 : Int32} {y33 : Int32} {y38 : Int32} {y39 : Int32} {M0 : xM} (hn0 : M0.1 = n) {tx te kd ch nx lo hi wt cs : Nat → Int32} {A : List xNode} {lo_ : Nat → Nat} (k25 : M0.2 25 = (.inl (0, 5120, .inl tx))) (k26 : M0.2 26 = (.inl (0, 128, .inl te))) (k33 : M0.2 33 = (.inl (0, 30, .inl kd))) (k34 : M0.2 34 = (.inl (0, 30, .inl ch))) (k35 : M0.2 35 = (.inl (0, 30, .inl nx))) (k37 : M0.2 37 = (.inl (0, 30, .inl lo))) (k38 : M0.2 38 = (.inl (0, 30, .inl hi))) (k40 : M0.2 40 = (.inl (2, 2850, .inl cs))) (hA26 : A.length ≤ 26) (hA0 : 0 < A.length) (hO : ∀ (i : Nat) (q : xNode), A[i]? = some q → pOk A lo_ i q) (hN : ∀ (i : Nat) (q : xNode), A[i]? = some q → nS kd ch nx lo hi wt cs i q) {len ls : Nat} {ln : Nat → Nat} (hl40 : len ≤ 40) (hls : ls + len ≤ 5120) (hln : ∀ k, k < len → ln k < 95 ∧ tx (ls + k) = nI (ln k + 32)) {nm l : Nat} {H : List Int32} {fh : Nat → Int32} {rc : Nat → Int64} (hH : hAr fh H) (hHl : H.length < 420) {M : xM} (hZ : rZ M0 M rc fh) (h_24 : M.2 24 = (.inr (12, [.ref 25, .ref 26, .ref 27, .ref 28, .ref 29, .ref 30, .int (nI sn), .int (nI vc), .int (nI tk), .ref 31, .int (nI dl), .ref 32, .int (nI pl), .int (nI A.length), .ref 33, .ref 34, .ref 35, .ref 36, .ref 37, .ref 38, .ref 39, .ref 40, .int y22, .int y23, .int y24, .ref 41, .ref 42, .ref 43, .ref 44, .ref 45, .ref 46, .ref 47, .ref 48, .int y33, .ref 49, .ref 50, .int (nI ls), .int (nI len), .int y38, .int y39, .int (nI H.length), .ref 51]))) (hrd : (∀ c a, c < A.length → a ≤ len → bS (rc (41 * c + a)) (fun j => rY len ln A c a j))) {d ce se cells slots : Nat} (hcc : cells ≤ ce) (hss : slots ≤ se) : ∀ r i : Nat, i + r = len + 1 → (∀ a j, a < i → ¬ (rY len ln A (A.length - 1)) a j) → XJ G Y14_59 d ce se cells slots 55 [(3, .int (nI i)), (0, .ref 24), (1, .int (nI nm)), (2, .int (nI l))] [] M (fun v M' => v = none ∧ ∃ (rc' : Nat → Int64) (fh' : Nat → Int32), rZ M0 M' rc' fh' ∧ M'.2 24 = (.inr (12, [.ref 25, .ref 26, .ref 27, .ref 28, .ref 29, .ref 30, .int (nI sn), .int (nI vc), .int (nI tk), .ref 31, .int (nI dl), .ref 32, .int (nI pl), .int (nI A.length), .ref 33, .ref 34, .ref 35, .ref 36, .ref 37, .ref 38, .ref 39, .ref 40, .int y22, .int y23, .int y24, .ref 41, .ref 42, .ref 43, .ref 44, .ref 45, .ref 46, .ref 47, .ref 48, .int y33, .ref 49, .ref 50, .int (nI ls), .int (nI len), .int y38, .int y39, .int (nI ((match lnO len ln A with | none => H | some q => H ++ [nI nm * 16777216 + nI l * 65536 + nI q.1 * 256 + nI q.2]).length)), .ref 51])) ∧ hAr fh' (match lnO len ln A with | none => H | some q => H ++ [nI nm * 16777216 + nI l * 65536 + nI q.1 * 256 + nI q.2])) := by
  have hm0 := hZ.1
  intro r
  induction r with
  | zero =>
    intro i hi hno
    have hO9 : lnO len ln A = none := lnO_eq (Or.inl ⟨rfl, fun a j ha => hno a j (by omega)⟩)
    refine xj_iload_n (i := 3) d14_59_55 rfl rfl ?_
    refine xj_aload_n (i := 0) d14_59_56 rfl rfl ?_
    refine xj_get d14_59_57 f14_261_12 h_24 (by omega) (show 24 < M.1 by omega) rfl ?_
    refine xj_icmp_gt (tgt := 156) d14_59_60 rfl (fun _ => ?_) (fun h => absurd (nI_lt (a := len) (b := i) (by omega) (by omega)) h)
    exact xj_ret d14_59_156 hcc hss rfl ⟨rfl, rc, fh, hZ, by rw [hO9]; exact h_24, by rw [hO9]; exact hH⟩
  | succ r ih =>
    intro i hi hno
    obtain ⟨y, hye⟩ : ∃ y, rc (41 * (A.length - 1) + i) = y := ⟨_, rfl⟩
    have hyb : bS y (fun j => (rY len ln A (A.length - 1)) i j) := by rw [← hye]; exact hrd _ i (by omega) (by omega)
    by_cases hy0 : y = 0
    · skip
      refine xj_iload_n (i := 3) d14_59_55 rfl rfl ?_
      refine xj_aload_n (i := 0) d14_59_56 rfl rfl ?_
      refine xj_get d14_59_57 f14_261_12 h_24 (by omega) (show 24 < M.1 by omega) rfl ?_
      refine xj_icmp_gt (tgt := 156) d14_59_60 rfl (fun h => absurd h (nI_nlt (a := len) (b := i) (by omega) (by omega))) (fun _ => ?_)
      refine xj_aload_n (i := 0) d14_59_63 rfl rfl ?_
      refine xj_get d14_59_64 f14_86_12 h_24 (by omega) (show 24 < M.1 by omega) rfl ?_
      refine xj_bipush (v := 41) d14_59_67 (by decide) ?_
      refine xj_aload_n (i := 0) d14_59_69 rfl rfl ?_
      refine xj_get d14_59_70 f14_136_12 h_24 (by omega) (show 24 < M.1 by omega) rfl ?_
      refine xj_iconst (v := 1) d14_59_73 (by decide) ?_
      refine xj_isub (v := nI (A.length - 1)) d14_59_74 (pk_sub (b := 1) (by omega)) ?_
      refine xj_imul (v := nI (41 * (A.length - 1))) d14_59_75 (pk_mul 41 (A.length - 1)) ?_
      refine xj_iload_n (i := 3) d14_59_76 rfl rfl ?_
      refine xj_iadd (v := nI (41 * (A.length - 1) + i)) d14_59_77 (nI_add (41 * (A.length - 1)) i) ?_
      refine xj_laload (j := 41 * (A.length - 1) + i) d14_59_78 hZ.2.2.1 (by omega) (show 50 < M.1 by omega) (vp_in_nI (by omega) (by omega)) (nI_clamp (by omega)) ?_
      rw [show rc (41 * (A.length - 1) + i) = y from hye]
      refine xj_lstore (i := 4) (L' := [(4, .long y), (3, .int (nI i)), (0, .ref 24), (1, .int (nI nm)), (2, .int (nI l))]) d14_59_79 (by decide) rfl ?_
      refine xj_lload (i := 4) d14_59_81 rfl ?_
      refine xj_lconst (v := 0) d14_59_83 (by decide) ?_
      refine xj_lcmp (v := lg_cmp y 0) d14_59_84 rfl ?_
      refine xj_if_eq (tgt := 150) d14_59_85 rfl (fun _ => ?_) (fun h => absurd ((lcmp_0 y).mpr hy0) h)
      refine xj_iinc (v := nI (i + 1)) (L' := [(3, .int (nI (i + 1))), (4, .long y), (0, .ref 24), (1, .int (nI nm)), (2, .int (nI l))]) d14_59_150 rfl (xinc _) (by decide) rfl ?_
      refine xj_goto (tgt := 55) d14_59_153 rfl ?_
      refine xj_sub (L' := [(3, .int (nI (i + 1))), (0, .ref 24), (1, .int (nI nm)), (2, .int (nI l))]) (fun q hq => by simp only [List.mem_cons, List.not_mem_nil, or_false] at hq ⊢; rcases hq with rfl | rfl | rfl | rfl <;> simp) ?_
      exact ih (i + 1) (by omega) (fun a j ha => if e : a = i then by rw [e]; exact fun w => bS_z hyb hy0 j (by have := (rY_le w (by omega)).2; omega) w else hno a j (by omega))
    · obtain ⟨o9, ho9⟩ := lnH_ex len ln A
      obtain ⟨j0, hj0⟩ := (bS_ne hyb (fun j w => by have := (rY_le w (show i ≤ len by omega)).2; omega)).mp hy0
      rcases ho9 with ⟨-, hn9⟩ | ⟨m', P, rfl, g1, g2, g3, g4⟩
      · exact absurd hj0 (hn9 i j0 (by omega))
      have hmm : m' = i := by
        by_cases q : m' < i
        · exact absurd g2 (hno m' P q)
        · by_cases q2 : i < m'
          · exact absurd hj0 (g3 i j0 q2)
          · omega
      subst hmm
      have hPl := (rY_le g2 (show m' ≤ len by omega)).2
      have hO9 : lnO len ln A = some (m', P) := lnO_eq (Or.inr ⟨m', P, rfl, g1, g2, g3, g4⟩)
      have hP1 : lb y P = true := (hyb P (by omega)).mpr g2
      have hP2 : ∀ j, P < j → j < 64 → lb y j = false := fun j h1 h2 => by
        cases hb : lb y j with
        | false => rfl
        | true => exact absurd (g4 j ((hyb j h2).mp hb)) (by omega)
      refine xj_iload_n (i := 3) d14_59_55 rfl rfl ?_
      refine xj_aload_n (i := 0) d14_59_56 rfl rfl ?_
      refine xj_get d14_59_57 f14_261_12 h_24 (by omega) (show 24 < M.1 by omega) rfl ?_
      refine xj_icmp_gt (tgt := 156) d14_59_60 rfl (fun h => absurd h (nI_nlt (a := len) (b := m') (by omega) (by omega))) (fun _ => ?_)
      refine xj_aload_n (i := 0) d14_59_63 rfl rfl ?_
      refine xj_get d14_59_64 f14_86_12 h_24 (by omega) (show 24 < M.1 by omega) rfl ?_
      refine xj_bipush (v := 41) d14_59_67 (by decide) ?_
      refine xj_aload_n (i := 0) d14_59_69 rfl rfl ?_
      refine xj_get d14_59_70 f14_136_12 h_24 (by omega) (show 24 < M.1 by omega) rfl ?_
      refine xj_iconst (v := 1) d14_59_73 (by decide) ?_
      refine xj_isub (v := nI (A.length - 1)) d14_59_74 (pk_sub (b := 1) (by omega)) ?_
      refine xj_imul (v := nI (41 * (A.length - 1))) d14_59_75 (pk_mul 41 (A.length - 1)) ?_
      refine xj_iload_n (i := 3) d14_59_76 rfl rfl ?_
      refine xj_iadd (v := nI (41 * (A.length - 1) + m')) d14_59_77 (nI_add (41 * (A.length - 1)) m') ?_
      refine xj_laload (j := 41 * (A.length - 1) + m') d14_59_78 hZ.2.2.1 (by omega) (show 50 < M.1 by omega) (vp_in_nI (by omega) (by omega)) (nI_clamp (by omega)) ?_
      rw [show rc (41 * (A.length - 1) + m') = y from hye]
      refine xj_lstore (i := 4) (L' := [(4, .long y), (3, .int (nI m')), (0, .ref 24), (1, .int (nI nm)), (2, .int (nI l))]) d14_59_79 (by decide) rfl ?_
      refine xj_lload (i := 4) d14_59_81 rfl ?_
      refine xj_lconst (v := 0) d14_59_83 (by decide) ?_
      refine xj_lcmp (v := lg_cmp y 0) d14_59_84 rfl ?_
      refine xj_if_eq (tgt := 150) d14_59_85 rfl (fun h => absurd h (fun q => hy0 (xlcmp_eq q))) (fun _ => ?_)
      refine xj_bipush (v := 40) d14_59_88 (by decide) ?_
      refine xj_istore (i := 6) (L' := [(6, .int 40), (4, .long y), (3, .int (nI m')), (0, .ref 24), (1, .int (nI nm)), (2, .int (nI l))]) d14_59_90 (by decide) rfl ?_
      refine xj_sub (L' := [(6, .int 40), (4, .long y), (3, .int (nI m')), (0, .ref 24), (1, .int (nI nm)), (2, .int (nI l))]) (fun q hq => by simp only [List.mem_cons, List.not_mem_nil, or_false] at hq ⊢; rcases hq with rfl | rfl | rfl | rfl | rfl | rfl <;> simp) ?_
      have h40 : P + (40 - P) = 40 := by omega
      have hW9 := fun K => mLiW (G := G) (M := M) (y := y) (P := P) (nm := nm) (l := l) (i := m') (d := d) (ce := ce) (se := se) (cells := cells) (slots := slots) (Post := (fun v M' => v = none ∧ ∃ (rc' : Nat → Int64) (fh' : Nat → Int32), rZ M0 M' rc' fh' ∧ M'.2 24 = (.inr (12, [.ref 25, .ref 26, .ref 27, .ref 28, .ref 29, .ref 30, .int (nI sn), .int (nI vc), .int (nI tk), .ref 31, .int (nI dl), .ref 32, .int (nI pl), .int (nI A.length), .ref 33, .ref 34, .ref 35, .ref 36, .ref 37, .ref 38, .ref 39, .ref 40, .int y22, .int y23, .int y24, .ref 41, .ref 42, .ref 43, .ref 44, .ref 45, .ref 46, .ref 47, .ref 48, .int y33, .ref 49, .ref 50, .int (nI ls), .int (nI len), .int y38, .int y39, .int (nI ((match lnO len ln A with | none => H | some q => H ++ [nI nm * 16777216 + nI l * 65536 + nI q.1 * 256 + nI q.2]).length)), .ref 51])) ∧ hAr fh' (match lnO len ln A with | none => H | some q => H ++ [nI nm * 16777216 + nI l * 65536 + nI q.1 * 256 + nI q.2]))) hP1 hP2 K (40 - P) (by omega)
      rw [h40] at hW9
      refine hW9 ?_
      refine xj_aload_n (i := 0) d14_59_110 rfl rfl ?_
      refine xj_get d14_59_111 f14_90_12 h_24 (by omega) (show 24 < M.1 by omega) rfl ?_
      refine xj_aload_n (i := 0) d14_59_114 rfl rfl ?_
      refine xj_get d14_59_115 f14_275_12 h_24 (by omega) (show 24 < M.1 by omega) rfl ?_
      refine xj_iload_n (i := 1) d14_59_118 rfl rfl ?_
      refine xj_ldcw (v := 16777216) d14_59_119 w1368 ?_
      refine xj_imul (v := nI nm * 16777216) d14_59_122 rfl ?_
      refine xj_iload_n (i := 2) d14_59_123 rfl rfl ?_
      refine xj_ldcw (v := 65536) d14_59_124 w1369 ?_
      refine xj_imul (v := nI l * 65536) d14_59_127 rfl ?_
      refine xj_iadd (v := nI nm * 16777216 + nI l * 65536) d14_59_128 rfl ?_
      refine xj_iload_n (i := 3) d14_59_129 rfl rfl ?_
      refine xj_sipush (v := 256) d14_59_130 (by decide) ?_
      refine xj_imul (v := nI m' * 256) d14_59_133 rfl ?_
      refine xj_iadd (v := nI nm * 16777216 + nI l * 65536 + nI m' * 256) d14_59_134 rfl ?_
      refine xj_iload (i := 6) d14_59_135 rfl ?_
      refine xj_iadd (v := nI nm * 16777216 + nI l * 65536 + nI m' * 256 + nI P) d14_59_137 rfl ?_
      refine xj_iastore (j := H.length) (x' := nI nm * 16777216 + nI l * 65536 + nI m' * 256 + nI P) d14_59_138 hZ.2.2.2 (by omega) (show 51 < M.1 by omega) (vp_in_nI (by omega) (by omega)) (nI_clamp (by omega)) rfl ?_
      refine xj_abs_set (fun M1 hs1 ha1 ho1 => ?_)
      refine xj_aload_n (i := 0) d14_59_139 rfl rfl ?_
      refine xj_dup d14_59_140 rfl ?_
      refine xj_get d14_59_141 f14_275_12 ((ho1 24 (by omega)).trans h_24) (by omega) (show 24 < M1.1 by omega) rfl ?_
      refine xj_iconst (v := 1) d14_59_144 (by decide) ?_
      refine xj_iadd (v := nI (H.length + 1)) d14_59_145 (nI_1 _) ?_
      refine xj_put (a := 24) (fs' := [.ref 25, .ref 26, .ref 27, .ref 28, .ref 29, .ref 30, .int (nI sn), .int (nI vc), .int (nI tk), .ref 31, .int (nI dl), .ref 32, .int (nI pl), .int (nI A.length), .ref 33, .ref 34, .ref 35, .ref 36, .ref 37, .ref 38, .ref 39, .ref 40, .int y22, .int y23, .int y24, .ref 41, .ref 42, .ref 43, .ref 44, .ref 45, .ref 46, .ref 47, .ref 48, .int y33, .ref 49, .ref 50, .int (nI ls), .int (nI len), .int y38, .int y39, .int (nI (H.length + 1)), .ref 51]) d14_59_146 f14_275_12 ((ho1 24 (by omega)).trans h_24) (by omega) (show 24 < M1.1 by omega) (Nat.le_of_ble_eq_true rfl) rfl rfl rfl ?_
      refine xj_abs_set (fun M2 hs2 ha2 ho2 => ?_)
      refine xj_ret d14_59_149 hcc hss rfl ⟨rfl, rc, _, rZ_t hZ ⟨(show M2.1 = M.1 by omega), (fun j hj a b c => ((ho2 j (by omega)).trans (ho1 j (by omega)))), ((ho2 50 (by omega)).trans ((ho1 50 (by omega)).trans hZ.2.2.1)), ((ho2 51 (by omega)).trans ha1)⟩, ?_, by rw [hO9]; exact hAr_app hH⟩
      rw [hO9]
      show _ = (.inr (12, _) : xE)
      rw [show (H ++ [nI nm * 16777216 + nI l * 65536 + nI m' * 256 + nI P]).length = H.length + 1 by rw [List.length_append, List.length_singleton]]
      exact ha2
set_option maxRecDepth 20000 in
theorem mLine {G : xG} (hg : xGood G) (hxn : xn = 16) {n : Nat} (hn2 : 52 ≤ n) {dl : Nat} {pl : Nat} {vc : Nat} {tk : Nat} {sn : Nat} {y22 : Int32} {y23 : Int32} {y24 : Int32} {y33 : Int32} {y38 : Int32} {y39 : Int32} {M0 : xM} (hn0 : M0.1 = n) {tx te kd ch nx lo hi wt cs : Nat → Int32} {A : List xNode} {lo_ : Nat → Nat} (k25 : M0.2 25 = (.inl (0, 5120, .inl tx))) (k26 : M0.2 26 = (.inl (0, 128, .inl te))) (k33 : M0.2 33 = (.inl (0, 30, .inl kd))) (k34 : M0.2 34 = (.inl (0, 30, .inl ch))) (k35 : M0.2 35 = (.inl (0, 30, .inl nx))) (k37 : M0.2 37 = (.inl (0, 30, .inl lo))) (k38 : M0.2 38 = (.inl (0, 30, .inl hi))) (k40 : M0.2 40 = (.inl (2, 2850, .inl cs))) (hA26 : A.length ≤ 26) (hA0 : 0 < A.length) (hO : ∀ (i : Nat) (q : xNode), A[i]? = some q → pOk A lo_ i q) (hN : ∀ (i : Nat) (q : xNode), A[i]? = some q → nS kd ch nx lo hi wt cs i q) {len ls : Nat} {ln : Nat → Nat} (hl40 : len ≤ 40) (hls : ls + len ≤ 5120) (hln : ∀ k, k < len → ln k < 95 ∧ tx (ls + k) = nI (ln k + 32)) {nm l : Nat} {H : List Int32} {fh : Nat → Int32} {rc : Nat → Int64} (hH : hAr fh H) (hHl : H.length < 420) (h_24 : M0.2 24 = (.inr (12, [.ref 25, .ref 26, .ref 27, .ref 28, .ref 29, .ref 30, .int (nI sn), .int (nI vc), .int (nI tk), .ref 31, .int (nI dl), .ref 32, .int (nI pl), .int (nI A.length), .ref 33, .ref 34, .ref 35, .ref 36, .ref 37, .ref 38, .ref 39, .ref 40, .int y22, .int y23, .int y24, .ref 41, .ref 42, .ref 43, .ref 44, .ref 45, .ref 46, .ref 47, .ref 48, .int y33, .ref 49, .ref 50, .int (nI ls), .int (nI len), .int y38, .int y39, .int (nI H.length), .ref 51]))) (k50 : M0.2 50 = .inl (3, 1230, .inr (.inl rc))) (k51 : M0.2 51 = .inl (0, 420, .inl fh)) : XC G Y14_59 none 2 0 0 [.ref 24, .int (nI nm), .int (nI l)] M0 (fun v M' => v = none ∧ ∃ (rc' : Nat → Int64) (fh' : Nat → Int32), rZ M0 M' rc' fh' ∧ M'.2 24 = (.inr (12, [.ref 25, .ref 26, .ref 27, .ref 28, .ref 29, .ref 30, .int (nI sn), .int (nI vc), .int (nI tk), .ref 31, .int (nI dl), .ref 32, .int (nI pl), .int (nI A.length), .ref 33, .ref 34, .ref 35, .ref 36, .ref 37, .ref 38, .ref 39, .ref 40, .int y22, .int y23, .int y24, .ref 41, .ref 42, .ref 43, .ref 44, .ref 45, .ref 46, .ref 47, .ref 48, .int y33, .ref 49, .ref 50, .int (nI ls), .int (nI len), .int y38, .int y39, .int (nI ((match lnO len ln A with | none => H | some q => H ++ [nI nm * 16777216 + nI l * 65536 + nI q.1 * 256 + nI q.2]).length)), .ref 51])) ∧ hAr fh' (match lnO len ln A with | none => H | some q => H ++ [nI nm * 16777216 + nI l * 65536 + nI q.1 * 256 + nI q.2])) := by
  refine xc_of hg (by decide) (Nat.le_of_ble_eq_true rfl) (Or.inr (Or.inr (Or.inr (Or.inr (Or.inl ⟨rfl, rfl, fun v M' h => h.1⟩))))) ?_
  refine xj_iconst (v := 0) d14_59_0 (by decide) ?_
  refine xj_istore_n (i := 3) (L' := [(3, .int 0), (0, .ref 24), (1, .int (nI nm)), (2, .int (nI l))]) d14_59_1 rfl (by decide) rfl ?_
  refine mLiB hg hxn hn2 hn0 k25 k26 k33 k34 k35 k37 k38 k40 hA26 hA0 hO hN hl40 hls hln (by omega) (by omega) (by omega) (fun M5 rc5 hZ5 h245 hrd5 i5 => ?_) A.length 0 M0 rc (by omega) ⟨rfl, fun _ _ _ _ _ => rfl, k50, k51⟩ h_24 (fun c a hc => absurd hc (by omega))
  have hm5 := hZ5.1
  refine xj_iconst (v := 0) d14_59_53 (by decide) ?_
  refine xj_istore_n (i := 3) (L' := [(3, .int 0), (0, .ref 24), (1, .int (nI nm)), (2, .int (nI l))]) d14_59_54 rfl (by decide) rfl ?_
  refine xj_sub (L' := [(3, .int 0), (0, .ref 24), (1, .int (nI nm)), (2, .int (nI l))]) (fun q hq => by simp only [List.mem_cons, List.not_mem_nil, or_false] at hq ⊢; rcases hq with rfl | rfl | rfl | rfl <;> simp) ?_
  exact mLiS hg hxn hn2 hn0 k25 k26 k33 k34 k35 k37 k38 k40 hA26 hA0 hO hN hl40 hls hln hH hHl hZ5 h245 hrd5 (by omega) (by omega) (len + 1) 0 (by omega) (fun a j ha => absurd ha (by omega))

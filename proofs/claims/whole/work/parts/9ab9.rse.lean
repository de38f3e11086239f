/-- what a search may change -/
def rS7 (M0 M : xM) (st lg lt my : Nat → Int32) (rc : Nat → Int64) (fh : Nat → Int32) : Prop := M.1 = M0.1 ∧ (∀ j, j < M0.1 → j ≠ 24 → j < 46 ∨ 51 < j → M.2 j = M0.2 j) ∧ M.2 46 = .inl (0, 32, .inl st) ∧ M.2 47 = .inl (0, 1536, .inl lt) ∧ M.2 48 = .inl (0, 128, .inl lg) ∧ M.2 49 = .inl (2, 30, .inl my) ∧ M.2 50 = .inl (3, 1230, .inr (.inl rc)) ∧ M.2 51 = .inl (0, 420, .inl fh)
theorem rS7_t {M0 M M' : xM} {st lg lt my st' lg' lt' my' : Nat → Int32} {rc rc' : Nat → Int64} {fh fh' : Nat → Int32} (h : rS7 M0 M st lg lt my rc fh) (h2 : rS7 M M' st' lg' lt' my' rc' fh') : rS7 M0 M' st' lg' lt' my' rc' fh' := ⟨h2.1.trans h.1, fun j z a b => (h2.2.1 j (by rw [h.1]; exact z) a b).trans (h.2.1 j z a b), h2.2.2⟩
theorem sNm_len {A : List xNode} {tx te cu : Nat → Int32} (hcu : ∀ k, k < 10 → cu k < 0 ∨ (te (cu k).toNatClampNeg).toNatClampNeg ≤ 40) : ∀ (r k : Nat) (z : Int32 × List Int32), k + r = 10 → z.2.length ≤ 41 * k → (sNm A tx te cu r k z).2.length ≤ 410
  | 0, k, z, hk, hz => by
    show z.2.length ≤ 410
    omega
  | r + 1, k, z, hk, hz => by
    unfold sNm
    split
    · exact sNm_len hcu r (k + 1) z (by omega) (by omega)
    · rename_i h0
      split
      · refine sNm_len hcu r (k + 1) _ (by omega) ?_
        have h1 := sTx_len (A := A) (f := fun j => tx (40 * (cu k).toNatClampNeg + j)) (tl := (te (cu k).toNatClampNeg).toNatClampNeg) (nm := nI k) ((te (cu k).toNatClampNeg).toNatClampNeg + 1) 0 0 0 z.2
        have h2 := (hcu k (by omega)).resolve_left h0
        show (sTx A (fun j => tx (40 * (cu k).toNatClampNeg + j)) (te (cu k).toNatClampNeg).toNatClampNeg (nI k) ((te (cu k).toNatClampNeg).toNatClampNeg + 1) 0 0 0 z.2).length ≤ _
        omega
      · exact sNm_len hcu r (k + 1) z (by omega) (by omega)
set_option maxRecDepth 20000 in
set_option maxHeartbeats 4000000 in
theorem mSeL {G : xG} (hg : xGood G) (hxn : xn = 16) {n : Nat} (hn2 : 52 ≤ n) {dl : Nat} {pl : Nat} {vc : Nat} {tk : Nat} {sn : Nat} {y22 : Int32} {y23 : Int32} {y24 : Int32} {y38 : Int32} {M0 : xM} (hn0 : M0.1 = n) {f li tx te cu kd ch nx lo hi wt cs kn : Nat → Int32} {A : List xNode} {lo_ : Nat → Nat} (k25 : M0.2 25 = (.inl (0, 5120, .inl tx))) (k26 : M0.2 26 = (.inl (0, 128, .inl te))) (k29 : M0.2 29 = (.inl (0, 10, .inl cu))) (k33 : M0.2 33 = (.inl (0, 30, .inl kd))) (k34 : M0.2 34 = (.inl (0, 30, .inl ch))) (k35 : M0.2 35 = (.inl (0, 30, .inl nx))) (k37 : M0.2 37 = (.inl (0, 30, .inl lo))) (k38 : M0.2 38 = (.inl (0, 30, .inl hi))) (k40 : M0.2 40 = (.inl (2, 2850, .inl cs))) (k45 : M0.2 45 = (.inl (2, 32, .inl kn))) (hA26 : A.length ≤ 26) (hA0 : 0 < A.length) (hO : ∀ (i : Nat) (q : xNode), A[i]? = some q → pOk A lo_ i q) (hN : ∀ (i : Nat) (q : xNode), A[i]? = some q → nS kd ch nx lo hi wt cs i q) (hlv : ∀ k, k < 10 → cu k = -1 ∨ ∃ s, s < 128 ∧ cu k = nI s ∧ ¬ f s = -1 ∧ li s = 1) (hchr : ∀ s, s < 128 → ∃ tl, tl ≤ 40 ∧ te s = nI tl ∧ (¬ f s = -1 → ∀ j, j < tl → (tx (40 * s + j) = 10 ∨ (¬ tx (40 * s + j) < 32 ∧ ¬ 126 < tx (40 * s + j))))) {Z : Int32 × List Int32} {d ce se cells slots : Nat} {Post : Option Value → xM → Prop} (hd : 5 ≤ d) (hcc : cells ≤ ce) (hss : slots ≤ se) (K : (∀ (M : xM) (st lg lt my : Nat → Int32) (rc : Nat → Int64) (fh : Nat → Int32) (jn x36 x37 : Int32) (z : Int32 × List Int32), z = Z → rS7 M0 M st lg lt my rc fh → M.2 24 = (.inr (12, [.ref 25, .ref 26, .ref 27, .ref 28, .ref 29, .ref 30, .int (nI sn), .int (nI vc), .int (nI tk), .ref 31, .int (nI dl), .ref 32, .int (nI pl), .int (nI A.length), .ref 33, .ref 34, .ref 35, .ref 36, .ref 37, .ref 38, .ref 39, .ref 40, .int y22, .int y23, .int y24, .ref 41, .ref 42, .ref 43, .ref 44, .ref 45, .ref 46, .ref 47, .ref 48, .int jn, .ref 49, .ref 50, .int x36, .int x37, .int y38, .int z.1, .int (nI z.2.length), .ref 51])) → hAr fh z.2 → ∀ k : Nat, XJ G Y14_61 d ce se cells slots 95 [(1, .int (nI k)), (0, .ref 24)] [] M Post)) : ∀ (r k : Nat) (M : xM) (st lg lt my : Nat → Int32) (rc : Nat → Int64) (fh : Nat → Int32) (jn x36 x37 : Int32) (z : Int32 × List Int32), k + r = 10 → rS7 M0 M st lg lt my rc fh → M.2 24 = (.inr (12, [.ref 25, .ref 26, .ref 27, .ref 28, .ref 29, .ref 30, .int (nI sn), .int (nI vc), .int (nI tk), .ref 31, .int (nI dl), .ref 32, .int (nI pl), .int (nI A.length), .ref 33, .ref 34, .ref 35, .ref 36, .ref 37, .ref 38, .ref 39, .ref 40, .int y22, .int y23, .int y24, .ref 41, .ref 42, .ref 43, .ref 44, .ref 45, .ref 46, .ref 47, .ref 48, .int jn, .ref 49, .ref 50, .int x36, .int x37, .int y38, .int z.1, .int (nI z.2.length), .ref 51])) → (∀ c, c < A.length → rKn st lg lt kn (fun c => (sLr A c).1) c) → hAr fh z.2 → z.2.length ≤ 41 * k → sNm A tx te cu r k z = Z → XJ G Y14_61 d ce se cells slots 38 [(1, .int (nI k)), (0, .ref 24)] [] M Post := by
  intro r
  induction r with
  | zero =>
    intro k M st lg lt my rc fh jn x36 x37 z hk hS7 h_24 hkn hH hzl hZ
    have hm0 := hS7.1
    refine xj_iload_n (i := 1) d14_61_38 rfl rfl ?_
    refine xj_bipush (v := 10) d14_61_39 (by decide) ?_
    refine xj_icmp_ge (tgt := 95) d14_61_41 rfl (fun _ => ?_) (fun h => absurd (nI_le (a := 10) (b := k) (by omega) (by omega)) h)
    exact K M st lg lt my rc fh jn x36 x37 z hZ hS7 h_24 hH k
  | succ r ih =>
    intro k M st lg lt my rc fh jn x36 x37 z hk hS7 h_24 hkn hH hzl hZ
    have hm0 := hS7.1
    rcases hlv k (by omega) with hc0 | ⟨s, hs, hcs, hfs, -⟩
    · have hstep : sNm A tx te cu (r + 1) k z = sNm A tx te cu r (k + 1) z := if_pos (by rw [hc0]; decide)
      rw [hstep] at hZ
      refine xj_iload_n (i := 1) d14_61_38 rfl rfl ?_
      refine xj_bipush (v := 10) d14_61_39 (by decide) ?_
      refine xj_icmp_ge (tgt := 95) d14_61_41 rfl (fun h => absurd h (nI_ge (a := k) (b := 10) (by omega) (by omega))) (fun _ => ?_)
      refine xj_aload_n (i := 0) d14_61_44 rfl rfl ?_
      refine xj_get d14_61_45 f14_23_12 h_24 (by omega) (show 24 < M.1 by omega) rfl ?_
      refine xj_iload_n (i := 1) d14_61_48 rfl rfl ?_
      refine xj_iaload (j := k) d14_61_49 ((hS7.2.1 29 (by omega) (by omega) (by omega)).trans k29) (by omega) (show 29 < M.1 by omega) (vp_in_nI (by omega) (by omega)) (nI_clamp (by omega)) ?_
      rw [show cu k = (-1) from hc0]
      refine xj_if_lt (tgt := 89) d14_61_50 rfl (fun _ => ?_) (fun h => absurd (by decide) h)
      refine xj_iinc (v := nI (k + 1)) (L' := [(1, .int (nI (k + 1))), (0, .ref 24)]) d14_61_89 rfl (xinc _) (by decide) rfl ?_
      refine xj_goto (tgt := 38) d14_61_92 rfl ?_
      refine xj_sub (L' := [(1, .int (nI (k + 1))), (0, .ref 24)]) (fun q hq => by simp only [List.mem_cons, List.not_mem_nil, or_false] at hq ⊢; rcases hq with rfl | rfl <;> simp) ?_
      exact ih (k + 1) M st lg lt my rc fh jn x36 x37 z (by omega) hS7 h_24 hkn hH (by omega) hZ
    · obtain ⟨tl, htl, hte, hch'⟩ := hchr s hs
      have hch9 : ∀ j, j < tl → tx (40 * s + j) = 10 ∨ ∃ u, u < 95 ∧ tx (40 * s + j) = nI (u + 32) := fun j hj => (hch' hfs j hj).imp_right xprt
      have hcl1 : (cu k).toNatClampNeg = s := by rw [hcs]; exact nI_clamp (by omega)
      have hcl2 : (te s).toNatClampNeg = tl := by rw [hte]; exact nI_clamp (by omega)
      have hn9 : ¬ cu k < 0 := by rw [hcs]; exact nI_pos (by omega)
      have hstep0 : sNm A tx te cu (r + 1) k z = @ite _ (vY A (vAl (vHas (fun j => tx (40 * s + j)) tl)) (A.length - 1)) (Classical.propDecidable _) (sNm A tx te cu r (k + 1) (z.1 ||| ((1 : Int32) <<< (nI k &&& 31)), sTx A (fun j => tx (40 * s + j)) tl (nI k) (tl + 1) 0 0 0 z.2)) (sNm A tx te cu r (k + 1) z) := by
        rw [show sNm A tx te cu (r + 1) k z = _ from if_neg hn9, hcl1, hcl2]
      by_cases hv : vY A (vAl (vHas (fun j => tx (40 * s + j)) tl)) (A.length - 1)
      · have hstep := hstep0.trans (if_pos hv)
        rw [hstep] at hZ
        refine xj_iload_n (i := 1) d14_61_38 rfl rfl ?_
        refine xj_bipush (v := 10) d14_61_39 (by decide) ?_
        refine xj_icmp_ge (tgt := 95) d14_61_41 rfl (fun h => absurd h (nI_ge (a := k) (b := 10) (by omega) (by omega))) (fun _ => ?_)
        refine xj_aload_n (i := 0) d14_61_44 rfl rfl ?_
        refine xj_get d14_61_45 f14_23_12 h_24 (by omega) (show 24 < M.1 by omega) rfl ?_
        refine xj_iload_n (i := 1) d14_61_48 rfl rfl ?_
        refine xj_iaload (j := k) d14_61_49 ((hS7.2.1 29 (by omega) (by omega) (by omega)).trans k29) (by omega) (show 29 < M.1 by omega) (vp_in_nI (by omega) (by omega)) (nI_clamp (by omega)) ?_
        rw [show cu k = nI s from hcs]
        refine xj_if_lt (tgt := 89) d14_61_50 rfl (fun h => absurd h (nI_pos (by omega))) (fun _ => ?_)
        refine xj_aload_n (i := 0) d14_61_53 rfl rfl ?_
        refine xj_aload_n (i := 0) d14_61_54 rfl rfl ?_
        refine xj_get d14_61_55 f14_23_12 h_24 (by omega) (show 24 < M.1 by omega) rfl ?_
        refine xj_iload_n (i := 1) d14_61_58 rfl rfl ?_
        refine xj_iaload (j := k) d14_61_59 ((hS7.2.1 29 (by omega) (by omega) (by omega)).trans k29) (by omega) (show 29 < M.1 by omega) (vp_in_nI (by omega) (by omega)) (nI_clamp (by omega)) ?_
        rw [show cu k = nI s from hcs]
        refine xj_callV (rest := []) (As := [.int (nI s)]) (b := 24) (mPf hg hxn hn2 (show M.1 = n by omega) ((hS7.2.1 25 (by omega) (by omega) (by omega)).trans k25) ((hS7.2.1 26 (by omega) (by omega) (by omega)).trans k26) ((hS7.2.1 33 (by omega) (by omega) (by omega)).trans k33) ((hS7.2.1 34 (by omega) (by omega) (by omega)).trans k34) ((hS7.2.1 35 (by omega) (by omega) (by omega)).trans k35) ((hS7.2.1 37 (by omega) (by omega) (by omega)).trans k37) ((hS7.2.1 38 (by omega) (by omega) (by omega)).trans k38) ((hS7.2.1 40 (by omega) (by omega) (by omega)).trans k40) ((hS7.2.1 45 (by omega) (by omega) (by omega)).trans k45) hA26 hO hN hs hte htl hA0 h_24 hS7.2.2.1 hS7.2.2.2.1 hS7.2.2.2.2.1 hS7.2.2.2.2.2.1 hkn) d14_61_60 wd14_56 h_24 (by omega) (show 24 < M.1 by omega) rfl s14_56 w1350 (Or.inl w1348) rfl rfl (Nat.le_of_ble_eq_true rfl) (by omega) (by omega) (by omega) ?_
        rintro v M5 ⟨rfl, st5, lg5, lt5, my5, jn5, hX5, h245, hkn5⟩
        have hm5 := hX5.1
        rw [xB_t hv]
        have hS75 : rS7 M M5 st5 lg5 lt5 my5 rc fh := ⟨hX5.1, fun j hj a b => hX5.2.1 j hj a (by omega) (by omega) (by omega) (by omega), hX5.2.2.1, hX5.2.2.2.1, hX5.2.2.2.2.1, hX5.2.2.2.2.2, (hX5.2.1 50 (by omega) (by omega) (by omega) (by omega) (by omega) (by omega)).trans hS7.2.2.2.2.2.2.1, (hX5.2.1 51 (by omega) (by omega) (by omega) (by omega) (by omega) (by omega)).trans hS7.2.2.2.2.2.2.2⟩
        have hS76 := rS7_t hS7 hS75
        refine xj_if_eq (tgt := 89) d14_61_63 rfl (fun h => absurd h (by decide)) (fun _ => ?_)
        refine xj_aload_n (i := 0) d14_61_66 rfl rfl ?_
        refine xj_aload_n (i := 0) d14_61_67 rfl rfl ?_
        refine xj_get d14_61_68 f14_286_12 h245 (by omega) (show 24 < M5.1 by omega) rfl ?_
        refine xj_iconst (v := 1) d14_61_71 (by decide) ?_
        refine xj_iload_n (i := 1) d14_61_72 rfl rfl ?_
        refine xj_ishl (v := 1 <<< ((nI k) &&& 31)) d14_61_73 rfl ?_
        refine xj_ior (v := z.1 ||| (1 <<< ((nI k) &&& 31))) d14_61_74 rfl ?_
        refine xj_put (a := 24) (fs' := [.ref 25, .ref 26, .ref 27, .ref 28, .ref 29, .ref 30, .int (nI sn), .int (nI vc), .int (nI tk), .ref 31, .int (nI dl), .ref 32, .int (nI pl), .int (nI A.length), .ref 33, .ref 34, .ref 35, .ref 36, .ref 37, .ref 38, .ref 39, .ref 40, .int y22, .int y23, .int y24, .ref 41, .ref 42, .ref 43, .ref 44, .ref 45, .ref 46, .ref 47, .ref 48, .int jn5, .ref 49, .ref 50, .int x36, .int x37, .int y38, .int (z.1 ||| (1 <<< ((nI k) &&& 31))), .int (nI z.2.length), .ref 51]) d14_61_75 f14_286_12 h245 (by omega) (show 24 < M5.1 by omega) (Nat.le_of_ble_eq_true rfl) rfl rfl rfl ?_
        refine xj_abs_set (fun M1 hs1 ha1 ho1 => ?_)
        refine xj_aload_n (i := 0) d14_61_78 rfl rfl ?_
        refine xj_iload_n (i := 1) d14_61_79 rfl rfl ?_
        refine xj_aload_n (i := 0) d14_61_80 rfl rfl ?_
        refine xj_get d14_61_81 f14_23_12 ha1 (by omega) (show 24 < M1.1 by omega) rfl ?_
        refine xj_iload_n (i := 1) d14_61_84 rfl rfl ?_
        refine xj_iaload (j := k) d14_61_85 ((ho1 29 (by omega)).trans ((hS76.2.1 29 (by omega) (by omega) (by omega)).trans k29)) (by omega) (show 29 < M1.1 by omega) (vp_in_nI (by omega) (by omega)) (nI_clamp (by omega)) ?_
        rw [show cu k = nI s from hcs]
        have hm7 : M1.1 = n := by omega
        have hS77 : rS7 M5 M1 st5 lg5 lt5 my5 rc fh := ⟨(show M1.1 = M5.1 by omega), (fun j hj a b => (ho1 j (by omega))), ((ho1 46 (by omega)).trans hS76.2.2.1), ((ho1 47 (by omega)).trans hS76.2.2.2.1), ((ho1 48 (by omega)).trans hS76.2.2.2.2.1), ((ho1 49 (by omega)).trans hS76.2.2.2.2.2.1), ((ho1 50 (by omega)).trans hS76.2.2.2.2.2.2.1), ((ho1 51 (by omega)).trans hS76.2.2.2.2.2.2.2)⟩
        refine xj_callV (rest := []) (As := [.int (nI k), .int (nI s)]) (b := 24) (mLines hg hxn hn2 hm7 ((ho1 25 (by omega)).trans ((hS76.2.1 25 (by omega) (by omega) (by omega)).trans k25)) ((ho1 26 (by omega)).trans ((hS76.2.1 26 (by omega) (by omega) (by omega)).trans k26)) ((ho1 33 (by omega)).trans ((hS76.2.1 33 (by omega) (by omega) (by omega)).trans k33)) ((ho1 34 (by omega)).trans ((hS76.2.1 34 (by omega) (by omega) (by omega)).trans k34)) ((ho1 35 (by omega)).trans ((hS76.2.1 35 (by omega) (by omega) (by omega)).trans k35)) ((ho1 37 (by omega)).trans ((hS76.2.1 37 (by omega) (by omega) (by omega)).trans k37)) ((ho1 38 (by omega)).trans ((hS76.2.1 38 (by omega) (by omega) (by omega)).trans k38)) ((ho1 40 (by omega)).trans ((hS76.2.1 40 (by omega) (by omega) (by omega)).trans k40)) hA26 hA0 hO hN hs hte htl (nm := k) (by omega) hch9 hH hzl ha1 ((ho1 50 (by omega)).trans hS76.2.2.2.2.2.2.1) ((ho1 51 (by omega)).trans hS76.2.2.2.2.2.2.2)) d14_61_86 wd14_60 ha1 (by omega) (show 24 < M1.1 by omega) rfl s14_60 w1354 (Or.inl w1352) rfl rfl (Nat.le_of_ble_eq_true rfl) (by omega) (by omega) (by omega) ?_
        rintro v M6 ⟨rfl, rc6, fh6, x6, z6, hZ6, e24, hH6⟩
        have hm6 := hZ6.1
        have hS78 : rS7 M1 M6 st5 lg5 lt5 my5 rc6 fh6 := ⟨hZ6.1, fun j hj a b => hZ6.2.1 j hj a (by omega) (by omega), (hZ6.2.1 46 (by omega) (by omega) (by omega) (by omega)).trans ((ho1 46 (by omega)).trans hS76.2.2.1), (hZ6.2.1 47 (by omega) (by omega) (by omega) (by omega)).trans ((ho1 47 (by omega)).trans hS76.2.2.2.1), (hZ6.2.1 48 (by omega) (by omega) (by omega) (by omega)).trans ((ho1 48 (by omega)).trans hS76.2.2.2.2.1), (hZ6.2.1 49 (by omega) (by omega) (by omega) (by omega)).trans ((ho1 49 (by omega)).trans hS76.2.2.2.2.2.1), hZ6.2.2.1, hZ6.2.2.2⟩
        refine xj_iinc (v := nI (k + 1)) (L' := [(1, .int (nI (k + 1))), (0, .ref 24)]) d14_61_89 rfl (xinc _) (by decide) rfl ?_
        refine xj_goto (tgt := 38) d14_61_92 rfl ?_
        refine xj_sub (L' := [(1, .int (nI (k + 1))), (0, .ref 24)]) (fun q hq => by simp only [List.mem_cons, List.not_mem_nil, or_false] at hq ⊢; rcases hq with rfl | rfl <;> simp) ?_
        refine ih (k + 1) M6 st5 lg5 lt5 my5 rc6 fh6 jn5 z6 x6 (z.1 ||| ((1 : Int32) <<< (nI k &&& 31)), sTx A (fun j => tx (40 * s + j)) tl (nI k) (tl + 1) 0 0 0 z.2) (by omega) (rS7_t hS76 (rS7_t hS77 hS78)) e24 hkn5 hH6 ?_ hZ
        have h9 := sTx_len (A := A) (f := (fun j => tx (40 * s + j))) (tl := tl) (nm := nI k) (tl + 1) 0 0 0 z.2
        show (sTx A (fun j => tx (40 * s + j)) tl (nI k) (tl + 1) 0 0 0 z.2).length ≤ _
        omega
      · have hstep := hstep0.trans (if_neg hv)
        rw [hstep] at hZ
        refine xj_iload_n (i := 1) d14_61_38 rfl rfl ?_
        refine xj_bipush (v := 10) d14_61_39 (by decide) ?_
        refine xj_icmp_ge (tgt := 95) d14_61_41 rfl (fun h => absurd h (nI_ge (a := k) (b := 10) (by omega) (by omega))) (fun _ => ?_)
        refine xj_aload_n (i := 0) d14_61_44 rfl rfl ?_
        refine xj_get d14_61_45 f14_23_12 h_24 (by omega) (show 24 < M.1 by omega) rfl ?_
        refine xj_iload_n (i := 1) d14_61_48 rfl rfl ?_
        refine xj_iaload (j := k) d14_61_49 ((hS7.2.1 29 (by omega) (by omega) (by omega)).trans k29) (by omega) (show 29 < M.1 by omega) (vp_in_nI (by omega) (by omega)) (nI_clamp (by omega)) ?_
        rw [show cu k = nI s from hcs]
        refine xj_if_lt (tgt := 89) d14_61_50 rfl (fun h => absurd h (nI_pos (by omega))) (fun _ => ?_)
        refine xj_aload_n (i := 0) d14_61_53 rfl rfl ?_
        refine xj_aload_n (i := 0) d14_61_54 rfl rfl ?_
        refine xj_get d14_61_55 f14_23_12 h_24 (by omega) (show 24 < M.1 by omega) rfl ?_
        refine xj_iload_n (i := 1) d14_61_58 rfl rfl ?_
        refine xj_iaload (j := k) d14_61_59 ((hS7.2.1 29 (by omega) (by omega) (by omega)).trans k29) (by omega) (show 29 < M.1 by omega) (vp_in_nI (by omega) (by omega)) (nI_clamp (by omega)) ?_
        rw [show cu k = nI s from hcs]
        refine xj_callV (rest := []) (As := [.int (nI s)]) (b := 24) (mPf hg hxn hn2 (show M.1 = n by omega) ((hS7.2.1 25 (by omega) (by omega) (by omega)).trans k25) ((hS7.2.1 26 (by omega) (by omega) (by omega)).trans k26) ((hS7.2.1 33 (by omega) (by omega) (by omega)).trans k33) ((hS7.2.1 34 (by omega) (by omega) (by omega)).trans k34) ((hS7.2.1 35 (by omega) (by omega) (by omega)).trans k35) ((hS7.2.1 37 (by omega) (by omega) (by omega)).trans k37) ((hS7.2.1 38 (by omega) (by omega) (by omega)).trans k38) ((hS7.2.1 40 (by omega) (by omega) (by omega)).trans k40) ((hS7.2.1 45 (by omega) (by omega) (by omega)).trans k45) hA26 hO hN hs hte htl hA0 h_24 hS7.2.2.1 hS7.2.2.2.1 hS7.2.2.2.2.1 hS7.2.2.2.2.2.1 hkn) d14_61_60 wd14_56 h_24 (by omega) (show 24 < M.1 by omega) rfl s14_56 w1350 (Or.inl w1348) rfl rfl (Nat.le_of_ble_eq_true rfl) (by omega) (by omega) (by omega) ?_
        rintro v M5 ⟨rfl, st5, lg5, lt5, my5, jn5, hX5, h245, hkn5⟩
        have hm5 := hX5.1
        rw [xB_f hv]
        have hS75 : rS7 M M5 st5 lg5 lt5 my5 rc fh := ⟨hX5.1, fun j hj a b => hX5.2.1 j hj a (by omega) (by omega) (by omega) (by omega), hX5.2.2.1, hX5.2.2.2.1, hX5.2.2.2.2.1, hX5.2.2.2.2.2, (hX5.2.1 50 (by omega) (by omega) (by omega) (by omega) (by omega) (by omega)).trans hS7.2.2.2.2.2.2.1, (hX5.2.1 51 (by omega) (by omega) (by omega) (by omega) (by omega) (by omega)).trans hS7.2.2.2.2.2.2.2⟩
        have hS76 := rS7_t hS7 hS75
        refine xj_if_eq (tgt := 89) d14_61_63 rfl (fun _ => ?_) (fun h => absurd (by decide) h)
        refine xj_iinc (v := nI (k + 1)) (L' := [(1, .int (nI (k + 1))), (0, .ref 24)]) d14_61_89 rfl (xinc _) (by decide) rfl ?_
        refine xj_goto (tgt := 38) d14_61_92 rfl ?_
        refine xj_sub (L' := [(1, .int (nI (k + 1))), (0, .ref 24)]) (fun q hq => by simp only [List.mem_cons, List.not_mem_nil, or_false] at hq ⊢; rcases hq with rfl | rfl <;> simp) ?_
        exact ih (k + 1) M5 st5 lg5 lt5 my5 rc fh jn5 x36 x37 z (by omega) hS76 h245 hkn5 hH (by omega) hZ
set_option maxRecDepth 20000 in
set_option maxHeartbeats 4000000 in
theorem rSea {G : xG} (hg : xGood G) (hxn : xn = 16) {M : xM} {f li tx te cu le fd fp fh : Nat → Int32} {sn vc tk dl pl hc : Nat} {sr pn : Int32} (hIm : xIm M f li tx te cu le fd fp fh sn vc tk dl pl hc sr pn) (h52 : 52 ≤ M.1) (hpl : pl ≤ 24) (hPR : ∀ j, j < pl → ∃ u1, u1 < 95 ∧ fp j = nI (u1 + 32)) (hOk : (pRead fp pl).2.1 = 0 → ∃ lo_ : Nat → Nat, (∀ (i : Nat) (q : xNode), (pRead fp pl).2.2.1[i]? = some q → pOk (pRead fp pl).2.2.1 lo_ i q) ∧ (pRead fp pl).2.2.1.length ≤ 26) (hlv : ∀ k, k < 10 → cu k = -1 ∨ ∃ s, s < 128 ∧ cu k = nI s ∧ ¬ f s = -1 ∧ li s = 1) (hchr : ∀ s, s < 128 → ∃ tl, tl ≤ 40 ∧ te s = nI tl ∧ (¬ f s = -1 → ∀ j, j < tl → (tx (40 * s + j) = 10 ∨ (¬ tx (40 * s + j) < 32 ∧ ¬ 126 < tx (40 * s + j))))) : XC G Y14_61 (some .int) 30 0 0 [.ref 24] M (fun v M' => v = some (.int (pSea fp pl tx te cu)) ∧ ∃ (fh' : Nat → Int32) (hc' : Nat) (sr' pn' : Int32), xIm M' f li tx te cu le fd fp fh' sn vc tk dl pl hc' sr' pn' ∧ M'.1 = M.1 ∧ (∀ j, j < M.1 → j < 24 ∨ 52 ≤ j → M'.2 j = M.2 j) ∧ ((¬ (pRead fp pl).2.1 = 0 ∧ hc' = hc ∧ pn' = pn ∧ sr' = sr ∧ fh' = fh) ∨ ((pRead fp pl).2.1 = 0 ∧ hc' = (pZz fp pl tx te cu).2.length ∧ pn' = (pZz fp pl tx te cu).1 ∧ sr' = 1 ∧ hAr fh' (pZz fp pl tx te cu).2))) := by
  obtain ⟨⟨y13, y22, y23, y24, y33, y36, y37, k24⟩, b25, b26, b27, b28, b29, b30, b31, b32, b51, g, z, w33, w34, w35, w36, w37, w38, w39, w40, w41, w42, w43, w44, w45, w46, w47, w48, w49, kz⟩ := id hIm
  have hf : mRf dl pl vc tk hc sn y33 y36 y37 sr pn fp M M y24 := ⟨⟨rfl, fun _ _ _ _ => rfl⟩, b32, y13, y22, y23, g 33, g 34, g 35, g 36, g 37, g 38, g 39, g 40, g 41, g 42, g 43, g 44, k24, w33, w34, w35, w36, w37, w38, w39, w40, w41, w42, w43, w44⟩
  obtain ⟨x9, hx9⟩ : ∃ x9, (pRead fp pl).2.1 = x9 := ⟨_, rfl⟩
  obtain ⟨n, hn⟩ : ∃ n, M.1 = n := ⟨_, rfl⟩
  have hn2 : 52 ≤ n := by omega
  refine xc_of hg (by decide) (Nat.le_of_ble_eq_true rfl) (Or.inl ⟨rfl, rfl, fun v M' h => ⟨_, h.1⟩⟩) ?_
  refine xj_aload_n (i := 0) d14_61_0 rfl rfl ?_
  refine xj_callV (rest := []) (As := []) (b := 24) (rRead hg hxn h52 hpl hPR hf) d14_61_1 wd14_40 k24 (by omega) (show 24 < M.1 by omega) rfl s14_40 w1204 (Or.inl w1202) rfl rfl (Nat.le_of_ble_eq_true rfl) (by omega) (by omega) (by omega) ?_
  rintro v M9 ⟨rfl, hZ9⟩
  have s9 : M9.1 = M.1 := hZ9.1.1
  have hI9 := mZ_im hIm h52 hZ9
  obtain ⟨-, -, y139, y229, y239, kd1, ch1, nx1, be1, lo1, hi1, wt1, cs1, fP1, lP1, fB1, lB1, l24, l33, l34, l35, l36, l37, l38, l39, l40, l41, l42, l43, l44, hN9⟩ := id hZ9
  rw [hx9] at l24
  refine xj_aload_n (i := 0) d14_61_4 rfl rfl ?_
  refine xj_get d14_61_5 f14_156_12 l24 (by omega) (show 24 < M9.1 by omega) rfl ?_
  refine xj_if_eq (tgt := 17) d14_61_8 rfl (fun hb => ?_) (fun hb => ?_)
  · have hz : (pRead fp pl).2.1 = 0 := hx9.trans hb
    subst hb
    obtain ⟨⟨hn0, hn27⟩, hy, hnd⟩ := hN9 hz
    subst hy
    obtain ⟨lo_, hO, hA26⟩ := hOk hz
    obtain ⟨A, hA⟩ : ∃ A, (pRead fp pl).2.2.1 = A := ⟨_, rfl⟩
    rw [hA] at hn0 hnd hO hA26 l24
    refine xj_aload_n (i := 0) d14_61_17 rfl rfl ?_
    refine xj_callV (rest := []) (As := []) (b := 24) (mFind hg hxn hn2 (show M9.1 = n by omega) ((hZ9.1.2 25 (by omega) (by omega) (by omega)).trans b25) ((hZ9.1.2 26 (by omega) (by omega) (by omega)).trans b26) l33 l34 l35 l37 l38 l40 ((hZ9.1.2 49 (by omega) (by omega) (by omega)).trans w49) hA26 hO (fun i q hq => (hnd i q hq).1) l24 ((hZ9.1.2 45 (by omega) (by omega) (by omega)).trans w45) ((hZ9.1.2 46 (by omega) (by omega) (by omega)).trans w46) ((hZ9.1.2 47 (by omega) (by omega) (by omega)).trans w47) ((hZ9.1.2 48 (by omega) (by omega) (by omega)).trans w48)) d14_61_18 wd14_54 l24 (by omega) (show 24 < M9.1 by omega) rfl s14_54 w1298 (Or.inl w1296) rfl rfl (Nat.le_of_ble_eq_true rfl) (by omega) (by omega) (by omega) ?_
    rintro v M8 ⟨rfl, kn8, st8, lg8, lt8, jn8, hV8, h248, hK8⟩
    have s8 := hV8.1
    have hI8 := rV_im hI9 (by omega) hV8 h248
    refine xj_aload_n (i := 0) d14_61_21 rfl rfl ?_
    refine xj_iconst (v := 1) d14_61_22 (by decide) ?_
    refine xj_put (a := 24) (fs' := [.ref 25, .ref 26, .ref 27, .ref 28, .ref 29, .ref 30, .int (nI sn), .int (nI vc), .int (nI tk), .ref 31, .int (nI dl), .ref 32, .int (nI pl), .int (nI A.length), .ref 33, .ref 34, .ref 35, .ref 36, .ref 37, .ref 38, .ref 39, .ref 40, .int y229, .int y239, .int 0, .ref 41, .ref 42, .ref 43, .ref 44, .ref 45, .ref 46, .ref 47, .ref 48, .int jn8, .ref 49, .ref 50, .int y36, .int y37, .int 1, .int pn, .int (nI hc), .ref 51]) d14_61_23 f14_283_12 h248 (by omega) (show 24 < M8.1 by omega) (Nat.le_of_ble_eq_true rfl) rfl rfl rfl ?_
    refine xj_abs_set (fun M1 hs1 ha1 ho1 => ?_)
    refine xj_aload_n (i := 0) d14_61_26 rfl rfl ?_
    refine xj_iconst (v := 0) d14_61_27 (by decide) ?_
    refine xj_put (a := 24) (fs' := [.ref 25, .ref 26, .ref 27, .ref 28, .ref 29, .ref 30, .int (nI sn), .int (nI vc), .int (nI tk), .ref 31, .int (nI dl), .ref 32, .int (nI pl), .int (nI A.length), .ref 33, .ref 34, .ref 35, .ref 36, .ref 37, .ref 38, .ref 39, .ref 40, .int y229, .int y239, .int 0, .ref 41, .ref 42, .ref 43, .ref 44, .ref 45, .ref 46, .ref 47, .ref 48, .int jn8, .ref 49, .ref 50, .int y36, .int y37, .int 1, .int 0, .int (nI hc), .ref 51]) d14_61_28 f14_286_12 ha1 (by omega) (show 24 < M1.1 by omega) (Nat.le_of_ble_eq_true rfl) rfl rfl rfl ?_
    refine xj_abs_set (fun M2 hs2 ha2 ho2 => ?_)
    refine xj_aload_n (i := 0) d14_61_31 rfl rfl ?_
    refine xj_iconst (v := 0) d14_61_32 (by decide) ?_
    refine xj_put (a := 24) (fs' := [.ref 25, .ref 26, .ref 27, .ref 28, .ref 29, .ref 30, .int (nI sn), .int (nI vc), .int (nI tk), .ref 31, .int (nI dl), .ref 32, .int (nI pl), .int (nI A.length), .ref 33, .ref 34, .ref 35, .ref 36, .ref 37, .ref 38, .ref 39, .ref 40, .int y229, .int y239, .int 0, .ref 41, .ref 42, .ref 43, .ref 44, .ref 45, .ref 46, .ref 47, .ref 48, .int jn8, .ref 49, .ref 50, .int y36, .int y37, .int 1, .int 0, .int 0, .ref 51]) d14_61_33 f14_275_12 ha2 (by omega) (show 24 < M2.1 by omega) (Nat.le_of_ble_eq_true rfl) rfl rfl rfl ?_
    refine xj_abs_set (fun M3 hs3 ha3 ho3 => ?_)
    refine xj_iconst (v := 0) d14_61_36 (by decide) ?_
    refine xj_istore_n (i := 1) (L' := [(1, .int 0), (0, .ref 24)]) d14_61_37 rfl (by decide) rfl ?_
    have hm2 : M3.1 = n := by omega
    have hlv9 := hlv
    refine mSeL hg hxn hn2 hm2 ((ho3 25 (by omega)).trans ((ho2 25 (by omega)).trans ((ho1 25 (by omega)).trans ((hV8.2.1 25 (by omega) (by omega) (by omega) (by omega) (by omega) (by omega)).trans ((hZ9.1.2 25 (by omega) (by omega) (by omega)).trans b25))))) ((ho3 26 (by omega)).trans ((ho2 26 (by omega)).trans ((ho1 26 (by omega)).trans ((hV8.2.1 26 (by omega) (by omega) (by omega) (by omega) (by omega) (by omega)).trans ((hZ9.1.2 26 (by omega) (by omega) (by omega)).trans b26))))) ((ho3 29 (by omega)).trans ((ho2 29 (by omega)).trans ((ho1 29 (by omega)).trans ((hV8.2.1 29 (by omega) (by omega) (by omega) (by omega) (by omega) (by omega)).trans ((hZ9.1.2 29 (by omega) (by omega) (by omega)).trans b29))))) ((ho3 33 (by omega)).trans ((ho2 33 (by omega)).trans ((ho1 33 (by omega)).trans ((hV8.2.1 33 (by omega) (by omega) (by omega) (by omega) (by omega) (by omega)).trans l33)))) ((ho3 34 (by omega)).trans ((ho2 34 (by omega)).trans ((ho1 34 (by omega)).trans ((hV8.2.1 34 (by omega) (by omega) (by omega) (by omega) (by omega) (by omega)).trans l34)))) ((ho3 35 (by omega)).trans ((ho2 35 (by omega)).trans ((ho1 35 (by omega)).trans ((hV8.2.1 35 (by omega) (by omega) (by omega) (by omega) (by omega) (by omega)).trans l35)))) ((ho3 37 (by omega)).trans ((ho2 37 (by omega)).trans ((ho1 37 (by omega)).trans ((hV8.2.1 37 (by omega) (by omega) (by omega) (by omega) (by omega) (by omega)).trans l37)))) ((ho3 38 (by omega)).trans ((ho2 38 (by omega)).trans ((ho1 38 (by omega)).trans ((hV8.2.1 38 (by omega) (by omega) (by omega) (by omega) (by omega) (by omega)).trans l38)))) ((ho3 40 (by omega)).trans ((ho2 40 (by omega)).trans ((ho1 40 (by omega)).trans ((hV8.2.1 40 (by omega) (by omega) (by omega) (by omega) (by omega) (by omega)).trans l40)))) ((ho3 45 (by omega)).trans ((ho2 45 (by omega)).trans ((ho1 45 (by omega)).trans hV8.2.2.1))) hA26 hn0 hO (fun i q hq => (hnd i q hq).1) hlv hchr (Z := pZz fp pl tx te cu) (by omega) (by omega) (by omega) (fun M7 st7 lg7 lt7 my7 rc7 fh7 jn7 x367 x377 z7 hz7 hS77 h247 hH7 k7 => ?_) 10 0 M3 _ _ _ _ _ _ _ _ _ (0, []) (by omega) ⟨rfl, fun _ _ _ _ => rfl, ((ho3 46 (by omega)).trans ((ho2 46 (by omega)).trans ((ho1 46 (by omega)).trans hV8.2.2.2.1))), ((ho3 47 (by omega)).trans ((ho2 47 (by omega)).trans ((ho1 47 (by omega)).trans hV8.2.2.2.2.1))), ((ho3 48 (by omega)).trans ((ho2 48 (by omega)).trans ((ho1 48 (by omega)).trans hV8.2.2.2.2.2))), ((ho3 49 (by omega)).trans ((ho2 49 (by omega)).trans ((ho1 49 (by omega)).trans ((hV8.2.1 49 (by omega) (by omega) (by omega) (by omega) (by omega) (by omega)).trans ((hZ9.1.2 49 (by omega) (by omega) (by omega)).trans w49))))), ((ho3 50 (by omega)).trans ((ho2 50 (by omega)).trans ((ho1 50 (by omega)).trans ((hV8.2.1 50 (by omega) (by omega) (by omega) (by omega) (by omega) (by omega)).trans ((hZ9.1.2 50 (by omega) (by omega) (by omega)).trans kz))))), ((ho3 51 (by omega)).trans ((ho2 51 (by omega)).trans ((ho1 51 (by omega)).trans ((hV8.2.1 51 (by omega) (by omega) (by omega) (by omega) (by omega) (by omega)).trans ((hZ9.1.2 51 (by omega) (by omega) (by omega)).trans b51)))))⟩ ha3 hK8 (fun j c hj => absurd hj (by simp)) (by simp) (by rw [← hA]; rfl)
    have hm7 := hS77.1
    rw [hz7] at h247 hH7
    refine xj_aload_n (i := 0) d14_61_95 rfl rfl ?_
    refine xj_get d14_61_96 f14_275_12 h247 (by omega) (show 24 < M7.1 by omega) rfl ?_
    have hps : pSea fp pl tx te cu = nI (pZz fp pl tx te cu).2.length := if_pos hz
    have hfr2 : ∀ j, j ≠ 24 → M3.2 j = M8.2 j := fun j hj => ((ho3 j (by omega)).trans ((ho2 j (by omega)).trans (ho1 j (by omega))))
    have hfr : ∀ j, j < M.1 → j ≠ 24 → j < 33 ∨ 51 < j → M7.2 j = M.2 j := fun j h1 h2 h3 => (hS77.2.1 j (by omega) h2 (by omega)).trans ((hfr2 j h2).trans ((hV8.2.1 j (by omega) h2 (by omega) (by omega) (by omega) (by omega)).trans (hZ9.1.2 j h1 h2 (by omega))))
    have hfr8 : ∀ j, j < M.1 → j ≠ 24 → j < 45 → M7.2 j = M9.2 j := fun j h1 h2 h3 => (hS77.2.1 j (by omega) h2 (by omega)).trans ((hfr2 j h2).trans (hV8.2.1 j (by omega) h2 (by omega) (by omega) (by omega) (by omega)))
    have hkn7 : M7.2 45 = .inl (2, 32, .inl kn8) := (hS77.2.1 45 (by omega) (by omega) (by omega)).trans ((hfr2 45 (by omega)).trans hV8.2.2.1)
    refine xj_ret d14_61_99 (by omega) (by omega) rfl ⟨by rw [hps], fh7, _, 1, _, ⟨⟨_, _, _, _, _, _, _, h247⟩, (hfr 25 (by omega) (by omega) (by omega)).trans b25, (hfr 26 (by omega) (by omega) (by omega)).trans b26, (hfr 27 (by omega) (by omega) (by omega)).trans b27, (hfr 28 (by omega) (by omega) (by omega)).trans b28, (hfr 29 (by omega) (by omega) (by omega)).trans b29, (hfr 30 (by omega) (by omega) (by omega)).trans b30, (hfr 31 (by omega) (by omega) (by omega)).trans b31, (hfr 32 (by omega) (by omega) (by omega)).trans b32, hS77.2.2.2.2.2.2.2, ?_⟩, (by omega), fun j a b => hfr j a (by omega) (by omega), Or.inr ⟨hz, rfl, rfl, rfl, hH7⟩⟩
    exact ⟨fun c => match c with
      | 33 => kd1
      | 34 => ch1
      | 35 => nx1
      | 36 => be1
      | 37 => lo1
      | 38 => hi1
      | 39 => wt1
      | 40 => cs1
      | 41 => fP1
      | 42 => lP1
      | 43 => fB1
      | 44 => lB1
      | 45 => kn8
      | 46 => st7
      | 47 => lt7
      | 48 => lg7
      | 49 => my7
      | c => g c, rc7, (hfr8 33 (by omega) (by omega) (by omega)).trans l33, (hfr8 34 (by omega) (by omega) (by omega)).trans l34, (hfr8 35 (by omega) (by omega) (by omega)).trans l35, (hfr8 36 (by omega) (by omega) (by omega)).trans l36, (hfr8 37 (by omega) (by omega) (by omega)).trans l37, (hfr8 38 (by omega) (by omega) (by omega)).trans l38, (hfr8 39 (by omega) (by omega) (by omega)).trans l39, (hfr8 40 (by omega) (by omega) (by omega)).trans l40, (hfr8 41 (by omega) (by omega) (by omega)).trans l41, (hfr8 42 (by omega) (by omega) (by omega)).trans l42, (hfr8 43 (by omega) (by omega) (by omega)).trans l43, (hfr8 44 (by omega) (by omega) (by omega)).trans l44, hkn7, hS77.2.2.1, hS77.2.2.2.1, hS77.2.2.2.2.1, hS77.2.2.2.2.2.1, hS77.2.2.2.2.2.2.1⟩
  · refine xj_aload_n (i := 0) d14_61_11 rfl rfl ?_
    refine xj_get d14_61_12 f14_156_12 l24 (by omega) (show 24 < M9.1 by omega) rfl ?_
    refine xj_ineg (v := -x9) d14_61_15 rfl ?_
    exact xj_ret d14_61_16 (by omega) (by omega) rfl ⟨by rw [show pSea fp pl tx te cu = -x9 by rw [← hx9]; exact if_neg (fun q => hb (hx9.symm.trans q))], fh, hc, sr, pn, hI9, hZ9.1.1, fun j a b => hZ9.1.2 j a (by omega) (by omega), Or.inl ⟨fun q => hb (hx9.symm.trans q), rfl, rfl, rfl, rfl⟩⟩

theorem rOutF {G : xG} (hxn : xn = 16) {dl pl vc tk hc sn : Nat} {y33 y36 y37 y38 y39 : Int32} {fp : Nat → Int32} {M0 M : xM} (h52 : 52 ≤ M0.1) {A : List xNode} {x nf f3 : Int32} {d ce se cells slots : Nat} {Post : Option Value → xM → Prop} (hcc : cells ≤ ce) (hss : slots ≤ se) (hf : mRf dl pl vc tk hc sn y33 y36 y37 y38 y39 fp M0 M x) (hx0 : ¬ x = 0) (K : Post none M) : XJ G Y14_36 d ce se cells slots 88 [(3, .int f3), (2, .int (nI A.length)), (1, .int nf), (0, .ref 24)] [] M Post := by
  obtain ⟨⟨i1, -⟩, k32, y13, y22, y23, -, -, -, -, -, -, -, -, -, -, -, -, k24, -⟩ := hf
  refine xj_aload_n (i := 0) d14_36_88 rfl rfl ?_
  refine xj_get d14_36_89 f14_156_12 k24 (by omega) (show 24 < M.1 by omega) rfl ?_
  refine xj_if_ne (tgt := 111) d14_36_92 rfl (fun _ => ?_) (fun h => absurd h hx0)
  refine xj_aload_n (i := 0) d14_36_111 rfl rfl ?_
  refine xj_get d14_36_112 f14_156_12 k24 (by omega) (show 24 < M.1 by omega) rfl ?_
  refine xj_if_eq (tgt := 119) d14_36_115 rfl (fun h => absurd h hx0) (fun _ => ?_)
  exact xj_ret d14_36_118 (by omega) (by omega) rfl K
theorem rOutG {G : xG} (hxn : xn = 16) {dl pl vc tk hc sn : Nat} {y33 y36 y37 y38 y39 : Int32} {fp : Nat → Int32} {M0 M : xM} (h52 : 52 ≤ M0.1) {a : Nat} {A : List xNode} {t : List Nat × List Nat} {r : List (List Nat × List Nat)} {k : Nat} {S : Nat → Bool} {nf f3 : Int32} {d ce se cells slots : Nat} {Post : Option Value → xM → Prop} (hcc : cells ≤ ce) (hss : slots ≤ se) (hB : mB dl pl vc tk hc sn y33 y36 y37 y38 y39 fp M0 M (a, 0, A, t :: r) k S) (hge : pl ≤ k) (hk : k < 900) (K : ∀ M' : xM, mRf dl pl vc tk hc sn y33 y36 y37 y38 y39 fp M0 M' 5 → Post none M') : XJ G Y14_36 d ce se cells slots 88 [(3, .int f3), (2, .int (nI A.length)), (1, .int nf), (0, .ref 24)] [] M Post := by
  obtain ⟨i1, k24, k32⟩ := mB_24 hB
  replace k24 : M.2 24 = (.inr (12, [.ref 25, .ref 26, .ref 27, .ref 28, .ref 29, .ref 30, .int (nI sn), .int (nI vc), .int (nI tk), .ref 31, .int (nI dl), .ref 32, .int (nI pl), .int (nI (A.length + 1)), .ref 33, .ref 34, .ref 35, .ref 36, .ref 37, .ref 38, .ref 39, .ref 40, .int (nI k), .int (nI r.length), .int 0, .ref 41, .ref 42, .ref 43, .ref 44, .ref 45, .ref 46, .ref 47, .ref 48, .int y33, .ref 49, .ref 50, .int y36, .int y37, .int y38, .int y39, .int (nI hc), .ref 51])) := k24
  refine xj_aload_n (i := 0) d14_36_88 rfl rfl ?_
  refine xj_get d14_36_89 f14_156_12 k24 (by omega) (show 24 < M.1 by omega) rfl ?_
  refine xj_if_ne (tgt := 111) d14_36_92 rfl (fun h => absurd (by decide) h) (fun _ => ?_)
  refine xj_aload_n (i := 0) d14_36_95 rfl rfl ?_
  refine xj_get d14_36_96 f14_133_12 k24 (by omega) (show 24 < M.1 by omega) rfl ?_
  refine xj_aload_n (i := 0) d14_36_99 rfl rfl ?_
  refine xj_get d14_36_100 f14_130_12 k24 (by omega) (show 24 < M.1 by omega) rfl ?_
  refine xj_icmp_lt (tgt := 111) d14_36_103 rfl (fun h => absurd h (nI_nlt (a := k) (b := pl) (by omega) (by omega))) (fun _ => ?_)
  refine xj_aload_n (i := 0) d14_36_106 rfl rfl ?_
  refine xj_iconst (v := 5) d14_36_107 (by decide) ?_
  refine xj_put (a := 24) (fs' := [.ref 25, .ref 26, .ref 27, .ref 28, .ref 29, .ref 30, .int (nI sn), .int (nI vc), .int (nI tk), .ref 31, .int (nI dl), .ref 32, .int (nI pl), .int (nI (A.length + 1)), .ref 33, .ref 34, .ref 35, .ref 36, .ref 37, .ref 38, .ref 39, .ref 40, .int (nI k), .int (nI r.length), .int 5, .ref 41, .ref 42, .ref 43, .ref 44, .ref 45, .ref 46, .ref 47, .ref 48, .int y33, .ref 49, .ref 50, .int y36, .int y37, .int y38, .int y39, .int (nI hc), .ref 51]) d14_36_108 f14_156_12 k24 (by omega) (show 24 < M.1 by omega) (Nat.le_of_ble_eq_true rfl) rfl rfl rfl ?_
  refine xj_abs_set (fun M1 hs1 ha1 ho1 => ?_)
  refine xj_aload_n (i := 0) d14_36_111 rfl rfl ?_
  refine xj_get d14_36_112 f14_156_12 ha1 (by omega) (show 24 < M1.1 by omega) rfl ?_
  refine xj_if_eq (tgt := 119) d14_36_115 rfl (fun h => absurd h (by decide)) (fun _ => ?_)
  exact xj_ret d14_36_118 (by omega) (by omega) rfl (K _ (mB_fa hB (show M1.1 = M.1 by omega) (fun j hj => (ho1 j (by omega))) ha1))
set_option maxRecDepth 20000 in
set_option maxHeartbeats 1000000 in
theorem rBracket {G : xG} (hg : xGood G) (hxn : xn = 16) {dl pl vc tk hc sn : Nat} {y33 y36 y37 y38 y39 : Int32} {fp : Nat → Int32} {M0 M : xM} (h52 : 52 ≤ M0.1) (hpl : pl ≤ 24) (hPR : ∀ j, j < pl → ∃ u1, u1 < 95 ∧ fp j = nI (u1 + 32)) {a : Nat} {A : List xNode} {t : List Nat × List Nat} {r : List (List Nat × List Nat)} (hR0 : mR dl pl vc tk hc sn y33 y36 y37 y38 y39 fp M0 M (a, 0, A, t :: r)) (ha : A.length + r.length + 1 ≤ a) (hap : a ≤ pl) : XC G Y14_36 none 5 0 0 [.ref 24] M (fun v M' => v = none ∧ mX dl pl vc tk hc sn y33 y36 y37 y38 y39 fp M0 M' (pBracket fp pl (a, 0, A, t :: r))) := by
  obtain ⟨⟨i1, i2⟩, k32, np, kd, ch, nx, be, lo, hi, wt, cs, fP, lP, fB, lB, hnp, k24, k33, k34, k35, k36, k37, k38, k39, k40, k41, k42, k43, k44, hA, hW⟩ := id hR0
  subst hnp
  replace k24 : M.2 24 = (.inr (12, [.ref 25, .ref 26, .ref 27, .ref 28, .ref 29, .ref 30, .int (nI sn), .int (nI vc), .int (nI tk), .ref 31, .int (nI dl), .ref 32, .int (nI pl), .int (nI A.length), .ref 33, .ref 34, .ref 35, .ref 36, .ref 37, .ref 38, .ref 39, .ref 40, .int (nI a), .int (nI r.length), .int 0, .ref 41, .ref 42, .ref 43, .ref 44, .ref 45, .ref 46, .ref 47, .ref 48, .int y33, .ref 49, .ref 50, .int y36, .int y37, .int y38, .int y39, .int (nI hc), .ref 51])) := k24
  obtain ⟨g1, g2, g3⟩ := pW_tag hW
  obtain ⟨n, hn⟩ : ∃ n, M.1 = n := ⟨_, rfl⟩
  have hn2 : 52 ≤ n := by omega
  refine xc_of hg (by decide) (Nat.le_of_ble_eq_true rfl) (Or.inr (Or.inr (Or.inr (Or.inr (Or.inl ⟨rfl, rfl, fun v M' h => h.1⟩))))) ?_
  refine xj_aload_n (i := 0) d14_36_0 rfl rfl ?_
  refine xj_iconst (v := 0) d14_36_1 (by decide) ?_
  refine xj_callV (rest := []) (As := [.int 0]) (b := 24) (mAhead0 hg (M := M) (n := n) (dl := dl) (pl := pl) (vc := vc) (tk := tk) (hc := hc) (sn := sn) (y24 := 0) (y33 := y33) (y36 := y36) (y37 := y37) (y38 := y38) (y39 := y39) (np := A.length) (a := a) (dp := r.length) (fp := fp) (show M.1 = n by omega) (by omega) (by omega) (by omega) k24 (by omega) (by omega) k32 (by omega) hpl) d14_36_2 wd14_19 k24 (by omega) (show 24 < M.1 by omega) rfl s14_19 w1216 (Or.inl w1214) rfl rfl (Nat.le_of_ble_eq_true rfl) (by omega) (by omega) (by omega) ?_
  rintro v M' ⟨rfl, hm⟩
  subst M'
  refine xj_bipush (v := 94) d14_36_5 (by decide) ?_
  refine xj_icmp_ne (tgt := 14) d14_36_7 rfl (fun hN => ?_) (fun hN => ?_)
  · refine xj_iconst (v := 0) d14_36_14 (by decide) ?_
    refine xj_istore_n (i := 1) (L' := [(1, .int 0), (0, .ref 24)]) d14_36_15 rfl (by decide) rfl ?_
    refine xj_aload_n (i := 0) d14_36_16 rfl rfl ?_
    refine xj_iload_n (i := 1) d14_36_17 rfl rfl ?_
    refine xj_if_eq (tgt := 30) d14_36_18 rfl (fun _ => ?_) (fun h => absurd (by decide) h)
    refine xj_aload_n (i := 0) d14_36_30 rfl rfl ?_
    refine xj_get d14_36_31 f14_133_12 k24 (by omega) (show 24 < M.1 by omega) rfl ?_
    refine xj_put (a := 24) (fs' := [.ref 25, .ref 26, .ref 27, .ref 28, .ref 29, .ref 30, .int (nI sn), .int (nI vc), .int (nI tk), .ref 31, .int (nI dl), .ref 32, .int (nI pl), .int (nI A.length), .ref 33, .ref 34, .ref 35, .ref 36, .ref 37, .ref 38, .ref 39, .ref 40, .int (nI a), .int (nI r.length), .int 0, .ref 41, .ref 42, .ref 43, .ref 44, .ref 45, .ref 46, .ref 47, .ref 48, .int y33, .ref 49, .ref 50, .int y36, .int y37, .int y38, .int y39, .int (nI hc), .ref 51]) d14_36_34 f14_133_12 k24 (by omega) (show 24 < M.1 by omega) (Nat.le_of_ble_eq_true rfl) rfl rfl rfl ?_
    refine xj_abs_set (fun M1 hs1 ha1 ho1 => ?_)
    refine xj_aload_n (i := 0) d14_36_37 rfl rfl ?_
    refine xj_iconst (v := 1) d14_36_38 (by decide) ?_
    refine xj_iconst (v := 1) d14_36_39 (by decide) ?_
    refine xj_callV (rest := []) (As := [.int 1, .int 1]) (b := 24) (mPart hg (M := M1) (n := n) (dl := dl) (pl := pl) (vc := vc) (tk := tk) (hc := hc) (sn := sn) (y24 := 0) (y33 := y33) (y36 := y36) (y37 := y37) (y38 := y38) (y39 := y39) (np := A.length) (a := a) (dp := r.length) (kd := kd) (wt := wt) (ch := ch) (nx := nx) (cs := cs) (kk := 1) (w := 1) (show M1.1 = n by omega) (by omega) (by omega) (by omega) ha1 (by omega) (by omega) ((ho1 33 (by omega)).trans k33) (by omega) (by omega) ((ho1 39 (by omega)).trans k39) (by omega) (by omega) ((ho1 34 (by omega)).trans k34) (by omega) (by omega) ((ho1 35 (by omega)).trans k35) (by omega) (by omega) ((ho1 40 (by omega)).trans k40) hxn hn2 (by omega)) d14_36_40 wd14_20 ha1 (by omega) (show 24 < M1.1 by omega) rfl s14_20 w1232 (Or.inl w1230) rfl rfl (Nat.le_of_ble_eq_true rfl) (by omega) (by omega) (by omega) ?_
    rintro v M2 ⟨rfl, hs2, ho2, hf2_0, hf2_1, hf2_2, hf2_3, hf2_4, hf2_5⟩
    replace hs2 : M2.1 = n := hs2
    replace hf2_0 : M2.2 33 = (.inl (0, 30, .inl (upd kd A.length 1))) := hf2_0
    replace hf2_1 : M2.2 39 = (.inl (0, 30, .inl (upd wt A.length 1))) := hf2_1
    replace hf2_2 : M2.2 34 = (.inl (0, 30, .inl (upd ch A.length (-1)))) := hf2_2
    replace hf2_3 : M2.2 35 = (.inl (0, 30, .inl (upd nx A.length (-1)))) := hf2_3
    replace hf2_4 : M2.2 40 = (.inl (2, 2850, .inl (va_cpy (fun _ => 0) cs 0 (95 * A.length) 95))) := hf2_4
    replace hf2_5 : M2.2 24 = (.inr (12, [.ref 25, .ref 26, .ref 27, .ref 28, .ref 29, .ref 30, .int (nI sn), .int (nI vc), .int (nI tk), .ref 31, .int (nI dl), .ref 32, .int (nI pl), .int (nI (A.length + 1)), .ref 33, .ref 34, .ref 35, .ref 36, .ref 37, .ref 38, .ref 39, .ref 40, .int (nI a), .int (nI r.length), .int 0, .ref 41, .ref 42, .ref 43, .ref 44, .ref 45, .ref 46, .ref 47, .ref 48, .int y33, .ref 49, .ref 50, .int y36, .int y37, .int y38, .int y39, .int (nI hc), .ref 51])) := hf2_5
    refine xj_istore_n (i := 2) (L' := [(2, .int (nI A.length)), (1, .int 0), (0, .ref 24)]) d14_36_43 rfl (by decide) rfl ?_
    refine xj_iconst (v := 1) d14_36_44 (by decide) ?_
    refine xj_istore_n (i := 3) (L' := [(3, .int 1), (2, .int (nI A.length)), (1, .int 0), (0, .ref 24)]) d14_36_45 rfl (by decide) rfl ?_
    have hB1 : mB dl pl vc tk hc sn y33 y36 y37 y38 y39 fp M0 M2 (a, 0, A, t :: r) a pNo := ⟨⟨(show M2.1 = M0.1 by omega), fun j h1 h2 h3 => ((ho2 j (by omega) (by omega) (by omega) (by omega) (by omega) (by omega) (by omega)).trans (ho1 j (by omega))).trans (i2 j h1 h2 h3)⟩, ((ho2 32 (by omega) (by omega) (by omega) (by omega) (by omega) (by omega) (by omega)).trans (ho1 32 (by omega))).trans k32, (upd kd A.length 1), (upd ch A.length (-1)), (upd nx A.length (-1)), be, lo, hi, (upd wt A.length 1), (va_cpy (fun _ => 0) cs 0 (95 * A.length) 95), fP, lP, fB, lB, hf2_5, hf2_0, hf2_2, hf2_3, ((ho2 36 (by omega) (by omega) (by omega) (by omega) (by omega) (by omega) (by omega)).trans ((ho1 36 (by omega)).trans k36)), ((ho2 37 (by omega) (by omega) (by omega) (by omega) (by omega) (by omega) (by omega)).trans ((ho1 37 (by omega)).trans k37)), ((ho2 38 (by omega) (by omega) (by omega) (by omega) (by omega) (by omega) (by omega)).trans ((ho1 38 (by omega)).trans k38)), hf2_1, hf2_4, ((ho2 41 (by omega) (by omega) (by omega) (by omega) (by omega) (by omega) (by omega)).trans ((ho1 41 (by omega)).trans k41)), ((ho2 42 (by omega) (by omega) (by omega) (by omega) (by omega) (by omega) (by omega)).trans ((ho1 42 (by omega)).trans k42)), ((ho2 43 (by omega) (by omega) (by omega) (by omega) (by omega) (by omega) (by omega)).trans ((ho1 43 (by omega)).trans k43)), ((ho2 44 (by omega) (by omega) (by omega) (by omega) (by omega) (by omega) (by omega)).trans ((ho1 44 (by omega)).trans k44)), mA_new hA hW, hW, if_pos rfl, if_pos rfl, if_pos rfl, fun c hc => (if_pos (by show 95 * A.length ≤ 95 * A.length + c ∧ 95 * A.length + c < 95 * A.length + 95; omega)).trans (if_neg (show ¬ pNo c = true from Bool.false_ne_true)).symm⟩
    have hbk : (pBrk fp pl a) = pItems fp pl pl true (a, 0, pNo) := by unfold pBrk; rw [if_neg hN]
    refine rItmL (M := M) hg hxn h52 hpl hPR (by omega) (by omega) (by omega) pl true 1 (a) pNo M2 rfl hB1 (by omega) (by omega) (fun M' f9 e9 => ?_)
    have hle9 := pItems_le (fp := fp) pl true (a) pNo (show a ≤ pl by omega)
    rw [← hbk] at e9 hle9
    by_cases hz : (pBrk fp pl a).2.1 = 0
    · have hle8 := hle9 hz
      by_cases hge : pl ≤ (pBrk fp pl a).1
      · have hq : pBracket fp pl (a, 0, A, t :: r) = pFau (a, 0, A, t :: r) 5 := (if_neg (fun q => q hz)).trans (if_pos hge)
        exact rOutG hxn h52 (by omega) (by omega) (e9.1 hz) hge (by omega) (fun M2 h2 => ⟨rfl, by rw [hq]; exact ⟨fun q => absurd q (show ¬ (5 : Int32) = 0 by decide), fun _ => h2⟩⟩)
      · have hq : pBracket fp pl (a, 0, A, t :: r) = pPiece ((pBrk fp pl a).1 + 1, 0, A, t :: r) (1, 1, [], 0, 0, (pBrk fp pl a).2.2) := (if_neg (fun q => q hz)).trans ((if_neg hge).trans (congrArg (fun z => pPiece ((pBrk fp pl a).1 + 1, 0, A, t :: r) (1, 1, [], 0, 0, z)) (if_neg hN)))
        by_cases h0 : t.2 = []
        · exact rGoodPE hg hxn h52 hpl (e9.1 hz) (by omega) (by omega) h0 (by omega) (by omega) (by omega) (fun M2 h2 => ⟨rfl, by rw [hq]; exact ⟨fun _ => h2, fun q => absurd rfl q⟩⟩)
        · exact rGoodPN hg hxn h52 hpl (e9.1 hz) (by omega) (by omega) h0 (by omega) (by omega) (by omega) (fun M2 h2 => ⟨rfl, by rw [hq]; exact ⟨fun _ => h2, fun q => absurd rfl q⟩⟩)
    · have hq : pBracket fp pl (a, 0, A, t :: r) = pFau (a, 0, A, t :: r) (pBrk fp pl a).2.1 := if_pos hz
      exact rOutF hxn h52 (by omega) (by omega) (e9.2 hz) hz ⟨rfl, by rw [hq]; exact ⟨fun q => absurd q hz, fun _ => e9.2 hz⟩⟩
  · refine xj_iconst (v := 1) d14_36_10 (by decide) ?_
    refine xj_goto (tgt := 15) d14_36_11 rfl ?_
    refine xj_istore_n (i := 1) (L' := [(1, .int 1), (0, .ref 24)]) d14_36_15 rfl (by decide) rfl ?_
    refine xj_aload_n (i := 0) d14_36_16 rfl rfl ?_
    refine xj_iload_n (i := 1) d14_36_17 rfl rfl ?_
    refine xj_if_eq (tgt := 30) d14_36_18 rfl (fun h => absurd h (by decide)) (fun _ => ?_)
    refine xj_aload_n (i := 0) d14_36_21 rfl rfl ?_
    refine xj_get d14_36_22 f14_133_12 k24 (by omega) (show 24 < M.1 by omega) rfl ?_
    refine xj_iconst (v := 1) d14_36_25 (by decide) ?_
    refine xj_iadd (v := nI (a + 1)) d14_36_26 (nI_1 a) ?_
    refine xj_goto (tgt := 34) d14_36_27 rfl ?_
    refine xj_put (a := 24) (fs' := [.ref 25, .ref 26, .ref 27, .ref 28, .ref 29, .ref 30, .int (nI sn), .int (nI vc), .int (nI tk), .ref 31, .int (nI dl), .ref 32, .int (nI pl), .int (nI A.length), .ref 33, .ref 34, .ref 35, .ref 36, .ref 37, .ref 38, .ref 39, .ref 40, .int (nI (a + 1)), .int (nI r.length), .int 0, .ref 41, .ref 42, .ref 43, .ref 44, .ref 45, .ref 46, .ref 47, .ref 48, .int y33, .ref 49, .ref 50, .int y36, .int y37, .int y38, .int y39, .int (nI hc), .ref 51]) d14_36_34 f14_133_12 k24 (by omega) (show 24 < M.1 by omega) (Nat.le_of_ble_eq_true rfl) rfl rfl rfl ?_
    refine xj_abs_set (fun M3 hs3 ha3 ho3 => ?_)
    refine xj_aload_n (i := 0) d14_36_37 rfl rfl ?_
    refine xj_iconst (v := 1) d14_36_38 (by decide) ?_
    refine xj_iconst (v := 1) d14_36_39 (by decide) ?_
    refine xj_callV (rest := []) (As := [.int 1, .int 1]) (b := 24) (mPart hg (M := M3) (n := n) (dl := dl) (pl := pl) (vc := vc) (tk := tk) (hc := hc) (sn := sn) (y24 := 0) (y33 := y33) (y36 := y36) (y37 := y37) (y38 := y38) (y39 := y39) (np := A.length) (a := a + 1) (dp := r.length) (kd := kd) (wt := wt) (ch := ch) (nx := nx) (cs := cs) (kk := 1) (w := 1) (show M3.1 = n by omega) (by omega) (by omega) (by omega) ha3 (by omega) (by omega) ((ho3 33 (by omega)).trans k33) (by omega) (by omega) ((ho3 39 (by omega)).trans k39) (by omega) (by omega) ((ho3 34 (by omega)).trans k34) (by omega) (by omega) ((ho3 35 (by omega)).trans k35) (by omega) (by omega) ((ho3 40 (by omega)).trans k40) hxn hn2 (by omega)) d14_36_40 wd14_20 ha3 (by omega) (show 24 < M3.1 by omega) rfl s14_20 w1232 (Or.inl w1230) rfl rfl (Nat.le_of_ble_eq_true rfl) (by omega) (by omega) (by omega) ?_
    rintro v M4 ⟨rfl, hs4, ho4, hf4_0, hf4_1, hf4_2, hf4_3, hf4_4, hf4_5⟩
    replace hs4 : M4.1 = n := hs4
    replace hf4_0 : M4.2 33 = (.inl (0, 30, .inl (upd kd A.length 1))) := hf4_0
    replace hf4_1 : M4.2 39 = (.inl (0, 30, .inl (upd wt A.length 1))) := hf4_1
    replace hf4_2 : M4.2 34 = (.inl (0, 30, .inl (upd ch A.length (-1)))) := hf4_2
    replace hf4_3 : M4.2 35 = (.inl (0, 30, .inl (upd nx A.length (-1)))) := hf4_3
    replace hf4_4 : M4.2 40 = (.inl (2, 2850, .inl (va_cpy (fun _ => 0) cs 0 (95 * A.length) 95))) := hf4_4
    replace hf4_5 : M4.2 24 = (.inr (12, [.ref 25, .ref 26, .ref 27, .ref 28, .ref 29, .ref 30, .int (nI sn), .int (nI vc), .int (nI tk), .ref 31, .int (nI dl), .ref 32, .int (nI pl), .int (nI (A.length + 1)), .ref 33, .ref 34, .ref 35, .ref 36, .ref 37, .ref 38, .ref 39, .ref 40, .int (nI (a + 1)), .int (nI r.length), .int 0, .ref 41, .ref 42, .ref 43, .ref 44, .ref 45, .ref 46, .ref 47, .ref 48, .int y33, .ref 49, .ref 50, .int y36, .int y37, .int y38, .int y39, .int (nI hc), .ref 51])) := hf4_5
    refine xj_istore_n (i := 2) (L' := [(2, .int (nI A.length)), (1, .int 1), (0, .ref 24)]) d14_36_43 rfl (by decide) rfl ?_
    refine xj_iconst (v := 1) d14_36_44 (by decide) ?_
    refine xj_istore_n (i := 3) (L' := [(3, .int 1), (2, .int (nI A.length)), (1, .int 1), (0, .ref 24)]) d14_36_45 rfl (by decide) rfl ?_
    have hB1 : mB dl pl vc tk hc sn y33 y36 y37 y38 y39 fp M0 M4 (a, 0, A, t :: r) (a + 1) pNo := ⟨⟨(show M4.1 = M0.1 by omega), fun j h1 h2 h3 => ((ho4 j (by omega) (by omega) (by omega) (by omega) (by omega) (by omega) (by omega)).trans (ho3 j (by omega))).trans (i2 j h1 h2 h3)⟩, ((ho4 32 (by omega) (by omega) (by omega) (by omega) (by omega) (by omega) (by omega)).trans (ho3 32 (by omega))).trans k32, (upd kd A.length 1), (upd ch A.length (-1)), (upd nx A.length (-1)), be, lo, hi, (upd wt A.length 1), (va_cpy (fun _ => 0) cs 0 (95 * A.length) 95), fP, lP, fB, lB, hf4_5, hf4_0, hf4_2, hf4_3, ((ho4 36 (by omega) (by omega) (by omega) (by omega) (by omega) (by omega) (by omega)).trans ((ho3 36 (by omega)).trans k36)), ((ho4 37 (by omega) (by omega) (by omega) (by omega) (by omega) (by omega) (by omega)).trans ((ho3 37 (by omega)).trans k37)), ((ho4 38 (by omega) (by omega) (by omega) (by omega) (by omega) (by omega) (by omega)).trans ((ho3 38 (by omega)).trans k38)), hf4_1, hf4_4, ((ho4 41 (by omega) (by omega) (by omega) (by omega) (by omega) (by omega) (by omega)).trans ((ho3 41 (by omega)).trans k41)), ((ho4 42 (by omega) (by omega) (by omega) (by omega) (by omega) (by omega) (by omega)).trans ((ho3 42 (by omega)).trans k42)), ((ho4 43 (by omega) (by omega) (by omega) (by omega) (by omega) (by omega) (by omega)).trans ((ho3 43 (by omega)).trans k43)), ((ho4 44 (by omega) (by omega) (by omega) (by omega) (by omega) (by omega) (by omega)).trans ((ho3 44 (by omega)).trans k44)), mA_new hA hW, hW, if_pos rfl, if_pos rfl, if_pos rfl, fun c hc => (if_pos (by show 95 * A.length ≤ 95 * A.length + c ∧ 95 * A.length + c < 95 * A.length + 95; omega)).trans (if_neg (show ¬ pNo c = true from Bool.false_ne_true)).symm⟩
    have hbk : (pBrk fp pl a) = pItems fp pl pl true (a + 1, 0, pNo) := by unfold pBrk; rw [if_pos hN]
    have hapl : a < pl := pch_in hN (by decide)
    refine rItmL (M := M) hg hxn h52 hpl hPR (by omega) (by omega) (by omega) pl true 1 (a + 1) pNo M4 rfl hB1 (by omega) (by omega) (fun M' f9 e9 => ?_)
    have hle9 := pItems_le (fp := fp) pl true (a + 1) pNo (show a + 1 ≤ pl by omega)
    rw [← hbk] at e9 hle9
    by_cases hz : (pBrk fp pl a).2.1 = 0
    · have hle8 := hle9 hz
      by_cases hge : pl ≤ (pBrk fp pl a).1
      · have hq : pBracket fp pl (a, 0, A, t :: r) = pFau (a, 0, A, t :: r) 5 := (if_neg (fun q => q hz)).trans (if_pos hge)
        exact rOutG hxn h52 (by omega) (by omega) (e9.1 hz) hge (by omega) (fun M2 h2 => ⟨rfl, by rw [hq]; exact ⟨fun q => absurd q (show ¬ (5 : Int32) = 0 by decide), fun _ => h2⟩⟩)
      · have hq : pBracket fp pl (a, 0, A, t :: r) = pPiece ((pBrk fp pl a).1 + 1, 0, A, t :: r) (1, 1, [], 0, 0, fun k => !(pBrk fp pl a).2.2 k) := (if_neg (fun q => q hz)).trans ((if_neg hge).trans (congrArg (fun z => pPiece ((pBrk fp pl a).1 + 1, 0, A, t :: r) (1, 1, [], 0, 0, z)) (if_pos hN)))
        by_cases h0 : t.2 = []
        · exact rGoodCE hg hxn h52 hpl (e9.1 hz) (by omega) (by omega) h0 (by omega) (by omega) (by omega) (fun M2 h2 => ⟨rfl, by rw [hq]; exact ⟨fun _ => h2, fun q => absurd rfl q⟩⟩)
        · exact rGoodCN hg hxn h52 hpl (e9.1 hz) (by omega) (by omega) h0 (by omega) (by omega) (by omega) (fun M2 h2 => ⟨rfl, by rw [hq]; exact ⟨fun _ => h2, fun q => absurd rfl q⟩⟩)
    · have hq : pBracket fp pl (a, 0, A, t :: r) = pFau (a, 0, A, t :: r) (pBrk fp pl a).2.1 := if_pos hz
      exact rOutF hxn h52 (by omega) (by omega) (e9.2 hz) hz ⟨rfl, by rw [hq]; exact ⟨fun q => absurd q hz, fun _ => e9.2 hz⟩⟩

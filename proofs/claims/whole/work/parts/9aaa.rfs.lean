/-- the strings of the parts are being found -/
def rV (M0 M : xM) (kn st lg lt : Nat → Int32) : Prop := M.1 = M0.1 ∧ (∀ j, j < M0.1 → j ≠ 24 → j ≠ 45 → j ≠ 46 → j ≠ 47 → j ≠ 48 → M.2 j = M0.2 j) ∧ M.2 45 = .inl (2, 32, .inl kn) ∧ M.2 46 = .inl (0, 32, .inl st) ∧ M.2 47 = .inl (0, 1536, .inl lt) ∧ M.2 48 = .inl (0, 128, .inl lg)
theorem rKn_up {st lg lt st' lg' lt' kn : Nat → Int32} {W : Nat → Option (List (List Int32))} {i : Nat} {v : Int32} (h : ∀ c, c < i → rKn st lg lt kn W c) (hs : ∀ m, m < 29 → m ≠ i → rSame st lg lt st' lg' lt' m) (hi : i < 29) (hn : (W i = none ∧ v = 0) ∨ ∃ S, W i = some S ∧ v = 1 ∧ rL st' lg' lt' i S) : ∀ c, c < i + 1 → rKn st' lg' lt' (upd kn i v) W c := by
  intro c hc
  by_cases q : c = i
  · subst q
    refine ⟨hi, ?_⟩
    rcases hn with ⟨h1, h2⟩ | ⟨S, h1, h2, h3⟩
    · exact Or.inl ⟨h1, (if_pos rfl).trans h2⟩
    · exact Or.inr ⟨S, h1, (if_pos rfl).trans h2, h3⟩
  · obtain ⟨h1, h2⟩ := h c (by omega)
    refine ⟨h1, ?_⟩
    rcases h2 with ⟨h2, h3⟩ | ⟨S, h2, h3, h4⟩
    · exact Or.inl ⟨h2, (if_neg q).trans h3⟩
    · exact Or.inr ⟨S, h2, (if_neg q).trans h3, rL_same h4 (hs c h1 q)⟩
set_option maxRecDepth 20000 in
set_option maxHeartbeats 4000000 in
theorem mFnL {G : xG} (hg : xGood G) (hxn : xn = 16) {n : Nat} (hn2 : 52 ≤ n) {dl : Nat} {pl : Nat} {vc : Nat} {tk : Nat} {hc : Nat} {sn : Nat} {y22 : Int32} {y23 : Int32} {y24 : Int32} {y36 : Int32} {y37 : Int32} {y38 : Int32} {y39 : Int32} {M0 : xM} (hn0 : M0.1 = n) {A : List xNode} {lo_ : Nat → Nat} {tx te kd ch nx lo hi_ wt cs my : Nat → Int32} (k25 : M0.2 25 = (.inl (0, 5120, .inl tx))) (k26 : M0.2 26 = (.inl (0, 128, .inl te))) (k33 : M0.2 33 = (.inl (0, 30, .inl kd))) (k34 : M0.2 34 = (.inl (0, 30, .inl ch))) (k35 : M0.2 35 = (.inl (0, 30, .inl nx))) (k37 : M0.2 37 = (.inl (0, 30, .inl lo))) (k38 : M0.2 38 = (.inl (0, 30, .inl hi_))) (k40 : M0.2 40 = (.inl (2, 2850, .inl cs))) (k49 : M0.2 49 = (.inl (2, 30, .inl my))) (hA26 : A.length ≤ 26) (hO : ∀ (i : Nat) (q : xNode), A[i]? = some q → pOk A lo_ i q) (hS : ∀ (i : Nat) (q : xNode), A[i]? = some q → nS kd ch nx lo hi_ wt cs i q) {d ce se cells slots : Nat} {Post : Option Value → xM → Prop} (hd : 4 ≤ d) (hcc : cells ≤ ce) (hss : slots ≤ se) (K : ∀ (M : xM) (kn st lg lt : Nat → Int32) (jn : Int32), rV M0 M kn st lg lt → M.2 24 = (.inr (12, [.ref 25, .ref 26, .ref 27, .ref 28, .ref 29, .ref 30, .int (nI sn), .int (nI vc), .int (nI tk), .ref 31, .int (nI dl), .ref 32, .int (nI pl), .int (nI A.length), .ref 33, .ref 34, .ref 35, .ref 36, .ref 37, .ref 38, .ref 39, .ref 40, .int y22, .int y23, .int y24, .ref 41, .ref 42, .ref 43, .ref 44, .ref 45, .ref 46, .ref 47, .ref 48, .int jn, .ref 49, .ref 50, .int y36, .int y37, .int y38, .int y39, .int (nI hc), .ref 51])) → (∀ c, c < A.length → rKn st lg lt kn (fun c => (sLr A c).1) c) → ∀ i : Nat, XJ G Y14_54 d ce se cells slots 165 [(1, .int (nI i)), (0, .ref 24)] [] M Post) : ∀ (r i : Nat) (M : xM) (kn st lg lt : Nat → Int32) (jn : Int32), i + r = A.length → rV M0 M kn st lg lt → M.2 24 = (.inr (12, [.ref 25, .ref 26, .ref 27, .ref 28, .ref 29, .ref 30, .int (nI sn), .int (nI vc), .int (nI tk), .ref 31, .int (nI dl), .ref 32, .int (nI pl), .int (nI A.length), .ref 33, .ref 34, .ref 35, .ref 36, .ref 37, .ref 38, .ref 39, .ref 40, .int y22, .int y23, .int y24, .ref 41, .ref 42, .ref 43, .ref 44, .ref 45, .ref 46, .ref 47, .ref 48, .int jn, .ref 49, .ref 50, .int y36, .int y37, .int y38, .int y39, .int (nI hc), .ref 51])) → (∀ c, c < i → rKn st lg lt kn (fun c => (sLr A c).1) c) → XJ G Y14_54 d ce se cells slots 2 [(1, .int (nI i)), (0, .ref 24)] [] M Post := by
  intro r
  induction r with
  | zero =>
    intro i M kn st lg lt jn hi hV h_24 hkn
    have hm0 := hV.1
    refine xj_iload_n (i := 1) d14_54_2 rfl rfl ?_
    refine xj_aload_n (i := 0) d14_54_3 rfl rfl ?_
    refine xj_get d14_54_4 f14_136_12 h_24 (by omega) (show 24 < M.1 by omega) rfl ?_
    refine xj_icmp_ge (tgt := 165) d14_54_7 rfl (fun _ => ?_) (fun h => absurd (nI_le (a := A.length) (b := i) (by omega) (by omega)) h)
    exact K M kn st lg lt jn hV h_24 (fun c hc => hkn c (by omega)) i
  | succ r ih =>
    intro i M kn st lg lt jn hi hV h_24 hkn
    have hm0 := hV.1
    obtain ⟨q, hq⟩ : ∃ q, A[i]? = some q := ⟨_, List.getElem?_eq_getElem (show i < A.length by omega)⟩
    have hN := hS i q hq
    obtain ⟨h1, h2, h3, h4, h5, h6, h7⟩ := hO i q hq
    have hiv := pIv_le h1
    have hL : sLr A i = sNode (fun c => (sLr A c).1) q := sLr_at A (fun j p hp => ⟨fun c hc => ((pIv_le (hO j p hp).1).2 c hc).2.1, fun z => ((hO j p hp).2.2.2.2.1 z).1⟩) i q hq
    have hcl0 : ∀ c ∈ q.2.2.1, rKn st lg lt kn (fun c => (sLr A c).1) c := fun c hc => hkn c (hiv.2 c hc).2.1
    have hkd := hN.1
    have hl28 : q.2.2.1.length ≤ 28 := by have := hiv.1; omega
    have hkk : q.1 = 1 ∨ q.1 = 2 ∨ q.1 = 3 ∨ q.1 = 4 ∨ q.1 = 5 ∨ q.1 = 6 := by omega
    rcases hkk with hq1 | hq1 | hq1 | hq1 | hq1 | hq1
    · replace hkd : kd i = 1 := by rw [hkd, hq1]; decide
      have hWi : (sLr A i).1 = sSmall q.2.2.2.2.2 := by rw [hL]; unfold sNode; rw [if_pos hq1]
      refine xj_iload_n (i := 1) d14_54_2 rfl rfl ?_
      refine xj_aload_n (i := 0) d14_54_3 rfl rfl ?_
      refine xj_get d14_54_4 f14_136_12 h_24 (by omega) (show 24 < M.1 by omega) rfl ?_
      refine xj_icmp_ge (tgt := 165) d14_54_7 rfl (fun h => absurd h (nI_ge (a := i) (b := A.length) (by omega) (by omega))) (fun _ => ?_)
      refine xj_aload_n (i := 0) d14_54_10 rfl rfl ?_
      refine xj_get d14_54_11 f14_35_12 h_24 (by omega) (show 24 < M.1 by omega) rfl ?_
      refine xj_iload_n (i := 1) d14_54_14 rfl rfl ?_
      refine xj_iaload (j := i) d14_54_15 ((hV.2.1 33 (by omega) (by omega) (by omega) (by omega) (by omega) (by omega)).trans k33) (by omega) (show 33 < M.1 by omega) (vp_in_nI (by omega) (by omega)) (nI_clamp (by omega)) ?_
      rw [show kd i = 1 from hkd]
      refine xj_iconst (v := 1) d14_54_16 (by decide) ?_
      refine xj_icmp_ne (tgt := 34) d14_54_17 rfl (fun h => absurd (by decide) h) (fun _ => ?_)
      refine xj_aload_n (i := 0) d14_54_20 rfl rfl ?_
      refine xj_get d14_54_21 f14_71_12 h_24 (by omega) (show 24 < M.1 by omega) rfl ?_
      refine xj_iload_n (i := 1) d14_54_24 rfl rfl ?_
      refine xj_aload_n (i := 0) d14_54_25 rfl rfl ?_
      refine xj_iload_n (i := 1) d14_54_26 rfl rfl ?_
      refine xj_callV (rest := [.int (nI i), .ref 45]) (As := [.int (nI i)]) (b := 24) (mSmall hg hxn hn2 (show M.1 = n by omega) h_24 ((hV.2.1 40 (by omega) (by omega) (by omega) (by omega) (by omega) (by omega)).trans k40) hV.2.2.2.1 hV.2.2.2.2.1 hV.2.2.2.2.2 (by omega) (cf := q.2.2.2.2.2) (hN.2.2.1 hq1)) d14_54_27 wd14_53 h_24 (by omega) (show 24 < M.1 by omega) rfl s14_53 w1302 (Or.inl w1300) rfl rfl (Nat.le_of_ble_eq_true rfl) (by omega) (by omega) (by omega) ?_
      rintro v5 M5 ⟨st5, lg5, lt5, hT5, hS5, hc5⟩
      have hm5 := hT5.1
      rcases hc5 with ⟨hJ, rfl⟩ | ⟨J, hJ, rfl, hL5⟩
      · refine xj_zastore (j := i) (x' := 0) d14_54_30 ((hT5.2.1 45 (by omega) (by omega) (by omega) (by omega)).trans hV.2.2.1) (by omega) (show 45 < M5.1 by omega) (vp_in_nI (by omega) (by omega)) (nI_clamp (by omega)) (by decide) ?_
        refine xj_abs_set (fun M1 hs1 ha1 ho1 => ?_)
        refine xj_goto (tgt := 159) d14_54_31 rfl ?_
        refine xj_iinc (v := nI (i + 1)) (L' := [(1, .int (nI (i + 1))), (0, .ref 24)]) d14_54_159 rfl (xinc _) (by decide) rfl ?_
        refine xj_goto (tgt := 2) d14_54_162 rfl ?_
        refine xj_sub (L' := [(1, .int (nI (i + 1))), (0, .ref 24)]) (fun q hq => by simp only [List.mem_cons, List.not_mem_nil, or_false] at hq ⊢; rcases hq with rfl | rfl <;> simp) ?_
        have hV9 : rV M0 M1 _ _ _ _ := ⟨(show M1.1 = M0.1 by omega), (fun j hj z24 z45 a b c => ((ho1 j (by omega)).trans (hT5.2.1 j (by omega) (by omega) (by omega) (by omega))).trans (hV.2.1 j hj z24 z45 a b c)), ha1, ((ho1 46 (by omega)).trans hT5.2.2.1), ((ho1 47 (by omega)).trans hT5.2.2.2.1), ((ho1 48 (by omega)).trans hT5.2.2.2.2)⟩
        exact ih (i + 1) M1 _ _ _ _ _ (by omega) hV9 ((ho1 24 (by omega)).trans ((hT5.2.1 24 (by omega) (by omega) (by omega) (by omega)).trans h_24)) (rKn_up hkn (fun m h1 h2 => hS5 m h2) (by omega) (Or.inl ⟨hWi.trans hJ, rfl⟩))
      · refine xj_zastore (j := i) (x' := 1) d14_54_30 ((hT5.2.1 45 (by omega) (by omega) (by omega) (by omega)).trans hV.2.2.1) (by omega) (show 45 < M5.1 by omega) (vp_in_nI (by omega) (by omega)) (nI_clamp (by omega)) (by decide) ?_
        refine xj_abs_set (fun M2 hs2 ha2 ho2 => ?_)
        refine xj_goto (tgt := 159) d14_54_31 rfl ?_
        refine xj_iinc (v := nI (i + 1)) (L' := [(1, .int (nI (i + 1))), (0, .ref 24)]) d14_54_159 rfl (xinc _) (by decide) rfl ?_
        refine xj_goto (tgt := 2) d14_54_162 rfl ?_
        refine xj_sub (L' := [(1, .int (nI (i + 1))), (0, .ref 24)]) (fun q hq => by simp only [List.mem_cons, List.not_mem_nil, or_false] at hq ⊢; rcases hq with rfl | rfl <;> simp) ?_
        have hV9 : rV M0 M2 _ _ _ _ := ⟨(show M2.1 = M0.1 by omega), (fun j hj z24 z45 a b c => ((ho2 j (by omega)).trans (hT5.2.1 j (by omega) (by omega) (by omega) (by omega))).trans (hV.2.1 j hj z24 z45 a b c)), ha2, ((ho2 46 (by omega)).trans hT5.2.2.1), ((ho2 47 (by omega)).trans hT5.2.2.2.1), ((ho2 48 (by omega)).trans hT5.2.2.2.2)⟩
        exact ih (i + 1) M2 _ _ _ _ _ (by omega) hV9 ((ho2 24 (by omega)).trans ((hT5.2.1 24 (by omega) (by omega) (by omega) (by omega)).trans h_24)) (rKn_up hkn (fun m h1 h2 => hS5 m h2) (by omega) (Or.inr ⟨J, hWi.trans hJ, rfl, hL5⟩))
    · replace hkd : kd i = 2 := by rw [hkd, hq1]; decide
      have hWi : (sLr A i).1 = some [[]] := by rw [hL]; unfold sNode; rw [if_neg (by omega), if_pos (by omega)]
      refine xj_iload_n (i := 1) d14_54_2 rfl rfl ?_
      refine xj_aload_n (i := 0) d14_54_3 rfl rfl ?_
      refine xj_get d14_54_4 f14_136_12 h_24 (by omega) (show 24 < M.1 by omega) rfl ?_
      refine xj_icmp_ge (tgt := 165) d14_54_7 rfl (fun h => absurd h (nI_ge (a := i) (b := A.length) (by omega) (by omega))) (fun _ => ?_)
      refine xj_aload_n (i := 0) d14_54_10 rfl rfl ?_
      refine xj_get d14_54_11 f14_35_12 h_24 (by omega) (show 24 < M.1 by omega) rfl ?_
      refine xj_iload_n (i := 1) d14_54_14 rfl rfl ?_
      refine xj_iaload (j := i) d14_54_15 ((hV.2.1 33 (by omega) (by omega) (by omega) (by omega) (by omega) (by omega)).trans k33) (by omega) (show 33 < M.1 by omega) (vp_in_nI (by omega) (by omega)) (nI_clamp (by omega)) ?_
      rw [show kd i = 2 from hkd]
      refine xj_iconst (v := 1) d14_54_16 (by decide) ?_
      refine xj_icmp_ne (tgt := 34) d14_54_17 rfl (fun _ => ?_) (fun h => absurd h (by decide))
      refine xj_aload_n (i := 0) d14_54_34 rfl rfl ?_
      refine xj_get d14_54_35 f14_35_12 h_24 (by omega) (show 24 < M.1 by omega) rfl ?_
      refine xj_iload_n (i := 1) d14_54_38 rfl rfl ?_
      refine xj_iaload (j := i) d14_54_39 ((hV.2.1 33 (by omega) (by omega) (by omega) (by omega) (by omega) (by omega)).trans k33) (by omega) (show 33 < M.1 by omega) (vp_in_nI (by omega) (by omega)) (nI_clamp (by omega)) ?_
      rw [show kd i = 2 from hkd]
      refine xj_bipush (v := 6) d14_54_40 (by decide) ?_
      refine xj_icmp_ne (tgt := 59) d14_54_42 rfl (fun _ => ?_) (fun h => absurd h (by decide))
      refine xj_aload_n (i := 0) d14_54_59 rfl rfl ?_
      refine xj_get d14_54_60 f14_35_12 h_24 (by omega) (show 24 < M.1 by omega) rfl ?_
      refine xj_iload_n (i := 1) d14_54_63 rfl rfl ?_
      refine xj_iaload (j := i) d14_54_64 ((hV.2.1 33 (by omega) (by omega) (by omega) (by omega) (by omega) (by omega)).trans k33) (by omega) (show 33 < M.1 by omega) (vp_in_nI (by omega) (by omega)) (nI_clamp (by omega)) ?_
      rw [show kd i = 2 from hkd]
      refine xj_iconst (v := 5) d14_54_65 (by decide) ?_
      refine xj_icmp_eq (tgt := 94) d14_54_66 rfl (fun h => absurd h (by decide)) (fun _ => ?_)
      refine xj_aload_n (i := 0) d14_54_69 rfl rfl ?_
      refine xj_get d14_54_70 f14_35_12 h_24 (by omega) (show 24 < M.1 by omega) rfl ?_
      refine xj_iload_n (i := 1) d14_54_73 rfl rfl ?_
      refine xj_iaload (j := i) d14_54_74 ((hV.2.1 33 (by omega) (by omega) (by omega) (by omega) (by omega) (by omega)).trans k33) (by omega) (show 33 < M.1 by omega) (vp_in_nI (by omega) (by omega)) (nI_clamp (by omega)) ?_
      rw [show kd i = 2 from hkd]
      refine xj_iconst (v := 4) d14_54_75 (by decide) ?_
      refine xj_icmp_ne (tgt := 133) d14_54_76 rfl (fun _ => ?_) (fun h => absurd h (by decide))
      refine xj_aload_n (i := 0) d14_54_133 rfl rfl ?_
      refine xj_get d14_54_134 f14_71_12 h_24 (by omega) (show 24 < M.1 by omega) rfl ?_
      refine xj_iload_n (i := 1) d14_54_137 rfl rfl ?_
      refine xj_aload_n (i := 0) d14_54_138 rfl rfl ?_
      refine xj_get d14_54_139 f14_35_12 h_24 (by omega) (show 24 < M.1 by omega) rfl ?_
      refine xj_iload_n (i := 1) d14_54_142 rfl rfl ?_
      refine xj_iaload (j := i) d14_54_143 ((hV.2.1 33 (by omega) (by omega) (by omega) (by omega) (by omega) (by omega)).trans k33) (by omega) (show 33 < M.1 by omega) (vp_in_nI (by omega) (by omega)) (nI_clamp (by omega)) ?_
      rw [show kd i = 2 from hkd]
      refine xj_iconst (v := 4) d14_54_144 (by decide) ?_
      refine xj_icmp_eq (tgt := 152) d14_54_145 rfl (fun h => absurd h (by decide)) (fun _ => ?_)
      refine xj_iconst (v := 1) d14_54_148 (by decide) ?_
      refine xj_goto (tgt := 153) d14_54_149 rfl ?_
      refine xj_zastore (j := i) (x' := 1) d14_54_153 hV.2.2.1 (by omega) (show 45 < M.1 by omega) (vp_in_nI (by omega) (by omega)) (nI_clamp (by omega)) (by decide) ?_
      refine xj_abs_set (fun M1 hs1 ha1 ho1 => ?_)
      refine xj_aload_n (i := 0) d14_54_154 rfl rfl ?_
      refine xj_iload_n (i := 1) d14_54_155 rfl rfl ?_
      refine xj_callV (rest := []) (As := [.int (nI i)]) (b := 24) (mAlone hg (M := M1) (n := n) (dl := dl) (pl := pl) (vc := vc) (tk := tk) (hc := hc) (sn := sn) (y13 := nI A.length) (y22 := y22) (y23 := y23) (y24 := y24) (y33 := jn) (y36 := y36) (y37 := y37) (y38 := y38) (y39 := y39) (st := st) (lg := lg) (nn := i) (show M1.1 = n by omega) (by omega) (by omega) (by omega) ((ho1 24 (by omega)).trans h_24) (by omega) (by omega) ((ho1 46 (by omega)).trans hV.2.2.2.1) (by omega) (by omega) ((ho1 48 (by omega)).trans hV.2.2.2.2.2) hxn hn2 (by omega)) d14_54_156 wd14_43 ((ho1 24 (by omega)).trans h_24) (by omega) (show 24 < M1.1 by omega) rfl s14_43 w1330 (Or.inl w1328) rfl rfl (Nat.le_of_ble_eq_true rfl) (by omega) (by omega) (by omega) ?_
      rintro v M2 ⟨rfl, hs2, ho2, hf2_0, hf2_1⟩
      replace hs2 : M2.1 = n := hs2
      replace hf2_0 : M2.2 46 = (.inl (0, 32, .inl (upd st i 1))) := hf2_0
      replace hf2_1 : M2.2 48 = (.inl (0, 128, .inl (upd lg (4 * i) 0))) := hf2_1
      refine xj_iinc (v := nI (i + 1)) (L' := [(1, .int (nI (i + 1))), (0, .ref 24)]) d14_54_159 rfl (xinc _) (by decide) rfl ?_
      refine xj_goto (tgt := 2) d14_54_162 rfl ?_
      refine xj_sub (L' := [(1, .int (nI (i + 1))), (0, .ref 24)]) (fun q hq => by simp only [List.mem_cons, List.not_mem_nil, or_false] at hq ⊢; rcases hq with rfl | rfl <;> simp) ?_
      have hV9 : rV M0 M2 _ _ _ _ := ⟨(show M2.1 = M0.1 by omega), (fun j hj z24 z45 a b c => ((ho2 j (by omega) (by omega) (by omega)).trans (ho1 j (by omega))).trans (hV.2.1 j hj z24 z45 a b c)), ((ho2 45 (by omega) (by omega) (by omega)).trans ha1), hf2_0, ((ho2 47 (by omega) (by omega) (by omega)).trans ((ho1 47 (by omega)).trans hV.2.2.2.2.1)), hf2_1⟩
      exact ih (i + 1) M2 _ _ _ _ _ (by omega) hV9 ((ho2 24 (by omega) (by omega) (by omega)).trans ((ho1 24 (by omega)).trans h_24)) (rKn_up hkn (fun m h1 h2 => rSame_alone h2) (by omega) (Or.inr ⟨_, hWi, rfl, rL_alone⟩))
    · replace hkd : kd i = 3 := by rw [hkd, hq1]; decide
      have hWi : (sLr A i).1 = some [[]] := by rw [hL]; unfold sNode; rw [if_neg (by omega), if_pos (by omega)]
      refine xj_iload_n (i := 1) d14_54_2 rfl rfl ?_
      refine xj_aload_n (i := 0) d14_54_3 rfl rfl ?_
      refine xj_get d14_54_4 f14_136_12 h_24 (by omega) (show 24 < M.1 by omega) rfl ?_
      refine xj_icmp_ge (tgt := 165) d14_54_7 rfl (fun h => absurd h (nI_ge (a := i) (b := A.length) (by omega) (by omega))) (fun _ => ?_)
      refine xj_aload_n (i := 0) d14_54_10 rfl rfl ?_
      refine xj_get d14_54_11 f14_35_12 h_24 (by omega) (show 24 < M.1 by omega) rfl ?_
      refine xj_iload_n (i := 1) d14_54_14 rfl rfl ?_
      refine xj_iaload (j := i) d14_54_15 ((hV.2.1 33 (by omega) (by omega) (by omega) (by omega) (by omega) (by omega)).trans k33) (by omega) (show 33 < M.1 by omega) (vp_in_nI (by omega) (by omega)) (nI_clamp (by omega)) ?_
      rw [show kd i = 3 from hkd]
      refine xj_iconst (v := 1) d14_54_16 (by decide) ?_
      refine xj_icmp_ne (tgt := 34) d14_54_17 rfl (fun _ => ?_) (fun h => absurd h (by decide))
      refine xj_aload_n (i := 0) d14_54_34 rfl rfl ?_
      refine xj_get d14_54_35 f14_35_12 h_24 (by omega) (show 24 < M.1 by omega) rfl ?_
      refine xj_iload_n (i := 1) d14_54_38 rfl rfl ?_
      refine xj_iaload (j := i) d14_54_39 ((hV.2.1 33 (by omega) (by omega) (by omega) (by omega) (by omega) (by omega)).trans k33) (by omega) (show 33 < M.1 by omega) (vp_in_nI (by omega) (by omega)) (nI_clamp (by omega)) ?_
      rw [show kd i = 3 from hkd]
      refine xj_bipush (v := 6) d14_54_40 (by decide) ?_
      refine xj_icmp_ne (tgt := 59) d14_54_42 rfl (fun _ => ?_) (fun h => absurd h (by decide))
      refine xj_aload_n (i := 0) d14_54_59 rfl rfl ?_
      refine xj_get d14_54_60 f14_35_12 h_24 (by omega) (show 24 < M.1 by omega) rfl ?_
      refine xj_iload_n (i := 1) d14_54_63 rfl rfl ?_
      refine xj_iaload (j := i) d14_54_64 ((hV.2.1 33 (by omega) (by omega) (by omega) (by omega) (by omega) (by omega)).trans k33) (by omega) (show 33 < M.1 by omega) (vp_in_nI (by omega) (by omega)) (nI_clamp (by omega)) ?_
      rw [show kd i = 3 from hkd]
      refine xj_iconst (v := 5) d14_54_65 (by decide) ?_
      refine xj_icmp_eq (tgt := 94) d14_54_66 rfl (fun h => absurd h (by decide)) (fun _ => ?_)
      refine xj_aload_n (i := 0) d14_54_69 rfl rfl ?_
      refine xj_get d14_54_70 f14_35_12 h_24 (by omega) (show 24 < M.1 by omega) rfl ?_
      refine xj_iload_n (i := 1) d14_54_73 rfl rfl ?_
      refine xj_iaload (j := i) d14_54_74 ((hV.2.1 33 (by omega) (by omega) (by omega) (by omega) (by omega) (by omega)).trans k33) (by omega) (show 33 < M.1 by omega) (vp_in_nI (by omega) (by omega)) (nI_clamp (by omega)) ?_
      rw [show kd i = 3 from hkd]
      refine xj_iconst (v := 4) d14_54_75 (by decide) ?_
      refine xj_icmp_ne (tgt := 133) d14_54_76 rfl (fun _ => ?_) (fun h => absurd h (by decide))
      refine xj_aload_n (i := 0) d14_54_133 rfl rfl ?_
      refine xj_get d14_54_134 f14_71_12 h_24 (by omega) (show 24 < M.1 by omega) rfl ?_
      refine xj_iload_n (i := 1) d14_54_137 rfl rfl ?_
      refine xj_aload_n (i := 0) d14_54_138 rfl rfl ?_
      refine xj_get d14_54_139 f14_35_12 h_24 (by omega) (show 24 < M.1 by omega) rfl ?_
      refine xj_iload_n (i := 1) d14_54_142 rfl rfl ?_
      refine xj_iaload (j := i) d14_54_143 ((hV.2.1 33 (by omega) (by omega) (by omega) (by omega) (by omega) (by omega)).trans k33) (by omega) (show 33 < M.1 by omega) (vp_in_nI (by omega) (by omega)) (nI_clamp (by omega)) ?_
      rw [show kd i = 3 from hkd]
      refine xj_iconst (v := 4) d14_54_144 (by decide) ?_
      refine xj_icmp_eq (tgt := 152) d14_54_145 rfl (fun h => absurd h (by decide)) (fun _ => ?_)
      refine xj_iconst (v := 1) d14_54_148 (by decide) ?_
      refine xj_goto (tgt := 153) d14_54_149 rfl ?_
      refine xj_zastore (j := i) (x' := 1) d14_54_153 hV.2.2.1 (by omega) (show 45 < M.1 by omega) (vp_in_nI (by omega) (by omega)) (nI_clamp (by omega)) (by decide) ?_
      refine xj_abs_set (fun M1 hs1 ha1 ho1 => ?_)
      refine xj_aload_n (i := 0) d14_54_154 rfl rfl ?_
      refine xj_iload_n (i := 1) d14_54_155 rfl rfl ?_
      refine xj_callV (rest := []) (As := [.int (nI i)]) (b := 24) (mAlone hg (M := M1) (n := n) (dl := dl) (pl := pl) (vc := vc) (tk := tk) (hc := hc) (sn := sn) (y13 := nI A.length) (y22 := y22) (y23 := y23) (y24 := y24) (y33 := jn) (y36 := y36) (y37 := y37) (y38 := y38) (y39 := y39) (st := st) (lg := lg) (nn := i) (show M1.1 = n by omega) (by omega) (by omega) (by omega) ((ho1 24 (by omega)).trans h_24) (by omega) (by omega) ((ho1 46 (by omega)).trans hV.2.2.2.1) (by omega) (by omega) ((ho1 48 (by omega)).trans hV.2.2.2.2.2) hxn hn2 (by omega)) d14_54_156 wd14_43 ((ho1 24 (by omega)).trans h_24) (by omega) (show 24 < M1.1 by omega) rfl s14_43 w1330 (Or.inl w1328) rfl rfl (Nat.le_of_ble_eq_true rfl) (by omega) (by omega) (by omega) ?_
      rintro v M2 ⟨rfl, hs2, ho2, hf2_0, hf2_1⟩
      replace hs2 : M2.1 = n := hs2
      replace hf2_0 : M2.2 46 = (.inl (0, 32, .inl (upd st i 1))) := hf2_0
      replace hf2_1 : M2.2 48 = (.inl (0, 128, .inl (upd lg (4 * i) 0))) := hf2_1
      refine xj_iinc (v := nI (i + 1)) (L' := [(1, .int (nI (i + 1))), (0, .ref 24)]) d14_54_159 rfl (xinc _) (by decide) rfl ?_
      refine xj_goto (tgt := 2) d14_54_162 rfl ?_
      refine xj_sub (L' := [(1, .int (nI (i + 1))), (0, .ref 24)]) (fun q hq => by simp only [List.mem_cons, List.not_mem_nil, or_false] at hq ⊢; rcases hq with rfl | rfl <;> simp) ?_
      have hV9 : rV M0 M2 _ _ _ _ := ⟨(show M2.1 = M0.1 by omega), (fun j hj z24 z45 a b c => ((ho2 j (by omega) (by omega) (by omega)).trans (ho1 j (by omega))).trans (hV.2.1 j hj z24 z45 a b c)), ((ho2 45 (by omega) (by omega) (by omega)).trans ha1), hf2_0, ((ho2 47 (by omega) (by omega) (by omega)).trans ((ho1 47 (by omega)).trans hV.2.2.2.2.1)), hf2_1⟩
      exact ih (i + 1) M2 _ _ _ _ _ (by omega) hV9 ((ho2 24 (by omega) (by omega) (by omega)).trans ((ho1 24 (by omega)).trans h_24)) (rKn_up hkn (fun m h1 h2 => rSame_alone h2) (by omega) (Or.inr ⟨_, hWi, rfl, rL_alone⟩))
    · replace hkd : kd i = 4 := by rw [hkd, hq1]; decide
      obtain ⟨e, hqe, hche, hlo, hhi⟩ := hN.2.2.2.1 hq1
      obtain ⟨-, kk, hkk9, hlk, -⟩ := h5 hq1
      have hlok : lo i = nI kk := hlo.trans hlk
      have hcn : q.2.2.2.1.toNatClampNeg = kk := by rw [hlk]; exact nI_clamp (by omega)
      by_cases hlh : lo i = hi_ i
      · obtain ⟨Z, hZ⟩ : ∃ Z, Z = sTimes (fun c => (sLr A c).1) e kk := ⟨_, rfl⟩
        have hWi : (sLr A i).1 = sJoined Z := by rw [hL, hZ]; unfold sNode; rw [if_neg (by omega), if_neg (by omega), if_pos hq1, if_pos (by rw [← hlo, ← hhi]; exact hlh), hqe, hcn]; rfl
        have hece := hcl0 e (by rw [hqe]; simp)
        have hce := And.intro hece.1 (And.intro hece (fun (_ : (sLr A e).1 = none) => (Or.inl ⟨rfl, trivial⟩ : rMy (-1) my (fun _ => True) e)))
        refine xj_iload_n (i := 1) d14_54_2 rfl rfl ?_
        refine xj_aload_n (i := 0) d14_54_3 rfl rfl ?_
        refine xj_get d14_54_4 f14_136_12 h_24 (by omega) (show 24 < M.1 by omega) rfl ?_
        refine xj_icmp_ge (tgt := 165) d14_54_7 rfl (fun h => absurd h (nI_ge (a := i) (b := A.length) (by omega) (by omega))) (fun _ => ?_)
        refine xj_aload_n (i := 0) d14_54_10 rfl rfl ?_
        refine xj_get d14_54_11 f14_35_12 h_24 (by omega) (show 24 < M.1 by omega) rfl ?_
        refine xj_iload_n (i := 1) d14_54_14 rfl rfl ?_
        refine xj_iaload (j := i) d14_54_15 ((hV.2.1 33 (by omega) (by omega) (by omega) (by omega) (by omega) (by omega)).trans k33) (by omega) (show 33 < M.1 by omega) (vp_in_nI (by omega) (by omega)) (nI_clamp (by omega)) ?_
        rw [show kd i = 4 from hkd]
        refine xj_iconst (v := 1) d14_54_16 (by decide) ?_
        refine xj_icmp_ne (tgt := 34) d14_54_17 rfl (fun _ => ?_) (fun h => absurd h (by decide))
        refine xj_aload_n (i := 0) d14_54_34 rfl rfl ?_
        refine xj_get d14_54_35 f14_35_12 h_24 (by omega) (show 24 < M.1 by omega) rfl ?_
        refine xj_iload_n (i := 1) d14_54_38 rfl rfl ?_
        refine xj_iaload (j := i) d14_54_39 ((hV.2.1 33 (by omega) (by omega) (by omega) (by omega) (by omega) (by omega)).trans k33) (by omega) (show 33 < M.1 by omega) (vp_in_nI (by omega) (by omega)) (nI_clamp (by omega)) ?_
        rw [show kd i = 4 from hkd]
        refine xj_bipush (v := 6) d14_54_40 (by decide) ?_
        refine xj_icmp_ne (tgt := 59) d14_54_42 rfl (fun _ => ?_) (fun h => absurd h (by decide))
        refine xj_aload_n (i := 0) d14_54_59 rfl rfl ?_
        refine xj_get d14_54_60 f14_35_12 h_24 (by omega) (show 24 < M.1 by omega) rfl ?_
        refine xj_iload_n (i := 1) d14_54_63 rfl rfl ?_
        refine xj_iaload (j := i) d14_54_64 ((hV.2.1 33 (by omega) (by omega) (by omega) (by omega) (by omega) (by omega)).trans k33) (by omega) (show 33 < M.1 by omega) (vp_in_nI (by omega) (by omega)) (nI_clamp (by omega)) ?_
        rw [show kd i = 4 from hkd]
        refine xj_iconst (v := 5) d14_54_65 (by decide) ?_
        refine xj_icmp_eq (tgt := 94) d14_54_66 rfl (fun h => absurd h (by decide)) (fun _ => ?_)
        refine xj_aload_n (i := 0) d14_54_69 rfl rfl ?_
        refine xj_get d14_54_70 f14_35_12 h_24 (by omega) (show 24 < M.1 by omega) rfl ?_
        refine xj_iload_n (i := 1) d14_54_73 rfl rfl ?_
        refine xj_iaload (j := i) d14_54_74 ((hV.2.1 33 (by omega) (by omega) (by omega) (by omega) (by omega) (by omega)).trans k33) (by omega) (show 33 < M.1 by omega) (vp_in_nI (by omega) (by omega)) (nI_clamp (by omega)) ?_
        rw [show kd i = 4 from hkd]
        refine xj_iconst (v := 4) d14_54_75 (by decide) ?_
        refine xj_icmp_ne (tgt := 133) d14_54_76 rfl (fun h => absurd (by decide) h) (fun _ => ?_)
        refine xj_aload_n (i := 0) d14_54_79 rfl rfl ?_
        refine xj_get d14_54_80 f14_47_12 h_24 (by omega) (show 24 < M.1 by omega) rfl ?_
        refine xj_iload_n (i := 1) d14_54_83 rfl rfl ?_
        refine xj_iaload (j := i) d14_54_84 ((hV.2.1 37 (by omega) (by omega) (by omega) (by omega) (by omega) (by omega)).trans k37) (by omega) (show 37 < M.1 by omega) (vp_in_nI (by omega) (by omega)) (nI_clamp (by omega)) ?_
        refine xj_aload_n (i := 0) d14_54_85 rfl rfl ?_
        refine xj_get d14_54_86 f14_50_12 h_24 (by omega) (show 24 < M.1 by omega) rfl ?_
        refine xj_iload_n (i := 1) d14_54_89 rfl rfl ?_
        refine xj_iaload (j := i) d14_54_90 ((hV.2.1 38 (by omega) (by omega) (by omega) (by omega) (by omega) (by omega)).trans k38) (by omega) (show 38 < M.1 by omega) (vp_in_nI (by omega) (by omega)) (nI_clamp (by omega)) ?_
        refine xj_icmp_ne (tgt := 133) d14_54_91 rfl (fun h => absurd hlh h) (fun _ => ?_)
        refine xj_aload_n (i := 0) d14_54_94 rfl rfl ?_
        refine xj_iload_n (i := 1) d14_54_95 rfl rfl ?_
        refine xj_iconst (v := (-1)) d14_54_96 (by decide) ?_
        refine xj_callV (rest := []) (As := [.int (nI i), .int (-1)]) (b := 24) (mWalk4 hg hxn hn2 (show M.1 = n by omega) ((hV.2.1 25 (by omega) (by omega) (by omega) (by omega) (by omega) (by omega)).trans k25) ((hV.2.1 26 (by omega) (by omega) (by omega) (by omega) (by omega) (by omega)).trans k26) ((hV.2.1 33 (by omega) (by omega) (by omega) (by omega) (by omega) (by omega)).trans k33) ((hV.2.1 34 (by omega) (by omega) (by omega) (by omega) (by omega) (by omega)).trans k34) ((hV.2.1 35 (by omega) (by omega) (by omega) (by omega) (by omega) (by omega)).trans k35) ((hV.2.1 37 (by omega) (by omega) (by omega) (by omega) (by omega) (by omega)).trans k37) hV.2.2.1 ((hV.2.1 49 (by omega) (by omega) (by omega) (by omega) (by omega) (by omega)).trans k49) (W := fun c => (sLr A c).1) (V := fun _ => True) (al := fun _ => True) (Or.inl ⟨rfl, fun _ => trivial⟩) hV.2.2.2.1 hV.2.2.2.2.1 hV.2.2.2.2.2 h_24 (nd := i) (by omega) hkd (e := e) (kk := kk) hche hlok hkk9 hce hZ) d14_54_97 wd14_51 h_24 (by omega) (show 24 < M.1 by omega) rfl s14_51 w1326 (Or.inl w1324) rfl rfl (Nat.le_of_ble_eq_true rfl) (by omega) (by omega) (by omega) ?_
        rintro v5 M5 ⟨rfl, st5, lg5, lt5, hU5, h24, hS5, hL5⟩
        have hm5 := hU5.1
        rw [show xB (vNd (fun _ => True) (fun _ => True) Z) = 1 from xB_t ⟨fun _ _ => trivial, fun _ _ => trivial, trivial⟩]
        refine xj_istore_n (i := 2) (L' := [(2, .int 1), (1, .int (nI i)), (0, .ref 24)]) d14_54_100 rfl (by decide) rfl ?_
        refine xj_aload_n (i := 0) d14_54_101 rfl rfl ?_
        refine xj_get d14_54_102 f14_71_12 h24 (by omega) (show 24 < M5.1 by omega) rfl ?_
        refine xj_iload_n (i := 1) d14_54_105 rfl rfl ?_
        refine xj_aload_n (i := 0) d14_54_106 rfl rfl ?_
        refine xj_get d14_54_107 f14_232_12 h24 (by omega) (show 24 < M5.1 by omega) rfl ?_
        refine xj_if_eq (tgt := 121) d14_54_110 rfl (fun hj9 => ?_) (fun hj9 => ?_)
        · refine xj_iconst (v := 0) d14_54_121 (by decide) ?_
          refine xj_zastore (j := i) (x' := 0) d14_54_122 ((hU5.2.1 45 (by omega) (by omega) (by omega) (by omega) (by omega)).trans hV.2.2.1) (by omega) (show 45 < M5.1 by omega) (vp_in_nI (by omega) (by omega)) (nI_clamp (by omega)) (by decide) ?_
          refine xj_abs_set (fun M1 hs1 ha1 ho1 => ?_)
          refine xj_aload_n (i := 0) d14_54_123 rfl rfl ?_
          refine xj_bipush (v := 30) d14_54_124 (by decide) ?_
          refine xj_iload_n (i := 1) d14_54_126 rfl rfl ?_
          refine xj_callV (rest := []) (As := [.int 30, .int (nI i)]) (b := 24) (mCopy hg hxn hn2 (show M1.1 = n by omega) ((ho1 24 (by omega)).trans h24) ((ho1 46 (by omega)).trans hU5.2.2.1) ((ho1 47 (by omega)).trans hU5.2.2.2.1) ((ho1 48 (by omega)).trans hU5.2.2.2.2) (fr := 30) (to := i) (by omega) (by omega) (by omega) hL5) d14_54_127 wd14_45 ((ho1 24 (by omega)).trans h24) (by omega) (show 24 < M1.1 by omega) rfl s14_45 w1318 (Or.inl w1316) rfl rfl (Nat.le_of_ble_eq_true rfl) (by omega) (by omega) (by omega) ?_
          rintro v6 M6 ⟨rfl, st6, lg6, lt6, hT6, hL6, hS6⟩
          replace hT6 : rT M1 M6 st6 lg6 lt6 := hT6
          have hm6 := hT6.1
          refine xj_goto (tgt := 159) d14_54_130 rfl ?_
          refine xj_iinc (v := nI (i + 1)) (L' := [(1, .int (nI (i + 1))), (2, .int 1), (0, .ref 24)]) d14_54_159 rfl (xinc _) (by decide) rfl ?_
          refine xj_goto (tgt := 2) d14_54_162 rfl ?_
          refine xj_sub (L' := [(1, .int (nI (i + 1))), (0, .ref 24)]) (fun q hq => by simp only [List.mem_cons, List.not_mem_nil, or_false] at hq ⊢; rcases hq with rfl | rfl <;> simp) ?_
          have hV9 : rV M0 M6 _ _ _ _ := ⟨(show M6.1 = M0.1 by omega), (fun j hj z24 z45 a b c => ((hT6.2.1 j (by omega) (by omega) (by omega) (by omega)).trans ((ho1 j (by omega)).trans (hU5.2.1 j (by omega) (by omega) (by omega) (by omega) (by omega)))).trans (hV.2.1 j hj z24 z45 a b c)), ((hT6.2.1 45 (by omega) (by omega) (by omega) (by omega)).trans ha1), hT6.2.2.1, hT6.2.2.2.1, hT6.2.2.2.2⟩
          exact ih (i + 1) M6 _ _ _ _ _ (by omega) hV9 ((hT6.2.1 24 (by omega) (by omega) (by omega) (by omega)).trans ((ho1 24 (by omega)).trans h24)) (rKn_up hkn (fun m h1 h2 => rSame_t (hS5 m h1) (hS6 m h2)) (by omega) (Or.inl ⟨hWi.trans (if_pos hj9), rfl⟩))
        · refine xj_iload_n (i := 2) d14_54_113 rfl rfl ?_
          refine xj_if_eq (tgt := 121) d14_54_114 rfl (fun h => absurd h (by decide)) (fun _ => ?_)
          refine xj_iconst (v := 1) d14_54_117 (by decide) ?_
          refine xj_goto (tgt := 122) d14_54_118 rfl ?_
          refine xj_zastore (j := i) (x' := 1) d14_54_122 ((hU5.2.1 45 (by omega) (by omega) (by omega) (by omega) (by omega)).trans hV.2.2.1) (by omega) (show 45 < M5.1 by omega) (vp_in_nI (by omega) (by omega)) (nI_clamp (by omega)) (by decide) ?_
          refine xj_abs_set (fun M2 hs2 ha2 ho2 => ?_)
          refine xj_aload_n (i := 0) d14_54_123 rfl rfl ?_
          refine xj_bipush (v := 30) d14_54_124 (by decide) ?_
          refine xj_iload_n (i := 1) d14_54_126 rfl rfl ?_
          refine xj_callV (rest := []) (As := [.int 30, .int (nI i)]) (b := 24) (mCopy hg hxn hn2 (show M2.1 = n by omega) ((ho2 24 (by omega)).trans h24) ((ho2 46 (by omega)).trans hU5.2.2.1) ((ho2 47 (by omega)).trans hU5.2.2.2.1) ((ho2 48 (by omega)).trans hU5.2.2.2.2) (fr := 30) (to := i) (by omega) (by omega) (by omega) hL5) d14_54_127 wd14_45 ((ho2 24 (by omega)).trans h24) (by omega) (show 24 < M2.1 by omega) rfl s14_45 w1318 (Or.inl w1316) rfl rfl (Nat.le_of_ble_eq_true rfl) (by omega) (by omega) (by omega) ?_
          rintro v6 M6 ⟨rfl, st6, lg6, lt6, hT6, hL6, hS6⟩
          replace hT6 : rT M2 M6 st6 lg6 lt6 := hT6
          have hm6 := hT6.1
          refine xj_goto (tgt := 159) d14_54_130 rfl ?_
          refine xj_iinc (v := nI (i + 1)) (L' := [(1, .int (nI (i + 1))), (2, .int 1), (0, .ref 24)]) d14_54_159 rfl (xinc _) (by decide) rfl ?_
          refine xj_goto (tgt := 2) d14_54_162 rfl ?_
          refine xj_sub (L' := [(1, .int (nI (i + 1))), (0, .ref 24)]) (fun q hq => by simp only [List.mem_cons, List.not_mem_nil, or_false] at hq ⊢; rcases hq with rfl | rfl <;> simp) ?_
          have hV9 : rV M0 M6 _ _ _ _ := ⟨(show M6.1 = M0.1 by omega), (fun j hj z24 z45 a b c => ((hT6.2.1 j (by omega) (by omega) (by omega) (by omega)).trans ((ho2 j (by omega)).trans (hU5.2.1 j (by omega) (by omega) (by omega) (by omega) (by omega)))).trans (hV.2.1 j hj z24 z45 a b c)), ((hT6.2.1 45 (by omega) (by omega) (by omega) (by omega)).trans ha2), hT6.2.2.1, hT6.2.2.2.1, hT6.2.2.2.2⟩
          exact ih (i + 1) M6 _ _ _ _ _ (by omega) hV9 ((hT6.2.1 24 (by omega) (by omega) (by omega) (by omega)).trans ((ho2 24 (by omega)).trans h24)) (rKn_up hkn (fun m h1 h2 => rSame_t (hS5 m h1) (hS6 m h2)) (by omega) (Or.inr ⟨_, hWi.trans (if_neg hj9), rfl, hL6⟩))
      · have hWi : (sLr A i).1 = none := by rw [hL]; unfold sNode; rw [if_neg (by omega), if_neg (by omega), if_pos hq1, if_neg (by rw [← hlo, ← hhi]; exact hlh)]
        refine xj_iload_n (i := 1) d14_54_2 rfl rfl ?_
        refine xj_aload_n (i := 0) d14_54_3 rfl rfl ?_
        refine xj_get d14_54_4 f14_136_12 h_24 (by omega) (show 24 < M.1 by omega) rfl ?_
        refine xj_icmp_ge (tgt := 165) d14_54_7 rfl (fun h => absurd h (nI_ge (a := i) (b := A.length) (by omega) (by omega))) (fun _ => ?_)
        refine xj_aload_n (i := 0) d14_54_10 rfl rfl ?_
        refine xj_get d14_54_11 f14_35_12 h_24 (by omega) (show 24 < M.1 by omega) rfl ?_
        refine xj_iload_n (i := 1) d14_54_14 rfl rfl ?_
        refine xj_iaload (j := i) d14_54_15 ((hV.2.1 33 (by omega) (by omega) (by omega) (by omega) (by omega) (by omega)).trans k33) (by omega) (show 33 < M.1 by omega) (vp_in_nI (by omega) (by omega)) (nI_clamp (by omega)) ?_
        rw [show kd i = 4 from hkd]
        refine xj_iconst (v := 1) d14_54_16 (by decide) ?_
        refine xj_icmp_ne (tgt := 34) d14_54_17 rfl (fun _ => ?_) (fun h => absurd h (by decide))
        refine xj_aload_n (i := 0) d14_54_34 rfl rfl ?_
        refine xj_get d14_54_35 f14_35_12 h_24 (by omega) (show 24 < M.1 by omega) rfl ?_
        refine xj_iload_n (i := 1) d14_54_38 rfl rfl ?_
        refine xj_iaload (j := i) d14_54_39 ((hV.2.1 33 (by omega) (by omega) (by omega) (by omega) (by omega) (by omega)).trans k33) (by omega) (show 33 < M.1 by omega) (vp_in_nI (by omega) (by omega)) (nI_clamp (by omega)) ?_
        rw [show kd i = 4 from hkd]
        refine xj_bipush (v := 6) d14_54_40 (by decide) ?_
        refine xj_icmp_ne (tgt := 59) d14_54_42 rfl (fun _ => ?_) (fun h => absurd h (by decide))
        refine xj_aload_n (i := 0) d14_54_59 rfl rfl ?_
        refine xj_get d14_54_60 f14_35_12 h_24 (by omega) (show 24 < M.1 by omega) rfl ?_
        refine xj_iload_n (i := 1) d14_54_63 rfl rfl ?_
        refine xj_iaload (j := i) d14_54_64 ((hV.2.1 33 (by omega) (by omega) (by omega) (by omega) (by omega) (by omega)).trans k33) (by omega) (show 33 < M.1 by omega) (vp_in_nI (by omega) (by omega)) (nI_clamp (by omega)) ?_
        rw [show kd i = 4 from hkd]
        refine xj_iconst (v := 5) d14_54_65 (by decide) ?_
        refine xj_icmp_eq (tgt := 94) d14_54_66 rfl (fun h => absurd h (by decide)) (fun _ => ?_)
        refine xj_aload_n (i := 0) d14_54_69 rfl rfl ?_
        refine xj_get d14_54_70 f14_35_12 h_24 (by omega) (show 24 < M.1 by omega) rfl ?_
        refine xj_iload_n (i := 1) d14_54_73 rfl rfl ?_
        refine xj_iaload (j := i) d14_54_74 ((hV.2.1 33 (by omega) (by omega) (by omega) (by omega) (by omega) (by omega)).trans k33) (by omega) (show 33 < M.1 by omega) (vp_in_nI (by omega) (by omega)) (nI_clamp (by omega)) ?_
        rw [show kd i = 4 from hkd]
        refine xj_iconst (v := 4) d14_54_75 (by decide) ?_
        refine xj_icmp_ne (tgt := 133) d14_54_76 rfl (fun h => absurd (by decide) h) (fun _ => ?_)
        refine xj_aload_n (i := 0) d14_54_79 rfl rfl ?_
        refine xj_get d14_54_80 f14_47_12 h_24 (by omega) (show 24 < M.1 by omega) rfl ?_
        refine xj_iload_n (i := 1) d14_54_83 rfl rfl ?_
        refine xj_iaload (j := i) d14_54_84 ((hV.2.1 37 (by omega) (by omega) (by omega) (by omega) (by omega) (by omega)).trans k37) (by omega) (show 37 < M.1 by omega) (vp_in_nI (by omega) (by omega)) (nI_clamp (by omega)) ?_
        refine xj_aload_n (i := 0) d14_54_85 rfl rfl ?_
        refine xj_get d14_54_86 f14_50_12 h_24 (by omega) (show 24 < M.1 by omega) rfl ?_
        refine xj_iload_n (i := 1) d14_54_89 rfl rfl ?_
        refine xj_iaload (j := i) d14_54_90 ((hV.2.1 38 (by omega) (by omega) (by omega) (by omega) (by omega) (by omega)).trans k38) (by omega) (show 38 < M.1 by omega) (vp_in_nI (by omega) (by omega)) (nI_clamp (by omega)) ?_
        refine xj_icmp_ne (tgt := 133) d14_54_91 rfl (fun _ => ?_) (fun h => absurd h hlh)
        refine xj_aload_n (i := 0) d14_54_133 rfl rfl ?_
        refine xj_get d14_54_134 f14_71_12 h_24 (by omega) (show 24 < M.1 by omega) rfl ?_
        refine xj_iload_n (i := 1) d14_54_137 rfl rfl ?_
        refine xj_aload_n (i := 0) d14_54_138 rfl rfl ?_
        refine xj_get d14_54_139 f14_35_12 h_24 (by omega) (show 24 < M.1 by omega) rfl ?_
        refine xj_iload_n (i := 1) d14_54_142 rfl rfl ?_
        refine xj_iaload (j := i) d14_54_143 ((hV.2.1 33 (by omega) (by omega) (by omega) (by omega) (by omega) (by omega)).trans k33) (by omega) (show 33 < M.1 by omega) (vp_in_nI (by omega) (by omega)) (nI_clamp (by omega)) ?_
        rw [show kd i = 4 from hkd]
        refine xj_iconst (v := 4) d14_54_144 (by decide) ?_
        refine xj_icmp_eq (tgt := 152) d14_54_145 rfl (fun _ => ?_) (fun h => absurd (by decide) h)
        refine xj_iconst (v := 0) d14_54_152 (by decide) ?_
        refine xj_zastore (j := i) (x' := 0) d14_54_153 hV.2.2.1 (by omega) (show 45 < M.1 by omega) (vp_in_nI (by omega) (by omega)) (nI_clamp (by omega)) (by decide) ?_
        refine xj_abs_set (fun M1 hs1 ha1 ho1 => ?_)
        refine xj_aload_n (i := 0) d14_54_154 rfl rfl ?_
        refine xj_iload_n (i := 1) d14_54_155 rfl rfl ?_
        refine xj_callV (rest := []) (As := [.int (nI i)]) (b := 24) (mAlone hg (M := M1) (n := n) (dl := dl) (pl := pl) (vc := vc) (tk := tk) (hc := hc) (sn := sn) (y13 := nI A.length) (y22 := y22) (y23 := y23) (y24 := y24) (y33 := jn) (y36 := y36) (y37 := y37) (y38 := y38) (y39 := y39) (st := st) (lg := lg) (nn := i) (show M1.1 = n by omega) (by omega) (by omega) (by omega) ((ho1 24 (by omega)).trans h_24) (by omega) (by omega) ((ho1 46 (by omega)).trans hV.2.2.2.1) (by omega) (by omega) ((ho1 48 (by omega)).trans hV.2.2.2.2.2) hxn hn2 (by omega)) d14_54_156 wd14_43 ((ho1 24 (by omega)).trans h_24) (by omega) (show 24 < M1.1 by omega) rfl s14_43 w1330 (Or.inl w1328) rfl rfl (Nat.le_of_ble_eq_true rfl) (by omega) (by omega) (by omega) ?_
        rintro v M2 ⟨rfl, hs2, ho2, hf2_0, hf2_1⟩
        replace hs2 : M2.1 = n := hs2
        replace hf2_0 : M2.2 46 = (.inl (0, 32, .inl (upd st i 1))) := hf2_0
        replace hf2_1 : M2.2 48 = (.inl (0, 128, .inl (upd lg (4 * i) 0))) := hf2_1
        refine xj_iinc (v := nI (i + 1)) (L' := [(1, .int (nI (i + 1))), (0, .ref 24)]) d14_54_159 rfl (xinc _) (by decide) rfl ?_
        refine xj_goto (tgt := 2) d14_54_162 rfl ?_
        refine xj_sub (L' := [(1, .int (nI (i + 1))), (0, .ref 24)]) (fun q hq => by simp only [List.mem_cons, List.not_mem_nil, or_false] at hq ⊢; rcases hq with rfl | rfl <;> simp) ?_
        have hV9 : rV M0 M2 _ _ _ _ := ⟨(show M2.1 = M0.1 by omega), (fun j hj z24 z45 a b c => ((ho2 j (by omega) (by omega) (by omega)).trans (ho1 j (by omega))).trans (hV.2.1 j hj z24 z45 a b c)), ((ho2 45 (by omega) (by omega) (by omega)).trans ha1), hf2_0, ((ho2 47 (by omega) (by omega) (by omega)).trans ((ho1 47 (by omega)).trans hV.2.2.2.2.1)), hf2_1⟩
        exact ih (i + 1) M2 _ _ _ _ _ (by omega) hV9 ((ho2 24 (by omega) (by omega) (by omega)).trans ((ho1 24 (by omega)).trans h_24)) (rKn_up hkn (fun m h1 h2 => rSame_alone h2) (by omega) (Or.inl ⟨hWi, rfl⟩))
    · replace hkd : kd i = 5 := by rw [hkd, hq1]; decide
      obtain ⟨Z, hZ⟩ : ∃ Z, Z = sAlong (fun c => (sLr A c).1) q.2.2.1 := ⟨_, rfl⟩
      have hWi : (sLr A i).1 = sJoined Z := by rw [hL, hZ]; unfold sNode; rw [if_neg (by omega), if_neg (by omega), if_neg (by omega), if_pos hq1]
      have hcl : ∀ c ∈ q.2.2.1, c < 29 ∧ rKn st lg lt kn (fun c => (sLr A c).1) c ∧ ((sLr A c).1 = none → rMy (-1) my (fun _ => True) c) := fun c hc => ⟨(hcl0 c hc).1, hcl0 c hc, fun _ => Or.inl ⟨rfl, trivial⟩⟩
      refine xj_iload_n (i := 1) d14_54_2 rfl rfl ?_
      refine xj_aload_n (i := 0) d14_54_3 rfl rfl ?_
      refine xj_get d14_54_4 f14_136_12 h_24 (by omega) (show 24 < M.1 by omega) rfl ?_
      refine xj_icmp_ge (tgt := 165) d14_54_7 rfl (fun h => absurd h (nI_ge (a := i) (b := A.length) (by omega) (by omega))) (fun _ => ?_)
      refine xj_aload_n (i := 0) d14_54_10 rfl rfl ?_
      refine xj_get d14_54_11 f14_35_12 h_24 (by omega) (show 24 < M.1 by omega) rfl ?_
      refine xj_iload_n (i := 1) d14_54_14 rfl rfl ?_
      refine xj_iaload (j := i) d14_54_15 ((hV.2.1 33 (by omega) (by omega) (by omega) (by omega) (by omega) (by omega)).trans k33) (by omega) (show 33 < M.1 by omega) (vp_in_nI (by omega) (by omega)) (nI_clamp (by omega)) ?_
      rw [show kd i = 5 from hkd]
      refine xj_iconst (v := 1) d14_54_16 (by decide) ?_
      refine xj_icmp_ne (tgt := 34) d14_54_17 rfl (fun _ => ?_) (fun h => absurd h (by decide))
      refine xj_aload_n (i := 0) d14_54_34 rfl rfl ?_
      refine xj_get d14_54_35 f14_35_12 h_24 (by omega) (show 24 < M.1 by omega) rfl ?_
      refine xj_iload_n (i := 1) d14_54_38 rfl rfl ?_
      refine xj_iaload (j := i) d14_54_39 ((hV.2.1 33 (by omega) (by omega) (by omega) (by omega) (by omega) (by omega)).trans k33) (by omega) (show 33 < M.1 by omega) (vp_in_nI (by omega) (by omega)) (nI_clamp (by omega)) ?_
      rw [show kd i = 5 from hkd]
      refine xj_bipush (v := 6) d14_54_40 (by decide) ?_
      refine xj_icmp_ne (tgt := 59) d14_54_42 rfl (fun _ => ?_) (fun h => absurd h (by decide))
      refine xj_aload_n (i := 0) d14_54_59 rfl rfl ?_
      refine xj_get d14_54_60 f14_35_12 h_24 (by omega) (show 24 < M.1 by omega) rfl ?_
      refine xj_iload_n (i := 1) d14_54_63 rfl rfl ?_
      refine xj_iaload (j := i) d14_54_64 ((hV.2.1 33 (by omega) (by omega) (by omega) (by omega) (by omega) (by omega)).trans k33) (by omega) (show 33 < M.1 by omega) (vp_in_nI (by omega) (by omega)) (nI_clamp (by omega)) ?_
      rw [show kd i = 5 from hkd]
      refine xj_iconst (v := 5) d14_54_65 (by decide) ?_
      refine xj_icmp_eq (tgt := 94) d14_54_66 rfl (fun _ => ?_) (fun h => absurd (by decide) h)
      refine xj_aload_n (i := 0) d14_54_94 rfl rfl ?_
      refine xj_iload_n (i := 1) d14_54_95 rfl rfl ?_
      refine xj_iconst (v := (-1)) d14_54_96 (by decide) ?_
      refine xj_callV (rest := []) (As := [.int (nI i), .int (-1)]) (b := 24) (mWalk5 hg hxn hn2 (show M.1 = n by omega) ((hV.2.1 25 (by omega) (by omega) (by omega) (by omega) (by omega) (by omega)).trans k25) ((hV.2.1 26 (by omega) (by omega) (by omega) (by omega) (by omega) (by omega)).trans k26) ((hV.2.1 33 (by omega) (by omega) (by omega) (by omega) (by omega) (by omega)).trans k33) ((hV.2.1 34 (by omega) (by omega) (by omega) (by omega) (by omega) (by omega)).trans k34) ((hV.2.1 35 (by omega) (by omega) (by omega) (by omega) (by omega) (by omega)).trans k35) ((hV.2.1 37 (by omega) (by omega) (by omega) (by omega) (by omega) (by omega)).trans k37) hV.2.2.1 ((hV.2.1 49 (by omega) (by omega) (by omega) (by omega) (by omega) (by omega)).trans k49) (W := fun c => (sLr A c).1) (V := fun _ => True) (al := fun _ => True) (Or.inl ⟨rfl, fun _ => trivial⟩) hV.2.2.2.1 hV.2.2.2.2.1 hV.2.2.2.2.2 h_24 (nd := i) (by omega) (by rw [hkd]; decide) (hN.2.2.2.2 (by omega)) hl28 hcl hZ) d14_54_97 wd14_51 h_24 (by omega) (show 24 < M.1 by omega) rfl s14_51 w1326 (Or.inl w1324) rfl rfl (Nat.le_of_ble_eq_true rfl) (by omega) (by omega) (by omega) ?_
      rintro v5 M5 ⟨rfl, st5, lg5, lt5, hU5, h24, hS5, hL5⟩
      have hm5 := hU5.1
      rw [show xB (vNd (fun _ => True) (fun _ => True) Z) = 1 from xB_t ⟨fun _ _ => trivial, fun _ _ => trivial, trivial⟩]
      refine xj_istore_n (i := 2) (L' := [(2, .int 1), (1, .int (nI i)), (0, .ref 24)]) d14_54_100 rfl (by decide) rfl ?_
      refine xj_aload_n (i := 0) d14_54_101 rfl rfl ?_
      refine xj_get d14_54_102 f14_71_12 h24 (by omega) (show 24 < M5.1 by omega) rfl ?_
      refine xj_iload_n (i := 1) d14_54_105 rfl rfl ?_
      refine xj_aload_n (i := 0) d14_54_106 rfl rfl ?_
      refine xj_get d14_54_107 f14_232_12 h24 (by omega) (show 24 < M5.1 by omega) rfl ?_
      refine xj_if_eq (tgt := 121) d14_54_110 rfl (fun hj9 => ?_) (fun hj9 => ?_)
      · refine xj_iconst (v := 0) d14_54_121 (by decide) ?_
        refine xj_zastore (j := i) (x' := 0) d14_54_122 ((hU5.2.1 45 (by omega) (by omega) (by omega) (by omega) (by omega)).trans hV.2.2.1) (by omega) (show 45 < M5.1 by omega) (vp_in_nI (by omega) (by omega)) (nI_clamp (by omega)) (by decide) ?_
        refine xj_abs_set (fun M1 hs1 ha1 ho1 => ?_)
        refine xj_aload_n (i := 0) d14_54_123 rfl rfl ?_
        refine xj_bipush (v := 30) d14_54_124 (by decide) ?_
        refine xj_iload_n (i := 1) d14_54_126 rfl rfl ?_
        refine xj_callV (rest := []) (As := [.int 30, .int (nI i)]) (b := 24) (mCopy hg hxn hn2 (show M1.1 = n by omega) ((ho1 24 (by omega)).trans h24) ((ho1 46 (by omega)).trans hU5.2.2.1) ((ho1 47 (by omega)).trans hU5.2.2.2.1) ((ho1 48 (by omega)).trans hU5.2.2.2.2) (fr := 30) (to := i) (by omega) (by omega) (by omega) hL5) d14_54_127 wd14_45 ((ho1 24 (by omega)).trans h24) (by omega) (show 24 < M1.1 by omega) rfl s14_45 w1318 (Or.inl w1316) rfl rfl (Nat.le_of_ble_eq_true rfl) (by omega) (by omega) (by omega) ?_
        rintro v6 M6 ⟨rfl, st6, lg6, lt6, hT6, hL6, hS6⟩
        replace hT6 : rT M1 M6 st6 lg6 lt6 := hT6
        have hm6 := hT6.1
        refine xj_goto (tgt := 159) d14_54_130 rfl ?_
        refine xj_iinc (v := nI (i + 1)) (L' := [(1, .int (nI (i + 1))), (2, .int 1), (0, .ref 24)]) d14_54_159 rfl (xinc _) (by decide) rfl ?_
        refine xj_goto (tgt := 2) d14_54_162 rfl ?_
        refine xj_sub (L' := [(1, .int (nI (i + 1))), (0, .ref 24)]) (fun q hq => by simp only [List.mem_cons, List.not_mem_nil, or_false] at hq ⊢; rcases hq with rfl | rfl <;> simp) ?_
        have hV9 : rV M0 M6 _ _ _ _ := ⟨(show M6.1 = M0.1 by omega), (fun j hj z24 z45 a b c => ((hT6.2.1 j (by omega) (by omega) (by omega) (by omega)).trans ((ho1 j (by omega)).trans (hU5.2.1 j (by omega) (by omega) (by omega) (by omega) (by omega)))).trans (hV.2.1 j hj z24 z45 a b c)), ((hT6.2.1 45 (by omega) (by omega) (by omega) (by omega)).trans ha1), hT6.2.2.1, hT6.2.2.2.1, hT6.2.2.2.2⟩
        exact ih (i + 1) M6 _ _ _ _ _ (by omega) hV9 ((hT6.2.1 24 (by omega) (by omega) (by omega) (by omega)).trans ((ho1 24 (by omega)).trans h24)) (rKn_up hkn (fun m h1 h2 => rSame_t (hS5 m h1) (hS6 m h2)) (by omega) (Or.inl ⟨hWi.trans (if_pos hj9), rfl⟩))
      · refine xj_iload_n (i := 2) d14_54_113 rfl rfl ?_
        refine xj_if_eq (tgt := 121) d14_54_114 rfl (fun h => absurd h (by decide)) (fun _ => ?_)
        refine xj_iconst (v := 1) d14_54_117 (by decide) ?_
        refine xj_goto (tgt := 122) d14_54_118 rfl ?_
        refine xj_zastore (j := i) (x' := 1) d14_54_122 ((hU5.2.1 45 (by omega) (by omega) (by omega) (by omega) (by omega)).trans hV.2.2.1) (by omega) (show 45 < M5.1 by omega) (vp_in_nI (by omega) (by omega)) (nI_clamp (by omega)) (by decide) ?_
        refine xj_abs_set (fun M2 hs2 ha2 ho2 => ?_)
        refine xj_aload_n (i := 0) d14_54_123 rfl rfl ?_
        refine xj_bipush (v := 30) d14_54_124 (by decide) ?_
        refine xj_iload_n (i := 1) d14_54_126 rfl rfl ?_
        refine xj_callV (rest := []) (As := [.int 30, .int (nI i)]) (b := 24) (mCopy hg hxn hn2 (show M2.1 = n by omega) ((ho2 24 (by omega)).trans h24) ((ho2 46 (by omega)).trans hU5.2.2.1) ((ho2 47 (by omega)).trans hU5.2.2.2.1) ((ho2 48 (by omega)).trans hU5.2.2.2.2) (fr := 30) (to := i) (by omega) (by omega) (by omega) hL5) d14_54_127 wd14_45 ((ho2 24 (by omega)).trans h24) (by omega) (show 24 < M2.1 by omega) rfl s14_45 w1318 (Or.inl w1316) rfl rfl (Nat.le_of_ble_eq_true rfl) (by omega) (by omega) (by omega) ?_
        rintro v6 M6 ⟨rfl, st6, lg6, lt6, hT6, hL6, hS6⟩
        replace hT6 : rT M2 M6 st6 lg6 lt6 := hT6
        have hm6 := hT6.1
        refine xj_goto (tgt := 159) d14_54_130 rfl ?_
        refine xj_iinc (v := nI (i + 1)) (L' := [(1, .int (nI (i + 1))), (2, .int 1), (0, .ref 24)]) d14_54_159 rfl (xinc _) (by decide) rfl ?_
        refine xj_goto (tgt := 2) d14_54_162 rfl ?_
        refine xj_sub (L' := [(1, .int (nI (i + 1))), (0, .ref 24)]) (fun q hq => by simp only [List.mem_cons, List.not_mem_nil, or_false] at hq ⊢; rcases hq with rfl | rfl <;> simp) ?_
        have hV9 : rV M0 M6 _ _ _ _ := ⟨(show M6.1 = M0.1 by omega), (fun j hj z24 z45 a b c => ((hT6.2.1 j (by omega) (by omega) (by omega) (by omega)).trans ((ho2 j (by omega)).trans (hU5.2.1 j (by omega) (by omega) (by omega) (by omega) (by omega)))).trans (hV.2.1 j hj z24 z45 a b c)), ((hT6.2.1 45 (by omega) (by omega) (by omega) (by omega)).trans ha2), hT6.2.2.1, hT6.2.2.2.1, hT6.2.2.2.2⟩
        exact ih (i + 1) M6 _ _ _ _ _ (by omega) hV9 ((hT6.2.1 24 (by omega) (by omega) (by omega) (by omega)).trans ((ho2 24 (by omega)).trans h24)) (rKn_up hkn (fun m h1 h2 => rSame_t (hS5 m h1) (hS6 m h2)) (by omega) (Or.inr ⟨_, hWi.trans (if_neg hj9), rfl, hL6⟩))
    · replace hkd : kd i = 6 := by rw [hkd, hq1]; decide
      have hWi : (sLr A i).1 = sUni (fun c => (sLr A c).1) q.2.2.1 := by rw [hL]; unfold sNode; rw [if_neg (by omega), if_neg (by omega), if_neg (by omega), if_neg (by omega)]
      have hcl := hcl0
      refine xj_iload_n (i := 1) d14_54_2 rfl rfl ?_
      refine xj_aload_n (i := 0) d14_54_3 rfl rfl ?_
      refine xj_get d14_54_4 f14_136_12 h_24 (by omega) (show 24 < M.1 by omega) rfl ?_
      refine xj_icmp_ge (tgt := 165) d14_54_7 rfl (fun h => absurd h (nI_ge (a := i) (b := A.length) (by omega) (by omega))) (fun _ => ?_)
      refine xj_aload_n (i := 0) d14_54_10 rfl rfl ?_
      refine xj_get d14_54_11 f14_35_12 h_24 (by omega) (show 24 < M.1 by omega) rfl ?_
      refine xj_iload_n (i := 1) d14_54_14 rfl rfl ?_
      refine xj_iaload (j := i) d14_54_15 ((hV.2.1 33 (by omega) (by omega) (by omega) (by omega) (by omega) (by omega)).trans k33) (by omega) (show 33 < M.1 by omega) (vp_in_nI (by omega) (by omega)) (nI_clamp (by omega)) ?_
      rw [show kd i = 6 from hkd]
      refine xj_iconst (v := 1) d14_54_16 (by decide) ?_
      refine xj_icmp_ne (tgt := 34) d14_54_17 rfl (fun _ => ?_) (fun h => absurd h (by decide))
      refine xj_aload_n (i := 0) d14_54_34 rfl rfl ?_
      refine xj_get d14_54_35 f14_35_12 h_24 (by omega) (show 24 < M.1 by omega) rfl ?_
      refine xj_iload_n (i := 1) d14_54_38 rfl rfl ?_
      refine xj_iaload (j := i) d14_54_39 ((hV.2.1 33 (by omega) (by omega) (by omega) (by omega) (by omega) (by omega)).trans k33) (by omega) (show 33 < M.1 by omega) (vp_in_nI (by omega) (by omega)) (nI_clamp (by omega)) ?_
      rw [show kd i = 6 from hkd]
      refine xj_bipush (v := 6) d14_54_40 (by decide) ?_
      refine xj_icmp_ne (tgt := 59) d14_54_42 rfl (fun h => absurd (by decide) h) (fun _ => ?_)
      refine xj_aload_n (i := 0) d14_54_45 rfl rfl ?_
      refine xj_get d14_54_46 f14_71_12 h_24 (by omega) (show 24 < M.1 by omega) rfl ?_
      refine xj_iload_n (i := 1) d14_54_49 rfl rfl ?_
      refine xj_aload_n (i := 0) d14_54_50 rfl rfl ?_
      refine xj_iload_n (i := 1) d14_54_51 rfl rfl ?_
      refine xj_callV (rest := [.int (nI i), .ref 45]) (As := [.int (nI i)]) (b := 24) (mUnite hg hxn hn2 (show M.1 = n by omega) h_24 ((hV.2.1 34 (by omega) (by omega) (by omega) (by omega) (by omega) (by omega)).trans k34) ((hV.2.1 35 (by omega) (by omega) (by omega) (by omega) (by omega) (by omega)).trans k35) hV.2.2.1 (W := fun c => (sLr A c).1) hV.2.2.2.1 hV.2.2.2.2.1 hV.2.2.2.2.2 (by omega) (hN.2.2.2.2 (by omega)) hcl) d14_54_52 wd14_52 h_24 (by omega) (show 24 < M.1 by omega) rfl s14_52 w1306 (Or.inl w1304) rfl rfl (Nat.le_of_ble_eq_true rfl) (by omega) (by omega) (by omega) ?_
      rintro v5 M5 ⟨st5, lg5, lt5, hT5, hS5, hc5⟩
      have hm5 := hT5.1
      rcases hc5 with ⟨hJ, rfl⟩ | ⟨J, hJ, rfl, hL5⟩
      · refine xj_zastore (j := i) (x' := 0) d14_54_55 ((hT5.2.1 45 (by omega) (by omega) (by omega) (by omega)).trans hV.2.2.1) (by omega) (show 45 < M5.1 by omega) (vp_in_nI (by omega) (by omega)) (nI_clamp (by omega)) (by decide) ?_
        refine xj_abs_set (fun M1 hs1 ha1 ho1 => ?_)
        refine xj_goto (tgt := 159) d14_54_56 rfl ?_
        refine xj_iinc (v := nI (i + 1)) (L' := [(1, .int (nI (i + 1))), (0, .ref 24)]) d14_54_159 rfl (xinc _) (by decide) rfl ?_
        refine xj_goto (tgt := 2) d14_54_162 rfl ?_
        refine xj_sub (L' := [(1, .int (nI (i + 1))), (0, .ref 24)]) (fun q hq => by simp only [List.mem_cons, List.not_mem_nil, or_false] at hq ⊢; rcases hq with rfl | rfl <;> simp) ?_
        have hV9 : rV M0 M1 _ _ _ _ := ⟨(show M1.1 = M0.1 by omega), (fun j hj z24 z45 a b c => ((ho1 j (by omega)).trans (hT5.2.1 j (by omega) (by omega) (by omega) (by omega))).trans (hV.2.1 j hj z24 z45 a b c)), ha1, ((ho1 46 (by omega)).trans hT5.2.2.1), ((ho1 47 (by omega)).trans hT5.2.2.2.1), ((ho1 48 (by omega)).trans hT5.2.2.2.2)⟩
        exact ih (i + 1) M1 _ _ _ _ _ (by omega) hV9 ((ho1 24 (by omega)).trans ((hT5.2.1 24 (by omega) (by omega) (by omega) (by omega)).trans h_24)) (rKn_up hkn (fun m h1 h2 => hS5 m (by omega) (by omega) h2) (by omega) (Or.inl ⟨hWi.trans hJ, rfl⟩))
      · refine xj_zastore (j := i) (x' := 1) d14_54_55 ((hT5.2.1 45 (by omega) (by omega) (by omega) (by omega)).trans hV.2.2.1) (by omega) (show 45 < M5.1 by omega) (vp_in_nI (by omega) (by omega)) (nI_clamp (by omega)) (by decide) ?_
        refine xj_abs_set (fun M2 hs2 ha2 ho2 => ?_)
        refine xj_goto (tgt := 159) d14_54_56 rfl ?_
        refine xj_iinc (v := nI (i + 1)) (L' := [(1, .int (nI (i + 1))), (0, .ref 24)]) d14_54_159 rfl (xinc _) (by decide) rfl ?_
        refine xj_goto (tgt := 2) d14_54_162 rfl ?_
        refine xj_sub (L' := [(1, .int (nI (i + 1))), (0, .ref 24)]) (fun q hq => by simp only [List.mem_cons, List.not_mem_nil, or_false] at hq ⊢; rcases hq with rfl | rfl <;> simp) ?_
        have hV9 : rV M0 M2 _ _ _ _ := ⟨(show M2.1 = M0.1 by omega), (fun j hj z24 z45 a b c => ((ho2 j (by omega)).trans (hT5.2.1 j (by omega) (by omega) (by omega) (by omega))).trans (hV.2.1 j hj z24 z45 a b c)), ha2, ((ho2 46 (by omega)).trans hT5.2.2.1), ((ho2 47 (by omega)).trans hT5.2.2.2.1), ((ho2 48 (by omega)).trans hT5.2.2.2.2)⟩
        exact ih (i + 1) M2 _ _ _ _ _ (by omega) hV9 ((ho2 24 (by omega)).trans ((hT5.2.1 24 (by omega) (by omega) (by omega) (by omega)).trans h_24)) (rKn_up hkn (fun m h1 h2 => hS5 m (by omega) (by omega) h2) (by omega) (Or.inr ⟨J, hWi.trans hJ, rfl, hL5⟩))
set_option maxRecDepth 20000 in
theorem mFind {G : xG} (hg : xGood G) (hxn : xn = 16) {n : Nat} (hn2 : 52 ≤ n) {dl : Nat} {pl : Nat} {vc : Nat} {tk : Nat} {hc : Nat} {sn : Nat} {y22 : Int32} {y23 : Int32} {y24 : Int32} {y36 : Int32} {y37 : Int32} {y38 : Int32} {y39 : Int32} {M0 : xM} (hn0 : M0.1 = n) {A : List xNode} {lo_ : Nat → Nat} {tx te kd ch nx lo hi wt cs my : Nat → Int32} (k25 : M0.2 25 = (.inl (0, 5120, .inl tx))) (k26 : M0.2 26 = (.inl (0, 128, .inl te))) (k33 : M0.2 33 = (.inl (0, 30, .inl kd))) (k34 : M0.2 34 = (.inl (0, 30, .inl ch))) (k35 : M0.2 35 = (.inl (0, 30, .inl nx))) (k37 : M0.2 37 = (.inl (0, 30, .inl lo))) (k38 : M0.2 38 = (.inl (0, 30, .inl hi))) (k40 : M0.2 40 = (.inl (2, 2850, .inl cs))) (k49 : M0.2 49 = (.inl (2, 30, .inl my))) (hA26 : A.length ≤ 26) (hO : ∀ (i : Nat) (q : xNode), A[i]? = some q → pOk A lo_ i q) (hS : ∀ (i : Nat) (q : xNode), A[i]? = some q → nS kd ch nx lo hi wt cs i q) {kn st lg lt : Nat → Int32} {jn : Int32} (h_24 : M0.2 24 = (.inr (12, [.ref 25, .ref 26, .ref 27, .ref 28, .ref 29, .ref 30, .int (nI sn), .int (nI vc), .int (nI tk), .ref 31, .int (nI dl), .ref 32, .int (nI pl), .int (nI A.length), .ref 33, .ref 34, .ref 35, .ref 36, .ref 37, .ref 38, .ref 39, .ref 40, .int y22, .int y23, .int y24, .ref 41, .ref 42, .ref 43, .ref 44, .ref 45, .ref 46, .ref 47, .ref 48, .int jn, .ref 49, .ref 50, .int y36, .int y37, .int y38, .int y39, .int (nI hc), .ref 51]))) (k45 : M0.2 45 = .inl (2, 32, .inl kn)) (k46 : M0.2 46 = .inl (0, 32, .inl st)) (k47 : M0.2 47 = .inl (0, 1536, .inl lt)) (k48 : M0.2 48 = .inl (0, 128, .inl lg)) : XC G Y14_54 none 4 0 0 [.ref 24] M0 (fun v M' => v = none ∧ ∃ (kn' st' lg' lt' : Nat → Int32) (jn' : Int32), rV M0 M' kn' st' lg' lt' ∧ M'.2 24 = (.inr (12, [.ref 25, .ref 26, .ref 27, .ref 28, .ref 29, .ref 30, .int (nI sn), .int (nI vc), .int (nI tk), .ref 31, .int (nI dl), .ref 32, .int (nI pl), .int (nI A.length), .ref 33, .ref 34, .ref 35, .ref 36, .ref 37, .ref 38, .ref 39, .ref 40, .int y22, .int y23, .int y24, .ref 41, .ref 42, .ref 43, .ref 44, .ref 45, .ref 46, .ref 47, .ref 48, .int jn', .ref 49, .ref 50, .int y36, .int y37, .int y38, .int y39, .int (nI hc), .ref 51])) ∧ ∀ c, c < A.length → rKn st' lg' lt' kn' (fun c => (sLr A c).1) c) := by
  refine xc_of hg (by decide) (Nat.le_of_ble_eq_true rfl) (Or.inr (Or.inr (Or.inr (Or.inr (Or.inl ⟨rfl, rfl, fun v M' h => h.1⟩))))) ?_
  refine xj_iconst (v := 0) d14_54_0 (by decide) ?_
  refine xj_istore_n (i := 1) (L' := [(1, .int 0), (0, .ref 24)]) d14_54_1 rfl (by decide) rfl ?_
  exact mFnL hg hxn hn2 hn0 k25 k26 k33 k34 k35 k37 k38 k40 k49 hA26 hO hS (by omega) (by omega) (by omega) (fun M9 kn9 st9 lg9 lt9 jn9 h1 h2 h3 i9 => xj_ret d14_54_165 (by omega) (by omega) rfl ⟨rfl, kn9, st9, lg9, lt9, jn9, h1, h2, h3⟩) A.length 0 M0 _ _ _ _ _ (by omega) ⟨rfl, fun _ _ _ _ _ _ _ => rfl, k45, k46, k47, k48⟩ h_24 (fun c hc => absurd hc (by omega))

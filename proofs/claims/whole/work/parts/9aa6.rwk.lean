set_option maxRecDepth 20000 in
set_option maxHeartbeats 2000000 in
theorem mWkB {G : xG} (hg : xGood G) (hxn : xn = 16) {n : Nat} (hn2 : 52 ≤ n) {dl : Nat} {pl : Nat} {vc : Nat} {tk : Nat} {hc : Nat} {sn : Nat} {y13 : Int32} {y22 : Int32} {y23 : Int32} {y24 : Int32} {y36 : Int32} {y37 : Int32} {y38 : Int32} {y39 : Int32} {M0 : xM} (hn0 : M0.1 = n) {tx te kd ch nx lo kn my : Nat → Int32} {st0 lg0 lt0 : Nat → Int32} (k25 : M0.2 25 = (.inl (0, 5120, .inl tx))) (k26 : M0.2 26 = (.inl (0, 128, .inl te))) (k33 : M0.2 33 = (.inl (0, 30, .inl kd))) (k34 : M0.2 34 = (.inl (0, 30, .inl ch))) (k35 : M0.2 35 = (.inl (0, 30, .inl nx))) (k37 : M0.2 37 = (.inl (0, 30, .inl lo))) (k45 : M0.2 45 = (.inl (2, 32, .inl kn))) (k49 : M0.2 49 = (.inl (2, 30, .inl my))) {al : List (List Int32) → Prop} {V : Nat → Prop} {W : Nat → Option (List (List Int32))} {sI : Int32} (hsl : rSl sI tx te al) {nd c : Nat} {z : xNl} {x kI tm : Int32} {M : xM} {st lg lt : Nat → Int32} (hc29 : c < 29) (hK : rKn st0 lg0 lt0 kn W c) (hmy : W c = none → rMy sI my V c) (hU : rU M0 M st lg lt) (h_24 : M.2 24 = (.inr (12, [.ref 25, .ref 26, .ref 27, .ref 28, .ref 29, .ref 30, .int (nI sn), .int (nI vc), .int (nI tk), .ref 31, .int (nI dl), .ref 32, .int (nI pl), .int y13, .ref 33, .ref 34, .ref 35, .ref 36, .ref 37, .ref 38, .ref 39, .ref 40, .int y22, .int y23, .int y24, .ref 41, .ref 42, .ref 43, .ref 44, .ref 45, .ref 46, .ref 47, .ref 48, .int z.2.2.2, .ref 49, .ref 50, .int y36, .int y37, .int y38, .int y39, .int (nI hc), .ref 51]))) (hSm : ∀ m, m < 29 → rSame st0 lg0 lt0 st lg lt m) (hL30 : rL st lg lt 30 z.2.2.1) (hx : x = xB (vA al V z)) {d ce se cells slots : Nat} {Post : Option Value → xM → Prop} (hd : 3 ≤ d) (hcc : cells ≤ ce) (hss : slots ≤ se) (K : ∀ (M' : xM) (st' lg' lt' : Nat → Int32) (x' : Int32), rU M0 M' st' lg' lt' → M'.2 24 = (.inr (12, [.ref 25, .ref 26, .ref 27, .ref 28, .ref 29, .ref 30, .int (nI sn), .int (nI vc), .int (nI tk), .ref 31, .int (nI dl), .ref 32, .int (nI pl), .int y13, .ref 33, .ref 34, .ref 35, .ref 36, .ref 37, .ref 38, .ref 39, .ref 40, .int y22, .int y23, .int y24, .ref 41, .ref 42, .ref 43, .ref 44, .ref 45, .ref 46, .ref 47, .ref 48, .int ((sFol z c (W c)).2.2.2), .ref 49, .ref 50, .int y36, .int y37, .int y38, .int y39, .int (nI hc), .ref 51])) → (∀ m, m < 29 → rSame st0 lg0 lt0 st' lg' lt' m) → rL st' lg' lt' 30 (sFol z c (W c)).2.2.1 → x' = xB (vA al V (sFol z c (W c))) → XJ G Y14_51 d ce se cells slots 179 [(3, .int x'), (6, .int kI), (5, .int tm), (4, .int (nI c)), (0, .ref 24), (1, .int (nI nd)), (2, .int sI)] [] M' Post) : XJ G Y14_51 d ce se cells slots 59 [(3, .int x), (6, .int kI), (5, .int tm), (4, .int (nI c)), (0, .ref 24), (1, .int (nI nd)), (2, .int sI)] [] M Post := by
  have hm0 := hU.1
  obtain ⟨-, hK⟩ := hK
  rcases hK with ⟨hWc, hkc⟩ | ⟨S, hWc, hkc, hLc⟩
  · replace hmy := hmy hWc
    refine xj_aload_n (i := 0) d14_51_59 rfl rfl ?_
    refine xj_get d14_51_60 f14_71_12 h_24 (by omega) (show 24 < M.1 by omega) rfl ?_
    refine xj_iload (i := 4) d14_51_63 rfl ?_
    refine xj_zaload (j := c) d14_51_65 ((hU.2.1 45 (by omega) (by omega) (by omega) (by omega) (by omega)).trans k45) (by omega) (show 45 < M.1 by omega) (vp_in_nI (by omega) (by omega)) (nI_clamp (by omega)) ?_
    rw [show kn c = 0 from hkc]
    refine xj_if_eq (tgt := 84) d14_51_66 rfl (fun _ => ?_) (fun h => absurd (by decide) h)
    refine xj_iconst (v := 0) d14_51_84 (by decide) ?_
    refine xj_istore (i := 7) (L' := [(7, .int 0), (3, .int x), (6, .int kI), (5, .int tm), (4, .int (nI c)), (0, .ref 24), (1, .int (nI nd)), (2, .int sI)]) d14_51_85 (by decide) rfl ?_
    refine xj_iload (i := 7) d14_51_87 rfl ?_
    refine xj_if_eq (tgt := 103) d14_51_89 rfl (fun _ => ?_) (fun h => absurd (by decide) h)
    refine xj_aload_n (i := 0) d14_51_103 rfl rfl ?_
    refine xj_iconst (v := 0) d14_51_104 (by decide) ?_
    refine xj_put (a := 24) (fs' := [.ref 25, .ref 26, .ref 27, .ref 28, .ref 29, .ref 30, .int (nI sn), .int (nI vc), .int (nI tk), .ref 31, .int (nI dl), .ref 32, .int (nI pl), .int y13, .ref 33, .ref 34, .ref 35, .ref 36, .ref 37, .ref 38, .ref 39, .ref 40, .int y22, .int y23, .int y24, .ref 41, .ref 42, .ref 43, .ref 44, .ref 45, .ref 46, .ref 47, .ref 48, .int 0, .ref 49, .ref 50, .int y36, .int y37, .int y38, .int y39, .int (nI hc), .ref 51]) d14_51_105 f14_232_12 h_24 (by omega) (show 24 < M.1 by omega) (Nat.le_of_ble_eq_true rfl) rfl rfl rfl ?_
    refine xj_abs_set (fun M1 hs1 ha1 ho1 => ?_)
    refine xj_iload_n (i := 3) d14_51_108 rfl rfl ?_
    refine xj_if_eq (tgt := 126) d14_51_109 rfl (fun hz9 => ?_) (fun hz9 => ?_)
    · refine xj_iconst (v := 0) d14_51_126 (by decide) ?_
      refine xj_istore_n (i := 3) (L' := [(3, .int 0), (7, .int 0), (6, .int kI), (5, .int tm), (4, .int (nI c)), (0, .ref 24), (1, .int (nI nd)), (2, .int sI)]) d14_51_127 rfl (by decide) rfl ?_
      refine xj_aload_n (i := 0) d14_51_128 rfl rfl ?_
      refine xj_get d14_51_129 f14_71_12 ha1 (by omega) (show 24 < M1.1 by omega) rfl ?_
      refine xj_iload (i := 4) d14_51_132 rfl ?_
      refine xj_zaload (j := c) d14_51_134 ((ho1 45 (by omega)).trans ((hU.2.1 45 (by omega) (by omega) (by omega) (by omega) (by omega)).trans k45)) (by omega) (show 45 < M1.1 by omega) (vp_in_nI (by omega) (by omega)) (nI_clamp (by omega)) ?_
      rw [show kn c = 0 from hkc]
      refine xj_if_eq (tgt := 149) d14_51_135 rfl (fun _ => ?_) (fun h => absurd (by decide) h)
      refine xj_iload_n (i := 3) d14_51_149 rfl rfl ?_
      refine xj_if_eq (tgt := 171) d14_51_150 rfl (fun _ => ?_) (fun h => absurd (by decide) h)
      refine xj_iconst (v := 0) d14_51_171 (by decide) ?_
      refine xj_istore_n (i := 3) (L' := [(3, .int 0), (7, .int 0), (6, .int kI), (5, .int tm), (4, .int (nI c)), (0, .ref 24), (1, .int (nI nd)), (2, .int sI)]) d14_51_172 rfl (by decide) rfl ?_
      refine xj_aload_n (i := 0) d14_51_173 rfl rfl ?_
      refine xj_bipush (v := 30) d14_51_174 (by decide) ?_
      refine xj_callV (rest := []) (As := [.int 30]) (b := 24) (mAlone hg (M := M1) (n := n) (dl := dl) (pl := pl) (vc := vc) (tk := tk) (hc := hc) (sn := sn) (y13 := y13) (y22 := y22) (y23 := y23) (y24 := y24) (y33 := 0) (y36 := y36) (y37 := y37) (y38 := y38) (y39 := y39) (st := st) (lg := lg) (nn := 30) (show M1.1 = n by omega) (by omega) (by omega) (by omega) ha1 (by omega) (by omega) ((ho1 46 (by omega)).trans hU.2.2.1) (by omega) (by omega) ((ho1 48 (by omega)).trans hU.2.2.2.2) hxn hn2 (by omega)) d14_51_176 wd14_43 ha1 (by omega) (show 24 < M1.1 by omega) rfl s14_43 w1330 (Or.inl w1328) rfl rfl (Nat.le_of_ble_eq_true rfl) (by omega) (by omega) (by omega) ?_
      rintro v M2 ⟨rfl, hs2, ho2, hf2_0, hf2_1⟩
      replace hs2 : M2.1 = n := hs2
      replace hf2_0 : M2.2 46 = (.inl (0, 32, .inl (upd st 30 1))) := hf2_0
      replace hf2_1 : M2.2 48 = (.inl (0, 128, .inl (upd lg (4 * 30) 0))) := hf2_1
      refine xj_sub (L' := [(3, .int 0), (6, .int kI), (5, .int tm), (4, .int (nI c)), (0, .ref 24), (1, .int (nI nd)), (2, .int sI)]) (fun q hq => by simp only [List.mem_cons, List.not_mem_nil, or_false] at hq ⊢; rcases hq with rfl | rfl | rfl | rfl | rfl | rfl | rfl <;> simp) ?_
      have hw9 := sFol_o (z := z) (c := c)
      rw [← hWc] at hw9
      have hT7 : rU M M2 _ _ _ := ⟨(show M2.1 = M.1 by omega), (fun j hj z24 a b c => ((ho2 j (by omega) (by omega) (by omega)).trans (ho1 j (by omega)))), hf2_0, ((ho2 47 (by omega) (by omega) (by omega)).trans ((ho1 47 (by omega)).trans hU.2.2.2.1)), hf2_1⟩
      refine K M2 _ _ _ _ (rU_t hU hT7) ?_ (fun m hm => rSame_t (hSm m hm) (rSame_alone (by omega))) (by rw [hw9]; exact rL_alone) ?_
      · rw [hw9]
        exact ((ho2 24 (by omega) (by omega) (by omega)).trans ha1)
      · rw [hw9]
        exact (xB_f (fun q => xB_n (p := vA al V z) (by rw [← hx]; exact hz9) (vA_o.mp q).1.1)).symm
    · refine xj_aload_n (i := 0) d14_51_112 rfl rfl ?_
      refine xj_iload_n (i := 2) d14_51_113 rfl rfl ?_
      refine xj_bipush (v := 30) d14_51_114 (by decide) ?_
      refine xj_callV (rest := []) (As := [.int sI, .int 30]) (b := 24) (mAllow hg hxn hn2 (show M1.1 = n by omega) ha1 ((ho1 46 (by omega)).trans hU.2.2.1) ((ho1 47 (by omega)).trans hU.2.2.2.1) ((ho1 48 (by omega)).trans hU.2.2.2.2) ((ho1 25 (by omega)).trans ((hU.2.1 25 (by omega) (by omega) (by omega) (by omega) (by omega)).trans k25)) ((ho1 26 (by omega)).trans ((hU.2.1 26 (by omega) (by omega) (by omega) (by omega) (by omega)).trans k26)) (l := 30) (by omega) hL30 hsl) d14_51_116 wd14_50 ha1 (by omega) (show 24 < M1.1 by omega) rfl s14_50 w1338 (Or.inl w1336) rfl rfl (Nat.le_of_ble_eq_true rfl) (by omega) (by omega) (by omega) ?_
      rintro v9 M' ⟨rfl, hm9⟩
      subst M'
      refine xj_if_eq (tgt := 126) d14_51_119 rfl (fun hq9 => ?_) (fun hq9 => ?_)
      · refine xj_iconst (v := 0) d14_51_126 (by decide) ?_
        refine xj_istore_n (i := 3) (L' := [(3, .int 0), (7, .int 0), (6, .int kI), (5, .int tm), (4, .int (nI c)), (0, .ref 24), (1, .int (nI nd)), (2, .int sI)]) d14_51_127 rfl (by decide) rfl ?_
        refine xj_aload_n (i := 0) d14_51_128 rfl rfl ?_
        refine xj_get d14_51_129 f14_71_12 ha1 (by omega) (show 24 < M1.1 by omega) rfl ?_
        refine xj_iload (i := 4) d14_51_132 rfl ?_
        refine xj_zaload (j := c) d14_51_134 ((ho1 45 (by omega)).trans ((hU.2.1 45 (by omega) (by omega) (by omega) (by omega) (by omega)).trans k45)) (by omega) (show 45 < M1.1 by omega) (vp_in_nI (by omega) (by omega)) (nI_clamp (by omega)) ?_
        rw [show kn c = 0 from hkc]
        refine xj_if_eq (tgt := 149) d14_51_135 rfl (fun _ => ?_) (fun h => absurd (by decide) h)
        refine xj_iload_n (i := 3) d14_51_149 rfl rfl ?_
        refine xj_if_eq (tgt := 171) d14_51_150 rfl (fun _ => ?_) (fun h => absurd (by decide) h)
        refine xj_iconst (v := 0) d14_51_171 (by decide) ?_
        refine xj_istore_n (i := 3) (L' := [(3, .int 0), (7, .int 0), (6, .int kI), (5, .int tm), (4, .int (nI c)), (0, .ref 24), (1, .int (nI nd)), (2, .int sI)]) d14_51_172 rfl (by decide) rfl ?_
        refine xj_aload_n (i := 0) d14_51_173 rfl rfl ?_
        refine xj_bipush (v := 30) d14_51_174 (by decide) ?_
        refine xj_callV (rest := []) (As := [.int 30]) (b := 24) (mAlone hg (M := M1) (n := n) (dl := dl) (pl := pl) (vc := vc) (tk := tk) (hc := hc) (sn := sn) (y13 := y13) (y22 := y22) (y23 := y23) (y24 := y24) (y33 := 0) (y36 := y36) (y37 := y37) (y38 := y38) (y39 := y39) (st := st) (lg := lg) (nn := 30) (show M1.1 = n by omega) (by omega) (by omega) (by omega) ha1 (by omega) (by omega) ((ho1 46 (by omega)).trans hU.2.2.1) (by omega) (by omega) ((ho1 48 (by omega)).trans hU.2.2.2.2) hxn hn2 (by omega)) d14_51_176 wd14_43 ha1 (by omega) (show 24 < M1.1 by omega) rfl s14_43 w1330 (Or.inl w1328) rfl rfl (Nat.le_of_ble_eq_true rfl) (by omega) (by omega) (by omega) ?_
        rintro v M3 ⟨rfl, hs3, ho3, hf3_0, hf3_1⟩
        replace hs3 : M3.1 = n := hs3
        replace hf3_0 : M3.2 46 = (.inl (0, 32, .inl (upd st 30 1))) := hf3_0
        replace hf3_1 : M3.2 48 = (.inl (0, 128, .inl (upd lg (4 * 30) 0))) := hf3_1
        refine xj_sub (L' := [(3, .int 0), (6, .int kI), (5, .int tm), (4, .int (nI c)), (0, .ref 24), (1, .int (nI nd)), (2, .int sI)]) (fun q hq => by simp only [List.mem_cons, List.not_mem_nil, or_false] at hq ⊢; rcases hq with rfl | rfl | rfl | rfl | rfl | rfl | rfl <;> simp) ?_
        have hw9 := sFol_o (z := z) (c := c)
        rw [← hWc] at hw9
        have hT7 : rU M M3 _ _ _ := ⟨(show M3.1 = M.1 by omega), (fun j hj z24 a b c => ((ho3 j (by omega) (by omega) (by omega)).trans (ho1 j (by omega)))), hf3_0, ((ho3 47 (by omega) (by omega) (by omega)).trans ((ho1 47 (by omega)).trans hU.2.2.2.1)), hf3_1⟩
        refine K M3 _ _ _ _ (rU_t hU hT7) ?_ (fun m hm => rSame_t (hSm m hm) (rSame_alone (by omega))) (by rw [hw9]; exact rL_alone) ?_
        · rw [hw9]
          exact ((ho3 24 (by omega) (by omega) (by omega)).trans ha1)
        · rw [hw9]
          exact (xB_f (fun q => xB_n hq9 (vA_o.mp q).1.2)).symm
      · refine xj_iconst (v := 1) d14_51_122 (by decide) ?_
        refine xj_goto (tgt := 127) d14_51_123 rfl ?_
        refine xj_istore_n (i := 3) (L' := [(3, .int 1), (7, .int 0), (6, .int kI), (5, .int tm), (4, .int (nI c)), (0, .ref 24), (1, .int (nI nd)), (2, .int sI)]) d14_51_127 rfl (by decide) rfl ?_
        refine xj_aload_n (i := 0) d14_51_128 rfl rfl ?_
        refine xj_get d14_51_129 f14_71_12 ha1 (by omega) (show 24 < M1.1 by omega) rfl ?_
        refine xj_iload (i := 4) d14_51_132 rfl ?_
        refine xj_zaload (j := c) d14_51_134 ((ho1 45 (by omega)).trans ((hU.2.1 45 (by omega) (by omega) (by omega) (by omega) (by omega)).trans k45)) (by omega) (show 45 < M1.1 by omega) (vp_in_nI (by omega) (by omega)) (nI_clamp (by omega)) ?_
        rw [show kn c = 0 from hkc]
        refine xj_if_eq (tgt := 149) d14_51_135 rfl (fun _ => ?_) (fun h => absurd (by decide) h)
        refine xj_iload_n (i := 3) d14_51_149 rfl rfl ?_
        refine xj_if_eq (tgt := 171) d14_51_150 rfl (fun h => absurd h (by decide)) (fun _ => ?_)
        refine xj_iload_n (i := 2) d14_51_153 rfl rfl ?_
        refine xj_if_lt (tgt := 167) d14_51_154 rfl (fun hs9 => ?_) (fun hs9 => ?_)
        · refine xj_iconst (v := 1) d14_51_167 (by decide) ?_
          refine xj_goto (tgt := 172) d14_51_168 rfl ?_
          refine xj_istore_n (i := 3) (L' := [(3, .int 1), (7, .int 0), (6, .int kI), (5, .int tm), (4, .int (nI c)), (0, .ref 24), (1, .int (nI nd)), (2, .int sI)]) d14_51_172 rfl (by decide) rfl ?_
          refine xj_aload_n (i := 0) d14_51_173 rfl rfl ?_
          refine xj_bipush (v := 30) d14_51_174 (by decide) ?_
          refine xj_callV (rest := []) (As := [.int 30]) (b := 24) (mAlone hg (M := M1) (n := n) (dl := dl) (pl := pl) (vc := vc) (tk := tk) (hc := hc) (sn := sn) (y13 := y13) (y22 := y22) (y23 := y23) (y24 := y24) (y33 := 0) (y36 := y36) (y37 := y37) (y38 := y38) (y39 := y39) (st := st) (lg := lg) (nn := 30) (show M1.1 = n by omega) (by omega) (by omega) (by omega) ha1 (by omega) (by omega) ((ho1 46 (by omega)).trans hU.2.2.1) (by omega) (by omega) ((ho1 48 (by omega)).trans hU.2.2.2.2) hxn hn2 (by omega)) d14_51_176 wd14_43 ha1 (by omega) (show 24 < M1.1 by omega) rfl s14_43 w1330 (Or.inl w1328) rfl rfl (Nat.le_of_ble_eq_true rfl) (by omega) (by omega) (by omega) ?_
          rintro v M4 ⟨rfl, hs4, ho4, hf4_0, hf4_1⟩
          replace hs4 : M4.1 = n := hs4
          replace hf4_0 : M4.2 46 = (.inl (0, 32, .inl (upd st 30 1))) := hf4_0
          replace hf4_1 : M4.2 48 = (.inl (0, 128, .inl (upd lg (4 * 30) 0))) := hf4_1
          refine xj_sub (L' := [(3, .int 1), (6, .int kI), (5, .int tm), (4, .int (nI c)), (0, .ref 24), (1, .int (nI nd)), (2, .int sI)]) (fun q hq => by simp only [List.mem_cons, List.not_mem_nil, or_false] at hq ⊢; rcases hq with rfl | rfl | rfl | rfl | rfl | rfl | rfl <;> simp) ?_
          have hw9 := sFol_o (z := z) (c := c)
          rw [← hWc] at hw9
          have hT7 : rU M M4 _ _ _ := ⟨(show M4.1 = M.1 by omega), (fun j hj z24 a b c => ((ho4 j (by omega) (by omega) (by omega)).trans (ho1 j (by omega)))), hf4_0, ((ho4 47 (by omega) (by omega) (by omega)).trans ((ho1 47 (by omega)).trans hU.2.2.2.1)), hf4_1⟩
          refine K M4 _ _ _ _ (rU_t hU hT7) ?_ (fun m hm => rSame_t (hSm m hm) (rSame_alone (by omega))) (by rw [hw9]; exact rL_alone) ?_
          · rw [hw9]
            exact ((ho4 24 (by omega) (by omega) (by omega)).trans ha1)
          · rw [hw9]
            exact (xB_t (vA_o.mpr ⟨⟨xB_y (by rw [← hx]; exact hz9), xB_y hq9⟩, hmy.elim (fun q => q.2) (fun q => absurd hs9 q.1)⟩)).symm
        · refine xj_aload_n (i := 0) d14_51_157 rfl rfl ?_
          refine xj_get d14_51_158 f14_83_12 ha1 (by omega) (show 24 < M1.1 by omega) rfl ?_
          refine xj_iload (i := 4) d14_51_161 rfl ?_
          refine xj_zaload (j := c) d14_51_163 ((ho1 49 (by omega)).trans ((hU.2.1 49 (by omega) (by omega) (by omega) (by omega) (by omega)).trans k49)) (by omega) (show 49 < M1.1 by omega) (vp_in_nI (by omega) (by omega)) (nI_clamp (by omega)) ?_
          refine xj_if_eq (tgt := 171) d14_51_164 rfl (fun hy9 => ?_) (fun hy9 => ?_)
          · refine xj_iconst (v := 0) d14_51_171 (by decide) ?_
            refine xj_istore_n (i := 3) (L' := [(3, .int 0), (7, .int 0), (6, .int kI), (5, .int tm), (4, .int (nI c)), (0, .ref 24), (1, .int (nI nd)), (2, .int sI)]) d14_51_172 rfl (by decide) rfl ?_
            refine xj_aload_n (i := 0) d14_51_173 rfl rfl ?_
            refine xj_bipush (v := 30) d14_51_174 (by decide) ?_
            refine xj_callV (rest := []) (As := [.int 30]) (b := 24) (mAlone hg (M := M1) (n := n) (dl := dl) (pl := pl) (vc := vc) (tk := tk) (hc := hc) (sn := sn) (y13 := y13) (y22 := y22) (y23 := y23) (y24 := y24) (y33 := 0) (y36 := y36) (y37 := y37) (y38 := y38) (y39 := y39) (st := st) (lg := lg) (nn := 30) (show M1.1 = n by omega) (by omega) (by omega) (by omega) ha1 (by omega) (by omega) ((ho1 46 (by omega)).trans hU.2.2.1) (by omega) (by omega) ((ho1 48 (by omega)).trans hU.2.2.2.2) hxn hn2 (by omega)) d14_51_176 wd14_43 ha1 (by omega) (show 24 < M1.1 by omega) rfl s14_43 w1330 (Or.inl w1328) rfl rfl (Nat.le_of_ble_eq_true rfl) (by omega) (by omega) (by omega) ?_
            rintro v M5 ⟨rfl, hs5, ho5, hf5_0, hf5_1⟩
            replace hs5 : M5.1 = n := hs5
            replace hf5_0 : M5.2 46 = (.inl (0, 32, .inl (upd st 30 1))) := hf5_0
            replace hf5_1 : M5.2 48 = (.inl (0, 128, .inl (upd lg (4 * 30) 0))) := hf5_1
            refine xj_sub (L' := [(3, .int 0), (6, .int kI), (5, .int tm), (4, .int (nI c)), (0, .ref 24), (1, .int (nI nd)), (2, .int sI)]) (fun q hq => by simp only [List.mem_cons, List.not_mem_nil, or_false] at hq ⊢; rcases hq with rfl | rfl | rfl | rfl | rfl | rfl | rfl <;> simp) ?_
            have hw9 := sFol_o (z := z) (c := c)
            rw [← hWc] at hw9
            have hT7 : rU M M5 _ _ _ := ⟨(show M5.1 = M.1 by omega), (fun j hj z24 a b c => ((ho5 j (by omega) (by omega) (by omega)).trans (ho1 j (by omega)))), hf5_0, ((ho5 47 (by omega) (by omega) (by omega)).trans ((ho1 47 (by omega)).trans hU.2.2.2.1)), hf5_1⟩
            refine K M5 _ _ _ _ (rU_t hU hT7) ?_ (fun m hm => rSame_t (hSm m hm) (rSame_alone (by omega))) (by rw [hw9]; exact rL_alone) ?_
            · rw [hw9]
              exact ((ho5 24 (by omega) (by omega) (by omega)).trans ha1)
            · rw [hw9]
              exact (xB_f (fun q => xB_n (p := V c) ((hmy.resolve_left (fun r => hs9 (by rw [r.1]; decide))).2.symm.trans hy9) (vA_o.mp q).2)).symm
          · refine xj_iconst (v := 1) d14_51_167 (by decide) ?_
            refine xj_goto (tgt := 172) d14_51_168 rfl ?_
            refine xj_istore_n (i := 3) (L' := [(3, .int 1), (7, .int 0), (6, .int kI), (5, .int tm), (4, .int (nI c)), (0, .ref 24), (1, .int (nI nd)), (2, .int sI)]) d14_51_172 rfl (by decide) rfl ?_
            refine xj_aload_n (i := 0) d14_51_173 rfl rfl ?_
            refine xj_bipush (v := 30) d14_51_174 (by decide) ?_
            refine xj_callV (rest := []) (As := [.int 30]) (b := 24) (mAlone hg (M := M1) (n := n) (dl := dl) (pl := pl) (vc := vc) (tk := tk) (hc := hc) (sn := sn) (y13 := y13) (y22 := y22) (y23 := y23) (y24 := y24) (y33 := 0) (y36 := y36) (y37 := y37) (y38 := y38) (y39 := y39) (st := st) (lg := lg) (nn := 30) (show M1.1 = n by omega) (by omega) (by omega) (by omega) ha1 (by omega) (by omega) ((ho1 46 (by omega)).trans hU.2.2.1) (by omega) (by omega) ((ho1 48 (by omega)).trans hU.2.2.2.2) hxn hn2 (by omega)) d14_51_176 wd14_43 ha1 (by omega) (show 24 < M1.1 by omega) rfl s14_43 w1330 (Or.inl w1328) rfl rfl (Nat.le_of_ble_eq_true rfl) (by omega) (by omega) (by omega) ?_
            rintro v M6 ⟨rfl, hs6, ho6, hf6_0, hf6_1⟩
            replace hs6 : M6.1 = n := hs6
            replace hf6_0 : M6.2 46 = (.inl (0, 32, .inl (upd st 30 1))) := hf6_0
            replace hf6_1 : M6.2 48 = (.inl (0, 128, .inl (upd lg (4 * 30) 0))) := hf6_1
            refine xj_sub (L' := [(3, .int 1), (6, .int kI), (5, .int tm), (4, .int (nI c)), (0, .ref 24), (1, .int (nI nd)), (2, .int sI)]) (fun q hq => by simp only [List.mem_cons, List.not_mem_nil, or_false] at hq ⊢; rcases hq with rfl | rfl | rfl | rfl | rfl | rfl | rfl <;> simp) ?_
            have hw9 := sFol_o (z := z) (c := c)
            rw [← hWc] at hw9
            have hT7 : rU M M6 _ _ _ := ⟨(show M6.1 = M.1 by omega), (fun j hj z24 a b c => ((ho6 j (by omega) (by omega) (by omega)).trans (ho1 j (by omega)))), hf6_0, ((ho6 47 (by omega) (by omega) (by omega)).trans ((ho1 47 (by omega)).trans hU.2.2.2.1)), hf6_1⟩
            refine K M6 _ _ _ _ (rU_t hU hT7) ?_ (fun m hm => rSame_t (hSm m hm) (rSame_alone (by omega))) (by rw [hw9]; exact rL_alone) ?_
            · rw [hw9]
              exact ((ho6 24 (by omega) (by omega) (by omega)).trans ha1)
            · rw [hw9]
              exact (xB_t (vA_o.mpr ⟨⟨xB_y (by rw [← hx]; exact hz9), xB_y hq9⟩, xB_y (p := V c) (fun r => hy9 ((hmy.resolve_left (fun r => hs9 (by rw [r.1]; decide))).2.trans r))⟩)).symm
  · clear hmy
    replace hLc := rL_same hLc (hSm c hc29)
    refine xj_aload_n (i := 0) d14_51_59 rfl rfl ?_
    refine xj_get d14_51_60 f14_71_12 h_24 (by omega) (show 24 < M.1 by omega) rfl ?_
    refine xj_iload (i := 4) d14_51_63 rfl ?_
    refine xj_zaload (j := c) d14_51_65 ((hU.2.1 45 (by omega) (by omega) (by omega) (by omega) (by omega)).trans k45) (by omega) (show 45 < M.1 by omega) (vp_in_nI (by omega) (by omega)) (nI_clamp (by omega)) ?_
    rw [show kn c = 1 from hkc]
    refine xj_if_eq (tgt := 84) d14_51_66 rfl (fun h => absurd h (by decide)) (fun _ => ?_)
    refine xj_aload_n (i := 0) d14_51_69 rfl rfl ?_
    refine xj_bipush (v := 30) d14_51_70 (by decide) ?_
    refine xj_iload (i := 4) d14_51_72 rfl ?_
    refine xj_callV (rest := []) (As := [.int 30, .int (nI c)]) (b := 24) (mJoin (a := 30) (b := c) hg hxn hn2 (show M.1 = n by omega) h_24 hU.2.2.1 hU.2.2.2.1 hU.2.2.2.2 (by omega) (by omega) (by omega) (show c < 32 by omega) (by omega) (by omega) hL30 hLc) d14_51_74 wd14_48 h_24 (by omega) (show 24 < M.1 by omega) rfl s14_48 w1334 (Or.inl w1332) rfl rfl (Nat.le_of_ble_eq_true rfl) (by omega) (by omega) (by omega) ?_
    rintro v5 M5 ⟨st5, lg5, lt5, hT5, hS5, hc5⟩
    replace hT5 : rT M M5 st5 lg5 lt5 := hT5
    have hm5 := hT5.1
    rcases hc5 with ⟨hJ, rfl⟩ | ⟨J, hJ, rfl, hL5⟩
    · refine xj_if_eq (tgt := 84) d14_51_77 rfl (fun _ => ?_) (fun h => absurd (by decide) h)
      refine xj_iconst (v := 0) d14_51_84 (by decide) ?_
      refine xj_istore (i := 7) (L' := [(7, .int 0), (3, .int x), (6, .int kI), (5, .int tm), (4, .int (nI c)), (0, .ref 24), (1, .int (nI nd)), (2, .int sI)]) d14_51_85 (by decide) rfl ?_
      refine xj_iload (i := 7) d14_51_87 rfl ?_
      refine xj_if_eq (tgt := 103) d14_51_89 rfl (fun _ => ?_) (fun h => absurd (by decide) h)
      refine xj_aload_n (i := 0) d14_51_103 rfl rfl ?_
      refine xj_iconst (v := 0) d14_51_104 (by decide) ?_
      refine xj_put (a := 24) (fs' := [.ref 25, .ref 26, .ref 27, .ref 28, .ref 29, .ref 30, .int (nI sn), .int (nI vc), .int (nI tk), .ref 31, .int (nI dl), .ref 32, .int (nI pl), .int y13, .ref 33, .ref 34, .ref 35, .ref 36, .ref 37, .ref 38, .ref 39, .ref 40, .int y22, .int y23, .int y24, .ref 41, .ref 42, .ref 43, .ref 44, .ref 45, .ref 46, .ref 47, .ref 48, .int 0, .ref 49, .ref 50, .int y36, .int y37, .int y38, .int y39, .int (nI hc), .ref 51]) d14_51_105 f14_232_12 ((hT5.2.1 24 (by omega) (by omega) (by omega) (by omega)).trans h_24) (by omega) (show 24 < M5.1 by omega) (Nat.le_of_ble_eq_true rfl) rfl rfl rfl ?_
      refine xj_abs_set (fun M1 hs1 ha1 ho1 => ?_)
      refine xj_iload_n (i := 3) d14_51_108 rfl rfl ?_
      refine xj_if_eq (tgt := 126) d14_51_109 rfl (fun hz9 => ?_) (fun hz9 => ?_)
      · refine xj_iconst (v := 0) d14_51_126 (by decide) ?_
        refine xj_istore_n (i := 3) (L' := [(3, .int 0), (7, .int 0), (6, .int kI), (5, .int tm), (4, .int (nI c)), (0, .ref 24), (1, .int (nI nd)), (2, .int sI)]) d14_51_127 rfl (by decide) rfl ?_
        refine xj_aload_n (i := 0) d14_51_128 rfl rfl ?_
        refine xj_get d14_51_129 f14_71_12 ha1 (by omega) (show 24 < M1.1 by omega) rfl ?_
        refine xj_iload (i := 4) d14_51_132 rfl ?_
        refine xj_zaload (j := c) d14_51_134 ((ho1 45 (by omega)).trans ((hT5.2.1 45 (by omega) (by omega) (by omega) (by omega)).trans ((hU.2.1 45 (by omega) (by omega) (by omega) (by omega) (by omega)).trans k45))) (by omega) (show 45 < M1.1 by omega) (vp_in_nI (by omega) (by omega)) (nI_clamp (by omega)) ?_
        rw [show kn c = 1 from hkc]
        refine xj_if_eq (tgt := 149) d14_51_135 rfl (fun h => absurd h (by decide)) (fun _ => ?_)
        refine xj_aload_n (i := 0) d14_51_138 rfl rfl ?_
        refine xj_iload (i := 4) d14_51_139 rfl ?_
        refine xj_bipush (v := 30) d14_51_141 (by decide) ?_
        refine xj_callV (rest := []) (As := [.int (nI c), .int 30]) (b := 24) (mCopy hg hxn hn2 (show M1.1 = n by omega) ha1 ((ho1 46 (by omega)).trans hT5.2.2.1) ((ho1 47 (by omega)).trans hT5.2.2.2.1) ((ho1 48 (by omega)).trans hT5.2.2.2.2) (fr := c) (to := 30) (by omega) (by omega) (by omega) (rL_same hLc (hS5 c (by omega) (by omega)))) d14_51_143 wd14_45 ha1 (by omega) (show 24 < M1.1 by omega) rfl s14_45 w1318 (Or.inl w1316) rfl rfl (Nat.le_of_ble_eq_true rfl) (by omega) (by omega) (by omega) ?_
        rintro v6 M6 ⟨rfl, st6, lg6, lt6, hT6, hL6, hS6⟩
        replace hT6 : rT M1 M6 st6 lg6 lt6 := hT6
        have hm6 := hT6.1
        refine xj_goto (tgt := 179) d14_51_146 rfl ?_
        refine xj_sub (L' := [(3, .int 0), (6, .int kI), (5, .int tm), (4, .int (nI c)), (0, .ref 24), (1, .int (nI nd)), (2, .int sI)]) (fun q hq => by simp only [List.mem_cons, List.not_mem_nil, or_false] at hq ⊢; rcases hq with rfl | rfl | rfl | rfl | rfl | rfl | rfl <;> simp) ?_
        have hw9 := sFol_n (c := c) hJ
        rw [← hWc] at hw9
        have hT7 : rU M5 M6 st6 lg6 lt6 := ⟨(show M6.1 = M5.1 by omega), (fun j hj z24 a b c => ((hT6.2.1 j (by omega) (by omega) (by omega) (by omega)).trans (ho1 j (by omega)))), hT6.2.2.1, hT6.2.2.2.1, hT6.2.2.2.2⟩
        refine K M6 st6 lg6 lt6 _ (rU_t (rU_T hU hT5) hT7) ?_ (fun m hm => rSame_t (hSm m hm) (rSame_t (hS5 m (by omega) (by omega)) (hS6 m (by omega)))) (by rw [hw9]; exact hL6) ?_
        · rw [hw9]
          exact ((hT6.2.1 24 (by omega) (by omega) (by omega) (by omega)).trans ha1)
        · rw [hw9]
          exact (xB_f (fun q => xB_n (p := vA al V z) (by rw [← hx]; exact hz9) (vA_n.mp q).1)).symm
      · refine xj_aload_n (i := 0) d14_51_112 rfl rfl ?_
        refine xj_iload_n (i := 2) d14_51_113 rfl rfl ?_
        refine xj_bipush (v := 30) d14_51_114 (by decide) ?_
        refine xj_callV (rest := []) (As := [.int sI, .int 30]) (b := 24) (mAllow hg hxn hn2 (show M1.1 = n by omega) ha1 ((ho1 46 (by omega)).trans hT5.2.2.1) ((ho1 47 (by omega)).trans hT5.2.2.2.1) ((ho1 48 (by omega)).trans hT5.2.2.2.2) ((ho1 25 (by omega)).trans ((hT5.2.1 25 (by omega) (by omega) (by omega) (by omega)).trans ((hU.2.1 25 (by omega) (by omega) (by omega) (by omega) (by omega)).trans k25))) ((ho1 26 (by omega)).trans ((hT5.2.1 26 (by omega) (by omega) (by omega) (by omega)).trans ((hU.2.1 26 (by omega) (by omega) (by omega) (by omega) (by omega)).trans k26))) (l := 30) (by omega) (rL_same hL30 (hS5 30 (by omega) (by omega))) hsl) d14_51_116 wd14_50 ha1 (by omega) (show 24 < M1.1 by omega) rfl s14_50 w1338 (Or.inl w1336) rfl rfl (Nat.le_of_ble_eq_true rfl) (by omega) (by omega) (by omega) ?_
        rintro v9 M' ⟨rfl, hm9⟩
        subst M'
        refine xj_if_eq (tgt := 126) d14_51_119 rfl (fun hq9 => ?_) (fun hq9 => ?_)
        · refine xj_iconst (v := 0) d14_51_126 (by decide) ?_
          refine xj_istore_n (i := 3) (L' := [(3, .int 0), (7, .int 0), (6, .int kI), (5, .int tm), (4, .int (nI c)), (0, .ref 24), (1, .int (nI nd)), (2, .int sI)]) d14_51_127 rfl (by decide) rfl ?_
          refine xj_aload_n (i := 0) d14_51_128 rfl rfl ?_
          refine xj_get d14_51_129 f14_71_12 ha1 (by omega) (show 24 < M1.1 by omega) rfl ?_
          refine xj_iload (i := 4) d14_51_132 rfl ?_
          refine xj_zaload (j := c) d14_51_134 ((ho1 45 (by omega)).trans ((hT5.2.1 45 (by omega) (by omega) (by omega) (by omega)).trans ((hU.2.1 45 (by omega) (by omega) (by omega) (by omega) (by omega)).trans k45))) (by omega) (show 45 < M1.1 by omega) (vp_in_nI (by omega) (by omega)) (nI_clamp (by omega)) ?_
          rw [show kn c = 1 from hkc]
          refine xj_if_eq (tgt := 149) d14_51_135 rfl (fun h => absurd h (by decide)) (fun _ => ?_)
          refine xj_aload_n (i := 0) d14_51_138 rfl rfl ?_
          refine xj_iload (i := 4) d14_51_139 rfl ?_
          refine xj_bipush (v := 30) d14_51_141 (by decide) ?_
          refine xj_callV (rest := []) (As := [.int (nI c), .int 30]) (b := 24) (mCopy hg hxn hn2 (show M1.1 = n by omega) ha1 ((ho1 46 (by omega)).trans hT5.2.2.1) ((ho1 47 (by omega)).trans hT5.2.2.2.1) ((ho1 48 (by omega)).trans hT5.2.2.2.2) (fr := c) (to := 30) (by omega) (by omega) (by omega) (rL_same hLc (hS5 c (by omega) (by omega)))) d14_51_143 wd14_45 ha1 (by omega) (show 24 < M1.1 by omega) rfl s14_45 w1318 (Or.inl w1316) rfl rfl (Nat.le_of_ble_eq_true rfl) (by omega) (by omega) (by omega) ?_
          rintro v6 M6 ⟨rfl, st6, lg6, lt6, hT6, hL6, hS6⟩
          replace hT6 : rT M1 M6 st6 lg6 lt6 := hT6
          have hm6 := hT6.1
          refine xj_goto (tgt := 179) d14_51_146 rfl ?_
          refine xj_sub (L' := [(3, .int 0), (6, .int kI), (5, .int tm), (4, .int (nI c)), (0, .ref 24), (1, .int (nI nd)), (2, .int sI)]) (fun q hq => by simp only [List.mem_cons, List.not_mem_nil, or_false] at hq ⊢; rcases hq with rfl | rfl | rfl | rfl | rfl | rfl | rfl <;> simp) ?_
          have hw9 := sFol_n (c := c) hJ
          rw [← hWc] at hw9
          have hT7 : rU M5 M6 st6 lg6 lt6 := ⟨(show M6.1 = M5.1 by omega), (fun j hj z24 a b c => ((hT6.2.1 j (by omega) (by omega) (by omega) (by omega)).trans (ho1 j (by omega)))), hT6.2.2.1, hT6.2.2.2.1, hT6.2.2.2.2⟩
          refine K M6 st6 lg6 lt6 _ (rU_t (rU_T hU hT5) hT7) ?_ (fun m hm => rSame_t (hSm m hm) (rSame_t (hS5 m (by omega) (by omega)) (hS6 m (by omega)))) (by rw [hw9]; exact hL6) ?_
          · rw [hw9]
            exact ((hT6.2.1 24 (by omega) (by omega) (by omega) (by omega)).trans ha1)
          · rw [hw9]
            exact (xB_f (fun q => xB_n hq9 (vA_n.mp q).2)).symm
        · refine xj_iconst (v := 1) d14_51_122 (by decide) ?_
          refine xj_goto (tgt := 127) d14_51_123 rfl ?_
          refine xj_istore_n (i := 3) (L' := [(3, .int 1), (7, .int 0), (6, .int kI), (5, .int tm), (4, .int (nI c)), (0, .ref 24), (1, .int (nI nd)), (2, .int sI)]) d14_51_127 rfl (by decide) rfl ?_
          refine xj_aload_n (i := 0) d14_51_128 rfl rfl ?_
          refine xj_get d14_51_129 f14_71_12 ha1 (by omega) (show 24 < M1.1 by omega) rfl ?_
          refine xj_iload (i := 4) d14_51_132 rfl ?_
          refine xj_zaload (j := c) d14_51_134 ((ho1 45 (by omega)).trans ((hT5.2.1 45 (by omega) (by omega) (by omega) (by omega)).trans ((hU.2.1 45 (by omega) (by omega) (by omega) (by omega) (by omega)).trans k45))) (by omega) (show 45 < M1.1 by omega) (vp_in_nI (by omega) (by omega)) (nI_clamp (by omega)) ?_
          rw [show kn c = 1 from hkc]
          refine xj_if_eq (tgt := 149) d14_51_135 rfl (fun h => absurd h (by decide)) (fun _ => ?_)
          refine xj_aload_n (i := 0) d14_51_138 rfl rfl ?_
          refine xj_iload (i := 4) d14_51_139 rfl ?_
          refine xj_bipush (v := 30) d14_51_141 (by decide) ?_
          refine xj_callV (rest := []) (As := [.int (nI c), .int 30]) (b := 24) (mCopy hg hxn hn2 (show M1.1 = n by omega) ha1 ((ho1 46 (by omega)).trans hT5.2.2.1) ((ho1 47 (by omega)).trans hT5.2.2.2.1) ((ho1 48 (by omega)).trans hT5.2.2.2.2) (fr := c) (to := 30) (by omega) (by omega) (by omega) (rL_same hLc (hS5 c (by omega) (by omega)))) d14_51_143 wd14_45 ha1 (by omega) (show 24 < M1.1 by omega) rfl s14_45 w1318 (Or.inl w1316) rfl rfl (Nat.le_of_ble_eq_true rfl) (by omega) (by omega) (by omega) ?_
          rintro v6 M6 ⟨rfl, st6, lg6, lt6, hT6, hL6, hS6⟩
          replace hT6 : rT M1 M6 st6 lg6 lt6 := hT6
          have hm6 := hT6.1
          refine xj_goto (tgt := 179) d14_51_146 rfl ?_
          refine xj_sub (L' := [(3, .int 1), (6, .int kI), (5, .int tm), (4, .int (nI c)), (0, .ref 24), (1, .int (nI nd)), (2, .int sI)]) (fun q hq => by simp only [List.mem_cons, List.not_mem_nil, or_false] at hq ⊢; rcases hq with rfl | rfl | rfl | rfl | rfl | rfl | rfl <;> simp) ?_
          have hw9 := sFol_n (c := c) hJ
          rw [← hWc] at hw9
          have hT7 : rU M5 M6 st6 lg6 lt6 := ⟨(show M6.1 = M5.1 by omega), (fun j hj z24 a b c => ((hT6.2.1 j (by omega) (by omega) (by omega) (by omega)).trans (ho1 j (by omega)))), hT6.2.2.1, hT6.2.2.2.1, hT6.2.2.2.2⟩
          refine K M6 st6 lg6 lt6 _ (rU_t (rU_T hU hT5) hT7) ?_ (fun m hm => rSame_t (hSm m hm) (rSame_t (hS5 m (by omega) (by omega)) (hS6 m (by omega)))) (by rw [hw9]; exact hL6) ?_
          · rw [hw9]
            exact ((hT6.2.1 24 (by omega) (by omega) (by omega) (by omega)).trans ha1)
          · rw [hw9]
            exact (xB_t (vA_n.mpr ⟨xB_y (by rw [← hx]; exact hz9), xB_y hq9⟩)).symm
    · refine xj_if_eq (tgt := 84) d14_51_77 rfl (fun h => absurd h (by decide)) (fun _ => ?_)
      refine xj_iconst (v := 1) d14_51_80 (by decide) ?_
      refine xj_goto (tgt := 85) d14_51_81 rfl ?_
      refine xj_istore (i := 7) (L' := [(7, .int 1), (3, .int x), (6, .int kI), (5, .int tm), (4, .int (nI c)), (0, .ref 24), (1, .int (nI nd)), (2, .int sI)]) d14_51_85 (by decide) rfl ?_
      refine xj_iload (i := 7) d14_51_87 rfl ?_
      refine xj_if_eq (tgt := 103) d14_51_89 rfl (fun h => absurd h (by decide)) (fun _ => ?_)
      refine xj_aload_n (i := 0) d14_51_92 rfl rfl ?_
      refine xj_bipush (v := 31) d14_51_93 (by decide) ?_
      refine xj_bipush (v := 30) d14_51_95 (by decide) ?_
      refine xj_callV (rest := []) (As := [.int 31, .int 30]) (b := 24) (mCopy hg hxn hn2 (show M5.1 = n by omega) ((hT5.2.1 24 (by omega) (by omega) (by omega) (by omega)).trans h_24) hT5.2.2.1 hT5.2.2.2.1 hT5.2.2.2.2 (fr := 31) (to := 30) (by omega) (by omega) (by omega) hL5) d14_51_97 wd14_45 ((hT5.2.1 24 (by omega) (by omega) (by omega) (by omega)).trans h_24) (by omega) (show 24 < M5.1 by omega) rfl s14_45 w1318 (Or.inl w1316) rfl rfl (Nat.le_of_ble_eq_true rfl) (by omega) (by omega) (by omega) ?_
      rintro v6 M6 ⟨rfl, st6, lg6, lt6, hT6, hL6, hS6⟩
      replace hT6 : rT M5 M6 st6 lg6 lt6 := hT6
      have hm6 := hT6.1
      refine xj_goto (tgt := 179) d14_51_100 rfl ?_
      refine xj_sub (L' := [(3, .int x), (6, .int kI), (5, .int tm), (4, .int (nI c)), (0, .ref 24), (1, .int (nI nd)), (2, .int sI)]) (fun q hq => by simp only [List.mem_cons, List.not_mem_nil, or_false] at hq ⊢; rcases hq with rfl | rfl | rfl | rfl | rfl | rfl | rfl <;> simp) ?_
      have hw9 := sFol_y (c := c) hJ
      rw [← hWc] at hw9
      refine K M6 st6 lg6 lt6 _ (rU_T (rU_T hU hT5) hT6) ?_ (fun m hm => rSame_t (hSm m hm) (rSame_t (hS5 m (by omega) (by omega)) (hS6 m (by omega)))) (by rw [hw9]; exact hL6) (by rw [hw9]; exact hx)
      rw [hw9]
      exact ((hT6.2.1 24 (by omega) (by omega) (by omega) (by omega)).trans ((hT5.2.1 24 (by omega) (by omega) (by omega) (by omega)).trans h_24))
set_option maxRecDepth 20000 in
theorem mWk4 {G : xG} (hg : xGood G) (hxn : xn = 16) {n : Nat} (hn2 : 52 ≤ n) {dl : Nat} {pl : Nat} {vc : Nat} {tk : Nat} {hc : Nat} {sn : Nat} {y13 : Int32} {y22 : Int32} {y23 : Int32} {y24 : Int32} {y36 : Int32} {y37 : Int32} {y38 : Int32} {y39 : Int32} {M0 : xM} (hn0 : M0.1 = n) {tx te kd ch nx lo kn my : Nat → Int32} {st0 lg0 lt0 : Nat → Int32} (k25 : M0.2 25 = (.inl (0, 5120, .inl tx))) (k26 : M0.2 26 = (.inl (0, 128, .inl te))) (k33 : M0.2 33 = (.inl (0, 30, .inl kd))) (k34 : M0.2 34 = (.inl (0, 30, .inl ch))) (k35 : M0.2 35 = (.inl (0, 30, .inl nx))) (k37 : M0.2 37 = (.inl (0, 30, .inl lo))) (k45 : M0.2 45 = (.inl (2, 32, .inl kn))) (k49 : M0.2 49 = (.inl (2, 30, .inl my))) {al : List (List Int32) → Prop} {V : Nat → Prop} {W : Nat → Option (List (List Int32))} {sI : Int32} (hsl : rSl sI tx te al) {nd e kk : Nat} (hnd : nd < 30) (hkd : kd nd = 4) (hkk : kk ≤ 9) (hce : (e < 29 ∧ rKn st0 lg0 lt0 kn W e ∧ (W e = none → rMy sI my V e))) {d ce se cells slots : Nat} {Post : Option Value → xM → Prop} (hd : 3 ≤ d) (hcc : cells ≤ ce) (hss : slots ≤ se) (K : ∀ (M' : xM) (st' lg' lt' : Nat → Int32) (x' kI pI : Int32), rU M0 M' st' lg' lt' → M'.2 24 = (.inr (12, [.ref 25, .ref 26, .ref 27, .ref 28, .ref 29, .ref 30, .int (nI sn), .int (nI vc), .int (nI tk), .ref 31, .int (nI dl), .ref 32, .int (nI pl), .int y13, .ref 33, .ref 34, .ref 35, .ref 36, .ref 37, .ref 38, .ref 39, .ref 40, .int y22, .int y23, .int y24, .ref 41, .ref 42, .ref 43, .ref 44, .ref 45, .ref 46, .ref 47, .ref 48, .int ((sTimes W e kk).2.2.2), .ref 49, .ref 50, .int y36, .int y37, .int y38, .int y39, .int (nI hc), .ref 51])) → (∀ m, m < 29 → rSame st0 lg0 lt0 st' lg' lt' m) → rL st' lg' lt' 30 (sTimes W e kk).2.2.1 → x' = xB (vA al V (sTimes W e kk)) → XJ G Y14_51 d ce se cells slots 209 [(3, .int x'), (0, .ref 24), (1, .int (nI nd)), (2, .int sI)] [] M' Post) : ∀ (r k : Nat) (M : xM) (st lg lt : Nat → Int32) (x : Int32), k + r = kk → rU M0 M st lg lt → M.2 24 = (.inr (12, [.ref 25, .ref 26, .ref 27, .ref 28, .ref 29, .ref 30, .int (nI sn), .int (nI vc), .int (nI tk), .ref 31, .int (nI dl), .ref 32, .int (nI pl), .int y13, .ref 33, .ref 34, .ref 35, .ref 36, .ref 37, .ref 38, .ref 39, .ref 40, .int y22, .int y23, .int y24, .ref 41, .ref 42, .ref 43, .ref 44, .ref 45, .ref 46, .ref 47, .ref 48, .int ((sTimes W e k).2.2.2), .ref 49, .ref 50, .int y36, .int y37, .int y38, .int y39, .int (nI hc), .ref 51])) → (∀ m, m < 29 → rSame st0 lg0 lt0 st lg lt m) → rL st lg lt 30 (sTimes W e k).2.2.1 → x = xB (vA al V (sTimes W e k)) → XJ G Y14_51 d ce se cells slots 47 [(6, .int (nI k)), (4, .int (nI e)), (3, .int x), (5, .int (nI kk)), (0, .ref 24), (1, .int (nI nd)), (2, .int sI)] [] M Post := by
  intro r
  have he29 := hce.1
  induction r with
  | zero =>
    intro k M st lg lt x hk hU h_24 hSm hL30 hx
    have hm0 := hU.1
    have hk' : k = kk := by omega
    refine xj_iload (i := 6) d14_51_47 rfl ?_
    refine xj_iload (i := 5) d14_51_49 rfl ?_
    refine xj_icmp_ge (tgt := 209) d14_51_51 rfl (fun _ => ?_) (fun h => absurd (nI_le (a := kk) (b := k) (by omega) (by omega)) h)
    rw [hk'] at h_24 hL30 hx
    refine xj_sub (L' := [(3, .int x), (0, .ref 24), (1, .int (nI nd)), (2, .int sI)]) (fun q hq => by simp only [List.mem_cons, List.not_mem_nil, or_false] at hq ⊢; rcases hq with rfl | rfl | rfl | rfl <;> simp) ?_
    exact K M st lg lt x 0 0 hU h_24 hSm hL30 hx
  | succ r ih =>
    intro k M st lg lt x hk hU h_24 hSm hL30 hx
    refine xj_iload (i := 6) d14_51_47 rfl ?_
    refine xj_iload (i := 5) d14_51_49 rfl ?_
    refine xj_icmp_ge (tgt := 209) d14_51_51 rfl (fun h => absurd h (nI_ge (a := k) (b := kk) (by omega) (by omega))) (fun _ => ?_)
    refine xj_iload (i := 4) d14_51_54 rfl ?_
    refine xj_if_lt (tgt := 209) d14_51_56 rfl (fun h => absurd h (nI_pos (by omega))) (fun _ => ?_)
    have hm0 := hU.1
    refine xj_sub (L' := [(3, .int x), (6, .int (nI k)), (5, .int (nI kk)), (4, .int (nI e)), (0, .ref 24), (1, .int (nI nd)), (2, .int sI)]) (fun q hq => by simp only [List.mem_cons, List.not_mem_nil, or_false] at hq ⊢; rcases hq with rfl | rfl | rfl | rfl | rfl | rfl | rfl <;> simp) ?_
    refine mWkB hg hxn hn2 hn0 k25 k26 k33 k34 k35 k37 k45 k49 hsl (c := e) hce.1 hce.2.1 hce.2.2 hU h_24 hSm hL30 hx hd hcc hss (fun M8 st8 lg8 lt8 x8 hU8 h24 hS8 hL8 hx8 => ?_)
    have hm8 := hU8.1
    refine xj_aload_n (i := 0) d14_51_179 rfl rfl ?_
    refine xj_get d14_51_180 f14_35_12 h24 (by omega) (show 24 < M8.1 by omega) rfl ?_
    refine xj_iload_n (i := 1) d14_51_183 rfl rfl ?_
    refine xj_iaload (j := nd) d14_51_184 ((hU8.2.1 33 (by omega) (by omega) (by omega) (by omega) (by omega)).trans k33) (by omega) (show 33 < M8.1 by omega) (vp_in_nI (by omega) (by omega)) (nI_clamp (by omega)) ?_
    refine xj_iconst (v := 4) d14_51_185 (by decide) ?_
    refine xj_icmp_ne (tgt := 194) d14_51_186 rfl (fun h => absurd hkd h) (fun _ => ?_)
    refine xj_iload (i := 4) d14_51_189 rfl ?_
    refine xj_goto (tgt := 201) d14_51_191 rfl ?_
    refine xj_istore (i := 4) (L' := [(4, .int (nI e)), (3, .int x8), (6, .int (nI k)), (5, .int (nI kk)), (0, .ref 24), (1, .int (nI nd)), (2, .int sI)]) d14_51_201 (by decide) rfl ?_
    refine xj_iinc (v := nI (k + 1)) (L' := [(6, .int (nI (k + 1))), (4, .int (nI e)), (3, .int x8), (5, .int (nI kk)), (0, .ref 24), (1, .int (nI nd)), (2, .int sI)]) d14_51_203 rfl (xinc _) (by decide) rfl ?_
    refine xj_goto (tgt := 47) d14_51_206 rfl ?_
    exact ih (k + 1) M8 st8 lg8 lt8 x8 (by omega) hU8 h24 hS8 hL8 hx8
set_option maxRecDepth 20000 in
theorem mWk5 {G : xG} (hg : xGood G) (hxn : xn = 16) {n : Nat} (hn2 : 52 ≤ n) {dl : Nat} {pl : Nat} {vc : Nat} {tk : Nat} {hc : Nat} {sn : Nat} {y13 : Int32} {y22 : Int32} {y23 : Int32} {y24 : Int32} {y36 : Int32} {y37 : Int32} {y38 : Int32} {y39 : Int32} {M0 : xM} (hn0 : M0.1 = n) {tx te kd ch nx lo kn my : Nat → Int32} {st0 lg0 lt0 : Nat → Int32} (k25 : M0.2 25 = (.inl (0, 5120, .inl tx))) (k26 : M0.2 26 = (.inl (0, 128, .inl te))) (k33 : M0.2 33 = (.inl (0, 30, .inl kd))) (k34 : M0.2 34 = (.inl (0, 30, .inl ch))) (k35 : M0.2 35 = (.inl (0, 30, .inl nx))) (k37 : M0.2 37 = (.inl (0, 30, .inl lo))) (k45 : M0.2 45 = (.inl (2, 32, .inl kn))) (k49 : M0.2 49 = (.inl (2, 30, .inl my))) {al : List (List Int32) → Prop} {V : Nat → Prop} {W : Nat → Option (List (List Int32))} {sI : Int32} (hsl : rSl sI tx te al) {nd : Nat} {Z : xNl} (hnd : nd < 30) (hkd : ¬ kd nd = 4) {d ce se cells slots : Nat} {Post : Option Value → xM → Prop} (hd : 3 ≤ d) (hcc : cells ≤ ce) (hss : slots ≤ se) (K : ∀ (M' : xM) (st' lg' lt' : Nat → Int32) (x' kI pI : Int32), rU M0 M' st' lg' lt' → M'.2 24 = (.inr (12, [.ref 25, .ref 26, .ref 27, .ref 28, .ref 29, .ref 30, .int (nI sn), .int (nI vc), .int (nI tk), .ref 31, .int (nI dl), .ref 32, .int (nI pl), .int y13, .ref 33, .ref 34, .ref 35, .ref 36, .ref 37, .ref 38, .ref 39, .ref 40, .int y22, .int y23, .int y24, .ref 41, .ref 42, .ref 43, .ref 44, .ref 45, .ref 46, .ref 47, .ref 48, .int Z.2.2.2, .ref 49, .ref 50, .int y36, .int y37, .int y38, .int y39, .int (nI hc), .ref 51])) → (∀ m, m < 29 → rSame st0 lg0 lt0 st' lg' lt' m) → rL st' lg' lt' 30 Z.2.2.1 → x' = xB (vA al V Z) → XJ G Y14_51 d ce se cells slots 209 [(3, .int x'), (0, .ref 24), (1, .int (nI nd)), (2, .int sI)] [] M' Post) : ∀ (l : List Nat) (k : Nat) (p : Int32) (z : xNl) (M : xM) (st lg lt : Nat → Int32) (x : Int32), xCn nx p l → k + l.length ≤ 28 → (∀ c ∈ l, (c < 29 ∧ rKn st0 lg0 lt0 kn W c ∧ (W c = none → rMy sI my V c))) → Z = l.foldl (fun z c => sFol z c (W c)) z → rU M0 M st lg lt → M.2 24 = (.inr (12, [.ref 25, .ref 26, .ref 27, .ref 28, .ref 29, .ref 30, .int (nI sn), .int (nI vc), .int (nI tk), .ref 31, .int (nI dl), .ref 32, .int (nI pl), .int y13, .ref 33, .ref 34, .ref 35, .ref 36, .ref 37, .ref 38, .ref 39, .ref 40, .int y22, .int y23, .int y24, .ref 41, .ref 42, .ref 43, .ref 44, .ref 45, .ref 46, .ref 47, .ref 48, .int z.2.2.2, .ref 49, .ref 50, .int y36, .int y37, .int y38, .int y39, .int (nI hc), .ref 51])) → (∀ m, m < 29 → rSame st0 lg0 lt0 st lg lt m) → rL st lg lt 30 z.2.2.1 → x = xB (vA al V z) → XJ G Y14_51 d ce se cells slots 47 [(6, .int (nI k)), (4, .int p), (3, .int x), (5, .int 30), (0, .ref 24), (1, .int (nI nd)), (2, .int sI)] [] M Post := by
  intro l
  induction l with
  | nil =>
    intro k p z M st lg lt x hcn hk hcl hZ hU h_24 hSm hL30 hx
    have hm0 := hU.1
    have hp : p = -1 := hcn
    subst hp
    have hZ' : Z = z := hZ
    subst hZ'
    have hk' : k + 0 ≤ 28 := hk
    refine xj_iload (i := 6) d14_51_47 rfl ?_
    refine xj_iload (i := 5) d14_51_49 rfl ?_
    refine xj_icmp_ge (tgt := 209) d14_51_51 rfl (fun h => absurd h (nI_ge (a := k) (b := 30) (by omega) (by omega))) (fun _ => ?_)
    refine xj_iload (i := 4) d14_51_54 rfl ?_
    refine xj_if_lt (tgt := 209) d14_51_56 rfl (fun _ => ?_) (fun h => absurd (by decide) h)
    refine xj_sub (L' := [(3, .int x), (0, .ref 24), (1, .int (nI nd)), (2, .int sI)]) (fun q hq => by simp only [List.mem_cons, List.not_mem_nil, or_false] at hq ⊢; rcases hq with rfl | rfl | rfl | rfl <;> simp) ?_
    exact K M st lg lt x 0 0 hU h_24 hSm hL30 hx
  | cons c l ih =>
    intro k p z M st lg lt x hcn hk hcl hZ hU h_24 hSm hL30 hx
    have hp : p = nI c := hcn.1
    subst hp
    rw [List.length_cons] at hk
    have hcc9 := hcl c List.mem_cons_self
    have hc29 := hcc9.1
    refine xj_iload (i := 6) d14_51_47 rfl ?_
    refine xj_iload (i := 5) d14_51_49 rfl ?_
    refine xj_icmp_ge (tgt := 209) d14_51_51 rfl (fun h => absurd h (nI_ge (a := k) (b := 30) (by omega) (by omega))) (fun _ => ?_)
    refine xj_iload (i := 4) d14_51_54 rfl ?_
    refine xj_if_lt (tgt := 209) d14_51_56 rfl (fun h => absurd h (nI_pos (by omega))) (fun _ => ?_)
    have hm0 := hU.1
    refine xj_sub (L' := [(3, .int x), (6, .int (nI k)), (5, .int 30), (4, .int (nI c)), (0, .ref 24), (1, .int (nI nd)), (2, .int sI)]) (fun q hq => by simp only [List.mem_cons, List.not_mem_nil, or_false] at hq ⊢; rcases hq with rfl | rfl | rfl | rfl | rfl | rfl | rfl <;> simp) ?_
    refine mWkB hg hxn hn2 hn0 k25 k26 k33 k34 k35 k37 k45 k49 hsl (c := c) hcc9.1 hcc9.2.1 hcc9.2.2 hU h_24 hSm hL30 hx hd hcc hss (fun M8 st8 lg8 lt8 x8 hU8 h24 hS8 hL8 hx8 => ?_)
    have hm8 := hU8.1
    refine xj_aload_n (i := 0) d14_51_179 rfl rfl ?_
    refine xj_get d14_51_180 f14_35_12 h24 (by omega) (show 24 < M8.1 by omega) rfl ?_
    refine xj_iload_n (i := 1) d14_51_183 rfl rfl ?_
    refine xj_iaload (j := nd) d14_51_184 ((hU8.2.1 33 (by omega) (by omega) (by omega) (by omega) (by omega)).trans k33) (by omega) (show 33 < M8.1 by omega) (vp_in_nI (by omega) (by omega)) (nI_clamp (by omega)) ?_
    refine xj_iconst (v := 4) d14_51_185 (by decide) ?_
    refine xj_icmp_ne (tgt := 194) d14_51_186 rfl (fun _ => ?_) (fun h => absurd h hkd)
    refine xj_aload_n (i := 0) d14_51_194 rfl rfl ?_
    refine xj_get d14_51_195 f14_41_12 h24 (by omega) (show 24 < M8.1 by omega) rfl ?_
    refine xj_iload (i := 4) d14_51_198 rfl ?_
    refine xj_iaload (j := c) d14_51_200 ((hU8.2.1 35 (by omega) (by omega) (by omega) (by omega) (by omega)).trans k35) (by omega) (show 35 < M8.1 by omega) (vp_in_nI (by omega) (by omega)) (nI_clamp (by omega)) ?_
    refine xj_istore (i := 4) (L' := [(4, .int (nx c)), (3, .int x8), (6, .int (nI k)), (5, .int 30), (0, .ref 24), (1, .int (nI nd)), (2, .int sI)]) d14_51_201 (by decide) rfl ?_
    refine xj_iinc (v := nI (k + 1)) (L' := [(6, .int (nI (k + 1))), (4, .int (nx c)), (3, .int x8), (5, .int 30), (0, .ref 24), (1, .int (nI nd)), (2, .int sI)]) d14_51_203 rfl (xinc _) (by decide) rfl ?_
    refine xj_goto (tgt := 47) d14_51_206 rfl ?_
    exact ih (k + 1) (nx c) (sFol z c (W c)) M8 st8 lg8 lt8 x8 hcn.2 (by omega) (fun c hc => hcl c (List.mem_cons_of_mem _ hc)) (hZ.trans rfl) hU8 h24 hS8 hL8 hx8
set_option maxRecDepth 20000 in
theorem mWkE {G : xG} (hg : xGood G) (hxn : xn = 16) {n : Nat} (hn2 : 52 ≤ n) {dl : Nat} {pl : Nat} {vc : Nat} {tk : Nat} {hc : Nat} {sn : Nat} {y13 : Int32} {y22 : Int32} {y23 : Int32} {y24 : Int32} {y36 : Int32} {y37 : Int32} {y38 : Int32} {y39 : Int32} {M0 : xM} (hn0 : M0.1 = n) {tx te kd ch nx lo kn my : Nat → Int32} {st0 lg0 lt0 : Nat → Int32} (k25 : M0.2 25 = (.inl (0, 5120, .inl tx))) (k26 : M0.2 26 = (.inl (0, 128, .inl te))) (k33 : M0.2 33 = (.inl (0, 30, .inl kd))) (k34 : M0.2 34 = (.inl (0, 30, .inl ch))) (k35 : M0.2 35 = (.inl (0, 30, .inl nx))) (k37 : M0.2 37 = (.inl (0, 30, .inl lo))) (k45 : M0.2 45 = (.inl (2, 32, .inl kn))) (k49 : M0.2 49 = (.inl (2, 30, .inl my))) {al : List (List Int32) → Prop} {V : Nat → Prop} {W : Nat → Option (List (List Int32))} {sI : Int32} (hsl : rSl sI tx te al) {nd : Nat} {Z : xNl} {d ce se cells slots : Nat} (hd : 3 ≤ d) (hcc : cells ≤ ce) (hss : slots ≤ se) {M : xM} {st lg lt : Nat → Int32} {x : Int32} (hU : rU M0 M st lg lt) (h_24 : M.2 24 = (.inr (12, [.ref 25, .ref 26, .ref 27, .ref 28, .ref 29, .ref 30, .int (nI sn), .int (nI vc), .int (nI tk), .ref 31, .int (nI dl), .ref 32, .int (nI pl), .int y13, .ref 33, .ref 34, .ref 35, .ref 36, .ref 37, .ref 38, .ref 39, .ref 40, .int y22, .int y23, .int y24, .ref 41, .ref 42, .ref 43, .ref 44, .ref 45, .ref 46, .ref 47, .ref 48, .int Z.2.2.2, .ref 49, .ref 50, .int y36, .int y37, .int y38, .int y39, .int (nI hc), .ref 51]))) (hSm : ∀ m, m < 29 → rSame st0 lg0 lt0 st lg lt m) (hL30 : rL st lg lt 30 Z.2.2.1) (hx : x = xB (vA al V Z)) : XJ G Y14_51 d ce se cells slots 209 [(3, .int x), (0, .ref 24), (1, .int (nI nd)), (2, .int sI)] [] M (fun v M' => v = some (.int (xB (vNd al V Z))) ∧ ∃ st' lg' lt', rU M0 M' st' lg' lt' ∧ M'.2 24 = (.inr (12, [.ref 25, .ref 26, .ref 27, .ref 28, .ref 29, .ref 30, .int (nI sn), .int (nI vc), .int (nI tk), .ref 31, .int (nI dl), .ref 32, .int (nI pl), .int y13, .ref 33, .ref 34, .ref 35, .ref 36, .ref 37, .ref 38, .ref 39, .ref 40, .int y22, .int y23, .int y24, .ref 41, .ref 42, .ref 43, .ref 44, .ref 45, .ref 46, .ref 47, .ref 48, .int Z.2.2.2, .ref 49, .ref 50, .int y36, .int y37, .int y38, .int y39, .int (nI hc), .ref 51])) ∧ (∀ m, m < 29 → rSame st0 lg0 lt0 st' lg' lt' m) ∧ rL st' lg' lt' 30 Z.2.2.1) := by
  have hm0 := hU.1
  refine xj_aload_n (i := 0) d14_51_209 rfl rfl ?_
  refine xj_iload_n (i := 2) d14_51_210 rfl rfl ?_
  refine xj_bipush (v := 30) d14_51_211 (by decide) ?_
  refine xj_callV (rest := []) (As := [.int sI, .int 30]) (b := 24) (mAllow hg hxn hn2 (show M.1 = n by omega) h_24 hU.2.2.1 hU.2.2.2.1 hU.2.2.2.2 ((hU.2.1 25 (by omega) (by omega) (by omega) (by omega) (by omega)).trans k25) ((hU.2.1 26 (by omega) (by omega) (by omega) (by omega) (by omega)).trans k26) (l := 30) (by omega) hL30 hsl) d14_51_213 wd14_50 h_24 (by omega) (show 24 < M.1 by omega) rfl s14_50 w1338 (Or.inl w1336) rfl rfl (Nat.le_of_ble_eq_true rfl) (by omega) (by omega) (by omega) ?_
  rintro v9 M' ⟨rfl, hm9⟩
  subst M'
  refine xj_istore (i := 6) (L' := [(6, .int (xB (al Z.2.2.1))), (3, .int x), (0, .ref 24), (1, .int (nI nd)), (2, .int sI)]) d14_51_216 (by decide) rfl ?_
  refine xj_iload_n (i := 3) d14_51_218 rfl rfl ?_
  refine xj_if_eq (tgt := 231) d14_51_219 rfl (fun hz9 => ?_) (fun hz9 => ?_)
  · refine xj_iconst (v := 0) d14_51_231 (by decide) ?_
    exact xj_ret d14_51_232 hcc hss rfl ⟨by rw [show xB (vNd al V Z) = 0 from xB_f (fun q => xB_n (p := vA al V Z) (by rw [← hx]; exact hz9) (vA_nd.mp q).1)], st, lg, lt, hU, h_24, hSm, hL30⟩
  · refine xj_iload (i := 6) d14_51_222 rfl ?_
    refine xj_if_eq (tgt := 231) d14_51_224 rfl (fun hq9 => ?_) (fun hq9 => ?_)
    · refine xj_iconst (v := 0) d14_51_231 (by decide) ?_
      exact xj_ret d14_51_232 hcc hss rfl ⟨by rw [show xB (vNd al V Z) = 0 from xB_f (fun q => xB_n hq9 (vA_nd.mp q).2)], st, lg, lt, hU, h_24, hSm, hL30⟩
    · refine xj_iconst (v := 1) d14_51_227 (by decide) ?_
      refine xj_goto (tgt := 232) d14_51_228 rfl ?_
      exact xj_ret d14_51_232 hcc hss rfl ⟨by rw [show xB (vNd al V Z) = 1 from xB_t (vA_nd.mpr ⟨xB_y (by rw [← hx]; exact hz9), xB_y hq9⟩)], st, lg, lt, hU, h_24, hSm, hL30⟩
set_option maxRecDepth 20000 in
theorem mWalk4 {G : xG} (hg : xGood G) (hxn : xn = 16) {n : Nat} (hn2 : 52 ≤ n) {dl : Nat} {pl : Nat} {vc : Nat} {tk : Nat} {hc : Nat} {sn : Nat} {y13 : Int32} {y22 : Int32} {y23 : Int32} {y24 : Int32} {y36 : Int32} {y37 : Int32} {y38 : Int32} {y39 : Int32} {M0 : xM} (hn0 : M0.1 = n) {tx te kd ch nx lo kn my : Nat → Int32} {st0 lg0 lt0 : Nat → Int32} (k25 : M0.2 25 = (.inl (0, 5120, .inl tx))) (k26 : M0.2 26 = (.inl (0, 128, .inl te))) (k33 : M0.2 33 = (.inl (0, 30, .inl kd))) (k34 : M0.2 34 = (.inl (0, 30, .inl ch))) (k35 : M0.2 35 = (.inl (0, 30, .inl nx))) (k37 : M0.2 37 = (.inl (0, 30, .inl lo))) (k45 : M0.2 45 = (.inl (2, 32, .inl kn))) (k49 : M0.2 49 = (.inl (2, 30, .inl my))) {al : List (List Int32) → Prop} {V : Nat → Prop} {W : Nat → Option (List (List Int32))} {sI : Int32} (hsl : rSl sI tx te al) {y33 : Int32} (k46 : M0.2 46 = .inl (0, 32, .inl st0)) (k47 : M0.2 47 = .inl (0, 1536, .inl lt0)) (k48 : M0.2 48 = .inl (0, 128, .inl lg0)) (h_24 : M0.2 24 = (.inr (12, [.ref 25, .ref 26, .ref 27, .ref 28, .ref 29, .ref 30, .int (nI sn), .int (nI vc), .int (nI tk), .ref 31, .int (nI dl), .ref 32, .int (nI pl), .int y13, .ref 33, .ref 34, .ref 35, .ref 36, .ref 37, .ref 38, .ref 39, .ref 40, .int y22, .int y23, .int y24, .ref 41, .ref 42, .ref 43, .ref 44, .ref 45, .ref 46, .ref 47, .ref 48, .int y33, .ref 49, .ref 50, .int y36, .int y37, .int y38, .int y39, .int (nI hc), .ref 51]))) {nd e kk : Nat} (hnd : nd < 30) (hkd : kd nd = 4) (hch : ch nd = nI e) (hlo : lo nd = nI kk) (hkk : kk ≤ 9) (hce : (e < 29 ∧ rKn st0 lg0 lt0 kn W e ∧ (W e = none → rMy sI my V e))) {Z : xNl} (hZ : Z = sTimes W e kk) : XC G Y14_51 (some .boolean) 3 0 0 [.ref 24, .int (nI nd), .int sI] M0 (fun v M' => v = some (.int (xB (vNd al V Z))) ∧ ∃ st' lg' lt', rU M0 M' st' lg' lt' ∧ M'.2 24 = (.inr (12, [.ref 25, .ref 26, .ref 27, .ref 28, .ref 29, .ref 30, .int (nI sn), .int (nI vc), .int (nI tk), .ref 31, .int (nI dl), .ref 32, .int (nI pl), .int y13, .ref 33, .ref 34, .ref 35, .ref 36, .ref 37, .ref 38, .ref 39, .ref 40, .int y22, .int y23, .int y24, .ref 41, .ref 42, .ref 43, .ref 44, .ref 45, .ref 46, .ref 47, .ref 48, .int Z.2.2.2, .ref 49, .ref 50, .int y36, .int y37, .int y38, .int y39, .int (nI hc), .ref 51])) ∧ (∀ m, m < 29 → rSame st0 lg0 lt0 st' lg' lt' m) ∧ rL st' lg' lt' 30 Z.2.2.1) := by
  subst hZ
  have he29 := hce.1
  refine xc_of hg (by decide) (Nat.le_of_ble_eq_true rfl) (Or.inr (Or.inl ⟨rfl, rfl, fun v M' h => ⟨_, h.1, xB_01 _⟩⟩)) ?_
  refine xj_iconst (v := 1) d14_51_0 (by decide) ?_
  refine xj_istore_n (i := 3) (L' := [(3, .int 1), (0, .ref 24), (1, .int (nI nd)), (2, .int sI)]) d14_51_1 rfl (by decide) rfl ?_
  refine xj_aload_n (i := 0) d14_51_2 rfl rfl ?_
  refine xj_iconst (v := 1) d14_51_3 (by decide) ?_
  refine xj_put (a := 24) (fs' := [.ref 25, .ref 26, .ref 27, .ref 28, .ref 29, .ref 30, .int (nI sn), .int (nI vc), .int (nI tk), .ref 31, .int (nI dl), .ref 32, .int (nI pl), .int y13, .ref 33, .ref 34, .ref 35, .ref 36, .ref 37, .ref 38, .ref 39, .ref 40, .int y22, .int y23, .int y24, .ref 41, .ref 42, .ref 43, .ref 44, .ref 45, .ref 46, .ref 47, .ref 48, .int 1, .ref 49, .ref 50, .int y36, .int y37, .int y38, .int y39, .int (nI hc), .ref 51]) d14_51_4 f14_232_12 h_24 (by omega) (show 24 < M0.1 by omega) (Nat.le_of_ble_eq_true rfl) rfl rfl rfl ?_
  refine xj_abs_set (fun M1 hs1 ha1 ho1 => ?_)
  refine xj_aload_n (i := 0) d14_51_7 rfl rfl ?_
  refine xj_bipush (v := 30) d14_51_8 (by decide) ?_
  refine xj_callV (rest := []) (As := [.int 30]) (b := 24) (mAlone hg (M := M1) (n := n) (dl := dl) (pl := pl) (vc := vc) (tk := tk) (hc := hc) (sn := sn) (y13 := y13) (y22 := y22) (y23 := y23) (y24 := y24) (y33 := 1) (y36 := y36) (y37 := y37) (y38 := y38) (y39 := y39) (st := st0) (lg := lg0) (nn := 30) (show M1.1 = n by omega) (by omega) (by omega) (by omega) ha1 (by omega) (by omega) ((ho1 46 (by omega)).trans k46) (by omega) (by omega) ((ho1 48 (by omega)).trans k48) hxn hn2 (by omega)) d14_51_10 wd14_43 ha1 (by omega) (show 24 < M1.1 by omega) rfl s14_43 w1330 (Or.inl w1328) rfl rfl (Nat.le_of_ble_eq_true rfl) (by omega) (by omega) (by omega) ?_
  rintro v M2 ⟨rfl, hs2, ho2, hf2_0, hf2_1⟩
  replace hs2 : M2.1 = n := hs2
  replace hf2_0 : M2.2 46 = (.inl (0, 32, .inl (upd st0 30 1))) := hf2_0
  replace hf2_1 : M2.2 48 = (.inl (0, 128, .inl (upd lg0 (4 * 30) 0))) := hf2_1
  refine xj_aload_n (i := 0) d14_51_13 rfl rfl ?_
  refine xj_get d14_51_14 f14_38_12 ((ho2 24 (by omega) (by omega) (by omega)).trans ha1) (by omega) (show 24 < M2.1 by omega) rfl ?_
  refine xj_iload_n (i := 1) d14_51_17 rfl rfl ?_
  refine xj_iaload (j := nd) d14_51_18 ((ho2 34 (by omega) (by omega) (by omega)).trans ((ho1 34 (by omega)).trans k34)) (by omega) (show 34 < M2.1 by omega) (vp_in_nI (by omega) (by omega)) (nI_clamp (by omega)) ?_
  rw [show ch nd = nI e from hch]
  refine xj_istore (i := 4) (L' := [(4, .int (nI e)), (3, .int 1), (0, .ref 24), (1, .int (nI nd)), (2, .int sI)]) d14_51_19 (by decide) rfl ?_
  refine xj_aload_n (i := 0) d14_51_21 rfl rfl ?_
  refine xj_get d14_51_22 f14_35_12 ((ho2 24 (by omega) (by omega) (by omega)).trans ha1) (by omega) (show 24 < M2.1 by omega) rfl ?_
  refine xj_iload_n (i := 1) d14_51_25 rfl rfl ?_
  refine xj_iaload (j := nd) d14_51_26 ((ho2 33 (by omega) (by omega) (by omega)).trans ((ho1 33 (by omega)).trans k33)) (by omega) (show 33 < M2.1 by omega) (vp_in_nI (by omega) (by omega)) (nI_clamp (by omega)) ?_
  refine xj_iconst (v := 4) d14_51_27 (by decide) ?_
  refine xj_icmp_ne (tgt := 40) d14_51_28 rfl (fun h => absurd hkd h) (fun _ => ?_)
  refine xj_aload_n (i := 0) d14_51_31 rfl rfl ?_
  refine xj_get d14_51_32 f14_47_12 ((ho2 24 (by omega) (by omega) (by omega)).trans ha1) (by omega) (show 24 < M2.1 by omega) rfl ?_
  refine xj_iload_n (i := 1) d14_51_35 rfl rfl ?_
  refine xj_iaload (j := nd) d14_51_36 ((ho2 37 (by omega) (by omega) (by omega)).trans ((ho1 37 (by omega)).trans k37)) (by omega) (show 37 < M2.1 by omega) (vp_in_nI (by omega) (by omega)) (nI_clamp (by omega)) ?_
  rw [show lo nd = nI kk from hlo]
  refine xj_goto (tgt := 42) d14_51_37 rfl ?_
  refine xj_istore (i := 5) (L' := [(5, .int (nI kk)), (4, .int (nI e)), (3, .int 1), (0, .ref 24), (1, .int (nI nd)), (2, .int sI)]) d14_51_42 (by decide) rfl ?_
  refine xj_iconst (v := 0) d14_51_44 (by decide) ?_
  refine xj_istore (i := 6) (L' := [(6, .int 0), (5, .int (nI kk)), (4, .int (nI e)), (3, .int 1), (0, .ref 24), (1, .int (nI nd)), (2, .int sI)]) d14_51_45 (by decide) rfl ?_
  have hU1 : rU M0 M2 _ _ _ := ⟨(show M2.1 = M0.1 by omega), (fun j hj z24 a b c => ((ho2 j (by omega) (by omega) (by omega)).trans (ho1 j (by omega)))), hf2_0, ((ho2 47 (by omega) (by omega) (by omega)).trans ((ho1 47 (by omega)).trans k47)), hf2_1⟩
  refine xj_sub (L' := [(6, .int 0), (4, .int (nI e)), (3, .int 1), (5, .int (nI kk)), (0, .ref 24), (1, .int (nI nd)), (2, .int sI)]) (fun q hq => by simp only [List.mem_cons, List.not_mem_nil, or_false] at hq ⊢; rcases hq with rfl | rfl | rfl | rfl | rfl | rfl | rfl <;> simp) ?_
  exact mWk4 hg hxn hn2 hn0 k25 k26 k33 k34 k35 k37 k45 k49 hsl (kk := kk) hnd hkd hkk hce (by omega) (by omega) (by omega) (fun M9 st9 lg9 lt9 x9 _ _ h1 h2 h3 h4 h5 => mWkE (W := W) hg hxn hn2 hn0 k25 k26 k33 k34 k35 k37 k45 k49 hsl (by omega) (by omega) (by omega) h1 h2 h3 h4 h5) kk 0 M2 _ _ _ 1 (by omega) hU1 ((ho2 24 (by omega) (by omega) (by omega)).trans ha1) (fun m hm => rSame_alone (by omega)) rL_alone (xB_t vA_0).symm
set_option maxRecDepth 20000 in
theorem mWalk5 {G : xG} (hg : xGood G) (hxn : xn = 16) {n : Nat} (hn2 : 52 ≤ n) {dl : Nat} {pl : Nat} {vc : Nat} {tk : Nat} {hc : Nat} {sn : Nat} {y13 : Int32} {y22 : Int32} {y23 : Int32} {y24 : Int32} {y36 : Int32} {y37 : Int32} {y38 : Int32} {y39 : Int32} {M0 : xM} (hn0 : M0.1 = n) {tx te kd ch nx lo kn my : Nat → Int32} {st0 lg0 lt0 : Nat → Int32} (k25 : M0.2 25 = (.inl (0, 5120, .inl tx))) (k26 : M0.2 26 = (.inl (0, 128, .inl te))) (k33 : M0.2 33 = (.inl (0, 30, .inl kd))) (k34 : M0.2 34 = (.inl (0, 30, .inl ch))) (k35 : M0.2 35 = (.inl (0, 30, .inl nx))) (k37 : M0.2 37 = (.inl (0, 30, .inl lo))) (k45 : M0.2 45 = (.inl (2, 32, .inl kn))) (k49 : M0.2 49 = (.inl (2, 30, .inl my))) {al : List (List Int32) → Prop} {V : Nat → Prop} {W : Nat → Option (List (List Int32))} {sI : Int32} (hsl : rSl sI tx te al) {y33 : Int32} (k46 : M0.2 46 = .inl (0, 32, .inl st0)) (k47 : M0.2 47 = .inl (0, 1536, .inl lt0)) (k48 : M0.2 48 = .inl (0, 128, .inl lg0)) (h_24 : M0.2 24 = (.inr (12, [.ref 25, .ref 26, .ref 27, .ref 28, .ref 29, .ref 30, .int (nI sn), .int (nI vc), .int (nI tk), .ref 31, .int (nI dl), .ref 32, .int (nI pl), .int y13, .ref 33, .ref 34, .ref 35, .ref 36, .ref 37, .ref 38, .ref 39, .ref 40, .int y22, .int y23, .int y24, .ref 41, .ref 42, .ref 43, .ref 44, .ref 45, .ref 46, .ref 47, .ref 48, .int y33, .ref 49, .ref 50, .int y36, .int y37, .int y38, .int y39, .int (nI hc), .ref 51]))) {nd : Nat} {l : List Nat} (hnd : nd < 30) (hkd : ¬ kd nd = 4) (hcn : xCn nx (ch nd) l) (hl : l.length ≤ 28) (hcl : ∀ c ∈ l, (c < 29 ∧ rKn st0 lg0 lt0 kn W c ∧ (W c = none → rMy sI my V c))) {Z : xNl} (hZ : Z = sAlong W l) : XC G Y14_51 (some .boolean) 3 0 0 [.ref 24, .int (nI nd), .int sI] M0 (fun v M' => v = some (.int (xB (vNd al V Z))) ∧ ∃ st' lg' lt', rU M0 M' st' lg' lt' ∧ M'.2 24 = (.inr (12, [.ref 25, .ref 26, .ref 27, .ref 28, .ref 29, .ref 30, .int (nI sn), .int (nI vc), .int (nI tk), .ref 31, .int (nI dl), .ref 32, .int (nI pl), .int y13, .ref 33, .ref 34, .ref 35, .ref 36, .ref 37, .ref 38, .ref 39, .ref 40, .int y22, .int y23, .int y24, .ref 41, .ref 42, .ref 43, .ref 44, .ref 45, .ref 46, .ref 47, .ref 48, .int Z.2.2.2, .ref 49, .ref 50, .int y36, .int y37, .int y38, .int y39, .int (nI hc), .ref 51])) ∧ (∀ m, m < 29 → rSame st0 lg0 lt0 st' lg' lt' m) ∧ rL st' lg' lt' 30 Z.2.2.1) := by
  refine xc_of hg (by decide) (Nat.le_of_ble_eq_true rfl) (Or.inr (Or.inl ⟨rfl, rfl, fun v M' h => ⟨_, h.1, xB_01 _⟩⟩)) ?_
  refine xj_iconst (v := 1) d14_51_0 (by decide) ?_
  refine xj_istore_n (i := 3) (L' := [(3, .int 1), (0, .ref 24), (1, .int (nI nd)), (2, .int sI)]) d14_51_1 rfl (by decide) rfl ?_
  refine xj_aload_n (i := 0) d14_51_2 rfl rfl ?_
  refine xj_iconst (v := 1) d14_51_3 (by decide) ?_
  refine xj_put (a := 24) (fs' := [.ref 25, .ref 26, .ref 27, .ref 28, .ref 29, .ref 30, .int (nI sn), .int (nI vc), .int (nI tk), .ref 31, .int (nI dl), .ref 32, .int (nI pl), .int y13, .ref 33, .ref 34, .ref 35, .ref 36, .ref 37, .ref 38, .ref 39, .ref 40, .int y22, .int y23, .int y24, .ref 41, .ref 42, .ref 43, .ref 44, .ref 45, .ref 46, .ref 47, .ref 48, .int 1, .ref 49, .ref 50, .int y36, .int y37, .int y38, .int y39, .int (nI hc), .ref 51]) d14_51_4 f14_232_12 h_24 (by omega) (show 24 < M0.1 by omega) (Nat.le_of_ble_eq_true rfl) rfl rfl rfl ?_
  refine xj_abs_set (fun M1 hs1 ha1 ho1 => ?_)
  refine xj_aload_n (i := 0) d14_51_7 rfl rfl ?_
  refine xj_bipush (v := 30) d14_51_8 (by decide) ?_
  refine xj_callV (rest := []) (As := [.int 30]) (b := 24) (mAlone hg (M := M1) (n := n) (dl := dl) (pl := pl) (vc := vc) (tk := tk) (hc := hc) (sn := sn) (y13 := y13) (y22 := y22) (y23 := y23) (y24 := y24) (y33 := 1) (y36 := y36) (y37 := y37) (y38 := y38) (y39 := y39) (st := st0) (lg := lg0) (nn := 30) (show M1.1 = n by omega) (by omega) (by omega) (by omega) ha1 (by omega) (by omega) ((ho1 46 (by omega)).trans k46) (by omega) (by omega) ((ho1 48 (by omega)).trans k48) hxn hn2 (by omega)) d14_51_10 wd14_43 ha1 (by omega) (show 24 < M1.1 by omega) rfl s14_43 w1330 (Or.inl w1328) rfl rfl (Nat.le_of_ble_eq_true rfl) (by omega) (by omega) (by omega) ?_
  rintro v M2 ⟨rfl, hs2, ho2, hf2_0, hf2_1⟩
  replace hs2 : M2.1 = n := hs2
  replace hf2_0 : M2.2 46 = (.inl (0, 32, .inl (upd st0 30 1))) := hf2_0
  replace hf2_1 : M2.2 48 = (.inl (0, 128, .inl (upd lg0 (4 * 30) 0))) := hf2_1
  refine xj_aload_n (i := 0) d14_51_13 rfl rfl ?_
  refine xj_get d14_51_14 f14_38_12 ((ho2 24 (by omega) (by omega) (by omega)).trans ha1) (by omega) (show 24 < M2.1 by omega) rfl ?_
  refine xj_iload_n (i := 1) d14_51_17 rfl rfl ?_
  refine xj_iaload (j := nd) d14_51_18 ((ho2 34 (by omega) (by omega) (by omega)).trans ((ho1 34 (by omega)).trans k34)) (by omega) (show 34 < M2.1 by omega) (vp_in_nI (by omega) (by omega)) (nI_clamp (by omega)) ?_
  refine xj_istore (i := 4) (L' := [(4, .int (ch nd)), (3, .int 1), (0, .ref 24), (1, .int (nI nd)), (2, .int sI)]) d14_51_19 (by decide) rfl ?_
  refine xj_aload_n (i := 0) d14_51_21 rfl rfl ?_
  refine xj_get d14_51_22 f14_35_12 ((ho2 24 (by omega) (by omega) (by omega)).trans ha1) (by omega) (show 24 < M2.1 by omega) rfl ?_
  refine xj_iload_n (i := 1) d14_51_25 rfl rfl ?_
  refine xj_iaload (j := nd) d14_51_26 ((ho2 33 (by omega) (by omega) (by omega)).trans ((ho1 33 (by omega)).trans k33)) (by omega) (show 33 < M2.1 by omega) (vp_in_nI (by omega) (by omega)) (nI_clamp (by omega)) ?_
  refine xj_iconst (v := 4) d14_51_27 (by decide) ?_
  refine xj_icmp_ne (tgt := 40) d14_51_28 rfl (fun _ => ?_) (fun h => absurd h hkd)
  refine xj_bipush (v := 30) d14_51_40 (by decide) ?_
  refine xj_istore (i := 5) (L' := [(5, .int 30), (4, .int (ch nd)), (3, .int 1), (0, .ref 24), (1, .int (nI nd)), (2, .int sI)]) d14_51_42 (by decide) rfl ?_
  refine xj_iconst (v := 0) d14_51_44 (by decide) ?_
  refine xj_istore (i := 6) (L' := [(6, .int 0), (5, .int 30), (4, .int (ch nd)), (3, .int 1), (0, .ref 24), (1, .int (nI nd)), (2, .int sI)]) d14_51_45 (by decide) rfl ?_
  have hU1 : rU M0 M2 _ _ _ := ⟨(show M2.1 = M0.1 by omega), (fun j hj z24 a b c => ((ho2 j (by omega) (by omega) (by omega)).trans (ho1 j (by omega)))), hf2_0, ((ho2 47 (by omega) (by omega) (by omega)).trans ((ho1 47 (by omega)).trans k47)), hf2_1⟩
  refine xj_sub (L' := [(6, .int 0), (4, .int (ch nd)), (3, .int 1), (5, .int 30), (0, .ref 24), (1, .int (nI nd)), (2, .int sI)]) (fun q hq => by simp only [List.mem_cons, List.not_mem_nil, or_false] at hq ⊢; rcases hq with rfl | rfl | rfl | rfl | rfl | rfl | rfl <;> simp) ?_
  exact mWk5 hg hxn hn2 hn0 k25 k26 k33 k34 k35 k37 k45 k49 hsl hnd hkd (by omega) (by omega) (by omega) (fun M9 st9 lg9 lt9 x9 _ _ h1 h2 h3 h4 h5 => mWkE (W := W) hg hxn hn2 hn0 k25 k26 k33 k34 k35 k37 k45 k49 hsl (by omega) (by omega) (by omega) h1 h2 h3 h4 h5) l 0 (ch nd) sNd0 M2 _ _ _ 1 hcn (by omega) hcl hZ hU1 ((ho2 24 (by omega) (by omega) (by omega)).trans ha1) (fun m hm => rSame_alone (by omega)) rL_alone (xB_t vA_0).symm

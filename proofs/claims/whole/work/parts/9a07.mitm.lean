set_option maxRecDepth 20000 in
set_option maxHeartbeats 1000000 in
theorem rItem {G : xG} (hg : xGood G) (hxn : xn = 16) {dl pl vc tk hc sn : Nat} {y33 y36 y37 y38 y39 : Int32} {fp : Nat → Int32} {M0 M : xM} (h52 : 52 ≤ M0.1) (hpl : pl ≤ 24) {a : Nat} {A : List xNode} {t : List Nat × List Nat} {r : List (List Nat × List Nat)} {k : Nat} {S : Nat → Bool} (hB : mB dl pl vc tk hc sn y33 y36 y37 y38 y39 fp M0 M (a, 0, A, t :: r) k S) (hk : k < 900) (hkpl : k < pl) (hPR : ∀ j, j < pl → ∃ u1, u1 < 95 ∧ fp j = nI (u1 + 32)) : XC G Y14_35 none 3 0 0 [.ref 24, .int (nI A.length)] M (fun v M' => v = none ∧ ((pItem fp pl (k, 0, S)).2.1 = 0 → mB dl pl vc tk hc sn y33 y36 y37 y38 y39 fp M0 M' (a, 0, A, t :: r) (pItem fp pl (k, 0, S)).1 (pItem fp pl (k, 0, S)).2.2) ∧ (¬ (pItem fp pl (k, 0, S)).2.1 = 0 → mRf dl pl vc tk hc sn y33 y36 y37 y38 y39 fp M0 M' (pItem fp pl (k, 0, S)).2.1)) := by
  obtain ⟨i1, k24, k32⟩ := mB_24 hB
  replace k24 : M.2 24 = (.inr (12, [.ref 25, .ref 26, .ref 27, .ref 28, .ref 29, .ref 30, .int (nI sn), .int (nI vc), .int (nI tk), .ref 31, .int (nI dl), .ref 32, .int (nI pl), .int (nI (A.length + 1)), .ref 33, .ref 34, .ref 35, .ref 36, .ref 37, .ref 38, .ref 39, .ref 40, .int (nI k), .int (nI r.length), .int 0, .ref 41, .ref 42, .ref 43, .ref 44, .ref 45, .ref 46, .ref 47, .ref 48, .int y33, .ref 49, .ref 50, .int y36, .int y37, .int y38, .int y39, .int (nI hc), .ref 51])) := k24
  obtain ⟨ux, hux1, hux2⟩ := hPR k hkpl
  have hux : pch fp pl k = nI (ux + 32) := (if_pos hkpl).trans hux2
  refine xc_of hg (by decide) (Nat.le_of_ble_eq_true rfl) (Or.inr (Or.inr (Or.inr (Or.inr (Or.inl ⟨rfl, rfl, fun v M' h => h.1⟩))))) ?_
  refine xj_aload_n (i := 0) d14_35_0 rfl rfl ?_
  refine xj_iconst (v := 0) d14_35_1 (by decide) ?_
  refine xj_callV (rest := []) (As := [.int 0]) (b := 24) (mAhead0 hg (M := M) (n := M.1) (dl := dl) (pl := pl) (vc := vc) (tk := tk) (hc := hc) (sn := sn) (y24 := 0) (y33 := y33) (y36 := y36) (y37 := y37) (y38 := y38) (y39 := y39) (np := A.length + 1) (a := k) (dp := r.length) (fp := fp) rfl (by omega) (by omega) (by omega) k24 (by omega) (by omega) k32 (by omega) hpl) d14_35_2 wd14_19 k24 (by omega) (show 24 < M.1 by omega) rfl s14_19 w1216 (Or.inl w1214) rfl rfl (Nat.le_of_ble_eq_true rfl) (by omega) (by omega) (by omega) ?_
  rintro v M' ⟨rfl, hm⟩
  subst M'
  refine xj_istore_n (i := 2) (L' := [(2, .int (pch fp pl k)), (0, .ref 24), (1, .int (nI A.length))]) d14_35_5 rfl (by decide) rfl ?_
  refine xj_iload_n (i := 2) d14_35_6 rfl rfl ?_
  refine xj_bipush (v := 91) d14_35_7 (by decide) ?_
  refine xj_icmp_ne (tgt := 40) d14_35_9 rfl (fun h1 => ?_) (fun h1 => ?_)
  · refine xj_iload_n (i := 2) d14_35_40 rfl rfl ?_
    refine xj_bipush (v := 91) d14_35_41 (by decide) ?_
    refine xj_icmp_ne (tgt := 75) d14_35_43 rfl (fun _ => ?_) (fun h => absurd h h1)
    refine xj_aload_n (i := 0) d14_35_75 rfl rfl ?_
    refine xj_iconst (v := 1) d14_35_76 (by decide) ?_
    refine xj_callV (rest := []) (As := [.int 1]) (b := 24) (mAhead hg (M := M) (n := M.1) (dl := dl) (pl := pl) (vc := vc) (tk := tk) (hc := hc) (sn := sn) (y24 := 0) (y33 := y33) (y36 := y36) (y37 := y37) (y38 := y38) (y39 := y39) (np := A.length + 1) (a := k) (dp := r.length) (fp := fp) (k := 1) rfl (by omega) (by omega) (by omega) k24 (by omega) (by omega) k32 (by omega) hpl) d14_35_77 wd14_19 k24 (by omega) (show 24 < M.1 by omega) rfl s14_19 w1216 (Or.inl w1214) rfl rfl (Nat.le_of_ble_eq_true rfl) (by omega) (by omega) (by omega) ?_
    rintro v M' ⟨rfl, hm⟩
    subst M'
    refine xj_bipush (v := 45) d14_35_80 (by decide) ?_
    refine xj_icmp_ne (tgt := 144) d14_35_82 rfl (fun h5 => ?_) (fun h5 => ?_)
    · refine xj_aload_n (i := 0) d14_35_144 rfl rfl ?_
      refine xj_iload_n (i := 1) d14_35_145 rfl rfl ?_
      refine xj_iload_n (i := 2) d14_35_146 rfl rfl ?_
      refine xj_iload_n (i := 2) d14_35_147 rfl rfl ?_
      refine xj_callV (rest := []) (As := [.int (nI A.length), .int (pch fp pl k), .int (pch fp pl k)]) (b := 24) (rList hg hxn h52 hB (u := pch fp pl k) (v := pch fp pl k) (u1 := ux) (v1 := ux) (kk := 1) hux hux hux1 (by omega)) d14_35_148 wd14_32 k24 (by omega) (show 24 < M.1 by omega) rfl s14_32 w1286 (Or.inl w1284) rfl rfl (Nat.le_of_ble_eq_true rfl) (by omega) (by omega) (by omega) ?_
      rintro v M1 ⟨rfl, hB1⟩
      obtain ⟨s1, l24_1, l32_1⟩ := mB_24 hB1
      replace l24_1 : M1.2 24 = (.inr (12, [.ref 25, .ref 26, .ref 27, .ref 28, .ref 29, .ref 30, .int (nI sn), .int (nI vc), .int (nI tk), .ref 31, .int (nI dl), .ref 32, .int (nI pl), .int (nI (A.length + 1)), .ref 33, .ref 34, .ref 35, .ref 36, .ref 37, .ref 38, .ref 39, .ref 40, .int (nI k), .int (nI r.length), .int 0, .ref 41, .ref 42, .ref 43, .ref 44, .ref 45, .ref 46, .ref 47, .ref 48, .int y33, .ref 49, .ref 50, .int y36, .int y37, .int y38, .int y39, .int (nI hc), .ref 51])) := l24_1
      refine xj_aload_n (i := 0) d14_35_151 rfl rfl ?_
      refine xj_aload_n (i := 0) d14_35_152 rfl rfl ?_
      refine xj_get d14_35_153 f14_133_12 l24_1 (by omega) (show 24 < M1.1 by omega) rfl ?_
      refine xj_iconst (v := 1) d14_35_156 (by decide) ?_
      refine xj_iadd (v := nI (k + 1)) d14_35_157 (nI_add k 1) ?_
      refine xj_put (a := 24) (fs' := [.ref 25, .ref 26, .ref 27, .ref 28, .ref 29, .ref 30, .int (nI sn), .int (nI vc), .int (nI tk), .ref 31, .int (nI dl), .ref 32, .int (nI pl), .int (nI (A.length + 1)), .ref 33, .ref 34, .ref 35, .ref 36, .ref 37, .ref 38, .ref 39, .ref 40, .int (nI (k + 1)), .int (nI r.length), .int 0, .ref 41, .ref 42, .ref 43, .ref 44, .ref 45, .ref 46, .ref 47, .ref 48, .int y33, .ref 49, .ref 50, .int y36, .int y37, .int y38, .int y39, .int (nI hc), .ref 51]) d14_35_158 f14_133_12 l24_1 (by omega) (show 24 < M1.1 by omega) (Nat.le_of_ble_eq_true rfl) rfl rfl rfl ?_
      refine xj_abs_set (fun M2 hs2 ha2 ho2 => ?_)
      have hq : pItem fp pl (k, 0, S) = (k + 1, 0, (pOr S (pch fp pl k) (pch fp pl k))) := (if_neg (fun q => h1 q.1)).trans ((if_neg (fun q => h1 q.1)).trans (if_neg (fun q => h5 q.1)))
      refine xj_ret d14_35_161 (by omega) (by omega) rfl ⟨rfl, ?_⟩
      rw [hq]
      exact ⟨fun _ => mB_at hB1 (show M2.1 = M1.1 by omega) (fun j hj => (ho2 j (by omega))) ha2, fun q => absurd rfl q⟩
    · refine xj_aload_n (i := 0) d14_35_85 rfl rfl ?_
      refine xj_iconst (v := 2) d14_35_86 (by decide) ?_
      refine xj_callV (rest := []) (As := [.int 2]) (b := 24) (mAhead hg (M := M) (n := M.1) (dl := dl) (pl := pl) (vc := vc) (tk := tk) (hc := hc) (sn := sn) (y24 := 0) (y33 := y33) (y36 := y36) (y37 := y37) (y38 := y38) (y39 := y39) (np := A.length + 1) (a := k) (dp := r.length) (fp := fp) (k := 2) rfl (by omega) (by omega) (by omega) k24 (by omega) (by omega) k32 (by omega) hpl) d14_35_87 wd14_19 k24 (by omega) (show 24 < M.1 by omega) rfl s14_19 w1216 (Or.inl w1214) rfl rfl (Nat.le_of_ble_eq_true rfl) (by omega) (by omega) (by omega) ?_
      rintro v M' ⟨rfl, hm⟩
      subst M'
      refine xj_if_eq (tgt := 144) d14_35_90 rfl (fun h6 => ?_) (fun h6 => ?_)
      · refine xj_aload_n (i := 0) d14_35_144 rfl rfl ?_
        refine xj_iload_n (i := 1) d14_35_145 rfl rfl ?_
        refine xj_iload_n (i := 2) d14_35_146 rfl rfl ?_
        refine xj_iload_n (i := 2) d14_35_147 rfl rfl ?_
        refine xj_callV (rest := []) (As := [.int (nI A.length), .int (pch fp pl k), .int (pch fp pl k)]) (b := 24) (rList hg hxn h52 hB (u := pch fp pl k) (v := pch fp pl k) (u1 := ux) (v1 := ux) (kk := 1) hux hux hux1 (by omega)) d14_35_148 wd14_32 k24 (by omega) (show 24 < M.1 by omega) rfl s14_32 w1286 (Or.inl w1284) rfl rfl (Nat.le_of_ble_eq_true rfl) (by omega) (by omega) (by omega) ?_
        rintro v M3 ⟨rfl, hB3⟩
        obtain ⟨s3, l24_3, l32_3⟩ := mB_24 hB3
        replace l24_3 : M3.2 24 = (.inr (12, [.ref 25, .ref 26, .ref 27, .ref 28, .ref 29, .ref 30, .int (nI sn), .int (nI vc), .int (nI tk), .ref 31, .int (nI dl), .ref 32, .int (nI pl), .int (nI (A.length + 1)), .ref 33, .ref 34, .ref 35, .ref 36, .ref 37, .ref 38, .ref 39, .ref 40, .int (nI k), .int (nI r.length), .int 0, .ref 41, .ref 42, .ref 43, .ref 44, .ref 45, .ref 46, .ref 47, .ref 48, .int y33, .ref 49, .ref 50, .int y36, .int y37, .int y38, .int y39, .int (nI hc), .ref 51])) := l24_3
        refine xj_aload_n (i := 0) d14_35_151 rfl rfl ?_
        refine xj_aload_n (i := 0) d14_35_152 rfl rfl ?_
        refine xj_get d14_35_153 f14_133_12 l24_3 (by omega) (show 24 < M3.1 by omega) rfl ?_
        refine xj_iconst (v := 1) d14_35_156 (by decide) ?_
        refine xj_iadd (v := nI (k + 1)) d14_35_157 (nI_add k 1) ?_
        refine xj_put (a := 24) (fs' := [.ref 25, .ref 26, .ref 27, .ref 28, .ref 29, .ref 30, .int (nI sn), .int (nI vc), .int (nI tk), .ref 31, .int (nI dl), .ref 32, .int (nI pl), .int (nI (A.length + 1)), .ref 33, .ref 34, .ref 35, .ref 36, .ref 37, .ref 38, .ref 39, .ref 40, .int (nI (k + 1)), .int (nI r.length), .int 0, .ref 41, .ref 42, .ref 43, .ref 44, .ref 45, .ref 46, .ref 47, .ref 48, .int y33, .ref 49, .ref 50, .int y36, .int y37, .int y38, .int y39, .int (nI hc), .ref 51]) d14_35_158 f14_133_12 l24_3 (by omega) (show 24 < M3.1 by omega) (Nat.le_of_ble_eq_true rfl) rfl rfl rfl ?_
        refine xj_abs_set (fun M4 hs4 ha4 ho4 => ?_)
        have hq : pItem fp pl (k, 0, S) = (k + 1, 0, (pOr S (pch fp pl k) (pch fp pl k))) := (if_neg (fun q => h1 q.1)).trans ((if_neg (fun q => h1 q.1)).trans (if_neg (fun q => q.2.1 h6)))
        refine xj_ret d14_35_161 (by omega) (by omega) rfl ⟨rfl, ?_⟩
        rw [hq]
        exact ⟨fun _ => mB_at hB3 (show M4.1 = M3.1 by omega) (fun j hj => (ho4 j (by omega))) ha4, fun q => absurd rfl q⟩
      · refine xj_aload_n (i := 0) d14_35_93 rfl rfl ?_
        refine xj_iconst (v := 2) d14_35_94 (by decide) ?_
        refine xj_callV (rest := []) (As := [.int 2]) (b := 24) (mAhead hg (M := M) (n := M.1) (dl := dl) (pl := pl) (vc := vc) (tk := tk) (hc := hc) (sn := sn) (y24 := 0) (y33 := y33) (y36 := y36) (y37 := y37) (y38 := y38) (y39 := y39) (np := A.length + 1) (a := k) (dp := r.length) (fp := fp) (k := 2) rfl (by omega) (by omega) (by omega) k24 (by omega) (by omega) k32 (by omega) hpl) d14_35_95 wd14_19 k24 (by omega) (show 24 < M.1 by omega) rfl s14_19 w1216 (Or.inl w1214) rfl rfl (Nat.le_of_ble_eq_true rfl) (by omega) (by omega) (by omega) ?_
        rintro v M' ⟨rfl, hm⟩
        subst M'
        refine xj_bipush (v := 93) d14_35_98 (by decide) ?_
        refine xj_icmp_eq (tgt := 144) d14_35_100 rfl (fun h7 => ?_) (fun h7 => ?_)
        · refine xj_aload_n (i := 0) d14_35_144 rfl rfl ?_
          refine xj_iload_n (i := 1) d14_35_145 rfl rfl ?_
          refine xj_iload_n (i := 2) d14_35_146 rfl rfl ?_
          refine xj_iload_n (i := 2) d14_35_147 rfl rfl ?_
          refine xj_callV (rest := []) (As := [.int (nI A.length), .int (pch fp pl k), .int (pch fp pl k)]) (b := 24) (rList hg hxn h52 hB (u := pch fp pl k) (v := pch fp pl k) (u1 := ux) (v1 := ux) (kk := 1) hux hux hux1 (by omega)) d14_35_148 wd14_32 k24 (by omega) (show 24 < M.1 by omega) rfl s14_32 w1286 (Or.inl w1284) rfl rfl (Nat.le_of_ble_eq_true rfl) (by omega) (by omega) (by omega) ?_
          rintro v M5 ⟨rfl, hB5⟩
          obtain ⟨s5, l24_5, l32_5⟩ := mB_24 hB5
          replace l24_5 : M5.2 24 = (.inr (12, [.ref 25, .ref 26, .ref 27, .ref 28, .ref 29, .ref 30, .int (nI sn), .int (nI vc), .int (nI tk), .ref 31, .int (nI dl), .ref 32, .int (nI pl), .int (nI (A.length + 1)), .ref 33, .ref 34, .ref 35, .ref 36, .ref 37, .ref 38, .ref 39, .ref 40, .int (nI k), .int (nI r.length), .int 0, .ref 41, .ref 42, .ref 43, .ref 44, .ref 45, .ref 46, .ref 47, .ref 48, .int y33, .ref 49, .ref 50, .int y36, .int y37, .int y38, .int y39, .int (nI hc), .ref 51])) := l24_5
          refine xj_aload_n (i := 0) d14_35_151 rfl rfl ?_
          refine xj_aload_n (i := 0) d14_35_152 rfl rfl ?_
          refine xj_get d14_35_153 f14_133_12 l24_5 (by omega) (show 24 < M5.1 by omega) rfl ?_
          refine xj_iconst (v := 1) d14_35_156 (by decide) ?_
          refine xj_iadd (v := nI (k + 1)) d14_35_157 (nI_add k 1) ?_
          refine xj_put (a := 24) (fs' := [.ref 25, .ref 26, .ref 27, .ref 28, .ref 29, .ref 30, .int (nI sn), .int (nI vc), .int (nI tk), .ref 31, .int (nI dl), .ref 32, .int (nI pl), .int (nI (A.length + 1)), .ref 33, .ref 34, .ref 35, .ref 36, .ref 37, .ref 38, .ref 39, .ref 40, .int (nI (k + 1)), .int (nI r.length), .int 0, .ref 41, .ref 42, .ref 43, .ref 44, .ref 45, .ref 46, .ref 47, .ref 48, .int y33, .ref 49, .ref 50, .int y36, .int y37, .int y38, .int y39, .int (nI hc), .ref 51]) d14_35_158 f14_133_12 l24_5 (by omega) (show 24 < M5.1 by omega) (Nat.le_of_ble_eq_true rfl) rfl rfl rfl ?_
          refine xj_abs_set (fun M6 hs6 ha6 ho6 => ?_)
          have hq : pItem fp pl (k, 0, S) = (k + 1, 0, (pOr S (pch fp pl k) (pch fp pl k))) := (if_neg (fun q => h1 q.1)).trans ((if_neg (fun q => h1 q.1)).trans (if_neg (fun q => q.2.2 h7)))
          refine xj_ret d14_35_161 (by omega) (by omega) rfl ⟨rfl, ?_⟩
          rw [hq]
          exact ⟨fun _ => mB_at hB5 (show M6.1 = M5.1 by omega) (fun j hj => (ho6 j (by omega))) ha6, fun q => absurd rfl q⟩
        · refine xj_aload_n (i := 0) d14_35_103 rfl rfl ?_
          refine xj_iconst (v := 2) d14_35_104 (by decide) ?_
          refine xj_callV (rest := []) (As := [.int 2]) (b := 24) (mAhead hg (M := M) (n := M.1) (dl := dl) (pl := pl) (vc := vc) (tk := tk) (hc := hc) (sn := sn) (y24 := 0) (y33 := y33) (y36 := y36) (y37 := y37) (y38 := y38) (y39 := y39) (np := A.length + 1) (a := k) (dp := r.length) (fp := fp) (k := 2) rfl (by omega) (by omega) (by omega) k24 (by omega) (by omega) k32 (by omega) hpl) d14_35_105 wd14_19 k24 (by omega) (show 24 < M.1 by omega) rfl s14_19 w1216 (Or.inl w1214) rfl rfl (Nat.le_of_ble_eq_true rfl) (by omega) (by omega) (by omega) ?_
          rintro v M' ⟨rfl, hm⟩
          subst M'
          refine xj_iload_n (i := 2) d14_35_108 rfl rfl ?_
          refine xj_icmp_ge (tgt := 120) d14_35_109 rfl (fun h8 => ?_) (fun h8 => ?_)
          · refine xj_aload_n (i := 0) d14_35_120 rfl rfl ?_
            refine xj_iload_n (i := 1) d14_35_121 rfl rfl ?_
            refine xj_iload_n (i := 2) d14_35_122 rfl rfl ?_
            refine xj_aload_n (i := 0) d14_35_123 rfl rfl ?_
            refine xj_iconst (v := 2) d14_35_124 (by decide) ?_
            refine xj_callV (rest := [.int (pch fp pl k), .int (nI A.length), .ref 24]) (As := [.int 2]) (b := 24) (mAhead hg (M := M) (n := M.1) (dl := dl) (pl := pl) (vc := vc) (tk := tk) (hc := hc) (sn := sn) (y24 := 0) (y33 := y33) (y36 := y36) (y37 := y37) (y38 := y38) (y39 := y39) (np := A.length + 1) (a := k) (dp := r.length) (fp := fp) (k := 2) rfl (by omega) (by omega) (by omega) k24 (by omega) (by omega) k32 (by omega) hpl) d14_35_125 wd14_19 k24 (by omega) (show 24 < M.1 by omega) rfl s14_19 w1216 (Or.inl w1214) rfl rfl (Nat.le_of_ble_eq_true rfl) (by omega) (by omega) (by omega) ?_
            rintro v M' ⟨rfl, hm⟩
            subst M'
            have hk2 : k + 2 < pl := pch_in rfl h6
            obtain ⟨uy, huy1, huy2⟩ := hPR (k + 2) hk2
            have huy : pch fp pl (k + 2) = nI (uy + 32) := (if_pos hk2).trans huy2
            have hxy : ux ≤ uy := Classical.byContradiction fun q => by rw [hux, huy] at h8; exact absurd h8 (nI_ge (by omega) (by omega))
            refine xj_callV (rest := []) (As := [.int (nI A.length), .int (pch fp pl k), .int (pch fp pl (k + 2))]) (b := 24) (rList hg hxn h52 hB (u := pch fp pl k) (v := pch fp pl (k + 2)) (u1 := ux) (v1 := uy) (kk := uy + 1 - ux) hux huy huy1 (by omega)) d14_35_128 wd14_32 k24 (by omega) (show 24 < M.1 by omega) rfl s14_32 w1286 (Or.inl w1284) rfl rfl (Nat.le_of_ble_eq_true rfl) (by omega) (by omega) (by omega) ?_
            rintro v M7 ⟨rfl, hB7⟩
            obtain ⟨s7, l24_7, l32_7⟩ := mB_24 hB7
            replace l24_7 : M7.2 24 = (.inr (12, [.ref 25, .ref 26, .ref 27, .ref 28, .ref 29, .ref 30, .int (nI sn), .int (nI vc), .int (nI tk), .ref 31, .int (nI dl), .ref 32, .int (nI pl), .int (nI (A.length + 1)), .ref 33, .ref 34, .ref 35, .ref 36, .ref 37, .ref 38, .ref 39, .ref 40, .int (nI k), .int (nI r.length), .int 0, .ref 41, .ref 42, .ref 43, .ref 44, .ref 45, .ref 46, .ref 47, .ref 48, .int y33, .ref 49, .ref 50, .int y36, .int y37, .int y38, .int y39, .int (nI hc), .ref 51])) := l24_7
            refine xj_aload_n (i := 0) d14_35_131 rfl rfl ?_
            refine xj_aload_n (i := 0) d14_35_132 rfl rfl ?_
            refine xj_get d14_35_133 f14_133_12 l24_7 (by omega) (show 24 < M7.1 by omega) rfl ?_
            refine xj_iconst (v := 3) d14_35_136 (by decide) ?_
            refine xj_iadd (v := nI (k + 3)) d14_35_137 (nI_add k 3) ?_
            refine xj_put (a := 24) (fs' := [.ref 25, .ref 26, .ref 27, .ref 28, .ref 29, .ref 30, .int (nI sn), .int (nI vc), .int (nI tk), .ref 31, .int (nI dl), .ref 32, .int (nI pl), .int (nI (A.length + 1)), .ref 33, .ref 34, .ref 35, .ref 36, .ref 37, .ref 38, .ref 39, .ref 40, .int (nI (k + 3)), .int (nI r.length), .int 0, .ref 41, .ref 42, .ref 43, .ref 44, .ref 45, .ref 46, .ref 47, .ref 48, .int y33, .ref 49, .ref 50, .int y36, .int y37, .int y38, .int y39, .int (nI hc), .ref 51]) d14_35_138 f14_133_12 l24_7 (by omega) (show 24 < M7.1 by omega) (Nat.le_of_ble_eq_true rfl) rfl rfl rfl ?_
            refine xj_abs_set (fun M8 hs8 ha8 ho8 => ?_)
            refine xj_goto (tgt := 161) d14_35_141 rfl ?_
            have hq : pItem fp pl (k, 0, S) = (k + 3, 0, (pOr S (pch fp pl k) (pch fp pl (k + 2)))) := (if_neg (fun q => h1 q.1)).trans ((if_neg (fun q => h1 q.1)).trans ((if_pos ⟨h5, h6, h7⟩).trans (if_neg (Int32.not_lt.mpr h8))))
            refine xj_ret d14_35_161 (by omega) (by omega) rfl ⟨rfl, ?_⟩
            rw [hq]
            exact ⟨fun _ => mB_at hB7 (show M8.1 = M7.1 by omega) (fun j hj => (ho8 j (by omega))) ha8, fun q => absurd rfl q⟩
          · refine xj_aload_n (i := 0) d14_35_112 rfl rfl ?_
            refine xj_iconst (v := 5) d14_35_113 (by decide) ?_
            refine xj_put (a := 24) (fs' := [.ref 25, .ref 26, .ref 27, .ref 28, .ref 29, .ref 30, .int (nI sn), .int (nI vc), .int (nI tk), .ref 31, .int (nI dl), .ref 32, .int (nI pl), .int (nI (A.length + 1)), .ref 33, .ref 34, .ref 35, .ref 36, .ref 37, .ref 38, .ref 39, .ref 40, .int (nI k), .int (nI r.length), .int 5, .ref 41, .ref 42, .ref 43, .ref 44, .ref 45, .ref 46, .ref 47, .ref 48, .int y33, .ref 49, .ref 50, .int y36, .int y37, .int y38, .int y39, .int (nI hc), .ref 51]) d14_35_114 f14_156_12 k24 (by omega) (show 24 < M.1 by omega) (Nat.le_of_ble_eq_true rfl) rfl rfl rfl ?_
            refine xj_abs_set (fun M9 hs9 ha9 ho9 => ?_)
            refine xj_goto (tgt := 161) d14_35_117 rfl ?_
            have hq : pItem fp pl (k, 0, S) = (k, 5, S) := (if_neg (fun q => h1 q.1)).trans ((if_neg (fun q => h1 q.1)).trans ((if_pos ⟨h5, h6, h7⟩).trans (if_pos (Int32.not_le.mp h8))))
            refine xj_ret d14_35_161 (by omega) (by omega) rfl ⟨rfl, ?_⟩
            rw [hq]
            exact ⟨fun q => absurd q (show ¬ (5 : Int32) = 0 by decide), fun _ => mB_fa hB (show M9.1 = M.1 by omega) (fun j hj => (ho9 j (by omega))) ha9⟩
  · refine xj_aload_n (i := 0) d14_35_12 rfl rfl ?_
    refine xj_iconst (v := 1) d14_35_13 (by decide) ?_
    refine xj_callV (rest := []) (As := [.int 1]) (b := 24) (mAhead hg (M := M) (n := M.1) (dl := dl) (pl := pl) (vc := vc) (tk := tk) (hc := hc) (sn := sn) (y24 := 0) (y33 := y33) (y36 := y36) (y37 := y37) (y38 := y38) (y39 := y39) (np := A.length + 1) (a := k) (dp := r.length) (fp := fp) (k := 1) rfl (by omega) (by omega) (by omega) k24 (by omega) (by omega) k32 (by omega) hpl) d14_35_14 wd14_19 k24 (by omega) (show 24 < M.1 by omega) rfl s14_19 w1216 (Or.inl w1214) rfl rfl (Nat.le_of_ble_eq_true rfl) (by omega) (by omega) (by omega) ?_
    rintro v M' ⟨rfl, hm⟩
    subst M'
    refine xj_bipush (v := 58) d14_35_17 (by decide) ?_
    refine xj_icmp_ne (tgt := 40) d14_35_19 rfl (fun h2 => ?_) (fun h2 => ?_)
    · refine xj_iload_n (i := 2) d14_35_40 rfl rfl ?_
      refine xj_bipush (v := 91) d14_35_41 (by decide) ?_
      refine xj_icmp_ne (tgt := 75) d14_35_43 rfl (fun h => absurd h1 h) (fun _ => ?_)
      refine xj_aload_n (i := 0) d14_35_46 rfl rfl ?_
      refine xj_iconst (v := 1) d14_35_47 (by decide) ?_
      refine xj_callV (rest := []) (As := [.int 1]) (b := 24) (mAhead hg (M := M) (n := M.1) (dl := dl) (pl := pl) (vc := vc) (tk := tk) (hc := hc) (sn := sn) (y24 := 0) (y33 := y33) (y36 := y36) (y37 := y37) (y38 := y38) (y39 := y39) (np := A.length + 1) (a := k) (dp := r.length) (fp := fp) (k := 1) rfl (by omega) (by omega) (by omega) k24 (by omega) (by omega) k32 (by omega) hpl) d14_35_48 wd14_19 k24 (by omega) (show 24 < M.1 by omega) rfl s14_19 w1216 (Or.inl w1214) rfl rfl (Nat.le_of_ble_eq_true rfl) (by omega) (by omega) (by omega) ?_
      rintro v M' ⟨rfl, hm⟩
      subst M'
      refine xj_bipush (v := 46) d14_35_51 (by decide) ?_
      refine xj_icmp_eq (tgt := 66) d14_35_53 rfl (fun h3 => ?_) (fun h3 => ?_)
      · refine xj_aload_n (i := 0) d14_35_66 rfl rfl ?_
        refine xj_bipush (v := 6) d14_35_67 (by decide) ?_
        refine xj_put (a := 24) (fs' := [.ref 25, .ref 26, .ref 27, .ref 28, .ref 29, .ref 30, .int (nI sn), .int (nI vc), .int (nI tk), .ref 31, .int (nI dl), .ref 32, .int (nI pl), .int (nI (A.length + 1)), .ref 33, .ref 34, .ref 35, .ref 36, .ref 37, .ref 38, .ref 39, .ref 40, .int (nI k), .int (nI r.length), .int 6, .ref 41, .ref 42, .ref 43, .ref 44, .ref 45, .ref 46, .ref 47, .ref 48, .int y33, .ref 49, .ref 50, .int y36, .int y37, .int y38, .int y39, .int (nI hc), .ref 51]) d14_35_69 f14_156_12 k24 (by omega) (show 24 < M.1 by omega) (Nat.le_of_ble_eq_true rfl) rfl rfl rfl ?_
        refine xj_abs_set (fun M10 hs10 ha10 ho10 => ?_)
        refine xj_goto (tgt := 161) d14_35_72 rfl ?_
        have hq : pItem fp pl (k, 0, S) = (k, 6, S) := (if_neg (fun q => h2 q.2)).trans (if_pos ⟨h1, Or.inl h3⟩)
        refine xj_ret d14_35_161 (by omega) (by omega) rfl ⟨rfl, ?_⟩
        rw [hq]
        exact ⟨fun q => absurd q (show ¬ (6 : Int32) = 0 by decide), fun _ => mB_fa hB (show M10.1 = M.1 by omega) (fun j hj => (ho10 j (by omega))) ha10⟩
      · refine xj_aload_n (i := 0) d14_35_56 rfl rfl ?_
        refine xj_iconst (v := 1) d14_35_57 (by decide) ?_
        refine xj_callV (rest := []) (As := [.int 1]) (b := 24) (mAhead hg (M := M) (n := M.1) (dl := dl) (pl := pl) (vc := vc) (tk := tk) (hc := hc) (sn := sn) (y24 := 0) (y33 := y33) (y36 := y36) (y37 := y37) (y38 := y38) (y39 := y39) (np := A.length + 1) (a := k) (dp := r.length) (fp := fp) (k := 1) rfl (by omega) (by omega) (by omega) k24 (by omega) (by omega) k32 (by omega) hpl) d14_35_58 wd14_19 k24 (by omega) (show 24 < M.1 by omega) rfl s14_19 w1216 (Or.inl w1214) rfl rfl (Nat.le_of_ble_eq_true rfl) (by omega) (by omega) (by omega) ?_
        rintro v M' ⟨rfl, hm⟩
        subst M'
        refine xj_bipush (v := 61) d14_35_61 (by decide) ?_
        refine xj_icmp_ne (tgt := 75) d14_35_63 rfl (fun h4 => ?_) (fun h4 => ?_)
        · refine xj_aload_n (i := 0) d14_35_75 rfl rfl ?_
          refine xj_iconst (v := 1) d14_35_76 (by decide) ?_
          refine xj_callV (rest := []) (As := [.int 1]) (b := 24) (mAhead hg (M := M) (n := M.1) (dl := dl) (pl := pl) (vc := vc) (tk := tk) (hc := hc) (sn := sn) (y24 := 0) (y33 := y33) (y36 := y36) (y37 := y37) (y38 := y38) (y39 := y39) (np := A.length + 1) (a := k) (dp := r.length) (fp := fp) (k := 1) rfl (by omega) (by omega) (by omega) k24 (by omega) (by omega) k32 (by omega) hpl) d14_35_77 wd14_19 k24 (by omega) (show 24 < M.1 by omega) rfl s14_19 w1216 (Or.inl w1214) rfl rfl (Nat.le_of_ble_eq_true rfl) (by omega) (by omega) (by omega) ?_
          rintro v M' ⟨rfl, hm⟩
          subst M'
          refine xj_bipush (v := 45) d14_35_80 (by decide) ?_
          refine xj_icmp_ne (tgt := 144) d14_35_82 rfl (fun h5 => ?_) (fun h5 => ?_)
          · refine xj_aload_n (i := 0) d14_35_144 rfl rfl ?_
            refine xj_iload_n (i := 1) d14_35_145 rfl rfl ?_
            refine xj_iload_n (i := 2) d14_35_146 rfl rfl ?_
            refine xj_iload_n (i := 2) d14_35_147 rfl rfl ?_
            refine xj_callV (rest := []) (As := [.int (nI A.length), .int (pch fp pl k), .int (pch fp pl k)]) (b := 24) (rList hg hxn h52 hB (u := pch fp pl k) (v := pch fp pl k) (u1 := ux) (v1 := ux) (kk := 1) hux hux hux1 (by omega)) d14_35_148 wd14_32 k24 (by omega) (show 24 < M.1 by omega) rfl s14_32 w1286 (Or.inl w1284) rfl rfl (Nat.le_of_ble_eq_true rfl) (by omega) (by omega) (by omega) ?_
            rintro v M11 ⟨rfl, hB11⟩
            obtain ⟨s11, l24_11, l32_11⟩ := mB_24 hB11
            replace l24_11 : M11.2 24 = (.inr (12, [.ref 25, .ref 26, .ref 27, .ref 28, .ref 29, .ref 30, .int (nI sn), .int (nI vc), .int (nI tk), .ref 31, .int (nI dl), .ref 32, .int (nI pl), .int (nI (A.length + 1)), .ref 33, .ref 34, .ref 35, .ref 36, .ref 37, .ref 38, .ref 39, .ref 40, .int (nI k), .int (nI r.length), .int 0, .ref 41, .ref 42, .ref 43, .ref 44, .ref 45, .ref 46, .ref 47, .ref 48, .int y33, .ref 49, .ref 50, .int y36, .int y37, .int y38, .int y39, .int (nI hc), .ref 51])) := l24_11
            refine xj_aload_n (i := 0) d14_35_151 rfl rfl ?_
            refine xj_aload_n (i := 0) d14_35_152 rfl rfl ?_
            refine xj_get d14_35_153 f14_133_12 l24_11 (by omega) (show 24 < M11.1 by omega) rfl ?_
            refine xj_iconst (v := 1) d14_35_156 (by decide) ?_
            refine xj_iadd (v := nI (k + 1)) d14_35_157 (nI_add k 1) ?_
            refine xj_put (a := 24) (fs' := [.ref 25, .ref 26, .ref 27, .ref 28, .ref 29, .ref 30, .int (nI sn), .int (nI vc), .int (nI tk), .ref 31, .int (nI dl), .ref 32, .int (nI pl), .int (nI (A.length + 1)), .ref 33, .ref 34, .ref 35, .ref 36, .ref 37, .ref 38, .ref 39, .ref 40, .int (nI (k + 1)), .int (nI r.length), .int 0, .ref 41, .ref 42, .ref 43, .ref 44, .ref 45, .ref 46, .ref 47, .ref 48, .int y33, .ref 49, .ref 50, .int y36, .int y37, .int y38, .int y39, .int (nI hc), .ref 51]) d14_35_158 f14_133_12 l24_11 (by omega) (show 24 < M11.1 by omega) (Nat.le_of_ble_eq_true rfl) rfl rfl rfl ?_
            refine xj_abs_set (fun M12 hs12 ha12 ho12 => ?_)
            have hq : pItem fp pl (k, 0, S) = (k + 1, 0, (pOr S (pch fp pl k) (pch fp pl k))) := (if_neg (fun q => h2 q.2)).trans ((if_neg (fun q => q.2.elim h3 h4)).trans (if_neg (fun q => h5 q.1)))
            refine xj_ret d14_35_161 (by omega) (by omega) rfl ⟨rfl, ?_⟩
            rw [hq]
            exact ⟨fun _ => mB_at hB11 (show M12.1 = M11.1 by omega) (fun j hj => (ho12 j (by omega))) ha12, fun q => absurd rfl q⟩
          · refine xj_aload_n (i := 0) d14_35_85 rfl rfl ?_
            refine xj_iconst (v := 2) d14_35_86 (by decide) ?_
            refine xj_callV (rest := []) (As := [.int 2]) (b := 24) (mAhead hg (M := M) (n := M.1) (dl := dl) (pl := pl) (vc := vc) (tk := tk) (hc := hc) (sn := sn) (y24 := 0) (y33 := y33) (y36 := y36) (y37 := y37) (y38 := y38) (y39 := y39) (np := A.length + 1) (a := k) (dp := r.length) (fp := fp) (k := 2) rfl (by omega) (by omega) (by omega) k24 (by omega) (by omega) k32 (by omega) hpl) d14_35_87 wd14_19 k24 (by omega) (show 24 < M.1 by omega) rfl s14_19 w1216 (Or.inl w1214) rfl rfl (Nat.le_of_ble_eq_true rfl) (by omega) (by omega) (by omega) ?_
            rintro v M' ⟨rfl, hm⟩
            subst M'
            refine xj_if_eq (tgt := 144) d14_35_90 rfl (fun h6 => ?_) (fun h6 => ?_)
            · refine xj_aload_n (i := 0) d14_35_144 rfl rfl ?_
              refine xj_iload_n (i := 1) d14_35_145 rfl rfl ?_
              refine xj_iload_n (i := 2) d14_35_146 rfl rfl ?_
              refine xj_iload_n (i := 2) d14_35_147 rfl rfl ?_
              refine xj_callV (rest := []) (As := [.int (nI A.length), .int (pch fp pl k), .int (pch fp pl k)]) (b := 24) (rList hg hxn h52 hB (u := pch fp pl k) (v := pch fp pl k) (u1 := ux) (v1 := ux) (kk := 1) hux hux hux1 (by omega)) d14_35_148 wd14_32 k24 (by omega) (show 24 < M.1 by omega) rfl s14_32 w1286 (Or.inl w1284) rfl rfl (Nat.le_of_ble_eq_true rfl) (by omega) (by omega) (by omega) ?_
              rintro v M13 ⟨rfl, hB13⟩
              obtain ⟨s13, l24_13, l32_13⟩ := mB_24 hB13
              replace l24_13 : M13.2 24 = (.inr (12, [.ref 25, .ref 26, .ref 27, .ref 28, .ref 29, .ref 30, .int (nI sn), .int (nI vc), .int (nI tk), .ref 31, .int (nI dl), .ref 32, .int (nI pl), .int (nI (A.length + 1)), .ref 33, .ref 34, .ref 35, .ref 36, .ref 37, .ref 38, .ref 39, .ref 40, .int (nI k), .int (nI r.length), .int 0, .ref 41, .ref 42, .ref 43, .ref 44, .ref 45, .ref 46, .ref 47, .ref 48, .int y33, .ref 49, .ref 50, .int y36, .int y37, .int y38, .int y39, .int (nI hc), .ref 51])) := l24_13
              refine xj_aload_n (i := 0) d14_35_151 rfl rfl ?_
              refine xj_aload_n (i := 0) d14_35_152 rfl rfl ?_
              refine xj_get d14_35_153 f14_133_12 l24_13 (by omega) (show 24 < M13.1 by omega) rfl ?_
              refine xj_iconst (v := 1) d14_35_156 (by decide) ?_
              refine xj_iadd (v := nI (k + 1)) d14_35_157 (nI_add k 1) ?_
              refine xj_put (a := 24) (fs' := [.ref 25, .ref 26, .ref 27, .ref 28, .ref 29, .ref 30, .int (nI sn), .int (nI vc), .int (nI tk), .ref 31, .int (nI dl), .ref 32, .int (nI pl), .int (nI (A.length + 1)), .ref 33, .ref 34, .ref 35, .ref 36, .ref 37, .ref 38, .ref 39, .ref 40, .int (nI (k + 1)), .int (nI r.length), .int 0, .ref 41, .ref 42, .ref 43, .ref 44, .ref 45, .ref 46, .ref 47, .ref 48, .int y33, .ref 49, .ref 50, .int y36, .int y37, .int y38, .int y39, .int (nI hc), .ref 51]) d14_35_158 f14_133_12 l24_13 (by omega) (show 24 < M13.1 by omega) (Nat.le_of_ble_eq_true rfl) rfl rfl rfl ?_
              refine xj_abs_set (fun M14 hs14 ha14 ho14 => ?_)
              have hq : pItem fp pl (k, 0, S) = (k + 1, 0, (pOr S (pch fp pl k) (pch fp pl k))) := (if_neg (fun q => h2 q.2)).trans ((if_neg (fun q => q.2.elim h3 h4)).trans (if_neg (fun q => q.2.1 h6)))
              refine xj_ret d14_35_161 (by omega) (by omega) rfl ⟨rfl, ?_⟩
              rw [hq]
              exact ⟨fun _ => mB_at hB13 (show M14.1 = M13.1 by omega) (fun j hj => (ho14 j (by omega))) ha14, fun q => absurd rfl q⟩
            · refine xj_aload_n (i := 0) d14_35_93 rfl rfl ?_
              refine xj_iconst (v := 2) d14_35_94 (by decide) ?_
              refine xj_callV (rest := []) (As := [.int 2]) (b := 24) (mAhead hg (M := M) (n := M.1) (dl := dl) (pl := pl) (vc := vc) (tk := tk) (hc := hc) (sn := sn) (y24 := 0) (y33 := y33) (y36 := y36) (y37 := y37) (y38 := y38) (y39 := y39) (np := A.length + 1) (a := k) (dp := r.length) (fp := fp) (k := 2) rfl (by omega) (by omega) (by omega) k24 (by omega) (by omega) k32 (by omega) hpl) d14_35_95 wd14_19 k24 (by omega) (show 24 < M.1 by omega) rfl s14_19 w1216 (Or.inl w1214) rfl rfl (Nat.le_of_ble_eq_true rfl) (by omega) (by omega) (by omega) ?_
              rintro v M' ⟨rfl, hm⟩
              subst M'
              refine xj_bipush (v := 93) d14_35_98 (by decide) ?_
              refine xj_icmp_eq (tgt := 144) d14_35_100 rfl (fun h7 => ?_) (fun h7 => ?_)
              · refine xj_aload_n (i := 0) d14_35_144 rfl rfl ?_
                refine xj_iload_n (i := 1) d14_35_145 rfl rfl ?_
                refine xj_iload_n (i := 2) d14_35_146 rfl rfl ?_
                refine xj_iload_n (i := 2) d14_35_147 rfl rfl ?_
                refine xj_callV (rest := []) (As := [.int (nI A.length), .int (pch fp pl k), .int (pch fp pl k)]) (b := 24) (rList hg hxn h52 hB (u := pch fp pl k) (v := pch fp pl k) (u1 := ux) (v1 := ux) (kk := 1) hux hux hux1 (by omega)) d14_35_148 wd14_32 k24 (by omega) (show 24 < M.1 by omega) rfl s14_32 w1286 (Or.inl w1284) rfl rfl (Nat.le_of_ble_eq_true rfl) (by omega) (by omega) (by omega) ?_
                rintro v M15 ⟨rfl, hB15⟩
                obtain ⟨s15, l24_15, l32_15⟩ := mB_24 hB15
                replace l24_15 : M15.2 24 = (.inr (12, [.ref 25, .ref 26, .ref 27, .ref 28, .ref 29, .ref 30, .int (nI sn), .int (nI vc), .int (nI tk), .ref 31, .int (nI dl), .ref 32, .int (nI pl), .int (nI (A.length + 1)), .ref 33, .ref 34, .ref 35, .ref 36, .ref 37, .ref 38, .ref 39, .ref 40, .int (nI k), .int (nI r.length), .int 0, .ref 41, .ref 42, .ref 43, .ref 44, .ref 45, .ref 46, .ref 47, .ref 48, .int y33, .ref 49, .ref 50, .int y36, .int y37, .int y38, .int y39, .int (nI hc), .ref 51])) := l24_15
                refine xj_aload_n (i := 0) d14_35_151 rfl rfl ?_
                refine xj_aload_n (i := 0) d14_35_152 rfl rfl ?_
                refine xj_get d14_35_153 f14_133_12 l24_15 (by omega) (show 24 < M15.1 by omega) rfl ?_
                refine xj_iconst (v := 1) d14_35_156 (by decide) ?_
                refine xj_iadd (v := nI (k + 1)) d14_35_157 (nI_add k 1) ?_
                refine xj_put (a := 24) (fs' := [.ref 25, .ref 26, .ref 27, .ref 28, .ref 29, .ref 30, .int (nI sn), .int (nI vc), .int (nI tk), .ref 31, .int (nI dl), .ref 32, .int (nI pl), .int (nI (A.length + 1)), .ref 33, .ref 34, .ref 35, .ref 36, .ref 37, .ref 38, .ref 39, .ref 40, .int (nI (k + 1)), .int (nI r.length), .int 0, .ref 41, .ref 42, .ref 43, .ref 44, .ref 45, .ref 46, .ref 47, .ref 48, .int y33, .ref 49, .ref 50, .int y36, .int y37, .int y38, .int y39, .int (nI hc), .ref 51]) d14_35_158 f14_133_12 l24_15 (by omega) (show 24 < M15.1 by omega) (Nat.le_of_ble_eq_true rfl) rfl rfl rfl ?_
                refine xj_abs_set (fun M16 hs16 ha16 ho16 => ?_)
                have hq : pItem fp pl (k, 0, S) = (k + 1, 0, (pOr S (pch fp pl k) (pch fp pl k))) := (if_neg (fun q => h2 q.2)).trans ((if_neg (fun q => q.2.elim h3 h4)).trans (if_neg (fun q => q.2.2 h7)))
                refine xj_ret d14_35_161 (by omega) (by omega) rfl ⟨rfl, ?_⟩
                rw [hq]
                exact ⟨fun _ => mB_at hB15 (show M16.1 = M15.1 by omega) (fun j hj => (ho16 j (by omega))) ha16, fun q => absurd rfl q⟩
              · refine xj_aload_n (i := 0) d14_35_103 rfl rfl ?_
                refine xj_iconst (v := 2) d14_35_104 (by decide) ?_
                refine xj_callV (rest := []) (As := [.int 2]) (b := 24) (mAhead hg (M := M) (n := M.1) (dl := dl) (pl := pl) (vc := vc) (tk := tk) (hc := hc) (sn := sn) (y24 := 0) (y33 := y33) (y36 := y36) (y37 := y37) (y38 := y38) (y39 := y39) (np := A.length + 1) (a := k) (dp := r.length) (fp := fp) (k := 2) rfl (by omega) (by omega) (by omega) k24 (by omega) (by omega) k32 (by omega) hpl) d14_35_105 wd14_19 k24 (by omega) (show 24 < M.1 by omega) rfl s14_19 w1216 (Or.inl w1214) rfl rfl (Nat.le_of_ble_eq_true rfl) (by omega) (by omega) (by omega) ?_
                rintro v M' ⟨rfl, hm⟩
                subst M'
                refine xj_iload_n (i := 2) d14_35_108 rfl rfl ?_
                refine xj_icmp_ge (tgt := 120) d14_35_109 rfl (fun h8 => ?_) (fun h8 => ?_)
                · refine xj_aload_n (i := 0) d14_35_120 rfl rfl ?_
                  refine xj_iload_n (i := 1) d14_35_121 rfl rfl ?_
                  refine xj_iload_n (i := 2) d14_35_122 rfl rfl ?_
                  refine xj_aload_n (i := 0) d14_35_123 rfl rfl ?_
                  refine xj_iconst (v := 2) d14_35_124 (by decide) ?_
                  refine xj_callV (rest := [.int (pch fp pl k), .int (nI A.length), .ref 24]) (As := [.int 2]) (b := 24) (mAhead hg (M := M) (n := M.1) (dl := dl) (pl := pl) (vc := vc) (tk := tk) (hc := hc) (sn := sn) (y24 := 0) (y33 := y33) (y36 := y36) (y37 := y37) (y38 := y38) (y39 := y39) (np := A.length + 1) (a := k) (dp := r.length) (fp := fp) (k := 2) rfl (by omega) (by omega) (by omega) k24 (by omega) (by omega) k32 (by omega) hpl) d14_35_125 wd14_19 k24 (by omega) (show 24 < M.1 by omega) rfl s14_19 w1216 (Or.inl w1214) rfl rfl (Nat.le_of_ble_eq_true rfl) (by omega) (by omega) (by omega) ?_
                  rintro v M' ⟨rfl, hm⟩
                  subst M'
                  have hk2 : k + 2 < pl := pch_in rfl h6
                  obtain ⟨uy, huy1, huy2⟩ := hPR (k + 2) hk2
                  have huy : pch fp pl (k + 2) = nI (uy + 32) := (if_pos hk2).trans huy2
                  have hxy : ux ≤ uy := Classical.byContradiction fun q => by rw [hux, huy] at h8; exact absurd h8 (nI_ge (by omega) (by omega))
                  refine xj_callV (rest := []) (As := [.int (nI A.length), .int (pch fp pl k), .int (pch fp pl (k + 2))]) (b := 24) (rList hg hxn h52 hB (u := pch fp pl k) (v := pch fp pl (k + 2)) (u1 := ux) (v1 := uy) (kk := uy + 1 - ux) hux huy huy1 (by omega)) d14_35_128 wd14_32 k24 (by omega) (show 24 < M.1 by omega) rfl s14_32 w1286 (Or.inl w1284) rfl rfl (Nat.le_of_ble_eq_true rfl) (by omega) (by omega) (by omega) ?_
                  rintro v M17 ⟨rfl, hB17⟩
                  obtain ⟨s17, l24_17, l32_17⟩ := mB_24 hB17
                  replace l24_17 : M17.2 24 = (.inr (12, [.ref 25, .ref 26, .ref 27, .ref 28, .ref 29, .ref 30, .int (nI sn), .int (nI vc), .int (nI tk), .ref 31, .int (nI dl), .ref 32, .int (nI pl), .int (nI (A.length + 1)), .ref 33, .ref 34, .ref 35, .ref 36, .ref 37, .ref 38, .ref 39, .ref 40, .int (nI k), .int (nI r.length), .int 0, .ref 41, .ref 42, .ref 43, .ref 44, .ref 45, .ref 46, .ref 47, .ref 48, .int y33, .ref 49, .ref 50, .int y36, .int y37, .int y38, .int y39, .int (nI hc), .ref 51])) := l24_17
                  refine xj_aload_n (i := 0) d14_35_131 rfl rfl ?_
                  refine xj_aload_n (i := 0) d14_35_132 rfl rfl ?_
                  refine xj_get d14_35_133 f14_133_12 l24_17 (by omega) (show 24 < M17.1 by omega) rfl ?_
                  refine xj_iconst (v := 3) d14_35_136 (by decide) ?_
                  refine xj_iadd (v := nI (k + 3)) d14_35_137 (nI_add k 3) ?_
                  refine xj_put (a := 24) (fs' := [.ref 25, .ref 26, .ref 27, .ref 28, .ref 29, .ref 30, .int (nI sn), .int (nI vc), .int (nI tk), .ref 31, .int (nI dl), .ref 32, .int (nI pl), .int (nI (A.length + 1)), .ref 33, .ref 34, .ref 35, .ref 36, .ref 37, .ref 38, .ref 39, .ref 40, .int (nI (k + 3)), .int (nI r.length), .int 0, .ref 41, .ref 42, .ref 43, .ref 44, .ref 45, .ref 46, .ref 47, .ref 48, .int y33, .ref 49, .ref 50, .int y36, .int y37, .int y38, .int y39, .int (nI hc), .ref 51]) d14_35_138 f14_133_12 l24_17 (by omega) (show 24 < M17.1 by omega) (Nat.le_of_ble_eq_true rfl) rfl rfl rfl ?_
                  refine xj_abs_set (fun M18 hs18 ha18 ho18 => ?_)
                  refine xj_goto (tgt := 161) d14_35_141 rfl ?_
                  have hq : pItem fp pl (k, 0, S) = (k + 3, 0, (pOr S (pch fp pl k) (pch fp pl (k + 2)))) := (if_neg (fun q => h2 q.2)).trans ((if_neg (fun q => q.2.elim h3 h4)).trans ((if_pos ⟨h5, h6, h7⟩).trans (if_neg (Int32.not_lt.mpr h8))))
                  refine xj_ret d14_35_161 (by omega) (by omega) rfl ⟨rfl, ?_⟩
                  rw [hq]
                  exact ⟨fun _ => mB_at hB17 (show M18.1 = M17.1 by omega) (fun j hj => (ho18 j (by omega))) ha18, fun q => absurd rfl q⟩
                · refine xj_aload_n (i := 0) d14_35_112 rfl rfl ?_
                  refine xj_iconst (v := 5) d14_35_113 (by decide) ?_
                  refine xj_put (a := 24) (fs' := [.ref 25, .ref 26, .ref 27, .ref 28, .ref 29, .ref 30, .int (nI sn), .int (nI vc), .int (nI tk), .ref 31, .int (nI dl), .ref 32, .int (nI pl), .int (nI (A.length + 1)), .ref 33, .ref 34, .ref 35, .ref 36, .ref 37, .ref 38, .ref 39, .ref 40, .int (nI k), .int (nI r.length), .int 5, .ref 41, .ref 42, .ref 43, .ref 44, .ref 45, .ref 46, .ref 47, .ref 48, .int y33, .ref 49, .ref 50, .int y36, .int y37, .int y38, .int y39, .int (nI hc), .ref 51]) d14_35_114 f14_156_12 k24 (by omega) (show 24 < M.1 by omega) (Nat.le_of_ble_eq_true rfl) rfl rfl rfl ?_
                  refine xj_abs_set (fun M19 hs19 ha19 ho19 => ?_)
                  refine xj_goto (tgt := 161) d14_35_117 rfl ?_
                  have hq : pItem fp pl (k, 0, S) = (k, 5, S) := (if_neg (fun q => h2 q.2)).trans ((if_neg (fun q => q.2.elim h3 h4)).trans ((if_pos ⟨h5, h6, h7⟩).trans (if_pos (Int32.not_le.mp h8))))
                  refine xj_ret d14_35_161 (by omega) (by omega) rfl ⟨rfl, ?_⟩
                  rw [hq]
                  exact ⟨fun q => absurd q (show ¬ (5 : Int32) = 0 by decide), fun _ => mB_fa hB (show M19.1 = M.1 by omega) (fun j hj => (ho19 j (by omega))) ha19⟩
        · refine xj_aload_n (i := 0) d14_35_66 rfl rfl ?_
          refine xj_bipush (v := 6) d14_35_67 (by decide) ?_
          refine xj_put (a := 24) (fs' := [.ref 25, .ref 26, .ref 27, .ref 28, .ref 29, .ref 30, .int (nI sn), .int (nI vc), .int (nI tk), .ref 31, .int (nI dl), .ref 32, .int (nI pl), .int (nI (A.length + 1)), .ref 33, .ref 34, .ref 35, .ref 36, .ref 37, .ref 38, .ref 39, .ref 40, .int (nI k), .int (nI r.length), .int 6, .ref 41, .ref 42, .ref 43, .ref 44, .ref 45, .ref 46, .ref 47, .ref 48, .int y33, .ref 49, .ref 50, .int y36, .int y37, .int y38, .int y39, .int (nI hc), .ref 51]) d14_35_69 f14_156_12 k24 (by omega) (show 24 < M.1 by omega) (Nat.le_of_ble_eq_true rfl) rfl rfl rfl ?_
          refine xj_abs_set (fun M20 hs20 ha20 ho20 => ?_)
          refine xj_goto (tgt := 161) d14_35_72 rfl ?_
          have hq : pItem fp pl (k, 0, S) = (k, 6, S) := (if_neg (fun q => h2 q.2)).trans (if_pos ⟨h1, Or.inr h4⟩)
          refine xj_ret d14_35_161 (by omega) (by omega) rfl ⟨rfl, ?_⟩
          rw [hq]
          exact ⟨fun q => absurd q (show ¬ (6 : Int32) = 0 by decide), fun _ => mB_fa hB (show M20.1 = M.1 by omega) (fun j hj => (ho20 j (by omega))) ha20⟩
    · refine xj_aload_n (i := 0) d14_35_22 rfl rfl ?_
      refine xj_aload_n (i := 0) d14_35_23 rfl rfl ?_
      refine xj_get d14_35_24 f14_133_12 k24 (by omega) (show 24 < M.1 by omega) rfl ?_
      refine xj_iconst (v := 2) d14_35_27 (by decide) ?_
      refine xj_iadd (v := nI (k + 2)) d14_35_28 (nI_add k 2) ?_
      refine xj_put (a := 24) (fs' := [.ref 25, .ref 26, .ref 27, .ref 28, .ref 29, .ref 30, .int (nI sn), .int (nI vc), .int (nI tk), .ref 31, .int (nI dl), .ref 32, .int (nI pl), .int (nI (A.length + 1)), .ref 33, .ref 34, .ref 35, .ref 36, .ref 37, .ref 38, .ref 39, .ref 40, .int (nI (k + 2)), .int (nI r.length), .int 0, .ref 41, .ref 42, .ref 43, .ref 44, .ref 45, .ref 46, .ref 47, .ref 48, .int y33, .ref 49, .ref 50, .int y36, .int y37, .int y38, .int y39, .int (nI hc), .ref 51]) d14_35_29 f14_133_12 k24 (by omega) (show 24 < M.1 by omega) (Nat.le_of_ble_eq_true rfl) rfl rfl rfl ?_
      refine xj_abs_set (fun M21 hs21 ha21 ho21 => ?_)
      refine xj_aload_n (i := 0) d14_35_32 rfl rfl ?_
      refine xj_iload_n (i := 1) d14_35_33 rfl rfl ?_
      refine xj_callV (rest := []) (As := [.int (nI A.length)]) (b := 24) (rClass hg hxn h52 hpl (mB_at hB (show M21.1 = M.1 by omega) (fun j hj => (ho21 j (by omega))) ha21) (by omega)) d14_35_34 wd14_34 ha21 (by omega) (show 24 < M21.1 by omega) rfl s14_34 w1278 (Or.inl w1276) rfl rfl (Nat.le_of_ble_eq_true rfl) (by omega) (by omega) (by omega) ?_
      rintro v M2 ⟨rfl, hc1, hc2⟩
      refine xj_goto (tgt := 161) d14_35_37 rfl ?_
      refine xj_ret d14_35_161 (by omega) (by omega) rfl ⟨rfl, ?_⟩
      by_cases hany : pAlp fp pl (k + 2) ∨ pLow fp pl (k + 2) ∨ pUpp fp pl (k + 2) ∨ pDgt fp pl (k + 2)
      · have hq : pItem fp pl (k, 0, S) = (k + 9, 0, pCls fp pl (k + 2) S) := (if_pos ⟨h1, h2⟩).trans (if_pos hany)
        rw [hq]
        exact ⟨fun _ => hc1 hany, fun q => absurd rfl q⟩
      · have hq : pItem fp pl (k, 0, S) = (k + 2, 5, S) := (if_pos ⟨h1, h2⟩).trans (if_neg hany)
        rw [hq]
        exact ⟨fun q => absurd q (show ¬ (5 : Int32) = 0 by decide), fun _ => hc2 hany⟩

set_option maxRecDepth 20000 in
set_option maxHeartbeats 1000000 in
theorem rClass {G : xG} (hg : xGood G) (hxn : xn = 16) {dl pl vc tk hc sn : Nat} {y33 y36 y37 y38 y39 : Int32} {fp : Nat → Int32} {M0 M : xM} (h52 : 52 ≤ M0.1) (hpl : pl ≤ 24) {a : Nat} {A : List xNode} {t : List Nat × List Nat} {r : List (List Nat × List Nat)} {k : Nat} {S : Nat → Bool} (hB : mB dl pl vc tk hc sn y33 y36 y37 y38 y39 fp M0 M (a, 0, A, t :: r) k S) (hk : k < 900) : XC G Y14_34 none 2 0 0 [.ref 24, .int (nI A.length)] M (fun v M' => v = none ∧ ((pAlp fp pl k ∨ pLow fp pl k ∨ pUpp fp pl k ∨ pDgt fp pl k) → mB dl pl vc tk hc sn y33 y36 y37 y38 y39 fp M0 M' (a, 0, A, t :: r) (k + 7) (pCls fp pl k S)) ∧ (¬ (pAlp fp pl k ∨ pLow fp pl k ∨ pUpp fp pl k ∨ pDgt fp pl k) → mRf dl pl vc tk hc sn y33 y36 y37 y38 y39 fp M0 M' 5)) := by
  obtain ⟨i1, k24, k32⟩ := mB_24 hB
  replace k24 : M.2 24 = (.inr (12, [.ref 25, .ref 26, .ref 27, .ref 28, .ref 29, .ref 30, .int (nI sn), .int (nI vc), .int (nI tk), .ref 31, .int (nI dl), .ref 32, .int (nI pl), .int (nI (A.length + 1)), .ref 33, .ref 34, .ref 35, .ref 36, .ref 37, .ref 38, .ref 39, .ref 40, .int (nI k), .int (nI r.length), .int 0, .ref 41, .ref 42, .ref 43, .ref 44, .ref 45, .ref 46, .ref 47, .ref 48, .int y33, .ref 49, .ref 50, .int y36, .int y37, .int y38, .int y39, .int (nI hc), .ref 51])) := k24
  refine xc_of hg (by decide) (Nat.le_of_ble_eq_true rfl) (Or.inr (Or.inr (Or.inr (Or.inr (Or.inl ⟨rfl, rfl, fun v M' h => h.1⟩))))) ?_
  refine xj_aload_n (i := 0) d14_34_0 rfl rfl ?_
  refine xj_bipush (v := 97) d14_34_1 (by decide) ?_
  refine xj_bipush (v := 108) d14_34_3 (by decide) ?_
  refine xj_bipush (v := 112) d14_34_5 (by decide) ?_
  refine xj_bipush (v := 104) d14_34_7 (by decide) ?_
  refine xj_bipush (v := 97) d14_34_9 (by decide) ?_
  refine xj_callV (rest := []) (As := [.int 97, .int 108, .int 112, .int 104, .int 97]) (b := 24) (mNamed hg (M := M) (n := M.1) (dl := dl) (pl := pl) (vc := vc) (tk := tk) (hc := hc) (sn := sn) (y24 := 0) (y33 := y33) (y36 := y36) (y37 := y37) (y38 := y38) (y39 := y39) (np := A.length + 1) (a := k) (dp := r.length) (fp := fp) (c1 := 97) (c2 := 108) (c3 := 112) (c4 := 104) (c5 := 97) rfl (by omega) (by omega) (by omega) k24 (by omega) (by omega) k32 (by omega) hpl) d14_34_11 wd14_33 k24 (by omega) (show 24 < M.1 by omega) rfl s14_33 w1282 (Or.inl w1280) rfl rfl (Nat.le_of_ble_eq_true rfl) (by omega) (by omega) (by omega) ?_
  rintro v M' ⟨rfl, hm⟩
  subst M'
  refine xj_if_ne (tgt := 34) d14_34_14 rfl (fun hA => ?_) (fun hA => ?_)
  · refine xj_aload_n (i := 0) d14_34_34 rfl rfl ?_
    refine xj_iload_n (i := 1) d14_34_35 rfl rfl ?_
    refine xj_bipush (v := 97) d14_34_36 (by decide) ?_
    refine xj_bipush (v := 122) d14_34_38 (by decide) ?_
    refine xj_callV (rest := []) (As := [.int (nI A.length), .int 97, .int 122]) (b := 24) (rList hg hxn h52 hB (u := 97) (v := 122) (u1 := 65) (v1 := 90) (kk := 26) (by decide) (by decide) (by decide) (by decide)) d14_34_40 wd14_32 k24 (by omega) (show 24 < M.1 by omega) rfl s14_32 w1286 (Or.inl w1284) rfl rfl (Nat.le_of_ble_eq_true rfl) (by omega) (by omega) (by omega) ?_
    rintro v M1 ⟨rfl, hB1⟩
    obtain ⟨s1, l24_1, l32_1⟩ := mB_24 hB1
    replace l24_1 : M1.2 24 = (.inr (12, [.ref 25, .ref 26, .ref 27, .ref 28, .ref 29, .ref 30, .int (nI sn), .int (nI vc), .int (nI tk), .ref 31, .int (nI dl), .ref 32, .int (nI pl), .int (nI (A.length + 1)), .ref 33, .ref 34, .ref 35, .ref 36, .ref 37, .ref 38, .ref 39, .ref 40, .int (nI k), .int (nI r.length), .int 0, .ref 41, .ref 42, .ref 43, .ref 44, .ref 45, .ref 46, .ref 47, .ref 48, .int y33, .ref 49, .ref 50, .int y36, .int y37, .int y38, .int y39, .int (nI hc), .ref 51])) := l24_1
    refine xj_aload_n (i := 0) d14_34_43 rfl rfl ?_
    refine xj_bipush (v := 97) d14_34_44 (by decide) ?_
    refine xj_bipush (v := 108) d14_34_46 (by decide) ?_
    refine xj_bipush (v := 112) d14_34_48 (by decide) ?_
    refine xj_bipush (v := 104) d14_34_50 (by decide) ?_
    refine xj_bipush (v := 97) d14_34_52 (by decide) ?_
    refine xj_callV (rest := []) (As := [.int 97, .int 108, .int 112, .int 104, .int 97]) (b := 24) (mNamed hg (M := M1) (n := M1.1) (dl := dl) (pl := pl) (vc := vc) (tk := tk) (hc := hc) (sn := sn) (y24 := 0) (y33 := y33) (y36 := y36) (y37 := y37) (y38 := y38) (y39 := y39) (np := A.length + 1) (a := k) (dp := r.length) (fp := fp) (c1 := 97) (c2 := 108) (c3 := 112) (c4 := 104) (c5 := 97) rfl (by omega) (by omega) (by omega) l24_1 (by omega) (by omega) l32_1 (by omega) hpl) d14_34_54 wd14_33 l24_1 (by omega) (show 24 < M1.1 by omega) rfl s14_33 w1282 (Or.inl w1280) rfl rfl (Nat.le_of_ble_eq_true rfl) (by omega) (by omega) (by omega) ?_
    rintro v M' ⟨rfl, hm⟩
    subst M'
    refine xj_if_ne (tgt := 77) d14_34_57 rfl (fun _ => ?_) (fun h => absurd h hA)
    refine xj_aload_n (i := 0) d14_34_77 rfl rfl ?_
    refine xj_iload_n (i := 1) d14_34_78 rfl rfl ?_
    refine xj_bipush (v := 65) d14_34_79 (by decide) ?_
    refine xj_bipush (v := 90) d14_34_81 (by decide) ?_
    refine xj_callV (rest := []) (As := [.int (nI A.length), .int 65, .int 90]) (b := 24) (rList hg hxn h52 hB1 (u := 65) (v := 90) (u1 := 33) (v1 := 58) (kk := 26) (by decide) (by decide) (by decide) (by decide)) d14_34_83 wd14_32 l24_1 (by omega) (show 24 < M1.1 by omega) rfl s14_32 w1286 (Or.inl w1284) rfl rfl (Nat.le_of_ble_eq_true rfl) (by omega) (by omega) (by omega) ?_
    rintro v M2 ⟨rfl, hB2⟩
    obtain ⟨s2, l24_2, l32_2⟩ := mB_24 hB2
    replace l24_2 : M2.2 24 = (.inr (12, [.ref 25, .ref 26, .ref 27, .ref 28, .ref 29, .ref 30, .int (nI sn), .int (nI vc), .int (nI tk), .ref 31, .int (nI dl), .ref 32, .int (nI pl), .int (nI (A.length + 1)), .ref 33, .ref 34, .ref 35, .ref 36, .ref 37, .ref 38, .ref 39, .ref 40, .int (nI k), .int (nI r.length), .int 0, .ref 41, .ref 42, .ref 43, .ref 44, .ref 45, .ref 46, .ref 47, .ref 48, .int y33, .ref 49, .ref 50, .int y36, .int y37, .int y38, .int y39, .int (nI hc), .ref 51])) := l24_2
    refine xj_aload_n (i := 0) d14_34_86 rfl rfl ?_
    refine xj_bipush (v := 100) d14_34_87 (by decide) ?_
    refine xj_bipush (v := 105) d14_34_89 (by decide) ?_
    refine xj_bipush (v := 103) d14_34_91 (by decide) ?_
    refine xj_bipush (v := 105) d14_34_93 (by decide) ?_
    refine xj_bipush (v := 116) d14_34_95 (by decide) ?_
    refine xj_callV (rest := []) (As := [.int 100, .int 105, .int 103, .int 105, .int 116]) (b := 24) (mNamed hg (M := M2) (n := M2.1) (dl := dl) (pl := pl) (vc := vc) (tk := tk) (hc := hc) (sn := sn) (y24 := 0) (y33 := y33) (y36 := y36) (y37 := y37) (y38 := y38) (y39 := y39) (np := A.length + 1) (a := k) (dp := r.length) (fp := fp) (c1 := 100) (c2 := 105) (c3 := 103) (c4 := 105) (c5 := 116) rfl (by omega) (by omega) (by omega) l24_2 (by omega) (by omega) l32_2 (by omega) hpl) d14_34_97 wd14_33 l24_2 (by omega) (show 24 < M2.1 by omega) rfl s14_33 w1282 (Or.inl w1280) rfl rfl (Nat.le_of_ble_eq_true rfl) (by omega) (by omega) (by omega) ?_
    rintro v M' ⟨rfl, hm⟩
    subst M'
    refine xj_if_eq (tgt := 112) d14_34_100 rfl (fun hD => ?_) (fun hD => ?_)
    · refine xj_aload_n (i := 0) d14_34_112 rfl rfl ?_
      refine xj_bipush (v := 97) d14_34_113 (by decide) ?_
      refine xj_bipush (v := 108) d14_34_115 (by decide) ?_
      refine xj_bipush (v := 112) d14_34_117 (by decide) ?_
      refine xj_bipush (v := 104) d14_34_119 (by decide) ?_
      refine xj_bipush (v := 97) d14_34_121 (by decide) ?_
      refine xj_callV (rest := []) (As := [.int 97, .int 108, .int 112, .int 104, .int 97]) (b := 24) (mNamed hg (M := M2) (n := M2.1) (dl := dl) (pl := pl) (vc := vc) (tk := tk) (hc := hc) (sn := sn) (y24 := 0) (y33 := y33) (y36 := y36) (y37 := y37) (y38 := y38) (y39 := y39) (np := A.length + 1) (a := k) (dp := r.length) (fp := fp) (c1 := 97) (c2 := 108) (c3 := 112) (c4 := 104) (c5 := 97) rfl (by omega) (by omega) (by omega) l24_2 (by omega) (by omega) l32_2 (by omega) hpl) d14_34_123 wd14_33 l24_2 (by omega) (show 24 < M2.1 by omega) rfl s14_33 w1282 (Or.inl w1280) rfl rfl (Nat.le_of_ble_eq_true rfl) (by omega) (by omega) (by omega) ?_
      rintro v M' ⟨rfl, hm⟩
      subst M'
      refine xj_if_ne (tgt := 180) d14_34_126 rfl (fun _ => ?_) (fun h => absurd h hA)
      refine xj_iconst (v := 1) d14_34_180 (by decide) ?_
      refine xj_goto (tgt := 185) d14_34_181 rfl ?_
      refine xj_istore_n (i := 2) (L' := [(2, .int 1), (0, .ref 24), (1, .int (nI A.length))]) d14_34_185 rfl (by decide) rfl ?_
      refine xj_iload_n (i := 2) d14_34_186 rfl rfl ?_
      refine xj_if_eq (tgt := 204) d14_34_187 rfl (fun h => absurd h (by decide)) (fun _ => ?_)
      refine xj_aload_n (i := 0) d14_34_190 rfl rfl ?_
      refine xj_aload_n (i := 0) d14_34_191 rfl rfl ?_
      refine xj_get d14_34_192 f14_133_12 l24_2 (by omega) (show 24 < M2.1 by omega) rfl ?_
      refine xj_bipush (v := 7) d14_34_195 (by decide) ?_
      refine xj_iadd (v := nI (k + 7)) d14_34_197 (nI_add k 7) ?_
      refine xj_put (a := 24) (fs' := [.ref 25, .ref 26, .ref 27, .ref 28, .ref 29, .ref 30, .int (nI sn), .int (nI vc), .int (nI tk), .ref 31, .int (nI dl), .ref 32, .int (nI pl), .int (nI (A.length + 1)), .ref 33, .ref 34, .ref 35, .ref 36, .ref 37, .ref 38, .ref 39, .ref 40, .int (nI (k + 7)), .int (nI r.length), .int 0, .ref 41, .ref 42, .ref 43, .ref 44, .ref 45, .ref 46, .ref 47, .ref 48, .int y33, .ref 49, .ref 50, .int y36, .int y37, .int y38, .int y39, .int (nI hc), .ref 51]) d14_34_198 f14_133_12 l24_2 (by omega) (show 24 < M2.1 by omega) (Nat.le_of_ble_eq_true rfl) rfl rfl rfl ?_
      refine xj_abs_set (fun M3 hs3 ha3 ho3 => ?_)
      refine xj_goto (tgt := 209) d14_34_201 rfl ?_
      have qA : pAlp fp pl k := xB_y hA
      have qD : ¬ pDgt fp pl k := xB_n hD
      have hS : ∀ c, (pOr (pOr S 97 122) 65 90) c = pCls fp pl k S c := fun c => by rw [Bool.eq_iff_iff]; simp [pCls, pOr, or_assoc, qA, qD]
      exact xj_ret d14_34_209 (by omega) (by omega) rfl ⟨rfl, fun _ => mB_cg (mB_at hB2 (show M3.1 = M2.1 by omega) (fun j hj => (ho3 j (by omega))) ha3) hS, fun q => absurd (Or.inl qA) q⟩
    · refine xj_aload_n (i := 0) d14_34_103 rfl rfl ?_
      refine xj_iload_n (i := 1) d14_34_104 rfl rfl ?_
      refine xj_bipush (v := 48) d14_34_105 (by decide) ?_
      refine xj_bipush (v := 57) d14_34_107 (by decide) ?_
      refine xj_callV (rest := []) (As := [.int (nI A.length), .int 48, .int 57]) (b := 24) (rList hg hxn h52 hB2 (u := 48) (v := 57) (u1 := 16) (v1 := 25) (kk := 10) (by decide) (by decide) (by decide) (by decide)) d14_34_109 wd14_32 l24_2 (by omega) (show 24 < M2.1 by omega) rfl s14_32 w1286 (Or.inl w1284) rfl rfl (Nat.le_of_ble_eq_true rfl) (by omega) (by omega) (by omega) ?_
      rintro v M4 ⟨rfl, hB4⟩
      obtain ⟨s4, l24_4, l32_4⟩ := mB_24 hB4
      replace l24_4 : M4.2 24 = (.inr (12, [.ref 25, .ref 26, .ref 27, .ref 28, .ref 29, .ref 30, .int (nI sn), .int (nI vc), .int (nI tk), .ref 31, .int (nI dl), .ref 32, .int (nI pl), .int (nI (A.length + 1)), .ref 33, .ref 34, .ref 35, .ref 36, .ref 37, .ref 38, .ref 39, .ref 40, .int (nI k), .int (nI r.length), .int 0, .ref 41, .ref 42, .ref 43, .ref 44, .ref 45, .ref 46, .ref 47, .ref 48, .int y33, .ref 49, .ref 50, .int y36, .int y37, .int y38, .int y39, .int (nI hc), .ref 51])) := l24_4
      refine xj_aload_n (i := 0) d14_34_112 rfl rfl ?_
      refine xj_bipush (v := 97) d14_34_113 (by decide) ?_
      refine xj_bipush (v := 108) d14_34_115 (by decide) ?_
      refine xj_bipush (v := 112) d14_34_117 (by decide) ?_
      refine xj_bipush (v := 104) d14_34_119 (by decide) ?_
      refine xj_bipush (v := 97) d14_34_121 (by decide) ?_
      refine xj_callV (rest := []) (As := [.int 97, .int 108, .int 112, .int 104, .int 97]) (b := 24) (mNamed hg (M := M4) (n := M4.1) (dl := dl) (pl := pl) (vc := vc) (tk := tk) (hc := hc) (sn := sn) (y24 := 0) (y33 := y33) (y36 := y36) (y37 := y37) (y38 := y38) (y39 := y39) (np := A.length + 1) (a := k) (dp := r.length) (fp := fp) (c1 := 97) (c2 := 108) (c3 := 112) (c4 := 104) (c5 := 97) rfl (by omega) (by omega) (by omega) l24_4 (by omega) (by omega) l32_4 (by omega) hpl) d14_34_123 wd14_33 l24_4 (by omega) (show 24 < M4.1 by omega) rfl s14_33 w1282 (Or.inl w1280) rfl rfl (Nat.le_of_ble_eq_true rfl) (by omega) (by omega) (by omega) ?_
      rintro v M' ⟨rfl, hm⟩
      subst M'
      refine xj_if_ne (tgt := 180) d14_34_126 rfl (fun _ => ?_) (fun h => absurd h hA)
      refine xj_iconst (v := 1) d14_34_180 (by decide) ?_
      refine xj_goto (tgt := 185) d14_34_181 rfl ?_
      refine xj_istore_n (i := 2) (L' := [(2, .int 1), (0, .ref 24), (1, .int (nI A.length))]) d14_34_185 rfl (by decide) rfl ?_
      refine xj_iload_n (i := 2) d14_34_186 rfl rfl ?_
      refine xj_if_eq (tgt := 204) d14_34_187 rfl (fun h => absurd h (by decide)) (fun _ => ?_)
      refine xj_aload_n (i := 0) d14_34_190 rfl rfl ?_
      refine xj_aload_n (i := 0) d14_34_191 rfl rfl ?_
      refine xj_get d14_34_192 f14_133_12 l24_4 (by omega) (show 24 < M4.1 by omega) rfl ?_
      refine xj_bipush (v := 7) d14_34_195 (by decide) ?_
      refine xj_iadd (v := nI (k + 7)) d14_34_197 (nI_add k 7) ?_
      refine xj_put (a := 24) (fs' := [.ref 25, .ref 26, .ref 27, .ref 28, .ref 29, .ref 30, .int (nI sn), .int (nI vc), .int (nI tk), .ref 31, .int (nI dl), .ref 32, .int (nI pl), .int (nI (A.length + 1)), .ref 33, .ref 34, .ref 35, .ref 36, .ref 37, .ref 38, .ref 39, .ref 40, .int (nI (k + 7)), .int (nI r.length), .int 0, .ref 41, .ref 42, .ref 43, .ref 44, .ref 45, .ref 46, .ref 47, .ref 48, .int y33, .ref 49, .ref 50, .int y36, .int y37, .int y38, .int y39, .int (nI hc), .ref 51]) d14_34_198 f14_133_12 l24_4 (by omega) (show 24 < M4.1 by omega) (Nat.le_of_ble_eq_true rfl) rfl rfl rfl ?_
      refine xj_abs_set (fun M5 hs5 ha5 ho5 => ?_)
      refine xj_goto (tgt := 209) d14_34_201 rfl ?_
      have qA : pAlp fp pl k := xB_y hA
      have qD : pDgt fp pl k := xB_y hD
      have hS : ∀ c, (pOr (pOr (pOr S 97 122) 65 90) 48 57) c = pCls fp pl k S c := fun c => by rw [Bool.eq_iff_iff]; simp [pCls, pOr, or_assoc, qA, qD]
      exact xj_ret d14_34_209 (by omega) (by omega) rfl ⟨rfl, fun _ => mB_cg (mB_at hB4 (show M5.1 = M4.1 by omega) (fun j hj => (ho5 j (by omega))) ha5) hS, fun q => absurd (Or.inl qA) q⟩
  · refine xj_aload_n (i := 0) d14_34_17 rfl rfl ?_
    refine xj_bipush (v := 108) d14_34_18 (by decide) ?_
    refine xj_bipush (v := 111) d14_34_20 (by decide) ?_
    refine xj_bipush (v := 119) d14_34_22 (by decide) ?_
    refine xj_bipush (v := 101) d14_34_24 (by decide) ?_
    refine xj_bipush (v := 114) d14_34_26 (by decide) ?_
    refine xj_callV (rest := []) (As := [.int 108, .int 111, .int 119, .int 101, .int 114]) (b := 24) (mNamed hg (M := M) (n := M.1) (dl := dl) (pl := pl) (vc := vc) (tk := tk) (hc := hc) (sn := sn) (y24 := 0) (y33 := y33) (y36 := y36) (y37 := y37) (y38 := y38) (y39 := y39) (np := A.length + 1) (a := k) (dp := r.length) (fp := fp) (c1 := 108) (c2 := 111) (c3 := 119) (c4 := 101) (c5 := 114) rfl (by omega) (by omega) (by omega) k24 (by omega) (by omega) k32 (by omega) hpl) d14_34_28 wd14_33 k24 (by omega) (show 24 < M.1 by omega) rfl s14_33 w1282 (Or.inl w1280) rfl rfl (Nat.le_of_ble_eq_true rfl) (by omega) (by omega) (by omega) ?_
    rintro v M' ⟨rfl, hm⟩
    subst M'
    refine xj_if_eq (tgt := 43) d14_34_31 rfl (fun hL => ?_) (fun hL => ?_)
    · refine xj_aload_n (i := 0) d14_34_43 rfl rfl ?_
      refine xj_bipush (v := 97) d14_34_44 (by decide) ?_
      refine xj_bipush (v := 108) d14_34_46 (by decide) ?_
      refine xj_bipush (v := 112) d14_34_48 (by decide) ?_
      refine xj_bipush (v := 104) d14_34_50 (by decide) ?_
      refine xj_bipush (v := 97) d14_34_52 (by decide) ?_
      refine xj_callV (rest := []) (As := [.int 97, .int 108, .int 112, .int 104, .int 97]) (b := 24) (mNamed hg (M := M) (n := M.1) (dl := dl) (pl := pl) (vc := vc) (tk := tk) (hc := hc) (sn := sn) (y24 := 0) (y33 := y33) (y36 := y36) (y37 := y37) (y38 := y38) (y39 := y39) (np := A.length + 1) (a := k) (dp := r.length) (fp := fp) (c1 := 97) (c2 := 108) (c3 := 112) (c4 := 104) (c5 := 97) rfl (by omega) (by omega) (by omega) k24 (by omega) (by omega) k32 (by omega) hpl) d14_34_54 wd14_33 k24 (by omega) (show 24 < M.1 by omega) rfl s14_33 w1282 (Or.inl w1280) rfl rfl (Nat.le_of_ble_eq_true rfl) (by omega) (by omega) (by omega) ?_
      rintro v M' ⟨rfl, hm⟩
      subst M'
      refine xj_if_ne (tgt := 77) d14_34_57 rfl (fun h => absurd hA h) (fun _ => ?_)
      refine xj_aload_n (i := 0) d14_34_60 rfl rfl ?_
      refine xj_bipush (v := 117) d14_34_61 (by decide) ?_
      refine xj_bipush (v := 112) d14_34_63 (by decide) ?_
      refine xj_bipush (v := 112) d14_34_65 (by decide) ?_
      refine xj_bipush (v := 101) d14_34_67 (by decide) ?_
      refine xj_bipush (v := 114) d14_34_69 (by decide) ?_
      refine xj_callV (rest := []) (As := [.int 117, .int 112, .int 112, .int 101, .int 114]) (b := 24) (mNamed hg (M := M) (n := M.1) (dl := dl) (pl := pl) (vc := vc) (tk := tk) (hc := hc) (sn := sn) (y24 := 0) (y33 := y33) (y36 := y36) (y37 := y37) (y38 := y38) (y39 := y39) (np := A.length + 1) (a := k) (dp := r.length) (fp := fp) (c1 := 117) (c2 := 112) (c3 := 112) (c4 := 101) (c5 := 114) rfl (by omega) (by omega) (by omega) k24 (by omega) (by omega) k32 (by omega) hpl) d14_34_71 wd14_33 k24 (by omega) (show 24 < M.1 by omega) rfl s14_33 w1282 (Or.inl w1280) rfl rfl (Nat.le_of_ble_eq_true rfl) (by omega) (by omega) (by omega) ?_
      rintro v M' ⟨rfl, hm⟩
      subst M'
      refine xj_if_eq (tgt := 86) d14_34_74 rfl (fun hU => ?_) (fun hU => ?_)
      · refine xj_aload_n (i := 0) d14_34_86 rfl rfl ?_
        refine xj_bipush (v := 100) d14_34_87 (by decide) ?_
        refine xj_bipush (v := 105) d14_34_89 (by decide) ?_
        refine xj_bipush (v := 103) d14_34_91 (by decide) ?_
        refine xj_bipush (v := 105) d14_34_93 (by decide) ?_
        refine xj_bipush (v := 116) d14_34_95 (by decide) ?_
        refine xj_callV (rest := []) (As := [.int 100, .int 105, .int 103, .int 105, .int 116]) (b := 24) (mNamed hg (M := M) (n := M.1) (dl := dl) (pl := pl) (vc := vc) (tk := tk) (hc := hc) (sn := sn) (y24 := 0) (y33 := y33) (y36 := y36) (y37 := y37) (y38 := y38) (y39 := y39) (np := A.length + 1) (a := k) (dp := r.length) (fp := fp) (c1 := 100) (c2 := 105) (c3 := 103) (c4 := 105) (c5 := 116) rfl (by omega) (by omega) (by omega) k24 (by omega) (by omega) k32 (by omega) hpl) d14_34_97 wd14_33 k24 (by omega) (show 24 < M.1 by omega) rfl s14_33 w1282 (Or.inl w1280) rfl rfl (Nat.le_of_ble_eq_true rfl) (by omega) (by omega) (by omega) ?_
        rintro v M' ⟨rfl, hm⟩
        subst M'
        refine xj_if_eq (tgt := 112) d14_34_100 rfl (fun hD => ?_) (fun hD => ?_)
        · refine xj_aload_n (i := 0) d14_34_112 rfl rfl ?_
          refine xj_bipush (v := 97) d14_34_113 (by decide) ?_
          refine xj_bipush (v := 108) d14_34_115 (by decide) ?_
          refine xj_bipush (v := 112) d14_34_117 (by decide) ?_
          refine xj_bipush (v := 104) d14_34_119 (by decide) ?_
          refine xj_bipush (v := 97) d14_34_121 (by decide) ?_
          refine xj_callV (rest := []) (As := [.int 97, .int 108, .int 112, .int 104, .int 97]) (b := 24) (mNamed hg (M := M) (n := M.1) (dl := dl) (pl := pl) (vc := vc) (tk := tk) (hc := hc) (sn := sn) (y24 := 0) (y33 := y33) (y36 := y36) (y37 := y37) (y38 := y38) (y39 := y39) (np := A.length + 1) (a := k) (dp := r.length) (fp := fp) (c1 := 97) (c2 := 108) (c3 := 112) (c4 := 104) (c5 := 97) rfl (by omega) (by omega) (by omega) k24 (by omega) (by omega) k32 (by omega) hpl) d14_34_123 wd14_33 k24 (by omega) (show 24 < M.1 by omega) rfl s14_33 w1282 (Or.inl w1280) rfl rfl (Nat.le_of_ble_eq_true rfl) (by omega) (by omega) (by omega) ?_
          rintro v M' ⟨rfl, hm⟩
          subst M'
          refine xj_if_ne (tgt := 180) d14_34_126 rfl (fun h => absurd hA h) (fun _ => ?_)
          refine xj_aload_n (i := 0) d14_34_129 rfl rfl ?_
          refine xj_bipush (v := 108) d14_34_130 (by decide) ?_
          refine xj_bipush (v := 111) d14_34_132 (by decide) ?_
          refine xj_bipush (v := 119) d14_34_134 (by decide) ?_
          refine xj_bipush (v := 101) d14_34_136 (by decide) ?_
          refine xj_bipush (v := 114) d14_34_138 (by decide) ?_
          refine xj_callV (rest := []) (As := [.int 108, .int 111, .int 119, .int 101, .int 114]) (b := 24) (mNamed hg (M := M) (n := M.1) (dl := dl) (pl := pl) (vc := vc) (tk := tk) (hc := hc) (sn := sn) (y24 := 0) (y33 := y33) (y36 := y36) (y37 := y37) (y38 := y38) (y39 := y39) (np := A.length + 1) (a := k) (dp := r.length) (fp := fp) (c1 := 108) (c2 := 111) (c3 := 119) (c4 := 101) (c5 := 114) rfl (by omega) (by omega) (by omega) k24 (by omega) (by omega) k32 (by omega) hpl) d14_34_140 wd14_33 k24 (by omega) (show 24 < M.1 by omega) rfl s14_33 w1282 (Or.inl w1280) rfl rfl (Nat.le_of_ble_eq_true rfl) (by omega) (by omega) (by omega) ?_
          rintro v M' ⟨rfl, hm⟩
          subst M'
          refine xj_if_ne (tgt := 180) d14_34_143 rfl (fun h => absurd hL h) (fun _ => ?_)
          refine xj_aload_n (i := 0) d14_34_146 rfl rfl ?_
          refine xj_bipush (v := 117) d14_34_147 (by decide) ?_
          refine xj_bipush (v := 112) d14_34_149 (by decide) ?_
          refine xj_bipush (v := 112) d14_34_151 (by decide) ?_
          refine xj_bipush (v := 101) d14_34_153 (by decide) ?_
          refine xj_bipush (v := 114) d14_34_155 (by decide) ?_
          refine xj_callV (rest := []) (As := [.int 117, .int 112, .int 112, .int 101, .int 114]) (b := 24) (mNamed hg (M := M) (n := M.1) (dl := dl) (pl := pl) (vc := vc) (tk := tk) (hc := hc) (sn := sn) (y24 := 0) (y33 := y33) (y36 := y36) (y37 := y37) (y38 := y38) (y39 := y39) (np := A.length + 1) (a := k) (dp := r.length) (fp := fp) (c1 := 117) (c2 := 112) (c3 := 112) (c4 := 101) (c5 := 114) rfl (by omega) (by omega) (by omega) k24 (by omega) (by omega) k32 (by omega) hpl) d14_34_157 wd14_33 k24 (by omega) (show 24 < M.1 by omega) rfl s14_33 w1282 (Or.inl w1280) rfl rfl (Nat.le_of_ble_eq_true rfl) (by omega) (by omega) (by omega) ?_
          rintro v M' ⟨rfl, hm⟩
          subst M'
          refine xj_if_ne (tgt := 180) d14_34_160 rfl (fun h => absurd hU h) (fun _ => ?_)
          refine xj_aload_n (i := 0) d14_34_163 rfl rfl ?_
          refine xj_bipush (v := 100) d14_34_164 (by decide) ?_
          refine xj_bipush (v := 105) d14_34_166 (by decide) ?_
          refine xj_bipush (v := 103) d14_34_168 (by decide) ?_
          refine xj_bipush (v := 105) d14_34_170 (by decide) ?_
          refine xj_bipush (v := 116) d14_34_172 (by decide) ?_
          refine xj_callV (rest := []) (As := [.int 100, .int 105, .int 103, .int 105, .int 116]) (b := 24) (mNamed hg (M := M) (n := M.1) (dl := dl) (pl := pl) (vc := vc) (tk := tk) (hc := hc) (sn := sn) (y24 := 0) (y33 := y33) (y36 := y36) (y37 := y37) (y38 := y38) (y39 := y39) (np := A.length + 1) (a := k) (dp := r.length) (fp := fp) (c1 := 100) (c2 := 105) (c3 := 103) (c4 := 105) (c5 := 116) rfl (by omega) (by omega) (by omega) k24 (by omega) (by omega) k32 (by omega) hpl) d14_34_174 wd14_33 k24 (by omega) (show 24 < M.1 by omega) rfl s14_33 w1282 (Or.inl w1280) rfl rfl (Nat.le_of_ble_eq_true rfl) (by omega) (by omega) (by omega) ?_
          rintro v M' ⟨rfl, hm⟩
          subst M'
          refine xj_if_eq (tgt := 184) d14_34_177 rfl (fun _ => ?_) (fun h => absurd hD h)
          refine xj_iconst (v := 0) d14_34_184 (by decide) ?_
          refine xj_istore_n (i := 2) (L' := [(2, .int 0), (0, .ref 24), (1, .int (nI A.length))]) d14_34_185 rfl (by decide) rfl ?_
          refine xj_iload_n (i := 2) d14_34_186 rfl rfl ?_
          refine xj_if_eq (tgt := 204) d14_34_187 rfl (fun _ => ?_) (fun h => absurd (by decide) h)
          refine xj_aload_n (i := 0) d14_34_204 rfl rfl ?_
          refine xj_iconst (v := 5) d14_34_205 (by decide) ?_
          refine xj_put (a := 24) (fs' := [.ref 25, .ref 26, .ref 27, .ref 28, .ref 29, .ref 30, .int (nI sn), .int (nI vc), .int (nI tk), .ref 31, .int (nI dl), .ref 32, .int (nI pl), .int (nI (A.length + 1)), .ref 33, .ref 34, .ref 35, .ref 36, .ref 37, .ref 38, .ref 39, .ref 40, .int (nI k), .int (nI r.length), .int 5, .ref 41, .ref 42, .ref 43, .ref 44, .ref 45, .ref 46, .ref 47, .ref 48, .int y33, .ref 49, .ref 50, .int y36, .int y37, .int y38, .int y39, .int (nI hc), .ref 51]) d14_34_206 f14_156_12 k24 (by omega) (show 24 < M.1 by omega) (Nat.le_of_ble_eq_true rfl) rfl rfl rfl ?_
          refine xj_abs_set (fun M6 hs6 ha6 ho6 => ?_)
          have qA : ¬ pAlp fp pl k := xB_n hA
          have qL : ¬ pLow fp pl k := xB_n hL
          have qU : ¬ pUpp fp pl k := xB_n hU
          have qD : ¬ pDgt fp pl k := xB_n hD
          exact xj_ret d14_34_209 (by omega) (by omega) rfl ⟨rfl, fun q => absurd q (fun z => z.elim qA (fun z => z.elim qL (fun z => z.elim qU qD))), fun _ => mB_fa hB (show M6.1 = M.1 by omega) (fun j hj => (ho6 j (by omega))) ha6⟩
        · refine xj_aload_n (i := 0) d14_34_103 rfl rfl ?_
          refine xj_iload_n (i := 1) d14_34_104 rfl rfl ?_
          refine xj_bipush (v := 48) d14_34_105 (by decide) ?_
          refine xj_bipush (v := 57) d14_34_107 (by decide) ?_
          refine xj_callV (rest := []) (As := [.int (nI A.length), .int 48, .int 57]) (b := 24) (rList hg hxn h52 hB (u := 48) (v := 57) (u1 := 16) (v1 := 25) (kk := 10) (by decide) (by decide) (by decide) (by decide)) d14_34_109 wd14_32 k24 (by omega) (show 24 < M.1 by omega) rfl s14_32 w1286 (Or.inl w1284) rfl rfl (Nat.le_of_ble_eq_true rfl) (by omega) (by omega) (by omega) ?_
          rintro v M7 ⟨rfl, hB7⟩
          obtain ⟨s7, l24_7, l32_7⟩ := mB_24 hB7
          replace l24_7 : M7.2 24 = (.inr (12, [.ref 25, .ref 26, .ref 27, .ref 28, .ref 29, .ref 30, .int (nI sn), .int (nI vc), .int (nI tk), .ref 31, .int (nI dl), .ref 32, .int (nI pl), .int (nI (A.length + 1)), .ref 33, .ref 34, .ref 35, .ref 36, .ref 37, .ref 38, .ref 39, .ref 40, .int (nI k), .int (nI r.length), .int 0, .ref 41, .ref 42, .ref 43, .ref 44, .ref 45, .ref 46, .ref 47, .ref 48, .int y33, .ref 49, .ref 50, .int y36, .int y37, .int y38, .int y39, .int (nI hc), .ref 51])) := l24_7
          refine xj_aload_n (i := 0) d14_34_112 rfl rfl ?_
          refine xj_bipush (v := 97) d14_34_113 (by decide) ?_
          refine xj_bipush (v := 108) d14_34_115 (by decide) ?_
          refine xj_bipush (v := 112) d14_34_117 (by decide) ?_
          refine xj_bipush (v := 104) d14_34_119 (by decide) ?_
          refine xj_bipush (v := 97) d14_34_121 (by decide) ?_
          refine xj_callV (rest := []) (As := [.int 97, .int 108, .int 112, .int 104, .int 97]) (b := 24) (mNamed hg (M := M7) (n := M7.1) (dl := dl) (pl := pl) (vc := vc) (tk := tk) (hc := hc) (sn := sn) (y24 := 0) (y33 := y33) (y36 := y36) (y37 := y37) (y38 := y38) (y39 := y39) (np := A.length + 1) (a := k) (dp := r.length) (fp := fp) (c1 := 97) (c2 := 108) (c3 := 112) (c4 := 104) (c5 := 97) rfl (by omega) (by omega) (by omega) l24_7 (by omega) (by omega) l32_7 (by omega) hpl) d14_34_123 wd14_33 l24_7 (by omega) (show 24 < M7.1 by omega) rfl s14_33 w1282 (Or.inl w1280) rfl rfl (Nat.le_of_ble_eq_true rfl) (by omega) (by omega) (by omega) ?_
          rintro v M' ⟨rfl, hm⟩
          subst M'
          refine xj_if_ne (tgt := 180) d14_34_126 rfl (fun h => absurd hA h) (fun _ => ?_)
          refine xj_aload_n (i := 0) d14_34_129 rfl rfl ?_
          refine xj_bipush (v := 108) d14_34_130 (by decide) ?_
          refine xj_bipush (v := 111) d14_34_132 (by decide) ?_
          refine xj_bipush (v := 119) d14_34_134 (by decide) ?_
          refine xj_bipush (v := 101) d14_34_136 (by decide) ?_
          refine xj_bipush (v := 114) d14_34_138 (by decide) ?_
          refine xj_callV (rest := []) (As := [.int 108, .int 111, .int 119, .int 101, .int 114]) (b := 24) (mNamed hg (M := M7) (n := M7.1) (dl := dl) (pl := pl) (vc := vc) (tk := tk) (hc := hc) (sn := sn) (y24 := 0) (y33 := y33) (y36 := y36) (y37 := y37) (y38 := y38) (y39 := y39) (np := A.length + 1) (a := k) (dp := r.length) (fp := fp) (c1 := 108) (c2 := 111) (c3 := 119) (c4 := 101) (c5 := 114) rfl (by omega) (by omega) (by omega) l24_7 (by omega) (by omega) l32_7 (by omega) hpl) d14_34_140 wd14_33 l24_7 (by omega) (show 24 < M7.1 by omega) rfl s14_33 w1282 (Or.inl w1280) rfl rfl (Nat.le_of_ble_eq_true rfl) (by omega) (by omega) (by omega) ?_
          rintro v M' ⟨rfl, hm⟩
          subst M'
          refine xj_if_ne (tgt := 180) d14_34_143 rfl (fun h => absurd hL h) (fun _ => ?_)
          refine xj_aload_n (i := 0) d14_34_146 rfl rfl ?_
          refine xj_bipush (v := 117) d14_34_147 (by decide) ?_
          refine xj_bipush (v := 112) d14_34_149 (by decide) ?_
          refine xj_bipush (v := 112) d14_34_151 (by decide) ?_
          refine xj_bipush (v := 101) d14_34_153 (by decide) ?_
          refine xj_bipush (v := 114) d14_34_155 (by decide) ?_
          refine xj_callV (rest := []) (As := [.int 117, .int 112, .int 112, .int 101, .int 114]) (b := 24) (mNamed hg (M := M7) (n := M7.1) (dl := dl) (pl := pl) (vc := vc) (tk := tk) (hc := hc) (sn := sn) (y24 := 0) (y33 := y33) (y36 := y36) (y37 := y37) (y38 := y38) (y39 := y39) (np := A.length + 1) (a := k) (dp := r.length) (fp := fp) (c1 := 117) (c2 := 112) (c3 := 112) (c4 := 101) (c5 := 114) rfl (by omega) (by omega) (by omega) l24_7 (by omega) (by omega) l32_7 (by omega) hpl) d14_34_157 wd14_33 l24_7 (by omega) (show 24 < M7.1 by omega) rfl s14_33 w1282 (Or.inl w1280) rfl rfl (Nat.le_of_ble_eq_true rfl) (by omega) (by omega) (by omega) ?_
          rintro v M' ⟨rfl, hm⟩
          subst M'
          refine xj_if_ne (tgt := 180) d14_34_160 rfl (fun h => absurd hU h) (fun _ => ?_)
          refine xj_aload_n (i := 0) d14_34_163 rfl rfl ?_
          refine xj_bipush (v := 100) d14_34_164 (by decide) ?_
          refine xj_bipush (v := 105) d14_34_166 (by decide) ?_
          refine xj_bipush (v := 103) d14_34_168 (by decide) ?_
          refine xj_bipush (v := 105) d14_34_170 (by decide) ?_
          refine xj_bipush (v := 116) d14_34_172 (by decide) ?_
          refine xj_callV (rest := []) (As := [.int 100, .int 105, .int 103, .int 105, .int 116]) (b := 24) (mNamed hg (M := M7) (n := M7.1) (dl := dl) (pl := pl) (vc := vc) (tk := tk) (hc := hc) (sn := sn) (y24 := 0) (y33 := y33) (y36 := y36) (y37 := y37) (y38 := y38) (y39 := y39) (np := A.length + 1) (a := k) (dp := r.length) (fp := fp) (c1 := 100) (c2 := 105) (c3 := 103) (c4 := 105) (c5 := 116) rfl (by omega) (by omega) (by omega) l24_7 (by omega) (by omega) l32_7 (by omega) hpl) d14_34_174 wd14_33 l24_7 (by omega) (show 24 < M7.1 by omega) rfl s14_33 w1282 (Or.inl w1280) rfl rfl (Nat.le_of_ble_eq_true rfl) (by omega) (by omega) (by omega) ?_
          rintro v M' ⟨rfl, hm⟩
          subst M'
          refine xj_if_eq (tgt := 184) d14_34_177 rfl (fun h => absurd h hD) (fun _ => ?_)
          refine xj_iconst (v := 1) d14_34_180 (by decide) ?_
          refine xj_goto (tgt := 185) d14_34_181 rfl ?_
          refine xj_istore_n (i := 2) (L' := [(2, .int 1), (0, .ref 24), (1, .int (nI A.length))]) d14_34_185 rfl (by decide) rfl ?_
          refine xj_iload_n (i := 2) d14_34_186 rfl rfl ?_
          refine xj_if_eq (tgt := 204) d14_34_187 rfl (fun h => absurd h (by decide)) (fun _ => ?_)
          refine xj_aload_n (i := 0) d14_34_190 rfl rfl ?_
          refine xj_aload_n (i := 0) d14_34_191 rfl rfl ?_
          refine xj_get d14_34_192 f14_133_12 l24_7 (by omega) (show 24 < M7.1 by omega) rfl ?_
          refine xj_bipush (v := 7) d14_34_195 (by decide) ?_
          refine xj_iadd (v := nI (k + 7)) d14_34_197 (nI_add k 7) ?_
          refine xj_put (a := 24) (fs' := [.ref 25, .ref 26, .ref 27, .ref 28, .ref 29, .ref 30, .int (nI sn), .int (nI vc), .int (nI tk), .ref 31, .int (nI dl), .ref 32, .int (nI pl), .int (nI (A.length + 1)), .ref 33, .ref 34, .ref 35, .ref 36, .ref 37, .ref 38, .ref 39, .ref 40, .int (nI (k + 7)), .int (nI r.length), .int 0, .ref 41, .ref 42, .ref 43, .ref 44, .ref 45, .ref 46, .ref 47, .ref 48, .int y33, .ref 49, .ref 50, .int y36, .int y37, .int y38, .int y39, .int (nI hc), .ref 51]) d14_34_198 f14_133_12 l24_7 (by omega) (show 24 < M7.1 by omega) (Nat.le_of_ble_eq_true rfl) rfl rfl rfl ?_
          refine xj_abs_set (fun M8 hs8 ha8 ho8 => ?_)
          refine xj_goto (tgt := 209) d14_34_201 rfl ?_
          have qA : ¬ pAlp fp pl k := xB_n hA
          have qL : ¬ pLow fp pl k := xB_n hL
          have qU : ¬ pUpp fp pl k := xB_n hU
          have qD : pDgt fp pl k := xB_y hD
          have hS : ∀ c, (pOr S 48 57) c = pCls fp pl k S c := fun c => by rw [Bool.eq_iff_iff]; simp [pCls, pOr, or_assoc, qA, qL, qU, qD]
          exact xj_ret d14_34_209 (by omega) (by omega) rfl ⟨rfl, fun _ => mB_cg (mB_at hB7 (show M8.1 = M7.1 by omega) (fun j hj => (ho8 j (by omega))) ha8) hS, fun q => absurd (Or.inr (Or.inr (Or.inr qD))) q⟩
      · refine xj_aload_n (i := 0) d14_34_77 rfl rfl ?_
        refine xj_iload_n (i := 1) d14_34_78 rfl rfl ?_
        refine xj_bipush (v := 65) d14_34_79 (by decide) ?_
        refine xj_bipush (v := 90) d14_34_81 (by decide) ?_
        refine xj_callV (rest := []) (As := [.int (nI A.length), .int 65, .int 90]) (b := 24) (rList hg hxn h52 hB (u := 65) (v := 90) (u1 := 33) (v1 := 58) (kk := 26) (by decide) (by decide) (by decide) (by decide)) d14_34_83 wd14_32 k24 (by omega) (show 24 < M.1 by omega) rfl s14_32 w1286 (Or.inl w1284) rfl rfl (Nat.le_of_ble_eq_true rfl) (by omega) (by omega) (by omega) ?_
        rintro v M9 ⟨rfl, hB9⟩
        obtain ⟨s9, l24_9, l32_9⟩ := mB_24 hB9
        replace l24_9 : M9.2 24 = (.inr (12, [.ref 25, .ref 26, .ref 27, .ref 28, .ref 29, .ref 30, .int (nI sn), .int (nI vc), .int (nI tk), .ref 31, .int (nI dl), .ref 32, .int (nI pl), .int (nI (A.length + 1)), .ref 33, .ref 34, .ref 35, .ref 36, .ref 37, .ref 38, .ref 39, .ref 40, .int (nI k), .int (nI r.length), .int 0, .ref 41, .ref 42, .ref 43, .ref 44, .ref 45, .ref 46, .ref 47, .ref 48, .int y33, .ref 49, .ref 50, .int y36, .int y37, .int y38, .int y39, .int (nI hc), .ref 51])) := l24_9
        refine xj_aload_n (i := 0) d14_34_86 rfl rfl ?_
        refine xj_bipush (v := 100) d14_34_87 (by decide) ?_
        refine xj_bipush (v := 105) d14_34_89 (by decide) ?_
        refine xj_bipush (v := 103) d14_34_91 (by decide) ?_
        refine xj_bipush (v := 105) d14_34_93 (by decide) ?_
        refine xj_bipush (v := 116) d14_34_95 (by decide) ?_
        refine xj_callV (rest := []) (As := [.int 100, .int 105, .int 103, .int 105, .int 116]) (b := 24) (mNamed hg (M := M9) (n := M9.1) (dl := dl) (pl := pl) (vc := vc) (tk := tk) (hc := hc) (sn := sn) (y24 := 0) (y33 := y33) (y36 := y36) (y37 := y37) (y38 := y38) (y39 := y39) (np := A.length + 1) (a := k) (dp := r.length) (fp := fp) (c1 := 100) (c2 := 105) (c3 := 103) (c4 := 105) (c5 := 116) rfl (by omega) (by omega) (by omega) l24_9 (by omega) (by omega) l32_9 (by omega) hpl) d14_34_97 wd14_33 l24_9 (by omega) (show 24 < M9.1 by omega) rfl s14_33 w1282 (Or.inl w1280) rfl rfl (Nat.le_of_ble_eq_true rfl) (by omega) (by omega) (by omega) ?_
        rintro v M' ⟨rfl, hm⟩
        subst M'
        refine xj_if_eq (tgt := 112) d14_34_100 rfl (fun hD => ?_) (fun hD => ?_)
        · refine xj_aload_n (i := 0) d14_34_112 rfl rfl ?_
          refine xj_bipush (v := 97) d14_34_113 (by decide) ?_
          refine xj_bipush (v := 108) d14_34_115 (by decide) ?_
          refine xj_bipush (v := 112) d14_34_117 (by decide) ?_
          refine xj_bipush (v := 104) d14_34_119 (by decide) ?_
          refine xj_bipush (v := 97) d14_34_121 (by decide) ?_
          refine xj_callV (rest := []) (As := [.int 97, .int 108, .int 112, .int 104, .int 97]) (b := 24) (mNamed hg (M := M9) (n := M9.1) (dl := dl) (pl := pl) (vc := vc) (tk := tk) (hc := hc) (sn := sn) (y24 := 0) (y33 := y33) (y36 := y36) (y37 := y37) (y38 := y38) (y39 := y39) (np := A.length + 1) (a := k) (dp := r.length) (fp := fp) (c1 := 97) (c2 := 108) (c3 := 112) (c4 := 104) (c5 := 97) rfl (by omega) (by omega) (by omega) l24_9 (by omega) (by omega) l32_9 (by omega) hpl) d14_34_123 wd14_33 l24_9 (by omega) (show 24 < M9.1 by omega) rfl s14_33 w1282 (Or.inl w1280) rfl rfl (Nat.le_of_ble_eq_true rfl) (by omega) (by omega) (by omega) ?_
          rintro v M' ⟨rfl, hm⟩
          subst M'
          refine xj_if_ne (tgt := 180) d14_34_126 rfl (fun h => absurd hA h) (fun _ => ?_)
          refine xj_aload_n (i := 0) d14_34_129 rfl rfl ?_
          refine xj_bipush (v := 108) d14_34_130 (by decide) ?_
          refine xj_bipush (v := 111) d14_34_132 (by decide) ?_
          refine xj_bipush (v := 119) d14_34_134 (by decide) ?_
          refine xj_bipush (v := 101) d14_34_136 (by decide) ?_
          refine xj_bipush (v := 114) d14_34_138 (by decide) ?_
          refine xj_callV (rest := []) (As := [.int 108, .int 111, .int 119, .int 101, .int 114]) (b := 24) (mNamed hg (M := M9) (n := M9.1) (dl := dl) (pl := pl) (vc := vc) (tk := tk) (hc := hc) (sn := sn) (y24 := 0) (y33 := y33) (y36 := y36) (y37 := y37) (y38 := y38) (y39 := y39) (np := A.length + 1) (a := k) (dp := r.length) (fp := fp) (c1 := 108) (c2 := 111) (c3 := 119) (c4 := 101) (c5 := 114) rfl (by omega) (by omega) (by omega) l24_9 (by omega) (by omega) l32_9 (by omega) hpl) d14_34_140 wd14_33 l24_9 (by omega) (show 24 < M9.1 by omega) rfl s14_33 w1282 (Or.inl w1280) rfl rfl (Nat.le_of_ble_eq_true rfl) (by omega) (by omega) (by omega) ?_
          rintro v M' ⟨rfl, hm⟩
          subst M'
          refine xj_if_ne (tgt := 180) d14_34_143 rfl (fun h => absurd hL h) (fun _ => ?_)
          refine xj_aload_n (i := 0) d14_34_146 rfl rfl ?_
          refine xj_bipush (v := 117) d14_34_147 (by decide) ?_
          refine xj_bipush (v := 112) d14_34_149 (by decide) ?_
          refine xj_bipush (v := 112) d14_34_151 (by decide) ?_
          refine xj_bipush (v := 101) d14_34_153 (by decide) ?_
          refine xj_bipush (v := 114) d14_34_155 (by decide) ?_
          refine xj_callV (rest := []) (As := [.int 117, .int 112, .int 112, .int 101, .int 114]) (b := 24) (mNamed hg (M := M9) (n := M9.1) (dl := dl) (pl := pl) (vc := vc) (tk := tk) (hc := hc) (sn := sn) (y24 := 0) (y33 := y33) (y36 := y36) (y37 := y37) (y38 := y38) (y39 := y39) (np := A.length + 1) (a := k) (dp := r.length) (fp := fp) (c1 := 117) (c2 := 112) (c3 := 112) (c4 := 101) (c5 := 114) rfl (by omega) (by omega) (by omega) l24_9 (by omega) (by omega) l32_9 (by omega) hpl) d14_34_157 wd14_33 l24_9 (by omega) (show 24 < M9.1 by omega) rfl s14_33 w1282 (Or.inl w1280) rfl rfl (Nat.le_of_ble_eq_true rfl) (by omega) (by omega) (by omega) ?_
          rintro v M' ⟨rfl, hm⟩
          subst M'
          refine xj_if_ne (tgt := 180) d14_34_160 rfl (fun _ => ?_) (fun h => absurd h hU)
          refine xj_iconst (v := 1) d14_34_180 (by decide) ?_
          refine xj_goto (tgt := 185) d14_34_181 rfl ?_
          refine xj_istore_n (i := 2) (L' := [(2, .int 1), (0, .ref 24), (1, .int (nI A.length))]) d14_34_185 rfl (by decide) rfl ?_
          refine xj_iload_n (i := 2) d14_34_186 rfl rfl ?_
          refine xj_if_eq (tgt := 204) d14_34_187 rfl (fun h => absurd h (by decide)) (fun _ => ?_)
          refine xj_aload_n (i := 0) d14_34_190 rfl rfl ?_
          refine xj_aload_n (i := 0) d14_34_191 rfl rfl ?_
          refine xj_get d14_34_192 f14_133_12 l24_9 (by omega) (show 24 < M9.1 by omega) rfl ?_
          refine xj_bipush (v := 7) d14_34_195 (by decide) ?_
          refine xj_iadd (v := nI (k + 7)) d14_34_197 (nI_add k 7) ?_
          refine xj_put (a := 24) (fs' := [.ref 25, .ref 26, .ref 27, .ref 28, .ref 29, .ref 30, .int (nI sn), .int (nI vc), .int (nI tk), .ref 31, .int (nI dl), .ref 32, .int (nI pl), .int (nI (A.length + 1)), .ref 33, .ref 34, .ref 35, .ref 36, .ref 37, .ref 38, .ref 39, .ref 40, .int (nI (k + 7)), .int (nI r.length), .int 0, .ref 41, .ref 42, .ref 43, .ref 44, .ref 45, .ref 46, .ref 47, .ref 48, .int y33, .ref 49, .ref 50, .int y36, .int y37, .int y38, .int y39, .int (nI hc), .ref 51]) d14_34_198 f14_133_12 l24_9 (by omega) (show 24 < M9.1 by omega) (Nat.le_of_ble_eq_true rfl) rfl rfl rfl ?_
          refine xj_abs_set (fun M10 hs10 ha10 ho10 => ?_)
          refine xj_goto (tgt := 209) d14_34_201 rfl ?_
          have qA : ¬ pAlp fp pl k := xB_n hA
          have qL : ¬ pLow fp pl k := xB_n hL
          have qU : pUpp fp pl k := xB_y hU
          have qD : ¬ pDgt fp pl k := xB_n hD
          have hS : ∀ c, (pOr S 65 90) c = pCls fp pl k S c := fun c => by rw [Bool.eq_iff_iff]; simp [pCls, pOr, or_assoc, qA, qL, qU, qD]
          exact xj_ret d14_34_209 (by omega) (by omega) rfl ⟨rfl, fun _ => mB_cg (mB_at hB9 (show M10.1 = M9.1 by omega) (fun j hj => (ho10 j (by omega))) ha10) hS, fun q => absurd (Or.inr (Or.inr (Or.inl qU))) q⟩
        · refine xj_aload_n (i := 0) d14_34_103 rfl rfl ?_
          refine xj_iload_n (i := 1) d14_34_104 rfl rfl ?_
          refine xj_bipush (v := 48) d14_34_105 (by decide) ?_
          refine xj_bipush (v := 57) d14_34_107 (by decide) ?_
          refine xj_callV (rest := []) (As := [.int (nI A.length), .int 48, .int 57]) (b := 24) (rList hg hxn h52 hB9 (u := 48) (v := 57) (u1 := 16) (v1 := 25) (kk := 10) (by decide) (by decide) (by decide) (by decide)) d14_34_109 wd14_32 l24_9 (by omega) (show 24 < M9.1 by omega) rfl s14_32 w1286 (Or.inl w1284) rfl rfl (Nat.le_of_ble_eq_true rfl) (by omega) (by omega) (by omega) ?_
          rintro v M11 ⟨rfl, hB11⟩
          obtain ⟨s11, l24_11, l32_11⟩ := mB_24 hB11
          replace l24_11 : M11.2 24 = (.inr (12, [.ref 25, .ref 26, .ref 27, .ref 28, .ref 29, .ref 30, .int (nI sn), .int (nI vc), .int (nI tk), .ref 31, .int (nI dl), .ref 32, .int (nI pl), .int (nI (A.length + 1)), .ref 33, .ref 34, .ref 35, .ref 36, .ref 37, .ref 38, .ref 39, .ref 40, .int (nI k), .int (nI r.length), .int 0, .ref 41, .ref 42, .ref 43, .ref 44, .ref 45, .ref 46, .ref 47, .ref 48, .int y33, .ref 49, .ref 50, .int y36, .int y37, .int y38, .int y39, .int (nI hc), .ref 51])) := l24_11
          refine xj_aload_n (i := 0) d14_34_112 rfl rfl ?_
          refine xj_bipush (v := 97) d14_34_113 (by decide) ?_
          refine xj_bipush (v := 108) d14_34_115 (by decide) ?_
          refine xj_bipush (v := 112) d14_34_117 (by decide) ?_
          refine xj_bipush (v := 104) d14_34_119 (by decide) ?_
          refine xj_bipush (v := 97) d14_34_121 (by decide) ?_
          refine xj_callV (rest := []) (As := [.int 97, .int 108, .int 112, .int 104, .int 97]) (b := 24) (mNamed hg (M := M11) (n := M11.1) (dl := dl) (pl := pl) (vc := vc) (tk := tk) (hc := hc) (sn := sn) (y24 := 0) (y33 := y33) (y36 := y36) (y37 := y37) (y38 := y38) (y39 := y39) (np := A.length + 1) (a := k) (dp := r.length) (fp := fp) (c1 := 97) (c2 := 108) (c3 := 112) (c4 := 104) (c5 := 97) rfl (by omega) (by omega) (by omega) l24_11 (by omega) (by omega) l32_11 (by omega) hpl) d14_34_123 wd14_33 l24_11 (by omega) (show 24 < M11.1 by omega) rfl s14_33 w1282 (Or.inl w1280) rfl rfl (Nat.le_of_ble_eq_true rfl) (by omega) (by omega) (by omega) ?_
          rintro v M' ⟨rfl, hm⟩
          subst M'
          refine xj_if_ne (tgt := 180) d14_34_126 rfl (fun h => absurd hA h) (fun _ => ?_)
          refine xj_aload_n (i := 0) d14_34_129 rfl rfl ?_
          refine xj_bipush (v := 108) d14_34_130 (by decide) ?_
          refine xj_bipush (v := 111) d14_34_132 (by decide) ?_
          refine xj_bipush (v := 119) d14_34_134 (by decide) ?_
          refine xj_bipush (v := 101) d14_34_136 (by decide) ?_
          refine xj_bipush (v := 114) d14_34_138 (by decide) ?_
          refine xj_callV (rest := []) (As := [.int 108, .int 111, .int 119, .int 101, .int 114]) (b := 24) (mNamed hg (M := M11) (n := M11.1) (dl := dl) (pl := pl) (vc := vc) (tk := tk) (hc := hc) (sn := sn) (y24 := 0) (y33 := y33) (y36 := y36) (y37 := y37) (y38 := y38) (y39 := y39) (np := A.length + 1) (a := k) (dp := r.length) (fp := fp) (c1 := 108) (c2 := 111) (c3 := 119) (c4 := 101) (c5 := 114) rfl (by omega) (by omega) (by omega) l24_11 (by omega) (by omega) l32_11 (by omega) hpl) d14_34_140 wd14_33 l24_11 (by omega) (show 24 < M11.1 by omega) rfl s14_33 w1282 (Or.inl w1280) rfl rfl (Nat.le_of_ble_eq_true rfl) (by omega) (by omega) (by omega) ?_
          rintro v M' ⟨rfl, hm⟩
          subst M'
          refine xj_if_ne (tgt := 180) d14_34_143 rfl (fun h => absurd hL h) (fun _ => ?_)
          refine xj_aload_n (i := 0) d14_34_146 rfl rfl ?_
          refine xj_bipush (v := 117) d14_34_147 (by decide) ?_
          refine xj_bipush (v := 112) d14_34_149 (by decide) ?_
          refine xj_bipush (v := 112) d14_34_151 (by decide) ?_
          refine xj_bipush (v := 101) d14_34_153 (by decide) ?_
          refine xj_bipush (v := 114) d14_34_155 (by decide) ?_
          refine xj_callV (rest := []) (As := [.int 117, .int 112, .int 112, .int 101, .int 114]) (b := 24) (mNamed hg (M := M11) (n := M11.1) (dl := dl) (pl := pl) (vc := vc) (tk := tk) (hc := hc) (sn := sn) (y24 := 0) (y33 := y33) (y36 := y36) (y37 := y37) (y38 := y38) (y39 := y39) (np := A.length + 1) (a := k) (dp := r.length) (fp := fp) (c1 := 117) (c2 := 112) (c3 := 112) (c4 := 101) (c5 := 114) rfl (by omega) (by omega) (by omega) l24_11 (by omega) (by omega) l32_11 (by omega) hpl) d14_34_157 wd14_33 l24_11 (by omega) (show 24 < M11.1 by omega) rfl s14_33 w1282 (Or.inl w1280) rfl rfl (Nat.le_of_ble_eq_true rfl) (by omega) (by omega) (by omega) ?_
          rintro v M' ⟨rfl, hm⟩
          subst M'
          refine xj_if_ne (tgt := 180) d14_34_160 rfl (fun _ => ?_) (fun h => absurd h hU)
          refine xj_iconst (v := 1) d14_34_180 (by decide) ?_
          refine xj_goto (tgt := 185) d14_34_181 rfl ?_
          refine xj_istore_n (i := 2) (L' := [(2, .int 1), (0, .ref 24), (1, .int (nI A.length))]) d14_34_185 rfl (by decide) rfl ?_
          refine xj_iload_n (i := 2) d14_34_186 rfl rfl ?_
          refine xj_if_eq (tgt := 204) d14_34_187 rfl (fun h => absurd h (by decide)) (fun _ => ?_)
          refine xj_aload_n (i := 0) d14_34_190 rfl rfl ?_
          refine xj_aload_n (i := 0) d14_34_191 rfl rfl ?_
          refine xj_get d14_34_192 f14_133_12 l24_11 (by omega) (show 24 < M11.1 by omega) rfl ?_
          refine xj_bipush (v := 7) d14_34_195 (by decide) ?_
          refine xj_iadd (v := nI (k + 7)) d14_34_197 (nI_add k 7) ?_
          refine xj_put (a := 24) (fs' := [.ref 25, .ref 26, .ref 27, .ref 28, .ref 29, .ref 30, .int (nI sn), .int (nI vc), .int (nI tk), .ref 31, .int (nI dl), .ref 32, .int (nI pl), .int (nI (A.length + 1)), .ref 33, .ref 34, .ref 35, .ref 36, .ref 37, .ref 38, .ref 39, .ref 40, .int (nI (k + 7)), .int (nI r.length), .int 0, .ref 41, .ref 42, .ref 43, .ref 44, .ref 45, .ref 46, .ref 47, .ref 48, .int y33, .ref 49, .ref 50, .int y36, .int y37, .int y38, .int y39, .int (nI hc), .ref 51]) d14_34_198 f14_133_12 l24_11 (by omega) (show 24 < M11.1 by omega) (Nat.le_of_ble_eq_true rfl) rfl rfl rfl ?_
          refine xj_abs_set (fun M12 hs12 ha12 ho12 => ?_)
          refine xj_goto (tgt := 209) d14_34_201 rfl ?_
          have qA : ¬ pAlp fp pl k := xB_n hA
          have qL : ¬ pLow fp pl k := xB_n hL
          have qU : pUpp fp pl k := xB_y hU
          have qD : pDgt fp pl k := xB_y hD
          have hS : ∀ c, (pOr (pOr S 65 90) 48 57) c = pCls fp pl k S c := fun c => by rw [Bool.eq_iff_iff]; simp [pCls, pOr, or_assoc, qA, qL, qU, qD]
          exact xj_ret d14_34_209 (by omega) (by omega) rfl ⟨rfl, fun _ => mB_cg (mB_at hB11 (show M12.1 = M11.1 by omega) (fun j hj => (ho12 j (by omega))) ha12) hS, fun q => absurd (Or.inr (Or.inr (Or.inl qU))) q⟩
    · refine xj_aload_n (i := 0) d14_34_34 rfl rfl ?_
      refine xj_iload_n (i := 1) d14_34_35 rfl rfl ?_
      refine xj_bipush (v := 97) d14_34_36 (by decide) ?_
      refine xj_bipush (v := 122) d14_34_38 (by decide) ?_
      refine xj_callV (rest := []) (As := [.int (nI A.length), .int 97, .int 122]) (b := 24) (rList hg hxn h52 hB (u := 97) (v := 122) (u1 := 65) (v1 := 90) (kk := 26) (by decide) (by decide) (by decide) (by decide)) d14_34_40 wd14_32 k24 (by omega) (show 24 < M.1 by omega) rfl s14_32 w1286 (Or.inl w1284) rfl rfl (Nat.le_of_ble_eq_true rfl) (by omega) (by omega) (by omega) ?_
      rintro v M13 ⟨rfl, hB13⟩
      obtain ⟨s13, l24_13, l32_13⟩ := mB_24 hB13
      replace l24_13 : M13.2 24 = (.inr (12, [.ref 25, .ref 26, .ref 27, .ref 28, .ref 29, .ref 30, .int (nI sn), .int (nI vc), .int (nI tk), .ref 31, .int (nI dl), .ref 32, .int (nI pl), .int (nI (A.length + 1)), .ref 33, .ref 34, .ref 35, .ref 36, .ref 37, .ref 38, .ref 39, .ref 40, .int (nI k), .int (nI r.length), .int 0, .ref 41, .ref 42, .ref 43, .ref 44, .ref 45, .ref 46, .ref 47, .ref 48, .int y33, .ref 49, .ref 50, .int y36, .int y37, .int y38, .int y39, .int (nI hc), .ref 51])) := l24_13
      refine xj_aload_n (i := 0) d14_34_43 rfl rfl ?_
      refine xj_bipush (v := 97) d14_34_44 (by decide) ?_
      refine xj_bipush (v := 108) d14_34_46 (by decide) ?_
      refine xj_bipush (v := 112) d14_34_48 (by decide) ?_
      refine xj_bipush (v := 104) d14_34_50 (by decide) ?_
      refine xj_bipush (v := 97) d14_34_52 (by decide) ?_
      refine xj_callV (rest := []) (As := [.int 97, .int 108, .int 112, .int 104, .int 97]) (b := 24) (mNamed hg (M := M13) (n := M13.1) (dl := dl) (pl := pl) (vc := vc) (tk := tk) (hc := hc) (sn := sn) (y24 := 0) (y33 := y33) (y36 := y36) (y37 := y37) (y38 := y38) (y39 := y39) (np := A.length + 1) (a := k) (dp := r.length) (fp := fp) (c1 := 97) (c2 := 108) (c3 := 112) (c4 := 104) (c5 := 97) rfl (by omega) (by omega) (by omega) l24_13 (by omega) (by omega) l32_13 (by omega) hpl) d14_34_54 wd14_33 l24_13 (by omega) (show 24 < M13.1 by omega) rfl s14_33 w1282 (Or.inl w1280) rfl rfl (Nat.le_of_ble_eq_true rfl) (by omega) (by omega) (by omega) ?_
      rintro v M' ⟨rfl, hm⟩
      subst M'
      refine xj_if_ne (tgt := 77) d14_34_57 rfl (fun h => absurd hA h) (fun _ => ?_)
      refine xj_aload_n (i := 0) d14_34_60 rfl rfl ?_
      refine xj_bipush (v := 117) d14_34_61 (by decide) ?_
      refine xj_bipush (v := 112) d14_34_63 (by decide) ?_
      refine xj_bipush (v := 112) d14_34_65 (by decide) ?_
      refine xj_bipush (v := 101) d14_34_67 (by decide) ?_
      refine xj_bipush (v := 114) d14_34_69 (by decide) ?_
      refine xj_callV (rest := []) (As := [.int 117, .int 112, .int 112, .int 101, .int 114]) (b := 24) (mNamed hg (M := M13) (n := M13.1) (dl := dl) (pl := pl) (vc := vc) (tk := tk) (hc := hc) (sn := sn) (y24 := 0) (y33 := y33) (y36 := y36) (y37 := y37) (y38 := y38) (y39 := y39) (np := A.length + 1) (a := k) (dp := r.length) (fp := fp) (c1 := 117) (c2 := 112) (c3 := 112) (c4 := 101) (c5 := 114) rfl (by omega) (by omega) (by omega) l24_13 (by omega) (by omega) l32_13 (by omega) hpl) d14_34_71 wd14_33 l24_13 (by omega) (show 24 < M13.1 by omega) rfl s14_33 w1282 (Or.inl w1280) rfl rfl (Nat.le_of_ble_eq_true rfl) (by omega) (by omega) (by omega) ?_
      rintro v M' ⟨rfl, hm⟩
      subst M'
      refine xj_if_eq (tgt := 86) d14_34_74 rfl (fun hU => ?_) (fun hU => ?_)
      · refine xj_aload_n (i := 0) d14_34_86 rfl rfl ?_
        refine xj_bipush (v := 100) d14_34_87 (by decide) ?_
        refine xj_bipush (v := 105) d14_34_89 (by decide) ?_
        refine xj_bipush (v := 103) d14_34_91 (by decide) ?_
        refine xj_bipush (v := 105) d14_34_93 (by decide) ?_
        refine xj_bipush (v := 116) d14_34_95 (by decide) ?_
        refine xj_callV (rest := []) (As := [.int 100, .int 105, .int 103, .int 105, .int 116]) (b := 24) (mNamed hg (M := M13) (n := M13.1) (dl := dl) (pl := pl) (vc := vc) (tk := tk) (hc := hc) (sn := sn) (y24 := 0) (y33 := y33) (y36 := y36) (y37 := y37) (y38 := y38) (y39 := y39) (np := A.length + 1) (a := k) (dp := r.length) (fp := fp) (c1 := 100) (c2 := 105) (c3 := 103) (c4 := 105) (c5 := 116) rfl (by omega) (by omega) (by omega) l24_13 (by omega) (by omega) l32_13 (by omega) hpl) d14_34_97 wd14_33 l24_13 (by omega) (show 24 < M13.1 by omega) rfl s14_33 w1282 (Or.inl w1280) rfl rfl (Nat.le_of_ble_eq_true rfl) (by omega) (by omega) (by omega) ?_
        rintro v M' ⟨rfl, hm⟩
        subst M'
        refine xj_if_eq (tgt := 112) d14_34_100 rfl (fun hD => ?_) (fun hD => ?_)
        · refine xj_aload_n (i := 0) d14_34_112 rfl rfl ?_
          refine xj_bipush (v := 97) d14_34_113 (by decide) ?_
          refine xj_bipush (v := 108) d14_34_115 (by decide) ?_
          refine xj_bipush (v := 112) d14_34_117 (by decide) ?_
          refine xj_bipush (v := 104) d14_34_119 (by decide) ?_
          refine xj_bipush (v := 97) d14_34_121 (by decide) ?_
          refine xj_callV (rest := []) (As := [.int 97, .int 108, .int 112, .int 104, .int 97]) (b := 24) (mNamed hg (M := M13) (n := M13.1) (dl := dl) (pl := pl) (vc := vc) (tk := tk) (hc := hc) (sn := sn) (y24 := 0) (y33 := y33) (y36 := y36) (y37 := y37) (y38 := y38) (y39 := y39) (np := A.length + 1) (a := k) (dp := r.length) (fp := fp) (c1 := 97) (c2 := 108) (c3 := 112) (c4 := 104) (c5 := 97) rfl (by omega) (by omega) (by omega) l24_13 (by omega) (by omega) l32_13 (by omega) hpl) d14_34_123 wd14_33 l24_13 (by omega) (show 24 < M13.1 by omega) rfl s14_33 w1282 (Or.inl w1280) rfl rfl (Nat.le_of_ble_eq_true rfl) (by omega) (by omega) (by omega) ?_
          rintro v M' ⟨rfl, hm⟩
          subst M'
          refine xj_if_ne (tgt := 180) d14_34_126 rfl (fun h => absurd hA h) (fun _ => ?_)
          refine xj_aload_n (i := 0) d14_34_129 rfl rfl ?_
          refine xj_bipush (v := 108) d14_34_130 (by decide) ?_
          refine xj_bipush (v := 111) d14_34_132 (by decide) ?_
          refine xj_bipush (v := 119) d14_34_134 (by decide) ?_
          refine xj_bipush (v := 101) d14_34_136 (by decide) ?_
          refine xj_bipush (v := 114) d14_34_138 (by decide) ?_
          refine xj_callV (rest := []) (As := [.int 108, .int 111, .int 119, .int 101, .int 114]) (b := 24) (mNamed hg (M := M13) (n := M13.1) (dl := dl) (pl := pl) (vc := vc) (tk := tk) (hc := hc) (sn := sn) (y24 := 0) (y33 := y33) (y36 := y36) (y37 := y37) (y38 := y38) (y39 := y39) (np := A.length + 1) (a := k) (dp := r.length) (fp := fp) (c1 := 108) (c2 := 111) (c3 := 119) (c4 := 101) (c5 := 114) rfl (by omega) (by omega) (by omega) l24_13 (by omega) (by omega) l32_13 (by omega) hpl) d14_34_140 wd14_33 l24_13 (by omega) (show 24 < M13.1 by omega) rfl s14_33 w1282 (Or.inl w1280) rfl rfl (Nat.le_of_ble_eq_true rfl) (by omega) (by omega) (by omega) ?_
          rintro v M' ⟨rfl, hm⟩
          subst M'
          refine xj_if_ne (tgt := 180) d14_34_143 rfl (fun _ => ?_) (fun h => absurd h hL)
          refine xj_iconst (v := 1) d14_34_180 (by decide) ?_
          refine xj_goto (tgt := 185) d14_34_181 rfl ?_
          refine xj_istore_n (i := 2) (L' := [(2, .int 1), (0, .ref 24), (1, .int (nI A.length))]) d14_34_185 rfl (by decide) rfl ?_
          refine xj_iload_n (i := 2) d14_34_186 rfl rfl ?_
          refine xj_if_eq (tgt := 204) d14_34_187 rfl (fun h => absurd h (by decide)) (fun _ => ?_)
          refine xj_aload_n (i := 0) d14_34_190 rfl rfl ?_
          refine xj_aload_n (i := 0) d14_34_191 rfl rfl ?_
          refine xj_get d14_34_192 f14_133_12 l24_13 (by omega) (show 24 < M13.1 by omega) rfl ?_
          refine xj_bipush (v := 7) d14_34_195 (by decide) ?_
          refine xj_iadd (v := nI (k + 7)) d14_34_197 (nI_add k 7) ?_
          refine xj_put (a := 24) (fs' := [.ref 25, .ref 26, .ref 27, .ref 28, .ref 29, .ref 30, .int (nI sn), .int (nI vc), .int (nI tk), .ref 31, .int (nI dl), .ref 32, .int (nI pl), .int (nI (A.length + 1)), .ref 33, .ref 34, .ref 35, .ref 36, .ref 37, .ref 38, .ref 39, .ref 40, .int (nI (k + 7)), .int (nI r.length), .int 0, .ref 41, .ref 42, .ref 43, .ref 44, .ref 45, .ref 46, .ref 47, .ref 48, .int y33, .ref 49, .ref 50, .int y36, .int y37, .int y38, .int y39, .int (nI hc), .ref 51]) d14_34_198 f14_133_12 l24_13 (by omega) (show 24 < M13.1 by omega) (Nat.le_of_ble_eq_true rfl) rfl rfl rfl ?_
          refine xj_abs_set (fun M14 hs14 ha14 ho14 => ?_)
          refine xj_goto (tgt := 209) d14_34_201 rfl ?_
          have qA : ¬ pAlp fp pl k := xB_n hA
          have qL : pLow fp pl k := xB_y hL
          have qU : ¬ pUpp fp pl k := xB_n hU
          have qD : ¬ pDgt fp pl k := xB_n hD
          have hS : ∀ c, (pOr S 97 122) c = pCls fp pl k S c := fun c => by rw [Bool.eq_iff_iff]; simp [pCls, pOr, or_assoc, qA, qL, qU, qD]
          exact xj_ret d14_34_209 (by omega) (by omega) rfl ⟨rfl, fun _ => mB_cg (mB_at hB13 (show M14.1 = M13.1 by omega) (fun j hj => (ho14 j (by omega))) ha14) hS, fun q => absurd (Or.inr (Or.inl qL)) q⟩
        · refine xj_aload_n (i := 0) d14_34_103 rfl rfl ?_
          refine xj_iload_n (i := 1) d14_34_104 rfl rfl ?_
          refine xj_bipush (v := 48) d14_34_105 (by decide) ?_
          refine xj_bipush (v := 57) d14_34_107 (by decide) ?_
          refine xj_callV (rest := []) (As := [.int (nI A.length), .int 48, .int 57]) (b := 24) (rList hg hxn h52 hB13 (u := 48) (v := 57) (u1 := 16) (v1 := 25) (kk := 10) (by decide) (by decide) (by decide) (by decide)) d14_34_109 wd14_32 l24_13 (by omega) (show 24 < M13.1 by omega) rfl s14_32 w1286 (Or.inl w1284) rfl rfl (Nat.le_of_ble_eq_true rfl) (by omega) (by omega) (by omega) ?_
          rintro v M15 ⟨rfl, hB15⟩
          obtain ⟨s15, l24_15, l32_15⟩ := mB_24 hB15
          replace l24_15 : M15.2 24 = (.inr (12, [.ref 25, .ref 26, .ref 27, .ref 28, .ref 29, .ref 30, .int (nI sn), .int (nI vc), .int (nI tk), .ref 31, .int (nI dl), .ref 32, .int (nI pl), .int (nI (A.length + 1)), .ref 33, .ref 34, .ref 35, .ref 36, .ref 37, .ref 38, .ref 39, .ref 40, .int (nI k), .int (nI r.length), .int 0, .ref 41, .ref 42, .ref 43, .ref 44, .ref 45, .ref 46, .ref 47, .ref 48, .int y33, .ref 49, .ref 50, .int y36, .int y37, .int y38, .int y39, .int (nI hc), .ref 51])) := l24_15
          refine xj_aload_n (i := 0) d14_34_112 rfl rfl ?_
          refine xj_bipush (v := 97) d14_34_113 (by decide) ?_
          refine xj_bipush (v := 108) d14_34_115 (by decide) ?_
          refine xj_bipush (v := 112) d14_34_117 (by decide) ?_
          refine xj_bipush (v := 104) d14_34_119 (by decide) ?_
          refine xj_bipush (v := 97) d14_34_121 (by decide) ?_
          refine xj_callV (rest := []) (As := [.int 97, .int 108, .int 112, .int 104, .int 97]) (b := 24) (mNamed hg (M := M15) (n := M15.1) (dl := dl) (pl := pl) (vc := vc) (tk := tk) (hc := hc) (sn := sn) (y24 := 0) (y33 := y33) (y36 := y36) (y37 := y37) (y38 := y38) (y39 := y39) (np := A.length + 1) (a := k) (dp := r.length) (fp := fp) (c1 := 97) (c2 := 108) (c3 := 112) (c4 := 104) (c5 := 97) rfl (by omega) (by omega) (by omega) l24_15 (by omega) (by omega) l32_15 (by omega) hpl) d14_34_123 wd14_33 l24_15 (by omega) (show 24 < M15.1 by omega) rfl s14_33 w1282 (Or.inl w1280) rfl rfl (Nat.le_of_ble_eq_true rfl) (by omega) (by omega) (by omega) ?_
          rintro v M' ⟨rfl, hm⟩
          subst M'
          refine xj_if_ne (tgt := 180) d14_34_126 rfl (fun h => absurd hA h) (fun _ => ?_)
          refine xj_aload_n (i := 0) d14_34_129 rfl rfl ?_
          refine xj_bipush (v := 108) d14_34_130 (by decide) ?_
          refine xj_bipush (v := 111) d14_34_132 (by decide) ?_
          refine xj_bipush (v := 119) d14_34_134 (by decide) ?_
          refine xj_bipush (v := 101) d14_34_136 (by decide) ?_
          refine xj_bipush (v := 114) d14_34_138 (by decide) ?_
          refine xj_callV (rest := []) (As := [.int 108, .int 111, .int 119, .int 101, .int 114]) (b := 24) (mNamed hg (M := M15) (n := M15.1) (dl := dl) (pl := pl) (vc := vc) (tk := tk) (hc := hc) (sn := sn) (y24 := 0) (y33 := y33) (y36 := y36) (y37 := y37) (y38 := y38) (y39 := y39) (np := A.length + 1) (a := k) (dp := r.length) (fp := fp) (c1 := 108) (c2 := 111) (c3 := 119) (c4 := 101) (c5 := 114) rfl (by omega) (by omega) (by omega) l24_15 (by omega) (by omega) l32_15 (by omega) hpl) d14_34_140 wd14_33 l24_15 (by omega) (show 24 < M15.1 by omega) rfl s14_33 w1282 (Or.inl w1280) rfl rfl (Nat.le_of_ble_eq_true rfl) (by omega) (by omega) (by omega) ?_
          rintro v M' ⟨rfl, hm⟩
          subst M'
          refine xj_if_ne (tgt := 180) d14_34_143 rfl (fun _ => ?_) (fun h => absurd h hL)
          refine xj_iconst (v := 1) d14_34_180 (by decide) ?_
          refine xj_goto (tgt := 185) d14_34_181 rfl ?_
          refine xj_istore_n (i := 2) (L' := [(2, .int 1), (0, .ref 24), (1, .int (nI A.length))]) d14_34_185 rfl (by decide) rfl ?_
          refine xj_iload_n (i := 2) d14_34_186 rfl rfl ?_
          refine xj_if_eq (tgt := 204) d14_34_187 rfl (fun h => absurd h (by decide)) (fun _ => ?_)
          refine xj_aload_n (i := 0) d14_34_190 rfl rfl ?_
          refine xj_aload_n (i := 0) d14_34_191 rfl rfl ?_
          refine xj_get d14_34_192 f14_133_12 l24_15 (by omega) (show 24 < M15.1 by omega) rfl ?_
          refine xj_bipush (v := 7) d14_34_195 (by decide) ?_
          refine xj_iadd (v := nI (k + 7)) d14_34_197 (nI_add k 7) ?_
          refine xj_put (a := 24) (fs' := [.ref 25, .ref 26, .ref 27, .ref 28, .ref 29, .ref 30, .int (nI sn), .int (nI vc), .int (nI tk), .ref 31, .int (nI dl), .ref 32, .int (nI pl), .int (nI (A.length + 1)), .ref 33, .ref 34, .ref 35, .ref 36, .ref 37, .ref 38, .ref 39, .ref 40, .int (nI (k + 7)), .int (nI r.length), .int 0, .ref 41, .ref 42, .ref 43, .ref 44, .ref 45, .ref 46, .ref 47, .ref 48, .int y33, .ref 49, .ref 50, .int y36, .int y37, .int y38, .int y39, .int (nI hc), .ref 51]) d14_34_198 f14_133_12 l24_15 (by omega) (show 24 < M15.1 by omega) (Nat.le_of_ble_eq_true rfl) rfl rfl rfl ?_
          refine xj_abs_set (fun M16 hs16 ha16 ho16 => ?_)
          refine xj_goto (tgt := 209) d14_34_201 rfl ?_
          have qA : ¬ pAlp fp pl k := xB_n hA
          have qL : pLow fp pl k := xB_y hL
          have qU : ¬ pUpp fp pl k := xB_n hU
          have qD : pDgt fp pl k := xB_y hD
          have hS : ∀ c, (pOr (pOr S 97 122) 48 57) c = pCls fp pl k S c := fun c => by rw [Bool.eq_iff_iff]; simp [pCls, pOr, or_assoc, qA, qL, qU, qD]
          exact xj_ret d14_34_209 (by omega) (by omega) rfl ⟨rfl, fun _ => mB_cg (mB_at hB15 (show M16.1 = M15.1 by omega) (fun j hj => (ho16 j (by omega))) ha16) hS, fun q => absurd (Or.inr (Or.inl qL)) q⟩
      · refine xj_aload_n (i := 0) d14_34_77 rfl rfl ?_
        refine xj_iload_n (i := 1) d14_34_78 rfl rfl ?_
        refine xj_bipush (v := 65) d14_34_79 (by decide) ?_
        refine xj_bipush (v := 90) d14_34_81 (by decide) ?_
        refine xj_callV (rest := []) (As := [.int (nI A.length), .int 65, .int 90]) (b := 24) (rList hg hxn h52 hB13 (u := 65) (v := 90) (u1 := 33) (v1 := 58) (kk := 26) (by decide) (by decide) (by decide) (by decide)) d14_34_83 wd14_32 l24_13 (by omega) (show 24 < M13.1 by omega) rfl s14_32 w1286 (Or.inl w1284) rfl rfl (Nat.le_of_ble_eq_true rfl) (by omega) (by omega) (by omega) ?_
        rintro v M17 ⟨rfl, hB17⟩
        obtain ⟨s17, l24_17, l32_17⟩ := mB_24 hB17
        replace l24_17 : M17.2 24 = (.inr (12, [.ref 25, .ref 26, .ref 27, .ref 28, .ref 29, .ref 30, .int (nI sn), .int (nI vc), .int (nI tk), .ref 31, .int (nI dl), .ref 32, .int (nI pl), .int (nI (A.length + 1)), .ref 33, .ref 34, .ref 35, .ref 36, .ref 37, .ref 38, .ref 39, .ref 40, .int (nI k), .int (nI r.length), .int 0, .ref 41, .ref 42, .ref 43, .ref 44, .ref 45, .ref 46, .ref 47, .ref 48, .int y33, .ref 49, .ref 50, .int y36, .int y37, .int y38, .int y39, .int (nI hc), .ref 51])) := l24_17
        refine xj_aload_n (i := 0) d14_34_86 rfl rfl ?_
        refine xj_bipush (v := 100) d14_34_87 (by decide) ?_
        refine xj_bipush (v := 105) d14_34_89 (by decide) ?_
        refine xj_bipush (v := 103) d14_34_91 (by decide) ?_
        refine xj_bipush (v := 105) d14_34_93 (by decide) ?_
        refine xj_bipush (v := 116) d14_34_95 (by decide) ?_
        refine xj_callV (rest := []) (As := [.int 100, .int 105, .int 103, .int 105, .int 116]) (b := 24) (mNamed hg (M := M17) (n := M17.1) (dl := dl) (pl := pl) (vc := vc) (tk := tk) (hc := hc) (sn := sn) (y24 := 0) (y33 := y33) (y36 := y36) (y37 := y37) (y38 := y38) (y39 := y39) (np := A.length + 1) (a := k) (dp := r.length) (fp := fp) (c1 := 100) (c2 := 105) (c3 := 103) (c4 := 105) (c5 := 116) rfl (by omega) (by omega) (by omega) l24_17 (by omega) (by omega) l32_17 (by omega) hpl) d14_34_97 wd14_33 l24_17 (by omega) (show 24 < M17.1 by omega) rfl s14_33 w1282 (Or.inl w1280) rfl rfl (Nat.le_of_ble_eq_true rfl) (by omega) (by omega) (by omega) ?_
        rintro v M' ⟨rfl, hm⟩
        subst M'
        refine xj_if_eq (tgt := 112) d14_34_100 rfl (fun hD => ?_) (fun hD => ?_)
        · refine xj_aload_n (i := 0) d14_34_112 rfl rfl ?_
          refine xj_bipush (v := 97) d14_34_113 (by decide) ?_
          refine xj_bipush (v := 108) d14_34_115 (by decide) ?_
          refine xj_bipush (v := 112) d14_34_117 (by decide) ?_
          refine xj_bipush (v := 104) d14_34_119 (by decide) ?_
          refine xj_bipush (v := 97) d14_34_121 (by decide) ?_
          refine xj_callV (rest := []) (As := [.int 97, .int 108, .int 112, .int 104, .int 97]) (b := 24) (mNamed hg (M := M17) (n := M17.1) (dl := dl) (pl := pl) (vc := vc) (tk := tk) (hc := hc) (sn := sn) (y24 := 0) (y33 := y33) (y36 := y36) (y37 := y37) (y38 := y38) (y39 := y39) (np := A.length + 1) (a := k) (dp := r.length) (fp := fp) (c1 := 97) (c2 := 108) (c3 := 112) (c4 := 104) (c5 := 97) rfl (by omega) (by omega) (by omega) l24_17 (by omega) (by omega) l32_17 (by omega) hpl) d14_34_123 wd14_33 l24_17 (by omega) (show 24 < M17.1 by omega) rfl s14_33 w1282 (Or.inl w1280) rfl rfl (Nat.le_of_ble_eq_true rfl) (by omega) (by omega) (by omega) ?_
          rintro v M' ⟨rfl, hm⟩
          subst M'
          refine xj_if_ne (tgt := 180) d14_34_126 rfl (fun h => absurd hA h) (fun _ => ?_)
          refine xj_aload_n (i := 0) d14_34_129 rfl rfl ?_
          refine xj_bipush (v := 108) d14_34_130 (by decide) ?_
          refine xj_bipush (v := 111) d14_34_132 (by decide) ?_
          refine xj_bipush (v := 119) d14_34_134 (by decide) ?_
          refine xj_bipush (v := 101) d14_34_136 (by decide) ?_
          refine xj_bipush (v := 114) d14_34_138 (by decide) ?_
          refine xj_callV (rest := []) (As := [.int 108, .int 111, .int 119, .int 101, .int 114]) (b := 24) (mNamed hg (M := M17) (n := M17.1) (dl := dl) (pl := pl) (vc := vc) (tk := tk) (hc := hc) (sn := sn) (y24 := 0) (y33 := y33) (y36 := y36) (y37 := y37) (y38 := y38) (y39 := y39) (np := A.length + 1) (a := k) (dp := r.length) (fp := fp) (c1 := 108) (c2 := 111) (c3 := 119) (c4 := 101) (c5 := 114) rfl (by omega) (by omega) (by omega) l24_17 (by omega) (by omega) l32_17 (by omega) hpl) d14_34_140 wd14_33 l24_17 (by omega) (show 24 < M17.1 by omega) rfl s14_33 w1282 (Or.inl w1280) rfl rfl (Nat.le_of_ble_eq_true rfl) (by omega) (by omega) (by omega) ?_
          rintro v M' ⟨rfl, hm⟩
          subst M'
          refine xj_if_ne (tgt := 180) d14_34_143 rfl (fun _ => ?_) (fun h => absurd h hL)
          refine xj_iconst (v := 1) d14_34_180 (by decide) ?_
          refine xj_goto (tgt := 185) d14_34_181 rfl ?_
          refine xj_istore_n (i := 2) (L' := [(2, .int 1), (0, .ref 24), (1, .int (nI A.length))]) d14_34_185 rfl (by decide) rfl ?_
          refine xj_iload_n (i := 2) d14_34_186 rfl rfl ?_
          refine xj_if_eq (tgt := 204) d14_34_187 rfl (fun h => absurd h (by decide)) (fun _ => ?_)
          refine xj_aload_n (i := 0) d14_34_190 rfl rfl ?_
          refine xj_aload_n (i := 0) d14_34_191 rfl rfl ?_
          refine xj_get d14_34_192 f14_133_12 l24_17 (by omega) (show 24 < M17.1 by omega) rfl ?_
          refine xj_bipush (v := 7) d14_34_195 (by decide) ?_
          refine xj_iadd (v := nI (k + 7)) d14_34_197 (nI_add k 7) ?_
          refine xj_put (a := 24) (fs' := [.ref 25, .ref 26, .ref 27, .ref 28, .ref 29, .ref 30, .int (nI sn), .int (nI vc), .int (nI tk), .ref 31, .int (nI dl), .ref 32, .int (nI pl), .int (nI (A.length + 1)), .ref 33, .ref 34, .ref 35, .ref 36, .ref 37, .ref 38, .ref 39, .ref 40, .int (nI (k + 7)), .int (nI r.length), .int 0, .ref 41, .ref 42, .ref 43, .ref 44, .ref 45, .ref 46, .ref 47, .ref 48, .int y33, .ref 49, .ref 50, .int y36, .int y37, .int y38, .int y39, .int (nI hc), .ref 51]) d14_34_198 f14_133_12 l24_17 (by omega) (show 24 < M17.1 by omega) (Nat.le_of_ble_eq_true rfl) rfl rfl rfl ?_
          refine xj_abs_set (fun M18 hs18 ha18 ho18 => ?_)
          refine xj_goto (tgt := 209) d14_34_201 rfl ?_
          have qA : ¬ pAlp fp pl k := xB_n hA
          have qL : pLow fp pl k := xB_y hL
          have qU : pUpp fp pl k := xB_y hU
          have qD : ¬ pDgt fp pl k := xB_n hD
          have hS : ∀ c, (pOr (pOr S 97 122) 65 90) c = pCls fp pl k S c := fun c => by rw [Bool.eq_iff_iff]; simp [pCls, pOr, or_assoc, qA, qL, qU, qD]
          exact xj_ret d14_34_209 (by omega) (by omega) rfl ⟨rfl, fun _ => mB_cg (mB_at hB17 (show M18.1 = M17.1 by omega) (fun j hj => (ho18 j (by omega))) ha18) hS, fun q => absurd (Or.inr (Or.inl qL)) q⟩
        · refine xj_aload_n (i := 0) d14_34_103 rfl rfl ?_
          refine xj_iload_n (i := 1) d14_34_104 rfl rfl ?_
          refine xj_bipush (v := 48) d14_34_105 (by decide) ?_
          refine xj_bipush (v := 57) d14_34_107 (by decide) ?_
          refine xj_callV (rest := []) (As := [.int (nI A.length), .int 48, .int 57]) (b := 24) (rList hg hxn h52 hB17 (u := 48) (v := 57) (u1 := 16) (v1 := 25) (kk := 10) (by decide) (by decide) (by decide) (by decide)) d14_34_109 wd14_32 l24_17 (by omega) (show 24 < M17.1 by omega) rfl s14_32 w1286 (Or.inl w1284) rfl rfl (Nat.le_of_ble_eq_true rfl) (by omega) (by omega) (by omega) ?_
          rintro v M19 ⟨rfl, hB19⟩
          obtain ⟨s19, l24_19, l32_19⟩ := mB_24 hB19
          replace l24_19 : M19.2 24 = (.inr (12, [.ref 25, .ref 26, .ref 27, .ref 28, .ref 29, .ref 30, .int (nI sn), .int (nI vc), .int (nI tk), .ref 31, .int (nI dl), .ref 32, .int (nI pl), .int (nI (A.length + 1)), .ref 33, .ref 34, .ref 35, .ref 36, .ref 37, .ref 38, .ref 39, .ref 40, .int (nI k), .int (nI r.length), .int 0, .ref 41, .ref 42, .ref 43, .ref 44, .ref 45, .ref 46, .ref 47, .ref 48, .int y33, .ref 49, .ref 50, .int y36, .int y37, .int y38, .int y39, .int (nI hc), .ref 51])) := l24_19
          refine xj_aload_n (i := 0) d14_34_112 rfl rfl ?_
          refine xj_bipush (v := 97) d14_34_113 (by decide) ?_
          refine xj_bipush (v := 108) d14_34_115 (by decide) ?_
          refine xj_bipush (v := 112) d14_34_117 (by decide) ?_
          refine xj_bipush (v := 104) d14_34_119 (by decide) ?_
          refine xj_bipush (v := 97) d14_34_121 (by decide) ?_
          refine xj_callV (rest := []) (As := [.int 97, .int 108, .int 112, .int 104, .int 97]) (b := 24) (mNamed hg (M := M19) (n := M19.1) (dl := dl) (pl := pl) (vc := vc) (tk := tk) (hc := hc) (sn := sn) (y24 := 0) (y33 := y33) (y36 := y36) (y37 := y37) (y38 := y38) (y39 := y39) (np := A.length + 1) (a := k) (dp := r.length) (fp := fp) (c1 := 97) (c2 := 108) (c3 := 112) (c4 := 104) (c5 := 97) rfl (by omega) (by omega) (by omega) l24_19 (by omega) (by omega) l32_19 (by omega) hpl) d14_34_123 wd14_33 l24_19 (by omega) (show 24 < M19.1 by omega) rfl s14_33 w1282 (Or.inl w1280) rfl rfl (Nat.le_of_ble_eq_true rfl) (by omega) (by omega) (by omega) ?_
          rintro v M' ⟨rfl, hm⟩
          subst M'
          refine xj_if_ne (tgt := 180) d14_34_126 rfl (fun h => absurd hA h) (fun _ => ?_)
          refine xj_aload_n (i := 0) d14_34_129 rfl rfl ?_
          refine xj_bipush (v := 108) d14_34_130 (by decide) ?_
          refine xj_bipush (v := 111) d14_34_132 (by decide) ?_
          refine xj_bipush (v := 119) d14_34_134 (by decide) ?_
          refine xj_bipush (v := 101) d14_34_136 (by decide) ?_
          refine xj_bipush (v := 114) d14_34_138 (by decide) ?_
          refine xj_callV (rest := []) (As := [.int 108, .int 111, .int 119, .int 101, .int 114]) (b := 24) (mNamed hg (M := M19) (n := M19.1) (dl := dl) (pl := pl) (vc := vc) (tk := tk) (hc := hc) (sn := sn) (y24 := 0) (y33 := y33) (y36 := y36) (y37 := y37) (y38 := y38) (y39 := y39) (np := A.length + 1) (a := k) (dp := r.length) (fp := fp) (c1 := 108) (c2 := 111) (c3 := 119) (c4 := 101) (c5 := 114) rfl (by omega) (by omega) (by omega) l24_19 (by omega) (by omega) l32_19 (by omega) hpl) d14_34_140 wd14_33 l24_19 (by omega) (show 24 < M19.1 by omega) rfl s14_33 w1282 (Or.inl w1280) rfl rfl (Nat.le_of_ble_eq_true rfl) (by omega) (by omega) (by omega) ?_
          rintro v M' ⟨rfl, hm⟩
          subst M'
          refine xj_if_ne (tgt := 180) d14_34_143 rfl (fun _ => ?_) (fun h => absurd h hL)
          refine xj_iconst (v := 1) d14_34_180 (by decide) ?_
          refine xj_goto (tgt := 185) d14_34_181 rfl ?_
          refine xj_istore_n (i := 2) (L' := [(2, .int 1), (0, .ref 24), (1, .int (nI A.length))]) d14_34_185 rfl (by decide) rfl ?_
          refine xj_iload_n (i := 2) d14_34_186 rfl rfl ?_
          refine xj_if_eq (tgt := 204) d14_34_187 rfl (fun h => absurd h (by decide)) (fun _ => ?_)
          refine xj_aload_n (i := 0) d14_34_190 rfl rfl ?_
          refine xj_aload_n (i := 0) d14_34_191 rfl rfl ?_
          refine xj_get d14_34_192 f14_133_12 l24_19 (by omega) (show 24 < M19.1 by omega) rfl ?_
          refine xj_bipush (v := 7) d14_34_195 (by decide) ?_
          refine xj_iadd (v := nI (k + 7)) d14_34_197 (nI_add k 7) ?_
          refine xj_put (a := 24) (fs' := [.ref 25, .ref 26, .ref 27, .ref 28, .ref 29, .ref 30, .int (nI sn), .int (nI vc), .int (nI tk), .ref 31, .int (nI dl), .ref 32, .int (nI pl), .int (nI (A.length + 1)), .ref 33, .ref 34, .ref 35, .ref 36, .ref 37, .ref 38, .ref 39, .ref 40, .int (nI (k + 7)), .int (nI r.length), .int 0, .ref 41, .ref 42, .ref 43, .ref 44, .ref 45, .ref 46, .ref 47, .ref 48, .int y33, .ref 49, .ref 50, .int y36, .int y37, .int y38, .int y39, .int (nI hc), .ref 51]) d14_34_198 f14_133_12 l24_19 (by omega) (show 24 < M19.1 by omega) (Nat.le_of_ble_eq_true rfl) rfl rfl rfl ?_
          refine xj_abs_set (fun M20 hs20 ha20 ho20 => ?_)
          refine xj_goto (tgt := 209) d14_34_201 rfl ?_
          have qA : ¬ pAlp fp pl k := xB_n hA
          have qL : pLow fp pl k := xB_y hL
          have qU : pUpp fp pl k := xB_y hU
          have qD : pDgt fp pl k := xB_y hD
          have hS : ∀ c, (pOr (pOr (pOr S 97 122) 65 90) 48 57) c = pCls fp pl k S c := fun c => by rw [Bool.eq_iff_iff]; simp [pCls, pOr, or_assoc, qA, qL, qU, qD]
          exact xj_ret d14_34_209 (by omega) (by omega) rfl ⟨rfl, fun _ => mB_cg (mB_at hB19 (show M20.1 = M19.1 by omega) (fun j hj => (ho20 j (by omega))) ha20) hS, fun q => absurd (Or.inr (Or.inl qL)) q⟩

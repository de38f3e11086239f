set_option maxRecDepth 20000 in
theorem mNamed {G : xG} (hg : xGood G) {M : xM} {n : Nat} (hn : M.1 = n) (hx : xn ≤ n) {dl : Nat} {pl : Nat} {vc : Nat} {tk : Nat} {hc : Nat} {sn : Nat} {y24 : Int32} {y33 : Int32} {y36 : Int32} {y37 : Int32} {y38 : Int32} {y39 : Int32} {np : Nat} {a : Nat} {dp : Nat} {fp : Nat → Int32} {c1 : Int32} {c2 : Int32} {c3 : Int32} {c4 : Int32} {c5 : Int32} (h1_24 : xn ≤ 24) (h2_24 : 24 < n) (h_24 : M.2 24 = (.inr (12, [.ref 25, .ref 26, .ref 27, .ref 28, .ref 29, .ref 30, .int (nI sn), .int (nI vc), .int (nI tk), .ref 31, .int (nI dl), .ref 32, .int (nI pl), .int (nI np), .ref 33, .ref 34, .ref 35, .ref 36, .ref 37, .ref 38, .ref 39, .ref 40, .int (nI a), .int (nI dp), .int y24, .ref 41, .ref 42, .ref 43, .ref 44, .ref 45, .ref 46, .ref 47, .ref 48, .int y33, .ref 49, .ref 50, .int y36, .int y37, .int y38, .int y39, .int (nI hc), .ref 51]))) (h1_32 : xn ≤ 32) (h2_32 : 32 < n) (h_32 : M.2 32 = (.inl (0, 24, .inl fp))) (hak : a + 6 < 1000) (hpl : pl ≤ 24) : XC G Y14_33 (some .boolean) 1 0 0 [.ref 24, .int c1, .int c2, .int c3, .int c4, .int c5] M (fun v M' => v = some (.int (xB (pNam fp pl a c1 c2 c3 c4 c5))) ∧ M' = M) := by
  refine xc_of hg (by decide) (Nat.le_of_ble_eq_true rfl) (Or.inr (Or.inl ⟨rfl, rfl, fun v M' h => ⟨_, h.1, xB_01 _⟩⟩)) ?_
  refine xj_aload_n (i := 0) d14_33_0 rfl rfl ?_
  refine xj_iconst (v := 0) d14_33_1 (by decide) ?_
  refine xj_callV (rest := []) (As := [.int 0]) (b := 24) (mAhead0 hg (M := M) (n := n) (dl := dl) (pl := pl) (vc := vc) (tk := tk) (hc := hc) (sn := sn) (y24 := y24) (y33 := y33) (y36 := y36) (y37 := y37) (y38 := y38) (y39 := y39) (np := np) (a := a) (dp := dp) (fp := fp) (show M.1 = n by omega) (by omega) (by omega) (by omega) h_24 (by omega) (by omega) h_32 (by omega) hpl) d14_33_2 wd14_19 h_24 (by omega) (show 24 < M.1 by omega) rfl s14_19 w1216 (Or.inl w1214) rfl rfl (Nat.le_of_ble_eq_true rfl) (by omega) (by omega) (by omega) ?_
  rintro v M' ⟨rfl, hm⟩
  subst M'
  refine xj_iload_n (i := 1) d14_33_5 rfl rfl ?_
  refine xj_icmp_ne (tgt := 72) d14_33_6 rfl (fun h1 => ?_) (fun h1 => ?_)
  · refine xj_iconst (v := 0) d14_33_72 (by decide) ?_
    exact xj_ret d14_33_73 (by omega) (by omega) rfl ⟨(by rw [xB_f (show ¬ pNam fp pl a c1 c2 c3 c4 c5 from fun q => by first | exact h1 q.1 | exact h2 q.2.1 | exact h3 q.2.2.1 | exact h4 q.2.2.2.1 | exact h5 q.2.2.2.2.1 | exact h6 q.2.2.2.2.2.1 | exact h7 q.2.2.2.2.2.2)]), rfl⟩
  · refine xj_aload_n (i := 0) d14_33_9 rfl rfl ?_
    refine xj_iconst (v := 1) d14_33_10 (by decide) ?_
    refine xj_callV (rest := []) (As := [.int 1]) (b := 24) (mAhead hg (M := M) (n := n) (dl := dl) (pl := pl) (vc := vc) (tk := tk) (hc := hc) (sn := sn) (y24 := y24) (y33 := y33) (y36 := y36) (y37 := y37) (y38 := y38) (y39 := y39) (np := np) (a := a) (dp := dp) (fp := fp) (k := 1) (show M.1 = n by omega) (by omega) (by omega) (by omega) h_24 (by omega) (by omega) h_32 (by omega) hpl) d14_33_11 wd14_19 h_24 (by omega) (show 24 < M.1 by omega) rfl s14_19 w1216 (Or.inl w1214) rfl rfl (Nat.le_of_ble_eq_true rfl) (by omega) (by omega) (by omega) ?_
    rintro v M' ⟨rfl, hm⟩
    subst M'
    refine xj_iload_n (i := 2) d14_33_14 rfl rfl ?_
    refine xj_icmp_ne (tgt := 72) d14_33_15 rfl (fun h2 => ?_) (fun h2 => ?_)
    · refine xj_iconst (v := 0) d14_33_72 (by decide) ?_
      exact xj_ret d14_33_73 (by omega) (by omega) rfl ⟨(by rw [xB_f (show ¬ pNam fp pl a c1 c2 c3 c4 c5 from fun q => by first | exact h1 q.1 | exact h2 q.2.1 | exact h3 q.2.2.1 | exact h4 q.2.2.2.1 | exact h5 q.2.2.2.2.1 | exact h6 q.2.2.2.2.2.1 | exact h7 q.2.2.2.2.2.2)]), rfl⟩
    · refine xj_aload_n (i := 0) d14_33_18 rfl rfl ?_
      refine xj_iconst (v := 2) d14_33_19 (by decide) ?_
      refine xj_callV (rest := []) (As := [.int 2]) (b := 24) (mAhead hg (M := M) (n := n) (dl := dl) (pl := pl) (vc := vc) (tk := tk) (hc := hc) (sn := sn) (y24 := y24) (y33 := y33) (y36 := y36) (y37 := y37) (y38 := y38) (y39 := y39) (np := np) (a := a) (dp := dp) (fp := fp) (k := 2) (show M.1 = n by omega) (by omega) (by omega) (by omega) h_24 (by omega) (by omega) h_32 (by omega) hpl) d14_33_20 wd14_19 h_24 (by omega) (show 24 < M.1 by omega) rfl s14_19 w1216 (Or.inl w1214) rfl rfl (Nat.le_of_ble_eq_true rfl) (by omega) (by omega) (by omega) ?_
      rintro v M' ⟨rfl, hm⟩
      subst M'
      refine xj_iload_n (i := 3) d14_33_23 rfl rfl ?_
      refine xj_icmp_ne (tgt := 72) d14_33_24 rfl (fun h3 => ?_) (fun h3 => ?_)
      · refine xj_iconst (v := 0) d14_33_72 (by decide) ?_
        exact xj_ret d14_33_73 (by omega) (by omega) rfl ⟨(by rw [xB_f (show ¬ pNam fp pl a c1 c2 c3 c4 c5 from fun q => by first | exact h1 q.1 | exact h2 q.2.1 | exact h3 q.2.2.1 | exact h4 q.2.2.2.1 | exact h5 q.2.2.2.2.1 | exact h6 q.2.2.2.2.2.1 | exact h7 q.2.2.2.2.2.2)]), rfl⟩
      · refine xj_aload_n (i := 0) d14_33_27 rfl rfl ?_
        refine xj_iconst (v := 3) d14_33_28 (by decide) ?_
        refine xj_callV (rest := []) (As := [.int 3]) (b := 24) (mAhead hg (M := M) (n := n) (dl := dl) (pl := pl) (vc := vc) (tk := tk) (hc := hc) (sn := sn) (y24 := y24) (y33 := y33) (y36 := y36) (y37 := y37) (y38 := y38) (y39 := y39) (np := np) (a := a) (dp := dp) (fp := fp) (k := 3) (show M.1 = n by omega) (by omega) (by omega) (by omega) h_24 (by omega) (by omega) h_32 (by omega) hpl) d14_33_29 wd14_19 h_24 (by omega) (show 24 < M.1 by omega) rfl s14_19 w1216 (Or.inl w1214) rfl rfl (Nat.le_of_ble_eq_true rfl) (by omega) (by omega) (by omega) ?_
        rintro v M' ⟨rfl, hm⟩
        subst M'
        refine xj_iload (i := 4) d14_33_32 rfl ?_
        refine xj_icmp_ne (tgt := 72) d14_33_34 rfl (fun h4 => ?_) (fun h4 => ?_)
        · refine xj_iconst (v := 0) d14_33_72 (by decide) ?_
          exact xj_ret d14_33_73 (by omega) (by omega) rfl ⟨(by rw [xB_f (show ¬ pNam fp pl a c1 c2 c3 c4 c5 from fun q => by first | exact h1 q.1 | exact h2 q.2.1 | exact h3 q.2.2.1 | exact h4 q.2.2.2.1 | exact h5 q.2.2.2.2.1 | exact h6 q.2.2.2.2.2.1 | exact h7 q.2.2.2.2.2.2)]), rfl⟩
        · refine xj_aload_n (i := 0) d14_33_37 rfl rfl ?_
          refine xj_iconst (v := 4) d14_33_38 (by decide) ?_
          refine xj_callV (rest := []) (As := [.int 4]) (b := 24) (mAhead hg (M := M) (n := n) (dl := dl) (pl := pl) (vc := vc) (tk := tk) (hc := hc) (sn := sn) (y24 := y24) (y33 := y33) (y36 := y36) (y37 := y37) (y38 := y38) (y39 := y39) (np := np) (a := a) (dp := dp) (fp := fp) (k := 4) (show M.1 = n by omega) (by omega) (by omega) (by omega) h_24 (by omega) (by omega) h_32 (by omega) hpl) d14_33_39 wd14_19 h_24 (by omega) (show 24 < M.1 by omega) rfl s14_19 w1216 (Or.inl w1214) rfl rfl (Nat.le_of_ble_eq_true rfl) (by omega) (by omega) (by omega) ?_
          rintro v M' ⟨rfl, hm⟩
          subst M'
          refine xj_iload (i := 5) d14_33_42 rfl ?_
          refine xj_icmp_ne (tgt := 72) d14_33_44 rfl (fun h5 => ?_) (fun h5 => ?_)
          · refine xj_iconst (v := 0) d14_33_72 (by decide) ?_
            exact xj_ret d14_33_73 (by omega) (by omega) rfl ⟨(by rw [xB_f (show ¬ pNam fp pl a c1 c2 c3 c4 c5 from fun q => by first | exact h1 q.1 | exact h2 q.2.1 | exact h3 q.2.2.1 | exact h4 q.2.2.2.1 | exact h5 q.2.2.2.2.1 | exact h6 q.2.2.2.2.2.1 | exact h7 q.2.2.2.2.2.2)]), rfl⟩
          · refine xj_aload_n (i := 0) d14_33_47 rfl rfl ?_
            refine xj_iconst (v := 5) d14_33_48 (by decide) ?_
            refine xj_callV (rest := []) (As := [.int 5]) (b := 24) (mAhead hg (M := M) (n := n) (dl := dl) (pl := pl) (vc := vc) (tk := tk) (hc := hc) (sn := sn) (y24 := y24) (y33 := y33) (y36 := y36) (y37 := y37) (y38 := y38) (y39 := y39) (np := np) (a := a) (dp := dp) (fp := fp) (k := 5) (show M.1 = n by omega) (by omega) (by omega) (by omega) h_24 (by omega) (by omega) h_32 (by omega) hpl) d14_33_49 wd14_19 h_24 (by omega) (show 24 < M.1 by omega) rfl s14_19 w1216 (Or.inl w1214) rfl rfl (Nat.le_of_ble_eq_true rfl) (by omega) (by omega) (by omega) ?_
            rintro v M' ⟨rfl, hm⟩
            subst M'
            refine xj_bipush (v := 58) d14_33_52 (by decide) ?_
            refine xj_icmp_ne (tgt := 72) d14_33_54 rfl (fun h6 => ?_) (fun h6 => ?_)
            · refine xj_iconst (v := 0) d14_33_72 (by decide) ?_
              exact xj_ret d14_33_73 (by omega) (by omega) rfl ⟨(by rw [xB_f (show ¬ pNam fp pl a c1 c2 c3 c4 c5 from fun q => by first | exact h1 q.1 | exact h2 q.2.1 | exact h3 q.2.2.1 | exact h4 q.2.2.2.1 | exact h5 q.2.2.2.2.1 | exact h6 q.2.2.2.2.2.1 | exact h7 q.2.2.2.2.2.2)]), rfl⟩
            · refine xj_aload_n (i := 0) d14_33_57 rfl rfl ?_
              refine xj_bipush (v := 6) d14_33_58 (by decide) ?_
              refine xj_callV (rest := []) (As := [.int 6]) (b := 24) (mAhead hg (M := M) (n := n) (dl := dl) (pl := pl) (vc := vc) (tk := tk) (hc := hc) (sn := sn) (y24 := y24) (y33 := y33) (y36 := y36) (y37 := y37) (y38 := y38) (y39 := y39) (np := np) (a := a) (dp := dp) (fp := fp) (k := 6) (show M.1 = n by omega) (by omega) (by omega) (by omega) h_24 (by omega) (by omega) h_32 (by omega) hpl) d14_33_60 wd14_19 h_24 (by omega) (show 24 < M.1 by omega) rfl s14_19 w1216 (Or.inl w1214) rfl rfl (Nat.le_of_ble_eq_true rfl) (by omega) (by omega) (by omega) ?_
              rintro v M' ⟨rfl, hm⟩
              subst M'
              refine xj_bipush (v := 93) d14_33_63 (by decide) ?_
              refine xj_icmp_ne (tgt := 72) d14_33_65 rfl (fun h7 => ?_) (fun h7 => ?_)
              · refine xj_iconst (v := 0) d14_33_72 (by decide) ?_
                exact xj_ret d14_33_73 (by omega) (by omega) rfl ⟨(by rw [xB_f (show ¬ pNam fp pl a c1 c2 c3 c4 c5 from fun q => by first | exact h1 q.1 | exact h2 q.2.1 | exact h3 q.2.2.1 | exact h4 q.2.2.2.1 | exact h5 q.2.2.2.2.1 | exact h6 q.2.2.2.2.2.1 | exact h7 q.2.2.2.2.2.2)]), rfl⟩
              · refine xj_iconst (v := 1) d14_33_68 (by decide) ?_
                refine xj_goto (tgt := 73) d14_33_69 rfl ?_
                exact xj_ret d14_33_73 (by omega) (by omega) rfl ⟨(by rw [xB_t (show pNam fp pl a c1 c2 c3 c4 c5 from ⟨h1, h2, h3, h4, h5, h6, h7⟩)]), rfl⟩
/-- the reference in a bracket: the newest node is a set that is no piece yet -/
def mB (dl pl vc tk hc sn : Nat) (y33 y36 y37 y38 y39 : Int32) (fp : Nat → Int32) (M0 M : xM) (σ : xSg) (k : Nat) (S : Nat → Bool) : Prop := (M.1 = M0.1 ∧ ∀ j, j < M0.1 → j ≠ 24 → j < 33 ∨ 44 < j → M.2 j = M0.2 j) ∧ M.2 32 = (.inl (0, 24, .inl fp)) ∧ ∃ kd ch nx be lo hi wt cs fP lP fB lB : Nat → Int32, M.2 24 = (.inr (12, [.ref 25, .ref 26, .ref 27, .ref 28, .ref 29, .ref 30, .int (nI sn), .int (nI vc), .int (nI tk), .ref 31, .int (nI dl), .ref 32, .int (nI pl), .int (nI (σ.2.2.1.length + 1)), .ref 33, .ref 34, .ref 35, .ref 36, .ref 37, .ref 38, .ref 39, .ref 40, .int (nI k), .int (nI (σ.2.2.2.length - 1)), .int 0, .ref 41, .ref 42, .ref 43, .ref 44, .ref 45, .ref 46, .ref 47, .ref 48, .int y33, .ref 49, .ref 50, .int y36, .int y37, .int y38, .int y39, .int (nI hc), .ref 51])) ∧ M.2 33 = (.inl (0, 30, .inl kd)) ∧ M.2 34 = (.inl (0, 30, .inl ch)) ∧ M.2 35 = (.inl (0, 30, .inl nx)) ∧ M.2 36 = (.inl (0, 30, .inl be)) ∧ M.2 37 = (.inl (0, 30, .inl lo)) ∧ M.2 38 = (.inl (0, 30, .inl hi)) ∧ M.2 39 = (.inl (0, 30, .inl wt)) ∧ M.2 40 = (.inl (2, 2850, .inl cs)) ∧ M.2 41 = (.inl (0, 7, .inl fP)) ∧ M.2 42 = (.inl (0, 7, .inl lP)) ∧ M.2 43 = (.inl (0, 7, .inl fB)) ∧ M.2 44 = (.inl (0, 7, .inl lB)) ∧ mA kd ch nx be lo hi wt cs fP lP fB lB σ ∧ pW σ ∧ (kd σ.2.2.1.length = 1 ∧ wt σ.2.2.1.length = 1 ∧ nx σ.2.2.1.length = -1 ∧ ∀ c, c < 95 → cs (95 * σ.2.2.1.length + c) = if S c = true then 1 else 0)
theorem mB_24 {dl pl vc tk hc sn : Nat} {y33 y36 y37 y38 y39 : Int32} {fp : Nat → Int32} {M0 M : xM} {σ : xSg} {k : Nat} {S : Nat → Bool} (h : mB dl pl vc tk hc sn y33 y36 y37 y38 y39 fp M0 M σ k S) : M.1 = M0.1 ∧ M.2 24 = (.inr (12, [.ref 25, .ref 26, .ref 27, .ref 28, .ref 29, .ref 30, .int (nI sn), .int (nI vc), .int (nI tk), .ref 31, .int (nI dl), .ref 32, .int (nI pl), .int (nI (σ.2.2.1.length + 1)), .ref 33, .ref 34, .ref 35, .ref 36, .ref 37, .ref 38, .ref 39, .ref 40, .int (nI k), .int (nI (σ.2.2.2.length - 1)), .int 0, .ref 41, .ref 42, .ref 43, .ref 44, .ref 45, .ref 46, .ref 47, .ref 48, .int y33, .ref 49, .ref 50, .int y36, .int y37, .int y38, .int y39, .int (nI hc), .ref 51])) ∧ M.2 32 = (.inl (0, 24, .inl fp)) := by
  obtain ⟨⟨i1, i2⟩, k32, kd, ch, nx, be, lo, hi, wt, cs, fP, lP, fB, lB, k24, k33, k34, k35, k36, k37, k38, k39, k40, k41, k42, k43, k44, hA, hW, hN⟩ := h
  exact ⟨i1, k24, k32⟩
theorem mB_cg {dl pl vc tk hc sn : Nat} {y33 y36 y37 y38 y39 : Int32} {fp : Nat → Int32} {M0 M : xM} {σ : xSg} {k : Nat} {S S' : Nat → Bool} (h : mB dl pl vc tk hc sn y33 y36 y37 y38 y39 fp M0 M σ k S) (hS : ∀ c, S c = S' c) : mB dl pl vc tk hc sn y33 y36 y37 y38 y39 fp M0 M σ k S' := by
  have e : S = S' := funext hS
  rw [← e]
  exact h
theorem mB_at {dl pl vc tk hc sn : Nat} {y33 y36 y37 y38 y39 : Int32} {fp : Nat → Int32} {M0 M : xM} {M' : xM} {σ : xSg} {k k' : Nat} {S : Nat → Bool} (h : mB dl pl vc tk hc sn y33 y36 y37 y38 y39 fp M0 M σ k S) (e0 : M'.1 = M.1) (e1 : ∀ j, j ≠ 24 → M'.2 j = M.2 j) (e2 : M'.2 24 = (.inr (12, [.ref 25, .ref 26, .ref 27, .ref 28, .ref 29, .ref 30, .int (nI sn), .int (nI vc), .int (nI tk), .ref 31, .int (nI dl), .ref 32, .int (nI pl), .int (nI (σ.2.2.1.length + 1)), .ref 33, .ref 34, .ref 35, .ref 36, .ref 37, .ref 38, .ref 39, .ref 40, .int (nI k'), .int (nI (σ.2.2.2.length - 1)), .int 0, .ref 41, .ref 42, .ref 43, .ref 44, .ref 45, .ref 46, .ref 47, .ref 48, .int y33, .ref 49, .ref 50, .int y36, .int y37, .int y38, .int y39, .int (nI hc), .ref 51]))) : mB dl pl vc tk hc sn y33 y36 y37 y38 y39 fp M0 M' σ k' S := by
  obtain ⟨⟨i1, i2⟩, k32, kd, ch, nx, be, lo, hi, wt, cs, fP, lP, fB, lB, k24, k33, k34, k35, k36, k37, k38, k39, k40, k41, k42, k43, k44, hA, hW, hN⟩ := h
  exact ⟨⟨e0.trans i1, fun j h1 h2 h3 => (e1 j h2).trans (i2 j h1 h2 h3)⟩, (e1 32 (by decide)).trans k32, kd, ch, nx, be, lo, hi, wt, cs, fP, lP, fB, lB, e2, (e1 33 (by decide)).trans k33, (e1 34 (by decide)).trans k34, (e1 35 (by decide)).trans k35, (e1 36 (by decide)).trans k36, (e1 37 (by decide)).trans k37, (e1 38 (by decide)).trans k38, (e1 39 (by decide)).trans k39, (e1 40 (by decide)).trans k40, (e1 41 (by decide)).trans k41, (e1 42 (by decide)).trans k42, (e1 43 (by decide)).trans k43, (e1 44 (by decide)).trans k44, hA, hW, hN⟩
theorem mB_fa {dl pl vc tk hc sn : Nat} {y33 y36 y37 y38 y39 : Int32} {fp : Nat → Int32} {M0 M : xM} {M' : xM} {σ : xSg} {k : Nat} {S : Nat → Bool} {x y13 y22 y23 : Int32} (h : mB dl pl vc tk hc sn y33 y36 y37 y38 y39 fp M0 M σ k S) (e0 : M'.1 = M.1) (e1 : ∀ j, j ≠ 24 → M'.2 j = M.2 j) (e2 : M'.2 24 = (.inr (12, [.ref 25, .ref 26, .ref 27, .ref 28, .ref 29, .ref 30, .int (nI sn), .int (nI vc), .int (nI tk), .ref 31, .int (nI dl), .ref 32, .int (nI pl), .int y13, .ref 33, .ref 34, .ref 35, .ref 36, .ref 37, .ref 38, .ref 39, .ref 40, .int y22, .int y23, .int x, .ref 41, .ref 42, .ref 43, .ref 44, .ref 45, .ref 46, .ref 47, .ref 48, .int y33, .ref 49, .ref 50, .int y36, .int y37, .int y38, .int y39, .int (nI hc), .ref 51]))) : mRf dl pl vc tk hc sn y33 y36 y37 y38 y39 fp M0 M' x := by
  obtain ⟨⟨i1, i2⟩, k32, kd, ch, nx, be, lo, hi, wt, cs, fP, lP, fB, lB, k24, k33, k34, k35, k36, k37, k38, k39, k40, k41, k42, k43, k44, hA, hW, hN⟩ := h
  exact ⟨⟨e0.trans i1, fun j h1 h2 h3 => (e1 j h2).trans (i2 j h1 h2 h3)⟩, (e1 32 (by decide)).trans k32, y13, y22, y23, kd, ch, nx, be, lo, hi, wt, cs, fP, lP, fB, lB, e2, (e1 33 (by decide)).trans k33, (e1 34 (by decide)).trans k34, (e1 35 (by decide)).trans k35, (e1 36 (by decide)).trans k36, (e1 37 (by decide)).trans k37, (e1 38 (by decide)).trans k38, (e1 39 (by decide)).trans k39, (e1 40 (by decide)).trans k40, (e1 41 (by decide)).trans k41, (e1 42 (by decide)).trans k42, (e1 43 (by decide)).trans k43, (e1 44 (by decide)).trans k44⟩
theorem rList {G : xG} (hg : xGood G) (hxn : xn = 16) {dl pl vc tk hc sn : Nat} {y33 y36 y37 y38 y39 : Int32} {fp : Nat → Int32} {M0 M : xM} (h52 : 52 ≤ M0.1) {a : Nat} {A : List xNode} {t : List Nat × List Nat} {r : List (List Nat × List Nat)} {k : Nat} {S : Nat → Bool} (h : mB dl pl vc tk hc sn y33 y36 y37 y38 y39 fp M0 M (a, 0, A, t :: r) k S) {u v : Int32} {u1 v1 kk : Nat} (hu : u = nI (u1 + 32)) (hv : v = nI (v1 + 32)) (hv1 : v1 < 95) (huv : u1 + kk = v1 + 1) : XC G Y14_32 none 0 0 0 [.ref 24, .int (nI A.length), .int u, .int v] M (fun w M' => w = none ∧ mB dl pl vc tk hc sn y33 y36 y37 y38 y39 fp M0 M' (a, 0, A, t :: r) k (pOr S u v)) := by
  subst hu
  subst hv
  obtain ⟨⟨i1, i2⟩, k32, kd, ch, nx, be, lo, hi, wt, cs, fP, lP, fB, lB, k24, k33, k34, k35, k36, k37, k38, k39, k40, k41, k42, k43, k44, hA, hW, hN⟩ := h
  replace k24 : M.2 24 = (.inr (12, [.ref 25, .ref 26, .ref 27, .ref 28, .ref 29, .ref 30, .int (nI sn), .int (nI vc), .int (nI tk), .ref 31, .int (nI dl), .ref 32, .int (nI pl), .int (nI (A.length + 1)), .ref 33, .ref 34, .ref 35, .ref 36, .ref 37, .ref 38, .ref 39, .ref 40, .int (nI k), .int (nI r.length), .int 0, .ref 41, .ref 42, .ref 43, .ref 44, .ref 45, .ref 46, .ref 47, .ref 48, .int y33, .ref 49, .ref 50, .int y36, .int y37, .int y38, .int y39, .int (nI hc), .ref 51])) := k24
  obtain ⟨g1, g2, g3⟩ := pW_tag hW
  refine xc_wk (mList hg (M := M) (n := M.1) (np := A.length + 1) (a := k) (dp := r.length) rfl (by omega) (by omega) (by omega) k24 (by omega) (by omega) k40 hxn (by omega) (by omega) hv1 huv) (Nat.le_refl _) (Nat.le_refl _) (Nat.le_refl _) ?_
  rintro w M' ⟨rfl, e1, e2, e40⟩
  refine ⟨rfl, ⟨e1.trans i1, fun j h1 h2 h3 => (e2 j (by omega) (by omega)).trans (i2 j h1 h2 h3)⟩, (e2 32 (by omega) (by omega)).trans k32, kd, ch, nx, be, lo, hi, wt, va_cpy (fun _ => 1) cs 0 (95 * A.length + u1) kk, fP, lP, fB, lB, (e2 24 (by omega) (by omega)).trans k24, (e2 33 (by omega) (by omega)).trans k33, (e2 34 (by omega) (by omega)).trans k34, (e2 35 (by omega) (by omega)).trans k35, (e2 36 (by omega) (by omega)).trans k36, (e2 37 (by omega) (by omega)).trans k37, (e2 38 (by omega) (by omega)).trans k38, (e2 39 (by omega) (by omega)).trans k39, e40, (e2 41 (by omega) (by omega)).trans k41, (e2 42 (by omega) (by omega)).trans k42, (e2 43 (by omega) (by omega)).trans k43, (e2 44 (by omega) (by omega)).trans k44, ?_, hW, hN.1, hN.2.1, hN.2.2.1, fun c hc => ?_⟩
  · refine ⟨fun i q hq => ?_, hA.2⟩
    have hi9 : i < A.length := (List.getElem?_eq_some_iff.mp hq).1
    exact nS_fr (hA.1 i q hq) rfl rfl (fun c hc => by rw [va_cpy, if_neg (by omega)]) rfl rfl rfl (fun _ _ => rfl)
  · show va_cpy (fun _ => 1) cs 0 (95 * A.length + u1) kk (95 * A.length + c) = _
    have hold : cs (95 * A.length + c) = if S c = true then 1 else 0 := hN.2.2.2 c hc
    by_cases hin : u1 ≤ c ∧ c ≤ v1
    · have hs : pSet (nI (u1 + 32)) (nI (v1 + 32)) c = true := decide_eq_true ⟨nI_le (by omega) (by omega), nI_le (by omega) (by omega)⟩
      rw [va_cpy, if_pos (by omega), if_pos (show pOr S (nI (u1 + 32)) (nI (v1 + 32)) c = true by unfold pOr; rw [hs, Bool.or_true])]
    · have hs : pSet (nI (u1 + 32)) (nI (v1 + 32)) c = false := by
        unfold pSet
        refine decide_eq_false (fun z => ?_)
        by_cases h1 : u1 ≤ c
        · exact absurd z.2 (nI_ge (by omega) (by omega))
        · exact absurd z.1 (nI_ge (by omega) (by omega))
      rw [va_cpy, if_neg (by omega), hold]
      unfold pOr
      rw [hs, Bool.or_false]

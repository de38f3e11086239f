noncomputable def xB (p : Prop) : Int32 := @ite _ p (Classical.propDecidable p) 1 0
theorem xB_t {p : Prop} (h : p) : xB p = 1 := by simp [xB, h]
theorem xB_f {p : Prop} (h : ¬ p) : xB p = 0 := by simp [xB, h]
theorem xB_01 (p : Prop) : xB p = 0 ∨ xB p = 1 := by
  by_cases h : p
  · exact Or.inr (xB_t h)
  · exact Or.inl (xB_f h)
noncomputable def xS (p : Prop) : Int32 := @ite _ p (Classical.propDecidable p) 1 (-1)
theorem xS_t {p : Prop} (h : p) : xS p = 1 := by simp [xS, h]
theorem xS_f {p : Prop} (h : ¬ p) : xS p = -1 := by simp [xS, h]
noncomputable def xZ (p : Prop) : Int32 := @ite _ p (Classical.propDecidable p) 0 (-1)
theorem xname_in {c : Int32} (h : ¬ c < 0 ∧ ¬ 10 ≤ c) : vp_in c 10 := by
  rw [vp_in_iff]
  have h1 := Int32.not_lt.mp h.1
  have h2 := Int32.not_le.mp h.2
  rw [Int32.le_iff_toInt_le] at h1
  rw [Int32.lt_iff_toInt_lt] at h2
  have e1 : (0 : Int32).toInt = 0 := by decide
  have e2 : (10 : Int32).toInt = 10 := by decide
  omega
theorem xsw3 (w : Int32) : w = 0 ∨ w = 1 ∨ w = 2 ∨ (w.toInt < 0 ∨ 2 < w.toInt) := by
  have e0 : (0 : Int32).toInt = 0 := by decide
  have e1 : (1 : Int32).toInt = 1 := by decide
  have e2 : (2 : Int32).toInt = 2 := by decide
  by_cases h0 : w.toInt = 0
  · exact Or.inl (Int32.toInt_inj.mp (h0.trans e0.symm))
  · by_cases h1 : w.toInt = 1
    · exact Or.inr (Or.inl (Int32.toInt_inj.mp (h1.trans e1.symm)))
    · by_cases h2 : w.toInt = 2
      · exact Or.inr (Or.inr (Or.inl (Int32.toInt_inj.mp (h2.trans e2.symm))))
      · exact Or.inr (Or.inr (Or.inr (by omega)))
theorem xsw3n {w : Int32} (h : w.toInt < 0 ∨ 2 < w.toInt) : ¬ (w = 0 ∨ w = 1 ∨ w = 2) := by
  have e0 : (0 : Int32).toInt = 0 := by decide
  have e1 : (1 : Int32).toInt = 1 := by decide
  have e2 : (2 : Int32).toInt = 2 := by decide
  rintro (rfl | rfl | rfl) <;> omega
theorem xB_n {p : Prop} (h : xB p = 0) : ¬ p := fun hp => by rw [xB_t hp] at h; exact absurd h (by decide)
theorem xB_y {p : Prop} (h : ¬ xB p = 0) : p := Classical.byContradiction fun hp => h (xB_f hp)
set_option maxRecDepth 20000 in
theorem cPrinted {G : xG} (hg : xGood G) {M : xM} {n : Nat} (hn : M.1 = n) (hx : xn ≤ n) {c : Int32} : XC G Y1_20 (some .boolean) 0 0 0 [.int c] M (fun v M' => v = some (.int (xB (¬ c < 32 ∧ ¬ 126 < c))) ∧ M' = M) := by
  refine xc_of hg (by decide) (Nat.le_of_ble_eq_true rfl) (Or.inr (Or.inl ⟨rfl, rfl, fun v M' h => ⟨_, h.1, xB_01 _⟩⟩)) ?_
  refine xj_iload_n (i := 0) d1_20_0 rfl rfl ?_
  refine xj_bipush (v := 32) d1_20_1 (by decide) ?_
  refine xj_icmp_lt (tgt := 16) d1_20_3 rfl (fun hb1 => ?_) (fun hb1 => ?_)
  · refine xj_iconst (v := 0) d1_20_16 (by decide) ?_
    exact xj_ret d1_20_17 (by omega) (by omega) rfl ⟨(congrArg (fun z => some (Value.int z)) (by simp_all [xB])), rfl⟩
  · refine xj_iload_n (i := 0) d1_20_6 rfl rfl ?_
    refine xj_bipush (v := 126) d1_20_7 (by decide) ?_
    refine xj_icmp_gt (tgt := 16) d1_20_9 rfl (fun hb2 => ?_) (fun hb2 => ?_)
    · refine xj_iconst (v := 0) d1_20_16 (by decide) ?_
      exact xj_ret d1_20_17 (by omega) (by omega) rfl ⟨(congrArg (fun z => some (Value.int z)) (by simp_all [xB])), rfl⟩
    · refine xj_iconst (v := 1) d1_20_12 (by decide) ?_
      refine xj_goto (tgt := 17) d1_20_13 rfl ?_
      exact xj_ret d1_20_17 (by omega) (by omega) rfl ⟨(congrArg (fun z => some (Value.int z)) (by simp_all [xB])), rfl⟩
set_option maxRecDepth 20000 in
theorem cCharacter {G : xG} (hg : xGood G) {M : xM} {n : Nat} (hn : M.1 = n) (hx : xn ≤ n) {c : Int32} : XC G Y1_21 (some .boolean) 1 0 0 [.int c] M (fun v M' => v = some (.int (xB (c = 10 ∨ (¬ c < 32 ∧ ¬ 126 < c)))) ∧ M' = M) := by
  refine xc_of hg (by decide) (Nat.le_of_ble_eq_true rfl) (Or.inr (Or.inl ⟨rfl, rfl, fun v M' h => ⟨_, h.1, xB_01 _⟩⟩)) ?_
  refine xj_iload_n (i := 0) d1_21_0 rfl rfl ?_
  refine xj_bipush (v := 10) d1_21_1 (by decide) ?_
  refine xj_icmp_eq (tgt := 13) d1_21_3 rfl (fun hb1 => ?_) (fun hb1 => ?_)
  · refine xj_iconst (v := 1) d1_21_13 (by decide) ?_
    refine xj_goto (tgt := 18) d1_21_14 rfl ?_
    exact xj_ret d1_21_18 (by omega) (by omega) rfl ⟨(congrArg (fun z => some (Value.int z)) (by simp_all [xB])), rfl⟩
  · refine xj_iload_n (i := 0) d1_21_6 rfl rfl ?_
    refine xj_callS (rest := []) (As := [.int c]) (cPrinted hg (M := M) (n := n) (c := c) (show M.1 = n by omega) (by omega) ) d1_21_7 wd1_20 w131 (Or.inl w130) rfl rfl (Nat.le_of_ble_eq_true rfl) (by omega) (by omega) (by omega) ?_
    rintro v M' ⟨rfl, hm⟩
    subst M'
    refine xj_if_eq (tgt := 17) d1_21_10 rfl (fun hb2 => ?_) (fun hb2 => ?_)
    · refine xj_iconst (v := 0) d1_21_17 (by decide) ?_
      exact xj_ret d1_21_18 (by omega) (by omega) rfl ⟨(congrArg (fun z => some (Value.int z)) (by simp_all [xB])), rfl⟩
    · refine xj_iconst (v := 1) d1_21_13 (by decide) ?_
      refine xj_goto (tgt := 18) d1_21_14 rfl ?_
      exact xj_ret d1_21_18 (by omega) (by omega) rfl ⟨(congrArg (fun z => some (Value.int z)) (by simp_all [xB])), rfl⟩
set_option maxRecDepth 20000 in
theorem cName {G : xG} (hg : xGood G) {M : xM} {n : Nat} (hn : M.1 = n) (hx : xn ≤ n) {c : Int32} : XC G Y1_19 (some .boolean) 0 0 0 [.int c] M (fun v M' => v = some (.int (xB (¬ c < 0 ∧ ¬ 10 ≤ c))) ∧ M' = M) := by
  refine xc_of hg (by decide) (Nat.le_of_ble_eq_true rfl) (Or.inr (Or.inl ⟨rfl, rfl, fun v M' h => ⟨_, h.1, xB_01 _⟩⟩)) ?_
  refine xj_iload_n (i := 0) d1_19_0 rfl rfl ?_
  refine xj_if_lt (tgt := 14) d1_19_1 rfl (fun hb1 => ?_) (fun hb1 => ?_)
  · refine xj_iconst (v := 0) d1_19_14 (by decide) ?_
    exact xj_ret d1_19_15 (by omega) (by omega) rfl ⟨(congrArg (fun z => some (Value.int z)) (by simp_all [xB])), rfl⟩
  · refine xj_iload_n (i := 0) d1_19_4 rfl rfl ?_
    refine xj_bipush (v := 10) d1_19_5 (by decide) ?_
    refine xj_icmp_ge (tgt := 14) d1_19_7 rfl (fun hb2 => ?_) (fun hb2 => ?_)
    · refine xj_iconst (v := 0) d1_19_14 (by decide) ?_
      exact xj_ret d1_19_15 (by omega) (by omega) rfl ⟨(congrArg (fun z => some (Value.int z)) (by simp_all [xB])), rfl⟩
    · refine xj_iconst (v := 1) d1_19_10 (by decide) ?_
      refine xj_goto (tgt := 15) d1_19_11 rfl ?_
      exact xj_ret d1_19_15 (by omega) (by omega) rfl ⟨(congrArg (fun z => some (Value.int z)) (by simp_all [xB])), rfl⟩
set_option maxRecDepth 20000 in
theorem mCharacter {G : xG} (hg : xGood G) {M : xM} {n : Nat} (hn : M.1 = n) (hx : xn ≤ n) {c : Int32} : XC G Y14_2 (some .boolean) 0 0 0 [.int c] M (fun v M' => v = some (.int (xB (c = 10 ∨ (¬ c < 32 ∧ ¬ 126 < c)))) ∧ M' = M) := by
  refine xc_of hg (by decide) (Nat.le_of_ble_eq_true rfl) (Or.inr (Or.inl ⟨rfl, rfl, fun v M' h => ⟨_, h.1, xB_01 _⟩⟩)) ?_
  refine xj_iload_n (i := 0) d14_2_0 rfl rfl ?_
  refine xj_bipush (v := 10) d14_2_1 (by decide) ?_
  refine xj_icmp_eq (tgt := 18) d14_2_3 rfl (fun hb1 => ?_) (fun hb1 => ?_)
  · refine xj_iconst (v := 1) d14_2_18 (by decide) ?_
    refine xj_goto (tgt := 23) d14_2_19 rfl ?_
    exact xj_ret d14_2_23 (by omega) (by omega) rfl ⟨(congrArg (fun z => some (Value.int z)) (by simp_all [xB])), rfl⟩
  · refine xj_iload_n (i := 0) d14_2_6 rfl rfl ?_
    refine xj_bipush (v := 32) d14_2_7 (by decide) ?_
    refine xj_icmp_lt (tgt := 22) d14_2_9 rfl (fun hb2 => ?_) (fun hb2 => ?_)
    · refine xj_iconst (v := 0) d14_2_22 (by decide) ?_
      exact xj_ret d14_2_23 (by omega) (by omega) rfl ⟨(congrArg (fun z => some (Value.int z)) (by simp_all [xB])), rfl⟩
    · refine xj_iload_n (i := 0) d14_2_12 rfl rfl ?_
      refine xj_bipush (v := 126) d14_2_13 (by decide) ?_
      refine xj_icmp_gt (tgt := 22) d14_2_15 rfl (fun hb3 => ?_) (fun hb3 => ?_)
      · refine xj_iconst (v := 0) d14_2_22 (by decide) ?_
        exact xj_ret d14_2_23 (by omega) (by omega) rfl ⟨(congrArg (fun z => some (Value.int z)) (by simp_all [xB])), rfl⟩
      · refine xj_iconst (v := 1) d14_2_18 (by decide) ?_
        refine xj_goto (tgt := 23) d14_2_19 rfl ?_
        exact xj_ret d14_2_23 (by omega) (by omega) rfl ⟨(congrArg (fun z => some (Value.int z)) (by simp_all [xB])), rfl⟩
def p1X (M : xM) : Prop := M.2 16 = (.inr (0, [.ref 17, .int 0, .ref 18, .int 0, .null, .ref 19, .int 0, .ref 20, .ref 22, .int 0, .ref 23, .int 0, .int 0])) ∧ M.2 17 = (.inl (1, 40, .inl (fun _ => 0))) ∧ M.2 18 = (.inl (1, 24, .inl (fun _ => 0))) ∧ M.2 19 = (.inl (5, 10, .inr (.inr (.inr (.inr (fun _ => none)))))) ∧ M.2 20 = (.inr (1, [.int 0, .ref 21])) ∧ M.2 21 = (.inr (2, [.ref 1, .int 0, .int 0])) ∧ M.2 22 = (.inr (2, [.ref 1, .int 0, .int 0])) ∧ M.2 23 = (.inl (0, 410, .inl (fun _ => 0)))
set_option maxRecDepth 20000 in
set_option maxHeartbeats 4000000 in
theorem px_write {G : xG} (hg : xGood G) (hxn : xn = 16) (hZ : va_Z "java/util/ArrayList" "DEFAULTCAPACITY_EMPTY_ELEMENTDATA" "[Ljava/lang/Object;" (.ref (xa G 1)) (fun q => (xs G).heap.size ≤ q) (xs G) (xs G).heap) (hT : va_T (.object "java/lang/Object") (xa G 1) 0 (fun _ => .null) (fun q => (xs G).heap.size ≤ q) (xs G) (xs G).heap) {M : xM} (hn : M.1 = 52) (hF : p1X M) {c : Int32} (hcn : vp_nar .char c = c) : XC G Y1_2 (some .boolean) 2 0 0 [.ref 16, .int c] M (fun v M' => v = some (.int (xB (c = 10 ∨ (¬ c < 32 ∧ ¬ 126 < c)))) ∧ 52 ≤ M'.1 ∧ ∀ j, 24 ≤ j → j < 52 → M'.2 j = M.2 j) := by
  obtain ⟨h_16, h_17, h_18, h_19, h_20, h_21, h_22, h_23⟩ := hF
  refine xc_of hg (by decide) (Nat.le_of_ble_eq_true rfl) (Or.inr (Or.inl ⟨rfl, rfl, fun v M' h => ⟨_, h.1, xB_01 _⟩⟩)) ?_
  refine xj_iload_n (i := 1) d1_2_0 rfl rfl ?_
  refine xj_callS (rest := []) (As := [.int c]) (cCharacter hg (M := M) (n := 52) (c := c) (show M.1 = 52 by omega) (by omega) ) d1_2_1 wd1_21 w128 (Or.inl w127) rfl rfl (Nat.le_of_ble_eq_true rfl) (by omega) (by omega) (by omega) ?_
  rintro v M' ⟨rfl, hm⟩
  subst M'
  refine xj_if_eq (tgt := 16) d1_2_4 rfl (fun hb => ?_) (fun hb => ?_)
  · refine xj_iconst (v := 0) d1_2_16 (by decide) ?_
    exact xj_ret d1_2_17 (by omega) (by omega) rfl ⟨(congrArg (fun z => some (Value.int z)) hb.symm), (show 52 ≤ M.1 by omega), fun j hj1 hj2 => rfl⟩
  · refine xj_aload_n (i := 0) d1_2_7 rfl rfl ?_
    refine xj_get d1_2_8 f1_46_0 h_16 (by omega) (show 16 < M.1 by omega) rfl ?_
    refine xj_bipush (v := 40) d1_2_11 (by decide) ?_
    refine xj_icmp_lt (tgt := 18) d1_2_13 rfl (fun _ => ?_) (fun h => absurd (by decide) h)
    refine xj_aload_n (i := 0) d1_2_18 rfl rfl ?_
    refine xj_get d1_2_19 f1_9_0 h_16 (by omega) (show 16 < M.1 by omega) rfl ?_
    refine xj_aload_n (i := 0) d1_2_22 rfl rfl ?_
    refine xj_get d1_2_23 f1_46_0 h_16 (by omega) (show 16 < M.1 by omega) rfl ?_
    refine xj_iload_n (i := 1) d1_2_26 rfl rfl ?_
    refine xj_castore (j := 0) (x' := c) d1_2_27 h_17 (by omega) (show 17 < M.1 by omega) (vp_in_iff.mpr (by decide)) (by decide) hcn ?_
    refine xj_abs_set (fun M1 hs1 ha1 ho1 => ?_)
    refine xj_aload_n (i := 0) d1_2_28 rfl rfl ?_
    refine xj_dup d1_2_29 rfl ?_
    refine xj_get d1_2_30 f1_46_0 ((ho1 16 (by omega)).trans h_16) (by omega) (show 16 < M1.1 by omega) rfl ?_
    refine xj_iconst (v := 1) d1_2_33 (by decide) ?_
    refine xj_iadd (v := 1) d1_2_34 (by decide) ?_
    refine xj_put (a := 16) (fs' := [.ref 17, .int 1, .ref 18, .int 0, .null, .ref 19, .int 0, .ref 20, .ref 22, .int 0, .ref 23, .int 0, .int 0]) d1_2_35 f1_46_0 ((ho1 16 (by omega)).trans h_16) (by omega) (show 16 < M1.1 by omega) (Nat.le_of_ble_eq_true rfl) rfl rfl rfl ?_
    refine xj_abs_set (fun M2 hs2 ha2 ho2 => ?_)
    refine xj_iconst (v := 1) d1_2_38 (by decide) ?_
    exact xj_ret d1_2_39 (by omega) (by omega) rfl ⟨(congrArg (fun z => some (Value.int z)) (xB_t (xB_y hb)).symm), (show 52 ≤ M2.1 by omega), fun j hj1 hj2 => ((ho2 j (by omega)).trans (ho1 j (by omega)))⟩
set_option maxRecDepth 20000 in
set_option maxHeartbeats 4000000 in
theorem px_type {G : xG} (hg : xGood G) (hxn : xn = 16) (hZ : va_Z "java/util/ArrayList" "DEFAULTCAPACITY_EMPTY_ELEMENTDATA" "[Ljava/lang/Object;" (.ref (xa G 1)) (fun q => (xs G).heap.size ≤ q) (xs G) (xs G).heap) (hT : va_T (.object "java/lang/Object") (xa G 1) 0 (fun _ => .null) (fun q => (xs G).heap.size ≤ q) (xs G) (xs G).heap) {M : xM} (hn : M.1 = 52) (hF : p1X M) {c : Int32} (hcn : vp_nar .char c = c) : XC G Y1_6 (some .boolean) 1 0 0 [.ref 16, .int c] M (fun v M' => v = some (.int (xB (¬ c < 32 ∧ ¬ 126 < c))) ∧ 52 ≤ M'.1 ∧ ∀ j, 24 ≤ j → j < 52 → M'.2 j = M.2 j) := by
  obtain ⟨h_16, h_17, h_18, h_19, h_20, h_21, h_22, h_23⟩ := hF
  refine xc_of hg (by decide) (Nat.le_of_ble_eq_true rfl) (Or.inr (Or.inl ⟨rfl, rfl, fun v M' h => ⟨_, h.1, xB_01 _⟩⟩)) ?_
  refine xj_iload_n (i := 1) d1_6_0 rfl rfl ?_
  refine xj_callS (rest := []) (As := [.int c]) (cPrinted hg (M := M) (n := 52) (c := c) (show M.1 = 52 by omega) (by omega) ) d1_6_1 wd1_20 w131 (Or.inl w130) rfl rfl (Nat.le_of_ble_eq_true rfl) (by omega) (by omega) (by omega) ?_
  rintro v M' ⟨rfl, hm⟩
  subst M'
  refine xj_if_eq (tgt := 16) d1_6_4 rfl (fun hb => ?_) (fun hb => ?_)
  · refine xj_iconst (v := 0) d1_6_16 (by decide) ?_
    exact xj_ret d1_6_17 (by omega) (by omega) rfl ⟨(congrArg (fun z => some (Value.int z)) hb.symm), (show 52 ≤ M.1 by omega), fun j hj1 hj2 => rfl⟩
  · refine xj_aload_n (i := 0) d1_6_7 rfl rfl ?_
    refine xj_get d1_6_8 f1_82_0 h_16 (by omega) (show 16 < M.1 by omega) rfl ?_
    refine xj_bipush (v := 24) d1_6_11 (by decide) ?_
    refine xj_icmp_lt (tgt := 18) d1_6_13 rfl (fun _ => ?_) (fun h => absurd (by decide) h)
    refine xj_aload_n (i := 0) d1_6_18 rfl rfl ?_
    refine xj_get d1_6_19 f1_13_0 h_16 (by omega) (show 16 < M.1 by omega) rfl ?_
    refine xj_aload_n (i := 0) d1_6_22 rfl rfl ?_
    refine xj_get d1_6_23 f1_82_0 h_16 (by omega) (show 16 < M.1 by omega) rfl ?_
    refine xj_iload_n (i := 1) d1_6_26 rfl rfl ?_
    refine xj_castore (j := 0) (x' := c) d1_6_27 h_18 (by omega) (show 18 < M.1 by omega) (vp_in_iff.mpr (by decide)) (by decide) hcn ?_
    refine xj_abs_set (fun M1 hs1 ha1 ho1 => ?_)
    refine xj_aload_n (i := 0) d1_6_28 rfl rfl ?_
    refine xj_dup d1_6_29 rfl ?_
    refine xj_get d1_6_30 f1_82_0 ((ho1 16 (by omega)).trans h_16) (by omega) (show 16 < M1.1 by omega) rfl ?_
    refine xj_iconst (v := 1) d1_6_33 (by decide) ?_
    refine xj_iadd (v := 1) d1_6_34 (by decide) ?_
    refine xj_put (a := 16) (fs' := [.ref 17, .int 0, .ref 18, .int 1, .null, .ref 19, .int 0, .ref 20, .ref 22, .int 0, .ref 23, .int 0, .int 0]) d1_6_35 f1_82_0 ((ho1 16 (by omega)).trans h_16) (by omega) (show 16 < M1.1 by omega) (Nat.le_of_ble_eq_true rfl) rfl rfl rfl ?_
    refine xj_abs_set (fun M2 hs2 ha2 ho2 => ?_)
    refine xj_aload_n (i := 0) d1_6_38 rfl rfl ?_
    refine xj_null d1_6_39 ?_
    refine xj_put (a := 16) (fs' := [.ref 17, .int 0, .ref 18, .int 1, .null, .ref 19, .int 0, .ref 20, .ref 22, .int 0, .ref 23, .int 0, .int 0]) d1_6_40 f1_85_0 ha2 (by omega) (show 16 < M2.1 by omega) (Nat.le_of_ble_eq_true rfl) rfl rfl rfl ?_
    refine xj_abs_set (fun M3 hs3 ha3 ho3 => ?_)
    refine xj_iconst (v := 1) d1_6_43 (by decide) ?_
    exact xj_ret d1_6_44 (by omega) (by omega) rfl ⟨(congrArg (fun z => some (Value.int z)) (xB_t (xB_y hb)).symm), (show 52 ≤ M3.1 by omega), fun j hj1 hj2 => ((ho3 j (by omega)).trans ((ho2 j (by omega)).trans (ho1 j (by omega))))⟩
set_option maxRecDepth 20000 in
theorem cRetire0 {G : xG} (hg : xGood G) {M : xM} {n : Nat} (hn : M.1 = n) (hx : xn ≤ n) {a : Nat} {na : Nat} {c : Int32} {f0 : Value} {f1 : Value} {f2 : Value} {f3 : Value} {f4 : Value} {f5 : Value} {f6 : Value} {f7 : Value} {f8 : Value} {f9 : Value} {f10 : Value} {f11 : Value} (h1_a : xn ≤ a) (h2_a : a < n) (h_a : M.2 a = (.inr (0, [f0, f1, f2, f3, f4, .ref na, f5, f6, f7, f8, f9, f10, f11]))) (h1_na : xn ≤ na) (h2_na : na < n) (h_na : M.2 na = (.inl (5, 10, .inr (.inr (.inr (.inr (fun _ => none))))))) (hin : vp_in c 10) : XC G Y1_23 (some .boolean) 0 0 0 [.ref a, .int c] M (fun v M' => v = some (.int 0) ∧ M' = M) := by
  refine xc_of hg (by decide) (Nat.le_of_ble_eq_true rfl) (Or.inr (Or.inl ⟨rfl, rfl, fun v M' h => ⟨_, h.1, Or.inl rfl⟩⟩)) ?_
  refine xj_aload_n (i := 0) d1_23_0 rfl rfl ?_
  refine xj_get d1_23_1 f1_18_0 h_a (by omega) (show a < M.1 by omega) rfl ?_
  refine xj_iload_n (i := 1) d1_23_4 rfl rfl ?_
  refine xj_aaload (j := c.toNatClampNeg) (v := .null) d1_23_5 h_na (by decide) rfl (by omega) (show na < M.1 by omega) hin rfl rfl ?_
  refine xj_astore_nN (i := 2) (L' := [(2, .null), (0, .ref a), (1, .int c)]) d1_23_6 rfl (by decide) rfl ?_
  refine xj_aload_nN (i := 2) d1_23_7 rfl rfl ?_
  refine xj_ifnonnullN d1_23_8 ?_
  refine xj_iconst (v := 0) d1_23_11 (by decide) ?_
  exact xj_ret d1_23_12 (by omega) (by omega) rfl ⟨rfl, rfl⟩
set_option maxRecDepth 20000 in
set_option maxHeartbeats 4000000 in
theorem px_drop {G : xG} (hg : xGood G) (hxn : xn = 16) (hZ : va_Z "java/util/ArrayList" "DEFAULTCAPACITY_EMPTY_ELEMENTDATA" "[Ljava/lang/Object;" (.ref (xa G 1)) (fun q => (xs G).heap.size ≤ q) (xs G) (xs G).heap) (hT : va_T (.object "java/lang/Object") (xa G 1) 0 (fun _ => .null) (fun q => (xs G).heap.size ≤ q) (xs G) (xs G).heap) {M : xM} (hn : M.1 = 52) (hF : p1X M) {c : Int32} : XC G Y1_4 (some .boolean) 1 0 0 [.ref 16, .int c] M (fun v M' => v = some (.int 0) ∧ 52 ≤ M'.1 ∧ ∀ j, 24 ≤ j → j < 52 → M'.2 j = M.2 j) := by
  obtain ⟨h_16, h_17, h_18, h_19, h_20, h_21, h_22, h_23⟩ := hF
  refine xc_of hg (by decide) (Nat.le_of_ble_eq_true rfl) (Or.inr (Or.inl ⟨rfl, rfl, fun v M' h => ⟨_, h.1, Or.inl rfl⟩⟩)) ?_
  refine xj_iload_n (i := 1) d1_4_0 rfl rfl ?_
  refine xj_callS (rest := []) (As := [.int c]) (cName hg (M := M) (n := 52) (c := c) (show M.1 = 52 by omega) (by omega) ) d1_4_1 wd1_19 w138 (Or.inl w137) rfl rfl (Nat.le_of_ble_eq_true rfl) (by omega) (by omega) (by omega) ?_
  rintro v M' ⟨rfl, hm⟩
  subst M'
  refine xj_if_eq (tgt := 19) d1_4_4 rfl (fun hb => ?_) (fun hb => ?_)
  · refine xj_iconst (v := 0) d1_4_19 (by decide) ?_
    exact xj_ret d1_4_20 (by omega) (by omega) rfl ⟨rfl, (show 52 ≤ M.1 by omega), fun j hj1 hj2 => rfl⟩
  · refine xj_aload_n (i := 0) d1_4_7 rfl rfl ?_
    refine xj_iload_n (i := 1) d1_4_8 rfl rfl ?_
    refine xj_callV (rest := []) (As := [.int c]) (b := 16) (cRetire0 hg (M := M) (n := 52) (a := 16) (na := 19) (c := c) (f0 := .ref 17) (f1 := .int 0) (f2 := .ref 18) (f3 := .int 0) (f4 := .null) (f5 := .int 0) (f6 := .ref 20) (f7 := .ref 22) (f8 := .int 0) (f9 := .ref 23) (f10 := .int 0) (f11 := .int 0) (show M.1 = 52 by omega) (by omega) (by omega) (by omega) h_16 (by omega) (by omega) h_19 (xname_in (xB_y hb))) d1_4_9 wd1_23 h_16 (by omega) (show 16 < M.1 by omega) rfl s1_23 w142 (Or.inl w140) rfl rfl (Nat.le_of_ble_eq_true rfl) (by omega) (by omega) (by omega) ?_
    rintro v M' ⟨rfl, hm⟩
    subst M'
    refine xj_if_eq (tgt := 19) d1_4_12 rfl (fun _ => ?_) (fun h => absurd (by decide) h)
    refine xj_iconst (v := 0) d1_4_19 (by decide) ?_
    exact xj_ret d1_4_20 (by omega) (by omega) rfl ⟨rfl, (show 52 ≤ M.1 by omega), fun j hj1 hj2 => rfl⟩
set_option maxRecDepth 20000 in
set_option maxHeartbeats 4000000 in
theorem px_length {G : xG} (hg : xGood G) (hxn : xn = 16) (hZ : va_Z "java/util/ArrayList" "DEFAULTCAPACITY_EMPTY_ELEMENTDATA" "[Ljava/lang/Object;" (.ref (xa G 1)) (fun q => (xs G).heap.size ≤ q) (xs G) (xs G).heap) (hT : va_T (.object "java/lang/Object") (xa G 1) 0 (fun _ => .null) (fun q => (xs G).heap.size ≤ q) (xs G) (xs G).heap) {M : xM} (hn : M.1 = 52) (hF : p1X M) {c : Int32} : XC G Y1_5 (some .int) 1 0 0 [.ref 16, .int c] M (fun v M' => v = some (.int (-1)) ∧ 52 ≤ M'.1 ∧ ∀ j, 24 ≤ j → j < 52 → M'.2 j = M.2 j) := by
  obtain ⟨h_16, h_17, h_18, h_19, h_20, h_21, h_22, h_23⟩ := hF
  refine xc_of hg (by decide) (Nat.le_of_ble_eq_true rfl) (Or.inl ⟨rfl, rfl, fun v M' h => ⟨_, h.1⟩⟩) ?_
  refine xj_iload_n (i := 1) d1_5_0 rfl rfl ?_
  refine xj_callS (rest := []) (As := [.int c]) (cName hg (M := M) (n := 52) (c := c) (show M.1 = 52 by omega) (by omega) ) d1_5_1 wd1_19 w138 (Or.inl w137) rfl rfl (Nat.le_of_ble_eq_true rfl) (by omega) (by omega) (by omega) ?_
  rintro v M' ⟨rfl, hm⟩
  subst M'
  refine xj_if_eq (tgt := 16) d1_5_4 rfl (fun hb => ?_) (fun hb => ?_)
  · refine xj_iconst (v := (-1)) d1_5_16 (by decide) ?_
    exact xj_ret d1_5_17 (by omega) (by omega) rfl ⟨rfl, (show 52 ≤ M.1 by omega), fun j hj1 hj2 => rfl⟩
  · refine xj_aload_n (i := 0) d1_5_7 rfl rfl ?_
    refine xj_get d1_5_8 f1_18_0 h_16 (by omega) (show 16 < M.1 by omega) rfl ?_
    refine xj_iload_n (i := 1) d1_5_11 rfl rfl ?_
    refine xj_aaload (j := c.toNatClampNeg) (v := .null) d1_5_12 h_19 (by decide) rfl (by omega) (show 19 < M.1 by omega) (xname_in (xB_y hb)) rfl rfl ?_
    refine xj_ifnonnullN d1_5_13 ?_
    refine xj_iconst (v := (-1)) d1_5_16 (by decide) ?_
    exact xj_ret d1_5_17 (by omega) (by omega) rfl ⟨rfl, (show 52 ≤ M.1 by omega), fun j hj1 hj2 => rfl⟩
set_option maxRecDepth 20000 in
set_option maxHeartbeats 4000000 in
theorem px_back {G : xG} (hg : xGood G) (hxn : xn = 16) (hZ : va_Z "java/util/ArrayList" "DEFAULTCAPACITY_EMPTY_ELEMENTDATA" "[Ljava/lang/Object;" (.ref (xa G 1)) (fun q => (xs G).heap.size ≤ q) (xs G) (xs G).heap) (hT : va_T (.object "java/lang/Object") (xa G 1) 0 (fun _ => .null) (fun q => (xs G).heap.size ≤ q) (xs G) (xs G).heap) {M : xM} (hn : M.1 = 52) (hF : p1X M)  : XC G Y1_7 (some .int) 0 0 0 [.ref 16] M (fun v M' => v = some (.int 0) ∧ 52 ≤ M'.1 ∧ ∀ j, 24 ≤ j → j < 52 → M'.2 j = M.2 j) := by
  obtain ⟨h_16, h_17, h_18, h_19, h_20, h_21, h_22, h_23⟩ := hF
  refine xc_of hg (by decide) (Nat.le_of_ble_eq_true rfl) (Or.inl ⟨rfl, rfl, fun v M' h => ⟨_, h.1⟩⟩) ?_
  refine xj_aload_n (i := 0) d1_7_0 rfl rfl ?_
  refine xj_get d1_7_1 f1_82_0 h_16 (by omega) (show 16 < M.1 by omega) rfl ?_
  refine xj_if_le (tgt := 22) d1_7_4 rfl (fun _ => ?_) (fun h => absurd (by decide) h)
  refine xj_aload_n (i := 0) d1_7_22 rfl rfl ?_
  refine xj_get d1_7_23 f1_82_0 h_16 (by omega) (show 16 < M.1 by omega) rfl ?_
  exact xj_ret d1_7_26 (by omega) (by omega) rfl ⟨rfl, (show 52 ≤ M.1 by omega), fun j hj1 hj2 => rfl⟩
set_option maxRecDepth 20000 in
theorem cIsEmpty0 {G : xG} (hg : xGood G) {M : xM} {n : Nat} (hn : M.1 = n) (hx : xn ≤ n) {a : Nat} {el : Value} {mo : Int32} (h1_a : xn ≤ a) (h2_a : a < n) (h_a : M.2 a = (.inr (2, [el, .int 0, .int mo]))) : XC G Y28_9 (some .boolean) 0 0 0 [.ref a] M (fun v M' => v = some (.int 1) ∧ M' = M) := by
  refine xc_of hg (by decide) (Nat.le_of_ble_eq_true rfl) (Or.inr (Or.inl ⟨rfl, rfl, fun v M' h => ⟨_, h.1, Or.inr rfl⟩⟩)) ?_
  refine xj_aload_n (i := 0) d28_9_0 rfl rfl ?_
  refine xj_get d28_9_1 f28_48_2 h_a (by omega) (show a < M.1 by omega) rfl ?_
  refine xj_if_ne (tgt := 11) d28_9_4 rfl (fun h => absurd (by decide) h) (fun _ => ?_)
  refine xj_iconst (v := 1) d28_9_7 (by decide) ?_
  refine xj_goto (tgt := 12) d28_9_8 rfl ?_
  exact xj_ret d28_9_12 (by omega) (by omega) rfl ⟨rfl, rfl⟩
set_option maxRecDepth 20000 in
theorem cIsBare0 {G : xG} (hg : xGood G) {M : xM} {n : Nat} (hn : M.1 = n) (hx : xn ≤ n) {a : Nat} {l : Nat} {el : Value} {mo : Int32} {x1 : Value} {x2 : Value} (h1_a : xn ≤ a) (h2_a : a < n) (h_a : M.2 a = (.inr (6, [.ref l, x1, x2]))) (h1_l : xn ≤ l) (h2_l : l < n) (h_l : M.2 l = (.inr (2, [el, .int 0, .int mo]))) : XC G Y3_2 (some .boolean) 1 0 0 [.ref a] M (fun v M' => v = some (.int 1) ∧ M' = M) := by
  refine xc_of hg (by decide) (Nat.le_of_ble_eq_true rfl) (Or.inr (Or.inl ⟨rfl, rfl, fun v M' h => ⟨_, h.1, Or.inr rfl⟩⟩)) ?_
  refine xj_aload_n (i := 0) d3_2_0 rfl rfl ?_
  refine xj_get d3_2_1 f3_10_6 h_a (by omega) (show a < M.1 by omega) rfl ?_
  refine xj_callV (rest := []) (As := []) (b := l) (cIsEmpty0 hg (M := M) (n := n) (a := l) (el := el) (mo := mo) (show M.1 = n by omega) (by omega) (by omega) (by omega) h_l) d3_2_4 wd28_9 h_l (by omega) (show l < M.1 by omega) rfl w458 w457 (Or.inl w456) rfl rfl (Nat.le_of_ble_eq_true rfl) (by omega) (by omega) (by omega) ?_
  rintro v M' ⟨rfl, hm⟩
  subst M'
  exact xj_ret d3_2_7 (by omega) (by omega) rfl ⟨rfl, rfl⟩
set_option maxRecDepth 20000 in
theorem cFaultEnd0 {G : xG} (hg : xGood G) {M : xM} {n : Nat} (hn : M.1 = n) (hx : xn ≤ n) {a : Nat} {g : Nat} {br : Nat} {l : Nat} {pv : Value} {gv : Value} {bl : Value} {wo : Value} {x1 : Value} {x2 : Value} {el : Value} {mo : Int32} (h1_a : xn ≤ a) (h2_a : a < n) (h_a : M.2 a = (.inr (4, [.ref g, .int 0, pv, .int 0, .int 0, gv, .int 0]))) (h1_g : xn ≤ g) (h2_g : g < n) (h_g : M.2 g = (.inr (5, [bl, .ref br, wo]))) (h1_br : xn ≤ br) (h2_br : br < n) (h_br : M.2 br = (.inr (6, [.ref l, x1, x2]))) (h1_l : xn ≤ l) (h2_l : l < n) (h_l : M.2 l = (.inr (2, [el, .int 0, .int mo]))) : XC G Y8_3 (some .int) 2 0 0 [.ref a] M (fun v M' => v = some (.int 1) ∧ M' = M) := by
  refine xc_of hg (by decide) (Nat.le_of_ble_eq_true rfl) (Or.inl ⟨rfl, rfl, fun v M' h => ⟨_, h.1⟩⟩) ?_
  refine xj_aload_n (i := 0) d8_3_0 rfl rfl ?_
  refine xj_get d8_3_1 f8_47_4 h_a (by omega) (show a < M.1 by omega) rfl ?_
  refine xj_if_le (tgt := 9) d8_3_4 rfl (fun _ => ?_) (fun h => absurd (by decide) h)
  refine xj_aload_n (i := 0) d8_3_9 rfl rfl ?_
  refine xj_get d8_3_10 f8_12_4 h_a (by omega) (show a < M.1 by omega) rfl ?_
  refine xj_get d8_3_13 f8_50_5 h_g (by omega) (show g < M.1 by omega) rfl ?_
  refine xj_callV (rest := []) (As := []) (b := br) (cIsBare0 hg (M := M) (n := n) (a := br) (l := l) (el := el) (mo := mo) (x1 := x1) (x2 := x2) (show M.1 = n by omega) (by omega) (by omega) (by omega) h_br (by omega) (by omega) h_l) d8_3_16 wd3_2 h_br (by omega) (show br < M.1 by omega) rfl w454 w453 (Or.inl w452) rfl rfl (Nat.le_of_ble_eq_true rfl) (by omega) (by omega) (by omega) ?_
  rintro v M' ⟨rfl, hm⟩
  subst M'
  refine xj_if_eq (tgt := 24) d8_3_19 rfl (fun h => absurd h (by decide)) (fun _ => ?_)
  refine xj_iconst (v := 1) d8_3_22 (by decide) ?_
  exact xj_ret d8_3_23 (by omega) (by omega) rfl ⟨rfl, rfl⟩
set_option maxRecDepth 20000 in
theorem cRead0 {G : xG} (hg : xGood G) {M : xM} {n : Nat} (hn : M.1 = n) (hx : xn ≤ n) {a : Nat} {g : Nat} {br : Nat} {l : Nat} {pv : Value} {gv : Value} {bl : Value} {wo : Value} {x1 : Value} {x2 : Value} {el : Value} {mo : Int32} (h1_a : xn ≤ a) (h2_a : a < n) (h_a : M.2 a = (.inr (4, [.ref g, .int 0, pv, .int 0, .int 0, gv, .int 0]))) (h1_g : xn ≤ g) (h2_g : g < n) (h_g : M.2 g = (.inr (5, [bl, .ref br, wo]))) (h1_br : xn ≤ br) (h2_br : br < n) (h_br : M.2 br = (.inr (6, [.ref l, x1, x2]))) (h1_l : xn ≤ l) (h2_l : l < n) (h_l : M.2 l = (.inr (2, [el, .int 0, .int mo]))) : XC G Y8_2 none 3 0 0 [.ref a] M (fun v M' => v = none ∧ M'.1 = n ∧ (∀ j, j < n → j ≠ a → M'.2 j = M.2 j) ∧ M'.2 a = (.inr (4, [.ref g, .int 1, pv, .int 0, .int 0, gv, .int 0]))) := by
  refine xc_of hg (by decide) (Nat.le_of_ble_eq_true rfl) (Or.inr (Or.inr (Or.inr (Or.inr (Or.inl ⟨rfl, rfl, fun v M' h => h.1⟩))))) ?_
  refine xj_iconst (v := 0) d8_2_0 (by decide) ?_
  refine xj_istore_n (i := 1) (L' := [(1, .int 0), (0, .ref a)]) d8_2_1 rfl (by decide) rfl ?_
  refine xj_iload_n (i := 1) d8_2_2 rfl rfl ?_
  refine xj_aload_n (i := 0) d8_2_3 rfl rfl ?_
  refine xj_get d8_2_4 f8_26_4 h_a (by omega) (show a < M.1 by omega) rfl ?_
  refine xj_icmp_ge (tgt := 59) d8_2_7 rfl (fun _ => ?_) (fun h => absurd (by decide) h)
  refine xj_aload_n (i := 0) d8_2_59 rfl rfl ?_
  refine xj_get d8_2_60 f8_33_4 h_a (by omega) (show a < M.1 by omega) rfl ?_
  refine xj_if_ne (tgt := 74) d8_2_63 rfl (fun h => absurd (by decide) h) (fun _ => ?_)
  refine xj_aload_n (i := 0) d8_2_66 rfl rfl ?_
  refine xj_aload_n (i := 0) d8_2_67 rfl rfl ?_
  refine xj_callV (rest := [.ref a]) (As := []) (b := a) (cFaultEnd0 hg (M := M) (n := n) (a := a) (g := g) (br := br) (l := l) (pv := pv) (gv := gv) (bl := bl) (wo := wo) (x1 := x1) (x2 := x2) (el := el) (mo := mo) (show M.1 = n by omega) (by omega) (by omega) (by omega) h_a (by omega) (by omega) h_g (by omega) (by omega) h_br (by omega) (by omega) h_l) d8_2_68 wd8_3 h_a (by omega) (show a < M.1 by omega) rfl s8_3 w708 (Or.inl w706) rfl rfl (Nat.le_of_ble_eq_true rfl) (by omega) (by omega) (by omega) ?_
  rintro v M' ⟨rfl, hm⟩
  subst M'
  refine xj_put (a := a) (fs' := [.ref g, .int 1, pv, .int 0, .int 0, gv, .int 0]) d8_2_71 f8_33_4 h_a (by omega) (show a < M.1 by omega) (Nat.le_of_ble_eq_true rfl) rfl rfl rfl ?_
  refine xj_abs_set (fun M1 hs1 ha1 ho1 => ?_)
  refine xj_aload_n (i := 0) d8_2_74 rfl rfl ?_
  refine xj_get d8_2_75 f8_33_4 ha1 (by omega) (show a < M1.1 by omega) rfl ?_
  refine xj_if_ne (tgt := 88) d8_2_78 rfl (fun _ => ?_) (fun h => absurd h (by decide))
  exact xj_ret d8_2_88 (by omega) (by omega) rfl ⟨rfl, (show M1.1 = n by omega), (fun j hj hj0 => (ho1 j (by omega))), ha1⟩
set_option maxRecDepth 20000 in
theorem cPat0 {G : xG} (hg : xGood G) (hZ : va_Z "java/util/ArrayList" "DEFAULTCAPACITY_EMPTY_ELEMENTDATA" "[Ljava/lang/Object;" (.ref (xa G 1)) (fun q => (xs G).heap.size ≤ q) (xs G) (xs G).heap) (hT : va_T (.object "java/lang/Object") (xa G 1) 0 (fun _ => .null) (fun q => (xs G).heap.size ≤ q) (xs G) (xs G).heap) {M : xM} {n : Nat} (hn : M.1 = n) (hx : xn ≤ n) {a : Nat} {pa : Nat} {f0 : Value} {f1 : Value} {f2 : Value} {f3 : Value} {f4 : Value} {f5 : Value} {f6 : Value} {f7 : Value} {f8 : Value} {f9 : Value} (h1_a : xn ≤ a) (h2_a : a < n) (h_a : M.2 a = (.inr (0, [f0, f1, .ref pa, .int 0, .null, f2, f3, f4, f5, f6, f7, f8, f9]))) : XC G Y1_28 (some (.object "TrigramLines$Reader")) 9 13 114 [.ref a] M (fun v M' => v = some (.ref n) ∧ M'.1 = n + 13 ∧ (∀ j, j < n → j ≠ a → M'.2 j = M.2 j) ∧ M'.2 a = (.inr (0, [f0, f1, .ref pa, .int 0, .ref n, f2, f3, f4, f5, f6, f7, f8, f9])) ∧ M'.2 n = (.inr (4, [.ref (n + 1), .int 1, .ref pa, .int 0, .int 0, (.ref (n + 12)), .int 0])) ∧ M'.2 (n + 1) = (.inr (5, [.ref (n + 2), .ref (n + 3), .null])) ∧ M'.2 (n + 2) = (.inr (2, [.ref (n + 11), .int 1, .int 1])) ∧ M'.2 (n + 3) = (.inr (6, [.ref (n + 4), .ref (n + 5), .null])) ∧ M'.2 (n + 4) = (.inr (2, [.ref 1, .int 0, .int 0])) ∧ M'.2 (n + 5) = (.inr (7, [.ref (n + 6), .ref (n + 7), .ref (n + 8), .int 1])) ∧ M'.2 (n + 6) = (.inr (2, [.ref 1, .int 0, .int 0])) ∧ M'.2 (n + 7) = (.inr (2, [.ref 1, .int 0, .int 0])) ∧ M'.2 (n + 8) = (.inr (8, [.ref (n + 9), .ref (n + 10), .int 1])) ∧ M'.2 (n + 9) = (.inl (1, 60, .inl (fun _ => 0))) ∧ M'.2 (n + 10) = (.inl (0, 5, .inl (fun _ => 0))) ∧ M'.2 (n + 11) = (.inl (4, 10, .inr (.inr (.inr (.inr (va_up (fun _ => none) 0 (some (n + 3)))))))) ∧ M'.2 (n + 12) = (.inl (6, 7, .inr (.inr (.inr (.inr (va_up (fun _ => none) 0 (some (n + 1))))))))) := by
  refine xc_of hg (by decide) (Nat.le_of_ble_eq_true rfl) (Or.inr (Or.inr (Or.inr (Or.inr (Or.inr ⟨⟨_, rfl, Or.inl ⟨_, rfl⟩⟩, rfl, fun v M' h => Or.inr ⟨_, h.1⟩⟩))))) ?_
  refine xj_aload_n (i := 0) d1_28_0 rfl rfl ?_
  refine xj_get d1_28_1 f1_85_0 h_a (by omega) (show a < M.1 by omega) rfl ?_
  refine xj_ifnonnullN d1_28_4 ?_
  refine xj_aload_n (i := 0) d1_28_7 rfl rfl ?_
  refine xj_new (na := n) d1_28_8 n1_94 (show M.1 = n by omega) (by omega) (by omega) ?_
  refine xj_abs_push (show M.1 = n by omega) (fun M1 hs1 ha1 ho1 => ?_)
  refine xj_dup d1_28_11 rfl ?_
  refine xj_aload_n (i := 0) d1_28_12 rfl rfl ?_
  refine xj_get d1_28_13 f1_13_0 ((ho1 a (by omega)).trans h_a) (by omega) (show a < M1.1 by omega) rfl ?_
  refine xj_aload_n (i := 0) d1_28_16 rfl rfl ?_
  refine xj_get d1_28_17 f1_82_0 ((ho1 a (by omega)).trans h_a) (by omega) (show a < M1.1 by omega) rfl ?_
  refine xj_callI (rest := [.ref n, .ref a]) (As := [.ref pa, .int 0]) (b := n) (cReader hg hZ hT (M := M1) (n := n + 1) (a := n) (pa := pa) (en := 0) (show M1.1 = n + 1 by omega) (by omega) (by omega) (by omega) ha1) d1_28_20 wd8_1 rfl w307 (Or.inl w306) rfl rfl (Nat.le_of_ble_eq_true rfl) (by omega) (by omega) (by omega) ?_
  rintro v M2 ⟨rfl, hs2, ho2, hf2_0, hf2_1, hf2_2, hf2_3, hf2_4, hf2_5, hf2_6, hf2_7, hf2_8, hf2_9, hf2_10, hf2_11, hf2_12⟩
  replace hs2 : M2.1 = n + 13 := hs2
  replace hf2_0 : M2.2 n = (.inr (4, [.ref (n + 1), .int 0, .ref pa, .int 0, .int 0, .ref (n + 12), .int 0])) := hf2_0
  replace hf2_1 : M2.2 (n + 1) = (.inr (5, [.ref (n + 2), .ref (n + 3), .null])) := hf2_1
  replace hf2_2 : M2.2 (n + 2) = (.inr (2, [.ref (n + 11), .int 1, .int 1])) := hf2_2
  replace hf2_3 : M2.2 (n + 3) = (.inr (6, [.ref (n + 4), .ref (n + 5), .null])) := hf2_3
  replace hf2_4 : M2.2 (n + 4) = (.inr (2, [.ref 1, .int 0, .int 0])) := hf2_4
  replace hf2_5 : M2.2 (n + 5) = (.inr (7, [.ref (n + 6), .ref (n + 7), .ref (n + 8), .int 1])) := hf2_5
  replace hf2_6 : M2.2 (n + 6) = (.inr (2, [.ref 1, .int 0, .int 0])) := hf2_6
  replace hf2_7 : M2.2 (n + 7) = (.inr (2, [.ref 1, .int 0, .int 0])) := hf2_7
  replace hf2_8 : M2.2 (n + 8) = (.inr (8, [.ref (n + 9), .ref (n + 10), .int 1])) := hf2_8
  replace hf2_9 : M2.2 (n + 9) = (.inl (1, 60, .inl (fun _ => 0))) := hf2_9
  replace hf2_10 : M2.2 (n + 10) = (.inl (0, 5, .inl (fun _ => 0))) := hf2_10
  replace hf2_11 : M2.2 (n + 11) = (.inl (4, 10, .inr (.inr (.inr (.inr (va_up (fun _ => none) 0 (some (n + 3)))))))) := hf2_11
  replace hf2_12 : M2.2 (n + 12) = (.inl (6, 7, .inr (.inr (.inr (.inr (va_up (fun _ => none) 0 (some (n + 1)))))))) := hf2_12
  refine xj_put (a := a) (fs' := [f0, f1, .ref pa, .int 0, .ref n, f2, f3, f4, f5, f6, f7, f8, f9]) d1_28_23 f1_85_0 ((ho2 a (by omega) (by omega)).trans ((ho1 a (by omega)).trans h_a)) (by omega) (show a < M2.1 by omega) (Nat.le_of_ble_eq_true rfl) rfl rfl rfl ?_
  refine xj_abs_set (fun M3 hs3 ha3 ho3 => ?_)
  refine xj_aload_n (i := 0) d1_28_26 rfl rfl ?_
  refine xj_get d1_28_27 f1_85_0 ha3 (by omega) (show a < M3.1 by omega) rfl ?_
  refine xj_callV (rest := []) (As := []) (b := n) (cRead0 hg (M := M3) (n := n + 13) (a := n) (g := n + 1) (br := n + 3) (l := n + 4) (pv := .ref pa) (gv := .ref (n + 12)) (bl := .ref (n + 2)) (wo := .null) (x1 := .ref (n + 5)) (x2 := .null) (el := .ref 1) (mo := 0) (show M3.1 = n + 13 by omega) (by omega) (by omega) (by omega) ((ho3 n (by omega)).trans hf2_0) (by omega) (by omega) ((ho3 (n + 1) (by omega)).trans hf2_1) (by omega) (by omega) ((ho3 (n + 3) (by omega)).trans hf2_3) (by omega) (by omega) ((ho3 (n + 4) (by omega)).trans hf2_4)) d1_28_30 wd8_2 ((ho3 n (by omega)).trans hf2_0) (by omega) (show n < M3.1 by omega) rfl w434 w433 (Or.inl w432) rfl rfl (Nat.le_of_ble_eq_true rfl) (by omega) (by omega) (by omega) ?_
  rintro v M4 ⟨rfl, hs4, ho4, hf4_0⟩
  replace hs4 : M4.1 = n + 13 := hs4
  replace hf4_0 : M4.2 n = (.inr (4, [.ref (n + 1), .int 1, .ref pa, .int 0, .int 0, (.ref (n + 12)), .int 0])) := hf4_0
  refine xj_aload_n (i := 0) d1_28_33 rfl rfl ?_
  refine xj_get d1_28_34 f1_85_0 ((ho4 a (by omega) (by omega)).trans ha3) (by omega) (show a < M4.1 by omega) rfl ?_
  exact xj_ret d1_28_37 (by omega) (by omega) rfl ⟨rfl, (show M4.1 = n + 13 by omega), (fun j hj hj0 => ((ho4 j (by omega) (by omega)).trans ((ho3 j (by omega)).trans ((ho2 j (by omega) (by omega)).trans (ho1 j (by omega)))))), ((ho4 a (by omega) (by omega)).trans ha3), hf4_0, ((ho4 (n + 1) (by omega) (by omega)).trans ((ho3 (n + 1) (by omega)).trans hf2_1)), ((ho4 (n + 2) (by omega) (by omega)).trans ((ho3 (n + 2) (by omega)).trans hf2_2)), ((ho4 (n + 3) (by omega) (by omega)).trans ((ho3 (n + 3) (by omega)).trans hf2_3)), ((ho4 (n + 4) (by omega) (by omega)).trans ((ho3 (n + 4) (by omega)).trans hf2_4)), ((ho4 (n + 5) (by omega) (by omega)).trans ((ho3 (n + 5) (by omega)).trans hf2_5)), ((ho4 (n + 6) (by omega) (by omega)).trans ((ho3 (n + 6) (by omega)).trans hf2_6)), ((ho4 (n + 7) (by omega) (by omega)).trans ((ho3 (n + 7) (by omega)).trans hf2_7)), ((ho4 (n + 8) (by omega) (by omega)).trans ((ho3 (n + 8) (by omega)).trans hf2_8)), ((ho4 (n + 9) (by omega) (by omega)).trans ((ho3 (n + 9) (by omega)).trans hf2_9)), ((ho4 (n + 10) (by omega) (by omega)).trans ((ho3 (n + 10) (by omega)).trans hf2_10)), ((ho4 (n + 11) (by omega) (by omega)).trans ((ho3 (n + 11) (by omega)).trans hf2_11)), ((ho4 (n + 12) (by omega) (by omega)).trans ((ho3 (n + 12) (by omega)).trans hf2_12))⟩
set_option maxRecDepth 20000 in
set_option maxHeartbeats 4000000 in
theorem px_fault {G : xG} (hg : xGood G) (hxn : xn = 16) (hZ : va_Z "java/util/ArrayList" "DEFAULTCAPACITY_EMPTY_ELEMENTDATA" "[Ljava/lang/Object;" (.ref (xa G 1)) (fun q => (xs G).heap.size ≤ q) (xs G) (xs G).heap) (hT : va_T (.object "java/lang/Object") (xa G 1) 0 (fun _ => .null) (fun q => (xs G).heap.size ≤ q) (xs G) (xs G).heap) {M : xM} (hn : M.1 = 52) (hF : p1X M)  : XC G Y1_8 (some .int) 10 13 114 [.ref 16] M (fun v M' => v = some (.int 1) ∧ 52 ≤ M'.1 ∧ ∀ j, 24 ≤ j → j < 52 → M'.2 j = M.2 j) := by
  obtain ⟨h_16, h_17, h_18, h_19, h_20, h_21, h_22, h_23⟩ := hF
  refine xc_of hg (by decide) (Nat.le_of_ble_eq_true rfl) (Or.inl ⟨rfl, rfl, fun v M' h => ⟨_, h.1⟩⟩) ?_
  refine xj_aload_n (i := 0) d1_8_0 rfl rfl ?_
  refine xj_callV (rest := []) (As := []) (b := 16) (cPat0 hg hZ hT (M := M) (n := 52) (a := 16) (pa := 18) (f0 := .ref 17) (f1 := .int 0) (f2 := .ref 19) (f3 := .int 0) (f4 := .ref 20) (f5 := .ref 22) (f6 := .int 0) (f7 := .ref 23) (f8 := .int 0) (f9 := .int 0) (show M.1 = 52 by omega) (by omega) (by omega) (by omega) h_16) d1_8_1 wd1_28 h_16 (by omega) (show 16 < M.1 by omega) rfl s1_28 w302 (Or.inl w300) rfl rfl (Nat.le_of_ble_eq_true rfl) (by omega) (by omega) (by omega) ?_
  rintro v M1 ⟨rfl, hs1, ho1, hf1_0, hf1_1, hf1_2, hf1_3, hf1_4, hf1_5, hf1_6, hf1_7, hf1_8, hf1_9, hf1_10, hf1_11, hf1_12, hf1_13⟩
  replace hs1 : M1.1 = 65 := hs1
  replace hf1_0 : M1.2 16 = (.inr (0, [.ref 17, .int 0, .ref 18, .int 0, .ref 52, .ref 19, .int 0, .ref 20, .ref 22, .int 0, .ref 23, .int 0, .int 0])) := hf1_0
  replace hf1_1 : M1.2 52 = (.inr (4, [.ref 53, .int 1, .ref 18, .int 0, .int 0, (.ref (52 + 12)), .int 0])) := hf1_1
  replace hf1_2 : M1.2 53 = (.inr (5, [.ref 54, .ref 55, .null])) := hf1_2
  replace hf1_3 : M1.2 54 = (.inr (2, [.ref 63, .int 1, .int 1])) := hf1_3
  replace hf1_4 : M1.2 55 = (.inr (6, [.ref 56, .ref 57, .null])) := hf1_4
  replace hf1_5 : M1.2 56 = (.inr (2, [.ref 1, .int 0, .int 0])) := hf1_5
  replace hf1_6 : M1.2 57 = (.inr (7, [.ref 58, .ref 59, .ref 60, .int 1])) := hf1_6
  replace hf1_7 : M1.2 58 = (.inr (2, [.ref 1, .int 0, .int 0])) := hf1_7
  replace hf1_8 : M1.2 59 = (.inr (2, [.ref 1, .int 0, .int 0])) := hf1_8
  replace hf1_9 : M1.2 60 = (.inr (8, [.ref 61, .ref 62, .int 1])) := hf1_9
  replace hf1_10 : M1.2 61 = (.inl (1, 60, .inl (fun _ => 0))) := hf1_10
  replace hf1_11 : M1.2 62 = (.inl (0, 5, .inl (fun _ => 0))) := hf1_11
  replace hf1_12 : M1.2 63 = (.inl (4, 10, .inr (.inr (.inr (.inr (va_up (fun _ => none) 0 (some (52 + 3)))))))) := hf1_12
  replace hf1_13 : M1.2 64 = (.inl (6, 7, .inr (.inr (.inr (.inr (va_up (fun _ => none) 0 (some (52 + 1)))))))) := hf1_13
  refine xj_get d1_8_4 f1_93_4 hf1_1 (by omega) (show 52 < M1.1 by omega) rfl ?_
  exact xj_ret d1_8_7 (by omega) (by omega) rfl ⟨rfl, (show 52 ≤ M1.1 by omega), fun j hj1 hj2 => (ho1 j (by omega) (by omega))⟩
set_option maxRecDepth 20000 in
set_option maxHeartbeats 4000000 in
theorem px_size {G : xG} (hg : xGood G) (hxn : xn = 16) (hZ : va_Z "java/util/ArrayList" "DEFAULTCAPACITY_EMPTY_ELEMENTDATA" "[Ljava/lang/Object;" (.ref (xa G 1)) (fun q => (xs G).heap.size ≤ q) (xs G) (xs G).heap) (hT : va_T (.object "java/lang/Object") (xa G 1) 0 (fun _ => .null) (fun q => (xs G).heap.size ≤ q) (xs G) (xs G).heap) {M : xM} (hn : M.1 = 52) (hF : p1X M)  : XC G Y1_9 (some .int) 10 13 114 [.ref 16] M (fun v M' => v = some (.int (-1)) ∧ 52 ≤ M'.1 ∧ ∀ j, 24 ≤ j → j < 52 → M'.2 j = M.2 j) := by
  obtain ⟨h_16, h_17, h_18, h_19, h_20, h_21, h_22, h_23⟩ := hF
  refine xc_of hg (by decide) (Nat.le_of_ble_eq_true rfl) (Or.inl ⟨rfl, rfl, fun v M' h => ⟨_, h.1⟩⟩) ?_
  refine xj_aload_n (i := 0) d1_9_0 rfl rfl ?_
  refine xj_callV (rest := []) (As := []) (b := 16) (cPat0 hg hZ hT (M := M) (n := 52) (a := 16) (pa := 18) (f0 := .ref 17) (f1 := .int 0) (f2 := .ref 19) (f3 := .int 0) (f4 := .ref 20) (f5 := .ref 22) (f6 := .int 0) (f7 := .ref 23) (f8 := .int 0) (f9 := .int 0) (show M.1 = 52 by omega) (by omega) (by omega) (by omega) h_16) d1_9_1 wd1_28 h_16 (by omega) (show 16 < M.1 by omega) rfl s1_28 w302 (Or.inl w300) rfl rfl (Nat.le_of_ble_eq_true rfl) (by omega) (by omega) (by omega) ?_
  rintro v M1 ⟨rfl, hs1, ho1, hf1_0, hf1_1, hf1_2, hf1_3, hf1_4, hf1_5, hf1_6, hf1_7, hf1_8, hf1_9, hf1_10, hf1_11, hf1_12, hf1_13⟩
  replace hs1 : M1.1 = 65 := hs1
  replace hf1_0 : M1.2 16 = (.inr (0, [.ref 17, .int 0, .ref 18, .int 0, .ref 52, .ref 19, .int 0, .ref 20, .ref 22, .int 0, .ref 23, .int 0, .int 0])) := hf1_0
  replace hf1_1 : M1.2 52 = (.inr (4, [.ref 53, .int 1, .ref 18, .int 0, .int 0, (.ref (52 + 12)), .int 0])) := hf1_1
  replace hf1_2 : M1.2 53 = (.inr (5, [.ref 54, .ref 55, .null])) := hf1_2
  replace hf1_3 : M1.2 54 = (.inr (2, [.ref 63, .int 1, .int 1])) := hf1_3
  replace hf1_4 : M1.2 55 = (.inr (6, [.ref 56, .ref 57, .null])) := hf1_4
  replace hf1_5 : M1.2 56 = (.inr (2, [.ref 1, .int 0, .int 0])) := hf1_5
  replace hf1_6 : M1.2 57 = (.inr (7, [.ref 58, .ref 59, .ref 60, .int 1])) := hf1_6
  replace hf1_7 : M1.2 58 = (.inr (2, [.ref 1, .int 0, .int 0])) := hf1_7
  replace hf1_8 : M1.2 59 = (.inr (2, [.ref 1, .int 0, .int 0])) := hf1_8
  replace hf1_9 : M1.2 60 = (.inr (8, [.ref 61, .ref 62, .int 1])) := hf1_9
  replace hf1_10 : M1.2 61 = (.inl (1, 60, .inl (fun _ => 0))) := hf1_10
  replace hf1_11 : M1.2 62 = (.inl (0, 5, .inl (fun _ => 0))) := hf1_11
  replace hf1_12 : M1.2 63 = (.inl (4, 10, .inr (.inr (.inr (.inr (va_up (fun _ => none) 0 (some (52 + 3)))))))) := hf1_12
  replace hf1_13 : M1.2 64 = (.inl (6, 7, .inr (.inr (.inr (.inr (va_up (fun _ => none) 0 (some (52 + 1)))))))) := hf1_13
  refine xj_astore_n (i := 1) (L' := [(1, .ref 52), (0, .ref 16)]) d1_9_4 rfl (by decide) rfl ?_
  refine xj_aload_n (i := 1) d1_9_5 rfl rfl ?_
  refine xj_get d1_9_6 f1_93_4 hf1_1 (by omega) (show 52 < M1.1 by omega) rfl ?_
  refine xj_if_ne (tgt := 22) d1_9_9 rfl (fun _ => ?_) (fun h => absurd h (by decide))
  refine xj_iconst (v := (-1)) d1_9_22 (by decide) ?_
  exact xj_ret d1_9_23 (by omega) (by omega) rfl ⟨rfl, (show 52 ≤ M1.1 by omega), fun j hj1 hj2 => (ho1 j (by omega) (by omega))⟩
set_option maxRecDepth 20000 in
set_option maxHeartbeats 4000000 in
theorem px_strings {G : xG} (hg : xGood G) (hxn : xn = 16) (hZ : va_Z "java/util/ArrayList" "DEFAULTCAPACITY_EMPTY_ELEMENTDATA" "[Ljava/lang/Object;" (.ref (xa G 1)) (fun q => (xs G).heap.size ≤ q) (xs G) (xs G).heap) (hT : va_T (.object "java/lang/Object") (xa G 1) 0 (fun _ => .null) (fun q => (xs G).heap.size ≤ q) (xs G) (xs G).heap) {M : xM} (hn : M.1 = 52) (hF : p1X M)  : XC G Y1_10 (some .int) 10 13 114 [.ref 16] M (fun v M' => v = some (.int (-2)) ∧ 52 ≤ M'.1 ∧ ∀ j, 24 ≤ j → j < 52 → M'.2 j = M.2 j) := by
  obtain ⟨h_16, h_17, h_18, h_19, h_20, h_21, h_22, h_23⟩ := hF
  refine xc_of hg (by decide) (Nat.le_of_ble_eq_true rfl) (Or.inl ⟨rfl, rfl, fun v M' h => ⟨_, h.1⟩⟩) ?_
  refine xj_aload_n (i := 0) d1_10_0 rfl rfl ?_
  refine xj_callV (rest := []) (As := []) (b := 16) (cPat0 hg hZ hT (M := M) (n := 52) (a := 16) (pa := 18) (f0 := .ref 17) (f1 := .int 0) (f2 := .ref 19) (f3 := .int 0) (f4 := .ref 20) (f5 := .ref 22) (f6 := .int 0) (f7 := .ref 23) (f8 := .int 0) (f9 := .int 0) (show M.1 = 52 by omega) (by omega) (by omega) (by omega) h_16) d1_10_1 wd1_28 h_16 (by omega) (show 16 < M.1 by omega) rfl s1_28 w302 (Or.inl w300) rfl rfl (Nat.le_of_ble_eq_true rfl) (by omega) (by omega) (by omega) ?_
  rintro v M1 ⟨rfl, hs1, ho1, hf1_0, hf1_1, hf1_2, hf1_3, hf1_4, hf1_5, hf1_6, hf1_7, hf1_8, hf1_9, hf1_10, hf1_11, hf1_12, hf1_13⟩
  replace hs1 : M1.1 = 65 := hs1
  replace hf1_0 : M1.2 16 = (.inr (0, [.ref 17, .int 0, .ref 18, .int 0, .ref 52, .ref 19, .int 0, .ref 20, .ref 22, .int 0, .ref 23, .int 0, .int 0])) := hf1_0
  replace hf1_1 : M1.2 52 = (.inr (4, [.ref 53, .int 1, .ref 18, .int 0, .int 0, (.ref (52 + 12)), .int 0])) := hf1_1
  replace hf1_2 : M1.2 53 = (.inr (5, [.ref 54, .ref 55, .null])) := hf1_2
  replace hf1_3 : M1.2 54 = (.inr (2, [.ref 63, .int 1, .int 1])) := hf1_3
  replace hf1_4 : M1.2 55 = (.inr (6, [.ref 56, .ref 57, .null])) := hf1_4
  replace hf1_5 : M1.2 56 = (.inr (2, [.ref 1, .int 0, .int 0])) := hf1_5
  replace hf1_6 : M1.2 57 = (.inr (7, [.ref 58, .ref 59, .ref 60, .int 1])) := hf1_6
  replace hf1_7 : M1.2 58 = (.inr (2, [.ref 1, .int 0, .int 0])) := hf1_7
  replace hf1_8 : M1.2 59 = (.inr (2, [.ref 1, .int 0, .int 0])) := hf1_8
  replace hf1_9 : M1.2 60 = (.inr (8, [.ref 61, .ref 62, .int 1])) := hf1_9
  replace hf1_10 : M1.2 61 = (.inl (1, 60, .inl (fun _ => 0))) := hf1_10
  replace hf1_11 : M1.2 62 = (.inl (0, 5, .inl (fun _ => 0))) := hf1_11
  replace hf1_12 : M1.2 63 = (.inl (4, 10, .inr (.inr (.inr (.inr (va_up (fun _ => none) 0 (some (52 + 3)))))))) := hf1_12
  replace hf1_13 : M1.2 64 = (.inl (6, 7, .inr (.inr (.inr (.inr (va_up (fun _ => none) 0 (some (52 + 1)))))))) := hf1_13
  refine xj_astore_n (i := 1) (L' := [(1, .ref 52), (0, .ref 16)]) d1_10_4 rfl (by decide) rfl ?_
  refine xj_aload_n (i := 1) d1_10_5 rfl rfl ?_
  refine xj_get d1_10_6 f1_93_4 hf1_1 (by omega) (show 52 < M1.1 by omega) rfl ?_
  refine xj_if_eq (tgt := 15) d1_10_9 rfl (fun h => absurd h (by decide)) (fun _ => ?_)
  refine xj_bipush (v := (-2)) d1_10_12 (by decide) ?_
  exact xj_ret d1_10_14 (by omega) (by omega) rfl ⟨rfl, (show 52 ≤ M1.1 by omega), fun j hj1 hj2 => (ho1 j (by omega) (by omega))⟩
set_option maxRecDepth 20000 in
set_option maxHeartbeats 4000000 in
theorem px_search {G : xG} (hg : xGood G) (hxn : xn = 16) (hZ : va_Z "java/util/ArrayList" "DEFAULTCAPACITY_EMPTY_ELEMENTDATA" "[Ljava/lang/Object;" (.ref (xa G 1)) (fun q => (xs G).heap.size ≤ q) (xs G) (xs G).heap) (hT : va_T (.object "java/lang/Object") (xa G 1) 0 (fun _ => .null) (fun q => (xs G).heap.size ≤ q) (xs G) (xs G).heap) {M : xM} (hn : M.1 = 52) (hF : p1X M)  : XC G Y1_11 (some .int) 10 13 114 [.ref 16] M (fun v M' => v = some (.int (-1)) ∧ 52 ≤ M'.1 ∧ ∀ j, 24 ≤ j → j < 52 → M'.2 j = M.2 j) := by
  obtain ⟨h_16, h_17, h_18, h_19, h_20, h_21, h_22, h_23⟩ := hF
  refine xc_of hg (by decide) (Nat.le_of_ble_eq_true rfl) (Or.inl ⟨rfl, rfl, fun v M' h => ⟨_, h.1⟩⟩) ?_
  refine xj_aload_n (i := 0) d1_11_0 rfl rfl ?_
  refine xj_callV (rest := []) (As := []) (b := 16) (cPat0 hg hZ hT (M := M) (n := 52) (a := 16) (pa := 18) (f0 := .ref 17) (f1 := .int 0) (f2 := .ref 19) (f3 := .int 0) (f4 := .ref 20) (f5 := .ref 22) (f6 := .int 0) (f7 := .ref 23) (f8 := .int 0) (f9 := .int 0) (show M.1 = 52 by omega) (by omega) (by omega) (by omega) h_16) d1_11_1 wd1_28 h_16 (by omega) (show 16 < M.1 by omega) rfl s1_28 w302 (Or.inl w300) rfl rfl (Nat.le_of_ble_eq_true rfl) (by omega) (by omega) (by omega) ?_
  rintro v M1 ⟨rfl, hs1, ho1, hf1_0, hf1_1, hf1_2, hf1_3, hf1_4, hf1_5, hf1_6, hf1_7, hf1_8, hf1_9, hf1_10, hf1_11, hf1_12, hf1_13⟩
  replace hs1 : M1.1 = 65 := hs1
  replace hf1_0 : M1.2 16 = (.inr (0, [.ref 17, .int 0, .ref 18, .int 0, .ref 52, .ref 19, .int 0, .ref 20, .ref 22, .int 0, .ref 23, .int 0, .int 0])) := hf1_0
  replace hf1_1 : M1.2 52 = (.inr (4, [.ref 53, .int 1, .ref 18, .int 0, .int 0, (.ref (52 + 12)), .int 0])) := hf1_1
  replace hf1_2 : M1.2 53 = (.inr (5, [.ref 54, .ref 55, .null])) := hf1_2
  replace hf1_3 : M1.2 54 = (.inr (2, [.ref 63, .int 1, .int 1])) := hf1_3
  replace hf1_4 : M1.2 55 = (.inr (6, [.ref 56, .ref 57, .null])) := hf1_4
  replace hf1_5 : M1.2 56 = (.inr (2, [.ref 1, .int 0, .int 0])) := hf1_5
  replace hf1_6 : M1.2 57 = (.inr (7, [.ref 58, .ref 59, .ref 60, .int 1])) := hf1_6
  replace hf1_7 : M1.2 58 = (.inr (2, [.ref 1, .int 0, .int 0])) := hf1_7
  replace hf1_8 : M1.2 59 = (.inr (2, [.ref 1, .int 0, .int 0])) := hf1_8
  replace hf1_9 : M1.2 60 = (.inr (8, [.ref 61, .ref 62, .int 1])) := hf1_9
  replace hf1_10 : M1.2 61 = (.inl (1, 60, .inl (fun _ => 0))) := hf1_10
  replace hf1_11 : M1.2 62 = (.inl (0, 5, .inl (fun _ => 0))) := hf1_11
  replace hf1_12 : M1.2 63 = (.inl (4, 10, .inr (.inr (.inr (.inr (va_up (fun _ => none) 0 (some (52 + 3)))))))) := hf1_12
  replace hf1_13 : M1.2 64 = (.inl (6, 7, .inr (.inr (.inr (.inr (va_up (fun _ => none) 0 (some (52 + 1)))))))) := hf1_13
  refine xj_astore_n (i := 1) (L' := [(1, .ref 52), (0, .ref 16)]) d1_11_4 rfl (by decide) rfl ?_
  refine xj_aload_n (i := 1) d1_11_5 rfl rfl ?_
  refine xj_get d1_11_6 f1_93_4 hf1_1 (by omega) (show 52 < M1.1 by omega) rfl ?_
  refine xj_if_eq (tgt := 18) d1_11_9 rfl (fun h => absurd h (by decide)) (fun _ => ?_)
  refine xj_aload_n (i := 1) d1_11_12 rfl rfl ?_
  refine xj_get d1_11_13 f1_93_4 hf1_1 (by omega) (show 52 < M1.1 by omega) rfl ?_
  refine xj_ineg (v := (-1)) d1_11_16 (by decide) ?_
  exact xj_ret d1_11_17 (by omega) (by omega) rfl ⟨rfl, (show 52 ≤ M1.1 by omega), fun j hj1 hj2 => (ho1 j (by omega) (by omega))⟩
set_option maxRecDepth 20000 in
set_option maxHeartbeats 4000000 in
theorem px_possible {G : xG} (hg : xGood G) (hxn : xn = 16) (hZ : va_Z "java/util/ArrayList" "DEFAULTCAPACITY_EMPTY_ELEMENTDATA" "[Ljava/lang/Object;" (.ref (xa G 1)) (fun q => (xs G).heap.size ≤ q) (xs G) (xs G).heap) (hT : va_T (.object "java/lang/Object") (xa G 1) 0 (fun _ => .null) (fun q => (xs G).heap.size ≤ q) (xs G) (xs G).heap) {M : xM} (hn : M.1 = 52) (hF : p1X M)  : XC G Y1_12 (some .int) 0 0 0 [.ref 16] M (fun v M' => v = some (.int 0) ∧ 52 ≤ M'.1 ∧ ∀ j, 24 ≤ j → j < 52 → M'.2 j = M.2 j) := by
  obtain ⟨h_16, h_17, h_18, h_19, h_20, h_21, h_22, h_23⟩ := hF
  refine xc_of hg (by decide) (Nat.le_of_ble_eq_true rfl) (Or.inl ⟨rfl, rfl, fun v M' h => ⟨_, h.1⟩⟩) ?_
  refine xj_aload_n (i := 0) d1_12_0 rfl rfl ?_
  refine xj_get d1_12_1 f1_118_0 h_16 (by omega) (show 16 < M.1 by omega) rfl ?_
  exact xj_ret d1_12_4 (by omega) (by omega) rfl ⟨rfl, (show 52 ≤ M.1 by omega), fun j hj1 hj2 => rfl⟩
set_option maxRecDepth 20000 in
set_option maxHeartbeats 4000000 in
theorem px_left {G : xG} (hg : xGood G) (hxn : xn = 16) (hZ : va_Z "java/util/ArrayList" "DEFAULTCAPACITY_EMPTY_ELEMENTDATA" "[Ljava/lang/Object;" (.ref (xa G 1)) (fun q => (xs G).heap.size ≤ q) (xs G) (xs G).heap) (hT : va_T (.object "java/lang/Object") (xa G 1) 0 (fun _ => .null) (fun q => (xs G).heap.size ≤ q) (xs G) (xs G).heap) {M : xM} (hn : M.1 = 52) (hF : p1X M)  : XC G Y1_18 (some .int) 0 0 0 [.ref 16] M (fun v M' => v = some (.int 0) ∧ 52 ≤ M'.1 ∧ ∀ j, 24 ≤ j → j < 52 → M'.2 j = M.2 j) := by
  obtain ⟨h_16, h_17, h_18, h_19, h_20, h_21, h_22, h_23⟩ := hF
  refine xc_of hg (by decide) (Nat.le_of_ble_eq_true rfl) (Or.inl ⟨rfl, rfl, fun v M' h => ⟨_, h.1⟩⟩) ?_
  refine xj_aload_n (i := 0) d1_18_0 rfl rfl ?_
  refine xj_get d1_18_1 f1_149_0 h_16 (by omega) (show 16 < M.1 by omega) rfl ?_
  exact xj_ret d1_18_4 (by omega) (by omega) rfl ⟨rfl, (show 52 ≤ M.1 by omega), fun j hj1 hj2 => rfl⟩
set_option maxRecDepth 20000 in
set_option maxHeartbeats 4000000 in
theorem px_shards {G : xG} (hg : xGood G) (hxn : xn = 16) (hZ : va_Z "java/util/ArrayList" "DEFAULTCAPACITY_EMPTY_ELEMENTDATA" "[Ljava/lang/Object;" (.ref (xa G 1)) (fun q => (xs G).heap.size ≤ q) (xs G) (xs G).heap) (hT : va_T (.object "java/lang/Object") (xa G 1) 0 (fun _ => .null) (fun q => (xs G).heap.size ≤ q) (xs G) (xs G).heap) {M : xM} (hn : M.1 = 52) (hF : p1X M)  : XC G Y1_14 (some .int) 1 0 0 [.ref 16] M (fun v M' => v = some (.int 0) ∧ 52 ≤ M'.1 ∧ ∀ j, 24 ≤ j → j < 52 → M'.2 j = M.2 j) := by
  obtain ⟨h_16, h_17, h_18, h_19, h_20, h_21, h_22, h_23⟩ := hF
  refine xc_of hg (by decide) (Nat.le_of_ble_eq_true rfl) (Or.inl ⟨rfl, rfl, fun v M' h => ⟨_, h.1⟩⟩) ?_
  refine xj_aload_n (i := 0) d1_14_0 rfl rfl ?_
  refine xj_get d1_14_1 f1_34_0 h_16 (by omega) (show 16 < M.1 by omega) rfl ?_
  refine xj_callV (rest := []) (As := []) (b := 22) (cSize hg (M := M) (n := 52) (a := 22) (el := .ref 1) (sz := 0) (mo := 0) (show M.1 = 52 by omega) (by omega) (by omega) (by omega) h_22) d1_14_4 wd28_8 h_22 (by omega) (show 22 < M.1 by omega) rfl w230 w229 (Or.inl w241) rfl rfl (Nat.le_of_ble_eq_true rfl) (by omega) (by omega) (by omega) ?_
  rintro v M' ⟨rfl, hm⟩
  subst M'
  exact xj_ret d1_14_7 (by omega) (by omega) rfl ⟨rfl, (show 52 ≤ M.1 by omega), fun j hj1 hj2 => rfl⟩
set_option maxRecDepth 20000 in
set_option maxHeartbeats 4000000 in
theorem px_hit {G : xG} (hg : xGood G) (hxn : xn = 16) (hZ : va_Z "java/util/ArrayList" "DEFAULTCAPACITY_EMPTY_ELEMENTDATA" "[Ljava/lang/Object;" (.ref (xa G 1)) (fun q => (xs G).heap.size ≤ q) (xs G) (xs G).heap) (hT : va_T (.object "java/lang/Object") (xa G 1) 0 (fun _ => .null) (fun q => (xs G).heap.size ≤ q) (xs G) (xs G).heap) {M : xM} (hn : M.1 = 52) (hF : p1X M) {c : Int32} : XC G Y1_13 (some .int) 0 0 0 [.ref 16, .int c] M (fun v M' => v = some (.int (-1)) ∧ 52 ≤ M'.1 ∧ ∀ j, 24 ≤ j → j < 52 → M'.2 j = M.2 j) := by
  obtain ⟨h_16, h_17, h_18, h_19, h_20, h_21, h_22, h_23⟩ := hF
  refine xc_of hg (by decide) (Nat.le_of_ble_eq_true rfl) (Or.inl ⟨rfl, rfl, fun v M' h => ⟨_, h.1⟩⟩) ?_
  refine xj_iload_n (i := 1) d1_13_0 rfl rfl ?_
  refine xj_if_lt (tgt := 21) d1_13_1 rfl (fun hb1 => ?_) (fun hb1 => ?_)
  · refine xj_iconst (v := (-1)) d1_13_21 (by decide) ?_
    exact xj_ret d1_13_22 (by omega) (by omega) rfl ⟨rfl, (show 52 ≤ M.1 by omega), fun j hj1 hj2 => rfl⟩
  · refine xj_iload_n (i := 1) d1_13_4 rfl rfl ?_
    refine xj_aload_n (i := 0) d1_13_5 rfl rfl ?_
    refine xj_get d1_13_6 f1_115_0 h_16 (by omega) (show 16 < M.1 by omega) rfl ?_
    refine xj_icmp_ge (tgt := 21) d1_13_9 rfl (fun _ => ?_) (fun h => absurd (Int32.not_lt.mp (by assumption)) h)
    refine xj_iconst (v := (-1)) d1_13_21 (by decide) ?_
    exact xj_ret d1_13_22 (by omega) (by omega) rfl ⟨rfl, (show 52 ≤ M.1 by omega), fun j hj1 hj2 => rfl⟩
set_option maxRecDepth 20000 in
theorem cCountLive0 {G : xG} (hg : xGood G) {M : xM} {n : Nat} (hn : M.1 = n) (hx : xn ≤ n) {a : Nat} {l : Nat} {lv : Int32} {el : Value} {mo : Int32} (h1_a : xn ≤ a) (h2_a : a < n) (h_a : M.2 a = (.inr (1, [.int lv, .ref l]))) (h1_l : xn ≤ l) (h2_l : l < n) (h_l : M.2 l = (.inr (2, [el, .int 0, .int mo]))) : XC G Y10_5 (some .int) 1 0 0 [.ref a] M (fun v M' => v = some (.int 0) ∧ M' = M) := by
  refine xc_of hg (by decide) (Nat.le_of_ble_eq_true rfl) (Or.inl ⟨rfl, rfl, fun v M' h => ⟨_, h.1⟩⟩) ?_
  refine xj_iconst (v := 0) d10_5_0 (by decide) ?_
  refine xj_istore_n (i := 1) (L' := [(1, .int 0), (0, .ref a)]) d10_5_1 rfl (by decide) rfl ?_
  refine xj_iconst (v := 0) d10_5_2 (by decide) ?_
  refine xj_istore_n (i := 2) (L' := [(2, .int 0), (1, .int 0), (0, .ref a)]) d10_5_3 rfl (by decide) rfl ?_
  refine xj_iload_n (i := 2) d10_5_4 rfl rfl ?_
  refine xj_aload_n (i := 0) d10_5_5 rfl rfl ?_
  refine xj_get d10_5_6 f10_10_1 h_a (by omega) (show a < M.1 by omega) rfl ?_
  refine xj_callV (rest := [.int 0]) (As := []) (b := l) (cSize hg (M := M) (n := n) (a := l) (el := el) (sz := 0) (mo := mo) (show M.1 = n by omega) (by omega) (by omega) (by omega) h_l) d10_5_9 wd28_8 h_l (by omega) (show l < M.1 by omega) rfl w230 w229 (Or.inl w228) rfl rfl (Nat.le_of_ble_eq_true rfl) (by omega) (by omega) (by omega) ?_
  rintro v M' ⟨rfl, hm⟩
  subst M'
  refine xj_icmp_ge (tgt := 46) d10_5_12 rfl (fun _ => ?_) (fun h => absurd (by decide) h)
  refine xj_iload_n (i := 1) d10_5_46 rfl rfl ?_
  exact xj_ret d10_5_47 (by omega) (by omega) rfl ⟨rfl, rfl⟩
set_option maxRecDepth 20000 in
theorem cHaving0 {G : xG} (hg : xGood G) {M : xM} {n : Nat} (hn : M.1 = n) (hx : xn ≤ n) {a : Nat} {l : Nat} {lv : Int32} {el : Value} {mo : Int32} {u : Int32} {v1 : Int32} {w : Int32} (h1_a : xn ≤ a) (h2_a : a < n) (h_a : M.2 a = (.inr (1, [.int lv, .ref l]))) (h1_l : xn ≤ l) (h2_l : l < n) (h_l : M.2 l = (.inr (2, [el, .int 0, .int mo]))) : XC G Y10_6 (some .int) 1 0 0 [.ref a, .int u, .int v1, .int w] M (fun v M' => v = some (.int 0) ∧ M' = M) := by
  refine xc_of hg (by decide) (Nat.le_of_ble_eq_true rfl) (Or.inl ⟨rfl, rfl, fun v M' h => ⟨_, h.1⟩⟩) ?_
  refine xj_iconst (v := 0) d10_6_0 (by decide) ?_
  refine xj_istore (i := 4) (L' := [(4, .int 0), (0, .ref a), (1, .int u), (2, .int v1), (3, .int w)]) d10_6_1 (by decide) rfl ?_
  refine xj_iconst (v := 0) d10_6_3 (by decide) ?_
  refine xj_istore (i := 5) (L' := [(5, .int 0), (4, .int 0), (0, .ref a), (1, .int u), (2, .int v1), (3, .int w)]) d10_6_4 (by decide) rfl ?_
  refine xj_iload (i := 5) d10_6_6 rfl ?_
  refine xj_aload_n (i := 0) d10_6_8 rfl rfl ?_
  refine xj_get d10_6_9 f10_10_1 h_a (by omega) (show a < M.1 by omega) rfl ?_
  refine xj_callV (rest := [.int 0]) (As := []) (b := l) (cSize hg (M := M) (n := n) (a := l) (el := el) (sz := 0) (mo := mo) (show M.1 = n by omega) (by omega) (by omega) (by omega) h_l) d10_6_12 wd28_8 h_l (by omega) (show l < M.1 by omega) rfl w230 w229 (Or.inl w228) rfl rfl (Nat.le_of_ble_eq_true rfl) (by omega) (by omega) (by omega) ?_
  rintro v M' ⟨rfl, hm⟩
  subst M'
  refine xj_icmp_ge (tgt := 55) d10_6_15 rfl (fun _ => ?_) (fun h => absurd (by decide) h)
  refine xj_iload (i := 4) d10_6_55 rfl ?_
  exact xj_ret d10_6_57 (by omega) (by omega) rfl ⟨rfl, rfl⟩
set_option maxRecDepth 20000 in
set_option maxHeartbeats 4000000 in
theorem px_postings {G : xG} (hg : xGood G) (hxn : xn = 16) (hZ : va_Z "java/util/ArrayList" "DEFAULTCAPACITY_EMPTY_ELEMENTDATA" "[Ljava/lang/Object;" (.ref (xa G 1)) (fun q => (xs G).heap.size ≤ q) (xs G) (xs G).heap) (hT : va_T (.object "java/lang/Object") (xa G 1) 0 (fun _ => .null) (fun q => (xs G).heap.size ≤ q) (xs G) (xs G).heap) {M : xM} (hn : M.1 = 52) (hF : p1X M) {u v1 w : Int32} : XC G Y1_16 (some .int) 2 0 0 [.ref 16, .int u, .int v1, .int w] M (fun v M' => v = some (.int 0) ∧ 52 ≤ M'.1 ∧ ∀ j, 24 ≤ j → j < 52 → M'.2 j = M.2 j) := by
  obtain ⟨h_16, h_17, h_18, h_19, h_20, h_21, h_22, h_23⟩ := hF
  refine xc_of hg (by decide) (Nat.le_of_ble_eq_true rfl) (Or.inl ⟨rfl, rfl, fun v M' h => ⟨_, h.1⟩⟩) ?_
  refine xj_iload_n (i := 1) d1_16_0 rfl rfl ?_
  refine xj_callS (rest := []) (As := [.int u]) (cCharacter hg (M := M) (n := 52) (c := u) (show M.1 = 52 by omega) (by omega) ) d1_16_1 wd1_21 w128 (Or.inl w127) rfl rfl (Nat.le_of_ble_eq_true rfl) (by omega) (by omega) (by omega) ?_
  rintro v M' ⟨rfl, hm⟩
  subst M'
  refine xj_if_eq (tgt := 21) d1_16_4 rfl (fun hb1 => ?_) (fun hb1 => ?_)
  · refine xj_iconst (v := 0) d1_16_21 (by decide) ?_
    exact xj_ret d1_16_22 (by omega) (by omega) rfl ⟨rfl, (show 52 ≤ M.1 by omega), fun j hj1 hj2 => rfl⟩
  · refine xj_iload_n (i := 2) d1_16_7 rfl rfl ?_
    refine xj_callS (rest := []) (As := [.int v1]) (cCharacter hg (M := M) (n := 52) (c := v1) (show M.1 = 52 by omega) (by omega) ) d1_16_8 wd1_21 w128 (Or.inl w127) rfl rfl (Nat.le_of_ble_eq_true rfl) (by omega) (by omega) (by omega) ?_
    rintro v M' ⟨rfl, hm⟩
    subst M'
    refine xj_if_eq (tgt := 21) d1_16_11 rfl (fun hb2 => ?_) (fun hb2 => ?_)
    · refine xj_iconst (v := 0) d1_16_21 (by decide) ?_
      exact xj_ret d1_16_22 (by omega) (by omega) rfl ⟨rfl, (show 52 ≤ M.1 by omega), fun j hj1 hj2 => rfl⟩
    · refine xj_iload_n (i := 3) d1_16_14 rfl rfl ?_
      refine xj_callS (rest := []) (As := [.int w]) (cCharacter hg (M := M) (n := 52) (c := w) (show M.1 = 52 by omega) (by omega) ) d1_16_15 wd1_21 w128 (Or.inl w127) rfl rfl (Nat.le_of_ble_eq_true rfl) (by omega) (by omega) (by omega) ?_
      rintro v M' ⟨rfl, hm⟩
      subst M'
      refine xj_if_ne (tgt := 23) d1_16_18 rfl (fun hb3 => ?_) (fun hb3 => ?_)
      · refine xj_aload_n (i := 0) d1_16_23 rfl rfl ?_
        refine xj_get d1_16_24 f1_27_0 h_16 (by omega) (show 16 < M.1 by omega) rfl ?_
        refine xj_iload_n (i := 1) d1_16_27 rfl rfl ?_
        refine xj_iload_n (i := 2) d1_16_28 rfl rfl ?_
        refine xj_iload_n (i := 3) d1_16_29 rfl rfl ?_
        refine xj_callV (rest := []) (As := [.int u, .int v1, .int w]) (b := 20) (cHaving0 hg (M := M) (n := 52) (a := 20) (l := 21) (lv := 0) (el := .ref 1) (mo := 0) (u := u) (v1 := v1) (w := w) (show M.1 = 52 by omega) (by omega) (by omega) (by omega) h_20 (by omega) (by omega) h_21) d1_16_30 wd10_6 h_20 (by omega) (show 20 < M.1 by omega) rfl w985 w984 (Or.inl w983) rfl rfl (Nat.le_of_ble_eq_true rfl) (by omega) (by omega) (by omega) ?_
        rintro v M' ⟨rfl, hm⟩
        subst M'
        refine xj_istore (i := 4) (L' := [(4, .int 0), (0, .ref 16), (1, .int u), (2, .int v1), (3, .int w)]) d1_16_33 (by decide) rfl ?_
        refine xj_iconst (v := 0) d1_16_35 (by decide) ?_
        refine xj_istore (i := 5) (L' := [(5, .int 0), (4, .int 0), (0, .ref 16), (1, .int u), (2, .int v1), (3, .int w)]) d1_16_36 (by decide) rfl ?_
        refine xj_iload (i := 5) d1_16_38 rfl ?_
        refine xj_aload_n (i := 0) d1_16_40 rfl rfl ?_
        refine xj_get d1_16_41 f1_34_0 h_16 (by omega) (show 16 < M.1 by omega) rfl ?_
        refine xj_callV (rest := [.int 0]) (As := []) (b := 22) (cSize hg (M := M) (n := 52) (a := 22) (el := .ref 1) (sz := 0) (mo := 0) (show M.1 = 52 by omega) (by omega) (by omega) (by omega) h_22) d1_16_44 wd28_8 h_22 (by omega) (show 22 < M.1 by omega) rfl w230 w229 (Or.inl w241) rfl rfl (Nat.le_of_ble_eq_true rfl) (by omega) (by omega) (by omega) ?_
        rintro v M' ⟨rfl, hm⟩
        subst M'
        refine xj_icmp_ge (tgt := 79) d1_16_47 rfl (fun _ => ?_) (fun h => absurd (by decide) h)
        refine xj_iload (i := 4) d1_16_79 rfl ?_
        exact xj_ret d1_16_81 (by omega) (by omega) rfl ⟨rfl, (show 52 ≤ M.1 by omega), fun j hj1 hj2 => rfl⟩
      · refine xj_iconst (v := 0) d1_16_21 (by decide) ?_
        exact xj_ret d1_16_22 (by omega) (by omega) rfl ⟨rfl, (show 52 ≤ M.1 by omega), fun j hj1 hj2 => rfl⟩
set_option maxRecDepth 20000 in
set_option maxHeartbeats 4000000 in
theorem px_compact {G : xG} (hg : xGood G) (hxn : xn = 16) (hZ : va_Z "java/util/ArrayList" "DEFAULTCAPACITY_EMPTY_ELEMENTDATA" "[Ljava/lang/Object;" (.ref (xa G 1)) (fun q => (xs G).heap.size ≤ q) (xs G) (xs G).heap) (hT : va_T (.object "java/lang/Object") (xa G 1) 0 (fun _ => .null) (fun q => (xs G).heap.size ≤ q) (xs G) (xs G).heap) {M : xM} (hn : M.1 = 52) (hF : p1X M)  : XC G Y1_17 (some .int) 2 0 0 [.ref 16] M (fun v M' => v = some (.int 0) ∧ 52 ≤ M'.1 ∧ ∀ j, 24 ≤ j → j < 52 → M'.2 j = M.2 j) := by
  obtain ⟨h_16, h_17, h_18, h_19, h_20, h_21, h_22, h_23⟩ := hF
  refine xc_of hg (by decide) (Nat.le_of_ble_eq_true rfl) (Or.inl ⟨rfl, rfl, fun v M' h => ⟨_, h.1⟩⟩) ?_
  refine xj_aload_n (i := 0) d1_17_0 rfl rfl ?_
  refine xj_get d1_17_1 f1_27_0 h_16 (by omega) (show 16 < M.1 by omega) rfl ?_
  refine xj_callV (rest := []) (As := []) (b := 20) (cCount hg (M := M) (n := 52) (a := 20) (l := 21) (lv := 0) (el := .ref 1) (sz := 0) (mo := 0) (show M.1 = 52 by omega) (by omega) (by omega) (by omega) h_20 (by omega) (by omega) h_21) d1_17_4 wd10_4 h_20 (by omega) (show 20 < M.1 by omega) rfl w226 w225 (Or.inl w224) rfl rfl (Nat.le_of_ble_eq_true rfl) (by omega) (by omega) (by omega) ?_
  rintro v M' ⟨rfl, hm⟩
  subst M'
  refine xj_if_le (tgt := 14) d1_17_7 rfl (fun _ => ?_) (fun h => absurd (by decide) h)
  refine xj_iconst (v := 0) d1_17_14 (by decide) ?_
  refine xj_istore_n (i := 1) (L' := [(1, .int 0), (0, .ref 16)]) d1_17_15 rfl (by decide) rfl ?_
  refine xj_aload_n (i := 0) d1_17_16 rfl rfl ?_
  refine xj_get d1_17_17 f1_34_0 h_16 (by omega) (show 16 < M.1 by omega) rfl ?_
  refine xj_callV (rest := []) (As := []) (b := 22) (cSize hg (M := M) (n := 52) (a := 22) (el := .ref 1) (sz := 0) (mo := 0) (show M.1 = 52 by omega) (by omega) (by omega) (by omega) h_22) d1_17_20 wd28_8 h_22 (by omega) (show 22 < M.1 by omega) rfl w230 w229 (Or.inl w241) rfl rfl (Nat.le_of_ble_eq_true rfl) (by omega) (by omega) (by omega) ?_
  rintro v M' ⟨rfl, hm⟩
  subst M'
  refine xj_istore_n (i := 2) (L' := [(2, .int 0), (1, .int 0), (0, .ref 16)]) d1_17_23 rfl (by decide) rfl ?_
  refine xj_iconst (v := 1) d1_17_24 (by decide) ?_
  refine xj_istore_n (i := 3) (L' := [(3, .int 1), (2, .int 0), (1, .int 0), (0, .ref 16)]) d1_17_25 rfl (by decide) rfl ?_
  refine xj_iload_n (i := 3) d1_17_26 rfl rfl ?_
  refine xj_iload_n (i := 2) d1_17_27 rfl rfl ?_
  refine xj_icmp_ge (tgt := 55) d1_17_28 rfl (fun _ => ?_) (fun h => absurd (by decide) h)
  refine xj_iload_n (i := 1) d1_17_55 rfl rfl ?_
  exact xj_ret d1_17_56 (by omega) (by omega) rfl ⟨rfl, (show 52 ≤ M.1 by omega), fun j hj1 hj2 => rfl⟩
set_option maxRecDepth 20000 in
set_option maxHeartbeats 4000000 in
theorem px_shard {G : xG} (hg : xGood G) (hxn : xn = 16) (hZ : va_Z "java/util/ArrayList" "DEFAULTCAPACITY_EMPTY_ELEMENTDATA" "[Ljava/lang/Object;" (.ref (xa G 1)) (fun q => (xs G).heap.size ≤ q) (xs G) (xs G).heap) (hT : va_T (.object "java/lang/Object") (xa G 1) 0 (fun _ => .null) (fun q => (xs G).heap.size ≤ q) (xs G) (xs G).heap) {M : xM} (hn : M.1 = 52) (hF : p1X M) {k w : Int32} : XC G Y1_15 (some .int) 2 0 0 [.ref 16, .int k, .int w] M (fun v M' => v = some (.int (xZ (k = -1 ∧ (w = 0 ∨ w = 1 ∨ w = 2)))) ∧ 52 ≤ M'.1 ∧ ∀ j, 24 ≤ j → j < 52 → M'.2 j = M.2 j) := by
  obtain ⟨h_16, h_17, h_18, h_19, h_20, h_21, h_22, h_23⟩ := hF
  refine xc_of hg (by decide) (Nat.le_of_ble_eq_true rfl) (Or.inl ⟨rfl, rfl, fun v M' h => ⟨_, h.1⟩⟩) ?_
  refine xj_null d1_15_0 ?_
  refine xj_astore_nN (i := 3) (L' := [(3, .null), (0, .ref 16), (1, .int k), (2, .int w)]) d1_15_1 rfl (by decide) rfl ?_
  refine xj_iload_n (i := 1) d1_15_2 rfl rfl ?_
  refine xj_iconst (v := (-1)) d1_15_3 (by decide) ?_
  refine xj_icmp_ne (tgt := 15) d1_15_4 rfl (fun hk => ?_) (fun hk => ?_)
  · refine xj_iload_n (i := 1) d1_15_15 rfl rfl ?_
    refine xj_if_lt (tgt := 42) d1_15_16 rfl (fun hk2 => ?_) (fun hk2 => ?_)
    · refine xj_aload_nN (i := 3) d1_15_42 rfl rfl ?_
      refine xj_ifnonnullN d1_15_43 ?_
      refine xj_iconst (v := (-1)) d1_15_46 (by decide) ?_
      exact xj_ret d1_15_47 (by omega) (by omega) rfl ⟨(congrArg (fun z => some (Value.int z)) (by first | (simp [xZ, hk]; done) | (simp [xZ, xsw3n hsw]; done))), (show 52 ≤ M.1 by omega), fun j hj1 hj2 => rfl⟩
    · refine xj_iload_n (i := 1) d1_15_19 rfl rfl ?_
      refine xj_aload_n (i := 0) d1_15_20 rfl rfl ?_
      refine xj_get d1_15_21 f1_34_0 h_16 (by omega) (show 16 < M.1 by omega) rfl ?_
      refine xj_callV (rest := [.int k]) (As := []) (b := 22) (cSize hg (M := M) (n := 52) (a := 22) (el := .ref 1) (sz := 0) (mo := 0) (show M.1 = 52 by omega) (by omega) (by omega) (by omega) h_22) d1_15_24 wd28_8 h_22 (by omega) (show 22 < M.1 by omega) rfl w230 w229 (Or.inl w241) rfl rfl (Nat.le_of_ble_eq_true rfl) (by omega) (by omega) (by omega) ?_
      rintro v M' ⟨rfl, hm⟩
      subst M'
      refine xj_icmp_ge (tgt := 42) d1_15_27 rfl (fun _ => ?_) (fun h => absurd (Int32.not_lt.mp hk2) h)
      refine xj_aload_nN (i := 3) d1_15_42 rfl rfl ?_
      refine xj_ifnonnullN d1_15_43 ?_
      refine xj_iconst (v := (-1)) d1_15_46 (by decide) ?_
      exact xj_ret d1_15_47 (by omega) (by omega) rfl ⟨(congrArg (fun z => some (Value.int z)) (by first | (simp [xZ, hk]; done) | (simp [xZ, xsw3n hsw]; done))), (show 52 ≤ M.1 by omega), fun j hj1 hj2 => rfl⟩
  · refine xj_aload_n (i := 0) d1_15_7 rfl rfl ?_
    refine xj_get d1_15_8 f1_27_0 h_16 (by omega) (show 16 < M.1 by omega) rfl ?_
    refine xj_astore_n (i := 3) (L' := [(3, .ref 20), (0, .ref 16), (1, .int k), (2, .int w)]) d1_15_11 rfl (by decide) rfl ?_
    refine xj_goto (tgt := 42) d1_15_12 rfl ?_
    refine xj_aload_n (i := 3) d1_15_42 rfl rfl ?_
    refine xj_ifnonnull (tgt := 48) d1_15_43 rfl ?_
    refine xj_iload_n (i := 2) d1_15_48 rfl rfl ?_
    rcases xsw3 w with rfl | rfl | rfl | hsw
    · refine xj_tableIn (tgt := 76) d1_15_49 (by decide) (by decide) rfl rfl ?_
      refine xj_aload_n (i := 3) d1_15_76 rfl rfl ?_
      refine xj_get d1_15_77 f1_136_1 h_20 (by omega) (show 20 < M.1 by omega) rfl ?_
      exact xj_ret d1_15_80 (by omega) (by omega) rfl ⟨(congrArg (fun z => some (Value.int z)) (by first | (simp [xZ, hk]; done) | (simp [xZ, xsw3n hsw]; done))), (show 52 ≤ M.1 by omega), fun j hj1 hj2 => rfl⟩
    · refine xj_tableIn (tgt := 81) d1_15_49 (by decide) (by decide) rfl rfl ?_
      refine xj_aload_n (i := 3) d1_15_81 rfl rfl ?_
      refine xj_callV (rest := []) (As := []) (b := 20) (cCount hg (M := M) (n := 52) (a := 20) (l := 21) (lv := 0) (el := .ref 1) (sz := 0) (mo := 0) (show M.1 = 52 by omega) (by omega) (by omega) (by omega) h_20 (by omega) (by omega) h_21) d1_15_82 wd10_4 h_20 (by omega) (show 20 < M.1 by omega) rfl w226 w225 (Or.inl w224) rfl rfl (Nat.le_of_ble_eq_true rfl) (by omega) (by omega) (by omega) ?_
      rintro v M' ⟨rfl, hm⟩
      subst M'
      exact xj_ret d1_15_85 (by omega) (by omega) rfl ⟨(congrArg (fun z => some (Value.int z)) (by first | (simp [xZ, hk]; done) | (simp [xZ, xsw3n hsw]; done))), (show 52 ≤ M.1 by omega), fun j hj1 hj2 => rfl⟩
    · refine xj_tableIn (tgt := 86) d1_15_49 (by decide) (by decide) rfl rfl ?_
      refine xj_aload_n (i := 3) d1_15_86 rfl rfl ?_
      refine xj_callV (rest := []) (As := []) (b := 20) (cCountLive0 hg (M := M) (n := 52) (a := 20) (l := 21) (lv := 0) (el := .ref 1) (mo := 0) (show M.1 = 52 by omega) (by omega) (by omega) (by omega) h_20 (by omega) (by omega) h_21) d1_15_87 wd10_5 h_20 (by omega) (show 20 < M.1 by omega) rfl w977 w976 (Or.inl w975) rfl rfl (Nat.le_of_ble_eq_true rfl) (by omega) (by omega) (by omega) ?_
      rintro v M' ⟨rfl, hm⟩
      subst M'
      exact xj_ret d1_15_90 (by omega) (by omega) rfl ⟨(congrArg (fun z => some (Value.int z)) (by first | (simp [xZ, hk]; done) | (simp [xZ, xsw3n hsw]; done))), (show 52 ≤ M.1 by omega), fun j hj1 hj2 => rfl⟩
    · refine xj_tableOut (tgt := 91) d1_15_49 hsw rfl ?_
      refine xj_iconst (v := (-1)) d1_15_91 (by decide) ?_
      exact xj_ret d1_15_92 (by omega) (by omega) rfl ⟨(congrArg (fun z => some (Value.int z)) (by first | (simp [xZ, hk]; done) | (simp [xZ, xsw3n hsw]; done))), (show 52 ≤ M.1 by omega), fun j hj1 hj2 => rfl⟩
set_option maxRecDepth 20000 in
theorem cVersion {G : xG} (hg : xGood G) {M : xM} {n : Nat} (hn : M.1 = n) (hx : xn ≤ n) {a : Nat} {dr : Nat} {f : Nat → Int32} {k : Nat} (h1_a : xn ≤ a) (h2_a : a < n) (h_a : M.2 a = (.inr (3, [.null, .int 0]))) (h1_dr : xn ≤ dr) (h2_dr : dr < n) (h_dr : M.2 dr = (.inl (1, 40, .inl f))) (hk : k ≤ 40) (hft : ∀ z, z < k → fits .char (.int (f z)) = true) (hne : a ≠ dr) : XC G Y11_1 none 1 1 40 [.ref a, .ref dr, .int (nI k)] M (fun v M' => v = none ∧ M'.1 = n + 1 ∧ (∀ j, j < n → j ≠ a → M'.2 j = M.2 j) ∧ M'.2 a = (.inr (3, [.ref n, .int 1])) ∧ M'.2 n = (.inl (1, k, .inl (va_cpy f (fun _ => 0) 0 0 k)))) := by
  refine xc_of hg (by decide) (Nat.le_of_ble_eq_true rfl) (Or.inr (Or.inr (Or.inr (Or.inr (Or.inl ⟨rfl, rfl, fun v M' h => h.1⟩))))) ?_
  refine xj_aload_n (i := 0) d11_1_0 rfl rfl ?_
  refine xj_obj d11_1_1 w148 w35 w36 (by omega) (Nat.le_of_ble_eq_true rfl) ?_
  refine xj_aload_n (i := 0) d11_1_4 rfl rfl ?_
  refine xj_iconst (v := 1) d11_1_5 (by decide) ?_
  refine xj_put (a := a) (fs' := [.null, .int 1]) d11_1_6 f11_7_3 h_a (by omega) (show a < M.1 by omega) (Nat.le_of_ble_eq_true rfl) rfl rfl rfl ?_
  refine xj_abs_set (fun M1 hs1 ha1 ho1 => ?_)
  refine xj_aload_n (i := 0) d11_1_9 rfl rfl ?_
  refine xj_iload_n (i := 2) d11_1_10 rfl rfl ?_
  refine xj_new_char (N := k) (na := n) d11_1_11 w71 (nI_pos (by omega)) (nI_clamp (by omega)) (by omega) (show M1.1 = n by omega) (by omega) (by omega) ?_
  refine xj_abs_push (show M1.1 = n by omega) (fun M2 hs2 ha2 ho2 => ?_)
  refine xj_putF (a := a) (fs' := [.ref n, .int 1]) d11_1_13 rfl g11_13_3 ((ho2 a (by omega)).trans ha1) (by omega) (show a < M2.1 by omega) (Nat.le_of_ble_eq_true rfl) rfl rfl rfl ?_
  refine xj_abs_set (fun M3 hs3 ha3 ho3 => ?_)
  refine xj_aload_n (i := 1) d11_1_16 rfl rfl ?_
  refine xj_iconst (v := 0) d11_1_17 (by decide) ?_
  refine xj_aload_n (i := 0) d11_1_18 rfl rfl ?_
  refine xj_get d11_1_19 f11_13_3 ha3 (by omega) (show a < M3.1 by omega) rfl ?_
  refine xj_iconst (v := 0) d11_1_22 (by decide) ?_
  refine xj_iload_n (i := 2) d11_1_23 rfl rfl ?_
  refine xj_copy (t := 1) (i := 0) (j := 0) (k := k) d11_1_24 w149 w151 w150 w8 (by decide) ((ho3 dr (by omega)).trans ((ho2 dr (by omega)).trans ((ho1 dr (by omega)).trans h_dr))) (by omega) (show dr < M3.1 by omega) ((ho3 n (by omega)).trans ha2) (by omega) (show n < M3.1 by omega) (by decide) (by decide) (nI_pos (by omega)) (by decide) (by decide) (nI_clamp (by omega)) (by omega) (by omega) (fun z hz => by rw [Nat.zero_add]; exact hft z hz) (by omega) (Nat.le_of_ble_eq_true rfl) ?_
  refine xj_abs_set (fun M4 hs4 ha4 ho4 => ?_)
  exact xj_ret d11_1_27 (by omega) (by omega) rfl ⟨rfl, (show M4.1 = n + 1 by omega), (fun j hj hj0 => ((ho4 j (by omega)).trans ((ho3 j (by omega)).trans ((ho2 j (by omega)).trans (ho1 j (by omega)))))), ((ho4 a (by omega)).trans ha3), ha4⟩
set_option maxRecDepth 20000 in
set_option maxHeartbeats 4000000 in
theorem px_put {G : xG} (hg : xGood G) (hxn : xn = 16) (hZ : va_Z "java/util/ArrayList" "DEFAULTCAPACITY_EMPTY_ELEMENTDATA" "[Ljava/lang/Object;" (.ref (xa G 1)) (fun q => (xs G).heap.size ≤ q) (xs G) (xs G).heap) (hT : va_T (.object "java/lang/Object") (xa G 1) 0 (fun _ => .null) (fun q => (xs G).heap.size ≤ q) (xs G) (xs G).heap) {M : xM} (hn : M.1 = 52) (hF : p1X M) {c : Int32} : XC G Y1_3 (some .int) 7 3 52 [.ref 16, .int c] M (fun v M' => v = some (.int (xS (¬ c < 0 ∧ ¬ 10 ≤ c))) ∧ 52 ≤ M'.1 ∧ ∀ j, 24 ≤ j → j < 52 → M'.2 j = M.2 j) := by
  obtain ⟨h_16, h_17, h_18, h_19, h_20, h_21, h_22, h_23⟩ := hF
  refine xc_of hg (by decide) (Nat.le_of_ble_eq_true rfl) (Or.inl ⟨rfl, rfl, fun v M' h => ⟨_, h.1⟩⟩) ?_
  refine xj_iload_n (i := 1) d1_3_0 rfl rfl ?_
  refine xj_callS (rest := []) (As := [.int c]) (cName hg (M := M) (n := 52) (c := c) (show M.1 = 52 by omega) (by omega) ) d1_3_1 wd1_19 w138 (Or.inl w137) rfl rfl (Nat.le_of_ble_eq_true rfl) (by omega) (by omega) (by omega) ?_
  rintro v M' ⟨rfl, hm⟩
  subst M'
  refine xj_if_ne (tgt := 9) d1_3_4 rfl (fun hb => ?_) (fun hb => ?_)
  · refine xj_aload_n (i := 0) d1_3_9 rfl rfl ?_
    refine xj_iload_n (i := 1) d1_3_10 rfl rfl ?_
    refine xj_callV (rest := []) (As := [.int c]) (b := 16) (cRetire0 hg (M := M) (n := 52) (a := 16) (na := 19) (c := c) (f0 := .ref 17) (f1 := .int 0) (f2 := .ref 18) (f3 := .int 0) (f4 := .null) (f5 := .int 0) (f6 := .ref 20) (f7 := .ref 22) (f8 := .int 0) (f9 := .ref 23) (f10 := .int 0) (f11 := .int 0) (show M.1 = 52 by omega) (by omega) (by omega) (by omega) h_16 (by omega) (by omega) h_19 (xname_in (xB_y hb))) d1_3_11 wd1_23 h_16 (by omega) (show 16 < M.1 by omega) rfl s1_23 w142 (Or.inl w140) rfl rfl (Nat.le_of_ble_eq_true rfl) (by omega) (by omega) (by omega) ?_
    rintro v M' ⟨rfl, hm⟩
    subst M'
    refine xj_pop d1_3_14 rfl ?_
    refine xj_new (na := 52) d1_3_15 n1_16 (show M.1 = 52 by omega) (by omega) (by omega) ?_
    refine xj_abs_push (show M.1 = 52 by omega) (fun M1 hs1 ha1 ho1 => ?_)
    refine xj_dup d1_3_18 rfl ?_
    refine xj_aload_n (i := 0) d1_3_19 rfl rfl ?_
    refine xj_get d1_3_20 f1_9_0 ((ho1 16 (by omega)).trans h_16) (by omega) (show 16 < M1.1 by omega) rfl ?_
    refine xj_aload_n (i := 0) d1_3_23 rfl rfl ?_
    refine xj_get d1_3_24 f1_46_0 ((ho1 16 (by omega)).trans h_16) (by omega) (show 16 < M1.1 by omega) rfl ?_
    refine xj_callI (rest := [.ref 52]) (As := [.ref 17, .int 0]) (b := 52) (cVersion hg (M := M1) (n := 53) (a := 52) (dr := 17) (f := fun _ => 0) (k := 0) (show M1.1 = 53 by omega) (by omega) (by omega) (by omega) ha1 (by omega) (by omega) ((ho1 17 (by omega)).trans h_17) (by omega) (fun z hz => absurd hz (by omega)) (by omega)) d1_3_27 wd11_1 rfl w146 (Or.inl w145) rfl rfl (Nat.le_of_ble_eq_true rfl) (by omega) (by omega) (by omega) ?_
    rintro v M2 ⟨rfl, hs2, ho2, hf2_0, hf2_1⟩
    replace hs2 : M2.1 = 54 := hs2
    replace hf2_0 : M2.2 52 = (.inr (3, [.ref 53, .int 1])) := hf2_0
    replace hf2_1 : M2.2 53 = (.inl (1, 0, .inl (va_cpy (fun _ => 0) (fun _ => 0) 0 0 0))) := hf2_1
    refine xj_astore_n (i := 2) (L' := [(2, .ref 52), (0, .ref 16), (1, .int c)]) d1_3_30 rfl (by decide) rfl ?_
    refine xj_aload_n (i := 0) d1_3_31 rfl rfl ?_
    refine xj_iconst (v := 0) d1_3_32 (by decide) ?_
    refine xj_put (a := 16) (fs' := [.ref 17, .int 0, .ref 18, .int 0, .null, .ref 19, .int 0, .ref 20, .ref 22, .int 0, .ref 23, .int 0, .int 0]) d1_3_33 f1_46_0 ((ho2 16 (by omega) (by omega)).trans ((ho1 16 (by omega)).trans h_16)) (by omega) (show 16 < M2.1 by omega) (Nat.le_of_ble_eq_true rfl) rfl rfl rfl ?_
    refine xj_abs_set (fun M3 hs3 ha3 ho3 => ?_)
    refine xj_aload_n (i := 0) d1_3_36 rfl rfl ?_
    refine xj_get d1_3_37 f1_18_0 ha3 (by omega) (show 16 < M3.1 by omega) rfl ?_
    refine xj_iload_n (i := 1) d1_3_40 rfl rfl ?_
    refine xj_aload_n (i := 2) d1_3_41 rfl rfl ?_
    refine xj_aastore (j := c.toNatClampNeg) d1_3_42 ((ho3 19 (by omega)).trans ((ho2 19 (by omega) (by omega)).trans ((ho1 19 (by omega)).trans h_19))) (by decide) rfl (by omega) (show 19 < M3.1 by omega) (xname_in (xB_y hb)) rfl ((ho3 52 (by omega)).trans hf2_0) (by omega) (show 52 < M3.1 by omega) rfl (Or.inl rfl) ?_
    refine xj_abs_set (fun M4 hs4 ha4 ho4 => ?_)
    refine xj_aload_n (i := 0) d1_3_43 rfl rfl ?_
    refine xj_dup d1_3_44 rfl ?_
    refine xj_get d1_3_45 f1_59_0 ((ho4 16 (by omega)).trans ha3) (by omega) (show 16 < M4.1 by omega) rfl ?_
    refine xj_iconst (v := 1) d1_3_48 (by decide) ?_
    refine xj_iadd (v := 1) d1_3_49 (by decide) ?_
    refine xj_put (a := 16) (fs' := [.ref 17, .int 0, .ref 18, .int 0, .null, .ref 19, .int 1, .ref 20, .ref 22, .int 0, .ref 23, .int 0, .int 0]) d1_3_50 f1_59_0 ((ho4 16 (by omega)).trans ha3) (by omega) (show 16 < M4.1 by omega) (Nat.le_of_ble_eq_true rfl) rfl rfl rfl ?_
    refine xj_abs_set (fun M5 hs5 ha5 ho5 => ?_)
    refine xj_aload_n (i := 0) d1_3_53 rfl rfl ?_
    refine xj_get d1_3_54 f1_27_0 ha5 (by omega) (show 16 < M5.1 by omega) rfl ?_
    refine xj_aload_n (i := 2) d1_3_57 rfl rfl ?_
    refine xj_callV (rest := []) (As := [.ref 52]) (b := 20) (cShAdd0 hg hZ hT (M := M5) (n := 54) (a := 20) (l := 21) (lv := 0) (mo := 0) (b := 52) (bc_b := 3) (bf_b := [.ref 53, .int 1]) (bC_b := Rc3) (bT_b := Tc3) (bN_b := 2) (show M5.1 = 54 by omega) (by omega) (by omega) (by omega) ((ho5 20 (by omega)).trans ((ho4 20 (by omega)).trans ((ho3 20 (by omega)).trans ((ho2 20 (by omega) (by omega)).trans ((ho1 20 (by omega)).trans h_20))))) (by omega) (by omega) ((ho5 21 (by omega)).trans ((ho4 21 (by omega)).trans ((ho3 21 (by omega)).trans ((ho2 21 (by omega) (by omega)).trans ((ho1 21 (by omega)).trans h_21))))) (by omega) (by omega) ((ho5 52 (by omega)).trans ((ho4 52 (by omega)).trans ((ho3 52 (by omega)).trans hf2_0))) (by omega) rfl (Or.inr w1394)) d1_3_58 wd10_2 ((ho5 20 (by omega)).trans ((ho4 20 (by omega)).trans ((ho3 20 (by omega)).trans ((ho2 20 (by omega) (by omega)).trans ((ho1 20 (by omega)).trans h_20))))) (by omega) (show 20 < M5.1 by omega) rfl w164 w163 (Or.inl w162) rfl rfl (Nat.le_of_ble_eq_true rfl) (by omega) (by omega) (by omega) ?_
    rintro v M6 ⟨rfl, hs6, ho6, hf6_0, hf6_1⟩
    replace hs6 : M6.1 = 55 := hs6
    replace hf6_0 : M6.2 21 = (.inr (2, [.ref 54, .int 1, .int 1])) := hf6_0
    replace hf6_1 : M6.2 54 = (.inl (4, 10, .inr (.inr (.inr (.inr (va_up (fun _ => none) 0 (some 52))))))) := hf6_1
    refine xj_aload_n (i := 0) d1_3_61 rfl rfl ?_
    refine xj_get d1_3_62 f1_27_0 ((ho6 16 (by omega) (by omega)).trans ha5) (by omega) (show 16 < M6.1 by omega) rfl ?_
    refine xj_callV (rest := []) (As := []) (b := 20) (cCount hg (M := M6) (n := 55) (a := 20) (l := 21) (lv := 0) (el := .ref 54) (sz := 1) (mo := 1) (show M6.1 = 55 by omega) (by omega) (by omega) (by omega) ((ho6 20 (by omega) (by omega)).trans ((ho5 20 (by omega)).trans ((ho4 20 (by omega)).trans ((ho3 20 (by omega)).trans ((ho2 20 (by omega) (by omega)).trans ((ho1 20 (by omega)).trans h_20)))))) (by omega) (by omega) hf6_0) d1_3_65 wd10_4 ((ho6 20 (by omega) (by omega)).trans ((ho5 20 (by omega)).trans ((ho4 20 (by omega)).trans ((ho3 20 (by omega)).trans ((ho2 20 (by omega) (by omega)).trans ((ho1 20 (by omega)).trans h_20)))))) (by omega) (show 20 < M6.1 by omega) rfl w226 w225 (Or.inl w224) rfl rfl (Nat.le_of_ble_eq_true rfl) (by omega) (by omega) (by omega) ?_
    rintro v M' ⟨rfl, hm⟩
    subst M'
    refine xj_iconst (v := 3) d1_3_68 (by decide) ?_
    refine xj_icmp_lt (tgt := 80) d1_3_69 rfl (fun _ => ?_) (fun h => absurd (by decide) h)
    refine xj_aload_n (i := 0) d1_3_80 rfl rfl ?_
    refine xj_get d1_3_81 f1_59_0 ((ho6 16 (by omega) (by omega)).trans ha5) (by omega) (show 16 < M6.1 by omega) rfl ?_
    exact xj_ret d1_3_84 (by omega) (by omega) rfl ⟨(congrArg (fun z => some (Value.int z)) (xS_t (xB_y hb)).symm), (show 52 ≤ M6.1 by omega), fun j hj1 hj2 => ((ho6 j (by omega) (by omega)).trans ((ho5 j (by omega)).trans ((ho4 j (by omega)).trans ((ho3 j (by omega)).trans ((ho2 j (by omega) (by omega)).trans (ho1 j (by omega)))))))⟩
  · refine xj_iconst (v := (-1)) d1_3_7 (by decide) ?_
    exact xj_ret d1_3_8 (by omega) (by omega) rfl ⟨(congrArg (fun z => some (Value.int z)) (xS_f (xB_n hb)).symm), (show 52 ≤ M.1 by omega), fun j hj1 hj2 => rfl⟩

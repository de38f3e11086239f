set_option maxRecDepth 20000 in
set_option maxHeartbeats 4000000 in
theorem pm_write {G : xG} (hg : xGood G) (hxn : xn = 16) (hZ : va_Z "java/util/ArrayList" "DEFAULTCAPACITY_EMPTY_ELEMENTDATA" "[Ljava/lang/Object;" (.ref (xa G 1)) (fun q => (xs G).heap.size ≤ q) (xs G) (xs G).heap) (hT : va_T (.object "java/lang/Object") (xa G 1) 0 (fun _ => .null) (fun q => (xs G).heap.size ≤ q) (xs G) (xs G).heap) {M : xM} {n : Nat} (hn : M.1 = n) (hn2 : 52 ≤ n) (hF : p1M M) {c : Int32} : XC G Y14_3 (some .boolean) 1 0 0 [.ref 24, .int c] M (fun v M' => v = some (.int (xB (c = 10 ∨ (¬ c < 32 ∧ ¬ 126 < c))))) := by
  obtain ⟨f, g, hf, hgc, h_24, h_25, h_26, h_27, h_28, h_29, h_30, h_31, h_32, h_33, h_34, h_35, h_36, h_37, h_38, h_39, h_40, h_41, h_42, h_43, h_44, h_45, h_46, h_47, h_48, h_49, h_50, h_51⟩ := hF
  refine xc_of hg (by decide) (Nat.le_of_ble_eq_true rfl) (Or.inr (Or.inl ⟨rfl, rfl, fun v M' h => ⟨_, h, xB_01 _⟩⟩)) ?_
  refine xj_iload_n (i := 1) d14_3_0 rfl rfl ?_
  refine xj_callS (rest := []) (As := [.int c]) (mCharacter hg (M := M) (n := n) (c := c) (show M.1 = n by omega) (by omega) ) d14_3_1 wd14_2 w1135 (Or.inl w1134) rfl rfl (Nat.le_of_ble_eq_true rfl) (by omega) (by omega) (by omega) ?_
  rintro v M' ⟨rfl, hm⟩
  subst M'
  refine xj_if_eq (tgt := 16) d14_3_4 rfl (fun hb => ?_) (fun hb => ?_)
  · refine xj_iconst (v := 0) d14_3_16 (by decide) ?_
    exact xj_ret d14_3_17 (by omega) (by omega) rfl (congrArg (fun z => some (Value.int z)) hb.symm)
  · refine xj_aload_n (i := 0) d14_3_7 rfl rfl ?_
    refine xj_get d14_3_8 f14_97_12 h_24 (by omega) (show 24 < M.1 by omega) rfl ?_
    refine xj_bipush (v := 40) d14_3_11 (by decide) ?_
    refine xj_icmp_ne (tgt := 18) d14_3_13 rfl (fun _ => ?_) (fun h => absurd h (by decide))
    refine xj_aload_n (i := 0) d14_3_18 rfl rfl ?_
    refine xj_get d14_3_19 f14_29_12 h_24 (by omega) (show 24 < M.1 by omega) rfl ?_
    refine xj_aload_n (i := 0) d14_3_22 rfl rfl ?_
    refine xj_get d14_3_23 f14_97_12 h_24 (by omega) (show 24 < M.1 by omega) rfl ?_
    refine xj_iload_n (i := 1) d14_3_26 rfl rfl ?_
    refine xj_iastore (j := 0) (x' := c) d14_3_27 h_31 (by omega) (show 31 < M.1 by omega) (vp_in_iff.mpr (by decide)) (by decide) rfl ?_
    refine xj_abs_set (fun M1 hs1 ha1 ho1 => ?_)
    refine xj_aload_n (i := 0) d14_3_28 rfl rfl ?_
    refine xj_dup d14_3_29 rfl ?_
    refine xj_get d14_3_30 f14_97_12 ((ho1 24 (by omega)).trans h_24) (by omega) (show 24 < M1.1 by omega) rfl ?_
    refine xj_iconst (v := 1) d14_3_33 (by decide) ?_
    refine xj_iadd (v := 1) d14_3_34 (by decide) ?_
    refine xj_put (a := 24) (fs' := [.ref 25, .ref 26, .ref 27, .ref 28, .ref 29, .ref 30, .int 0, .int 0, .int 0, .ref 31, .int 1, .ref 32, .int 0, .int 0, .ref 33, .ref 34, .ref 35, .ref 36, .ref 37, .ref 38, .ref 39, .ref 40, .int 0, .int 0, .int 0, .ref 41, .ref 42, .ref 43, .ref 44, .ref 45, .ref 46, .ref 47, .ref 48, .int 0, .ref 49, .ref 50, .int 0, .int 0, .int 0, .int 0, .int 0, .ref 51]) d14_3_35 f14_97_12 ((ho1 24 (by omega)).trans h_24) (by omega) (show 24 < M1.1 by omega) (Nat.le_of_ble_eq_true rfl) rfl rfl rfl ?_
    refine xj_abs_set (fun M2 hs2 ha2 ho2 => ?_)
    refine xj_iconst (v := 1) d14_3_38 (by decide) ?_
    exact xj_ret d14_3_39 (by omega) (by omega) rfl (congrArg (fun z => some (Value.int z)) (xB_t (xB_y hb)).symm)
set_option maxRecDepth 20000 in
set_option maxHeartbeats 4000000 in
theorem pm_type {G : xG} (hg : xGood G) (hxn : xn = 16) (hZ : va_Z "java/util/ArrayList" "DEFAULTCAPACITY_EMPTY_ELEMENTDATA" "[Ljava/lang/Object;" (.ref (xa G 1)) (fun q => (xs G).heap.size ≤ q) (xs G) (xs G).heap) (hT : va_T (.object "java/lang/Object") (xa G 1) 0 (fun _ => .null) (fun q => (xs G).heap.size ≤ q) (xs G) (xs G).heap) {M : xM} {n : Nat} (hn : M.1 = n) (hn2 : 52 ≤ n) (hF : p1M M) {c : Int32} : XC G Y14_17 (some .boolean) 0 0 0 [.ref 24, .int c] M (fun v M' => v = some (.int (xB (¬ c < 32 ∧ ¬ 126 < c)))) := by
  obtain ⟨f, g, hf, hgc, h_24, h_25, h_26, h_27, h_28, h_29, h_30, h_31, h_32, h_33, h_34, h_35, h_36, h_37, h_38, h_39, h_40, h_41, h_42, h_43, h_44, h_45, h_46, h_47, h_48, h_49, h_50, h_51⟩ := hF
  refine xc_of hg (by decide) (Nat.le_of_ble_eq_true rfl) (Or.inr (Or.inl ⟨rfl, rfl, fun v M' h => ⟨_, h, xB_01 _⟩⟩)) ?_
  refine xj_iload_n (i := 1) d14_17_0 rfl rfl ?_
  refine xj_bipush (v := 32) d14_17_1 (by decide) ?_
  refine xj_icmp_lt (tgt := 21) d14_17_3 rfl (fun hb1 => ?_) (fun hb1 => ?_)
  · refine xj_iconst (v := 0) d14_17_21 (by decide) ?_
    exact xj_ret d14_17_22 (by omega) (by omega) rfl (congrArg (fun z => some (Value.int z)) (xB_f (by rintro ⟨h1, h2⟩; first | exact h1 hb1 | exact h2 hb2)).symm)
  · refine xj_iload_n (i := 1) d14_17_6 rfl rfl ?_
    refine xj_bipush (v := 126) d14_17_7 (by decide) ?_
    refine xj_icmp_gt (tgt := 21) d14_17_9 rfl (fun hb2 => ?_) (fun hb2 => ?_)
    · refine xj_iconst (v := 0) d14_17_21 (by decide) ?_
      exact xj_ret d14_17_22 (by omega) (by omega) rfl (congrArg (fun z => some (Value.int z)) (xB_f (by rintro ⟨h1, h2⟩; first | exact h1 hb1 | exact h2 hb2)).symm)
    · refine xj_aload_n (i := 0) d14_17_12 rfl rfl ?_
      refine xj_get d14_17_13 f14_130_12 h_24 (by omega) (show 24 < M.1 by omega) rfl ?_
      refine xj_bipush (v := 24) d14_17_16 (by decide) ?_
      refine xj_icmp_ne (tgt := 23) d14_17_18 rfl (fun _ => ?_) (fun h => absurd h (by decide))
      refine xj_aload_n (i := 0) d14_17_23 rfl rfl ?_
      refine xj_get d14_17_24 f14_32_12 h_24 (by omega) (show 24 < M.1 by omega) rfl ?_
      refine xj_aload_n (i := 0) d14_17_27 rfl rfl ?_
      refine xj_get d14_17_28 f14_130_12 h_24 (by omega) (show 24 < M.1 by omega) rfl ?_
      refine xj_iload_n (i := 1) d14_17_31 rfl rfl ?_
      refine xj_iastore (j := 0) (x' := c) d14_17_32 h_32 (by omega) (show 32 < M.1 by omega) (vp_in_iff.mpr (by decide)) (by decide) rfl ?_
      refine xj_abs_set (fun M1 hs1 ha1 ho1 => ?_)
      refine xj_aload_n (i := 0) d14_17_33 rfl rfl ?_
      refine xj_dup d14_17_34 rfl ?_
      refine xj_get d14_17_35 f14_130_12 ((ho1 24 (by omega)).trans h_24) (by omega) (show 24 < M1.1 by omega) rfl ?_
      refine xj_iconst (v := 1) d14_17_38 (by decide) ?_
      refine xj_iadd (v := 1) d14_17_39 (by decide) ?_
      refine xj_put (a := 24) (fs' := [.ref 25, .ref 26, .ref 27, .ref 28, .ref 29, .ref 30, .int 0, .int 0, .int 0, .ref 31, .int 0, .ref 32, .int 1, .int 0, .ref 33, .ref 34, .ref 35, .ref 36, .ref 37, .ref 38, .ref 39, .ref 40, .int 0, .int 0, .int 0, .ref 41, .ref 42, .ref 43, .ref 44, .ref 45, .ref 46, .ref 47, .ref 48, .int 0, .ref 49, .ref 50, .int 0, .int 0, .int 0, .int 0, .int 0, .ref 51]) d14_17_40 f14_130_12 ((ho1 24 (by omega)).trans h_24) (by omega) (show 24 < M1.1 by omega) (Nat.le_of_ble_eq_true rfl) rfl rfl rfl ?_
      refine xj_abs_set (fun M2 hs2 ha2 ho2 => ?_)
      refine xj_iconst (v := 1) d14_17_43 (by decide) ?_
      exact xj_ret d14_17_44 (by omega) (by omega) rfl (congrArg (fun z => some (Value.int z)) (xB_t ⟨hb1, hb2⟩).symm)
set_option maxRecDepth 20000 in
set_option maxHeartbeats 4000000 in
theorem pm_drop {G : xG} (hg : xGood G) (hxn : xn = 16) (hZ : va_Z "java/util/ArrayList" "DEFAULTCAPACITY_EMPTY_ELEMENTDATA" "[Ljava/lang/Object;" (.ref (xa G 1)) (fun q => (xs G).heap.size ≤ q) (xs G) (xs G).heap) (hT : va_T (.object "java/lang/Object") (xa G 1) 0 (fun _ => .null) (fun q => (xs G).heap.size ≤ q) (xs G) (xs G).heap) {M : xM} {n : Nat} (hn : M.1 = n) (hn2 : 52 ≤ n) (hF : p1M M) {c : Int32} : XC G Y14_5 (some .boolean) 0 0 0 [.ref 24, .int c] M (fun v M' => v = some (.int 0)) := by
  obtain ⟨f, g, hf, hgc, h_24, h_25, h_26, h_27, h_28, h_29, h_30, h_31, h_32, h_33, h_34, h_35, h_36, h_37, h_38, h_39, h_40, h_41, h_42, h_43, h_44, h_45, h_46, h_47, h_48, h_49, h_50, h_51⟩ := hF
  refine xc_of hg (by decide) (Nat.le_of_ble_eq_true rfl) (Or.inr (Or.inl ⟨rfl, rfl, fun v M' h => ⟨_, h, Or.inl rfl⟩⟩)) ?_
  refine xj_iload_n (i := 1) d14_5_0 rfl rfl ?_
  refine xj_if_lt (tgt := 19) d14_5_1 rfl (fun hb1 => ?_) (fun hb1 => ?_)
  · refine xj_iconst (v := 0) d14_5_19 (by decide) ?_
    exact xj_ret d14_5_20 (by omega) (by omega) rfl rfl
  · refine xj_iload_n (i := 1) d14_5_4 rfl rfl ?_
    refine xj_bipush (v := 9) d14_5_5 (by decide) ?_
    refine xj_icmp_gt (tgt := 19) d14_5_7 rfl (fun hb2 => ?_) (fun hb2 => ?_)
    · refine xj_iconst (v := 0) d14_5_19 (by decide) ?_
      exact xj_ret d14_5_20 (by omega) (by omega) rfl rfl
    · refine xj_aload_n (i := 0) d14_5_10 rfl rfl ?_
      refine xj_get d14_5_11 f14_23_12 h_24 (by omega) (show 24 < M.1 by omega) rfl ?_
      refine xj_iload_n (i := 1) d14_5_14 rfl rfl ?_
      refine xj_iaload (j := c.toNatClampNeg) d14_5_15 h_29 (by omega) (show 29 < M.1 by omega) (xname_in9 hb1 hb2) rfl ?_
      rw [show g c.toNatClampNeg = -1 from hgc _ (xname_lt (xname_in9 hb1 hb2))]
      refine xj_if_ge (tgt := 21) d14_5_16 rfl (fun h => absurd h (by decide)) (fun _ => ?_)
      refine xj_iconst (v := 0) d14_5_19 (by decide) ?_
      exact xj_ret d14_5_20 (by omega) (by omega) rfl rfl
set_option maxRecDepth 20000 in
set_option maxHeartbeats 4000000 in
theorem pm_length {G : xG} (hg : xGood G) (hxn : xn = 16) (hZ : va_Z "java/util/ArrayList" "DEFAULTCAPACITY_EMPTY_ELEMENTDATA" "[Ljava/lang/Object;" (.ref (xa G 1)) (fun q => (xs G).heap.size ≤ q) (xs G) (xs G).heap) (hT : va_T (.object "java/lang/Object") (xa G 1) 0 (fun _ => .null) (fun q => (xs G).heap.size ≤ q) (xs G) (xs G).heap) {M : xM} {n : Nat} (hn : M.1 = n) (hn2 : 52 ≤ n) (hF : p1M M) {c : Int32} : XC G Y14_6 (some .int) 0 0 0 [.ref 24, .int c] M (fun v M' => v = some (.int (-1))) := by
  obtain ⟨f, g, hf, hgc, h_24, h_25, h_26, h_27, h_28, h_29, h_30, h_31, h_32, h_33, h_34, h_35, h_36, h_37, h_38, h_39, h_40, h_41, h_42, h_43, h_44, h_45, h_46, h_47, h_48, h_49, h_50, h_51⟩ := hF
  refine xc_of hg (by decide) (Nat.le_of_ble_eq_true rfl) (Or.inl ⟨rfl, rfl, fun v M' h => ⟨_, h⟩⟩) ?_
  refine xj_iload_n (i := 1) d14_6_0 rfl rfl ?_
  refine xj_if_lt (tgt := 19) d14_6_1 rfl (fun hb1 => ?_) (fun hb1 => ?_)
  · refine xj_iconst (v := (-1)) d14_6_19 (by decide) ?_
    refine xj_goto (tgt := 34) d14_6_20 rfl ?_
    exact xj_ret d14_6_34 (by omega) (by omega) rfl rfl
  · refine xj_iload_n (i := 1) d14_6_4 rfl rfl ?_
    refine xj_bipush (v := 9) d14_6_5 (by decide) ?_
    refine xj_icmp_gt (tgt := 19) d14_6_7 rfl (fun hb2 => ?_) (fun hb2 => ?_)
    · refine xj_iconst (v := (-1)) d14_6_19 (by decide) ?_
      refine xj_goto (tgt := 34) d14_6_20 rfl ?_
      exact xj_ret d14_6_34 (by omega) (by omega) rfl rfl
    · refine xj_aload_n (i := 0) d14_6_10 rfl rfl ?_
      refine xj_get d14_6_11 f14_23_12 h_24 (by omega) (show 24 < M.1 by omega) rfl ?_
      refine xj_iload_n (i := 1) d14_6_14 rfl rfl ?_
      refine xj_iaload (j := c.toNatClampNeg) d14_6_15 h_29 (by omega) (show 29 < M.1 by omega) (xname_in9 hb1 hb2) rfl ?_
      rw [show g c.toNatClampNeg = -1 from hgc _ (xname_lt (xname_in9 hb1 hb2))]
      refine xj_if_ge (tgt := 23) d14_6_16 rfl (fun h => absurd h (by decide)) (fun _ => ?_)
      refine xj_iconst (v := (-1)) d14_6_19 (by decide) ?_
      refine xj_goto (tgt := 34) d14_6_20 rfl ?_
      exact xj_ret d14_6_34 (by omega) (by omega) rfl rfl
set_option maxRecDepth 20000 in
set_option maxHeartbeats 4000000 in
theorem pm_put {G : xG} (hg : xGood G) (hxn : xn = 16) (hZ : va_Z "java/util/ArrayList" "DEFAULTCAPACITY_EMPTY_ELEMENTDATA" "[Ljava/lang/Object;" (.ref (xa G 1)) (fun q => (xs G).heap.size ≤ q) (xs G) (xs G).heap) (hT : va_T (.object "java/lang/Object") (xa G 1) 0 (fun _ => .null) (fun q => (xs G).heap.size ≤ q) (xs G) (xs G).heap) {M : xM} {n : Nat} (hn : M.1 = n) (hn2 : 52 ≤ n) (hF : p1M M) {c : Int32} : XC G Y14_4 (some .int) 1 0 0 [.ref 24, .int c] M (fun v M' => v = some (.int (xS (¬ c < 0 ∧ ¬ 10 ≤ c)))) := by
  obtain ⟨f, g, hf, hgc, h_24, h_25, h_26, h_27, h_28, h_29, h_30, h_31, h_32, h_33, h_34, h_35, h_36, h_37, h_38, h_39, h_40, h_41, h_42, h_43, h_44, h_45, h_46, h_47, h_48, h_49, h_50, h_51⟩ := hF
  refine xc_of hg (by decide) (Nat.le_of_ble_eq_true rfl) (Or.inl ⟨rfl, rfl, fun v M' h => ⟨_, h⟩⟩) ?_
  refine xj_iload_n (i := 1) d14_4_0 rfl rfl ?_
  refine xj_if_lt (tgt := 10) d14_4_1 rfl (fun hb1 => ?_) (fun hb1 => ?_)
  · refine xj_iconst (v := (-1)) d14_4_10 (by decide) ?_
    exact xj_ret d14_4_11 (by omega) (by omega) rfl (congrArg (fun z => some (Value.int z)) (xS_f (by rintro ⟨h1, h2⟩; first | exact h1 hb1 | exact hb2 (xnm h2))).symm)
  · refine xj_iload_n (i := 1) d14_4_4 rfl rfl ?_
    refine xj_bipush (v := 9) d14_4_5 (by decide) ?_
    refine xj_icmp_le (tgt := 12) d14_4_7 rfl (fun hb2 => ?_) (fun hb2 => ?_)
    · refine xj_iconst (v := 0) d14_4_12 (by decide) ?_
      refine xj_istore_n (i := 2) (L' := [(2, .int 0), (0, .ref 24), (1, .int c)]) d14_4_13 rfl (by decide) rfl ?_
      refine xj_iload_n (i := 2) d14_4_14 rfl rfl ?_
      refine xj_bipush (v := 127) d14_4_15 (by decide) ?_
      refine xj_icmp_ge (tgt := 36) d14_4_17 rfl (fun h => absurd h (by decide)) (fun _ => ?_)
      refine xj_aload_n (i := 0) d14_4_20 rfl rfl ?_
      refine xj_get d14_4_21 f14_20_12 h_24 (by omega) (show 24 < M.1 by omega) rfl ?_
      refine xj_iload_n (i := 2) d14_4_24 rfl rfl ?_
      refine xj_iaload (j := 0) d14_4_25 h_28 (by omega) (show 28 < M.1 by omega) (vp_in_iff.mpr (by decide)) (by decide) ?_
      rw [show f 0 = -1 from hf 0 (by omega)]
      refine xj_iconst (v := (-1)) d14_4_26 (by decide) ?_
      refine xj_icmp_eq (tgt := 36) d14_4_27 rfl (fun _ => ?_) (fun h => absurd (by decide) h)
      refine xj_iconst (v := 0) d14_4_36 (by decide) ?_
      refine xj_istore_n (i := 3) (L' := [(3, .int 0), (2, .int 0), (0, .ref 24), (1, .int c)]) d14_4_37 rfl (by decide) rfl ?_
      refine xj_iload_n (i := 3) d14_4_38 rfl rfl ?_
      refine xj_aload_n (i := 0) d14_4_39 rfl rfl ?_
      refine xj_get d14_4_40 f14_97_12 h_24 (by omega) (show 24 < M.1 by omega) rfl ?_
      refine xj_icmp_ge (tgt := 69) d14_4_43 rfl (fun _ => ?_) (fun h => absurd (by decide) h)
      refine xj_aload_n (i := 0) d14_4_69 rfl rfl ?_
      refine xj_get d14_4_70 f14_13_12 h_24 (by omega) (show 24 < M.1 by omega) rfl ?_
      refine xj_iload_n (i := 2) d14_4_73 rfl rfl ?_
      refine xj_aload_n (i := 0) d14_4_74 rfl rfl ?_
      refine xj_get d14_4_75 f14_97_12 h_24 (by omega) (show 24 < M.1 by omega) rfl ?_
      refine xj_iastore (j := 0) (x' := 0) d14_4_78 h_26 (by omega) (show 26 < M.1 by omega) (vp_in_iff.mpr (by decide)) (by decide) rfl ?_
      refine xj_abs_set (fun M1 hs1 ha1 ho1 => ?_)
      refine xj_aload_n (i := 0) d14_4_79 rfl rfl ?_
      refine xj_iconst (v := 0) d14_4_80 (by decide) ?_
      refine xj_put (a := 24) (fs' := [.ref 25, .ref 26, .ref 27, .ref 28, .ref 29, .ref 30, .int 0, .int 0, .int 0, .ref 31, .int 0, .ref 32, .int 0, .int 0, .ref 33, .ref 34, .ref 35, .ref 36, .ref 37, .ref 38, .ref 39, .ref 40, .int 0, .int 0, .int 0, .ref 41, .ref 42, .ref 43, .ref 44, .ref 45, .ref 46, .ref 47, .ref 48, .int 0, .ref 49, .ref 50, .int 0, .int 0, .int 0, .int 0, .int 0, .ref 51]) d14_4_81 f14_97_12 ((ho1 24 (by omega)).trans h_24) (by omega) (show 24 < M1.1 by omega) (Nat.le_of_ble_eq_true rfl) rfl rfl rfl ?_
      refine xj_abs_set (fun M2 hs2 ha2 ho2 => ?_)
      refine xj_aload_n (i := 0) d14_4_84 rfl rfl ?_
      refine xj_iload_n (i := 1) d14_4_85 rfl rfl ?_
      refine xj_callV (rest := []) (As := [.int c]) (b := 24) (mDrop0 hg (M := M2) (n := n) (a := 24) (cu := 29) (g := g) (c := c) (o0 := .ref 25) (o1 := .ref 26) (o2 := .ref 27) (o3 := .ref 28) (o5 := .ref 30) (o6 := .int 0) (o7 := .int 0) (o8 := .int 0) (o9 := .ref 31) (o10 := .int 0) (o11 := .ref 32) (o12 := .int 0) (o13 := .int 0) (o14 := .ref 33) (o15 := .ref 34) (o16 := .ref 35) (o17 := .ref 36) (o18 := .ref 37) (o19 := .ref 38) (o20 := .ref 39) (o21 := .ref 40) (o22 := .int 0) (o23 := .int 0) (o24 := .int 0) (o25 := .ref 41) (o26 := .ref 42) (o27 := .ref 43) (o28 := .ref 44) (o29 := .ref 45) (o30 := .ref 46) (o31 := .ref 47) (o32 := .ref 48) (o33 := .int 0) (o34 := .ref 49) (o35 := .ref 50) (o36 := .int 0) (o37 := .int 0) (o38 := .int 0) (o39 := .int 0) (o40 := .int 0) (o41 := .ref 51) (show M2.1 = n by omega) (by omega) (by omega) (by omega) ha2 (by omega) (by omega) ((ho2 29 (by omega)).trans ((ho1 29 (by omega)).trans h_29)) hgc) d14_4_86 wd14_5 ha2 (by omega) (show 24 < M2.1 by omega) rfl w1143 w1142 (Or.inl w1141) rfl rfl (Nat.le_of_ble_eq_true rfl) (by omega) (by omega) (by omega) ?_
      rintro v M' ⟨rfl, hm⟩
      subst M'
      refine xj_istore_n (i := 3) (L' := [(3, .int 0), (2, .int 0), (0, .ref 24), (1, .int c)]) d14_4_89 rfl (by decide) rfl ?_
      refine xj_aload_n (i := 0) d14_4_90 rfl rfl ?_
      refine xj_get d14_4_91 f14_23_12 ha2 (by omega) (show 24 < M2.1 by omega) rfl ?_
      refine xj_iload_n (i := 1) d14_4_94 rfl rfl ?_
      refine xj_iload_n (i := 2) d14_4_95 rfl rfl ?_
      refine xj_iastore (j := c.toNatClampNeg) (x' := 0) d14_4_96 ((ho2 29 (by omega)).trans ((ho1 29 (by omega)).trans h_29)) (by omega) (show 29 < M2.1 by omega) (xname_in9 hb1 (Int32.not_lt.mpr hb2)) rfl rfl ?_
      refine xj_abs_set (fun M3 hs3 ha3 ho3 => ?_)
      refine xj_aload_n (i := 0) d14_4_97 rfl rfl ?_
      refine xj_get d14_4_98 f14_16_12 ((ho3 24 (by omega)).trans ha2) (by omega) (show 24 < M3.1 by omega) rfl ?_
      refine xj_iload_n (i := 2) d14_4_101 rfl rfl ?_
      refine xj_iconst (v := 1) d14_4_102 (by decide) ?_
      refine xj_zastore (j := 0) (x' := 1) d14_4_103 ((ho3 27 (by omega)).trans ((ho2 27 (by omega)).trans ((ho1 27 (by omega)).trans h_27))) (by omega) (show 27 < M3.1 by omega) (vp_in_iff.mpr (by decide)) (by decide) rfl ?_
      refine xj_abs_set (fun M4 hs4 ha4 ho4 => ?_)
      refine xj_aload_n (i := 0) d14_4_104 rfl rfl ?_
      refine xj_get d14_4_105 f14_20_12 ((ho4 24 (by omega)).trans ((ho3 24 (by omega)).trans ha2)) (by omega) (show 24 < M4.1 by omega) rfl ?_
      refine xj_iload_n (i := 2) d14_4_108 rfl rfl ?_
      refine xj_bipush (v := 99) d14_4_109 (by decide) ?_
      refine xj_iastore (j := 0) (x' := 99) d14_4_111 ((ho4 28 (by omega)).trans ((ho3 28 (by omega)).trans ((ho2 28 (by omega)).trans ((ho1 28 (by omega)).trans h_28)))) (by omega) (show 28 < M4.1 by omega) (vp_in_iff.mpr (by decide)) (by decide) rfl ?_
      refine xj_abs_set (fun M5 hs5 ha5 ho5 => ?_)
      refine xj_aload_n (i := 0) d14_4_112 rfl rfl ?_
      refine xj_dup d14_4_113 rfl ?_
      refine xj_get d14_4_114 f14_104_12 ((ho5 24 (by omega)).trans ((ho4 24 (by omega)).trans ((ho3 24 (by omega)).trans ha2))) (by omega) (show 24 < M5.1 by omega) rfl ?_
      refine xj_iconst (v := 1) d14_4_117 (by decide) ?_
      refine xj_iadd (v := 1) d14_4_118 (by decide) ?_
      refine xj_put (a := 24) (fs' := [.ref 25, .ref 26, .ref 27, .ref 28, .ref 29, .ref 30, .int 0, .int 1, .int 0, .ref 31, .int 0, .ref 32, .int 0, .int 0, .ref 33, .ref 34, .ref 35, .ref 36, .ref 37, .ref 38, .ref 39, .ref 40, .int 0, .int 0, .int 0, .ref 41, .ref 42, .ref 43, .ref 44, .ref 45, .ref 46, .ref 47, .ref 48, .int 0, .ref 49, .ref 50, .int 0, .int 0, .int 0, .int 0, .int 0, .ref 51]) d14_4_119 f14_104_12 ((ho5 24 (by omega)).trans ((ho4 24 (by omega)).trans ((ho3 24 (by omega)).trans ha2))) (by omega) (show 24 < M5.1 by omega) (Nat.le_of_ble_eq_true rfl) rfl rfl rfl ?_
      refine xj_abs_set (fun M6 hs6 ha6 ho6 => ?_)
      refine xj_aload_n (i := 0) d14_4_122 rfl rfl ?_
      refine xj_bipush (v := 99) d14_4_123 (by decide) ?_
      refine xj_callV (rest := []) (As := [.int 99]) (b := 24) (mHolds hg (M := M6) (n := n) (a := 24) (ia := 28) (f := upd f 0 99) (s := 99) (o0 := .ref 25) (o1 := .ref 26) (o2 := .ref 27) (o4 := .ref 29) (o5 := .ref 30) (o6 := .int 0) (o7 := .int 1) (o8 := .int 0) (o9 := .ref 31) (o10 := .int 0) (o11 := .ref 32) (o12 := .int 0) (o13 := .int 0) (o14 := .ref 33) (o15 := .ref 34) (o16 := .ref 35) (o17 := .ref 36) (o18 := .ref 37) (o19 := .ref 38) (o20 := .ref 39) (o21 := .ref 40) (o22 := .int 0) (o23 := .int 0) (o24 := .int 0) (o25 := .ref 41) (o26 := .ref 42) (o27 := .ref 43) (o28 := .ref 44) (o29 := .ref 45) (o30 := .ref 46) (o31 := .ref 47) (o32 := .ref 48) (o33 := .int 0) (o34 := .ref 49) (o35 := .ref 50) (o36 := .int 0) (o37 := .int 0) (o38 := .int 0) (o39 := .int 0) (o40 := .int 0) (o41 := .ref 51) (show M6.1 = n by omega) (by omega) (by omega) (by omega) ha6 (by omega) (by omega) ((ho6 28 (by omega)).trans ha5)) d14_4_125 wd14_7 ha6 (by omega) (show 24 < M6.1 by omega) rfl s14_7 w1147 (Or.inl w1145) rfl rfl (Nat.le_of_ble_eq_true rfl) (by omega) (by omega) (by omega) ?_
      rintro v M' ⟨rfl, hm⟩
      subst M'
      refine xj_istore (i := 4) (L' := [(4, .int (nI (xcnt (upd f 0 99) 99 128))), (3, .int 0), (2, .int 0), (0, .ref 24), (1, .int c)]) d14_4_128 (by decide) rfl ?_
      refine xj_iload (i := 4) d14_4_130 rfl ?_
      refine xj_iconst (v := 3) d14_4_132 (by decide) ?_
      refine xj_icmp_ne (tgt := 180) d14_4_133 rfl (fun _ => ?_) (fun h => absurd h (by rw [xcnt_one hf]; decide))
      refine xj_aload_n (i := 0) d14_4_180 rfl rfl ?_
      refine xj_get d14_4_181 f14_104_12 ha6 (by omega) (show 24 < M6.1 by omega) rfl ?_
      exact xj_ret d14_4_184 (by omega) (by omega) rfl (congrArg (fun z => some (Value.int z)) (xS_t ⟨hb1, xnm2 hb2⟩).symm)
    · refine xj_iconst (v := (-1)) d14_4_10 (by decide) ?_
      exact xj_ret d14_4_11 (by omega) (by omega) rfl (congrArg (fun z => some (Value.int z)) (xS_f (by rintro ⟨h1, h2⟩; first | exact h1 hb1 | exact hb2 (xnm h2))).symm)
set_option maxRecDepth 20000 in
set_option maxHeartbeats 4000000 in
theorem pm_back {G : xG} (hg : xGood G) (hxn : xn = 16) (hZ : va_Z "java/util/ArrayList" "DEFAULTCAPACITY_EMPTY_ELEMENTDATA" "[Ljava/lang/Object;" (.ref (xa G 1)) (fun q => (xs G).heap.size ≤ q) (xs G) (xs G).heap) (hT : va_T (.object "java/lang/Object") (xa G 1) 0 (fun _ => .null) (fun q => (xs G).heap.size ≤ q) (xs G) (xs G).heap) {M : xM} {n : Nat} (hn : M.1 = n) (hn2 : 52 ≤ n) (hF : p1M M)  : XC G Y14_18 (some .int) 0 0 0 [.ref 24] M (fun v M' => v = some (.int 0)) := by
  obtain ⟨f, g, hf, hgc, h_24, h_25, h_26, h_27, h_28, h_29, h_30, h_31, h_32, h_33, h_34, h_35, h_36, h_37, h_38, h_39, h_40, h_41, h_42, h_43, h_44, h_45, h_46, h_47, h_48, h_49, h_50, h_51⟩ := hF
  refine xc_of hg (by decide) (Nat.le_of_ble_eq_true rfl) (Or.inl ⟨rfl, rfl, fun v M' h => ⟨_, h⟩⟩) ?_
  refine xj_aload_n (i := 0) d14_18_0 rfl rfl ?_
  refine xj_aload_n (i := 0) d14_18_1 rfl rfl ?_
  refine xj_get d14_18_2 f14_130_12 h_24 (by omega) (show 24 < M.1 by omega) rfl ?_
  refine xj_if_ne (tgt := 12) d14_18_5 rfl (fun h => absurd (by decide) h) (fun _ => ?_)
  refine xj_iconst (v := 0) d14_18_8 (by decide) ?_
  refine xj_goto (tgt := 18) d14_18_9 rfl ?_
  refine xj_put (a := 24) (fs' := [.ref 25, .ref 26, .ref 27, .ref 28, .ref 29, .ref 30, .int 0, .int 0, .int 0, .ref 31, .int 0, .ref 32, .int 0, .int 0, .ref 33, .ref 34, .ref 35, .ref 36, .ref 37, .ref 38, .ref 39, .ref 40, .int 0, .int 0, .int 0, .ref 41, .ref 42, .ref 43, .ref 44, .ref 45, .ref 46, .ref 47, .ref 48, .int 0, .ref 49, .ref 50, .int 0, .int 0, .int 0, .int 0, .int 0, .ref 51]) d14_18_18 f14_130_12 h_24 (by omega) (show 24 < M.1 by omega) (Nat.le_of_ble_eq_true rfl) rfl rfl rfl ?_
  refine xj_abs_set (fun M1 hs1 ha1 ho1 => ?_)
  refine xj_aload_n (i := 0) d14_18_21 rfl rfl ?_
  refine xj_get d14_18_22 f14_130_12 ha1 (by omega) (show 24 < M1.1 by omega) rfl ?_
  exact xj_ret d14_18_25 (by omega) (by omega) rfl rfl
set_option maxRecDepth 20000 in
set_option maxHeartbeats 4000000 in
theorem pm_possible {G : xG} (hg : xGood G) (hxn : xn = 16) (hZ : va_Z "java/util/ArrayList" "DEFAULTCAPACITY_EMPTY_ELEMENTDATA" "[Ljava/lang/Object;" (.ref (xa G 1)) (fun q => (xs G).heap.size ≤ q) (xs G) (xs G).heap) (hT : va_T (.object "java/lang/Object") (xa G 1) 0 (fun _ => .null) (fun q => (xs G).heap.size ≤ q) (xs G) (xs G).heap) {M : xM} {n : Nat} (hn : M.1 = n) (hn2 : 52 ≤ n) (hF : p1M M)  : XC G Y14_62 (some .int) 0 0 0 [.ref 24] M (fun v M' => v = some (.int 0)) := by
  obtain ⟨f, g, hf, hgc, h_24, h_25, h_26, h_27, h_28, h_29, h_30, h_31, h_32, h_33, h_34, h_35, h_36, h_37, h_38, h_39, h_40, h_41, h_42, h_43, h_44, h_45, h_46, h_47, h_48, h_49, h_50, h_51⟩ := hF
  refine xc_of hg (by decide) (Nat.le_of_ble_eq_true rfl) (Or.inl ⟨rfl, rfl, fun v M' h => ⟨_, h⟩⟩) ?_
  refine xj_aload_n (i := 0) d14_62_0 rfl rfl ?_
  refine xj_get d14_62_1 f14_286_12 h_24 (by omega) (show 24 < M.1 by omega) rfl ?_
  exact xj_ret d14_62_4 (by omega) (by omega) rfl rfl
set_option maxRecDepth 20000 in
set_option maxHeartbeats 4000000 in
theorem pm_left {G : xG} (hg : xGood G) (hxn : xn = 16) (hZ : va_Z "java/util/ArrayList" "DEFAULTCAPACITY_EMPTY_ELEMENTDATA" "[Ljava/lang/Object;" (.ref (xa G 1)) (fun q => (xs G).heap.size ≤ q) (xs G) (xs G).heap) (hT : va_T (.object "java/lang/Object") (xa G 1) 0 (fun _ => .null) (fun q => (xs G).heap.size ≤ q) (xs G) (xs G).heap) {M : xM} {n : Nat} (hn : M.1 = n) (hn2 : 52 ≤ n) (hF : p1M M)  : XC G Y14_14 (some .int) 0 0 0 [.ref 24] M (fun v M' => v = some (.int 0)) := by
  obtain ⟨f, g, hf, hgc, h_24, h_25, h_26, h_27, h_28, h_29, h_30, h_31, h_32, h_33, h_34, h_35, h_36, h_37, h_38, h_39, h_40, h_41, h_42, h_43, h_44, h_45, h_46, h_47, h_48, h_49, h_50, h_51⟩ := hF
  refine xc_of hg (by decide) (Nat.le_of_ble_eq_true rfl) (Or.inl ⟨rfl, rfl, fun v M' h => ⟨_, h⟩⟩) ?_
  refine xj_aload_n (i := 0) d14_14_0 rfl rfl ?_
  refine xj_get d14_14_1 f14_120_12 h_24 (by omega) (show 24 < M.1 by omega) rfl ?_
  exact xj_ret d14_14_4 (by omega) (by omega) rfl rfl
set_option maxRecDepth 20000 in
set_option maxHeartbeats 4000000 in
theorem pm_shards {G : xG} (hg : xGood G) (hxn : xn = 16) (hZ : va_Z "java/util/ArrayList" "DEFAULTCAPACITY_EMPTY_ELEMENTDATA" "[Ljava/lang/Object;" (.ref (xa G 1)) (fun q => (xs G).heap.size ≤ q) (xs G) (xs G).heap) (hT : va_T (.object "java/lang/Object") (xa G 1) 0 (fun _ => .null) (fun q => (xs G).heap.size ≤ q) (xs G) (xs G).heap) {M : xM} {n : Nat} (hn : M.1 = n) (hn2 : 52 ≤ n) (hF : p1M M)  : XC G Y14_11 (some .int) 0 0 0 [.ref 24] M (fun v M' => v = some (.int 0)) := by
  obtain ⟨f, g, hf, hgc, h_24, h_25, h_26, h_27, h_28, h_29, h_30, h_31, h_32, h_33, h_34, h_35, h_36, h_37, h_38, h_39, h_40, h_41, h_42, h_43, h_44, h_45, h_46, h_47, h_48, h_49, h_50, h_51⟩ := hF
  refine xc_of hg (by decide) (Nat.le_of_ble_eq_true rfl) (Or.inl ⟨rfl, rfl, fun v M' h => ⟨_, h⟩⟩) ?_
  refine xj_aload_n (i := 0) d14_11_0 rfl rfl ?_
  refine xj_get d14_11_1 f14_114_12 h_24 (by omega) (show 24 < M.1 by omega) rfl ?_
  exact xj_ret d14_11_4 (by omega) (by omega) rfl rfl
set_option maxRecDepth 20000 in
set_option maxHeartbeats 4000000 in
theorem pm_hit {G : xG} (hg : xGood G) (hxn : xn = 16) (hZ : va_Z "java/util/ArrayList" "DEFAULTCAPACITY_EMPTY_ELEMENTDATA" "[Ljava/lang/Object;" (.ref (xa G 1)) (fun q => (xs G).heap.size ≤ q) (xs G) (xs G).heap) (hT : va_T (.object "java/lang/Object") (xa G 1) 0 (fun _ => .null) (fun q => (xs G).heap.size ≤ q) (xs G) (xs G).heap) {M : xM} {n : Nat} (hn : M.1 = n) (hn2 : 52 ≤ n) (hF : p1M M) {c : Int32} : XC G Y14_63 (some .int) 0 0 0 [.ref 24, .int c] M (fun v M' => v = some (.int (-1))) := by
  obtain ⟨f, g, hf, hgc, h_24, h_25, h_26, h_27, h_28, h_29, h_30, h_31, h_32, h_33, h_34, h_35, h_36, h_37, h_38, h_39, h_40, h_41, h_42, h_43, h_44, h_45, h_46, h_47, h_48, h_49, h_50, h_51⟩ := hF
  refine xc_of hg (by decide) (Nat.le_of_ble_eq_true rfl) (Or.inl ⟨rfl, rfl, fun v M' h => ⟨_, h⟩⟩) ?_
  refine xj_aload_n (i := 0) d14_63_0 rfl rfl ?_
  refine xj_get d14_63_1 f14_283_12 h_24 (by omega) (show 24 < M.1 by omega) rfl ?_
  refine xj_if_eq (tgt := 28) d14_63_4 rfl (fun _ => ?_) (fun h => absurd (by decide) h)
  refine xj_iconst (v := (-1)) d14_63_28 (by decide) ?_
  exact xj_ret d14_63_29 (by omega) (by omega) rfl rfl
set_option maxRecDepth 20000 in
set_option maxHeartbeats 4000000 in
theorem pm_compact {G : xG} (hg : xGood G) (hxn : xn = 16) (hZ : va_Z "java/util/ArrayList" "DEFAULTCAPACITY_EMPTY_ELEMENTDATA" "[Ljava/lang/Object;" (.ref (xa G 1)) (fun q => (xs G).heap.size ≤ q) (xs G) (xs G).heap) (hT : va_T (.object "java/lang/Object") (xa G 1) 0 (fun _ => .null) (fun q => (xs G).heap.size ≤ q) (xs G) (xs G).heap) {M : xM} {n : Nat} (hn : M.1 = n) (hn2 : 52 ≤ n) (hF : p1M M)  : XC G Y14_13 (some .int) 1 0 0 [.ref 24] M (fun v M' => v = some (.int 0)) := by
  obtain ⟨f, g, hf, hgc, h_24, h_25, h_26, h_27, h_28, h_29, h_30, h_31, h_32, h_33, h_34, h_35, h_36, h_37, h_38, h_39, h_40, h_41, h_42, h_43, h_44, h_45, h_46, h_47, h_48, h_49, h_50, h_51⟩ := hF
  refine xc_of hg (by decide) (Nat.le_of_ble_eq_true rfl) (Or.inl ⟨rfl, rfl, fun v M' h => ⟨_, h⟩⟩) ?_
  refine xj_aload_n (i := 0) d14_13_0 rfl rfl ?_
  refine xj_bipush (v := 99) d14_13_1 (by decide) ?_
  refine xj_callV (rest := []) (As := [.int 99]) (b := 24) (mHolds hg (M := M) (n := n) (a := 24) (ia := 28) (f := f) (s := 99) (o0 := .ref 25) (o1 := .ref 26) (o2 := .ref 27) (o4 := .ref 29) (o5 := .ref 30) (o6 := .int 0) (o7 := .int 0) (o8 := .int 0) (o9 := .ref 31) (o10 := .int 0) (o11 := .ref 32) (o12 := .int 0) (o13 := .int 0) (o14 := .ref 33) (o15 := .ref 34) (o16 := .ref 35) (o17 := .ref 36) (o18 := .ref 37) (o19 := .ref 38) (o20 := .ref 39) (o21 := .ref 40) (o22 := .int 0) (o23 := .int 0) (o24 := .int 0) (o25 := .ref 41) (o26 := .ref 42) (o27 := .ref 43) (o28 := .ref 44) (o29 := .ref 45) (o30 := .ref 46) (o31 := .ref 47) (o32 := .ref 48) (o33 := .int 0) (o34 := .ref 49) (o35 := .ref 50) (o36 := .int 0) (o37 := .int 0) (o38 := .int 0) (o39 := .int 0) (o40 := .int 0) (o41 := .ref 51) (show M.1 = n by omega) (by omega) (by omega) (by omega) h_24 (by omega) (by omega) h_28) d14_13_3 wd14_7 h_24 (by omega) (show 24 < M.1 by omega) rfl s14_7 w1147 (Or.inl w1145) rfl rfl (Nat.le_of_ble_eq_true rfl) (by omega) (by omega) (by omega) ?_
  rintro v M' ⟨rfl, hm⟩
  subst M'
  refine xj_istore_n (i := 1) (L' := [(1, .int (nI (xcnt f 99 128))), (0, .ref 24)]) d14_13_6 rfl (by decide) rfl ?_
  refine xj_iload_n (i := 1) d14_13_7 rfl rfl ?_
  refine xj_if_le (tgt := 15) d14_13_8 rfl (fun _ => ?_) (fun h => absurd (by rw [xcnt_zero hf (by decide)]; decide) h)
  refine xj_iconst (v := 0) d14_13_15 (by decide) ?_
  refine xj_istore_n (i := 2) (L' := [(2, .int 0), (1, .int (nI (xcnt f 99 128))), (0, .ref 24)]) d14_13_16 rfl (by decide) rfl ?_
  refine xj_aload_n (i := 0) d14_13_17 rfl rfl ?_
  refine xj_get d14_13_18 f14_114_12 h_24 (by omega) (show 24 < M.1 by omega) rfl ?_
  refine xj_iconst (v := 1) d14_13_21 (by decide) ?_
  refine xj_icmp_le (tgt := 35) d14_13_22 rfl (fun _ => ?_) (fun h => absurd (by decide) h)
  refine xj_iload_n (i := 2) d14_13_35 rfl rfl ?_
  exact xj_ret d14_13_36 (by omega) (by omega) rfl rfl
set_option maxRecDepth 20000 in
theorem mBegin0 {G : xG} (hg : xGood G) {M : xM} {n : Nat} (hn : M.1 = n) (hx : xn ≤ n) {a : Nat} {fp : Nat} {lp : Nat} {fbr : Nat} {lb : Nat} {k0 : Nat → Int32} {k1 : Nat → Int32} {k2 : Nat → Int32} {k3 : Nat → Int32} {o0 : Value} {o1 : Value} {o2 : Value} {o3 : Value} {o4 : Value} {o5 : Value} {o6 : Value} {o7 : Value} {o8 : Value} {o9 : Value} {o10 : Value} {o11 : Value} {o12 : Value} {o13 : Value} {o14 : Value} {o15 : Value} {o16 : Value} {o17 : Value} {o18 : Value} {o19 : Value} {o20 : Value} {o21 : Value} {o22 : Value} {o24 : Value} {o29 : Value} {o30 : Value} {o31 : Value} {o32 : Value} {o33 : Value} {o34 : Value} {o35 : Value} {o36 : Value} {o37 : Value} {o38 : Value} {o39 : Value} {o40 : Value} {o41 : Value} (h1_a : xn ≤ a) (h2_a : a < n) (h_a : M.2 a = (.inr (12, [o0, o1, o2, o3, o4, o5, o6, o7, o8, o9, o10, o11, o12, o13, o14, o15, o16, o17, o18, o19, o20, o21, o22, .int 0, o24, .ref fp, .ref lp, .ref fbr, .ref lb, o29, o30, o31, o32, o33, o34, o35, o36, o37, o38, o39, o40, o41]))) (h1_fp : xn ≤ fp) (h2_fp : fp < n) (h_fp : M.2 fp = (.inl (0, 7, .inl k0))) (h1_lp : xn ≤ lp) (h2_lp : lp < n) (h_lp : M.2 lp = (.inl (0, 7, .inl k1))) (h1_fbr : xn ≤ fbr) (h2_fbr : fbr < n) (h_fbr : M.2 fbr = (.inl (0, 7, .inl k2))) (h1_lb : xn ≤ lb) (h2_lb : lb < n) (h_lb : M.2 lb = (.inl (0, 7, .inl k3))) (d1 : a ≠ fp ∧ a ≠ lp ∧ a ≠ fbr ∧ a ≠ lb ∧ fp ≠ lp ∧ fp ≠ fbr ∧ fp ≠ lb ∧ lp ≠ fbr ∧ lp ≠ lb ∧ fbr ≠ lb) : XC G Y14_23 none 0 0 0 [.ref a] M (fun v M' => v = none ∧ M'.1 = n ∧ (∀ j, j < n → j ≠ fp → j ≠ lp → j ≠ fbr → j ≠ lb → M'.2 j = M.2 j) ∧ M'.2 fp = (.inl (0, 7, .inl (upd k0 0 (-1)))) ∧ M'.2 lp = (.inl (0, 7, .inl (upd k1 0 (-1)))) ∧ M'.2 fbr = (.inl (0, 7, .inl (upd k2 0 (-1)))) ∧ M'.2 lb = (.inl (0, 7, .inl (upd k3 0 (-1))))) := by
  refine xc_of hg (by decide) (Nat.le_of_ble_eq_true rfl) (Or.inr (Or.inr (Or.inr (Or.inr (Or.inl ⟨rfl, rfl, fun v M' h => h.1⟩))))) ?_
  refine xj_aload_n (i := 0) d14_23_0 rfl rfl ?_
  refine xj_get d14_23_1 f14_59_12 h_a (by omega) (show a < M.1 by omega) rfl ?_
  refine xj_aload_n (i := 0) d14_23_4 rfl rfl ?_
  refine xj_get d14_23_5 f14_139_12 h_a (by omega) (show a < M.1 by omega) rfl ?_
  refine xj_iconst (v := (-1)) d14_23_8 (by decide) ?_
  refine xj_iastore (j := 0) (x' := (-1)) d14_23_9 h_fp (by omega) (show fp < M.1 by omega) (vp_in_iff.mpr (by decide)) (by decide) rfl ?_
  refine xj_abs_set (fun M1 hs1 ha1 ho1 => ?_)
  refine xj_aload_n (i := 0) d14_23_10 rfl rfl ?_
  refine xj_get d14_23_11 f14_62_12 ((ho1 a (by omega)).trans h_a) (by omega) (show a < M1.1 by omega) rfl ?_
  refine xj_aload_n (i := 0) d14_23_14 rfl rfl ?_
  refine xj_get d14_23_15 f14_139_12 ((ho1 a (by omega)).trans h_a) (by omega) (show a < M1.1 by omega) rfl ?_
  refine xj_iconst (v := (-1)) d14_23_18 (by decide) ?_
  refine xj_iastore (j := 0) (x' := (-1)) d14_23_19 ((ho1 lp (by omega)).trans h_lp) (by omega) (show lp < M1.1 by omega) (vp_in_iff.mpr (by decide)) (by decide) rfl ?_
  refine xj_abs_set (fun M2 hs2 ha2 ho2 => ?_)
  refine xj_aload_n (i := 0) d14_23_20 rfl rfl ?_
  refine xj_get d14_23_21 f14_65_12 ((ho2 a (by omega)).trans ((ho1 a (by omega)).trans h_a)) (by omega) (show a < M2.1 by omega) rfl ?_
  refine xj_aload_n (i := 0) d14_23_24 rfl rfl ?_
  refine xj_get d14_23_25 f14_139_12 ((ho2 a (by omega)).trans ((ho1 a (by omega)).trans h_a)) (by omega) (show a < M2.1 by omega) rfl ?_
  refine xj_iconst (v := (-1)) d14_23_28 (by decide) ?_
  refine xj_iastore (j := 0) (x' := (-1)) d14_23_29 ((ho2 fbr (by omega)).trans ((ho1 fbr (by omega)).trans h_fbr)) (by omega) (show fbr < M2.1 by omega) (vp_in_iff.mpr (by decide)) (by decide) rfl ?_
  refine xj_abs_set (fun M3 hs3 ha3 ho3 => ?_)
  refine xj_aload_n (i := 0) d14_23_30 rfl rfl ?_
  refine xj_get d14_23_31 f14_68_12 ((ho3 a (by omega)).trans ((ho2 a (by omega)).trans ((ho1 a (by omega)).trans h_a))) (by omega) (show a < M3.1 by omega) rfl ?_
  refine xj_aload_n (i := 0) d14_23_34 rfl rfl ?_
  refine xj_get d14_23_35 f14_139_12 ((ho3 a (by omega)).trans ((ho2 a (by omega)).trans ((ho1 a (by omega)).trans h_a))) (by omega) (show a < M3.1 by omega) rfl ?_
  refine xj_iconst (v := (-1)) d14_23_38 (by decide) ?_
  refine xj_iastore (j := 0) (x' := (-1)) d14_23_39 ((ho3 lb (by omega)).trans ((ho2 lb (by omega)).trans ((ho1 lb (by omega)).trans h_lb))) (by omega) (show lb < M3.1 by omega) (vp_in_iff.mpr (by decide)) (by decide) rfl ?_
  refine xj_abs_set (fun M4 hs4 ha4 ho4 => ?_)
  exact xj_ret d14_23_40 (by omega) (by omega) rfl ⟨rfl, (show M4.1 = n by omega), (fun j hj hj0 hj1 hj2 hj3 => ((ho4 j (by omega)).trans ((ho3 j (by omega)).trans ((ho2 j (by omega)).trans (ho1 j (by omega)))))), ((ho4 fp (by omega)).trans ((ho3 fp (by omega)).trans ((ho2 fp (by omega)).trans ha1))), ((ho4 lp (by omega)).trans ((ho3 lp (by omega)).trans ha2)), ((ho4 fbr (by omega)).trans ha3), ha4⟩
set_option maxRecDepth 20000 in
theorem mBare1 {G : xG} (hg : xGood G) {M : xM} {n : Nat} (hn : M.1 = n) (hx : xn ≤ n) {a : Nat} {fp : Nat} {k0 : Nat → Int32} {o0 : Value} {o1 : Value} {o2 : Value} {o3 : Value} {o4 : Value} {o5 : Value} {o6 : Value} {o7 : Value} {o8 : Value} {o9 : Value} {o10 : Value} {o11 : Value} {o12 : Value} {o13 : Value} {o14 : Value} {o15 : Value} {o16 : Value} {o17 : Value} {o18 : Value} {o19 : Value} {o20 : Value} {o21 : Value} {o22 : Value} {o24 : Value} {o26 : Value} {o27 : Value} {o28 : Value} {o29 : Value} {o30 : Value} {o31 : Value} {o32 : Value} {o33 : Value} {o34 : Value} {o35 : Value} {o36 : Value} {o37 : Value} {o38 : Value} {o39 : Value} {o40 : Value} {o41 : Value} (h1_a : xn ≤ a) (h2_a : a < n) (h_a : M.2 a = (.inr (12, [o0, o1, o2, o3, o4, o5, o6, o7, o8, o9, o10, o11, o12, o13, o14, o15, o16, o17, o18, o19, o20, o21, o22, .int 0, o24, .ref fp, o26, o27, o28, o29, o30, o31, o32, o33, o34, o35, o36, o37, o38, o39, o40, o41]))) (h1_fp : xn ≤ fp) (h2_fp : fp < n) (h_fp : M.2 fp = (.inl (0, 7, .inl k0))) (hk : k0 0 = -1) : XC G Y14_21 (some .boolean) 0 0 0 [.ref a] M (fun v M' => v = some (.int 1) ∧ M' = M) := by
  refine xc_of hg (by decide) (Nat.le_of_ble_eq_true rfl) (Or.inr (Or.inl ⟨rfl, rfl, fun v M' h => ⟨_, h.1, Or.inr rfl⟩⟩)) ?_
  refine xj_aload_n (i := 0) d14_21_0 rfl rfl ?_
  refine xj_get d14_21_1 f14_59_12 h_a (by omega) (show a < M.1 by omega) rfl ?_
  refine xj_aload_n (i := 0) d14_21_4 rfl rfl ?_
  refine xj_get d14_21_5 f14_139_12 h_a (by omega) (show a < M.1 by omega) rfl ?_
  refine xj_iaload (j := 0) d14_21_8 h_fp (by omega) (show fp < M.1 by omega) (vp_in_iff.mpr (by decide)) (by decide) ?_
  rw [show k0 0 = -1 from hk]
  refine xj_if_ge (tgt := 16) d14_21_9 rfl (fun h => absurd h (by decide)) (fun _ => ?_)
  refine xj_iconst (v := 1) d14_21_12 (by decide) ?_
  refine xj_goto (tgt := 17) d14_21_13 rfl ?_
  exact xj_ret d14_21_17 (by omega) (by omega) rfl ⟨rfl, rfl⟩
set_option maxRecDepth 20000 in
theorem mRead0 {G : xG} (hg : xGood G) {M : xM} {n : Nat} (hn : M.1 = n) (hx : xn ≤ n) {a : Nat} {fp : Nat} {lp : Nat} {fbr : Nat} {lb : Nat} {k0 : Nat → Int32} {k1 : Nat → Int32} {k2 : Nat → Int32} {k3 : Nat → Int32} {o0 : Value} {o1 : Value} {o2 : Value} {o3 : Value} {o4 : Value} {o5 : Value} {o6 : Value} {o7 : Value} {o8 : Value} {o9 : Value} {o10 : Value} {o11 : Value} {o13 : Value} {o14 : Value} {o15 : Value} {o16 : Value} {o17 : Value} {o18 : Value} {o19 : Value} {o20 : Value} {o21 : Value} {o22 : Value} {o23 : Value} {o24 : Value} {o29 : Value} {o30 : Value} {o31 : Value} {o32 : Value} {o33 : Value} {o34 : Value} {o35 : Value} {o36 : Value} {o37 : Value} {o38 : Value} {o39 : Value} {o40 : Value} {o41 : Value} (h1_a : xn ≤ a) (h2_a : a < n) (h_a : M.2 a = (.inr (12, [o0, o1, o2, o3, o4, o5, o6, o7, o8, o9, o10, o11, .int 0, o13, o14, o15, o16, o17, o18, o19, o20, o21, o22, o23, o24, .ref fp, .ref lp, .ref fbr, .ref lb, o29, o30, o31, o32, o33, o34, o35, o36, o37, o38, o39, o40, o41]))) (h1_fp : xn ≤ fp) (h2_fp : fp < n) (h_fp : M.2 fp = (.inl (0, 7, .inl k0))) (h1_lp : xn ≤ lp) (h2_lp : lp < n) (h_lp : M.2 lp = (.inl (0, 7, .inl k1))) (h1_fbr : xn ≤ fbr) (h2_fbr : fbr < n) (h_fbr : M.2 fbr = (.inl (0, 7, .inl k2))) (h1_lb : xn ≤ lb) (h2_lb : lb < n) (h_lb : M.2 lb = (.inl (0, 7, .inl k3))) (d1 : a ≠ fp ∧ a ≠ lp ∧ a ≠ fbr ∧ a ≠ lb ∧ fp ≠ lp ∧ fp ≠ fbr ∧ fp ≠ lb ∧ lp ≠ fbr ∧ lp ≠ lb ∧ fbr ≠ lb) : XC G Y14_40 none 1 0 0 [.ref a] M (fun v M' => v = none ∧ M'.1 = n ∧ (∀ j, j < n → j ≠ a → j ≠ fp → j ≠ lp → j ≠ fbr → j ≠ lb → M'.2 j = M.2 j) ∧ M'.2 a = (.inr (12, [o0, o1, o2, o3, o4, o5, o6, o7, o8, o9, o10, o11, .int 0, .int 0, o14, o15, o16, o17, o18, o19, o20, o21, .int 0, .int 0, .int 1, .ref fp, .ref lp, .ref fbr, .ref lb, o29, o30, o31, o32, o33, o34, o35, o36, o37, o38, o39, o40, o41])) ∧ M'.2 fp = (.inl (0, 7, .inl (upd k0 0 (-1)))) ∧ M'.2 lp = (.inl (0, 7, .inl (upd k1 0 (-1)))) ∧ M'.2 fbr = (.inl (0, 7, .inl (upd k2 0 (-1)))) ∧ M'.2 lb = (.inl (0, 7, .inl (upd k3 0 (-1))))) := by
  refine xc_of hg (by decide) (Nat.le_of_ble_eq_true rfl) (Or.inr (Or.inr (Or.inr (Or.inr (Or.inl ⟨rfl, rfl, fun v M' h => h.1⟩))))) ?_
  refine xj_aload_n (i := 0) d14_40_0 rfl rfl ?_
  refine xj_iconst (v := 0) d14_40_1 (by decide) ?_
  refine xj_put (a := a) (fs' := [o0, o1, o2, o3, o4, o5, o6, o7, o8, o9, o10, o11, .int 0, .int 0, o14, o15, o16, o17, o18, o19, o20, o21, o22, o23, o24, .ref fp, .ref lp, .ref fbr, .ref lb, o29, o30, o31, o32, o33, o34, o35, o36, o37, o38, o39, o40, o41]) d14_40_2 f14_136_12 h_a (by omega) (show a < M.1 by omega) (Nat.le_of_ble_eq_true rfl) rfl rfl rfl ?_
  refine xj_abs_set (fun M1 hs1 ha1 ho1 => ?_)
  refine xj_aload_n (i := 0) d14_40_5 rfl rfl ?_
  refine xj_iconst (v := 0) d14_40_6 (by decide) ?_
  refine xj_put (a := a) (fs' := [o0, o1, o2, o3, o4, o5, o6, o7, o8, o9, o10, o11, .int 0, .int 0, o14, o15, o16, o17, o18, o19, o20, o21, .int 0, o23, o24, .ref fp, .ref lp, .ref fbr, .ref lb, o29, o30, o31, o32, o33, o34, o35, o36, o37, o38, o39, o40, o41]) d14_40_7 f14_133_12 ha1 (by omega) (show a < M1.1 by omega) (Nat.le_of_ble_eq_true rfl) rfl rfl rfl ?_
  refine xj_abs_set (fun M2 hs2 ha2 ho2 => ?_)
  refine xj_aload_n (i := 0) d14_40_10 rfl rfl ?_
  refine xj_iconst (v := 0) d14_40_11 (by decide) ?_
  refine xj_put (a := a) (fs' := [o0, o1, o2, o3, o4, o5, o6, o7, o8, o9, o10, o11, .int 0, .int 0, o14, o15, o16, o17, o18, o19, o20, o21, .int 0, .int 0, o24, .ref fp, .ref lp, .ref fbr, .ref lb, o29, o30, o31, o32, o33, o34, o35, o36, o37, o38, o39, o40, o41]) d14_40_12 f14_139_12 ha2 (by omega) (show a < M2.1 by omega) (Nat.le_of_ble_eq_true rfl) rfl rfl rfl ?_
  refine xj_abs_set (fun M3 hs3 ha3 ho3 => ?_)
  refine xj_aload_n (i := 0) d14_40_15 rfl rfl ?_
  refine xj_iconst (v := 0) d14_40_16 (by decide) ?_
  refine xj_put (a := a) (fs' := [o0, o1, o2, o3, o4, o5, o6, o7, o8, o9, o10, o11, .int 0, .int 0, o14, o15, o16, o17, o18, o19, o20, o21, .int 0, .int 0, .int 0, .ref fp, .ref lp, .ref fbr, .ref lb, o29, o30, o31, o32, o33, o34, o35, o36, o37, o38, o39, o40, o41]) d14_40_17 f14_156_12 ha3 (by omega) (show a < M3.1 by omega) (Nat.le_of_ble_eq_true rfl) rfl rfl rfl ?_
  refine xj_abs_set (fun M4 hs4 ha4 ho4 => ?_)
  refine xj_aload_n (i := 0) d14_40_20 rfl rfl ?_
  refine xj_callV (rest := []) (As := []) (b := a) (mBegin0 hg (M := M4) (n := n) (a := a) (fp := fp) (lp := lp) (fbr := fbr) (lb := lb) (k0 := k0) (k1 := k1) (k2 := k2) (k3 := k3) (o0 := o0) (o1 := o1) (o2 := o2) (o3 := o3) (o4 := o4) (o5 := o5) (o6 := o6) (o7 := o7) (o8 := o8) (o9 := o9) (o10 := o10) (o11 := o11) (o12 := .int 0) (o13 := .int 0) (o14 := o14) (o15 := o15) (o16 := o16) (o17 := o17) (o18 := o18) (o19 := o19) (o20 := o20) (o21 := o21) (o22 := .int 0) (o24 := .int 0) (o29 := o29) (o30 := o30) (o31 := o31) (o32 := o32) (o33 := o33) (o34 := o34) (o35 := o35) (o36 := o36) (o37 := o37) (o38 := o38) (o39 := o39) (o40 := o40) (o41 := o41) (show M4.1 = n by omega) (by omega) (by omega) (by omega) ha4 (by omega) (by omega) ((ho4 fp (by omega)).trans ((ho3 fp (by omega)).trans ((ho2 fp (by omega)).trans ((ho1 fp (by omega)).trans h_fp)))) (by omega) (by omega) ((ho4 lp (by omega)).trans ((ho3 lp (by omega)).trans ((ho2 lp (by omega)).trans ((ho1 lp (by omega)).trans h_lp)))) (by omega) (by omega) ((ho4 fbr (by omega)).trans ((ho3 fbr (by omega)).trans ((ho2 fbr (by omega)).trans ((ho1 fbr (by omega)).trans h_fbr)))) (by omega) (by omega) ((ho4 lb (by omega)).trans ((ho3 lb (by omega)).trans ((ho2 lb (by omega)).trans ((ho1 lb (by omega)).trans h_lb)))) (by omega)) d14_40_21 wd14_23 ha4 (by omega) (show a < M4.1 by omega) rfl s14_23 w1208 (Or.inl w1206) rfl rfl (Nat.le_of_ble_eq_true rfl) (by omega) (by omega) (by omega) ?_
  rintro v M5 ⟨rfl, hs5, ho5, hf5_0, hf5_1, hf5_2, hf5_3⟩
  replace hs5 : M5.1 = n := hs5
  replace hf5_0 : M5.2 fp = (.inl (0, 7, .inl (upd k0 0 (-1)))) := hf5_0
  replace hf5_1 : M5.2 lp = (.inl (0, 7, .inl (upd k1 0 (-1)))) := hf5_1
  replace hf5_2 : M5.2 fbr = (.inl (0, 7, .inl (upd k2 0 (-1)))) := hf5_2
  replace hf5_3 : M5.2 lb = (.inl (0, 7, .inl (upd k3 0 (-1)))) := hf5_3
  refine xj_aload_n (i := 0) d14_40_24 rfl rfl ?_
  refine xj_get d14_40_25 f14_133_12 ((ho5 a (by omega) (by omega) (by omega) (by omega) (by omega)).trans ha4) (by omega) (show a < M5.1 by omega) rfl ?_
  refine xj_aload_n (i := 0) d14_40_28 rfl rfl ?_
  refine xj_get d14_40_29 f14_130_12 ((ho5 a (by omega) (by omega) (by omega) (by omega) (by omega)).trans ha4) (by omega) (show a < M5.1 by omega) rfl ?_
  refine xj_icmp_ge (tgt := 49) d14_40_32 rfl (fun _ => ?_) (fun h => absurd (by decide) h)
  refine xj_aload_n (i := 0) d14_40_49 rfl rfl ?_
  refine xj_get d14_40_50 f14_156_12 ((ho5 a (by omega) (by omega) (by omega) (by omega) (by omega)).trans ha4) (by omega) (show a < M5.1 by omega) rfl ?_
  refine xj_if_eq (tgt := 57) d14_40_53 rfl (fun _ => ?_) (fun h => absurd (by decide) h)
  refine xj_aload_n (i := 0) d14_40_57 rfl rfl ?_
  refine xj_get d14_40_58 f14_139_12 ((ho5 a (by omega) (by omega) (by omega) (by omega) (by omega)).trans ha4) (by omega) (show a < M5.1 by omega) rfl ?_
  refine xj_if_le (tgt := 72) d14_40_61 rfl (fun _ => ?_) (fun h => absurd (by decide) h)
  refine xj_aload_n (i := 0) d14_40_72 rfl rfl ?_
  refine xj_callV (rest := []) (As := []) (b := a) (mBare1 hg (M := M5) (n := n) (a := a) (fp := fp) (k0 := upd k0 0 (-1)) (o0 := o0) (o1 := o1) (o2 := o2) (o3 := o3) (o4 := o4) (o5 := o5) (o6 := o6) (o7 := o7) (o8 := o8) (o9 := o9) (o10 := o10) (o11 := o11) (o12 := .int 0) (o13 := .int 0) (o14 := o14) (o15 := o15) (o16 := o16) (o17 := o17) (o18 := o18) (o19 := o19) (o20 := o20) (o21 := o21) (o22 := .int 0) (o24 := .int 0) (o26 := .ref lp) (o27 := .ref fbr) (o28 := .ref lb) (o29 := o29) (o30 := o30) (o31 := o31) (o32 := o32) (o33 := o33) (o34 := o34) (o35 := o35) (o36 := o36) (o37 := o37) (o38 := o38) (o39 := o39) (o40 := o40) (o41 := o41) (show M5.1 = n by omega) (by omega) (by omega) (by omega) ((ho5 a (by omega) (by omega) (by omega) (by omega) (by omega)).trans ha4) (by omega) (by omega) hf5_0 rfl) d14_40_73 wd14_21 ((ho5 a (by omega) (by omega) (by omega) (by omega) (by omega)).trans ha4) (by omega) (show a < M5.1 by omega) rfl s14_21 w1224 (Or.inl w1222) rfl rfl (Nat.le_of_ble_eq_true rfl) (by omega) (by omega) (by omega) ?_
  rintro v M' ⟨rfl, hm⟩
  subst M'
  refine xj_if_eq (tgt := 87) d14_40_76 rfl (fun h => absurd h (by decide)) (fun _ => ?_)
  refine xj_aload_n (i := 0) d14_40_79 rfl rfl ?_
  refine xj_iconst (v := 1) d14_40_80 (by decide) ?_
  refine xj_put (a := a) (fs' := [o0, o1, o2, o3, o4, o5, o6, o7, o8, o9, o10, o11, .int 0, .int 0, o14, o15, o16, o17, o18, o19, o20, o21, .int 0, .int 0, .int 1, .ref fp, .ref lp, .ref fbr, .ref lb, o29, o30, o31, o32, o33, o34, o35, o36, o37, o38, o39, o40, o41]) d14_40_81 f14_156_12 ((ho5 a (by omega) (by omega) (by omega) (by omega) (by omega)).trans ha4) (by omega) (show a < M5.1 by omega) (Nat.le_of_ble_eq_true rfl) rfl rfl rfl ?_
  refine xj_abs_set (fun M6 hs6 ha6 ho6 => ?_)
  refine xj_goto (tgt := 117) d14_40_84 rfl ?_
  exact xj_ret d14_40_117 (by omega) (by omega) rfl ⟨rfl, (show M6.1 = n by omega), (fun j hj hj0 hj1 hj2 hj3 hj4 => ((ho6 j (by omega)).trans ((ho5 j (by omega) (by omega) (by omega) (by omega) (by omega)).trans ((ho4 j (by omega)).trans ((ho3 j (by omega)).trans ((ho2 j (by omega)).trans (ho1 j (by omega)))))))), ha6, ((ho6 fp (by omega)).trans hf5_0), ((ho6 lp (by omega)).trans hf5_1), ((ho6 fbr (by omega)).trans hf5_2), ((ho6 lb (by omega)).trans hf5_3)⟩
set_option maxRecDepth 20000 in
set_option maxHeartbeats 4000000 in
theorem pm_fault {G : xG} (hg : xGood G) (hxn : xn = 16) (hZ : va_Z "java/util/ArrayList" "DEFAULTCAPACITY_EMPTY_ELEMENTDATA" "[Ljava/lang/Object;" (.ref (xa G 1)) (fun q => (xs G).heap.size ≤ q) (xs G) (xs G).heap) (hT : va_T (.object "java/lang/Object") (xa G 1) 0 (fun _ => .null) (fun q => (xs G).heap.size ≤ q) (xs G) (xs G).heap) {M : xM} {n : Nat} (hn : M.1 = n) (hn2 : 52 ≤ n) (hF : p1M M)  : XC G Y14_41 (some .int) 2 0 0 [.ref 24] M (fun v M' => v = some (.int 1)) := by
  obtain ⟨f, g, hf, hgc, h_24, h_25, h_26, h_27, h_28, h_29, h_30, h_31, h_32, h_33, h_34, h_35, h_36, h_37, h_38, h_39, h_40, h_41, h_42, h_43, h_44, h_45, h_46, h_47, h_48, h_49, h_50, h_51⟩ := hF
  refine xc_of hg (by decide) (Nat.le_of_ble_eq_true rfl) (Or.inl ⟨rfl, rfl, fun v M' h => ⟨_, h⟩⟩) ?_
  refine xj_aload_n (i := 0) d14_41_0 rfl rfl ?_
  refine xj_callV (rest := []) (As := []) (b := 24) (mRead0 hg (M := M) (n := n) (a := 24) (fp := 41) (lp := 42) (fbr := 43) (lb := 44) (k0 := fun _ => 0) (k1 := fun _ => 0) (k2 := fun _ => 0) (k3 := fun _ => 0) (o0 := .ref 25) (o1 := .ref 26) (o2 := .ref 27) (o3 := .ref 28) (o4 := .ref 29) (o5 := .ref 30) (o6 := .int 0) (o7 := .int 0) (o8 := .int 0) (o9 := .ref 31) (o10 := .int 0) (o11 := .ref 32) (o13 := .int 0) (o14 := .ref 33) (o15 := .ref 34) (o16 := .ref 35) (o17 := .ref 36) (o18 := .ref 37) (o19 := .ref 38) (o20 := .ref 39) (o21 := .ref 40) (o22 := .int 0) (o23 := .int 0) (o24 := .int 0) (o29 := .ref 45) (o30 := .ref 46) (o31 := .ref 47) (o32 := .ref 48) (o33 := .int 0) (o34 := .ref 49) (o35 := .ref 50) (o36 := .int 0) (o37 := .int 0) (o38 := .int 0) (o39 := .int 0) (o40 := .int 0) (o41 := .ref 51) (show M.1 = n by omega) (by omega) (by omega) (by omega) h_24 (by omega) (by omega) h_41 (by omega) (by omega) h_42 (by omega) (by omega) h_43 (by omega) (by omega) h_44 (by omega)) d14_41_1 wd14_40 h_24 (by omega) (show 24 < M.1 by omega) rfl s14_40 w1204 (Or.inl w1202) rfl rfl (Nat.le_of_ble_eq_true rfl) (by omega) (by omega) (by omega) ?_
  rintro v M1 ⟨rfl, hs1, ho1, hf1_0, hf1_1, hf1_2, hf1_3, hf1_4⟩
  replace hs1 : M1.1 = n := hs1
  replace hf1_0 : M1.2 24 = (.inr (12, [.ref 25, .ref 26, .ref 27, .ref 28, .ref 29, .ref 30, .int 0, .int 0, .int 0, .ref 31, .int 0, .ref 32, .int 0, .int 0, .ref 33, .ref 34, .ref 35, .ref 36, .ref 37, .ref 38, .ref 39, .ref 40, .int 0, .int 0, .int 1, .ref 41, .ref 42, .ref 43, .ref 44, .ref 45, .ref 46, .ref 47, .ref 48, .int 0, .ref 49, .ref 50, .int 0, .int 0, .int 0, .int 0, .int 0, .ref 51])) := hf1_0
  replace hf1_1 : M1.2 41 = (.inl (0, 7, .inl (upd (fun _ => 0) 0 (-1)))) := hf1_1
  replace hf1_2 : M1.2 42 = (.inl (0, 7, .inl (upd (fun _ => 0) 0 (-1)))) := hf1_2
  replace hf1_3 : M1.2 43 = (.inl (0, 7, .inl (upd (fun _ => 0) 0 (-1)))) := hf1_3
  replace hf1_4 : M1.2 44 = (.inl (0, 7, .inl (upd (fun _ => 0) 0 (-1)))) := hf1_4
  refine xj_aload_n (i := 0) d14_41_4 rfl rfl ?_
  refine xj_get d14_41_5 f14_156_12 hf1_0 (by omega) (show 24 < M1.1 by omega) rfl ?_
  exact xj_ret d14_41_8 (by omega) (by omega) rfl rfl
set_option maxRecDepth 20000 in
set_option maxHeartbeats 4000000 in
theorem pm_size {G : xG} (hg : xGood G) (hxn : xn = 16) (hZ : va_Z "java/util/ArrayList" "DEFAULTCAPACITY_EMPTY_ELEMENTDATA" "[Ljava/lang/Object;" (.ref (xa G 1)) (fun q => (xs G).heap.size ≤ q) (xs G) (xs G).heap) (hT : va_T (.object "java/lang/Object") (xa G 1) 0 (fun _ => .null) (fun q => (xs G).heap.size ≤ q) (xs G) (xs G).heap) {M : xM} {n : Nat} (hn : M.1 = n) (hn2 : 52 ≤ n) (hF : p1M M)  : XC G Y14_42 (some .int) 2 0 0 [.ref 24] M (fun v M' => v = some (.int (-1))) := by
  obtain ⟨f, g, hf, hgc, h_24, h_25, h_26, h_27, h_28, h_29, h_30, h_31, h_32, h_33, h_34, h_35, h_36, h_37, h_38, h_39, h_40, h_41, h_42, h_43, h_44, h_45, h_46, h_47, h_48, h_49, h_50, h_51⟩ := hF
  refine xc_of hg (by decide) (Nat.le_of_ble_eq_true rfl) (Or.inl ⟨rfl, rfl, fun v M' h => ⟨_, h⟩⟩) ?_
  refine xj_aload_n (i := 0) d14_42_0 rfl rfl ?_
  refine xj_callV (rest := []) (As := []) (b := 24) (mRead0 hg (M := M) (n := n) (a := 24) (fp := 41) (lp := 42) (fbr := 43) (lb := 44) (k0 := fun _ => 0) (k1 := fun _ => 0) (k2 := fun _ => 0) (k3 := fun _ => 0) (o0 := .ref 25) (o1 := .ref 26) (o2 := .ref 27) (o3 := .ref 28) (o4 := .ref 29) (o5 := .ref 30) (o6 := .int 0) (o7 := .int 0) (o8 := .int 0) (o9 := .ref 31) (o10 := .int 0) (o11 := .ref 32) (o13 := .int 0) (o14 := .ref 33) (o15 := .ref 34) (o16 := .ref 35) (o17 := .ref 36) (o18 := .ref 37) (o19 := .ref 38) (o20 := .ref 39) (o21 := .ref 40) (o22 := .int 0) (o23 := .int 0) (o24 := .int 0) (o29 := .ref 45) (o30 := .ref 46) (o31 := .ref 47) (o32 := .ref 48) (o33 := .int 0) (o34 := .ref 49) (o35 := .ref 50) (o36 := .int 0) (o37 := .int 0) (o38 := .int 0) (o39 := .int 0) (o40 := .int 0) (o41 := .ref 51) (show M.1 = n by omega) (by omega) (by omega) (by omega) h_24 (by omega) (by omega) h_41 (by omega) (by omega) h_42 (by omega) (by omega) h_43 (by omega) (by omega) h_44 (by omega)) d14_42_1 wd14_40 h_24 (by omega) (show 24 < M.1 by omega) rfl s14_40 w1204 (Or.inl w1202) rfl rfl (Nat.le_of_ble_eq_true rfl) (by omega) (by omega) (by omega) ?_
  rintro v M1 ⟨rfl, hs1, ho1, hf1_0, hf1_1, hf1_2, hf1_3, hf1_4⟩
  replace hs1 : M1.1 = n := hs1
  replace hf1_0 : M1.2 24 = (.inr (12, [.ref 25, .ref 26, .ref 27, .ref 28, .ref 29, .ref 30, .int 0, .int 0, .int 0, .ref 31, .int 0, .ref 32, .int 0, .int 0, .ref 33, .ref 34, .ref 35, .ref 36, .ref 37, .ref 38, .ref 39, .ref 40, .int 0, .int 0, .int 1, .ref 41, .ref 42, .ref 43, .ref 44, .ref 45, .ref 46, .ref 47, .ref 48, .int 0, .ref 49, .ref 50, .int 0, .int 0, .int 0, .int 0, .int 0, .ref 51])) := hf1_0
  replace hf1_1 : M1.2 41 = (.inl (0, 7, .inl (upd (fun _ => 0) 0 (-1)))) := hf1_1
  replace hf1_2 : M1.2 42 = (.inl (0, 7, .inl (upd (fun _ => 0) 0 (-1)))) := hf1_2
  replace hf1_3 : M1.2 43 = (.inl (0, 7, .inl (upd (fun _ => 0) 0 (-1)))) := hf1_3
  replace hf1_4 : M1.2 44 = (.inl (0, 7, .inl (upd (fun _ => 0) 0 (-1)))) := hf1_4
  refine xj_aload_n (i := 0) d14_42_4 rfl rfl ?_
  refine xj_get d14_42_5 f14_156_12 hf1_0 (by omega) (show 24 < M1.1 by omega) rfl ?_
  refine xj_if_ne (tgt := 25) d14_42_8 rfl (fun _ => ?_) (fun h => absurd h (by decide))
  refine xj_iconst (v := (-1)) d14_42_25 (by decide) ?_
  exact xj_ret d14_42_26 (by omega) (by omega) rfl rfl
set_option maxRecDepth 20000 in
set_option maxHeartbeats 4000000 in
theorem pm_strings {G : xG} (hg : xGood G) (hxn : xn = 16) (hZ : va_Z "java/util/ArrayList" "DEFAULTCAPACITY_EMPTY_ELEMENTDATA" "[Ljava/lang/Object;" (.ref (xa G 1)) (fun q => (xs G).heap.size ≤ q) (xs G) (xs G).heap) (hT : va_T (.object "java/lang/Object") (xa G 1) 0 (fun _ => .null) (fun q => (xs G).heap.size ≤ q) (xs G) (xs G).heap) {M : xM} {n : Nat} (hn : M.1 = n) (hn2 : 52 ≤ n) (hF : p1M M)  : XC G Y14_55 (some .int) 2 0 0 [.ref 24] M (fun v M' => v = some (.int (-2))) := by
  obtain ⟨f, g, hf, hgc, h_24, h_25, h_26, h_27, h_28, h_29, h_30, h_31, h_32, h_33, h_34, h_35, h_36, h_37, h_38, h_39, h_40, h_41, h_42, h_43, h_44, h_45, h_46, h_47, h_48, h_49, h_50, h_51⟩ := hF
  refine xc_of hg (by decide) (Nat.le_of_ble_eq_true rfl) (Or.inl ⟨rfl, rfl, fun v M' h => ⟨_, h⟩⟩) ?_
  refine xj_aload_n (i := 0) d14_55_0 rfl rfl ?_
  refine xj_callV (rest := []) (As := []) (b := 24) (mRead0 hg (M := M) (n := n) (a := 24) (fp := 41) (lp := 42) (fbr := 43) (lb := 44) (k0 := fun _ => 0) (k1 := fun _ => 0) (k2 := fun _ => 0) (k3 := fun _ => 0) (o0 := .ref 25) (o1 := .ref 26) (o2 := .ref 27) (o3 := .ref 28) (o4 := .ref 29) (o5 := .ref 30) (o6 := .int 0) (o7 := .int 0) (o8 := .int 0) (o9 := .ref 31) (o10 := .int 0) (o11 := .ref 32) (o13 := .int 0) (o14 := .ref 33) (o15 := .ref 34) (o16 := .ref 35) (o17 := .ref 36) (o18 := .ref 37) (o19 := .ref 38) (o20 := .ref 39) (o21 := .ref 40) (o22 := .int 0) (o23 := .int 0) (o24 := .int 0) (o29 := .ref 45) (o30 := .ref 46) (o31 := .ref 47) (o32 := .ref 48) (o33 := .int 0) (o34 := .ref 49) (o35 := .ref 50) (o36 := .int 0) (o37 := .int 0) (o38 := .int 0) (o39 := .int 0) (o40 := .int 0) (o41 := .ref 51) (show M.1 = n by omega) (by omega) (by omega) (by omega) h_24 (by omega) (by omega) h_41 (by omega) (by omega) h_42 (by omega) (by omega) h_43 (by omega) (by omega) h_44 (by omega)) d14_55_1 wd14_40 h_24 (by omega) (show 24 < M.1 by omega) rfl s14_40 w1204 (Or.inl w1202) rfl rfl (Nat.le_of_ble_eq_true rfl) (by omega) (by omega) (by omega) ?_
  rintro v M1 ⟨rfl, hs1, ho1, hf1_0, hf1_1, hf1_2, hf1_3, hf1_4⟩
  replace hs1 : M1.1 = n := hs1
  replace hf1_0 : M1.2 24 = (.inr (12, [.ref 25, .ref 26, .ref 27, .ref 28, .ref 29, .ref 30, .int 0, .int 0, .int 0, .ref 31, .int 0, .ref 32, .int 0, .int 0, .ref 33, .ref 34, .ref 35, .ref 36, .ref 37, .ref 38, .ref 39, .ref 40, .int 0, .int 0, .int 1, .ref 41, .ref 42, .ref 43, .ref 44, .ref 45, .ref 46, .ref 47, .ref 48, .int 0, .ref 49, .ref 50, .int 0, .int 0, .int 0, .int 0, .int 0, .ref 51])) := hf1_0
  replace hf1_1 : M1.2 41 = (.inl (0, 7, .inl (upd (fun _ => 0) 0 (-1)))) := hf1_1
  replace hf1_2 : M1.2 42 = (.inl (0, 7, .inl (upd (fun _ => 0) 0 (-1)))) := hf1_2
  replace hf1_3 : M1.2 43 = (.inl (0, 7, .inl (upd (fun _ => 0) 0 (-1)))) := hf1_3
  replace hf1_4 : M1.2 44 = (.inl (0, 7, .inl (upd (fun _ => 0) 0 (-1)))) := hf1_4
  refine xj_aload_n (i := 0) d14_55_4 rfl rfl ?_
  refine xj_get d14_55_5 f14_156_12 hf1_0 (by omega) (show 24 < M1.1 by omega) rfl ?_
  refine xj_if_eq (tgt := 14) d14_55_8 rfl (fun h => absurd h (by decide)) (fun _ => ?_)
  refine xj_bipush (v := (-2)) d14_55_11 (by decide) ?_
  exact xj_ret d14_55_13 (by omega) (by omega) rfl rfl
set_option maxRecDepth 20000 in
set_option maxHeartbeats 4000000 in
theorem pm_search {G : xG} (hg : xGood G) (hxn : xn = 16) (hZ : va_Z "java/util/ArrayList" "DEFAULTCAPACITY_EMPTY_ELEMENTDATA" "[Ljava/lang/Object;" (.ref (xa G 1)) (fun q => (xs G).heap.size ≤ q) (xs G) (xs G).heap) (hT : va_T (.object "java/lang/Object") (xa G 1) 0 (fun _ => .null) (fun q => (xs G).heap.size ≤ q) (xs G) (xs G).heap) {M : xM} {n : Nat} (hn : M.1 = n) (hn2 : 52 ≤ n) (hF : p1M M)  : XC G Y14_61 (some .int) 2 0 0 [.ref 24] M (fun v M' => v = some (.int (-1))) := by
  obtain ⟨f, g, hf, hgc, h_24, h_25, h_26, h_27, h_28, h_29, h_30, h_31, h_32, h_33, h_34, h_35, h_36, h_37, h_38, h_39, h_40, h_41, h_42, h_43, h_44, h_45, h_46, h_47, h_48, h_49, h_50, h_51⟩ := hF
  refine xc_of hg (by decide) (Nat.le_of_ble_eq_true rfl) (Or.inl ⟨rfl, rfl, fun v M' h => ⟨_, h⟩⟩) ?_
  refine xj_aload_n (i := 0) d14_61_0 rfl rfl ?_
  refine xj_callV (rest := []) (As := []) (b := 24) (mRead0 hg (M := M) (n := n) (a := 24) (fp := 41) (lp := 42) (fbr := 43) (lb := 44) (k0 := fun _ => 0) (k1 := fun _ => 0) (k2 := fun _ => 0) (k3 := fun _ => 0) (o0 := .ref 25) (o1 := .ref 26) (o2 := .ref 27) (o3 := .ref 28) (o4 := .ref 29) (o5 := .ref 30) (o6 := .int 0) (o7 := .int 0) (o8 := .int 0) (o9 := .ref 31) (o10 := .int 0) (o11 := .ref 32) (o13 := .int 0) (o14 := .ref 33) (o15 := .ref 34) (o16 := .ref 35) (o17 := .ref 36) (o18 := .ref 37) (o19 := .ref 38) (o20 := .ref 39) (o21 := .ref 40) (o22 := .int 0) (o23 := .int 0) (o24 := .int 0) (o29 := .ref 45) (o30 := .ref 46) (o31 := .ref 47) (o32 := .ref 48) (o33 := .int 0) (o34 := .ref 49) (o35 := .ref 50) (o36 := .int 0) (o37 := .int 0) (o38 := .int 0) (o39 := .int 0) (o40 := .int 0) (o41 := .ref 51) (show M.1 = n by omega) (by omega) (by omega) (by omega) h_24 (by omega) (by omega) h_41 (by omega) (by omega) h_42 (by omega) (by omega) h_43 (by omega) (by omega) h_44 (by omega)) d14_61_1 wd14_40 h_24 (by omega) (show 24 < M.1 by omega) rfl s14_40 w1204 (Or.inl w1202) rfl rfl (Nat.le_of_ble_eq_true rfl) (by omega) (by omega) (by omega) ?_
  rintro v M1 ⟨rfl, hs1, ho1, hf1_0, hf1_1, hf1_2, hf1_3, hf1_4⟩
  replace hs1 : M1.1 = n := hs1
  replace hf1_0 : M1.2 24 = (.inr (12, [.ref 25, .ref 26, .ref 27, .ref 28, .ref 29, .ref 30, .int 0, .int 0, .int 0, .ref 31, .int 0, .ref 32, .int 0, .int 0, .ref 33, .ref 34, .ref 35, .ref 36, .ref 37, .ref 38, .ref 39, .ref 40, .int 0, .int 0, .int 1, .ref 41, .ref 42, .ref 43, .ref 44, .ref 45, .ref 46, .ref 47, .ref 48, .int 0, .ref 49, .ref 50, .int 0, .int 0, .int 0, .int 0, .int 0, .ref 51])) := hf1_0
  replace hf1_1 : M1.2 41 = (.inl (0, 7, .inl (upd (fun _ => 0) 0 (-1)))) := hf1_1
  replace hf1_2 : M1.2 42 = (.inl (0, 7, .inl (upd (fun _ => 0) 0 (-1)))) := hf1_2
  replace hf1_3 : M1.2 43 = (.inl (0, 7, .inl (upd (fun _ => 0) 0 (-1)))) := hf1_3
  replace hf1_4 : M1.2 44 = (.inl (0, 7, .inl (upd (fun _ => 0) 0 (-1)))) := hf1_4
  refine xj_aload_n (i := 0) d14_61_4 rfl rfl ?_
  refine xj_get d14_61_5 f14_156_12 hf1_0 (by omega) (show 24 < M1.1 by omega) rfl ?_
  refine xj_if_eq (tgt := 17) d14_61_8 rfl (fun h => absurd h (by decide)) (fun _ => ?_)
  refine xj_aload_n (i := 0) d14_61_11 rfl rfl ?_
  refine xj_get d14_61_12 f14_156_12 hf1_0 (by omega) (show 24 < M1.1 by omega) rfl ?_
  refine xj_ineg (v := (-1)) d14_61_15 (by decide) ?_
  exact xj_ret d14_61_16 (by omega) (by omega) rfl rfl
set_option maxRecDepth 20000 in
set_option maxHeartbeats 4000000 in
theorem pm_postings {G : xG} (hg : xGood G) (hxn : xn = 16) (hZ : va_Z "java/util/ArrayList" "DEFAULTCAPACITY_EMPTY_ELEMENTDATA" "[Ljava/lang/Object;" (.ref (xa G 1)) (fun q => (xs G).heap.size ≤ q) (xs G) (xs G).heap) (hT : va_T (.object "java/lang/Object") (xa G 1) 0 (fun _ => .null) (fun q => (xs G).heap.size ≤ q) (xs G) (xs G).heap) {M : xM} {n : Nat} (hn : M.1 = n) (hn2 : 52 ≤ n) (hF : p1M M) {u v1 w : Int32} : XC G Y14_16 (some .int) 0 0 0 [.ref 24, .int u, .int v1, .int w] M (fun v M' => v = some (.int 0)) := by
  obtain ⟨f, g, hf, hgc, h_24, h_25, h_26, h_27, h_28, h_29, h_30, h_31, h_32, h_33, h_34, h_35, h_36, h_37, h_38, h_39, h_40, h_41, h_42, h_43, h_44, h_45, h_46, h_47, h_48, h_49, h_50, h_51⟩ := hF
  refine xc_of hg (by decide) (Nat.le_of_ble_eq_true rfl) (Or.inl ⟨rfl, rfl, fun v M' h => ⟨_, h⟩⟩) ?_
  refine xj_iconst (v := 0) d14_16_0 (by decide) ?_
  refine xj_istore (i := 4) (L' := [(4, .int 0), (0, .ref 24), (1, .int u), (2, .int v1), (3, .int w)]) d14_16_1 (by decide) rfl ?_
  refine xj_iconst (v := 0) d14_16_3 (by decide) ?_
  refine xj_istore (i := 5) (L' := [(5, .int 0), (4, .int 0), (0, .ref 24), (1, .int u), (2, .int v1), (3, .int w)]) d14_16_4 (by decide) rfl ?_
  refine mPostL hg hn (by omega) (by omega) h_24 (by omega) (by omega) h_28 hf ?_ 128 0 rfl
  refine xj_iload (i := 4) d14_16_53 rfl ?_
  exact xj_ret d14_16_55 (by omega) (by omega) rfl rfl
set_option maxRecDepth 20000 in
set_option maxHeartbeats 4000000 in
theorem pm_shard {G : xG} (hg : xGood G) (hxn : xn = 16) (hZ : va_Z "java/util/ArrayList" "DEFAULTCAPACITY_EMPTY_ELEMENTDATA" "[Ljava/lang/Object;" (.ref (xa G 1)) (fun q => (xs G).heap.size ≤ q) (xs G) (xs G).heap) (hT : va_T (.object "java/lang/Object") (xa G 1) 0 (fun _ => .null) (fun q => (xs G).heap.size ≤ q) (xs G) (xs G).heap) {M : xM} {n : Nat} (hn : M.1 = n) (hn2 : 52 ≤ n) (hF : p1M M) {k w : Int32} : XC G Y14_12 (some .int) 1 0 0 [.ref 24, .int k, .int w] M (fun v M' => v = some (.int (xZ (k = -1 ∧ (w = 0 ∨ w = 1 ∨ w = 2))))) := by
  obtain ⟨f, g, hf, hgc, h_24, h_25, h_26, h_27, h_28, h_29, h_30, h_31, h_32, h_33, h_34, h_35, h_36, h_37, h_38, h_39, h_40, h_41, h_42, h_43, h_44, h_45, h_46, h_47, h_48, h_49, h_50, h_51⟩ := hF
  refine xc_of hg (by decide) (Nat.le_of_ble_eq_true rfl) (Or.inl ⟨rfl, rfl, fun v M' h => ⟨_, h⟩⟩) ?_
  refine xj_iload_n (i := 1) d14_12_0 rfl rfl ?_
  refine xj_iconst (v := (-1)) d14_12_1 (by decide) ?_
  refine xj_icmp_lt (tgt := 22) d14_12_2 rfl (fun hs1 => ?_) (fun hs1 => ?_)
  · refine xj_iconst (v := (-1)) d14_12_22 (by decide) ?_
    exact xj_ret d14_12_23 (by omega) (by omega) rfl (congrArg (fun z => some (Value.int z)) (xZ_f (by rintro ⟨rfl, rfl | rfl | rfl⟩ <;> (first | exact absurd hs1 (by decide) | exact absurd hs2 (by decide) | exact absurd hs3 (by decide) | exact absurd hs4 (by decide)))).symm)
  · refine xj_iload_n (i := 1) d14_12_5 rfl rfl ?_
    refine xj_aload_n (i := 0) d14_12_6 rfl rfl ?_
    refine xj_get d14_12_7 f14_114_12 h_24 (by omega) (show 24 < M.1 by omega) rfl ?_
    refine xj_icmp_ge (tgt := 22) d14_12_10 rfl (fun hs2 => ?_) (fun hs2 => ?_)
    · refine xj_iconst (v := (-1)) d14_12_22 (by decide) ?_
      exact xj_ret d14_12_23 (by omega) (by omega) rfl (congrArg (fun z => some (Value.int z)) (xZ_f (by rintro ⟨rfl, rfl | rfl | rfl⟩ <;> (first | exact absurd hs1 (by decide) | exact absurd hs2 (by decide) | exact absurd hs3 (by decide) | exact absurd hs4 (by decide)))).symm)
    · refine xj_iload_n (i := 2) d14_12_13 rfl rfl ?_
      refine xj_if_lt (tgt := 22) d14_12_14 rfl (fun hs3 => ?_) (fun hs3 => ?_)
      · refine xj_iconst (v := (-1)) d14_12_22 (by decide) ?_
        exact xj_ret d14_12_23 (by omega) (by omega) rfl (congrArg (fun z => some (Value.int z)) (xZ_f (by rintro ⟨rfl, rfl | rfl | rfl⟩ <;> (first | exact absurd hs1 (by decide) | exact absurd hs2 (by decide) | exact absurd hs3 (by decide) | exact absurd hs4 (by decide)))).symm)
      · refine xj_iload_n (i := 2) d14_12_17 rfl rfl ?_
        refine xj_iconst (v := 2) d14_12_18 (by decide) ?_
        refine xj_icmp_le (tgt := 24) d14_12_19 rfl (fun hs4 => ?_) (fun hs4 => ?_)
        · obtain rfl := xkm1 hs1 hs2
          refine xj_iload_n (i := 1) d14_12_24 rfl rfl ?_
          refine xj_iconst (v := (-1)) d14_12_25 (by decide) ?_
          refine xj_icmp_ne (tgt := 34) d14_12_26 rfl (fun h => absurd (by decide) h) (fun _ => ?_)
          refine xj_bipush (v := 99) d14_12_29 (by decide) ?_
          refine xj_goto (tgt := 35) d14_12_31 rfl ?_
          refine xj_istore_n (i := 3) (L' := [(3, .int 99), (0, .ref 24), (1, .int (-1)), (2, .int w)]) d14_12_35 rfl (by decide) rfl ?_
          refine xj_iload_n (i := 2) d14_12_36 rfl rfl ?_
          refine xj_if_ne (tgt := 58) d14_12_37 rfl (fun hw0 => ?_) (fun hw0 => ?_)
          · refine xj_iload_n (i := 2) d14_12_58 rfl rfl ?_
            refine xj_iconst (v := 1) d14_12_59 (by decide) ?_
            refine xj_icmp_ne (tgt := 71) d14_12_60 rfl (fun hw1 => ?_) (fun hw1 => ?_)
            · refine xj_aload_n (i := 0) d14_12_71 rfl rfl ?_
              refine xj_iload_n (i := 3) d14_12_72 rfl rfl ?_
              refine xj_callV (rest := []) (As := [.int 99]) (b := 24) (mLive hg (M := M) (n := n) (a := 24) (ia := 28) (la := 27) (f := f) (l := fun _ => 0) (s := 99) (o0 := .ref 25) (o1 := .ref 26) (o4 := .ref 29) (o5 := .ref 30) (o6 := .int 0) (o7 := .int 0) (o8 := .int 0) (o9 := .ref 31) (o10 := .int 0) (o11 := .ref 32) (o12 := .int 0) (o13 := .int 0) (o14 := .ref 33) (o15 := .ref 34) (o16 := .ref 35) (o17 := .ref 36) (o18 := .ref 37) (o19 := .ref 38) (o20 := .ref 39) (o21 := .ref 40) (o22 := .int 0) (o23 := .int 0) (o24 := .int 0) (o25 := .ref 41) (o26 := .ref 42) (o27 := .ref 43) (o28 := .ref 44) (o29 := .ref 45) (o30 := .ref 46) (o31 := .ref 47) (o32 := .ref 48) (o33 := .int 0) (o34 := .ref 49) (o35 := .ref 50) (o36 := .int 0) (o37 := .int 0) (o38 := .int 0) (o39 := .int 0) (o40 := .int 0) (o41 := .ref 51) (show M.1 = n by omega) (by omega) (by omega) (by omega) h_24 (by omega) (by omega) h_28 (by omega) (by omega) h_27) d14_12_73 wd14_8 h_24 (by omega) (show 24 < M.1 by omega) rfl s14_8 w1172 (Or.inl w1170) rfl rfl (Nat.le_of_ble_eq_true rfl) (by omega) (by omega) (by omega) ?_
              rintro v M' ⟨rfl, hm⟩
              subst M'
              exact xj_ret d14_12_76 (by omega) (by omega) rfl (congrArg (fun z => some (Value.int z)) ((congrArg nI (xcl_zero hf (by decide))).trans (xZ_t ⟨rfl, Or.inr (Or.inr (xw2 hs3 hs4 hw0 hw1))⟩).symm))
            · refine xj_aload_n (i := 0) d14_12_63 rfl rfl ?_
              refine xj_iload_n (i := 3) d14_12_64 rfl rfl ?_
              refine xj_callV (rest := []) (As := [.int 99]) (b := 24) (mHolds hg (M := M) (n := n) (a := 24) (ia := 28) (f := f) (s := 99) (o0 := .ref 25) (o1 := .ref 26) (o2 := .ref 27) (o4 := .ref 29) (o5 := .ref 30) (o6 := .int 0) (o7 := .int 0) (o8 := .int 0) (o9 := .ref 31) (o10 := .int 0) (o11 := .ref 32) (o12 := .int 0) (o13 := .int 0) (o14 := .ref 33) (o15 := .ref 34) (o16 := .ref 35) (o17 := .ref 36) (o18 := .ref 37) (o19 := .ref 38) (o20 := .ref 39) (o21 := .ref 40) (o22 := .int 0) (o23 := .int 0) (o24 := .int 0) (o25 := .ref 41) (o26 := .ref 42) (o27 := .ref 43) (o28 := .ref 44) (o29 := .ref 45) (o30 := .ref 46) (o31 := .ref 47) (o32 := .ref 48) (o33 := .int 0) (o34 := .ref 49) (o35 := .ref 50) (o36 := .int 0) (o37 := .int 0) (o38 := .int 0) (o39 := .int 0) (o40 := .int 0) (o41 := .ref 51) (show M.1 = n by omega) (by omega) (by omega) (by omega) h_24 (by omega) (by omega) h_28) d14_12_65 wd14_7 h_24 (by omega) (show 24 < M.1 by omega) rfl s14_7 w1147 (Or.inl w1145) rfl rfl (Nat.le_of_ble_eq_true rfl) (by omega) (by omega) (by omega) ?_
              rintro v M' ⟨rfl, hm⟩
              subst M'
              refine xj_goto (tgt := 76) d14_12_68 rfl ?_
              exact xj_ret d14_12_76 (by omega) (by omega) rfl (congrArg (fun z => some (Value.int z)) ((congrArg nI (xcnt_zero hf (by decide))).trans (xZ_t ⟨rfl, Or.inr (Or.inl hw1)⟩).symm))
          · refine xj_iload_n (i := 1) d14_12_40 rfl rfl ?_
            refine xj_iconst (v := (-1)) d14_12_41 (by decide) ?_
            refine xj_icmp_ne (tgt := 49) d14_12_42 rfl (fun h => absurd (by decide) h) (fun _ => ?_)
            refine xj_iconst (v := 0) d14_12_45 (by decide) ?_
            refine xj_goto (tgt := 76) d14_12_46 rfl ?_
            exact xj_ret d14_12_76 (by omega) (by omega) rfl (congrArg (fun z => some (Value.int z)) (xZ_t ⟨rfl, Or.inl hw0⟩).symm)
        · refine xj_iconst (v := (-1)) d14_12_22 (by decide) ?_
          exact xj_ret d14_12_23 (by omega) (by omega) rfl (congrArg (fun z => some (Value.int z)) (xZ_f (by rintro ⟨rfl, rfl | rfl | rfl⟩ <;> (first | exact absurd hs1 (by decide) | exact absurd hs2 (by decide) | exact absurd hs3 (by decide) | exact absurd hs4 (by decide)))).symm)

abbrev Y0_1 : xY := (x, code, 4, .ireturn)
theorem xsw17 (y : Int32) : y = 0 ∨ y = 1 ∨ y = 2 ∨ y = 3 ∨ y = 4 ∨ y = 5 ∨ y = 6 ∨ y = 7 ∨ y = 8 ∨ y = 9 ∨ y = 10 ∨ y = 11 ∨ y = 12 ∨ y = 13 ∨ y = 14 ∨ y = 15 ∨ y = 16 ∨ (y.toInt < 0 ∨ 16 < y.toInt) := by
  by_cases h : y.toInt < 0 ∨ 16 < y.toInt
  · exact Or.inr (Or.inr (Or.inr (Or.inr (Or.inr (Or.inr (Or.inr (Or.inr (Or.inr (Or.inr (Or.inr (Or.inr (Or.inr (Or.inr (Or.inr (Or.inr (Or.inr h))))))))))))))))
  · have e : ∀ k : Nat, k < 17 → y.toInt = k → y = Int32.ofNat k := fun k hk h => Int32.toInt_inj.mp (by rw [h, Int32.toInt_ofNat_of_lt (by omega)])
    have h2 : ∃ k : Nat, k < 17 ∧ y.toInt = k := ⟨y.toInt.toNat, by omega, by omega⟩
    obtain ⟨k, hk, h3⟩ := h2
    have h4 := e k hk h3
    rcases (show k = 0 ∨ k = 1 ∨ k = 2 ∨ k = 3 ∨ k = 4 ∨ k = 5 ∨ k = 6 ∨ k = 7 ∨ k = 8 ∨ k = 9 ∨ k = 10 ∨ k = 11 ∨ k = 12 ∨ k = 13 ∨ k = 14 ∨ k = 15 ∨ k = 16 by omega) with rfl | rfl | rfl | rfl | rfl | rfl | rfl | rfl | rfl | rfl | rfl | rfl | rfl | rfl | rfl | rfl | rfl <;> subst h4 <;> simp
set_option maxRecDepth 20000 in
set_option maxHeartbeats 16000000 in
theorem p1_lawA {G : xG} (hg : xGood G) (hxn : xn = 16) (hZ : va_Z "java/util/ArrayList" "DEFAULTCAPACITY_EMPTY_ELEMENTDATA" "[Ljava/lang/Object;" (.ref (xa G 1)) (fun q => (xs G).heap.size ≤ q) (xs G) (xs G).heap) (hT : va_T (.object "java/lang/Object") (xa G 1) 0 (fun _ => .null) (fun q => (xs G).heap.size ≤ q) (xs G) (xs G).heap) {xs0 : Nat → Int32} (hX : va_X (xa G 0) 4 xs0 (xs G) (xs G).heap) {M : xM} (hn : M.1 = 16) : XJ G Y0_1 12 600000 7302250 0 0 0 [(0, .ref 0)] [] M (fun v M' => v = some (.int 1)) := by
  refine xj_new (na := 16) d0_1_0 n0_7 (show M.1 = 16 by omega) (by omega) (by omega) ?_
  refine xj_abs_push (show M.1 = 16 by omega) (fun M1 hs1 ha1 ho1 => ?_)
  refine xj_dup d0_1_3 rfl ?_
  refine xj_callI (rest := [.ref 16]) (As := []) (b := 16) (cTL hg hZ hT (M := M1) (n := 17) (a := 16) (show M1.1 = 17 by omega) (by omega) (by omega) (by omega) ha1) d0_1_4 wd1_1 rfl w32 (Or.inl w31) rfl rfl (Nat.le_of_ble_eq_true rfl) (by omega) (by omega) (by omega) ?_
  rintro v M2 ⟨rfl, hs2, ho2, hf2_0, hf2_1, hf2_2, hf2_3, hf2_4, hf2_5, hf2_6, hf2_7⟩
  replace hs2 : M2.1 = 24 := hs2
  replace hf2_0 : M2.2 16 = (.inr (0, [.ref 17, .int 0, .ref 18, .int 0, .null, .ref 19, .int 0, .ref 20, .ref 22, .int 0, .ref 23, .int 0, .int 0])) := hf2_0
  replace hf2_1 : M2.2 17 = (.inl (1, 40, .inl (fun _ => 0))) := hf2_1
  replace hf2_2 : M2.2 18 = (.inl (1, 24, .inl (fun _ => 0))) := hf2_2
  replace hf2_3 : M2.2 19 = (.inl (5, 10, .inr (.inr (.inr (.inr (fun _ => none)))))) := hf2_3
  replace hf2_4 : M2.2 20 = (.inr (1, [.int 0, .ref 21])) := hf2_4
  replace hf2_5 : M2.2 21 = (.inr (2, [.ref 1, .int 0, .int 0])) := hf2_5
  replace hf2_6 : M2.2 22 = (.inr (2, [.ref 1, .int 0, .int 0])) := hf2_6
  replace hf2_7 : M2.2 23 = (.inl (0, 410, .inl (fun _ => 0))) := hf2_7
  refine xj_astore_n (i := 1) (L' := [(1, .ref 16), (0, .ref 0)]) d0_1_7 rfl (by decide) rfl ?_
  refine xj_new (na := 24) d0_1_8 n0_10 (show M2.1 = 24 by omega) (by omega) (by omega) ?_
  refine xj_abs_push (show M2.1 = 24 by omega) (fun M3 hs3 ha3 ho3 => ?_)
  refine xj_dup d0_1_11 rfl ?_
  refine xj_callI (rest := [.ref 24]) (As := []) (b := 24) (pm_init hg hxn (M := M3) (by omega) ha3) d0_1_12 wd14_1 rfl w999 (Or.inl w998) rfl rfl (Nat.le_of_ble_eq_true rfl) (by omega) (by omega) (by omega) ?_
  rintro v Mi ⟨rfl, hsi, hoi, f, g, hf, hgc, hm_24, hm_25, hm_26, hm_27, hm_28, hm_29, hm_30, hm_31, hm_32, hm_33, hm_34, hm_35, hm_36, hm_37, hm_38, hm_39, hm_40, hm_41, hm_42, hm_43, hm_44, hm_45, hm_46, hm_47, hm_48, hm_49, hm_50, hm_51⟩
  refine xj_astore_n (i := 2) (L' := [(2, .ref 24), (1, .ref 16), (0, .ref 0)]) d0_1_15 rfl (by decide) rfl ?_
  refine xj_iconst (v := 0) d0_1_16 (by decide) ?_
  refine xj_istore_n (i := 3) (L' := [(3, .int 0), (2, .ref 24), (1, .ref 16), (0, .ref 0)]) d0_1_17 rfl (by decide) rfl ?_
  refine xj_iload_n (i := 3) d0_1_18 rfl rfl ?_
  refine xj_aload_n (i := 0) d0_1_19 rfl rfl ?_
  refine xj_slen hX d0_1_20 ?_
  refine xj_iconst (v := 4) d0_1_21 (by decide) ?_
  refine xj_isub (v := 0) d0_1_22 (by decide) ?_
  refine xj_icmp_gt (tgt := 457) d0_1_23 rfl (fun h => absurd h (by decide)) (fun _ => ?_)
  refine xj_aload_n (i := 0) d0_1_26 rfl rfl ?_
  refine xj_iload_n (i := 3) d0_1_27 rfl rfl ?_
  refine xj_sld (j := 0) hX d0_1_28 (vp_in_iff.mpr (by decide)) (by decide) ?_
  refine xj_bipush (v := 31) d0_1_29 (by decide) ?_
  refine xj_iand (v := (xs0 0) &&& 31) d0_1_31 rfl ?_
  generalize xs0 0 &&& 31 = y
  rcases xsw17 y with rfl | rfl | rfl | rfl | rfl | rfl | rfl | rfl | rfl | rfl | rfl | rfl | rfl | rfl | rfl | rfl | rfl | hsw
  · refine xj_tableIn (tgt := 116) d0_1_32 (by decide) (by decide) rfl rfl ?_
    refine xj_aload_n (i := 1) d0_1_116 rfl rfl ?_
    refine xj_aload_n (i := 0) d0_1_117 rfl rfl ?_
    refine xj_iload_n (i := 3) d0_1_118 rfl rfl ?_
    refine xj_iconst (v := 1) d0_1_119 (by decide) ?_
    refine xj_iadd (v := 1) d0_1_120 (by decide) ?_
    refine xj_sld (j := 1) hX d0_1_121 (vp_in_iff.mpr (by decide)) (by decide) ?_
    refine xj_i2c (v := ((xs0 1).toUInt32 % 65536).toInt32) d0_1_122 rfl ?_
    refine xj_callV (rest := []) (As := [.int (((xs0 1).toUInt32 % 65536).toInt32)]) (b := 16) (px_write hg hxn hZ hT (M := Mi) (c := ((xs0 1).toUInt32 % 65536).toInt32) (by omega) ⟨((hoi 16 (by omega)).trans ((ho3 16 (by omega)).trans hf2_0)), ((hoi 17 (by omega)).trans ((ho3 17 (by omega)).trans hf2_1)), ((hoi 18 (by omega)).trans ((ho3 18 (by omega)).trans hf2_2)), ((hoi 19 (by omega)).trans ((ho3 19 (by omega)).trans hf2_3)), ((hoi 20 (by omega)).trans ((ho3 20 (by omega)).trans hf2_4)), ((hoi 21 (by omega)).trans ((ho3 21 (by omega)).trans hf2_5)), ((hoi 22 (by omega)).trans ((ho3 22 (by omega)).trans hf2_6)), ((hoi 23 (by omega)).trans ((ho3 23 (by omega)).trans hf2_7))⟩ (pk_vc _)) d0_1_123 wd1_2 ((hoi 16 (by omega)).trans ((ho3 16 (by omega)).trans hf2_0)) (by omega) (show 16 < Mi.1 by omega) rfl w125 w124 (Or.inl w123) rfl rfl (Nat.le_of_ble_eq_true rfl) (by omega) (by omega) (by omega) ?_
    rintro v M4 ⟨rfl, hs4, ho4⟩
    refine xj_aload_n (i := 2) d0_1_126 rfl rfl ?_
    refine xj_aload_n (i := 0) d0_1_127 rfl rfl ?_
    refine xj_iload_n (i := 3) d0_1_128 rfl rfl ?_
    refine xj_iconst (v := 1) d0_1_129 (by decide) ?_
    refine xj_iadd (v := 1) d0_1_130 (by decide) ?_
    refine xj_sld (j := 1) hX d0_1_131 (vp_in_iff.mpr (by decide)) (by decide) ?_
    refine xj_i2c (v := ((xs0 1).toUInt32 % 65536).toInt32) d0_1_132 rfl ?_
    refine xj_callV (rest := [.int (xB ((((xs0 1).toUInt32 % 65536).toInt32) = 10 ∨ (¬ (((xs0 1).toUInt32 % 65536).toInt32) < 32 ∧ ¬ 126 < (((xs0 1).toUInt32 % 65536).toInt32))))]) (As := [.int (((xs0 1).toUInt32 % 65536).toInt32)]) (b := 24) (pm_write hg hxn hZ hT (M := M4) (c := ((xs0 1).toUInt32 % 65536).toInt32) rfl (by omega) ⟨f, g, hf, hgc, ((ho4 24 (by omega) (by omega)).trans hm_24), ((ho4 25 (by omega) (by omega)).trans hm_25), ((ho4 26 (by omega) (by omega)).trans hm_26), ((ho4 27 (by omega) (by omega)).trans hm_27), ((ho4 28 (by omega) (by omega)).trans hm_28), ((ho4 29 (by omega) (by omega)).trans hm_29), ((ho4 30 (by omega) (by omega)).trans hm_30), ((ho4 31 (by omega) (by omega)).trans hm_31), ((ho4 32 (by omega) (by omega)).trans hm_32), ((ho4 33 (by omega) (by omega)).trans hm_33), ((ho4 34 (by omega) (by omega)).trans hm_34), ((ho4 35 (by omega) (by omega)).trans hm_35), ((ho4 36 (by omega) (by omega)).trans hm_36), ((ho4 37 (by omega) (by omega)).trans hm_37), ((ho4 38 (by omega) (by omega)).trans hm_38), ((ho4 39 (by omega) (by omega)).trans hm_39), ((ho4 40 (by omega) (by omega)).trans hm_40), ((ho4 41 (by omega) (by omega)).trans hm_41), ((ho4 42 (by omega) (by omega)).trans hm_42), ((ho4 43 (by omega) (by omega)).trans hm_43), ((ho4 44 (by omega) (by omega)).trans hm_44), ((ho4 45 (by omega) (by omega)).trans hm_45), ((ho4 46 (by omega) (by omega)).trans hm_46), ((ho4 47 (by omega) (by omega)).trans hm_47), ((ho4 48 (by omega) (by omega)).trans hm_48), ((ho4 49 (by omega) (by omega)).trans hm_49), ((ho4 50 (by omega) (by omega)).trans hm_50), ((ho4 51 (by omega) (by omega)).trans hm_51)⟩ ) d0_1_133 wd14_3 ((ho4 24 (by omega) (by omega)).trans hm_24) (by omega) (show 24 < M4.1 by omega) rfl w1132 w1131 (Or.inl w1130) rfl rfl (Nat.le_of_ble_eq_true rfl) (by omega) (by omega) (by omega) ?_
    rintro v M5 rfl
    refine xj_icmp_eq (tgt := 451) d0_1_136 rfl (fun _ => ?_) (fun h => absurd rfl h)
    refine xj_iinc (v := 4) (L' := [(3, .int 4), (2, .ref 24), (1, .ref 16), (0, .ref 0)]) d0_1_451 rfl (by decide) (by decide) rfl ?_
    refine xj_goto (tgt := 18) d0_1_454 rfl ?_
    refine xj_iload_n (i := 3) d0_1_18 rfl rfl ?_
    refine xj_aload_n (i := 0) d0_1_19 rfl rfl ?_
    refine xj_slen hX d0_1_20 ?_
    refine xj_iconst (v := 4) d0_1_21 (by decide) ?_
    refine xj_isub (v := 0) d0_1_22 (by decide) ?_
    refine xj_icmp_gt (tgt := 457) d0_1_23 rfl (fun _ => ?_) (fun h => absurd (by decide) h)
    refine xj_iconst (v := 1) d0_1_457 (by decide) ?_
    exact xj_ret d0_1_458 (by omega) (by omega) rfl rfl
  · refine xj_tableIn (tgt := 141) d0_1_32 (by decide) (by decide) rfl rfl ?_
    refine xj_aload_n (i := 1) d0_1_141 rfl rfl ?_
    refine xj_aload_n (i := 0) d0_1_142 rfl rfl ?_
    refine xj_iload_n (i := 3) d0_1_143 rfl rfl ?_
    refine xj_iconst (v := 1) d0_1_144 (by decide) ?_
    refine xj_iadd (v := 1) d0_1_145 (by decide) ?_
    refine xj_sld (j := 1) hX d0_1_146 (vp_in_iff.mpr (by decide)) (by decide) ?_
    refine xj_callV (rest := []) (As := [.int (xs0 1)]) (b := 16) (px_put hg hxn hZ hT (M := Mi) (c := xs0 1) (by omega) ⟨((hoi 16 (by omega)).trans ((ho3 16 (by omega)).trans hf2_0)), ((hoi 17 (by omega)).trans ((ho3 17 (by omega)).trans hf2_1)), ((hoi 18 (by omega)).trans ((ho3 18 (by omega)).trans hf2_2)), ((hoi 19 (by omega)).trans ((ho3 19 (by omega)).trans hf2_3)), ((hoi 20 (by omega)).trans ((ho3 20 (by omega)).trans hf2_4)), ((hoi 21 (by omega)).trans ((ho3 21 (by omega)).trans hf2_5)), ((hoi 22 (by omega)).trans ((ho3 22 (by omega)).trans hf2_6)), ((hoi 23 (by omega)).trans ((ho3 23 (by omega)).trans hf2_7))⟩ ) d0_1_147 wd1_3 ((hoi 16 (by omega)).trans ((ho3 16 (by omega)).trans hf2_0)) (by omega) (show 16 < Mi.1 by omega) rfl w135 w134 (Or.inl w133) rfl rfl (Nat.le_of_ble_eq_true rfl) (by omega) (by omega) (by omega) ?_
    rintro v M6 ⟨rfl, hs6, ho6⟩
    refine xj_aload_n (i := 2) d0_1_150 rfl rfl ?_
    refine xj_aload_n (i := 0) d0_1_151 rfl rfl ?_
    refine xj_iload_n (i := 3) d0_1_152 rfl rfl ?_
    refine xj_iconst (v := 1) d0_1_153 (by decide) ?_
    refine xj_iadd (v := 1) d0_1_154 (by decide) ?_
    refine xj_sld (j := 1) hX d0_1_155 (vp_in_iff.mpr (by decide)) (by decide) ?_
    refine xj_callV (rest := [.int (xS (¬ (xs0 1) < 0 ∧ ¬ 10 ≤ (xs0 1)))]) (As := [.int (xs0 1)]) (b := 24) (pm_put hg hxn hZ hT (M := M6) (c := xs0 1) rfl (by omega) ⟨f, g, hf, hgc, ((ho6 24 (by omega) (by omega)).trans hm_24), ((ho6 25 (by omega) (by omega)).trans hm_25), ((ho6 26 (by omega) (by omega)).trans hm_26), ((ho6 27 (by omega) (by omega)).trans hm_27), ((ho6 28 (by omega) (by omega)).trans hm_28), ((ho6 29 (by omega) (by omega)).trans hm_29), ((ho6 30 (by omega) (by omega)).trans hm_30), ((ho6 31 (by omega) (by omega)).trans hm_31), ((ho6 32 (by omega) (by omega)).trans hm_32), ((ho6 33 (by omega) (by omega)).trans hm_33), ((ho6 34 (by omega) (by omega)).trans hm_34), ((ho6 35 (by omega) (by omega)).trans hm_35), ((ho6 36 (by omega) (by omega)).trans hm_36), ((ho6 37 (by omega) (by omega)).trans hm_37), ((ho6 38 (by omega) (by omega)).trans hm_38), ((ho6 39 (by omega) (by omega)).trans hm_39), ((ho6 40 (by omega) (by omega)).trans hm_40), ((ho6 41 (by omega) (by omega)).trans hm_41), ((ho6 42 (by omega) (by omega)).trans hm_42), ((ho6 43 (by omega) (by omega)).trans hm_43), ((ho6 44 (by omega) (by omega)).trans hm_44), ((ho6 45 (by omega) (by omega)).trans hm_45), ((ho6 46 (by omega) (by omega)).trans hm_46), ((ho6 47 (by omega) (by omega)).trans hm_47), ((ho6 48 (by omega) (by omega)).trans hm_48), ((ho6 49 (by omega) (by omega)).trans hm_49), ((ho6 50 (by omega) (by omega)).trans hm_50), ((ho6 51 (by omega) (by omega)).trans hm_51)⟩ ) d0_1_156 wd14_4 ((ho6 24 (by omega) (by omega)).trans hm_24) (by omega) (show 24 < M6.1 by omega) rfl w1139 w1138 (Or.inl w1137) rfl rfl (Nat.le_of_ble_eq_true rfl) (by omega) (by omega) (by omega) ?_
    rintro v M7 rfl
    refine xj_icmp_eq (tgt := 451) d0_1_159 rfl (fun _ => ?_) (fun h => absurd rfl h)
    refine xj_iinc (v := 4) (L' := [(3, .int 4), (2, .ref 24), (1, .ref 16), (0, .ref 0)]) d0_1_451 rfl (by decide) (by decide) rfl ?_
    refine xj_goto (tgt := 18) d0_1_454 rfl ?_
    refine xj_iload_n (i := 3) d0_1_18 rfl rfl ?_
    refine xj_aload_n (i := 0) d0_1_19 rfl rfl ?_
    refine xj_slen hX d0_1_20 ?_
    refine xj_iconst (v := 4) d0_1_21 (by decide) ?_
    refine xj_isub (v := 0) d0_1_22 (by decide) ?_
    refine xj_icmp_gt (tgt := 457) d0_1_23 rfl (fun _ => ?_) (fun h => absurd (by decide) h)
    refine xj_iconst (v := 1) d0_1_457 (by decide) ?_
    exact xj_ret d0_1_458 (by omega) (by omega) rfl rfl
  · refine xj_tableIn (tgt := 164) d0_1_32 (by decide) (by decide) rfl rfl ?_
    refine xj_aload_n (i := 1) d0_1_164 rfl rfl ?_
    refine xj_aload_n (i := 0) d0_1_165 rfl rfl ?_
    refine xj_iload_n (i := 3) d0_1_166 rfl rfl ?_
    refine xj_iconst (v := 1) d0_1_167 (by decide) ?_
    refine xj_iadd (v := 1) d0_1_168 (by decide) ?_
    refine xj_sld (j := 1) hX d0_1_169 (vp_in_iff.mpr (by decide)) (by decide) ?_
    refine xj_callV (rest := []) (As := [.int (xs0 1)]) (b := 16) (px_drop hg hxn hZ hT (M := Mi) (c := xs0 1) (by omega) ⟨((hoi 16 (by omega)).trans ((ho3 16 (by omega)).trans hf2_0)), ((hoi 17 (by omega)).trans ((ho3 17 (by omega)).trans hf2_1)), ((hoi 18 (by omega)).trans ((ho3 18 (by omega)).trans hf2_2)), ((hoi 19 (by omega)).trans ((ho3 19 (by omega)).trans hf2_3)), ((hoi 20 (by omega)).trans ((ho3 20 (by omega)).trans hf2_4)), ((hoi 21 (by omega)).trans ((ho3 21 (by omega)).trans hf2_5)), ((hoi 22 (by omega)).trans ((ho3 22 (by omega)).trans hf2_6)), ((hoi 23 (by omega)).trans ((ho3 23 (by omega)).trans hf2_7))⟩ ) d0_1_170 wd1_4 ((hoi 16 (by omega)).trans ((ho3 16 (by omega)).trans hf2_0)) (by omega) (show 16 < Mi.1 by omega) rfl w282 w281 (Or.inl w280) rfl rfl (Nat.le_of_ble_eq_true rfl) (by omega) (by omega) (by omega) ?_
    rintro v M8 ⟨rfl, hs8, ho8⟩
    refine xj_aload_n (i := 2) d0_1_173 rfl rfl ?_
    refine xj_aload_n (i := 0) d0_1_174 rfl rfl ?_
    refine xj_iload_n (i := 3) d0_1_175 rfl rfl ?_
    refine xj_iconst (v := 1) d0_1_176 (by decide) ?_
    refine xj_iadd (v := 1) d0_1_177 (by decide) ?_
    refine xj_sld (j := 1) hX d0_1_178 (vp_in_iff.mpr (by decide)) (by decide) ?_
    refine xj_callV (rest := [.int 0]) (As := [.int (xs0 1)]) (b := 24) (pm_drop hg hxn hZ hT (M := M8) (c := xs0 1) rfl (by omega) ⟨f, g, hf, hgc, ((ho8 24 (by omega) (by omega)).trans hm_24), ((ho8 25 (by omega) (by omega)).trans hm_25), ((ho8 26 (by omega) (by omega)).trans hm_26), ((ho8 27 (by omega) (by omega)).trans hm_27), ((ho8 28 (by omega) (by omega)).trans hm_28), ((ho8 29 (by omega) (by omega)).trans hm_29), ((ho8 30 (by omega) (by omega)).trans hm_30), ((ho8 31 (by omega) (by omega)).trans hm_31), ((ho8 32 (by omega) (by omega)).trans hm_32), ((ho8 33 (by omega) (by omega)).trans hm_33), ((ho8 34 (by omega) (by omega)).trans hm_34), ((ho8 35 (by omega) (by omega)).trans hm_35), ((ho8 36 (by omega) (by omega)).trans hm_36), ((ho8 37 (by omega) (by omega)).trans hm_37), ((ho8 38 (by omega) (by omega)).trans hm_38), ((ho8 39 (by omega) (by omega)).trans hm_39), ((ho8 40 (by omega) (by omega)).trans hm_40), ((ho8 41 (by omega) (by omega)).trans hm_41), ((ho8 42 (by omega) (by omega)).trans hm_42), ((ho8 43 (by omega) (by omega)).trans hm_43), ((ho8 44 (by omega) (by omega)).trans hm_44), ((ho8 45 (by omega) (by omega)).trans hm_45), ((ho8 46 (by omega) (by omega)).trans hm_46), ((ho8 47 (by omega) (by omega)).trans hm_47), ((ho8 48 (by omega) (by omega)).trans hm_48), ((ho8 49 (by omega) (by omega)).trans hm_49), ((ho8 50 (by omega) (by omega)).trans hm_50), ((ho8 51 (by omega) (by omega)).trans hm_51)⟩ ) d0_1_179 wd14_5 ((ho8 24 (by omega) (by omega)).trans hm_24) (by omega) (show 24 < M8.1 by omega) rfl w1143 w1142 (Or.inl w1157) rfl rfl (Nat.le_of_ble_eq_true rfl) (by omega) (by omega) (by omega) ?_
    rintro v M9 rfl
    refine xj_icmp_eq (tgt := 451) d0_1_182 rfl (fun _ => ?_) (fun h => absurd rfl h)
    refine xj_iinc (v := 4) (L' := [(3, .int 4), (2, .ref 24), (1, .ref 16), (0, .ref 0)]) d0_1_451 rfl (by decide) (by decide) rfl ?_
    refine xj_goto (tgt := 18) d0_1_454 rfl ?_
    refine xj_iload_n (i := 3) d0_1_18 rfl rfl ?_
    refine xj_aload_n (i := 0) d0_1_19 rfl rfl ?_
    refine xj_slen hX d0_1_20 ?_
    refine xj_iconst (v := 4) d0_1_21 (by decide) ?_
    refine xj_isub (v := 0) d0_1_22 (by decide) ?_
    refine xj_icmp_gt (tgt := 457) d0_1_23 rfl (fun _ => ?_) (fun h => absurd (by decide) h)
    refine xj_iconst (v := 1) d0_1_457 (by decide) ?_
    exact xj_ret d0_1_458 (by omega) (by omega) rfl rfl
  · refine xj_tableIn (tgt := 187) d0_1_32 (by decide) (by decide) rfl rfl ?_
    refine xj_aload_n (i := 1) d0_1_187 rfl rfl ?_
    refine xj_aload_n (i := 0) d0_1_188 rfl rfl ?_
    refine xj_iload_n (i := 3) d0_1_189 rfl rfl ?_
    refine xj_iconst (v := 1) d0_1_190 (by decide) ?_
    refine xj_iadd (v := 1) d0_1_191 (by decide) ?_
    refine xj_sld (j := 1) hX d0_1_192 (vp_in_iff.mpr (by decide)) (by decide) ?_
    refine xj_callV (rest := []) (As := [.int (xs0 1)]) (b := 16) (px_length hg hxn hZ hT (M := Mi) (c := xs0 1) (by omega) ⟨((hoi 16 (by omega)).trans ((ho3 16 (by omega)).trans hf2_0)), ((hoi 17 (by omega)).trans ((ho3 17 (by omega)).trans hf2_1)), ((hoi 18 (by omega)).trans ((ho3 18 (by omega)).trans hf2_2)), ((hoi 19 (by omega)).trans ((ho3 19 (by omega)).trans hf2_3)), ((hoi 20 (by omega)).trans ((ho3 20 (by omega)).trans hf2_4)), ((hoi 21 (by omega)).trans ((ho3 21 (by omega)).trans hf2_5)), ((hoi 22 (by omega)).trans ((ho3 22 (by omega)).trans hf2_6)), ((hoi 23 (by omega)).trans ((ho3 23 (by omega)).trans hf2_7))⟩ ) d0_1_193 wd1_5 ((hoi 16 (by omega)).trans ((ho3 16 (by omega)).trans hf2_0)) (by omega) (show 16 < Mi.1 by omega) rfl w286 w285 (Or.inl w284) rfl rfl (Nat.le_of_ble_eq_true rfl) (by omega) (by omega) (by omega) ?_
    rintro v M10 ⟨rfl, hs10, ho10⟩
    refine xj_aload_n (i := 2) d0_1_196 rfl rfl ?_
    refine xj_aload_n (i := 0) d0_1_197 rfl rfl ?_
    refine xj_iload_n (i := 3) d0_1_198 rfl rfl ?_
    refine xj_iconst (v := 1) d0_1_199 (by decide) ?_
    refine xj_iadd (v := 1) d0_1_200 (by decide) ?_
    refine xj_sld (j := 1) hX d0_1_201 (vp_in_iff.mpr (by decide)) (by decide) ?_
    refine xj_callV (rest := [.int (-1)]) (As := [.int (xs0 1)]) (b := 24) (pm_length hg hxn hZ hT (M := M10) (c := xs0 1) rfl (by omega) ⟨f, g, hf, hgc, ((ho10 24 (by omega) (by omega)).trans hm_24), ((ho10 25 (by omega) (by omega)).trans hm_25), ((ho10 26 (by omega) (by omega)).trans hm_26), ((ho10 27 (by omega) (by omega)).trans hm_27), ((ho10 28 (by omega) (by omega)).trans hm_28), ((ho10 29 (by omega) (by omega)).trans hm_29), ((ho10 30 (by omega) (by omega)).trans hm_30), ((ho10 31 (by omega) (by omega)).trans hm_31), ((ho10 32 (by omega) (by omega)).trans hm_32), ((ho10 33 (by omega) (by omega)).trans hm_33), ((ho10 34 (by omega) (by omega)).trans hm_34), ((ho10 35 (by omega) (by omega)).trans hm_35), ((ho10 36 (by omega) (by omega)).trans hm_36), ((ho10 37 (by omega) (by omega)).trans hm_37), ((ho10 38 (by omega) (by omega)).trans hm_38), ((ho10 39 (by omega) (by omega)).trans hm_39), ((ho10 40 (by omega) (by omega)).trans hm_40), ((ho10 41 (by omega) (by omega)).trans hm_41), ((ho10 42 (by omega) (by omega)).trans hm_42), ((ho10 43 (by omega) (by omega)).trans hm_43), ((ho10 44 (by omega) (by omega)).trans hm_44), ((ho10 45 (by omega) (by omega)).trans hm_45), ((ho10 46 (by omega) (by omega)).trans hm_46), ((ho10 47 (by omega) (by omega)).trans hm_47), ((ho10 48 (by omega) (by omega)).trans hm_48), ((ho10 49 (by omega) (by omega)).trans hm_49), ((ho10 50 (by omega) (by omega)).trans hm_50), ((ho10 51 (by omega) (by omega)).trans hm_51)⟩ ) d0_1_202 wd14_6 ((ho10 24 (by omega) (by omega)).trans hm_24) (by omega) (show 24 < M10.1 by omega) rfl w1160 w1159 (Or.inl w1158) rfl rfl (Nat.le_of_ble_eq_true rfl) (by omega) (by omega) (by omega) ?_
    rintro v M11 rfl
    refine xj_icmp_eq (tgt := 451) d0_1_205 rfl (fun _ => ?_) (fun h => absurd rfl h)
    refine xj_iinc (v := 4) (L' := [(3, .int 4), (2, .ref 24), (1, .ref 16), (0, .ref 0)]) d0_1_451 rfl (by decide) (by decide) rfl ?_
    refine xj_goto (tgt := 18) d0_1_454 rfl ?_
    refine xj_iload_n (i := 3) d0_1_18 rfl rfl ?_
    refine xj_aload_n (i := 0) d0_1_19 rfl rfl ?_
    refine xj_slen hX d0_1_20 ?_
    refine xj_iconst (v := 4) d0_1_21 (by decide) ?_
    refine xj_isub (v := 0) d0_1_22 (by decide) ?_
    refine xj_icmp_gt (tgt := 457) d0_1_23 rfl (fun _ => ?_) (fun h => absurd (by decide) h)
    refine xj_iconst (v := 1) d0_1_457 (by decide) ?_
    exact xj_ret d0_1_458 (by omega) (by omega) rfl rfl
  · refine xj_tableIn (tgt := 210) d0_1_32 (by decide) (by decide) rfl rfl ?_
    refine xj_aload_n (i := 1) d0_1_210 rfl rfl ?_
    refine xj_aload_n (i := 0) d0_1_211 rfl rfl ?_
    refine xj_iload_n (i := 3) d0_1_212 rfl rfl ?_
    refine xj_iconst (v := 1) d0_1_213 (by decide) ?_
    refine xj_iadd (v := 1) d0_1_214 (by decide) ?_
    refine xj_sld (j := 1) hX d0_1_215 (vp_in_iff.mpr (by decide)) (by decide) ?_
    refine xj_i2c (v := ((xs0 1).toUInt32 % 65536).toInt32) d0_1_216 rfl ?_
    refine xj_callV (rest := []) (As := [.int (((xs0 1).toUInt32 % 65536).toInt32)]) (b := 16) (px_type hg hxn hZ hT (M := Mi) (c := ((xs0 1).toUInt32 % 65536).toInt32) (by omega) ⟨((hoi 16 (by omega)).trans ((ho3 16 (by omega)).trans hf2_0)), ((hoi 17 (by omega)).trans ((ho3 17 (by omega)).trans hf2_1)), ((hoi 18 (by omega)).trans ((ho3 18 (by omega)).trans hf2_2)), ((hoi 19 (by omega)).trans ((ho3 19 (by omega)).trans hf2_3)), ((hoi 20 (by omega)).trans ((ho3 20 (by omega)).trans hf2_4)), ((hoi 21 (by omega)).trans ((ho3 21 (by omega)).trans hf2_5)), ((hoi 22 (by omega)).trans ((ho3 22 (by omega)).trans hf2_6)), ((hoi 23 (by omega)).trans ((ho3 23 (by omega)).trans hf2_7))⟩ (pk_vc _)) d0_1_217 wd1_6 ((hoi 16 (by omega)).trans ((ho3 16 (by omega)).trans hf2_0)) (by omega) (show 16 < Mi.1 by omega) rfl w290 w289 (Or.inl w288) rfl rfl (Nat.le_of_ble_eq_true rfl) (by omega) (by omega) (by omega) ?_
    rintro v M12 ⟨rfl, hs12, ho12⟩
    refine xj_aload_n (i := 2) d0_1_220 rfl rfl ?_
    refine xj_aload_n (i := 0) d0_1_221 rfl rfl ?_
    refine xj_iload_n (i := 3) d0_1_222 rfl rfl ?_
    refine xj_iconst (v := 1) d0_1_223 (by decide) ?_
    refine xj_iadd (v := 1) d0_1_224 (by decide) ?_
    refine xj_sld (j := 1) hX d0_1_225 (vp_in_iff.mpr (by decide)) (by decide) ?_
    refine xj_i2c (v := ((xs0 1).toUInt32 % 65536).toInt32) d0_1_226 rfl ?_
    refine xj_callV (rest := [.int (xB (¬ (((xs0 1).toUInt32 % 65536).toInt32) < 32 ∧ ¬ 126 < (((xs0 1).toUInt32 % 65536).toInt32)))]) (As := [.int (((xs0 1).toUInt32 % 65536).toInt32)]) (b := 24) (pm_type hg hxn hZ hT (M := M12) (c := ((xs0 1).toUInt32 % 65536).toInt32) rfl (by omega) ⟨f, g, hf, hgc, ((ho12 24 (by omega) (by omega)).trans hm_24), ((ho12 25 (by omega) (by omega)).trans hm_25), ((ho12 26 (by omega) (by omega)).trans hm_26), ((ho12 27 (by omega) (by omega)).trans hm_27), ((ho12 28 (by omega) (by omega)).trans hm_28), ((ho12 29 (by omega) (by omega)).trans hm_29), ((ho12 30 (by omega) (by omega)).trans hm_30), ((ho12 31 (by omega) (by omega)).trans hm_31), ((ho12 32 (by omega) (by omega)).trans hm_32), ((ho12 33 (by omega) (by omega)).trans hm_33), ((ho12 34 (by omega) (by omega)).trans hm_34), ((ho12 35 (by omega) (by omega)).trans hm_35), ((ho12 36 (by omega) (by omega)).trans hm_36), ((ho12 37 (by omega) (by omega)).trans hm_37), ((ho12 38 (by omega) (by omega)).trans hm_38), ((ho12 39 (by omega) (by omega)).trans hm_39), ((ho12 40 (by omega) (by omega)).trans hm_40), ((ho12 41 (by omega) (by omega)).trans hm_41), ((ho12 42 (by omega) (by omega)).trans hm_42), ((ho12 43 (by omega) (by omega)).trans hm_43), ((ho12 44 (by omega) (by omega)).trans hm_44), ((ho12 45 (by omega) (by omega)).trans hm_45), ((ho12 46 (by omega) (by omega)).trans hm_46), ((ho12 47 (by omega) (by omega)).trans hm_47), ((ho12 48 (by omega) (by omega)).trans hm_48), ((ho12 49 (by omega) (by omega)).trans hm_49), ((ho12 50 (by omega) (by omega)).trans hm_50), ((ho12 51 (by omega) (by omega)).trans hm_51)⟩ ) d0_1_227 wd14_17 ((ho12 24 (by omega) (by omega)).trans hm_24) (by omega) (show 24 < M12.1 by omega) rfl w1192 w1191 (Or.inl w1190) rfl rfl (Nat.le_of_ble_eq_true rfl) (by omega) (by omega) (by omega) ?_
    rintro v M13 rfl
    refine xj_icmp_eq (tgt := 451) d0_1_230 rfl (fun _ => ?_) (fun h => absurd rfl h)
    refine xj_iinc (v := 4) (L' := [(3, .int 4), (2, .ref 24), (1, .ref 16), (0, .ref 0)]) d0_1_451 rfl (by decide) (by decide) rfl ?_
    refine xj_goto (tgt := 18) d0_1_454 rfl ?_
    refine xj_iload_n (i := 3) d0_1_18 rfl rfl ?_
    refine xj_aload_n (i := 0) d0_1_19 rfl rfl ?_
    refine xj_slen hX d0_1_20 ?_
    refine xj_iconst (v := 4) d0_1_21 (by decide) ?_
    refine xj_isub (v := 0) d0_1_22 (by decide) ?_
    refine xj_icmp_gt (tgt := 457) d0_1_23 rfl (fun _ => ?_) (fun h => absurd (by decide) h)
    refine xj_iconst (v := 1) d0_1_457 (by decide) ?_
    exact xj_ret d0_1_458 (by omega) (by omega) rfl rfl
  · refine xj_tableIn (tgt := 235) d0_1_32 (by decide) (by decide) rfl rfl ?_
    refine xj_aload_n (i := 1) d0_1_235 rfl rfl ?_
    refine xj_callV (rest := []) (As := []) (b := 16) (px_back hg hxn hZ hT (M := Mi) (by omega) ⟨((hoi 16 (by omega)).trans ((ho3 16 (by omega)).trans hf2_0)), ((hoi 17 (by omega)).trans ((ho3 17 (by omega)).trans hf2_1)), ((hoi 18 (by omega)).trans ((ho3 18 (by omega)).trans hf2_2)), ((hoi 19 (by omega)).trans ((ho3 19 (by omega)).trans hf2_3)), ((hoi 20 (by omega)).trans ((ho3 20 (by omega)).trans hf2_4)), ((hoi 21 (by omega)).trans ((ho3 21 (by omega)).trans hf2_5)), ((hoi 22 (by omega)).trans ((ho3 22 (by omega)).trans hf2_6)), ((hoi 23 (by omega)).trans ((ho3 23 (by omega)).trans hf2_7))⟩ ) d0_1_236 wd1_7 ((hoi 16 (by omega)).trans ((ho3 16 (by omega)).trans hf2_0)) (by omega) (show 16 < Mi.1 by omega) rfl w294 w293 (Or.inl w292) rfl rfl (Nat.le_of_ble_eq_true rfl) (by omega) (by omega) (by omega) ?_
    rintro v M14 ⟨rfl, hs14, ho14⟩
    refine xj_aload_n (i := 2) d0_1_239 rfl rfl ?_
    refine xj_callV (rest := [.int 0]) (As := []) (b := 24) (pm_back hg hxn hZ hT (M := M14) rfl (by omega) ⟨f, g, hf, hgc, ((ho14 24 (by omega) (by omega)).trans hm_24), ((ho14 25 (by omega) (by omega)).trans hm_25), ((ho14 26 (by omega) (by omega)).trans hm_26), ((ho14 27 (by omega) (by omega)).trans hm_27), ((ho14 28 (by omega) (by omega)).trans hm_28), ((ho14 29 (by omega) (by omega)).trans hm_29), ((ho14 30 (by omega) (by omega)).trans hm_30), ((ho14 31 (by omega) (by omega)).trans hm_31), ((ho14 32 (by omega) (by omega)).trans hm_32), ((ho14 33 (by omega) (by omega)).trans hm_33), ((ho14 34 (by omega) (by omega)).trans hm_34), ((ho14 35 (by omega) (by omega)).trans hm_35), ((ho14 36 (by omega) (by omega)).trans hm_36), ((ho14 37 (by omega) (by omega)).trans hm_37), ((ho14 38 (by omega) (by omega)).trans hm_38), ((ho14 39 (by omega) (by omega)).trans hm_39), ((ho14 40 (by omega) (by omega)).trans hm_40), ((ho14 41 (by omega) (by omega)).trans hm_41), ((ho14 42 (by omega) (by omega)).trans hm_42), ((ho14 43 (by omega) (by omega)).trans hm_43), ((ho14 44 (by omega) (by omega)).trans hm_44), ((ho14 45 (by omega) (by omega)).trans hm_45), ((ho14 46 (by omega) (by omega)).trans hm_46), ((ho14 47 (by omega) (by omega)).trans hm_47), ((ho14 48 (by omega) (by omega)).trans hm_48), ((ho14 49 (by omega) (by omega)).trans hm_49), ((ho14 50 (by omega) (by omega)).trans hm_50), ((ho14 51 (by omega) (by omega)).trans hm_51)⟩ ) d0_1_240 wd14_18 ((ho14 24 (by omega) (by omega)).trans hm_24) (by omega) (show 24 < M14.1 by omega) rfl w1196 w1195 (Or.inl w1194) rfl rfl (Nat.le_of_ble_eq_true rfl) (by omega) (by omega) (by omega) ?_
    rintro v M15 rfl
    refine xj_icmp_eq (tgt := 451) d0_1_243 rfl (fun _ => ?_) (fun h => absurd rfl h)
    refine xj_iinc (v := 4) (L' := [(3, .int 4), (2, .ref 24), (1, .ref 16), (0, .ref 0)]) d0_1_451 rfl (by decide) (by decide) rfl ?_
    refine xj_goto (tgt := 18) d0_1_454 rfl ?_
    refine xj_iload_n (i := 3) d0_1_18 rfl rfl ?_
    refine xj_aload_n (i := 0) d0_1_19 rfl rfl ?_
    refine xj_slen hX d0_1_20 ?_
    refine xj_iconst (v := 4) d0_1_21 (by decide) ?_
    refine xj_isub (v := 0) d0_1_22 (by decide) ?_
    refine xj_icmp_gt (tgt := 457) d0_1_23 rfl (fun _ => ?_) (fun h => absurd (by decide) h)
    refine xj_iconst (v := 1) d0_1_457 (by decide) ?_
    exact xj_ret d0_1_458 (by omega) (by omega) rfl rfl
  · refine xj_tableIn (tgt := 248) d0_1_32 (by decide) (by decide) rfl rfl ?_
    refine xj_aload_n (i := 1) d0_1_248 rfl rfl ?_
    refine xj_callV (rest := []) (As := []) (b := 16) (px_fault hg hxn hZ hT (M := Mi) (by omega) ⟨((hoi 16 (by omega)).trans ((ho3 16 (by omega)).trans hf2_0)), ((hoi 17 (by omega)).trans ((ho3 17 (by omega)).trans hf2_1)), ((hoi 18 (by omega)).trans ((ho3 18 (by omega)).trans hf2_2)), ((hoi 19 (by omega)).trans ((ho3 19 (by omega)).trans hf2_3)), ((hoi 20 (by omega)).trans ((ho3 20 (by omega)).trans hf2_4)), ((hoi 21 (by omega)).trans ((ho3 21 (by omega)).trans hf2_5)), ((hoi 22 (by omega)).trans ((ho3 22 (by omega)).trans hf2_6)), ((hoi 23 (by omega)).trans ((ho3 23 (by omega)).trans hf2_7))⟩ ) d0_1_249 wd1_8 ((hoi 16 (by omega)).trans ((ho3 16 (by omega)).trans hf2_0)) (by omega) (show 16 < Mi.1 by omega) rfl w298 w297 (Or.inl w296) rfl rfl (Nat.le_of_ble_eq_true rfl) (by omega) (by omega) (by omega) ?_
    rintro v M16 ⟨rfl, hs16, ho16⟩
    refine xj_aload_n (i := 2) d0_1_252 rfl rfl ?_
    refine xj_callV (rest := [.int 1]) (As := []) (b := 24) (pm_fault hg hxn hZ hT (M := M16) rfl (by omega) ⟨f, g, hf, hgc, ((ho16 24 (by omega) (by omega)).trans hm_24), ((ho16 25 (by omega) (by omega)).trans hm_25), ((ho16 26 (by omega) (by omega)).trans hm_26), ((ho16 27 (by omega) (by omega)).trans hm_27), ((ho16 28 (by omega) (by omega)).trans hm_28), ((ho16 29 (by omega) (by omega)).trans hm_29), ((ho16 30 (by omega) (by omega)).trans hm_30), ((ho16 31 (by omega) (by omega)).trans hm_31), ((ho16 32 (by omega) (by omega)).trans hm_32), ((ho16 33 (by omega) (by omega)).trans hm_33), ((ho16 34 (by omega) (by omega)).trans hm_34), ((ho16 35 (by omega) (by omega)).trans hm_35), ((ho16 36 (by omega) (by omega)).trans hm_36), ((ho16 37 (by omega) (by omega)).trans hm_37), ((ho16 38 (by omega) (by omega)).trans hm_38), ((ho16 39 (by omega) (by omega)).trans hm_39), ((ho16 40 (by omega) (by omega)).trans hm_40), ((ho16 41 (by omega) (by omega)).trans hm_41), ((ho16 42 (by omega) (by omega)).trans hm_42), ((ho16 43 (by omega) (by omega)).trans hm_43), ((ho16 44 (by omega) (by omega)).trans hm_44), ((ho16 45 (by omega) (by omega)).trans hm_45), ((ho16 46 (by omega) (by omega)).trans hm_46), ((ho16 47 (by omega) (by omega)).trans hm_47), ((ho16 48 (by omega) (by omega)).trans hm_48), ((ho16 49 (by omega) (by omega)).trans hm_49), ((ho16 50 (by omega) (by omega)).trans hm_50), ((ho16 51 (by omega) (by omega)).trans hm_51)⟩ ) d0_1_253 wd14_41 ((ho16 24 (by omega) (by omega)).trans hm_24) (by omega) (show 24 < M16.1 by omega) rfl w1200 w1199 (Or.inl w1198) rfl rfl (Nat.le_of_ble_eq_true rfl) (by omega) (by omega) (by omega) ?_
    rintro v M17 rfl
    refine xj_icmp_eq (tgt := 451) d0_1_256 rfl (fun _ => ?_) (fun h => absurd rfl h)
    refine xj_iinc (v := 4) (L' := [(3, .int 4), (2, .ref 24), (1, .ref 16), (0, .ref 0)]) d0_1_451 rfl (by decide) (by decide) rfl ?_
    refine xj_goto (tgt := 18) d0_1_454 rfl ?_
    refine xj_iload_n (i := 3) d0_1_18 rfl rfl ?_
    refine xj_aload_n (i := 0) d0_1_19 rfl rfl ?_
    refine xj_slen hX d0_1_20 ?_
    refine xj_iconst (v := 4) d0_1_21 (by decide) ?_
    refine xj_isub (v := 0) d0_1_22 (by decide) ?_
    refine xj_icmp_gt (tgt := 457) d0_1_23 rfl (fun _ => ?_) (fun h => absurd (by decide) h)
    refine xj_iconst (v := 1) d0_1_457 (by decide) ?_
    exact xj_ret d0_1_458 (by omega) (by omega) rfl rfl
  · refine xj_tableIn (tgt := 261) d0_1_32 (by decide) (by decide) rfl rfl ?_
    refine xj_aload_n (i := 1) d0_1_261 rfl rfl ?_
    refine xj_callV (rest := []) (As := []) (b := 16) (px_size hg hxn hZ hT (M := Mi) (by omega) ⟨((hoi 16 (by omega)).trans ((ho3 16 (by omega)).trans hf2_0)), ((hoi 17 (by omega)).trans ((ho3 17 (by omega)).trans hf2_1)), ((hoi 18 (by omega)).trans ((ho3 18 (by omega)).trans hf2_2)), ((hoi 19 (by omega)).trans ((ho3 19 (by omega)).trans hf2_3)), ((hoi 20 (by omega)).trans ((ho3 20 (by omega)).trans hf2_4)), ((hoi 21 (by omega)).trans ((ho3 21 (by omega)).trans hf2_5)), ((hoi 22 (by omega)).trans ((ho3 22 (by omega)).trans hf2_6)), ((hoi 23 (by omega)).trans ((ho3 23 (by omega)).trans hf2_7))⟩ ) d0_1_262 wd1_9 ((hoi 16 (by omega)).trans ((ho3 16 (by omega)).trans hf2_0)) (by omega) (show 16 < Mi.1 by omega) rfl w812 w811 (Or.inl w810) rfl rfl (Nat.le_of_ble_eq_true rfl) (by omega) (by omega) (by omega) ?_
    rintro v M18 ⟨rfl, hs18, ho18⟩
    refine xj_aload_n (i := 2) d0_1_265 rfl rfl ?_
    refine xj_callV (rest := [.int (-1)]) (As := []) (b := 24) (pm_size hg hxn hZ hT (M := M18) rfl (by omega) ⟨f, g, hf, hgc, ((ho18 24 (by omega) (by omega)).trans hm_24), ((ho18 25 (by omega) (by omega)).trans hm_25), ((ho18 26 (by omega) (by omega)).trans hm_26), ((ho18 27 (by omega) (by omega)).trans hm_27), ((ho18 28 (by omega) (by omega)).trans hm_28), ((ho18 29 (by omega) (by omega)).trans hm_29), ((ho18 30 (by omega) (by omega)).trans hm_30), ((ho18 31 (by omega) (by omega)).trans hm_31), ((ho18 32 (by omega) (by omega)).trans hm_32), ((ho18 33 (by omega) (by omega)).trans hm_33), ((ho18 34 (by omega) (by omega)).trans hm_34), ((ho18 35 (by omega) (by omega)).trans hm_35), ((ho18 36 (by omega) (by omega)).trans hm_36), ((ho18 37 (by omega) (by omega)).trans hm_37), ((ho18 38 (by omega) (by omega)).trans hm_38), ((ho18 39 (by omega) (by omega)).trans hm_39), ((ho18 40 (by omega) (by omega)).trans hm_40), ((ho18 41 (by omega) (by omega)).trans hm_41), ((ho18 42 (by omega) (by omega)).trans hm_42), ((ho18 43 (by omega) (by omega)).trans hm_43), ((ho18 44 (by omega) (by omega)).trans hm_44), ((ho18 45 (by omega) (by omega)).trans hm_45), ((ho18 46 (by omega) (by omega)).trans hm_46), ((ho18 47 (by omega) (by omega)).trans hm_47), ((ho18 48 (by omega) (by omega)).trans hm_48), ((ho18 49 (by omega) (by omega)).trans hm_49), ((ho18 50 (by omega) (by omega)).trans hm_50), ((ho18 51 (by omega) (by omega)).trans hm_51)⟩ ) d0_1_266 wd14_42 ((ho18 24 (by omega) (by omega)).trans hm_24) (by omega) (show 24 < M18.1 by omega) rfl w1290 w1289 (Or.inl w1288) rfl rfl (Nat.le_of_ble_eq_true rfl) (by omega) (by omega) (by omega) ?_
    rintro v M19 rfl
    refine xj_icmp_eq (tgt := 451) d0_1_269 rfl (fun _ => ?_) (fun h => absurd rfl h)
    refine xj_iinc (v := 4) (L' := [(3, .int 4), (2, .ref 24), (1, .ref 16), (0, .ref 0)]) d0_1_451 rfl (by decide) (by decide) rfl ?_
    refine xj_goto (tgt := 18) d0_1_454 rfl ?_
    refine xj_iload_n (i := 3) d0_1_18 rfl rfl ?_
    refine xj_aload_n (i := 0) d0_1_19 rfl rfl ?_
    refine xj_slen hX d0_1_20 ?_
    refine xj_iconst (v := 4) d0_1_21 (by decide) ?_
    refine xj_isub (v := 0) d0_1_22 (by decide) ?_
    refine xj_icmp_gt (tgt := 457) d0_1_23 rfl (fun _ => ?_) (fun h => absurd (by decide) h)
    refine xj_iconst (v := 1) d0_1_457 (by decide) ?_
    exact xj_ret d0_1_458 (by omega) (by omega) rfl rfl
  · refine xj_tableIn (tgt := 274) d0_1_32 (by decide) (by decide) rfl rfl ?_
    refine xj_aload_n (i := 1) d0_1_274 rfl rfl ?_
    refine xj_callV (rest := []) (As := []) (b := 16) (px_strings hg hxn hZ hT (M := Mi) (by omega) ⟨((hoi 16 (by omega)).trans ((ho3 16 (by omega)).trans hf2_0)), ((hoi 17 (by omega)).trans ((ho3 17 (by omega)).trans hf2_1)), ((hoi 18 (by omega)).trans ((ho3 18 (by omega)).trans hf2_2)), ((hoi 19 (by omega)).trans ((ho3 19 (by omega)).trans hf2_3)), ((hoi 20 (by omega)).trans ((ho3 20 (by omega)).trans hf2_4)), ((hoi 21 (by omega)).trans ((ho3 21 (by omega)).trans hf2_5)), ((hoi 22 (by omega)).trans ((ho3 22 (by omega)).trans hf2_6)), ((hoi 23 (by omega)).trans ((ho3 23 (by omega)).trans hf2_7))⟩ ) d0_1_275 wd1_10 ((hoi 16 (by omega)).trans ((ho3 16 (by omega)).trans hf2_0)) (by omega) (show 16 < Mi.1 by omega) rfl w817 w816 (Or.inl w815) rfl rfl (Nat.le_of_ble_eq_true rfl) (by omega) (by omega) (by omega) ?_
    rintro v M20 ⟨rfl, hs20, ho20⟩
    refine xj_aload_n (i := 2) d0_1_278 rfl rfl ?_
    refine xj_callV (rest := [.int (-2)]) (As := []) (b := 24) (pm_strings hg hxn hZ hT (M := M20) rfl (by omega) ⟨f, g, hf, hgc, ((ho20 24 (by omega) (by omega)).trans hm_24), ((ho20 25 (by omega) (by omega)).trans hm_25), ((ho20 26 (by omega) (by omega)).trans hm_26), ((ho20 27 (by omega) (by omega)).trans hm_27), ((ho20 28 (by omega) (by omega)).trans hm_28), ((ho20 29 (by omega) (by omega)).trans hm_29), ((ho20 30 (by omega) (by omega)).trans hm_30), ((ho20 31 (by omega) (by omega)).trans hm_31), ((ho20 32 (by omega) (by omega)).trans hm_32), ((ho20 33 (by omega) (by omega)).trans hm_33), ((ho20 34 (by omega) (by omega)).trans hm_34), ((ho20 35 (by omega) (by omega)).trans hm_35), ((ho20 36 (by omega) (by omega)).trans hm_36), ((ho20 37 (by omega) (by omega)).trans hm_37), ((ho20 38 (by omega) (by omega)).trans hm_38), ((ho20 39 (by omega) (by omega)).trans hm_39), ((ho20 40 (by omega) (by omega)).trans hm_40), ((ho20 41 (by omega) (by omega)).trans hm_41), ((ho20 42 (by omega) (by omega)).trans hm_42), ((ho20 43 (by omega) (by omega)).trans hm_43), ((ho20 44 (by omega) (by omega)).trans hm_44), ((ho20 45 (by omega) (by omega)).trans hm_45), ((ho20 46 (by omega) (by omega)).trans hm_46), ((ho20 47 (by omega) (by omega)).trans hm_47), ((ho20 48 (by omega) (by omega)).trans hm_48), ((ho20 49 (by omega) (by omega)).trans hm_49), ((ho20 50 (by omega) (by omega)).trans hm_50), ((ho20 51 (by omega) (by omega)).trans hm_51)⟩ ) d0_1_279 wd14_55 ((ho20 24 (by omega) (by omega)).trans hm_24) (by omega) (show 24 < M20.1 by omega) rfl w1294 w1293 (Or.inl w1292) rfl rfl (Nat.le_of_ble_eq_true rfl) (by omega) (by omega) (by omega) ?_
    rintro v M21 rfl
    refine xj_icmp_eq (tgt := 451) d0_1_282 rfl (fun _ => ?_) (fun h => absurd rfl h)
    refine xj_iinc (v := 4) (L' := [(3, .int 4), (2, .ref 24), (1, .ref 16), (0, .ref 0)]) d0_1_451 rfl (by decide) (by decide) rfl ?_
    refine xj_goto (tgt := 18) d0_1_454 rfl ?_
    refine xj_iload_n (i := 3) d0_1_18 rfl rfl ?_
    refine xj_aload_n (i := 0) d0_1_19 rfl rfl ?_
    refine xj_slen hX d0_1_20 ?_
    refine xj_iconst (v := 4) d0_1_21 (by decide) ?_
    refine xj_isub (v := 0) d0_1_22 (by decide) ?_
    refine xj_icmp_gt (tgt := 457) d0_1_23 rfl (fun _ => ?_) (fun h => absurd (by decide) h)
    refine xj_iconst (v := 1) d0_1_457 (by decide) ?_
    exact xj_ret d0_1_458 (by omega) (by omega) rfl rfl
  · refine xj_tableIn (tgt := 287) d0_1_32 (by decide) (by decide) rfl rfl ?_
    refine xj_aload_n (i := 1) d0_1_287 rfl rfl ?_
    refine xj_callV (rest := []) (As := []) (b := 16) (px_search hg hxn hZ hT (M := Mi) (by omega) ⟨((hoi 16 (by omega)).trans ((ho3 16 (by omega)).trans hf2_0)), ((hoi 17 (by omega)).trans ((ho3 17 (by omega)).trans hf2_1)), ((hoi 18 (by omega)).trans ((ho3 18 (by omega)).trans hf2_2)), ((hoi 19 (by omega)).trans ((ho3 19 (by omega)).trans hf2_3)), ((hoi 20 (by omega)).trans ((ho3 20 (by omega)).trans hf2_4)), ((hoi 21 (by omega)).trans ((ho3 21 (by omega)).trans hf2_5)), ((hoi 22 (by omega)).trans ((ho3 22 (by omega)).trans hf2_6)), ((hoi 23 (by omega)).trans ((ho3 23 (by omega)).trans hf2_7))⟩ ) d0_1_288 wd1_11 ((hoi 16 (by omega)).trans ((ho3 16 (by omega)).trans hf2_0)) (by omega) (show 16 < Mi.1 by omega) rfl w821 w820 (Or.inl w819) rfl rfl (Nat.le_of_ble_eq_true rfl) (by omega) (by omega) (by omega) ?_
    rintro v M22 ⟨rfl, hs22, ho22⟩
    refine xj_aload_n (i := 2) d0_1_291 rfl rfl ?_
    refine xj_callV (rest := [.int (-1)]) (As := []) (b := 24) (pm_search hg hxn hZ hT (M := M22) rfl (by omega) ⟨f, g, hf, hgc, ((ho22 24 (by omega) (by omega)).trans hm_24), ((ho22 25 (by omega) (by omega)).trans hm_25), ((ho22 26 (by omega) (by omega)).trans hm_26), ((ho22 27 (by omega) (by omega)).trans hm_27), ((ho22 28 (by omega) (by omega)).trans hm_28), ((ho22 29 (by omega) (by omega)).trans hm_29), ((ho22 30 (by omega) (by omega)).trans hm_30), ((ho22 31 (by omega) (by omega)).trans hm_31), ((ho22 32 (by omega) (by omega)).trans hm_32), ((ho22 33 (by omega) (by omega)).trans hm_33), ((ho22 34 (by omega) (by omega)).trans hm_34), ((ho22 35 (by omega) (by omega)).trans hm_35), ((ho22 36 (by omega) (by omega)).trans hm_36), ((ho22 37 (by omega) (by omega)).trans hm_37), ((ho22 38 (by omega) (by omega)).trans hm_38), ((ho22 39 (by omega) (by omega)).trans hm_39), ((ho22 40 (by omega) (by omega)).trans hm_40), ((ho22 41 (by omega) (by omega)).trans hm_41), ((ho22 42 (by omega) (by omega)).trans hm_42), ((ho22 43 (by omega) (by omega)).trans hm_43), ((ho22 44 (by omega) (by omega)).trans hm_44), ((ho22 45 (by omega) (by omega)).trans hm_45), ((ho22 46 (by omega) (by omega)).trans hm_46), ((ho22 47 (by omega) (by omega)).trans hm_47), ((ho22 48 (by omega) (by omega)).trans hm_48), ((ho22 49 (by omega) (by omega)).trans hm_49), ((ho22 50 (by omega) (by omega)).trans hm_50), ((ho22 51 (by omega) (by omega)).trans hm_51)⟩ ) d0_1_292 wd14_61 ((ho22 24 (by omega) (by omega)).trans hm_24) (by omega) (show 24 < M22.1 by omega) rfl w1346 w1345 (Or.inl w1344) rfl rfl (Nat.le_of_ble_eq_true rfl) (by omega) (by omega) (by omega) ?_
    rintro v M23 rfl
    refine xj_icmp_eq (tgt := 451) d0_1_295 rfl (fun _ => ?_) (fun h => absurd rfl h)
    refine xj_iinc (v := 4) (L' := [(3, .int 4), (2, .ref 24), (1, .ref 16), (0, .ref 0)]) d0_1_451 rfl (by decide) (by decide) rfl ?_
    refine xj_goto (tgt := 18) d0_1_454 rfl ?_
    refine xj_iload_n (i := 3) d0_1_18 rfl rfl ?_
    refine xj_aload_n (i := 0) d0_1_19 rfl rfl ?_
    refine xj_slen hX d0_1_20 ?_
    refine xj_iconst (v := 4) d0_1_21 (by decide) ?_
    refine xj_isub (v := 0) d0_1_22 (by decide) ?_
    refine xj_icmp_gt (tgt := 457) d0_1_23 rfl (fun _ => ?_) (fun h => absurd (by decide) h)
    refine xj_iconst (v := 1) d0_1_457 (by decide) ?_
    exact xj_ret d0_1_458 (by omega) (by omega) rfl rfl
  · refine xj_tableIn (tgt := 300) d0_1_32 (by decide) (by decide) rfl rfl ?_
    refine xj_aload_n (i := 1) d0_1_300 rfl rfl ?_
    refine xj_callV (rest := []) (As := []) (b := 16) (px_possible hg hxn hZ hT (M := Mi) (by omega) ⟨((hoi 16 (by omega)).trans ((ho3 16 (by omega)).trans hf2_0)), ((hoi 17 (by omega)).trans ((ho3 17 (by omega)).trans hf2_1)), ((hoi 18 (by omega)).trans ((ho3 18 (by omega)).trans hf2_2)), ((hoi 19 (by omega)).trans ((ho3 19 (by omega)).trans hf2_3)), ((hoi 20 (by omega)).trans ((ho3 20 (by omega)).trans hf2_4)), ((hoi 21 (by omega)).trans ((ho3 21 (by omega)).trans hf2_5)), ((hoi 22 (by omega)).trans ((ho3 22 (by omega)).trans hf2_6)), ((hoi 23 (by omega)).trans ((ho3 23 (by omega)).trans hf2_7))⟩ ) d0_1_301 wd1_12 ((hoi 16 (by omega)).trans ((ho3 16 (by omega)).trans hf2_0)) (by omega) (show 16 < Mi.1 by omega) rfl w961 w960 (Or.inl w959) rfl rfl (Nat.le_of_ble_eq_true rfl) (by omega) (by omega) (by omega) ?_
    rintro v M24 ⟨rfl, hs24, ho24⟩
    refine xj_aload_n (i := 2) d0_1_304 rfl rfl ?_
    refine xj_callV (rest := [.int 0]) (As := []) (b := 24) (pm_possible hg hxn hZ hT (M := M24) rfl (by omega) ⟨f, g, hf, hgc, ((ho24 24 (by omega) (by omega)).trans hm_24), ((ho24 25 (by omega) (by omega)).trans hm_25), ((ho24 26 (by omega) (by omega)).trans hm_26), ((ho24 27 (by omega) (by omega)).trans hm_27), ((ho24 28 (by omega) (by omega)).trans hm_28), ((ho24 29 (by omega) (by omega)).trans hm_29), ((ho24 30 (by omega) (by omega)).trans hm_30), ((ho24 31 (by omega) (by omega)).trans hm_31), ((ho24 32 (by omega) (by omega)).trans hm_32), ((ho24 33 (by omega) (by omega)).trans hm_33), ((ho24 34 (by omega) (by omega)).trans hm_34), ((ho24 35 (by omega) (by omega)).trans hm_35), ((ho24 36 (by omega) (by omega)).trans hm_36), ((ho24 37 (by omega) (by omega)).trans hm_37), ((ho24 38 (by omega) (by omega)).trans hm_38), ((ho24 39 (by omega) (by omega)).trans hm_39), ((ho24 40 (by omega) (by omega)).trans hm_40), ((ho24 41 (by omega) (by omega)).trans hm_41), ((ho24 42 (by omega) (by omega)).trans hm_42), ((ho24 43 (by omega) (by omega)).trans hm_43), ((ho24 44 (by omega) (by omega)).trans hm_44), ((ho24 45 (by omega) (by omega)).trans hm_45), ((ho24 46 (by omega) (by omega)).trans hm_46), ((ho24 47 (by omega) (by omega)).trans hm_47), ((ho24 48 (by omega) (by omega)).trans hm_48), ((ho24 49 (by omega) (by omega)).trans hm_49), ((ho24 50 (by omega) (by omega)).trans hm_50), ((ho24 51 (by omega) (by omega)).trans hm_51)⟩ ) d0_1_305 wd14_62 ((ho24 24 (by omega) (by omega)).trans hm_24) (by omega) (show 24 < M24.1 by omega) rfl w1372 w1371 (Or.inl w1370) rfl rfl (Nat.le_of_ble_eq_true rfl) (by omega) (by omega) (by omega) ?_
    rintro v M25 rfl
    refine xj_icmp_eq (tgt := 451) d0_1_308 rfl (fun _ => ?_) (fun h => absurd rfl h)
    refine xj_iinc (v := 4) (L' := [(3, .int 4), (2, .ref 24), (1, .ref 16), (0, .ref 0)]) d0_1_451 rfl (by decide) (by decide) rfl ?_
    refine xj_goto (tgt := 18) d0_1_454 rfl ?_
    refine xj_iload_n (i := 3) d0_1_18 rfl rfl ?_
    refine xj_aload_n (i := 0) d0_1_19 rfl rfl ?_
    refine xj_slen hX d0_1_20 ?_
    refine xj_iconst (v := 4) d0_1_21 (by decide) ?_
    refine xj_isub (v := 0) d0_1_22 (by decide) ?_
    refine xj_icmp_gt (tgt := 457) d0_1_23 rfl (fun _ => ?_) (fun h => absurd (by decide) h)
    refine xj_iconst (v := 1) d0_1_457 (by decide) ?_
    exact xj_ret d0_1_458 (by omega) (by omega) rfl rfl
  · refine xj_tableIn (tgt := 313) d0_1_32 (by decide) (by decide) rfl rfl ?_
    refine xj_aload_n (i := 1) d0_1_313 rfl rfl ?_
    refine xj_aload_n (i := 0) d0_1_314 rfl rfl ?_
    refine xj_iload_n (i := 3) d0_1_315 rfl rfl ?_
    refine xj_iconst (v := 1) d0_1_316 (by decide) ?_
    refine xj_iadd (v := 1) d0_1_317 (by decide) ?_
    refine xj_sld (j := 1) hX d0_1_318 (vp_in_iff.mpr (by decide)) (by decide) ?_
    refine xj_callV (rest := []) (As := [.int (xs0 1)]) (b := 16) (px_hit hg hxn hZ hT (M := Mi) (c := xs0 1) (by omega) ⟨((hoi 16 (by omega)).trans ((ho3 16 (by omega)).trans hf2_0)), ((hoi 17 (by omega)).trans ((ho3 17 (by omega)).trans hf2_1)), ((hoi 18 (by omega)).trans ((ho3 18 (by omega)).trans hf2_2)), ((hoi 19 (by omega)).trans ((ho3 19 (by omega)).trans hf2_3)), ((hoi 20 (by omega)).trans ((ho3 20 (by omega)).trans hf2_4)), ((hoi 21 (by omega)).trans ((ho3 21 (by omega)).trans hf2_5)), ((hoi 22 (by omega)).trans ((ho3 22 (by omega)).trans hf2_6)), ((hoi 23 (by omega)).trans ((ho3 23 (by omega)).trans hf2_7))⟩ ) d0_1_319 wd1_13 ((hoi 16 (by omega)).trans ((ho3 16 (by omega)).trans hf2_0)) (by omega) (show 16 < Mi.1 by omega) rfl w965 w964 (Or.inl w963) rfl rfl (Nat.le_of_ble_eq_true rfl) (by omega) (by omega) (by omega) ?_
    rintro v M26 ⟨rfl, hs26, ho26⟩
    refine xj_aload_n (i := 2) d0_1_322 rfl rfl ?_
    refine xj_aload_n (i := 0) d0_1_323 rfl rfl ?_
    refine xj_iload_n (i := 3) d0_1_324 rfl rfl ?_
    refine xj_iconst (v := 1) d0_1_325 (by decide) ?_
    refine xj_iadd (v := 1) d0_1_326 (by decide) ?_
    refine xj_sld (j := 1) hX d0_1_327 (vp_in_iff.mpr (by decide)) (by decide) ?_
    refine xj_callV (rest := [.int (-1)]) (As := [.int (xs0 1)]) (b := 24) (pm_hit hg hxn hZ hT (M := M26) (c := xs0 1) rfl (by omega) ⟨f, g, hf, hgc, ((ho26 24 (by omega) (by omega)).trans hm_24), ((ho26 25 (by omega) (by omega)).trans hm_25), ((ho26 26 (by omega) (by omega)).trans hm_26), ((ho26 27 (by omega) (by omega)).trans hm_27), ((ho26 28 (by omega) (by omega)).trans hm_28), ((ho26 29 (by omega) (by omega)).trans hm_29), ((ho26 30 (by omega) (by omega)).trans hm_30), ((ho26 31 (by omega) (by omega)).trans hm_31), ((ho26 32 (by omega) (by omega)).trans hm_32), ((ho26 33 (by omega) (by omega)).trans hm_33), ((ho26 34 (by omega) (by omega)).trans hm_34), ((ho26 35 (by omega) (by omega)).trans hm_35), ((ho26 36 (by omega) (by omega)).trans hm_36), ((ho26 37 (by omega) (by omega)).trans hm_37), ((ho26 38 (by omega) (by omega)).trans hm_38), ((ho26 39 (by omega) (by omega)).trans hm_39), ((ho26 40 (by omega) (by omega)).trans hm_40), ((ho26 41 (by omega) (by omega)).trans hm_41), ((ho26 42 (by omega) (by omega)).trans hm_42), ((ho26 43 (by omega) (by omega)).trans hm_43), ((ho26 44 (by omega) (by omega)).trans hm_44), ((ho26 45 (by omega) (by omega)).trans hm_45), ((ho26 46 (by omega) (by omega)).trans hm_46), ((ho26 47 (by omega) (by omega)).trans hm_47), ((ho26 48 (by omega) (by omega)).trans hm_48), ((ho26 49 (by omega) (by omega)).trans hm_49), ((ho26 50 (by omega) (by omega)).trans hm_50), ((ho26 51 (by omega) (by omega)).trans hm_51)⟩ ) d0_1_328 wd14_63 ((ho26 24 (by omega) (by omega)).trans hm_24) (by omega) (show 24 < M26.1 by omega) rfl w1376 w1375 (Or.inl w1374) rfl rfl (Nat.le_of_ble_eq_true rfl) (by omega) (by omega) (by omega) ?_
    rintro v M27 rfl
    refine xj_icmp_eq (tgt := 451) d0_1_331 rfl (fun _ => ?_) (fun h => absurd rfl h)
    refine xj_iinc (v := 4) (L' := [(3, .int 4), (2, .ref 24), (1, .ref 16), (0, .ref 0)]) d0_1_451 rfl (by decide) (by decide) rfl ?_
    refine xj_goto (tgt := 18) d0_1_454 rfl ?_
    refine xj_iload_n (i := 3) d0_1_18 rfl rfl ?_
    refine xj_aload_n (i := 0) d0_1_19 rfl rfl ?_
    refine xj_slen hX d0_1_20 ?_
    refine xj_iconst (v := 4) d0_1_21 (by decide) ?_
    refine xj_isub (v := 0) d0_1_22 (by decide) ?_
    refine xj_icmp_gt (tgt := 457) d0_1_23 rfl (fun _ => ?_) (fun h => absurd (by decide) h)
    refine xj_iconst (v := 1) d0_1_457 (by decide) ?_
    exact xj_ret d0_1_458 (by omega) (by omega) rfl rfl
  · refine xj_tableIn (tgt := 336) d0_1_32 (by decide) (by decide) rfl rfl ?_
    refine xj_aload_n (i := 1) d0_1_336 rfl rfl ?_
    refine xj_callV (rest := []) (As := []) (b := 16) (px_shards hg hxn hZ hT (M := Mi) (by omega) ⟨((hoi 16 (by omega)).trans ((ho3 16 (by omega)).trans hf2_0)), ((hoi 17 (by omega)).trans ((ho3 17 (by omega)).trans hf2_1)), ((hoi 18 (by omega)).trans ((ho3 18 (by omega)).trans hf2_2)), ((hoi 19 (by omega)).trans ((ho3 19 (by omega)).trans hf2_3)), ((hoi 20 (by omega)).trans ((ho3 20 (by omega)).trans hf2_4)), ((hoi 21 (by omega)).trans ((ho3 21 (by omega)).trans hf2_5)), ((hoi 22 (by omega)).trans ((ho3 22 (by omega)).trans hf2_6)), ((hoi 23 (by omega)).trans ((ho3 23 (by omega)).trans hf2_7))⟩ ) d0_1_337 wd1_14 ((hoi 16 (by omega)).trans ((ho3 16 (by omega)).trans hf2_0)) (by omega) (show 16 < Mi.1 by omega) rfl w969 w968 (Or.inl w967) rfl rfl (Nat.le_of_ble_eq_true rfl) (by omega) (by omega) (by omega) ?_
    rintro v M28 ⟨rfl, hs28, ho28⟩
    refine xj_aload_n (i := 2) d0_1_340 rfl rfl ?_
    refine xj_callV (rest := [.int 0]) (As := []) (b := 24) (pm_shards hg hxn hZ hT (M := M28) rfl (by omega) ⟨f, g, hf, hgc, ((ho28 24 (by omega) (by omega)).trans hm_24), ((ho28 25 (by omega) (by omega)).trans hm_25), ((ho28 26 (by omega) (by omega)).trans hm_26), ((ho28 27 (by omega) (by omega)).trans hm_27), ((ho28 28 (by omega) (by omega)).trans hm_28), ((ho28 29 (by omega) (by omega)).trans hm_29), ((ho28 30 (by omega) (by omega)).trans hm_30), ((ho28 31 (by omega) (by omega)).trans hm_31), ((ho28 32 (by omega) (by omega)).trans hm_32), ((ho28 33 (by omega) (by omega)).trans hm_33), ((ho28 34 (by omega) (by omega)).trans hm_34), ((ho28 35 (by omega) (by omega)).trans hm_35), ((ho28 36 (by omega) (by omega)).trans hm_36), ((ho28 37 (by omega) (by omega)).trans hm_37), ((ho28 38 (by omega) (by omega)).trans hm_38), ((ho28 39 (by omega) (by omega)).trans hm_39), ((ho28 40 (by omega) (by omega)).trans hm_40), ((ho28 41 (by omega) (by omega)).trans hm_41), ((ho28 42 (by omega) (by omega)).trans hm_42), ((ho28 43 (by omega) (by omega)).trans hm_43), ((ho28 44 (by omega) (by omega)).trans hm_44), ((ho28 45 (by omega) (by omega)).trans hm_45), ((ho28 46 (by omega) (by omega)).trans hm_46), ((ho28 47 (by omega) (by omega)).trans hm_47), ((ho28 48 (by omega) (by omega)).trans hm_48), ((ho28 49 (by omega) (by omega)).trans hm_49), ((ho28 50 (by omega) (by omega)).trans hm_50), ((ho28 51 (by omega) (by omega)).trans hm_51)⟩ ) d0_1_341 wd14_11 ((ho28 24 (by omega) (by omega)).trans hm_24) (by omega) (show 24 < M28.1 by omega) rfl w1164 w1163 (Or.inl w1162) rfl rfl (Nat.le_of_ble_eq_true rfl) (by omega) (by omega) (by omega) ?_
    rintro v M29 rfl
    refine xj_icmp_eq (tgt := 451) d0_1_344 rfl (fun _ => ?_) (fun h => absurd rfl h)
    refine xj_iinc (v := 4) (L' := [(3, .int 4), (2, .ref 24), (1, .ref 16), (0, .ref 0)]) d0_1_451 rfl (by decide) (by decide) rfl ?_
    refine xj_goto (tgt := 18) d0_1_454 rfl ?_
    refine xj_iload_n (i := 3) d0_1_18 rfl rfl ?_
    refine xj_aload_n (i := 0) d0_1_19 rfl rfl ?_
    refine xj_slen hX d0_1_20 ?_
    refine xj_iconst (v := 4) d0_1_21 (by decide) ?_
    refine xj_isub (v := 0) d0_1_22 (by decide) ?_
    refine xj_icmp_gt (tgt := 457) d0_1_23 rfl (fun _ => ?_) (fun h => absurd (by decide) h)
    refine xj_iconst (v := 1) d0_1_457 (by decide) ?_
    exact xj_ret d0_1_458 (by omega) (by omega) rfl rfl
  · refine xj_tableIn (tgt := 349) d0_1_32 (by decide) (by decide) rfl rfl ?_
    refine xj_aload_n (i := 1) d0_1_349 rfl rfl ?_
    refine xj_aload_n (i := 0) d0_1_350 rfl rfl ?_
    refine xj_iload_n (i := 3) d0_1_351 rfl rfl ?_
    refine xj_iconst (v := 1) d0_1_352 (by decide) ?_
    refine xj_iadd (v := 1) d0_1_353 (by decide) ?_
    refine xj_sld (j := 1) hX d0_1_354 (vp_in_iff.mpr (by decide)) (by decide) ?_
    refine xj_aload_n (i := 0) d0_1_355 rfl rfl ?_
    refine xj_iload_n (i := 3) d0_1_356 rfl rfl ?_
    refine xj_iconst (v := 2) d0_1_357 (by decide) ?_
    refine xj_iadd (v := 2) d0_1_358 (by decide) ?_
    refine xj_sld (j := 2) hX d0_1_359 (vp_in_iff.mpr (by decide)) (by decide) ?_
    refine xj_callV (rest := []) (As := [.int (xs0 1), .int (xs0 2)]) (b := 16) (px_shard hg hxn hZ hT (M := Mi) (k := xs0 1) (w := xs0 2) (by omega) ⟨((hoi 16 (by omega)).trans ((ho3 16 (by omega)).trans hf2_0)), ((hoi 17 (by omega)).trans ((ho3 17 (by omega)).trans hf2_1)), ((hoi 18 (by omega)).trans ((ho3 18 (by omega)).trans hf2_2)), ((hoi 19 (by omega)).trans ((ho3 19 (by omega)).trans hf2_3)), ((hoi 20 (by omega)).trans ((ho3 20 (by omega)).trans hf2_4)), ((hoi 21 (by omega)).trans ((ho3 21 (by omega)).trans hf2_5)), ((hoi 22 (by omega)).trans ((ho3 22 (by omega)).trans hf2_6)), ((hoi 23 (by omega)).trans ((ho3 23 (by omega)).trans hf2_7))⟩ ) d0_1_360 wd1_15 ((hoi 16 (by omega)).trans ((ho3 16 (by omega)).trans hf2_0)) (by omega) (show 16 < Mi.1 by omega) rfl w973 w972 (Or.inl w971) rfl rfl (Nat.le_of_ble_eq_true rfl) (by omega) (by omega) (by omega) ?_
    rintro v M30 ⟨rfl, hs30, ho30⟩
    refine xj_aload_n (i := 2) d0_1_363 rfl rfl ?_
    refine xj_aload_n (i := 0) d0_1_364 rfl rfl ?_
    refine xj_iload_n (i := 3) d0_1_365 rfl rfl ?_
    refine xj_iconst (v := 1) d0_1_366 (by decide) ?_
    refine xj_iadd (v := 1) d0_1_367 (by decide) ?_
    refine xj_sld (j := 1) hX d0_1_368 (vp_in_iff.mpr (by decide)) (by decide) ?_
    refine xj_aload_n (i := 0) d0_1_369 rfl rfl ?_
    refine xj_iload_n (i := 3) d0_1_370 rfl rfl ?_
    refine xj_iconst (v := 2) d0_1_371 (by decide) ?_
    refine xj_iadd (v := 2) d0_1_372 (by decide) ?_
    refine xj_sld (j := 2) hX d0_1_373 (vp_in_iff.mpr (by decide)) (by decide) ?_
    refine xj_callV (rest := [.int (xZ ((xs0 1) = -1 ∧ ((xs0 2) = 0 ∨ (xs0 2) = 1 ∨ (xs0 2) = 2)))]) (As := [.int (xs0 1), .int (xs0 2)]) (b := 24) (pm_shard hg hxn hZ hT (M := M30) (k := xs0 1) (w := xs0 2) rfl (by omega) ⟨f, g, hf, hgc, ((ho30 24 (by omega) (by omega)).trans hm_24), ((ho30 25 (by omega) (by omega)).trans hm_25), ((ho30 26 (by omega) (by omega)).trans hm_26), ((ho30 27 (by omega) (by omega)).trans hm_27), ((ho30 28 (by omega) (by omega)).trans hm_28), ((ho30 29 (by omega) (by omega)).trans hm_29), ((ho30 30 (by omega) (by omega)).trans hm_30), ((ho30 31 (by omega) (by omega)).trans hm_31), ((ho30 32 (by omega) (by omega)).trans hm_32), ((ho30 33 (by omega) (by omega)).trans hm_33), ((ho30 34 (by omega) (by omega)).trans hm_34), ((ho30 35 (by omega) (by omega)).trans hm_35), ((ho30 36 (by omega) (by omega)).trans hm_36), ((ho30 37 (by omega) (by omega)).trans hm_37), ((ho30 38 (by omega) (by omega)).trans hm_38), ((ho30 39 (by omega) (by omega)).trans hm_39), ((ho30 40 (by omega) (by omega)).trans hm_40), ((ho30 41 (by omega) (by omega)).trans hm_41), ((ho30 42 (by omega) (by omega)).trans hm_42), ((ho30 43 (by omega) (by omega)).trans hm_43), ((ho30 44 (by omega) (by omega)).trans hm_44), ((ho30 45 (by omega) (by omega)).trans hm_45), ((ho30 46 (by omega) (by omega)).trans hm_46), ((ho30 47 (by omega) (by omega)).trans hm_47), ((ho30 48 (by omega) (by omega)).trans hm_48), ((ho30 49 (by omega) (by omega)).trans hm_49), ((ho30 50 (by omega) (by omega)).trans hm_50), ((ho30 51 (by omega) (by omega)).trans hm_51)⟩ ) d0_1_374 wd14_12 ((ho30 24 (by omega) (by omega)).trans hm_24) (by omega) (show 24 < M30.1 by omega) rfl w1168 w1167 (Or.inl w1166) rfl rfl (Nat.le_of_ble_eq_true rfl) (by omega) (by omega) (by omega) ?_
    rintro v M31 rfl
    refine xj_icmp_eq (tgt := 451) d0_1_377 rfl (fun _ => ?_) (fun h => absurd rfl h)
    refine xj_iinc (v := 4) (L' := [(3, .int 4), (2, .ref 24), (1, .ref 16), (0, .ref 0)]) d0_1_451 rfl (by decide) (by decide) rfl ?_
    refine xj_goto (tgt := 18) d0_1_454 rfl ?_
    refine xj_iload_n (i := 3) d0_1_18 rfl rfl ?_
    refine xj_aload_n (i := 0) d0_1_19 rfl rfl ?_
    refine xj_slen hX d0_1_20 ?_
    refine xj_iconst (v := 4) d0_1_21 (by decide) ?_
    refine xj_isub (v := 0) d0_1_22 (by decide) ?_
    refine xj_icmp_gt (tgt := 457) d0_1_23 rfl (fun _ => ?_) (fun h => absurd (by decide) h)
    refine xj_iconst (v := 1) d0_1_457 (by decide) ?_
    exact xj_ret d0_1_458 (by omega) (by omega) rfl rfl
  · refine xj_tableIn (tgt := 382) d0_1_32 (by decide) (by decide) rfl rfl ?_
    refine xj_aload_n (i := 1) d0_1_382 rfl rfl ?_
    refine xj_aload_n (i := 0) d0_1_383 rfl rfl ?_
    refine xj_iload_n (i := 3) d0_1_384 rfl rfl ?_
    refine xj_iconst (v := 1) d0_1_385 (by decide) ?_
    refine xj_iadd (v := 1) d0_1_386 (by decide) ?_
    refine xj_sld (j := 1) hX d0_1_387 (vp_in_iff.mpr (by decide)) (by decide) ?_
    refine xj_aload_n (i := 0) d0_1_388 rfl rfl ?_
    refine xj_iload_n (i := 3) d0_1_389 rfl rfl ?_
    refine xj_iconst (v := 2) d0_1_390 (by decide) ?_
    refine xj_iadd (v := 2) d0_1_391 (by decide) ?_
    refine xj_sld (j := 2) hX d0_1_392 (vp_in_iff.mpr (by decide)) (by decide) ?_
    refine xj_aload_n (i := 0) d0_1_393 rfl rfl ?_
    refine xj_iload_n (i := 3) d0_1_394 rfl rfl ?_
    refine xj_iconst (v := 3) d0_1_395 (by decide) ?_
    refine xj_iadd (v := 3) d0_1_396 (by decide) ?_
    refine xj_sld (j := 3) hX d0_1_397 (vp_in_iff.mpr (by decide)) (by decide) ?_
    refine xj_callV (rest := []) (As := [.int (xs0 1), .int (xs0 2), .int (xs0 3)]) (b := 16) (px_postings hg hxn hZ hT (M := Mi) (u := xs0 1) (v1 := xs0 2) (w := xs0 3) (by omega) ⟨((hoi 16 (by omega)).trans ((ho3 16 (by omega)).trans hf2_0)), ((hoi 17 (by omega)).trans ((ho3 17 (by omega)).trans hf2_1)), ((hoi 18 (by omega)).trans ((ho3 18 (by omega)).trans hf2_2)), ((hoi 19 (by omega)).trans ((ho3 19 (by omega)).trans hf2_3)), ((hoi 20 (by omega)).trans ((ho3 20 (by omega)).trans hf2_4)), ((hoi 21 (by omega)).trans ((ho3 21 (by omega)).trans hf2_5)), ((hoi 22 (by omega)).trans ((ho3 22 (by omega)).trans hf2_6)), ((hoi 23 (by omega)).trans ((ho3 23 (by omega)).trans hf2_7))⟩ ) d0_1_398 wd1_16 ((hoi 16 (by omega)).trans ((ho3 16 (by omega)).trans hf2_0)) (by omega) (show 16 < Mi.1 by omega) rfl w981 w980 (Or.inl w979) rfl rfl (Nat.le_of_ble_eq_true rfl) (by omega) (by omega) (by omega) ?_
    rintro v M32 ⟨rfl, hs32, ho32⟩
    refine xj_aload_n (i := 2) d0_1_401 rfl rfl ?_
    refine xj_aload_n (i := 0) d0_1_402 rfl rfl ?_
    refine xj_iload_n (i := 3) d0_1_403 rfl rfl ?_
    refine xj_iconst (v := 1) d0_1_404 (by decide) ?_
    refine xj_iadd (v := 1) d0_1_405 (by decide) ?_
    refine xj_sld (j := 1) hX d0_1_406 (vp_in_iff.mpr (by decide)) (by decide) ?_
    refine xj_aload_n (i := 0) d0_1_407 rfl rfl ?_
    refine xj_iload_n (i := 3) d0_1_408 rfl rfl ?_
    refine xj_iconst (v := 2) d0_1_409 (by decide) ?_
    refine xj_iadd (v := 2) d0_1_410 (by decide) ?_
    refine xj_sld (j := 2) hX d0_1_411 (vp_in_iff.mpr (by decide)) (by decide) ?_
    refine xj_aload_n (i := 0) d0_1_412 rfl rfl ?_
    refine xj_iload_n (i := 3) d0_1_413 rfl rfl ?_
    refine xj_iconst (v := 3) d0_1_414 (by decide) ?_
    refine xj_iadd (v := 3) d0_1_415 (by decide) ?_
    refine xj_sld (j := 3) hX d0_1_416 (vp_in_iff.mpr (by decide)) (by decide) ?_
    refine xj_callV (rest := [.int 0]) (As := [.int (xs0 1), .int (xs0 2), .int (xs0 3)]) (b := 24) (pm_postings hg hxn hZ hT (M := M32) (u := xs0 1) (v1 := xs0 2) (w := xs0 3) rfl (by omega) ⟨f, g, hf, hgc, ((ho32 24 (by omega) (by omega)).trans hm_24), ((ho32 25 (by omega) (by omega)).trans hm_25), ((ho32 26 (by omega) (by omega)).trans hm_26), ((ho32 27 (by omega) (by omega)).trans hm_27), ((ho32 28 (by omega) (by omega)).trans hm_28), ((ho32 29 (by omega) (by omega)).trans hm_29), ((ho32 30 (by omega) (by omega)).trans hm_30), ((ho32 31 (by omega) (by omega)).trans hm_31), ((ho32 32 (by omega) (by omega)).trans hm_32), ((ho32 33 (by omega) (by omega)).trans hm_33), ((ho32 34 (by omega) (by omega)).trans hm_34), ((ho32 35 (by omega) (by omega)).trans hm_35), ((ho32 36 (by omega) (by omega)).trans hm_36), ((ho32 37 (by omega) (by omega)).trans hm_37), ((ho32 38 (by omega) (by omega)).trans hm_38), ((ho32 39 (by omega) (by omega)).trans hm_39), ((ho32 40 (by omega) (by omega)).trans hm_40), ((ho32 41 (by omega) (by omega)).trans hm_41), ((ho32 42 (by omega) (by omega)).trans hm_42), ((ho32 43 (by omega) (by omega)).trans hm_43), ((ho32 44 (by omega) (by omega)).trans hm_44), ((ho32 45 (by omega) (by omega)).trans hm_45), ((ho32 46 (by omega) (by omega)).trans hm_46), ((ho32 47 (by omega) (by omega)).trans hm_47), ((ho32 48 (by omega) (by omega)).trans hm_48), ((ho32 49 (by omega) (by omega)).trans hm_49), ((ho32 50 (by omega) (by omega)).trans hm_50), ((ho32 51 (by omega) (by omega)).trans hm_51)⟩ ) d0_1_417 wd14_16 ((ho32 24 (by omega) (by omega)).trans hm_24) (by omega) (show 24 < M32.1 by omega) rfl w1184 w1183 (Or.inl w1182) rfl rfl (Nat.le_of_ble_eq_true rfl) (by omega) (by omega) (by omega) ?_
    rintro v M33 rfl
    refine xj_icmp_eq (tgt := 451) d0_1_420 rfl (fun _ => ?_) (fun h => absurd rfl h)
    refine xj_iinc (v := 4) (L' := [(3, .int 4), (2, .ref 24), (1, .ref 16), (0, .ref 0)]) d0_1_451 rfl (by decide) (by decide) rfl ?_
    refine xj_goto (tgt := 18) d0_1_454 rfl ?_
    refine xj_iload_n (i := 3) d0_1_18 rfl rfl ?_
    refine xj_aload_n (i := 0) d0_1_19 rfl rfl ?_
    refine xj_slen hX d0_1_20 ?_
    refine xj_iconst (v := 4) d0_1_21 (by decide) ?_
    refine xj_isub (v := 0) d0_1_22 (by decide) ?_
    refine xj_icmp_gt (tgt := 457) d0_1_23 rfl (fun _ => ?_) (fun h => absurd (by decide) h)
    refine xj_iconst (v := 1) d0_1_457 (by decide) ?_
    exact xj_ret d0_1_458 (by omega) (by omega) rfl rfl
  · refine xj_tableIn (tgt := 425) d0_1_32 (by decide) (by decide) rfl rfl ?_
    refine xj_aload_n (i := 1) d0_1_425 rfl rfl ?_
    refine xj_callV (rest := []) (As := []) (b := 16) (px_compact hg hxn hZ hT (M := Mi) (by omega) ⟨((hoi 16 (by omega)).trans ((ho3 16 (by omega)).trans hf2_0)), ((hoi 17 (by omega)).trans ((ho3 17 (by omega)).trans hf2_1)), ((hoi 18 (by omega)).trans ((ho3 18 (by omega)).trans hf2_2)), ((hoi 19 (by omega)).trans ((ho3 19 (by omega)).trans hf2_3)), ((hoi 20 (by omega)).trans ((ho3 20 (by omega)).trans hf2_4)), ((hoi 21 (by omega)).trans ((ho3 21 (by omega)).trans hf2_5)), ((hoi 22 (by omega)).trans ((ho3 22 (by omega)).trans hf2_6)), ((hoi 23 (by omega)).trans ((ho3 23 (by omega)).trans hf2_7))⟩ ) d0_1_426 wd1_17 ((hoi 16 (by omega)).trans ((ho3 16 (by omega)).trans hf2_0)) (by omega) (show 16 < Mi.1 by omega) rfl w990 w989 (Or.inl w988) rfl rfl (Nat.le_of_ble_eq_true rfl) (by omega) (by omega) (by omega) ?_
    rintro v M34 ⟨rfl, hs34, ho34⟩
    refine xj_aload_n (i := 2) d0_1_429 rfl rfl ?_
    refine xj_callV (rest := [.int 0]) (As := []) (b := 24) (pm_compact hg hxn hZ hT (M := M34) rfl (by omega) ⟨f, g, hf, hgc, ((ho34 24 (by omega) (by omega)).trans hm_24), ((ho34 25 (by omega) (by omega)).trans hm_25), ((ho34 26 (by omega) (by omega)).trans hm_26), ((ho34 27 (by omega) (by omega)).trans hm_27), ((ho34 28 (by omega) (by omega)).trans hm_28), ((ho34 29 (by omega) (by omega)).trans hm_29), ((ho34 30 (by omega) (by omega)).trans hm_30), ((ho34 31 (by omega) (by omega)).trans hm_31), ((ho34 32 (by omega) (by omega)).trans hm_32), ((ho34 33 (by omega) (by omega)).trans hm_33), ((ho34 34 (by omega) (by omega)).trans hm_34), ((ho34 35 (by omega) (by omega)).trans hm_35), ((ho34 36 (by omega) (by omega)).trans hm_36), ((ho34 37 (by omega) (by omega)).trans hm_37), ((ho34 38 (by omega) (by omega)).trans hm_38), ((ho34 39 (by omega) (by omega)).trans hm_39), ((ho34 40 (by omega) (by omega)).trans hm_40), ((ho34 41 (by omega) (by omega)).trans hm_41), ((ho34 42 (by omega) (by omega)).trans hm_42), ((ho34 43 (by omega) (by omega)).trans hm_43), ((ho34 44 (by omega) (by omega)).trans hm_44), ((ho34 45 (by omega) (by omega)).trans hm_45), ((ho34 46 (by omega) (by omega)).trans hm_46), ((ho34 47 (by omega) (by omega)).trans hm_47), ((ho34 48 (by omega) (by omega)).trans hm_48), ((ho34 49 (by omega) (by omega)).trans hm_49), ((ho34 50 (by omega) (by omega)).trans hm_50), ((ho34 51 (by omega) (by omega)).trans hm_51)⟩ ) d0_1_430 wd14_13 ((ho34 24 (by omega) (by omega)).trans hm_24) (by omega) (show 24 < M34.1 by omega) rfl w1176 w1175 (Or.inl w1174) rfl rfl (Nat.le_of_ble_eq_true rfl) (by omega) (by omega) (by omega) ?_
    rintro v M35 rfl
    refine xj_icmp_eq (tgt := 451) d0_1_433 rfl (fun _ => ?_) (fun h => absurd rfl h)
    refine xj_iinc (v := 4) (L' := [(3, .int 4), (2, .ref 24), (1, .ref 16), (0, .ref 0)]) d0_1_451 rfl (by decide) (by decide) rfl ?_
    refine xj_goto (tgt := 18) d0_1_454 rfl ?_
    refine xj_iload_n (i := 3) d0_1_18 rfl rfl ?_
    refine xj_aload_n (i := 0) d0_1_19 rfl rfl ?_
    refine xj_slen hX d0_1_20 ?_
    refine xj_iconst (v := 4) d0_1_21 (by decide) ?_
    refine xj_isub (v := 0) d0_1_22 (by decide) ?_
    refine xj_icmp_gt (tgt := 457) d0_1_23 rfl (fun _ => ?_) (fun h => absurd (by decide) h)
    refine xj_iconst (v := 1) d0_1_457 (by decide) ?_
    exact xj_ret d0_1_458 (by omega) (by omega) rfl rfl
  · refine xj_tableIn (tgt := 438) d0_1_32 (by decide) (by decide) rfl rfl ?_
    refine xj_aload_n (i := 1) d0_1_438 rfl rfl ?_
    refine xj_callV (rest := []) (As := []) (b := 16) (px_left hg hxn hZ hT (M := Mi) (by omega) ⟨((hoi 16 (by omega)).trans ((ho3 16 (by omega)).trans hf2_0)), ((hoi 17 (by omega)).trans ((ho3 17 (by omega)).trans hf2_1)), ((hoi 18 (by omega)).trans ((ho3 18 (by omega)).trans hf2_2)), ((hoi 19 (by omega)).trans ((ho3 19 (by omega)).trans hf2_3)), ((hoi 20 (by omega)).trans ((ho3 20 (by omega)).trans hf2_4)), ((hoi 21 (by omega)).trans ((ho3 21 (by omega)).trans hf2_5)), ((hoi 22 (by omega)).trans ((ho3 22 (by omega)).trans hf2_6)), ((hoi 23 (by omega)).trans ((ho3 23 (by omega)).trans hf2_7))⟩ ) d0_1_439 wd1_18 ((hoi 16 (by omega)).trans ((ho3 16 (by omega)).trans hf2_0)) (by omega) (show 16 < Mi.1 by omega) rfl w994 w993 (Or.inl w992) rfl rfl (Nat.le_of_ble_eq_true rfl) (by omega) (by omega) (by omega) ?_
    rintro v M36 ⟨rfl, hs36, ho36⟩
    refine xj_aload_n (i := 2) d0_1_442 rfl rfl ?_
    refine xj_callV (rest := [.int 0]) (As := []) (b := 24) (pm_left hg hxn hZ hT (M := M36) rfl (by omega) ⟨f, g, hf, hgc, ((ho36 24 (by omega) (by omega)).trans hm_24), ((ho36 25 (by omega) (by omega)).trans hm_25), ((ho36 26 (by omega) (by omega)).trans hm_26), ((ho36 27 (by omega) (by omega)).trans hm_27), ((ho36 28 (by omega) (by omega)).trans hm_28), ((ho36 29 (by omega) (by omega)).trans hm_29), ((ho36 30 (by omega) (by omega)).trans hm_30), ((ho36 31 (by omega) (by omega)).trans hm_31), ((ho36 32 (by omega) (by omega)).trans hm_32), ((ho36 33 (by omega) (by omega)).trans hm_33), ((ho36 34 (by omega) (by omega)).trans hm_34), ((ho36 35 (by omega) (by omega)).trans hm_35), ((ho36 36 (by omega) (by omega)).trans hm_36), ((ho36 37 (by omega) (by omega)).trans hm_37), ((ho36 38 (by omega) (by omega)).trans hm_38), ((ho36 39 (by omega) (by omega)).trans hm_39), ((ho36 40 (by omega) (by omega)).trans hm_40), ((ho36 41 (by omega) (by omega)).trans hm_41), ((ho36 42 (by omega) (by omega)).trans hm_42), ((ho36 43 (by omega) (by omega)).trans hm_43), ((ho36 44 (by omega) (by omega)).trans hm_44), ((ho36 45 (by omega) (by omega)).trans hm_45), ((ho36 46 (by omega) (by omega)).trans hm_46), ((ho36 47 (by omega) (by omega)).trans hm_47), ((ho36 48 (by omega) (by omega)).trans hm_48), ((ho36 49 (by omega) (by omega)).trans hm_49), ((ho36 50 (by omega) (by omega)).trans hm_50), ((ho36 51 (by omega) (by omega)).trans hm_51)⟩ ) d0_1_443 wd14_14 ((ho36 24 (by omega) (by omega)).trans hm_24) (by omega) (show 24 < M36.1 by omega) rfl w1180 w1179 (Or.inl w1178) rfl rfl (Nat.le_of_ble_eq_true rfl) (by omega) (by omega) (by omega) ?_
    rintro v M37 rfl
    refine xj_icmp_eq (tgt := 451) d0_1_446 rfl (fun _ => ?_) (fun h => absurd rfl h)
    refine xj_iinc (v := 4) (L' := [(3, .int 4), (2, .ref 24), (1, .ref 16), (0, .ref 0)]) d0_1_451 rfl (by decide) (by decide) rfl ?_
    refine xj_goto (tgt := 18) d0_1_454 rfl ?_
    refine xj_iload_n (i := 3) d0_1_18 rfl rfl ?_
    refine xj_aload_n (i := 0) d0_1_19 rfl rfl ?_
    refine xj_slen hX d0_1_20 ?_
    refine xj_iconst (v := 4) d0_1_21 (by decide) ?_
    refine xj_isub (v := 0) d0_1_22 (by decide) ?_
    refine xj_icmp_gt (tgt := 457) d0_1_23 rfl (fun _ => ?_) (fun h => absurd (by decide) h)
    refine xj_iconst (v := 1) d0_1_457 (by decide) ?_
    exact xj_ret d0_1_458 (by omega) (by omega) rfl rfl
  · refine xj_tableOut (tgt := 451) d0_1_32 hsw rfl ?_
    refine xj_iinc (v := 4) (L' := [(3, .int 4), (2, .ref 24), (1, .ref 16), (0, .ref 0)]) d0_1_451 rfl (by decide) (by decide) rfl ?_
    refine xj_goto (tgt := 18) d0_1_454 rfl ?_
    refine xj_iload_n (i := 3) d0_1_18 rfl rfl ?_
    refine xj_aload_n (i := 0) d0_1_19 rfl rfl ?_
    refine xj_slen hX d0_1_20 ?_
    refine xj_iconst (v := 4) d0_1_21 (by decide) ?_
    refine xj_isub (v := 0) d0_1_22 (by decide) ?_
    refine xj_icmp_gt (tgt := 457) d0_1_23 rfl (fun _ => ?_) (fun h => absurd (by decide) h)
    refine xj_iconst (v := 1) d0_1_457 (by decide) ?_
    exact xj_ret d0_1_458 (by omega) (by omega) rfl rfl
set_option maxRecDepth 20000 in
set_option maxHeartbeats 16000000 in
theorem p1_lawB {G : xG} (hg : xGood G) (hxn : xn = 16) (hZ : va_Z "java/util/ArrayList" "DEFAULTCAPACITY_EMPTY_ELEMENTDATA" "[Ljava/lang/Object;" (.ref (xa G 1)) (fun q => (xs G).heap.size ≤ q) (xs G) (xs G).heap) (hT : va_T (.object "java/lang/Object") (xa G 1) 0 (fun _ => .null) (fun q => (xs G).heap.size ≤ q) (xs G) (xs G).heap) {xs0 : Nat → Int32} {L0 : Nat} (hL0 : L0 < 4) (hX : va_X (xa G 0) L0 xs0 (xs G) (xs G).heap) {M : xM} (hn : M.1 = 16) : XJ G Y0_1 12 600000 7302250 0 0 0 [(0, .ref 0)] [] M (fun v M' => v = some (.int 1)) := by
  refine xj_new (na := 16) d0_1_0 n0_7 (show M.1 = 16 by omega) (by omega) (by omega) ?_
  refine xj_abs_push (show M.1 = 16 by omega) (fun M1 hs1 ha1 ho1 => ?_)
  refine xj_dup d0_1_3 rfl ?_
  refine xj_callI (rest := [.ref 16]) (As := []) (b := 16) (cTL hg hZ hT (M := M1) (n := 17) (a := 16) (show M1.1 = 17 by omega) (by omega) (by omega) (by omega) ha1) d0_1_4 wd1_1 rfl w32 (Or.inl w31) rfl rfl (Nat.le_of_ble_eq_true rfl) (by omega) (by omega) (by omega) ?_
  rintro v M2 ⟨rfl, hs2, ho2, hf2_0, hf2_1, hf2_2, hf2_3, hf2_4, hf2_5, hf2_6, hf2_7⟩
  replace hs2 : M2.1 = 24 := hs2
  replace hf2_0 : M2.2 16 = (.inr (0, [.ref 17, .int 0, .ref 18, .int 0, .null, .ref 19, .int 0, .ref 20, .ref 22, .int 0, .ref 23, .int 0, .int 0])) := hf2_0
  replace hf2_1 : M2.2 17 = (.inl (1, 40, .inl (fun _ => 0))) := hf2_1
  replace hf2_2 : M2.2 18 = (.inl (1, 24, .inl (fun _ => 0))) := hf2_2
  replace hf2_3 : M2.2 19 = (.inl (5, 10, .inr (.inr (.inr (.inr (fun _ => none)))))) := hf2_3
  replace hf2_4 : M2.2 20 = (.inr (1, [.int 0, .ref 21])) := hf2_4
  replace hf2_5 : M2.2 21 = (.inr (2, [.ref 1, .int 0, .int 0])) := hf2_5
  replace hf2_6 : M2.2 22 = (.inr (2, [.ref 1, .int 0, .int 0])) := hf2_6
  replace hf2_7 : M2.2 23 = (.inl (0, 410, .inl (fun _ => 0))) := hf2_7
  refine xj_astore_n (i := 1) (L' := [(1, .ref 16), (0, .ref 0)]) d0_1_7 rfl (by decide) rfl ?_
  refine xj_new (na := 24) d0_1_8 n0_10 (show M2.1 = 24 by omega) (by omega) (by omega) ?_
  refine xj_abs_push (show M2.1 = 24 by omega) (fun M3 hs3 ha3 ho3 => ?_)
  refine xj_dup d0_1_11 rfl ?_
  refine xj_callI (rest := [.ref 24]) (As := []) (b := 24) (pm_init hg hxn (M := M3) (by omega) ha3) d0_1_12 wd14_1 rfl w999 (Or.inl w998) rfl rfl (Nat.le_of_ble_eq_true rfl) (by omega) (by omega) (by omega) ?_
  rintro v Mi ⟨rfl, hsi, hoi, f, g, hf, hgc, hm_24, hm_25, hm_26, hm_27, hm_28, hm_29, hm_30, hm_31, hm_32, hm_33, hm_34, hm_35, hm_36, hm_37, hm_38, hm_39, hm_40, hm_41, hm_42, hm_43, hm_44, hm_45, hm_46, hm_47, hm_48, hm_49, hm_50, hm_51⟩
  refine xj_astore_n (i := 2) (L' := [(2, .ref 24), (1, .ref 16), (0, .ref 0)]) d0_1_15 rfl (by decide) rfl ?_
  refine xj_iconst (v := 0) d0_1_16 (by decide) ?_
  refine xj_istore_n (i := 3) (L' := [(3, .int 0), (2, .ref 24), (1, .ref 16), (0, .ref 0)]) d0_1_17 rfl (by decide) rfl ?_
  refine xj_iload_n (i := 3) d0_1_18 rfl rfl ?_
  refine xj_aload_n (i := 0) d0_1_19 rfl rfl ?_
  refine xj_slen hX d0_1_20 ?_
  refine xj_iconst (v := 4) d0_1_21 (by decide) ?_
  refine xj_isub (v := (nI L0) - 4) d0_1_22 rfl ?_
  refine xj_icmp_gt (tgt := 457) d0_1_23 rfl (fun _ => ?_) (fun h => absurd (pk_sneg (b := 4) (by decide) (by omega)) h)
  refine xj_iconst (v := 1) d0_1_457 (by decide) ?_
  exact xj_ret d0_1_458 (by omega) (by omega) rfl rfl

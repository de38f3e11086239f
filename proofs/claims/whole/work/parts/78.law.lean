theorem xinc4 (k : Nat) : nI k + Int32.ofInt 4 = nI (k + 4) := by
  rw [show Int32.ofInt 4 = nI 4 from by decide]
  exact nI_add k 4
theorem xInv_s {RD : xM → Nat → Nat → Nat → (Nat → Int32) → Nat → Prop} {c : Nat} {M : xM} (hI : xInv RD c M) : xInv RD (c + 1) M := by
  obtain ⟨f, li, tx, te, cu, le, fd, fp, fh, fx, px, hx, sn, vc, tk, dl, pl, hc, sr, pn, lr, va, S, T, ov, es, op, ol, oe, r0, r1, hM, hC, hG, hR⟩ := hI
  exact ⟨f, li, tx, te, cu, le, fd, fp, fh, fx, px, hx, sn, vc, tk, dl, pl, hc, sr, pn, lr, va, S, T, ov, es, op, ol, oe, r0, r1, hM, hC, xIg_c hG, hR⟩
theorem xInv_16 {RD : xM → Nat → Nat → Nat → (Nat → Int32) → Nat → Prop} {c : Nat} {M : xM} (hI : xInv RD c M) : 52 ≤ M.1 ∧ ∃ fs, M.2 16 = .inr (0, fs) := by
  obtain ⟨f, li, tx, te, cu, le, fd, fp, fh, fx, px, hx, sn, vc, tk, dl, pl, hc, sr, pn, lr, va, S, T, ov, es, op, ol, oe, r0, r1, hM, hC, hG, hR⟩ := hI
  exact ⟨hC.2.2.2.2.1.1, _, hC.1⟩
theorem xsub4 {a : Nat} (h : 4 ≤ a) : nI a - 4 = nI (a - 4) := by
  rw [show (4 : Int32) = nI 4 from by decide]
  exact pk_sub h
theorem xgt4 {L0 e : Nat} (h : L0 < e + 4) (hL : L0 ≤ 2048) (he : e ≤ 2048) : nI L0 - 4 < nI e := by
  by_cases h4 : 4 ≤ L0
  · rw [xsub4 h4]
    exact nI_lt (by omega) (by omega)
  · exact Int32.lt_of_lt_of_le (pk_sneg (b := 4) (by decide) (by omega)) (nI_pos' (by omega))
set_option maxRecDepth 20000 in
set_option maxHeartbeats 16000000 in
theorem xLawL {G : xG} (hg : xGood G) (hxn : xn = 16) (hZ : va_Z "java/util/ArrayList" "DEFAULTCAPACITY_EMPTY_ELEMENTDATA" "[Ljava/lang/Object;" (.ref (xa G 1)) (fun q => (xs G).heap.size ≤ q) (xs G) (xs G).heap) (hT : va_T (.object "java/lang/Object") (xa G 1) 0 (fun _ => .null) (fun q => (xs G).heap.size ≤ q) (xs G) (xs G).heap) {RD : xM → Nat → Nat → Nat → (Nat → Int32) → Nat → Prop} (hRD : xRs RD) (hFau : ∀ (c : Nat) (M : xM), c < 512 → xInv RD c M → xOp G RD c M Y1_8 Y14_41 (some .int) []) (hSiz : ∀ (c : Nat) (M : xM), c < 512 → xInv RD c M → xOp G RD c M Y1_9 Y14_42 (some .int) []) (hStr : ∀ (c : Nat) (M : xM), c < 512 → xInv RD c M → xOp G RD c M Y1_10 Y14_55 (some .int) []) (hSea : ∀ (c : Nat) (M : xM), c < 512 → xInv RD c M → xOp G RD c M Y1_11 Y14_61 (some .int) []) {PC PS : Nat → Nat} (hPC : ∀ r, PC (r + 1) = PC r + 1170) (hPS : ∀ r, PS (r + 1) = PS r + 14200) {ce se : Nat} {xs0 : Nat → Int32} {L0 : Nat} (hL0 : L0 ≤ 2048) (hX : va_X (xa G 0) L0 xs0 (xs G) (xs G).heap) : ∀ (r i : Nat) (M : xM) (cells slots : Nat), 4 * (i + r) ≤ L0 → L0 < 4 * (i + r) + 4 → xInv RD i M → cells + PC r ≤ ce → slots + PS r ≤ se → XJ G Y0_1 1001 ce se cells slots 18 [(3, .int (nI (4 * i))), (2, .ref 24), (1, .ref 16), (0, .ref 0)] [] M (fun v M' => v = some (.int 1)) := by
  intro r
  induction r with
  | zero =>
    intro i M cells slots h1 h2 hI hcc hss
    have hgt : nI L0 - 4 < nI (4 * i) := xgt4 (by omega) hL0 (by omega)
    refine xj_iload_n (i := 3) d0_1_18 rfl rfl ?_
    refine xj_aload_n (i := 0) d0_1_19 rfl rfl ?_
    refine xj_slen hX d0_1_20 ?_
    refine xj_iconst (v := 4) d0_1_21 (by decide) ?_
    refine xj_isub (v := nI L0 - 4) d0_1_22 rfl ?_
    refine xj_icmp_gt (tgt := 457) d0_1_23 rfl (fun _ => ?_) (fun h => absurd hgt h)
    refine xj_iconst (v := 1) d0_1_457 (by decide) ?_
    exact xj_ret d0_1_458 (by omega) (by omega) rfl rfl
  | succ r ih =>
    intro i M cells slots h1 h2 hI hcc hss
    obtain ⟨h52, f16, h16⟩ := xInv_16 hI
    rw [hPC] at hcc
    rw [hPS] at hss
    have hi5 : i < 512 := by omega
    refine xj_iload_n (i := 3) d0_1_18 rfl rfl ?_
    refine xj_aload_n (i := 0) d0_1_19 rfl rfl ?_
    refine xj_slen hX d0_1_20 ?_
    refine xj_iconst (v := 4) d0_1_21 (by decide) ?_
    refine xj_isub (v := nI (L0 - 4)) d0_1_22 (xsub4 (by omega)) ?_
    refine xj_icmp_gt (tgt := 457) d0_1_23 rfl (fun h => absurd h (nI_nlt (a := L0 - 4) (b := 4 * i) (by omega) (by omega))) (fun _ => ?_)
    refine xj_aload_n (i := 0) d0_1_26 rfl rfl ?_
    refine xj_iload_n (i := 3) d0_1_27 rfl rfl ?_
    refine xj_sld (j := 4 * i) hX d0_1_28 (vp_in_nI (by omega) (by omega)) (nI_clamp (by omega)) ?_
    refine xj_bipush (v := 31) d0_1_29 (by decide) ?_
    refine xj_iand (v := (xs0 (4 * i)) &&& 31) d0_1_31 rfl ?_
    generalize xs0 (4 * i) &&& 31 = y
    rcases xsw17 y with rfl | rfl | rfl | rfl | rfl | rfl | rfl | rfl | rfl | rfl | rfl | rfl | rfl | rfl | rfl | rfl | rfl | hsw
    · refine xj_tableIn (tgt := 116) d0_1_32 (by decide) (by decide) rfl rfl ?_
      refine xj_aload_n (i := 1) d0_1_116 rfl rfl ?_
      refine xj_aload_n (i := 0) d0_1_117 rfl rfl ?_
      refine xj_iload_n (i := 3) d0_1_118 rfl rfl ?_
      refine xj_iconst (v := 1) d0_1_119 (by decide) ?_
      refine xj_iadd (v := nI (4 * i + 1)) d0_1_120 (nI_1 _) ?_
      refine xj_sld (j := 4 * i + 1) hX d0_1_121 (vp_in_nI (by omega) (by omega)) (nI_clamp (by omega)) ?_
      refine xj_i2c (v := ((xs0 (4 * i + 1)).toUInt32 % 65536).toInt32) d0_1_122 rfl ?_
      obtain ⟨r1, Q1, hx1, hm1⟩ := oWrite (x := ((xs0 (4 * i + 1)).toUInt32 % 65536).toInt32) hg hxn hRD hI (pk_vc _)
      refine xj_callV (rest := []) (As := [.int (((xs0 (4 * i + 1)).toUInt32 % 65536).toInt32)]) (b := 16) hx1 d0_1_123 wd1_2 h16 (by omega) (show 16 < M.1 by omega) rfl w125 w124 (Or.inl w123) rfl rfl (Nat.le_of_ble_eq_true rfl) (by omega) (by omega) (Nat.le_trans (Nat.add_le_add_left (Nat.le_add_left _ _) _) hss) ?_
      rintro v M1 ⟨rfl, hq1⟩
      obtain ⟨⟨g52, fs1, g24⟩, hm2⟩ := hm1 _ hq1
      refine xj_aload_n (i := 2) d0_1_126 rfl rfl ?_
      refine xj_aload_n (i := 0) d0_1_127 rfl rfl ?_
      refine xj_iload_n (i := 3) d0_1_128 rfl rfl ?_
      refine xj_iconst (v := 1) d0_1_129 (by decide) ?_
      refine xj_iadd (v := nI (4 * i + 1)) d0_1_130 (nI_1 _) ?_
      refine xj_sld (j := 4 * i + 1) hX d0_1_131 (vp_in_nI (by omega) (by omega)) (nI_clamp (by omega)) ?_
      refine xj_i2c (v := ((xs0 (4 * i + 1)).toUInt32 % 65536).toInt32) d0_1_132 rfl ?_
      refine xj_callV (rest := [.int r1]) (As := [.int (((xs0 (4 * i + 1)).toUInt32 % 65536).toInt32)]) (b := 24) hm2 d0_1_133 wd14_3 g24 (by omega) (show 24 < M1.1 by omega) rfl w1132 w1131 (Or.inl w1130) rfl rfl (Nat.le_of_ble_eq_true rfl) (by omega) (by omega) (Nat.le_trans (Nat.le_of_eq (Nat.add_zero _)) (Nat.le_trans (Nat.add_le_add_left (Nat.le_add_left _ _) _) hss)) ?_
      rintro v M2 ⟨rfl, hI2⟩
      refine xj_icmp_eq (tgt := 451) d0_1_136 rfl (fun _ => ?_) (fun h => absurd rfl h)
      refine xj_iinc (v := nI (4 * i + 4)) (L' := [(3, .int (nI (4 * i + 4))), (2, .ref 24), (1, .ref 16), (0, .ref 0)]) d0_1_451 rfl (xinc4 _) (by decide) rfl ?_
      refine xj_goto (tgt := 18) d0_1_454 rfl ?_
      exact ih (i + 1) M2 _ _ (by omega) (by omega) hI2 (by omega) (by rw [Nat.add_zero, Nat.add_assoc, Nat.add_comm 14200 (PS r)]; exact hss)
    · refine xj_tableIn (tgt := 141) d0_1_32 (by decide) (by decide) rfl rfl ?_
      refine xj_aload_n (i := 1) d0_1_141 rfl rfl ?_
      refine xj_aload_n (i := 0) d0_1_142 rfl rfl ?_
      refine xj_iload_n (i := 3) d0_1_143 rfl rfl ?_
      refine xj_iconst (v := 1) d0_1_144 (by decide) ?_
      refine xj_iadd (v := nI (4 * i + 1)) d0_1_145 (nI_1 _) ?_
      refine xj_sld (j := 4 * i + 1) hX d0_1_146 (vp_in_nI (by omega) (by omega)) (nI_clamp (by omega)) ?_
      obtain ⟨r1, Q1, hx1, hm1⟩ := oPut (x := xs0 (4 * i + 1)) hg hxn hZ hT hRD hI hi5
      refine xj_callV (rest := []) (As := [.int (xs0 (4 * i + 1))]) (b := 16) hx1 d0_1_147 wd1_3 h16 (by omega) (show 16 < M.1 by omega) rfl w135 w134 (Or.inl w133) rfl rfl (Nat.le_of_ble_eq_true rfl) (by omega) (by omega) (Nat.le_trans (Nat.add_le_add_left (Nat.le_add_left _ _) _) hss) ?_
      rintro v M1 ⟨rfl, hq1⟩
      obtain ⟨⟨g52, fs1, g24⟩, hm2⟩ := hm1 _ hq1
      refine xj_aload_n (i := 2) d0_1_150 rfl rfl ?_
      refine xj_aload_n (i := 0) d0_1_151 rfl rfl ?_
      refine xj_iload_n (i := 3) d0_1_152 rfl rfl ?_
      refine xj_iconst (v := 1) d0_1_153 (by decide) ?_
      refine xj_iadd (v := nI (4 * i + 1)) d0_1_154 (nI_1 _) ?_
      refine xj_sld (j := 4 * i + 1) hX d0_1_155 (vp_in_nI (by omega) (by omega)) (nI_clamp (by omega)) ?_
      refine xj_callV (rest := [.int r1]) (As := [.int (xs0 (4 * i + 1))]) (b := 24) hm2 d0_1_156 wd14_4 g24 (by omega) (show 24 < M1.1 by omega) rfl w1139 w1138 (Or.inl w1137) rfl rfl (Nat.le_of_ble_eq_true rfl) (by omega) (by omega) (Nat.le_trans (Nat.le_of_eq (Nat.add_zero _)) (Nat.le_trans (Nat.add_le_add_left (Nat.le_add_left _ _) _) hss)) ?_
      rintro v M2 ⟨rfl, hI2⟩
      refine xj_icmp_eq (tgt := 451) d0_1_159 rfl (fun _ => ?_) (fun h => absurd rfl h)
      refine xj_iinc (v := nI (4 * i + 4)) (L' := [(3, .int (nI (4 * i + 4))), (2, .ref 24), (1, .ref 16), (0, .ref 0)]) d0_1_451 rfl (xinc4 _) (by decide) rfl ?_
      refine xj_goto (tgt := 18) d0_1_454 rfl ?_
      exact ih (i + 1) M2 _ _ (by omega) (by omega) hI2 (by omega) (by rw [Nat.add_zero, Nat.add_assoc, Nat.add_comm 14200 (PS r)]; exact hss)
    · refine xj_tableIn (tgt := 164) d0_1_32 (by decide) (by decide) rfl rfl ?_
      refine xj_aload_n (i := 1) d0_1_164 rfl rfl ?_
      refine xj_aload_n (i := 0) d0_1_165 rfl rfl ?_
      refine xj_iload_n (i := 3) d0_1_166 rfl rfl ?_
      refine xj_iconst (v := 1) d0_1_167 (by decide) ?_
      refine xj_iadd (v := nI (4 * i + 1)) d0_1_168 (nI_1 _) ?_
      refine xj_sld (j := 4 * i + 1) hX d0_1_169 (vp_in_nI (by omega) (by omega)) (nI_clamp (by omega)) ?_
      obtain ⟨r1, Q1, hx1, hm1⟩ := oDrop (x := xs0 (4 * i + 1)) hg hxn hRD hI
      refine xj_callV (rest := []) (As := [.int (xs0 (4 * i + 1))]) (b := 16) hx1 d0_1_170 wd1_4 h16 (by omega) (show 16 < M.1 by omega) rfl w282 w281 (Or.inl w280) rfl rfl (Nat.le_of_ble_eq_true rfl) (by omega) (by omega) (Nat.le_trans (Nat.add_le_add_left (Nat.le_add_left _ _) _) hss) ?_
      rintro v M1 ⟨rfl, hq1⟩
      obtain ⟨⟨g52, fs1, g24⟩, hm2⟩ := hm1 _ hq1
      refine xj_aload_n (i := 2) d0_1_173 rfl rfl ?_
      refine xj_aload_n (i := 0) d0_1_174 rfl rfl ?_
      refine xj_iload_n (i := 3) d0_1_175 rfl rfl ?_
      refine xj_iconst (v := 1) d0_1_176 (by decide) ?_
      refine xj_iadd (v := nI (4 * i + 1)) d0_1_177 (nI_1 _) ?_
      refine xj_sld (j := 4 * i + 1) hX d0_1_178 (vp_in_nI (by omega) (by omega)) (nI_clamp (by omega)) ?_
      refine xj_callV (rest := [.int r1]) (As := [.int (xs0 (4 * i + 1))]) (b := 24) hm2 d0_1_179 wd14_5 g24 (by omega) (show 24 < M1.1 by omega) rfl w1143 w1142 (Or.inl w1157) rfl rfl (Nat.le_of_ble_eq_true rfl) (by omega) (by omega) (Nat.le_trans (Nat.le_of_eq (Nat.add_zero _)) (Nat.le_trans (Nat.add_le_add_left (Nat.le_add_left _ _) _) hss)) ?_
      rintro v M2 ⟨rfl, hI2⟩
      refine xj_icmp_eq (tgt := 451) d0_1_182 rfl (fun _ => ?_) (fun h => absurd rfl h)
      refine xj_iinc (v := nI (4 * i + 4)) (L' := [(3, .int (nI (4 * i + 4))), (2, .ref 24), (1, .ref 16), (0, .ref 0)]) d0_1_451 rfl (xinc4 _) (by decide) rfl ?_
      refine xj_goto (tgt := 18) d0_1_454 rfl ?_
      exact ih (i + 1) M2 _ _ (by omega) (by omega) hI2 (by omega) (by rw [Nat.add_zero, Nat.add_assoc, Nat.add_comm 14200 (PS r)]; exact hss)
    · refine xj_tableIn (tgt := 187) d0_1_32 (by decide) (by decide) rfl rfl ?_
      refine xj_aload_n (i := 1) d0_1_187 rfl rfl ?_
      refine xj_aload_n (i := 0) d0_1_188 rfl rfl ?_
      refine xj_iload_n (i := 3) d0_1_189 rfl rfl ?_
      refine xj_iconst (v := 1) d0_1_190 (by decide) ?_
      refine xj_iadd (v := nI (4 * i + 1)) d0_1_191 (nI_1 _) ?_
      refine xj_sld (j := 4 * i + 1) hX d0_1_192 (vp_in_nI (by omega) (by omega)) (nI_clamp (by omega)) ?_
      obtain ⟨r1, Q1, hx1, hm1⟩ := oLength (x := xs0 (4 * i + 1)) hg hxn hRD hI
      refine xj_callV (rest := []) (As := [.int (xs0 (4 * i + 1))]) (b := 16) hx1 d0_1_193 wd1_5 h16 (by omega) (show 16 < M.1 by omega) rfl w286 w285 (Or.inl w284) rfl rfl (Nat.le_of_ble_eq_true rfl) (by omega) (by omega) (Nat.le_trans (Nat.add_le_add_left (Nat.le_add_left _ _) _) hss) ?_
      rintro v M1 ⟨rfl, hq1⟩
      obtain ⟨⟨g52, fs1, g24⟩, hm2⟩ := hm1 _ hq1
      refine xj_aload_n (i := 2) d0_1_196 rfl rfl ?_
      refine xj_aload_n (i := 0) d0_1_197 rfl rfl ?_
      refine xj_iload_n (i := 3) d0_1_198 rfl rfl ?_
      refine xj_iconst (v := 1) d0_1_199 (by decide) ?_
      refine xj_iadd (v := nI (4 * i + 1)) d0_1_200 (nI_1 _) ?_
      refine xj_sld (j := 4 * i + 1) hX d0_1_201 (vp_in_nI (by omega) (by omega)) (nI_clamp (by omega)) ?_
      refine xj_callV (rest := [.int r1]) (As := [.int (xs0 (4 * i + 1))]) (b := 24) hm2 d0_1_202 wd14_6 g24 (by omega) (show 24 < M1.1 by omega) rfl w1160 w1159 (Or.inl w1158) rfl rfl (Nat.le_of_ble_eq_true rfl) (by omega) (by omega) (Nat.le_trans (Nat.le_of_eq (Nat.add_zero _)) (Nat.le_trans (Nat.add_le_add_left (Nat.le_add_left _ _) _) hss)) ?_
      rintro v M2 ⟨rfl, hI2⟩
      refine xj_icmp_eq (tgt := 451) d0_1_205 rfl (fun _ => ?_) (fun h => absurd rfl h)
      refine xj_iinc (v := nI (4 * i + 4)) (L' := [(3, .int (nI (4 * i + 4))), (2, .ref 24), (1, .ref 16), (0, .ref 0)]) d0_1_451 rfl (xinc4 _) (by decide) rfl ?_
      refine xj_goto (tgt := 18) d0_1_454 rfl ?_
      exact ih (i + 1) M2 _ _ (by omega) (by omega) hI2 (by omega) (by rw [Nat.add_zero, Nat.add_assoc, Nat.add_comm 14200 (PS r)]; exact hss)
    · refine xj_tableIn (tgt := 210) d0_1_32 (by decide) (by decide) rfl rfl ?_
      refine xj_aload_n (i := 1) d0_1_210 rfl rfl ?_
      refine xj_aload_n (i := 0) d0_1_211 rfl rfl ?_
      refine xj_iload_n (i := 3) d0_1_212 rfl rfl ?_
      refine xj_iconst (v := 1) d0_1_213 (by decide) ?_
      refine xj_iadd (v := nI (4 * i + 1)) d0_1_214 (nI_1 _) ?_
      refine xj_sld (j := 4 * i + 1) hX d0_1_215 (vp_in_nI (by omega) (by omega)) (nI_clamp (by omega)) ?_
      refine xj_i2c (v := ((xs0 (4 * i + 1)).toUInt32 % 65536).toInt32) d0_1_216 rfl ?_
      obtain ⟨r1, Q1, hx1, hm1⟩ := oType (x := ((xs0 (4 * i + 1)).toUInt32 % 65536).toInt32) hg hxn hRD hI (pk_vc _)
      refine xj_callV (rest := []) (As := [.int (((xs0 (4 * i + 1)).toUInt32 % 65536).toInt32)]) (b := 16) hx1 d0_1_217 wd1_6 h16 (by omega) (show 16 < M.1 by omega) rfl w290 w289 (Or.inl w288) rfl rfl (Nat.le_of_ble_eq_true rfl) (by omega) (by omega) (Nat.le_trans (Nat.add_le_add_left (Nat.le_add_left _ _) _) hss) ?_
      rintro v M1 ⟨rfl, hq1⟩
      obtain ⟨⟨g52, fs1, g24⟩, hm2⟩ := hm1 _ hq1
      refine xj_aload_n (i := 2) d0_1_220 rfl rfl ?_
      refine xj_aload_n (i := 0) d0_1_221 rfl rfl ?_
      refine xj_iload_n (i := 3) d0_1_222 rfl rfl ?_
      refine xj_iconst (v := 1) d0_1_223 (by decide) ?_
      refine xj_iadd (v := nI (4 * i + 1)) d0_1_224 (nI_1 _) ?_
      refine xj_sld (j := 4 * i + 1) hX d0_1_225 (vp_in_nI (by omega) (by omega)) (nI_clamp (by omega)) ?_
      refine xj_i2c (v := ((xs0 (4 * i + 1)).toUInt32 % 65536).toInt32) d0_1_226 rfl ?_
      refine xj_callV (rest := [.int r1]) (As := [.int (((xs0 (4 * i + 1)).toUInt32 % 65536).toInt32)]) (b := 24) hm2 d0_1_227 wd14_17 g24 (by omega) (show 24 < M1.1 by omega) rfl w1192 w1191 (Or.inl w1190) rfl rfl (Nat.le_of_ble_eq_true rfl) (by omega) (by omega) (Nat.le_trans (Nat.le_of_eq (Nat.add_zero _)) (Nat.le_trans (Nat.add_le_add_left (Nat.le_add_left _ _) _) hss)) ?_
      rintro v M2 ⟨rfl, hI2⟩
      refine xj_icmp_eq (tgt := 451) d0_1_230 rfl (fun _ => ?_) (fun h => absurd rfl h)
      refine xj_iinc (v := nI (4 * i + 4)) (L' := [(3, .int (nI (4 * i + 4))), (2, .ref 24), (1, .ref 16), (0, .ref 0)]) d0_1_451 rfl (xinc4 _) (by decide) rfl ?_
      refine xj_goto (tgt := 18) d0_1_454 rfl ?_
      exact ih (i + 1) M2 _ _ (by omega) (by omega) hI2 (by omega) (by rw [Nat.add_zero, Nat.add_assoc, Nat.add_comm 14200 (PS r)]; exact hss)
    · refine xj_tableIn (tgt := 235) d0_1_32 (by decide) (by decide) rfl rfl ?_
      refine xj_aload_n (i := 1) d0_1_235 rfl rfl ?_
      obtain ⟨r1, Q1, hx1, hm1⟩ := oBack hg hxn hRD hI
      refine xj_callV (rest := []) (As := []) (b := 16) hx1 d0_1_236 wd1_7 h16 (by omega) (show 16 < M.1 by omega) rfl w294 w293 (Or.inl w292) rfl rfl (Nat.le_of_ble_eq_true rfl) (by omega) (by omega) (Nat.le_trans (Nat.add_le_add_left (Nat.le_add_left _ _) _) hss) ?_
      rintro v M1 ⟨rfl, hq1⟩
      obtain ⟨⟨g52, fs1, g24⟩, hm2⟩ := hm1 _ hq1
      refine xj_aload_n (i := 2) d0_1_239 rfl rfl ?_
      refine xj_callV (rest := [.int r1]) (As := []) (b := 24) hm2 d0_1_240 wd14_18 g24 (by omega) (show 24 < M1.1 by omega) rfl w1196 w1195 (Or.inl w1194) rfl rfl (Nat.le_of_ble_eq_true rfl) (by omega) (by omega) (Nat.le_trans (Nat.le_of_eq (Nat.add_zero _)) (Nat.le_trans (Nat.add_le_add_left (Nat.le_add_left _ _) _) hss)) ?_
      rintro v M2 ⟨rfl, hI2⟩
      refine xj_icmp_eq (tgt := 451) d0_1_243 rfl (fun _ => ?_) (fun h => absurd rfl h)
      refine xj_iinc (v := nI (4 * i + 4)) (L' := [(3, .int (nI (4 * i + 4))), (2, .ref 24), (1, .ref 16), (0, .ref 0)]) d0_1_451 rfl (xinc4 _) (by decide) rfl ?_
      refine xj_goto (tgt := 18) d0_1_454 rfl ?_
      exact ih (i + 1) M2 _ _ (by omega) (by omega) hI2 (by omega) (by rw [Nat.add_zero, Nat.add_assoc, Nat.add_comm 14200 (PS r)]; exact hss)
    · refine xj_tableIn (tgt := 248) d0_1_32 (by decide) (by decide) rfl rfl ?_
      refine xj_aload_n (i := 1) d0_1_248 rfl rfl ?_
      obtain ⟨r1, Q1, hx1, hm1⟩ := hFau i M hi5 hI
      refine xj_callV (rest := []) (As := []) (b := 16) hx1 d0_1_249 wd1_8 h16 (by omega) (show 16 < M.1 by omega) rfl w298 w297 (Or.inl w296) rfl rfl (Nat.le_of_ble_eq_true rfl) (by omega) (by omega) (Nat.le_trans (Nat.add_le_add_left (Nat.le_add_left _ _) _) hss) ?_
      rintro v M1 ⟨rfl, hq1⟩
      obtain ⟨⟨g52, fs1, g24⟩, hm2⟩ := hm1 _ hq1
      refine xj_aload_n (i := 2) d0_1_252 rfl rfl ?_
      refine xj_callV (rest := [.int r1]) (As := []) (b := 24) hm2 d0_1_253 wd14_41 g24 (by omega) (show 24 < M1.1 by omega) rfl w1200 w1199 (Or.inl w1198) rfl rfl (Nat.le_of_ble_eq_true rfl) (by omega) (by omega) (Nat.le_trans (Nat.le_of_eq (Nat.add_zero _)) (Nat.le_trans (Nat.add_le_add_left (Nat.le_add_left _ _) _) hss)) ?_
      rintro v M2 ⟨rfl, hI2⟩
      refine xj_icmp_eq (tgt := 451) d0_1_256 rfl (fun _ => ?_) (fun h => absurd rfl h)
      refine xj_iinc (v := nI (4 * i + 4)) (L' := [(3, .int (nI (4 * i + 4))), (2, .ref 24), (1, .ref 16), (0, .ref 0)]) d0_1_451 rfl (xinc4 _) (by decide) rfl ?_
      refine xj_goto (tgt := 18) d0_1_454 rfl ?_
      exact ih (i + 1) M2 _ _ (by omega) (by omega) hI2 (by omega) (by rw [Nat.add_zero, Nat.add_assoc, Nat.add_comm 14200 (PS r)]; exact hss)
    · refine xj_tableIn (tgt := 261) d0_1_32 (by decide) (by decide) rfl rfl ?_
      refine xj_aload_n (i := 1) d0_1_261 rfl rfl ?_
      obtain ⟨r1, Q1, hx1, hm1⟩ := hSiz i M hi5 hI
      refine xj_callV (rest := []) (As := []) (b := 16) hx1 d0_1_262 wd1_9 h16 (by omega) (show 16 < M.1 by omega) rfl w812 w811 (Or.inl w810) rfl rfl (Nat.le_of_ble_eq_true rfl) (by omega) (by omega) (Nat.le_trans (Nat.add_le_add_left (Nat.le_add_left _ _) _) hss) ?_
      rintro v M1 ⟨rfl, hq1⟩
      obtain ⟨⟨g52, fs1, g24⟩, hm2⟩ := hm1 _ hq1
      refine xj_aload_n (i := 2) d0_1_265 rfl rfl ?_
      refine xj_callV (rest := [.int r1]) (As := []) (b := 24) hm2 d0_1_266 wd14_42 g24 (by omega) (show 24 < M1.1 by omega) rfl w1290 w1289 (Or.inl w1288) rfl rfl (Nat.le_of_ble_eq_true rfl) (by omega) (by omega) (Nat.le_trans (Nat.le_of_eq (Nat.add_zero _)) (Nat.le_trans (Nat.add_le_add_left (Nat.le_add_left _ _) _) hss)) ?_
      rintro v M2 ⟨rfl, hI2⟩
      refine xj_icmp_eq (tgt := 451) d0_1_269 rfl (fun _ => ?_) (fun h => absurd rfl h)
      refine xj_iinc (v := nI (4 * i + 4)) (L' := [(3, .int (nI (4 * i + 4))), (2, .ref 24), (1, .ref 16), (0, .ref 0)]) d0_1_451 rfl (xinc4 _) (by decide) rfl ?_
      refine xj_goto (tgt := 18) d0_1_454 rfl ?_
      exact ih (i + 1) M2 _ _ (by omega) (by omega) hI2 (by omega) (by rw [Nat.add_zero, Nat.add_assoc, Nat.add_comm 14200 (PS r)]; exact hss)
    · refine xj_tableIn (tgt := 274) d0_1_32 (by decide) (by decide) rfl rfl ?_
      refine xj_aload_n (i := 1) d0_1_274 rfl rfl ?_
      obtain ⟨r1, Q1, hx1, hm1⟩ := hStr i M hi5 hI
      refine xj_callV (rest := []) (As := []) (b := 16) hx1 d0_1_275 wd1_10 h16 (by omega) (show 16 < M.1 by omega) rfl w817 w816 (Or.inl w815) rfl rfl (Nat.le_of_ble_eq_true rfl) (by omega) (by omega) (Nat.le_trans (Nat.add_le_add_left (Nat.le_add_left _ _) _) hss) ?_
      rintro v M1 ⟨rfl, hq1⟩
      obtain ⟨⟨g52, fs1, g24⟩, hm2⟩ := hm1 _ hq1
      refine xj_aload_n (i := 2) d0_1_278 rfl rfl ?_
      refine xj_callV (rest := [.int r1]) (As := []) (b := 24) hm2 d0_1_279 wd14_55 g24 (by omega) (show 24 < M1.1 by omega) rfl w1294 w1293 (Or.inl w1292) rfl rfl (Nat.le_of_ble_eq_true rfl) (by omega) (by omega) (Nat.le_trans (Nat.le_of_eq (Nat.add_zero _)) (Nat.le_trans (Nat.add_le_add_left (Nat.le_add_left _ _) _) hss)) ?_
      rintro v M2 ⟨rfl, hI2⟩
      refine xj_icmp_eq (tgt := 451) d0_1_282 rfl (fun _ => ?_) (fun h => absurd rfl h)
      refine xj_iinc (v := nI (4 * i + 4)) (L' := [(3, .int (nI (4 * i + 4))), (2, .ref 24), (1, .ref 16), (0, .ref 0)]) d0_1_451 rfl (xinc4 _) (by decide) rfl ?_
      refine xj_goto (tgt := 18) d0_1_454 rfl ?_
      exact ih (i + 1) M2 _ _ (by omega) (by omega) hI2 (by omega) (by rw [Nat.add_zero, Nat.add_assoc, Nat.add_comm 14200 (PS r)]; exact hss)
    · refine xj_tableIn (tgt := 287) d0_1_32 (by decide) (by decide) rfl rfl ?_
      refine xj_aload_n (i := 1) d0_1_287 rfl rfl ?_
      obtain ⟨r1, Q1, hx1, hm1⟩ := hSea i M hi5 hI
      refine xj_callV (rest := []) (As := []) (b := 16) hx1 d0_1_288 wd1_11 h16 (by omega) (show 16 < M.1 by omega) rfl w821 w820 (Or.inl w819) rfl rfl (Nat.le_of_ble_eq_true rfl) (by omega) (by omega) (Nat.le_trans (Nat.add_le_add_left (Nat.le_add_left _ _) _) hss) ?_
      rintro v M1 ⟨rfl, hq1⟩
      obtain ⟨⟨g52, fs1, g24⟩, hm2⟩ := hm1 _ hq1
      refine xj_aload_n (i := 2) d0_1_291 rfl rfl ?_
      refine xj_callV (rest := [.int r1]) (As := []) (b := 24) hm2 d0_1_292 wd14_61 g24 (by omega) (show 24 < M1.1 by omega) rfl w1346 w1345 (Or.inl w1344) rfl rfl (Nat.le_of_ble_eq_true rfl) (by omega) (by omega) (Nat.le_trans (Nat.le_of_eq (Nat.add_zero _)) (Nat.le_trans (Nat.add_le_add_left (Nat.le_add_left _ _) _) hss)) ?_
      rintro v M2 ⟨rfl, hI2⟩
      refine xj_icmp_eq (tgt := 451) d0_1_295 rfl (fun _ => ?_) (fun h => absurd rfl h)
      refine xj_iinc (v := nI (4 * i + 4)) (L' := [(3, .int (nI (4 * i + 4))), (2, .ref 24), (1, .ref 16), (0, .ref 0)]) d0_1_451 rfl (xinc4 _) (by decide) rfl ?_
      refine xj_goto (tgt := 18) d0_1_454 rfl ?_
      exact ih (i + 1) M2 _ _ (by omega) (by omega) hI2 (by omega) (by rw [Nat.add_zero, Nat.add_assoc, Nat.add_comm 14200 (PS r)]; exact hss)
    · refine xj_tableIn (tgt := 300) d0_1_32 (by decide) (by decide) rfl rfl ?_
      refine xj_aload_n (i := 1) d0_1_300 rfl rfl ?_
      obtain ⟨r1, Q1, hx1, hm1⟩ := oPossible hg hxn hRD hI
      refine xj_callV (rest := []) (As := []) (b := 16) hx1 d0_1_301 wd1_12 h16 (by omega) (show 16 < M.1 by omega) rfl w961 w960 (Or.inl w959) rfl rfl (Nat.le_of_ble_eq_true rfl) (by omega) (by omega) (Nat.le_trans (Nat.add_le_add_left (Nat.le_add_left _ _) _) hss) ?_
      rintro v M1 ⟨rfl, hq1⟩
      obtain ⟨⟨g52, fs1, g24⟩, hm2⟩ := hm1 _ hq1
      refine xj_aload_n (i := 2) d0_1_304 rfl rfl ?_
      refine xj_callV (rest := [.int r1]) (As := []) (b := 24) hm2 d0_1_305 wd14_62 g24 (by omega) (show 24 < M1.1 by omega) rfl w1372 w1371 (Or.inl w1370) rfl rfl (Nat.le_of_ble_eq_true rfl) (by omega) (by omega) (Nat.le_trans (Nat.le_of_eq (Nat.add_zero _)) (Nat.le_trans (Nat.add_le_add_left (Nat.le_add_left _ _) _) hss)) ?_
      rintro v M2 ⟨rfl, hI2⟩
      refine xj_icmp_eq (tgt := 451) d0_1_308 rfl (fun _ => ?_) (fun h => absurd rfl h)
      refine xj_iinc (v := nI (4 * i + 4)) (L' := [(3, .int (nI (4 * i + 4))), (2, .ref 24), (1, .ref 16), (0, .ref 0)]) d0_1_451 rfl (xinc4 _) (by decide) rfl ?_
      refine xj_goto (tgt := 18) d0_1_454 rfl ?_
      exact ih (i + 1) M2 _ _ (by omega) (by omega) hI2 (by omega) (by rw [Nat.add_zero, Nat.add_assoc, Nat.add_comm 14200 (PS r)]; exact hss)
    · refine xj_tableIn (tgt := 313) d0_1_32 (by decide) (by decide) rfl rfl ?_
      refine xj_aload_n (i := 1) d0_1_313 rfl rfl ?_
      refine xj_aload_n (i := 0) d0_1_314 rfl rfl ?_
      refine xj_iload_n (i := 3) d0_1_315 rfl rfl ?_
      refine xj_iconst (v := 1) d0_1_316 (by decide) ?_
      refine xj_iadd (v := nI (4 * i + 1)) d0_1_317 (nI_1 _) ?_
      refine xj_sld (j := 4 * i + 1) hX d0_1_318 (vp_in_nI (by omega) (by omega)) (nI_clamp (by omega)) ?_
      obtain ⟨r1, Q1, hx1, hm1⟩ := oHit (x := xs0 (4 * i + 1)) hg hxn hRD hI
      refine xj_callV (rest := []) (As := [.int (xs0 (4 * i + 1))]) (b := 16) hx1 d0_1_319 wd1_13 h16 (by omega) (show 16 < M.1 by omega) rfl w965 w964 (Or.inl w963) rfl rfl (Nat.le_of_ble_eq_true rfl) (by omega) (by omega) (Nat.le_trans (Nat.add_le_add_left (Nat.le_add_left _ _) _) hss) ?_
      rintro v M1 ⟨rfl, hq1⟩
      obtain ⟨⟨g52, fs1, g24⟩, hm2⟩ := hm1 _ hq1
      refine xj_aload_n (i := 2) d0_1_322 rfl rfl ?_
      refine xj_aload_n (i := 0) d0_1_323 rfl rfl ?_
      refine xj_iload_n (i := 3) d0_1_324 rfl rfl ?_
      refine xj_iconst (v := 1) d0_1_325 (by decide) ?_
      refine xj_iadd (v := nI (4 * i + 1)) d0_1_326 (nI_1 _) ?_
      refine xj_sld (j := 4 * i + 1) hX d0_1_327 (vp_in_nI (by omega) (by omega)) (nI_clamp (by omega)) ?_
      refine xj_callV (rest := [.int r1]) (As := [.int (xs0 (4 * i + 1))]) (b := 24) hm2 d0_1_328 wd14_63 g24 (by omega) (show 24 < M1.1 by omega) rfl w1376 w1375 (Or.inl w1374) rfl rfl (Nat.le_of_ble_eq_true rfl) (by omega) (by omega) (Nat.le_trans (Nat.le_of_eq (Nat.add_zero _)) (Nat.le_trans (Nat.add_le_add_left (Nat.le_add_left _ _) _) hss)) ?_
      rintro v M2 ⟨rfl, hI2⟩
      refine xj_icmp_eq (tgt := 451) d0_1_331 rfl (fun _ => ?_) (fun h => absurd rfl h)
      refine xj_iinc (v := nI (4 * i + 4)) (L' := [(3, .int (nI (4 * i + 4))), (2, .ref 24), (1, .ref 16), (0, .ref 0)]) d0_1_451 rfl (xinc4 _) (by decide) rfl ?_
      refine xj_goto (tgt := 18) d0_1_454 rfl ?_
      exact ih (i + 1) M2 _ _ (by omega) (by omega) hI2 (by omega) (by rw [Nat.add_zero, Nat.add_assoc, Nat.add_comm 14200 (PS r)]; exact hss)
    · refine xj_tableIn (tgt := 336) d0_1_32 (by decide) (by decide) rfl rfl ?_
      refine xj_aload_n (i := 1) d0_1_336 rfl rfl ?_
      obtain ⟨r1, Q1, hx1, hm1⟩ := oShards hg hxn hRD hI
      refine xj_callV (rest := []) (As := []) (b := 16) hx1 d0_1_337 wd1_14 h16 (by omega) (show 16 < M.1 by omega) rfl w969 w968 (Or.inl w967) rfl rfl (Nat.le_of_ble_eq_true rfl) (by omega) (by omega) (Nat.le_trans (Nat.add_le_add_left (Nat.le_add_left _ _) _) hss) ?_
      rintro v M1 ⟨rfl, hq1⟩
      obtain ⟨⟨g52, fs1, g24⟩, hm2⟩ := hm1 _ hq1
      refine xj_aload_n (i := 2) d0_1_340 rfl rfl ?_
      refine xj_callV (rest := [.int r1]) (As := []) (b := 24) hm2 d0_1_341 wd14_11 g24 (by omega) (show 24 < M1.1 by omega) rfl w1164 w1163 (Or.inl w1162) rfl rfl (Nat.le_of_ble_eq_true rfl) (by omega) (by omega) (Nat.le_trans (Nat.le_of_eq (Nat.add_zero _)) (Nat.le_trans (Nat.add_le_add_left (Nat.le_add_left _ _) _) hss)) ?_
      rintro v M2 ⟨rfl, hI2⟩
      refine xj_icmp_eq (tgt := 451) d0_1_344 rfl (fun _ => ?_) (fun h => absurd rfl h)
      refine xj_iinc (v := nI (4 * i + 4)) (L' := [(3, .int (nI (4 * i + 4))), (2, .ref 24), (1, .ref 16), (0, .ref 0)]) d0_1_451 rfl (xinc4 _) (by decide) rfl ?_
      refine xj_goto (tgt := 18) d0_1_454 rfl ?_
      exact ih (i + 1) M2 _ _ (by omega) (by omega) hI2 (by omega) (by rw [Nat.add_zero, Nat.add_assoc, Nat.add_comm 14200 (PS r)]; exact hss)
    · refine xj_tableIn (tgt := 349) d0_1_32 (by decide) (by decide) rfl rfl ?_
      refine xj_aload_n (i := 1) d0_1_349 rfl rfl ?_
      refine xj_aload_n (i := 0) d0_1_350 rfl rfl ?_
      refine xj_iload_n (i := 3) d0_1_351 rfl rfl ?_
      refine xj_iconst (v := 1) d0_1_352 (by decide) ?_
      refine xj_iadd (v := nI (4 * i + 1)) d0_1_353 (nI_1 _) ?_
      refine xj_sld (j := 4 * i + 1) hX d0_1_354 (vp_in_nI (by omega) (by omega)) (nI_clamp (by omega)) ?_
      refine xj_aload_n (i := 0) d0_1_355 rfl rfl ?_
      refine xj_iload_n (i := 3) d0_1_356 rfl rfl ?_
      refine xj_iconst (v := 2) d0_1_357 (by decide) ?_
      refine xj_iadd (v := nI (4 * i + 2)) d0_1_358 (nI_add (4 * i) 2) ?_
      refine xj_sld (j := 4 * i + 2) hX d0_1_359 (vp_in_nI (by omega) (by omega)) (nI_clamp (by omega)) ?_
      obtain ⟨r1, Q1, hx1, hm1⟩ := oShard (x := xs0 (4 * i + 1)) (y := xs0 (4 * i + 2)) hg hxn hRD hI hi5
      refine xj_callV (rest := []) (As := [.int (xs0 (4 * i + 1)), .int (xs0 (4 * i + 2))]) (b := 16) hx1 d0_1_360 wd1_15 h16 (by omega) (show 16 < M.1 by omega) rfl w973 w972 (Or.inl w971) rfl rfl (Nat.le_of_ble_eq_true rfl) (by omega) (by omega) (Nat.le_trans (Nat.add_le_add_left (Nat.le_add_left _ _) _) hss) ?_
      rintro v M1 ⟨rfl, hq1⟩
      obtain ⟨⟨g52, fs1, g24⟩, hm2⟩ := hm1 _ hq1
      refine xj_aload_n (i := 2) d0_1_363 rfl rfl ?_
      refine xj_aload_n (i := 0) d0_1_364 rfl rfl ?_
      refine xj_iload_n (i := 3) d0_1_365 rfl rfl ?_
      refine xj_iconst (v := 1) d0_1_366 (by decide) ?_
      refine xj_iadd (v := nI (4 * i + 1)) d0_1_367 (nI_1 _) ?_
      refine xj_sld (j := 4 * i + 1) hX d0_1_368 (vp_in_nI (by omega) (by omega)) (nI_clamp (by omega)) ?_
      refine xj_aload_n (i := 0) d0_1_369 rfl rfl ?_
      refine xj_iload_n (i := 3) d0_1_370 rfl rfl ?_
      refine xj_iconst (v := 2) d0_1_371 (by decide) ?_
      refine xj_iadd (v := nI (4 * i + 2)) d0_1_372 (nI_add (4 * i) 2) ?_
      refine xj_sld (j := 4 * i + 2) hX d0_1_373 (vp_in_nI (by omega) (by omega)) (nI_clamp (by omega)) ?_
      refine xj_callV (rest := [.int r1]) (As := [.int (xs0 (4 * i + 1)), .int (xs0 (4 * i + 2))]) (b := 24) hm2 d0_1_374 wd14_12 g24 (by omega) (show 24 < M1.1 by omega) rfl w1168 w1167 (Or.inl w1166) rfl rfl (Nat.le_of_ble_eq_true rfl) (by omega) (by omega) (Nat.le_trans (Nat.le_of_eq (Nat.add_zero _)) (Nat.le_trans (Nat.add_le_add_left (Nat.le_add_left _ _) _) hss)) ?_
      rintro v M2 ⟨rfl, hI2⟩
      refine xj_icmp_eq (tgt := 451) d0_1_377 rfl (fun _ => ?_) (fun h => absurd rfl h)
      refine xj_iinc (v := nI (4 * i + 4)) (L' := [(3, .int (nI (4 * i + 4))), (2, .ref 24), (1, .ref 16), (0, .ref 0)]) d0_1_451 rfl (xinc4 _) (by decide) rfl ?_
      refine xj_goto (tgt := 18) d0_1_454 rfl ?_
      exact ih (i + 1) M2 _ _ (by omega) (by omega) hI2 (by omega) (by rw [Nat.add_zero, Nat.add_assoc, Nat.add_comm 14200 (PS r)]; exact hss)
    · refine xj_tableIn (tgt := 382) d0_1_32 (by decide) (by decide) rfl rfl ?_
      refine xj_aload_n (i := 1) d0_1_382 rfl rfl ?_
      refine xj_aload_n (i := 0) d0_1_383 rfl rfl ?_
      refine xj_iload_n (i := 3) d0_1_384 rfl rfl ?_
      refine xj_iconst (v := 1) d0_1_385 (by decide) ?_
      refine xj_iadd (v := nI (4 * i + 1)) d0_1_386 (nI_1 _) ?_
      refine xj_sld (j := 4 * i + 1) hX d0_1_387 (vp_in_nI (by omega) (by omega)) (nI_clamp (by omega)) ?_
      refine xj_aload_n (i := 0) d0_1_388 rfl rfl ?_
      refine xj_iload_n (i := 3) d0_1_389 rfl rfl ?_
      refine xj_iconst (v := 2) d0_1_390 (by decide) ?_
      refine xj_iadd (v := nI (4 * i + 2)) d0_1_391 (nI_add (4 * i) 2) ?_
      refine xj_sld (j := 4 * i + 2) hX d0_1_392 (vp_in_nI (by omega) (by omega)) (nI_clamp (by omega)) ?_
      refine xj_aload_n (i := 0) d0_1_393 rfl rfl ?_
      refine xj_iload_n (i := 3) d0_1_394 rfl rfl ?_
      refine xj_iconst (v := 3) d0_1_395 (by decide) ?_
      refine xj_iadd (v := nI (4 * i + 3)) d0_1_396 (nI_add (4 * i) 3) ?_
      refine xj_sld (j := 4 * i + 3) hX d0_1_397 (vp_in_nI (by omega) (by omega)) (nI_clamp (by omega)) ?_
      obtain ⟨r1, Q1, hx1, hm1⟩ := oPostings (u := xs0 (4 * i + 1)) (v1 := xs0 (4 * i + 2)) (w3 := xs0 (4 * i + 3)) hg hxn hRD hI hi5
      refine xj_callV (rest := []) (As := [.int (xs0 (4 * i + 1)), .int (xs0 (4 * i + 2)), .int (xs0 (4 * i + 3))]) (b := 16) hx1 d0_1_398 wd1_16 h16 (by omega) (show 16 < M.1 by omega) rfl w981 w980 (Or.inl w979) rfl rfl (Nat.le_of_ble_eq_true rfl) (by omega) (by omega) (Nat.le_trans (Nat.add_le_add_left (Nat.le_add_left _ _) _) hss) ?_
      rintro v M1 ⟨rfl, hq1⟩
      obtain ⟨⟨g52, fs1, g24⟩, hm2⟩ := hm1 _ hq1
      refine xj_aload_n (i := 2) d0_1_401 rfl rfl ?_
      refine xj_aload_n (i := 0) d0_1_402 rfl rfl ?_
      refine xj_iload_n (i := 3) d0_1_403 rfl rfl ?_
      refine xj_iconst (v := 1) d0_1_404 (by decide) ?_
      refine xj_iadd (v := nI (4 * i + 1)) d0_1_405 (nI_1 _) ?_
      refine xj_sld (j := 4 * i + 1) hX d0_1_406 (vp_in_nI (by omega) (by omega)) (nI_clamp (by omega)) ?_
      refine xj_aload_n (i := 0) d0_1_407 rfl rfl ?_
      refine xj_iload_n (i := 3) d0_1_408 rfl rfl ?_
      refine xj_iconst (v := 2) d0_1_409 (by decide) ?_
      refine xj_iadd (v := nI (4 * i + 2)) d0_1_410 (nI_add (4 * i) 2) ?_
      refine xj_sld (j := 4 * i + 2) hX d0_1_411 (vp_in_nI (by omega) (by omega)) (nI_clamp (by omega)) ?_
      refine xj_aload_n (i := 0) d0_1_412 rfl rfl ?_
      refine xj_iload_n (i := 3) d0_1_413 rfl rfl ?_
      refine xj_iconst (v := 3) d0_1_414 (by decide) ?_
      refine xj_iadd (v := nI (4 * i + 3)) d0_1_415 (nI_add (4 * i) 3) ?_
      refine xj_sld (j := 4 * i + 3) hX d0_1_416 (vp_in_nI (by omega) (by omega)) (nI_clamp (by omega)) ?_
      refine xj_callV (rest := [.int r1]) (As := [.int (xs0 (4 * i + 1)), .int (xs0 (4 * i + 2)), .int (xs0 (4 * i + 3))]) (b := 24) hm2 d0_1_417 wd14_16 g24 (by omega) (show 24 < M1.1 by omega) rfl w1184 w1183 (Or.inl w1182) rfl rfl (Nat.le_of_ble_eq_true rfl) (by omega) (by omega) (Nat.le_trans (Nat.le_of_eq (Nat.add_zero _)) (Nat.le_trans (Nat.add_le_add_left (Nat.le_add_left _ _) _) hss)) ?_
      rintro v M2 ⟨rfl, hI2⟩
      refine xj_icmp_eq (tgt := 451) d0_1_420 rfl (fun _ => ?_) (fun h => absurd rfl h)
      refine xj_iinc (v := nI (4 * i + 4)) (L' := [(3, .int (nI (4 * i + 4))), (2, .ref 24), (1, .ref 16), (0, .ref 0)]) d0_1_451 rfl (xinc4 _) (by decide) rfl ?_
      refine xj_goto (tgt := 18) d0_1_454 rfl ?_
      exact ih (i + 1) M2 _ _ (by omega) (by omega) hI2 (by omega) (by rw [Nat.add_zero, Nat.add_assoc, Nat.add_comm 14200 (PS r)]; exact hss)
    · refine xj_tableIn (tgt := 425) d0_1_32 (by decide) (by decide) rfl rfl ?_
      refine xj_aload_n (i := 1) d0_1_425 rfl rfl ?_
      obtain ⟨r1, Q1, hx1, hm1⟩ := oCompact hg hxn hZ hT hRD hI hi5
      refine xj_callV (rest := []) (As := []) (b := 16) hx1 d0_1_426 wd1_17 h16 (by omega) (show 16 < M.1 by omega) rfl w990 w989 (Or.inl w988) rfl rfl (Nat.le_of_ble_eq_true rfl) (by omega) (by omega) (Nat.le_trans (Nat.add_le_add_left (Nat.le_add_left _ _) _) hss) ?_
      rintro v M1 ⟨rfl, hq1⟩
      obtain ⟨⟨g52, fs1, g24⟩, hm2⟩ := hm1 _ hq1
      refine xj_aload_n (i := 2) d0_1_429 rfl rfl ?_
      refine xj_callV (rest := [.int r1]) (As := []) (b := 24) hm2 d0_1_430 wd14_13 g24 (by omega) (show 24 < M1.1 by omega) rfl w1176 w1175 (Or.inl w1174) rfl rfl (Nat.le_of_ble_eq_true rfl) (by omega) (by omega) (Nat.le_trans (Nat.le_of_eq (Nat.add_zero _)) (Nat.le_trans (Nat.add_le_add_left (Nat.le_add_left _ _) _) hss)) ?_
      rintro v M2 ⟨rfl, hI2⟩
      refine xj_icmp_eq (tgt := 451) d0_1_433 rfl (fun _ => ?_) (fun h => absurd rfl h)
      refine xj_iinc (v := nI (4 * i + 4)) (L' := [(3, .int (nI (4 * i + 4))), (2, .ref 24), (1, .ref 16), (0, .ref 0)]) d0_1_451 rfl (xinc4 _) (by decide) rfl ?_
      refine xj_goto (tgt := 18) d0_1_454 rfl ?_
      exact ih (i + 1) M2 _ _ (by omega) (by omega) hI2 (by omega) (by rw [Nat.add_zero, Nat.add_assoc, Nat.add_comm 14200 (PS r)]; exact hss)
    · refine xj_tableIn (tgt := 438) d0_1_32 (by decide) (by decide) rfl rfl ?_
      refine xj_aload_n (i := 1) d0_1_438 rfl rfl ?_
      obtain ⟨r1, Q1, hx1, hm1⟩ := oLeft hg hxn hRD hI
      refine xj_callV (rest := []) (As := []) (b := 16) hx1 d0_1_439 wd1_18 h16 (by omega) (show 16 < M.1 by omega) rfl w994 w993 (Or.inl w992) rfl rfl (Nat.le_of_ble_eq_true rfl) (by omega) (by omega) (Nat.le_trans (Nat.add_le_add_left (Nat.le_add_left _ _) _) hss) ?_
      rintro v M1 ⟨rfl, hq1⟩
      obtain ⟨⟨g52, fs1, g24⟩, hm2⟩ := hm1 _ hq1
      refine xj_aload_n (i := 2) d0_1_442 rfl rfl ?_
      refine xj_callV (rest := [.int r1]) (As := []) (b := 24) hm2 d0_1_443 wd14_14 g24 (by omega) (show 24 < M1.1 by omega) rfl w1180 w1179 (Or.inl w1178) rfl rfl (Nat.le_of_ble_eq_true rfl) (by omega) (by omega) (Nat.le_trans (Nat.le_of_eq (Nat.add_zero _)) (Nat.le_trans (Nat.add_le_add_left (Nat.le_add_left _ _) _) hss)) ?_
      rintro v M2 ⟨rfl, hI2⟩
      refine xj_icmp_eq (tgt := 451) d0_1_446 rfl (fun _ => ?_) (fun h => absurd rfl h)
      refine xj_iinc (v := nI (4 * i + 4)) (L' := [(3, .int (nI (4 * i + 4))), (2, .ref 24), (1, .ref 16), (0, .ref 0)]) d0_1_451 rfl (xinc4 _) (by decide) rfl ?_
      refine xj_goto (tgt := 18) d0_1_454 rfl ?_
      exact ih (i + 1) M2 _ _ (by omega) (by omega) hI2 (by omega) (by rw [Nat.add_zero, Nat.add_assoc, Nat.add_comm 14200 (PS r)]; exact hss)
    · refine xj_tableOut (tgt := 451) d0_1_32 hsw rfl ?_
      refine xj_iinc (v := nI (4 * i + 4)) (L' := [(3, .int (nI (4 * i + 4))), (2, .ref 24), (1, .ref 16), (0, .ref 0)]) d0_1_451 rfl (xinc4 _) (by decide) rfl ?_
      refine xj_goto (tgt := 18) d0_1_454 rfl ?_
      exact ih (i + 1) M cells slots (by omega) (by omega) (xInv_s hI) (by omega) (by omega)

theorem xPutC {G : xG} (hg : xGood G) (hxn : xn = 16) (hZ : va_Z "java/util/ArrayList" "DEFAULTCAPACITY_EMPTY_ELEMENTDATA" "[Ljava/lang/Object;" (.ref (xa G 1)) (fun q => (xs G).heap.size ≤ q) (xs G) (xs G).heap) (hT : va_T (.object "java/lang/Object") (xa G 1) 0 (fun _ => .null) (fun q => (xs G).heap.size ≤ q) (xs G) (xs G).heap) {M : xM} {f li tx te cu le : Nat → Int32} {sn : Nat} {va : Nat → Nat} {S : List Nat} {T : List (Int32 × List Nat)} {ov : List Nat} {es ol oe r0 r1 : Nat} {dl : Nat} {pl : Nat} {vc : Nat} {tk : Nat} {hc : Nat} {op : Nat} {pn : Int32} {lr : Value} {w : Nat} {c : Int32} (hS : xSt 3 M f li tx te cu le sn vc va S T ov es op ol oe r0 r1) (hvc : vc ≤ 512) (h16 : M.2 16 = (.inr (0, [.ref 17, .int (nI dl), .ref 18, .int (nI pl), lr, .ref 19, .int (nI vc), .ref op, .ref 22, .int (nI tk), .ref 23, .int (nI hc), .int pn]))) {d ce se cells slots : Nat} {Post : Option Value → xM → Prop} (hd : 8 ≤ d) (hcc : cells + 179 ≤ ce) (hss : slots + 1655 ≤ se) (K1 : ¬ ov.length = 3 → Post (some (.int (nI vc))) M) (K2 : ov.length = 3 → ∀ (M' : xM) (S' : List Nat) (T' : List (Int32 × List Nat)) (es' op' ol' : Nat), M.1 ≤ M'.1 → (∀ j, j < M.1 → j ≠ 16 → j ≠ 22 → j ≠ es → M'.2 j = M.2 j) → M'.2 16 = (.inr (0, [.ref 17, .int (nI dl), .ref 18, .int (nI pl), lr, .ref 19, .int (nI vc), .ref op', .ref 22, .int (nI ((setl li (sn + 1) (xsealF f (nI sn), upd le sn 0, sn + 1, tk)).2.2.2)), .ref 23, .int (nI hc), .int pn])) → xSt 2 M' (setl li (sn + 1) (xsealF f (nI sn), upd le sn 0, sn + 1, tk)).1 li tx te cu (setl li (sn + 1) (xsealF f (nI sn), upd le sn 0, sn + 1, tk)).2.1 (setl li (sn + 1) (xsealF f (nI sn), upd le sn 0, sn + 1, tk)).2.2.1 vc va S' T' [] es' op' ol' 0 r0 r1 → Post (some (.int (nI vc))) M') : XJ G Y1_3 d ce se cells slots 61 [(2, .ref w), (0, .ref 16), (1, .int c)] [] M Post := by
  obtain ⟨hStp, hVer, hNmd, hAbs, hOv, hIp, hInj, hT10, ho3, Bn, hLvl, hBn⟩ := hS
  have h_op := hStp.2.2.2.2.2.2.2.2.2.1
  obtain ⟨el, mo, h_ol, hlt⟩ := xLs_len hStp.2.2.2.2.2.2.2.2.2.2
  have hop1 := hStp.2.2.2.1.1
  have hop2 := hStp.2.2.2.1.2.1
  have hol1 := hStp.2.2.2.2.1.1
  have hol2 := hStp.2.2.2.2.1.2.1
  have hea1 := xAr_lt hStp.2.2.1 hStp.1
  have h52 := hStp.1
  have hT8 := xLvl_len hLvl (show Bn ≤ 171 by omega)
  have hSl := hStp.2.2.2.2.2.2.2.2.1.1
  have hTs := hAbs.1
  by_cases h3 : ov.length = 3
  · skip
    refine xj_aload_n (i := 0) d1_3_61 rfl rfl ?_
    refine xj_get d1_3_62 f1_27_0 h16 (by omega) (show 16 < M.1 by omega) rfl ?_
    refine xj_callV (rest := []) (As := []) (b := op) (cCount hg (M := M) (n := M.1) (a := op) (l := ol) (lv := 0) (el := el) (sz := nI ov.length) (mo := mo) rfl (by omega) (by omega) (by omega) h_op (by omega) (by omega) h_ol) d1_3_65 wd10_4 h_op (by omega) (show op < M.1 by omega) rfl w226 w225 (Or.inl w224) rfl rfl (Nat.le_of_ble_eq_true rfl) (by omega) (by omega) (by omega) ?_
    rintro v M' ⟨rfl, hm⟩
    subst M'
    refine xj_iconst (v := 3) d1_3_68 (by decide) ?_
    refine xj_icmp_lt (tgt := 80) d1_3_69 rfl (fun h => absurd h (nI_nlt (a := ov.length) (b := 3) (by omega) (by omega))) (fun _ => ?_)
    refine xj_aload_n (i := 0) d1_3_72 rfl rfl ?_
    refine xj_callV (rest := []) (As := []) (b := 16) (xSealO hg hxn hZ hT rfl hStp.1 h16 hStp.2.2.2.2.2.2.2.1 h_op hop1 hop2 (xAr_16 hStp.2.2.1).symm (by omega)) d1_3_73 wd1_24 h16 (by omega) (show 16 < M.1 by omega) rfl s1_24 w234 (Or.inl w232) rfl rfl (Nat.le_of_ble_eq_true rfl) (by omega) (by omega) (by omega) ?_
    rintro v M1 ⟨rfl, n', e, hs1, hs2, he, ho1, hO1, ha1, hb1, hL1⟩
    have hP1 := xStp_seal hxn hStp hs1 hs2 he ho1 hL1 ha1 hb1
    have hA1 := xAbs_seal hAbs hOv (show sn < 64 by omega)
    have hV1 : xVer M1 r0 r1 va (xsealF f (nI sn)) li tx te := xVer_fr hVer (by omega) (fun s _ h => xseal_u h) (fun j hj hp ht => ho1 j hp.2.1 (by omega) (by omega) (xAr_ne hStp.2.2.1 hj ht))
    have hT1 : ∀ q ∈ T ++ [(0, ov)], q.2.length ≤ 10 := fun q hq => by
      rcases List.mem_append.mp hq with h | h
      · exact hT10 q h
      · rw [List.mem_singleton.mp h]
        show ov.length ≤ 10
        omega
    have hI := xSv_0 hP1 (by simp) hV1 hA1 hT1
    have hes1 : e < M1.1 := xAr_lt hP1.2.2.1 hP1.1
    have hF0 : ∀ x, xFr e n' (n' + 1) 0 r0 r1 M1.1 x → 16 ≤ x ∧ x < M1.1 ∧ x ≠ 16 ∧ x ≠ 22 ∧ x ≠ e := fun x hx => ⟨Nat.le_trans (by decide) hx.1.1, hx.1.2.1, xPl_16 hx.1, hx.1.2.2.1, hx.2.1⟩
    refine xj_aload_n (i := 0) d1_3_76 rfl rfl ?_
    refine xj_callV (rest := []) (As := []) (b := 16) (xSettle hg hxn hZ hT (B := Bn + 1) (by omega) hP1.1 hes1 hF0 (xIp_ten hIp) hI (xLvl_seal hLvl) hO1) d1_3_77 wd1_25 hO1 (by omega) (show 16 < M1.1 by omega) rfl s1_25 w239 (Or.inl w237) rfl rfl (Nat.le_of_ble_eq_true rfl) (by omega) (by omega) (by omega) ?_
    rintro v M2 ⟨rfl, S2, T2, hI2, hL2, hO2⟩
    have hm2 := hI2.1
    refine xj_aload_n (i := 0) d1_3_80 rfl rfl ?_
    refine xj_get d1_3_81 f1_59_0 hO2 (by omega) (show 16 < M2.1 by omega) rfl ?_
    have hv2 : ∀ j, j < M.1 → j ≠ 16 → j ≠ 22 → j ≠ es → M2.2 j = M.2 j := fun j a b c d => (hI2.2.1 j (by omega) b c (by omega)).trans (ho1 j a b c d)
    have hq9 : sn + 1 ≤ 60 := by omega
    have hV2 : xVer M2 r0 r1 va (setl li (sn + 1) (xsealF f (nI sn), upd le sn 0, sn + 1, tk)).1 li tx te := xVer_fr hV1 hm2 (fun s _ h => setl_u _ _ _ _ _ hq9 h) (fun j hj hp ht => hI2.2.1 j hp.2.1 (by omega) (by omega) (xAr_ne hP1.2.2.1 hj ht))
    have hN2 : xNmd M2 va cu := by
      obtain ⟨nm, z1, z2⟩ := hNmd
      exact ⟨nm, (hv2 19 (by omega) (by decide) (by decide) (xAr_19 hStp.2.2.1)).trans z1, z2⟩
    have hin : ∀ s t, s < 128 → t < 128 → ¬ (setl li (sn + 1) (xsealF f (nI sn), upd le sn 0, sn + 1, tk)).1 s = -1 → ¬ (setl li (sn + 1) (xsealF f (nI sn), upd le sn 0, sn + 1, tk)).1 t = -1 → va s = va t → s = t := fun s t a b c d e9 => hInj s t a b (xseal_u (setl_u _ _ _ _ _ hq9 c)) (xseal_u (setl_u _ _ _ _ _ hq9 d)) e9
    have hip : xIp (setl li (sn + 1) (xsealF f (nI sn), upd le sn 0, sn + 1, tk)).1 li cu := xIp_f hIp (fun s a b c => setl_live b _ _ _ _ _ hq9 (by
      by_cases q : f s = 99
      · rw [← xseal_t q]
        exact fun z => xneg1 (show sn < 2 ^ 31 by omega) z.symm
      · rw [← xseal_f q]
        exact c))
    have hov : ([] : List Nat).Perm ((xsl (setl li (sn + 1) (xsealF f (nI sn), upd le sn 0, sn + 1, tk)).1 99).map va) := by
      rw [xsl_99 (fun s => setl_99 _ _ _ _ _ hq9), xOv_seal (show sn < 64 by omega)]
      exact List.Perm.refl _
    exact xj_ret d1_3_84 (by omega) (by omega) rfl (K2 h3 M2 S2 T2 e n' (n' + 1) (by omega) hv2 hO2 ⟨xStp_sv hxn hP1 hI2, hV2, hN2, hI2.2.2.2.2.1, hov, hip, hin, hI2.2.2.2.2.2.2, by simp, Bn + 1, hL2, by simp only [List.length_nil]; omega⟩)
  · skip
    refine xj_aload_n (i := 0) d1_3_61 rfl rfl ?_
    refine xj_get d1_3_62 f1_27_0 h16 (by omega) (show 16 < M.1 by omega) rfl ?_
    refine xj_callV (rest := []) (As := []) (b := op) (cCount hg (M := M) (n := M.1) (a := op) (l := ol) (lv := 0) (el := el) (sz := nI ov.length) (mo := mo) rfl (by omega) (by omega) (by omega) h_op (by omega) (by omega) h_ol) d1_3_65 wd10_4 h_op (by omega) (show op < M.1 by omega) rfl w226 w225 (Or.inl w224) rfl rfl (Nat.le_of_ble_eq_true rfl) (by omega) (by omega) (by omega) ?_
    rintro v M' ⟨rfl, hm⟩
    subst M'
    refine xj_iconst (v := 3) d1_3_68 (by decide) ?_
    refine xj_icmp_lt (tgt := 80) d1_3_69 rfl (fun _ => ?_) (fun h => absurd (nI_lt (a := ov.length) (b := 3) (by omega) (by omega)) h)
    refine xj_aload_n (i := 0) d1_3_80 rfl rfl ?_
    refine xj_get d1_3_81 f1_59_0 h16 (by omega) (show 16 < M.1 by omega) rfl ?_
    exact xj_ret d1_3_84 (by omega) (by omega) rfl (K1 h3)
theorem xPutB {G : xG} (hg : xGood G) (hxn : xn = 16) (hZ : va_Z "java/util/ArrayList" "DEFAULTCAPACITY_EMPTY_ELEMENTDATA" "[Ljava/lang/Object;" (.ref (xa G 1)) (fun q => (xs G).heap.size ≤ q) (xs G) (xs G).heap) (hT : va_T (.object "java/lang/Object") (xa G 1) 0 (fun _ => .null) (fun q => (xs G).heap.size ≤ q) (xs G) (xs G).heap) {M : xM} {n : Nat} (hn : M.1 = n) {f li tx te cu le : Nat → Int32} {sn : Nat} {va : Nat → Nat} {S : List Nat} {T : List (Int32 × List Nat)} {ov : List Nat} {es ol oe r0 r1 : Nat} {dl : Nat} {pl : Nat} {vc : Nat} {tk : Nat} {hc : Nat} {op : Nat} {pn : Int32} {lr : Value} {k sl : Nat} {fd fx : Nat → Int32} (hS : xSt 2 M f li tx te cu le sn vc va S T ov es op ol oe r0 r1) (hvc : vc < 512) (h16 : M.2 16 = (.inr (0, [.ref 17, .int (nI dl), .ref 18, .int (nI pl), lr, .ref 19, .int (nI vc), .ref op, .ref 22, .int (nI tk), .ref 23, .int (nI hc), .int pn]))) (h17 : M.2 17 = (.inl (1, 40, .inl fx))) (hfd : ∀ j, j < dl → fx j = fd j) (hdl : dl ≤ 40) (hft : ∀ z, z < dl → fits .char (.int (fx z)) = true) (hk : k < 10) (hsl : sl < 128) (hf : f sl = -1) (hck : cu k = -1) {d ce se cells slots : Nat} {Post : Option Value → xM → Prop} (hd : 8 ≤ d) (hcc : cells + 182 ≤ ce) (hss : slots + 1707 ≤ se) (K1 : ¬ ov.length + 1 = 3 → ∀ (M' : xM) (e : Nat), M.1 ≤ M'.1 → (∀ j, j < M.1 → j ≠ 16 → j ≠ 19 → j ≠ ol → j ≠ oe → M'.2 j = M.2 j) → M'.2 16 = (.inr (0, [.ref 17, .int 0, .ref 18, .int (nI pl), lr, .ref 19, .int (nI (vc + 1)), .ref op, .ref 22, .int (nI tk), .ref 23, .int (nI hc), .int pn])) → xSt 2 M' (upd f sl 99) (upd li sl 1) (va_cpy fd tx 0 (40 * sl) dl) (upd te sl (nI dl)) (upd cu k (nI sl)) le sn (vc + 1) (upN va sl n) S T (ov ++ [n]) es op ol e r0 r1 → Post (some (.int (nI (vc + 1)))) M') (K2 : ov.length + 1 = 3 → ∀ (M' : xM) (S' : List Nat) (T' : List (Int32 × List Nat)) (es' op' ol' : Nat), M.1 ≤ M'.1 → (∀ j, j < M.1 → j ≠ 16 → j ≠ 19 → j ≠ 22 → j ≠ ol → j ≠ oe → j ≠ es → M'.2 j = M.2 j) → M'.2 16 = (.inr (0, [.ref 17, .int 0, .ref 18, .int (nI pl), lr, .ref 19, .int (nI (vc + 1)), .ref op', .ref 22, .int (nI ((setl (upd li sl 1) (sn + 1) (xsealF (upd f sl 99) (nI sn), upd le sn 0, sn + 1, tk)).2.2.2)), .ref 23, .int (nI hc), .int pn])) → xSt 2 M' (setl (upd li sl 1) (sn + 1) (xsealF (upd f sl 99) (nI sn), upd le sn 0, sn + 1, tk)).1 (upd li sl 1) (va_cpy fd tx 0 (40 * sl) dl) (upd te sl (nI dl)) (upd cu k (nI sl)) (setl (upd li sl 1) (sn + 1) (xsealF (upd f sl 99) (nI sn), upd le sn 0, sn + 1, tk)).2.1 (setl (upd li sl 1) (sn + 1) (xsealF (upd f sl 99) (nI sn), upd le sn 0, sn + 1, tk)).2.2.1 (vc + 1) (upN va sl n) S' T' [] es' op' ol' 0 r0 r1 → Post (some (.int (nI (vc + 1)))) M') : XJ G Y1_3 d ce se cells slots 15 [(0, .ref 16), (1, .int (nI k))] [] M Post := by
  obtain ⟨hStp, hVer, ⟨nm, h19, hnm⟩, hAbs, hOv, hIp, hInj, hT10, ho3, Bn, hLvl, hBn⟩ := hS
  have h_op := hStp.2.2.2.2.2.2.2.2.2.1
  obtain ⟨el, mo, h_ol, hlt⟩ := xLs_len hStp.2.2.2.2.2.2.2.2.2.2
  have hop1 := hStp.2.2.2.1.1
  have hop2 := hStp.2.2.2.1.2.1
  have hol1 := hStp.2.2.2.2.1.1
  have hol2 := hStp.2.2.2.2.1.2.1
  have hea1 := xAr_lt hStp.2.2.1 hStp.1
  have h52 := hStp.1
  have hrd := hStp.2.1
  have hoa1 := xAr_lt hStp.2.2.2.2.2.1 hStp.1
  have hoa16 := xAr_16 hStp.2.2.2.2.2.1
  have hoa19 := xAr_19 hStp.2.2.2.2.2.1
  have hT8 := xLvl_len hLvl (show Bn ≤ 171 by omega)
  have hSl := hStp.2.2.2.2.2.2.2.2.1.1
  have hTs := hAbs.1
  refine xj_new (na := n) d1_3_15 n1_16 (show M.1 = n by omega) (by omega) (by omega) ?_
  refine xj_abs_push (show M.1 = n by omega) (fun M1 hs1 ha1 ho1 => ?_)
  refine xj_dup d1_3_18 rfl ?_
  refine xj_aload_n (i := 0) d1_3_19 rfl rfl ?_
  refine xj_get d1_3_20 f1_9_0 ((ho1 16 (by omega)).trans h16) (by omega) (show 16 < M1.1 by omega) rfl ?_
  refine xj_aload_n (i := 0) d1_3_23 rfl rfl ?_
  refine xj_get d1_3_24 f1_46_0 ((ho1 16 (by omega)).trans h16) (by omega) (show 16 < M1.1 by omega) rfl ?_
  refine xj_callI (rest := [.ref n]) (As := [.ref 17, .int (nI dl)]) (b := n) (cVersion hg (M := M1) (n := n + 1) (a := n) (dr := 17) (f := fx) (k := dl) (show M1.1 = n + 1 by omega) (by omega) (by omega) (by omega) ha1 (by omega) (by omega) ((ho1 17 (by omega)).trans h17) (by omega) hft (by omega)) d1_3_27 wd11_1 rfl w146 (Or.inl w145) rfl rfl (Nat.le_of_ble_eq_true rfl) (by omega) (by omega) (by omega) ?_
  rintro v M2 ⟨rfl, hs2, ho2, hf2_0, hf2_1⟩
  replace hs2 : M2.1 = n + 2 := hs2
  replace hf2_0 : M2.2 n = (.inr (3, [.ref (n + 1), .int 1])) := hf2_0
  replace hf2_1 : M2.2 (n + 1) = (.inl (1, dl, .inl (va_cpy fx (fun _ => 0) 0 0 dl))) := hf2_1
  refine xj_astore_n (i := 2) (L' := [(2, .ref n), (0, .ref 16), (1, .int (nI k))]) d1_3_30 rfl (by decide) rfl ?_
  refine xj_aload_n (i := 0) d1_3_31 rfl rfl ?_
  refine xj_iconst (v := 0) d1_3_32 (by decide) ?_
  refine xj_put (a := 16) (fs' := [.ref 17, .int 0, .ref 18, .int (nI pl), lr, .ref 19, .int (nI vc), .ref op, .ref 22, .int (nI tk), .ref 23, .int (nI hc), .int pn]) d1_3_33 f1_46_0 ((ho2 16 (by omega) (by omega)).trans ((ho1 16 (by omega)).trans h16)) (by omega) (show 16 < M2.1 by omega) (Nat.le_of_ble_eq_true rfl) rfl rfl rfl ?_
  refine xj_abs_set (fun M3 hs3 ha3 ho3 => ?_)
  refine xj_aload_n (i := 0) d1_3_36 rfl rfl ?_
  refine xj_get d1_3_37 f1_18_0 ha3 (by omega) (show 16 < M3.1 by omega) rfl ?_
  refine xj_iload_n (i := 1) d1_3_40 rfl rfl ?_
  refine xj_aload_n (i := 2) d1_3_41 rfl rfl ?_
  refine xj_aastore (j := k) d1_3_42 ((ho3 19 (by omega)).trans ((ho2 19 (by omega) (by omega)).trans ((ho1 19 (by omega)).trans h19))) (by decide) rfl (by omega) (show 19 < M3.1 by omega) (vp_in_nI (by omega) (by omega)) (nI_clamp (by omega)) ((ho3 n (by omega)).trans hf2_0) (by omega) (show n < M3.1 by omega) rfl (Or.inl rfl) ?_
  refine xj_abs_set (fun M4 hs4 ha4 ho4 => ?_)
  refine xj_aload_n (i := 0) d1_3_43 rfl rfl ?_
  refine xj_dup d1_3_44 rfl ?_
  refine xj_get d1_3_45 f1_59_0 ((ho4 16 (by omega)).trans ha3) (by omega) (show 16 < M4.1 by omega) rfl ?_
  refine xj_iconst (v := 1) d1_3_48 (by decide) ?_
  refine xj_iadd (v := nI (vc + 1)) d1_3_49 (nI_1 _) ?_
  refine xj_put (a := 16) (fs' := [.ref 17, .int 0, .ref 18, .int (nI pl), lr, .ref 19, .int (nI (vc + 1)), .ref op, .ref 22, .int (nI tk), .ref 23, .int (nI hc), .int pn]) d1_3_50 f1_59_0 ((ho4 16 (by omega)).trans ha3) (by omega) (show 16 < M4.1 by omega) (Nat.le_of_ble_eq_true rfl) rfl rfl rfl ?_
  refine xj_abs_set (fun M5 hs5 ha5 ho5 => ?_)
  refine xj_aload_n (i := 0) d1_3_53 rfl rfl ?_
  refine xj_get d1_3_54 f1_27_0 ha5 (by omega) (show 16 < M5.1 by omega) rfl ?_
  refine xj_aload_n (i := 2) d1_3_57 rfl rfl ?_
  refine xj_callV (rest := []) (As := [.ref n]) (b := op) (xShAdd hg hxn hZ hT (vs := ov) (oe := oe) (by omega) (by omega) (l := ol) (by omega) (by omega) (by omega) (by omega) ((ho5 op (by omega)).trans ((ho4 op (by omega)).trans ((ho3 op (by omega)).trans ((ho2 op (by omega) (by omega)).trans ((ho1 op (by omega)).trans h_op))))) (xLs_fi hStp.2.2.2.2.2.2.2.2.2.2 (by omega) ((ho5 ol (by omega)).trans ((ho4 ol (by omega)).trans ((ho3 ol (by omega)).trans ((ho2 ol (by omega) (by omega)).trans (ho1 ol (by omega)))))) (fun x y hx hx1 hx2 hy => by have hx9 : x = oe := hx; exact ((ho5 x (by omega)).trans ((ho4 x (by omega)).trans ((ho3 x (by omega)).trans ((ho2 x (by omega) (by omega)).trans (ho1 x (by omega)))))))) ((ho5 n (by omega)).trans ((ho4 n (by omega)).trans ((ho3 n (by omega)).trans hf2_0))) (by omega)) d1_3_58 wd10_2 ((ho5 op (by omega)).trans ((ho4 op (by omega)).trans ((ho3 op (by omega)).trans ((ho2 op (by omega) (by omega)).trans ((ho1 op (by omega)).trans h_op))))) (by omega) (show op < M5.1 by omega) rfl w164 w163 (Or.inl w162) rfl rfl (Nat.le_of_ble_eq_true rfl) (by omega) (by omega) (by omega) ?_
  rintro v M9 ⟨rfl, hs9, e, he, ho9, hL9⟩
  have hfr9 : ∀ j, j < M.1 → j ≠ 16 → j ≠ 19 → j ≠ ol → j ≠ oe → M9.2 j = M.2 j := fun j g1 g2 g3 g4 g5 => ((ho9 j (by omega) (by omega) (by omega)).trans ((ho5 j (by omega)).trans ((ho4 j (by omega)).trans ((ho3 j (by omega)).trans ((ho2 j (by omega) (by omega)).trans (ho1 j (by omega)))))))
  have hm9 : n + 2 ≤ M9.1 := by omega
  have hV9 := xVer_put (w := n) (fd := fd) (tx := tx) hVer hsl (show M.1 ≤ M9.1 by omega) (fun j hj hp ht => hfr9 j hp.2.1 (by omega) (by omega) (xne_ol h_ol ht) (xAr_ne hStp.2.2.2.2.2.1 hj ht)) ⟨by omega, xPl_new h52 hrd (by omega) (by omega)⟩ (t0 := n + 1) ⟨by omega, xPl_new h52 hrd (by omega) (by omega)⟩ ((ho9 n (by omega) (by omega) (by omega)).trans ((ho5 n (by omega)).trans ((ho4 n (by omega)).trans ((ho3 n (by omega)).trans hf2_0)))) ((ho9 (n + 1) (by omega) (by omega) (by omega)).trans ((ho5 (n + 1) (by omega)).trans ((ho4 (n + 1) (by omega)).trans ((ho3 (n + 1) (by omega)).trans hf2_1)))) hdl (xcpy_g hfd)
  have hP9 := xStp_add hxn hStp (show M.1 ≤ M9.1 by omega) (he.imp_right (fun q => ⟨by omega, q.2⟩)) (fun j hj h1 h2 _ => hj.elim (fun z => hfr9 j (by omega) (by omega) (by omega) h1 h2) (fun z => hfr9 j z.2.1 (xPl_16 z) (xPl_19 z) h1 h2)) hL9
  have hS9 : xSt 3 M9 (upd f sl 99) (upd li sl 1) (va_cpy fd tx 0 (40 * sl) dl) (upd te sl (nI dl)) (upd cu k (nI sl)) le sn (vc + 1) (upN va sl n) S T (ov ++ [n]) es op ol e r0 r1 := ⟨hP9, hV9, ⟨_, ((ho9 19 (by omega) (by omega) (by omega)).trans ((ho5 19 (by omega)).trans ha4)), xNmd_put hnm hIp hf hsl⟩, xAbs_put hAbs (by omega) hf, xOv_put hOv hsl hf, xIp_new hIp hk hsl hf hck, xinj_put hVer (by omega) hInj, hT10, by rw [List.length_append, List.length_singleton]; omega, Bn, hLvl, by rw [List.length_append, List.length_singleton]; omega⟩
  refine xPutC hg hxn hZ hT (f := upd f sl 99) (li := upd li sl 1) (tx := va_cpy fd tx 0 (40 * sl) dl) (te := upd te sl (nI dl)) (cu := upd cu k (nI sl)) (le := le) (sn := sn) (va := upN va sl n) (S := S) (T := T) (ov := ov ++ [n]) (es := es) (ol := ol) (oe := e) (r0 := r0) (r1 := r1) (dl := 0) (vc := vc + 1) hS9 (by omega) ((ho9 16 (by omega) (by omega) (by omega)).trans ha5) (by omega) (by omega) (by omega) (fun h3 => ?_) (fun h3 M' S' T' es' op' ol' g1 g2 g3 g4 => ?_)
  · rw [List.length_append, List.length_singleton] at h3
    obtain ⟨s1, s2, s3, s4, s5, s6, s7, s8, s9, s10⟩ := hS9
    exact K1 h3 M9 e (by omega) hfr9 ((ho9 16 (by omega) (by omega) (by omega)).trans ha5) ⟨s1, s2, s3, s4, s5, s6, s7, s8, by rw [List.length_append, List.length_singleton]; omega, s10⟩
  · rw [List.length_append, List.length_singleton] at h3
    exact K2 h3 M' S' T' es' op' ol' (by omega) (fun j q1 q2 q3 q4 q5 q6 q7 => (g2 j (by omega) q2 q4 q7).trans (hfr9 j q1 q2 q3 q5 q6)) g3 g4

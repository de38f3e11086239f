theorem xCompE {G : xG} (hg : xGood G) (hxn : xn = 16) (hZ : va_Z "java/util/ArrayList" "DEFAULTCAPACITY_EMPTY_ELEMENTDATA" "[Ljava/lang/Object;" (.ref (xa G 1)) (fun q => (xs G).heap.size ≤ q) (xs G) (xs G).heap) (hT : va_T (.object "java/lang/Object") (xa G 1) 0 (fun _ => .null) (fun q => (xs G).heap.size ≤ q) (xs G) (xs G).heap) {M : xM} {f li tx te cu le : Nat → Int32} {sn : Nat} {va : Nat → Nat} {S : List Nat} {T : List (Int32 × List Nat)} {es ol oe r0 r1 : Nat} {dl : Nat} {pl : Nat} {vc : Nat} {tk : Nat} {hc : Nat} {op : Nat} {pn : Int32} {lr : Value} (hS : xSt 2 M f li tx te cu le sn vc va S T [] es op ol oe r0 r1) (hvc : vc ≤ 512) (h16 : M.2 16 = (.inr (0, [.ref 17, .int (nI dl), .ref 18, .int (nI pl), lr, .ref 19, .int (nI vc), .ref op, .ref 22, .int (nI tk), .ref 23, .int (nI hc), .int pn]))) : XC G Y1_17 (some .int) 8 179 1655 [.ref 16] M (fun v M' => v = some (.int (nI ((cmpl li sn (f, le, sn, tk) 0).2))) ∧ M.1 ≤ M'.1 ∧ xFm r0 r1 M M' ∧ ∃ op' va' S' T' es' ol' oe', M'.2 16 = (.inr (0, [.ref 17, .int (nI dl), .ref 18, .int (nI pl), lr, .ref 19, .int (nI vc), .ref op', .ref 22, .int (nI ((cmpl li sn (f, le, sn, tk) 0).1.2.2.2)), .ref 23, .int (nI hc), .int pn])) ∧ xSt 2 M' (cmpl li sn (f, le, sn, tk) 0).1.1 li tx te cu (cmpl li sn (f, le, sn, tk) 0).1.2.1 (cmpl li sn (f, le, sn, tk) 0).1.2.2.1 vc va' S' T' [] es' op' ol' oe' r0 r1) := by
  obtain ⟨hStp, hVer, hNmd, hAbs, hOv, hIp, hInj, hT10, ho3, Bn, hLvl, hBn⟩ := id hS
  have h_op := hStp.2.2.2.2.2.2.2.2.2.1
  obtain ⟨el, mo, h_ol, hlt⟩ := xLs_len hStp.2.2.2.2.2.2.2.2.2.2
  have hop1 := hStp.2.2.2.1.1
  have hop2 := hStp.2.2.2.1.2.1
  have hol1 := hStp.2.2.2.2.1.1
  have hol2 := hStp.2.2.2.2.1.2.1
  have hea1 := xAr_lt hStp.2.2.1 hStp.1
  have h52 := hStp.1
  have hT8 := xLvl_len hLvl (show Bn ≤ 171 by omega)
  have hSl := hStp.2.2.2.2.2.2.2.2.1.1
  have hTs := hAbs.1
  have hea9 := xAr_p hStp.2.2.1
  obtain ⟨el2, mo2, h_22, hlt2⟩ := xLs_len hStp.2.2.2.2.2.2.2.1
  rw [hSl, hTs] at h_22
  refine xc_of hg (by decide) (Nat.le_of_ble_eq_true rfl) (Or.inl ⟨rfl, rfl, fun v M' h => ⟨_, h.1⟩⟩) ?_
  by_cases hs1 : sn ≤ 1
  · have hset : cmpl li sn (f, le, sn, tk) 0 = ((f, le, sn, tk), 0) := by
      rcases (show sn = 0 ∨ sn = 1 by omega) with z | z <;> rw [z] <;> rfl
    refine xj_aload_n (i := 0) d1_17_0 rfl rfl ?_
    refine xj_get d1_17_1 f1_27_0 h16 (by omega) (show 16 < M.1 by omega) rfl ?_
    refine xj_callV (rest := []) (As := []) (b := op) (cCount hg (M := M) (n := M.1) (a := op) (l := ol) (lv := 0) (el := el) (sz := nI 0) (mo := mo) rfl (by omega) (by omega) (by omega) h_op (by omega) (by omega) h_ol) d1_17_4 wd10_4 h_op (by omega) (show op < M.1 by omega) rfl w226 w225 (Or.inl w224) rfl rfl (Nat.le_of_ble_eq_true rfl) (by omega) (by omega) (by omega) ?_
    rintro v M' ⟨rfl, hm⟩
    subst M'
    refine xj_if_le (tgt := 14) d1_17_7 rfl (fun _ => ?_) (fun h => absurd (nI_le (a := 0) (b := 0) (by omega) (by omega)) h)
    refine xj_iconst (v := 0) d1_17_14 (by decide) ?_
    refine xj_istore_n (i := 1) (L' := [(1, .int 0), (0, .ref 16)]) d1_17_15 rfl (by decide) rfl ?_
    refine xj_aload_n (i := 0) d1_17_16 rfl rfl ?_
    refine xj_get d1_17_17 f1_34_0 h16 (by omega) (show 16 < M.1 by omega) rfl ?_
    refine xj_callV (rest := []) (As := []) (b := 22) (cSize hg (M := M) (n := M.1) (a := 22) (el := el2) (sz := nI sn) (mo := mo2) rfl (by omega) (by omega) (by omega) h_22) d1_17_20 wd28_8 h_22 (by omega) (show 22 < M.1 by omega) rfl w230 w229 (Or.inl w241) rfl rfl (Nat.le_of_ble_eq_true rfl) (by omega) (by omega) (by omega) ?_
    rintro v M' ⟨rfl, hm⟩
    subst M'
    refine xj_istore_n (i := 2) (L' := [(2, .int (nI sn)), (1, .int 0), (0, .ref 16)]) d1_17_23 rfl (by decide) rfl ?_
    refine xj_iconst (v := 1) d1_17_24 (by decide) ?_
    refine xj_istore_n (i := 3) (L' := [(3, .int 1), (2, .int (nI sn)), (1, .int 0), (0, .ref 16)]) d1_17_25 rfl (by decide) rfl ?_
    refine xj_iload_n (i := 3) d1_17_26 rfl rfl ?_
    refine xj_iload_n (i := 2) d1_17_27 rfl rfl ?_
    refine xj_icmp_ge (tgt := 55) d1_17_28 rfl (fun _ => ?_) (fun h => absurd (nI_le (a := sn) (b := 1) (by omega) (by omega)) h)
    refine xj_iload_n (i := 1) d1_17_55 rfl rfl ?_
    refine xj_ret d1_17_56 (by omega) (by omega) rfl ⟨by rw [hset], Nat.le_refl _, fun _ _ _ _ _ _ => rfl, ?_⟩
    rw [hset]
    exact ⟨op, va, S, T, es, ol, oe, h16, hS⟩
  · obtain ⟨m, rfl⟩ : ∃ m, sn = m + 1 := ⟨sn - 1, by omega⟩
    have hSn : S ≠ [] := fun q => by rw [q] at hSl; simp only [List.length_nil] at hSl; omega
    have hI := xSv_0 hStp hSn hVer hAbs hT10
    have hes1 : es < M.1 := hea1
    have hF0 : ∀ x, xFr es op ol oe r0 r1 M.1 x → 16 ≤ x ∧ x < M.1 ∧ x ≠ 16 ∧ x ≠ 22 ∧ x ≠ es := fun x hx => ⟨Nat.le_trans (by decide) hx.1.1, hx.1.2.1, xPl_16 hx.1, hx.1.2.2.1, hx.2.1⟩
    refine xj_aload_n (i := 0) d1_17_0 rfl rfl ?_
    refine xj_get d1_17_1 f1_27_0 h16 (by omega) (show 16 < M.1 by omega) rfl ?_
    refine xj_callV (rest := []) (As := []) (b := op) (cCount hg (M := M) (n := M.1) (a := op) (l := ol) (lv := 0) (el := el) (sz := nI 0) (mo := mo) rfl (by omega) (by omega) (by omega) h_op (by omega) (by omega) h_ol) d1_17_4 wd10_4 h_op (by omega) (show op < M.1 by omega) rfl w226 w225 (Or.inl w224) rfl rfl (Nat.le_of_ble_eq_true rfl) (by omega) (by omega) (by omega) ?_
    rintro v M' ⟨rfl, hm⟩
    subst M'
    refine xj_if_le (tgt := 14) d1_17_7 rfl (fun _ => ?_) (fun h => absurd (nI_le (a := 0) (b := 0) (by omega) (by omega)) h)
    refine xj_iconst (v := 0) d1_17_14 (by decide) ?_
    refine xj_istore_n (i := 1) (L' := [(1, .int 0), (0, .ref 16)]) d1_17_15 rfl (by decide) rfl ?_
    refine xj_aload_n (i := 0) d1_17_16 rfl rfl ?_
    refine xj_get d1_17_17 f1_34_0 h16 (by omega) (show 16 < M.1 by omega) rfl ?_
    refine xj_callV (rest := []) (As := []) (b := 22) (cSize hg (M := M) (n := M.1) (a := 22) (el := el2) (sz := nI (m + 1)) (mo := mo2) rfl (by omega) (by omega) (by omega) h_22) d1_17_20 wd28_8 h_22 (by omega) (show 22 < M.1 by omega) rfl w230 w229 (Or.inl w241) rfl rfl (Nat.le_of_ble_eq_true rfl) (by omega) (by omega) (by omega) ?_
    rintro v M' ⟨rfl, hm⟩
    subst M'
    refine xj_istore_n (i := 2) (L' := [(2, .int (nI (m + 1))), (1, .int 0), (0, .ref 16)]) d1_17_23 rfl (by decide) rfl ?_
    refine xj_iconst (v := 1) d1_17_24 (by decide) ?_
    refine xj_istore_n (i := 3) (L' := [(3, .int 1), (2, .int (nI (m + 1))), (1, .int 0), (0, .ref 16)]) d1_17_25 rfl (by decide) rfl ?_
    refine xCmpL hg hxn hZ hT hStp.1 hes1 hF0 (xIp_ten hIp) (c9 := 179) (s9 := 1655) (bf := m + 1) (by omega) (by omega) (by omega) (by omega) m 1 f le (m + 1) tk 0 S T M _ _ (by omega) (by omega) hI (by omega) h16 (by omega) (by omega) (fun M' S' T' k' e1 e2 e3 => ?_)
    have hm2 := e1.1
    have hq9 : (m + 1) ≤ 60 := by omega
    have hV2 : xVer M' r0 r1 va (cmpl li (m + 1) (f, le, (m + 1), tk) 0).1.1 li tx te := xVer_fr hVer hm2 (fun s _ h => cmpl_u _ _ _ _ _ _ hq9 h) (fun j hj hp ht => e1.2.1 j hp.2.1 (by omega) (by omega) (xAr_ne hStp.2.2.1 hj ht))
    have hv2 : ∀ j, j < M.1 → j ≠ 16 → j ≠ 22 → j ≠ es → M'.2 j = M.2 j := fun j a b c d => e1.2.1 j a b c d
    have hN2 : xNmd M' va cu := by
      obtain ⟨nm, z1, z2⟩ := hNmd
      exact ⟨nm, (hv2 19 (by omega) (by decide) (by decide) (xAr_19 hStp.2.2.1)).trans z1, z2⟩
    have hin : ∀ s t, s < 128 → t < 128 → ¬ (cmpl li (m + 1) (f, le, (m + 1), tk) 0).1.1 s = -1 → ¬ (cmpl li (m + 1) (f, le, (m + 1), tk) 0).1.1 t = -1 → va s = va t → s = t := fun s t a b c d e9 => hInj s t a b (cmpl_u _ _ _ _ _ _ hq9 c) (cmpl_u _ _ _ _ _ _ hq9 d) e9
    have hip : xIp (cmpl li (m + 1) (f, le, (m + 1), tk) 0).1.1 li cu := xIp_f hIp (fun s a b c => cmpl_live b _ _ _ _ _ _ hq9 c)
    have hov : ([] : List Nat).Perm ((xsl (cmpl li (m + 1) (f, le, (m + 1), tk) 0).1.1 99).map va) := by
      rw [xsl_99 (fun s => cmpl_99 _ _ _ _ _ _ hq9)]
      exact hOv
    refine xj_iload_n (i := 1) d1_17_55 rfl rfl ?_
    exact xj_ret d1_17_56 (by omega) (by omega) rfl ⟨rfl, by omega, fun j a b c d e9 => hv2 j b (by omega) d (fun q => xno hea9 q e9 (by omega)), op, va, S', T', es, ol, oe, e3, xStp_sv hxn hStp e1, hV2, hN2, e1.2.2.2.2.1, hov, hip, hin, e1.2.2.2.2.2.2, by simp, 0, xLvl_nil e2 0, by simp⟩
theorem xCompS {G : xG} (hg : xGood G) (hxn : xn = 16) (hZ : va_Z "java/util/ArrayList" "DEFAULTCAPACITY_EMPTY_ELEMENTDATA" "[Ljava/lang/Object;" (.ref (xa G 1)) (fun q => (xs G).heap.size ≤ q) (xs G) (xs G).heap) (hT : va_T (.object "java/lang/Object") (xa G 1) 0 (fun _ => .null) (fun q => (xs G).heap.size ≤ q) (xs G) (xs G).heap) {M : xM} {f li tx te cu le : Nat → Int32} {sn : Nat} {va : Nat → Nat} {S : List Nat} {T : List (Int32 × List Nat)} {ov : List Nat} {es ol oe r0 r1 : Nat} {dl : Nat} {pl : Nat} {vc : Nat} {tk : Nat} {hc : Nat} {op : Nat} {pn : Int32} {lr : Value} (hS : xSt 2 M f li tx te cu le sn vc va S T ov es op ol oe r0 r1) (hvc : vc ≤ 512) (h16 : M.2 16 = (.inr (0, [.ref 17, .int (nI dl), .ref 18, .int (nI pl), lr, .ref 19, .int (nI vc), .ref op, .ref 22, .int (nI tk), .ref 23, .int (nI hc), .int pn]))) (hov0 : 0 < ov.length) : XC G Y1_17 (some .int) 8 179 1655 [.ref 16] M (fun v M' => v = some (.int (nI ((cmpl li (sn + 1) (xsealF f (nI sn), upd le sn 0, sn + 1, tk) 0).2))) ∧ M.1 ≤ M'.1 ∧ xFm r0 r1 M M' ∧ ∃ op' va' S' T' es' ol' oe', M'.2 16 = (.inr (0, [.ref 17, .int (nI dl), .ref 18, .int (nI pl), lr, .ref 19, .int (nI vc), .ref op', .ref 22, .int (nI ((cmpl li (sn + 1) (xsealF f (nI sn), upd le sn 0, sn + 1, tk) 0).1.2.2.2)), .ref 23, .int (nI hc), .int pn])) ∧ xSt 2 M' (cmpl li (sn + 1) (xsealF f (nI sn), upd le sn 0, sn + 1, tk) 0).1.1 li tx te cu (cmpl li (sn + 1) (xsealF f (nI sn), upd le sn 0, sn + 1, tk) 0).1.2.1 (cmpl li (sn + 1) (xsealF f (nI sn), upd le sn 0, sn + 1, tk) 0).1.2.2.1 vc va' S' T' [] es' op' ol' oe' r0 r1) := by
  obtain ⟨hStp, hVer, hNmd, hAbs, hOv, hIp, hInj, hT10, ho3, Bn, hLvl, hBn⟩ := hS
  have h_op := hStp.2.2.2.2.2.2.2.2.2.1
  obtain ⟨el, mo, h_ol, hlt⟩ := xLs_len hStp.2.2.2.2.2.2.2.2.2.2
  have hop1 := hStp.2.2.2.1.1
  have hop2 := hStp.2.2.2.1.2.1
  have hol1 := hStp.2.2.2.2.1.1
  have hol2 := hStp.2.2.2.2.1.2.1
  have hea1 := xAr_lt hStp.2.2.1 hStp.1
  have h52 := hStp.1
  have hT8 := xLvl_len hLvl (show Bn ≤ 171 by omega)
  have hSl := hStp.2.2.2.2.2.2.2.2.1.1
  have hTs := hAbs.1
  have hea9 := xAr_p hStp.2.2.1
  refine xc_of hg (by decide) (Nat.le_of_ble_eq_true rfl) (Or.inl ⟨rfl, rfl, fun v M' h => ⟨_, h.1⟩⟩) ?_
  refine xj_aload_n (i := 0) d1_17_0 rfl rfl ?_
  refine xj_get d1_17_1 f1_27_0 h16 (by omega) (show 16 < M.1 by omega) rfl ?_
  refine xj_callV (rest := []) (As := []) (b := op) (cCount hg (M := M) (n := M.1) (a := op) (l := ol) (lv := 0) (el := el) (sz := nI ov.length) (mo := mo) rfl (by omega) (by omega) (by omega) h_op (by omega) (by omega) h_ol) d1_17_4 wd10_4 h_op (by omega) (show op < M.1 by omega) rfl w226 w225 (Or.inl w224) rfl rfl (Nat.le_of_ble_eq_true rfl) (by omega) (by omega) (by omega) ?_
  rintro v M' ⟨rfl, hm⟩
  subst M'
  refine xj_if_le (tgt := 14) d1_17_7 rfl (fun h => absurd h (nI_ge (a := 0) (b := ov.length) (by omega) (by omega))) (fun _ => ?_)
  refine xj_aload_n (i := 0) d1_17_10 rfl rfl ?_
  refine xj_callV (rest := []) (As := []) (b := 16) (xSealO hg hxn hZ hT rfl hStp.1 h16 hStp.2.2.2.2.2.2.2.1 h_op hop1 hop2 (xAr_16 hStp.2.2.1).symm (by omega)) d1_17_11 wd1_24 h16 (by omega) (show 16 < M.1 by omega) rfl s1_24 w234 (Or.inl w232) rfl rfl (Nat.le_of_ble_eq_true rfl) (by omega) (by omega) (by omega) ?_
  rintro v M1 ⟨rfl, n', e, hs1, hs2, he, ho1, hO1, ha1, hb1, hL1⟩
  have hP1 := xStp_seal hxn hStp hs1 hs2 he ho1 hL1 ha1 hb1
  have hA1 := xAbs_seal hAbs hOv (show sn < 64 by omega)
  have hV1 : xVer M1 r0 r1 va (xsealF f (nI sn)) li tx te := xVer_fr hVer (by omega) (fun s _ h => xseal_u h) (fun j hj hp ht => ho1 j hp.2.1 (by omega) (by omega) (xAr_ne hStp.2.2.1 hj ht))
  have hT1 : ∀ q ∈ T ++ [(0, ov)], q.2.length ≤ 10 := fun q hq => by
      rcases List.mem_append.mp hq with h | h
      · exact hT10 q h
      · rw [List.mem_singleton.mp h]
        show ov.length ≤ 10
        omega
  have hI := xSv_0 hP1 (by simp) hV1 hA1 hT1
  have hes1 : e < M1.1 := xAr_lt hP1.2.2.1 hP1.1
  have hF0 : ∀ x, xFr e n' (n' + 1) 0 r0 r1 M1.1 x → 16 ≤ x ∧ x < M1.1 ∧ x ≠ 16 ∧ x ≠ 22 ∧ x ≠ e := fun x hx => ⟨Nat.le_trans (by decide) hx.1.1, hx.1.2.1, xPl_16 hx.1, hx.1.2.2.1, hx.2.1⟩
  refine xj_iconst (v := 0) d1_17_14 (by decide) ?_
  refine xj_istore_n (i := 1) (L' := [(1, .int 0), (0, .ref 16)]) d1_17_15 rfl (by decide) rfl ?_
  refine xj_aload_n (i := 0) d1_17_16 rfl rfl ?_
  refine xj_get d1_17_17 f1_34_0 hO1 (by omega) (show 16 < M1.1 by omega) rfl ?_
  obtain ⟨el3, mo3, h_22, hlt3⟩ := xLs_len hL1
  rw [List.length_append, List.length_singleton, hSl, hTs] at h_22
  refine xj_callV (rest := []) (As := []) (b := 22) (cSize hg (M := M1) (n := M1.1) (a := 22) (el := el3) (sz := nI (sn + 1)) (mo := mo3) rfl (by omega) (by omega) (by omega) h_22) d1_17_20 wd28_8 h_22 (by omega) (show 22 < M1.1 by omega) rfl w230 w229 (Or.inl w241) rfl rfl (Nat.le_of_ble_eq_true rfl) (by omega) (by omega) (by omega) ?_
  rintro v M' ⟨rfl, hm⟩
  subst M'
  refine xj_istore_n (i := 2) (L' := [(2, .int (nI (sn + 1))), (1, .int 0), (0, .ref 16)]) d1_17_23 rfl (by decide) rfl ?_
  refine xj_iconst (v := 1) d1_17_24 (by decide) ?_
  refine xj_istore_n (i := 3) (L' := [(3, .int 1), (2, .int (nI (sn + 1))), (1, .int 0), (0, .ref 16)]) d1_17_25 rfl (by decide) rfl ?_
  refine xCmpL hg hxn hZ hT hP1.1 hes1 hF0 (xIp_ten hIp) (c9 := 179) (s9 := 1655) (bf := sn + 1) (by omega) (by omega) (by omega) (by omega) sn 1 (xsealF f (nI sn)) (upd le sn 0) (sn + 1) tk 0 (S ++ [op]) (T ++ [(0, ov)]) M1 _ _ (by omega) (by omega) hI (by rw [List.length_append, List.length_singleton]; omega) hO1 (by omega) (by omega) (fun M' S' T' k' e1 e2 e3 => ?_)
  have hm2 := e1.1
  have hq9 : sn + 1 ≤ 60 := by omega
  have hV2 : xVer M' r0 r1 va (cmpl li (sn + 1) (xsealF f (nI sn), upd le sn 0, sn + 1, tk) 0).1.1 li tx te := xVer_fr hV1 hm2 (fun s _ h => cmpl_u _ _ _ _ _ _ hq9 h) (fun j hj hp ht => e1.2.1 j hp.2.1 (by omega) (by omega) (xAr_ne hP1.2.2.1 hj ht))
  have hv2 : ∀ j, j < M.1 → j ≠ 16 → j ≠ 22 → j ≠ es → M'.2 j = M.2 j := fun j a b c d => (e1.2.1 j (by omega) b c (by omega)).trans (ho1 j a b c d)
  have hN2 : xNmd M' va cu := by
      obtain ⟨nm, z1, z2⟩ := hNmd
      exact ⟨nm, (hv2 19 (by omega) (by decide) (by decide) (xAr_19 hStp.2.2.1)).trans z1, z2⟩
  have hin : ∀ s t, s < 128 → t < 128 → ¬ (cmpl li (sn + 1) (xsealF f (nI sn), upd le sn 0, sn + 1, tk) 0).1.1 s = -1 → ¬ (cmpl li (sn + 1) (xsealF f (nI sn), upd le sn 0, sn + 1, tk) 0).1.1 t = -1 → va s = va t → s = t := fun s t a b c d e9 => hInj s t a b (xseal_u (cmpl_u _ _ _ _ _ _ hq9 c)) (xseal_u (cmpl_u _ _ _ _ _ _ hq9 d)) e9
  have hip : xIp (cmpl li (sn + 1) (xsealF f (nI sn), upd le sn 0, sn + 1, tk) 0).1.1 li cu := xIp_f hIp (fun s a b c => cmpl_live b _ _ _ _ _ _ hq9 (by
      by_cases q : f s = 99
      · rw [← xseal_t q]
        exact fun z => xneg1 (show sn < 2 ^ 31 by omega) z.symm
      · rw [← xseal_f q]
        exact c))
  have hov : ([] : List Nat).Perm ((xsl (cmpl li (sn + 1) (xsealF f (nI sn), upd le sn 0, sn + 1, tk) 0).1.1 99).map va) := by
      rw [xsl_99 (fun s => cmpl_99 _ _ _ _ _ _ hq9), xOv_seal (show sn < 64 by omega)]
      exact List.Perm.refl _
  refine xj_iload_n (i := 1) d1_17_55 rfl rfl ?_
  exact xj_ret d1_17_56 (by omega) (by omega) rfl ⟨rfl, by omega, fun j a b c d e9 => hv2 j b (by omega) d (fun q => xno hea9 q e9 (by omega)), n', va, S', T', e, n' + 1, 0, e3, xStp_sv hxn hP1 e1, hV2, hN2, e1.2.2.2.2.1, hov, hip, hin, e1.2.2.2.2.2.2, by simp, 0, xLvl_nil e2 0, by simp⟩

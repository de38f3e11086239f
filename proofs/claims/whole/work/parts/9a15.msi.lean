theorem rSetU {G : xG} (hg : xGood G) (hxn : xn = 16) {dl pl vc tk hc sn : Nat} {y33 y36 y37 y38 y39 : Int32} {fp : Nat → Int32} {M0 M : xM} (h52 : 52 ≤ M0.1) {a : Nat} {A : List xNode} {t : List Nat × List Nat} {r : List (List Nat × List Nat)} (hR : mR dl pl vc tk hc sn y33 y36 y37 y38 y39 fp M0 M (a, 0, A, t :: r)) (ha : A.length + r.length + 1 ≤ a) {u v : Int32} {u1 v1 kk : Nat} (hu : u = nI (u1 + 32)) (hv : v = nI (v1 + 32)) (hv1 : v1 < 95) (huv : u1 + kk = v1 + 1) : XC G Y14_31 none 2 0 0 [.ref 24, .int u, .int v] M (fun w M' => w = none ∧ mR dl pl vc tk hc sn y33 y36 y37 y38 y39 fp M0 M' (pSetOf (a, 0, A, t :: r) u v)) := by
  subst hu
  subst hv
  exact rSet hg hxn h52 hR ha hv1 huv
theorem xspe_0 {c : Int32} (h : pSpe c) : ¬ c = 0 := by
  intro z
  rw [z] at h
  unfold pSpe at h
  revert h
  decide
set_option maxRecDepth 20000 in
set_option maxHeartbeats 1000000 in
theorem rSimpleE {G : xG} (hg : xGood G) (hxn : xn = 16) {dl pl vc tk hc sn : Nat} {y33 y36 y37 y38 y39 : Int32} {fp : Nat → Int32} {M0 M : xM} (h52 : 52 ≤ M0.1) (hpl : pl ≤ 24) (hPR : ∀ j, j < pl → ∃ u1, u1 < 95 ∧ fp j = nI (u1 + 32)) {a : Nat} {A : List xNode} {t : List Nat × List Nat} {r : List (List Nat × List Nat)} (hR0 : mR dl pl vc tk hc sn y33 y36 y37 y38 y39 fp M0 M (a, 0, A, t :: r)) (ha : A.length + r.length + 1 ≤ a) (hap : a ≤ pl) {c : Int32} {uc : Nat} (huc1 : uc < 95) (huc : c = nI (uc + 32)) (h0 : t.2 = []) : XC G Y14_39 none 6 0 0 [.ref 24, .int c] M (fun v M' => v = none ∧ mX dl pl vc tk hc sn y33 y36 y37 y38 y39 fp M0 M' (pSimple fp pl c (a, 0, A, t :: r))) := by
  obtain ⟨⟨i1, i2⟩, k32, np, kd, ch, nx, be, lo, hi, wt, cs, fP, lP, fB, lB, hnp, k24, k33, k34, k35, k36, k37, k38, k39, k40, k41, k42, k43, k44, hA, hW⟩ := id hR0
  subst hnp
  replace k24 : M.2 24 = (.inr (12, [.ref 25, .ref 26, .ref 27, .ref 28, .ref 29, .ref 30, .int (nI sn), .int (nI vc), .int (nI tk), .ref 31, .int (nI dl), .ref 32, .int (nI pl), .int (nI A.length), .ref 33, .ref 34, .ref 35, .ref 36, .ref 37, .ref 38, .ref 39, .ref 40, .int (nI a), .int (nI r.length), .int 0, .ref 41, .ref 42, .ref 43, .ref 44, .ref 45, .ref 46, .ref 47, .ref 48, .int y33, .ref 49, .ref 50, .int y36, .int y37, .int y38, .int y39, .int (nI hc), .ref 51])) := k24
  obtain ⟨g1, g2, g3⟩ := pW_tag hW
  obtain ⟨n, hn⟩ : ∃ n, M.1 = n := ⟨_, rfl⟩
  have hn2 : 52 ≤ n := by omega
  have hb2 : fP r.length < 0 := by
    rw [(mA_bare hA h0).1]
    decide
  refine xc_of hg (by decide) (Nat.le_of_ble_eq_true rfl) (Or.inr (Or.inr (Or.inr (Or.inr (Or.inl ⟨rfl, rfl, fun v M' h => h.1⟩))))) ?_
  refine xj_iload_n (i := 1) d14_39_0 rfl rfl ?_
  refine xj_bipush (v := 92) d14_39_1 (by decide) ?_
  refine xj_icmp_ne (tgt := 47) d14_39_3 rfl (fun s1 => ?_) (fun s1 => ?_)
  · refine xj_iload_n (i := 1) d14_39_47 rfl rfl ?_
    refine xj_bipush (v := 94) d14_39_48 (by decide) ?_
    refine xj_icmp_eq (tgt := 59) d14_39_50 rfl (fun s3 => ?_) (fun s3 => ?_)
    · refine xj_aload_n (i := 0) d14_39_59 rfl rfl ?_
      refine xj_iload_n (i := 1) d14_39_60 rfl rfl ?_
      refine xj_bipush (v := 94) d14_39_61 (by decide) ?_
      refine xj_icmp_ne (tgt := 70) d14_39_63 rfl (fun h => absurd s3 h) (fun _ => ?_)
      refine xj_iconst (v := 2) d14_39_66 (by decide) ?_
      refine xj_goto (tgt := 71) d14_39_67 rfl ?_
      refine xj_iconst (v := 1) d14_39_71 (by decide) ?_
      refine xj_callV (rest := []) (As := [.int 2, .int 1]) (b := 24) (mPart hg (M := M) (n := n) (dl := dl) (pl := pl) (vc := vc) (tk := tk) (hc := hc) (sn := sn) (y24 := 0) (y33 := y33) (y36 := y36) (y37 := y37) (y38 := y38) (y39 := y39) (np := A.length) (a := a) (dp := r.length) (kd := kd) (wt := wt) (ch := ch) (nx := nx) (cs := cs) (kk := 2) (w := 1) (show M.1 = n by omega) (by omega) (by omega) (by omega) k24 (by omega) (by omega) k33 (by omega) (by omega) k39 (by omega) (by omega) k34 (by omega) (by omega) k35 (by omega) (by omega) k40 hxn hn2 (by omega)) d14_39_72 wd14_20 k24 (by omega) (show 24 < M.1 by omega) rfl s14_20 w1232 (Or.inl w1230) rfl rfl (Nat.le_of_ble_eq_true rfl) (by omega) (by omega) (by omega) ?_
      rintro v M1 ⟨rfl, hs1, ho1, hf1_0, hf1_1, hf1_2, hf1_3, hf1_4, hf1_5⟩
      replace hs1 : M1.1 = n := hs1
      replace hf1_0 : M1.2 33 = (.inl (0, 30, .inl (upd kd A.length 2))) := hf1_0
      replace hf1_1 : M1.2 39 = (.inl (0, 30, .inl (upd wt A.length 1))) := hf1_1
      replace hf1_2 : M1.2 34 = (.inl (0, 30, .inl (upd ch A.length (-1)))) := hf1_2
      replace hf1_3 : M1.2 35 = (.inl (0, 30, .inl (upd nx A.length (-1)))) := hf1_3
      replace hf1_4 : M1.2 40 = (.inl (2, 2850, .inl (va_cpy (fun _ => 0) cs 0 (95 * A.length) 95))) := hf1_4
      replace hf1_5 : M1.2 24 = (.inr (12, [.ref 25, .ref 26, .ref 27, .ref 28, .ref 29, .ref 30, .int (nI sn), .int (nI vc), .int (nI tk), .ref 31, .int (nI dl), .ref 32, .int (nI pl), .int (nI (A.length + 1)), .ref 33, .ref 34, .ref 35, .ref 36, .ref 37, .ref 38, .ref 39, .ref 40, .int (nI a), .int (nI r.length), .int 0, .ref 41, .ref 42, .ref 43, .ref 44, .ref 45, .ref 46, .ref 47, .ref 48, .int y33, .ref 49, .ref 50, .int y36, .int y37, .int y38, .int y39, .int (nI hc), .ref 51])) := hf1_5
      refine xj_istore_n (i := 2) (L' := [(2, .int (nI A.length)), (0, .ref 24), (1, .int c)]) d14_39_75 rfl (by decide) rfl ?_
      refine xj_aload_n (i := 0) d14_39_76 rfl rfl ?_
      refine xj_iload_n (i := 2) d14_39_77 rfl rfl ?_
      refine xj_callV (rest := []) (As := [.int (nI A.length)]) (b := 24) (mAddPE hg (M := M1) (n := n) (dl := dl) (pl := pl) (vc := vc) (tk := tk) (hc := hc) (sn := sn) (y24 := 0) (y33 := y33) (y36 := y36) (y37 := y37) (y38 := y38) (y39 := y39) (np := A.length + 1) (a := a) (dp := r.length) (be := be) (fP := fP) (lP := lP) (nx := upd nx A.length (-1)) (m := A.length) (show M1.1 = n by omega) (by omega) (by omega) (by omega) hf1_5 (by omega) (by omega) ((ho1 36 (by omega) (by omega) (by omega) (by omega) (by omega) (by omega) (by omega)).trans k36) (by omega) (by omega) ((ho1 41 (by omega) (by omega) (by omega) (by omega) (by omega) (by omega) (by omega)).trans k41) (by omega) (by omega) ((ho1 42 (by omega) (by omega) (by omega) (by omega) (by omega) (by omega) (by omega)).trans k42) (by omega) (by omega) hf1_3 hxn hn2 (by omega) (by omega) hb2) d14_39_78 wd14_22 hf1_5 (by omega) (show 24 < M1.1 by omega) rfl s14_22 w1240 (Or.inl w1238) rfl rfl (Nat.le_of_ble_eq_true rfl) (by omega) (by omega) (by omega) ?_
      rintro v M2 ⟨rfl, hs2, ho2, hf2_0, hf2_1, hf2_2⟩
      replace hs2 : M2.1 = n := hs2
      replace hf2_0 : M2.2 36 = (.inl (0, 30, .inl (upd be A.length (lP r.length)))) := hf2_0
      replace hf2_1 : M2.2 41 = (.inl (0, 7, .inl (upd fP r.length (nI A.length)))) := hf2_1
      replace hf2_2 : M2.2 42 = (.inl (0, 7, .inl (upd lP r.length (nI A.length)))) := hf2_2
      refine xj_goto (tgt := 120) d14_39_81 rfl ?_
      have hq : pSimple fp pl c (a, 0, A, t :: r) = pPiece (a, 0, A, t :: r) (2, 1, [], 0, 0, pNo) := (if_neg s1).trans ((if_pos (Or.inl s3)).trans (congrArg (fun z => pPiece (a, 0, A, t :: r) (z, 1, [], 0, 0, pNo)) (if_pos s3)))
      refine xj_ret d14_39_120 (by omega) (by omega) rfl ⟨rfl, ?_⟩
      rw [hq]
      refine ⟨fun _ => ⟨⟨(show M2.1 = M0.1 by omega), fun j h1 h2 h3 => ((ho2 j (by omega) (by omega) (by omega) (by omega)).trans (ho1 j (by omega) (by omega) (by omega) (by omega) (by omega) (by omega) (by omega))).trans (i2 j h1 h2 h3)⟩, ((ho2 32 (by omega) (by omega) (by omega) (by omega)).trans (ho1 32 (by omega) (by omega) (by omega) (by omega) (by omega) (by omega) (by omega))).trans k32, A.length + 1, (upd kd A.length 2), (upd ch A.length (-1)), (upd nx A.length (-1)), (upd be A.length (lP r.length)), lo, hi, (upd wt A.length 1), (va_cpy (fun _ => 0) cs 0 (95 * A.length) 95), (upd fP r.length (nI A.length)), (upd lP r.length (nI A.length)), fB, lB, xlen1 A _, ((ho2 24 (by omega) (by omega) (by omega) (by omega)).trans hf1_5), ((ho2 33 (by omega) (by omega) (by omega) (by omega)).trans hf1_0), ((ho2 34 (by omega) (by omega) (by omega) (by omega)).trans hf1_2), ((ho2 35 (by omega) (by omega) (by omega) (by omega)).trans hf1_3), hf2_0, ((ho2 37 (by omega) (by omega) (by omega) (by omega)).trans ((ho1 37 (by omega) (by omega) (by omega) (by omega) (by omega) (by omega) (by omega)).trans k37)), ((ho2 38 (by omega) (by omega) (by omega) (by omega)).trans ((ho1 38 (by omega) (by omega) (by omega) (by omega) (by omega) (by omega) (by omega)).trans k38)), ((ho2 39 (by omega) (by omega) (by omega) (by omega)).trans hf1_1), ((ho2 40 (by omega) (by omega) (by omega) (by omega)).trans hf1_4), hf2_1, hf2_2, ((ho2 43 (by omega) (by omega) (by omega) (by omega)).trans ((ho1 43 (by omega) (by omega) (by omega) (by omega) (by omega) (by omega) (by omega)).trans k43)), ((ho2 44 (by omega) (by omega) (by omega) (by omega)).trans ((ho1 44 (by omega) (by omega) (by omega) (by omega) (by omega) (by omega) (by omega)).trans k44)), ?_, ?_⟩, fun q => absurd rfl q⟩
      · exact mA_pcE hA hW h0 (fun i hi => ⟨if_neg (by omega), if_neg (by omega), if_neg (by omega), fun c hc => by rw [va_cpy, if_neg (by omega)]⟩) ⟨if_pos rfl, if_pos rfl, fun z => absurd z (show ¬ (2 : Nat) = 1 by decide), fun z => absurd z (show ¬ (2 : Nat) = 4 by decide), fun z => absurd z (show ¬ 5 ≤ 2 by decide)⟩
      · exact pW_leaf hW rfl ha g2
    · refine xj_iload_n (i := 1) d14_39_53 rfl rfl ?_
      refine xj_bipush (v := 36) d14_39_54 (by decide) ?_
      refine xj_icmp_ne (tgt := 84) d14_39_56 rfl (fun s4 => ?_) (fun s4 => ?_)
      · refine xj_iload_n (i := 1) d14_39_84 rfl rfl ?_
        refine xj_bipush (v := 91) d14_39_85 (by decide) ?_
        refine xj_icmp_ne (tgt := 97) d14_39_87 rfl (fun s5 => ?_) (fun s5 => ?_)
        · refine xj_iload_n (i := 1) d14_39_97 rfl rfl ?_
          refine xj_bipush (v := 46) d14_39_98 (by decide) ?_
          refine xj_icmp_ne (tgt := 114) d14_39_100 rfl (fun s6 => ?_) (fun s6 => ?_)
          · refine xj_aload_n (i := 0) d14_39_114 rfl rfl ?_
            refine xj_iload_n (i := 1) d14_39_115 rfl rfl ?_
            refine xj_iload_n (i := 1) d14_39_116 rfl rfl ?_
            refine xj_callV (rest := []) (As := [.int c, .int c]) (b := 24) (rSetU hg hxn h52 (a := a) (u := c) (v := c) hR0 (by omega) (u1 := uc) (v1 := uc) (kk := 1) huc huc huc1 (by omega)) d14_39_117 wd14_31 k24 (by omega) (show 24 < M.1 by omega) rfl s14_31 w1266 (Or.inl w1264) rfl rfl (Nat.le_of_ble_eq_true rfl) (by omega) (by omega) (by omega) ?_
            rintro v M8 ⟨rfl, hR8⟩
            have hq : pSimple fp pl c (a, 0, A, t :: r) = pSetOf (a, 0, A, t :: r) (c) (c) := (if_neg s1).trans ((if_neg (fun q => q.elim s3 s4)).trans ((if_neg s5).trans (if_neg s6)))
            refine xj_ret d14_39_120 (by omega) (by omega) rfl ⟨rfl, ?_⟩
            rw [hq]
            exact ⟨fun _ => hR8, fun q => absurd rfl q⟩
          · refine xj_aload_n (i := 0) d14_39_103 rfl rfl ?_
            refine xj_bipush (v := 32) d14_39_104 (by decide) ?_
            refine xj_bipush (v := 126) d14_39_106 (by decide) ?_
            refine xj_callV (rest := []) (As := [.int 32, .int 126]) (b := 24) (rSetU hg hxn h52 (a := a) (u := 32) (v := 126) hR0 (by omega) (u1 := 0) (v1 := 94) (kk := 95) (by decide) (by decide) (by decide) (by decide)) d14_39_108 wd14_31 k24 (by omega) (show 24 < M.1 by omega) rfl s14_31 w1266 (Or.inl w1264) rfl rfl (Nat.le_of_ble_eq_true rfl) (by omega) (by omega) (by omega) ?_
            rintro v M8 ⟨rfl, hR8⟩
            refine xj_goto (tgt := 120) d14_39_111 rfl ?_
            have hq : pSimple fp pl c (a, 0, A, t :: r) = pSetOf (a, 0, A, t :: r) (32) (126) := (if_neg s1).trans ((if_neg (fun q => q.elim s3 s4)).trans ((if_neg s5).trans (if_pos s6)))
            refine xj_ret d14_39_120 (by omega) (by omega) rfl ⟨rfl, ?_⟩
            rw [hq]
            exact ⟨fun _ => hR8, fun q => absurd rfl q⟩
        · refine xj_aload_n (i := 0) d14_39_90 rfl rfl ?_
          refine xj_callV (rest := []) (As := []) (b := 24) (rBracket hg hxn h52 hpl hPR hR0 ha hap) d14_39_91 wd14_36 k24 (by omega) (show 24 < M.1 by omega) rfl s14_36 w1270 (Or.inl w1268) rfl rfl (Nat.le_of_ble_eq_true rfl) (by omega) (by omega) (by omega) ?_
          rintro v M8 ⟨rfl, hX8⟩
          refine xj_goto (tgt := 120) d14_39_94 rfl ?_
          have hq : pSimple fp pl c (a, 0, A, t :: r) = pBracket fp pl (a, 0, A, t :: r) := (if_neg s1).trans ((if_neg (fun q => q.elim s3 s4)).trans (if_pos s5))
          refine xj_ret d14_39_120 (by omega) (by omega) rfl ⟨rfl, ?_⟩
          rw [hq]
          exact hX8
      · refine xj_aload_n (i := 0) d14_39_59 rfl rfl ?_
        refine xj_iload_n (i := 1) d14_39_60 rfl rfl ?_
        refine xj_bipush (v := 94) d14_39_61 (by decide) ?_
        refine xj_icmp_ne (tgt := 70) d14_39_63 rfl (fun _ => ?_) (fun h => absurd h s3)
        refine xj_iconst (v := 3) d14_39_70 (by decide) ?_
        refine xj_iconst (v := 1) d14_39_71 (by decide) ?_
        refine xj_callV (rest := []) (As := [.int 3, .int 1]) (b := 24) (mPart hg (M := M) (n := n) (dl := dl) (pl := pl) (vc := vc) (tk := tk) (hc := hc) (sn := sn) (y24 := 0) (y33 := y33) (y36 := y36) (y37 := y37) (y38 := y38) (y39 := y39) (np := A.length) (a := a) (dp := r.length) (kd := kd) (wt := wt) (ch := ch) (nx := nx) (cs := cs) (kk := 3) (w := 1) (show M.1 = n by omega) (by omega) (by omega) (by omega) k24 (by omega) (by omega) k33 (by omega) (by omega) k39 (by omega) (by omega) k34 (by omega) (by omega) k35 (by omega) (by omega) k40 hxn hn2 (by omega)) d14_39_72 wd14_20 k24 (by omega) (show 24 < M.1 by omega) rfl s14_20 w1232 (Or.inl w1230) rfl rfl (Nat.le_of_ble_eq_true rfl) (by omega) (by omega) (by omega) ?_
        rintro v M3 ⟨rfl, hs3, ho3, hf3_0, hf3_1, hf3_2, hf3_3, hf3_4, hf3_5⟩
        replace hs3 : M3.1 = n := hs3
        replace hf3_0 : M3.2 33 = (.inl (0, 30, .inl (upd kd A.length 3))) := hf3_0
        replace hf3_1 : M3.2 39 = (.inl (0, 30, .inl (upd wt A.length 1))) := hf3_1
        replace hf3_2 : M3.2 34 = (.inl (0, 30, .inl (upd ch A.length (-1)))) := hf3_2
        replace hf3_3 : M3.2 35 = (.inl (0, 30, .inl (upd nx A.length (-1)))) := hf3_3
        replace hf3_4 : M3.2 40 = (.inl (2, 2850, .inl (va_cpy (fun _ => 0) cs 0 (95 * A.length) 95))) := hf3_4
        replace hf3_5 : M3.2 24 = (.inr (12, [.ref 25, .ref 26, .ref 27, .ref 28, .ref 29, .ref 30, .int (nI sn), .int (nI vc), .int (nI tk), .ref 31, .int (nI dl), .ref 32, .int (nI pl), .int (nI (A.length + 1)), .ref 33, .ref 34, .ref 35, .ref 36, .ref 37, .ref 38, .ref 39, .ref 40, .int (nI a), .int (nI r.length), .int 0, .ref 41, .ref 42, .ref 43, .ref 44, .ref 45, .ref 46, .ref 47, .ref 48, .int y33, .ref 49, .ref 50, .int y36, .int y37, .int y38, .int y39, .int (nI hc), .ref 51])) := hf3_5
        refine xj_istore_n (i := 2) (L' := [(2, .int (nI A.length)), (0, .ref 24), (1, .int c)]) d14_39_75 rfl (by decide) rfl ?_
        refine xj_aload_n (i := 0) d14_39_76 rfl rfl ?_
        refine xj_iload_n (i := 2) d14_39_77 rfl rfl ?_
        refine xj_callV (rest := []) (As := [.int (nI A.length)]) (b := 24) (mAddPE hg (M := M3) (n := n) (dl := dl) (pl := pl) (vc := vc) (tk := tk) (hc := hc) (sn := sn) (y24 := 0) (y33 := y33) (y36 := y36) (y37 := y37) (y38 := y38) (y39 := y39) (np := A.length + 1) (a := a) (dp := r.length) (be := be) (fP := fP) (lP := lP) (nx := upd nx A.length (-1)) (m := A.length) (show M3.1 = n by omega) (by omega) (by omega) (by omega) hf3_5 (by omega) (by omega) ((ho3 36 (by omega) (by omega) (by omega) (by omega) (by omega) (by omega) (by omega)).trans k36) (by omega) (by omega) ((ho3 41 (by omega) (by omega) (by omega) (by omega) (by omega) (by omega) (by omega)).trans k41) (by omega) (by omega) ((ho3 42 (by omega) (by omega) (by omega) (by omega) (by omega) (by omega) (by omega)).trans k42) (by omega) (by omega) hf3_3 hxn hn2 (by omega) (by omega) hb2) d14_39_78 wd14_22 hf3_5 (by omega) (show 24 < M3.1 by omega) rfl s14_22 w1240 (Or.inl w1238) rfl rfl (Nat.le_of_ble_eq_true rfl) (by omega) (by omega) (by omega) ?_
        rintro v M4 ⟨rfl, hs4, ho4, hf4_0, hf4_1, hf4_2⟩
        replace hs4 : M4.1 = n := hs4
        replace hf4_0 : M4.2 36 = (.inl (0, 30, .inl (upd be A.length (lP r.length)))) := hf4_0
        replace hf4_1 : M4.2 41 = (.inl (0, 7, .inl (upd fP r.length (nI A.length)))) := hf4_1
        replace hf4_2 : M4.2 42 = (.inl (0, 7, .inl (upd lP r.length (nI A.length)))) := hf4_2
        refine xj_goto (tgt := 120) d14_39_81 rfl ?_
        have hq : pSimple fp pl c (a, 0, A, t :: r) = pPiece (a, 0, A, t :: r) (3, 1, [], 0, 0, pNo) := (if_neg s1).trans ((if_pos (Or.inr s4)).trans (congrArg (fun z => pPiece (a, 0, A, t :: r) (z, 1, [], 0, 0, pNo)) (if_neg s3)))
        refine xj_ret d14_39_120 (by omega) (by omega) rfl ⟨rfl, ?_⟩
        rw [hq]
        refine ⟨fun _ => ⟨⟨(show M4.1 = M0.1 by omega), fun j h1 h2 h3 => ((ho4 j (by omega) (by omega) (by omega) (by omega)).trans (ho3 j (by omega) (by omega) (by omega) (by omega) (by omega) (by omega) (by omega))).trans (i2 j h1 h2 h3)⟩, ((ho4 32 (by omega) (by omega) (by omega) (by omega)).trans (ho3 32 (by omega) (by omega) (by omega) (by omega) (by omega) (by omega) (by omega))).trans k32, A.length + 1, (upd kd A.length 3), (upd ch A.length (-1)), (upd nx A.length (-1)), (upd be A.length (lP r.length)), lo, hi, (upd wt A.length 1), (va_cpy (fun _ => 0) cs 0 (95 * A.length) 95), (upd fP r.length (nI A.length)), (upd lP r.length (nI A.length)), fB, lB, xlen1 A _, ((ho4 24 (by omega) (by omega) (by omega) (by omega)).trans hf3_5), ((ho4 33 (by omega) (by omega) (by omega) (by omega)).trans hf3_0), ((ho4 34 (by omega) (by omega) (by omega) (by omega)).trans hf3_2), ((ho4 35 (by omega) (by omega) (by omega) (by omega)).trans hf3_3), hf4_0, ((ho4 37 (by omega) (by omega) (by omega) (by omega)).trans ((ho3 37 (by omega) (by omega) (by omega) (by omega) (by omega) (by omega) (by omega)).trans k37)), ((ho4 38 (by omega) (by omega) (by omega) (by omega)).trans ((ho3 38 (by omega) (by omega) (by omega) (by omega) (by omega) (by omega) (by omega)).trans k38)), ((ho4 39 (by omega) (by omega) (by omega) (by omega)).trans hf3_1), ((ho4 40 (by omega) (by omega) (by omega) (by omega)).trans hf3_4), hf4_1, hf4_2, ((ho4 43 (by omega) (by omega) (by omega) (by omega)).trans ((ho3 43 (by omega) (by omega) (by omega) (by omega) (by omega) (by omega) (by omega)).trans k43)), ((ho4 44 (by omega) (by omega) (by omega) (by omega)).trans ((ho3 44 (by omega) (by omega) (by omega) (by omega) (by omega) (by omega) (by omega)).trans k44)), ?_, ?_⟩, fun q => absurd rfl q⟩
        · exact mA_pcE hA hW h0 (fun i hi => ⟨if_neg (by omega), if_neg (by omega), if_neg (by omega), fun c hc => by rw [va_cpy, if_neg (by omega)]⟩) ⟨if_pos rfl, if_pos rfl, fun z => absurd z (show ¬ (3 : Nat) = 1 by decide), fun z => absurd z (show ¬ (3 : Nat) = 4 by decide), fun z => absurd z (show ¬ 5 ≤ 3 by decide)⟩
        · exact pW_leaf hW rfl ha g2
  · refine xj_aload_n (i := 0) d14_39_6 rfl rfl ?_
    refine xj_iconst (v := 0) d14_39_7 (by decide) ?_
    refine xj_callV (rest := []) (As := [.int 0]) (b := 24) (mAhead0 hg (M := M) (n := n) (dl := dl) (pl := pl) (vc := vc) (tk := tk) (hc := hc) (sn := sn) (y24 := 0) (y33 := y33) (y36 := y36) (y37 := y37) (y38 := y38) (y39 := y39) (np := A.length) (a := a) (dp := r.length) (fp := fp) (show M.1 = n by omega) (by omega) (by omega) (by omega) k24 (by omega) (by omega) k32 (by omega) hpl) d14_39_8 wd14_19 k24 (by omega) (show 24 < M.1 by omega) rfl s14_19 w1216 (Or.inl w1214) rfl rfl (Nat.le_of_ble_eq_true rfl) (by omega) (by omega) (by omega) ?_
    rintro v M' ⟨rfl, hm⟩
    subst M'
    refine xj_istore_n (i := 2) (L' := [(2, .int (pch fp pl a)), (0, .ref 24), (1, .int c)]) d14_39_11 rfl (by decide) rfl ?_
    refine xj_iload_n (i := 2) d14_39_12 rfl rfl ?_
    refine xj_callS (rest := []) (As := [.int (pch fp pl a)]) (mSpecial hg (M := M) (n := n) (c := pch fp pl a) (show M.1 = n by omega) (by omega) ) d14_39_13 wd14_30 w1262 (Or.inl w1261) rfl rfl (Nat.le_of_ble_eq_true rfl) (by omega) (by omega) (by omega) ?_
    rintro v M' ⟨rfl, hm⟩
    subst M'
    refine xj_if_eq (tgt := 38) d14_39_16 rfl (fun s2 => ?_) (fun s2 => ?_)
    · refine xj_aload_n (i := 0) d14_39_38 rfl rfl ?_
      refine xj_bipush (v := 7) d14_39_39 (by decide) ?_
      refine xj_put (a := 24) (fs' := [.ref 25, .ref 26, .ref 27, .ref 28, .ref 29, .ref 30, .int (nI sn), .int (nI vc), .int (nI tk), .ref 31, .int (nI dl), .ref 32, .int (nI pl), .int (nI A.length), .ref 33, .ref 34, .ref 35, .ref 36, .ref 37, .ref 38, .ref 39, .ref 40, .int (nI a), .int (nI r.length), .int 7, .ref 41, .ref 42, .ref 43, .ref 44, .ref 45, .ref 46, .ref 47, .ref 48, .int y33, .ref 49, .ref 50, .int y36, .int y37, .int y38, .int y39, .int (nI hc), .ref 51]) d14_39_41 f14_156_12 k24 (by omega) (show 24 < M.1 by omega) (Nat.le_of_ble_eq_true rfl) rfl rfl rfl ?_
      refine xj_abs_set (fun M5 hs5 ha5 ho5 => ?_)
      refine xj_goto (tgt := 120) d14_39_44 rfl ?_
      have hq : pSimple fp pl c (a, 0, A, t :: r) = pFau (a, 0, A, t :: r) 7 := (if_pos s1).trans (if_neg (xB_n s2))
      refine xj_ret d14_39_120 (by omega) (by omega) rfl ⟨rfl, ?_⟩
      rw [hq]
      exact ⟨fun q => absurd q (show ¬ (7 : Int32) = 0 by decide), fun _ => mR_fa hR0 (show M5.1 = M.1 by omega) (fun j hj => (ho5 j (by omega))) ha5⟩
    · refine xj_aload_n (i := 0) d14_39_19 rfl rfl ?_
      refine xj_dup d14_39_20 rfl ?_
      refine xj_get d14_39_21 f14_133_12 k24 (by omega) (show 24 < M.1 by omega) rfl ?_
      refine xj_iconst (v := 1) d14_39_24 (by decide) ?_
      refine xj_iadd (v := nI (a + 1)) d14_39_25 (nI_1 a) ?_
      refine xj_put (a := 24) (fs' := [.ref 25, .ref 26, .ref 27, .ref 28, .ref 29, .ref 30, .int (nI sn), .int (nI vc), .int (nI tk), .ref 31, .int (nI dl), .ref 32, .int (nI pl), .int (nI A.length), .ref 33, .ref 34, .ref 35, .ref 36, .ref 37, .ref 38, .ref 39, .ref 40, .int (nI (a + 1)), .int (nI r.length), .int 0, .ref 41, .ref 42, .ref 43, .ref 44, .ref 45, .ref 46, .ref 47, .ref 48, .int y33, .ref 49, .ref 50, .int y36, .int y37, .int y38, .int y39, .int (nI hc), .ref 51]) d14_39_26 f14_133_12 k24 (by omega) (show 24 < M.1 by omega) (Nat.le_of_ble_eq_true rfl) rfl rfl rfl ?_
      refine xj_abs_set (fun M6 hs6 ha6 ho6 => ?_)
      have hapl : a < pl := pch_in rfl (xspe_0 (xB_y s2))
      obtain ⟨ux, hux1, hux2⟩ := hPR a hapl
      have hux : pch fp pl a = nI (ux + 32) := (if_pos hapl).trans hux2
      refine xj_aload_n (i := 0) d14_39_29 rfl rfl ?_
      refine xj_iload_n (i := 2) d14_39_30 rfl rfl ?_
      refine xj_iload_n (i := 2) d14_39_31 rfl rfl ?_
      refine xj_callV (rest := []) (As := [.int (pch fp pl a), .int (pch fp pl a)]) (b := 24) (rSetU hg hxn h52 (a := a + 1) (u := pch fp pl a) (v := pch fp pl a) (mR_at (k := 1) hR0 (show a + 1 ≤ 24 by omega) rfl (show M6.1 = M.1 by omega) (fun j hj => (ho6 j (by omega))) ha6) (by omega) (u1 := ux) (v1 := ux) (kk := 1) hux hux hux1 (by omega)) d14_39_32 wd14_31 ha6 (by omega) (show 24 < M6.1 by omega) rfl s14_31 w1266 (Or.inl w1264) rfl rfl (Nat.le_of_ble_eq_true rfl) (by omega) (by omega) (by omega) ?_
      rintro v M8 ⟨rfl, hR8⟩
      refine xj_goto (tgt := 44) d14_39_35 rfl ?_
      refine xj_goto (tgt := 120) d14_39_44 rfl ?_
      have hq : pSimple fp pl c (a, 0, A, t :: r) = pSetOf (pAt (a, 0, A, t :: r) 1) (pch fp pl a) (pch fp pl a) := (if_pos s1).trans (if_pos (xB_y s2))
      refine xj_ret d14_39_120 (by omega) (by omega) rfl ⟨rfl, ?_⟩
      rw [hq]
      exact ⟨fun _ => hR8, fun q => absurd rfl q⟩
set_option maxRecDepth 20000 in
set_option maxHeartbeats 1000000 in
theorem rSimpleN {G : xG} (hg : xGood G) (hxn : xn = 16) {dl pl vc tk hc sn : Nat} {y33 y36 y37 y38 y39 : Int32} {fp : Nat → Int32} {M0 M : xM} (h52 : 52 ≤ M0.1) (hpl : pl ≤ 24) (hPR : ∀ j, j < pl → ∃ u1, u1 < 95 ∧ fp j = nI (u1 + 32)) {a : Nat} {A : List xNode} {t : List Nat × List Nat} {r : List (List Nat × List Nat)} (hR0 : mR dl pl vc tk hc sn y33 y36 y37 y38 y39 fp M0 M (a, 0, A, t :: r)) (ha : A.length + r.length + 1 ≤ a) (hap : a ≤ pl) {c : Int32} {uc : Nat} (huc1 : uc < 95) (huc : c = nI (uc + 32)) (h0 : ¬ t.2 = []) : XC G Y14_39 none 6 0 0 [.ref 24, .int c] M (fun v M' => v = none ∧ mX dl pl vc tk hc sn y33 y36 y37 y38 y39 fp M0 M' (pSimple fp pl c (a, 0, A, t :: r))) := by
  obtain ⟨⟨i1, i2⟩, k32, np, kd, ch, nx, be, lo, hi, wt, cs, fP, lP, fB, lB, hnp, k24, k33, k34, k35, k36, k37, k38, k39, k40, k41, k42, k43, k44, hA, hW⟩ := id hR0
  subst hnp
  replace k24 : M.2 24 = (.inr (12, [.ref 25, .ref 26, .ref 27, .ref 28, .ref 29, .ref 30, .int (nI sn), .int (nI vc), .int (nI tk), .ref 31, .int (nI dl), .ref 32, .int (nI pl), .int (nI A.length), .ref 33, .ref 34, .ref 35, .ref 36, .ref 37, .ref 38, .ref 39, .ref 40, .int (nI a), .int (nI r.length), .int 0, .ref 41, .ref 42, .ref 43, .ref 44, .ref 45, .ref 46, .ref 47, .ref 48, .int y33, .ref 49, .ref 50, .int y36, .int y37, .int y38, .int y39, .int (nI hc), .ref 51])) := k24
  obtain ⟨g1, g2, g3⟩ := pW_tag hW
  obtain ⟨n, hn⟩ : ∃ n, M.1 = n := ⟨_, rfl⟩
  have hn2 : 52 ≤ n := by omega
  obtain ⟨ll, hl1, hl2, hl3, hb2⟩ := mA_last hA hW h0
  refine xc_of hg (by decide) (Nat.le_of_ble_eq_true rfl) (Or.inr (Or.inr (Or.inr (Or.inr (Or.inl ⟨rfl, rfl, fun v M' h => h.1⟩))))) ?_
  refine xj_iload_n (i := 1) d14_39_0 rfl rfl ?_
  refine xj_bipush (v := 92) d14_39_1 (by decide) ?_
  refine xj_icmp_ne (tgt := 47) d14_39_3 rfl (fun s1 => ?_) (fun s1 => ?_)
  · refine xj_iload_n (i := 1) d14_39_47 rfl rfl ?_
    refine xj_bipush (v := 94) d14_39_48 (by decide) ?_
    refine xj_icmp_eq (tgt := 59) d14_39_50 rfl (fun s3 => ?_) (fun s3 => ?_)
    · refine xj_aload_n (i := 0) d14_39_59 rfl rfl ?_
      refine xj_iload_n (i := 1) d14_39_60 rfl rfl ?_
      refine xj_bipush (v := 94) d14_39_61 (by decide) ?_
      refine xj_icmp_ne (tgt := 70) d14_39_63 rfl (fun h => absurd s3 h) (fun _ => ?_)
      refine xj_iconst (v := 2) d14_39_66 (by decide) ?_
      refine xj_goto (tgt := 71) d14_39_67 rfl ?_
      refine xj_iconst (v := 1) d14_39_71 (by decide) ?_
      refine xj_callV (rest := []) (As := [.int 2, .int 1]) (b := 24) (mPart hg (M := M) (n := n) (dl := dl) (pl := pl) (vc := vc) (tk := tk) (hc := hc) (sn := sn) (y24 := 0) (y33 := y33) (y36 := y36) (y37 := y37) (y38 := y38) (y39 := y39) (np := A.length) (a := a) (dp := r.length) (kd := kd) (wt := wt) (ch := ch) (nx := nx) (cs := cs) (kk := 2) (w := 1) (show M.1 = n by omega) (by omega) (by omega) (by omega) k24 (by omega) (by omega) k33 (by omega) (by omega) k39 (by omega) (by omega) k34 (by omega) (by omega) k35 (by omega) (by omega) k40 hxn hn2 (by omega)) d14_39_72 wd14_20 k24 (by omega) (show 24 < M.1 by omega) rfl s14_20 w1232 (Or.inl w1230) rfl rfl (Nat.le_of_ble_eq_true rfl) (by omega) (by omega) (by omega) ?_
      rintro v M1 ⟨rfl, hs1, ho1, hf1_0, hf1_1, hf1_2, hf1_3, hf1_4, hf1_5⟩
      replace hs1 : M1.1 = n := hs1
      replace hf1_0 : M1.2 33 = (.inl (0, 30, .inl (upd kd A.length 2))) := hf1_0
      replace hf1_1 : M1.2 39 = (.inl (0, 30, .inl (upd wt A.length 1))) := hf1_1
      replace hf1_2 : M1.2 34 = (.inl (0, 30, .inl (upd ch A.length (-1)))) := hf1_2
      replace hf1_3 : M1.2 35 = (.inl (0, 30, .inl (upd nx A.length (-1)))) := hf1_3
      replace hf1_4 : M1.2 40 = (.inl (2, 2850, .inl (va_cpy (fun _ => 0) cs 0 (95 * A.length) 95))) := hf1_4
      replace hf1_5 : M1.2 24 = (.inr (12, [.ref 25, .ref 26, .ref 27, .ref 28, .ref 29, .ref 30, .int (nI sn), .int (nI vc), .int (nI tk), .ref 31, .int (nI dl), .ref 32, .int (nI pl), .int (nI (A.length + 1)), .ref 33, .ref 34, .ref 35, .ref 36, .ref 37, .ref 38, .ref 39, .ref 40, .int (nI a), .int (nI r.length), .int 0, .ref 41, .ref 42, .ref 43, .ref 44, .ref 45, .ref 46, .ref 47, .ref 48, .int y33, .ref 49, .ref 50, .int y36, .int y37, .int y38, .int y39, .int (nI hc), .ref 51])) := hf1_5
      refine xj_istore_n (i := 2) (L' := [(2, .int (nI A.length)), (0, .ref 24), (1, .int c)]) d14_39_75 rfl (by decide) rfl ?_
      refine xj_aload_n (i := 0) d14_39_76 rfl rfl ?_
      refine xj_iload_n (i := 2) d14_39_77 rfl rfl ?_
      refine xj_callV (rest := []) (As := [.int (nI A.length)]) (b := 24) (mAddPN hg (M := M1) (n := n) (dl := dl) (pl := pl) (vc := vc) (tk := tk) (hc := hc) (sn := sn) (y24 := 0) (y33 := y33) (y36 := y36) (y37 := y37) (y38 := y38) (y39 := y39) (np := A.length + 1) (a := a) (dp := r.length) (be := be) (fP := fP) (lP := lP) (nx := upd nx A.length (-1)) (m := A.length) (ll := ll) (show M1.1 = n by omega) (by omega) (by omega) (by omega) hf1_5 (by omega) (by omega) ((ho1 36 (by omega) (by omega) (by omega) (by omega) (by omega) (by omega) (by omega)).trans k36) (by omega) (by omega) ((ho1 41 (by omega) (by omega) (by omega) (by omega) (by omega) (by omega) (by omega)).trans k41) (by omega) (by omega) ((ho1 42 (by omega) (by omega) (by omega) (by omega) (by omega) (by omega) (by omega)).trans k42) (by omega) (by omega) hf1_3 hxn hn2 (by omega) (by omega) hb2 hl2 (by omega)) d14_39_78 wd14_22 hf1_5 (by omega) (show 24 < M1.1 by omega) rfl s14_22 w1240 (Or.inl w1238) rfl rfl (Nat.le_of_ble_eq_true rfl) (by omega) (by omega) (by omega) ?_
      rintro v M2 ⟨rfl, hs2, ho2, hf2_0, hf2_1, hf2_2⟩
      replace hs2 : M2.1 = n := hs2
      replace hf2_0 : M2.2 36 = (.inl (0, 30, .inl (upd be A.length (nI ll)))) := hf2_0
      replace hf2_1 : M2.2 35 = (.inl (0, 30, .inl (upd (upd nx A.length (-1)) ll (nI A.length)))) := hf2_1
      replace hf2_2 : M2.2 42 = (.inl (0, 7, .inl (upd lP r.length (nI A.length)))) := hf2_2
      refine xj_goto (tgt := 120) d14_39_81 rfl ?_
      have hq : pSimple fp pl c (a, 0, A, t :: r) = pPiece (a, 0, A, t :: r) (2, 1, [], 0, 0, pNo) := (if_neg s1).trans ((if_pos (Or.inl s3)).trans (congrArg (fun z => pPiece (a, 0, A, t :: r) (z, 1, [], 0, 0, pNo)) (if_pos s3)))
      refine xj_ret d14_39_120 (by omega) (by omega) rfl ⟨rfl, ?_⟩
      rw [hq]
      refine ⟨fun _ => ⟨⟨(show M2.1 = M0.1 by omega), fun j h1 h2 h3 => ((ho2 j (by omega) (by omega) (by omega) (by omega)).trans (ho1 j (by omega) (by omega) (by omega) (by omega) (by omega) (by omega) (by omega))).trans (i2 j h1 h2 h3)⟩, ((ho2 32 (by omega) (by omega) (by omega) (by omega)).trans (ho1 32 (by omega) (by omega) (by omega) (by omega) (by omega) (by omega) (by omega))).trans k32, A.length + 1, (upd kd A.length 2), (upd ch A.length (-1)), (upd (upd nx A.length (-1)) ll (nI A.length)), (upd be A.length (nI ll)), lo, hi, (upd wt A.length 1), (va_cpy (fun _ => 0) cs 0 (95 * A.length) 95), fP, (upd lP r.length (nI A.length)), fB, lB, xlen1 A _, ((ho2 24 (by omega) (by omega) (by omega) (by omega)).trans hf1_5), ((ho2 33 (by omega) (by omega) (by omega) (by omega)).trans hf1_0), ((ho2 34 (by omega) (by omega) (by omega) (by omega)).trans hf1_2), hf2_1, hf2_0, ((ho2 37 (by omega) (by omega) (by omega) (by omega)).trans ((ho1 37 (by omega) (by omega) (by omega) (by omega) (by omega) (by omega) (by omega)).trans k37)), ((ho2 38 (by omega) (by omega) (by omega) (by omega)).trans ((ho1 38 (by omega) (by omega) (by omega) (by omega) (by omega) (by omega) (by omega)).trans k38)), ((ho2 39 (by omega) (by omega) (by omega) (by omega)).trans hf1_1), ((ho2 40 (by omega) (by omega) (by omega) (by omega)).trans hf1_4), ((ho2 41 (by omega) (by omega) (by omega) (by omega)).trans ((ho1 41 (by omega) (by omega) (by omega) (by omega) (by omega) (by omega) (by omega)).trans k41)), hf2_2, ((ho2 43 (by omega) (by omega) (by omega) (by omega)).trans ((ho1 43 (by omega) (by omega) (by omega) (by omega) (by omega) (by omega) (by omega)).trans k43)), ((ho2 44 (by omega) (by omega) (by omega) (by omega)).trans ((ho1 44 (by omega) (by omega) (by omega) (by omega) (by omega) (by omega) (by omega)).trans k44)), ?_, ?_⟩, fun q => absurd rfl q⟩
      · exact mA_pcN hA hW hl1 hl2 hl3 (fun i hi => ⟨if_neg (by omega), if_neg (by omega), if_neg (by omega), fun c hc => by rw [va_cpy, if_neg (by omega)]⟩) ⟨if_pos rfl, if_pos rfl, fun z => absurd z (show ¬ (2 : Nat) = 1 by decide), fun z => absurd z (show ¬ (2 : Nat) = 4 by decide), fun z => absurd z (show ¬ 5 ≤ 2 by decide)⟩
      · exact pW_leaf hW rfl ha g2
    · refine xj_iload_n (i := 1) d14_39_53 rfl rfl ?_
      refine xj_bipush (v := 36) d14_39_54 (by decide) ?_
      refine xj_icmp_ne (tgt := 84) d14_39_56 rfl (fun s4 => ?_) (fun s4 => ?_)
      · refine xj_iload_n (i := 1) d14_39_84 rfl rfl ?_
        refine xj_bipush (v := 91) d14_39_85 (by decide) ?_
        refine xj_icmp_ne (tgt := 97) d14_39_87 rfl (fun s5 => ?_) (fun s5 => ?_)
        · refine xj_iload_n (i := 1) d14_39_97 rfl rfl ?_
          refine xj_bipush (v := 46) d14_39_98 (by decide) ?_
          refine xj_icmp_ne (tgt := 114) d14_39_100 rfl (fun s6 => ?_) (fun s6 => ?_)
          · refine xj_aload_n (i := 0) d14_39_114 rfl rfl ?_
            refine xj_iload_n (i := 1) d14_39_115 rfl rfl ?_
            refine xj_iload_n (i := 1) d14_39_116 rfl rfl ?_
            refine xj_callV (rest := []) (As := [.int c, .int c]) (b := 24) (rSetU hg hxn h52 (a := a) (u := c) (v := c) hR0 (by omega) (u1 := uc) (v1 := uc) (kk := 1) huc huc huc1 (by omega)) d14_39_117 wd14_31 k24 (by omega) (show 24 < M.1 by omega) rfl s14_31 w1266 (Or.inl w1264) rfl rfl (Nat.le_of_ble_eq_true rfl) (by omega) (by omega) (by omega) ?_
            rintro v M8 ⟨rfl, hR8⟩
            have hq : pSimple fp pl c (a, 0, A, t :: r) = pSetOf (a, 0, A, t :: r) (c) (c) := (if_neg s1).trans ((if_neg (fun q => q.elim s3 s4)).trans ((if_neg s5).trans (if_neg s6)))
            refine xj_ret d14_39_120 (by omega) (by omega) rfl ⟨rfl, ?_⟩
            rw [hq]
            exact ⟨fun _ => hR8, fun q => absurd rfl q⟩
          · refine xj_aload_n (i := 0) d14_39_103 rfl rfl ?_
            refine xj_bipush (v := 32) d14_39_104 (by decide) ?_
            refine xj_bipush (v := 126) d14_39_106 (by decide) ?_
            refine xj_callV (rest := []) (As := [.int 32, .int 126]) (b := 24) (rSetU hg hxn h52 (a := a) (u := 32) (v := 126) hR0 (by omega) (u1 := 0) (v1 := 94) (kk := 95) (by decide) (by decide) (by decide) (by decide)) d14_39_108 wd14_31 k24 (by omega) (show 24 < M.1 by omega) rfl s14_31 w1266 (Or.inl w1264) rfl rfl (Nat.le_of_ble_eq_true rfl) (by omega) (by omega) (by omega) ?_
            rintro v M8 ⟨rfl, hR8⟩
            refine xj_goto (tgt := 120) d14_39_111 rfl ?_
            have hq : pSimple fp pl c (a, 0, A, t :: r) = pSetOf (a, 0, A, t :: r) (32) (126) := (if_neg s1).trans ((if_neg (fun q => q.elim s3 s4)).trans ((if_neg s5).trans (if_pos s6)))
            refine xj_ret d14_39_120 (by omega) (by omega) rfl ⟨rfl, ?_⟩
            rw [hq]
            exact ⟨fun _ => hR8, fun q => absurd rfl q⟩
        · refine xj_aload_n (i := 0) d14_39_90 rfl rfl ?_
          refine xj_callV (rest := []) (As := []) (b := 24) (rBracket hg hxn h52 hpl hPR hR0 ha hap) d14_39_91 wd14_36 k24 (by omega) (show 24 < M.1 by omega) rfl s14_36 w1270 (Or.inl w1268) rfl rfl (Nat.le_of_ble_eq_true rfl) (by omega) (by omega) (by omega) ?_
          rintro v M8 ⟨rfl, hX8⟩
          refine xj_goto (tgt := 120) d14_39_94 rfl ?_
          have hq : pSimple fp pl c (a, 0, A, t :: r) = pBracket fp pl (a, 0, A, t :: r) := (if_neg s1).trans ((if_neg (fun q => q.elim s3 s4)).trans (if_pos s5))
          refine xj_ret d14_39_120 (by omega) (by omega) rfl ⟨rfl, ?_⟩
          rw [hq]
          exact hX8
      · refine xj_aload_n (i := 0) d14_39_59 rfl rfl ?_
        refine xj_iload_n (i := 1) d14_39_60 rfl rfl ?_
        refine xj_bipush (v := 94) d14_39_61 (by decide) ?_
        refine xj_icmp_ne (tgt := 70) d14_39_63 rfl (fun _ => ?_) (fun h => absurd h s3)
        refine xj_iconst (v := 3) d14_39_70 (by decide) ?_
        refine xj_iconst (v := 1) d14_39_71 (by decide) ?_
        refine xj_callV (rest := []) (As := [.int 3, .int 1]) (b := 24) (mPart hg (M := M) (n := n) (dl := dl) (pl := pl) (vc := vc) (tk := tk) (hc := hc) (sn := sn) (y24 := 0) (y33 := y33) (y36 := y36) (y37 := y37) (y38 := y38) (y39 := y39) (np := A.length) (a := a) (dp := r.length) (kd := kd) (wt := wt) (ch := ch) (nx := nx) (cs := cs) (kk := 3) (w := 1) (show M.1 = n by omega) (by omega) (by omega) (by omega) k24 (by omega) (by omega) k33 (by omega) (by omega) k39 (by omega) (by omega) k34 (by omega) (by omega) k35 (by omega) (by omega) k40 hxn hn2 (by omega)) d14_39_72 wd14_20 k24 (by omega) (show 24 < M.1 by omega) rfl s14_20 w1232 (Or.inl w1230) rfl rfl (Nat.le_of_ble_eq_true rfl) (by omega) (by omega) (by omega) ?_
        rintro v M3 ⟨rfl, hs3, ho3, hf3_0, hf3_1, hf3_2, hf3_3, hf3_4, hf3_5⟩
        replace hs3 : M3.1 = n := hs3
        replace hf3_0 : M3.2 33 = (.inl (0, 30, .inl (upd kd A.length 3))) := hf3_0
        replace hf3_1 : M3.2 39 = (.inl (0, 30, .inl (upd wt A.length 1))) := hf3_1
        replace hf3_2 : M3.2 34 = (.inl (0, 30, .inl (upd ch A.length (-1)))) := hf3_2
        replace hf3_3 : M3.2 35 = (.inl (0, 30, .inl (upd nx A.length (-1)))) := hf3_3
        replace hf3_4 : M3.2 40 = (.inl (2, 2850, .inl (va_cpy (fun _ => 0) cs 0 (95 * A.length) 95))) := hf3_4
        replace hf3_5 : M3.2 24 = (.inr (12, [.ref 25, .ref 26, .ref 27, .ref 28, .ref 29, .ref 30, .int (nI sn), .int (nI vc), .int (nI tk), .ref 31, .int (nI dl), .ref 32, .int (nI pl), .int (nI (A.length + 1)), .ref 33, .ref 34, .ref 35, .ref 36, .ref 37, .ref 38, .ref 39, .ref 40, .int (nI a), .int (nI r.length), .int 0, .ref 41, .ref 42, .ref 43, .ref 44, .ref 45, .ref 46, .ref 47, .ref 48, .int y33, .ref 49, .ref 50, .int y36, .int y37, .int y38, .int y39, .int (nI hc), .ref 51])) := hf3_5
        refine xj_istore_n (i := 2) (L' := [(2, .int (nI A.length)), (0, .ref 24), (1, .int c)]) d14_39_75 rfl (by decide) rfl ?_
        refine xj_aload_n (i := 0) d14_39_76 rfl rfl ?_
        refine xj_iload_n (i := 2) d14_39_77 rfl rfl ?_
        refine xj_callV (rest := []) (As := [.int (nI A.length)]) (b := 24) (mAddPN hg (M := M3) (n := n) (dl := dl) (pl := pl) (vc := vc) (tk := tk) (hc := hc) (sn := sn) (y24 := 0) (y33 := y33) (y36 := y36) (y37 := y37) (y38 := y38) (y39 := y39) (np := A.length + 1) (a := a) (dp := r.length) (be := be) (fP := fP) (lP := lP) (nx := upd nx A.length (-1)) (m := A.length) (ll := ll) (show M3.1 = n by omega) (by omega) (by omega) (by omega) hf3_5 (by omega) (by omega) ((ho3 36 (by omega) (by omega) (by omega) (by omega) (by omega) (by omega) (by omega)).trans k36) (by omega) (by omega) ((ho3 41 (by omega) (by omega) (by omega) (by omega) (by omega) (by omega) (by omega)).trans k41) (by omega) (by omega) ((ho3 42 (by omega) (by omega) (by omega) (by omega) (by omega) (by omega) (by omega)).trans k42) (by omega) (by omega) hf3_3 hxn hn2 (by omega) (by omega) hb2 hl2 (by omega)) d14_39_78 wd14_22 hf3_5 (by omega) (show 24 < M3.1 by omega) rfl s14_22 w1240 (Or.inl w1238) rfl rfl (Nat.le_of_ble_eq_true rfl) (by omega) (by omega) (by omega) ?_
        rintro v M4 ⟨rfl, hs4, ho4, hf4_0, hf4_1, hf4_2⟩
        replace hs4 : M4.1 = n := hs4
        replace hf4_0 : M4.2 36 = (.inl (0, 30, .inl (upd be A.length (nI ll)))) := hf4_0
        replace hf4_1 : M4.2 35 = (.inl (0, 30, .inl (upd (upd nx A.length (-1)) ll (nI A.length)))) := hf4_1
        replace hf4_2 : M4.2 42 = (.inl (0, 7, .inl (upd lP r.length (nI A.length)))) := hf4_2
        refine xj_goto (tgt := 120) d14_39_81 rfl ?_
        have hq : pSimple fp pl c (a, 0, A, t :: r) = pPiece (a, 0, A, t :: r) (3, 1, [], 0, 0, pNo) := (if_neg s1).trans ((if_pos (Or.inr s4)).trans (congrArg (fun z => pPiece (a, 0, A, t :: r) (z, 1, [], 0, 0, pNo)) (if_neg s3)))
        refine xj_ret d14_39_120 (by omega) (by omega) rfl ⟨rfl, ?_⟩
        rw [hq]
        refine ⟨fun _ => ⟨⟨(show M4.1 = M0.1 by omega), fun j h1 h2 h3 => ((ho4 j (by omega) (by omega) (by omega) (by omega)).trans (ho3 j (by omega) (by omega) (by omega) (by omega) (by omega) (by omega) (by omega))).trans (i2 j h1 h2 h3)⟩, ((ho4 32 (by omega) (by omega) (by omega) (by omega)).trans (ho3 32 (by omega) (by omega) (by omega) (by omega) (by omega) (by omega) (by omega))).trans k32, A.length + 1, (upd kd A.length 3), (upd ch A.length (-1)), (upd (upd nx A.length (-1)) ll (nI A.length)), (upd be A.length (nI ll)), lo, hi, (upd wt A.length 1), (va_cpy (fun _ => 0) cs 0 (95 * A.length) 95), fP, (upd lP r.length (nI A.length)), fB, lB, xlen1 A _, ((ho4 24 (by omega) (by omega) (by omega) (by omega)).trans hf3_5), ((ho4 33 (by omega) (by omega) (by omega) (by omega)).trans hf3_0), ((ho4 34 (by omega) (by omega) (by omega) (by omega)).trans hf3_2), hf4_1, hf4_0, ((ho4 37 (by omega) (by omega) (by omega) (by omega)).trans ((ho3 37 (by omega) (by omega) (by omega) (by omega) (by omega) (by omega) (by omega)).trans k37)), ((ho4 38 (by omega) (by omega) (by omega) (by omega)).trans ((ho3 38 (by omega) (by omega) (by omega) (by omega) (by omega) (by omega) (by omega)).trans k38)), ((ho4 39 (by omega) (by omega) (by omega) (by omega)).trans hf3_1), ((ho4 40 (by omega) (by omega) (by omega) (by omega)).trans hf3_4), ((ho4 41 (by omega) (by omega) (by omega) (by omega)).trans ((ho3 41 (by omega) (by omega) (by omega) (by omega) (by omega) (by omega) (by omega)).trans k41)), hf4_2, ((ho4 43 (by omega) (by omega) (by omega) (by omega)).trans ((ho3 43 (by omega) (by omega) (by omega) (by omega) (by omega) (by omega) (by omega)).trans k43)), ((ho4 44 (by omega) (by omega) (by omega) (by omega)).trans ((ho3 44 (by omega) (by omega) (by omega) (by omega) (by omega) (by omega) (by omega)).trans k44)), ?_, ?_⟩, fun q => absurd rfl q⟩
        · exact mA_pcN hA hW hl1 hl2 hl3 (fun i hi => ⟨if_neg (by omega), if_neg (by omega), if_neg (by omega), fun c hc => by rw [va_cpy, if_neg (by omega)]⟩) ⟨if_pos rfl, if_pos rfl, fun z => absurd z (show ¬ (3 : Nat) = 1 by decide), fun z => absurd z (show ¬ (3 : Nat) = 4 by decide), fun z => absurd z (show ¬ 5 ≤ 3 by decide)⟩
        · exact pW_leaf hW rfl ha g2
  · refine xj_aload_n (i := 0) d14_39_6 rfl rfl ?_
    refine xj_iconst (v := 0) d14_39_7 (by decide) ?_
    refine xj_callV (rest := []) (As := [.int 0]) (b := 24) (mAhead0 hg (M := M) (n := n) (dl := dl) (pl := pl) (vc := vc) (tk := tk) (hc := hc) (sn := sn) (y24 := 0) (y33 := y33) (y36 := y36) (y37 := y37) (y38 := y38) (y39 := y39) (np := A.length) (a := a) (dp := r.length) (fp := fp) (show M.1 = n by omega) (by omega) (by omega) (by omega) k24 (by omega) (by omega) k32 (by omega) hpl) d14_39_8 wd14_19 k24 (by omega) (show 24 < M.1 by omega) rfl s14_19 w1216 (Or.inl w1214) rfl rfl (Nat.le_of_ble_eq_true rfl) (by omega) (by omega) (by omega) ?_
    rintro v M' ⟨rfl, hm⟩
    subst M'
    refine xj_istore_n (i := 2) (L' := [(2, .int (pch fp pl a)), (0, .ref 24), (1, .int c)]) d14_39_11 rfl (by decide) rfl ?_
    refine xj_iload_n (i := 2) d14_39_12 rfl rfl ?_
    refine xj_callS (rest := []) (As := [.int (pch fp pl a)]) (mSpecial hg (M := M) (n := n) (c := pch fp pl a) (show M.1 = n by omega) (by omega) ) d14_39_13 wd14_30 w1262 (Or.inl w1261) rfl rfl (Nat.le_of_ble_eq_true rfl) (by omega) (by omega) (by omega) ?_
    rintro v M' ⟨rfl, hm⟩
    subst M'
    refine xj_if_eq (tgt := 38) d14_39_16 rfl (fun s2 => ?_) (fun s2 => ?_)
    · refine xj_aload_n (i := 0) d14_39_38 rfl rfl ?_
      refine xj_bipush (v := 7) d14_39_39 (by decide) ?_
      refine xj_put (a := 24) (fs' := [.ref 25, .ref 26, .ref 27, .ref 28, .ref 29, .ref 30, .int (nI sn), .int (nI vc), .int (nI tk), .ref 31, .int (nI dl), .ref 32, .int (nI pl), .int (nI A.length), .ref 33, .ref 34, .ref 35, .ref 36, .ref 37, .ref 38, .ref 39, .ref 40, .int (nI a), .int (nI r.length), .int 7, .ref 41, .ref 42, .ref 43, .ref 44, .ref 45, .ref 46, .ref 47, .ref 48, .int y33, .ref 49, .ref 50, .int y36, .int y37, .int y38, .int y39, .int (nI hc), .ref 51]) d14_39_41 f14_156_12 k24 (by omega) (show 24 < M.1 by omega) (Nat.le_of_ble_eq_true rfl) rfl rfl rfl ?_
      refine xj_abs_set (fun M5 hs5 ha5 ho5 => ?_)
      refine xj_goto (tgt := 120) d14_39_44 rfl ?_
      have hq : pSimple fp pl c (a, 0, A, t :: r) = pFau (a, 0, A, t :: r) 7 := (if_pos s1).trans (if_neg (xB_n s2))
      refine xj_ret d14_39_120 (by omega) (by omega) rfl ⟨rfl, ?_⟩
      rw [hq]
      exact ⟨fun q => absurd q (show ¬ (7 : Int32) = 0 by decide), fun _ => mR_fa hR0 (show M5.1 = M.1 by omega) (fun j hj => (ho5 j (by omega))) ha5⟩
    · refine xj_aload_n (i := 0) d14_39_19 rfl rfl ?_
      refine xj_dup d14_39_20 rfl ?_
      refine xj_get d14_39_21 f14_133_12 k24 (by omega) (show 24 < M.1 by omega) rfl ?_
      refine xj_iconst (v := 1) d14_39_24 (by decide) ?_
      refine xj_iadd (v := nI (a + 1)) d14_39_25 (nI_1 a) ?_
      refine xj_put (a := 24) (fs' := [.ref 25, .ref 26, .ref 27, .ref 28, .ref 29, .ref 30, .int (nI sn), .int (nI vc), .int (nI tk), .ref 31, .int (nI dl), .ref 32, .int (nI pl), .int (nI A.length), .ref 33, .ref 34, .ref 35, .ref 36, .ref 37, .ref 38, .ref 39, .ref 40, .int (nI (a + 1)), .int (nI r.length), .int 0, .ref 41, .ref 42, .ref 43, .ref 44, .ref 45, .ref 46, .ref 47, .ref 48, .int y33, .ref 49, .ref 50, .int y36, .int y37, .int y38, .int y39, .int (nI hc), .ref 51]) d14_39_26 f14_133_12 k24 (by omega) (show 24 < M.1 by omega) (Nat.le_of_ble_eq_true rfl) rfl rfl rfl ?_
      refine xj_abs_set (fun M6 hs6 ha6 ho6 => ?_)
      have hapl : a < pl := pch_in rfl (xspe_0 (xB_y s2))
      obtain ⟨ux, hux1, hux2⟩ := hPR a hapl
      have hux : pch fp pl a = nI (ux + 32) := (if_pos hapl).trans hux2
      refine xj_aload_n (i := 0) d14_39_29 rfl rfl ?_
      refine xj_iload_n (i := 2) d14_39_30 rfl rfl ?_
      refine xj_iload_n (i := 2) d14_39_31 rfl rfl ?_
      refine xj_callV (rest := []) (As := [.int (pch fp pl a), .int (pch fp pl a)]) (b := 24) (rSetU hg hxn h52 (a := a + 1) (u := pch fp pl a) (v := pch fp pl a) (mR_at (k := 1) hR0 (show a + 1 ≤ 24 by omega) rfl (show M6.1 = M.1 by omega) (fun j hj => (ho6 j (by omega))) ha6) (by omega) (u1 := ux) (v1 := ux) (kk := 1) hux hux hux1 (by omega)) d14_39_32 wd14_31 ha6 (by omega) (show 24 < M6.1 by omega) rfl s14_31 w1266 (Or.inl w1264) rfl rfl (Nat.le_of_ble_eq_true rfl) (by omega) (by omega) (by omega) ?_
      rintro v M8 ⟨rfl, hR8⟩
      refine xj_goto (tgt := 44) d14_39_35 rfl ?_
      refine xj_goto (tgt := 120) d14_39_44 rfl ?_
      have hq : pSimple fp pl c (a, 0, A, t :: r) = pSetOf (pAt (a, 0, A, t :: r) 1) (pch fp pl a) (pch fp pl a) := (if_pos s1).trans (if_pos (xB_y s2))
      refine xj_ret d14_39_120 (by omega) (by omega) rfl ⟨rfl, ?_⟩
      rw [hq]
      exact ⟨fun _ => hR8, fun q => absurd rfl q⟩

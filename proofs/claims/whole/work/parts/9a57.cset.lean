set_option maxRecDepth 20000 in
set_option maxHeartbeats 4000000 in
theorem kItem {G : xG} (hg : xGood G) (hxn : xn = 16) (hSC : xSC G) {px fp : Nat → Int32} {rd : Nat} {M0 M : xM} {pl S a : Nat} {A : List xNode} {t : List Nat × List Nat} {r : List (List Nat × List Nat)} {cs : Nat → Bool} (hpl : pl ≤ 24) (hpx : ∀ j, j < pl → px j = fp j) (hPR : ∀ j, j < pl → ∃ u1, u1 < 95 ∧ fp j = nI (u1 + 32)) (h18 : M0.2 18 = (.inl (1, 24, .inl px))) (hr : r.length ≤ 6) (hI : cI rd M0 pl S M (a, 0, A, t :: r) cs) (hap : a < pl) : XC G Y8_16 none 6 0 0 [.ref rd, .ref S] M (fun v M' => v = none ∧ ((pItem fp pl (a, 0, cs)).2.1 = 0 → cI rd M0 pl S M' ((pItem fp pl (a, 0, cs)).1, 0, A, t :: r) (pItem fp pl (a, 0, cs)).2.2) ∧ (¬ (pItem fp pl (a, 0, cs)).2.1 = 0 → cF rd M0 pl M' (pItem fp pl (a, 0, cs)).2.1)) := by
  obtain ⟨ga9, gw9, z, kR, ⟨e1, e2, e3, e4, e5, e6, e7, e8⟩, cfr, kS, kB, hgo, hfa⟩ := cI_open hI hr
  replace kR : M.2 rd = (.inr (4, [.ref gw9, .int 0, .ref 18, .int (nI pl), .int (nI a), .ref ga9, .int (nI r.length)])) := kR
  have k18 : M.2 18 = (.inl (1, 24, .inl px)) := (cfr 18 (by omega)).trans h18
  obtain ⟨u1, hu1, hu2⟩ := hPR a hap
  obtain ⟨cx, hcu⟩ : ∃ cx, cx = u1 + 32 := ⟨_, rfl⟩
  have hcx : pch fp pl a = nI cx := by rw [hcu]; exact (if_pos hap).trans hu2
  obtain ⟨cy, hcy, hcy1⟩ := xpch_cc hPR (a + 2)
  refine xc_of hg (by decide) (Nat.le_of_ble_eq_true rfl) (Or.inr (Or.inr (Or.inr (Or.inr (Or.inl ⟨rfl, rfl, fun v M' h => h.1⟩))))) ?_
  refine xj_aload_n (i := 0) d8_16_0 rfl rfl ?_
  refine xj_aload_n (i := 0) d8_16_1 rfl rfl ?_
  refine xj_get d8_16_2 f8_30_4 kR (by omega) (show rd < M.1 by omega) rfl ?_
  refine xj_callV (rest := []) (As := [.int (nI a)]) (b := rd) (xPeekV hg hxn (M := M) (k := a) (V := nI cx) (by omega) (by omega) (by omega) kR k18 (by omega) hpl hpx hPR hcx) d8_16_5 wd8_6 kR (by omega) (show rd < M.1 by omega) rfl s8_6 w532 (Or.inl w530) rfl rfl (Nat.le_of_ble_eq_true rfl) (by omega) (by omega) (by omega) ?_
  rintro v M' ⟨rfl, hm⟩
  subst M'
  refine xj_istore_n (i := 2) (L' := [(2, .int (nI cx)), (0, .ref rd), (1, .ref S)]) d8_16_8 rfl (by decide) rfl ?_
  refine xj_aload_n (i := 0) d8_16_9 rfl rfl ?_
  refine xj_aload_n (i := 0) d8_16_10 rfl rfl ?_
  refine xj_get d8_16_11 f8_30_4 kR (by omega) (show rd < M.1 by omega) rfl ?_
  refine xj_iconst (v := 1) d8_16_14 (by decide) ?_
  refine xj_iadd (v := nI (a + 1)) d8_16_15 (nI_1 _) ?_
  refine xj_callV (rest := []) (As := [.int (nI (a + 1))]) (b := rd) (xPeekV hg hxn (M := M) (k := a + 1) (V := pch fp pl (a + 1)) (by omega) (by omega) (by omega) kR k18 (by omega) hpl hpx hPR rfl) d8_16_16 wd8_6 kR (by omega) (show rd < M.1 by omega) rfl s8_6 w532 (Or.inl w530) rfl rfl (Nat.le_of_ble_eq_true rfl) (by omega) (by omega) (by omega) ?_
  rintro v M' ⟨rfl, hm⟩
  subst M'
  refine xj_istore_n (i := 3) (L' := [(3, .int (pch fp pl (a + 1))), (2, .int (nI cx)), (0, .ref rd), (1, .ref S)]) d8_16_19 rfl (by decide) rfl ?_
  refine xj_aload_n (i := 0) d8_16_20 rfl rfl ?_
  refine xj_aload_n (i := 0) d8_16_21 rfl rfl ?_
  refine xj_get d8_16_22 f8_30_4 kR (by omega) (show rd < M.1 by omega) rfl ?_
  refine xj_iconst (v := 2) d8_16_25 (by decide) ?_
  refine xj_iadd (v := nI (a + 2)) d8_16_26 (nI_add a 2) ?_
  refine xj_callV (rest := []) (As := [.int (nI (a + 2))]) (b := rd) (xPeekV hg hxn (M := M) (k := a + 2) (V := nI cy) (by omega) (by omega) (by omega) kR k18 (by omega) hpl hpx hPR hcy) d8_16_27 wd8_6 kR (by omega) (show rd < M.1 by omega) rfl s8_6 w532 (Or.inl w530) rfl rfl (Nat.le_of_ble_eq_true rfl) (by omega) (by omega) (by omega) ?_
  rintro v M' ⟨rfl, hm⟩
  subst M'
  refine xj_istore (i := 4) (L' := [(4, .int (nI cy)), (3, .int (pch fp pl (a + 1))), (2, .int (nI cx)), (0, .ref rd), (1, .ref S)]) d8_16_30 (by decide) rfl ?_
  refine xj_iload_n (i := 2) d8_16_32 rfl rfl ?_
  refine xj_bipush (v := 91) d8_16_33 (by decide) ?_
  refine xj_icmp_ne (tgt := 52) d8_16_35 rfl (fun g1 => ?_) (fun g1 => ?_)
  · refine xj_iload_n (i := 2) d8_16_52 rfl rfl ?_
    refine xj_bipush (v := 91) d8_16_53 (by decide) ?_
    refine xj_icmp_ne (tgt := 79) d8_16_55 rfl (fun _ => ?_) (fun h => absurd h g1)
    refine xj_iload_n (i := 3) d8_16_79 rfl rfl ?_
    refine xj_bipush (v := 45) d8_16_80 (by decide) ?_
    refine xj_icmp_ne (tgt := 97) d8_16_82 rfl (fun g5 => ?_) (fun g5 => ?_)
    · refine xj_aload_n (i := 1) d8_16_97 rfl rfl ?_
      refine xj_iload_n (i := 2) d8_16_98 rfl rfl ?_
      refine xj_iload_n (i := 2) d8_16_99 rfl rfl ?_
      refine xj_callV (rest := []) (As := [.int (nI cx), .int (nI cx)]) (b := S) (xList hg hxn (M := M) (n := M.1) (u0 := cx) (v0 := cx) (q := z) rfl (by omega) (by omega) (by omega) kS (by omega) (by omega)) d8_16_100 wd4_2 kS (by omega) (show S < M.1 by omega) rfl w645 w644 (Or.inl w643) rfl rfl (Nat.le_of_ble_eq_true rfl) (by omega) (by omega) (by omega) ?_
      rintro v M1 ⟨rfl, hs1, ho1, ha1⟩
      refine xj_aload_n (i := 0) d8_16_103 rfl rfl ?_
      refine xj_dup d8_16_104 rfl ?_
      refine xj_get d8_16_105 f8_30_4 ((ho1 rd (by omega)).trans kR) (by omega) (show rd < M1.1 by omega) rfl ?_
      refine xj_iconst (v := 1) d8_16_108 (by decide) ?_
      refine xj_iadd (v := nI (a + 1)) d8_16_109 (nI_1 _) ?_
      refine xj_put (a := rd) (fs' := [.ref gw9, .int 0, .ref 18, .int (nI pl), .int (nI (a + 1)), .ref ga9, .int (nI r.length)]) d8_16_110 f8_30_4 ((ho1 rd (by omega)).trans kR) (by omega) (show rd < M1.1 by omega) (Nat.le_of_ble_eq_true rfl) rfl rfl rfl ?_
      refine xj_abs_set (fun M2 hs2 ha2 ho2 => ?_)
      refine xj_goto (tgt := 147) d8_16_113 rfl ?_
      have hp9 : pItem fp pl (a, 0, cs) = (a + 1, 0, pOr cs (pch fp pl a) (pch fp pl a)) := (if_neg (fun q => g1 (hcx.symm.trans q.1))).trans ((if_neg (fun q => g1 (hcx.symm.trans q.1))).trans (if_neg (fun q => g5 q.1)))
      exact xj_ret d8_16_147 (by omega) (by omega) rfl ⟨rfl, by rw [hp9]; exact ⟨fun _ => hgo M2 (a + 1) _ _ (by omega) ha2 ((ho2 S (by omega)).trans ha1) (by rw [hcx]; exact cB_ls (u := cx) (v := cx) kB (by omega) (by omega) (by omega)) (fun y hlt hy hyS => ((ho2 y (by omega)).trans (ho1 y (by omega)))), fun q => absurd rfl q⟩⟩
    · refine xj_iload (i := 4) d8_16_85 rfl ?_
      refine xj_bipush (v := 93) d8_16_87 (by decide) ?_
      refine xj_icmp_eq (tgt := 97) d8_16_89 rfl (fun g6 => ?_) (fun g6 => ?_)
      · refine xj_aload_n (i := 1) d8_16_97 rfl rfl ?_
        refine xj_iload_n (i := 2) d8_16_98 rfl rfl ?_
        refine xj_iload_n (i := 2) d8_16_99 rfl rfl ?_
        refine xj_callV (rest := []) (As := [.int (nI cx), .int (nI cx)]) (b := S) (xList hg hxn (M := M) (n := M.1) (u0 := cx) (v0 := cx) (q := z) rfl (by omega) (by omega) (by omega) kS (by omega) (by omega)) d8_16_100 wd4_2 kS (by omega) (show S < M.1 by omega) rfl w645 w644 (Or.inl w643) rfl rfl (Nat.le_of_ble_eq_true rfl) (by omega) (by omega) (by omega) ?_
        rintro v M3 ⟨rfl, hs3, ho3, ha3⟩
        refine xj_aload_n (i := 0) d8_16_103 rfl rfl ?_
        refine xj_dup d8_16_104 rfl ?_
        refine xj_get d8_16_105 f8_30_4 ((ho3 rd (by omega)).trans kR) (by omega) (show rd < M3.1 by omega) rfl ?_
        refine xj_iconst (v := 1) d8_16_108 (by decide) ?_
        refine xj_iadd (v := nI (a + 1)) d8_16_109 (nI_1 _) ?_
        refine xj_put (a := rd) (fs' := [.ref gw9, .int 0, .ref 18, .int (nI pl), .int (nI (a + 1)), .ref ga9, .int (nI r.length)]) d8_16_110 f8_30_4 ((ho3 rd (by omega)).trans kR) (by omega) (show rd < M3.1 by omega) (Nat.le_of_ble_eq_true rfl) rfl rfl rfl ?_
        refine xj_abs_set (fun M4 hs4 ha4 ho4 => ?_)
        refine xj_goto (tgt := 147) d8_16_113 rfl ?_
        have hp9 : pItem fp pl (a, 0, cs) = (a + 1, 0, pOr cs (pch fp pl a) (pch fp pl a)) := (if_neg (fun q => g1 (hcx.symm.trans q.1))).trans ((if_neg (fun q => g1 (hcx.symm.trans q.1))).trans (if_neg (fun q => q.2.2 (hcy.trans g6))))
        exact xj_ret d8_16_147 (by omega) (by omega) rfl ⟨rfl, by rw [hp9]; exact ⟨fun _ => hgo M4 (a + 1) _ _ (by omega) ha4 ((ho4 S (by omega)).trans ha3) (by rw [hcx]; exact cB_ls (u := cx) (v := cx) kB (by omega) (by omega) (by omega)) (fun y hlt hy hyS => ((ho4 y (by omega)).trans (ho3 y (by omega)))), fun q => absurd rfl q⟩⟩
      · refine xj_iload (i := 4) d8_16_92 rfl ?_
        refine xj_if_ne (tgt := 116) d8_16_94 rfl (fun g7 => ?_) (fun g7 => ?_)
        · refine xj_iload (i := 4) d8_16_116 rfl ?_
          refine xj_iload_n (i := 2) d8_16_118 rfl rfl ?_
          refine xj_icmp_ge (tgt := 130) d8_16_119 rfl (fun g8 => ?_) (fun g8 => ?_)
          · refine xj_aload_n (i := 1) d8_16_130 rfl rfl ?_
            refine xj_iload_n (i := 2) d8_16_131 rfl rfl ?_
            refine xj_iload (i := 4) d8_16_132 rfl ?_
            have hin0 : a + 2 < pl := pch_in rfl (fun q => g7 (hcy.symm.trans q))
            have hxy0 : cx ≤ cy := Classical.byContradiction fun q => absurd (show nI cx ≤ nI cy from g8) (nI_ge (by omega) (by omega))
            refine xj_callV (rest := []) (As := [.int (nI cx), .int (nI cy)]) (b := S) (xList hg hxn (M := M) (n := M.1) (u0 := cx) (v0 := cy) (q := z) rfl (by omega) (by omega) (by omega) kS (by omega) (by omega)) d8_16_134 wd4_2 kS (by omega) (show S < M.1 by omega) rfl w645 w644 (Or.inl w643) rfl rfl (Nat.le_of_ble_eq_true rfl) (by omega) (by omega) (by omega) ?_
            rintro v M5 ⟨rfl, hs5, ho5, ha5⟩
            refine xj_aload_n (i := 0) d8_16_137 rfl rfl ?_
            refine xj_dup d8_16_138 rfl ?_
            refine xj_get d8_16_139 f8_30_4 ((ho5 rd (by omega)).trans kR) (by omega) (show rd < M5.1 by omega) rfl ?_
            refine xj_iconst (v := 3) d8_16_142 (by decide) ?_
            refine xj_iadd (v := nI (a + 3)) d8_16_143 (nI_add a 3) ?_
            refine xj_put (a := rd) (fs' := [.ref gw9, .int 0, .ref 18, .int (nI pl), .int (nI (a + 3)), .ref ga9, .int (nI r.length)]) d8_16_144 f8_30_4 ((ho5 rd (by omega)).trans kR) (by omega) (show rd < M5.1 by omega) (Nat.le_of_ble_eq_true rfl) rfl rfl rfl ?_
            refine xj_abs_set (fun M6 hs6 ha6 ho6 => ?_)
            have hin : a + 2 < pl := pch_in rfl (fun q => g7 (hcy.symm.trans q))
            have hcy2 : 32 ≤ cy := by
              obtain ⟨u2, hu2, hu3⟩ := hPR (a + 2) hin
              have hz : nI cy = nI (u2 + 32) := hcy.symm.trans ((if_pos hin).trans hu3)
              have := (nI_eq (a := cy) (b := u2 + 32) (by omega) (by omega)).mp hz
              omega
            have hxy : cx ≤ cy := Classical.byContradiction fun q => absurd (show nI cx ≤ nI cy from g8) (nI_ge (by omega) (by omega))
            have hp9 : pItem fp pl (a, 0, cs) = (a + 3, 0, pOr cs (pch fp pl a) (pch fp pl (a + 2))) := (if_neg (fun q => g1 (hcx.symm.trans q.1))).trans ((if_neg (fun q => g1 (hcx.symm.trans q.1))).trans ((if_pos ⟨g5, (fun q => g7 (hcy.symm.trans q)), (fun q => g6 (hcy.symm.trans q))⟩).trans (if_neg (by rw [show pch fp pl ((a, (0 : Int32), cs).1 + 2) = nI cy from hcy, show pch fp pl (a, (0 : Int32), cs).1 = nI cx from hcx]; exact Int32.not_lt.mpr g8))))
            exact xj_ret d8_16_147 (by omega) (by omega) rfl ⟨rfl, by rw [hp9]; exact ⟨fun _ => hgo M6 (a + 3) _ _ (by omega) ha6 ((ho6 S (by omega)).trans ha5) (by rw [hcx, hcy]; exact cB_ls (u := cx) (v := cy) kB (by omega) (by omega) (by omega)) (fun y hlt hy hyS => ((ho6 y (by omega)).trans (ho5 y (by omega)))), fun q => absurd rfl q⟩⟩
          · refine xj_aload_n (i := 0) d8_16_122 rfl rfl ?_
            refine xj_iconst (v := 5) d8_16_123 (by decide) ?_
            refine xj_put (a := rd) (fs' := [.ref gw9, .int 5, .ref 18, .int (nI pl), .int (nI a), .ref ga9, .int (nI r.length)]) d8_16_124 f8_33_4 kR (by omega) (show rd < M.1 by omega) (Nat.le_of_ble_eq_true rfl) rfl rfl rfl ?_
            refine xj_abs_set (fun M7 hs7 ha7 ho7 => ?_)
            refine xj_goto (tgt := 147) d8_16_127 rfl ?_
            have hp9 : pItem fp pl (a, 0, cs) = (a, 5, cs) := (if_neg (fun q => g1 (hcx.symm.trans q.1))).trans ((if_neg (fun q => g1 (hcx.symm.trans q.1))).trans ((if_pos ⟨g5, (fun q => g7 (hcy.symm.trans q)), (fun q => g6 (hcy.symm.trans q))⟩).trans (if_pos (by rw [show pch fp pl ((a, (0 : Int32), cs).1 + 2) = nI cy from hcy, show pch fp pl (a, (0 : Int32), cs).1 = nI cx from hcx]; exact Int32.not_le.mp g8))))
            exact xj_ret d8_16_147 (by omega) (by omega) rfl ⟨rfl, by rw [hp9]; exact ⟨fun q => absurd q (show ¬ (5 : Int32) = 0 by decide), fun _ => hfa M7 5 (by omega) ha7 (by omega) (fun y hlt hy hyS => (ho7 y (by omega)))⟩⟩
        · refine xj_aload_n (i := 1) d8_16_97 rfl rfl ?_
          refine xj_iload_n (i := 2) d8_16_98 rfl rfl ?_
          refine xj_iload_n (i := 2) d8_16_99 rfl rfl ?_
          refine xj_callV (rest := []) (As := [.int (nI cx), .int (nI cx)]) (b := S) (xList hg hxn (M := M) (n := M.1) (u0 := cx) (v0 := cx) (q := z) rfl (by omega) (by omega) (by omega) kS (by omega) (by omega)) d8_16_100 wd4_2 kS (by omega) (show S < M.1 by omega) rfl w645 w644 (Or.inl w643) rfl rfl (Nat.le_of_ble_eq_true rfl) (by omega) (by omega) (by omega) ?_
          rintro v M8 ⟨rfl, hs8, ho8, ha8⟩
          refine xj_aload_n (i := 0) d8_16_103 rfl rfl ?_
          refine xj_dup d8_16_104 rfl ?_
          refine xj_get d8_16_105 f8_30_4 ((ho8 rd (by omega)).trans kR) (by omega) (show rd < M8.1 by omega) rfl ?_
          refine xj_iconst (v := 1) d8_16_108 (by decide) ?_
          refine xj_iadd (v := nI (a + 1)) d8_16_109 (nI_1 _) ?_
          refine xj_put (a := rd) (fs' := [.ref gw9, .int 0, .ref 18, .int (nI pl), .int (nI (a + 1)), .ref ga9, .int (nI r.length)]) d8_16_110 f8_30_4 ((ho8 rd (by omega)).trans kR) (by omega) (show rd < M8.1 by omega) (Nat.le_of_ble_eq_true rfl) rfl rfl rfl ?_
          refine xj_abs_set (fun M9 hs9 ha9 ho9 => ?_)
          refine xj_goto (tgt := 147) d8_16_113 rfl ?_
          have hp9 : pItem fp pl (a, 0, cs) = (a + 1, 0, pOr cs (pch fp pl a) (pch fp pl a)) := (if_neg (fun q => g1 (hcx.symm.trans q.1))).trans ((if_neg (fun q => g1 (hcx.symm.trans q.1))).trans (if_neg (fun q => q.2.1 (hcy.trans g7))))
          exact xj_ret d8_16_147 (by omega) (by omega) rfl ⟨rfl, by rw [hp9]; exact ⟨fun _ => hgo M9 (a + 1) _ _ (by omega) ha9 ((ho9 S (by omega)).trans ha8) (by rw [hcx]; exact cB_ls (u := cx) (v := cx) kB (by omega) (by omega) (by omega)) (fun y hlt hy hyS => ((ho9 y (by omega)).trans (ho8 y (by omega)))), fun q => absurd rfl q⟩⟩
  · refine xj_iload_n (i := 3) d8_16_38 rfl rfl ?_
    refine xj_bipush (v := 58) d8_16_39 (by decide) ?_
    refine xj_icmp_ne (tgt := 52) d8_16_41 rfl (fun g2 => ?_) (fun g2 => ?_)
    · refine xj_iload_n (i := 2) d8_16_52 rfl rfl ?_
      refine xj_bipush (v := 91) d8_16_53 (by decide) ?_
      refine xj_icmp_ne (tgt := 79) d8_16_55 rfl (fun h => absurd g1 h) (fun _ => ?_)
      refine xj_iload_n (i := 3) d8_16_58 rfl rfl ?_
      refine xj_bipush (v := 46) d8_16_59 (by decide) ?_
      refine xj_icmp_eq (tgt := 70) d8_16_61 rfl (fun g3 => ?_) (fun g3 => ?_)
      · refine xj_aload_n (i := 0) d8_16_70 rfl rfl ?_
        refine xj_bipush (v := 6) d8_16_71 (by decide) ?_
        refine xj_put (a := rd) (fs' := [.ref gw9, .int 6, .ref 18, .int (nI pl), .int (nI a), .ref ga9, .int (nI r.length)]) d8_16_73 f8_33_4 kR (by omega) (show rd < M.1 by omega) (Nat.le_of_ble_eq_true rfl) rfl rfl rfl ?_
        refine xj_abs_set (fun M10 hs10 ha10 ho10 => ?_)
        refine xj_goto (tgt := 147) d8_16_76 rfl ?_
        have hp9 : pItem fp pl (a, 0, cs) = (a, 6, cs) := (if_neg (fun q => g2 q.2)).trans (if_pos ⟨hcx.trans g1, Or.inl g3⟩)
        exact xj_ret d8_16_147 (by omega) (by omega) rfl ⟨rfl, by rw [hp9]; exact ⟨fun q => absurd q (show ¬ (6 : Int32) = 0 by decide), fun _ => hfa M10 6 (by omega) ha10 (by omega) (fun y hlt hy hyS => (ho10 y (by omega)))⟩⟩
      · refine xj_iload_n (i := 3) d8_16_64 rfl rfl ?_
        refine xj_bipush (v := 61) d8_16_65 (by decide) ?_
        refine xj_icmp_ne (tgt := 79) d8_16_67 rfl (fun g4 => ?_) (fun g4 => ?_)
        · refine xj_iload_n (i := 3) d8_16_79 rfl rfl ?_
          refine xj_bipush (v := 45) d8_16_80 (by decide) ?_
          refine xj_icmp_ne (tgt := 97) d8_16_82 rfl (fun g5 => ?_) (fun g5 => ?_)
          · refine xj_aload_n (i := 1) d8_16_97 rfl rfl ?_
            refine xj_iload_n (i := 2) d8_16_98 rfl rfl ?_
            refine xj_iload_n (i := 2) d8_16_99 rfl rfl ?_
            refine xj_callV (rest := []) (As := [.int (nI cx), .int (nI cx)]) (b := S) (xList hg hxn (M := M) (n := M.1) (u0 := cx) (v0 := cx) (q := z) rfl (by omega) (by omega) (by omega) kS (by omega) (by omega)) d8_16_100 wd4_2 kS (by omega) (show S < M.1 by omega) rfl w645 w644 (Or.inl w643) rfl rfl (Nat.le_of_ble_eq_true rfl) (by omega) (by omega) (by omega) ?_
            rintro v M11 ⟨rfl, hs11, ho11, ha11⟩
            refine xj_aload_n (i := 0) d8_16_103 rfl rfl ?_
            refine xj_dup d8_16_104 rfl ?_
            refine xj_get d8_16_105 f8_30_4 ((ho11 rd (by omega)).trans kR) (by omega) (show rd < M11.1 by omega) rfl ?_
            refine xj_iconst (v := 1) d8_16_108 (by decide) ?_
            refine xj_iadd (v := nI (a + 1)) d8_16_109 (nI_1 _) ?_
            refine xj_put (a := rd) (fs' := [.ref gw9, .int 0, .ref 18, .int (nI pl), .int (nI (a + 1)), .ref ga9, .int (nI r.length)]) d8_16_110 f8_30_4 ((ho11 rd (by omega)).trans kR) (by omega) (show rd < M11.1 by omega) (Nat.le_of_ble_eq_true rfl) rfl rfl rfl ?_
            refine xj_abs_set (fun M12 hs12 ha12 ho12 => ?_)
            refine xj_goto (tgt := 147) d8_16_113 rfl ?_
            have hp9 : pItem fp pl (a, 0, cs) = (a + 1, 0, pOr cs (pch fp pl a) (pch fp pl a)) := (if_neg (fun q => g2 q.2)).trans ((if_neg (fun q => q.2.elim g3 g4)).trans (if_neg (fun q => g5 q.1)))
            exact xj_ret d8_16_147 (by omega) (by omega) rfl ⟨rfl, by rw [hp9]; exact ⟨fun _ => hgo M12 (a + 1) _ _ (by omega) ha12 ((ho12 S (by omega)).trans ha11) (by rw [hcx]; exact cB_ls (u := cx) (v := cx) kB (by omega) (by omega) (by omega)) (fun y hlt hy hyS => ((ho12 y (by omega)).trans (ho11 y (by omega)))), fun q => absurd rfl q⟩⟩
          · refine xj_iload (i := 4) d8_16_85 rfl ?_
            refine xj_bipush (v := 93) d8_16_87 (by decide) ?_
            refine xj_icmp_eq (tgt := 97) d8_16_89 rfl (fun g6 => ?_) (fun g6 => ?_)
            · refine xj_aload_n (i := 1) d8_16_97 rfl rfl ?_
              refine xj_iload_n (i := 2) d8_16_98 rfl rfl ?_
              refine xj_iload_n (i := 2) d8_16_99 rfl rfl ?_
              refine xj_callV (rest := []) (As := [.int (nI cx), .int (nI cx)]) (b := S) (xList hg hxn (M := M) (n := M.1) (u0 := cx) (v0 := cx) (q := z) rfl (by omega) (by omega) (by omega) kS (by omega) (by omega)) d8_16_100 wd4_2 kS (by omega) (show S < M.1 by omega) rfl w645 w644 (Or.inl w643) rfl rfl (Nat.le_of_ble_eq_true rfl) (by omega) (by omega) (by omega) ?_
              rintro v M13 ⟨rfl, hs13, ho13, ha13⟩
              refine xj_aload_n (i := 0) d8_16_103 rfl rfl ?_
              refine xj_dup d8_16_104 rfl ?_
              refine xj_get d8_16_105 f8_30_4 ((ho13 rd (by omega)).trans kR) (by omega) (show rd < M13.1 by omega) rfl ?_
              refine xj_iconst (v := 1) d8_16_108 (by decide) ?_
              refine xj_iadd (v := nI (a + 1)) d8_16_109 (nI_1 _) ?_
              refine xj_put (a := rd) (fs' := [.ref gw9, .int 0, .ref 18, .int (nI pl), .int (nI (a + 1)), .ref ga9, .int (nI r.length)]) d8_16_110 f8_30_4 ((ho13 rd (by omega)).trans kR) (by omega) (show rd < M13.1 by omega) (Nat.le_of_ble_eq_true rfl) rfl rfl rfl ?_
              refine xj_abs_set (fun M14 hs14 ha14 ho14 => ?_)
              refine xj_goto (tgt := 147) d8_16_113 rfl ?_
              have hp9 : pItem fp pl (a, 0, cs) = (a + 1, 0, pOr cs (pch fp pl a) (pch fp pl a)) := (if_neg (fun q => g2 q.2)).trans ((if_neg (fun q => q.2.elim g3 g4)).trans (if_neg (fun q => q.2.2 (hcy.trans g6))))
              exact xj_ret d8_16_147 (by omega) (by omega) rfl ⟨rfl, by rw [hp9]; exact ⟨fun _ => hgo M14 (a + 1) _ _ (by omega) ha14 ((ho14 S (by omega)).trans ha13) (by rw [hcx]; exact cB_ls (u := cx) (v := cx) kB (by omega) (by omega) (by omega)) (fun y hlt hy hyS => ((ho14 y (by omega)).trans (ho13 y (by omega)))), fun q => absurd rfl q⟩⟩
            · refine xj_iload (i := 4) d8_16_92 rfl ?_
              refine xj_if_ne (tgt := 116) d8_16_94 rfl (fun g7 => ?_) (fun g7 => ?_)
              · refine xj_iload (i := 4) d8_16_116 rfl ?_
                refine xj_iload_n (i := 2) d8_16_118 rfl rfl ?_
                refine xj_icmp_ge (tgt := 130) d8_16_119 rfl (fun g8 => ?_) (fun g8 => ?_)
                · refine xj_aload_n (i := 1) d8_16_130 rfl rfl ?_
                  refine xj_iload_n (i := 2) d8_16_131 rfl rfl ?_
                  refine xj_iload (i := 4) d8_16_132 rfl ?_
                  have hin0 : a + 2 < pl := pch_in rfl (fun q => g7 (hcy.symm.trans q))
                  have hxy0 : cx ≤ cy := Classical.byContradiction fun q => absurd (show nI cx ≤ nI cy from g8) (nI_ge (by omega) (by omega))
                  refine xj_callV (rest := []) (As := [.int (nI cx), .int (nI cy)]) (b := S) (xList hg hxn (M := M) (n := M.1) (u0 := cx) (v0 := cy) (q := z) rfl (by omega) (by omega) (by omega) kS (by omega) (by omega)) d8_16_134 wd4_2 kS (by omega) (show S < M.1 by omega) rfl w645 w644 (Or.inl w643) rfl rfl (Nat.le_of_ble_eq_true rfl) (by omega) (by omega) (by omega) ?_
                  rintro v M15 ⟨rfl, hs15, ho15, ha15⟩
                  refine xj_aload_n (i := 0) d8_16_137 rfl rfl ?_
                  refine xj_dup d8_16_138 rfl ?_
                  refine xj_get d8_16_139 f8_30_4 ((ho15 rd (by omega)).trans kR) (by omega) (show rd < M15.1 by omega) rfl ?_
                  refine xj_iconst (v := 3) d8_16_142 (by decide) ?_
                  refine xj_iadd (v := nI (a + 3)) d8_16_143 (nI_add a 3) ?_
                  refine xj_put (a := rd) (fs' := [.ref gw9, .int 0, .ref 18, .int (nI pl), .int (nI (a + 3)), .ref ga9, .int (nI r.length)]) d8_16_144 f8_30_4 ((ho15 rd (by omega)).trans kR) (by omega) (show rd < M15.1 by omega) (Nat.le_of_ble_eq_true rfl) rfl rfl rfl ?_
                  refine xj_abs_set (fun M16 hs16 ha16 ho16 => ?_)
                  have hin : a + 2 < pl := pch_in rfl (fun q => g7 (hcy.symm.trans q))
                  have hcy2 : 32 ≤ cy := by
                    obtain ⟨u2, hu2, hu3⟩ := hPR (a + 2) hin
                    have hz : nI cy = nI (u2 + 32) := hcy.symm.trans ((if_pos hin).trans hu3)
                    have := (nI_eq (a := cy) (b := u2 + 32) (by omega) (by omega)).mp hz
                    omega
                  have hxy : cx ≤ cy := Classical.byContradiction fun q => absurd (show nI cx ≤ nI cy from g8) (nI_ge (by omega) (by omega))
                  have hp9 : pItem fp pl (a, 0, cs) = (a + 3, 0, pOr cs (pch fp pl a) (pch fp pl (a + 2))) := (if_neg (fun q => g2 q.2)).trans ((if_neg (fun q => q.2.elim g3 g4)).trans ((if_pos ⟨g5, (fun q => g7 (hcy.symm.trans q)), (fun q => g6 (hcy.symm.trans q))⟩).trans (if_neg (by rw [show pch fp pl ((a, (0 : Int32), cs).1 + 2) = nI cy from hcy, show pch fp pl (a, (0 : Int32), cs).1 = nI cx from hcx]; exact Int32.not_lt.mpr g8))))
                  exact xj_ret d8_16_147 (by omega) (by omega) rfl ⟨rfl, by rw [hp9]; exact ⟨fun _ => hgo M16 (a + 3) _ _ (by omega) ha16 ((ho16 S (by omega)).trans ha15) (by rw [hcx, hcy]; exact cB_ls (u := cx) (v := cy) kB (by omega) (by omega) (by omega)) (fun y hlt hy hyS => ((ho16 y (by omega)).trans (ho15 y (by omega)))), fun q => absurd rfl q⟩⟩
                · refine xj_aload_n (i := 0) d8_16_122 rfl rfl ?_
                  refine xj_iconst (v := 5) d8_16_123 (by decide) ?_
                  refine xj_put (a := rd) (fs' := [.ref gw9, .int 5, .ref 18, .int (nI pl), .int (nI a), .ref ga9, .int (nI r.length)]) d8_16_124 f8_33_4 kR (by omega) (show rd < M.1 by omega) (Nat.le_of_ble_eq_true rfl) rfl rfl rfl ?_
                  refine xj_abs_set (fun M17 hs17 ha17 ho17 => ?_)
                  refine xj_goto (tgt := 147) d8_16_127 rfl ?_
                  have hp9 : pItem fp pl (a, 0, cs) = (a, 5, cs) := (if_neg (fun q => g2 q.2)).trans ((if_neg (fun q => q.2.elim g3 g4)).trans ((if_pos ⟨g5, (fun q => g7 (hcy.symm.trans q)), (fun q => g6 (hcy.symm.trans q))⟩).trans (if_pos (by rw [show pch fp pl ((a, (0 : Int32), cs).1 + 2) = nI cy from hcy, show pch fp pl (a, (0 : Int32), cs).1 = nI cx from hcx]; exact Int32.not_le.mp g8))))
                  exact xj_ret d8_16_147 (by omega) (by omega) rfl ⟨rfl, by rw [hp9]; exact ⟨fun q => absurd q (show ¬ (5 : Int32) = 0 by decide), fun _ => hfa M17 5 (by omega) ha17 (by omega) (fun y hlt hy hyS => (ho17 y (by omega)))⟩⟩
              · refine xj_aload_n (i := 1) d8_16_97 rfl rfl ?_
                refine xj_iload_n (i := 2) d8_16_98 rfl rfl ?_
                refine xj_iload_n (i := 2) d8_16_99 rfl rfl ?_
                refine xj_callV (rest := []) (As := [.int (nI cx), .int (nI cx)]) (b := S) (xList hg hxn (M := M) (n := M.1) (u0 := cx) (v0 := cx) (q := z) rfl (by omega) (by omega) (by omega) kS (by omega) (by omega)) d8_16_100 wd4_2 kS (by omega) (show S < M.1 by omega) rfl w645 w644 (Or.inl w643) rfl rfl (Nat.le_of_ble_eq_true rfl) (by omega) (by omega) (by omega) ?_
                rintro v M18 ⟨rfl, hs18, ho18, ha18⟩
                refine xj_aload_n (i := 0) d8_16_103 rfl rfl ?_
                refine xj_dup d8_16_104 rfl ?_
                refine xj_get d8_16_105 f8_30_4 ((ho18 rd (by omega)).trans kR) (by omega) (show rd < M18.1 by omega) rfl ?_
                refine xj_iconst (v := 1) d8_16_108 (by decide) ?_
                refine xj_iadd (v := nI (a + 1)) d8_16_109 (nI_1 _) ?_
                refine xj_put (a := rd) (fs' := [.ref gw9, .int 0, .ref 18, .int (nI pl), .int (nI (a + 1)), .ref ga9, .int (nI r.length)]) d8_16_110 f8_30_4 ((ho18 rd (by omega)).trans kR) (by omega) (show rd < M18.1 by omega) (Nat.le_of_ble_eq_true rfl) rfl rfl rfl ?_
                refine xj_abs_set (fun M19 hs19 ha19 ho19 => ?_)
                refine xj_goto (tgt := 147) d8_16_113 rfl ?_
                have hp9 : pItem fp pl (a, 0, cs) = (a + 1, 0, pOr cs (pch fp pl a) (pch fp pl a)) := (if_neg (fun q => g2 q.2)).trans ((if_neg (fun q => q.2.elim g3 g4)).trans (if_neg (fun q => q.2.1 (hcy.trans g7))))
                exact xj_ret d8_16_147 (by omega) (by omega) rfl ⟨rfl, by rw [hp9]; exact ⟨fun _ => hgo M19 (a + 1) _ _ (by omega) ha19 ((ho19 S (by omega)).trans ha18) (by rw [hcx]; exact cB_ls (u := cx) (v := cx) kB (by omega) (by omega) (by omega)) (fun y hlt hy hyS => ((ho19 y (by omega)).trans (ho18 y (by omega)))), fun q => absurd rfl q⟩⟩
        · refine xj_aload_n (i := 0) d8_16_70 rfl rfl ?_
          refine xj_bipush (v := 6) d8_16_71 (by decide) ?_
          refine xj_put (a := rd) (fs' := [.ref gw9, .int 6, .ref 18, .int (nI pl), .int (nI a), .ref ga9, .int (nI r.length)]) d8_16_73 f8_33_4 kR (by omega) (show rd < M.1 by omega) (Nat.le_of_ble_eq_true rfl) rfl rfl rfl ?_
          refine xj_abs_set (fun M20 hs20 ha20 ho20 => ?_)
          refine xj_goto (tgt := 147) d8_16_76 rfl ?_
          have hp9 : pItem fp pl (a, 0, cs) = (a, 6, cs) := (if_neg (fun q => g2 q.2)).trans (if_pos ⟨hcx.trans g1, Or.inr g4⟩)
          exact xj_ret d8_16_147 (by omega) (by omega) rfl ⟨rfl, by rw [hp9]; exact ⟨fun q => absurd q (show ¬ (6 : Int32) = 0 by decide), fun _ => hfa M20 6 (by omega) ha20 (by omega) (fun y hlt hy hyS => (ho20 y (by omega)))⟩⟩
    · refine xj_aload_n (i := 0) d8_16_44 rfl rfl ?_
      refine xj_aload_n (i := 1) d8_16_45 rfl rfl ?_
      refine xj_callV (rest := []) (As := [.ref S]) (b := rd) (kClass hg hxn hSC hpl hpx hPR h18 hr hI hap (hcx.trans g1) g2) d8_16_46 wd8_17 kR (by omega) (show rd < M.1 by omega) rfl s8_17 w677 (Or.inl w675) rfl rfl (Nat.le_of_ble_eq_true rfl) (by omega) (by omega) (by omega) ?_
      rintro v MX ⟨rfl, hC9⟩
      refine xj_goto (tgt := 147) d8_16_49 rfl ?_
      exact xj_ret d8_16_147 (by omega) (by omega) rfl ⟨rfl, hC9⟩
noncomputable def pBr2 (pl : Nat) (ng : Bool) (q : Nat × Int32 × (Nat → Bool)) (σ : xSg) : xSg := if ¬ q.2.1 = 0 then pFau σ q.2.1 else if pl ≤ q.1 then pFau σ 5 else pPiece (q.1 + 1, σ.2) (1, 1, [], 0, 0, if ng = true then fun k => !q.2.2 k else q.2.2)
theorem pBr2_1 {fp : Nat → Int32} {pl : Nat} {σ : xSg} (h : pch fp pl σ.1 = 94) : pBracket fp pl σ = pBr2 pl true (pItems fp pl pl true (σ.1 + 1, 0, pNo)) σ := by
  unfold pBracket pBr2 pBrk
  rw [if_pos h]
  simp [h]
theorem pBr2_0 {fp : Nat → Int32} {pl : Nat} {σ : xSg} (h : ¬ pch fp pl σ.1 = 94) : pBracket fp pl σ = pBr2 pl false (pItems fp pl pl true (σ.1, 0, pNo)) σ := by
  unfold pBracket pBr2 pBrk
  rw [if_neg h]
  simp [h]
theorem pItems_f {fp : Nat → Int32} {pl : Nat} {b : Bool} {q : Nat × Int32 × (Nat → Bool)} (h : ¬ q.2.1 = 0) (m : Nat) : pItems fp pl m b q = q := by
  cases m with
  | zero => rfl
  | succ m => exact if_neg (fun z => h z.1)
set_option maxRecDepth 20000 in
set_option maxHeartbeats 4000000 in
theorem kSetL0 {G : xG} (hg : xGood G) (hxn : xn = 16) (hZ : va_Z "java/util/ArrayList" "DEFAULTCAPACITY_EMPTY_ELEMENTDATA" "[Ljava/lang/Object;" (.ref (xa G 1)) (fun q => (xs G).heap.size ≤ q) (xs G) (xs G).heap) (hT : va_T (.object "java/lang/Object") (xa G 1) 0 (fun _ => .null) (fun q => (xs G).heap.size ≤ q) (xs G) (xs G).heap) (hMi : xHM G) (hSC : xSC G) {px fp : Nat → Int32} {rd : Nat} {M0 : xM} {pl S as a0 : Nat} {A : List xNode} {t : List Nat × List Nat} {r : List (List Nat × List Nat)} {lo : Nat → Nat} (hpl : pl ≤ 24) (hpx : ∀ j, j < pl → px j = fp j) (hPR : ∀ j, j < pl → ∃ u1, u1 < 95 ∧ fp j = nI (u1 + 32)) (h18 : M0.2 18 = (.inl (1, 24, .inl px))) (hr : r.length ≤ 6) (hZp : pZ lo (a0, 0, A, t :: r)) {d ce se cells slots : Nat} (hd : 8 ≤ d) (hcc : cells + 1 ≤ ce) (hss : slots + 40 ≤ se) : ∀ (m it a : Nat) (cs : Nat → Bool) (M : xM), it + m = pl → it ≤ a → a0 ≤ a → a ≤ pl → cI rd M0 pl S M (a, 0, A, t :: r) cs → XJ G Y8_15 d ce se cells slots 43 [(3, .int (nI it)), (2, .int 0), (1, .ref S), (0, .ref rd)] [] M (fun v M' => v = none ∧ cX rd M0 pl M' (pBr2 pl false (pItems fp pl m (decide (it = 0)) (a, 0, cs)) (as, 0, A, t :: r))) := by
  intro m
  induction m with
  | zero =>
    intro it a cs M hm hia ha0 hapl hI
    obtain ⟨ga9, gw9, z, kR, ⟨e1, e2, e3, e4, e5, e6, e7, e8⟩, cfr, kS, kB, hgo, hfa⟩ := cI_open hI hr
    replace kR : M.2 rd = (.inr (4, [.ref gw9, .int 0, .ref 18, .int (nI pl), .int (nI a), .ref ga9, .int (nI r.length)])) := kR
    have k18 : M.2 18 = (.inl (1, 24, .inl px)) := (cfr 18 (by omega)).trans h18
    have hset : pBr2 pl false (pItems fp pl 0 (decide (it = 0)) (a, 0, cs)) (as, 0, A, t :: r) = pFau (as, 0, A, t :: r) 5 := (if_neg (fun q => q rfl)).trans (if_pos (by show pl ≤ a; omega))
    refine xj_iload_n (i := 3) d8_15_43 rfl rfl ?_
    refine xj_aload_n (i := 0) d8_15_44 rfl rfl ?_
    refine xj_get d8_15_45 f8_26_4 kR (by omega) (show rd < M.1 by omega) rfl ?_
    refine xj_icmp_ge (tgt := 125) d8_15_48 rfl (fun _ => ?_) (fun h => absurd (nI_le (a := pl) (b := it) (by omega) (by omega)) h)
    refine xj_aload_n (i := 0) d8_15_125 rfl rfl ?_
    refine xj_get d8_15_126 f8_33_4 kR (by omega) (show rd < M.1 by omega) rfl ?_
    refine xj_if_ne (tgt := 137) d8_15_129 rfl (fun h => absurd (by decide) h) (fun _ => ?_)
    refine xj_aload_n (i := 0) d8_15_132 rfl rfl ?_
    refine xj_iconst (v := 5) d8_15_133 (by decide) ?_
    refine xj_put (a := rd) (fs' := [.ref gw9, .int 5, .ref 18, .int (nI pl), .int (nI a), .ref ga9, .int (nI r.length)]) d8_15_134 f8_33_4 kR (by omega) (show rd < M.1 by omega) (Nat.le_of_ble_eq_true rfl) rfl rfl rfl ?_
    refine xj_abs_set (fun M1 hs1 ha1 ho1 => ?_)
    exact xj_ret d8_15_137 (by omega) (by omega) rfl ⟨rfl, by rw [hset]; exact ⟨fun q => absurd q (show ¬ (5 : Int32) = 0 by decide), fun _ => hfa M1 5 (by omega) ha1 (by omega) (fun y hlt hy hyS => (ho1 y (by omega)))⟩⟩
  | succ m ih =>
    intro it a cs M hm hia ha0 hapl hI
    obtain ⟨ga9, gw9, z, kR, ⟨e1, e2, e3, e4, e5, e6, e7, e8⟩, cfr, kS, kB, hgo, hfa⟩ := cI_open hI hr
    replace kR : M.2 rd = (.inr (4, [.ref gw9, .int 0, .ref 18, .int (nI pl), .int (nI a), .ref ga9, .int (nI r.length)])) := kR
    have k18 : M.2 18 = (.inl (1, 24, .inl px)) := (cfr 18 (by omega)).trans h18
    by_cases hap : a < pl
    · have hnext : (¬ (it ≠ 0 ∧ pch fp pl a = 93)) → ∀ M1 : xM, ((pItem fp pl (a, 0, cs)).2.1 = 0 → cI rd M0 pl S M1 ((pItem fp pl (a, 0, cs)).1, 0, A, t :: r) (pItem fp pl (a, 0, cs)).2.2) → (¬ (pItem fp pl (a, 0, cs)).2.1 = 0 → cF rd M0 pl M1 (pItem fp pl (a, 0, cs)).2.1) → XJ G Y8_15 d ce se cells slots 43 [(3, .int (nI (it + 1))), (2, .int 0), (1, .ref S), (0, .ref rd)] [] M1 (fun v M' => v = none ∧ cX rd M0 pl M' (pBr2 pl false (pItems fp pl (m + 1) (decide (it = 0)) (a, 0, cs)) (as, 0, A, t :: r))) := by
        intro hno M1 hi1 hi2
        have hset : pItems fp pl (m + 1) (decide (it = 0)) (a, 0, cs) = pItems fp pl m false (pItem fp pl (a, 0, cs)) := if_pos ⟨rfl, hap, by
          by_cases q : it = 0
          · exact Or.inl (decide_eq_true q)
          · exact Or.inr (fun z => hno ⟨q, z⟩)⟩
        by_cases hz : (pItem fp pl (a, 0, cs)).2.1 = 0
        · have hle := pItem_le (S := cs) hap hz
          have h9 := ih (it + 1) (pItem fp pl (a, 0, cs)).1 (pItem fp pl (a, 0, cs)).2.2 M1 (by omega) (by omega) (by omega) hle.2 (hi1 hz)
          rw [hset, xtri hz]
          rw [decide_eq_false (by omega)] at h9
          exact h9
        · obtain ⟨⟨f1, f2, f3⟩, ⟨f4, f5⟩, ga8, gw8, a8, og8, kR8, f6⟩ := hi2 hz
          obtain ⟨x8, hx8e⟩ : ∃ x8, (pItem fp pl (a, 0, cs)).2.1 = x8 := ⟨_, rfl⟩
          rw [hx8e] at kR8
          replace kR8 : M1.2 rd = (.inr (4, [.ref gw8, .int x8, .ref 18, .int (nI pl), .int (nI a8), .ref ga8, .int (nI og8)])) := kR8
          have hx8 : ¬ x8 = 0 := by rw [← hx8e]; exact hz
          refine xj_iload_n (i := 3) d8_15_43 rfl rfl ?_
          refine xj_aload_n (i := 0) d8_15_44 rfl rfl ?_
          refine xj_get d8_15_45 f8_26_4 kR8 (by omega) (show rd < M1.1 by omega) rfl ?_
          refine xj_icmp_ge (tgt := 125) d8_15_48 rfl (fun hb1 => ?_) (fun hb1 => ?_)
          · refine xj_aload_n (i := 0) d8_15_125 rfl rfl ?_
            refine xj_get d8_15_126 f8_33_4 kR8 (by omega) (show rd < M1.1 by omega) rfl ?_
            refine xj_if_ne (tgt := 137) d8_15_129 rfl (fun _ => ?_) (fun h => absurd h hx8)
            exact xj_ret d8_15_137 (by omega) (by omega) rfl ⟨rfl, by rw [hset, pItems_f hz, show pBr2 pl false (pItem fp pl (a, 0, cs)) (as, 0, A, t :: r) = pFau (as, 0, A, t :: r) (pItem fp pl (a, 0, cs)).2.1 from if_pos hz]; exact ⟨fun q => absurd q hz, fun _ => hi2 hz⟩⟩
          · refine xj_aload_n (i := 0) d8_15_51 rfl rfl ?_
            refine xj_get d8_15_52 f8_30_4 kR8 (by omega) (show rd < M1.1 by omega) rfl ?_
            refine xj_aload_n (i := 0) d8_15_55 rfl rfl ?_
            refine xj_get d8_15_56 f8_26_4 kR8 (by omega) (show rd < M1.1 by omega) rfl ?_
            refine xj_icmp_ge (tgt := 125) d8_15_59 rfl (fun hb2 => ?_) (fun hb2 => ?_)
            · refine xj_aload_n (i := 0) d8_15_125 rfl rfl ?_
              refine xj_get d8_15_126 f8_33_4 kR8 (by omega) (show rd < M1.1 by omega) rfl ?_
              refine xj_if_ne (tgt := 137) d8_15_129 rfl (fun _ => ?_) (fun h => absurd h hx8)
              exact xj_ret d8_15_137 (by omega) (by omega) rfl ⟨rfl, by rw [hset, pItems_f hz, show pBr2 pl false (pItem fp pl (a, 0, cs)) (as, 0, A, t :: r) = pFau (as, 0, A, t :: r) (pItem fp pl (a, 0, cs)).2.1 from if_pos hz]; exact ⟨fun q => absurd q hz, fun _ => hi2 hz⟩⟩
            · refine xj_aload_n (i := 0) d8_15_62 rfl rfl ?_
              refine xj_get d8_15_63 f8_33_4 kR8 (by omega) (show rd < M1.1 by omega) rfl ?_
              refine xj_if_ne (tgt := 125) d8_15_66 rfl (fun _ => ?_) (fun h => absurd h hx8)
              refine xj_aload_n (i := 0) d8_15_125 rfl rfl ?_
              refine xj_get d8_15_126 f8_33_4 kR8 (by omega) (show rd < M1.1 by omega) rfl ?_
              refine xj_if_ne (tgt := 137) d8_15_129 rfl (fun _ => ?_) (fun h => absurd h hx8)
              exact xj_ret d8_15_137 (by omega) (by omega) rfl ⟨rfl, by rw [hset, pItems_f hz, show pBr2 pl false (pItem fp pl (a, 0, cs)) (as, 0, A, t :: r) = pFau (as, 0, A, t :: r) (pItem fp pl (a, 0, cs)).2.1 from if_pos hz]; exact ⟨fun q => absurd q hz, fun _ => hi2 hz⟩⟩
      by_cases hi0 : it = 0
      · have hnext := hnext (fun q => q.1 hi0)
        refine xj_iload_n (i := 3) d8_15_43 rfl rfl ?_
        refine xj_aload_n (i := 0) d8_15_44 rfl rfl ?_
        refine xj_get d8_15_45 f8_26_4 kR (by omega) (show rd < M.1 by omega) rfl ?_
        refine xj_icmp_ge (tgt := 125) d8_15_48 rfl (fun h => absurd h (nI_ge (a := it) (b := pl) (by omega) (by omega))) (fun _ => ?_)
        refine xj_aload_n (i := 0) d8_15_51 rfl rfl ?_
        refine xj_get d8_15_52 f8_30_4 kR (by omega) (show rd < M.1 by omega) rfl ?_
        refine xj_aload_n (i := 0) d8_15_55 rfl rfl ?_
        refine xj_get d8_15_56 f8_26_4 kR (by omega) (show rd < M.1 by omega) rfl ?_
        refine xj_icmp_ge (tgt := 125) d8_15_59 rfl (fun h => absurd h (nI_ge (a := a) (b := pl) (by omega) (by omega))) (fun _ => ?_)
        refine xj_aload_n (i := 0) d8_15_62 rfl rfl ?_
        refine xj_get d8_15_63 f8_33_4 kR (by omega) (show rd < M.1 by omega) rfl ?_
        refine xj_if_ne (tgt := 125) d8_15_66 rfl (fun h => absurd (by decide) h) (fun _ => ?_)
        refine xj_iload_n (i := 3) d8_15_69 rfl rfl ?_
        refine xj_if_le (tgt := 114) d8_15_70 rfl (fun _ => ?_) (fun h => absurd (nI_le (a := it) (b := 0) (by omega) (by omega)) h)
        refine xj_aload_n (i := 0) d8_15_114 rfl rfl ?_
        refine xj_aload_n (i := 1) d8_15_115 rfl rfl ?_
        refine xj_callV (rest := []) (As := [.ref S]) (b := rd) (kItem hg hxn hSC hpl hpx hPR h18 hr hI hap) d8_15_116 wd8_16 kR (by omega) (show rd < M.1 by omega) rfl s8_16 w673 (Or.inl w671) rfl rfl (Nat.le_of_ble_eq_true rfl) (by omega) (by omega) (by omega) ?_
        rintro v M1 ⟨rfl, hi1, hi2⟩
        refine xj_iinc (v := nI (it + 1)) (L' := [(3, .int (nI (it + 1))), (2, .int 0), (1, .ref S), (0, .ref rd)]) d8_15_119 rfl (xinc _) (by decide) rfl ?_
        refine xj_goto (tgt := 43) d8_15_122 rfl ?_
        exact hnext M1 hi1 hi2
      · by_cases h93 : pch fp pl a = 93
        · skip
          refine xj_iload_n (i := 3) d8_15_43 rfl rfl ?_
          refine xj_aload_n (i := 0) d8_15_44 rfl rfl ?_
          refine xj_get d8_15_45 f8_26_4 kR (by omega) (show rd < M.1 by omega) rfl ?_
          refine xj_icmp_ge (tgt := 125) d8_15_48 rfl (fun h => absurd h (nI_ge (a := it) (b := pl) (by omega) (by omega))) (fun _ => ?_)
          refine xj_aload_n (i := 0) d8_15_51 rfl rfl ?_
          refine xj_get d8_15_52 f8_30_4 kR (by omega) (show rd < M.1 by omega) rfl ?_
          refine xj_aload_n (i := 0) d8_15_55 rfl rfl ?_
          refine xj_get d8_15_56 f8_26_4 kR (by omega) (show rd < M.1 by omega) rfl ?_
          refine xj_icmp_ge (tgt := 125) d8_15_59 rfl (fun h => absurd h (nI_ge (a := a) (b := pl) (by omega) (by omega))) (fun _ => ?_)
          refine xj_aload_n (i := 0) d8_15_62 rfl rfl ?_
          refine xj_get d8_15_63 f8_33_4 kR (by omega) (show rd < M.1 by omega) rfl ?_
          refine xj_if_ne (tgt := 125) d8_15_66 rfl (fun h => absurd (by decide) h) (fun _ => ?_)
          refine xj_iload_n (i := 3) d8_15_69 rfl rfl ?_
          refine xj_if_le (tgt := 114) d8_15_70 rfl (fun h => absurd h (nI_ge (a := 0) (b := it) (by omega) (by omega))) (fun _ => ?_)
          refine xj_aload_n (i := 0) d8_15_73 rfl rfl ?_
          refine xj_get d8_15_74 f8_22_4 kR (by omega) (show rd < M.1 by omega) rfl ?_
          refine xj_aload_n (i := 0) d8_15_77 rfl rfl ?_
          refine xj_get d8_15_78 f8_30_4 kR (by omega) (show rd < M.1 by omega) rfl ?_
          refine xj_caload (j := a) d8_15_81 k18 (by omega) (show 18 < M.1 by omega) (vp_in_nI (by omega) (by omega)) (nI_clamp (by omega)) ?_
          rw [show px a = pch fp pl a from ((hpx a hap).trans (if_pos hap).symm)]
          refine xj_bipush (v := 93) d8_15_82 (by decide) ?_
          refine xj_icmp_ne (tgt := 114) d8_15_84 rfl (fun h => absurd h93 h) (fun _ => ?_)
          refine xj_aload_n (i := 0) d8_15_87 rfl rfl ?_
          refine xj_dup d8_15_88 rfl ?_
          refine xj_get d8_15_89 f8_30_4 kR (by omega) (show rd < M.1 by omega) rfl ?_
          refine xj_iconst (v := 1) d8_15_92 (by decide) ?_
          refine xj_iadd (v := nI (a + 1)) d8_15_93 (nI_1 _) ?_
          refine xj_put (a := rd) (fs' := [.ref gw9, .int 0, .ref 18, .int (nI pl), .int (nI (a + 1)), .ref ga9, .int (nI r.length)]) d8_15_94 f8_30_4 kR (by omega) (show rd < M.1 by omega) (Nat.le_of_ble_eq_true rfl) rfl rfl rfl ?_
          refine xj_abs_set (fun M1 hs1 ha1 ho1 => ?_)
          refine xj_iload_n (i := 2) d8_15_97 rfl rfl ?_
          refine xj_if_eq (tgt := 105) d8_15_98 rfl (fun _ => ?_) (fun h => absurd (by decide) h)
          refine xj_aload_n (i := 0) d8_15_105 rfl rfl ?_
          have hI2 := hgo M1 (a + 1) z cs (by omega) ha1 ((ho1 S (by omega)).trans kS) kB (fun y hlt hy hyS => (ho1 y (by omega)))
          obtain ⟨ga, fg, ow, rk, ad, gA, bA, μ, hH2, ⟨s1, s2, s3, s4⟩, z2, k1, k2⟩ := hI2
          obtain ⟨_, _, blx, px9, ndx, ⟨rfl, rfl, efgx⟩, ⟨b1x, b2x, b3x, b4x, b5x, b6x, b7x, b8x⟩, ⟨kRx, kgsx, kgox, kbox⟩, ⟨klpx, klbx⟩, ⟨og1x, og2x, og3x, og4x⟩, ⟨c1x, c2x, c3x, c4x, c5x, c6x, c7x, c8x, c9x, c10x, c11x, c12x⟩, cfrx, ⟨n1x, n2x, n3x, n4x, n5x, n6x, n7x, n8x, n9x, n10x, n11x, n12x, n13x, n14x⟩, oRx, ogsx⟩ := cH_top hH2 hxn
          replace kRx : M1.2 rd = (.inr (4, [.ref (gA 0), .int 0, .ref 18, .int (nI pl), .int (nI (a + 1)), .ref ga, .int (nI r.length)])) := kRx
          have hX3 : cN M1 ow rk ad (3 * A.length + 100) S lk0 (0, 0, 0, fun _ => 0) (1, 1, [], 0, 0, cs) := cN_set (z := z2) (by omega) s2 s3 s4 k1 k2 rfl
          refine xj_callV (rest := []) (As := []) (b := rd) (bBr hg (M := M1) (n := M1.1) (rd := rd) (gw := gA 0) (ft := 0) (pl := pl) (a := a + 1) (ga := ga) (og := r.length) (fg := fg) (g := gA r.length) (bl := blx) (b := bA r.length) (gv := .null) rfl (by omega) (by omega) (by omega) kRx (by omega) (by omega) kgsx (by omega) (by omega) kgox (by omega) efgx) d8_15_106 wd8_5 kRx (by omega) (show rd < M1.1 by omega) rfl s8_5 w450 (Or.inl w448) rfl rfl (Nat.le_of_ble_eq_true rfl) (by omega) (by omega) (by omega) ?_
          rintro v M' ⟨rfl, hm⟩
          subst M'
          refine xj_aload_n (i := 1) d8_15_109 rfl rfl ?_
          refine xj_callV (rest := []) (As := [.ref S]) (b := bA r.length) (cAddX hg hxn hZ hT hMi hH2 (pZ_Y hZp) hX3 (by show 1 ≤ 1; decide) (by show 1 ≤ 6; decide) (fun c hc => absurd hc (by simp))) d8_15_110 wd3_3 kbox (by omega) (show bA r.length < M1.1 by omega) rfl w462 w461 (Or.inl w460) rfl rfl (Nat.le_of_ble_eq_true rfl) (by omega) (by omega) (by omega) ?_
          rintro v M9 ⟨rfl, hE9⟩
          have hset : pItems fp pl (m + 1) (decide (it = 0)) (a, 0, cs) = (a, 0, cs) := if_neg (fun q => q.2.2.elim (fun z => by rw [decide_eq_false (by omega)] at z; cases z) (fun z => z h93))
          have hv9 : pBr2 pl false (a, 0, cs) (as, 0, A, t :: r) = (a + 1, 0, A ++ [(1, 1, [], 0, 0, cs)], (t.1, t.2 ++ [A.length]) :: r) := (if_neg (fun q => q rfl)).trans (if_neg (by show ¬ pl ≤ a; omega))
          have hZ2 := pZ_leaf (q := (1, 1, [], 0, 0, cs)) (x' := 0) (a' := a + 1) hZp (by show 1 ≤ 3; decide) (by show 1 ≤ 1; decide) rfl rfl (by omega) (by omega)
          exact xj_ret d8_15_113 (by omega) (by omega) rfl ⟨rfl, by rw [hset, hv9]; exact ⟨fun _ => ⟨hE9, _, hZ2⟩, fun q => absurd rfl q⟩⟩
        · have hnext := hnext (fun q => h93 q.2)
          refine xj_iload_n (i := 3) d8_15_43 rfl rfl ?_
          refine xj_aload_n (i := 0) d8_15_44 rfl rfl ?_
          refine xj_get d8_15_45 f8_26_4 kR (by omega) (show rd < M.1 by omega) rfl ?_
          refine xj_icmp_ge (tgt := 125) d8_15_48 rfl (fun h => absurd h (nI_ge (a := it) (b := pl) (by omega) (by omega))) (fun _ => ?_)
          refine xj_aload_n (i := 0) d8_15_51 rfl rfl ?_
          refine xj_get d8_15_52 f8_30_4 kR (by omega) (show rd < M.1 by omega) rfl ?_
          refine xj_aload_n (i := 0) d8_15_55 rfl rfl ?_
          refine xj_get d8_15_56 f8_26_4 kR (by omega) (show rd < M.1 by omega) rfl ?_
          refine xj_icmp_ge (tgt := 125) d8_15_59 rfl (fun h => absurd h (nI_ge (a := a) (b := pl) (by omega) (by omega))) (fun _ => ?_)
          refine xj_aload_n (i := 0) d8_15_62 rfl rfl ?_
          refine xj_get d8_15_63 f8_33_4 kR (by omega) (show rd < M.1 by omega) rfl ?_
          refine xj_if_ne (tgt := 125) d8_15_66 rfl (fun h => absurd (by decide) h) (fun _ => ?_)
          refine xj_iload_n (i := 3) d8_15_69 rfl rfl ?_
          refine xj_if_le (tgt := 114) d8_15_70 rfl (fun h => absurd h (nI_ge (a := 0) (b := it) (by omega) (by omega))) (fun _ => ?_)
          refine xj_aload_n (i := 0) d8_15_73 rfl rfl ?_
          refine xj_get d8_15_74 f8_22_4 kR (by omega) (show rd < M.1 by omega) rfl ?_
          refine xj_aload_n (i := 0) d8_15_77 rfl rfl ?_
          refine xj_get d8_15_78 f8_30_4 kR (by omega) (show rd < M.1 by omega) rfl ?_
          refine xj_caload (j := a) d8_15_81 k18 (by omega) (show 18 < M.1 by omega) (vp_in_nI (by omega) (by omega)) (nI_clamp (by omega)) ?_
          rw [show px a = pch fp pl a from ((hpx a hap).trans (if_pos hap).symm)]
          refine xj_bipush (v := 93) d8_15_82 (by decide) ?_
          refine xj_icmp_ne (tgt := 114) d8_15_84 rfl (fun _ => ?_) (fun h => absurd h h93)
          refine xj_aload_n (i := 0) d8_15_114 rfl rfl ?_
          refine xj_aload_n (i := 1) d8_15_115 rfl rfl ?_
          refine xj_callV (rest := []) (As := [.ref S]) (b := rd) (kItem hg hxn hSC hpl hpx hPR h18 hr hI hap) d8_15_116 wd8_16 kR (by omega) (show rd < M.1 by omega) rfl s8_16 w673 (Or.inl w671) rfl rfl (Nat.le_of_ble_eq_true rfl) (by omega) (by omega) (by omega) ?_
          rintro v M1 ⟨rfl, hi1, hi2⟩
          refine xj_iinc (v := nI (it + 1)) (L' := [(3, .int (nI (it + 1))), (2, .int 0), (1, .ref S), (0, .ref rd)]) d8_15_119 rfl (xinc _) (by decide) rfl ?_
          refine xj_goto (tgt := 43) d8_15_122 rfl ?_
          exact hnext M1 hi1 hi2
    · have hset : pBr2 pl false (pItems fp pl (m + 1) (decide (it = 0)) (a, 0, cs)) (as, 0, A, t :: r) = pFau (as, 0, A, t :: r) 5 := by
        rw [show pItems fp pl (m + 1) (decide (it = 0)) (a, 0, cs) = (a, 0, cs) from if_neg (fun q => hap q.2.1)]
        exact (if_neg (fun q => q rfl)).trans (if_pos (by show pl ≤ a; omega))
      refine xj_iload_n (i := 3) d8_15_43 rfl rfl ?_
      refine xj_aload_n (i := 0) d8_15_44 rfl rfl ?_
      refine xj_get d8_15_45 f8_26_4 kR (by omega) (show rd < M.1 by omega) rfl ?_
      refine xj_icmp_ge (tgt := 125) d8_15_48 rfl (fun h => absurd h (nI_ge (a := it) (b := pl) (by omega) (by omega))) (fun _ => ?_)
      refine xj_aload_n (i := 0) d8_15_51 rfl rfl ?_
      refine xj_get d8_15_52 f8_30_4 kR (by omega) (show rd < M.1 by omega) rfl ?_
      refine xj_aload_n (i := 0) d8_15_55 rfl rfl ?_
      refine xj_get d8_15_56 f8_26_4 kR (by omega) (show rd < M.1 by omega) rfl ?_
      refine xj_icmp_ge (tgt := 125) d8_15_59 rfl (fun _ => ?_) (fun h => absurd (nI_le (a := pl) (b := a) (by omega) (by omega)) h)
      refine xj_aload_n (i := 0) d8_15_125 rfl rfl ?_
      refine xj_get d8_15_126 f8_33_4 kR (by omega) (show rd < M.1 by omega) rfl ?_
      refine xj_if_ne (tgt := 137) d8_15_129 rfl (fun h => absurd (by decide) h) (fun _ => ?_)
      refine xj_aload_n (i := 0) d8_15_132 rfl rfl ?_
      refine xj_iconst (v := 5) d8_15_133 (by decide) ?_
      refine xj_put (a := rd) (fs' := [.ref gw9, .int 5, .ref 18, .int (nI pl), .int (nI a), .ref ga9, .int (nI r.length)]) d8_15_134 f8_33_4 kR (by omega) (show rd < M.1 by omega) (Nat.le_of_ble_eq_true rfl) rfl rfl rfl ?_
      refine xj_abs_set (fun M1 hs1 ha1 ho1 => ?_)
      exact xj_ret d8_15_137 (by omega) (by omega) rfl ⟨rfl, by rw [hset]; exact ⟨fun q => absurd q (show ¬ (5 : Int32) = 0 by decide), fun _ => hfa M1 5 (by omega) ha1 (by omega) (fun y hlt hy hyS => (ho1 y (by omega)))⟩⟩
set_option maxRecDepth 20000 in
set_option maxHeartbeats 4000000 in
theorem kSetL1 {G : xG} (hg : xGood G) (hxn : xn = 16) (hZ : va_Z "java/util/ArrayList" "DEFAULTCAPACITY_EMPTY_ELEMENTDATA" "[Ljava/lang/Object;" (.ref (xa G 1)) (fun q => (xs G).heap.size ≤ q) (xs G) (xs G).heap) (hT : va_T (.object "java/lang/Object") (xa G 1) 0 (fun _ => .null) (fun q => (xs G).heap.size ≤ q) (xs G) (xs G).heap) (hMi : xHM G) (hSC : xSC G) {px fp : Nat → Int32} {rd : Nat} {M0 : xM} {pl S as a0 : Nat} {A : List xNode} {t : List Nat × List Nat} {r : List (List Nat × List Nat)} {lo : Nat → Nat} (hpl : pl ≤ 24) (hpx : ∀ j, j < pl → px j = fp j) (hPR : ∀ j, j < pl → ∃ u1, u1 < 95 ∧ fp j = nI (u1 + 32)) (h18 : M0.2 18 = (.inl (1, 24, .inl px))) (hr : r.length ≤ 6) (hZp : pZ lo (a0, 0, A, t :: r)) {d ce se cells slots : Nat} (hd : 8 ≤ d) (hcc : cells + 1 ≤ ce) (hss : slots + 40 ≤ se) : ∀ (m it a : Nat) (cs : Nat → Bool) (M : xM), it + m = pl → it ≤ a → a0 ≤ a → a ≤ pl → cI rd M0 pl S M (a, 0, A, t :: r) cs → XJ G Y8_15 d ce se cells slots 43 [(3, .int (nI it)), (2, .int 1), (1, .ref S), (0, .ref rd)] [] M (fun v M' => v = none ∧ cX rd M0 pl M' (pBr2 pl true (pItems fp pl m (decide (it = 0)) (a, 0, cs)) (as, 0, A, t :: r))) := by
  intro m
  induction m with
  | zero =>
    intro it a cs M hm hia ha0 hapl hI
    obtain ⟨ga9, gw9, z, kR, ⟨e1, e2, e3, e4, e5, e6, e7, e8⟩, cfr, kS, kB, hgo, hfa⟩ := cI_open hI hr
    replace kR : M.2 rd = (.inr (4, [.ref gw9, .int 0, .ref 18, .int (nI pl), .int (nI a), .ref ga9, .int (nI r.length)])) := kR
    have k18 : M.2 18 = (.inl (1, 24, .inl px)) := (cfr 18 (by omega)).trans h18
    have hset : pBr2 pl true (pItems fp pl 0 (decide (it = 0)) (a, 0, cs)) (as, 0, A, t :: r) = pFau (as, 0, A, t :: r) 5 := (if_neg (fun q => q rfl)).trans (if_pos (by show pl ≤ a; omega))
    refine xj_iload_n (i := 3) d8_15_43 rfl rfl ?_
    refine xj_aload_n (i := 0) d8_15_44 rfl rfl ?_
    refine xj_get d8_15_45 f8_26_4 kR (by omega) (show rd < M.1 by omega) rfl ?_
    refine xj_icmp_ge (tgt := 125) d8_15_48 rfl (fun _ => ?_) (fun h => absurd (nI_le (a := pl) (b := it) (by omega) (by omega)) h)
    refine xj_aload_n (i := 0) d8_15_125 rfl rfl ?_
    refine xj_get d8_15_126 f8_33_4 kR (by omega) (show rd < M.1 by omega) rfl ?_
    refine xj_if_ne (tgt := 137) d8_15_129 rfl (fun h => absurd (by decide) h) (fun _ => ?_)
    refine xj_aload_n (i := 0) d8_15_132 rfl rfl ?_
    refine xj_iconst (v := 5) d8_15_133 (by decide) ?_
    refine xj_put (a := rd) (fs' := [.ref gw9, .int 5, .ref 18, .int (nI pl), .int (nI a), .ref ga9, .int (nI r.length)]) d8_15_134 f8_33_4 kR (by omega) (show rd < M.1 by omega) (Nat.le_of_ble_eq_true rfl) rfl rfl rfl ?_
    refine xj_abs_set (fun M1 hs1 ha1 ho1 => ?_)
    exact xj_ret d8_15_137 (by omega) (by omega) rfl ⟨rfl, by rw [hset]; exact ⟨fun q => absurd q (show ¬ (5 : Int32) = 0 by decide), fun _ => hfa M1 5 (by omega) ha1 (by omega) (fun y hlt hy hyS => (ho1 y (by omega)))⟩⟩
  | succ m ih =>
    intro it a cs M hm hia ha0 hapl hI
    obtain ⟨ga9, gw9, z, kR, ⟨e1, e2, e3, e4, e5, e6, e7, e8⟩, cfr, kS, kB, hgo, hfa⟩ := cI_open hI hr
    replace kR : M.2 rd = (.inr (4, [.ref gw9, .int 0, .ref 18, .int (nI pl), .int (nI a), .ref ga9, .int (nI r.length)])) := kR
    have k18 : M.2 18 = (.inl (1, 24, .inl px)) := (cfr 18 (by omega)).trans h18
    by_cases hap : a < pl
    · have hnext : (¬ (it ≠ 0 ∧ pch fp pl a = 93)) → ∀ M1 : xM, ((pItem fp pl (a, 0, cs)).2.1 = 0 → cI rd M0 pl S M1 ((pItem fp pl (a, 0, cs)).1, 0, A, t :: r) (pItem fp pl (a, 0, cs)).2.2) → (¬ (pItem fp pl (a, 0, cs)).2.1 = 0 → cF rd M0 pl M1 (pItem fp pl (a, 0, cs)).2.1) → XJ G Y8_15 d ce se cells slots 43 [(3, .int (nI (it + 1))), (2, .int 1), (1, .ref S), (0, .ref rd)] [] M1 (fun v M' => v = none ∧ cX rd M0 pl M' (pBr2 pl true (pItems fp pl (m + 1) (decide (it = 0)) (a, 0, cs)) (as, 0, A, t :: r))) := by
        intro hno M1 hi1 hi2
        have hset : pItems fp pl (m + 1) (decide (it = 0)) (a, 0, cs) = pItems fp pl m false (pItem fp pl (a, 0, cs)) := if_pos ⟨rfl, hap, by
          by_cases q : it = 0
          · exact Or.inl (decide_eq_true q)
          · exact Or.inr (fun z => hno ⟨q, z⟩)⟩
        by_cases hz : (pItem fp pl (a, 0, cs)).2.1 = 0
        · have hle := pItem_le (S := cs) hap hz
          have h9 := ih (it + 1) (pItem fp pl (a, 0, cs)).1 (pItem fp pl (a, 0, cs)).2.2 M1 (by omega) (by omega) (by omega) hle.2 (hi1 hz)
          rw [hset, xtri hz]
          rw [decide_eq_false (by omega)] at h9
          exact h9
        · obtain ⟨⟨f1, f2, f3⟩, ⟨f4, f5⟩, ga8, gw8, a8, og8, kR8, f6⟩ := hi2 hz
          obtain ⟨x8, hx8e⟩ : ∃ x8, (pItem fp pl (a, 0, cs)).2.1 = x8 := ⟨_, rfl⟩
          rw [hx8e] at kR8
          replace kR8 : M1.2 rd = (.inr (4, [.ref gw8, .int x8, .ref 18, .int (nI pl), .int (nI a8), .ref ga8, .int (nI og8)])) := kR8
          have hx8 : ¬ x8 = 0 := by rw [← hx8e]; exact hz
          refine xj_iload_n (i := 3) d8_15_43 rfl rfl ?_
          refine xj_aload_n (i := 0) d8_15_44 rfl rfl ?_
          refine xj_get d8_15_45 f8_26_4 kR8 (by omega) (show rd < M1.1 by omega) rfl ?_
          refine xj_icmp_ge (tgt := 125) d8_15_48 rfl (fun hb1 => ?_) (fun hb1 => ?_)
          · refine xj_aload_n (i := 0) d8_15_125 rfl rfl ?_
            refine xj_get d8_15_126 f8_33_4 kR8 (by omega) (show rd < M1.1 by omega) rfl ?_
            refine xj_if_ne (tgt := 137) d8_15_129 rfl (fun _ => ?_) (fun h => absurd h hx8)
            exact xj_ret d8_15_137 (by omega) (by omega) rfl ⟨rfl, by rw [hset, pItems_f hz, show pBr2 pl true (pItem fp pl (a, 0, cs)) (as, 0, A, t :: r) = pFau (as, 0, A, t :: r) (pItem fp pl (a, 0, cs)).2.1 from if_pos hz]; exact ⟨fun q => absurd q hz, fun _ => hi2 hz⟩⟩
          · refine xj_aload_n (i := 0) d8_15_51 rfl rfl ?_
            refine xj_get d8_15_52 f8_30_4 kR8 (by omega) (show rd < M1.1 by omega) rfl ?_
            refine xj_aload_n (i := 0) d8_15_55 rfl rfl ?_
            refine xj_get d8_15_56 f8_26_4 kR8 (by omega) (show rd < M1.1 by omega) rfl ?_
            refine xj_icmp_ge (tgt := 125) d8_15_59 rfl (fun hb2 => ?_) (fun hb2 => ?_)
            · refine xj_aload_n (i := 0) d8_15_125 rfl rfl ?_
              refine xj_get d8_15_126 f8_33_4 kR8 (by omega) (show rd < M1.1 by omega) rfl ?_
              refine xj_if_ne (tgt := 137) d8_15_129 rfl (fun _ => ?_) (fun h => absurd h hx8)
              exact xj_ret d8_15_137 (by omega) (by omega) rfl ⟨rfl, by rw [hset, pItems_f hz, show pBr2 pl true (pItem fp pl (a, 0, cs)) (as, 0, A, t :: r) = pFau (as, 0, A, t :: r) (pItem fp pl (a, 0, cs)).2.1 from if_pos hz]; exact ⟨fun q => absurd q hz, fun _ => hi2 hz⟩⟩
            · refine xj_aload_n (i := 0) d8_15_62 rfl rfl ?_
              refine xj_get d8_15_63 f8_33_4 kR8 (by omega) (show rd < M1.1 by omega) rfl ?_
              refine xj_if_ne (tgt := 125) d8_15_66 rfl (fun _ => ?_) (fun h => absurd h hx8)
              refine xj_aload_n (i := 0) d8_15_125 rfl rfl ?_
              refine xj_get d8_15_126 f8_33_4 kR8 (by omega) (show rd < M1.1 by omega) rfl ?_
              refine xj_if_ne (tgt := 137) d8_15_129 rfl (fun _ => ?_) (fun h => absurd h hx8)
              exact xj_ret d8_15_137 (by omega) (by omega) rfl ⟨rfl, by rw [hset, pItems_f hz, show pBr2 pl true (pItem fp pl (a, 0, cs)) (as, 0, A, t :: r) = pFau (as, 0, A, t :: r) (pItem fp pl (a, 0, cs)).2.1 from if_pos hz]; exact ⟨fun q => absurd q hz, fun _ => hi2 hz⟩⟩
      by_cases hi0 : it = 0
      · have hnext := hnext (fun q => q.1 hi0)
        refine xj_iload_n (i := 3) d8_15_43 rfl rfl ?_
        refine xj_aload_n (i := 0) d8_15_44 rfl rfl ?_
        refine xj_get d8_15_45 f8_26_4 kR (by omega) (show rd < M.1 by omega) rfl ?_
        refine xj_icmp_ge (tgt := 125) d8_15_48 rfl (fun h => absurd h (nI_ge (a := it) (b := pl) (by omega) (by omega))) (fun _ => ?_)
        refine xj_aload_n (i := 0) d8_15_51 rfl rfl ?_
        refine xj_get d8_15_52 f8_30_4 kR (by omega) (show rd < M.1 by omega) rfl ?_
        refine xj_aload_n (i := 0) d8_15_55 rfl rfl ?_
        refine xj_get d8_15_56 f8_26_4 kR (by omega) (show rd < M.1 by omega) rfl ?_
        refine xj_icmp_ge (tgt := 125) d8_15_59 rfl (fun h => absurd h (nI_ge (a := a) (b := pl) (by omega) (by omega))) (fun _ => ?_)
        refine xj_aload_n (i := 0) d8_15_62 rfl rfl ?_
        refine xj_get d8_15_63 f8_33_4 kR (by omega) (show rd < M.1 by omega) rfl ?_
        refine xj_if_ne (tgt := 125) d8_15_66 rfl (fun h => absurd (by decide) h) (fun _ => ?_)
        refine xj_iload_n (i := 3) d8_15_69 rfl rfl ?_
        refine xj_if_le (tgt := 114) d8_15_70 rfl (fun _ => ?_) (fun h => absurd (nI_le (a := it) (b := 0) (by omega) (by omega)) h)
        refine xj_aload_n (i := 0) d8_15_114 rfl rfl ?_
        refine xj_aload_n (i := 1) d8_15_115 rfl rfl ?_
        refine xj_callV (rest := []) (As := [.ref S]) (b := rd) (kItem hg hxn hSC hpl hpx hPR h18 hr hI hap) d8_15_116 wd8_16 kR (by omega) (show rd < M.1 by omega) rfl s8_16 w673 (Or.inl w671) rfl rfl (Nat.le_of_ble_eq_true rfl) (by omega) (by omega) (by omega) ?_
        rintro v M1 ⟨rfl, hi1, hi2⟩
        refine xj_iinc (v := nI (it + 1)) (L' := [(3, .int (nI (it + 1))), (2, .int 1), (1, .ref S), (0, .ref rd)]) d8_15_119 rfl (xinc _) (by decide) rfl ?_
        refine xj_goto (tgt := 43) d8_15_122 rfl ?_
        exact hnext M1 hi1 hi2
      · by_cases h93 : pch fp pl a = 93
        · skip
          refine xj_iload_n (i := 3) d8_15_43 rfl rfl ?_
          refine xj_aload_n (i := 0) d8_15_44 rfl rfl ?_
          refine xj_get d8_15_45 f8_26_4 kR (by omega) (show rd < M.1 by omega) rfl ?_
          refine xj_icmp_ge (tgt := 125) d8_15_48 rfl (fun h => absurd h (nI_ge (a := it) (b := pl) (by omega) (by omega))) (fun _ => ?_)
          refine xj_aload_n (i := 0) d8_15_51 rfl rfl ?_
          refine xj_get d8_15_52 f8_30_4 kR (by omega) (show rd < M.1 by omega) rfl ?_
          refine xj_aload_n (i := 0) d8_15_55 rfl rfl ?_
          refine xj_get d8_15_56 f8_26_4 kR (by omega) (show rd < M.1 by omega) rfl ?_
          refine xj_icmp_ge (tgt := 125) d8_15_59 rfl (fun h => absurd h (nI_ge (a := a) (b := pl) (by omega) (by omega))) (fun _ => ?_)
          refine xj_aload_n (i := 0) d8_15_62 rfl rfl ?_
          refine xj_get d8_15_63 f8_33_4 kR (by omega) (show rd < M.1 by omega) rfl ?_
          refine xj_if_ne (tgt := 125) d8_15_66 rfl (fun h => absurd (by decide) h) (fun _ => ?_)
          refine xj_iload_n (i := 3) d8_15_69 rfl rfl ?_
          refine xj_if_le (tgt := 114) d8_15_70 rfl (fun h => absurd h (nI_ge (a := 0) (b := it) (by omega) (by omega))) (fun _ => ?_)
          refine xj_aload_n (i := 0) d8_15_73 rfl rfl ?_
          refine xj_get d8_15_74 f8_22_4 kR (by omega) (show rd < M.1 by omega) rfl ?_
          refine xj_aload_n (i := 0) d8_15_77 rfl rfl ?_
          refine xj_get d8_15_78 f8_30_4 kR (by omega) (show rd < M.1 by omega) rfl ?_
          refine xj_caload (j := a) d8_15_81 k18 (by omega) (show 18 < M.1 by omega) (vp_in_nI (by omega) (by omega)) (nI_clamp (by omega)) ?_
          rw [show px a = pch fp pl a from ((hpx a hap).trans (if_pos hap).symm)]
          refine xj_bipush (v := 93) d8_15_82 (by decide) ?_
          refine xj_icmp_ne (tgt := 114) d8_15_84 rfl (fun h => absurd h93 h) (fun _ => ?_)
          refine xj_aload_n (i := 0) d8_15_87 rfl rfl ?_
          refine xj_dup d8_15_88 rfl ?_
          refine xj_get d8_15_89 f8_30_4 kR (by omega) (show rd < M.1 by omega) rfl ?_
          refine xj_iconst (v := 1) d8_15_92 (by decide) ?_
          refine xj_iadd (v := nI (a + 1)) d8_15_93 (nI_1 _) ?_
          refine xj_put (a := rd) (fs' := [.ref gw9, .int 0, .ref 18, .int (nI pl), .int (nI (a + 1)), .ref ga9, .int (nI r.length)]) d8_15_94 f8_30_4 kR (by omega) (show rd < M.1 by omega) (Nat.le_of_ble_eq_true rfl) rfl rfl rfl ?_
          refine xj_abs_set (fun M1 hs1 ha1 ho1 => ?_)
          refine xj_iload_n (i := 2) d8_15_97 rfl rfl ?_
          refine xj_if_eq (tgt := 105) d8_15_98 rfl (fun h => absurd h (by decide)) (fun _ => ?_)
          refine xj_aload_n (i := 1) d8_15_101 rfl rfl ?_
          refine xj_callV (rest := []) (As := []) (b := S) (xTurn hg (M := M1) (n := M.1) (o := S) (q := z) (ps := 0) (wv := .null) (show M1.1 = M.1 by omega) (by omega) (by omega) (by omega) ((ho1 S (by omega)).trans kS) hxn (by omega)) d8_15_102 wd4_3 ((ho1 S (by omega)).trans kS) (by omega) (show S < M1.1 by omega) rfl w667 w666 (Or.inl w665) rfl rfl (Nat.le_of_ble_eq_true rfl) (by omega) (by omega) (by omega) ?_
          rintro v M2 ⟨rfl, hs2, ho2, hf2_0⟩
          replace hs2 : M2.1 = M.1 := hs2
          replace hf2_0 : M2.2 S = (.inr (10, [.long (((xLs2 32 (126 + 1 - 32) z).1) &&& (z.1 ^^^ (-1))), .long (((xLs2 32 (126 + 1 - 32) z).2) &&& (z.2 ^^^ (-1))), .long 0, .null])) := hf2_0
          refine xj_aload_n (i := 0) d8_15_105 rfl rfl ?_
          have hI2 := hgo M2 (a + 1) ((xLs2 32 95 z).1 &&& (z.1 ^^^ (-1)), (xLs2 32 95 z).2 &&& (z.2 ^^^ (-1))) (fun k => !cs k) (by omega) ((ho2 rd (by omega) (by omega)).trans ha1) hf2_0 (cB_turn kB) (fun y hlt hy hyS => ((ho2 y (by omega) (by omega)).trans (ho1 y (by omega))))
          obtain ⟨ga, fg, ow, rk, ad, gA, bA, μ, hH2, ⟨s1, s2, s3, s4⟩, z2, k1, k2⟩ := hI2
          obtain ⟨_, _, blx, px9, ndx, ⟨rfl, rfl, efgx⟩, ⟨b1x, b2x, b3x, b4x, b5x, b6x, b7x, b8x⟩, ⟨kRx, kgsx, kgox, kbox⟩, ⟨klpx, klbx⟩, ⟨og1x, og2x, og3x, og4x⟩, ⟨c1x, c2x, c3x, c4x, c5x, c6x, c7x, c8x, c9x, c10x, c11x, c12x⟩, cfrx, ⟨n1x, n2x, n3x, n4x, n5x, n6x, n7x, n8x, n9x, n10x, n11x, n12x, n13x, n14x⟩, oRx, ogsx⟩ := cH_top hH2 hxn
          replace kRx : M2.2 rd = (.inr (4, [.ref (gA 0), .int 0, .ref 18, .int (nI pl), .int (nI (a + 1)), .ref ga, .int (nI r.length)])) := kRx
          have hX3 : cN M2 ow rk ad (3 * A.length + 100) S lk0 (0, 0, 0, fun _ => 0) (1, 1, [], 0, 0, (fun k => !cs k)) := cN_set (z := z2) (by omega) s2 s3 s4 k1 k2 rfl
          refine xj_callV (rest := []) (As := []) (b := rd) (bBr hg (M := M2) (n := M2.1) (rd := rd) (gw := gA 0) (ft := 0) (pl := pl) (a := a + 1) (ga := ga) (og := r.length) (fg := fg) (g := gA r.length) (bl := blx) (b := bA r.length) (gv := .null) rfl (by omega) (by omega) (by omega) kRx (by omega) (by omega) kgsx (by omega) (by omega) kgox (by omega) efgx) d8_15_106 wd8_5 kRx (by omega) (show rd < M2.1 by omega) rfl s8_5 w450 (Or.inl w448) rfl rfl (Nat.le_of_ble_eq_true rfl) (by omega) (by omega) (by omega) ?_
          rintro v M' ⟨rfl, hm⟩
          subst M'
          refine xj_aload_n (i := 1) d8_15_109 rfl rfl ?_
          refine xj_callV (rest := []) (As := [.ref S]) (b := bA r.length) (cAddX hg hxn hZ hT hMi hH2 (pZ_Y hZp) hX3 (by show 1 ≤ 1; decide) (by show 1 ≤ 6; decide) (fun c hc => absurd hc (by simp))) d8_15_110 wd3_3 kbox (by omega) (show bA r.length < M2.1 by omega) rfl w462 w461 (Or.inl w460) rfl rfl (Nat.le_of_ble_eq_true rfl) (by omega) (by omega) (by omega) ?_
          rintro v M9 ⟨rfl, hE9⟩
          have hset : pItems fp pl (m + 1) (decide (it = 0)) (a, 0, cs) = (a, 0, cs) := if_neg (fun q => q.2.2.elim (fun z => by rw [decide_eq_false (by omega)] at z; cases z) (fun z => z h93))
          have hv9 : pBr2 pl true (a, 0, cs) (as, 0, A, t :: r) = (a + 1, 0, A ++ [(1, 1, [], 0, 0, (fun k => !cs k))], (t.1, t.2 ++ [A.length]) :: r) := (if_neg (fun q => q rfl)).trans (if_neg (by show ¬ pl ≤ a; omega))
          have hZ2 := pZ_leaf (q := (1, 1, [], 0, 0, (fun k => !cs k))) (x' := 0) (a' := a + 1) hZp (by show 1 ≤ 3; decide) (by show 1 ≤ 1; decide) rfl rfl (by omega) (by omega)
          exact xj_ret d8_15_113 (by omega) (by omega) rfl ⟨rfl, by rw [hset, hv9]; exact ⟨fun _ => ⟨hE9, _, hZ2⟩, fun q => absurd rfl q⟩⟩
        · have hnext := hnext (fun q => h93 q.2)
          refine xj_iload_n (i := 3) d8_15_43 rfl rfl ?_
          refine xj_aload_n (i := 0) d8_15_44 rfl rfl ?_
          refine xj_get d8_15_45 f8_26_4 kR (by omega) (show rd < M.1 by omega) rfl ?_
          refine xj_icmp_ge (tgt := 125) d8_15_48 rfl (fun h => absurd h (nI_ge (a := it) (b := pl) (by omega) (by omega))) (fun _ => ?_)
          refine xj_aload_n (i := 0) d8_15_51 rfl rfl ?_
          refine xj_get d8_15_52 f8_30_4 kR (by omega) (show rd < M.1 by omega) rfl ?_
          refine xj_aload_n (i := 0) d8_15_55 rfl rfl ?_
          refine xj_get d8_15_56 f8_26_4 kR (by omega) (show rd < M.1 by omega) rfl ?_
          refine xj_icmp_ge (tgt := 125) d8_15_59 rfl (fun h => absurd h (nI_ge (a := a) (b := pl) (by omega) (by omega))) (fun _ => ?_)
          refine xj_aload_n (i := 0) d8_15_62 rfl rfl ?_
          refine xj_get d8_15_63 f8_33_4 kR (by omega) (show rd < M.1 by omega) rfl ?_
          refine xj_if_ne (tgt := 125) d8_15_66 rfl (fun h => absurd (by decide) h) (fun _ => ?_)
          refine xj_iload_n (i := 3) d8_15_69 rfl rfl ?_
          refine xj_if_le (tgt := 114) d8_15_70 rfl (fun h => absurd h (nI_ge (a := 0) (b := it) (by omega) (by omega))) (fun _ => ?_)
          refine xj_aload_n (i := 0) d8_15_73 rfl rfl ?_
          refine xj_get d8_15_74 f8_22_4 kR (by omega) (show rd < M.1 by omega) rfl ?_
          refine xj_aload_n (i := 0) d8_15_77 rfl rfl ?_
          refine xj_get d8_15_78 f8_30_4 kR (by omega) (show rd < M.1 by omega) rfl ?_
          refine xj_caload (j := a) d8_15_81 k18 (by omega) (show 18 < M.1 by omega) (vp_in_nI (by omega) (by omega)) (nI_clamp (by omega)) ?_
          rw [show px a = pch fp pl a from ((hpx a hap).trans (if_pos hap).symm)]
          refine xj_bipush (v := 93) d8_15_82 (by decide) ?_
          refine xj_icmp_ne (tgt := 114) d8_15_84 rfl (fun _ => ?_) (fun h => absurd h h93)
          refine xj_aload_n (i := 0) d8_15_114 rfl rfl ?_
          refine xj_aload_n (i := 1) d8_15_115 rfl rfl ?_
          refine xj_callV (rest := []) (As := [.ref S]) (b := rd) (kItem hg hxn hSC hpl hpx hPR h18 hr hI hap) d8_15_116 wd8_16 kR (by omega) (show rd < M.1 by omega) rfl s8_16 w673 (Or.inl w671) rfl rfl (Nat.le_of_ble_eq_true rfl) (by omega) (by omega) (by omega) ?_
          rintro v M1 ⟨rfl, hi1, hi2⟩
          refine xj_iinc (v := nI (it + 1)) (L' := [(3, .int (nI (it + 1))), (2, .int 1), (1, .ref S), (0, .ref rd)]) d8_15_119 rfl (xinc _) (by decide) rfl ?_
          refine xj_goto (tgt := 43) d8_15_122 rfl ?_
          exact hnext M1 hi1 hi2
    · have hset : pBr2 pl true (pItems fp pl (m + 1) (decide (it = 0)) (a, 0, cs)) (as, 0, A, t :: r) = pFau (as, 0, A, t :: r) 5 := by
        rw [show pItems fp pl (m + 1) (decide (it = 0)) (a, 0, cs) = (a, 0, cs) from if_neg (fun q => hap q.2.1)]
        exact (if_neg (fun q => q rfl)).trans (if_pos (by show pl ≤ a; omega))
      refine xj_iload_n (i := 3) d8_15_43 rfl rfl ?_
      refine xj_aload_n (i := 0) d8_15_44 rfl rfl ?_
      refine xj_get d8_15_45 f8_26_4 kR (by omega) (show rd < M.1 by omega) rfl ?_
      refine xj_icmp_ge (tgt := 125) d8_15_48 rfl (fun h => absurd h (nI_ge (a := it) (b := pl) (by omega) (by omega))) (fun _ => ?_)
      refine xj_aload_n (i := 0) d8_15_51 rfl rfl ?_
      refine xj_get d8_15_52 f8_30_4 kR (by omega) (show rd < M.1 by omega) rfl ?_
      refine xj_aload_n (i := 0) d8_15_55 rfl rfl ?_
      refine xj_get d8_15_56 f8_26_4 kR (by omega) (show rd < M.1 by omega) rfl ?_
      refine xj_icmp_ge (tgt := 125) d8_15_59 rfl (fun _ => ?_) (fun h => absurd (nI_le (a := pl) (b := a) (by omega) (by omega)) h)
      refine xj_aload_n (i := 0) d8_15_125 rfl rfl ?_
      refine xj_get d8_15_126 f8_33_4 kR (by omega) (show rd < M.1 by omega) rfl ?_
      refine xj_if_ne (tgt := 137) d8_15_129 rfl (fun h => absurd (by decide) h) (fun _ => ?_)
      refine xj_aload_n (i := 0) d8_15_132 rfl rfl ?_
      refine xj_iconst (v := 5) d8_15_133 (by decide) ?_
      refine xj_put (a := rd) (fs' := [.ref gw9, .int 5, .ref 18, .int (nI pl), .int (nI a), .ref ga9, .int (nI r.length)]) d8_15_134 f8_33_4 kR (by omega) (show rd < M.1 by omega) (Nat.le_of_ble_eq_true rfl) rfl rfl rfl ?_
      refine xj_abs_set (fun M1 hs1 ha1 ho1 => ?_)
      exact xj_ret d8_15_137 (by omega) (by omega) rfl ⟨rfl, by rw [hset]; exact ⟨fun q => absurd q (show ¬ (5 : Int32) = 0 by decide), fun _ => hfa M1 5 (by omega) ha1 (by omega) (fun y hlt hy hyS => (ho1 y (by omega)))⟩⟩
set_option maxRecDepth 20000 in
set_option maxHeartbeats 1000000 in
theorem kSet {G : xG} (hg : xGood G) (hxn : xn = 16) (hZ : va_Z "java/util/ArrayList" "DEFAULTCAPACITY_EMPTY_ELEMENTDATA" "[Ljava/lang/Object;" (.ref (xa G 1)) (fun q => (xs G).heap.size ≤ q) (xs G) (xs G).heap) (hT : va_T (.object "java/lang/Object") (xa G 1) 0 (fun _ => .null) (fun q => (xs G).heap.size ≤ q) (xs G) (xs G).heap) (hMi : xHM G) (hNA : xNA G) (hSC : xSC G) {px fp : Nat → Int32} {rd : Nat} {M0 M : xM} {pl ga : Nat} {fg : Nat → Option Nat} {ow rk ad gA bA : Nat → Nat} {μ : Nat → xMu} {a : Nat} {A : List xNode} {t : List Nat × List Nat} {r : List (List Nat × List Nat)} (hpl : pl ≤ 24) (hpx : ∀ j, j < pl → px j = fp j) (hPR : ∀ j, j < pl → ∃ u1, u1 < 95 ∧ fp j = nI (u1 + 32)) (h18 : M0.2 18 = (.inl (1, 24, .inl px))) {lo : Nat → Nat} {a0 : Nat} (hH : cH rd M0 pl ga fg ow rk ad gA bA μ M (a, 0, A, t :: r)) (hZp : pZ lo (a0, 0, A, t :: r)) (hpa1 : a0 + 1 ≤ a) (hpa2 : a ≤ pl) : XC G Y8_15 none 8 2 44 [.ref rd] M (fun v M' => v = none ∧ cX rd M0 pl M' (pBracket fp pl (a, 0, A, t :: r))) := by
  obtain ⟨_, _, bl, p, nd, ⟨rfl, rfl, efg⟩, ⟨b1, b2, b3, b4, b5, b6, b7, b8⟩, ⟨kR, kgs, kgo, kbo⟩, ⟨klp, klb⟩, ⟨og1, og2, og3, og4⟩, ⟨c1, c2, c3, c4, c5, c6, c7, c8, c9, c10, c11, c12⟩, cfr, ⟨n1, n2, n3, n4, n5, n6, n7, n8, n9, n10, n11, n12, n13, n14⟩, oR, ogs⟩ := cH_top hH hxn
  replace kR : M.2 rd = (.inr (4, [.ref (gA 0), .int 0, .ref 18, .int (nI pl), .int (nI a), .ref ga, .int (nI r.length)])) := kR
  have k18 : M.2 18 = (.inl (1, 24, .inl px)) := (cfr 18 (by omega)).trans h18
  obtain ⟨⟨z1, z2, z3⟩, y1, y2⟩ := pZ_Y hZp
  by_cases hn9 : pch fp pl a = 94
  · have hap9 := pch_in hn9 (by decide)
    refine xc_of hg (by decide) (Nat.le_of_ble_eq_true rfl) (Or.inr (Or.inr (Or.inr (Or.inr (Or.inl ⟨rfl, rfl, fun v M' h => h.1⟩))))) ?_
    refine xj_new (na := M.1) d8_15_0 n8_98 rfl (by omega) (by omega) ?_
    refine xj_abs_push rfl (fun M1 hs1 ha1 ho1 => ?_)
    refine xj_dup d8_15_3 rfl ?_
    refine xj_callI (rest := [.ref M.1]) (As := []) (b := M.1) (cCs hg (M := M1) (n := M.1 + 1) (a := M.1) (show M1.1 = M.1 + 1 by omega) (by omega) ) d8_15_4 wd4_1 rfl w628 (Or.inr ⟨_, w627⟩) rfl rfl (Nat.le_of_ble_eq_true rfl) (by omega) (by omega) (by omega) ?_
    rintro v M' ⟨rfl, hm⟩
    subst M'
    refine xj_astore_n (i := 1) (L' := [(1, .ref M.1), (0, .ref rd)]) d8_15_7 rfl (by decide) rfl ?_
    refine xj_aload_n (i := 0) d8_15_8 rfl rfl ?_
    refine xj_aload_n (i := 0) d8_15_9 rfl rfl ?_
    refine xj_get d8_15_10 f8_30_4 ((ho1 rd (by omega)).trans kR) (by omega) (show rd < M1.1 by omega) rfl ?_
    refine xj_callV (rest := []) (As := [.int (nI a)]) (b := rd) (xPeekV hg hxn (M := M1) (k := a) (V := pch fp pl a) (by omega) (by omega) (by omega) ((ho1 rd (by omega)).trans kR) ((ho1 18 (by omega)).trans k18) (by omega) hpl hpx hPR rfl) d8_15_13 wd8_6 ((ho1 rd (by omega)).trans kR) (by omega) (show rd < M1.1 by omega) rfl s8_6 w532 (Or.inl w530) rfl rfl (Nat.le_of_ble_eq_true rfl) (by omega) (by omega) (by omega) ?_
    rintro v M' ⟨rfl, hm⟩
    subst M'
    refine xj_bipush (v := 94) d8_15_16 (by decide) ?_
    refine xj_icmp_ne (tgt := 25) d8_15_18 rfl (fun h => absurd hn9 h) (fun _ => ?_)
    refine xj_iconst (v := 1) d8_15_21 (by decide) ?_
    refine xj_goto (tgt := 26) d8_15_22 rfl ?_
    refine xj_istore_n (i := 2) (L' := [(2, .int 1), (1, .ref M.1), (0, .ref rd)]) d8_15_26 rfl (by decide) rfl ?_
    refine xj_iload_n (i := 2) d8_15_27 rfl rfl ?_
    refine xj_if_eq (tgt := 41) d8_15_28 rfl (fun h => absurd h (by decide)) (fun _ => ?_)
    refine xj_aload_n (i := 0) d8_15_31 rfl rfl ?_
    refine xj_dup d8_15_32 rfl ?_
    refine xj_get d8_15_33 f8_30_4 ((ho1 rd (by omega)).trans kR) (by omega) (show rd < M1.1 by omega) rfl ?_
    refine xj_iconst (v := 1) d8_15_36 (by decide) ?_
    refine xj_iadd (v := nI (a + 1)) d8_15_37 (nI_1 _) ?_
    refine xj_put (a := rd) (fs' := [.ref (gA 0), .int 0, .ref 18, .int (nI pl), .int (nI (a + 1)), .ref ga, .int (nI r.length)]) d8_15_38 f8_30_4 ((ho1 rd (by omega)).trans kR) (by omega) (show rd < M1.1 by omega) (Nat.le_of_ble_eq_true rfl) rfl rfl rfl ?_
    refine xj_abs_set (fun M2 hs2 ha2 ho2 => ?_)
    refine xj_iconst (v := 0) d8_15_41 (by decide) ?_
    refine xj_istore_n (i := 3) (L' := [(3, .int 0), (2, .int 1), (1, .ref M.1), (0, .ref rd)]) d8_15_42 rfl (by decide) rfl ?_
    have hI1 : cI rd M0 pl M.1 M2 (a + 1, 0, A, t :: r) pNo := by
      have hg1 := cH_grow (M' := (M2.1, fun y => if y = rd then M.2 rd else M2.2 y)) (ow' := owN ow M.1 1 1 M.1) (rk' := rkN rk M.1 [(3 * A.length + 100)]) hH (show M.1 ≤ M2.1 by omega) (fun y hy => owN_o hy) (fun y hy => rkN_o hy) (fun y hy => by
        show (if y = rd then M.2 rd else M2.2 y) = M.2 y
        by_cases q : y = rd
        · rw [if_pos q, q]
        · rw [if_neg q]
          exact ((ho2 y (by omega)).trans (ho1 y (by omega))))
      exact ⟨ga, fg, _, _, ad, gA, bA, μ, cH_at hg1 rfl ha2 (fun y hy => (if_neg hy).symm), ⟨by omega, by omega, owN_s (by omega) (by omega), rkN_n 0⟩, (0, 0), ((ho2 M.1 (by omega)).trans ha1), cB_0⟩
    rw [pBr2_1 (σ := (a, 0, A, t :: r)) hn9]
    exact kSetL1 hg hxn hZ hT hMi hSC hpl hpx hPR h18 z1 hZp (by omega) (by omega) (by omega) pl 0 (a + 1) pNo M2 (by omega) (by omega) (by omega) (by omega) hI1
  · refine xc_of hg (by decide) (Nat.le_of_ble_eq_true rfl) (Or.inr (Or.inr (Or.inr (Or.inr (Or.inl ⟨rfl, rfl, fun v M' h => h.1⟩))))) ?_
    refine xj_new (na := M.1) d8_15_0 n8_98 rfl (by omega) (by omega) ?_
    refine xj_abs_push rfl (fun M1 hs1 ha1 ho1 => ?_)
    refine xj_dup d8_15_3 rfl ?_
    refine xj_callI (rest := [.ref M.1]) (As := []) (b := M.1) (cCs hg (M := M1) (n := M.1 + 1) (a := M.1) (show M1.1 = M.1 + 1 by omega) (by omega) ) d8_15_4 wd4_1 rfl w628 (Or.inr ⟨_, w627⟩) rfl rfl (Nat.le_of_ble_eq_true rfl) (by omega) (by omega) (by omega) ?_
    rintro v M' ⟨rfl, hm⟩
    subst M'
    refine xj_astore_n (i := 1) (L' := [(1, .ref M.1), (0, .ref rd)]) d8_15_7 rfl (by decide) rfl ?_
    refine xj_aload_n (i := 0) d8_15_8 rfl rfl ?_
    refine xj_aload_n (i := 0) d8_15_9 rfl rfl ?_
    refine xj_get d8_15_10 f8_30_4 ((ho1 rd (by omega)).trans kR) (by omega) (show rd < M1.1 by omega) rfl ?_
    refine xj_callV (rest := []) (As := [.int (nI a)]) (b := rd) (xPeekV hg hxn (M := M1) (k := a) (V := pch fp pl a) (by omega) (by omega) (by omega) ((ho1 rd (by omega)).trans kR) ((ho1 18 (by omega)).trans k18) (by omega) hpl hpx hPR rfl) d8_15_13 wd8_6 ((ho1 rd (by omega)).trans kR) (by omega) (show rd < M1.1 by omega) rfl s8_6 w532 (Or.inl w530) rfl rfl (Nat.le_of_ble_eq_true rfl) (by omega) (by omega) (by omega) ?_
    rintro v M' ⟨rfl, hm⟩
    subst M'
    refine xj_bipush (v := 94) d8_15_16 (by decide) ?_
    refine xj_icmp_ne (tgt := 25) d8_15_18 rfl (fun _ => ?_) (fun h => absurd h hn9)
    refine xj_iconst (v := 0) d8_15_25 (by decide) ?_
    refine xj_istore_n (i := 2) (L' := [(2, .int 0), (1, .ref M.1), (0, .ref rd)]) d8_15_26 rfl (by decide) rfl ?_
    refine xj_iload_n (i := 2) d8_15_27 rfl rfl ?_
    refine xj_if_eq (tgt := 41) d8_15_28 rfl (fun _ => ?_) (fun h => absurd (by decide) h)
    refine xj_iconst (v := 0) d8_15_41 (by decide) ?_
    refine xj_istore_n (i := 3) (L' := [(3, .int 0), (2, .int 0), (1, .ref M.1), (0, .ref rd)]) d8_15_42 rfl (by decide) rfl ?_
    have hI1 : cI rd M0 pl M.1 M1 (a, 0, A, t :: r) pNo := by
      have hg1 := cH_grow (M' := (M1.1, fun y => if y = rd then M.2 rd else M1.2 y)) (ow' := owN ow M.1 1 1 M.1) (rk' := rkN rk M.1 [(3 * A.length + 100)]) hH (show M.1 ≤ M1.1 by omega) (fun y hy => owN_o hy) (fun y hy => rkN_o hy) (fun y hy => by
        show (if y = rd then M.2 rd else M1.2 y) = M.2 y
        by_cases q : y = rd
        · rw [if_pos q, q]
        · rw [if_neg q]
          exact (ho1 y (by omega)))
      exact ⟨ga, fg, _, _, ad, gA, bA, μ, cH_at hg1 rfl ((ho1 rd (by omega)).trans kR) (fun y hy => (if_neg hy).symm), ⟨by omega, by omega, owN_s (by omega) (by omega), rkN_n 0⟩, (0, 0), ha1, cB_0⟩
    rw [pBr2_0 (σ := (a, 0, A, t :: r)) hn9]
    exact kSetL0 hg hxn hZ hT hMi hSC hpl hpx hPR h18 z1 hZp (by omega) (by omega) (by omega) pl 0 (a) pNo M1 (by omega) (by omega) (by omega) (by omega) hI1

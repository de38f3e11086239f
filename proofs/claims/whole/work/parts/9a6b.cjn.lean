/-- two numbers that differ -/
def xNe (a b : Nat) : Prop := a ≠ b
theorem xNe_symm {a b : Nat} (h : xNe a b) : xNe b a := fun q => h q.symm
set_option maxRecDepth 20000 in
set_option maxHeartbeats 4000000 in
theorem wInL {G : xG} (hg : xGood G) (hxn : xn = 16) {M0 : xM} {o lt ln b lb nb c lc nc : Nat} {S1 S2 : List (List Int32)} {f1 g1 f2 g2 : Nat → Int32} (hsz : 16 ≤ o ∧ o < M0.1 ∧ 16 ≤ lt ∧ lt < M0.1 ∧ 16 ≤ ln ∧ ln < M0.1 ∧ 16 ≤ b ∧ b < M0.1 ∧ 16 ≤ lb ∧ lb < M0.1 ∧ 16 ≤ nb ∧ nb < M0.1 ∧ 16 ≤ c ∧ c < M0.1 ∧ 16 ≤ lc ∧ lc < M0.1 ∧ 16 ≤ nc ∧ nc < M0.1) (hne : xNe o lt ∧ xNe o ln ∧ xNe lt ln ∧ xNe b o ∧ xNe b lt ∧ xNe b ln ∧ xNe lb o ∧ xNe lb lt ∧ xNe lb ln ∧ xNe nb o ∧ xNe nb lt ∧ xNe nb ln ∧ xNe c o ∧ xNe c lt ∧ xNe c ln ∧ xNe lc o ∧ xNe lc lt ∧ xNe lc ln ∧ xNe nc o ∧ xNe nc lt ∧ xNe nc ln) (k_b : M0.2 b = (.inr (8, [.ref lb, .ref nb, .int (nI S1.length)]))) (k_lb : M0.2 lb = (.inl (1, 60, .inl f1))) (k_nb : M0.2 nb = (.inl (0, 5, .inl g1))) (k_c : M0.2 c = (.inr (8, [.ref lc, .ref nc, .int (nI S2.length)]))) (k_lc : M0.2 lc = (.inl (1, 60, .inl f2))) (k_nc : M0.2 nc = (.inl (0, 5, .inl g2))) (hl1 : S1.length ≤ 4) (hl2 : S2.length ≤ 4) (hd1 : cWd f1 g1 S1) (hd2 : cWd f2 g2 S2) {i : Nat} {s : List Int32} (hs : S1[i]? = some s) {d ce se cells slots : Nat} {Post : Option Value → xM → Prop} (hd : 3 ≤ d) (hcc : cells ≤ ce) (hss : slots ≤ se) : ∀ (T : List (List Int32)) (j : Nat) (S : List (List Int32)) (M : xM), M.1 = M0.1 → (∀ y, y ≠ o → y ≠ lt → y ≠ ln → M.2 y = M0.2 y) → j + T.length = S2.length → (∀ (k : Nat) (t : List Int32), T[k]? = some t → S2[j + k]? = some t) → cWm M o lt ln S → (sAdds S (T.map fun t => s ++ t) = none → ∀ M' : xM, M'.1 = M0.1 → (∀ y, y ≠ o → y ≠ lt → y ≠ ln → M'.2 y = M0.2 y) → Post (some (.int 0)) M') → (∀ (S' : List (List Int32)) (M' : xM), sAdds S (T.map fun t => s ++ t) = some S' → M'.1 = M0.1 → (∀ y, y ≠ o → y ≠ lt → y ≠ ln → M'.2 y = M0.2 y) → cWm M' o lt ln S' → XJ G Y12_6 d ce se cells slots 149 [(3, .int (nI i)), (0, .ref o), (1, .ref b), (2, .ref c)] [] M' Post) → XJ G Y12_6 d ce se cells slots 13 [(4, .int (nI j)), (3, .int (nI i)), (0, .ref o), (1, .ref b), (2, .ref c)] [] M Post := by
  intro T
  induction T with
  | nil =>
    intro j S M hm hfr hj hT hW K0 K1
    have hj' : j = S2.length := hj
    obtain ⟨y0, y0', y1, y1', y2, y2', y3, y3', y4, y4', y5, y5', y6, y6', y7, y7', y8, y8'⟩ := id hsz
    obtain ⟨x0, x1, x2, x3, x4, x5, x6, x7, x8, x9, x10, x11, x12, x13, x14, x15, x16, x17, x18, x19, x20⟩ := id hne
    have x0' := xNe_symm x0
    have x1' := xNe_symm x1
    have x2' := xNe_symm x2
    have x3' := xNe_symm x3
    have x4' := xNe_symm x4
    have x5' := xNe_symm x5
    have x6' := xNe_symm x6
    have x7' := xNe_symm x7
    have x8' := xNe_symm x8
    have x9' := xNe_symm x9
    have x10' := xNe_symm x10
    have x11' := xNe_symm x11
    have x12' := xNe_symm x12
    have x13' := xNe_symm x13
    have x14' := xNe_symm x14
    have x15' := xNe_symm x15
    have x16' := xNe_symm x16
    have x17' := xNe_symm x17
    have x18' := xNe_symm x18
    have x19' := xNe_symm x19
    have x20' := xNe_symm x20
    obtain ⟨f, g, h_o, h_lt, h_ln, hS4, hdS⟩ := id hW
    have h_b := (hfr b (by assumption) (by assumption) (by assumption)).trans k_b
    have h_lb := (hfr lb (by assumption) (by assumption) (by assumption)).trans k_lb
    have h_nb := (hfr nb (by assumption) (by assumption) (by assumption)).trans k_nb
    have h_c := (hfr c (by assumption) (by assumption) (by assumption)).trans k_c
    have h_lc := (hfr lc (by assumption) (by assumption) (by assumption)).trans k_lc
    have h_nc := (hfr nc (by assumption) (by assumption) (by assumption)).trans k_nc
    refine xj_iload (i := 4) d12_6_13 rfl ?_
    refine xj_aload_n (i := 2) d12_6_15 rfl rfl ?_
    refine xj_get d12_6_16 f12_18_8 h_c (by omega) (show c < M.1 by omega) rfl ?_
    refine xj_icmp_ge (tgt := 149) d12_6_19 rfl (fun _ => ?_) (fun h => absurd (nI_le (a := S2.length) (b := j) (by omega) (by omega)) h)
    refine xj_sub (L' := [(3, .int (nI i)), (0, .ref o), (1, .ref b), (2, .ref c)]) (fun q hq => by simp only [List.mem_cons, List.not_mem_nil, or_false] at hq ⊢; rcases hq with rfl | rfl | rfl | rfl <;> simp) ?_
    exact K1 S M rfl hm hfr hW
  | cons t T ih =>
    intro j S M hm hfr hj hT hW K0 K1
    rw [List.length_cons] at hj
    obtain ⟨y0, y0', y1, y1', y2, y2', y3, y3', y4, y4', y5, y5', y6, y6', y7, y7', y8, y8'⟩ := id hsz
    obtain ⟨x0, x1, x2, x3, x4, x5, x6, x7, x8, x9, x10, x11, x12, x13, x14, x15, x16, x17, x18, x19, x20⟩ := id hne
    have x0' := xNe_symm x0
    have x1' := xNe_symm x1
    have x2' := xNe_symm x2
    have x3' := xNe_symm x3
    have x4' := xNe_symm x4
    have x5' := xNe_symm x5
    have x6' := xNe_symm x6
    have x7' := xNe_symm x7
    have x8' := xNe_symm x8
    have x9' := xNe_symm x9
    have x10' := xNe_symm x10
    have x11' := xNe_symm x11
    have x12' := xNe_symm x12
    have x13' := xNe_symm x13
    have x14' := xNe_symm x14
    have x15' := xNe_symm x15
    have x16' := xNe_symm x16
    have x17' := xNe_symm x17
    have x18' := xNe_symm x18
    have x19' := xNe_symm x19
    have x20' := xNe_symm x20
    obtain ⟨f, g, h_o, h_lt, h_ln, hS4, hdS⟩ := id hW
    have h_b := (hfr b (by assumption) (by assumption) (by assumption)).trans k_b
    have h_lb := (hfr lb (by assumption) (by assumption) (by assumption)).trans k_lb
    have h_nb := (hfr nb (by assumption) (by assumption) (by assumption)).trans k_nb
    have h_c := (hfr c (by assumption) (by assumption) (by assumption)).trans k_c
    have h_lc := (hfr lc (by assumption) (by assumption) (by assumption)).trans k_lc
    have h_nc := (hfr nc (by assumption) (by assumption) (by assumption)).trans k_nc
    have ht : S2[j]? = some t := hT 0 t rfl
    obtain ⟨hs12, hgs, -⟩ := hd1.2 i s hs
    obtain ⟨ht12, hgt, -⟩ := hd2.2 j t ht
    have hi4 : i < S1.length := (List.getElem?_eq_some_iff.mp hs).1
    by_cases h12 : 12 < s.length + t.length
    · have hstep0 : sAdds S ((t :: T).map fun t => s ++ t) = (none : Option (List (List Int32))).bind fun U => sAdds U (T.map fun t => s ++ t) := by
        show ((sAdd S (s ++ t)).bind fun U => sAdds U (T.map fun t => s ++ t)) = _
        rw [show sAdd S (s ++ t) = none from if_pos (by rw [List.length_append]; exact h12)]
      refine xj_iload (i := 4) d12_6_13 rfl ?_
      refine xj_aload_n (i := 2) d12_6_15 rfl rfl ?_
      refine xj_get d12_6_16 f12_18_8 h_c (by first | assumption | omega) (show c < M.1 by omega) rfl ?_
      refine xj_icmp_ge (tgt := 149) d12_6_19 rfl (fun h => absurd h (nI_ge (a := j) (b := S2.length) (by first | assumption | omega) (by first | assumption | omega))) (fun _ => ?_)
      refine xj_aload_n (i := 1) d12_6_22 rfl rfl ?_
      refine xj_get d12_6_23 f12_13_8 h_b (by first | assumption | omega) (show b < M.1 by omega) rfl ?_
      refine xj_iload_n (i := 3) d12_6_26 rfl rfl ?_
      refine xj_iaload (j := i) d12_6_27 h_nb (by first | assumption | omega) (show nb < M.1 by omega) (vp_in_nI (by first | assumption | omega) (by first | assumption | omega)) (nI_clamp (by first | assumption | omega)) ?_
      rw [show g1 i = nI s.length from hgs]
      refine xj_aload_n (i := 2) d12_6_28 rfl rfl ?_
      refine xj_get d12_6_29 f12_13_8 h_c (by first | assumption | omega) (show c < M.1 by omega) rfl ?_
      refine xj_iload (i := 4) d12_6_32 rfl ?_
      refine xj_iaload (j := j) d12_6_34 h_nc (by first | assumption | omega) (show nc < M.1 by omega) (vp_in_nI (by first | assumption | omega) (by first | assumption | omega)) (nI_clamp (by first | assumption | omega)) ?_
      rw [show g2 j = nI t.length from hgt]
      refine xj_iadd (v := nI (s.length + t.length)) d12_6_35 (nI_add s.length t.length) ?_
      refine xj_bipush (v := 12) d12_6_36 (by decide) ?_
      refine xj_icmp_le (tgt := 43) d12_6_38 rfl (fun h => absurd h (nI_ge (a := 12) (b := s.length + t.length) (by first | assumption | omega) (by first | assumption | omega))) (fun _ => ?_)
      refine xj_iconst (v := 0) d12_6_41 (by decide) ?_
      exact xj_ret d12_6_42 hcc hss rfl (K0 (by rw [hstep0]; rfl) M (by first | assumption | omega) (fun y z1 z2 z3 => hfr y z1 z2 z3))
    · obtain ⟨hr1, hr2, hr3⟩ := wRow hdS hd1 hd2 hs ht (by omega)
      by_cases hin : (s ++ t) ∈ S
      · have hstep : sAdds S ((t :: T).map fun t => s ++ t) = sAdds S (T.map fun t => s ++ t) := by
          show ((sAdd S (s ++ t)).bind fun U => sAdds U (T.map fun t => s ++ t)) = _
          rw [show sAdd S (s ++ t) = some S from (if_neg (by rw [List.length_append]; exact h12)).trans (if_pos hin)]
          rfl
        refine xj_iload (i := 4) d12_6_13 rfl ?_
        refine xj_aload_n (i := 2) d12_6_15 rfl rfl ?_
        refine xj_get d12_6_16 f12_18_8 h_c (by first | assumption | omega) (show c < M.1 by omega) rfl ?_
        refine xj_icmp_ge (tgt := 149) d12_6_19 rfl (fun h => absurd h (nI_ge (a := j) (b := S2.length) (by first | assumption | omega) (by first | assumption | omega))) (fun _ => ?_)
        refine xj_aload_n (i := 1) d12_6_22 rfl rfl ?_
        refine xj_get d12_6_23 f12_13_8 h_b (by first | assumption | omega) (show b < M.1 by omega) rfl ?_
        refine xj_iload_n (i := 3) d12_6_26 rfl rfl ?_
        refine xj_iaload (j := i) d12_6_27 h_nb (by first | assumption | omega) (show nb < M.1 by omega) (vp_in_nI (by first | assumption | omega) (by first | assumption | omega)) (nI_clamp (by first | assumption | omega)) ?_
        rw [show g1 i = nI s.length from hgs]
        refine xj_aload_n (i := 2) d12_6_28 rfl rfl ?_
        refine xj_get d12_6_29 f12_13_8 h_c (by first | assumption | omega) (show c < M.1 by omega) rfl ?_
        refine xj_iload (i := 4) d12_6_32 rfl ?_
        refine xj_iaload (j := j) d12_6_34 h_nc (by first | assumption | omega) (show nc < M.1 by omega) (vp_in_nI (by first | assumption | omega) (by first | assumption | omega)) (nI_clamp (by first | assumption | omega)) ?_
        rw [show g2 j = nI t.length from hgt]
        refine xj_iadd (v := nI (s.length + t.length)) d12_6_35 (nI_add s.length t.length) ?_
        refine xj_bipush (v := 12) d12_6_36 (by decide) ?_
        refine xj_icmp_le (tgt := 43) d12_6_38 rfl (fun _ => ?_) (fun h => absurd (nI_le (a := s.length + t.length) (b := 12) (by first | assumption | omega) (by first | assumption | omega)) h)
        refine xj_aload_n (i := 0) d12_6_43 rfl rfl ?_
        refine xj_get d12_6_44 f12_18_8 h_o (by first | assumption | omega) (show o < M.1 by omega) rfl ?_
        refine xj_bipush (v := 12) d12_6_47 (by decide) ?_
        refine xj_imul (v := nI (S.length * 12)) d12_6_49 (pk_mul S.length 12) ?_
        refine xj_istore (i := 5) (L' := [(5, .int (nI (S.length * 12))), (4, .int (nI j)), (3, .int (nI i)), (0, .ref o), (1, .ref b), (2, .ref c)]) d12_6_50 (by decide) rfl ?_
        refine xj_iload (i := 5) d12_6_52 rfl ?_
        refine xj_aload_n (i := 1) d12_6_54 rfl rfl ?_
        refine xj_get d12_6_55 f12_13_8 h_b (by first | assumption | omega) (show b < M.1 by omega) rfl ?_
        refine xj_iload_n (i := 3) d12_6_58 rfl rfl ?_
        refine xj_iaload (j := i) d12_6_59 h_nb (by first | assumption | omega) (show nb < M.1 by omega) (vp_in_nI (by first | assumption | omega) (by first | assumption | omega)) (nI_clamp (by first | assumption | omega)) ?_
        rw [show g1 i = nI s.length from hgs]
        refine xj_iadd (v := nI (S.length * 12 + s.length)) d12_6_60 (nI_add (S.length * 12) s.length) ?_
        refine xj_istore (i := 6) (L' := [(6, .int (nI (S.length * 12 + s.length))), (5, .int (nI (S.length * 12))), (4, .int (nI j)), (3, .int (nI i)), (0, .ref o), (1, .ref b), (2, .ref c)]) d12_6_61 (by decide) rfl ?_
        refine xj_aload_n (i := 1) d12_6_63 rfl rfl ?_
        refine xj_get d12_6_64 f12_9_8 h_b (by first | assumption | omega) (show b < M.1 by omega) rfl ?_
        refine xj_iload_n (i := 3) d12_6_67 rfl rfl ?_
        refine xj_bipush (v := 12) d12_6_68 (by decide) ?_
        refine xj_imul (v := nI (i * 12)) d12_6_70 (pk_mul i 12) ?_
        refine xj_aload_n (i := 0) d12_6_71 rfl rfl ?_
        refine xj_get d12_6_72 f12_9_8 h_o (by first | assumption | omega) (show o < M.1 by omega) rfl ?_
        refine xj_iload (i := 5) d12_6_75 rfl ?_
        refine xj_aload_n (i := 1) d12_6_77 rfl rfl ?_
        refine xj_get d12_6_78 f12_13_8 h_b (by first | assumption | omega) (show b < M.1 by omega) rfl ?_
        refine xj_iload_n (i := 3) d12_6_81 rfl rfl ?_
        refine xj_iaload (j := i) d12_6_82 h_nb (by first | assumption | omega) (show nb < M.1 by omega) (vp_in_nI (by first | assumption | omega) (by first | assumption | omega)) (nI_clamp (by first | assumption | omega)) ?_
        rw [show g1 i = nI s.length from hgs]
        refine xj_copy (t := 1) (i := i * 12) (j := S.length * 12) (k := s.length) d12_6_83 w801 w151 w150 w8 (by decide) h_lb (by first | assumption | omega) (show lb < M.1 by omega) h_lt (by first | assumption | omega) (show lt < M.1 by omega) (nI_pos (by first | assumption | omega)) (nI_pos (by first | assumption | omega)) (nI_pos (by first | assumption | omega)) (nI_clamp (by first | assumption | omega)) (nI_clamp (by first | assumption | omega)) (nI_clamp (by first | assumption | omega)) (by first | assumption | omega) (by first | assumption | omega) (fun z hz => by obtain ⟨u, q1, q2⟩ := hd1.1 ((i * 12) + z); rw [q2]; exact (pk_charN (by first | assumption | omega)).2) (by first | assumption | omega) (Nat.le_of_ble_eq_true rfl) ?_
        refine xj_abs_set (fun M1 hs1 ha1 ho1 => ?_)
        refine xj_aload_n (i := 2) d12_6_86 rfl rfl ?_
        refine xj_get d12_6_87 f12_9_8 ((ho1 c (by first | assumption | omega)).trans h_c) (by first | assumption | omega) (show c < M1.1 by omega) rfl ?_
        refine xj_iload (i := 4) d12_6_90 rfl ?_
        refine xj_bipush (v := 12) d12_6_92 (by decide) ?_
        refine xj_imul (v := nI (j * 12)) d12_6_94 (pk_mul j 12) ?_
        refine xj_aload_n (i := 0) d12_6_95 rfl rfl ?_
        refine xj_get d12_6_96 f12_9_8 ((ho1 o (by first | assumption | omega)).trans h_o) (by first | assumption | omega) (show o < M1.1 by omega) rfl ?_
        refine xj_iload (i := 6) d12_6_99 rfl ?_
        refine xj_aload_n (i := 2) d12_6_101 rfl rfl ?_
        refine xj_get d12_6_102 f12_13_8 ((ho1 c (by first | assumption | omega)).trans h_c) (by first | assumption | omega) (show c < M1.1 by omega) rfl ?_
        refine xj_iload (i := 4) d12_6_105 rfl ?_
        refine xj_iaload (j := j) d12_6_107 ((ho1 nc (by first | assumption | omega)).trans h_nc) (by first | assumption | omega) (show nc < M1.1 by omega) (vp_in_nI (by first | assumption | omega) (by first | assumption | omega)) (nI_clamp (by first | assumption | omega)) ?_
        rw [show g2 j = nI t.length from hgt]
        refine xj_copy (t := 1) (i := j * 12) (j := S.length * 12 + s.length) (k := t.length) d12_6_108 w801 w151 w150 w8 (by decide) ((ho1 lc (by first | assumption | omega)).trans h_lc) (by first | assumption | omega) (show lc < M1.1 by omega) ha1 (by first | assumption | omega) (show lt < M1.1 by omega) (nI_pos (by first | assumption | omega)) (nI_pos (by first | assumption | omega)) (nI_pos (by first | assumption | omega)) (nI_clamp (by first | assumption | omega)) (nI_clamp (by first | assumption | omega)) (nI_clamp (by first | assumption | omega)) (by first | assumption | omega) (by first | assumption | omega) (fun z hz => by obtain ⟨u, q1, q2⟩ := hd2.1 ((j * 12) + z); rw [q2]; exact (pk_charN (by first | assumption | omega)).2) (by first | assumption | omega) (Nat.le_of_ble_eq_true rfl) ?_
        refine xj_abs_set (fun M2 hs2 ha2 ho2 => ?_)
        refine xj_aload_n (i := 0) d12_6_111 rfl rfl ?_
        refine xj_get d12_6_112 f12_13_8 ((ho2 o (by first | assumption | omega)).trans ((ho1 o (by first | assumption | omega)).trans h_o)) (by first | assumption | omega) (show o < M2.1 by omega) rfl ?_
        refine xj_aload_n (i := 0) d12_6_115 rfl rfl ?_
        refine xj_get d12_6_116 f12_18_8 ((ho2 o (by first | assumption | omega)).trans ((ho1 o (by first | assumption | omega)).trans h_o)) (by first | assumption | omega) (show o < M2.1 by omega) rfl ?_
        refine xj_aload_n (i := 1) d12_6_119 rfl rfl ?_
        refine xj_get d12_6_120 f12_13_8 ((ho2 b (by first | assumption | omega)).trans ((ho1 b (by first | assumption | omega)).trans h_b)) (by first | assumption | omega) (show b < M2.1 by omega) rfl ?_
        refine xj_iload_n (i := 3) d12_6_123 rfl rfl ?_
        refine xj_iaload (j := i) d12_6_124 ((ho2 nb (by first | assumption | omega)).trans ((ho1 nb (by first | assumption | omega)).trans h_nb)) (by first | assumption | omega) (show nb < M2.1 by omega) (vp_in_nI (by first | assumption | omega) (by first | assumption | omega)) (nI_clamp (by first | assumption | omega)) ?_
        rw [show g1 i = nI s.length from hgs]
        refine xj_aload_n (i := 2) d12_6_125 rfl rfl ?_
        refine xj_get d12_6_126 f12_13_8 ((ho2 c (by first | assumption | omega)).trans ((ho1 c (by first | assumption | omega)).trans h_c)) (by first | assumption | omega) (show c < M2.1 by omega) rfl ?_
        refine xj_iload (i := 4) d12_6_129 rfl ?_
        refine xj_iaload (j := j) d12_6_131 ((ho2 nc (by first | assumption | omega)).trans ((ho1 nc (by first | assumption | omega)).trans h_nc)) (by first | assumption | omega) (show nc < M2.1 by omega) (vp_in_nI (by first | assumption | omega) (by first | assumption | omega)) (nI_clamp (by first | assumption | omega)) ?_
        rw [show g2 j = nI t.length from hgt]
        refine xj_iadd (v := nI (s.length + t.length)) d12_6_132 (nI_add s.length t.length) ?_
        refine xj_iastore (j := S.length) (x' := nI (s.length + t.length)) d12_6_133 ((ho2 ln (by first | assumption | omega)).trans ((ho1 ln (by first | assumption | omega)).trans h_ln)) (by first | assumption | omega) (show ln < M2.1 by omega) (vp_in_nI (by first | assumption | omega) (by first | assumption | omega)) (nI_clamp (by first | assumption | omega)) rfl ?_
        refine xj_abs_set (fun M3 hs3 ha3 ho3 => ?_)
        refine xj_aload_n (i := 0) d12_6_134 rfl rfl ?_
        refine xj_callV (rest := []) (As := []) (b := o) (wKpI hg hxn (M := M3) (kk := S.length) (S := S) (w := s ++ t) (by first | assumption | omega) (by first | assumption | omega) (by first | assumption | omega) (by first | assumption | omega) (by first | assumption | omega) (by first | assumption | omega) ((ho3 o (by first | assumption | omega)).trans ((ho2 o (by first | assumption | omega)).trans ((ho1 o (by first | assumption | omega)).trans h_o))) ((ho3 lt (by first | assumption | omega)).trans ha2) ha3 hS4 hr1 rfl hr2 hr3 hin) d12_6_135 wd12_7 ((ho3 o (by first | assumption | omega)).trans ((ho2 o (by first | assumption | omega)).trans ((ho1 o (by first | assumption | omega)).trans h_o))) (by first | assumption | omega) (show o < M3.1 by omega) rfl s12_7 w776 (Or.inl w774) rfl rfl (Nat.le_of_ble_eq_true rfl) (by first | assumption | omega) (by first | assumption | omega) (by first | assumption | omega) ?_
        rintro v M' ⟨rfl, hm⟩
        subst M'
        refine xj_if_ne (tgt := 143) d12_6_138 rfl (fun _ => ?_) (fun h => absurd h (by decide))
        refine xj_iinc (v := nI (j + 1)) (L' := [(4, .int (nI (j + 1))), (6, .int (nI (S.length * 12 + s.length))), (5, .int (nI (S.length * 12))), (3, .int (nI i)), (0, .ref o), (1, .ref b), (2, .ref c)]) d12_6_143 rfl (xinc _) (by decide) rfl ?_
        refine xj_goto (tgt := 13) d12_6_146 rfl ?_
        refine xj_sub (L' := [(4, .int (nI (j + 1))), (3, .int (nI i)), (0, .ref o), (1, .ref b), (2, .ref c)]) (fun q hq => by simp only [List.mem_cons, List.not_mem_nil, or_false] at hq ⊢; rcases hq with rfl | rfl | rfl | rfl | rfl <;> simp) ?_
        refine ih (j + 1) S M3 (by first | assumption | omega) (fun y z1 z2 z3 => ((ho3 y (by first | assumption | omega)).trans ((ho2 y (by first | assumption | omega)).trans (ho1 y (by first | assumption | omega)))).trans (hfr y z1 z2 z3)) (by first | assumption | omega) (fun k u hu => by rw [show j + 1 + k = j + (k + 1) by omega]; exact hT (k + 1) u hu) ⟨_, _, ((ho3 o (by first | assumption | omega)).trans ((ho2 o (by first | assumption | omega)).trans ((ho1 o (by first | assumption | omega)).trans h_o))), ((ho3 lt (by first | assumption | omega)).trans ha2), ha3, hS4, hr1, hr2⟩ (fun e => K0 (by rw [hstep]; exact e)) (fun S' M' e => K1 S' M' (by rw [hstep]; exact e))
      · by_cases h4 : S.length = 4
        · have hstep0 : sAdds S ((t :: T).map fun t => s ++ t) = (none : Option (List (List Int32))).bind fun U => sAdds U (T.map fun t => s ++ t) := by
            show ((sAdd S (s ++ t)).bind fun U => sAdds U (T.map fun t => s ++ t)) = _
            rw [show sAdd S (s ++ t) = none from (if_neg (by rw [List.length_append]; exact h12)).trans ((if_neg hin).trans (if_pos (by omega)))]
          refine xj_iload (i := 4) d12_6_13 rfl ?_
          refine xj_aload_n (i := 2) d12_6_15 rfl rfl ?_
          refine xj_get d12_6_16 f12_18_8 h_c (by first | assumption | omega) (show c < M.1 by omega) rfl ?_
          refine xj_icmp_ge (tgt := 149) d12_6_19 rfl (fun h => absurd h (nI_ge (a := j) (b := S2.length) (by first | assumption | omega) (by first | assumption | omega))) (fun _ => ?_)
          refine xj_aload_n (i := 1) d12_6_22 rfl rfl ?_
          refine xj_get d12_6_23 f12_13_8 h_b (by first | assumption | omega) (show b < M.1 by omega) rfl ?_
          refine xj_iload_n (i := 3) d12_6_26 rfl rfl ?_
          refine xj_iaload (j := i) d12_6_27 h_nb (by first | assumption | omega) (show nb < M.1 by omega) (vp_in_nI (by first | assumption | omega) (by first | assumption | omega)) (nI_clamp (by first | assumption | omega)) ?_
          rw [show g1 i = nI s.length from hgs]
          refine xj_aload_n (i := 2) d12_6_28 rfl rfl ?_
          refine xj_get d12_6_29 f12_13_8 h_c (by first | assumption | omega) (show c < M.1 by omega) rfl ?_
          refine xj_iload (i := 4) d12_6_32 rfl ?_
          refine xj_iaload (j := j) d12_6_34 h_nc (by first | assumption | omega) (show nc < M.1 by omega) (vp_in_nI (by first | assumption | omega) (by first | assumption | omega)) (nI_clamp (by first | assumption | omega)) ?_
          rw [show g2 j = nI t.length from hgt]
          refine xj_iadd (v := nI (s.length + t.length)) d12_6_35 (nI_add s.length t.length) ?_
          refine xj_bipush (v := 12) d12_6_36 (by decide) ?_
          refine xj_icmp_le (tgt := 43) d12_6_38 rfl (fun _ => ?_) (fun h => absurd (nI_le (a := s.length + t.length) (b := 12) (by first | assumption | omega) (by first | assumption | omega)) h)
          refine xj_aload_n (i := 0) d12_6_43 rfl rfl ?_
          refine xj_get d12_6_44 f12_18_8 h_o (by first | assumption | omega) (show o < M.1 by omega) rfl ?_
          refine xj_bipush (v := 12) d12_6_47 (by decide) ?_
          refine xj_imul (v := nI (S.length * 12)) d12_6_49 (pk_mul S.length 12) ?_
          refine xj_istore (i := 5) (L' := [(5, .int (nI (S.length * 12))), (4, .int (nI j)), (3, .int (nI i)), (0, .ref o), (1, .ref b), (2, .ref c)]) d12_6_50 (by decide) rfl ?_
          refine xj_iload (i := 5) d12_6_52 rfl ?_
          refine xj_aload_n (i := 1) d12_6_54 rfl rfl ?_
          refine xj_get d12_6_55 f12_13_8 h_b (by first | assumption | omega) (show b < M.1 by omega) rfl ?_
          refine xj_iload_n (i := 3) d12_6_58 rfl rfl ?_
          refine xj_iaload (j := i) d12_6_59 h_nb (by first | assumption | omega) (show nb < M.1 by omega) (vp_in_nI (by first | assumption | omega) (by first | assumption | omega)) (nI_clamp (by first | assumption | omega)) ?_
          rw [show g1 i = nI s.length from hgs]
          refine xj_iadd (v := nI (S.length * 12 + s.length)) d12_6_60 (nI_add (S.length * 12) s.length) ?_
          refine xj_istore (i := 6) (L' := [(6, .int (nI (S.length * 12 + s.length))), (5, .int (nI (S.length * 12))), (4, .int (nI j)), (3, .int (nI i)), (0, .ref o), (1, .ref b), (2, .ref c)]) d12_6_61 (by decide) rfl ?_
          refine xj_aload_n (i := 1) d12_6_63 rfl rfl ?_
          refine xj_get d12_6_64 f12_9_8 h_b (by first | assumption | omega) (show b < M.1 by omega) rfl ?_
          refine xj_iload_n (i := 3) d12_6_67 rfl rfl ?_
          refine xj_bipush (v := 12) d12_6_68 (by decide) ?_
          refine xj_imul (v := nI (i * 12)) d12_6_70 (pk_mul i 12) ?_
          refine xj_aload_n (i := 0) d12_6_71 rfl rfl ?_
          refine xj_get d12_6_72 f12_9_8 h_o (by first | assumption | omega) (show o < M.1 by omega) rfl ?_
          refine xj_iload (i := 5) d12_6_75 rfl ?_
          refine xj_aload_n (i := 1) d12_6_77 rfl rfl ?_
          refine xj_get d12_6_78 f12_13_8 h_b (by first | assumption | omega) (show b < M.1 by omega) rfl ?_
          refine xj_iload_n (i := 3) d12_6_81 rfl rfl ?_
          refine xj_iaload (j := i) d12_6_82 h_nb (by first | assumption | omega) (show nb < M.1 by omega) (vp_in_nI (by first | assumption | omega) (by first | assumption | omega)) (nI_clamp (by first | assumption | omega)) ?_
          rw [show g1 i = nI s.length from hgs]
          refine xj_copy (t := 1) (i := i * 12) (j := S.length * 12) (k := s.length) d12_6_83 w801 w151 w150 w8 (by decide) h_lb (by first | assumption | omega) (show lb < M.1 by omega) h_lt (by first | assumption | omega) (show lt < M.1 by omega) (nI_pos (by first | assumption | omega)) (nI_pos (by first | assumption | omega)) (nI_pos (by first | assumption | omega)) (nI_clamp (by first | assumption | omega)) (nI_clamp (by first | assumption | omega)) (nI_clamp (by first | assumption | omega)) (by first | assumption | omega) (by first | assumption | omega) (fun z hz => by obtain ⟨u, q1, q2⟩ := hd1.1 ((i * 12) + z); rw [q2]; exact (pk_charN (by first | assumption | omega)).2) (by first | assumption | omega) (Nat.le_of_ble_eq_true rfl) ?_
          refine xj_abs_set (fun M1 hs1 ha1 ho1 => ?_)
          refine xj_aload_n (i := 2) d12_6_86 rfl rfl ?_
          refine xj_get d12_6_87 f12_9_8 ((ho1 c (by first | assumption | omega)).trans h_c) (by first | assumption | omega) (show c < M1.1 by omega) rfl ?_
          refine xj_iload (i := 4) d12_6_90 rfl ?_
          refine xj_bipush (v := 12) d12_6_92 (by decide) ?_
          refine xj_imul (v := nI (j * 12)) d12_6_94 (pk_mul j 12) ?_
          refine xj_aload_n (i := 0) d12_6_95 rfl rfl ?_
          refine xj_get d12_6_96 f12_9_8 ((ho1 o (by first | assumption | omega)).trans h_o) (by first | assumption | omega) (show o < M1.1 by omega) rfl ?_
          refine xj_iload (i := 6) d12_6_99 rfl ?_
          refine xj_aload_n (i := 2) d12_6_101 rfl rfl ?_
          refine xj_get d12_6_102 f12_13_8 ((ho1 c (by first | assumption | omega)).trans h_c) (by first | assumption | omega) (show c < M1.1 by omega) rfl ?_
          refine xj_iload (i := 4) d12_6_105 rfl ?_
          refine xj_iaload (j := j) d12_6_107 ((ho1 nc (by first | assumption | omega)).trans h_nc) (by first | assumption | omega) (show nc < M1.1 by omega) (vp_in_nI (by first | assumption | omega) (by first | assumption | omega)) (nI_clamp (by first | assumption | omega)) ?_
          rw [show g2 j = nI t.length from hgt]
          refine xj_copy (t := 1) (i := j * 12) (j := S.length * 12 + s.length) (k := t.length) d12_6_108 w801 w151 w150 w8 (by decide) ((ho1 lc (by first | assumption | omega)).trans h_lc) (by first | assumption | omega) (show lc < M1.1 by omega) ha1 (by first | assumption | omega) (show lt < M1.1 by omega) (nI_pos (by first | assumption | omega)) (nI_pos (by first | assumption | omega)) (nI_pos (by first | assumption | omega)) (nI_clamp (by first | assumption | omega)) (nI_clamp (by first | assumption | omega)) (nI_clamp (by first | assumption | omega)) (by first | assumption | omega) (by first | assumption | omega) (fun z hz => by obtain ⟨u, q1, q2⟩ := hd2.1 ((j * 12) + z); rw [q2]; exact (pk_charN (by first | assumption | omega)).2) (by first | assumption | omega) (Nat.le_of_ble_eq_true rfl) ?_
          refine xj_abs_set (fun M2 hs2 ha2 ho2 => ?_)
          refine xj_aload_n (i := 0) d12_6_111 rfl rfl ?_
          refine xj_get d12_6_112 f12_13_8 ((ho2 o (by first | assumption | omega)).trans ((ho1 o (by first | assumption | omega)).trans h_o)) (by first | assumption | omega) (show o < M2.1 by omega) rfl ?_
          refine xj_aload_n (i := 0) d12_6_115 rfl rfl ?_
          refine xj_get d12_6_116 f12_18_8 ((ho2 o (by first | assumption | omega)).trans ((ho1 o (by first | assumption | omega)).trans h_o)) (by first | assumption | omega) (show o < M2.1 by omega) rfl ?_
          refine xj_aload_n (i := 1) d12_6_119 rfl rfl ?_
          refine xj_get d12_6_120 f12_13_8 ((ho2 b (by first | assumption | omega)).trans ((ho1 b (by first | assumption | omega)).trans h_b)) (by first | assumption | omega) (show b < M2.1 by omega) rfl ?_
          refine xj_iload_n (i := 3) d12_6_123 rfl rfl ?_
          refine xj_iaload (j := i) d12_6_124 ((ho2 nb (by first | assumption | omega)).trans ((ho1 nb (by first | assumption | omega)).trans h_nb)) (by first | assumption | omega) (show nb < M2.1 by omega) (vp_in_nI (by first | assumption | omega) (by first | assumption | omega)) (nI_clamp (by first | assumption | omega)) ?_
          rw [show g1 i = nI s.length from hgs]
          refine xj_aload_n (i := 2) d12_6_125 rfl rfl ?_
          refine xj_get d12_6_126 f12_13_8 ((ho2 c (by first | assumption | omega)).trans ((ho1 c (by first | assumption | omega)).trans h_c)) (by first | assumption | omega) (show c < M2.1 by omega) rfl ?_
          refine xj_iload (i := 4) d12_6_129 rfl ?_
          refine xj_iaload (j := j) d12_6_131 ((ho2 nc (by first | assumption | omega)).trans ((ho1 nc (by first | assumption | omega)).trans h_nc)) (by first | assumption | omega) (show nc < M2.1 by omega) (vp_in_nI (by first | assumption | omega) (by first | assumption | omega)) (nI_clamp (by first | assumption | omega)) ?_
          rw [show g2 j = nI t.length from hgt]
          refine xj_iadd (v := nI (s.length + t.length)) d12_6_132 (nI_add s.length t.length) ?_
          refine xj_iastore (j := S.length) (x' := nI (s.length + t.length)) d12_6_133 ((ho2 ln (by first | assumption | omega)).trans ((ho1 ln (by first | assumption | omega)).trans h_ln)) (by first | assumption | omega) (show ln < M2.1 by omega) (vp_in_nI (by first | assumption | omega) (by first | assumption | omega)) (nI_clamp (by first | assumption | omega)) rfl ?_
          refine xj_abs_set (fun M3 hs3 ha3 ho3 => ?_)
          refine xj_aload_n (i := 0) d12_6_134 rfl rfl ?_
          refine xj_callV (rest := []) (As := []) (b := o) (wKpF hg hxn (M := M3) (kk := S.length) (S := S) (w := s ++ t) (by first | assumption | omega) (by first | assumption | omega) (by first | assumption | omega) (by first | assumption | omega) (by first | assumption | omega) (by first | assumption | omega) ((ho3 o (by first | assumption | omega)).trans ((ho2 o (by first | assumption | omega)).trans ((ho1 o (by first | assumption | omega)).trans h_o))) ((ho3 lt (by first | assumption | omega)).trans ha2) ha3 hS4 hr1 rfl hr2 hr3 hin h4) d12_6_135 wd12_7 ((ho3 o (by first | assumption | omega)).trans ((ho2 o (by first | assumption | omega)).trans ((ho1 o (by first | assumption | omega)).trans h_o))) (by first | assumption | omega) (show o < M3.1 by omega) rfl s12_7 w776 (Or.inl w774) rfl rfl (Nat.le_of_ble_eq_true rfl) (by first | assumption | omega) (by first | assumption | omega) (by first | assumption | omega) ?_
          rintro v M' ⟨rfl, hm⟩
          subst M'
          refine xj_if_ne (tgt := 143) d12_6_138 rfl (fun h => absurd (by decide) h) (fun _ => ?_)
          refine xj_iconst (v := 0) d12_6_141 (by decide) ?_
          exact xj_ret d12_6_142 hcc hss rfl (K0 (by rw [hstep0]; rfl) M3 (by first | assumption | omega) (fun y z1 z2 z3 => ((ho3 y (by first | assumption | omega)).trans ((ho2 y (by first | assumption | omega)).trans (ho1 y (by first | assumption | omega)))).trans (hfr y z1 z2 z3)))
        · have hstep : sAdds S ((t :: T).map fun t => s ++ t) = sAdds (S ++ [s ++ t]) (T.map fun t => s ++ t) := by
            show ((sAdd S (s ++ t)).bind fun U => sAdds U (T.map fun t => s ++ t)) = _
            rw [show sAdd S (s ++ t) = some (S ++ [s ++ t]) from (if_neg (by rw [List.length_append]; exact h12)).trans ((if_neg hin).trans (if_neg (by omega)))]
            rfl
          have hgr : ∀ (k : Nat) (w : List Int32), (S ++ [s ++ t])[k]? = some w → w.length ≤ 12 ∧ (upd g S.length (nI (s.length + t.length))) k = nI w.length ∧ ∀ (z : Nat) (c : Int32), w[z]? = some c → (va_cpy f2 (va_cpy f1 f (i * 12) (S.length * 12) s.length) (j * 12) (S.length * 12 + s.length) t.length) (k * 12 + z) = c := fun k w hw => by
            by_cases hk : k < S.length
            · rw [List.getElem?_append_left hk] at hw
              exact hr2 k w hw
            · have hh := (List.getElem?_eq_some_iff.mp hw).1
              rw [List.length_append, List.length_singleton] at hh
              have hk8 : k = S.length := by omega
              rw [hk8, List.getElem?_append_right (Nat.le_refl _), Nat.sub_self] at hw
              have hw' : s ++ t = w := Option.some.inj hw
              rw [hk8, ← hw']
              exact hr3
          refine xj_iload (i := 4) d12_6_13 rfl ?_
          refine xj_aload_n (i := 2) d12_6_15 rfl rfl ?_
          refine xj_get d12_6_16 f12_18_8 h_c (by first | assumption | omega) (show c < M.1 by omega) rfl ?_
          refine xj_icmp_ge (tgt := 149) d12_6_19 rfl (fun h => absurd h (nI_ge (a := j) (b := S2.length) (by first | assumption | omega) (by first | assumption | omega))) (fun _ => ?_)
          refine xj_aload_n (i := 1) d12_6_22 rfl rfl ?_
          refine xj_get d12_6_23 f12_13_8 h_b (by first | assumption | omega) (show b < M.1 by omega) rfl ?_
          refine xj_iload_n (i := 3) d12_6_26 rfl rfl ?_
          refine xj_iaload (j := i) d12_6_27 h_nb (by first | assumption | omega) (show nb < M.1 by omega) (vp_in_nI (by first | assumption | omega) (by first | assumption | omega)) (nI_clamp (by first | assumption | omega)) ?_
          rw [show g1 i = nI s.length from hgs]
          refine xj_aload_n (i := 2) d12_6_28 rfl rfl ?_
          refine xj_get d12_6_29 f12_13_8 h_c (by first | assumption | omega) (show c < M.1 by omega) rfl ?_
          refine xj_iload (i := 4) d12_6_32 rfl ?_
          refine xj_iaload (j := j) d12_6_34 h_nc (by first | assumption | omega) (show nc < M.1 by omega) (vp_in_nI (by first | assumption | omega) (by first | assumption | omega)) (nI_clamp (by first | assumption | omega)) ?_
          rw [show g2 j = nI t.length from hgt]
          refine xj_iadd (v := nI (s.length + t.length)) d12_6_35 (nI_add s.length t.length) ?_
          refine xj_bipush (v := 12) d12_6_36 (by decide) ?_
          refine xj_icmp_le (tgt := 43) d12_6_38 rfl (fun _ => ?_) (fun h => absurd (nI_le (a := s.length + t.length) (b := 12) (by first | assumption | omega) (by first | assumption | omega)) h)
          refine xj_aload_n (i := 0) d12_6_43 rfl rfl ?_
          refine xj_get d12_6_44 f12_18_8 h_o (by first | assumption | omega) (show o < M.1 by omega) rfl ?_
          refine xj_bipush (v := 12) d12_6_47 (by decide) ?_
          refine xj_imul (v := nI (S.length * 12)) d12_6_49 (pk_mul S.length 12) ?_
          refine xj_istore (i := 5) (L' := [(5, .int (nI (S.length * 12))), (4, .int (nI j)), (3, .int (nI i)), (0, .ref o), (1, .ref b), (2, .ref c)]) d12_6_50 (by decide) rfl ?_
          refine xj_iload (i := 5) d12_6_52 rfl ?_
          refine xj_aload_n (i := 1) d12_6_54 rfl rfl ?_
          refine xj_get d12_6_55 f12_13_8 h_b (by first | assumption | omega) (show b < M.1 by omega) rfl ?_
          refine xj_iload_n (i := 3) d12_6_58 rfl rfl ?_
          refine xj_iaload (j := i) d12_6_59 h_nb (by first | assumption | omega) (show nb < M.1 by omega) (vp_in_nI (by first | assumption | omega) (by first | assumption | omega)) (nI_clamp (by first | assumption | omega)) ?_
          rw [show g1 i = nI s.length from hgs]
          refine xj_iadd (v := nI (S.length * 12 + s.length)) d12_6_60 (nI_add (S.length * 12) s.length) ?_
          refine xj_istore (i := 6) (L' := [(6, .int (nI (S.length * 12 + s.length))), (5, .int (nI (S.length * 12))), (4, .int (nI j)), (3, .int (nI i)), (0, .ref o), (1, .ref b), (2, .ref c)]) d12_6_61 (by decide) rfl ?_
          refine xj_aload_n (i := 1) d12_6_63 rfl rfl ?_
          refine xj_get d12_6_64 f12_9_8 h_b (by first | assumption | omega) (show b < M.1 by omega) rfl ?_
          refine xj_iload_n (i := 3) d12_6_67 rfl rfl ?_
          refine xj_bipush (v := 12) d12_6_68 (by decide) ?_
          refine xj_imul (v := nI (i * 12)) d12_6_70 (pk_mul i 12) ?_
          refine xj_aload_n (i := 0) d12_6_71 rfl rfl ?_
          refine xj_get d12_6_72 f12_9_8 h_o (by first | assumption | omega) (show o < M.1 by omega) rfl ?_
          refine xj_iload (i := 5) d12_6_75 rfl ?_
          refine xj_aload_n (i := 1) d12_6_77 rfl rfl ?_
          refine xj_get d12_6_78 f12_13_8 h_b (by first | assumption | omega) (show b < M.1 by omega) rfl ?_
          refine xj_iload_n (i := 3) d12_6_81 rfl rfl ?_
          refine xj_iaload (j := i) d12_6_82 h_nb (by first | assumption | omega) (show nb < M.1 by omega) (vp_in_nI (by first | assumption | omega) (by first | assumption | omega)) (nI_clamp (by first | assumption | omega)) ?_
          rw [show g1 i = nI s.length from hgs]
          refine xj_copy (t := 1) (i := i * 12) (j := S.length * 12) (k := s.length) d12_6_83 w801 w151 w150 w8 (by decide) h_lb (by first | assumption | omega) (show lb < M.1 by omega) h_lt (by first | assumption | omega) (show lt < M.1 by omega) (nI_pos (by first | assumption | omega)) (nI_pos (by first | assumption | omega)) (nI_pos (by first | assumption | omega)) (nI_clamp (by first | assumption | omega)) (nI_clamp (by first | assumption | omega)) (nI_clamp (by first | assumption | omega)) (by first | assumption | omega) (by first | assumption | omega) (fun z hz => by obtain ⟨u, q1, q2⟩ := hd1.1 ((i * 12) + z); rw [q2]; exact (pk_charN (by first | assumption | omega)).2) (by first | assumption | omega) (Nat.le_of_ble_eq_true rfl) ?_
          refine xj_abs_set (fun M1 hs1 ha1 ho1 => ?_)
          refine xj_aload_n (i := 2) d12_6_86 rfl rfl ?_
          refine xj_get d12_6_87 f12_9_8 ((ho1 c (by first | assumption | omega)).trans h_c) (by first | assumption | omega) (show c < M1.1 by omega) rfl ?_
          refine xj_iload (i := 4) d12_6_90 rfl ?_
          refine xj_bipush (v := 12) d12_6_92 (by decide) ?_
          refine xj_imul (v := nI (j * 12)) d12_6_94 (pk_mul j 12) ?_
          refine xj_aload_n (i := 0) d12_6_95 rfl rfl ?_
          refine xj_get d12_6_96 f12_9_8 ((ho1 o (by first | assumption | omega)).trans h_o) (by first | assumption | omega) (show o < M1.1 by omega) rfl ?_
          refine xj_iload (i := 6) d12_6_99 rfl ?_
          refine xj_aload_n (i := 2) d12_6_101 rfl rfl ?_
          refine xj_get d12_6_102 f12_13_8 ((ho1 c (by first | assumption | omega)).trans h_c) (by first | assumption | omega) (show c < M1.1 by omega) rfl ?_
          refine xj_iload (i := 4) d12_6_105 rfl ?_
          refine xj_iaload (j := j) d12_6_107 ((ho1 nc (by first | assumption | omega)).trans h_nc) (by first | assumption | omega) (show nc < M1.1 by omega) (vp_in_nI (by first | assumption | omega) (by first | assumption | omega)) (nI_clamp (by first | assumption | omega)) ?_
          rw [show g2 j = nI t.length from hgt]
          refine xj_copy (t := 1) (i := j * 12) (j := S.length * 12 + s.length) (k := t.length) d12_6_108 w801 w151 w150 w8 (by decide) ((ho1 lc (by first | assumption | omega)).trans h_lc) (by first | assumption | omega) (show lc < M1.1 by omega) ha1 (by first | assumption | omega) (show lt < M1.1 by omega) (nI_pos (by first | assumption | omega)) (nI_pos (by first | assumption | omega)) (nI_pos (by first | assumption | omega)) (nI_clamp (by first | assumption | omega)) (nI_clamp (by first | assumption | omega)) (nI_clamp (by first | assumption | omega)) (by first | assumption | omega) (by first | assumption | omega) (fun z hz => by obtain ⟨u, q1, q2⟩ := hd2.1 ((j * 12) + z); rw [q2]; exact (pk_charN (by first | assumption | omega)).2) (by first | assumption | omega) (Nat.le_of_ble_eq_true rfl) ?_
          refine xj_abs_set (fun M2 hs2 ha2 ho2 => ?_)
          refine xj_aload_n (i := 0) d12_6_111 rfl rfl ?_
          refine xj_get d12_6_112 f12_13_8 ((ho2 o (by first | assumption | omega)).trans ((ho1 o (by first | assumption | omega)).trans h_o)) (by first | assumption | omega) (show o < M2.1 by omega) rfl ?_
          refine xj_aload_n (i := 0) d12_6_115 rfl rfl ?_
          refine xj_get d12_6_116 f12_18_8 ((ho2 o (by first | assumption | omega)).trans ((ho1 o (by first | assumption | omega)).trans h_o)) (by first | assumption | omega) (show o < M2.1 by omega) rfl ?_
          refine xj_aload_n (i := 1) d12_6_119 rfl rfl ?_
          refine xj_get d12_6_120 f12_13_8 ((ho2 b (by first | assumption | omega)).trans ((ho1 b (by first | assumption | omega)).trans h_b)) (by first | assumption | omega) (show b < M2.1 by omega) rfl ?_
          refine xj_iload_n (i := 3) d12_6_123 rfl rfl ?_
          refine xj_iaload (j := i) d12_6_124 ((ho2 nb (by first | assumption | omega)).trans ((ho1 nb (by first | assumption | omega)).trans h_nb)) (by first | assumption | omega) (show nb < M2.1 by omega) (vp_in_nI (by first | assumption | omega) (by first | assumption | omega)) (nI_clamp (by first | assumption | omega)) ?_
          rw [show g1 i = nI s.length from hgs]
          refine xj_aload_n (i := 2) d12_6_125 rfl rfl ?_
          refine xj_get d12_6_126 f12_13_8 ((ho2 c (by first | assumption | omega)).trans ((ho1 c (by first | assumption | omega)).trans h_c)) (by first | assumption | omega) (show c < M2.1 by omega) rfl ?_
          refine xj_iload (i := 4) d12_6_129 rfl ?_
          refine xj_iaload (j := j) d12_6_131 ((ho2 nc (by first | assumption | omega)).trans ((ho1 nc (by first | assumption | omega)).trans h_nc)) (by first | assumption | omega) (show nc < M2.1 by omega) (vp_in_nI (by first | assumption | omega) (by first | assumption | omega)) (nI_clamp (by first | assumption | omega)) ?_
          rw [show g2 j = nI t.length from hgt]
          refine xj_iadd (v := nI (s.length + t.length)) d12_6_132 (nI_add s.length t.length) ?_
          refine xj_iastore (j := S.length) (x' := nI (s.length + t.length)) d12_6_133 ((ho2 ln (by first | assumption | omega)).trans ((ho1 ln (by first | assumption | omega)).trans h_ln)) (by first | assumption | omega) (show ln < M2.1 by omega) (vp_in_nI (by first | assumption | omega) (by first | assumption | omega)) (nI_clamp (by first | assumption | omega)) rfl ?_
          refine xj_abs_set (fun M3 hs3 ha3 ho3 => ?_)
          refine xj_aload_n (i := 0) d12_6_134 rfl rfl ?_
          refine xj_callV (rest := []) (As := []) (b := o) (wKpN hg hxn (M := M3) (kk := S.length) (S := S) (w := s ++ t) (by first | assumption | omega) (by first | assumption | omega) (by first | assumption | omega) (by first | assumption | omega) (by first | assumption | omega) (by first | assumption | omega) ((ho3 o (by first | assumption | omega)).trans ((ho2 o (by first | assumption | omega)).trans ((ho1 o (by first | assumption | omega)).trans h_o))) ((ho3 lt (by first | assumption | omega)).trans ha2) ha3 hS4 hr1 rfl hr2 hr3 hin (by first | assumption | omega)) d12_6_135 wd12_7 ((ho3 o (by first | assumption | omega)).trans ((ho2 o (by first | assumption | omega)).trans ((ho1 o (by first | assumption | omega)).trans h_o))) (by first | assumption | omega) (show o < M3.1 by omega) rfl s12_7 w776 (Or.inl w774) rfl rfl (Nat.le_of_ble_eq_true rfl) (by first | assumption | omega) (by first | assumption | omega) (by first | assumption | omega) ?_
          rintro v M4 ⟨rfl, hs4, ho4, ha4⟩
          refine xj_if_ne (tgt := 143) d12_6_138 rfl (fun _ => ?_) (fun h => absurd h (by decide))
          refine xj_iinc (v := nI (j + 1)) (L' := [(4, .int (nI (j + 1))), (6, .int (nI (S.length * 12 + s.length))), (5, .int (nI (S.length * 12))), (3, .int (nI i)), (0, .ref o), (1, .ref b), (2, .ref c)]) d12_6_143 rfl (xinc _) (by decide) rfl ?_
          refine xj_goto (tgt := 13) d12_6_146 rfl ?_
          refine xj_sub (L' := [(4, .int (nI (j + 1))), (3, .int (nI i)), (0, .ref o), (1, .ref b), (2, .ref c)]) (fun q hq => by simp only [List.mem_cons, List.not_mem_nil, or_false] at hq ⊢; rcases hq with rfl | rfl | rfl | rfl | rfl <;> simp) ?_
          refine ih (j + 1) (S ++ [s ++ t]) M4 (by first | assumption | omega) (fun y z1 z2 z3 => ((ho4 y (by first | assumption | omega)).trans ((ho3 y (by first | assumption | omega)).trans ((ho2 y (by first | assumption | omega)).trans (ho1 y (by first | assumption | omega))))).trans (hfr y z1 z2 z3)) (by first | assumption | omega) (fun k u hu => by rw [show j + 1 + k = j + (k + 1) by omega]; exact hT (k + 1) u hu) ⟨_, _, (by rw [List.length_append, List.length_singleton]; exact ha4), ((ho4 lt (by first | assumption | omega)).trans ((ho3 lt (by first | assumption | omega)).trans ha2)), ((ho4 ln (by first | assumption | omega)).trans ha3), by rw [List.length_append, List.length_singleton]; omega, hr1, hgr⟩ (fun e => K0 (by rw [hstep]; exact e)) (fun S' M' e => K1 S' M' (by rw [hstep]; exact e))
set_option maxRecDepth 20000 in
set_option maxHeartbeats 4000000 in
theorem wOutL {G : xG} (hg : xGood G) (hxn : xn = 16) {M0 : xM} {o lt ln b lb nb c lc nc : Nat} {S1 S2 : List (List Int32)} {f1 g1 f2 g2 : Nat → Int32} (hsz : 16 ≤ o ∧ o < M0.1 ∧ 16 ≤ lt ∧ lt < M0.1 ∧ 16 ≤ ln ∧ ln < M0.1 ∧ 16 ≤ b ∧ b < M0.1 ∧ 16 ≤ lb ∧ lb < M0.1 ∧ 16 ≤ nb ∧ nb < M0.1 ∧ 16 ≤ c ∧ c < M0.1 ∧ 16 ≤ lc ∧ lc < M0.1 ∧ 16 ≤ nc ∧ nc < M0.1) (hne : xNe o lt ∧ xNe o ln ∧ xNe lt ln ∧ xNe b o ∧ xNe b lt ∧ xNe b ln ∧ xNe lb o ∧ xNe lb lt ∧ xNe lb ln ∧ xNe nb o ∧ xNe nb lt ∧ xNe nb ln ∧ xNe c o ∧ xNe c lt ∧ xNe c ln ∧ xNe lc o ∧ xNe lc lt ∧ xNe lc ln ∧ xNe nc o ∧ xNe nc lt ∧ xNe nc ln) (k_b : M0.2 b = (.inr (8, [.ref lb, .ref nb, .int (nI S1.length)]))) (k_lb : M0.2 lb = (.inl (1, 60, .inl f1))) (k_nb : M0.2 nb = (.inl (0, 5, .inl g1))) (k_c : M0.2 c = (.inr (8, [.ref lc, .ref nc, .int (nI S2.length)]))) (k_lc : M0.2 lc = (.inl (1, 60, .inl f2))) (k_nc : M0.2 nc = (.inl (0, 5, .inl g2))) (hl1 : S1.length ≤ 4) (hl2 : S2.length ≤ 4) (hd1 : cWd f1 g1 S1) (hd2 : cWd f2 g2 S2) {d ce se cells slots : Nat} {Post : Option Value → xM → Prop} (hd : 3 ≤ d) (hcc : cells ≤ ce) (hss : slots ≤ se) : ∀ (T : List (List Int32)) (i : Nat) (S : List (List Int32)) (M : xM), M.1 = M0.1 → (∀ y, y ≠ o → y ≠ lt → y ≠ ln → M.2 y = M0.2 y) → i + T.length = S1.length → (∀ (k : Nat) (t : List Int32), T[k]? = some t → S1[i + k]? = some t) → cWm M o lt ln S → (sAdds S (sPrd T S2) = none → ∀ M' : xM, M'.1 = M0.1 → (∀ y, y ≠ o → y ≠ lt → y ≠ ln → M'.2 y = M0.2 y) → Post (some (.int 0)) M') → (∀ (S' : List (List Int32)) (M' : xM), sAdds S (sPrd T S2) = some S' → M'.1 = M0.1 → (∀ y, y ≠ o → y ≠ lt → y ≠ ln → M'.2 y = M0.2 y) → cWm M' o lt ln S' → Post (some (.int 1)) M') → XJ G Y12_6 d ce se cells slots 2 [(3, .int (nI i)), (0, .ref o), (1, .ref b), (2, .ref c)] [] M Post := by
  intro T
  induction T with
  | nil =>
    intro i S M hm hfr hi hT hW K0 K1
    have hi' : i = S1.length := hi
    obtain ⟨y0, y0', y1, y1', y2, y2', y3, y3', y4, y4', y5, y5', y6, y6', y7, y7', y8, y8'⟩ := id hsz
    obtain ⟨x0, x1, x2, x3, x4, x5, x6, x7, x8, x9, x10, x11, x12, x13, x14, x15, x16, x17, x18, x19, x20⟩ := id hne
    have x0' := xNe_symm x0
    have x1' := xNe_symm x1
    have x2' := xNe_symm x2
    have x3' := xNe_symm x3
    have x4' := xNe_symm x4
    have x5' := xNe_symm x5
    have x6' := xNe_symm x6
    have x7' := xNe_symm x7
    have x8' := xNe_symm x8
    have x9' := xNe_symm x9
    have x10' := xNe_symm x10
    have x11' := xNe_symm x11
    have x12' := xNe_symm x12
    have x13' := xNe_symm x13
    have x14' := xNe_symm x14
    have x15' := xNe_symm x15
    have x16' := xNe_symm x16
    have x17' := xNe_symm x17
    have x18' := xNe_symm x18
    have x19' := xNe_symm x19
    have x20' := xNe_symm x20
    obtain ⟨f, g, h_o, h_lt, h_ln, hS4, hdS⟩ := id hW
    have h_b := (hfr b (by assumption) (by assumption) (by assumption)).trans k_b
    have h_lb := (hfr lb (by assumption) (by assumption) (by assumption)).trans k_lb
    have h_nb := (hfr nb (by assumption) (by assumption) (by assumption)).trans k_nb
    have h_c := (hfr c (by assumption) (by assumption) (by assumption)).trans k_c
    have h_lc := (hfr lc (by assumption) (by assumption) (by assumption)).trans k_lc
    have h_nc := (hfr nc (by assumption) (by assumption) (by assumption)).trans k_nc
    refine xj_iload_n (i := 3) d12_6_2 rfl rfl ?_
    refine xj_aload_n (i := 1) d12_6_3 rfl rfl ?_
    refine xj_get d12_6_4 f12_18_8 h_b (by omega) (show b < M.1 by omega) rfl ?_
    refine xj_icmp_ge (tgt := 155) d12_6_7 rfl (fun _ => ?_) (fun h => absurd (nI_le (a := S1.length) (b := i) (by omega) (by omega)) h)
    refine xj_iconst (v := 1) d12_6_155 (by decide) ?_
    exact xj_ret d12_6_156 hcc hss rfl (K1 S M rfl hm hfr hW)
  | cons s T ih =>
    intro i S M hm hfr hi hT hW K0 K1
    rw [List.length_cons] at hi
    obtain ⟨y0, y0', y1, y1', y2, y2', y3, y3', y4, y4', y5, y5', y6, y6', y7, y7', y8, y8'⟩ := id hsz
    obtain ⟨x0, x1, x2, x3, x4, x5, x6, x7, x8, x9, x10, x11, x12, x13, x14, x15, x16, x17, x18, x19, x20⟩ := id hne
    have x0' := xNe_symm x0
    have x1' := xNe_symm x1
    have x2' := xNe_symm x2
    have x3' := xNe_symm x3
    have x4' := xNe_symm x4
    have x5' := xNe_symm x5
    have x6' := xNe_symm x6
    have x7' := xNe_symm x7
    have x8' := xNe_symm x8
    have x9' := xNe_symm x9
    have x10' := xNe_symm x10
    have x11' := xNe_symm x11
    have x12' := xNe_symm x12
    have x13' := xNe_symm x13
    have x14' := xNe_symm x14
    have x15' := xNe_symm x15
    have x16' := xNe_symm x16
    have x17' := xNe_symm x17
    have x18' := xNe_symm x18
    have x19' := xNe_symm x19
    have x20' := xNe_symm x20
    obtain ⟨f, g, h_o, h_lt, h_ln, hS4, hdS⟩ := id hW
    have h_b := (hfr b (by assumption) (by assumption) (by assumption)).trans k_b
    have h_lb := (hfr lb (by assumption) (by assumption) (by assumption)).trans k_lb
    have h_nb := (hfr nb (by assumption) (by assumption) (by assumption)).trans k_nb
    have h_c := (hfr c (by assumption) (by assumption) (by assumption)).trans k_c
    have h_lc := (hfr lc (by assumption) (by assumption) (by assumption)).trans k_lc
    have h_nc := (hfr nc (by assumption) (by assumption) (by assumption)).trans k_nc
    have hs : S1[i]? = some s := hT 0 s rfl
    have hpr : sAdds S (sPrd (s :: T) S2) = (sAdds S (S2.map fun t => s ++ t)).bind fun U => sAdds U (sPrd T S2) := by
      rw [sPrd_cons]
      exact sAdds_app _ _ _
    have hnxt : ∀ (S8 : List (List Int32)) (M8 : xM), M8.1 = M0.1 → (∀ y, y ≠ o → y ≠ lt → y ≠ ln → M8.2 y = M0.2 y) → cWm M8 o lt ln S8 → (sAdds S8 (sPrd T S2) = none → ∀ M' : xM, M'.1 = M0.1 → (∀ y, y ≠ o → y ≠ lt → y ≠ ln → M'.2 y = M0.2 y) → Post (some (.int 0)) M') → (∀ (S' : List (List Int32)) (M' : xM), sAdds S8 (sPrd T S2) = some S' → M'.1 = M0.1 → (∀ y, y ≠ o → y ≠ lt → y ≠ ln → M'.2 y = M0.2 y) → cWm M' o lt ln S' → Post (some (.int 1)) M') → XJ G Y12_6 d ce se cells slots 149 [(3, .int (nI i)), (0, .ref o), (1, .ref b), (2, .ref c)] [] M8 Post := by
      intro S8 M8 e1 e2 e3 K0' K1'
      refine xj_iinc (v := nI (i + 1)) (L' := [(3, .int (nI (i + 1))), (0, .ref o), (1, .ref b), (2, .ref c)]) d12_6_149 rfl (xinc _) (by decide) rfl ?_
      refine xj_goto (tgt := 2) d12_6_152 rfl ?_
      exact ih (i + 1) S8 M8 e1 e2 (by omega) (fun k u hu => by rw [show i + 1 + k = i + (k + 1) by omega]; exact hT (k + 1) u hu) e3 K0' K1'
    refine xj_iload_n (i := 3) d12_6_2 rfl rfl ?_
    refine xj_aload_n (i := 1) d12_6_3 rfl rfl ?_
    refine xj_get d12_6_4 f12_18_8 h_b (by omega) (show b < M.1 by omega) rfl ?_
    refine xj_icmp_ge (tgt := 155) d12_6_7 rfl (fun h => absurd h (nI_ge (a := i) (b := S1.length) (by omega) (by omega))) (fun _ => ?_)
    refine xj_iconst (v := 0) d12_6_10 (by decide) ?_
    refine xj_istore (i := 4) (L' := [(4, .int 0), (3, .int (nI i)), (0, .ref o), (1, .ref b), (2, .ref c)]) d12_6_11 (by decide) rfl ?_
    refine wInL hg hxn hsz hne k_b k_lb k_nb k_c k_lc k_nc hl1 hl2 hd1 hd2 hs hd hcc hss S2 0 S M hm hfr (by omega) (fun k t hk => by rw [Nat.zero_add]; exact hk) hW (fun e M' e1 e2 => K0 (by rw [hpr, e]; rfl) M' e1 e2) (fun S' M' e e1 e2 e3 => ?_)
    have K0' : sAdds S' (sPrd T S2) = none → ∀ M' : xM, M'.1 = M0.1 → (∀ y, y ≠ o → y ≠ lt → y ≠ ln → M'.2 y = M0.2 y) → Post (some (.int 0)) M' := fun q => K0 (by rw [hpr, e]; exact q)
    have K1' : ∀ (S'' : List (List Int32)) (M' : xM), sAdds S' (sPrd T S2) = some S'' → M'.1 = M0.1 → (∀ y, y ≠ o → y ≠ lt → y ≠ ln → M'.2 y = M0.2 y) → cWm M' o lt ln S'' → Post (some (.int 1)) M' := fun S'' M9 q => K1 S'' M9 (by rw [hpr, e]; exact q)
    exact hnxt S' M' e1 e2 e3 K0' K1'
set_option maxRecDepth 20000 in
theorem wJoin {G : xG} (hg : xGood G) (hxn : xn = 16) {M : xM} {o lt ln b lb nb c lc nc : Nat} {S1 S2 : List (List Int32)} {f1 g1 f2 g2 : Nat → Int32} (hsz : 16 ≤ o ∧ o < M.1 ∧ 16 ≤ lt ∧ lt < M.1 ∧ 16 ≤ ln ∧ ln < M.1 ∧ 16 ≤ b ∧ b < M.1 ∧ 16 ≤ lb ∧ lb < M.1 ∧ 16 ≤ nb ∧ nb < M.1 ∧ 16 ≤ c ∧ c < M.1 ∧ 16 ≤ lc ∧ lc < M.1 ∧ 16 ≤ nc ∧ nc < M.1) (hne : xNe o lt ∧ xNe o ln ∧ xNe lt ln ∧ xNe b o ∧ xNe b lt ∧ xNe b ln ∧ xNe lb o ∧ xNe lb lt ∧ xNe lb ln ∧ xNe nb o ∧ xNe nb lt ∧ xNe nb ln ∧ xNe c o ∧ xNe c lt ∧ xNe c ln ∧ xNe lc o ∧ xNe lc lt ∧ xNe lc ln ∧ xNe nc o ∧ xNe nc lt ∧ xNe nc ln) (k_b : M.2 b = (.inr (8, [.ref lb, .ref nb, .int (nI S1.length)]))) (k_lb : M.2 lb = (.inl (1, 60, .inl f1))) (k_nb : M.2 nb = (.inl (0, 5, .inl g1))) (k_c : M.2 c = (.inr (8, [.ref lc, .ref nc, .int (nI S2.length)]))) (k_lc : M.2 lc = (.inl (1, 60, .inl f2))) (k_nc : M.2 nc = (.inl (0, 5, .inl g2))) (hl1 : S1.length ≤ 4) (hl2 : S2.length ≤ 4) (hd1 : cWd f1 g1 S1) (hd2 : cWd f2 g2 S2) {S : List (List Int32)} (hW : cWm M o lt ln S) : XC G Y12_6 (some .boolean) 3 0 0 [.ref o, .ref b, .ref c] M (fun v M' => M'.1 = M.1 ∧ (∀ y, y ≠ o → y ≠ lt → y ≠ ln → M'.2 y = M.2 y) ∧ ((sAdds S (sPrd S1 S2) = none ∧ v = some (.int 0)) ∨ ∃ S', sAdds S (sPrd S1 S2) = some S' ∧ v = some (.int 1) ∧ cWm M' o lt ln S')) := by
  refine xc_of hg (by decide) (Nat.le_of_ble_eq_true rfl) (Or.inr (Or.inl ⟨rfl, rfl, fun v M' h => by
    rcases h.2.2 with ⟨-, q⟩ | ⟨S', -, q, -⟩
    · exact ⟨_, q, Or.inl rfl⟩
    · exact ⟨_, q, Or.inr rfl⟩⟩)) ?_
  refine xj_iconst (v := 0) d12_6_0 (by decide) ?_
  refine xj_istore_n (i := 3) (L' := [(3, .int 0), (0, .ref o), (1, .ref b), (2, .ref c)]) d12_6_1 rfl (by decide) rfl ?_
  exact wOutL hg hxn hsz hne k_b k_lb k_nb k_c k_lc k_nc hl1 hl2 hd1 hd2 (by omega) (by omega) (by omega) S1 0 S M rfl (fun _ _ _ _ => rfl) (by omega) (fun k t hk => by rw [Nat.zero_add]; exact hk) hW (fun e M' e1 e2 => ⟨e1, e2, Or.inl ⟨e, rfl⟩⟩) (fun S' M' e e1 e2 e3 => ⟨e1, e2, Or.inr ⟨S', e, rfl, e3⟩⟩)

set_option maxRecDepth 20000 in
theorem gLen {G : xG} (hg : xGood G) {M : xM} {n : Nat} (hn : M.1 = n) (hx : xn ≤ n) {cap : Nat} (hc1 : 10 ≤ cap) (hc2 : cap ≤ 27) : XC G Y35_27 (some .int) 1 0 0 [.int (nI cap), .int 1, .int (nI (cap / 2))] M (fun v M' => v = some (.int (nI (cap + cap / 2))) ∧ M' = M) := by
  refine xc_of hg (by decide) (Nat.le_of_ble_eq_true rfl) (Or.inl ⟨rfl, rfl, fun v M' h => ⟨_, h.1⟩⟩) ?_
  refine xj_iload_n (i := 0) d35_27_0 rfl rfl ?_
  refine xj_iload_n (i := 1) d35_27_1 rfl rfl ?_
  refine xj_iload_n (i := 2) d35_27_2 rfl rfl ?_
  refine xj_max d35_27_3 w185 w186 w10 w187 (by omega) (Nat.le_of_ble_eq_true rfl) (by omega) (by omega) ?_
  rw [show (if 1 < nI (cap / 2) then nI (cap / 2) else 1) = nI (cap / 2) from (if_pos (nI_lt (a := 1) (b := cap / 2) (by omega) (by omega)))]
  refine xj_iadd (v := nI (cap + (cap / 2))) d35_27_6 (nI_add cap (cap / 2)) ?_
  refine xj_istore_n (i := 3) (L' := [(3, .int (nI (cap + (cap / 2)))), (0, .int (nI cap)), (1, .int 1), (2, .int (nI (cap / 2)))]) d35_27_7 rfl (by decide) rfl ?_
  refine xj_iconst (v := 0) d35_27_8 (by decide) ?_
  refine xj_iload_n (i := 3) d35_27_9 rfl rfl ?_
  refine xj_icmp_ge (tgt := 21) d35_27_10 rfl (fun h => absurd h (nI_nle (by omega) (by omega))) (fun _ => ?_)
  refine xj_iload_n (i := 3) d35_27_13 rfl rfl ?_
  refine xj_ldc (v := 2147483639) d35_27_14 w188 ?_
  refine xj_icmp_gt (tgt := 21) d35_27_16 rfl (fun h => absurd h (Int32.not_lt.mpr (by rw [Int32.le_iff_toInt_le, nI_toInt (by omega)]; show _ ≤ (2147483639 : Int); omega))) (fun _ => ?_)
  refine xj_iload_n (i := 3) d35_27_19 rfl rfl ?_
  exact xj_ret d35_27_20 (by omega) (by omega) rfl ⟨rfl, rfl⟩
set_option maxRecDepth 20000 in
theorem gCop3 {G : xG} (hg : xGood G) {M : xM} {n : Nat} (hn : M.1 = n) (hx : xn ≤ n) {e : Nat} {cap : Nat} {f : Nat → Option Nat} (h1_e : xn ≤ e) (h2_e : e < n) (h_e : M.2 e = (.inl (4, cap, .inr (.inr (.inr (.inr f)))))) (hc1 : 10 ≤ cap) (hc2 : cap ≤ 27) (hMi : xHM G) (hel : ∀ z, z < cap → ∀ y, f z = some y → xOb M y) : XC G Y29_120 (some (.array (.object "java/lang/Object"))) 1 1 40 [.ref e, .int (nI (cap + cap / 2)), .ref 13] M (fun v M' => v = some (.ref n) ∧ M'.1 = n + 1 ∧ (∀ j, j < n → M'.2 j = M.2 j) ∧ M'.2 n = (.inl (4, cap + cap / 2, .inr (.inr (.inr (.inr (va_cpy f (fun _ => none) 0 0 cap))))))) := by
  refine xc_of hg (by decide) (Nat.le_of_ble_eq_true rfl) (Or.inr (Or.inr (Or.inr (Or.inr (Or.inr ⟨⟨_, rfl, Or.inr ⟨_, rfl⟩⟩, rfl, fun v M' h => Or.inr ⟨_, h.1⟩⟩))))) ?_
  refine xj_aload_n (i := 2) d29_120_0 rfl rfl ?_
  refine xj_ldcM (a := 13) hMi d29_120_1 w215 ?_
  refine xj_acmp_ne1 (tgt := 13) d29_120_3 rfl ?_
  refine xj_iload_n (i := 1) d29_120_6 rfl rfl ?_
  refine xj_anew (N := cap + cap / 2) (t := 4) (na := n) d29_120_7 w217 w216 (by decide) rfl (nI_pos (by omega)) (nI_clamp (by omega)) (by omega) (show M.1 = n by omega) (by omega) (by omega) ?_
  refine xj_abs_push (show M.1 = n by omega) (fun M1 hs1 ha1 ho1 => ?_)
  refine xj_goto (tgt := 24) d29_120_10 rfl ?_
  refine xj_astore_n (i := 3) (L' := [(3, .ref n), (0, .ref e), (1, .int (nI (cap + cap / 2))), (2, .ref 13)]) d29_120_24 rfl (by decide) rfl ?_
  have hel' : ∀ y z, z < cap → f z = some y → xOb M1 y := fun y z hz hy => by
    obtain ⟨g1, g2, bc, bf, bC, bT, bN, g3, g4⟩ := hel z hz y hy
    exact ⟨g1, by omega, bc, bf, bC, bT, bN, (ho1 y (by omega)).trans g3, g4⟩
  refine xj_aload_n (i := 0) d29_120_25 rfl rfl ?_
  refine xj_iconst (v := 0) d29_120_26 (by decide) ?_
  refine xj_aload_n (i := 3) d29_120_27 rfl rfl ?_
  refine xj_iconst (v := 0) d29_120_28 (by decide) ?_
  refine xj_aload_n (i := 0) d29_120_29 rfl rfl ?_
  refine xj_alen (v := nI cap) d29_120_30 ((ho1 e (by omega)).trans h_e) (by decide) (by omega) (show e < M1.1 by omega) rfl ?_
  refine xj_iload_n (i := 1) d29_120_31 rfl rfl ?_
  refine xj_min d29_120_32 w218 w219 w10 w220 (by omega) (Nat.le_of_ble_eq_true rfl) (by omega) (by omega) ?_
  rw [show (if nI (cap + cap / 2) < nI cap then nI (cap + cap / 2) else nI cap) = nI cap from (if_neg (nI_nlt (by omega) (by omega)))]
  refine xj_copyM (i := 0) (j := 0) (k := cap) d29_120_35 w221 w151 w150 w8 ((ho1 e (by omega)).trans h_e) (by omega) (show e < M1.1 by omega) ha1 (by omega) (show n < M1.1 by omega) (by decide) (by decide) (nI_pos (by omega)) (by decide) (by decide) (nI_clamp (by omega)) (by omega) (by omega) (fun z hz y hy => hel' y z hz (by rw [Nat.zero_add] at hy; exact hy)) (by omega) (Nat.le_of_ble_eq_true rfl) ?_
  refine xj_abs_set (fun M2 hs2 ha2 ho2 => ?_)
  refine xj_aload_n (i := 3) d29_120_38 rfl rfl ?_
  exact xj_ret d29_120_39 (by omega) (by omega) rfl ⟨rfl, (show M2.1 = n + 1 by omega), (fun j hj  => ((ho2 j (by omega)).trans (ho1 j (by omega)))), ha2⟩
set_option maxRecDepth 20000 in
theorem gCop2 {G : xG} (hg : xGood G) {M : xM} {n : Nat} (hn : M.1 = n) (hx : xn ≤ n) {e : Nat} {cap : Nat} {f : Nat → Option Nat} (h1_e : xn ≤ e) (h2_e : e < n) (h_e : M.2 e = (.inl (4, cap, .inr (.inr (.inr (.inr f)))))) (hc1 : 10 ≤ cap) (hc2 : cap ≤ 27) (hMi : xHM G) (hel : ∀ z, z < cap → ∀ y, f z = some y → xOb M y) : XC G Y29_119 (some (.array (.object "java/lang/Object"))) 2 1 40 [.ref e, .int (nI (cap + cap / 2))] M (fun v M' => v = some (.ref n) ∧ M'.1 = n + 1 ∧ (∀ j, j < n → M'.2 j = M.2 j) ∧ M'.2 n = (.inl (4, cap + cap / 2, .inr (.inr (.inr (.inr (va_cpy f (fun _ => none) 0 0 cap))))))) := by
  refine xc_of hg (by decide) (Nat.le_of_ble_eq_true rfl) (Or.inr (Or.inr (Or.inr (Or.inr (Or.inr ⟨⟨_, rfl, Or.inr ⟨_, rfl⟩⟩, rfl, fun v M' h => Or.inr ⟨_, h.1⟩⟩))))) ?_
  refine xj_aload_n (i := 0) d29_119_0 rfl rfl ?_
  refine xj_iload_n (i := 1) d29_119_1 rfl rfl ?_
  refine xj_aload_n (i := 0) d29_119_2 rfl rfl ?_
  refine xj_getC hMi d29_119_3 w195 w1390 w1389 w196 w211 h_e (by omega) (show e < M.1 by omega) (by omega) (Nat.le_of_ble_eq_true rfl) ?_
  refine xj_callS (rest := []) (As := [.ref e, .int (nI (cap + cap / 2)), .ref 13]) (gCop3 hg (M := M) (n := n) (e := e) (cap := cap) (f := f) (show M.1 = n by omega) (by omega) (by omega) (by omega) h_e (by omega) (by omega) hMi hel) d29_119_6 wd29_120 w213 (Or.inl w212) rfl rfl (Nat.le_of_ble_eq_true rfl) (by omega) (by omega) (by omega) ?_
  rintro v M1 ⟨rfl, hs1, ho1, hf1_0⟩
  replace hs1 : M1.1 = n + 1 := hs1
  replace hf1_0 : M1.2 n = (.inl (4, cap + cap / 2, .inr (.inr (.inr (.inr (va_cpy f (fun _ => none) 0 0 cap)))))) := hf1_0
  exact xj_ret d29_119_9 (by omega) (by omega) rfl ⟨rfl, (show M1.1 = n + 1 by omega), (fun j hj  => (ho1 j (by omega))), hf1_0⟩
set_option maxRecDepth 20000 in
theorem gGrow1 {G : xG} (hg : xGood G) {M : xM} {n : Nat} (hn : M.1 = n) (hx : xn ≤ n) {a : Nat} {e : Nat} {mo : Int32} {cap : Nat} {f : Nat → Option Nat} (h1_a : xn ≤ a) (h2_a : a < n) (h_a : M.2 a = (.inr (2, [.ref e, .int (nI cap), .int mo]))) (h1_e : xn ≤ e) (h2_e : e < n) (h_e : M.2 e = (.inl (4, cap, .inr (.inr (.inr (.inr f)))))) (hc1 : 10 ≤ cap) (hc2 : cap ≤ 27) (hMi : xHM G) (hel : ∀ z, z < cap → ∀ y, f z = some y → xOb M y) : XC G Y28_6 (some (.array (.object "java/lang/Object"))) 3 1 40 [.ref a, .int (nI (cap + 1))] M (fun v M' => v = some (.ref n) ∧ M'.1 = n + 1 ∧ (∀ j, j < n → j ≠ a → M'.2 j = M.2 j) ∧ M'.2 a = (.inr (2, [.ref n, .int (nI cap), .int mo])) ∧ M'.2 n = (.inl (4, cap + cap / 2, .inr (.inr (.inr (.inr (va_cpy f (fun _ => none) 0 0 cap))))))) := by
  refine xc_of hg (by decide) (Nat.le_of_ble_eq_true rfl) (Or.inr (Or.inr (Or.inr (Or.inr (Or.inr ⟨⟨_, rfl, Or.inr ⟨_, rfl⟩⟩, rfl, fun v M' h => Or.inr ⟨_, h.1⟩⟩))))) ?_
  refine xj_aload_n (i := 0) d28_6_0 rfl rfl ?_
  refine xj_get d28_6_1 f28_9_2 h_a (by omega) (show a < M.1 by omega) rfl ?_
  refine xj_alen (v := nI cap) d28_6_4 h_e (by decide) (by omega) (show e < M.1 by omega) rfl ?_
  refine xj_istore_n (i := 2) (L' := [(2, .int (nI cap)), (0, .ref a), (1, .int (nI (cap + 1)))]) d28_6_5 rfl (by decide) rfl ?_
  refine xj_iload_n (i := 2) d28_6_6 rfl rfl ?_
  refine xj_if_gt (tgt := 20) d28_6_7 rfl (fun _ => ?_) (fun h => absurd (nI_lt (a := 0) (b := cap) (by omega) (by omega)) h)
  refine xj_iload_n (i := 2) d28_6_20 rfl rfl ?_
  refine xj_iload_n (i := 1) d28_6_21 rfl rfl ?_
  refine xj_iload_n (i := 2) d28_6_22 rfl rfl ?_
  refine xj_isub (v := 1) d28_6_23 (by rw [show (1 : Int32) = nI 1 from by decide, pk_sub (by omega)]; exact congrArg nI (by omega)) ?_
  refine xj_iload_n (i := 2) d28_6_24 rfl rfl ?_
  refine xj_iconst (v := 1) d28_6_25 (by decide) ?_
  refine xj_ishr (v := nI (cap / 2)) d28_6_26 (pk_shrN (by omega) _ 1 (by decide)) ?_
  refine xj_callS (rest := []) (As := [.int (nI cap), .int 1, .int (nI (cap / 2))]) (gLen hg (M := M) (n := n) (cap := cap) (show M.1 = n by omega) (by omega) (by omega) (by omega)) d28_6_27 wd35_27 w183 (Or.inl w182) rfl rfl (Nat.le_of_ble_eq_true rfl) (by omega) (by omega) (by omega) ?_
  rintro v M' ⟨rfl, hm⟩
  subst M'
  refine xj_istore_n (i := 3) (L' := [(3, .int (nI (cap + cap / 2))), (2, .int (nI cap)), (0, .ref a), (1, .int (nI (cap + 1)))]) d28_6_30 rfl (by decide) rfl ?_
  refine xj_aload_n (i := 0) d28_6_31 rfl rfl ?_
  refine xj_aload_n (i := 0) d28_6_32 rfl rfl ?_
  refine xj_get d28_6_33 f28_9_2 h_a (by omega) (show a < M.1 by omega) rfl ?_
  refine xj_iload_n (i := 3) d28_6_36 rfl rfl ?_
  refine xj_callS (rest := [.ref a]) (As := [.ref e, .int (nI (cap + cap / 2))]) (gCop2 hg (M := M) (n := n) (e := e) (cap := cap) (f := f) (show M.1 = n by omega) (by omega) (by omega) (by omega) h_e (by omega) (by omega) hMi hel) d28_6_37 wd29_119 w193 (Or.inl w192) rfl rfl (Nat.le_of_ble_eq_true rfl) (by omega) (by omega) (by omega) ?_
  rintro v M1 ⟨rfl, hs1, ho1, hf1_0⟩
  replace hs1 : M1.1 = n + 1 := hs1
  replace hf1_0 : M1.2 n = (.inl (4, cap + cap / 2, .inr (.inr (.inr (.inr (va_cpy f (fun _ => none) 0 0 cap)))))) := hf1_0
  refine xj_dup_x1 d28_6_40 rfl rfl ?_
  refine xj_put (a := a) (fs' := [.ref n, .int (nI cap), .int mo]) d28_6_41 f28_9_2 ((ho1 a (by omega)).trans h_a) (by omega) (show a < M1.1 by omega) (Nat.le_of_ble_eq_true rfl) rfl rfl rfl ?_
  refine xj_abs_set (fun M2 hs2 ha2 ho2 => ?_)
  exact xj_ret d28_6_44 (by omega) (by omega) rfl ⟨rfl, (show M2.1 = n + 1 by omega), (fun j hj hj0 => ((ho2 j (by omega)).trans (ho1 j (by omega)))), ha2, ((ho2 n (by omega)).trans hf1_0)⟩
set_option maxRecDepth 20000 in
theorem gGrow {G : xG} (hg : xGood G) {M : xM} {n : Nat} (hn : M.1 = n) (hx : xn ≤ n) {a : Nat} {e : Nat} {mo : Int32} {cap : Nat} {f : Nat → Option Nat} (h1_a : xn ≤ a) (h2_a : a < n) (h_a : M.2 a = (.inr (2, [.ref e, .int (nI cap), .int mo]))) (h1_e : xn ≤ e) (h2_e : e < n) (h_e : M.2 e = (.inl (4, cap, .inr (.inr (.inr (.inr f)))))) (hc1 : 10 ≤ cap) (hc2 : cap ≤ 27) (hMi : xHM G) (hel : ∀ z, z < cap → ∀ y, f z = some y → xOb M y) : XC G Y28_7 (some (.array (.object "java/lang/Object"))) 4 1 40 [.ref a] M (fun v M' => v = some (.ref n) ∧ M'.1 = n + 1 ∧ (∀ j, j < n → j ≠ a → M'.2 j = M.2 j) ∧ M'.2 a = (.inr (2, [.ref n, .int (nI cap), .int mo])) ∧ M'.2 n = (.inl (4, cap + cap / 2, .inr (.inr (.inr (.inr (va_cpy f (fun _ => none) 0 0 cap))))))) := by
  refine xc_of hg (by decide) (Nat.le_of_ble_eq_true rfl) (Or.inr (Or.inr (Or.inr (Or.inr (Or.inr ⟨⟨_, rfl, Or.inr ⟨_, rfl⟩⟩, rfl, fun v M' h => Or.inr ⟨_, h.1⟩⟩))))) ?_
  refine xj_aload_n (i := 0) d28_7_0 rfl rfl ?_
  refine xj_aload_n (i := 0) d28_7_1 rfl rfl ?_
  refine xj_get d28_7_2 f28_48_2 h_a (by omega) (show a < M.1 by omega) rfl ?_
  refine xj_iconst (v := 1) d28_7_5 (by decide) ?_
  refine xj_iadd (v := nI (cap + 1)) d28_7_6 (nI_1 _) ?_
  refine xj_callV (rest := []) (As := [.int (nI (cap + 1))]) (b := a) (gGrow1 hg (M := M) (n := n) (a := a) (e := e) (mo := mo) (cap := cap) (f := f) (show M.1 = n by omega) (by omega) (by omega) (by omega) h_a (by omega) (by omega) h_e (by omega) (by omega) hMi hel) d28_7_7 wd28_6 h_a (by omega) (show a < M.1 by omega) rfl s28_6 w180 (Or.inl w178) rfl rfl (Nat.le_of_ble_eq_true rfl) (by omega) (by omega) (by omega) ?_
  rintro v M1 ⟨rfl, hs1, ho1, hf1_0, hf1_1⟩
  replace hs1 : M1.1 = n + 1 := hs1
  replace hf1_0 : M1.2 a = (.inr (2, [.ref n, .int (nI cap), .int mo])) := hf1_0
  replace hf1_1 : M1.2 n = (.inl (4, cap + cap / 2, .inr (.inr (.inr (.inr (va_cpy f (fun _ => none) 0 0 cap)))))) := hf1_1
  exact xj_ret d28_7_10 (by omega) (by omega) rfl ⟨rfl, (show M1.1 = n + 1 by omega), (fun j hj hj0 => (ho1 j (by omega) (by omega))), hf1_0, hf1_1⟩
set_option maxRecDepth 20000 in
theorem gAdd3 {G : xG} (hg : xGood G) {M : xM} {n : Nat} (hn : M.1 = n) (hx : xn ≤ n) {a : Nat} {e : Nat} {mo : Int32} {cap : Nat} {f : Nat → Option Nat} {b : Nat} {bc_b : Nat} {bf_b : List Value} {bC_b : String} {bT_b : u_T} {bN_b : Nat} (h1_a : xn ≤ a) (h2_a : a < n) (h_a : M.2 a = (.inr (2, [.ref e, .int (nI cap), .int mo]))) (h1_e : xn ≤ e) (h2_e : e < n) (h_e : M.2 e = (.inl (4, cap, .inr (.inr (.inr (.inr f)))))) (h1_b : xn ≤ b) (h2_b : b < n) (h_b : M.2 b = (.inr (bc_b, bf_b))) (hc1 : 10 ≤ cap) (hc2 : cap ≤ 27) (hMi : xHM G) (hel : ∀ z, z < cap → ∀ y, f z = some y → xOb M y) (hab : a ≠ b) (hae : a ≠ e) (hbe : b ≠ e) (hc_b : vwCl[bc_b]? = some (bC_b, bT_b, bN_b)) (hA_b : xAsg bC_b "java/lang/Object") : XC G Y28_24 none 5 1 40 [.ref a, .ref b, .ref e, .int (nI cap)] M (fun v M' => v = none ∧ M'.1 = n + 1 ∧ (∀ j, j < n → j ≠ a → M'.2 j = M.2 j) ∧ M'.2 a = (.inr (2, [.ref n, .int (nI (cap + 1)), .int mo])) ∧ M'.2 n = (.inl (4, cap + cap / 2, .inr (.inr (.inr (.inr (va_up (va_cpy f (fun _ => none) 0 0 cap) cap (some b)))))))) := by
  refine xc_of hg (by decide) (Nat.le_of_ble_eq_true rfl) (Or.inr (Or.inr (Or.inr (Or.inr (Or.inl ⟨rfl, rfl, fun v M' h => h.1⟩))))) ?_
  refine xj_iload_n (i := 3) d28_24_0 rfl rfl ?_
  refine xj_aload_n (i := 2) d28_24_1 rfl rfl ?_
  refine xj_alen (v := nI cap) d28_24_2 h_e (by decide) (by omega) (show e < M.1 by omega) rfl ?_
  refine xj_icmp_ne (tgt := 11) d28_24_3 rfl (fun h => absurd rfl h) (fun _ => ?_)
  refine xj_aload_n (i := 0) d28_24_6 rfl rfl ?_
  refine xj_callV (rest := []) (As := []) (b := a) (gGrow hg (M := M) (n := n) (a := a) (e := e) (mo := mo) (cap := cap) (f := f) (show M.1 = n by omega) (by omega) (by omega) (by omega) h_a (by omega) (by omega) h_e (by omega) (by omega) hMi hel) d28_24_7 wd28_7 h_a (by omega) (show a < M.1 by omega) rfl s28_7 w176 (Or.inl w174) rfl rfl (Nat.le_of_ble_eq_true rfl) (by omega) (by omega) (by omega) ?_
  rintro v M1 ⟨rfl, hs1, ho1, hf1_0, hf1_1⟩
  replace hs1 : M1.1 = n + 1 := hs1
  replace hf1_0 : M1.2 a = (.inr (2, [.ref n, .int (nI cap), .int mo])) := hf1_0
  replace hf1_1 : M1.2 n = (.inl (4, cap + cap / 2, .inr (.inr (.inr (.inr (va_cpy f (fun _ => none) 0 0 cap)))))) := hf1_1
  refine xj_astore_n (i := 2) (L' := [(2, .ref n), (0, .ref a), (1, .ref b), (3, .int (nI cap))]) d28_24_10 rfl (by decide) rfl ?_
  refine xj_aload_n (i := 2) d28_24_11 rfl rfl ?_
  refine xj_iload_n (i := 3) d28_24_12 rfl rfl ?_
  refine xj_aload_n (i := 1) d28_24_13 rfl rfl ?_
  refine xj_aastore (j := cap) d28_24_14 hf1_1 (by decide) rfl (by omega) (show n < M1.1 by omega) (vp_in_nI (by omega) (by omega)) (nI_clamp (by omega)) ((ho1 b (by omega) (by omega)).trans h_b) (by omega) (show b < M1.1 by omega) hc_b hA_b ?_
  refine xj_abs_set (fun M2 hs2 ha2 ho2 => ?_)
  refine xj_aload_n (i := 0) d28_24_15 rfl rfl ?_
  refine xj_iload_n (i := 3) d28_24_16 rfl rfl ?_
  refine xj_iconst (v := 1) d28_24_17 (by decide) ?_
  refine xj_iadd (v := nI (cap + 1)) d28_24_18 (nI_1 _) ?_
  refine xj_put (a := a) (fs' := [.ref n, .int (nI (cap + 1)), .int mo]) d28_24_19 f28_48_2 ((ho2 a (by omega)).trans hf1_0) (by omega) (show a < M2.1 by omega) (Nat.le_of_ble_eq_true rfl) rfl rfl rfl ?_
  refine xj_abs_set (fun M3 hs3 ha3 ho3 => ?_)
  exact xj_ret d28_24_22 (by omega) (by omega) rfl ⟨rfl, (show M3.1 = n + 1 by omega), (fun j hj hj0 => ((ho3 j (by omega)).trans ((ho2 j (by omega)).trans (ho1 j (by omega) (by omega))))), ha3, ((ho3 n (by omega)).trans ha2)⟩
set_option maxRecDepth 20000 in
theorem gAddZ {G : xG} (hg : xGood G) {M : xM} {n : Nat} (hn : M.1 = n) (hx : xn ≤ n) {a : Nat} {e : Nat} {mo : Int32} {cap : Nat} {f : Nat → Option Nat} {b : Nat} {bc_b : Nat} {bf_b : List Value} {bC_b : String} {bT_b : u_T} {bN_b : Nat} (h1_a : xn ≤ a) (h2_a : a < n) (h_a : M.2 a = (.inr (2, [.ref e, .int (nI cap), .int mo]))) (h1_e : xn ≤ e) (h2_e : e < n) (h_e : M.2 e = (.inl (4, cap, .inr (.inr (.inr (.inr f)))))) (h1_b : xn ≤ b) (h2_b : b < n) (h_b : M.2 b = (.inr (bc_b, bf_b))) (hc1 : 10 ≤ cap) (hc2 : cap ≤ 27) (hMi : xHM G) (hel : ∀ z, z < cap → ∀ y, f z = some y → y ≠ a ∧ xOb M y) (hab : a ≠ b) (hae : a ≠ e) (hbe : b ≠ e) (hc_b : vwCl[bc_b]? = some (bC_b, bT_b, bN_b)) (hA_b : xAsg bC_b "java/lang/Object") : XC G Y28_25 (some .boolean) 6 1 40 [.ref a, .ref b] M (fun v M' => v = some (.int 1) ∧ M'.1 = n + 1 ∧ (∀ j, j < n → j ≠ a → M'.2 j = M.2 j) ∧ M'.2 a = (.inr (2, [.ref n, .int (nI (cap + 1)), .int (mo + 1)])) ∧ M'.2 n = (.inl (4, cap + cap / 2, .inr (.inr (.inr (.inr (va_up (va_cpy f (fun _ => none) 0 0 cap) cap (some b)))))))) := by
  refine xc_of hg (by decide) (Nat.le_of_ble_eq_true rfl) (Or.inr (Or.inl ⟨rfl, rfl, fun v M' h => ⟨_, h.1, Or.inr rfl⟩⟩)) ?_
  refine xj_aload_n (i := 0) d28_25_0 rfl rfl ?_
  refine xj_dup d28_25_1 rfl ?_
  refine xj_get d28_25_2 f28_63_2 h_a (by omega) (show a < M.1 by omega) rfl ?_
  refine xj_iconst (v := 1) d28_25_5 (by decide) ?_
  refine xj_iadd (v := mo + 1) d28_25_6 rfl ?_
  refine xj_put (a := a) (fs' := [.ref e, .int (nI cap), .int (mo + 1)]) d28_25_7 f28_63_2 h_a (by omega) (show a < M.1 by omega) (Nat.le_of_ble_eq_true rfl) rfl rfl rfl ?_
  refine xj_abs_set (fun M1 hs1 ha1 ho1 => ?_)
  have hel9 : ∀ z, z < cap → ∀ y, f z = some y → xOb M1 y := fun z hz y hy => by
    obtain ⟨g0, g1, g2, bc, bf, bC, bT, bN, g3, g4⟩ := hel z hz y hy
    exact ⟨g1, by omega, bc, bf, bC, bT, bN, (ho1 y g0).trans g3, g4⟩
  refine xj_aload_n (i := 0) d28_25_10 rfl rfl ?_
  refine xj_aload_n (i := 1) d28_25_11 rfl rfl ?_
  refine xj_aload_n (i := 0) d28_25_12 rfl rfl ?_
  refine xj_get d28_25_13 f28_9_2 ha1 (by omega) (show a < M1.1 by omega) rfl ?_
  refine xj_aload_n (i := 0) d28_25_16 rfl rfl ?_
  refine xj_get d28_25_17 f28_48_2 ha1 (by omega) (show a < M1.1 by omega) rfl ?_
  refine xj_callV (rest := []) (As := [.ref b, .ref e, .int (nI cap)]) (b := a) (gAdd3 hg (M := M1) (n := n) (a := a) (e := e) (mo := mo + 1) (cap := cap) (f := f) (b := b) (bc_b := bc_b) (bf_b := bf_b) (bC_b := bC_b) (bT_b := bT_b) (bN_b := bN_b) (show M1.1 = n by omega) (by omega) (by omega) (by omega) ha1 (by omega) (by omega) ((ho1 e (by omega)).trans h_e) (by omega) (by omega) ((ho1 b (by omega)).trans h_b) (by omega) (by omega) hMi hel9 (by omega) (by omega) (by omega) hc_b hA_b) d28_25_20 wd28_24 ha1 (by omega) (show a < M1.1 by omega) rfl s28_24 w172 (Or.inl w170) rfl rfl (Nat.le_of_ble_eq_true rfl) (by omega) (by omega) (by omega) ?_
  rintro v M2 ⟨rfl, hs2, ho2, hf2_0, hf2_1⟩
  replace hs2 : M2.1 = n + 1 := hs2
  replace hf2_0 : M2.2 a = (.inr (2, [.ref n, .int (nI (cap + 1)), .int (mo + 1)])) := hf2_0
  replace hf2_1 : M2.2 n = (.inl (4, cap + cap / 2, .inr (.inr (.inr (.inr (va_up (va_cpy f (fun _ => none) 0 0 cap) cap (some b))))))) := hf2_1
  refine xj_iconst (v := 1) d28_25_23 (by decide) ?_
  exact xj_ret d28_25_24 (by omega) (by omega) rfl ⟨rfl, (show M2.1 = n + 1 by omega), (fun j hj hj0 => ((ho2 j (by omega) (by omega)).trans (ho1 j (by omega)))), hf2_0, hf2_1⟩
theorem xl_grow (l : List Nat) (b : Nat) : va_up (va_cpy (fun i => l[i]?) (fun _ => none) 0 0 l.length) l.length (some b) = fun i => (l ++ [b])[i]? := by
  rw [← xl_app]
  congr 1
  funext i
  unfold va_cpy
  split
  · rw [Nat.zero_add, Nat.sub_zero]
  · rw [List.getElem?_eq_none (by omega)]
/-- a list takes one more, grown if it is full -/
theorem xLs_addG {G : xG} (hg : xGood G) (hZ : va_Z "java/util/ArrayList" "DEFAULTCAPACITY_EMPTY_ELEMENTDATA" "[Ljava/lang/Object;" (.ref (xa G 1)) (fun q => (xs G).heap.size ≤ q) (xs G) (xs G).heap) (hT : va_T (.object "java/lang/Object") (xa G 1) 0 (fun _ => .null) (fun q => (xs G).heap.size ≤ q) (xs G) (xs G).heap) (hMi : xHM G) {P : Nat → Prop} {M : xM} {a b : Nat} {l : List Nat} {bc bN : Nat} {bf : List Value} {bC : String} {bT : u_T} (h : xLs P M a l) (hx : xn ≤ a) (ha : a < M.1) (hP : ∀ x, M.1 ≤ x → P x) (hl : l.length ≤ 27) (hob : ∀ y ∈ l, y ≠ a ∧ xOb M y) (hb1 : xn ≤ b) (hb2 : b < M.1) (hb : M.2 b = .inr (bc, bf)) (hab : a ≠ b) (hc : vwCl[bc]? = some (bC, bT, bN)) (hA : xAsg bC "java/lang/Object") :
    XC G Y28_25 (some .boolean) 6 1 40 [.ref a, .ref b] M (fun v M' => v = some (.int 1) ∧ M.1 ≤ M'.1 ∧ (∀ j, j < M.1 → j ≠ a → (P j → ∃ o, M.2 j = .inr o) → M'.2 j = M.2 j) ∧ xLs P M' a (l ++ [b])) := by
  obtain ⟨e, mo, cap, h1, h2, h3, h4, h5⟩ := h
  have hx2 : xn ≤ M.1 := Nat.le_trans hx (Nat.le_of_lt ha)
  rcases h5 with ⟨rfl, rfl⟩ | ⟨q0, q1, q2, q3⟩
  · refine xc_wk (cAddZ0 hg hZ hT rfl hx2 hx ha h1 hb1 hb2 hb hab hc hA) (by decide) (by decide) (by decide) ?_
    rintro v M' ⟨rfl, e1, e2, e3, e4⟩
    refine ⟨rfl, by omega, fun j hj hja _ => e2 j hj hja, M.1, mo + 1, 10, e3, by simp, Nat.le_refl _, by decide, Or.inr ⟨hP _ (Nat.le_refl _), hx2, by omega, ?_⟩⟩
    rw [e4, xl_one]
    rfl
  · by_cases hfull : l.length < cap
    · refine xc_wk (cAddZ hg rfl hx2 hx ha h1 q1 q2 q3 hb1 hb2 hb hfull h4 (xne_io h1 q3) (xne_io hb q3) hab hc hA) (by decide) (by decide) (by decide) ?_
      rintro v M' ⟨rfl, e1, e2, e3, e4⟩
      refine ⟨rfl, by omega, fun j hj hja hjP => e2 j hj hja ?_, e, mo + 1, cap, ?_, ?_, h3, h4, Or.inr ⟨q0, q1, by omega, ?_⟩⟩
      · rintro rfl
        obtain ⟨o, ho⟩ := hjP q0
        rw [q3] at ho
        cases ho
      · rw [e3, List.length_append]
        rfl
      · rw [List.length_append]
        show l.length + 1 ≤ cap
        omega
      · rw [e4, xl_app]
    · have hcap : l.length = cap := by omega
      subst hcap
      refine xc_wk (gAddZ hg rfl hx2 hx ha h1 q1 q2 q3 hb1 hb2 hb h3 (by omega) hMi (fun z hz y hy => hob y (List.mem_of_getElem? hy)) hab (xne_io h1 q3) (xne_io hb q3) hc hA) (by decide) (by decide) (by decide) ?_
      rintro v M' ⟨rfl, e1, e2, e3, e4⟩
      refine ⟨rfl, by omega, fun j hj hja hjP => e2 j hj hja, M.1, mo + 1, l.length + l.length / 2, ?_, ?_, by omega, by omega, Or.inr ⟨hP _ (Nat.le_refl _), hx2, by omega, ?_⟩⟩
      · rw [e3, List.length_append]
        rfl
      · rw [List.length_append]
        show l.length + 1 ≤ _
        omega
      · rw [e4, xl_grow]

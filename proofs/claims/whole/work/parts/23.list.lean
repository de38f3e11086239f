set_option maxRecDepth 20000 in
theorem cPre {G : xG} (hg : xGood G) {M : xM} {n : Nat} (hn : M.1 = n) (hx : xn ≤ n) {k : Nat} {sz : Nat} (hk : k < sz) (hsz : sz < 100000) : XC G Y36_11 (some .int) 0 0 0 [.int (nI k), .int (nI sz), .null] M (fun v M' => v = some (.int (nI k)) ∧ M' = M) := by
  refine xc_of hg (by decide) (Nat.le_of_ble_eq_true rfl) (Or.inl ⟨rfl, rfl, fun v M' h => ⟨_, h.1⟩⟩) ?_
  refine xj_iload_n (i := 0) d36_11_0 rfl rfl ?_
  refine xj_if_lt (tgt := 9) d36_11_1 rfl (fun h => absurd h (nI_nlt (a := k) (b := 0) (by omega) (by omega))) (fun _ => ?_)
  refine xj_iload_n (i := 0) d36_11_4 rfl rfl ?_
  refine xj_iload_n (i := 1) d36_11_5 rfl rfl ?_
  refine xj_icmp_lt (tgt := 16) d36_11_6 rfl (fun _ => ?_) (fun h => absurd (nI_lt (a := k) (b := sz) (by omega) (by omega)) h)
  refine xj_iload_n (i := 0) d36_11_16 rfl rfl ?_
  exact xj_ret d36_11_17 (by omega) (by omega) rfl ⟨rfl, rfl⟩
set_option maxRecDepth 20000 in
theorem cChk {G : xG} (hg : xGood G) {M : xM} {n : Nat} (hn : M.1 = n) (hx : xn ≤ n) {k : Nat} {sz : Nat} (hk : k < sz) (hsz : sz < 100000) : XC G Y32_17 (some .int) 1 0 0 [.int (nI k), .int (nI sz)] M (fun v M' => v = some (.int (nI k)) ∧ M' = M) := by
  refine xc_of hg (by decide) (Nat.le_of_ble_eq_true rfl) (Or.inl ⟨rfl, rfl, fun v M' h => ⟨_, h.1⟩⟩) ?_
  refine xj_iload_n (i := 0) d32_17_0 rfl rfl ?_
  refine xj_iload_n (i := 1) d32_17_1 rfl rfl ?_
  refine xj_null d32_17_2 ?_
  refine xj_callS (rest := []) (As := [.int (nI k), .int (nI sz), .null]) (cPre hg (M := M) (n := n) (k := k) (sz := sz) (show M.1 = n by omega) (by omega) (by omega) (by omega)) d32_17_3 wd36_11 w254 (Or.inl w253) rfl rfl (Nat.le_of_ble_eq_true rfl) (by omega) (by omega) (by omega) ?_
  rintro v M' ⟨rfl, hm⟩
  subst M'
  exact xj_ret d32_17_6 (by omega) (by omega) rfl ⟨rfl, rfl⟩
set_option maxRecDepth 20000 in
theorem cElem {G : xG} (hg : xGood G) {M : xM} {n : Nat} (hn : M.1 = n) (hx : xn ≤ n) {a : Nat} {e : Nat} {mo : Int32} {cap : Nat} {f : Nat → Option Nat} {sz : Nat} {k : Nat} {b : Nat} (h1_a : xn ≤ a) (h2_a : a < n) (h_a : M.2 a = (.inr (2, [.ref e, .int (nI sz), .int mo]))) (h1_e : xn ≤ e) (h2_e : e < n) (h_e : M.2 e = (.inl (4, cap, .inr (.inr (.inr (.inr f)))))) (hk : k < cap) (hcap : cap < 100000) (hv : f k = some b) : XC G Y28_18 (some (.object "java/lang/Object")) 0 0 0 [.ref a, .int (nI k)] M (fun v M' => v = some (.ref b) ∧ M' = M) := by
  refine xc_of hg (by decide) (Nat.le_of_ble_eq_true rfl) (Or.inr (Or.inr (Or.inr (Or.inr (Or.inr ⟨⟨_, rfl, Or.inl ⟨_, rfl⟩⟩, rfl, fun v M' h => Or.inr ⟨_, h.1⟩⟩))))) ?_
  refine xj_aload_n (i := 0) d28_18_0 rfl rfl ?_
  refine xj_get d28_18_1 f28_9_2 h_a (by omega) (show a < M.1 by omega) rfl ?_
  refine xj_iload_n (i := 1) d28_18_4 rfl rfl ?_
  refine xj_aaload (j := k) (v := .ref b) d28_18_5 h_e (by decide) rfl (by omega) (show e < M.1 by omega) (vp_in_nI (by omega) (by omega)) (nI_clamp (by omega)) (by rw [hv]; rfl) ?_
  exact xj_ret d28_18_6 (by omega) (by omega) rfl ⟨rfl, rfl⟩
set_option maxRecDepth 20000 in
theorem cGet {G : xG} (hg : xGood G) {M : xM} {n : Nat} (hn : M.1 = n) (hx : xn ≤ n) {a : Nat} {e : Nat} {mo : Int32} {cap : Nat} {f : Nat → Option Nat} {sz : Nat} {k : Nat} {b : Nat} (h1_a : xn ≤ a) (h2_a : a < n) (h_a : M.2 a = (.inr (2, [.ref e, .int (nI sz), .int mo]))) (h1_e : xn ≤ e) (h2_e : e < n) (h_e : M.2 e = (.inl (4, cap, .inr (.inr (.inr (.inr f)))))) (hk : k < sz) (hsz : sz ≤ cap) (hcap : cap < 100000) (hv : f k = some b) : XC G Y28_20 (some (.object "java/lang/Object")) 2 0 0 [.ref a, .int (nI k)] M (fun v M' => v = some (.ref b) ∧ M' = M) := by
  refine xc_of hg (by decide) (Nat.le_of_ble_eq_true rfl) (Or.inr (Or.inr (Or.inr (Or.inr (Or.inr ⟨⟨_, rfl, Or.inl ⟨_, rfl⟩⟩, rfl, fun v M' h => Or.inr ⟨_, h.1⟩⟩))))) ?_
  refine xj_iload_n (i := 1) d28_20_0 rfl rfl ?_
  refine xj_aload_n (i := 0) d28_20_1 rfl rfl ?_
  refine xj_get d28_20_2 f28_48_2 h_a (by omega) (show a < M.1 by omega) rfl ?_
  refine xj_callS (rest := []) (As := [.int (nI k), .int (nI sz)]) (cChk hg (M := M) (n := n) (k := k) (sz := sz) (show M.1 = n by omega) (by omega) (by omega) (by omega)) d28_20_5 wd32_17 w251 (Or.inl w250) rfl rfl (Nat.le_of_ble_eq_true rfl) (by omega) (by omega) (by omega) ?_
  rintro v M' ⟨rfl, hm⟩
  subst M'
  refine xj_pop d28_20_8 rfl ?_
  refine xj_aload_n (i := 0) d28_20_9 rfl rfl ?_
  refine xj_iload_n (i := 1) d28_20_10 rfl rfl ?_
  refine xj_callV (rest := []) (As := [.int (nI k)]) (b := a) (cElem hg (M := M) (n := n) (a := a) (e := e) (mo := mo) (cap := cap) (f := f) (sz := sz) (k := k) (show M.1 = n by omega) (by omega) (by omega) (by omega) h_a (by omega) (by omega) h_e (by omega) (by omega) hv) d28_20_11 wd28_18 h_a (by omega) (show a < M.1 by omega) rfl w258 w257 (Or.inl w256) rfl rfl (Nat.le_of_ble_eq_true rfl) (by omega) (by omega) (by omega) ?_
  rintro v M' ⟨rfl, hm⟩
  subst M'
  exact xj_ret d28_20_14 (by omega) (by omega) rfl ⟨rfl, rfl⟩
set_option maxRecDepth 20000 in
theorem cFast {G : xG} (hg : xGood G) {M : xM} {n : Nat} (hn : M.1 = n) (hx : xn ≤ n) {a : Nat} {e : Nat} {mo : Int32} {cap : Nat} {f : Nat → Option Nat} {sz : Nat} (h1_a : xn ≤ a) (h2_a : a < n) (h_a : M.2 a = (.inr (2, [.ref e, .int (nI (sz + 1)), .int mo]))) (h1_e : xn ≤ e) (h2_e : e < n) (h_e : M.2 e = (.inl (4, cap, .inr (.inr (.inr (.inr f)))))) (hsz : sz + 1 ≤ cap) (hcap : cap < 100000) (hne : a ≠ e) : XC G Y28_39 none 0 0 0 [.ref a, .ref e, .int (nI sz)] M (fun v M' => v = none ∧ M'.1 = n ∧ (∀ j, j < n → j ≠ a → j ≠ e → M'.2 j = M.2 j) ∧ M'.2 a = (.inr (2, [.ref e, .int (nI sz), .int (mo + 1)])) ∧ M'.2 e = (.inl (4, cap, .inr (.inr (.inr (.inr (va_up f sz none))))))) := by
  refine xc_of hg (by decide) (Nat.le_of_ble_eq_true rfl) (Or.inr (Or.inr (Or.inr (Or.inr (Or.inl ⟨rfl, rfl, fun v M' h => h.1⟩))))) ?_
  refine xj_aload_n (i := 0) d28_39_0 rfl rfl ?_
  refine xj_dup d28_39_1 rfl ?_
  refine xj_get d28_39_2 f28_63_2 h_a (by omega) (show a < M.1 by omega) rfl ?_
  refine xj_iconst (v := 1) d28_39_5 (by decide) ?_
  refine xj_iadd (v := mo + 1) d28_39_6 rfl ?_
  refine xj_put (a := a) (fs' := [.ref e, .int (nI (sz + 1)), .int (mo + 1)]) d28_39_7 f28_63_2 h_a (by omega) (show a < M.1 by omega) (Nat.le_of_ble_eq_true rfl) rfl rfl rfl ?_
  refine xj_abs_set (fun M1 hs1 ha1 ho1 => ?_)
  refine xj_aload_n (i := 0) d28_39_10 rfl rfl ?_
  refine xj_get d28_39_11 f28_48_2 ha1 (by omega) (show a < M1.1 by omega) rfl ?_
  refine xj_iconst (v := 1) d28_39_14 (by decide) ?_
  refine xj_isub (v := nI sz) d28_39_15 (nI_pred sz) ?_
  refine xj_dup d28_39_16 rfl ?_
  refine xj_istore_n (i := 3) (L' := [(3, .int (nI sz)), (0, .ref a), (1, .ref e), (2, .int (nI sz))]) d28_39_17 rfl (by decide) rfl ?_
  refine xj_iload_n (i := 2) d28_39_18 rfl rfl ?_
  refine xj_icmp_le (tgt := 34) d28_39_19 rfl (fun _ => ?_) (fun h => absurd (nI_le (a := sz) (b := sz) (by omega) (by omega)) h)
  refine xj_aload_n (i := 1) d28_39_34 rfl rfl ?_
  refine xj_aload_n (i := 0) d28_39_35 rfl rfl ?_
  refine xj_iload_n (i := 3) d28_39_36 rfl rfl ?_
  refine xj_dup_x1 d28_39_37 rfl rfl ?_
  refine xj_put (a := a) (fs' := [.ref e, .int (nI sz), .int (mo + 1)]) d28_39_38 f28_48_2 ha1 (by omega) (show a < M1.1 by omega) (Nat.le_of_ble_eq_true rfl) rfl rfl rfl ?_
  refine xj_abs_set (fun M2 hs2 ha2 ho2 => ?_)
  refine xj_null d28_39_41 ?_
  refine xj_aastoreN (j := sz) d28_39_42 ((ho2 e (by omega)).trans ((ho1 e (by omega)).trans h_e)) (by decide) rfl (by omega) (show e < M2.1 by omega) (vp_in_nI (by omega) (by omega)) (nI_clamp (by omega)) ?_
  refine xj_abs_set (fun M3 hs3 ha3 ho3 => ?_)
  exact xj_ret d28_39_43 (by omega) (by omega) rfl ⟨rfl, (show M3.1 = n by omega), (fun j hj hj0 hj1 => ((ho3 j (by omega)).trans ((ho2 j (by omega)).trans (ho1 j (by omega))))), ((ho3 a (by omega)).trans ha2), ha3⟩
set_option maxRecDepth 20000 in
theorem cRemove {G : xG} (hg : xGood G) {M : xM} {n : Nat} (hn : M.1 = n) (hx : xn ≤ n) {a : Nat} {e : Nat} {mo : Int32} {cap : Nat} {f : Nat → Option Nat} {sz : Nat} {b : Nat} (h1_a : xn ≤ a) (h2_a : a < n) (h_a : M.2 a = (.inr (2, [.ref e, .int (nI (sz + 1)), .int mo]))) (h1_e : xn ≤ e) (h2_e : e < n) (h_e : M.2 e = (.inl (4, cap, .inr (.inr (.inr (.inr f)))))) (hsz : sz + 1 ≤ cap) (hcap : cap < 100000) (hne : a ≠ e) (hv : f sz = some b) : XC G Y28_29 (some (.object "java/lang/Object")) 2 0 0 [.ref a, .int (nI sz)] M (fun v M' => v = some (.ref b) ∧ M'.1 = n ∧ (∀ j, j < n → j ≠ a → j ≠ e → M'.2 j = M.2 j) ∧ M'.2 a = (.inr (2, [.ref e, .int (nI sz), .int (mo + 1)])) ∧ M'.2 e = (.inl (4, cap, .inr (.inr (.inr (.inr (va_up f sz none))))))) := by
  refine xc_of hg (by decide) (Nat.le_of_ble_eq_true rfl) (Or.inr (Or.inr (Or.inr (Or.inr (Or.inr ⟨⟨_, rfl, Or.inl ⟨_, rfl⟩⟩, rfl, fun v M' h => Or.inr ⟨_, h.1⟩⟩))))) ?_
  refine xj_iload_n (i := 1) d28_29_0 rfl rfl ?_
  refine xj_aload_n (i := 0) d28_29_1 rfl rfl ?_
  refine xj_get d28_29_2 f28_48_2 h_a (by omega) (show a < M.1 by omega) rfl ?_
  refine xj_callS (rest := []) (As := [.int (nI sz), .int (nI (sz + 1))]) (cChk hg (M := M) (n := n) (k := sz) (sz := sz + 1) (show M.1 = n by omega) (by omega) (by omega) (by omega)) d28_29_5 wd32_17 w251 (Or.inl w250) rfl rfl (Nat.le_of_ble_eq_true rfl) (by omega) (by omega) (by omega) ?_
  rintro v M' ⟨rfl, hm⟩
  subst M'
  refine xj_pop d28_29_8 rfl ?_
  refine xj_aload_n (i := 0) d28_29_9 rfl rfl ?_
  refine xj_get d28_29_10 f28_9_2 h_a (by omega) (show a < M.1 by omega) rfl ?_
  refine xj_astore_n (i := 2) (L' := [(2, .ref e), (0, .ref a), (1, .int (nI sz))]) d28_29_13 rfl (by decide) rfl ?_
  refine xj_aload_n (i := 2) d28_29_14 rfl rfl ?_
  refine xj_iload_n (i := 1) d28_29_15 rfl rfl ?_
  refine xj_aaload (j := sz) (v := .ref b) d28_29_16 h_e (by decide) rfl (by omega) (show e < M.1 by omega) (vp_in_nI (by omega) (by omega)) (nI_clamp (by omega)) (by rw [hv]; rfl) ?_
  refine xj_astore_n (i := 3) (L' := [(3, .ref b), (2, .ref e), (0, .ref a), (1, .int (nI sz))]) d28_29_17 rfl (by decide) rfl ?_
  refine xj_aload_n (i := 0) d28_29_18 rfl rfl ?_
  refine xj_aload_n (i := 2) d28_29_19 rfl rfl ?_
  refine xj_iload_n (i := 1) d28_29_20 rfl rfl ?_
  refine xj_callV (rest := []) (As := [.ref e, .int (nI sz)]) (b := a) (cFast hg (M := M) (n := n) (a := a) (e := e) (mo := mo) (cap := cap) (f := f) (sz := sz) (show M.1 = n by omega) (by omega) (by omega) (by omega) h_a (by omega) (by omega) h_e (by omega) (by omega) (by omega)) d28_29_21 wd28_39 h_a (by omega) (show a < M.1 by omega) rfl s28_39 w270 (Or.inl w268) rfl rfl (Nat.le_of_ble_eq_true rfl) (by omega) (by omega) (by omega) ?_
  rintro v M1 ⟨rfl, hs1, ho1, hf1_0, hf1_1⟩
  replace hs1 : M1.1 = n := hs1
  replace hf1_0 : M1.2 a = (.inr (2, [.ref e, .int (nI sz), .int (mo + 1)])) := hf1_0
  replace hf1_1 : M1.2 e = (.inl (4, cap, .inr (.inr (.inr (.inr (va_up f sz none)))))) := hf1_1
  refine xj_aload_n (i := 3) d28_29_24 rfl rfl ?_
  exact xj_ret d28_29_25 (by omega) (by omega) rfl ⟨rfl, (show M1.1 = n by omega), (fun j hj hj0 hj1 => (ho1 j (by omega) (by omega) (by omega))), hf1_0, hf1_1⟩
set_option maxRecDepth 20000 in
theorem cAddIn {G : xG} (hg : xGood G) {M : xM} {n : Nat} (hn : M.1 = n) (hx : xn ≤ n) {a : Nat} {e : Nat} {mo : Int32} {cap : Nat} {f : Nat → Option Nat} {sz : Nat} {b : Nat} {bc_b : Nat} {bf_b : List Value} {bC_b : String} {bT_b : u_T} {bN_b : Nat} (h1_a : xn ≤ a) (h2_a : a < n) (h_a : M.2 a = (.inr (2, [.ref e, .int (nI sz), .int mo]))) (h1_e : xn ≤ e) (h2_e : e < n) (h_e : M.2 e = (.inl (4, cap, .inr (.inr (.inr (.inr f)))))) (h1_b : xn ≤ b) (h2_b : b < n) (h_b : M.2 b = (.inr (bc_b, bf_b))) (hsz : sz < cap) (hcap : cap < 100000) (hne : a ≠ e) (hbe : b ≠ e) (hc_b : vwCl[bc_b]? = some (bC_b, bT_b, bN_b)) (hA_b : xAsg bC_b "java/lang/Object") : XC G Y28_24 none 1 0 0 [.ref a, .ref b, .ref e, .int (nI sz)] M (fun v M' => v = none ∧ M'.1 = n ∧ (∀ j, j < n → j ≠ e → j ≠ a → M'.2 j = M.2 j) ∧ M'.2 e = (.inl (4, cap, .inr (.inr (.inr (.inr (va_up f sz (some b))))))) ∧ M'.2 a = (.inr (2, [.ref e, .int (nI (sz + 1)), .int mo]))) := by
  refine xc_of hg (by decide) (Nat.le_of_ble_eq_true rfl) (Or.inr (Or.inr (Or.inr (Or.inr (Or.inl ⟨rfl, rfl, fun v M' h => h.1⟩))))) ?_
  refine xj_iload_n (i := 3) d28_24_0 rfl rfl ?_
  refine xj_aload_n (i := 2) d28_24_1 rfl rfl ?_
  refine xj_alen (v := nI cap) d28_24_2 h_e (by decide) (by omega) (show e < M.1 by omega) rfl ?_
  refine xj_icmp_ne (tgt := 11) d28_24_3 rfl (fun _ => ?_) (fun h => absurd h (fun h => absurd ((nI_eq (a := sz) (b := cap) (by omega) (by omega)).mp h) (by omega)))
  refine xj_aload_n (i := 2) d28_24_11 rfl rfl ?_
  refine xj_iload_n (i := 3) d28_24_12 rfl rfl ?_
  refine xj_aload_n (i := 1) d28_24_13 rfl rfl ?_
  refine xj_aastore (j := sz) d28_24_14 h_e (by decide) rfl (by omega) (show e < M.1 by omega) (vp_in_nI (by omega) (by omega)) (nI_clamp (by omega)) h_b (by omega) (show b < M.1 by omega) hc_b hA_b ?_
  refine xj_abs_set (fun M1 hs1 ha1 ho1 => ?_)
  refine xj_aload_n (i := 0) d28_24_15 rfl rfl ?_
  refine xj_iload_n (i := 3) d28_24_16 rfl rfl ?_
  refine xj_iconst (v := 1) d28_24_17 (by decide) ?_
  refine xj_iadd (v := nI (sz + 1)) d28_24_18 (nI_1 _) ?_
  refine xj_put (a := a) (fs' := [.ref e, .int (nI (sz + 1)), .int mo]) d28_24_19 f28_48_2 ((ho1 a (by omega)).trans h_a) (by omega) (show a < M1.1 by omega) (Nat.le_of_ble_eq_true rfl) rfl rfl rfl ?_
  refine xj_abs_set (fun M2 hs2 ha2 ho2 => ?_)
  exact xj_ret d28_24_22 (by omega) (by omega) rfl ⟨rfl, (show M2.1 = n by omega), (fun j hj hj0 hj1 => ((ho2 j (by omega)).trans (ho1 j (by omega)))), ((ho2 e (by omega)).trans ha1), ha2⟩
set_option maxRecDepth 20000 in
theorem cAddZ {G : xG} (hg : xGood G) {M : xM} {n : Nat} (hn : M.1 = n) (hx : xn ≤ n) {a : Nat} {e : Nat} {mo : Int32} {cap : Nat} {f : Nat → Option Nat} {sz : Nat} {b : Nat} {bc_b : Nat} {bf_b : List Value} {bC_b : String} {bT_b : u_T} {bN_b : Nat} (h1_a : xn ≤ a) (h2_a : a < n) (h_a : M.2 a = (.inr (2, [.ref e, .int (nI sz), .int mo]))) (h1_e : xn ≤ e) (h2_e : e < n) (h_e : M.2 e = (.inl (4, cap, .inr (.inr (.inr (.inr f)))))) (h1_b : xn ≤ b) (h2_b : b < n) (h_b : M.2 b = (.inr (bc_b, bf_b))) (hsz : sz < cap) (hcap : cap < 100000) (hne : a ≠ e) (hbe : b ≠ e) (hab : a ≠ b) (hc_b : vwCl[bc_b]? = some (bC_b, bT_b, bN_b)) (hA_b : xAsg bC_b "java/lang/Object") : XC G Y28_25 (some .boolean) 2 0 0 [.ref a, .ref b] M (fun v M' => v = some (.int 1) ∧ M'.1 = n ∧ (∀ j, j < n → j ≠ a → j ≠ e → M'.2 j = M.2 j) ∧ M'.2 a = (.inr (2, [.ref e, .int (nI (sz + 1)), .int (mo + 1)])) ∧ M'.2 e = (.inl (4, cap, .inr (.inr (.inr (.inr (va_up f sz (some b)))))))) := by
  refine xc_of hg (by decide) (Nat.le_of_ble_eq_true rfl) (Or.inr (Or.inl ⟨rfl, rfl, fun v M' h => ⟨_, h.1, Or.inr rfl⟩⟩)) ?_
  refine xj_aload_n (i := 0) d28_25_0 rfl rfl ?_
  refine xj_dup d28_25_1 rfl ?_
  refine xj_get d28_25_2 f28_63_2 h_a (by omega) (show a < M.1 by omega) rfl ?_
  refine xj_iconst (v := 1) d28_25_5 (by decide) ?_
  refine xj_iadd (v := mo + 1) d28_25_6 rfl ?_
  refine xj_put (a := a) (fs' := [.ref e, .int (nI sz), .int (mo + 1)]) d28_25_7 f28_63_2 h_a (by omega) (show a < M.1 by omega) (Nat.le_of_ble_eq_true rfl) rfl rfl rfl ?_
  refine xj_abs_set (fun M1 hs1 ha1 ho1 => ?_)
  refine xj_aload_n (i := 0) d28_25_10 rfl rfl ?_
  refine xj_aload_n (i := 1) d28_25_11 rfl rfl ?_
  refine xj_aload_n (i := 0) d28_25_12 rfl rfl ?_
  refine xj_get d28_25_13 f28_9_2 ha1 (by omega) (show a < M1.1 by omega) rfl ?_
  refine xj_aload_n (i := 0) d28_25_16 rfl rfl ?_
  refine xj_get d28_25_17 f28_48_2 ha1 (by omega) (show a < M1.1 by omega) rfl ?_
  refine xj_callV (rest := []) (As := [.ref b, .ref e, .int (nI sz)]) (b := a) (cAddIn hg (M := M1) (n := n) (a := a) (e := e) (mo := mo + 1) (cap := cap) (f := f) (sz := sz) (b := b) (bc_b := bc_b) (bf_b := bf_b) (bC_b := bC_b) (bT_b := bT_b) (bN_b := bN_b) (show M1.1 = n by omega) (by omega) (by omega) (by omega) ha1 (by omega) (by omega) ((ho1 e (by omega)).trans h_e) (by omega) (by omega) ((ho1 b (by omega)).trans h_b) (by omega) (by omega) (by omega) (by omega) hc_b hA_b) d28_25_20 wd28_24 ha1 (by omega) (show a < M1.1 by omega) rfl s28_24 w172 (Or.inl w170) rfl rfl (Nat.le_of_ble_eq_true rfl) (by omega) (by omega) (by omega) ?_
  rintro v M2 ⟨rfl, hs2, ho2, hf2_0, hf2_1⟩
  replace hs2 : M2.1 = n := hs2
  replace hf2_0 : M2.2 e = (.inl (4, cap, .inr (.inr (.inr (.inr (va_up f sz (some b))))))) := hf2_0
  replace hf2_1 : M2.2 a = (.inr (2, [.ref e, .int (nI (sz + 1)), .int (mo + 1)])) := hf2_1
  refine xj_iconst (v := 1) d28_25_23 (by decide) ?_
  exact xj_ret d28_25_24 (by omega) (by omega) rfl ⟨rfl, (show M2.1 = n by omega), (fun j hj hj0 hj1 => ((ho2 j (by omega) (by omega) (by omega)).trans (ho1 j (by omega)))), hf2_1, hf2_0⟩
set_option maxRecDepth 20000 in
theorem cSet {G : xG} (hg : xGood G) {M : xM} {n : Nat} (hn : M.1 = n) (hx : xn ≤ n) {a : Nat} {e : Nat} {mo : Int32} {cap : Nat} {f : Nat → Option Nat} {sz : Nat} {k : Nat} {b : Nat} {q : Nat} {bc_q : Nat} {bf_q : List Value} {bC_q : String} {bT_q : u_T} {bN_q : Nat} (h1_a : xn ≤ a) (h2_a : a < n) (h_a : M.2 a = (.inr (2, [.ref e, .int (nI sz), .int mo]))) (h1_e : xn ≤ e) (h2_e : e < n) (h_e : M.2 e = (.inl (4, cap, .inr (.inr (.inr (.inr f)))))) (h1_q : xn ≤ q) (h2_q : q < n) (h_q : M.2 q = (.inr (bc_q, bf_q))) (hk : k < sz) (hsz : sz ≤ cap) (hcap : cap < 100000) (hv : f k = some b) (hne : a ≠ e) (hqe : q ≠ e) (hc_q : vwCl[bc_q]? = some (bC_q, bT_q, bN_q)) (hA_q : xAsg bC_q "java/lang/Object") : XC G Y28_23 (some (.object "java/lang/Object")) 2 0 0 [.ref a, .int (nI k), .ref q] M (fun v M' => v = some (.ref b) ∧ M'.1 = n ∧ (∀ j, j < n → j ≠ e → M'.2 j = M.2 j) ∧ M'.2 e = (.inl (4, cap, .inr (.inr (.inr (.inr (va_up f k (some q)))))))) := by
  refine xc_of hg (by decide) (Nat.le_of_ble_eq_true rfl) (Or.inr (Or.inr (Or.inr (Or.inr (Or.inr ⟨⟨_, rfl, Or.inl ⟨_, rfl⟩⟩, rfl, fun v M' h => Or.inr ⟨_, h.1⟩⟩))))) ?_
  refine xj_iload_n (i := 1) d28_23_0 rfl rfl ?_
  refine xj_aload_n (i := 0) d28_23_1 rfl rfl ?_
  refine xj_get d28_23_2 f28_48_2 h_a (by omega) (show a < M.1 by omega) rfl ?_
  refine xj_callS (rest := []) (As := [.int (nI k), .int (nI sz)]) (cChk hg (M := M) (n := n) (k := k) (sz := sz) (show M.1 = n by omega) (by omega) (by omega) (by omega)) d28_23_5 wd32_17 w251 (Or.inl w250) rfl rfl (Nat.le_of_ble_eq_true rfl) (by omega) (by omega) (by omega) ?_
  rintro v M' ⟨rfl, hm⟩
  subst M'
  refine xj_pop d28_23_8 rfl ?_
  refine xj_aload_n (i := 0) d28_23_9 rfl rfl ?_
  refine xj_iload_n (i := 1) d28_23_10 rfl rfl ?_
  refine xj_callV (rest := []) (As := [.int (nI k)]) (b := a) (cElem hg (M := M) (n := n) (a := a) (e := e) (mo := mo) (cap := cap) (f := f) (sz := sz) (k := k) (show M.1 = n by omega) (by omega) (by omega) (by omega) h_a (by omega) (by omega) h_e (by omega) (by omega) hv) d28_23_11 wd28_18 h_a (by omega) (show a < M.1 by omega) rfl w258 w257 (Or.inl w256) rfl rfl (Nat.le_of_ble_eq_true rfl) (by omega) (by omega) (by omega) ?_
  rintro v M' ⟨rfl, hm⟩
  subst M'
  refine xj_astore_n (i := 3) (L' := [(3, .ref b), (0, .ref a), (1, .int (nI k)), (2, .ref q)]) d28_23_14 rfl (by decide) rfl ?_
  refine xj_aload_n (i := 0) d28_23_15 rfl rfl ?_
  refine xj_get d28_23_16 f28_9_2 h_a (by omega) (show a < M.1 by omega) rfl ?_
  refine xj_iload_n (i := 1) d28_23_19 rfl rfl ?_
  refine xj_aload_n (i := 2) d28_23_20 rfl rfl ?_
  refine xj_aastore (j := k) d28_23_21 h_e (by decide) rfl (by omega) (show e < M.1 by omega) (vp_in_nI (by omega) (by omega)) (nI_clamp (by omega)) h_q (by omega) (show q < M.1 by omega) hc_q hA_q ?_
  refine xj_abs_set (fun M1 hs1 ha1 ho1 => ?_)
  refine xj_aload_n (i := 3) d28_23_22 rfl rfl ?_
  exact xj_ret d28_23_23 (by omega) (by omega) rfl ⟨rfl, (show M1.1 = n by omega), (fun j hj hj0 => (ho1 j (by omega))), ha1⟩

theorem xSealO {G : xG} (hg : xGood G) (hxn : xn = 16) (hZ : va_Z "java/util/ArrayList" "DEFAULTCAPACITY_EMPTY_ELEMENTDATA" "[Ljava/lang/Object;" (.ref (xa G 1)) (fun q => (xs G).heap.size ≤ q) (xs G) (xs G).heap) (hT : va_T (.object "java/lang/Object") (xa G 1) 0 (fun _ => .null) (fun q => (xs G).heap.size ≤ q) (xs G) (xs G).heap) {M : xM} {n es : Nat} (hn : M.1 = n) (h52 : 52 ≤ n) {dl : Nat} {pl : Nat} {vc : Nat} {tk : Nat} {hc : Nat} {op : Nat} {pn : Int32} {lr : Value} (h_16 : M.2 16 = (.inr (0, [.ref 17, .int (nI dl), .ref 18, .int (nI pl), lr, .ref 19, .int (nI vc), .ref op, .ref 22, .int (nI tk), .ref 23, .int (nI hc), .int pn]))) {S : List Nat} {ol : Nat} (hS : xLs (fun x => x = es) M 22 S) (h_op : M.2 op = (.inr (1, [.int 0, .ref ol]))) (hop1 : 20 ≤ op) (hop2 : op < n) (hes : es ≠ 16) (hl : S.length < 10) : XC G Y1_24 none 5 3 15 [.ref 16] M (fun v M' => v = none ∧ ∃ n' e, n ≤ n' ∧ M'.1 = n' + 2 ∧ (e = es ∨ (n ≤ e ∧ e < n')) ∧ (∀ j, j < n → j ≠ 16 → j ≠ 22 → j ≠ es → M'.2 j = M.2 j) ∧ M'.2 16 = (.inr (0, [.ref 17, .int (nI dl), .ref 18, .int (nI pl), lr, .ref 19, .int (nI vc), .ref n', .ref 22, .int (nI tk), .ref 23, .int (nI hc), .int pn])) ∧ M'.2 n' = (.inr (1, [.int 0, .ref (n' + 1)])) ∧ M'.2 (n' + 1) = (.inr (2, [.ref 1, .int 0, .int 0])) ∧ xLs (fun x => x = e) M' 22 (S ++ [op])) := by
  obtain ⟨el, mo, h22, hlt⟩ := xLs_len hS
  refine xc_of hg (by decide) (Nat.le_of_ble_eq_true rfl) (Or.inr (Or.inr (Or.inr (Or.inr (Or.inl ⟨rfl, rfl, fun v M' h => h.1⟩))))) ?_
  refine xj_aload_n (i := 0) d1_24_0 rfl rfl ?_
  refine xj_get d1_24_1 f1_34_0 h_16 (by omega) (show 16 < M.1 by omega) rfl ?_
  refine xj_aload_n (i := 0) d1_24_4 rfl rfl ?_
  refine xj_get d1_24_5 f1_27_0 h_16 (by omega) (show 16 < M.1 by omega) rfl ?_
  refine xj_callV (rest := []) (As := [.ref op]) (b := 22) (xLs_add (P := fun x => x = es ∨ n ≤ x) hg hZ hT (xLs_imp hS (fun x (hx : x = es) => Or.inl hx)) (by omega) (by omega) (fun x hx => Or.inr (by omega)) hl (by omega) (by omega) h_op (xne_cl h22 h_op (by decide)) rfl (Or.inr w1392)) d1_24_8 wd28_25 h22 (by omega) (show 22 < M.1 by omega) rfl w168 w167 (Or.inl w236) rfl rfl (Nat.le_of_ble_eq_true rfl) (by omega) (by omega) (by omega) ?_
  rintro v M1 ⟨rfl, hs1, ho1, hL2⟩
  obtain ⟨e, he, mo2, cap, q1, q2, q3, q4, q5, q6, q7⟩ := xLs_a hL2 (by simp)
  have he2 : e = es ∨ n ≤ e := he
  have hn16 : 16 ≠ e := xne_io ((ho1 16 (by omega) (by omega) (fun _ => ⟨_, h_16⟩)).trans h_16) q7
  refine xj_pop d1_24_11 rfl ?_
  refine xj_aload_n (i := 0) d1_24_12 rfl rfl ?_
  refine xj_new (na := M1.1) d1_24_13 n1_22 rfl (by omega) (by omega) ?_
  refine xj_abs_push rfl (fun M2 hs2 ha2 ho2 => ?_)
  refine xj_dup d1_24_16 rfl ?_
  refine xj_iconst (v := 0) d1_24_17 (by decide) ?_
  refine xj_callI (rest := [.ref M1.1, .ref 16]) (As := [.int 0]) (b := M1.1) (c10_1 hg hZ hT (M := M2) (n := M1.1 + 1) (a := M1.1) (lv := 0) (show M2.1 = M1.1 + 1 by omega) (by omega) (by omega) (by omega) ha2) d1_24_18 wd10_1 rfl w42 (Or.inl w41) rfl rfl (Nat.le_of_ble_eq_true rfl) (by omega) (by omega) (by omega) ?_
  rintro v M3 ⟨rfl, hs3, ho3, hf3_0, hf3_1⟩
  replace hs3 : M3.1 = M1.1 + 2 := hs3
  replace hf3_0 : M3.2 M1.1 = (.inr (1, [.int 0, .ref (M1.1 + 1)])) := hf3_0
  replace hf3_1 : M3.2 (M1.1 + 1) = (.inr (2, [.ref 1, .int 0, .int 0])) := hf3_1
  refine xj_put (a := 16) (fs' := [.ref 17, .int (nI dl), .ref 18, .int (nI pl), lr, .ref 19, .int (nI vc), .ref M1.1, .ref 22, .int (nI tk), .ref 23, .int (nI hc), .int pn]) d1_24_21 f1_27_0 ((ho3 16 (by omega) (by omega)).trans ((ho2 16 (by omega)).trans ((ho1 16 (by omega) (by omega) (fun _ => ⟨_, h_16⟩)).trans h_16))) (by omega) (show 16 < M3.1 by omega) (Nat.le_of_ble_eq_true rfl) rfl rfl rfl ?_
  refine xj_abs_set (fun M4 hs4 ha4 ho4 => ?_)
  exact xj_ret d1_24_24 (by omega) (by omega) rfl ⟨rfl, M1.1, e, (by omega), (by omega), he2.imp_right (fun q => ⟨q, q6⟩), (fun j hj hj1 hj2 hj3 => ((ho4 j (by omega)).trans ((ho3 j (by omega) (by omega)).trans ((ho2 j (by omega)).trans (ho1 j (by omega) (by omega) (fun (q : j = es ∨ n ≤ j) => absurd q (by omega))))))), ha4, ((ho4 M1.1 (by omega)).trans hf3_0), ((ho4 (M1.1 + 1) (by omega)).trans hf3_1), xLa_s (xLa_fr ⟨mo2, cap, q1, q2, q3, q4, q5, q6, q7⟩ (by omega) ((ho4 22 (by omega)).trans ((ho3 22 (by omega) (by omega)).trans (ho2 22 (by omega)))) ((ho4 e (by omega)).trans ((ho3 e (by omega) (by omega)).trans (ho2 e (by omega))))) rfl⟩
theorem xShAdd {G : xG} (hg : xGood G) (hxn : xn = 16) (hZ : va_Z "java/util/ArrayList" "DEFAULTCAPACITY_EMPTY_ELEMENTDATA" "[Ljava/lang/Object;" (.ref (xa G 1)) (fun q => (xs G).heap.size ≤ q) (xs G) (xs G).heap) (hT : va_T (.object "java/lang/Object") (xa G 1) 0 (fun _ => .null) (fun q => (xs G).heap.size ≤ q) (xs G) (xs G).heap) {M : xM} {a l b oe tb : Nat} {lvl lb : Int32} {vs : List Nat} (ha1 : 16 ≤ a) (ha2 : a < M.1) (hl1 : 16 ≤ l) (hl2 : l < M.1) (hb1 : 16 ≤ b) (hb2 : b < M.1) (h_a : M.2 a = (.inr (1, [.int lvl, .ref l]))) (hL : xLs (fun x => x = oe) M l vs) (h_b : M.2 b = (.inr (3, [.ref tb, .int lb]))) (hlen : vs.length < 10) : XC G Y10_2 none 5 1 10 [.ref a, .ref b] M (fun v M' => v = none ∧ M.1 ≤ M'.1 ∧ ∃ e, (e = oe ∨ (M.1 ≤ e ∧ e < M'.1)) ∧ (∀ j, j < M.1 → j ≠ l → j ≠ oe → M'.2 j = M.2 j) ∧ xLs (fun x => x = e) M' l (vs ++ [b])) := by
  obtain ⟨el, mo, hl_, hlt⟩ := xLs_len hL
  refine xc_of hg (by decide) (Nat.le_of_ble_eq_true rfl) (Or.inr (Or.inr (Or.inr (Or.inr (Or.inl ⟨rfl, rfl, fun v M' h => h.1⟩))))) ?_
  refine xj_aload_n (i := 0) d10_2_0 rfl rfl ?_
  refine xj_get d10_2_1 f10_10_1 h_a (by omega) (show a < M.1 by omega) rfl ?_
  refine xj_aload_n (i := 1) d10_2_4 rfl rfl ?_
  refine xj_callV (rest := []) (As := [.ref b]) (b := l) (xLs_add (P := fun x => x = oe ∨ M.1 ≤ x) hg hZ hT (xLs_imp hL (fun x (hx : x = oe) => Or.inl hx)) (by omega) (by omega) (fun x hx => Or.inr hx) hlen (by omega) (by omega) h_b (xne_cl hl_ h_b (by decide)) rfl (Or.inr w1394)) d10_2_5 wd28_25 hl_ (by omega) (show l < M.1 by omega) rfl w168 w167 (Or.inl w166) rfl rfl (Nat.le_of_ble_eq_true rfl) (by omega) (by omega) (by omega) ?_
  rintro v M1 ⟨rfl, hs1, ho1, hL2⟩
  refine xj_pop d10_2_8 rfl ?_
  obtain ⟨e, he, hLa⟩ := xLs_a hL2 (by simp)
  have he2 : e = oe ∨ M.1 ≤ e := he
  have hle := hLa
  obtain ⟨-, -, -, -, -, -, -, q6, -⟩ := hle
  exact xj_ret d10_2_9 (by omega) (by omega) rfl ⟨rfl, hs1, e, he2.imp_right (fun q => ⟨q, q6⟩), (fun j hj hj1 hj2 => ho1 j hj hj1 (fun (q : j = oe ∨ M.1 ≤ j) => absurd q (by omega))), xLa_s hLa rfl⟩

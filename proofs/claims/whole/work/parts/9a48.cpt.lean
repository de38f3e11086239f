set_option maxRecDepth 20000 in
theorem cCs {G : xG} (hg : xGood G) {M : xM} {n : Nat} (hn : M.1 = n) (hx : xn ≤ n) {a : Nat} : XC G Y4_1 none 2 0 0 [.ref a] M (fun v M' => v = none ∧ M' = M) := by
  refine xc_of hg (by decide) (Nat.le_of_ble_eq_true rfl) (Or.inr (Or.inr (Or.inr (Or.inr (Or.inl ⟨rfl, rfl, fun v M' h => h.1⟩))))) ?_
  refine xj_aload_n (i := 0) d4_1_0 rfl rfl ?_
  refine xj_callI (rest := []) (As := []) (b := a) (cPart hg (M := M) (n := n) (a := a) (show M.1 = n by omega) (by omega) ) d4_1_1 wd7_1 rfl w316 (Or.inr ⟨_, w630⟩) rfl rfl (Nat.le_of_ble_eq_true rfl) (by omega) (by omega) (by omega) ?_
  rintro v M' ⟨rfl, hm⟩
  subst M'
  exact xj_ret d4_1_4 (by omega) (by omega) rfl ⟨rfl, rfl⟩
set_option maxRecDepth 20000 in
theorem cAn1 {G : xG} (hg : xGood G) {M : xM} {n : Nat} (hn : M.1 = n) (hx : xn ≤ n) {a : Nat} (h1_a : xn ≤ a) (h2_a : a < n) (h_a : M.2 a = (.inr (11, [.int 0, .long 0, .null]))) : XC G Y2_1 none 2 0 0 [.ref a, .int 1] M (fun v M' => v = none ∧ M'.1 = n ∧ (∀ j, j < n → j ≠ a → M'.2 j = M.2 j) ∧ M'.2 a = (.inr (11, [.int 1, .long 0, .null]))) := by
  refine xc_of hg (by decide) (Nat.le_of_ble_eq_true rfl) (Or.inr (Or.inr (Or.inr (Or.inr (Or.inl ⟨rfl, rfl, fun v M' h => h.1⟩))))) ?_
  refine xj_aload_n (i := 0) d2_1_0 rfl rfl ?_
  refine xj_callI (rest := []) (As := []) (b := a) (cPart hg (M := M) (n := n) (a := a) (show M.1 = n by omega) (by omega) ) d2_1_1 wd7_1 rfl w316 (Or.inr ⟨_, w652⟩) rfl rfl (Nat.le_of_ble_eq_true rfl) (by omega) (by omega) (by omega) ?_
  rintro v M' ⟨rfl, hm⟩
  subst M'
  refine xj_aload_n (i := 0) d2_1_4 rfl rfl ?_
  refine xj_iload_n (i := 1) d2_1_5 rfl rfl ?_
  refine xj_putF (a := a) (fs' := [.int 1, .long 0, .null]) d2_1_6 rfl g2_7_11 h_a (by omega) (show a < M.1 by omega) (Nat.le_of_ble_eq_true rfl) rfl rfl rfl ?_
  refine xj_abs_set (fun M1 hs1 ha1 ho1 => ?_)
  exact xj_ret d2_1_9 (by omega) (by omega) rfl ⟨rfl, (show M1.1 = n by omega), (fun j hj hj0 => (ho1 j (by omega))), ha1⟩
set_option maxRecDepth 20000 in
theorem cAn0 {G : xG} (hg : xGood G) {M : xM} {n : Nat} (hn : M.1 = n) (hx : xn ≤ n) {a : Nat} (h1_a : xn ≤ a) (h2_a : a < n) (h_a : M.2 a = (.inr (11, [.int 0, .long 0, .null]))) : XC G Y2_1 none 2 0 0 [.ref a, .int 0] M (fun v M' => v = none ∧ M'.1 = n ∧ (∀ j, j < n → j ≠ a → M'.2 j = M.2 j) ∧ M'.2 a = (.inr (11, [.int 0, .long 0, .null]))) := by
  refine xc_of hg (by decide) (Nat.le_of_ble_eq_true rfl) (Or.inr (Or.inr (Or.inr (Or.inr (Or.inl ⟨rfl, rfl, fun v M' h => h.1⟩))))) ?_
  refine xj_aload_n (i := 0) d2_1_0 rfl rfl ?_
  refine xj_callI (rest := []) (As := []) (b := a) (cPart hg (M := M) (n := n) (a := a) (show M.1 = n by omega) (by omega) ) d2_1_1 wd7_1 rfl w316 (Or.inr ⟨_, w652⟩) rfl rfl (Nat.le_of_ble_eq_true rfl) (by omega) (by omega) (by omega) ?_
  rintro v M' ⟨rfl, hm⟩
  subst M'
  refine xj_aload_n (i := 0) d2_1_4 rfl rfl ?_
  refine xj_iload_n (i := 1) d2_1_5 rfl rfl ?_
  refine xj_putF (a := a) (fs' := [.int 0, .long 0, .null]) d2_1_6 rfl g2_7_11 h_a (by omega) (show a < M.1 by omega) (Nat.le_of_ble_eq_true rfl) rfl rfl rfl ?_
  refine xj_abs_set (fun M1 hs1 ha1 ho1 => ?_)
  exact xj_ret d2_1_9 (by omega) (by omega) rfl ⟨rfl, (show M1.1 = n by omega), (fun j hj hj0 => (ho1 j (by omega))), ha1⟩
set_option maxRecDepth 20000 in
theorem cRepE {G : xG} (hg : xGood G) (hZ : va_Z "java/util/ArrayList" "DEFAULTCAPACITY_EMPTY_ELEMENTDATA" "[Ljava/lang/Object;" (.ref (xa G 1)) (fun q => (xs G).heap.size ≤ q) (xs G) (xs G).heap) (hT : va_T (.object "java/lang/Object") (xa G 1) 0 (fun _ => .null) (fun q => (xs G).heap.size ≤ q) (xs G) (xs G).heap) {M : xM} {n : Nat} (hn : M.1 = n) (hx : xn ≤ n) {a : Nat} {pt : Nat} {ls : Int32} (h1_a : xn ≤ a) (h2_a : a < n) (h_a : M.2 a = (.inr (9, [.null, .int 0, .int 0, .null, .null, .int 0, .int 0, .null]))) : XC G Y9_1 none 5 7 119 [.ref a, .ref pt, .int ls, .int (-1)] M (fun v M' => v = none ∧ M'.1 = n + 7 ∧ (∀ j, j < n → j ≠ a → M'.2 j = M.2 j) ∧ M'.2 a = (.inr (9, [.ref pt, .int ls, .int (-1), .ref n, .ref (n + 6), .int 0, .int 0, .null])) ∧ M'.2 n = (.inr (7, [.ref (n + 1), .ref (n + 2), .ref (n + 3), .int 1])) ∧ M'.2 (n + 1) = (.inr (2, [.ref 1, .int 0, .int 0])) ∧ M'.2 (n + 2) = (.inr (2, [.ref 1, .int 0, .int 0])) ∧ M'.2 (n + 3) = (.inr (8, [.ref (n + 4), .ref (n + 5), .int 1])) ∧ M'.2 (n + 4) = (.inl (1, 60, .inl (fun _ => 0))) ∧ M'.2 (n + 5) = (.inl (0, 5, .inl (fun _ => 0))) ∧ M'.2 (n + 6) = (.inl (3, 41, .inr (.inl (fun _ => 0))))) := by
  refine xc_of hg (by decide) (Nat.le_of_ble_eq_true rfl) (Or.inr (Or.inr (Or.inr (Or.inr (Or.inl ⟨rfl, rfl, fun v M' h => h.1⟩))))) ?_
  refine xj_aload_n (i := 0) d9_1_0 rfl rfl ?_
  refine xj_callI (rest := []) (As := []) (b := a) (cPart hg (M := M) (n := n) (a := a) (show M.1 = n by omega) (by omega) ) d9_1_1 wd7_1 rfl w316 (Or.inr ⟨_, w491⟩) rfl rfl (Nat.le_of_ble_eq_true rfl) (by omega) (by omega) (by omega) ?_
  rintro v M' ⟨rfl, hm⟩
  subst M'
  refine xj_aload_n (i := 0) d9_1_4 rfl rfl ?_
  refine xj_new (na := n) d9_1_5 n9_9 (show M.1 = n by omega) (by omega) (by omega) ?_
  refine xj_abs_push (show M.1 = n by omega) (fun M1 hs1 ha1 ho1 => ?_)
  refine xj_dup d9_1_8 rfl ?_
  refine xj_callI (rest := [.ref n, .ref a]) (As := []) (b := n) (cNeeds hg hZ hT (M := M1) (n := n + 1) (a := n) (show M1.1 = n + 1 by omega) (by omega) (by omega) (by omega) ha1) d9_1_9 wd6_1 rfl w336 (Or.inr ⟨_, w493⟩) rfl rfl (Nat.le_of_ble_eq_true rfl) (by omega) (by omega) (by omega) ?_
  rintro v M2 ⟨rfl, hs2, ho2, hf2_0, hf2_1, hf2_2, hf2_3, hf2_4, hf2_5⟩
  replace hs2 : M2.1 = n + 6 := hs2
  replace hf2_0 : M2.2 n = (.inr (7, [.ref (n + 1), .ref (n + 2), .ref (n + 3), .int 1])) := hf2_0
  replace hf2_1 : M2.2 (n + 1) = (.inr (2, [.ref 1, .int 0, .int 0])) := hf2_1
  replace hf2_2 : M2.2 (n + 2) = (.inr (2, [.ref 1, .int 0, .int 0])) := hf2_2
  replace hf2_3 : M2.2 (n + 3) = (.inr (8, [.ref (n + 4), .ref (n + 5), .int 1])) := hf2_3
  replace hf2_4 : M2.2 (n + 4) = (.inl (1, 60, .inl (fun _ => 0))) := hf2_4
  replace hf2_5 : M2.2 (n + 5) = (.inl (0, 5, .inl (fun _ => 0))) := hf2_5
  refine xj_putF (a := a) (fs' := [.null, .int 0, .int 0, .ref n, .null, .int 0, .int 0, .null]) d9_1_12 rfl g9_12_9 ((ho2 a (by omega) (by omega)).trans ((ho1 a (by omega)).trans h_a)) (by omega) (show a < M2.1 by omega) (Nat.le_of_ble_eq_true rfl) rfl rfl rfl ?_
  refine xj_abs_set (fun M3 hs3 ha3 ho3 => ?_)
  refine xj_aload_n (i := 0) d9_1_15 rfl rfl ?_
  refine xj_aload_n (i := 1) d9_1_16 rfl rfl ?_
  refine xj_putF (a := a) (fs' := [.ref pt, .int 0, .int 0, .ref n, .null, .int 0, .int 0, .null]) d9_1_17 rfl g9_18_9 ha3 (by omega) (show a < M3.1 by omega) (Nat.le_of_ble_eq_true rfl) rfl rfl rfl ?_
  refine xj_abs_set (fun M4 hs4 ha4 ho4 => ?_)
  refine xj_aload_n (i := 0) d9_1_20 rfl rfl ?_
  refine xj_iload_n (i := 2) d9_1_21 rfl rfl ?_
  refine xj_putF (a := a) (fs' := [.ref pt, .int ls, .int 0, .ref n, .null, .int 0, .int 0, .null]) d9_1_22 rfl g9_22_9 ha4 (by omega) (show a < M4.1 by omega) (Nat.le_of_ble_eq_true rfl) rfl rfl rfl ?_
  refine xj_abs_set (fun M5 hs5 ha5 ho5 => ?_)
  refine xj_aload_n (i := 0) d9_1_25 rfl rfl ?_
  refine xj_iload_n (i := 3) d9_1_26 rfl rfl ?_
  refine xj_putF (a := a) (fs' := [.ref pt, .int ls, .int (-1), .ref n, .null, .int 0, .int 0, .null]) d9_1_27 rfl g9_26_9 ha5 (by omega) (show a < M5.1 by omega) (Nat.le_of_ble_eq_true rfl) rfl rfl rfl ?_
  refine xj_abs_set (fun M6 hs6 ha6 ho6 => ?_)
  refine xj_aload_n (i := 0) d9_1_30 rfl rfl ?_
  refine xj_iload_n (i := 3) d9_1_31 rfl rfl ?_
  refine xj_iconst (v := (-1)) d9_1_32 (by decide) ?_
  refine xj_icmp_ne (tgt := 43) d9_1_33 rfl (fun h => absurd (by decide) h) (fun _ => ?_)
  refine xj_bipush (v := 41) d9_1_36 (by decide) ?_
  refine xj_new_long (N := 41) (na := n + 6) d9_1_38 w517 (by decide) (by decide) (by decide) (show M6.1 = n + 6 by omega) (by omega) (by omega) ?_
  refine xj_abs_push (show M6.1 = n + 6 by omega) (fun M7 hs7 ha7 ho7 => ?_)
  refine xj_goto (tgt := 44) d9_1_40 rfl ?_
  refine xj_putF (a := a) (fs' := [.ref pt, .int ls, .int (-1), .ref n, .ref (n + 6), .int 0, .int 0, .null]) d9_1_44 rfl g9_29_9 ((ho7 a (by omega)).trans ha6) (by omega) (show a < M7.1 by omega) (Nat.le_of_ble_eq_true rfl) rfl rfl rfl ?_
  refine xj_abs_set (fun M8 hs8 ha8 ho8 => ?_)
  exact xj_ret d9_1_47 (by omega) (by omega) rfl ⟨rfl, (show M8.1 = n + 7 by omega), (fun j hj hj0 => ((ho8 j (by omega)).trans ((ho7 j (by omega)).trans ((ho6 j (by omega)).trans ((ho5 j (by omega)).trans ((ho4 j (by omega)).trans ((ho3 j (by omega)).trans ((ho2 j (by omega) (by omega)).trans (ho1 j (by omega)))))))))), ha8, ((ho8 n (by omega)).trans ((ho7 n (by omega)).trans ((ho6 n (by omega)).trans ((ho5 n (by omega)).trans ((ho4 n (by omega)).trans ((ho3 n (by omega)).trans hf2_0)))))), ((ho8 (n + 1) (by omega)).trans ((ho7 (n + 1) (by omega)).trans ((ho6 (n + 1) (by omega)).trans ((ho5 (n + 1) (by omega)).trans ((ho4 (n + 1) (by omega)).trans ((ho3 (n + 1) (by omega)).trans hf2_1)))))), ((ho8 (n + 2) (by omega)).trans ((ho7 (n + 2) (by omega)).trans ((ho6 (n + 2) (by omega)).trans ((ho5 (n + 2) (by omega)).trans ((ho4 (n + 2) (by omega)).trans ((ho3 (n + 2) (by omega)).trans hf2_2)))))), ((ho8 (n + 3) (by omega)).trans ((ho7 (n + 3) (by omega)).trans ((ho6 (n + 3) (by omega)).trans ((ho5 (n + 3) (by omega)).trans ((ho4 (n + 3) (by omega)).trans ((ho3 (n + 3) (by omega)).trans hf2_3)))))), ((ho8 (n + 4) (by omega)).trans ((ho7 (n + 4) (by omega)).trans ((ho6 (n + 4) (by omega)).trans ((ho5 (n + 4) (by omega)).trans ((ho4 (n + 4) (by omega)).trans ((ho3 (n + 4) (by omega)).trans hf2_4)))))), ((ho8 (n + 5) (by omega)).trans ((ho7 (n + 5) (by omega)).trans ((ho6 (n + 5) (by omega)).trans ((ho5 (n + 5) (by omega)).trans ((ho4 (n + 5) (by omega)).trans ((ho3 (n + 5) (by omega)).trans hf2_5)))))), ((ho8 (n + 6) (by omega)).trans ha7)⟩
set_option maxRecDepth 20000 in
theorem cRepN {G : xG} (hg : xGood G) (hZ : va_Z "java/util/ArrayList" "DEFAULTCAPACITY_EMPTY_ELEMENTDATA" "[Ljava/lang/Object;" (.ref (xa G 1)) (fun q => (xs G).heap.size ≤ q) (xs G) (xs G).heap) (hT : va_T (.object "java/lang/Object") (xa G 1) 0 (fun _ => .null) (fun q => (xs G).heap.size ≤ q) (xs G) (xs G).heap) {M : xM} {n : Nat} (hn : M.1 = n) (hx : xn ≤ n) {a : Nat} {pt : Nat} {ls : Int32} {m9 : Nat} (h1_a : xn ≤ a) (h2_a : a < n) (h_a : M.2 a = (.inr (9, [.null, .int 0, .int 0, .null, .null, .int 0, .int 0, .null]))) (hm9 : m9 ≤ 9) : XC G Y9_1 none 5 6 78 [.ref a, .ref pt, .int ls, .int (nI m9)] M (fun v M' => v = none ∧ M'.1 = n + 6 ∧ (∀ j, j < n → j ≠ a → M'.2 j = M.2 j) ∧ M'.2 a = (.inr (9, [.ref pt, .int ls, .int (nI m9), .ref n, .null, .int 0, .int 0, .null])) ∧ M'.2 n = (.inr (7, [.ref (n + 1), .ref (n + 2), .ref (n + 3), .int 1])) ∧ M'.2 (n + 1) = (.inr (2, [.ref 1, .int 0, .int 0])) ∧ M'.2 (n + 2) = (.inr (2, [.ref 1, .int 0, .int 0])) ∧ M'.2 (n + 3) = (.inr (8, [.ref (n + 4), .ref (n + 5), .int 1])) ∧ M'.2 (n + 4) = (.inl (1, 60, .inl (fun _ => 0))) ∧ M'.2 (n + 5) = (.inl (0, 5, .inl (fun _ => 0)))) := by
  refine xc_of hg (by decide) (Nat.le_of_ble_eq_true rfl) (Or.inr (Or.inr (Or.inr (Or.inr (Or.inl ⟨rfl, rfl, fun v M' h => h.1⟩))))) ?_
  refine xj_aload_n (i := 0) d9_1_0 rfl rfl ?_
  refine xj_callI (rest := []) (As := []) (b := a) (cPart hg (M := M) (n := n) (a := a) (show M.1 = n by omega) (by omega) ) d9_1_1 wd7_1 rfl w316 (Or.inr ⟨_, w491⟩) rfl rfl (Nat.le_of_ble_eq_true rfl) (by omega) (by omega) (by omega) ?_
  rintro v M' ⟨rfl, hm⟩
  subst M'
  refine xj_aload_n (i := 0) d9_1_4 rfl rfl ?_
  refine xj_new (na := n) d9_1_5 n9_9 (show M.1 = n by omega) (by omega) (by omega) ?_
  refine xj_abs_push (show M.1 = n by omega) (fun M1 hs1 ha1 ho1 => ?_)
  refine xj_dup d9_1_8 rfl ?_
  refine xj_callI (rest := [.ref n, .ref a]) (As := []) (b := n) (cNeeds hg hZ hT (M := M1) (n := n + 1) (a := n) (show M1.1 = n + 1 by omega) (by omega) (by omega) (by omega) ha1) d9_1_9 wd6_1 rfl w336 (Or.inr ⟨_, w493⟩) rfl rfl (Nat.le_of_ble_eq_true rfl) (by omega) (by omega) (by omega) ?_
  rintro v M2 ⟨rfl, hs2, ho2, hf2_0, hf2_1, hf2_2, hf2_3, hf2_4, hf2_5⟩
  replace hs2 : M2.1 = n + 6 := hs2
  replace hf2_0 : M2.2 n = (.inr (7, [.ref (n + 1), .ref (n + 2), .ref (n + 3), .int 1])) := hf2_0
  replace hf2_1 : M2.2 (n + 1) = (.inr (2, [.ref 1, .int 0, .int 0])) := hf2_1
  replace hf2_2 : M2.2 (n + 2) = (.inr (2, [.ref 1, .int 0, .int 0])) := hf2_2
  replace hf2_3 : M2.2 (n + 3) = (.inr (8, [.ref (n + 4), .ref (n + 5), .int 1])) := hf2_3
  replace hf2_4 : M2.2 (n + 4) = (.inl (1, 60, .inl (fun _ => 0))) := hf2_4
  replace hf2_5 : M2.2 (n + 5) = (.inl (0, 5, .inl (fun _ => 0))) := hf2_5
  refine xj_putF (a := a) (fs' := [.null, .int 0, .int 0, .ref n, .null, .int 0, .int 0, .null]) d9_1_12 rfl g9_12_9 ((ho2 a (by omega) (by omega)).trans ((ho1 a (by omega)).trans h_a)) (by omega) (show a < M2.1 by omega) (Nat.le_of_ble_eq_true rfl) rfl rfl rfl ?_
  refine xj_abs_set (fun M3 hs3 ha3 ho3 => ?_)
  refine xj_aload_n (i := 0) d9_1_15 rfl rfl ?_
  refine xj_aload_n (i := 1) d9_1_16 rfl rfl ?_
  refine xj_putF (a := a) (fs' := [.ref pt, .int 0, .int 0, .ref n, .null, .int 0, .int 0, .null]) d9_1_17 rfl g9_18_9 ha3 (by omega) (show a < M3.1 by omega) (Nat.le_of_ble_eq_true rfl) rfl rfl rfl ?_
  refine xj_abs_set (fun M4 hs4 ha4 ho4 => ?_)
  refine xj_aload_n (i := 0) d9_1_20 rfl rfl ?_
  refine xj_iload_n (i := 2) d9_1_21 rfl rfl ?_
  refine xj_putF (a := a) (fs' := [.ref pt, .int ls, .int 0, .ref n, .null, .int 0, .int 0, .null]) d9_1_22 rfl g9_22_9 ha4 (by omega) (show a < M4.1 by omega) (Nat.le_of_ble_eq_true rfl) rfl rfl rfl ?_
  refine xj_abs_set (fun M5 hs5 ha5 ho5 => ?_)
  refine xj_aload_n (i := 0) d9_1_25 rfl rfl ?_
  refine xj_iload_n (i := 3) d9_1_26 rfl rfl ?_
  refine xj_putF (a := a) (fs' := [.ref pt, .int ls, .int (nI m9), .ref n, .null, .int 0, .int 0, .null]) d9_1_27 rfl g9_26_9 ha5 (by omega) (show a < M5.1 by omega) (Nat.le_of_ble_eq_true rfl) rfl rfl rfl ?_
  refine xj_abs_set (fun M6 hs6 ha6 ho6 => ?_)
  refine xj_aload_n (i := 0) d9_1_30 rfl rfl ?_
  refine xj_iload_n (i := 3) d9_1_31 rfl rfl ?_
  refine xj_iconst (v := (-1)) d9_1_32 (by decide) ?_
  refine xj_icmp_ne (tgt := 43) d9_1_33 rfl (fun _ => ?_) (fun h => absurd h (fun q => absurd (show (-1 : Int32) < 0 by decide) (by rw [← q]; exact nI_pos (by omega))))
  refine xj_null d9_1_43 ?_
  refine xj_putF (a := a) (fs' := [.ref pt, .int ls, .int (nI m9), .ref n, .null, .int 0, .int 0, .null]) d9_1_44 rfl g9_29_9 ha6 (by omega) (show a < M6.1 by omega) (Nat.le_of_ble_eq_true rfl) rfl rfl rfl ?_
  refine xj_abs_set (fun M7 hs7 ha7 ho7 => ?_)
  exact xj_ret d9_1_47 (by omega) (by omega) rfl ⟨rfl, (show M7.1 = n + 6 by omega), (fun j hj hj0 => ((ho7 j (by omega)).trans ((ho6 j (by omega)).trans ((ho5 j (by omega)).trans ((ho4 j (by omega)).trans ((ho3 j (by omega)).trans ((ho2 j (by omega) (by omega)).trans (ho1 j (by omega))))))))), ha7, ((ho7 n (by omega)).trans ((ho6 n (by omega)).trans ((ho5 n (by omega)).trans ((ho4 n (by omega)).trans ((ho3 n (by omega)).trans hf2_0))))), ((ho7 (n + 1) (by omega)).trans ((ho6 (n + 1) (by omega)).trans ((ho5 (n + 1) (by omega)).trans ((ho4 (n + 1) (by omega)).trans ((ho3 (n + 1) (by omega)).trans hf2_1))))), ((ho7 (n + 2) (by omega)).trans ((ho6 (n + 2) (by omega)).trans ((ho5 (n + 2) (by omega)).trans ((ho4 (n + 2) (by omega)).trans ((ho3 (n + 2) (by omega)).trans hf2_2))))), ((ho7 (n + 3) (by omega)).trans ((ho6 (n + 3) (by omega)).trans ((ho5 (n + 3) (by omega)).trans ((ho4 (n + 3) (by omega)).trans ((ho3 (n + 3) (by omega)).trans hf2_3))))), ((ho7 (n + 4) (by omega)).trans ((ho6 (n + 4) (by omega)).trans ((ho5 (n + 4) (by omega)).trans ((ho4 (n + 4) (by omega)).trans ((ho3 (n + 4) (by omega)).trans hf2_4))))), ((ho7 (n + 5) (by omega)).trans ((ho6 (n + 5) (by omega)).trans ((ho5 (n + 5) (by omega)).trans ((ho4 (n + 5) (by omega)).trans ((ho3 (n + 5) (by omega)).trans hf2_5)))))⟩
set_option maxRecDepth 20000 in
theorem bBr {G : xG} (hg : xGood G) {M : xM} {n : Nat} (hn : M.1 = n) (hx : xn ≤ n) {rd : Nat} {gw : Nat} {ft : Int32} {pl : Nat} {a : Nat} {ga : Nat} {og : Nat} {fg : Nat → Option Nat} {g : Nat} {bl : Nat} {b : Nat} {gv : Value} (h1_rd : xn ≤ rd) (h2_rd : rd < n) (h_rd : M.2 rd = (.inr (4, [.ref gw, .int ft, .ref 18, .int (nI pl), .int (nI a), .ref ga, .int (nI og)]))) (h1_ga : xn ≤ ga) (h2_ga : ga < n) (h_ga : M.2 ga = (.inl (6, 7, .inr (.inr (.inr (.inr fg)))))) (h1_g : xn ≤ g) (h2_g : g < n) (h_g : M.2 g = (.inr (5, [.ref bl, .ref b, gv]))) (hog : og ≤ 6) (hfg : fg og = some g) : XC G Y8_5 (some (.object "TrigramLines$Branch")) 0 0 0 [.ref rd] M (fun v M' => v = some (.ref b) ∧ M' = M) := by
  refine xc_of hg (by decide) (Nat.le_of_ble_eq_true rfl) (Or.inr (Or.inr (Or.inr (Or.inr (Or.inr ⟨⟨_, rfl, Or.inl ⟨_, rfl⟩⟩, rfl, fun v M' h => Or.inr ⟨_, h.1⟩⟩))))) ?_
  refine xj_aload_n (i := 0) d8_5_0 rfl rfl ?_
  refine xj_get d8_5_1 f8_18_4 h_rd (by omega) (show rd < M.1 by omega) rfl ?_
  refine xj_aload_n (i := 0) d8_5_4 rfl rfl ?_
  refine xj_get d8_5_5 f8_47_4 h_rd (by omega) (show rd < M.1 by omega) rfl ?_
  refine xj_aaload (j := og) (v := .ref g) d8_5_8 h_ga (by decide) rfl (by omega) (show ga < M.1 by omega) (vp_in_nI (by omega) (by omega)) (nI_clamp (by omega)) (by rw [hfg]; rfl) ?_
  refine xj_get d8_5_9 f8_50_5 h_g (by omega) (show g < M.1 by omega) rfl ?_
  exact xj_ret d8_5_12 (by omega) (by omega) rfl ⟨rfl, rfl⟩
set_option maxRecDepth 20000 in
theorem lEmpN {G : xG} (hg : xGood G) {M : xM} {n : Nat} (hn : M.1 = n) (hx : xn ≤ n) {a : Nat} {el : Value} {k : Nat} {mo : Int32} (h1_a : xn ≤ a) (h2_a : a < n) (h_a : M.2 a = (.inr (2, [el, .int (nI (k + 1)), .int mo]))) (hk : k < 100) : XC G Y28_9 (some .boolean) 0 0 0 [.ref a] M (fun v M' => v = some (.int 0) ∧ M' = M) := by
  refine xc_of hg (by decide) (Nat.le_of_ble_eq_true rfl) (Or.inr (Or.inl ⟨rfl, rfl, fun v M' h => ⟨_, h.1, Or.inl rfl⟩⟩)) ?_
  refine xj_aload_n (i := 0) d28_9_0 rfl rfl ?_
  refine xj_get d28_9_1 f28_48_2 h_a (by omega) (show a < M.1 by omega) rfl ?_
  refine xj_if_ne (tgt := 11) d28_9_4 rfl (fun _ => ?_) (fun h => absurd h (fun h => absurd ((nI_eq (a := k + 1) (b := 0) (by omega) (by omega)).mp h) (by omega)))
  refine xj_iconst (v := 0) d28_9_11 (by decide) ?_
  exact xj_ret d28_9_12 (by omega) (by omega) rfl ⟨rfl, rfl⟩
set_option maxRecDepth 20000 in
theorem bBare1 {G : xG} (hg : xGood G) {M : xM} {n : Nat} (hn : M.1 = n) (hx : xn ≤ n) {b : Nat} {p : Nat} {nv : Value} {wv : Value} {el : Value} {mo : Int32} (h1_b : xn ≤ b) (h2_b : b < n) (h_b : M.2 b = (.inr (6, [.ref p, nv, wv]))) (h1_p : xn ≤ p) (h2_p : p < n) (h_p : M.2 p = (.inr (2, [el, .int 0, .int mo]))) : XC G Y3_2 (some .boolean) 1 0 0 [.ref b] M (fun v M' => v = some (.int 1) ∧ M' = M) := by
  refine xc_of hg (by decide) (Nat.le_of_ble_eq_true rfl) (Or.inr (Or.inl ⟨rfl, rfl, fun v M' h => ⟨_, h.1, Or.inr rfl⟩⟩)) ?_
  refine xj_aload_n (i := 0) d3_2_0 rfl rfl ?_
  refine xj_get d3_2_1 f3_10_6 h_b (by omega) (show b < M.1 by omega) rfl ?_
  refine xj_callV (rest := []) (As := []) (b := p) (cIsEmpty0 hg (M := M) (n := n) (a := p) (el := el) (mo := mo) (show M.1 = n by omega) (by omega) (by omega) (by omega) h_p) d3_2_4 wd28_9 h_p (by omega) (show p < M.1 by omega) rfl w458 w457 (Or.inl w456) rfl rfl (Nat.le_of_ble_eq_true rfl) (by omega) (by omega) (by omega) ?_
  rintro v M' ⟨rfl, hm⟩
  subst M'
  exact xj_ret d3_2_7 (by omega) (by omega) rfl ⟨rfl, rfl⟩
set_option maxRecDepth 20000 in
theorem bBare0 {G : xG} (hg : xGood G) {M : xM} {n : Nat} (hn : M.1 = n) (hx : xn ≤ n) {b : Nat} {p : Nat} {nv : Value} {wv : Value} {el : Value} {mo : Int32} {k : Nat} (h1_b : xn ≤ b) (h2_b : b < n) (h_b : M.2 b = (.inr (6, [.ref p, nv, wv]))) (h1_p : xn ≤ p) (h2_p : p < n) (h_p : M.2 p = (.inr (2, [el, .int (nI (k + 1)), .int mo]))) (hk : k < 100) : XC G Y3_2 (some .boolean) 1 0 0 [.ref b] M (fun v M' => v = some (.int 0) ∧ M' = M) := by
  refine xc_of hg (by decide) (Nat.le_of_ble_eq_true rfl) (Or.inr (Or.inl ⟨rfl, rfl, fun v M' h => ⟨_, h.1, Or.inl rfl⟩⟩)) ?_
  refine xj_aload_n (i := 0) d3_2_0 rfl rfl ?_
  refine xj_get d3_2_1 f3_10_6 h_b (by omega) (show b < M.1 by omega) rfl ?_
  refine xj_callV (rest := []) (As := []) (b := p) (lEmpN hg (M := M) (n := n) (a := p) (el := el) (k := k) (mo := mo) (show M.1 = n by omega) (by omega) (by omega) (by omega) h_p (by omega)) d3_2_4 wd28_9 h_p (by omega) (show p < M.1 by omega) rfl w458 w457 (Or.inl w456) rfl rfl (Nat.le_of_ble_eq_true rfl) (by omega) (by omega) (by omega) ?_
  rintro v M' ⟨rfl, hm⟩
  subst M'
  exact xj_ret d3_2_7 (by omega) (by omega) rfl ⟨rfl, rfl⟩
set_option maxRecDepth 20000 in
theorem bAdd {G : xG} (hg : xGood G) (hZ : va_Z "java/util/ArrayList" "DEFAULTCAPACITY_EMPTY_ELEMENTDATA" "[Ljava/lang/Object;" (.ref (xa G 1)) (fun q => (xs G).heap.size ≤ q) (xs G) (xs G).heap) (hT : va_T (.object "java/lang/Object") (xa G 1) 0 (fun _ => .null) (fun q => (xs G).heap.size ≤ q) (xs G) (xs G).heap) (hMi : xHM G) {P : Nat → Prop} {M : xM} {b p x : Nat} {nv wv : Value} {l : List Nat} {bc_x bN_x : Nat} {bf_x : List Value} {bC_x : String} {bT_x : u_T} (h1_b : xn ≤ b) (h2_b : b < M.1) (h_b : M.2 b = (.inr (6, [.ref p, nv, wv]))) (h1_p : xn ≤ p) (h2_p : p < M.1) (hL : xLs P M p l) (hP : ∀ y, M.1 ≤ y → P y) (hl : l.length ≤ 27) (hob : ∀ y ∈ l, y ≠ p ∧ xOb M y) (h1_x : xn ≤ x) (h2_x : x < M.1) (h_x : M.2 x = .inr (bc_x, bf_x)) (hc_x : vwCl[bc_x]? = some (bC_x, bT_x, bN_x)) (hA_x : xAsg bC_x "java/lang/Object") (hpx : p ≠ x) : XC G Y3_3 none 7 1 40 [.ref b, .ref x] M (fun v M' => v = none ∧ M.1 ≤ M'.1 ∧ (∀ j, j < M.1 → j ≠ p → (P j → ∃ o, M.2 j = .inr o) → M'.2 j = M.2 j) ∧ xLs P M' p (l ++ [x])) := by
  obtain ⟨el, mo, h_p, -⟩ := xLs_len hL
  refine xc_of hg (by decide) (Nat.le_of_ble_eq_true rfl) (Or.inr (Or.inr (Or.inr (Or.inr (Or.inl ⟨rfl, rfl, fun v M' h => h.1⟩))))) ?_
  refine xj_aload_n (i := 0) d3_3_0 rfl rfl ?_
  refine xj_get d3_3_1 f3_10_6 h_b (by omega) (show b < M.1 by omega) rfl ?_
  refine xj_aload_n (i := 1) d3_3_4 rfl rfl ?_
  refine xj_callV (rest := []) (As := [.ref x]) (b := p) (xLs_addG hg hZ hT hMi hL (by omega) (by omega) hP hl hob (by omega) (by omega) h_x hpx hc_x hA_x) d3_3_5 wd28_25 h_p (by omega) (show p < M.1 by omega) rfl w168 w167 (Or.inl w464) rfl rfl (Nat.le_of_ble_eq_true rfl) (by omega) (by omega) (by omega) ?_
  rintro v M1 ⟨rfl, hs1, ho1, hL1⟩
  refine xj_pop d3_3_8 rfl ?_
  exact xj_ret d3_3_9 (by omega) (by omega) rfl ⟨rfl, hs1, ho1, hL1⟩

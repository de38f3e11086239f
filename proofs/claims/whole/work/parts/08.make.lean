theorem xinc (k : Nat) : nI k + Int32.ofInt 1 = nI (k + 1) := by
  rw [lit1]
  exact nI_1 k
theorem xj_acmp_eq1 {G : xG} {Y : xY} {d ce se cells slots pc : Nat} {L : List (Nat × Value)} {st : List Value} {M : xM} {Post : Option Value → xM → Prop} {j : Nat} {off : Int} (hd : decode Y.2.1 pc = .ok (.if_acmp .eq off, 3)) {tgt : Nat} (ht : (pc : Int) + off = (tgt : Int)) (kf : XJ G Y d ce se cells slots tgt L st M Post) : XJ G Y d ce se cells slots pc L (.ref j :: .ref j :: st) M Post := by
  intro p e R s m args below meth c H locs Q ls hC hR hq hl k2
  exact lv_acmp_eq (rx := some (xa G j)) (ry := some (xa G j)) hC.2.1 hC.2.2.1 hd ht (fun h => kf p e R s m args below meth c H locs Q ls hC hR hq hl k2) (fun h => absurd rfl h)
set_option maxRecDepth 20000 in
theorem c26_1 {G : xG} (hg : xGood G) {M : xM} {n : Nat} (hn : M.1 = n) (hx : xn ≤ n) {a : Nat} : XC G Y26_1 none 1 0 0 [.ref a] M (fun v M' => v = none ∧ M' = M) := by
  refine xc_of hg (by decide) (Nat.le_of_ble_eq_true rfl) (Or.inr (Or.inr (Or.inr (Or.inr (Or.inl ⟨rfl, rfl, fun v M' h => h.1⟩))))) ?_
  refine xj_aload_n (i := 0) d26_1_0 rfl rfl ?_
  refine xj_obj d26_1_1 w56 w35 w36 (by omega) (Nat.le_of_ble_eq_true rfl) ?_
  exact xj_ret d26_1_4 (by omega) (by omega) rfl ⟨rfl, rfl⟩
set_option maxRecDepth 20000 in
theorem c27_1 {G : xG} (hg : xGood G) {M : xM} {n : Nat} (hn : M.1 = n) (hx : xn ≤ n) {a : Nat} (h1_a : xn ≤ a) (h2_a : a < n) (h_a : M.2 a = (.inr (2, [.null, .int 0, .int 0]))) : XC G Y27_1 none 2 0 0 [.ref a] M (fun v M' => v = none ∧ M'.1 = n ∧ (∀ j, j < n → j ≠ a → M'.2 j = M.2 j) ∧ M'.2 a = (.inr (2, [.null, .int 0, .int 0]))) := by
  refine xc_of hg (by decide) (Nat.le_of_ble_eq_true rfl) (Or.inr (Or.inr (Or.inr (Or.inr (Or.inl ⟨rfl, rfl, fun v M' h => h.1⟩))))) ?_
  refine xj_aload_n (i := 0) d27_1_0 rfl rfl ?_
  refine xj_callI (rest := []) (As := []) (b := a) (c26_1 hg (n := n) (a := a) (show M.1 = n by omega) (by omega) ) d27_1_1 wd26_1 rfl w54 (Or.inl w53) rfl rfl (Nat.le_of_ble_eq_true rfl) (by omega) (by omega) (by omega) ?_
  rintro v M' ⟨rfl, hm⟩
  subst M'
  refine xj_aload_n (i := 0) d27_1_4 rfl rfl ?_
  refine xj_iconst (v := 0) d27_1_5 (by decide) ?_
  refine xj_put (a := a) (fs' := [.null, .int 0, .int 0]) d27_1_6 f27_7_2 h_a (by omega) (show a < M.1 by omega) (Nat.le_of_ble_eq_true rfl) rfl rfl rfl ?_
  exact xj_ret d27_1_9 (by omega) (by omega) rfl ⟨rfl, (show M.1 = n by omega), (fun j hj hj0 => (xset_ne (by omega) rfl)), xset_self⟩
set_option maxRecDepth 20000 in
theorem c28_2 {G : xG} (hg : xGood G) (hZ : va_Z "java/util/ArrayList" "DEFAULTCAPACITY_EMPTY_ELEMENTDATA" "[Ljava/lang/Object;" (.ref (xa G 1)) (fun q => (xs G).heap.size ≤ q) (xs G) (xs G).heap) (hT : va_T (.object "java/lang/Object") (xa G 1) 0 (fun _ => .null) (fun q => (xs G).heap.size ≤ q) (xs G) (xs G).heap) {M : xM} {n : Nat} (hn : M.1 = n) (hx : xn ≤ n) {a : Nat} (h1_a : xn ≤ a) (h2_a : a < n) (h_a : M.2 a = (.inr (2, [.null, .int 0, .int 0]))) : XC G Y28_2 none 3 0 0 [.ref a] M (fun v M' => v = none ∧ M'.1 = n ∧ (∀ j, j < n → j ≠ a → M'.2 j = M.2 j) ∧ M'.2 a = (.inr (2, [.ref 1, .int 0, .int 0]))) := by
  refine xc_of hg (by decide) (Nat.le_of_ble_eq_true rfl) (Or.inr (Or.inr (Or.inr (Or.inr (Or.inl ⟨rfl, rfl, fun v M' h => h.1⟩))))) ?_
  refine xj_aload_n (i := 0) d28_2_0 rfl rfl ?_
  refine xj_callI (rest := []) (As := []) (b := a) (c27_1 hg (n := n) (a := a) (show M.1 = n by omega) (by omega) (by omega) (by omega) h_a) d28_2_1 wd27_1 rfl w51 (Or.inl w50) rfl rfl (Nat.le_of_ble_eq_true rfl) (by omega) (by omega) (by omega) ?_
  rintro v M1 ⟨rfl, hs1, ho1, hf1_0⟩
  replace hs1 : M1.1 = n := hs1
  replace hf1_0 : M1.2 a = (.inr (2, [.null, .int 0, .int 0])) := hf1_0
  refine xj_aload_n (i := 0) d28_2_4 rfl rfl ?_
  refine xj_gets (v := .ref 1) hZ d28_2_5 w57 ?_
  refine xj_put (a := a) (fs' := [.ref 1, .int 0, .int 0]) d28_2_8 f28_9_2 hf1_0 (by omega) (show a < M1.1 by omega) (Nat.le_of_ble_eq_true rfl) rfl rfl rfl ?_
  exact xj_ret d28_2_11 (by omega) (by omega) rfl ⟨rfl, (show M1.1 = n by omega), (fun j hj hj0 => (xset_ne (by omega) (ho1 j (by omega) (by omega)))), xset_self⟩
set_option maxRecDepth 20000 in
theorem c10_1 {G : xG} (hg : xGood G) (hZ : va_Z "java/util/ArrayList" "DEFAULTCAPACITY_EMPTY_ELEMENTDATA" "[Ljava/lang/Object;" (.ref (xa G 1)) (fun q => (xs G).heap.size ≤ q) (xs G) (xs G).heap) (hT : va_T (.object "java/lang/Object") (xa G 1) 0 (fun _ => .null) (fun q => (xs G).heap.size ≤ q) (xs G) (xs G).heap) {M : xM} {n : Nat} (hn : M.1 = n) (hx : xn ≤ n) {a : Nat} {lv : Int32} (h1_a : xn ≤ a) (h2_a : a < n) (h_a : M.2 a = (.inr (1, [.int 0, .null]))) : XC G Y10_1 none 4 1 3 [.ref a, .int lv] M (fun v M' => v = none ∧ M'.1 = n + 1 ∧ (∀ j, j < n → j ≠ a → M'.2 j = M.2 j) ∧ M'.2 a = (.inr (1, [.int lv, .ref n])) ∧ M'.2 n = (.inr (2, [.ref 1, .int 0, .int 0]))) := by
  refine xc_of hg (by decide) (Nat.le_of_ble_eq_true rfl) (Or.inr (Or.inr (Or.inr (Or.inr (Or.inl ⟨rfl, rfl, fun v M' h => h.1⟩))))) ?_
  refine xj_aload_n (i := 0) d10_1_0 rfl rfl ?_
  refine xj_obj d10_1_1 w44 w35 w36 (by omega) (Nat.le_of_ble_eq_true rfl) ?_
  refine xj_aload_n (i := 0) d10_1_4 rfl rfl ?_
  refine xj_new (na := n) d10_1_5 n10_7 (show M.1 = n by omega) (by omega) (by omega) ?_
  refine xj_dup d10_1_8 rfl ?_
  refine xj_callI (rest := [.ref n, .ref a]) (As := []) (b := n) (c28_2 hg hZ hT (n := n + 1) (a := n) (show M.1 + 1 = n + 1 by omega) (by omega) (by omega) (by omega) (xpush_self (show M.1 = n by omega))) d10_1_9 wd28_2 rfl w48 (Or.inl w47) rfl rfl (Nat.le_of_ble_eq_true rfl) (by omega) (by omega) (by omega) ?_
  rintro v M1 ⟨rfl, hs1, ho1, hf1_0⟩
  replace hs1 : M1.1 = n + 1 := hs1
  replace hf1_0 : M1.2 n = (.inr (2, [.ref 1, .int 0, .int 0])) := hf1_0
  refine xj_putF (a := a) (fs' := [.int 0, .ref n]) d10_1_12 rfl g10_10_1 ((ho1 a (by omega) (by omega)).trans (xpush_ne (n := n) (show M.1 = n by omega) (by omega) h_a)) (by omega) (show a < M1.1 by omega) (Nat.le_of_ble_eq_true rfl) rfl rfl rfl ?_
  refine xj_aload_n (i := 0) d10_1_15 rfl rfl ?_
  refine xj_iload_n (i := 1) d10_1_16 rfl rfl ?_
  refine xj_putF (a := a) (fs' := [.int lv, .ref n]) d10_1_17 rfl g10_16_1 xset_self (by omega) (show a < M1.1 by omega) (Nat.le_of_ble_eq_true rfl) rfl rfl rfl ?_
  exact xj_ret d10_1_20 (by omega) (by omega) rfl ⟨rfl, (show M1.1 = n + 1 by omega), (fun j hj hj0 => (xset_ne (by omega) (xset_ne (by omega) ((ho1 j (by omega) (by omega)).trans (xpush_ne (n := n) (show M.1 = n by omega) (by omega) rfl))))), xset_self, (xset_ne (by omega) (xset_ne (by omega) hf1_0))⟩
set_option maxRecDepth 20000 in
theorem cPart {G : xG} (hg : xGood G) {M : xM} {n : Nat} (hn : M.1 = n) (hx : xn ≤ n) {a : Nat} : XC G Y7_1 none 1 0 0 [.ref a] M (fun v M' => v = none ∧ M' = M) := by
  refine xc_of hg (by decide) (Nat.le_of_ble_eq_true rfl) (Or.inr (Or.inr (Or.inr (Or.inr (Or.inl ⟨rfl, rfl, fun v M' h => h.1⟩))))) ?_
  refine xj_aload_n (i := 0) d7_1_0 rfl rfl ?_
  refine xj_obj d7_1_1 w318 w35 w36 (by omega) (Nat.le_of_ble_eq_true rfl) ?_
  exact xj_ret d7_1_4 (by omega) (by omega) rfl ⟨rfl, rfl⟩
set_option maxRecDepth 20000 in
theorem cWords {G : xG} (hg : xGood G) {M : xM} {n : Nat} (hn : M.1 = n) (hx : xn ≤ n) {a : Nat} (h1_a : xn ≤ a) (h2_a : a < n) (h_a : M.2 a = (.inr (8, [.null, .null, .int 0]))) : XC G Y12_1 none 1 2 65 [.ref a] M (fun v M' => v = none ∧ M'.1 = n + 2 ∧ (∀ j, j < n → j ≠ a → M'.2 j = M.2 j) ∧ M'.2 a = (.inr (8, [.ref n, .ref (n + 1), .int 0])) ∧ M'.2 n = (.inl (1, 60, .inl (fun _ => 0))) ∧ M'.2 (n + 1) = (.inl (0, 5, .inl (fun _ => 0)))) := by
  refine xc_of hg (by decide) (Nat.le_of_ble_eq_true rfl) (Or.inr (Or.inr (Or.inr (Or.inr (Or.inl ⟨rfl, rfl, fun v M' h => h.1⟩))))) ?_
  refine xj_aload_n (i := 0) d12_1_0 rfl rfl ?_
  refine xj_obj d12_1_1 w349 w35 w36 (by omega) (Nat.le_of_ble_eq_true rfl) ?_
  refine xj_aload_n (i := 0) d12_1_4 rfl rfl ?_
  refine xj_bipush (v := 60) d12_1_5 (by decide) ?_
  refine xj_new_char (N := 60) (na := n) d12_1_7 w71 (by decide) (by decide) (by decide) (show M.1 = n by omega) (by omega) (by omega) ?_
  refine xj_putF (a := a) (fs' := [.ref n, .null, .int 0]) d12_1_9 rfl g12_9_8 (xpush_ne (n := n) (show M.1 = n by omega) (by omega) h_a) (by omega) (show a < M.1 + 1 by omega) (Nat.le_of_ble_eq_true rfl) rfl rfl rfl ?_
  refine xj_aload_n (i := 0) d12_1_12 rfl rfl ?_
  refine xj_iconst (v := 5) d12_1_13 (by decide) ?_
  refine xj_new_int (N := 5) (na := n + 1) d12_1_14 w122 (by decide) (by decide) (by decide) (show M.1 + 1 = n + 1 by omega) (by omega) (by omega) ?_
  refine xj_putF (a := a) (fs' := [.ref n, .ref (n + 1), .int 0]) d12_1_16 rfl g12_13_8 (xpush_ne (n := n + 1) (show M.1 + 1 = n + 1 by omega) (by omega) xset_self) (by omega) (show a < M.1 + 2 by omega) (Nat.le_of_ble_eq_true rfl) rfl rfl rfl ?_
  exact xj_ret d12_1_19 (by omega) (by omega) rfl ⟨rfl, (show M.1 + 2 = n + 2 by omega), (fun j hj hj0 => (xset_ne (by omega) (xpush_ne (n := n + 1) (show M.1 + 1 = n + 1 by omega) (by omega) (xset_ne (by omega) (xpush_ne (n := n) (show M.1 = n by omega) (by omega) rfl))))), xset_self, (xset_ne (by omega) (xpush_ne (n := n + 1) (show M.1 + 1 = n + 1 by omega) (by omega) (xset_ne (by omega) (xpush_self (show M.1 = n by omega))))), (xset_ne (by omega) (xpush_self (show M.1 + 1 = n + 1 by omega)))⟩
set_option maxRecDepth 20000 in
theorem cEmpty {G : xG} (hg : xGood G) {M : xM} {n : Nat} (hn : M.1 = n) (hx : xn ≤ n) : XC G Y12_2 (some (.object "TrigramLines$Words")) 2 3 68 [] M (fun v M' => v = some (.ref n) ∧ M'.1 = n + 3 ∧ (∀ j, j < n → M'.2 j = M.2 j) ∧ M'.2 n = (.inr (8, [.ref (n + 1), .ref (n + 2), .int 1])) ∧ M'.2 (n + 1) = (.inl (1, 60, .inl (fun _ => 0))) ∧ M'.2 (n + 2) = (.inl (0, 5, .inl (fun _ => 0)))) := by
  refine xc_of hg (by decide) (Nat.le_of_ble_eq_true rfl) (Or.inr (Or.inr (Or.inr (Or.inr (Or.inr ⟨⟨_, rfl, Or.inl ⟨_, rfl⟩⟩, rfl, fun v M' h => Or.inr ⟨_, h.1⟩⟩))))) ?_
  refine xj_new (na := n) d12_2_0 n12_7 (show M.1 = n by omega) (by omega) (by omega) ?_
  refine xj_dup d12_2_3 rfl ?_
  refine xj_callI (rest := [.ref n]) (As := []) (b := n) (cWords hg (n := n + 1) (a := n) (show M.1 + 1 = n + 1 by omega) (by omega) (by omega) (by omega) (xpush_self (show M.1 = n by omega))) d12_2_4 wd12_1 rfl w347 (Or.inl w346) rfl rfl (Nat.le_of_ble_eq_true rfl) (by omega) (by omega) (by omega) ?_
  rintro v M1 ⟨rfl, hs1, ho1, hf1_0, hf1_1, hf1_2⟩
  replace hs1 : M1.1 = n + 3 := hs1
  replace hf1_0 : M1.2 n = (.inr (8, [.ref (n + 1), .ref (n + 2), .int 0])) := hf1_0
  replace hf1_1 : M1.2 (n + 1) = (.inl (1, 60, .inl (fun _ => 0))) := hf1_1
  replace hf1_2 : M1.2 (n + 2) = (.inl (0, 5, .inl (fun _ => 0))) := hf1_2
  refine xj_astore_n (i := 0) (L' := [(0, .ref n)]) d12_2_7 rfl (by decide) rfl ?_
  refine xj_aload_n (i := 0) d12_2_8 rfl rfl ?_
  refine xj_iconst (v := 1) d12_2_9 (by decide) ?_
  refine xj_put (a := n) (fs' := [.ref (n + 1), .ref (n + 2), .int 1]) d12_2_10 f12_18_8 hf1_0 (by omega) (show n < M1.1 by omega) (Nat.le_of_ble_eq_true rfl) rfl rfl rfl ?_
  refine xj_aload_n (i := 0) d12_2_13 rfl rfl ?_
  exact xj_ret d12_2_14 (by omega) (by omega) rfl ⟨rfl, (show M1.1 = n + 3 by omega), (fun j hj  => (xset_ne (by omega) ((ho1 j (by omega) (by omega)).trans (xpush_ne (n := n) (show M.1 = n by omega) (by omega) rfl)))), xset_self, (xset_ne (by omega) hf1_1), (xset_ne (by omega) hf1_2)⟩
set_option maxRecDepth 20000 in
theorem cNeeds {G : xG} (hg : xGood G) (hZ : va_Z "java/util/ArrayList" "DEFAULTCAPACITY_EMPTY_ELEMENTDATA" "[Ljava/lang/Object;" (.ref (xa G 1)) (fun q => (xs G).heap.size ≤ q) (xs G) (xs G).heap) (hT : va_T (.object "java/lang/Object") (xa G 1) 0 (fun _ => .null) (fun q => (xs G).heap.size ≤ q) (xs G) (xs G).heap) {M : xM} {n : Nat} (hn : M.1 = n) (hx : xn ≤ n) {a : Nat} (h1_a : xn ≤ a) (h2_a : a < n) (h_a : M.2 a = (.inr (7, [.null, .null, .null, .int 0]))) : XC G Y6_1 none 4 5 74 [.ref a] M (fun v M' => v = none ∧ M'.1 = n + 5 ∧ (∀ j, j < n → j ≠ a → M'.2 j = M.2 j) ∧ M'.2 a = (.inr (7, [.ref n, .ref (n + 1), .ref (n + 2), .int 1])) ∧ M'.2 n = (.inr (2, [.ref 1, .int 0, .int 0])) ∧ M'.2 (n + 1) = (.inr (2, [.ref 1, .int 0, .int 0])) ∧ M'.2 (n + 2) = (.inr (8, [.ref (n + 3), .ref (n + 4), .int 1])) ∧ M'.2 (n + 3) = (.inl (1, 60, .inl (fun _ => 0))) ∧ M'.2 (n + 4) = (.inl (0, 5, .inl (fun _ => 0)))) := by
  refine xc_of hg (by decide) (Nat.le_of_ble_eq_true rfl) (Or.inr (Or.inr (Or.inr (Or.inr (Or.inl ⟨rfl, rfl, fun v M' h => h.1⟩))))) ?_
  refine xj_aload_n (i := 0) d6_1_0 rfl rfl ?_
  refine xj_obj d6_1_1 w338 w35 w36 (by omega) (Nat.le_of_ble_eq_true rfl) ?_
  refine xj_aload_n (i := 0) d6_1_4 rfl rfl ?_
  refine xj_new (na := n) d6_1_5 n6_7 (show M.1 = n by omega) (by omega) (by omega) ?_
  refine xj_dup d6_1_8 rfl ?_
  refine xj_callI (rest := [.ref n, .ref a]) (As := []) (b := n) (c28_2 hg hZ hT (n := n + 1) (a := n) (show M.1 + 1 = n + 1 by omega) (by omega) (by omega) (by omega) (xpush_self (show M.1 = n by omega))) d6_1_9 wd28_2 rfl w48 (Or.inl w340) rfl rfl (Nat.le_of_ble_eq_true rfl) (by omega) (by omega) (by omega) ?_
  rintro v M1 ⟨rfl, hs1, ho1, hf1_0⟩
  replace hs1 : M1.1 = n + 1 := hs1
  replace hf1_0 : M1.2 n = (.inr (2, [.ref 1, .int 0, .int 0])) := hf1_0
  refine xj_putF (a := a) (fs' := [.ref n, .null, .null, .int 0]) d6_1_12 rfl g6_10_7 ((ho1 a (by omega) (by omega)).trans (xpush_ne (n := n) (show M.1 = n by omega) (by omega) h_a)) (by omega) (show a < M1.1 by omega) (Nat.le_of_ble_eq_true rfl) rfl rfl rfl ?_
  refine xj_aload_n (i := 0) d6_1_15 rfl rfl ?_
  refine xj_new (na := n + 1) d6_1_16 n6_7 (show M1.1 = n + 1 by omega) (by omega) (by omega) ?_
  refine xj_dup d6_1_19 rfl ?_
  refine xj_callI (rest := [.ref (n + 1), .ref a]) (As := []) (b := n + 1) (c28_2 hg hZ hT (n := n + 2) (a := n + 1) (show M1.1 + 1 = n + 2 by omega) (by omega) (by omega) (by omega) (xpush_self (show M1.1 = n + 1 by omega))) d6_1_20 wd28_2 rfl w48 (Or.inl w340) rfl rfl (Nat.le_of_ble_eq_true rfl) (by omega) (by omega) (by omega) ?_
  rintro v M2 ⟨rfl, hs2, ho2, hf2_0⟩
  replace hs2 : M2.1 = n + 2 := hs2
  replace hf2_0 : M2.2 (n + 1) = (.inr (2, [.ref 1, .int 0, .int 0])) := hf2_0
  refine xj_putF (a := a) (fs' := [.ref n, .ref (n + 1), .null, .int 0]) d6_1_23 rfl g6_16_7 ((ho2 a (by omega) (by omega)).trans (xpush_ne (n := n + 1) (show M1.1 = n + 1 by omega) (by omega) xset_self)) (by omega) (show a < M2.1 by omega) (Nat.le_of_ble_eq_true rfl) rfl rfl rfl ?_
  refine xj_aload_n (i := 0) d6_1_26 rfl rfl ?_
  refine xj_callS (rest := [.ref a]) (As := []) (cEmpty hg (n := n + 2) (show M2.1 = n + 2 by omega) (by omega) ) d6_1_27 wd12_2 w342 (Or.inl w341) rfl rfl (Nat.le_of_ble_eq_true rfl) (by omega) (by omega) (by omega) ?_
  rintro v M3 ⟨rfl, hs3, ho3, hf3_0, hf3_1, hf3_2⟩
  replace hs3 : M3.1 = n + 5 := hs3
  replace hf3_0 : M3.2 (n + 2) = (.inr (8, [.ref (n + 3), .ref (n + 4), .int 1])) := hf3_0
  replace hf3_1 : M3.2 (n + 3) = (.inl (1, 60, .inl (fun _ => 0))) := hf3_1
  replace hf3_2 : M3.2 (n + 4) = (.inl (0, 5, .inl (fun _ => 0))) := hf3_2
  refine xj_put (a := a) (fs' := [.ref n, .ref (n + 1), .ref (n + 2), .int 0]) d6_1_30 f6_25_7 ((ho3 a (by omega)).trans xset_self) (by omega) (show a < M3.1 by omega) (Nat.le_of_ble_eq_true rfl) rfl rfl rfl ?_
  refine xj_aload_n (i := 0) d6_1_33 rfl rfl ?_
  refine xj_iconst (v := 1) d6_1_34 (by decide) ?_
  refine xj_put (a := a) (fs' := [.ref n, .ref (n + 1), .ref (n + 2), .int 1]) d6_1_35 f6_29_7 xset_self (by omega) (show a < M3.1 by omega) (Nat.le_of_ble_eq_true rfl) rfl rfl rfl ?_
  exact xj_ret d6_1_38 (by omega) (by omega) rfl ⟨rfl, (show M3.1 = n + 5 by omega), (fun j hj hj0 => (xset_ne (by omega) (xset_ne (by omega) ((ho3 j (by omega) ).trans (xset_ne (by omega) ((ho2 j (by omega) (by omega)).trans (xpush_ne (n := n + 1) (show M1.1 = n + 1 by omega) (by omega) (xset_ne (by omega) ((ho1 j (by omega) (by omega)).trans (xpush_ne (n := n) (show M.1 = n by omega) (by omega) rfl)))))))))), xset_self, (xset_ne (by omega) (xset_ne (by omega) ((ho3 n (by omega)).trans (xset_ne (by omega) ((ho2 n (by omega) (by omega)).trans (xpush_ne (n := n + 1) (show M1.1 = n + 1 by omega) (by omega) (xset_ne (by omega) hf1_0))))))), (xset_ne (by omega) (xset_ne (by omega) ((ho3 (n + 1) (by omega)).trans (xset_ne (by omega) hf2_0)))), (xset_ne (by omega) (xset_ne (by omega) hf3_0)), (xset_ne (by omega) (xset_ne (by omega) hf3_1)), (xset_ne (by omega) (xset_ne (by omega) hf3_2))⟩
set_option maxRecDepth 20000 in
theorem cBranch {G : xG} (hg : xGood G) (hZ : va_Z "java/util/ArrayList" "DEFAULTCAPACITY_EMPTY_ELEMENTDATA" "[Ljava/lang/Object;" (.ref (xa G 1)) (fun q => (xs G).heap.size ≤ q) (xs G) (xs G).heap) (hT : va_T (.object "java/lang/Object") (xa G 1) 0 (fun _ => .null) (fun q => (xs G).heap.size ≤ q) (xs G) (xs G).heap) {M : xM} {n : Nat} (hn : M.1 = n) (hx : xn ≤ n) {a : Nat} (h1_a : xn ≤ a) (h2_a : a < n) (h_a : M.2 a = (.inr (6, [.null, .null, .null]))) : XC G Y3_1 none 5 7 81 [.ref a] M (fun v M' => v = none ∧ M'.1 = n + 7 ∧ (∀ j, j < n → j ≠ a → M'.2 j = M.2 j) ∧ M'.2 a = (.inr (6, [.ref n, .ref (n + 1), .null])) ∧ M'.2 n = (.inr (2, [.ref 1, .int 0, .int 0])) ∧ M'.2 (n + 1) = (.inr (7, [.ref (n + 2), .ref (n + 3), .ref (n + 4), .int 1])) ∧ M'.2 (n + 2) = (.inr (2, [.ref 1, .int 0, .int 0])) ∧ M'.2 (n + 3) = (.inr (2, [.ref 1, .int 0, .int 0])) ∧ M'.2 (n + 4) = (.inr (8, [.ref (n + 5), .ref (n + 6), .int 1])) ∧ M'.2 (n + 5) = (.inl (1, 60, .inl (fun _ => 0))) ∧ M'.2 (n + 6) = (.inl (0, 5, .inl (fun _ => 0)))) := by
  refine xc_of hg (by decide) (Nat.le_of_ble_eq_true rfl) (Or.inr (Or.inr (Or.inr (Or.inr (Or.inl ⟨rfl, rfl, fun v M' h => h.1⟩))))) ?_
  refine xj_aload_n (i := 0) d3_1_0 rfl rfl ?_
  refine xj_callI (rest := []) (As := []) (b := a) (cPart hg (n := n) (a := a) (show M.1 = n by omega) (by omega) ) d3_1_1 wd7_1 rfl w316 (Or.inr ⟨_, w330⟩) rfl rfl (Nat.le_of_ble_eq_true rfl) (by omega) (by omega) (by omega) ?_
  rintro v M' ⟨rfl, hm⟩
  subst M'
  refine xj_aload_n (i := 0) d3_1_4 rfl rfl ?_
  refine xj_new (na := n) d3_1_5 n3_7 (show M.1 = n by omega) (by omega) (by omega) ?_
  refine xj_dup d3_1_8 rfl ?_
  refine xj_callI (rest := [.ref n, .ref a]) (As := []) (b := n) (c28_2 hg hZ hT (n := n + 1) (a := n) (show M.1 + 1 = n + 1 by omega) (by omega) (by omega) (by omega) (xpush_self (show M.1 = n by omega))) d3_1_9 wd28_2 rfl w48 (Or.inl w332) rfl rfl (Nat.le_of_ble_eq_true rfl) (by omega) (by omega) (by omega) ?_
  rintro v M1 ⟨rfl, hs1, ho1, hf1_0⟩
  replace hs1 : M1.1 = n + 1 := hs1
  replace hf1_0 : M1.2 n = (.inr (2, [.ref 1, .int 0, .int 0])) := hf1_0
  refine xj_putF (a := a) (fs' := [.ref n, .null, .null]) d3_1_12 rfl g3_10_6 ((ho1 a (by omega) (by omega)).trans (xpush_ne (n := n) (show M.1 = n by omega) (by omega) h_a)) (by omega) (show a < M1.1 by omega) (Nat.le_of_ble_eq_true rfl) rfl rfl rfl ?_
  refine xj_aload_n (i := 0) d3_1_15 rfl rfl ?_
  refine xj_new (na := n + 1) d3_1_16 n3_16 (show M1.1 = n + 1 by omega) (by omega) (by omega) ?_
  refine xj_dup d3_1_19 rfl ?_
  refine xj_callI (rest := [.ref (n + 1), .ref a]) (As := []) (b := n + 1) (cNeeds hg hZ hT (n := n + 2) (a := n + 1) (show M1.1 + 1 = n + 2 by omega) (by omega) (by omega) (by omega) (xpush_self (show M1.1 = n + 1 by omega))) d3_1_20 wd6_1 rfl w336 (Or.inr ⟨_, w335⟩) rfl rfl (Nat.le_of_ble_eq_true rfl) (by omega) (by omega) (by omega) ?_
  rintro v M2 ⟨rfl, hs2, ho2, hf2_0, hf2_1, hf2_2, hf2_3, hf2_4, hf2_5⟩
  replace hs2 : M2.1 = n + 7 := hs2
  replace hf2_0 : M2.2 (n + 1) = (.inr (7, [.ref (n + 2), .ref (n + 3), .ref (n + 4), .int 1])) := hf2_0
  replace hf2_1 : M2.2 (n + 2) = (.inr (2, [.ref 1, .int 0, .int 0])) := hf2_1
  replace hf2_2 : M2.2 (n + 3) = (.inr (2, [.ref 1, .int 0, .int 0])) := hf2_2
  replace hf2_3 : M2.2 (n + 4) = (.inr (8, [.ref (n + 5), .ref (n + 6), .int 1])) := hf2_3
  replace hf2_4 : M2.2 (n + 5) = (.inl (1, 60, .inl (fun _ => 0))) := hf2_4
  replace hf2_5 : M2.2 (n + 6) = (.inl (0, 5, .inl (fun _ => 0))) := hf2_5
  refine xj_putF (a := a) (fs' := [.ref n, .ref (n + 1), .null]) d3_1_23 rfl g3_19_6 ((ho2 a (by omega) (by omega)).trans (xpush_ne (n := n + 1) (show M1.1 = n + 1 by omega) (by omega) xset_self)) (by omega) (show a < M2.1 by omega) (Nat.le_of_ble_eq_true rfl) rfl rfl rfl ?_
  exact xj_ret d3_1_26 (by omega) (by omega) rfl ⟨rfl, (show M2.1 = n + 7 by omega), (fun j hj hj0 => (xset_ne (by omega) ((ho2 j (by omega) (by omega)).trans (xpush_ne (n := n + 1) (show M1.1 = n + 1 by omega) (by omega) (xset_ne (by omega) ((ho1 j (by omega) (by omega)).trans (xpush_ne (n := n) (show M.1 = n by omega) (by omega) rfl))))))), xset_self, (xset_ne (by omega) ((ho2 n (by omega) (by omega)).trans (xpush_ne (n := n + 1) (show M1.1 = n + 1 by omega) (by omega) (xset_ne (by omega) hf1_0)))), (xset_ne (by omega) hf2_0), (xset_ne (by omega) hf2_1), (xset_ne (by omega) hf2_2), (xset_ne (by omega) hf2_3), (xset_ne (by omega) hf2_4), (xset_ne (by omega) hf2_5)⟩
set_option maxRecDepth 20000 in
theorem cGrow0 {G : xG} (hg : xGood G) (hZ : va_Z "java/util/ArrayList" "DEFAULTCAPACITY_EMPTY_ELEMENTDATA" "[Ljava/lang/Object;" (.ref (xa G 1)) (fun q => (xs G).heap.size ≤ q) (xs G) (xs G).heap) (hT : va_T (.object "java/lang/Object") (xa G 1) 0 (fun _ => .null) (fun q => (xs G).heap.size ≤ q) (xs G) (xs G).heap) {M : xM} {n : Nat} (hn : M.1 = n) (hx : xn ≤ n) {a : Nat} {mo : Int32} (h1_a : xn ≤ a) (h2_a : a < n) (h_a : M.2 a = (.inr (2, [.ref 1, .int 0, .int mo]))) : XC G Y28_6 (some (.array (.object "java/lang/Object"))) 1 1 10 [.ref a, .int 1] M (fun v M' => v = some (.ref n) ∧ M'.1 = n + 1 ∧ (∀ j, j < n → j ≠ a → M'.2 j = M.2 j) ∧ M'.2 a = (.inr (2, [.ref n, .int 0, .int mo])) ∧ M'.2 n = (.inl (4, 10, .inr (.inr (.inr (.inr (fun _ => none))))))) := by
  refine xc_of hg (by decide) (Nat.le_of_ble_eq_true rfl) (Or.inr (Or.inr (Or.inr (Or.inr (Or.inr ⟨⟨_, rfl, Or.inr ⟨_, rfl⟩⟩, rfl, fun v M' h => Or.inr ⟨_, h.1⟩⟩))))) ?_
  refine xj_aload_n (i := 0) d28_6_0 rfl rfl ?_
  refine xj_get d28_6_1 f28_9_2 h_a (by omega) (show a < M.1 by omega) rfl ?_
  refine xj_tlen hT d28_6_4 ?_
  refine xj_istore_n (i := 2) (L' := [(2, .int (nI 0)), (0, .ref a), (1, .int 1)]) d28_6_5 rfl (by decide) rfl ?_
  refine xj_iload_n (i := 2) d28_6_6 rfl rfl ?_
  refine xj_if_gt (tgt := 20) d28_6_7 rfl (fun h => absurd h (by decide)) (fun _ => ?_)
  refine xj_aload_n (i := 0) d28_6_10 rfl rfl ?_
  refine xj_get d28_6_11 f28_9_2 h_a (by omega) (show a < M.1 by omega) rfl ?_
  refine xj_gets (v := .ref 1) hZ d28_6_14 w57 ?_
  refine xj_acmp_eq1 (tgt := 45) d28_6_17 rfl ?_
  refine xj_aload_n (i := 0) d28_6_45 rfl rfl ?_
  refine xj_bipush (v := 10) d28_6_46 (by decide) ?_
  refine xj_iload_n (i := 1) d28_6_48 rfl rfl ?_
  refine xj_max d28_6_49 w222 w186 w10 w187 (by omega) (Nat.le_of_ble_eq_true rfl) (by omega) (by omega) ?_
  show XJ _ _ _ _ _ _ _ _ _ (.int 10 :: _) _ _
  refine xj_anew (N := 10) (t := 4) (na := n) d28_6_52 w223 w216 (by decide) rfl (by decide) (by decide) (by decide) (show M.1 = n by omega) (by omega) (by omega) ?_
  refine xj_dup_x1 d28_6_55 rfl rfl ?_
  refine xj_put (a := a) (fs' := [.ref n, .int 0, .int mo]) d28_6_56 f28_9_2 (xpush_ne (n := n) (show M.1 = n by omega) (by omega) h_a) (by omega) (show a < M.1 + 1 by omega) (Nat.le_of_ble_eq_true rfl) rfl rfl rfl ?_
  exact xj_ret d28_6_59 (by omega) (by omega) rfl ⟨rfl, (show M.1 + 1 = n + 1 by omega), (fun j hj hj0 => (xset_ne (by omega) (xpush_ne (n := n) (show M.1 = n by omega) (by omega) rfl))), xset_self, (xset_ne (by omega) (xpush_self (show M.1 = n by omega)))⟩
set_option maxRecDepth 20000 in
theorem cGrowA {G : xG} (hg : xGood G) (hZ : va_Z "java/util/ArrayList" "DEFAULTCAPACITY_EMPTY_ELEMENTDATA" "[Ljava/lang/Object;" (.ref (xa G 1)) (fun q => (xs G).heap.size ≤ q) (xs G) (xs G).heap) (hT : va_T (.object "java/lang/Object") (xa G 1) 0 (fun _ => .null) (fun q => (xs G).heap.size ≤ q) (xs G) (xs G).heap) {M : xM} {n : Nat} (hn : M.1 = n) (hx : xn ≤ n) {a : Nat} {mo : Int32} (h1_a : xn ≤ a) (h2_a : a < n) (h_a : M.2 a = (.inr (2, [.ref 1, .int 0, .int mo]))) : XC G Y28_7 (some (.array (.object "java/lang/Object"))) 2 1 10 [.ref a] M (fun v M' => v = some (.ref n) ∧ M'.1 = n + 1 ∧ (∀ j, j < n → j ≠ a → M'.2 j = M.2 j) ∧ M'.2 a = (.inr (2, [.ref n, .int 0, .int mo])) ∧ M'.2 n = (.inl (4, 10, .inr (.inr (.inr (.inr (fun _ => none))))))) := by
  refine xc_of hg (by decide) (Nat.le_of_ble_eq_true rfl) (Or.inr (Or.inr (Or.inr (Or.inr (Or.inr ⟨⟨_, rfl, Or.inr ⟨_, rfl⟩⟩, rfl, fun v M' h => Or.inr ⟨_, h.1⟩⟩))))) ?_
  refine xj_aload_n (i := 0) d28_7_0 rfl rfl ?_
  refine xj_aload_n (i := 0) d28_7_1 rfl rfl ?_
  refine xj_get d28_7_2 f28_48_2 h_a (by omega) (show a < M.1 by omega) rfl ?_
  refine xj_iconst (v := 1) d28_7_5 (by decide) ?_
  refine xj_iadd (v := 1) d28_7_6 (by decide) ?_
  refine xj_callV (rest := []) (As := [.int 1]) (b := a) (cGrow0 hg hZ hT (n := n) (a := a) (mo := mo) (show M.1 = n by omega) (by omega) (by omega) (by omega) h_a) d28_7_7 wd28_6 h_a (by omega) (show a < M.1 by omega) rfl s28_6 w180 (Or.inl w178) rfl rfl (Nat.le_of_ble_eq_true rfl) (by omega) (by omega) (by omega) ?_
  rintro v M1 ⟨rfl, hs1, ho1, hf1_0, hf1_1⟩
  replace hs1 : M1.1 = n + 1 := hs1
  replace hf1_0 : M1.2 a = (.inr (2, [.ref n, .int 0, .int mo])) := hf1_0
  replace hf1_1 : M1.2 n = (.inl (4, 10, .inr (.inr (.inr (.inr (fun _ => none)))))) := hf1_1
  exact xj_ret d28_7_10 (by omega) (by omega) rfl ⟨rfl, (show M1.1 = n + 1 by omega), (fun j hj hj0 => (ho1 j (by omega) (by omega))), hf1_0, hf1_1⟩

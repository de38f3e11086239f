theorem xj_abs_set {G : xG} {Y : xY} {d ce se cells slots pc : Nat} {L : List (Nat × Value)} {st : List Value} {M : xM} {Post : Option Value → xM → Prop} {k : Nat} {e : xE} (kk : ∀ M1 : xM, M1.1 = M.1 → M1.2 k = e → (∀ j, j ≠ k → M1.2 j = M.2 j) → XJ G Y d ce se cells slots pc L st M1 Post) : XJ G Y d ce se cells slots pc L st (xset M k e) Post := kk _ rfl xset_self (fun j h => xset_ne h rfl)
theorem xj_abs_push {G : xG} {Y : xY} {d ce se cells slots pc : Nat} {L : List (Nat × Value)} {st : List Value} {M : xM} {Post : Option Value → xM → Prop} {n : Nat} {e : xE} (hn : M.1 = n) (kk : ∀ M1 : xM, M1.1 = n + 1 → M1.2 n = e → (∀ j, j ≠ n → M1.2 j = M.2 j) → XJ G Y d ce se cells slots pc L st M1 Post) : XJ G Y d ce se cells slots pc L st (xpush M e) Post := kk _ (by subst hn; rfl) (xpush_self hn) (fun j h => xpush_ne hn h rfl)
theorem xinc (k : Nat) : nI k + Int32.ofInt 1 = nI (k + 1) := by
  rw [lit1]
  exact nI_1 k
theorem xj_acmp_eq1 {G : xG} {Y : xY} {d ce se cells slots pc : Nat} {L : List (Nat × Value)} {st : List Value} {M : xM} {Post : Option Value → xM → Prop} {j : Nat} {off : Int} (hd : decode Y.2.1 pc = .ok (.if_acmp .eq off, 3)) {tgt : Nat} (ht : (pc : Int) + off = (tgt : Int)) (kf : XJ G Y d ce se cells slots tgt L st M Post) : XJ G Y d ce se cells slots pc L (.ref j :: .ref j :: st) M Post := by
  intro p e R s m args below meth c H locs Q ls hC hR hq hl k2
  exact lv_acmp_eq (rx := some (xa G j)) (ry := some (xa G j)) hC.2.1 hC.2.2.1 hd ht (fun h => kf p e R s m args below meth c H locs Q ls hC hR hq hl k2) (fun h => absurd rfl h)
set_option maxRecDepth 20000 in
theorem c26_1 {G : xG} (hg : xGood G) {M : xM} {n : Nat} (hn : M.1 = n) (hx : xn ≤ n) {a : Nat} : XC G Y26_1 none 1 0 0 [.ref a] M (fun v M' => v = none ∧ M' = M) := by
  refine xc_of hg (by decide) (Nat.le_of_ble_eq_true rfl) (Or.inr (Or.inr (Or.inr (Or.inr (Or.inl ⟨rfl, rfl, fun v M' h => h.1⟩))))) ?_
  refine xj_aload_n (i := 0) d26_1_0 rfl rfl ?_
  refine xj_obj d26_1_1 w56 w35 w36 (by omega) (Nat.le_of_ble_eq_true rfl) ?_
  exact xj_ret d26_1_4 (by omega) (by omega) rfl ⟨rfl, rfl⟩
set_option maxRecDepth 20000 in
theorem c27_1 {G : xG} (hg : xGood G) {M : xM} {n : Nat} (hn : M.1 = n) (hx : xn ≤ n) {a : Nat} (h1_a : xn ≤ a) (h2_a : a < n) (h_a : M.2 a = (.inr (2, [.null, .int 0, .int 0]))) : XC G Y27_1 none 2 0 0 [.ref a] M (fun v M' => v = none ∧ M'.1 = n ∧ (∀ j, j < n → j ≠ a → M'.2 j = M.2 j) ∧ M'.2 a = (.inr (2, [.null, .int 0, .int 0]))) := by
  refine xc_of hg (by decide) (Nat.le_of_ble_eq_true rfl) (Or.inr (Or.inr (Or.inr (Or.inr (Or.inl ⟨rfl, rfl, fun v M' h => h.1⟩))))) ?_
  refine xj_aload_n (i := 0) d27_1_0 rfl rfl ?_
  refine xj_callI (rest := []) (As := []) (b := a) (c26_1 hg (M := M) (n := n) (a := a) (show M.1 = n by omega) (by omega) ) d27_1_1 wd26_1 rfl w54 (Or.inl w53) rfl rfl (Nat.le_of_ble_eq_true rfl) (by omega) (by omega) (by omega) ?_
  rintro v M' ⟨rfl, hm⟩
  subst M'
  refine xj_aload_n (i := 0) d27_1_4 rfl rfl ?_
  refine xj_iconst (v := 0) d27_1_5 (by decide) ?_
  refine xj_put (a := a) (fs' := [.null, .int 0, .int 0]) d27_1_6 f27_7_2 h_a (by omega) (show a < M.1 by omega) (Nat.le_of_ble_eq_true rfl) rfl rfl rfl ?_
  refine xj_abs_set (fun M1 hs1 ha1 ho1 => ?_)
  exact xj_ret d27_1_9 (by omega) (by omega) rfl ⟨rfl, (show M1.1 = n by omega), (fun j hj hj0 => (ho1 j (by omega))), ha1⟩
set_option maxRecDepth 20000 in
theorem c28_2 {G : xG} (hg : xGood G) (hZ : va_Z "java/util/ArrayList" "DEFAULTCAPACITY_EMPTY_ELEMENTDATA" "[Ljava/lang/Object;" (.ref (xa G 1)) (fun q => (xs G).heap.size ≤ q) (xs G) (xs G).heap) (hT : va_T (.object "java/lang/Object") (xa G 1) 0 (fun _ => .null) (fun q => (xs G).heap.size ≤ q) (xs G) (xs G).heap) {M : xM} {n : Nat} (hn : M.1 = n) (hx : xn ≤ n) {a : Nat} (h1_a : xn ≤ a) (h2_a : a < n) (h_a : M.2 a = (.inr (2, [.null, .int 0, .int 0]))) : XC G Y28_2 none 3 0 0 [.ref a] M (fun v M' => v = none ∧ M'.1 = n ∧ (∀ j, j < n → j ≠ a → M'.2 j = M.2 j) ∧ M'.2 a = (.inr (2, [.ref 1, .int 0, .int 0]))) := by
  refine xc_of hg (by decide) (Nat.le_of_ble_eq_true rfl) (Or.inr (Or.inr (Or.inr (Or.inr (Or.inl ⟨rfl, rfl, fun v M' h => h.1⟩))))) ?_
  refine xj_aload_n (i := 0) d28_2_0 rfl rfl ?_
  refine xj_callI (rest := []) (As := []) (b := a) (c27_1 hg (M := M) (n := n) (a := a) (show M.1 = n by omega) (by omega) (by omega) (by omega) h_a) d28_2_1 wd27_1 rfl w51 (Or.inl w50) rfl rfl (Nat.le_of_ble_eq_true rfl) (by omega) (by omega) (by omega) ?_
  rintro v M1 ⟨rfl, hs1, ho1, hf1_0⟩
  replace hs1 : M1.1 = n := hs1
  replace hf1_0 : M1.2 a = (.inr (2, [.null, .int 0, .int 0])) := hf1_0
  refine xj_aload_n (i := 0) d28_2_4 rfl rfl ?_
  refine xj_gets (v := .ref 1) hZ d28_2_5 w57 ?_
  refine xj_put (a := a) (fs' := [.ref 1, .int 0, .int 0]) d28_2_8 f28_9_2 hf1_0 (by omega) (show a < M1.1 by omega) (Nat.le_of_ble_eq_true rfl) rfl rfl rfl ?_
  refine xj_abs_set (fun M2 hs2 ha2 ho2 => ?_)
  exact xj_ret d28_2_11 (by omega) (by omega) rfl ⟨rfl, (show M2.1 = n by omega), (fun j hj hj0 => ((ho2 j (by omega)).trans (ho1 j (by omega) (by omega)))), ha2⟩
set_option maxRecDepth 20000 in
theorem c10_1 {G : xG} (hg : xGood G) (hZ : va_Z "java/util/ArrayList" "DEFAULTCAPACITY_EMPTY_ELEMENTDATA" "[Ljava/lang/Object;" (.ref (xa G 1)) (fun q => (xs G).heap.size ≤ q) (xs G) (xs G).heap) (hT : va_T (.object "java/lang/Object") (xa G 1) 0 (fun _ => .null) (fun q => (xs G).heap.size ≤ q) (xs G) (xs G).heap) {M : xM} {n : Nat} (hn : M.1 = n) (hx : xn ≤ n) {a : Nat} {lv : Int32} (h1_a : xn ≤ a) (h2_a : a < n) (h_a : M.2 a = (.inr (1, [.int 0, .null]))) : XC G Y10_1 none 4 1 3 [.ref a, .int lv] M (fun v M' => v = none ∧ M'.1 = n + 1 ∧ (∀ j, j < n → j ≠ a → M'.2 j = M.2 j) ∧ M'.2 a = (.inr (1, [.int lv, .ref n])) ∧ M'.2 n = (.inr (2, [.ref 1, .int 0, .int 0]))) := by
  refine xc_of hg (by decide) (Nat.le_of_ble_eq_true rfl) (Or.inr (Or.inr (Or.inr (Or.inr (Or.inl ⟨rfl, rfl, fun v M' h => h.1⟩))))) ?_
  refine xj_aload_n (i := 0) d10_1_0 rfl rfl ?_
  refine xj_obj d10_1_1 w44 w35 w36 (by omega) (Nat.le_of_ble_eq_true rfl) ?_
  refine xj_aload_n (i := 0) d10_1_4 rfl rfl ?_
  refine xj_new (na := n) d10_1_5 n10_7 (show M.1 = n by omega) (by omega) (by omega) ?_
  refine xj_abs_push (show M.1 = n by omega) (fun M1 hs1 ha1 ho1 => ?_)
  refine xj_dup d10_1_8 rfl ?_
  refine xj_callI (rest := [.ref n, .ref a]) (As := []) (b := n) (c28_2 hg hZ hT (M := M1) (n := n + 1) (a := n) (show M1.1 = n + 1 by omega) (by omega) (by omega) (by omega) ha1) d10_1_9 wd28_2 rfl w48 (Or.inl w47) rfl rfl (Nat.le_of_ble_eq_true rfl) (by omega) (by omega) (by omega) ?_
  rintro v M2 ⟨rfl, hs2, ho2, hf2_0⟩
  replace hs2 : M2.1 = n + 1 := hs2
  replace hf2_0 : M2.2 n = (.inr (2, [.ref 1, .int 0, .int 0])) := hf2_0
  refine xj_putF (a := a) (fs' := [.int 0, .ref n]) d10_1_12 rfl g10_10_1 ((ho2 a (by omega) (by omega)).trans ((ho1 a (by omega)).trans h_a)) (by omega) (show a < M2.1 by omega) (Nat.le_of_ble_eq_true rfl) rfl rfl rfl ?_
  refine xj_abs_set (fun M3 hs3 ha3 ho3 => ?_)
  refine xj_aload_n (i := 0) d10_1_15 rfl rfl ?_
  refine xj_iload_n (i := 1) d10_1_16 rfl rfl ?_
  refine xj_putF (a := a) (fs' := [.int lv, .ref n]) d10_1_17 rfl g10_16_1 ha3 (by omega) (show a < M3.1 by omega) (Nat.le_of_ble_eq_true rfl) rfl rfl rfl ?_
  refine xj_abs_set (fun M4 hs4 ha4 ho4 => ?_)
  exact xj_ret d10_1_20 (by omega) (by omega) rfl ⟨rfl, (show M4.1 = n + 1 by omega), (fun j hj hj0 => ((ho4 j (by omega)).trans ((ho3 j (by omega)).trans ((ho2 j (by omega) (by omega)).trans (ho1 j (by omega)))))), ha4, ((ho4 n (by omega)).trans ((ho3 n (by omega)).trans hf2_0))⟩
set_option maxRecDepth 20000 in
theorem cPart {G : xG} (hg : xGood G) {M : xM} {n : Nat} (hn : M.1 = n) (hx : xn ≤ n) {a : Nat} : XC G Y7_1 none 1 0 0 [.ref a] M (fun v M' => v = none ∧ M' = M) := by
  refine xc_of hg (by decide) (Nat.le_of_ble_eq_true rfl) (Or.inr (Or.inr (Or.inr (Or.inr (Or.inl ⟨rfl, rfl, fun v M' h => h.1⟩))))) ?_
  refine xj_aload_n (i := 0) d7_1_0 rfl rfl ?_
  refine xj_obj d7_1_1 w318 w35 w36 (by omega) (Nat.le_of_ble_eq_true rfl) ?_
  exact xj_ret d7_1_4 (by omega) (by omega) rfl ⟨rfl, rfl⟩
set_option maxRecDepth 20000 in
theorem cWords {G : xG} (hg : xGood G) {M : xM} {n : Nat} (hn : M.1 = n) (hx : xn ≤ n) {a : Nat} (h1_a : xn ≤ a) (h2_a : a < n) (h_a : M.2 a = (.inr (8, [.null, .null, .int 0]))) : XC G Y12_1 none 1 2 65 [.ref a] M (fun v M' => v = none ∧ M'.1 = n + 2 ∧ (∀ j, j < n → j ≠ a → M'.2 j = M.2 j) ∧ M'.2 a = (.inr (8, [.ref n, .ref (n + 1), .int 0])) ∧ M'.2 n = (.inl (1, 60, .inl (fun _ => 0))) ∧ M'.2 (n + 1) = (.inl (0, 5, .inl (fun _ => 0)))) := by
  refine xc_of hg (by decide) (Nat.le_of_ble_eq_true rfl) (Or.inr (Or.inr (Or.inr (Or.inr (Or.inl ⟨rfl, rfl, fun v M' h => h.1⟩))))) ?_
  refine xj_aload_n (i := 0) d12_1_0 rfl rfl ?_
  refine xj_obj d12_1_1 w349 w35 w36 (by omega) (Nat.le_of_ble_eq_true rfl) ?_
  refine xj_aload_n (i := 0) d12_1_4 rfl rfl ?_
  refine xj_bipush (v := 60) d12_1_5 (by decide) ?_
  refine xj_new_char (N := 60) (na := n) d12_1_7 w71 (by decide) (by decide) (by decide) (show M.1 = n by omega) (by omega) (by omega) ?_
  refine xj_abs_push (show M.1 = n by omega) (fun M1 hs1 ha1 ho1 => ?_)
  refine xj_putF (a := a) (fs' := [.ref n, .null, .int 0]) d12_1_9 rfl g12_9_8 ((ho1 a (by omega)).trans h_a) (by omega) (show a < M1.1 by omega) (Nat.le_of_ble_eq_true rfl) rfl rfl rfl ?_
  refine xj_abs_set (fun M2 hs2 ha2 ho2 => ?_)
  refine xj_aload_n (i := 0) d12_1_12 rfl rfl ?_
  refine xj_iconst (v := 5) d12_1_13 (by decide) ?_
  refine xj_new_int (N := 5) (na := n + 1) d12_1_14 w122 (by decide) (by decide) (by decide) (show M2.1 = n + 1 by omega) (by omega) (by omega) ?_
  refine xj_abs_push (show M2.1 = n + 1 by omega) (fun M3 hs3 ha3 ho3 => ?_)
  refine xj_putF (a := a) (fs' := [.ref n, .ref (n + 1), .int 0]) d12_1_16 rfl g12_13_8 ((ho3 a (by omega)).trans ha2) (by omega) (show a < M3.1 by omega) (Nat.le_of_ble_eq_true rfl) rfl rfl rfl ?_
  refine xj_abs_set (fun M4 hs4 ha4 ho4 => ?_)
  exact xj_ret d12_1_19 (by omega) (by omega) rfl ⟨rfl, (show M4.1 = n + 2 by omega), (fun j hj hj0 => ((ho4 j (by omega)).trans ((ho3 j (by omega)).trans ((ho2 j (by omega)).trans (ho1 j (by omega)))))), ha4, ((ho4 n (by omega)).trans ((ho3 n (by omega)).trans ((ho2 n (by omega)).trans ha1))), ((ho4 (n + 1) (by omega)).trans ha3)⟩
set_option maxRecDepth 20000 in
theorem cEmpty {G : xG} (hg : xGood G) {M : xM} {n : Nat} (hn : M.1 = n) (hx : xn ≤ n) : XC G Y12_2 (some (.object "TrigramLines$Words")) 2 3 68 [] M (fun v M' => v = some (.ref n) ∧ M'.1 = n + 3 ∧ (∀ j, j < n → M'.2 j = M.2 j) ∧ M'.2 n = (.inr (8, [.ref (n + 1), .ref (n + 2), .int 1])) ∧ M'.2 (n + 1) = (.inl (1, 60, .inl (fun _ => 0))) ∧ M'.2 (n + 2) = (.inl (0, 5, .inl (fun _ => 0)))) := by
  refine xc_of hg (by decide) (Nat.le_of_ble_eq_true rfl) (Or.inr (Or.inr (Or.inr (Or.inr (Or.inr ⟨⟨_, rfl, Or.inl ⟨_, rfl⟩⟩, rfl, fun v M' h => Or.inr ⟨_, h.1⟩⟩))))) ?_
  refine xj_new (na := n) d12_2_0 n12_7 (show M.1 = n by omega) (by omega) (by omega) ?_
  refine xj_abs_push (show M.1 = n by omega) (fun M1 hs1 ha1 ho1 => ?_)
  refine xj_dup d12_2_3 rfl ?_
  refine xj_callI (rest := [.ref n]) (As := []) (b := n) (cWords hg (M := M1) (n := n + 1) (a := n) (show M1.1 = n + 1 by omega) (by omega) (by omega) (by omega) ha1) d12_2_4 wd12_1 rfl w347 (Or.inl w346) rfl rfl (Nat.le_of_ble_eq_true rfl) (by omega) (by omega) (by omega) ?_
  rintro v M2 ⟨rfl, hs2, ho2, hf2_0, hf2_1, hf2_2⟩
  replace hs2 : M2.1 = n + 3 := hs2
  replace hf2_0 : M2.2 n = (.inr (8, [.ref (n + 1), .ref (n + 2), .int 0])) := hf2_0
  replace hf2_1 : M2.2 (n + 1) = (.inl (1, 60, .inl (fun _ => 0))) := hf2_1
  replace hf2_2 : M2.2 (n + 2) = (.inl (0, 5, .inl (fun _ => 0))) := hf2_2
  refine xj_astore_n (i := 0) (L' := [(0, .ref n)]) d12_2_7 rfl (by decide) rfl ?_
  refine xj_aload_n (i := 0) d12_2_8 rfl rfl ?_
  refine xj_iconst (v := 1) d12_2_9 (by decide) ?_
  refine xj_put (a := n) (fs' := [.ref (n + 1), .ref (n + 2), .int 1]) d12_2_10 f12_18_8 hf2_0 (by omega) (show n < M2.1 by omega) (Nat.le_of_ble_eq_true rfl) rfl rfl rfl ?_
  refine xj_abs_set (fun M3 hs3 ha3 ho3 => ?_)
  refine xj_aload_n (i := 0) d12_2_13 rfl rfl ?_
  exact xj_ret d12_2_14 (by omega) (by omega) rfl ⟨rfl, (show M3.1 = n + 3 by omega), (fun j hj  => ((ho3 j (by omega)).trans ((ho2 j (by omega) (by omega)).trans (ho1 j (by omega))))), ha3, ((ho3 (n + 1) (by omega)).trans hf2_1), ((ho3 (n + 2) (by omega)).trans hf2_2)⟩
set_option maxRecDepth 20000 in
theorem cNeeds {G : xG} (hg : xGood G) (hZ : va_Z "java/util/ArrayList" "DEFAULTCAPACITY_EMPTY_ELEMENTDATA" "[Ljava/lang/Object;" (.ref (xa G 1)) (fun q => (xs G).heap.size ≤ q) (xs G) (xs G).heap) (hT : va_T (.object "java/lang/Object") (xa G 1) 0 (fun _ => .null) (fun q => (xs G).heap.size ≤ q) (xs G) (xs G).heap) {M : xM} {n : Nat} (hn : M.1 = n) (hx : xn ≤ n) {a : Nat} (h1_a : xn ≤ a) (h2_a : a < n) (h_a : M.2 a = (.inr (7, [.null, .null, .null, .int 0]))) : XC G Y6_1 none 4 5 74 [.ref a] M (fun v M' => v = none ∧ M'.1 = n + 5 ∧ (∀ j, j < n → j ≠ a → M'.2 j = M.2 j) ∧ M'.2 a = (.inr (7, [.ref n, .ref (n + 1), .ref (n + 2), .int 1])) ∧ M'.2 n = (.inr (2, [.ref 1, .int 0, .int 0])) ∧ M'.2 (n + 1) = (.inr (2, [.ref 1, .int 0, .int 0])) ∧ M'.2 (n + 2) = (.inr (8, [.ref (n + 3), .ref (n + 4), .int 1])) ∧ M'.2 (n + 3) = (.inl (1, 60, .inl (fun _ => 0))) ∧ M'.2 (n + 4) = (.inl (0, 5, .inl (fun _ => 0)))) := by
  refine xc_of hg (by decide) (Nat.le_of_ble_eq_true rfl) (Or.inr (Or.inr (Or.inr (Or.inr (Or.inl ⟨rfl, rfl, fun v M' h => h.1⟩))))) ?_
  refine xj_aload_n (i := 0) d6_1_0 rfl rfl ?_
  refine xj_obj d6_1_1 w338 w35 w36 (by omega) (Nat.le_of_ble_eq_true rfl) ?_
  refine xj_aload_n (i := 0) d6_1_4 rfl rfl ?_
  refine xj_new (na := n) d6_1_5 n6_7 (show M.1 = n by omega) (by omega) (by omega) ?_
  refine xj_abs_push (show M.1 = n by omega) (fun M1 hs1 ha1 ho1 => ?_)
  refine xj_dup d6_1_8 rfl ?_
  refine xj_callI (rest := [.ref n, .ref a]) (As := []) (b := n) (c28_2 hg hZ hT (M := M1) (n := n + 1) (a := n) (show M1.1 = n + 1 by omega) (by omega) (by omega) (by omega) ha1) d6_1_9 wd28_2 rfl w48 (Or.inl w340) rfl rfl (Nat.le_of_ble_eq_true rfl) (by omega) (by omega) (by omega) ?_
  rintro v M2 ⟨rfl, hs2, ho2, hf2_0⟩
  replace hs2 : M2.1 = n + 1 := hs2
  replace hf2_0 : M2.2 n = (.inr (2, [.ref 1, .int 0, .int 0])) := hf2_0
  refine xj_putF (a := a) (fs' := [.ref n, .null, .null, .int 0]) d6_1_12 rfl g6_10_7 ((ho2 a (by omega) (by omega)).trans ((ho1 a (by omega)).trans h_a)) (by omega) (show a < M2.1 by omega) (Nat.le_of_ble_eq_true rfl) rfl rfl rfl ?_
  refine xj_abs_set (fun M3 hs3 ha3 ho3 => ?_)
  refine xj_aload_n (i := 0) d6_1_15 rfl rfl ?_
  refine xj_new (na := n + 1) d6_1_16 n6_7 (show M3.1 = n + 1 by omega) (by omega) (by omega) ?_
  refine xj_abs_push (show M3.1 = n + 1 by omega) (fun M4 hs4 ha4 ho4 => ?_)
  refine xj_dup d6_1_19 rfl ?_
  refine xj_callI (rest := [.ref (n + 1), .ref a]) (As := []) (b := n + 1) (c28_2 hg hZ hT (M := M4) (n := n + 2) (a := n + 1) (show M4.1 = n + 2 by omega) (by omega) (by omega) (by omega) ha4) d6_1_20 wd28_2 rfl w48 (Or.inl w340) rfl rfl (Nat.le_of_ble_eq_true rfl) (by omega) (by omega) (by omega) ?_
  rintro v M5 ⟨rfl, hs5, ho5, hf5_0⟩
  replace hs5 : M5.1 = n + 2 := hs5
  replace hf5_0 : M5.2 (n + 1) = (.inr (2, [.ref 1, .int 0, .int 0])) := hf5_0
  refine xj_putF (a := a) (fs' := [.ref n, .ref (n + 1), .null, .int 0]) d6_1_23 rfl g6_16_7 ((ho5 a (by omega) (by omega)).trans ((ho4 a (by omega)).trans ha3)) (by omega) (show a < M5.1 by omega) (Nat.le_of_ble_eq_true rfl) rfl rfl rfl ?_
  refine xj_abs_set (fun M6 hs6 ha6 ho6 => ?_)
  refine xj_aload_n (i := 0) d6_1_26 rfl rfl ?_
  refine xj_callS (rest := [.ref a]) (As := []) (cEmpty hg (M := M6) (n := n + 2) (show M6.1 = n + 2 by omega) (by omega) ) d6_1_27 wd12_2 w342 (Or.inl w341) rfl rfl (Nat.le_of_ble_eq_true rfl) (by omega) (by omega) (by omega) ?_
  rintro v M7 ⟨rfl, hs7, ho7, hf7_0, hf7_1, hf7_2⟩
  replace hs7 : M7.1 = n + 5 := hs7
  replace hf7_0 : M7.2 (n + 2) = (.inr (8, [.ref (n + 3), .ref (n + 4), .int 1])) := hf7_0
  replace hf7_1 : M7.2 (n + 3) = (.inl (1, 60, .inl (fun _ => 0))) := hf7_1
  replace hf7_2 : M7.2 (n + 4) = (.inl (0, 5, .inl (fun _ => 0))) := hf7_2
  refine xj_put (a := a) (fs' := [.ref n, .ref (n + 1), .ref (n + 2), .int 0]) d6_1_30 f6_25_7 ((ho7 a (by omega)).trans ha6) (by omega) (show a < M7.1 by omega) (Nat.le_of_ble_eq_true rfl) rfl rfl rfl ?_
  refine xj_abs_set (fun M8 hs8 ha8 ho8 => ?_)
  refine xj_aload_n (i := 0) d6_1_33 rfl rfl ?_
  refine xj_iconst (v := 1) d6_1_34 (by decide) ?_
  refine xj_put (a := a) (fs' := [.ref n, .ref (n + 1), .ref (n + 2), .int 1]) d6_1_35 f6_29_7 ha8 (by omega) (show a < M8.1 by omega) (Nat.le_of_ble_eq_true rfl) rfl rfl rfl ?_
  refine xj_abs_set (fun M9 hs9 ha9 ho9 => ?_)
  exact xj_ret d6_1_38 (by omega) (by omega) rfl ⟨rfl, (show M9.1 = n + 5 by omega), (fun j hj hj0 => ((ho9 j (by omega)).trans ((ho8 j (by omega)).trans ((ho7 j (by omega)).trans ((ho6 j (by omega)).trans ((ho5 j (by omega) (by omega)).trans ((ho4 j (by omega)).trans ((ho3 j (by omega)).trans ((ho2 j (by omega) (by omega)).trans (ho1 j (by omega))))))))))), ha9, ((ho9 n (by omega)).trans ((ho8 n (by omega)).trans ((ho7 n (by omega)).trans ((ho6 n (by omega)).trans ((ho5 n (by omega) (by omega)).trans ((ho4 n (by omega)).trans ((ho3 n (by omega)).trans hf2_0))))))), ((ho9 (n + 1) (by omega)).trans ((ho8 (n + 1) (by omega)).trans ((ho7 (n + 1) (by omega)).trans ((ho6 (n + 1) (by omega)).trans hf5_0)))), ((ho9 (n + 2) (by omega)).trans ((ho8 (n + 2) (by omega)).trans hf7_0)), ((ho9 (n + 3) (by omega)).trans ((ho8 (n + 3) (by omega)).trans hf7_1)), ((ho9 (n + 4) (by omega)).trans ((ho8 (n + 4) (by omega)).trans hf7_2))⟩
set_option maxRecDepth 20000 in
theorem cBranch {G : xG} (hg : xGood G) (hZ : va_Z "java/util/ArrayList" "DEFAULTCAPACITY_EMPTY_ELEMENTDATA" "[Ljava/lang/Object;" (.ref (xa G 1)) (fun q => (xs G).heap.size ≤ q) (xs G) (xs G).heap) (hT : va_T (.object "java/lang/Object") (xa G 1) 0 (fun _ => .null) (fun q => (xs G).heap.size ≤ q) (xs G) (xs G).heap) {M : xM} {n : Nat} (hn : M.1 = n) (hx : xn ≤ n) {a : Nat} (h1_a : xn ≤ a) (h2_a : a < n) (h_a : M.2 a = (.inr (6, [.null, .null, .null]))) : XC G Y3_1 none 5 7 81 [.ref a] M (fun v M' => v = none ∧ M'.1 = n + 7 ∧ (∀ j, j < n → j ≠ a → M'.2 j = M.2 j) ∧ M'.2 a = (.inr (6, [.ref n, .ref (n + 1), .null])) ∧ M'.2 n = (.inr (2, [.ref 1, .int 0, .int 0])) ∧ M'.2 (n + 1) = (.inr (7, [.ref (n + 2), .ref (n + 3), .ref (n + 4), .int 1])) ∧ M'.2 (n + 2) = (.inr (2, [.ref 1, .int 0, .int 0])) ∧ M'.2 (n + 3) = (.inr (2, [.ref 1, .int 0, .int 0])) ∧ M'.2 (n + 4) = (.inr (8, [.ref (n + 5), .ref (n + 6), .int 1])) ∧ M'.2 (n + 5) = (.inl (1, 60, .inl (fun _ => 0))) ∧ M'.2 (n + 6) = (.inl (0, 5, .inl (fun _ => 0)))) := by
  refine xc_of hg (by decide) (Nat.le_of_ble_eq_true rfl) (Or.inr (Or.inr (Or.inr (Or.inr (Or.inl ⟨rfl, rfl, fun v M' h => h.1⟩))))) ?_
  refine xj_aload_n (i := 0) d3_1_0 rfl rfl ?_
  refine xj_callI (rest := []) (As := []) (b := a) (cPart hg (M := M) (n := n) (a := a) (show M.1 = n by omega) (by omega) ) d3_1_1 wd7_1 rfl w316 (Or.inr ⟨_, w330⟩) rfl rfl (Nat.le_of_ble_eq_true rfl) (by omega) (by omega) (by omega) ?_
  rintro v M' ⟨rfl, hm⟩
  subst M'
  refine xj_aload_n (i := 0) d3_1_4 rfl rfl ?_
  refine xj_new (na := n) d3_1_5 n3_7 (show M.1 = n by omega) (by omega) (by omega) ?_
  refine xj_abs_push (show M.1 = n by omega) (fun M1 hs1 ha1 ho1 => ?_)
  refine xj_dup d3_1_8 rfl ?_
  refine xj_callI (rest := [.ref n, .ref a]) (As := []) (b := n) (c28_2 hg hZ hT (M := M1) (n := n + 1) (a := n) (show M1.1 = n + 1 by omega) (by omega) (by omega) (by omega) ha1) d3_1_9 wd28_2 rfl w48 (Or.inl w332) rfl rfl (Nat.le_of_ble_eq_true rfl) (by omega) (by omega) (by omega) ?_
  rintro v M2 ⟨rfl, hs2, ho2, hf2_0⟩
  replace hs2 : M2.1 = n + 1 := hs2
  replace hf2_0 : M2.2 n = (.inr (2, [.ref 1, .int 0, .int 0])) := hf2_0
  refine xj_putF (a := a) (fs' := [.ref n, .null, .null]) d3_1_12 rfl g3_10_6 ((ho2 a (by omega) (by omega)).trans ((ho1 a (by omega)).trans h_a)) (by omega) (show a < M2.1 by omega) (Nat.le_of_ble_eq_true rfl) rfl rfl rfl ?_
  refine xj_abs_set (fun M3 hs3 ha3 ho3 => ?_)
  refine xj_aload_n (i := 0) d3_1_15 rfl rfl ?_
  refine xj_new (na := n + 1) d3_1_16 n3_16 (show M3.1 = n + 1 by omega) (by omega) (by omega) ?_
  refine xj_abs_push (show M3.1 = n + 1 by omega) (fun M4 hs4 ha4 ho4 => ?_)
  refine xj_dup d3_1_19 rfl ?_
  refine xj_callI (rest := [.ref (n + 1), .ref a]) (As := []) (b := n + 1) (cNeeds hg hZ hT (M := M4) (n := n + 2) (a := n + 1) (show M4.1 = n + 2 by omega) (by omega) (by omega) (by omega) ha4) d3_1_20 wd6_1 rfl w336 (Or.inr ⟨_, w335⟩) rfl rfl (Nat.le_of_ble_eq_true rfl) (by omega) (by omega) (by omega) ?_
  rintro v M5 ⟨rfl, hs5, ho5, hf5_0, hf5_1, hf5_2, hf5_3, hf5_4, hf5_5⟩
  replace hs5 : M5.1 = n + 7 := hs5
  replace hf5_0 : M5.2 (n + 1) = (.inr (7, [.ref (n + 2), .ref (n + 3), .ref (n + 4), .int 1])) := hf5_0
  replace hf5_1 : M5.2 (n + 2) = (.inr (2, [.ref 1, .int 0, .int 0])) := hf5_1
  replace hf5_2 : M5.2 (n + 3) = (.inr (2, [.ref 1, .int 0, .int 0])) := hf5_2
  replace hf5_3 : M5.2 (n + 4) = (.inr (8, [.ref (n + 5), .ref (n + 6), .int 1])) := hf5_3
  replace hf5_4 : M5.2 (n + 5) = (.inl (1, 60, .inl (fun _ => 0))) := hf5_4
  replace hf5_5 : M5.2 (n + 6) = (.inl (0, 5, .inl (fun _ => 0))) := hf5_5
  refine xj_putF (a := a) (fs' := [.ref n, .ref (n + 1), .null]) d3_1_23 rfl g3_19_6 ((ho5 a (by omega) (by omega)).trans ((ho4 a (by omega)).trans ha3)) (by omega) (show a < M5.1 by omega) (Nat.le_of_ble_eq_true rfl) rfl rfl rfl ?_
  refine xj_abs_set (fun M6 hs6 ha6 ho6 => ?_)
  exact xj_ret d3_1_26 (by omega) (by omega) rfl ⟨rfl, (show M6.1 = n + 7 by omega), (fun j hj hj0 => ((ho6 j (by omega)).trans ((ho5 j (by omega) (by omega)).trans ((ho4 j (by omega)).trans ((ho3 j (by omega)).trans ((ho2 j (by omega) (by omega)).trans (ho1 j (by omega)))))))), ha6, ((ho6 n (by omega)).trans ((ho5 n (by omega) (by omega)).trans ((ho4 n (by omega)).trans ((ho3 n (by omega)).trans hf2_0)))), ((ho6 (n + 1) (by omega)).trans hf5_0), ((ho6 (n + 2) (by omega)).trans hf5_1), ((ho6 (n + 3) (by omega)).trans hf5_2), ((ho6 (n + 4) (by omega)).trans hf5_3), ((ho6 (n + 5) (by omega)).trans hf5_4), ((ho6 (n + 6) (by omega)).trans hf5_5)⟩
set_option maxRecDepth 20000 in
theorem cGrow0 {G : xG} (hg : xGood G) (hZ : va_Z "java/util/ArrayList" "DEFAULTCAPACITY_EMPTY_ELEMENTDATA" "[Ljava/lang/Object;" (.ref (xa G 1)) (fun q => (xs G).heap.size ≤ q) (xs G) (xs G).heap) (hT : va_T (.object "java/lang/Object") (xa G 1) 0 (fun _ => .null) (fun q => (xs G).heap.size ≤ q) (xs G) (xs G).heap) {M : xM} {n : Nat} (hn : M.1 = n) (hx : xn ≤ n) {a : Nat} {mo : Int32} (h1_a : xn ≤ a) (h2_a : a < n) (h_a : M.2 a = (.inr (2, [.ref 1, .int 0, .int mo]))) : XC G Y28_6 (some (.array (.object "java/lang/Object"))) 1 1 10 [.ref a, .int 1] M (fun v M' => v = some (.ref n) ∧ M'.1 = n + 1 ∧ (∀ j, j < n → j ≠ a → M'.2 j = M.2 j) ∧ M'.2 a = (.inr (2, [.ref n, .int 0, .int mo])) ∧ M'.2 n = (.inl (4, 10, .inr (.inr (.inr (.inr (fun _ => none))))))) := by
  refine xc_of hg (by decide) (Nat.le_of_ble_eq_true rfl) (Or.inr (Or.inr (Or.inr (Or.inr (Or.inr ⟨⟨_, rfl, Or.inr ⟨_, rfl⟩⟩, rfl, fun v M' h => Or.inr ⟨_, h.1⟩⟩))))) ?_
  refine xj_aload_n (i := 0) d28_6_0 rfl rfl ?_
  refine xj_get d28_6_1 f28_9_2 h_a (by omega) (show a < M.1 by omega) rfl ?_
  refine xj_tlen hT d28_6_4 ?_
  refine xj_istore_n (i := 2) (L' := [(2, .int (nI 0)), (0, .ref a), (1, .int 1)]) d28_6_5 rfl (by decide) rfl ?_
  refine xj_iload_n (i := 2) d28_6_6 rfl rfl ?_
  refine xj_if_gt (tgt := 20) d28_6_7 rfl (fun h => absurd h (by decide)) (fun _ => ?_)
  refine xj_aload_n (i := 0) d28_6_10 rfl rfl ?_
  refine xj_get d28_6_11 f28_9_2 h_a (by omega) (show a < M.1 by omega) rfl ?_
  refine xj_gets (v := .ref 1) hZ d28_6_14 w57 ?_
  refine xj_acmp_eq1 (tgt := 45) d28_6_17 rfl ?_
  refine xj_aload_n (i := 0) d28_6_45 rfl rfl ?_
  refine xj_bipush (v := 10) d28_6_46 (by decide) ?_
  refine xj_iload_n (i := 1) d28_6_48 rfl rfl ?_
  refine xj_max d28_6_49 w222 w186 w10 w187 (by omega) (Nat.le_of_ble_eq_true rfl) (by omega) (by omega) ?_
  show XJ _ _ _ _ _ _ _ _ _ (.int 10 :: _) _ _
  refine xj_anew (N := 10) (t := 4) (na := n) d28_6_52 w223 w216 (by decide) rfl (by decide) (by decide) (by decide) (show M.1 = n by omega) (by omega) (by omega) ?_
  refine xj_abs_push (show M.1 = n by omega) (fun M1 hs1 ha1 ho1 => ?_)
  refine xj_dup_x1 d28_6_55 rfl rfl ?_
  refine xj_put (a := a) (fs' := [.ref n, .int 0, .int mo]) d28_6_56 f28_9_2 ((ho1 a (by omega)).trans h_a) (by omega) (show a < M1.1 by omega) (Nat.le_of_ble_eq_true rfl) rfl rfl rfl ?_
  refine xj_abs_set (fun M2 hs2 ha2 ho2 => ?_)
  exact xj_ret d28_6_59 (by omega) (by omega) rfl ⟨rfl, (show M2.1 = n + 1 by omega), (fun j hj hj0 => ((ho2 j (by omega)).trans (ho1 j (by omega)))), ha2, ((ho2 n (by omega)).trans ha1)⟩
set_option maxRecDepth 20000 in
theorem cGrowA {G : xG} (hg : xGood G) (hZ : va_Z "java/util/ArrayList" "DEFAULTCAPACITY_EMPTY_ELEMENTDATA" "[Ljava/lang/Object;" (.ref (xa G 1)) (fun q => (xs G).heap.size ≤ q) (xs G) (xs G).heap) (hT : va_T (.object "java/lang/Object") (xa G 1) 0 (fun _ => .null) (fun q => (xs G).heap.size ≤ q) (xs G) (xs G).heap) {M : xM} {n : Nat} (hn : M.1 = n) (hx : xn ≤ n) {a : Nat} {mo : Int32} (h1_a : xn ≤ a) (h2_a : a < n) (h_a : M.2 a = (.inr (2, [.ref 1, .int 0, .int mo]))) : XC G Y28_7 (some (.array (.object "java/lang/Object"))) 2 1 10 [.ref a] M (fun v M' => v = some (.ref n) ∧ M'.1 = n + 1 ∧ (∀ j, j < n → j ≠ a → M'.2 j = M.2 j) ∧ M'.2 a = (.inr (2, [.ref n, .int 0, .int mo])) ∧ M'.2 n = (.inl (4, 10, .inr (.inr (.inr (.inr (fun _ => none))))))) := by
  refine xc_of hg (by decide) (Nat.le_of_ble_eq_true rfl) (Or.inr (Or.inr (Or.inr (Or.inr (Or.inr ⟨⟨_, rfl, Or.inr ⟨_, rfl⟩⟩, rfl, fun v M' h => Or.inr ⟨_, h.1⟩⟩))))) ?_
  refine xj_aload_n (i := 0) d28_7_0 rfl rfl ?_
  refine xj_aload_n (i := 0) d28_7_1 rfl rfl ?_
  refine xj_get d28_7_2 f28_48_2 h_a (by omega) (show a < M.1 by omega) rfl ?_
  refine xj_iconst (v := 1) d28_7_5 (by decide) ?_
  refine xj_iadd (v := 1) d28_7_6 (by decide) ?_
  refine xj_callV (rest := []) (As := [.int 1]) (b := a) (cGrow0 hg hZ hT (M := M) (n := n) (a := a) (mo := mo) (show M.1 = n by omega) (by omega) (by omega) (by omega) h_a) d28_7_7 wd28_6 h_a (by omega) (show a < M.1 by omega) rfl s28_6 w180 (Or.inl w178) rfl rfl (Nat.le_of_ble_eq_true rfl) (by omega) (by omega) (by omega) ?_
  rintro v M1 ⟨rfl, hs1, ho1, hf1_0, hf1_1⟩
  replace hs1 : M1.1 = n + 1 := hs1
  replace hf1_0 : M1.2 a = (.inr (2, [.ref n, .int 0, .int mo])) := hf1_0
  replace hf1_1 : M1.2 n = (.inl (4, 10, .inr (.inr (.inr (.inr (fun _ => none)))))) := hf1_1
  exact xj_ret d28_7_10 (by omega) (by omega) rfl ⟨rfl, (show M1.1 = n + 1 by omega), (fun j hj hj0 => (ho1 j (by omega) (by omega))), hf1_0, hf1_1⟩
set_option maxRecDepth 20000 in
theorem cAdd0 {G : xG} (hg : xGood G) (hZ : va_Z "java/util/ArrayList" "DEFAULTCAPACITY_EMPTY_ELEMENTDATA" "[Ljava/lang/Object;" (.ref (xa G 1)) (fun q => (xs G).heap.size ≤ q) (xs G) (xs G).heap) (hT : va_T (.object "java/lang/Object") (xa G 1) 0 (fun _ => .null) (fun q => (xs G).heap.size ≤ q) (xs G) (xs G).heap) {M : xM} {n : Nat} (hn : M.1 = n) (hx : xn ≤ n) {a : Nat} {mo : Int32} {b : Nat} {bc_b : Nat} {bf_b : List Value} {bC_b : String} {bT_b : u_T} {bN_b : Nat} (h1_a : xn ≤ a) (h2_a : a < n) (h_a : M.2 a = (.inr (2, [.ref 1, .int 0, .int mo]))) (h1_b : xn ≤ b) (h2_b : b < n) (h_b : M.2 b = (.inr (bc_b, bf_b))) (hab : a ≠ b) (hc_b : vwCl[bc_b]? = some (bC_b, bT_b, bN_b)) (hA_b : xAsg bC_b "java/lang/Object") : XC G Y28_24 none 3 1 10 [.ref a, .ref b, .ref 1, .int 0] M (fun v M' => v = none ∧ M'.1 = n + 1 ∧ (∀ j, j < n → j ≠ a → M'.2 j = M.2 j) ∧ M'.2 a = (.inr (2, [.ref n, .int 1, .int mo])) ∧ M'.2 n = (.inl (4, 10, .inr (.inr (.inr (.inr (va_up (fun _ => none) 0 (some b)))))))) := by
  refine xc_of hg (by decide) (Nat.le_of_ble_eq_true rfl) (Or.inr (Or.inr (Or.inr (Or.inr (Or.inl ⟨rfl, rfl, fun v M' h => h.1⟩))))) ?_
  refine xj_iload_n (i := 3) d28_24_0 rfl rfl ?_
  refine xj_aload_n (i := 2) d28_24_1 rfl rfl ?_
  refine xj_tlen hT d28_24_2 ?_
  refine xj_icmp_ne (tgt := 11) d28_24_3 rfl (fun h => absurd rfl h) (fun _ => ?_)
  refine xj_aload_n (i := 0) d28_24_6 rfl rfl ?_
  refine xj_callV (rest := []) (As := []) (b := a) (cGrowA hg hZ hT (M := M) (n := n) (a := a) (mo := mo) (show M.1 = n by omega) (by omega) (by omega) (by omega) h_a) d28_24_7 wd28_7 h_a (by omega) (show a < M.1 by omega) rfl s28_7 w176 (Or.inl w174) rfl rfl (Nat.le_of_ble_eq_true rfl) (by omega) (by omega) (by omega) ?_
  rintro v M1 ⟨rfl, hs1, ho1, hf1_0, hf1_1⟩
  replace hs1 : M1.1 = n + 1 := hs1
  replace hf1_0 : M1.2 a = (.inr (2, [.ref n, .int 0, .int mo])) := hf1_0
  replace hf1_1 : M1.2 n = (.inl (4, 10, .inr (.inr (.inr (.inr (fun _ => none)))))) := hf1_1
  refine xj_astore_n (i := 2) (L' := [(2, .ref n), (0, .ref a), (1, .ref b), (3, .int 0)]) d28_24_10 rfl (by decide) rfl ?_
  refine xj_aload_n (i := 2) d28_24_11 rfl rfl ?_
  refine xj_iload_n (i := 3) d28_24_12 rfl rfl ?_
  refine xj_aload_n (i := 1) d28_24_13 rfl rfl ?_
  refine xj_aastore (j := 0) d28_24_14 hf1_1 (by decide) rfl (by omega) (show n < M1.1 by omega) (vp_in_iff.mpr (by decide)) (by decide) ((ho1 b (by omega) (by omega)).trans h_b) (by omega) (show b < M1.1 by omega) hc_b hA_b ?_
  refine xj_abs_set (fun M2 hs2 ha2 ho2 => ?_)
  refine xj_aload_n (i := 0) d28_24_15 rfl rfl ?_
  refine xj_iload_n (i := 3) d28_24_16 rfl rfl ?_
  refine xj_iconst (v := 1) d28_24_17 (by decide) ?_
  refine xj_iadd (v := 1) d28_24_18 (by decide) ?_
  refine xj_put (a := a) (fs' := [.ref n, .int 1, .int mo]) d28_24_19 f28_48_2 ((ho2 a (by omega)).trans hf1_0) (by omega) (show a < M2.1 by omega) (Nat.le_of_ble_eq_true rfl) rfl rfl rfl ?_
  refine xj_abs_set (fun M3 hs3 ha3 ho3 => ?_)
  exact xj_ret d28_24_22 (by omega) (by omega) rfl ⟨rfl, (show M3.1 = n + 1 by omega), (fun j hj hj0 => ((ho3 j (by omega)).trans ((ho2 j (by omega)).trans (ho1 j (by omega) (by omega))))), ha3, ((ho3 n (by omega)).trans ha2)⟩
set_option maxRecDepth 20000 in
theorem cAddZ0 {G : xG} (hg : xGood G) (hZ : va_Z "java/util/ArrayList" "DEFAULTCAPACITY_EMPTY_ELEMENTDATA" "[Ljava/lang/Object;" (.ref (xa G 1)) (fun q => (xs G).heap.size ≤ q) (xs G) (xs G).heap) (hT : va_T (.object "java/lang/Object") (xa G 1) 0 (fun _ => .null) (fun q => (xs G).heap.size ≤ q) (xs G) (xs G).heap) {M : xM} {n : Nat} (hn : M.1 = n) (hx : xn ≤ n) {a : Nat} {mo : Int32} {b : Nat} {bc_b : Nat} {bf_b : List Value} {bC_b : String} {bT_b : u_T} {bN_b : Nat} (h1_a : xn ≤ a) (h2_a : a < n) (h_a : M.2 a = (.inr (2, [.ref 1, .int 0, .int mo]))) (h1_b : xn ≤ b) (h2_b : b < n) (h_b : M.2 b = (.inr (bc_b, bf_b))) (hab : a ≠ b) (hc_b : vwCl[bc_b]? = some (bC_b, bT_b, bN_b)) (hA_b : xAsg bC_b "java/lang/Object") : XC G Y28_25 (some .boolean) 4 1 10 [.ref a, .ref b] M (fun v M' => v = some (.int 1) ∧ M'.1 = n + 1 ∧ (∀ j, j < n → j ≠ a → M'.2 j = M.2 j) ∧ M'.2 a = (.inr (2, [.ref n, .int 1, .int (mo + 1)])) ∧ M'.2 n = (.inl (4, 10, .inr (.inr (.inr (.inr (va_up (fun _ => none) 0 (some b)))))))) := by
  refine xc_of hg (by decide) (Nat.le_of_ble_eq_true rfl) (Or.inr (Or.inl ⟨rfl, rfl, fun v M' h => ⟨_, h.1, Or.inr rfl⟩⟩)) ?_
  refine xj_aload_n (i := 0) d28_25_0 rfl rfl ?_
  refine xj_dup d28_25_1 rfl ?_
  refine xj_get d28_25_2 f28_63_2 h_a (by omega) (show a < M.1 by omega) rfl ?_
  refine xj_iconst (v := 1) d28_25_5 (by decide) ?_
  refine xj_iadd (v := mo + 1) d28_25_6 rfl ?_
  refine xj_put (a := a) (fs' := [.ref 1, .int 0, .int (mo + 1)]) d28_25_7 f28_63_2 h_a (by omega) (show a < M.1 by omega) (Nat.le_of_ble_eq_true rfl) rfl rfl rfl ?_
  refine xj_abs_set (fun M1 hs1 ha1 ho1 => ?_)
  refine xj_aload_n (i := 0) d28_25_10 rfl rfl ?_
  refine xj_aload_n (i := 1) d28_25_11 rfl rfl ?_
  refine xj_aload_n (i := 0) d28_25_12 rfl rfl ?_
  refine xj_get d28_25_13 f28_9_2 ha1 (by omega) (show a < M1.1 by omega) rfl ?_
  refine xj_aload_n (i := 0) d28_25_16 rfl rfl ?_
  refine xj_get d28_25_17 f28_48_2 ha1 (by omega) (show a < M1.1 by omega) rfl ?_
  refine xj_callV (rest := []) (As := [.ref b, .ref 1, .int 0]) (b := a) (cAdd0 hg hZ hT (M := M1) (n := n) (a := a) (mo := mo + 1) (b := b) (bc_b := bc_b) (bf_b := bf_b) (bC_b := bC_b) (bT_b := bT_b) (bN_b := bN_b) (show M1.1 = n by omega) (by omega) (by omega) (by omega) ha1 (by omega) (by omega) ((ho1 b (by omega)).trans h_b) (by omega) hc_b hA_b) d28_25_20 wd28_24 ha1 (by omega) (show a < M1.1 by omega) rfl s28_24 w172 (Or.inl w170) rfl rfl (Nat.le_of_ble_eq_true rfl) (by omega) (by omega) (by omega) ?_
  rintro v M2 ⟨rfl, hs2, ho2, hf2_0, hf2_1⟩
  replace hs2 : M2.1 = n + 1 := hs2
  replace hf2_0 : M2.2 a = (.inr (2, [.ref n, .int 1, .int (mo + 1)])) := hf2_0
  replace hf2_1 : M2.2 n = (.inl (4, 10, .inr (.inr (.inr (.inr (va_up (fun _ => none) 0 (some b))))))) := hf2_1
  refine xj_iconst (v := 1) d28_25_23 (by decide) ?_
  exact xj_ret d28_25_24 (by omega) (by omega) rfl ⟨rfl, (show M2.1 = n + 1 by omega), (fun j hj hj0 => ((ho2 j (by omega) (by omega)).trans (ho1 j (by omega)))), hf2_0, hf2_1⟩
set_option maxRecDepth 20000 in
theorem cBegin0 {G : xG} (hg : xGood G) (hZ : va_Z "java/util/ArrayList" "DEFAULTCAPACITY_EMPTY_ELEMENTDATA" "[Ljava/lang/Object;" (.ref (xa G 1)) (fun q => (xs G).heap.size ≤ q) (xs G) (xs G).heap) (hT : va_T (.object "java/lang/Object") (xa G 1) 0 (fun _ => .null) (fun q => (xs G).heap.size ≤ q) (xs G) (xs G).heap) {M : xM} {n : Nat} (hn : M.1 = n) (hx : xn ≤ n) {a : Nat} {al : Nat} {mo : Int32} {la : Value} {wo : Value} (h1_a : xn ≤ a) (h2_a : a < n) (h_a : M.2 a = (.inr (5, [.ref al, la, wo]))) (h1_al : xn ≤ al) (h2_al : al < n) (h_al : M.2 al = (.inr (2, [.ref 1, .int 0, .int mo]))) (hne : a ≠ al) : XC G Y5_2 none 6 9 94 [.ref a] M (fun v M' => v = none ∧ M'.1 = n + 9 ∧ (∀ j, j < n → j ≠ a → j ≠ al → M'.2 j = M.2 j) ∧ M'.2 a = (.inr (5, [.ref al, .ref n, wo])) ∧ M'.2 al = (.inr (2, [.ref (n + 8), .int 1, .int (mo + 1)])) ∧ M'.2 n = (.inr (6, [.ref (n + 1), .ref (n + 2), .null])) ∧ M'.2 (n + 1) = (.inr (2, [.ref 1, .int 0, .int 0])) ∧ M'.2 (n + 2) = (.inr (7, [.ref (n + 3), .ref (n + 4), .ref (n + 5), .int 1])) ∧ M'.2 (n + 3) = (.inr (2, [.ref 1, .int 0, .int 0])) ∧ M'.2 (n + 4) = (.inr (2, [.ref 1, .int 0, .int 0])) ∧ M'.2 (n + 5) = (.inr (8, [.ref (n + 6), .ref (n + 7), .int 1])) ∧ M'.2 (n + 6) = (.inl (1, 60, .inl (fun _ => 0))) ∧ M'.2 (n + 7) = (.inl (0, 5, .inl (fun _ => 0))) ∧ M'.2 (n + 8) = (.inl (4, 10, .inr (.inr (.inr (.inr (va_up (fun _ => none) 0 (some n)))))))) := by
  refine xc_of hg (by decide) (Nat.le_of_ble_eq_true rfl) (Or.inr (Or.inr (Or.inr (Or.inr (Or.inl ⟨rfl, rfl, fun v M' h => h.1⟩))))) ?_
  refine xj_aload_n (i := 0) d5_2_0 rfl rfl ?_
  refine xj_new (na := n) d5_2_1 n5_19 (show M.1 = n by omega) (by omega) (by omega) ?_
  refine xj_abs_push (show M.1 = n by omega) (fun M1 hs1 ha1 ho1 => ?_)
  refine xj_dup d5_2_4 rfl ?_
  refine xj_callI (rest := [.ref n, .ref a]) (As := []) (b := n) (cBranch hg hZ hT (M := M1) (n := n + 1) (a := n) (show M1.1 = n + 1 by omega) (by omega) (by omega) (by omega) ha1) d5_2_5 wd3_1 rfl w328 (Or.inr ⟨_, w327⟩) rfl rfl (Nat.le_of_ble_eq_true rfl) (by omega) (by omega) (by omega) ?_
  rintro v M2 ⟨rfl, hs2, ho2, hf2_0, hf2_1, hf2_2, hf2_3, hf2_4, hf2_5, hf2_6, hf2_7⟩
  replace hs2 : M2.1 = n + 8 := hs2
  replace hf2_0 : M2.2 n = (.inr (6, [.ref (n + 1), .ref (n + 2), .null])) := hf2_0
  replace hf2_1 : M2.2 (n + 1) = (.inr (2, [.ref 1, .int 0, .int 0])) := hf2_1
  replace hf2_2 : M2.2 (n + 2) = (.inr (7, [.ref (n + 3), .ref (n + 4), .ref (n + 5), .int 1])) := hf2_2
  replace hf2_3 : M2.2 (n + 3) = (.inr (2, [.ref 1, .int 0, .int 0])) := hf2_3
  replace hf2_4 : M2.2 (n + 4) = (.inr (2, [.ref 1, .int 0, .int 0])) := hf2_4
  replace hf2_5 : M2.2 (n + 5) = (.inr (8, [.ref (n + 6), .ref (n + 7), .int 1])) := hf2_5
  replace hf2_6 : M2.2 (n + 6) = (.inl (1, 60, .inl (fun _ => 0))) := hf2_6
  replace hf2_7 : M2.2 (n + 7) = (.inl (0, 5, .inl (fun _ => 0))) := hf2_7
  refine xj_put (a := a) (fs' := [.ref al, .ref n, wo]) d5_2_8 f5_22_5 ((ho2 a (by omega) (by omega)).trans ((ho1 a (by omega)).trans h_a)) (by omega) (show a < M2.1 by omega) (Nat.le_of_ble_eq_true rfl) rfl rfl rfl ?_
  refine xj_abs_set (fun M3 hs3 ha3 ho3 => ?_)
  refine xj_aload_n (i := 0) d5_2_11 rfl rfl ?_
  refine xj_get d5_2_12 f5_10_5 ha3 (by omega) (show a < M3.1 by omega) rfl ?_
  refine xj_aload_n (i := 0) d5_2_15 rfl rfl ?_
  refine xj_get d5_2_16 f5_22_5 ha3 (by omega) (show a < M3.1 by omega) rfl ?_
  refine xj_callV (rest := []) (As := [.ref n]) (b := al) (cAddZ0 hg hZ hT (M := M3) (n := n + 8) (a := al) (mo := mo) (b := n) (bc_b := 6) (bf_b := [.ref (n + 1), .ref (n + 2), .null]) (bC_b := Rc6) (bT_b := Tc6) (bN_b := 3) (show M3.1 = n + 8 by omega) (by omega) (by omega) (by omega) ((ho3 al (by omega)).trans ((ho2 al (by omega) (by omega)).trans ((ho1 al (by omega)).trans h_al))) (by omega) (by omega) ((ho3 n (by omega)).trans hf2_0) (by omega) rfl (Or.inr w1397)) d5_2_19 wd28_25 ((ho3 al (by omega)).trans ((ho2 al (by omega) (by omega)).trans ((ho1 al (by omega)).trans h_al))) (by omega) (show al < M3.1 by omega) rfl w168 w167 (Or.inl w397) rfl rfl (Nat.le_of_ble_eq_true rfl) (by omega) (by omega) (by omega) ?_
  rintro v M4 ⟨rfl, hs4, ho4, hf4_0, hf4_1⟩
  replace hs4 : M4.1 = n + 9 := hs4
  replace hf4_0 : M4.2 al = (.inr (2, [.ref (n + 8), .int 1, .int (mo + 1)])) := hf4_0
  replace hf4_1 : M4.2 (n + 8) = (.inl (4, 10, .inr (.inr (.inr (.inr (va_up (fun _ => none) 0 (some n))))))) := hf4_1
  refine xj_pop d5_2_22 rfl ?_
  exact xj_ret d5_2_23 (by omega) (by omega) rfl ⟨rfl, (show M4.1 = n + 9 by omega), (fun j hj hj0 hj1 => ((ho4 j (by omega) (by omega)).trans ((ho3 j (by omega)).trans ((ho2 j (by omega) (by omega)).trans (ho1 j (by omega)))))), ((ho4 a (by omega) (by omega)).trans ha3), hf4_0, ((ho4 n (by omega) (by omega)).trans ((ho3 n (by omega)).trans hf2_0)), ((ho4 (n + 1) (by omega) (by omega)).trans ((ho3 (n + 1) (by omega)).trans hf2_1)), ((ho4 (n + 2) (by omega) (by omega)).trans ((ho3 (n + 2) (by omega)).trans hf2_2)), ((ho4 (n + 3) (by omega) (by omega)).trans ((ho3 (n + 3) (by omega)).trans hf2_3)), ((ho4 (n + 4) (by omega) (by omega)).trans ((ho3 (n + 4) (by omega)).trans hf2_4)), ((ho4 (n + 5) (by omega) (by omega)).trans ((ho3 (n + 5) (by omega)).trans hf2_5)), ((ho4 (n + 6) (by omega) (by omega)).trans ((ho3 (n + 6) (by omega)).trans hf2_6)), ((ho4 (n + 7) (by omega) (by omega)).trans ((ho3 (n + 7) (by omega)).trans hf2_7)), hf4_1⟩
set_option maxRecDepth 20000 in
theorem cGroup {G : xG} (hg : xGood G) (hZ : va_Z "java/util/ArrayList" "DEFAULTCAPACITY_EMPTY_ELEMENTDATA" "[Ljava/lang/Object;" (.ref (xa G 1)) (fun q => (xs G).heap.size ≤ q) (xs G) (xs G).heap) (hT : va_T (.object "java/lang/Object") (xa G 1) 0 (fun _ => .null) (fun q => (xs G).heap.size ≤ q) (xs G) (xs G).heap) {M : xM} {n : Nat} (hn : M.1 = n) (hx : xn ≤ n) {a : Nat} (h1_a : xn ≤ a) (h2_a : a < n) (h_a : M.2 a = (.inr (5, [.null, .null, .null]))) : XC G Y5_1 none 7 10 97 [.ref a] M (fun v M' => v = none ∧ M'.1 = n + 10 ∧ (∀ j, j < n → j ≠ a → M'.2 j = M.2 j) ∧ M'.2 a = (.inr (5, [.ref n, .ref (n + 1), .null])) ∧ M'.2 n = (.inr (2, [.ref (n + 9), .int 1, .int 1])) ∧ M'.2 (n + 1) = (.inr (6, [.ref (n + 2), .ref (n + 3), .null])) ∧ M'.2 (n + 2) = (.inr (2, [.ref 1, .int 0, .int 0])) ∧ M'.2 (n + 3) = (.inr (7, [.ref (n + 4), .ref (n + 5), .ref (n + 6), .int 1])) ∧ M'.2 (n + 4) = (.inr (2, [.ref 1, .int 0, .int 0])) ∧ M'.2 (n + 5) = (.inr (2, [.ref 1, .int 0, .int 0])) ∧ M'.2 (n + 6) = (.inr (8, [.ref (n + 7), .ref (n + 8), .int 1])) ∧ M'.2 (n + 7) = (.inl (1, 60, .inl (fun _ => 0))) ∧ M'.2 (n + 8) = (.inl (0, 5, .inl (fun _ => 0))) ∧ M'.2 (n + 9) = (.inl (4, 10, .inr (.inr (.inr (.inr (va_up (fun _ => none) 0 (some (n + 1))))))))) := by
  refine xc_of hg (by decide) (Nat.le_of_ble_eq_true rfl) (Or.inr (Or.inr (Or.inr (Or.inr (Or.inl ⟨rfl, rfl, fun v M' h => h.1⟩))))) ?_
  refine xj_aload_n (i := 0) d5_1_0 rfl rfl ?_
  refine xj_callI (rest := []) (As := []) (b := a) (cPart hg (M := M) (n := n) (a := a) (show M.1 = n by omega) (by omega) ) d5_1_1 wd7_1 rfl w316 (Or.inr ⟨_, w315⟩) rfl rfl (Nat.le_of_ble_eq_true rfl) (by omega) (by omega) (by omega) ?_
  rintro v M' ⟨rfl, hm⟩
  subst M'
  refine xj_aload_n (i := 0) d5_1_4 rfl rfl ?_
  refine xj_new (na := n) d5_1_5 n5_7 (show M.1 = n by omega) (by omega) (by omega) ?_
  refine xj_abs_push (show M.1 = n by omega) (fun M1 hs1 ha1 ho1 => ?_)
  refine xj_dup d5_1_8 rfl ?_
  refine xj_callI (rest := [.ref n, .ref a]) (As := []) (b := n) (c28_2 hg hZ hT (M := M1) (n := n + 1) (a := n) (show M1.1 = n + 1 by omega) (by omega) (by omega) (by omega) ha1) d5_1_9 wd28_2 rfl w48 (Or.inl w320) rfl rfl (Nat.le_of_ble_eq_true rfl) (by omega) (by omega) (by omega) ?_
  rintro v M2 ⟨rfl, hs2, ho2, hf2_0⟩
  replace hs2 : M2.1 = n + 1 := hs2
  replace hf2_0 : M2.2 n = (.inr (2, [.ref 1, .int 0, .int 0])) := hf2_0
  refine xj_putF (a := a) (fs' := [.ref n, .null, .null]) d5_1_12 rfl g5_10_5 ((ho2 a (by omega) (by omega)).trans ((ho1 a (by omega)).trans h_a)) (by omega) (show a < M2.1 by omega) (Nat.le_of_ble_eq_true rfl) rfl rfl rfl ?_
  refine xj_abs_set (fun M3 hs3 ha3 ho3 => ?_)
  refine xj_aload_n (i := 0) d5_1_15 rfl rfl ?_
  refine xj_callV (rest := []) (As := []) (b := a) (cBegin0 hg hZ hT (M := M3) (n := n + 1) (a := a) (al := n) (mo := 0) (la := .null) (wo := .null) (show M3.1 = n + 1 by omega) (by omega) (by omega) (by omega) ha3 (by omega) (by omega) ((ho3 n (by omega)).trans hf2_0) (by omega)) d5_1_16 wd5_2 ha3 (by omega) (show a < M3.1 by omega) rfl w323 w322 (Or.inl w321) rfl rfl (Nat.le_of_ble_eq_true rfl) (by omega) (by omega) (by omega) ?_
  rintro v M4 ⟨rfl, hs4, ho4, hf4_0, hf4_1, hf4_2, hf4_3, hf4_4, hf4_5, hf4_6, hf4_7, hf4_8, hf4_9, hf4_10⟩
  replace hs4 : M4.1 = n + 10 := hs4
  replace hf4_0 : M4.2 a = (.inr (5, [.ref n, .ref (n + 1), .null])) := hf4_0
  replace hf4_1 : M4.2 n = (.inr (2, [.ref (n + 9), .int 1, .int 1])) := hf4_1
  replace hf4_2 : M4.2 (n + 1) = (.inr (6, [.ref (n + 2), .ref (n + 3), .null])) := hf4_2
  replace hf4_3 : M4.2 (n + 2) = (.inr (2, [.ref 1, .int 0, .int 0])) := hf4_3
  replace hf4_4 : M4.2 (n + 3) = (.inr (7, [.ref (n + 4), .ref (n + 5), .ref (n + 6), .int 1])) := hf4_4
  replace hf4_5 : M4.2 (n + 4) = (.inr (2, [.ref 1, .int 0, .int 0])) := hf4_5
  replace hf4_6 : M4.2 (n + 5) = (.inr (2, [.ref 1, .int 0, .int 0])) := hf4_6
  replace hf4_7 : M4.2 (n + 6) = (.inr (8, [.ref (n + 7), .ref (n + 8), .int 1])) := hf4_7
  replace hf4_8 : M4.2 (n + 7) = (.inl (1, 60, .inl (fun _ => 0))) := hf4_8
  replace hf4_9 : M4.2 (n + 8) = (.inl (0, 5, .inl (fun _ => 0))) := hf4_9
  replace hf4_10 : M4.2 (n + 9) = (.inl (4, 10, .inr (.inr (.inr (.inr (va_up (fun _ => none) 0 (some (n + 1)))))))) := hf4_10
  exact xj_ret d5_1_19 (by omega) (by omega) rfl ⟨rfl, (show M4.1 = n + 10 by omega), (fun j hj hj0 => ((ho4 j (by omega) (by omega) (by omega)).trans ((ho3 j (by omega)).trans ((ho2 j (by omega) (by omega)).trans (ho1 j (by omega)))))), hf4_0, hf4_1, hf4_2, hf4_3, hf4_4, hf4_5, hf4_6, hf4_7, hf4_8, hf4_9, hf4_10⟩
set_option maxRecDepth 20000 in
theorem cReader {G : xG} (hg : xGood G) (hZ : va_Z "java/util/ArrayList" "DEFAULTCAPACITY_EMPTY_ELEMENTDATA" "[Ljava/lang/Object;" (.ref (xa G 1)) (fun q => (xs G).heap.size ≤ q) (xs G) (xs G).heap) (hT : va_T (.object "java/lang/Object") (xa G 1) 0 (fun _ => .null) (fun q => (xs G).heap.size ≤ q) (xs G) (xs G).heap) {M : xM} {n : Nat} (hn : M.1 = n) (hx : xn ≤ n) {a : Nat} {pa : Nat} {en : Int32} (h1_a : xn ≤ a) (h2_a : a < n) (h_a : M.2 a = (.inr (4, [.null, .int 0, .null, .int 0, .int 0, .null, .int 0]))) : XC G Y8_1 none 8 12 107 [.ref a, .ref pa, .int en] M (fun v M' => v = none ∧ M'.1 = n + 12 ∧ (∀ j, j < n → j ≠ a → M'.2 j = M.2 j) ∧ M'.2 a = (.inr (4, [.ref n, .int 0, .ref pa, .int en, .int 0, .ref (n + 11), .int 0])) ∧ M'.2 n = (.inr (5, [.ref (n + 1), .ref (n + 2), .null])) ∧ M'.2 (n + 1) = (.inr (2, [.ref (n + 10), .int 1, .int 1])) ∧ M'.2 (n + 2) = (.inr (6, [.ref (n + 3), .ref (n + 4), .null])) ∧ M'.2 (n + 3) = (.inr (2, [.ref 1, .int 0, .int 0])) ∧ M'.2 (n + 4) = (.inr (7, [.ref (n + 5), .ref (n + 6), .ref (n + 7), .int 1])) ∧ M'.2 (n + 5) = (.inr (2, [.ref 1, .int 0, .int 0])) ∧ M'.2 (n + 6) = (.inr (2, [.ref 1, .int 0, .int 0])) ∧ M'.2 (n + 7) = (.inr (8, [.ref (n + 8), .ref (n + 9), .int 1])) ∧ M'.2 (n + 8) = (.inl (1, 60, .inl (fun _ => 0))) ∧ M'.2 (n + 9) = (.inl (0, 5, .inl (fun _ => 0))) ∧ M'.2 (n + 10) = (.inl (4, 10, .inr (.inr (.inr (.inr (va_up (fun _ => none) 0 (some (n + 2)))))))) ∧ M'.2 (n + 11) = (.inl (6, 7, .inr (.inr (.inr (.inr (va_up (fun _ => none) 0 (some n)))))))) := by
  refine xc_of hg (by decide) (Nat.le_of_ble_eq_true rfl) (Or.inr (Or.inr (Or.inr (Or.inr (Or.inl ⟨rfl, rfl, fun v M' h => h.1⟩))))) ?_
  refine xj_aload_n (i := 0) d8_1_0 rfl rfl ?_
  refine xj_obj d8_1_1 w309 w35 w36 (by omega) (Nat.le_of_ble_eq_true rfl) ?_
  refine xj_aload_n (i := 0) d8_1_4 rfl rfl ?_
  refine xj_new (na := n) d8_1_5 n8_9 (show M.1 = n by omega) (by omega) (by omega) ?_
  refine xj_abs_push (show M.1 = n by omega) (fun M1 hs1 ha1 ho1 => ?_)
  refine xj_dup d8_1_8 rfl ?_
  refine xj_callI (rest := [.ref n, .ref a]) (As := []) (b := n) (cGroup hg hZ hT (M := M1) (n := n + 1) (a := n) (show M1.1 = n + 1 by omega) (by omega) (by omega) (by omega) ha1) d8_1_9 wd5_1 rfl w313 (Or.inl w312) rfl rfl (Nat.le_of_ble_eq_true rfl) (by omega) (by omega) (by omega) ?_
  rintro v M2 ⟨rfl, hs2, ho2, hf2_0, hf2_1, hf2_2, hf2_3, hf2_4, hf2_5, hf2_6, hf2_7, hf2_8, hf2_9, hf2_10⟩
  replace hs2 : M2.1 = n + 11 := hs2
  replace hf2_0 : M2.2 n = (.inr (5, [.ref (n + 1), .ref (n + 2), .null])) := hf2_0
  replace hf2_1 : M2.2 (n + 1) = (.inr (2, [.ref (n + 10), .int 1, .int 1])) := hf2_1
  replace hf2_2 : M2.2 (n + 2) = (.inr (6, [.ref (n + 3), .ref (n + 4), .null])) := hf2_2
  replace hf2_3 : M2.2 (n + 3) = (.inr (2, [.ref 1, .int 0, .int 0])) := hf2_3
  replace hf2_4 : M2.2 (n + 4) = (.inr (7, [.ref (n + 5), .ref (n + 6), .ref (n + 7), .int 1])) := hf2_4
  replace hf2_5 : M2.2 (n + 5) = (.inr (2, [.ref 1, .int 0, .int 0])) := hf2_5
  replace hf2_6 : M2.2 (n + 6) = (.inr (2, [.ref 1, .int 0, .int 0])) := hf2_6
  replace hf2_7 : M2.2 (n + 7) = (.inr (8, [.ref (n + 8), .ref (n + 9), .int 1])) := hf2_7
  replace hf2_8 : M2.2 (n + 8) = (.inl (1, 60, .inl (fun _ => 0))) := hf2_8
  replace hf2_9 : M2.2 (n + 9) = (.inl (0, 5, .inl (fun _ => 0))) := hf2_9
  replace hf2_10 : M2.2 (n + 10) = (.inl (4, 10, .inr (.inr (.inr (.inr (va_up (fun _ => none) 0 (some (n + 2)))))))) := hf2_10
  refine xj_putF (a := a) (fs' := [.ref n, .int 0, .null, .int 0, .int 0, .null, .int 0]) d8_1_12 rfl g8_12_4 ((ho2 a (by omega) (by omega)).trans ((ho1 a (by omega)).trans h_a)) (by omega) (show a < M2.1 by omega) (Nat.le_of_ble_eq_true rfl) rfl rfl rfl ?_
  refine xj_abs_set (fun M3 hs3 ha3 ho3 => ?_)
  refine xj_aload_n (i := 0) d8_1_15 rfl rfl ?_
  refine xj_bipush (v := 7) d8_1_16 (by decide) ?_
  refine xj_anew (N := 7) (t := 6) (na := n + 11) d8_1_18 w310 w407 (by decide) rfl (by decide) (by decide) (by decide) (show M3.1 = n + 11 by omega) (by omega) (by omega) ?_
  refine xj_abs_push (show M3.1 = n + 11 by omega) (fun M4 hs4 ha4 ho4 => ?_)
  refine xj_putF (a := a) (fs' := [.ref n, .int 0, .null, .int 0, .int 0, .ref (n + 11), .int 0]) d8_1_21 rfl g8_18_4 ((ho4 a (by omega)).trans ha3) (by omega) (show a < M4.1 by omega) (Nat.le_of_ble_eq_true rfl) rfl rfl rfl ?_
  refine xj_abs_set (fun M5 hs5 ha5 ho5 => ?_)
  refine xj_aload_n (i := 0) d8_1_24 rfl rfl ?_
  refine xj_aload_n (i := 1) d8_1_25 rfl rfl ?_
  refine xj_putF (a := a) (fs' := [.ref n, .int 0, .ref pa, .int 0, .int 0, .ref (n + 11), .int 0]) d8_1_26 rfl g8_22_4 ha5 (by omega) (show a < M5.1 by omega) (Nat.le_of_ble_eq_true rfl) rfl rfl rfl ?_
  refine xj_abs_set (fun M6 hs6 ha6 ho6 => ?_)
  refine xj_aload_n (i := 0) d8_1_29 rfl rfl ?_
  refine xj_iload_n (i := 2) d8_1_30 rfl rfl ?_
  refine xj_putF (a := a) (fs' := [.ref n, .int 0, .ref pa, .int en, .int 0, .ref (n + 11), .int 0]) d8_1_31 rfl g8_26_4 ha6 (by omega) (show a < M6.1 by omega) (Nat.le_of_ble_eq_true rfl) rfl rfl rfl ?_
  refine xj_abs_set (fun M7 hs7 ha7 ho7 => ?_)
  refine xj_aload_n (i := 0) d8_1_34 rfl rfl ?_
  refine xj_get d8_1_35 f8_18_4 ha7 (by omega) (show a < M7.1 by omega) rfl ?_
  refine xj_iconst (v := 0) d8_1_38 (by decide) ?_
  refine xj_aload_n (i := 0) d8_1_39 rfl rfl ?_
  refine xj_get d8_1_40 f8_12_4 ha7 (by omega) (show a < M7.1 by omega) rfl ?_
  refine xj_aastore (j := 0) d8_1_43 ((ho7 (n + 11) (by omega)).trans ((ho6 (n + 11) (by omega)).trans ((ho5 (n + 11) (by omega)).trans ha4))) (by decide) rfl (by omega) (show n + 11 < M7.1 by omega) (vp_in_iff.mpr (by decide)) (by decide) ((ho7 n (by omega)).trans ((ho6 n (by omega)).trans ((ho5 n (by omega)).trans ((ho4 n (by omega)).trans ((ho3 n (by omega)).trans hf2_0))))) (by omega) (show n < M7.1 by omega) rfl (Or.inl rfl) ?_
  refine xj_abs_set (fun M8 hs8 ha8 ho8 => ?_)
  exact xj_ret d8_1_44 (by omega) (by omega) rfl ⟨rfl, (show M8.1 = n + 12 by omega), (fun j hj hj0 => ((ho8 j (by omega)).trans ((ho7 j (by omega)).trans ((ho6 j (by omega)).trans ((ho5 j (by omega)).trans ((ho4 j (by omega)).trans ((ho3 j (by omega)).trans ((ho2 j (by omega) (by omega)).trans (ho1 j (by omega)))))))))), ((ho8 a (by omega)).trans ha7), ((ho8 n (by omega)).trans ((ho7 n (by omega)).trans ((ho6 n (by omega)).trans ((ho5 n (by omega)).trans ((ho4 n (by omega)).trans ((ho3 n (by omega)).trans hf2_0)))))), ((ho8 (n + 1) (by omega)).trans ((ho7 (n + 1) (by omega)).trans ((ho6 (n + 1) (by omega)).trans ((ho5 (n + 1) (by omega)).trans ((ho4 (n + 1) (by omega)).trans ((ho3 (n + 1) (by omega)).trans hf2_1)))))), ((ho8 (n + 2) (by omega)).trans ((ho7 (n + 2) (by omega)).trans ((ho6 (n + 2) (by omega)).trans ((ho5 (n + 2) (by omega)).trans ((ho4 (n + 2) (by omega)).trans ((ho3 (n + 2) (by omega)).trans hf2_2)))))), ((ho8 (n + 3) (by omega)).trans ((ho7 (n + 3) (by omega)).trans ((ho6 (n + 3) (by omega)).trans ((ho5 (n + 3) (by omega)).trans ((ho4 (n + 3) (by omega)).trans ((ho3 (n + 3) (by omega)).trans hf2_3)))))), ((ho8 (n + 4) (by omega)).trans ((ho7 (n + 4) (by omega)).trans ((ho6 (n + 4) (by omega)).trans ((ho5 (n + 4) (by omega)).trans ((ho4 (n + 4) (by omega)).trans ((ho3 (n + 4) (by omega)).trans hf2_4)))))), ((ho8 (n + 5) (by omega)).trans ((ho7 (n + 5) (by omega)).trans ((ho6 (n + 5) (by omega)).trans ((ho5 (n + 5) (by omega)).trans ((ho4 (n + 5) (by omega)).trans ((ho3 (n + 5) (by omega)).trans hf2_5)))))), ((ho8 (n + 6) (by omega)).trans ((ho7 (n + 6) (by omega)).trans ((ho6 (n + 6) (by omega)).trans ((ho5 (n + 6) (by omega)).trans ((ho4 (n + 6) (by omega)).trans ((ho3 (n + 6) (by omega)).trans hf2_6)))))), ((ho8 (n + 7) (by omega)).trans ((ho7 (n + 7) (by omega)).trans ((ho6 (n + 7) (by omega)).trans ((ho5 (n + 7) (by omega)).trans ((ho4 (n + 7) (by omega)).trans ((ho3 (n + 7) (by omega)).trans hf2_7)))))), ((ho8 (n + 8) (by omega)).trans ((ho7 (n + 8) (by omega)).trans ((ho6 (n + 8) (by omega)).trans ((ho5 (n + 8) (by omega)).trans ((ho4 (n + 8) (by omega)).trans ((ho3 (n + 8) (by omega)).trans hf2_8)))))), ((ho8 (n + 9) (by omega)).trans ((ho7 (n + 9) (by omega)).trans ((ho6 (n + 9) (by omega)).trans ((ho5 (n + 9) (by omega)).trans ((ho4 (n + 9) (by omega)).trans ((ho3 (n + 9) (by omega)).trans hf2_9)))))), ((ho8 (n + 10) (by omega)).trans ((ho7 (n + 10) (by omega)).trans ((ho6 (n + 10) (by omega)).trans ((ho5 (n + 10) (by omega)).trans ((ho4 (n + 10) (by omega)).trans ((ho3 (n + 10) (by omega)).trans hf2_10)))))), ha8⟩
set_option maxRecDepth 20000 in
theorem cTL {G : xG} (hg : xGood G) (hZ : va_Z "java/util/ArrayList" "DEFAULTCAPACITY_EMPTY_ELEMENTDATA" "[Ljava/lang/Object;" (.ref (xa G 1)) (fun q => (xs G).heap.size ≤ q) (xs G) (xs G).heap) (hT : va_T (.object "java/lang/Object") (xa G 1) 0 (fun _ => .null) (fun q => (xs G).heap.size ≤ q) (xs G) (xs G).heap) {M : xM} {n : Nat} (hn : M.1 = n) (hx : xn ≤ n) {a : Nat} (h1_a : xn ≤ a) (h2_a : a < n) (h_a : M.2 a = (.inr (0, [.null, .int 0, .null, .int 0, .null, .null, .int 0, .null, .null, .int 0, .null, .int 0, .int 0]))) : XC G Y1_1 none 5 7 492 [.ref a] M (fun v M' => v = none ∧ M'.1 = n + 7 ∧ (∀ j, j < n → j ≠ a → M'.2 j = M.2 j) ∧ M'.2 a = (.inr (0, [.ref n, .int 0, .ref (n + 1), .int 0, .null, .ref (n + 2), .int 0, .ref (n + 3), .ref (n + 5), .int 0, .ref (n + 6), .int 0, .int 0])) ∧ M'.2 n = (.inl (1, 40, .inl (fun _ => 0))) ∧ M'.2 (n + 1) = (.inl (1, 24, .inl (fun _ => 0))) ∧ M'.2 (n + 2) = (.inl (5, 10, .inr (.inr (.inr (.inr (fun _ => none)))))) ∧ M'.2 (n + 3) = (.inr (1, [.int 0, .ref (n + 4)])) ∧ M'.2 (n + 4) = (.inr (2, [.ref 1, .int 0, .int 0])) ∧ M'.2 (n + 5) = (.inr (2, [.ref 1, .int 0, .int 0])) ∧ M'.2 (n + 6) = (.inl (0, 410, .inl (fun _ => 0)))) := by
  refine xc_of hg (by decide) (Nat.le_of_ble_eq_true rfl) (Or.inr (Or.inr (Or.inr (Or.inr (Or.inl ⟨rfl, rfl, fun v M' h => h.1⟩))))) ?_
  refine xj_aload_n (i := 0) d1_1_0 rfl rfl ?_
  refine xj_obj d1_1_1 w34 w35 w36 (by omega) (Nat.le_of_ble_eq_true rfl) ?_
  refine xj_aload_n (i := 0) d1_1_4 rfl rfl ?_
  refine xj_bipush (v := 40) d1_1_5 (by decide) ?_
  refine xj_new_char (N := 40) (na := n) d1_1_7 w71 (by decide) (by decide) (by decide) (show M.1 = n by omega) (by omega) (by omega) ?_
  refine xj_abs_push (show M.1 = n by omega) (fun M1 hs1 ha1 ho1 => ?_)
  refine xj_putF (a := a) (fs' := [.ref n, .int 0, .null, .int 0, .null, .null, .int 0, .null, .null, .int 0, .null, .int 0, .int 0]) d1_1_9 rfl g1_9_0 ((ho1 a (by omega)).trans h_a) (by omega) (show a < M1.1 by omega) (Nat.le_of_ble_eq_true rfl) rfl rfl rfl ?_
  refine xj_abs_set (fun M2 hs2 ha2 ho2 => ?_)
  refine xj_aload_n (i := 0) d1_1_12 rfl rfl ?_
  refine xj_bipush (v := 24) d1_1_13 (by decide) ?_
  refine xj_new_char (N := 24) (na := n + 1) d1_1_15 w71 (by decide) (by decide) (by decide) (show M2.1 = n + 1 by omega) (by omega) (by omega) ?_
  refine xj_abs_push (show M2.1 = n + 1 by omega) (fun M3 hs3 ha3 ho3 => ?_)
  refine xj_putF (a := a) (fs' := [.ref n, .int 0, .ref (n + 1), .int 0, .null, .null, .int 0, .null, .null, .int 0, .null, .int 0, .int 0]) d1_1_17 rfl g1_13_0 ((ho3 a (by omega)).trans ha2) (by omega) (show a < M3.1 by omega) (Nat.le_of_ble_eq_true rfl) rfl rfl rfl ?_
  refine xj_abs_set (fun M4 hs4 ha4 ho4 => ?_)
  refine xj_aload_n (i := 0) d1_1_20 rfl rfl ?_
  refine xj_bipush (v := 10) d1_1_21 (by decide) ?_
  refine xj_anew (N := 10) (t := 5) (na := n + 2) d1_1_23 w37 w38 (by decide) rfl (by decide) (by decide) (by decide) (show M4.1 = n + 2 by omega) (by omega) (by omega) ?_
  refine xj_abs_push (show M4.1 = n + 2 by omega) (fun M5 hs5 ha5 ho5 => ?_)
  refine xj_putF (a := a) (fs' := [.ref n, .int 0, .ref (n + 1), .int 0, .null, .ref (n + 2), .int 0, .null, .null, .int 0, .null, .int 0, .int 0]) d1_1_26 rfl g1_18_0 ((ho5 a (by omega)).trans ha4) (by omega) (show a < M5.1 by omega) (Nat.le_of_ble_eq_true rfl) rfl rfl rfl ?_
  refine xj_abs_set (fun M6 hs6 ha6 ho6 => ?_)
  refine xj_aload_n (i := 0) d1_1_29 rfl rfl ?_
  refine xj_new (na := n + 3) d1_1_30 n1_22 (show M6.1 = n + 3 by omega) (by omega) (by omega) ?_
  refine xj_abs_push (show M6.1 = n + 3 by omega) (fun M7 hs7 ha7 ho7 => ?_)
  refine xj_dup d1_1_33 rfl ?_
  refine xj_iconst (v := 0) d1_1_34 (by decide) ?_
  refine xj_callI (rest := [.ref (n + 3), .ref a]) (As := [.int 0]) (b := n + 3) (c10_1 hg hZ hT (M := M7) (n := n + 4) (a := n + 3) (lv := 0) (show M7.1 = n + 4 by omega) (by omega) (by omega) (by omega) ha7) d1_1_35 wd10_1 rfl w42 (Or.inl w41) rfl rfl (Nat.le_of_ble_eq_true rfl) (by omega) (by omega) (by omega) ?_
  rintro v M8 ⟨rfl, hs8, ho8, hf8_0, hf8_1⟩
  replace hs8 : M8.1 = n + 5 := hs8
  replace hf8_0 : M8.2 (n + 3) = (.inr (1, [.int 0, .ref (n + 4)])) := hf8_0
  replace hf8_1 : M8.2 (n + 4) = (.inr (2, [.ref 1, .int 0, .int 0])) := hf8_1
  refine xj_put (a := a) (fs' := [.ref n, .int 0, .ref (n + 1), .int 0, .null, .ref (n + 2), .int 0, .ref (n + 3), .null, .int 0, .null, .int 0, .int 0]) d1_1_38 f1_27_0 ((ho8 a (by omega) (by omega)).trans ((ho7 a (by omega)).trans ha6)) (by omega) (show a < M8.1 by omega) (Nat.le_of_ble_eq_true rfl) rfl rfl rfl ?_
  refine xj_abs_set (fun M9 hs9 ha9 ho9 => ?_)
  refine xj_aload_n (i := 0) d1_1_41 rfl rfl ?_
  refine xj_new (na := n + 5) d1_1_42 n1_31 (show M9.1 = n + 5 by omega) (by omega) (by omega) ?_
  refine xj_abs_push (show M9.1 = n + 5 by omega) (fun M10 hs10 ha10 ho10 => ?_)
  refine xj_dup d1_1_45 rfl ?_
  refine xj_callI (rest := [.ref (n + 5), .ref a]) (As := []) (b := n + 5) (c28_2 hg hZ hT (M := M10) (n := n + 6) (a := n + 5) (show M10.1 = n + 6 by omega) (by omega) (by omega) (by omega) ha10) d1_1_46 wd28_2 rfl w48 (Or.inl w81) rfl rfl (Nat.le_of_ble_eq_true rfl) (by omega) (by omega) (by omega) ?_
  rintro v M11 ⟨rfl, hs11, ho11, hf11_0⟩
  replace hs11 : M11.1 = n + 6 := hs11
  replace hf11_0 : M11.2 (n + 5) = (.inr (2, [.ref 1, .int 0, .int 0])) := hf11_0
  refine xj_putF (a := a) (fs' := [.ref n, .int 0, .ref (n + 1), .int 0, .null, .ref (n + 2), .int 0, .ref (n + 3), .ref (n + 5), .int 0, .null, .int 0, .int 0]) d1_1_49 rfl g1_34_0 ((ho11 a (by omega) (by omega)).trans ((ho10 a (by omega)).trans ha9)) (by omega) (show a < M11.1 by omega) (Nat.le_of_ble_eq_true rfl) rfl rfl rfl ?_
  refine xj_abs_set (fun M12 hs12 ha12 ho12 => ?_)
  refine xj_aload_n (i := 0) d1_1_52 rfl rfl ?_
  refine xj_sipush (v := 410) d1_1_53 (by decide) ?_
  refine xj_new_int (N := 410) (na := n + 6) d1_1_56 w122 (by decide) (by decide) (by decide) (show M12.1 = n + 6 by omega) (by omega) (by omega) ?_
  refine xj_abs_push (show M12.1 = n + 6 by omega) (fun M13 hs13 ha13 ho13 => ?_)
  refine xj_putF (a := a) (fs' := [.ref n, .int 0, .ref (n + 1), .int 0, .null, .ref (n + 2), .int 0, .ref (n + 3), .ref (n + 5), .int 0, .ref (n + 6), .int 0, .int 0]) d1_1_58 rfl g1_38_0 ((ho13 a (by omega)).trans ha12) (by omega) (show a < M13.1 by omega) (Nat.le_of_ble_eq_true rfl) rfl rfl rfl ?_
  refine xj_abs_set (fun M14 hs14 ha14 ho14 => ?_)
  exact xj_ret d1_1_61 (by omega) (by omega) rfl ⟨rfl, (show M14.1 = n + 7 by omega), (fun j hj hj0 => ((ho14 j (by omega)).trans ((ho13 j (by omega)).trans ((ho12 j (by omega)).trans ((ho11 j (by omega) (by omega)).trans ((ho10 j (by omega)).trans ((ho9 j (by omega)).trans ((ho8 j (by omega) (by omega)).trans ((ho7 j (by omega)).trans ((ho6 j (by omega)).trans ((ho5 j (by omega)).trans ((ho4 j (by omega)).trans ((ho3 j (by omega)).trans ((ho2 j (by omega)).trans (ho1 j (by omega)))))))))))))))), ha14, ((ho14 n (by omega)).trans ((ho13 n (by omega)).trans ((ho12 n (by omega)).trans ((ho11 n (by omega) (by omega)).trans ((ho10 n (by omega)).trans ((ho9 n (by omega)).trans ((ho8 n (by omega) (by omega)).trans ((ho7 n (by omega)).trans ((ho6 n (by omega)).trans ((ho5 n (by omega)).trans ((ho4 n (by omega)).trans ((ho3 n (by omega)).trans ((ho2 n (by omega)).trans ha1))))))))))))), ((ho14 (n + 1) (by omega)).trans ((ho13 (n + 1) (by omega)).trans ((ho12 (n + 1) (by omega)).trans ((ho11 (n + 1) (by omega) (by omega)).trans ((ho10 (n + 1) (by omega)).trans ((ho9 (n + 1) (by omega)).trans ((ho8 (n + 1) (by omega) (by omega)).trans ((ho7 (n + 1) (by omega)).trans ((ho6 (n + 1) (by omega)).trans ((ho5 (n + 1) (by omega)).trans ((ho4 (n + 1) (by omega)).trans ha3))))))))))), ((ho14 (n + 2) (by omega)).trans ((ho13 (n + 2) (by omega)).trans ((ho12 (n + 2) (by omega)).trans ((ho11 (n + 2) (by omega) (by omega)).trans ((ho10 (n + 2) (by omega)).trans ((ho9 (n + 2) (by omega)).trans ((ho8 (n + 2) (by omega) (by omega)).trans ((ho7 (n + 2) (by omega)).trans ((ho6 (n + 2) (by omega)).trans ha5))))))))), ((ho14 (n + 3) (by omega)).trans ((ho13 (n + 3) (by omega)).trans ((ho12 (n + 3) (by omega)).trans ((ho11 (n + 3) (by omega) (by omega)).trans ((ho10 (n + 3) (by omega)).trans ((ho9 (n + 3) (by omega)).trans hf8_0)))))), ((ho14 (n + 4) (by omega)).trans ((ho13 (n + 4) (by omega)).trans ((ho12 (n + 4) (by omega)).trans ((ho11 (n + 4) (by omega) (by omega)).trans ((ho10 (n + 4) (by omega)).trans ((ho9 (n + 4) (by omega)).trans hf8_1)))))), ((ho14 (n + 5) (by omega)).trans ((ho13 (n + 5) (by omega)).trans ((ho12 (n + 5) (by omega)).trans hf11_0))), ((ho14 (n + 6) (by omega)).trans ha13)⟩
set_option maxRecDepth 20000 in
theorem cSize {G : xG} (hg : xGood G) {M : xM} {n : Nat} (hn : M.1 = n) (hx : xn ≤ n) {a : Nat} {el : Value} {sz : Int32} {mo : Int32} (h1_a : xn ≤ a) (h2_a : a < n) (h_a : M.2 a = (.inr (2, [el, .int sz, .int mo]))) : XC G Y28_8 (some .int) 0 0 0 [.ref a] M (fun v M' => v = some (.int sz) ∧ M' = M) := by
  refine xc_of hg (by decide) (Nat.le_of_ble_eq_true rfl) (Or.inl ⟨rfl, rfl, fun v M' h => ⟨_, h.1⟩⟩) ?_
  refine xj_aload_n (i := 0) d28_8_0 rfl rfl ?_
  refine xj_get d28_8_1 f28_48_2 h_a (by omega) (show a < M.1 by omega) rfl ?_
  exact xj_ret d28_8_4 (by omega) (by omega) rfl ⟨rfl, rfl⟩
set_option maxRecDepth 20000 in
theorem cCount {G : xG} (hg : xGood G) {M : xM} {n : Nat} (hn : M.1 = n) (hx : xn ≤ n) {a : Nat} {l : Nat} {lv : Int32} {el : Value} {sz : Int32} {mo : Int32} (h1_a : xn ≤ a) (h2_a : a < n) (h_a : M.2 a = (.inr (1, [.int lv, .ref l]))) (h1_l : xn ≤ l) (h2_l : l < n) (h_l : M.2 l = (.inr (2, [el, .int sz, .int mo]))) : XC G Y10_4 (some .int) 1 0 0 [.ref a] M (fun v M' => v = some (.int sz) ∧ M' = M) := by
  refine xc_of hg (by decide) (Nat.le_of_ble_eq_true rfl) (Or.inl ⟨rfl, rfl, fun v M' h => ⟨_, h.1⟩⟩) ?_
  refine xj_aload_n (i := 0) d10_4_0 rfl rfl ?_
  refine xj_get d10_4_1 f10_10_1 h_a (by omega) (show a < M.1 by omega) rfl ?_
  refine xj_callV (rest := []) (As := []) (b := l) (cSize hg (M := M) (n := n) (a := l) (el := el) (sz := sz) (mo := mo) (show M.1 = n by omega) (by omega) (by omega) (by omega) h_l) d10_4_4 wd28_8 h_l (by omega) (show l < M.1 by omega) rfl w230 w229 (Or.inl w228) rfl rfl (Nat.le_of_ble_eq_true rfl) (by omega) (by omega) (by omega) ?_
  rintro v M' ⟨rfl, hm⟩
  subst M'
  exact xj_ret d10_4_7 (by omega) (by omega) rfl ⟨rfl, rfl⟩
set_option maxRecDepth 20000 in
theorem cShAdd0 {G : xG} (hg : xGood G) (hZ : va_Z "java/util/ArrayList" "DEFAULTCAPACITY_EMPTY_ELEMENTDATA" "[Ljava/lang/Object;" (.ref (xa G 1)) (fun q => (xs G).heap.size ≤ q) (xs G) (xs G).heap) (hT : va_T (.object "java/lang/Object") (xa G 1) 0 (fun _ => .null) (fun q => (xs G).heap.size ≤ q) (xs G) (xs G).heap) {M : xM} {n : Nat} (hn : M.1 = n) (hx : xn ≤ n) {a : Nat} {l : Nat} {lv : Int32} {mo : Int32} {b : Nat} {bc_b : Nat} {bf_b : List Value} {bC_b : String} {bT_b : u_T} {bN_b : Nat} (h1_a : xn ≤ a) (h2_a : a < n) (h_a : M.2 a = (.inr (1, [.int lv, .ref l]))) (h1_l : xn ≤ l) (h2_l : l < n) (h_l : M.2 l = (.inr (2, [.ref 1, .int 0, .int mo]))) (h1_b : xn ≤ b) (h2_b : b < n) (h_b : M.2 b = (.inr (bc_b, bf_b))) (hab : l ≠ b) (hc_b : vwCl[bc_b]? = some (bC_b, bT_b, bN_b)) (hA_b : xAsg bC_b "java/lang/Object") : XC G Y10_2 none 5 1 10 [.ref a, .ref b] M (fun v M' => v = none ∧ M'.1 = n + 1 ∧ (∀ j, j < n → j ≠ l → M'.2 j = M.2 j) ∧ M'.2 l = (.inr (2, [.ref n, .int 1, .int (mo + 1)])) ∧ M'.2 n = (.inl (4, 10, .inr (.inr (.inr (.inr (va_up (fun _ => none) 0 (some b)))))))) := by
  refine xc_of hg (by decide) (Nat.le_of_ble_eq_true rfl) (Or.inr (Or.inr (Or.inr (Or.inr (Or.inl ⟨rfl, rfl, fun v M' h => h.1⟩))))) ?_
  refine xj_aload_n (i := 0) d10_2_0 rfl rfl ?_
  refine xj_get d10_2_1 f10_10_1 h_a (by omega) (show a < M.1 by omega) rfl ?_
  refine xj_aload_n (i := 1) d10_2_4 rfl rfl ?_
  refine xj_callV (rest := []) (As := [.ref b]) (b := l) (cAddZ0 hg hZ hT (M := M) (n := n) (a := l) (mo := mo) (b := b) (bc_b := bc_b) (bf_b := bf_b) (bC_b := bC_b) (bT_b := bT_b) (bN_b := bN_b) (show M.1 = n by omega) (by omega) (by omega) (by omega) h_l (by omega) (by omega) h_b (by omega) hc_b hA_b) d10_2_5 wd28_25 h_l (by omega) (show l < M.1 by omega) rfl w168 w167 (Or.inl w166) rfl rfl (Nat.le_of_ble_eq_true rfl) (by omega) (by omega) (by omega) ?_
  rintro v M1 ⟨rfl, hs1, ho1, hf1_0, hf1_1⟩
  replace hs1 : M1.1 = n + 1 := hs1
  replace hf1_0 : M1.2 l = (.inr (2, [.ref n, .int 1, .int (mo + 1)])) := hf1_0
  replace hf1_1 : M1.2 n = (.inl (4, 10, .inr (.inr (.inr (.inr (va_up (fun _ => none) 0 (some b))))))) := hf1_1
  refine xj_pop d10_2_8 rfl ?_
  exact xj_ret d10_2_9 (by omega) (by omega) rfl ⟨rfl, (show M1.1 = n + 1 by omega), (fun j hj hj0 => (ho1 j (by omega) (by omega))), hf1_0, hf1_1⟩

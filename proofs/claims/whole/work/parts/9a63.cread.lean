theorem cA_of {rd : Nat} {M0 M : xM} {pl ga : Nat} {fg : Nat → Option Nat} {ow rk ad gA bA : Nat → Nat} {μ : Nat → xMu} {a : Nat} {A : List xNode} {t : List Nat × List Nat} {x : Int32} {lo : Nat → Nat} {a0 : Nat} (hH : cH rd M0 pl ga fg ow rk ad gA bA μ M (a, x, A, t :: [])) (hZp : pZ lo (a0, x, A, t :: [])) : ∃ (rk' : Nat → Nat) (μ' : Nat → xMu), cA M ow rk' (pUp (pUp ad A.length (bA 0)) (A.length + 1) (gA 0)) (fun _ => lk0) μ' ((A ++ [(5, pSum A t.2, t.2, 0, 0, pNo)]) ++ [(6, pSumG (A ++ [(5, pSum A t.2, t.2, 0, 0, pNo)]) (t.1 ++ [A.length]), t.1 ++ [A.length], 0, 0, pNo)]) ∧ rk' 0 = 0 ∧ rk' 1 = 1 := by
  obtain ⟨⟨i1, i2, i3⟩, ⟨r1, r2, r3, r4, r5, r6⟩, ⟨o1, o2, o3⟩, kR, kg, kf, kL, kN⟩ := hH
  obtain ⟨⟨z1, z2, z3⟩, y1, y2⟩ := pZ_Y hZp
  obtain ⟨rk', j1, j2, j3, j4, j5⟩ := cA_end (r := []) (w := pSum A t.2) (w' := pSumG (A ++ [(5, pSum A t.2, t.2, 0, 0, pNo)]) (t.1 ++ [A.length])) (μx := (0, 0, 0, fun _ => 0)) (μy := (0, 0, 0, fun _ => 0)) o2 o3 (kL 0 t (plv_mine (r := []))) kN (by decide) ⟨(y1 t List.mem_cons_self).1, (y1 t List.mem_cons_self).2⟩ (fun i q hq => (y2 i q hq).1)
  have hlen : (A ++ [(5, pSum A t.2, t.2, 0, 0, pNo)]).length = A.length + 1 := by rw [List.length_append, List.length_singleton]
  replace j4 : ∀ (i : Nat) (p : xNode), (A ++ [(5, pSum A t.2, t.2, 0, 0, pNo)])[i]? = some p → cN M ow rk' (pUp ad A.length (bA 0)) (3 * i + 100) (pUp ad A.length (bA 0) i) lk0 (muUp μ A.length (0, 0, 0, fun _ => 0) i) p := j4
  replace j5 : cN M ow rk' (pUp ad A.length (bA 0)) (3 * (A.length + 1) + 100) (gA 0) lk0 (0, 0, 0, fun _ => 0) (6, pSumG (A ++ [(5, pSum A t.2, t.2, 0, 0, pNo)]) (t.1 ++ [A.length]), t.1 ++ [A.length], 0, 0, pNo) := j5
  refine ⟨rk', muUp (muUp μ A.length (0, 0, 0, fun _ => 0)) (A.length + 1) (0, 0, 0, fun _ => 0), ?_, j2, j3⟩
  have h9 := cA_snoc (A := (A ++ [(5, pSum A t.2, t.2, 0, 0, pNo)])) (X := gA 0) (μx := (0, 0, 0, fun _ => 0)) j4 (by rw [hlen]; exact j5) (fun i p hp c hc => ?_) (fun c hc => ?_)
  · rw [hlen] at h9
    exact h9
  · rw [hlen]
    rcases xsnoc_at hp with ⟨q1, q2⟩ | ⟨q1, q2⟩
    · have := (y2 i p q2).1 c hc
      omega
    · rw [q2] at hc
      have := (y1 t List.mem_cons_self).2 c hc
      omega
  · rw [hlen]
    rcases List.mem_append.mp hc with w | w
    · have := (y1 t List.mem_cons_self).1 c w
      omega
    · rw [List.mem_singleton.mp w]
      omega
theorem pEnd_2 (a : Nat) (A : List xNode) (t t2 : List Nat × List Nat) (r : List (List Nat × List Nat)) : pEnd (a, 0, A, t :: t2 :: r) = pFau (a, 0, A, t :: t2 :: r) 2 := (if_neg (fun q => q rfl)).trans (if_pos (by show 1 < r.length + 1 + 1; omega))
theorem pEnd_1 (a : Nat) (A : List xNode) {t : List Nat × List Nat} (h0 : t.2 = []) : pEnd (a, 0, A, t :: []) = pFau (a, 0, A, t :: []) 1 := (if_neg (fun q => q rfl)).trans ((if_neg (by show ¬ 1 < 1; decide)).trans (if_pos h0))
theorem pEnd_0 (a : Nat) (A : List xNode) {t : List Nat × List Nat} (h0 : ¬ t.2 = []) : pEnd (a, 0, A, t :: []) = (a, (if 60 < pSumG (A ++ [(5, pSum A t.2, t.2, 0, 0, pNo)]) (t.1 ++ [A.length]) then 9 else 0), ((A ++ [(5, pSum A t.2, t.2, 0, 0, pNo)]) ++ [(6, pSumG (A ++ [(5, pSum A t.2, t.2, 0, 0, pNo)]) (t.1 ++ [A.length]), t.1 ++ [A.length], 0, 0, pNo)]), (t.1 ++ [A.length], []) :: []) := (if_neg (fun q => q rfl)).trans ((if_neg (by show ¬ 1 < 1; decide)).trans (if_neg h0))
set_option maxRecDepth 20000 in
theorem kFae2 {G : xG} (hg : xGood G) (hxn : xn = 16) {rd : Nat} {M0 M : xM} {pl ga : Nat} {fg : Nat → Option Nat} {ow rk ad gA bA : Nat → Nat} {μ : Nat → xMu} {a : Nat} {A : List xNode} {t t2 : List Nat × List Nat} {r : List (List Nat × List Nat)} {lo : Nat → Nat} {a0 : Nat} (hH : cH rd M0 pl ga fg ow rk ad gA bA μ M (a, 0, A, t :: t2 :: r)) (hZp : pZ lo (a0, 0, A, t :: t2 :: r)) : XC G Y8_3 (some .int) 100 0 0 [.ref rd] M (fun v M' => v = some (.int (pEnd (a, 0, A, t :: t2 :: r)).2.1) ∧ M' = M) := by
  obtain ⟨_, _, bl, p, nd, ⟨rfl, rfl, efg⟩, ⟨b1, b2, b3, b4, b5, b6, b7, b8⟩, ⟨kR, kgs, kgo, kbo⟩, ⟨klp, klb⟩, ⟨og1, og2, og3, og4⟩, ⟨c1, c2, c3, c4, c5, c6, c7, c8, c9, c10, c11, c12⟩, cfr, ⟨n1, n2, n3, n4, n5, n6, n7, n8, n9, n10, n11, n12, n13, n14⟩, oR, ogs⟩ := cH_top hH hxn
  replace kR : M.2 rd = (.inr (4, [.ref (gA 0), .int 0, .ref 18, .int (nI pl), .int (nI a), .ref ga, .int (nI (r.length + 1))])) := kR
  obtain ⟨⟨z1, z2, z3⟩, y1, y2⟩ := pZ_Y hZp
  have z1' : r.length + 1 ≤ 6 := z1
  have hpe : (pEnd (a, 0, A, t :: t2 :: r)).2.1 = 2 := congrArg (fun σ : xSg => σ.2.1) (pEnd_2 a A t t2 r)
  refine xc_of hg (by decide) (Nat.le_of_ble_eq_true rfl) (Or.inl ⟨rfl, rfl, fun v M' h => ⟨_, h.1⟩⟩) ?_
  refine xj_aload_n (i := 0) d8_3_0 rfl rfl ?_
  refine xj_get d8_3_1 f8_47_4 kR (by omega) (show rd < M.1 by omega) rfl ?_
  refine xj_if_le (tgt := 9) d8_3_4 rfl (fun h => absurd h (nI_ge (a := 0) (b := r.length + 1) (by omega) (by omega))) (fun _ => ?_)
  refine xj_iconst (v := 2) d8_3_7 (by decide) ?_
  exact xj_ret d8_3_8 (by omega) (by omega) rfl ⟨by rw [hpe], rfl⟩
set_option maxRecDepth 20000 in
theorem kFae1 {G : xG} (hg : xGood G) (hxn : xn = 16) {rd : Nat} {M0 M : xM} {pl ga : Nat} {fg : Nat → Option Nat} {ow rk ad gA bA : Nat → Nat} {μ : Nat → xMu} {a : Nat} {A : List xNode} {t t2 : List Nat × List Nat} {r : List (List Nat × List Nat)} {lo : Nat → Nat} {a0 : Nat} (hH : cH rd M0 pl ga fg ow rk ad gA bA μ M (a, 0, A, t :: [])) (hZp : pZ lo (a0, 0, A, t :: [])) (h0 : t.2 = []) : XC G Y8_3 (some .int) 100 0 0 [.ref rd] M (fun v M' => v = some (.int (pEnd (a, 0, A, t :: [])).2.1) ∧ M' = M) := by
  obtain ⟨_, _, bl, p, nd, ⟨rfl, rfl, efg⟩, ⟨b1, b2, b3, b4, b5, b6, b7, b8⟩, ⟨kR, kgs, kgo, kbo⟩, ⟨klp, klb⟩, ⟨og1, og2, og3, og4⟩, ⟨c1, c2, c3, c4, c5, c6, c7, c8, c9, c10, c11, c12⟩, cfr, ⟨n1, n2, n3, n4, n5, n6, n7, n8, n9, n10, n11, n12, n13, n14⟩, oR, ogs⟩ := cH_top hH hxn
  replace kR : M.2 rd = (.inr (4, [.ref (gA 0), .int 0, .ref 18, .int (nI pl), .int (nI a), .ref ga, .int 0])) := kR
  replace kgo : M.2 (gA 0) = (.inr (5, [.ref bl, .ref (bA 0), .null])) := kgo
  replace kbo : M.2 (bA 0) = (.inr (6, [.ref p, .ref nd, .null])) := kbo
  replace b2 : gA 0 < M.1 := b2
  replace b1 : 16 ≤ gA 0 := b1
  replace b3 : 16 ≤ bA 0 := b3
  replace b4 : bA 0 < M.1 := b4
  obtain ⟨⟨z1, z2, z3⟩, y1, y2⟩ := pZ_Y hZp
  have kp : ∃ el9 mo9, M.2 p = (.inr (2, [el9, .int 0, .int mo9])) := by
    obtain ⟨el9, mo9, q9, -⟩ := xLs_len klp
    rw [h0] at q9
    exact ⟨el9, mo9, q9⟩
  obtain ⟨el9, mo9, kp⟩ := kp
  have hpe : (pEnd (a, 0, A, t :: [])).2.1 = 1 := congrArg (fun σ : xSg => σ.2.1) (pEnd_1 a A h0)
  refine xc_of hg (by decide) (Nat.le_of_ble_eq_true rfl) (Or.inl ⟨rfl, rfl, fun v M' h => ⟨_, h.1⟩⟩) ?_
  refine xj_aload_n (i := 0) d8_3_0 rfl rfl ?_
  refine xj_get d8_3_1 f8_47_4 kR (by omega) (show rd < M.1 by omega) rfl ?_
  refine xj_if_le (tgt := 9) d8_3_4 rfl (fun _ => ?_) (fun h => absurd (by decide) h)
  refine xj_aload_n (i := 0) d8_3_9 rfl rfl ?_
  refine xj_get d8_3_10 f8_12_4 kR (by omega) (show rd < M.1 by omega) rfl ?_
  refine xj_get d8_3_13 f8_50_5 kgo (by omega) (show gA 0 < M.1 by omega) rfl ?_
  refine xj_callV (rest := []) (As := []) (b := bA 0) (bBare1 hg (M := M) (n := M.1) (b := bA 0) (p := p) (nv := .ref nd) (wv := .null) (el := el9) (mo := mo9) rfl (by omega) (by omega) (by omega) kbo (by omega) (by omega) kp) d8_3_16 wd3_2 kbo (by omega) (show bA 0 < M.1 by omega) rfl w454 w453 (Or.inl w452) rfl rfl (Nat.le_of_ble_eq_true rfl) (by omega) (by omega) (by omega) ?_
  rintro v M' ⟨rfl, hm⟩
  subst M'
  refine xj_if_eq (tgt := 24) d8_3_19 rfl (fun h => absurd h (by decide)) (fun _ => ?_)
  refine xj_iconst (v := 1) d8_3_22 (by decide) ?_
  exact xj_ret d8_3_23 (by omega) (by omega) rfl ⟨by rw [hpe], rfl⟩
set_option maxRecDepth 20000 in
theorem kFae0 {G : xG} (hg : xGood G) (hxn : xn = 16) {rd : Nat} {M0 M : xM} {pl ga : Nat} {fg : Nat → Option Nat} {ow rk ad gA bA : Nat → Nat} {μ : Nat → xMu} {a : Nat} {A : List xNode} {t t2 : List Nat × List Nat} {r : List (List Nat × List Nat)} {lo : Nat → Nat} {a0 : Nat} (hH : cH rd M0 pl ga fg ow rk ad gA bA μ M (a, 0, A, t :: [])) (hZp : pZ lo (a0, 0, A, t :: [])) (h0 : ¬ t.2 = []) : XC G Y8_3 (some .int) 100 0 0 [.ref rd] M (fun v M' => v = some (.int (pEnd (a, 0, A, t :: [])).2.1) ∧ M' = M) := by
  obtain ⟨_, _, bl, p, nd, ⟨rfl, rfl, efg⟩, ⟨b1, b2, b3, b4, b5, b6, b7, b8⟩, ⟨kR, kgs, kgo, kbo⟩, ⟨klp, klb⟩, ⟨og1, og2, og3, og4⟩, ⟨c1, c2, c3, c4, c5, c6, c7, c8, c9, c10, c11, c12⟩, cfr, ⟨n1, n2, n3, n4, n5, n6, n7, n8, n9, n10, n11, n12, n13, n14⟩, oR, ogs⟩ := cH_top hH hxn
  replace kR : M.2 rd = (.inr (4, [.ref (gA 0), .int 0, .ref 18, .int (nI pl), .int (nI a), .ref ga, .int 0])) := kR
  replace kgo : M.2 (gA 0) = (.inr (5, [.ref bl, .ref (bA 0), .null])) := kgo
  replace kbo : M.2 (bA 0) = (.inr (6, [.ref p, .ref nd, .null])) := kbo
  replace b2 : gA 0 < M.1 := b2
  replace b1 : 16 ≤ gA 0 := b1
  replace b3 : 16 ≤ bA 0 := b3
  replace b4 : bA 0 < M.1 := b4
  obtain ⟨⟨z1, z2, z3⟩, y1, y2⟩ := pZ_Y hZp
  obtain ⟨k9, hk9⟩ : ∃ k, t.2.length = k + 1 := ⟨t.2.length - 1, by have : t.2.length ≠ 0 := fun z => h0 (List.eq_nil_of_length_eq_zero z); omega⟩
  obtain ⟨el9, mo9, kp, -⟩ := xLs_len klp
  rw [List.length_map, hk9] at kp
  obtain ⟨rk', μ', hA, -, -⟩ := cA_of hH hZp
  obtain ⟨lo', hO, -, -, hA1, hA2⟩ := pZ_end hZp
  obtain ⟨wt9, hw9⟩ : ∃ w, pSumG (A ++ [(5, pSum A t.2, t.2, 0, 0, pNo)]) (t.1 ++ [A.length]) = w := ⟨_, rfl⟩
  have hq9 : ((A ++ [(5, pSum A t.2, t.2, 0, 0, pNo)]) ++ [(6, pSumG (A ++ [(5, pSum A t.2, t.2, 0, 0, pNo)]) (t.1 ++ [A.length]), t.1 ++ [A.length], 0, 0, pNo)])[A.length + 1]? = some (6, pSumG (A ++ [(5, pSum A t.2, t.2, 0, 0, pNo)]) (t.1 ++ [A.length]), t.1 ++ [A.length], 0, 0, pNo) := by
    rw [List.getElem?_append_right (by rw [List.length_append, List.length_singleton]; exact Nat.le_refl _), List.length_append, List.length_singleton, Nat.sub_self]
    rfl
  have hW0 := kWt hg hxn hA hO (A.length + 1) _ hq9
  have hW : XC G Y5_3 (some .int) 90 0 0 [.ref (gA 0)] M (fun v M' => v = some (.int wt9) ∧ M' = M) := by
    have e1 : (pUp (pUp ad A.length (bA 0)) (A.length + 1) (gA 0)) (A.length + 1) = gA 0 := pUp_s
    rw [e1] at hW0
    rw [← hw9]
    exact xc_wk hW0 (by omega) (Nat.le_refl _) (Nat.le_refl _) (fun v M' h => h)
  have hpe : (pEnd (a, 0, A, t :: [])).2.1 = if 60 < wt9 then 9 else 0 := by
    rw [← hw9]
    exact congrArg (fun σ : xSg => σ.2.1) (pEnd_0 a A h0)
  refine xc_of hg (by decide) (Nat.le_of_ble_eq_true rfl) (Or.inl ⟨rfl, rfl, fun v M' h => ⟨_, h.1⟩⟩) ?_
  refine xj_aload_n (i := 0) d8_3_0 rfl rfl ?_
  refine xj_get d8_3_1 f8_47_4 kR (by omega) (show rd < M.1 by omega) rfl ?_
  refine xj_if_le (tgt := 9) d8_3_4 rfl (fun _ => ?_) (fun h => absurd (by decide) h)
  refine xj_aload_n (i := 0) d8_3_9 rfl rfl ?_
  refine xj_get d8_3_10 f8_12_4 kR (by omega) (show rd < M.1 by omega) rfl ?_
  refine xj_get d8_3_13 f8_50_5 kgo (by omega) (show gA 0 < M.1 by omega) rfl ?_
  refine xj_callV (rest := []) (As := []) (b := bA 0) (bBare0 hg (M := M) (n := M.1) (b := bA 0) (p := p) (nv := .ref nd) (wv := .null) (el := el9) (mo := mo9) (k := k9) rfl (by omega) (by omega) (by omega) kbo (by omega) (by omega) kp (by omega)) d8_3_16 wd3_2 kbo (by omega) (show bA 0 < M.1 by omega) rfl w454 w453 (Or.inl w452) rfl rfl (Nat.le_of_ble_eq_true rfl) (by omega) (by omega) (by omega) ?_
  rintro v M' ⟨rfl, hm⟩
  subst M'
  refine xj_if_eq (tgt := 24) d8_3_19 rfl (fun _ => ?_) (fun h => absurd (by decide) h)
  refine xj_aload_n (i := 0) d8_3_24 rfl rfl ?_
  refine xj_get d8_3_25 f8_12_4 kR (by omega) (show rd < M.1 by omega) rfl ?_
  refine xj_callV (rest := []) (As := []) (b := gA 0) hW d8_3_28 wd5_3 kgo (by omega) (show gA 0 < M.1 by omega) rfl w712 w711 (Or.inl w710) rfl rfl (Nat.le_of_ble_eq_true rfl) (by omega) (by omega) (by omega) ?_
  rintro v M' ⟨rfl, hm⟩
  subst M'
  refine xj_bipush (v := 60) d8_3_31 (by decide) ?_
  refine xj_icmp_le (tgt := 41) d8_3_33 rfl (fun h60 => ?_) (fun h60 => ?_)
  · refine xj_iconst (v := 0) d8_3_41 (by decide) ?_
    exact xj_ret d8_3_42 (by omega) (by omega) rfl ⟨by rw [hpe, if_neg (Int32.not_lt.mpr h60)], rfl⟩
  · refine xj_bipush (v := 9) d8_3_36 (by decide) ?_
    refine xj_goto (tgt := 42) d8_3_38 rfl ?_
    exact xj_ret d8_3_42 (by omega) (by omega) rfl ⟨by rw [hpe, if_pos (Int32.not_le.mp h60)], rfl⟩
theorem kFae {G : xG} (hg : xGood G) (hxn : xn = 16) {rd : Nat} {M0 M : xM} {pl ga : Nat} {fg : Nat → Option Nat} {ow rk ad gA bA : Nat → Nat} {μ : Nat → xMu} {a : Nat} {A : List xNode} {t : List Nat × List Nat} {r : List (List Nat × List Nat)} {lo : Nat → Nat} {a0 : Nat} (hH : cH rd M0 pl ga fg ow rk ad gA bA μ M (a, 0, A, t :: r)) (hZp : pZ lo (a0, 0, A, t :: r)) : XC G Y8_3 (some .int) 100 0 0 [.ref rd] M (fun v M' => v = some (.int (pEnd (a, 0, A, t :: r)).2.1) ∧ M' = M) := by
  cases r with
  | nil =>
    by_cases h0 : t.2 = []
    · exact kFae1 (t2 := t) (r := []) hg hxn hH hZp h0
    · exact kFae0 (t2 := t) (r := []) hg hxn hH hZp h0
  | cons t2 r => exact kFae2 hg hxn hH hZp
theorem ite_lv {c : Prop} {hc : Decidable c} {a b : xSg} (ha : a.2.2.2 ≠ []) (hb : b.2.2.2 ≠ []) : (@ite _ c hc a b).2.2.2 ≠ [] := by
  by_cases q : c
  · rw [if_pos q]
    exact ha
  · rw [if_neg q]
    exact hb
theorem pOneC_ne {fp : Nat → Int32} {pl : Nat} {c : Int32} {σ : xSg} (h : σ.2.2.2 ≠ []) : (pOneC fp pl c σ).2.2.2 ≠ [] := by
  unfold pOneC pClose pRepeat pBraces pSimple pBracket
  repeat' apply ite_lv
  all_goals first | exact h | exact List.cons_ne_nil _ _
theorem cK_form {σ : xSg} (h : σ.2.2.2 ≠ []) (h0 : σ.2.1 = 0) : ∃ a A t r, σ = (a, 0, A, t :: r) := by
  obtain ⟨a, x, A, L⟩ := σ
  have hx : x = 0 := h0
  subst hx
  cases L with
  | nil => exact absurd rfl h
  | cons t r => exact ⟨a, A, t, r, rfl⟩
set_option maxRecDepth 20000 in
set_option maxHeartbeats 1000000 in
theorem kRunL {G : xG} (hg : xGood G) (hxn : xn = 16) (hZ : va_Z "java/util/ArrayList" "DEFAULTCAPACITY_EMPTY_ELEMENTDATA" "[Ljava/lang/Object;" (.ref (xa G 1)) (fun q => (xs G).heap.size ≤ q) (xs G) (xs G).heap) (hT : va_T (.object "java/lang/Object") (xa G 1) 0 (fun _ => .null) (fun q => (xs G).heap.size ≤ q) (xs G) (xs G).heap) (hMi : xHM G) (hNA : xNA G) (hSC : xSC G) {px fp : Nat → Int32} {rd : Nat} {M0 : xM} {pl : Nat} (hpl : pl ≤ 24) (hpx : ∀ j, j < pl → px j = fp j) (hPR : ∀ j, j < pl → ∃ u1, u1 < 95 ∧ fp j = nI (u1 + 32)) (h18 : M0.2 18 = (.inl (1, 24, .inl px))) {d ce se : Nat} {Post : Option Value → xM → Prop} (hd : 101 ≤ d) : ∀ (m k a : Nat) (A : List xNode) (t : List Nat × List Nat) (r : List (List Nat × List Nat)) (M : xM) (cells slots : Nat), cK rd M0 pl M (a, 0, A, t :: r) → pl ≤ a + m → a ≤ pl → k ≤ a → cells + 11 * m ≤ ce → slots + 127 * m ≤ se → (∀ (M' : xM) (k' : Nat), cX rd M0 pl M' (pRun fp pl m (a, 0, A, t :: r)) → XJ G Y8_2 d ce se (cells + 11 * m) (slots + 127 * m) 59 [(1, .int (nI k')), (0, .ref rd)] [] M' Post) → XJ G Y8_2 d ce se cells slots 2 [(1, .int (nI k)), (0, .ref rd)] [] M Post := by
  intro m
  induction m with
  | zero =>
    intro k a A t r M cells slots hK hm hap hka hcc hss K
    obtain ⟨⟨ga, fg, ow, rk, ad, gA, bA, μ, hH⟩, lo, hZp⟩ := id hK
    obtain ⟨_, _, bl, p, nd, ⟨rfl, rfl, efg⟩, ⟨b1, b2, b3, b4, b5, b6, b7, b8⟩, ⟨kR, kgs, kgo, kbo⟩, ⟨klp, klb⟩, ⟨og1, og2, og3, og4⟩, ⟨c1, c2, c3, c4, c5, c6, c7, c8, c9, c10, c11, c12⟩, cfr, ⟨n1, n2, n3, n4, n5, n6, n7, n8, n9, n10, n11, n12, n13, n14⟩, oR, ogs⟩ := cH_top hH hxn
    replace kR : M.2 rd = (.inr (4, [.ref (gA 0), .int 0, .ref 18, .int (nI pl), .int (nI a), .ref ga, .int (nI r.length)])) := kR
    have k18 : M.2 18 = (.inl (1, 24, .inl px)) := (cfr 18 (by omega)).trans h18
    obtain ⟨⟨z1, z2, z3⟩, y1, y2⟩ := pZ_Y hZp
    have hX0 : cX rd M0 pl M (pRun fp pl 0 (a, 0, A, t :: r)) := ⟨fun _ => hK, fun q => absurd rfl q⟩
    replace K : ∀ (M' : xM) (k' : Nat), cX rd M0 pl M' (pRun fp pl 0 (a, 0, A, t :: r)) → XJ G Y8_2 d ce se cells slots 59 [(1, .int (nI k')), (0, .ref rd)] [] M' Post := K
    by_cases hkl : True
    · skip
      refine xj_iload_n (i := 1) d8_2_2 rfl rfl ?_
      refine xj_aload_n (i := 0) d8_2_3 rfl rfl ?_
      refine xj_get d8_2_4 f8_26_4 kR (by omega) (show rd < M.1 by omega) rfl ?_
      refine xj_icmp_ge (tgt := 59) d8_2_7 rfl (fun hq1 => ?_) (fun hq1 => ?_)
      · exact K M k hX0
      · refine xj_aload_n (i := 0) d8_2_10 rfl rfl ?_
        refine xj_get d8_2_11 f8_30_4 kR (by omega) (show rd < M.1 by omega) rfl ?_
        refine xj_aload_n (i := 0) d8_2_14 rfl rfl ?_
        refine xj_get d8_2_15 f8_26_4 kR (by omega) (show rd < M.1 by omega) rfl ?_
        refine xj_icmp_ge (tgt := 59) d8_2_18 rfl (fun _ => ?_) (fun h => absurd (nI_le (a := pl) (b := a) (by omega) (by omega)) h)
        exact K M k hX0
    · exact absurd trivial hkl
  | succ m ih =>
    intro k a A t r M cells slots hK hm hap hka hcc hss K
    obtain ⟨⟨ga, fg, ow, rk, ad, gA, bA, μ, hH⟩, lo, hZp⟩ := id hK
    obtain ⟨_, _, bl, p, nd, ⟨rfl, rfl, efg⟩, ⟨b1, b2, b3, b4, b5, b6, b7, b8⟩, ⟨kR, kgs, kgo, kbo⟩, ⟨klp, klb⟩, ⟨og1, og2, og3, og4⟩, ⟨c1, c2, c3, c4, c5, c6, c7, c8, c9, c10, c11, c12⟩, cfr, ⟨n1, n2, n3, n4, n5, n6, n7, n8, n9, n10, n11, n12, n13, n14⟩, oR, ogs⟩ := cH_top hH hxn
    replace kR : M.2 rd = (.inr (4, [.ref (gA 0), .int 0, .ref 18, .int (nI pl), .int (nI a), .ref ga, .int (nI r.length)])) := kR
    have k18 : M.2 18 = (.inl (1, 24, .inl px)) := (cfr 18 (by omega)).trans h18
    obtain ⟨⟨z1, z2, z3⟩, y1, y2⟩ := pZ_Y hZp
    by_cases hlt : a < pl
    · obtain ⟨u1, hu1, hfc0⟩ := hPR a hlt
      obtain ⟨cc, hcu⟩ : ∃ cc, cc = u1 + 32 := ⟨_, rfl⟩
      have hfc : fp a = nI cc := by rw [hcu]; exact hfc0
      have hpc : pch fp pl a = nI cc := (if_pos hlt).trans hfc
      have hset : pRun fp pl (m + 1) (a, 0, A, t :: r) = pRun fp pl m (pOneC fp pl (nI cc) (a + 1, 0, A, t :: r)) := by
        rw [show pRun fp pl (m + 1) (a, 0, A, t :: r) = pRun fp pl m (pOne fp pl (a, 0, A, t :: r)) from if_pos ⟨hlt, rfl⟩]
        show pRun fp pl m (pOneC fp pl (pch fp pl a) (a + 1, 0, A, t :: r)) = _
        rw [hpc]
      have hK9 : pKk (a + 1, 0, A, t :: r) := fun q hq => by
        obtain ⟨i, hi⟩ := List.getElem?_of_mem hq
        exact (hZp.2.2.2 i q hi).2.1.2
      have hk9 := pOneC_k (fp := fp) (pl := pl) (c := nI cc) (σ := (a + 1, 0, A, t :: r)) (show a + 1 ≤ pl by omega) hK9
      have hnext : ∀ M8 : xM, cX rd M0 pl M8 (pOneC fp pl (nI cc) (a + 1, 0, A, t :: r)) → XJ G Y8_2 d ce se (cells + 11) (slots + 127) 2 [(1, .int (nI (k + 1))), (0, .ref rd)] [] M8 Post := by
        intro M8 hX8
        by_cases hz : (pOneC fp pl (nI cc) (a + 1, 0, A, t :: r)).2.1 = 0
        · have hK8 := hX8.1 hz
          have hle := hk9.2 hz
          obtain ⟨a', A', t', r', hform⟩ := cK_form (pOneC_ne (List.cons_ne_nil _ _)) hz
          rw [hform] at hK8 hle
          have hle1 : a + 1 ≤ a' := hle.1
          have hle2 : a' ≤ pl := hle.2
          refine ih (k + 1) a' A' t' r' M8 (cells + 11) (slots + 127) hK8 (by omega) hle2 (by omega) (by omega) (by omega) (fun M' k' h9 => ?_)
          rw [show cells + 11 + 11 * m = cells + 11 * (m + 1) by omega, show slots + 127 + 127 * m = slots + 127 * (m + 1) by omega]
          exact K M' k' (by rw [hset, hform]; exact h9)
        · have hset2 : pRun fp pl m (pOneC fp pl (nI cc) (a + 1, 0, A, t :: r)) = pOneC fp pl (nI cc) (a + 1, 0, A, t :: r) := by
            cases m with
            | zero => rfl
            | succ m => exact if_neg (fun q => hz q.2)
          obtain ⟨⟨f1, f2, f3⟩, ⟨f4, f5⟩, ga8, gw8, a8, og8, kR8, f6⟩ := hX8.2 hz
          obtain ⟨x8, hx8e⟩ : ∃ x8, (pOneC fp pl (nI cc) (a + 1, 0, A, t :: r)).2.1 = x8 := ⟨_, rfl⟩
          rw [hx8e] at kR8
          replace kR8 : M8.2 rd = (.inr (4, [.ref gw8, .int x8, .ref 18, .int (nI pl), .int (nI a8), .ref ga8, .int (nI og8)])) := kR8
          have hx8 : ¬ x8 = 0 := by rw [← hx8e]; exact hz
          refine xj_more (c2 := cells + 11 * (m + 1)) (s2 := slots + 127 * (m + 1)) (by omega) (by omega) ?_
          refine xj_iload_n (i := 1) d8_2_2 rfl rfl ?_
          refine xj_aload_n (i := 0) d8_2_3 rfl rfl ?_
          refine xj_get d8_2_4 f8_26_4 kR8 (by omega) (show rd < M8.1 by omega) rfl ?_
          refine xj_icmp_ge (tgt := 59) d8_2_7 rfl (fun hb1 => ?_) (fun hb1 => ?_)
          · exact K M8 (k + 1) (by rw [hset, hset2]; exact hX8)
          · refine xj_aload_n (i := 0) d8_2_10 rfl rfl ?_
            refine xj_get d8_2_11 f8_30_4 kR8 (by omega) (show rd < M8.1 by omega) rfl ?_
            refine xj_aload_n (i := 0) d8_2_14 rfl rfl ?_
            refine xj_get d8_2_15 f8_26_4 kR8 (by omega) (show rd < M8.1 by omega) rfl ?_
            refine xj_icmp_ge (tgt := 59) d8_2_18 rfl (fun hb2 => ?_) (fun hb2 => ?_)
            · exact K M8 (k + 1) (by rw [hset, hset2]; exact hX8)
            · refine xj_aload_n (i := 0) d8_2_21 rfl rfl ?_
              refine xj_get d8_2_22 f8_33_4 kR8 (by omega) (show rd < M8.1 by omega) rfl ?_
              refine xj_if_ne (tgt := 59) d8_2_25 rfl (fun _ => ?_) (fun h => absurd h hx8)
              exact K M8 (k + 1) (by rw [hset, hset2]; exact hX8)
      refine xj_iload_n (i := 1) d8_2_2 rfl rfl ?_
      refine xj_aload_n (i := 0) d8_2_3 rfl rfl ?_
      refine xj_get d8_2_4 f8_26_4 kR (by omega) (show rd < M.1 by omega) rfl ?_
      refine xj_icmp_ge (tgt := 59) d8_2_7 rfl (fun h => absurd h (nI_ge (a := k) (b := pl) (by omega) (by omega))) (fun _ => ?_)
      refine xj_aload_n (i := 0) d8_2_10 rfl rfl ?_
      refine xj_get d8_2_11 f8_30_4 kR (by omega) (show rd < M.1 by omega) rfl ?_
      refine xj_aload_n (i := 0) d8_2_14 rfl rfl ?_
      refine xj_get d8_2_15 f8_26_4 kR (by omega) (show rd < M.1 by omega) rfl ?_
      refine xj_icmp_ge (tgt := 59) d8_2_18 rfl (fun h => absurd h (nI_ge (a := a) (b := pl) (by omega) (by omega))) (fun _ => ?_)
      refine xj_aload_n (i := 0) d8_2_21 rfl rfl ?_
      refine xj_get d8_2_22 f8_33_4 kR (by omega) (show rd < M.1 by omega) rfl ?_
      refine xj_if_ne (tgt := 59) d8_2_25 rfl (fun h => absurd (by decide) h) (fun _ => ?_)
      refine xj_aload_n (i := 0) d8_2_28 rfl rfl ?_
      refine xj_get d8_2_29 f8_22_4 kR (by omega) (show rd < M.1 by omega) rfl ?_
      refine xj_aload_n (i := 0) d8_2_32 rfl rfl ?_
      refine xj_get d8_2_33 f8_30_4 kR (by omega) (show rd < M.1 by omega) rfl ?_
      refine xj_caload (j := a) d8_2_36 k18 (by omega) (show 18 < M.1 by omega) (vp_in_nI (by omega) (by omega)) (nI_clamp (by omega)) ?_
      rw [show px a = nI cc from ((hpx a hlt).trans hfc)]
      refine xj_istore_n (i := 2) (L' := [(2, .int (nI cc)), (1, .int (nI k)), (0, .ref rd)]) d8_2_37 rfl (by decide) rfl ?_
      refine xj_aload_n (i := 0) d8_2_38 rfl rfl ?_
      refine xj_dup d8_2_39 rfl ?_
      refine xj_get d8_2_40 f8_30_4 kR (by omega) (show rd < M.1 by omega) rfl ?_
      refine xj_iconst (v := 1) d8_2_43 (by decide) ?_
      refine xj_iadd (v := nI (a + 1)) d8_2_44 (nI_1 _) ?_
      refine xj_put (a := rd) (fs' := [.ref (gA 0), .int 0, .ref 18, .int (nI pl), .int (nI (a + 1)), .ref ga, .int (nI r.length)]) d8_2_45 f8_30_4 kR (by omega) (show rd < M.1 by omega) (Nat.le_of_ble_eq_true rfl) rfl rfl rfl ?_
      refine xj_abs_set (fun M1 hs1 ha1 ho1 => ?_)
      refine xj_aload_n (i := 0) d8_2_48 rfl rfl ?_
      refine xj_iload_n (i := 2) d8_2_49 rfl rfl ?_
      have hH1 := cH_at (a' := a + 1) (x' := 0) hH (show M1.1 = M.1 by omega) ha1 (fun y hy => (ho1 y (by omega)))
      refine xj_callV (rest := []) (As := [.int (nI cc)]) (b := rd) (kFrom hg hxn hZ hT hMi hNA hSC hpl hpx hPR h18 (a := a + 1) (a0 := a) hH1 hZp (Nat.le_refl _) (by omega) (cc := cc) (by omega) (by omega)) d8_2_50 wd8_4 ha1 (by omega) (show rd < M1.1 by omega) rfl s8_4 w438 (Or.inl w436) rfl rfl (Nat.le_of_ble_eq_true rfl) (by omega) (by omega) (by omega) ?_
      rintro v M9 ⟨rfl, hX9⟩
      refine xj_iinc (v := nI (k + 1)) (L' := [(1, .int (nI (k + 1))), (2, .int (nI cc)), (0, .ref rd)]) d8_2_53 rfl (xinc _) (by decide) rfl ?_
      refine xj_goto (tgt := 2) d8_2_56 rfl ?_
      refine xj_sub (L' := [(1, .int (nI (k + 1))), (0, .ref rd)]) (fun q hq => by simp only [List.mem_cons, List.not_mem_nil, or_false] at hq ⊢; rcases hq with rfl | rfl <;> simp) ?_
      exact hnext M9 hX9
    · have hset : pRun fp pl (m + 1) (a, 0, A, t :: r) = (a, 0, A, t :: r) := if_neg (fun q => hlt q.1)
      have hX0 : cX rd M0 pl M (pRun fp pl (m + 1) (a, 0, A, t :: r)) := by
        rw [hset]
        exact ⟨fun _ => hK, fun q => absurd rfl q⟩
      refine xj_more (c2 := cells + 11 * (m + 1)) (s2 := slots + 127 * (m + 1)) (by omega) (by omega) ?_
      refine xj_iload_n (i := 1) d8_2_2 rfl rfl ?_
      refine xj_aload_n (i := 0) d8_2_3 rfl rfl ?_
      refine xj_get d8_2_4 f8_26_4 kR (by omega) (show rd < M.1 by omega) rfl ?_
      refine xj_icmp_ge (tgt := 59) d8_2_7 rfl (fun hq1 => ?_) (fun hq1 => ?_)
      · exact K M k hX0
      · refine xj_aload_n (i := 0) d8_2_10 rfl rfl ?_
        refine xj_get d8_2_11 f8_30_4 kR (by omega) (show rd < M.1 by omega) rfl ?_
        refine xj_aload_n (i := 0) d8_2_14 rfl rfl ?_
        refine xj_get d8_2_15 f8_26_4 kR (by omega) (show rd < M.1 by omega) rfl ?_
        refine xj_icmp_ge (tgt := 59) d8_2_18 rfl (fun _ => ?_) (fun h => absurd (nI_le (a := pl) (b := a) (by omega) (by omega)) h)
        exact K M k hX0
/-- a reader as it is made -/
theorem cK_new {M0 M : xM} {pl rd g : Nat} {m1 m2 m3 m4 : Int32} (hxn : xn = 16) (h52 : 52 ≤ M0.1) (hrd : rd = M0.1) (hg : g = rd + 1) (hM : M.1 = g + 12) (hfr : ∀ j, j < M0.1 → M.2 j = M0.2 j) (kR : M.2 rd = cRo pl (g + 11) g 0 0 0) (k0 : M.2 g = .inr (5, [.ref (g + 1), .ref (g + 2), .null])) (k1 : M.2 (g + 1) = .inr (2, [.ref (g + 10), .int 1, .int m1])) (k2 : M.2 (g + 2) = .inr (6, [.ref (g + 3), .ref (g + 4), .null])) (k3 : M.2 (g + 3) = .inr (2, [.ref 1, .int 0, .int m2])) (k4 : M.2 (g + 4) = .inr (7, [.ref (g + 5), .ref (g + 6), .ref (g + 7), .int 1])) (k5 : M.2 (g + 5) = .inr (2, [.ref 1, .int 0, .int m3])) (k6 : M.2 (g + 6) = .inr (2, [.ref 1, .int 0, .int m4])) (k7 : M.2 (g + 7) = .inr (8, [.ref (g + 8), .ref (g + 9), .int 1])) (k8 : M.2 (g + 8) = .inl (1, 60, .inl (fun _ => 0))) (k9 : M.2 (g + 9) = .inl (0, 5, .inl (fun _ => 0))) (k10 : M.2 (g + 10) = .inl (4, 10, .inr (.inr (.inr (.inr (va_up (fun _ => none) 0 (some (g + 2)))))))) (k11 : M.2 (g + 11) = .inl (6, 7, .inr (.inr (.inr (.inr (va_up (fun _ => none) 0 (some g))))))) : cK rd M0 pl M (0, 0, [], ([], []) :: []) := by
  have o7 : ∀ k, k < 7 → (fun x => if x < g then 0 else if x < g + 7 then x else if x < g + 10 then 1 else if x = g + 10 then g + 1 else 0) (g + k) = g + k := fun k hk => by
    show (if g + k < g then 0 else if g + k < g + 7 then g + k else _) = _
    rw [if_neg (by omega), if_pos (by omega)]
  have o1 : ∀ k, 7 ≤ k → k < 10 → (fun x => if x < g then 0 else if x < g + 7 then x else if x < g + 10 then 1 else if x = g + 10 then g + 1 else 0) (g + k) = 1 := fun k h1 h2 => by
    show (if g + k < g then 0 else if g + k < g + 7 then g + k else if g + k < g + 10 then 1 else _) = _
    rw [if_neg (by omega), if_neg (by omega), if_pos (by omega)]
  have o2 : (fun x => if x < g then 0 else if x < g + 7 then x else if x < g + 10 then 1 else if x = g + 10 then g + 1 else 0) (g + 10) = g + 1 := by
    show (if g + 10 < g then 0 else if g + 10 < g + 7 then g + 10 else if g + 10 < g + 10 then 1 else if g + 10 = g + 10 then g + 1 else 0) = _
    rw [if_neg (by omega), if_neg (by omega), if_neg (by omega), if_pos rfl]
  have o0 : ∀ x, x < g → (fun x => if x < g then 0 else if x < g + 7 then x else if x < g + 10 then 1 else if x = g + 10 then g + 1 else 0) x = 0 := fun x hx => if_pos hx
  have o3 : (fun x => if x < g then 0 else if x < g + 7 then x else if x < g + 10 then 1 else if x = g + 10 then g + 1 else 0) (g + 11) = 0 := by
    show (if g + 11 < g then 0 else if g + 11 < g + 7 then g + 11 else if g + 11 < g + 10 then 1 else if g + 11 = g + 10 then g + 1 else 0) = _
    rw [if_neg (by omega), if_neg (by omega), if_neg (by omega), if_neg (by omega)]
  refine ⟨⟨g + 11, _, (fun x => if x < g then 0 else if x < g + 7 then x else if x < g + 10 then 1 else if x = g + 10 then g + 1 else 0), (rkN (fun y => if y = 1 then 1 else 0) g [4 * 0 + 10, 4 * 0 + 10, 4 * 0 + 11, 4 * 0 + 11, 4 * 0 + 12, 4 * 0 + 12, 4 * 0 + 13]), fun _ => 0, fun _ => g, fun _ => g + 2, fun _ => (0, 0, 0, fun _ => 0), ⟨h52, by omega, hfr⟩, ⟨by omega, by omega, by omega, by omega, o0 rd (by omega), o3⟩, ⟨fun x hx => o0 x (by omega), rkN_o (by omega), rkN_o (by omega)⟩, kR, k11, fun e he => ?_, fun e v hv => ?_, fun i q hq => by simp at hq⟩, _, pZ_0⟩
  · have he' : e < 1 := he
    rw [show e = 0 by omega]
    exact va_up_self _ _ _
  · rcases plv_top (A := []) (t := ([], [])) hv with ⟨he, hv2⟩ | ⟨he, -⟩
    · rw [he, hv2]
      show cL M (fun x => if x < g then 0 else if x < g + 7 then x else if x < g + 10 then 1 else if x = g + 10 then g + 1 else 0) (rkN (fun y => if y = 1 then 1 else 0) g [4 * 0 + 10, 4 * 0 + 10, 4 * 0 + 11, 4 * 0 + 11, 4 * 0 + 12, 4 * 0 + 12, 4 * 0 + 13]) (fun _ => 0) 0 g (g + 2) ([], [])
      exact cL_new (e := 0) (by omega) (by omega) o7 o1 o2 ⟨rkN_n 0, rkN_n 1, rkN_n 2, rkN_n 3, rkN_n 4, rkN_n 5, rkN_n 6⟩ k0 k1 k2 k3 k4 k5 k6 k7 k8 k9 (by rw [← xl_one]; exact k10)
    · exact absurd he (Nat.not_lt_zero _)

theorem cN_ob {M : xM} {ow rk ad : Nat → Nat} {T X : Nat} {ℓ : xLk} {μ : xMu} {q : xNode} (h : cN M ow rk ad T X ℓ μ q) (h1 : 1 ≤ q.1) (h6 : q.1 ≤ 6) : xn ≤ X ∧ X < M.1 ∧ ∃ (bc : Nat) (bf : List Value) (bC : String) (bT : u_T) (bN : Nat), M.2 X = .inr (bc, bf) ∧ vwCl[bc]? = some (bC, bT, bN) ∧ xAsg bC "java/lang/Object" ∧ bc ≠ 2 ∧ bc ≠ 4 ∧ (¬ q.1 = 5 → xAsg bC "TrigramLines$Part") := by
  obtain ⟨wv, hv, ⟨a1, a2, a3, a4⟩, k1, k2, k4, k5, k6⟩ := h
  refine ⟨a1, a2, ?_⟩
  rcases (by omega : q.1 = 1 ∨ (q.1 = 2 ∨ q.1 = 3) ∨ q.1 = 4 ∨ q.1 = 5 ∨ q.1 = 6) with z | z | z | z | z
  · obtain ⟨y, e1, -⟩ := k1 z
    exact ⟨10, _, Rc10, Tc10, _, e1, rfl, Or.inr w1401, by decide, by decide, fun _ => Or.inr w1383⟩
  · have e1 := k2 z
    exact ⟨11, _, Rc11, Tc11, _, e1, rfl, Or.inr w1402, by decide, by decide, fun _ => Or.inr w1381⟩
  · obtain ⟨e, nd, cv, -, e1, -⟩ := k4 z
    exact ⟨9, _, Rc9, Tc9, _, e1, rfl, Or.inr w1400, by decide, by decide, fun _ => Or.inr w1385⟩
  · obtain ⟨p, nd, e1, -⟩ := k5 z
    exact ⟨6, _, Rc6, Tc6, _, e1, rfl, Or.inr w1397, by decide, by decide, fun q => absurd z q⟩
  · obtain ⟨bl, lv, e1, -⟩ := k6 z
    exact ⟨5, _, Rc5, Tc5, _, e1, rfl, Or.inr w1396, by decide, by decide, fun _ => Or.inr w1384⟩
/-- a part that is made stands as the newest piece -/
theorem cAddX {G : xG} (hg : xGood G) (hxn : xn = 16) (hZ : va_Z "java/util/ArrayList" "DEFAULTCAPACITY_EMPTY_ELEMENTDATA" "[Ljava/lang/Object;" (.ref (xa G 1)) (fun q => (xs G).heap.size ≤ q) (xs G) (xs G).heap) (hT : va_T (.object "java/lang/Object") (xa G 1) 0 (fun _ => .null) (fun q => (xs G).heap.size ≤ q) (xs G) (xs G).heap) (hMi : xHM G) {rd : Nat} {M0 M : xM} {pl ga : Nat} {fg : Nat → Option Nat} {ow rk ad gA bA : Nat → Nat} {μ : Nat → xMu} {a : Nat} {A : List xNode} {t : List Nat × List Nat} {r : List (List Nat × List Nat)} {x : Int32} {X : Nat} {q : xNode} {μx : xMu} (hH : cH rd M0 pl ga fg ow rk ad gA bA μ M (a, x, A, t :: r)) (hY : pY A t r) (hX : cN M ow rk ad (3 * A.length + 100) X lk0 μx q) (hq1 : 1 ≤ q.1) (hq6 : q.1 ≤ 6) (hq : ∀ c ∈ q.2.2.1, c < A.length) : XC G Y3_3 none 7 1 40 [.ref (bA r.length), .ref X] M (fun v M' => v = none ∧ cHe rd M0 pl M' (a, x, A ++ [q], (t.1, t.2 ++ [A.length]) :: r)) := by
  obtain ⟨g, b, bl, p, nd, ⟨eg, eb, efg⟩, ⟨b1, b2, b3, b4, b5, b6, b7, b8⟩, ⟨kR, kgs, kgo, kbo⟩, ⟨klp, klb⟩, ⟨og1, og2, og3, og4⟩, ⟨c1, c2, c3, c4, c5, c6, c7, c8, c9, c10, c11, c12⟩, cfr, ⟨n1, n2, n3, n4, n5, n6, n7, n8, n9, n10, n11, n12, n13, n14⟩, oR, ogs⟩ := cH_top hH hxn
  obtain ⟨⟨z1, z2, z3⟩, y1, y2⟩ := hY
  obtain ⟨x1, x2, bc, bf, bC, bT, bN, x3, x4, x5, x6, x7, -⟩ := cN_ob hX hq1 hq6
  have hls : xLs (fun y => owN ow M.1 0 0 p y = p) M p (t.2.map ad) := xLs_mv klp (Nat.le_refl _) rfl (fun y hy hlt => ⟨(owN_o hlt).trans hy, rfl⟩)
  obtain ⟨e9, mo9, cap9, q9, -⟩ := id klp
  rw [eb]
  refine xc_wk (bAdd hg hZ hT hMi (x := X) (by omega) (by omega) kbo (by omega) (by omega) hls (fun y hy => owN_w (Nat.le_refl _) (by omega)) (by rw [List.length_map]; omega) (fun y hy => ?_) x1 x2 x3 x4 x5 (xne_cl q9 x3 (Ne.symm x6))) (Nat.le_refl _) (Nat.le_refl _) (Nat.le_refl _) ?_
  · obtain ⟨c, hc, rfl⟩ := List.mem_map.mp hy
    have hcA := (y1 t List.mem_cons_self).2 c hc
    have hk := (y2 c _ (xnd_at hcA)).2
    obtain ⟨w1, w2, bc', bf', bC', bT', bN', w3, w4, w5, w6, -⟩ := cN_ob (hH.2.2.2.2.2.2.2 c _ (xnd_at hcA)) hk.1 hk.2
    exact ⟨(xne_cl q9 w3 (Ne.symm w6)).symm, w1, w2, bc', bf', bC', bT', bN', w3, w4, w5⟩
  · rintro v M' ⟨rfl, e1, e2, e3⟩
    exact ⟨rfl, ga, fg, owN ow M.1 0 0 p, rk, pUp ad A.length X, gA, bA, muUp μ A.length μx, cH_put hH (by rw [eb]; exact kbo) hX z1 e1 (fun y hy => owN_o hy) (fun y hy hne => e2 y hy (fun z => hne (by rw [z]; exact og3)) (fun z => absurd ((owN_o hy).symm.trans z) hne)) e3 y1 ((y1 t List.mem_cons_self).2) (fun i q hq => (y2 i q hq).1) hq⟩
theorem xl_set (l : List Nat) (y b : Nat) : va_up (fun i => (l ++ [y])[i]?) l.length (some b) = fun i => (l ++ [b])[i]? := by
  funext i
  by_cases h : i = l.length
  · subst h
    rw [va_up_self]
    simp
  · rw [va_up_ne _ _ h, List.getElem?_append, List.getElem?_append]
    by_cases h2 : i < l.length
    · rw [if_pos h2, if_pos h2]
    · rw [if_neg h2, if_neg h2, List.getElem?_eq_none (by simp; omega), List.getElem?_eq_none (by simp; omega)]
set_option maxRecDepth 20000 in
theorem cRepXE {G : xG} (hg : xGood G) (hxn : xn = 16) (hZ : va_Z "java/util/ArrayList" "DEFAULTCAPACITY_EMPTY_ELEMENTDATA" "[Ljava/lang/Object;" (.ref (xa G 1)) (fun q => (xs G).heap.size ≤ q) (xs G) (xs G).heap) (hT : va_T (.object "java/lang/Object") (xa G 1) 0 (fun _ => .null) (fun q => (xs G).heap.size ≤ q) (xs G) (xs G).heap) {rd : Nat} {M0 M : xM} {pl ga : Nat} {fg : Nat → Option Nat} {ow rk ad gA bA : Nat → Nat} {μ : Nat → xMu} {a : Nat} {A : List xNode} {r : List (List Nat × List Nat)} {t1 l : List Nat} {e : Nat} {x ls w9 : Int32} (hH : cH rd M0 pl ga fg ow rk ad gA bA μ M (a, x, A, (t1, l ++ [e]) :: r)) (hY : pY A (t1, l ++ [e]) r) (h5 : ¬ (pNd A e).1 = 5) : XC G Y3_5 none 6 8 127 [.ref (bA r.length), .int ls, .int (-1)] M (fun v M' => v = none ∧ cHe rd M0 pl M' (a, x, A ++ [(4, w9, [e], ls, -1, pNo)], (t1, l ++ [A.length]) :: r)) := by
  obtain ⟨g, b, bl, p, nd, ⟨eg, eb, efg⟩, ⟨b1, b2, b3, b4, b5, b6, b7, b8⟩, ⟨kR, kgs, kgo, kbo⟩, ⟨klp, klb⟩, ⟨og1, og2, og3, og4⟩, ⟨c1, c2, c3, c4, c5, c6, c7, c8, c9, c10, c11, c12⟩, cfr, ⟨n1, n2, n3, n4, n5, n6, n7, n8, n9, n10, n11, n12, n13, n14⟩, oR, ogs⟩ := cH_top hH hxn
  obtain ⟨⟨z1, z2, z3⟩, y1, y2⟩ := hY
  have y1e := (y1 (t1, l ++ [e]) List.mem_cons_self).2
  have hec : e < A.length := y1e e (by simp)
  have hll : ∀ c ∈ l, c < A.length := fun c hc => y1e c (List.mem_append_left _ hc)
  have hl26 : t1.length + (l ++ [e]).length ≤ 26 := z2
  rw [List.length_append, List.length_singleton] at hl26
  have hke := (y2 e _ (xnd_at hec)).2
  obtain ⟨y, hye⟩ : ∃ y, ad e = y := ⟨_, rfl⟩
  have hne := hH.2.2.2.2.2.2.2 e _ (xnd_at hec)
  rw [hye] at hne
  obtain ⟨x1, x2, bc_y, bf_y, bC_y, bT_y, bN_y, x3, hc_y, hA_y, x6, x7, hP_y⟩ := cN_ob hne hke.1 hke.2
  replace hP_y := hP_y h5
  have klp' : xLs (fun y => ow y = p) M p (l.map ad ++ [y]) := by
    have e0 : (l ++ [e]).map ad = l.map ad ++ [y] := by rw [List.map_append, List.map_singleton, hye]
    rw [← e0]
    exact klp
  obtain ⟨e9, q13, mo9, cap9, q9, q14, q10, q11, q15, q16, q12⟩ := xLs_a klp' (by simp)
  rw [List.length_append, List.length_map, List.length_singleton] at q9 q14
  have hgl : (l.map ad ++ [y])[l.length]? = some y := by
    rw [List.getElem?_append_right (by simp), List.length_map, Nat.sub_self]
    rfl
  have m1 := xne_io q9 q12
  have m2 := xne_io kbo q12
  have m3 := xne_io x3 q12
  rw [eb]
  refine xc_of hg (by decide) (Nat.le_of_ble_eq_true rfl) (Or.inr (Or.inr (Or.inr (Or.inr (Or.inl ⟨rfl, rfl, fun v M' h => h.1⟩))))) ?_
  refine xj_aload_n (i := 0) d3_5_0 rfl rfl ?_
  refine xj_get d3_5_1 f3_10_6 kbo (by omega) (show b < M.1 by omega) rfl ?_
  refine xj_callV (rest := []) (As := []) (b := p) (cSize hg (M := M) (n := M.1) (a := p) (el := .ref e9) (sz := nI (l.length + 1)) (mo := mo9) rfl (by omega) (by omega) (by omega) q9) d3_5_4 wd28_8 q9 (by omega) (show p < M.1 by omega) rfl w230 w229 (Or.inl w478) rfl rfl (Nat.le_of_ble_eq_true rfl) (by omega) (by omega) (by omega) ?_
  rintro v M' ⟨rfl, hm⟩
  subst M'
  refine xj_iconst (v := 1) d3_5_7 (by decide) ?_
  refine xj_isub (v := nI l.length) d3_5_8 (by rw [show (1 : Int32) = nI 1 from by decide]; exact pk_sub (a := l.length + 1) (b := 1) (by omega)) ?_
  refine xj_istore_n (i := 3) (L' := [(3, .int (nI l.length)), (0, .ref b), (1, .int ls), (2, .int (-1))]) d3_5_9 rfl (by decide) rfl ?_
  refine xj_iload_n (i := 3) d3_5_10 rfl rfl ?_
  refine xj_if_lt (tgt := 43) d3_5_11 rfl (fun h => absurd h (nI_nlt (a := l.length) (b := 0) (by omega) (by omega))) (fun _ => ?_)
  refine xj_aload_n (i := 0) d3_5_14 rfl rfl ?_
  refine xj_get d3_5_15 f3_10_6 kbo (by omega) (show b < M.1 by omega) rfl ?_
  refine xj_iload_n (i := 3) d3_5_18 rfl rfl ?_
  refine xj_new (na := M.1) d3_5_19 n3_41 rfl (by omega) (by omega) ?_
  refine xj_abs_push rfl (fun M1 hs1 ha1 ho1 => ?_)
  refine xj_dup d3_5_22 rfl ?_
  refine xj_aload_n (i := 0) d3_5_23 rfl rfl ?_
  refine xj_get d3_5_24 f3_10_6 ((ho1 b (by omega)).trans kbo) (by omega) (show b < M1.1 by omega) rfl ?_
  refine xj_iload_n (i := 3) d3_5_27 rfl rfl ?_
  refine xj_callV (rest := [.ref M.1, .ref M.1, .int (nI l.length), .ref p]) (As := [.int (nI l.length)]) (b := p) (cGet hg (M := M1) (n := M.1 + 1) (a := p) (e := e9) (mo := mo9) (cap := cap9) (f := fun i => (l.map ad ++ [y])[i]?) (sz := l.length + 1) (k := l.length) (b := y) (show M1.1 = M.1 + 1 by omega) (by omega) (by omega) (by omega) ((ho1 p (by omega)).trans q9) (by omega) (by omega) ((ho1 e9 (by omega)).trans q12) (by omega) (by omega) (by omega) hgl) d3_5_28 wd28_20 ((ho1 p (by omega)).trans q9) (by omega) (show p < M1.1 by omega) rfl w248 w247 (Or.inl w479) rfl rfl (Nat.le_of_ble_eq_true rfl) (by omega) (by omega) (by omega) ?_
  rintro v M' ⟨rfl, hm⟩
  subst M'
  refine xj_cast d3_5_31 w487 ((ho1 y (by omega)).trans x3) (by omega) (show y < M1.1 by omega) hc_y hP_y ?_
  refine xj_iload_n (i := 1) d3_5_34 rfl rfl ?_
  refine xj_iload_n (i := 2) d3_5_35 rfl rfl ?_
  refine xj_callI (rest := [.ref M.1, .int (nI l.length), .ref p]) (As := [.ref y, .int ls, .int (-1)]) (b := M.1) (cRepE hg hZ hT (M := M1) (n := M.1 + 1) (a := M.1) (pt := y) (ls := ls) (show M1.1 = M.1 + 1 by omega) (by omega) (by omega) (by omega) ha1) d3_5_36 wd9_1 rfl w489 (Or.inl w488) rfl rfl (Nat.le_of_ble_eq_true rfl) (by omega) (by omega) (by omega) ?_
  rintro v M2 ⟨rfl, hs2, ho2, hf2_0, hf2_1, hf2_2, hf2_3, hf2_4, hf2_5, hf2_6, hf2_7⟩
  replace hs2 : M2.1 = M.1 + 8 := hs2
  replace hf2_0 : M2.2 M.1 = (.inr (9, [.ref y, .int ls, .int (-1), .ref (M.1 + 1), .ref (M.1 + 7), .int 0, .int 0, .null])) := hf2_0
  replace hf2_1 : M2.2 (M.1 + 1) = (.inr (7, [.ref (M.1 + 2), .ref (M.1 + 3), .ref (M.1 + 4), .int 1])) := hf2_1
  replace hf2_2 : M2.2 (M.1 + 2) = (.inr (2, [.ref 1, .int 0, .int 0])) := hf2_2
  replace hf2_3 : M2.2 (M.1 + 3) = (.inr (2, [.ref 1, .int 0, .int 0])) := hf2_3
  replace hf2_4 : M2.2 (M.1 + 4) = (.inr (8, [.ref (M.1 + 5), .ref (M.1 + 6), .int 1])) := hf2_4
  replace hf2_5 : M2.2 (M.1 + 5) = (.inl (1, 60, .inl (fun _ => 0))) := hf2_5
  replace hf2_6 : M2.2 (M.1 + 6) = (.inl (0, 5, .inl (fun _ => 0))) := hf2_6
  replace hf2_7 : M2.2 (M.1 + 7) = (.inl (3, 41, .inr (.inl (fun _ => 0)))) := hf2_7
  have hsz : M2.1 = M.1 + 8 := by omega
  have hH3 := cH_grow (ow' := owN ow M.1 4 7 M.1) (rk' := rkN rk M.1 [(3 * A.length + 100), (3 * A.length + 100) + 1, (3 * A.length + 100) + 1, (3 * A.length + 100) + 2]) hH (show M.1 ≤ M2.1 by omega) (fun y hy => owN_o hy) (fun y hy => rkN_o hy) (fun y hy => ((ho2 y (by omega) (by omega)).trans (ho1 y (by omega))))
  have hnd : cNd M2 (owN ow M.1 4 7 M.1) (rkN rk M.1 [(3 * A.length + 100), (3 * A.length + 100) + 1, (3 * A.length + 100) + 1, (3 * A.length + 100) + 2]) ad ((3 * A.length + 100) + 1) (M.1 + 1) lk0.2 := cNd_new (by omega) (by omega) (owN_s (by omega) (by omega)) (owN_s (by omega) (by omega)) (owN_s (by omega) (by omega)) (owN_1 (by omega) (by omega)) (owN_1 (by omega) (by omega)) (owN_1 (by omega) (by omega)) (rkN_n 1) (rkN_n 2) (rkN_n 3) hf2_1 hf2_2 hf2_3 hf2_4 hf2_5 hf2_6
  have hcl : xn ≤ M.1 + 7 ∧ M.1 + 7 < M2.1 ∧ owN ow M.1 4 7 M.1 (M.1 + 7) = M.1 := ⟨by omega, by omega, owN_w (by decide) (by omega)⟩
  have hX3 : cN M2 (owN ow M.1 4 7 M.1) (rkN rk M.1 [(3 * A.length + 100), (3 * A.length + 100) + 1, (3 * A.length + 100) + 1, (3 * A.length + 100) + 2]) ad (3 * A.length + 100) M.1 lk0 (0, 0, 0, fun _ => 0) (4, w9, [e], ls, -1, pNo) := cN_rep (by omega) (by omega) (owN_s (by omega) (by omega)) (rkN_n 0) (by rw [hye]; exact hf2_0) hnd (Or.inl ⟨rfl, M.1 + 7, rfl, hcl, hf2_7⟩) rfl rfl
  refine xj_callV (rest := []) (As := [.int (nI l.length), .ref M.1]) (b := p) (cSet hg (M := M2) (n := M.1 + 8) (a := p) (e := e9) (mo := mo9) (cap := cap9) (f := fun i => (l.map ad ++ [y])[i]?) (sz := l.length + 1) (k := l.length) (b := y) (q := M.1) (bc_q := 9) (bf_q := [.ref y, .int ls, .int (-1), .ref (M.1 + 1), .ref (M.1 + 7), .int 0, .int 0, .null]) (bC_q := Rc9) (bT_q := Tc9) (bN_q := 8) (show M2.1 = M.1 + 8 by omega) (by omega) (by omega) (by omega) ((ho2 p (by omega) (by omega)).trans ((ho1 p (by omega)).trans q9)) (by omega) (by omega) ((ho2 e9 (by omega) (by omega)).trans ((ho1 e9 (by omega)).trans q12)) (by omega) (by omega) hf2_0 (by omega) (by omega) (by omega) hgl (by omega) (by omega) rfl (Or.inr w1400)) d3_5_39 wd28_23 ((ho2 p (by omega) (by omega)).trans ((ho1 p (by omega)).trans q9)) (by omega) (show p < M2.1 by omega) rfl w520 w519 (Or.inl w518) rfl rfl (Nat.le_of_ble_eq_true rfl) (by omega) (by omega) (by omega) ?_
  rintro v M3 ⟨rfl, hs3, ho3, hf3_0⟩
  replace hs3 : M3.1 = M.1 + 8 := hs3
  replace hf3_0 : M3.2 e9 = (.inl (4, cap9, .inr (.inr (.inr (.inr (va_up (fun i => (l.map ad ++ [y])[i]?) l.length (some M.1))))))) := hf3_0
  refine xj_pop d3_5_42 rfl ?_
  exact xj_ret d3_5_43 (by omega) (by omega) rfl ⟨rfl, ga, fg, _, _, _, gA, bA, _, cH_put (l' := l) hH3 (by rw [eb]; exact ((ho2 b (by omega) (by omega)).trans ((ho1 b (by omega)).trans kbo))) hX3 z1 (show M2.1 ≤ M3.1 by omega) (fun y hy => rfl) (fun y hy hne => (ho3 y (by omega) (fun z => hne (by rw [z]; exact (owN_o (by omega)).trans q13)))) ⟨e9, mo9, cap9, (by rw [List.length_append, List.length_map]; exact ((ho3 p (by omega) (by omega)).trans ((ho2 p (by omega) (by omega)).trans ((ho1 p (by omega)).trans q9)))), by rw [List.length_append, List.length_map]; show l.length + 1 ≤ cap9; omega, q10, q11, Or.inr ⟨(owN_o (by omega)).trans q13, by omega, by omega, (by rw [hf3_0, ← List.length_map (f := ad) (as := l), xl_set])⟩⟩ y1 hll (fun i q hq => (y2 i q hq).1) (fun c hc => by rw [List.mem_singleton.mp hc]; exact hec)⟩
set_option maxRecDepth 20000 in
theorem cRepXN {G : xG} (hg : xGood G) (hxn : xn = 16) (hZ : va_Z "java/util/ArrayList" "DEFAULTCAPACITY_EMPTY_ELEMENTDATA" "[Ljava/lang/Object;" (.ref (xa G 1)) (fun q => (xs G).heap.size ≤ q) (xs G) (xs G).heap) (hT : va_T (.object "java/lang/Object") (xa G 1) 0 (fun _ => .null) (fun q => (xs G).heap.size ≤ q) (xs G) (xs G).heap) {rd : Nat} {M0 M : xM} {pl ga : Nat} {fg : Nat → Option Nat} {ow rk ad gA bA : Nat → Nat} {μ : Nat → xMu} {a : Nat} {A : List xNode} {r : List (List Nat × List Nat)} {t1 l : List Nat} {e : Nat} {x ls w9 : Int32} {m9 : Nat} (hm9 : m9 ≤ 9) (hH : cH rd M0 pl ga fg ow rk ad gA bA μ M (a, x, A, (t1, l ++ [e]) :: r)) (hY : pY A (t1, l ++ [e]) r) (h5 : ¬ (pNd A e).1 = 5) : XC G Y3_5 none 6 8 127 [.ref (bA r.length), .int ls, .int (nI m9)] M (fun v M' => v = none ∧ cHe rd M0 pl M' (a, x, A ++ [(4, w9, [e], ls, nI m9, pNo)], (t1, l ++ [A.length]) :: r)) := by
  obtain ⟨g, b, bl, p, nd, ⟨eg, eb, efg⟩, ⟨b1, b2, b3, b4, b5, b6, b7, b8⟩, ⟨kR, kgs, kgo, kbo⟩, ⟨klp, klb⟩, ⟨og1, og2, og3, og4⟩, ⟨c1, c2, c3, c4, c5, c6, c7, c8, c9, c10, c11, c12⟩, cfr, ⟨n1, n2, n3, n4, n5, n6, n7, n8, n9, n10, n11, n12, n13, n14⟩, oR, ogs⟩ := cH_top hH hxn
  obtain ⟨⟨z1, z2, z3⟩, y1, y2⟩ := hY
  have y1e := (y1 (t1, l ++ [e]) List.mem_cons_self).2
  have hec : e < A.length := y1e e (by simp)
  have hll : ∀ c ∈ l, c < A.length := fun c hc => y1e c (List.mem_append_left _ hc)
  have hl26 : t1.length + (l ++ [e]).length ≤ 26 := z2
  rw [List.length_append, List.length_singleton] at hl26
  have hke := (y2 e _ (xnd_at hec)).2
  obtain ⟨y, hye⟩ : ∃ y, ad e = y := ⟨_, rfl⟩
  have hne := hH.2.2.2.2.2.2.2 e _ (xnd_at hec)
  rw [hye] at hne
  obtain ⟨x1, x2, bc_y, bf_y, bC_y, bT_y, bN_y, x3, hc_y, hA_y, x6, x7, hP_y⟩ := cN_ob hne hke.1 hke.2
  replace hP_y := hP_y h5
  have klp' : xLs (fun y => ow y = p) M p (l.map ad ++ [y]) := by
    have e0 : (l ++ [e]).map ad = l.map ad ++ [y] := by rw [List.map_append, List.map_singleton, hye]
    rw [← e0]
    exact klp
  obtain ⟨e9, q13, mo9, cap9, q9, q14, q10, q11, q15, q16, q12⟩ := xLs_a klp' (by simp)
  rw [List.length_append, List.length_map, List.length_singleton] at q9 q14
  have hgl : (l.map ad ++ [y])[l.length]? = some y := by
    rw [List.getElem?_append_right (by simp), List.length_map, Nat.sub_self]
    rfl
  have m1 := xne_io q9 q12
  have m2 := xne_io kbo q12
  have m3 := xne_io x3 q12
  rw [eb]
  refine xc_of hg (by decide) (Nat.le_of_ble_eq_true rfl) (Or.inr (Or.inr (Or.inr (Or.inr (Or.inl ⟨rfl, rfl, fun v M' h => h.1⟩))))) ?_
  refine xj_aload_n (i := 0) d3_5_0 rfl rfl ?_
  refine xj_get d3_5_1 f3_10_6 kbo (by omega) (show b < M.1 by omega) rfl ?_
  refine xj_callV (rest := []) (As := []) (b := p) (cSize hg (M := M) (n := M.1) (a := p) (el := .ref e9) (sz := nI (l.length + 1)) (mo := mo9) rfl (by omega) (by omega) (by omega) q9) d3_5_4 wd28_8 q9 (by omega) (show p < M.1 by omega) rfl w230 w229 (Or.inl w478) rfl rfl (Nat.le_of_ble_eq_true rfl) (by omega) (by omega) (by omega) ?_
  rintro v M' ⟨rfl, hm⟩
  subst M'
  refine xj_iconst (v := 1) d3_5_7 (by decide) ?_
  refine xj_isub (v := nI l.length) d3_5_8 (by rw [show (1 : Int32) = nI 1 from by decide]; exact pk_sub (a := l.length + 1) (b := 1) (by omega)) ?_
  refine xj_istore_n (i := 3) (L' := [(3, .int (nI l.length)), (0, .ref b), (1, .int ls), (2, .int (nI m9))]) d3_5_9 rfl (by decide) rfl ?_
  refine xj_iload_n (i := 3) d3_5_10 rfl rfl ?_
  refine xj_if_lt (tgt := 43) d3_5_11 rfl (fun h => absurd h (nI_nlt (a := l.length) (b := 0) (by omega) (by omega))) (fun _ => ?_)
  refine xj_aload_n (i := 0) d3_5_14 rfl rfl ?_
  refine xj_get d3_5_15 f3_10_6 kbo (by omega) (show b < M.1 by omega) rfl ?_
  refine xj_iload_n (i := 3) d3_5_18 rfl rfl ?_
  refine xj_new (na := M.1) d3_5_19 n3_41 rfl (by omega) (by omega) ?_
  refine xj_abs_push rfl (fun M1 hs1 ha1 ho1 => ?_)
  refine xj_dup d3_5_22 rfl ?_
  refine xj_aload_n (i := 0) d3_5_23 rfl rfl ?_
  refine xj_get d3_5_24 f3_10_6 ((ho1 b (by omega)).trans kbo) (by omega) (show b < M1.1 by omega) rfl ?_
  refine xj_iload_n (i := 3) d3_5_27 rfl rfl ?_
  refine xj_callV (rest := [.ref M.1, .ref M.1, .int (nI l.length), .ref p]) (As := [.int (nI l.length)]) (b := p) (cGet hg (M := M1) (n := M.1 + 1) (a := p) (e := e9) (mo := mo9) (cap := cap9) (f := fun i => (l.map ad ++ [y])[i]?) (sz := l.length + 1) (k := l.length) (b := y) (show M1.1 = M.1 + 1 by omega) (by omega) (by omega) (by omega) ((ho1 p (by omega)).trans q9) (by omega) (by omega) ((ho1 e9 (by omega)).trans q12) (by omega) (by omega) (by omega) hgl) d3_5_28 wd28_20 ((ho1 p (by omega)).trans q9) (by omega) (show p < M1.1 by omega) rfl w248 w247 (Or.inl w479) rfl rfl (Nat.le_of_ble_eq_true rfl) (by omega) (by omega) (by omega) ?_
  rintro v M' ⟨rfl, hm⟩
  subst M'
  refine xj_cast d3_5_31 w487 ((ho1 y (by omega)).trans x3) (by omega) (show y < M1.1 by omega) hc_y hP_y ?_
  refine xj_iload_n (i := 1) d3_5_34 rfl rfl ?_
  refine xj_iload_n (i := 2) d3_5_35 rfl rfl ?_
  refine xj_callI (rest := [.ref M.1, .int (nI l.length), .ref p]) (As := [.ref y, .int ls, .int (nI m9)]) (b := M.1) (cRepN hg hZ hT (M := M1) (n := M.1 + 1) (a := M.1) (pt := y) (ls := ls) (m9 := m9) (show M1.1 = M.1 + 1 by omega) (by omega) (by omega) (by omega) ha1 (by omega)) d3_5_36 wd9_1 rfl w489 (Or.inl w488) rfl rfl (Nat.le_of_ble_eq_true rfl) (by omega) (by omega) (by omega) ?_
  rintro v M2 ⟨rfl, hs2, ho2, hf2_0, hf2_1, hf2_2, hf2_3, hf2_4, hf2_5, hf2_6⟩
  replace hs2 : M2.1 = M.1 + 7 := hs2
  replace hf2_0 : M2.2 M.1 = (.inr (9, [.ref y, .int ls, .int (nI m9), .ref (M.1 + 1), .null, .int 0, .int 0, .null])) := hf2_0
  replace hf2_1 : M2.2 (M.1 + 1) = (.inr (7, [.ref (M.1 + 2), .ref (M.1 + 3), .ref (M.1 + 4), .int 1])) := hf2_1
  replace hf2_2 : M2.2 (M.1 + 2) = (.inr (2, [.ref 1, .int 0, .int 0])) := hf2_2
  replace hf2_3 : M2.2 (M.1 + 3) = (.inr (2, [.ref 1, .int 0, .int 0])) := hf2_3
  replace hf2_4 : M2.2 (M.1 + 4) = (.inr (8, [.ref (M.1 + 5), .ref (M.1 + 6), .int 1])) := hf2_4
  replace hf2_5 : M2.2 (M.1 + 5) = (.inl (1, 60, .inl (fun _ => 0))) := hf2_5
  replace hf2_6 : M2.2 (M.1 + 6) = (.inl (0, 5, .inl (fun _ => 0))) := hf2_6
  have hsz : M2.1 = M.1 + 7 := by omega
  have hH3 := cH_grow (ow' := owN ow M.1 4 7 M.1) (rk' := rkN rk M.1 [(3 * A.length + 100), (3 * A.length + 100) + 1, (3 * A.length + 100) + 1, (3 * A.length + 100) + 2]) hH (show M.1 ≤ M2.1 by omega) (fun y hy => owN_o hy) (fun y hy => rkN_o hy) (fun y hy => ((ho2 y (by omega) (by omega)).trans (ho1 y (by omega))))
  have hnd : cNd M2 (owN ow M.1 4 7 M.1) (rkN rk M.1 [(3 * A.length + 100), (3 * A.length + 100) + 1, (3 * A.length + 100) + 1, (3 * A.length + 100) + 2]) ad ((3 * A.length + 100) + 1) (M.1 + 1) lk0.2 := cNd_new (by omega) (by omega) (owN_s (by omega) (by omega)) (owN_s (by omega) (by omega)) (owN_s (by omega) (by omega)) (owN_1 (by omega) (by omega)) (owN_1 (by omega) (by omega)) (owN_1 (by omega) (by omega)) (rkN_n 1) (rkN_n 2) (rkN_n 3) hf2_1 hf2_2 hf2_3 hf2_4 hf2_5 hf2_6
  have hX3 : cN M2 (owN ow M.1 4 7 M.1) (rkN rk M.1 [(3 * A.length + 100), (3 * A.length + 100) + 1, (3 * A.length + 100) + 1, (3 * A.length + 100) + 2]) ad (3 * A.length + 100) M.1 lk0 (0, 0, 0, fun _ => 0) (4, w9, [e], ls, nI m9, pNo) := cN_rep (by omega) (by omega) (owN_s (by omega) (by omega)) (rkN_n 0) (by rw [hye]; exact hf2_0) hnd (Or.inr ⟨(fun q => absurd (show (-1 : Int32) < 0 by decide) (by rw [← q]; exact nI_pos (by omega))), rfl⟩) rfl rfl
  refine xj_callV (rest := []) (As := [.int (nI l.length), .ref M.1]) (b := p) (cSet hg (M := M2) (n := M.1 + 7) (a := p) (e := e9) (mo := mo9) (cap := cap9) (f := fun i => (l.map ad ++ [y])[i]?) (sz := l.length + 1) (k := l.length) (b := y) (q := M.1) (bc_q := 9) (bf_q := [.ref y, .int ls, .int (nI m9), .ref (M.1 + 1), .null, .int 0, .int 0, .null]) (bC_q := Rc9) (bT_q := Tc9) (bN_q := 8) (show M2.1 = M.1 + 7 by omega) (by omega) (by omega) (by omega) ((ho2 p (by omega) (by omega)).trans ((ho1 p (by omega)).trans q9)) (by omega) (by omega) ((ho2 e9 (by omega) (by omega)).trans ((ho1 e9 (by omega)).trans q12)) (by omega) (by omega) hf2_0 (by omega) (by omega) (by omega) hgl (by omega) (by omega) rfl (Or.inr w1400)) d3_5_39 wd28_23 ((ho2 p (by omega) (by omega)).trans ((ho1 p (by omega)).trans q9)) (by omega) (show p < M2.1 by omega) rfl w520 w519 (Or.inl w518) rfl rfl (Nat.le_of_ble_eq_true rfl) (by omega) (by omega) (by omega) ?_
  rintro v M3 ⟨rfl, hs3, ho3, hf3_0⟩
  replace hs3 : M3.1 = M.1 + 7 := hs3
  replace hf3_0 : M3.2 e9 = (.inl (4, cap9, .inr (.inr (.inr (.inr (va_up (fun i => (l.map ad ++ [y])[i]?) l.length (some M.1))))))) := hf3_0
  refine xj_pop d3_5_42 rfl ?_
  exact xj_ret d3_5_43 (by omega) (by omega) rfl ⟨rfl, ga, fg, _, _, _, gA, bA, _, cH_put (l' := l) hH3 (by rw [eb]; exact ((ho2 b (by omega) (by omega)).trans ((ho1 b (by omega)).trans kbo))) hX3 z1 (show M2.1 ≤ M3.1 by omega) (fun y hy => rfl) (fun y hy hne => (ho3 y (by omega) (fun z => hne (by rw [z]; exact (owN_o (by omega)).trans q13)))) ⟨e9, mo9, cap9, (by rw [List.length_append, List.length_map]; exact ((ho3 p (by omega) (by omega)).trans ((ho2 p (by omega) (by omega)).trans ((ho1 p (by omega)).trans q9)))), by rw [List.length_append, List.length_map]; show l.length + 1 ≤ cap9; omega, q10, q11, Or.inr ⟨(owN_o (by omega)).trans q13, by omega, by omega, (by rw [hf3_0, ← List.length_map (f := ad) (as := l), xl_set])⟩⟩ y1 hll (fun i q hq => (y2 i q hq).1) (fun c hc => by rw [List.mem_singleton.mp hc]; exact hec)⟩

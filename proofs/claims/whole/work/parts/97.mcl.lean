theorem pClose_eq {a : Nat} {x : Int32} {A : List xNode} {t t2 : List Nat × List Nat} {r2 : List (List Nat × List Nat)} (h0 : ¬ t.2 = []) : pClose (a, x, A, t :: t2 :: r2) = (a, x, (A ++ [(5, pSum A t.2, t.2, 0, 0, pNo)]) ++ [(6, pSumG (A ++ [(5, pSum A t.2, t.2, 0, 0, pNo)]) (t.1 ++ [A.length]), t.1 ++ [A.length], 0, 0, pNo)], (t2.1, t2.2 ++ [(A ++ [(5, pSum A t.2, t.2, 0, 0, pNo)]).length]) :: r2) := by
  unfold pClose
  rw [if_neg (by show ¬ r2.length + 1 + 1 ≤ 1; omega), if_neg (show ¬ (pTop (a, x, A, t :: t2 :: r2)).2 = [] from h0)]
  rfl
set_option maxRecDepth 20000 in
set_option maxHeartbeats 1000000 in
theorem rCloseE {G : xG} (hg : xGood G) (hxn : xn = 16) {dl pl vc tk hc sn : Nat} {y33 y36 y37 y38 y39 : Int32} {fp : Nat → Int32} {M0 M : xM} (h52 : 52 ≤ M0.1) {a : Nat} {A : List xNode} {t t2 : List Nat × List Nat} {r2 : List (List Nat × List Nat)} (hR0 : mR dl pl vc tk hc sn y33 y36 y37 y38 y39 fp M0 M (a, 0, A, t :: t2 :: r2)) (ha : A.length + r2.length + 2 ≤ a) (h0 : ¬ t.2 = []) (h2 : t2.2 = []) : XC G Y14_37 none 2 0 0 [.ref 24] M (fun v M' => v = none ∧ mR dl pl vc tk hc sn y33 y36 y37 y38 y39 fp M0 M' (pClose (a, 0, A, t :: t2 :: r2))) := by
  rw [pClose_eq h0]
  obtain ⟨A1, hQ⟩ : ∃ A1, A ++ [(5, pSum A t.2, t.2, 0, 0, pNo)] = A1 := ⟨_, rfl⟩
  rw [hQ]
  obtain ⟨⟨i1, i2⟩, k32, np, kd, ch, nx, be, lo, hi, wt, cs, fP, lP, fB, lB, hnp, k24, k33, k34, k35, k36, k37, k38, k39, k40, k41, k42, k43, k44, hA, hW⟩ := id hR0
  subst hnp
  replace k24 : M.2 24 = (.inr (12, [.ref 25, .ref 26, .ref 27, .ref 28, .ref 29, .ref 30, .int (nI sn), .int (nI vc), .int (nI tk), .ref 31, .int (nI dl), .ref 32, .int (nI pl), .int (nI A.length), .ref 33, .ref 34, .ref 35, .ref 36, .ref 37, .ref 38, .ref 39, .ref 40, .int (nI a), .int (nI (r2.length + 1)), .int 0, .ref 41, .ref 42, .ref 43, .ref 44, .ref 45, .ref 46, .ref 47, .ref 48, .int y33, .ref 49, .ref 50, .int y36, .int y37, .int y38, .int y39, .int (nI hc), .ref 51])) := k24
  obtain ⟨g1, g2, g3⟩ := pW_tag hW
  have g1b : A.length + (r2.length + 1) ≤ a := g1
  have g3b : r2.length + 1 ≤ 6 := g3
  obtain ⟨l4, -, -, -, hb4⟩ := mA_last hA hW h0
  refine xc_of hg (by decide) (Nat.le_of_ble_eq_true rfl) (Or.inr (Or.inr (Or.inr (Or.inr (Or.inl ⟨rfl, rfl, fun v M' h => h.1⟩))))) ?_
  refine xj_aload_n (i := 0) d14_37_0 rfl rfl ?_
  refine xj_get d14_37_1 f14_139_12 k24 (by omega) (show 24 < M.1 by omega) rfl ?_
  refine xj_if_ne (tgt := 13) d14_37_4 rfl (fun _ => ?_) (fun h => absurd h (fun h => absurd ((nI_eq (a := r2.length + 1) (b := 0) (by omega) (by omega)).mp h) (by omega)))
  refine xj_aload_n (i := 0) d14_37_13 rfl rfl ?_
  refine xj_callV (rest := []) (As := []) (b := 24) (mBare hg (M := M) (n := M.1) (dl := dl) (pl := pl) (vc := vc) (tk := tk) (hc := hc) (sn := sn) (y24 := 0) (y33 := y33) (y36 := y36) (y37 := y37) (y38 := y38) (y39 := y39) (np := A.length) (a := a) (dp := r2.length + 1) (fP := fP) rfl (by omega) (by omega) (by omega) k24 (by omega) (by omega) k41 (by omega)) d14_37_14 wd14_21 k24 (by omega) (show 24 < M.1 by omega) rfl s14_21 w1224 (Or.inl w1222) rfl rfl (Nat.le_of_ble_eq_true rfl) (by omega) (by omega) (by omega) ?_
  rintro v M' ⟨rfl, hm⟩
  subst M'
  refine xj_if_eq (tgt := 26) d14_37_17 rfl (fun _ => ?_) (fun h => absurd (xB_f hb4) h)
  refine xj_aload_n (i := 0) d14_37_26 rfl rfl ?_
  refine xj_callV (rest := []) (As := []) (b := 24) (rEndB hg hxn h52 hR0 (by show A.length + (r2.length + 1) + 1 ≤ a; omega)) d14_37_27 wd14_24 k24 (by omega) (show 24 < M.1 by omega) rfl s14_24 w1228 (Or.inl w1226) rfl rfl (Nat.le_of_ble_eq_true rfl) (by omega) (by omega) (by omega) ?_
  rintro v M1 ⟨rfl, hR1⟩
  have hR1b : mR dl pl vc tk hc sn y33 y36 y37 y38 y39 fp M0 M1 (a, 0, A1, (t.1 ++ [A.length], []) :: t2 :: r2) := by rw [← hQ]; exact hR1
  obtain ⟨⟨j1, j2⟩, j32, np1, kd1, ch1, nx1, be1, lo1, hi1, wt1, cs1, fP1, lP1, fB1, lB1, hnp1, l24, l33, l34, l35, l36, l37, l38, l39, l40, l41, l42, l43, l44, hA1, hW1⟩ := hR1b
  have hnp2 : np1 = A1.length := hnp1
  subst hnp2
  replace l24 : M1.2 24 = (.inr (12, [.ref 25, .ref 26, .ref 27, .ref 28, .ref 29, .ref 30, .int (nI sn), .int (nI vc), .int (nI tk), .ref 31, .int (nI dl), .ref 32, .int (nI pl), .int (nI A1.length), .ref 33, .ref 34, .ref 35, .ref 36, .ref 37, .ref 38, .ref 39, .ref 40, .int (nI a), .int (nI (r2.length + 1)), .int 0, .ref 41, .ref 42, .ref 43, .ref 44, .ref 45, .ref 46, .ref 47, .ref 48, .int y33, .ref 49, .ref 50, .int y36, .int y37, .int y38, .int y39, .int (nI hc), .ref 51])) := l24
  obtain ⟨-, -, -, hcnt1, ow, w1, w2⟩ := id hW1
  have hcnt2 : A1.length + (r2.length + 1 + 1) ≤ a + 1 := hcnt1
  have w2 : ∀ e v, plv (a, 0, A1, (t.1 ++ [A.length], []) :: t2 :: r2) e = some v → (∀ c ∈ v.1, c < A1.length ∧ ow c = 1000 + 2 * e) ∧ (∀ c ∈ v.2, c < A1.length ∧ ow c = 1001 + 2 * e) ∧ v.1.Pairwise (fun x y => x < y) ∧ v.2.Pairwise (fun x y => x < y) := w2
  have htop := hA1.2 (r2.length + 1) (t.1 ++ [A.length], []) plv_mine
  have wtop := (w2 (r2.length + 1) (t.1 ++ [A.length], []) plv_mine).1
  have hA2 := mA_pop (a' := a) (x' := 0) hA1
  have hW2 : pW (a, 0, A1, t2 :: r2) := ⟨by simp, by show r2.length + 1 ≤ 7; omega, g2, by show A1.length + (r2.length + 1) ≤ a + 1; omega, ow, w1, fun e v hv => w2 e v (pW_pop hv)⟩
  have hb2 : fP1 r2.length < 0 := by rw [(mA_bare hA2 h2).1]; decide
  obtain ⟨n, hn⟩ : ∃ n, M1.1 = n := ⟨_, rfl⟩
  have hn2 : 52 ≤ n := by omega
  refine xj_aload_n (i := 0) d14_37_30 rfl rfl ?_
  refine xj_callV (rest := []) (As := []) (b := 24) (mWhole hg (M := M1) (n := n) (dl := dl) (pl := pl) (vc := vc) (tk := tk) (hc := hc) (sn := sn) (y24 := 0) (y33 := y33) (y36 := y36) (y37 := y37) (y38 := y38) (y39 := y39) (np := A1.length) (a := a) (dp := r2.length + 1) (kd := kd1) (ch := ch1) (nx := nx1) (wt := wt1) (cs := cs1) (fB := fB1) (l := t.1 ++ [A.length]) (show M1.1 = n by omega) (by omega) (by omega) (by omega) l24 (by omega) (by omega) l33 (by omega) (by omega) l34 (by omega) (by omega) l35 (by omega) (by omega) l39 (by omega) (by omega) l40 (by omega) (by omega) l43 hxn hn2 (by omega) (by omega) htop.2.1 (fun c hc => by have := (wtop c hc).1; omega)) d14_37_31 wd14_25 l24 (by omega) (show 24 < M1.1 by omega) rfl s14_25 w1236 (Or.inl w1234) rfl rfl (Nat.le_of_ble_eq_true rfl) (by omega) (by omega) (by omega) ?_
  rintro v M1 ⟨rfl, hs1, ho1, hf1_0, hf1_1, hf1_2, hf1_3, hf1_4, hf1_5⟩
  replace hs1 : M1.1 = n := hs1
  replace hf1_0 : M1.2 33 = (.inl (0, 30, .inl (upd kd1 A1.length 6))) := hf1_0
  replace hf1_1 : M1.2 39 = (.inl (0, 30, .inl (upd wt1 A1.length (List.foldl (fun w p => w + 1 + wt1 p) (-1) (t.1 ++ [A.length]))))) := hf1_1
  replace hf1_2 : M1.2 34 = (.inl (0, 30, .inl (upd (upd ch1 A1.length (-1)) A1.length (fB1 (r2.length + 1))))) := hf1_2
  replace hf1_3 : M1.2 35 = (.inl (0, 30, .inl (upd nx1 A1.length (-1)))) := hf1_3
  replace hf1_4 : M1.2 40 = (.inl (2, 2850, .inl (va_cpy (fun _ => 0) cs1 0 (95 * A1.length) 95))) := hf1_4
  replace hf1_5 : M1.2 24 = (.inr (12, [.ref 25, .ref 26, .ref 27, .ref 28, .ref 29, .ref 30, .int (nI sn), .int (nI vc), .int (nI tk), .ref 31, .int (nI dl), .ref 32, .int (nI pl), .int (nI (A1.length + 1)), .ref 33, .ref 34, .ref 35, .ref 36, .ref 37, .ref 38, .ref 39, .ref 40, .int (nI a), .int (nI (r2.length + 1)), .int 0, .ref 41, .ref 42, .ref 43, .ref 44, .ref 45, .ref 46, .ref 47, .ref 48, .int y33, .ref 49, .ref 50, .int y36, .int y37, .int y38, .int y39, .int (nI hc), .ref 51])) := hf1_5
  refine xj_istore_n (i := 1) (L' := [(1, .int (nI A1.length)), (0, .ref 24)]) d14_37_34 rfl (by decide) rfl ?_
  refine xj_aload_n (i := 0) d14_37_35 rfl rfl ?_
  refine xj_dup d14_37_36 rfl ?_
  refine xj_get d14_37_37 f14_139_12 hf1_5 (by omega) (show 24 < M1.1 by omega) rfl ?_
  refine xj_iconst (v := 1) d14_37_40 (by decide) ?_
  refine xj_isub (v := nI r2.length) d14_37_41 (nI_pred _) ?_
  refine xj_put (a := 24) (fs' := [.ref 25, .ref 26, .ref 27, .ref 28, .ref 29, .ref 30, .int (nI sn), .int (nI vc), .int (nI tk), .ref 31, .int (nI dl), .ref 32, .int (nI pl), .int (nI (A1.length + 1)), .ref 33, .ref 34, .ref 35, .ref 36, .ref 37, .ref 38, .ref 39, .ref 40, .int (nI a), .int (nI r2.length), .int 0, .ref 41, .ref 42, .ref 43, .ref 44, .ref 45, .ref 46, .ref 47, .ref 48, .int y33, .ref 49, .ref 50, .int y36, .int y37, .int y38, .int y39, .int (nI hc), .ref 51]) d14_37_42 f14_139_12 hf1_5 (by omega) (show 24 < M1.1 by omega) (Nat.le_of_ble_eq_true rfl) rfl rfl rfl ?_
  refine xj_abs_set (fun M2 hs2 ha2 ho2 => ?_)
  refine xj_aload_n (i := 0) d14_37_45 rfl rfl ?_
  refine xj_iload_n (i := 1) d14_37_46 rfl rfl ?_
  refine xj_callV (rest := []) (As := [.int (nI A1.length)]) (b := 24) (mAddPE hg (M := M2) (n := n) (dl := dl) (pl := pl) (vc := vc) (tk := tk) (hc := hc) (sn := sn) (y24 := 0) (y33 := y33) (y36 := y36) (y37 := y37) (y38 := y38) (y39 := y39) (np := A1.length + 1) (a := a) (dp := r2.length) (be := be1) (fP := fP1) (lP := lP1) (nx := upd nx1 A1.length (-1)) (m := A1.length) (show M2.1 = n by omega) (by omega) (by omega) (by omega) ha2 (by omega) (by omega) ((ho2 36 (by omega)).trans ((ho1 36 (by omega) (by omega) (by omega) (by omega) (by omega) (by omega) (by omega)).trans l36)) (by omega) (by omega) ((ho2 41 (by omega)).trans ((ho1 41 (by omega) (by omega) (by omega) (by omega) (by omega) (by omega) (by omega)).trans l41)) (by omega) (by omega) ((ho2 42 (by omega)).trans ((ho1 42 (by omega) (by omega) (by omega) (by omega) (by omega) (by omega) (by omega)).trans l42)) (by omega) (by omega) ((ho2 35 (by omega)).trans hf1_3) hxn hn2 (by omega) (by omega) hb2) d14_37_47 wd14_22 ha2 (by omega) (show 24 < M2.1 by omega) rfl s14_22 w1240 (Or.inl w1238) rfl rfl (Nat.le_of_ble_eq_true rfl) (by omega) (by omega) (by omega) ?_
  rintro v M3 ⟨rfl, hs3, ho3, hf3_0, hf3_1, hf3_2⟩
  replace hs3 : M3.1 = n := hs3
  replace hf3_0 : M3.2 36 = (.inl (0, 30, .inl (upd be1 A1.length (lP1 r2.length)))) := hf3_0
  replace hf3_1 : M3.2 41 = (.inl (0, 7, .inl (upd fP1 r2.length (nI A1.length)))) := hf3_1
  replace hf3_2 : M3.2 42 = (.inl (0, 7, .inl (upd lP1 r2.length (nI A1.length)))) := hf3_2
  refine xj_ret d14_37_50 (by omega) (by omega) rfl ⟨rfl, ⟨(show M3.1 = M0.1 by omega), fun j h1 h2 h3 => ((ho3 j (by omega) (by omega) (by omega) (by omega)).trans ((ho2 j (by omega)).trans (ho1 j (by omega) (by omega) (by omega) (by omega) (by omega) (by omega) (by omega)))).trans (j2 j h1 h2 h3)⟩, ((ho3 32 (by omega) (by omega) (by omega) (by omega)).trans ((ho2 32 (by omega)).trans (ho1 32 (by omega) (by omega) (by omega) (by omega) (by omega) (by omega) (by omega)))).trans j32, A1.length + 1, (upd kd1 A1.length 6), (upd (upd ch1 A1.length (-1)) A1.length (fB1 (r2.length + 1))), (upd nx1 A1.length (-1)), (upd be1 A1.length (lP1 r2.length)), lo1, hi1, (upd wt1 A1.length (List.foldl (fun w p => w + 1 + wt1 p) (-1) (t.1 ++ [A.length]))), (va_cpy (fun _ => 0) cs1 0 (95 * A1.length) 95), (upd fP1 r2.length (nI A1.length)), (upd lP1 r2.length (nI A1.length)), fB1, lB1, xlen1 A1 _, ((ho3 24 (by omega) (by omega) (by omega) (by omega)).trans ha2), ((ho3 33 (by omega) (by omega) (by omega) (by omega)).trans ((ho2 33 (by omega)).trans hf1_0)), ((ho3 34 (by omega) (by omega) (by omega) (by omega)).trans ((ho2 34 (by omega)).trans hf1_2)), ((ho3 35 (by omega) (by omega) (by omega) (by omega)).trans ((ho2 35 (by omega)).trans hf1_3)), hf3_0, ((ho3 37 (by omega) (by omega) (by omega) (by omega)).trans ((ho2 37 (by omega)).trans ((ho1 37 (by omega) (by omega) (by omega) (by omega) (by omega) (by omega) (by omega)).trans l37))), ((ho3 38 (by omega) (by omega) (by omega) (by omega)).trans ((ho2 38 (by omega)).trans ((ho1 38 (by omega) (by omega) (by omega) (by omega) (by omega) (by omega) (by omega)).trans l38))), ((ho3 39 (by omega) (by omega) (by omega) (by omega)).trans ((ho2 39 (by omega)).trans hf1_1)), ((ho3 40 (by omega) (by omega) (by omega) (by omega)).trans ((ho2 40 (by omega)).trans hf1_4)), hf3_1, hf3_2, ((ho3 43 (by omega) (by omega) (by omega) (by omega)).trans ((ho2 43 (by omega)).trans ((ho1 43 (by omega) (by omega) (by omega) (by omega) (by omega) (by omega) (by omega)).trans l43))), ((ho3 44 (by omega) (by omega) (by omega) (by omega)).trans ((ho2 44 (by omega)).trans ((ho1 44 (by omega) (by omega) (by omega) (by omega) (by omega) (by omega) (by omega)).trans l44))), ?_, ?_⟩
  · exact mA_pcE hA2 hW2 h2 (fun i hi => ⟨if_neg (by omega), if_neg (by omega), (if_neg (by omega)).trans (if_neg (by omega)), fun c hc => by rw [va_cpy, if_neg (by omega)]⟩) ⟨if_pos rfl, (if_pos rfl).trans (xfold_g _ _ (fun c hc => (mA_wt hA1 (wtop c hc).1).1)), fun z => absurd z (show ¬ (6 : Nat) = 1 by decide), fun z => absurd z (show ¬ (6 : Nat) = 4 by decide), fun _ => by rw [show (upd (upd ch1 A1.length (-1)) A1.length (fB1 (r2.length + 1))) A1.length = fB1 (r2.length + 1) from if_pos rfl]; exact xCn_fr htop.2.1 (fun c hc => if_neg (by have := (wtop c hc).1; omega))⟩
  · exact pW_piece hW2 (τ := 1000 + 2 * (r2.length + 1)) (ow := ow) w1 (fun e v hv => w2 e v (pW_pop hv)) (by omega) wtop (by omega) g2
set_option maxRecDepth 20000 in
set_option maxHeartbeats 1000000 in
theorem rCloseN {G : xG} (hg : xGood G) (hxn : xn = 16) {dl pl vc tk hc sn : Nat} {y33 y36 y37 y38 y39 : Int32} {fp : Nat → Int32} {M0 M : xM} (h52 : 52 ≤ M0.1) {a : Nat} {A : List xNode} {t t2 : List Nat × List Nat} {r2 : List (List Nat × List Nat)} (hR0 : mR dl pl vc tk hc sn y33 y36 y37 y38 y39 fp M0 M (a, 0, A, t :: t2 :: r2)) (ha : A.length + r2.length + 2 ≤ a) (h0 : ¬ t.2 = []) (h2 : ¬ t2.2 = []) : XC G Y14_37 none 2 0 0 [.ref 24] M (fun v M' => v = none ∧ mR dl pl vc tk hc sn y33 y36 y37 y38 y39 fp M0 M' (pClose (a, 0, A, t :: t2 :: r2))) := by
  rw [pClose_eq h0]
  obtain ⟨A1, hQ⟩ : ∃ A1, A ++ [(5, pSum A t.2, t.2, 0, 0, pNo)] = A1 := ⟨_, rfl⟩
  rw [hQ]
  obtain ⟨⟨i1, i2⟩, k32, np, kd, ch, nx, be, lo, hi, wt, cs, fP, lP, fB, lB, hnp, k24, k33, k34, k35, k36, k37, k38, k39, k40, k41, k42, k43, k44, hA, hW⟩ := id hR0
  subst hnp
  replace k24 : M.2 24 = (.inr (12, [.ref 25, .ref 26, .ref 27, .ref 28, .ref 29, .ref 30, .int (nI sn), .int (nI vc), .int (nI tk), .ref 31, .int (nI dl), .ref 32, .int (nI pl), .int (nI A.length), .ref 33, .ref 34, .ref 35, .ref 36, .ref 37, .ref 38, .ref 39, .ref 40, .int (nI a), .int (nI (r2.length + 1)), .int 0, .ref 41, .ref 42, .ref 43, .ref 44, .ref 45, .ref 46, .ref 47, .ref 48, .int y33, .ref 49, .ref 50, .int y36, .int y37, .int y38, .int y39, .int (nI hc), .ref 51])) := k24
  obtain ⟨g1, g2, g3⟩ := pW_tag hW
  have g1b : A.length + (r2.length + 1) ≤ a := g1
  have g3b : r2.length + 1 ≤ 6 := g3
  obtain ⟨l4, -, -, -, hb4⟩ := mA_last hA hW h0
  refine xc_of hg (by decide) (Nat.le_of_ble_eq_true rfl) (Or.inr (Or.inr (Or.inr (Or.inr (Or.inl ⟨rfl, rfl, fun v M' h => h.1⟩))))) ?_
  refine xj_aload_n (i := 0) d14_37_0 rfl rfl ?_
  refine xj_get d14_37_1 f14_139_12 k24 (by omega) (show 24 < M.1 by omega) rfl ?_
  refine xj_if_ne (tgt := 13) d14_37_4 rfl (fun _ => ?_) (fun h => absurd h (fun h => absurd ((nI_eq (a := r2.length + 1) (b := 0) (by omega) (by omega)).mp h) (by omega)))
  refine xj_aload_n (i := 0) d14_37_13 rfl rfl ?_
  refine xj_callV (rest := []) (As := []) (b := 24) (mBare hg (M := M) (n := M.1) (dl := dl) (pl := pl) (vc := vc) (tk := tk) (hc := hc) (sn := sn) (y24 := 0) (y33 := y33) (y36 := y36) (y37 := y37) (y38 := y38) (y39 := y39) (np := A.length) (a := a) (dp := r2.length + 1) (fP := fP) rfl (by omega) (by omega) (by omega) k24 (by omega) (by omega) k41 (by omega)) d14_37_14 wd14_21 k24 (by omega) (show 24 < M.1 by omega) rfl s14_21 w1224 (Or.inl w1222) rfl rfl (Nat.le_of_ble_eq_true rfl) (by omega) (by omega) (by omega) ?_
  rintro v M' ⟨rfl, hm⟩
  subst M'
  refine xj_if_eq (tgt := 26) d14_37_17 rfl (fun _ => ?_) (fun h => absurd (xB_f hb4) h)
  refine xj_aload_n (i := 0) d14_37_26 rfl rfl ?_
  refine xj_callV (rest := []) (As := []) (b := 24) (rEndB hg hxn h52 hR0 (by show A.length + (r2.length + 1) + 1 ≤ a; omega)) d14_37_27 wd14_24 k24 (by omega) (show 24 < M.1 by omega) rfl s14_24 w1228 (Or.inl w1226) rfl rfl (Nat.le_of_ble_eq_true rfl) (by omega) (by omega) (by omega) ?_
  rintro v M1 ⟨rfl, hR1⟩
  have hR1b : mR dl pl vc tk hc sn y33 y36 y37 y38 y39 fp M0 M1 (a, 0, A1, (t.1 ++ [A.length], []) :: t2 :: r2) := by rw [← hQ]; exact hR1
  obtain ⟨⟨j1, j2⟩, j32, np1, kd1, ch1, nx1, be1, lo1, hi1, wt1, cs1, fP1, lP1, fB1, lB1, hnp1, l24, l33, l34, l35, l36, l37, l38, l39, l40, l41, l42, l43, l44, hA1, hW1⟩ := hR1b
  have hnp2 : np1 = A1.length := hnp1
  subst hnp2
  replace l24 : M1.2 24 = (.inr (12, [.ref 25, .ref 26, .ref 27, .ref 28, .ref 29, .ref 30, .int (nI sn), .int (nI vc), .int (nI tk), .ref 31, .int (nI dl), .ref 32, .int (nI pl), .int (nI A1.length), .ref 33, .ref 34, .ref 35, .ref 36, .ref 37, .ref 38, .ref 39, .ref 40, .int (nI a), .int (nI (r2.length + 1)), .int 0, .ref 41, .ref 42, .ref 43, .ref 44, .ref 45, .ref 46, .ref 47, .ref 48, .int y33, .ref 49, .ref 50, .int y36, .int y37, .int y38, .int y39, .int (nI hc), .ref 51])) := l24
  obtain ⟨-, -, -, hcnt1, ow, w1, w2⟩ := id hW1
  have hcnt2 : A1.length + (r2.length + 1 + 1) ≤ a + 1 := hcnt1
  have w2 : ∀ e v, plv (a, 0, A1, (t.1 ++ [A.length], []) :: t2 :: r2) e = some v → (∀ c ∈ v.1, c < A1.length ∧ ow c = 1000 + 2 * e) ∧ (∀ c ∈ v.2, c < A1.length ∧ ow c = 1001 + 2 * e) ∧ v.1.Pairwise (fun x y => x < y) ∧ v.2.Pairwise (fun x y => x < y) := w2
  have htop := hA1.2 (r2.length + 1) (t.1 ++ [A.length], []) plv_mine
  have wtop := (w2 (r2.length + 1) (t.1 ++ [A.length], []) plv_mine).1
  have hA2 := mA_pop (a' := a) (x' := 0) hA1
  have hW2 : pW (a, 0, A1, t2 :: r2) := ⟨by simp, by show r2.length + 1 ≤ 7; omega, g2, by show A1.length + (r2.length + 1) ≤ a + 1; omega, ow, w1, fun e v hv => w2 e v (pW_pop hv)⟩
  obtain ⟨ll, hl1, hl2, hl3, hb2⟩ := mA_last hA2 hW2 h2
  have hl5 : ow ll = 1001 + 2 * r2.length := ((w2 r2.length t2 (pW_pop (a' := a) (x' := 0) plv_mine)).2.1 ll (xlast_mem hl1)).2
  obtain ⟨n, hn⟩ : ∃ n, M1.1 = n := ⟨_, rfl⟩
  have hn2 : 52 ≤ n := by omega
  refine xj_aload_n (i := 0) d14_37_30 rfl rfl ?_
  refine xj_callV (rest := []) (As := []) (b := 24) (mWhole hg (M := M1) (n := n) (dl := dl) (pl := pl) (vc := vc) (tk := tk) (hc := hc) (sn := sn) (y24 := 0) (y33 := y33) (y36 := y36) (y37 := y37) (y38 := y38) (y39 := y39) (np := A1.length) (a := a) (dp := r2.length + 1) (kd := kd1) (ch := ch1) (nx := nx1) (wt := wt1) (cs := cs1) (fB := fB1) (l := t.1 ++ [A.length]) (show M1.1 = n by omega) (by omega) (by omega) (by omega) l24 (by omega) (by omega) l33 (by omega) (by omega) l34 (by omega) (by omega) l35 (by omega) (by omega) l39 (by omega) (by omega) l40 (by omega) (by omega) l43 hxn hn2 (by omega) (by omega) htop.2.1 (fun c hc => by have := (wtop c hc).1; omega)) d14_37_31 wd14_25 l24 (by omega) (show 24 < M1.1 by omega) rfl s14_25 w1236 (Or.inl w1234) rfl rfl (Nat.le_of_ble_eq_true rfl) (by omega) (by omega) (by omega) ?_
  rintro v M1 ⟨rfl, hs1, ho1, hf1_0, hf1_1, hf1_2, hf1_3, hf1_4, hf1_5⟩
  replace hs1 : M1.1 = n := hs1
  replace hf1_0 : M1.2 33 = (.inl (0, 30, .inl (upd kd1 A1.length 6))) := hf1_0
  replace hf1_1 : M1.2 39 = (.inl (0, 30, .inl (upd wt1 A1.length (List.foldl (fun w p => w + 1 + wt1 p) (-1) (t.1 ++ [A.length]))))) := hf1_1
  replace hf1_2 : M1.2 34 = (.inl (0, 30, .inl (upd (upd ch1 A1.length (-1)) A1.length (fB1 (r2.length + 1))))) := hf1_2
  replace hf1_3 : M1.2 35 = (.inl (0, 30, .inl (upd nx1 A1.length (-1)))) := hf1_3
  replace hf1_4 : M1.2 40 = (.inl (2, 2850, .inl (va_cpy (fun _ => 0) cs1 0 (95 * A1.length) 95))) := hf1_4
  replace hf1_5 : M1.2 24 = (.inr (12, [.ref 25, .ref 26, .ref 27, .ref 28, .ref 29, .ref 30, .int (nI sn), .int (nI vc), .int (nI tk), .ref 31, .int (nI dl), .ref 32, .int (nI pl), .int (nI (A1.length + 1)), .ref 33, .ref 34, .ref 35, .ref 36, .ref 37, .ref 38, .ref 39, .ref 40, .int (nI a), .int (nI (r2.length + 1)), .int 0, .ref 41, .ref 42, .ref 43, .ref 44, .ref 45, .ref 46, .ref 47, .ref 48, .int y33, .ref 49, .ref 50, .int y36, .int y37, .int y38, .int y39, .int (nI hc), .ref 51])) := hf1_5
  refine xj_istore_n (i := 1) (L' := [(1, .int (nI A1.length)), (0, .ref 24)]) d14_37_34 rfl (by decide) rfl ?_
  refine xj_aload_n (i := 0) d14_37_35 rfl rfl ?_
  refine xj_dup d14_37_36 rfl ?_
  refine xj_get d14_37_37 f14_139_12 hf1_5 (by omega) (show 24 < M1.1 by omega) rfl ?_
  refine xj_iconst (v := 1) d14_37_40 (by decide) ?_
  refine xj_isub (v := nI r2.length) d14_37_41 (nI_pred _) ?_
  refine xj_put (a := 24) (fs' := [.ref 25, .ref 26, .ref 27, .ref 28, .ref 29, .ref 30, .int (nI sn), .int (nI vc), .int (nI tk), .ref 31, .int (nI dl), .ref 32, .int (nI pl), .int (nI (A1.length + 1)), .ref 33, .ref 34, .ref 35, .ref 36, .ref 37, .ref 38, .ref 39, .ref 40, .int (nI a), .int (nI r2.length), .int 0, .ref 41, .ref 42, .ref 43, .ref 44, .ref 45, .ref 46, .ref 47, .ref 48, .int y33, .ref 49, .ref 50, .int y36, .int y37, .int y38, .int y39, .int (nI hc), .ref 51]) d14_37_42 f14_139_12 hf1_5 (by omega) (show 24 < M1.1 by omega) (Nat.le_of_ble_eq_true rfl) rfl rfl rfl ?_
  refine xj_abs_set (fun M2 hs2 ha2 ho2 => ?_)
  refine xj_aload_n (i := 0) d14_37_45 rfl rfl ?_
  refine xj_iload_n (i := 1) d14_37_46 rfl rfl ?_
  refine xj_callV (rest := []) (As := [.int (nI A1.length)]) (b := 24) (mAddPN hg (M := M2) (n := n) (dl := dl) (pl := pl) (vc := vc) (tk := tk) (hc := hc) (sn := sn) (y24 := 0) (y33 := y33) (y36 := y36) (y37 := y37) (y38 := y38) (y39 := y39) (np := A1.length + 1) (a := a) (dp := r2.length) (be := be1) (fP := fP1) (lP := lP1) (nx := upd nx1 A1.length (-1)) (m := A1.length) (ll := ll) (show M2.1 = n by omega) (by omega) (by omega) (by omega) ha2 (by omega) (by omega) ((ho2 36 (by omega)).trans ((ho1 36 (by omega) (by omega) (by omega) (by omega) (by omega) (by omega) (by omega)).trans l36)) (by omega) (by omega) ((ho2 41 (by omega)).trans ((ho1 41 (by omega) (by omega) (by omega) (by omega) (by omega) (by omega) (by omega)).trans l41)) (by omega) (by omega) ((ho2 42 (by omega)).trans ((ho1 42 (by omega) (by omega) (by omega) (by omega) (by omega) (by omega) (by omega)).trans l42)) (by omega) (by omega) ((ho2 35 (by omega)).trans hf1_3) hxn hn2 (by omega) (by omega) hb2 hl2 (by omega)) d14_37_47 wd14_22 ha2 (by omega) (show 24 < M2.1 by omega) rfl s14_22 w1240 (Or.inl w1238) rfl rfl (Nat.le_of_ble_eq_true rfl) (by omega) (by omega) (by omega) ?_
  rintro v M3 ⟨rfl, hs3, ho3, hf3_0, hf3_1, hf3_2⟩
  replace hs3 : M3.1 = n := hs3
  replace hf3_0 : M3.2 36 = (.inl (0, 30, .inl (upd be1 A1.length (nI ll)))) := hf3_0
  replace hf3_1 : M3.2 35 = (.inl (0, 30, .inl (upd (upd nx1 A1.length (-1)) ll (nI A1.length)))) := hf3_1
  replace hf3_2 : M3.2 42 = (.inl (0, 7, .inl (upd lP1 r2.length (nI A1.length)))) := hf3_2
  refine xj_ret d14_37_50 (by omega) (by omega) rfl ⟨rfl, ⟨(show M3.1 = M0.1 by omega), fun j h1 h2 h3 => ((ho3 j (by omega) (by omega) (by omega) (by omega)).trans ((ho2 j (by omega)).trans (ho1 j (by omega) (by omega) (by omega) (by omega) (by omega) (by omega) (by omega)))).trans (j2 j h1 h2 h3)⟩, ((ho3 32 (by omega) (by omega) (by omega) (by omega)).trans ((ho2 32 (by omega)).trans (ho1 32 (by omega) (by omega) (by omega) (by omega) (by omega) (by omega) (by omega)))).trans j32, A1.length + 1, (upd kd1 A1.length 6), (upd (upd ch1 A1.length (-1)) A1.length (fB1 (r2.length + 1))), (upd (upd nx1 A1.length (-1)) ll (nI A1.length)), (upd be1 A1.length (nI ll)), lo1, hi1, (upd wt1 A1.length (List.foldl (fun w p => w + 1 + wt1 p) (-1) (t.1 ++ [A.length]))), (va_cpy (fun _ => 0) cs1 0 (95 * A1.length) 95), fP1, (upd lP1 r2.length (nI A1.length)), fB1, lB1, xlen1 A1 _, ((ho3 24 (by omega) (by omega) (by omega) (by omega)).trans ha2), ((ho3 33 (by omega) (by omega) (by omega) (by omega)).trans ((ho2 33 (by omega)).trans hf1_0)), ((ho3 34 (by omega) (by omega) (by omega) (by omega)).trans ((ho2 34 (by omega)).trans hf1_2)), hf3_1, hf3_0, ((ho3 37 (by omega) (by omega) (by omega) (by omega)).trans ((ho2 37 (by omega)).trans ((ho1 37 (by omega) (by omega) (by omega) (by omega) (by omega) (by omega) (by omega)).trans l37))), ((ho3 38 (by omega) (by omega) (by omega) (by omega)).trans ((ho2 38 (by omega)).trans ((ho1 38 (by omega) (by omega) (by omega) (by omega) (by omega) (by omega) (by omega)).trans l38))), ((ho3 39 (by omega) (by omega) (by omega) (by omega)).trans ((ho2 39 (by omega)).trans hf1_1)), ((ho3 40 (by omega) (by omega) (by omega) (by omega)).trans ((ho2 40 (by omega)).trans hf1_4)), ((ho3 41 (by omega) (by omega) (by omega) (by omega)).trans ((ho2 41 (by omega)).trans ((ho1 41 (by omega) (by omega) (by omega) (by omega) (by omega) (by omega) (by omega)).trans l41))), hf3_2, ((ho3 43 (by omega) (by omega) (by omega) (by omega)).trans ((ho2 43 (by omega)).trans ((ho1 43 (by omega) (by omega) (by omega) (by omega) (by omega) (by omega) (by omega)).trans l43))), ((ho3 44 (by omega) (by omega) (by omega) (by omega)).trans ((ho2 44 (by omega)).trans ((ho1 44 (by omega) (by omega) (by omega) (by omega) (by omega) (by omega) (by omega)).trans l44))), ?_, ?_⟩
  · exact mA_pcN hA2 hW2 hl1 hl2 hl3 (fun i hi => ⟨if_neg (by omega), if_neg (by omega), (if_neg (by omega)).trans (if_neg (by omega)), fun c hc => by rw [va_cpy, if_neg (by omega)]⟩) ⟨if_pos rfl, (if_pos rfl).trans (xfold_g _ _ (fun c hc => (mA_wt hA1 (wtop c hc).1).1)), fun z => absurd z (show ¬ (6 : Nat) = 1 by decide), fun z => absurd z (show ¬ (6 : Nat) = 4 by decide), fun _ => by rw [show (upd (upd ch1 A1.length (-1)) A1.length (fB1 (r2.length + 1))) A1.length = fB1 (r2.length + 1) from if_pos rfl]; exact xCn_fr htop.2.1 (fun c hc => (if_neg (fun z => by have z1 := (wtop c hc).2; rw [z, hl5] at z1; omega)).trans (if_neg (by have := (wtop c hc).1; omega)))⟩
  · exact pW_piece hW2 (τ := 1000 + 2 * (r2.length + 1)) (ow := ow) w1 (fun e v hv => w2 e v (pW_pop hv)) (by omega) wtop (by omega) g2

theorem xnd_at {A : List xNode} {c : Nat} (h : c < A.length) : A[c]? = some (pNd A c) := by
  unfold pNd
  rw [List.getElem?_eq_getElem h]
  rfl
theorem xfold_w {wt : Nat → Int32} {A : List xNode} : ∀ (l : List Nat) (w : Int32), (∀ c ∈ l, wt c = (pNd A c).2.1) → l.foldl (fun w p => w + wt p) w = l.foldl (fun w p => w + (pNd A p).2.1) w
  | [], _, _ => rfl
  | c :: l, w, h => by
    show l.foldl _ (w + wt c) = l.foldl _ (w + (pNd A c).2.1)
    rw [h c List.mem_cons_self]
    exact xfold_w l _ (fun d hd => h d (List.mem_cons_of_mem _ hd))
theorem xfold_g {wt : Nat → Int32} {A : List xNode} : ∀ (l : List Nat) (w : Int32), (∀ c ∈ l, wt c = (pNd A c).2.1) → l.foldl (fun w p => w + 1 + wt p) w = l.foldl (fun w p => w + 1 + (pNd A p).2.1) w
  | [], _, _ => rfl
  | c :: l, w, h => by
    show l.foldl _ (w + 1 + wt c) = l.foldl _ (w + 1 + (pNd A c).2.1)
    rw [h c List.mem_cons_self]
    exact xfold_g l _ (fun d hd => h d (List.mem_cons_of_mem _ hd))
theorem mA_wt {a : Nat} {x : Int32} {A : List xNode} {L : List (List Nat × List Nat)} {kd ch nx be lo hi wt cs fP lP fB lB : Nat → Int32} (hA : mA kd ch nx be lo hi wt cs fP lP fB lB (a, x, A, L)) {c : Nat} (hc : c < A.length) : wt c = (pNd A c).2.1 ∧ kd c = nI (pNd A c).1 := by
  have h := hA.1 c (pNd A c) (xnd_at hc)
  exact ⟨h.2.1, h.1⟩
theorem pW_pop {a a' : Nat} {x x' : Int32} {A : List xNode} {b t : List Nat × List Nat} {r : List (List Nat × List Nat)} {e : Nat} {v : List Nat × List Nat} (hv : plv (a', x', A, t :: r) e = some v) : plv (a, x, A, b :: t :: r) e = some v := by
  unfold plv at hv ⊢
  simp only [List.length_cons] at hv ⊢
  by_cases he : e < r.length + 1
  · rw [if_pos he] at hv
    rw [if_pos (by omega), show r.length + 1 + 1 - 1 - e = (r.length + 1 - 1 - e) + 1 by omega]
    exact hv
  · rw [if_neg he] at hv
    cases hv
theorem rEndB {G : xG} (hg : xGood G) (hxn : xn = 16) {dl pl vc tk hc sn : Nat} {y33 y36 y37 y38 y39 : Int32} {fp : Nat → Int32} {M0 M : xM} (h52 : 52 ≤ M0.1) {a : Nat} {A : List xNode} {t : List Nat × List Nat} {r : List (List Nat × List Nat)} (hR : mR dl pl vc tk hc sn y33 y36 y37 y38 y39 fp M0 M (a, 0, A, t :: r)) (ha : A.length + r.length + 1 ≤ a) : XC G Y14_24 none 1 0 0 [.ref 24] M (fun v M' => v = none ∧ mR dl pl vc tk hc sn y33 y36 y37 y38 y39 fp M0 M' (pEndB (a, 0, A, t :: r))) := by
  obtain ⟨⟨i1, i2⟩, k32, np, kd, ch, nx, be, lo, hi, wt, cs, fP, lP, fB, lB, hnp, k24, k33, k34, k35, k36, k37, k38, k39, k40, k41, k42, k43, k44, hA, hW⟩ := hR
  subst hnp
  replace k24 : M.2 24 = (.inr (12, [.ref 25, .ref 26, .ref 27, .ref 28, .ref 29, .ref 30, .int (nI sn), .int (nI vc), .int (nI tk), .ref 31, .int (nI dl), .ref 32, .int (nI pl), .int (nI A.length), .ref 33, .ref 34, .ref 35, .ref 36, .ref 37, .ref 38, .ref 39, .ref 40, .int (nI a), .int (nI r.length), .int 0, .ref 41, .ref 42, .ref 43, .ref 44, .ref 45, .ref 46, .ref 47, .ref 48, .int y33, .ref 49, .ref 50, .int y36, .int y37, .int y38, .int y39, .int (nI hc), .ref 51])) := k24
  obtain ⟨g1, g2, g3⟩ := pW_tag hW
  have hlS := hA.2 r.length t plv_mine
  have hm1 : ∀ c ∈ t.1, c < A.length := fun c hc => by
    obtain ⟨-, -, -, -, ow, w1, w2⟩ := hW
    exact ((w2 r.length t plv_mine).1 c hc).1
  have hm2 : ∀ c ∈ t.2, c < A.length := fun c hc => by
    obtain ⟨-, -, -, -, ow, w1, w2⟩ := hW
    exact ((w2 r.length t plv_mine).2.1 c hc).1
  by_cases h0 : t.1 = []
  · have hb : fB r.length = -1 := by have z := hlS.2.1; rw [h0] at z; exact z
    refine xc_wk (mEndBE hg (M := M) (n := M.1) (np := A.length) (a := a) (dp := r.length) (l := t.2) rfl (by omega) (by omega) (by omega) k24 (by omega) (by omega) k33 (by omega) (by omega) k34 (by omega) (by omega) k35 (by omega) (by omega) k39 (by omega) (by omega) k40 (by omega) (by omega) k41 (by omega) (by omega) k42 (by omega) (by omega) k43 (by omega) (by omega) k44 hxn (by omega) (by omega) (by omega) hlS.1 (fun c hc => by have := hm2 c hc; omega) hb) (Nat.le_refl _) (Nat.le_refl _) (Nat.le_refl _) ?_
    rintro v M' ⟨rfl, e1, e2, e33, e39, e34, e35, e40, e24, e43, e44, e41, e42⟩
    exact ⟨rfl, ⟨e1.trans i1, fun j h1 h2 h3 => (e2 j (by omega) (by omega) (by omega) (by omega) (by omega) (by omega) (by omega) (by omega) (by omega) (by omega) (by omega)).trans (i2 j h1 h2 h3)⟩, (e2 32 (by omega) (by omega) (by omega) (by omega) (by omega) (by omega) (by omega) (by omega) (by omega) (by omega) (by omega)).trans k32, A.length + 1, (upd kd A.length 5), (upd (upd ch A.length (-1)) A.length (fP r.length)), (upd nx A.length (-1)), be, lo, hi, (upd wt A.length (List.foldl (fun w p => w + wt p) 0 t.2)), (va_cpy (fun _ => 0) cs 0 (95 * A.length) 95), (upd fP r.length (-1)), (upd lP r.length (-1)), (upd fB r.length (nI A.length)), (upd lB r.length (nI A.length)), (xlen1 A _), e24, e33, e34, e35, (e2 36 (by omega) (by omega) (by omega) (by omega) (by omega) (by omega) (by omega) (by omega) (by omega) (by omega) (by omega)).trans k36, (e2 37 (by omega) (by omega) (by omega) (by omega) (by omega) (by omega) (by omega) (by omega) (by omega) (by omega) (by omega)).trans k37, (e2 38 (by omega) (by omega) (by omega) (by omega) (by omega) (by omega) (by omega) (by omega) (by omega) (by omega) (by omega)).trans k38, e39, e40, e41, e42, e43, e44, mA_endB hA hW (fun i hi => ⟨if_neg (by omega), if_neg (by omega), (if_neg (by omega)).trans (if_neg (by omega)), rfl, rfl, fun c hc => by rw [va_cpy, if_neg (by omega)]⟩) (if_pos rfl) ((if_pos rfl).trans (xfold_w t.2 0 (fun c hc => (mA_wt hA (hm2 c hc)).1))) (if_pos rfl) (fun c hc _ => if_neg (by omega)) (fun c hc => by rw [h0] at hc; cases hc) (if_pos rfl) ((if_pos rfl).trans (if_pos h0).symm) (fun e he => if_neg (by omega)) (if_pos rfl) (fun e he => if_neg (by omega)) ⟨if_pos rfl, if_pos rfl⟩ (fun e he => ⟨if_neg (by omega), if_neg (by omega)⟩), pW_endB hW ha g2⟩
  · obtain ⟨b0, lb, hb0, hlb, hb1, hb2, hb3⟩ : ∃ b0 lb, fB r.length = nI b0 ∧ lB r.length = nI lb ∧ b0 < A.length ∧ lb < A.length ∧ some lb = t.1.getLast? := by
      rcases xsnoc t.1 with z | ⟨l9, y9, z⟩
      · exact absurd z h0
      · have hy : some y9 = t.1.getLast? := by rw [z, List.getLast?_concat]
        cases h9 : t.1 with
        | nil => exact absurd h9 h0
        | cons c9 l8 =>
          have q1 := hlS.2.1
          rw [h9] at q1
          refine ⟨c9, y9, q1.1, ?_, hm1 c9 (by rw [h9]; exact List.mem_cons_self), hm1 y9 (xlast_mem hy), by rw [← h9]; exact hy⟩
          rw [hlS.2.2.2.1, z, xla_app]
    refine xc_wk (mEndBN hg (M := M) (n := M.1) (np := A.length) (a := a) (dp := r.length) (l := t.2) (b0 := b0) (lb := lb) rfl (by omega) (by omega) (by omega) k24 (by omega) (by omega) k33 (by omega) (by omega) k34 (by omega) (by omega) k35 (by omega) (by omega) k39 (by omega) (by omega) k40 (by omega) (by omega) k41 (by omega) (by omega) k42 (by omega) (by omega) k43 (by omega) (by omega) k44 hxn (by omega) (by omega) (by omega) hlS.1 (fun c hc => by have := hm2 c hc; omega) hb0 (by omega) hlb (by omega)) (Nat.le_refl _) (Nat.le_refl _) (Nat.le_refl _) ?_
    rintro v M' ⟨rfl, e1, e2, e33, e39, e34, e35, e40, e24, e44, e41, e42⟩
    exact ⟨rfl, ⟨e1.trans i1, fun j h1 h2 h3 => (e2 j (by omega) (by omega) (by omega) (by omega) (by omega) (by omega) (by omega) (by omega) (by omega) (by omega)).trans (i2 j h1 h2 h3)⟩, (e2 32 (by omega) (by omega) (by omega) (by omega) (by omega) (by omega) (by omega) (by omega) (by omega) (by omega)).trans k32, A.length + 1, (upd kd A.length 5), (upd (upd ch A.length (-1)) A.length (fP r.length)), (upd (upd nx A.length (-1)) lb (nI A.length)), be, lo, hi, (upd wt A.length (List.foldl (fun w p => w + wt p) 0 t.2)), (va_cpy (fun _ => 0) cs 0 (95 * A.length) 95), (upd fP r.length (-1)), (upd lP r.length (-1)), fB, (upd lB r.length (nI A.length)), (xlen1 A _), e24, e33, e34, e35, (e2 36 (by omega) (by omega) (by omega) (by omega) (by omega) (by omega) (by omega) (by omega) (by omega) (by omega)).trans k36, (e2 37 (by omega) (by omega) (by omega) (by omega) (by omega) (by omega) (by omega) (by omega) (by omega) (by omega)).trans k37, (e2 38 (by omega) (by omega) (by omega) (by omega) (by omega) (by omega) (by omega) (by omega) (by omega) (by omega)).trans k38, e39, e40, e41, e42, (e2 43 (by omega) (by omega) (by omega) (by omega) (by omega) (by omega) (by omega) (by omega) (by omega) (by omega)).trans k43, e44, mA_endB hA hW (fun i hi => ⟨if_neg (by omega), if_neg (by omega), (if_neg (by omega)).trans (if_neg (by omega)), rfl, rfl, fun c hc => by rw [va_cpy, if_neg (by omega)]⟩) (if_pos rfl) ((if_pos rfl).trans (xfold_w t.2 0 (fun c hc => (mA_wt hA (hm2 c hc)).1))) (if_pos rfl) (fun c hc hn => (if_neg (fun z => hn (by rw [z]; exact hb3))).trans (if_neg (by omega))) (fun c hc => if_pos (Option.some.inj (hc.trans hb3.symm))) ((if_neg (by omega)).trans (if_pos rfl)) (if_neg h0).symm (fun e he => rfl) (if_pos rfl) (fun e he => if_neg (by omega)) ⟨if_pos rfl, if_pos rfl⟩ (fun e he => ⟨if_neg (by omega), if_neg (by omega)⟩), pW_endB hW ha g2⟩
set_option maxRecDepth 20000 in
theorem mReAE {G : xG} (hg : xGood G) {M : xM} {n : Nat} (hn : M.1 = n) (hx : xn ≤ n) {dl : Nat} {pl : Nat} {vc : Nat} {tk : Nat} {hc : Nat} {sn : Nat} {y24 : Int32} {y33 : Int32} {y36 : Int32} {y37 : Int32} {y38 : Int32} {y39 : Int32} {np : Nat} {a : Nat} {dp : Nat} {kd : Nat → Int32} {wt : Nat → Int32} {ch : Nat → Int32} {nx : Nat → Int32} {cs : Nat → Int32} {be : Nat → Int32} {lo : Nat → Int32} {hi : Nat → Int32} {fP : Nat → Int32} {lP : Nat → Int32} {e : Nat} {m : Int32} {nn : Int32} (h1_24 : xn ≤ 24) (h2_24 : 24 < n) (h_24 : M.2 24 = (.inr (12, [.ref 25, .ref 26, .ref 27, .ref 28, .ref 29, .ref 30, .int (nI sn), .int (nI vc), .int (nI tk), .ref 31, .int (nI dl), .ref 32, .int (nI pl), .int (nI np), .ref 33, .ref 34, .ref 35, .ref 36, .ref 37, .ref 38, .ref 39, .ref 40, .int (nI a), .int (nI dp), .int y24, .ref 41, .ref 42, .ref 43, .ref 44, .ref 45, .ref 46, .ref 47, .ref 48, .int y33, .ref 49, .ref 50, .int y36, .int y37, .int y38, .int y39, .int (nI hc), .ref 51]))) (h1_33 : xn ≤ 33) (h2_33 : 33 < n) (h_33 : M.2 33 = (.inl (0, 30, .inl kd))) (h1_39 : xn ≤ 39) (h2_39 : 39 < n) (h_39 : M.2 39 = (.inl (0, 30, .inl wt))) (h1_34 : xn ≤ 34) (h2_34 : 34 < n) (h_34 : M.2 34 = (.inl (0, 30, .inl ch))) (h1_35 : xn ≤ 35) (h2_35 : 35 < n) (h_35 : M.2 35 = (.inl (0, 30, .inl nx))) (h1_40 : xn ≤ 40) (h2_40 : 40 < n) (h_40 : M.2 40 = (.inl (2, 2850, .inl cs))) (h1_36 : xn ≤ 36) (h2_36 : 36 < n) (h_36 : M.2 36 = (.inl (0, 30, .inl be))) (h1_37 : xn ≤ 37) (h2_37 : 37 < n) (h_37 : M.2 37 = (.inl (0, 30, .inl lo))) (h1_38 : xn ≤ 38) (h2_38 : 38 < n) (h_38 : M.2 38 = (.inl (0, 30, .inl hi))) (h1_41 : xn ≤ 41) (h2_41 : 41 < n) (h_41 : M.2 41 = (.inl (0, 7, .inl fP))) (h1_42 : xn ≤ 42) (h2_42 : 42 < n) (h_42 : M.2 42 = (.inl (0, 7, .inl lP))) (hxn : xn = 16) (hn2 : 52 ≤ n) (hdp : dp < 7) (hnp : np < 30) (hlP : lP dp = nI e) (he : e < np) (hn1 : 0 ≤ nn) (hbe : be e = -1) : XC G Y14_26 none 1 0 0 [.ref 24, .int m, .int nn] M (fun v M' => v = none ∧ M'.1 = n ∧ (∀ j, j < n → j ≠ 33 → j ≠ 39 → j ≠ 34 → j ≠ 35 → j ≠ 40 → j ≠ 24 → j ≠ 37 → j ≠ 38 → j ≠ 36 → j ≠ 41 → j ≠ 42 → M'.2 j = M.2 j) ∧ M'.2 33 = (.inl (0, 30, .inl (upd kd np 4))) ∧ M'.2 39 = (.inl (0, 30, .inl (upd wt np (nn * ((wt e) + 1))))) ∧ M'.2 34 = (.inl (0, 30, .inl (upd (upd ch np (-1)) np (nI e)))) ∧ M'.2 35 = (.inl (0, 30, .inl (upd (upd nx np (-1)) e (-1)))) ∧ M'.2 40 = (.inl (2, 2850, .inl (va_cpy (fun _ => 0) cs 0 (95 * np) 95))) ∧ M'.2 24 = (.inr (12, [.ref 25, .ref 26, .ref 27, .ref 28, .ref 29, .ref 30, .int (nI sn), .int (nI vc), .int (nI tk), .ref 31, .int (nI dl), .ref 32, .int (nI pl), .int (nI (np + 1)), .ref 33, .ref 34, .ref 35, .ref 36, .ref 37, .ref 38, .ref 39, .ref 40, .int (nI a), .int (nI dp), .int y24, .ref 41, .ref 42, .ref 43, .ref 44, .ref 45, .ref 46, .ref 47, .ref 48, .int y33, .ref 49, .ref 50, .int y36, .int y37, .int y38, .int y39, .int (nI hc), .ref 51])) ∧ M'.2 37 = (.inl (0, 30, .inl (upd lo np m))) ∧ M'.2 38 = (.inl (0, 30, .inl (upd hi np nn))) ∧ M'.2 36 = (.inl (0, 30, .inl (upd be np (-1)))) ∧ M'.2 41 = (.inl (0, 7, .inl (upd fP dp (nI np)))) ∧ M'.2 42 = (.inl (0, 7, .inl (upd lP dp (nI np))))) := by
  refine xc_of hg (by decide) (Nat.le_of_ble_eq_true rfl) (Or.inr (Or.inr (Or.inr (Or.inr (Or.inl ⟨rfl, rfl, fun v M' h => h.1⟩))))) ?_
  refine xj_aload_n (i := 0) d14_26_0 rfl rfl ?_
  refine xj_get d14_26_1 f14_62_12 h_24 (by omega) (show 24 < M.1 by omega) rfl ?_
  refine xj_aload_n (i := 0) d14_26_4 rfl rfl ?_
  refine xj_get d14_26_5 f14_139_12 h_24 (by omega) (show 24 < M.1 by omega) rfl ?_
  refine xj_iaload (j := dp) d14_26_8 h_42 (by omega) (show 42 < M.1 by omega) (vp_in_nI (by omega) (by omega)) (nI_clamp (by omega)) ?_
  rw [show lP dp = nI e from hlP]
  refine xj_istore_n (i := 3) (L' := [(3, .int (nI e)), (0, .ref 24), (1, .int m), (2, .int nn)]) d14_26_9 rfl (by decide) rfl ?_
  refine xj_iload_n (i := 2) d14_26_10 rfl rfl ?_
  refine xj_if_lt (tgt := 18) d14_26_11 rfl (fun h => absurd h (Int32.not_lt.mpr hn1)) (fun _ => ?_)
  refine xj_iload_n (i := 2) d14_26_14 rfl rfl ?_
  refine xj_goto (tgt := 27) d14_26_15 rfl ?_
  refine xj_istore (i := 4) (L' := [(4, .int nn), (3, .int (nI e)), (0, .ref 24), (1, .int m), (2, .int nn)]) d14_26_27 (by decide) rfl ?_
  refine xj_aload_n (i := 0) d14_26_29 rfl rfl ?_
  refine xj_iconst (v := 4) d14_26_30 (by decide) ?_
  refine xj_iload (i := 4) d14_26_31 rfl ?_
  refine xj_aload_n (i := 0) d14_26_33 rfl rfl ?_
  refine xj_get d14_26_34 f14_53_12 h_24 (by omega) (show 24 < M.1 by omega) rfl ?_
  refine xj_iload_n (i := 3) d14_26_37 rfl rfl ?_
  refine xj_iaload (j := e) d14_26_38 h_39 (by omega) (show 39 < M.1 by omega) (vp_in_nI (by omega) (by omega)) (nI_clamp (by omega)) ?_
  refine xj_iconst (v := 1) d14_26_39 (by decide) ?_
  refine xj_iadd (v := (wt e) + 1) d14_26_40 rfl ?_
  refine xj_imul (v := nn * ((wt e) + 1)) d14_26_41 rfl ?_
  refine xj_callV (rest := []) (As := [.int 4, .int (nn * ((wt e) + 1))]) (b := 24) (mPart hg (M := M) (n := n) (dl := dl) (pl := pl) (vc := vc) (tk := tk) (hc := hc) (sn := sn) (y24 := y24) (y33 := y33) (y36 := y36) (y37 := y37) (y38 := y38) (y39 := y39) (np := np) (a := a) (dp := dp) (kd := kd) (wt := wt) (ch := ch) (nx := nx) (cs := cs) (kk := 4) (w := nn * ((wt e) + 1)) (show M.1 = n by omega) (by omega) (by omega) (by omega) h_24 (by omega) (by omega) h_33 (by omega) (by omega) h_39 (by omega) (by omega) h_34 (by omega) (by omega) h_35 (by omega) (by omega) h_40 hxn hn2 (by omega)) d14_26_42 wd14_20 h_24 (by omega) (show 24 < M.1 by omega) rfl s14_20 w1232 (Or.inl w1230) rfl rfl (Nat.le_of_ble_eq_true rfl) (by omega) (by omega) (by omega) ?_
  rintro v M1 ⟨rfl, hs1, ho1, hf1_0, hf1_1, hf1_2, hf1_3, hf1_4, hf1_5⟩
  replace hs1 : M1.1 = n := hs1
  replace hf1_0 : M1.2 33 = (.inl (0, 30, .inl (upd kd np 4))) := hf1_0
  replace hf1_1 : M1.2 39 = (.inl (0, 30, .inl (upd wt np (nn * ((wt e) + 1))))) := hf1_1
  replace hf1_2 : M1.2 34 = (.inl (0, 30, .inl (upd ch np (-1)))) := hf1_2
  replace hf1_3 : M1.2 35 = (.inl (0, 30, .inl (upd nx np (-1)))) := hf1_3
  replace hf1_4 : M1.2 40 = (.inl (2, 2850, .inl (va_cpy (fun _ => 0) cs 0 (95 * np) 95))) := hf1_4
  replace hf1_5 : M1.2 24 = (.inr (12, [.ref 25, .ref 26, .ref 27, .ref 28, .ref 29, .ref 30, .int (nI sn), .int (nI vc), .int (nI tk), .ref 31, .int (nI dl), .ref 32, .int (nI pl), .int (nI (np + 1)), .ref 33, .ref 34, .ref 35, .ref 36, .ref 37, .ref 38, .ref 39, .ref 40, .int (nI a), .int (nI dp), .int y24, .ref 41, .ref 42, .ref 43, .ref 44, .ref 45, .ref 46, .ref 47, .ref 48, .int y33, .ref 49, .ref 50, .int y36, .int y37, .int y38, .int y39, .int (nI hc), .ref 51])) := hf1_5
  refine xj_istore (i := 5) (L' := [(5, .int (nI np)), (4, .int nn), (3, .int (nI e)), (0, .ref 24), (1, .int m), (2, .int nn)]) d14_26_45 (by decide) rfl ?_
  refine xj_aload_n (i := 0) d14_26_47 rfl rfl ?_
  refine xj_get d14_26_48 f14_38_12 hf1_5 (by omega) (show 24 < M1.1 by omega) rfl ?_
  refine xj_iload (i := 5) d14_26_51 rfl ?_
  refine xj_iload_n (i := 3) d14_26_53 rfl rfl ?_
  refine xj_iastore (j := np) (x' := nI e) d14_26_54 hf1_2 (by omega) (show 34 < M1.1 by omega) (vp_in_nI (by omega) (by omega)) (nI_clamp (by omega)) rfl ?_
  refine xj_abs_set (fun M2 hs2 ha2 ho2 => ?_)
  refine xj_aload_n (i := 0) d14_26_55 rfl rfl ?_
  refine xj_get d14_26_56 f14_47_12 ((ho2 24 (by omega)).trans hf1_5) (by omega) (show 24 < M2.1 by omega) rfl ?_
  refine xj_iload (i := 5) d14_26_59 rfl ?_
  refine xj_iload_n (i := 1) d14_26_61 rfl rfl ?_
  refine xj_iastore (j := np) (x' := m) d14_26_62 ((ho2 37 (by omega)).trans ((ho1 37 (by omega) (by omega) (by omega) (by omega) (by omega) (by omega) (by omega)).trans h_37)) (by omega) (show 37 < M2.1 by omega) (vp_in_nI (by omega) (by omega)) (nI_clamp (by omega)) rfl ?_
  refine xj_abs_set (fun M3 hs3 ha3 ho3 => ?_)
  refine xj_aload_n (i := 0) d14_26_63 rfl rfl ?_
  refine xj_get d14_26_64 f14_50_12 ((ho3 24 (by omega)).trans ((ho2 24 (by omega)).trans hf1_5)) (by omega) (show 24 < M3.1 by omega) rfl ?_
  refine xj_iload (i := 5) d14_26_67 rfl ?_
  refine xj_iload_n (i := 2) d14_26_69 rfl rfl ?_
  refine xj_iastore (j := np) (x' := nn) d14_26_70 ((ho3 38 (by omega)).trans ((ho2 38 (by omega)).trans ((ho1 38 (by omega) (by omega) (by omega) (by omega) (by omega) (by omega) (by omega)).trans h_38))) (by omega) (show 38 < M3.1 by omega) (vp_in_nI (by omega) (by omega)) (nI_clamp (by omega)) rfl ?_
  refine xj_abs_set (fun M4 hs4 ha4 ho4 => ?_)
  refine xj_aload_n (i := 0) d14_26_71 rfl rfl ?_
  refine xj_get d14_26_72 f14_44_12 ((ho4 24 (by omega)).trans ((ho3 24 (by omega)).trans ((ho2 24 (by omega)).trans hf1_5))) (by omega) (show 24 < M4.1 by omega) rfl ?_
  refine xj_iload_n (i := 3) d14_26_75 rfl rfl ?_
  refine xj_iaload (j := e) d14_26_76 ((ho4 36 (by omega)).trans ((ho3 36 (by omega)).trans ((ho2 36 (by omega)).trans ((ho1 36 (by omega) (by omega) (by omega) (by omega) (by omega) (by omega) (by omega)).trans h_36)))) (by omega) (show 36 < M4.1 by omega) (vp_in_nI (by omega) (by omega)) (nI_clamp (by omega)) ?_
  rw [show be e = -1 from hbe]
  refine xj_istore (i := 6) (L' := [(6, .int (-1)), (5, .int (nI np)), (4, .int nn), (3, .int (nI e)), (0, .ref 24), (1, .int m), (2, .int nn)]) d14_26_77 (by decide) rfl ?_
  refine xj_aload_n (i := 0) d14_26_79 rfl rfl ?_
  refine xj_get d14_26_80 f14_44_12 ((ho4 24 (by omega)).trans ((ho3 24 (by omega)).trans ((ho2 24 (by omega)).trans hf1_5))) (by omega) (show 24 < M4.1 by omega) rfl ?_
  refine xj_iload (i := 5) d14_26_83 rfl ?_
  refine xj_iload (i := 6) d14_26_85 rfl ?_
  refine xj_iastore (j := np) (x' := -1) d14_26_87 ((ho4 36 (by omega)).trans ((ho3 36 (by omega)).trans ((ho2 36 (by omega)).trans ((ho1 36 (by omega) (by omega) (by omega) (by omega) (by omega) (by omega) (by omega)).trans h_36)))) (by omega) (show 36 < M4.1 by omega) (vp_in_nI (by omega) (by omega)) (nI_clamp (by omega)) rfl ?_
  refine xj_abs_set (fun M5 hs5 ha5 ho5 => ?_)
  refine xj_aload_n (i := 0) d14_26_88 rfl rfl ?_
  refine xj_get d14_26_89 f14_41_12 ((ho5 24 (by omega)).trans ((ho4 24 (by omega)).trans ((ho3 24 (by omega)).trans ((ho2 24 (by omega)).trans hf1_5)))) (by omega) (show 24 < M5.1 by omega) rfl ?_
  refine xj_iload_n (i := 3) d14_26_92 rfl rfl ?_
  refine xj_iconst (v := (-1)) d14_26_93 (by decide) ?_
  refine xj_iastore (j := e) (x' := (-1)) d14_26_94 ((ho5 35 (by omega)).trans ((ho4 35 (by omega)).trans ((ho3 35 (by omega)).trans ((ho2 35 (by omega)).trans hf1_3)))) (by omega) (show 35 < M5.1 by omega) (vp_in_nI (by omega) (by omega)) (nI_clamp (by omega)) rfl ?_
  refine xj_abs_set (fun M6 hs6 ha6 ho6 => ?_)
  refine xj_iload (i := 6) d14_26_95 rfl ?_
  refine xj_if_ge (tgt := 114) d14_26_97 rfl (fun h => absurd h (by decide)) (fun _ => ?_)
  refine xj_aload_n (i := 0) d14_26_100 rfl rfl ?_
  refine xj_get d14_26_101 f14_59_12 ((ho6 24 (by omega)).trans ((ho5 24 (by omega)).trans ((ho4 24 (by omega)).trans ((ho3 24 (by omega)).trans ((ho2 24 (by omega)).trans hf1_5))))) (by omega) (show 24 < M6.1 by omega) rfl ?_
  refine xj_aload_n (i := 0) d14_26_104 rfl rfl ?_
  refine xj_get d14_26_105 f14_139_12 ((ho6 24 (by omega)).trans ((ho5 24 (by omega)).trans ((ho4 24 (by omega)).trans ((ho3 24 (by omega)).trans ((ho2 24 (by omega)).trans hf1_5))))) (by omega) (show 24 < M6.1 by omega) rfl ?_
  refine xj_iload (i := 5) d14_26_108 rfl ?_
  refine xj_iastore (j := dp) (x' := nI np) d14_26_110 ((ho6 41 (by omega)).trans ((ho5 41 (by omega)).trans ((ho4 41 (by omega)).trans ((ho3 41 (by omega)).trans ((ho2 41 (by omega)).trans ((ho1 41 (by omega) (by omega) (by omega) (by omega) (by omega) (by omega) (by omega)).trans h_41)))))) (by omega) (show 41 < M6.1 by omega) (vp_in_nI (by omega) (by omega)) (nI_clamp (by omega)) rfl ?_
  refine xj_abs_set (fun M7 hs7 ha7 ho7 => ?_)
  refine xj_goto (tgt := 123) d14_26_111 rfl ?_
  refine xj_aload_n (i := 0) d14_26_123 rfl rfl ?_
  refine xj_get d14_26_124 f14_62_12 ((ho7 24 (by omega)).trans ((ho6 24 (by omega)).trans ((ho5 24 (by omega)).trans ((ho4 24 (by omega)).trans ((ho3 24 (by omega)).trans ((ho2 24 (by omega)).trans hf1_5)))))) (by omega) (show 24 < M7.1 by omega) rfl ?_
  refine xj_aload_n (i := 0) d14_26_127 rfl rfl ?_
  refine xj_get d14_26_128 f14_139_12 ((ho7 24 (by omega)).trans ((ho6 24 (by omega)).trans ((ho5 24 (by omega)).trans ((ho4 24 (by omega)).trans ((ho3 24 (by omega)).trans ((ho2 24 (by omega)).trans hf1_5)))))) (by omega) (show 24 < M7.1 by omega) rfl ?_
  refine xj_iload (i := 5) d14_26_131 rfl ?_
  refine xj_iastore (j := dp) (x' := nI np) d14_26_133 ((ho7 42 (by omega)).trans ((ho6 42 (by omega)).trans ((ho5 42 (by omega)).trans ((ho4 42 (by omega)).trans ((ho3 42 (by omega)).trans ((ho2 42 (by omega)).trans ((ho1 42 (by omega) (by omega) (by omega) (by omega) (by omega) (by omega) (by omega)).trans h_42))))))) (by omega) (show 42 < M7.1 by omega) (vp_in_nI (by omega) (by omega)) (nI_clamp (by omega)) rfl ?_
  refine xj_abs_set (fun M8 hs8 ha8 ho8 => ?_)
  exact xj_ret d14_26_134 (by omega) (by omega) rfl ⟨rfl, (show M8.1 = n by omega), (fun j hj hj0 hj1 hj2 hj3 hj4 hj5 hj6 hj7 hj8 hj9 hj10 => ((ho8 j (by omega)).trans ((ho7 j (by omega)).trans ((ho6 j (by omega)).trans ((ho5 j (by omega)).trans ((ho4 j (by omega)).trans ((ho3 j (by omega)).trans ((ho2 j (by omega)).trans (ho1 j (by omega) (by omega) (by omega) (by omega) (by omega) (by omega) (by omega)))))))))), ((ho8 33 (by omega)).trans ((ho7 33 (by omega)).trans ((ho6 33 (by omega)).trans ((ho5 33 (by omega)).trans ((ho4 33 (by omega)).trans ((ho3 33 (by omega)).trans ((ho2 33 (by omega)).trans hf1_0))))))), ((ho8 39 (by omega)).trans ((ho7 39 (by omega)).trans ((ho6 39 (by omega)).trans ((ho5 39 (by omega)).trans ((ho4 39 (by omega)).trans ((ho3 39 (by omega)).trans ((ho2 39 (by omega)).trans hf1_1))))))), ((ho8 34 (by omega)).trans ((ho7 34 (by omega)).trans ((ho6 34 (by omega)).trans ((ho5 34 (by omega)).trans ((ho4 34 (by omega)).trans ((ho3 34 (by omega)).trans ha2)))))), ((ho8 35 (by omega)).trans ((ho7 35 (by omega)).trans ha6)), ((ho8 40 (by omega)).trans ((ho7 40 (by omega)).trans ((ho6 40 (by omega)).trans ((ho5 40 (by omega)).trans ((ho4 40 (by omega)).trans ((ho3 40 (by omega)).trans ((ho2 40 (by omega)).trans hf1_4))))))), ((ho8 24 (by omega)).trans ((ho7 24 (by omega)).trans ((ho6 24 (by omega)).trans ((ho5 24 (by omega)).trans ((ho4 24 (by omega)).trans ((ho3 24 (by omega)).trans ((ho2 24 (by omega)).trans hf1_5))))))), ((ho8 37 (by omega)).trans ((ho7 37 (by omega)).trans ((ho6 37 (by omega)).trans ((ho5 37 (by omega)).trans ((ho4 37 (by omega)).trans ha3))))), ((ho8 38 (by omega)).trans ((ho7 38 (by omega)).trans ((ho6 38 (by omega)).trans ((ho5 38 (by omega)).trans ha4)))), ((ho8 36 (by omega)).trans ((ho7 36 (by omega)).trans ((ho6 36 (by omega)).trans ha5))), ((ho8 41 (by omega)).trans ha7), ha8⟩
set_option maxRecDepth 20000 in
theorem mReAN {G : xG} (hg : xGood G) {M : xM} {n : Nat} (hn : M.1 = n) (hx : xn ≤ n) {dl : Nat} {pl : Nat} {vc : Nat} {tk : Nat} {hc : Nat} {sn : Nat} {y24 : Int32} {y33 : Int32} {y36 : Int32} {y37 : Int32} {y38 : Int32} {y39 : Int32} {np : Nat} {a : Nat} {dp : Nat} {kd : Nat → Int32} {wt : Nat → Int32} {ch : Nat → Int32} {nx : Nat → Int32} {cs : Nat → Int32} {be : Nat → Int32} {lo : Nat → Int32} {hi : Nat → Int32} {fP : Nat → Int32} {lP : Nat → Int32} {e : Nat} {m : Int32} {nn : Int32} {pb : Nat} (h1_24 : xn ≤ 24) (h2_24 : 24 < n) (h_24 : M.2 24 = (.inr (12, [.ref 25, .ref 26, .ref 27, .ref 28, .ref 29, .ref 30, .int (nI sn), .int (nI vc), .int (nI tk), .ref 31, .int (nI dl), .ref 32, .int (nI pl), .int (nI np), .ref 33, .ref 34, .ref 35, .ref 36, .ref 37, .ref 38, .ref 39, .ref 40, .int (nI a), .int (nI dp), .int y24, .ref 41, .ref 42, .ref 43, .ref 44, .ref 45, .ref 46, .ref 47, .ref 48, .int y33, .ref 49, .ref 50, .int y36, .int y37, .int y38, .int y39, .int (nI hc), .ref 51]))) (h1_33 : xn ≤ 33) (h2_33 : 33 < n) (h_33 : M.2 33 = (.inl (0, 30, .inl kd))) (h1_39 : xn ≤ 39) (h2_39 : 39 < n) (h_39 : M.2 39 = (.inl (0, 30, .inl wt))) (h1_34 : xn ≤ 34) (h2_34 : 34 < n) (h_34 : M.2 34 = (.inl (0, 30, .inl ch))) (h1_35 : xn ≤ 35) (h2_35 : 35 < n) (h_35 : M.2 35 = (.inl (0, 30, .inl nx))) (h1_40 : xn ≤ 40) (h2_40 : 40 < n) (h_40 : M.2 40 = (.inl (2, 2850, .inl cs))) (h1_36 : xn ≤ 36) (h2_36 : 36 < n) (h_36 : M.2 36 = (.inl (0, 30, .inl be))) (h1_37 : xn ≤ 37) (h2_37 : 37 < n) (h_37 : M.2 37 = (.inl (0, 30, .inl lo))) (h1_38 : xn ≤ 38) (h2_38 : 38 < n) (h_38 : M.2 38 = (.inl (0, 30, .inl hi))) (h1_41 : xn ≤ 41) (h2_41 : 41 < n) (h_41 : M.2 41 = (.inl (0, 7, .inl fP))) (h1_42 : xn ≤ 42) (h2_42 : 42 < n) (h_42 : M.2 42 = (.inl (0, 7, .inl lP))) (hxn : xn = 16) (hn2 : 52 ≤ n) (hdp : dp < 7) (hnp : np < 30) (hlP : lP dp = nI e) (he : e < np) (hn1 : 0 ≤ nn) (hbe : be e = nI pb) (hpb : pb < np) : XC G Y14_26 none 1 0 0 [.ref 24, .int m, .int nn] M (fun v M' => v = none ∧ M'.1 = n ∧ (∀ j, j < n → j ≠ 33 → j ≠ 39 → j ≠ 34 → j ≠ 35 → j ≠ 40 → j ≠ 24 → j ≠ 37 → j ≠ 38 → j ≠ 36 → j ≠ 42 → M'.2 j = M.2 j) ∧ M'.2 33 = (.inl (0, 30, .inl (upd kd np 4))) ∧ M'.2 39 = (.inl (0, 30, .inl (upd wt np (nn * ((wt e) + 1))))) ∧ M'.2 34 = (.inl (0, 30, .inl (upd (upd ch np (-1)) np (nI e)))) ∧ M'.2 35 = (.inl (0, 30, .inl (upd (upd (upd nx np (-1)) e (-1)) pb (nI np)))) ∧ M'.2 40 = (.inl (2, 2850, .inl (va_cpy (fun _ => 0) cs 0 (95 * np) 95))) ∧ M'.2 24 = (.inr (12, [.ref 25, .ref 26, .ref 27, .ref 28, .ref 29, .ref 30, .int (nI sn), .int (nI vc), .int (nI tk), .ref 31, .int (nI dl), .ref 32, .int (nI pl), .int (nI (np + 1)), .ref 33, .ref 34, .ref 35, .ref 36, .ref 37, .ref 38, .ref 39, .ref 40, .int (nI a), .int (nI dp), .int y24, .ref 41, .ref 42, .ref 43, .ref 44, .ref 45, .ref 46, .ref 47, .ref 48, .int y33, .ref 49, .ref 50, .int y36, .int y37, .int y38, .int y39, .int (nI hc), .ref 51])) ∧ M'.2 37 = (.inl (0, 30, .inl (upd lo np m))) ∧ M'.2 38 = (.inl (0, 30, .inl (upd hi np nn))) ∧ M'.2 36 = (.inl (0, 30, .inl (upd be np (nI pb)))) ∧ M'.2 42 = (.inl (0, 7, .inl (upd lP dp (nI np))))) := by
  refine xc_of hg (by decide) (Nat.le_of_ble_eq_true rfl) (Or.inr (Or.inr (Or.inr (Or.inr (Or.inl ⟨rfl, rfl, fun v M' h => h.1⟩))))) ?_
  refine xj_aload_n (i := 0) d14_26_0 rfl rfl ?_
  refine xj_get d14_26_1 f14_62_12 h_24 (by omega) (show 24 < M.1 by omega) rfl ?_
  refine xj_aload_n (i := 0) d14_26_4 rfl rfl ?_
  refine xj_get d14_26_5 f14_139_12 h_24 (by omega) (show 24 < M.1 by omega) rfl ?_
  refine xj_iaload (j := dp) d14_26_8 h_42 (by omega) (show 42 < M.1 by omega) (vp_in_nI (by omega) (by omega)) (nI_clamp (by omega)) ?_
  rw [show lP dp = nI e from hlP]
  refine xj_istore_n (i := 3) (L' := [(3, .int (nI e)), (0, .ref 24), (1, .int m), (2, .int nn)]) d14_26_9 rfl (by decide) rfl ?_
  refine xj_iload_n (i := 2) d14_26_10 rfl rfl ?_
  refine xj_if_lt (tgt := 18) d14_26_11 rfl (fun h => absurd h (Int32.not_lt.mpr hn1)) (fun _ => ?_)
  refine xj_iload_n (i := 2) d14_26_14 rfl rfl ?_
  refine xj_goto (tgt := 27) d14_26_15 rfl ?_
  refine xj_istore (i := 4) (L' := [(4, .int nn), (3, .int (nI e)), (0, .ref 24), (1, .int m), (2, .int nn)]) d14_26_27 (by decide) rfl ?_
  refine xj_aload_n (i := 0) d14_26_29 rfl rfl ?_
  refine xj_iconst (v := 4) d14_26_30 (by decide) ?_
  refine xj_iload (i := 4) d14_26_31 rfl ?_
  refine xj_aload_n (i := 0) d14_26_33 rfl rfl ?_
  refine xj_get d14_26_34 f14_53_12 h_24 (by omega) (show 24 < M.1 by omega) rfl ?_
  refine xj_iload_n (i := 3) d14_26_37 rfl rfl ?_
  refine xj_iaload (j := e) d14_26_38 h_39 (by omega) (show 39 < M.1 by omega) (vp_in_nI (by omega) (by omega)) (nI_clamp (by omega)) ?_
  refine xj_iconst (v := 1) d14_26_39 (by decide) ?_
  refine xj_iadd (v := (wt e) + 1) d14_26_40 rfl ?_
  refine xj_imul (v := nn * ((wt e) + 1)) d14_26_41 rfl ?_
  refine xj_callV (rest := []) (As := [.int 4, .int (nn * ((wt e) + 1))]) (b := 24) (mPart hg (M := M) (n := n) (dl := dl) (pl := pl) (vc := vc) (tk := tk) (hc := hc) (sn := sn) (y24 := y24) (y33 := y33) (y36 := y36) (y37 := y37) (y38 := y38) (y39 := y39) (np := np) (a := a) (dp := dp) (kd := kd) (wt := wt) (ch := ch) (nx := nx) (cs := cs) (kk := 4) (w := nn * ((wt e) + 1)) (show M.1 = n by omega) (by omega) (by omega) (by omega) h_24 (by omega) (by omega) h_33 (by omega) (by omega) h_39 (by omega) (by omega) h_34 (by omega) (by omega) h_35 (by omega) (by omega) h_40 hxn hn2 (by omega)) d14_26_42 wd14_20 h_24 (by omega) (show 24 < M.1 by omega) rfl s14_20 w1232 (Or.inl w1230) rfl rfl (Nat.le_of_ble_eq_true rfl) (by omega) (by omega) (by omega) ?_
  rintro v M1 ⟨rfl, hs1, ho1, hf1_0, hf1_1, hf1_2, hf1_3, hf1_4, hf1_5⟩
  replace hs1 : M1.1 = n := hs1
  replace hf1_0 : M1.2 33 = (.inl (0, 30, .inl (upd kd np 4))) := hf1_0
  replace hf1_1 : M1.2 39 = (.inl (0, 30, .inl (upd wt np (nn * ((wt e) + 1))))) := hf1_1
  replace hf1_2 : M1.2 34 = (.inl (0, 30, .inl (upd ch np (-1)))) := hf1_2
  replace hf1_3 : M1.2 35 = (.inl (0, 30, .inl (upd nx np (-1)))) := hf1_3
  replace hf1_4 : M1.2 40 = (.inl (2, 2850, .inl (va_cpy (fun _ => 0) cs 0 (95 * np) 95))) := hf1_4
  replace hf1_5 : M1.2 24 = (.inr (12, [.ref 25, .ref 26, .ref 27, .ref 28, .ref 29, .ref 30, .int (nI sn), .int (nI vc), .int (nI tk), .ref 31, .int (nI dl), .ref 32, .int (nI pl), .int (nI (np + 1)), .ref 33, .ref 34, .ref 35, .ref 36, .ref 37, .ref 38, .ref 39, .ref 40, .int (nI a), .int (nI dp), .int y24, .ref 41, .ref 42, .ref 43, .ref 44, .ref 45, .ref 46, .ref 47, .ref 48, .int y33, .ref 49, .ref 50, .int y36, .int y37, .int y38, .int y39, .int (nI hc), .ref 51])) := hf1_5
  refine xj_istore (i := 5) (L' := [(5, .int (nI np)), (4, .int nn), (3, .int (nI e)), (0, .ref 24), (1, .int m), (2, .int nn)]) d14_26_45 (by decide) rfl ?_
  refine xj_aload_n (i := 0) d14_26_47 rfl rfl ?_
  refine xj_get d14_26_48 f14_38_12 hf1_5 (by omega) (show 24 < M1.1 by omega) rfl ?_
  refine xj_iload (i := 5) d14_26_51 rfl ?_
  refine xj_iload_n (i := 3) d14_26_53 rfl rfl ?_
  refine xj_iastore (j := np) (x' := nI e) d14_26_54 hf1_2 (by omega) (show 34 < M1.1 by omega) (vp_in_nI (by omega) (by omega)) (nI_clamp (by omega)) rfl ?_
  refine xj_abs_set (fun M2 hs2 ha2 ho2 => ?_)
  refine xj_aload_n (i := 0) d14_26_55 rfl rfl ?_
  refine xj_get d14_26_56 f14_47_12 ((ho2 24 (by omega)).trans hf1_5) (by omega) (show 24 < M2.1 by omega) rfl ?_
  refine xj_iload (i := 5) d14_26_59 rfl ?_
  refine xj_iload_n (i := 1) d14_26_61 rfl rfl ?_
  refine xj_iastore (j := np) (x' := m) d14_26_62 ((ho2 37 (by omega)).trans ((ho1 37 (by omega) (by omega) (by omega) (by omega) (by omega) (by omega) (by omega)).trans h_37)) (by omega) (show 37 < M2.1 by omega) (vp_in_nI (by omega) (by omega)) (nI_clamp (by omega)) rfl ?_
  refine xj_abs_set (fun M3 hs3 ha3 ho3 => ?_)
  refine xj_aload_n (i := 0) d14_26_63 rfl rfl ?_
  refine xj_get d14_26_64 f14_50_12 ((ho3 24 (by omega)).trans ((ho2 24 (by omega)).trans hf1_5)) (by omega) (show 24 < M3.1 by omega) rfl ?_
  refine xj_iload (i := 5) d14_26_67 rfl ?_
  refine xj_iload_n (i := 2) d14_26_69 rfl rfl ?_
  refine xj_iastore (j := np) (x' := nn) d14_26_70 ((ho3 38 (by omega)).trans ((ho2 38 (by omega)).trans ((ho1 38 (by omega) (by omega) (by omega) (by omega) (by omega) (by omega) (by omega)).trans h_38))) (by omega) (show 38 < M3.1 by omega) (vp_in_nI (by omega) (by omega)) (nI_clamp (by omega)) rfl ?_
  refine xj_abs_set (fun M4 hs4 ha4 ho4 => ?_)
  refine xj_aload_n (i := 0) d14_26_71 rfl rfl ?_
  refine xj_get d14_26_72 f14_44_12 ((ho4 24 (by omega)).trans ((ho3 24 (by omega)).trans ((ho2 24 (by omega)).trans hf1_5))) (by omega) (show 24 < M4.1 by omega) rfl ?_
  refine xj_iload_n (i := 3) d14_26_75 rfl rfl ?_
  refine xj_iaload (j := e) d14_26_76 ((ho4 36 (by omega)).trans ((ho3 36 (by omega)).trans ((ho2 36 (by omega)).trans ((ho1 36 (by omega) (by omega) (by omega) (by omega) (by omega) (by omega) (by omega)).trans h_36)))) (by omega) (show 36 < M4.1 by omega) (vp_in_nI (by omega) (by omega)) (nI_clamp (by omega)) ?_
  rw [show be e = nI pb from hbe]
  refine xj_istore (i := 6) (L' := [(6, .int (nI pb)), (5, .int (nI np)), (4, .int nn), (3, .int (nI e)), (0, .ref 24), (1, .int m), (2, .int nn)]) d14_26_77 (by decide) rfl ?_
  refine xj_aload_n (i := 0) d14_26_79 rfl rfl ?_
  refine xj_get d14_26_80 f14_44_12 ((ho4 24 (by omega)).trans ((ho3 24 (by omega)).trans ((ho2 24 (by omega)).trans hf1_5))) (by omega) (show 24 < M4.1 by omega) rfl ?_
  refine xj_iload (i := 5) d14_26_83 rfl ?_
  refine xj_iload (i := 6) d14_26_85 rfl ?_
  refine xj_iastore (j := np) (x' := nI pb) d14_26_87 ((ho4 36 (by omega)).trans ((ho3 36 (by omega)).trans ((ho2 36 (by omega)).trans ((ho1 36 (by omega) (by omega) (by omega) (by omega) (by omega) (by omega) (by omega)).trans h_36)))) (by omega) (show 36 < M4.1 by omega) (vp_in_nI (by omega) (by omega)) (nI_clamp (by omega)) rfl ?_
  refine xj_abs_set (fun M5 hs5 ha5 ho5 => ?_)
  refine xj_aload_n (i := 0) d14_26_88 rfl rfl ?_
  refine xj_get d14_26_89 f14_41_12 ((ho5 24 (by omega)).trans ((ho4 24 (by omega)).trans ((ho3 24 (by omega)).trans ((ho2 24 (by omega)).trans hf1_5)))) (by omega) (show 24 < M5.1 by omega) rfl ?_
  refine xj_iload_n (i := 3) d14_26_92 rfl rfl ?_
  refine xj_iconst (v := (-1)) d14_26_93 (by decide) ?_
  refine xj_iastore (j := e) (x' := (-1)) d14_26_94 ((ho5 35 (by omega)).trans ((ho4 35 (by omega)).trans ((ho3 35 (by omega)).trans ((ho2 35 (by omega)).trans hf1_3)))) (by omega) (show 35 < M5.1 by omega) (vp_in_nI (by omega) (by omega)) (nI_clamp (by omega)) rfl ?_
  refine xj_abs_set (fun M6 hs6 ha6 ho6 => ?_)
  refine xj_iload (i := 6) d14_26_95 rfl ?_
  refine xj_if_ge (tgt := 114) d14_26_97 rfl (fun _ => ?_) (fun h => absurd (nI_le (a := 0) (b := pb) (by omega) (by omega)) h)
  refine xj_aload_n (i := 0) d14_26_114 rfl rfl ?_
  refine xj_get d14_26_115 f14_41_12 ((ho6 24 (by omega)).trans ((ho5 24 (by omega)).trans ((ho4 24 (by omega)).trans ((ho3 24 (by omega)).trans ((ho2 24 (by omega)).trans hf1_5))))) (by omega) (show 24 < M6.1 by omega) rfl ?_
  refine xj_iload (i := 6) d14_26_118 rfl ?_
  refine xj_iload (i := 5) d14_26_120 rfl ?_
  refine xj_iastore (j := pb) (x' := nI np) d14_26_122 ha6 (by omega) (show 35 < M6.1 by omega) (vp_in_nI (by omega) (by omega)) (nI_clamp (by omega)) rfl ?_
  refine xj_abs_set (fun M7 hs7 ha7 ho7 => ?_)
  refine xj_aload_n (i := 0) d14_26_123 rfl rfl ?_
  refine xj_get d14_26_124 f14_62_12 ((ho7 24 (by omega)).trans ((ho6 24 (by omega)).trans ((ho5 24 (by omega)).trans ((ho4 24 (by omega)).trans ((ho3 24 (by omega)).trans ((ho2 24 (by omega)).trans hf1_5)))))) (by omega) (show 24 < M7.1 by omega) rfl ?_
  refine xj_aload_n (i := 0) d14_26_127 rfl rfl ?_
  refine xj_get d14_26_128 f14_139_12 ((ho7 24 (by omega)).trans ((ho6 24 (by omega)).trans ((ho5 24 (by omega)).trans ((ho4 24 (by omega)).trans ((ho3 24 (by omega)).trans ((ho2 24 (by omega)).trans hf1_5)))))) (by omega) (show 24 < M7.1 by omega) rfl ?_
  refine xj_iload (i := 5) d14_26_131 rfl ?_
  refine xj_iastore (j := dp) (x' := nI np) d14_26_133 ((ho7 42 (by omega)).trans ((ho6 42 (by omega)).trans ((ho5 42 (by omega)).trans ((ho4 42 (by omega)).trans ((ho3 42 (by omega)).trans ((ho2 42 (by omega)).trans ((ho1 42 (by omega) (by omega) (by omega) (by omega) (by omega) (by omega) (by omega)).trans h_42))))))) (by omega) (show 42 < M7.1 by omega) (vp_in_nI (by omega) (by omega)) (nI_clamp (by omega)) rfl ?_
  refine xj_abs_set (fun M8 hs8 ha8 ho8 => ?_)
  exact xj_ret d14_26_134 (by omega) (by omega) rfl ⟨rfl, (show M8.1 = n by omega), (fun j hj hj0 hj1 hj2 hj3 hj4 hj5 hj6 hj7 hj8 hj9 => ((ho8 j (by omega)).trans ((ho7 j (by omega)).trans ((ho6 j (by omega)).trans ((ho5 j (by omega)).trans ((ho4 j (by omega)).trans ((ho3 j (by omega)).trans ((ho2 j (by omega)).trans (ho1 j (by omega) (by omega) (by omega) (by omega) (by omega) (by omega) (by omega)))))))))), ((ho8 33 (by omega)).trans ((ho7 33 (by omega)).trans ((ho6 33 (by omega)).trans ((ho5 33 (by omega)).trans ((ho4 33 (by omega)).trans ((ho3 33 (by omega)).trans ((ho2 33 (by omega)).trans hf1_0))))))), ((ho8 39 (by omega)).trans ((ho7 39 (by omega)).trans ((ho6 39 (by omega)).trans ((ho5 39 (by omega)).trans ((ho4 39 (by omega)).trans ((ho3 39 (by omega)).trans ((ho2 39 (by omega)).trans hf1_1))))))), ((ho8 34 (by omega)).trans ((ho7 34 (by omega)).trans ((ho6 34 (by omega)).trans ((ho5 34 (by omega)).trans ((ho4 34 (by omega)).trans ((ho3 34 (by omega)).trans ha2)))))), ((ho8 35 (by omega)).trans ha7), ((ho8 40 (by omega)).trans ((ho7 40 (by omega)).trans ((ho6 40 (by omega)).trans ((ho5 40 (by omega)).trans ((ho4 40 (by omega)).trans ((ho3 40 (by omega)).trans ((ho2 40 (by omega)).trans hf1_4))))))), ((ho8 24 (by omega)).trans ((ho7 24 (by omega)).trans ((ho6 24 (by omega)).trans ((ho5 24 (by omega)).trans ((ho4 24 (by omega)).trans ((ho3 24 (by omega)).trans ((ho2 24 (by omega)).trans hf1_5))))))), ((ho8 37 (by omega)).trans ((ho7 37 (by omega)).trans ((ho6 37 (by omega)).trans ((ho5 37 (by omega)).trans ((ho4 37 (by omega)).trans ha3))))), ((ho8 38 (by omega)).trans ((ho7 38 (by omega)).trans ((ho6 38 (by omega)).trans ((ho5 38 (by omega)).trans ha4)))), ((ho8 36 (by omega)).trans ((ho7 36 (by omega)).trans ((ho6 36 (by omega)).trans ha5))), ha8⟩
set_option maxRecDepth 20000 in
theorem mReBE {G : xG} (hg : xGood G) {M : xM} {n : Nat} (hn : M.1 = n) (hx : xn ≤ n) {dl : Nat} {pl : Nat} {vc : Nat} {tk : Nat} {hc : Nat} {sn : Nat} {y24 : Int32} {y33 : Int32} {y36 : Int32} {y37 : Int32} {y38 : Int32} {y39 : Int32} {np : Nat} {a : Nat} {dp : Nat} {kd : Nat → Int32} {wt : Nat → Int32} {ch : Nat → Int32} {nx : Nat → Int32} {cs : Nat → Int32} {be : Nat → Int32} {lo : Nat → Int32} {hi : Nat → Int32} {fP : Nat → Int32} {lP : Nat → Int32} {e : Nat} {m : Int32} {nn : Int32} (h1_24 : xn ≤ 24) (h2_24 : 24 < n) (h_24 : M.2 24 = (.inr (12, [.ref 25, .ref 26, .ref 27, .ref 28, .ref 29, .ref 30, .int (nI sn), .int (nI vc), .int (nI tk), .ref 31, .int (nI dl), .ref 32, .int (nI pl), .int (nI np), .ref 33, .ref 34, .ref 35, .ref 36, .ref 37, .ref 38, .ref 39, .ref 40, .int (nI a), .int (nI dp), .int y24, .ref 41, .ref 42, .ref 43, .ref 44, .ref 45, .ref 46, .ref 47, .ref 48, .int y33, .ref 49, .ref 50, .int y36, .int y37, .int y38, .int y39, .int (nI hc), .ref 51]))) (h1_33 : xn ≤ 33) (h2_33 : 33 < n) (h_33 : M.2 33 = (.inl (0, 30, .inl kd))) (h1_39 : xn ≤ 39) (h2_39 : 39 < n) (h_39 : M.2 39 = (.inl (0, 30, .inl wt))) (h1_34 : xn ≤ 34) (h2_34 : 34 < n) (h_34 : M.2 34 = (.inl (0, 30, .inl ch))) (h1_35 : xn ≤ 35) (h2_35 : 35 < n) (h_35 : M.2 35 = (.inl (0, 30, .inl nx))) (h1_40 : xn ≤ 40) (h2_40 : 40 < n) (h_40 : M.2 40 = (.inl (2, 2850, .inl cs))) (h1_36 : xn ≤ 36) (h2_36 : 36 < n) (h_36 : M.2 36 = (.inl (0, 30, .inl be))) (h1_37 : xn ≤ 37) (h2_37 : 37 < n) (h_37 : M.2 37 = (.inl (0, 30, .inl lo))) (h1_38 : xn ≤ 38) (h2_38 : 38 < n) (h_38 : M.2 38 = (.inl (0, 30, .inl hi))) (h1_41 : xn ≤ 41) (h2_41 : 41 < n) (h_41 : M.2 41 = (.inl (0, 7, .inl fP))) (h1_42 : xn ≤ 42) (h2_42 : 42 < n) (h_42 : M.2 42 = (.inl (0, 7, .inl lP))) (hxn : xn = 16) (hn2 : 52 ≤ n) (hdp : dp < 7) (hnp : np < 30) (hlP : lP dp = nI e) (he : e < np) (hn1 : nn < 0) (hm0 : m = 0) (hbe : be e = -1) : XC G Y14_26 none 1 0 0 [.ref 24, .int m, .int nn] M (fun v M' => v = none ∧ M'.1 = n ∧ (∀ j, j < n → j ≠ 33 → j ≠ 39 → j ≠ 34 → j ≠ 35 → j ≠ 40 → j ≠ 24 → j ≠ 37 → j ≠ 38 → j ≠ 36 → j ≠ 41 → j ≠ 42 → M'.2 j = M.2 j) ∧ M'.2 33 = (.inl (0, 30, .inl (upd kd np 4))) ∧ M'.2 39 = (.inl (0, 30, .inl (upd wt np (1 * ((wt e) + 1))))) ∧ M'.2 34 = (.inl (0, 30, .inl (upd (upd ch np (-1)) np (nI e)))) ∧ M'.2 35 = (.inl (0, 30, .inl (upd (upd nx np (-1)) e (-1)))) ∧ M'.2 40 = (.inl (2, 2850, .inl (va_cpy (fun _ => 0) cs 0 (95 * np) 95))) ∧ M'.2 24 = (.inr (12, [.ref 25, .ref 26, .ref 27, .ref 28, .ref 29, .ref 30, .int (nI sn), .int (nI vc), .int (nI tk), .ref 31, .int (nI dl), .ref 32, .int (nI pl), .int (nI (np + 1)), .ref 33, .ref 34, .ref 35, .ref 36, .ref 37, .ref 38, .ref 39, .ref 40, .int (nI a), .int (nI dp), .int y24, .ref 41, .ref 42, .ref 43, .ref 44, .ref 45, .ref 46, .ref 47, .ref 48, .int y33, .ref 49, .ref 50, .int y36, .int y37, .int y38, .int y39, .int (nI hc), .ref 51])) ∧ M'.2 37 = (.inl (0, 30, .inl (upd lo np m))) ∧ M'.2 38 = (.inl (0, 30, .inl (upd hi np nn))) ∧ M'.2 36 = (.inl (0, 30, .inl (upd be np (-1)))) ∧ M'.2 41 = (.inl (0, 7, .inl (upd fP dp (nI np)))) ∧ M'.2 42 = (.inl (0, 7, .inl (upd lP dp (nI np))))) := by
  refine xc_of hg (by decide) (Nat.le_of_ble_eq_true rfl) (Or.inr (Or.inr (Or.inr (Or.inr (Or.inl ⟨rfl, rfl, fun v M' h => h.1⟩))))) ?_
  refine xj_aload_n (i := 0) d14_26_0 rfl rfl ?_
  refine xj_get d14_26_1 f14_62_12 h_24 (by omega) (show 24 < M.1 by omega) rfl ?_
  refine xj_aload_n (i := 0) d14_26_4 rfl rfl ?_
  refine xj_get d14_26_5 f14_139_12 h_24 (by omega) (show 24 < M.1 by omega) rfl ?_
  refine xj_iaload (j := dp) d14_26_8 h_42 (by omega) (show 42 < M.1 by omega) (vp_in_nI (by omega) (by omega)) (nI_clamp (by omega)) ?_
  rw [show lP dp = nI e from hlP]
  refine xj_istore_n (i := 3) (L' := [(3, .int (nI e)), (0, .ref 24), (1, .int m), (2, .int nn)]) d14_26_9 rfl (by decide) rfl ?_
  refine xj_iload_n (i := 2) d14_26_10 rfl rfl ?_
  refine xj_if_lt (tgt := 18) d14_26_11 rfl (fun _ => ?_) (fun h => absurd hn1 h)
  refine xj_iload_n (i := 1) d14_26_18 rfl rfl ?_
  refine xj_if_ne (tgt := 26) d14_26_19 rfl (fun h => absurd hm0 h) (fun _ => ?_)
  refine xj_iconst (v := 1) d14_26_22 (by decide) ?_
  refine xj_goto (tgt := 27) d14_26_23 rfl ?_
  refine xj_istore (i := 4) (L' := [(4, .int 1), (3, .int (nI e)), (0, .ref 24), (1, .int m), (2, .int nn)]) d14_26_27 (by decide) rfl ?_
  refine xj_aload_n (i := 0) d14_26_29 rfl rfl ?_
  refine xj_iconst (v := 4) d14_26_30 (by decide) ?_
  refine xj_iload (i := 4) d14_26_31 rfl ?_
  refine xj_aload_n (i := 0) d14_26_33 rfl rfl ?_
  refine xj_get d14_26_34 f14_53_12 h_24 (by omega) (show 24 < M.1 by omega) rfl ?_
  refine xj_iload_n (i := 3) d14_26_37 rfl rfl ?_
  refine xj_iaload (j := e) d14_26_38 h_39 (by omega) (show 39 < M.1 by omega) (vp_in_nI (by omega) (by omega)) (nI_clamp (by omega)) ?_
  refine xj_iconst (v := 1) d14_26_39 (by decide) ?_
  refine xj_iadd (v := (wt e) + 1) d14_26_40 rfl ?_
  refine xj_imul (v := 1 * ((wt e) + 1)) d14_26_41 rfl ?_
  refine xj_callV (rest := []) (As := [.int 4, .int (1 * ((wt e) + 1))]) (b := 24) (mPart hg (M := M) (n := n) (dl := dl) (pl := pl) (vc := vc) (tk := tk) (hc := hc) (sn := sn) (y24 := y24) (y33 := y33) (y36 := y36) (y37 := y37) (y38 := y38) (y39 := y39) (np := np) (a := a) (dp := dp) (kd := kd) (wt := wt) (ch := ch) (nx := nx) (cs := cs) (kk := 4) (w := 1 * ((wt e) + 1)) (show M.1 = n by omega) (by omega) (by omega) (by omega) h_24 (by omega) (by omega) h_33 (by omega) (by omega) h_39 (by omega) (by omega) h_34 (by omega) (by omega) h_35 (by omega) (by omega) h_40 hxn hn2 (by omega)) d14_26_42 wd14_20 h_24 (by omega) (show 24 < M.1 by omega) rfl s14_20 w1232 (Or.inl w1230) rfl rfl (Nat.le_of_ble_eq_true rfl) (by omega) (by omega) (by omega) ?_
  rintro v M1 ⟨rfl, hs1, ho1, hf1_0, hf1_1, hf1_2, hf1_3, hf1_4, hf1_5⟩
  replace hs1 : M1.1 = n := hs1
  replace hf1_0 : M1.2 33 = (.inl (0, 30, .inl (upd kd np 4))) := hf1_0
  replace hf1_1 : M1.2 39 = (.inl (0, 30, .inl (upd wt np (1 * ((wt e) + 1))))) := hf1_1
  replace hf1_2 : M1.2 34 = (.inl (0, 30, .inl (upd ch np (-1)))) := hf1_2
  replace hf1_3 : M1.2 35 = (.inl (0, 30, .inl (upd nx np (-1)))) := hf1_3
  replace hf1_4 : M1.2 40 = (.inl (2, 2850, .inl (va_cpy (fun _ => 0) cs 0 (95 * np) 95))) := hf1_4
  replace hf1_5 : M1.2 24 = (.inr (12, [.ref 25, .ref 26, .ref 27, .ref 28, .ref 29, .ref 30, .int (nI sn), .int (nI vc), .int (nI tk), .ref 31, .int (nI dl), .ref 32, .int (nI pl), .int (nI (np + 1)), .ref 33, .ref 34, .ref 35, .ref 36, .ref 37, .ref 38, .ref 39, .ref 40, .int (nI a), .int (nI dp), .int y24, .ref 41, .ref 42, .ref 43, .ref 44, .ref 45, .ref 46, .ref 47, .ref 48, .int y33, .ref 49, .ref 50, .int y36, .int y37, .int y38, .int y39, .int (nI hc), .ref 51])) := hf1_5
  refine xj_istore (i := 5) (L' := [(5, .int (nI np)), (4, .int 1), (3, .int (nI e)), (0, .ref 24), (1, .int m), (2, .int nn)]) d14_26_45 (by decide) rfl ?_
  refine xj_aload_n (i := 0) d14_26_47 rfl rfl ?_
  refine xj_get d14_26_48 f14_38_12 hf1_5 (by omega) (show 24 < M1.1 by omega) rfl ?_
  refine xj_iload (i := 5) d14_26_51 rfl ?_
  refine xj_iload_n (i := 3) d14_26_53 rfl rfl ?_
  refine xj_iastore (j := np) (x' := nI e) d14_26_54 hf1_2 (by omega) (show 34 < M1.1 by omega) (vp_in_nI (by omega) (by omega)) (nI_clamp (by omega)) rfl ?_
  refine xj_abs_set (fun M2 hs2 ha2 ho2 => ?_)
  refine xj_aload_n (i := 0) d14_26_55 rfl rfl ?_
  refine xj_get d14_26_56 f14_47_12 ((ho2 24 (by omega)).trans hf1_5) (by omega) (show 24 < M2.1 by omega) rfl ?_
  refine xj_iload (i := 5) d14_26_59 rfl ?_
  refine xj_iload_n (i := 1) d14_26_61 rfl rfl ?_
  refine xj_iastore (j := np) (x' := m) d14_26_62 ((ho2 37 (by omega)).trans ((ho1 37 (by omega) (by omega) (by omega) (by omega) (by omega) (by omega) (by omega)).trans h_37)) (by omega) (show 37 < M2.1 by omega) (vp_in_nI (by omega) (by omega)) (nI_clamp (by omega)) rfl ?_
  refine xj_abs_set (fun M3 hs3 ha3 ho3 => ?_)
  refine xj_aload_n (i := 0) d14_26_63 rfl rfl ?_
  refine xj_get d14_26_64 f14_50_12 ((ho3 24 (by omega)).trans ((ho2 24 (by omega)).trans hf1_5)) (by omega) (show 24 < M3.1 by omega) rfl ?_
  refine xj_iload (i := 5) d14_26_67 rfl ?_
  refine xj_iload_n (i := 2) d14_26_69 rfl rfl ?_
  refine xj_iastore (j := np) (x' := nn) d14_26_70 ((ho3 38 (by omega)).trans ((ho2 38 (by omega)).trans ((ho1 38 (by omega) (by omega) (by omega) (by omega) (by omega) (by omega) (by omega)).trans h_38))) (by omega) (show 38 < M3.1 by omega) (vp_in_nI (by omega) (by omega)) (nI_clamp (by omega)) rfl ?_
  refine xj_abs_set (fun M4 hs4 ha4 ho4 => ?_)
  refine xj_aload_n (i := 0) d14_26_71 rfl rfl ?_
  refine xj_get d14_26_72 f14_44_12 ((ho4 24 (by omega)).trans ((ho3 24 (by omega)).trans ((ho2 24 (by omega)).trans hf1_5))) (by omega) (show 24 < M4.1 by omega) rfl ?_
  refine xj_iload_n (i := 3) d14_26_75 rfl rfl ?_
  refine xj_iaload (j := e) d14_26_76 ((ho4 36 (by omega)).trans ((ho3 36 (by omega)).trans ((ho2 36 (by omega)).trans ((ho1 36 (by omega) (by omega) (by omega) (by omega) (by omega) (by omega) (by omega)).trans h_36)))) (by omega) (show 36 < M4.1 by omega) (vp_in_nI (by omega) (by omega)) (nI_clamp (by omega)) ?_
  rw [show be e = -1 from hbe]
  refine xj_istore (i := 6) (L' := [(6, .int (-1)), (5, .int (nI np)), (4, .int 1), (3, .int (nI e)), (0, .ref 24), (1, .int m), (2, .int nn)]) d14_26_77 (by decide) rfl ?_
  refine xj_aload_n (i := 0) d14_26_79 rfl rfl ?_
  refine xj_get d14_26_80 f14_44_12 ((ho4 24 (by omega)).trans ((ho3 24 (by omega)).trans ((ho2 24 (by omega)).trans hf1_5))) (by omega) (show 24 < M4.1 by omega) rfl ?_
  refine xj_iload (i := 5) d14_26_83 rfl ?_
  refine xj_iload (i := 6) d14_26_85 rfl ?_
  refine xj_iastore (j := np) (x' := -1) d14_26_87 ((ho4 36 (by omega)).trans ((ho3 36 (by omega)).trans ((ho2 36 (by omega)).trans ((ho1 36 (by omega) (by omega) (by omega) (by omega) (by omega) (by omega) (by omega)).trans h_36)))) (by omega) (show 36 < M4.1 by omega) (vp_in_nI (by omega) (by omega)) (nI_clamp (by omega)) rfl ?_
  refine xj_abs_set (fun M5 hs5 ha5 ho5 => ?_)
  refine xj_aload_n (i := 0) d14_26_88 rfl rfl ?_
  refine xj_get d14_26_89 f14_41_12 ((ho5 24 (by omega)).trans ((ho4 24 (by omega)).trans ((ho3 24 (by omega)).trans ((ho2 24 (by omega)).trans hf1_5)))) (by omega) (show 24 < M5.1 by omega) rfl ?_
  refine xj_iload_n (i := 3) d14_26_92 rfl rfl ?_
  refine xj_iconst (v := (-1)) d14_26_93 (by decide) ?_
  refine xj_iastore (j := e) (x' := (-1)) d14_26_94 ((ho5 35 (by omega)).trans ((ho4 35 (by omega)).trans ((ho3 35 (by omega)).trans ((ho2 35 (by omega)).trans hf1_3)))) (by omega) (show 35 < M5.1 by omega) (vp_in_nI (by omega) (by omega)) (nI_clamp (by omega)) rfl ?_
  refine xj_abs_set (fun M6 hs6 ha6 ho6 => ?_)
  refine xj_iload (i := 6) d14_26_95 rfl ?_
  refine xj_if_ge (tgt := 114) d14_26_97 rfl (fun h => absurd h (by decide)) (fun _ => ?_)
  refine xj_aload_n (i := 0) d14_26_100 rfl rfl ?_
  refine xj_get d14_26_101 f14_59_12 ((ho6 24 (by omega)).trans ((ho5 24 (by omega)).trans ((ho4 24 (by omega)).trans ((ho3 24 (by omega)).trans ((ho2 24 (by omega)).trans hf1_5))))) (by omega) (show 24 < M6.1 by omega) rfl ?_
  refine xj_aload_n (i := 0) d14_26_104 rfl rfl ?_
  refine xj_get d14_26_105 f14_139_12 ((ho6 24 (by omega)).trans ((ho5 24 (by omega)).trans ((ho4 24 (by omega)).trans ((ho3 24 (by omega)).trans ((ho2 24 (by omega)).trans hf1_5))))) (by omega) (show 24 < M6.1 by omega) rfl ?_
  refine xj_iload (i := 5) d14_26_108 rfl ?_
  refine xj_iastore (j := dp) (x' := nI np) d14_26_110 ((ho6 41 (by omega)).trans ((ho5 41 (by omega)).trans ((ho4 41 (by omega)).trans ((ho3 41 (by omega)).trans ((ho2 41 (by omega)).trans ((ho1 41 (by omega) (by omega) (by omega) (by omega) (by omega) (by omega) (by omega)).trans h_41)))))) (by omega) (show 41 < M6.1 by omega) (vp_in_nI (by omega) (by omega)) (nI_clamp (by omega)) rfl ?_
  refine xj_abs_set (fun M7 hs7 ha7 ho7 => ?_)
  refine xj_goto (tgt := 123) d14_26_111 rfl ?_
  refine xj_aload_n (i := 0) d14_26_123 rfl rfl ?_
  refine xj_get d14_26_124 f14_62_12 ((ho7 24 (by omega)).trans ((ho6 24 (by omega)).trans ((ho5 24 (by omega)).trans ((ho4 24 (by omega)).trans ((ho3 24 (by omega)).trans ((ho2 24 (by omega)).trans hf1_5)))))) (by omega) (show 24 < M7.1 by omega) rfl ?_
  refine xj_aload_n (i := 0) d14_26_127 rfl rfl ?_
  refine xj_get d14_26_128 f14_139_12 ((ho7 24 (by omega)).trans ((ho6 24 (by omega)).trans ((ho5 24 (by omega)).trans ((ho4 24 (by omega)).trans ((ho3 24 (by omega)).trans ((ho2 24 (by omega)).trans hf1_5)))))) (by omega) (show 24 < M7.1 by omega) rfl ?_
  refine xj_iload (i := 5) d14_26_131 rfl ?_
  refine xj_iastore (j := dp) (x' := nI np) d14_26_133 ((ho7 42 (by omega)).trans ((ho6 42 (by omega)).trans ((ho5 42 (by omega)).trans ((ho4 42 (by omega)).trans ((ho3 42 (by omega)).trans ((ho2 42 (by omega)).trans ((ho1 42 (by omega) (by omega) (by omega) (by omega) (by omega) (by omega) (by omega)).trans h_42))))))) (by omega) (show 42 < M7.1 by omega) (vp_in_nI (by omega) (by omega)) (nI_clamp (by omega)) rfl ?_
  refine xj_abs_set (fun M8 hs8 ha8 ho8 => ?_)
  exact xj_ret d14_26_134 (by omega) (by omega) rfl ⟨rfl, (show M8.1 = n by omega), (fun j hj hj0 hj1 hj2 hj3 hj4 hj5 hj6 hj7 hj8 hj9 hj10 => ((ho8 j (by omega)).trans ((ho7 j (by omega)).trans ((ho6 j (by omega)).trans ((ho5 j (by omega)).trans ((ho4 j (by omega)).trans ((ho3 j (by omega)).trans ((ho2 j (by omega)).trans (ho1 j (by omega) (by omega) (by omega) (by omega) (by omega) (by omega) (by omega)))))))))), ((ho8 33 (by omega)).trans ((ho7 33 (by omega)).trans ((ho6 33 (by omega)).trans ((ho5 33 (by omega)).trans ((ho4 33 (by omega)).trans ((ho3 33 (by omega)).trans ((ho2 33 (by omega)).trans hf1_0))))))), ((ho8 39 (by omega)).trans ((ho7 39 (by omega)).trans ((ho6 39 (by omega)).trans ((ho5 39 (by omega)).trans ((ho4 39 (by omega)).trans ((ho3 39 (by omega)).trans ((ho2 39 (by omega)).trans hf1_1))))))), ((ho8 34 (by omega)).trans ((ho7 34 (by omega)).trans ((ho6 34 (by omega)).trans ((ho5 34 (by omega)).trans ((ho4 34 (by omega)).trans ((ho3 34 (by omega)).trans ha2)))))), ((ho8 35 (by omega)).trans ((ho7 35 (by omega)).trans ha6)), ((ho8 40 (by omega)).trans ((ho7 40 (by omega)).trans ((ho6 40 (by omega)).trans ((ho5 40 (by omega)).trans ((ho4 40 (by omega)).trans ((ho3 40 (by omega)).trans ((ho2 40 (by omega)).trans hf1_4))))))), ((ho8 24 (by omega)).trans ((ho7 24 (by omega)).trans ((ho6 24 (by omega)).trans ((ho5 24 (by omega)).trans ((ho4 24 (by omega)).trans ((ho3 24 (by omega)).trans ((ho2 24 (by omega)).trans hf1_5))))))), ((ho8 37 (by omega)).trans ((ho7 37 (by omega)).trans ((ho6 37 (by omega)).trans ((ho5 37 (by omega)).trans ((ho4 37 (by omega)).trans ha3))))), ((ho8 38 (by omega)).trans ((ho7 38 (by omega)).trans ((ho6 38 (by omega)).trans ((ho5 38 (by omega)).trans ha4)))), ((ho8 36 (by omega)).trans ((ho7 36 (by omega)).trans ((ho6 36 (by omega)).trans ha5))), ((ho8 41 (by omega)).trans ha7), ha8⟩
set_option maxRecDepth 20000 in
theorem mReBN {G : xG} (hg : xGood G) {M : xM} {n : Nat} (hn : M.1 = n) (hx : xn ≤ n) {dl : Nat} {pl : Nat} {vc : Nat} {tk : Nat} {hc : Nat} {sn : Nat} {y24 : Int32} {y33 : Int32} {y36 : Int32} {y37 : Int32} {y38 : Int32} {y39 : Int32} {np : Nat} {a : Nat} {dp : Nat} {kd : Nat → Int32} {wt : Nat → Int32} {ch : Nat → Int32} {nx : Nat → Int32} {cs : Nat → Int32} {be : Nat → Int32} {lo : Nat → Int32} {hi : Nat → Int32} {fP : Nat → Int32} {lP : Nat → Int32} {e : Nat} {m : Int32} {nn : Int32} {pb : Nat} (h1_24 : xn ≤ 24) (h2_24 : 24 < n) (h_24 : M.2 24 = (.inr (12, [.ref 25, .ref 26, .ref 27, .ref 28, .ref 29, .ref 30, .int (nI sn), .int (nI vc), .int (nI tk), .ref 31, .int (nI dl), .ref 32, .int (nI pl), .int (nI np), .ref 33, .ref 34, .ref 35, .ref 36, .ref 37, .ref 38, .ref 39, .ref 40, .int (nI a), .int (nI dp), .int y24, .ref 41, .ref 42, .ref 43, .ref 44, .ref 45, .ref 46, .ref 47, .ref 48, .int y33, .ref 49, .ref 50, .int y36, .int y37, .int y38, .int y39, .int (nI hc), .ref 51]))) (h1_33 : xn ≤ 33) (h2_33 : 33 < n) (h_33 : M.2 33 = (.inl (0, 30, .inl kd))) (h1_39 : xn ≤ 39) (h2_39 : 39 < n) (h_39 : M.2 39 = (.inl (0, 30, .inl wt))) (h1_34 : xn ≤ 34) (h2_34 : 34 < n) (h_34 : M.2 34 = (.inl (0, 30, .inl ch))) (h1_35 : xn ≤ 35) (h2_35 : 35 < n) (h_35 : M.2 35 = (.inl (0, 30, .inl nx))) (h1_40 : xn ≤ 40) (h2_40 : 40 < n) (h_40 : M.2 40 = (.inl (2, 2850, .inl cs))) (h1_36 : xn ≤ 36) (h2_36 : 36 < n) (h_36 : M.2 36 = (.inl (0, 30, .inl be))) (h1_37 : xn ≤ 37) (h2_37 : 37 < n) (h_37 : M.2 37 = (.inl (0, 30, .inl lo))) (h1_38 : xn ≤ 38) (h2_38 : 38 < n) (h_38 : M.2 38 = (.inl (0, 30, .inl hi))) (h1_41 : xn ≤ 41) (h2_41 : 41 < n) (h_41 : M.2 41 = (.inl (0, 7, .inl fP))) (h1_42 : xn ≤ 42) (h2_42 : 42 < n) (h_42 : M.2 42 = (.inl (0, 7, .inl lP))) (hxn : xn = 16) (hn2 : 52 ≤ n) (hdp : dp < 7) (hnp : np < 30) (hlP : lP dp = nI e) (he : e < np) (hn1 : nn < 0) (hm0 : m = 0) (hbe : be e = nI pb) (hpb : pb < np) : XC G Y14_26 none 1 0 0 [.ref 24, .int m, .int nn] M (fun v M' => v = none ∧ M'.1 = n ∧ (∀ j, j < n → j ≠ 33 → j ≠ 39 → j ≠ 34 → j ≠ 35 → j ≠ 40 → j ≠ 24 → j ≠ 37 → j ≠ 38 → j ≠ 36 → j ≠ 42 → M'.2 j = M.2 j) ∧ M'.2 33 = (.inl (0, 30, .inl (upd kd np 4))) ∧ M'.2 39 = (.inl (0, 30, .inl (upd wt np (1 * ((wt e) + 1))))) ∧ M'.2 34 = (.inl (0, 30, .inl (upd (upd ch np (-1)) np (nI e)))) ∧ M'.2 35 = (.inl (0, 30, .inl (upd (upd (upd nx np (-1)) e (-1)) pb (nI np)))) ∧ M'.2 40 = (.inl (2, 2850, .inl (va_cpy (fun _ => 0) cs 0 (95 * np) 95))) ∧ M'.2 24 = (.inr (12, [.ref 25, .ref 26, .ref 27, .ref 28, .ref 29, .ref 30, .int (nI sn), .int (nI vc), .int (nI tk), .ref 31, .int (nI dl), .ref 32, .int (nI pl), .int (nI (np + 1)), .ref 33, .ref 34, .ref 35, .ref 36, .ref 37, .ref 38, .ref 39, .ref 40, .int (nI a), .int (nI dp), .int y24, .ref 41, .ref 42, .ref 43, .ref 44, .ref 45, .ref 46, .ref 47, .ref 48, .int y33, .ref 49, .ref 50, .int y36, .int y37, .int y38, .int y39, .int (nI hc), .ref 51])) ∧ M'.2 37 = (.inl (0, 30, .inl (upd lo np m))) ∧ M'.2 38 = (.inl (0, 30, .inl (upd hi np nn))) ∧ M'.2 36 = (.inl (0, 30, .inl (upd be np (nI pb)))) ∧ M'.2 42 = (.inl (0, 7, .inl (upd lP dp (nI np))))) := by
  refine xc_of hg (by decide) (Nat.le_of_ble_eq_true rfl) (Or.inr (Or.inr (Or.inr (Or.inr (Or.inl ⟨rfl, rfl, fun v M' h => h.1⟩))))) ?_
  refine xj_aload_n (i := 0) d14_26_0 rfl rfl ?_
  refine xj_get d14_26_1 f14_62_12 h_24 (by omega) (show 24 < M.1 by omega) rfl ?_
  refine xj_aload_n (i := 0) d14_26_4 rfl rfl ?_
  refine xj_get d14_26_5 f14_139_12 h_24 (by omega) (show 24 < M.1 by omega) rfl ?_
  refine xj_iaload (j := dp) d14_26_8 h_42 (by omega) (show 42 < M.1 by omega) (vp_in_nI (by omega) (by omega)) (nI_clamp (by omega)) ?_
  rw [show lP dp = nI e from hlP]
  refine xj_istore_n (i := 3) (L' := [(3, .int (nI e)), (0, .ref 24), (1, .int m), (2, .int nn)]) d14_26_9 rfl (by decide) rfl ?_
  refine xj_iload_n (i := 2) d14_26_10 rfl rfl ?_
  refine xj_if_lt (tgt := 18) d14_26_11 rfl (fun _ => ?_) (fun h => absurd hn1 h)
  refine xj_iload_n (i := 1) d14_26_18 rfl rfl ?_
  refine xj_if_ne (tgt := 26) d14_26_19 rfl (fun h => absurd hm0 h) (fun _ => ?_)
  refine xj_iconst (v := 1) d14_26_22 (by decide) ?_
  refine xj_goto (tgt := 27) d14_26_23 rfl ?_
  refine xj_istore (i := 4) (L' := [(4, .int 1), (3, .int (nI e)), (0, .ref 24), (1, .int m), (2, .int nn)]) d14_26_27 (by decide) rfl ?_
  refine xj_aload_n (i := 0) d14_26_29 rfl rfl ?_
  refine xj_iconst (v := 4) d14_26_30 (by decide) ?_
  refine xj_iload (i := 4) d14_26_31 rfl ?_
  refine xj_aload_n (i := 0) d14_26_33 rfl rfl ?_
  refine xj_get d14_26_34 f14_53_12 h_24 (by omega) (show 24 < M.1 by omega) rfl ?_
  refine xj_iload_n (i := 3) d14_26_37 rfl rfl ?_
  refine xj_iaload (j := e) d14_26_38 h_39 (by omega) (show 39 < M.1 by omega) (vp_in_nI (by omega) (by omega)) (nI_clamp (by omega)) ?_
  refine xj_iconst (v := 1) d14_26_39 (by decide) ?_
  refine xj_iadd (v := (wt e) + 1) d14_26_40 rfl ?_
  refine xj_imul (v := 1 * ((wt e) + 1)) d14_26_41 rfl ?_
  refine xj_callV (rest := []) (As := [.int 4, .int (1 * ((wt e) + 1))]) (b := 24) (mPart hg (M := M) (n := n) (dl := dl) (pl := pl) (vc := vc) (tk := tk) (hc := hc) (sn := sn) (y24 := y24) (y33 := y33) (y36 := y36) (y37 := y37) (y38 := y38) (y39 := y39) (np := np) (a := a) (dp := dp) (kd := kd) (wt := wt) (ch := ch) (nx := nx) (cs := cs) (kk := 4) (w := 1 * ((wt e) + 1)) (show M.1 = n by omega) (by omega) (by omega) (by omega) h_24 (by omega) (by omega) h_33 (by omega) (by omega) h_39 (by omega) (by omega) h_34 (by omega) (by omega) h_35 (by omega) (by omega) h_40 hxn hn2 (by omega)) d14_26_42 wd14_20 h_24 (by omega) (show 24 < M.1 by omega) rfl s14_20 w1232 (Or.inl w1230) rfl rfl (Nat.le_of_ble_eq_true rfl) (by omega) (by omega) (by omega) ?_
  rintro v M1 ⟨rfl, hs1, ho1, hf1_0, hf1_1, hf1_2, hf1_3, hf1_4, hf1_5⟩
  replace hs1 : M1.1 = n := hs1
  replace hf1_0 : M1.2 33 = (.inl (0, 30, .inl (upd kd np 4))) := hf1_0
  replace hf1_1 : M1.2 39 = (.inl (0, 30, .inl (upd wt np (1 * ((wt e) + 1))))) := hf1_1
  replace hf1_2 : M1.2 34 = (.inl (0, 30, .inl (upd ch np (-1)))) := hf1_2
  replace hf1_3 : M1.2 35 = (.inl (0, 30, .inl (upd nx np (-1)))) := hf1_3
  replace hf1_4 : M1.2 40 = (.inl (2, 2850, .inl (va_cpy (fun _ => 0) cs 0 (95 * np) 95))) := hf1_4
  replace hf1_5 : M1.2 24 = (.inr (12, [.ref 25, .ref 26, .ref 27, .ref 28, .ref 29, .ref 30, .int (nI sn), .int (nI vc), .int (nI tk), .ref 31, .int (nI dl), .ref 32, .int (nI pl), .int (nI (np + 1)), .ref 33, .ref 34, .ref 35, .ref 36, .ref 37, .ref 38, .ref 39, .ref 40, .int (nI a), .int (nI dp), .int y24, .ref 41, .ref 42, .ref 43, .ref 44, .ref 45, .ref 46, .ref 47, .ref 48, .int y33, .ref 49, .ref 50, .int y36, .int y37, .int y38, .int y39, .int (nI hc), .ref 51])) := hf1_5
  refine xj_istore (i := 5) (L' := [(5, .int (nI np)), (4, .int 1), (3, .int (nI e)), (0, .ref 24), (1, .int m), (2, .int nn)]) d14_26_45 (by decide) rfl ?_
  refine xj_aload_n (i := 0) d14_26_47 rfl rfl ?_
  refine xj_get d14_26_48 f14_38_12 hf1_5 (by omega) (show 24 < M1.1 by omega) rfl ?_
  refine xj_iload (i := 5) d14_26_51 rfl ?_
  refine xj_iload_n (i := 3) d14_26_53 rfl rfl ?_
  refine xj_iastore (j := np) (x' := nI e) d14_26_54 hf1_2 (by omega) (show 34 < M1.1 by omega) (vp_in_nI (by omega) (by omega)) (nI_clamp (by omega)) rfl ?_
  refine xj_abs_set (fun M2 hs2 ha2 ho2 => ?_)
  refine xj_aload_n (i := 0) d14_26_55 rfl rfl ?_
  refine xj_get d14_26_56 f14_47_12 ((ho2 24 (by omega)).trans hf1_5) (by omega) (show 24 < M2.1 by omega) rfl ?_
  refine xj_iload (i := 5) d14_26_59 rfl ?_
  refine xj_iload_n (i := 1) d14_26_61 rfl rfl ?_
  refine xj_iastore (j := np) (x' := m) d14_26_62 ((ho2 37 (by omega)).trans ((ho1 37 (by omega) (by omega) (by omega) (by omega) (by omega) (by omega) (by omega)).trans h_37)) (by omega) (show 37 < M2.1 by omega) (vp_in_nI (by omega) (by omega)) (nI_clamp (by omega)) rfl ?_
  refine xj_abs_set (fun M3 hs3 ha3 ho3 => ?_)
  refine xj_aload_n (i := 0) d14_26_63 rfl rfl ?_
  refine xj_get d14_26_64 f14_50_12 ((ho3 24 (by omega)).trans ((ho2 24 (by omega)).trans hf1_5)) (by omega) (show 24 < M3.1 by omega) rfl ?_
  refine xj_iload (i := 5) d14_26_67 rfl ?_
  refine xj_iload_n (i := 2) d14_26_69 rfl rfl ?_
  refine xj_iastore (j := np) (x' := nn) d14_26_70 ((ho3 38 (by omega)).trans ((ho2 38 (by omega)).trans ((ho1 38 (by omega) (by omega) (by omega) (by omega) (by omega) (by omega) (by omega)).trans h_38))) (by omega) (show 38 < M3.1 by omega) (vp_in_nI (by omega) (by omega)) (nI_clamp (by omega)) rfl ?_
  refine xj_abs_set (fun M4 hs4 ha4 ho4 => ?_)
  refine xj_aload_n (i := 0) d14_26_71 rfl rfl ?_
  refine xj_get d14_26_72 f14_44_12 ((ho4 24 (by omega)).trans ((ho3 24 (by omega)).trans ((ho2 24 (by omega)).trans hf1_5))) (by omega) (show 24 < M4.1 by omega) rfl ?_
  refine xj_iload_n (i := 3) d14_26_75 rfl rfl ?_
  refine xj_iaload (j := e) d14_26_76 ((ho4 36 (by omega)).trans ((ho3 36 (by omega)).trans ((ho2 36 (by omega)).trans ((ho1 36 (by omega) (by omega) (by omega) (by omega) (by omega) (by omega) (by omega)).trans h_36)))) (by omega) (show 36 < M4.1 by omega) (vp_in_nI (by omega) (by omega)) (nI_clamp (by omega)) ?_
  rw [show be e = nI pb from hbe]
  refine xj_istore (i := 6) (L' := [(6, .int (nI pb)), (5, .int (nI np)), (4, .int 1), (3, .int (nI e)), (0, .ref 24), (1, .int m), (2, .int nn)]) d14_26_77 (by decide) rfl ?_
  refine xj_aload_n (i := 0) d14_26_79 rfl rfl ?_
  refine xj_get d14_26_80 f14_44_12 ((ho4 24 (by omega)).trans ((ho3 24 (by omega)).trans ((ho2 24 (by omega)).trans hf1_5))) (by omega) (show 24 < M4.1 by omega) rfl ?_
  refine xj_iload (i := 5) d14_26_83 rfl ?_
  refine xj_iload (i := 6) d14_26_85 rfl ?_
  refine xj_iastore (j := np) (x' := nI pb) d14_26_87 ((ho4 36 (by omega)).trans ((ho3 36 (by omega)).trans ((ho2 36 (by omega)).trans ((ho1 36 (by omega) (by omega) (by omega) (by omega) (by omega) (by omega) (by omega)).trans h_36)))) (by omega) (show 36 < M4.1 by omega) (vp_in_nI (by omega) (by omega)) (nI_clamp (by omega)) rfl ?_
  refine xj_abs_set (fun M5 hs5 ha5 ho5 => ?_)
  refine xj_aload_n (i := 0) d14_26_88 rfl rfl ?_
  refine xj_get d14_26_89 f14_41_12 ((ho5 24 (by omega)).trans ((ho4 24 (by omega)).trans ((ho3 24 (by omega)).trans ((ho2 24 (by omega)).trans hf1_5)))) (by omega) (show 24 < M5.1 by omega) rfl ?_
  refine xj_iload_n (i := 3) d14_26_92 rfl rfl ?_
  refine xj_iconst (v := (-1)) d14_26_93 (by decide) ?_
  refine xj_iastore (j := e) (x' := (-1)) d14_26_94 ((ho5 35 (by omega)).trans ((ho4 35 (by omega)).trans ((ho3 35 (by omega)).trans ((ho2 35 (by omega)).trans hf1_3)))) (by omega) (show 35 < M5.1 by omega) (vp_in_nI (by omega) (by omega)) (nI_clamp (by omega)) rfl ?_
  refine xj_abs_set (fun M6 hs6 ha6 ho6 => ?_)
  refine xj_iload (i := 6) d14_26_95 rfl ?_
  refine xj_if_ge (tgt := 114) d14_26_97 rfl (fun _ => ?_) (fun h => absurd (nI_le (a := 0) (b := pb) (by omega) (by omega)) h)
  refine xj_aload_n (i := 0) d14_26_114 rfl rfl ?_
  refine xj_get d14_26_115 f14_41_12 ((ho6 24 (by omega)).trans ((ho5 24 (by omega)).trans ((ho4 24 (by omega)).trans ((ho3 24 (by omega)).trans ((ho2 24 (by omega)).trans hf1_5))))) (by omega) (show 24 < M6.1 by omega) rfl ?_
  refine xj_iload (i := 6) d14_26_118 rfl ?_
  refine xj_iload (i := 5) d14_26_120 rfl ?_
  refine xj_iastore (j := pb) (x' := nI np) d14_26_122 ha6 (by omega) (show 35 < M6.1 by omega) (vp_in_nI (by omega) (by omega)) (nI_clamp (by omega)) rfl ?_
  refine xj_abs_set (fun M7 hs7 ha7 ho7 => ?_)
  refine xj_aload_n (i := 0) d14_26_123 rfl rfl ?_
  refine xj_get d14_26_124 f14_62_12 ((ho7 24 (by omega)).trans ((ho6 24 (by omega)).trans ((ho5 24 (by omega)).trans ((ho4 24 (by omega)).trans ((ho3 24 (by omega)).trans ((ho2 24 (by omega)).trans hf1_5)))))) (by omega) (show 24 < M7.1 by omega) rfl ?_
  refine xj_aload_n (i := 0) d14_26_127 rfl rfl ?_
  refine xj_get d14_26_128 f14_139_12 ((ho7 24 (by omega)).trans ((ho6 24 (by omega)).trans ((ho5 24 (by omega)).trans ((ho4 24 (by omega)).trans ((ho3 24 (by omega)).trans ((ho2 24 (by omega)).trans hf1_5)))))) (by omega) (show 24 < M7.1 by omega) rfl ?_
  refine xj_iload (i := 5) d14_26_131 rfl ?_
  refine xj_iastore (j := dp) (x' := nI np) d14_26_133 ((ho7 42 (by omega)).trans ((ho6 42 (by omega)).trans ((ho5 42 (by omega)).trans ((ho4 42 (by omega)).trans ((ho3 42 (by omega)).trans ((ho2 42 (by omega)).trans ((ho1 42 (by omega) (by omega) (by omega) (by omega) (by omega) (by omega) (by omega)).trans h_42))))))) (by omega) (show 42 < M7.1 by omega) (vp_in_nI (by omega) (by omega)) (nI_clamp (by omega)) rfl ?_
  refine xj_abs_set (fun M8 hs8 ha8 ho8 => ?_)
  exact xj_ret d14_26_134 (by omega) (by omega) rfl ⟨rfl, (show M8.1 = n by omega), (fun j hj hj0 hj1 hj2 hj3 hj4 hj5 hj6 hj7 hj8 hj9 => ((ho8 j (by omega)).trans ((ho7 j (by omega)).trans ((ho6 j (by omega)).trans ((ho5 j (by omega)).trans ((ho4 j (by omega)).trans ((ho3 j (by omega)).trans ((ho2 j (by omega)).trans (ho1 j (by omega) (by omega) (by omega) (by omega) (by omega) (by omega) (by omega)))))))))), ((ho8 33 (by omega)).trans ((ho7 33 (by omega)).trans ((ho6 33 (by omega)).trans ((ho5 33 (by omega)).trans ((ho4 33 (by omega)).trans ((ho3 33 (by omega)).trans ((ho2 33 (by omega)).trans hf1_0))))))), ((ho8 39 (by omega)).trans ((ho7 39 (by omega)).trans ((ho6 39 (by omega)).trans ((ho5 39 (by omega)).trans ((ho4 39 (by omega)).trans ((ho3 39 (by omega)).trans ((ho2 39 (by omega)).trans hf1_1))))))), ((ho8 34 (by omega)).trans ((ho7 34 (by omega)).trans ((ho6 34 (by omega)).trans ((ho5 34 (by omega)).trans ((ho4 34 (by omega)).trans ((ho3 34 (by omega)).trans ha2)))))), ((ho8 35 (by omega)).trans ha7), ((ho8 40 (by omega)).trans ((ho7 40 (by omega)).trans ((ho6 40 (by omega)).trans ((ho5 40 (by omega)).trans ((ho4 40 (by omega)).trans ((ho3 40 (by omega)).trans ((ho2 40 (by omega)).trans hf1_4))))))), ((ho8 24 (by omega)).trans ((ho7 24 (by omega)).trans ((ho6 24 (by omega)).trans ((ho5 24 (by omega)).trans ((ho4 24 (by omega)).trans ((ho3 24 (by omega)).trans ((ho2 24 (by omega)).trans hf1_5))))))), ((ho8 37 (by omega)).trans ((ho7 37 (by omega)).trans ((ho6 37 (by omega)).trans ((ho5 37 (by omega)).trans ((ho4 37 (by omega)).trans ha3))))), ((ho8 38 (by omega)).trans ((ho7 38 (by omega)).trans ((ho6 38 (by omega)).trans ((ho5 38 (by omega)).trans ha4)))), ((ho8 36 (by omega)).trans ((ho7 36 (by omega)).trans ((ho6 36 (by omega)).trans ha5))), ha8⟩
set_option maxRecDepth 20000 in
theorem mReCE {G : xG} (hg : xGood G) {M : xM} {n : Nat} (hn : M.1 = n) (hx : xn ≤ n) {dl : Nat} {pl : Nat} {vc : Nat} {tk : Nat} {hc : Nat} {sn : Nat} {y24 : Int32} {y33 : Int32} {y36 : Int32} {y37 : Int32} {y38 : Int32} {y39 : Int32} {np : Nat} {a : Nat} {dp : Nat} {kd : Nat → Int32} {wt : Nat → Int32} {ch : Nat → Int32} {nx : Nat → Int32} {cs : Nat → Int32} {be : Nat → Int32} {lo : Nat → Int32} {hi : Nat → Int32} {fP : Nat → Int32} {lP : Nat → Int32} {e : Nat} {m : Int32} {nn : Int32} (h1_24 : xn ≤ 24) (h2_24 : 24 < n) (h_24 : M.2 24 = (.inr (12, [.ref 25, .ref 26, .ref 27, .ref 28, .ref 29, .ref 30, .int (nI sn), .int (nI vc), .int (nI tk), .ref 31, .int (nI dl), .ref 32, .int (nI pl), .int (nI np), .ref 33, .ref 34, .ref 35, .ref 36, .ref 37, .ref 38, .ref 39, .ref 40, .int (nI a), .int (nI dp), .int y24, .ref 41, .ref 42, .ref 43, .ref 44, .ref 45, .ref 46, .ref 47, .ref 48, .int y33, .ref 49, .ref 50, .int y36, .int y37, .int y38, .int y39, .int (nI hc), .ref 51]))) (h1_33 : xn ≤ 33) (h2_33 : 33 < n) (h_33 : M.2 33 = (.inl (0, 30, .inl kd))) (h1_39 : xn ≤ 39) (h2_39 : 39 < n) (h_39 : M.2 39 = (.inl (0, 30, .inl wt))) (h1_34 : xn ≤ 34) (h2_34 : 34 < n) (h_34 : M.2 34 = (.inl (0, 30, .inl ch))) (h1_35 : xn ≤ 35) (h2_35 : 35 < n) (h_35 : M.2 35 = (.inl (0, 30, .inl nx))) (h1_40 : xn ≤ 40) (h2_40 : 40 < n) (h_40 : M.2 40 = (.inl (2, 2850, .inl cs))) (h1_36 : xn ≤ 36) (h2_36 : 36 < n) (h_36 : M.2 36 = (.inl (0, 30, .inl be))) (h1_37 : xn ≤ 37) (h2_37 : 37 < n) (h_37 : M.2 37 = (.inl (0, 30, .inl lo))) (h1_38 : xn ≤ 38) (h2_38 : 38 < n) (h_38 : M.2 38 = (.inl (0, 30, .inl hi))) (h1_41 : xn ≤ 41) (h2_41 : 41 < n) (h_41 : M.2 41 = (.inl (0, 7, .inl fP))) (h1_42 : xn ≤ 42) (h2_42 : 42 < n) (h_42 : M.2 42 = (.inl (0, 7, .inl lP))) (hxn : xn = 16) (hn2 : 52 ≤ n) (hdp : dp < 7) (hnp : np < 30) (hlP : lP dp = nI e) (he : e < np) (hn1 : nn < 0) (hm0 : ¬ m = 0) (hbe : be e = -1) : XC G Y14_26 none 1 0 0 [.ref 24, .int m, .int nn] M (fun v M' => v = none ∧ M'.1 = n ∧ (∀ j, j < n → j ≠ 33 → j ≠ 39 → j ≠ 34 → j ≠ 35 → j ≠ 40 → j ≠ 24 → j ≠ 37 → j ≠ 38 → j ≠ 36 → j ≠ 41 → j ≠ 42 → M'.2 j = M.2 j) ∧ M'.2 33 = (.inl (0, 30, .inl (upd kd np 4))) ∧ M'.2 39 = (.inl (0, 30, .inl (upd wt np (m * ((wt e) + 1))))) ∧ M'.2 34 = (.inl (0, 30, .inl (upd (upd ch np (-1)) np (nI e)))) ∧ M'.2 35 = (.inl (0, 30, .inl (upd (upd nx np (-1)) e (-1)))) ∧ M'.2 40 = (.inl (2, 2850, .inl (va_cpy (fun _ => 0) cs 0 (95 * np) 95))) ∧ M'.2 24 = (.inr (12, [.ref 25, .ref 26, .ref 27, .ref 28, .ref 29, .ref 30, .int (nI sn), .int (nI vc), .int (nI tk), .ref 31, .int (nI dl), .ref 32, .int (nI pl), .int (nI (np + 1)), .ref 33, .ref 34, .ref 35, .ref 36, .ref 37, .ref 38, .ref 39, .ref 40, .int (nI a), .int (nI dp), .int y24, .ref 41, .ref 42, .ref 43, .ref 44, .ref 45, .ref 46, .ref 47, .ref 48, .int y33, .ref 49, .ref 50, .int y36, .int y37, .int y38, .int y39, .int (nI hc), .ref 51])) ∧ M'.2 37 = (.inl (0, 30, .inl (upd lo np m))) ∧ M'.2 38 = (.inl (0, 30, .inl (upd hi np nn))) ∧ M'.2 36 = (.inl (0, 30, .inl (upd be np (-1)))) ∧ M'.2 41 = (.inl (0, 7, .inl (upd fP dp (nI np)))) ∧ M'.2 42 = (.inl (0, 7, .inl (upd lP dp (nI np))))) := by
  refine xc_of hg (by decide) (Nat.le_of_ble_eq_true rfl) (Or.inr (Or.inr (Or.inr (Or.inr (Or.inl ⟨rfl, rfl, fun v M' h => h.1⟩))))) ?_
  refine xj_aload_n (i := 0) d14_26_0 rfl rfl ?_
  refine xj_get d14_26_1 f14_62_12 h_24 (by omega) (show 24 < M.1 by omega) rfl ?_
  refine xj_aload_n (i := 0) d14_26_4 rfl rfl ?_
  refine xj_get d14_26_5 f14_139_12 h_24 (by omega) (show 24 < M.1 by omega) rfl ?_
  refine xj_iaload (j := dp) d14_26_8 h_42 (by omega) (show 42 < M.1 by omega) (vp_in_nI (by omega) (by omega)) (nI_clamp (by omega)) ?_
  rw [show lP dp = nI e from hlP]
  refine xj_istore_n (i := 3) (L' := [(3, .int (nI e)), (0, .ref 24), (1, .int m), (2, .int nn)]) d14_26_9 rfl (by decide) rfl ?_
  refine xj_iload_n (i := 2) d14_26_10 rfl rfl ?_
  refine xj_if_lt (tgt := 18) d14_26_11 rfl (fun _ => ?_) (fun h => absurd hn1 h)
  refine xj_iload_n (i := 1) d14_26_18 rfl rfl ?_
  refine xj_if_ne (tgt := 26) d14_26_19 rfl (fun _ => ?_) (fun h => absurd h hm0)
  refine xj_iload_n (i := 1) d14_26_26 rfl rfl ?_
  refine xj_istore (i := 4) (L' := [(4, .int m), (3, .int (nI e)), (0, .ref 24), (1, .int m), (2, .int nn)]) d14_26_27 (by decide) rfl ?_
  refine xj_aload_n (i := 0) d14_26_29 rfl rfl ?_
  refine xj_iconst (v := 4) d14_26_30 (by decide) ?_
  refine xj_iload (i := 4) d14_26_31 rfl ?_
  refine xj_aload_n (i := 0) d14_26_33 rfl rfl ?_
  refine xj_get d14_26_34 f14_53_12 h_24 (by omega) (show 24 < M.1 by omega) rfl ?_
  refine xj_iload_n (i := 3) d14_26_37 rfl rfl ?_
  refine xj_iaload (j := e) d14_26_38 h_39 (by omega) (show 39 < M.1 by omega) (vp_in_nI (by omega) (by omega)) (nI_clamp (by omega)) ?_
  refine xj_iconst (v := 1) d14_26_39 (by decide) ?_
  refine xj_iadd (v := (wt e) + 1) d14_26_40 rfl ?_
  refine xj_imul (v := m * ((wt e) + 1)) d14_26_41 rfl ?_
  refine xj_callV (rest := []) (As := [.int 4, .int (m * ((wt e) + 1))]) (b := 24) (mPart hg (M := M) (n := n) (dl := dl) (pl := pl) (vc := vc) (tk := tk) (hc := hc) (sn := sn) (y24 := y24) (y33 := y33) (y36 := y36) (y37 := y37) (y38 := y38) (y39 := y39) (np := np) (a := a) (dp := dp) (kd := kd) (wt := wt) (ch := ch) (nx := nx) (cs := cs) (kk := 4) (w := m * ((wt e) + 1)) (show M.1 = n by omega) (by omega) (by omega) (by omega) h_24 (by omega) (by omega) h_33 (by omega) (by omega) h_39 (by omega) (by omega) h_34 (by omega) (by omega) h_35 (by omega) (by omega) h_40 hxn hn2 (by omega)) d14_26_42 wd14_20 h_24 (by omega) (show 24 < M.1 by omega) rfl s14_20 w1232 (Or.inl w1230) rfl rfl (Nat.le_of_ble_eq_true rfl) (by omega) (by omega) (by omega) ?_
  rintro v M1 ⟨rfl, hs1, ho1, hf1_0, hf1_1, hf1_2, hf1_3, hf1_4, hf1_5⟩
  replace hs1 : M1.1 = n := hs1
  replace hf1_0 : M1.2 33 = (.inl (0, 30, .inl (upd kd np 4))) := hf1_0
  replace hf1_1 : M1.2 39 = (.inl (0, 30, .inl (upd wt np (m * ((wt e) + 1))))) := hf1_1
  replace hf1_2 : M1.2 34 = (.inl (0, 30, .inl (upd ch np (-1)))) := hf1_2
  replace hf1_3 : M1.2 35 = (.inl (0, 30, .inl (upd nx np (-1)))) := hf1_3
  replace hf1_4 : M1.2 40 = (.inl (2, 2850, .inl (va_cpy (fun _ => 0) cs 0 (95 * np) 95))) := hf1_4
  replace hf1_5 : M1.2 24 = (.inr (12, [.ref 25, .ref 26, .ref 27, .ref 28, .ref 29, .ref 30, .int (nI sn), .int (nI vc), .int (nI tk), .ref 31, .int (nI dl), .ref 32, .int (nI pl), .int (nI (np + 1)), .ref 33, .ref 34, .ref 35, .ref 36, .ref 37, .ref 38, .ref 39, .ref 40, .int (nI a), .int (nI dp), .int y24, .ref 41, .ref 42, .ref 43, .ref 44, .ref 45, .ref 46, .ref 47, .ref 48, .int y33, .ref 49, .ref 50, .int y36, .int y37, .int y38, .int y39, .int (nI hc), .ref 51])) := hf1_5
  refine xj_istore (i := 5) (L' := [(5, .int (nI np)), (4, .int m), (3, .int (nI e)), (0, .ref 24), (1, .int m), (2, .int nn)]) d14_26_45 (by decide) rfl ?_
  refine xj_aload_n (i := 0) d14_26_47 rfl rfl ?_
  refine xj_get d14_26_48 f14_38_12 hf1_5 (by omega) (show 24 < M1.1 by omega) rfl ?_
  refine xj_iload (i := 5) d14_26_51 rfl ?_
  refine xj_iload_n (i := 3) d14_26_53 rfl rfl ?_
  refine xj_iastore (j := np) (x' := nI e) d14_26_54 hf1_2 (by omega) (show 34 < M1.1 by omega) (vp_in_nI (by omega) (by omega)) (nI_clamp (by omega)) rfl ?_
  refine xj_abs_set (fun M2 hs2 ha2 ho2 => ?_)
  refine xj_aload_n (i := 0) d14_26_55 rfl rfl ?_
  refine xj_get d14_26_56 f14_47_12 ((ho2 24 (by omega)).trans hf1_5) (by omega) (show 24 < M2.1 by omega) rfl ?_
  refine xj_iload (i := 5) d14_26_59 rfl ?_
  refine xj_iload_n (i := 1) d14_26_61 rfl rfl ?_
  refine xj_iastore (j := np) (x' := m) d14_26_62 ((ho2 37 (by omega)).trans ((ho1 37 (by omega) (by omega) (by omega) (by omega) (by omega) (by omega) (by omega)).trans h_37)) (by omega) (show 37 < M2.1 by omega) (vp_in_nI (by omega) (by omega)) (nI_clamp (by omega)) rfl ?_
  refine xj_abs_set (fun M3 hs3 ha3 ho3 => ?_)
  refine xj_aload_n (i := 0) d14_26_63 rfl rfl ?_
  refine xj_get d14_26_64 f14_50_12 ((ho3 24 (by omega)).trans ((ho2 24 (by omega)).trans hf1_5)) (by omega) (show 24 < M3.1 by omega) rfl ?_
  refine xj_iload (i := 5) d14_26_67 rfl ?_
  refine xj_iload_n (i := 2) d14_26_69 rfl rfl ?_
  refine xj_iastore (j := np) (x' := nn) d14_26_70 ((ho3 38 (by omega)).trans ((ho2 38 (by omega)).trans ((ho1 38 (by omega) (by omega) (by omega) (by omega) (by omega) (by omega) (by omega)).trans h_38))) (by omega) (show 38 < M3.1 by omega) (vp_in_nI (by omega) (by omega)) (nI_clamp (by omega)) rfl ?_
  refine xj_abs_set (fun M4 hs4 ha4 ho4 => ?_)
  refine xj_aload_n (i := 0) d14_26_71 rfl rfl ?_
  refine xj_get d14_26_72 f14_44_12 ((ho4 24 (by omega)).trans ((ho3 24 (by omega)).trans ((ho2 24 (by omega)).trans hf1_5))) (by omega) (show 24 < M4.1 by omega) rfl ?_
  refine xj_iload_n (i := 3) d14_26_75 rfl rfl ?_
  refine xj_iaload (j := e) d14_26_76 ((ho4 36 (by omega)).trans ((ho3 36 (by omega)).trans ((ho2 36 (by omega)).trans ((ho1 36 (by omega) (by omega) (by omega) (by omega) (by omega) (by omega) (by omega)).trans h_36)))) (by omega) (show 36 < M4.1 by omega) (vp_in_nI (by omega) (by omega)) (nI_clamp (by omega)) ?_
  rw [show be e = -1 from hbe]
  refine xj_istore (i := 6) (L' := [(6, .int (-1)), (5, .int (nI np)), (4, .int m), (3, .int (nI e)), (0, .ref 24), (1, .int m), (2, .int nn)]) d14_26_77 (by decide) rfl ?_
  refine xj_aload_n (i := 0) d14_26_79 rfl rfl ?_
  refine xj_get d14_26_80 f14_44_12 ((ho4 24 (by omega)).trans ((ho3 24 (by omega)).trans ((ho2 24 (by omega)).trans hf1_5))) (by omega) (show 24 < M4.1 by omega) rfl ?_
  refine xj_iload (i := 5) d14_26_83 rfl ?_
  refine xj_iload (i := 6) d14_26_85 rfl ?_
  refine xj_iastore (j := np) (x' := -1) d14_26_87 ((ho4 36 (by omega)).trans ((ho3 36 (by omega)).trans ((ho2 36 (by omega)).trans ((ho1 36 (by omega) (by omega) (by omega) (by omega) (by omega) (by omega) (by omega)).trans h_36)))) (by omega) (show 36 < M4.1 by omega) (vp_in_nI (by omega) (by omega)) (nI_clamp (by omega)) rfl ?_
  refine xj_abs_set (fun M5 hs5 ha5 ho5 => ?_)
  refine xj_aload_n (i := 0) d14_26_88 rfl rfl ?_
  refine xj_get d14_26_89 f14_41_12 ((ho5 24 (by omega)).trans ((ho4 24 (by omega)).trans ((ho3 24 (by omega)).trans ((ho2 24 (by omega)).trans hf1_5)))) (by omega) (show 24 < M5.1 by omega) rfl ?_
  refine xj_iload_n (i := 3) d14_26_92 rfl rfl ?_
  refine xj_iconst (v := (-1)) d14_26_93 (by decide) ?_
  refine xj_iastore (j := e) (x' := (-1)) d14_26_94 ((ho5 35 (by omega)).trans ((ho4 35 (by omega)).trans ((ho3 35 (by omega)).trans ((ho2 35 (by omega)).trans hf1_3)))) (by omega) (show 35 < M5.1 by omega) (vp_in_nI (by omega) (by omega)) (nI_clamp (by omega)) rfl ?_
  refine xj_abs_set (fun M6 hs6 ha6 ho6 => ?_)
  refine xj_iload (i := 6) d14_26_95 rfl ?_
  refine xj_if_ge (tgt := 114) d14_26_97 rfl (fun h => absurd h (by decide)) (fun _ => ?_)
  refine xj_aload_n (i := 0) d14_26_100 rfl rfl ?_
  refine xj_get d14_26_101 f14_59_12 ((ho6 24 (by omega)).trans ((ho5 24 (by omega)).trans ((ho4 24 (by omega)).trans ((ho3 24 (by omega)).trans ((ho2 24 (by omega)).trans hf1_5))))) (by omega) (show 24 < M6.1 by omega) rfl ?_
  refine xj_aload_n (i := 0) d14_26_104 rfl rfl ?_
  refine xj_get d14_26_105 f14_139_12 ((ho6 24 (by omega)).trans ((ho5 24 (by omega)).trans ((ho4 24 (by omega)).trans ((ho3 24 (by omega)).trans ((ho2 24 (by omega)).trans hf1_5))))) (by omega) (show 24 < M6.1 by omega) rfl ?_
  refine xj_iload (i := 5) d14_26_108 rfl ?_
  refine xj_iastore (j := dp) (x' := nI np) d14_26_110 ((ho6 41 (by omega)).trans ((ho5 41 (by omega)).trans ((ho4 41 (by omega)).trans ((ho3 41 (by omega)).trans ((ho2 41 (by omega)).trans ((ho1 41 (by omega) (by omega) (by omega) (by omega) (by omega) (by omega) (by omega)).trans h_41)))))) (by omega) (show 41 < M6.1 by omega) (vp_in_nI (by omega) (by omega)) (nI_clamp (by omega)) rfl ?_
  refine xj_abs_set (fun M7 hs7 ha7 ho7 => ?_)
  refine xj_goto (tgt := 123) d14_26_111 rfl ?_
  refine xj_aload_n (i := 0) d14_26_123 rfl rfl ?_
  refine xj_get d14_26_124 f14_62_12 ((ho7 24 (by omega)).trans ((ho6 24 (by omega)).trans ((ho5 24 (by omega)).trans ((ho4 24 (by omega)).trans ((ho3 24 (by omega)).trans ((ho2 24 (by omega)).trans hf1_5)))))) (by omega) (show 24 < M7.1 by omega) rfl ?_
  refine xj_aload_n (i := 0) d14_26_127 rfl rfl ?_
  refine xj_get d14_26_128 f14_139_12 ((ho7 24 (by omega)).trans ((ho6 24 (by omega)).trans ((ho5 24 (by omega)).trans ((ho4 24 (by omega)).trans ((ho3 24 (by omega)).trans ((ho2 24 (by omega)).trans hf1_5)))))) (by omega) (show 24 < M7.1 by omega) rfl ?_
  refine xj_iload (i := 5) d14_26_131 rfl ?_
  refine xj_iastore (j := dp) (x' := nI np) d14_26_133 ((ho7 42 (by omega)).trans ((ho6 42 (by omega)).trans ((ho5 42 (by omega)).trans ((ho4 42 (by omega)).trans ((ho3 42 (by omega)).trans ((ho2 42 (by omega)).trans ((ho1 42 (by omega) (by omega) (by omega) (by omega) (by omega) (by omega) (by omega)).trans h_42))))))) (by omega) (show 42 < M7.1 by omega) (vp_in_nI (by omega) (by omega)) (nI_clamp (by omega)) rfl ?_
  refine xj_abs_set (fun M8 hs8 ha8 ho8 => ?_)
  exact xj_ret d14_26_134 (by omega) (by omega) rfl ⟨rfl, (show M8.1 = n by omega), (fun j hj hj0 hj1 hj2 hj3 hj4 hj5 hj6 hj7 hj8 hj9 hj10 => ((ho8 j (by omega)).trans ((ho7 j (by omega)).trans ((ho6 j (by omega)).trans ((ho5 j (by omega)).trans ((ho4 j (by omega)).trans ((ho3 j (by omega)).trans ((ho2 j (by omega)).trans (ho1 j (by omega) (by omega) (by omega) (by omega) (by omega) (by omega) (by omega)))))))))), ((ho8 33 (by omega)).trans ((ho7 33 (by omega)).trans ((ho6 33 (by omega)).trans ((ho5 33 (by omega)).trans ((ho4 33 (by omega)).trans ((ho3 33 (by omega)).trans ((ho2 33 (by omega)).trans hf1_0))))))), ((ho8 39 (by omega)).trans ((ho7 39 (by omega)).trans ((ho6 39 (by omega)).trans ((ho5 39 (by omega)).trans ((ho4 39 (by omega)).trans ((ho3 39 (by omega)).trans ((ho2 39 (by omega)).trans hf1_1))))))), ((ho8 34 (by omega)).trans ((ho7 34 (by omega)).trans ((ho6 34 (by omega)).trans ((ho5 34 (by omega)).trans ((ho4 34 (by omega)).trans ((ho3 34 (by omega)).trans ha2)))))), ((ho8 35 (by omega)).trans ((ho7 35 (by omega)).trans ha6)), ((ho8 40 (by omega)).trans ((ho7 40 (by omega)).trans ((ho6 40 (by omega)).trans ((ho5 40 (by omega)).trans ((ho4 40 (by omega)).trans ((ho3 40 (by omega)).trans ((ho2 40 (by omega)).trans hf1_4))))))), ((ho8 24 (by omega)).trans ((ho7 24 (by omega)).trans ((ho6 24 (by omega)).trans ((ho5 24 (by omega)).trans ((ho4 24 (by omega)).trans ((ho3 24 (by omega)).trans ((ho2 24 (by omega)).trans hf1_5))))))), ((ho8 37 (by omega)).trans ((ho7 37 (by omega)).trans ((ho6 37 (by omega)).trans ((ho5 37 (by omega)).trans ((ho4 37 (by omega)).trans ha3))))), ((ho8 38 (by omega)).trans ((ho7 38 (by omega)).trans ((ho6 38 (by omega)).trans ((ho5 38 (by omega)).trans ha4)))), ((ho8 36 (by omega)).trans ((ho7 36 (by omega)).trans ((ho6 36 (by omega)).trans ha5))), ((ho8 41 (by omega)).trans ha7), ha8⟩
set_option maxRecDepth 20000 in
theorem mReCN {G : xG} (hg : xGood G) {M : xM} {n : Nat} (hn : M.1 = n) (hx : xn ≤ n) {dl : Nat} {pl : Nat} {vc : Nat} {tk : Nat} {hc : Nat} {sn : Nat} {y24 : Int32} {y33 : Int32} {y36 : Int32} {y37 : Int32} {y38 : Int32} {y39 : Int32} {np : Nat} {a : Nat} {dp : Nat} {kd : Nat → Int32} {wt : Nat → Int32} {ch : Nat → Int32} {nx : Nat → Int32} {cs : Nat → Int32} {be : Nat → Int32} {lo : Nat → Int32} {hi : Nat → Int32} {fP : Nat → Int32} {lP : Nat → Int32} {e : Nat} {m : Int32} {nn : Int32} {pb : Nat} (h1_24 : xn ≤ 24) (h2_24 : 24 < n) (h_24 : M.2 24 = (.inr (12, [.ref 25, .ref 26, .ref 27, .ref 28, .ref 29, .ref 30, .int (nI sn), .int (nI vc), .int (nI tk), .ref 31, .int (nI dl), .ref 32, .int (nI pl), .int (nI np), .ref 33, .ref 34, .ref 35, .ref 36, .ref 37, .ref 38, .ref 39, .ref 40, .int (nI a), .int (nI dp), .int y24, .ref 41, .ref 42, .ref 43, .ref 44, .ref 45, .ref 46, .ref 47, .ref 48, .int y33, .ref 49, .ref 50, .int y36, .int y37, .int y38, .int y39, .int (nI hc), .ref 51]))) (h1_33 : xn ≤ 33) (h2_33 : 33 < n) (h_33 : M.2 33 = (.inl (0, 30, .inl kd))) (h1_39 : xn ≤ 39) (h2_39 : 39 < n) (h_39 : M.2 39 = (.inl (0, 30, .inl wt))) (h1_34 : xn ≤ 34) (h2_34 : 34 < n) (h_34 : M.2 34 = (.inl (0, 30, .inl ch))) (h1_35 : xn ≤ 35) (h2_35 : 35 < n) (h_35 : M.2 35 = (.inl (0, 30, .inl nx))) (h1_40 : xn ≤ 40) (h2_40 : 40 < n) (h_40 : M.2 40 = (.inl (2, 2850, .inl cs))) (h1_36 : xn ≤ 36) (h2_36 : 36 < n) (h_36 : M.2 36 = (.inl (0, 30, .inl be))) (h1_37 : xn ≤ 37) (h2_37 : 37 < n) (h_37 : M.2 37 = (.inl (0, 30, .inl lo))) (h1_38 : xn ≤ 38) (h2_38 : 38 < n) (h_38 : M.2 38 = (.inl (0, 30, .inl hi))) (h1_41 : xn ≤ 41) (h2_41 : 41 < n) (h_41 : M.2 41 = (.inl (0, 7, .inl fP))) (h1_42 : xn ≤ 42) (h2_42 : 42 < n) (h_42 : M.2 42 = (.inl (0, 7, .inl lP))) (hxn : xn = 16) (hn2 : 52 ≤ n) (hdp : dp < 7) (hnp : np < 30) (hlP : lP dp = nI e) (he : e < np) (hn1 : nn < 0) (hm0 : ¬ m = 0) (hbe : be e = nI pb) (hpb : pb < np) : XC G Y14_26 none 1 0 0 [.ref 24, .int m, .int nn] M (fun v M' => v = none ∧ M'.1 = n ∧ (∀ j, j < n → j ≠ 33 → j ≠ 39 → j ≠ 34 → j ≠ 35 → j ≠ 40 → j ≠ 24 → j ≠ 37 → j ≠ 38 → j ≠ 36 → j ≠ 42 → M'.2 j = M.2 j) ∧ M'.2 33 = (.inl (0, 30, .inl (upd kd np 4))) ∧ M'.2 39 = (.inl (0, 30, .inl (upd wt np (m * ((wt e) + 1))))) ∧ M'.2 34 = (.inl (0, 30, .inl (upd (upd ch np (-1)) np (nI e)))) ∧ M'.2 35 = (.inl (0, 30, .inl (upd (upd (upd nx np (-1)) e (-1)) pb (nI np)))) ∧ M'.2 40 = (.inl (2, 2850, .inl (va_cpy (fun _ => 0) cs 0 (95 * np) 95))) ∧ M'.2 24 = (.inr (12, [.ref 25, .ref 26, .ref 27, .ref 28, .ref 29, .ref 30, .int (nI sn), .int (nI vc), .int (nI tk), .ref 31, .int (nI dl), .ref 32, .int (nI pl), .int (nI (np + 1)), .ref 33, .ref 34, .ref 35, .ref 36, .ref 37, .ref 38, .ref 39, .ref 40, .int (nI a), .int (nI dp), .int y24, .ref 41, .ref 42, .ref 43, .ref 44, .ref 45, .ref 46, .ref 47, .ref 48, .int y33, .ref 49, .ref 50, .int y36, .int y37, .int y38, .int y39, .int (nI hc), .ref 51])) ∧ M'.2 37 = (.inl (0, 30, .inl (upd lo np m))) ∧ M'.2 38 = (.inl (0, 30, .inl (upd hi np nn))) ∧ M'.2 36 = (.inl (0, 30, .inl (upd be np (nI pb)))) ∧ M'.2 42 = (.inl (0, 7, .inl (upd lP dp (nI np))))) := by
  refine xc_of hg (by decide) (Nat.le_of_ble_eq_true rfl) (Or.inr (Or.inr (Or.inr (Or.inr (Or.inl ⟨rfl, rfl, fun v M' h => h.1⟩))))) ?_
  refine xj_aload_n (i := 0) d14_26_0 rfl rfl ?_
  refine xj_get d14_26_1 f14_62_12 h_24 (by omega) (show 24 < M.1 by omega) rfl ?_
  refine xj_aload_n (i := 0) d14_26_4 rfl rfl ?_
  refine xj_get d14_26_5 f14_139_12 h_24 (by omega) (show 24 < M.1 by omega) rfl ?_
  refine xj_iaload (j := dp) d14_26_8 h_42 (by omega) (show 42 < M.1 by omega) (vp_in_nI (by omega) (by omega)) (nI_clamp (by omega)) ?_
  rw [show lP dp = nI e from hlP]
  refine xj_istore_n (i := 3) (L' := [(3, .int (nI e)), (0, .ref 24), (1, .int m), (2, .int nn)]) d14_26_9 rfl (by decide) rfl ?_
  refine xj_iload_n (i := 2) d14_26_10 rfl rfl ?_
  refine xj_if_lt (tgt := 18) d14_26_11 rfl (fun _ => ?_) (fun h => absurd hn1 h)
  refine xj_iload_n (i := 1) d14_26_18 rfl rfl ?_
  refine xj_if_ne (tgt := 26) d14_26_19 rfl (fun _ => ?_) (fun h => absurd h hm0)
  refine xj_iload_n (i := 1) d14_26_26 rfl rfl ?_
  refine xj_istore (i := 4) (L' := [(4, .int m), (3, .int (nI e)), (0, .ref 24), (1, .int m), (2, .int nn)]) d14_26_27 (by decide) rfl ?_
  refine xj_aload_n (i := 0) d14_26_29 rfl rfl ?_
  refine xj_iconst (v := 4) d14_26_30 (by decide) ?_
  refine xj_iload (i := 4) d14_26_31 rfl ?_
  refine xj_aload_n (i := 0) d14_26_33 rfl rfl ?_
  refine xj_get d14_26_34 f14_53_12 h_24 (by omega) (show 24 < M.1 by omega) rfl ?_
  refine xj_iload_n (i := 3) d14_26_37 rfl rfl ?_
  refine xj_iaload (j := e) d14_26_38 h_39 (by omega) (show 39 < M.1 by omega) (vp_in_nI (by omega) (by omega)) (nI_clamp (by omega)) ?_
  refine xj_iconst (v := 1) d14_26_39 (by decide) ?_
  refine xj_iadd (v := (wt e) + 1) d14_26_40 rfl ?_
  refine xj_imul (v := m * ((wt e) + 1)) d14_26_41 rfl ?_
  refine xj_callV (rest := []) (As := [.int 4, .int (m * ((wt e) + 1))]) (b := 24) (mPart hg (M := M) (n := n) (dl := dl) (pl := pl) (vc := vc) (tk := tk) (hc := hc) (sn := sn) (y24 := y24) (y33 := y33) (y36 := y36) (y37 := y37) (y38 := y38) (y39 := y39) (np := np) (a := a) (dp := dp) (kd := kd) (wt := wt) (ch := ch) (nx := nx) (cs := cs) (kk := 4) (w := m * ((wt e) + 1)) (show M.1 = n by omega) (by omega) (by omega) (by omega) h_24 (by omega) (by omega) h_33 (by omega) (by omega) h_39 (by omega) (by omega) h_34 (by omega) (by omega) h_35 (by omega) (by omega) h_40 hxn hn2 (by omega)) d14_26_42 wd14_20 h_24 (by omega) (show 24 < M.1 by omega) rfl s14_20 w1232 (Or.inl w1230) rfl rfl (Nat.le_of_ble_eq_true rfl) (by omega) (by omega) (by omega) ?_
  rintro v M1 ⟨rfl, hs1, ho1, hf1_0, hf1_1, hf1_2, hf1_3, hf1_4, hf1_5⟩
  replace hs1 : M1.1 = n := hs1
  replace hf1_0 : M1.2 33 = (.inl (0, 30, .inl (upd kd np 4))) := hf1_0
  replace hf1_1 : M1.2 39 = (.inl (0, 30, .inl (upd wt np (m * ((wt e) + 1))))) := hf1_1
  replace hf1_2 : M1.2 34 = (.inl (0, 30, .inl (upd ch np (-1)))) := hf1_2
  replace hf1_3 : M1.2 35 = (.inl (0, 30, .inl (upd nx np (-1)))) := hf1_3
  replace hf1_4 : M1.2 40 = (.inl (2, 2850, .inl (va_cpy (fun _ => 0) cs 0 (95 * np) 95))) := hf1_4
  replace hf1_5 : M1.2 24 = (.inr (12, [.ref 25, .ref 26, .ref 27, .ref 28, .ref 29, .ref 30, .int (nI sn), .int (nI vc), .int (nI tk), .ref 31, .int (nI dl), .ref 32, .int (nI pl), .int (nI (np + 1)), .ref 33, .ref 34, .ref 35, .ref 36, .ref 37, .ref 38, .ref 39, .ref 40, .int (nI a), .int (nI dp), .int y24, .ref 41, .ref 42, .ref 43, .ref 44, .ref 45, .ref 46, .ref 47, .ref 48, .int y33, .ref 49, .ref 50, .int y36, .int y37, .int y38, .int y39, .int (nI hc), .ref 51])) := hf1_5
  refine xj_istore (i := 5) (L' := [(5, .int (nI np)), (4, .int m), (3, .int (nI e)), (0, .ref 24), (1, .int m), (2, .int nn)]) d14_26_45 (by decide) rfl ?_
  refine xj_aload_n (i := 0) d14_26_47 rfl rfl ?_
  refine xj_get d14_26_48 f14_38_12 hf1_5 (by omega) (show 24 < M1.1 by omega) rfl ?_
  refine xj_iload (i := 5) d14_26_51 rfl ?_
  refine xj_iload_n (i := 3) d14_26_53 rfl rfl ?_
  refine xj_iastore (j := np) (x' := nI e) d14_26_54 hf1_2 (by omega) (show 34 < M1.1 by omega) (vp_in_nI (by omega) (by omega)) (nI_clamp (by omega)) rfl ?_
  refine xj_abs_set (fun M2 hs2 ha2 ho2 => ?_)
  refine xj_aload_n (i := 0) d14_26_55 rfl rfl ?_
  refine xj_get d14_26_56 f14_47_12 ((ho2 24 (by omega)).trans hf1_5) (by omega) (show 24 < M2.1 by omega) rfl ?_
  refine xj_iload (i := 5) d14_26_59 rfl ?_
  refine xj_iload_n (i := 1) d14_26_61 rfl rfl ?_
  refine xj_iastore (j := np) (x' := m) d14_26_62 ((ho2 37 (by omega)).trans ((ho1 37 (by omega) (by omega) (by omega) (by omega) (by omega) (by omega) (by omega)).trans h_37)) (by omega) (show 37 < M2.1 by omega) (vp_in_nI (by omega) (by omega)) (nI_clamp (by omega)) rfl ?_
  refine xj_abs_set (fun M3 hs3 ha3 ho3 => ?_)
  refine xj_aload_n (i := 0) d14_26_63 rfl rfl ?_
  refine xj_get d14_26_64 f14_50_12 ((ho3 24 (by omega)).trans ((ho2 24 (by omega)).trans hf1_5)) (by omega) (show 24 < M3.1 by omega) rfl ?_
  refine xj_iload (i := 5) d14_26_67 rfl ?_
  refine xj_iload_n (i := 2) d14_26_69 rfl rfl ?_
  refine xj_iastore (j := np) (x' := nn) d14_26_70 ((ho3 38 (by omega)).trans ((ho2 38 (by omega)).trans ((ho1 38 (by omega) (by omega) (by omega) (by omega) (by omega) (by omega) (by omega)).trans h_38))) (by omega) (show 38 < M3.1 by omega) (vp_in_nI (by omega) (by omega)) (nI_clamp (by omega)) rfl ?_
  refine xj_abs_set (fun M4 hs4 ha4 ho4 => ?_)
  refine xj_aload_n (i := 0) d14_26_71 rfl rfl ?_
  refine xj_get d14_26_72 f14_44_12 ((ho4 24 (by omega)).trans ((ho3 24 (by omega)).trans ((ho2 24 (by omega)).trans hf1_5))) (by omega) (show 24 < M4.1 by omega) rfl ?_
  refine xj_iload_n (i := 3) d14_26_75 rfl rfl ?_
  refine xj_iaload (j := e) d14_26_76 ((ho4 36 (by omega)).trans ((ho3 36 (by omega)).trans ((ho2 36 (by omega)).trans ((ho1 36 (by omega) (by omega) (by omega) (by omega) (by omega) (by omega) (by omega)).trans h_36)))) (by omega) (show 36 < M4.1 by omega) (vp_in_nI (by omega) (by omega)) (nI_clamp (by omega)) ?_
  rw [show be e = nI pb from hbe]
  refine xj_istore (i := 6) (L' := [(6, .int (nI pb)), (5, .int (nI np)), (4, .int m), (3, .int (nI e)), (0, .ref 24), (1, .int m), (2, .int nn)]) d14_26_77 (by decide) rfl ?_
  refine xj_aload_n (i := 0) d14_26_79 rfl rfl ?_
  refine xj_get d14_26_80 f14_44_12 ((ho4 24 (by omega)).trans ((ho3 24 (by omega)).trans ((ho2 24 (by omega)).trans hf1_5))) (by omega) (show 24 < M4.1 by omega) rfl ?_
  refine xj_iload (i := 5) d14_26_83 rfl ?_
  refine xj_iload (i := 6) d14_26_85 rfl ?_
  refine xj_iastore (j := np) (x' := nI pb) d14_26_87 ((ho4 36 (by omega)).trans ((ho3 36 (by omega)).trans ((ho2 36 (by omega)).trans ((ho1 36 (by omega) (by omega) (by omega) (by omega) (by omega) (by omega) (by omega)).trans h_36)))) (by omega) (show 36 < M4.1 by omega) (vp_in_nI (by omega) (by omega)) (nI_clamp (by omega)) rfl ?_
  refine xj_abs_set (fun M5 hs5 ha5 ho5 => ?_)
  refine xj_aload_n (i := 0) d14_26_88 rfl rfl ?_
  refine xj_get d14_26_89 f14_41_12 ((ho5 24 (by omega)).trans ((ho4 24 (by omega)).trans ((ho3 24 (by omega)).trans ((ho2 24 (by omega)).trans hf1_5)))) (by omega) (show 24 < M5.1 by omega) rfl ?_
  refine xj_iload_n (i := 3) d14_26_92 rfl rfl ?_
  refine xj_iconst (v := (-1)) d14_26_93 (by decide) ?_
  refine xj_iastore (j := e) (x' := (-1)) d14_26_94 ((ho5 35 (by omega)).trans ((ho4 35 (by omega)).trans ((ho3 35 (by omega)).trans ((ho2 35 (by omega)).trans hf1_3)))) (by omega) (show 35 < M5.1 by omega) (vp_in_nI (by omega) (by omega)) (nI_clamp (by omega)) rfl ?_
  refine xj_abs_set (fun M6 hs6 ha6 ho6 => ?_)
  refine xj_iload (i := 6) d14_26_95 rfl ?_
  refine xj_if_ge (tgt := 114) d14_26_97 rfl (fun _ => ?_) (fun h => absurd (nI_le (a := 0) (b := pb) (by omega) (by omega)) h)
  refine xj_aload_n (i := 0) d14_26_114 rfl rfl ?_
  refine xj_get d14_26_115 f14_41_12 ((ho6 24 (by omega)).trans ((ho5 24 (by omega)).trans ((ho4 24 (by omega)).trans ((ho3 24 (by omega)).trans ((ho2 24 (by omega)).trans hf1_5))))) (by omega) (show 24 < M6.1 by omega) rfl ?_
  refine xj_iload (i := 6) d14_26_118 rfl ?_
  refine xj_iload (i := 5) d14_26_120 rfl ?_
  refine xj_iastore (j := pb) (x' := nI np) d14_26_122 ha6 (by omega) (show 35 < M6.1 by omega) (vp_in_nI (by omega) (by omega)) (nI_clamp (by omega)) rfl ?_
  refine xj_abs_set (fun M7 hs7 ha7 ho7 => ?_)
  refine xj_aload_n (i := 0) d14_26_123 rfl rfl ?_
  refine xj_get d14_26_124 f14_62_12 ((ho7 24 (by omega)).trans ((ho6 24 (by omega)).trans ((ho5 24 (by omega)).trans ((ho4 24 (by omega)).trans ((ho3 24 (by omega)).trans ((ho2 24 (by omega)).trans hf1_5)))))) (by omega) (show 24 < M7.1 by omega) rfl ?_
  refine xj_aload_n (i := 0) d14_26_127 rfl rfl ?_
  refine xj_get d14_26_128 f14_139_12 ((ho7 24 (by omega)).trans ((ho6 24 (by omega)).trans ((ho5 24 (by omega)).trans ((ho4 24 (by omega)).trans ((ho3 24 (by omega)).trans ((ho2 24 (by omega)).trans hf1_5)))))) (by omega) (show 24 < M7.1 by omega) rfl ?_
  refine xj_iload (i := 5) d14_26_131 rfl ?_
  refine xj_iastore (j := dp) (x' := nI np) d14_26_133 ((ho7 42 (by omega)).trans ((ho6 42 (by omega)).trans ((ho5 42 (by omega)).trans ((ho4 42 (by omega)).trans ((ho3 42 (by omega)).trans ((ho2 42 (by omega)).trans ((ho1 42 (by omega) (by omega) (by omega) (by omega) (by omega) (by omega) (by omega)).trans h_42))))))) (by omega) (show 42 < M7.1 by omega) (vp_in_nI (by omega) (by omega)) (nI_clamp (by omega)) rfl ?_
  refine xj_abs_set (fun M8 hs8 ha8 ho8 => ?_)
  exact xj_ret d14_26_134 (by omega) (by omega) rfl ⟨rfl, (show M8.1 = n by omega), (fun j hj hj0 hj1 hj2 hj3 hj4 hj5 hj6 hj7 hj8 hj9 => ((ho8 j (by omega)).trans ((ho7 j (by omega)).trans ((ho6 j (by omega)).trans ((ho5 j (by omega)).trans ((ho4 j (by omega)).trans ((ho3 j (by omega)).trans ((ho2 j (by omega)).trans (ho1 j (by omega) (by omega) (by omega) (by omega) (by omega) (by omega) (by omega)))))))))), ((ho8 33 (by omega)).trans ((ho7 33 (by omega)).trans ((ho6 33 (by omega)).trans ((ho5 33 (by omega)).trans ((ho4 33 (by omega)).trans ((ho3 33 (by omega)).trans ((ho2 33 (by omega)).trans hf1_0))))))), ((ho8 39 (by omega)).trans ((ho7 39 (by omega)).trans ((ho6 39 (by omega)).trans ((ho5 39 (by omega)).trans ((ho4 39 (by omega)).trans ((ho3 39 (by omega)).trans ((ho2 39 (by omega)).trans hf1_1))))))), ((ho8 34 (by omega)).trans ((ho7 34 (by omega)).trans ((ho6 34 (by omega)).trans ((ho5 34 (by omega)).trans ((ho4 34 (by omega)).trans ((ho3 34 (by omega)).trans ha2)))))), ((ho8 35 (by omega)).trans ha7), ((ho8 40 (by omega)).trans ((ho7 40 (by omega)).trans ((ho6 40 (by omega)).trans ((ho5 40 (by omega)).trans ((ho4 40 (by omega)).trans ((ho3 40 (by omega)).trans ((ho2 40 (by omega)).trans hf1_4))))))), ((ho8 24 (by omega)).trans ((ho7 24 (by omega)).trans ((ho6 24 (by omega)).trans ((ho5 24 (by omega)).trans ((ho4 24 (by omega)).trans ((ho3 24 (by omega)).trans ((ho2 24 (by omega)).trans hf1_5))))))), ((ho8 37 (by omega)).trans ((ho7 37 (by omega)).trans ((ho6 37 (by omega)).trans ((ho5 37 (by omega)).trans ((ho4 37 (by omega)).trans ha3))))), ((ho8 38 (by omega)).trans ((ho7 38 (by omega)).trans ((ho6 38 (by omega)).trans ((ho5 38 (by omega)).trans ha4)))), ((ho8 36 (by omega)).trans ((ho7 36 (by omega)).trans ((ho6 36 (by omega)).trans ha5))), ha8⟩

noncomputable def xnum (P : Nat → Prop) : Nat → Nat
  | 0 => 0
  | i + 1 => @ite _ (P i) (Classical.propDecidable (P i)) (xnum P i + 1) (xnum P i)
theorem xnum_t {P : Nat → Prop} {i : Nat} (h : P i) : nI (xnum P i) + 1 = nI (xnum P (i + 1)) := by
  rw [nI_1, xnum, if_pos h]
theorem xnum_e {P : Nat → Prop} {i : Nat} (h : ¬ P i) : xnum P (i + 1) = xnum P i := by
  rw [xnum, if_neg h]
theorem xnum_f {P : Nat → Prop} {i : Nat} (h : ¬ P i) : nI (xnum P i) + 0 = nI (xnum P (i + 1)) := by
  rw [xnum, if_neg h]
  exact Int32.add_zero _
set_option maxRecDepth 20000 in
theorem mHas {G : xG} (hg : xGood G) {M : xM} {n : Nat} (hn : M.1 = n) (hx : xn ≤ n) {dl : Nat} {pl : Nat} {vc : Nat} {tk : Nat} {hc : Nat} {sn : Nat} {y13 : Int32} {y22 : Int32} {y23 : Int32} {y24 : Int32} {y33 : Int32} {y36 : Int32} {y37 : Int32} {y38 : Int32} {y39 : Int32} {sl : Nat} {tl : Nat} {tx : Nat → Int32} {te : Nat → Int32} {u : Int32} {v1 : Int32} {w : Int32} (h1_24 : xn ≤ 24) (h2_24 : 24 < n) (h_24 : M.2 24 = (.inr (12, [.ref 25, .ref 26, .ref 27, .ref 28, .ref 29, .ref 30, .int (nI sn), .int (nI vc), .int (nI tk), .ref 31, .int (nI dl), .ref 32, .int (nI pl), .int y13, .ref 33, .ref 34, .ref 35, .ref 36, .ref 37, .ref 38, .ref 39, .ref 40, .int y22, .int y23, .int y24, .ref 41, .ref 42, .ref 43, .ref 44, .ref 45, .ref 46, .ref 47, .ref 48, .int y33, .ref 49, .ref 50, .int y36, .int y37, .int y38, .int y39, .int (nI hc), .ref 51]))) (h1_25 : xn ≤ 25) (h2_25 : 25 < n) (h_25 : M.2 25 = (.inl (0, 5120, .inl tx))) (h1_26 : xn ≤ 26) (h2_26 : 26 < n) (h_26 : M.2 26 = (.inl (0, 128, .inl te))) (hxn : xn = 16) (hn2 : 52 ≤ n) (hsl : sl < 128) (hte : te sl = nI tl) (htl : tl ≤ 40) : XC G Y14_15 (some .boolean) 0 0 0 [.ref 24, .int (nI sl), .int u, .int v1, .int w] M (fun v M' => v = some (.int (xB (xhas (fun j => tx (40 * sl + j)) tl u v1 w))) ∧ M' = M) := by
  refine xc_of hg (by decide) (Nat.le_of_ble_eq_true rfl) (Or.inr (Or.inl ⟨rfl, rfl, fun v M' h => ⟨_, h.1, xB_01 _⟩⟩)) ?_
  refine xj_bipush (v := 40) d14_15_0 (by decide) ?_
  refine xj_iload_n (i := 1) d14_15_2 rfl rfl ?_
  refine xj_imul (v := nI (40 * sl)) d14_15_3 (pk_mul 40 sl) ?_
  refine xj_istore (i := 5) (L' := [(5, .int (nI (40 * sl))), (0, .ref 24), (1, .int (nI sl)), (2, .int u), (3, .int v1), (4, .int w)]) d14_15_4 (by decide) rfl ?_
  exact mHasL hxn hn hn2 h_24 h_25 h_26 hsl hte htl (by omega) (by omega) tl 0 (by omega) (fun j hj => absurd hj (by omega))
theorem xHavL {G : xG} (hg : xGood G) {M : xM} {n : Nat} (hn : M.1 = n) (hx : xn ≤ n) {a l e sz cap : Nat} {lvl mo : Int32} {f : Nat → Option Nat} {vs tx tl : Nat → Nat} {li : Nat → Int32} {ft : Nat → Nat → Int32} (h1_a : xn ≤ a) (h2_a : a < n) (h_a : M.2 a = (.inr (1, [.int lvl, .ref l]))) (h1_l : xn ≤ l) (h2_l : l < n) (h_l : M.2 l = (.inr (2, [.ref e, .int (nI sz), .int mo]))) (h1_e : xn ≤ e) (h2_e : e < n) (h_e : M.2 e = (.inl (4, cap, .inr (.inr (.inr (.inr f)))))) (hsz : sz ≤ cap) (hcap : cap < 100000) (hf : ∀ k, k < sz → f k = some (vs k)) (hr : ∀ k, k < sz → xn ≤ vs k ∧ vs k < n) (hv : ∀ k, k < sz → M.2 (vs k) = .inr (3, [.ref (tx k), .int (li k)])) (hrt : ∀ k, k < sz → xn ≤ tx k ∧ tx k < n) (ht : ∀ k, k < sz → M.2 (tx k) = .inl (1, tl k, .inl (ft k))) (htl : ∀ k, k < sz → tl k ≤ 40) {u v1 w : Int32} {d ce se cells slots : Nat} {Post : Option Value → xM → Prop} (hd : 4 ≤ d) (hcc : cells ≤ ce) (hss : slots ≤ se) (K : XJ G Y10_6 d ce se cells slots 55 [(5, .int (nI sz)), (4, .int (nI (xnum (fun k => xhas (ft k) (tl k) u v1 w) sz))), (0, .ref a), (1, .int u), (2, .int v1), (3, .int w)] [] M Post) : ∀ r i : Nat, i + r = sz → XJ G Y10_6 d ce se cells slots 6 [(5, .int (nI i)), (4, .int (nI (xnum (fun k => xhas (ft k) (tl k) u v1 w) i))), (0, .ref a), (1, .int u), (2, .int v1), (3, .int w)] [] M Post := by
  intro r
  induction r with
  | zero =>
    intro i hi
    have hi' : i = sz := by omega
    subst i
    refine xj_iload (i := 5) d10_6_6 rfl ?_
    refine xj_aload_n (i := 0) d10_6_8 rfl rfl ?_
    refine xj_get d10_6_9 f10_10_1 h_a (by omega) (show a < M.1 by omega) rfl ?_
    refine xj_callV (rest := [.int (nI sz)]) (As := []) (b := l) (cSize hg (M := M) (n := n) (a := l) (el := .ref e) (sz := nI sz) (mo := mo) (show M.1 = n by omega) (by omega) (by omega) (by omega) h_l) d10_6_12 wd28_8 h_l (by omega) (show l < M.1 by omega) rfl w230 w229 (Or.inl w228) rfl rfl (Nat.le_of_ble_eq_true rfl) (by omega) (by omega) (by omega) ?_
    rintro v M' ⟨rfl, hm⟩
    subst M'
    refine xj_icmp_ge (tgt := 55) d10_6_15 rfl (fun _ => ?_) (fun h => absurd (nI_le (a := sz) (b := sz) (by omega) (by omega)) h)
    exact K
  | succ r ih =>
    intro i hi
    have hr1 := hr i (by omega)
    have hr2 := hrt i (by omega)
    have hr3 := htl i (by omega)
    refine xj_iload (i := 5) d10_6_6 rfl ?_
    refine xj_aload_n (i := 0) d10_6_8 rfl rfl ?_
    refine xj_get d10_6_9 f10_10_1 h_a (by omega) (show a < M.1 by omega) rfl ?_
    refine xj_callV (rest := [.int (nI i)]) (As := []) (b := l) (cSize hg (M := M) (n := n) (a := l) (el := .ref e) (sz := nI sz) (mo := mo) (show M.1 = n by omega) (by omega) (by omega) (by omega) h_l) d10_6_12 wd28_8 h_l (by omega) (show l < M.1 by omega) rfl w230 w229 (Or.inl w228) rfl rfl (Nat.le_of_ble_eq_true rfl) (by omega) (by omega) (by omega) ?_
    rintro v M' ⟨rfl, hm⟩
    subst M'
    refine xj_icmp_ge (tgt := 55) d10_6_15 rfl (fun h => absurd h (nI_ge (a := i) (b := sz) (by omega) (by omega))) (fun _ => ?_)
    refine xj_iload (i := 4) d10_6_18 rfl ?_
    refine xj_aload_n (i := 0) d10_6_20 rfl rfl ?_
    refine xj_get d10_6_21 f10_10_1 h_a (by omega) (show a < M.1 by omega) rfl ?_
    refine xj_iload (i := 5) d10_6_24 rfl ?_
    refine xj_callV (rest := [.int (nI (xnum (fun k => xhas (ft k) (tl k) u v1 w) i))]) (As := [.int (nI i)]) (b := l) (cGet hg (M := M) (n := n) (a := l) (e := e) (mo := mo) (cap := cap) (f := f) (sz := sz) (k := i) (b := vs i) (show M.1 = n by omega) (by omega) (by omega) (by omega) h_l (by omega) (by omega) h_e (by omega) (by omega) (by omega) (hf i (by omega))) d10_6_26 wd28_20 h_l (by omega) (show l < M.1 by omega) rfl w248 w247 (Or.inl w278) rfl rfl (Nat.le_of_ble_eq_true rfl) (by omega) (by omega) (by omega) ?_
    rintro v M' ⟨rfl, hm⟩
    subst M'
    refine xj_cast d10_6_29 w279 (hv i (by omega)) (by omega) (show vs i < M.1 by omega) rfl (Or.inl rfl) ?_
    refine xj_iload_n (i := 1) d10_6_32 rfl rfl ?_
    refine xj_iload_n (i := 2) d10_6_33 rfl rfl ?_
    refine xj_iload_n (i := 3) d10_6_34 rfl rfl ?_
    refine xj_callV (rest := [.int (nI (xnum (fun k => xhas (ft k) (tl k) u v1 w) i))]) (As := [.int u, .int v1, .int w]) (b := vs i) (xHas hg (M := M) (n := n) (a := vs i) (tx := tx i) (tl := tl i) (f := ft i) (lv := .int (li i)) (u := u) (v1 := v1) (w := w) (show M.1 = n by omega) (by omega) (by omega) (by omega) (hv i (by omega)) (by omega) (by omega) (ht i (by omega)) (by omega)) d10_6_35 wd11_2 (hv i (by omega)) (by omega) (show vs i < M.1 by omega) rfl w852 w851 (Or.inl w987) rfl rfl (Nat.le_of_ble_eq_true rfl) (by omega) (by omega) (by omega) ?_
    rintro v M' ⟨rfl, hm⟩
    subst M'
    refine xj_if_eq (tgt := 45) d10_6_38 rfl (fun hb => ?_) (fun hb => ?_)
    · refine xj_iconst (v := 0) d10_6_45 (by decide) ?_
      refine xj_iadd (v := nI (xnum (fun k => xhas (ft k) (tl k) u v1 w) (i + 1))) d10_6_46 (xnum_f (xB_n hb)) ?_
      refine xj_istore (i := 4) (L' := [(4, .int (nI (xnum (fun k => xhas (ft k) (tl k) u v1 w) (i + 1)))), (5, .int (nI i)), (0, .ref a), (1, .int u), (2, .int v1), (3, .int w)]) d10_6_47 (by decide) rfl ?_
      refine xj_iinc (v := nI (i + 1)) (L' := [(5, .int (nI (i + 1))), (4, .int (nI (xnum (fun k => xhas (ft k) (tl k) u v1 w) (i + 1)))), (0, .ref a), (1, .int u), (2, .int v1), (3, .int w)]) d10_6_49 rfl (xinc _) (by decide) rfl ?_
      refine xj_goto (tgt := 6) d10_6_52 rfl ?_
      exact ih (i + 1) (by omega)
    · refine xj_iconst (v := 1) d10_6_41 (by decide) ?_
      refine xj_goto (tgt := 46) d10_6_42 rfl ?_
      refine xj_iadd (v := nI (xnum (fun k => xhas (ft k) (tl k) u v1 w) (i + 1))) d10_6_46 (xnum_t (xB_y hb)) ?_
      refine xj_istore (i := 4) (L' := [(4, .int (nI (xnum (fun k => xhas (ft k) (tl k) u v1 w) (i + 1)))), (5, .int (nI i)), (0, .ref a), (1, .int u), (2, .int v1), (3, .int w)]) d10_6_47 (by decide) rfl ?_
      refine xj_iinc (v := nI (i + 1)) (L' := [(5, .int (nI (i + 1))), (4, .int (nI (xnum (fun k => xhas (ft k) (tl k) u v1 w) (i + 1)))), (0, .ref a), (1, .int u), (2, .int v1), (3, .int w)]) d10_6_49 rfl (xinc _) (by decide) rfl ?_
      refine xj_goto (tgt := 6) d10_6_52 rfl ?_
      exact ih (i + 1) (by omega)
theorem xLivL {G : xG} (hg : xGood G) {M : xM} {n : Nat} (hn : M.1 = n) (hx : xn ≤ n) {a l e sz cap : Nat} {lvl mo : Int32} {f : Nat → Option Nat} {vs tx tl : Nat → Nat} {li : Nat → Int32} {ft : Nat → Nat → Int32} (h1_a : xn ≤ a) (h2_a : a < n) (h_a : M.2 a = (.inr (1, [.int lvl, .ref l]))) (h1_l : xn ≤ l) (h2_l : l < n) (h_l : M.2 l = (.inr (2, [.ref e, .int (nI sz), .int mo]))) (h1_e : xn ≤ e) (h2_e : e < n) (h_e : M.2 e = (.inl (4, cap, .inr (.inr (.inr (.inr f)))))) (hsz : sz ≤ cap) (hcap : cap < 100000) (hf : ∀ k, k < sz → f k = some (vs k)) (hr : ∀ k, k < sz → xn ≤ vs k ∧ vs k < n) (hv : ∀ k, k < sz → M.2 (vs k) = .inr (3, [.ref (tx k), .int (li k)])) (hrt : ∀ k, k < sz → xn ≤ tx k ∧ tx k < n) (ht : ∀ k, k < sz → M.2 (tx k) = .inl (1, tl k, .inl (ft k))) (htl : ∀ k, k < sz → tl k ≤ 40) {u v1 w : Int32} {d ce se cells slots : Nat} {Post : Option Value → xM → Prop} (hd : 4 ≤ d) (hcc : cells ≤ ce) (hss : slots ≤ se) (K : XJ G Y10_5 d ce se cells slots 46 [(2, .int (nI sz)), (1, .int (nI (xnum (fun k => ¬ li k = 0) sz))), (0, .ref a)] [] M Post) : ∀ r i : Nat, i + r = sz → XJ G Y10_5 d ce se cells slots 4 [(2, .int (nI i)), (1, .int (nI (xnum (fun k => ¬ li k = 0) i))), (0, .ref a)] [] M Post := by
  intro r
  induction r with
  | zero =>
    intro i hi
    have hi' : i = sz := by omega
    subst i
    refine xj_iload_n (i := 2) d10_5_4 rfl rfl ?_
    refine xj_aload_n (i := 0) d10_5_5 rfl rfl ?_
    refine xj_get d10_5_6 f10_10_1 h_a (by omega) (show a < M.1 by omega) rfl ?_
    refine xj_callV (rest := [.int (nI sz)]) (As := []) (b := l) (cSize hg (M := M) (n := n) (a := l) (el := .ref e) (sz := nI sz) (mo := mo) (show M.1 = n by omega) (by omega) (by omega) (by omega) h_l) d10_5_9 wd28_8 h_l (by omega) (show l < M.1 by omega) rfl w230 w229 (Or.inl w228) rfl rfl (Nat.le_of_ble_eq_true rfl) (by omega) (by omega) (by omega) ?_
    rintro v M' ⟨rfl, hm⟩
    subst M'
    refine xj_icmp_ge (tgt := 46) d10_5_12 rfl (fun _ => ?_) (fun h => absurd (nI_le (a := sz) (b := sz) (by omega) (by omega)) h)
    exact K
  | succ r ih =>
    intro i hi
    have hr1 := hr i (by omega)
    have hr2 := hrt i (by omega)
    have hr3 := htl i (by omega)
    refine xj_iload_n (i := 2) d10_5_4 rfl rfl ?_
    refine xj_aload_n (i := 0) d10_5_5 rfl rfl ?_
    refine xj_get d10_5_6 f10_10_1 h_a (by omega) (show a < M.1 by omega) rfl ?_
    refine xj_callV (rest := [.int (nI i)]) (As := []) (b := l) (cSize hg (M := M) (n := n) (a := l) (el := .ref e) (sz := nI sz) (mo := mo) (show M.1 = n by omega) (by omega) (by omega) (by omega) h_l) d10_5_9 wd28_8 h_l (by omega) (show l < M.1 by omega) rfl w230 w229 (Or.inl w228) rfl rfl (Nat.le_of_ble_eq_true rfl) (by omega) (by omega) (by omega) ?_
    rintro v M' ⟨rfl, hm⟩
    subst M'
    refine xj_icmp_ge (tgt := 46) d10_5_12 rfl (fun h => absurd h (nI_ge (a := i) (b := sz) (by omega) (by omega))) (fun _ => ?_)
    refine xj_iload_n (i := 1) d10_5_15 rfl rfl ?_
    refine xj_aload_n (i := 0) d10_5_16 rfl rfl ?_
    refine xj_get d10_5_17 f10_10_1 h_a (by omega) (show a < M.1 by omega) rfl ?_
    refine xj_iload_n (i := 2) d10_5_20 rfl rfl ?_
    refine xj_callV (rest := [.int (nI (xnum (fun k => ¬ li k = 0) i))]) (As := [.int (nI i)]) (b := l) (cGet hg (M := M) (n := n) (a := l) (e := e) (mo := mo) (cap := cap) (f := f) (sz := sz) (k := i) (b := vs i) (show M.1 = n by omega) (by omega) (by omega) (by omega) h_l (by omega) (by omega) h_e (by omega) (by omega) (by omega) (hf i (by omega))) d10_5_21 wd28_20 h_l (by omega) (show l < M.1 by omega) rfl w248 w247 (Or.inl w278) rfl rfl (Nat.le_of_ble_eq_true rfl) (by omega) (by omega) (by omega) ?_
    rintro v M' ⟨rfl, hm⟩
    subst M'
    refine xj_cast d10_5_24 w279 (hv i (by omega)) (by omega) (show vs i < M.1 by omega) rfl (Or.inl rfl) ?_
    refine xj_get d10_5_27 f10_34_3 (hv i (by omega)) (by omega) (show vs i < M.1 by omega) rfl ?_
    refine xj_if_eq (tgt := 37) d10_5_30 rfl (fun hb => ?_) (fun hb => ?_)
    · refine xj_iconst (v := 0) d10_5_37 (by decide) ?_
      refine xj_iadd (v := nI (xnum (fun k => ¬ li k = 0) (i + 1))) d10_5_38 (xnum_f (fun q => q hb)) ?_
      refine xj_istore_n (i := 1) (L' := [(1, .int (nI (xnum (fun k => ¬ li k = 0) (i + 1)))), (2, .int (nI i)), (0, .ref a)]) d10_5_39 rfl (by decide) rfl ?_
      refine xj_iinc (v := nI (i + 1)) (L' := [(2, .int (nI (i + 1))), (1, .int (nI (xnum (fun k => ¬ li k = 0) (i + 1)))), (0, .ref a)]) d10_5_40 rfl (xinc _) (by decide) rfl ?_
      refine xj_goto (tgt := 4) d10_5_43 rfl ?_
      exact ih (i + 1) (by omega)
    · refine xj_iconst (v := 1) d10_5_33 (by decide) ?_
      refine xj_goto (tgt := 38) d10_5_34 rfl ?_
      refine xj_iadd (v := nI (xnum (fun k => ¬ li k = 0) (i + 1))) d10_5_38 (xnum_t hb) ?_
      refine xj_istore_n (i := 1) (L' := [(1, .int (nI (xnum (fun k => ¬ li k = 0) (i + 1)))), (2, .int (nI i)), (0, .ref a)]) d10_5_39 rfl (by decide) rfl ?_
      refine xj_iinc (v := nI (i + 1)) (L' := [(2, .int (nI (i + 1))), (1, .int (nI (xnum (fun k => ¬ li k = 0) (i + 1)))), (0, .ref a)]) d10_5_40 rfl (xinc _) (by decide) rfl ?_
      refine xj_goto (tgt := 4) d10_5_43 rfl ?_
      exact ih (i + 1) (by omega)
set_option maxRecDepth 20000 in
theorem xHaving {G : xG} (hg : xGood G) {M : xM} {n : Nat} (hn : M.1 = n) (hx : xn ≤ n) {a : Nat} {l : Nat} {e : Nat} {sz : Nat} {cap : Nat} {lvl : Int32} {mo : Int32} {f : Nat → Option Nat} {vs : Nat → Nat} {tx : Nat → Nat} {tl : Nat → Nat} {li : Nat → Int32} {ft : Nat → Nat → Int32} {u : Int32} {v1 : Int32} {w : Int32} (h1_a : xn ≤ a) (h2_a : a < n) (h_a : M.2 a = (.inr (1, [.int lvl, .ref l]))) (h1_l : xn ≤ l) (h2_l : l < n) (h_l : M.2 l = (.inr (2, [.ref e, .int (nI sz), .int mo]))) (h1_e : xn ≤ e) (h2_e : e < n) (h_e : M.2 e = (.inl (4, cap, .inr (.inr (.inr (.inr f)))))) (hsz : sz ≤ cap) (hcap : cap < 100000) (hf : ∀ k, k < sz → f k = some (vs k)) (hr : ∀ k, k < sz → xn ≤ vs k ∧ vs k < n) (hv : ∀ k, k < sz → M.2 (vs k) = .inr (3, [.ref (tx k), .int (li k)])) (hrt : ∀ k, k < sz → xn ≤ tx k ∧ tx k < n) (ht : ∀ k, k < sz → M.2 (tx k) = .inl (1, tl k, .inl (ft k))) (htl : ∀ k, k < sz → tl k ≤ 40) : XC G Y10_6 (some .int) 4 0 0 [.ref a, .int u, .int v1, .int w] M (fun v M' => v = some (.int (nI (xnum (fun k => xhas (ft k) (tl k) u v1 w) sz))) ∧ M' = M) := by
  refine xc_of hg (by decide) (Nat.le_of_ble_eq_true rfl) (Or.inl ⟨rfl, rfl, fun v M' h => ⟨_, h.1⟩⟩) ?_
  refine xj_iconst (v := 0) d10_6_0 (by decide) ?_
  refine xj_istore (i := 4) (L' := [(4, .int 0), (0, .ref a), (1, .int u), (2, .int v1), (3, .int w)]) d10_6_1 (by decide) rfl ?_
  refine xj_iconst (v := 0) d10_6_3 (by decide) ?_
  refine xj_istore (i := 5) (L' := [(5, .int 0), (4, .int 0), (0, .ref a), (1, .int u), (2, .int v1), (3, .int w)]) d10_6_4 (by decide) rfl ?_
  refine xHavL hg hn hx h1_a h2_a h_a h1_l h2_l h_l h1_e h2_e h_e hsz hcap hf hr hv hrt ht htl (by omega) (by omega) (by omega) ?_ sz 0 (by omega)
  refine xj_iload (i := 4) d10_6_55 rfl ?_
  exact xj_ret d10_6_57 (by omega) (by omega) rfl ⟨rfl, rfl⟩
set_option maxRecDepth 20000 in
theorem xLiving {G : xG} (hg : xGood G) {M : xM} {n : Nat} (hn : M.1 = n) (hx : xn ≤ n) {a : Nat} {l : Nat} {e : Nat} {sz : Nat} {cap : Nat} {lvl : Int32} {mo : Int32} {f : Nat → Option Nat} {vs : Nat → Nat} {tx : Nat → Nat} {tl : Nat → Nat} {li : Nat → Int32} {ft : Nat → Nat → Int32} (h1_a : xn ≤ a) (h2_a : a < n) (h_a : M.2 a = (.inr (1, [.int lvl, .ref l]))) (h1_l : xn ≤ l) (h2_l : l < n) (h_l : M.2 l = (.inr (2, [.ref e, .int (nI sz), .int mo]))) (h1_e : xn ≤ e) (h2_e : e < n) (h_e : M.2 e = (.inl (4, cap, .inr (.inr (.inr (.inr f)))))) (hsz : sz ≤ cap) (hcap : cap < 100000) (hf : ∀ k, k < sz → f k = some (vs k)) (hr : ∀ k, k < sz → xn ≤ vs k ∧ vs k < n) (hv : ∀ k, k < sz → M.2 (vs k) = .inr (3, [.ref (tx k), .int (li k)])) (hrt : ∀ k, k < sz → xn ≤ tx k ∧ tx k < n) (ht : ∀ k, k < sz → M.2 (tx k) = .inl (1, tl k, .inl (ft k))) (htl : ∀ k, k < sz → tl k ≤ 40) : XC G Y10_5 (some .int) 4 0 0 [.ref a] M (fun v M' => v = some (.int (nI (xnum (fun k => ¬ li k = 0) sz))) ∧ M' = M) := by
  refine xc_of hg (by decide) (Nat.le_of_ble_eq_true rfl) (Or.inl ⟨rfl, rfl, fun v M' h => ⟨_, h.1⟩⟩) ?_
  refine xj_iconst (v := 0) d10_5_0 (by decide) ?_
  refine xj_istore_n (i := 1) (L' := [(1, .int 0), (0, .ref a)]) d10_5_1 rfl (by decide) rfl ?_
  refine xj_iconst (v := 0) d10_5_2 (by decide) ?_
  refine xj_istore_n (i := 2) (L' := [(2, .int 0), (1, .int 0), (0, .ref a)]) d10_5_3 rfl (by decide) rfl ?_
  refine xLivL (u := 0) (v1 := 0) (w := 0) hg hn hx h1_a h2_a h_a h1_l h2_l h_l h1_e h2_e h_e hsz hcap hf hr hv hrt ht htl (by omega) (by omega) (by omega) ?_ sz 0 (by omega)
  refine xj_iload_n (i := 1) d10_5_46 rfl rfl ?_
  exact xj_ret d10_5_47 (by omega) (by omega) rfl ⟨rfl, rfl⟩
theorem mPosL {G : xG} (hg : xGood G) (hxn : xn = 16) {M : xM} {n : Nat} (hn : M.1 = n) (hn2 : 52 ≤ n) {dl : Nat} {pl : Nat} {vc : Nat} {tk : Nat} {hc : Nat} {sn : Nat} {y13 : Int32} {y22 : Int32} {y23 : Int32} {y24 : Int32} {y33 : Int32} {y36 : Int32} {y37 : Int32} {y38 : Int32} {y39 : Int32} {tx te f : Nat → Int32} {tls : Nat → Nat} {u v1 w : Int32} (h_24 : M.2 24 = (.inr (12, [.ref 25, .ref 26, .ref 27, .ref 28, .ref 29, .ref 30, .int (nI sn), .int (nI vc), .int (nI tk), .ref 31, .int (nI dl), .ref 32, .int (nI pl), .int y13, .ref 33, .ref 34, .ref 35, .ref 36, .ref 37, .ref 38, .ref 39, .ref 40, .int y22, .int y23, .int y24, .ref 41, .ref 42, .ref 43, .ref 44, .ref 45, .ref 46, .ref 47, .ref 48, .int y33, .ref 49, .ref 50, .int y36, .int y37, .int y38, .int y39, .int (nI hc), .ref 51]))) (h_25 : M.2 25 = (.inl (0, 5120, .inl tx))) (h_26 : M.2 26 = (.inl (0, 128, .inl te))) (h_28 : M.2 28 = (.inl (0, 128, .inl f))) (hte : ∀ k, k < 128 → te k = nI (tls k)) (htl : ∀ k, k < 128 → tls k ≤ 40) {d ce se cells slots : Nat} {Post : Option Value → xM → Prop} (hd : 2 ≤ d) (hcc : cells ≤ ce) (hss : slots ≤ se) (K : XJ G Y14_16 d ce se cells slots 53 [(5, .int (nI 128)), (4, .int (nI (xnum (fun k => ¬ f k < 0 ∧ xhas (fun j => tx (40 * k + j)) (tls k) u v1 w) 128))), (0, .ref 24), (1, .int u), (2, .int v1), (3, .int w)] [] M Post) : ∀ r i : Nat, i + r = 128 → XJ G Y14_16 d ce se cells slots 6 [(5, .int (nI i)), (4, .int (nI (xnum (fun k => ¬ f k < 0 ∧ xhas (fun j => tx (40 * k + j)) (tls k) u v1 w) i))), (0, .ref 24), (1, .int u), (2, .int v1), (3, .int w)] [] M Post := by
  intro r
  induction r with
  | zero =>
    intro i hi
    have hi' : i = 128 := by omega
    subst i
    refine xj_iload (i := 5) d14_16_6 rfl ?_
    refine xj_sipush (v := 128) d14_16_8 (by decide) ?_
    refine xj_icmp_ge (tgt := 53) d14_16_11 rfl (fun _ => ?_) (fun h => absurd (nI_le (a := 128) (b := 128) (by omega) (by omega)) h)
    exact K
  | succ r ih =>
    intro i hi
    refine xj_iload (i := 5) d14_16_6 rfl ?_
    refine xj_sipush (v := 128) d14_16_8 (by decide) ?_
    refine xj_icmp_ge (tgt := 53) d14_16_11 rfl (fun h => absurd h (nI_ge (a := i) (b := 128) (by omega) (by omega))) (fun _ => ?_)
    refine xj_aload_n (i := 0) d14_16_14 rfl rfl ?_
    refine xj_get d14_16_15 f14_20_12 h_24 (by omega) (show 24 < M.1 by omega) rfl ?_
    refine xj_iload (i := 5) d14_16_18 rfl ?_
    refine xj_iaload (j := i) d14_16_20 h_28 (by omega) (show 28 < M.1 by omega) (vp_in_nI (by omega) (by omega)) (nI_clamp (by omega)) ?_
    refine xj_if_lt (tgt := 43) d14_16_21 rfl (fun hb1 => ?_) (fun hb1 => ?_)
    · refine xj_iload (i := 4) d14_16_43 rfl ?_
      refine xj_istore (i := 4) (L' := [(4, .int (nI (xnum (fun k => ¬ f k < 0 ∧ xhas (fun j => tx (40 * k + j)) (tls k) u v1 w) i))), (5, .int (nI i)), (0, .ref 24), (1, .int u), (2, .int v1), (3, .int w)]) d14_16_45 (by decide) rfl ?_
      refine xj_iinc (v := nI (i + 1)) (L' := [(5, .int (nI (i + 1))), (4, .int (nI (xnum (fun k => ¬ f k < 0 ∧ xhas (fun j => tx (40 * k + j)) (tls k) u v1 w) i))), (0, .ref 24), (1, .int u), (2, .int v1), (3, .int w)]) d14_16_47 rfl (xinc _) (by decide) rfl ?_
      refine xj_goto (tgt := 6) d14_16_50 rfl ?_
      rw [show xnum (fun k => ¬ f k < 0 ∧ xhas (fun j => tx (40 * k + j)) (tls k) u v1 w) i = xnum (fun k => ¬ f k < 0 ∧ xhas (fun j => tx (40 * k + j)) (tls k) u v1 w) (i + 1) from (xnum_e (by first | exact fun q => q.1 hb1 | exact fun q => xB_n hb2 q.2)).symm]
      exact ih (i + 1) (by omega)
    · refine xj_aload_n (i := 0) d14_16_24 rfl rfl ?_
      refine xj_iload (i := 5) d14_16_25 rfl ?_
      refine xj_iload_n (i := 1) d14_16_27 rfl rfl ?_
      refine xj_iload_n (i := 2) d14_16_28 rfl rfl ?_
      refine xj_iload_n (i := 3) d14_16_29 rfl rfl ?_
      refine xj_callV (rest := []) (As := [.int (nI i), .int u, .int v1, .int w]) (b := 24) (mHas hg (M := M) (n := n) (dl := dl) (pl := pl) (vc := vc) (tk := tk) (hc := hc) (sn := sn) (y13 := y13) (y22 := y22) (y23 := y23) (y24 := y24) (y33 := y33) (y36 := y36) (y37 := y37) (y38 := y38) (y39 := y39) (sl := i) (tl := tls i) (tx := tx) (te := te) (u := u) (v1 := v1) (w := w) (show M.1 = n by omega) (by omega) (by omega) (by omega) h_24 (by omega) (by omega) h_25 (by omega) (by omega) h_26 hxn (by omega) (by omega) (hte i (by omega)) (htl i (by omega))) d14_16_30 wd14_15 h_24 (by omega) (show 24 < M.1 by omega) rfl s14_15 w1188 (Or.inl w1186) rfl rfl (Nat.le_of_ble_eq_true rfl) (by omega) (by omega) (by omega) ?_
      rintro v M' ⟨rfl, hm⟩
      subst M'
      refine xj_if_eq (tgt := 43) d14_16_33 rfl (fun hb2 => ?_) (fun hb2 => ?_)
      · refine xj_iload (i := 4) d14_16_43 rfl ?_
        refine xj_istore (i := 4) (L' := [(4, .int (nI (xnum (fun k => ¬ f k < 0 ∧ xhas (fun j => tx (40 * k + j)) (tls k) u v1 w) i))), (5, .int (nI i)), (0, .ref 24), (1, .int u), (2, .int v1), (3, .int w)]) d14_16_45 (by decide) rfl ?_
        refine xj_iinc (v := nI (i + 1)) (L' := [(5, .int (nI (i + 1))), (4, .int (nI (xnum (fun k => ¬ f k < 0 ∧ xhas (fun j => tx (40 * k + j)) (tls k) u v1 w) i))), (0, .ref 24), (1, .int u), (2, .int v1), (3, .int w)]) d14_16_47 rfl (xinc _) (by decide) rfl ?_
        refine xj_goto (tgt := 6) d14_16_50 rfl ?_
        rw [show xnum (fun k => ¬ f k < 0 ∧ xhas (fun j => tx (40 * k + j)) (tls k) u v1 w) i = xnum (fun k => ¬ f k < 0 ∧ xhas (fun j => tx (40 * k + j)) (tls k) u v1 w) (i + 1) from (xnum_e (by first | exact fun q => q.1 hb1 | exact fun q => xB_n hb2 q.2)).symm]
        exact ih (i + 1) (by omega)
      · refine xj_iload (i := 4) d14_16_36 rfl ?_
        refine xj_iconst (v := 1) d14_16_38 (by decide) ?_
        refine xj_iadd (v := nI (xnum (fun k => ¬ f k < 0 ∧ xhas (fun j => tx (40 * k + j)) (tls k) u v1 w) (i + 1))) d14_16_39 (xnum_t ⟨hb1, xB_y hb2⟩) ?_
        refine xj_goto (tgt := 45) d14_16_40 rfl ?_
        refine xj_istore (i := 4) (L' := [(4, .int (nI (xnum (fun k => ¬ f k < 0 ∧ xhas (fun j => tx (40 * k + j)) (tls k) u v1 w) (i + 1)))), (5, .int (nI i)), (0, .ref 24), (1, .int u), (2, .int v1), (3, .int w)]) d14_16_45 (by decide) rfl ?_
        refine xj_iinc (v := nI (i + 1)) (L' := [(5, .int (nI (i + 1))), (4, .int (nI (xnum (fun k => ¬ f k < 0 ∧ xhas (fun j => tx (40 * k + j)) (tls k) u v1 w) (i + 1)))), (0, .ref 24), (1, .int u), (2, .int v1), (3, .int w)]) d14_16_47 rfl (xinc _) (by decide) rfl ?_
        refine xj_goto (tgt := 6) d14_16_50 rfl ?_
        exact ih (i + 1) (by omega)

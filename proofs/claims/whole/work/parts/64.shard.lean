/-- a version in the heap -/
def xTlM (M : xM) (w : Nat) : Nat := match M.2 (xVtM M w) with
  | .inl (_, n, _) => n
  | _ => 0
def xFtM (M : xM) (w : Nat) : Nat → Int32 := match M.2 (xVtM M w) with
  | .inl (_, _, .inl g) => g
  | _ => fun _ => 0
def xVw (M : xM) (w : Nat) : Prop := (16 ≤ w ∧ w < M.1) ∧ M.2 w = .inr (3, [.ref (xVtM M w), .int (xLvM M w)]) ∧ (16 ≤ xVtM M w ∧ xVtM M w < M.1) ∧ M.2 (xVtM M w) = .inl (1, xTlM M w, .inl (xFtM M w)) ∧ xTlM M w ≤ 40
theorem xVw_of {M : xM} {r0 r1 s : Nat} {va : Nat → Nat} {f li tx te : Nat → Int32} (h : xVer M r0 r1 va f li tx te) (hs : s < 128) (hu : ¬ f s = -1) : xVw M (va s) ∧ xLvM M (va s) = li s ∧ te s = nI (xTlM M (va s)) ∧ ∀ j, j < xTlM M (va s) → xFtM M (va s) j = tx (40 * s + j) := by
  obtain ⟨a, t, tl, g, b, c, d, e, k, l⟩ := h s hs hu
  obtain ⟨z1, z2⟩ := xLvM_eq c
  have z3 : xTlM M (va s) = tl := by
    unfold xTlM
    rw [z2, d]
  have z4 : xFtM M (va s) = g := by
    unfold xFtM
    rw [z2, d]
  refine ⟨⟨⟨by omega, a.2.2.1⟩, by rw [z1, z2]; exact c, by rw [z2]; exact ⟨by omega, b.2.2.1⟩, by rw [z2, z3, z4]; exact d, by rw [z3]; exact k⟩, z1, by rw [z3]; exact e, ?_⟩
  rw [z3, z4]
  exact l
noncomputable def xhb (M : xM) (u v1 w3 : Int32) (w : Nat) : Bool := @decide (xhas (xFtM M w) (xTlM M w) u v1 w3) (Classical.propDecidable _)
theorem xhb_iff {M : xM} {u v1 w3 : Int32} {w : Nat} : xhas (xFtM M w) (xTlM M w) u v1 w3 ↔ xhb M u v1 w3 w = true := by
  unfold xhb
  exact (@decide_eq_true_iff _ (Classical.propDecidable _)).symm
set_option maxRecDepth 20000 in
theorem xLiv0 {G : xG} (hg : xGood G) {M : xM} {n : Nat} (hn : M.1 = n) (hx : xn ≤ n) {a : Nat} {l : Nat} {lvl : Int32} {el : Value} {mo : Int32} (h1_a : xn ≤ a) (h2_a : a < n) (h_a : M.2 a = (.inr (1, [.int lvl, .ref l]))) (h1_l : xn ≤ l) (h2_l : l < n) (h_l : M.2 l = (.inr (2, [el, .int (nI 0), .int mo]))) : XC G Y10_5 (some .int) 4 0 0 [.ref a] M (fun v M' => v = some (.int 0) ∧ M' = M) := by
  refine xc_of hg (by decide) (Nat.le_of_ble_eq_true rfl) (Or.inl ⟨rfl, rfl, fun v M' h => ⟨_, h.1⟩⟩) ?_
  refine xj_iconst (v := 0) d10_5_0 (by decide) ?_
  refine xj_istore_n (i := 1) (L' := [(1, .int 0), (0, .ref a)]) d10_5_1 rfl (by decide) rfl ?_
  refine xj_iconst (v := 0) d10_5_2 (by decide) ?_
  refine xj_istore_n (i := 2) (L' := [(2, .int 0), (1, .int 0), (0, .ref a)]) d10_5_3 rfl (by decide) rfl ?_
  refine xj_iload_n (i := 2) d10_5_4 rfl rfl ?_
  refine xj_aload_n (i := 0) d10_5_5 rfl rfl ?_
  refine xj_get d10_5_6 f10_10_1 h_a (by omega) (show a < M.1 by omega) rfl ?_
  refine xj_callV (rest := [.int 0]) (As := []) (b := l) (cSize hg (M := M) (n := n) (a := l) (el := el) (sz := nI 0) (mo := mo) (show M.1 = n by omega) (by omega) (by omega) (by omega) h_l) d10_5_9 wd28_8 h_l (by omega) (show l < M.1 by omega) rfl w230 w229 (Or.inl w228) rfl rfl (Nat.le_of_ble_eq_true rfl) (by omega) (by omega) (by omega) ?_
  rintro v M' ⟨rfl, hm⟩
  subst M'
  refine xj_icmp_ge (tgt := 46) d10_5_12 rfl (fun _ => ?_) (fun h => absurd (nI_le (a := 0) (b := 0) (by omega) (by omega)) h)
  refine xj_iload_n (i := 1) d10_5_46 rfl rfl ?_
  exact xj_ret d10_5_47 (by omega) (by omega) rfl ⟨rfl, rfl⟩
set_option maxRecDepth 20000 in
theorem xHav0 {G : xG} (hg : xGood G) {M : xM} {n : Nat} (hn : M.1 = n) (hx : xn ≤ n) {a : Nat} {l : Nat} {lvl : Int32} {el : Value} {mo : Int32} {u : Int32} {v1 : Int32} {w : Int32} (h1_a : xn ≤ a) (h2_a : a < n) (h_a : M.2 a = (.inr (1, [.int lvl, .ref l]))) (h1_l : xn ≤ l) (h2_l : l < n) (h_l : M.2 l = (.inr (2, [el, .int (nI 0), .int mo]))) : XC G Y10_6 (some .int) 4 0 0 [.ref a, .int u, .int v1, .int w] M (fun v M' => v = some (.int 0) ∧ M' = M) := by
  refine xc_of hg (by decide) (Nat.le_of_ble_eq_true rfl) (Or.inl ⟨rfl, rfl, fun v M' h => ⟨_, h.1⟩⟩) ?_
  refine xj_iconst (v := 0) d10_6_0 (by decide) ?_
  refine xj_istore (i := 4) (L' := [(4, .int 0), (0, .ref a), (1, .int u), (2, .int v1), (3, .int w)]) d10_6_1 (by decide) rfl ?_
  refine xj_iconst (v := 0) d10_6_3 (by decide) ?_
  refine xj_istore (i := 5) (L' := [(5, .int 0), (4, .int 0), (0, .ref a), (1, .int u), (2, .int v1), (3, .int w)]) d10_6_4 (by decide) rfl ?_
  refine xj_iload (i := 5) d10_6_6 rfl ?_
  refine xj_aload_n (i := 0) d10_6_8 rfl rfl ?_
  refine xj_get d10_6_9 f10_10_1 h_a (by omega) (show a < M.1 by omega) rfl ?_
  refine xj_callV (rest := [.int 0]) (As := []) (b := l) (cSize hg (M := M) (n := n) (a := l) (el := el) (sz := nI 0) (mo := mo) (show M.1 = n by omega) (by omega) (by omega) (by omega) h_l) d10_6_12 wd28_8 h_l (by omega) (show l < M.1 by omega) rfl w230 w229 (Or.inl w228) rfl rfl (Nat.le_of_ble_eq_true rfl) (by omega) (by omega) (by omega) ?_
  rintro v M' ⟨rfl, hm⟩
  subst M'
  refine xj_icmp_ge (tgt := 55) d10_6_15 rfl (fun _ => ?_) (fun h => absurd (nI_le (a := 0) (b := 0) (by omega) (by omega)) h)
  refine xj_iload (i := 4) d10_6_55 rfl ?_
  exact xj_ret d10_6_57 (by omega) (by omega) rfl ⟨rfl, rfl⟩
theorem xLivS {G : xG} (hg : xGood G) (hxn : xn = 16) {P : Nat → Prop} {M : xM} {a l : Nat} {lvl : Int32} {vs : List Nat} (ha1 : 16 ≤ a) (ha2 : a < M.1) (hl1 : 16 ≤ l) (hl2 : l < M.1) (h_a : M.2 a = (.inr (1, [.int lvl, .ref l]))) (hL : xLs P M l vs) (hw : ∀ w ∈ vs, xVw M w) : XC G Y10_5 (some .int) 4 0 0 [.ref a] M (fun v M' => v = some (.int (nI ((vs.filter (fun w => decide (xLvM M w ≠ 0))).length))) ∧ M' = M) := by
  by_cases h0 : vs = []
  · subst h0
    obtain ⟨el, mo, h_l, -⟩ := xLs_len hL
    exact xc_wk (xLiv0 hg rfl (by omega) (by omega) ha2 h_a (by omega) hl2 h_l) (Nat.le_refl _) (Nat.le_refl _) (Nat.le_refl _) (fun v M' h => h)
  · obtain ⟨e, he, mo, cap, q1, q2, q3, q4, q5, q6, q7⟩ := xLs_a hL h0
    have hg0 : ∀ k, k < vs.length → vs[k]? = some ((vs[k]?).getD 0) := fun k hk => by rw [List.getElem?_eq_getElem hk]; rfl
    have hwk : ∀ k, k < vs.length → xVw M ((vs[k]?).getD 0) := fun k hk => hw _ (List.mem_of_getElem? (hg0 k hk))
    refine xc_wk (xLiving hg rfl (by omega) (f := fun i => vs[i]?) (vs := fun k => (vs[k]?).getD 0) (tx := fun k => xVtM M ((vs[k]?).getD 0)) (tl := fun k => xTlM M ((vs[k]?).getD 0)) (li := fun k => xLvM M ((vs[k]?).getD 0)) (ft := fun k => xFtM M ((vs[k]?).getD 0)) (by omega) ha2 h_a (by omega) hl2 q1 q5 q6 q7 q2 q4 hg0 (fun k hk => ⟨by have := (hwk k hk).1.1; omega, (hwk k hk).1.2⟩) (fun k hk => (hwk k hk).2.1) (fun k hk => ⟨by have := (hwk k hk).2.2.1.1; omega, (hwk k hk).2.2.1.2⟩) (fun k hk => (hwk k hk).2.2.2.1) (fun k hk => (hwk k hk).2.2.2.2)) (Nat.le_refl _) (Nat.le_refl _) (Nat.le_refl _) ?_
    rintro v M' ⟨rfl, rfl⟩
    refine ⟨?_, rfl⟩
    rw [← xnum_list (fun w => decide (xLvM M' w ≠ 0)) vs.length vs rfl, xnum_congr vs.length (fun k hk => (show (¬ xLvM M' ((vs[k]?).getD 0) = 0 ↔ decide (xLvM M' ((vs[k]?).getD 0) ≠ 0) = true) by simp))]

theorem xHavS {G : xG} (hg : xGood G) (hxn : xn = 16) {P : Nat → Prop} {M : xM} {a l : Nat} {lvl : Int32} {vs : List Nat} {u v1 w3 : Int32} (ha1 : 16 ≤ a) (ha2 : a < M.1) (hl1 : 16 ≤ l) (hl2 : l < M.1) (h_a : M.2 a = (.inr (1, [.int lvl, .ref l]))) (hL : xLs P M l vs) (hw : ∀ w ∈ vs, xVw M w) : XC G Y10_6 (some .int) 4 0 0 [.ref a, .int u, .int v1, .int w3] M (fun v M' => v = some (.int (nI ((vs.filter (xhb M u v1 w3)).length))) ∧ M' = M) := by
  by_cases h0 : vs = []
  · subst h0
    obtain ⟨el, mo, h_l, -⟩ := xLs_len hL
    exact xc_wk (xHav0 hg rfl (by omega) (by omega) ha2 h_a (by omega) hl2 h_l) (Nat.le_refl _) (Nat.le_refl _) (Nat.le_refl _) (fun v M' h => h)
  · obtain ⟨e, he, mo, cap, q1, q2, q3, q4, q5, q6, q7⟩ := xLs_a hL h0
    have hg0 : ∀ k, k < vs.length → vs[k]? = some ((vs[k]?).getD 0) := fun k hk => by rw [List.getElem?_eq_getElem hk]; rfl
    have hwk : ∀ k, k < vs.length → xVw M ((vs[k]?).getD 0) := fun k hk => hw _ (List.mem_of_getElem? (hg0 k hk))
    refine xc_wk (xHaving hg rfl (by omega) (f := fun i => vs[i]?) (vs := fun k => (vs[k]?).getD 0) (tx := fun k => xVtM M ((vs[k]?).getD 0)) (tl := fun k => xTlM M ((vs[k]?).getD 0)) (li := fun k => xLvM M ((vs[k]?).getD 0)) (ft := fun k => xFtM M ((vs[k]?).getD 0)) (by omega) ha2 h_a (by omega) hl2 q1 q5 q6 q7 q2 q4 hg0 (fun k hk => ⟨by have := (hwk k hk).1.1; omega, (hwk k hk).1.2⟩) (fun k hk => (hwk k hk).2.1) (fun k hk => ⟨by have := (hwk k hk).2.2.1.1; omega, (hwk k hk).2.2.1.2⟩) (fun k hk => (hwk k hk).2.2.2.1) (fun k hk => (hwk k hk).2.2.2.2)) (Nat.le_refl _) (Nat.le_refl _) (Nat.le_refl _) ?_
    rintro v M' ⟨rfl, rfl⟩
    refine ⟨?_, rfl⟩
    rw [← xnum_list (xhb M' u v1 w3) vs.length vs rfl, xnum_congr vs.length (fun k hk => xhb_iff)]

set_option maxRecDepth 20000 in
theorem xShM0 {G : xG} (hg : xGood G) {M : xM} {n : Nat} (hn : M.1 = n) (hx : xn ≤ n) {dl : Nat} {pl : Nat} {vc : Nat} {tk : Nat} {hc : Nat} {op : Nat} {pn : Int32} {lr : Value} {ol : Nat} {lvl : Int32} {el : Value} {sz : Nat} {mo : Int32} (h1_16 : xn ≤ 16) (h2_16 : 16 < n) (h_16 : M.2 16 = (.inr (0, [.ref 17, .int (nI dl), .ref 18, .int (nI pl), lr, .ref 19, .int (nI vc), .ref op, .ref 22, .int (nI tk), .ref 23, .int (nI hc), .int pn]))) (h1_op : xn ≤ op) (h2_op : op < n) (h_op : M.2 op = (.inr (1, [.int lvl, .ref ol]))) (h1_ol : xn ≤ ol) (h2_ol : ol < n) (h_ol : M.2 ol = (.inr (2, [el, .int (nI sz), .int mo]))) : XC G Y1_15 (some .int) 5 0 0 [.ref 16, .int (-1), .int 0] M (fun v M' => v = some (.int lvl) ∧ M' = M) := by
  refine xc_of hg (by decide) (Nat.le_of_ble_eq_true rfl) (Or.inl ⟨rfl, rfl, fun v M' h => ⟨_, h.1⟩⟩) ?_
  refine xj_null d1_15_0 ?_
  refine xj_astore_nN (i := 3) (L' := [(3, .null), (0, .ref 16), (1, .int (-1)), (2, .int 0)]) d1_15_1 rfl (by decide) rfl ?_
  refine xj_iload_n (i := 1) d1_15_2 rfl rfl ?_
  refine xj_iconst (v := (-1)) d1_15_3 (by decide) ?_
  refine xj_icmp_ne (tgt := 15) d1_15_4 rfl (fun h => absurd (by decide) h) (fun _ => ?_)
  refine xj_aload_n (i := 0) d1_15_7 rfl rfl ?_
  refine xj_get d1_15_8 f1_27_0 h_16 (by omega) (show 16 < M.1 by omega) rfl ?_
  refine xj_astore_n (i := 3) (L' := [(3, .ref op), (0, .ref 16), (1, .int (-1)), (2, .int 0)]) d1_15_11 rfl (by decide) rfl ?_
  refine xj_goto (tgt := 42) d1_15_12 rfl ?_
  refine xj_aload_n (i := 3) d1_15_42 rfl rfl ?_
  refine xj_ifnonnull (tgt := 48) d1_15_43 rfl ?_
  refine xj_iload_n (i := 2) d1_15_48 rfl rfl ?_
  refine xj_tableIn (tgt := 76) d1_15_49 (by decide) (by decide) rfl rfl ?_
  refine xj_aload_n (i := 3) d1_15_76 rfl rfl ?_
  refine xj_get d1_15_77 f1_136_1 h_op (by omega) (show op < M.1 by omega) rfl ?_
  exact xj_ret d1_15_80 (by omega) (by omega) rfl ⟨rfl, rfl⟩
set_option maxRecDepth 20000 in
theorem xShM1 {G : xG} (hg : xGood G) {M : xM} {n : Nat} (hn : M.1 = n) (hx : xn ≤ n) {dl : Nat} {pl : Nat} {vc : Nat} {tk : Nat} {hc : Nat} {op : Nat} {pn : Int32} {lr : Value} {ol : Nat} {lvl : Int32} {el : Value} {sz : Nat} {mo : Int32} (h1_16 : xn ≤ 16) (h2_16 : 16 < n) (h_16 : M.2 16 = (.inr (0, [.ref 17, .int (nI dl), .ref 18, .int (nI pl), lr, .ref 19, .int (nI vc), .ref op, .ref 22, .int (nI tk), .ref 23, .int (nI hc), .int pn]))) (h1_op : xn ≤ op) (h2_op : op < n) (h_op : M.2 op = (.inr (1, [.int lvl, .ref ol]))) (h1_ol : xn ≤ ol) (h2_ol : ol < n) (h_ol : M.2 ol = (.inr (2, [el, .int (nI sz), .int mo]))) : XC G Y1_15 (some .int) 5 0 0 [.ref 16, .int (-1), .int 1] M (fun v M' => v = some (.int (nI sz)) ∧ M' = M) := by
  refine xc_of hg (by decide) (Nat.le_of_ble_eq_true rfl) (Or.inl ⟨rfl, rfl, fun v M' h => ⟨_, h.1⟩⟩) ?_
  refine xj_null d1_15_0 ?_
  refine xj_astore_nN (i := 3) (L' := [(3, .null), (0, .ref 16), (1, .int (-1)), (2, .int 1)]) d1_15_1 rfl (by decide) rfl ?_
  refine xj_iload_n (i := 1) d1_15_2 rfl rfl ?_
  refine xj_iconst (v := (-1)) d1_15_3 (by decide) ?_
  refine xj_icmp_ne (tgt := 15) d1_15_4 rfl (fun h => absurd (by decide) h) (fun _ => ?_)
  refine xj_aload_n (i := 0) d1_15_7 rfl rfl ?_
  refine xj_get d1_15_8 f1_27_0 h_16 (by omega) (show 16 < M.1 by omega) rfl ?_
  refine xj_astore_n (i := 3) (L' := [(3, .ref op), (0, .ref 16), (1, .int (-1)), (2, .int 1)]) d1_15_11 rfl (by decide) rfl ?_
  refine xj_goto (tgt := 42) d1_15_12 rfl ?_
  refine xj_aload_n (i := 3) d1_15_42 rfl rfl ?_
  refine xj_ifnonnull (tgt := 48) d1_15_43 rfl ?_
  refine xj_iload_n (i := 2) d1_15_48 rfl rfl ?_
  refine xj_tableIn (tgt := 81) d1_15_49 (by decide) (by decide) rfl rfl ?_
  refine xj_aload_n (i := 3) d1_15_81 rfl rfl ?_
  refine xj_callV (rest := []) (As := []) (b := op) (cCount hg (M := M) (n := n) (a := op) (l := ol) (lv := lvl) (el := el) (sz := nI sz) (mo := mo) (show M.1 = n by omega) (by omega) (by omega) (by omega) h_op (by omega) (by omega) h_ol) d1_15_82 wd10_4 h_op (by omega) (show op < M.1 by omega) rfl w226 w225 (Or.inl w224) rfl rfl (Nat.le_of_ble_eq_true rfl) (by omega) (by omega) (by omega) ?_
  rintro v M' ⟨rfl, hm⟩
  subst M'
  exact xj_ret d1_15_85 (by omega) (by omega) rfl ⟨rfl, rfl⟩
set_option maxRecDepth 20000 in
theorem xShM2 {G : xG} (hg : xGood G) {M : xM} {n : Nat} (hn : M.1 = n) (hx : xn ≤ n) {dl : Nat} {pl : Nat} {vc : Nat} {tk : Nat} {hc : Nat} {op : Nat} {pn : Int32} {lr : Value} {ol : Nat} {lvl : Int32} {el : Value} {sz : Nat} {mo : Int32} {lvn : Int32} (h1_16 : xn ≤ 16) (h2_16 : 16 < n) (h_16 : M.2 16 = (.inr (0, [.ref 17, .int (nI dl), .ref 18, .int (nI pl), lr, .ref 19, .int (nI vc), .ref op, .ref 22, .int (nI tk), .ref 23, .int (nI hc), .int pn]))) (h1_op : xn ≤ op) (h2_op : op < n) (h_op : M.2 op = (.inr (1, [.int lvl, .ref ol]))) (h1_ol : xn ≤ ol) (h2_ol : ol < n) (h_ol : M.2 ol = (.inr (2, [el, .int (nI sz), .int mo]))) (hLv : XC G Y10_5 (some .int) 4 0 0 [.ref op] M (fun v M' => v = some (.int lvn) ∧ M' = M)) : XC G Y1_15 (some .int) 5 0 0 [.ref 16, .int (-1), .int 2] M (fun v M' => v = some (.int lvn) ∧ M' = M) := by
  refine xc_of hg (by decide) (Nat.le_of_ble_eq_true rfl) (Or.inl ⟨rfl, rfl, fun v M' h => ⟨_, h.1⟩⟩) ?_
  refine xj_null d1_15_0 ?_
  refine xj_astore_nN (i := 3) (L' := [(3, .null), (0, .ref 16), (1, .int (-1)), (2, .int 2)]) d1_15_1 rfl (by decide) rfl ?_
  refine xj_iload_n (i := 1) d1_15_2 rfl rfl ?_
  refine xj_iconst (v := (-1)) d1_15_3 (by decide) ?_
  refine xj_icmp_ne (tgt := 15) d1_15_4 rfl (fun h => absurd (by decide) h) (fun _ => ?_)
  refine xj_aload_n (i := 0) d1_15_7 rfl rfl ?_
  refine xj_get d1_15_8 f1_27_0 h_16 (by omega) (show 16 < M.1 by omega) rfl ?_
  refine xj_astore_n (i := 3) (L' := [(3, .ref op), (0, .ref 16), (1, .int (-1)), (2, .int 2)]) d1_15_11 rfl (by decide) rfl ?_
  refine xj_goto (tgt := 42) d1_15_12 rfl ?_
  refine xj_aload_n (i := 3) d1_15_42 rfl rfl ?_
  refine xj_ifnonnull (tgt := 48) d1_15_43 rfl ?_
  refine xj_iload_n (i := 2) d1_15_48 rfl rfl ?_
  refine xj_tableIn (tgt := 86) d1_15_49 (by decide) (by decide) rfl rfl ?_
  refine xj_aload_n (i := 3) d1_15_86 rfl rfl ?_
  refine xj_callV (rest := []) (As := []) (b := op) hLv d1_15_87 wd10_5 h_op (by omega) (show op < M.1 by omega) rfl w977 w976 (Or.inl w975) rfl rfl (Nat.le_of_ble_eq_true rfl) (by omega) (by omega) (by omega) ?_
  rintro v M' ⟨rfl, hm0⟩
  subst M'
  exact xj_ret d1_15_90 (by omega) (by omega) rfl ⟨rfl, rfl⟩
set_option maxRecDepth 20000 in
theorem xShK0 {G : xG} (hg : xGood G) {M : xM} {n : Nat} (hn : M.1 = n) (hx : xn ≤ n) {dl : Nat} {pl : Nat} {vc : Nat} {tk : Nat} {hc : Nat} {op : Nat} {pn : Int32} {lr : Value} {el2 : Value} {s2 : Nat} {mo2 : Int32} {a : Nat} {l : Nat} {lvl : Int32} {el : Value} {sz : Nat} {mo : Int32} {k : Nat} (h1_16 : xn ≤ 16) (h2_16 : 16 < n) (h_16 : M.2 16 = (.inr (0, [.ref 17, .int (nI dl), .ref 18, .int (nI pl), lr, .ref 19, .int (nI vc), .ref op, .ref 22, .int (nI tk), .ref 23, .int (nI hc), .int pn]))) (h1_22 : xn ≤ 22) (h2_22 : 22 < n) (h_22 : M.2 22 = (.inr (2, [el2, .int (nI s2), .int mo2]))) (h1_a : xn ≤ a) (h2_a : a < n) (h_a : M.2 a = (.inr (1, [.int lvl, .ref l]))) (h1_l : xn ≤ l) (h2_l : l < n) (h_l : M.2 l = (.inr (2, [el, .int (nI sz), .int mo]))) (hk : k < s2) (hs2 : s2 < 100000) (hGt : XC G Y28_20 (some (.object "java/lang/Object")) 2 0 0 [.ref 22, .int (nI k)] M (fun v M' => v = some (.ref a) ∧ M' = M)) : XC G Y1_15 (some .int) 5 0 0 [.ref 16, .int (nI k), .int 0] M (fun v M' => v = some (.int lvl) ∧ M' = M) := by
  refine xc_of hg (by decide) (Nat.le_of_ble_eq_true rfl) (Or.inl ⟨rfl, rfl, fun v M' h => ⟨_, h.1⟩⟩) ?_
  refine xj_null d1_15_0 ?_
  refine xj_astore_nN (i := 3) (L' := [(3, .null), (0, .ref 16), (1, .int (nI k)), (2, .int 0)]) d1_15_1 rfl (by decide) rfl ?_
  refine xj_iload_n (i := 1) d1_15_2 rfl rfl ?_
  refine xj_iconst (v := (-1)) d1_15_3 (by decide) ?_
  refine xj_icmp_ne (tgt := 15) d1_15_4 rfl (fun _ => ?_) (fun h => absurd h (fun e => xneg1 (show k < 2 ^ 31 by omega) e.symm))
  refine xj_iload_n (i := 1) d1_15_15 rfl rfl ?_
  refine xj_if_lt (tgt := 42) d1_15_16 rfl (fun h => absurd h (nI_nlt (a := k) (b := 0) (by omega) (by omega))) (fun _ => ?_)
  refine xj_iload_n (i := 1) d1_15_19 rfl rfl ?_
  refine xj_aload_n (i := 0) d1_15_20 rfl rfl ?_
  refine xj_get d1_15_21 f1_34_0 h_16 (by omega) (show 16 < M.1 by omega) rfl ?_
  refine xj_callV (rest := [.int (nI k)]) (As := []) (b := 22) (cSize hg (M := M) (n := n) (a := 22) (el := el2) (sz := nI s2) (mo := mo2) (show M.1 = n by omega) (by omega) (by omega) (by omega) h_22) d1_15_24 wd28_8 h_22 (by omega) (show 22 < M.1 by omega) rfl w230 w229 (Or.inl w241) rfl rfl (Nat.le_of_ble_eq_true rfl) (by omega) (by omega) (by omega) ?_
  rintro v M' ⟨rfl, hm⟩
  subst M'
  refine xj_icmp_ge (tgt := 42) d1_15_27 rfl (fun h => absurd h (nI_ge (a := k) (b := s2) (by omega) (by omega))) (fun _ => ?_)
  refine xj_aload_n (i := 0) d1_15_30 rfl rfl ?_
  refine xj_get d1_15_31 f1_34_0 h_16 (by omega) (show 16 < M.1 by omega) rfl ?_
  refine xj_iload_n (i := 1) d1_15_34 rfl rfl ?_
  refine xj_callV (rest := []) (As := [.int (nI k)]) (b := 22) hGt d1_15_35 wd28_20 h_22 (by omega) (show 22 < M.1 by omega) rfl w248 w247 (Or.inl w246) rfl rfl (Nat.le_of_ble_eq_true rfl) (by omega) (by omega) (by omega) ?_
  rintro v M' ⟨rfl, hm0⟩
  subst M'
  refine xj_cast d1_15_38 w39 h_a (by omega) (show a < M.1 by omega) rfl (Or.inl rfl) ?_
  refine xj_astore_n (i := 3) (L' := [(3, .ref a), (0, .ref 16), (1, .int (nI k)), (2, .int 0)]) d1_15_41 rfl (by decide) rfl ?_
  refine xj_aload_n (i := 3) d1_15_42 rfl rfl ?_
  refine xj_ifnonnull (tgt := 48) d1_15_43 rfl ?_
  refine xj_iload_n (i := 2) d1_15_48 rfl rfl ?_
  refine xj_tableIn (tgt := 76) d1_15_49 (by decide) (by decide) rfl rfl ?_
  refine xj_aload_n (i := 3) d1_15_76 rfl rfl ?_
  refine xj_get d1_15_77 f1_136_1 h_a (by omega) (show a < M.1 by omega) rfl ?_
  exact xj_ret d1_15_80 (by omega) (by omega) rfl ⟨rfl, rfl⟩
set_option maxRecDepth 20000 in
theorem xShK1 {G : xG} (hg : xGood G) {M : xM} {n : Nat} (hn : M.1 = n) (hx : xn ≤ n) {dl : Nat} {pl : Nat} {vc : Nat} {tk : Nat} {hc : Nat} {op : Nat} {pn : Int32} {lr : Value} {el2 : Value} {s2 : Nat} {mo2 : Int32} {a : Nat} {l : Nat} {lvl : Int32} {el : Value} {sz : Nat} {mo : Int32} {k : Nat} (h1_16 : xn ≤ 16) (h2_16 : 16 < n) (h_16 : M.2 16 = (.inr (0, [.ref 17, .int (nI dl), .ref 18, .int (nI pl), lr, .ref 19, .int (nI vc), .ref op, .ref 22, .int (nI tk), .ref 23, .int (nI hc), .int pn]))) (h1_22 : xn ≤ 22) (h2_22 : 22 < n) (h_22 : M.2 22 = (.inr (2, [el2, .int (nI s2), .int mo2]))) (h1_a : xn ≤ a) (h2_a : a < n) (h_a : M.2 a = (.inr (1, [.int lvl, .ref l]))) (h1_l : xn ≤ l) (h2_l : l < n) (h_l : M.2 l = (.inr (2, [el, .int (nI sz), .int mo]))) (hk : k < s2) (hs2 : s2 < 100000) (hGt : XC G Y28_20 (some (.object "java/lang/Object")) 2 0 0 [.ref 22, .int (nI k)] M (fun v M' => v = some (.ref a) ∧ M' = M)) : XC G Y1_15 (some .int) 5 0 0 [.ref 16, .int (nI k), .int 1] M (fun v M' => v = some (.int (nI sz)) ∧ M' = M) := by
  refine xc_of hg (by decide) (Nat.le_of_ble_eq_true rfl) (Or.inl ⟨rfl, rfl, fun v M' h => ⟨_, h.1⟩⟩) ?_
  refine xj_null d1_15_0 ?_
  refine xj_astore_nN (i := 3) (L' := [(3, .null), (0, .ref 16), (1, .int (nI k)), (2, .int 1)]) d1_15_1 rfl (by decide) rfl ?_
  refine xj_iload_n (i := 1) d1_15_2 rfl rfl ?_
  refine xj_iconst (v := (-1)) d1_15_3 (by decide) ?_
  refine xj_icmp_ne (tgt := 15) d1_15_4 rfl (fun _ => ?_) (fun h => absurd h (fun e => xneg1 (show k < 2 ^ 31 by omega) e.symm))
  refine xj_iload_n (i := 1) d1_15_15 rfl rfl ?_
  refine xj_if_lt (tgt := 42) d1_15_16 rfl (fun h => absurd h (nI_nlt (a := k) (b := 0) (by omega) (by omega))) (fun _ => ?_)
  refine xj_iload_n (i := 1) d1_15_19 rfl rfl ?_
  refine xj_aload_n (i := 0) d1_15_20 rfl rfl ?_
  refine xj_get d1_15_21 f1_34_0 h_16 (by omega) (show 16 < M.1 by omega) rfl ?_
  refine xj_callV (rest := [.int (nI k)]) (As := []) (b := 22) (cSize hg (M := M) (n := n) (a := 22) (el := el2) (sz := nI s2) (mo := mo2) (show M.1 = n by omega) (by omega) (by omega) (by omega) h_22) d1_15_24 wd28_8 h_22 (by omega) (show 22 < M.1 by omega) rfl w230 w229 (Or.inl w241) rfl rfl (Nat.le_of_ble_eq_true rfl) (by omega) (by omega) (by omega) ?_
  rintro v M' ⟨rfl, hm⟩
  subst M'
  refine xj_icmp_ge (tgt := 42) d1_15_27 rfl (fun h => absurd h (nI_ge (a := k) (b := s2) (by omega) (by omega))) (fun _ => ?_)
  refine xj_aload_n (i := 0) d1_15_30 rfl rfl ?_
  refine xj_get d1_15_31 f1_34_0 h_16 (by omega) (show 16 < M.1 by omega) rfl ?_
  refine xj_iload_n (i := 1) d1_15_34 rfl rfl ?_
  refine xj_callV (rest := []) (As := [.int (nI k)]) (b := 22) hGt d1_15_35 wd28_20 h_22 (by omega) (show 22 < M.1 by omega) rfl w248 w247 (Or.inl w246) rfl rfl (Nat.le_of_ble_eq_true rfl) (by omega) (by omega) (by omega) ?_
  rintro v M' ⟨rfl, hm0⟩
  subst M'
  refine xj_cast d1_15_38 w39 h_a (by omega) (show a < M.1 by omega) rfl (Or.inl rfl) ?_
  refine xj_astore_n (i := 3) (L' := [(3, .ref a), (0, .ref 16), (1, .int (nI k)), (2, .int 1)]) d1_15_41 rfl (by decide) rfl ?_
  refine xj_aload_n (i := 3) d1_15_42 rfl rfl ?_
  refine xj_ifnonnull (tgt := 48) d1_15_43 rfl ?_
  refine xj_iload_n (i := 2) d1_15_48 rfl rfl ?_
  refine xj_tableIn (tgt := 81) d1_15_49 (by decide) (by decide) rfl rfl ?_
  refine xj_aload_n (i := 3) d1_15_81 rfl rfl ?_
  refine xj_callV (rest := []) (As := []) (b := a) (cCount hg (M := M) (n := n) (a := a) (l := l) (lv := lvl) (el := el) (sz := nI sz) (mo := mo) (show M.1 = n by omega) (by omega) (by omega) (by omega) h_a (by omega) (by omega) h_l) d1_15_82 wd10_4 h_a (by omega) (show a < M.1 by omega) rfl w226 w225 (Or.inl w224) rfl rfl (Nat.le_of_ble_eq_true rfl) (by omega) (by omega) (by omega) ?_
  rintro v M' ⟨rfl, hm⟩
  subst M'
  exact xj_ret d1_15_85 (by omega) (by omega) rfl ⟨rfl, rfl⟩
set_option maxRecDepth 20000 in
theorem xShK2 {G : xG} (hg : xGood G) {M : xM} {n : Nat} (hn : M.1 = n) (hx : xn ≤ n) {dl : Nat} {pl : Nat} {vc : Nat} {tk : Nat} {hc : Nat} {op : Nat} {pn : Int32} {lr : Value} {el2 : Value} {s2 : Nat} {mo2 : Int32} {a : Nat} {l : Nat} {lvl : Int32} {el : Value} {sz : Nat} {mo : Int32} {k : Nat} {lvn : Int32} (h1_16 : xn ≤ 16) (h2_16 : 16 < n) (h_16 : M.2 16 = (.inr (0, [.ref 17, .int (nI dl), .ref 18, .int (nI pl), lr, .ref 19, .int (nI vc), .ref op, .ref 22, .int (nI tk), .ref 23, .int (nI hc), .int pn]))) (h1_22 : xn ≤ 22) (h2_22 : 22 < n) (h_22 : M.2 22 = (.inr (2, [el2, .int (nI s2), .int mo2]))) (h1_a : xn ≤ a) (h2_a : a < n) (h_a : M.2 a = (.inr (1, [.int lvl, .ref l]))) (h1_l : xn ≤ l) (h2_l : l < n) (h_l : M.2 l = (.inr (2, [el, .int (nI sz), .int mo]))) (hk : k < s2) (hs2 : s2 < 100000) (hGt : XC G Y28_20 (some (.object "java/lang/Object")) 2 0 0 [.ref 22, .int (nI k)] M (fun v M' => v = some (.ref a) ∧ M' = M)) (hLv : XC G Y10_5 (some .int) 4 0 0 [.ref a] M (fun v M' => v = some (.int lvn) ∧ M' = M)) : XC G Y1_15 (some .int) 5 0 0 [.ref 16, .int (nI k), .int 2] M (fun v M' => v = some (.int lvn) ∧ M' = M) := by
  refine xc_of hg (by decide) (Nat.le_of_ble_eq_true rfl) (Or.inl ⟨rfl, rfl, fun v M' h => ⟨_, h.1⟩⟩) ?_
  refine xj_null d1_15_0 ?_
  refine xj_astore_nN (i := 3) (L' := [(3, .null), (0, .ref 16), (1, .int (nI k)), (2, .int 2)]) d1_15_1 rfl (by decide) rfl ?_
  refine xj_iload_n (i := 1) d1_15_2 rfl rfl ?_
  refine xj_iconst (v := (-1)) d1_15_3 (by decide) ?_
  refine xj_icmp_ne (tgt := 15) d1_15_4 rfl (fun _ => ?_) (fun h => absurd h (fun e => xneg1 (show k < 2 ^ 31 by omega) e.symm))
  refine xj_iload_n (i := 1) d1_15_15 rfl rfl ?_
  refine xj_if_lt (tgt := 42) d1_15_16 rfl (fun h => absurd h (nI_nlt (a := k) (b := 0) (by omega) (by omega))) (fun _ => ?_)
  refine xj_iload_n (i := 1) d1_15_19 rfl rfl ?_
  refine xj_aload_n (i := 0) d1_15_20 rfl rfl ?_
  refine xj_get d1_15_21 f1_34_0 h_16 (by omega) (show 16 < M.1 by omega) rfl ?_
  refine xj_callV (rest := [.int (nI k)]) (As := []) (b := 22) (cSize hg (M := M) (n := n) (a := 22) (el := el2) (sz := nI s2) (mo := mo2) (show M.1 = n by omega) (by omega) (by omega) (by omega) h_22) d1_15_24 wd28_8 h_22 (by omega) (show 22 < M.1 by omega) rfl w230 w229 (Or.inl w241) rfl rfl (Nat.le_of_ble_eq_true rfl) (by omega) (by omega) (by omega) ?_
  rintro v M' ⟨rfl, hm⟩
  subst M'
  refine xj_icmp_ge (tgt := 42) d1_15_27 rfl (fun h => absurd h (nI_ge (a := k) (b := s2) (by omega) (by omega))) (fun _ => ?_)
  refine xj_aload_n (i := 0) d1_15_30 rfl rfl ?_
  refine xj_get d1_15_31 f1_34_0 h_16 (by omega) (show 16 < M.1 by omega) rfl ?_
  refine xj_iload_n (i := 1) d1_15_34 rfl rfl ?_
  refine xj_callV (rest := []) (As := [.int (nI k)]) (b := 22) hGt d1_15_35 wd28_20 h_22 (by omega) (show 22 < M.1 by omega) rfl w248 w247 (Or.inl w246) rfl rfl (Nat.le_of_ble_eq_true rfl) (by omega) (by omega) (by omega) ?_
  rintro v M' ⟨rfl, hm0⟩
  subst M'
  refine xj_cast d1_15_38 w39 h_a (by omega) (show a < M.1 by omega) rfl (Or.inl rfl) ?_
  refine xj_astore_n (i := 3) (L' := [(3, .ref a), (0, .ref 16), (1, .int (nI k)), (2, .int 2)]) d1_15_41 rfl (by decide) rfl ?_
  refine xj_aload_n (i := 3) d1_15_42 rfl rfl ?_
  refine xj_ifnonnull (tgt := 48) d1_15_43 rfl ?_
  refine xj_iload_n (i := 2) d1_15_48 rfl rfl ?_
  refine xj_tableIn (tgt := 86) d1_15_49 (by decide) (by decide) rfl rfl ?_
  refine xj_aload_n (i := 3) d1_15_86 rfl rfl ?_
  refine xj_callV (rest := []) (As := []) (b := a) hLv d1_15_87 wd10_5 h_a (by omega) (show a < M.1 by omega) rfl w977 w976 (Or.inl w975) rfl rfl (Nat.le_of_ble_eq_true rfl) (by omega) (by omega) (by omega) ?_
  rintro v M' ⟨rfl, hm0⟩
  subst M'
  exact xj_ret d1_15_90 (by omega) (by omega) rfl ⟨rfl, rfl⟩
set_option maxRecDepth 20000 in
theorem xShMO {G : xG} (hg : xGood G) {M : xM} {n : Nat} (hn : M.1 = n) (hx : xn ≤ n) {dl : Nat} {pl : Nat} {vc : Nat} {tk : Nat} {hc : Nat} {op : Nat} {pn : Int32} {lr : Value} {ol : Nat} {lvl : Int32} {wv : Int32} (h1_16 : xn ≤ 16) (h2_16 : 16 < n) (h_16 : M.2 16 = (.inr (0, [.ref 17, .int (nI dl), .ref 18, .int (nI pl), lr, .ref 19, .int (nI vc), .ref op, .ref 22, .int (nI tk), .ref 23, .int (nI hc), .int pn]))) (h1_op : xn ≤ op) (h2_op : op < n) (h_op : M.2 op = (.inr (1, [.int lvl, .ref ol]))) (hwo : wv.toInt < 0 ∨ 2 < wv.toInt) : XC G Y1_15 (some .int) 5 0 0 [.ref 16, .int (-1), .int wv] M (fun v M' => v = some (.int (-1)) ∧ M' = M) := by
  refine xc_of hg (by decide) (Nat.le_of_ble_eq_true rfl) (Or.inl ⟨rfl, rfl, fun v M' h => ⟨_, h.1⟩⟩) ?_
  refine xj_null d1_15_0 ?_
  refine xj_astore_nN (i := 3) (L' := [(3, .null), (0, .ref 16), (1, .int (-1)), (2, .int wv)]) d1_15_1 rfl (by decide) rfl ?_
  refine xj_iload_n (i := 1) d1_15_2 rfl rfl ?_
  refine xj_iconst (v := (-1)) d1_15_3 (by decide) ?_
  refine xj_icmp_ne (tgt := 15) d1_15_4 rfl (fun h => absurd (by decide) h) (fun _ => ?_)
  refine xj_aload_n (i := 0) d1_15_7 rfl rfl ?_
  refine xj_get d1_15_8 f1_27_0 h_16 (by omega) (show 16 < M.1 by omega) rfl ?_
  refine xj_astore_n (i := 3) (L' := [(3, .ref op), (0, .ref 16), (1, .int (-1)), (2, .int wv)]) d1_15_11 rfl (by decide) rfl ?_
  refine xj_goto (tgt := 42) d1_15_12 rfl ?_
  refine xj_aload_n (i := 3) d1_15_42 rfl rfl ?_
  refine xj_ifnonnull (tgt := 48) d1_15_43 rfl ?_
  refine xj_iload_n (i := 2) d1_15_48 rfl rfl ?_
  refine xj_tableOut (tgt := 91) d1_15_49 hwo rfl ?_
  refine xj_iconst (v := (-1)) d1_15_91 (by decide) ?_
  exact xj_ret d1_15_92 (by omega) (by omega) rfl ⟨rfl, rfl⟩
set_option maxRecDepth 20000 in
theorem xShKO {G : xG} (hg : xGood G) {M : xM} {n : Nat} (hn : M.1 = n) (hx : xn ≤ n) {dl : Nat} {pl : Nat} {vc : Nat} {tk : Nat} {hc : Nat} {op : Nat} {pn : Int32} {lr : Value} {el2 : Value} {s2 : Nat} {mo2 : Int32} {a : Nat} {l : Nat} {lvl : Int32} {k : Nat} {wv : Int32} (h1_16 : xn ≤ 16) (h2_16 : 16 < n) (h_16 : M.2 16 = (.inr (0, [.ref 17, .int (nI dl), .ref 18, .int (nI pl), lr, .ref 19, .int (nI vc), .ref op, .ref 22, .int (nI tk), .ref 23, .int (nI hc), .int pn]))) (h1_22 : xn ≤ 22) (h2_22 : 22 < n) (h_22 : M.2 22 = (.inr (2, [el2, .int (nI s2), .int mo2]))) (h1_a : xn ≤ a) (h2_a : a < n) (h_a : M.2 a = (.inr (1, [.int lvl, .ref l]))) (hk : k < s2) (hs2 : s2 < 100000) (hGt : XC G Y28_20 (some (.object "java/lang/Object")) 2 0 0 [.ref 22, .int (nI k)] M (fun v M' => v = some (.ref a) ∧ M' = M)) (hwo : wv.toInt < 0 ∨ 2 < wv.toInt) : XC G Y1_15 (some .int) 5 0 0 [.ref 16, .int (nI k), .int wv] M (fun v M' => v = some (.int (-1)) ∧ M' = M) := by
  refine xc_of hg (by decide) (Nat.le_of_ble_eq_true rfl) (Or.inl ⟨rfl, rfl, fun v M' h => ⟨_, h.1⟩⟩) ?_
  refine xj_null d1_15_0 ?_
  refine xj_astore_nN (i := 3) (L' := [(3, .null), (0, .ref 16), (1, .int (nI k)), (2, .int wv)]) d1_15_1 rfl (by decide) rfl ?_
  refine xj_iload_n (i := 1) d1_15_2 rfl rfl ?_
  refine xj_iconst (v := (-1)) d1_15_3 (by decide) ?_
  refine xj_icmp_ne (tgt := 15) d1_15_4 rfl (fun _ => ?_) (fun h => absurd h (fun e => xneg1 (show k < 2 ^ 31 by omega) e.symm))
  refine xj_iload_n (i := 1) d1_15_15 rfl rfl ?_
  refine xj_if_lt (tgt := 42) d1_15_16 rfl (fun h => absurd h (nI_nlt (a := k) (b := 0) (by omega) (by omega))) (fun _ => ?_)
  refine xj_iload_n (i := 1) d1_15_19 rfl rfl ?_
  refine xj_aload_n (i := 0) d1_15_20 rfl rfl ?_
  refine xj_get d1_15_21 f1_34_0 h_16 (by omega) (show 16 < M.1 by omega) rfl ?_
  refine xj_callV (rest := [.int (nI k)]) (As := []) (b := 22) (cSize hg (M := M) (n := n) (a := 22) (el := el2) (sz := nI s2) (mo := mo2) (show M.1 = n by omega) (by omega) (by omega) (by omega) h_22) d1_15_24 wd28_8 h_22 (by omega) (show 22 < M.1 by omega) rfl w230 w229 (Or.inl w241) rfl rfl (Nat.le_of_ble_eq_true rfl) (by omega) (by omega) (by omega) ?_
  rintro v M' ⟨rfl, hm⟩
  subst M'
  refine xj_icmp_ge (tgt := 42) d1_15_27 rfl (fun h => absurd h (nI_ge (a := k) (b := s2) (by omega) (by omega))) (fun _ => ?_)
  refine xj_aload_n (i := 0) d1_15_30 rfl rfl ?_
  refine xj_get d1_15_31 f1_34_0 h_16 (by omega) (show 16 < M.1 by omega) rfl ?_
  refine xj_iload_n (i := 1) d1_15_34 rfl rfl ?_
  refine xj_callV (rest := []) (As := [.int (nI k)]) (b := 22) hGt d1_15_35 wd28_20 h_22 (by omega) (show 22 < M.1 by omega) rfl w248 w247 (Or.inl w246) rfl rfl (Nat.le_of_ble_eq_true rfl) (by omega) (by omega) (by omega) ?_
  rintro v M' ⟨rfl, hm0⟩
  subst M'
  refine xj_cast d1_15_38 w39 h_a (by omega) (show a < M.1 by omega) rfl (Or.inl rfl) ?_
  refine xj_astore_n (i := 3) (L' := [(3, .ref a), (0, .ref 16), (1, .int (nI k)), (2, .int wv)]) d1_15_41 rfl (by decide) rfl ?_
  refine xj_aload_n (i := 3) d1_15_42 rfl rfl ?_
  refine xj_ifnonnull (tgt := 48) d1_15_43 rfl ?_
  refine xj_iload_n (i := 2) d1_15_48 rfl rfl ?_
  refine xj_tableOut (tgt := 91) d1_15_49 hwo rfl ?_
  refine xj_iconst (v := (-1)) d1_15_91 (by decide) ?_
  exact xj_ret d1_15_92 (by omega) (by omega) rfl ⟨rfl, rfl⟩
set_option maxRecDepth 20000 in
theorem xShO {G : xG} (hg : xGood G) {M : xM} {n : Nat} (hn : M.1 = n) (hx : xn ≤ n) {dl : Nat} {pl : Nat} {vc : Nat} {tk : Nat} {hc : Nat} {op : Nat} {pn : Int32} {lr : Value} {el2 : Value} {s2 : Nat} {mo2 : Int32} {c : Int32} {wv : Int32} (h1_16 : xn ≤ 16) (h2_16 : 16 < n) (h_16 : M.2 16 = (.inr (0, [.ref 17, .int (nI dl), .ref 18, .int (nI pl), lr, .ref 19, .int (nI vc), .ref op, .ref 22, .int (nI tk), .ref 23, .int (nI hc), .int pn]))) (h1_22 : xn ≤ 22) (h2_22 : 22 < n) (h_22 : M.2 22 = (.inr (2, [el2, .int (nI s2), .int mo2]))) (hc1 : ¬ c = -1) (hco : c < 0 ∨ nI s2 ≤ c) : XC G Y1_15 (some .int) 5 0 0 [.ref 16, .int c, .int wv] M (fun v M' => v = some (.int (-1)) ∧ M' = M) := by
  refine xc_of hg (by decide) (Nat.le_of_ble_eq_true rfl) (Or.inl ⟨rfl, rfl, fun v M' h => ⟨_, h.1⟩⟩) ?_
  refine xj_null d1_15_0 ?_
  refine xj_astore_nN (i := 3) (L' := [(3, .null), (0, .ref 16), (1, .int c), (2, .int wv)]) d1_15_1 rfl (by decide) rfl ?_
  refine xj_iload_n (i := 1) d1_15_2 rfl rfl ?_
  refine xj_iconst (v := (-1)) d1_15_3 (by decide) ?_
  refine xj_icmp_ne (tgt := 15) d1_15_4 rfl (fun _ => ?_) (fun h => absurd h hc1)
  refine xj_iload_n (i := 1) d1_15_15 rfl rfl ?_
  refine xj_if_lt (tgt := 42) d1_15_16 rfl (fun hb1 => ?_) (fun hb1 => ?_)
  · refine xj_aload_nN (i := 3) d1_15_42 rfl rfl ?_
    refine xj_ifnonnullN d1_15_43 ?_
    refine xj_iconst (v := (-1)) d1_15_46 (by decide) ?_
    exact xj_ret d1_15_47 (by omega) (by omega) rfl ⟨rfl, rfl⟩
  · refine xj_iload_n (i := 1) d1_15_19 rfl rfl ?_
    refine xj_aload_n (i := 0) d1_15_20 rfl rfl ?_
    refine xj_get d1_15_21 f1_34_0 h_16 (by omega) (show 16 < M.1 by omega) rfl ?_
    refine xj_callV (rest := [.int c]) (As := []) (b := 22) (cSize hg (M := M) (n := n) (a := 22) (el := el2) (sz := nI s2) (mo := mo2) (show M.1 = n by omega) (by omega) (by omega) (by omega) h_22) d1_15_24 wd28_8 h_22 (by omega) (show 22 < M.1 by omega) rfl w230 w229 (Or.inl w241) rfl rfl (Nat.le_of_ble_eq_true rfl) (by omega) (by omega) (by omega) ?_
    rintro v M' ⟨rfl, hm⟩
    subst M'
    refine xj_icmp_ge (tgt := 42) d1_15_27 rfl (fun _ => ?_) (fun h => absurd (hco.resolve_left hb1) h)
    refine xj_aload_nN (i := 3) d1_15_42 rfl rfl ?_
    refine xj_ifnonnullN d1_15_43 ?_
    refine xj_iconst (v := (-1)) d1_15_46 (by decide) ?_
    exact xj_ret d1_15_47 (by omega) (by omega) rfl ⟨rfl, rfl⟩

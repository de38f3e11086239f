/-- how many versions of the sealed shard i have the three characters -/
noncomputable def xgp (M : xM) (T : List (Int32 × List Nat)) (u v1 w3 : Int32) : Nat → Nat := fun i => (((T[i]?).getD (0, [])).2.filter (xhb M u v1 w3)).length
theorem xPosL {G : xG} (hg : xGood G) (hxn : xn = 16) {F P : Nat → Prop} {M : xM} {S : List Nat} {T : List (Int32 × List Nat)} {u v1 w3 : Int32} {c0 : Nat} {dl : Nat} {pl : Nat} {vc : Nat} {tk : Nat} {hc : Nat} {op : Nat} {pn : Int32} {lr : Value} (h52 : 52 ≤ M.1) (h_16 : M.2 16 = (.inr (0, [.ref 17, .int (nI dl), .ref 18, .int (nI pl), lr, .ref 19, .int (nI vc), .ref op, .ref 22, .int (nI tk), .ref 23, .int (nI hc), .int pn]))) (hLs : xLs P M 22 S) (hR : xShT F M S T) (hF : ∀ x, F x → 16 ≤ x ∧ x < M.1) (hw : ∀ q ∈ T, ∀ w ∈ q.2, xVw M w) {d ce se cells slots : Nat} {Post : Option Value → xM → Prop} (hd : 5 ≤ d) (hcc : cells ≤ ce) (hss : slots ≤ se) (K : XJ G Y1_16 d ce se cells slots 79 [(5, .int (nI S.length)), (4, .int (nI (c0 + xsum (xgp M T u v1 w3) S.length))), (0, .ref 16), (1, .int u), (2, .int v1), (3, .int w3)] [] M Post) : ∀ r i : Nat, i + r = S.length → XJ G Y1_16 d ce se cells slots 38 [(5, .int (nI i)), (4, .int (nI (c0 + xsum (xgp M T u v1 w3) i))), (0, .ref 16), (1, .int u), (2, .int v1), (3, .int w3)] [] M Post := by
  obtain ⟨el, mo, h22, hlt⟩ := xLs_len hLs
  intro r
  induction r with
  | zero =>
    intro i hi
    have hi' : i = S.length := by omega
    subst i
    refine xj_iload (i := 5) d1_16_38 rfl ?_
    refine xj_aload_n (i := 0) d1_16_40 rfl rfl ?_
    refine xj_get d1_16_41 f1_34_0 h_16 (by omega) (show 16 < M.1 by omega) rfl ?_
    refine xj_callV (rest := [.int (nI S.length)]) (As := []) (b := 22) (cSize hg (M := M) (n := M.1) (a := 22) (el := el) (sz := nI S.length) (mo := mo) rfl (by omega) (by omega) (by omega) h22) d1_16_44 wd28_8 h22 (by omega) (show 22 < M.1 by omega) rfl w230 w229 (Or.inl w241) rfl rfl (Nat.le_of_ble_eq_true rfl) (by omega) (by omega) (by omega) ?_
    rintro v M' ⟨rfl, hm⟩
    subst M'
    refine xj_icmp_ge (tgt := 79) d1_16_47 rfl (fun _ => ?_) (fun h => absurd (nI_le (a := S.length) (b := S.length) (by omega) (by omega)) h)
    exact K
  | succ r ih =>
    intro i hi
    obtain ⟨a, ha⟩ : ∃ a, S[i]? = some a := ⟨_, List.getElem?_eq_getElem (by omega)⟩
    obtain ⟨q, hq⟩ : ∃ q, T[i]? = some q := ⟨_, List.getElem?_eq_getElem (by rw [← hR.1]; omega)⟩
    obtain ⟨fa, l, fl, h_a, hLl⟩ := hR.2 i a q ha hq
    have ba := hF a fa
    have bl := hF l fl
    have hwq := hw q (List.mem_of_getElem? hq)
    have hg1 : xgp M T u v1 w3 i = (q.2.filter (xhb M u v1 w3)).length := by
      unfold xgp
      rw [hq]
      rfl
    refine xj_iload (i := 5) d1_16_38 rfl ?_
    refine xj_aload_n (i := 0) d1_16_40 rfl rfl ?_
    refine xj_get d1_16_41 f1_34_0 h_16 (by omega) (show 16 < M.1 by omega) rfl ?_
    refine xj_callV (rest := [.int (nI i)]) (As := []) (b := 22) (cSize hg (M := M) (n := M.1) (a := 22) (el := el) (sz := nI S.length) (mo := mo) rfl (by omega) (by omega) (by omega) h22) d1_16_44 wd28_8 h22 (by omega) (show 22 < M.1 by omega) rfl w230 w229 (Or.inl w241) rfl rfl (Nat.le_of_ble_eq_true rfl) (by omega) (by omega) (by omega) ?_
    rintro v M' ⟨rfl, hm⟩
    subst M'
    refine xj_icmp_ge (tgt := 79) d1_16_47 rfl (fun h => absurd h (nI_ge (a := i) (b := S.length) (by omega) (by omega))) (fun _ => ?_)
    refine xj_iload (i := 4) d1_16_50 rfl ?_
    refine xj_aload_n (i := 0) d1_16_52 rfl rfl ?_
    refine xj_get d1_16_53 f1_34_0 h_16 (by omega) (show 16 < M.1 by omega) rfl ?_
    refine xj_iload (i := 5) d1_16_56 rfl ?_
    refine xj_callV (rest := [.int (nI (c0 + xsum (xgp M T u v1 w3) i))]) (As := [.int (nI i)]) (b := 22) (xLs_get hg hLs (by omega) (by omega) ha) d1_16_58 wd28_20 h22 (by omega) (show 22 < M.1 by omega) rfl w248 w247 (Or.inl w246) rfl rfl (Nat.le_of_ble_eq_true rfl) (by omega) (by omega) (by omega) ?_
    rintro v M' ⟨rfl, hm0⟩
    subst M'
    refine xj_cast d1_16_61 w39 h_a (by omega) (show a < M.1 by omega) rfl (Or.inl rfl) ?_
    refine xj_iload_n (i := 1) d1_16_64 rfl rfl ?_
    refine xj_iload_n (i := 2) d1_16_65 rfl rfl ?_
    refine xj_iload_n (i := 3) d1_16_66 rfl rfl ?_
    refine xj_callV (rest := [.int (nI (c0 + xsum (xgp M T u v1 w3) i))]) (As := [.int u, .int v1, .int w3]) (b := a) (xHavS hg hxn (by omega) (by omega) (by omega) (by omega) h_a hLl hwq) d1_16_67 wd10_6 h_a (by omega) (show a < M.1 by omega) rfl w985 w984 (Or.inl w983) rfl rfl (Nat.le_of_ble_eq_true rfl) (by omega) (by omega) (by omega) ?_
    rintro v M' ⟨rfl, hm0⟩
    subst M'
    refine xj_iadd (v := nI (c0 + xsum (xgp M T u v1 w3) (i + 1))) d1_16_70 (by rw [nI_add, xsum, hg1, Nat.add_assoc]) ?_
    refine xj_istore (i := 4) (L' := [(4, .int (nI (c0 + xsum (xgp M T u v1 w3) (i + 1)))), (5, .int (nI i)), (0, .ref 16), (1, .int u), (2, .int v1), (3, .int w3)]) d1_16_71 (by decide) rfl ?_
    refine xj_iinc (v := nI (i + 1)) (L' := [(5, .int (nI (i + 1))), (4, .int (nI (c0 + xsum (xgp M T u v1 w3) (i + 1)))), (0, .ref 16), (1, .int u), (2, .int v1), (3, .int w3)]) d1_16_73 rfl (xinc _) (by decide) rfl ?_
    refine xj_goto (tgt := 38) d1_16_76 rfl ?_
    exact ih (i + 1) (by omega)
theorem xPostY {G : xG} (hg : xGood G) (hxn : xn = 16) {F P Q : Nat → Prop} {M : xM} {S ov : List Nat} {T : List (Int32 × List Nat)} {u v1 w3 : Int32} {ol : Nat} {dl : Nat} {pl : Nat} {vc : Nat} {tk : Nat} {hc : Nat} {op : Nat} {pn : Int32} {lr : Value} (h52 : 52 ≤ M.1) (h_16 : M.2 16 = (.inr (0, [.ref 17, .int (nI dl), .ref 18, .int (nI pl), lr, .ref 19, .int (nI vc), .ref op, .ref 22, .int (nI tk), .ref 23, .int (nI hc), .int pn]))) (hLs : xLs P M 22 S) (hR : xShT F M S T) (hF : ∀ x, F x → 16 ≤ x ∧ x < M.1) (hw : ∀ q ∈ T, ∀ w ∈ q.2, xVw M w) (h_op : M.2 op = (.inr (1, [.int 0, .ref ol]))) (ho1 : 16 ≤ op) (ho2 : op < M.1) (hl1 : 16 ≤ ol) (hl2 : ol < M.1) (hLo : xLs Q M ol ov) (hwo : ∀ w ∈ ov, xVw M w) (hc1 : u = 10 ∨ (¬ u < 32 ∧ ¬ 126 < u)) (hc2 : v1 = 10 ∨ (¬ v1 < 32 ∧ ¬ 126 < v1)) (hc3 : w3 = 10 ∨ (¬ w3 < 32 ∧ ¬ 126 < w3)) : XC G Y1_16 (some .int) 5 0 0 [.ref 16, .int u, .int v1, .int w3] M (fun v M' => v = some (.int (nI ((ov.filter (xhb M u v1 w3)).length + xsum (xgp M T u v1 w3) S.length))) ∧ M' = M) := by
  refine xc_of hg (by decide) (Nat.le_of_ble_eq_true rfl) (Or.inl ⟨rfl, rfl, fun v M' h => ⟨_, h.1⟩⟩) ?_
  refine xj_iload_n (i := 1) d1_16_0 rfl rfl ?_
  refine xj_callS (rest := []) (As := [.int u]) (cCharacter hg (M := M) (n := M.1) (c := u) rfl (by omega) ) d1_16_1 wd1_21 w128 (Or.inl w127) rfl rfl (Nat.le_of_ble_eq_true rfl) (by omega) (by omega) (by omega) ?_
  rintro v M' ⟨rfl, hm⟩
  subst M'
  refine xj_if_eq (tgt := 21) d1_16_4 rfl (fun h => absurd h (by rw [xB_t hc1]; decide)) (fun _ => ?_)
  refine xj_iload_n (i := 2) d1_16_7 rfl rfl ?_
  refine xj_callS (rest := []) (As := [.int v1]) (cCharacter hg (M := M) (n := M.1) (c := v1) rfl (by omega) ) d1_16_8 wd1_21 w128 (Or.inl w127) rfl rfl (Nat.le_of_ble_eq_true rfl) (by omega) (by omega) (by omega) ?_
  rintro v M' ⟨rfl, hm⟩
  subst M'
  refine xj_if_eq (tgt := 21) d1_16_11 rfl (fun h => absurd h (by rw [xB_t hc2]; decide)) (fun _ => ?_)
  refine xj_iload_n (i := 3) d1_16_14 rfl rfl ?_
  refine xj_callS (rest := []) (As := [.int w3]) (cCharacter hg (M := M) (n := M.1) (c := w3) rfl (by omega) ) d1_16_15 wd1_21 w128 (Or.inl w127) rfl rfl (Nat.le_of_ble_eq_true rfl) (by omega) (by omega) (by omega) ?_
  rintro v M' ⟨rfl, hm⟩
  subst M'
  refine xj_if_ne (tgt := 23) d1_16_18 rfl (fun _ => ?_) (fun h => absurd h (by rw [xB_t hc3]; decide))
  refine xj_aload_n (i := 0) d1_16_23 rfl rfl ?_
  refine xj_get d1_16_24 f1_27_0 h_16 (by omega) (show 16 < M.1 by omega) rfl ?_
  refine xj_iload_n (i := 1) d1_16_27 rfl rfl ?_
  refine xj_iload_n (i := 2) d1_16_28 rfl rfl ?_
  refine xj_iload_n (i := 3) d1_16_29 rfl rfl ?_
  refine xj_callV (rest := []) (As := [.int u, .int v1, .int w3]) (b := op) (xHavS hg hxn (by omega) (by omega) (by omega) (by omega) h_op hLo hwo) d1_16_30 wd10_6 h_op (by omega) (show op < M.1 by omega) rfl w985 w984 (Or.inl w983) rfl rfl (Nat.le_of_ble_eq_true rfl) (by omega) (by omega) (by omega) ?_
  rintro v M' ⟨rfl, hm0⟩
  subst M'
  refine xj_istore (i := 4) (L' := [(4, .int (nI ((ov.filter (xhb M u v1 w3)).length))), (0, .ref 16), (1, .int u), (2, .int v1), (3, .int w3)]) d1_16_33 (by decide) rfl ?_
  refine xj_iconst (v := 0) d1_16_35 (by decide) ?_
  refine xj_istore (i := 5) (L' := [(5, .int 0), (4, .int (nI ((ov.filter (xhb M u v1 w3)).length))), (0, .ref 16), (1, .int u), (2, .int v1), (3, .int w3)]) d1_16_36 (by decide) rfl ?_
  refine xPosL (c0 := (ov.filter (xhb M u v1 w3)).length) hg hxn h52 h_16 hLs hR hF hw (by omega) (by omega) (by omega) ?_ S.length 0 (by omega)
  refine xj_iload (i := 4) d1_16_79 rfl ?_
  exact xj_ret d1_16_81 (by omega) (by omega) rfl ⟨rfl, rfl⟩
set_option maxRecDepth 20000 in
theorem xPostN {G : xG} (hg : xGood G) {M : xM} {n : Nat} (hn : M.1 = n) (hx : xn ≤ n) {dl : Nat} {pl : Nat} {vc : Nat} {tk : Nat} {hc : Nat} {op : Nat} {pn : Int32} {lr : Value} {u : Int32} {v1 : Int32} {w3 : Int32} (h1_16 : xn ≤ 16) (h2_16 : 16 < n) (h_16 : M.2 16 = (.inr (0, [.ref 17, .int (nI dl), .ref 18, .int (nI pl), lr, .ref 19, .int (nI vc), .ref op, .ref 22, .int (nI tk), .ref 23, .int (nI hc), .int pn]))) (hch : ¬ ((u = 10 ∨ (¬ u < 32 ∧ ¬ 126 < u)) ∧ (v1 = 10 ∨ (¬ v1 < 32 ∧ ¬ 126 < v1)) ∧ (w3 = 10 ∨ (¬ w3 < 32 ∧ ¬ 126 < w3)))) : XC G Y1_16 (some .int) 2 0 0 [.ref 16, .int u, .int v1, .int w3] M (fun v M' => v = some (.int 0) ∧ M' = M) := by
  refine xc_of hg (by decide) (Nat.le_of_ble_eq_true rfl) (Or.inl ⟨rfl, rfl, fun v M' h => ⟨_, h.1⟩⟩) ?_
  refine xj_iload_n (i := 1) d1_16_0 rfl rfl ?_
  refine xj_callS (rest := []) (As := [.int u]) (cCharacter hg (M := M) (n := n) (c := u) (show M.1 = n by omega) (by omega) ) d1_16_1 wd1_21 w128 (Or.inl w127) rfl rfl (Nat.le_of_ble_eq_true rfl) (by omega) (by omega) (by omega) ?_
  rintro v M' ⟨rfl, hm⟩
  subst M'
  refine xj_if_eq (tgt := 21) d1_16_4 rfl (fun hb1 => ?_) (fun hb1 => ?_)
  · refine xj_iconst (v := 0) d1_16_21 (by decide) ?_
    exact xj_ret d1_16_22 (by omega) (by omega) rfl ⟨rfl, rfl⟩
  · refine xj_iload_n (i := 2) d1_16_7 rfl rfl ?_
    refine xj_callS (rest := []) (As := [.int v1]) (cCharacter hg (M := M) (n := n) (c := v1) (show M.1 = n by omega) (by omega) ) d1_16_8 wd1_21 w128 (Or.inl w127) rfl rfl (Nat.le_of_ble_eq_true rfl) (by omega) (by omega) (by omega) ?_
    rintro v M' ⟨rfl, hm⟩
    subst M'
    refine xj_if_eq (tgt := 21) d1_16_11 rfl (fun hb2 => ?_) (fun hb2 => ?_)
    · refine xj_iconst (v := 0) d1_16_21 (by decide) ?_
      exact xj_ret d1_16_22 (by omega) (by omega) rfl ⟨rfl, rfl⟩
    · refine xj_iload_n (i := 3) d1_16_14 rfl rfl ?_
      refine xj_callS (rest := []) (As := [.int w3]) (cCharacter hg (M := M) (n := n) (c := w3) (show M.1 = n by omega) (by omega) ) d1_16_15 wd1_21 w128 (Or.inl w127) rfl rfl (Nat.le_of_ble_eq_true rfl) (by omega) (by omega) (by omega) ?_
      rintro v M' ⟨rfl, hm⟩
      subst M'
      refine xj_if_ne (tgt := 23) d1_16_18 rfl (fun h => absurd (xB_f (fun q => hch ⟨xB_y hb1, xB_y hb2, q⟩)) h) (fun _ => ?_)
      refine xj_iconst (v := 0) d1_16_21 (by decide) ?_
      exact xj_ret d1_16_22 (by omega) (by omega) rfl ⟨rfl, rfl⟩

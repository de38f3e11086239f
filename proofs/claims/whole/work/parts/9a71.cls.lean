set_option maxRecDepth 20000 in
theorem xBc {G : xG} (hg : xGood G) {M : xM} {n : Nat} (hn : M.1 = n) (hx : xn ≤ n) {x : Int64} : XC G Y20_50 (some .int) 0 0 0 [.long x] M (fun v M' => v = some (.int (nI (lCnt x))) ∧ M' = M) := by
  refine xc_of hg (by decide) (Nat.le_of_ble_eq_true rfl) (Or.inl ⟨rfl, rfl, fun v M' h => ⟨_, h.1⟩⟩) ?_
  refine xj_lload_n (i := 0) d20_50_0 rfl rfl ?_
  refine xj_lload_n (i := 0) d20_50_1 rfl rfl ?_
  refine xj_iconst (v := 1) d20_50_2 (by decide) ?_
  refine xj_lushr (v := ((x).toUInt64 >>> ((1 : Int32).toInt64.toUInt64 &&& Int64.toUInt64 63)).toInt64) d20_50_3 rfl ?_
  refine xj_ldc2 (v := 6148914691236517205) d20_50_4 w761 ?_
  refine xj_land (v := (((x).toUInt64 >>> ((1 : Int32).toInt64.toUInt64 &&& Int64.toUInt64 63)).toInt64) &&& 6148914691236517205) d20_50_7 rfl ?_
  refine xj_lsub (v := x - ((((x).toUInt64 >>> ((1 : Int32).toInt64.toUInt64 &&& Int64.toUInt64 63)).toInt64) &&& 6148914691236517205)) d20_50_8 rfl ?_
  obtain ⟨a9, ha9⟩ : ∃ a9 : Int64, x - ((((x).toUInt64 >>> ((1 : Int32).toInt64.toUInt64 &&& Int64.toUInt64 63)).toInt64) &&& 6148914691236517205) = a9 := ⟨_, rfl⟩
  rw [ha9]
  refine xj_lstore_n (i := 0) (L' := [(0, .long a9)]) d20_50_9 rfl (by decide) rfl ?_
  refine xj_lload_n (i := 0) d20_50_10 rfl rfl ?_
  refine xj_ldc2 (v := 3689348814741910323) d20_50_11 w762 ?_
  refine xj_land (v := a9 &&& 3689348814741910323) d20_50_14 rfl ?_
  refine xj_lload_n (i := 0) d20_50_15 rfl rfl ?_
  refine xj_iconst (v := 2) d20_50_16 (by decide) ?_
  refine xj_lushr (v := ((a9).toUInt64 >>> ((2 : Int32).toInt64.toUInt64 &&& Int64.toUInt64 63)).toInt64) d20_50_17 rfl ?_
  refine xj_ldc2 (v := 3689348814741910323) d20_50_18 w762 ?_
  refine xj_land (v := (((a9).toUInt64 >>> ((2 : Int32).toInt64.toUInt64 &&& Int64.toUInt64 63)).toInt64) &&& 3689348814741910323) d20_50_21 rfl ?_
  refine xj_ladd (v := (a9 &&& 3689348814741910323) + ((((a9).toUInt64 >>> ((2 : Int32).toInt64.toUInt64 &&& Int64.toUInt64 63)).toInt64) &&& 3689348814741910323)) d20_50_22 rfl ?_
  obtain ⟨b9, hb9⟩ : ∃ b9 : Int64, (a9 &&& 3689348814741910323) + ((((a9).toUInt64 >>> ((2 : Int32).toInt64.toUInt64 &&& Int64.toUInt64 63)).toInt64) &&& 3689348814741910323) = b9 := ⟨_, rfl⟩
  rw [hb9]
  refine xj_lstore_n (i := 0) (L' := [(0, .long b9)]) d20_50_23 rfl (by decide) rfl ?_
  refine xj_lload_n (i := 0) d20_50_24 rfl rfl ?_
  refine xj_lload_n (i := 0) d20_50_25 rfl rfl ?_
  refine xj_iconst (v := 4) d20_50_26 (by decide) ?_
  refine xj_lushr (v := ((b9).toUInt64 >>> ((4 : Int32).toInt64.toUInt64 &&& Int64.toUInt64 63)).toInt64) d20_50_27 rfl ?_
  refine xj_ladd (v := b9 + (((b9).toUInt64 >>> ((4 : Int32).toInt64.toUInt64 &&& Int64.toUInt64 63)).toInt64)) d20_50_28 rfl ?_
  refine xj_ldc2 (v := 1085102592571150095) d20_50_29 w763 ?_
  refine xj_land (v := (b9 + (((b9).toUInt64 >>> ((4 : Int32).toInt64.toUInt64 &&& Int64.toUInt64 63)).toInt64)) &&& 1085102592571150095) d20_50_32 rfl ?_
  obtain ⟨c9, hc9⟩ : ∃ c9 : Int64, (b9 + (((b9).toUInt64 >>> ((4 : Int32).toInt64.toUInt64 &&& Int64.toUInt64 63)).toInt64)) &&& 1085102592571150095 = c9 := ⟨_, rfl⟩
  rw [hc9]
  refine xj_lstore_n (i := 0) (L' := [(0, .long c9)]) d20_50_33 rfl (by decide) rfl ?_
  refine xj_lload_n (i := 0) d20_50_34 rfl rfl ?_
  refine xj_lload_n (i := 0) d20_50_35 rfl rfl ?_
  refine xj_bipush (v := 8) d20_50_36 (by decide) ?_
  refine xj_lushr (v := ((c9).toUInt64 >>> ((8 : Int32).toInt64.toUInt64 &&& Int64.toUInt64 63)).toInt64) d20_50_38 rfl ?_
  refine xj_ladd (v := c9 + (((c9).toUInt64 >>> ((8 : Int32).toInt64.toUInt64 &&& Int64.toUInt64 63)).toInt64)) d20_50_39 rfl ?_
  obtain ⟨d9, hd9⟩ : ∃ d9 : Int64, c9 + (((c9).toUInt64 >>> ((8 : Int32).toInt64.toUInt64 &&& Int64.toUInt64 63)).toInt64) = d9 := ⟨_, rfl⟩
  rw [hd9]
  refine xj_lstore_n (i := 0) (L' := [(0, .long d9)]) d20_50_40 rfl (by decide) rfl ?_
  refine xj_lload_n (i := 0) d20_50_41 rfl rfl ?_
  refine xj_lload_n (i := 0) d20_50_42 rfl rfl ?_
  refine xj_bipush (v := 16) d20_50_43 (by decide) ?_
  refine xj_lushr (v := ((d9).toUInt64 >>> ((16 : Int32).toInt64.toUInt64 &&& Int64.toUInt64 63)).toInt64) d20_50_45 rfl ?_
  refine xj_ladd (v := d9 + (((d9).toUInt64 >>> ((16 : Int32).toInt64.toUInt64 &&& Int64.toUInt64 63)).toInt64)) d20_50_46 rfl ?_
  obtain ⟨e9, he9⟩ : ∃ e9 : Int64, d9 + (((d9).toUInt64 >>> ((16 : Int32).toInt64.toUInt64 &&& Int64.toUInt64 63)).toInt64) = e9 := ⟨_, rfl⟩
  rw [he9]
  refine xj_lstore_n (i := 0) (L' := [(0, .long e9)]) d20_50_47 rfl (by decide) rfl ?_
  refine xj_lload_n (i := 0) d20_50_48 rfl rfl ?_
  refine xj_lload_n (i := 0) d20_50_49 rfl rfl ?_
  refine xj_bipush (v := 32) d20_50_50 (by decide) ?_
  refine xj_lushr (v := ((e9).toUInt64 >>> ((32 : Int32).toInt64.toUInt64 &&& Int64.toUInt64 63)).toInt64) d20_50_52 rfl ?_
  refine xj_ladd (v := e9 + (((e9).toUInt64 >>> ((32 : Int32).toInt64.toUInt64 &&& Int64.toUInt64 63)).toInt64)) d20_50_53 rfl ?_
  obtain ⟨f9, hf9⟩ : ∃ f9 : Int64, e9 + (((e9).toUInt64 >>> ((32 : Int32).toInt64.toUInt64 &&& Int64.toUInt64 63)).toInt64) = f9 := ⟨_, rfl⟩
  rw [hf9]
  refine xj_lstore_n (i := 0) (L' := [(0, .long f9)]) d20_50_54 rfl (by decide) rfl ?_
  refine xj_lload_n (i := 0) d20_50_55 rfl rfl ?_
  refine xj_l2i (v := f9.toInt32) d20_50_56 rfl ?_
  refine xj_bipush (v := 127) d20_50_57 (by decide) ?_
  refine xj_iand (v := f9.toInt32 &&& 127) d20_50_59 rfl ?_
  exact xj_ret d20_50_60 (by omega) (by omega) rfl ⟨(by rw [← lCnt_eq (x := x) ha9.symm hb9.symm hc9.symm hd9.symm he9.symm hf9.symm]), rfl⟩
set_option maxRecDepth 20000 in
theorem wAl {G : xG} (hg : xGood G) (hxn : xn = 16) {M : xM} {o lt ln cc : Nat} {S : List (List Int32)} (b1 : 16 ≤ o) (b2 : o < M.1) (b3 : 16 ≤ lt) (b4 : lt < M.1) (b5 : 16 ≤ ln) (b6 : ln < M.1) (hW : cWm M o lt ln S) (hS : S.length < 4) (hc : cc < 127) (hin : [nI cc] ∉ S) : XC G Y12_5 (some .boolean) 3 0 0 [.ref o, .int (nI cc)] M (fun v M' => v = some (.int 1) ∧ M'.1 = M.1 ∧ (∀ y, y ≠ o → y ≠ lt → y ≠ ln → M'.2 y = M.2 y) ∧ cWm M' o lt ln (S ++ [[nI cc]])) := by
  obtain ⟨f, g, h_o, h_lt, h_ln, -, hd⟩ := hW
  obtain ⟨hr1, hr2, hr3⟩ := wRow1 hd hc
  have n1 : o ≠ lt := xne_io h_o h_lt
  have n2 : o ≠ ln := xne_io h_o h_ln
  have n3 : lt ≠ ln := fun q => by rw [q, h_ln] at h_lt; cases h_lt
  refine xc_of hg (by decide) (Nat.le_of_ble_eq_true rfl) (Or.inr (Or.inl ⟨rfl, rfl, fun v M' h => ⟨_, h.1, Or.inr rfl⟩⟩)) ?_
  refine xj_aload_n (i := 0) d12_5_0 rfl rfl ?_
  refine xj_get d12_5_1 f12_9_8 h_o (by omega) (show o < M.1 by omega) rfl ?_
  refine xj_aload_n (i := 0) d12_5_4 rfl rfl ?_
  refine xj_get d12_5_5 f12_18_8 h_o (by omega) (show o < M.1 by omega) rfl ?_
  refine xj_bipush (v := 12) d12_5_8 (by decide) ?_
  refine xj_imul (v := nI (S.length * 12)) d12_5_10 (pk_mul S.length 12) ?_
  refine xj_iload_n (i := 1) d12_5_11 rfl rfl ?_
  refine xj_castore (j := S.length * 12) (x' := nI cc) d12_5_12 h_lt (by omega) (show lt < M.1 by omega) (vp_in_nI (by omega) (by omega)) (nI_clamp (by omega)) ((show ∀ c, c < 127 → vp_nar .char (nI c) = nI c by decide +kernel) cc hc) ?_
  refine xj_abs_set (fun M1 hs1 ha1 ho1 => ?_)
  refine xj_aload_n (i := 0) d12_5_13 rfl rfl ?_
  refine xj_get d12_5_14 f12_13_8 ((ho1 o (by omega)).trans h_o) (by omega) (show o < M1.1 by omega) rfl ?_
  refine xj_aload_n (i := 0) d12_5_17 rfl rfl ?_
  refine xj_get d12_5_18 f12_18_8 ((ho1 o (by omega)).trans h_o) (by omega) (show o < M1.1 by omega) rfl ?_
  refine xj_iconst (v := 1) d12_5_21 (by decide) ?_
  refine xj_iastore (j := S.length) (x' := 1) d12_5_22 ((ho1 ln (by omega)).trans h_ln) (by omega) (show ln < M1.1 by omega) (vp_in_nI (by omega) (by omega)) (nI_clamp (by omega)) rfl ?_
  refine xj_abs_set (fun M2 hs2 ha2 ho2 => ?_)
  refine xj_aload_n (i := 0) d12_5_23 rfl rfl ?_
  refine xj_callV (rest := []) (As := []) (b := o) (wKpN hg hxn (M := M2) (kk := S.length) (S := S) (w := [nI cc]) (by omega) (by omega) (by omega) (by omega) (by omega) (by omega) ((ho2 o (by omega)).trans ((ho1 o (by omega)).trans h_o)) ((ho2 lt (by omega)).trans ha1) ha2 (by omega) hr1 rfl hr2 hr3 hin (by omega)) d12_5_24 wd12_7 ((ho2 o (by omega)).trans ((ho1 o (by omega)).trans h_o)) (by omega) (show o < M2.1 by omega) rfl s12_7 w776 (Or.inl w774) rfl rfl (Nat.le_of_ble_eq_true rfl) (by omega) (by omega) (by omega) ?_
  rintro v M3 ⟨rfl, hs3, ho3, ha3⟩
  exact xj_ret d12_5_27 (by omega) (by omega) rfl ⟨rfl, (show M3.1 = M.1 by omega), (fun y z1 z2 z3 => ((ho3 y (by omega)).trans ((ho2 y (by omega)).trans (ho1 y (by omega))))), _, _, (by rw [List.length_append]; exact ha3), ((ho3 lt (by omega)).trans ((ho2 lt (by omega)).trans ha1)), ((ho3 ln (by omega)).trans ha2), (by rw [List.length_append, List.length_singleton]; omega), cWd_app hr1 hr2 hr3⟩
/-- after the words of the nodes from l to i are learnt -/
def kLP (M : xM) (ow rk ad : Nat → Nat) (ℓ : Nat → xLk) (μ : Nat → xMu) (A : List xNode) (l i : Nat) (v : Option Value) (M' : xM) : Prop := v = none ∧ M.1 ≤ M'.1 ∧ ∃ ow' : Nat → Nat, (∀ y, y < M.1 → ow' y = ow y) ∧ (∀ y, y < M.1 → ¬ (3 * l + 100 ≤ rk (ow y) ∧ rk (ow y) < 3 * i + 103) → M'.2 y = M.2 y) ∧ cA M' ow' rk ad (fun j => if l ≤ j ∧ j ≤ i then sLr A j else ℓ j) μ A
theorem lUp_1 {ℓ : Nat → xLk} {A : List xNode} {i : Nat} : lUp ℓ i (sLr A i) = fun j => if i ≤ j ∧ j ≤ i then sLr A j else ℓ j := by
  funext j
  by_cases h : j = i
  · rw [h, lUp_s, if_pos ⟨Nat.le_refl _, Nat.le_refl _⟩]
  · rw [lUp_n h, if_neg (by omega)]
theorem pOk_c {A : List xNode} {lo : Nat → Nat} (hO : ∀ (i : Nat) (q : xNode), A[i]? = some q → pOk A lo i q) : ∀ (i : Nat) (q : xNode), A[i]? = some q → (∀ c ∈ q.2.2.1, c < i) ∧ (q.1 = 4 → ∃ e, q.2.2.1 = [e]) := fun i q hq => ⟨fun c hc => ((pIv_le (hO i q hq).1).2 c hc).2.1, fun z => ((hO i q hq).2.2.2.2.1 z).1⟩
set_option maxRecDepth 20000 in
theorem kLwA {G : xG} (hg : xGood G) (hxn : xn = 16) {M : xM} {ow rk ad : Nat → Nat} {ℓ : Nat → xLk} {μ : Nat → xMu} {A : List xNode} {lo : Nat → Nat} {i : Nat} {q : xNode} (hk1 : rk 1 = 1) (hA : cA M ow rk ad ℓ μ A) (hO : ∀ (i : Nat) (q : xNode), A[i]? = some q → pOk A lo i q) (hq : A[i]? = some q) (hℓ : ℓ i = lk0) (hk : q.1 = 2 ∨ q.1 = 3) : XC G Y2_3 none 4 3 90 [.ref (ad i)] M (kLP M ow rk ad ℓ μ A i i) := by
  have hsl : sLr A i = (some [[]], lk0.2) := by
    rw [sLr_at A (pOk_c hO) i q hq]
    unfold sNode
    rw [if_neg (by omega), if_pos (by omega)]
    rfl
  have hN := hA i q hq
  rw [hℓ] at hN
  obtain ⟨X, hXe⟩ : ∃ X, ad i = X := ⟨_, rfl⟩
  rw [hXe] at hN ⊢
  obtain ⟨wv, hv, ⟨x1, x2, x3, x4⟩, -, k2, -⟩ := id hN
  have hv0 : wv = .null := by
    rcases hv with ⟨-, h⟩ | ⟨S, a, h, -⟩
    · exact h
    · cases h
  subst hv0
  obtain ⟨va, hva⟩ : ∃ va : Int32, (if q.1 = 2 then 1 else 0) = va := ⟨_, rfl⟩
  obtain ⟨ps, hps⟩ : ∃ ps, (μ i).1 = ps := ⟨_, rfl⟩
  have h_X := k2 hk
  rw [hva, hps] at h_X
  refine xc_of hg (by decide) (Nat.le_of_ble_eq_true rfl) (Or.inr (Or.inr (Or.inr (Or.inr (Or.inl ⟨rfl, rfl, fun v M' h => h.1⟩))))) ?_
  refine xj_aload_n (i := 0) d2_3_0 rfl rfl ?_
  refine xj_callS (rest := [.ref X]) (As := []) (cEmpty hg (M := M) (n := M.1) rfl (by omega) ) d2_3_1 wd12_2 w342 (Or.inl w753) rfl rfl (Nat.le_of_ble_eq_true rfl) (by omega) (by omega) (by omega) ?_
  rintro v M1 ⟨rfl, hs1, ho1, hf1_0, hf1_1, hf1_2⟩
  replace hs1 : M1.1 = M.1 + 3 := hs1
  replace hf1_0 : M1.2 M.1 = (.inr (8, [.ref (M.1 + 1), .ref (M.1 + 2), .int 1])) := hf1_0
  replace hf1_1 : M1.2 (M.1 + 1) = (.inl (1, 60, .inl (fun _ => 0))) := hf1_1
  replace hf1_2 : M1.2 (M.1 + 2) = (.inl (0, 5, .inl (fun _ => 0))) := hf1_2
  refine xj_put (a := X) (fs' := [.int va, .long ps, .ref M.1]) d2_3_4 f2_19_11 ((ho1 X (by omega)).trans h_X) (by omega) (show X < M1.1 by omega) (Nat.le_of_ble_eq_true rfl) rfl rfl rfl ?_
  refine xj_abs_set (fun M2 hs2 ha2 ho2 => ?_)
  have ho3 : ∀ y, y < M.1 → owN ow M.1 0 3 1 y = ow y := fun y hy => owN_o hy
  have hfr : ∀ y, y < M.1 → y ≠ X → M2.2 y = M.2 y := fun y hy hy2 => ((ho2 y (by omega)).trans (ho1 y (by omega)))
  have hcw : cV M2 (owN ow M.1 0 3 1) (.ref M.1) (some [[]]) := Or.inr ⟨_, _, rfl, rfl, cW_new (lt := M.1 + 1) (ln := M.1 + 2) ⟨by omega, by omega, by omega, by omega, by omega, by omega⟩ ⟨owN_1 (by omega) (by omega), owN_1 (by omega) (by omega), owN_1 (by omega) (by omega)⟩ ((ho2 M.1 (by omega)).trans hf1_0) ((ho2 (M.1 + 1) (by omega)).trans hf1_1) ((ho2 (M.1 + 2) (by omega)).trans hf1_2)⟩
  have hnw := cN_wd (M' := M2) (ow' := owN ow M.1 0 3 1) hN hk1 (by omega) (by omega) ho3 hfr (hx_of (l0 := [.int va, .long ps]) h_X ha2) hcw
  refine xj_ret d2_3_7 (by omega) (by omega) rfl ⟨rfl, by omega, owN ow M.1 0 3 1, ho3, fun y hy z => hfr y hy (fun e => z (by rw [e, x3, x4]; omega)), ?_⟩
  rw [← lUp_1]
  refine cA_up hA hk1 (by omega) ho3 (fun y hy z => hfr y hy (fun e => z (by rw [e, x3, x4]; omega))) (fun p hp => ?_)
  rw [hq] at hp
  have hpq : q = p := Option.some.inj hp
  rw [hsl, ← hpq, hXe]
  exact hnw
set_option maxRecDepth 20000 in
theorem kLsL {G : xG} (hg : xGood G) (hxn : xn = 16) {M0 : xM} {X o n : Nat} {z : Int64 × Int64} {ps : Int64} {cs : Nat → Bool} (hz : cB z cs) (h4 : bsum cs 95 ≤ 4) (x1 : 16 ≤ X) (x2 : X < o) (ho : o + 3 = n) {d ce se cells slots : Nat} {Post : Option Value → xM → Prop} (hd : 5 ≤ d) (hcc : cells ≤ ce) (hss : slots ≤ se) : ∀ (r k : Nat) (M : xM), k + r = 95 → M.1 = n → (∀ y, y ≠ X → y ≠ o → y ≠ o + 1 → y ≠ o + 2 → M.2 y = M0.2 y) → M.2 X = (.inr (10, [.long z.1, .long z.2, .long ps, .ref o])) → cWm M o (o + 1) (o + 2) (sLk cs k) → (∀ M' : xM, M'.1 = n → (∀ y, y ≠ X → y ≠ o → y ≠ o + 1 → y ≠ o + 2 → M'.2 y = M0.2 y) → M'.2 X = (.inr (10, [.long z.1, .long z.2, .long ps, .ref o])) → cWm M' o (o + 1) (o + 2) (sLk cs 95) → Post none M') → XJ G Y4_6 d ce se cells slots 34 [(1, .int (nI (k + 32))), (0, .ref X)] [] M Post := by
  intro r
  induction r with
  | zero =>
    intro k M hk hn hfr h_X hW K
    have hk5 : k = 95 := by omega
    subst hk5
    refine xj_iload_n (i := 1) d4_6_34 rfl rfl ?_
    refine xj_bipush (v := 126) d4_6_35 (by decide) ?_
    refine xj_icmp_gt (tgt := 65) d4_6_37 rfl (fun _ => ?_) (fun h => absurd (nI_lt (a := 126) (b := 95 + 32) (by omega) (by omega)) h)
    exact xj_ret d4_6_65 hcc hss rfl (K M hn hfr h_X hW)
  | succ r ih =>
    intro k M hk hn hfr h_X hW K
    obtain ⟨f9, g9, h_o, -⟩ := id hW
    have hlen := sLk_len cs k
    have hb1 := bsum_le cs (show k + 1 ≤ 95 by omega)
    have hxc : xbt z (k + 32) = cs k := by
      rw [hz (k + 32) (by omega), decide_eq_true (by omega), show k + 32 - 32 = k by omega]
      rfl
    by_cases hck : cs k = true
    · have hb2 : bsum cs (k + 1) = bsum cs k + 1 := by
        show bsum cs k + (bif cs k then 1 else 0) = _
        rw [hck]
        rfl
      have hcn : ¬ xbi (xbt z (k + 32)) = 0 := by
        rw [hxc, hck]
        decide
      refine xj_iload_n (i := 1) d4_6_34 rfl rfl ?_
      refine xj_bipush (v := 126) d4_6_35 (by decide) ?_
      refine xj_icmp_gt (tgt := 65) d4_6_37 rfl (fun h => absurd h (nI_nlt (a := 126) (b := k + 32) (by omega) (by omega))) (fun _ => ?_)
      refine xj_aload_n (i := 0) d4_6_40 rfl rfl ?_
      refine xj_iload_n (i := 1) d4_6_41 rfl rfl ?_
      refine xj_callV (rest := []) (As := [.int (nI (k + 32))]) (b := X) (xHasC hg (M := M) (n := n) (o := X) (q := z) (ps := ps) (wv := .ref o) (c := k + 32) (show M.1 = n by omega) (by omega) (by omega) (by omega) h_X (by omega)) d4_6_42 wd4_4 h_X (by omega) (show X < M.1 by omega) rfl s4_4 w768 (Or.inl w766) rfl rfl (Nat.le_of_ble_eq_true rfl) (by omega) (by omega) (by omega) ?_
      rintro v M' ⟨rfl, hm⟩
      subst M'
      refine xj_if_eq (tgt := 57) d4_6_45 rfl (fun h => absurd h hcn) (fun _ => ?_)
      refine xj_aload_n (i := 0) d4_6_48 rfl rfl ?_
      refine xj_get d4_6_49 f4_33_10 h_X (by omega) (show X < M.1 by omega) rfl ?_
      refine xj_iload_n (i := 1) d4_6_52 rfl rfl ?_
      refine xj_callV (rest := []) (As := [.int (nI (k + 32))]) (b := o) (wAl hg hxn (cc := k + 32) (by omega) (by omega) (by omega) (by omega) (by omega) (by omega) hW (by omega) (by omega) (sLk_new cs (by omega))) d4_6_53 wd12_5 h_o (by omega) (show o < M.1 by omega) rfl w772 w771 (Or.inl w770) rfl rfl (Nat.le_of_ble_eq_true rfl) (by omega) (by omega) (by omega) ?_
      rintro v MJ ⟨rfl, e1, e2, e3⟩
      have e2X : MJ.2 X = M.2 X := e2 X (by omega) (by omega) (by omega)
      refine xj_pop d4_6_56 rfl ?_
      refine xj_iload_n (i := 1) d4_6_57 rfl rfl ?_
      refine xj_iconst (v := 1) d4_6_58 (by decide) ?_
      refine xj_iadd (v := nI (k + 1 + 32)) d4_6_59 ((nI_1 (k + 32)).trans (congrArg nI (by omega))) ?_
      refine xj_i2c (v := nI (k + 1 + 32)) d4_6_60 ((show ∀ c, c < 200 → ((nI c).toUInt32 % 65536).toInt32 = nI c by decide +kernel) _ (by omega)) ?_
      refine xj_istore_n (i := 1) (L' := [(1, .int (nI (k + 1 + 32))), (0, .ref X)]) d4_6_61 rfl (by decide) rfl ?_
      refine xj_goto (tgt := 34) d4_6_62 rfl ?_
      exact ih (k + 1) MJ (by omega) (by omega) (fun y z1 z2 z3 z4 => (e2 y z2 z3 z4).trans (hfr y z1 z2 z3 z4)) (e2X.trans h_X) (by rw [sLk_s, if_pos hck]; exact e3) K
    · have hcf : cs k = false := Bool.eq_false_iff.mpr hck
      have hcn : xbi (xbt z (k + 32)) = 0 := by
        rw [hxc, hcf]
        rfl
      refine xj_iload_n (i := 1) d4_6_34 rfl rfl ?_
      refine xj_bipush (v := 126) d4_6_35 (by decide) ?_
      refine xj_icmp_gt (tgt := 65) d4_6_37 rfl (fun h => absurd h (nI_nlt (a := 126) (b := k + 32) (by omega) (by omega))) (fun _ => ?_)
      refine xj_aload_n (i := 0) d4_6_40 rfl rfl ?_
      refine xj_iload_n (i := 1) d4_6_41 rfl rfl ?_
      refine xj_callV (rest := []) (As := [.int (nI (k + 32))]) (b := X) (xHasC hg (M := M) (n := n) (o := X) (q := z) (ps := ps) (wv := .ref o) (c := k + 32) (show M.1 = n by omega) (by omega) (by omega) (by omega) h_X (by omega)) d4_6_42 wd4_4 h_X (by omega) (show X < M.1 by omega) rfl s4_4 w768 (Or.inl w766) rfl rfl (Nat.le_of_ble_eq_true rfl) (by omega) (by omega) (by omega) ?_
      rintro v M' ⟨rfl, hm⟩
      subst M'
      refine xj_if_eq (tgt := 57) d4_6_45 rfl (fun _ => ?_) (fun h => absurd hcn h)
      refine xj_iload_n (i := 1) d4_6_57 rfl rfl ?_
      refine xj_iconst (v := 1) d4_6_58 (by decide) ?_
      refine xj_iadd (v := nI (k + 1 + 32)) d4_6_59 ((nI_1 (k + 32)).trans (congrArg nI (by omega))) ?_
      refine xj_i2c (v := nI (k + 1 + 32)) d4_6_60 ((show ∀ c, c < 200 → ((nI c).toUInt32 % 65536).toInt32 = nI c by decide +kernel) _ (by omega)) ?_
      refine xj_istore_n (i := 1) (L' := [(1, .int (nI (k + 1 + 32))), (0, .ref X)]) d4_6_61 rfl (by decide) rfl ?_
      refine xj_goto (tgt := 34) d4_6_62 rfl ?_
      exact ih (k + 1) M (by omega) hn hfr h_X (by rw [sLk_s, if_neg hck]; exact hW) K
set_option maxRecDepth 20000 in
theorem kLwS {G : xG} (hg : xGood G) (hxn : xn = 16) {M : xM} {ow rk ad : Nat → Nat} {ℓ : Nat → xLk} {μ : Nat → xMu} {A : List xNode} {lo : Nat → Nat} {i : Nat} {q : xNode} (hk1 : rk 1 = 1) (hA : cA M ow rk ad ℓ μ A) (hO : ∀ (i : Nat) (q : xNode), A[i]? = some q → pOk A lo i q) (hq : A[i]? = some q) (hℓ : ℓ i = lk0) (hk : q.1 = 1) : XC G Y4_6 none 5 3 90 [.ref (ad i)] M (kLP M ow rk ad ℓ μ A i i) := by
  have hsl : sLr A i = (sSmall q.2.2.2.2.2, lk0.2) := by
    rw [sLr_at A (pOk_c hO) i q hq]
    unfold sNode
    rw [if_pos hk]
    rfl
  have hN := hA i q hq
  rw [hℓ] at hN
  obtain ⟨X, hXe⟩ : ∃ X, ad i = X := ⟨_, rfl⟩
  rw [hXe] at hN ⊢
  obtain ⟨wv, hv, ⟨x1, x2, x3, x4⟩, k1, -⟩ := id hN
  have hv0 : wv = .null := by
    rcases hv with ⟨-, h⟩ | ⟨S, a, h, -⟩
    · exact h
    · cases h
  subst hv0
  obtain ⟨z, h_X, hz⟩ := k1 hk
  obtain ⟨ps, hps⟩ : ∃ ps, (μ i).1 = ps := ⟨_, rfl⟩
  rw [hps] at h_X
  obtain ⟨cs, hcs⟩ : ∃ cs, q.2.2.2.2.2 = cs := ⟨_, rfl⟩
  rw [hcs] at hz hsl
  have hcnt := cB_cnt hz
  have hb95 : (sLet cs).length = bsum cs 95 := sLk_len cs 95
  have hbm : bsum cs 95 ≤ 95 := by
    rw [← bsum_len]
    exact Nat.le_trans (List.length_filter_le _ _) (by rw [List.length_range]; exact Nat.le_refl _)
  by_cases h4 : bsum cs 95 ≤ 4
  · have hsm : sSmall cs = some (sLk cs 95) := if_pos (by rw [hb95]; exact h4)
    refine xc_of hg (by decide) (Nat.le_of_ble_eq_true rfl) (Or.inr (Or.inr (Or.inr (Or.inr (Or.inl ⟨rfl, rfl, fun v M' h => h.1⟩))))) ?_
    refine xj_aload_n (i := 0) d4_6_0 rfl rfl ?_
    refine xj_get d4_6_1 f4_9_10 h_X (by omega) (show X < M.1 by omega) rfl ?_
    refine xj_callS (rest := []) (As := [.long z.1]) (xBc hg (M := M) (n := M.1) (x := z.1) rfl (by omega) ) d4_6_4 wd20_50 w759 (Or.inl w758) rfl rfl (Nat.le_of_ble_eq_true rfl) (by omega) (by omega) (by omega) ?_
    rintro v M' ⟨rfl, hm⟩
    subst M'
    refine xj_aload_n (i := 0) d4_6_7 rfl rfl ?_
    refine xj_get d4_6_8 f4_15_10 h_X (by omega) (show X < M.1 by omega) rfl ?_
    refine xj_callS (rest := [.int (nI (lCnt z.1))]) (As := [.long z.2]) (xBc hg (M := M) (n := M.1) (x := z.2) rfl (by omega) ) d4_6_11 wd20_50 w759 (Or.inl w758) rfl rfl (Nat.le_of_ble_eq_true rfl) (by omega) (by omega) (by omega) ?_
    rintro v M' ⟨rfl, hm⟩
    subst M'
    refine xj_iadd (v := nI (lCnt z.1 + (lCnt z.2))) d4_6_14 (nI_add (lCnt z.1) (lCnt z.2)) ?_
    refine xj_iconst (v := 4) d4_6_15 (by decide) ?_
    refine xj_icmp_le (tgt := 20) d4_6_16 rfl (fun _ => ?_) (fun h => absurd (nI_le (a := lCnt z.1 + (lCnt z.2)) (b := 4) (by omega) (by omega)) h)
    refine xj_aload_n (i := 0) d4_6_20 rfl rfl ?_
    refine xj_new (na := M.1) d4_6_21 n4_30 rfl (by omega) (by omega) ?_
    refine xj_abs_push rfl (fun M1 hs1 ha1 ho1 => ?_)
    refine xj_dup d4_6_24 rfl ?_
    refine xj_callI (rest := [.ref M.1, .ref X]) (As := []) (b := M.1) (cWords hg (M := M1) (n := M.1 + 1) (a := M.1) (show M1.1 = M.1 + 1 by omega) (by omega) (by omega) (by omega) ha1) d4_6_25 wd12_1 rfl w347 (Or.inr ⟨_, w765⟩) rfl rfl (Nat.le_of_ble_eq_true rfl) (by omega) (by omega) (by omega) ?_
    rintro v M2 ⟨rfl, hs2, ho2, hf2_0, hf2_1, hf2_2⟩
    replace hs2 : M2.1 = M.1 + 3 := hs2
    replace hf2_0 : M2.2 M.1 = (.inr (8, [.ref (M.1 + 1), .ref (M.1 + 2), .int 0])) := hf2_0
    replace hf2_1 : M2.2 (M.1 + 1) = (.inl (1, 60, .inl (fun _ => 0))) := hf2_1
    replace hf2_2 : M2.2 (M.1 + 2) = (.inl (0, 5, .inl (fun _ => 0))) := hf2_2
    refine xj_put (a := X) (fs' := [.long z.1, .long z.2, .long ps, .ref M.1]) d4_6_28 f4_33_10 ((ho2 X (by omega) (by omega)).trans ((ho1 X (by omega)).trans h_X)) (by omega) (show X < M2.1 by omega) (Nat.le_of_ble_eq_true rfl) rfl rfl rfl ?_
    refine xj_abs_set (fun M3 hs3 ha3 ho3 => ?_)
    refine xj_bipush (v := 32) d4_6_31 (by decide) ?_
    refine xj_istore_n (i := 1) (L' := [(1, .int 32), (0, .ref X)]) d4_6_33 rfl (by decide) rfl ?_
    have hW0 : cWm M3 M.1 (M.1 + 1) (M.1 + 2) (sLk cs 0) := ⟨_, _, ((ho3 M.1 (by omega)).trans hf2_0), ((ho3 (M.1 + 1) (by omega)).trans hf2_1), ((ho3 (M.1 + 2) (by omega)).trans hf2_2), Nat.zero_le _, fun _ => ⟨0, by decide, show (0 : Int32) = nI 0 by decide⟩, fun k s hs => absurd hs (by simp [sLk])⟩
    refine kLsL hg hxn (M0 := M3) (n := M.1 + 3) hz h4 (by omega) x2 rfl (by omega) (by omega) (by omega) 95 0 M3 rfl (by omega) (fun _ _ _ _ _ => rfl) ha3 hW0 (fun M9 e1 e2 e3 e4 => ?_)
    have hoW : ∀ y, y < M.1 → owN ow M.1 0 3 1 y = ow y := fun y hy => owN_o hy
    have hfr : ∀ y, y < M.1 → y ≠ X → M9.2 y = M.2 y := fun y hy hy2 => (e2 y hy2 (by omega) (by omega) (by omega)).trans ((ho3 y (by omega)).trans ((ho2 y (by omega) (by omega)).trans (ho1 y (by omega))))
    have hcw : cV M9 (owN ow M.1 0 3 1) (.ref M.1) (some (sLk cs 95)) := Or.inr ⟨_, _, rfl, rfl, cWm_W e4 ⟨by omega, by omega, by omega, by omega, by omega, by omega⟩ ⟨owN_1 (by omega) (by omega), owN_1 (by omega) (by omega), owN_1 (by omega) (by omega)⟩⟩
    have hnw := cN_wd (M' := M9) (ow' := owN ow M.1 0 3 1) hN hk1 (by omega) (by omega) hoW hfr (hx_of (l0 := [.long z.1, .long z.2, .long ps]) h_X e3) hcw
    refine ⟨rfl, by omega, owN ow M.1 0 3 1, hoW, fun y hy q => hfr y hy (fun e => q (by rw [e, x3, x4]; omega)), ?_⟩
    rw [← lUp_1]
    refine cA_up hA hk1 (by omega) hoW (fun y hy q => hfr y hy (fun e => q (by rw [e, x3, x4]; omega))) (fun p hp => ?_)
    rw [hq] at hp
    have hpq : q = p := Option.some.inj hp
    rw [hsl, hsm, ← hpq, hXe]
    exact hnw
  · have hsm : sSmall cs = none := if_neg (by rw [hb95]; exact h4)
    refine xc_of hg (by decide) (Nat.le_of_ble_eq_true rfl) (Or.inr (Or.inr (Or.inr (Or.inr (Or.inl ⟨rfl, rfl, fun v M' h => h.1⟩))))) ?_
    refine xj_aload_n (i := 0) d4_6_0 rfl rfl ?_
    refine xj_get d4_6_1 f4_9_10 h_X (by omega) (show X < M.1 by omega) rfl ?_
    refine xj_callS (rest := []) (As := [.long z.1]) (xBc hg (M := M) (n := M.1) (x := z.1) rfl (by omega) ) d4_6_4 wd20_50 w759 (Or.inl w758) rfl rfl (Nat.le_of_ble_eq_true rfl) (by omega) (by omega) (by omega) ?_
    rintro v M' ⟨rfl, hm⟩
    subst M'
    refine xj_aload_n (i := 0) d4_6_7 rfl rfl ?_
    refine xj_get d4_6_8 f4_15_10 h_X (by omega) (show X < M.1 by omega) rfl ?_
    refine xj_callS (rest := [.int (nI (lCnt z.1))]) (As := [.long z.2]) (xBc hg (M := M) (n := M.1) (x := z.2) rfl (by omega) ) d4_6_11 wd20_50 w759 (Or.inl w758) rfl rfl (Nat.le_of_ble_eq_true rfl) (by omega) (by omega) (by omega) ?_
    rintro v M' ⟨rfl, hm⟩
    subst M'
    refine xj_iadd (v := nI (lCnt z.1 + (lCnt z.2))) d4_6_14 (nI_add (lCnt z.1) (lCnt z.2)) ?_
    refine xj_iconst (v := 4) d4_6_15 (by decide) ?_
    refine xj_icmp_le (tgt := 20) d4_6_16 rfl (fun h => absurd h (nI_ge (a := 4) (b := lCnt z.1 + (lCnt z.2)) (by omega) (by omega))) (fun _ => ?_)
    refine xj_ret d4_6_19 (by omega) (by omega) rfl ⟨rfl, Nat.le_refl _, ow, fun _ _ => rfl, fun _ _ _ => rfl, ?_⟩
    rw [← lUp_1]
    refine cA_up hA hk1 (Nat.le_refl _) (fun _ _ => rfl) (fun _ _ _ => rfl) (fun p hp => ?_)
    rw [hq] at hp
    have hpq : q = p := Option.some.inj hp
    rw [hsl, hsm, ← hpq, hXe]
    exact hN

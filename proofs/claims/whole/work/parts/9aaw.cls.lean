/-- the places below e -/
def pB (e : Nat) : Int64 := ((1 : Int64) <<< ((nI e).toInt64 &&& 63)) - 1
theorem bS_pB {e : Nat} (he : e < 64) : bS (pB e) (fun j => j < e) := fun j hj => by
  unfold pB lb
  rw [Int64.toBitVec_sub, lb_tw e he]
  have hp : 0 < 2 ^ e := Nat.pow_pos (by decide)
  have hlt : 2 ^ e < 2 ^ 64 := Nat.pow_lt_pow_right (by decide) he
  have h1 : (BitVec.twoPow 64 e).toNat = 2 ^ e := by rw [BitVec.toNat_twoPow, Nat.mod_eq_of_lt hlt]
  have h2 : (BitVec.twoPow 64 e - (1 : Int64).toBitVec).toNat = 2 ^ e - 1 := by
    rw [BitVec.toNat_sub, h1, show (1 : Int64).toBitVec.toNat = 1 from by decide, show 2 ^ 64 - 1 + 2 ^ e = 2 ^ 64 + (2 ^ e - 1) by omega, Nat.add_mod_left, Nat.mod_eq_of_lt (by omega)]
  show (BitVec.twoPow 64 e - (1 : Int64).toBitVec).toNat.testBit j = true ↔ j < e
  rw [h2, Nat.testBit_two_pow_sub_one, decide_eq_true_iff]
set_option maxRecDepth 20000 in
theorem xPb {G : xG} (hg : xGood G) {M : xM} {n : Nat} (hn : M.1 = n) (hx : xn ≤ n) {e : Nat} : XC G Y1_22 (some .long) 0 0 0 [.int (nI e)] M (fun v M' => v = some (.long (pB e)) ∧ M' = M) := by
  refine xc_of hg (by decide) (Nat.le_of_ble_eq_true rfl) (Or.inr (Or.inr (Or.inr (Or.inl ⟨rfl, rfl, fun v M' h => ⟨_, h.1⟩⟩)))) ?_
  refine xj_lconst (v := 1) d1_22_0 (by decide) ?_
  refine xj_iload_n (i := 0) d1_22_1 rfl rfl ?_
  refine xj_lshl (v := 1 <<< ((nI e).toInt64 &&& 63)) d1_22_2 rfl ?_
  refine xj_lconst (v := 1) d1_22_3 (by decide) ?_
  refine xj_lsub (v := (1 <<< ((nI e).toInt64 &&& 63)) - 1) d1_22_4 rfl ?_
  exact xj_ret d1_22_5 (by omega) (by omega) rfl ⟨rfl, rfl⟩
theorem kGrp {r0 r1 : Nat} {ow rk ad : Nat → Nat} {A : List xNode} {M : xM} {μ : Nat → xMu} (hxn : xn = 16) (hS : kS r0 r1 ow rk ad A M μ) {rt : Nat} {qr : xNode} (hrt : A[rt]? = some qr) (hr6 : qr.1 = 6) : (52 ≤ ad rt ∧ ad rt < M.1) ∧ ∃ (bl lv : Nat) (wv : Value), M.2 (ad rt) = .inr (5, [.ref bl, .ref lv, wv]) := by
  obtain ⟨x1, x2, x3, x4⟩ := kS_at hxn hS hrt
  obtain ⟨wv, -, -, -, -, -, -, k6⟩ := hS.2.2.2 rt qr hrt
  obtain ⟨bl, lv, e1, -⟩ := k6 hr6
  exact ⟨⟨x4, by omega⟩, bl, lv, wv, e1⟩
theorem kRt {G : xG} (hg : xGood G) (hxn : xn = 16) {len : Nat} {ln : Nat → Nat} (hl40 : len ≤ 40) {r0 r1 : Nat} {ow rk ad : Nat → Nat} {A : List xNode} {lo : Nat → Nat} (hO : ∀ (i : Nat) (q : xNode), A[i]? = some q → pOk A lo i q) {rt : Nat} {qr : xNode} (hrt : A[rt]? = some qr) (hr6 : qr.1 = 6) : ∀ (M : xM) (μ : Nat → xMu) (x : Int64), kS r0 r1 ow rk ad A M μ → (∀ (c : Nat) (p : xNode), A[c]? = some p → eN len ln A (μ c) p) → bL len x → XC G Y5_7 (some .long) (3 * rt + 5) 0 0 [.ref (ad rt), .long x] M (fun v M' => ∃ y μ', v = some (.long y) ∧ bS y (rI (rY len ln A rt) len x) ∧ kS r0 r1 ow rk ad A M' μ' ∧ kG r0 r1 ow rk rt M M' ∧ (∀ (c : Nat) (p : xNode), A[c]? = some p → eN len ln A (μ' c) p) ∧ ∀ c9, rt < c9 → μ' c9 = μ c9) := fun M μ x hS hE hx => by
  have h := kRch hg hxn hl40 hO rt qr hrt M μ x hS hE hx
  rw [show yV_reach qr.1 = Y5_7 by unfold yV_reach; rw [hr6]; rfl] at h
  exact h
set_option maxRecDepth 20000 in
theorem kLeL {G : xG} (hg : xGood G) (hxn : xn = 16) {len : Nat} {ln : Nat → Nat} (hl40 : len ≤ 40) {r0 r1 : Nat} {ow rk ad : Nat → Nat} {A : List xNode} {lo : Nat → Nat} (hO : ∀ (i : Nat) (q : xNode), A[i]? = some q → pOk A lo i q) {rt : Nat} {qr : xNode} (hrt : A[rt]? = some qr) (hr6 : qr.1 = 6) {m : Nat} (hm1 : m ≤ len) (hm2 : ∃ j, (rY len ln A rt) m j) (hm3 : ∀ a j, a < m → ¬ (rY len ln A rt) a j) {W : Nat} (hWe : ad rt = W) {M0 : xM} {d ce se cells slots : Nat} (hd : 3 * rt + 6 ≤ d) (hcc : cells ≤ ce) (hss : slots ≤ se) : ∀ (t i : Nat) (M : xM) (μ : Nat → xMu), t ≤ 6 → kS r0 r1 ow rk ad A M μ → (∀ (c : Nat) (p : xNode), A[c]? = some p → eN len ln A (μ c) p) → kF r0 r1 M0 M → i ≤ m → m < i + 2 ^ t → XJ G Y1_31 d ce se cells slots 22 [(3, .int (nI (2 ^ t / 2))), (2, .int (nI i)), (0, .ref W), (1, .int (nI len))] [] M (fun v M' => ∃ μ', kS r0 r1 ow rk ad A M' μ' ∧ kF r0 r1 M0 M' ∧ (∀ (c : Nat) (p : xNode), A[c]? = some p → eN len ln A (μ' c) p) ∧ v = some (.int (nI m))) := by
  intro t
  induction t with
  | zero =>
    intro i M μ ht hS hE hF hi1 hi2
    have hi' : i = m := by omega
    subst hi'
    refine xj_iload_n (i := 3) d1_31_22 rfl rfl ?_
    refine xj_if_le (tgt := 59) d1_31_23 rfl (fun _ => ?_) (fun h => absurd (show nI (2 ^ 0 / 2) ≤ 0 by decide) h)
    refine xj_iload_n (i := 2) d1_31_59 rfl rfl ?_
    exact xj_ret d1_31_60 hcc hss rfl ⟨μ, hS, hF, hE, rfl⟩
  | succ t ih =>
    intro i M μ ht hS hE hF hi1 hi2
    replace ih := fun i M μ => ih i M μ (by omega)
    rw [show 2 ^ (t + 1) / 2 = 2 ^ t by rw [Nat.pow_succ]; omega]
    have hp32 : 2 ^ t ≤ 2 ^ 5 := Nat.pow_le_pow_right (by decide) (by omega)
    have hp0 : 0 < 2 ^ t := Nat.pow_pos (by decide)
    rw [Nat.pow_succ] at hi2
    obtain ⟨p, hp⟩ : ∃ p, 2 ^ t = p := ⟨_, rfl⟩
    rw [hp] at hp32 hp0 hi2 ⊢
    replace hp32 : p ≤ 32 := hp32
    obtain ⟨⟨w11, w21⟩, bl1, lv1, wv1, h_W1⟩ := kGrp hxn hS hrt hr6
    rw [hWe] at w11 w21 h_W1
    by_cases hc : len < i + p
    · skip
      refine xj_iload_n (i := 3) d1_31_22 rfl rfl ?_
      refine xj_if_le (tgt := 59) d1_31_23 rfl (fun h => absurd h (nI_nle (n := p) (by omega) (by omega))) (fun _ => ?_)
      refine xj_iload_n (i := 2) d1_31_26 rfl rfl ?_
      refine xj_iload_n (i := 3) d1_31_27 rfl rfl ?_
      refine xj_iadd (v := nI (i + p)) d1_31_28 (nI_add i p) ?_
      refine xj_iload_n (i := 1) d1_31_29 rfl rfl ?_
      refine xj_icmp_gt (tgt := 52) d1_31_30 rfl (fun _ => ?_) (fun h => absurd (nI_lt (a := len) (b := i + p) (by omega) (by omega)) h)
      refine xj_iload_n (i := 3) d1_31_52 rfl rfl ?_
      refine xj_iconst (v := 2) d1_31_53 (by decide) ?_
      refine xj_idiv (v := nI (p / 2)) d1_31_54 (by decide) (by rw [show (2 : Int32) = nI 2 from by decide]; exact pk_div (by omega) (by decide) (by decide)) ?_
      refine xj_istore_n (i := 3) (L' := [(3, .int (nI (p / 2))), (2, .int (nI i)), (0, .ref W), (1, .int (nI len))]) d1_31_55 rfl (by decide) rfl ?_
      refine xj_goto (tgt := 22) d1_31_56 rfl ?_
      refine xj_sub (L' := [(3, .int (nI (p / 2))), (2, .int (nI i)), (0, .ref W), (1, .int (nI len))]) (fun q hq => by simp only [List.mem_cons, List.not_mem_nil, or_false] at hq ⊢; rcases hq with rfl | rfl | rfl | rfl <;> simp) ?_
      have h9 := ih i M μ hS hE hF hi1 (by rw [hp]; omega)
      rw [hp] at h9
      exact h9
    · skip
      refine xj_iload_n (i := 3) d1_31_22 rfl rfl ?_
      refine xj_if_le (tgt := 59) d1_31_23 rfl (fun h => absurd h (nI_nle (n := p) (by omega) (by omega))) (fun _ => ?_)
      refine xj_iload_n (i := 2) d1_31_26 rfl rfl ?_
      refine xj_iload_n (i := 3) d1_31_27 rfl rfl ?_
      refine xj_iadd (v := nI (i + p)) d1_31_28 (nI_add i p) ?_
      refine xj_iload_n (i := 1) d1_31_29 rfl rfl ?_
      refine xj_icmp_gt (tgt := 52) d1_31_30 rfl (fun h => absurd h (nI_nlt (a := len) (b := i + p) (by omega) (by omega))) (fun _ => ?_)
      refine xj_aload_n (i := 0) d1_31_33 rfl rfl ?_
      refine xj_iload_n (i := 2) d1_31_34 rfl rfl ?_
      refine xj_iload_n (i := 3) d1_31_35 rfl rfl ?_
      refine xj_iadd (v := nI (i + p)) d1_31_36 (nI_add i p) ?_
      refine xj_callS (rest := [.ref W]) (As := [.int (nI (i + p))]) (xPb hg (M := M) (n := M.1) (e := i + p) rfl (by omega) ) d1_31_37 wd1_22 w908 (Or.inl w907) rfl rfl (Nat.le_of_ble_eq_true rfl) (by omega) (by omega) (by omega) ?_
      rintro v M' ⟨rfl, hm⟩
      subst M'
      refine xj_callV (rest := []) (As := [.long (pB (i + p))]) (b := W) (show XC G Y5_7 (some .long) (3 * rt + 5) 0 0 [.ref W, .long (pB (i + p))] M _ from hWe ▸ kRt hg hxn hl40 hO hrt hr6 M μ (pB (i + p)) hS hE (fun j hj hb => by have := (bS_pB (show i + p < 64 by omega) j hj).mp hb; omega)) d1_31_40 wd5_7 h_W1 (by omega) (show W < M.1 by omega) rfl w912 w911 (Or.inl w910) rfl rfl (Nat.le_of_ble_eq_true rfl) (by omega) (by omega) (by omega) ?_
      rintro v M2 ⟨y2, μ2, rfl, hB2, hS2, hF2, hE2, -⟩
      obtain ⟨⟨w12, w22⟩, bl2, lv2, wv2, h_W2⟩ := kGrp hxn hS2 hrt hr6
      rw [hWe] at w12 w22 h_W2
      refine xj_lconst (v := 0) d1_31_43 (by decide) ?_
      refine xj_lcmp (v := lg_cmp y2 0) d1_31_44 rfl ?_
      refine xj_if_ne (tgt := 52) d1_31_45 rfl (fun hz9 => ?_) (fun hz9 => ?_)
      · refine xj_iload_n (i := 3) d1_31_52 rfl rfl ?_
        refine xj_iconst (v := 2) d1_31_53 (by decide) ?_
        refine xj_idiv (v := nI (p / 2)) d1_31_54 (by decide) (by rw [show (2 : Int32) = nI 2 from by decide]; exact pk_div (by omega) (by decide) (by decide)) ?_
        refine xj_istore_n (i := 3) (L' := [(3, .int (nI (p / 2))), (2, .int (nI i)), (0, .ref W), (1, .int (nI len))]) d1_31_55 rfl (by decide) rfl ?_
        refine xj_goto (tgt := 22) d1_31_56 rfl ?_
        refine xj_sub (L' := [(3, .int (nI (p / 2))), (2, .int (nI i)), (0, .ref W), (1, .int (nI len))]) (fun q hq => by simp only [List.mem_cons, List.not_mem_nil, or_false] at hq ⊢; rcases hq with rfl | rfl | rfl | rfl <;> simp) ?_
        have h9 := ih i M2 μ2 hS2 hE2 (kF_t hF hF2.1) hi1 (by
          rw [hp]
          obtain ⟨j9, a9, a1, a2, a3⟩ := (bS_ne hB2 (fun j ⟨a, a1, _, a3⟩ => by have := (rY_le a3 a1).2; omega)).mp (xlcmp_ne hz9)
          have h5 := (bS_pB (show i + p < 64 by omega) a9 (by omega)).mp a2
          exact Classical.byContradiction fun w => hm3 a9 j9 (by omega) a3)
        rw [hp] at h9
        exact h9
      · refine xj_iload_n (i := 2) d1_31_48 rfl rfl ?_
        refine xj_iload_n (i := 3) d1_31_49 rfl rfl ?_
        refine xj_iadd (v := nI (i + p)) d1_31_50 (nI_add i p) ?_
        refine xj_istore_n (i := 2) (L' := [(2, .int (nI (i + p))), (3, .int (nI p)), (0, .ref W), (1, .int (nI len))]) d1_31_51 rfl (by decide) rfl ?_
        refine xj_iload_n (i := 3) d1_31_52 rfl rfl ?_
        refine xj_iconst (v := 2) d1_31_53 (by decide) ?_
        refine xj_idiv (v := nI (p / 2)) d1_31_54 (by decide) (by rw [show (2 : Int32) = nI 2 from by decide]; exact pk_div (by omega) (by decide) (by decide)) ?_
        refine xj_istore_n (i := 3) (L' := [(3, .int (nI (p / 2))), (2, .int (nI (i + p))), (0, .ref W), (1, .int (nI len))]) d1_31_55 rfl (by decide) rfl ?_
        refine xj_goto (tgt := 22) d1_31_56 rfl ?_
        refine xj_sub (L' := [(3, .int (nI (p / 2))), (2, .int (nI (i + p))), (0, .ref W), (1, .int (nI len))]) (fun q hq => by simp only [List.mem_cons, List.not_mem_nil, or_false] at hq ⊢; rcases hq with rfl | rfl | rfl | rfl <;> simp) ?_
        have h9 := ih (i + p) M2 μ2 hS2 hE2 (kF_t hF hF2.1) (Classical.byContradiction fun w => by
          obtain ⟨j9, hj9⟩ := hm2
          exact bS_z hB2 (xlcmp_eq hz9) j9 (by have := (rY_le hj9 hm1).2; omega) ⟨m, hm1, (bS_pB (show i + p < 64 by omega) m (by omega)).mpr (by omega), hj9⟩) (by rw [hp]; omega)
        rw [hp] at h9
        exact h9
theorem xj_post {G : xG} {Y : xY} {d ce se cells slots pc : Nat} {L : List (Nat × Value)} {st : List Value} {M : xM} {P Q : Option Value → xM → Prop} (h : XJ G Y d ce se cells slots pc L st M P) (hPQ : ∀ v M', P v M' → Q v M') : XJ G Y d ce se cells slots pc L st M Q := by
  intro p e R s m args below meth c H locs Q' ls hC hR hq hl kk
  exact h p e R s m args below meth c H locs Q' ls hC hR hq hl (fun v M' H' locs' pc' ls' hp => kk v M' H' locs' pc' ls' (hPQ v M' hp))
set_option maxRecDepth 20000 in
theorem kLst {G : xG} (hg : xGood G) (hxn : xn = 16) {len : Nat} {ln : Nat → Nat} (hl40 : len ≤ 40) {r0 r1 : Nat} {ow rk ad : Nat → Nat} {A : List xNode} {lo : Nat → Nat} (hO : ∀ (i : Nat) (q : xNode), A[i]? = some q → pOk A lo i q) {rt : Nat} {qr : xNode} (hrt : A[rt]? = some qr) (hr6 : qr.1 = 6) {W : Nat} (hWe : ad rt = W) {M : xM} {μ : Nat → xMu} (hS : kS r0 r1 ow rk ad A M μ) (hE : (∀ (c : Nat) (p : xNode), A[c]? = some p → eN len ln A (μ c) p)) : XC G Y1_31 (some .int) (3 * rt + 6) 0 0 [.ref W, .int (nI len)] M (fun v M' => ∃ μ', kS r0 r1 ow rk ad A M' μ' ∧ kF r0 r1 M M' ∧ (∀ (c : Nat) (p : xNode), A[c]? = some p → eN len ln A (μ' c) p) ∧ ((v = some (.int (-1)) ∧ ∀ a j, a ≤ len → ¬ (rY len ln A rt) a j) ∨ ∃ m, v = some (.int (nI m)) ∧ m ≤ len ∧ (∃ j, (rY len ln A rt) m j) ∧ ∀ a j, a < m → ¬ (rY len ln A rt) a j)) := by
  obtain ⟨⟨w11, w21⟩, bl1, lv1, wv1, h_W1⟩ := kGrp hxn hS hrt hr6
  rw [hWe] at w11 w21 h_W1
  refine xc_of hg (by decide) (Nat.le_of_ble_eq_true rfl) (Or.inl ⟨rfl, rfl, fun v M' h => by obtain ⟨_, _, _, _, h⟩ := h; rcases h with ⟨h, -⟩ | ⟨m, h, -⟩; exact ⟨_, h⟩; exact ⟨_, h⟩⟩) ?_
  refine xj_aload_n (i := 0) d1_31_0 rfl rfl ?_
  refine xj_iload_n (i := 1) d1_31_1 rfl rfl ?_
  refine xj_iconst (v := 1) d1_31_2 (by decide) ?_
  refine xj_iadd (v := nI (len + 1)) d1_31_3 (nI_1 _) ?_
  refine xj_callS (rest := [.ref W]) (As := [.int (nI (len + 1))]) (xPb hg (M := M) (n := M.1) (e := len + 1) rfl (by omega) ) d1_31_4 wd1_22 w908 (Or.inl w907) rfl rfl (Nat.le_of_ble_eq_true rfl) (by omega) (by omega) (by omega) ?_
  rintro v M' ⟨rfl, hm⟩
  subst M'
  refine xj_callV (rest := []) (As := [.long (pB (len + 1))]) (b := W) (show XC G Y5_7 (some .long) (3 * rt + 5) 0 0 [.ref W, .long (pB (len + 1))] M _ from hWe ▸ kRt hg hxn hl40 hO hrt hr6 M μ (pB (len + 1)) hS hE (fun j hj hb => by have := (bS_pB (show len + 1 < 64 by omega) j hj).mp hb; omega)) d1_31_7 wd5_7 h_W1 (by omega) (show W < M.1 by omega) rfl w912 w911 (Or.inl w910) rfl rfl (Nat.le_of_ble_eq_true rfl) (by omega) (by omega) (by omega) ?_
  rintro v M2 ⟨y2, μ2, rfl, hB2, hS2, hF2, hE2, -⟩
  obtain ⟨⟨w12, w22⟩, bl2, lv2, wv2, h_W2⟩ := kGrp hxn hS2 hrt hr6
  rw [hWe] at w12 w22 h_W2
  refine xj_lconst (v := 0) d1_31_10 (by decide) ?_
  refine xj_lcmp (v := lg_cmp y2 0) d1_31_11 rfl ?_
  refine xj_if_ne (tgt := 17) d1_31_12 rfl (fun hz9 => ?_) (fun hz9 => ?_)
  · refine xj_iconst (v := 0) d1_31_17 (by decide) ?_
    refine xj_istore_n (i := 2) (L' := [(2, .int 0), (0, .ref W), (1, .int (nI len))]) d1_31_18 rfl (by decide) rfl ?_
    refine xj_bipush (v := 32) d1_31_19 (by decide) ?_
    refine xj_istore_n (i := 3) (L' := [(3, .int 32), (2, .int 0), (0, .ref W), (1, .int (nI len))]) d1_31_21 rfl (by decide) rfl ?_
    refine xj_sub (L' := [(3, .int 32), (2, .int 0), (0, .ref W), (1, .int (nI len))]) (fun q hq => by simp only [List.mem_cons, List.not_mem_nil, or_false] at hq ⊢; rcases hq with rfl | rfl | rfl | rfl <;> simp) ?_
    obtain ⟨j9, a9, a1, a2, a3⟩ := (bS_ne hB2 (fun j ⟨a, a1, _, a3⟩ => by have := (rY_le a3 a1).2; omega)).mp (xlcmp_ne hz9)
    obtain ⟨m, m1, ⟨j8, m2⟩, m3⟩ := xlst1 (P := fun a => ∃ j, (rY len ln A rt) a j) a9 ⟨j9, a3⟩
    have h9 := kLeL hg hxn hl40 hO hrt hr6 (m := m) (by omega) ⟨j8, m2⟩ (fun a j ha hz => m3 a ha ⟨j, hz⟩) hWe (M0 := M) (d := 3 * rt + 6) (Nat.le_refl _) (Nat.le_refl 0) (Nat.le_refl 0) 6 0 M2 μ2 (by omega) hS2 hE2 hF2.1 (by omega) (by omega)
    exact xj_post h9 (fun v M' ⟨μ', e1, e2, e3, e4⟩ => ⟨μ', e1, e2, e3, Or.inr ⟨m, e4, by omega, ⟨j8, m2⟩, fun a j ha hz => m3 a ha ⟨j, hz⟩⟩⟩)
  · refine xj_iconst (v := (-1)) d1_31_15 (by decide) ?_
    exact xj_ret d1_31_16 (by omega) (by omega) rfl ⟨μ2, hS2, hF2.1, hE2, Or.inl ⟨rfl, fun a j ha hz => bS_z hB2 (xlcmp_eq hz9) j (by have := (rY_le hz ha).2; omega) ⟨a, ha, (bS_pB (show len + 1 < 64 by omega) a (by omega)).mpr (by omega), hz⟩⟩⟩

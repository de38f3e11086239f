set_option maxRecDepth 20000 in
theorem rOne {G : xG} (hg : xGood G) (hxn : xn = 16) {dl pl vc tk hc sn : Nat} {y33 y36 y37 y38 y39 : Int32} {fp : Nat → Int32} {M0 M : xM} (h52 : 52 ≤ M0.1) (hpl : pl ≤ 24) (hPR : ∀ j, j < pl → ∃ u1, u1 < 95 ∧ fp j = nI (u1 + 32)) {a : Nat} {A : List xNode} {t : List Nat × List Nat} {r : List (List Nat × List Nat)} (hR0 : mR dl pl vc tk hc sn y33 y36 y37 y38 y39 fp M0 M (a, 0, A, t :: r)) (hlt : a < pl) (hK : pKk (a, 0, A, t :: r)) : XC G Y14_38 none 8 0 0 [.ref 24] M (fun v M' => v = none ∧ mX dl pl vc tk hc sn y33 y36 y37 y38 y39 fp M0 M' (pOne fp pl (a, 0, A, t :: r))) := by
  obtain ⟨⟨i1, i2⟩, k32, np, kd, ch, nx, be, lo, hi, wt, cs, fP, lP, fB, lB, hnp, k24, k33, k34, k35, k36, k37, k38, k39, k40, k41, k42, k43, k44, hA, hW⟩ := id hR0
  subst hnp
  replace k24 : M.2 24 = (.inr (12, [.ref 25, .ref 26, .ref 27, .ref 28, .ref 29, .ref 30, .int (nI sn), .int (nI vc), .int (nI tk), .ref 31, .int (nI dl), .ref 32, .int (nI pl), .int (nI A.length), .ref 33, .ref 34, .ref 35, .ref 36, .ref 37, .ref 38, .ref 39, .ref 40, .int (nI a), .int (nI r.length), .int 0, .ref 41, .ref 42, .ref 43, .ref 44, .ref 45, .ref 46, .ref 47, .ref 48, .int y33, .ref 49, .ref 50, .int y36, .int y37, .int y38, .int y39, .int (nI hc), .ref 51])) := k24
  obtain ⟨g1, g2, g3⟩ := pW_tag hW
  obtain ⟨n, hn⟩ : ∃ n, M.1 = n := ⟨_, rfl⟩
  have hn2 : 52 ≤ n := by omega
  refine xc_of hg (by decide) (Nat.le_of_ble_eq_true rfl) (Or.inr (Or.inr (Or.inr (Or.inr (Or.inl ⟨rfl, rfl, fun v M' h => h.1⟩))))) ?_
  refine xj_aload_n (i := 0) d14_38_0 rfl rfl ?_
  refine xj_iconst (v := 0) d14_38_1 (by decide) ?_
  refine xj_callV (rest := []) (As := [.int 0]) (b := 24) (mAhead0 hg (M := M) (n := n) (dl := dl) (pl := pl) (vc := vc) (tk := tk) (hc := hc) (sn := sn) (y24 := 0) (y33 := y33) (y36 := y36) (y37 := y37) (y38 := y38) (y39 := y39) (np := A.length) (a := a) (dp := r.length) (fp := fp) (show M.1 = n by omega) (by omega) (by omega) (by omega) k24 (by omega) (by omega) k32 (by omega) hpl) d14_38_2 wd14_19 k24 (by omega) (show 24 < M.1 by omega) rfl s14_19 w1216 (Or.inl w1214) rfl rfl (Nat.le_of_ble_eq_true rfl) (by omega) (by omega) (by omega) ?_
  rintro v M' ⟨rfl, hm⟩
  subst M'
  refine xj_istore_n (i := 1) (L' := [(1, .int (pch fp pl a)), (0, .ref 24)]) d14_38_5 rfl (by decide) rfl ?_
  refine xj_aload_n (i := 0) d14_38_6 rfl rfl ?_
  refine xj_dup d14_38_7 rfl ?_
  refine xj_get d14_38_8 f14_133_12 k24 (by omega) (show 24 < M.1 by omega) rfl ?_
  refine xj_iconst (v := 1) d14_38_11 (by decide) ?_
  refine xj_iadd (v := nI (a + 1)) d14_38_12 (nI_1 a) ?_
  refine xj_put (a := 24) (fs' := [.ref 25, .ref 26, .ref 27, .ref 28, .ref 29, .ref 30, .int (nI sn), .int (nI vc), .int (nI tk), .ref 31, .int (nI dl), .ref 32, .int (nI pl), .int (nI A.length), .ref 33, .ref 34, .ref 35, .ref 36, .ref 37, .ref 38, .ref 39, .ref 40, .int (nI (a + 1)), .int (nI r.length), .int 0, .ref 41, .ref 42, .ref 43, .ref 44, .ref 45, .ref 46, .ref 47, .ref 48, .int y33, .ref 49, .ref 50, .int y36, .int y37, .int y38, .int y39, .int (nI hc), .ref 51]) d14_38_13 f14_133_12 k24 (by omega) (show 24 < M.1 by omega) (Nat.le_of_ble_eq_true rfl) rfl rfl rfl ?_
  refine xj_abs_set (fun M1 hs1 ha1 ho1 => ?_)
  have hR1 := mR_at (k := 1) hR0 (show a + 1 ≤ 24 by omega) rfl (show M1.1 = M.1 by omega) (fun j hj => (ho1 j (by omega))) ha1
  obtain ⟨uc, huc1, huc2⟩ := hPR a hlt
  exact rOneC hg hxn h52 hpl hPR (a := a + 1) hR1 (by omega) (by omega) (pKk_nd hK) (c := pch fp pl a) huc1 ((if_pos hlt).trans huc2) (by omega) (by omega) (by omega) (fun M' h => ⟨rfl, h⟩)
theorem rRunF {G : xG} (hxn : xn = 16) {dl pl vc tk hc sn : Nat} {y33 y36 y37 y38 y39 : Int32} {fp : Nat → Int32} {M0 M : xM} (h52 : 52 ≤ M0.1) {x : Int32} {d ce se cells slots : Nat} {Post : Option Value → xM → Prop} (hf : mRf dl pl vc tk hc sn y33 y36 y37 y38 y39 fp M0 M x) (hx0 : ¬ x = 0) (K : XJ G Y14_40 d ce se cells slots 49 [(0, .ref 24)] [] M Post) : XJ G Y14_40 d ce se cells slots 24 [(0, .ref 24)] [] M Post := by
  obtain ⟨⟨i1, -⟩, k32, y13, y22, y23, -, -, -, -, -, -, -, -, -, -, -, -, k24, -⟩ := hf
  refine xj_aload_n (i := 0) d14_40_24 rfl rfl ?_
  refine xj_get d14_40_25 f14_133_12 k24 (by omega) (show 24 < M.1 by omega) rfl ?_
  refine xj_aload_n (i := 0) d14_40_28 rfl rfl ?_
  refine xj_get d14_40_29 f14_130_12 k24 (by omega) (show 24 < M.1 by omega) rfl ?_
  refine xj_icmp_ge (tgt := 49) d14_40_32 rfl (fun hb => ?_) (fun hb => ?_)
  · exact K
  · refine xj_aload_n (i := 0) d14_40_35 rfl rfl ?_
    refine xj_get d14_40_36 f14_156_12 k24 (by omega) (show 24 < M.1 by omega) rfl ?_
    refine xj_if_ne (tgt := 49) d14_40_39 rfl (fun _ => ?_) (fun h => absurd h hx0)
    exact K
theorem mR_form {dl pl vc tk hc sn : Nat} {y33 y36 y37 y38 y39 : Int32} {fp : Nat → Int32} {M0 M : xM} {σ : xSg} (h : mR dl pl vc tk hc sn y33 y36 y37 y38 y39 fp M0 M σ) (h0 : σ.2.1 = 0) : ∃ a A t r, σ = (a, 0, A, t :: r) := by
  obtain ⟨-, -, np9, -, -, -, -, -, -, -, -, -, -, -, -, -, -, -, -, -, -, -, -, -, -, -, -, -, -, -, hW9⟩ := h
  obtain ⟨a, x, A, L⟩ := σ
  have hx : x = 0 := h0
  subst hx
  cases L with
  | nil => exact absurd rfl hW9.1
  | cons t r => exact ⟨a, A, t, r, rfl⟩
set_option maxHeartbeats 1000000 in
theorem rRunL {G : xG} (hg : xGood G) (hxn : xn = 16) {dl pl vc tk hc sn : Nat} {y33 y36 y37 y38 y39 : Int32} {fp : Nat → Int32} {M0 : xM} (h52 : 52 ≤ M0.1) (hpl : pl ≤ 24) (hPR : ∀ j, j < pl → ∃ u1, u1 < 95 ∧ fp j = nI (u1 + 32)) {d ce se cells slots : Nat} {Post : Option Value → xM → Prop} (hd : 9 ≤ d) (hcc : cells ≤ ce) (hss : slots ≤ se) : ∀ (m a : Nat) (A : List xNode) (t : List Nat × List Nat) (r : List (List Nat × List Nat)) (M : xM), mR dl pl vc tk hc sn y33 y36 y37 y38 y39 fp M0 M (a, 0, A, t :: r) → pKk (a, 0, A, t :: r) → pl ≤ a + m → a ≤ pl → (∀ M' : xM, mX dl pl vc tk hc sn y33 y36 y37 y38 y39 fp M0 M' (pRun fp pl m (a, 0, A, t :: r)) → XJ G Y14_40 d ce se cells slots 49 [(0, .ref 24)] [] M' Post) → XJ G Y14_40 d ce se cells slots 24 [(0, .ref 24)] [] M Post := by
  intro m
  induction m with
  | zero =>
    intro a A t r M hB hK hm hap K
    obtain ⟨np, hnp, k24⟩ := mR_24 hB
    have hnp' : np = A.length := hnp
    subst hnp'
    replace k24 : M.2 24 = (.inr (12, [.ref 25, .ref 26, .ref 27, .ref 28, .ref 29, .ref 30, .int (nI sn), .int (nI vc), .int (nI tk), .ref 31, .int (nI dl), .ref 32, .int (nI pl), .int (nI A.length), .ref 33, .ref 34, .ref 35, .ref 36, .ref 37, .ref 38, .ref 39, .ref 40, .int (nI a), .int (nI r.length), .int 0, .ref 41, .ref 42, .ref 43, .ref 44, .ref 45, .ref 46, .ref 47, .ref 48, .int y33, .ref 49, .ref 50, .int y36, .int y37, .int y38, .int y39, .int (nI hc), .ref 51])) := k24
    have i1 := hB.1.1
    have hW24 : a ≤ 24 := by omega
    have hr7 : r.length ≤ 6 := by
      obtain ⟨-, -, np9, -, -, -, -, -, -, -, -, -, -, -, -, -, -, -, -, -, -, -, -, -, -, -, -, -, -, -, hW9⟩ := id hB
      exact (pW_tag hW9).2.2
    have hset : pRun fp pl 0 (a, 0, A, t :: r) = (a, 0, A, t :: r) := rfl
    refine xj_aload_n (i := 0) d14_40_24 rfl rfl ?_
    refine xj_get d14_40_25 f14_133_12 k24 (by omega) (show 24 < M.1 by omega) rfl ?_
    refine xj_aload_n (i := 0) d14_40_28 rfl rfl ?_
    refine xj_get d14_40_29 f14_130_12 k24 (by omega) (show 24 < M.1 by omega) rfl ?_
    refine xj_icmp_ge (tgt := 49) d14_40_32 rfl (fun _ => ?_) (fun h => absurd (nI_le (a := pl) (b := a) (by omega) (by omega)) h)
    exact K M (by rw [hset]; exact ⟨fun _ => hB, fun q => absurd rfl q⟩)
  | succ m ih =>
    intro a A t r M hB hK hm hap K
    obtain ⟨np, hnp, k24⟩ := mR_24 hB
    have hnp' : np = A.length := hnp
    subst hnp'
    replace k24 : M.2 24 = (.inr (12, [.ref 25, .ref 26, .ref 27, .ref 28, .ref 29, .ref 30, .int (nI sn), .int (nI vc), .int (nI tk), .ref 31, .int (nI dl), .ref 32, .int (nI pl), .int (nI A.length), .ref 33, .ref 34, .ref 35, .ref 36, .ref 37, .ref 38, .ref 39, .ref 40, .int (nI a), .int (nI r.length), .int 0, .ref 41, .ref 42, .ref 43, .ref 44, .ref 45, .ref 46, .ref 47, .ref 48, .int y33, .ref 49, .ref 50, .int y36, .int y37, .int y38, .int y39, .int (nI hc), .ref 51])) := k24
    have i1 := hB.1.1
    have hW24 : a ≤ 24 := by omega
    have hr7 : r.length ≤ 6 := by
      obtain ⟨-, -, np9, -, -, -, -, -, -, -, -, -, -, -, -, -, -, -, -, -, -, -, -, -, -, -, -, -, -, -, hW9⟩ := id hB
      exact (pW_tag hW9).2.2
    by_cases hlt : a < pl
    · have hset : pRun fp pl (m + 1) (a, 0, A, t :: r) = pRun fp pl m (pOne fp pl (a, 0, A, t :: r)) := if_pos ⟨hlt, rfl⟩
      have hk9 := pOneC_k (fp := fp) (pl := pl) (c := pch fp pl a) (σ := (a + 1, 0, A, t :: r)) (show a + 1 ≤ pl by omega) hK
      have hnext : ∀ M8 : xM, mX dl pl vc tk hc sn y33 y36 y37 y38 y39 fp M0 M8 (pOne fp pl (a, 0, A, t :: r)) → XJ G Y14_40 d ce se cells slots 24 [(0, .ref 24)] [] M8 Post := by
        intro M8 hX8
        by_cases hz : (pOne fp pl (a, 0, A, t :: r)).2.1 = 0
        · have hR8 := hX8.1 hz
          have hle := hk9.2 hz
          have hKk := hk9.1
          obtain ⟨a', A', t', r', hform⟩ := mR_form hR8 hz
          have hform2 : pOneC fp pl (pch fp pl a) (a + 1, 0, A, t :: r) = (a', 0, A', t' :: r') := hform
          rw [hform] at hR8
          rw [hform2] at hle hKk
          have hle1 : a + 1 ≤ a' := hle.1
          have hle2 : a' ≤ pl := hle.2
          refine ih a' A' t' r' M8 hR8 hKk (by omega) hle2 (fun M' h9 => K M' ?_)
          rw [hset, hform]
          exact h9
        · have hset2 : pRun fp pl m (pOne fp pl (a, 0, A, t :: r)) = pOne fp pl (a, 0, A, t :: r) := by
            cases m with
            | zero => rfl
            | succ m => exact if_neg (fun q => hz q.2)
          refine rRunF hxn h52 (hX8.2 hz) hz (K M8 ?_)
          rw [hset, hset2]
          exact hX8
      refine xj_aload_n (i := 0) d14_40_24 rfl rfl ?_
      refine xj_get d14_40_25 f14_133_12 k24 (by omega) (show 24 < M.1 by omega) rfl ?_
      refine xj_aload_n (i := 0) d14_40_28 rfl rfl ?_
      refine xj_get d14_40_29 f14_130_12 k24 (by omega) (show 24 < M.1 by omega) rfl ?_
      refine xj_icmp_ge (tgt := 49) d14_40_32 rfl (fun h => absurd h (nI_ge (a := a) (b := pl) (by omega) (by omega))) (fun _ => ?_)
      refine xj_aload_n (i := 0) d14_40_35 rfl rfl ?_
      refine xj_get d14_40_36 f14_156_12 k24 (by omega) (show 24 < M.1 by omega) rfl ?_
      refine xj_if_ne (tgt := 49) d14_40_39 rfl (fun h => absurd (by decide) h) (fun _ => ?_)
      refine xj_aload_n (i := 0) d14_40_42 rfl rfl ?_
      refine xj_callV (rest := []) (As := []) (b := 24) (rOne hg hxn h52 hpl hPR hB hlt hK) d14_40_43 wd14_38 k24 (by omega) (show 24 < M.1 by omega) rfl s14_38 w1212 (Or.inl w1210) rfl rfl (Nat.le_of_ble_eq_true rfl) (by omega) (by omega) (by omega) ?_
      rintro v M8 ⟨rfl, hX8⟩
      refine xj_goto (tgt := 24) d14_40_46 rfl ?_
      exact hnext M8 hX8
    · have hset : pRun fp pl (m + 1) (a, 0, A, t :: r) = (a, 0, A, t :: r) := if_neg (fun q => hlt q.1)
      refine xj_aload_n (i := 0) d14_40_24 rfl rfl ?_
      refine xj_get d14_40_25 f14_133_12 k24 (by omega) (show 24 < M.1 by omega) rfl ?_
      refine xj_aload_n (i := 0) d14_40_28 rfl rfl ?_
      refine xj_get d14_40_29 f14_130_12 k24 (by omega) (show 24 < M.1 by omega) rfl ?_
      refine xj_icmp_ge (tgt := 49) d14_40_32 rfl (fun _ => ?_) (fun h => absurd (nI_le (a := pl) (b := a) (by omega) (by omega)) h)
      exact K M (by rw [hset]; exact ⟨fun _ => hB, fun q => absurd rfl q⟩)

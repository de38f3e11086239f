/-- a class's name stands at a -/
def pStd (fp : Nat → Int32) (pl a i : Nat) : Prop := ∀ k, k < 9 → pch fp pl (a + k) = xjc i k
theorem pStd_iff {fp : Nat → Int32} {pl a i : Nat} {c1 c2 c3 c4 c5 : Int32} (hx : xjc i 0 = 91 ∧ xjc i 1 = 58 ∧ xjc i 2 = c1 ∧ xjc i 3 = c2 ∧ xjc i 4 = c3 ∧ xjc i 5 = c4 ∧ xjc i 6 = c5 ∧ xjc i 7 = 58 ∧ xjc i 8 = 93) (h0 : pch fp pl a = 91) (h1 : pch fp pl (a + 1) = 58) : pStd fp pl a i ↔ pNam fp pl (a + 2) c1 c2 c3 c4 c5 := by
  obtain ⟨x0, x1, x2, x3, x4, x5, x6, x7, x8⟩ := hx
  refine ⟨fun h => ⟨(h 2 (by decide)).trans x2, (h 3 (by decide)).trans x3, (h 4 (by decide)).trans x4, (h 5 (by decide)).trans x5, (h 6 (by decide)).trans x6, (h 7 (by decide)).trans x7, (h 8 (by decide)).trans x8⟩, fun h k hk => ?_⟩
  obtain ⟨h2, h3, h4, h5, h6, h7, h8⟩ := h
  match k, hk with
  | 0, _ => exact h0.trans x0.symm
  | 1, _ => exact h1.trans x1.symm
  | 2, _ => exact h2.trans x2.symm
  | 3, _ => exact h3.trans x3.symm
  | 4, _ => exact h4.trans x4.symm
  | 5, _ => exact h5.trans x5.symm
  | 6, _ => exact h6.trans x6.symm
  | 7, _ => exact h7.trans x7.symm
  | 8, _ => exact h8.trans x8.symm
  | k + 9, h => exact absurd h (by omega)
set_option maxRecDepth 20000 in
theorem kStandL {G : xG} (hg : xGood G) (hxn : xn = 16) (hSC : xSC G) {M : xM} {rd gw pl a ga og : Nat} {ft : Int32} {px fp : Nat → Int32} {i : Nat} (h1 : 16 ≤ rd) (h2 : rd < M.1) (h3 : 18 < M.1) (hrd : M.2 rd = (.inr (4, [.ref gw, .int ft, .ref 18, .int (nI pl), .int (nI a), .ref ga, .int (nI og)]))) (h18 : M.2 18 = (.inl (1, 24, .inl px))) (ha9 : a ≤ 24) (hpl : pl ≤ 24) (hpx : ∀ j, j < pl → px j = fp j) (hPR : ∀ j, j < pl → ∃ u1, u1 < 95 ∧ fp j = nI (u1 + 32)) (hi5 : i < 5) (h9 : xjl.getD i 0 = 9) {d ce se cells slots : Nat} (hd : 4 ≤ d) (hcc : cells ≤ ce) (hss : slots ≤ se) : ∀ r k : Nat, k + r = 9 → (∀ j, j < k → pch fp pl (a + j) = xjc i j) → XJ G Y8_18 d ce se cells slots 2 [(2, .int (nI k)), (0, .ref rd), (1, .ref (i + 2))] [] M (fun v M' => v = some (.int (xB (pStd fp pl a i))) ∧ M' = M) := by
  intro r
  induction r with
  | zero =>
    intro k hk hno
    refine xj_iload_n (i := 2) d8_18_2 rfl rfl ?_
    refine xj_aload_n (i := 1) d8_18_3 rfl rfl ?_
    refine xj_callVs (i := i) (rest := [.int (nI k)]) (As := []) hSC hi5 (sLen hg (M := M) (n := M.1) (i := i) rfl (by omega) hSC hi5) d8_18_4 wd22_54 w555 w554 (Or.inl w684) rfl rfl (Nat.le_of_ble_eq_true rfl) (by omega) (by omega) (by omega) ?_
    rintro v M' ⟨rfl, hm⟩
    subst M'
    refine xj_icmp_ge (tgt := 36) d8_18_7 rfl (fun _ => ?_) (fun h => absurd (nI_le (a := xjl.getD i 0) (b := k) (by omega) (by omega)) h)
    refine xj_iconst (v := 1) d8_18_36 (by decide) ?_
    exact xj_ret d8_18_37 hcc hss rfl ⟨by rw [xB_t (show pStd fp pl a i from fun j hj => hno j (by omega))], rfl⟩
  | succ r ih =>
    intro k hk hno
    refine xj_iload_n (i := 2) d8_18_2 rfl rfl ?_
    refine xj_aload_n (i := 1) d8_18_3 rfl rfl ?_
    refine xj_callVs (i := i) (rest := [.int (nI k)]) (As := []) hSC hi5 (sLen hg (M := M) (n := M.1) (i := i) rfl (by omega) hSC hi5) d8_18_4 wd22_54 w555 w554 (Or.inl w684) rfl rfl (Nat.le_of_ble_eq_true rfl) (by omega) (by omega) (by omega) ?_
    rintro v M' ⟨rfl, hm⟩
    subst M'
    refine xj_icmp_ge (tgt := 36) d8_18_7 rfl (fun h => absurd h (nI_ge (a := k) (b := xjl.getD i 0) (by omega) (by omega))) (fun _ => ?_)
    refine xj_aload_n (i := 0) d8_18_10 rfl rfl ?_
    refine xj_aload_n (i := 0) d8_18_11 rfl rfl ?_
    refine xj_get d8_18_12 f8_30_4 hrd (by omega) (show rd < M.1 by omega) rfl ?_
    refine xj_iload_n (i := 2) d8_18_15 rfl rfl ?_
    refine xj_iadd (v := nI (a + k)) d8_18_16 (nI_add a k) ?_
    refine xj_callV (rest := []) (As := [.int (nI (a + k))]) (b := rd) (xPeekV hg hxn (M := M) (k := a + k) (V := pch fp pl (a + k)) (by omega) (by omega) (by omega) hrd h18 (by omega) hpl hpx hPR rfl) d8_18_17 wd8_6 hrd (by omega) (show rd < M.1 by omega) rfl s8_6 w532 (Or.inl w530) rfl rfl (Nat.le_of_ble_eq_true rfl) (by omega) (by omega) (by omega) ?_
    rintro v M' ⟨rfl, hm⟩
    subst M'
    refine xj_aload_n (i := 1) d8_18_20 rfl rfl ?_
    refine xj_iload_n (i := 2) d8_18_21 rfl rfl ?_
    refine xj_callVs (i := i) (rest := [.int (pch fp pl (a + k))]) (As := [.int (nI k)]) hSC hi5 (sAt hg (M := M) (n := M.1) (i := i) (k := k) rfl (by omega) hSC hi5 (by omega)) d8_18_22 wd22_56 w687 w686 (Or.inl w685) rfl rfl (Nat.le_of_ble_eq_true rfl) (by omega) (by omega) (by omega) ?_
    rintro v M' ⟨rfl, hm⟩
    subst M'
    refine xj_icmp_eq (tgt := 30) d8_18_25 rfl (fun hq => ?_) (fun hq => ?_)
    · refine xj_iinc (v := nI (k + 1)) (L' := [(2, .int (nI (k + 1))), (0, .ref rd), (1, .ref (i + 2))]) d8_18_30 rfl (xinc _) (by decide) rfl ?_
      refine xj_goto (tgt := 2) d8_18_33 rfl ?_
      exact ih (k + 1) (by omega) (fun j hj => if z : j = k then by rw [z]; exact hq else hno j (by omega))
    · refine xj_iconst (v := 0) d8_18_28 (by decide) ?_
      exact xj_ret d8_18_29 hcc hss rfl ⟨by rw [xB_f (show ¬ pStd fp pl a i from fun z => hq (z k (by omega)))], rfl⟩
theorem kStand {G : xG} (hg : xGood G) (hxn : xn = 16) (hSC : xSC G) {M : xM} {rd gw pl a ga og : Nat} {ft : Int32} {px fp : Nat → Int32} {i : Nat} (h1 : 16 ≤ rd) (h2 : rd < M.1) (h3 : 18 < M.1) (hrd : M.2 rd = (.inr (4, [.ref gw, .int ft, .ref 18, .int (nI pl), .int (nI a), .ref ga, .int (nI og)]))) (h18 : M.2 18 = (.inl (1, 24, .inl px))) (ha9 : a ≤ 24) (hpl : pl ≤ 24) (hpx : ∀ j, j < pl → px j = fp j) (hPR : ∀ j, j < pl → ∃ u1, u1 < 95 ∧ fp j = nI (u1 + 32)) (hi5 : i < 5) (h9 : xjl.getD i 0 = 9) : XC G Y8_18 (some .boolean) 4 0 0 [.ref rd, .ref (i + 2)] M (fun v M' => v = some (.int (xB (pStd fp pl a i))) ∧ M' = M) := by
  refine xc_of hg (by decide) (Nat.le_of_ble_eq_true rfl) (Or.inr (Or.inl ⟨rfl, rfl, fun v M' h => ⟨_, h.1, xB_01 _⟩⟩)) ?_
  refine xj_iconst (v := 0) d8_18_0 (by decide) ?_
  refine xj_istore_n (i := 2) (L' := [(2, .int 0), (0, .ref rd), (1, .ref (i + 2))]) d8_18_1 rfl (by decide) rfl ?_
  exact kStandL hg hxn hSC h1 h2 h3 hrd h18 ha9 hpl hpx hPR hi5 h9 (by omega) (by omega) (by omega) 9 0 rfl (fun j hj => absurd hj (by omega))
/-- a set that is being read, not yet in a list -/
def cI (rd : Nat) (M0 : xM) (pl S : Nat) (M : xM) (σ : xSg) (cs : Nat → Bool) : Prop := ∃ (gs : Nat) (fg : Nat → Option Nat) (ow rk ad gA bA : Nat → Nat) (μ : Nat → xMu), cH rd M0 pl gs fg ow rk ad gA bA μ M σ ∧ (M0.1 ≤ S ∧ S < M.1 ∧ ow S = S ∧ rk S = 3 * σ.2.2.1.length + 100) ∧ ∃ z : Int64 × Int64, M.2 S = .inr (10, [.long z.1, .long z.2, .long 0, .null]) ∧ cB z cs
theorem cH_fl {R : Nat} {M0 M M' : xM} {pl gs : Nat} {fg : Nat → Option Nat} {ow rk ad gA bA : Nat → Nat} {μ : Nat → xMu} {a S : Nat} {x : Int32} {A : List xNode} {t : List Nat × List Nat} {r : List (List Nat × List Nat)} (h : cH R M0 pl gs fg ow rk ad gA bA μ M (a, x, A, t :: r)) (hr : r.length ≤ 6) (hS0 : M0.1 ≤ S) (hS1 : ow S = S) (hS : rk S = 3 * A.length + 100) (hm : M'.1 = M.1) (hf : ∀ y, y < M.1 → y ≠ S → M'.2 y = M.2 y) : cH R M0 pl gs fg ow rk ad gA bA μ M' (a, x, A, t :: r) := by
  obtain ⟨⟨i1, i2, i3⟩, ⟨r1, r2, r3, r4, r5, r6⟩, ⟨o1, o2, o3⟩, kR, kg, kf, kL, kN⟩ := h
  have ff : ∀ y, y < M.1 → rk (ow y) ≠ 3 * A.length + 100 → M'.2 y = M.2 y := fun y hl hy => hf y hl (fun z => hy (by rw [z, hS1]; exact hS))
  have f1 : ∀ y, y < M.1 → ow y = 1 → M'.2 y = M.2 y := fun y hl hy => ff y hl (by rw [hy, o3]; omega)
  have f0 : ∀ y, y < M.1 → ow y = 0 → M'.2 y = M.2 y := fun y hl hy => ff y hl (by rw [hy, o2]; omega)
  refine ⟨⟨i1, by omega, fun j hj => (hf j (by omega) (by omega)).trans (i3 j hj)⟩, ⟨r1, by omega, r3, by omega, r5, r6⟩, ⟨o1, o2, o3⟩, (f0 R r2 r5).trans kR, (f0 gs r4 r6).trans kg, kf, fun e v hv => ?_, fun i p hp => ?_⟩
  · have he9 : e < r.length + 1 := by
      unfold plv at hv
      split at hv
      · assumption
      · cases hv
    refine cL_fr (kL e v hv) (by omega) (fun _ _ => rfl) (fun y hy _ _ => rfl) (fun y hy z => ?_) (fun _ _ => rfl) (fun _ _ => rfl)
    rcases z with z | z
    · exact ff y hy (by omega)
    · exact f1 y hy z
  · have hi : i < A.length := (List.getElem?_eq_some_iff.mp hp).1
    refine cN_mv (kN i p hp) (by omega) (fun _ _ => rfl) (fun y hy _ _ => rfl) (fun y hy z => ?_)
    rcases z with z | z
    · exact ff y hy (by omega)
    · exact f1 y hy z
theorem cI_open {rd : Nat} {M0 M : xM} {pl S a : Nat} {A : List xNode} {t : List Nat × List Nat} {r : List (List Nat × List Nat)} {cs : Nat → Bool} (h : cI rd M0 pl S M (a, 0, A, t :: r) cs) (hr : r.length ≤ 6) : ∃ ga gw z, M.2 rd = cRo pl ga gw 0 a r.length ∧ (52 ≤ rd ∧ rd < M.1 ∧ 52 ≤ M0.1 ∧ M0.1 ≤ S ∧ S < M.1 ∧ rd ≠ S ∧ M0.1 ≤ M.1 ∧ M0.1 ≤ rd) ∧ (∀ y, y < M0.1 → M.2 y = M0.2 y) ∧ M.2 S = .inr (10, [.long z.1, .long z.2, .long 0, .null]) ∧ cB z cs ∧ (∀ (M' : xM) (a' : Nat) (z' : Int64 × Int64) (cs' : Nat → Bool), M'.1 = M.1 → M'.2 rd = cRo pl ga gw 0 a' r.length → M'.2 S = .inr (10, [.long z'.1, .long z'.2, .long 0, .null]) → cB z' cs' → (∀ y, y < M.1 → y ≠ rd → y ≠ S → M'.2 y = M.2 y) → cI rd M0 pl S M' (a', 0, A, t :: r) cs') ∧ ∀ (M' : xM) (x : Int32), M'.1 = M.1 → M'.2 rd = cRo pl ga gw x a r.length → a ≤ 1000 → (∀ y, y < M.1 → y ≠ rd → y ≠ S → M'.2 y = M.2 y) → cF rd M0 pl M' x := by
  obtain ⟨ga, fg, ow, rk, ad, gA, bA, μ, hH, ⟨s1, s2, s3, s4⟩, z, k1, k2⟩ := h
  obtain ⟨⟨i1, i2, i3⟩, ⟨r1, r2, r3, r4, r5, r6⟩, ⟨o1, o2, o3⟩, kR, kg, kf, kL, kN⟩ := id hH
  have s4' : rk S = 3 * A.length + 100 := s4
  have kR' : M.2 rd = .inr (4, _) := kR
  have hne : rd ≠ S := xne_cl kR' k1 (by decide)
  refine ⟨ga, gA 0, z, kR, ⟨by omega, r2, i1, s1, s2, hne, i2, r1⟩, i3, k1, k2, fun M' a' z' cs' e1 e2 e3 e4 e5 => ?_, fun M' x e1 e2 e3 e5 => ⟨⟨i1, by omega, fun j hj => (e5 j (by omega) (by omega) (by omega)).trans (i3 j hj)⟩, ⟨r1, by omega⟩, ga, gA 0, a, r.length, e2, e3⟩⟩
  have hM2 : cH rd M0 pl ga fg ow rk ad gA bA μ (M.1, fun y => if y = rd then cRo pl ga (gA 0) 0 a' r.length else M.2 y) (a', 0, A, t :: r) := cH_at hH rfl (if_pos rfl) (fun y hy => if_neg hy)
  refine ⟨ga, fg, ow, rk, ad, gA, bA, μ, cH_fl hM2 hr s1 s3 s4' e1 (fun y hlt hy => ?_), ⟨s1, by omega, s3, s4⟩, z', e3, e4⟩
  show M'.2 y = if y = rd then _ else M.2 y
  by_cases q : y = rd
  · rw [if_pos q, q]
    exact e2
  · rw [if_neg q]
    exact e5 y hlt q hy
theorem kStandV {G : xG} (hg : xGood G) (hxn : xn = 16) (hSC : xSC G) {M : xM} {rd gw pl a ga og : Nat} {ft : Int32} {px fp : Nat → Int32} {i : Nat} (h1 : 16 ≤ rd) (h2 : rd < M.1) (h3 : 18 < M.1) (hrd : M.2 rd = (.inr (4, [.ref gw, .int ft, .ref 18, .int (nI pl), .int (nI a), .ref ga, .int (nI og)]))) (h18 : M.2 18 = (.inl (1, 24, .inl px))) (ha9 : a ≤ 24) (hpl : pl ≤ 24) (hpx : ∀ j, j < pl → px j = fp j) (hPR : ∀ j, j < pl → ∃ u1, u1 < 95 ∧ fp j = nI (u1 + 32)) (hi5 : i < 5) (h9 : xjl.getD i 0 = 9) {V : Int32} (hV : xB (pStd fp pl a i) = V) : XC G Y8_18 (some .boolean) 4 0 0 [.ref rd, .ref (i + 2)] M (fun v M' => v = some (.int V) ∧ M' = M) := by
  rw [← hV]
  exact kStand hg hxn hSC h1 h2 h3 hrd h18 ha9 hpl hpx hPR hi5 h9
theorem pCls_a {fp : Nat → Int32} {pl k : Nat} {cs : Nat → Bool} (h1 : pAlp fp pl k) (h4 : ¬ pDgt fp pl k) : pCls fp pl k cs = pOr (pOr cs 97 122) 65 90 := by
  funext j
  unfold pCls pOr
  simp [h1, h4]
theorem pCls_0 {fp : Nat → Int32} {pl k : Nat} {cs : Nat → Bool} {l u d : Bool} (hl : l = true ↔ (pAlp fp pl k ∨ pLow fp pl k)) (hu : u = true ↔ (pAlp fp pl k ∨ pUpp fp pl k)) (hd : d = true ↔ pDgt fp pl k) : pCls fp pl k cs = (fun c1 => if d = true then pOr c1 48 57 else c1) ((fun c2 => if u = true then pOr c2 65 90 else c2) (if l = true then pOr cs 97 122 else cs)) := by
  funext j
  unfold pCls
  cases l <;> cases u <;> cases d <;> simp_all [pOr]
set_option maxRecDepth 20000 in
set_option maxHeartbeats 4000000 in
theorem kClass {G : xG} (hg : xGood G) (hxn : xn = 16) (hSC : xSC G) {px fp : Nat → Int32} {rd : Nat} {M0 M : xM} {pl S a : Nat} {A : List xNode} {t : List Nat × List Nat} {r : List (List Nat × List Nat)} {cs : Nat → Bool} (hpl : pl ≤ 24) (hpx : ∀ j, j < pl → px j = fp j) (hPR : ∀ j, j < pl → ∃ u1, u1 < 95 ∧ fp j = nI (u1 + 32)) (h18 : M0.2 18 = (.inl (1, 24, .inl px))) (hr : r.length ≤ 6) (hI : cI rd M0 pl S M (a, 0, A, t :: r) cs) (hap : a < pl) (h0 : pch fp pl a = 91) (h1 : pch fp pl (a + 1) = 58) : XC G Y8_17 none 5 0 0 [.ref rd, .ref S] M (fun v M' => v = none ∧ ((pItem fp pl (a, 0, cs)).2.1 = 0 → cI rd M0 pl S M' ((pItem fp pl (a, 0, cs)).1, 0, A, t :: r) (pItem fp pl (a, 0, cs)).2.2) ∧ (¬ (pItem fp pl (a, 0, cs)).2.1 = 0 → cF rd M0 pl M' (pItem fp pl (a, 0, cs)).2.1)) := by
  obtain ⟨ga9, gw9, z, kR, ⟨e1, e2, e3, e4, e5, e6, e7, e8⟩, cfr, kS, kB, hgo, hfa⟩ := cI_open hI hr
  replace kR : M.2 rd = (.inr (4, [.ref gw9, .int 0, .ref 18, .int (nI pl), .int (nI a), .ref ga9, .int (nI r.length)])) := kR
  have k18 : M.2 18 = (.inl (1, 24, .inl px)) := (cfr 18 (by omega)).trans h18
  by_cases pd : pDgt fp pl (a + 2)
  · by_cases pa : pAlp fp pl (a + 2)
    · skip
      have sa : pStd fp pl a 1 := (pStd_iff (c1 := 97) (c2 := 108) (c3 := 112) (c4 := 104) (c5 := 97) (by decide +kernel) h0 h1).mpr pa
      have sd : pStd fp pl a 4 := (pStd_iff (c1 := 100) (c2 := 105) (c3 := 103) (c4 := 105) (c5 := 116) (by decide +kernel) h0 h1).mpr pd
      refine xc_of hg (by decide) (Nat.le_of_ble_eq_true rfl) (Or.inr (Or.inr (Or.inr (Or.inr (Or.inl ⟨rfl, rfl, fun v M' h => h.1⟩))))) ?_
      refine xj_aload_n (i := 0) d8_17_0 rfl rfl ?_
      refine xj_ldcS (a := 3) hSC.2.2.2.2.1 d8_17_1 ?_
      refine xj_callV (rest := []) (As := [.ref 3]) (b := rd) (kStandV hg hxn hSC (i := 1) (V := 1) (by omega) (by omega) (by omega) kR k18 (by omega) hpl hpx hPR (by decide) (by decide) (xB_t sa)) d8_17_3 wd8_18 kR (by omega) (show rd < M.1 by omega) rfl s8_18 w682 (Or.inl w680) rfl rfl (Nat.le_of_ble_eq_true rfl) (by omega) (by omega) (by omega) ?_
      rintro v M' ⟨rfl, hm⟩
      subst M'
      refine xj_istore_n (i := 2) (L' := [(2, .int 1), (0, .ref rd), (1, .ref S)]) d8_17_6 rfl (by decide) rfl ?_
      refine xj_iload_n (i := 2) d8_17_7 rfl rfl ?_
      refine xj_if_ne (tgt := 20) d8_17_8 rfl (fun _ => ?_) (fun h => absurd h (by decide))
      refine xj_iconst (v := 1) d8_17_20 (by decide) ?_
      refine xj_goto (tgt := 25) d8_17_21 rfl ?_
      refine xj_istore_n (i := 3) (L' := [(3, .int 1), (2, .int 1), (0, .ref rd), (1, .ref S)]) d8_17_25 rfl (by decide) rfl ?_
      refine xj_iload_n (i := 2) d8_17_26 rfl rfl ?_
      refine xj_if_ne (tgt := 39) d8_17_27 rfl (fun _ => ?_) (fun h => absurd h (by decide))
      refine xj_iconst (v := 1) d8_17_39 (by decide) ?_
      refine xj_goto (tgt := 44) d8_17_40 rfl ?_
      refine xj_istore (i := 4) (L' := [(4, .int 1), (3, .int 1), (2, .int 1), (0, .ref rd), (1, .ref S)]) d8_17_44 (by decide) rfl ?_
      refine xj_aload_n (i := 0) d8_17_46 rfl rfl ?_
      refine xj_ldcS (a := 6) hSC.2.2.2.2.2.2.2 d8_17_47 ?_
      refine xj_callV (rest := []) (As := [.ref 6]) (b := rd) (kStandV hg hxn hSC (i := 4) (V := 1) (by omega) (by omega) (by omega) kR k18 (by omega) hpl hpx hPR (by decide) (by decide) (xB_t sd)) d8_17_49 wd8_18 kR (by omega) (show rd < M.1 by omega) rfl s8_18 w682 (Or.inl w680) rfl rfl (Nat.le_of_ble_eq_true rfl) (by omega) (by omega) (by omega) ?_
      rintro v M' ⟨rfl, hm⟩
      subst M'
      refine xj_istore (i := 5) (L' := [(5, .int 1), (4, .int 1), (3, .int 1), (2, .int 1), (0, .ref rd), (1, .ref S)]) d8_17_52 (by decide) rfl ?_
      refine xj_iload_n (i := 3) d8_17_54 rfl rfl ?_
      refine xj_if_eq (tgt := 66) d8_17_55 rfl (fun h => absurd h (by decide)) (fun _ => ?_)
      refine xj_aload_n (i := 1) d8_17_58 rfl rfl ?_
      refine xj_bipush (v := 97) d8_17_59 (by decide) ?_
      refine xj_bipush (v := 122) d8_17_61 (by decide) ?_
      refine xj_callV (rest := []) (As := [.int 97, .int 122]) (b := S) (xList hg hxn (M := M) (n := M.1) (u0 := 97) (v0 := 122) (q := z) rfl (by omega) (by omega) (by omega) kS (by omega) (by omega)) d8_17_63 wd4_2 kS (by omega) (show S < M.1 by omega) rfl w645 w644 (Or.inl w643) rfl rfl (Nat.le_of_ble_eq_true rfl) (by omega) (by omega) (by omega) ?_
      rintro v M1 ⟨rfl, hs1, ho1, ha1⟩
      refine xj_iload (i := 4) d8_17_66 rfl ?_
      refine xj_if_eq (tgt := 79) d8_17_68 rfl (fun h => absurd h (by decide)) (fun _ => ?_)
      refine xj_aload_n (i := 1) d8_17_71 rfl rfl ?_
      refine xj_bipush (v := 65) d8_17_72 (by decide) ?_
      refine xj_bipush (v := 90) d8_17_74 (by decide) ?_
      refine xj_callV (rest := []) (As := [.int 65, .int 90]) (b := S) (xList hg hxn (M := M1) (n := M.1) (u0 := 65) (v0 := 90) (q := (xLs2 97 (122 + 1 - 97) z)) (show M1.1 = M.1 by omega) (by omega) (by omega) (by omega) ha1 (by omega) (by omega)) d8_17_76 wd4_2 ha1 (by omega) (show S < M1.1 by omega) rfl w645 w644 (Or.inl w643) rfl rfl (Nat.le_of_ble_eq_true rfl) (by omega) (by omega) (by omega) ?_
      rintro v M2 ⟨rfl, hs2, ho2, ha2⟩
      refine xj_iload (i := 5) d8_17_79 rfl ?_
      refine xj_if_eq (tgt := 92) d8_17_81 rfl (fun h => absurd h (by decide)) (fun _ => ?_)
      refine xj_aload_n (i := 1) d8_17_84 rfl rfl ?_
      refine xj_bipush (v := 48) d8_17_85 (by decide) ?_
      refine xj_bipush (v := 57) d8_17_87 (by decide) ?_
      refine xj_callV (rest := []) (As := [.int 48, .int 57]) (b := S) (xList hg hxn (M := M2) (n := M.1) (u0 := 48) (v0 := 57) (q := (xLs2 65 (90 + 1 - 65) (xLs2 97 (122 + 1 - 97) z))) (show M2.1 = M.1 by omega) (by omega) (by omega) (by omega) ha2 (by omega) (by omega)) d8_17_89 wd4_2 ha2 (by omega) (show S < M2.1 by omega) rfl w645 w644 (Or.inl w643) rfl rfl (Nat.le_of_ble_eq_true rfl) (by omega) (by omega) (by omega) ?_
      rintro v M3 ⟨rfl, hs3, ho3, ha3⟩
      refine xj_iload_n (i := 3) d8_17_92 rfl rfl ?_
      refine xj_if_ne (tgt := 106) d8_17_93 rfl (fun _ => ?_) (fun h => absurd h (by decide))
      refine xj_aload_n (i := 0) d8_17_106 rfl rfl ?_
      refine xj_dup d8_17_107 rfl ?_
      refine xj_get d8_17_108 f8_30_4 ((ho3 rd (by omega)).trans ((ho2 rd (by omega)).trans ((ho1 rd (by omega)).trans kR))) (by omega) (show rd < M3.1 by omega) rfl ?_
      refine xj_bipush (v := 9) d8_17_111 (by decide) ?_
      refine xj_iadd (v := nI (a + 9)) d8_17_113 (nI_add a 9) ?_
      refine xj_put (a := rd) (fs' := [.ref gw9, .int 0, .ref 18, .int (nI pl), .int (nI (a + 9)), .ref ga9, .int (nI r.length)]) d8_17_114 f8_30_4 ((ho3 rd (by omega)).trans ((ho2 rd (by omega)).trans ((ho1 rd (by omega)).trans kR))) (by omega) (show rd < M3.1 by omega) (Nat.le_of_ble_eq_true rfl) rfl rfl rfl ?_
      refine xj_abs_set (fun M4 hs4 ha4 ho4 => ?_)
      refine xj_goto (tgt := 125) d8_17_117 rfl ?_
      have hp9 : pItem fp pl (a, 0, cs) = (a + 9, 0, pCls fp pl (a + 2) cs) := (if_pos ⟨h0, h1⟩).trans (if_pos (Or.inl pa))
      have hcs := pCls_0 (fp := fp) (pl := pl) (k := a + 2) (cs := cs) (l := true) (u := true) (d := true) ⟨fun _ => Or.inl pa, fun _ => rfl⟩ ⟨fun _ => Or.inl pa, fun _ => rfl⟩ ⟨fun _ => pd, fun _ => rfl⟩
      exact xj_ret d8_17_125 (by omega) (by omega) rfl ⟨rfl, by rw [hp9]; exact ⟨fun _ => hgo M4 (a + 9) _ _ (by omega) ha4 ((ho4 S (by omega)).trans ha3) (by rw [hcs]; exact (cB_ls (u := 48) (v := 57) (cB_ls (u := 65) (v := 90) (cB_ls (u := 97) (v := 122) kB (by decide) (by decide) (by decide)) (by decide) (by decide) (by decide)) (by decide) (by decide) (by decide))) (fun y hlt hy hyS => ((ho4 y (by omega)).trans ((ho3 y (by omega)).trans ((ho2 y (by omega)).trans (ho1 y (by omega)))))), fun q => absurd rfl q⟩⟩
    · have na := pa
      by_cases pl9 : pLow fp pl (a + 2)
      · by_cases pu : pUpp fp pl (a + 2)
        · skip
          have sa : ¬ pStd fp pl a 1 := fun q => na ((pStd_iff (c1 := 97) (c2 := 108) (c3 := 112) (c4 := 104) (c5 := 97) (by decide +kernel) h0 h1).mp q)
          have sl : pStd fp pl a 2 := (pStd_iff (c1 := 108) (c2 := 111) (c3 := 119) (c4 := 101) (c5 := 114) (by decide +kernel) h0 h1).mpr pl9
          have su : pStd fp pl a 3 := (pStd_iff (c1 := 117) (c2 := 112) (c3 := 112) (c4 := 101) (c5 := 114) (by decide +kernel) h0 h1).mpr pu
          have sd : pStd fp pl a 4 := (pStd_iff (c1 := 100) (c2 := 105) (c3 := 103) (c4 := 105) (c5 := 116) (by decide +kernel) h0 h1).mpr pd
          refine xc_of hg (by decide) (Nat.le_of_ble_eq_true rfl) (Or.inr (Or.inr (Or.inr (Or.inr (Or.inl ⟨rfl, rfl, fun v M' h => h.1⟩))))) ?_
          refine xj_aload_n (i := 0) d8_17_0 rfl rfl ?_
          refine xj_ldcS (a := 3) hSC.2.2.2.2.1 d8_17_1 ?_
          refine xj_callV (rest := []) (As := [.ref 3]) (b := rd) (kStandV hg hxn hSC (i := 1) (V := 0) (by omega) (by omega) (by omega) kR k18 (by omega) hpl hpx hPR (by decide) (by decide) (xB_f sa)) d8_17_3 wd8_18 kR (by omega) (show rd < M.1 by omega) rfl s8_18 w682 (Or.inl w680) rfl rfl (Nat.le_of_ble_eq_true rfl) (by omega) (by omega) (by omega) ?_
          rintro v M' ⟨rfl, hm⟩
          subst M'
          refine xj_istore_n (i := 2) (L' := [(2, .int 0), (0, .ref rd), (1, .ref S)]) d8_17_6 rfl (by decide) rfl ?_
          refine xj_iload_n (i := 2) d8_17_7 rfl rfl ?_
          refine xj_if_ne (tgt := 20) d8_17_8 rfl (fun h => absurd (by decide) h) (fun _ => ?_)
          refine xj_aload_n (i := 0) d8_17_11 rfl rfl ?_
          refine xj_ldcS (a := 4) hSC.2.2.2.2.2.1 d8_17_12 ?_
          refine xj_callV (rest := []) (As := [.ref 4]) (b := rd) (kStandV hg hxn hSC (i := 2) (V := 1) (by omega) (by omega) (by omega) kR k18 (by omega) hpl hpx hPR (by decide) (by decide) (xB_t sl)) d8_17_14 wd8_18 kR (by omega) (show rd < M.1 by omega) rfl s8_18 w682 (Or.inl w680) rfl rfl (Nat.le_of_ble_eq_true rfl) (by omega) (by omega) (by omega) ?_
          rintro v M' ⟨rfl, hm⟩
          subst M'
          refine xj_if_eq (tgt := 24) d8_17_17 rfl (fun h => absurd h (by decide)) (fun _ => ?_)
          refine xj_iconst (v := 1) d8_17_20 (by decide) ?_
          refine xj_goto (tgt := 25) d8_17_21 rfl ?_
          refine xj_istore_n (i := 3) (L' := [(3, .int 1), (2, .int 0), (0, .ref rd), (1, .ref S)]) d8_17_25 rfl (by decide) rfl ?_
          refine xj_iload_n (i := 2) d8_17_26 rfl rfl ?_
          refine xj_if_ne (tgt := 39) d8_17_27 rfl (fun h => absurd (by decide) h) (fun _ => ?_)
          refine xj_aload_n (i := 0) d8_17_30 rfl rfl ?_
          refine xj_ldcS (a := 5) hSC.2.2.2.2.2.2.1 d8_17_31 ?_
          refine xj_callV (rest := []) (As := [.ref 5]) (b := rd) (kStandV hg hxn hSC (i := 3) (V := 1) (by omega) (by omega) (by omega) kR k18 (by omega) hpl hpx hPR (by decide) (by decide) (xB_t su)) d8_17_33 wd8_18 kR (by omega) (show rd < M.1 by omega) rfl s8_18 w682 (Or.inl w680) rfl rfl (Nat.le_of_ble_eq_true rfl) (by omega) (by omega) (by omega) ?_
          rintro v M' ⟨rfl, hm⟩
          subst M'
          refine xj_if_eq (tgt := 43) d8_17_36 rfl (fun h => absurd h (by decide)) (fun _ => ?_)
          refine xj_iconst (v := 1) d8_17_39 (by decide) ?_
          refine xj_goto (tgt := 44) d8_17_40 rfl ?_
          refine xj_istore (i := 4) (L' := [(4, .int 1), (3, .int 1), (2, .int 0), (0, .ref rd), (1, .ref S)]) d8_17_44 (by decide) rfl ?_
          refine xj_aload_n (i := 0) d8_17_46 rfl rfl ?_
          refine xj_ldcS (a := 6) hSC.2.2.2.2.2.2.2 d8_17_47 ?_
          refine xj_callV (rest := []) (As := [.ref 6]) (b := rd) (kStandV hg hxn hSC (i := 4) (V := 1) (by omega) (by omega) (by omega) kR k18 (by omega) hpl hpx hPR (by decide) (by decide) (xB_t sd)) d8_17_49 wd8_18 kR (by omega) (show rd < M.1 by omega) rfl s8_18 w682 (Or.inl w680) rfl rfl (Nat.le_of_ble_eq_true rfl) (by omega) (by omega) (by omega) ?_
          rintro v M' ⟨rfl, hm⟩
          subst M'
          refine xj_istore (i := 5) (L' := [(5, .int 1), (4, .int 1), (3, .int 1), (2, .int 0), (0, .ref rd), (1, .ref S)]) d8_17_52 (by decide) rfl ?_
          refine xj_iload_n (i := 3) d8_17_54 rfl rfl ?_
          refine xj_if_eq (tgt := 66) d8_17_55 rfl (fun h => absurd h (by decide)) (fun _ => ?_)
          refine xj_aload_n (i := 1) d8_17_58 rfl rfl ?_
          refine xj_bipush (v := 97) d8_17_59 (by decide) ?_
          refine xj_bipush (v := 122) d8_17_61 (by decide) ?_
          refine xj_callV (rest := []) (As := [.int 97, .int 122]) (b := S) (xList hg hxn (M := M) (n := M.1) (u0 := 97) (v0 := 122) (q := z) rfl (by omega) (by omega) (by omega) kS (by omega) (by omega)) d8_17_63 wd4_2 kS (by omega) (show S < M.1 by omega) rfl w645 w644 (Or.inl w643) rfl rfl (Nat.le_of_ble_eq_true rfl) (by omega) (by omega) (by omega) ?_
          rintro v M1 ⟨rfl, hs1, ho1, ha1⟩
          refine xj_iload (i := 4) d8_17_66 rfl ?_
          refine xj_if_eq (tgt := 79) d8_17_68 rfl (fun h => absurd h (by decide)) (fun _ => ?_)
          refine xj_aload_n (i := 1) d8_17_71 rfl rfl ?_
          refine xj_bipush (v := 65) d8_17_72 (by decide) ?_
          refine xj_bipush (v := 90) d8_17_74 (by decide) ?_
          refine xj_callV (rest := []) (As := [.int 65, .int 90]) (b := S) (xList hg hxn (M := M1) (n := M.1) (u0 := 65) (v0 := 90) (q := (xLs2 97 (122 + 1 - 97) z)) (show M1.1 = M.1 by omega) (by omega) (by omega) (by omega) ha1 (by omega) (by omega)) d8_17_76 wd4_2 ha1 (by omega) (show S < M1.1 by omega) rfl w645 w644 (Or.inl w643) rfl rfl (Nat.le_of_ble_eq_true rfl) (by omega) (by omega) (by omega) ?_
          rintro v M2 ⟨rfl, hs2, ho2, ha2⟩
          refine xj_iload (i := 5) d8_17_79 rfl ?_
          refine xj_if_eq (tgt := 92) d8_17_81 rfl (fun h => absurd h (by decide)) (fun _ => ?_)
          refine xj_aload_n (i := 1) d8_17_84 rfl rfl ?_
          refine xj_bipush (v := 48) d8_17_85 (by decide) ?_
          refine xj_bipush (v := 57) d8_17_87 (by decide) ?_
          refine xj_callV (rest := []) (As := [.int 48, .int 57]) (b := S) (xList hg hxn (M := M2) (n := M.1) (u0 := 48) (v0 := 57) (q := (xLs2 65 (90 + 1 - 65) (xLs2 97 (122 + 1 - 97) z))) (show M2.1 = M.1 by omega) (by omega) (by omega) (by omega) ha2 (by omega) (by omega)) d8_17_89 wd4_2 ha2 (by omega) (show S < M2.1 by omega) rfl w645 w644 (Or.inl w643) rfl rfl (Nat.le_of_ble_eq_true rfl) (by omega) (by omega) (by omega) ?_
          rintro v M3 ⟨rfl, hs3, ho3, ha3⟩
          refine xj_iload_n (i := 3) d8_17_92 rfl rfl ?_
          refine xj_if_ne (tgt := 106) d8_17_93 rfl (fun _ => ?_) (fun h => absurd h (by decide))
          refine xj_aload_n (i := 0) d8_17_106 rfl rfl ?_
          refine xj_dup d8_17_107 rfl ?_
          refine xj_get d8_17_108 f8_30_4 ((ho3 rd (by omega)).trans ((ho2 rd (by omega)).trans ((ho1 rd (by omega)).trans kR))) (by omega) (show rd < M3.1 by omega) rfl ?_
          refine xj_bipush (v := 9) d8_17_111 (by decide) ?_
          refine xj_iadd (v := nI (a + 9)) d8_17_113 (nI_add a 9) ?_
          refine xj_put (a := rd) (fs' := [.ref gw9, .int 0, .ref 18, .int (nI pl), .int (nI (a + 9)), .ref ga9, .int (nI r.length)]) d8_17_114 f8_30_4 ((ho3 rd (by omega)).trans ((ho2 rd (by omega)).trans ((ho1 rd (by omega)).trans kR))) (by omega) (show rd < M3.1 by omega) (Nat.le_of_ble_eq_true rfl) rfl rfl rfl ?_
          refine xj_abs_set (fun M4 hs4 ha4 ho4 => ?_)
          refine xj_goto (tgt := 125) d8_17_117 rfl ?_
          have hp9 : pItem fp pl (a, 0, cs) = (a + 9, 0, pCls fp pl (a + 2) cs) := (if_pos ⟨h0, h1⟩).trans (if_pos (Or.inr (Or.inl pl9)))
          have hcs := pCls_0 (fp := fp) (pl := pl) (k := a + 2) (cs := cs) (l := true) (u := true) (d := true) ⟨fun _ => Or.inr pl9, fun _ => rfl⟩ ⟨fun _ => Or.inr pu, fun _ => rfl⟩ ⟨fun _ => pd, fun _ => rfl⟩
          exact xj_ret d8_17_125 (by omega) (by omega) rfl ⟨rfl, by rw [hp9]; exact ⟨fun _ => hgo M4 (a + 9) _ _ (by omega) ha4 ((ho4 S (by omega)).trans ha3) (by rw [hcs]; exact (cB_ls (u := 48) (v := 57) (cB_ls (u := 65) (v := 90) (cB_ls (u := 97) (v := 122) kB (by decide) (by decide) (by decide)) (by decide) (by decide) (by decide)) (by decide) (by decide) (by decide))) (fun y hlt hy hyS => ((ho4 y (by omega)).trans ((ho3 y (by omega)).trans ((ho2 y (by omega)).trans (ho1 y (by omega)))))), fun q => absurd rfl q⟩⟩
        · have nu := pu
          have sa : ¬ pStd fp pl a 1 := fun q => na ((pStd_iff (c1 := 97) (c2 := 108) (c3 := 112) (c4 := 104) (c5 := 97) (by decide +kernel) h0 h1).mp q)
          have sl : pStd fp pl a 2 := (pStd_iff (c1 := 108) (c2 := 111) (c3 := 119) (c4 := 101) (c5 := 114) (by decide +kernel) h0 h1).mpr pl9
          have su : ¬ pStd fp pl a 3 := fun q => nu ((pStd_iff (c1 := 117) (c2 := 112) (c3 := 112) (c4 := 101) (c5 := 114) (by decide +kernel) h0 h1).mp q)
          have sd : pStd fp pl a 4 := (pStd_iff (c1 := 100) (c2 := 105) (c3 := 103) (c4 := 105) (c5 := 116) (by decide +kernel) h0 h1).mpr pd
          refine xc_of hg (by decide) (Nat.le_of_ble_eq_true rfl) (Or.inr (Or.inr (Or.inr (Or.inr (Or.inl ⟨rfl, rfl, fun v M' h => h.1⟩))))) ?_
          refine xj_aload_n (i := 0) d8_17_0 rfl rfl ?_
          refine xj_ldcS (a := 3) hSC.2.2.2.2.1 d8_17_1 ?_
          refine xj_callV (rest := []) (As := [.ref 3]) (b := rd) (kStandV hg hxn hSC (i := 1) (V := 0) (by omega) (by omega) (by omega) kR k18 (by omega) hpl hpx hPR (by decide) (by decide) (xB_f sa)) d8_17_3 wd8_18 kR (by omega) (show rd < M.1 by omega) rfl s8_18 w682 (Or.inl w680) rfl rfl (Nat.le_of_ble_eq_true rfl) (by omega) (by omega) (by omega) ?_
          rintro v M' ⟨rfl, hm⟩
          subst M'
          refine xj_istore_n (i := 2) (L' := [(2, .int 0), (0, .ref rd), (1, .ref S)]) d8_17_6 rfl (by decide) rfl ?_
          refine xj_iload_n (i := 2) d8_17_7 rfl rfl ?_
          refine xj_if_ne (tgt := 20) d8_17_8 rfl (fun h => absurd (by decide) h) (fun _ => ?_)
          refine xj_aload_n (i := 0) d8_17_11 rfl rfl ?_
          refine xj_ldcS (a := 4) hSC.2.2.2.2.2.1 d8_17_12 ?_
          refine xj_callV (rest := []) (As := [.ref 4]) (b := rd) (kStandV hg hxn hSC (i := 2) (V := 1) (by omega) (by omega) (by omega) kR k18 (by omega) hpl hpx hPR (by decide) (by decide) (xB_t sl)) d8_17_14 wd8_18 kR (by omega) (show rd < M.1 by omega) rfl s8_18 w682 (Or.inl w680) rfl rfl (Nat.le_of_ble_eq_true rfl) (by omega) (by omega) (by omega) ?_
          rintro v M' ⟨rfl, hm⟩
          subst M'
          refine xj_if_eq (tgt := 24) d8_17_17 rfl (fun h => absurd h (by decide)) (fun _ => ?_)
          refine xj_iconst (v := 1) d8_17_20 (by decide) ?_
          refine xj_goto (tgt := 25) d8_17_21 rfl ?_
          refine xj_istore_n (i := 3) (L' := [(3, .int 1), (2, .int 0), (0, .ref rd), (1, .ref S)]) d8_17_25 rfl (by decide) rfl ?_
          refine xj_iload_n (i := 2) d8_17_26 rfl rfl ?_
          refine xj_if_ne (tgt := 39) d8_17_27 rfl (fun h => absurd (by decide) h) (fun _ => ?_)
          refine xj_aload_n (i := 0) d8_17_30 rfl rfl ?_
          refine xj_ldcS (a := 5) hSC.2.2.2.2.2.2.1 d8_17_31 ?_
          refine xj_callV (rest := []) (As := [.ref 5]) (b := rd) (kStandV hg hxn hSC (i := 3) (V := 0) (by omega) (by omega) (by omega) kR k18 (by omega) hpl hpx hPR (by decide) (by decide) (xB_f su)) d8_17_33 wd8_18 kR (by omega) (show rd < M.1 by omega) rfl s8_18 w682 (Or.inl w680) rfl rfl (Nat.le_of_ble_eq_true rfl) (by omega) (by omega) (by omega) ?_
          rintro v M' ⟨rfl, hm⟩
          subst M'
          refine xj_if_eq (tgt := 43) d8_17_36 rfl (fun _ => ?_) (fun h => absurd (by decide) h)
          refine xj_iconst (v := 0) d8_17_43 (by decide) ?_
          refine xj_istore (i := 4) (L' := [(4, .int 0), (3, .int 1), (2, .int 0), (0, .ref rd), (1, .ref S)]) d8_17_44 (by decide) rfl ?_
          refine xj_aload_n (i := 0) d8_17_46 rfl rfl ?_
          refine xj_ldcS (a := 6) hSC.2.2.2.2.2.2.2 d8_17_47 ?_
          refine xj_callV (rest := []) (As := [.ref 6]) (b := rd) (kStandV hg hxn hSC (i := 4) (V := 1) (by omega) (by omega) (by omega) kR k18 (by omega) hpl hpx hPR (by decide) (by decide) (xB_t sd)) d8_17_49 wd8_18 kR (by omega) (show rd < M.1 by omega) rfl s8_18 w682 (Or.inl w680) rfl rfl (Nat.le_of_ble_eq_true rfl) (by omega) (by omega) (by omega) ?_
          rintro v M' ⟨rfl, hm⟩
          subst M'
          refine xj_istore (i := 5) (L' := [(5, .int 1), (4, .int 0), (3, .int 1), (2, .int 0), (0, .ref rd), (1, .ref S)]) d8_17_52 (by decide) rfl ?_
          refine xj_iload_n (i := 3) d8_17_54 rfl rfl ?_
          refine xj_if_eq (tgt := 66) d8_17_55 rfl (fun h => absurd h (by decide)) (fun _ => ?_)
          refine xj_aload_n (i := 1) d8_17_58 rfl rfl ?_
          refine xj_bipush (v := 97) d8_17_59 (by decide) ?_
          refine xj_bipush (v := 122) d8_17_61 (by decide) ?_
          refine xj_callV (rest := []) (As := [.int 97, .int 122]) (b := S) (xList hg hxn (M := M) (n := M.1) (u0 := 97) (v0 := 122) (q := z) rfl (by omega) (by omega) (by omega) kS (by omega) (by omega)) d8_17_63 wd4_2 kS (by omega) (show S < M.1 by omega) rfl w645 w644 (Or.inl w643) rfl rfl (Nat.le_of_ble_eq_true rfl) (by omega) (by omega) (by omega) ?_
          rintro v M1 ⟨rfl, hs1, ho1, ha1⟩
          refine xj_iload (i := 4) d8_17_66 rfl ?_
          refine xj_if_eq (tgt := 79) d8_17_68 rfl (fun _ => ?_) (fun h => absurd (by decide) h)
          refine xj_iload (i := 5) d8_17_79 rfl ?_
          refine xj_if_eq (tgt := 92) d8_17_81 rfl (fun h => absurd h (by decide)) (fun _ => ?_)
          refine xj_aload_n (i := 1) d8_17_84 rfl rfl ?_
          refine xj_bipush (v := 48) d8_17_85 (by decide) ?_
          refine xj_bipush (v := 57) d8_17_87 (by decide) ?_
          refine xj_callV (rest := []) (As := [.int 48, .int 57]) (b := S) (xList hg hxn (M := M1) (n := M.1) (u0 := 48) (v0 := 57) (q := (xLs2 97 (122 + 1 - 97) z)) (show M1.1 = M.1 by omega) (by omega) (by omega) (by omega) ha1 (by omega) (by omega)) d8_17_89 wd4_2 ha1 (by omega) (show S < M1.1 by omega) rfl w645 w644 (Or.inl w643) rfl rfl (Nat.le_of_ble_eq_true rfl) (by omega) (by omega) (by omega) ?_
          rintro v M2 ⟨rfl, hs2, ho2, ha2⟩
          refine xj_iload_n (i := 3) d8_17_92 rfl rfl ?_
          refine xj_if_ne (tgt := 106) d8_17_93 rfl (fun _ => ?_) (fun h => absurd h (by decide))
          refine xj_aload_n (i := 0) d8_17_106 rfl rfl ?_
          refine xj_dup d8_17_107 rfl ?_
          refine xj_get d8_17_108 f8_30_4 ((ho2 rd (by omega)).trans ((ho1 rd (by omega)).trans kR)) (by omega) (show rd < M2.1 by omega) rfl ?_
          refine xj_bipush (v := 9) d8_17_111 (by decide) ?_
          refine xj_iadd (v := nI (a + 9)) d8_17_113 (nI_add a 9) ?_
          refine xj_put (a := rd) (fs' := [.ref gw9, .int 0, .ref 18, .int (nI pl), .int (nI (a + 9)), .ref ga9, .int (nI r.length)]) d8_17_114 f8_30_4 ((ho2 rd (by omega)).trans ((ho1 rd (by omega)).trans kR)) (by omega) (show rd < M2.1 by omega) (Nat.le_of_ble_eq_true rfl) rfl rfl rfl ?_
          refine xj_abs_set (fun M3 hs3 ha3 ho3 => ?_)
          refine xj_goto (tgt := 125) d8_17_117 rfl ?_
          have hp9 : pItem fp pl (a, 0, cs) = (a + 9, 0, pCls fp pl (a + 2) cs) := (if_pos ⟨h0, h1⟩).trans (if_pos (Or.inr (Or.inl pl9)))
          have hcs := pCls_0 (fp := fp) (pl := pl) (k := a + 2) (cs := cs) (l := true) (u := false) (d := true) ⟨fun _ => Or.inr pl9, fun _ => rfl⟩ ⟨fun q => absurd q (show ¬ false = true by decide), fun q => absurd q (fun q => q.elim na nu)⟩ ⟨fun _ => pd, fun _ => rfl⟩
          exact xj_ret d8_17_125 (by omega) (by omega) rfl ⟨rfl, by rw [hp9]; exact ⟨fun _ => hgo M3 (a + 9) _ _ (by omega) ha3 ((ho3 S (by omega)).trans ha2) (by rw [hcs]; exact (cB_ls (u := 48) (v := 57) (cB_ls (u := 97) (v := 122) kB (by decide) (by decide) (by decide)) (by decide) (by decide) (by decide))) (fun y hlt hy hyS => ((ho3 y (by omega)).trans ((ho2 y (by omega)).trans (ho1 y (by omega))))), fun q => absurd rfl q⟩⟩
      · have nl := pl9
        by_cases pu : pUpp fp pl (a + 2)
        · skip
          have sa : ¬ pStd fp pl a 1 := fun q => na ((pStd_iff (c1 := 97) (c2 := 108) (c3 := 112) (c4 := 104) (c5 := 97) (by decide +kernel) h0 h1).mp q)
          have sl : ¬ pStd fp pl a 2 := fun q => nl ((pStd_iff (c1 := 108) (c2 := 111) (c3 := 119) (c4 := 101) (c5 := 114) (by decide +kernel) h0 h1).mp q)
          have su : pStd fp pl a 3 := (pStd_iff (c1 := 117) (c2 := 112) (c3 := 112) (c4 := 101) (c5 := 114) (by decide +kernel) h0 h1).mpr pu
          have sd : pStd fp pl a 4 := (pStd_iff (c1 := 100) (c2 := 105) (c3 := 103) (c4 := 105) (c5 := 116) (by decide +kernel) h0 h1).mpr pd
          refine xc_of hg (by decide) (Nat.le_of_ble_eq_true rfl) (Or.inr (Or.inr (Or.inr (Or.inr (Or.inl ⟨rfl, rfl, fun v M' h => h.1⟩))))) ?_
          refine xj_aload_n (i := 0) d8_17_0 rfl rfl ?_
          refine xj_ldcS (a := 3) hSC.2.2.2.2.1 d8_17_1 ?_
          refine xj_callV (rest := []) (As := [.ref 3]) (b := rd) (kStandV hg hxn hSC (i := 1) (V := 0) (by omega) (by omega) (by omega) kR k18 (by omega) hpl hpx hPR (by decide) (by decide) (xB_f sa)) d8_17_3 wd8_18 kR (by omega) (show rd < M.1 by omega) rfl s8_18 w682 (Or.inl w680) rfl rfl (Nat.le_of_ble_eq_true rfl) (by omega) (by omega) (by omega) ?_
          rintro v M' ⟨rfl, hm⟩
          subst M'
          refine xj_istore_n (i := 2) (L' := [(2, .int 0), (0, .ref rd), (1, .ref S)]) d8_17_6 rfl (by decide) rfl ?_
          refine xj_iload_n (i := 2) d8_17_7 rfl rfl ?_
          refine xj_if_ne (tgt := 20) d8_17_8 rfl (fun h => absurd (by decide) h) (fun _ => ?_)
          refine xj_aload_n (i := 0) d8_17_11 rfl rfl ?_
          refine xj_ldcS (a := 4) hSC.2.2.2.2.2.1 d8_17_12 ?_
          refine xj_callV (rest := []) (As := [.ref 4]) (b := rd) (kStandV hg hxn hSC (i := 2) (V := 0) (by omega) (by omega) (by omega) kR k18 (by omega) hpl hpx hPR (by decide) (by decide) (xB_f sl)) d8_17_14 wd8_18 kR (by omega) (show rd < M.1 by omega) rfl s8_18 w682 (Or.inl w680) rfl rfl (Nat.le_of_ble_eq_true rfl) (by omega) (by omega) (by omega) ?_
          rintro v M' ⟨rfl, hm⟩
          subst M'
          refine xj_if_eq (tgt := 24) d8_17_17 rfl (fun _ => ?_) (fun h => absurd (by decide) h)
          refine xj_iconst (v := 0) d8_17_24 (by decide) ?_
          refine xj_istore_n (i := 3) (L' := [(3, .int 0), (2, .int 0), (0, .ref rd), (1, .ref S)]) d8_17_25 rfl (by decide) rfl ?_
          refine xj_iload_n (i := 2) d8_17_26 rfl rfl ?_
          refine xj_if_ne (tgt := 39) d8_17_27 rfl (fun h => absurd (by decide) h) (fun _ => ?_)
          refine xj_aload_n (i := 0) d8_17_30 rfl rfl ?_
          refine xj_ldcS (a := 5) hSC.2.2.2.2.2.2.1 d8_17_31 ?_
          refine xj_callV (rest := []) (As := [.ref 5]) (b := rd) (kStandV hg hxn hSC (i := 3) (V := 1) (by omega) (by omega) (by omega) kR k18 (by omega) hpl hpx hPR (by decide) (by decide) (xB_t su)) d8_17_33 wd8_18 kR (by omega) (show rd < M.1 by omega) rfl s8_18 w682 (Or.inl w680) rfl rfl (Nat.le_of_ble_eq_true rfl) (by omega) (by omega) (by omega) ?_
          rintro v M' ⟨rfl, hm⟩
          subst M'
          refine xj_if_eq (tgt := 43) d8_17_36 rfl (fun h => absurd h (by decide)) (fun _ => ?_)
          refine xj_iconst (v := 1) d8_17_39 (by decide) ?_
          refine xj_goto (tgt := 44) d8_17_40 rfl ?_
          refine xj_istore (i := 4) (L' := [(4, .int 1), (3, .int 0), (2, .int 0), (0, .ref rd), (1, .ref S)]) d8_17_44 (by decide) rfl ?_
          refine xj_aload_n (i := 0) d8_17_46 rfl rfl ?_
          refine xj_ldcS (a := 6) hSC.2.2.2.2.2.2.2 d8_17_47 ?_
          refine xj_callV (rest := []) (As := [.ref 6]) (b := rd) (kStandV hg hxn hSC (i := 4) (V := 1) (by omega) (by omega) (by omega) kR k18 (by omega) hpl hpx hPR (by decide) (by decide) (xB_t sd)) d8_17_49 wd8_18 kR (by omega) (show rd < M.1 by omega) rfl s8_18 w682 (Or.inl w680) rfl rfl (Nat.le_of_ble_eq_true rfl) (by omega) (by omega) (by omega) ?_
          rintro v M' ⟨rfl, hm⟩
          subst M'
          refine xj_istore (i := 5) (L' := [(5, .int 1), (4, .int 1), (3, .int 0), (2, .int 0), (0, .ref rd), (1, .ref S)]) d8_17_52 (by decide) rfl ?_
          refine xj_iload_n (i := 3) d8_17_54 rfl rfl ?_
          refine xj_if_eq (tgt := 66) d8_17_55 rfl (fun _ => ?_) (fun h => absurd (by decide) h)
          refine xj_iload (i := 4) d8_17_66 rfl ?_
          refine xj_if_eq (tgt := 79) d8_17_68 rfl (fun h => absurd h (by decide)) (fun _ => ?_)
          refine xj_aload_n (i := 1) d8_17_71 rfl rfl ?_
          refine xj_bipush (v := 65) d8_17_72 (by decide) ?_
          refine xj_bipush (v := 90) d8_17_74 (by decide) ?_
          refine xj_callV (rest := []) (As := [.int 65, .int 90]) (b := S) (xList hg hxn (M := M) (n := M.1) (u0 := 65) (v0 := 90) (q := z) rfl (by omega) (by omega) (by omega) kS (by omega) (by omega)) d8_17_76 wd4_2 kS (by omega) (show S < M.1 by omega) rfl w645 w644 (Or.inl w643) rfl rfl (Nat.le_of_ble_eq_true rfl) (by omega) (by omega) (by omega) ?_
          rintro v M1 ⟨rfl, hs1, ho1, ha1⟩
          refine xj_iload (i := 5) d8_17_79 rfl ?_
          refine xj_if_eq (tgt := 92) d8_17_81 rfl (fun h => absurd h (by decide)) (fun _ => ?_)
          refine xj_aload_n (i := 1) d8_17_84 rfl rfl ?_
          refine xj_bipush (v := 48) d8_17_85 (by decide) ?_
          refine xj_bipush (v := 57) d8_17_87 (by decide) ?_
          refine xj_callV (rest := []) (As := [.int 48, .int 57]) (b := S) (xList hg hxn (M := M1) (n := M.1) (u0 := 48) (v0 := 57) (q := (xLs2 65 (90 + 1 - 65) z)) (show M1.1 = M.1 by omega) (by omega) (by omega) (by omega) ha1 (by omega) (by omega)) d8_17_89 wd4_2 ha1 (by omega) (show S < M1.1 by omega) rfl w645 w644 (Or.inl w643) rfl rfl (Nat.le_of_ble_eq_true rfl) (by omega) (by omega) (by omega) ?_
          rintro v M2 ⟨rfl, hs2, ho2, ha2⟩
          refine xj_iload_n (i := 3) d8_17_92 rfl rfl ?_
          refine xj_if_ne (tgt := 106) d8_17_93 rfl (fun h => absurd (by decide) h) (fun _ => ?_)
          refine xj_iload (i := 4) d8_17_96 rfl ?_
          refine xj_if_ne (tgt := 106) d8_17_98 rfl (fun _ => ?_) (fun h => absurd h (by decide))
          refine xj_aload_n (i := 0) d8_17_106 rfl rfl ?_
          refine xj_dup d8_17_107 rfl ?_
          refine xj_get d8_17_108 f8_30_4 ((ho2 rd (by omega)).trans ((ho1 rd (by omega)).trans kR)) (by omega) (show rd < M2.1 by omega) rfl ?_
          refine xj_bipush (v := 9) d8_17_111 (by decide) ?_
          refine xj_iadd (v := nI (a + 9)) d8_17_113 (nI_add a 9) ?_
          refine xj_put (a := rd) (fs' := [.ref gw9, .int 0, .ref 18, .int (nI pl), .int (nI (a + 9)), .ref ga9, .int (nI r.length)]) d8_17_114 f8_30_4 ((ho2 rd (by omega)).trans ((ho1 rd (by omega)).trans kR)) (by omega) (show rd < M2.1 by omega) (Nat.le_of_ble_eq_true rfl) rfl rfl rfl ?_
          refine xj_abs_set (fun M3 hs3 ha3 ho3 => ?_)
          refine xj_goto (tgt := 125) d8_17_117 rfl ?_
          have hp9 : pItem fp pl (a, 0, cs) = (a + 9, 0, pCls fp pl (a + 2) cs) := (if_pos ⟨h0, h1⟩).trans (if_pos (Or.inr (Or.inr (Or.inl pu))))
          have hcs := pCls_0 (fp := fp) (pl := pl) (k := a + 2) (cs := cs) (l := false) (u := true) (d := true) ⟨fun q => absurd q (show ¬ false = true by decide), fun q => absurd q (fun q => q.elim na nl)⟩ ⟨fun _ => Or.inr pu, fun _ => rfl⟩ ⟨fun _ => pd, fun _ => rfl⟩
          exact xj_ret d8_17_125 (by omega) (by omega) rfl ⟨rfl, by rw [hp9]; exact ⟨fun _ => hgo M3 (a + 9) _ _ (by omega) ha3 ((ho3 S (by omega)).trans ha2) (by rw [hcs]; exact (cB_ls (u := 48) (v := 57) (cB_ls (u := 65) (v := 90) kB (by decide) (by decide) (by decide)) (by decide) (by decide) (by decide))) (fun y hlt hy hyS => ((ho3 y (by omega)).trans ((ho2 y (by omega)).trans (ho1 y (by omega))))), fun q => absurd rfl q⟩⟩
        · have nu := pu
          have sa : ¬ pStd fp pl a 1 := fun q => na ((pStd_iff (c1 := 97) (c2 := 108) (c3 := 112) (c4 := 104) (c5 := 97) (by decide +kernel) h0 h1).mp q)
          have sl : ¬ pStd fp pl a 2 := fun q => nl ((pStd_iff (c1 := 108) (c2 := 111) (c3 := 119) (c4 := 101) (c5 := 114) (by decide +kernel) h0 h1).mp q)
          have su : ¬ pStd fp pl a 3 := fun q => nu ((pStd_iff (c1 := 117) (c2 := 112) (c3 := 112) (c4 := 101) (c5 := 114) (by decide +kernel) h0 h1).mp q)
          have sd : pStd fp pl a 4 := (pStd_iff (c1 := 100) (c2 := 105) (c3 := 103) (c4 := 105) (c5 := 116) (by decide +kernel) h0 h1).mpr pd
          refine xc_of hg (by decide) (Nat.le_of_ble_eq_true rfl) (Or.inr (Or.inr (Or.inr (Or.inr (Or.inl ⟨rfl, rfl, fun v M' h => h.1⟩))))) ?_
          refine xj_aload_n (i := 0) d8_17_0 rfl rfl ?_
          refine xj_ldcS (a := 3) hSC.2.2.2.2.1 d8_17_1 ?_
          refine xj_callV (rest := []) (As := [.ref 3]) (b := rd) (kStandV hg hxn hSC (i := 1) (V := 0) (by omega) (by omega) (by omega) kR k18 (by omega) hpl hpx hPR (by decide) (by decide) (xB_f sa)) d8_17_3 wd8_18 kR (by omega) (show rd < M.1 by omega) rfl s8_18 w682 (Or.inl w680) rfl rfl (Nat.le_of_ble_eq_true rfl) (by omega) (by omega) (by omega) ?_
          rintro v M' ⟨rfl, hm⟩
          subst M'
          refine xj_istore_n (i := 2) (L' := [(2, .int 0), (0, .ref rd), (1, .ref S)]) d8_17_6 rfl (by decide) rfl ?_
          refine xj_iload_n (i := 2) d8_17_7 rfl rfl ?_
          refine xj_if_ne (tgt := 20) d8_17_8 rfl (fun h => absurd (by decide) h) (fun _ => ?_)
          refine xj_aload_n (i := 0) d8_17_11 rfl rfl ?_
          refine xj_ldcS (a := 4) hSC.2.2.2.2.2.1 d8_17_12 ?_
          refine xj_callV (rest := []) (As := [.ref 4]) (b := rd) (kStandV hg hxn hSC (i := 2) (V := 0) (by omega) (by omega) (by omega) kR k18 (by omega) hpl hpx hPR (by decide) (by decide) (xB_f sl)) d8_17_14 wd8_18 kR (by omega) (show rd < M.1 by omega) rfl s8_18 w682 (Or.inl w680) rfl rfl (Nat.le_of_ble_eq_true rfl) (by omega) (by omega) (by omega) ?_
          rintro v M' ⟨rfl, hm⟩
          subst M'
          refine xj_if_eq (tgt := 24) d8_17_17 rfl (fun _ => ?_) (fun h => absurd (by decide) h)
          refine xj_iconst (v := 0) d8_17_24 (by decide) ?_
          refine xj_istore_n (i := 3) (L' := [(3, .int 0), (2, .int 0), (0, .ref rd), (1, .ref S)]) d8_17_25 rfl (by decide) rfl ?_
          refine xj_iload_n (i := 2) d8_17_26 rfl rfl ?_
          refine xj_if_ne (tgt := 39) d8_17_27 rfl (fun h => absurd (by decide) h) (fun _ => ?_)
          refine xj_aload_n (i := 0) d8_17_30 rfl rfl ?_
          refine xj_ldcS (a := 5) hSC.2.2.2.2.2.2.1 d8_17_31 ?_
          refine xj_callV (rest := []) (As := [.ref 5]) (b := rd) (kStandV hg hxn hSC (i := 3) (V := 0) (by omega) (by omega) (by omega) kR k18 (by omega) hpl hpx hPR (by decide) (by decide) (xB_f su)) d8_17_33 wd8_18 kR (by omega) (show rd < M.1 by omega) rfl s8_18 w682 (Or.inl w680) rfl rfl (Nat.le_of_ble_eq_true rfl) (by omega) (by omega) (by omega) ?_
          rintro v M' ⟨rfl, hm⟩
          subst M'
          refine xj_if_eq (tgt := 43) d8_17_36 rfl (fun _ => ?_) (fun h => absurd (by decide) h)
          refine xj_iconst (v := 0) d8_17_43 (by decide) ?_
          refine xj_istore (i := 4) (L' := [(4, .int 0), (3, .int 0), (2, .int 0), (0, .ref rd), (1, .ref S)]) d8_17_44 (by decide) rfl ?_
          refine xj_aload_n (i := 0) d8_17_46 rfl rfl ?_
          refine xj_ldcS (a := 6) hSC.2.2.2.2.2.2.2 d8_17_47 ?_
          refine xj_callV (rest := []) (As := [.ref 6]) (b := rd) (kStandV hg hxn hSC (i := 4) (V := 1) (by omega) (by omega) (by omega) kR k18 (by omega) hpl hpx hPR (by decide) (by decide) (xB_t sd)) d8_17_49 wd8_18 kR (by omega) (show rd < M.1 by omega) rfl s8_18 w682 (Or.inl w680) rfl rfl (Nat.le_of_ble_eq_true rfl) (by omega) (by omega) (by omega) ?_
          rintro v M' ⟨rfl, hm⟩
          subst M'
          refine xj_istore (i := 5) (L' := [(5, .int 1), (4, .int 0), (3, .int 0), (2, .int 0), (0, .ref rd), (1, .ref S)]) d8_17_52 (by decide) rfl ?_
          refine xj_iload_n (i := 3) d8_17_54 rfl rfl ?_
          refine xj_if_eq (tgt := 66) d8_17_55 rfl (fun _ => ?_) (fun h => absurd (by decide) h)
          refine xj_iload (i := 4) d8_17_66 rfl ?_
          refine xj_if_eq (tgt := 79) d8_17_68 rfl (fun _ => ?_) (fun h => absurd (by decide) h)
          refine xj_iload (i := 5) d8_17_79 rfl ?_
          refine xj_if_eq (tgt := 92) d8_17_81 rfl (fun h => absurd h (by decide)) (fun _ => ?_)
          refine xj_aload_n (i := 1) d8_17_84 rfl rfl ?_
          refine xj_bipush (v := 48) d8_17_85 (by decide) ?_
          refine xj_bipush (v := 57) d8_17_87 (by decide) ?_
          refine xj_callV (rest := []) (As := [.int 48, .int 57]) (b := S) (xList hg hxn (M := M) (n := M.1) (u0 := 48) (v0 := 57) (q := z) rfl (by omega) (by omega) (by omega) kS (by omega) (by omega)) d8_17_89 wd4_2 kS (by omega) (show S < M.1 by omega) rfl w645 w644 (Or.inl w643) rfl rfl (Nat.le_of_ble_eq_true rfl) (by omega) (by omega) (by omega) ?_
          rintro v M1 ⟨rfl, hs1, ho1, ha1⟩
          refine xj_iload_n (i := 3) d8_17_92 rfl rfl ?_
          refine xj_if_ne (tgt := 106) d8_17_93 rfl (fun h => absurd (by decide) h) (fun _ => ?_)
          refine xj_iload (i := 4) d8_17_96 rfl ?_
          refine xj_if_ne (tgt := 106) d8_17_98 rfl (fun h => absurd (by decide) h) (fun _ => ?_)
          refine xj_iload (i := 5) d8_17_101 rfl ?_
          refine xj_if_eq (tgt := 120) d8_17_103 rfl (fun h => absurd h (by decide)) (fun _ => ?_)
          refine xj_aload_n (i := 0) d8_17_106 rfl rfl ?_
          refine xj_dup d8_17_107 rfl ?_
          refine xj_get d8_17_108 f8_30_4 ((ho1 rd (by omega)).trans kR) (by omega) (show rd < M1.1 by omega) rfl ?_
          refine xj_bipush (v := 9) d8_17_111 (by decide) ?_
          refine xj_iadd (v := nI (a + 9)) d8_17_113 (nI_add a 9) ?_
          refine xj_put (a := rd) (fs' := [.ref gw9, .int 0, .ref 18, .int (nI pl), .int (nI (a + 9)), .ref ga9, .int (nI r.length)]) d8_17_114 f8_30_4 ((ho1 rd (by omega)).trans kR) (by omega) (show rd < M1.1 by omega) (Nat.le_of_ble_eq_true rfl) rfl rfl rfl ?_
          refine xj_abs_set (fun M2 hs2 ha2 ho2 => ?_)
          refine xj_goto (tgt := 125) d8_17_117 rfl ?_
          have hp9 : pItem fp pl (a, 0, cs) = (a + 9, 0, pCls fp pl (a + 2) cs) := (if_pos ⟨h0, h1⟩).trans (if_pos (Or.inr (Or.inr (Or.inr pd))))
          have hcs := pCls_0 (fp := fp) (pl := pl) (k := a + 2) (cs := cs) (l := false) (u := false) (d := true) ⟨fun q => absurd q (show ¬ false = true by decide), fun q => absurd q (fun q => q.elim na nl)⟩ ⟨fun q => absurd q (show ¬ false = true by decide), fun q => absurd q (fun q => q.elim na nu)⟩ ⟨fun _ => pd, fun _ => rfl⟩
          exact xj_ret d8_17_125 (by omega) (by omega) rfl ⟨rfl, by rw [hp9]; exact ⟨fun _ => hgo M2 (a + 9) _ _ (by omega) ha2 ((ho2 S (by omega)).trans ha1) (by rw [hcs]; exact (cB_ls (u := 48) (v := 57) kB (by decide) (by decide) (by decide))) (fun y hlt hy hyS => ((ho2 y (by omega)).trans (ho1 y (by omega)))), fun q => absurd rfl q⟩⟩
  · have nd := pd
    by_cases pa : pAlp fp pl (a + 2)
    · skip
      have sa : pStd fp pl a 1 := (pStd_iff (c1 := 97) (c2 := 108) (c3 := 112) (c4 := 104) (c5 := 97) (by decide +kernel) h0 h1).mpr pa
      have sd : ¬ pStd fp pl a 4 := fun q => nd ((pStd_iff (c1 := 100) (c2 := 105) (c3 := 103) (c4 := 105) (c5 := 116) (by decide +kernel) h0 h1).mp q)
      refine xc_of hg (by decide) (Nat.le_of_ble_eq_true rfl) (Or.inr (Or.inr (Or.inr (Or.inr (Or.inl ⟨rfl, rfl, fun v M' h => h.1⟩))))) ?_
      refine xj_aload_n (i := 0) d8_17_0 rfl rfl ?_
      refine xj_ldcS (a := 3) hSC.2.2.2.2.1 d8_17_1 ?_
      refine xj_callV (rest := []) (As := [.ref 3]) (b := rd) (kStandV hg hxn hSC (i := 1) (V := 1) (by omega) (by omega) (by omega) kR k18 (by omega) hpl hpx hPR (by decide) (by decide) (xB_t sa)) d8_17_3 wd8_18 kR (by omega) (show rd < M.1 by omega) rfl s8_18 w682 (Or.inl w680) rfl rfl (Nat.le_of_ble_eq_true rfl) (by omega) (by omega) (by omega) ?_
      rintro v M' ⟨rfl, hm⟩
      subst M'
      refine xj_istore_n (i := 2) (L' := [(2, .int 1), (0, .ref rd), (1, .ref S)]) d8_17_6 rfl (by decide) rfl ?_
      refine xj_iload_n (i := 2) d8_17_7 rfl rfl ?_
      refine xj_if_ne (tgt := 20) d8_17_8 rfl (fun _ => ?_) (fun h => absurd h (by decide))
      refine xj_iconst (v := 1) d8_17_20 (by decide) ?_
      refine xj_goto (tgt := 25) d8_17_21 rfl ?_
      refine xj_istore_n (i := 3) (L' := [(3, .int 1), (2, .int 1), (0, .ref rd), (1, .ref S)]) d8_17_25 rfl (by decide) rfl ?_
      refine xj_iload_n (i := 2) d8_17_26 rfl rfl ?_
      refine xj_if_ne (tgt := 39) d8_17_27 rfl (fun _ => ?_) (fun h => absurd h (by decide))
      refine xj_iconst (v := 1) d8_17_39 (by decide) ?_
      refine xj_goto (tgt := 44) d8_17_40 rfl ?_
      refine xj_istore (i := 4) (L' := [(4, .int 1), (3, .int 1), (2, .int 1), (0, .ref rd), (1, .ref S)]) d8_17_44 (by decide) rfl ?_
      refine xj_aload_n (i := 0) d8_17_46 rfl rfl ?_
      refine xj_ldcS (a := 6) hSC.2.2.2.2.2.2.2 d8_17_47 ?_
      refine xj_callV (rest := []) (As := [.ref 6]) (b := rd) (kStandV hg hxn hSC (i := 4) (V := 0) (by omega) (by omega) (by omega) kR k18 (by omega) hpl hpx hPR (by decide) (by decide) (xB_f sd)) d8_17_49 wd8_18 kR (by omega) (show rd < M.1 by omega) rfl s8_18 w682 (Or.inl w680) rfl rfl (Nat.le_of_ble_eq_true rfl) (by omega) (by omega) (by omega) ?_
      rintro v M' ⟨rfl, hm⟩
      subst M'
      refine xj_istore (i := 5) (L' := [(5, .int 0), (4, .int 1), (3, .int 1), (2, .int 1), (0, .ref rd), (1, .ref S)]) d8_17_52 (by decide) rfl ?_
      refine xj_iload_n (i := 3) d8_17_54 rfl rfl ?_
      refine xj_if_eq (tgt := 66) d8_17_55 rfl (fun h => absurd h (by decide)) (fun _ => ?_)
      refine xj_aload_n (i := 1) d8_17_58 rfl rfl ?_
      refine xj_bipush (v := 97) d8_17_59 (by decide) ?_
      refine xj_bipush (v := 122) d8_17_61 (by decide) ?_
      refine xj_callV (rest := []) (As := [.int 97, .int 122]) (b := S) (xList hg hxn (M := M) (n := M.1) (u0 := 97) (v0 := 122) (q := z) rfl (by omega) (by omega) (by omega) kS (by omega) (by omega)) d8_17_63 wd4_2 kS (by omega) (show S < M.1 by omega) rfl w645 w644 (Or.inl w643) rfl rfl (Nat.le_of_ble_eq_true rfl) (by omega) (by omega) (by omega) ?_
      rintro v M1 ⟨rfl, hs1, ho1, ha1⟩
      refine xj_iload (i := 4) d8_17_66 rfl ?_
      refine xj_if_eq (tgt := 79) d8_17_68 rfl (fun h => absurd h (by decide)) (fun _ => ?_)
      refine xj_aload_n (i := 1) d8_17_71 rfl rfl ?_
      refine xj_bipush (v := 65) d8_17_72 (by decide) ?_
      refine xj_bipush (v := 90) d8_17_74 (by decide) ?_
      refine xj_callV (rest := []) (As := [.int 65, .int 90]) (b := S) (xList hg hxn (M := M1) (n := M.1) (u0 := 65) (v0 := 90) (q := (xLs2 97 (122 + 1 - 97) z)) (show M1.1 = M.1 by omega) (by omega) (by omega) (by omega) ha1 (by omega) (by omega)) d8_17_76 wd4_2 ha1 (by omega) (show S < M1.1 by omega) rfl w645 w644 (Or.inl w643) rfl rfl (Nat.le_of_ble_eq_true rfl) (by omega) (by omega) (by omega) ?_
      rintro v M2 ⟨rfl, hs2, ho2, ha2⟩
      refine xj_iload (i := 5) d8_17_79 rfl ?_
      refine xj_if_eq (tgt := 92) d8_17_81 rfl (fun _ => ?_) (fun h => absurd (by decide) h)
      refine xj_iload_n (i := 3) d8_17_92 rfl rfl ?_
      refine xj_if_ne (tgt := 106) d8_17_93 rfl (fun _ => ?_) (fun h => absurd h (by decide))
      refine xj_aload_n (i := 0) d8_17_106 rfl rfl ?_
      refine xj_dup d8_17_107 rfl ?_
      refine xj_get d8_17_108 f8_30_4 ((ho2 rd (by omega)).trans ((ho1 rd (by omega)).trans kR)) (by omega) (show rd < M2.1 by omega) rfl ?_
      refine xj_bipush (v := 9) d8_17_111 (by decide) ?_
      refine xj_iadd (v := nI (a + 9)) d8_17_113 (nI_add a 9) ?_
      refine xj_put (a := rd) (fs' := [.ref gw9, .int 0, .ref 18, .int (nI pl), .int (nI (a + 9)), .ref ga9, .int (nI r.length)]) d8_17_114 f8_30_4 ((ho2 rd (by omega)).trans ((ho1 rd (by omega)).trans kR)) (by omega) (show rd < M2.1 by omega) (Nat.le_of_ble_eq_true rfl) rfl rfl rfl ?_
      refine xj_abs_set (fun M3 hs3 ha3 ho3 => ?_)
      refine xj_goto (tgt := 125) d8_17_117 rfl ?_
      have hp9 : pItem fp pl (a, 0, cs) = (a + 9, 0, pCls fp pl (a + 2) cs) := (if_pos ⟨h0, h1⟩).trans (if_pos (Or.inl pa))
      have hcs := pCls_0 (fp := fp) (pl := pl) (k := a + 2) (cs := cs) (l := true) (u := true) (d := false) ⟨fun _ => Or.inl pa, fun _ => rfl⟩ ⟨fun _ => Or.inl pa, fun _ => rfl⟩ ⟨fun q => absurd q (show ¬ false = true by decide), fun q => absurd q nd⟩
      exact xj_ret d8_17_125 (by omega) (by omega) rfl ⟨rfl, by rw [hp9]; exact ⟨fun _ => hgo M3 (a + 9) _ _ (by omega) ha3 ((ho3 S (by omega)).trans ha2) (by rw [hcs]; exact (cB_ls (u := 65) (v := 90) (cB_ls (u := 97) (v := 122) kB (by decide) (by decide) (by decide)) (by decide) (by decide) (by decide))) (fun y hlt hy hyS => ((ho3 y (by omega)).trans ((ho2 y (by omega)).trans (ho1 y (by omega))))), fun q => absurd rfl q⟩⟩
    · have na := pa
      by_cases pl9 : pLow fp pl (a + 2)
      · by_cases pu : pUpp fp pl (a + 2)
        · skip
          have sa : ¬ pStd fp pl a 1 := fun q => na ((pStd_iff (c1 := 97) (c2 := 108) (c3 := 112) (c4 := 104) (c5 := 97) (by decide +kernel) h0 h1).mp q)
          have sl : pStd fp pl a 2 := (pStd_iff (c1 := 108) (c2 := 111) (c3 := 119) (c4 := 101) (c5 := 114) (by decide +kernel) h0 h1).mpr pl9
          have su : pStd fp pl a 3 := (pStd_iff (c1 := 117) (c2 := 112) (c3 := 112) (c4 := 101) (c5 := 114) (by decide +kernel) h0 h1).mpr pu
          have sd : ¬ pStd fp pl a 4 := fun q => nd ((pStd_iff (c1 := 100) (c2 := 105) (c3 := 103) (c4 := 105) (c5 := 116) (by decide +kernel) h0 h1).mp q)
          refine xc_of hg (by decide) (Nat.le_of_ble_eq_true rfl) (Or.inr (Or.inr (Or.inr (Or.inr (Or.inl ⟨rfl, rfl, fun v M' h => h.1⟩))))) ?_
          refine xj_aload_n (i := 0) d8_17_0 rfl rfl ?_
          refine xj_ldcS (a := 3) hSC.2.2.2.2.1 d8_17_1 ?_
          refine xj_callV (rest := []) (As := [.ref 3]) (b := rd) (kStandV hg hxn hSC (i := 1) (V := 0) (by omega) (by omega) (by omega) kR k18 (by omega) hpl hpx hPR (by decide) (by decide) (xB_f sa)) d8_17_3 wd8_18 kR (by omega) (show rd < M.1 by omega) rfl s8_18 w682 (Or.inl w680) rfl rfl (Nat.le_of_ble_eq_true rfl) (by omega) (by omega) (by omega) ?_
          rintro v M' ⟨rfl, hm⟩
          subst M'
          refine xj_istore_n (i := 2) (L' := [(2, .int 0), (0, .ref rd), (1, .ref S)]) d8_17_6 rfl (by decide) rfl ?_
          refine xj_iload_n (i := 2) d8_17_7 rfl rfl ?_
          refine xj_if_ne (tgt := 20) d8_17_8 rfl (fun h => absurd (by decide) h) (fun _ => ?_)
          refine xj_aload_n (i := 0) d8_17_11 rfl rfl ?_
          refine xj_ldcS (a := 4) hSC.2.2.2.2.2.1 d8_17_12 ?_
          refine xj_callV (rest := []) (As := [.ref 4]) (b := rd) (kStandV hg hxn hSC (i := 2) (V := 1) (by omega) (by omega) (by omega) kR k18 (by omega) hpl hpx hPR (by decide) (by decide) (xB_t sl)) d8_17_14 wd8_18 kR (by omega) (show rd < M.1 by omega) rfl s8_18 w682 (Or.inl w680) rfl rfl (Nat.le_of_ble_eq_true rfl) (by omega) (by omega) (by omega) ?_
          rintro v M' ⟨rfl, hm⟩
          subst M'
          refine xj_if_eq (tgt := 24) d8_17_17 rfl (fun h => absurd h (by decide)) (fun _ => ?_)
          refine xj_iconst (v := 1) d8_17_20 (by decide) ?_
          refine xj_goto (tgt := 25) d8_17_21 rfl ?_
          refine xj_istore_n (i := 3) (L' := [(3, .int 1), (2, .int 0), (0, .ref rd), (1, .ref S)]) d8_17_25 rfl (by decide) rfl ?_
          refine xj_iload_n (i := 2) d8_17_26 rfl rfl ?_
          refine xj_if_ne (tgt := 39) d8_17_27 rfl (fun h => absurd (by decide) h) (fun _ => ?_)
          refine xj_aload_n (i := 0) d8_17_30 rfl rfl ?_
          refine xj_ldcS (a := 5) hSC.2.2.2.2.2.2.1 d8_17_31 ?_
          refine xj_callV (rest := []) (As := [.ref 5]) (b := rd) (kStandV hg hxn hSC (i := 3) (V := 1) (by omega) (by omega) (by omega) kR k18 (by omega) hpl hpx hPR (by decide) (by decide) (xB_t su)) d8_17_33 wd8_18 kR (by omega) (show rd < M.1 by omega) rfl s8_18 w682 (Or.inl w680) rfl rfl (Nat.le_of_ble_eq_true rfl) (by omega) (by omega) (by omega) ?_
          rintro v M' ⟨rfl, hm⟩
          subst M'
          refine xj_if_eq (tgt := 43) d8_17_36 rfl (fun h => absurd h (by decide)) (fun _ => ?_)
          refine xj_iconst (v := 1) d8_17_39 (by decide) ?_
          refine xj_goto (tgt := 44) d8_17_40 rfl ?_
          refine xj_istore (i := 4) (L' := [(4, .int 1), (3, .int 1), (2, .int 0), (0, .ref rd), (1, .ref S)]) d8_17_44 (by decide) rfl ?_
          refine xj_aload_n (i := 0) d8_17_46 rfl rfl ?_
          refine xj_ldcS (a := 6) hSC.2.2.2.2.2.2.2 d8_17_47 ?_
          refine xj_callV (rest := []) (As := [.ref 6]) (b := rd) (kStandV hg hxn hSC (i := 4) (V := 0) (by omega) (by omega) (by omega) kR k18 (by omega) hpl hpx hPR (by decide) (by decide) (xB_f sd)) d8_17_49 wd8_18 kR (by omega) (show rd < M.1 by omega) rfl s8_18 w682 (Or.inl w680) rfl rfl (Nat.le_of_ble_eq_true rfl) (by omega) (by omega) (by omega) ?_
          rintro v M' ⟨rfl, hm⟩
          subst M'
          refine xj_istore (i := 5) (L' := [(5, .int 0), (4, .int 1), (3, .int 1), (2, .int 0), (0, .ref rd), (1, .ref S)]) d8_17_52 (by decide) rfl ?_
          refine xj_iload_n (i := 3) d8_17_54 rfl rfl ?_
          refine xj_if_eq (tgt := 66) d8_17_55 rfl (fun h => absurd h (by decide)) (fun _ => ?_)
          refine xj_aload_n (i := 1) d8_17_58 rfl rfl ?_
          refine xj_bipush (v := 97) d8_17_59 (by decide) ?_
          refine xj_bipush (v := 122) d8_17_61 (by decide) ?_
          refine xj_callV (rest := []) (As := [.int 97, .int 122]) (b := S) (xList hg hxn (M := M) (n := M.1) (u0 := 97) (v0 := 122) (q := z) rfl (by omega) (by omega) (by omega) kS (by omega) (by omega)) d8_17_63 wd4_2 kS (by omega) (show S < M.1 by omega) rfl w645 w644 (Or.inl w643) rfl rfl (Nat.le_of_ble_eq_true rfl) (by omega) (by omega) (by omega) ?_
          rintro v M1 ⟨rfl, hs1, ho1, ha1⟩
          refine xj_iload (i := 4) d8_17_66 rfl ?_
          refine xj_if_eq (tgt := 79) d8_17_68 rfl (fun h => absurd h (by decide)) (fun _ => ?_)
          refine xj_aload_n (i := 1) d8_17_71 rfl rfl ?_
          refine xj_bipush (v := 65) d8_17_72 (by decide) ?_
          refine xj_bipush (v := 90) d8_17_74 (by decide) ?_
          refine xj_callV (rest := []) (As := [.int 65, .int 90]) (b := S) (xList hg hxn (M := M1) (n := M.1) (u0 := 65) (v0 := 90) (q := (xLs2 97 (122 + 1 - 97) z)) (show M1.1 = M.1 by omega) (by omega) (by omega) (by omega) ha1 (by omega) (by omega)) d8_17_76 wd4_2 ha1 (by omega) (show S < M1.1 by omega) rfl w645 w644 (Or.inl w643) rfl rfl (Nat.le_of_ble_eq_true rfl) (by omega) (by omega) (by omega) ?_
          rintro v M2 ⟨rfl, hs2, ho2, ha2⟩
          refine xj_iload (i := 5) d8_17_79 rfl ?_
          refine xj_if_eq (tgt := 92) d8_17_81 rfl (fun _ => ?_) (fun h => absurd (by decide) h)
          refine xj_iload_n (i := 3) d8_17_92 rfl rfl ?_
          refine xj_if_ne (tgt := 106) d8_17_93 rfl (fun _ => ?_) (fun h => absurd h (by decide))
          refine xj_aload_n (i := 0) d8_17_106 rfl rfl ?_
          refine xj_dup d8_17_107 rfl ?_
          refine xj_get d8_17_108 f8_30_4 ((ho2 rd (by omega)).trans ((ho1 rd (by omega)).trans kR)) (by omega) (show rd < M2.1 by omega) rfl ?_
          refine xj_bipush (v := 9) d8_17_111 (by decide) ?_
          refine xj_iadd (v := nI (a + 9)) d8_17_113 (nI_add a 9) ?_
          refine xj_put (a := rd) (fs' := [.ref gw9, .int 0, .ref 18, .int (nI pl), .int (nI (a + 9)), .ref ga9, .int (nI r.length)]) d8_17_114 f8_30_4 ((ho2 rd (by omega)).trans ((ho1 rd (by omega)).trans kR)) (by omega) (show rd < M2.1 by omega) (Nat.le_of_ble_eq_true rfl) rfl rfl rfl ?_
          refine xj_abs_set (fun M3 hs3 ha3 ho3 => ?_)
          refine xj_goto (tgt := 125) d8_17_117 rfl ?_
          have hp9 : pItem fp pl (a, 0, cs) = (a + 9, 0, pCls fp pl (a + 2) cs) := (if_pos ⟨h0, h1⟩).trans (if_pos (Or.inr (Or.inl pl9)))
          have hcs := pCls_0 (fp := fp) (pl := pl) (k := a + 2) (cs := cs) (l := true) (u := true) (d := false) ⟨fun _ => Or.inr pl9, fun _ => rfl⟩ ⟨fun _ => Or.inr pu, fun _ => rfl⟩ ⟨fun q => absurd q (show ¬ false = true by decide), fun q => absurd q nd⟩
          exact xj_ret d8_17_125 (by omega) (by omega) rfl ⟨rfl, by rw [hp9]; exact ⟨fun _ => hgo M3 (a + 9) _ _ (by omega) ha3 ((ho3 S (by omega)).trans ha2) (by rw [hcs]; exact (cB_ls (u := 65) (v := 90) (cB_ls (u := 97) (v := 122) kB (by decide) (by decide) (by decide)) (by decide) (by decide) (by decide))) (fun y hlt hy hyS => ((ho3 y (by omega)).trans ((ho2 y (by omega)).trans (ho1 y (by omega))))), fun q => absurd rfl q⟩⟩
        · have nu := pu
          have sa : ¬ pStd fp pl a 1 := fun q => na ((pStd_iff (c1 := 97) (c2 := 108) (c3 := 112) (c4 := 104) (c5 := 97) (by decide +kernel) h0 h1).mp q)
          have sl : pStd fp pl a 2 := (pStd_iff (c1 := 108) (c2 := 111) (c3 := 119) (c4 := 101) (c5 := 114) (by decide +kernel) h0 h1).mpr pl9
          have su : ¬ pStd fp pl a 3 := fun q => nu ((pStd_iff (c1 := 117) (c2 := 112) (c3 := 112) (c4 := 101) (c5 := 114) (by decide +kernel) h0 h1).mp q)
          have sd : ¬ pStd fp pl a 4 := fun q => nd ((pStd_iff (c1 := 100) (c2 := 105) (c3 := 103) (c4 := 105) (c5 := 116) (by decide +kernel) h0 h1).mp q)
          refine xc_of hg (by decide) (Nat.le_of_ble_eq_true rfl) (Or.inr (Or.inr (Or.inr (Or.inr (Or.inl ⟨rfl, rfl, fun v M' h => h.1⟩))))) ?_
          refine xj_aload_n (i := 0) d8_17_0 rfl rfl ?_
          refine xj_ldcS (a := 3) hSC.2.2.2.2.1 d8_17_1 ?_
          refine xj_callV (rest := []) (As := [.ref 3]) (b := rd) (kStandV hg hxn hSC (i := 1) (V := 0) (by omega) (by omega) (by omega) kR k18 (by omega) hpl hpx hPR (by decide) (by decide) (xB_f sa)) d8_17_3 wd8_18 kR (by omega) (show rd < M.1 by omega) rfl s8_18 w682 (Or.inl w680) rfl rfl (Nat.le_of_ble_eq_true rfl) (by omega) (by omega) (by omega) ?_
          rintro v M' ⟨rfl, hm⟩
          subst M'
          refine xj_istore_n (i := 2) (L' := [(2, .int 0), (0, .ref rd), (1, .ref S)]) d8_17_6 rfl (by decide) rfl ?_
          refine xj_iload_n (i := 2) d8_17_7 rfl rfl ?_
          refine xj_if_ne (tgt := 20) d8_17_8 rfl (fun h => absurd (by decide) h) (fun _ => ?_)
          refine xj_aload_n (i := 0) d8_17_11 rfl rfl ?_
          refine xj_ldcS (a := 4) hSC.2.2.2.2.2.1 d8_17_12 ?_
          refine xj_callV (rest := []) (As := [.ref 4]) (b := rd) (kStandV hg hxn hSC (i := 2) (V := 1) (by omega) (by omega) (by omega) kR k18 (by omega) hpl hpx hPR (by decide) (by decide) (xB_t sl)) d8_17_14 wd8_18 kR (by omega) (show rd < M.1 by omega) rfl s8_18 w682 (Or.inl w680) rfl rfl (Nat.le_of_ble_eq_true rfl) (by omega) (by omega) (by omega) ?_
          rintro v M' ⟨rfl, hm⟩
          subst M'
          refine xj_if_eq (tgt := 24) d8_17_17 rfl (fun h => absurd h (by decide)) (fun _ => ?_)
          refine xj_iconst (v := 1) d8_17_20 (by decide) ?_
          refine xj_goto (tgt := 25) d8_17_21 rfl ?_
          refine xj_istore_n (i := 3) (L' := [(3, .int 1), (2, .int 0), (0, .ref rd), (1, .ref S)]) d8_17_25 rfl (by decide) rfl ?_
          refine xj_iload_n (i := 2) d8_17_26 rfl rfl ?_
          refine xj_if_ne (tgt := 39) d8_17_27 rfl (fun h => absurd (by decide) h) (fun _ => ?_)
          refine xj_aload_n (i := 0) d8_17_30 rfl rfl ?_
          refine xj_ldcS (a := 5) hSC.2.2.2.2.2.2.1 d8_17_31 ?_
          refine xj_callV (rest := []) (As := [.ref 5]) (b := rd) (kStandV hg hxn hSC (i := 3) (V := 0) (by omega) (by omega) (by omega) kR k18 (by omega) hpl hpx hPR (by decide) (by decide) (xB_f su)) d8_17_33 wd8_18 kR (by omega) (show rd < M.1 by omega) rfl s8_18 w682 (Or.inl w680) rfl rfl (Nat.le_of_ble_eq_true rfl) (by omega) (by omega) (by omega) ?_
          rintro v M' ⟨rfl, hm⟩
          subst M'
          refine xj_if_eq (tgt := 43) d8_17_36 rfl (fun _ => ?_) (fun h => absurd (by decide) h)
          refine xj_iconst (v := 0) d8_17_43 (by decide) ?_
          refine xj_istore (i := 4) (L' := [(4, .int 0), (3, .int 1), (2, .int 0), (0, .ref rd), (1, .ref S)]) d8_17_44 (by decide) rfl ?_
          refine xj_aload_n (i := 0) d8_17_46 rfl rfl ?_
          refine xj_ldcS (a := 6) hSC.2.2.2.2.2.2.2 d8_17_47 ?_
          refine xj_callV (rest := []) (As := [.ref 6]) (b := rd) (kStandV hg hxn hSC (i := 4) (V := 0) (by omega) (by omega) (by omega) kR k18 (by omega) hpl hpx hPR (by decide) (by decide) (xB_f sd)) d8_17_49 wd8_18 kR (by omega) (show rd < M.1 by omega) rfl s8_18 w682 (Or.inl w680) rfl rfl (Nat.le_of_ble_eq_true rfl) (by omega) (by omega) (by omega) ?_
          rintro v M' ⟨rfl, hm⟩
          subst M'
          refine xj_istore (i := 5) (L' := [(5, .int 0), (4, .int 0), (3, .int 1), (2, .int 0), (0, .ref rd), (1, .ref S)]) d8_17_52 (by decide) rfl ?_
          refine xj_iload_n (i := 3) d8_17_54 rfl rfl ?_
          refine xj_if_eq (tgt := 66) d8_17_55 rfl (fun h => absurd h (by decide)) (fun _ => ?_)
          refine xj_aload_n (i := 1) d8_17_58 rfl rfl ?_
          refine xj_bipush (v := 97) d8_17_59 (by decide) ?_
          refine xj_bipush (v := 122) d8_17_61 (by decide) ?_
          refine xj_callV (rest := []) (As := [.int 97, .int 122]) (b := S) (xList hg hxn (M := M) (n := M.1) (u0 := 97) (v0 := 122) (q := z) rfl (by omega) (by omega) (by omega) kS (by omega) (by omega)) d8_17_63 wd4_2 kS (by omega) (show S < M.1 by omega) rfl w645 w644 (Or.inl w643) rfl rfl (Nat.le_of_ble_eq_true rfl) (by omega) (by omega) (by omega) ?_
          rintro v M1 ⟨rfl, hs1, ho1, ha1⟩
          refine xj_iload (i := 4) d8_17_66 rfl ?_
          refine xj_if_eq (tgt := 79) d8_17_68 rfl (fun _ => ?_) (fun h => absurd (by decide) h)
          refine xj_iload (i := 5) d8_17_79 rfl ?_
          refine xj_if_eq (tgt := 92) d8_17_81 rfl (fun _ => ?_) (fun h => absurd (by decide) h)
          refine xj_iload_n (i := 3) d8_17_92 rfl rfl ?_
          refine xj_if_ne (tgt := 106) d8_17_93 rfl (fun _ => ?_) (fun h => absurd h (by decide))
          refine xj_aload_n (i := 0) d8_17_106 rfl rfl ?_
          refine xj_dup d8_17_107 rfl ?_
          refine xj_get d8_17_108 f8_30_4 ((ho1 rd (by omega)).trans kR) (by omega) (show rd < M1.1 by omega) rfl ?_
          refine xj_bipush (v := 9) d8_17_111 (by decide) ?_
          refine xj_iadd (v := nI (a + 9)) d8_17_113 (nI_add a 9) ?_
          refine xj_put (a := rd) (fs' := [.ref gw9, .int 0, .ref 18, .int (nI pl), .int (nI (a + 9)), .ref ga9, .int (nI r.length)]) d8_17_114 f8_30_4 ((ho1 rd (by omega)).trans kR) (by omega) (show rd < M1.1 by omega) (Nat.le_of_ble_eq_true rfl) rfl rfl rfl ?_
          refine xj_abs_set (fun M2 hs2 ha2 ho2 => ?_)
          refine xj_goto (tgt := 125) d8_17_117 rfl ?_
          have hp9 : pItem fp pl (a, 0, cs) = (a + 9, 0, pCls fp pl (a + 2) cs) := (if_pos ⟨h0, h1⟩).trans (if_pos (Or.inr (Or.inl pl9)))
          have hcs := pCls_0 (fp := fp) (pl := pl) (k := a + 2) (cs := cs) (l := true) (u := false) (d := false) ⟨fun _ => Or.inr pl9, fun _ => rfl⟩ ⟨fun q => absurd q (show ¬ false = true by decide), fun q => absurd q (fun q => q.elim na nu)⟩ ⟨fun q => absurd q (show ¬ false = true by decide), fun q => absurd q nd⟩
          exact xj_ret d8_17_125 (by omega) (by omega) rfl ⟨rfl, by rw [hp9]; exact ⟨fun _ => hgo M2 (a + 9) _ _ (by omega) ha2 ((ho2 S (by omega)).trans ha1) (by rw [hcs]; exact (cB_ls (u := 97) (v := 122) kB (by decide) (by decide) (by decide))) (fun y hlt hy hyS => ((ho2 y (by omega)).trans (ho1 y (by omega)))), fun q => absurd rfl q⟩⟩
      · have nl := pl9
        by_cases pu : pUpp fp pl (a + 2)
        · skip
          have sa : ¬ pStd fp pl a 1 := fun q => na ((pStd_iff (c1 := 97) (c2 := 108) (c3 := 112) (c4 := 104) (c5 := 97) (by decide +kernel) h0 h1).mp q)
          have sl : ¬ pStd fp pl a 2 := fun q => nl ((pStd_iff (c1 := 108) (c2 := 111) (c3 := 119) (c4 := 101) (c5 := 114) (by decide +kernel) h0 h1).mp q)
          have su : pStd fp pl a 3 := (pStd_iff (c1 := 117) (c2 := 112) (c3 := 112) (c4 := 101) (c5 := 114) (by decide +kernel) h0 h1).mpr pu
          have sd : ¬ pStd fp pl a 4 := fun q => nd ((pStd_iff (c1 := 100) (c2 := 105) (c3 := 103) (c4 := 105) (c5 := 116) (by decide +kernel) h0 h1).mp q)
          refine xc_of hg (by decide) (Nat.le_of_ble_eq_true rfl) (Or.inr (Or.inr (Or.inr (Or.inr (Or.inl ⟨rfl, rfl, fun v M' h => h.1⟩))))) ?_
          refine xj_aload_n (i := 0) d8_17_0 rfl rfl ?_
          refine xj_ldcS (a := 3) hSC.2.2.2.2.1 d8_17_1 ?_
          refine xj_callV (rest := []) (As := [.ref 3]) (b := rd) (kStandV hg hxn hSC (i := 1) (V := 0) (by omega) (by omega) (by omega) kR k18 (by omega) hpl hpx hPR (by decide) (by decide) (xB_f sa)) d8_17_3 wd8_18 kR (by omega) (show rd < M.1 by omega) rfl s8_18 w682 (Or.inl w680) rfl rfl (Nat.le_of_ble_eq_true rfl) (by omega) (by omega) (by omega) ?_
          rintro v M' ⟨rfl, hm⟩
          subst M'
          refine xj_istore_n (i := 2) (L' := [(2, .int 0), (0, .ref rd), (1, .ref S)]) d8_17_6 rfl (by decide) rfl ?_
          refine xj_iload_n (i := 2) d8_17_7 rfl rfl ?_
          refine xj_if_ne (tgt := 20) d8_17_8 rfl (fun h => absurd (by decide) h) (fun _ => ?_)
          refine xj_aload_n (i := 0) d8_17_11 rfl rfl ?_
          refine xj_ldcS (a := 4) hSC.2.2.2.2.2.1 d8_17_12 ?_
          refine xj_callV (rest := []) (As := [.ref 4]) (b := rd) (kStandV hg hxn hSC (i := 2) (V := 0) (by omega) (by omega) (by omega) kR k18 (by omega) hpl hpx hPR (by decide) (by decide) (xB_f sl)) d8_17_14 wd8_18 kR (by omega) (show rd < M.1 by omega) rfl s8_18 w682 (Or.inl w680) rfl rfl (Nat.le_of_ble_eq_true rfl) (by omega) (by omega) (by omega) ?_
          rintro v M' ⟨rfl, hm⟩
          subst M'
          refine xj_if_eq (tgt := 24) d8_17_17 rfl (fun _ => ?_) (fun h => absurd (by decide) h)
          refine xj_iconst (v := 0) d8_17_24 (by decide) ?_
          refine xj_istore_n (i := 3) (L' := [(3, .int 0), (2, .int 0), (0, .ref rd), (1, .ref S)]) d8_17_25 rfl (by decide) rfl ?_
          refine xj_iload_n (i := 2) d8_17_26 rfl rfl ?_
          refine xj_if_ne (tgt := 39) d8_17_27 rfl (fun h => absurd (by decide) h) (fun _ => ?_)
          refine xj_aload_n (i := 0) d8_17_30 rfl rfl ?_
          refine xj_ldcS (a := 5) hSC.2.2.2.2.2.2.1 d8_17_31 ?_
          refine xj_callV (rest := []) (As := [.ref 5]) (b := rd) (kStandV hg hxn hSC (i := 3) (V := 1) (by omega) (by omega) (by omega) kR k18 (by omega) hpl hpx hPR (by decide) (by decide) (xB_t su)) d8_17_33 wd8_18 kR (by omega) (show rd < M.1 by omega) rfl s8_18 w682 (Or.inl w680) rfl rfl (Nat.le_of_ble_eq_true rfl) (by omega) (by omega) (by omega) ?_
          rintro v M' ⟨rfl, hm⟩
          subst M'
          refine xj_if_eq (tgt := 43) d8_17_36 rfl (fun h => absurd h (by decide)) (fun _ => ?_)
          refine xj_iconst (v := 1) d8_17_39 (by decide) ?_
          refine xj_goto (tgt := 44) d8_17_40 rfl ?_
          refine xj_istore (i := 4) (L' := [(4, .int 1), (3, .int 0), (2, .int 0), (0, .ref rd), (1, .ref S)]) d8_17_44 (by decide) rfl ?_
          refine xj_aload_n (i := 0) d8_17_46 rfl rfl ?_
          refine xj_ldcS (a := 6) hSC.2.2.2.2.2.2.2 d8_17_47 ?_
          refine xj_callV (rest := []) (As := [.ref 6]) (b := rd) (kStandV hg hxn hSC (i := 4) (V := 0) (by omega) (by omega) (by omega) kR k18 (by omega) hpl hpx hPR (by decide) (by decide) (xB_f sd)) d8_17_49 wd8_18 kR (by omega) (show rd < M.1 by omega) rfl s8_18 w682 (Or.inl w680) rfl rfl (Nat.le_of_ble_eq_true rfl) (by omega) (by omega) (by omega) ?_
          rintro v M' ⟨rfl, hm⟩
          subst M'
          refine xj_istore (i := 5) (L' := [(5, .int 0), (4, .int 1), (3, .int 0), (2, .int 0), (0, .ref rd), (1, .ref S)]) d8_17_52 (by decide) rfl ?_
          refine xj_iload_n (i := 3) d8_17_54 rfl rfl ?_
          refine xj_if_eq (tgt := 66) d8_17_55 rfl (fun _ => ?_) (fun h => absurd (by decide) h)
          refine xj_iload (i := 4) d8_17_66 rfl ?_
          refine xj_if_eq (tgt := 79) d8_17_68 rfl (fun h => absurd h (by decide)) (fun _ => ?_)
          refine xj_aload_n (i := 1) d8_17_71 rfl rfl ?_
          refine xj_bipush (v := 65) d8_17_72 (by decide) ?_
          refine xj_bipush (v := 90) d8_17_74 (by decide) ?_
          refine xj_callV (rest := []) (As := [.int 65, .int 90]) (b := S) (xList hg hxn (M := M) (n := M.1) (u0 := 65) (v0 := 90) (q := z) rfl (by omega) (by omega) (by omega) kS (by omega) (by omega)) d8_17_76 wd4_2 kS (by omega) (show S < M.1 by omega) rfl w645 w644 (Or.inl w643) rfl rfl (Nat.le_of_ble_eq_true rfl) (by omega) (by omega) (by omega) ?_
          rintro v M1 ⟨rfl, hs1, ho1, ha1⟩
          refine xj_iload (i := 5) d8_17_79 rfl ?_
          refine xj_if_eq (tgt := 92) d8_17_81 rfl (fun _ => ?_) (fun h => absurd (by decide) h)
          refine xj_iload_n (i := 3) d8_17_92 rfl rfl ?_
          refine xj_if_ne (tgt := 106) d8_17_93 rfl (fun h => absurd (by decide) h) (fun _ => ?_)
          refine xj_iload (i := 4) d8_17_96 rfl ?_
          refine xj_if_ne (tgt := 106) d8_17_98 rfl (fun _ => ?_) (fun h => absurd h (by decide))
          refine xj_aload_n (i := 0) d8_17_106 rfl rfl ?_
          refine xj_dup d8_17_107 rfl ?_
          refine xj_get d8_17_108 f8_30_4 ((ho1 rd (by omega)).trans kR) (by omega) (show rd < M1.1 by omega) rfl ?_
          refine xj_bipush (v := 9) d8_17_111 (by decide) ?_
          refine xj_iadd (v := nI (a + 9)) d8_17_113 (nI_add a 9) ?_
          refine xj_put (a := rd) (fs' := [.ref gw9, .int 0, .ref 18, .int (nI pl), .int (nI (a + 9)), .ref ga9, .int (nI r.length)]) d8_17_114 f8_30_4 ((ho1 rd (by omega)).trans kR) (by omega) (show rd < M1.1 by omega) (Nat.le_of_ble_eq_true rfl) rfl rfl rfl ?_
          refine xj_abs_set (fun M2 hs2 ha2 ho2 => ?_)
          refine xj_goto (tgt := 125) d8_17_117 rfl ?_
          have hp9 : pItem fp pl (a, 0, cs) = (a + 9, 0, pCls fp pl (a + 2) cs) := (if_pos ⟨h0, h1⟩).trans (if_pos (Or.inr (Or.inr (Or.inl pu))))
          have hcs := pCls_0 (fp := fp) (pl := pl) (k := a + 2) (cs := cs) (l := false) (u := true) (d := false) ⟨fun q => absurd q (show ¬ false = true by decide), fun q => absurd q (fun q => q.elim na nl)⟩ ⟨fun _ => Or.inr pu, fun _ => rfl⟩ ⟨fun q => absurd q (show ¬ false = true by decide), fun q => absurd q nd⟩
          exact xj_ret d8_17_125 (by omega) (by omega) rfl ⟨rfl, by rw [hp9]; exact ⟨fun _ => hgo M2 (a + 9) _ _ (by omega) ha2 ((ho2 S (by omega)).trans ha1) (by rw [hcs]; exact (cB_ls (u := 65) (v := 90) kB (by decide) (by decide) (by decide))) (fun y hlt hy hyS => ((ho2 y (by omega)).trans (ho1 y (by omega)))), fun q => absurd rfl q⟩⟩
        · have nu := pu
          have sa : ¬ pStd fp pl a 1 := fun q => na ((pStd_iff (c1 := 97) (c2 := 108) (c3 := 112) (c4 := 104) (c5 := 97) (by decide +kernel) h0 h1).mp q)
          have sl : ¬ pStd fp pl a 2 := fun q => nl ((pStd_iff (c1 := 108) (c2 := 111) (c3 := 119) (c4 := 101) (c5 := 114) (by decide +kernel) h0 h1).mp q)
          have su : ¬ pStd fp pl a 3 := fun q => nu ((pStd_iff (c1 := 117) (c2 := 112) (c3 := 112) (c4 := 101) (c5 := 114) (by decide +kernel) h0 h1).mp q)
          have sd : ¬ pStd fp pl a 4 := fun q => nd ((pStd_iff (c1 := 100) (c2 := 105) (c3 := 103) (c4 := 105) (c5 := 116) (by decide +kernel) h0 h1).mp q)
          refine xc_of hg (by decide) (Nat.le_of_ble_eq_true rfl) (Or.inr (Or.inr (Or.inr (Or.inr (Or.inl ⟨rfl, rfl, fun v M' h => h.1⟩))))) ?_
          refine xj_aload_n (i := 0) d8_17_0 rfl rfl ?_
          refine xj_ldcS (a := 3) hSC.2.2.2.2.1 d8_17_1 ?_
          refine xj_callV (rest := []) (As := [.ref 3]) (b := rd) (kStandV hg hxn hSC (i := 1) (V := 0) (by omega) (by omega) (by omega) kR k18 (by omega) hpl hpx hPR (by decide) (by decide) (xB_f sa)) d8_17_3 wd8_18 kR (by omega) (show rd < M.1 by omega) rfl s8_18 w682 (Or.inl w680) rfl rfl (Nat.le_of_ble_eq_true rfl) (by omega) (by omega) (by omega) ?_
          rintro v M' ⟨rfl, hm⟩
          subst M'
          refine xj_istore_n (i := 2) (L' := [(2, .int 0), (0, .ref rd), (1, .ref S)]) d8_17_6 rfl (by decide) rfl ?_
          refine xj_iload_n (i := 2) d8_17_7 rfl rfl ?_
          refine xj_if_ne (tgt := 20) d8_17_8 rfl (fun h => absurd (by decide) h) (fun _ => ?_)
          refine xj_aload_n (i := 0) d8_17_11 rfl rfl ?_
          refine xj_ldcS (a := 4) hSC.2.2.2.2.2.1 d8_17_12 ?_
          refine xj_callV (rest := []) (As := [.ref 4]) (b := rd) (kStandV hg hxn hSC (i := 2) (V := 0) (by omega) (by omega) (by omega) kR k18 (by omega) hpl hpx hPR (by decide) (by decide) (xB_f sl)) d8_17_14 wd8_18 kR (by omega) (show rd < M.1 by omega) rfl s8_18 w682 (Or.inl w680) rfl rfl (Nat.le_of_ble_eq_true rfl) (by omega) (by omega) (by omega) ?_
          rintro v M' ⟨rfl, hm⟩
          subst M'
          refine xj_if_eq (tgt := 24) d8_17_17 rfl (fun _ => ?_) (fun h => absurd (by decide) h)
          refine xj_iconst (v := 0) d8_17_24 (by decide) ?_
          refine xj_istore_n (i := 3) (L' := [(3, .int 0), (2, .int 0), (0, .ref rd), (1, .ref S)]) d8_17_25 rfl (by decide) rfl ?_
          refine xj_iload_n (i := 2) d8_17_26 rfl rfl ?_
          refine xj_if_ne (tgt := 39) d8_17_27 rfl (fun h => absurd (by decide) h) (fun _ => ?_)
          refine xj_aload_n (i := 0) d8_17_30 rfl rfl ?_
          refine xj_ldcS (a := 5) hSC.2.2.2.2.2.2.1 d8_17_31 ?_
          refine xj_callV (rest := []) (As := [.ref 5]) (b := rd) (kStandV hg hxn hSC (i := 3) (V := 0) (by omega) (by omega) (by omega) kR k18 (by omega) hpl hpx hPR (by decide) (by decide) (xB_f su)) d8_17_33 wd8_18 kR (by omega) (show rd < M.1 by omega) rfl s8_18 w682 (Or.inl w680) rfl rfl (Nat.le_of_ble_eq_true rfl) (by omega) (by omega) (by omega) ?_
          rintro v M' ⟨rfl, hm⟩
          subst M'
          refine xj_if_eq (tgt := 43) d8_17_36 rfl (fun _ => ?_) (fun h => absurd (by decide) h)
          refine xj_iconst (v := 0) d8_17_43 (by decide) ?_
          refine xj_istore (i := 4) (L' := [(4, .int 0), (3, .int 0), (2, .int 0), (0, .ref rd), (1, .ref S)]) d8_17_44 (by decide) rfl ?_
          refine xj_aload_n (i := 0) d8_17_46 rfl rfl ?_
          refine xj_ldcS (a := 6) hSC.2.2.2.2.2.2.2 d8_17_47 ?_
          refine xj_callV (rest := []) (As := [.ref 6]) (b := rd) (kStandV hg hxn hSC (i := 4) (V := 0) (by omega) (by omega) (by omega) kR k18 (by omega) hpl hpx hPR (by decide) (by decide) (xB_f sd)) d8_17_49 wd8_18 kR (by omega) (show rd < M.1 by omega) rfl s8_18 w682 (Or.inl w680) rfl rfl (Nat.le_of_ble_eq_true rfl) (by omega) (by omega) (by omega) ?_
          rintro v M' ⟨rfl, hm⟩
          subst M'
          refine xj_istore (i := 5) (L' := [(5, .int 0), (4, .int 0), (3, .int 0), (2, .int 0), (0, .ref rd), (1, .ref S)]) d8_17_52 (by decide) rfl ?_
          refine xj_iload_n (i := 3) d8_17_54 rfl rfl ?_
          refine xj_if_eq (tgt := 66) d8_17_55 rfl (fun _ => ?_) (fun h => absurd (by decide) h)
          refine xj_iload (i := 4) d8_17_66 rfl ?_
          refine xj_if_eq (tgt := 79) d8_17_68 rfl (fun _ => ?_) (fun h => absurd (by decide) h)
          refine xj_iload (i := 5) d8_17_79 rfl ?_
          refine xj_if_eq (tgt := 92) d8_17_81 rfl (fun _ => ?_) (fun h => absurd (by decide) h)
          refine xj_iload_n (i := 3) d8_17_92 rfl rfl ?_
          refine xj_if_ne (tgt := 106) d8_17_93 rfl (fun h => absurd (by decide) h) (fun _ => ?_)
          refine xj_iload (i := 4) d8_17_96 rfl ?_
          refine xj_if_ne (tgt := 106) d8_17_98 rfl (fun h => absurd (by decide) h) (fun _ => ?_)
          refine xj_iload (i := 5) d8_17_101 rfl ?_
          refine xj_if_eq (tgt := 120) d8_17_103 rfl (fun _ => ?_) (fun h => absurd (by decide) h)
          refine xj_aload_n (i := 0) d8_17_120 rfl rfl ?_
          refine xj_iconst (v := 5) d8_17_121 (by decide) ?_
          refine xj_put (a := rd) (fs' := [.ref gw9, .int 5, .ref 18, .int (nI pl), .int (nI a), .ref ga9, .int (nI r.length)]) d8_17_122 f8_33_4 kR (by omega) (show rd < M.1 by omega) (Nat.le_of_ble_eq_true rfl) rfl rfl rfl ?_
          refine xj_abs_set (fun M1 hs1 ha1 ho1 => ?_)
          have hp9 : pItem fp pl (a, 0, cs) = (a + 2, 5, cs) := (if_pos ⟨h0, h1⟩).trans (if_neg (by rintro (q | q | q | q); exact na q; exact nl q; exact nu q; exact nd q))
          exact xj_ret d8_17_125 (by omega) (by omega) rfl ⟨rfl, by rw [hp9]; exact ⟨fun q => absurd q (show ¬ (5 : Int32) = 0 by decide), fun _ => hfa M1 5 (by omega) ha1 (by omega) (fun y hlt hy hyS => (ho1 y (by omega)))⟩⟩

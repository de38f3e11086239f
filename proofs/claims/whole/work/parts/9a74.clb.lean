set_option maxRecDepth 20000 in
theorem wJd0 {G : xG} (hg : xGood G) {M : xM} {n : Nat} (hn : M.1 = n) (hx : xn ≤ n) {nd : Nat} {al : Nat} {pa : Nat} {cu : Nat} {fl : Int32} (h1_nd : xn ≤ nd) (h2_nd : nd < n) (h_nd : M.2 nd = (.inr (7, [.ref al, .ref pa, .ref cu, .int fl]))) (hf : fl = 0) : XC G Y6_3 (some (.object "TrigramLines$Words")) 0 0 0 [.ref nd] M (fun v M' => v = some (.null) ∧ M' = M) := by
  refine xc_of hg (by decide) (Nat.le_of_ble_eq_true rfl) (Or.inr (Or.inr (Or.inr (Or.inr (Or.inr ⟨⟨_, rfl, Or.inl ⟨_, rfl⟩⟩, rfl, fun v M' h => Or.inl h.1⟩))))) ?_
  refine xj_aload_n (i := 0) d6_3_0 rfl rfl ?_
  refine xj_get d6_3_1 f6_29_7 h_nd (by omega) (show nd < M.1 by omega) rfl ?_
  refine xj_if_eq (tgt := 14) d6_3_4 rfl (fun _ => ?_) (fun h => absurd hf h)
  refine xj_null d6_3_14 ?_
  exact xj_ret d6_3_15 (by omega) (by omega) rfl ⟨rfl, rfl⟩
set_option maxRecDepth 20000 in
theorem wJd1 {G : xG} (hg : xGood G) {M : xM} {n : Nat} (hn : M.1 = n) (hx : xn ≤ n) {nd : Nat} {al : Nat} {pa : Nat} {cu : Nat} {fl : Int32} (h1_nd : xn ≤ nd) (h2_nd : nd < n) (h_nd : M.2 nd = (.inr (7, [.ref al, .ref pa, .ref cu, .int fl]))) (hf : ¬ fl = 0) : XC G Y6_3 (some (.object "TrigramLines$Words")) 0 0 0 [.ref nd] M (fun v M' => v = some (.ref cu) ∧ M' = M) := by
  refine xc_of hg (by decide) (Nat.le_of_ble_eq_true rfl) (Or.inr (Or.inr (Or.inr (Or.inr (Or.inr ⟨⟨_, rfl, Or.inl ⟨_, rfl⟩⟩, rfl, fun v M' h => Or.inr ⟨_, h.1⟩⟩))))) ?_
  refine xj_aload_n (i := 0) d6_3_0 rfl rfl ?_
  refine xj_get d6_3_1 f6_29_7 h_nd (by omega) (show nd < M.1 by omega) rfl ?_
  refine xj_if_eq (tgt := 14) d6_3_4 rfl (fun h => absurd h hf) (fun _ => ?_)
  refine xj_aload_n (i := 0) d6_3_7 rfl rfl ?_
  refine xj_get d6_3_8 f6_25_7 h_nd (by omega) (show nd < M.1 by omega) rfl ?_
  refine xj_goto (tgt := 15) d6_3_11 rfl ?_
  exact xj_ret d6_3_15 (by omega) (by omega) rfl ⟨rfl, rfl⟩
/-- a part's words may be learnt whatever else there is -/
def kIH (G : xG) (rk ad : Nat → Nat) (μ : Nat → xMu) (A : List xNode) (lo : Nat → Nat) (d0 c : Nat) : Prop := ∀ (M : xM) (ow : Nat → Nat) (ℓ : Nat → xLk), cA M ow rk ad ℓ μ A → (∀ j, lo c ≤ j → j ≤ c → ℓ j = lk0) → XC G (yV_learnWords (pNd A c).1) none d0 (pC A (c + 1) - pC A (lo c)) (30 * (pC A (c + 1) - pC A (lo c))) [.ref (ad c)] M (kLP M ow rk ad ℓ μ A (lo c) c)
set_option maxRecDepth 20000 in
set_option maxHeartbeats 4000000 in
theorem kLBL {G : xG} (hg : xGood G) (hxn : xn = 16) (hZ : va_Z "java/util/ArrayList" "DEFAULTCAPACITY_EMPTY_ELEMENTDATA" "[Ljava/lang/Object;" (.ref (xa G 1)) (fun q => (xs G).heap.size ≤ q) (xs G) (xs G).heap) (hT : va_T (.object "java/lang/Object") (xa G 1) 0 (fun _ => .null) (fun q => (xs G).heap.size ≤ q) (xs G) (xs G).heap) (hMi : xHM G) {rk ad : Nat → Nat} {μ : Nat → xMu} {A : List xNode} {lo : Nat → Nat} {i : Nat} {q : xNode} (hk1 : rk 1 = 1) (hO : ∀ (i : Nat) (q : xNode), A[i]? = some q → pOk A lo i q) (hq : A[i]? = some q) (hA26 : A.length ≤ 26) (hk : q.1 = 5) {M0 : xM} {ow0 : Nat → Nat} {ℓ : Nat → xLk} (hℓ : ∀ j, lo i ≤ j → j ≤ i → ℓ j = lk0) {d0 : Nat} (hIH : ∀ c ∈ q.2.2.1, kIH G rk ad μ A lo d0 c) {d ce se : Nat} (hd : d0 + 1 ≤ d) (hd9 : 9 ≤ d) : ∀ (rest dn : List Nat) (s : Nat) (M : xM) (ow : Nat → Nat) (cells slots : Nat), q.2.2.1 = dn ++ rest → pIv lo s rest i → lo i ≤ s → M0.1 ≤ M.1 → (∀ y, y < M0.1 → ow y = ow0 y) → (∀ y, y < M0.1 → ¬ (3 * lo i + 100 ≤ rk (ow0 y) ∧ rk (ow0 y) < 3 * i + 103) → M.2 y = M0.2 y) → cA M ow rk ad (lB ℓ A (lo i) s i (sAlong (fun c => (sLr A c).1) dn)) μ A → cells + ((pC A i - pC A s) + 5 * rest.length) ≤ ce → slots + 30 * ((pC A i - pC A s) + 5 * rest.length) ≤ se → XJ G Y3_7 d ce se cells slots 2 [(1, .int (nI dn.length)), (0, .ref (ad i))] [] M (kLP M0 ow0 rk ad ℓ μ A (lo i) i) := by
  obtain ⟨X, hXe⟩ : ∃ X, ad i = X := ⟨_, rfl⟩
  rw [hXe]
  have hiA : i < A.length := (List.getElem?_eq_some_iff.mp hq).1
  have hok := hO i q hq
  have hiv0 := pIv_le hok.1
  have hlo : lo i ≤ i := by
    have := hiv0.1
    omega
  intro rest
  induction rest with
  | nil =>
    intro dn s M ow cells slots hsp hiv hls hm how hfr hA hcc hss
    have hs : s = i := hiv
    subst hs
    have hlen : q.2.2.1.length = dn.length := by rw [hsp, List.append_nil]
    have hcd : q.2.2.1 = dn := by rw [hsp, List.append_nil]
    obtain ⟨Z, hZ9⟩ : ∃ Z, Z = sAlong (fun c => (sLr A c).1) dn := ⟨_, rfl⟩
    rw [← hZ9] at hA
    have hsl : sLr A s = (sJoined Z, Z) := by
      rw [sLr_at A (pOk_c hO) s q hq, hZ9, ← hcd]
      unfold sNode
      rw [if_neg (by omega), if_neg (by omega), if_neg (by omega), if_pos hk]
    have hNA := hA s q hq
    rw [lB_i (Nat.le_refl _), hXe] at hNA
    obtain ⟨wvA, hvA, ⟨x1A, x2A, x3A, x4A⟩, -, -, -, k5A, -⟩ := id hNA
    have hv0A : wvA = .null := by
      rcases hvA with ⟨-, h⟩ | ⟨S, a, h, -⟩
      · exact h
      · cases h
    subst hv0A
    obtain ⟨pA, ndA, h_XA, ⟨⟨p1A, p2A, p3A, p4A⟩, p5A⟩, hndA⟩ := k5A hk
    obtain ⟨elA, moA, h_pA, -⟩ := xLs_len p5A
    rw [List.length_map] at h_pA
    obtain ⟨alA, paA, cuA, laA, ⟨n1A, n2A, n3A, n4A⟩, k_ndA, -, -, -, -, hcuA⟩ := id hndA
    by_cases hf : Z.2.2.2 = 0
    · skip
      refine xj_iload_n (i := 1) d3_7_2 rfl rfl ?_
      refine xj_aload_n (i := 0) d3_7_3 rfl rfl ?_
      refine xj_get d3_7_4 f3_10_6 h_XA (by omega) (show X < M.1 by omega) rfl ?_
      refine xj_callV (rest := [.int (nI dn.length)]) (As := []) (b := pA) (cSize hg (M := M) (n := M.1) (a := pA) (el := elA) (sz := nI q.2.2.1.length) (mo := moA) rfl (by omega) (by omega) (by omega) h_pA) d3_7_7 wd28_8 h_pA (by omega) (show pA < M.1 by omega) rfl w230 w229 (Or.inl w478) rfl rfl (Nat.le_of_ble_eq_true rfl) (by omega) (by omega) (by omega) ?_
      rintro v M' ⟨rfl, hm⟩
      subst M'
      refine xj_icmp_ge (tgt := 51) d3_7_10 rfl (fun _ => ?_) (fun h => absurd (nI_le (a := q.2.2.1.length) (b := dn.length) (by omega) (by omega)) h)
      refine xj_aload_n (i := 0) d3_7_51 rfl rfl ?_
      refine xj_aload_n (i := 0) d3_7_52 rfl rfl ?_
      refine xj_get d3_7_53 f3_19_6 h_XA (by omega) (show X < M.1 by omega) rfl ?_
      refine xj_callV (rest := [.ref X]) (As := []) (b := ndA) (wJd0 hg (M := M) (n := M.1) (nd := ndA) (al := alA) (pa := paA) (cu := cuA) (fl := Z.2.2.2) rfl (by omega) (by omega) (by omega) k_ndA hf) d3_7_56 wd6_3 k_ndA (by omega) (show ndA < M.1 by omega) rfl w805 w804 (Or.inl w808) rfl rfl (Nat.le_of_ble_eq_true rfl) (by omega) (by omega) (by omega) ?_
      rintro v M' ⟨rfl, hm⟩
      subst M'
      refine xj_put (a := X) (fs' := [.ref pA, .ref ndA, .null]) d3_7_59 f3_64_6 h_XA (by omega) (show X < M.1 by omega) (Nat.le_of_ble_eq_true rfl) rfl rfl rfl ?_
      refine xj_abs_set (fun M1 hs1 ha1 ho1 => ?_)
      have hfr9 : ∀ y, y < M.1 → y ≠ X → M1.2 y = M.2 y := fun y hy hy2 => (ho1 y (by omega))
      have hcv : cV M1 ow .null (sJoined Z) := Or.inl ⟨if_pos hf, rfl⟩
      have hnw := cN_wd (M' := M1) (ow' := ow) hNA hk1 (by omega) (by omega) (fun _ _ => rfl) hfr9 (hx_of (l0 := [.ref pA, .ref ndA]) h_XA ha1) hcv
      refine xj_ret d3_7_62 (by omega) (by omega) rfl ⟨rfl, by omega, ow, how, fun y hy z => (hfr9 y (by omega) (fun e => z (by rw [← how y hy, e, x3A, x4A]; omega))).trans (hfr y hy z), ?_⟩
      rw [← lB_e (z := Z) hlo]
      refine cA_up hA hk1 (by omega) (fun _ _ => rfl) (fun y hy z => hfr9 y hy (fun e => z (by rw [e, x3A, x4A]; omega))) (fun p9 hp9 => ?_)
      rw [hq] at hp9
      have hpq : q = p9 := Option.some.inj hp9
      rw [hsl, ← hpq, hXe]
      exact hnw
    · skip
      refine xj_iload_n (i := 1) d3_7_2 rfl rfl ?_
      refine xj_aload_n (i := 0) d3_7_3 rfl rfl ?_
      refine xj_get d3_7_4 f3_10_6 h_XA (by omega) (show X < M.1 by omega) rfl ?_
      refine xj_callV (rest := [.int (nI dn.length)]) (As := []) (b := pA) (cSize hg (M := M) (n := M.1) (a := pA) (el := elA) (sz := nI q.2.2.1.length) (mo := moA) rfl (by omega) (by omega) (by omega) h_pA) d3_7_7 wd28_8 h_pA (by omega) (show pA < M.1 by omega) rfl w230 w229 (Or.inl w478) rfl rfl (Nat.le_of_ble_eq_true rfl) (by omega) (by omega) (by omega) ?_
      rintro v M' ⟨rfl, hm⟩
      subst M'
      refine xj_icmp_ge (tgt := 51) d3_7_10 rfl (fun _ => ?_) (fun h => absurd (nI_le (a := q.2.2.1.length) (b := dn.length) (by omega) (by omega)) h)
      refine xj_aload_n (i := 0) d3_7_51 rfl rfl ?_
      refine xj_aload_n (i := 0) d3_7_52 rfl rfl ?_
      refine xj_get d3_7_53 f3_19_6 h_XA (by omega) (show X < M.1 by omega) rfl ?_
      refine xj_callV (rest := [.ref X]) (As := []) (b := ndA) (wJd1 hg (M := M) (n := M.1) (nd := ndA) (al := alA) (pa := paA) (cu := cuA) (fl := Z.2.2.2) rfl (by omega) (by omega) (by omega) k_ndA hf) d3_7_56 wd6_3 k_ndA (by omega) (show ndA < M.1 by omega) rfl w805 w804 (Or.inl w808) rfl rfl (Nat.le_of_ble_eq_true rfl) (by omega) (by omega) (by omega) ?_
      rintro v M' ⟨rfl, hm⟩
      subst M'
      refine xj_put (a := X) (fs' := [.ref pA, .ref ndA, .ref cuA]) d3_7_59 f3_64_6 h_XA (by omega) (show X < M.1 by omega) (Nat.le_of_ble_eq_true rfl) rfl rfl rfl ?_
      refine xj_abs_set (fun M1 hs1 ha1 ho1 => ?_)
      have hfr9 : ∀ y, y < M.1 → y ≠ X → M1.2 y = M.2 y := fun y hy hy2 => (ho1 y (by omega))
      have hcv : cV M1 ow (.ref cuA) (sJoined Z) := Or.inr ⟨_, cuA, if_neg hf, rfl, cW_fr hcuA (by omega) (fun _ _ => rfl) (fun y hy e => hfr9 y hy (fun w => by rw [w, x3A] at e; omega))⟩
      have hnw := cN_wd (M' := M1) (ow' := ow) hNA hk1 (by omega) (by omega) (fun _ _ => rfl) hfr9 (hx_of (l0 := [.ref pA, .ref ndA]) h_XA ha1) hcv
      refine xj_ret d3_7_62 (by omega) (by omega) rfl ⟨rfl, by omega, ow, how, fun y hy z => (hfr9 y (by omega) (fun e => z (by rw [← how y hy, e, x3A, x4A]; omega))).trans (hfr y hy z), ?_⟩
      rw [← lB_e (z := Z) hlo]
      refine cA_up hA hk1 (by omega) (fun _ _ => rfl) (fun y hy z => hfr9 y hy (fun e => z (by rw [e, x3A, x4A]; omega))) (fun p9 hp9 => ?_)
      rw [hq] at hp9
      have hpq : q = p9 := Option.some.inj hp9
      rw [hsl, ← hpq, hXe]
      exact hnw
  | cons c rest ih =>
    intro dn s M ow cells slots hsp hiv hls hm how hfr hA hcc hss
    rw [List.length_cons] at hcc hss
    obtain ⟨hcm, hlen⟩ : c ∈ q.2.2.1 ∧ q.2.2.1.length = dn.length + (rest.length + 1) := by
      rw [hsp]
      exact ⟨by simp, by rw [List.length_append, List.length_cons]⟩
    have hcb := hiv0.2 c hcm
    have hci : c + 1 ≤ i := hcb.2.1
    have hcA : c < A.length := by omega
    have hkc := (hO c _ (xnd_at hcA)).2.1
    have hkc5 : ¬ (pNd A c).1 = 5 := hok.2.2.2.2.2.2 (by omega) c hcm
    have g1 := pC_le (A := A) (show s ≤ c + 1 by have := hiv.2.1; omega)
    have g2 := pC_le (A := A) hci
    obtain ⟨Z, hZ9⟩ : ∃ Z, Z = sAlong (fun c => (sLr A c).1) dn := ⟨_, rfl⟩
    rw [← hZ9] at hA
    have hzin : ∀ c9 ∈ Z.2.1, c9 ∈ q.2.2.1 := fun c9 h9 => by
      rw [hsp]
      exact List.mem_append_left _ ((sAlong_in _ dn).1 c9 (by rw [← hZ9]; exact h9))
    have hzl1 : Z.1.length ≤ dn.length := by rw [hZ9]; exact (sAlong_in _ dn).2.1
    have hzl2 : Z.2.1.length ≤ dn.length := by rw [hZ9]; exact (sAlong_in _ dn).2.2
    have hlen25 : q.2.2.1.length ≤ 25 := by
      have := hiv0.1
      omega
    have hW := hIH c hcm M ow _ hA (fun j h1 h2 => (lB_d (by have := hiv.1; omega) (by omega)).trans (hℓ j (by have := hiv.1; omega) (by omega)))
    obtain ⟨y, hy⟩ : ∃ y, ad c = y := ⟨_, rfl⟩
    have hNc := hA c _ (xnd_at hcA)
    rw [hy] at hNc hW
    have hgl : (q.2.2.1.map ad)[dn.length]? = some y := by
      rw [hsp, List.map_append, List.getElem?_append_right (by rw [List.length_map]; exact Nat.le_refl _), List.length_map, Nat.sub_self, ← hy]
      rfl
    obtain ⟨y1, y2, bc_y, bf_y, bC_y, bT_y, bN_y, x3, hc_y, hA_y, x6, x7, hP_y⟩ := cN_ob hNc hkc.1 hkc.2
    replace hP_y := hP_y hkc5
    have hKc : pC A (c + 1) - pC A (lo c) = pC A (c + 1) - pC A s := by rw [hiv.1]
    rw [hKc] at hW
    have hNA := hA i q hq
    rw [lB_i (by have := hiv.2.1; omega), hXe] at hNA
    obtain ⟨wvA, hvA, ⟨x1A, x2A, x3A, x4A⟩, -, -, -, k5A, -⟩ := id hNA
    have hv0A : wvA = .null := by
      rcases hvA with ⟨-, h⟩ | ⟨S, a, h, -⟩
      · exact h
      · cases h
    subst hv0A
    obtain ⟨pA, ndA, h_XA, ⟨⟨p1A, p2A, p3A, p4A⟩, p5A⟩, hndA⟩ := k5A hk
    obtain ⟨elA, moA, h_pA, -⟩ := xLs_len p5A
    rw [List.length_map] at h_pA
    obtain ⟨alA, paA, cuA, laA, ⟨n1A, n2A, n3A, n4A⟩, k_ndA, -, -, -, -, hcuA⟩ := id hndA
    refine xj_iload_n (i := 1) d3_7_2 rfl rfl ?_
    refine xj_aload_n (i := 0) d3_7_3 rfl rfl ?_
    refine xj_get d3_7_4 f3_10_6 h_XA (by omega) (show X < M.1 by omega) rfl ?_
    refine xj_callV (rest := [.int (nI dn.length)]) (As := []) (b := pA) (cSize hg (M := M) (n := M.1) (a := pA) (el := elA) (sz := nI q.2.2.1.length) (mo := moA) rfl (by omega) (by omega) (by omega) h_pA) d3_7_7 wd28_8 h_pA (by omega) (show pA < M.1 by omega) rfl w230 w229 (Or.inl w478) rfl rfl (Nat.le_of_ble_eq_true rfl) (by omega) (by omega) (by omega) ?_
    rintro v M' ⟨rfl, hm⟩
    subst M'
    refine xj_icmp_ge (tgt := 51) d3_7_10 rfl (fun h => absurd h (nI_ge (a := dn.length) (b := q.2.2.1.length) (by omega) (by omega))) (fun _ => ?_)
    refine xj_aload_n (i := 0) d3_7_13 rfl rfl ?_
    refine xj_get d3_7_14 f3_10_6 h_XA (by omega) (show X < M.1 by omega) rfl ?_
    refine xj_iload_n (i := 1) d3_7_17 rfl rfl ?_
    refine xj_callV (rest := []) (As := [.int (nI dn.length)]) (b := pA) (xLs_get (k := dn.length) (b := y) hg p5A (by omega) (by omega) hgl) d3_7_18 wd28_20 h_pA (by omega) (show pA < M.1 by omega) rfl w248 w247 (Or.inl w479) rfl rfl (Nat.le_of_ble_eq_true rfl) (by omega) (by omega) (by omega) ?_
    rintro v M' ⟨rfl, hm0⟩
    subst M'
    refine xj_cast d3_7_21 w487 x3 (by omega) (show y < M.1 by omega) hc_y hP_y ?_
    refine xj_v_learnWords (rest := []) (As := []) hNc hkc.1 hkc.2 hkc5 hW d3_7_24 w747 rfl rfl (Nat.le_of_ble_eq_true rfl) (by omega) (by omega) (by omega) ?_
    rintro v M2 ⟨rfl, hm2, ow2, ho2, hf2, hA2⟩
    rw [hiv.1] at hf2 hA2
    rw [lB_c hls hiv.2.1 hci] at hA2
    have hNB := hA2 i q hq
    rw [lB_i hci, hXe] at hNB
    obtain ⟨wvB, hvB, ⟨x1B, x2B, x3B, x4B⟩, -, -, -, k5B, -⟩ := id hNB
    have hv0B : wvB = .null := by
      rcases hvB with ⟨-, h⟩ | ⟨S, a, h, -⟩
      · exact h
      · cases h
    subst hv0B
    obtain ⟨pB, ndB, h_XB, ⟨⟨p1B, p2B, p3B, p4B⟩, p5B⟩, hndB⟩ := k5B hk
    obtain ⟨elB, moB, h_pB, -⟩ := xLs_len p5B
    rw [List.length_map] at h_pB
    obtain ⟨alB, paB, cuB, laB, ⟨n1B, n2B, n3B, n4B⟩, k_ndB, -, -, -, -, hcuB⟩ := id hndB
    have hNc2 := hA2 c _ (xnd_at hcA)
    rw [lB_o (by omega) (by omega), hy] at hNc2
    obtain ⟨y1, y2, bc_y, bf_y, bC_y, bT_y, bN_y, x3, hc_y, hA_y, x6, x7, hP_y⟩ := cN_ob hNc2 hkc.1 hkc.2
    replace hP_y := hP_y hkc5
    refine xj_aload_n (i := 0) d3_7_27 rfl rfl ?_
    refine xj_get d3_7_28 f3_19_6 h_XB (by omega) (show X < M2.1 by omega) rfl ?_
    refine xj_aload_n (i := 0) d3_7_31 rfl rfl ?_
    refine xj_get d3_7_32 f3_10_6 h_XB (by omega) (show X < M2.1 by omega) rfl ?_
    refine xj_iload_n (i := 1) d3_7_35 rfl rfl ?_
    refine xj_callV (rest := [.ref ndB]) (As := [.int (nI dn.length)]) (b := pB) (xLs_get (k := dn.length) (b := y) hg p5B (by omega) (by omega) hgl) d3_7_36 wd28_20 h_pB (by omega) (show pB < M2.1 by omega) rfl w248 w247 (Or.inl w479) rfl rfl (Nat.le_of_ble_eq_true rfl) (by omega) (by omega) (by omega) ?_
    rintro v M' ⟨rfl, hm0⟩
    subst M'
    refine xj_cast d3_7_39 w487 x3 (by omega) (show y < M2.1 by omega) hc_y hP_y ?_
    have hpo : ∀ y ∈ (Z.2.1).map ad, (∃ (bc : Nat) (bf : List Value), M2.2 y = .inr (bc, bf) ∧ bc ≠ 2 ∧ bc ≠ 7) ∧ xOb M2 y := fun y9 hy9 => by
      obtain ⟨c9, hc9, rfl⟩ := List.mem_map.mp hy9
      have hc8 := (hO i q hq)
      have hcm9 := hzin c9 hc9
      have hcA9 : c9 < A.length := by have := ((pIv_le hc8.1).2 c9 hcm9).2.1; omega
      have hkc9 := (hO c9 _ (xnd_at hcA9)).2.1
      have hn9 := hA2 c9 _ (xnd_at hcA9)
      obtain ⟨w1, w2, bc', bf', bC', bT', bN', w3, w4, w5, -⟩ := cN_ob hn9 hkc9.1 hkc9.2
      exact ⟨cN_cl hn9 hkc9.1 hkc9.2, w1, w2, bc', bf', bC', bT', bN', w3, w4, w5⟩
    have hpo : ∀ y ∈ (Z.2.1).map ad, (∃ (bc : Nat) (bf : List Value), M2.2 y = .inr (bc, bf) ∧ bc ≠ 2 ∧ bc ≠ 7) ∧ xOb M2 y := fun y9 hy9 => by
      obtain ⟨c9, hc9, rfl⟩ := List.mem_map.mp hy9
      have hc8 := (hO i q hq)
      have hcm9 := hzin c9 hc9
      have hcA9 : c9 < A.length := by have := ((pIv_le hc8.1).2 c9 hcm9).2.1; omega
      have hkc9 := (hO c9 _ (xnd_at hcA9)).2.1
      have hn9 := hA2 c9 _ (xnd_at hcA9)
      obtain ⟨w1, w2, bc', bf', bC', bT', bN', w3, w4, w5, -⟩ := cN_ob hn9 hkc9.1 hkc9.2
      exact ⟨cN_cl hn9 hkc9.1 hkc9.2, w1, w2, bc', bf', bC', bT', bN', w3, w4, w5⟩
    refine xj_callV (rest := []) (As := [.ref y]) (b := ndB) (kFol hg hxn hZ hT hMi hk1 (T := 3 * i + 100 + 1) (c := c) (by omega) hndB hNc2 hkc.1 hkc.2 hkc5 hy (show Z.1.length ≤ 25 by omega) (show Z.2.1.length ≤ 25 by omega) hpo (fun h => by obtain ⟨fs, h9⟩ := h; obtain ⟨bc, bf, r1, -, r3⟩ := cN_cl hNc2 hkc.1 hkc.2; rw [r1] at h9; cases h9; exact r3 rfl)) d3_7_42 wd6_2 k_ndB (by omega) (show ndB < M2.1 by omega) rfl w793 w792 (Or.inl w807) rfl rfl (Nat.le_of_ble_eq_true rfl) (by omega) (by omega) (by omega) ?_
    rintro v M3 ⟨rfl, hm3, ow3, ho3, hf3, hnd3⟩
    refine xj_iinc (v := nI (dn.length + 1)) (L' := [(1, .int (nI (dn.length + 1))), (0, .ref X)]) d3_7_45 rfl (xinc _) (by decide) rfl ?_
    refine xj_goto (tgt := 2) d3_7_48 rfl ?_
    have hup : cA M3 ow3 rk ad (lB ℓ A (lo i) (c + 1) i (sAlong (fun c => (sLr A c).1) (dn ++ [c]))) μ A := by
      rw [sAlong_app, ← hZ9, ← lB_u (z := Z) hci]
      refine cA_up hA2 hk1 hm3 ho3 (fun y hy z => hf3 y hy (by omega)) (fun p9 hp9 => ?_)
      rw [hXe]
      rw [hq] at hp9
      have hpq : q = p9 := Option.some.inj hp9
      rw [← hpq]
      exact cN_nd hNB hk1 (by omega) hm3 ho3 hf3 (Or.inl ⟨pB, _, h_XB⟩) hnd3
    have h9 := ih (dn ++ [c]) (c + 1) M3 ow3 (cells + (pC A (c + 1) - pC A s) + 5) (slots + 30 * (pC A (c + 1) - pC A s) + 150) (by rw [hsp]; simp) hiv.2.2 (by omega) (by omega) (fun y hy => (ho3 y (by omega)).trans ((ho2 y (by omega)).trans (how y hy))) (fun y hy z => (hf3 y (by omega) (by rw [ho2 y (by omega), how y hy]; omega)).trans ((hf2 y (by omega) (by rw [how y hy]; omega)).trans (hfr y hy z))) hup (by omega) (by omega)
    rw [List.length_append, List.length_singleton] at h9
    exact h9
set_option maxRecDepth 20000 in
theorem kLwB {G : xG} (hg : xGood G) (hxn : xn = 16) (hZ : va_Z "java/util/ArrayList" "DEFAULTCAPACITY_EMPTY_ELEMENTDATA" "[Ljava/lang/Object;" (.ref (xa G 1)) (fun q => (xs G).heap.size ≤ q) (xs G) (xs G).heap) (hT : va_T (.object "java/lang/Object") (xa G 1) 0 (fun _ => .null) (fun q => (xs G).heap.size ≤ q) (xs G) (xs G).heap) (hMi : xHM G) {rk ad : Nat → Nat} {μ : Nat → xMu} {A : List xNode} {lo : Nat → Nat} {i : Nat} {q : xNode} (hk1 : rk 1 = 1) (hO : ∀ (i : Nat) (q : xNode), A[i]? = some q → pOk A lo i q) (hq : A[i]? = some q) (hA26 : A.length ≤ 26) (hk : q.1 = 5) {M0 : xM} {ow0 : Nat → Nat} {ℓ : Nat → xLk} (hℓ : ∀ j, lo i ≤ j → j ≤ i → ℓ j = lk0) {d0 : Nat} (hIH : ∀ c ∈ q.2.2.1, kIH G rk ad μ A lo d0 c) (hd0 : 8 ≤ d0) (hA : cA M0 ow0 rk ad ℓ μ A) : XC G Y3_7 none (d0 + 1) (pC A (i + 1) - pC A (lo i)) (30 * (pC A (i + 1) - pC A (lo i))) [.ref (ad i)] M0 (kLP M0 ow0 rk ad ℓ μ A (lo i) i) := by
  have hok := hO i q hq
  have hlo : lo i ≤ i := by
    have := (pIv_le hok.1).1
    omega
  have g1 := pC_le (A := A) hlo
  have hpw : pC A (i + 1) = pC A i + 5 * q.2.2.1.length := by
    rw [pC_s hq]
    unfold pOwn
    rw [if_neg (by omega), if_neg (by omega), if_pos hk]
  obtain ⟨M, hM⟩ : ∃ M, M = M0 := ⟨_, rfl⟩
  subst hM
  obtain ⟨X, hXe⟩ : ∃ X, ad i = X := ⟨_, rfl⟩
  rw [hXe]
  refine xc_of hg (by decide) (Nat.le_of_ble_eq_true rfl) (Or.inr (Or.inr (Or.inr (Or.inr (Or.inl ⟨rfl, rfl, fun v M' h => h.1⟩))))) ?_
  refine xj_iconst (v := 0) d3_7_0 (by decide) ?_
  refine xj_istore_n (i := 1) (L' := [(1, .int 0), (0, .ref X)]) d3_7_1 rfl (by decide) rfl ?_
  exact (hXe ▸ kLBL hg hxn hZ hT hMi hk1 hO hq hA26 hk hℓ hIH (Nat.le_refl _) (by omega) q.2.2.1 [] (lo i) M ow0 0 0 rfl hok.1 (Nat.le_refl _) (Nat.le_refl _) (fun _ _ => rfl) (fun _ _ _ => rfl) (by rw [show sAlong (fun c => (sLr A c).1) [] = lk0.2 from rfl, lB_0 (hℓ i hlo (Nat.le_refl _))]; exact hA) (by omega) (by omega))

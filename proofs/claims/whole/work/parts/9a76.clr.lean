set_option maxRecDepth 20000 in
set_option maxHeartbeats 4000000 in
theorem kLRL {G : xG} (hg : xGood G) (hxn : xn = 16) (hZ : va_Z "java/util/ArrayList" "DEFAULTCAPACITY_EMPTY_ELEMENTDATA" "[Ljava/lang/Object;" (.ref (xa G 1)) (fun q => (xs G).heap.size ≤ q) (xs G) (xs G).heap) (hT : va_T (.object "java/lang/Object") (xa G 1) 0 (fun _ => .null) (fun q => (xs G).heap.size ≤ q) (xs G) (xs G).heap) (hMi : xHM G) {rk ad : Nat → Nat} {μ : Nat → xMu} {A : List xNode} {lo : Nat → Nat} {i : Nat} {q : xNode} (hk1 : rk 1 = 1) (hO : ∀ (i : Nat) (q : xNode), A[i]? = some q → pOk A lo i q) (hq : A[i]? = some q) (hA26 : A.length ≤ 26) (hk : q.1 = 4) {e kk : Nat} {ms9 : Int32} (hch : q.2.2.1 = [e]) (hls9 : q.2.2.2.1 = nI kk) (hms9 : q.2.2.2.2.1 = ms9) (hk9 : kk ≤ 9) {M0 : xM} {ow0 : Nat → Nat} {ℓ : Nat → xLk} {X y : Nat} (hXe : ad i = X) (hy : ad e = y) {d ce se : Nat} (hd9 : 9 ≤ d) : ∀ (r k : Nat) (M : xM) (ow : Nat → Nat) (cells slots : Nat), k + r = kk → M0.1 ≤ M.1 → (∀ y, y < M0.1 → ow y = ow0 y) → (∀ y, y < M0.1 → ¬ (3 * lo i + 100 ≤ rk (ow0 y) ∧ rk (ow0 y) < 3 * i + 103) → M.2 y = M0.2 y) → cA M ow rk ad (lB ℓ A (lo i) i i (sTimes (fun c => (sLr A c).1) e k)) μ A → cells + 5 * r ≤ ce → slots + 150 * r ≤ se → XJ G Y9_3 d ce se cells slots 9 [(1, .int (nI k)), (0, .ref X)] [] M (kLP M0 ow0 rk ad ℓ μ A (lo i) i) := by
  have hiA : i < A.length := (List.getElem?_eq_some_iff.mp hq).1
  have hok := hO i q hq
  have hiv0 : pIv lo (lo i) [e] i := by rw [← hch]; exact hok.1
  obtain ⟨hle, hle2, hei⟩ := hiv0
  have hei : e + 1 = i := hei
  have hlo : lo i ≤ i := by omega
  have hcA : e < A.length := by omega
  have hkc := (hO e _ (xnd_at hcA)).2.1
  have hcm : e ∈ q.2.2.1 := by rw [hch]; simp
  have hkc5 : ¬ (pNd A e).1 = 5 := hok.2.2.2.2.2.2 (by omega) e hcm
  intro r
  induction r with
  | zero =>
    intro k M ow cells slots hkr hm how hfr hA hcc hss
    have hkk : k = kk := by omega
    obtain ⟨Z, hZ9⟩ : ∃ Z, Z = sTimes (fun c => (sLr A c).1) e k := ⟨_, rfl⟩
    rw [← hZ9] at hA
    have hcl : (nI kk).toNatClampNeg = kk := nI_clamp (by omega)
    have hsl0 : sLr A i = (if nI kk = ms9 then sJoined Z else none, Z) := by
      rw [sLr_at A (pOk_c hO) i q hq, hZ9]
      unfold sNode
      rw [if_neg (by omega), if_neg (by omega), if_pos hk, hch, hls9, hms9, hcl, hkk]
      rfl
    have hNA := hA i q hq
    rw [lB_i (Nat.le_refl _), hXe] at hNA
    obtain ⟨wvA, hvA, ⟨x1A, x2A, x3A, x4A⟩, -, -, k4A, -, -⟩ := id hNA
    have hv0A : wvA = .null := by
      rcases hvA with ⟨-, h⟩ | ⟨S, a, h, -⟩
      · exact h
      · cases h
    subst hv0A
    obtain ⟨eA, ndA, cvA, heA, h_XA, hndA, -⟩ := k4A hk
    clear k4A
    have heeA : eA = e := by
      rw [hch] at heA
      exact (List.cons.inj heA).1.symm
    rw [heeA, hy, hls9, hms9] at h_XA
    obtain ⟨ckA, hckA⟩ : ∃ ck, (μ i).2.1 = ck := ⟨_, rfl⟩
    obtain ⟨llA, hllA⟩ : ∃ ll, (μ i).2.2.1 = ll := ⟨_, rfl⟩
    rw [hckA, hllA] at h_XA
    obtain ⟨alA, paA, cuA, laA, ⟨n1A, n2A, n3A, n4A⟩, k_ndA, -, -, -, -, hcuA⟩ := id hndA
    by_cases hlm : nI kk = ms9
    · have hsl : sLr A i = (sJoined Z, Z) := by rw [hsl0, if_pos hlm]
      by_cases hf : Z.2.2.2 = 0
      · skip
        refine xj_iload_n (i := 1) d9_3_9 rfl rfl ?_
        refine xj_aload_n (i := 0) d9_3_10 rfl rfl ?_
        refine xj_get d9_3_11 f9_22_9 h_XA (by omega) (show X < M.1 by omega) rfl ?_
        refine xj_icmp_ge (tgt := 34) d9_3_14 rfl (fun _ => ?_) (fun h => absurd (nI_le (a := kk) (b := k) (by omega) (by omega)) h)
        refine xj_aload_n (i := 0) d9_3_34 rfl rfl ?_
        refine xj_aload_n (i := 0) d9_3_35 rfl rfl ?_
        refine xj_get d9_3_36 f9_22_9 h_XA (by omega) (show X < M.1 by omega) rfl ?_
        refine xj_aload_n (i := 0) d9_3_39 rfl rfl ?_
        refine xj_get d9_3_40 f9_26_9 h_XA (by omega) (show X < M.1 by omega) rfl ?_
        refine xj_icmp_ne (tgt := 56) d9_3_43 rfl (fun h => absurd hlm h) (fun _ => ?_)
        refine xj_aload_n (i := 0) d9_3_46 rfl rfl ?_
        refine xj_get d9_3_47 f9_12_9 h_XA (by omega) (show X < M.1 by omega) rfl ?_
        refine xj_callV (rest := [.ref X]) (As := []) (b := ndA) (wJd0 hg (M := M) (n := M.1) (nd := ndA) (al := alA) (pa := paA) (cu := cuA) (fl := Z.2.2.2) rfl (by omega) (by omega) (by omega) k_ndA hf) d9_3_50 wd6_3 k_ndA (by omega) (show ndA < M.1 by omega) rfl w805 w804 (Or.inl w803) rfl rfl (Nat.le_of_ble_eq_true rfl) (by omega) (by omega) (by omega) ?_
        rintro v M' ⟨rfl, hm⟩
        subst M'
        refine xj_goto (tgt := 57) d9_3_53 rfl ?_
        refine xj_put (a := X) (fs' := [.ref y, .int (nI kk), .int ms9, .ref ndA, cvA, .int ckA, .int llA, .null]) d9_3_57 f9_54_9 h_XA (by omega) (show X < M.1 by omega) (Nat.le_of_ble_eq_true rfl) rfl rfl rfl ?_
        refine xj_abs_set (fun M1 hs1 ha1 ho1 => ?_)
        have hfr9 : ∀ y, y < M.1 → y ≠ X → M1.2 y = M.2 y := fun y hy hy2 => (ho1 y (by omega))
        have hcv : cV M1 ow .null (sJoined Z) := Or.inl ⟨if_pos hf, rfl⟩
        have hnw := cN_wd (M' := M1) (ow' := ow) hNA hk1 (by omega) (by omega) (fun _ _ => rfl) hfr9 (hx_of (l0 := [.ref y, .int (nI kk), .int ms9, .ref ndA, cvA, .int ckA, .int llA]) h_XA ha1) hcv
        refine xj_ret d9_3_60 (by omega) (by omega) rfl ⟨rfl, by omega, ow, how, fun y hy z => (hfr9 y (by omega) (fun e => z (by rw [← how y hy, e, x3A, x4A]; omega))).trans (hfr y hy z), ?_⟩
        rw [← lB_e (z := Z) hlo]
        refine cA_up hA hk1 (by omega) (fun _ _ => rfl) (fun y hy z => hfr9 y hy (fun e => z (by rw [e, x3A, x4A]; omega))) (fun p9 hp9 => ?_)
        rw [hq] at hp9
        have hpq : q = p9 := Option.some.inj hp9
        rw [hsl, ← hpq, hXe]
        exact hnw
      · skip
        refine xj_iload_n (i := 1) d9_3_9 rfl rfl ?_
        refine xj_aload_n (i := 0) d9_3_10 rfl rfl ?_
        refine xj_get d9_3_11 f9_22_9 h_XA (by omega) (show X < M.1 by omega) rfl ?_
        refine xj_icmp_ge (tgt := 34) d9_3_14 rfl (fun _ => ?_) (fun h => absurd (nI_le (a := kk) (b := k) (by omega) (by omega)) h)
        refine xj_aload_n (i := 0) d9_3_34 rfl rfl ?_
        refine xj_aload_n (i := 0) d9_3_35 rfl rfl ?_
        refine xj_get d9_3_36 f9_22_9 h_XA (by omega) (show X < M.1 by omega) rfl ?_
        refine xj_aload_n (i := 0) d9_3_39 rfl rfl ?_
        refine xj_get d9_3_40 f9_26_9 h_XA (by omega) (show X < M.1 by omega) rfl ?_
        refine xj_icmp_ne (tgt := 56) d9_3_43 rfl (fun h => absurd hlm h) (fun _ => ?_)
        refine xj_aload_n (i := 0) d9_3_46 rfl rfl ?_
        refine xj_get d9_3_47 f9_12_9 h_XA (by omega) (show X < M.1 by omega) rfl ?_
        refine xj_callV (rest := [.ref X]) (As := []) (b := ndA) (wJd1 hg (M := M) (n := M.1) (nd := ndA) (al := alA) (pa := paA) (cu := cuA) (fl := Z.2.2.2) rfl (by omega) (by omega) (by omega) k_ndA hf) d9_3_50 wd6_3 k_ndA (by omega) (show ndA < M.1 by omega) rfl w805 w804 (Or.inl w803) rfl rfl (Nat.le_of_ble_eq_true rfl) (by omega) (by omega) (by omega) ?_
        rintro v M' ⟨rfl, hm⟩
        subst M'
        refine xj_goto (tgt := 57) d9_3_53 rfl ?_
        refine xj_put (a := X) (fs' := [.ref y, .int (nI kk), .int ms9, .ref ndA, cvA, .int ckA, .int llA, .ref cuA]) d9_3_57 f9_54_9 h_XA (by omega) (show X < M.1 by omega) (Nat.le_of_ble_eq_true rfl) rfl rfl rfl ?_
        refine xj_abs_set (fun M1 hs1 ha1 ho1 => ?_)
        have hfr9 : ∀ y, y < M.1 → y ≠ X → M1.2 y = M.2 y := fun y hy hy2 => (ho1 y (by omega))
        have hcv : cV M1 ow (.ref cuA) (sJoined Z) := Or.inr ⟨_, cuA, if_neg hf, rfl, cW_fr hcuA (by omega) (fun _ _ => rfl) (fun y hy e => hfr9 y hy (fun w => by rw [w, x3A] at e; omega))⟩
        have hnw := cN_wd (M' := M1) (ow' := ow) hNA hk1 (by omega) (by omega) (fun _ _ => rfl) hfr9 (hx_of (l0 := [.ref y, .int (nI kk), .int ms9, .ref ndA, cvA, .int ckA, .int llA]) h_XA ha1) hcv
        refine xj_ret d9_3_60 (by omega) (by omega) rfl ⟨rfl, by omega, ow, how, fun y hy z => (hfr9 y (by omega) (fun e => z (by rw [← how y hy, e, x3A, x4A]; omega))).trans (hfr y hy z), ?_⟩
        rw [← lB_e (z := Z) hlo]
        refine cA_up hA hk1 (by omega) (fun _ _ => rfl) (fun y hy z => hfr9 y hy (fun e => z (by rw [e, x3A, x4A]; omega))) (fun p9 hp9 => ?_)
        rw [hq] at hp9
        have hpq : q = p9 := Option.some.inj hp9
        rw [hsl, ← hpq, hXe]
        exact hnw
    · have hsl : sLr A i = (none, Z) := by rw [hsl0, if_neg hlm]
      refine xj_iload_n (i := 1) d9_3_9 rfl rfl ?_
      refine xj_aload_n (i := 0) d9_3_10 rfl rfl ?_
      refine xj_get d9_3_11 f9_22_9 h_XA (by omega) (show X < M.1 by omega) rfl ?_
      refine xj_icmp_ge (tgt := 34) d9_3_14 rfl (fun _ => ?_) (fun h => absurd (nI_le (a := kk) (b := k) (by omega) (by omega)) h)
      refine xj_aload_n (i := 0) d9_3_34 rfl rfl ?_
      refine xj_aload_n (i := 0) d9_3_35 rfl rfl ?_
      refine xj_get d9_3_36 f9_22_9 h_XA (by omega) (show X < M.1 by omega) rfl ?_
      refine xj_aload_n (i := 0) d9_3_39 rfl rfl ?_
      refine xj_get d9_3_40 f9_26_9 h_XA (by omega) (show X < M.1 by omega) rfl ?_
      refine xj_icmp_ne (tgt := 56) d9_3_43 rfl (fun _ => ?_) (fun h => absurd h hlm)
      refine xj_null d9_3_56 ?_
      refine xj_put (a := X) (fs' := [.ref y, .int (nI kk), .int ms9, .ref ndA, cvA, .int ckA, .int llA, .null]) d9_3_57 f9_54_9 h_XA (by omega) (show X < M.1 by omega) (Nat.le_of_ble_eq_true rfl) rfl rfl rfl ?_
      refine xj_abs_set (fun M1 hs1 ha1 ho1 => ?_)
      have hfr9 : ∀ y, y < M.1 → y ≠ X → M1.2 y = M.2 y := fun y hy hy2 => (ho1 y (by omega))
      have hcv : cV M1 ow .null (none : Option (List (List Int32))) := Or.inl ⟨rfl, rfl⟩
      have hnw := cN_wd (M' := M1) (ow' := ow) hNA hk1 (by omega) (by omega) (fun _ _ => rfl) hfr9 (hx_of (l0 := [.ref y, .int (nI kk), .int ms9, .ref ndA, cvA, .int ckA, .int llA]) h_XA ha1) hcv
      refine xj_ret d9_3_60 (by omega) (by omega) rfl ⟨rfl, by omega, ow, how, fun y hy z => (hfr9 y (by omega) (fun e => z (by rw [← how y hy, e, x3A, x4A]; omega))).trans (hfr y hy z), ?_⟩
      rw [← lB_e (z := Z) hlo]
      refine cA_up hA hk1 (by omega) (fun _ _ => rfl) (fun y hy z => hfr9 y hy (fun e => z (by rw [e, x3A, x4A]; omega))) (fun p9 hp9 => ?_)
      rw [hq] at hp9
      have hpq : q = p9 := Option.some.inj hp9
      rw [hsl, ← hpq, hXe]
      exact hnw
  | succ r ih =>
    intro k M ow cells slots hkr hm how hfr hA hcc hss
    obtain ⟨Z, hZ9⟩ : ∃ Z, Z = sTimes (fun c => (sLr A c).1) e k := ⟨_, rfl⟩
    rw [← hZ9] at hA
    have hzin : ∀ c9 ∈ Z.2.1, c9 ∈ q.2.2.1 := fun c9 h9 => by
      rw [(sTimes_in _ e k).1 c9 (by rw [← hZ9]; exact h9)]
      exact hcm
    have hzl1 : Z.1.length ≤ k := by rw [hZ9]; exact (sTimes_in _ e k).2.1
    have hzl2 : Z.2.1.length ≤ k := by rw [hZ9]; exact (sTimes_in _ e k).2.2
    have hNc := hA e _ (xnd_at hcA)
    rw [lB_o (by omega) (by omega), hy] at hNc
    obtain ⟨y1, y2, bc_y, bf_y, bC_y, bT_y, bN_y, x3, hc_y, hA_y, x6, x7, hP_y⟩ := cN_ob hNc hkc.1 hkc.2
    replace hP_y := hP_y hkc5
    have hNA := hA i q hq
    rw [lB_i (Nat.le_refl _), hXe] at hNA
    obtain ⟨wvA, hvA, ⟨x1A, x2A, x3A, x4A⟩, -, -, k4A, -, -⟩ := id hNA
    have hv0A : wvA = .null := by
      rcases hvA with ⟨-, h⟩ | ⟨S, a, h, -⟩
      · exact h
      · cases h
    subst hv0A
    obtain ⟨eA, ndA, cvA, heA, h_XA, hndA, -⟩ := k4A hk
    clear k4A
    have heeA : eA = e := by
      rw [hch] at heA
      exact (List.cons.inj heA).1.symm
    rw [heeA, hy, hls9, hms9] at h_XA
    obtain ⟨ckA, hckA⟩ : ∃ ck, (μ i).2.1 = ck := ⟨_, rfl⟩
    obtain ⟨llA, hllA⟩ : ∃ ll, (μ i).2.2.1 = ll := ⟨_, rfl⟩
    rw [hckA, hllA] at h_XA
    obtain ⟨alA, paA, cuA, laA, ⟨n1A, n2A, n3A, n4A⟩, k_ndA, -, -, -, -, hcuA⟩ := id hndA
    refine xj_iload_n (i := 1) d9_3_9 rfl rfl ?_
    refine xj_aload_n (i := 0) d9_3_10 rfl rfl ?_
    refine xj_get d9_3_11 f9_22_9 h_XA (by omega) (show X < M.1 by omega) rfl ?_
    refine xj_icmp_ge (tgt := 34) d9_3_14 rfl (fun h => absurd h (nI_ge (a := k) (b := kk) (by omega) (by omega))) (fun _ => ?_)
    refine xj_aload_n (i := 0) d9_3_17 rfl rfl ?_
    refine xj_get d9_3_18 f9_12_9 h_XA (by omega) (show X < M.1 by omega) rfl ?_
    refine xj_aload_n (i := 0) d9_3_21 rfl rfl ?_
    refine xj_get d9_3_22 f9_18_9 h_XA (by omega) (show X < M.1 by omega) rfl ?_
    have hpo : ∀ y ∈ (Z.2.1).map ad, (∃ (bc : Nat) (bf : List Value), M.2 y = .inr (bc, bf) ∧ bc ≠ 2 ∧ bc ≠ 7) ∧ xOb M y := fun y9 hy9 => by
      obtain ⟨c9, hc9, rfl⟩ := List.mem_map.mp hy9
      have hc8 := (hO i q hq)
      have hcm9 := hzin c9 hc9
      have hcA9 : c9 < A.length := by have := ((pIv_le hc8.1).2 c9 hcm9).2.1; omega
      have hkc9 := (hO c9 _ (xnd_at hcA9)).2.1
      have hn9 := hA c9 _ (xnd_at hcA9)
      obtain ⟨w1, w2, bc', bf', bC', bT', bN', w3, w4, w5, -⟩ := cN_ob hn9 hkc9.1 hkc9.2
      exact ⟨cN_cl hn9 hkc9.1 hkc9.2, w1, w2, bc', bf', bC', bT', bN', w3, w4, w5⟩
    have hpo : ∀ y ∈ (Z.2.1).map ad, (∃ (bc : Nat) (bf : List Value), M.2 y = .inr (bc, bf) ∧ bc ≠ 2 ∧ bc ≠ 7) ∧ xOb M y := fun y9 hy9 => by
      obtain ⟨c9, hc9, rfl⟩ := List.mem_map.mp hy9
      have hc8 := (hO i q hq)
      have hcm9 := hzin c9 hc9
      have hcA9 : c9 < A.length := by have := ((pIv_le hc8.1).2 c9 hcm9).2.1; omega
      have hkc9 := (hO c9 _ (xnd_at hcA9)).2.1
      have hn9 := hA c9 _ (xnd_at hcA9)
      obtain ⟨w1, w2, bc', bf', bC', bT', bN', w3, w4, w5, -⟩ := cN_ob hn9 hkc9.1 hkc9.2
      exact ⟨cN_cl hn9 hkc9.1 hkc9.2, w1, w2, bc', bf', bC', bT', bN', w3, w4, w5⟩
    refine xj_callV (rest := []) (As := [.ref y]) (b := ndA) (kFol hg hxn hZ hT hMi hk1 (T := 3 * i + 100 + 1) (c := e) (by omega) hndA hNc hkc.1 hkc.2 hkc5 hy (show Z.1.length ≤ 25 by omega) (show Z.2.1.length ≤ 25 by omega) hpo (fun h => by obtain ⟨fs, h9⟩ := h; obtain ⟨bc, bf, r1, -, r3⟩ := cN_cl hNc hkc.1 hkc.2; rw [r1] at h9; cases h9; exact r3 rfl)) d9_3_25 wd6_2 k_ndA (by omega) (show ndA < M.1 by omega) rfl w793 w792 (Or.inl w791) rfl rfl (Nat.le_of_ble_eq_true rfl) (by omega) (by omega) (by omega) ?_
    rintro v M3 ⟨rfl, hm3, ow3, ho3, hf3, hnd3⟩
    refine xj_iinc (v := nI (k + 1)) (L' := [(1, .int (nI (k + 1))), (0, .ref X)]) d9_3_28 rfl (xinc _) (by decide) rfl ?_
    refine xj_goto (tgt := 9) d9_3_31 rfl ?_
    have hup : cA M3 ow3 rk ad (lB ℓ A (lo i) i i (sTimes (fun c => (sLr A c).1) e (k + 1))) μ A := by
      rw [show sTimes (fun c => (sLr A c).1) e (k + 1) = sFol Z e (sLr A e).1 by rw [hZ9]; rfl, ← lB_u (z := Z) (Nat.le_refl _)]
      refine cA_up hA hk1 hm3 ho3 (fun y hy z => hf3 y hy (by omega)) (fun p9 hp9 => ?_)
      rw [hXe]
      rw [hq] at hp9
      have hpq : q = p9 := Option.some.inj hp9
      rw [← hpq]
      exact cN_nd hNA hk1 (by omega) hm3 ho3 hf3 (Or.inr ⟨_, _, _, _, _, _, _, h_XA⟩) hnd3
    exact ih (k + 1) M3 ow3 (cells + 5) (slots + 150) (by omega) (by omega) (fun y hy => (ho3 y (by omega)).trans (how y hy)) (fun y hy z => (hf3 y (by omega) (by rw [how y hy]; omega)).trans (hfr y hy z)) hup (by omega) (by omega)
set_option maxRecDepth 20000 in
theorem kLwR {G : xG} (hg : xGood G) (hxn : xn = 16) (hZ : va_Z "java/util/ArrayList" "DEFAULTCAPACITY_EMPTY_ELEMENTDATA" "[Ljava/lang/Object;" (.ref (xa G 1)) (fun q => (xs G).heap.size ≤ q) (xs G) (xs G).heap) (hT : va_T (.object "java/lang/Object") (xa G 1) 0 (fun _ => .null) (fun q => (xs G).heap.size ≤ q) (xs G) (xs G).heap) (hMi : xHM G) {rk ad : Nat → Nat} {μ : Nat → xMu} {A : List xNode} {lo : Nat → Nat} {i : Nat} {q : xNode} (hk1 : rk 1 = 1) (hO : ∀ (i : Nat) (q : xNode), A[i]? = some q → pOk A lo i q) (hq : A[i]? = some q) (hA26 : A.length ≤ 26) (hk : q.1 = 4) {M0 : xM} {ow0 : Nat → Nat} {ℓ : Nat → xLk} (hℓ : ∀ j, lo i ≤ j → j ≤ i → ℓ j = lk0) {d0 : Nat} (hIH : ∀ c ∈ q.2.2.1, kIH G rk ad μ A lo d0 c) (hd0 : 8 ≤ d0) (hA : cA M0 ow0 rk ad ℓ μ A) : XC G Y9_3 none (d0 + 1) (pC A (i + 1) - pC A (lo i)) (30 * (pC A (i + 1) - pC A (lo i))) [.ref (ad i)] M0 (kLP M0 ow0 rk ad ℓ μ A (lo i) i) := by
  obtain ⟨⟨e, hch⟩, kk, hk9, hls9, -⟩ := (hO i q hq).2.2.2.2.1 hk
  obtain ⟨ms9, hms9⟩ : ∃ m, q.2.2.2.2.1 = m := ⟨_, rfl⟩
  have hiA : i < A.length := (List.getElem?_eq_some_iff.mp hq).1
  have hok := hO i q hq
  have hiv0 : pIv lo (lo i) [e] i := by rw [← hch]; exact hok.1
  obtain ⟨hle, hle2, hei⟩ := hiv0
  have hei : e + 1 = i := hei
  have hlo : lo i ≤ i := by omega
  have hcA : e < A.length := by omega
  have hkc := (hO e _ (xnd_at hcA)).2.1
  have hcm : e ∈ q.2.2.1 := by rw [hch]; simp
  have hkc5 : ¬ (pNd A e).1 = 5 := hok.2.2.2.2.2.2 (by omega) e hcm
  have hpw : pC A (i + 1) = pC A i + 5 * kk := by
    rw [pC_s hq]
    unfold pOwn
    rw [if_neg (by omega), if_pos hk, hls9, nI_clamp (by omega)]
  have g1 := pC_le (A := A) hlo
  obtain ⟨Z, hZ9⟩ : ∃ Z : xNl, Z = lk0.2 := ⟨_, rfl⟩
  obtain ⟨M, hM⟩ : ∃ M, M = M0 := ⟨_, rfl⟩
  subst hM
  obtain ⟨X, hXe⟩ : ∃ X, ad i = X := ⟨_, rfl⟩
  obtain ⟨y, hy⟩ : ∃ y, ad e = y := ⟨_, rfl⟩
  rw [hXe]
  rw [← lB_0 (A := A) (l := lo i) (hℓ i hlo (Nat.le_refl _)), ← hZ9] at hA
  have hW := hIH e hcm M ow0 _ hA (fun j h1 h2 => (lB_d (by omega) (by omega)).trans (hℓ j (by omega) (by omega)))
  have hKc : pC A (e + 1) - pC A (lo e) = pC A i - pC A (lo i) := by rw [hle, hei]
  have hNc := hA e _ (xnd_at hcA)
  rw [hy] at hNc hW
  rw [hKc] at hW
  have hNA := hA i q hq
  rw [lB_i hlo, hXe] at hNA
  obtain ⟨wvA, hvA, ⟨x1A, x2A, x3A, x4A⟩, -, -, k4A, -, -⟩ := id hNA
  have hv0A : wvA = .null := by
    rcases hvA with ⟨-, h⟩ | ⟨S, a, h, -⟩
    · exact h
    · cases h
  subst hv0A
  obtain ⟨eA, ndA, cvA, heA, h_XA, hndA, -⟩ := k4A hk
  clear k4A
  have heeA : eA = e := by
    rw [hch] at heA
    exact (List.cons.inj heA).1.symm
  rw [heeA, hy, hls9, hms9] at h_XA
  obtain ⟨ckA, hckA⟩ : ∃ ck, (μ i).2.1 = ck := ⟨_, rfl⟩
  obtain ⟨llA, hllA⟩ : ∃ ll, (μ i).2.2.1 = ll := ⟨_, rfl⟩
  rw [hckA, hllA] at h_XA
  obtain ⟨alA, paA, cuA, laA, ⟨n1A, n2A, n3A, n4A⟩, k_ndA, -, -, -, -, hcuA⟩ := id hndA
  obtain ⟨y1, y2, bc_y, bf_y, bC_y, bT_y, bN_y, x3, hc_y, hA_y, x6, x7, hP_y⟩ := cN_ob hNc hkc.1 hkc.2
  replace hP_y := hP_y hkc5
  refine xc_of hg (by decide) (Nat.le_of_ble_eq_true rfl) (Or.inr (Or.inr (Or.inr (Or.inr (Or.inl ⟨rfl, rfl, fun v M' h => h.1⟩))))) ?_
  refine xj_aload_n (i := 0) d9_3_0 rfl rfl ?_
  refine xj_get d9_3_1 f9_18_9 h_XA (by omega) (show X < M.1 by omega) rfl ?_
  refine xj_v_learnWords (rest := []) (As := []) hNc hkc.1 hkc.2 hkc5 hW d9_3_4 w790 rfl rfl (Nat.le_of_ble_eq_true rfl) (by omega) (by omega) (by omega) ?_
  rintro v M2 ⟨rfl, hm2, ow2, ho2, hf2, hA2⟩
  rw [hle] at hf2 hA2
  rw [lB_c (Nat.le_refl _) hle2 (by omega), hei, hZ9] at hA2
  refine xj_iconst (v := 0) d9_3_7 (by decide) ?_
  refine xj_istore_n (i := 1) (L' := [(1, .int 0), (0, .ref X)]) d9_3_8 rfl (by decide) rfl ?_
  exact kLRL hg hxn hZ hT hMi hk1 hO hq hA26 hk hch hls9 hms9 hk9 hXe hy (by omega) kk 0 M2 ow2 _ _ (by omega) hm2 (fun y hy9 => ho2 y hy9) (fun y hy9 z => hf2 y hy9 (by omega)) hA2 (by omega) (by omega)

theorem cA_fr {M M' : xM} {ow rk ad : Nat → Nat} {ℓ : Nat → xLk} {μ : Nat → xMu} {A : List xNode} (hA : cA M ow rk ad ℓ μ A) (hk0 : rk 0 = 0) (hm : M.1 ≤ M'.1) (hf : ∀ y, y < M.1 → ow y ≠ 0 → M'.2 y = M.2 y) : cA M' ow rk ad ℓ μ A := by
  intro j p hp
  refine cN_fr (hA j p hp) hm (fun _ _ => rfl) (fun _ _ _ _ z => z) (fun y hy z => hf y hy (fun e => ?_)) (fun _ _ => rfl) (fun _ _ => rfl)
  rcases z with z | z
  · rw [e, hk0] at z
    omega
  · rw [e] at z
    cases z
theorem cWm_fr {M M' : xM} {o lt ln : Nat} {S : List (List Int32)} (h : cWm M o lt ln S) (h1 : M'.2 o = M.2 o) (h2 : M'.2 lt = M.2 lt) (h3 : M'.2 ln = M.2 ln) : cWm M' o lt ln S := by
  obtain ⟨f, g, e1, e2, e3, e4⟩ := h
  exact ⟨f, g, h1.trans e1, h2.trans e2, h3.trans e3, e4⟩
/-- the owners when the list is finished -/
def owF (ow : Nat → Nat) (o : Nat) : Nat → Nat := fun y => if o ≤ y ∧ y < o + 3 then 1 else ow y
set_option maxRecDepth 20000 in
set_option maxHeartbeats 4000000 in
theorem kLGL {G : xG} (hg : xGood G) (hxn : xn = 16) (hZ : va_Z "java/util/ArrayList" "DEFAULTCAPACITY_EMPTY_ELEMENTDATA" "[Ljava/lang/Object;" (.ref (xa G 1)) (fun q => (xs G).heap.size ≤ q) (xs G) (xs G).heap) (hT : va_T (.object "java/lang/Object") (xa G 1) 0 (fun _ => .null) (fun q => (xs G).heap.size ≤ q) (xs G) (xs G).heap) (hMi : xHM G) {rk ad : Nat → Nat} {μ : Nat → xMu} {A : List xNode} {lo : Nat → Nat} {i : Nat} {q : xNode} (hk1 : rk 1 = 1) (hO : ∀ (i : Nat) (q : xNode), A[i]? = some q → pOk A lo i q) (hq : A[i]? = some q) (hA26 : A.length ≤ 26) (hk0 : rk 0 = 0) (hk : q.1 = 6) {M0 : xM} {ow0 : Nat → Nat} {ℓ : Nat → xLk} (hℓ : ∀ j, lo i ≤ j → j ≤ i → ℓ j = lk0) {d0 : Nat} (hIH : ∀ c ∈ q.2.2.1, kIH G rk ad μ A lo d0 c) {o X : Nat} (hXe : ad i = X) (hXo : X < o) (hoM : o = M0.1) {d ce se : Nat} (hd : d0 + 1 ≤ d) (hd9 : 9 ≤ d) : ∀ (rest dn : List Nat) (s : Nat) (M : xM) (ow : Nat → Nat) (cells slots : Nat) (kn : Int32), q.2.2.1 = dn ++ rest → pIv lo s rest i → lo i ≤ s → M0.1 + 6 ≤ M.1 → (∀ y, y < M0.1 → ow y = ow0 y) → (∀ y, y < M0.1 → ¬ (3 * lo i + 100 ≤ rk (ow0 y) ∧ rk (ow0 y) < 3 * i + 103) → M.2 y = M0.2 y) → (ow o = 0 ∧ ow (o + 1) = 0 ∧ ow (o + 2) = 0) → cW M ow (o + 3) [[]] → cA M ow rk ad (lB ℓ A (lo i) s i lk0.2) μ A → ((kn = 1 ∧ ∃ S, sUni (fun c => (sLr A c).1) dn = some S ∧ cWm M o (o + 1) (o + 2) S) ∨ (kn = 0 ∧ sUni (fun c => (sLr A c).1) dn = none)) → cells + (pC A i - pC A s) ≤ ce → slots + 30 * (pC A i - pC A s) ≤ se → XJ G Y5_4 d ce se cells slots 17 [(4, .int (nI dn.length)), (3, .int kn), (2, .ref (o + 3)), (1, .ref o), (0, .ref X)] [] M (kLP M0 ow0 rk ad ℓ μ A (lo i) i) := by
  have hiA : i < A.length := (List.getElem?_eq_some_iff.mp hq).1
  have hok := hO i q hq
  have hiv0 := pIv_le hok.1
  have hlo : lo i ≤ i := by
    have := hiv0.1
    omega
  intro rest
  induction rest with
  | nil =>
    intro dn s M ow cells slots kn hsp hiv hls hm how hfr hoo hbf hA hkn hcc hss
    have hs : s = i := hiv
    rw [hs] at hA hcc hss
    have hlen : q.2.2.1.length = dn.length := by rw [hsp, List.append_nil]
    have hcd : q.2.2.1 = dn := by rw [hsp, List.append_nil]
    have hsl : sLr A i = (sUni (fun c => (sLr A c).1) dn, lk0.2) := by
      rw [sLr_at A (pOk_c hO) i q hq]
      unfold sNode
      rw [if_neg (by omega), if_neg (by omega), if_neg (by omega), if_neg (by omega), hcd]
      rfl
    have hNA := hA i q hq
    rw [lB_i (Nat.le_refl _), hXe] at hNA
    obtain ⟨wvA, hvA, ⟨x1A, x2A, x3A, x4A⟩, -, -, -, -, k6A⟩ := id hNA
    have hv0A : wvA = .null := by
      rcases hvA with ⟨-, h⟩ | ⟨S, a, h, -⟩
      · exact h
      · cases h
    subst hv0A
    obtain ⟨pA, lvA, h_XA, ⟨⟨p1A, p2A, p3A, p4A⟩, p5A⟩⟩ := k6A hk
    clear k6A
    obtain ⟨elA, moA, h_pA, -⟩ := xLs_len p5A
    rw [List.length_map] at h_pA
    rcases hkn with ⟨rfl, S, hun, hW⟩ | ⟨rfl, hun⟩
    · skip
      refine xj_iload (i := 4) d5_4_17 rfl ?_
      refine xj_aload_n (i := 0) d5_4_19 rfl rfl ?_
      refine xj_get d5_4_20 f5_10_5 h_XA (by omega) (show X < M.1 by omega) rfl ?_
      refine xj_callV (rest := [.int (nI dn.length)]) (As := []) (b := pA) (cSize hg (M := M) (n := M.1) (a := pA) (el := elA) (sz := nI q.2.2.1.length) (mo := moA) rfl (by omega) (by omega) (by omega) h_pA) d5_4_23 wd28_8 h_pA (by omega) (show pA < M.1 by omega) rfl w230 w229 (Or.inl w714) rfl rfl (Nat.le_of_ble_eq_true rfl) (by omega) (by omega) (by omega) ?_
      rintro v M' ⟨rfl, hm⟩
      subst M'
      refine xj_icmp_ge (tgt := 85) d5_4_26 rfl (fun _ => ?_) (fun h => absurd (nI_le (a := q.2.2.1.length) (b := dn.length) (by omega) (by omega)) h)
      refine xj_aload_n (i := 0) d5_4_85 rfl rfl ?_
      refine xj_iload_n (i := 3) d5_4_86 rfl rfl ?_
      refine xj_if_eq (tgt := 94) d5_4_87 rfl (fun h => absurd h (by decide)) (fun _ => ?_)
      refine xj_aload_n (i := 1) d5_4_90 rfl rfl ?_
      refine xj_goto (tgt := 95) d5_4_91 rfl ?_
      refine xj_put (a := X) (fs' := [.ref pA, .ref lvA, .ref o]) d5_4_95 f5_59_5 h_XA (by omega) (show X < M.1 by omega) (Nat.le_of_ble_eq_true rfl) rfl rfl rfl ?_
      refine xj_abs_set (fun M1 hs1 ha1 ho1 => ?_)
      have hAF : cA M (owF ow o) rk ad (lB ℓ A (lo i) i i lk0.2) μ A := fun j p hp => cN_ow (hA j p hp) (by omega) (fun y hy => if_neg (fun z => hy (by rcases (by omega : y = o ∨ y = o + 1 ∨ y = o + 2) with e | e | e; rw [e]; exact hoo.1; rw [e]; exact hoo.2.1; rw [e]; exact hoo.2.2)))
      have hNF := hAF i q hq
      rw [lB_i (Nat.le_refl _), hXe] at hNF
      have hfr9 : ∀ y, y < M.1 → y ≠ X → M1.2 y = M.2 y := fun y hy hy2 => (ho1 y (by omega))
      have hcv : cV M1 (owF ow o) (.ref o) (some S) := Or.inr ⟨_, _, rfl, rfl, cWm_W (cWm_fr hW (hfr9 o (by omega) (by omega)) (hfr9 (o + 1) (by omega) (by omega)) (hfr9 (o + 2) (by omega) (by omega))) ⟨by omega, by omega, by omega, by omega, by omega, by omega⟩ ⟨if_pos (by omega), if_pos (by omega), if_pos (by omega)⟩⟩
      have hnw := cN_wd (M' := M1) (ow' := owF ow o) hNF hk1 (by omega) (by omega) (fun _ _ => rfl) hfr9 (hx_of (l0 := [.ref pA, .ref lvA]) h_XA ha1) hcv
      have how9 : ∀ y, y < M0.1 → (owF ow o) y = ow0 y := fun y hy => (if_neg (by omega)).trans (how y hy)
      have x3F : (owF ow o) X = X := (if_neg (by omega)).trans x3A
      refine xj_ret d5_4_98 (by omega) (by omega) rfl ⟨rfl, by omega, owF ow o, how9, fun y hy z => (hfr9 y (by omega) (fun e => z (by rw [← how9 y hy, e, x3F, x4A]; omega))).trans (hfr y hy z), ?_⟩
      rw [← lB_e (z := lk0.2) hlo]
      refine cA_up hAF hk1 (by omega) (fun _ _ => rfl) (fun y hy z => hfr9 y hy (fun e => z (by rw [e, x3F, x4A]; omega))) (fun p9 hp9 => ?_)
      rw [hq] at hp9
      have hpq : q = p9 := Option.some.inj hp9
      rw [hsl, hun, ← hpq, hXe]
      exact hnw
    · skip
      refine xj_iload (i := 4) d5_4_17 rfl ?_
      refine xj_aload_n (i := 0) d5_4_19 rfl rfl ?_
      refine xj_get d5_4_20 f5_10_5 h_XA (by omega) (show X < M.1 by omega) rfl ?_
      refine xj_callV (rest := [.int (nI dn.length)]) (As := []) (b := pA) (cSize hg (M := M) (n := M.1) (a := pA) (el := elA) (sz := nI q.2.2.1.length) (mo := moA) rfl (by omega) (by omega) (by omega) h_pA) d5_4_23 wd28_8 h_pA (by omega) (show pA < M.1 by omega) rfl w230 w229 (Or.inl w714) rfl rfl (Nat.le_of_ble_eq_true rfl) (by omega) (by omega) (by omega) ?_
      rintro v M' ⟨rfl, hm⟩
      subst M'
      refine xj_icmp_ge (tgt := 85) d5_4_26 rfl (fun _ => ?_) (fun h => absurd (nI_le (a := q.2.2.1.length) (b := dn.length) (by omega) (by omega)) h)
      refine xj_aload_n (i := 0) d5_4_85 rfl rfl ?_
      refine xj_iload_n (i := 3) d5_4_86 rfl rfl ?_
      refine xj_if_eq (tgt := 94) d5_4_87 rfl (fun _ => ?_) (fun h => absurd (by decide) h)
      refine xj_null d5_4_94 ?_
      refine xj_put (a := X) (fs' := [.ref pA, .ref lvA, .null]) d5_4_95 f5_59_5 h_XA (by omega) (show X < M.1 by omega) (Nat.le_of_ble_eq_true rfl) rfl rfl rfl ?_
      refine xj_abs_set (fun M1 hs1 ha1 ho1 => ?_)
      have hfr9 : ∀ y, y < M.1 → y ≠ X → M1.2 y = M.2 y := fun y hy hy2 => (ho1 y (by omega))
      have hcv : cV M1 ow .null none := Or.inl ⟨rfl, rfl⟩
      have hnw := cN_wd (M' := M1) (ow' := ow) hNA hk1 (by omega) (by omega) (fun _ _ => rfl) hfr9 (hx_of (l0 := [.ref pA, .ref lvA]) h_XA ha1) hcv
      have how9 : ∀ y, y < M0.1 → (ow) y = ow0 y := fun y hy => how y hy
      have x3F : (ow) X = X := x3A
      refine xj_ret d5_4_98 (by omega) (by omega) rfl ⟨rfl, by omega, ow, how9, fun y hy z => (hfr9 y (by omega) (fun e => z (by rw [← how9 y hy, e, x3F, x4A]; omega))).trans (hfr y hy z), ?_⟩
      rw [← lB_e (z := lk0.2) hlo]
      refine cA_up hA hk1 (by omega) (fun _ _ => rfl) (fun y hy z => hfr9 y hy (fun e => z (by rw [e, x3F, x4A]; omega))) (fun p9 hp9 => ?_)
      rw [hq] at hp9
      have hpq : q = p9 := Option.some.inj hp9
      rw [hsl, hun, ← hpq, hXe]
      exact hnw
  | cons c rest ih =>
    intro dn s M ow cells slots kn hsp hiv hls hm how hfr hoo hbf hA hkn hcc hss
    obtain ⟨hcm, hlen⟩ : c ∈ q.2.2.1 ∧ q.2.2.1.length = dn.length + (rest.length + 1) := by
      rw [hsp]
      exact ⟨by simp, by rw [List.length_append, List.length_cons]⟩
    have hcb := hiv0.2 c hcm
    have hci : c + 1 ≤ i := hcb.2.1
    have hcA : c < A.length := by omega
    have hkc5 : (pNd A c).1 = 5 := hok.2.2.2.2.2.1 hk c hcm
    have g1 := pC_le (A := A) (show s ≤ c + 1 by have := hiv.2.1; omega)
    have g2 := pC_le (A := A) hci
    have hNA := hA i q hq
    rw [lB_i (by have := hiv.2.1; omega), hXe] at hNA
    obtain ⟨wvA, hvA, ⟨x1A, x2A, x3A, x4A⟩, -, -, -, -, k6A⟩ := id hNA
    have hv0A : wvA = .null := by
      rcases hvA with ⟨-, h⟩ | ⟨S, a, h, -⟩
      · exact h
      · cases h
    subst hv0A
    obtain ⟨pA, lvA, h_XA, ⟨⟨p1A, p2A, p3A, p4A⟩, p5A⟩⟩ := k6A hk
    clear k6A
    obtain ⟨elA, moA, h_pA, -⟩ := xLs_len p5A
    rw [List.length_map] at h_pA
    have hW := hIH c hcm M ow _ hA (fun j h1 h2 => (lB_d (by have := hiv.1; omega) (by omega)).trans (hℓ j (by have := hiv.1; omega) (by omega)))
    have hKc : pC A (c + 1) - pC A (lo c) = pC A (c + 1) - pC A s := by rw [hiv.1]
    obtain ⟨y, hy⟩ : ∃ y, ad c = y := ⟨_, rfl⟩
    have hNc := hA c _ (xnd_at hcA)
    rw [hy] at hNc hW
    rw [hKc, show yV_learnWords (pNd A c).1 = Y3_7 by unfold yV_learnWords; rw [hkc5]; rfl] at hW
    have hgl : (q.2.2.1.map ad)[dn.length]? = some y := by
      rw [hsp, List.map_append, List.getElem?_append_right (by rw [List.length_map]; exact Nat.le_refl _), List.length_map, Nat.sub_self, ← hy]
      rfl
    obtain ⟨wv7, -, ⟨y17, y27, -, -⟩, -, -, -, k57, -⟩ := hNc
    obtain ⟨p7, nd7, x3, -⟩ := k57 hkc5
    clear k57
    rcases hkn with ⟨rfl, S, hun, hWm⟩ | ⟨rfl, hun⟩
    · cases hWc : (sLr A c).1 with
      | none =>
        refine xj_iload (i := 4) d5_4_17 rfl ?_
        refine xj_aload_n (i := 0) d5_4_19 rfl rfl ?_
        refine xj_get d5_4_20 f5_10_5 h_XA (by omega) (show X < M.1 by omega) rfl ?_
        refine xj_callV (rest := [.int (nI dn.length)]) (As := []) (b := pA) (cSize hg (M := M) (n := M.1) (a := pA) (el := elA) (sz := nI q.2.2.1.length) (mo := moA) rfl (by omega) (by omega) (by omega) h_pA) d5_4_23 wd28_8 h_pA (by omega) (show pA < M.1 by omega) rfl w230 w229 (Or.inl w714) rfl rfl (Nat.le_of_ble_eq_true rfl) (by omega) (by omega) (by omega) ?_
        rintro v M' ⟨rfl, hm⟩
        subst M'
        refine xj_icmp_ge (tgt := 85) d5_4_26 rfl (fun h => absurd h (nI_ge (a := dn.length) (b := q.2.2.1.length) (by omega) (by omega))) (fun _ => ?_)
        refine xj_aload_n (i := 0) d5_4_29 rfl rfl ?_
        refine xj_get d5_4_30 f5_10_5 h_XA (by omega) (show X < M.1 by omega) rfl ?_
        refine xj_iload (i := 4) d5_4_33 rfl ?_
        refine xj_callV (rest := []) (As := [.int (nI dn.length)]) (b := pA) (xLs_get (k := dn.length) (b := y) hg p5A (by omega) (by omega) hgl) d5_4_35 wd28_20 h_pA (by omega) (show pA < M.1 by omega) rfl w248 w247 (Or.inl w715) rfl rfl (Nat.le_of_ble_eq_true rfl) (by omega) (by omega) (by omega) ?_
        rintro v M' ⟨rfl, hm0⟩
        subst M'
        refine xj_cast d5_4_38 w325 x3 (by omega) (show y < M.1 by omega) rfl (Or.inl rfl) ?_
        refine xj_astore (i := 5) (L' := [(5, .ref y), (4, .int (nI dn.length)), (3, .int 1), (2, .ref (o + 3)), (1, .ref o), (0, .ref X)]) d5_4_41 (by decide) rfl ?_
        refine xj_aload (i := 5) d5_4_43 rfl ?_
        refine xj_callV (rest := []) (As := []) (b := y) hW d5_4_45 wd3_7 x3 (by omega) (show y < M.1 by omega) rfl w745 w744 (Or.inl w743) rfl rfl (Nat.le_of_ble_eq_true rfl) (by omega) (by omega) (by omega) ?_
        rintro v M2 ⟨rfl, hm2, ow2, ho2, hf2, hA2⟩
        rw [hiv.1] at hf2 hA2
        rw [lB_c hls hiv.2.1 hci] at hA2
        have hNB := hA2 i q hq
        rw [lB_i hci, hXe] at hNB
        obtain ⟨wvB, hvB, ⟨x1B, x2B, x3B, x4B⟩, -, -, -, -, k6B⟩ := id hNB
        have hv0B : wvB = .null := by
          rcases hvB with ⟨-, h⟩ | ⟨S, a, h, -⟩
          · exact h
          · cases h
        subst hv0B
        obtain ⟨pB, lvB, h_XB, ⟨⟨p1B, p2B, p3B, p4B⟩, p5B⟩⟩ := k6B hk
        clear k6B
        obtain ⟨elB, moB, h_pB, -⟩ := xLs_len p5B
        rw [List.length_map] at h_pB
        have hNc2 := hA2 c _ (xnd_at hcA)
        rw [lB_o (by omega) (by omega), hy] at hNc2
        obtain ⟨wv9, hv9, ⟨y1, y2, y3, y4⟩, -, -, -, k59, -⟩ := hNc2
        obtain ⟨p9, nd9, h_y, -⟩ := k59 hkc5
        clear k59
        have hf0 : ∀ y, y < M.1 → ow y = 0 ∨ ow y = 1 → M2.2 y = M.2 y := fun y hy z => hf2 y hy (by rcases z with z | z; rw [z, hk0]; omega; rw [z, hk1]; omega)
        have hoo2 : ow2 o = 0 ∧ ow2 (o + 1) = 0 ∧ ow2 (o + 2) = 0 := ⟨(ho2 _ (by omega)).trans hoo.1, (ho2 _ (by omega)).trans hoo.2.1, (ho2 _ (by omega)).trans hoo.2.2⟩
        have hbf2 : cW M2 ow2 (o + 3) [[]] := cW_fr hbf hm2 ho2 (fun y hy z => hf0 y hy (Or.inr z))
        have hw9 : wv9 = .null := by
          rcases hv9 with ⟨-, h⟩ | ⟨S8, a8, h, -⟩
          · exact h
          · rw [hWc] at h
            cases h
        subst hw9
        refine xj_iload_n (i := 3) d5_4_48 rfl rfl ?_
        refine xj_if_eq (tgt := 77) d5_4_49 rfl (fun h => absurd h (by decide)) (fun _ => ?_)
        refine xj_aload (i := 5) d5_4_52 rfl ?_
        refine xj_get d5_4_54 f5_51_6 h_y (by omega) (show y < M2.1 by omega) rfl ?_
        refine xj_ifnullN (tgt := 77) d5_4_57 rfl ?_
        refine xj_iconst (v := 0) d5_4_77 (by decide) ?_
        refine xj_istore_n (i := 3) (L' := [(3, .int 0), (5, .ref y), (4, .int (nI dn.length)), (2, .ref (o + 3)), (1, .ref o), (0, .ref X)]) d5_4_78 rfl (by decide) rfl ?_
        refine xj_iinc (v := nI (dn.length + 1)) (L' := [(4, .int (nI (dn.length + 1))), (3, .int 0), (5, .ref y), (2, .ref (o + 3)), (1, .ref o), (0, .ref X)]) d5_4_79 rfl (xinc _) (by decide) rfl ?_
        refine xj_goto (tgt := 17) d5_4_82 rfl ?_
        refine xj_sub (L' := [(4, .int (nI (dn.length + 1))), (3, .int 0), (2, .ref (o + 3)), (1, .ref o), (0, .ref X)]) (fun q hq => by simp only [List.mem_cons, List.not_mem_nil, or_false] at hq ⊢; rcases hq with rfl | rfl | rfl | rfl | rfl <;> simp) ?_
        have hun9 : sUni (fun c => (sLr A c).1) (dn ++ [c]) = none := by
          rw [sUni_app, hun]
          show ((sLr A c).1.bind fun T => sAdds S T) = _
          rw [hWc]
          rfl
        have h9 := ih (dn ++ [c]) (c + 1) M2 ow2 (cells + (pC A (c + 1) - pC A s)) (slots + 30 * (pC A (c + 1) - pC A s)) 0 (by rw [hsp]; simp) hiv.2.2 (by omega) (by omega) (fun y hy => (ho2 y (by omega)).trans (how y hy)) (fun y hy z => ((hf2 y (by omega) (by rw [how y hy]; omega)).trans (hfr y hy z))) hoo2 hbf2 hA2 (Or.inr ⟨rfl, hun9⟩) (by omega) (by omega)
        rw [List.length_append, List.length_singleton] at h9
        exact h9
      | some T9 =>
        cases hj : sAdds S T9 with
        | none =>
          refine xj_iload (i := 4) d5_4_17 rfl ?_
          refine xj_aload_n (i := 0) d5_4_19 rfl rfl ?_
          refine xj_get d5_4_20 f5_10_5 h_XA (by omega) (show X < M.1 by omega) rfl ?_
          refine xj_callV (rest := [.int (nI dn.length)]) (As := []) (b := pA) (cSize hg (M := M) (n := M.1) (a := pA) (el := elA) (sz := nI q.2.2.1.length) (mo := moA) rfl (by omega) (by omega) (by omega) h_pA) d5_4_23 wd28_8 h_pA (by omega) (show pA < M.1 by omega) rfl w230 w229 (Or.inl w714) rfl rfl (Nat.le_of_ble_eq_true rfl) (by omega) (by omega) (by omega) ?_
          rintro v M' ⟨rfl, hm⟩
          subst M'
          refine xj_icmp_ge (tgt := 85) d5_4_26 rfl (fun h => absurd h (nI_ge (a := dn.length) (b := q.2.2.1.length) (by omega) (by omega))) (fun _ => ?_)
          refine xj_aload_n (i := 0) d5_4_29 rfl rfl ?_
          refine xj_get d5_4_30 f5_10_5 h_XA (by omega) (show X < M.1 by omega) rfl ?_
          refine xj_iload (i := 4) d5_4_33 rfl ?_
          refine xj_callV (rest := []) (As := [.int (nI dn.length)]) (b := pA) (xLs_get (k := dn.length) (b := y) hg p5A (by omega) (by omega) hgl) d5_4_35 wd28_20 h_pA (by omega) (show pA < M.1 by omega) rfl w248 w247 (Or.inl w715) rfl rfl (Nat.le_of_ble_eq_true rfl) (by omega) (by omega) (by omega) ?_
          rintro v M' ⟨rfl, hm0⟩
          subst M'
          refine xj_cast d5_4_38 w325 x3 (by omega) (show y < M.1 by omega) rfl (Or.inl rfl) ?_
          refine xj_astore (i := 5) (L' := [(5, .ref y), (4, .int (nI dn.length)), (3, .int 1), (2, .ref (o + 3)), (1, .ref o), (0, .ref X)]) d5_4_41 (by decide) rfl ?_
          refine xj_aload (i := 5) d5_4_43 rfl ?_
          refine xj_callV (rest := []) (As := []) (b := y) hW d5_4_45 wd3_7 x3 (by omega) (show y < M.1 by omega) rfl w745 w744 (Or.inl w743) rfl rfl (Nat.le_of_ble_eq_true rfl) (by omega) (by omega) (by omega) ?_
          rintro v M2 ⟨rfl, hm2, ow2, ho2, hf2, hA2⟩
          rw [hiv.1] at hf2 hA2
          rw [lB_c hls hiv.2.1 hci] at hA2
          have hNB := hA2 i q hq
          rw [lB_i hci, hXe] at hNB
          obtain ⟨wvB, hvB, ⟨x1B, x2B, x3B, x4B⟩, -, -, -, -, k6B⟩ := id hNB
          have hv0B : wvB = .null := by
            rcases hvB with ⟨-, h⟩ | ⟨S, a, h, -⟩
            · exact h
            · cases h
          subst hv0B
          obtain ⟨pB, lvB, h_XB, ⟨⟨p1B, p2B, p3B, p4B⟩, p5B⟩⟩ := k6B hk
          clear k6B
          obtain ⟨elB, moB, h_pB, -⟩ := xLs_len p5B
          rw [List.length_map] at h_pB
          have hNc2 := hA2 c _ (xnd_at hcA)
          rw [lB_o (by omega) (by omega), hy] at hNc2
          obtain ⟨wv9, hv9, ⟨y1, y2, y3, y4⟩, -, -, -, k59, -⟩ := hNc2
          obtain ⟨p9, nd9, h_y, -⟩ := k59 hkc5
          clear k59
          have hf0 : ∀ y, y < M.1 → ow y = 0 ∨ ow y = 1 → M2.2 y = M.2 y := fun y hy z => hf2 y hy (by rcases z with z | z; rw [z, hk0]; omega; rw [z, hk1]; omega)
          have hoo2 : ow2 o = 0 ∧ ow2 (o + 1) = 0 ∧ ow2 (o + 2) = 0 := ⟨(ho2 _ (by omega)).trans hoo.1, (ho2 _ (by omega)).trans hoo.2.1, (ho2 _ (by omega)).trans hoo.2.2⟩
          have hbf2 : cW M2 ow2 (o + 3) [[]] := cW_fr hbf hm2 ho2 (fun y hy z => hf0 y hy (Or.inr z))
          obtain ⟨wa, hwv, hcw⟩ : ∃ wa : Nat, wv9 = .ref wa ∧ cW M2 ow2 wa T9 := by
            rcases hv9 with ⟨h, -⟩ | ⟨S8, a8, h, h2, h3⟩
            · rw [hWc] at h
              cases h
            · have hTS : T9 = S8 := Option.some.inj (hWc.symm.trans h)
              rw [hTS]
              exact ⟨a8, h2, h3⟩
          subst hwv
          obtain ⟨lb, nb9, f1, g1, ⟨c1, c2, c3, c4, c5, c6⟩, ⟨c7, c8, c9⟩, k_b, k_lb, k_nb, c10, c11⟩ := id hbf2
          obtain ⟨lc, nc, f2, g2, ⟨d1, d2, d3, d4, d5, d6⟩, ⟨d7, d8, d9⟩, k_wa, k_lc, k_nc, d10, d11⟩ := id hcw
          have hW2 := cWm_fr hWm (hf0 o (by omega) (Or.inl hoo.1)) (hf0 (o + 1) (by omega) (Or.inl hoo.2.1)) (hf0 (o + 2) (by omega) (Or.inl hoo.2.2))
          have hw1 : ∀ x, ow2 x = 1 → xNe x o ∧ xNe x (o + 1) ∧ xNe x (o + 2) := fun x hx => ⟨(fun e => by rw [e, hoo2.1] at hx; cases hx), (fun e => by rw [e, hoo2.2.1] at hx; cases hx), (fun e => by rw [e, hoo2.2.2] at hx; cases hx)⟩
          obtain ⟨f0, g0, k_o, -⟩ := id hW2
          refine xj_iload_n (i := 3) d5_4_48 rfl rfl ?_
          refine xj_if_eq (tgt := 77) d5_4_49 rfl (fun h => absurd h (by decide)) (fun _ => ?_)
          refine xj_aload (i := 5) d5_4_52 rfl ?_
          refine xj_get d5_4_54 f5_51_6 h_y (by omega) (show y < M2.1 by omega) rfl ?_
          refine xj_ifnull d5_4_57 ?_
          refine xj_aload_n (i := 1) d5_4_60 rfl rfl ?_
          refine xj_aload_n (i := 2) d5_4_61 rfl rfl ?_
          refine xj_aload (i := 5) d5_4_62 rfl ?_
          refine xj_get d5_4_64 f5_51_6 h_y (by omega) (show y < M2.1 by omega) rfl ?_
          have hsz9 : 16 ≤ o ∧ o < M2.1 ∧ 16 ≤ o + 1 ∧ o + 1 < M2.1 ∧ 16 ≤ o + 2 ∧ o + 2 < M2.1 ∧ 16 ≤ o + 3 ∧ o + 3 < M2.1 ∧ 16 ≤ lb ∧ lb < M2.1 ∧ 16 ≤ nb9 ∧ nb9 < M2.1 ∧ 16 ≤ wa ∧ wa < M2.1 ∧ 16 ≤ lc ∧ lc < M2.1 ∧ 16 ≤ nc ∧ nc < M2.1 := ⟨by omega, by omega, by omega, by omega, by omega, by omega, by omega, by omega, by omega, by omega, by omega, by omega, by omega, by omega, by omega, by omega, by omega, by omega⟩
          have hne9 : xNe o (o + 1) ∧ xNe o (o + 2) ∧ xNe (o + 1) (o + 2) ∧ xNe (o + 3) o ∧ xNe (o + 3) (o + 1) ∧ xNe (o + 3) (o + 2) ∧ xNe lb o ∧ xNe lb (o + 1) ∧ xNe lb (o + 2) ∧ xNe nb9 o ∧ xNe nb9 (o + 1) ∧ xNe nb9 (o + 2) ∧ xNe wa o ∧ xNe wa (o + 1) ∧ xNe wa (o + 2) ∧ xNe lc o ∧ xNe lc (o + 1) ∧ xNe lc (o + 2) ∧ xNe nc o ∧ xNe nc (o + 1) ∧ xNe nc (o + 2) := ⟨(show o ≠ o + 1 by omega), (show o ≠ o + 2 by omega), (show o + 1 ≠ o + 2 by omega), (hw1 _ c7).1, (hw1 _ c7).2.1, (hw1 _ c7).2.2, (hw1 _ c8).1, (hw1 _ c8).2.1, (hw1 _ c8).2.2, (hw1 _ c9).1, (hw1 _ c9).2.1, (hw1 _ c9).2.2, (hw1 _ d7).1, (hw1 _ d7).2.1, (hw1 _ d7).2.2, (hw1 _ d8).1, (hw1 _ d8).2.1, (hw1 _ d8).2.2, (hw1 _ d9).1, (hw1 _ d9).2.1, (hw1 _ d9).2.2⟩
          refine xj_callV (rest := []) (As := [.ref (o + 3), .ref wa]) (b := o) (wJoin hg hxn (M := M2) (S := S) hsz9 hne9 k_b k_lb k_nb k_wa k_lc k_nc c10 d10 c11 d11 hW2) d5_4_67 wd12_6 k_o (by omega) (show o < M2.1 by omega) rfl w799 w798 (Or.inl w809) rfl rfl (Nat.le_of_ble_eq_true rfl) (by omega) (by omega) (by omega) ?_
          rintro v MJ ⟨e1, hJ0, e3⟩
          rw [sPrd_one] at e3
          rcases e3.symm with ⟨S9, q1, q2, hcm9⟩ | ⟨q1, q2⟩
          · exact absurd (hj.symm.trans q1) (fun q => by cases q)
          subst q2
          have hJ : ∀ y, y ≠ o → y ≠ o + 1 → y ≠ o + 2 → MJ.2 y = M2.2 y := hJ0
          have hJ2 : ∀ y, y < M2.1 → ow2 y ≠ 0 → MJ.2 y = M2.2 y := fun y hy z => hJ y (fun e => z (by rw [e]; exact hoo2.1)) (fun e => z (by rw [e]; exact hoo2.2.1)) (fun e => z (by rw [e]; exact hoo2.2.2))
          have hAJ := cA_fr hA2 hk0 (show M2.1 ≤ MJ.1 by omega) hJ2
          have hbfJ : cW MJ ow2 (o + 3) [[]] := cW_fr hbf2 (by omega) (fun _ _ => rfl) (fun y hy z => hJ2 y hy (by rw [z]; decide))
          refine xj_if_eq (tgt := 77) d5_4_70 rfl (fun _ => ?_) (fun h => absurd (by decide) h)
          refine xj_iconst (v := 0) d5_4_77 (by decide) ?_
          refine xj_istore_n (i := 3) (L' := [(3, .int 0), (5, .ref y), (4, .int (nI dn.length)), (2, .ref (o + 3)), (1, .ref o), (0, .ref X)]) d5_4_78 rfl (by decide) rfl ?_
          refine xj_iinc (v := nI (dn.length + 1)) (L' := [(4, .int (nI (dn.length + 1))), (3, .int 0), (5, .ref y), (2, .ref (o + 3)), (1, .ref o), (0, .ref X)]) d5_4_79 rfl (xinc _) (by decide) rfl ?_
          refine xj_goto (tgt := 17) d5_4_82 rfl ?_
          refine xj_sub (L' := [(4, .int (nI (dn.length + 1))), (3, .int 0), (2, .ref (o + 3)), (1, .ref o), (0, .ref X)]) (fun q hq => by simp only [List.mem_cons, List.not_mem_nil, or_false] at hq ⊢; rcases hq with rfl | rfl | rfl | rfl | rfl <;> simp) ?_
          have hun9 : sUni (fun c => (sLr A c).1) (dn ++ [c]) = none := by
            rw [sUni_app, hun]
            show ((sLr A c).1.bind fun T => sAdds S T) = _
            rw [hWc]
            exact hj
          have h9 := ih (dn ++ [c]) (c + 1) MJ ow2 (cells + (pC A (c + 1) - pC A s)) (slots + 30 * (pC A (c + 1) - pC A s)) 0 (by rw [hsp]; simp) hiv.2.2 (by omega) (by omega) (fun y hy => (ho2 y (by omega)).trans (how y hy)) (fun y hy z => (hJ y (by omega) (by omega) (by omega)).trans (((hf2 y (by omega) (by rw [how y hy]; omega)).trans (hfr y hy z)))) hoo2 hbfJ hAJ (Or.inr ⟨rfl, hun9⟩) (by omega) (by omega)
          rw [List.length_append, List.length_singleton] at h9
          exact h9
        | some J9 =>
          refine xj_iload (i := 4) d5_4_17 rfl ?_
          refine xj_aload_n (i := 0) d5_4_19 rfl rfl ?_
          refine xj_get d5_4_20 f5_10_5 h_XA (by omega) (show X < M.1 by omega) rfl ?_
          refine xj_callV (rest := [.int (nI dn.length)]) (As := []) (b := pA) (cSize hg (M := M) (n := M.1) (a := pA) (el := elA) (sz := nI q.2.2.1.length) (mo := moA) rfl (by omega) (by omega) (by omega) h_pA) d5_4_23 wd28_8 h_pA (by omega) (show pA < M.1 by omega) rfl w230 w229 (Or.inl w714) rfl rfl (Nat.le_of_ble_eq_true rfl) (by omega) (by omega) (by omega) ?_
          rintro v M' ⟨rfl, hm⟩
          subst M'
          refine xj_icmp_ge (tgt := 85) d5_4_26 rfl (fun h => absurd h (nI_ge (a := dn.length) (b := q.2.2.1.length) (by omega) (by omega))) (fun _ => ?_)
          refine xj_aload_n (i := 0) d5_4_29 rfl rfl ?_
          refine xj_get d5_4_30 f5_10_5 h_XA (by omega) (show X < M.1 by omega) rfl ?_
          refine xj_iload (i := 4) d5_4_33 rfl ?_
          refine xj_callV (rest := []) (As := [.int (nI dn.length)]) (b := pA) (xLs_get (k := dn.length) (b := y) hg p5A (by omega) (by omega) hgl) d5_4_35 wd28_20 h_pA (by omega) (show pA < M.1 by omega) rfl w248 w247 (Or.inl w715) rfl rfl (Nat.le_of_ble_eq_true rfl) (by omega) (by omega) (by omega) ?_
          rintro v M' ⟨rfl, hm0⟩
          subst M'
          refine xj_cast d5_4_38 w325 x3 (by omega) (show y < M.1 by omega) rfl (Or.inl rfl) ?_
          refine xj_astore (i := 5) (L' := [(5, .ref y), (4, .int (nI dn.length)), (3, .int 1), (2, .ref (o + 3)), (1, .ref o), (0, .ref X)]) d5_4_41 (by decide) rfl ?_
          refine xj_aload (i := 5) d5_4_43 rfl ?_
          refine xj_callV (rest := []) (As := []) (b := y) hW d5_4_45 wd3_7 x3 (by omega) (show y < M.1 by omega) rfl w745 w744 (Or.inl w743) rfl rfl (Nat.le_of_ble_eq_true rfl) (by omega) (by omega) (by omega) ?_
          rintro v M2 ⟨rfl, hm2, ow2, ho2, hf2, hA2⟩
          rw [hiv.1] at hf2 hA2
          rw [lB_c hls hiv.2.1 hci] at hA2
          have hNB := hA2 i q hq
          rw [lB_i hci, hXe] at hNB
          obtain ⟨wvB, hvB, ⟨x1B, x2B, x3B, x4B⟩, -, -, -, -, k6B⟩ := id hNB
          have hv0B : wvB = .null := by
            rcases hvB with ⟨-, h⟩ | ⟨S, a, h, -⟩
            · exact h
            · cases h
          subst hv0B
          obtain ⟨pB, lvB, h_XB, ⟨⟨p1B, p2B, p3B, p4B⟩, p5B⟩⟩ := k6B hk
          clear k6B
          obtain ⟨elB, moB, h_pB, -⟩ := xLs_len p5B
          rw [List.length_map] at h_pB
          have hNc2 := hA2 c _ (xnd_at hcA)
          rw [lB_o (by omega) (by omega), hy] at hNc2
          obtain ⟨wv9, hv9, ⟨y1, y2, y3, y4⟩, -, -, -, k59, -⟩ := hNc2
          obtain ⟨p9, nd9, h_y, -⟩ := k59 hkc5
          clear k59
          have hf0 : ∀ y, y < M.1 → ow y = 0 ∨ ow y = 1 → M2.2 y = M.2 y := fun y hy z => hf2 y hy (by rcases z with z | z; rw [z, hk0]; omega; rw [z, hk1]; omega)
          have hoo2 : ow2 o = 0 ∧ ow2 (o + 1) = 0 ∧ ow2 (o + 2) = 0 := ⟨(ho2 _ (by omega)).trans hoo.1, (ho2 _ (by omega)).trans hoo.2.1, (ho2 _ (by omega)).trans hoo.2.2⟩
          have hbf2 : cW M2 ow2 (o + 3) [[]] := cW_fr hbf hm2 ho2 (fun y hy z => hf0 y hy (Or.inr z))
          obtain ⟨wa, hwv, hcw⟩ : ∃ wa : Nat, wv9 = .ref wa ∧ cW M2 ow2 wa T9 := by
            rcases hv9 with ⟨h, -⟩ | ⟨S8, a8, h, h2, h3⟩
            · rw [hWc] at h
              cases h
            · have hTS : T9 = S8 := Option.some.inj (hWc.symm.trans h)
              rw [hTS]
              exact ⟨a8, h2, h3⟩
          subst hwv
          obtain ⟨lb, nb9, f1, g1, ⟨c1, c2, c3, c4, c5, c6⟩, ⟨c7, c8, c9⟩, k_b, k_lb, k_nb, c10, c11⟩ := id hbf2
          obtain ⟨lc, nc, f2, g2, ⟨d1, d2, d3, d4, d5, d6⟩, ⟨d7, d8, d9⟩, k_wa, k_lc, k_nc, d10, d11⟩ := id hcw
          have hW2 := cWm_fr hWm (hf0 o (by omega) (Or.inl hoo.1)) (hf0 (o + 1) (by omega) (Or.inl hoo.2.1)) (hf0 (o + 2) (by omega) (Or.inl hoo.2.2))
          have hw1 : ∀ x, ow2 x = 1 → xNe x o ∧ xNe x (o + 1) ∧ xNe x (o + 2) := fun x hx => ⟨(fun e => by rw [e, hoo2.1] at hx; cases hx), (fun e => by rw [e, hoo2.2.1] at hx; cases hx), (fun e => by rw [e, hoo2.2.2] at hx; cases hx)⟩
          obtain ⟨f0, g0, k_o, -⟩ := id hW2
          refine xj_iload_n (i := 3) d5_4_48 rfl rfl ?_
          refine xj_if_eq (tgt := 77) d5_4_49 rfl (fun h => absurd h (by decide)) (fun _ => ?_)
          refine xj_aload (i := 5) d5_4_52 rfl ?_
          refine xj_get d5_4_54 f5_51_6 h_y (by omega) (show y < M2.1 by omega) rfl ?_
          refine xj_ifnull d5_4_57 ?_
          refine xj_aload_n (i := 1) d5_4_60 rfl rfl ?_
          refine xj_aload_n (i := 2) d5_4_61 rfl rfl ?_
          refine xj_aload (i := 5) d5_4_62 rfl ?_
          refine xj_get d5_4_64 f5_51_6 h_y (by omega) (show y < M2.1 by omega) rfl ?_
          have hsz9 : 16 ≤ o ∧ o < M2.1 ∧ 16 ≤ o + 1 ∧ o + 1 < M2.1 ∧ 16 ≤ o + 2 ∧ o + 2 < M2.1 ∧ 16 ≤ o + 3 ∧ o + 3 < M2.1 ∧ 16 ≤ lb ∧ lb < M2.1 ∧ 16 ≤ nb9 ∧ nb9 < M2.1 ∧ 16 ≤ wa ∧ wa < M2.1 ∧ 16 ≤ lc ∧ lc < M2.1 ∧ 16 ≤ nc ∧ nc < M2.1 := ⟨by omega, by omega, by omega, by omega, by omega, by omega, by omega, by omega, by omega, by omega, by omega, by omega, by omega, by omega, by omega, by omega, by omega, by omega⟩
          have hne9 : xNe o (o + 1) ∧ xNe o (o + 2) ∧ xNe (o + 1) (o + 2) ∧ xNe (o + 3) o ∧ xNe (o + 3) (o + 1) ∧ xNe (o + 3) (o + 2) ∧ xNe lb o ∧ xNe lb (o + 1) ∧ xNe lb (o + 2) ∧ xNe nb9 o ∧ xNe nb9 (o + 1) ∧ xNe nb9 (o + 2) ∧ xNe wa o ∧ xNe wa (o + 1) ∧ xNe wa (o + 2) ∧ xNe lc o ∧ xNe lc (o + 1) ∧ xNe lc (o + 2) ∧ xNe nc o ∧ xNe nc (o + 1) ∧ xNe nc (o + 2) := ⟨(show o ≠ o + 1 by omega), (show o ≠ o + 2 by omega), (show o + 1 ≠ o + 2 by omega), (hw1 _ c7).1, (hw1 _ c7).2.1, (hw1 _ c7).2.2, (hw1 _ c8).1, (hw1 _ c8).2.1, (hw1 _ c8).2.2, (hw1 _ c9).1, (hw1 _ c9).2.1, (hw1 _ c9).2.2, (hw1 _ d7).1, (hw1 _ d7).2.1, (hw1 _ d7).2.2, (hw1 _ d8).1, (hw1 _ d8).2.1, (hw1 _ d8).2.2, (hw1 _ d9).1, (hw1 _ d9).2.1, (hw1 _ d9).2.2⟩
          refine xj_callV (rest := []) (As := [.ref (o + 3), .ref wa]) (b := o) (wJoin hg hxn (M := M2) (S := S) hsz9 hne9 k_b k_lb k_nb k_wa k_lc k_nc c10 d10 c11 d11 hW2) d5_4_67 wd12_6 k_o (by omega) (show o < M2.1 by omega) rfl w799 w798 (Or.inl w809) rfl rfl (Nat.le_of_ble_eq_true rfl) (by omega) (by omega) (by omega) ?_
          rintro v MJ ⟨e1, hJ0, e3⟩
          rw [sPrd_one] at e3
          rcases e3 with ⟨q1, q2⟩ | ⟨S9, q1, q2, hcm9⟩
          · exact absurd (hj.symm.trans q1) (fun q => by cases q)
          subst q2
          have hS9 : J9 = S9 := Option.some.inj (hj.symm.trans q1)
          have hJ : ∀ y, y ≠ o → y ≠ o + 1 → y ≠ o + 2 → MJ.2 y = M2.2 y := hJ0
          have hJ2 : ∀ y, y < M2.1 → ow2 y ≠ 0 → MJ.2 y = M2.2 y := fun y hy z => hJ y (fun e => z (by rw [e]; exact hoo2.1)) (fun e => z (by rw [e]; exact hoo2.2.1)) (fun e => z (by rw [e]; exact hoo2.2.2))
          have hAJ := cA_fr hA2 hk0 (show M2.1 ≤ MJ.1 by omega) hJ2
          have hbfJ : cW MJ ow2 (o + 3) [[]] := cW_fr hbf2 (by omega) (fun _ _ => rfl) (fun y hy z => hJ2 y hy (by rw [z]; decide))
          refine xj_if_eq (tgt := 77) d5_4_70 rfl (fun h => absurd h (by decide)) (fun _ => ?_)
          refine xj_iconst (v := 1) d5_4_73 (by decide) ?_
          refine xj_goto (tgt := 78) d5_4_74 rfl ?_
          refine xj_istore_n (i := 3) (L' := [(3, .int 1), (5, .ref y), (4, .int (nI dn.length)), (2, .ref (o + 3)), (1, .ref o), (0, .ref X)]) d5_4_78 rfl (by decide) rfl ?_
          refine xj_iinc (v := nI (dn.length + 1)) (L' := [(4, .int (nI (dn.length + 1))), (3, .int 1), (5, .ref y), (2, .ref (o + 3)), (1, .ref o), (0, .ref X)]) d5_4_79 rfl (xinc _) (by decide) rfl ?_
          refine xj_goto (tgt := 17) d5_4_82 rfl ?_
          refine xj_sub (L' := [(4, .int (nI (dn.length + 1))), (3, .int 1), (2, .ref (o + 3)), (1, .ref o), (0, .ref X)]) (fun q hq => by simp only [List.mem_cons, List.not_mem_nil, or_false] at hq ⊢; rcases hq with rfl | rfl | rfl | rfl | rfl <;> simp) ?_
          have hun9 : sUni (fun c => (sLr A c).1) (dn ++ [c]) = some S9 := by
            rw [sUni_app, hun]
            rw [← hS9]
            show ((sLr A c).1.bind fun T => sAdds S T) = _
            rw [hWc]
            exact hj
          have h9 := ih (dn ++ [c]) (c + 1) MJ ow2 (cells + (pC A (c + 1) - pC A s)) (slots + 30 * (pC A (c + 1) - pC A s)) 1 (by rw [hsp]; simp) hiv.2.2 (by omega) (by omega) (fun y hy => (ho2 y (by omega)).trans (how y hy)) (fun y hy z => (hJ y (by omega) (by omega) (by omega)).trans (((hf2 y (by omega) (by rw [how y hy]; omega)).trans (hfr y hy z)))) hoo2 hbfJ hAJ (Or.inl ⟨rfl, S9, hun9, hcm9⟩) (by omega) (by omega)
          rw [List.length_append, List.length_singleton] at h9
          exact h9
    · skip
      refine xj_iload (i := 4) d5_4_17 rfl ?_
      refine xj_aload_n (i := 0) d5_4_19 rfl rfl ?_
      refine xj_get d5_4_20 f5_10_5 h_XA (by omega) (show X < M.1 by omega) rfl ?_
      refine xj_callV (rest := [.int (nI dn.length)]) (As := []) (b := pA) (cSize hg (M := M) (n := M.1) (a := pA) (el := elA) (sz := nI q.2.2.1.length) (mo := moA) rfl (by omega) (by omega) (by omega) h_pA) d5_4_23 wd28_8 h_pA (by omega) (show pA < M.1 by omega) rfl w230 w229 (Or.inl w714) rfl rfl (Nat.le_of_ble_eq_true rfl) (by omega) (by omega) (by omega) ?_
      rintro v M' ⟨rfl, hm⟩
      subst M'
      refine xj_icmp_ge (tgt := 85) d5_4_26 rfl (fun h => absurd h (nI_ge (a := dn.length) (b := q.2.2.1.length) (by omega) (by omega))) (fun _ => ?_)
      refine xj_aload_n (i := 0) d5_4_29 rfl rfl ?_
      refine xj_get d5_4_30 f5_10_5 h_XA (by omega) (show X < M.1 by omega) rfl ?_
      refine xj_iload (i := 4) d5_4_33 rfl ?_
      refine xj_callV (rest := []) (As := [.int (nI dn.length)]) (b := pA) (xLs_get (k := dn.length) (b := y) hg p5A (by omega) (by omega) hgl) d5_4_35 wd28_20 h_pA (by omega) (show pA < M.1 by omega) rfl w248 w247 (Or.inl w715) rfl rfl (Nat.le_of_ble_eq_true rfl) (by omega) (by omega) (by omega) ?_
      rintro v M' ⟨rfl, hm0⟩
      subst M'
      refine xj_cast d5_4_38 w325 x3 (by omega) (show y < M.1 by omega) rfl (Or.inl rfl) ?_
      refine xj_astore (i := 5) (L' := [(5, .ref y), (4, .int (nI dn.length)), (3, .int 0), (2, .ref (o + 3)), (1, .ref o), (0, .ref X)]) d5_4_41 (by decide) rfl ?_
      refine xj_aload (i := 5) d5_4_43 rfl ?_
      refine xj_callV (rest := []) (As := []) (b := y) hW d5_4_45 wd3_7 x3 (by omega) (show y < M.1 by omega) rfl w745 w744 (Or.inl w743) rfl rfl (Nat.le_of_ble_eq_true rfl) (by omega) (by omega) (by omega) ?_
      rintro v M2 ⟨rfl, hm2, ow2, ho2, hf2, hA2⟩
      rw [hiv.1] at hf2 hA2
      rw [lB_c hls hiv.2.1 hci] at hA2
      have hNB := hA2 i q hq
      rw [lB_i hci, hXe] at hNB
      obtain ⟨wvB, hvB, ⟨x1B, x2B, x3B, x4B⟩, -, -, -, -, k6B⟩ := id hNB
      have hv0B : wvB = .null := by
        rcases hvB with ⟨-, h⟩ | ⟨S, a, h, -⟩
        · exact h
        · cases h
      subst hv0B
      obtain ⟨pB, lvB, h_XB, ⟨⟨p1B, p2B, p3B, p4B⟩, p5B⟩⟩ := k6B hk
      clear k6B
      obtain ⟨elB, moB, h_pB, -⟩ := xLs_len p5B
      rw [List.length_map] at h_pB
      have hNc2 := hA2 c _ (xnd_at hcA)
      rw [lB_o (by omega) (by omega), hy] at hNc2
      obtain ⟨wv9, hv9, ⟨y1, y2, y3, y4⟩, -, -, -, k59, -⟩ := hNc2
      obtain ⟨p9, nd9, h_y, -⟩ := k59 hkc5
      clear k59
      have hf0 : ∀ y, y < M.1 → ow y = 0 ∨ ow y = 1 → M2.2 y = M.2 y := fun y hy z => hf2 y hy (by rcases z with z | z; rw [z, hk0]; omega; rw [z, hk1]; omega)
      have hoo2 : ow2 o = 0 ∧ ow2 (o + 1) = 0 ∧ ow2 (o + 2) = 0 := ⟨(ho2 _ (by omega)).trans hoo.1, (ho2 _ (by omega)).trans hoo.2.1, (ho2 _ (by omega)).trans hoo.2.2⟩
      have hbf2 : cW M2 ow2 (o + 3) [[]] := cW_fr hbf hm2 ho2 (fun y hy z => hf0 y hy (Or.inr z))
      refine xj_iload_n (i := 3) d5_4_48 rfl rfl ?_
      refine xj_if_eq (tgt := 77) d5_4_49 rfl (fun _ => ?_) (fun h => absurd (by decide) h)
      refine xj_iconst (v := 0) d5_4_77 (by decide) ?_
      refine xj_istore_n (i := 3) (L' := [(3, .int 0), (5, .ref y), (4, .int (nI dn.length)), (2, .ref (o + 3)), (1, .ref o), (0, .ref X)]) d5_4_78 rfl (by decide) rfl ?_
      refine xj_iinc (v := nI (dn.length + 1)) (L' := [(4, .int (nI (dn.length + 1))), (3, .int 0), (5, .ref y), (2, .ref (o + 3)), (1, .ref o), (0, .ref X)]) d5_4_79 rfl (xinc _) (by decide) rfl ?_
      refine xj_goto (tgt := 17) d5_4_82 rfl ?_
      refine xj_sub (L' := [(4, .int (nI (dn.length + 1))), (3, .int 0), (2, .ref (o + 3)), (1, .ref o), (0, .ref X)]) (fun q hq => by simp only [List.mem_cons, List.not_mem_nil, or_false] at hq ⊢; rcases hq with rfl | rfl | rfl | rfl | rfl <;> simp) ?_
      have hun9 : sUni (fun c => (sLr A c).1) (dn ++ [c]) = none := by
        rw [sUni_app, hun]
        rfl
      have h9 := ih (dn ++ [c]) (c + 1) M2 ow2 (cells + (pC A (c + 1) - pC A s)) (slots + 30 * (pC A (c + 1) - pC A s)) 0 (by rw [hsp]; simp) hiv.2.2 (by omega) (by omega) (fun y hy => (ho2 y (by omega)).trans (how y hy)) (fun y hy z => ((hf2 y (by omega) (by rw [how y hy]; omega)).trans (hfr y hy z))) hoo2 hbf2 hA2 (Or.inr ⟨rfl, hun9⟩) (by omega) (by omega)
      rw [List.length_append, List.length_singleton] at h9
      exact h9

def owG (ow : Nat → Nat) (n : Nat) : Nat → Nat := fun x => if x < n then ow x else if x < n + 3 then 0 else 1
theorem owG_o {ow : Nat → Nat} {n x : Nat} (h : x < n) : owG ow n x = ow x := if_pos h
theorem owG_0 {ow : Nat → Nat} {n x : Nat} (h1 : n ≤ x) (h2 : x < n + 3) : owG ow n x = 0 := by
  unfold owG
  rw [if_neg (by omega), if_pos h2]
theorem owG_1 {ow : Nat → Nat} {n x : Nat} (h1 : n + 3 ≤ x) : owG ow n x = 1 := by
  unfold owG
  rw [if_neg (by omega), if_neg (by omega)]
set_option maxRecDepth 20000 in
theorem kLwG {G : xG} (hg : xGood G) (hxn : xn = 16) (hZ : va_Z "java/util/ArrayList" "DEFAULTCAPACITY_EMPTY_ELEMENTDATA" "[Ljava/lang/Object;" (.ref (xa G 1)) (fun q => (xs G).heap.size ≤ q) (xs G) (xs G).heap) (hT : va_T (.object "java/lang/Object") (xa G 1) 0 (fun _ => .null) (fun q => (xs G).heap.size ≤ q) (xs G) (xs G).heap) (hMi : xHM G) {rk ad : Nat → Nat} {μ : Nat → xMu} {A : List xNode} {lo : Nat → Nat} {i : Nat} {q : xNode} (hk1 : rk 1 = 1) (hO : ∀ (i : Nat) (q : xNode), A[i]? = some q → pOk A lo i q) (hq : A[i]? = some q) (hA26 : A.length ≤ 26) (hk0 : rk 0 = 0) (hk : q.1 = 6) {M0 : xM} {ow0 : Nat → Nat} {ℓ : Nat → xLk} (hℓ : ∀ j, lo i ≤ j → j ≤ i → ℓ j = lk0) {d0 : Nat} (hIH : ∀ c ∈ q.2.2.1, kIH G rk ad μ A lo d0 c) (hd0 : 8 ≤ d0) (hA : cA M0 ow0 rk ad ℓ μ A) : XC G Y5_4 none (d0 + 1) (pC A (i + 1) - pC A (lo i)) (30 * (pC A (i + 1) - pC A (lo i))) [.ref (ad i)] M0 (kLP M0 ow0 rk ad ℓ μ A (lo i) i) := by
  have hok := hO i q hq
  have hlo : lo i ≤ i := by
    have := (pIv_le hok.1).1
    omega
  have g1 := pC_le (A := A) hlo
  have hpw : pC A (i + 1) = pC A i + 6 := by
    rw [pC_s hq]
    unfold pOwn
    rw [if_neg (by omega), if_neg (by omega), if_neg (by omega)]
  obtain ⟨M, hM⟩ : ∃ M, M = M0 := ⟨_, rfl⟩
  subst hM
  obtain ⟨X, hXe⟩ : ∃ X, ad i = X := ⟨_, rfl⟩
  have hXo : X < M.1 ∧ xn ≤ X := by
    obtain ⟨wv, -, ⟨x1, x2, -⟩, -⟩ := hA i q hq
    rw [← hXe]
    exact ⟨x2, x1⟩
  obtain ⟨hXo, hX1⟩ := hXo
  rw [hXe]
  refine xc_of hg (by decide) (Nat.le_of_ble_eq_true rfl) (Or.inr (Or.inr (Or.inr (Or.inr (Or.inl ⟨rfl, rfl, fun v M' h => h.1⟩))))) ?_
  refine xj_new (na := M.1) d5_4_0 n5_41 rfl (by omega) (by omega) ?_
  refine xj_abs_push rfl (fun M1 hs1 ha1 ho1 => ?_)
  refine xj_dup d5_4_3 rfl ?_
  refine xj_callI (rest := [.ref M.1]) (As := []) (b := M.1) (cWords hg (M := M1) (n := M.1 + 1) (a := M.1) (show M1.1 = M.1 + 1 by omega) (by omega) (by omega) (by omega) ha1) d5_4_4 wd12_1 rfl w347 (Or.inr ⟨_, w741⟩) rfl rfl (Nat.le_of_ble_eq_true rfl) (by omega) (by omega) (by omega) ?_
  rintro v M2 ⟨rfl, hs2, ho2, hf2_0, hf2_1, hf2_2⟩
  replace hs2 : M2.1 = M.1 + 3 := hs2
  replace hf2_0 : M2.2 M.1 = (.inr (8, [.ref (M.1 + 1), .ref (M.1 + 2), .int 0])) := hf2_0
  replace hf2_1 : M2.2 (M.1 + 1) = (.inl (1, 60, .inl (fun _ => 0))) := hf2_1
  replace hf2_2 : M2.2 (M.1 + 2) = (.inl (0, 5, .inl (fun _ => 0))) := hf2_2
  refine xj_astore_n (i := 1) (L' := [(1, .ref M.1), (0, .ref X)]) d5_4_7 rfl (by decide) rfl ?_
  refine xj_callS (rest := []) (As := []) (cEmpty hg (M := M2) (n := M.1 + 3) (show M2.1 = M.1 + 3 by omega) (by omega) ) d5_4_8 wd12_2 w342 (Or.inl w742) rfl rfl (Nat.le_of_ble_eq_true rfl) (by omega) (by omega) (by omega) ?_
  rintro v M3 ⟨rfl, hs3, ho3, hf3_0, hf3_1, hf3_2⟩
  replace hs3 : M3.1 = M.1 + 6 := hs3
  replace hf3_0 : M3.2 (M.1 + 3) = (.inr (8, [.ref (M.1 + 4), .ref (M.1 + 5), .int 1])) := hf3_0
  replace hf3_1 : M3.2 (M.1 + 4) = (.inl (1, 60, .inl (fun _ => 0))) := hf3_1
  replace hf3_2 : M3.2 (M.1 + 5) = (.inl (0, 5, .inl (fun _ => 0))) := hf3_2
  refine xj_astore_n (i := 2) (L' := [(2, .ref (M.1 + 3)), (1, .ref M.1), (0, .ref X)]) d5_4_11 rfl (by decide) rfl ?_
  refine xj_iconst (v := 1) d5_4_12 (by decide) ?_
  refine xj_istore_n (i := 3) (L' := [(3, .int 1), (2, .ref (M.1 + 3)), (1, .ref M.1), (0, .ref X)]) d5_4_13 rfl (by decide) rfl ?_
  refine xj_iconst (v := 0) d5_4_14 (by decide) ?_
  refine xj_istore (i := 4) (L' := [(4, .int 0), (3, .int 1), (2, .ref (M.1 + 3)), (1, .ref M.1), (0, .ref X)]) d5_4_15 (by decide) rfl ?_
  have hsz9 : M3.1 = M.1 + 6 := by omega
  have hW0 : cWm M3 M.1 (M.1 + 1) (M.1 + 2) [] := ⟨_, _, ((ho3 M.1 (by omega)).trans hf2_0), ((ho3 (M.1 + 1) (by omega)).trans hf2_1), ((ho3 (M.1 + 2) (by omega)).trans hf2_2), Nat.zero_le _, fun _ => ⟨0, by decide, show (0 : Int32) = nI 0 by decide⟩, fun k s hs => by simp at hs⟩
  have hfr0 : ∀ y, y < M.1 → M3.2 y = M.2 y := fun y hy => ((ho3 y (by omega)).trans ((ho2 y (by omega) (by omega)).trans (ho1 y (by omega))))
  have hA1 : cA M3 (owG ow0 M.1) rk ad (lB ℓ A (lo i) (lo i) i lk0.2) μ A := by
    rw [lB_0 (hℓ i hlo (Nat.le_refl _))]
    intro j p hp
    exact cN_mv (hA j p hp) (by omega) (fun y hy => owG_o hy) (fun _ _ _ _ => rfl) (fun y hy _ => hfr0 y hy)
  exact kLGL hg hxn hZ hT hMi hk1 hO hq hA26 hk0 hk hℓ hIH hXe hXo rfl (Nat.le_refl _) (by omega) q.2.2.1 [] (lo i) M3 (owG ow0 M.1) _ _ 1 rfl hok.1 (Nat.le_refl _) (by omega) (fun y hy => owG_o hy) (fun y hy _ => hfr0 y hy) ⟨owG_0 (by omega) (by omega), owG_0 (by omega) (by omega), owG_0 (by omega) (by omega)⟩ (cW_new (lt := M.1 + 4) (ln := M.1 + 5) ⟨by omega, by omega, by omega, by omega, by omega, by omega⟩ ⟨owG_1 (by omega), owG_1 (by omega), owG_1 (by omega)⟩ hf3_0 hf3_1 hf3_2) hA1 (Or.inl ⟨rfl, [], rfl, hW0⟩) (by omega) (by omega)
theorem kIH_mono {G : xG} {rk ad : Nat → Nat} {μ : Nat → xMu} {A : List xNode} {lo : Nat → Nat} {d0 d1 c : Nat} (h : kIH G rk ad μ A lo d0 c) (hd : d0 ≤ d1) : kIH G rk ad μ A lo d1 c := fun M ow ℓ h1 h2 => xc_wk (h M ow ℓ h1 h2) hd (Nat.le_refl _) (Nat.le_refl _) (fun v M' h => h)
/-- all words are learnt -/
theorem kLw {G : xG} (hg : xGood G) (hxn : xn = 16) (hZ : va_Z "java/util/ArrayList" "DEFAULTCAPACITY_EMPTY_ELEMENTDATA" "[Ljava/lang/Object;" (.ref (xa G 1)) (fun q => (xs G).heap.size ≤ q) (xs G) (xs G).heap) (hT : va_T (.object "java/lang/Object") (xa G 1) 0 (fun _ => .null) (fun q => (xs G).heap.size ≤ q) (xs G) (xs G).heap) (hMi : xHM G) {rk ad : Nat → Nat} {μ : Nat → xMu} {A : List xNode} {lo : Nat → Nat} (hk0 : rk 0 = 0) (hk1 : rk 1 = 1) (hO : ∀ (i : Nat) (q : xNode), A[i]? = some q → pOk A lo i q) (hA26 : A.length ≤ 26) : ∀ i, i < A.length → kIH G rk ad μ A lo (i + 20) i := by
  intro i
  induction i using Nat.strongRecOn with
  | ind i ih =>
    intro hi M ow ℓ hA hℓ
    have hq := xnd_at hi
    obtain ⟨q, hqe⟩ : ∃ q, pNd A i = q := ⟨_, rfl⟩
    rw [hqe] at hq ⊢
    have hok := hO i q hq
    have hiv := pIv_le hok.1
    have hIH : ∀ c ∈ q.2.2.1, kIH G rk ad μ A lo (i + 19) c := fun c hc => by
      have hci := (hiv.2 c hc).2.1
      exact kIH_mono (ih c hci (by omega)) (by omega)
    have hkk : q.1 = 1 ∨ (q.1 = 2 ∨ q.1 = 3) ∨ q.1 = 4 ∨ q.1 = 5 ∨ q.1 = 6 := by
      have := hok.2.1
      omega
    have hleaf : q.1 ≤ 3 → lo i = i ∧ pC A (i + 1) = pC A i + 3 := fun z => by
      have h1 := hok.1
      rw [hok.2.2.2.1 z] at h1
      refine ⟨h1, ?_⟩
      rw [pC_s hq]
      unfold pOwn
      rw [if_pos z]
    rcases hkk with z | z | z | z | z
    · obtain ⟨l1, l2⟩ := hleaf (by omega)
      rw [show yV_learnWords q.1 = Y4_6 by unfold yV_learnWords; rw [if_pos z], l1, l2, show pC A i + 3 - pC A i = 3 by omega]
      exact xc_wk (kLwS hg hxn hk1 hA hO hq (hℓ i (by omega) (Nat.le_refl _)) z) (by omega) (Nat.le_refl _) (Nat.le_refl _) (fun v M' h => h)
    · obtain ⟨l1, l2⟩ := hleaf (by omega)
      rw [show yV_learnWords q.1 = Y2_3 by unfold yV_learnWords; rw [if_neg (by omega), if_pos (by omega)], l1, l2, show pC A i + 3 - pC A i = 3 by omega]
      exact xc_wk (kLwA hg hxn hk1 hA hO hq (hℓ i (by omega) (Nat.le_refl _)) z) (by omega) (Nat.le_refl _) (Nat.le_refl _) (fun v M' h => h)
    · rw [show yV_learnWords q.1 = Y9_3 by unfold yV_learnWords; rw [if_neg (by omega), if_neg (by omega), if_pos z]]
      exact kLwR hg hxn hZ hT hMi hk1 hO hq hA26 z hℓ hIH (by omega) hA
    · rw [show yV_learnWords q.1 = Y3_7 by unfold yV_learnWords; rw [if_neg (by omega), if_neg (by omega), if_neg (by omega), if_pos z]]
      exact kLwB hg hxn hZ hT hMi hk1 hO hq hA26 z hℓ hIH (by omega) hA
    · rw [show yV_learnWords q.1 = Y5_4 by unfold yV_learnWords; rw [if_neg (by omega), if_neg (by omega), if_neg (by omega), if_neg (by omega)]]
      exact kLwG hg hxn hZ hT hMi hk1 hO hq hA26 hk0 z hℓ hIH (by omega) hA

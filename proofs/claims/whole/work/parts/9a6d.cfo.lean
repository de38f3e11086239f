theorem xj_gw {G : xG} {d ce se cells slots : Nat} {L : List (Nat × Value)} {st : List Value} {M : xM} {Post : Option Value → xM → Prop} {ow rk ad : Nat → Nat} {T X : Nat} {ℓ : xLk} {μ : xMu} {q : xNode} (hn : cN M ow rk ad T X ℓ μ q) (h1 : 1 ≤ q.1) (h6 : q.1 ≤ 6) (h5 : ¬ q.1 = 5) (kk : ∀ wv, cV M ow wv ℓ.1 → XJ G Y6_2 d ce se cells slots 4 L (wv :: st) M Post) : XJ G Y6_2 d ce se cells slots 1 L (.ref X :: st) M Post := by
  have hkk : q.1 = 1 ∨ (q.1 = 2 ∨ q.1 = 3) ∨ q.1 = 4 ∨ q.1 = 6 := by omega
  obtain ⟨wv, hv, ⟨a1, a2, a3, a4⟩, k1, k2, k4, k5, k6⟩ := hn
  rcases hkk with z | z | z | z
  · obtain ⟨y, e1, -⟩ := k1 z
    exact xj_get d6_2_1 f6_33_10 e1 a1 a2 rfl (kk wv hv)
  · have e1 := k2 z
    exact xj_get d6_2_1 f6_33_11 e1 a1 a2 rfl (kk wv hv)
  · obtain ⟨e, nd, cv, -, e1, -⟩ := k4 z
    exact xj_get d6_2_1 f6_33_9 e1 a1 a2 rfl (kk wv hv)
  · obtain ⟨bl, lv, e1, -⟩ := k6 z
    exact xj_get d6_2_1 f6_33_5 e1 a1 a2 rfl (kk wv hv)
theorem cWm_W {M : xM} {ow : Nat → Nat} {o lt ln : Nat} {S : List (List Int32)} (h : cWm M o lt ln S) (h1 : xn ≤ o ∧ o < M.1 ∧ xn ≤ lt ∧ lt < M.1 ∧ xn ≤ ln ∧ ln < M.1) (h2 : ow o = 1 ∧ ow lt = 1 ∧ ow ln = 1) : cW M ow o S := by
  obtain ⟨f, g, e1, e2, e3, e4, e5⟩ := h
  exact ⟨lt, ln, f, g, h1, h2, e1, e2, e3, e4, e5⟩
theorem cW_new {M : xM} {ow : Nat → Nat} {a lt ln : Nat} (h1 : xn ≤ a ∧ a < M.1 ∧ xn ≤ lt ∧ lt < M.1 ∧ xn ≤ ln ∧ ln < M.1) (h2 : ow a = 1 ∧ ow lt = 1 ∧ ow ln = 1) (k3 : M.2 a = .inr (8, [.ref lt, .ref ln, .int 1])) (k4 : M.2 lt = .inl (1, 60, .inl (fun _ => 0))) (k5 : M.2 ln = .inl (0, 5, .inl (fun _ => 0))) : cW M ow a [[]] := by
  refine ⟨lt, ln, fun _ => 0, fun _ => 0, h1, h2, k3, k4, k5, by decide, fun _ => ⟨0, by decide, show (0 : Int32) = nI 0 by decide⟩, fun k s hs => ?_⟩
  match k, hs with
  | 0, h =>
    have h' : [] = s := Option.some.inj h
    rw [← h']
    exact ⟨by decide, by decide, fun j c hc => by simp at hc⟩
  | k + 1, h => simp at h
theorem cNd_ws {M : xM} {ow : Nat → Nat} {la : List Nat} {Z : List (List (List Int32))} {cu : Nat} {S0 : List (List Int32)} (hl : la.length = Z.length) (h : ∀ (k a : Nat) (S : List (List Int32)), la[k]? = some a → Z[k]? = some S → cW M ow a S) (h2 : cW M ow cu S0) : ∀ (k a : Nat) (S : List (List Int32)), (la ++ [cu])[k]? = some a → (Z ++ [S0])[k]? = some S → cW M ow a S := by
  intro k a S q1 q2
  by_cases hk : k < la.length
  · rw [List.getElem?_append_left hk] at q1
    rw [List.getElem?_append_left (by omega)] at q2
    exact h k a S q1 q2
  · have hh := (List.getElem?_eq_some_iff.mp q1).1
    rw [List.length_append, List.length_singleton] at hh
    have hk8 : k = la.length := by omega
    rw [hk8, List.getElem?_append_right (Nat.le_refl _), Nat.sub_self] at q1
    rw [hk8, hl, List.getElem?_append_right (Nat.le_refl _), Nat.sub_self] at q2
    have e1 : cu = a := Option.some.inj q1
    have e2 : S0 = S := Option.some.inj q2
    rw [← e1, ← e2]
    exact h2
/-- a cell that holds no needs -/
def bc7 (M : xM) (X : Nat) : Prop := ¬ ∃ fs, M.2 X = .inr (7, fs)
set_option maxRecDepth 20000 in
set_option maxHeartbeats 4000000 in
theorem kFol {G : xG} (hg : xGood G) (hxn : xn = 16) (hZ : va_Z "java/util/ArrayList" "DEFAULTCAPACITY_EMPTY_ELEMENTDATA" "[Ljava/lang/Object;" (.ref (xa G 1)) (fun q => (xs G).heap.size ≤ q) (xs G) (xs G).heap) (hT : va_T (.object "java/lang/Object") (xa G 1) 0 (fun _ => .null) (fun q => (xs G).heap.size ≤ q) (xs G) (xs G).heap) (hMi : xHM G) {M : xM} {ow rk ad : Nat → Nat} {T T' nd X c : Nat} {z : xNl} {ℓ : xLk} {μ : xMu} {q : xNode} (hk1 : rk 1 = 1) (hT2 : 2 ≤ T) (hn : cNd M ow rk ad T nd z) (hX : cN M ow rk ad T' X ℓ μ q) (h1 : 1 ≤ q.1) (h6 : q.1 ≤ 6) (h5 : ¬ q.1 = 5) (hadc : ad c = X) (hz1 : z.1.length ≤ 25) (hz2 : z.2.1.length ≤ 25) (hpo : ∀ y ∈ z.2.1.map ad, (∃ (bc : Nat) (bf : List Value), M.2 y = .inr (bc, bf) ∧ bc ≠ 2 ∧ bc ≠ 7) ∧ xOb M y) (hX7 : bc7 M X) : XC G Y6_2 none 8 5 150 [.ref nd, .ref X] M (fun v M' => v = none ∧ M.1 ≤ M'.1 ∧ ∃ ow' : Nat → Nat, (∀ y, y < M.1 → ow' y = ow y) ∧ (∀ y, y < M.1 → ¬ (rk (ow y) = T ∨ rk (ow y) = T + 1) → M'.2 y = M.2 y) ∧ cNd M' ow' rk ad T nd (sFol z c ℓ.1)) := by
  obtain ⟨al, pa, cu, la, ⟨n1, n2, n3, n4⟩, k_nd, ⟨⟨a1, a2, a3, a4⟩, a5⟩, ⟨⟨p1, p2, p3, p4⟩, p5⟩, m4, m5, m6⟩ := id hn
  obtain ⟨el9, mo9, k_al, -⟩ := xLs_len a5
  obtain ⟨el8, mo8, k_pa, -⟩ := xLs_len p5
  obtain ⟨lb, nb9, f1, g1, ⟨c1, c2, c3, c4, c5, c6⟩, ⟨c7, c8, c9⟩, k_cu, k_lb, k_nb, c10, c11⟩ := id m6
  obtain ⟨x1, x2, bc_X, bf_X, bC_X, bT_X, bN_X, x3, hc_X, hA_X, x6, x7, -⟩ := cN_ob hX h1 h6
  have s1 : nd ≠ al := xne_cl k_nd k_al (by decide)
  have s2 : nd ≠ pa := xne_cl k_nd k_pa (by decide)
  have s3 : al ≠ pa := fun q => by rw [q, p4] at a4; omega
  have s4 : nd ≠ cu := xne_cl k_nd k_cu (by decide)
  have s5 : al ≠ cu := xne_cl k_al k_cu (by decide)
  have s6 : nd ≠ lb := xne_io k_nd k_lb
  have s7 : nd ≠ nb9 := xne_io k_nd k_nb
  have s8 : pa ≠ X := xne_cl k_pa x3 (Ne.symm x6)
  have t1 : T ≠ 1 := by omega
  have hob : ∀ y ∈ la, y ≠ al ∧ y ≠ nd ∧ xOb M y := fun y hy => by
    obtain ⟨k, hk⟩ := List.getElem?_of_mem hy
    obtain ⟨S, hS⟩ : ∃ S, z.1[k]? = some S := ⟨_, List.getElem?_eq_getElem (by rw [← m4]; exact (List.getElem?_eq_some_iff.mp hk).1)⟩
    obtain ⟨lt9, ln9, f9, g9, ⟨w1, w2, -⟩, -, w3, -⟩ := m5 k y S hk hS
    exact ⟨(xne_cl k_al w3 (by decide)).symm, (xne_cl k_nd w3 (by decide)).symm, w1, w2, 8, _, Rc8, Tc8, _, w3, rfl, Or.inr w1399⟩
  have hXnd : X ≠ nd := fun q => hX7 (by rw [q]; exact ⟨_, k_nd⟩)
  have hz1' : la.length ≤ 25 := by omega
  refine xc_of hg (by decide) (Nat.le_of_ble_eq_true rfl) (Or.inr (Or.inr (Or.inr (Or.inr (Or.inl ⟨rfl, rfl, fun v M' h => h.1⟩))))) ?_
  refine xj_aload_n (i := 1) d6_2_0 rfl rfl ?_
  refine xj_gw hX h1 h6 h5 (fun wv hv => ?_)
  rcases hv with ⟨hw, rfl⟩ | ⟨W, wa, hw, rfl, hcw⟩
  · skip
    refine xj_astore_nN (i := 2) (L' := [(2, .null), (0, .ref nd), (1, .ref X)]) d6_2_4 rfl (by decide) rfl ?_
    refine xj_aload_nN (i := 2) d6_2_5 rfl rfl ?_
    refine xj_ifnullN (tgt := 35) d6_2_6 rfl ?_
    refine xj_aload_n (i := 0) d6_2_35 rfl rfl ?_
    refine xj_iconst (v := 0) d6_2_36 (by decide) ?_
    refine xj_put (a := nd) (fs' := [.ref al, .ref pa, .ref cu, .int 0]) d6_2_37 f6_29_7 k_nd (by omega) (show nd < M.1 by omega) (Nat.le_of_ble_eq_true rfl) rfl rfl rfl ?_
    refine xj_abs_set (fun M1 hs1 ha1 ho1 => ?_)
    refine xj_aload_n (i := 0) d6_2_40 rfl rfl ?_
    refine xj_get d6_2_41 f6_10_7 ha1 (by omega) (show nd < M1.1 by omega) rfl ?_
    refine xj_aload_n (i := 0) d6_2_44 rfl rfl ?_
    refine xj_get d6_2_45 f6_25_7 ha1 (by omega) (show nd < M1.1 by omega) rfl ?_
    have fH : ∀ y, y < M.1 → y ≠ nd → M1.2 y = M.2 y := fun y hy hy2 => (ho1 y (by omega))
    have hlsA : xLs (fun y => (owN ow M.1 0 0 al) y = al) M1 al la := xLs_mv a5 (by omega) (fH al a2 s1.symm) (fun y hy hlt => ⟨(owN_o hlt).trans hy, fH y hlt (fun q => s1 (n3.symm.trans ((congrArg ow q.symm).trans hy)))⟩)
    have hobA : ∀ y ∈ la, y ≠ al ∧ xOb M1 y := fun y hy => by
      obtain ⟨q1, q2, q3, q4, bc, bf, bC, bT, bN, q5, q6⟩ := hob y hy
      exact ⟨q1, q3, by omega, bc, bf, bC, bT, bN, (fH y q4 q2).trans q5, q6⟩
    refine xj_callV (rest := []) (As := [.ref cu]) (b := al) (xLs_addG hg hZ hT hMi hlsA (by omega) (by omega) (fun y hy => owN_w (by decide) (by omega)) (by omega) hobA (by omega) (by omega) ((ho1 cu (by omega)).trans k_cu) (by omega) rfl (Or.inr w1399)) d6_2_48 wd28_25 ((ho1 al (by omega)).trans k_al) (by omega) (show al < M1.1 by omega) rfl w168 w167 (Or.inl w802) rfl rfl (Nat.le_of_ble_eq_true rfl) (by omega) (by omega) (by omega) ?_
    rintro v M2 ⟨rfl, hs2, ho2, hL2⟩
    have fA : ∀ y, y < M.1 → y ≠ nd → ow y ≠ al → M2.2 y = M.2 y := fun y hy hy2 h9 => (ho2 y (by omega) (fun q => h9 (by rw [q]; exact a3)) (fun q => absurd ((owN_o hy).symm.trans q) h9)).trans (fH y hy hy2)
    have k_nd2 : M2.2 nd = (.inr (7, [.ref al, .ref pa, .ref cu, .int 0])) := (ho2 nd (by omega) s1 (fun q => absurd ((owN_o n2).symm.trans q) (by rw [n3]; exact s1))).trans ha1
    have k_pa2 : M2.2 pa = (.inr (2, [el8, .int (nI (z.2.1.map ad).length), .int mo8])) := (fA pa p2 s2.symm (by rw [p3]; exact s3.symm)).trans k_pa
    have hXal : X ≠ al := (xne_cl k_al x3 (Ne.symm x6)).symm
    have k_X2 : M2.2 X = .inr (bc_X, bf_X) := (ho2 X (by omega) hXal (fun _ => ⟨_, (fH X x2 hXnd).trans x3⟩)).trans ((fH X x2 hXnd).trans x3)
    refine xj_pop d6_2_51 rfl ?_
    refine xj_aload_nN (i := 2) d6_2_52 rfl rfl ?_
    refine xj_ifnullN (tgt := 64) d6_2_53 rfl ?_
    refine xj_aload_n (i := 0) d6_2_64 rfl rfl ?_
    refine xj_get d6_2_65 f6_16_7 k_nd2 (by omega) (show nd < M2.1 by omega) rfl ?_
    refine xj_aload_n (i := 1) d6_2_68 rfl rfl ?_
    have hlsB : xLs (fun y => owN (owN ow M.1 0 0 al) M2.1 0 0 pa y = pa) M2 pa (z.2.1.map ad) := xLs_mv p5 (by omega) (fA pa p2 s2.symm (by rw [p3]; exact s3.symm)) (fun y hy hlt => ⟨(owN_o (show y < M2.1 by omega)).trans ((owN_o hlt).trans hy), fA y hlt (fun q => s2 (n3.symm.trans ((congrArg ow q.symm).trans hy))) (fun q => s3 (q.symm.trans hy))⟩)
    have hobB : ∀ y ∈ z.2.1.map ad, y ≠ pa ∧ xOb M2 y := fun y hy => by
      obtain ⟨⟨bc', bf', q1, q2, q7⟩, q3, q4, bc, bf, bC, bT, bN, q5, q6⟩ := hpo y hy
      have q8 : y ≠ nd := (xne_cl k_nd q1 (Ne.symm q7)).symm
      exact ⟨(xne_cl k_pa q1 (Ne.symm q2)).symm, q3, by omega, bc, bf, bC, bT, bN, (ho2 y (by omega) (xne_cl k_al q1 (Ne.symm q2)).symm (fun _ => ⟨_, (fH y q4 q8).trans q1⟩)).trans ((fH y q4 q8).trans q5), q6⟩
    refine xj_callV (rest := []) (As := [.ref X]) (b := pa) (xLs_addG hg hZ hT hMi hlsB (by omega) (by omega) (fun y hy => owN_w (by decide) (by omega)) (by rw [List.length_map]; omega) hobB (by omega) (by omega) k_X2 s8 hc_X hA_X) d6_2_69 wd28_25 k_pa2 (by omega) (show pa < M2.1 by omega) rfl w168 w167 (Or.inl w802) rfl rfl (Nat.le_of_ble_eq_true rfl) (by omega) (by omega) (by omega) ?_
    rintro v M3 ⟨rfl, hs3, ho3, hL3⟩
    have fB : ∀ y, y < M2.1 → (owN ow M.1 0 0 al) y ≠ pa → M3.2 y = M2.2 y := fun y hy h9 => ho3 y hy (fun q => h9 (by rw [q, show (owN ow M.1 0 0 al) pa = ow pa from owN_o p2]; exact p3)) (fun q => absurd ((owN_o hy).symm.trans q) h9)
    have k_nd3 : M3.2 nd = (.inr (7, [.ref al, .ref pa, .ref cu, .int 0])) := (fB nd (by omega) (by rw [show (owN ow M.1 0 0 al) nd = ow nd from owN_o n2, n3]; exact s2)).trans k_nd2
    refine xj_pop d6_2_72 rfl ?_
    refine xj_aload_n (i := 0) d6_2_73 rfl rfl ?_
    refine xj_callS (rest := [.ref nd]) (As := []) (cEmpty hg (M := M3) (n := M3.1) rfl (by omega) ) d6_2_74 wd12_2 w342 (Or.inl w341) rfl rfl (Nat.le_of_ble_eq_true rfl) (by omega) (by omega) (by omega) ?_
    rintro v M4 ⟨rfl, hs4, ho4, hf4_0, hf4_1, hf4_2⟩
    replace hs4 : M4.1 = M3.1 + 3 := hs4
    replace hf4_0 : M4.2 M3.1 = (.inr (8, [.ref (M3.1 + 1), .ref (M3.1 + 2), .int 1])) := hf4_0
    replace hf4_1 : M4.2 (M3.1 + 1) = (.inl (1, 60, .inl (fun _ => 0))) := hf4_1
    replace hf4_2 : M4.2 (M3.1 + 2) = (.inl (0, 5, .inl (fun _ => 0))) := hf4_2
    refine xj_put (a := nd) (fs' := [.ref al, .ref pa, .ref M3.1, .int 0]) d6_2_77 f6_25_7 ((ho4 nd (by omega)).trans k_nd3) (by omega) (show nd < M4.1 by omega) (Nat.le_of_ble_eq_true rfl) rfl rfl rfl ?_
    refine xj_abs_set (fun M5 hs5 ha5 ho5 => ?_)
    have fE : ∀ y, y < M3.1 → y ≠ nd → M5.2 y = M3.2 y := fun y hy hy2 => ((ho5 y (by omega)).trans (ho4 y (by omega)))
    have o2 : ∀ y, y < M2.1 → (owN (owN ow M.1 0 0 al) M2.1 0 0 pa) y = (owN ow M.1 0 0 al) y := fun y hy => owN_o hy
    have fr : ∀ y, y < M.1 → ¬ (rk (ow y) = T ∨ rk (ow y) = T + 1) → M5.2 y = M.2 y := fun y hy q => by
      have q1 : y ≠ nd := fun e => q (Or.inl (by rw [e, n3]; exact n4))
      have q2 : ow y ≠ al := fun e => q (Or.inl (by rw [e]; exact a4))
      have q3 : ow y ≠ pa := fun e => q (Or.inr (by rw [e]; exact p4))
      exact (fE y (by omega) q1).trans ((fB y (by omega) (by rw [show (owN ow M.1 0 0 al) y = ow y from owN_o hy]; exact q3)).trans (fA y hy q1 q2))
    have o3 : ∀ y, y < M.1 → (owN (owN (owN ow M.1 0 0 al) M2.1 0 0 pa) M3.1 0 3 1) y = ow y := fun y hy => (owN_o (show y < M3.1 by omega)).trans ((owN_o (show y < M2.1 by omega)).trans (owN_o hy))
    have fw : ∀ y, y < M.1 → ow y = 1 → M5.2 y = M.2 y := fun y hy q => fr y hy (by rw [q, hk1]; omega)
    refine xj_ret d6_2_80 (by omega) (by omega) rfl ⟨rfl, by omega, owN (owN (owN ow M.1 0 0 al) M2.1 0 0 pa) M3.1 0 3 1, o3, fr, ?_⟩
    rw [hw]
    refine ⟨al, pa, M3.1, la ++ [cu], ⟨n1, by omega, (o3 nd n2).trans n3, n4⟩, ha5, ⟨⟨a1, by omega, (o3 al a2).trans a3, a4⟩, ?_⟩, ⟨⟨p1, by omega, (o3 pa p2).trans p3, p4⟩, ?_⟩, ?_, ?_, cW_new (lt := M3.1 + 1) (ln := M3.1 + 2) ⟨by omega, by omega, by omega, by omega, by omega, by omega⟩ ⟨owN_1 (by omega) (by omega), owN_1 (by omega) (by omega), owN_1 (by omega) (by omega)⟩ ((ho5 M3.1 (by omega)).trans hf4_0) ((ho5 (M3.1 + 1) (by omega)).trans hf4_1) ((ho5 (M3.1 + 2) (by omega)).trans hf4_2)⟩
    · refine xLs_mv hL2 (show M2.1 ≤ M5.1 by omega) ((fE al (by omega) s1.symm).trans (fB al (by omega) (by rw [show (owN ow M.1 0 0 al) al = ow al from owN_o a2, a3]; exact s3))) (fun y hy hlt => ⟨(owN_o (show y < M3.1 by omega)).trans ((owN_o hlt).trans hy), ?_⟩)
      exact (fE y (by omega) (fun q => s1 (by rw [q, show (owN ow M.1 0 0 al) nd = ow nd from owN_o n2, n3] at hy; exact hy))).trans (fB y hlt (fun q => s3 (hy.symm.trans q)))
    · show xLs _ _ pa ((z.2.1 ++ [c]).map ad)
      rw [List.map_append, List.map_singleton, hadc]
      refine xLs_mv hL3 (show M3.1 ≤ M5.1 by omega) (fE pa (by omega) s2.symm) (fun y hy hlt => ⟨(owN_o hlt).trans hy, fE y hlt (fun q => s2 (by rw [q, show (owN (owN ow M.1 0 0 al) M2.1 0 0 pa) nd = (owN ow M.1 0 0 al) nd from owN_o (by omega), show (owN ow M.1 0 0 al) nd = ow nd from owN_o n2, n3] at hy; exact hy))⟩)
    · show (la ++ [cu]).length = (z.1 ++ [z.2.2.1]).length
      rw [List.length_append, List.length_append, m4]
      rfl
    · exact cNd_ws m4 (fun k a S q1 q2 => cW_fr (m5 k a S q1 q2) (by omega) o3 fw) (cW_fr m6 (by omega) o3 fw)
  · obtain ⟨lc, nc, f2, g2, ⟨d1, d2, d3, d4, d5, d6⟩, ⟨d7, d8, d9⟩, k_wa, k_lc, k_nc, d10, d11⟩ := id hcw
    have u1 : nd ≠ wa := xne_cl k_nd k_wa (by decide)
    have u2 : nd ≠ lc := xne_io k_nd k_lc
    have u3 : nd ≠ nc := xne_io k_nd k_nc
    cases hj : sJoin z.2.2.1 W with
    | some J =>
      refine xj_astore_n (i := 2) (L' := [(2, .ref wa), (0, .ref nd), (1, .ref X)]) d6_2_4 rfl (by decide) rfl ?_
      refine xj_aload_n (i := 2) d6_2_5 rfl rfl ?_
      refine xj_ifnull d6_2_6 ?_
      refine xj_new (na := M.1) d6_2_9 n6_20 rfl (by omega) (by omega) ?_
      refine xj_abs_push rfl (fun M1 hs1 ha1 ho1 => ?_)
      refine xj_dup d6_2_12 rfl ?_
      refine xj_callI (rest := [.ref M.1]) (As := []) (b := M.1) (cWords hg (M := M1) (n := M.1 + 1) (a := M.1) (show M1.1 = M.1 + 1 by omega) (by omega) (by omega) (by omega) ha1) d6_2_13 wd12_1 rfl w347 (Or.inr ⟨_, w796⟩) rfl rfl (Nat.le_of_ble_eq_true rfl) (by omega) (by omega) (by omega) ?_
      rintro v M2 ⟨rfl, hs2, ho2, hf2_0, hf2_1, hf2_2⟩
      replace hs2 : M2.1 = M.1 + 3 := hs2
      replace hf2_0 : M2.2 M.1 = (.inr (8, [.ref (M.1 + 1), .ref (M.1 + 2), .int 0])) := hf2_0
      replace hf2_1 : M2.2 (M.1 + 1) = (.inl (1, 60, .inl (fun _ => 0))) := hf2_1
      replace hf2_2 : M2.2 (M.1 + 2) = (.inl (0, 5, .inl (fun _ => 0))) := hf2_2
      refine xj_astore_n (i := 3) (L' := [(3, .ref M.1), (2, .ref wa), (0, .ref nd), (1, .ref X)]) d6_2_16 rfl (by decide) rfl ?_
      refine xj_aload_n (i := 3) d6_2_17 rfl rfl ?_
      refine xj_aload_n (i := 0) d6_2_18 rfl rfl ?_
      refine xj_get d6_2_19 f6_25_7 ((ho2 nd (by omega) (by omega)).trans ((ho1 nd (by omega)).trans k_nd)) (by omega) (show nd < M2.1 by omega) rfl ?_
      refine xj_aload_n (i := 2) d6_2_22 rfl rfl ?_
      have hW0 : cWm M2 M.1 (M.1 + 1) (M.1 + 2) [] := ⟨_, _, hf2_0, hf2_1, hf2_2, by decide, fun _ => ⟨0, by decide, show (0 : Int32) = nI 0 by decide⟩, fun k s hs => by simp at hs⟩
      have hsz9 : 16 ≤ M.1 ∧ M.1 < M2.1 ∧ 16 ≤ M.1 + 1 ∧ M.1 + 1 < M2.1 ∧ 16 ≤ M.1 + 2 ∧ M.1 + 2 < M2.1 ∧ 16 ≤ cu ∧ cu < M2.1 ∧ 16 ≤ lb ∧ lb < M2.1 ∧ 16 ≤ nb9 ∧ nb9 < M2.1 ∧ 16 ≤ wa ∧ wa < M2.1 ∧ 16 ≤ lc ∧ lc < M2.1 ∧ 16 ≤ nc ∧ nc < M2.1 := ⟨by omega, by omega, by omega, by omega, by omega, by omega, by omega, by omega, by omega, by omega, by omega, by omega, by omega, by omega, by omega, by omega, by omega, by omega⟩
      have hne9 : xNe M.1 (M.1 + 1) ∧ xNe M.1 (M.1 + 2) ∧ xNe (M.1 + 1) (M.1 + 2) ∧ xNe cu M.1 ∧ xNe cu (M.1 + 1) ∧ xNe cu (M.1 + 2) ∧ xNe lb M.1 ∧ xNe lb (M.1 + 1) ∧ xNe lb (M.1 + 2) ∧ xNe nb9 M.1 ∧ xNe nb9 (M.1 + 1) ∧ xNe nb9 (M.1 + 2) ∧ xNe wa M.1 ∧ xNe wa (M.1 + 1) ∧ xNe wa (M.1 + 2) ∧ xNe lc M.1 ∧ xNe lc (M.1 + 1) ∧ xNe lc (M.1 + 2) ∧ xNe nc M.1 ∧ xNe nc (M.1 + 1) ∧ xNe nc (M.1 + 2) := ⟨(show M.1 ≠ M.1 + 1 by omega), (show M.1 ≠ M.1 + 2 by omega), (show M.1 + 1 ≠ M.1 + 2 by omega), (show cu ≠ M.1 by omega), (show cu ≠ M.1 + 1 by omega), (show cu ≠ M.1 + 2 by omega), (show lb ≠ M.1 by omega), (show lb ≠ M.1 + 1 by omega), (show lb ≠ M.1 + 2 by omega), (show nb9 ≠ M.1 by omega), (show nb9 ≠ M.1 + 1 by omega), (show nb9 ≠ M.1 + 2 by omega), (show wa ≠ M.1 by omega), (show wa ≠ M.1 + 1 by omega), (show wa ≠ M.1 + 2 by omega), (show lc ≠ M.1 by omega), (show lc ≠ M.1 + 1 by omega), (show lc ≠ M.1 + 2 by omega), (show nc ≠ M.1 by omega), (show nc ≠ M.1 + 1 by omega), (show nc ≠ M.1 + 2 by omega)⟩
      refine xj_callV (rest := []) (As := [.ref cu, .ref wa]) (b := M.1) (wJoin hg hxn (M := M2) hsz9 hne9 ((ho2 cu (by omega) (by omega)).trans ((ho1 cu (by omega)).trans k_cu)) ((ho2 lb (by omega) (by omega)).trans ((ho1 lb (by omega)).trans k_lb)) ((ho2 nb9 (by omega) (by omega)).trans ((ho1 nb9 (by omega)).trans k_nb)) ((ho2 wa (by omega) (by omega)).trans ((ho1 wa (by omega)).trans k_wa)) ((ho2 lc (by omega) (by omega)).trans ((ho1 lc (by omega)).trans k_lc)) ((ho2 nc (by omega) (by omega)).trans ((ho1 nc (by omega)).trans k_nc)) c10 d10 c11 d11 hW0) d6_2_23 wd12_6 hf2_0 (by omega) (show M.1 < M2.1 by omega) rfl w799 w798 (Or.inl w797) rfl rfl (Nat.le_of_ble_eq_true rfl) (by omega) (by omega) (by omega) ?_
      rintro v MJ ⟨e1, e2, e3⟩
      rcases e3 with ⟨q1, q2⟩ | ⟨S9, q1, q2, hcm⟩
      · exact absurd (hj.symm.trans q1) (fun q => by cases q)
      subst q2
      have hJ9 : J = S9 := Option.some.inj (hj.symm.trans q1)
      subst hJ9
      have hszJ : MJ.1 = M.1 + 3 := by omega
      refine xj_if_eq (tgt := 35) d6_2_26 rfl (fun h => absurd h (by decide)) (fun _ => ?_)
      refine xj_aload_n (i := 0) d6_2_29 rfl rfl ?_
      refine xj_aload_n (i := 3) d6_2_30 rfl rfl ?_
      refine xj_put (a := nd) (fs' := [.ref al, .ref pa, .ref M.1, .int z.2.2.2]) d6_2_31 f6_25_7 ((e2 nd (by omega) (by omega) (by omega)).trans ((ho2 nd (by omega) (by omega)).trans ((ho1 nd (by omega)).trans k_nd))) (by omega) (show nd < MJ.1 by omega) (Nat.le_of_ble_eq_true rfl) rfl rfl rfl ?_
      refine xj_abs_set (fun M3 hs3 ha3 ho3 => ?_)
      have fr0 : ∀ y, y < M.1 → y ≠ nd → M3.2 y = M.2 y := fun y hy hy2 => ((ho3 y (by omega)).trans ((e2 y (by omega) (by omega) (by omega)).trans ((ho2 y (by omega) (by omega)).trans (ho1 y (by omega)))))
      have fr : ∀ y, y < M.1 → ¬ (rk (ow y) = T ∨ rk (ow y) = T + 1) → M3.2 y = M.2 y := fun y hy q => fr0 y hy (fun e => q (Or.inl (by rw [e, n3]; exact n4)))
      have o3 : ∀ y, y < M.1 → (owN ow M.1 0 3 1) y = ow y := fun y hy => owN_o hy
      have fw : ∀ y, y < M.1 → ow y = 1 → M3.2 y = M.2 y := fun y hy q => fr y hy (by rw [q, hk1]; omega)
      have hcm2 : cWm M3 M.1 (M.1 + 1) (M.1 + 2) J := by
        obtain ⟨f9, g9, r1, r2, r3, r4, r5⟩ := hcm
        exact ⟨f9, g9, (ho3 M.1 (by omega)).trans r1, (ho3 (M.1 + 1) (by omega)).trans r2, (ho3 (M.1 + 2) (by omega)).trans r3, r4, r5⟩
      refine xj_ret d6_2_34 (by omega) (by omega) rfl ⟨rfl, by omega, owN ow M.1 0 3 1, o3, fr, ?_⟩
      rw [hw]
      have hsf : sFol z c (some W) = (z.1, z.2.1, J, z.2.2.2) := by
        show (match sJoin z.2.2.1 W with | none => _ | some J => _) = _
        rw [hj]
      rw [hsf]
      refine ⟨al, pa, M.1, la, ⟨n1, by omega, (o3 nd n2).trans n3, n4⟩, ha3, ⟨⟨a1, by omega, (o3 al a2).trans a3, a4⟩, ?_⟩, ⟨⟨p1, by omega, (o3 pa p2).trans p3, p4⟩, ?_⟩, m4, fun k a S q1 q2 => cW_fr (m5 k a S q1 q2) (by omega) o3 fw, cWm_W hcm2 ⟨by omega, by omega, by omega, by omega, by omega, by omega⟩ ⟨owN_1 (by omega) (by omega), owN_1 (by omega) (by omega), owN_1 (by omega) (by omega)⟩⟩
      · exact xLs_mv a5 (by omega) (fr0 al a2 s1.symm) (fun y hy hlt => ⟨(owN_o hlt).trans hy, fr0 y hlt (fun q => s1 (n3.symm.trans ((congrArg ow q.symm).trans hy)))⟩)
      · exact xLs_mv p5 (by omega) (fr0 pa p2 s2.symm) (fun y hy hlt => ⟨(owN_o hlt).trans hy, fr0 y hlt (fun q => s2 (n3.symm.trans ((congrArg ow q.symm).trans hy)))⟩)
    | none =>
      refine xj_astore_n (i := 2) (L' := [(2, .ref wa), (0, .ref nd), (1, .ref X)]) d6_2_4 rfl (by decide) rfl ?_
      refine xj_aload_n (i := 2) d6_2_5 rfl rfl ?_
      refine xj_ifnull d6_2_6 ?_
      refine xj_new (na := M.1) d6_2_9 n6_20 rfl (by omega) (by omega) ?_
      refine xj_abs_push rfl (fun M1 hs1 ha1 ho1 => ?_)
      refine xj_dup d6_2_12 rfl ?_
      refine xj_callI (rest := [.ref M.1]) (As := []) (b := M.1) (cWords hg (M := M1) (n := M.1 + 1) (a := M.1) (show M1.1 = M.1 + 1 by omega) (by omega) (by omega) (by omega) ha1) d6_2_13 wd12_1 rfl w347 (Or.inr ⟨_, w796⟩) rfl rfl (Nat.le_of_ble_eq_true rfl) (by omega) (by omega) (by omega) ?_
      rintro v M2 ⟨rfl, hs2, ho2, hf2_0, hf2_1, hf2_2⟩
      replace hs2 : M2.1 = M.1 + 3 := hs2
      replace hf2_0 : M2.2 M.1 = (.inr (8, [.ref (M.1 + 1), .ref (M.1 + 2), .int 0])) := hf2_0
      replace hf2_1 : M2.2 (M.1 + 1) = (.inl (1, 60, .inl (fun _ => 0))) := hf2_1
      replace hf2_2 : M2.2 (M.1 + 2) = (.inl (0, 5, .inl (fun _ => 0))) := hf2_2
      refine xj_astore_n (i := 3) (L' := [(3, .ref M.1), (2, .ref wa), (0, .ref nd), (1, .ref X)]) d6_2_16 rfl (by decide) rfl ?_
      refine xj_aload_n (i := 3) d6_2_17 rfl rfl ?_
      refine xj_aload_n (i := 0) d6_2_18 rfl rfl ?_
      refine xj_get d6_2_19 f6_25_7 ((ho2 nd (by omega) (by omega)).trans ((ho1 nd (by omega)).trans k_nd)) (by omega) (show nd < M2.1 by omega) rfl ?_
      refine xj_aload_n (i := 2) d6_2_22 rfl rfl ?_
      have hW0 : cWm M2 M.1 (M.1 + 1) (M.1 + 2) [] := ⟨_, _, hf2_0, hf2_1, hf2_2, by decide, fun _ => ⟨0, by decide, show (0 : Int32) = nI 0 by decide⟩, fun k s hs => by simp at hs⟩
      have hsz9 : 16 ≤ M.1 ∧ M.1 < M2.1 ∧ 16 ≤ M.1 + 1 ∧ M.1 + 1 < M2.1 ∧ 16 ≤ M.1 + 2 ∧ M.1 + 2 < M2.1 ∧ 16 ≤ cu ∧ cu < M2.1 ∧ 16 ≤ lb ∧ lb < M2.1 ∧ 16 ≤ nb9 ∧ nb9 < M2.1 ∧ 16 ≤ wa ∧ wa < M2.1 ∧ 16 ≤ lc ∧ lc < M2.1 ∧ 16 ≤ nc ∧ nc < M2.1 := ⟨by omega, by omega, by omega, by omega, by omega, by omega, by omega, by omega, by omega, by omega, by omega, by omega, by omega, by omega, by omega, by omega, by omega, by omega⟩
      have hne9 : xNe M.1 (M.1 + 1) ∧ xNe M.1 (M.1 + 2) ∧ xNe (M.1 + 1) (M.1 + 2) ∧ xNe cu M.1 ∧ xNe cu (M.1 + 1) ∧ xNe cu (M.1 + 2) ∧ xNe lb M.1 ∧ xNe lb (M.1 + 1) ∧ xNe lb (M.1 + 2) ∧ xNe nb9 M.1 ∧ xNe nb9 (M.1 + 1) ∧ xNe nb9 (M.1 + 2) ∧ xNe wa M.1 ∧ xNe wa (M.1 + 1) ∧ xNe wa (M.1 + 2) ∧ xNe lc M.1 ∧ xNe lc (M.1 + 1) ∧ xNe lc (M.1 + 2) ∧ xNe nc M.1 ∧ xNe nc (M.1 + 1) ∧ xNe nc (M.1 + 2) := ⟨(show M.1 ≠ M.1 + 1 by omega), (show M.1 ≠ M.1 + 2 by omega), (show M.1 + 1 ≠ M.1 + 2 by omega), (show cu ≠ M.1 by omega), (show cu ≠ M.1 + 1 by omega), (show cu ≠ M.1 + 2 by omega), (show lb ≠ M.1 by omega), (show lb ≠ M.1 + 1 by omega), (show lb ≠ M.1 + 2 by omega), (show nb9 ≠ M.1 by omega), (show nb9 ≠ M.1 + 1 by omega), (show nb9 ≠ M.1 + 2 by omega), (show wa ≠ M.1 by omega), (show wa ≠ M.1 + 1 by omega), (show wa ≠ M.1 + 2 by omega), (show lc ≠ M.1 by omega), (show lc ≠ M.1 + 1 by omega), (show lc ≠ M.1 + 2 by omega), (show nc ≠ M.1 by omega), (show nc ≠ M.1 + 1 by omega), (show nc ≠ M.1 + 2 by omega)⟩
      refine xj_callV (rest := []) (As := [.ref cu, .ref wa]) (b := M.1) (wJoin hg hxn (M := M2) hsz9 hne9 ((ho2 cu (by omega) (by omega)).trans ((ho1 cu (by omega)).trans k_cu)) ((ho2 lb (by omega) (by omega)).trans ((ho1 lb (by omega)).trans k_lb)) ((ho2 nb9 (by omega) (by omega)).trans ((ho1 nb9 (by omega)).trans k_nb)) ((ho2 wa (by omega) (by omega)).trans ((ho1 wa (by omega)).trans k_wa)) ((ho2 lc (by omega) (by omega)).trans ((ho1 lc (by omega)).trans k_lc)) ((ho2 nc (by omega) (by omega)).trans ((ho1 nc (by omega)).trans k_nc)) c10 d10 c11 d11 hW0) d6_2_23 wd12_6 hf2_0 (by omega) (show M.1 < M2.1 by omega) rfl w799 w798 (Or.inl w797) rfl rfl (Nat.le_of_ble_eq_true rfl) (by omega) (by omega) (by omega) ?_
      rintro v MJ ⟨e1, e2, e3⟩
      rcases e3.symm with ⟨S9, q1, q2, hcm⟩ | ⟨q1, q2⟩
      · exact absurd (hj.symm.trans q1) (fun q => by cases q)
      subst q2
      have hszJ : MJ.1 = M.1 + 3 := by omega
      refine xj_if_eq (tgt := 35) d6_2_26 rfl (fun _ => ?_) (fun h => absurd (by decide) h)
      refine xj_aload_n (i := 0) d6_2_35 rfl rfl ?_
      refine xj_iconst (v := 0) d6_2_36 (by decide) ?_
      refine xj_put (a := nd) (fs' := [.ref al, .ref pa, .ref cu, .int 0]) d6_2_37 f6_29_7 ((e2 nd (by omega) (by omega) (by omega)).trans ((ho2 nd (by omega) (by omega)).trans ((ho1 nd (by omega)).trans k_nd))) (by omega) (show nd < MJ.1 by omega) (Nat.le_of_ble_eq_true rfl) rfl rfl rfl ?_
      refine xj_abs_set (fun M3 hs3 ha3 ho3 => ?_)
      refine xj_aload_n (i := 0) d6_2_40 rfl rfl ?_
      refine xj_get d6_2_41 f6_10_7 ha3 (by omega) (show nd < M3.1 by omega) rfl ?_
      refine xj_aload_n (i := 0) d6_2_44 rfl rfl ?_
      refine xj_get d6_2_45 f6_25_7 ha3 (by omega) (show nd < M3.1 by omega) rfl ?_
      have fH : ∀ y, y < M.1 → y ≠ nd → M3.2 y = M.2 y := fun y hy hy2 => ((ho3 y (by omega)).trans ((e2 y (by omega) (by omega) (by omega)).trans ((ho2 y (by omega) (by omega)).trans (ho1 y (by omega)))))
      have hlsA : xLs (fun y => (owN ow M.1 0 3 al) y = al) M3 al la := xLs_mv a5 (by omega) (fH al a2 s1.symm) (fun y hy hlt => ⟨(owN_o hlt).trans hy, fH y hlt (fun q => s1 (n3.symm.trans ((congrArg ow q.symm).trans hy)))⟩)
      have hobA : ∀ y ∈ la, y ≠ al ∧ xOb M3 y := fun y hy => by
        obtain ⟨q1, q2, q3, q4, bc, bf, bC, bT, bN, q5, q6⟩ := hob y hy
        exact ⟨q1, q3, by omega, bc, bf, bC, bT, bN, (fH y q4 q2).trans q5, q6⟩
      refine xj_callV (rest := []) (As := [.ref cu]) (b := al) (xLs_addG hg hZ hT hMi hlsA (by omega) (by omega) (fun y hy => owN_w (by decide) (by omega)) (by omega) hobA (by omega) (by omega) ((ho3 cu (by omega)).trans ((e2 cu (by omega) (by omega) (by omega)).trans ((ho2 cu (by omega) (by omega)).trans ((ho1 cu (by omega)).trans k_cu)))) (by omega) rfl (Or.inr w1399)) d6_2_48 wd28_25 ((ho3 al (by omega)).trans ((e2 al (by omega) (by omega) (by omega)).trans ((ho2 al (by omega) (by omega)).trans ((ho1 al (by omega)).trans k_al)))) (by omega) (show al < M3.1 by omega) rfl w168 w167 (Or.inl w802) rfl rfl (Nat.le_of_ble_eq_true rfl) (by omega) (by omega) (by omega) ?_
      rintro v M4 ⟨rfl, hs4, ho4, hL4⟩
      have fA : ∀ y, y < M.1 → y ≠ nd → ow y ≠ al → M4.2 y = M.2 y := fun y hy hy2 h9 => (ho4 y (by omega) (fun q => h9 (by rw [q]; exact a3)) (fun q => absurd ((owN_o hy).symm.trans q) h9)).trans (fH y hy hy2)
      have k_nd2 : M4.2 nd = (.inr (7, [.ref al, .ref pa, .ref cu, .int 0])) := (ho4 nd (by omega) s1 (fun q => absurd ((owN_o n2).symm.trans q) (by rw [n3]; exact s1))).trans ha3
      refine xj_pop d6_2_51 rfl ?_
      refine xj_aload_n (i := 2) d6_2_52 rfl rfl ?_
      refine xj_ifnull d6_2_53 ?_
      refine xj_aload_n (i := 0) d6_2_56 rfl rfl ?_
      refine xj_aload_n (i := 2) d6_2_57 rfl rfl ?_
      refine xj_put (a := nd) (fs' := [.ref al, .ref pa, .ref wa, .int 0]) d6_2_58 f6_25_7 k_nd2 (by omega) (show nd < M4.1 by omega) (Nat.le_of_ble_eq_true rfl) rfl rfl rfl ?_
      refine xj_abs_set (fun M5 hs5 ha5 ho5 => ?_)
      refine xj_goto (tgt := 80) d6_2_61 rfl ?_
      have fE : ∀ y, y ≠ nd → M5.2 y = M4.2 y := fun y hy2 => (ho5 y (by omega))
      have fr : ∀ y, y < M.1 → ¬ (rk (ow y) = T ∨ rk (ow y) = T + 1) → M5.2 y = M.2 y := fun y hy q => by
        have q1 : y ≠ nd := fun e => q (Or.inl (by rw [e, n3]; exact n4))
        have q2 : ow y ≠ al := fun e => q (Or.inl (by rw [e]; exact a4))
        exact (fE y q1).trans (fA y hy q1 q2)
      have o3 : ∀ y, y < M.1 → (owN ow M.1 0 3 al) y = ow y := fun y hy => owN_o hy
      have fw : ∀ y, y < M.1 → ow y = 1 → M5.2 y = M.2 y := fun y hy q => fr y hy (by rw [q, hk1]; omega)
      refine xj_ret d6_2_80 (by omega) (by omega) rfl ⟨rfl, by omega, owN ow M.1 0 3 al, o3, fr, ?_⟩
      rw [hw]
      have hsf : sFol z c (some W) = (z.1 ++ [z.2.2.1], z.2.1, W, 0) := by
        show (match sJoin z.2.2.1 W with | none => _ | some J => _) = _
        rw [hj]
      rw [hsf]
      refine ⟨al, pa, wa, la ++ [cu], ⟨n1, by omega, (o3 nd n2).trans n3, n4⟩, ha5, ⟨⟨a1, by omega, (o3 al a2).trans a3, a4⟩, ?_⟩, ⟨⟨p1, by omega, (o3 pa p2).trans p3, p4⟩, ?_⟩, ?_, ?_, cW_fr hcw (by omega) o3 fw⟩
      · refine xLs_mv hL4 (show M4.1 ≤ M5.1 by omega) (fE al s1.symm) (fun y hy hlt => ⟨hy, fE y (fun q => s1 (by rw [q, show (owN ow M.1 0 3 al) nd = ow nd from owN_o n2, n3] at hy; exact hy))⟩)
      · exact xLs_mv p5 (by omega) ((fE pa s2.symm).trans (fA pa p2 s2.symm (by rw [p3]; exact s3.symm))) (fun y hy hlt => ⟨(owN_o hlt).trans hy, (fE y (fun q => s2 (n3.symm.trans ((congrArg ow q.symm).trans hy)))).trans (fA y hlt (fun q => s2 (n3.symm.trans ((congrArg ow q.symm).trans hy))) (fun q => s3 (q.symm.trans hy)))⟩)
      · show (la ++ [cu]).length = (z.1 ++ [z.2.2.1]).length
        rw [List.length_append, List.length_append, m4]
        rfl
      · exact cNd_ws m4 (fun k a S q1 q2 => cW_fr (m5 k a S q1 q2) (by omega) o3 fw) (cW_fr m6 (by omega) o3 fw)

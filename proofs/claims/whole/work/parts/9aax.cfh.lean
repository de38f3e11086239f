/-- what finding hits may change -/
def kH (r0 r1 : Nat) (M M' : xM) : Prop := M'.1 = M.1 ∧ ∀ y, y < r0 ∨ r1 ≤ y → y ≠ 16 → y ≠ 23 → M'.2 y = M.2 y
theorem kH_r {r0 r1 : Nat} {M : xM} : kH r0 r1 M M := ⟨rfl, fun _ _ _ _ => rfl⟩
theorem kH_t {r0 r1 : Nat} {M M' M'' : xM} (h : kH r0 r1 M M') (h2 : kH r0 r1 M' M'') : kH r0 r1 M M'' := ⟨h2.1.trans h.1, fun y a b c => (h2.2 y a b c).trans (h.2 y a b c)⟩
theorem kF_H {r0 r1 : Nat} {M M' : xM} (h : kF r0 r1 M M') : kH r0 r1 M M' := ⟨h.1, fun y a _ _ => h.2 y a⟩
/-- cells outside the reader's block do not touch its parts -/
theorem kS_fr {r0 r1 : Nat} {ow rk ad : Nat → Nat} {A : List xNode} {M M' : xM} {μ : Nat → xMu} (h : kS r0 r1 ow rk ad A M μ) (hk0 : rk 0 = 0) (hm : M.1 ≤ M'.1) (hf : ∀ y, r0 ≤ y → y < r1 → M'.2 y = M.2 y) : kS r0 r1 ow rk ad A M' μ := by
  refine ⟨⟨h.1.1, by have := h.1.2; omega⟩, h.2.1, h.2.2.1, fun j p hp => cN_fr (h.2.2.2 j p hp) (Nat.le_refl _) (fun _ _ => rfl) (fun _ _ _ _ z => z) (fun y hy z => hf y (Classical.byContradiction fun w => ?_) hy) (fun _ _ => rfl) (fun _ _ => rfl)⟩
  have ho := h.2.1 y (by omega)
  rcases z with z | z
  · rw [ho, hk0] at z
    omega
  · rw [ho] at z
    cases z
/-- the hits in an array -/
def hAr (hx : Nat → Int32) (H : List Int32) : Prop := ∀ (j : Nat) (c : Int32), H[j]? = some c → hx j = c
theorem hAr_app {hx : Nat → Int32} {H : List Int32} {v : Int32} (h : hAr hx H) : hAr (upd hx H.length v) (H ++ [v]) := fun j c hj => by
  by_cases hl : j < H.length
  · rw [List.getElem?_append_left hl] at hj
    exact (if_neg (by omega)).trans (h j c hj)
  · have hh := (List.getElem?_eq_some_iff.mp hj).1
    rw [List.length_append, List.length_singleton] at hh
    have e : j = H.length := by omega
    subst e
    rw [List.getElem?_append_right (Nat.le_refl _), Nat.sub_self] at hj
    have e2 : v = c := Option.some.inj hj
    rw [← e2]
    exact if_pos rfl
theorem lnF_eq {f : Nat → Int32} {s k u : Nat} (hu : u < 95) (h : f (s + k) = nI (u + 32)) : lnF f s k = u := by
  unfold lnF
  rw [h, nI_clamp (by omega), Nat.add_sub_cancel]
set_option maxRecDepth 20000 in
set_option maxHeartbeats 2000000 in
theorem kHit {G : xG} (hg : xGood G) (hxn : xn = 16) {r0 r1 : Nat} {ow rk ad : Nat → Nat} {A : List xNode} {lo : Nat → Nat} (hO : ∀ (i : Nat) (q : xNode), A[i]? = some q → pOk A lo i q) {qr : xNode} (hrt : A[A.length - 1]? = some qr) (hr6 : qr.1 = 6) (hlo0 : lo (A.length - 1) = 0) (hk0 : rk 0 = 0) {tx tl W : Nat} {ft f : Nat → Int32} (hWe : ad (A.length - 1) = W) (h1_tx : xn ≤ tx) (htr : tx < r0 ∨ r1 ≤ tx) (ht16 : tx ≠ 16 ∧ tx ≠ 23) (htl : tl ≤ 40) (hft : ∀ j, j < tl → ft j = f j) {s e : Nat} {nl : Int32} (hse : s ≤ e) (hel : e ≤ tl) (hpr : ∀ k, s ≤ k → k < e → ∃ u, u < 95 ∧ f k = nI (u + 32)) {M : xM} {μ : Nat → xMu} {dl pl vc tk op rd : Nat} {pn : Int32} {H : List Int32} {hx : Nat → Int32} (hS : kS r0 r1 ow rk ad A M μ) (h2_tx : tx < M.1) (h_tx : M.2 tx = (.inl (1, tl, .inl ft))) (h_16 : M.2 16 = (.inr (0, [.ref 17, .int (nI dl), .ref 18, .int (nI pl), .ref rd, .ref 19, .int (nI vc), .ref op, .ref 22, .int (nI tk), .ref 23, .int (nI H.length), .int pn]))) (h_23 : M.2 23 = (.inl (0, 410, .inl hx))) (hH : hAr hx H) (h410 : H.length < 410) : XC G Y1_30 none (3 * (A.length - 1) + 7) 0 0 [.ref 16, .ref W, .ref tx, .int (nI s), .int (nI e), .int nl] M (fun v M' => v = none ∧ ∃ μ' hx', kS r0 r1 ow rk ad A M' μ' ∧ kH r0 r1 M M' ∧ M'.2 16 = (.inr (0, [.ref 17, .int (nI dl), .ref 18, .int (nI pl), .ref rd, .ref 19, .int (nI vc), .ref op, .ref 22, .int (nI tk), .ref 23, .int (nI ((sLin A f nl s e H).length)), .int pn])) ∧ M'.2 23 = (.inl (0, 410, .inl hx')) ∧ hAr hx' (sLin A f nl s e H)) := by
  have hl40 : e - s ≤ 40 := by omega
  have h52 := hS.1.1
  obtain ⟨⟨w11, w21⟩, bl1, lv1, wv1, h_W1⟩ := kGrp hxn hS hrt hr6
  rw [hWe] at w11 w21 h_W1
  have hln : ∀ k, k < e - s → lnF f s k < 95 ∧ ft (s + k) = nI (lnF f s k + 32) := fun k hk => by
    obtain ⟨u, u1, u2⟩ := hpr (s + k) (by omega) (by omega)
    rw [lnF_eq u1 u2]
    exact ⟨u1, (hft _ (by omega)).trans u2⟩
  have hEn := kEnt hg hxn h1_tx htl (s := s) (e := e) (len := e - s) (ln := lnF f s) (by omega) hel hln hO htr (A.length - 1) qr hrt M μ hS h2_tx h_tx
  rw [show yV_enterLine qr.1 = Y5_6 by unfold yV_enterLine; rw [hr6]; rfl, hWe] at hEn
  refine xc_of hg (by decide) (Nat.le_of_ble_eq_true rfl) (Or.inr (Or.inr (Or.inr (Or.inr (Or.inl ⟨rfl, rfl, fun v M' h => h.1⟩))))) ?_
  refine xj_aload_n (i := 1) d1_30_0 rfl rfl ?_
  refine xj_aload_n (i := 2) d1_30_1 rfl rfl ?_
  refine xj_iload_n (i := 3) d1_30_2 rfl rfl ?_
  refine xj_iload (i := 4) d1_30_3 rfl ?_
  refine xj_callV (rest := []) (As := [.ref tx, .int (nI s), .int (nI e)]) (b := W) hEn d1_30_5 wd5_6 h_W1 (by omega) (show W < M.1 by omega) rfl w883 w882 (Or.inl w881) rfl rfl (Nat.le_of_ble_eq_true rfl) (by omega) (by omega) (by omega) ?_
  rintro v M3 ⟨rfl, μ3, hS3, hF3, hE3'⟩
  have hm3 := hF3.1
  have hE3 : (∀ (c : Nat) (p : xNode), A[c]? = some p → eN (e - s) (lnF f s) A (μ3 c) p) := fun c p hp => hE3' c p hp (Or.inr ⟨by rw [hlo0]; exact Nat.zero_le _, by have := (List.getElem?_eq_some_iff.mp hp).1; omega⟩)
  obtain ⟨⟨w13, w23⟩, bl3, lv3, wv3, h_W3⟩ := kGrp hxn hS3 hrt hr6
  rw [hWe] at w13 w23 h_W3
  have hfr3 : ∀ y, y < r0 → M3.2 y = M.2 y := fun y hy => hF3.2 y (Or.inl hy)
  refine xj_aload_n (i := 1) d1_30_8 rfl rfl ?_
  refine xj_iload (i := 4) d1_30_9 rfl ?_
  refine xj_iload_n (i := 3) d1_30_11 rfl rfl ?_
  refine xj_isub (v := nI (e - s)) d1_30_12 (pk_sub (by omega)) ?_
  refine xj_callS (rest := []) (As := [.ref W, .int (nI (e - s))]) (kLst hg hxn hl40 hO hrt hr6 hWe hS3 hE3) d1_30_13 wd1_31 w905 (Or.inl w904) rfl rfl (Nat.le_of_ble_eq_true rfl) (by omega) (by omega) (by omega) ?_
  rintro v M4 ⟨μ4, hS4, hF4, hE4, hc4⟩
  have hm4 := hF4.1
  obtain ⟨⟨w14, w24⟩, bl4, lv4, wv4, h_W4⟩ := kGrp hxn hS4 hrt hr6
  rw [hWe] at w14 w24 h_W4
  have hfr4 : ∀ y, y < r0 → M4.2 y = M.2 y := fun y hy => (hF4.2 y (Or.inl hy)).trans (hfr3 y hy)
  rcases hc4 with ⟨rfl, hno⟩ | ⟨m, rfl, hm1, hm2, hm3'⟩
  · refine xj_istore (i := 6) (L' := [(6, .int (-1)), (0, .ref 16), (1, .ref W), (2, .ref tx), (3, .int (nI s)), (4, .int (nI e)), (5, .int nl)]) d1_30_16 (by decide) rfl ?_
    refine xj_iload (i := 6) d1_30_18 rfl ?_
    refine xj_iconst (v := (-1)) d1_30_20 (by decide) ?_
    refine xj_icmp_eq (tgt := 36) d1_30_21 rfl (fun _ => ?_) (fun h => absurd rfl h)
    have hO9 : lnO (e - s) (lnF f s) A = none := lnO_eq (Or.inl ⟨rfl, hno⟩)
    have hsl : sLin A f nl s e H = H := by unfold sLin; rw [hO9]
    exact xj_ret d1_30_36 (by omega) (by omega) rfl ⟨rfl, μ4, hx, hS4, kF_H (kF_t hF3 hF4), by rw [hsl]; exact ((hfr4 16 (by omega)).trans h_16), ((hfr4 23 (by omega)).trans h_23), by rw [hsl]; exact hH⟩
  · refine xj_istore (i := 6) (L' := [(6, .int (nI m)), (0, .ref 16), (1, .ref W), (2, .ref tx), (3, .int (nI s)), (4, .int (nI e)), (5, .int nl)]) d1_30_16 (by decide) rfl ?_
    refine xj_iload (i := 6) d1_30_18 rfl ?_
    refine xj_iconst (v := (-1)) d1_30_20 (by decide) ?_
    refine xj_icmp_eq (tgt := 36) d1_30_21 rfl (fun h => absurd h (fun q => absurd q (by rw [show (-1 : Int32) = -1 from rfl]; exact fun q => absurd (show nI m < 0 by rw [q]; decide) (nI_pos (by omega))))) (fun _ => ?_)
    refine xj_aload_n (i := 0) d1_30_24 rfl rfl ?_
    refine xj_get d1_30_25 f1_115_0 ((hfr4 16 (by omega)).trans h_16) (by omega) (show 16 < M4.1 by omega) rfl ?_
    refine xj_aload_n (i := 0) d1_30_28 rfl rfl ?_
    refine xj_get d1_30_29 f1_38_0 ((hfr4 16 (by omega)).trans h_16) (by omega) (show 16 < M4.1 by omega) rfl ?_
    refine xj_alen (v := 410) d1_30_32 ((hfr4 23 (by omega)).trans h_23) (by decide) (by omega) (show 23 < M4.1 by omega) (show nI 410 = 410 by decide) ?_
    refine xj_icmp_lt (tgt := 37) d1_30_33 rfl (fun _ => ?_) (fun h => absurd (nI_lt (a := H.length) (b := 410) (by omega) (by omega)) h)
    refine xj_bipush (v := 63) d1_30_37 (by decide) ?_
    refine xj_aload_n (i := 1) d1_30_39 rfl rfl ?_
    refine xj_lconst (v := 1) d1_30_40 (by decide) ?_
    refine xj_iload (i := 6) d1_30_41 rfl ?_
    refine xj_lshl (v := 1 <<< ((nI m).toInt64 &&& 63)) d1_30_43 rfl ?_
    refine xj_callV (rest := [.int 63]) (As := [.long (1 <<< ((nI m).toInt64 &&& 63))]) (b := W) (show XC G Y5_7 (some .long) _ 0 0 [.ref W, .long (1 <<< ((nI m).toInt64 &&& 63))] M4 _ from hWe ▸ kRt hg hxn hl40 hO hrt hr6 M4 μ4 (1 <<< ((nI m).toInt64 &&& 63)) hS4 hE4 (fun j hj hb => by rw [(bS_one (show m < 64 by omega) j hj).mp hb]; exact hm1)) d1_30_44 wd5_7 h_W4 (by omega) (show W < M4.1 by omega) rfl w912 w911 (Or.inl w910) rfl rfl (Nat.le_of_ble_eq_true rfl) (by omega) (by omega) (by omega) ?_
    rintro v M5 ⟨y5, μ5, rfl, hB5, hS5, hF5, hE5, -⟩
    have hm5 := hF5.1.1
    obtain ⟨⟨w15, w25⟩, bl5, lv5, wv5, h_W5⟩ := kGrp hxn hS5 hrt hr6
    rw [hWe] at w15 w25 h_W5
    have hfr5 : ∀ y, y < r0 → M5.2 y = M.2 y := fun y hy => (hF5.1.2 y (Or.inl hy)).trans (hfr4 y hy)
    obtain ⟨o9, ho9⟩ := lnH_ex (e - s) (lnF f s) A
    rcases ho9 with ⟨-, hno⟩ | ⟨m', P, rfl, g1, g2, g3, g4⟩
    · obtain ⟨j9, hj9⟩ := hm2
      exact absurd hj9 (hno m j9 hm1)
    have hmm : m' = m := by
      obtain ⟨j9, hj9⟩ := hm2
      by_cases q : m < m'
      · exact absurd hj9 (g3 m j9 q)
      · by_cases q2 : m' < m
        · exact absurd g2 (hm3' m' P q2)
        · omega
    subst hmm
    have hP := rY_le g2 hm1
    have hO9 : lnO (e - s) (lnF f s) A = some (m', P) := lnO_eq (Or.inr ⟨m', P, rfl, g1, g2, g3, g4⟩)
    have hbP : ∀ j, j < 64 → (lb y5 j = true ↔ rY (e - s) (lnF f s) A (A.length - 1) m' j) := fun j hj => (hB5 j hj).trans ⟨fun ⟨a, a1, a2, a3⟩ => by rw [(bS_one (show m' < 64 by omega) a (by omega)).mp a2] at a3; exact a3, fun z => ⟨m', hm1, (bS_one (show m' < 64 by omega) m' (by omega)).mpr rfl, z⟩⟩
    refine xj_callS (rest := [.int 63]) (As := [.long y5]) (nzL hg (p := P) (by omega) ((hbP P (by omega)).mpr g2) (fun j hj hj2 => by cases hb : lb y5 j with | false => rfl | true => exact absurd (g4 j ((hbP j hj2).mp hb)) (by omega))) d1_30_47 wd20_48 w954 (Or.inl w953) rfl rfl (Nat.le_of_ble_eq_true rfl) (by omega) (by omega) (by omega) ?_
    rintro v9 M' ⟨rfl, hm9⟩
    subst M'
    refine xj_isub (v := nI P) d1_30_50 (by rw [show (63 : Int32) = nI 63 from by decide, pk_sub (by omega), show 63 - (63 - P) = P by omega]) ?_
    refine xj_istore (i := 7) (L' := [(7, .int (nI P)), (6, .int (nI m')), (0, .ref 16), (1, .ref W), (2, .ref tx), (3, .int (nI s)), (4, .int (nI e)), (5, .int nl)]) d1_30_51 (by decide) rfl ?_
    refine xj_aload_n (i := 0) d1_30_53 rfl rfl ?_
    refine xj_get d1_30_54 f1_38_0 ((hfr5 16 (by omega)).trans h_16) (by omega) (show 16 < M5.1 by omega) rfl ?_
    refine xj_aload_n (i := 0) d1_30_57 rfl rfl ?_
    refine xj_get d1_30_58 f1_115_0 ((hfr5 16 (by omega)).trans h_16) (by omega) (show 16 < M5.1 by omega) rfl ?_
    refine xj_iload (i := 5) d1_30_61 rfl ?_
    refine xj_iload (i := 6) d1_30_63 rfl ?_
    refine xj_sipush (v := 256) d1_30_65 (by decide) ?_
    refine xj_imul (v := nI m' * 256) d1_30_68 rfl ?_
    refine xj_iadd (v := nl + (nI m' * 256)) d1_30_69 rfl ?_
    refine xj_iload (i := 7) d1_30_70 rfl ?_
    refine xj_iadd (v := (nl + (nI m' * 256)) + (nI P)) d1_30_72 rfl ?_
    refine xj_iastore (j := H.length) (x' := (nl + (nI m' * 256)) + (nI P)) d1_30_73 ((hfr5 23 (by omega)).trans h_23) (by omega) (show 23 < M5.1 by omega) (vp_in_nI (by omega) (by omega)) (nI_clamp (by omega)) rfl ?_
    refine xj_abs_set (fun M1 hs1 ha1 ho1 => ?_)
    refine xj_aload_n (i := 0) d1_30_74 rfl rfl ?_
    refine xj_dup d1_30_75 rfl ?_
    refine xj_get d1_30_76 f1_115_0 ((ho1 16 (by omega)).trans ((hfr5 16 (by omega)).trans h_16)) (by omega) (show 16 < M1.1 by omega) rfl ?_
    refine xj_iconst (v := 1) d1_30_79 (by decide) ?_
    refine xj_iadd (v := nI (H.length + 1)) d1_30_80 (nI_1 _) ?_
    refine xj_put (a := 16) (fs' := [.ref 17, .int (nI dl), .ref 18, .int (nI pl), .ref rd, .ref 19, .int (nI vc), .ref op, .ref 22, .int (nI tk), .ref 23, .int (nI (H.length + 1)), .int pn]) d1_30_81 f1_115_0 ((ho1 16 (by omega)).trans ((hfr5 16 (by omega)).trans h_16)) (by omega) (show 16 < M1.1 by omega) (Nat.le_of_ble_eq_true rfl) rfl rfl rfl ?_
    refine xj_abs_set (fun M2 hs2 ha2 ho2 => ?_)
    have hsl : sLin A f nl s e H = H ++ [nl + nI m' * 256 + nI P] := by unfold sLin; rw [hO9]
    have hS6 := kS_fr (M' := M2) hS5 hk0 (show M5.1 ≤ M2.1 by omega) (fun y y1 y2 => ((ho2 y (by omega)).trans (ho1 y (by omega))))
    refine xj_ret d1_30_84 (by omega) (by omega) rfl ⟨rfl, μ5, upd hx H.length (nl + nI m' * 256 + nI P), hS6, kH_t (kF_H (kF_t (kF_t hF3 hF4) hF5.1)) ⟨(show M2.1 = M5.1 by omega), fun y y1 y2 y3 => ((ho2 y (by omega)).trans (ho1 y (by omega)))⟩, ?_, ((ho2 23 (by omega)).trans ha1), by rw [hsl]; exact hAr_app hH⟩
    rw [hsl, List.length_append, List.length_singleton]
    exact ha2
set_option maxRecDepth 20000 in
set_option maxHeartbeats 2000000 in
theorem kHsL {G : xG} (hg : xGood G) (hxn : xn = 16) {r0 r1 : Nat} {ow rk ad : Nat → Nat} {A : List xNode} {lo : Nat → Nat} (hO : ∀ (i : Nat) (q : xNode), A[i]? = some q → pOk A lo i q) {qr : xNode} (hrt : A[A.length - 1]? = some qr) (hr6 : qr.1 = 6) (hlo0 : lo (A.length - 1) = 0) (hk0 : rk 0 = 0) {tx tl W : Nat} {ft f : Nat → Int32} (hWe : ad (A.length - 1) = W) (h1_tx : xn ≤ tx) (htr : tx < r0 ∨ r1 ≤ tx) (ht16 : tx ≠ 16 ∧ tx ≠ 23) (htl : tl ≤ 40) (hft : ∀ j, j < tl → ft j = f j) {dl pl vc tk op rd : Nat} {pn : Int32} (hch : ∀ j, j < tl → f j = 10 ∨ ∃ u, u < 95 ∧ f j = nI (u + 32)) {nm : Nat} (hnm : nm < 10) {M0 : xM} {d ce se cells slots : Nat} (hd : 3 * (A.length - 1) + 8 ≤ d) (hcc : cells ≤ ce) (hss : slots ≤ se) : ∀ (r k l s : Nat) (H : List Int32) (M : xM) (μ : Nat → xMu) (hx : Nat → Int32), k + r = tl + 1 → s ≤ k → l ≤ k → (∀ j, s ≤ j → j < k → ¬ f j = 10) → H.length ≤ 41 * nm + l → kS r0 r1 ow rk ad A M μ → tx < M.1 → M.2 tx = (.inl (1, tl, .inl ft)) → kH r0 r1 M0 M → M.2 16 = (.inr (0, [.ref 17, .int (nI dl), .ref 18, .int (nI pl), .ref rd, .ref 19, .int (nI vc), .ref op, .ref 22, .int (nI tk), .ref 23, .int (nI H.length), .int pn])) → M.2 23 = (.inl (0, 410, .inl hx)) → hAr hx H → XJ G Y1_29 d ce se cells slots 9 [(6, .int (nI k)), (4, .int (nI l)), (5, .int (nI s)), (0, .ref 16), (1, .ref W), (2, .ref tx), (3, .int (nI nm))] [] M (fun v M' => v = none ∧ ∃ μ' hx', kS r0 r1 ow rk ad A M' μ' ∧ kH r0 r1 M0 M' ∧ M'.2 16 = (.inr (0, [.ref 17, .int (nI dl), .ref 18, .int (nI pl), .ref rd, .ref 19, .int (nI vc), .ref op, .ref 22, .int (nI tk), .ref 23, .int (nI ((sTx A f tl (nI nm) r k l s H).length)), .int pn])) ∧ M'.2 23 = (.inl (0, 410, .inl hx')) ∧ hAr hx' (sTx A f tl (nI nm) r k l s H)) := by
  intro r
  induction r with
  | zero =>
    intro k l s H M μ hx hk hsk hlk hnn hHl hS h2_tx h_tx hF h_16 h_23 hH
    have h52 := hS.1
    refine xj_iload (i := 6) d1_29_9 rfl ?_
    refine xj_aload_n (i := 2) d1_29_11 rfl rfl ?_
    refine xj_alen (v := nI tl) d1_29_12 h_tx (by decide) (by omega) (show tx < M.1 by omega) rfl ?_
    refine xj_icmp_gt (tgt := 67) d1_29_13 rfl (fun _ => ?_) (fun h => absurd (nI_lt (a := tl) (b := k) (by omega) (by omega)) h)
    exact xj_ret d1_29_67 hcc hss rfl ⟨rfl, μ, hx, hS, hF, h_16, h_23, hH⟩
  | succ r ih =>
    intro k l s H M μ hx hk hsk hlk hnn hHl hS h2_tx h_tx hF h_16 h_23 hH
    have h52 := hS.1
    by_cases hkt : k = tl
    · have hcase : k = tl ∨ f k = 10 := Or.inl hkt
      refine xj_iload (i := 6) d1_29_9 rfl ?_
      refine xj_aload_n (i := 2) d1_29_11 rfl rfl ?_
      refine xj_alen (v := nI tl) d1_29_12 h_tx (by decide) (by omega) (show tx < M.1 by omega) rfl ?_
      refine xj_icmp_gt (tgt := 67) d1_29_13 rfl (fun h => absurd h (nI_nlt (a := tl) (b := k) (by omega) (by omega))) (fun _ => ?_)
      refine xj_iload (i := 6) d1_29_16 rfl ?_
      refine xj_aload_n (i := 2) d1_29_18 rfl rfl ?_
      refine xj_alen (v := nI tl) d1_29_19 h_tx (by decide) (by omega) (show tx < M.1 by omega) rfl ?_
      refine xj_icmp_eq (tgt := 32) d1_29_20 rfl (fun _ => ?_) (fun h => absurd (congrArg nI hkt) h)
      refine xj_aload_n (i := 0) d1_29_32 rfl rfl ?_
      refine xj_aload_n (i := 1) d1_29_33 rfl rfl ?_
      refine xj_aload_n (i := 2) d1_29_34 rfl rfl ?_
      refine xj_iload (i := 5) d1_29_35 rfl ?_
      refine xj_iload (i := 6) d1_29_37 rfl ?_
      refine xj_iload_n (i := 3) d1_29_39 rfl rfl ?_
      refine xj_ldc (v := 16777216) d1_29_40 w875 ?_
      refine xj_imul (v := nI nm * 16777216) d1_29_42 rfl ?_
      refine xj_iload (i := 4) d1_29_43 rfl ?_
      refine xj_ldc (v := 65536) d1_29_45 w876 ?_
      refine xj_imul (v := nI l * 65536) d1_29_47 rfl ?_
      refine xj_iadd (v := nI nm * 16777216 + nI l * 65536) d1_29_48 rfl ?_
      refine xj_callV (rest := []) (As := [.ref W, .ref tx, .int (nI s), .int (nI k), .int (nI nm * 16777216 + nI l * 65536)]) (b := 16) (kHit hg hxn hO hrt hr6 hlo0 hk0 hWe h1_tx htr ht16 htl hft (s := s) (e := k) (nl := nI nm * 16777216 + nI l * 65536) (by omega) (by omega) (fun j j1 j2 => (hch j (by omega)).resolve_left (hnn j j1 j2)) hS h2_tx h_tx h_16 h_23 hH (by omega)) d1_29_49 wd1_30 h_16 (by omega) (show 16 < M.1 by omega) rfl s1_30 w879 (Or.inl w877) rfl rfl (Nat.le_of_ble_eq_true rfl) (by omega) (by omega) (by omega) ?_
      rintro v M6 ⟨rfl, μ6, hx6, hS6, hF6, e16, e23, hH6⟩
      have hm6 := hF6.1
      refine xj_iinc (v := nI (l + 1)) (L' := [(4, .int (nI (l + 1))), (6, .int (nI k)), (5, .int (nI s)), (0, .ref 16), (1, .ref W), (2, .ref tx), (3, .int (nI nm))]) d1_29_52 rfl (xinc _) (by decide) rfl ?_
      refine xj_iload (i := 6) d1_29_55 rfl ?_
      refine xj_iconst (v := 1) d1_29_57 (by decide) ?_
      refine xj_iadd (v := nI (k + 1)) d1_29_58 (nI_1 _) ?_
      refine xj_istore (i := 5) (L' := [(5, .int (nI (k + 1))), (4, .int (nI (l + 1))), (6, .int (nI k)), (0, .ref 16), (1, .ref W), (2, .ref tx), (3, .int (nI nm))]) d1_29_59 (by decide) rfl ?_
      refine xj_iinc (v := nI (k + 1)) (L' := [(6, .int (nI (k + 1))), (5, .int (nI (k + 1))), (4, .int (nI (l + 1))), (0, .ref 16), (1, .ref W), (2, .ref tx), (3, .int (nI nm))]) d1_29_61 rfl (xinc _) (by decide) rfl ?_
      refine xj_goto (tgt := 9) d1_29_64 rfl ?_
      refine xj_sub (L' := [(6, .int (nI (k + 1))), (4, .int (nI (l + 1))), (5, .int (nI (k + 1))), (0, .ref 16), (1, .ref W), (2, .ref tx), (3, .int (nI nm))]) (fun q hq => by simp only [List.mem_cons, List.not_mem_nil, or_false] at hq ⊢; rcases hq with rfl | rfl | rfl | rfl | rfl | rfl | rfl <;> simp) ?_
      have hsl9 := sLin_len (A := A) (f := f) (nl := nI nm * 16777216 + nI l * 65536) (s := s) (e := k) (H := H)
      have hst9 : sTx A f tl (nI nm) (r + 1) k l s H = sTx A f tl (nI nm) r (k + 1) (l + 1) (k + 1) (sLin A f (nI nm * 16777216 + nI l * 65536) s k H) := if_pos hcase
      rw [hst9]
      exact ih (k + 1) (l + 1) (k + 1) _ M6 μ6 hx6 (by omega) (by omega) (by omega) (fun j j1 j2 => absurd j1 (by omega)) (by omega) hS6 (by omega) ((hF6.2 tx htr ht16.1 ht16.2).trans h_tx) (kH_t hF hF6) e16 e23 hH6
    · by_cases hk10 : f k = 10
      · have hcase : k = tl ∨ f k = 10 := Or.inr hk10
        refine xj_iload (i := 6) d1_29_9 rfl ?_
        refine xj_aload_n (i := 2) d1_29_11 rfl rfl ?_
        refine xj_alen (v := nI tl) d1_29_12 h_tx (by decide) (by omega) (show tx < M.1 by omega) rfl ?_
        refine xj_icmp_gt (tgt := 67) d1_29_13 rfl (fun h => absurd h (nI_nlt (a := tl) (b := k) (by omega) (by omega))) (fun _ => ?_)
        refine xj_iload (i := 6) d1_29_16 rfl ?_
        refine xj_aload_n (i := 2) d1_29_18 rfl rfl ?_
        refine xj_alen (v := nI tl) d1_29_19 h_tx (by decide) (by omega) (show tx < M.1 by omega) rfl ?_
        refine xj_icmp_eq (tgt := 32) d1_29_20 rfl (fun h => absurd h (fun h => absurd ((nI_eq (a := k) (b := tl) (by omega) (by omega)).mp h) (by omega))) (fun _ => ?_)
        refine xj_aload_n (i := 2) d1_29_23 rfl rfl ?_
        refine xj_iload (i := 6) d1_29_24 rfl ?_
        refine xj_caload (j := k) d1_29_26 h_tx (by omega) (show tx < M.1 by omega) (vp_in_nI (by omega) (by omega)) (nI_clamp (by omega)) ?_
        rw [show ft k = 10 from ((hft k (by omega)).trans hk10)]
        refine xj_bipush (v := 10) d1_29_27 (by decide) ?_
        refine xj_icmp_ne (tgt := 61) d1_29_29 rfl (fun h => absurd (by decide) h) (fun _ => ?_)
        refine xj_aload_n (i := 0) d1_29_32 rfl rfl ?_
        refine xj_aload_n (i := 1) d1_29_33 rfl rfl ?_
        refine xj_aload_n (i := 2) d1_29_34 rfl rfl ?_
        refine xj_iload (i := 5) d1_29_35 rfl ?_
        refine xj_iload (i := 6) d1_29_37 rfl ?_
        refine xj_iload_n (i := 3) d1_29_39 rfl rfl ?_
        refine xj_ldc (v := 16777216) d1_29_40 w875 ?_
        refine xj_imul (v := nI nm * 16777216) d1_29_42 rfl ?_
        refine xj_iload (i := 4) d1_29_43 rfl ?_
        refine xj_ldc (v := 65536) d1_29_45 w876 ?_
        refine xj_imul (v := nI l * 65536) d1_29_47 rfl ?_
        refine xj_iadd (v := nI nm * 16777216 + nI l * 65536) d1_29_48 rfl ?_
        refine xj_callV (rest := []) (As := [.ref W, .ref tx, .int (nI s), .int (nI k), .int (nI nm * 16777216 + nI l * 65536)]) (b := 16) (kHit hg hxn hO hrt hr6 hlo0 hk0 hWe h1_tx htr ht16 htl hft (s := s) (e := k) (nl := nI nm * 16777216 + nI l * 65536) (by omega) (by omega) (fun j j1 j2 => (hch j (by omega)).resolve_left (hnn j j1 j2)) hS h2_tx h_tx h_16 h_23 hH (by omega)) d1_29_49 wd1_30 h_16 (by omega) (show 16 < M.1 by omega) rfl s1_30 w879 (Or.inl w877) rfl rfl (Nat.le_of_ble_eq_true rfl) (by omega) (by omega) (by omega) ?_
        rintro v M6 ⟨rfl, μ6, hx6, hS6, hF6, e16, e23, hH6⟩
        have hm6 := hF6.1
        refine xj_iinc (v := nI (l + 1)) (L' := [(4, .int (nI (l + 1))), (6, .int (nI k)), (5, .int (nI s)), (0, .ref 16), (1, .ref W), (2, .ref tx), (3, .int (nI nm))]) d1_29_52 rfl (xinc _) (by decide) rfl ?_
        refine xj_iload (i := 6) d1_29_55 rfl ?_
        refine xj_iconst (v := 1) d1_29_57 (by decide) ?_
        refine xj_iadd (v := nI (k + 1)) d1_29_58 (nI_1 _) ?_
        refine xj_istore (i := 5) (L' := [(5, .int (nI (k + 1))), (4, .int (nI (l + 1))), (6, .int (nI k)), (0, .ref 16), (1, .ref W), (2, .ref tx), (3, .int (nI nm))]) d1_29_59 (by decide) rfl ?_
        refine xj_iinc (v := nI (k + 1)) (L' := [(6, .int (nI (k + 1))), (5, .int (nI (k + 1))), (4, .int (nI (l + 1))), (0, .ref 16), (1, .ref W), (2, .ref tx), (3, .int (nI nm))]) d1_29_61 rfl (xinc _) (by decide) rfl ?_
        refine xj_goto (tgt := 9) d1_29_64 rfl ?_
        refine xj_sub (L' := [(6, .int (nI (k + 1))), (4, .int (nI (l + 1))), (5, .int (nI (k + 1))), (0, .ref 16), (1, .ref W), (2, .ref tx), (3, .int (nI nm))]) (fun q hq => by simp only [List.mem_cons, List.not_mem_nil, or_false] at hq ⊢; rcases hq with rfl | rfl | rfl | rfl | rfl | rfl | rfl <;> simp) ?_
        have hsl9 := sLin_len (A := A) (f := f) (nl := nI nm * 16777216 + nI l * 65536) (s := s) (e := k) (H := H)
        have hst9 : sTx A f tl (nI nm) (r + 1) k l s H = sTx A f tl (nI nm) r (k + 1) (l + 1) (k + 1) (sLin A f (nI nm * 16777216 + nI l * 65536) s k H) := if_pos hcase
        rw [hst9]
        exact ih (k + 1) (l + 1) (k + 1) _ M6 μ6 hx6 (by omega) (by omega) (by omega) (fun j j1 j2 => absurd j1 (by omega)) (by omega) hS6 (by omega) ((hF6.2 tx htr ht16.1 ht16.2).trans h_tx) (kH_t hF hF6) e16 e23 hH6
      · have hcase : ¬ (k = tl ∨ f k = 10) := fun q => q.elim hkt hk10
        refine xj_iload (i := 6) d1_29_9 rfl ?_
        refine xj_aload_n (i := 2) d1_29_11 rfl rfl ?_
        refine xj_alen (v := nI tl) d1_29_12 h_tx (by decide) (by omega) (show tx < M.1 by omega) rfl ?_
        refine xj_icmp_gt (tgt := 67) d1_29_13 rfl (fun h => absurd h (nI_nlt (a := tl) (b := k) (by omega) (by omega))) (fun _ => ?_)
        refine xj_iload (i := 6) d1_29_16 rfl ?_
        refine xj_aload_n (i := 2) d1_29_18 rfl rfl ?_
        refine xj_alen (v := nI tl) d1_29_19 h_tx (by decide) (by omega) (show tx < M.1 by omega) rfl ?_
        refine xj_icmp_eq (tgt := 32) d1_29_20 rfl (fun h => absurd h (fun h => absurd ((nI_eq (a := k) (b := tl) (by omega) (by omega)).mp h) (by omega))) (fun _ => ?_)
        refine xj_aload_n (i := 2) d1_29_23 rfl rfl ?_
        refine xj_iload (i := 6) d1_29_24 rfl ?_
        refine xj_caload (j := k) d1_29_26 h_tx (by omega) (show tx < M.1 by omega) (vp_in_nI (by omega) (by omega)) (nI_clamp (by omega)) ?_
        rw [show ft k = f k from (hft k (by omega))]
        refine xj_bipush (v := 10) d1_29_27 (by decide) ?_
        refine xj_icmp_ne (tgt := 61) d1_29_29 rfl (fun _ => ?_) (fun h => absurd h hk10)
        refine xj_iinc (v := nI (k + 1)) (L' := [(6, .int (nI (k + 1))), (4, .int (nI l)), (5, .int (nI s)), (0, .ref 16), (1, .ref W), (2, .ref tx), (3, .int (nI nm))]) d1_29_61 rfl (xinc _) (by decide) rfl ?_
        refine xj_goto (tgt := 9) d1_29_64 rfl ?_
        refine xj_sub (L' := [(6, .int (nI (k + 1))), (4, .int (nI l)), (5, .int (nI s)), (0, .ref 16), (1, .ref W), (2, .ref tx), (3, .int (nI nm))]) (fun q hq => by simp only [List.mem_cons, List.not_mem_nil, or_false] at hq ⊢; rcases hq with rfl | rfl | rfl | rfl | rfl | rfl | rfl <;> simp) ?_
        have hst9 : sTx A f tl (nI nm) (r + 1) k l s H = sTx A f tl (nI nm) r (k + 1) l s H := if_neg hcase
        rw [hst9]
        exact ih (k + 1) l s H M μ hx (by omega) (by omega) (by omega) (fun j j1 j2 => if z : j = k then by rw [z]; exact fun q => hcase (Or.inr q) else hnn j j1 (by omega)) (by omega) hS h2_tx h_tx hF h_16 h_23 hH
set_option maxRecDepth 20000 in
theorem kHits {G : xG} (hg : xGood G) (hxn : xn = 16) {r0 r1 : Nat} {ow rk ad : Nat → Nat} {A : List xNode} {lo : Nat → Nat} (hO : ∀ (i : Nat) (q : xNode), A[i]? = some q → pOk A lo i q) {qr : xNode} (hrt : A[A.length - 1]? = some qr) (hr6 : qr.1 = 6) (hlo0 : lo (A.length - 1) = 0) (hk0 : rk 0 = 0) {tx tl W : Nat} {ft f : Nat → Int32} (hWe : ad (A.length - 1) = W) (h1_tx : xn ≤ tx) (htr : tx < r0 ∨ r1 ≤ tx) (ht16 : tx ≠ 16 ∧ tx ≠ 23) (htl : tl ≤ 40) (hft : ∀ j, j < tl → ft j = f j) (hch : ∀ j, j < tl → f j = 10 ∨ ∃ u, u < 95 ∧ f j = nI (u + 32)) {nm : Nat} (hnm : nm < 10) {M : xM} {μ : Nat → xMu} {dl pl vc tk op rd : Nat} {pn : Int32} {H : List Int32} {hx : Nat → Int32} (hS : kS r0 r1 ow rk ad A M μ) (h2_tx : tx < M.1) (h_tx : M.2 tx = (.inl (1, tl, .inl ft))) (h_16 : M.2 16 = (.inr (0, [.ref 17, .int (nI dl), .ref 18, .int (nI pl), .ref rd, .ref 19, .int (nI vc), .ref op, .ref 22, .int (nI tk), .ref 23, .int (nI H.length), .int pn]))) (h_23 : M.2 23 = (.inl (0, 410, .inl hx))) (hH : hAr hx H) (hHl : H.length ≤ 41 * nm) : XC G Y1_29 none (3 * (A.length - 1) + 8) 0 0 [.ref 16, .ref W, .ref tx, .int (nI nm)] M (fun v M' => v = none ∧ ∃ μ' hx', kS r0 r1 ow rk ad A M' μ' ∧ kH r0 r1 M M' ∧ M'.2 16 = (.inr (0, [.ref 17, .int (nI dl), .ref 18, .int (nI pl), .ref rd, .ref 19, .int (nI vc), .ref op, .ref 22, .int (nI tk), .ref 23, .int (nI ((sTx A f tl (nI nm) (tl + 1) 0 0 0 H).length)), .int pn])) ∧ M'.2 23 = (.inl (0, 410, .inl hx')) ∧ hAr hx' (sTx A f tl (nI nm) (tl + 1) 0 0 0 H)) := by
  refine xc_of hg (by decide) (Nat.le_of_ble_eq_true rfl) (Or.inr (Or.inr (Or.inr (Or.inr (Or.inl ⟨rfl, rfl, fun v M' h => h.1⟩))))) ?_
  refine xj_iconst (v := 0) d1_29_0 (by decide) ?_
  refine xj_istore (i := 4) (L' := [(4, .int 0), (0, .ref 16), (1, .ref W), (2, .ref tx), (3, .int (nI nm))]) d1_29_1 (by decide) rfl ?_
  refine xj_iconst (v := 0) d1_29_3 (by decide) ?_
  refine xj_istore (i := 5) (L' := [(5, .int 0), (4, .int 0), (0, .ref 16), (1, .ref W), (2, .ref tx), (3, .int (nI nm))]) d1_29_4 (by decide) rfl ?_
  refine xj_iconst (v := 0) d1_29_6 (by decide) ?_
  refine xj_istore (i := 6) (L' := [(6, .int 0), (5, .int 0), (4, .int 0), (0, .ref 16), (1, .ref W), (2, .ref tx), (3, .int (nI nm))]) d1_29_7 (by decide) rfl ?_
  refine xj_sub (L' := [(6, .int 0), (4, .int 0), (5, .int 0), (0, .ref 16), (1, .ref W), (2, .ref tx), (3, .int (nI nm))]) (fun q hq => by simp only [List.mem_cons, List.not_mem_nil, or_false] at hq ⊢; rcases hq with rfl | rfl | rfl | rfl | rfl | rfl | rfl <;> simp) ?_
  exact kHsL hg hxn hO hrt hr6 hlo0 hk0 hWe h1_tx htr ht16 htl hft hch hnm (Nat.le_refl _) (Nat.le_refl _) (Nat.le_refl _) (tl + 1) 0 0 0 H M μ hx (by omega) (by omega) (by omega) (fun j _ j2 => absurd j2 (by omega)) (by omega) hS h2_tx h_tx kH_r h_16 h_23 hH

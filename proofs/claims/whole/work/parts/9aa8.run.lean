set_option maxRecDepth 20000 in
theorem mUnI {G : xG} (hg : xGood G) (hxn : xn = 16) {n : Nat} (hn2 : 52 ≤ n) {dl : Nat} {pl : Nat} {vc : Nat} {tk : Nat} {hc : Nat} {sn : Nat} {y13 : Int32} {y22 : Int32} {y23 : Int32} {y24 : Int32} {y33 : Int32} {y36 : Int32} {y37 : Int32} {y38 : Int32} {y39 : Int32} {M0 : xM} (hn0 : M0.1 = n) {ch nx kn : Nat → Int32} {st0 lg0 lt0 : Nat → Int32} (k24 : M0.2 24 = (.inr (12, [.ref 25, .ref 26, .ref 27, .ref 28, .ref 29, .ref 30, .int (nI sn), .int (nI vc), .int (nI tk), .ref 31, .int (nI dl), .ref 32, .int (nI pl), .int y13, .ref 33, .ref 34, .ref 35, .ref 36, .ref 37, .ref 38, .ref 39, .ref 40, .int y22, .int y23, .int y24, .ref 41, .ref 42, .ref 43, .ref 44, .ref 45, .ref 46, .ref 47, .ref 48, .int y33, .ref 49, .ref 50, .int y36, .int y37, .int y38, .int y39, .int (nI hc), .ref 51]))) (k34 : M0.2 34 = .inl (0, 30, .inl ch)) (k35 : M0.2 35 = .inl (0, 30, .inl nx)) (k45 : M0.2 45 = .inl (2, 32, .inl kn)) {W : Nat → Option (List (List Int32))} {nd : Nat} {c : Nat} (hc29 : c < 29) {T0 : List (List Int32)} (hB0 : rL st0 lg0 lt0 c T0) {d ce se cells slots : Nat} {Post : Option Value → xM → Prop} (hd : 2 ≤ d) (hcc : cells ≤ ce) (hss : slots ≤ se) : ∀ (T : List (List Int32)) (j : Nat) (S : List (List Int32)) (M : xM) (st lg lt : Nat → Int32), j + T.length = T0.length → (∀ (k : Nat) (t : List Int32), T[k]? = some t → T0[j + k]? = some t) → rT M0 M st lg lt → (∀ m, m ≠ 31 → m ≠ 29 → rSame st0 lg0 lt0 st lg lt m) → rL st lg lt 31 S → (sAdds S T = none → ∀ (M' : xM) (st' lg' lt' : Nat → Int32), rT M0 M' st' lg' lt' → (∀ m, m ≠ 31 → m ≠ 29 → rSame st0 lg0 lt0 st' lg' lt' m) → Post (some (.int 0)) M') → (∀ (S' : List (List Int32)) (M' : xM) (st' lg' lt' : Nat → Int32), sAdds S T = some S' → rT M0 M' st' lg' lt' → (∀ m, m ≠ 31 → m ≠ 29 → rSame st0 lg0 lt0 st' lg' lt' m) → rL st' lg' lt' 31 S' → XJ G Y14_52 d ce se cells slots 61 [(2, .int (nI c)), (0, .ref 24), (1, .int (nI nd))] [] M' Post) → XJ G Y14_52 d ce se cells slots 32 [(3, .int (nI j)), (2, .int (nI c)), (0, .ref 24), (1, .int (nI nd))] [] M Post := by
  intro T
  induction T with
  | nil =>
    intro j S M st lg lt hj hTT hT hSm hL K0 K1
    have hm0 := hT.1
    have hj' : j = T0.length := hj
    have hB := rL_same hB0 (hSm c (by omega) (by omega))
    have hl4 := hB.2.1
    refine xj_iload_n (i := 3) d14_52_32 rfl rfl ?_
    refine xj_aload_n (i := 0) d14_52_33 rfl rfl ?_
    refine xj_get d14_52_34 f14_74_12 ((hT.2.1 24 (by omega) (by omega) (by omega) (by omega)).trans k24) (by omega) (show 24 < M.1 by omega) rfl ?_
    refine xj_iload_n (i := 2) d14_52_37 rfl rfl ?_
    refine xj_iaload (j := c) d14_52_38 hT.2.2.1 (by omega) (show 46 < M.1 by omega) (vp_in_nI (by omega) (by omega)) (nI_clamp (by omega)) ?_
    rw [show st c = nI T0.length from hB.1]
    refine xj_icmp_ge (tgt := 61) d14_52_39 rfl (fun _ => ?_) (fun h => absurd (nI_le (a := T0.length) (b := j) (by omega) (by omega)) h)
    refine xj_sub (L' := [(2, .int (nI c)), (0, .ref 24), (1, .int (nI nd))]) (fun q hq => by simp only [List.mem_cons, List.not_mem_nil, or_false] at hq ⊢; rcases hq with rfl | rfl | rfl <;> simp) ?_
    exact K1 S M st lg lt rfl hT hSm hL
  | cons w T ih =>
    intro j S M st lg lt hj hTT hT hSm hL K0 K1
    have hm0 := hT.1
    rw [List.length_cons] at hj
    have hB := rL_same hB0 (hSm c (by omega) (by omega))
    have hl4 := hB.2.1
    have hw : T0[j]? = some w := hTT 0 w rfl
    have hstep : sAdds S (w :: T) = (sAdd S (w ++ [])).bind fun U => sAdds U T := by rw [List.append_nil]; rfl
    refine xj_iload_n (i := 3) d14_52_32 rfl rfl ?_
    refine xj_aload_n (i := 0) d14_52_33 rfl rfl ?_
    refine xj_get d14_52_34 f14_74_12 ((hT.2.1 24 (by omega) (by omega) (by omega) (by omega)).trans k24) (by omega) (show 24 < M.1 by omega) rfl ?_
    refine xj_iload_n (i := 2) d14_52_37 rfl rfl ?_
    refine xj_iaload (j := c) d14_52_38 hT.2.2.1 (by omega) (show 46 < M.1 by omega) (vp_in_nI (by omega) (by omega)) (nI_clamp (by omega)) ?_
    rw [show st c = nI T0.length from hB.1]
    refine xj_icmp_ge (tgt := 61) d14_52_39 rfl (fun h => absurd h (nI_ge (a := j) (b := T0.length) (by omega) (by omega))) (fun _ => ?_)
    refine xj_aload_n (i := 0) d14_52_42 rfl rfl ?_
    refine xj_iload_n (i := 2) d14_52_43 rfl rfl ?_
    refine xj_iload_n (i := 3) d14_52_44 rfl rfl ?_
    refine xj_iconst (v := (-1)) d14_52_45 (by decide) ?_
    refine xj_iconst (v := 0) d14_52_46 (by decide) ?_
    refine xj_callV (rest := []) (As := [.int (nI c), .int (nI j), .int (-1), .int 0]) (b := 24) (mAdd (b := 0) (t := 0) (v := []) hg hxn hn2 (show M.1 = n by omega) (bI := -1) ((hT.2.1 24 (by omega) (by omega) (by omega) (by omega)).trans k24) hT.2.2.1 hT.2.2.2.1 hT.2.2.2.2 hL (show c < 32 by omega) (by omega) (by omega) (show j < 4 by omega) (hB.2.2 j w hw) (Or.inl ⟨rfl, rfl⟩)) d14_52_47 wd14_47 ((hT.2.1 24 (by omega) (by omega) (by omega) (by omega)).trans k24) (by omega) (show 24 < M.1 by omega) rfl s14_47 w1310 (Or.inl w1308) rfl rfl (Nat.le_of_ble_eq_true rfl) (by omega) (by omega) (by omega) ?_
    rintro v9 M9 ⟨st9, lg9, lt9, hT9, hS9, hc9⟩
    rcases hc9 with ⟨hN9, rfl⟩ | ⟨T9, hY9, rfl, hL9⟩
    · refine xj_if_ne (tgt := 55) d14_52_50 rfl (fun h => absurd (by decide) h) (fun _ => ?_)
      refine xj_iconst (v := 0) d14_52_53 (by decide) ?_
      exact xj_ret d14_52_54 hcc hss rfl (K0 (by rw [hstep, hN9]; rfl) M9 st9 lg9 lt9 (rT_t hT hT9) (fun m h1 h2 => rSame_t (hSm m h1 h2) (hS9 m h1 h2)))
    · refine xj_if_ne (tgt := 55) d14_52_50 rfl (fun _ => ?_) (fun h => absurd h (by decide))
      refine xj_iinc (v := nI (j + 1)) (L' := [(3, .int (nI (j + 1))), (2, .int (nI c)), (0, .ref 24), (1, .int (nI nd))]) d14_52_55 rfl (xinc _) (by decide) rfl ?_
      refine xj_goto (tgt := 32) d14_52_58 rfl ?_
      refine ih (j + 1) T9 M9 st9 lg9 lt9 (by omega) (fun k u hu => by rw [show j + 1 + k = j + (k + 1) by omega]; exact hTT (k + 1) u hu) (rT_t hT hT9) (fun m h1 h2 => rSame_t (hSm m h1 h2) (hS9 m h1 h2)) hL9 (fun e => K0 (by rw [hstep, hY9]; exact e)) (fun T M' st' lg' lt' e => K1 T M' st' lg' lt' (by rw [hstep, hY9]; exact e))
set_option maxRecDepth 20000 in
theorem mUnO {G : xG} (hg : xGood G) (hxn : xn = 16) {n : Nat} (hn2 : 52 ≤ n) {dl : Nat} {pl : Nat} {vc : Nat} {tk : Nat} {hc : Nat} {sn : Nat} {y13 : Int32} {y22 : Int32} {y23 : Int32} {y24 : Int32} {y33 : Int32} {y36 : Int32} {y37 : Int32} {y38 : Int32} {y39 : Int32} {M0 : xM} (hn0 : M0.1 = n) {ch nx kn : Nat → Int32} {st0 lg0 lt0 : Nat → Int32} (k24 : M0.2 24 = (.inr (12, [.ref 25, .ref 26, .ref 27, .ref 28, .ref 29, .ref 30, .int (nI sn), .int (nI vc), .int (nI tk), .ref 31, .int (nI dl), .ref 32, .int (nI pl), .int y13, .ref 33, .ref 34, .ref 35, .ref 36, .ref 37, .ref 38, .ref 39, .ref 40, .int y22, .int y23, .int y24, .ref 41, .ref 42, .ref 43, .ref 44, .ref 45, .ref 46, .ref 47, .ref 48, .int y33, .ref 49, .ref 50, .int y36, .int y37, .int y38, .int y39, .int (nI hc), .ref 51]))) (k34 : M0.2 34 = .inl (0, 30, .inl ch)) (k35 : M0.2 35 = .inl (0, 30, .inl nx)) (k45 : M0.2 45 = .inl (2, 32, .inl kn)) {W : Nat → Option (List (List Int32))} {nd : Nat} {d ce se cells slots : Nat} {Post : Option Value → xM → Prop} (hd : 2 ≤ d) (hcc : cells ≤ ce) (hss : slots ≤ se) : ∀ (l : List Nat) (p : Int32) (S : List (List Int32)) (M : xM) (st lg lt : Nat → Int32), xCn nx p l → (∀ c ∈ l, rKn st0 lg0 lt0 kn W c) → rT M0 M st lg lt → (∀ m, m ≠ 31 → m ≠ 29 → rSame st0 lg0 lt0 st lg lt m) → rL st lg lt 31 S → (l.foldl (fun a c => a.bind fun S => (W c).bind fun T => sAdds S T) (some S) = none → ∀ (M' : xM) (st' lg' lt' : Nat → Int32), rT M0 M' st' lg' lt' → (∀ m, m ≠ 31 → m ≠ 29 → rSame st0 lg0 lt0 st' lg' lt' m) → Post (some (.int 0)) M') → (∀ (S' : List (List Int32)) (M' : xM) (st' lg' lt' : Nat → Int32), l.foldl (fun a c => a.bind fun S => (W c).bind fun T => sAdds S T) (some S) = some S' → rT M0 M' st' lg' lt' → (∀ m, m ≠ 31 → m ≠ 29 → rSame st0 lg0 lt0 st' lg' lt' m) → rL st' lg' lt' 31 S' → ∀ pI : Int32, XJ G Y14_52 d ce se cells slots 71 [(2, .int pI), (0, .ref 24), (1, .int (nI nd))] [] M' Post) → XJ G Y14_52 d ce se cells slots 15 [(2, .int p), (0, .ref 24), (1, .int (nI nd))] [] M Post := by
  intro l
  induction l with
  | nil =>
    intro p S M st lg lt hcn hcl hT hSm hL K0 K1
    have hp : p = -1 := hcn
    subst hp
    replace K1 := fun S' M' st' lg' lt' => K1 S' M' st' lg' lt'
    refine xj_iload_n (i := 2) d14_52_15 rfl rfl ?_
    refine xj_if_lt (tgt := 71) d14_52_16 rfl (fun _ => ?_) (fun h => absurd (by decide) h)
    exact K1 S M st lg lt rfl hT hSm hL _
  | cons c l ih =>
    intro p S M st lg lt hcn hcl hT hSm hL K0 K1
    have hm0 := hT.1
    have hp : p = nI c := hcn.1
    subst hp
    obtain ⟨hc29, hK9⟩ := hcl c List.mem_cons_self
    rcases hK9 with ⟨hWc, hkc⟩ | ⟨T0, hWc, hkc, hB0⟩
    · have hpr : (c :: l).foldl (fun a c => a.bind fun S => (W c).bind fun T => sAdds S T) (some S) = none := by
        rw [List.foldl_cons, hWc]
        exact sUni_none l
      refine xj_iload_n (i := 2) d14_52_15 rfl rfl ?_
      refine xj_if_lt (tgt := 71) d14_52_16 rfl (fun h => absurd h (nI_pos (by omega))) (fun _ => ?_)
      refine xj_aload_n (i := 0) d14_52_19 rfl rfl ?_
      refine xj_get d14_52_20 f14_71_12 ((hT.2.1 24 (by omega) (by omega) (by omega) (by omega)).trans k24) (by omega) (show 24 < M.1 by omega) rfl ?_
      refine xj_iload_n (i := 2) d14_52_23 rfl rfl ?_
      refine xj_zaload (j := c) d14_52_24 ((hT.2.1 45 (by omega) (by omega) (by omega) (by omega)).trans k45) (by omega) (show 45 < M.1 by omega) (vp_in_nI (by omega) (by omega)) (nI_clamp (by omega)) ?_
      rw [show kn c = 0 from hkc]
      refine xj_if_ne (tgt := 30) d14_52_25 rfl (fun h => absurd (by decide) h) (fun _ => ?_)
      refine xj_iconst (v := 0) d14_52_28 (by decide) ?_
      exact xj_ret d14_52_29 hcc hss rfl (K0 hpr M st lg lt hT hSm)
    · have hpr : (c :: l).foldl (fun a c => a.bind fun S => (W c).bind fun T => sAdds S T) (some S) = l.foldl (fun a c => a.bind fun S => (W c).bind fun T => sAdds S T) (sAdds S T0) := by
        rw [List.foldl_cons, hWc]
        rfl
      refine xj_iload_n (i := 2) d14_52_15 rfl rfl ?_
      refine xj_if_lt (tgt := 71) d14_52_16 rfl (fun h => absurd h (nI_pos (by omega))) (fun _ => ?_)
      refine xj_aload_n (i := 0) d14_52_19 rfl rfl ?_
      refine xj_get d14_52_20 f14_71_12 ((hT.2.1 24 (by omega) (by omega) (by omega) (by omega)).trans k24) (by omega) (show 24 < M.1 by omega) rfl ?_
      refine xj_iload_n (i := 2) d14_52_23 rfl rfl ?_
      refine xj_zaload (j := c) d14_52_24 ((hT.2.1 45 (by omega) (by omega) (by omega) (by omega)).trans k45) (by omega) (show 45 < M.1 by omega) (vp_in_nI (by omega) (by omega)) (nI_clamp (by omega)) ?_
      rw [show kn c = 1 from hkc]
      refine xj_if_ne (tgt := 30) d14_52_25 rfl (fun _ => ?_) (fun h => absurd h (by decide))
      refine xj_iconst (v := 0) d14_52_30 (by decide) ?_
      refine xj_istore_n (i := 3) (L' := [(3, .int 0), (2, .int (nI c)), (0, .ref 24), (1, .int (nI nd))]) d14_52_31 rfl (by decide) rfl ?_
      refine mUnI (W := W) hg hxn hn2 hn0 k24 k34 k35 k45 hc29 hB0 hd hcc hss T0 0 S M st lg lt (by omega) (fun k t hk => by rw [Nat.zero_add]; exact hk) hT hSm hL (fun e M' st' lg' lt' e1 e2 => K0 (by rw [hpr, e]; exact sUni_none l) M' st' lg' lt' e1 e2) (fun S8 M8 st8 lg8 lt8 e hT8 hS8 hL8 => ?_)
      have hm8 := hT8.1
      refine xj_aload_n (i := 0) d14_52_61 rfl rfl ?_
      refine xj_get d14_52_62 f14_41_12 ((hT8.2.1 24 (by omega) (by omega) (by omega) (by omega)).trans k24) (by omega) (show 24 < M8.1 by omega) rfl ?_
      refine xj_iload_n (i := 2) d14_52_65 rfl rfl ?_
      refine xj_iaload (j := c) d14_52_66 ((hT8.2.1 35 (by omega) (by omega) (by omega) (by omega)).trans k35) (by omega) (show 35 < M8.1 by omega) (vp_in_nI (by omega) (by omega)) (nI_clamp (by omega)) ?_
      refine xj_istore_n (i := 2) (L' := [(2, .int (nx c)), (0, .ref 24), (1, .int (nI nd))]) d14_52_67 rfl (by decide) rfl ?_
      refine xj_goto (tgt := 15) d14_52_68 rfl ?_
      exact ih (nx c) S8 M8 st8 lg8 lt8 hcn.2 (fun c hc => hcl c (List.mem_cons_of_mem _ hc)) hT8 hS8 hL8 (fun e9 => K0 (by rw [hpr, e]; exact e9)) (fun T M' st' lg' lt' e9 => K1 T M' st' lg' lt' (by rw [hpr, e]; exact e9))
set_option maxRecDepth 20000 in
theorem mUnite {G : xG} (hg : xGood G) (hxn : xn = 16) {n : Nat} (hn2 : 52 ≤ n) {dl : Nat} {pl : Nat} {vc : Nat} {tk : Nat} {hc : Nat} {sn : Nat} {y13 : Int32} {y22 : Int32} {y23 : Int32} {y24 : Int32} {y33 : Int32} {y36 : Int32} {y37 : Int32} {y38 : Int32} {y39 : Int32} {M0 : xM} (hn0 : M0.1 = n) {ch nx kn : Nat → Int32} {st0 lg0 lt0 : Nat → Int32} (k24 : M0.2 24 = (.inr (12, [.ref 25, .ref 26, .ref 27, .ref 28, .ref 29, .ref 30, .int (nI sn), .int (nI vc), .int (nI tk), .ref 31, .int (nI dl), .ref 32, .int (nI pl), .int y13, .ref 33, .ref 34, .ref 35, .ref 36, .ref 37, .ref 38, .ref 39, .ref 40, .int y22, .int y23, .int y24, .ref 41, .ref 42, .ref 43, .ref 44, .ref 45, .ref 46, .ref 47, .ref 48, .int y33, .ref 49, .ref 50, .int y36, .int y37, .int y38, .int y39, .int (nI hc), .ref 51]))) (k34 : M0.2 34 = .inl (0, 30, .inl ch)) (k35 : M0.2 35 = .inl (0, 30, .inl nx)) (k45 : M0.2 45 = .inl (2, 32, .inl kn)) {W : Nat → Option (List (List Int32))} {nd : Nat} (k46 : M0.2 46 = .inl (0, 32, .inl st0)) (k47 : M0.2 47 = .inl (0, 1536, .inl lt0)) (k48 : M0.2 48 = .inl (0, 128, .inl lg0)) {l : List Nat} (hnd : nd < 29) (hcn : xCn nx (ch nd) l) (hcl : ∀ c ∈ l, rKn st0 lg0 lt0 kn W c) : XC G Y14_52 (some .boolean) 2 0 0 [.ref 24, .int (nI nd)] M0 (fun v M' => ∃ st' lg' lt', rT M0 M' st' lg' lt' ∧ (∀ m, m ≠ 31 → m ≠ 29 → m ≠ nd → rSame st0 lg0 lt0 st' lg' lt' m) ∧ ((sUni W l = none ∧ v = some (.int 0)) ∨ ∃ T, sUni W l = some T ∧ v = some (.int 1) ∧ rL st' lg' lt' nd T)) := by
  refine xc_of hg (by decide) (Nat.le_of_ble_eq_true rfl) (Or.inr (Or.inl ⟨rfl, rfl, fun v M' h => by obtain ⟨_, _, _, _, _, h⟩ := h; rcases h with ⟨-, q⟩ | ⟨T, -, q, -⟩; exact ⟨_, q, Or.inl rfl⟩; exact ⟨_, q, Or.inr rfl⟩⟩)) ?_
  refine xj_aload_n (i := 0) d14_52_0 rfl rfl ?_
  refine xj_get d14_52_1 f14_74_12 k24 (by omega) (show 24 < M0.1 by omega) rfl ?_
  refine xj_bipush (v := 31) d14_52_4 (by decide) ?_
  refine xj_iconst (v := 0) d14_52_6 (by decide) ?_
  refine xj_iastore (j := 31) (x' := 0) d14_52_7 k46 (by omega) (show 46 < M0.1 by omega) (vp_in_iff.mpr (by decide)) (by decide) rfl ?_
  refine xj_abs_set (fun M1 hs1 ha1 ho1 => ?_)
  refine xj_aload_n (i := 0) d14_52_8 rfl rfl ?_
  refine xj_get d14_52_9 f14_38_12 ((ho1 24 (by omega)).trans k24) (by omega) (show 24 < M1.1 by omega) rfl ?_
  refine xj_iload_n (i := 1) d14_52_12 rfl rfl ?_
  refine xj_iaload (j := nd) d14_52_13 ((ho1 34 (by omega)).trans k34) (by omega) (show 34 < M1.1 by omega) (vp_in_nI (by omega) (by omega)) (nI_clamp (by omega)) ?_
  refine xj_istore_n (i := 2) (L' := [(2, .int (ch nd)), (0, .ref 24), (1, .int (nI nd))]) d14_52_14 rfl (by decide) rfl ?_
  have hT1 : rT M0 M1 (upd st0 31 0) lg0 lt0 := ⟨(show M1.1 = M0.1 by omega), (fun j hj a b c => (ho1 j (by omega))), ha1, ((ho1 47 (by omega)).trans k47), ((ho1 48 (by omega)).trans k48)⟩
  refine mUnO hg hxn hn2 hn0 k24 k34 k35 k45 (W := W) (nd := nd) (st0 := st0) (lg0 := lg0) (lt0 := lt0) (by omega) (by omega) (by omega) l (ch nd) [] M1 _ _ _ hcn hcl hT1 (fun m h1 h2 => ⟨if_neg h1, fun _ _ => rfl, fun _ _ => rfl⟩) ⟨if_pos rfl, by decide, fun k s hk => absurd hk (by simp)⟩ (fun e M' st' lg' lt' e1 e2 => ⟨st', lg', lt', e1, fun m h1 h2 _ => e2 m h1 h2, Or.inl ⟨e, rfl⟩⟩) (fun T M5 st5 lg5 lt5 e hT5 hS5 hL5 pI => ?_)
  have hm5 := hT5.1
  refine xj_aload_n (i := 0) d14_52_71 rfl rfl ?_
  refine xj_bipush (v := 31) d14_52_72 (by decide) ?_
  refine xj_iload_n (i := 1) d14_52_74 rfl rfl ?_
  refine xj_callV (rest := []) (As := [.int 31, .int (nI nd)]) (b := 24) (mCopy hg hxn hn2 (show M5.1 = n by omega) ((hT5.2.1 24 (by omega) (by omega) (by omega) (by omega)).trans k24) hT5.2.2.1 hT5.2.2.2.1 hT5.2.2.2.2 (fr := 31) (to := nd) (by omega) (by omega) (by omega) hL5) d14_52_75 wd14_45 ((hT5.2.1 24 (by omega) (by omega) (by omega) (by omega)).trans k24) (by omega) (show 24 < M5.1 by omega) rfl s14_45 w1318 (Or.inl w1316) rfl rfl (Nat.le_of_ble_eq_true rfl) (by omega) (by omega) (by omega) ?_
  rintro v6 M6 ⟨rfl, st6, lg6, lt6, hT6, hL6, hS6⟩
  replace hT6 : rT M5 M6 st6 lg6 lt6 := hT6
  have hm6 := hT6.1
  refine xj_iconst (v := 1) d14_52_78 (by decide) ?_
  exact xj_ret d14_52_79 (by omega) (by omega) rfl ⟨st6, lg6, lt6, rT_t hT5 hT6, fun m h1 h2 h3 => rSame_t (hS5 m h1 h2) (hS6 m h3), Or.inr ⟨T, e, rfl, hL6⟩⟩
/-- the letters below c -/
def sLz (cs : Nat → Bool) (c : Nat) : List (List Int32) := ((List.range c).filter cs).map fun c => [nI (c + 32)]
theorem sLz_y {cs : Nat → Bool} {c : Nat} (h : cs c = true) : sLz cs (c + 1) = sLz cs c ++ [[nI (c + 32)]] := by
  unfold sLz
  rw [List.range_succ, List.filter_append, List.map_append]
  simp [h]
theorem sLz_n {cs : Nat → Bool} {c : Nat} (h : ¬ cs c = true) : sLz cs (c + 1) = sLz cs c := by
  unfold sLz
  rw [List.range_succ, List.filter_append, List.map_append]
  simp [h]
theorem sLz_le {cs : Nat → Bool} {c : Nat} : ∀ d, (sLz cs c).length ≤ (sLz cs (c + d)).length
  | 0 => Nat.le_refl _
  | d + 1 => by
    have ih := sLz_le (cs := cs) (c := c) d
    by_cases h : cs (c + d) = true
    · rw [show c + (d + 1) = c + d + 1 by omega, sLz_y h, List.length_append]
      omega
    · rw [show c + (d + 1) = c + d + 1 by omega, sLz_n h]
      exact ih
theorem rS_let {lg lt : Nat → Int32} {m k : Nat} {x : Int32} : rS (upd lg (4 * m + k) 1) (upd lt (48 * m + 12 * k) x) m k [x] := by
  refine ⟨show 1 ≤ 12 by decide, if_pos rfl, fun j c hj => ?_⟩
  match j, hj with
  | 0, h =>
    have h' : x = c := Option.some.inj h
    rw [← h']
    exact if_pos rfl
  | j + 1, h => simp at h
theorem rS_leto {lg lt : Nat → Int32} {m k j : Nat} {x : Int32} {w : List Int32} (h : rS lg lt m j w) (hj : j < k) : rS (upd lg (4 * m + k) 1) (upd lt (48 * m + 12 * k) x) m j w := by
  obtain ⟨g1, g2, g3⟩ := h
  refine ⟨g1, (if_neg (by omega)).trans g2, fun i c hi => ?_⟩
  have hi12 : i < w.length := (List.getElem?_eq_some_iff.mp hi).1
  exact (if_neg (by omega)).trans (g3 i c hi)
set_option maxRecDepth 20000 in
theorem mSmL {G : xG} (hg : xGood G) (hxn : xn = 16) {n : Nat} (hn2 : 52 ≤ n) {dl : Nat} {pl : Nat} {vc : Nat} {tk : Nat} {hc : Nat} {sn : Nat} {y13 : Int32} {y22 : Int32} {y23 : Int32} {y24 : Int32} {y33 : Int32} {y36 : Int32} {y37 : Int32} {y38 : Int32} {y39 : Int32} {M0 : xM} (hn0 : M0.1 = n) {cs st0 lg0 lt0 : Nat → Int32} {nd : Nat} {cf : Nat → Bool} (k24 : M0.2 24 = (.inr (12, [.ref 25, .ref 26, .ref 27, .ref 28, .ref 29, .ref 30, .int (nI sn), .int (nI vc), .int (nI tk), .ref 31, .int (nI dl), .ref 32, .int (nI pl), .int y13, .ref 33, .ref 34, .ref 35, .ref 36, .ref 37, .ref 38, .ref 39, .ref 40, .int y22, .int y23, .int y24, .ref 41, .ref 42, .ref 43, .ref 44, .ref 45, .ref 46, .ref 47, .ref 48, .int y33, .ref 49, .ref 50, .int y36, .int y37, .int y38, .int y39, .int (nI hc), .ref 51]))) (k400 : M0.2 40 = .inl (2, 2850, .inl cs)) (hnd : nd < 29) (hcsf : ∀ c, c < 95 → cs (95 * nd + c) = if cf c = true then 1 else 0) {d ce se cells slots : Nat} (hcc : cells ≤ ce) (hss : slots ≤ se) : ∀ (r c : Nat) (M : xM) (st lg lt : Nat → Int32), c + r = 95 → rT M0 M st lg lt → (∀ m, m ≠ nd → rSame st0 lg0 lt0 st lg lt m) → (sLz cf c).length ≤ 4 → (∀ (k : Nat) (w : List Int32), (sLz cf c)[k]? = some w → rS lg lt nd k w) → XJ G Y14_53 d ce se cells slots 4 [(3, .int (nI c)), (2, .int (nI ((sLz cf c).length))), (0, .ref 24), (1, .int (nI nd))] [] M (fun v M' => ∃ st' lg' lt', rT M0 M' st' lg' lt' ∧ (∀ m, m ≠ nd → rSame st0 lg0 lt0 st' lg' lt' m) ∧ ((sSmall cf = none ∧ v = some (.int 0)) ∨ ∃ T, sSmall cf = some T ∧ v = some (.int 1) ∧ rL st' lg' lt' nd T)) := by
  intro r
  induction r with
  | zero =>
    intro c M st lg lt hc hT hSm h4 hrw
    have hm0 := hT.1
    obtain ⟨-, -, k46, k47, k48⟩ := id hT
    have h_24 := (hT.2.1 24 (by omega) (by omega) (by omega) (by omega)).trans k24
    have k40 := (hT.2.1 40 (by omega) (by omega) (by omega) (by omega)).trans k400
    have hc95 : c = 95 := by omega
    refine xj_iload_n (i := 3) d14_53_4 rfl rfl ?_
    refine xj_bipush (v := 95) d14_53_5 (by decide) ?_
    refine xj_icmp_ge (tgt := 69) d14_53_7 rfl (fun _ => ?_) (fun h => absurd (nI_le (a := 95) (b := c) (by omega) (by omega)) h)
    refine xj_aload_n (i := 0) d14_53_69 rfl rfl ?_
    refine xj_get d14_53_70 f14_74_12 h_24 (by omega) (show 24 < M.1 by omega) rfl ?_
    refine xj_iload_n (i := 1) d14_53_73 rfl rfl ?_
    refine xj_iload_n (i := 2) d14_53_74 rfl rfl ?_
    refine xj_iastore (j := nd) (x' := nI ((sLz cf c).length)) d14_53_75 k46 (by omega) (show 46 < M.1 by omega) (vp_in_nI (by omega) (by omega)) (nI_clamp (by omega)) rfl ?_
    refine xj_abs_set (fun M1 hs1 ha1 ho1 => ?_)
    refine xj_iconst (v := 1) d14_53_76 (by decide) ?_
    have hsm : sSmall cf = some (sLz cf c) := by
      rw [hc95]
      exact if_pos (by rw [hc95] at h4; exact h4)
    exact xj_ret d14_53_77 hcc hss rfl ⟨_, _, _, rT_t hT ⟨(show M1.1 = M.1 by omega), (fun j hj a b c => (ho1 j (by omega))), ha1, ((ho1 47 (by omega)).trans k47), ((ho1 48 (by omega)).trans k48)⟩, fun m hm => rSame_t (hSm m hm) ⟨if_neg hm, fun _ _ => rfl, fun _ _ => rfl⟩, Or.inr ⟨_, hsm, rfl, if_pos rfl, h4, hrw⟩⟩
  | succ r ih =>
    intro c M st lg lt hc hT hSm h4 hrw
    have hm0 := hT.1
    obtain ⟨-, -, k46, k47, k48⟩ := id hT
    have h_24 := (hT.2.1 24 (by omega) (by omega) (by omega) (by omega)).trans k24
    have k40 := (hT.2.1 40 (by omega) (by omega) (by omega) (by omega)).trans k400
    have hcs := hcsf c (by omega)
    by_cases hcf : cf c = true
    · rw [if_pos hcf] at hcs
      by_cases hl4 : (sLz cf c).length = 4
      · have hsm : sSmall cf = none := if_neg (fun q => by
          have h1 := sLz_le (cs := cf) (c := c + 1) (94 - c)
          rw [sLz_y hcf, show c + 1 + (94 - c) = 95 by omega, List.length_append, List.length_singleton] at h1
          have q' : (sLz cf 95).length ≤ 4 := q
          omega)
        refine xj_iload_n (i := 3) d14_53_4 rfl rfl ?_
        refine xj_bipush (v := 95) d14_53_5 (by decide) ?_
        refine xj_icmp_ge (tgt := 69) d14_53_7 rfl (fun h => absurd h (nI_ge (a := c) (b := 95) (by omega) (by omega))) (fun _ => ?_)
        refine xj_aload_n (i := 0) d14_53_10 rfl rfl ?_
        refine xj_get d14_53_11 f14_56_12 h_24 (by omega) (show 24 < M.1 by omega) rfl ?_
        refine xj_bipush (v := 95) d14_53_14 (by decide) ?_
        refine xj_iload_n (i := 1) d14_53_16 rfl rfl ?_
        refine xj_imul (v := nI (95 * nd)) d14_53_17 (pk_mul 95 nd) ?_
        refine xj_iload_n (i := 3) d14_53_18 rfl rfl ?_
        refine xj_iadd (v := nI (95 * nd + c)) d14_53_19 (nI_add (95 * nd) c) ?_
        refine xj_zaload (j := 95 * nd + c) d14_53_20 k40 (by omega) (show 40 < M.1 by omega) (vp_in_nI (by omega) (by omega)) (nI_clamp (by omega)) ?_
        rw [show cs (95 * nd + c) = 1 from hcs]
        refine xj_if_eq (tgt := 63) d14_53_21 rfl (fun h => absurd h (by decide)) (fun _ => ?_)
        refine xj_iload_n (i := 2) d14_53_24 rfl rfl ?_
        refine xj_iconst (v := 4) d14_53_25 (by decide) ?_
        refine xj_icmp_ne (tgt := 31) d14_53_26 rfl (fun h => absurd (congrArg nI (show (sLz cf c).length = 4 by omega)) h) (fun _ => ?_)
        refine xj_iconst (v := 0) d14_53_29 (by decide) ?_
        exact xj_ret d14_53_30 hcc hss rfl ⟨_, _, _, hT, hSm, Or.inl ⟨hsm, rfl⟩⟩
      · skip
        refine xj_iload_n (i := 3) d14_53_4 rfl rfl ?_
        refine xj_bipush (v := 95) d14_53_5 (by decide) ?_
        refine xj_icmp_ge (tgt := 69) d14_53_7 rfl (fun h => absurd h (nI_ge (a := c) (b := 95) (by omega) (by omega))) (fun _ => ?_)
        refine xj_aload_n (i := 0) d14_53_10 rfl rfl ?_
        refine xj_get d14_53_11 f14_56_12 h_24 (by omega) (show 24 < M.1 by omega) rfl ?_
        refine xj_bipush (v := 95) d14_53_14 (by decide) ?_
        refine xj_iload_n (i := 1) d14_53_16 rfl rfl ?_
        refine xj_imul (v := nI (95 * nd)) d14_53_17 (pk_mul 95 nd) ?_
        refine xj_iload_n (i := 3) d14_53_18 rfl rfl ?_
        refine xj_iadd (v := nI (95 * nd + c)) d14_53_19 (nI_add (95 * nd) c) ?_
        refine xj_zaload (j := 95 * nd + c) d14_53_20 k40 (by omega) (show 40 < M.1 by omega) (vp_in_nI (by omega) (by omega)) (nI_clamp (by omega)) ?_
        rw [show cs (95 * nd + c) = 1 from hcs]
        refine xj_if_eq (tgt := 63) d14_53_21 rfl (fun h => absurd h (by decide)) (fun _ => ?_)
        refine xj_iload_n (i := 2) d14_53_24 rfl rfl ?_
        refine xj_iconst (v := 4) d14_53_25 (by decide) ?_
        refine xj_icmp_ne (tgt := 31) d14_53_26 rfl (fun _ => ?_) (fun h => absurd h (fun h => absurd ((nI_eq (a := (sLz cf c).length) (b := 4) (by omega) (by omega)).mp h) (by omega)))
        refine xj_aload_n (i := 0) d14_53_31 rfl rfl ?_
        refine xj_get d14_53_32 f14_77_12 h_24 (by omega) (show 24 < M.1 by omega) rfl ?_
        refine xj_bipush (v := 48) d14_53_35 (by decide) ?_
        refine xj_iload_n (i := 1) d14_53_37 rfl rfl ?_
        refine xj_imul (v := nI (48 * nd)) d14_53_38 (pk_mul 48 nd) ?_
        refine xj_bipush (v := 12) d14_53_39 (by decide) ?_
        refine xj_iload_n (i := 2) d14_53_41 rfl rfl ?_
        refine xj_imul (v := nI (12 * ((sLz cf c).length))) d14_53_42 (pk_mul 12 ((sLz cf c).length)) ?_
        refine xj_iadd (v := nI (48 * nd + (12 * ((sLz cf c).length)))) d14_53_43 (nI_add (48 * nd) (12 * ((sLz cf c).length))) ?_
        refine xj_iload_n (i := 3) d14_53_44 rfl rfl ?_
        refine xj_bipush (v := 32) d14_53_45 (by decide) ?_
        refine xj_iadd (v := nI (c + 32)) d14_53_47 (nI_add c 32) ?_
        refine xj_iastore (j := 48 * nd + (12 * ((sLz cf c).length))) (x' := nI (c + 32)) d14_53_48 k47 (by omega) (show 47 < M.1 by omega) (vp_in_nI (by omega) (by omega)) (nI_clamp (by omega)) rfl ?_
        refine xj_abs_set (fun M1 hs1 ha1 ho1 => ?_)
        refine xj_aload_n (i := 0) d14_53_49 rfl rfl ?_
        refine xj_get d14_53_50 f14_80_12 ((ho1 24 (by omega)).trans h_24) (by omega) (show 24 < M1.1 by omega) rfl ?_
        refine xj_iconst (v := 4) d14_53_53 (by decide) ?_
        refine xj_iload_n (i := 1) d14_53_54 rfl rfl ?_
        refine xj_imul (v := nI (4 * nd)) d14_53_55 (pk_mul 4 nd) ?_
        refine xj_iload_n (i := 2) d14_53_56 rfl rfl ?_
        refine xj_iadd (v := nI (4 * nd + ((sLz cf c).length))) d14_53_57 (nI_add (4 * nd) ((sLz cf c).length)) ?_
        refine xj_iconst (v := 1) d14_53_58 (by decide) ?_
        refine xj_iastore (j := 4 * nd + ((sLz cf c).length)) (x' := 1) d14_53_59 ((ho1 48 (by omega)).trans k48) (by omega) (show 48 < M1.1 by omega) (vp_in_nI (by omega) (by omega)) (nI_clamp (by omega)) rfl ?_
        refine xj_abs_set (fun M2 hs2 ha2 ho2 => ?_)
        refine xj_iinc (v := nI ((sLz cf c).length + 1)) (L' := [(2, .int (nI ((sLz cf c).length + 1))), (3, .int (nI c)), (0, .ref 24), (1, .int (nI nd))]) d14_53_60 rfl (xinc _) (by decide) rfl ?_
        refine xj_iinc (v := nI (c + 1)) (L' := [(3, .int (nI (c + 1))), (2, .int (nI ((sLz cf c).length + 1))), (0, .ref 24), (1, .int (nI nd))]) d14_53_63 rfl (xinc _) (by decide) rfl ?_
        refine xj_goto (tgt := 4) d14_53_66 rfl ?_
        refine xj_sub (L' := [(3, .int (nI (c + 1))), (2, .int (nI ((sLz cf c).length + 1))), (0, .ref 24), (1, .int (nI nd))]) (fun q hq => by simp only [List.mem_cons, List.not_mem_nil, or_false] at hq ⊢; rcases hq with rfl | rfl | rfl | rfl <;> simp) ?_
        have hy9 := sLz_y hcf
        have hT8 : rT M M2 st (upd lg (4 * nd + (sLz cf c).length) 1) (upd lt (48 * nd + 12 * (sLz cf c).length) (nI (c + 32))) := ⟨(show M2.1 = M.1 by omega), (fun j hj a b c => ((ho2 j (by omega)).trans (ho1 j (by omega)))), ((ho2 46 (by omega)).trans ((ho1 46 (by omega)).trans k46)), ((ho2 47 (by omega)).trans ha1), ha2⟩
        have h9 := ih (c + 1) M2 _ _ _ (by omega) (rT_t hT hT8) (fun m hm => rSame_t (hSm m hm) ⟨rfl, fun k hk => if_neg (by omega), fun j hj => if_neg (by omega)⟩) (by rw [hy9, List.length_append, List.length_singleton]; omega) (fun k w hk => by
          rw [hy9] at hk
          by_cases hk9 : k < (sLz cf c).length
          · rw [List.getElem?_append_left hk9] at hk
            exact rS_leto (hrw k w hk) hk9
          · have hh := (List.getElem?_eq_some_iff.mp hk).1
            rw [List.length_append, List.length_singleton] at hh
            have hk8 : k = (sLz cf c).length := by omega
            rw [hk8, List.getElem?_append_right (Nat.le_refl _), Nat.sub_self] at hk
            have hw' : [nI (c + 32)] = w := Option.some.inj hk
            rw [hk8, ← hw']
            exact rS_let)
        rw [hy9, List.length_append, List.length_singleton] at h9
        exact h9
    · rw [if_neg hcf] at hcs
      refine xj_iload_n (i := 3) d14_53_4 rfl rfl ?_
      refine xj_bipush (v := 95) d14_53_5 (by decide) ?_
      refine xj_icmp_ge (tgt := 69) d14_53_7 rfl (fun h => absurd h (nI_ge (a := c) (b := 95) (by omega) (by omega))) (fun _ => ?_)
      refine xj_aload_n (i := 0) d14_53_10 rfl rfl ?_
      refine xj_get d14_53_11 f14_56_12 h_24 (by omega) (show 24 < M.1 by omega) rfl ?_
      refine xj_bipush (v := 95) d14_53_14 (by decide) ?_
      refine xj_iload_n (i := 1) d14_53_16 rfl rfl ?_
      refine xj_imul (v := nI (95 * nd)) d14_53_17 (pk_mul 95 nd) ?_
      refine xj_iload_n (i := 3) d14_53_18 rfl rfl ?_
      refine xj_iadd (v := nI (95 * nd + c)) d14_53_19 (nI_add (95 * nd) c) ?_
      refine xj_zaload (j := 95 * nd + c) d14_53_20 k40 (by omega) (show 40 < M.1 by omega) (vp_in_nI (by omega) (by omega)) (nI_clamp (by omega)) ?_
      rw [show cs (95 * nd + c) = 0 from hcs]
      refine xj_if_eq (tgt := 63) d14_53_21 rfl (fun _ => ?_) (fun h => absurd (by decide) h)
      refine xj_iinc (v := nI (c + 1)) (L' := [(3, .int (nI (c + 1))), (2, .int (nI ((sLz cf c).length))), (0, .ref 24), (1, .int (nI nd))]) d14_53_63 rfl (xinc _) (by decide) rfl ?_
      refine xj_goto (tgt := 4) d14_53_66 rfl ?_
      refine xj_sub (L' := [(3, .int (nI (c + 1))), (2, .int (nI ((sLz cf c).length))), (0, .ref 24), (1, .int (nI nd))]) (fun q hq => by simp only [List.mem_cons, List.not_mem_nil, or_false] at hq ⊢; rcases hq with rfl | rfl | rfl | rfl <;> simp) ?_
      have hn9 := sLz_n hcf
      have h9 := ih (c + 1) M st lg lt (by omega) hT hSm (by rw [hn9]; exact h4) (by rw [hn9]; exact hrw)
      rw [hn9] at h9
      exact h9
set_option maxRecDepth 20000 in
theorem mSmall {G : xG} (hg : xGood G) (hxn : xn = 16) {n : Nat} (hn2 : 52 ≤ n) {dl : Nat} {pl : Nat} {vc : Nat} {tk : Nat} {hc : Nat} {sn : Nat} {y13 : Int32} {y22 : Int32} {y23 : Int32} {y24 : Int32} {y33 : Int32} {y36 : Int32} {y37 : Int32} {y38 : Int32} {y39 : Int32} {M0 : xM} (hn0 : M0.1 = n) {cs st0 lg0 lt0 : Nat → Int32} {nd : Nat} {cf : Nat → Bool} (k24 : M0.2 24 = (.inr (12, [.ref 25, .ref 26, .ref 27, .ref 28, .ref 29, .ref 30, .int (nI sn), .int (nI vc), .int (nI tk), .ref 31, .int (nI dl), .ref 32, .int (nI pl), .int y13, .ref 33, .ref 34, .ref 35, .ref 36, .ref 37, .ref 38, .ref 39, .ref 40, .int y22, .int y23, .int y24, .ref 41, .ref 42, .ref 43, .ref 44, .ref 45, .ref 46, .ref 47, .ref 48, .int y33, .ref 49, .ref 50, .int y36, .int y37, .int y38, .int y39, .int (nI hc), .ref 51]))) (k40 : M0.2 40 = .inl (2, 2850, .inl cs)) (k46 : M0.2 46 = .inl (0, 32, .inl st0)) (k47 : M0.2 47 = .inl (0, 1536, .inl lt0)) (k48 : M0.2 48 = .inl (0, 128, .inl lg0)) (hnd : nd < 29) (hcsf : ∀ c, c < 95 → cs (95 * nd + c) = if cf c = true then 1 else 0) : XC G Y14_53 (some .boolean) 0 0 0 [.ref 24, .int (nI nd)] M0 (fun v M' => ∃ st' lg' lt', rT M0 M' st' lg' lt' ∧ (∀ m, m ≠ nd → rSame st0 lg0 lt0 st' lg' lt' m) ∧ ((sSmall cf = none ∧ v = some (.int 0)) ∨ ∃ T, sSmall cf = some T ∧ v = some (.int 1) ∧ rL st' lg' lt' nd T)) := by
  refine xc_of hg (by decide) (Nat.le_of_ble_eq_true rfl) (Or.inr (Or.inl ⟨rfl, rfl, fun v M' h => by obtain ⟨_, _, _, _, _, h⟩ := h; rcases h with ⟨-, q⟩ | ⟨T, -, q, -⟩; exact ⟨_, q, Or.inl rfl⟩; exact ⟨_, q, Or.inr rfl⟩⟩)) ?_
  refine xj_iconst (v := 0) d14_53_0 (by decide) ?_
  refine xj_istore_n (i := 2) (L' := [(2, .int 0), (0, .ref 24), (1, .int (nI nd))]) d14_53_1 rfl (by decide) rfl ?_
  refine xj_iconst (v := 0) d14_53_2 (by decide) ?_
  refine xj_istore_n (i := 3) (L' := [(3, .int 0), (2, .int 0), (0, .ref 24), (1, .int (nI nd))]) d14_53_3 rfl (by decide) rfl ?_
  exact mSmL hg hxn hn2 hn0 k24 k40 hnd hcsf (by omega) (by omega) 95 0 M0 _ _ _ (by omega) (rT_0 k46 k47 k48) (fun _ _ => rSame_r) (show 0 ≤ 4 by decide) (fun k w hk => absurd hk (by simp [sLz]))

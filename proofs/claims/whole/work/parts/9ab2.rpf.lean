/-- what possibleFor may change -/
def rX (M0 M : xM) (st lg lt my : Nat → Int32) : Prop := M.1 = M0.1 ∧ (∀ j, j < M0.1 → j ≠ 24 → j ≠ 46 → j ≠ 47 → j ≠ 48 → j ≠ 49 → M.2 j = M0.2 j) ∧ M.2 46 = .inl (0, 32, .inl st) ∧ M.2 47 = .inl (0, 1536, .inl lt) ∧ M.2 48 = .inl (0, 128, .inl lg) ∧ M.2 49 = .inl (2, 30, .inl my)
theorem rX_t {M0 M M' : xM} {st lg lt my st' lg' lt' my' : Nat → Int32} (h : rX M0 M st lg lt my) (h2 : rX M M' st' lg' lt' my') : rX M0 M' st' lg' lt' my' := ⟨h2.1.trans h.1, fun j z z2 a b c e => (h2.2.1 j (by rw [h.1]; exact z) z2 a b c e).trans (h.2.1 j z z2 a b c e), h2.2.2⟩
set_option maxRecDepth 20000 in
theorem mPfG {G : xG} (hg : xGood G) (hxn : xn = 16) {n : Nat} (hn2 : 52 ≤ n) {dl : Nat} {pl : Nat} {vc : Nat} {tk : Nat} {hc : Nat} {sn : Nat} {y22 : Int32} {y23 : Int32} {y24 : Int32} {y36 : Int32} {y37 : Int32} {y38 : Int32} {y39 : Int32} {M0 : xM} (hn0 : M0.1 = n) {A : List xNode} {lo_ : Nat → Nat} {tx te kd ch nx lo hi_ wt cs kn : Nat → Int32} (k25 : M0.2 25 = (.inl (0, 5120, .inl tx))) (k26 : M0.2 26 = (.inl (0, 128, .inl te))) (k33 : M0.2 33 = (.inl (0, 30, .inl kd))) (k34 : M0.2 34 = (.inl (0, 30, .inl ch))) (k35 : M0.2 35 = (.inl (0, 30, .inl nx))) (k37 : M0.2 37 = (.inl (0, 30, .inl lo))) (k38 : M0.2 38 = (.inl (0, 30, .inl hi_))) (k40 : M0.2 40 = (.inl (2, 2850, .inl cs))) (k45 : M0.2 45 = (.inl (2, 32, .inl kn))) (hA26 : A.length ≤ 26) (hO : ∀ (i : Nat) (q : xNode), A[i]? = some q → pOk A lo_ i q) (hS : ∀ (i : Nat) (q : xNode), A[i]? = some q → nS kd ch nx lo hi_ wt cs i q) {sl tl : Nat} (hsl : sl < 128) (hte : te sl = nI tl) (htl : tl ≤ 40) {V : Nat → Prop} {i : Nat} (hi : i < 30) {st lg lt my0 : Nat → Int32} {d ce se cells slots : Nat} {Post : Option Value → xM → Prop} (hcc : cells ≤ ce) (hss : slots ≤ se) {l : List Nat} (K : ∀ (M : xM) (my : Nat → Int32) (jn : Int32), rX M0 M st lg lt my → M.2 24 = (.inr (12, [.ref 25, .ref 26, .ref 27, .ref 28, .ref 29, .ref 30, .int (nI sn), .int (nI vc), .int (nI tk), .ref 31, .int (nI dl), .ref 32, .int (nI pl), .int (nI A.length), .ref 33, .ref 34, .ref 35, .ref 36, .ref 37, .ref 38, .ref 39, .ref 40, .int y22, .int y23, .int y24, .ref 41, .ref 42, .ref 43, .ref 44, .ref 45, .ref 46, .ref 47, .ref 48, .int jn, .ref 49, .ref 50, .int y36, .int y37, .int y38, .int y39, .int (nI hc), .ref 51])) → my i = xB (∃ c ∈ l, V c) → (∀ m, m ≠ i → my m = my0 m) → ∀ pI : Int32, XJ G Y14_56 d ce se cells slots 102 [(3, .int pI), (2, .int (nI i)), (0, .ref 24), (1, .int (nI sl))] [] M Post) : ∀ (rest dn : List Nat) (p : Int32) (M : xM) (my : Nat → Int32) (jn : Int32), l = dn ++ rest → xCn nx p rest → (∀ c ∈ rest, c < 30 ∧ c ≠ i ∧ my0 c = xB (V c)) → rX M0 M st lg lt my → M.2 24 = (.inr (12, [.ref 25, .ref 26, .ref 27, .ref 28, .ref 29, .ref 30, .int (nI sn), .int (nI vc), .int (nI tk), .ref 31, .int (nI dl), .ref 32, .int (nI pl), .int (nI A.length), .ref 33, .ref 34, .ref 35, .ref 36, .ref 37, .ref 38, .ref 39, .ref 40, .int y22, .int y23, .int y24, .ref 41, .ref 42, .ref 43, .ref 44, .ref 45, .ref 46, .ref 47, .ref 48, .int jn, .ref 49, .ref 50, .int y36, .int y37, .int y38, .int y39, .int (nI hc), .ref 51])) → my i = xB (∃ c ∈ dn, V c) → (∀ m, m ≠ i → my m = my0 m) → XJ G Y14_56 d ce se cells slots 59 [(3, .int p), (2, .int (nI i)), (0, .ref 24), (1, .int (nI sl))] [] M Post := by
  intro rest
  induction rest with
  | nil =>
    intro dn p M my jn hsp hcn hcl hX h_24 hmi hmo
    have hp : p = -1 := hcn
    subst hp
    have hm0 := hX.1
    rw [List.append_nil] at hsp
    rw [← hsp] at hmi
    refine xj_iload_n (i := 3) d14_56_59 rfl rfl ?_
    refine xj_if_lt (tgt := 102) d14_56_60 rfl (fun _ => ?_) (fun h => absurd (by decide) h)
    exact K M my jn hX h_24 hmi hmo (-1)
  | cons c rest ih =>
    intro dn p M my jn hsp hcn hcl hX h_24 hmi hmo
    have hp : p = nI c := hcn.1
    subst hp
    have hm0 := hX.1
    obtain ⟨hc30, hci, hmc0⟩ := hcl c List.mem_cons_self
    have hmc : my c = xB (V c) := (hmo c hci).trans hmc0
    refine xj_iload_n (i := 3) d14_56_59 rfl rfl ?_
    refine xj_if_lt (tgt := 102) d14_56_60 rfl (fun h => absurd h (nI_pos (by omega))) (fun _ => ?_)
    refine xj_aload_n (i := 0) d14_56_63 rfl rfl ?_
    refine xj_get d14_56_64 f14_83_12 h_24 (by omega) (show 24 < M.1 by omega) rfl ?_
    refine xj_iload_n (i := 2) d14_56_67 rfl rfl ?_
    refine xj_aload_n (i := 0) d14_56_68 rfl rfl ?_
    refine xj_get d14_56_69 f14_83_12 h_24 (by omega) (show 24 < M.1 by omega) rfl ?_
    refine xj_iload_n (i := 2) d14_56_72 rfl rfl ?_
    refine xj_zaload (j := i) d14_56_73 hX.2.2.2.2.2 (by omega) (show 49 < M.1 by omega) (vp_in_nI (by omega) (by omega)) (nI_clamp (by omega)) ?_
    refine xj_if_ne (tgt := 86) d14_56_74 rfl (fun hz9 => ?_) (fun hz9 => ?_)
    · refine xj_iconst (v := 1) d14_56_86 (by decide) ?_
      refine xj_goto (tgt := 91) d14_56_87 rfl ?_
      refine xj_zastore (j := i) (x' := 1) d14_56_91 hX.2.2.2.2.2 (by omega) (show 49 < M.1 by omega) (vp_in_nI (by omega) (by omega)) (nI_clamp (by omega)) (by decide) ?_
      refine xj_abs_set (fun M1 hs1 ha1 ho1 => ?_)
      refine xj_aload_n (i := 0) d14_56_92 rfl rfl ?_
      refine xj_get d14_56_93 f14_41_12 ((ho1 24 (by omega)).trans h_24) (by omega) (show 24 < M1.1 by omega) rfl ?_
      refine xj_iload_n (i := 3) d14_56_96 rfl rfl ?_
      refine xj_iaload (j := c) d14_56_97 ((ho1 35 (by omega)).trans ((hX.2.1 35 (by omega) (by omega) (by omega) (by omega) (by omega) (by omega)).trans k35)) (by omega) (show 35 < M1.1 by omega) (vp_in_nI (by omega) (by omega)) (nI_clamp (by omega)) ?_
      refine xj_istore_n (i := 3) (L' := [(3, .int (nx c)), (2, .int (nI i)), (0, .ref 24), (1, .int (nI sl))]) d14_56_98 rfl (by decide) rfl ?_
      refine xj_goto (tgt := 59) d14_56_99 rfl ?_
      refine xj_sub (L' := [(3, .int (nx c)), (2, .int (nI i)), (0, .ref 24), (1, .int (nI sl))]) (fun q hq => by simp only [List.mem_cons, List.not_mem_nil, or_false] at hq ⊢; rcases hq with rfl | rfl | rfl | rfl <;> simp) ?_
      have hX9 : rX M M1 st lg lt (upd my i 1) := ⟨(show M1.1 = M.1 by omega), (fun j hj a b c e f => (ho1 j (by omega))), ((ho1 46 (by omega)).trans hX.2.2.1), ((ho1 47 (by omega)).trans hX.2.2.2.1), ((ho1 48 (by omega)).trans hX.2.2.2.2.1), ha1⟩
      exact ih (dn ++ [c]) (nx c) M1 (upd my i 1) jn (by rw [hsp]; simp) hcn.2 (fun c' hc' => hcl c' (List.mem_cons_of_mem _ hc')) (rX_t hX hX9) ((ho1 24 (by omega)).trans h_24) ((if_pos rfl).trans (xB_t (show (∃ c8 ∈ (dn ++ [c]), V c8) from by obtain ⟨c', c1, c2⟩ := xB_y (p := (∃ c8 ∈ dn, V c8)) (by rw [← hmi]; exact hz9); exact ⟨c', List.mem_append.mpr (Or.inl c1), c2⟩)).symm) (fun m hm => (if_neg hm).trans (hmo m hm))
    · refine xj_aload_n (i := 0) d14_56_77 rfl rfl ?_
      refine xj_get d14_56_78 f14_83_12 h_24 (by omega) (show 24 < M.1 by omega) rfl ?_
      refine xj_iload_n (i := 3) d14_56_81 rfl rfl ?_
      refine xj_zaload (j := c) d14_56_82 hX.2.2.2.2.2 (by omega) (show 49 < M.1 by omega) (vp_in_nI (by omega) (by omega)) (nI_clamp (by omega)) ?_
      refine xj_if_eq (tgt := 90) d14_56_83 rfl (fun hq9 => ?_) (fun hq9 => ?_)
      · refine xj_iconst (v := 0) d14_56_90 (by decide) ?_
        refine xj_zastore (j := i) (x' := 0) d14_56_91 hX.2.2.2.2.2 (by omega) (show 49 < M.1 by omega) (vp_in_nI (by omega) (by omega)) (nI_clamp (by omega)) (by decide) ?_
        refine xj_abs_set (fun M2 hs2 ha2 ho2 => ?_)
        refine xj_aload_n (i := 0) d14_56_92 rfl rfl ?_
        refine xj_get d14_56_93 f14_41_12 ((ho2 24 (by omega)).trans h_24) (by omega) (show 24 < M2.1 by omega) rfl ?_
        refine xj_iload_n (i := 3) d14_56_96 rfl rfl ?_
        refine xj_iaload (j := c) d14_56_97 ((ho2 35 (by omega)).trans ((hX.2.1 35 (by omega) (by omega) (by omega) (by omega) (by omega) (by omega)).trans k35)) (by omega) (show 35 < M2.1 by omega) (vp_in_nI (by omega) (by omega)) (nI_clamp (by omega)) ?_
        refine xj_istore_n (i := 3) (L' := [(3, .int (nx c)), (2, .int (nI i)), (0, .ref 24), (1, .int (nI sl))]) d14_56_98 rfl (by decide) rfl ?_
        refine xj_goto (tgt := 59) d14_56_99 rfl ?_
        refine xj_sub (L' := [(3, .int (nx c)), (2, .int (nI i)), (0, .ref 24), (1, .int (nI sl))]) (fun q hq => by simp only [List.mem_cons, List.not_mem_nil, or_false] at hq ⊢; rcases hq with rfl | rfl | rfl | rfl <;> simp) ?_
        have hX9 : rX M M2 st lg lt (upd my i 0) := ⟨(show M2.1 = M.1 by omega), (fun j hj a b c e f => (ho2 j (by omega))), ((ho2 46 (by omega)).trans hX.2.2.1), ((ho2 47 (by omega)).trans hX.2.2.2.1), ((ho2 48 (by omega)).trans hX.2.2.2.2.1), ha2⟩
        exact ih (dn ++ [c]) (nx c) M2 (upd my i 0) jn (by rw [hsp]; simp) hcn.2 (fun c' hc' => hcl c' (List.mem_cons_of_mem _ hc')) (rX_t hX hX9) ((ho2 24 (by omega)).trans h_24) ((if_pos rfl).trans (xB_f (show ¬ (∃ c8 ∈ (dn ++ [c]), V c8) from fun ⟨c', c1, c2⟩ => by rcases List.mem_append.mp c1 with w | w; exact xB_n (p := (∃ c8 ∈ dn, V c8)) (by rw [← hmi]; exact hz9) ⟨c', w, c2⟩; rw [List.mem_singleton.mp w] at c2; exact xB_n (p := V c) (hmc.symm.trans hq9) c2)).symm) (fun m hm => (if_neg hm).trans (hmo m hm))
      · refine xj_iconst (v := 1) d14_56_86 (by decide) ?_
        refine xj_goto (tgt := 91) d14_56_87 rfl ?_
        refine xj_zastore (j := i) (x' := 1) d14_56_91 hX.2.2.2.2.2 (by omega) (show 49 < M.1 by omega) (vp_in_nI (by omega) (by omega)) (nI_clamp (by omega)) (by decide) ?_
        refine xj_abs_set (fun M3 hs3 ha3 ho3 => ?_)
        refine xj_aload_n (i := 0) d14_56_92 rfl rfl ?_
        refine xj_get d14_56_93 f14_41_12 ((ho3 24 (by omega)).trans h_24) (by omega) (show 24 < M3.1 by omega) rfl ?_
        refine xj_iload_n (i := 3) d14_56_96 rfl rfl ?_
        refine xj_iaload (j := c) d14_56_97 ((ho3 35 (by omega)).trans ((hX.2.1 35 (by omega) (by omega) (by omega) (by omega) (by omega) (by omega)).trans k35)) (by omega) (show 35 < M3.1 by omega) (vp_in_nI (by omega) (by omega)) (nI_clamp (by omega)) ?_
        refine xj_istore_n (i := 3) (L' := [(3, .int (nx c)), (2, .int (nI i)), (0, .ref 24), (1, .int (nI sl))]) d14_56_98 rfl (by decide) rfl ?_
        refine xj_goto (tgt := 59) d14_56_99 rfl ?_
        refine xj_sub (L' := [(3, .int (nx c)), (2, .int (nI i)), (0, .ref 24), (1, .int (nI sl))]) (fun q hq => by simp only [List.mem_cons, List.not_mem_nil, or_false] at hq ⊢; rcases hq with rfl | rfl | rfl | rfl <;> simp) ?_
        have hX9 : rX M M3 st lg lt (upd my i 1) := ⟨(show M3.1 = M.1 by omega), (fun j hj a b c e f => (ho3 j (by omega))), ((ho3 46 (by omega)).trans hX.2.2.1), ((ho3 47 (by omega)).trans hX.2.2.2.1), ((ho3 48 (by omega)).trans hX.2.2.2.2.1), ha3⟩
        exact ih (dn ++ [c]) (nx c) M3 (upd my i 1) jn (by rw [hsp]; simp) hcn.2 (fun c' hc' => hcl c' (List.mem_cons_of_mem _ hc')) (rX_t hX hX9) ((ho3 24 (by omega)).trans h_24) ((if_pos rfl).trans (xB_t (show (∃ c8 ∈ (dn ++ [c]), V c8) from ⟨c, by simp, xB_y (p := V c) (fun w => hq9 (hmc.trans w))⟩)).symm) (fun m hm => (if_neg hm).trans (hmo m hm))
set_option maxRecDepth 20000 in
set_option maxHeartbeats 4000000 in
theorem mPfL {G : xG} (hg : xGood G) (hxn : xn = 16) {n : Nat} (hn2 : 52 ≤ n) {dl : Nat} {pl : Nat} {vc : Nat} {tk : Nat} {hc : Nat} {sn : Nat} {y22 : Int32} {y23 : Int32} {y24 : Int32} {y36 : Int32} {y37 : Int32} {y38 : Int32} {y39 : Int32} {M0 : xM} (hn0 : M0.1 = n) {A : List xNode} {lo_ : Nat → Nat} {tx te kd ch nx lo hi_ wt cs kn : Nat → Int32} (k25 : M0.2 25 = (.inl (0, 5120, .inl tx))) (k26 : M0.2 26 = (.inl (0, 128, .inl te))) (k33 : M0.2 33 = (.inl (0, 30, .inl kd))) (k34 : M0.2 34 = (.inl (0, 30, .inl ch))) (k35 : M0.2 35 = (.inl (0, 30, .inl nx))) (k37 : M0.2 37 = (.inl (0, 30, .inl lo))) (k38 : M0.2 38 = (.inl (0, 30, .inl hi_))) (k40 : M0.2 40 = (.inl (2, 2850, .inl cs))) (k45 : M0.2 45 = (.inl (2, 32, .inl kn))) (hA26 : A.length ≤ 26) (hO : ∀ (i : Nat) (q : xNode), A[i]? = some q → pOk A lo_ i q) (hS : ∀ (i : Nat) (q : xNode), A[i]? = some q → nS kd ch nx lo hi_ wt cs i q) {sl tl : Nat} (hsl : sl < 128) (hte : te sl = nI tl) (htl : tl ≤ 40) {d ce se cells slots : Nat} {Post : Option Value → xM → Prop} (hd : 4 ≤ d) (hcc : cells ≤ ce) (hss : slots ≤ se) (K : ∀ (M : xM) (st lg lt my : Nat → Int32) (jn : Int32), rX M0 M st lg lt my → M.2 24 = (.inr (12, [.ref 25, .ref 26, .ref 27, .ref 28, .ref 29, .ref 30, .int (nI sn), .int (nI vc), .int (nI tk), .ref 31, .int (nI dl), .ref 32, .int (nI pl), .int (nI A.length), .ref 33, .ref 34, .ref 35, .ref 36, .ref 37, .ref 38, .ref 39, .ref 40, .int y22, .int y23, .int y24, .ref 41, .ref 42, .ref 43, .ref 44, .ref 45, .ref 46, .ref 47, .ref 48, .int jn, .ref 49, .ref 50, .int y36, .int y37, .int y38, .int y39, .int (nI hc), .ref 51])) → (∀ c, c < A.length → rKn st lg lt kn (fun c => (sLr A c).1) c) → (∀ c, c < A.length → my c = xB (vY A (vAl (vHas (fun j => tx (40 * sl + j)) tl)) c)) → ∀ i : Nat, XJ G Y14_56 d ce se cells slots 162 [(2, .int (nI i)), (0, .ref 24), (1, .int (nI sl))] [] M Post) : ∀ (r i : Nat) (M : xM) (st lg lt my : Nat → Int32) (jn : Int32), i + r = A.length → rX M0 M st lg lt my → M.2 24 = (.inr (12, [.ref 25, .ref 26, .ref 27, .ref 28, .ref 29, .ref 30, .int (nI sn), .int (nI vc), .int (nI tk), .ref 31, .int (nI dl), .ref 32, .int (nI pl), .int (nI A.length), .ref 33, .ref 34, .ref 35, .ref 36, .ref 37, .ref 38, .ref 39, .ref 40, .int y22, .int y23, .int y24, .ref 41, .ref 42, .ref 43, .ref 44, .ref 45, .ref 46, .ref 47, .ref 48, .int jn, .ref 49, .ref 50, .int y36, .int y37, .int y38, .int y39, .int (nI hc), .ref 51])) → (∀ c, c < A.length → rKn st lg lt kn (fun c => (sLr A c).1) c) → (∀ c, c < i → my c = xB (vY A (vAl (vHas (fun j => tx (40 * sl + j)) tl)) c)) → XJ G Y14_56 d ce se cells slots 2 [(2, .int (nI i)), (0, .ref 24), (1, .int (nI sl))] [] M Post := by
  intro r
  induction r with
  | zero =>
    intro i M st lg lt my jn hi hX h_24 hkn hmy
    have hm0 := hX.1
    refine xj_iload_n (i := 2) d14_56_2 rfl rfl ?_
    refine xj_aload_n (i := 0) d14_56_3 rfl rfl ?_
    refine xj_get d14_56_4 f14_136_12 h_24 (by omega) (show 24 < M.1 by omega) rfl ?_
    refine xj_icmp_ge (tgt := 162) d14_56_7 rfl (fun _ => ?_) (fun h => absurd (nI_le (a := A.length) (b := i) (by omega) (by omega)) h)
    exact K M st lg lt my jn hX h_24 hkn (fun c hc => hmy c (by omega)) i
  | succ r ih =>
    intro i M st lg lt my jn hi hX h_24 hkn hmy
    have hm0 := hX.1
    obtain ⟨q, hq⟩ : ∃ q, A[i]? = some q := ⟨_, List.getElem?_eq_getElem (show i < A.length by omega)⟩
    have hN := hS i q hq
    obtain ⟨h1, h2, h3, h4, h5, h6, h7⟩ := hO i q hq
    have hiv := pIv_le h1
    have hL : sLr A i = sNode (fun c => (sLr A c).1) q := sLr_at A (fun j p hp => ⟨fun c hc => ((pIv_le (hO j p hp).1).2 c hc).2.1, fun z => ((hO j p hp).2.2.2.2.1 z).1⟩) i q hq
    obtain ⟨hi29, hki9⟩ := hkn i (by omega)
    have hYi := vY_iff (al := vAl (vHas (fun j => tx (40 * sl + j)) tl)) hq
    rcases hki9 with ⟨hWi, hki⟩ | ⟨S, hWi, hki, hLi⟩
    · have hl28 : q.2.2.1.length ≤ 28 := by have := hiv.1; omega
      have hkk : q.1 = 1 ∨ q.1 = 2 ∨ q.1 = 3 ∨ q.1 = 4 ∨ q.1 = 5 ∨ q.1 = 6 := by omega
      have hcc0 : ∀ c ∈ q.2.2.1, c < 29 ∧ rKn st lg lt kn (fun c => (sLr A c).1) c ∧ ((sLr A c).1 = none → rMy (nI sl) my (vY A (vAl (vHas (fun j => tx (40 * sl + j)) tl))) c) := fun c hc => ⟨(hkn c (by have := (hiv.2 c hc).2.1; omega)).1, hkn c (by have := (hiv.2 c hc).2.1; omega), fun _ => Or.inr ⟨nI_pos (by omega), hmy c (hiv.2 c hc).2.1⟩⟩
      have hWi' : (sLr A i).1 = none := hWi
      have hkd := hN.1
      rcases hkk with hq1 | hq1 | hq1 | hq1 | hq1 | hq1
      · replace hkd : kd i = 1 := by rw [hkd, hq1]; decide
        have hvi : vY A (vAl (vHas (fun j => tx (40 * sl + j)) tl)) i := hYi.mpr (Or.inl ⟨hq1, fun S hS => absurd (hWi'.symm.trans hS) (by simp)⟩)
        refine xj_iload_n (i := 2) d14_56_2 rfl rfl ?_
        refine xj_aload_n (i := 0) d14_56_3 rfl rfl ?_
        refine xj_get d14_56_4 f14_136_12 h_24 (by omega) (show 24 < M.1 by omega) rfl ?_
        refine xj_icmp_ge (tgt := 162) d14_56_7 rfl (fun h => absurd h (nI_ge (a := i) (b := A.length) (by omega) (by omega))) (fun _ => ?_)
        refine xj_aload_n (i := 0) d14_56_10 rfl rfl ?_
        refine xj_get d14_56_11 f14_71_12 h_24 (by omega) (show 24 < M.1 by omega) rfl ?_
        refine xj_iload_n (i := 2) d14_56_14 rfl rfl ?_
        refine xj_zaload (j := i) d14_56_15 ((hX.2.1 45 (by omega) (by omega) (by omega) (by omega) (by omega) (by omega)).trans k45) (by omega) (show 45 < M.1 by omega) (vp_in_nI (by omega) (by omega)) (nI_clamp (by omega)) ?_
        rw [show kn i = 0 from hki]
        refine xj_if_eq (tgt := 34) d14_56_16 rfl (fun _ => ?_) (fun h => absurd (by decide) h)
        refine xj_aload_n (i := 0) d14_56_34 rfl rfl ?_
        refine xj_get d14_56_35 f14_35_12 h_24 (by omega) (show 24 < M.1 by omega) rfl ?_
        refine xj_iload_n (i := 2) d14_56_38 rfl rfl ?_
        refine xj_iaload (j := i) d14_56_39 ((hX.2.1 33 (by omega) (by omega) (by omega) (by omega) (by omega) (by omega)).trans k33) (by omega) (show 33 < M.1 by omega) (vp_in_nI (by omega) (by omega)) (nI_clamp (by omega)) ?_
        rw [show kd i = 1 from hkd]
        refine xj_bipush (v := 6) d14_56_40 (by decide) ?_
        refine xj_icmp_ne (tgt := 105) d14_56_42 rfl (fun _ => ?_) (fun h => absurd h (by decide))
        refine xj_aload_n (i := 0) d14_56_105 rfl rfl ?_
        refine xj_get d14_56_106 f14_35_12 h_24 (by omega) (show 24 < M.1 by omega) rfl ?_
        refine xj_iload_n (i := 2) d14_56_109 rfl rfl ?_
        refine xj_iaload (j := i) d14_56_110 ((hX.2.1 33 (by omega) (by omega) (by omega) (by omega) (by omega) (by omega)).trans k33) (by omega) (show 33 < M.1 by omega) (vp_in_nI (by omega) (by omega)) (nI_clamp (by omega)) ?_
        rw [show kd i = 1 from hkd]
        refine xj_iconst (v := 1) d14_56_111 (by decide) ?_
        refine xj_icmp_eq (tgt := 134) d14_56_112 rfl (fun _ => ?_) (fun h => absurd (by decide) h)
        refine xj_aload_n (i := 0) d14_56_134 rfl rfl ?_
        refine xj_get d14_56_135 f14_83_12 h_24 (by omega) (show 24 < M.1 by omega) rfl ?_
        refine xj_iload_n (i := 2) d14_56_138 rfl rfl ?_
        refine xj_iconst (v := 1) d14_56_139 (by decide) ?_
        refine xj_zastore (j := i) (x' := 1) d14_56_140 hX.2.2.2.2.2 (by omega) (show 49 < M.1 by omega) (vp_in_nI (by omega) (by omega)) (nI_clamp (by omega)) (by decide) ?_
        refine xj_abs_set (fun M1 hs1 ha1 ho1 => ?_)
        refine xj_goto (tgt := 156) d14_56_141 rfl ?_
        refine xj_iinc (v := nI (i + 1)) (L' := [(2, .int (nI (i + 1))), (0, .ref 24), (1, .int (nI sl))]) d14_56_156 rfl (xinc _) (by decide) rfl ?_
        refine xj_goto (tgt := 2) d14_56_159 rfl ?_
        refine xj_sub (L' := [(2, .int (nI (i + 1))), (0, .ref 24), (1, .int (nI sl))]) (fun q hq => by simp only [List.mem_cons, List.not_mem_nil, or_false] at hq ⊢; rcases hq with rfl | rfl | rfl <;> simp) ?_
        have hX9 : rX M M1 st lg lt _ := ⟨(show M1.1 = M.1 by omega), (fun j hj a b c e f => (ho1 j (by omega))), ((ho1 46 (by omega)).trans hX.2.2.1), ((ho1 47 (by omega)).trans hX.2.2.2.1), ((ho1 48 (by omega)).trans hX.2.2.2.2.1), ha1⟩
        exact ih (i + 1) M1 _ _ _ _ _ (by omega) (rX_t hX hX9) ((ho1 24 (by omega)).trans h_24) hkn (fun c hc => if e9 : c = i then by rw [e9]; exact (if_pos rfl).trans (xB_t hvi).symm else (if_neg e9).trans (hmy c (by omega)))
      · rw [hL] at hWi'
        unfold sNode at hWi'
        rw [if_neg (by omega), if_pos (by omega)] at hWi'
        cases hWi'
      · rw [hL] at hWi'
        unfold sNode at hWi'
        rw [if_neg (by omega), if_pos (by omega)] at hWi'
        cases hWi'
      · replace hkd : kd i = 4 := by rw [hkd, hq1]; decide
        obtain ⟨ee, hqe, hche, hlo, hhi⟩ := hN.2.2.2.1 hq1
        obtain ⟨-, kk, hkk9, hlk, -⟩ := h5 hq1
        have hlok : lo i = nI kk := hlo.trans hlk
        have hcn : q.2.2.2.1.toNatClampNeg = kk := by rw [hlk]; exact nI_clamp (by omega)
        have hL2 : (sLr A i).2 = sTimes (fun c => (sLr A c).1) ee kk := by rw [hL]; unfold sNode; rw [if_neg (by omega), if_neg (by omega), if_pos hq1, hqe, hcn]; rfl
        by_cases hkk0 : kk = 0
        · have hlo0 : lo i = 0 := by rw [hlok, hkk0]; decide
          have hvi : vY A (vAl (vHas (fun j => tx (40 * sl + j)) tl)) i := hYi.mpr (Or.inr (Or.inr (Or.inl ⟨Or.inl hq1, by rw [hL2, hkk0]; exact ⟨fun S hS => absurd hS (by simp [sTimes, sNd0]), fun c hc => absurd hc (by simp [sTimes, sNd0]), vAl_1 (vHas_nil _ _)⟩⟩)))
          refine xj_iload_n (i := 2) d14_56_2 rfl rfl ?_
          refine xj_aload_n (i := 0) d14_56_3 rfl rfl ?_
          refine xj_get d14_56_4 f14_136_12 h_24 (by omega) (show 24 < M.1 by omega) rfl ?_
          refine xj_icmp_ge (tgt := 162) d14_56_7 rfl (fun h => absurd h (nI_ge (a := i) (b := A.length) (by omega) (by omega))) (fun _ => ?_)
          refine xj_aload_n (i := 0) d14_56_10 rfl rfl ?_
          refine xj_get d14_56_11 f14_71_12 h_24 (by omega) (show 24 < M.1 by omega) rfl ?_
          refine xj_iload_n (i := 2) d14_56_14 rfl rfl ?_
          refine xj_zaload (j := i) d14_56_15 ((hX.2.1 45 (by omega) (by omega) (by omega) (by omega) (by omega) (by omega)).trans k45) (by omega) (show 45 < M.1 by omega) (vp_in_nI (by omega) (by omega)) (nI_clamp (by omega)) ?_
          rw [show kn i = 0 from hki]
          refine xj_if_eq (tgt := 34) d14_56_16 rfl (fun _ => ?_) (fun h => absurd (by decide) h)
          refine xj_aload_n (i := 0) d14_56_34 rfl rfl ?_
          refine xj_get d14_56_35 f14_35_12 h_24 (by omega) (show 24 < M.1 by omega) rfl ?_
          refine xj_iload_n (i := 2) d14_56_38 rfl rfl ?_
          refine xj_iaload (j := i) d14_56_39 ((hX.2.1 33 (by omega) (by omega) (by omega) (by omega) (by omega) (by omega)).trans k33) (by omega) (show 33 < M.1 by omega) (vp_in_nI (by omega) (by omega)) (nI_clamp (by omega)) ?_
          rw [show kd i = 4 from hkd]
          refine xj_bipush (v := 6) d14_56_40 (by decide) ?_
          refine xj_icmp_ne (tgt := 105) d14_56_42 rfl (fun _ => ?_) (fun h => absurd h (by decide))
          refine xj_aload_n (i := 0) d14_56_105 rfl rfl ?_
          refine xj_get d14_56_106 f14_35_12 h_24 (by omega) (show 24 < M.1 by omega) rfl ?_
          refine xj_iload_n (i := 2) d14_56_109 rfl rfl ?_
          refine xj_iaload (j := i) d14_56_110 ((hX.2.1 33 (by omega) (by omega) (by omega) (by omega) (by omega) (by omega)).trans k33) (by omega) (show 33 < M.1 by omega) (vp_in_nI (by omega) (by omega)) (nI_clamp (by omega)) ?_
          rw [show kd i = 4 from hkd]
          refine xj_iconst (v := 1) d14_56_111 (by decide) ?_
          refine xj_icmp_eq (tgt := 134) d14_56_112 rfl (fun h => absurd h (by decide)) (fun _ => ?_)
          refine xj_aload_n (i := 0) d14_56_115 rfl rfl ?_
          refine xj_get d14_56_116 f14_35_12 h_24 (by omega) (show 24 < M.1 by omega) rfl ?_
          refine xj_iload_n (i := 2) d14_56_119 rfl rfl ?_
          refine xj_iaload (j := i) d14_56_120 ((hX.2.1 33 (by omega) (by omega) (by omega) (by omega) (by omega) (by omega)).trans k33) (by omega) (show 33 < M.1 by omega) (vp_in_nI (by omega) (by omega)) (nI_clamp (by omega)) ?_
          rw [show kd i = 4 from hkd]
          refine xj_iconst (v := 4) d14_56_121 (by decide) ?_
          refine xj_icmp_ne (tgt := 144) d14_56_122 rfl (fun h => absurd (by decide) h) (fun _ => ?_)
          refine xj_aload_n (i := 0) d14_56_125 rfl rfl ?_
          refine xj_get d14_56_126 f14_47_12 h_24 (by omega) (show 24 < M.1 by omega) rfl ?_
          refine xj_iload_n (i := 2) d14_56_129 rfl rfl ?_
          refine xj_iaload (j := i) d14_56_130 ((hX.2.1 37 (by omega) (by omega) (by omega) (by omega) (by omega) (by omega)).trans k37) (by omega) (show 37 < M.1 by omega) (vp_in_nI (by omega) (by omega)) (nI_clamp (by omega)) ?_
          rw [show lo i = 0 from hlo0]
          refine xj_if_ne (tgt := 144) d14_56_131 rfl (fun h => absurd (by decide) h) (fun _ => ?_)
          refine xj_aload_n (i := 0) d14_56_134 rfl rfl ?_
          refine xj_get d14_56_135 f14_83_12 h_24 (by omega) (show 24 < M.1 by omega) rfl ?_
          refine xj_iload_n (i := 2) d14_56_138 rfl rfl ?_
          refine xj_iconst (v := 1) d14_56_139 (by decide) ?_
          refine xj_zastore (j := i) (x' := 1) d14_56_140 hX.2.2.2.2.2 (by omega) (show 49 < M.1 by omega) (vp_in_nI (by omega) (by omega)) (nI_clamp (by omega)) (by decide) ?_
          refine xj_abs_set (fun M1 hs1 ha1 ho1 => ?_)
          refine xj_goto (tgt := 156) d14_56_141 rfl ?_
          refine xj_iinc (v := nI (i + 1)) (L' := [(2, .int (nI (i + 1))), (0, .ref 24), (1, .int (nI sl))]) d14_56_156 rfl (xinc _) (by decide) rfl ?_
          refine xj_goto (tgt := 2) d14_56_159 rfl ?_
          refine xj_sub (L' := [(2, .int (nI (i + 1))), (0, .ref 24), (1, .int (nI sl))]) (fun q hq => by simp only [List.mem_cons, List.not_mem_nil, or_false] at hq ⊢; rcases hq with rfl | rfl | rfl <;> simp) ?_
          have hX9 : rX M M1 st lg lt _ := ⟨(show M1.1 = M.1 by omega), (fun j hj a b c e f => (ho1 j (by omega))), ((ho1 46 (by omega)).trans hX.2.2.1), ((ho1 47 (by omega)).trans hX.2.2.2.1), ((ho1 48 (by omega)).trans hX.2.2.2.2.1), ha1⟩
          exact ih (i + 1) M1 _ _ _ _ _ (by omega) (rX_t hX hX9) ((ho1 24 (by omega)).trans h_24) hkn (fun c hc => if e9 : c = i then by rw [e9]; exact (if_pos rfl).trans (xB_t hvi).symm else (if_neg e9).trans (hmy c (by omega)))
        · have hce := hcc0 ee (by rw [hqe]; simp)
          have hwi : vY A (vAl (vHas (fun j => tx (40 * sl + j)) tl)) i ↔ vNd (vAl (vHas (fun j => tx (40 * sl + j)) tl)) (vY A (vAl (vHas (fun j => tx (40 * sl + j)) tl))) (sTimes (fun c => (sLr A c).1) ee kk) := by
            rw [hYi, ← hL2]
            refine ⟨fun h => ?_, fun h => Or.inr (Or.inr (Or.inl ⟨Or.inl hq1, h⟩))⟩
            rcases h with ⟨h, -⟩ | h | ⟨-, h⟩ | ⟨h, -⟩
            · omega
            · omega
            · exact h
            · omega
          refine xj_iload_n (i := 2) d14_56_2 rfl rfl ?_
          refine xj_aload_n (i := 0) d14_56_3 rfl rfl ?_
          refine xj_get d14_56_4 f14_136_12 h_24 (by omega) (show 24 < M.1 by omega) rfl ?_
          refine xj_icmp_ge (tgt := 162) d14_56_7 rfl (fun h => absurd h (nI_ge (a := i) (b := A.length) (by omega) (by omega))) (fun _ => ?_)
          refine xj_aload_n (i := 0) d14_56_10 rfl rfl ?_
          refine xj_get d14_56_11 f14_71_12 h_24 (by omega) (show 24 < M.1 by omega) rfl ?_
          refine xj_iload_n (i := 2) d14_56_14 rfl rfl ?_
          refine xj_zaload (j := i) d14_56_15 ((hX.2.1 45 (by omega) (by omega) (by omega) (by omega) (by omega) (by omega)).trans k45) (by omega) (show 45 < M.1 by omega) (vp_in_nI (by omega) (by omega)) (nI_clamp (by omega)) ?_
          rw [show kn i = 0 from hki]
          refine xj_if_eq (tgt := 34) d14_56_16 rfl (fun _ => ?_) (fun h => absurd (by decide) h)
          refine xj_aload_n (i := 0) d14_56_34 rfl rfl ?_
          refine xj_get d14_56_35 f14_35_12 h_24 (by omega) (show 24 < M.1 by omega) rfl ?_
          refine xj_iload_n (i := 2) d14_56_38 rfl rfl ?_
          refine xj_iaload (j := i) d14_56_39 ((hX.2.1 33 (by omega) (by omega) (by omega) (by omega) (by omega) (by omega)).trans k33) (by omega) (show 33 < M.1 by omega) (vp_in_nI (by omega) (by omega)) (nI_clamp (by omega)) ?_
          rw [show kd i = 4 from hkd]
          refine xj_bipush (v := 6) d14_56_40 (by decide) ?_
          refine xj_icmp_ne (tgt := 105) d14_56_42 rfl (fun _ => ?_) (fun h => absurd h (by decide))
          refine xj_aload_n (i := 0) d14_56_105 rfl rfl ?_
          refine xj_get d14_56_106 f14_35_12 h_24 (by omega) (show 24 < M.1 by omega) rfl ?_
          refine xj_iload_n (i := 2) d14_56_109 rfl rfl ?_
          refine xj_iaload (j := i) d14_56_110 ((hX.2.1 33 (by omega) (by omega) (by omega) (by omega) (by omega) (by omega)).trans k33) (by omega) (show 33 < M.1 by omega) (vp_in_nI (by omega) (by omega)) (nI_clamp (by omega)) ?_
          rw [show kd i = 4 from hkd]
          refine xj_iconst (v := 1) d14_56_111 (by decide) ?_
          refine xj_icmp_eq (tgt := 134) d14_56_112 rfl (fun h => absurd h (by decide)) (fun _ => ?_)
          refine xj_aload_n (i := 0) d14_56_115 rfl rfl ?_
          refine xj_get d14_56_116 f14_35_12 h_24 (by omega) (show 24 < M.1 by omega) rfl ?_
          refine xj_iload_n (i := 2) d14_56_119 rfl rfl ?_
          refine xj_iaload (j := i) d14_56_120 ((hX.2.1 33 (by omega) (by omega) (by omega) (by omega) (by omega) (by omega)).trans k33) (by omega) (show 33 < M.1 by omega) (vp_in_nI (by omega) (by omega)) (nI_clamp (by omega)) ?_
          rw [show kd i = 4 from hkd]
          refine xj_iconst (v := 4) d14_56_121 (by decide) ?_
          refine xj_icmp_ne (tgt := 144) d14_56_122 rfl (fun h => absurd (by decide) h) (fun _ => ?_)
          refine xj_aload_n (i := 0) d14_56_125 rfl rfl ?_
          refine xj_get d14_56_126 f14_47_12 h_24 (by omega) (show 24 < M.1 by omega) rfl ?_
          refine xj_iload_n (i := 2) d14_56_129 rfl rfl ?_
          refine xj_iaload (j := i) d14_56_130 ((hX.2.1 37 (by omega) (by omega) (by omega) (by omega) (by omega) (by omega)).trans k37) (by omega) (show 37 < M.1 by omega) (vp_in_nI (by omega) (by omega)) (nI_clamp (by omega)) ?_
          rw [show lo i = nI kk from hlok]
          refine xj_if_ne (tgt := 144) d14_56_131 rfl (fun _ => ?_) (fun h => absurd h (fun q => hkk0 ((nI_eq (a := kk) (b := 0) (by omega) (by omega)).mp q)))
          refine xj_aload_n (i := 0) d14_56_144 rfl rfl ?_
          refine xj_get d14_56_145 f14_83_12 h_24 (by omega) (show 24 < M.1 by omega) rfl ?_
          refine xj_iload_n (i := 2) d14_56_148 rfl rfl ?_
          refine xj_aload_n (i := 0) d14_56_149 rfl rfl ?_
          refine xj_iload_n (i := 2) d14_56_150 rfl rfl ?_
          refine xj_iload_n (i := 1) d14_56_151 rfl rfl ?_
          refine xj_callV (rest := [.int (nI i), .ref 49]) (As := [.int (nI i), .int (nI sl)]) (b := 24) (mWalk4 hg hxn hn2 (show M.1 = n by omega) ((hX.2.1 25 (by omega) (by omega) (by omega) (by omega) (by omega) (by omega)).trans k25) ((hX.2.1 26 (by omega) (by omega) (by omega) (by omega) (by omega) (by omega)).trans k26) ((hX.2.1 33 (by omega) (by omega) (by omega) (by omega) (by omega) (by omega)).trans k33) ((hX.2.1 34 (by omega) (by omega) (by omega) (by omega) (by omega) (by omega)).trans k34) ((hX.2.1 35 (by omega) (by omega) (by omega) (by omega) (by omega) (by omega)).trans k35) ((hX.2.1 37 (by omega) (by omega) (by omega) (by omega) (by omega) (by omega)).trans k37) ((hX.2.1 45 (by omega) (by omega) (by omega) (by omega) (by omega) (by omega)).trans k45) hX.2.2.2.2.2 (W := fun c => (sLr A c).1) (V := vY A (vAl (vHas (fun j => tx (40 * sl + j)) tl))) (al := vAl (vHas (fun j => tx (40 * sl + j)) tl)) (sI := nI sl) (Or.inr ⟨sl, tl, rfl, hsl, hte, htl, fun _ => Iff.rfl⟩) hX.2.2.1 hX.2.2.2.1 hX.2.2.2.2.1 h_24 (nd := i) (by omega) hkd (e := ee) (kk := kk) hche hlok hkk9 hce rfl) d14_56_152 wd14_51 h_24 (by omega) (show 24 < M.1 by omega) rfl s14_51 w1326 (Or.inl w1324) rfl rfl (Nat.le_of_ble_eq_true rfl) (by omega) (by omega) (by omega) ?_
          rintro v5 M5 ⟨rfl, st5, lg5, lt5, hU5, h24, hS5, -⟩
          have hm5 := hU5.1
          refine xj_zastore (j := i) (x' := xB (vNd (vAl (vHas (fun j => tx (40 * sl + j)) tl)) (vY A (vAl (vHas (fun j => tx (40 * sl + j)) tl))) (sTimes (fun c => (sLr A c).1) ee kk))) d14_56_155 ((hU5.2.1 49 (by omega) (by omega) (by omega) (by omega) (by omega)).trans hX.2.2.2.2.2) (by omega) (show 49 < M5.1 by omega) (vp_in_nI (by omega) (by omega)) (nI_clamp (by omega)) (show vp_nar .boolean (xB (vNd (vAl (vHas (fun j => tx (40 * sl + j)) tl)) (vY A (vAl (vHas (fun j => tx (40 * sl + j)) tl))) (sTimes (fun c => (sLr A c).1) ee kk))) = xB (vNd (vAl (vHas (fun j => tx (40 * sl + j)) tl)) (vY A (vAl (vHas (fun j => tx (40 * sl + j)) tl))) (sTimes (fun c => (sLr A c).1) ee kk)) by rcases xB_01 ((vNd (vAl (vHas (fun j => tx (40 * sl + j)) tl)) (vY A (vAl (vHas (fun j => tx (40 * sl + j)) tl))) (sTimes (fun c => (sLr A c).1) ee kk))) with z | z <;> rw [z] <;> decide) ?_
          refine xj_abs_set (fun M1 hs1 ha1 ho1 => ?_)
          refine xj_iinc (v := nI (i + 1)) (L' := [(2, .int (nI (i + 1))), (0, .ref 24), (1, .int (nI sl))]) d14_56_156 rfl (xinc _) (by decide) rfl ?_
          refine xj_goto (tgt := 2) d14_56_159 rfl ?_
          refine xj_sub (L' := [(2, .int (nI (i + 1))), (0, .ref 24), (1, .int (nI sl))]) (fun q hq => by simp only [List.mem_cons, List.not_mem_nil, or_false] at hq ⊢; rcases hq with rfl | rfl | rfl <;> simp) ?_
          have hX9 : rX M M1 st5 lg5 lt5 _ := ⟨(show M1.1 = M.1 by omega), (fun j hj a b c e f => ((ho1 j (by omega)).trans (hU5.2.1 j (by omega) (by omega) (by omega) (by omega) (by omega)))), ((ho1 46 (by omega)).trans hU5.2.2.1), ((ho1 47 (by omega)).trans hU5.2.2.2.1), ((ho1 48 (by omega)).trans hU5.2.2.2.2), ha1⟩
          exact ih (i + 1) M1 _ _ _ _ _ (by omega) (rX_t hX hX9) ((ho1 24 (by omega)).trans h24) (fun c hc => rKn_same (hkn c hc) (fun m hm => hS5 m hm)) (fun c hc => if e9 : c = i then by rw [e9]; exact (if_pos rfl).trans (xB_cg hwi).symm else (if_neg e9).trans (hmy c (by omega)))
      · replace hkd : kd i = 5 := by rw [hkd, hq1]; decide
        have hcl := hcc0
        have hL2 : (sLr A i).2 = sAlong (fun c => (sLr A c).1) q.2.2.1 := by rw [hL]; unfold sNode; rw [if_neg (by omega), if_neg (by omega), if_neg (by omega), if_pos hq1]
        have hwi : vY A (vAl (vHas (fun j => tx (40 * sl + j)) tl)) i ↔ vNd (vAl (vHas (fun j => tx (40 * sl + j)) tl)) (vY A (vAl (vHas (fun j => tx (40 * sl + j)) tl))) (sAlong (fun c => (sLr A c).1) q.2.2.1) := by
          rw [hYi, ← hL2]
          refine ⟨fun h => ?_, fun h => Or.inr (Or.inr (Or.inl ⟨Or.inr hq1, h⟩))⟩
          rcases h with ⟨h, -⟩ | h | ⟨-, h⟩ | ⟨h, -⟩
          · omega
          · omega
          · exact h
          · omega
        refine xj_iload_n (i := 2) d14_56_2 rfl rfl ?_
        refine xj_aload_n (i := 0) d14_56_3 rfl rfl ?_
        refine xj_get d14_56_4 f14_136_12 h_24 (by omega) (show 24 < M.1 by omega) rfl ?_
        refine xj_icmp_ge (tgt := 162) d14_56_7 rfl (fun h => absurd h (nI_ge (a := i) (b := A.length) (by omega) (by omega))) (fun _ => ?_)
        refine xj_aload_n (i := 0) d14_56_10 rfl rfl ?_
        refine xj_get d14_56_11 f14_71_12 h_24 (by omega) (show 24 < M.1 by omega) rfl ?_
        refine xj_iload_n (i := 2) d14_56_14 rfl rfl ?_
        refine xj_zaload (j := i) d14_56_15 ((hX.2.1 45 (by omega) (by omega) (by omega) (by omega) (by omega) (by omega)).trans k45) (by omega) (show 45 < M.1 by omega) (vp_in_nI (by omega) (by omega)) (nI_clamp (by omega)) ?_
        rw [show kn i = 0 from hki]
        refine xj_if_eq (tgt := 34) d14_56_16 rfl (fun _ => ?_) (fun h => absurd (by decide) h)
        refine xj_aload_n (i := 0) d14_56_34 rfl rfl ?_
        refine xj_get d14_56_35 f14_35_12 h_24 (by omega) (show 24 < M.1 by omega) rfl ?_
        refine xj_iload_n (i := 2) d14_56_38 rfl rfl ?_
        refine xj_iaload (j := i) d14_56_39 ((hX.2.1 33 (by omega) (by omega) (by omega) (by omega) (by omega) (by omega)).trans k33) (by omega) (show 33 < M.1 by omega) (vp_in_nI (by omega) (by omega)) (nI_clamp (by omega)) ?_
        rw [show kd i = 5 from hkd]
        refine xj_bipush (v := 6) d14_56_40 (by decide) ?_
        refine xj_icmp_ne (tgt := 105) d14_56_42 rfl (fun _ => ?_) (fun h => absurd h (by decide))
        refine xj_aload_n (i := 0) d14_56_105 rfl rfl ?_
        refine xj_get d14_56_106 f14_35_12 h_24 (by omega) (show 24 < M.1 by omega) rfl ?_
        refine xj_iload_n (i := 2) d14_56_109 rfl rfl ?_
        refine xj_iaload (j := i) d14_56_110 ((hX.2.1 33 (by omega) (by omega) (by omega) (by omega) (by omega) (by omega)).trans k33) (by omega) (show 33 < M.1 by omega) (vp_in_nI (by omega) (by omega)) (nI_clamp (by omega)) ?_
        rw [show kd i = 5 from hkd]
        refine xj_iconst (v := 1) d14_56_111 (by decide) ?_
        refine xj_icmp_eq (tgt := 134) d14_56_112 rfl (fun h => absurd h (by decide)) (fun _ => ?_)
        refine xj_aload_n (i := 0) d14_56_115 rfl rfl ?_
        refine xj_get d14_56_116 f14_35_12 h_24 (by omega) (show 24 < M.1 by omega) rfl ?_
        refine xj_iload_n (i := 2) d14_56_119 rfl rfl ?_
        refine xj_iaload (j := i) d14_56_120 ((hX.2.1 33 (by omega) (by omega) (by omega) (by omega) (by omega) (by omega)).trans k33) (by omega) (show 33 < M.1 by omega) (vp_in_nI (by omega) (by omega)) (nI_clamp (by omega)) ?_
        rw [show kd i = 5 from hkd]
        refine xj_iconst (v := 4) d14_56_121 (by decide) ?_
        refine xj_icmp_ne (tgt := 144) d14_56_122 rfl (fun _ => ?_) (fun h => absurd h (by decide))
        refine xj_aload_n (i := 0) d14_56_144 rfl rfl ?_
        refine xj_get d14_56_145 f14_83_12 h_24 (by omega) (show 24 < M.1 by omega) rfl ?_
        refine xj_iload_n (i := 2) d14_56_148 rfl rfl ?_
        refine xj_aload_n (i := 0) d14_56_149 rfl rfl ?_
        refine xj_iload_n (i := 2) d14_56_150 rfl rfl ?_
        refine xj_iload_n (i := 1) d14_56_151 rfl rfl ?_
        refine xj_callV (rest := [.int (nI i), .ref 49]) (As := [.int (nI i), .int (nI sl)]) (b := 24) (mWalk5 hg hxn hn2 (show M.1 = n by omega) ((hX.2.1 25 (by omega) (by omega) (by omega) (by omega) (by omega) (by omega)).trans k25) ((hX.2.1 26 (by omega) (by omega) (by omega) (by omega) (by omega) (by omega)).trans k26) ((hX.2.1 33 (by omega) (by omega) (by omega) (by omega) (by omega) (by omega)).trans k33) ((hX.2.1 34 (by omega) (by omega) (by omega) (by omega) (by omega) (by omega)).trans k34) ((hX.2.1 35 (by omega) (by omega) (by omega) (by omega) (by omega) (by omega)).trans k35) ((hX.2.1 37 (by omega) (by omega) (by omega) (by omega) (by omega) (by omega)).trans k37) ((hX.2.1 45 (by omega) (by omega) (by omega) (by omega) (by omega) (by omega)).trans k45) hX.2.2.2.2.2 (W := fun c => (sLr A c).1) (V := vY A (vAl (vHas (fun j => tx (40 * sl + j)) tl))) (al := vAl (vHas (fun j => tx (40 * sl + j)) tl)) (sI := nI sl) (Or.inr ⟨sl, tl, rfl, hsl, hte, htl, fun _ => Iff.rfl⟩) hX.2.2.1 hX.2.2.2.1 hX.2.2.2.2.1 h_24 (nd := i) (by omega) (by rw [hkd]; decide) (hN.2.2.2.2 (by omega)) hl28 hcl rfl) d14_56_152 wd14_51 h_24 (by omega) (show 24 < M.1 by omega) rfl s14_51 w1326 (Or.inl w1324) rfl rfl (Nat.le_of_ble_eq_true rfl) (by omega) (by omega) (by omega) ?_
        rintro v5 M5 ⟨rfl, st5, lg5, lt5, hU5, h24, hS5, -⟩
        have hm5 := hU5.1
        refine xj_zastore (j := i) (x' := xB (vNd (vAl (vHas (fun j => tx (40 * sl + j)) tl)) (vY A (vAl (vHas (fun j => tx (40 * sl + j)) tl))) (sAlong (fun c => (sLr A c).1) q.2.2.1))) d14_56_155 ((hU5.2.1 49 (by omega) (by omega) (by omega) (by omega) (by omega)).trans hX.2.2.2.2.2) (by omega) (show 49 < M5.1 by omega) (vp_in_nI (by omega) (by omega)) (nI_clamp (by omega)) (show vp_nar .boolean (xB (vNd (vAl (vHas (fun j => tx (40 * sl + j)) tl)) (vY A (vAl (vHas (fun j => tx (40 * sl + j)) tl))) (sAlong (fun c => (sLr A c).1) q.2.2.1))) = xB (vNd (vAl (vHas (fun j => tx (40 * sl + j)) tl)) (vY A (vAl (vHas (fun j => tx (40 * sl + j)) tl))) (sAlong (fun c => (sLr A c).1) q.2.2.1)) by rcases xB_01 ((vNd (vAl (vHas (fun j => tx (40 * sl + j)) tl)) (vY A (vAl (vHas (fun j => tx (40 * sl + j)) tl))) (sAlong (fun c => (sLr A c).1) q.2.2.1))) with z | z <;> rw [z] <;> decide) ?_
        refine xj_abs_set (fun M1 hs1 ha1 ho1 => ?_)
        refine xj_iinc (v := nI (i + 1)) (L' := [(2, .int (nI (i + 1))), (0, .ref 24), (1, .int (nI sl))]) d14_56_156 rfl (xinc _) (by decide) rfl ?_
        refine xj_goto (tgt := 2) d14_56_159 rfl ?_
        refine xj_sub (L' := [(2, .int (nI (i + 1))), (0, .ref 24), (1, .int (nI sl))]) (fun q hq => by simp only [List.mem_cons, List.not_mem_nil, or_false] at hq ⊢; rcases hq with rfl | rfl | rfl <;> simp) ?_
        have hX9 : rX M M1 st5 lg5 lt5 _ := ⟨(show M1.1 = M.1 by omega), (fun j hj a b c e f => ((ho1 j (by omega)).trans (hU5.2.1 j (by omega) (by omega) (by omega) (by omega) (by omega)))), ((ho1 46 (by omega)).trans hU5.2.2.1), ((ho1 47 (by omega)).trans hU5.2.2.2.1), ((ho1 48 (by omega)).trans hU5.2.2.2.2), ha1⟩
        exact ih (i + 1) M1 _ _ _ _ _ (by omega) (rX_t hX hX9) ((ho1 24 (by omega)).trans h24) (fun c hc => rKn_same (hkn c hc) (fun m hm => hS5 m hm)) (fun c hc => if e9 : c = i then by rw [e9]; exact (if_pos rfl).trans (xB_cg hwi).symm else (if_neg e9).trans (hmy c (by omega)))
      · replace hkd : kd i = 6 := by rw [hkd, hq1]; decide
        have hgi : vY A (vAl (vHas (fun j => tx (40 * sl + j)) tl)) i ↔ ∃ c ∈ q.2.2.1, vY A (vAl (vHas (fun j => tx (40 * sl + j)) tl)) c := by
          rw [hYi]
          refine ⟨fun h => ?_, fun h => Or.inr (Or.inr (Or.inr ⟨hq1, h⟩))⟩
          rcases h with ⟨h, -⟩ | h | ⟨h, -⟩ | ⟨-, h⟩
          · omega
          · omega
          · omega
          · exact h
        refine xj_iload_n (i := 2) d14_56_2 rfl rfl ?_
        refine xj_aload_n (i := 0) d14_56_3 rfl rfl ?_
        refine xj_get d14_56_4 f14_136_12 h_24 (by omega) (show 24 < M.1 by omega) rfl ?_
        refine xj_icmp_ge (tgt := 162) d14_56_7 rfl (fun h => absurd h (nI_ge (a := i) (b := A.length) (by omega) (by omega))) (fun _ => ?_)
        refine xj_aload_n (i := 0) d14_56_10 rfl rfl ?_
        refine xj_get d14_56_11 f14_71_12 h_24 (by omega) (show 24 < M.1 by omega) rfl ?_
        refine xj_iload_n (i := 2) d14_56_14 rfl rfl ?_
        refine xj_zaload (j := i) d14_56_15 ((hX.2.1 45 (by omega) (by omega) (by omega) (by omega) (by omega) (by omega)).trans k45) (by omega) (show 45 < M.1 by omega) (vp_in_nI (by omega) (by omega)) (nI_clamp (by omega)) ?_
        rw [show kn i = 0 from hki]
        refine xj_if_eq (tgt := 34) d14_56_16 rfl (fun _ => ?_) (fun h => absurd (by decide) h)
        refine xj_aload_n (i := 0) d14_56_34 rfl rfl ?_
        refine xj_get d14_56_35 f14_35_12 h_24 (by omega) (show 24 < M.1 by omega) rfl ?_
        refine xj_iload_n (i := 2) d14_56_38 rfl rfl ?_
        refine xj_iaload (j := i) d14_56_39 ((hX.2.1 33 (by omega) (by omega) (by omega) (by omega) (by omega) (by omega)).trans k33) (by omega) (show 33 < M.1 by omega) (vp_in_nI (by omega) (by omega)) (nI_clamp (by omega)) ?_
        rw [show kd i = 6 from hkd]
        refine xj_bipush (v := 6) d14_56_40 (by decide) ?_
        refine xj_icmp_ne (tgt := 105) d14_56_42 rfl (fun h => absurd (by decide) h) (fun _ => ?_)
        refine xj_aload_n (i := 0) d14_56_45 rfl rfl ?_
        refine xj_get d14_56_46 f14_83_12 h_24 (by omega) (show 24 < M.1 by omega) rfl ?_
        refine xj_iload_n (i := 2) d14_56_49 rfl rfl ?_
        refine xj_iconst (v := 0) d14_56_50 (by decide) ?_
        refine xj_zastore (j := i) (x' := 0) d14_56_51 hX.2.2.2.2.2 (by omega) (show 49 < M.1 by omega) (vp_in_nI (by omega) (by omega)) (nI_clamp (by omega)) (by decide) ?_
        refine xj_abs_set (fun M1 hs1 ha1 ho1 => ?_)
        refine xj_aload_n (i := 0) d14_56_52 rfl rfl ?_
        refine xj_get d14_56_53 f14_38_12 ((ho1 24 (by omega)).trans h_24) (by omega) (show 24 < M1.1 by omega) rfl ?_
        refine xj_iload_n (i := 2) d14_56_56 rfl rfl ?_
        refine xj_iaload (j := i) d14_56_57 ((ho1 34 (by omega)).trans ((hX.2.1 34 (by omega) (by omega) (by omega) (by omega) (by omega) (by omega)).trans k34)) (by omega) (show 34 < M1.1 by omega) (vp_in_nI (by omega) (by omega)) (nI_clamp (by omega)) ?_
        refine xj_istore_n (i := 3) (L' := [(3, .int (ch i)), (2, .int (nI i)), (0, .ref 24), (1, .int (nI sl))]) d14_56_58 rfl (by decide) rfl ?_
        have hX5 : rX M M1 st lg lt (upd my i 0) := ⟨(show M1.1 = M.1 by omega), (fun j hj a b c e f => (ho1 j (by omega))), ((ho1 46 (by omega)).trans hX.2.2.1), ((ho1 47 (by omega)).trans hX.2.2.2.1), ((ho1 48 (by omega)).trans hX.2.2.2.2.1), ha1⟩
        refine mPfG hg hxn hn2 hn0 k25 k26 k33 k34 k35 k37 k38 k40 k45 hA26 hO hS hsl hte htl (V := vY A (vAl (vHas (fun j => tx (40 * sl + j)) tl))) (by omega) (st := st) (lg := lg) (lt := lt) (my0 := my) hcc hss (l := q.2.2.1) (fun M6 my6 jn6 hX6' h246 hmi6 hmo6 pI => ?_) q.2.2.1 [] (ch i) M1 _ _ rfl (hN.2.2.2.2 (by omega)) (fun c hc => ⟨by have := (hiv.2 c hc).2.1; omega, by have := (hiv.2 c hc).2.1; omega, hmy c (hiv.2 c hc).2.1⟩) (rX_t hX hX5) ((ho1 24 (by omega)).trans h_24) ((if_pos rfl).trans (xB_f (show ¬ ∃ c ∈ ([] : List Nat), vY A (vAl (vHas (fun j => tx (40 * sl + j)) tl)) c from fun ⟨c, c1, _⟩ => absurd c1 (by simp))).symm) (fun m hm => if_neg hm)
        have hm6 := hX6'.1
        refine xj_goto (tgt := 156) d14_56_102 rfl ?_
        refine xj_iinc (v := nI (i + 1)) (L' := [(2, .int (nI (i + 1))), (3, .int pI), (0, .ref 24), (1, .int (nI sl))]) d14_56_156 rfl (xinc _) (by decide) rfl ?_
        refine xj_goto (tgt := 2) d14_56_159 rfl ?_
        refine xj_sub (L' := [(2, .int (nI (i + 1))), (0, .ref 24), (1, .int (nI sl))]) (fun q hq => by simp only [List.mem_cons, List.not_mem_nil, or_false] at hq ⊢; rcases hq with rfl | rfl | rfl <;> simp) ?_
        exact ih (i + 1) M6 _ _ _ _ _ (by omega) hX6' h246 hkn (fun c hc => if e9 : c = i then by rw [e9]; exact hmi6.trans (xB_cg hgi).symm else (hmo6 c e9).trans (hmy c (by omega)))
    · skip
      refine xj_iload_n (i := 2) d14_56_2 rfl rfl ?_
      refine xj_aload_n (i := 0) d14_56_3 rfl rfl ?_
      refine xj_get d14_56_4 f14_136_12 h_24 (by omega) (show 24 < M.1 by omega) rfl ?_
      refine xj_icmp_ge (tgt := 162) d14_56_7 rfl (fun h => absurd h (nI_ge (a := i) (b := A.length) (by omega) (by omega))) (fun _ => ?_)
      refine xj_aload_n (i := 0) d14_56_10 rfl rfl ?_
      refine xj_get d14_56_11 f14_71_12 h_24 (by omega) (show 24 < M.1 by omega) rfl ?_
      refine xj_iload_n (i := 2) d14_56_14 rfl rfl ?_
      refine xj_zaload (j := i) d14_56_15 ((hX.2.1 45 (by omega) (by omega) (by omega) (by omega) (by omega) (by omega)).trans k45) (by omega) (show 45 < M.1 by omega) (vp_in_nI (by omega) (by omega)) (nI_clamp (by omega)) ?_
      rw [show kn i = 1 from hki]
      refine xj_if_eq (tgt := 34) d14_56_16 rfl (fun h => absurd h (by decide)) (fun _ => ?_)
      refine xj_aload_n (i := 0) d14_56_19 rfl rfl ?_
      refine xj_get d14_56_20 f14_83_12 h_24 (by omega) (show 24 < M.1 by omega) rfl ?_
      refine xj_iload_n (i := 2) d14_56_23 rfl rfl ?_
      refine xj_aload_n (i := 0) d14_56_24 rfl rfl ?_
      refine xj_iload_n (i := 1) d14_56_25 rfl rfl ?_
      refine xj_iload_n (i := 2) d14_56_26 rfl rfl ?_
      refine xj_callV (rest := [.int (nI i), .ref 49]) (As := [.int (nI sl), .int (nI i)]) (b := 24) (mAllow hg hxn hn2 (show M.1 = n by omega) h_24 hX.2.2.1 hX.2.2.2.1 hX.2.2.2.2.1 ((hX.2.1 25 (by omega) (by omega) (by omega) (by omega) (by omega) (by omega)).trans k25) ((hX.2.1 26 (by omega) (by omega) (by omega) (by omega) (by omega) (by omega)).trans k26) (l := i) (by omega) hLi (Or.inr ⟨sl, tl, rfl, hsl, hte, htl, fun _ => Iff.rfl⟩)) d14_56_27 wd14_50 h_24 (by omega) (show 24 < M.1 by omega) rfl s14_50 w1338 (Or.inl w1336) rfl rfl (Nat.le_of_ble_eq_true rfl) (by omega) (by omega) (by omega) ?_
      rintro v9 M' ⟨rfl, hm9⟩
      subst M'
      refine xj_zastore (j := i) (x' := xB (vAl (vHas (fun j => tx (40 * sl + j)) tl) S)) d14_56_30 hX.2.2.2.2.2 (by omega) (show 49 < M.1 by omega) (vp_in_nI (by omega) (by omega)) (nI_clamp (by omega)) (show vp_nar .boolean (xB (vAl (vHas (fun j => tx (40 * sl + j)) tl) S)) = xB (vAl (vHas (fun j => tx (40 * sl + j)) tl) S) by rcases xB_01 ((vAl (vHas (fun j => tx (40 * sl + j)) tl) S)) with z | z <;> rw [z] <;> decide) ?_
      refine xj_abs_set (fun M1 hs1 ha1 ho1 => ?_)
      refine xj_goto (tgt := 156) d14_56_31 rfl ?_
      refine xj_iinc (v := nI (i + 1)) (L' := [(2, .int (nI (i + 1))), (0, .ref 24), (1, .int (nI sl))]) d14_56_156 rfl (xinc _) (by decide) rfl ?_
      refine xj_goto (tgt := 2) d14_56_159 rfl ?_
      refine xj_sub (L' := [(2, .int (nI (i + 1))), (0, .ref 24), (1, .int (nI sl))]) (fun q hq => by simp only [List.mem_cons, List.not_mem_nil, or_false] at hq ⊢; rcases hq with rfl | rfl | rfl <;> simp) ?_
      have hX9 : rX M M1 st lg lt _ := ⟨(show M1.1 = M.1 by omega), (fun j hj a b c e f => (ho1 j (by omega))), ((ho1 46 (by omega)).trans hX.2.2.1), ((ho1 47 (by omega)).trans hX.2.2.2.1), ((ho1 48 (by omega)).trans hX.2.2.2.2.1), ha1⟩
      exact ih (i + 1) M1 _ _ _ _ _ (by omega) (rX_t hX hX9) ((ho1 24 (by omega)).trans h_24) hkn (fun c hc => if e9 : c = i then by rw [e9]; exact (if_pos rfl).trans (xB_cg (vY_kn hO (vHas_nil _ _) i q S hq hWi)).symm else (if_neg e9).trans (hmy c (by omega)))
set_option maxRecDepth 20000 in
theorem mPf {G : xG} (hg : xGood G) (hxn : xn = 16) {n : Nat} (hn2 : 52 ≤ n) {dl : Nat} {pl : Nat} {vc : Nat} {tk : Nat} {hc : Nat} {sn : Nat} {y22 : Int32} {y23 : Int32} {y24 : Int32} {y36 : Int32} {y37 : Int32} {y38 : Int32} {y39 : Int32} {M0 : xM} (hn0 : M0.1 = n) {A : List xNode} {lo_ : Nat → Nat} {tx te kd ch nx lo hi_ wt cs kn : Nat → Int32} (k25 : M0.2 25 = (.inl (0, 5120, .inl tx))) (k26 : M0.2 26 = (.inl (0, 128, .inl te))) (k33 : M0.2 33 = (.inl (0, 30, .inl kd))) (k34 : M0.2 34 = (.inl (0, 30, .inl ch))) (k35 : M0.2 35 = (.inl (0, 30, .inl nx))) (k37 : M0.2 37 = (.inl (0, 30, .inl lo))) (k38 : M0.2 38 = (.inl (0, 30, .inl hi_))) (k40 : M0.2 40 = (.inl (2, 2850, .inl cs))) (k45 : M0.2 45 = (.inl (2, 32, .inl kn))) (hA26 : A.length ≤ 26) (hO : ∀ (i : Nat) (q : xNode), A[i]? = some q → pOk A lo_ i q) (hS : ∀ (i : Nat) (q : xNode), A[i]? = some q → nS kd ch nx lo hi_ wt cs i q) {sl tl : Nat} (hsl : sl < 128) (hte : te sl = nI tl) (htl : tl ≤ 40) (hA0 : 0 < A.length) {st lg lt my : Nat → Int32} {jn : Int32} (h_24 : M0.2 24 = (.inr (12, [.ref 25, .ref 26, .ref 27, .ref 28, .ref 29, .ref 30, .int (nI sn), .int (nI vc), .int (nI tk), .ref 31, .int (nI dl), .ref 32, .int (nI pl), .int (nI A.length), .ref 33, .ref 34, .ref 35, .ref 36, .ref 37, .ref 38, .ref 39, .ref 40, .int y22, .int y23, .int y24, .ref 41, .ref 42, .ref 43, .ref 44, .ref 45, .ref 46, .ref 47, .ref 48, .int jn, .ref 49, .ref 50, .int y36, .int y37, .int y38, .int y39, .int (nI hc), .ref 51]))) (k46 : M0.2 46 = .inl (0, 32, .inl st)) (k47 : M0.2 47 = .inl (0, 1536, .inl lt)) (k48 : M0.2 48 = .inl (0, 128, .inl lg)) (k49 : M0.2 49 = .inl (2, 30, .inl my)) (hkn : (∀ c, c < A.length → rKn st lg lt kn (fun c => (sLr A c).1) c)) : XC G Y14_56 (some .boolean) 4 0 0 [.ref 24, .int (nI sl)] M0 (fun v M' => v = some (.int (xB (vY A (vAl (vHas (fun j => tx (40 * sl + j)) tl)) (A.length - 1)))) ∧ ∃ (st' lg' lt' my' : Nat → Int32) (jn' : Int32), rX M0 M' st' lg' lt' my' ∧ M'.2 24 = (.inr (12, [.ref 25, .ref 26, .ref 27, .ref 28, .ref 29, .ref 30, .int (nI sn), .int (nI vc), .int (nI tk), .ref 31, .int (nI dl), .ref 32, .int (nI pl), .int (nI A.length), .ref 33, .ref 34, .ref 35, .ref 36, .ref 37, .ref 38, .ref 39, .ref 40, .int y22, .int y23, .int y24, .ref 41, .ref 42, .ref 43, .ref 44, .ref 45, .ref 46, .ref 47, .ref 48, .int jn', .ref 49, .ref 50, .int y36, .int y37, .int y38, .int y39, .int (nI hc), .ref 51])) ∧ ∀ c, c < A.length → rKn st' lg' lt' kn (fun c => (sLr A c).1) c) := by
  refine xc_of hg (by decide) (Nat.le_of_ble_eq_true rfl) (Or.inr (Or.inl ⟨rfl, rfl, fun v M' h => ⟨_, h.1, xB_01 _⟩⟩)) ?_
  refine xj_iconst (v := 0) d14_56_0 (by decide) ?_
  refine xj_istore_n (i := 2) (L' := [(2, .int 0), (0, .ref 24), (1, .int (nI sl))]) d14_56_1 rfl (by decide) rfl ?_
  refine mPfL hg hxn hn2 hn0 k25 k26 k33 k34 k35 k37 k38 k40 k45 hA26 hO hS hsl hte htl (by omega) (by omega) (by omega) (fun M5 st5 lg5 lt5 my5 jn5 hX5 h245 hkn5 hmy5 i5 => ?_) A.length 0 M0 st lg lt my jn (by omega) ⟨rfl, fun _ _ _ _ _ _ _ => rfl, k46, k47, k48, k49⟩ h_24 hkn (fun c hc => absurd hc (by omega))
  have hm5 := hX5.1
  refine xj_aload_n (i := 0) d14_56_162 rfl rfl ?_
  refine xj_get d14_56_163 f14_83_12 h245 (by omega) (show 24 < M5.1 by omega) rfl ?_
  refine xj_aload_n (i := 0) d14_56_166 rfl rfl ?_
  refine xj_get d14_56_167 f14_136_12 h245 (by omega) (show 24 < M5.1 by omega) rfl ?_
  refine xj_iconst (v := 1) d14_56_170 (by decide) ?_
  refine xj_isub (v := nI (A.length - 1)) d14_56_171 (pk_sub (b := 1) (by omega)) ?_
  refine xj_zaload (j := A.length - 1) d14_56_172 hX5.2.2.2.2.2 (by omega) (show 49 < M5.1 by omega) (vp_in_nI (by omega) (by omega)) (nI_clamp (by omega)) ?_
  rw [hmy5 _ (show A.length - 1 < A.length by omega)]
  exact xj_ret d14_56_173 (by omega) (by omega) rfl ⟨rfl, st5, lg5, lt5, my5, jn5, hX5, h245, hkn5⟩

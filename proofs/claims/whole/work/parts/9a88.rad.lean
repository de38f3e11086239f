set_option maxRecDepth 20000 in
theorem mAdA {G : xG} (hg : xGood G) (hxn : xn = 16) {n : Nat} (hn2 : 52 ≤ n) {dl : Nat} {pl : Nat} {vc : Nat} {tk : Nat} {hc : Nat} {sn : Nat} {y13 : Int32} {y22 : Int32} {y23 : Int32} {y24 : Int32} {y33 : Int32} {y36 : Int32} {y37 : Int32} {y38 : Int32} {y39 : Int32} {M0 : xM} {lt : Nat → Int32} {a s b t l y x : Nat} {u v : List Int32} {bI : Int32} (h_24 : M0.2 24 = (.inr (12, [.ref 25, .ref 26, .ref 27, .ref 28, .ref 29, .ref 30, .int (nI sn), .int (nI vc), .int (nI tk), .ref 31, .int (nI dl), .ref 32, .int (nI pl), .int y13, .ref 33, .ref 34, .ref 35, .ref 36, .ref 37, .ref 38, .ref 39, .ref 40, .int y22, .int y23, .int y24, .ref 41, .ref 42, .ref 43, .ref 44, .ref 45, .ref 46, .ref 47, .ref 48, .int y33, .ref 49, .ref 50, .int y36, .int y37, .int y38, .int y39, .int (nI hc), .ref 51]))) (ha : a < 32) (hs : s < 4) (hl : l < 32) (hy : y < 4) (hal : a ≠ l) (hu : u.length ≤ 12) (hv : u.length + v.length ≤ 12) (hb : 0 < v.length → bI = nI b ∧ b < 32 ∧ t < 4 ∧ b ≠ l) {d ce se cells slots : Nat} {Post : Option Value → xM → Prop} (K : ∀ M : xM, M.1 = n → (∀ j, j ≠ 47 → M.2 j = M0.2 j) → M.2 47 = (.inl (0, 1536, .inl (va_cpy lt lt (48 * a + 12 * s) (48 * l + 12 * y) u.length))) → XJ G Y14_47 d ce se cells slots 135 [(10, .int (nI u.length)), (9, .int (nI y)), (8, .int (nI l)), (7, .int (nI x)), (6, .int (nI v.length)), (5, .int (nI u.length)), (0, .ref 24), (1, .int (nI a)), (2, .int (nI s)), (3, .int bI), (4, .int (nI t))] [] M Post) : ∀ (r i : Nat) (M : xM), i + r = u.length → M.1 = n → (∀ j, j ≠ 47 → M.2 j = M0.2 j) → M.2 47 = (.inl (0, 1536, .inl (va_cpy lt lt (48 * a + 12 * s) (48 * l + 12 * y) i))) → XJ G Y14_47 d ce se cells slots 86 [(10, .int (nI i)), (9, .int (nI y)), (8, .int (nI l)), (7, .int (nI x)), (6, .int (nI v.length)), (5, .int (nI u.length)), (0, .ref 24), (1, .int (nI a)), (2, .int (nI s)), (3, .int bI), (4, .int (nI t))] [] M Post := by
  intro r
  induction r with
  | zero =>
    intro i M hi hm hfr hA
    have hi' : i = u.length := by omega
    subst i
    refine xj_iload (i := 10) d14_47_86 rfl ?_
    refine xj_iload (i := 5) d14_47_88 rfl ?_
    refine xj_icmp_ge (tgt := 135) d14_47_90 rfl (fun _ => ?_) (fun h => absurd (nI_le (a := u.length) (b := u.length) (by omega) (by omega)) h)
    exact K M hm hfr hA
  | succ r ih =>
    intro i M hi hm hfr hA
    refine xj_iload (i := 10) d14_47_86 rfl ?_
    refine xj_iload (i := 5) d14_47_88 rfl ?_
    refine xj_icmp_ge (tgt := 135) d14_47_90 rfl (fun h => absurd h (nI_ge (a := i) (b := u.length) (by omega) (by omega))) (fun _ => ?_)
    refine xj_aload_n (i := 0) d14_47_93 rfl rfl ?_
    refine xj_get d14_47_94 f14_77_12 ((hfr 24 (by omega)).trans h_24) (by omega) (show 24 < M.1 by omega) rfl ?_
    refine xj_bipush (v := 48) d14_47_97 (by decide) ?_
    refine xj_iload (i := 8) d14_47_99 rfl ?_
    refine xj_imul (v := nI (48 * l)) d14_47_101 (pk_mul 48 l) ?_
    refine xj_bipush (v := 12) d14_47_102 (by decide) ?_
    refine xj_iload (i := 9) d14_47_104 rfl ?_
    refine xj_imul (v := nI (12 * y)) d14_47_106 (pk_mul 12 y) ?_
    refine xj_iadd (v := nI (48 * l + (12 * y))) d14_47_107 (nI_add (48 * l) (12 * y)) ?_
    refine xj_iload (i := 10) d14_47_108 rfl ?_
    refine xj_iadd (v := nI (48 * l + (12 * y) + i)) d14_47_110 (nI_add (48 * l + (12 * y)) i) ?_
    refine xj_aload_n (i := 0) d14_47_111 rfl rfl ?_
    refine xj_get d14_47_112 f14_77_12 ((hfr 24 (by omega)).trans h_24) (by omega) (show 24 < M.1 by omega) rfl ?_
    refine xj_bipush (v := 48) d14_47_115 (by decide) ?_
    refine xj_iload_n (i := 1) d14_47_117 rfl rfl ?_
    refine xj_imul (v := nI (48 * a)) d14_47_118 (pk_mul 48 a) ?_
    refine xj_bipush (v := 12) d14_47_119 (by decide) ?_
    refine xj_iload_n (i := 2) d14_47_121 rfl rfl ?_
    refine xj_imul (v := nI (12 * s)) d14_47_122 (pk_mul 12 s) ?_
    refine xj_iadd (v := nI (48 * a + (12 * s))) d14_47_123 (nI_add (48 * a) (12 * s)) ?_
    refine xj_iload (i := 10) d14_47_124 rfl ?_
    refine xj_iadd (v := nI (48 * a + (12 * s) + i)) d14_47_126 (nI_add (48 * a + (12 * s)) i) ?_
    refine xj_iaload (j := 48 * a + (12 * s) + i) d14_47_127 hA (by omega) (show 47 < M.1 by omega) (vp_in_nI (by omega) (by omega)) (nI_clamp (by omega)) ?_
    rw [show (va_cpy lt lt (48 * a + 12 * s) (48 * l + 12 * y) i) (48 * a + (12 * s) + i) = lt (48 * a + 12 * s + i) from (by rw [va_cpy, if_neg (by omega)])]
    refine xj_iastore (j := 48 * l + (12 * y) + i) (x' := lt (48 * a + 12 * s + i)) d14_47_128 hA (by omega) (show 47 < M.1 by omega) (vp_in_nI (by omega) (by omega)) (nI_clamp (by omega)) rfl ?_
    refine xj_abs_set (fun M1 hs1 ha1 ho1 => ?_)
    refine xj_iinc (v := nI (i + 1)) (L' := [(10, .int (nI (i + 1))), (9, .int (nI y)), (8, .int (nI l)), (7, .int (nI x)), (6, .int (nI v.length)), (5, .int (nI u.length)), (0, .ref 24), (1, .int (nI a)), (2, .int (nI s)), (3, .int bI), (4, .int (nI t))]) d14_47_129 rfl (xinc _) (by decide) rfl ?_
    refine xj_goto (tgt := 86) d14_47_132 rfl ?_
    exact ih (i + 1) M1 (by omega) (by omega) (fun j hj => (ho1 j hj).trans (hfr j hj)) (by rw [← rcpy_st]; exact ha1)
set_option maxRecDepth 20000 in
theorem mAdB {G : xG} (hg : xGood G) (hxn : xn = 16) {n : Nat} (hn2 : 52 ≤ n) {dl : Nat} {pl : Nat} {vc : Nat} {tk : Nat} {hc : Nat} {sn : Nat} {y13 : Int32} {y22 : Int32} {y23 : Int32} {y24 : Int32} {y33 : Int32} {y36 : Int32} {y37 : Int32} {y38 : Int32} {y39 : Int32} {M0 : xM} {lt : Nat → Int32} {a s b t l y x : Nat} {u v : List Int32} {bI : Int32} (h_24 : M0.2 24 = (.inr (12, [.ref 25, .ref 26, .ref 27, .ref 28, .ref 29, .ref 30, .int (nI sn), .int (nI vc), .int (nI tk), .ref 31, .int (nI dl), .ref 32, .int (nI pl), .int y13, .ref 33, .ref 34, .ref 35, .ref 36, .ref 37, .ref 38, .ref 39, .ref 40, .int y22, .int y23, .int y24, .ref 41, .ref 42, .ref 43, .ref 44, .ref 45, .ref 46, .ref 47, .ref 48, .int y33, .ref 49, .ref 50, .int y36, .int y37, .int y38, .int y39, .int (nI hc), .ref 51]))) (ha : a < 32) (hs : s < 4) (hl : l < 32) (hy : y < 4) (hal : a ≠ l) (hu : u.length ≤ 12) (hv : u.length + v.length ≤ 12) (hb : 0 < v.length → bI = nI b ∧ b < 32 ∧ t < 4 ∧ b ≠ l) {d ce se cells slots : Nat} {Post : Option Value → xM → Prop} (K : ∀ M : xM, M.1 = n → (∀ j, j ≠ 47 → M.2 j = M0.2 j) → M.2 47 = (.inl (0, 1536, .inl (va_cpy (va_cpy lt lt (48 * a + 12 * s) (48 * l + 12 * y) u.length) (va_cpy lt lt (48 * a + 12 * s) (48 * l + 12 * y) u.length) (48 * b + 12 * t) (48 * l + 12 * y + u.length) v.length))) → XJ G Y14_47 d ce se cells slots 191 [(10, .int (nI v.length)), (9, .int (nI y)), (8, .int (nI l)), (7, .int (nI x)), (6, .int (nI v.length)), (5, .int (nI u.length)), (0, .ref 24), (1, .int (nI a)), (2, .int (nI s)), (3, .int bI), (4, .int (nI t))] [] M Post) : ∀ (r i : Nat) (M : xM), i + r = v.length → M.1 = n → (∀ j, j ≠ 47 → M.2 j = M0.2 j) → M.2 47 = (.inl (0, 1536, .inl (va_cpy (va_cpy lt lt (48 * a + 12 * s) (48 * l + 12 * y) u.length) (va_cpy lt lt (48 * a + 12 * s) (48 * l + 12 * y) u.length) (48 * b + 12 * t) (48 * l + 12 * y + u.length) i))) → XJ G Y14_47 d ce se cells slots 138 [(10, .int (nI i)), (9, .int (nI y)), (8, .int (nI l)), (7, .int (nI x)), (6, .int (nI v.length)), (5, .int (nI u.length)), (0, .ref 24), (1, .int (nI a)), (2, .int (nI s)), (3, .int bI), (4, .int (nI t))] [] M Post := by
  intro r
  induction r with
  | zero =>
    intro i M hi hm hfr hA
    have hi' : i = v.length := by omega
    subst i
    refine xj_iload (i := 10) d14_47_138 rfl ?_
    refine xj_iload (i := 6) d14_47_140 rfl ?_
    refine xj_icmp_ge (tgt := 191) d14_47_142 rfl (fun _ => ?_) (fun h => absurd (nI_le (a := v.length) (b := v.length) (by omega) (by omega)) h)
    exact K M hm hfr hA
  | succ r ih =>
    intro i M hi hm hfr hA
    obtain ⟨hbI, hb32, ht4, hbl⟩ := hb (by omega)
    subst hbI
    refine xj_iload (i := 10) d14_47_138 rfl ?_
    refine xj_iload (i := 6) d14_47_140 rfl ?_
    refine xj_icmp_ge (tgt := 191) d14_47_142 rfl (fun h => absurd h (nI_ge (a := i) (b := v.length) (by omega) (by omega))) (fun _ => ?_)
    refine xj_aload_n (i := 0) d14_47_145 rfl rfl ?_
    refine xj_get d14_47_146 f14_77_12 ((hfr 24 (by omega)).trans h_24) (by omega) (show 24 < M.1 by omega) rfl ?_
    refine xj_bipush (v := 48) d14_47_149 (by decide) ?_
    refine xj_iload (i := 8) d14_47_151 rfl ?_
    refine xj_imul (v := nI (48 * l)) d14_47_153 (pk_mul 48 l) ?_
    refine xj_bipush (v := 12) d14_47_154 (by decide) ?_
    refine xj_iload (i := 9) d14_47_156 rfl ?_
    refine xj_imul (v := nI (12 * y)) d14_47_158 (pk_mul 12 y) ?_
    refine xj_iadd (v := nI (48 * l + (12 * y))) d14_47_159 (nI_add (48 * l) (12 * y)) ?_
    refine xj_iload (i := 5) d14_47_160 rfl ?_
    refine xj_iadd (v := nI (48 * l + (12 * y) + u.length)) d14_47_162 (nI_add (48 * l + (12 * y)) u.length) ?_
    refine xj_iload (i := 10) d14_47_163 rfl ?_
    refine xj_iadd (v := nI (48 * l + (12 * y) + u.length + i)) d14_47_165 (nI_add (48 * l + (12 * y) + u.length) i) ?_
    refine xj_aload_n (i := 0) d14_47_166 rfl rfl ?_
    refine xj_get d14_47_167 f14_77_12 ((hfr 24 (by omega)).trans h_24) (by omega) (show 24 < M.1 by omega) rfl ?_
    refine xj_bipush (v := 48) d14_47_170 (by decide) ?_
    refine xj_iload_n (i := 3) d14_47_172 rfl rfl ?_
    refine xj_imul (v := nI (48 * b)) d14_47_173 (pk_mul 48 b) ?_
    refine xj_bipush (v := 12) d14_47_174 (by decide) ?_
    refine xj_iload (i := 4) d14_47_176 rfl ?_
    refine xj_imul (v := nI (12 * t)) d14_47_178 (pk_mul 12 t) ?_
    refine xj_iadd (v := nI (48 * b + (12 * t))) d14_47_179 (nI_add (48 * b) (12 * t)) ?_
    refine xj_iload (i := 10) d14_47_180 rfl ?_
    refine xj_iadd (v := nI (48 * b + (12 * t) + i)) d14_47_182 (nI_add (48 * b + (12 * t)) i) ?_
    refine xj_iaload (j := 48 * b + (12 * t) + i) d14_47_183 hA (by omega) (show 47 < M.1 by omega) (vp_in_nI (by omega) (by omega)) (nI_clamp (by omega)) ?_
    rw [show (va_cpy (va_cpy lt lt (48 * a + 12 * s) (48 * l + 12 * y) u.length) (va_cpy lt lt (48 * a + 12 * s) (48 * l + 12 * y) u.length) (48 * b + 12 * t) (48 * l + 12 * y + u.length) i) (48 * b + (12 * t) + i) = (va_cpy lt lt (48 * a + 12 * s) (48 * l + 12 * y) u.length) (48 * b + 12 * t + i) from (by rw [va_cpy, if_neg (by omega)])]
    refine xj_iastore (j := 48 * l + (12 * y) + u.length + i) (x' := (va_cpy lt lt (48 * a + 12 * s) (48 * l + 12 * y) u.length) (48 * b + 12 * t + i)) d14_47_184 hA (by omega) (show 47 < M.1 by omega) (vp_in_nI (by omega) (by omega)) (nI_clamp (by omega)) rfl ?_
    refine xj_abs_set (fun M1 hs1 ha1 ho1 => ?_)
    refine xj_iinc (v := nI (i + 1)) (L' := [(10, .int (nI (i + 1))), (9, .int (nI y)), (8, .int (nI l)), (7, .int (nI x)), (6, .int (nI v.length)), (5, .int (nI u.length)), (0, .ref 24), (1, .int (nI a)), (2, .int (nI s)), (3, .int (nI b)), (4, .int (nI t))]) d14_47_185 rfl (xinc _) (by decide) rfl ?_
    refine xj_goto (tgt := 138) d14_47_188 rfl ?_
    exact ih (i + 1) M1 (by omega) (by omega) (fun j hj => (ho1 j hj).trans (hfr j hj)) (by rw [← rcpy_st]; exact ha1)
set_option maxRecDepth 20000 in
theorem mAdC {G : xG} (hg : xGood G) (hxn : xn = 16) {n : Nat} (hn2 : 52 ≤ n) {dl : Nat} {pl : Nat} {vc : Nat} {tk : Nat} {hc : Nat} {sn : Nat} {y13 : Int32} {y22 : Int32} {y23 : Int32} {y24 : Int32} {y33 : Int32} {y36 : Int32} {y37 : Int32} {y38 : Int32} {y39 : Int32} {M : xM} (hn : M.1 = n) {st lg lt : Nat → Int32} {l y : Nat} {S : List (List Int32)} {w : List Int32} {m1 m2 m3 m4 m5 m6 : Int32} (h_24 : M.2 24 = (.inr (12, [.ref 25, .ref 26, .ref 27, .ref 28, .ref 29, .ref 30, .int (nI sn), .int (nI vc), .int (nI tk), .ref 31, .int (nI dl), .ref 32, .int (nI pl), .int y13, .ref 33, .ref 34, .ref 35, .ref 36, .ref 37, .ref 38, .ref 39, .ref 40, .int y22, .int y23, .int y24, .ref 41, .ref 42, .ref 43, .ref 44, .ref 45, .ref 46, .ref 47, .ref 48, .int y33, .ref 49, .ref 50, .int y36, .int y37, .int y38, .int y39, .int (nI hc), .ref 51]))) (k46 : M.2 46 = .inl (0, 32, .inl st)) (k47 : M.2 47 = .inl (0, 1536, .inl lt)) (k48 : M.2 48 = .inl (0, 128, .inl lg)) (hl : l < 32) (hy : y < 4) (hS4 : S.length ≤ 4) (hS : ∀ (k : Nat) (s : List Int32), S[k]? = some s → rS lg lt 31 k s) (hw : rS lg lt l y w) {d ce se cells slots : Nat} {Post : Option Value → xM → Prop} (hd : 1 ≤ d) (hcc : cells ≤ ce) (hss : slots ≤ se) : ∀ r i : Nat, i + r = S.length → (∀ j, j < i → ¬ S[j]? = some w) → (w ∈ S → Post (some (.int 1)) M) → (¬ w ∈ S → XJ G Y14_47 d ce se cells slots 241 [(10, .int (nI S.length)), (9, .int (nI y)), (8, .int (nI l)), (7, .int (nI S.length)), (6, .int m6), (5, .int m5), (0, .ref 24), (1, .int m1), (2, .int m2), (3, .int m3), (4, .int m4)] [] M Post) → XJ G Y14_47 d ce se cells slots 211 [(10, .int (nI i)), (9, .int (nI y)), (8, .int (nI l)), (7, .int (nI S.length)), (6, .int m6), (5, .int m5), (0, .ref 24), (1, .int m1), (2, .int m2), (3, .int m3), (4, .int m4)] [] M Post := by
  intro r
  induction r with
  | zero =>
    intro i hi hno K1 K2
    replace K2 : ¬ w ∈ S → XJ G Y14_47 d ce se cells slots 241 [(10, .int (nI i)), (9, .int (nI y)), (8, .int (nI l)), (7, .int (nI S.length)), (6, .int m6), (5, .int m5), (0, .ref 24), (1, .int m1), (2, .int m2), (3, .int m3), (4, .int m4)] [] M Post := fun q => by
      have := K2 q
      rw [show i = S.length by omega]
      exact this
    refine xj_iload (i := 10) d14_47_211 rfl ?_
    refine xj_iload (i := 7) d14_47_213 rfl ?_
    refine xj_icmp_ge (tgt := 241) d14_47_215 rfl (fun _ => ?_) (fun h => absurd (nI_le (a := S.length) (b := i) (by omega) (by omega)) h)
    exact K2 (fun q => by obtain ⟨j, hj⟩ := List.getElem?_of_mem q; exact hno j (by have := (List.getElem?_eq_some_iff.mp hj).1; omega) hj)
  | succ r ih =>
    intro i hi hno K1 K2
    obtain ⟨s9, hs9⟩ : ∃ s9, S[i]? = some s9 := ⟨_, List.getElem?_eq_getElem (show i < S.length by omega)⟩
    have hSm := mSame hg hxn hn2 hn h_24 k46 k47 k48 (by omega) (show i < 4 by omega) hl hy (hS i s9 hs9) hw
    by_cases hw9 : s9 = w
    · skip
      refine xj_iload (i := 10) d14_47_211 rfl ?_
      refine xj_iload (i := 7) d14_47_213 rfl ?_
      refine xj_icmp_ge (tgt := 241) d14_47_215 rfl (fun h => absurd h (nI_ge (a := i) (b := S.length) (by omega) (by omega))) (fun _ => ?_)
      refine xj_aload_n (i := 0) d14_47_218 rfl rfl ?_
      refine xj_bipush (v := 31) d14_47_219 (by decide) ?_
      refine xj_iload (i := 10) d14_47_221 rfl ?_
      refine xj_iload (i := 8) d14_47_223 rfl ?_
      refine xj_iload (i := 9) d14_47_225 rfl ?_
      refine xj_callV (rest := []) (As := [.int 31, .int (nI i), .int (nI l), .int (nI y)]) (b := 24) hSm d14_47_227 wd14_46 h_24 (by omega) (show 24 < M.1 by omega) rfl s14_46 w1314 (Or.inl w1312) rfl rfl (Nat.le_of_ble_eq_true rfl) (by omega) (by omega) (by omega) ?_
      rintro v9 M' ⟨rfl, hm9⟩
      subst M'
      refine xj_if_eq (tgt := 235) d14_47_230 rfl (fun h => absurd h (show ¬ xB (s9 = w) = 0 by rw [xB_t hw9]; decide)) (fun _ => ?_)
      refine xj_iconst (v := 1) d14_47_233 (by decide) ?_
      exact xj_ret d14_47_234 hcc hss rfl (K1 (by rw [← hw9]; exact List.mem_of_getElem? hs9))
    · skip
      refine xj_iload (i := 10) d14_47_211 rfl ?_
      refine xj_iload (i := 7) d14_47_213 rfl ?_
      refine xj_icmp_ge (tgt := 241) d14_47_215 rfl (fun h => absurd h (nI_ge (a := i) (b := S.length) (by omega) (by omega))) (fun _ => ?_)
      refine xj_aload_n (i := 0) d14_47_218 rfl rfl ?_
      refine xj_bipush (v := 31) d14_47_219 (by decide) ?_
      refine xj_iload (i := 10) d14_47_221 rfl ?_
      refine xj_iload (i := 8) d14_47_223 rfl ?_
      refine xj_iload (i := 9) d14_47_225 rfl ?_
      refine xj_callV (rest := []) (As := [.int 31, .int (nI i), .int (nI l), .int (nI y)]) (b := 24) hSm d14_47_227 wd14_46 h_24 (by omega) (show 24 < M.1 by omega) rfl s14_46 w1314 (Or.inl w1312) rfl rfl (Nat.le_of_ble_eq_true rfl) (by omega) (by omega) (by omega) ?_
      rintro v9 M' ⟨rfl, hm9⟩
      subst M'
      refine xj_if_eq (tgt := 235) d14_47_230 rfl (fun _ => ?_) (fun h => absurd (xB_f hw9) h)
      refine xj_iinc (v := nI (i + 1)) (L' := [(10, .int (nI (i + 1))), (9, .int (nI y)), (8, .int (nI l)), (7, .int (nI S.length)), (6, .int m6), (5, .int m5), (0, .ref 24), (1, .int m1), (2, .int m2), (3, .int m3), (4, .int m4)]) d14_47_235 rfl (xinc _) (by decide) rfl ?_
      refine xj_goto (tgt := 211) d14_47_238 rfl ?_
      exact ih (i + 1) (by omega) (fun j hj => if z : j = i then by rw [z, hs9]; exact fun q => hw9 (Option.some.inj q) else hno j (by omega)) K1 K2
set_option maxRecDepth 20000 in
theorem mAd1 {G : xG} (hg : xGood G) (hxn : xn = 16) {n : Nat} (hn2 : 52 ≤ n) {dl : Nat} {pl : Nat} {vc : Nat} {tk : Nat} {hc : Nat} {sn : Nat} {y13 : Int32} {y22 : Int32} {y23 : Int32} {y24 : Int32} {y33 : Int32} {y36 : Int32} {y37 : Int32} {y38 : Int32} {y39 : Int32} {M : xM} (hn : M.1 = n) {st lg lt : Nat → Int32} {a s b t : Nat} {S : List (List Int32)} {u v : List Int32} {bI : Int32} (h_24 : M.2 24 = (.inr (12, [.ref 25, .ref 26, .ref 27, .ref 28, .ref 29, .ref 30, .int (nI sn), .int (nI vc), .int (nI tk), .ref 31, .int (nI dl), .ref 32, .int (nI pl), .int y13, .ref 33, .ref 34, .ref 35, .ref 36, .ref 37, .ref 38, .ref 39, .ref 40, .int y22, .int y23, .int y24, .ref 41, .ref 42, .ref 43, .ref 44, .ref 45, .ref 46, .ref 47, .ref 48, .int y33, .ref 49, .ref 50, .int y36, .int y37, .int y38, .int y39, .int (nI hc), .ref 51]))) (k46 : M.2 46 = .inl (0, 32, .inl st)) (k47 : M.2 47 = .inl (0, 1536, .inl lt)) (k48 : M.2 48 = .inl (0, 128, .inl lg)) (hL : rL st lg lt 31 S) (ha : a < 32) (ha1 : a ≠ 31) (ha2 : a ≠ 29) (hs : s < 4) (hu : rS lg lt a s u) (hv : (bI = -1 ∧ v = []) ∨ (bI = nI b ∧ b < 32 ∧ b ≠ 31 ∧ b ≠ 29 ∧ t < 4 ∧ rS lg lt b t v)) {d ce se cells slots : Nat} (hd : 1 ≤ d) (hcc : cells ≤ ce) (hss : slots ≤ se) : XJ G Y14_47 d ce se cells slots 33 [(6, .int (nI v.length)), (5, .int (nI u.length)), (0, .ref 24), (1, .int (nI a)), (2, .int (nI s)), (3, .int bI), (4, .int (nI t))] [] M (fun v9 M' => ∃ st' lg' lt', rT M M' st' lg' lt' ∧ (∀ m, m ≠ 31 → m ≠ 29 → rSame st lg lt st' lg' lt' m) ∧ ((sAdd S (u ++ v) = none ∧ v9 = some (.int 0)) ∨ ∃ T, sAdd S (u ++ v) = some T ∧ v9 = some (.int 1) ∧ rL st' lg' lt' 31 T)) := by
  have hl4 := hL.2.1
  have hu12 := hu.1
  have hv12 : v.length ≤ 12 := by
    rcases hv with ⟨-, q⟩ | ⟨-, -, -, -, -, q⟩
    · rw [q]
      decide
    · exact q.1
  by_cases h12 : u.length + v.length ≤ 12
  · have hvv : ∀ {l : Nat}, l = 31 ∨ l = 29 → v = [] ∨ (rS lg lt b t v ∧ b ≠ l ∧ t < 4) := fun {l} hl => by
      rcases hv with ⟨-, q⟩ | ⟨-, q1, q2, q3, q4, q⟩
      · exact Or.inl q
      · exact Or.inr ⟨q, by omega, q4⟩
    have hbb : ∀ {l : Nat}, l = 31 ∨ l = 29 → 0 < v.length → bI = nI b ∧ b < 32 ∧ t < 4 ∧ b ≠ l := fun {l} hl h0 => by
      rcases hv with ⟨-, q⟩ | ⟨q0, q1, q2, q3, q4, q⟩
      · rw [q] at h0
        exact absurd h0 (by decide)
      · exact ⟨q0, q1, q4, by omega⟩
    by_cases h4 : S.length < 4
    · replace hvv := hvv (l := 31) (Or.inl rfl)
      replace hbb := hbb (l := 31) (Or.inl rfl)
      refine xj_iload (i := 5) d14_47_33 rfl ?_
      refine xj_iload (i := 6) d14_47_35 rfl ?_
      refine xj_iadd (v := nI (u.length + v.length)) d14_47_37 (nI_add u.length v.length) ?_
      refine xj_bipush (v := 12) d14_47_38 (by decide) ?_
      refine xj_icmp_le (tgt := 45) d14_47_40 rfl (fun _ => ?_) (fun h => absurd (nI_le (a := u.length + v.length) (b := 12) (by omega) (by omega)) h)
      refine xj_aload_n (i := 0) d14_47_45 rfl rfl ?_
      refine xj_get d14_47_46 f14_74_12 h_24 (by omega) (show 24 < M.1 by omega) rfl ?_
      refine xj_bipush (v := 31) d14_47_49 (by decide) ?_
      refine xj_iaload (j := 31) d14_47_51 k46 (by omega) (show 46 < M.1 by omega) (vp_in_iff.mpr (by decide)) (by decide) ?_
      rw [show st 31 = nI S.length from hL.1]
      refine xj_istore (i := 7) (L' := [(7, .int (nI S.length)), (6, .int (nI v.length)), (5, .int (nI u.length)), (0, .ref 24), (1, .int (nI a)), (2, .int (nI s)), (3, .int bI), (4, .int (nI t))]) d14_47_52 (by decide) rfl ?_
      refine xj_iload (i := 7) d14_47_54 rfl ?_
      refine xj_iconst (v := 4) d14_47_56 (by decide) ?_
      refine xj_icmp_ge (tgt := 65) d14_47_57 rfl (fun h => absurd h (nI_ge (a := S.length) (b := 4) (by omega) (by omega))) (fun _ => ?_)
      refine xj_bipush (v := 31) d14_47_60 (by decide) ?_
      refine xj_goto (tgt := 67) d14_47_62 rfl ?_
      refine xj_istore (i := 8) (L' := [(8, .int 31), (7, .int (nI S.length)), (6, .int (nI v.length)), (5, .int (nI u.length)), (0, .ref 24), (1, .int (nI a)), (2, .int (nI s)), (3, .int bI), (4, .int (nI t))]) d14_47_67 (by decide) rfl ?_
      refine xj_iload (i := 7) d14_47_69 rfl ?_
      refine xj_iconst (v := 4) d14_47_71 (by decide) ?_
      refine xj_icmp_ge (tgt := 80) d14_47_72 rfl (fun h => absurd h (nI_ge (a := S.length) (b := 4) (by omega) (by omega))) (fun _ => ?_)
      refine xj_iload (i := 7) d14_47_75 rfl ?_
      refine xj_goto (tgt := 81) d14_47_77 rfl ?_
      refine xj_istore (i := 9) (L' := [(9, .int (nI S.length)), (8, .int 31), (7, .int (nI S.length)), (6, .int (nI v.length)), (5, .int (nI u.length)), (0, .ref 24), (1, .int (nI a)), (2, .int (nI s)), (3, .int bI), (4, .int (nI t))]) d14_47_81 (by decide) rfl ?_
      refine xj_iconst (v := 0) d14_47_83 (by decide) ?_
      refine xj_istore (i := 10) (L' := [(10, .int 0), (9, .int (nI S.length)), (8, .int 31), (7, .int (nI S.length)), (6, .int (nI v.length)), (5, .int (nI u.length)), (0, .ref 24), (1, .int (nI a)), (2, .int (nI s)), (3, .int bI), (4, .int (nI t))]) d14_47_84 (by decide) rfl ?_
      refine mAdA hg hxn hn2 (M0 := M) (lt := lt) (l := 31) (y := S.length) (b := b) (v := v) h_24 ha hs (by omega) (by omega) (by omega) hu.1 (by omega) hbb (fun M5 hs5 ho5 ha5 => ?_) u.length 0 M (by omega) hn (fun j _ => rfl) (by rw [rcpy_0]; exact k47)
      refine xj_iconst (v := 0) d14_47_135 (by decide) ?_
      refine xj_istore (i := 10) (L' := [(10, .int 0), (9, .int (nI S.length)), (8, .int (nI 31)), (7, .int (nI S.length)), (6, .int (nI v.length)), (5, .int (nI u.length)), (0, .ref 24), (1, .int (nI a)), (2, .int (nI s)), (3, .int bI), (4, .int (nI t))]) d14_47_136 (by decide) rfl ?_
      refine mAdB hg hxn hn2 (M0 := M5) (lt := lt) (l := 31) (y := S.length) (b := b) (v := v) ((ho5 24 (by omega)).trans h_24) ha hs (by omega) (by omega) (by omega) hu.1 (by omega) hbb (fun M6 hs6 ho6 ha6 => ?_) v.length 0 M5 (by omega) (by omega) (fun j _ => rfl) (by rw [rcpy_0]; exact ha5)
      refine xj_aload_n (i := 0) d14_47_191 rfl rfl ?_
      refine xj_get d14_47_192 f14_80_12 ((ho6 24 (by omega)).trans ((ho5 24 (by omega)).trans h_24)) (by omega) (show 24 < M6.1 by omega) rfl ?_
      refine xj_iconst (v := 4) d14_47_195 (by decide) ?_
      refine xj_iload (i := 8) d14_47_196 rfl ?_
      refine xj_imul (v := nI (4 * 31)) d14_47_198 (pk_mul 4 31) ?_
      refine xj_iload (i := 9) d14_47_199 rfl ?_
      refine xj_iadd (v := nI (4 * 31 + S.length)) d14_47_201 (nI_add (4 * 31) S.length) ?_
      refine xj_iload (i := 5) d14_47_202 rfl ?_
      refine xj_iload (i := 6) d14_47_204 rfl ?_
      refine xj_iadd (v := nI (u.length + v.length)) d14_47_206 (nI_add u.length v.length) ?_
      refine xj_iastore (j := 4 * 31 + S.length) (x' := nI (u.length + v.length)) d14_47_207 ((ho6 48 (by omega)).trans ((ho5 48 (by omega)).trans k48)) (by omega) (show 48 < M6.1 by omega) (vp_in_nI (by omega) (by omega)) (nI_clamp (by omega)) rfl ?_
      refine xj_abs_set (fun M1 hs1 ha1 ho1 => ?_)
      refine xj_iconst (v := 0) d14_47_208 (by decide) ?_
      refine xj_istore (i := 10) (L' := [(10, .int 0), (9, .int (nI S.length)), (8, .int (nI 31)), (7, .int (nI S.length)), (6, .int (nI v.length)), (5, .int (nI u.length)), (0, .ref 24), (1, .int (nI a)), (2, .int (nI s)), (3, .int bI), (4, .int (nI t))]) d14_47_209 (by decide) rfl ?_
      have hT7 : rT M M1 st (upd lg (4 * 31 + S.length) (nI (u.length + v.length))) (va_cpy (va_cpy lt lt (48 * a + 12 * s) (48 * 31 + 12 * S.length) u.length) (va_cpy lt lt (48 * a + 12 * s) (48 * 31 + 12 * S.length) u.length) (48 * b + 12 * t) (48 * 31 + 12 * S.length + u.length) v.length) := ⟨(show M1.1 = M.1 by omega), (fun j hj a b c => ((ho1 j (by omega)).trans ((ho6 j (by omega)).trans (ho5 j (by omega))))), ((ho1 46 (by omega)).trans ((ho6 46 (by omega)).trans ((ho5 46 (by omega)).trans k46))), ((ho1 47 (by omega)).trans ha6), ha1⟩
      have hR7 : ∀ (k : Nat) (w : List Int32), S[k]? = some w → rS (upd lg (4 * 31 + S.length) (nI (u.length + v.length))) (va_cpy (va_cpy lt lt (48 * a + 12 * s) (48 * 31 + 12 * S.length) u.length) (va_cpy lt lt (48 * a + 12 * s) (48 * 31 + 12 * S.length) u.length) (48 * b + 12 * t) (48 * 31 + 12 * S.length + u.length) v.length) 31 k w := fun k w hk => rwr_o (hL.2.2 k w hk) (by have := (List.getElem?_eq_some_iff.mp hk).1; omega) (by have := (List.getElem?_eq_some_iff.mp hk).1; omega) (by omega) (by omega)
      have hW7 : rS (upd lg (4 * 31 + S.length) (nI (u.length + v.length))) (va_cpy (va_cpy lt lt (48 * a + 12 * s) (48 * 31 + 12 * S.length) u.length) (va_cpy lt lt (48 * a + 12 * s) (48 * 31 + 12 * S.length) u.length) (48 * b + 12 * t) (48 * 31 + 12 * S.length + u.length) v.length) 31 S.length (u ++ v) := rwr hu hvv (by omega) hs (by omega) (by omega)
      refine mAdC hg hxn hn2 (show M1.1 = n by omega) (l := 31) (y := S.length) (S := S) (w := u ++ v) ((ho1 24 (by omega)).trans ((ho6 24 (by omega)).trans ((ho5 24 (by omega)).trans h_24))) hT7.2.2.1 hT7.2.2.2.1 hT7.2.2.2.2 (by omega) (by omega) hl4 hR7 hW7 (by omega) (by omega) (by omega) S.length 0 (by omega) (fun j hj => absurd hj (by omega)) (fun hin => ?_) (fun hin => ?_)
      · exact ⟨_, _, _, hT7, fun m h1 h2 => rwr_m0 (by omega) (by omega) (by omega), Or.inr ⟨S, (if_neg (by rw [List.length_append]; omega)).trans (if_pos hin), rfl, hL.1, hl4, hR7⟩⟩
      · skip
        refine xj_aload_n (i := 0) d14_47_241 rfl rfl ?_
        refine xj_get d14_47_242 f14_74_12 ((ho1 24 (by omega)).trans ((ho6 24 (by omega)).trans ((ho5 24 (by omega)).trans h_24))) (by omega) (show 24 < M1.1 by omega) rfl ?_
        refine xj_bipush (v := 31) d14_47_245 (by decide) ?_
        refine xj_iload (i := 7) d14_47_247 rfl ?_
        refine xj_iconst (v := 4) d14_47_249 (by decide) ?_
        refine xj_icmp_ge (tgt := 260) d14_47_250 rfl (fun h => absurd h (nI_ge (a := S.length) (b := 4) (by omega) (by omega))) (fun _ => ?_)
        refine xj_iload (i := 7) d14_47_253 rfl ?_
        refine xj_iconst (v := 1) d14_47_255 (by decide) ?_
        refine xj_iadd (v := nI (S.length + 1)) d14_47_256 (nI_1 _) ?_
        refine xj_goto (tgt := 262) d14_47_257 rfl ?_
        refine xj_iastore (j := 31) (x' := nI (S.length + 1)) d14_47_262 ((ho1 46 (by omega)).trans ((ho6 46 (by omega)).trans ((ho5 46 (by omega)).trans k46))) (by omega) (show 46 < M1.1 by omega) (vp_in_iff.mpr (by decide)) (by decide) rfl ?_
        refine xj_abs_set (fun M2 hs2 ha2 ho2 => ?_)
        refine xj_iload (i := 7) d14_47_263 rfl ?_
        refine xj_iconst (v := 4) d14_47_265 (by decide) ?_
        refine xj_icmp_ge (tgt := 273) d14_47_266 rfl (fun h => absurd h (nI_ge (a := S.length) (b := 4) (by omega) (by omega))) (fun _ => ?_)
        refine xj_iconst (v := 1) d14_47_269 (by decide) ?_
        refine xj_goto (tgt := 274) d14_47_270 rfl ?_
        refine xj_ret d14_47_274 (by omega) (by omega) rfl ⟨upd st 31 (nI (S.length + 1)), _, _, ⟨(show M2.1 = M.1 by omega), (fun j hj a b c => ((ho2 j (by omega)).trans ((ho1 j (by omega)).trans ((ho6 j (by omega)).trans (ho5 j (by omega)))))), ha2, ((ho2 47 (by omega)).trans ((ho1 47 (by omega)).trans ha6)), ((ho2 48 (by omega)).trans ha1)⟩, fun m h1 h2 => rwr_m (by omega) (by omega) (by omega) (by omega), Or.inr ⟨S ++ [u ++ v], (if_neg (by rw [List.length_append]; omega)).trans ((if_neg hin).trans (if_neg (by omega))), rfl, by rw [List.length_append, List.length_singleton]; exact if_pos rfl, by rw [List.length_append, List.length_singleton]; omega, fun k w hk => ?_⟩⟩
        by_cases hk9 : k < S.length
        · rw [List.getElem?_append_left hk9] at hk
          exact hR7 k w hk
        · have hh := (List.getElem?_eq_some_iff.mp hk).1
          rw [List.length_append, List.length_singleton] at hh
          have hk8 : k = S.length := by omega
          rw [hk8, List.getElem?_append_right (Nat.le_refl _), Nat.sub_self] at hk
          have hw' : u ++ v = w := Option.some.inj hk
          rw [hk8, ← hw']
          exact hW7
    · have hS4 : S.length = 4 := by omega
      replace hvv := hvv (l := 29) (Or.inr rfl)
      replace hbb := hbb (l := 29) (Or.inr rfl)
      refine xj_iload (i := 5) d14_47_33 rfl ?_
      refine xj_iload (i := 6) d14_47_35 rfl ?_
      refine xj_iadd (v := nI (u.length + v.length)) d14_47_37 (nI_add u.length v.length) ?_
      refine xj_bipush (v := 12) d14_47_38 (by decide) ?_
      refine xj_icmp_le (tgt := 45) d14_47_40 rfl (fun _ => ?_) (fun h => absurd (nI_le (a := u.length + v.length) (b := 12) (by omega) (by omega)) h)
      refine xj_aload_n (i := 0) d14_47_45 rfl rfl ?_
      refine xj_get d14_47_46 f14_74_12 h_24 (by omega) (show 24 < M.1 by omega) rfl ?_
      refine xj_bipush (v := 31) d14_47_49 (by decide) ?_
      refine xj_iaload (j := 31) d14_47_51 k46 (by omega) (show 46 < M.1 by omega) (vp_in_iff.mpr (by decide)) (by decide) ?_
      rw [show st 31 = nI S.length from hL.1]
      refine xj_istore (i := 7) (L' := [(7, .int (nI S.length)), (6, .int (nI v.length)), (5, .int (nI u.length)), (0, .ref 24), (1, .int (nI a)), (2, .int (nI s)), (3, .int bI), (4, .int (nI t))]) d14_47_52 (by decide) rfl ?_
      refine xj_iload (i := 7) d14_47_54 rfl ?_
      refine xj_iconst (v := 4) d14_47_56 (by decide) ?_
      refine xj_icmp_ge (tgt := 65) d14_47_57 rfl (fun _ => ?_) (fun h => absurd (nI_le (a := 4) (b := S.length) (by omega) (by omega)) h)
      refine xj_bipush (v := 29) d14_47_65 (by decide) ?_
      refine xj_istore (i := 8) (L' := [(8, .int 29), (7, .int (nI S.length)), (6, .int (nI v.length)), (5, .int (nI u.length)), (0, .ref 24), (1, .int (nI a)), (2, .int (nI s)), (3, .int bI), (4, .int (nI t))]) d14_47_67 (by decide) rfl ?_
      refine xj_iload (i := 7) d14_47_69 rfl ?_
      refine xj_iconst (v := 4) d14_47_71 (by decide) ?_
      refine xj_icmp_ge (tgt := 80) d14_47_72 rfl (fun _ => ?_) (fun h => absurd (nI_le (a := 4) (b := S.length) (by omega) (by omega)) h)
      refine xj_iconst (v := 0) d14_47_80 (by decide) ?_
      refine xj_istore (i := 9) (L' := [(9, .int 0), (8, .int 29), (7, .int (nI S.length)), (6, .int (nI v.length)), (5, .int (nI u.length)), (0, .ref 24), (1, .int (nI a)), (2, .int (nI s)), (3, .int bI), (4, .int (nI t))]) d14_47_81 (by decide) rfl ?_
      refine xj_iconst (v := 0) d14_47_83 (by decide) ?_
      refine xj_istore (i := 10) (L' := [(10, .int 0), (9, .int 0), (8, .int 29), (7, .int (nI S.length)), (6, .int (nI v.length)), (5, .int (nI u.length)), (0, .ref 24), (1, .int (nI a)), (2, .int (nI s)), (3, .int bI), (4, .int (nI t))]) d14_47_84 (by decide) rfl ?_
      refine mAdA hg hxn hn2 (M0 := M) (lt := lt) (l := 29) (y := 0) (b := b) (v := v) h_24 ha hs (by omega) (by omega) (by omega) hu.1 (by omega) hbb (fun M5 hs5 ho5 ha5 => ?_) u.length 0 M (by omega) hn (fun j _ => rfl) (by rw [rcpy_0]; exact k47)
      refine xj_iconst (v := 0) d14_47_135 (by decide) ?_
      refine xj_istore (i := 10) (L' := [(10, .int 0), (9, .int (nI 0)), (8, .int (nI 29)), (7, .int (nI S.length)), (6, .int (nI v.length)), (5, .int (nI u.length)), (0, .ref 24), (1, .int (nI a)), (2, .int (nI s)), (3, .int bI), (4, .int (nI t))]) d14_47_136 (by decide) rfl ?_
      refine mAdB hg hxn hn2 (M0 := M5) (lt := lt) (l := 29) (y := 0) (b := b) (v := v) ((ho5 24 (by omega)).trans h_24) ha hs (by omega) (by omega) (by omega) hu.1 (by omega) hbb (fun M6 hs6 ho6 ha6 => ?_) v.length 0 M5 (by omega) (by omega) (fun j _ => rfl) (by rw [rcpy_0]; exact ha5)
      refine xj_aload_n (i := 0) d14_47_191 rfl rfl ?_
      refine xj_get d14_47_192 f14_80_12 ((ho6 24 (by omega)).trans ((ho5 24 (by omega)).trans h_24)) (by omega) (show 24 < M6.1 by omega) rfl ?_
      refine xj_iconst (v := 4) d14_47_195 (by decide) ?_
      refine xj_iload (i := 8) d14_47_196 rfl ?_
      refine xj_imul (v := nI (4 * 29)) d14_47_198 (pk_mul 4 29) ?_
      refine xj_iload (i := 9) d14_47_199 rfl ?_
      refine xj_iadd (v := nI (4 * 29 + 0)) d14_47_201 (nI_add (4 * 29) 0) ?_
      refine xj_iload (i := 5) d14_47_202 rfl ?_
      refine xj_iload (i := 6) d14_47_204 rfl ?_
      refine xj_iadd (v := nI (u.length + v.length)) d14_47_206 (nI_add u.length v.length) ?_
      refine xj_iastore (j := 4 * 29 + 0) (x' := nI (u.length + v.length)) d14_47_207 ((ho6 48 (by omega)).trans ((ho5 48 (by omega)).trans k48)) (by omega) (show 48 < M6.1 by omega) (vp_in_nI (by omega) (by omega)) (nI_clamp (by omega)) rfl ?_
      refine xj_abs_set (fun M1 hs1 ha1 ho1 => ?_)
      refine xj_iconst (v := 0) d14_47_208 (by decide) ?_
      refine xj_istore (i := 10) (L' := [(10, .int 0), (9, .int (nI 0)), (8, .int (nI 29)), (7, .int (nI S.length)), (6, .int (nI v.length)), (5, .int (nI u.length)), (0, .ref 24), (1, .int (nI a)), (2, .int (nI s)), (3, .int bI), (4, .int (nI t))]) d14_47_209 (by decide) rfl ?_
      have hT7 : rT M M1 st (upd lg (4 * 29 + 0) (nI (u.length + v.length))) (va_cpy (va_cpy lt lt (48 * a + 12 * s) (48 * 29 + 12 * 0) u.length) (va_cpy lt lt (48 * a + 12 * s) (48 * 29 + 12 * 0) u.length) (48 * b + 12 * t) (48 * 29 + 12 * 0 + u.length) v.length) := ⟨(show M1.1 = M.1 by omega), (fun j hj a b c => ((ho1 j (by omega)).trans ((ho6 j (by omega)).trans (ho5 j (by omega))))), ((ho1 46 (by omega)).trans ((ho6 46 (by omega)).trans ((ho5 46 (by omega)).trans k46))), ((ho1 47 (by omega)).trans ha6), ha1⟩
      have hR7 : ∀ (k : Nat) (w : List Int32), S[k]? = some w → rS (upd lg (4 * 29 + 0) (nI (u.length + v.length))) (va_cpy (va_cpy lt lt (48 * a + 12 * s) (48 * 29 + 12 * 0) u.length) (va_cpy lt lt (48 * a + 12 * s) (48 * 29 + 12 * 0) u.length) (48 * b + 12 * t) (48 * 29 + 12 * 0 + u.length) v.length) 31 k w := fun k w hk => rwr_o (hL.2.2 k w hk) (by have := (List.getElem?_eq_some_iff.mp hk).1; omega) (by have := (List.getElem?_eq_some_iff.mp hk).1; omega) (by omega) (by omega)
      have hW7 : rS (upd lg (4 * 29 + 0) (nI (u.length + v.length))) (va_cpy (va_cpy lt lt (48 * a + 12 * s) (48 * 29 + 12 * 0) u.length) (va_cpy lt lt (48 * a + 12 * s) (48 * 29 + 12 * 0) u.length) (48 * b + 12 * t) (48 * 29 + 12 * 0 + u.length) v.length) 29 0 (u ++ v) := rwr hu hvv (by omega) hs (by omega) (by omega)
      refine mAdC hg hxn hn2 (show M1.1 = n by omega) (l := 29) (y := 0) (S := S) (w := u ++ v) ((ho1 24 (by omega)).trans ((ho6 24 (by omega)).trans ((ho5 24 (by omega)).trans h_24))) hT7.2.2.1 hT7.2.2.2.1 hT7.2.2.2.2 (by omega) (by omega) hl4 hR7 hW7 (by omega) (by omega) (by omega) S.length 0 (by omega) (fun j hj => absurd hj (by omega)) (fun hin => ?_) (fun hin => ?_)
      · exact ⟨_, _, _, hT7, fun m h1 h2 => rwr_m0 (by omega) (by omega) (by omega), Or.inr ⟨S, (if_neg (by rw [List.length_append]; omega)).trans (if_pos hin), rfl, hL.1, hl4, hR7⟩⟩
      · skip
        refine xj_aload_n (i := 0) d14_47_241 rfl rfl ?_
        refine xj_get d14_47_242 f14_74_12 ((ho1 24 (by omega)).trans ((ho6 24 (by omega)).trans ((ho5 24 (by omega)).trans h_24))) (by omega) (show 24 < M1.1 by omega) rfl ?_
        refine xj_bipush (v := 31) d14_47_245 (by decide) ?_
        refine xj_iload (i := 7) d14_47_247 rfl ?_
        refine xj_iconst (v := 4) d14_47_249 (by decide) ?_
        refine xj_icmp_ge (tgt := 260) d14_47_250 rfl (fun _ => ?_) (fun h => absurd (nI_le (a := 4) (b := S.length) (by omega) (by omega)) h)
        refine xj_iload (i := 7) d14_47_260 rfl ?_
        refine xj_iastore (j := 31) (x' := nI S.length) d14_47_262 ((ho1 46 (by omega)).trans ((ho6 46 (by omega)).trans ((ho5 46 (by omega)).trans k46))) (by omega) (show 46 < M1.1 by omega) (vp_in_iff.mpr (by decide)) (by decide) rfl ?_
        refine xj_abs_set (fun M2 hs2 ha2 ho2 => ?_)
        refine xj_iload (i := 7) d14_47_263 rfl ?_
        refine xj_iconst (v := 4) d14_47_265 (by decide) ?_
        refine xj_icmp_ge (tgt := 273) d14_47_266 rfl (fun _ => ?_) (fun h => absurd (nI_le (a := 4) (b := S.length) (by omega) (by omega)) h)
        refine xj_iconst (v := 0) d14_47_273 (by decide) ?_
        exact xj_ret d14_47_274 (by omega) (by omega) rfl ⟨upd st 31 (nI S.length), _, _, ⟨(show M2.1 = M.1 by omega), (fun j hj a b c => ((ho2 j (by omega)).trans ((ho1 j (by omega)).trans ((ho6 j (by omega)).trans (ho5 j (by omega)))))), ha2, ((ho2 47 (by omega)).trans ((ho1 47 (by omega)).trans ha6)), ((ho2 48 (by omega)).trans ha1)⟩, fun m h1 h2 => rwr_m (by omega) (by omega) (by omega) (by omega), Or.inl ⟨(if_neg (by rw [List.length_append]; omega)).trans ((if_neg hin).trans (if_pos (by omega))), rfl⟩⟩
  · skip
    refine xj_iload (i := 5) d14_47_33 rfl ?_
    refine xj_iload (i := 6) d14_47_35 rfl ?_
    refine xj_iadd (v := nI (u.length + v.length)) d14_47_37 (nI_add u.length v.length) ?_
    refine xj_bipush (v := 12) d14_47_38 (by decide) ?_
    refine xj_icmp_le (tgt := 45) d14_47_40 rfl (fun h => absurd h (nI_ge (a := 12) (b := u.length + v.length) (by omega) (by omega))) (fun _ => ?_)
    refine xj_iconst (v := 0) d14_47_43 (by decide) ?_
    exact xj_ret d14_47_44 (by omega) (by omega) rfl ⟨st, lg, lt, rT_0 k46 k47 k48, fun _ _ _ => rSame_r, Or.inl ⟨if_pos (by rw [List.length_append]; omega), rfl⟩⟩
set_option maxRecDepth 20000 in
theorem mAdd {G : xG} (hg : xGood G) (hxn : xn = 16) {n : Nat} (hn2 : 52 ≤ n) {dl : Nat} {pl : Nat} {vc : Nat} {tk : Nat} {hc : Nat} {sn : Nat} {y13 : Int32} {y22 : Int32} {y23 : Int32} {y24 : Int32} {y33 : Int32} {y36 : Int32} {y37 : Int32} {y38 : Int32} {y39 : Int32} {M : xM} (hn : M.1 = n) {st lg lt : Nat → Int32} {a s b t : Nat} {S : List (List Int32)} {u v : List Int32} {bI : Int32} (h_24 : M.2 24 = (.inr (12, [.ref 25, .ref 26, .ref 27, .ref 28, .ref 29, .ref 30, .int (nI sn), .int (nI vc), .int (nI tk), .ref 31, .int (nI dl), .ref 32, .int (nI pl), .int y13, .ref 33, .ref 34, .ref 35, .ref 36, .ref 37, .ref 38, .ref 39, .ref 40, .int y22, .int y23, .int y24, .ref 41, .ref 42, .ref 43, .ref 44, .ref 45, .ref 46, .ref 47, .ref 48, .int y33, .ref 49, .ref 50, .int y36, .int y37, .int y38, .int y39, .int (nI hc), .ref 51]))) (k46 : M.2 46 = .inl (0, 32, .inl st)) (k47 : M.2 47 = .inl (0, 1536, .inl lt)) (k48 : M.2 48 = .inl (0, 128, .inl lg)) (hL : rL st lg lt 31 S) (ha : a < 32) (ha1 : a ≠ 31) (ha2 : a ≠ 29) (hs : s < 4) (hu : rS lg lt a s u) (hv : (bI = -1 ∧ v = []) ∨ (bI = nI b ∧ b < 32 ∧ b ≠ 31 ∧ b ≠ 29 ∧ t < 4 ∧ rS lg lt b t v)) : XC G Y14_47 (some .boolean) 1 0 0 [.ref 24, .int (nI a), .int (nI s), .int bI, .int (nI t)] M (fun v9 M' => ∃ st' lg' lt', rT M M' st' lg' lt' ∧ (∀ m, m ≠ 31 → m ≠ 29 → rSame st lg lt st' lg' lt' m) ∧ ((sAdd S (u ++ v) = none ∧ v9 = some (.int 0)) ∨ ∃ T, sAdd S (u ++ v) = some T ∧ v9 = some (.int 1) ∧ rL st' lg' lt' 31 T)) := by
  rcases hv with ⟨q0, q⟩ | ⟨q0, q1, q2, q3, q4, q5⟩
  · subst q0 q
    refine xc_of hg (by decide) (Nat.le_of_ble_eq_true rfl) (Or.inr (Or.inl ⟨rfl, rfl, fun v M' h => by obtain ⟨_, _, _, _, _, h⟩ := h; rcases h with ⟨-, q⟩ | ⟨T, -, q, -⟩; exact ⟨_, q, Or.inl rfl⟩; exact ⟨_, q, Or.inr rfl⟩⟩)) ?_
    refine xj_aload_n (i := 0) d14_47_0 rfl rfl ?_
    refine xj_get d14_47_1 f14_80_12 h_24 (by omega) (show 24 < M.1 by omega) rfl ?_
    refine xj_iconst (v := 4) d14_47_4 (by decide) ?_
    refine xj_iload_n (i := 1) d14_47_5 rfl rfl ?_
    refine xj_imul (v := nI (4 * a)) d14_47_6 (pk_mul 4 a) ?_
    refine xj_iload_n (i := 2) d14_47_7 rfl rfl ?_
    refine xj_iadd (v := nI (4 * a + s)) d14_47_8 (nI_add (4 * a) s) ?_
    refine xj_iaload (j := 4 * a + s) d14_47_9 k48 (by omega) (show 48 < M.1 by omega) (vp_in_nI (by omega) (by omega)) (nI_clamp (by omega)) ?_
    rw [show lg (4 * a + s) = nI u.length from hu.2.1]
    refine xj_istore (i := 5) (L' := [(5, .int (nI u.length)), (0, .ref 24), (1, .int (nI a)), (2, .int (nI s)), (3, .int (-1)), (4, .int (nI t))]) d14_47_10 (by decide) rfl ?_
    refine xj_iload_n (i := 3) d14_47_12 rfl rfl ?_
    refine xj_if_ge (tgt := 20) d14_47_13 rfl (fun h => absurd h (by decide)) (fun _ => ?_)
    refine xj_iconst (v := 0) d14_47_16 (by decide) ?_
    refine xj_goto (tgt := 31) d14_47_17 rfl ?_
    refine xj_istore (i := 6) (L' := [(6, .int 0), (5, .int (nI u.length)), (0, .ref 24), (1, .int (nI a)), (2, .int (nI s)), (3, .int (-1)), (4, .int (nI t))]) d14_47_31 (by decide) rfl ?_
    exact mAd1 (b := 0) hg hxn hn2 hn h_24 k46 k47 k48 hL ha ha1 ha2 hs hu (Or.inl ⟨rfl, rfl⟩) (by omega) (by omega) (by omega)
  · subst q0
    refine xc_of hg (by decide) (Nat.le_of_ble_eq_true rfl) (Or.inr (Or.inl ⟨rfl, rfl, fun v M' h => by obtain ⟨_, _, _, _, _, h⟩ := h; rcases h with ⟨-, q⟩ | ⟨T, -, q, -⟩; exact ⟨_, q, Or.inl rfl⟩; exact ⟨_, q, Or.inr rfl⟩⟩)) ?_
    refine xj_aload_n (i := 0) d14_47_0 rfl rfl ?_
    refine xj_get d14_47_1 f14_80_12 h_24 (by omega) (show 24 < M.1 by omega) rfl ?_
    refine xj_iconst (v := 4) d14_47_4 (by decide) ?_
    refine xj_iload_n (i := 1) d14_47_5 rfl rfl ?_
    refine xj_imul (v := nI (4 * a)) d14_47_6 (pk_mul 4 a) ?_
    refine xj_iload_n (i := 2) d14_47_7 rfl rfl ?_
    refine xj_iadd (v := nI (4 * a + s)) d14_47_8 (nI_add (4 * a) s) ?_
    refine xj_iaload (j := 4 * a + s) d14_47_9 k48 (by omega) (show 48 < M.1 by omega) (vp_in_nI (by omega) (by omega)) (nI_clamp (by omega)) ?_
    rw [show lg (4 * a + s) = nI u.length from hu.2.1]
    refine xj_istore (i := 5) (L' := [(5, .int (nI u.length)), (0, .ref 24), (1, .int (nI a)), (2, .int (nI s)), (3, .int (nI b)), (4, .int (nI t))]) d14_47_10 (by decide) rfl ?_
    refine xj_iload_n (i := 3) d14_47_12 rfl rfl ?_
    refine xj_if_ge (tgt := 20) d14_47_13 rfl (fun _ => ?_) (fun h => absurd (Int32.not_lt.mp (nI_pos (by omega))) h)
    refine xj_aload_n (i := 0) d14_47_20 rfl rfl ?_
    refine xj_get d14_47_21 f14_80_12 h_24 (by omega) (show 24 < M.1 by omega) rfl ?_
    refine xj_iconst (v := 4) d14_47_24 (by decide) ?_
    refine xj_iload_n (i := 3) d14_47_25 rfl rfl ?_
    refine xj_imul (v := nI (4 * b)) d14_47_26 (pk_mul 4 b) ?_
    refine xj_iload (i := 4) d14_47_27 rfl ?_
    refine xj_iadd (v := nI (4 * b + t)) d14_47_29 (nI_add (4 * b) t) ?_
    refine xj_iaload (j := 4 * b + t) d14_47_30 k48 (by omega) (show 48 < M.1 by omega) (vp_in_nI (by omega) (by omega)) (nI_clamp (by omega)) ?_
    rw [show lg (4 * b + t) = nI v.length from q5.2.1]
    refine xj_istore (i := 6) (L' := [(6, .int (nI v.length)), (5, .int (nI u.length)), (0, .ref 24), (1, .int (nI a)), (2, .int (nI s)), (3, .int (nI b)), (4, .int (nI t))]) d14_47_31 (by decide) rfl ?_
    exact mAd1 hg hxn hn2 hn h_24 k46 k47 k48 hL ha ha1 ha2 hs hu (Or.inr ⟨rfl, q1, q2, q3, q4, q5⟩) (by omega) (by omega) (by omega)
set_option maxRecDepth 20000 in
theorem mJnI {G : xG} (hg : xGood G) (hxn : xn = 16) {n : Nat} (hn2 : 52 ≤ n) {dl : Nat} {pl : Nat} {vc : Nat} {tk : Nat} {hc : Nat} {sn : Nat} {y13 : Int32} {y22 : Int32} {y23 : Int32} {y24 : Int32} {y33 : Int32} {y36 : Int32} {y37 : Int32} {y38 : Int32} {y39 : Int32} {M0 : xM} {st0 lg0 lt0 : Nat → Int32} {a b : Nat} {S1 S2 : List (List Int32)} (ha : a < 32) (ha1 : a ≠ 31) (ha2 : a ≠ 29) (hb : b < 32) (hb1 : b ≠ 31) (hb2 : b ≠ 29) {i : Nat} {s : List Int32} (hs : S1[i]? = some s) {d ce se cells slots : Nat} {Post : Option Value → xM → Prop} (hd : 2 ≤ d) (hcc : cells ≤ ce) (hss : slots ≤ se) : ∀ (T : List (List Int32)) (j : Nat) (S : List (List Int32)) (M : xM) (st lg lt : Nat → Int32), j + T.length = S2.length → (∀ (k : Nat) (t : List Int32), T[k]? = some t → S2[j + k]? = some t) → rT M0 M st lg lt → (∀ m, m ≠ 31 → m ≠ 29 → rSame st0 lg0 lt0 st lg lt m) → M.2 24 = (.inr (12, [.ref 25, .ref 26, .ref 27, .ref 28, .ref 29, .ref 30, .int (nI sn), .int (nI vc), .int (nI tk), .ref 31, .int (nI dl), .ref 32, .int (nI pl), .int y13, .ref 33, .ref 34, .ref 35, .ref 36, .ref 37, .ref 38, .ref 39, .ref 40, .int y22, .int y23, .int y24, .ref 41, .ref 42, .ref 43, .ref 44, .ref 45, .ref 46, .ref 47, .ref 48, .int y33, .ref 49, .ref 50, .int y36, .int y37, .int y38, .int y39, .int (nI hc), .ref 51])) → M.1 = n → rL st lg lt a S1 → rL st lg lt b S2 → rL st lg lt 31 S → (sAdds S (T.map fun t => s ++ t) = none → ∀ (M' : xM) (st' lg' lt' : Nat → Int32), rT M0 M' st' lg' lt' → (∀ m, m ≠ 31 → m ≠ 29 → rSame st0 lg0 lt0 st' lg' lt' m) → Post (some (.int 0)) M') → (∀ (S' : List (List Int32)) (M' : xM) (st' lg' lt' : Nat → Int32), sAdds S (T.map fun t => s ++ t) = some S' → rT M0 M' st' lg' lt' → (∀ m, m ≠ 31 → m ≠ 29 → rSame st0 lg0 lt0 st' lg' lt' m) → rL st' lg' lt' 31 S' → XJ G Y14_48 d ce se cells slots 54 [(3, .int (nI i)), (0, .ref 24), (1, .int (nI a)), (2, .int (nI b))] [] M' Post) → XJ G Y14_48 d ce se cells slots 23 [(4, .int (nI j)), (3, .int (nI i)), (0, .ref 24), (1, .int (nI a)), (2, .int (nI b))] [] M Post := by
  intro T
  induction T with
  | nil =>
    intro j S M st lg lt hj hTT hT hSm h_24 hn hA hB hL K0 K1
    obtain ⟨-, -, k46, k47, k48⟩ := id hT
    have hj' : j = S2.length := hj
    have hl4 := hB.2.1
    refine xj_iload (i := 4) d14_48_23 rfl ?_
    refine xj_aload_n (i := 0) d14_48_25 rfl rfl ?_
    refine xj_get d14_48_26 f14_74_12 h_24 (by omega) (show 24 < M.1 by omega) rfl ?_
    refine xj_iload_n (i := 2) d14_48_29 rfl rfl ?_
    refine xj_iaload (j := b) d14_48_30 k46 (by omega) (show 46 < M.1 by omega) (vp_in_nI (by omega) (by omega)) (nI_clamp (by omega)) ?_
    rw [show st b = nI S2.length from hB.1]
    refine xj_icmp_ge (tgt := 54) d14_48_31 rfl (fun _ => ?_) (fun h => absurd (nI_le (a := S2.length) (b := j) (by omega) (by omega)) h)
    refine xj_sub (L' := [(3, .int (nI i)), (0, .ref 24), (1, .int (nI a)), (2, .int (nI b))]) (fun q hq => by simp only [List.mem_cons, List.not_mem_nil, or_false] at hq ⊢; rcases hq with rfl | rfl | rfl | rfl <;> simp) ?_
    exact K1 S M st lg lt rfl hT hSm hL
  | cons t T ih =>
    intro j S M st lg lt hj hTT hT hSm h_24 hn hA hB hL K0 K1
    obtain ⟨-, -, k46, k47, k48⟩ := id hT
    rw [List.length_cons] at hj
    have hl4 := hB.2.1
    have hl1 := hA.2.1
    have hi4 : i < S1.length := (List.getElem?_eq_some_iff.mp hs).1
    have ht : S2[j]? = some t := hTT 0 t rfl
    have hstep : sAdds S ((t :: T).map fun t => s ++ t) = (sAdd S (s ++ t)).bind fun U => sAdds U (T.map fun t => s ++ t) := rfl
    refine xj_iload (i := 4) d14_48_23 rfl ?_
    refine xj_aload_n (i := 0) d14_48_25 rfl rfl ?_
    refine xj_get d14_48_26 f14_74_12 h_24 (by omega) (show 24 < M.1 by omega) rfl ?_
    refine xj_iload_n (i := 2) d14_48_29 rfl rfl ?_
    refine xj_iaload (j := b) d14_48_30 k46 (by omega) (show 46 < M.1 by omega) (vp_in_nI (by omega) (by omega)) (nI_clamp (by omega)) ?_
    rw [show st b = nI S2.length from hB.1]
    refine xj_icmp_ge (tgt := 54) d14_48_31 rfl (fun h => absurd h (nI_ge (a := j) (b := S2.length) (by omega) (by omega))) (fun _ => ?_)
    refine xj_aload_n (i := 0) d14_48_34 rfl rfl ?_
    refine xj_iload_n (i := 1) d14_48_35 rfl rfl ?_
    refine xj_iload_n (i := 3) d14_48_36 rfl rfl ?_
    refine xj_iload_n (i := 2) d14_48_37 rfl rfl ?_
    refine xj_iload (i := 4) d14_48_38 rfl ?_
    refine xj_callV (rest := []) (As := [.int (nI a), .int (nI i), .int (nI b), .int (nI j)]) (b := 24) (mAdd hg hxn hn2 hn (bI := nI b) h_24 k46 k47 k48 hL ha ha1 ha2 (show i < 4 by omega) (hA.2.2 i s hs) (Or.inr ⟨rfl, hb, hb1, hb2, show j < 4 by omega, hB.2.2 j t ht⟩)) d14_48_40 wd14_47 h_24 (by omega) (show 24 < M.1 by omega) rfl s14_47 w1310 (Or.inl w1308) rfl rfl (Nat.le_of_ble_eq_true rfl) (by omega) (by omega) (by omega) ?_
    rintro v9 M9 ⟨st9, lg9, lt9, hT9, hS9, hc9⟩
    rcases hc9 with ⟨hN9, rfl⟩ | ⟨T9, hY9, rfl, hL9⟩
    · refine xj_if_ne (tgt := 48) d14_48_43 rfl (fun h => absurd (by decide) h) (fun _ => ?_)
      refine xj_iconst (v := 0) d14_48_46 (by decide) ?_
      exact xj_ret d14_48_47 hcc hss rfl (K0 (by rw [hstep, hN9]; rfl) M9 st9 lg9 lt9 (rT_t hT hT9) (fun m h1 h2 => rSame_t (hSm m h1 h2) (hS9 m h1 h2)))
    · refine xj_if_ne (tgt := 48) d14_48_43 rfl (fun _ => ?_) (fun h => absurd h (by decide))
      refine xj_iinc (v := nI (j + 1)) (L' := [(4, .int (nI (j + 1))), (3, .int (nI i)), (0, .ref 24), (1, .int (nI a)), (2, .int (nI b))]) d14_48_48 rfl (xinc _) (by decide) rfl ?_
      refine xj_goto (tgt := 23) d14_48_51 rfl ?_
      refine ih (j + 1) T9 M9 st9 lg9 lt9 (by omega) (fun k u hu => by rw [show j + 1 + k = j + (k + 1) by omega]; exact hTT (k + 1) u hu) (rT_t hT hT9) (fun m h1 h2 => rSame_t (hSm m h1 h2) (hS9 m h1 h2)) ((hT9.2.1 24 (by omega) (by omega) (by omega) (by omega)).trans h_24) (hT9.1.trans hn) (rL_same hA (hS9 a ha1 ha2)) (rL_same hB (hS9 b hb1 hb2)) hL9 (fun e => K0 (by rw [hstep, hY9]; exact e)) (fun T M' st' lg' lt' e => K1 T M' st' lg' lt' (by rw [hstep, hY9]; exact e))
set_option maxRecDepth 20000 in
theorem mJnO {G : xG} (hg : xGood G) (hxn : xn = 16) {n : Nat} (hn2 : 52 ≤ n) {dl : Nat} {pl : Nat} {vc : Nat} {tk : Nat} {hc : Nat} {sn : Nat} {y13 : Int32} {y22 : Int32} {y23 : Int32} {y24 : Int32} {y33 : Int32} {y36 : Int32} {y37 : Int32} {y38 : Int32} {y39 : Int32} {M0 : xM} {st0 lg0 lt0 : Nat → Int32} {a b : Nat} {S1 S2 : List (List Int32)} (ha : a < 32) (ha1 : a ≠ 31) (ha2 : a ≠ 29) (hb : b < 32) (hb1 : b ≠ 31) (hb2 : b ≠ 29) (hM024 : M0.2 24 = (.inr (12, [.ref 25, .ref 26, .ref 27, .ref 28, .ref 29, .ref 30, .int (nI sn), .int (nI vc), .int (nI tk), .ref 31, .int (nI dl), .ref 32, .int (nI pl), .int y13, .ref 33, .ref 34, .ref 35, .ref 36, .ref 37, .ref 38, .ref 39, .ref 40, .int y22, .int y23, .int y24, .ref 41, .ref 42, .ref 43, .ref 44, .ref 45, .ref 46, .ref 47, .ref 48, .int y33, .ref 49, .ref 50, .int y36, .int y37, .int y38, .int y39, .int (nI hc), .ref 51]))) (hM0 : M0.1 = n) (hA0 : rL st0 lg0 lt0 a S1) (hB0 : rL st0 lg0 lt0 b S2) {d ce se cells slots : Nat} {Post : Option Value → xM → Prop} (hd : 2 ≤ d) (hcc : cells ≤ ce) (hss : slots ≤ se) : ∀ (T : List (List Int32)) (i : Nat) (S : List (List Int32)) (M : xM) (st lg lt : Nat → Int32), i + T.length = S1.length → (∀ (k : Nat) (t : List Int32), T[k]? = some t → S1[i + k]? = some t) → rT M0 M st lg lt → (∀ m, m ≠ 31 → m ≠ 29 → rSame st0 lg0 lt0 st lg lt m) → M.2 24 = (.inr (12, [.ref 25, .ref 26, .ref 27, .ref 28, .ref 29, .ref 30, .int (nI sn), .int (nI vc), .int (nI tk), .ref 31, .int (nI dl), .ref 32, .int (nI pl), .int y13, .ref 33, .ref 34, .ref 35, .ref 36, .ref 37, .ref 38, .ref 39, .ref 40, .int y22, .int y23, .int y24, .ref 41, .ref 42, .ref 43, .ref 44, .ref 45, .ref 46, .ref 47, .ref 48, .int y33, .ref 49, .ref 50, .int y36, .int y37, .int y38, .int y39, .int (nI hc), .ref 51])) → M.1 = n → rL st lg lt a S1 → rL st lg lt b S2 → rL st lg lt 31 S → (sAdds S (sPrd T S2) = none → ∀ (M' : xM) (st' lg' lt' : Nat → Int32), rT M0 M' st' lg' lt' → (∀ m, m ≠ 31 → m ≠ 29 → rSame st0 lg0 lt0 st' lg' lt' m) → Post (some (.int 0)) M') → (∀ (S' : List (List Int32)) (M' : xM) (st' lg' lt' : Nat → Int32), sAdds S (sPrd T S2) = some S' → rT M0 M' st' lg' lt' → (∀ m, m ≠ 31 → m ≠ 29 → rSame st0 lg0 lt0 st' lg' lt' m) → rL st' lg' lt' 31 S' → Post (some (.int 1)) M') → XJ G Y14_48 d ce se cells slots 10 [(3, .int (nI i)), (0, .ref 24), (1, .int (nI a)), (2, .int (nI b))] [] M Post := by
  intro T
  induction T with
  | nil =>
    intro i S M st lg lt hi hTT hT hSm h_24 hn hA hB hL K0 K1
    obtain ⟨-, -, k46, k47, k48⟩ := id hT
    have hi' : i = S1.length := hi
    have hl4 := hA.2.1
    refine xj_iload_n (i := 3) d14_48_10 rfl rfl ?_
    refine xj_aload_n (i := 0) d14_48_11 rfl rfl ?_
    refine xj_get d14_48_12 f14_74_12 h_24 (by omega) (show 24 < M.1 by omega) rfl ?_
    refine xj_iload_n (i := 1) d14_48_15 rfl rfl ?_
    refine xj_iaload (j := a) d14_48_16 k46 (by omega) (show 46 < M.1 by omega) (vp_in_nI (by omega) (by omega)) (nI_clamp (by omega)) ?_
    rw [show st a = nI S1.length from hA.1]
    refine xj_icmp_ge (tgt := 60) d14_48_17 rfl (fun _ => ?_) (fun h => absurd (nI_le (a := S1.length) (b := i) (by omega) (by omega)) h)
    refine xj_iconst (v := 1) d14_48_60 (by decide) ?_
    exact xj_ret d14_48_61 hcc hss rfl (K1 S M st lg lt rfl hT hSm hL)
  | cons s T ih =>
    intro i S M st lg lt hi hTT hT hSm h_24 hn hA hB hL K0 K1
    obtain ⟨-, -, k46, k47, k48⟩ := id hT
    rw [List.length_cons] at hi
    have hl4 := hA.2.1
    have hs : S1[i]? = some s := hTT 0 s rfl
    have hpr : sAdds S (sPrd (s :: T) S2) = (sAdds S (S2.map fun t => s ++ t)).bind fun U => sAdds U (sPrd T S2) := by
      rw [sPrd_cons]
      exact sAdds_app _ _ _
    refine xj_iload_n (i := 3) d14_48_10 rfl rfl ?_
    refine xj_aload_n (i := 0) d14_48_11 rfl rfl ?_
    refine xj_get d14_48_12 f14_74_12 h_24 (by omega) (show 24 < M.1 by omega) rfl ?_
    refine xj_iload_n (i := 1) d14_48_15 rfl rfl ?_
    refine xj_iaload (j := a) d14_48_16 k46 (by omega) (show 46 < M.1 by omega) (vp_in_nI (by omega) (by omega)) (nI_clamp (by omega)) ?_
    rw [show st a = nI S1.length from hA.1]
    refine xj_icmp_ge (tgt := 60) d14_48_17 rfl (fun h => absurd h (nI_ge (a := i) (b := S1.length) (by omega) (by omega))) (fun _ => ?_)
    refine xj_iconst (v := 0) d14_48_20 (by decide) ?_
    refine xj_istore (i := 4) (L' := [(4, .int 0), (3, .int (nI i)), (0, .ref 24), (1, .int (nI a)), (2, .int (nI b))]) d14_48_21 (by decide) rfl ?_
    refine mJnI hg hxn hn2 ha ha1 ha2 hb hb1 hb2 hs hd hcc hss S2 0 S M st lg lt (by omega) (fun k t hk => by rw [Nat.zero_add]; exact hk) hT hSm h_24 hn hA hB hL (fun e M' st' lg' lt' e1 e2 => K0 (by rw [hpr, e]; rfl) M' st' lg' lt' e1 e2) (fun S8 M8 st8 lg8 lt8 e hT8 hS8 hL8 => ?_)
    refine xj_iinc (v := nI (i + 1)) (L' := [(3, .int (nI (i + 1))), (0, .ref 24), (1, .int (nI a)), (2, .int (nI b))]) d14_48_54 rfl (xinc _) (by decide) rfl ?_
    refine xj_goto (tgt := 10) d14_48_57 rfl ?_
    exact ih (i + 1) S8 M8 st8 lg8 lt8 (by omega) (fun k u hu => by rw [show i + 1 + k = i + (k + 1) by omega]; exact hTT (k + 1) u hu) hT8 hS8 ((hT8.2.1 24 (by omega) (by omega) (by omega) (by omega)).trans hM024) (hT8.1.trans hM0) (rL_same hA0 (hS8 a ha1 ha2)) (rL_same hB0 (hS8 b hb1 hb2)) hL8 (fun e9 => K0 (by rw [hpr, e]; exact e9)) (fun T M' st' lg' lt' e9 => K1 T M' st' lg' lt' (by rw [hpr, e]; exact e9))
set_option maxRecDepth 20000 in
theorem mJoin {G : xG} (hg : xGood G) (hxn : xn = 16) {n : Nat} (hn2 : 52 ≤ n) {dl : Nat} {pl : Nat} {vc : Nat} {tk : Nat} {hc : Nat} {sn : Nat} {y13 : Int32} {y22 : Int32} {y23 : Int32} {y24 : Int32} {y33 : Int32} {y36 : Int32} {y37 : Int32} {y38 : Int32} {y39 : Int32} {M : xM} (hn : M.1 = n) {st lg lt : Nat → Int32} {a b : Nat} {S1 S2 : List (List Int32)} (h_24 : M.2 24 = (.inr (12, [.ref 25, .ref 26, .ref 27, .ref 28, .ref 29, .ref 30, .int (nI sn), .int (nI vc), .int (nI tk), .ref 31, .int (nI dl), .ref 32, .int (nI pl), .int y13, .ref 33, .ref 34, .ref 35, .ref 36, .ref 37, .ref 38, .ref 39, .ref 40, .int y22, .int y23, .int y24, .ref 41, .ref 42, .ref 43, .ref 44, .ref 45, .ref 46, .ref 47, .ref 48, .int y33, .ref 49, .ref 50, .int y36, .int y37, .int y38, .int y39, .int (nI hc), .ref 51]))) (k46 : M.2 46 = .inl (0, 32, .inl st)) (k47 : M.2 47 = .inl (0, 1536, .inl lt)) (k48 : M.2 48 = .inl (0, 128, .inl lg)) (ha : a < 32) (pa1 : a ≠ 31) (pa2 : a ≠ 29) (hb : b < 32) (pb1 : b ≠ 31) (pb2 : b ≠ 29) (hA : rL st lg lt a S1) (hB : rL st lg lt b S2) : XC G Y14_48 (some .boolean) 2 0 0 [.ref 24, .int (nI a), .int (nI b)] M (fun v9 M' => ∃ st' lg' lt', rT M M' st' lg' lt' ∧ (∀ m, m ≠ 31 → m ≠ 29 → rSame st lg lt st' lg' lt' m) ∧ ((sJoin S1 S2 = none ∧ v9 = some (.int 0)) ∨ ∃ T, sJoin S1 S2 = some T ∧ v9 = some (.int 1) ∧ rL st' lg' lt' 31 T)) := by
  refine xc_of hg (by decide) (Nat.le_of_ble_eq_true rfl) (Or.inr (Or.inl ⟨rfl, rfl, fun v M' h => by obtain ⟨_, _, _, _, _, h⟩ := h; rcases h with ⟨-, q⟩ | ⟨T, -, q, -⟩; exact ⟨_, q, Or.inl rfl⟩; exact ⟨_, q, Or.inr rfl⟩⟩)) ?_
  refine xj_aload_n (i := 0) d14_48_0 rfl rfl ?_
  refine xj_get d14_48_1 f14_74_12 h_24 (by omega) (show 24 < M.1 by omega) rfl ?_
  refine xj_bipush (v := 31) d14_48_4 (by decide) ?_
  refine xj_iconst (v := 0) d14_48_6 (by decide) ?_
  refine xj_iastore (j := 31) (x' := 0) d14_48_7 k46 (by omega) (show 46 < M.1 by omega) (vp_in_iff.mpr (by decide)) (by decide) rfl ?_
  refine xj_abs_set (fun M1 hs1 ha1 ho1 => ?_)
  refine xj_iconst (v := 0) d14_48_8 (by decide) ?_
  refine xj_istore_n (i := 3) (L' := [(3, .int 0), (0, .ref 24), (1, .int (nI a)), (2, .int (nI b))]) d14_48_9 rfl (by decide) rfl ?_
  have hT1 : rT M M1 (upd st 31 0) lg lt := ⟨(show M1.1 = M.1 by omega), (fun j hj a b c => (ho1 j (by omega))), ha1, ((ho1 47 (by omega)).trans k47), ((ho1 48 (by omega)).trans k48)⟩
  have hsx : ∀ m, m ≠ 31 → m ≠ 29 → rSame st lg lt (upd st 31 0) lg lt m := fun m h1 h2 => ⟨if_neg h1, fun _ _ => rfl, fun _ _ => rfl⟩
  exact mJnO hg hxn hn2 ha pa1 pa2 hb pb1 pb2 h_24 hn hA hB (by omega) (by omega) (by omega) S1 0 [] M1 _ _ _ (by omega) (fun k t hk => by rw [Nat.zero_add]; exact hk) hT1 hsx ((ho1 24 (by omega)).trans h_24) (show M1.1 = n by omega) (rL_same hA (hsx a pa1 pa2)) (rL_same hB (hsx b pb1 pb2)) ⟨if_pos rfl, by decide, fun k s hk => absurd hk (by simp)⟩ (fun e M' st' lg' lt' e1 e2 => ⟨st', lg', lt', e1, e2, Or.inl ⟨e, rfl⟩⟩) (fun T M' st' lg' lt' e e1 e2 e3 => ⟨st', lg', lt', e1, e2, Or.inr ⟨T, e, rfl, e3⟩⟩)

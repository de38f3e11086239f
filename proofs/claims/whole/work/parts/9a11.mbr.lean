theorem pItems_le {fp : Nat → Int32} {pl : Nat} : ∀ (m : Nat) (b : Bool) (k : Nat) (S : Nat → Bool), k ≤ pl → (pItems fp pl m b (k, 0, S)).2.1 = 0 → k ≤ (pItems fp pl m b (k, 0, S)).1 ∧ (pItems fp pl m b (k, 0, S)).1 ≤ pl
  | 0, b, k, S, hk, _ => ⟨Nat.le_refl _, hk⟩
  | m + 1, b, k, S, hk, h0 => by
    rw [pItems] at h0 ⊢
    by_cases c : ((k, 0, S) : Nat × Int32 × (Nat → Bool)).2.1 = 0 ∧ ((k, 0, S) : Nat × Int32 × (Nat → Bool)).1 < pl ∧ (b = true ∨ ¬ pch fp pl ((k, 0, S) : Nat × Int32 × (Nat → Bool)).1 = 93)
    · rw [if_pos c] at h0 ⊢
      have hlt : k < pl := c.2.1
      by_cases hz : (pItem fp pl (k, 0, S)).2.1 = 0
      · have hle := pItem_le hlt hz
        rw [xtri hz] at h0 ⊢
        have ih := pItems_le m false _ _ hle.2 h0
        exact ⟨Nat.le_trans (Nat.le_of_lt hle.1) ih.1, ih.2⟩
      · have hset2 : pItems fp pl m false (pItem fp pl (k, 0, S)) = pItem fp pl (k, 0, S) := by
          cases m with
          | zero => rfl
          | succ m => exact if_neg (fun q => hz q.1)
        rw [hset2] at h0
        exact absurd h0 hz
    · rw [if_neg c]
      exact ⟨Nat.le_refl _, hk⟩
/-- the first i characters turned over -/
def xcmp (cs : Nat → Int32) (o i : Nat) : Nat → Int32 := fun j => if o ≤ j ∧ j < o + i then (if cs j = 0 then 1 else 0) else cs j
theorem xcmp_0 {cs : Nat → Int32} {o : Nat} : xcmp cs o 0 = cs := by
  funext j
  exact if_neg (by omega)
theorem xcmp_s {cs : Nat → Int32} {o i : Nat} {x : Int32} (h : x = if cs (o + i) = 0 then 1 else 0) : upd (xcmp cs o i) (o + i) x = xcmp cs o (i + 1) := by
  funext j
  unfold upd xcmp
  by_cases q : j = o + i
  · rw [if_pos q, if_pos (show o ≤ j ∧ j < o + (i + 1) by omega), h, q]
  · rw [if_neg q]
    by_cases z : o ≤ j ∧ j < o + i
    · rw [if_pos z, if_pos (show o ≤ j ∧ j < o + (i + 1) by omega)]
    · rw [if_neg z, if_neg (show ¬ (o ≤ j ∧ j < o + (i + 1)) by omega)]
theorem xcmp_at {cs : Nat → Int32} {o i : Nat} : xcmp cs o i (o + i) = cs (o + i) := if_neg (by omega)
theorem mCplL {G : xG} (hxn : xn = 16) {Mv : xM} {n : Nat} (hn2 : 52 ≤ n) {dl : Nat} {pl : Nat} {vc : Nat} {tk : Nat} {hc : Nat} {sn : Nat} {y24 : Int32} {y33 : Int32} {y36 : Int32} {y37 : Int32} {y38 : Int32} {y39 : Int32} {np : Nat} {a : Nat} {dp : Nat} {cs : Nat → Int32} {m : Nat} {f3 : Int32} (h_24 : Mv.2 24 = (.inr (12, [.ref 25, .ref 26, .ref 27, .ref 28, .ref 29, .ref 30, .int (nI sn), .int (nI vc), .int (nI tk), .ref 31, .int (nI dl), .ref 32, .int (nI pl), .int (nI np), .ref 33, .ref 34, .ref 35, .ref 36, .ref 37, .ref 38, .ref 39, .ref 40, .int (nI a), .int (nI dp), .int y24, .ref 41, .ref 42, .ref 43, .ref 44, .ref 45, .ref 46, .ref 47, .ref 48, .int y33, .ref 49, .ref 50, .int y36, .int y37, .int y38, .int y39, .int (nI hc), .ref 51]))) (hm30 : m < 30) {d ce se cells slots : Nat} {Post : Option Value → xM → Prop} (K : ∀ M : xM, M.1 = n → (∀ j, j ≠ 40 → M.2 j = Mv.2 j) → M.2 40 = (.inl (2, 2850, .inl (xcmp cs (95 * m) 95))) → XJ G Y14_36 d ce se cells slots 181 [(4, .int (nI 95)), (3, .int f3), (2, .int (nI m)), (1, .int 1), (0, .ref 24)] [] M Post) : ∀ (r i : Nat) (M : xM), i + r = 95 → M.1 = n → (∀ j, j ≠ 40 → M.2 j = Mv.2 j) → M.2 40 = (.inl (2, 2850, .inl (xcmp cs (95 * m) i))) → XJ G Y14_36 d ce se cells slots 132 [(4, .int (nI i)), (3, .int f3), (2, .int (nI m)), (1, .int 1), (0, .ref 24)] [] M Post := by
  intro r
  induction r with
  | zero =>
    intro i M hi hm hfr hA
    have hi' : i = 95 := by omega
    subst i
    refine xj_iload (i := 4) d14_36_132 rfl ?_
    refine xj_bipush (v := 95) d14_36_134 (by decide) ?_
    refine xj_icmp_ge (tgt := 181) d14_36_136 rfl (fun _ => ?_) (fun h => absurd (nI_le (a := 95) (b := 95) (by omega) (by omega)) h)
    exact K M hm hfr hA
  | succ r ih =>
    intro i M hi hm hfr hA
    refine xj_iload (i := 4) d14_36_132 rfl ?_
    refine xj_bipush (v := 95) d14_36_134 (by decide) ?_
    refine xj_icmp_ge (tgt := 181) d14_36_136 rfl (fun h => absurd h (nI_ge (a := i) (b := 95) (by omega) (by omega))) (fun _ => ?_)
    refine xj_iload_n (i := 1) d14_36_139 rfl rfl ?_
    refine xj_if_eq (tgt := 181) d14_36_140 rfl (fun h => absurd h (by decide)) (fun _ => ?_)
    refine xj_aload_n (i := 0) d14_36_143 rfl rfl ?_
    refine xj_get d14_36_144 f14_56_12 ((hfr 24 (by omega)).trans h_24) (by omega) (show 24 < M.1 by omega) rfl ?_
    refine xj_bipush (v := 95) d14_36_147 (by decide) ?_
    refine xj_iload_n (i := 2) d14_36_149 rfl rfl ?_
    refine xj_imul (v := nI (95 * m)) d14_36_150 (pk_mul 95 m) ?_
    refine xj_iload (i := 4) d14_36_151 rfl ?_
    refine xj_iadd (v := nI (95 * m + i)) d14_36_153 (nI_add (95 * m) i) ?_
    refine xj_aload_n (i := 0) d14_36_154 rfl rfl ?_
    refine xj_get d14_36_155 f14_56_12 ((hfr 24 (by omega)).trans h_24) (by omega) (show 24 < M.1 by omega) rfl ?_
    refine xj_bipush (v := 95) d14_36_158 (by decide) ?_
    refine xj_iload_n (i := 2) d14_36_160 rfl rfl ?_
    refine xj_imul (v := nI (95 * m)) d14_36_161 (pk_mul 95 m) ?_
    refine xj_iload (i := 4) d14_36_162 rfl ?_
    refine xj_iadd (v := nI (95 * m + i)) d14_36_164 (nI_add (95 * m) i) ?_
    refine xj_zaload (j := 95 * m + i) d14_36_165 hA (by omega) (show 40 < M.1 by omega) (vp_in_nI (by omega) (by omega)) (nI_clamp (by omega)) ?_
    rw [show (xcmp cs (95 * m) i) (95 * m + i) = cs (95 * m + i) from xcmp_at]
    refine xj_if_ne (tgt := 173) d14_36_166 rfl (fun hb => ?_) (fun hb => ?_)
    · refine xj_iconst (v := 0) d14_36_173 (by decide) ?_
      refine xj_zastore (j := 95 * m + i) (x' := 0) d14_36_174 hA (by omega) (show 40 < M.1 by omega) (vp_in_nI (by omega) (by omega)) (nI_clamp (by omega)) (by decide) ?_
      refine xj_abs_set (fun M1 hs1 ha1 ho1 => ?_)
      refine xj_iinc (v := nI (i + 1)) (L' := [(4, .int (nI (i + 1))), (3, .int f3), (2, .int (nI m)), (1, .int 1), (0, .ref 24)]) d14_36_175 rfl (xinc _) (by decide) rfl ?_
      refine xj_goto (tgt := 132) d14_36_178 rfl ?_
      exact ih (i + 1) M1 (by omega) (by omega) (fun j hj => (ho1 j hj).trans (hfr j hj)) (by rw [← xcmp_s (x := 0) ((if_neg hb).symm)]; exact ha1)
    · refine xj_iconst (v := 1) d14_36_169 (by decide) ?_
      refine xj_goto (tgt := 174) d14_36_170 rfl ?_
      refine xj_zastore (j := 95 * m + i) (x' := 1) d14_36_174 hA (by omega) (show 40 < M.1 by omega) (vp_in_nI (by omega) (by omega)) (nI_clamp (by omega)) (by decide) ?_
      refine xj_abs_set (fun M2 hs2 ha2 ho2 => ?_)
      refine xj_iinc (v := nI (i + 1)) (L' := [(4, .int (nI (i + 1))), (3, .int f3), (2, .int (nI m)), (1, .int 1), (0, .ref 24)]) d14_36_175 rfl (xinc _) (by decide) rfl ?_
      refine xj_goto (tgt := 132) d14_36_178 rfl ?_
      exact ih (i + 1) M2 (by omega) (by omega) (fun j hj => (ho2 j hj).trans (hfr j hj)) (by rw [← xcmp_s (x := 1) ((if_pos hb).symm)]; exact ha2)
theorem xcmp_set {cs : Nat → Int32} {o c : Nat} {S : Nat → Bool} (hc : c < 95) (h : cs (o + c) = if S c = true then 1 else 0) : xcmp cs o 95 (o + c) = if (fun k => !S k) c = true then 1 else 0 := by
  unfold xcmp
  rw [if_pos (by omega), h]
  by_cases z : S c = true
  · rw [if_pos z, if_neg (by decide), if_neg (by simp [z])]
  · rw [if_neg z, if_pos rfl, if_pos (by simpa using z)]
set_option maxRecDepth 20000 in
theorem rGoodPE {G : xG} (hg : xGood G) (hxn : xn = 16) {dl pl vc tk hc sn : Nat} {y33 y36 y37 y38 y39 : Int32} {fp : Nat → Int32} {M0 M : xM} (h52 : 52 ≤ M0.1) (hpl : pl ≤ 24) {a : Nat} {A : List xNode} {t : List Nat × List Nat} {r : List (List Nat × List Nat)} {k : Nat} {S : Nat → Bool} {f3 : Int32} (h : mB dl pl vc tk hc sn y33 y36 y37 y38 y39 fp M0 M (a, 0, A, t :: r) k S) (hkp : k < pl) (hak : a ≤ k) (h0 : t.2 = []) {d ce se cells slots : Nat} {Post : Option Value → xM → Prop} (hd : 4 ≤ d) (hcc : cells ≤ ce) (hss : slots ≤ se) (K : ∀ M' : xM, mR dl pl vc tk hc sn y33 y36 y37 y38 y39 fp M0 M' (k + 1, 0, A ++ [(1, 1, [], 0, 0, S)], (t.1, t.2 ++ [A.length]) :: r) → Post none M') : XJ G Y14_36 d ce se cells slots 88 [(3, .int f3), (2, .int (nI A.length)), (1, .int 0), (0, .ref 24)] [] M Post := by
  obtain ⟨⟨i1, i2⟩, k32, kd, ch, nx, be, lo, hi, wt, cs, fP, lP, fB, lB, k24, k33, k34, k35, k36, k37, k38, k39, k40, k41, k42, k43, k44, hA, hW, hN⟩ := h
  replace k24 : M.2 24 = (.inr (12, [.ref 25, .ref 26, .ref 27, .ref 28, .ref 29, .ref 30, .int (nI sn), .int (nI vc), .int (nI tk), .ref 31, .int (nI dl), .ref 32, .int (nI pl), .int (nI (A.length + 1)), .ref 33, .ref 34, .ref 35, .ref 36, .ref 37, .ref 38, .ref 39, .ref 40, .int (nI k), .int (nI r.length), .int 0, .ref 41, .ref 42, .ref 43, .ref 44, .ref 45, .ref 46, .ref 47, .ref 48, .int y33, .ref 49, .ref 50, .int y36, .int y37, .int y38, .int y39, .int (nI hc), .ref 51])) := k24
  obtain ⟨g1, g2, g3⟩ := pW_tag hW
  have hlS := hA.2 r.length t plv_mine
  have hb2 : fP r.length < 0 := by
    rw [(mA_bare hA h0).1]
    decide
  obtain ⟨n, hn⟩ : ∃ n, M.1 = n := ⟨_, rfl⟩
  have hn2 : 52 ≤ n := by omega
  refine xj_aload_n (i := 0) d14_36_88 rfl rfl ?_
  refine xj_get d14_36_89 f14_156_12 k24 (by omega) (show 24 < M.1 by omega) rfl ?_
  refine xj_if_ne (tgt := 111) d14_36_92 rfl (fun h => absurd (by decide) h) (fun _ => ?_)
  refine xj_aload_n (i := 0) d14_36_95 rfl rfl ?_
  refine xj_get d14_36_96 f14_133_12 k24 (by omega) (show 24 < M.1 by omega) rfl ?_
  refine xj_aload_n (i := 0) d14_36_99 rfl rfl ?_
  refine xj_get d14_36_100 f14_130_12 k24 (by omega) (show 24 < M.1 by omega) rfl ?_
  refine xj_icmp_lt (tgt := 111) d14_36_103 rfl (fun _ => ?_) (fun h => absurd (nI_lt (a := k) (b := pl) (by omega) (by omega)) h)
  refine xj_aload_n (i := 0) d14_36_111 rfl rfl ?_
  refine xj_get d14_36_112 f14_156_12 k24 (by omega) (show 24 < M.1 by omega) rfl ?_
  refine xj_if_eq (tgt := 119) d14_36_115 rfl (fun _ => ?_) (fun h => absurd (by decide) h)
  refine xj_aload_n (i := 0) d14_36_119 rfl rfl ?_
  refine xj_aload_n (i := 0) d14_36_120 rfl rfl ?_
  refine xj_get d14_36_121 f14_133_12 k24 (by omega) (show 24 < M.1 by omega) rfl ?_
  refine xj_iconst (v := 1) d14_36_124 (by decide) ?_
  refine xj_iadd (v := nI (k + 1)) d14_36_125 (nI_1 _) ?_
  refine xj_put (a := 24) (fs' := [.ref 25, .ref 26, .ref 27, .ref 28, .ref 29, .ref 30, .int (nI sn), .int (nI vc), .int (nI tk), .ref 31, .int (nI dl), .ref 32, .int (nI pl), .int (nI (A.length + 1)), .ref 33, .ref 34, .ref 35, .ref 36, .ref 37, .ref 38, .ref 39, .ref 40, .int (nI (k + 1)), .int (nI r.length), .int 0, .ref 41, .ref 42, .ref 43, .ref 44, .ref 45, .ref 46, .ref 47, .ref 48, .int y33, .ref 49, .ref 50, .int y36, .int y37, .int y38, .int y39, .int (nI hc), .ref 51]) d14_36_126 f14_133_12 k24 (by omega) (show 24 < M.1 by omega) (Nat.le_of_ble_eq_true rfl) rfl rfl rfl ?_
  refine xj_abs_set (fun M1 hs1 ha1 ho1 => ?_)
  refine xj_iconst (v := 0) d14_36_129 (by decide) ?_
  refine xj_istore (i := 4) (L' := [(4, .int 0), (3, .int f3), (2, .int (nI A.length)), (1, .int 0), (0, .ref 24)]) d14_36_130 (by decide) rfl ?_
  refine xj_iload (i := 4) d14_36_132 rfl ?_
  refine xj_bipush (v := 95) d14_36_134 (by decide) ?_
  refine xj_icmp_ge (tgt := 181) d14_36_136 rfl (fun h => absurd h (by decide)) (fun _ => ?_)
  refine xj_iload_n (i := 1) d14_36_139 rfl rfl ?_
  refine xj_if_eq (tgt := 181) d14_36_140 rfl (fun _ => ?_) (fun h => absurd (by decide) h)
  refine xj_aload_n (i := 0) d14_36_181 rfl rfl ?_
  refine xj_iload_n (i := 2) d14_36_182 rfl rfl ?_
  refine xj_callV (rest := []) (As := [.int (nI A.length)]) (b := 24) (mAddPE hg (M := M1) (n := n) (dl := dl) (pl := pl) (vc := vc) (tk := tk) (hc := hc) (sn := sn) (y24 := 0) (y33 := y33) (y36 := y36) (y37 := y37) (y38 := y38) (y39 := y39) (np := A.length + 1) (a := k + 1) (dp := r.length) (be := be) (fP := fP) (lP := lP) (nx := nx) (m := A.length) (show M1.1 = n by omega) (by omega) (by omega) (by omega) ha1 (by omega) (by omega) ((ho1 36 (by omega)).trans k36) (by omega) (by omega) ((ho1 41 (by omega)).trans k41) (by omega) (by omega) ((ho1 42 (by omega)).trans k42) (by omega) (by omega) ((ho1 35 (by omega)).trans k35) hxn hn2 (by omega) (by omega) hb2) d14_36_183 wd14_22 ha1 (by omega) (show 24 < M1.1 by omega) rfl s14_22 w1240 (Or.inl w1238) rfl rfl (Nat.le_of_ble_eq_true rfl) (by omega) (by omega) (by omega) ?_
  rintro v M2 ⟨rfl, hs2, ho2, hf2_0, hf2_1, hf2_2⟩
  replace hs2 : M2.1 = n := hs2
  replace hf2_0 : M2.2 36 = (.inl (0, 30, .inl (upd be A.length (lP r.length)))) := hf2_0
  replace hf2_1 : M2.2 41 = (.inl (0, 7, .inl (upd fP r.length (nI A.length)))) := hf2_1
  replace hf2_2 : M2.2 42 = (.inl (0, 7, .inl (upd lP r.length (nI A.length)))) := hf2_2
  refine xj_ret d14_36_186 (by omega) (by omega) rfl (K _ ⟨⟨(show M2.1 = M0.1 by omega), fun j h1 h2 h3 => ((ho2 j (by omega) (by omega) (by omega) (by omega)).trans (ho1 j (by omega))).trans (i2 j h1 h2 h3)⟩, ((ho2 32 (by omega) (by omega) (by omega) (by omega)).trans (ho1 32 (by omega))).trans k32, A.length + 1, kd, ch, nx, (upd be A.length (lP r.length)), lo, hi, wt, cs, (upd fP r.length (nI A.length)), (upd lP r.length (nI A.length)), fB, lB, xlen1 A _, ((ho2 24 (by omega) (by omega) (by omega) (by omega)).trans ha1), ((ho2 33 (by omega) (by omega) (by omega) (by omega)).trans ((ho1 33 (by omega)).trans k33)), ((ho2 34 (by omega) (by omega) (by omega) (by omega)).trans ((ho1 34 (by omega)).trans k34)), ((ho2 35 (by omega) (by omega) (by omega) (by omega)).trans ((ho1 35 (by omega)).trans k35)), hf2_0, ((ho2 37 (by omega) (by omega) (by omega) (by omega)).trans ((ho1 37 (by omega)).trans k37)), ((ho2 38 (by omega) (by omega) (by omega) (by omega)).trans ((ho1 38 (by omega)).trans k38)), ((ho2 39 (by omega) (by omega) (by omega) (by omega)).trans ((ho1 39 (by omega)).trans k39)), ((ho2 40 (by omega) (by omega) (by omega) (by omega)).trans ((ho1 40 (by omega)).trans k40)), hf2_1, hf2_2, ((ho2 43 (by omega) (by omega) (by omega) (by omega)).trans ((ho1 43 (by omega)).trans k43)), ((ho2 44 (by omega) (by omega) (by omega) (by omega)).trans ((ho1 44 (by omega)).trans k44)), ?_, ?_⟩)
  · exact mA_piece hA hW (fun i hi => ⟨rfl, rfl, rfl, rfl, rfl, (fun c hc => rfl)⟩) ⟨hN.1, hN.2.1, (fun _ c hc => hN.2.2.2 c hc), fun z => absurd z (show ¬ (1 : Nat) = 4 by decide), fun z => absurd z (show ¬ 5 ≤ 1 by decide)⟩ (fun c hc _ => rfl) (fun c hc => by rw [h0] at hc; cases hc) hN.2.2.1 (fun c hc => if_neg (by omega)) ((if_pos rfl).trans hlS.2.2.1) ((if_pos rfl).trans (if_pos h0).symm) (fun e he => if_neg (by omega)) (if_pos rfl) (fun e he => if_neg (by omega)) (fun _ _ => ⟨rfl, rfl⟩)
  · exact pW_leaf hW rfl (by omega) (by omega)
set_option maxRecDepth 20000 in
theorem rGoodPN {G : xG} (hg : xGood G) (hxn : xn = 16) {dl pl vc tk hc sn : Nat} {y33 y36 y37 y38 y39 : Int32} {fp : Nat → Int32} {M0 M : xM} (h52 : 52 ≤ M0.1) (hpl : pl ≤ 24) {a : Nat} {A : List xNode} {t : List Nat × List Nat} {r : List (List Nat × List Nat)} {k : Nat} {S : Nat → Bool} {f3 : Int32} (h : mB dl pl vc tk hc sn y33 y36 y37 y38 y39 fp M0 M (a, 0, A, t :: r) k S) (hkp : k < pl) (hak : a ≤ k) (h0 : ¬ t.2 = []) {d ce se cells slots : Nat} {Post : Option Value → xM → Prop} (hd : 4 ≤ d) (hcc : cells ≤ ce) (hss : slots ≤ se) (K : ∀ M' : xM, mR dl pl vc tk hc sn y33 y36 y37 y38 y39 fp M0 M' (k + 1, 0, A ++ [(1, 1, [], 0, 0, S)], (t.1, t.2 ++ [A.length]) :: r) → Post none M') : XJ G Y14_36 d ce se cells slots 88 [(3, .int f3), (2, .int (nI A.length)), (1, .int 0), (0, .ref 24)] [] M Post := by
  obtain ⟨⟨i1, i2⟩, k32, kd, ch, nx, be, lo, hi, wt, cs, fP, lP, fB, lB, k24, k33, k34, k35, k36, k37, k38, k39, k40, k41, k42, k43, k44, hA, hW, hN⟩ := h
  replace k24 : M.2 24 = (.inr (12, [.ref 25, .ref 26, .ref 27, .ref 28, .ref 29, .ref 30, .int (nI sn), .int (nI vc), .int (nI tk), .ref 31, .int (nI dl), .ref 32, .int (nI pl), .int (nI (A.length + 1)), .ref 33, .ref 34, .ref 35, .ref 36, .ref 37, .ref 38, .ref 39, .ref 40, .int (nI k), .int (nI r.length), .int 0, .ref 41, .ref 42, .ref 43, .ref 44, .ref 45, .ref 46, .ref 47, .ref 48, .int y33, .ref 49, .ref 50, .int y36, .int y37, .int y38, .int y39, .int (nI hc), .ref 51])) := k24
  obtain ⟨g1, g2, g3⟩ := pW_tag hW
  have hlS := hA.2 r.length t plv_mine
  obtain ⟨ll, hl1, hl2, hl3, hb2⟩ := mA_last hA hW h0
  obtain ⟨n, hn⟩ : ∃ n, M.1 = n := ⟨_, rfl⟩
  have hn2 : 52 ≤ n := by omega
  refine xj_aload_n (i := 0) d14_36_88 rfl rfl ?_
  refine xj_get d14_36_89 f14_156_12 k24 (by omega) (show 24 < M.1 by omega) rfl ?_
  refine xj_if_ne (tgt := 111) d14_36_92 rfl (fun h => absurd (by decide) h) (fun _ => ?_)
  refine xj_aload_n (i := 0) d14_36_95 rfl rfl ?_
  refine xj_get d14_36_96 f14_133_12 k24 (by omega) (show 24 < M.1 by omega) rfl ?_
  refine xj_aload_n (i := 0) d14_36_99 rfl rfl ?_
  refine xj_get d14_36_100 f14_130_12 k24 (by omega) (show 24 < M.1 by omega) rfl ?_
  refine xj_icmp_lt (tgt := 111) d14_36_103 rfl (fun _ => ?_) (fun h => absurd (nI_lt (a := k) (b := pl) (by omega) (by omega)) h)
  refine xj_aload_n (i := 0) d14_36_111 rfl rfl ?_
  refine xj_get d14_36_112 f14_156_12 k24 (by omega) (show 24 < M.1 by omega) rfl ?_
  refine xj_if_eq (tgt := 119) d14_36_115 rfl (fun _ => ?_) (fun h => absurd (by decide) h)
  refine xj_aload_n (i := 0) d14_36_119 rfl rfl ?_
  refine xj_aload_n (i := 0) d14_36_120 rfl rfl ?_
  refine xj_get d14_36_121 f14_133_12 k24 (by omega) (show 24 < M.1 by omega) rfl ?_
  refine xj_iconst (v := 1) d14_36_124 (by decide) ?_
  refine xj_iadd (v := nI (k + 1)) d14_36_125 (nI_1 _) ?_
  refine xj_put (a := 24) (fs' := [.ref 25, .ref 26, .ref 27, .ref 28, .ref 29, .ref 30, .int (nI sn), .int (nI vc), .int (nI tk), .ref 31, .int (nI dl), .ref 32, .int (nI pl), .int (nI (A.length + 1)), .ref 33, .ref 34, .ref 35, .ref 36, .ref 37, .ref 38, .ref 39, .ref 40, .int (nI (k + 1)), .int (nI r.length), .int 0, .ref 41, .ref 42, .ref 43, .ref 44, .ref 45, .ref 46, .ref 47, .ref 48, .int y33, .ref 49, .ref 50, .int y36, .int y37, .int y38, .int y39, .int (nI hc), .ref 51]) d14_36_126 f14_133_12 k24 (by omega) (show 24 < M.1 by omega) (Nat.le_of_ble_eq_true rfl) rfl rfl rfl ?_
  refine xj_abs_set (fun M1 hs1 ha1 ho1 => ?_)
  refine xj_iconst (v := 0) d14_36_129 (by decide) ?_
  refine xj_istore (i := 4) (L' := [(4, .int 0), (3, .int f3), (2, .int (nI A.length)), (1, .int 0), (0, .ref 24)]) d14_36_130 (by decide) rfl ?_
  refine xj_iload (i := 4) d14_36_132 rfl ?_
  refine xj_bipush (v := 95) d14_36_134 (by decide) ?_
  refine xj_icmp_ge (tgt := 181) d14_36_136 rfl (fun h => absurd h (by decide)) (fun _ => ?_)
  refine xj_iload_n (i := 1) d14_36_139 rfl rfl ?_
  refine xj_if_eq (tgt := 181) d14_36_140 rfl (fun _ => ?_) (fun h => absurd (by decide) h)
  refine xj_aload_n (i := 0) d14_36_181 rfl rfl ?_
  refine xj_iload_n (i := 2) d14_36_182 rfl rfl ?_
  refine xj_callV (rest := []) (As := [.int (nI A.length)]) (b := 24) (mAddPN hg (M := M1) (n := n) (dl := dl) (pl := pl) (vc := vc) (tk := tk) (hc := hc) (sn := sn) (y24 := 0) (y33 := y33) (y36 := y36) (y37 := y37) (y38 := y38) (y39 := y39) (np := A.length + 1) (a := k + 1) (dp := r.length) (be := be) (fP := fP) (lP := lP) (nx := nx) (m := A.length) (ll := ll) (show M1.1 = n by omega) (by omega) (by omega) (by omega) ha1 (by omega) (by omega) ((ho1 36 (by omega)).trans k36) (by omega) (by omega) ((ho1 41 (by omega)).trans k41) (by omega) (by omega) ((ho1 42 (by omega)).trans k42) (by omega) (by omega) ((ho1 35 (by omega)).trans k35) hxn hn2 (by omega) (by omega) hb2 hl2 (by omega)) d14_36_183 wd14_22 ha1 (by omega) (show 24 < M1.1 by omega) rfl s14_22 w1240 (Or.inl w1238) rfl rfl (Nat.le_of_ble_eq_true rfl) (by omega) (by omega) (by omega) ?_
  rintro v M2 ⟨rfl, hs2, ho2, hf2_0, hf2_1, hf2_2⟩
  replace hs2 : M2.1 = n := hs2
  replace hf2_0 : M2.2 36 = (.inl (0, 30, .inl (upd be A.length (nI ll)))) := hf2_0
  replace hf2_1 : M2.2 35 = (.inl (0, 30, .inl (upd nx ll (nI A.length)))) := hf2_1
  replace hf2_2 : M2.2 42 = (.inl (0, 7, .inl (upd lP r.length (nI A.length)))) := hf2_2
  refine xj_ret d14_36_186 (by omega) (by omega) rfl (K _ ⟨⟨(show M2.1 = M0.1 by omega), fun j h1 h2 h3 => ((ho2 j (by omega) (by omega) (by omega) (by omega)).trans (ho1 j (by omega))).trans (i2 j h1 h2 h3)⟩, ((ho2 32 (by omega) (by omega) (by omega) (by omega)).trans (ho1 32 (by omega))).trans k32, A.length + 1, kd, ch, (upd nx ll (nI A.length)), (upd be A.length (nI ll)), lo, hi, wt, cs, fP, (upd lP r.length (nI A.length)), fB, lB, xlen1 A _, ((ho2 24 (by omega) (by omega) (by omega) (by omega)).trans ha1), ((ho2 33 (by omega) (by omega) (by omega) (by omega)).trans ((ho1 33 (by omega)).trans k33)), ((ho2 34 (by omega) (by omega) (by omega) (by omega)).trans ((ho1 34 (by omega)).trans k34)), hf2_1, hf2_0, ((ho2 37 (by omega) (by omega) (by omega) (by omega)).trans ((ho1 37 (by omega)).trans k37)), ((ho2 38 (by omega) (by omega) (by omega) (by omega)).trans ((ho1 38 (by omega)).trans k38)), ((ho2 39 (by omega) (by omega) (by omega) (by omega)).trans ((ho1 39 (by omega)).trans k39)), ((ho2 40 (by omega) (by omega) (by omega) (by omega)).trans ((ho1 40 (by omega)).trans k40)), ((ho2 41 (by omega) (by omega) (by omega) (by omega)).trans ((ho1 41 (by omega)).trans k41)), hf2_2, ((ho2 43 (by omega) (by omega) (by omega) (by omega)).trans ((ho1 43 (by omega)).trans k43)), ((ho2 44 (by omega) (by omega) (by omega) (by omega)).trans ((ho1 44 (by omega)).trans k44)), ?_, ?_⟩)
  · exact mA_piece hA hW (fun i hi => ⟨rfl, rfl, rfl, rfl, rfl, (fun c hc => rfl)⟩) ⟨hN.1, hN.2.1, (fun _ c hc => hN.2.2.2 c hc), fun z => absurd z (show ¬ (1 : Nat) = 4 by decide), fun z => absurd z (show ¬ 5 ≤ 1 by decide)⟩ (fun c hc hn9 => if_neg (fun z => hn9 (by rw [z]; exact hl1))) (fun c hc => if_pos (Option.some.inj (hc.trans hl1.symm))) ((if_neg (by omega)).trans hN.2.2.1) (fun c hc => if_neg (by omega)) ((if_pos rfl).trans (hl2.symm.trans hlS.2.2.1)) (if_neg h0).symm (fun e he => rfl) (if_pos rfl) (fun e he => if_neg (by omega)) (fun _ _ => ⟨rfl, rfl⟩)
  · exact pW_leaf hW rfl (by omega) (by omega)
set_option maxRecDepth 20000 in
theorem rGoodCE {G : xG} (hg : xGood G) (hxn : xn = 16) {dl pl vc tk hc sn : Nat} {y33 y36 y37 y38 y39 : Int32} {fp : Nat → Int32} {M0 M : xM} (h52 : 52 ≤ M0.1) (hpl : pl ≤ 24) {a : Nat} {A : List xNode} {t : List Nat × List Nat} {r : List (List Nat × List Nat)} {k : Nat} {S : Nat → Bool} {f3 : Int32} (h : mB dl pl vc tk hc sn y33 y36 y37 y38 y39 fp M0 M (a, 0, A, t :: r) k S) (hkp : k < pl) (hak : a ≤ k) (h0 : t.2 = []) {d ce se cells slots : Nat} {Post : Option Value → xM → Prop} (hd : 4 ≤ d) (hcc : cells ≤ ce) (hss : slots ≤ se) (K : ∀ M' : xM, mR dl pl vc tk hc sn y33 y36 y37 y38 y39 fp M0 M' (k + 1, 0, A ++ [(1, 1, [], 0, 0, (fun k => !S k))], (t.1, t.2 ++ [A.length]) :: r) → Post none M') : XJ G Y14_36 d ce se cells slots 88 [(3, .int f3), (2, .int (nI A.length)), (1, .int 1), (0, .ref 24)] [] M Post := by
  obtain ⟨⟨i1, i2⟩, k32, kd, ch, nx, be, lo, hi, wt, cs, fP, lP, fB, lB, k24, k33, k34, k35, k36, k37, k38, k39, k40, k41, k42, k43, k44, hA, hW, hN⟩ := h
  replace k24 : M.2 24 = (.inr (12, [.ref 25, .ref 26, .ref 27, .ref 28, .ref 29, .ref 30, .int (nI sn), .int (nI vc), .int (nI tk), .ref 31, .int (nI dl), .ref 32, .int (nI pl), .int (nI (A.length + 1)), .ref 33, .ref 34, .ref 35, .ref 36, .ref 37, .ref 38, .ref 39, .ref 40, .int (nI k), .int (nI r.length), .int 0, .ref 41, .ref 42, .ref 43, .ref 44, .ref 45, .ref 46, .ref 47, .ref 48, .int y33, .ref 49, .ref 50, .int y36, .int y37, .int y38, .int y39, .int (nI hc), .ref 51])) := k24
  obtain ⟨g1, g2, g3⟩ := pW_tag hW
  have hlS := hA.2 r.length t plv_mine
  have hb2 : fP r.length < 0 := by
    rw [(mA_bare hA h0).1]
    decide
  obtain ⟨n, hn⟩ : ∃ n, M.1 = n := ⟨_, rfl⟩
  have hn2 : 52 ≤ n := by omega
  refine xj_aload_n (i := 0) d14_36_88 rfl rfl ?_
  refine xj_get d14_36_89 f14_156_12 k24 (by omega) (show 24 < M.1 by omega) rfl ?_
  refine xj_if_ne (tgt := 111) d14_36_92 rfl (fun h => absurd (by decide) h) (fun _ => ?_)
  refine xj_aload_n (i := 0) d14_36_95 rfl rfl ?_
  refine xj_get d14_36_96 f14_133_12 k24 (by omega) (show 24 < M.1 by omega) rfl ?_
  refine xj_aload_n (i := 0) d14_36_99 rfl rfl ?_
  refine xj_get d14_36_100 f14_130_12 k24 (by omega) (show 24 < M.1 by omega) rfl ?_
  refine xj_icmp_lt (tgt := 111) d14_36_103 rfl (fun _ => ?_) (fun h => absurd (nI_lt (a := k) (b := pl) (by omega) (by omega)) h)
  refine xj_aload_n (i := 0) d14_36_111 rfl rfl ?_
  refine xj_get d14_36_112 f14_156_12 k24 (by omega) (show 24 < M.1 by omega) rfl ?_
  refine xj_if_eq (tgt := 119) d14_36_115 rfl (fun _ => ?_) (fun h => absurd (by decide) h)
  refine xj_aload_n (i := 0) d14_36_119 rfl rfl ?_
  refine xj_aload_n (i := 0) d14_36_120 rfl rfl ?_
  refine xj_get d14_36_121 f14_133_12 k24 (by omega) (show 24 < M.1 by omega) rfl ?_
  refine xj_iconst (v := 1) d14_36_124 (by decide) ?_
  refine xj_iadd (v := nI (k + 1)) d14_36_125 (nI_1 _) ?_
  refine xj_put (a := 24) (fs' := [.ref 25, .ref 26, .ref 27, .ref 28, .ref 29, .ref 30, .int (nI sn), .int (nI vc), .int (nI tk), .ref 31, .int (nI dl), .ref 32, .int (nI pl), .int (nI (A.length + 1)), .ref 33, .ref 34, .ref 35, .ref 36, .ref 37, .ref 38, .ref 39, .ref 40, .int (nI (k + 1)), .int (nI r.length), .int 0, .ref 41, .ref 42, .ref 43, .ref 44, .ref 45, .ref 46, .ref 47, .ref 48, .int y33, .ref 49, .ref 50, .int y36, .int y37, .int y38, .int y39, .int (nI hc), .ref 51]) d14_36_126 f14_133_12 k24 (by omega) (show 24 < M.1 by omega) (Nat.le_of_ble_eq_true rfl) rfl rfl rfl ?_
  refine xj_abs_set (fun M1 hs1 ha1 ho1 => ?_)
  refine xj_iconst (v := 0) d14_36_129 (by decide) ?_
  refine xj_istore (i := 4) (L' := [(4, .int 0), (3, .int f3), (2, .int (nI A.length)), (1, .int 1), (0, .ref 24)]) d14_36_130 (by decide) rfl ?_
  refine mCplL (n := n) (Mv := M1) (cs := cs) (m := A.length) hxn hn2 ha1 (by omega) (fun Md hsd hod had => ?_) 95 0 M1 (by omega) (by omega) (fun j _ => rfl) (by rw [xcmp_0]; exact ((ho1 40 (by omega)).trans k40))
  refine xj_aload_n (i := 0) d14_36_181 rfl rfl ?_
  refine xj_iload_n (i := 2) d14_36_182 rfl rfl ?_
  refine xj_callV (rest := []) (As := [.int (nI A.length)]) (b := 24) (mAddPE hg (M := Md) (n := n) (dl := dl) (pl := pl) (vc := vc) (tk := tk) (hc := hc) (sn := sn) (y24 := 0) (y33 := y33) (y36 := y36) (y37 := y37) (y38 := y38) (y39 := y39) (np := A.length + 1) (a := k + 1) (dp := r.length) (be := be) (fP := fP) (lP := lP) (nx := nx) (m := A.length) (show Md.1 = n by omega) (by omega) (by omega) (by omega) ((hod 24 (by omega)).trans ha1) (by omega) (by omega) ((hod 36 (by omega)).trans ((ho1 36 (by omega)).trans k36)) (by omega) (by omega) ((hod 41 (by omega)).trans ((ho1 41 (by omega)).trans k41)) (by omega) (by omega) ((hod 42 (by omega)).trans ((ho1 42 (by omega)).trans k42)) (by omega) (by omega) ((hod 35 (by omega)).trans ((ho1 35 (by omega)).trans k35)) hxn hn2 (by omega) (by omega) hb2) d14_36_183 wd14_22 ((hod 24 (by omega)).trans ha1) (by omega) (show 24 < Md.1 by omega) rfl s14_22 w1240 (Or.inl w1238) rfl rfl (Nat.le_of_ble_eq_true rfl) (by omega) (by omega) (by omega) ?_
  rintro v M2 ⟨rfl, hs2, ho2, hf2_0, hf2_1, hf2_2⟩
  replace hs2 : M2.1 = n := hs2
  replace hf2_0 : M2.2 36 = (.inl (0, 30, .inl (upd be A.length (lP r.length)))) := hf2_0
  replace hf2_1 : M2.2 41 = (.inl (0, 7, .inl (upd fP r.length (nI A.length)))) := hf2_1
  replace hf2_2 : M2.2 42 = (.inl (0, 7, .inl (upd lP r.length (nI A.length)))) := hf2_2
  refine xj_ret d14_36_186 (by omega) (by omega) rfl (K _ ⟨⟨(show M2.1 = M0.1 by omega), fun j h1 h2 h3 => ((ho2 j (by omega) (by omega) (by omega) (by omega)).trans ((hod j (by omega)).trans (ho1 j (by omega)))).trans (i2 j h1 h2 h3)⟩, ((ho2 32 (by omega) (by omega) (by omega) (by omega)).trans ((hod 32 (by omega)).trans (ho1 32 (by omega)))).trans k32, A.length + 1, kd, ch, nx, (upd be A.length (lP r.length)), lo, hi, wt, (xcmp cs (95 * A.length) 95), (upd fP r.length (nI A.length)), (upd lP r.length (nI A.length)), fB, lB, xlen1 A _, ((ho2 24 (by omega) (by omega) (by omega) (by omega)).trans ((hod 24 (by omega)).trans ha1)), ((ho2 33 (by omega) (by omega) (by omega) (by omega)).trans ((hod 33 (by omega)).trans ((ho1 33 (by omega)).trans k33))), ((ho2 34 (by omega) (by omega) (by omega) (by omega)).trans ((hod 34 (by omega)).trans ((ho1 34 (by omega)).trans k34))), ((ho2 35 (by omega) (by omega) (by omega) (by omega)).trans ((hod 35 (by omega)).trans ((ho1 35 (by omega)).trans k35))), hf2_0, ((ho2 37 (by omega) (by omega) (by omega) (by omega)).trans ((hod 37 (by omega)).trans ((ho1 37 (by omega)).trans k37))), ((ho2 38 (by omega) (by omega) (by omega) (by omega)).trans ((hod 38 (by omega)).trans ((ho1 38 (by omega)).trans k38))), ((ho2 39 (by omega) (by omega) (by omega) (by omega)).trans ((hod 39 (by omega)).trans ((ho1 39 (by omega)).trans k39))), ((ho2 40 (by omega) (by omega) (by omega) (by omega)).trans had), hf2_1, hf2_2, ((ho2 43 (by omega) (by omega) (by omega) (by omega)).trans ((hod 43 (by omega)).trans ((ho1 43 (by omega)).trans k43))), ((ho2 44 (by omega) (by omega) (by omega) (by omega)).trans ((hod 44 (by omega)).trans ((ho1 44 (by omega)).trans k44))), ?_, ?_⟩)
  · exact mA_piece hA hW (fun i hi => ⟨rfl, rfl, rfl, rfl, rfl, (fun c hc => if_neg (by omega))⟩) ⟨hN.1, hN.2.1, (fun _ c hc => xcmp_set hc (hN.2.2.2 c hc)), fun z => absurd z (show ¬ (1 : Nat) = 4 by decide), fun z => absurd z (show ¬ 5 ≤ 1 by decide)⟩ (fun c hc _ => rfl) (fun c hc => by rw [h0] at hc; cases hc) hN.2.2.1 (fun c hc => if_neg (by omega)) ((if_pos rfl).trans hlS.2.2.1) ((if_pos rfl).trans (if_pos h0).symm) (fun e he => if_neg (by omega)) (if_pos rfl) (fun e he => if_neg (by omega)) (fun _ _ => ⟨rfl, rfl⟩)
  · exact pW_leaf hW rfl (by omega) (by omega)
set_option maxRecDepth 20000 in
theorem rGoodCN {G : xG} (hg : xGood G) (hxn : xn = 16) {dl pl vc tk hc sn : Nat} {y33 y36 y37 y38 y39 : Int32} {fp : Nat → Int32} {M0 M : xM} (h52 : 52 ≤ M0.1) (hpl : pl ≤ 24) {a : Nat} {A : List xNode} {t : List Nat × List Nat} {r : List (List Nat × List Nat)} {k : Nat} {S : Nat → Bool} {f3 : Int32} (h : mB dl pl vc tk hc sn y33 y36 y37 y38 y39 fp M0 M (a, 0, A, t :: r) k S) (hkp : k < pl) (hak : a ≤ k) (h0 : ¬ t.2 = []) {d ce se cells slots : Nat} {Post : Option Value → xM → Prop} (hd : 4 ≤ d) (hcc : cells ≤ ce) (hss : slots ≤ se) (K : ∀ M' : xM, mR dl pl vc tk hc sn y33 y36 y37 y38 y39 fp M0 M' (k + 1, 0, A ++ [(1, 1, [], 0, 0, (fun k => !S k))], (t.1, t.2 ++ [A.length]) :: r) → Post none M') : XJ G Y14_36 d ce se cells slots 88 [(3, .int f3), (2, .int (nI A.length)), (1, .int 1), (0, .ref 24)] [] M Post := by
  obtain ⟨⟨i1, i2⟩, k32, kd, ch, nx, be, lo, hi, wt, cs, fP, lP, fB, lB, k24, k33, k34, k35, k36, k37, k38, k39, k40, k41, k42, k43, k44, hA, hW, hN⟩ := h
  replace k24 : M.2 24 = (.inr (12, [.ref 25, .ref 26, .ref 27, .ref 28, .ref 29, .ref 30, .int (nI sn), .int (nI vc), .int (nI tk), .ref 31, .int (nI dl), .ref 32, .int (nI pl), .int (nI (A.length + 1)), .ref 33, .ref 34, .ref 35, .ref 36, .ref 37, .ref 38, .ref 39, .ref 40, .int (nI k), .int (nI r.length), .int 0, .ref 41, .ref 42, .ref 43, .ref 44, .ref 45, .ref 46, .ref 47, .ref 48, .int y33, .ref 49, .ref 50, .int y36, .int y37, .int y38, .int y39, .int (nI hc), .ref 51])) := k24
  obtain ⟨g1, g2, g3⟩ := pW_tag hW
  have hlS := hA.2 r.length t plv_mine
  obtain ⟨ll, hl1, hl2, hl3, hb2⟩ := mA_last hA hW h0
  obtain ⟨n, hn⟩ : ∃ n, M.1 = n := ⟨_, rfl⟩
  have hn2 : 52 ≤ n := by omega
  refine xj_aload_n (i := 0) d14_36_88 rfl rfl ?_
  refine xj_get d14_36_89 f14_156_12 k24 (by omega) (show 24 < M.1 by omega) rfl ?_
  refine xj_if_ne (tgt := 111) d14_36_92 rfl (fun h => absurd (by decide) h) (fun _ => ?_)
  refine xj_aload_n (i := 0) d14_36_95 rfl rfl ?_
  refine xj_get d14_36_96 f14_133_12 k24 (by omega) (show 24 < M.1 by omega) rfl ?_
  refine xj_aload_n (i := 0) d14_36_99 rfl rfl ?_
  refine xj_get d14_36_100 f14_130_12 k24 (by omega) (show 24 < M.1 by omega) rfl ?_
  refine xj_icmp_lt (tgt := 111) d14_36_103 rfl (fun _ => ?_) (fun h => absurd (nI_lt (a := k) (b := pl) (by omega) (by omega)) h)
  refine xj_aload_n (i := 0) d14_36_111 rfl rfl ?_
  refine xj_get d14_36_112 f14_156_12 k24 (by omega) (show 24 < M.1 by omega) rfl ?_
  refine xj_if_eq (tgt := 119) d14_36_115 rfl (fun _ => ?_) (fun h => absurd (by decide) h)
  refine xj_aload_n (i := 0) d14_36_119 rfl rfl ?_
  refine xj_aload_n (i := 0) d14_36_120 rfl rfl ?_
  refine xj_get d14_36_121 f14_133_12 k24 (by omega) (show 24 < M.1 by omega) rfl ?_
  refine xj_iconst (v := 1) d14_36_124 (by decide) ?_
  refine xj_iadd (v := nI (k + 1)) d14_36_125 (nI_1 _) ?_
  refine xj_put (a := 24) (fs' := [.ref 25, .ref 26, .ref 27, .ref 28, .ref 29, .ref 30, .int (nI sn), .int (nI vc), .int (nI tk), .ref 31, .int (nI dl), .ref 32, .int (nI pl), .int (nI (A.length + 1)), .ref 33, .ref 34, .ref 35, .ref 36, .ref 37, .ref 38, .ref 39, .ref 40, .int (nI (k + 1)), .int (nI r.length), .int 0, .ref 41, .ref 42, .ref 43, .ref 44, .ref 45, .ref 46, .ref 47, .ref 48, .int y33, .ref 49, .ref 50, .int y36, .int y37, .int y38, .int y39, .int (nI hc), .ref 51]) d14_36_126 f14_133_12 k24 (by omega) (show 24 < M.1 by omega) (Nat.le_of_ble_eq_true rfl) rfl rfl rfl ?_
  refine xj_abs_set (fun M1 hs1 ha1 ho1 => ?_)
  refine xj_iconst (v := 0) d14_36_129 (by decide) ?_
  refine xj_istore (i := 4) (L' := [(4, .int 0), (3, .int f3), (2, .int (nI A.length)), (1, .int 1), (0, .ref 24)]) d14_36_130 (by decide) rfl ?_
  refine mCplL (n := n) (Mv := M1) (cs := cs) (m := A.length) hxn hn2 ha1 (by omega) (fun Md hsd hod had => ?_) 95 0 M1 (by omega) (by omega) (fun j _ => rfl) (by rw [xcmp_0]; exact ((ho1 40 (by omega)).trans k40))
  refine xj_aload_n (i := 0) d14_36_181 rfl rfl ?_
  refine xj_iload_n (i := 2) d14_36_182 rfl rfl ?_
  refine xj_callV (rest := []) (As := [.int (nI A.length)]) (b := 24) (mAddPN hg (M := Md) (n := n) (dl := dl) (pl := pl) (vc := vc) (tk := tk) (hc := hc) (sn := sn) (y24 := 0) (y33 := y33) (y36 := y36) (y37 := y37) (y38 := y38) (y39 := y39) (np := A.length + 1) (a := k + 1) (dp := r.length) (be := be) (fP := fP) (lP := lP) (nx := nx) (m := A.length) (ll := ll) (show Md.1 = n by omega) (by omega) (by omega) (by omega) ((hod 24 (by omega)).trans ha1) (by omega) (by omega) ((hod 36 (by omega)).trans ((ho1 36 (by omega)).trans k36)) (by omega) (by omega) ((hod 41 (by omega)).trans ((ho1 41 (by omega)).trans k41)) (by omega) (by omega) ((hod 42 (by omega)).trans ((ho1 42 (by omega)).trans k42)) (by omega) (by omega) ((hod 35 (by omega)).trans ((ho1 35 (by omega)).trans k35)) hxn hn2 (by omega) (by omega) hb2 hl2 (by omega)) d14_36_183 wd14_22 ((hod 24 (by omega)).trans ha1) (by omega) (show 24 < Md.1 by omega) rfl s14_22 w1240 (Or.inl w1238) rfl rfl (Nat.le_of_ble_eq_true rfl) (by omega) (by omega) (by omega) ?_
  rintro v M2 ⟨rfl, hs2, ho2, hf2_0, hf2_1, hf2_2⟩
  replace hs2 : M2.1 = n := hs2
  replace hf2_0 : M2.2 36 = (.inl (0, 30, .inl (upd be A.length (nI ll)))) := hf2_0
  replace hf2_1 : M2.2 35 = (.inl (0, 30, .inl (upd nx ll (nI A.length)))) := hf2_1
  replace hf2_2 : M2.2 42 = (.inl (0, 7, .inl (upd lP r.length (nI A.length)))) := hf2_2
  refine xj_ret d14_36_186 (by omega) (by omega) rfl (K _ ⟨⟨(show M2.1 = M0.1 by omega), fun j h1 h2 h3 => ((ho2 j (by omega) (by omega) (by omega) (by omega)).trans ((hod j (by omega)).trans (ho1 j (by omega)))).trans (i2 j h1 h2 h3)⟩, ((ho2 32 (by omega) (by omega) (by omega) (by omega)).trans ((hod 32 (by omega)).trans (ho1 32 (by omega)))).trans k32, A.length + 1, kd, ch, (upd nx ll (nI A.length)), (upd be A.length (nI ll)), lo, hi, wt, (xcmp cs (95 * A.length) 95), fP, (upd lP r.length (nI A.length)), fB, lB, xlen1 A _, ((ho2 24 (by omega) (by omega) (by omega) (by omega)).trans ((hod 24 (by omega)).trans ha1)), ((ho2 33 (by omega) (by omega) (by omega) (by omega)).trans ((hod 33 (by omega)).trans ((ho1 33 (by omega)).trans k33))), ((ho2 34 (by omega) (by omega) (by omega) (by omega)).trans ((hod 34 (by omega)).trans ((ho1 34 (by omega)).trans k34))), hf2_1, hf2_0, ((ho2 37 (by omega) (by omega) (by omega) (by omega)).trans ((hod 37 (by omega)).trans ((ho1 37 (by omega)).trans k37))), ((ho2 38 (by omega) (by omega) (by omega) (by omega)).trans ((hod 38 (by omega)).trans ((ho1 38 (by omega)).trans k38))), ((ho2 39 (by omega) (by omega) (by omega) (by omega)).trans ((hod 39 (by omega)).trans ((ho1 39 (by omega)).trans k39))), ((ho2 40 (by omega) (by omega) (by omega) (by omega)).trans had), ((ho2 41 (by omega) (by omega) (by omega) (by omega)).trans ((hod 41 (by omega)).trans ((ho1 41 (by omega)).trans k41))), hf2_2, ((ho2 43 (by omega) (by omega) (by omega) (by omega)).trans ((hod 43 (by omega)).trans ((ho1 43 (by omega)).trans k43))), ((ho2 44 (by omega) (by omega) (by omega) (by omega)).trans ((hod 44 (by omega)).trans ((ho1 44 (by omega)).trans k44))), ?_, ?_⟩)
  · exact mA_piece hA hW (fun i hi => ⟨rfl, rfl, rfl, rfl, rfl, (fun c hc => if_neg (by omega))⟩) ⟨hN.1, hN.2.1, (fun _ c hc => xcmp_set hc (hN.2.2.2 c hc)), fun z => absurd z (show ¬ (1 : Nat) = 4 by decide), fun z => absurd z (show ¬ 5 ≤ 1 by decide)⟩ (fun c hc hn9 => if_neg (fun z => hn9 (by rw [z]; exact hl1))) (fun c hc => if_pos (Option.some.inj (hc.trans hl1.symm))) ((if_neg (by omega)).trans hN.2.2.1) (fun c hc => if_neg (by omega)) ((if_pos rfl).trans (hl2.symm.trans hlS.2.2.1)) (if_neg h0).symm (fun e he => rfl) (if_pos rfl) (fun e he => if_neg (by omega)) (fun _ _ => ⟨rfl, rfl⟩)
  · exact pW_leaf hW rfl (by omega) (by omega)

/-- mR without the numbers' order -/
def mRq (dl pl vc tk hc sn : Nat) (y33 y36 y37 y38 y39 : Int32) (fp : Nat → Int32) (M0 M : xM) (σ : xSg) : Prop := (M.1 = M0.1 ∧ ∀ j, j < M0.1 → j ≠ 24 → j < 33 ∨ 44 < j → M.2 j = M0.2 j) ∧ M.2 32 = (.inl (0, 24, .inl fp)) ∧ ∃ (np : Nat) (kd ch nx be lo hi wt cs fP lP fB lB : Nat → Int32), np = σ.2.2.1.length ∧ M.2 24 = (.inr (12, [.ref 25, .ref 26, .ref 27, .ref 28, .ref 29, .ref 30, .int (nI sn), .int (nI vc), .int (nI tk), .ref 31, .int (nI dl), .ref 32, .int (nI pl), .int (nI np), .ref 33, .ref 34, .ref 35, .ref 36, .ref 37, .ref 38, .ref 39, .ref 40, .int (nI σ.1), .int (nI (σ.2.2.2.length - 1)), .int 0, .ref 41, .ref 42, .ref 43, .ref 44, .ref 45, .ref 46, .ref 47, .ref 48, .int y33, .ref 49, .ref 50, .int y36, .int y37, .int y38, .int y39, .int (nI hc), .ref 51])) ∧ M.2 33 = (.inl (0, 30, .inl kd)) ∧ M.2 34 = (.inl (0, 30, .inl ch)) ∧ M.2 35 = (.inl (0, 30, .inl nx)) ∧ M.2 36 = (.inl (0, 30, .inl be)) ∧ M.2 37 = (.inl (0, 30, .inl lo)) ∧ M.2 38 = (.inl (0, 30, .inl hi)) ∧ M.2 39 = (.inl (0, 30, .inl wt)) ∧ M.2 40 = (.inl (2, 2850, .inl cs)) ∧ M.2 41 = (.inl (0, 7, .inl fP)) ∧ M.2 42 = (.inl (0, 7, .inl lP)) ∧ M.2 43 = (.inl (0, 7, .inl fB)) ∧ M.2 44 = (.inl (0, 7, .inl lB)) ∧ mA kd ch nx be lo hi wt cs fP lP fB lB σ
/-- the reference has read -/
def mZ (dl pl vc tk hc sn : Nat) (y33 y36 y37 y38 y39 : Int32) (fp : Nat → Int32) (M0 M : xM) (σ : xSg) : Prop := (M.1 = M0.1 ∧ ∀ j, j < M0.1 → j ≠ 24 → j < 33 ∨ 44 < j → M.2 j = M0.2 j) ∧ M.2 32 = (.inl (0, 24, .inl fp)) ∧ ∃ (y13 y22 y23 : Int32) (kd ch nx be lo hi wt cs fP lP fB lB : Nat → Int32), M.2 24 = (.inr (12, [.ref 25, .ref 26, .ref 27, .ref 28, .ref 29, .ref 30, .int (nI sn), .int (nI vc), .int (nI tk), .ref 31, .int (nI dl), .ref 32, .int (nI pl), .int y13, .ref 33, .ref 34, .ref 35, .ref 36, .ref 37, .ref 38, .ref 39, .ref 40, .int y22, .int y23, .int σ.2.1, .ref 41, .ref 42, .ref 43, .ref 44, .ref 45, .ref 46, .ref 47, .ref 48, .int y33, .ref 49, .ref 50, .int y36, .int y37, .int y38, .int y39, .int (nI hc), .ref 51])) ∧ M.2 33 = (.inl (0, 30, .inl kd)) ∧ M.2 34 = (.inl (0, 30, .inl ch)) ∧ M.2 35 = (.inl (0, 30, .inl nx)) ∧ M.2 36 = (.inl (0, 30, .inl be)) ∧ M.2 37 = (.inl (0, 30, .inl lo)) ∧ M.2 38 = (.inl (0, 30, .inl hi)) ∧ M.2 39 = (.inl (0, 30, .inl wt)) ∧ M.2 40 = (.inl (2, 2850, .inl cs)) ∧ M.2 41 = (.inl (0, 7, .inl fP)) ∧ M.2 42 = (.inl (0, 7, .inl lP)) ∧ M.2 43 = (.inl (0, 7, .inl fB)) ∧ M.2 44 = (.inl (0, 7, .inl lB)) ∧ (σ.2.1 = 0 → (0 < σ.2.2.1.length ∧ σ.2.2.1.length ≤ 27) ∧ y13 = nI σ.2.2.1.length ∧ ∀ i q, σ.2.2.1[i]? = some q → nS kd ch nx lo hi wt cs i q ∧ ∀ c ∈ q.2.2.1, c < i)
theorem mZ_f {dl pl vc tk hc sn : Nat} {y33 y36 y37 y38 y39 : Int32} {fp : Nat → Int32} {M0 M : xM} {σ : xSg} {x : Int32} (h : mRf dl pl vc tk hc sn y33 y36 y37 y38 y39 fp M0 M x) (hx : σ.2.1 = x) (h0 : ¬ x = 0) : mZ dl pl vc tk hc sn y33 y36 y37 y38 y39 fp M0 M σ := by
  subst hx
  obtain ⟨i, k32, y13, y22, y23, kd, ch, nx, be, lo, hi, wt, cs, fP, lP, fB, lB, k24, k33, k34, k35, k36, k37, k38, k39, k40, k41, k42, k43, k44⟩ := h
  exact ⟨i, k32, y13, y22, y23, kd, ch, nx, be, lo, hi, wt, cs, fP, lP, fB, lB, k24, k33, k34, k35, k36, k37, k38, k39, k40, k41, k42, k43, k44, fun q => absurd q h0⟩
theorem rEndBq {G : xG} (hg : xGood G) (hxn : xn = 16) {dl pl vc tk hc sn : Nat} {y33 y36 y37 y38 y39 : Int32} {fp : Nat → Int32} {M0 M : xM} (h52 : 52 ≤ M0.1) {a : Nat} {A : List xNode} {t : List Nat × List Nat} {r : List (List Nat × List Nat)} (hR : mR dl pl vc tk hc sn y33 y36 y37 y38 y39 fp M0 M (a, 0, A, t :: r)) : XC G Y14_24 none 1 0 0 [.ref 24] M (fun v M' => v = none ∧ mRq dl pl vc tk hc sn y33 y36 y37 y38 y39 fp M0 M' (pEndB (a, 0, A, t :: r))) := by
  obtain ⟨⟨i1, i2⟩, k32, np, kd, ch, nx, be, lo, hi, wt, cs, fP, lP, fB, lB, hnp, k24, k33, k34, k35, k36, k37, k38, k39, k40, k41, k42, k43, k44, hA, hW⟩ := hR
  subst hnp
  replace k24 : M.2 24 = (.inr (12, [.ref 25, .ref 26, .ref 27, .ref 28, .ref 29, .ref 30, .int (nI sn), .int (nI vc), .int (nI tk), .ref 31, .int (nI dl), .ref 32, .int (nI pl), .int (nI A.length), .ref 33, .ref 34, .ref 35, .ref 36, .ref 37, .ref 38, .ref 39, .ref 40, .int (nI a), .int (nI r.length), .int 0, .ref 41, .ref 42, .ref 43, .ref 44, .ref 45, .ref 46, .ref 47, .ref 48, .int y33, .ref 49, .ref 50, .int y36, .int y37, .int y38, .int y39, .int (nI hc), .ref 51])) := k24
  obtain ⟨g1, g2, g3⟩ := pW_tag hW
  have hlS := hA.2 r.length t plv_mine
  have hm1 : ∀ c ∈ t.1, c < A.length := fun c hc => by
    obtain ⟨-, -, -, -, ow, w1, w2⟩ := hW
    exact ((w2 r.length t plv_mine).1 c hc).1
  have hm2 : ∀ c ∈ t.2, c < A.length := fun c hc => by
    obtain ⟨-, -, -, -, ow, w1, w2⟩ := hW
    exact ((w2 r.length t plv_mine).2.1 c hc).1
  by_cases h0 : t.1 = []
  · have hb : fB r.length = -1 := by have z := hlS.2.1; rw [h0] at z; exact z
    refine xc_wk (mEndBE hg (M := M) (n := M.1) (np := A.length) (a := a) (dp := r.length) (l := t.2) rfl (by omega) (by omega) (by omega) k24 (by omega) (by omega) k33 (by omega) (by omega) k34 (by omega) (by omega) k35 (by omega) (by omega) k39 (by omega) (by omega) k40 (by omega) (by omega) k41 (by omega) (by omega) k42 (by omega) (by omega) k43 (by omega) (by omega) k44 hxn (by omega) (by omega) (by omega) hlS.1 (fun c hc => by have := hm2 c hc; omega) hb) (Nat.le_refl _) (Nat.le_refl _) (Nat.le_refl _) ?_
    rintro v M' ⟨rfl, e1, e2, e33, e39, e34, e35, e40, e24, e43, e44, e41, e42⟩
    exact ⟨rfl, ⟨e1.trans i1, fun j h1 h2 h3 => (e2 j (by omega) (by omega) (by omega) (by omega) (by omega) (by omega) (by omega) (by omega) (by omega) (by omega) (by omega)).trans (i2 j h1 h2 h3)⟩, (e2 32 (by omega) (by omega) (by omega) (by omega) (by omega) (by omega) (by omega) (by omega) (by omega) (by omega) (by omega)).trans k32, A.length + 1, (upd kd A.length 5), (upd (upd ch A.length (-1)) A.length (fP r.length)), (upd nx A.length (-1)), be, lo, hi, (upd wt A.length (List.foldl (fun w p => w + wt p) 0 t.2)), (va_cpy (fun _ => 0) cs 0 (95 * A.length) 95), (upd fP r.length (-1)), (upd lP r.length (-1)), (upd fB r.length (nI A.length)), (upd lB r.length (nI A.length)), (xlen1 A _), e24, e33, e34, e35, (e2 36 (by omega) (by omega) (by omega) (by omega) (by omega) (by omega) (by omega) (by omega) (by omega) (by omega) (by omega)).trans k36, (e2 37 (by omega) (by omega) (by omega) (by omega) (by omega) (by omega) (by omega) (by omega) (by omega) (by omega) (by omega)).trans k37, (e2 38 (by omega) (by omega) (by omega) (by omega) (by omega) (by omega) (by omega) (by omega) (by omega) (by omega) (by omega)).trans k38, e39, e40, e41, e42, e43, e44, mA_endB hA hW (fun i hi => ⟨if_neg (by omega), if_neg (by omega), (if_neg (by omega)).trans (if_neg (by omega)), rfl, rfl, fun c hc => by rw [va_cpy, if_neg (by omega)]⟩) (if_pos rfl) ((if_pos rfl).trans (xfold_w t.2 0 (fun c hc => (mA_wt hA (hm2 c hc)).1))) (if_pos rfl) (fun c hc _ => if_neg (by omega)) (fun c hc => by rw [h0] at hc; cases hc) (if_pos rfl) ((if_pos rfl).trans (if_pos h0).symm) (fun e he => if_neg (by omega)) (if_pos rfl) (fun e he => if_neg (by omega)) ⟨if_pos rfl, if_pos rfl⟩ (fun e he => ⟨if_neg (by omega), if_neg (by omega)⟩)⟩
  · obtain ⟨b0, lb, hb0, hlb, hb1, hb2, hb3⟩ : ∃ b0 lb, fB r.length = nI b0 ∧ lB r.length = nI lb ∧ b0 < A.length ∧ lb < A.length ∧ some lb = t.1.getLast? := by
      rcases xsnoc t.1 with z | ⟨l9, y9, z⟩
      · exact absurd z h0
      · have hy : some y9 = t.1.getLast? := by rw [z, List.getLast?_concat]
        cases h9 : t.1 with
        | nil => exact absurd h9 h0
        | cons c9 l8 =>
          have q1 := hlS.2.1
          rw [h9] at q1
          refine ⟨c9, y9, q1.1, ?_, hm1 c9 (by rw [h9]; exact List.mem_cons_self), hm1 y9 (xlast_mem hy), by rw [← h9]; exact hy⟩
          rw [hlS.2.2.2.1, z, xla_app]
    refine xc_wk (mEndBN hg (M := M) (n := M.1) (np := A.length) (a := a) (dp := r.length) (l := t.2) (b0 := b0) (lb := lb) rfl (by omega) (by omega) (by omega) k24 (by omega) (by omega) k33 (by omega) (by omega) k34 (by omega) (by omega) k35 (by omega) (by omega) k39 (by omega) (by omega) k40 (by omega) (by omega) k41 (by omega) (by omega) k42 (by omega) (by omega) k43 (by omega) (by omega) k44 hxn (by omega) (by omega) (by omega) hlS.1 (fun c hc => by have := hm2 c hc; omega) hb0 (by omega) hlb (by omega)) (Nat.le_refl _) (Nat.le_refl _) (Nat.le_refl _) ?_
    rintro v M' ⟨rfl, e1, e2, e33, e39, e34, e35, e40, e24, e44, e41, e42⟩
    exact ⟨rfl, ⟨e1.trans i1, fun j h1 h2 h3 => (e2 j (by omega) (by omega) (by omega) (by omega) (by omega) (by omega) (by omega) (by omega) (by omega) (by omega)).trans (i2 j h1 h2 h3)⟩, (e2 32 (by omega) (by omega) (by omega) (by omega) (by omega) (by omega) (by omega) (by omega) (by omega) (by omega)).trans k32, A.length + 1, (upd kd A.length 5), (upd (upd ch A.length (-1)) A.length (fP r.length)), (upd (upd nx A.length (-1)) lb (nI A.length)), be, lo, hi, (upd wt A.length (List.foldl (fun w p => w + wt p) 0 t.2)), (va_cpy (fun _ => 0) cs 0 (95 * A.length) 95), (upd fP r.length (-1)), (upd lP r.length (-1)), fB, (upd lB r.length (nI A.length)), (xlen1 A _), e24, e33, e34, e35, (e2 36 (by omega) (by omega) (by omega) (by omega) (by omega) (by omega) (by omega) (by omega) (by omega) (by omega)).trans k36, (e2 37 (by omega) (by omega) (by omega) (by omega) (by omega) (by omega) (by omega) (by omega) (by omega) (by omega)).trans k37, (e2 38 (by omega) (by omega) (by omega) (by omega) (by omega) (by omega) (by omega) (by omega) (by omega) (by omega)).trans k38, e39, e40, e41, e42, (e2 43 (by omega) (by omega) (by omega) (by omega) (by omega) (by omega) (by omega) (by omega) (by omega) (by omega)).trans k43, e44, mA_endB hA hW (fun i hi => ⟨if_neg (by omega), if_neg (by omega), (if_neg (by omega)).trans (if_neg (by omega)), rfl, rfl, fun c hc => by rw [va_cpy, if_neg (by omega)]⟩) (if_pos rfl) ((if_pos rfl).trans (xfold_w t.2 0 (fun c hc => (mA_wt hA (hm2 c hc)).1))) (if_pos rfl) (fun c hc hn => (if_neg (fun z => hn (by rw [z]; exact hb3))).trans (if_neg (by omega))) (fun c hc => if_pos (Option.some.inj (hc.trans hb3.symm))) ((if_neg (by omega)).trans (if_pos rfl)) (if_neg h0).symm (fun e he => rfl) (if_pos rfl) (fun e he => if_neg (by omega)) ⟨if_pos rfl, if_pos rfl⟩ (fun e he => ⟨if_neg (by omega), if_neg (by omega)⟩)⟩
theorem rFinF {G : xG} (hxn : xn = 16) {dl pl vc tk hc sn : Nat} {y33 y36 y37 y38 y39 : Int32} {fp : Nat → Int32} {M0 M : xM} (h52 : 52 ≤ M0.1) {σ : xSg} {d ce se cells slots : Nat} {Post : Option Value → xM → Prop} (hd : 9 ≤ d) (hcc : cells ≤ ce) (hss : slots ≤ se) (hf : mRf dl pl vc tk hc sn y33 y36 y37 y38 y39 fp M0 M σ.2.1) (hx0 : ¬ σ.2.1 = 0) (K : ∀ M' : xM, mZ dl pl vc tk hc sn y33 y36 y37 y38 y39 fp M0 M' (pEnd σ) → Post none M') : XJ G Y14_40 d ce se cells slots 49 [(0, .ref 24)] [] M Post := by
  have hz0 : mZ dl pl vc tk hc sn y33 y36 y37 y38 y39 fp M0 M (pEnd σ) := by
    have hq : pEnd σ = σ := if_pos hx0
    rw [hq]
    exact mZ_f hf rfl hx0
  obtain ⟨x, hx⟩ : ∃ x, σ.2.1 = x := ⟨_, rfl⟩
  rw [hx] at hf hx0
  obtain ⟨⟨i1, -⟩, k32, y13, y22, y23, -, -, -, -, -, -, -, -, -, -, -, -, k24, -⟩ := hf
  refine xj_aload_n (i := 0) d14_40_49 rfl rfl ?_
  refine xj_get d14_40_50 f14_156_12 k24 (by omega) (show 24 < M.1 by omega) rfl ?_
  refine xj_if_eq (tgt := 57) d14_40_53 rfl (fun h => absurd h hx0) (fun _ => ?_)
  exact xj_ret d14_40_56 (by omega) (by omega) rfl (K M hz0)
theorem rFinG {G : xG} (hxn : xn = 16) {dl pl vc tk hc sn : Nat} {y33 y36 y37 y38 y39 : Int32} {fp : Nat → Int32} {M0 M : xM} (h52 : 52 ≤ M0.1) {a : Nat} {A : List xNode} {t t2 : List Nat × List Nat} {r2 : List (List Nat × List Nat)} {d ce se cells slots : Nat} {Post : Option Value → xM → Prop} (hd : 9 ≤ d) (hcc : cells ≤ ce) (hss : slots ≤ se) (hR0 : mR dl pl vc tk hc sn y33 y36 y37 y38 y39 fp M0 M (a, 0, A, t :: t2 :: r2)) (K : ∀ M' : xM, mZ dl pl vc tk hc sn y33 y36 y37 y38 y39 fp M0 M' (pEnd (a, 0, A, t :: t2 :: r2)) → Post none M') : XJ G Y14_40 d ce se cells slots 49 [(0, .ref 24)] [] M Post := by
  obtain ⟨⟨i1, i2⟩, k32, np, kd, ch, nx, be, lo, hi, wt, cs, fP, lP, fB, lB, hnp, k24, k33, k34, k35, k36, k37, k38, k39, k40, k41, k42, k43, k44, hA, hW⟩ := id hR0
  have hnp' : np = A.length := hnp
  subst hnp'
  replace k24 : M.2 24 = (.inr (12, [.ref 25, .ref 26, .ref 27, .ref 28, .ref 29, .ref 30, .int (nI sn), .int (nI vc), .int (nI tk), .ref 31, .int (nI dl), .ref 32, .int (nI pl), .int (nI A.length), .ref 33, .ref 34, .ref 35, .ref 36, .ref 37, .ref 38, .ref 39, .ref 40, .int (nI a), .int (nI (r2.length + 1)), .int 0, .ref 41, .ref 42, .ref 43, .ref 44, .ref 45, .ref 46, .ref 47, .ref 48, .int y33, .ref 49, .ref 50, .int y36, .int y37, .int y38, .int y39, .int (nI hc), .ref 51])) := k24
  obtain ⟨g1, g2, g3⟩ := pW_tag hW
  have g3b : r2.length + 1 ≤ 6 := g3
  refine xj_aload_n (i := 0) d14_40_49 rfl rfl ?_
  refine xj_get d14_40_50 f14_156_12 k24 (by omega) (show 24 < M.1 by omega) rfl ?_
  refine xj_if_eq (tgt := 57) d14_40_53 rfl (fun _ => ?_) (fun h => absurd (by decide) h)
  refine xj_aload_n (i := 0) d14_40_57 rfl rfl ?_
  refine xj_get d14_40_58 f14_139_12 k24 (by omega) (show 24 < M.1 by omega) rfl ?_
  refine xj_if_le (tgt := 72) d14_40_61 rfl (fun h => absurd h (nI_ge (a := 0) (b := r2.length + 1) (by omega) (by omega))) (fun _ => ?_)
  refine xj_aload_n (i := 0) d14_40_64 rfl rfl ?_
  refine xj_iconst (v := 2) d14_40_65 (by decide) ?_
  refine xj_put (a := 24) (fs' := [.ref 25, .ref 26, .ref 27, .ref 28, .ref 29, .ref 30, .int (nI sn), .int (nI vc), .int (nI tk), .ref 31, .int (nI dl), .ref 32, .int (nI pl), .int (nI A.length), .ref 33, .ref 34, .ref 35, .ref 36, .ref 37, .ref 38, .ref 39, .ref 40, .int (nI a), .int (nI (r2.length + 1)), .int 2, .ref 41, .ref 42, .ref 43, .ref 44, .ref 45, .ref 46, .ref 47, .ref 48, .int y33, .ref 49, .ref 50, .int y36, .int y37, .int y38, .int y39, .int (nI hc), .ref 51]) d14_40_66 f14_156_12 k24 (by omega) (show 24 < M.1 by omega) (Nat.le_of_ble_eq_true rfl) rfl rfl rfl ?_
  refine xj_abs_set (fun M1 hs1 ha1 ho1 => ?_)
  refine xj_goto (tgt := 117) d14_40_69 rfl ?_
  have hq : pEnd (a, 0, A, t :: t2 :: r2) = pFau (a, 0, A, t :: t2 :: r2) 2 := (if_neg (fun q => q rfl)).trans (if_pos (by show 1 < r2.length + 1 + 1; omega))
  exact xj_ret d14_40_117 (by omega) (by omega) rfl (K _ (mZ_f (mR_fa (x := 2) hR0 (show M1.1 = M.1 by omega) (fun j hj => (ho1 j (by omega))) ha1) (by rw [hq]; rfl) (by decide)))
set_option maxRecDepth 20000 in
set_option maxHeartbeats 1000000 in
theorem rFinN {G : xG} (hg : xGood G) (hxn : xn = 16) {dl pl vc tk hc sn : Nat} {y33 y36 y37 y38 y39 : Int32} {fp : Nat → Int32} {M0 M : xM} (h52 : 52 ≤ M0.1) {a : Nat} {A : List xNode} {t : List Nat × List Nat} {d ce se cells slots : Nat} {Post : Option Value → xM → Prop} (hd : 9 ≤ d) (hcc : cells ≤ ce) (hss : slots ≤ se) (hR0 : mR dl pl vc tk hc sn y33 y36 y37 y38 y39 fp M0 M (a, 0, A, t :: [])) (K : ∀ M' : xM, mZ dl pl vc tk hc sn y33 y36 y37 y38 y39 fp M0 M' (pEnd (a, 0, A, t :: [])) → Post none M') : XJ G Y14_40 d ce se cells slots 49 [(0, .ref 24)] [] M Post := by
  obtain ⟨⟨i1, i2⟩, k32, np, kd, ch, nx, be, lo, hi, wt, cs, fP, lP, fB, lB, hnp, k24, k33, k34, k35, k36, k37, k38, k39, k40, k41, k42, k43, k44, hA, hW⟩ := id hR0
  have hnp' : np = A.length := hnp
  subst hnp'
  replace k24 : M.2 24 = (.inr (12, [.ref 25, .ref 26, .ref 27, .ref 28, .ref 29, .ref 30, .int (nI sn), .int (nI vc), .int (nI tk), .ref 31, .int (nI dl), .ref 32, .int (nI pl), .int (nI A.length), .ref 33, .ref 34, .ref 35, .ref 36, .ref 37, .ref 38, .ref 39, .ref 40, .int (nI a), .int (nI 0), .int 0, .ref 41, .ref 42, .ref 43, .ref 44, .ref 45, .ref 46, .ref 47, .ref 48, .int y33, .ref 49, .ref 50, .int y36, .int y37, .int y38, .int y39, .int (nI hc), .ref 51])) := k24
  obtain ⟨g1, g2, g3⟩ := pW_tag hW
  have g1b : A.length + 0 ≤ a := g1
  obtain ⟨A1, hQ⟩ : ∃ A1, A ++ [(5, pSum A t.2, t.2, 0, 0, pNo)] = A1 := ⟨_, rfl⟩
  have hl1 : A1.length = A.length + 1 := by
    rw [← hQ, List.length_append]
    rfl
  obtain ⟨-, -, -, -, ow, w1, w2⟩ := id hW
  have wt1 := w2 0 t plv_mine
  have hbs : ∀ c ∈ t.1 ++ [A.length], c < A1.length := fun c hc => by
    rcases List.mem_append.mp hc with z | z
    · have z2 : c < A.length := (wt1.1 c z).1
      omega
    · have z2 : c = A.length := by simpa using z
      omega
  have hch1 : ∀ (i : Nat) (p : xNode), A1[i]? = some p → ∀ c ∈ p.2.2.1, c < i := fun i p hp c hc => by
    rw [← hQ] at hp
    by_cases hi9 : i < A.length
    · exact (w1 i p ((List.getElem?_append_left hi9).symm.trans hp) c hc).1
    · have hh := (List.getElem?_eq_some_iff.mp hp).1
      rw [List.length_append, List.length_singleton] at hh
      have hi8 : i = A.length := by omega
      rw [hi8, List.getElem?_append_right (Nat.le_refl _), Nat.sub_self] at hp
      have hqp : (5, pSum A t.2, t.2, 0, 0, pNo) = p := Option.some.inj hp
      rw [← hqp] at hc
      have z2 : c < A.length := (wt1.2.1 c hc).1
      omega
  refine xj_aload_n (i := 0) d14_40_49 rfl rfl ?_
  refine xj_get d14_40_50 f14_156_12 k24 (by omega) (show 24 < M.1 by omega) rfl ?_
  refine xj_if_eq (tgt := 57) d14_40_53 rfl (fun _ => ?_) (fun h => absurd (by decide) h)
  refine xj_aload_n (i := 0) d14_40_57 rfl rfl ?_
  refine xj_get d14_40_58 f14_139_12 k24 (by omega) (show 24 < M.1 by omega) rfl ?_
  refine xj_if_le (tgt := 72) d14_40_61 rfl (fun _ => ?_) (fun h => absurd (nI_le (a := 0) (b := 0) (by omega) (by omega)) h)
  refine xj_aload_n (i := 0) d14_40_72 rfl rfl ?_
  refine xj_callV (rest := []) (As := []) (b := 24) (mBare hg (M := M) (n := M.1) (dl := dl) (pl := pl) (vc := vc) (tk := tk) (hc := hc) (sn := sn) (y24 := 0) (y33 := y33) (y36 := y36) (y37 := y37) (y38 := y38) (y39 := y39) (np := A.length) (a := a) (dp := 0) (fP := fP) rfl (by omega) (by omega) (by omega) k24 (by omega) (by omega) k41 (by omega)) d14_40_73 wd14_21 k24 (by omega) (show 24 < M.1 by omega) rfl s14_21 w1224 (Or.inl w1222) rfl rfl (Nat.le_of_ble_eq_true rfl) (by omega) (by omega) (by omega) ?_
  rintro v M' ⟨rfl, hm⟩
  subst M'
  refine xj_if_eq (tgt := 87) d14_40_76 rfl (fun hb => ?_) (fun hb => ?_)
  · refine xj_aload_n (i := 0) d14_40_87 rfl rfl ?_
    refine xj_callV (rest := []) (As := []) (b := 24) (rEndBq hg hxn h52 hR0) d14_40_88 wd14_24 k24 (by omega) (show 24 < M.1 by omega) rfl s14_24 w1228 (Or.inl w1226) rfl rfl (Nat.le_of_ble_eq_true rfl) (by omega) (by omega) (by omega) ?_
    rintro v M1 ⟨rfl, hR1⟩
    have hR1b : mRq dl pl vc tk hc sn y33 y36 y37 y38 y39 fp M0 M1 (a, 0, A1, (t.1 ++ [A.length], []) :: []) := by rw [← hQ]; exact hR1
    obtain ⟨⟨j1, j2⟩, j32, np1, kd1, ch1, nx1, be1, lo1, hi1, wt1, cs1, fP1, lP1, fB1, lB1, hnp1, l24, l33, l34, l35, l36, l37, l38, l39, l40, l41, l42, l43, l44, hA1⟩ := hR1b
    have hnp2 : np1 = A1.length := hnp1
    subst hnp2
    replace l24 : M1.2 24 = (.inr (12, [.ref 25, .ref 26, .ref 27, .ref 28, .ref 29, .ref 30, .int (nI sn), .int (nI vc), .int (nI tk), .ref 31, .int (nI dl), .ref 32, .int (nI pl), .int (nI A1.length), .ref 33, .ref 34, .ref 35, .ref 36, .ref 37, .ref 38, .ref 39, .ref 40, .int (nI a), .int (nI 0), .int 0, .ref 41, .ref 42, .ref 43, .ref 44, .ref 45, .ref 46, .ref 47, .ref 48, .int y33, .ref 49, .ref 50, .int y36, .int y37, .int y38, .int y39, .int (nI hc), .ref 51])) := l24
    have htop := hA1.2 0 (t.1 ++ [A.length], []) plv_mine
    obtain ⟨n, hn⟩ : ∃ n, M1.1 = n := ⟨_, rfl⟩
    have hn2 : 52 ≤ n := by omega
    refine xj_aload_n (i := 0) d14_40_91 rfl rfl ?_
    refine xj_callV (rest := []) (As := []) (b := 24) (mWhole hg (M := M1) (n := n) (dl := dl) (pl := pl) (vc := vc) (tk := tk) (hc := hc) (sn := sn) (y24 := 0) (y33 := y33) (y36 := y36) (y37 := y37) (y38 := y38) (y39 := y39) (np := A1.length) (a := a) (dp := 0) (kd := kd1) (ch := ch1) (nx := nx1) (wt := wt1) (cs := cs1) (fB := fB1) (l := t.1 ++ [A.length]) (show M1.1 = n by omega) (by omega) (by omega) (by omega) l24 (by omega) (by omega) l33 (by omega) (by omega) l34 (by omega) (by omega) l35 (by omega) (by omega) l39 (by omega) (by omega) l40 (by omega) (by omega) l43 hxn hn2 (by omega) (by omega) htop.2.1 (fun c hc => by have := hbs c hc; omega)) d14_40_92 wd14_25 l24 (by omega) (show 24 < M1.1 by omega) rfl s14_25 w1236 (Or.inl w1234) rfl rfl (Nat.le_of_ble_eq_true rfl) (by omega) (by omega) (by omega) ?_
    rintro v M1 ⟨rfl, hs1, ho1, hf1_0, hf1_1, hf1_2, hf1_3, hf1_4, hf1_5⟩
    replace hs1 : M1.1 = n := hs1
    replace hf1_0 : M1.2 33 = (.inl (0, 30, .inl (upd kd1 A1.length 6))) := hf1_0
    replace hf1_1 : M1.2 39 = (.inl (0, 30, .inl (upd wt1 A1.length (List.foldl (fun w p => w + 1 + wt1 p) (-1) (t.1 ++ [A.length]))))) := hf1_1
    replace hf1_2 : M1.2 34 = (.inl (0, 30, .inl (upd (upd ch1 A1.length (-1)) A1.length (fB1 0)))) := hf1_2
    replace hf1_3 : M1.2 35 = (.inl (0, 30, .inl (upd nx1 A1.length (-1)))) := hf1_3
    replace hf1_4 : M1.2 40 = (.inl (2, 2850, .inl (va_cpy (fun _ => 0) cs1 0 (95 * A1.length) 95))) := hf1_4
    replace hf1_5 : M1.2 24 = (.inr (12, [.ref 25, .ref 26, .ref 27, .ref 28, .ref 29, .ref 30, .int (nI sn), .int (nI vc), .int (nI tk), .ref 31, .int (nI dl), .ref 32, .int (nI pl), .int (nI (A1.length + 1)), .ref 33, .ref 34, .ref 35, .ref 36, .ref 37, .ref 38, .ref 39, .ref 40, .int (nI a), .int (nI 0), .int 0, .ref 41, .ref 42, .ref 43, .ref 44, .ref 45, .ref 46, .ref 47, .ref 48, .int y33, .ref 49, .ref 50, .int y36, .int y37, .int y38, .int y39, .int (nI hc), .ref 51])) := hf1_5
    refine xj_istore_n (i := 1) (L' := [(1, .int (nI A1.length)), (0, .ref 24)]) d14_40_95 rfl (by decide) rfl ?_
    refine xj_aload_n (i := 0) d14_40_96 rfl rfl ?_
    refine xj_aload_n (i := 0) d14_40_97 rfl rfl ?_
    refine xj_get d14_40_98 f14_53_12 hf1_5 (by omega) (show 24 < M1.1 by omega) rfl ?_
    refine xj_iload_n (i := 1) d14_40_101 rfl rfl ?_
    refine xj_iaload (j := A1.length) d14_40_102 hf1_1 (by omega) (show 39 < M1.1 by omega) (vp_in_nI (by omega) (by omega)) (nI_clamp (by omega)) ?_
    refine xj_bipush (v := 60) d14_40_103 (by decide) ?_
    refine xj_icmp_le (tgt := 113) d14_40_105 rfl (fun hw => ?_) (fun hw => ?_)
    · refine xj_iconst (v := 0) d14_40_113 (by decide) ?_
      refine xj_put (a := 24) (fs' := [.ref 25, .ref 26, .ref 27, .ref 28, .ref 29, .ref 30, .int (nI sn), .int (nI vc), .int (nI tk), .ref 31, .int (nI dl), .ref 32, .int (nI pl), .int (nI (A1.length + 1)), .ref 33, .ref 34, .ref 35, .ref 36, .ref 37, .ref 38, .ref 39, .ref 40, .int (nI a), .int (nI 0), .int 0, .ref 41, .ref 42, .ref 43, .ref 44, .ref 45, .ref 46, .ref 47, .ref 48, .int y33, .ref 49, .ref 50, .int y36, .int y37, .int y38, .int y39, .int (nI hc), .ref 51]) d14_40_114 f14_156_12 hf1_5 (by omega) (show 24 < M1.1 by omega) (Nat.le_of_ble_eq_true rfl) rfl rfl rfl ?_
      refine xj_abs_set (fun M2 hs2 ha2 ho2 => ?_)
      have hbare : ¬ t.2 = [] := fun q => xB_n hb (by have z := (mA_bare hA q).1; have z2 : fP 0 = -1 := z; rw [z2]; decide)
      have hwt : (upd wt1 A1.length (List.foldl (fun w p => w + 1 + wt1 p) (-1) (t.1 ++ [A.length]))) A1.length = pSumG A1 (t.1 ++ [A.length]) := (if_pos rfl).trans (xfold_g _ _ (fun c hc => (mA_wt hA1 (hbs c hc)).1))
      rw [hwt] at hw
      have hq : pEnd (a, 0, A, t :: []) = (a, 0, A1 ++ [(6, pSumG A1 (t.1 ++ [A.length]), t.1 ++ [A.length], 0, 0, pNo)], (t.1 ++ [A.length], []) :: []) := by rw [← hQ] at hw ⊢; exact (if_neg (fun q => q rfl)).trans ((if_neg (Nat.lt_irrefl 1)).trans ((if_neg hbare).trans (congrArg (fun z => (a, z, A ++ [(5, pSum A t.2, t.2, 0, 0, pNo)] ++ [(6, pSumG (A ++ [(5, pSum A t.2, t.2, 0, 0, pNo)]) (t.1 ++ [A.length]), t.1 ++ [A.length], 0, 0, pNo)], (t.1 ++ [A.length], []) :: [])) (if_neg (Int32.not_lt.mpr hw)))))
      refine xj_ret d14_40_117 (by omega) (by omega) rfl (K _ ?_)
      rw [hq]
      refine ⟨⟨(show M2.1 = M0.1 by omega), fun j h1 h2 h3 => ((ho2 j (by omega)).trans (ho1 j (by omega) (by omega) (by omega) (by omega) (by omega) (by omega) (by omega))).trans (j2 j h1 h2 h3)⟩, ((ho2 32 (by omega)).trans (ho1 32 (by omega) (by omega) (by omega) (by omega) (by omega) (by omega) (by omega))).trans j32, _, _, _, (upd kd1 A1.length 6), (upd (upd ch1 A1.length (-1)) A1.length (fB1 0)), (upd nx1 A1.length (-1)), be1, lo1, hi1, (upd wt1 A1.length (List.foldl (fun w p => w + 1 + wt1 p) (-1) (t.1 ++ [A.length]))), (va_cpy (fun _ => 0) cs1 0 (95 * A1.length) 95), fP1, lP1, fB1, lB1, ha2, ((ho2 33 (by omega)).trans hf1_0), ((ho2 34 (by omega)).trans hf1_2), ((ho2 35 (by omega)).trans hf1_3), ((ho2 36 (by omega)).trans ((ho1 36 (by omega) (by omega) (by omega) (by omega) (by omega) (by omega) (by omega)).trans l36)), ((ho2 37 (by omega)).trans ((ho1 37 (by omega) (by omega) (by omega) (by omega) (by omega) (by omega) (by omega)).trans l37)), ((ho2 38 (by omega)).trans ((ho1 38 (by omega) (by omega) (by omega) (by omega) (by omega) (by omega) (by omega)).trans l38)), ((ho2 39 (by omega)).trans hf1_1), ((ho2 40 (by omega)).trans hf1_4), ((ho2 41 (by omega)).trans ((ho1 41 (by omega) (by omega) (by omega) (by omega) (by omega) (by omega) (by omega)).trans l41)), ((ho2 42 (by omega)).trans ((ho1 42 (by omega) (by omega) (by omega) (by omega) (by omega) (by omega) (by omega)).trans l42)), ((ho2 43 (by omega)).trans ((ho1 43 (by omega) (by omega) (by omega) (by omega) (by omega) (by omega) (by omega)).trans l43)), ((ho2 44 (by omega)).trans ((ho1 44 (by omega) (by omega) (by omega) (by omega) (by omega) (by omega) (by omega)).trans l44)), fun q => ?_⟩
      refine ⟨⟨by show 0 < (A1 ++ [(6, pSumG A1 (t.1 ++ [A.length]), t.1 ++ [A.length], 0, 0, pNo)]).length; rw [← xlen1]; omega, by show (A1 ++ [(6, pSumG A1 (t.1 ++ [A.length]), t.1 ++ [A.length], 0, 0, pNo)]).length ≤ 27; rw [← xlen1]; omega⟩, congrArg nI (xlen1 A1 _), fun i p hp => ?_⟩
      have hp' : (A1 ++ [(6, pSumG A1 (t.1 ++ [A.length]), t.1 ++ [A.length], 0, 0, pNo)])[i]? = some p := hp
      by_cases hi9 : i < A1.length
      · have hpo : A1[i]? = some p := (List.getElem?_append_left hi9).symm.trans hp'
        refine ⟨nS_fr (hA1.1 i p hpo) (if_neg (by omega)) (if_neg (by omega)) (fun c hc => by rw [va_cpy, if_neg (by omega)]) ((if_neg (by omega)).trans (if_neg (by omega))) rfl rfl (fun c hc => if_neg (by have := hch1 i p hpo c hc; omega)), hch1 i p hpo⟩
      · have hh := (List.getElem?_eq_some_iff.mp hp').1
        rw [List.length_append, List.length_singleton] at hh
        have hi8 : i = A1.length := by omega
        rw [hi8, List.getElem?_append_right (Nat.le_refl _), Nat.sub_self] at hp'
        have hqp : (6, pSumG A1 (t.1 ++ [A.length]), t.1 ++ [A.length], 0, 0, pNo) = p := Option.some.inj hp'
        rw [hi8, ← hqp]
        exact ⟨⟨if_pos rfl, hwt, fun z => absurd z (show ¬ (6 : Nat) = 1 by decide), fun z => absurd z (show ¬ (6 : Nat) = 4 by decide), fun _ => by rw [show (upd (upd ch1 A1.length (-1)) A1.length (fB1 0)) A1.length = fB1 0 from if_pos rfl]; exact xCn_fr htop.2.1 (fun c hc => if_neg (by have := hbs c hc; omega))⟩, hbs⟩
    · refine xj_bipush (v := 9) d14_40_108 (by decide) ?_
      refine xj_goto (tgt := 114) d14_40_110 rfl ?_
      refine xj_put (a := 24) (fs' := [.ref 25, .ref 26, .ref 27, .ref 28, .ref 29, .ref 30, .int (nI sn), .int (nI vc), .int (nI tk), .ref 31, .int (nI dl), .ref 32, .int (nI pl), .int (nI (A1.length + 1)), .ref 33, .ref 34, .ref 35, .ref 36, .ref 37, .ref 38, .ref 39, .ref 40, .int (nI a), .int (nI 0), .int 9, .ref 41, .ref 42, .ref 43, .ref 44, .ref 45, .ref 46, .ref 47, .ref 48, .int y33, .ref 49, .ref 50, .int y36, .int y37, .int y38, .int y39, .int (nI hc), .ref 51]) d14_40_114 f14_156_12 hf1_5 (by omega) (show 24 < M1.1 by omega) (Nat.le_of_ble_eq_true rfl) rfl rfl rfl ?_
      refine xj_abs_set (fun M3 hs3 ha3 ho3 => ?_)
      have hbare : ¬ t.2 = [] := fun q => xB_n hb (by have z := (mA_bare hA q).1; have z2 : fP 0 = -1 := z; rw [z2]; decide)
      have hwt : (upd wt1 A1.length (List.foldl (fun w p => w + 1 + wt1 p) (-1) (t.1 ++ [A.length]))) A1.length = pSumG A1 (t.1 ++ [A.length]) := (if_pos rfl).trans (xfold_g _ _ (fun c hc => (mA_wt hA1 (hbs c hc)).1))
      rw [hwt] at hw
      have hq : pEnd (a, 0, A, t :: []) = (a, 9, A1 ++ [(6, pSumG A1 (t.1 ++ [A.length]), t.1 ++ [A.length], 0, 0, pNo)], (t.1 ++ [A.length], []) :: []) := by rw [← hQ] at hw ⊢; exact (if_neg (fun q => q rfl)).trans ((if_neg (Nat.lt_irrefl 1)).trans ((if_neg hbare).trans (congrArg (fun z => (a, z, A ++ [(5, pSum A t.2, t.2, 0, 0, pNo)] ++ [(6, pSumG (A ++ [(5, pSum A t.2, t.2, 0, 0, pNo)]) (t.1 ++ [A.length]), t.1 ++ [A.length], 0, 0, pNo)], (t.1 ++ [A.length], []) :: [])) (if_pos (Int32.not_le.mp hw)))))
      refine xj_ret d14_40_117 (by omega) (by omega) rfl (K _ ?_)
      rw [hq]
      refine ⟨⟨(show M3.1 = M0.1 by omega), fun j h1 h2 h3 => ((ho3 j (by omega)).trans (ho1 j (by omega) (by omega) (by omega) (by omega) (by omega) (by omega) (by omega))).trans (j2 j h1 h2 h3)⟩, ((ho3 32 (by omega)).trans (ho1 32 (by omega) (by omega) (by omega) (by omega) (by omega) (by omega) (by omega))).trans j32, _, _, _, (upd kd1 A1.length 6), (upd (upd ch1 A1.length (-1)) A1.length (fB1 0)), (upd nx1 A1.length (-1)), be1, lo1, hi1, (upd wt1 A1.length (List.foldl (fun w p => w + 1 + wt1 p) (-1) (t.1 ++ [A.length]))), (va_cpy (fun _ => 0) cs1 0 (95 * A1.length) 95), fP1, lP1, fB1, lB1, ha3, ((ho3 33 (by omega)).trans hf1_0), ((ho3 34 (by omega)).trans hf1_2), ((ho3 35 (by omega)).trans hf1_3), ((ho3 36 (by omega)).trans ((ho1 36 (by omega) (by omega) (by omega) (by omega) (by omega) (by omega) (by omega)).trans l36)), ((ho3 37 (by omega)).trans ((ho1 37 (by omega) (by omega) (by omega) (by omega) (by omega) (by omega) (by omega)).trans l37)), ((ho3 38 (by omega)).trans ((ho1 38 (by omega) (by omega) (by omega) (by omega) (by omega) (by omega) (by omega)).trans l38)), ((ho3 39 (by omega)).trans hf1_1), ((ho3 40 (by omega)).trans hf1_4), ((ho3 41 (by omega)).trans ((ho1 41 (by omega) (by omega) (by omega) (by omega) (by omega) (by omega) (by omega)).trans l41)), ((ho3 42 (by omega)).trans ((ho1 42 (by omega) (by omega) (by omega) (by omega) (by omega) (by omega) (by omega)).trans l42)), ((ho3 43 (by omega)).trans ((ho1 43 (by omega) (by omega) (by omega) (by omega) (by omega) (by omega) (by omega)).trans l43)), ((ho3 44 (by omega)).trans ((ho1 44 (by omega) (by omega) (by omega) (by omega) (by omega) (by omega) (by omega)).trans l44)), fun q => ?_⟩
      exact absurd q (show ¬ (9 : Int32) = 0 by decide)
  · refine xj_aload_n (i := 0) d14_40_79 rfl rfl ?_
    refine xj_iconst (v := 1) d14_40_80 (by decide) ?_
    refine xj_put (a := 24) (fs' := [.ref 25, .ref 26, .ref 27, .ref 28, .ref 29, .ref 30, .int (nI sn), .int (nI vc), .int (nI tk), .ref 31, .int (nI dl), .ref 32, .int (nI pl), .int (nI A.length), .ref 33, .ref 34, .ref 35, .ref 36, .ref 37, .ref 38, .ref 39, .ref 40, .int (nI a), .int (nI 0), .int 1, .ref 41, .ref 42, .ref 43, .ref 44, .ref 45, .ref 46, .ref 47, .ref 48, .int y33, .ref 49, .ref 50, .int y36, .int y37, .int y38, .int y39, .int (nI hc), .ref 51]) d14_40_81 f14_156_12 k24 (by omega) (show 24 < M.1 by omega) (Nat.le_of_ble_eq_true rfl) rfl rfl rfl ?_
    refine xj_abs_set (fun M4 hs4 ha4 ho4 => ?_)
    refine xj_goto (tgt := 117) d14_40_84 rfl ?_
    have hbare : t.2 = [] := Classical.byContradiction fun q => by obtain ⟨ll, -, -, -, z⟩ := mA_last hA hW q; exact z (xB_y hb)
    have hq : pEnd (a, 0, A, t :: []) = pFau (a, 0, A, t :: []) 1 := (if_neg (fun q => q rfl)).trans ((if_neg (Nat.lt_irrefl 1)).trans (if_pos hbare))
    exact xj_ret d14_40_117 (by omega) (by omega) rfl (K _ (mZ_f (mR_fa (x := 1) hR0 (show M4.1 = M.1 by omega) (fun j hj => (ho4 j (by omega))) ha4) (by rw [hq]; rfl) (by decide)))

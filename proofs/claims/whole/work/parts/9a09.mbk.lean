theorem xtri {q : Nat × Int32 × (Nat → Bool)} (h : q.2.1 = 0) : q = (q.1, 0, q.2.2) := by
  obtain ⟨a, b, c⟩ := q
  have hb : b = 0 := h
  rw [hb]
theorem mA_new {a : Nat} {x : Int32} {A : List xNode} {t : List Nat × List Nat} {r : List (List Nat × List Nat)} {kd ch nx be lo hi wt cs fP lP fB lB : Nat → Int32} {z w : Int32} (hA : mA kd ch nx be lo hi wt cs fP lP fB lB (a, x, A, t :: r)) (hW : pW (a, x, A, t :: r)) : mA (upd kd A.length z) (upd ch A.length (-1)) (upd nx A.length (-1)) be lo hi (upd wt A.length w) (va_cpy (fun _ => 0) cs 0 (95 * A.length) 95) fP lP fB lB (a, x, A, t :: r) := by
  obtain ⟨-, -, -, -, ow, w1, w2⟩ := hW
  refine ⟨fun i q hq => ?_, fun e v hv => ?_⟩
  · have hi9 : i < A.length := (List.getElem?_eq_some_iff.mp hq).1
    exact nS_fr (hA.1 i q hq) (if_neg (by omega)) (if_neg (by omega)) (fun c hc => by rw [va_cpy, if_neg (by omega)]) (if_neg (by omega)) rfl rfl (fun c hc => if_neg (by have := (w1 i q hq c hc).1; omega))
  · have wv := w2 e v hv
    exact lS_fr (hA.2 e v hv) (fun c hc => if_neg (Nat.ne_of_lt (wv.1 c hc).1)) (fun c hc => if_neg (Nat.ne_of_lt (wv.2.1 c hc).1)) (fun _ _ => rfl) rfl rfl rfl rfl
theorem pNam_in {fp : Nat → Int32} {pl k : Nat} {c1 c2 c3 c4 c5 : Int32} (h : pNam fp pl k c1 c2 c3 c4 c5) : k + 6 < pl := pch_in h.2.2.2.2.2.2 (by decide)
theorem pItem_le {fp : Nat → Int32} {pl k : Nat} {S : Nat → Bool} (hk : k < pl) (h0 : (pItem fp pl (k, 0, S)).2.1 = 0) : k < (pItem fp pl (k, 0, S)).1 ∧ (pItem fp pl (k, 0, S)).1 ≤ pl := by
  unfold pItem at h0 ⊢
  by_cases c1 : pch fp pl k = 91 ∧ pch fp pl (k + 1) = 58
  · rw [if_pos c1] at h0 ⊢
    by_cases hany : pAlp fp pl (k + 2) ∨ pLow fp pl (k + 2) ∨ pUpp fp pl (k + 2) ∨ pDgt fp pl (k + 2)
    · rw [if_pos hany]
      have h8 : k + 2 + 6 < pl := hany.elim pNam_in (fun z => z.elim pNam_in (fun z => z.elim pNam_in pNam_in))
      exact ⟨by show k < k + 9; omega, by show k + 9 ≤ pl; omega⟩
    · rw [if_neg hany] at h0
      exact absurd h0 (show ¬ (5 : Int32) = 0 by decide)
  · rw [if_neg c1] at h0 ⊢
    by_cases c2 : pch fp pl k = 91 ∧ (pch fp pl (k + 1) = 46 ∨ pch fp pl (k + 1) = 61)
    · rw [if_pos c2] at h0
      exact absurd h0 (show ¬ (6 : Int32) = 0 by decide)
    · rw [if_neg c2] at h0 ⊢
      by_cases c3 : pch fp pl (k + 1) = 45 ∧ ¬ pch fp pl (k + 2) = 0 ∧ ¬ pch fp pl (k + 2) = 93
      · rw [if_pos c3] at h0 ⊢
        have hk2 : k + 2 < pl := pch_in rfl c3.2.1
        by_cases c4 : pch fp pl (k + 2) < pch fp pl k
        · rw [if_pos c4] at h0
          exact absurd h0 (show ¬ (5 : Int32) = 0 by decide)
        · rw [if_neg c4]
          exact ⟨by show k < k + 3; omega, by show k + 3 ≤ pl; omega⟩
      · rw [if_neg c3]
        exact ⟨by show k < k + 1; omega, by show k + 1 ≤ pl; omega⟩
theorem rItmF {G : xG} (hxn : xn = 16) {dl pl vc tk hc sn : Nat} {y33 y36 y37 y38 y39 : Int32} {fp : Nat → Int32} {M0 M : xM} (h52 : 52 ≤ M0.1) {A : List xNode} {x nf : Int32} {d ce se cells slots : Nat} {Post : Option Value → xM → Prop} (hf : mRf dl pl vc tk hc sn y33 y36 y37 y38 y39 fp M0 M x) (hx0 : ¬ x = 0) (K : XJ G Y14_36 d ce se cells slots 88 [(3, .int 0), (2, .int (nI A.length)), (1, .int nf), (0, .ref 24)] [] M Post) : XJ G Y14_36 d ce se cells slots 46 [(3, .int 0), (2, .int (nI A.length)), (1, .int nf), (0, .ref 24)] [] M Post := by
  obtain ⟨⟨i1, -⟩, k32, y13, y22, y23, -, -, -, -, -, -, -, -, -, -, -, -, k24, -⟩ := hf
  refine xj_aload_n (i := 0) d14_36_46 rfl rfl ?_
  refine xj_get d14_36_47 f14_156_12 k24 (by omega) (show 24 < M.1 by omega) rfl ?_
  refine xj_if_ne (tgt := 88) d14_36_50 rfl (fun _ => ?_) (fun h => absurd h hx0)
  exact K
set_option maxHeartbeats 1000000 in
theorem rItmL {G : xG} (hg : xGood G) (hxn : xn = 16) {dl pl vc tk hc sn : Nat} {y33 y36 y37 y38 y39 : Int32} {fp : Nat → Int32} {M0 M : xM} (h52 : 52 ≤ M0.1) (hpl : pl ≤ 24) (hPR : ∀ j, j < pl → ∃ u1, u1 < 95 ∧ fp j = nI (u1 + 32)) {a : Nat} {A : List xNode} {t : List Nat × List Nat} {r : List (List Nat × List Nat)} {nf : Int32} {d ce se cells slots : Nat} {Post : Option Value → xM → Prop} (hd : 4 ≤ d) (hcc : cells ≤ ce) (hss : slots ≤ se) : ∀ (m : Nat) (b : Bool) (f3 : Int32) (k : Nat) (S : Nat → Bool) (M : xM), f3 = (if b = true then 1 else 0) → mB dl pl vc tk hc sn y33 y36 y37 y38 y39 fp M0 M (a, 0, A, t :: r) k S → pl ≤ k + m → k ≤ pl → (∀ (M' : xM) (f9 : Int32), ((pItems fp pl m b (k, 0, S)).2.1 = 0 → mB dl pl vc tk hc sn y33 y36 y37 y38 y39 fp M0 M' (a, 0, A, t :: r) (pItems fp pl m b (k, 0, S)).1 (pItems fp pl m b (k, 0, S)).2.2) ∧ (¬ (pItems fp pl m b (k, 0, S)).2.1 = 0 → mRf dl pl vc tk hc sn y33 y36 y37 y38 y39 fp M0 M' (pItems fp pl m b (k, 0, S)).2.1) → XJ G Y14_36 d ce se cells slots 88 [(3, .int f9), (2, .int (nI A.length)), (1, .int nf), (0, .ref 24)] [] M' Post) → XJ G Y14_36 d ce se cells slots 46 [(3, .int f3), (2, .int (nI A.length)), (1, .int nf), (0, .ref 24)] [] M Post := by
  intro m
  induction m with
  | zero =>
    intro b f3 k S M hf3 hB hm hkp K
    obtain ⟨i1, k24, k32⟩ := mB_24 hB
    replace k24 : M.2 24 = (.inr (12, [.ref 25, .ref 26, .ref 27, .ref 28, .ref 29, .ref 30, .int (nI sn), .int (nI vc), .int (nI tk), .ref 31, .int (nI dl), .ref 32, .int (nI pl), .int (nI (A.length + 1)), .ref 33, .ref 34, .ref 35, .ref 36, .ref 37, .ref 38, .ref 39, .ref 40, .int (nI k), .int (nI r.length), .int 0, .ref 41, .ref 42, .ref 43, .ref 44, .ref 45, .ref 46, .ref 47, .ref 48, .int y33, .ref 49, .ref 50, .int y36, .int y37, .int y38, .int y39, .int (nI hc), .ref 51])) := k24
    have hset : pItems fp pl 0 b (k, 0, S) = (k, 0, S) := rfl
    refine xj_aload_n (i := 0) d14_36_46 rfl rfl ?_
    refine xj_get d14_36_47 f14_156_12 k24 (by omega) (show 24 < M.1 by omega) rfl ?_
    refine xj_if_ne (tgt := 88) d14_36_50 rfl (fun h => absurd (by decide) h) (fun _ => ?_)
    refine xj_aload_n (i := 0) d14_36_53 rfl rfl ?_
    refine xj_get d14_36_54 f14_133_12 k24 (by omega) (show 24 < M.1 by omega) rfl ?_
    refine xj_aload_n (i := 0) d14_36_57 rfl rfl ?_
    refine xj_get d14_36_58 f14_130_12 k24 (by omega) (show 24 < M.1 by omega) rfl ?_
    refine xj_icmp_ge (tgt := 88) d14_36_61 rfl (fun _ => ?_) (fun h => absurd (nI_le (a := pl) (b := k) (by omega) (by omega)) h)
    exact K M f3 (by rw [hset]; exact ⟨fun _ => hB, fun q => absurd rfl q⟩)
  | succ m ih =>
    intro b f3 k S M hf3 hB hm hkp K
    obtain ⟨i1, k24, k32⟩ := mB_24 hB
    replace k24 : M.2 24 = (.inr (12, [.ref 25, .ref 26, .ref 27, .ref 28, .ref 29, .ref 30, .int (nI sn), .int (nI vc), .int (nI tk), .ref 31, .int (nI dl), .ref 32, .int (nI pl), .int (nI (A.length + 1)), .ref 33, .ref 34, .ref 35, .ref 36, .ref 37, .ref 38, .ref 39, .ref 40, .int (nI k), .int (nI r.length), .int 0, .ref 41, .ref 42, .ref 43, .ref 44, .ref 45, .ref 46, .ref 47, .ref 48, .int y33, .ref 49, .ref 50, .int y36, .int y37, .int y38, .int y39, .int (nI hc), .ref 51])) := k24
    have hnext : k < pl → (b = true ∨ ¬ pch fp pl k = 93) → ∀ M1 : xM, ((pItem fp pl (k, 0, S)).2.1 = 0 → mB dl pl vc tk hc sn y33 y36 y37 y38 y39 fp M0 M1 (a, 0, A, t :: r) (pItem fp pl (k, 0, S)).1 (pItem fp pl (k, 0, S)).2.2) → (¬ (pItem fp pl (k, 0, S)).2.1 = 0 → mRf dl pl vc tk hc sn y33 y36 y37 y38 y39 fp M0 M1 (pItem fp pl (k, 0, S)).2.1) → XJ G Y14_36 d ce se cells slots 46 [(3, .int 0), (2, .int (nI A.length)), (1, .int nf), (0, .ref 24)] [] M1 Post := by
      intro hlt hbb M1 hi1 hi2
      have hset : pItems fp pl (m + 1) b (k, 0, S) = pItems fp pl m false (pItem fp pl (k, 0, S)) := if_pos ⟨rfl, hlt, hbb⟩
      by_cases hz : (pItem fp pl (k, 0, S)).2.1 = 0
      · have hle := pItem_le hlt hz
        have hset2 : pItem fp pl (k, 0, S) = ((pItem fp pl (k, 0, S)).1, 0, (pItem fp pl (k, 0, S)).2.2) := xtri hz
        refine ih false 0 _ _ M1 rfl (hi1 hz) (by omega) hle.2 (fun M' f9 e9 => K M' f9 ?_)
        rw [hset, hset2]
        exact e9
      · have hset2 : pItems fp pl m false (pItem fp pl (k, 0, S)) = pItem fp pl (k, 0, S) := by
          cases m with
          | zero => rfl
          | succ m => exact if_neg (fun q => hz q.1)
        refine rItmF hxn h52 (hi2 hz) hz (K M1 0 ?_)
        rw [hset, hset2]
        exact ⟨fun q => absurd q hz, fun _ => hi2 hz⟩
    by_cases hlt : k < pl
    · by_cases hb : b = true
      · have h1 : f3 = 1 := hf3.trans (if_pos hb)
        subst h1
        replace hnext := hnext hlt (Or.inl hb)
        refine xj_aload_n (i := 0) d14_36_46 rfl rfl ?_
        refine xj_get d14_36_47 f14_156_12 k24 (by omega) (show 24 < M.1 by omega) rfl ?_
        refine xj_if_ne (tgt := 88) d14_36_50 rfl (fun h => absurd (by decide) h) (fun _ => ?_)
        refine xj_aload_n (i := 0) d14_36_53 rfl rfl ?_
        refine xj_get d14_36_54 f14_133_12 k24 (by omega) (show 24 < M.1 by omega) rfl ?_
        refine xj_aload_n (i := 0) d14_36_57 rfl rfl ?_
        refine xj_get d14_36_58 f14_130_12 k24 (by omega) (show 24 < M.1 by omega) rfl ?_
        refine xj_icmp_ge (tgt := 88) d14_36_61 rfl (fun h => absurd h (nI_ge (a := k) (b := pl) (by omega) (by omega))) (fun _ => ?_)
        refine xj_iload_n (i := 3) d14_36_64 rfl rfl ?_
        refine xj_if_ne (tgt := 78) d14_36_65 rfl (fun _ => ?_) (fun h => absurd h (by decide))
        refine xj_aload_n (i := 0) d14_36_78 rfl rfl ?_
        refine xj_iload_n (i := 2) d14_36_79 rfl rfl ?_
        refine xj_callV (rest := []) (As := [.int (nI A.length)]) (b := 24) (rItem hg hxn h52 hpl hB (by omega) hlt hPR) d14_36_80 wd14_35 k24 (by omega) (show 24 < M.1 by omega) rfl s14_35 w1274 (Or.inl w1272) rfl rfl (Nat.le_of_ble_eq_true rfl) (by omega) (by omega) (by omega) ?_
        rintro v M1 ⟨rfl, hi1, hi2⟩
        refine xj_iconst (v := 0) d14_36_83 (by decide) ?_
        refine xj_istore_n (i := 3) (L' := [(3, .int 0), (2, .int (nI A.length)), (1, .int nf), (0, .ref 24)]) d14_36_84 rfl (by decide) rfl ?_
        refine xj_goto (tgt := 46) d14_36_85 rfl ?_
        exact hnext M1 hi1 hi2
      · have h1 : f3 = 0 := hf3.trans (if_neg hb)
        subst h1
        by_cases h93 : pch fp pl k = 93
        · have hset : pItems fp pl (m + 1) b (k, 0, S) = (k, 0, S) := if_neg (fun q => q.2.2.elim hb (fun z => z h93))
          refine xj_aload_n (i := 0) d14_36_46 rfl rfl ?_
          refine xj_get d14_36_47 f14_156_12 k24 (by omega) (show 24 < M.1 by omega) rfl ?_
          refine xj_if_ne (tgt := 88) d14_36_50 rfl (fun h => absurd (by decide) h) (fun _ => ?_)
          refine xj_aload_n (i := 0) d14_36_53 rfl rfl ?_
          refine xj_get d14_36_54 f14_133_12 k24 (by omega) (show 24 < M.1 by omega) rfl ?_
          refine xj_aload_n (i := 0) d14_36_57 rfl rfl ?_
          refine xj_get d14_36_58 f14_130_12 k24 (by omega) (show 24 < M.1 by omega) rfl ?_
          refine xj_icmp_ge (tgt := 88) d14_36_61 rfl (fun h => absurd h (nI_ge (a := k) (b := pl) (by omega) (by omega))) (fun _ => ?_)
          refine xj_iload_n (i := 3) d14_36_64 rfl rfl ?_
          refine xj_if_ne (tgt := 78) d14_36_65 rfl (fun h => absurd (by decide) h) (fun _ => ?_)
          refine xj_aload_n (i := 0) d14_36_68 rfl rfl ?_
          refine xj_iconst (v := 0) d14_36_69 (by decide) ?_
          refine xj_callV (rest := []) (As := [.int 0]) (b := 24) (mAhead0 hg (M := M) (n := M.1) (dl := dl) (pl := pl) (vc := vc) (tk := tk) (hc := hc) (sn := sn) (y24 := 0) (y33 := y33) (y36 := y36) (y37 := y37) (y38 := y38) (y39 := y39) (np := A.length + 1) (a := k) (dp := r.length) (fp := fp) rfl (by omega) (by omega) (by omega) k24 (by omega) (by omega) k32 (by omega) hpl) d14_36_70 wd14_19 k24 (by omega) (show 24 < M.1 by omega) rfl s14_19 w1216 (Or.inl w1214) rfl rfl (Nat.le_of_ble_eq_true rfl) (by omega) (by omega) (by omega) ?_
          rintro v M' ⟨rfl, hm⟩
          subst M'
          refine xj_bipush (v := 93) d14_36_73 (by decide) ?_
          refine xj_icmp_eq (tgt := 88) d14_36_75 rfl (fun _ => ?_) (fun h => absurd h93 h)
          exact K M 0 (by rw [hset]; exact ⟨fun _ => hB, fun q => absurd rfl q⟩)
        · replace hnext := hnext hlt (Or.inr h93)
          refine xj_aload_n (i := 0) d14_36_46 rfl rfl ?_
          refine xj_get d14_36_47 f14_156_12 k24 (by omega) (show 24 < M.1 by omega) rfl ?_
          refine xj_if_ne (tgt := 88) d14_36_50 rfl (fun h => absurd (by decide) h) (fun _ => ?_)
          refine xj_aload_n (i := 0) d14_36_53 rfl rfl ?_
          refine xj_get d14_36_54 f14_133_12 k24 (by omega) (show 24 < M.1 by omega) rfl ?_
          refine xj_aload_n (i := 0) d14_36_57 rfl rfl ?_
          refine xj_get d14_36_58 f14_130_12 k24 (by omega) (show 24 < M.1 by omega) rfl ?_
          refine xj_icmp_ge (tgt := 88) d14_36_61 rfl (fun h => absurd h (nI_ge (a := k) (b := pl) (by omega) (by omega))) (fun _ => ?_)
          refine xj_iload_n (i := 3) d14_36_64 rfl rfl ?_
          refine xj_if_ne (tgt := 78) d14_36_65 rfl (fun h => absurd (by decide) h) (fun _ => ?_)
          refine xj_aload_n (i := 0) d14_36_68 rfl rfl ?_
          refine xj_iconst (v := 0) d14_36_69 (by decide) ?_
          refine xj_callV (rest := []) (As := [.int 0]) (b := 24) (mAhead0 hg (M := M) (n := M.1) (dl := dl) (pl := pl) (vc := vc) (tk := tk) (hc := hc) (sn := sn) (y24 := 0) (y33 := y33) (y36 := y36) (y37 := y37) (y38 := y38) (y39 := y39) (np := A.length + 1) (a := k) (dp := r.length) (fp := fp) rfl (by omega) (by omega) (by omega) k24 (by omega) (by omega) k32 (by omega) hpl) d14_36_70 wd14_19 k24 (by omega) (show 24 < M.1 by omega) rfl s14_19 w1216 (Or.inl w1214) rfl rfl (Nat.le_of_ble_eq_true rfl) (by omega) (by omega) (by omega) ?_
          rintro v M' ⟨rfl, hm⟩
          subst M'
          refine xj_bipush (v := 93) d14_36_73 (by decide) ?_
          refine xj_icmp_eq (tgt := 88) d14_36_75 rfl (fun h => absurd h h93) (fun _ => ?_)
          refine xj_aload_n (i := 0) d14_36_78 rfl rfl ?_
          refine xj_iload_n (i := 2) d14_36_79 rfl rfl ?_
          refine xj_callV (rest := []) (As := [.int (nI A.length)]) (b := 24) (rItem hg hxn h52 hpl hB (by omega) hlt hPR) d14_36_80 wd14_35 k24 (by omega) (show 24 < M.1 by omega) rfl s14_35 w1274 (Or.inl w1272) rfl rfl (Nat.le_of_ble_eq_true rfl) (by omega) (by omega) (by omega) ?_
          rintro v M1 ⟨rfl, hi1, hi2⟩
          refine xj_iconst (v := 0) d14_36_83 (by decide) ?_
          refine xj_istore_n (i := 3) (L' := [(3, .int 0), (2, .int (nI A.length)), (1, .int nf), (0, .ref 24)]) d14_36_84 rfl (by decide) rfl ?_
          refine xj_goto (tgt := 46) d14_36_85 rfl ?_
          exact hnext M1 hi1 hi2
    · have hset : pItems fp pl (m + 1) b (k, 0, S) = (k, 0, S) := if_neg (fun q => hlt q.2.1)
      refine xj_aload_n (i := 0) d14_36_46 rfl rfl ?_
      refine xj_get d14_36_47 f14_156_12 k24 (by omega) (show 24 < M.1 by omega) rfl ?_
      refine xj_if_ne (tgt := 88) d14_36_50 rfl (fun h => absurd (by decide) h) (fun _ => ?_)
      refine xj_aload_n (i := 0) d14_36_53 rfl rfl ?_
      refine xj_get d14_36_54 f14_133_12 k24 (by omega) (show 24 < M.1 by omega) rfl ?_
      refine xj_aload_n (i := 0) d14_36_57 rfl rfl ?_
      refine xj_get d14_36_58 f14_130_12 k24 (by omega) (show 24 < M.1 by omega) rfl ?_
      refine xj_icmp_ge (tgt := 88) d14_36_61 rfl (fun _ => ?_) (fun h => absurd (nI_le (a := pl) (b := k) (by omega) (by omega)) h)
      exact K M f3 (by rw [hset]; exact ⟨fun _ => hB, fun q => absurd rfl q⟩)

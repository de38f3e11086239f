set_option maxRecDepth 20000 in
theorem wLetter {G : xG} (hg : xGood G) {M : xM} {n : Nat} (hn : M.1 = n) (hx : xn ≤ n) {o : Nat} {lt : Nat} {ln : Nat} {ct : Int32} {f : Nat → Int32} {k : Nat} {j : Nat} (h1_o : xn ≤ o) (h2_o : o < n) (h_o : M.2 o = (.inr (8, [.ref lt, .ref ln, .int ct]))) (h1_lt : xn ≤ lt) (h2_lt : lt < n) (h_lt : M.2 lt = (.inl (1, 60, .inl f))) (hkj : k * 12 + j < 60) (hch : ∀ x, ∃ u, u < 127 ∧ f x = nI u) : XC G Y12_4 (some .char) 0 0 0 [.ref o, .int (nI k), .int (nI j)] M (fun v M' => v = some (.int (f (k * 12 + j))) ∧ M' = M) := by
  refine xc_of hg (by decide) (Nat.le_of_ble_eq_true rfl) (Or.inr (Or.inr (Or.inl ⟨rfl, rfl, fun v M' h => ⟨_, h.1, (by obtain ⟨u, h1, h2⟩ := hch (k * 12 + j); rw [h2]; exact (pk_charN (by omega)).1)⟩⟩))) ?_
  refine xj_aload_n (i := 0) d12_4_0 rfl rfl ?_
  refine xj_get d12_4_1 f12_9_8 h_o (by omega) (show o < M.1 by omega) rfl ?_
  refine xj_iload_n (i := 1) d12_4_4 rfl rfl ?_
  refine xj_bipush (v := 12) d12_4_5 (by decide) ?_
  refine xj_imul (v := nI (k * 12)) d12_4_7 (pk_mul k 12) ?_
  refine xj_iload_n (i := 2) d12_4_8 rfl rfl ?_
  refine xj_iadd (v := nI (k * 12 + j)) d12_4_9 (nI_add (k * 12) j) ?_
  refine xj_caload (j := k * 12 + j) d12_4_10 h_lt (by omega) (show lt < M.1 by omega) (vp_in_nI (by omega) (by omega)) (nI_clamp (by omega)) ?_
  exact xj_ret d12_4_11 (by omega) (by omega) rfl ⟨rfl, rfl⟩
set_option maxRecDepth 20000 in
theorem wIsL {G : xG} (hg : xGood G) (hxn : xn = 16) {M : xM} {o lt ln kk : Nat} {f g : Nat → Int32} (h1_o : 16 ≤ o) (h2_o : o < M.1) (h1_lt : 16 ≤ lt) (h2_lt : lt < M.1) (h1_ln : 16 ≤ ln) (h2_ln : ln < M.1) (h_o : M.2 o = (.inr (8, [.ref lt, .ref ln, .int (nI kk)]))) (h_lt : M.2 lt = (.inl (1, 60, .inl f))) (h_ln : M.2 ln = (.inl (0, 5, .inl g))) (hkk : kk ≤ 4) (hch : ∀ x, ∃ u, u < 127 ∧ f x = nI u) {k L K : Nat} (hk4 : k < 5) (hL : L ≤ 12) (hgk : g k = nI L) (hK : K ≤ 12) (hgK : g kk = nI K) (hLK : L = K) {d ce se cells slots : Nat} (hd : 1 ≤ d) (hcc : cells ≤ ce) (hss : slots ≤ se) : ∀ r j : Nat, j + r = L → (∀ i, i < j → f (k * 12 + i) = f (kk * 12 + i)) → XJ G Y12_8 d ce se cells slots 22 [(2, .int (nI j)), (0, .ref o), (1, .int (nI k))] [] M (fun v M' => v = some (.int (xB (L = K ∧ ∀ j, j < L → f (k * 12 + j) = f (kk * 12 + j)))) ∧ M' = M) := by
  intro r
  induction r with
  | zero =>
    intro j hj hno
    refine xj_iload_n (i := 2) d12_8_22 rfl rfl ?_
    refine xj_aload_n (i := 0) d12_8_23 rfl rfl ?_
    refine xj_get d12_8_24 f12_13_8 h_o (by omega) (show o < M.1 by omega) rfl ?_
    refine xj_iload_n (i := 1) d12_8_27 rfl rfl ?_
    refine xj_iaload (j := k) d12_8_28 h_ln (by omega) (show ln < M.1 by omega) (vp_in_nI (by omega) (by omega)) (nI_clamp (by omega)) ?_
    rw [show g k = nI L from hgk]
    refine xj_icmp_ge (tgt := 58) d12_8_29 rfl (fun _ => ?_) (fun h => absurd (nI_le (a := L) (b := j) (by omega) (by omega)) h)
    refine xj_iconst (v := 1) d12_8_58 (by decide) ?_
    exact xj_ret d12_8_59 hcc hss rfl ⟨by rw [xB_t (show (L = K ∧ ∀ j, j < L → f (k * 12 + j) = f (kk * 12 + j)) from ⟨hLK, fun i hi => hno i (by omega)⟩)], rfl⟩
  | succ r ih =>
    intro j hj hno
    refine xj_iload_n (i := 2) d12_8_22 rfl rfl ?_
    refine xj_aload_n (i := 0) d12_8_23 rfl rfl ?_
    refine xj_get d12_8_24 f12_13_8 h_o (by omega) (show o < M.1 by omega) rfl ?_
    refine xj_iload_n (i := 1) d12_8_27 rfl rfl ?_
    refine xj_iaload (j := k) d12_8_28 h_ln (by omega) (show ln < M.1 by omega) (vp_in_nI (by omega) (by omega)) (nI_clamp (by omega)) ?_
    rw [show g k = nI L from hgk]
    refine xj_icmp_ge (tgt := 58) d12_8_29 rfl (fun h => absurd h (nI_ge (a := j) (b := L) (by omega) (by omega))) (fun _ => ?_)
    refine xj_aload_n (i := 0) d12_8_32 rfl rfl ?_
    refine xj_iload_n (i := 1) d12_8_33 rfl rfl ?_
    refine xj_iload_n (i := 2) d12_8_34 rfl rfl ?_
    refine xj_callV (rest := []) (As := [.int (nI k), .int (nI j)]) (b := o) (wLetter hg (M := M) (n := M.1) (o := o) (lt := lt) (ln := ln) (ct := nI kk) (f := f) (k := k) (j := j) rfl (by omega) (by omega) (by omega) h_o (by omega) (by omega) h_lt (by omega) hch) d12_8_35 wd12_4 h_o (by omega) (show o < M.1 by omega) rfl w784 w783 (Or.inl w782) rfl rfl (Nat.le_of_ble_eq_true rfl) (by omega) (by omega) (by omega) ?_
    rintro v M' ⟨rfl, hm⟩
    subst M'
    refine xj_aload_n (i := 0) d12_8_38 rfl rfl ?_
    refine xj_aload_n (i := 0) d12_8_39 rfl rfl ?_
    refine xj_get d12_8_40 f12_18_8 h_o (by omega) (show o < M.1 by omega) rfl ?_
    refine xj_iload_n (i := 2) d12_8_43 rfl rfl ?_
    refine xj_callV (rest := [.int (f (k * 12 + j))]) (As := [.int (nI kk), .int (nI j)]) (b := o) (wLetter hg (M := M) (n := M.1) (o := o) (lt := lt) (ln := ln) (ct := nI kk) (f := f) (k := kk) (j := j) rfl (by omega) (by omega) (by omega) h_o (by omega) (by omega) h_lt (by omega) hch) d12_8_44 wd12_4 h_o (by omega) (show o < M.1 by omega) rfl w784 w783 (Or.inl w782) rfl rfl (Nat.le_of_ble_eq_true rfl) (by omega) (by omega) (by omega) ?_
    rintro v M' ⟨rfl, hm⟩
    subst M'
    refine xj_icmp_eq (tgt := 52) d12_8_47 rfl (fun hq => ?_) (fun hq => ?_)
    · refine xj_iinc (v := nI (j + 1)) (L' := [(2, .int (nI (j + 1))), (0, .ref o), (1, .int (nI k))]) d12_8_52 rfl (xinc _) (by decide) rfl ?_
      refine xj_goto (tgt := 22) d12_8_55 rfl ?_
      exact ih (j + 1) (by omega) (fun i hi => if z : i = j then by rw [z]; exact hq else hno i (by omega))
    · refine xj_iconst (v := 0) d12_8_50 (by decide) ?_
      exact xj_ret d12_8_51 hcc hss rfl ⟨by rw [xB_f (show ¬ (L = K ∧ ∀ j, j < L → f (k * 12 + j) = f (kk * 12 + j)) from fun z => hq (z.2 j (by omega)))], rfl⟩
set_option maxRecDepth 20000 in
theorem wIs {G : xG} (hg : xGood G) (hxn : xn = 16) {M : xM} {o lt ln kk : Nat} {f g : Nat → Int32} (h1_o : 16 ≤ o) (h2_o : o < M.1) (h1_lt : 16 ≤ lt) (h2_lt : lt < M.1) (h1_ln : 16 ≤ ln) (h2_ln : ln < M.1) (h_o : M.2 o = (.inr (8, [.ref lt, .ref ln, .int (nI kk)]))) (h_lt : M.2 lt = (.inl (1, 60, .inl f))) (h_ln : M.2 ln = (.inl (0, 5, .inl g))) (hkk : kk ≤ 4) (hch : ∀ x, ∃ u, u < 127 ∧ f x = nI u) {k L K : Nat} (hk4 : k < 5) (hL : L ≤ 12) (hgk : g k = nI L) (hK : K ≤ 12) (hgK : g kk = nI K) : XC G Y12_8 (some .boolean) 1 0 0 [.ref o, .int (nI k)] M (fun v M' => v = some (.int (xB (L = K ∧ ∀ j, j < L → f (k * 12 + j) = f (kk * 12 + j)))) ∧ M' = M) := by
  refine xc_of hg (by decide) (Nat.le_of_ble_eq_true rfl) (Or.inr (Or.inl ⟨rfl, rfl, fun v M' h => ⟨_, h.1, xB_01 _⟩⟩)) ?_
  refine xj_aload_n (i := 0) d12_8_0 rfl rfl ?_
  refine xj_get d12_8_1 f12_13_8 h_o (by omega) (show o < M.1 by omega) rfl ?_
  refine xj_iload_n (i := 1) d12_8_4 rfl rfl ?_
  refine xj_iaload (j := k) d12_8_5 h_ln (by omega) (show ln < M.1 by omega) (vp_in_nI (by omega) (by omega)) (nI_clamp (by omega)) ?_
  rw [show g k = nI L from hgk]
  refine xj_aload_n (i := 0) d12_8_6 rfl rfl ?_
  refine xj_get d12_8_7 f12_13_8 h_o (by omega) (show o < M.1 by omega) rfl ?_
  refine xj_aload_n (i := 0) d12_8_10 rfl rfl ?_
  refine xj_get d12_8_11 f12_18_8 h_o (by omega) (show o < M.1 by omega) rfl ?_
  refine xj_iaload (j := kk) d12_8_14 h_ln (by omega) (show ln < M.1 by omega) (vp_in_nI (by omega) (by omega)) (nI_clamp (by omega)) ?_
  rw [show g kk = nI K from hgK]
  refine xj_icmp_eq (tgt := 20) d12_8_15 rfl (fun hlk => ?_) (fun hlk => ?_)
  · refine xj_iconst (v := 0) d12_8_20 (by decide) ?_
    refine xj_istore_n (i := 2) (L' := [(2, .int 0), (0, .ref o), (1, .int (nI k))]) d12_8_21 rfl (by decide) rfl ?_
    exact wIsL hg hxn h1_o h2_o h1_lt h2_lt h1_ln h2_ln h_o h_lt h_ln hkk hch hk4 hL hgk hK hgK ((nI_eq (a := L) (b := K) (by omega) (by omega)).mp hlk) (by omega) (by omega) (by omega) L 0 (by omega) (fun i hi => absurd hi (by omega))
  · refine xj_iconst (v := 0) d12_8_18 (by decide) ?_
    exact xj_ret d12_8_19 (by omega) (by omega) rfl ⟨by rw [xB_f (show ¬ (L = K ∧ ∀ j, j < L → f (k * 12 + j) = f (kk * 12 + j)) from fun z => hlk (congrArg nI z.1))], rfl⟩
/-- the row behind the strings holds w -/
def cWs (f g : Nat → Int32) (k : Nat) (w : List Int32) : Prop := w.length ≤ 12 ∧ g k = nI w.length ∧ ∀ (j : Nat) (c : Int32), w[j]? = some c → f (k * 12 + j) = c
theorem cWs_eq {f g : Nat → Int32} {k kk : Nat} {s w : List Int32} (h1 : cWs f g k s) (h2 : cWs f g kk w) : (s.length = w.length ∧ ∀ j, j < s.length → f (k * 12 + j) = f (kk * 12 + j)) ↔ s = w := by
  refine ⟨fun h => List.ext_getElem? (fun j => ?_), fun h => ?_⟩
  · by_cases hj : j < s.length
    · have hj2 : j < w.length := by omega
      rw [List.getElem?_eq_getElem hj, List.getElem?_eq_getElem hj2]
      have e1 := h1.2.2 j _ (List.getElem?_eq_getElem hj)
      have e2 := h2.2.2 j _ (List.getElem?_eq_getElem hj2)
      rw [← e1, ← e2, h.2 j hj]
    · rw [List.getElem?_eq_none (by omega), List.getElem?_eq_none (by omega)]
  · refine ⟨congrArg List.length h, fun j hj => ?_⟩
    have e1 := h1.2.2 j _ (List.getElem?_eq_getElem hj)
    have hj2 : j < w.length := by rw [← h]; exact hj
    have e2 := h2.2.2 j _ (List.getElem?_eq_getElem hj2)
    rw [e1, e2]
    exact Option.some.inj (by rw [← List.getElem?_eq_getElem hj, ← List.getElem?_eq_getElem hj2, h])
set_option maxRecDepth 20000 in
theorem wKpL {G : xG} (hg : xGood G) (hxn : xn = 16) {M : xM} {o lt ln kk : Nat} {f g : Nat → Int32} (h1_o : 16 ≤ o) (h2_o : o < M.1) (h1_lt : 16 ≤ lt) (h2_lt : lt < M.1) (h1_ln : 16 ≤ ln) (h2_ln : ln < M.1) (h_o : M.2 o = (.inr (8, [.ref lt, .ref ln, .int (nI kk)]))) (h_lt : M.2 lt = (.inl (1, 60, .inl f))) (h_ln : M.2 ln = (.inl (0, 5, .inl g))) (hkk : kk ≤ 4) (hch : ∀ x, ∃ u, u < 127 ∧ f x = nI u) {S : List (List Int32)} {w : List Int32} (hS : S.length = kk) (hD : ∀ (k : Nat) (s : List Int32), S[k]? = some s → cWs f g k s) (hw : cWs f g kk w) {d ce se cells slots : Nat} {Post : Option Value → xM → Prop} (hd : 2 ≤ d) (hcc : cells ≤ ce) (hss : slots ≤ se) : ∀ r i : Nat, i + r = kk → (∀ j, j < i → ¬ S[j]? = some w) → (w ∈ S → Post (some (.int 1)) M) → (¬ w ∈ S → XJ G Y12_7 d ce se cells slots 26 [(1, .int (nI kk)), (0, .ref o)] [] M Post) → XJ G Y12_7 d ce se cells slots 2 [(1, .int (nI i)), (0, .ref o)] [] M Post := by
  intro r
  induction r with
  | zero =>
    intro i hi hno K1 K2
    replace K2 : ¬ w ∈ S → XJ G Y12_7 d ce se cells slots 26 [(1, .int (nI i)), (0, .ref o)] [] M Post := fun q => by
      have := K2 q
      rw [show i = kk by omega]
      exact this
    refine xj_iload_n (i := 1) d12_7_2 rfl rfl ?_
    refine xj_aload_n (i := 0) d12_7_3 rfl rfl ?_
    refine xj_get d12_7_4 f12_18_8 h_o (by omega) (show o < M.1 by omega) rfl ?_
    refine xj_icmp_ge (tgt := 26) d12_7_7 rfl (fun _ => ?_) (fun h => absurd (nI_le (a := kk) (b := i) (by omega) (by omega)) h)
    exact K2 (fun q => by obtain ⟨j, hj⟩ := List.getElem?_of_mem q; exact hno j (by have := (List.getElem?_eq_some_iff.mp hj).1; omega) hj)
  | succ r ih =>
    intro i hi hno K1 K2
    obtain ⟨s9, hs9⟩ : ∃ s9, S[i]? = some s9 := ⟨_, List.getElem?_eq_getElem (show i < S.length by omega)⟩
    have hc9 := hD i s9 hs9
    have hIs := wIs hg hxn h1_o h2_o h1_lt h2_lt h1_ln h2_ln h_o h_lt h_ln hkk hch (k := i) (by omega) hc9.1 hc9.2.1 hw.1 hw.2.1
    rw [show (s9.length = w.length ∧ ∀ j, j < s9.length → f (i * 12 + j) = f (kk * 12 + j)) = (s9 = w) from propext (cWs_eq hc9 hw)] at hIs
    by_cases hw9 : s9 = w
    · skip
      refine xj_iload_n (i := 1) d12_7_2 rfl rfl ?_
      refine xj_aload_n (i := 0) d12_7_3 rfl rfl ?_
      refine xj_get d12_7_4 f12_18_8 h_o (by omega) (show o < M.1 by omega) rfl ?_
      refine xj_icmp_ge (tgt := 26) d12_7_7 rfl (fun h => absurd h (nI_ge (a := i) (b := kk) (by omega) (by omega))) (fun _ => ?_)
      refine xj_aload_n (i := 0) d12_7_10 rfl rfl ?_
      refine xj_iload_n (i := 1) d12_7_11 rfl rfl ?_
      refine xj_callV (rest := []) (As := [.int (nI i)]) (b := o) hIs d12_7_12 wd12_8 h_o (by omega) (show o < M.1 by omega) rfl s12_8 w780 (Or.inl w778) rfl rfl (Nat.le_of_ble_eq_true rfl) (by omega) (by omega) (by omega) ?_
      rintro v M' ⟨rfl, hm⟩
      subst M'
      refine xj_if_eq (tgt := 20) d12_7_15 rfl (fun h => absurd h (show ¬ xB (s9 = w) = 0 by rw [xB_t hw9]; decide)) (fun _ => ?_)
      refine xj_iconst (v := 1) d12_7_18 (by decide) ?_
      exact xj_ret d12_7_19 hcc hss rfl (K1 (by rw [← hw9]; exact List.mem_of_getElem? hs9))
    · skip
      refine xj_iload_n (i := 1) d12_7_2 rfl rfl ?_
      refine xj_aload_n (i := 0) d12_7_3 rfl rfl ?_
      refine xj_get d12_7_4 f12_18_8 h_o (by omega) (show o < M.1 by omega) rfl ?_
      refine xj_icmp_ge (tgt := 26) d12_7_7 rfl (fun h => absurd h (nI_ge (a := i) (b := kk) (by omega) (by omega))) (fun _ => ?_)
      refine xj_aload_n (i := 0) d12_7_10 rfl rfl ?_
      refine xj_iload_n (i := 1) d12_7_11 rfl rfl ?_
      refine xj_callV (rest := []) (As := [.int (nI i)]) (b := o) hIs d12_7_12 wd12_8 h_o (by omega) (show o < M.1 by omega) rfl s12_8 w780 (Or.inl w778) rfl rfl (Nat.le_of_ble_eq_true rfl) (by omega) (by omega) (by omega) ?_
      rintro v M' ⟨rfl, hm⟩
      subst M'
      refine xj_if_eq (tgt := 20) d12_7_15 rfl (fun _ => ?_) (fun h => absurd (xB_f hw9) h)
      refine xj_iinc (v := nI (i + 1)) (L' := [(1, .int (nI (i + 1))), (0, .ref o)]) d12_7_20 rfl (xinc _) (by decide) rfl ?_
      refine xj_goto (tgt := 2) d12_7_23 rfl ?_
      exact ih (i + 1) (by omega) (fun j hj => if z : j = i then by rw [z, hs9]; exact fun q => hw9 (Option.some.inj q) else hno j (by omega)) K1 K2
set_option maxRecDepth 20000 in
theorem wKpI {G : xG} (hg : xGood G) (hxn : xn = 16) {M : xM} {o lt ln kk : Nat} {f g : Nat → Int32} (h1_o : 16 ≤ o) (h2_o : o < M.1) (h1_lt : 16 ≤ lt) (h2_lt : lt < M.1) (h1_ln : 16 ≤ ln) (h2_ln : ln < M.1) (h_o : M.2 o = (.inr (8, [.ref lt, .ref ln, .int (nI kk)]))) (h_lt : M.2 lt = (.inl (1, 60, .inl f))) (h_ln : M.2 ln = (.inl (0, 5, .inl g))) (hkk : kk ≤ 4) (hch : ∀ x, ∃ u, u < 127 ∧ f x = nI u) {S : List (List Int32)} {w : List Int32} (hS : S.length = kk) (hD : ∀ (k : Nat) (s : List Int32), S[k]? = some s → cWs f g k s) (hw : cWs f g kk w) (hin : w ∈ S) : XC G Y12_7 (some .boolean) 2 0 0 [.ref o] M (fun v M' => v = some (.int 1) ∧ M' = M) := by
  refine xc_of hg (by decide) (Nat.le_of_ble_eq_true rfl) (Or.inr (Or.inl ⟨rfl, rfl, fun v M' h => ⟨_, h.1, Or.inr rfl⟩⟩)) ?_
  refine xj_iconst (v := 0) d12_7_0 (by decide) ?_
  refine xj_istore_n (i := 1) (L' := [(1, .int 0), (0, .ref o)]) d12_7_1 rfl (by decide) rfl ?_
  refine wKpL hg hxn h1_o h2_o h1_lt h2_lt h1_ln h2_ln h_o h_lt h_ln hkk hch hS hD hw (by omega) (by omega) (by omega) kk 0 (by omega) (fun j hj => absurd hj (by omega)) (fun q => ?_) (fun q => ?_)
  · exact ⟨rfl, rfl⟩
  · exact absurd hin q
set_option maxRecDepth 20000 in
theorem wKpF {G : xG} (hg : xGood G) (hxn : xn = 16) {M : xM} {o lt ln kk : Nat} {f g : Nat → Int32} (h1_o : 16 ≤ o) (h2_o : o < M.1) (h1_lt : 16 ≤ lt) (h2_lt : lt < M.1) (h1_ln : 16 ≤ ln) (h2_ln : ln < M.1) (h_o : M.2 o = (.inr (8, [.ref lt, .ref ln, .int (nI kk)]))) (h_lt : M.2 lt = (.inl (1, 60, .inl f))) (h_ln : M.2 ln = (.inl (0, 5, .inl g))) (hkk : kk ≤ 4) (hch : ∀ x, ∃ u, u < 127 ∧ f x = nI u) {S : List (List Int32)} {w : List Int32} (hS : S.length = kk) (hD : ∀ (k : Nat) (s : List Int32), S[k]? = some s → cWs f g k s) (hw : cWs f g kk w) (hin : ¬ w ∈ S) (hk4 : kk = 4) : XC G Y12_7 (some .boolean) 2 0 0 [.ref o] M (fun v M' => v = some (.int 0) ∧ M' = M) := by
  refine xc_of hg (by decide) (Nat.le_of_ble_eq_true rfl) (Or.inr (Or.inl ⟨rfl, rfl, fun v M' h => ⟨_, h.1, Or.inl rfl⟩⟩)) ?_
  refine xj_iconst (v := 0) d12_7_0 (by decide) ?_
  refine xj_istore_n (i := 1) (L' := [(1, .int 0), (0, .ref o)]) d12_7_1 rfl (by decide) rfl ?_
  refine wKpL hg hxn h1_o h2_o h1_lt h2_lt h1_ln h2_ln h_o h_lt h_ln hkk hch hS hD hw (by omega) (by omega) (by omega) kk 0 (by omega) (fun j hj => absurd hj (by omega)) (fun q => ?_) (fun q => ?_)
  · exact absurd q hin
  · skip
    refine xj_aload_n (i := 0) d12_7_26 rfl rfl ?_
    refine xj_get d12_7_27 f12_18_8 h_o (by omega) (show o < M.1 by omega) rfl ?_
    refine xj_iconst (v := 4) d12_7_30 (by decide) ?_
    refine xj_icmp_lt (tgt := 36) d12_7_31 rfl (fun h => absurd h (nI_nlt (a := kk) (b := 4) (by omega) (by omega))) (fun _ => ?_)
    refine xj_iconst (v := 0) d12_7_34 (by decide) ?_
    exact xj_ret d12_7_35 (by omega) (by omega) rfl ⟨rfl, rfl⟩
set_option maxRecDepth 20000 in
theorem wKpN {G : xG} (hg : xGood G) (hxn : xn = 16) {M : xM} {o lt ln kk : Nat} {f g : Nat → Int32} (h1_o : 16 ≤ o) (h2_o : o < M.1) (h1_lt : 16 ≤ lt) (h2_lt : lt < M.1) (h1_ln : 16 ≤ ln) (h2_ln : ln < M.1) (h_o : M.2 o = (.inr (8, [.ref lt, .ref ln, .int (nI kk)]))) (h_lt : M.2 lt = (.inl (1, 60, .inl f))) (h_ln : M.2 ln = (.inl (0, 5, .inl g))) (hkk : kk ≤ 4) (hch : ∀ x, ∃ u, u < 127 ∧ f x = nI u) {S : List (List Int32)} {w : List Int32} (hS : S.length = kk) (hD : ∀ (k : Nat) (s : List Int32), S[k]? = some s → cWs f g k s) (hw : cWs f g kk w) (hin : ¬ w ∈ S) (hk4 : kk < 4) : XC G Y12_7 (some .boolean) 2 0 0 [.ref o] M (fun v M' => v = some (.int 1) ∧ M'.1 = M.1 ∧ (∀ y, y ≠ o → M'.2 y = M.2 y) ∧ M'.2 o = (.inr (8, [.ref lt, .ref ln, .int (nI (kk + 1))]))) := by
  refine xc_of hg (by decide) (Nat.le_of_ble_eq_true rfl) (Or.inr (Or.inl ⟨rfl, rfl, fun v M' h => ⟨_, h.1, Or.inr rfl⟩⟩)) ?_
  refine xj_iconst (v := 0) d12_7_0 (by decide) ?_
  refine xj_istore_n (i := 1) (L' := [(1, .int 0), (0, .ref o)]) d12_7_1 rfl (by decide) rfl ?_
  refine wKpL hg hxn h1_o h2_o h1_lt h2_lt h1_ln h2_ln h_o h_lt h_ln hkk hch hS hD hw (by omega) (by omega) (by omega) kk 0 (by omega) (fun j hj => absurd hj (by omega)) (fun q => ?_) (fun q => ?_)
  · exact absurd q hin
  · skip
    refine xj_aload_n (i := 0) d12_7_26 rfl rfl ?_
    refine xj_get d12_7_27 f12_18_8 h_o (by omega) (show o < M.1 by omega) rfl ?_
    refine xj_iconst (v := 4) d12_7_30 (by decide) ?_
    refine xj_icmp_lt (tgt := 36) d12_7_31 rfl (fun _ => ?_) (fun h => absurd (nI_lt (a := kk) (b := 4) (by omega) (by omega)) h)
    refine xj_aload_n (i := 0) d12_7_36 rfl rfl ?_
    refine xj_dup d12_7_37 rfl ?_
    refine xj_get d12_7_38 f12_18_8 h_o (by omega) (show o < M.1 by omega) rfl ?_
    refine xj_iconst (v := 1) d12_7_41 (by decide) ?_
    refine xj_iadd (v := nI (kk + 1)) d12_7_42 (nI_1 _) ?_
    refine xj_put (a := o) (fs' := [.ref lt, .ref ln, .int (nI (kk + 1))]) d12_7_43 f12_18_8 h_o (by omega) (show o < M.1 by omega) (Nat.le_of_ble_eq_true rfl) rfl rfl rfl ?_
    refine xj_abs_set (fun M1 hs1 ha1 ho1 => ?_)
    refine xj_iconst (v := 1) d12_7_46 (by decide) ?_
    exact xj_ret d12_7_47 (by omega) (by omega) rfl ⟨rfl, (show M1.1 = M.1 by omega), (fun y hy => (ho1 y (by omega))), ha1⟩

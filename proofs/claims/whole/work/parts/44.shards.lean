/-! The sealed shards in the heap -/
theorem xLs_imp2 {P Q : Nat → Prop} {M : xM} {a : Nat} {l : List Nat} (h : xLs P M a l) (hPQ : ∀ x, P x → xn ≤ x → x < M.1 → Q x) : xLs Q M a l := by
  obtain ⟨e, mo, cap, h1, h2, h3, h4, h5⟩ := h
  exact ⟨e, mo, cap, h1, h2, h3, h4, h5.imp_right (fun q => ⟨hPQ e q.1 q.2.1 q.2.2.1, q.2⟩)⟩
theorem xLs_fi {P : Nat → Prop} {M M' : xM} {a : Nat} {l : List Nat} (h : xLs P M a l) (hm : M.1 ≤ M'.1) (ha : M'.2 a = M.2 a) (hP : ∀ x y, P x → xn ≤ x → x < M.1 → M.2 x = .inl y → M'.2 x = M.2 x) : xLs P M' a l := by
  obtain ⟨e, mo, cap, h1, h2, h3, h4, h5⟩ := h
  exact ⟨e, mo, cap, ha.trans h1, h2, h3, h4, h5.imp_right (fun q => ⟨q.1, q.2.1, Nat.lt_of_lt_of_le q.2.2.1 hm, (hP e _ q.1 q.2.1 q.2.2.1 q.2.2.2).trans q.2.2.2⟩)⟩
/-- the shard objects S hold T; all their cells are in F -/
def xShT (F : Nat → Prop) (M : xM) (S : List Nat) (T : List (Int32 × List Nat)) : Prop :=
  S.length = T.length ∧ ∀ (k a : Nat) (q : Int32 × List Nat), S[k]? = some a → T[k]? = some q → F a ∧ ∃ l, F l ∧ M.2 a = .inr (1, [.int q.1, .ref l]) ∧ xLs F M l q.2
theorem xShT_fr {F F' : Nat → Prop} {M M' : xM} {S : List Nat} {T : List (Int32 × List Nat)} (h : xShT F M S T) (hm : M.1 ≤ M'.1) (hF : ∀ x, F x → F' x) (hs : ∀ x, F x → (∀ o, M.2 x ≠ .inr (3, o)) → M'.2 x = M.2 x) : xShT F' M' S T := by
  refine ⟨h.1, fun k a q h1 h2 => ?_⟩
  obtain ⟨a1, l, a2, a3, a4⟩ := h.2 k a q h1 h2
  obtain ⟨el, mo, b1, -⟩ := xLs_len a4
  have n1 : ∀ o, M.2 a ≠ .inr (3, o) := fun o e => by rw [a3] at e; simp at e
  have n2 : ∀ o, M.2 l ≠ .inr (3, o) := fun o e => by rw [b1] at e; simp at e
  exact ⟨hF a a1, l, hF l a2, (hs a a1 n1).trans a3, xLs_imp (xLs_fi a4 hm (hs l a2 n2) (fun x y hx _ _ hy => hs x hx (fun o e => by rw [hy] at e; cases e))) hF⟩
theorem xat0 {α : Type} (S : List α) (o b : α) : (S ++ [o, b])[S.length]? = some o := by
  rw [List.getElem?_append_right (Nat.le_refl _), Nat.sub_self]
  rfl
theorem xat1 {α : Type} (S : List α) (o b : α) : (S ++ [o, b])[S.length + 1]? = some b := by
  rw [List.getElem?_append_right (show S.length ≤ S.length + 1 by omega), Nat.add_sub_cancel_left]
  rfl
theorem xMergeT {G : xG} (hg : xGood G) (hxn : xn = 16) (hZ : va_Z "java/util/ArrayList" "DEFAULTCAPACITY_EMPTY_ELEMENTDATA" "[Ljava/lang/Object;" (.ref (xa G 1)) (fun q => (xs G).heap.size ≤ q) (xs G) (xs G).heap) (hT : va_T (.object "java/lang/Object") (xa G 1) 0 (fun _ => .null) (fun q => (xs G).heap.size ≤ q) (xs G) (xs G).heap) {M : xM} {n : Nat} (hn : M.1 = n) (h52 : 52 ≤ n) {F : Nat → Prop} {es : Nat} {dl : Nat} {pl : Nat} {vc : Nat} {tk : Nat} {hc : Nat} {op : Nat} {pn : Int32} {lr : Value} (h_16 : M.2 16 = (.inr (0, [.ref 17, .int (nI dl), .ref 18, .int (nI pl), lr, .ref 19, .int (nI vc), .ref op, .ref 22, .int (nI tk), .ref 23, .int (nI hc), .int pn]))) {S : List Nat} {T0 : List (Int32 × List Nat)} {qo qn : Int32 × List Nat} {lv : Nat → Int32} {vt : Nat → Nat} (hF : ∀ x, F x → 16 ≤ x ∧ x < n ∧ x ≠ 16 ∧ x ≠ 22 ∧ x ≠ es) (hS : xLa es M 22 S) (hR : xShT F M S (T0 ++ [qo, qn])) (hV : ∀ q ∈ T0 ++ [qo, qn], ∀ w ∈ q.2, 16 ≤ w ∧ w < n ∧ M.2 w = (.inr (3, [.ref (vt w), .int (lv w)]))) (hlen : (xLive lv qo.2 qn.2).length ≤ 10) (hq : ∀ q ∈ T0 ++ [qo, qn], q.2.length ≤ 10) (hT0 : T0.length < 9) :
    XC G Y1_27 none 6 22 205 [.ref 16] M (fun v M' => v = none ∧ n ≤ M'.1 ∧ (∀ j, j < n → j ≠ 16 → j ≠ 22 → j ≠ es → M'.2 j = M.2 j) ∧ M'.2 16 = (.inr (0, [.ref 17, .int (nI dl), .ref 18, .int (nI pl), lr, .ref 19, .int (nI vc), .ref op, .ref 22, .int (nI (tk + (qo.2.length + qn.2.length - (xLive lv qo.2 qn.2).length))), .ref 23, .int (nI hc), .int pn])) ∧ ∃ S', xLa es M' 22 S' ∧ xShT (fun x => F x ∨ (n ≤ x ∧ x < M'.1)) M' S' (T0 ++ xmT lv qo qn)) := by
  obtain ⟨hl, hR⟩ := hR
  obtain ⟨S0, ob, nb, rfl⟩ := xsnoc2 S (by rw [hl, List.length_append]; exact Nat.le_add_left 2 _)
  have hl0 : S0.length = T0.length := by
    rw [List.length_append, List.length_append] at hl
    have e1 : ([ob, nb] : List Nat).length = 2 := rfl
    have e2 : ([qo, qn] : List (Int32 × List Nat)).length = 2 := rfl
    omega
  obtain ⟨hob, lob, hlob, h_ob, hO⟩ := hR S0.length ob qo (xat0 S0 ob nb) (by rw [hl0]; exact xat0 T0 qo qn)
  obtain ⟨hnb, lnb, hlnb, h_nb, hN⟩ := hR (S0.length + 1) nb qn (xat1 S0 ob nb) (by rw [hl0]; exact xat1 T0 qo qn)
  have hlen2 : (qo.2.filter (fun w => decide (lv w ≠ 0))).length + (qn.2.filter (fun w => decide (lv w ≠ 0))).length ≤ 10 := by
    rw [xLive, List.length_append] at hlen
    exact hlen
  refine xc_wk (xMerge hg hxn hZ hT hn (by omega) h_16 hF hS h_ob h_nb hob hlob hnb hlnb hO hN (fun w hw => hw.elim (fun h => hV qo (by simp) w h) (fun h => hV qn (by simp) w h)) hlen2 (hq qo (by simp)) (hq qn (by simp)) (by omega)) (Nat.le_refl _) (Nat.le_refl _) (Nat.le_refl _) ?_
  rintro v M' ⟨rfl, e1, e2, e3, e4⟩
  have old : ∀ (k a : Nat) (q : Int32 × List Nat), S0[k]? = some a → T0[k]? = some q → (F a ∨ (n ≤ a ∧ a < M'.1)) ∧ ∃ l, (F l ∨ (n ≤ l ∧ l < M'.1)) ∧ M'.2 a = .inr (1, [.int q.1, .ref l]) ∧ xLs (fun x => F x ∨ (n ≤ x ∧ x < M'.1)) M' l q.2 := by
    intro k a q h1 h2
    obtain ⟨a1, l, a2, a3, a4⟩ := hR k a q ((List.getElem?_append_left (List.getElem?_eq_some_iff.mp h1).1).trans h1) ((List.getElem?_append_left (List.getElem?_eq_some_iff.mp h2).1).trans h2)
    have f1 := hF a a1
    have f2 := hF l a2
    exact ⟨Or.inl a1, l, Or.inl a2, (e2 a f1.2.1 f1.2.2.1 f1.2.2.2.1 f1.2.2.2.2).trans a3, xLs_imp (xLs_fr a4 (by omega) (e2 l f2.2.1 f2.2.2.1 f2.2.2.2.1 f2.2.2.2.2) (fun x hx _ => by have f3 := hF x hx; exact e2 x f3.2.1 f3.2.2.1 f3.2.2.2.1 f3.2.2.2.2)) (fun x hx => Or.inl hx)⟩
  refine ⟨rfl, e1, e2, e3, ?_⟩
  rcases e4 with ⟨h0, hs⟩ | ⟨h0, hs, ha, hl'⟩
  · refine ⟨S0, hs, ?_⟩
    rw [xmT, if_pos (show xLive lv qo.2 qn.2 = [] from h0), List.append_nil]
    exact ⟨hl0, old⟩
  · refine ⟨S0 ++ [n], hs, ?_⟩
    have hle : n + 1 < M'.1 := by
      obtain ⟨e9, p9, mo9, cap9, q1, q2, q3, q4, q5, q6, q7⟩ := xLs_a hl' h0
      have p9' : n ≤ e9 := p9
      have r1 := xne_io ha q7
      have r2 := xne_io q1 q7
      omega
    rw [xmT, if_neg (show ¬ xLive lv qo.2 qn.2 = [] from h0)]
    refine ⟨by rw [List.length_append, List.length_append, hl0]; rfl, fun k a q h1 h2 => ?_⟩
    by_cases hk : k < S0.length
    · exact old k a q ((List.getElem?_append_left hk).symm.trans h1) ((List.getElem?_append_left (by omega)).symm.trans h2)
    · rw [List.getElem?_append_right (by omega)] at h1 h2
      have hk1 : k - S0.length = 0 := by
        have hh := (List.getElem?_eq_some_iff.mp h1).1
        rw [List.length_singleton] at hh
        omega
      rw [hk1] at h1
      rw [← hl0, hk1] at h2
      have h1' : n = a := Option.some.inj h1
      have h2' : (xmx qo.1 qn.1 + 1, xLive lv qo.2 qn.2) = q := Option.some.inj h2
      subst h1'
      rw [← h2']
      refine ⟨Or.inr ⟨Nat.le_refl _, by omega⟩, n + 1, Or.inr ⟨by omega, hle⟩, ?_, xLs_imp2 hl' (fun x hx _ hx2 => Or.inr ⟨hx, hx2⟩)⟩
      rw [ha, xmax_xmx]
theorem xmrg_u {f li : Nat → Int32} {av s : Nat} (hav : av < 64) (h2 : ¬ xmrgF f li (nI av) (nI (av + 1)) s = -1) : ¬ f s = -1 := by
  intro q
  refine h2 ?_
  have n1 : ¬ (f s = nI av ∨ f s = nI (av + 1)) := by
    rw [q]
    exact fun e => e.elim (xneg1 (by omega)) (xneg1 (by omega))
  rw [← xmrg_n n1]
  exact q
/-- the sealed shards of the class while merges go on; M0 the heap before them -/
def xSv (M0 M : xM) (n0 es : Nat) (F0 : Nat → Prop) (va vt : Nat → Nat) (lv li f le : Nat → Int32) (sn : Nat) (S : List Nat) (T : List (Int32 × List Nat)) : Prop :=
  n0 ≤ M.1 ∧ (∀ j, j < n0 → j ≠ 16 → j ≠ 22 → j ≠ es → M.2 j = M0.2 j) ∧ xLa es M 22 S ∧ xShT (fun x => F0 x ∨ (n0 ≤ x ∧ x < M.1)) M S T ∧ xAbs T va f le sn ∧ (∀ s, s < 128 → ¬ f s = -1 → 52 ≤ va s ∧ va s < n0 ∧ va s ≠ es ∧ lv (va s) = li s ∧ M0.2 (va s) = .inr (3, [.ref (vt (va s)), .int (lv (va s))])) ∧ ∀ q ∈ T, q.2.length ≤ 10
theorem xMergeS {G : xG} (hg : xGood G) (hxn : xn = 16) (hZ : va_Z "java/util/ArrayList" "DEFAULTCAPACITY_EMPTY_ELEMENTDATA" "[Ljava/lang/Object;" (.ref (xa G 1)) (fun q => (xs G).heap.size ≤ q) (xs G) (xs G).heap) (hT : va_T (.object "java/lang/Object") (xa G 1) 0 (fun _ => .null) (fun q => (xs G).heap.size ≤ q) (xs G) (xs G).heap) {M0 M : xM} {n0 es : Nat} {F0 : Nat → Prop} {va vt : Nat → Nat} {lv li f le : Nat → Int32} {av : Nat} {S : List Nat} {T0 : List (Int32 × List Nat)} {qo qn : Int32 × List Nat} (h52 : 52 ≤ n0) (hes : es < n0) (hF0 : ∀ x, F0 x → 16 ≤ x ∧ x < n0 ∧ x ≠ 16 ∧ x ≠ 22 ∧ x ≠ es) (hten : ((List.range 128).filter (fun s => decide (li s ≠ 0))).length ≤ 10) {dl : Nat} {pl : Nat} {vc : Nat} {tk : Nat} {hc : Nat} {op : Nat} {pn : Int32} {lr : Value} (h_16 : M.2 16 = (.inr (0, [.ref 17, .int (nI dl), .ref 18, .int (nI pl), lr, .ref 19, .int (nI vc), .ref op, .ref 22, .int (nI tk), .ref 23, .int (nI hc), .int pn]))) (hI : xSv M0 M n0 es F0 va vt lv li f le (av + 2) S (T0 ++ [qo, qn])) (hav : av + 2 ≤ 9) :
    XC G Y1_27 none 6 22 205 [.ref 16] M (fun v M' => v = none ∧ M.1 ≤ M'.1 ∧ M'.2 16 = (.inr (0, [.ref 17, .int (nI dl), .ref 18, .int (nI pl), lr, .ref 19, .int (nI vc), .ref op, .ref 22, .int (nI (tk + xnum (fun j => (f j = nI av ∨ f j = nI (av + 1)) ∧ li j = 0) 128)), .ref 23, .int (nI hc), .int pn])) ∧ ∃ S', xSv M0 M' n0 es F0 va vt lv li (xmrgF f li (nI av) (nI (av + 1))) (upd le av (xmx (le av) (le (av + 1)) + 1)) (if xcnt (xmrgF f li (nI av) (nI (av + 1))) (nI av) 128 = 0 then av else av + 1) S' (T0 ++ xmT lv qo qn)) := by
  obtain ⟨i1, i2, i3, i4, i5, i6, i7⟩ := hI
  have t0 := (xAbs_two i5).1
  have hlv : ∀ s, s < 128 → ¬ f s = -1 → lv (va s) = li s := fun s a b => (i6 s a b).2.2.2.1
  have hF : ∀ x, (F0 x ∨ (n0 ≤ x ∧ x < M.1)) → 16 ≤ x ∧ x < M.1 ∧ x ≠ 16 ∧ x ≠ 22 ∧ x ≠ es := by
    intro x hx
    rcases hx with hx | hx
    · have q := hF0 x hx
      exact ⟨q.1, by omega, q.2.2⟩
    · exact ⟨by omega, hx.2, by omega, by omega, by omega⟩
  have hV : ∀ q ∈ T0 ++ [qo, qn], ∀ w ∈ q.2, 16 ≤ w ∧ w < M.1 ∧ M.2 w = (.inr (3, [.ref (vt w), .int (lv w)])) := by
    intro q hq w hw
    obtain ⟨k, hk⟩ := List.mem_iff_getElem?.mp hq
    have hk2 : k < av + 2 := by
      rw [← i5.1]
      exact (List.getElem?_eq_some_iff.mp hk).1
    obtain ⟨s, hs, rfl⟩ := List.mem_map.mp ((i5.2.1 k q hk).2.mem_iff.mp hw)
    obtain ⟨s1, s2⟩ := xsl_mem.mp hs
    obtain ⟨u1, u2, u3, u4, u5⟩ := i6 s s1 (by rw [s2]; exact fun e => xneg1 (by omega) e.symm)
    exact ⟨by omega, by omega, (i2 (va s) u2 (by omega) (by omega) u3).trans u5⟩
  have h10 := xAbs_ten i5 (show av < 64 by omega) hlv hten
  refine xc_wk (xMergeT hg hxn hZ hT rfl (by omega) h_16 hF i3 i4 hV h10 i7 (by omega)) (Nat.le_refl _) (Nat.le_refl _) (Nat.le_refl _) ?_
  rintro v M' ⟨rfl, e1, e2, e3, S', e4, e5⟩
  rw [xAbs_tk i5 (show av < 64 by omega) hlv] at e3
  refine ⟨rfl, e1, e3, S', by omega, fun j a b c d => (e2 j (by omega) b c d).trans (i2 j a b c d), e4, ?_, xAbs_mrg i5 (show av < 64 by omega) hlv, fun s a b => i6 s a (xmrg_u (show av < 64 by omega) b), ?_⟩
  · refine xShT_fr e5 (Nat.le_refl _) (fun x hx => ?_) (fun _ _ _ => rfl)
    rcases hx with (hx | hx) | hx
    · exact Or.inl hx
    · exact Or.inr ⟨hx.1, by omega⟩
    · exact Or.inr ⟨by omega, hx.2⟩
  · intro q hq
    rcases List.mem_append.mp hq with h | h
    · exact i7 q (List.mem_append_left _ h)
    · rw [xmT] at h
      by_cases hm : xLive lv qo.2 qn.2 = []
      · rw [if_pos hm] at h
        exact absurd h (by simp)
      · rw [if_neg hm] at h
        rw [List.mem_singleton.mp h]
        exact h10

/-! The class's storage in the heap -/
/-- a place of the storage: none of the fixed cells 22 and up to 51, none of the reader's block -/
def xPl (r0 r1 n x : Nat) : Prop := 20 ≤ x ∧ x < n ∧ x ≠ 22 ∧ x ≠ 23 ∧ (x < 24 ∨ 52 ≤ x) ∧ (x < r0 ∨ r1 ≤ x)
/-- a place of the sealed shards: none of the sealed list's array, the open shard, its list, its array -/
def xFr (es op ol oe r0 r1 n x : Nat) : Prop := xPl r0 r1 n x ∧ x ≠ es ∧ x ≠ op ∧ x ≠ ol ∧ x ≠ oe
theorem xPl_m {r0 r1 n n' x : Nat} (h : xPl r0 r1 n x) (hn : n ≤ n') : xPl r0 r1 n' x := ⟨h.1, Nat.lt_of_lt_of_le h.2.1 hn, h.2.2⟩
/-- the array of a list, if it has one of its own -/
def xAr (M : xM) (r0 r1 e : Nat) : Prop := e = 0 ∨ (xPl r0 r1 M.1 e ∧ ∃ y, M.2 e = .inl (4, y))
theorem xAr_fr {M M' : xM} {r0 r1 e : Nat} (h : xAr M r0 r1 e) (hm : M.1 ≤ M'.1) (hfr : ∀ j, j = e → xPl r0 r1 M.1 j → (∃ y, M.2 j = .inl (4, y)) → M'.2 j = M.2 j) : xAr M' r0 r1 e :=
  h.imp_right (fun q => ⟨xPl_m q.1 hm, by obtain ⟨y, z⟩ := q.2; exact ⟨y, (hfr e rfl q.1 ⟨y, z⟩).trans z⟩⟩)
theorem xAr_p {M : xM} {r0 r1 e : Nat} (h : xAr M r0 r1 e) : e = 0 ∨ xPl r0 r1 M.1 e := h.imp_right And.left
theorem xAr_l {M : xM} {r0 r1 e a : Nat} {l : List Nat} (h : xLs (fun x => x = e) M a l) (hl : l ≠ []) (hp : xPl r0 r1 M.1 e) : xAr M r0 r1 e := by
  obtain ⟨e', he, mo, cap, q1, q2, q3, q4, q5, q6, q7⟩ := xLs_a h hl
  have he' : e' = e := he
  subst he'
  exact Or.inr ⟨hp, _, q7⟩
theorem xAr_ne {M : xM} {r0 r1 e j : Nat} (h : xAr M r0 r1 e) (hj : 52 ≤ j) (ht : (∃ o, M.2 j = .inr (3, o)) ∨ (∃ o, M.2 j = .inl (1, o))) : j ≠ e := by
  intro q
  subst q
  rcases h with h | ⟨-, y, hy⟩
  · omega
  · rcases ht with ⟨o, h⟩ | ⟨o, h⟩
    · rw [hy] at h
      cases h
    · rw [hy] at h
      simp at h
/-- sealed shards and the open shard -/
def xStp (M : xM) (es op ol oe r0 r1 : Nat) (S : List Nat) (T : List (Int32 × List Nat)) (ov : List Nat) : Prop :=
  52 ≤ M.1 ∧ r1 ≤ M.1 ∧ xAr M r0 r1 es ∧ xPl r0 r1 M.1 op ∧ xPl r0 r1 M.1 ol ∧ xAr M r0 r1 oe ∧ (es ≠ op ∧ es ≠ ol ∧ (es = 0 ∨ es ≠ oe) ∧ oe ≠ op ∧ oe ≠ ol) ∧ xLs (fun x => x = es) M 22 S ∧ xShT (xFr es op ol oe r0 r1 M.1) M S T ∧ M.2 op = .inr (1, [.int 0, .ref ol]) ∧ xLs (fun x => x = oe) M ol ov
theorem xStp_fr {M M' : xM} {es op ol oe r0 r1 : Nat} {S : List Nat} {T : List (Int32 × List Nat)} {ov : List Nat} (hxn : xn = 16) (h : xStp M es op ol oe r0 r1 S T ov) (hm : M.1 ≤ M'.1) (hfr : ∀ j, j = 22 ∨ xPl r0 r1 M.1 j → (∀ o, M.2 j ≠ .inr (3, o)) → M'.2 j = M.2 j) : xStp M' es op ol oe r0 r1 S T ov := by
  obtain ⟨a1, a2, a3, a4, a5, a6, a7, a8, a9, b1, b2⟩ := h
  obtain ⟨e1, m1, c1, -⟩ := xLs_len a8
  obtain ⟨e2, m2, c2, -⟩ := xLs_len b2
  have n1 : ∀ o, M.2 22 ≠ .inr (3, o) := fun o e => by rw [c1] at e; simp at e
  have n2 : ∀ o, M.2 ol ≠ .inr (3, o) := fun o e => by rw [c2] at e; simp at e
  have n3 : ∀ o, M.2 op ≠ .inr (3, o) := fun o e => by rw [b1] at e; simp at e
  have h16 : ∀ x, xn ≤ x → x ≠ 0 := fun x hx => by omega
  refine ⟨Nat.le_trans a1 hm, Nat.le_trans a2 hm, xAr_fr a3 hm (fun j _ hj hy => hfr j (Or.inr hj) (fun o e => by obtain ⟨y, hy⟩ := hy; rw [hy] at e; cases e)), xPl_m a4 hm, xPl_m a5 hm, xAr_fr a6 hm (fun j _ hj hy => hfr j (Or.inr hj) (fun o e => by obtain ⟨y, hy⟩ := hy; rw [hy] at e; cases e)), a7, ?_, ?_, (hfr op (Or.inr a4) n3).trans b1, ?_⟩
  · refine xLs_fi a8 hm (hfr 22 (Or.inl rfl) n1) (fun x y hx hx1 _ hy => ?_)
    have hx' : x = es := hx
    subst hx'
    exact hfr x (Or.inr (a3.resolve_left (h16 x hx1)).1) (fun o e => by rw [hy] at e; cases e)
  · exact xShT_fr a9 hm (fun x hx => ⟨xPl_m hx.1 hm, hx.2⟩) (fun x hx hx3 => hfr x (Or.inr hx.1) hx3)
  · refine xLs_fi b2 hm (hfr ol (Or.inr a5) n2) (fun x y hx hx1 _ hy => ?_)
    have hx' : x = oe := hx
    subst hx'
    exact hfr x (Or.inr (a6.resolve_left (h16 x hx1)).1) (fun o e => by rw [hy] at e; cases e)
theorem xPl_new {r0 r1 n n' x : Nat} (h52 : 52 ≤ n) (hr : r1 ≤ n) (h1 : n ≤ x) (h2 : x < n') : xPl r0 r1 n' x := ⟨by omega, h2, by omega, by omega, Or.inr (by omega), Or.inr (by omega)⟩
theorem xPl_16 {r0 r1 n x : Nat} (h : xPl r0 r1 n x) : x ≠ 16 := fun q => by
  rw [q] at h
  exact absurd h.1 (by decide)
theorem xPl_19 {r0 r1 n x : Nat} (h : xPl r0 r1 n x) : x ≠ 19 := fun q => by
  rw [q] at h
  exact absurd h.1 (by decide)
theorem xPl_0n {r0 r1 n x : Nat} (h : xPl r0 r1 n x) : x ≠ 0 := fun q => by
  rw [q] at h
  exact absurd h.1 (by decide)
theorem xAr_lt {M : xM} {r0 r1 e : Nat} (h : xAr M r0 r1 e) (h1 : 52 ≤ M.1) : e < M.1 := by
  rcases h with h | h
  · omega
  · exact h.1.2.1
theorem xAr_22 {M : xM} {r0 r1 e : Nat} (h : xAr M r0 r1 e) : 22 ≠ e := by
  rcases h with h | h
  · rw [h]
    decide
  · exact h.1.2.2.1.symm
theorem xAr_16 {M : xM} {r0 r1 e : Nat} (h : xAr M r0 r1 e) : 16 ≠ e := by
  rcases h with h | h
  · rw [h]
    decide
  · exact (xPl_16 h.1).symm
theorem xAr_19 {M : xM} {r0 r1 e : Nat} (h : xAr M r0 r1 e) : 19 ≠ e := by
  rcases h with h | h
  · rw [h]
    decide
  · exact (xPl_19 h.1).symm
/-- a version is added to the open shard -/
theorem xStp_add {M M' : xM} {es op ol oe e w r0 r1 : Nat} {S : List Nat} {T : List (Int32 × List Nat)} {ov : List Nat} (hxn : xn = 16) (h : xStp M es op ol oe r0 r1 S T ov) (hm : M.1 ≤ M'.1) (he : e = oe ∨ (M.1 ≤ e ∧ e < M'.1)) (hfr : ∀ j, j = 22 ∨ xPl r0 r1 M.1 j → j ≠ ol → j ≠ oe → (∀ o, M.2 j ≠ .inr (3, o)) → M'.2 j = M.2 j) (hL : xLs (fun x => x = e) M' ol (ov ++ [w])) : xStp M' es op ol e r0 r1 S T (ov ++ [w]) := by
  have h16 : ∀ x, xn ≤ x → x ≠ 0 := fun x hx => by omega
  obtain ⟨a1, a2, a3, a4, a5, a6, a7, a8, a9, b1, b2⟩ := h
  obtain ⟨e1, m1, c1, -⟩ := xLs_len a8
  obtain ⟨e2, m2, c2, -⟩ := xLs_len b2
  have n1 : ∀ o, M.2 22 ≠ .inr (3, o) := fun o e => by rw [c1] at e; simp at e
  have n3 : ∀ o, M.2 op ≠ .inr (3, o) := fun o e => by rw [b1] at e; simp at e
  have ne1 : op ≠ ol := xne_cl b1 c2 (by decide)
  have ne2 : ∀ j, j = es → j ≠ 0 → j ≠ oe := fun j q1 q2 q3 => by
    rcases a7.2.2.1 with z | z
    · exact q2 (q1.trans z)
    · exact z (q1.symm.trans q3)
  have ne3 : ∀ j, j = es → j ≠ ol := fun j q1 q2 => a7.2.1 (q1.symm.trans q2)
  have hpe : xPl r0 r1 M'.1 e := by
    rcases he with he | he
    · obtain ⟨e', he9, mo9, cap9, -, -, -, -, q5, q6, -⟩ := xLs_a hL (by simp)
      have he9' : e' = e := he9
      have hz := h16 e' q5
      rw [he9', he] at hz
      rw [he]
      exact xPl_m (a6.resolve_left hz).1 hm
    · exact xPl_new a1 a2 he.1 he.2
  refine ⟨Nat.le_trans a1 hm, Nat.le_trans a2 hm, xAr_fr a3 hm (fun j hje hj hy => hfr j (Or.inr hj) (ne3 j hje) (ne2 j hje (xPl_0n hj)) (fun o e => by obtain ⟨y, hy⟩ := hy; rw [hy] at e; cases e)), xPl_m a4 hm, xPl_m a5 hm, xAr_l hL (by simp) hpe, ?_, ?_, ?_, (hfr op (Or.inr a4) ne1 (fun q => a7.2.2.2.1 q.symm) n3).trans b1, hL⟩
  · rcases he with he | he
    · rw [he]
      exact a7
    · exact ⟨a7.1, a7.2.1, Or.inr (Nat.ne_of_lt (Nat.lt_of_lt_of_le (xAr_lt a3 a1) he.1)), Nat.ne_of_gt (Nat.lt_of_lt_of_le a4.2.1 he.1), Nat.ne_of_gt (Nat.lt_of_lt_of_le a5.2.1 he.1)⟩
  · refine xLs_fi a8 hm (hfr 22 (Or.inl rfl) a5.2.2.1.symm (xAr_22 a6) n1) (fun x y hx hx1 _ hy => ?_)
    have hx' : x = es := hx
    exact hfr x (Or.inr (by rw [hx']; exact (a3.resolve_left (fun z => h16 x hx1 (hx'.trans z))).1)) (ne3 x hx') (ne2 x hx' (h16 x hx1)) (fun o e => by rw [hy] at e; cases e)
  · refine xShT_fr a9 hm (fun x hx => ⟨xPl_m hx.1 hm, hx.2.1, hx.2.2.1, hx.2.2.2.1, ?_⟩) (fun x hx hx3 => hfr x (Or.inr hx.1) hx.2.2.2.1 hx.2.2.2.2 hx3)
    rcases he with he | he
    · rw [he]
      exact hx.2.2.2.2
    · exact Nat.ne_of_lt (Nat.lt_of_lt_of_le hx.1.2.1 he.1)
/-- the open shard is sealed -/
theorem xStp_seal {M M' : xM} {es op ol oe e n' r0 r1 : Nat} {S : List Nat} {T : List (Int32 × List Nat)} {ov : List Nat} (hxn : xn = 16) (h : xStp M es op ol oe r0 r1 S T ov) (hn' : M.1 ≤ n') (hm : M'.1 = n' + 2) (he : e = es ∨ (M.1 ≤ e ∧ e < n')) (hfr : ∀ j, j < M.1 → j ≠ 16 → j ≠ 22 → j ≠ es → M'.2 j = M.2 j) (hL : xLs (fun x => x = e) M' 22 (S ++ [op])) (h1 : M'.2 n' = .inr (1, [.int 0, .ref (n' + 1)])) {mo : Int32} (h2 : M'.2 (n' + 1) = .inr (2, [.ref 1, .int 0, .int mo])) : xStp M' e n' (n' + 1) 0 r0 r1 (S ++ [op]) (T ++ [(0, ov)]) [] := by
  have h16 : ∀ x, xn ≤ x → x ≠ 0 := fun x hx => by omega
  have l1 : n' < M'.1 := by omega
  have l2 : n' + 1 < M'.1 := by omega
  have l3 : M.1 ≤ M'.1 := by omega
  have l4 : M.1 ≤ n' + 1 := by omega
  obtain ⟨a1, a2, a3, a4, a5, a6, a7, a8, a9, b1, b2⟩ := h
  have q1 : xPl r0 r1 M'.1 n' := xPl_new a1 a2 hn' l1
  have q2 : xPl r0 r1 M'.1 (n' + 1) := xPl_new a1 a2 l4 l2
  have hen : e < n' := by
    rcases he with he | he
    · rw [he]
      exact Nat.lt_of_lt_of_le (xAr_lt a3 a1) hn'
    · exact he.2
  have hpe : xPl r0 r1 M'.1 e := by
    rcases he with he | he
    · obtain ⟨e', he9, mo9, cap9, -, -, -, -, q5, q6, -⟩ := xLs_a hL (by simp)
      have he9' : e' = e := he9
      have hz := h16 e' q5
      rw [he9', he] at hz
      rw [he]
      exact xPl_m (a3.resolve_left hz).1 l3
    · exact xPl_new a1 a2 he.1 (Nat.lt_trans he.2 l1)
  have hne : ∀ x, x < M.1 → x ≠ es → x ≠ e ∧ x ≠ n' ∧ x ≠ n' + 1 := fun x hx hx2 => ⟨by
    rcases he with he | he
    · rw [he]
      exact hx2
    · exact Nat.ne_of_lt (Nat.lt_of_lt_of_le hx he.1), Nat.ne_of_lt (Nat.lt_of_lt_of_le hx hn'), Nat.ne_of_lt (Nat.lt_of_lt_of_le hx l4)⟩
  refine ⟨Nat.le_trans a1 l3, Nat.le_trans a2 l3, xAr_l hL (by simp) hpe, q1, q2, Or.inl rfl, ⟨Nat.ne_of_lt hen, Nat.ne_of_lt (Nat.lt_succ_of_lt hen), Classical.em _, (xPl_0n q1).symm, (xPl_0n q2).symm⟩, hL, ?_, h1, xLs_new h2⟩
  have old : xShT (xFr e n' (n' + 1) 0 r0 r1 M'.1) M' S T := by
    refine xShT_fr a9 l3 (fun x hx => ⟨xPl_m hx.1 l3, ?_⟩) (fun x hx _ => hfr x hx.1.2.1 (xPl_16 hx.1) hx.1.2.2.1 hx.2.1)
    have z := hne x hx.1.2.1 hx.2.1
    exact ⟨z.1, z.2.1, z.2.2, xPl_0n hx.1⟩
  refine ⟨by rw [List.length_append, List.length_append, old.1]; rfl, fun k a q g1 g2 => ?_⟩
  by_cases hk : k < S.length
  · exact old.2 k a q ((List.getElem?_append_left hk).symm.trans g1) ((List.getElem?_append_left (by rw [← old.1]; exact hk)).symm.trans g2)
  · have hk9 : S.length ≤ k := Nat.le_of_not_lt hk
    rw [List.getElem?_append_right hk9] at g1
    have hk1 : k - S.length = 0 := by
      have hh := (List.getElem?_eq_some_iff.mp g1).1
      rw [List.length_singleton] at hh
      exact Nat.lt_one_iff.mp hh
    rw [List.getElem?_append_right (by rw [← old.1]; exact hk9), ← old.1, hk1] at g2
    rw [hk1] at g1
    have g1' : op = a := Option.some.inj g1
    have g2' : ((0 : Int32), ov) = q := Option.some.inj g2
    rw [← g1', ← g2']
    have z4 := hne op a4.2.1 a7.1.symm
    have z5 := hne ol a5.2.1 a7.2.1.symm
    refine ⟨⟨xPl_m a4 l3, z4.1, z4.2.1, z4.2.2, xPl_0n a4⟩, ol, ⟨xPl_m a5 l3, z5.1, z5.2.1, z5.2.2, xPl_0n a5⟩, (hfr op a4.2.1 (xPl_16 a4) a4.2.2.1 a7.1.symm).trans b1, ?_⟩
    have hoe : ∀ x, x = oe → xn ≤ x → xPl r0 r1 M.1 x ∧ x ≠ es := fun x z1 z2 => by
      have z3 := h16 x z2
      refine ⟨by rw [z1]; exact (a6.resolve_left (fun z => z3 (z1.trans z))).1, fun z => ?_⟩
      rcases a7.2.2.1 with y | y
      · exact z3 (z.trans y)
      · exact y (z.symm.trans z1)
    refine xLs_imp2 (xLs_fi b2 l3 (hfr ol a5.2.1 (xPl_16 a5) a5.2.2.1 a7.2.1.symm) (fun x y hx hx1 hx2 hy => ?_)) (fun x hx hx1 hx2 => ?_)
    · have z := hoe x hx hx1
      exact hfr x hx2 (xPl_16 z.1) z.1.2.2.1 z.2
    · have z := hoe x hx hx1
      have z2 := hne x z.1.2.1 z.2
      exact ⟨xPl_m z.1 l3, z2.1, z2.2.1, z2.2.2, xPl_0n z.1⟩
/-- what the merges leave -/
theorem xStp_sv {M0 M : xM} {es op ol oe r0 r1 : Nat} {S0 S : List Nat} {T0 T : List (Int32 × List Nat)} {ov : List Nat} {va vt : Nat → Nat} {lv li f le : Nat → Int32} {sn : Nat} (hxn : xn = 16) (h : xStp M0 es op ol oe r0 r1 S0 T0 ov) (hI : xSv M0 M M0.1 es (xFr es op ol oe r0 r1 M0.1) va vt lv li f le sn S T) : xStp M es op ol oe r0 r1 S T ov := by
  have h16 : ∀ x, xn ≤ x → x ≠ 0 := fun x hx => by omega
  obtain ⟨a1, a2, a3, a4, a5, a6, a7, a8, a9, b1, b2⟩ := h
  obtain ⟨i1, i2, i3, i4, -⟩ := hI
  have hp : xPl r0 r1 M.1 es := by
    obtain ⟨mo9, cap9, -, -, -, -, q5, q6, -⟩ := i3
    exact xPl_m (a3.resolve_left (h16 es q5)).1 i1
  have noe : ∀ x, x = oe → x ≠ 0 → x ≠ es := fun x z1 z3 z => by
    rcases a7.2.2.1 with y | y
    · exact z3 (z.trans y)
    · exact y (z.symm.trans z1)
  refine ⟨Nat.le_trans a1 i1, Nat.le_trans a2 i1, Or.inr ⟨hp, by obtain ⟨mo9, cap9, -, -, -, -, q5, q6, q7⟩ := i3; exact ⟨_, q7⟩⟩, xPl_m a4 i1, xPl_m a5 i1, xAr_fr a6 i1 (fun j hje hj hy => i2 j hj.2.1 (xPl_16 hj) hj.2.2.1 (noe j hje (xPl_0n hj))), a7, xLa_s i3 rfl, ?_, (i2 op a4.2.1 (xPl_16 a4) a4.2.2.1 a7.1.symm).trans b1, ?_⟩
  · refine xShT_fr i4 (Nat.le_refl _) (fun x hx => ?_) (fun _ _ _ => rfl)
    rcases hx with hx | hx
    · exact ⟨xPl_m hx.1 i1, hx.2⟩
    · refine ⟨xPl_new a1 a2 hx.1 hx.2, ?_, ?_, ?_, ?_⟩
      · exact Nat.ne_of_gt (Nat.lt_of_lt_of_le (xAr_lt a3 a1) hx.1)
      · exact Nat.ne_of_gt (Nat.lt_of_lt_of_le a4.2.1 hx.1)
      · exact Nat.ne_of_gt (Nat.lt_of_lt_of_le a5.2.1 hx.1)
      · exact Nat.ne_of_gt (Nat.lt_of_lt_of_le (xAr_lt a6 a1) hx.1)
  · refine xLs_fi b2 i1 (i2 ol a5.2.1 (xPl_16 a5) a5.2.2.1 a7.2.1.symm) (fun x y hx hx1 hx2 hy => ?_)
    have hx' : x = oe := hx
    have hxp : xPl r0 r1 M0.1 x := by
      rw [hx']
      exact (a6.resolve_left (fun z => h16 x hx1 (hx'.trans z))).1
    exact i2 x hx2 (xPl_16 hxp) hxp.2.2.1 (noe x hx' (h16 x hx1))
/-- the versions by slot -/
def xVer (M : xM) (r0 r1 : Nat) (va : Nat → Nat) (f li tx te : Nat → Int32) : Prop := ∀ s, s < 128 → ¬ f s = -1 → (52 ≤ va s ∧ xPl r0 r1 M.1 (va s)) ∧ ∃ (t tl : Nat) (g : Nat → Int32), (52 ≤ t ∧ xPl r0 r1 M.1 t) ∧ M.2 (va s) = .inr (3, [.ref t, .int (li s)]) ∧ M.2 t = .inl (1, tl, .inl g) ∧ te s = nI tl ∧ tl ≤ 40 ∧ ∀ j, j < tl → g j = tx (40 * s + j)
theorem xVer_fr {M M' : xM} {r0 r1 : Nat} {va : Nat → Nat} {f f' li tx te : Nat → Int32} (h : xVer M r0 r1 va f li tx te) (hm : M.1 ≤ M'.1) (hf : ∀ s, s < 128 → ¬ f' s = -1 → ¬ f s = -1) (hfr : ∀ j, 52 ≤ j → xPl r0 r1 M.1 j → (∃ o, M.2 j = .inr (3, o)) ∨ (∃ o, M.2 j = .inl (1, o)) → M'.2 j = M.2 j) : xVer M' r0 r1 va f' li tx te := by
  intro s hs hu
  obtain ⟨a, t, tl, g, b, c, d, e, k, l⟩ := h s hs (hf s hs hu)
  exact ⟨⟨a.1, xPl_m a.2 hm⟩, t, tl, g, ⟨b.1, xPl_m b.2 hm⟩, (hfr _ a.1 a.2 (Or.inl ⟨_, c⟩)).trans c, (hfr t b.1 b.2 (Or.inr ⟨_, d⟩)).trans d, e, k, l⟩
/-- a version is marked as dead -/
theorem xVer_ret {M M' : xM} {r0 r1 sb : Nat} {va : Nat → Nat} {f li tx te : Nat → Int32} (h : xVer M r0 r1 va f li tx te) (hinj : ∀ s t, s < 128 → t < 128 → ¬ f s = -1 → ¬ f t = -1 → va s = va t → s = t) (hsb : sb < 128) (hu0 : ¬ f sb = -1) (hm : M.1 ≤ M'.1) (hfr : ∀ j, 52 ≤ j → xPl r0 r1 M.1 j → j ≠ va sb → M'.2 j = M.2 j) {t0 : Nat} (h0 : M.2 (va sb) = .inr (3, [.ref t0, .int (li sb)])) (h1 : M'.2 (va sb) = .inr (3, [.ref t0, .int 0])) : xVer M' r0 r1 va f (upd li sb 0) tx te := by
  intro s hs hu
  obtain ⟨a, t, tl, g, b, c, d, e, k, l⟩ := h s hs hu
  have hd := (hfr t b.1 b.2 (xne_io h0 d).symm).trans d
  by_cases q : s = sb
  · subst q
    have ht : t0 = t := by
      have := h0.symm.trans c
      simpa using this
    rw [ht] at h1
    exact ⟨⟨a.1, xPl_m a.2 hm⟩, t, tl, g, ⟨b.1, xPl_m b.2 hm⟩, h1.trans (by rw [show upd li s 0 s = 0 from if_pos rfl]), hd, e, k, l⟩
  · have e3 : upd li sb 0 s = li s := if_neg q
    rw [e3]
    exact ⟨⟨a.1, xPl_m a.2 hm⟩, t, tl, g, ⟨b.1, xPl_m b.2 hm⟩, (hfr _ a.1 a.2 (fun w => q (hinj s sb hs hsb hu hu0 w))).trans c, hd, e, k, l⟩
/-- a new version in slot sl -/
theorem xVer_put {M M' : xM} {r0 r1 sl w t0 dl : Nat} {va : Nat → Nat} {f li tx te fd g0 : Nat → Int32} (h : xVer M r0 r1 va f li tx te) (hsl : sl < 128) (hm : M.1 ≤ M'.1) (hfr : ∀ j, 52 ≤ j → xPl r0 r1 M.1 j → (∃ o, M.2 j = .inr (3, o)) ∨ (∃ o, M.2 j = .inl (1, o)) → M'.2 j = M.2 j) (hw : 52 ≤ w ∧ xPl r0 r1 M'.1 w) (ht : 52 ≤ t0 ∧ xPl r0 r1 M'.1 t0) (h1 : M'.2 w = .inr (3, [.ref t0, .int 1])) (h2 : M'.2 t0 = .inl (1, dl, .inl g0)) (hdl : dl ≤ 40) (hg0 : ∀ j, j < dl → g0 j = fd j) : xVer M' r0 r1 (upN va sl w) (upd f sl 99) (upd li sl 1) (va_cpy fd tx 0 (40 * sl) dl) (upd te sl (nI dl)) := by
  intro s hs hu
  by_cases q : s = sl
  · subst q
    have e1 : upN va s w s = w := if_pos rfl
    have e2 : upd li s 1 s = 1 := if_pos rfl
    have e3 : upd te s (nI dl) s = nI dl := if_pos rfl
    rw [e1, e2, e3]
    refine ⟨hw, t0, dl, g0, ht, h1, h2, rfl, hdl, fun j hj => ?_⟩
    rw [hg0 j hj, va_cpy, if_pos (by omega)]
    congr 1
    omega
  · have e0 : upd f sl 99 s = f s := if_neg q
    rw [e0] at hu
    obtain ⟨a, t, tl, g, b, c, d, e, k, l⟩ := h s hs hu
    have e1 : upN va sl w s = va s := if_neg q
    have e2 : upd li sl 1 s = li s := if_neg q
    have e3 : upd te sl (nI dl) s = te s := if_neg q
    rw [e1, e2, e3]
    refine ⟨⟨a.1, xPl_m a.2 hm⟩, t, tl, g, ⟨b.1, xPl_m b.2 hm⟩, (hfr _ a.1 a.2 (Or.inl ⟨_, c⟩)).trans c, (hfr t b.1 b.2 (Or.inr ⟨_, d⟩)).trans d, e, k, fun j hj => ?_⟩
    rw [l j hj, va_cpy, if_neg (by omega)]
/-- the names -/
def xNmd (M : xM) (va : Nat → Nat) (cu : Nat → Int32) : Prop := ∃ nm : Nat → Option Nat, M.2 19 = .inl (5, 10, .inr (.inr (.inr (.inr nm)))) ∧ ∀ k, k < 10 → (cu k = -1 ∧ nm k = none) ∨ ∃ s, s < 128 ∧ cu k = nI s ∧ nm k = some (va s)
/-- the reference's own order: what is named lives, and what lives is named -/
def xIp (f li cu : Nat → Int32) : Prop :=
  (∀ k, k < 10 → cu k = -1 ∨ ∃ s, s < 128 ∧ cu k = nI s ∧ ¬ f s = -1 ∧ li s = 1) ∧ (∀ k k', k < 10 → k' < 10 → cu k = cu k' → ¬ cu k = -1 → k = k') ∧ ∀ s, s < 128 → li s = 0 ∨ (li s = 1 ∧ ∃ k, k < 10 ∧ cu k = nI s)
theorem xIp_ten {f li cu : Nat → Int32} (h : xIp f li cu) : ((List.range 128).filter (fun s => decide (li s ≠ 0))).length ≤ 10 := xten (cu := cu) (fun s hs hl => by
  rcases h.2.2 s hs with a | a
  · exact absurd a hl
  · exact a.2)
theorem xIp_f {f f' li cu : Nat → Int32} (h : xIp f li cu) (hk : ∀ s, s < 128 → ¬ li s = 0 → ¬ f s = -1 → ¬ f' s = -1) : xIp f' li cu := by
  refine ⟨fun k hk2 => (h.1 k hk2).imp_right (fun q => ?_), h.2⟩
  obtain ⟨s, a, b, c, d⟩ := q
  exact ⟨s, a, b, hk s a (by rw [d]; decide) c, d⟩
theorem xIp_drop {f li cu : Nat → Int32} {k sb : Nat} (h : xIp f li cu) (hk : k < 10) (hsb : sb < 128) (hc : cu k = nI sb) : xIp f (upd li sb 0) (upd cu k (-1)) := by
  have hnc : ¬ cu k = -1 := by rw [hc]; exact fun e => xneg1 (by omega) e.symm
  refine ⟨fun j hj => ?_, fun j j' hj hj' e hn => ?_, fun s hs => ?_⟩
  · by_cases q : j = k
    · exact Or.inl (if_pos q)
    · have e1 : upd cu k (-1) j = cu j := if_neg q
      rw [e1]
      refine (h.1 j hj).imp_right (fun z => ?_)
      obtain ⟨s, a, b, c, d⟩ := z
      have ns : s ≠ sb := fun w => q (h.2.1 j k hj hk (by rw [b, hc, w]) (by rw [b]; exact fun e => xneg1 (by omega) e.symm))
      exact ⟨s, a, b, c, (if_neg ns).trans d⟩
  · have q1 : j ≠ k := fun q => hn (if_pos q)
    have e1 : upd cu k (-1) j = cu j := if_neg q1
    rw [e1] at e hn
    have q2 : j' ≠ k := fun q => hn (e.trans (if_pos q))
    have e2 : upd cu k (-1) j' = cu j' := if_neg q2
    rw [e2] at e
    exact h.2.1 j j' hj hj' e hn
  · by_cases q : s = sb
    · exact Or.inl (if_pos q)
    · have e1 : upd li sb 0 s = li s := if_neg q
      rw [e1]
      refine (h.2.2 s hs).imp_right (fun z => ⟨z.1, ?_⟩)
      obtain ⟨-, j, a, b⟩ := z
      have q1 : j ≠ k := fun w => q ((nI_eq (a := s) (b := sb) (by omega) (by omega)).mp (by rw [← b, w, hc]))
      exact ⟨j, a, (if_neg q1).trans b⟩
theorem xIp_new {f li cu : Nat → Int32} {k sl : Nat} (h : xIp f li cu) (hk : k < 10) (hsl : sl < 128) (hf : f sl = -1) (hc : cu k = -1) : xIp (upd f sl 99) (upd li sl 1) (upd cu k (nI sl)) := by
  have old : ∀ j s, j < 10 → s < 128 → cu j = nI s → ¬ s = sl := by
    intro j s hj hs e w
    rcases h.1 j hj with a | ⟨s', a, b, c, d⟩
    · rw [e] at a
      exact xneg1 (show s < 2 ^ 31 by omega) a.symm
    · have := (nI_eq (a := s') (b := s) (by omega) (by omega)).mp (b.symm.trans e)
      rw [this, w] at c
      exact c hf
  refine ⟨fun j hj => ?_, fun j j' hj hj' e hn => ?_, fun s hs => ?_⟩
  · by_cases q : j = k
    · exact Or.inr ⟨sl, hsl, if_pos q, by rw [show upd f sl 99 sl = 99 from if_pos rfl]; decide, if_pos rfl⟩
    · have e1 : upd cu k (nI sl) j = cu j := if_neg q
      rw [e1]
      refine (h.1 j hj).imp_right (fun z => ?_)
      obtain ⟨s, a, b, c, d⟩ := z
      have ns := old j s hj a b
      exact ⟨s, a, b, by rw [show upd f sl 99 s = f s from if_neg ns]; exact c, (if_neg ns).trans d⟩
  · have key : ∀ i, i < 10 → i ≠ k → ¬ cu i = nI sl := fun i hi _ e => old i sl hi hsl e rfl
    by_cases q : j = k
    · by_cases q' : j' = k
      · rw [q, q']
      · rw [show upd cu k (nI sl) j = nI sl from if_pos q, show upd cu k (nI sl) j' = cu j' from if_neg q'] at e
        exact absurd e.symm (key j' hj' q')
    · by_cases q' : j' = k
      · rw [show upd cu k (nI sl) j' = nI sl from if_pos q', show upd cu k (nI sl) j = cu j from if_neg q] at e
        exact absurd e (key j hj q)
      · rw [show upd cu k (nI sl) j' = cu j' from if_neg q', show upd cu k (nI sl) j = cu j from if_neg q] at e
        rw [show upd cu k (nI sl) j = cu j from if_neg q] at hn
        exact h.2.1 j j' hj hj' e hn
  · by_cases q : s = sl
    · exact Or.inr ⟨if_pos q, k, hk, by rw [q]; exact if_pos rfl⟩
    · have e1 : upd li sl 1 s = li s := if_neg q
      rw [e1]
      refine (h.2.2 s hs).imp_right (fun z => ⟨z.1, ?_⟩)
      obtain ⟨-, j, a, b⟩ := z
      have q1 : j ≠ k := fun w => by
        rw [w, hc] at b
        exact xneg1 (show s < 2 ^ 31 by omega) b
      exact ⟨j, a, (if_neg q1).trans b⟩
theorem xupd2 (cu : Nat → Int32) (k : Nat) (a b : Int32) : upd (upd cu k a) k b = upd cu k b := by
  funext j
  by_cases q : j = k
  · exact (if_pos q).trans (if_pos q).symm
  · exact (if_neg q).trans ((if_neg q).trans (if_neg q).symm)
/-- merges lose no living slot and find none -/
theorem setl_u {li : Nat → Int32} {s : Nat} : ∀ (m : Nat) (f le : Nat → Int32) (sn tk : Nat), sn ≤ 60 → ¬ (setl li m (f, le, sn, tk)).1 s = -1 → ¬ f s = -1
  | 0, f, le, sn, tk, _, h => h
  | m + 1, f, le, 0, tk, _, h => h
  | m + 1, f, le, 1, tk, _, h => h
  | m + 1, f, le, av + 2, tk, hs, h => by
    rw [setl] at h
    by_cases e : le (av + 1) = le av
    · rw [if_pos e] at h
      exact xmrg_u (show av < 64 by omega) (setl_u m _ _ _ _ (by split <;> omega) h)
    · rw [if_neg e] at h
      exact h
theorem xmrg_live {f li : Nat → Int32} {av s : Nat} (hav : av < 64) (hl : ¬ li s = 0) (h : ¬ f s = -1) : ¬ xmrgF f li (nI av) (nI (av + 1)) s = -1 := by
  by_cases e : f s = nI av ∨ f s = nI (av + 1)
  · rw [← xmrg_l e hl]
    exact fun q => xneg1 (show av < 2 ^ 31 by omega) q.symm
  · rw [← xmrg_n e]
    exact h
theorem setl_live {li : Nat → Int32} {s : Nat} (hl : ¬ li s = 0) : ∀ (m : Nat) (f le : Nat → Int32) (sn tk : Nat), sn ≤ 60 → ¬ f s = -1 → ¬ (setl li m (f, le, sn, tk)).1 s = -1
  | 0, f, le, sn, tk, _, h => h
  | m + 1, f, le, 0, tk, _, h => h
  | m + 1, f, le, 1, tk, _, h => h
  | m + 1, f, le, av + 2, tk, hs, h => by
    rw [setl]
    by_cases e : le (av + 1) = le av
    · rw [if_pos e]
      exact setl_live hl m _ _ _ _ (by split <;> omega) (xmrg_live (show av < 64 by omega) hl h)
    · rw [if_neg e]
      exact h
theorem cmpl_u {li : Nat → Int32} {s : Nat} : ∀ (m : Nat) (f le : Nat → Int32) (sn tk c : Nat), sn ≤ 60 → ¬ (cmpl li m (f, le, sn, tk) c).1.1 s = -1 → ¬ f s = -1
  | 0, f, le, sn, tk, c, _, h => h
  | m + 1, f, le, 0, tk, c, _, h => h
  | m + 1, f, le, 1, tk, c, _, h => h
  | m + 1, f, le, av + 2, tk, c, hs, h => by
    rw [cmpl] at h
    exact xmrg_u (show av < 64 by omega) (cmpl_u m _ _ _ _ _ (by split <;> omega) h)
theorem cmpl_live {li : Nat → Int32} {s : Nat} (hl : ¬ li s = 0) : ∀ (m : Nat) (f le : Nat → Int32) (sn tk c : Nat), sn ≤ 60 → ¬ f s = -1 → ¬ (cmpl li m (f, le, sn, tk) c).1.1 s = -1
  | 0, f, le, sn, tk, c, _, h => h
  | m + 1, f, le, 0, tk, c, _, h => h
  | m + 1, f, le, 1, tk, c, _, h => h
  | m + 1, f, le, av + 2, tk, c, hs, h => by
    rw [cmpl]
    exact cmpl_live hl m _ _ _ _ _ (by split <;> omega) (xmrg_live (show av < 64 by omega) hl h)
theorem xmrg_99 {f li : Nat → Int32} {av s : Nat} (hav : av + 1 < 64) : xmrgF f li (nI av) (nI (av + 1)) s = 99 ↔ f s = 99 := by
  by_cases e : f s = nI av ∨ f s = nI (av + 1)
  · refine ⟨fun q => ?_, fun q => ?_⟩
    · by_cases l : li s = 0
      · rw [← xmrg_d e l] at q
        exact absurd q xm99
      · rw [← xmrg_l e l] at q
        exact absurd q.symm (x99 (by omega))
    · rw [q] at e
      exact e.elim (fun z => absurd z (x99 (by omega))) (fun z => absurd z (x99 hav))
  · rw [← xmrg_n e]
theorem setl_99 {li : Nat → Int32} {s : Nat} : ∀ (m : Nat) (f le : Nat → Int32) (sn tk : Nat), sn ≤ 60 → ((setl li m (f, le, sn, tk)).1 s = 99 ↔ f s = 99)
  | 0, f, le, sn, tk, _ => Iff.rfl
  | m + 1, f, le, 0, tk, _ => Iff.rfl
  | m + 1, f, le, 1, tk, _ => Iff.rfl
  | m + 1, f, le, av + 2, tk, hs => by
    rw [setl]
    by_cases e : le (av + 1) = le av
    · rw [if_pos e]
      exact (setl_99 m _ _ _ _ (by split <;> omega)).trans (xmrg_99 (by omega))
    · rw [if_neg e]
theorem cmpl_99 {li : Nat → Int32} {s : Nat} : ∀ (m : Nat) (f le : Nat → Int32) (sn tk c : Nat), sn ≤ 60 → ((cmpl li m (f, le, sn, tk) c).1.1 s = 99 ↔ f s = 99)
  | 0, f, le, sn, tk, c, _ => Iff.rfl
  | m + 1, f, le, 0, tk, c, _ => Iff.rfl
  | m + 1, f, le, 1, tk, c, _ => Iff.rfl
  | m + 1, f, le, av + 2, tk, c, hs => by
    rw [cmpl]
    exact (cmpl_99 m _ _ _ _ _ (by split <;> omega)).trans (xmrg_99 (by omega))
theorem xsl_99 {f f' : Nat → Int32} (h : ∀ s, f' s = 99 ↔ f s = 99) : xsl f' 99 = xsl f 99 := by
  refine List.filter_congr (fun s _ => ?_)
  by_cases e : f s = 99
  · rw [e, (h s).mpr e]
  · have e2 : ¬ f' s = 99 := fun q => e ((h s).mp q)
    simp [e, e2]
/-- what a version's cell says -/
def xLvM (M : xM) (w : Nat) : Int32 := match M.2 w with
  | .inr (_, [_, .int x]) => x
  | _ => 0
def xVtM (M : xM) (w : Nat) : Nat := match M.2 w with
  | .inr (_, [.ref t, _]) => t
  | _ => 0
theorem xLvM_eq {M : xM} {w t : Nat} {x : Int32} (h : M.2 w = .inr (3, [.ref t, .int x])) : xLvM M w = x ∧ xVtM M w = t := by
  unfold xLvM xVtM
  rw [h]
  exact ⟨rfl, rfl⟩
/-- the merges may begin -/
theorem xSv_0 {M : xM} {es op ol oe r0 r1 : Nat} {S : List Nat} {T : List (Int32 × List Nat)} {ov : List Nat} {va : Nat → Nat} {f li tx te le : Nat → Int32} {sn : Nat} (h : xStp M es op ol oe r0 r1 S T ov) (hS : S ≠ []) (hV : xVer M r0 r1 va f li tx te) (hA : xAbs T va f le sn) (hT : ∀ q ∈ T, q.2.length ≤ 10) : xSv M M M.1 es (xFr es op ol oe r0 r1 M.1) va (xVtM M) (xLvM M) li f le sn S T := by
  obtain ⟨a1, a2, a3, a4, a5, a6, a7, a8, a9, b1, b2⟩ := h
  obtain ⟨e, he, hLa⟩ := xLs_a a8 hS
  have he' : e = es := he
  subst he'
  obtain ⟨mo, cap, q1, q2, q3, q4, q5, q6, q7⟩ := id hLa
  refine ⟨Nat.le_refl _, fun _ _ _ _ _ => rfl, hLa, xShT_fr a9 (Nat.le_refl _) (fun x hx => Or.inl hx) (fun _ _ _ => rfl), hA, fun s hs hu => ?_, hT⟩
  obtain ⟨a, t, tl, g, b, c, -⟩ := hV s hs hu
  obtain ⟨z1, z2⟩ := xLvM_eq c
  exact ⟨a.1, a.2.2.1, xne_io c q7, z1, by rw [z1, z2]; exact c⟩
/-- the whole storage; o: how many the open shard may hold -/
def xSt (o : Nat) (M : xM) (f li tx te cu le : Nat → Int32) (sn vc : Nat) (va : Nat → Nat) (S : List Nat) (T : List (Int32 × List Nat)) (ov : List Nat) (es op ol oe r0 r1 : Nat) : Prop :=
  xStp M es op ol oe r0 r1 S T ov ∧ xVer M r0 r1 va f li tx te ∧ xNmd M va cu ∧ xAbs T va f le sn ∧ ov.Perm ((xsl f 99).map va) ∧ xIp f li cu ∧ (∀ s t, s < 128 → t < 128 → ¬ f s = -1 → ¬ f t = -1 → va s = va t → s = t) ∧ (∀ q ∈ T, q.2.length ≤ 10) ∧ ov.length ≤ o ∧ ∃ B, xLvl T B ∧ 3 * B + ov.length ≤ vc
theorem xne_ol {M : xM} {j ol : Nat} {x : List Value} (h : M.2 ol = .inr (2, x)) (ht : (∃ o, M.2 j = .inr (3, o)) ∨ (∃ o, M.2 j = .inl (1, o))) : j ≠ ol := by
  intro q
  subst q
  rcases ht with ⟨o, z⟩ | ⟨o, z⟩
  · rw [h] at z
    simp at z
  · rw [h] at z
    cases z
theorem xcpy_g {fx fd : Nat → Int32} {dl : Nat} (h : ∀ j, j < dl → fx j = fd j) : ∀ j, j < dl → va_cpy fx (fun _ => 0) 0 0 dl j = fd j := by
  intro j hj
  rw [va_cpy, if_pos (by omega), Nat.zero_add, Nat.sub_zero]
  exact h j hj
theorem xNmd_put {nm : Nat → Option Nat} {va : Nat → Nat} {f li cu : Nat → Int32} {k sl w : Nat} (h : ∀ i, i < 10 → (cu i = -1 ∧ nm i = none) ∨ ∃ s, s < 128 ∧ cu i = nI s ∧ nm i = some (va s)) (hIp : xIp f li cu) (hf : f sl = -1) (hsl : sl < 128) : ∀ i, i < 10 → (upd cu k (nI sl) i = -1 ∧ va_up nm k (some w) i = none) ∨ ∃ s, s < 128 ∧ upd cu k (nI sl) i = nI s ∧ va_up nm k (some w) i = some (upN va sl w s) := by
  intro i hi
  by_cases q : i = k
  · refine Or.inr ⟨sl, hsl, if_pos q, ?_⟩
    rw [show upN va sl w sl = w from if_pos rfl]
    exact if_pos q
  · have e1 : upd cu k (nI sl) i = cu i := if_neg q
    have e2 : va_up nm k (some w) i = nm i := if_neg q
    rw [e1, e2]
    refine (h i hi).imp_right (fun z => ?_)
    obtain ⟨s, a, b, c⟩ := z
    have ns : s ≠ sl := fun e => by
      rcases hIp.1 i hi with z | ⟨s', a', b', c', -⟩
      · rw [b] at z
        exact xneg1 (show s < 2 ^ 31 by omega) z.symm
      · have := (nI_eq (a := s') (b := s) (by omega) (by omega)).mp (b'.symm.trans b)
        rw [this, e] at c'
        exact c' hf
    exact ⟨s, a, b, c.trans (congrArg some (if_neg ns).symm)⟩
theorem xNmd_ret {nm : Nat → Option Nat} {va : Nat → Nat} {cu : Nat → Int32} {k : Nat} (h : ∀ i, i < 10 → (cu i = -1 ∧ nm i = none) ∨ ∃ s, s < 128 ∧ cu i = nI s ∧ nm i = some (va s)) : ∀ i, i < 10 → (upd cu k (-1) i = -1 ∧ va_up nm k none i = none) ∨ ∃ s, s < 128 ∧ upd cu k (-1) i = nI s ∧ va_up nm k none i = some (va s) := by
  intro i hi
  by_cases q : i = k
  · exact Or.inl ⟨if_pos q, if_pos q⟩
  · have e1 : upd cu k (-1) i = cu i := if_neg q
    have e2 : va_up nm k none i = nm i := if_neg q
    rw [e1, e2]
    exact h i hi
theorem xinj_put {M : xM} {r0 r1 sl w : Nat} {va : Nat → Nat} {f li tx te : Nat → Int32} (hV : xVer M r0 r1 va f li tx te) (hw : M.1 ≤ w) (h : ∀ s t, s < 128 → t < 128 → ¬ f s = -1 → ¬ f t = -1 → va s = va t → s = t) : ∀ s t, s < 128 → t < 128 → ¬ upd f sl 99 s = -1 → ¬ upd f sl 99 t = -1 → upN va sl w s = upN va sl w t → s = t := by
  intro s t hs ht hu hv e
  by_cases q : s = sl
  · by_cases q' : t = sl
    · rw [q, q']
    · rw [show upd f sl 99 t = f t from if_neg q'] at hv
      rw [show upN va sl w s = w from if_pos q, show upN va sl w t = va t from if_neg q'] at e
      have := (hV t ht hv).1.2.2.1
      omega
  · rw [show upd f sl 99 s = f s from if_neg q] at hu
    by_cases q' : t = sl
    · rw [show upN va sl w t = w from if_pos q', show upN va sl w s = va s from if_neg q] at e
      have := (hV s hs hu).1.2.2.1
      omega
    · rw [show upd f sl 99 t = f t from if_neg q'] at hv
      rw [show upN va sl w t = va t from if_neg q', show upN va sl w s = va s from if_neg q] at e
      exact h s t hs ht hu hv e

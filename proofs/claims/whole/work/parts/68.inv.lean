/-! What holds between two calls -/
/-- the reference's working arrays, whatever they hold -/
def xMw (M : xM) : Prop := ∃ (g : Nat → Nat → Int32) (z : Nat → Int64), M.2 33 = .inl (0, 30, .inl (g 33)) ∧ M.2 34 = .inl (0, 30, .inl (g 34)) ∧ M.2 35 = .inl (0, 30, .inl (g 35)) ∧ M.2 36 = .inl (0, 30, .inl (g 36)) ∧ M.2 37 = .inl (0, 30, .inl (g 37)) ∧ M.2 38 = .inl (0, 30, .inl (g 38)) ∧ M.2 39 = .inl (0, 30, .inl (g 39)) ∧ M.2 40 = .inl (2, 2850, .inl (g 40)) ∧ M.2 41 = .inl (0, 7, .inl (g 41)) ∧ M.2 42 = .inl (0, 7, .inl (g 42)) ∧ M.2 43 = .inl (0, 7, .inl (g 43)) ∧ M.2 44 = .inl (0, 7, .inl (g 44)) ∧ M.2 45 = .inl (2, 32, .inl (g 45)) ∧ M.2 46 = .inl (0, 32, .inl (g 46)) ∧ M.2 47 = .inl (0, 1536, .inl (g 47)) ∧ M.2 48 = .inl (0, 128, .inl (g 48)) ∧ M.2 49 = .inl (2, 30, .inl (g 49)) ∧ M.2 50 = .inl (3, 1230, .inr (.inl z))
theorem xMw_fr {M M' : xM} (h : xMw M) (hf : ∀ j, 33 ≤ j → j < 51 → M'.2 j = M.2 j) : xMw M' := by
  obtain ⟨g, z, k33, k34, k35, k36, k37, k38, k39, k40, k41, k42, k43, k44, k45, k46, k47, k48, k49, k⟩ := h
  exact ⟨g, z, (hf 33 (by omega) (by omega)).trans k33, (hf 34 (by omega) (by omega)).trans k34, (hf 35 (by omega) (by omega)).trans k35, (hf 36 (by omega) (by omega)).trans k36, (hf 37 (by omega) (by omega)).trans k37, (hf 38 (by omega) (by omega)).trans k38, (hf 39 (by omega) (by omega)).trans k39, (hf 40 (by omega) (by omega)).trans k40, (hf 41 (by omega) (by omega)).trans k41, (hf 42 (by omega) (by omega)).trans k42, (hf 43 (by omega) (by omega)).trans k43, (hf 44 (by omega) (by omega)).trans k44, (hf 45 (by omega) (by omega)).trans k45, (hf 46 (by omega) (by omega)).trans k46, (hf 47 (by omega) (by omega)).trans k47, (hf 48 (by omega) (by omega)).trans k48, (hf 49 (by omega) (by omega)).trans k49, (hf 50 (by omega) (by omega)).trans k⟩
/-- the reference's side -/
def xIm (M : xM) (f li tx te cu le fd fp fh : Nat → Int32) (sn vc tk dl pl hc : Nat) (sr pn : Int32) : Prop := (∃ y13 y22 y23 y24 y33 y36 y37 : Int32, M.2 24 = (.inr (12, [.ref 25, .ref 26, .ref 27, .ref 28, .ref 29, .ref 30, .int (nI sn), .int (nI vc), .int (nI tk), .ref 31, .int (nI dl), .ref 32, .int (nI pl), .int y13, .ref 33, .ref 34, .ref 35, .ref 36, .ref 37, .ref 38, .ref 39, .ref 40, .int y22, .int y23, .int y24, .ref 41, .ref 42, .ref 43, .ref 44, .ref 45, .ref 46, .ref 47, .ref 48, .int y33, .ref 49, .ref 50, .int y36, .int y37, .int sr, .int pn, .int (nI hc), .ref 51]))) ∧ M.2 25 = (.inl (0, 5120, .inl tx)) ∧ M.2 26 = (.inl (0, 128, .inl te)) ∧ M.2 27 = (.inl (2, 128, .inl li)) ∧ M.2 28 = (.inl (0, 128, .inl f)) ∧ M.2 29 = (.inl (0, 10, .inl cu)) ∧ M.2 30 = (.inl (0, 64, .inl le)) ∧ M.2 31 = (.inl (0, 40, .inl fd)) ∧ M.2 32 = (.inl (0, 24, .inl fp)) ∧ M.2 51 = (.inl (0, 420, .inl fh)) ∧ xMw M
theorem xIm_fr {M M' : xM} {f li tx te cu le fd fp fh : Nat → Int32} {sn vc tk dl pl hc : Nat} {sr pn : Int32} (h : xIm M f li tx te cu le fd fp fh sn vc tk dl pl hc sr pn) (hf : ∀ j, 24 ≤ j → j < 52 → M'.2 j = M.2 j) : xIm M' f li tx te cu le fd fp fh sn vc tk dl pl hc sr pn := by
  obtain ⟨⟨y13, y22, y23, y24, y33, y36, y37, k⟩, k0, k1, k2, k3, k4, k5, k6, k7, k8, kw⟩ := h
  exact ⟨⟨y13, y22, y23, y24, y33, y36, y37, (hf 24 (by omega) (by omega)).trans k⟩, (hf 25 (by omega) (by omega)).trans k0, (hf 26 (by omega) (by omega)).trans k1, (hf 27 (by omega) (by omega)).trans k2, (hf 28 (by omega) (by omega)).trans k3, (hf 29 (by omega) (by omega)).trans k4, (hf 30 (by omega) (by omega)).trans k5, (hf 31 (by omega) (by omega)).trans k6, (hf 32 (by omega) (by omega)).trans k7, (hf 51 (by omega) (by omega)).trans k8, xMw_fr kw (fun j a b => hf j (by omega) (by omega))⟩
/-- the class's side -/
def xIc (M : xM) (f li tx te cu le fx px hx : Nat → Int32) (sn vc tk dl pl hc : Nat) (pn : Int32) (lr : Value) (va : Nat → Nat) (S : List Nat) (T : List (Int32 × List Nat)) (ov : List Nat) (es op ol oe r0 r1 : Nat) : Prop := M.2 16 = (.inr (0, [.ref 17, .int (nI dl), .ref 18, .int (nI pl), lr, .ref 19, .int (nI vc), .ref op, .ref 22, .int (nI tk), .ref 23, .int (nI hc), .int pn])) ∧ M.2 17 = (.inl (1, 40, .inl fx)) ∧ M.2 18 = (.inl (1, 24, .inl px)) ∧ M.2 23 = (.inl (0, 410, .inl hx)) ∧ xSt 2 M f li tx te cu le sn vc va S T ov es op ol oe r0 r1
theorem xSt_fr {o : Nat} {M M' : xM} {f li tx te cu le : Nat → Int32} {sn vc : Nat} {va : Nat → Nat} {S : List Nat} {T : List (Int32 × List Nat)} {ov : List Nat} {es op ol oe r0 r1 : Nat} (hxn : xn = 16) (h : xSt o M f li tx te cu le sn vc va S T ov es op ol oe r0 r1) (hm : M.1 ≤ M'.1) (hf : ∀ j, j < M.1 → j = 19 ∨ j = 22 ∨ xPl r0 r1 M.1 j → M'.2 j = M.2 j) : xSt o M' f li tx te cu le sn vc va S T ov es op ol oe r0 r1 := by
  obtain ⟨s1, s2, ⟨nm, h19, hnm⟩, s4⟩ := h
  have h52 := s1.1
  refine ⟨xStp_fr hxn s1 hm (fun j hj _ => hf j ?_ (Or.inr hj)), xVer_fr s2 hm (fun _ _ h => h) (fun j _ hp _ => hf j hp.2.1 (Or.inr (Or.inr hp))), ⟨nm, (hf 19 (by omega) (Or.inl rfl)).trans h19, hnm⟩, s4⟩
  rcases hj with q | q
  · omega
  · exact q.2.1
theorem xPl_0 {r0 r1 n x : Nat} (h : xPl r0 r1 n x) : xPl 0 0 n x := ⟨h.1, h.2.1, h.2.2.1, h.2.2.2.1, h.2.2.2.2.1, Or.inr (Nat.zero_le _)⟩
theorem xPl_r {n n' m x : Nat} (h : xPl 0 0 n x) (hn : n ≤ m) : xPl n n' m x := ⟨h.1, Nat.lt_of_lt_of_le h.2.1 hn, h.2.2.1, h.2.2.2.1, h.2.2.2.2.1, Or.inl h.2.1⟩
/-- the reader's block may be another -/
theorem xSt_r {o : Nat} {M : xM} {f li tx te cu le : Nat → Int32} {sn vc : Nat} {va : Nat → Nat} {S : List Nat} {T : List (Int32 × List Nat)} {ov : List Nat} {es op ol oe r0 r1 q0 q1 : Nat} (h : xSt o M f li tx te cu le sn vc va S T ov es op ol oe r0 r1) (hp : ∀ x, xPl r0 r1 M.1 x → xPl q0 q1 M.1 x) (hq : q1 ≤ M.1) : xSt o M f li tx te cu le sn vc va S T ov es op ol oe q0 q1 := by
  obtain ⟨⟨a1, a2, a3, a4, a5, a6, a7, a8, a9, b1, b2⟩, s2, s3⟩ := h
  refine ⟨⟨a1, hq, a3.imp_right (fun q => ⟨hp _ q.1, q.2⟩), hp _ a4, hp _ a5, a6.imp_right (fun q => ⟨hp _ q.1, q.2⟩), a7, a8, xShT_fr a9 (Nat.le_refl _) (fun x hx => ⟨hp _ hx.1, hx.2⟩) (fun _ _ _ => rfl), b1, b2⟩, ?_, s3⟩
  intro s hs hu
  obtain ⟨a, t, tl, g, b, c⟩ := s2 s hs hu
  exact ⟨⟨a.1, hp _ a.2⟩, t, tl, g, ⟨b.1, hp _ b.2⟩, c⟩
theorem xSt_vc {o : Nat} {M : xM} {f li tx te cu le : Nat → Int32} {sn vc vc' : Nat} {va : Nat → Nat} {S : List Nat} {T : List (Int32 × List Nat)} {ov : List Nat} {es op ol oe r0 r1 : Nat} (h : xSt o M f li tx te cu le sn vc va S T ov es op ol oe r0 r1) (hv : vc ≤ vc') : xSt o M f li tx te cu le sn vc' va S T ov es op ol oe r0 r1 := by
  obtain ⟨s1, s2, s3, s4, s5, s6, s7, s8, s9, B, b1, b2⟩ := h
  exact ⟨s1, s2, s3, s4, s5, s6, s7, s8, s9, B, b1, by omega⟩
theorem xIc_fr {M M' : xM} {f li tx te cu le fx px hx : Nat → Int32} {sn vc tk dl pl hc : Nat} {pn : Int32} {lr : Value} {va : Nat → Nat} {S : List Nat} {T : List (Int32 × List Nat)} {ov : List Nat} {es op ol oe r0 r1 : Nat} (hxn : xn = 16) (h : xIc M f li tx te cu le fx px hx sn vc tk dl pl hc pn lr va S T ov es op ol oe r0 r1) (hm : M'.1 = M.1) (hf : ∀ j, j < M.1 → j < 24 ∨ 52 ≤ j → M'.2 j = M.2 j) : xIc M' f li tx te cu le fx px hx sn vc tk dl pl hc pn lr va S T ov es op ol oe r0 r1 := by
  obtain ⟨a, b, c, d, e⟩ := h
  have h52 := e.1.1
  refine ⟨(hf 16 (by omega) (by omega)).trans a, (hf 17 (by omega) (by omega)).trans b, (hf 18 (by omega) (by omega)).trans c, (hf 23 (by omega) (by omega)).trans d, xSt_fr hxn e (by omega) (fun j hj hp => hf j hj ?_)⟩
  rcases hp with q | q | q
  · omega
  · omega
  · exact q.2.2.2.2.1

/-! The rules of the heap: fields, arrays, new cells -/
def xCls (ci : Nat) (C : String) (T : u_T) (N : Nat) (ty0 : Nat → FieldType) : Prop :=
  vwCl[ci]? = some (C, T, N) ∧ (∀ w ∈ u_ws C T N, w ∈ lw_tbl ∧ goodWord w = true) ∧ (∀ k, k < N → parseFieldDescriptor (T k).2.2.1 = some (ty0 k)) ∧ (∀ a, a < N → ∀ b, b < N → a ≠ b → (T a).2.1 ≠ (T b).2.1)
def xFld (own : String) (idx ci k : Nat) (ty : FieldType) (fin : Bool) (decl : String) : Prop :=
  ∃ (C : String) (T : u_T) (N : Nat) (ty0 : Nat → FieldType) (ref : String), xCls ci C T N ty0 ∧ k < N ∧ ty0 k = ty ∧ (T k).2.2.2 = fin ∧ (T k).1 = decl ∧
    (Cond.fieldLink own idx ref (T k).2.1 (T k).2.2.1 ∈ lw_tbl ∨ ∃ host, Cond.fieldLinkNest own idx ref (T k).2.1 (T k).2.2.1 host ∈ lw_tbl) ∧
    (ref = (T k).1 ∨ Cond.sameField ref (T k).1 (T k).2.1 (T k).2.2.1 ∈ lw_tbl)
def xFldF (own : String) (idx ci k : Nat) (ty : FieldType) : Prop :=
  ∃ (C : String) (T : u_T) (N : Nat) (ty0 : Nat → FieldType), xCls ci C T N ty0 ∧ k < N ∧ ty0 k = ty ∧ (T k).2.2.2 = true ∧ (T k).1 = own ∧ Cond.fieldLink own idx own (T k).2.1 (T k).2.2.1 ∈ lw_tbl
theorem xset_self {M : xM} {k : Nat} {e : xE} : (xset M k e).2 k = e := xup_self _ _ _
theorem xset_ne {M : xM} {k j : Nat} {e x : xE} (h : j ≠ k) (p : M.2 j = x) : (xset M k e).2 j = x := (xup_ne _ _ h).trans p
theorem xpush_self {M : xM} {n : Nat} {e : xE} (hn : M.1 = n) : (xpush M e).2 n = e := by subst hn; exact xup_self _ _ _
theorem xpush_ne {M : xM} {n j : Nat} {e x : xE} (hn : M.1 = n) (h : j ≠ n) (p : M.2 j = x) : (xpush M e).2 j = x := by subst hn; exact (xup_ne _ _ h).trans p
theorem xbytes {N : Nat} (hB : N ≤ 65536) {ty : FieldType} (h : componentBytes ty ≤ 8) : N * componentBytes ty ≤ 536870912 := Nat.le_trans (Nat.mul_le_mul hB h) (by decide)
section XJ2
variable {G : xG} {Y : xY} {d ce se cells slots pc : Nat} {L : List (Nat × Value)} {st : List Value} {M : xM} {Post : Option Value → xM → Prop}
theorem xlocs {locs : List Loc} {a k : Nat} (hq : ∀ q ∈ locs, (xs G).heap.size ≤ q.base) (ha : (xs G).heap.size ≤ a) : ∀ q ∈ locs ++ [⟨a, k⟩], (xs G).heap.size ≤ q.base := by
  intro q h
  rcases List.mem_append.mp h with h | h
  · exact hq q h
  · rw [List.mem_singleton.mp h]
    exact ha
theorem xj_get {idx ci k a : Nat} {ty : FieldType} {fin : Bool} {decl : String} {fs : List Value} {v : Value} (hd : decode Y.2.1 pc = .ok (.getfield idx, 3)) (hF : xFld Y.1.cls idx ci k ty fin decl) (hM : M.2 a = .inr (ci, fs)) (h1 : xn ≤ a) (h2 : a < M.1) (hv : fs[k]? = some v)
    (kk : XJ G Y d ce se cells slots (pc + 3) L (v :: st) M Post) : XJ G Y d ce se cells slots pc L (.ref a :: st) M Post := by
  intro p e R s m args below meth c H locs Q ls hC hR hq hl k2
  obtain ⟨C, T, N, ty0, ref, hX, hk, -, -, -, hlink, hsame⟩ := hF
  have hat := hR.2.2.1 a h1 h2
  rw [hM] at hat
  have hts : ∀ w ∈ u_ws C T N, w.before args s = true := fun w hw => xword hC (hX.2.1 w hw).1 (hX.2.1 w hw).2 args
  have hs : ∀ x, s.fieldFound? (T k).1 (T k).2.1 (T k).2.2.1 = some x → s.fieldFound? ref (T k).2.1 (T k).2.2.1 = some x := by
    rcases hsame with rfl | hs
    · exact fun _ h => h
    · exact u_same (xword hC hs rfl args)
  have hv' : (fs.map (xcv (xa G)))[k]? = some (xcv (xa G) v) := by rw [List.getElem?_map, hv]; rfl
  rcases hlink with hl1 | ⟨host, hl1⟩
  · exact va_get hC.2.1 hC.2.2.1 hts (fun w h => h) (xown hC) (xK hC) (xP1 hat) 0 rfl hX.1 k hk (xword hC hl1 rfl args) hs hv' hd (kk p e R s m args below meth c H locs Q ls hC hR hq hl k2)
  · exact va_getN hC.2.1 hC.2.2.1 hts (fun w h => h) (xown hC) (xK hC) (xP1 hat) 0 rfl hX.1 k hk (va_Nw.use rfl (va_Nw.warmF (xwarm hC) (va_Nw.of rfl (hC.1.2.2.1 _ hl1)))) hs hv' hd (kk p e R s m args below meth c H locs Q ls hC hR hq hl k2)
theorem xj_put {idx ci k a : Nat} {ty : FieldType} {decl : String} {fs : List Value} {v : Value} (hd : decode Y.2.1 pc = .ok (.putfield idx, 3)) (hF : xFld Y.1.cls idx ci k ty false decl) (hM : M.2 a = .inr (ci, fs)) (h1 : xn ≤ a) (h2 : a < M.1) (hkl : k < fs.length) {fs' : List Value} (hs' : fs.set k v = fs') (hn : narrow ty (xcv (xa G) v) = xcv (xa G) v) (hf : fits ty (xcv (xa G) v) = true)
    (kk : XJ G Y d ce se cells slots (pc + 3) L st (xset M a (.inr (ci, fs'))) Post) : XJ G Y d ce se cells slots pc L (v :: .ref a :: st) M Post := by
  intro p e R s m args below meth c H locs Q ls hC hR hq hl k2
  subst hs'
  obtain ⟨C, T, N, ty0, ref, hX, hk, hty, hfin, -, hlink, hsame⟩ := hF
  have hat := hR.2.2.1 a h1 h2
  rw [hM] at hat
  have hts : ∀ w ∈ u_ws C T N, w.before args s = true := fun w hw => xword hC (hX.2.1 w hw).1 (hX.2.1 w hw).2 args
  have hs : ∀ x, s.fieldFound? (T k).1 (T k).2.1 (T k).2.2.1 = some x → s.fieldFound? ref (T k).2.1 (T k).2.2.1 = some x := by
    rcases hsame with rfl | hs
    · exact fun _ h => h
    · exact u_same (xword hC hs rfl args)
  have hK := xK hC
  have hap := va_apart (own := Y.1.cls) hts (fun w h => h) ty0 hX.2.2.1 hX.2.2.2 hK hX.1
  obtain ⟨r, hr1, cell, q1, q2, q3, q4⟩ := hat
  have hr : r = (C, T, N) := Option.some.inj (hr1.symm.trans hX.1)
  subst hr
  obtain ⟨hS, hfc, kC, hkC, hkind⟩ := hK.1 ci _ hX.1
  obtain ⟨cf, kf, fi, f, hi, hsl⟩ := hS k hk
  have hlay := hts _ (u_in_lay hk)
  unfold u_lay at hlay
  rw [if_neg (by rw [hfin]; decide)] at hlay
  have hst := (u_facts hfc hkC (u_lays hts (fun w h => h) hk) hi).1
  have hp := hX.2.2.1 k hk
  rw [hty] at hp
  have h6 := u_store hfc hkC hkind hlay hi hp hn hf
  have hend : ∀ H' : Heap, H'[xa G a]? = some (cell.setSlot f.slot (xcv (xa G) v)) → H'.size = H.size → (∀ q, q ≠ xa G a → H'[q]? = H[q]?) → xR G (xset M a (.inr (ci, fs.set k v))) H' := by
    intro H' e1 e2 e3
    rw [hsl] at e1
    refine xR_set hC.1 hR h1 h2 ⟨_, hX.1, t_OB.to (V := updV (vp_V (fs.map (xcv (xa G)))) k (xcv (xa G) v)) ⟨_, e1, q2, q3, t_set q4 hap hk _⟩ (fun j _ => ?_)⟩ e2 e3
    rw [vp_updV_set (by simpa using hkl)]
    show _ = vp_V ((fs.set k v).map (xcv (xa G))) j
    rw [List.map_set]
  have hge := (xR_lt hC.1 hR h1 h2).1
  rcases hlink with hl1 | ⟨host, hl1⟩
  · exact W.putK hC.2.1 hC.2.2.1 (f := f) ⟨xown hC, xword hC hl1 rfl args, ⟨_, _, _, hs _ hi⟩, hst⟩ (by rw [q2]; exact h6) q1 q3 (by rw [hsl]; exact k2_hasslot (q4 k hk)) rfl rfl hd fun H' e1 e2 e3 => kk p e R s m args below meth c H' _ Q ls hC (hend H' e1 e2 e3) (xlocs hq hge) hl k2
  · exact va_WputK hC.2.1 hC.2.2.1 (f := f) (xown hC) (va_Nw.use rfl (va_Nw.warmF (xwarm hC) (va_Nw.of rfl (hC.1.2.2.1 _ hl1)))) (hs _ hi) hst (by rw [q2]; exact h6) q1 q3 (by rw [hsl]; exact k2_hasslot (q4 k hk)) rfl rfl hd fun H' e1 e2 e3 => kk p e R s m args below meth c H' _ Q ls hC (hend H' e1 e2 e3) (xlocs hq hge) hl k2
theorem xj_putF {idx ci k a : Nat} {ty : FieldType} {fs : List Value} {v : Value} (hd : decode Y.2.1 pc = .ok (.putfield idx, 3)) (hin : Y.1.name = "<init>") (hF : xFldF Y.1.cls idx ci k ty) (hM : M.2 a = .inr (ci, fs)) (h1 : xn ≤ a) (h2 : a < M.1) (hkl : k < fs.length) {fs' : List Value} (hs' : fs.set k v = fs') (hn : narrow ty (xcv (xa G) v) = xcv (xa G) v) (hf : fits ty (xcv (xa G) v) = true)
    (kk : XJ G Y d ce se cells slots (pc + 3) L st (xset M a (.inr (ci, fs'))) Post) : XJ G Y d ce se cells slots pc L (v :: .ref a :: st) M Post := by
  intro p e R s m args below meth c H locs Q ls hC hR hq hl k2
  subst hs'
  obtain ⟨C, T, N, ty0, hX, hk, hty, hfin, hdecl, hl1⟩ := hF
  have hat := hR.2.2.1 a h1 h2
  rw [hM] at hat
  have hts : ∀ w ∈ u_ws C T N, w.before args s = true := fun w hw => xword hC (hX.2.1 w hw).1 (hX.2.1 w hw).2 args
  have hK := xK hC
  have hap := va_apart (own := Y.1.cls) hts (fun w h => h) ty0 hX.2.2.1 hX.2.2.2 hK hX.1
  obtain ⟨r, hr1, cell, q1, q2, q3, q4⟩ := hat
  have hr : r = (C, T, N) := Option.some.inj (hr1.symm.trans hX.1)
  subst hr
  obtain ⟨hS, hfc, kC, hkC, hkind⟩ := hK.1 ci _ hX.1
  obtain ⟨cf, kf, fi, f, hi, hsl⟩ := hS k hk
  have hlay := hts _ (u_in_lay hk)
  unfold u_lay at hlay
  rw [if_pos hfin] at hlay
  have hst := (u_facts hfc hkC (u_lays hts (fun w h => h) hk) hi).1
  have hcf : m.cls = cf := by
    obtain ⟨_, _, c', _, _, _, -, -, hf', -, -, -, hown2, -⟩ := Cond.laysFinal_spec hlay
    have e1 : c' = cf := by have := hi.symm.trans hf'; simp at this; exact this.1.symm
    rw [hdecl] at hown2
    rw [← e1]; exact Option.some.inj ((xown hC).symm.trans hown2)
  have hp := hX.2.2.1 k hk
  rw [hty] at hp
  have h6 := u_fits hfc hkC hkind (Or.inr hlay) hi hp hn hf
  have hend : ∀ H' : Heap, H'[xa G a]? = some (cell.setSlot f.slot (xcv (xa G) v)) → H'.size = H.size → (∀ q, q ≠ xa G a → H'[q]? = H[q]?) → xR G (xset M a (.inr (ci, fs.set k v))) H' := by
    intro H' e1 e2 e3
    rw [hsl] at e1
    refine xR_set hC.1 hR h1 h2 ⟨_, hX.1, t_OB.to (V := updV (vp_V (fs.map (xcv (xa G)))) k (xcv (xa G) v)) ⟨_, e1, q2, q3, t_set q4 hap hk _⟩ (fun j _ => ?_)⟩ e2 e3
    rw [vp_updV_set (by simpa using hkl)]
    show _ = vp_V ((fs.set k v).map (xcv (xa G))) j
    rw [List.map_set]
  have hge := (xR_lt hC.1 hR h1 h2).1
  exact W.putFinK hC.2.1 hC.2.2.1 (xown hC) (xword hC hl1 rfl args) (by rw [← hdecl]; exact hi) hst hcf (hC.2.2.2.2.2.2.1 hin) (by rw [q2]; exact h6) q1 q3 (by rw [hsl]; exact k2_hasslot (q4 k hk)) rfl rfl hd fun H' e1 e2 e3 => kk p e R s m args below meth c H' _ Q ls hC (hend H' e1 e2 e3) (xlocs hq hge) hl k2
theorem xj_alen {a t : Nat} {x : vp_A} {v : Int32} (hd : decode Y.2.1 pc = .ok (.arraylength, 1)) (hM : M.2 a = .inl (t, x)) (ht : t < 8) (h1 : xn ≤ a) (h2 : a < M.1) (hv : nI x.1 = v)
    (kk : XJ G Y d ce se cells slots (pc + 1) L (.int v :: st) M Post) : XJ G Y d ce se cells slots pc L (.ref a :: st) M Post := by
  intro p e R s m args below meth c H locs Q ls hC hR hq hl k2
  have hat := hR.2.2.1 a h1 h2
  rw [hM] at hat
  have hty : (xtys (xA G))[t]? = some (xA G t, xty t) := by simp [xtys, ht]
  refine va_alen hC.2.1 hC.2.2.1 (xK hC) (xP1 hat) 0 t rfl hty ?_ hd (kk p e R s m args below meth c H locs Q ls hC hR hq hl k2)
  show Int32.ofNat (xcA (xa G) x).1 = v
  rw [← hv]
  obtain ⟨n, f | f | f | f | f⟩ := x <;> rfl
theorem xj_iaload {a j n : Nat} {i : Int32} {f : Nat → Int32} (hd : decode Y.2.1 pc = .ok (.iaload, 1)) (hM : M.2 a = .inl (0, n, .inl f)) (h1 : xn ≤ a) (h2 : a < M.1) (hi : vp_in i n) (hj : i.toNatClampNeg = j)
    (kk : XJ G Y d ce se cells slots (pc + 1) L (.int (f j) :: st) M Post) : XJ G Y d ce se cells slots pc L (.int i :: .ref a :: st) M Post := by
  intro p e R s m args below meth c H locs Q ls hC hR hq hl k2
  subst hj
  have hat := hR.2.2.1 a h1 h2
  rw [hM] at hat
  exact va_iald hC.2.1 hC.2.2.1 (xK hC) (xP1 hat) 0 0 rfl rfl hi hd (kk p e R s m args below meth c H locs Q ls hC hR hq hl k2)
theorem xj_caload {a j n : Nat} {i : Int32} {f : Nat → Int32} (hd : decode Y.2.1 pc = .ok (.caload, 1)) (hM : M.2 a = .inl (1, n, .inl f)) (h1 : xn ≤ a) (h2 : a < M.1) (hi : vp_in i n) (hj : i.toNatClampNeg = j)
    (kk : XJ G Y d ce se cells slots (pc + 1) L (.int (f j) :: st) M Post) : XJ G Y d ce se cells slots pc L (.int i :: .ref a :: st) M Post := by
  intro p e R s m args below meth c H locs Q ls hC hR hq hl k2
  subst hj
  have hat := hR.2.2.1 a h1 h2
  rw [hM] at hat
  exact va_cald hC.2.1 hC.2.2.1 (xK hC) (xP1 hat) 0 1 rfl rfl hi hd (kk p e R s m args below meth c H locs Q ls hC hR hq hl k2)
theorem xj_zaload {a j n : Nat} {i : Int32} {f : Nat → Int32} (hd : decode Y.2.1 pc = .ok (.baload, 1)) (hM : M.2 a = .inl (2, n, .inl f)) (h1 : xn ≤ a) (h2 : a < M.1) (hi : vp_in i n) (hj : i.toNatClampNeg = j)
    (kk : XJ G Y d ce se cells slots (pc + 1) L (.int (f j) :: st) M Post) : XJ G Y d ce se cells slots pc L (.int i :: .ref a :: st) M Post := by
  intro p e R s m args below meth c H locs Q ls hC hR hq hl k2
  subst hj
  have hat := hR.2.2.1 a h1 h2
  rw [hM] at hat
  exact va_zald hC.2.1 hC.2.2.1 (xK hC) (xP1 hat) 0 2 rfl rfl hi hd (kk p e R s m args below meth c H locs Q ls hC hR hq hl k2)
theorem xj_laload {a j n : Nat} {i : Int32} {f : Nat → Int64} (hd : decode Y.2.1 pc = .ok (.laload, 1)) (hM : M.2 a = .inl (3, n, .inr (.inl f))) (h1 : xn ≤ a) (h2 : a < M.1) (hi : vp_in i n) (hj : i.toNatClampNeg = j)
    (kk : XJ G Y d ce se cells slots (pc + 1) L (.long (f j) :: st) M Post) : XJ G Y d ce se cells slots pc L (.int i :: .ref a :: st) M Post := by
  intro p e R s m args below meth c H locs Q ls hC hR hq hl k2
  subst hj
  have hat := hR.2.2.1 a h1 h2
  rw [hM] at hat
  exact va_lald hC.2.1 hC.2.2.1 (xK hC) (xP1 hat) 0 3 rfl rfl hi hd (kk p e R s m args below meth c H locs Q ls hC hR hq hl k2)
theorem xrf_map {f : Nat → Nat} (r : Option Nat) : va_rf (r.map f) = xcv f (va_rf r) := by cases r <;> rfl
theorem xj_aaload {a j n t : Nat} {C : String} {i : Int32} {f : Nat → Option Nat} {v : Value} (hd : decode Y.2.1 pc = .ok (.aaload, 1)) (hM : M.2 a = .inl (t, n, .inr (.inr (.inr (.inr f))))) (ht : t < 8) (hty : xty t = .object C) (h1 : xn ≤ a) (h2 : a < M.1) (hi : vp_in i n) (hj : i.toNatClampNeg = j) (hv : va_rf (f j) = v)
    (kk : XJ G Y d ce se cells slots (pc + 1) L (v :: st) M Post) : XJ G Y d ce se cells slots pc L (.int i :: .ref a :: st) M Post := by
  intro p e R s m args below meth c H locs Q ls hC hR hq hl k2
  subst hj
  subst hv
  have hat := hR.2.2.1 a h1 h2
  rw [hM] at hat
  have hty : (xtys (xA G))[t]? = some (xA G t, .object C) := by simp [xtys, ht, hty]
  refine va_aldq hC.2.1 hC.2.2.1 (xK hC) (xP1 hat) 0 t rfl hty hi hd ?_
  rw [xrf_map]
  exact kk p e R s m args below meth c H locs Q ls hC hR hq hl k2
theorem xj_iastore {a j n : Nat} {i x x' : Int32} {f : Nat → Int32} (hd : decode Y.2.1 pc = .ok (.iastore, 1)) (hM : M.2 a = .inl (0, n, .inl f)) (h1 : xn ≤ a) (h2 : a < M.1) (hi : vp_in i n) (hj : i.toNatClampNeg = j) (hx : x = x')
    (kk : XJ G Y d ce se cells slots (pc + 1) L st (xset M a (.inl (0, n, .inl (upd f j x')))) Post) : XJ G Y d ce se cells slots pc L (.int x :: .int i :: .ref a :: st) M Post := by
  intro p e R s m args below meth c H locs Q ls hC hR hq hl k2
  subst hj
  subst hx
  have hat : H[xa G a]? = some (vp_cell (xA G 0) (n, .inl f)) := by
    have hat := hR.2.2.1 a h1 h2
    rw [hM] at hat
    exact hat
  refine W.iast hC.2.1 hC.2.2.1 hat (((xK hC).2 0 _ rfl).1 n (fun j => .int (f j))) (fun q => by cases q) (by show ¬ (i < 0 ∨ (arrV _ _ _).slots.size ≤ _); rw [arrV_size]; exact hi) rfl rfl hd fun H1 e1 z oq => ?_
  refine kk p e R s m args below meth c H1 _ Q ls hC (xR_set hC.1 hR h1 h2 ?_ z oq) (xlocs hq (xR_lt hC.1 hR h1 h2).1) hl k2
  show H1[xa G a]? = some (vp_cell _ _)
  rw [e1]
  show _ = some (vp_cell _ (n, .inl _))
  rw [vp_cell_i, vp_cell_i, arrV_store]
  congr 2
  funext q
  by_cases hq : q = i.toNatClampNeg
  · subst hq
    simp [updV, upd]
  · simp [updV, upd, hq]
theorem xj_castore {a j n : Nat} {i x x' : Int32} {f : Nat → Int32} (hd : decode Y.2.1 pc = .ok (.castore, 1)) (hM : M.2 a = .inl (1, n, .inl f)) (h1 : xn ≤ a) (h2 : a < M.1) (hi : vp_in i n) (hj : i.toNatClampNeg = j) (hx : (vp_nar .char x) = x')
    (kk : XJ G Y d ce se cells slots (pc + 1) L st (xset M a (.inl (1, n, .inl (upd f j x')))) Post) : XJ G Y d ce se cells slots pc L (.int x :: .int i :: .ref a :: st) M Post := by
  intro p e R s m args below meth c H locs Q ls hC hR hq hl k2
  subst hj
  subst hx
  have hat : H[xa G a]? = some (vp_cell (xA G 1) (n, .inl f)) := by
    have hat := hR.2.2.1 a h1 h2
    rw [hM] at hat
    exact hat
  refine W.cast hC.2.1 hC.2.2.1 hat (((xK hC).2 1 _ rfl).1 n (fun j => .int (f j))) (fun q => by cases q) (by show ¬ (i < 0 ∨ (arrV _ _ _).slots.size ≤ _); rw [arrV_size]; exact hi) rfl rfl hd fun H1 e1 z oq => ?_
  refine kk p e R s m args below meth c H1 _ Q ls hC (xR_set hC.1 hR h1 h2 ?_ z oq) (xlocs hq (xR_lt hC.1 hR h1 h2).1) hl k2
  show H1[xa G a]? = some (vp_cell _ _)
  rw [e1]
  show _ = some (vp_cell _ (n, .inl _))
  rw [vp_cell_i, vp_cell_i, arrV_store]
  congr 2
  funext q
  by_cases hq : q = i.toNatClampNeg
  · subst hq
    simp [updV, upd, vp_nar]
    try rfl
  · simp [updV, upd, hq]
theorem xj_zastore {a j n : Nat} {i x x' : Int32} {f : Nat → Int32} (hd : decode Y.2.1 pc = .ok (.bastore, 1)) (hM : M.2 a = .inl (2, n, .inl f)) (h1 : xn ≤ a) (h2 : a < M.1) (hi : vp_in i n) (hj : i.toNatClampNeg = j) (hx : (vp_nar .boolean x) = x')
    (kk : XJ G Y d ce se cells slots (pc + 1) L st (xset M a (.inl (2, n, .inl (upd f j x')))) Post) : XJ G Y d ce se cells slots pc L (.int x :: .int i :: .ref a :: st) M Post := by
  intro p e R s m args below meth c H locs Q ls hC hR hq hl k2
  subst hj
  subst hx
  have hat : H[xa G a]? = some (vp_cell (xA G 2) (n, .inl f)) := by
    have hat := hR.2.2.1 a h1 h2
    rw [hM] at hat
    exact hat
  refine W.zast hC.2.1 hC.2.2.1 hat (((xK hC).2 2 _ rfl).1 n (fun j => .int (f j))) (fun q => by cases q) (by show ¬ (i < 0 ∨ (arrV _ _ _).slots.size ≤ _); rw [arrV_size]; exact hi) rfl rfl hd fun H1 e1 z oq => ?_
  refine kk p e R s m args below meth c H1 _ Q ls hC (xR_set hC.1 hR h1 h2 ?_ z oq) (xlocs hq (xR_lt hC.1 hR h1 h2).1) hl k2
  show H1[xa G a]? = some (vp_cell _ _)
  rw [e1]
  show _ = some (vp_cell _ (n, .inl _))
  rw [vp_cell_i, vp_cell_i, arrV_store]
  congr 2
  funext q
  by_cases hq : q = i.toNatClampNeg
  · subst hq
    simp [updV, upd, vp_nar]
    try rfl
  · simp [updV, upd, hq]
theorem xj_lastore {a j n : Nat} {i : Int32} {x : Int64} {f : Nat → Int64} (hd : decode Y.2.1 pc = .ok (.lastore, 1)) (hM : M.2 a = .inl (3, n, .inr (.inl f))) (h1 : xn ≤ a) (h2 : a < M.1) (hi : vp_in i n) (hj : i.toNatClampNeg = j)
    (kk : XJ G Y d ce se cells slots (pc + 1) L st (xset M a (.inl (3, n, .inr (.inl (vp_updL f j x))))) Post) : XJ G Y d ce se cells slots pc L (.long x :: .int i :: .ref a :: st) M Post := by
  intro p e R s m args below meth c H locs Q ls hC hR hq hl k2
  subst hj
  have hat : H[xa G a]? = some (vp_cell (xA G 3) (n, .inr (.inl f))) := by
    have hat := hR.2.2.1 a h1 h2
    rw [hM] at hat
    exact hat
  refine W.last hC.2.1 hC.2.2.1 hat (((xK hC).2 3 _ rfl).1 n (fun j => .long (f j))) (fun q => by cases q) (by show ¬ (i < 0 ∨ (arrV _ _ _).slots.size ≤ _); rw [arrV_size]; exact hi) rfl rfl hd fun H1 e1 z oq => ?_
  refine kk p e R s m args below meth c H1 _ Q ls hC (xR_set hC.1 hR h1 h2 ?_ z oq) (xlocs hq (xR_lt hC.1 hR h1 h2).1) hl k2
  show H1[xa G a]? = some (vp_cell _ _)
  rw [e1]
  show _ = some (vp_cell _ (n, .inr (.inl _)))
  rw [vp_cell_l, vp_cell_l, arrV_store]
  congr 2
  funext q
  by_cases hq : q = i.toNatClampNeg
  · subst hq
    simp [updV, vp_updL]
  · simp [updV, vp_updL, hq]
theorem xj_new_int {n : Int32} {N : Nat} (hd : decode Y.2.1 pc = .ok (.newarray .int, 2)) (hw : Cond.arrayClass .int ∈ lw_tbl) (hn : ¬ n < 0) (hN : n.toNatClampNeg = N) (hB : N ≤ 65536) {na : Nat} (hna : M.1 = na) (hc : cells + 1 ≤ ce) (hse : slots + N ≤ se)
    (kk : XJ G Y d ce se (cells + 1) (slots + N) (pc + 2) L (.ref na :: st) (xpush M (.inl (0, N, .inl (fun _ => 0)))) Post) : XJ G Y d ce se cells slots pc L (.int n :: st) M Post := by
  intro p e R s m args below meth c H locs Q ls hC hR hq hl k2
  subst hna
  have hce := hC.2.2.2.2.2.2.2.2.2.1
  have hses := hC.2.2.2.2.2.2.2.2.2.2
  refine va_newaK hC.2.1 hC.2.2.1 (atype := .int) (xword hC hw rfl args) rfl hd rfl hn hN (xbytes hB (ty := .int) (by decide)) (by omega) (by omega) hR.1 fun H1 cA e1 z1 o1 hAr hNm => ?_
  have hcA : cA = xA G 0 := Option.some.inj (hNm.symm.trans ((xK hC).2 0 _ rfl).2)
  subst hcA
  exact kk p e R s m args below meth c H1 _ Q ls hC (xR_push hC.1 hR e1 (by rw [z1, hR.1]) (fun q h => o1 q (by rw [← hR.1]; exact h))) hq hl k2
theorem xj_new_char {n : Int32} {N : Nat} (hd : decode Y.2.1 pc = .ok (.newarray .char, 2)) (hw : Cond.arrayClass .char ∈ lw_tbl) (hn : ¬ n < 0) (hN : n.toNatClampNeg = N) (hB : N ≤ 65536) {na : Nat} (hna : M.1 = na) (hc : cells + 1 ≤ ce) (hse : slots + N ≤ se)
    (kk : XJ G Y d ce se (cells + 1) (slots + N) (pc + 2) L (.ref na :: st) (xpush M (.inl (1, N, .inl (fun _ => 0)))) Post) : XJ G Y d ce se cells slots pc L (.int n :: st) M Post := by
  intro p e R s m args below meth c H locs Q ls hC hR hq hl k2
  subst hna
  have hce := hC.2.2.2.2.2.2.2.2.2.1
  have hses := hC.2.2.2.2.2.2.2.2.2.2
  refine va_newaK hC.2.1 hC.2.2.1 (atype := .char) (xword hC hw rfl args) rfl hd rfl hn hN (xbytes hB (ty := .char) (by decide)) (by omega) (by omega) hR.1 fun H1 cA e1 z1 o1 hAr hNm => ?_
  have hcA : cA = xA G 1 := Option.some.inj (hNm.symm.trans ((xK hC).2 1 _ rfl).2)
  subst hcA
  exact kk p e R s m args below meth c H1 _ Q ls hC (xR_push hC.1 hR e1 (by rw [z1, hR.1]) (fun q h => o1 q (by rw [← hR.1]; exact h))) hq hl k2
theorem xj_new_boolean {n : Int32} {N : Nat} (hd : decode Y.2.1 pc = .ok (.newarray .boolean, 2)) (hw : Cond.arrayClass .boolean ∈ lw_tbl) (hn : ¬ n < 0) (hN : n.toNatClampNeg = N) (hB : N ≤ 65536) {na : Nat} (hna : M.1 = na) (hc : cells + 1 ≤ ce) (hse : slots + N ≤ se)
    (kk : XJ G Y d ce se (cells + 1) (slots + N) (pc + 2) L (.ref na :: st) (xpush M (.inl (2, N, .inl (fun _ => 0)))) Post) : XJ G Y d ce se cells slots pc L (.int n :: st) M Post := by
  intro p e R s m args below meth c H locs Q ls hC hR hq hl k2
  subst hna
  have hce := hC.2.2.2.2.2.2.2.2.2.1
  have hses := hC.2.2.2.2.2.2.2.2.2.2
  refine va_newaK hC.2.1 hC.2.2.1 (atype := .boolean) (xword hC hw rfl args) rfl hd rfl hn hN (xbytes hB (ty := .boolean) (by decide)) (by omega) (by omega) hR.1 fun H1 cA e1 z1 o1 hAr hNm => ?_
  have hcA : cA = xA G 2 := Option.some.inj (hNm.symm.trans ((xK hC).2 2 _ rfl).2)
  subst hcA
  exact kk p e R s m args below meth c H1 _ Q ls hC (xR_push hC.1 hR e1 (by rw [z1, hR.1]) (fun q h => o1 q (by rw [← hR.1]; exact h))) hq hl k2
theorem xj_new_long {n : Int32} {N : Nat} (hd : decode Y.2.1 pc = .ok (.newarray .long, 2)) (hw : Cond.arrayClass .long ∈ lw_tbl) (hn : ¬ n < 0) (hN : n.toNatClampNeg = N) (hB : N ≤ 65536) {na : Nat} (hna : M.1 = na) (hc : cells + 1 ≤ ce) (hse : slots + N ≤ se)
    (kk : XJ G Y d ce se (cells + 1) (slots + N) (pc + 2) L (.ref na :: st) (xpush M (.inl (3, N, .inr (.inl (fun _ => 0))))) Post) : XJ G Y d ce se cells slots pc L (.int n :: st) M Post := by
  intro p e R s m args below meth c H locs Q ls hC hR hq hl k2
  subst hna
  have hce := hC.2.2.2.2.2.2.2.2.2.1
  have hses := hC.2.2.2.2.2.2.2.2.2.2
  refine va_newaK hC.2.1 hC.2.2.1 (atype := .long) (xword hC hw rfl args) rfl hd rfl hn hN (xbytes hB (ty := .long) (by decide)) (by omega) (by omega) hR.1 fun H1 cA e1 z1 o1 hAr hNm => ?_
  have hcA : cA = xA G 3 := Option.some.inj (hNm.symm.trans ((xK hC).2 3 _ rfl).2)
  subst hcA
  exact kk p e R s m args below meth c H1 _ Q ls hC (xR_push hC.1 hR e1 (by rw [z1, hR.1]) (fun q h => o1 q (by rw [← hR.1]; exact h))) hq hl k2
theorem xj_anew {n : Int32} {N t idx : Nat} {C : String} (hd : decode Y.2.1 pc = .ok (.anewarray idx, 3)) (hw : Cond.classLink Y.1.cls idx C ∈ lw_tbl) (hw2 : Cond.arrayOver (.object C) ∈ lw_tbl) (ht : t < 8) (hty : xty t = .object C) (hn : ¬ n < 0) (hN : n.toNatClampNeg = N) (hB : N ≤ 65536) {na : Nat} (hna : M.1 = na) (hc : cells + 1 ≤ ce) (hse : slots + N ≤ se)
    (kk : XJ G Y d ce se (cells + 1) (slots + N) (pc + 3) L (.ref na :: st) (xpush M (.inl (t, N, .inr (.inr (.inr (.inr (fun _ => none))))))) Post) : XJ G Y d ce se cells slots pc L (.int n :: st) M Post := by
  intro p e R s m args below meth c H locs Q ls hC hR hq hl k2
  subst hna
  have hce := hC.2.2.2.2.2.2.2.2.2.1
  have hses := hC.2.2.2.2.2.2.2.2.2.2
  subst hN
  have hov : (Cond.arrayOver (.object C)).before args s = true := va_AO.use (va_AO.moved (xwarm hC).alike (va_AO.of (hC.1.2.2.1 _ hw2)))
  refine W.anew hC.2.1 hC.2.2.1 (xown hC) (xword hC hw rfl args) hov rfl hd rfl hn (by omega) (by omega) (by omega) fun cA kA comp f1 f2 f3 f4 => ?_
  have hty : (xtys (xA G))[t]? = some (xA G t, .object C) := by simp [xtys, ht, hty]
  obtain ⟨_, _, -, -, -, hf⟩ := ((xK hC).2 t _ hty).2
  have hcA : cA = xA G t := Option.some.inj (f1.symm.trans hf)
  subst hcA
  have hsz := hR.1
  refine W.eq (g2 := F0 m (pc + 3) ls (.ref (xa G M.1) :: st.map (xcv (xa G)))) (by rw [← hsz]) ?_
  refine kk p e R s m args below meth c _ _ Q ls hC (xR_push hC.1 hR ?_ (by simp) (fun q h => by rw [Array.getElem?_push, if_neg (Nat.ne_of_lt h)])) hq hl k2
  show (H.push _)[xa G M.1]? = some (vp_cell _ (_, .inr (.inr (.inr (.inr _)))))
  rw [← hsz, Array.getElem?_push_size, vp_cell_q, ← arrV_new]
  rfl
/-- a new object: its class, its link, its fields' default values -/
def xNew (own : String) (idx ci N : Nat) (fs : List Value) : Prop :=
  ∃ (C : String) (T : u_T) (ty0 : Nat → FieldType), xCls ci C T N ty0 ∧ Cond.classLink own idx C ∈ lw_tbl ∧ Cond.instantiable C N ∈ lw_tbl ∧ Cond.initialized C ∈ lw_tbl ∧ (∀ j, j < N → defaultValue (ty0 j) = vp_V fs j) ∧ ∀ f, fs.map (xcv f) = fs
theorem xj_new {idx ci N : Nat} {fs : List Value} (hd : decode Y.2.1 pc = .ok (.new idx, 3)) (hX : xNew Y.1.cls idx ci N fs) {na : Nat} (hna : M.1 = na) (hc : cells + 1 ≤ ce) (hse : slots + N ≤ se)
    (kk : XJ G Y d ce se (cells + 1) (slots + N) (pc + 3) L (.ref na :: st) (xpush M (.inr (ci, fs))) Post) : XJ G Y d ce se cells slots pc L st M Post := by
  intro p e R s m args below meth c H locs Q ls hC hR hq hl k2
  subst hna
  have hce := hC.2.2.2.2.2.2.2.2.2.1
  have hses := hC.2.2.2.2.2.2.2.2.2.2
  obtain ⟨C, T, ty0, hX, w1, w2, w3, hfs, hmp⟩ := hX
  have hts : ∀ w ∈ u_ws C T N, w.before args s = true := fun w hw => xword hC (hX.2.1 w hw).1 (hX.2.1 w hw).2 args
  have hKn := (xK hC).1 ci _ hX.1
  refine W.newcK hC.2.1 hC.2.2.1 (xown hC) (xword hC w1 rfl args) (xword hC w2 rfl args) (xword hC w3 rfl args) rfl hd (by omega) (by omega) hKn.2.1 hR.1 fun H1 kC hkC e1 z1 o1 => ?_
  refine kk p e R s m args below meth c H1 _ Q ls hC (xR_push hC.1 hR ?_ (by rw [z1, hR.1]) (fun q h => o1 q (by rw [← hR.1]; exact h))) hq hl k2
  refine ⟨_, hX.1, (u_born ty0 hts (fun w h => h) hKn hkC e1 hX.2.2.1).to (fun j hj => ?_)⟩
  show _ = vp_V (fs.map (xcv (xa G))) j
  rw [hmp]
  exact hfs j hj
def xAsg (C E : String) : Prop := C = E ∨ Cond.castable C E ∈ lw_tbl
theorem xasg {C E : String} (h : xAsg C E) {s : State} (hg : xGood G) (hW : (xs G).WarmedH s.vm) (comp c0 : ClassId) (h1 : s.vm.findClass E = some comp) (h2 : s.vm.findClass C = some c0) : s.vm.assignable c0 comp = true := by
  rcases h with rfl | h
  · exact vb_asgS comp c0 h1 h2
  · exact vb_asgC (va_Nw.warmC hW (va_Nw.of rfl (hg.2.2.1 _ h))) comp c0 h1 h2
theorem xj_aastore {a j n t b ci N : Nat} {C E : String} {T : u_T} {i : Int32} {f : Nat → Option Nat} {fs : List Value} (hd : decode Y.2.1 pc = .ok (.aastore, 1)) (hM : M.2 a = .inl (t, n, .inr (.inr (.inr (.inr f))))) (ht : t < 8) (hty : xty t = .object E) (h1 : xn ≤ a) (h2 : a < M.1) (hi : vp_in i n) (hj : i.toNatClampNeg = j)
    (hb : M.2 b = .inr (ci, fs)) (b1 : xn ≤ b) (b2 : b < M.1) (hci : vwCl[ci]? = some (C, T, N)) (hA : xAsg C E)
    (kk : XJ G Y d ce se cells slots (pc + 1) L st (xset M a (.inl (t, n, .inr (.inr (.inr (.inr (va_up f j (some b)))))))) Post) : XJ G Y d ce se cells slots pc L (.ref b :: .int i :: .ref a :: st) M Post := by
  intro p e R s m args below meth c H locs Q ls hC hR hq hl k2
  subst hj
  have hat : H[xa G a]? = some (vp_cell (xA G t) (n, .inr (.inr (.inr (.inr (fun j => (f j).map (xa G))))))) := by
    have hat := hR.2.2.1 a h1 h2
    rw [hM] at hat
    exact hat
  have hab := hR.2.2.1 b b1 b2
  rw [hb] at hab
  have hty : (xtys (xA G))[t]? = some (xA G t, .object E) := by simp [xtys, ht, hty]
  obtain ⟨cellV, g1, g3, ⟨kC, hkC⟩, hasg⟩ := va_rAny (E := E) (xK hC) (xP1 hab) (q0 := 0) rfl hci (fun comp c0 e1 e2 => xasg hA hC.1 (xwarm hC) comp c0 e1 e2)
  obtain ⟨kA, comp, k1, k3, k4, -⟩ := ((xK hC).2 t _ hty).2
  obtain ⟨kE, hkE, -⟩ := Vm.findClass_spec k4
  have hlt : i.toNatClampNeg < n := Nat.not_le.mp fun q => hi (Or.inr q)
  have h0 : ¬ i < 0 := fun q => hi (Or.inl q)
  refine W.aast hC.2.1 hC.2.2.1 hat (fun q h => by cases h) (fun h => by cases h) k1 k3 rfl hkE ⟨h0, by show _ < (arrV _ _ _).slots.size; rw [arrV_size]; exact hlt⟩ g1 (fun q h => by rw [h] at g3; cases g3) hkC (hasg _ k4) rfl rfl hd fun H1 e1 z oq => ?_
  refine kk p e R s m args below meth c H1 _ Q ls hC (xR_set hC.1 hR h1 h2 ?_ z oq) (xlocs hq (xR_lt hC.1 hR h1 h2).1) hl k2
  show H1[xa G a]? = some (vp_cell _ (n, .inr (.inr (.inr (.inr (fun j => (va_up f i.toNatClampNeg (some b) j).map (xa G)))))))
  rw [e1, vp_cell_q, vp_cell_q, arrV_store]
  congr 2
  funext q
  by_cases hq : q = i.toNatClampNeg
  · subst hq
    simp [updV, va_up, va_rf]
  · simp [updV, va_up, hq]
theorem xj_aastoreN {a j n t : Nat} {E : String} {i : Int32} {f : Nat → Option Nat} (hd : decode Y.2.1 pc = .ok (.aastore, 1)) (hM : M.2 a = .inl (t, n, .inr (.inr (.inr (.inr f))))) (ht : t < 8) (hty : xty t = .object E) (h1 : xn ≤ a) (h2 : a < M.1) (hi : vp_in i n) (hj : i.toNatClampNeg = j)
    (kk : XJ G Y d ce se cells slots (pc + 1) L st (xset M a (.inl (t, n, .inr (.inr (.inr (.inr (va_up f j none))))))) Post) : XJ G Y d ce se cells slots pc L (.null :: .int i :: .ref a :: st) M Post := by
  intro p e R s m args below meth c H locs Q ls hC hR hq hl k2
  subst hj
  have hat : H[xa G a]? = some (vp_cell (xA G t) (n, .inr (.inr (.inr (.inr (fun j => (f j).map (xa G))))))) := by
    have hat := hR.2.2.1 a h1 h2
    rw [hM] at hat
    exact hat
  have hty : (xtys (xA G))[t]? = some (xA G t, .object E) := by simp [xtys, ht, hty]
  refine va_WaastN (C := E) hC.2.1 hC.2.2.1 hat (((xK hC).2 t _ hty).1 n (fun j => va_rf ((f j).map (xa G)))) (fun h => by cases h) (by show ¬ (i < 0 ∨ (arrV _ _ _).slots.size ≤ _); rw [arrV_size]; exact hi) rfl rfl hd fun H1 e1 z oq => ?_
  refine kk p e R s m args below meth c H1 _ Q ls hC (xR_set hC.1 hR h1 h2 ?_ z oq) (xlocs hq (xR_lt hC.1 hR h1 h2).1) hl k2
  show H1[xa G a]? = some (vp_cell _ (n, .inr (.inr (.inr (.inr (fun j => (va_up f i.toNatClampNeg none j).map (xa G)))))))
  rw [e1, vp_cell_q, vp_cell_q, arrV_store]
  congr 2
  funext q
  by_cases hq : q = i.toNatClampNeg
  · subst hq
    simp [updV, va_up, va_rf]
  · simp [updV, va_up, hq]
/-- the checkcast of an object of a known class -/
theorem xj_cast {idx a ci N : Nat} {C E : String} {T : u_T} {fs : List Value} (hd : decode Y.2.1 pc = .ok (.checkcast idx, 3)) (hw : Cond.classLink Y.1.cls idx E ∈ lw_tbl) (hM : M.2 a = .inr (ci, fs)) (h1 : xn ≤ a) (h2 : a < M.1) (hci : vwCl[ci]? = some (C, T, N)) (hA : xAsg C E)
    (kk : XJ G Y d ce se cells slots (pc + 3) L (.ref a :: st) M Post) : XJ G Y d ce se cells slots pc L (.ref a :: st) M Post := by
  intro p e R s m args below meth c H locs Q ls hC hR hq hl k2
  have hat := hR.2.2.1 a h1 h2
  rw [hM] at hat
  have hrc := va_recv (xK hC) (xP1 hat) hci (q0 := 0) rfl
  rcases hA with rfl | hA
  · exact va_castS hC.2.1 hC.2.2.1 (xown hC) (xword hC hw rfl args) ((xK hC).1 ci _ hci).2 hrc hd (kk p e R s m args below meth c H locs Q ls hC hR hq hl k2)
  · exact va_castY hC.2.1 hC.2.2.1 (xown hC) (xword hC hw rfl args) (va_Nw.warmC (xwarm hC) (va_Nw.of rfl (hC.1.2.2.1 _ hA))) hrc hd (kk p e R s m args below meth c H locs Q ls hC hR hq hl k2)
theorem xj_instY {idx a ci N : Nat} {C E : String} {T : u_T} {fs : List Value} (hd : decode Y.2.1 pc = .ok (.instanceof idx, 3)) (hw : Cond.classLink Y.1.cls idx E ∈ lw_tbl) (hM : M.2 a = .inr (ci, fs)) (h1 : xn ≤ a) (h2 : a < M.1) (hci : vwCl[ci]? = some (C, T, N)) (hA : xAsg C E)
    (kk : XJ G Y d ce se cells slots (pc + 3) L (.int 1 :: st) M Post) : XJ G Y d ce se cells slots pc L (.ref a :: st) M Post := by
  intro p e R s m args below meth c H locs Q ls hC hR hq hl k2
  have hat := hR.2.2.1 a h1 h2
  rw [hM] at hat
  have hrc := va_recv (xK hC) (xP1 hat) hci (q0 := 0) rfl
  rcases hA with rfl | hA
  · exact va_instS hC.2.1 hC.2.2.1 (xown hC) (xword hC hw rfl args) ((xK hC).1 ci _ hci).2 hrc hd (kk p e R s m args below meth c H locs Q ls hC hR hq hl k2)
  · exact va_instY hC.2.1 hC.2.2.1 (xown hC) (xword hC hw rfl args) (va_Nw.warmC (xwarm hC) (va_Nw.of rfl (hC.1.2.2.1 _ hA))) hrc hd (kk p e R s m args below meth c H locs Q ls hC hR hq hl k2)
end XJ2

/-! The abstract machine: cells by number, one relation to the heap; the judgement XJ: from here the method returns with Post -/
abbrev xE : Type := (Nat × vp_A) ⊕ (Nat × List Value)
abbrev xM : Type := Nat × (Nat → xE)
abbrev xG : Type := Launch × va_G × (Nat → ClassId) × (Nat → Nat) × State × Nat
abbrev xY : Type := MethodName × ByteArray × Nat × Instr
abbrev xD (G : xG) : va_G := G.2.1
abbrev xA (G : xG) : Nat → ClassId := G.2.2.1
abbrev xa (G : xG) : Nat → Nat := G.2.2.2.1
abbrev xs (G : xG) : State := G.2.2.2.2.1
abbrev xb (G : xG) : Nat := G.2.2.2.2.2
/-- numbers below it are cells that were there before the law began -/
def xn : Nat := 16
def xcv (f : Nat → Nat) : Value → Value
  | .int x => .int x
  | .long x => .long x
  | .float x => .float x
  | .double x => .double x
  | .null => .null
  | .ref k => .ref (f k)
  | .retAddr k => .retAddr k
theorem xcv_cat (f : Nat → Nat) (v : Value) : (xcv f v).category = v.category := by cases v <;> rfl
def xq (f : Nat → Nat) (q : Nat × Value) : Nat × Value := (q.1, xcv f q.2)
def xcA (f : Nat → Nat) : vp_A → vp_A
  | (n, .inl g) => (n, .inl g)
  | (n, .inr (.inl g)) => (n, .inr (.inl g))
  | (n, .inr (.inr (.inl g))) => (n, .inr (.inr (.inl g)))
  | (n, .inr (.inr (.inr (.inl g)))) => (n, .inr (.inr (.inr (.inl g))))
  | (n, .inr (.inr (.inr (.inr g)))) => (n, .inr (.inr (.inr (.inr (fun j => (g j).map f)))))
def xc (G : xG) : xE → va_E
  | .inl a => .inl (xA G a.1, xcA (xa G) a.2)
  | .inr o => .inr (o.1, o.2.map (xcv (xa G)))
/-- the arrays' types by their tags -/
def xty : Nat → FieldType
  | 0 => .int
  | 1 => .char
  | 2 => .boolean
  | 3 => .long
  | 4 => .object "java/lang/Object"
  | 5 => .object "TrigramLines$Version"
  | 6 => .object "TrigramLines$Group"
  | _ => .byte
def xtys (f : Nat → ClassId) : List (ClassId × FieldType) := (List.range 8).map (fun t => (f t, xty t))
/-- the heap holds M, and what was there before the law stands as it stood -/
def xR (G : xG) (M : xM) (H : Heap) : Prop := H.size = xa G M.1 ∧ xn ≤ M.1 ∧ (∀ k, xn ≤ k → k < M.1 → va_at (xD G) vwCl (xa G k, xc G (M.2 k)) H) ∧ ∀ q, q < (xs G).heap.size → H[q]? = (xs G).heap[q]?
def xGood (G : xG) : Prop := (∀ k, xn ≤ k → xa G k = (xs G).heap.size + (k - xn)) ∧ (∀ k, k < 12 → xa G k < (xs G).heap.size) ∧ (∀ w ∈ lw_tbl, w.before #[Value.ref (xb G)] (xs G) = true) ∧ va_K (xD G) vwCl (xtys (xA G)) (xs G)
/-- what a method stands in -/
def xCx (G : xG) (Y : xY) (d ce se : Nat) (p : Program) (R : Room) (s : State) (m : MethodId) (meth : Method) (c : Code) : Prop :=
  xGood G ∧ p.tables.exec = Jvm.exec ∧ c.code = Y.2.1 ∧ c.maxLocals = Y.2.2.1 ∧ s.vm.findClass Y.1.cls = some m.cls ∧ (xs G).WarmedH s.vm ∧ (Y.1.name = "<init>" → meth.name = "<init>") ∧ d ≤ R.frames ∧ 64 * d ≤ R.locals ∧ ce ≤ R.cells ∧ se ≤ R.slots
def XJ (G : xG) (Y : xY) (d ce se cells slots pc : Nat) (L : List (Nat × Value)) (st : List Value) (M : xM) (Post : Option Value → xM → Prop) : Prop :=
  ∀ (p : Program) (e : Env) (R : Room) (s : State) (m : MethodId) (args : Array Value) (below : List Frame) (meth : Method) (c : Code) (H : Heap) (locs : List Loc) (Q : State → Prop) (ls : Array Slot),
    xCx G Y d ce se p R s m meth c → xR G M H → (∀ q ∈ locs, (xs G).heap.size ≤ q.base) → lv_has ls Y.2.2.1 (L.map (xq (xa G))) →
    (∀ (v : Option Value) (M' : xM) (H' : Heap) (locs' : List Loc) (pc' : Nat) (ls' : Array Slot), Post v M' → xR G M' H' → (∀ q ∈ locs', (xs G).heap.size ≤ q.base) → decode Y.2.1 pc' = .ok (Y.2.2.2, 1) →
      W p G.1 e R s m args below meth c H' locs' ce se Q (F0 m pc' ls' (v.toList.map (xcv (xa G))))) →
    W p G.1 e R s m args below meth c H locs cells slots Q (F0 m pc ls (st.map (xcv (xa G))))
def xlook (i : Nat) : List (Nat × Value) → Option Value
  | [] => none
  | q :: L => bif Nat.beq q.1 i then some q.2 else xlook i L
theorem xlook_mem {i : Nat} {v : Value} : ∀ {L : List (Nat × Value)}, xlook i L = some v → (i, v) ∈ L
  | [], h => by cases h
  | (j, w) :: L, h => by
    unfold xlook at h
    cases hb : Nat.beq j i with
    | true =>
      rw [hb] at h
      have e1 : j = i := Nat.eq_of_beq_eq_true hb
      have e2 : w = v := Option.some.inj h
      rw [e1, e2]
      exact List.mem_cons_self
    | false =>
      rw [hb] at h
      exact List.mem_cons_of_mem _ (xlook_mem h)
theorem xlk {f : Nat → Nat} {ls : Array Slot} {nL i : Nat} {v : Value} {L : List (Nat × Value)} (hl : lv_has ls nL (L.map (xq f))) (h : xlook i L = some v) : ls[i]? = some (.val (xcv f v)) :=
  hl.2.2 (i, xcv f v) (List.mem_map.mpr ⟨(i, v), xlook_mem h, rfl⟩)
theorem xlk_at {f : Nat → Nat} {i : Nat} {v : Value} {L : List (Nat × Value)} (h : xlook i L = some v) : ∃ n : Nat, (L.map (xq f))[n]? = some (i, xcv f v) :=
  List.getElem?_of_mem (List.mem_map.mpr ⟨(i, v), xlook_mem h, rfl⟩)
def xst1 (i : Nat) (v : Value) (L : List (Nat × Value)) : List (Nat × Value) := (i, v) :: L.filter (fun q => !(q.1 == i) && !(q.1 + 1 == i && q.2.category == 2))
def xst2 (i : Nat) (v : Value) (L : List (Nat × Value)) : List (Nat × Value) := (i, v) :: L.filter (fun q => !(q.1 == i) && (!(q.1 == i + 1) && !(q.1 + 1 == i && q.2.category == 2)))
theorem xst1_map {f : Nat → Nat} {i : Nat} {v : Value} {L : List (Nat × Value)} : (i, xcv f v) :: (L.map (xq f)).filter (fun q => !(q.1 == i) && !(q.1 + 1 == i && q.2.category == 2)) = (xst1 i v L).map (xq f) := by
  show _ = (i, xcv f v) :: List.map (xq f) (L.filter _)
  rw [List.filter_map]
  congr 3
  funext q
  show (!(q.1 == i) && !(q.1 + 1 == i && (xcv f q.2).category == 2)) = _
  rw [xcv_cat]
theorem xst2_map {f : Nat → Nat} {i : Nat} {v : Value} {L : List (Nat × Value)} : (i, xcv f v) :: (L.map (xq f)).filter (fun q => !(q.1 == i) && (!(q.1 == i + 1) && !(q.1 + 1 == i && q.2.category == 2))) = (xst2 i v L).map (xq f) := by
  show _ = (i, xcv f v) :: List.map (xq f) (L.filter _)
  rw [List.filter_map]
  congr 3
  funext q
  show (!(q.1 == i) && (!(q.1 == i + 1) && !(q.1 + 1 == i && (xcv f q.2).category == 2))) = _
  rw [xcv_cat]
theorem xown {G : xG} {Y : xY} {d ce se : Nat} {p : Program} {R : Room} {s : State} {m : MethodId} {meth : Method} {c : Code} (h : xCx G Y d ce se p R s m meth c) : s.vm.findClass Y.1.cls = some m.cls := h.2.2.2.2.1
theorem xwarm {G : xG} {Y : xY} {d ce se : Nat} {p : Program} {R : Room} {s : State} {m : MethodId} {meth : Method} {c : Code} (h : xCx G Y d ce se p R s m meth c) : (xs G).WarmedH s.vm := h.2.2.2.2.2.1
theorem xword0 {G : xG} (h : xGood G) {s : State} (hW : (xs G).WarmedH s.vm) {w : Cond} (hw : w ∈ lw_tbl) (hg : goodWord w = true) (a : Array Value) : w.before a s = true := word_at hW (good_of_word hg) (h.2.2.1 w hw)
theorem xword {G : xG} {Y : xY} {d ce se : Nat} {p : Program} {R : Room} {s : State} {m : MethodId} {meth : Method} {c : Code} (h : xCx G Y d ce se p R s m meth c) {w : Cond} (hw : w ∈ lw_tbl) (hg : goodWord w = true) (a : Array Value) : w.before a s = true := xword0 h.1 (xwarm h) hw hg a
theorem xK {G : xG} {Y : xY} {d ce se : Nat} {p : Program} {R : Room} {s : State} {m : MethodId} {meth : Method} {c : Code} (h : xCx G Y d ce se p R s m meth c) : va_K (xD G) vwCl (xtys (xA G)) s := va_K.moved (xwarm h).alike h.1.2.2.2
/-- an update that does not compute by itself -/
theorem xup_ex (f : Nat → xE) (k : Nat) (e : xE) : ∃ g : Nat → xE, g = va_up f k e := ⟨_, rfl⟩
noncomputable def xup (f : Nat → xE) (k : Nat) (e : xE) : Nat → xE := Classical.choose (xup_ex f k e)
theorem xup_self (f : Nat → xE) (k : Nat) (e : xE) : xup f k e k = e := by
  rw [xup, Classical.choose_spec (xup_ex f k e)]
  exact va_up_self _ _ _
theorem xup_ne (f : Nat → xE) {k j : Nat} (e : xE) (h : j ≠ k) : xup f k e j = f j := by
  rw [xup, Classical.choose_spec (xup_ex f k e)]
  exact va_up_ne _ _ h
noncomputable def xset (M : xM) (k : Nat) (e : xE) : xM := (M.1, xup M.2 k e)
noncomputable def xpush (M : xM) (e : xE) : xM := (M.1 + 1, xup M.2 M.1 e)
theorem xR_lt {G : xG} {M : xM} {H : Heap} (hg : xGood G) (h : xR G M H) {k : Nat} (h1 : xn ≤ k) (h2 : k < M.1) : (xs G).heap.size ≤ xa G k ∧ xa G k < H.size := by
  rw [h.1, hg.1 k h1, hg.1 M.1 h.2.1]
  omega
theorem xa_inj {G : xG} (hg : xGood G) {j k : Nat} (h1 : xn ≤ j) (h2 : xn ≤ k) (h : xa G j = xa G k) : j = k := by
  rw [hg.1 j h1, hg.1 k h2] at h
  omega
theorem xR_set {G : xG} {M : xM} {H H1 : Heap} {k : Nat} {e : xE} (hg : xGood G) (h : xR G M H) (h1 : xn ≤ k) (h2 : k < M.1) (he : va_at (xD G) vwCl (xa G k, xc G e) H1) (z : H1.size = H.size) (oq : ∀ q : Nat, q ≠ xa G k → H1[q]? = H[q]?) : xR G (xset M k e) H1 := by
  refine ⟨z.trans h.1, h.2.1, fun j g1 g2 => ?_, fun q hq => ?_⟩
  · show va_at _ _ (xa G j, xc G (xup M.2 k e j)) H1
    by_cases hj : j = k
    · subst hj
      rw [xup_self]
      exact he
    · rw [xup_ne _ _ hj]
      exact (h.2.2.1 j g1 g2).kept (oq _ (fun z => hj (xa_inj hg g1 h1 z)))
  · have hb := (xR_lt hg h h1 h2).1
    rw [oq q (fun z => by omega)]
    exact h.2.2.2 q hq
theorem xR_push {G : xG} {M : xM} {H H1 : Heap} {e : xE} (hg : xGood G) (h : xR G M H) (he : va_at (xD G) vwCl (xa G M.1, xc G e) H1) (z : H1.size = H.size + 1) (oq : ∀ q : Nat, q < H.size → H1[q]? = H[q]?) : xR G (xpush M e) H1 := by
  have hs := h.1
  have hn := h.2.1
  have hb := hg.1 M.1 hn
  refine ⟨?_, Nat.le_succ_of_le hn, fun j g1 g2 => ?_, fun q hq => ?_⟩
  · show H1.size = xa G (M.1 + 1)
    rw [z, hs, hb, hg.1 (M.1 + 1) (by omega)]
    omega
  · show va_at _ _ (xa G j, xc G (xup M.2 M.1 e j)) H1
    have g3 : j < M.1 + 1 := g2
    by_cases hj : j = M.1
    · subst hj
      rw [xup_self]
      exact he
    · rw [xup_ne _ _ hj]
      exact (h.2.2.1 j g1 (by omega)).kept (oq _ ((xR_lt hg h g1 (by omega)).2))
  · rw [oq q (by omega)]
    exact h.2.2.2 q hq
theorem xP1 {D : va_G} {cl : List vw_C} {q : Nat × va_E} {H : Heap} (h : va_at D cl q H) : va_P D cl [q] H := by
  intro k x hk
  have hz : k < 1 := (List.getElem?_eq_some_iff.mp hk).1
  rw [show k = 0 by omega] at hk
  cases hk
  exact h
section XJ1
variable {G : xG} {Y : xY} {d ce se cells slots pc : Nat} {L : List (Nat × Value)} {st : List Value} {M : xM} {Post : Option Value → xM → Prop}
theorem xj_iconst {z : Int} {v : Int32} (hd : decode Y.2.1 pc = .ok (.iconst z, 1)) (hv : Int32.ofInt z = v) (k : XJ G Y d ce se cells slots (pc + 1) L (.int v :: st) M Post) : XJ G Y d ce se cells slots pc L st M Post := by
  intro p e R s m args below meth c H locs Q ls hC hR hq hl kk
  exact lv_iconst hC.2.1 hC.2.2.1 hd hv (k p e R s m args below meth c H locs Q ls hC hR hq hl kk)
theorem xj_bipush {z : Int} {v : Int32} (hd : decode Y.2.1 pc = .ok (.bipush z, 2)) (hv : (Int8.ofInt z).toInt32 = v) (k : XJ G Y d ce se cells slots (pc + 2) L (.int v :: st) M Post) : XJ G Y d ce se cells slots pc L st M Post := by
  intro p e R s m args below meth c H locs Q ls hC hR hq hl kk
  exact lv_bipush hC.2.1 hC.2.2.1 hd hv (k p e R s m args below meth c H locs Q ls hC hR hq hl kk)
theorem xj_sipush {z : Int} {v : Int32} (hd : decode Y.2.1 pc = .ok (.sipush z, 3)) (hv : (Int16.ofInt z).toInt32 = v) (k : XJ G Y d ce se cells slots (pc + 3) L (.int v :: st) M Post) : XJ G Y d ce se cells slots pc L st M Post := by
  intro p e R s m args below meth c H locs Q ls hC hR hq hl kk
  exact lv_sipush hC.2.1 hC.2.2.1 hd hv (k p e R s m args below meth c H locs Q ls hC hR hq hl kk)
theorem xj_lconst {z : Fin 2} {v : Int64} (hd : decode Y.2.1 pc = .ok (.lconst z, 1)) (hv : Int64.ofNat (z : Nat) = v) (k : XJ G Y d ce se cells slots (pc + 1) L (.long v :: st) M Post) : XJ G Y d ce se cells slots pc L st M Post := by
  intro p e R s m args below meth c H locs Q ls hC hR hq hl kk
  exact lv_lconst hC.2.1 hC.2.2.1 hd hv (k p e R s m args below meth c H locs Q ls hC hR hq hl kk)
theorem xj_null  (hd : decode Y.2.1 pc = .ok (.aconst_null, 1)) (k : XJ G Y d ce se cells slots (pc + 1) L (.null :: st) M Post) : XJ G Y d ce se cells slots pc L st M Post := by
  intro p e R s m args below meth c H locs Q ls hC hR hq hl kk
  exact lv_null hC.2.1 hC.2.2.1 hd (k p e R s m args below meth c H locs Q ls hC hR hq hl kk)
theorem xj_ldc {idx : Nat} {v : Int32} (hd : decode Y.2.1 pc = .ok (.ldc idx, 2)) (hw : Cond.constant Y.1.cls idx v ∈ lw_tbl) (k : XJ G Y d ce se cells slots (pc + 2) L (.int v :: st) M Post) : XJ G Y d ce se cells slots pc L st M Post := by
  intro p e R s m args below meth c H locs Q ls hC hR hq hl kk
  exact lv_ldc hC.2.1 hC.2.2.1 (xown hC) (xword hC hw rfl _) hd (k p e R s m args below meth c H locs Q ls hC hR hq hl kk)
theorem xj_ldc2 {idx : Nat} {v : Int64} (hd : decode Y.2.1 pc = .ok (.ldc2_w idx, 3)) (hw : Cond.constantLong Y.1.cls idx v ∈ lw_tbl) (k : XJ G Y d ce se cells slots (pc + 3) L (.long v :: st) M Post) : XJ G Y d ce se cells slots pc L st M Post := by
  intro p e R s m args below meth c H locs Q ls hC hR hq hl kk
  exact lv_ldc2 hC.2.1 hC.2.2.1 (xown hC) (xword hC hw rfl _) hd (k p e R s m args below meth c H locs Q ls hC hR hq hl kk)
theorem xj_iload_n {j : Fin 4} {i : Nat} {x : Int32} (hd : decode Y.2.1 pc = .ok (.iload_n j, 1)) (hi : (j : Nat) = i) (hv : xlook i L = some (.int x)) (k : XJ G Y d ce se cells slots (pc + 1) L (.int x :: st) M Post) : XJ G Y d ce se cells slots pc L st M Post := by
  intro p e R s m args below meth c H locs Q ls hC hR hq hl kk
  exact lv_iload_n hC.2.1 hC.2.2.1 hd hi (xlk hl hv) (k p e R s m args below meth c H locs Q ls hC hR hq hl kk)
theorem xj_iload {i : Nat} {x : Int32} (hd : decode Y.2.1 pc = .ok (.iload i, 2)) (hv : xlook i L = some (.int x)) (k : XJ G Y d ce se cells slots (pc + 2) L (.int x :: st) M Post) : XJ G Y d ce se cells slots pc L st M Post := by
  intro p e R s m args below meth c H locs Q ls hC hR hq hl kk
  exact lv_iload hC.2.1 hC.2.2.1 hd (xlk hl hv) (k p e R s m args below meth c H locs Q ls hC hR hq hl kk)
theorem xj_lload_n {j : Fin 4} {i : Nat} {x : Int64} (hd : decode Y.2.1 pc = .ok (.lload_n j, 1)) (hi : (j : Nat) = i) (hv : xlook i L = some (.long x)) (k : XJ G Y d ce se cells slots (pc + 1) L (.long x :: st) M Post) : XJ G Y d ce se cells slots pc L st M Post := by
  intro p e R s m args below meth c H locs Q ls hC hR hq hl kk
  exact lv_lload_n hC.2.1 hC.2.2.1 hd hi (xlk hl hv) (k p e R s m args below meth c H locs Q ls hC hR hq hl kk)
theorem xj_lload {i : Nat} {x : Int64} (hd : decode Y.2.1 pc = .ok (.lload i, 2)) (hv : xlook i L = some (.long x)) (k : XJ G Y d ce se cells slots (pc + 2) L (.long x :: st) M Post) : XJ G Y d ce se cells slots pc L st M Post := by
  intro p e R s m args below meth c H locs Q ls hC hR hq hl kk
  exact lv_lload hC.2.1 hC.2.2.1 hd (xlk hl hv) (k p e R s m args below meth c H locs Q ls hC hR hq hl kk)
theorem xj_aload_n {j : Fin 4} {i : Nat} {x : Nat} (hd : decode Y.2.1 pc = .ok (.aload_n j, 1)) (hi : (j : Nat) = i) (hv : xlook i L = some (.ref x)) (k : XJ G Y d ce se cells slots (pc + 1) L (.ref x :: st) M Post) : XJ G Y d ce se cells slots pc L st M Post := by
  intro p e R s m args below meth c H locs Q ls hC hR hq hl kk
  exact lv_aload_n hC.2.1 hC.2.2.1 hd hi (xlk hl hv) (k p e R s m args below meth c H locs Q ls hC hR hq hl kk)
theorem xj_aload {i : Nat} {x : Nat} (hd : decode Y.2.1 pc = .ok (.aload i, 2)) (hv : xlook i L = some (.ref x)) (k : XJ G Y d ce se cells slots (pc + 2) L (.ref x :: st) M Post) : XJ G Y d ce se cells slots pc L st M Post := by
  intro p e R s m args below meth c H locs Q ls hC hR hq hl kk
  exact lv_aload hC.2.1 hC.2.2.1 hd (xlk hl hv) (k p e R s m args below meth c H locs Q ls hC hR hq hl kk)
theorem xj_aload_nN {j : Fin 4} {i : Nat} (hd : decode Y.2.1 pc = .ok (.aload_n j, 1)) (hi : (j : Nat) = i) (hv : xlook i L = some .null) (k : XJ G Y d ce se cells slots (pc + 1) L (.null :: st) M Post) : XJ G Y d ce se cells slots pc L st M Post := by
  intro p e R s m args below meth c H locs Q ls hC hR hq hl kk
  exact lv_aload_nN hC.2.1 hC.2.2.1 hd hi (xlk hl hv) (k p e R s m args below meth c H locs Q ls hC hR hq hl kk)
theorem xj_aloadN {i : Nat} (hd : decode Y.2.1 pc = .ok (.aload i, 2)) (hv : xlook i L = some .null) (k : XJ G Y d ce se cells slots (pc + 2) L (.null :: st) M Post) : XJ G Y d ce se cells slots pc L st M Post := by
  intro p e R s m args below meth c H locs Q ls hC hR hq hl kk
  exact lv_aloadN hC.2.1 hC.2.2.1 hd (xlk hl hv) (k p e R s m args below meth c H locs Q ls hC hR hq hl kk)
theorem xj_iadd {x y v : Int32} (hd : decode Y.2.1 pc = .ok (.iadd, 1)) (hv : x + y = v) (k : XJ G Y d ce se cells slots (pc + 1) L (.int v :: st) M Post) : XJ G Y d ce se cells slots pc L (.int y :: .int x :: st) M Post := by
  intro p e R s m args below meth c H locs Q ls hC hR hq hl kk
  subst hv
  exact lv_iadd hC.2.1 hC.2.2.1 hd (k p e R s m args below meth c H locs Q ls hC hR hq hl kk)
theorem xj_isub {x y v : Int32} (hd : decode Y.2.1 pc = .ok (.isub, 1)) (hv : x - y = v) (k : XJ G Y d ce se cells slots (pc + 1) L (.int v :: st) M Post) : XJ G Y d ce se cells slots pc L (.int y :: .int x :: st) M Post := by
  intro p e R s m args below meth c H locs Q ls hC hR hq hl kk
  subst hv
  exact lv_isub hC.2.1 hC.2.2.1 hd (k p e R s m args below meth c H locs Q ls hC hR hq hl kk)
theorem xj_imul {x y v : Int32} (hd : decode Y.2.1 pc = .ok (.imul, 1)) (hv : x * y = v) (k : XJ G Y d ce se cells slots (pc + 1) L (.int v :: st) M Post) : XJ G Y d ce se cells slots pc L (.int y :: .int x :: st) M Post := by
  intro p e R s m args below meth c H locs Q ls hC hR hq hl kk
  subst hv
  exact lv_imul hC.2.1 hC.2.2.1 hd (k p e R s m args below meth c H locs Q ls hC hR hq hl kk)
theorem xj_iand {x y v : Int32} (hd : decode Y.2.1 pc = .ok (.iand, 1)) (hv : x &&& y = v) (k : XJ G Y d ce se cells slots (pc + 1) L (.int v :: st) M Post) : XJ G Y d ce se cells slots pc L (.int y :: .int x :: st) M Post := by
  intro p e R s m args below meth c H locs Q ls hC hR hq hl kk
  subst hv
  exact lv_iand hC.2.1 hC.2.2.1 hd (k p e R s m args below meth c H locs Q ls hC hR hq hl kk)
theorem xj_ior {x y v : Int32} (hd : decode Y.2.1 pc = .ok (.ior, 1)) (hv : x ||| y = v) (k : XJ G Y d ce se cells slots (pc + 1) L (.int v :: st) M Post) : XJ G Y d ce se cells slots pc L (.int y :: .int x :: st) M Post := by
  intro p e R s m args below meth c H locs Q ls hC hR hq hl kk
  subst hv
  exact lv_ior hC.2.1 hC.2.2.1 hd (k p e R s m args below meth c H locs Q ls hC hR hq hl kk)
theorem xj_ixor {x y v : Int32} (hd : decode Y.2.1 pc = .ok (.ixor, 1)) (hv : x ^^^ y = v) (k : XJ G Y d ce se cells slots (pc + 1) L (.int v :: st) M Post) : XJ G Y d ce se cells slots pc L (.int y :: .int x :: st) M Post := by
  intro p e R s m args below meth c H locs Q ls hC hR hq hl kk
  subst hv
  exact lv_ixor hC.2.1 hC.2.2.1 hd (k p e R s m args below meth c H locs Q ls hC hR hq hl kk)
theorem xj_ishl {x y v : Int32} (hd : decode Y.2.1 pc = .ok (.ishl, 1)) (hv : x <<< (y &&& 31) = v) (k : XJ G Y d ce se cells slots (pc + 1) L (.int v :: st) M Post) : XJ G Y d ce se cells slots pc L (.int y :: .int x :: st) M Post := by
  intro p e R s m args below meth c H locs Q ls hC hR hq hl kk
  subst hv
  exact lv_ishl hC.2.1 hC.2.2.1 hd (k p e R s m args below meth c H locs Q ls hC hR hq hl kk)
theorem xj_ishr {x y v : Int32} (hd : decode Y.2.1 pc = .ok (.ishr, 1)) (hv : x >>> (y &&& 31) = v) (k : XJ G Y d ce se cells slots (pc + 1) L (.int v :: st) M Post) : XJ G Y d ce se cells slots pc L (.int y :: .int x :: st) M Post := by
  intro p e R s m args below meth c H locs Q ls hC hR hq hl kk
  subst hv
  exact lv_ishr hC.2.1 hC.2.2.1 hd (k p e R s m args below meth c H locs Q ls hC hR hq hl kk)
theorem xj_ladd {x y v : Int64} (hd : decode Y.2.1 pc = .ok (.ladd, 1)) (hv : x + y = v) (k : XJ G Y d ce se cells slots (pc + 1) L (.long v :: st) M Post) : XJ G Y d ce se cells slots pc L (.long y :: .long x :: st) M Post := by
  intro p e R s m args below meth c H locs Q ls hC hR hq hl kk
  subst hv
  exact lv_ladd hC.2.1 hC.2.2.1 hd (k p e R s m args below meth c H locs Q ls hC hR hq hl kk)
theorem xj_lsub {x y v : Int64} (hd : decode Y.2.1 pc = .ok (.lsub, 1)) (hv : x - y = v) (k : XJ G Y d ce se cells slots (pc + 1) L (.long v :: st) M Post) : XJ G Y d ce se cells slots pc L (.long y :: .long x :: st) M Post := by
  intro p e R s m args below meth c H locs Q ls hC hR hq hl kk
  subst hv
  exact lv_lsub hC.2.1 hC.2.2.1 hd (k p e R s m args below meth c H locs Q ls hC hR hq hl kk)
theorem xj_lmul {x y v : Int64} (hd : decode Y.2.1 pc = .ok (.lmul, 1)) (hv : x * y = v) (k : XJ G Y d ce se cells slots (pc + 1) L (.long v :: st) M Post) : XJ G Y d ce se cells slots pc L (.long y :: .long x :: st) M Post := by
  intro p e R s m args below meth c H locs Q ls hC hR hq hl kk
  subst hv
  exact lv_lmul hC.2.1 hC.2.2.1 hd (k p e R s m args below meth c H locs Q ls hC hR hq hl kk)
theorem xj_land {x y v : Int64} (hd : decode Y.2.1 pc = .ok (.land, 1)) (hv : x &&& y = v) (k : XJ G Y d ce se cells slots (pc + 1) L (.long v :: st) M Post) : XJ G Y d ce se cells slots pc L (.long y :: .long x :: st) M Post := by
  intro p e R s m args below meth c H locs Q ls hC hR hq hl kk
  subst hv
  exact lv_land hC.2.1 hC.2.2.1 hd (k p e R s m args below meth c H locs Q ls hC hR hq hl kk)
theorem xj_lor {x y v : Int64} (hd : decode Y.2.1 pc = .ok (.lor, 1)) (hv : x ||| y = v) (k : XJ G Y d ce se cells slots (pc + 1) L (.long v :: st) M Post) : XJ G Y d ce se cells slots pc L (.long y :: .long x :: st) M Post := by
  intro p e R s m args below meth c H locs Q ls hC hR hq hl kk
  subst hv
  exact lv_lor hC.2.1 hC.2.2.1 hd (k p e R s m args below meth c H locs Q ls hC hR hq hl kk)
theorem xj_lxor {x y v : Int64} (hd : decode Y.2.1 pc = .ok (.lxor, 1)) (hv : x ^^^ y = v) (k : XJ G Y d ce se cells slots (pc + 1) L (.long v :: st) M Post) : XJ G Y d ce se cells slots pc L (.long y :: .long x :: st) M Post := by
  intro p e R s m args below meth c H locs Q ls hC hR hq hl kk
  subst hv
  exact lv_lxor hC.2.1 hC.2.2.1 hd (k p e R s m args below meth c H locs Q ls hC hR hq hl kk)
theorem xj_idiv {x y v : Int32} (hd : decode Y.2.1 pc = .ok (.idiv, 1)) (hne : ¬ y = 0) (hv : x / y = v) (k : XJ G Y d ce se cells slots (pc + 1) L (.int v :: st) M Post) : XJ G Y d ce se cells slots pc L (.int y :: .int x :: st) M Post := by
  intro p e R s m args below meth c H locs Q ls hC hR hq hl kk
  subst hv
  exact lv_idiv hC.2.1 hC.2.2.1 hd hne (k p e R s m args below meth c H locs Q ls hC hR hq hl kk)
theorem xj_irem {x y : Int32} (hd : decode Y.2.1 pc = .ok (.irem, 1)) (hne : ¬ y = 0) (k : XJ G Y d ce se cells slots (pc + 1) L (.int (x - x / y * y) :: st) M Post) : XJ G Y d ce se cells slots pc L (.int y :: .int x :: st) M Post := by
  intro p e R s m args below meth c H locs Q ls hC hR hq hl kk
  exact lv_irem hC.2.1 hC.2.2.1 hd hne (k p e R s m args below meth c H locs Q ls hC hR hq hl kk)
theorem xj_ineg {x v : Int32} (hd : decode Y.2.1 pc = .ok (.ineg, 1)) (hv : -x = v) (k : XJ G Y d ce se cells slots (pc + 1) L (.int v :: st) M Post) : XJ G Y d ce se cells slots pc L (.int x :: st) M Post := by
  intro p e R s m args below meth c H locs Q ls hC hR hq hl kk
  subst hv
  exact lv_ineg hC.2.1 hC.2.2.1 hd (k p e R s m args below meth c H locs Q ls hC hR hq hl kk)
theorem xj_lneg {x : Int64} (hd : decode Y.2.1 pc = .ok (.lneg, 1)) (k : XJ G Y d ce se cells slots (pc + 1) L (.long (-x) :: st) M Post) : XJ G Y d ce se cells slots pc L (.long x :: st) M Post := by
  intro p e R s m args below meth c H locs Q ls hC hR hq hl kk
  exact lv_lneg hC.2.1 hC.2.2.1 hd (k p e R s m args below meth c H locs Q ls hC hR hq hl kk)
theorem xj_i2l {x : Int32} {v : Int64} (hd : decode Y.2.1 pc = .ok (.i2l, 1)) (hv : x.toInt64 = v) (k : XJ G Y d ce se cells slots (pc + 1) L (.long v :: st) M Post) : XJ G Y d ce se cells slots pc L (.int x :: st) M Post := by
  intro p e R s m args below meth c H locs Q ls hC hR hq hl kk
  exact lv_i2l hC.2.1 hC.2.2.1 hd hv (k p e R s m args below meth c H locs Q ls hC hR hq hl kk)
theorem xj_l2i {x : Int64} {v : Int32} (hd : decode Y.2.1 pc = .ok (.l2i, 1)) (hv : x.toInt32 = v) (k : XJ G Y d ce se cells slots (pc + 1) L (.int v :: st) M Post) : XJ G Y d ce se cells slots pc L (.long x :: st) M Post := by
  intro p e R s m args below meth c H locs Q ls hC hR hq hl kk
  exact lv_l2i hC.2.1 hC.2.2.1 hd hv (k p e R s m args below meth c H locs Q ls hC hR hq hl kk)
theorem xj_i2c {x v : Int32} (hd : decode Y.2.1 pc = .ok (.i2c, 1)) (hv : (x.toUInt32 % 65536).toInt32 = v) (k : XJ G Y d ce se cells slots (pc + 1) L (.int v :: st) M Post) : XJ G Y d ce se cells slots pc L (.int x :: st) M Post := by
  intro p e R s m args below meth c H locs Q ls hC hR hq hl kk
  exact lv_i2c hC.2.1 hC.2.2.1 hd hv (k p e R s m args below meth c H locs Q ls hC hR hq hl kk)
theorem xj_i2b {x v : Int32} (hd : decode Y.2.1 pc = .ok (.i2b, 1)) (hv : x.toInt8.toInt32 = v) (k : XJ G Y d ce se cells slots (pc + 1) L (.int v :: st) M Post) : XJ G Y d ce se cells slots pc L (.int x :: st) M Post := by
  intro p e R s m args below meth c H locs Q ls hC hR hq hl kk
  exact lv_i2b hC.2.1 hC.2.2.1 hd hv (k p e R s m args below meth c H locs Q ls hC hR hq hl kk)
theorem xj_iushr {x y v : Int32} (hd : decode Y.2.1 pc = .ok (.iushr, 1)) (hv : (x.toUInt32 >>> (y.toUInt32 &&& Int32.toUInt32 31)).toInt32 = v) (k : XJ G Y d ce se cells slots (pc + 1) L (.int v :: st) M Post) : XJ G Y d ce se cells slots pc L (.int y :: .int x :: st) M Post := by
  intro p e R s m args below meth c H locs Q ls hC hR hq hl kk
  exact lv_iushr hC.2.1 hC.2.2.1 hd hv (k p e R s m args below meth c H locs Q ls hC hR hq hl kk)
theorem xj_lushr {x v : Int64} {y : Int32} (hd : decode Y.2.1 pc = .ok (.lushr, 1)) (hv : (x.toUInt64 >>> (y.toInt64.toUInt64 &&& Int64.toUInt64 63)).toInt64 = v) (k : XJ G Y d ce se cells slots (pc + 1) L (.long v :: st) M Post) : XJ G Y d ce se cells slots pc L (.int y :: .long x :: st) M Post := by
  intro p e R s m args below meth c H locs Q ls hC hR hq hl kk
  exact lv_lushr hC.2.1 hC.2.2.1 hd hv (k p e R s m args below meth c H locs Q ls hC hR hq hl kk)
theorem xj_lshl {x v : Int64} {y : Int32} (hd : decode Y.2.1 pc = .ok (.lshl, 1)) (hv : x <<< (y.toInt64 &&& 63) = v) (k : XJ G Y d ce se cells slots (pc + 1) L (.long v :: st) M Post) : XJ G Y d ce se cells slots pc L (.int y :: .long x :: st) M Post := by
  intro p e R s m args below meth c H locs Q ls hC hR hq hl kk
  exact lv_lshl hC.2.1 hC.2.2.1 hd hv (k p e R s m args below meth c H locs Q ls hC hR hq hl kk)
theorem xj_lshr {x v : Int64} {y : Int32} (hd : decode Y.2.1 pc = .ok (.lshr, 1)) (hv : x >>> (y.toInt64 &&& 63) = v) (k : XJ G Y d ce se cells slots (pc + 1) L (.long v :: st) M Post) : XJ G Y d ce se cells slots pc L (.int y :: .long x :: st) M Post := by
  intro p e R s m args below meth c H locs Q ls hC hR hq hl kk
  exact lv_lshr hC.2.1 hC.2.2.1 hd hv (k p e R s m args below meth c H locs Q ls hC hR hq hl kk)
theorem xj_lcmp {x y : Int64} {v : Int32} (hd : decode Y.2.1 pc = .ok (.lcmp, 1)) (hv : lg_cmp x y = v) (k : XJ G Y d ce se cells slots (pc + 1) L (.int v :: st) M Post) : XJ G Y d ce se cells slots pc L (.long y :: .long x :: st) M Post := by
  intro p e R s m args below meth c H locs Q ls hC hR hq hl kk
  subst hv
  exact W.lcmp hC.2.1 hC.2.2.1 hd (k p e R s m args below meth c H locs Q ls hC hR hq hl kk)
theorem xj_dup {a : Value} (hd : decode Y.2.1 pc = .ok (.dup, 1)) (h1 : a.category = 1) (k : XJ G Y d ce se cells slots (pc + 1) L (a :: a :: st) M Post) : XJ G Y d ce se cells slots pc L (a :: st) M Post := by
  intro p e R s m args below meth c H locs Q ls hC hR hq hl kk
  exact lv_dup hC.2.1 hC.2.2.1 hd ((xcv_cat _ _).trans h1) (k p e R s m args below meth c H locs Q ls hC hR hq hl kk)
theorem xj_pop {a : Value} (hd : decode Y.2.1 pc = .ok (.pop, 1)) (h1 : a.category = 1) (k : XJ G Y d ce se cells slots (pc + 1) L st M Post) : XJ G Y d ce se cells slots pc L (a :: st) M Post := by
  intro p e R s m args below meth c H locs Q ls hC hR hq hl kk
  exact lv_pop hC.2.1 hC.2.2.1 hd ((xcv_cat _ _).trans h1) (k p e R s m args below meth c H locs Q ls hC hR hq hl kk)
theorem xj_dup_x1 {a b : Value} (hd : decode Y.2.1 pc = .ok (.dup_x1, 1)) (h1 : a.category = 1) (h2 : b.category = 1) (k : XJ G Y d ce se cells slots (pc + 1) L (a :: b :: a :: st) M Post) : XJ G Y d ce se cells slots pc L (a :: b :: st) M Post := by
  intro p e R s m args below meth c H locs Q ls hC hR hq hl kk
  exact lv_dup_x1 hC.2.1 hC.2.2.1 hd ((xcv_cat _ _).trans h1) ((xcv_cat _ _).trans h2) (k p e R s m args below meth c H locs Q ls hC hR hq hl kk)
theorem xj_dup_x2 {a b f : Value} (hd : decode Y.2.1 pc = .ok (.dup_x2, 1)) (h1 : a.category = 1) (h2 : b.category = 1) (h3 : f.category = 1) (k : XJ G Y d ce se cells slots (pc + 1) L (a :: b :: f :: a :: st) M Post) : XJ G Y d ce se cells slots pc L (a :: b :: f :: st) M Post := by
  intro p e R s m args below meth c H locs Q ls hC hR hq hl kk
  exact lv_dup_x2 hC.2.1 hC.2.2.1 hd ((xcv_cat _ _).trans h1) ((xcv_cat _ _).trans h2) ((xcv_cat _ _).trans h3) (k p e R s m args below meth c H locs Q ls hC hR hq hl kk)
theorem xj_dup2 {a b : Value} (hd : decode Y.2.1 pc = .ok (.dup2, 1)) (h1 : a.category = 1) (h2 : b.category = 1) (k : XJ G Y d ce se cells slots (pc + 1) L (a :: b :: a :: b :: st) M Post) : XJ G Y d ce se cells slots pc L (a :: b :: st) M Post := by
  intro p e R s m args below meth c H locs Q ls hC hR hq hl kk
  exact lv_dup2_11 hC.2.1 hC.2.2.1 hd ((xcv_cat _ _).trans h1) ((xcv_cat _ _).trans h2) (k p e R s m args below meth c H locs Q ls hC hR hq hl kk)
theorem xj_dup2L {a : Value} (hd : decode Y.2.1 pc = .ok (.dup2, 1)) (h1 : a.category = 2) (k : XJ G Y d ce se cells slots (pc + 1) L (a :: a :: st) M Post) : XJ G Y d ce se cells slots pc L (a :: st) M Post := by
  intro p e R s m args below meth c H locs Q ls hC hR hq hl kk
  exact lv_dup2_2 hC.2.1 hC.2.2.1 hd ((xcv_cat _ _).trans h1) (k p e R s m args below meth c H locs Q ls hC hR hq hl kk)
theorem xj_dup2_x1L {a b : Value} (hd : decode Y.2.1 pc = .ok (.dup2_x1, 1)) (h1 : a.category = 2) (h2 : b.category = 1) (k : XJ G Y d ce se cells slots (pc + 1) L (a :: b :: a :: st) M Post) : XJ G Y d ce se cells slots pc L (a :: b :: st) M Post := by
  intro p e R s m args below meth c H locs Q ls hC hR hq hl kk
  exact lv_dup2_x1_2 hC.2.1 hC.2.2.1 hd ((xcv_cat _ _).trans h1) ((xcv_cat _ _).trans h2) (k p e R s m args below meth c H locs Q ls hC hR hq hl kk)
theorem xj_dup2_x2L {a b f : Value} (hd : decode Y.2.1 pc = .ok (.dup2_x2, 1)) (h1 : a.category = 2) (h2 : b.category = 1) (h3 : f.category = 1) (k : XJ G Y d ce se cells slots (pc + 1) L (a :: b :: f :: a :: st) M Post) : XJ G Y d ce se cells slots pc L (a :: b :: f :: st) M Post := by
  intro p e R s m args below meth c H locs Q ls hC hR hq hl kk
  exact lv_dup2_x2_2 hC.2.1 hC.2.2.1 hd ((xcv_cat _ _).trans h1) ((xcv_cat _ _).trans h2) ((xcv_cat _ _).trans h3) (k p e R s m args below meth c H locs Q ls hC hR hq hl kk)
theorem xj_pop2L {a : Value} (hd : decode Y.2.1 pc = .ok (.pop2, 1)) (h1 : a.category = 2) (k : XJ G Y d ce se cells slots (pc + 1) L st M Post) : XJ G Y d ce se cells slots pc L (a :: st) M Post := by
  intro p e R s m args below meth c H locs Q ls hC hR hq hl kk
  exact lv_pop2_2 hC.2.1 hC.2.2.1 hd ((xcv_cat _ _).trans h1) (k p e R s m args below meth c H locs Q ls hC hR hq hl kk)
theorem xj_istore_n {i : Nat} {x : Int32} {j : Fin 4} {L' : List (Nat × Value)} (hd : decode Y.2.1 pc = .ok (.istore_n j, 1)) (hj : (j : Nat) = i) (hi : i < Y.2.2.1) (hL : xst1 i (.int x) L = L') (k : XJ G Y d ce se cells slots (pc + 1) L' st M Post) : XJ G Y d ce se cells slots pc L (.int x :: st) M Post := by
  intro p e R s m args below meth c H locs Q ls hC hR hq hl kk
  subst hL
  exact lv_istore_n hC.2.1 hC.2.2.1 hd hj (h := hl) (hn := hi) (hl := xst1_map (v := .int x)) (kk := fun ls' hl' => k p e R s m args below meth c H locs Q ls' hC hR hq hl' kk)
theorem xj_istore {i : Nat} {x : Int32} {L' : List (Nat × Value)} (hd : decode Y.2.1 pc = .ok (.istore i, 2)) (hi : i < Y.2.2.1) (hL : xst1 i (.int x) L = L') (k : XJ G Y d ce se cells slots (pc + 2) L' st M Post) : XJ G Y d ce se cells slots pc L (.int x :: st) M Post := by
  intro p e R s m args below meth c H locs Q ls hC hR hq hl kk
  subst hL
  exact lv_istore hC.2.1 hC.2.2.1 hd (h := hl) (hn := hi) (hl := xst1_map (v := .int x)) (kk := fun ls' hl' => k p e R s m args below meth c H locs Q ls' hC hR hq hl' kk)
theorem xj_lstore_n {i : Nat} {x : Int64} {j : Fin 4} {L' : List (Nat × Value)} (hd : decode Y.2.1 pc = .ok (.lstore_n j, 1)) (hj : (j : Nat) = i) (hi : i + 1 < Y.2.2.1) (hL : xst2 i (.long x) L = L') (k : XJ G Y d ce se cells slots (pc + 1) L' st M Post) : XJ G Y d ce se cells slots pc L (.long x :: st) M Post := by
  intro p e R s m args below meth c H locs Q ls hC hR hq hl kk
  subst hL
  exact lv_lstore_n hC.2.1 hC.2.2.1 hd hj (h := hl) (hn := hi) (hl := xst2_map (v := .long x)) (kk := fun ls' hl' => k p e R s m args below meth c H locs Q ls' hC hR hq hl' kk)
theorem xj_lstore {i : Nat} {x : Int64} {L' : List (Nat × Value)} (hd : decode Y.2.1 pc = .ok (.lstore i, 2)) (hi : i + 1 < Y.2.2.1) (hL : xst2 i (.long x) L = L') (k : XJ G Y d ce se cells slots (pc + 2) L' st M Post) : XJ G Y d ce se cells slots pc L (.long x :: st) M Post := by
  intro p e R s m args below meth c H locs Q ls hC hR hq hl kk
  subst hL
  exact lv_lstore hC.2.1 hC.2.2.1 hd (h := hl) (hn := hi) (hl := xst2_map (v := .long x)) (kk := fun ls' hl' => k p e R s m args below meth c H locs Q ls' hC hR hq hl' kk)
theorem xj_astore_n {i : Nat} {x : Nat} {j : Fin 4} {L' : List (Nat × Value)} (hd : decode Y.2.1 pc = .ok (.astore_n j, 1)) (hj : (j : Nat) = i) (hi : i < Y.2.2.1) (hL : xst1 i (.ref x) L = L') (k : XJ G Y d ce se cells slots (pc + 1) L' st M Post) : XJ G Y d ce se cells slots pc L (.ref x :: st) M Post := by
  intro p e R s m args below meth c H locs Q ls hC hR hq hl kk
  subst hL
  exact lv_astore_n hC.2.1 hC.2.2.1 hd hj (h := hl) (hn := hi) (hl := xst1_map (v := .ref x)) (kk := fun ls' hl' => k p e R s m args below meth c H locs Q ls' hC hR hq hl' kk)
theorem xj_astore {i : Nat} {x : Nat} {L' : List (Nat × Value)} (hd : decode Y.2.1 pc = .ok (.astore i, 2)) (hi : i < Y.2.2.1) (hL : xst1 i (.ref x) L = L') (k : XJ G Y d ce se cells slots (pc + 2) L' st M Post) : XJ G Y d ce se cells slots pc L (.ref x :: st) M Post := by
  intro p e R s m args below meth c H locs Q ls hC hR hq hl kk
  subst hL
  exact lv_astore hC.2.1 hC.2.2.1 hd (h := hl) (hn := hi) (hl := xst1_map (v := .ref x)) (kk := fun ls' hl' => k p e R s m args below meth c H locs Q ls' hC hR hq hl' kk)
theorem xj_astore_nN {i : Nat} {j : Fin 4} {L' : List (Nat × Value)} (hd : decode Y.2.1 pc = .ok (.astore_n j, 1)) (hj : (j : Nat) = i) (hi : i < Y.2.2.1) (hL : xst1 i (.null) L = L') (k : XJ G Y d ce se cells slots (pc + 1) L' st M Post) : XJ G Y d ce se cells slots pc L (.null :: st) M Post := by
  intro p e R s m args below meth c H locs Q ls hC hR hq hl kk
  subst hL
  exact lv_astore_nN hC.2.1 hC.2.2.1 hd hj (h := hl) (hn := hi) (hl := xst1_map (v := .null)) (kk := fun ls' hl' => k p e R s m args below meth c H locs Q ls' hC hR hq hl' kk)
theorem xj_astoreN {i : Nat} {L' : List (Nat × Value)} (hd : decode Y.2.1 pc = .ok (.astore i, 2)) (hi : i < Y.2.2.1) (hL : xst1 i (.null) L = L') (k : XJ G Y d ce se cells slots (pc + 2) L' st M Post) : XJ G Y d ce se cells slots pc L (.null :: st) M Post := by
  intro p e R s m args below meth c H locs Q ls hC hR hq hl kk
  subst hL
  exact lv_astoreN hC.2.1 hC.2.2.1 hd (h := hl) (hn := hi) (hl := xst1_map (v := .null)) (kk := fun ls' hl' => k p e R s m args below meth c H locs Q ls' hC hR hq hl' kk)
theorem xj_iinc {i : Nat} {z : Int} {x v : Int32} {L' : List (Nat × Value)} (hd : decode Y.2.1 pc = .ok (.iinc i z, 3)) (hv : xlook i L = some (.int x)) (hz : x + Int32.ofInt z = v) (hi : i < Y.2.2.1) (hL : xst1 i (.int v) L = L') (k : XJ G Y d ce se cells slots (pc + 3) L' st M Post) : XJ G Y d ce se cells slots pc L st M Post := by
  intro p e R s m args below meth c H locs Q ls hC hR hq hl kk
  subst hL
  obtain ⟨n, hn⟩ := xlk_at (f := xa G) hv
  exact lv_iinc hC.2.1 hC.2.2.1 hd (h := hl) (hk := hn) (hv := hz) (hn := hi) (hl := xst1_map (v := .int v)) (kk := fun ls' hl' => k p e R s m args below meth c H locs Q ls' hC hR hq hl' kk)
theorem xj_if_eq {x : Int32} {off : Int} {tgt : Nat} (hd : decode Y.2.1 pc = .ok (.ifCond .eq off, 3)) (ht : (pc : Int) + off = (tgt : Int)) (kt : x = 0 → XJ G Y d ce se cells slots tgt L st M Post) (kf : ¬ x = 0 → XJ G Y d ce se cells slots (pc + 3) L st M Post) : XJ G Y d ce se cells slots pc L (.int x :: st) M Post := by
  intro p e R s m args below meth c H locs Q ls hC hR hq hl kk
  exact lv_if_eq hC.2.1 hC.2.2.1 hd ht (fun h => kt h p e R s m args below meth c H locs Q ls hC hR hq hl kk) (fun h => kf h p e R s m args below meth c H locs Q ls hC hR hq hl kk)
theorem xj_if_ne {x : Int32} {off : Int} {tgt : Nat} (hd : decode Y.2.1 pc = .ok (.ifCond .ne off, 3)) (ht : (pc : Int) + off = (tgt : Int)) (kt : ¬ x = 0 → XJ G Y d ce se cells slots tgt L st M Post) (kf : x = 0 → XJ G Y d ce se cells slots (pc + 3) L st M Post) : XJ G Y d ce se cells slots pc L (.int x :: st) M Post := by
  intro p e R s m args below meth c H locs Q ls hC hR hq hl kk
  exact lv_if_ne hC.2.1 hC.2.2.1 hd ht (fun h => kt h p e R s m args below meth c H locs Q ls hC hR hq hl kk) (fun h => kf h p e R s m args below meth c H locs Q ls hC hR hq hl kk)
theorem xj_if_lt {x : Int32} {off : Int} {tgt : Nat} (hd : decode Y.2.1 pc = .ok (.ifCond .lt off, 3)) (ht : (pc : Int) + off = (tgt : Int)) (kt : x < 0 → XJ G Y d ce se cells slots tgt L st M Post) (kf : ¬ x < 0 → XJ G Y d ce se cells slots (pc + 3) L st M Post) : XJ G Y d ce se cells slots pc L (.int x :: st) M Post := by
  intro p e R s m args below meth c H locs Q ls hC hR hq hl kk
  exact lv_if_lt hC.2.1 hC.2.2.1 hd ht (fun h => kt h p e R s m args below meth c H locs Q ls hC hR hq hl kk) (fun h => kf h p e R s m args below meth c H locs Q ls hC hR hq hl kk)
theorem xj_if_ge {x : Int32} {off : Int} {tgt : Nat} (hd : decode Y.2.1 pc = .ok (.ifCond .ge off, 3)) (ht : (pc : Int) + off = (tgt : Int)) (kt : 0 ≤ x → XJ G Y d ce se cells slots tgt L st M Post) (kf : ¬ 0 ≤ x → XJ G Y d ce se cells slots (pc + 3) L st M Post) : XJ G Y d ce se cells slots pc L (.int x :: st) M Post := by
  intro p e R s m args below meth c H locs Q ls hC hR hq hl kk
  exact lv_if_ge hC.2.1 hC.2.2.1 hd ht (fun h => kt h p e R s m args below meth c H locs Q ls hC hR hq hl kk) (fun h => kf h p e R s m args below meth c H locs Q ls hC hR hq hl kk)
theorem xj_if_gt {x : Int32} {off : Int} {tgt : Nat} (hd : decode Y.2.1 pc = .ok (.ifCond .gt off, 3)) (ht : (pc : Int) + off = (tgt : Int)) (kt : 0 < x → XJ G Y d ce se cells slots tgt L st M Post) (kf : ¬ 0 < x → XJ G Y d ce se cells slots (pc + 3) L st M Post) : XJ G Y d ce se cells slots pc L (.int x :: st) M Post := by
  intro p e R s m args below meth c H locs Q ls hC hR hq hl kk
  exact lv_if_gt hC.2.1 hC.2.2.1 hd ht (fun h => kt h p e R s m args below meth c H locs Q ls hC hR hq hl kk) (fun h => kf h p e R s m args below meth c H locs Q ls hC hR hq hl kk)
theorem xj_if_le {x : Int32} {off : Int} {tgt : Nat} (hd : decode Y.2.1 pc = .ok (.ifCond .le off, 3)) (ht : (pc : Int) + off = (tgt : Int)) (kt : x ≤ 0 → XJ G Y d ce se cells slots tgt L st M Post) (kf : ¬ x ≤ 0 → XJ G Y d ce se cells slots (pc + 3) L st M Post) : XJ G Y d ce se cells slots pc L (.int x :: st) M Post := by
  intro p e R s m args below meth c H locs Q ls hC hR hq hl kk
  exact lv_if_le hC.2.1 hC.2.2.1 hd ht (fun h => kt h p e R s m args below meth c H locs Q ls hC hR hq hl kk) (fun h => kf h p e R s m args below meth c H locs Q ls hC hR hq hl kk)
theorem xj_icmp_eq {x y : Int32} {off : Int} {tgt : Nat} (hd : decode Y.2.1 pc = .ok (.if_icmp .eq off, 3)) (ht : (pc : Int) + off = (tgt : Int)) (kt : x = y → XJ G Y d ce se cells slots tgt L st M Post) (kf : ¬ x = y → XJ G Y d ce se cells slots (pc + 3) L st M Post) : XJ G Y d ce se cells slots pc L (.int y :: .int x :: st) M Post := by
  intro p e R s m args below meth c H locs Q ls hC hR hq hl kk
  exact lv_icmp_eq hC.2.1 hC.2.2.1 hd ht (fun h => kt h p e R s m args below meth c H locs Q ls hC hR hq hl kk) (fun h => kf h p e R s m args below meth c H locs Q ls hC hR hq hl kk)
theorem xj_icmp_ne {x y : Int32} {off : Int} {tgt : Nat} (hd : decode Y.2.1 pc = .ok (.if_icmp .ne off, 3)) (ht : (pc : Int) + off = (tgt : Int)) (kt : ¬ x = y → XJ G Y d ce se cells slots tgt L st M Post) (kf : x = y → XJ G Y d ce se cells slots (pc + 3) L st M Post) : XJ G Y d ce se cells slots pc L (.int y :: .int x :: st) M Post := by
  intro p e R s m args below meth c H locs Q ls hC hR hq hl kk
  exact lv_icmp_ne hC.2.1 hC.2.2.1 hd ht (fun h => kt h p e R s m args below meth c H locs Q ls hC hR hq hl kk) (fun h => kf h p e R s m args below meth c H locs Q ls hC hR hq hl kk)
theorem xj_icmp_lt {x y : Int32} {off : Int} {tgt : Nat} (hd : decode Y.2.1 pc = .ok (.if_icmp .lt off, 3)) (ht : (pc : Int) + off = (tgt : Int)) (kt : x < y → XJ G Y d ce se cells slots tgt L st M Post) (kf : ¬ x < y → XJ G Y d ce se cells slots (pc + 3) L st M Post) : XJ G Y d ce se cells slots pc L (.int y :: .int x :: st) M Post := by
  intro p e R s m args below meth c H locs Q ls hC hR hq hl kk
  exact lv_icmp_lt hC.2.1 hC.2.2.1 hd ht (fun h => kt h p e R s m args below meth c H locs Q ls hC hR hq hl kk) (fun h => kf h p e R s m args below meth c H locs Q ls hC hR hq hl kk)
theorem xj_icmp_ge {x y : Int32} {off : Int} {tgt : Nat} (hd : decode Y.2.1 pc = .ok (.if_icmp .ge off, 3)) (ht : (pc : Int) + off = (tgt : Int)) (kt : y ≤ x → XJ G Y d ce se cells slots tgt L st M Post) (kf : ¬ y ≤ x → XJ G Y d ce se cells slots (pc + 3) L st M Post) : XJ G Y d ce se cells slots pc L (.int y :: .int x :: st) M Post := by
  intro p e R s m args below meth c H locs Q ls hC hR hq hl kk
  exact lv_icmp_ge hC.2.1 hC.2.2.1 hd ht (fun h => kt h p e R s m args below meth c H locs Q ls hC hR hq hl kk) (fun h => kf h p e R s m args below meth c H locs Q ls hC hR hq hl kk)
theorem xj_icmp_gt {x y : Int32} {off : Int} {tgt : Nat} (hd : decode Y.2.1 pc = .ok (.if_icmp .gt off, 3)) (ht : (pc : Int) + off = (tgt : Int)) (kt : y < x → XJ G Y d ce se cells slots tgt L st M Post) (kf : ¬ y < x → XJ G Y d ce se cells slots (pc + 3) L st M Post) : XJ G Y d ce se cells slots pc L (.int y :: .int x :: st) M Post := by
  intro p e R s m args below meth c H locs Q ls hC hR hq hl kk
  exact lv_icmp_gt hC.2.1 hC.2.2.1 hd ht (fun h => kt h p e R s m args below meth c H locs Q ls hC hR hq hl kk) (fun h => kf h p e R s m args below meth c H locs Q ls hC hR hq hl kk)
theorem xj_icmp_le {x y : Int32} {off : Int} {tgt : Nat} (hd : decode Y.2.1 pc = .ok (.if_icmp .le off, 3)) (ht : (pc : Int) + off = (tgt : Int)) (kt : x ≤ y → XJ G Y d ce se cells slots tgt L st M Post) (kf : ¬ x ≤ y → XJ G Y d ce se cells slots (pc + 3) L st M Post) : XJ G Y d ce se cells slots pc L (.int y :: .int x :: st) M Post := by
  intro p e R s m args below meth c H locs Q ls hC hR hq hl kk
  exact lv_icmp_le hC.2.1 hC.2.2.1 hd ht (fun h => kt h p e R s m args below meth c H locs Q ls hC hR hq hl kk) (fun h => kf h p e R s m args below meth c H locs Q ls hC hR hq hl kk)
theorem xj_goto {off : Int} {tgt : Nat} (hd : decode Y.2.1 pc = .ok (.goto off, 3)) (ht : (pc : Int) + off = (tgt : Int)) (k : XJ G Y d ce se cells slots tgt L st M Post) : XJ G Y d ce se cells slots pc L st M Post := by
  intro p e R s m args below meth c H locs Q ls hC hR hq hl kk
  exact lv_goto hC.2.1 hC.2.2.1 hd ht (k p e R s m args below meth c H locs Q ls hC hR hq hl kk)
theorem xj_ifnull {x : Nat} {off : Int} (hd : decode Y.2.1 pc = .ok (.ifnull off, 3)) (k : XJ G Y d ce se cells slots (pc + 3) L st M Post) : XJ G Y d ce se cells slots pc L (.ref x :: st) M Post := by
  intro p e R s m args below meth c H locs Q ls hC hR hq hl kk
  exact lv_ifnull hC.2.1 hC.2.2.1 hd (k p e R s m args below meth c H locs Q ls hC hR hq hl kk)
theorem xj_ifnonnull {x : Nat} {off : Int} {tgt : Nat} (hd : decode Y.2.1 pc = .ok (.ifnonnull off, 3)) (ht : (pc : Int) + off = (tgt : Int)) (k : XJ G Y d ce se cells slots tgt L st M Post) : XJ G Y d ce se cells slots pc L (.ref x :: st) M Post := by
  intro p e R s m args below meth c H locs Q ls hC hR hq hl kk
  exact lv_ifnonnull hC.2.1 hC.2.2.1 hd ht (k p e R s m args below meth c H locs Q ls hC hR hq hl kk)
theorem xj_ifnullN {off : Int} {tgt : Nat} (hd : decode Y.2.1 pc = .ok (.ifnull off, 3)) (ht : (pc : Int) + off = (tgt : Int)) (k : XJ G Y d ce se cells slots tgt L st M Post) : XJ G Y d ce se cells slots pc L (.null :: st) M Post := by
  intro p e R s m args below meth c H locs Q ls hC hR hq hl kk
  exact lv_ifnullN hC.2.1 hC.2.2.1 hd ht (k p e R s m args below meth c H locs Q ls hC hR hq hl kk)
theorem xj_ifnonnullN {off : Int} (hd : decode Y.2.1 pc = .ok (.ifnonnull off, 3)) (k : XJ G Y d ce se cells slots (pc + 3) L st M Post) : XJ G Y d ce se cells slots pc L (.null :: st) M Post := by
  intro p e R s m args below meth c H locs Q ls hC hR hq hl kk
  exact lv_ifnonnullN hC.2.1 hC.2.2.1 hd (k p e R s m args below meth c H locs Q ls hC hR hq hl kk)
theorem xj_castN {idx : Nat} (hd : decode Y.2.1 pc = .ok (.checkcast idx, 3)) (k : XJ G Y d ce se cells slots (pc + 3) L (.null :: st) M Post) : XJ G Y d ce se cells slots pc L (.null :: st) M Post := by
  intro p e R s m args below meth c H locs Q ls hC hR hq hl kk
  exact lv_castN hC.2.1 hC.2.2.1 hd (k p e R s m args below meth c H locs Q ls hC hR hq hl kk)
theorem xj_instN {idx : Nat} (hd : decode Y.2.1 pc = .ok (.instanceof idx, 3)) (k : XJ G Y d ce se cells slots (pc + 3) L (.int 0 :: st) M Post) : XJ G Y d ce se cells slots pc L (.null :: st) M Post := by
  intro p e R s m args below meth c H locs Q ls hC hR hq hl kk
  exact lv_instN hC.2.1 hC.2.2.1 hd (k p e R s m args below meth c H locs Q ls hC hR hq hl kk)
theorem xj_tableOut {x : Int32} {dflt lo hi : Int} {offs : Array Int} {len tgt : Nat} (hd : decode Y.2.1 pc = .ok (.tableswitch dflt lo hi offs, len)) (h : x.toInt < lo ∨ hi < x.toInt) (ht : (pc : Int) + dflt = (tgt : Int)) (k : XJ G Y d ce se cells slots tgt L st M Post) : XJ G Y d ce se cells slots pc L (.int x :: st) M Post := by
  intro p e R s m args below meth c H locs Q ls hC hR hq hl kk
  exact lv_tableOut hC.2.1 hC.2.2.1 hd h ht (k p e R s m args below meth c H locs Q ls hC hR hq hl kk)
theorem xj_tableIn {x : Int32} {dflt lo hi off : Int} {offs : Array Int} {len tgt : Nat} (hd : decode Y.2.1 pc = .ok (.tableswitch dflt lo hi offs, len)) (h1 : ¬ x.toInt < lo) (h2 : ¬ hi < x.toInt) (ho : offs[(x.toInt - lo).toNat]? = some off) (ht : (pc : Int) + off = (tgt : Int)) (k : XJ G Y d ce se cells slots tgt L st M Post) : XJ G Y d ce se cells slots pc L (.int x :: st) M Post := by
  intro p e R s m args below meth c H locs Q ls hC hR hq hl kk
  exact lv_tableIn hC.2.1 hC.2.2.1 hd h1 h2 ho ht (k p e R s m args below meth c H locs Q ls hC hR hq hl kk)
theorem xj_lookup {x : Int32} {dflt off : Int} {ps : Array (Int × Int)} {len tgt : Nat} (hd : decode Y.2.1 pc = .ok (.lookupswitch dflt ps, len)) (hp : (ps.toList.zip (ps.toList.drop 1)).all (fun (a, next) => a.1 < next.1) = true) (ho : Op.lookupswitch.offset ps.toList dflt x.toInt = off) (ht : (pc : Int) + off = (tgt : Int)) (k : XJ G Y d ce se cells slots tgt L st M Post) : XJ G Y d ce se cells slots pc L (.int x :: st) M Post := by
  intro p e R s m args below meth c H locs Q ls hC hR hq hl kk
  exact lv_lookup hC.2.1 hC.2.2.1 hd hp ho ht (k p e R s m args below meth c H locs Q ls hC hR hq hl kk)
end XJ1

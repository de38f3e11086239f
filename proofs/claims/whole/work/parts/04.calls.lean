/-! Contracts and calls -/
def XC (G : xG) (Y : xY) (ret : Option FieldType) (d mc ms : Nat) (av : List Value) (M : xM) (Post : Option Value → xM → Prop) : Prop :=
  Met G.1 Y.1 [Cond.code Y.1 Y.2.1 Y.2.2.1 ret] { frames := d, cells := mc, slots := ms, locals := 64 * d } (va_Pc (av.map (xcv (xa G))) (fun U => xR G M U.heap ∧ (xs G).WarmedH U.vm)) (fun _ _ o t => ∃ (v : Option Value) (M' : xM), o = .returned (v.map (xcv (xa G))) ∧ Post v M' ∧ xR G M' t.heap) mc ms (fun q => (xs G).heap.size ≤ q)
theorem xblind {G : xG} {av : List Value} {M : xM} : FrameBlind (va_Pc (av.map (xcv (xa G))) (fun U => xR G M U.heap ∧ (xs G).WarmedH U.vm)) := fun _ _ _ _ q => q
theorem xcat {f : Nat → Nat} (l : List Value) : ((l.map (xcv f)).map fun v => v.category).sum = (l.map fun v => v.category).sum := by
  rw [List.map_map]
  congr 2
  funext v
  exact xcv_cat f v
/-- a method's words for a static call -/
def xWd (Y : xY) (ret : Option FieldType) (n : Nat) : Prop :=
  Cond.code Y.1 Y.2.1 Y.2.2.1 ret ∈ lw_tbl ∧ Cond.initialized Y.1.cls ∈ lw_tbl ∧ (Y.1.cls ≠ "java/lang/invoke/MethodHandle" ∧ Y.1.cls ≠ "java/lang/invoke/VarHandle") ∧ (parseMethodDescriptor Y.1.desc).map (fun d => d.parameters.length) = some n ∧ Y.2.2.1 ≤ 45
theorem xlen {Y : xY} {n : Nat} (h : (parseMethodDescriptor Y.1.desc).map (fun d => d.parameters.length) = some n) : ∀ sig, parseMethodDescriptor Y.1.desc = some sig → n = sig.parameters.length := by
  intro sig hs
  rw [hs] at h
  exact (Option.some.inj h).symm
section XJ3
variable {G : xG} {Y Z : xY} {d ce se cells slots pc : Nat} {L : List (Nat × Value)} {st rest As : List Value} {M : xM} {Post Pst : Option Value → xM → Prop} {ret : Option FieldType} {e1 mc ms n idx : Nat}
theorem xgo {p : Program} {e : Env} {R : Room} {s : State} {m : MethodId} {args : Array Value} {below : List Frame} {meth : Method} {c : Code} {H : Heap} {locs : List Loc} {Q : State → Prop} {ls : Array Slot} {st0 : List Value}
    (run : va_Run p G.1 e R s m args below meth c H locs cells slots mc ms (F0 m pc ls st0) (rest.map (xcv (xa G))) (fun _ o t => ∃ (v : Option Value) (M' : xM), o = .returned (v.map (xcv (xa G))) ∧ Pst v M' ∧ xR G M' t.heap) (fun q => (xs G).heap.size ≤ q))
    (hC : xCx G Y d ce se p R s m meth c) (hq : ∀ q ∈ locs, (xs G).heap.size ≤ q.base) (hl : lv_has ls Y.2.2.1 (L.map (xq (xa G))))
    (k2 : ∀ (v : Option Value) (M' : xM) (H' : Heap) (locs' : List Loc) (pc' : Nat) (ls' : Array Slot), Post v M' → xR G M' H' → (∀ q ∈ locs', (xs G).heap.size ≤ q.base) → decode Y.2.1 pc' = .ok (Y.2.2.2, 1) →
      W p G.1 e R s m args below meth c H' locs' ce se Q (F0 m pc' ls' (v.toList.map (xcv (xa G)))))
    (kk : ∀ v M', Pst v M' → XJ G Y d ce se (cells + mc) (slots + ms) (pc + 3) L (v.toList ++ rest) M' Post) : W p G.1 e R s m args below meth c H locs cells slots Q (F0 m pc ls st0) := by
  intro T hT X
  obtain ⟨v, st₀, t, T', L1, h0, X', hL, e1, e2, ⟨v', M', hv, hp, hR'⟩, go⟩ := run T hT X
  have hv' : v = v'.map (xcv (xa G)) := by cases hv; rfl
  subst hv'
  obtain ⟨t2, a1, b1⟩ := kk v' M' hp p e R s m args below meth c T'.heap (locs ++ L1) Q ls hC (by rw [e1]; exact hR') (fun q h => (List.mem_append.mp h).elim (hq q) (hL q)) hl k2 T' rfl X'
  refine ⟨t2, go t2 ?_, b1⟩
  cases v' <;> exact a1
theorem xroom {p : Program} {R : Room} {s : State} {m : MethodId} {meth : Method} {c : Code} (hC : xCx G Y d ce se p R s m meth c) (hd : e1 + 1 ≤ d) (hm : Z.2.2.1 ≤ 45) : e1 + 1 ≤ R.frames ∧ 8 + (Z.2.2.1 + 11) + 64 * e1 ≤ R.locals := by
  have h1 := hC.2.2.2.2.2.2.2.1
  have h2 := hC.2.2.2.2.2.2.2.2.1
  omega
theorem xhws {p : Program} {R : Room} {s : State} {m : MethodId} {meth : Method} {c : Code} (hC : xCx G Y d ce se p R s m meth c) (hw : Cond.code Z.1 Z.2.1 Z.2.2.1 ret ∈ lw_tbl) : ∀ w ∈ [Cond.code Z.1 Z.2.1 Z.2.2.1 ret], ∀ (a' : Array Value) (U : State), s.WarmedH U.vm → w.before a' U = true := by
  intro w h a' U hW
  rw [List.mem_singleton.mp h]
  exact xword0 hC.1 (State.WarmedH.trans (xwarm hC) hW) hw rfl a'
/-- a static call -/
theorem xj_callS (hX : XC G Z ret e1 mc ms As M Pst) (hd : decode Y.2.1 pc = .ok (.invokestatic idx, 3)) (hw : xWd Z ret n) (hst : Cond.static Z.1 ∈ lw_tbl) (hli : Cond.methodLink Y.1.cls idx Z.1 ∈ lw_tbl ∨ ∃ host, Cond.methodLinkNest Y.1.cls idx Z.1 host ∈ lw_tbl) (hn : As.length = n) (hs : st = As.reverse ++ rest) (hr : (rest.map fun v => v.category).sum ≤ 8) (hdd : e1 + 1 ≤ d) (hc : cells + mc ≤ ce) (hse : slots + ms ≤ se)
    (kk : ∀ v M', Pst v M' → XJ G Y d ce se (cells + mc) (slots + ms) (pc + 3) L (v.toList ++ rest) M' Post) : XJ G Y d ce se cells slots pc L st M Post := by
  intro p e R s m args below meth c H locs Q ls hC hR hq hl k2
  obtain ⟨w1, w2, w3, w4, w5⟩ := hw
  have hrm := xroom (Z := Z) hC hdd w5
  have hce := hC.2.2.2.2.2.2.2.2.2.1
  have hses := hC.2.2.2.2.2.2.2.2.2.2
  have hpre : PreS s H (va_Pc (As.map (xcv (xa G))) (fun U => xR G M U.heap ∧ (xs G).WarmedH U.vm)) (As.map (xcv (xa G))) := ⟨xblind, fun U hU hW => ⟨rfl, by rw [hU]; exact hR, State.WarmedH.trans (xwarm hC) hW⟩⟩
  have hstk : st.map (xcv (xa G)) = (As.map (xcv (xa G))).reverse ++ rest.map (xcv (xa G)) := by rw [hs, List.map_append, List.map_reverse]
  rcases hli with hl1 | ⟨host, hl1⟩
  · exact xgo (va_runS (Ts := []) ⟨hC.2.1, hC.2.2.1, hC.2.2.2.1, xown hC, fun w h => by cases h⟩ hX ⟨⟨rfl, rfl, hrm.1, hrm.2, xhws hC w1, List.mem_singleton.mpr rfl, xword hC w1 rfl args, xword hC w2 rfl args, w3, xlen w4, xword hC hl1 rfl args⟩, xword hC hst rfl args⟩ hpre rfl (by rw [List.length_map]; exact hn) hl.1 hstk (lv_room (by rw [xcat]; exact hr)) hd ⟨by omega, by omega⟩) hC hq hl k2 kk
  · exact xgo (va_runSN (Ts := []) ⟨hC.2.1, hC.2.2.1, hC.2.2.2.1, xown hC, fun w h => by cases h⟩ hX ⟨⟨⟨rfl, rfl, hrm.1, hrm.2, xhws hC w1, List.mem_singleton.mpr rfl⟩, xword hC w1 rfl args, xword hC w2 rfl args, w3, xlen w4, va_Nw.use rfl (va_Nw.warmM (xwarm hC) (va_Nw.of rfl (hC.1.2.2.1 _ hl1)))⟩, xword hC hst rfl args, trivial⟩ hpre rfl (by rw [List.length_map]; exact hn) hl.1 hstk (lv_room (by rw [xcat]; exact hr)) hd ⟨by omega, by omega⟩) hC hq hl k2 kk
/-- a constructor's call -/
theorem xj_callI {b : Nat} (hX : XC G Z none e1 mc ms (.ref b :: As) M Pst) (hd : decode Y.2.1 pc = .ok (.invokespecial idx, 3)) (hw : xWd Z none n) (hnm : Z.1.name = "<init>") (hin : Cond.instanceMethod Z.1 ∈ lw_tbl) (hli : Cond.methodLink Y.1.cls idx Z.1 ∈ lw_tbl ∨ ∃ host, Cond.methodLinkNest Y.1.cls idx Z.1 host ∈ lw_tbl) (hn : As.length = n) (hs : st = As.reverse ++ .ref b :: rest) (hr : (rest.map fun v => v.category).sum ≤ 8) (hdd : e1 + 1 ≤ d) (hc : cells + mc ≤ ce) (hse : slots + ms ≤ se)
    (kk : ∀ v M', Pst v M' → XJ G Y d ce se (cells + mc) (slots + ms) (pc + 3) L (v.toList ++ rest) M' Post) : XJ G Y d ce se cells slots pc L st M Post := by
  intro p e R s m args below meth c H locs Q ls hC hR hq hl k2
  obtain ⟨w1, w2, w3, w4, w5⟩ := hw
  have hrm := xroom (Z := Z) hC hdd w5
  have hce := hC.2.2.2.2.2.2.2.2.2.1
  have hses := hC.2.2.2.2.2.2.2.2.2.2
  have hpre : PreS s H (va_Pc ((Value.ref b :: As).map (xcv (xa G))) (fun U => xR G M U.heap ∧ (xs G).WarmedH U.vm)) (.ref (xa G b) :: As.map (xcv (xa G))) := ⟨xblind, fun U hU hW => ⟨rfl, by rw [hU]; exact hR, State.WarmedH.trans (xwarm hC) hW⟩⟩
  have hstk : st.map (xcv (xa G)) = (As.map (xcv (xa G))).reverse ++ .ref (xa G b) :: rest.map (xcv (xa G)) := by rw [hs, List.map_append, List.map_reverse]; rfl
  rcases hli with hl1 | ⟨host, hl1⟩
  · exact xgo (va_runI (Ts := []) ⟨hC.2.1, hC.2.2.1, hC.2.2.2.1, xown hC, fun w h => by cases h⟩ hX ⟨⟨rfl, rfl, hrm.1, hrm.2, xhws hC w1, List.mem_singleton.mpr rfl, xword hC w1 rfl args, xword hC w2 rfl args, w3, xlen w4, xword hC hl1 rfl args⟩, hnm, xword hC hin rfl args⟩ hpre rfl (by rw [List.length_map]; exact hn) hl.1 hstk (lv_room (by rw [xcat]; exact hr)) hd ⟨by omega, by omega⟩) hC hq hl k2 kk
  · exact xgo (va_runIN (Ts := []) ⟨hC.2.1, hC.2.2.1, hC.2.2.2.1, xown hC, fun w h => by cases h⟩ hX ⟨⟨⟨rfl, rfl, hrm.1, hrm.2, xhws hC w1, List.mem_singleton.mpr rfl⟩, xword hC w1 rfl args, xword hC w2 rfl args, w3, xlen w4, va_Nw.use rfl (va_Nw.warmM (xwarm hC) (va_Nw.of rfl (hC.1.2.2.1 _ hl1)))⟩, hnm, xword hC hin rfl args⟩ hpre rfl (by rw [List.length_map]; exact hn) hl.1 hstk (lv_room (by rw [xcat]; exact hr)) hd ⟨by omega, by omega⟩) hC hq hl k2 kk
/-- a virtual call of a method that the receiver's own class has -/
theorem xj_callV {b ci N : Nat} {C : String} {T : u_T} {fs : List Value} (hX : XC G Z ret e1 mc ms (.ref b :: As) M Pst) (hd : decode Y.2.1 pc = .ok (.invokevirtual idx, 3)) (hw : xWd Z ret n) (hM : M.2 b = .inr (ci, fs)) (h1 : xn ≤ b) (h2 : b < M.1) (hci : vwCl[ci]? = some (C, T, N)) (hsel : Cond.selects C Z.1 Z.1 ∈ lw_tbl) (hin : Cond.instanceMethod Z.1 ∈ lw_tbl) (hli : Cond.methodLink Y.1.cls idx Z.1 ∈ lw_tbl ∨ ∃ host, Cond.methodLinkNest Y.1.cls idx Z.1 host ∈ lw_tbl) (hn : As.length = n) (hs : st = As.reverse ++ .ref b :: rest) (hr : (rest.map fun v => v.category).sum ≤ 8) (hdd : e1 + 1 ≤ d) (hc : cells + mc ≤ ce) (hse : slots + ms ≤ se)
    (kk : ∀ v M', Pst v M' → XJ G Y d ce se (cells + mc) (slots + ms) (pc + 3) L (v.toList ++ rest) M' Post) : XJ G Y d ce se cells slots pc L st M Post := by
  intro p e R s m args below meth c H locs Q ls hC hR hq hl k2
  obtain ⟨w1, w2, w3, w4, w5⟩ := hw
  have hrm := xroom (Z := Z) hC hdd w5
  have hce := hC.2.2.2.2.2.2.2.2.2.1
  have hses := hC.2.2.2.2.2.2.2.2.2.2
  have hat := hR.2.2.1 b h1 h2
  rw [hM] at hat
  have hpre : PreV s H C (xa G b) (va_Pc ((Value.ref b :: As).map (xcv (xa G))) (fun U => xR G M U.heap ∧ (xs G).WarmedH U.vm)) (As.map (xcv (xa G))) := ⟨xblind, va_recv (xK hC) (xP1 hat) hci (q0 := 0) rfl, fun U hU hW => ⟨rfl, by rw [hU]; exact hR, State.WarmedH.trans (xwarm hC) hW⟩⟩
  have hstk : st.map (xcv (xa G)) = (As.map (xcv (xa G))).reverse ++ .ref (xa G b) :: rest.map (xcv (xa G)) := by rw [hs, List.map_append, List.map_reverse]; rfl
  rcases hli with hl1 | ⟨host, hl1⟩
  · exact xgo (va_runV (Ts := []) ⟨hC.2.1, hC.2.2.1, hC.2.2.2.1, xown hC, fun w h => by cases h⟩ hX ⟨⟨rfl, rfl, hrm.1, hrm.2, xhws hC w1, List.mem_singleton.mpr rfl, xword hC w1 rfl args, xword hC w2 rfl args, w3, xlen w4, xword hC hl1 rfl args⟩, xword hC hin rfl args, xword hC hsel rfl args⟩ hpre rfl (by rw [List.length_map]; exact hn) hl.1 hstk (lv_room (by rw [xcat]; exact hr)) hd ⟨by omega, by omega⟩) hC hq hl k2 kk
  · exact xgo (va_runVN (Ts := []) ⟨hC.2.1, hC.2.2.1, hC.2.2.2.1, xown hC, fun w h => by cases h⟩ hX ⟨⟨⟨rfl, rfl, hrm.1, hrm.2, xhws hC w1, List.mem_singleton.mpr rfl⟩, xword hC w1 rfl args, xword hC w2 rfl args, w3, xlen w4, va_Nw.use rfl (va_Nw.warmM (xwarm hC) (va_Nw.of rfl (hC.1.2.2.1 _ hl1)))⟩, xword hC hin rfl args, xword hC hsel rfl args⟩ hpre rfl (by rw [List.length_map]; exact hn) hl.1 hstk (lv_room (by rw [xcat]; exact hr)) hd ⟨by omega, by omega⟩) hC hq hl k2 kk
/-- a virtual call whose named method is another's (inherited, overridden, abstract): x is named, Z is run -/
theorem xj_callU {b ci N : Nat} {C owner : String} {x : MethodName} {T : u_T} {fs : List Value} (hX : XC G Z ret e1 mc ms (.ref b :: As) M Pst) (hd : decode Y.2.1 pc = .ok (.invokevirtual idx, 3)) (hw : xWd Z ret n) (hdx : x.desc = Z.1.desc) (hM : M.2 b = .inr (ci, fs)) (h1 : xn ≤ b) (h2 : b < M.1) (hci : vwCl[ci]? = some (C, T, N)) (hsel : Cond.selects C x Z.1 ∈ lw_tbl) (hsm : Cond.sameMethod x.cls owner x.name x.desc ∈ lw_tbl) (hno : owner ≠ "java/lang/invoke/MethodHandle" ∧ owner ≠ "java/lang/invoke/VarHandle") (hde : Cond.declares ⟨owner, x.name, x.desc⟩ ∈ lw_tbl ∨ (Cond.instanceMethod ⟨owner, x.name, x.desc⟩ ∈ lw_tbl ∧ ∃ b0 m0 r0, Cond.code ⟨owner, x.name, x.desc⟩ b0 m0 r0 ∈ lw_tbl)) (hin : Cond.instanceMethod Z.1 ∈ lw_tbl) (hli : Cond.methodLink Y.1.cls idx x ∈ lw_tbl) (hn : As.length = n) (hs : st = As.reverse ++ .ref b :: rest) (hr : (rest.map fun v => v.category).sum ≤ 8) (hdd : e1 + 1 ≤ d) (hc : cells + mc ≤ ce) (hse : slots + ms ≤ se)
    (kk : ∀ v M', Pst v M' → XJ G Y d ce se (cells + mc) (slots + ms) (pc + 3) L (v.toList ++ rest) M' Post) : XJ G Y d ce se cells slots pc L st M Post := by
  intro p e R s m args below meth c H locs Q ls hC hR hq hl k2
  obtain ⟨w1, w2, w3, w4, w5⟩ := hw
  have hrm := xroom (Z := Z) hC hdd w5
  have hce := hC.2.2.2.2.2.2.2.2.2.1
  have hses := hC.2.2.2.2.2.2.2.2.2.2
  have hat := hR.2.2.1 b h1 h2
  rw [hM] at hat
  have hpre : PreV s H C (xa G b) (va_Pc ((Value.ref b :: As).map (xcv (xa G))) (fun U => xR G M U.heap ∧ (xs G).WarmedH U.vm)) (As.map (xcv (xa G))) := ⟨xblind, va_recv (xK hC) (xP1 hat) hci (q0 := 0) rfl, fun U hU hW => ⟨rfl, by rw [hU]; exact hR, State.WarmedH.trans (xwarm hC) hW⟩⟩
  have hstk : st.map (xcv (xa G)) = (As.map (xcv (xa G))).reverse ++ .ref (xa G b) :: rest.map (xcv (xa G)) := by rw [hs, List.map_append, List.map_reverse]; rfl
  have hdl : va_Decl s ⟨owner, x.name, x.desc⟩ := by
    rcases hde with h | ⟨h, b0, m0, r0, h'⟩
    · exact va_Decl.abs (va_Nw.warmD (xwarm hC) (va_Nw.of rfl (hC.1.2.2.1 _ h)))
    · exact va_Decl.of (xword hC h rfl args) (xword hC h' rfl args)
  exact xgo (va_runU (Ts := []) ⟨hC.2.1, hC.2.2.1, hC.2.2.2.1, xown hC, fun w h => by cases h⟩ hX ⟨⟨rfl, rfl, hrm.1, hrm.2, xhws hC w1, List.mem_singleton.mpr rfl⟩, xword hC w1 rfl args, xword hC w2 rfl args, hno, (by rw [hdx]; exact xlen w4), xword hC hli rfl args, xword hC hsm rfl args, hdl, xword hC hsel rfl args, xword hC hin rfl args⟩ hpre rfl (by rw [List.length_map]; exact hn) hl.1 hstk (lv_room (by rw [xcat]; exact hr)) hd ⟨by omega, by omega⟩) hC hq hl k2 kk
/-- Object's own constructor -/
theorem xj_obj {a : Nat} (hd : decode Y.2.1 pc = .ok (.invokespecial idx, 3)) (h1 : Cond.methodLink Y.1.cls idx objectInit ∈ lw_tbl) (h2 : Cond.instanceMethod objectInit ∈ lw_tbl) (h3 : Cond.code objectInit ⟨#[0xb1]⟩ 1 none ∈ lw_tbl) (hdd : 1 ≤ d) (hr : (st.map fun v => v.category).sum ≤ 8)
    (kk : XJ G Y d ce se cells slots (pc + 3) L st M Post) : XJ G Y d ce se cells slots pc L (.ref a :: st) M Post := by
  intro p e R s m args below meth c H locs Q ls hC hR hq hl k2
  have h5 := hC.2.2.2.2.2.2.2.1
  have h6 := hC.2.2.2.2.2.2.2.2.1
  have h7 := lv_room (m := m) (pc := pc) (ls := ls) (rest := (.ref a :: st).map (xcv (xa G))) (st := st.map (xcv (xa G))) (by rw [xcat]; exact hr)
  exact W.objInit hC.2.1 hC.2.2.1 (xown hC) (xword hC h1 rfl args) (xword hC h2 rfl args) (xword hC h3 rfl args) rfl (by rw [hC.2.2.2.1]; exact hl.1) rfl hd (by omega) (by omega) (kk p e R s m args below meth c H locs Q ls hC hR hq hl k2)
/-- the return: the judgement's own end -/
theorem xj_ret {v : Option Value} (hd : decode Y.2.1 pc = .ok (Y.2.2.2, 1)) (hc : cells ≤ ce) (hse : slots ≤ se) (hs : v.toList = st) (h : Post v M) : XJ G Y d ce se cells slots pc L st M Post := by
  intro p e R s m args below meth c H locs Q ls hC hR hq hl k2
  subst hs
  exact W.widen hc hse (k2 v M H locs pc ls h hR hq hd)
theorem xj_weak {Post' : Option Value → xM → Prop} (h : XJ G Y d ce se cells slots pc L st M Post') (hp : ∀ v M', Post' v M' → Post v M') : XJ G Y d ce se cells slots pc L st M Post := by
  intro p e R s m args below meth c H locs Q ls hC hR hq hl k2
  exact h p e R s m args below meth c H locs Q ls hC hR hq hl (fun v M' H' locs' pc' ls' h1 => k2 v M' H' locs' pc' ls' (hp v M' h1))
theorem xj_sub {L' : List (Nat × Value)} (hL : ∀ q ∈ L', q ∈ L) (h : XJ G Y d ce se cells slots pc L' st M Post) : XJ G Y d ce se cells slots pc L st M Post := by
  intro p e R s m args below meth c H locs Q ls hC hR hq hl k2
  refine h p e R s m args below meth c H locs Q ls hC hR hq ⟨hl.1, hl.2.1, fun q hq' => ?_⟩ k2
  obtain ⟨q0, h0, rfl⟩ := List.mem_map.mp hq'
  exact hl.2.2 _ (List.mem_map.mpr ⟨q0, hL q0 h0, rfl⟩)
theorem xargs {f : Nat → Nat} : ∀ (i : Nat) (av : List Value), lv_args i (av.map (xcv f)) = (lv_args i av).map (xq f)
  | _, [] => rfl
  | i, v :: av => by
    show (i, xcv f v) :: lv_args (if (xcv f v).category = 2 then i + 2 else i + 1) (av.map (xcv f)) = (i, xcv f v) :: (lv_args (if v.category = 2 then i + 2 else i + 1) av).map (xq f)
    rw [xcv_cat, xargs]
theorem xsl_len {f : Nat → Nat} : ∀ av : List Value, (lg_sl (av.map (xcv f))).length = (lg_sl av).length
  | [] => rfl
  | v :: av => by
    have ih := xsl_len (f := f) av
    simp only [lg_sl, List.map_cons, List.flatMap_cons, List.length_append] at ih ⊢
    rw [ih, xcv_cat]
    congr 1
    split <;> rfl
/-- a contract out of a walk from the method's entry -/
theorem xc_of {av : List Value} (hg : xGood G) (hpl : plainName Y.1.cls = true) (hlen : ((lg_sl av).length ≤ Y.2.2.1)) (hret : (ret = some .int ∧ Y.2.2.2 = .ireturn ∧ ∀ v M', Post v M' → ∃ x, v = some (.int x)) ∨ (ret = some .boolean ∧ Y.2.2.2 = .ireturn ∧ ∀ v M', Post v M' → ∃ x, v = some (.int x) ∧ (x = 0 ∨ x = 1)) ∨ (ret = some .char ∧ Y.2.2.2 = .ireturn ∧ ∀ v M', Post v M' → ∃ x, v = some (.int x) ∧ narrow .char (.int x) = .int x) ∨ (ret = some .long ∧ Y.2.2.2 = .lreturn ∧ ∀ v M', Post v M' → ∃ x, v = some (.long x)) ∨ (ret = none ∧ Y.2.2.2 = .return_ ∧ ∀ v M', Post v M' → v = none) ∨ ((∃ t, ret = some t ∧ ((∃ n, t = .object n) ∨ ∃ u, t = .array u)) ∧ Y.2.2.2 = .areturn ∧ ∀ v M', Post v M' → v = some .null ∨ ∃ a, v = some (.ref a)))
    (h : XJ G Y d mc ms 0 0 0 (lv_args 0 av) [] M Post) : XC G Y ret d mc ms av M Post := by
  refine Met.ofW (cc := Y.2.1) (maxL := Y.2.2.1) (ret := ret) hpl rfl ?_
  intro p e s m args below meth c s₁ B hml hv
  obtain ⟨rfl, hR, hW⟩ := hv
  have hx := B.exec
  have hb := B.bytes
  have hr := B.returns
  have hown : s.vm.findClass Y.1.cls = some m.cls := findClass_of_methodNamed B.named
  have hlocks := B.notSynchronized
  have hin : meth.name = Y.1.name := (name_of_methodNamed B.named B.method).1
  have hlen2 : (lg_sl (av.map (xcv (xa G)))).length ≤ Y.2.2.1 := by
    have := xsl_len (f := xa G) av
    omega
  have hl := lv_entry (av.map (xcv (xa G))) (n := Y.2.2.1) hlen2
  rw [lg_entry_eq]
  generalize (lg_sl (av.map (xcv (xa G))) ++ List.replicate (Y.2.2.1 - (lg_sl (av.map (xcv (xa G)))).length) Slot.unset).toArray = ls at hl ⊢
  rw [xargs] at hl
  refine h p e _ s m _ below meth c s.heap [] _ ls ⟨hg, hx, hb, hml, hown, hW, fun h => hin.trans h, Nat.le_refl _, Nat.le_refl _, Nat.le_refl _, Nat.le_refl _⟩ hR (fun q h => by cases h) hl ?_
  intro v M' H' locs' pc' ls' hP hR' hq' hd'
  have hend : ∀ t : State, t.heap = H' → ∃ (v' : Option Value) (M'' : xM), Outcome.returned (v.map (xcv (xa G))) = .returned (v'.map (xcv (xa G))) ∧ Post v' M'' ∧ xR G M'' t.heap := fun t ht => ⟨v, M', rfl, hP, by rw [ht]; exact hR'⟩
  rcases hret with ⟨rfl, e2, e3⟩ | ⟨rfl, e2, e3⟩ | ⟨rfl, e2, e3⟩ | ⟨rfl, e2, e3⟩ | ⟨rfl, e2, e3⟩ | ⟨⟨t, rfl, ht⟩, e2, e3⟩
  · obtain ⟨x, rfl⟩ := e3 v M' hP
    rw [e2] at hd'
    exact W.iret hx hb hr (fun t ht _ => hend t ht) hq' hd'
  · obtain ⟨x, rfl, h01⟩ := e3 v M' hP
    rw [e2] at hd'
    exact W.zret hx hb hr (by rcases h01 with rfl | rfl <;> rfl) (fun t ht _ => hend t ht) hq' hd'
  · obtain ⟨x, rfl, h01⟩ := e3 v M' hP
    rw [e2] at hd'
    exact W.zret hx hb hr h01 (fun t ht _ => hend t ht) hq' hd'
  · obtain ⟨x, rfl⟩ := e3 v M' hP
    rw [e2] at hd'
    exact W.lret hx hb hr (fun t ht _ => hend t ht) hq' hd'
  · cases e3 v M' hP
    rw [e2] at hd'
    exact W.vret hx hb hr (fun t ht _ => hend t ht) hq' hd'
  · rw [e2] at hd'
    rcases e3 v M' hP with rfl | ⟨a, rfl⟩
    · exact W.aret hx hb hr ht (Or.inl rfl) (fun t ht _ => hend t ht) hq' hd'
    · exact W.aret hx hb hr ht (Or.inr ⟨_, rfl⟩) (fun t ht _ => hend t ht) hq' hd'
/-- the script: cell 0 -/
theorem xj_sld {L0 j : Nat} {xs0 : Nat → Int32} {i : Int32} (hX : va_X (xa G 0) L0 xs0 (xs G) (xs G).heap) (hd : decode Y.2.1 pc = .ok (.iaload, 1)) (hi : vp_in i L0) (hj : i.toNatClampNeg = j) (kk : XJ G Y d ce se cells slots (pc + 1) L (.int (xs0 j) :: st) M Post) : XJ G Y d ce se cells slots pc L (.int i :: .ref 0 :: st) M Post := by
  intro p e R s m args below meth c H locs Q ls hC hR hq hl k2
  subst hj
  obtain ⟨scr, h1, h2, h3, h4, h5⟩ := hX
  have hb : xa G 0 < (xs G).heap.size := hC.1.2.1 0 (by decide)
  have hlt : i.toNatClampNeg < L0 := Nat.not_le.mp fun q => hi (Or.inr q)
  exact W.iald (v := .int (xs0 i.toNatClampNeg)) hC.2.1 hC.2.2.1 (by rw [hR.2.2.2 _ hb]; exact h1) (State.isArrayOf_alike (xwarm hC).alike h2) h3 (by rw [h4]; exact hi) (h5 _ hlt) rfl rfl hd (kk p e R s m args below meth c H locs Q ls hC hR hq hl k2)
theorem xj_slen {L0 : Nat} {xs0 : Nat → Int32} (hX : va_X (xa G 0) L0 xs0 (xs G) (xs G).heap) (hd : decode Y.2.1 pc = .ok (.arraylength, 1)) (kk : XJ G Y d ce se cells slots (pc + 1) L (.int (nI L0) :: st) M Post) : XJ G Y d ce se cells slots pc L (.ref 0 :: st) M Post := by
  intro p e R s m args below meth c H locs Q ls hC hR hq hl k2
  obtain ⟨scr, h1, h2, h3, h4, h5⟩ := hX
  have hb : xa G 0 < (xs G).heap.size := hC.1.2.1 0 (by decide)
  exact W.alen (n := nI L0) hC.2.1 hC.2.2.1 (by rw [hR.2.2.2 _ hb]; exact h1) (State.isArrayOf_alike (xwarm hC).alike h2) (by rw [h4]; rfl) rfl rfl hd (kk p e R s m args below meth c H locs Q ls hC hR hq hl k2)
/-- a static field that nobody writes -/
theorem xj_gets {C nm dd : String} {v : Value} (hZ : va_Z C nm dd (xcv (xa G) v) (fun q => (xs G).heap.size ≤ q) (xs G) (xs G).heap) (hd : decode Y.2.1 pc = .ok (.getstatic idx, 3)) (hw : Cond.fieldLink Y.1.cls idx C nm dd ∈ lw_tbl) (kk : XJ G Y d ce se cells slots (pc + 3) L (v :: st) M Post) : XJ G Y d ce se cells slots pc L st M Post := by
  intro p e R s m args below meth c H locs Q ls hC hR hq hl k2
  obtain ⟨cf, kf, fi, f, a, cell, h1, h2, h3, h4, h5, h6, h7, h8⟩ := va_Z.moved (xwarm hC).alike hZ
  exact W.gets hC.2.1 hC.2.2.1 (xown hC) (xword hC hw rfl args) h1 h2 h3 h4 (by rw [hR.2.2.2 a (Nat.not_le.mp h8)]; exact h5) (fun e => by rw [e] at h6; cases h6) h7 rfl hd (kk p e R s m args below meth c H locs Q ls hC hR hq hl k2)
/-- the length of an array that was there before -/
theorem xj_tlen {a N : Nat} {ty : FieldType} {f : Nat → Value} (hT : va_T ty (xa G a) N f (fun q => (xs G).heap.size ≤ q) (xs G) (xs G).heap) (hd : decode Y.2.1 pc = .ok (.arraylength, 1)) (kk : XJ G Y d ce se cells slots (pc + 1) L (.int (nI N) :: st) M Post) : XJ G Y d ce se cells slots pc L (.ref a :: st) M Post := by
  intro p e R s m args below meth c H locs Q ls hC hR hq hl k2
  obtain ⟨cell, h1, h2, h3, h4, h5, h6, h7⟩ := hT
  exact W.alen (n := nI N) hC.2.1 hC.2.2.1 (by rw [hR.2.2.2 _ (Nat.not_le.mp h7)]; exact h1) (State.isArrayOf_alike (xwarm hC).alike h2) h5 rfl rfl hd (kk p e R s m args below meth c H locs Q ls hC hR hq hl k2)
theorem xj_acmp_ne1 {j : Nat} {off : Int} (hd : decode Y.2.1 pc = .ok (.if_acmp .ne off, 3)) {tgt : Nat} (ht : (pc : Int) + off = (tgt : Int)) (kf : XJ G Y d ce se cells slots (pc + 3) L st M Post) : XJ G Y d ce se cells slots pc L (.ref j :: .ref j :: st) M Post := by
  intro p e R s m args below meth c H locs Q ls hC hR hq hl k2
  exact lv_acmp_ne (rx := some (xa G j)) (ry := some (xa G j)) hC.2.1 hC.2.2.1 hd ht (fun h => absurd rfl h) (fun h => kf p e R s m args below meth c H locs Q ls hC hR hq hl k2)
/-- Math.max -/
theorem xj_max {x y : Int32} (hd : decode Y.2.1 pc = .ok (.invokestatic idx, 3)) (w1 : Cond.methodLink Y.1.cls idx Lib.Math.max.name ∈ lw_tbl) (w2 : Cond.static Lib.Math.max.name ∈ lw_tbl) (w3 : Cond.initialized "java/lang/Math" ∈ lw_tbl) (w4 : Cond.code Lib.Math.max.name Lib.Math.max.code 2 (some .int) ∈ lw_tbl) (hdd : 1 ≤ d) (hr : (st.map fun v => v.category).sum ≤ 8) (hc : cells ≤ ce) (hse : slots ≤ se)
    (kk : XJ G Y d ce se cells slots (pc + 3) L (.int (if x < y then y else x) :: st) M Post) : XJ G Y d ce se cells slots pc L (.int y :: .int x :: st) M Post := by
  intro p e R s m args below meth c H locs Q ls hC hR hq hl k2
  have h5 := hC.2.2.2.2.2.2.2.1
  have h6 := hC.2.2.2.2.2.2.2.2.1
  have h7 := hC.2.2.2.2.2.2.2.2.2.1
  have h8 := hC.2.2.2.2.2.2.2.2.2.2
  have h9 := xcat (f := xa G) st
  exact va_mmax hC.2.1 hC.2.2.1 (hC.2.2.2.1.trans hl.1.symm) (xown hC) (xword hC w1 rfl args) (xword hC w2 rfl args) (xword hC w3 rfl args) (xword hC w4 rfl args) (by omega) (by omega) (by omega) (by omega) hd (kk p e R s m args below meth c H locs Q ls hC hR hq hl k2)
/-- System.arraycopy between arrays of chars (t = 1) or ints (t = 0) -/
theorem xj_copy {a b t n0 n1 : Nat} {f g : Nat → Int32} {sp dp n : Int32} {i j k : Nat} (hd : decode Y.2.1 pc = .ok (.invokestatic idx, 3)) (w1 : Cond.methodLink Y.1.cls idx arraycopyName ∈ lw_tbl) (w2 : Cond.native arraycopyName ∈ lw_tbl) (w3 : Cond.static arraycopyName ∈ lw_tbl) (w4 : Cond.initialized "java/lang/System" ∈ lw_tbl) (ht : t < 2)
    (hMa : M.2 a = .inl (t, n0, .inl f)) (a1 : xn ≤ a) (a2 : a < M.1) (hMb : M.2 b = .inl (t, n1, .inl g)) (b1 : xn ≤ b) (b2 : b < M.1) (h1 : ¬ sp < 0) (h2 : ¬ dp < 0) (h3 : ¬ n < 0) (hi : sp.toNatClampNeg = i) (hj : dp.toNatClampNeg = j) (hk : n.toNatClampNeg = k) (h4 : i + k ≤ n0) (h5 : j + k ≤ n1) (hfit : ∀ z, z < k → fits (xty t) (.int (f (i + z))) = true) (hdd : 1 ≤ d) (hr : (st.map fun v => v.category).sum ≤ 8)
    (kk : XJ G Y d ce se cells slots (pc + 3) L st (xset M b (.inl (t, n1, .inl (va_cpy f g i j k)))) Post) : XJ G Y d ce se cells slots pc L (.int n :: .int dp :: .ref b :: .int sp :: .ref a :: st) M Post := by
  intro p e R s m args below meth c H locs Q ls hC hR hq hl k2
  subst hi; subst hj; subst hk
  have nn : ∀ z : Int32, ¬ z < 0 → z.toInt = (z.toNatClampNeg : Int) := by
    intro z hz
    have hz0 : (0 : Int) ≤ z.toInt := by
      have := Int32.not_lt.mp hz
      simpa using Int32.le_iff_toInt_le.mp this
    show z.toInt = ((z.toInt.toNat : Nat) : Int)
    omega
  have hfr := hC.2.2.2.2.2.2.2.1
  have hlo := hC.2.2.2.2.2.2.2.2.1
  have hct := xcat (f := xa G) st
  have hty : (xtys (xA G))[t]? = some (xA G t, xty t) := by simp [xtys, show t < 8 by omega]
  have hc0 : H[xa G a]? = some (vp_cell (xA G t) (n0, .inl f)) := by
    have hat := hR.2.2.1 a a1 a2
    rw [hMa] at hat
    exact hat
  have hc1 : H[xa G b]? = some (vp_cell (xA G t) (n1, .inl g)) := by
    have hat := hR.2.2.1 b b1 b2
    rw [hMb] at hat
    exact hat
  have hnf : nativeFrameWords "java/lang/System" "arraycopy" 5 + 11 ≤ 40 := by decide +kernel
  intro T hT X
  obtain ⟨-, k0, hk0, cm0, hkk0⟩ := ((xK hC).2 t _ hty).1 n0 (fun j => .int (f j))
  obtain ⟨-, k1, hk1, cm1, hkk1⟩ := ((xK hC).2 t _ hty).1 n1 (fun j => .int (g j))
  have hrk : refKind (xty t) = false := by
    rcases (show t = 0 ∨ t = 1 by omega) with rfl | rfl <;> simp [refKind, xty]
  obtain ⟨vm', X', step⟩ := X.arraycopy hC.2.1 (xown hC) (xword hC w1 rfl args) (xword hC w2 rfl args) (xword hC w3 rfl args) (xword hC w4 rfl args) (src := xa G a) (dst := xa G b) (cs := vp_cell (xA G t) (n0, .inl f)) (cd := vp_cell (xA G t) (n1, .inl g)) (srcPos := sp) (destPos := dp) (n := n) (by rw [hT]; exact hc0) (by rw [hT]; exact hc1)
    (fun _ h => by cases h) (fun _ h => by cases h) (fun h => by cases h) (fun h => by cases h) hk0 hk1 hkk0 hkk1 (by simp [hrk]) h1 h2 h3
    (by rw [nn sp h1, nn n h3]; show ¬ _ > ((arrV (xA G t) n0 (fun j => .int (f j))).slots.size : Int); rw [arrV_size]; omega)
    (by rw [nn dp h2, nn n h3]; show ¬ _ > ((arrV (xA G t) n1 (fun j => .int (g j))).slots.size : Int); rw [arrV_size]; omega)
    (fun vm₁ _ i hi => by
      have e : (vp_cell (xA G t) (n0, .inl f)).slots.getD (sp.toNatClampNeg + i) .null = .int (f (sp.toNatClampNeg + i)) := by
        show (arrV (xA G t) n0 (fun j => .int (f j))).slots.getD _ _ = _
        rw [Array.getD_eq_getD_getElem?, arrV_read _ _ (by omega)]
        rfl
      refine ⟨?_, ?_⟩
      · rw [e]
        exact hfit i hi
      · rw [e]
        exact trivial)
    (g := F0 m pc ls (.int n :: .int dp :: .ref (xa G b) :: .int sp :: .ref (xa G a) :: st.map (xcv (xa G)))) rfl (by rw [hC.2.2.2.1]; exact hl.1) (rest := st.map (xcv (xa G))) rfl (by rw [hC.2.2.1]; exact hd) (by omega) (by show 2 * 0 + _ + _ ≤ _; omega)
  have e1 : copied (vp_cell (xA G t) (n0, .inl f)) (vp_cell (xA G t) (n1, .inl g)) sp dp n = vp_cell (xA G t) (n1, .inl (va_cpy f g sp.toNatClampNeg dp.toNatClampNeg n.toNatClampNeg)) := by
    rw [vp_cell_i, vp_cell_i, vp_cell_i]
    exact va_copied (fun z => .int z) (xA G t) (xA G t) f g h4
  rw [e1] at X' step
  have hlt : xa G b < H.size := (Array.getElem?_eq_some_iff.mp hc1).1
  have hheap : ((T.setVm vm').setCell (xa G b) (vp_cell (xA G t) (n1, .inl (va_cpy f g sp.toNatClampNeg dp.toNatClampNeg n.toNatClampNeg)))).heap = H.setIfInBounds (xa G b) (vp_cell (xA G t) (n1, .inl (va_cpy f g sp.toNatClampNeg dp.toNatClampNeg n.toNatClampNeg))) := by rw [← hT]; rfl
  have oq : ∀ q : Nat, q ≠ xa G b → (H.setIfInBounds (xa G b) (vp_cell (xA G t) (n1, .inl (va_cpy f g sp.toNatClampNeg dp.toNatClampNeg n.toNatClampNeg))))[q]? = H[q]? := fun q hq => by simp [Array.getElem?_setIfInBounds, Ne.symm hq]
  have hge := (xR_lt hC.1 hR b1 b2).1
  obtain ⟨t', c1, c2⟩ := kk p e R s m args below meth c _ _ Q ls hC (xR_set hC.1 hR b1 b2 (show (H.setIfInBounds (xa G b) _)[xa G b]? = some _ by simp [Array.getElem?_setIfInBounds, hlt]; rfl) (by simp) oq) (fun q h => by
      rcases List.mem_append.mp h with h | h
      · exact hq q h
      · obtain ⟨z, -, hz⟩ := List.mem_map.mp h
        rw [← hz]
        exact hge) hl k2 _ hheap X'
  exact ⟨t', step t' c1, c2⟩
end XJ3

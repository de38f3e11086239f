/-! String constants: their cells are 2 to 6, their bytes 7 to 11; 12 is what makes an exception's text -/
def xjl : List Nat := [12, 9, 9, 9, 9]
def xjb : List (List Int32) := [[94, 46, 91, 36, 40, 41, 124, 42, 43, 63, 123, 92], [91, 58, 97, 108, 112, 104, 97, 58, 93], [91, 58, 108, 111, 119, 101, 114, 58, 93], [91, 58, 117, 112, 112, 101, 114, 58, 93], [91, 58, 100, 105, 103, 105, 116, 58, 93]]
def xjc (i k : Nat) : Int32 := (xjb.getD i []).getD k 0
def xSC (G : xG) : Prop := va_Z "java/lang/String" "COMPACT_STRINGS" "Z" (xcv (xa G) (.int 1)) (fun q => (xs G).heap.size ≤ q) (xs G) (xs G).heap ∧ (va_Z "jdk/internal/util/Preconditions" "SIOOBE_FORMATTER" "Ljava/util/function/BiFunction;" (xcv (xa G) .null) (fun q => (xs G).heap.size ≤ q) (xs G) (xs G).heap ∨ va_Z "jdk/internal/util/Preconditions" "SIOOBE_FORMATTER" "Ljava/util/function/BiFunction;" (xcv (xa G) (.ref 12)) (fun q => (xs G).heap.size ≤ q) (xs G) (xs G).heap) ∧ vk_S 5 xjl xjb (fun i => xa G (i + 2)) (fun i => xa G (i + 7)) (fun q => (xs G).heap.size ≤ q) (xs G) (xs G).heap ∧ vk_R "TrigramLines$Reader" 127 "^.[$()|*+?{\\" (xa G 2) (xs G) ∧ vk_R "TrigramLines$Reader" 144 "[:alpha:]" (xa G 3) (xs G) ∧ vk_R "TrigramLines$Reader" 150 "[:lower:]" (xa G 4) (xs G) ∧ vk_R "TrigramLines$Reader" 152 "[:upper:]" (xa G 5) (xs G) ∧ vk_R "TrigramLines$Reader" 154 "[:digit:]" (xa G 6) (xs G)
section XJS
variable {G : xG} {Y Z : xY} {d ce se cells slots pc : Nat} {L : List (Nat × Value)} {st rest As : List Value} {M : xM} {Post Pst : Option Value → xM → Prop} {ret : Option FieldType} {e1 mc ms n idx i : Nat}
theorem xj_ldcS {a : Nat} {tx : String} (hZ : vk_R Y.1.cls idx tx (xa G a) (xs G)) (hd : decode Y.2.1 pc = .ok (.ldc idx, 2)) (kk : XJ G Y d ce se cells slots (pc + 2) L (.ref a :: st) M Post) : XJ G Y d ce se cells slots pc L st M Post := by
  intro p e R s m args below meth c H locs Q ls hC hR hq hl k2
  exact va_ldcS hC.2.1 hC.2.2.1 (xown hC) (vk_R.warm (xwarm hC) hZ) hd (kk p e R s m args below meth c H locs Q ls hC hR hq hl k2)
theorem xj_getSv (hS : xSC G) (hi : i < 5) (hd : decode Y.2.1 pc = .ok (.getfield idx, 3)) (hw : Cond.fieldLink Y.1.cls idx "java/lang/String" "value" "[B" ∈ lw_tbl) (kk : XJ G Y d ce se cells slots (pc + 3) L (.ref (i + 7) :: st) M Post) : XJ G Y d ce se cells slots pc L (.ref (i + 2) :: st) M Post := by
  intro p e R s m args below meth c H locs Q ls hC hR hq hl k2
  obtain ⟨cf, k, fi, f, cell, h1, h2, h3, h4, h5, h6⟩ := va_OF.moved (xwarm hC).alike (hS.2.2.1.1 i hi).2.2.1
  exact W.getf hC.2.1 hC.2.2.1 (xown hC) (xword hC hw rfl args) h1 h2 (by rw [hR.2.2.2 _ (Nat.not_le.mp h6)]; exact h3) h4 (v := .ref (xa G (i + 7))) h5 rfl rfl hd (kk p e R s m args below meth c H locs Q ls hC hR hq hl k2)
theorem xj_getSc (hS : xSC G) (hi : i < 5) (hd : decode Y.2.1 pc = .ok (.getfield idx, 3)) (hw : Cond.fieldLink Y.1.cls idx "java/lang/String" "coder" "B" ∈ lw_tbl) (kk : XJ G Y d ce se cells slots (pc + 3) L (.int 0 :: st) M Post) : XJ G Y d ce se cells slots pc L (.ref (i + 2) :: st) M Post := by
  intro p e R s m args below meth c H locs Q ls hC hR hq hl k2
  obtain ⟨cf, k, fi, f, cell, h1, h2, h3, h4, h5, h6⟩ := va_OF.moved (xwarm hC).alike (hS.2.2.1.1 i hi).2.1
  exact W.getf hC.2.1 hC.2.2.1 (xown hC) (xword hC hw rfl args) h1 h2 (by rw [hR.2.2.2 _ (Nat.not_le.mp h6)]; exact h3) h4 (v := .int 0) h5 rfl rfl hd (kk p e R s m args below meth c H locs Q ls hC hR hq hl k2)
theorem xj_sbld {j : Nat} {x : Int32} (hS : xSC G) (hi : i < 5) (hd : decode Y.2.1 pc = .ok (.baload, 1)) (hx : vp_in x (xjl.getD i 0)) (hj : x.toNatClampNeg = j) (kk : XJ G Y d ce se cells slots (pc + 1) L (.int (xjc i j) :: st) M Post) : XJ G Y d ce se cells slots pc L (.int x :: .ref (i + 7) :: st) M Post := by
  intro p e R s m args below meth c H locs Q ls hC hR hq hl k2
  subst hj
  obtain ⟨cell, h1, h2, h3, h4, h5, h6, h7⟩ := va_T.moved (xwarm hC).alike (hS.2.2.1.1 i hi).2.2.2
  have hlt : x.toNatClampNeg < xjl.getD i 0 := Nat.not_le.mp fun q => hx (Or.inr q)
  exact W.bald (v := .int (xjc i x.toNatClampNeg)) hC.2.1 hC.2.2.1 (by rw [hR.2.2.2 _ (Nat.not_le.mp h7)]; exact h1) h2 h3 (fun q => hx (q.imp id (fun z => Nat.le_trans h4 z))) (h6 _ hlt) rfl rfl hd (kk p e R s m args below meth c H locs Q ls hC hR hq hl k2)
theorem xj_callVs (hSC : xSC G) (hi5 : i < 5) (hX : XC G Z ret e1 mc ms (.ref (i + 2) :: As) M Pst) (hd : decode Y.2.1 pc = .ok (.invokevirtual idx, 3)) (hw : xWd Z ret n) (hsel : Cond.selects "java/lang/String" Z.1 Z.1 ∈ lw_tbl) (hin : Cond.instanceMethod Z.1 ∈ lw_tbl) (hli : Cond.methodLink Y.1.cls idx Z.1 ∈ lw_tbl ∨ ∃ host, Cond.methodLinkNest Y.1.cls idx Z.1 host ∈ lw_tbl) (hn : As.length = n) (hs : st = As.reverse ++ .ref (i + 2) :: rest) (hr : (rest.map fun v => v.category).sum ≤ 8) (hdd : e1 + 1 ≤ d) (hc : cells + mc ≤ ce) (hse : slots + ms ≤ se)
    (kk : ∀ v M', Pst v M' → XJ G Y d ce se (cells + mc) (slots + ms) (pc + 3) L (v.toList ++ rest) M' Post) : XJ G Y d ce se cells slots pc L st M Post := by
  intro p e R s m args below meth c H locs Q ls hC hR hq hl k2
  obtain ⟨w1, w2, w3, w4, w5⟩ := hw
  have hrm := xroom (Z := Z) hC hdd w5
  have hce := hC.2.2.2.2.2.2.2.2.2.1
  have hses := hC.2.2.2.2.2.2.2.2.2.2
  obtain ⟨cell, g1, g2, g3, g4⟩ := va_O.moved (xwarm hC).alike (hSC.2.2.1.1 i hi5).1
  have hpre : PreV s H "java/lang/String" (xa G (i + 2)) (va_Pc ((Value.ref (i + 2) :: As).map (xcv (xa G))) (fun U => xR G M U.heap ∧ (xs G).WarmedH U.vm)) (As.map (xcv (xa G))) := ⟨xblind, ⟨cell, by rw [hR.2.2.2 _ (Nat.not_le.mp g4)]; exact g1, g2, g3⟩, fun U hU hW => ⟨rfl, by rw [hU]; exact hR, State.WarmedH.trans (xwarm hC) hW⟩⟩
  have hstk : st.map (xcv (xa G)) = (As.map (xcv (xa G))).reverse ++ .ref (xa G (i + 2)) :: rest.map (xcv (xa G)) := by rw [hs, List.map_append, List.map_reverse]; rfl
  rcases hli with hl1 | ⟨host, hl1⟩
  · exact xgo (va_runV (Ts := []) ⟨hC.2.1, hC.2.2.1, hC.2.2.2.1, xown hC, fun w h => by cases h⟩ hX ⟨⟨rfl, rfl, hrm.1, hrm.2, xhws hC w1, List.mem_singleton.mpr rfl, xword hC w1 rfl args, xword hC w2 rfl args, w3, xlen w4, xword hC hl1 rfl args⟩, xword hC hin rfl args, xword hC hsel rfl args⟩ hpre rfl (by rw [List.length_map]; exact hn) hl.1 hstk (lv_room (by rw [xcat]; exact hr)) hd ⟨by omega, by omega⟩) hC hq hl k2 kk
  · exact xgo (va_runVN (Ts := []) ⟨hC.2.1, hC.2.2.1, hC.2.2.2.1, xown hC, fun w h => by cases h⟩ hX ⟨⟨⟨rfl, rfl, hrm.1, hrm.2, xhws hC w1, List.mem_singleton.mpr rfl⟩, xword hC w1 rfl args, xword hC w2 rfl args, w3, xlen w4, va_Nw.use rfl (va_Nw.warmM (xwarm hC) (va_Nw.of rfl (hC.1.2.2.1 _ hl1)))⟩, xword hC hin rfl args, xword hC hsel rfl args⟩ hpre rfl (by rw [List.length_map]; exact hn) hl.1 hstk (lv_room (by rw [xcat]; exact hr)) hd ⟨by omega, by omega⟩) hC hq hl k2 kk
theorem xj_min {x y : Int32} (hd : decode Y.2.1 pc = .ok (.invokestatic idx, 3)) (w1 : Cond.methodLink Y.1.cls idx Lib.Math.min.name ∈ lw_tbl) (w2 : Cond.static Lib.Math.min.name ∈ lw_tbl) (w3 : Cond.initialized "java/lang/Math" ∈ lw_tbl) (w4 : Cond.code Lib.Math.min.name Lib.Math.min.code 2 (some .int) ∈ lw_tbl) (hdd : 1 ≤ d) (hr : (st.map fun v => v.category).sum ≤ 8) (hc : cells ≤ ce) (hse : slots ≤ se)
    (kk : XJ G Y d ce se cells slots (pc + 3) L (.int (if y < x then y else x) :: st) M Post) : XJ G Y d ce se cells slots pc L (.int y :: .int x :: st) M Post := by
  intro p e R s m args below meth c H locs Q ls hC hR hq hl k2
  have h5 := hC.2.2.2.2.2.2.2.1
  have h6 := hC.2.2.2.2.2.2.2.2.1
  have h7 := hC.2.2.2.2.2.2.2.2.2.1
  have h8 := hC.2.2.2.2.2.2.2.2.2.2
  have h9 := xcat (f := xa G) st
  exact va_mmin hC.2.1 hC.2.2.1 (hC.2.2.2.1.trans hl.1.symm) (xown hC) (xword hC w1 rfl args) (xword hC w2 rfl args) (xword hC w3 rfl args) (xword hC w4 rfl args) (by omega) (by omega) (by omega) (by omega) hd (kk p e R s m args below meth c H locs Q ls hC hR hq hl k2)
theorem xc_ofB {av : List Value} (hg : xGood G) (hpl : plainName Y.1.cls = true) (hlen : ((lg_sl av).length ≤ Y.2.2.1)) (hret : Y.2.2.2 = .ireturn ∧ ∀ v M', Post v M' → ∃ x, v = some (.int x) ∧ narrow .byte (.int x) = .int x)
    (h : XJ G Y d mc ms 0 0 0 (lv_args 0 av) [] M Post) : XC G Y (some .byte) d mc ms av M Post := by
  refine Met.ofW (cc := Y.2.1) (maxL := Y.2.2.1) (ret := some .byte) hpl rfl ?_
  intro p e s m args below meth c s₁ B hml hv
  obtain ⟨rfl, hR, hW⟩ := hv
  have hx := B.exec
  have hb := B.bytes
  have hr := B.returns
  have hown : s.vm.findClass Y.1.cls = some m.cls := findClass_of_methodNamed B.named
  have hin : meth.name = Y.1.name := (name_of_methodNamed B.named B.method).1
  have hlen2 : (lg_sl (av.map (xcv (xa G)))).length ≤ Y.2.2.1 := by
    have := xsl_len (f := xa G) av
    omega
  have hl := lv_entry (av.map (xcv (xa G))) (n := Y.2.2.1) hlen2
  rw [lg_entry_eq]
  generalize (lg_sl (av.map (xcv (xa G))) ++ List.replicate (Y.2.2.1 - (lg_sl (av.map (xcv (xa G)))).length) Slot.unset).toArray = ls at hl ⊢
  rw [xargs] at hl
  refine h p e _ s m _ below meth c s.heap [] _ ls ⟨hg, hx, hb, hml, hown, hW, fun h => hin.trans h, Nat.le_refl _, Nat.le_refl _, Nat.le_refl _, Nat.le_refl _⟩ hR (fun q h => by cases h) hl ?_
  intro v M' H' locs' pc' ls' hP hR' hq' hd'
  have hend : ∀ t : State, t.heap = H' → ∃ (v' : Option Value) (M'' : xM), Outcome.returned (v.map (xcv (xa G))) = .returned (v'.map (xcv (xa G))) ∧ Post v' M'' ∧ xR G M'' t.heap := fun t ht => ⟨v, M', rfl, hP, by rw [ht]; exact hR'⟩
  obtain ⟨x, rfl, h01⟩ := hret.2 v M' hP
  rw [hret.1] at hd'
  exact W.zret hx hb hr h01 (fun t ht _ => hend t ht) hq' hd'
end XJS
theorem xjl_lt : ∀ i, i < 5 → xjl.getD i 0 ≤ 12 := by decide
theorem xjc_c : ∀ i, i < 5 → ∀ k, k < 12 → ((xjc i k &&& 255).toUInt32 % 65536).toInt32 = xjc i k ∧ narrow .char (.int (xjc i k)) = .int (xjc i k) := by decide +kernel
theorem xi8 : ∀ k, k < 128 → (nI k).toInt8.toInt32 = nI k := by decide +kernel
def xixF (c : Int32) : Nat → Nat → Int32
  | _, 0 => -1
  | k, r + 1 => if xjc 0 k = c then nI k else xixF c (k + 1) r
theorem xixF_neg {c : Int32} : ∀ (r k : Nat), k + r ≤ 12 → (xixF c k r < 0 ↔ ∀ j, k ≤ j → j < k + r → ¬ xjc 0 j = c)
  | 0, k, _ => ⟨fun _ j h1 h2 => by omega, fun _ => by show (-1 : Int32) < 0; decide⟩
  | r + 1, k, h => by
    by_cases q : xjc 0 k = c
    · rw [show xixF c k (r + 1) = nI k from if_pos q]
      exact ⟨fun z => absurd z (nI_pos (by omega)), fun z => absurd q (z k (Nat.le_refl _) (by omega))⟩
    · rw [show xixF c k (r + 1) = xixF c (k + 1) r from if_neg q, xixF_neg r (k + 1) (by omega)]
      refine ⟨fun z j h1 h2 => ?_, fun z j h1 h2 => z j (by omega) (by omega)⟩
      by_cases hj : j = k
      · rw [hj]
        exact q
      · exact z j (by omega) (by omega)
theorem xix_spe {c : Int32} : ¬ xixF c 0 12 < 0 ↔ pSpe c := by
  rw [xixF_neg 12 0 (by omega)]
  refine ⟨fun h => Classical.byContradiction fun q => h (fun j _ h2 e => q ?_), fun h z => ?_⟩
  · have h3 : j < 12 := by omega
    subst e
    exact (show ∀ j, j < 12 → (xjc 0 j = 94 ∨ xjc 0 j = 46 ∨ xjc 0 j = 91 ∨ xjc 0 j = 36 ∨ xjc 0 j = 40 ∨ xjc 0 j = 41 ∨ xjc 0 j = 124 ∨ xjc 0 j = 42 ∨ xjc 0 j = 43 ∨ xjc 0 j = 63 ∨ xjc 0 j = 123 ∨ xjc 0 j = 92) by decide +kernel) j h3
  · rcases h with h | h | h | h | h | h | h | h | h | h | h | h
    · exact z 0 (by omega) (by omega) h.symm
    · exact z 1 (by omega) (by omega) h.symm
    · exact z 2 (by omega) (by omega) h.symm
    · exact z 3 (by omega) (by omega) h.symm
    · exact z 4 (by omega) (by omega) h.symm
    · exact z 5 (by omega) (by omega) h.symm
    · exact z 6 (by omega) (by omega) h.symm
    · exact z 7 (by omega) (by omega) h.symm
    · exact z 8 (by omega) (by omega) h.symm
    · exact z 9 (by omega) (by omega) h.symm
    · exact z 10 (by omega) (by omega) h.symm
    · exact z 11 (by omega) (by omega) h.symm

/-- the class object of Object[] is cell 13; what is no anchor -/
def xHM (G : xG) : Prop := va_Mi "[Ljava/lang/Object;" (xa G 13) (xs G)
def xNA (G : xG) : Prop := va_Nc "TrigramLines$CharacterSet" "TrigramLines$Anchor" (xs G) ∧ va_Nc "TrigramLines$Repetition" "TrigramLines$Anchor" (xs G) ∧ va_Nc "TrigramLines$Group" "TrigramLines$Anchor" (xs G)
/-- an object that may stand in a list -/
def xOb (M : xM) (b : Nat) : Prop := xn ≤ b ∧ b < M.1 ∧ ∃ (bc : Nat) (bf : List Value) (bC : String) (bT : u_T) (bN : Nat), M.2 b = .inr (bc, bf) ∧ vwCl[bc]? = some (bC, bT, bN) ∧ xAsg bC "java/lang/Object"
section XJM
variable {G : xG} {Y Z : xY} {d ce se cells slots pc : Nat} {L : List (Nat × Value)} {st rest As : List Value} {M : xM} {Post Pst : Option Value → xM → Prop} {ret : Option FieldType} {e1 mc ms n idx i : Nat}
theorem xj_ldcM {a : Nat} {C : String} (hM : va_Mi C (xa G a) (xs G)) (hd : decode Y.2.1 pc = .ok (.ldc idx, 2)) (hw : Cond.classLink Y.1.cls idx C ∈ lw_tbl) (kk : XJ G Y d ce se cells slots (pc + 2) L (.ref a :: st) M Post) : XJ G Y d ce se cells slots pc L st M Post := by
  intro p e R s m args below meth c H locs Q ls hC hR hq hl k2
  exact va_ldcM hC.2.1 hC.2.2.1 (xown hC) (xword hC hw rfl args) (va_Mi.moved (xwarm hC).alike hM) hd (kk p e R s m args below meth c H locs Q ls hC hR hq hl k2)
theorem xj_getC {a N : Nat} {f : Nat → Option Nat} (hM : xHM G) (hd : decode Y.2.1 pc = .ok (.invokevirtual idx, 3)) (hw : Cond.methodLink Y.1.cls idx ⟨"java/lang/Object", "getClass", "()Ljava/lang/Class;"⟩ ∈ lw_tbl) (h1 : Cond.declares ⟨"java/lang/Object", "getClass", "()Ljava/lang/Class;"⟩ ∈ lw_tbl) (h2 : Cond.selects "[Ljava/lang/Object;" ⟨"java/lang/Object", "getClass", "()Ljava/lang/Class;"⟩ ⟨"java/lang/Object", "getClass", "()Ljava/lang/Class;"⟩ ∈ lw_tbl) (h3 : Cond.instanceMethod ⟨"java/lang/Object", "getClass", "()Ljava/lang/Class;"⟩ ∈ lw_tbl) (h4 : Cond.native ⟨"java/lang/Object", "getClass", "()Ljava/lang/Class;"⟩ ∈ lw_tbl) (hA : M.2 a = .inl (4, N, .inr (.inr (.inr (.inr f))))) (a1 : xn ≤ a) (a2 : a < M.1) (hdd : 1 ≤ d) (hr : (st.map fun v => v.category).sum ≤ 8)
    (kk : XJ G Y d ce se cells slots (pc + 3) L (.ref 13 :: st) M Post) : XJ G Y d ce se cells slots pc L (.ref a :: st) M Post := by
  intro p e R s m args below meth c H locs Q ls hC hR hq hl k2
  have h5 := hC.2.2.2.2.2.2.2.1
  have h6 := hC.2.2.2.2.2.2.2.2.1
  have h9 := xcat (f := xa G) st
  have hat : H[xa G a]? = some (vp_cell (xA G 4) (N, .inr (.inr (.inr (.inr (fun j => (f j).map (xa G))))))) := by
    have hat := hR.2.2.1 a a1 a2
    rw [hA] at hat
    exact hat
  have hty : (xtys (xA G))[4]? = some (xA G 4, .object "java/lang/Object") := by simp [xtys]; rfl
  exact va_getC hC.2.1 hC.2.2.1 (hC.2.2.2.1.trans hl.1.symm) (xown hC) (xword hC hw rfl args) (va_Nw.use rfl (va_Nw.warmD (xwarm hC) (va_Nw.of rfl (hC.1.2.2.1 _ h1)))) (xword hC h2 rfl args) (xword hC h3 rfl args) (xword hC h4 rfl args) (va_Mi.moved (xwarm hC).alike hM) ⟨_, hat, rfl, va_nmO (((xK hC).2 4 _ hty).2) (by decide +kernel)⟩ (by omega) (by omega) hd (kk p e R s m args below meth c H locs Q ls hC hR hq hl k2)
theorem xj_instYs {idx a ci N : Nat} {C : String} {T : u_T} {fs : List Value} (hd : decode Y.2.1 pc = .ok (.instanceof idx, 3)) (hw : Cond.classLink Y.1.cls idx C ∈ lw_tbl) (hM : M.2 a = .inr (ci, fs)) (h1 : xn ≤ a) (h2 : a < M.1) (hci : vwCl[ci]? = some (C, T, N))
    (kk : XJ G Y d ce se cells slots (pc + 3) L (.int 1 :: st) M Post) : XJ G Y d ce se cells slots pc L (.ref a :: st) M Post := by
  intro p e R s m args below meth c H locs Q ls hC hR hq hl k2
  have hat := hR.2.2.1 a h1 h2
  rw [hM] at hat
  have hrc := va_recv (xK hC) (xP1 hat) hci (q0 := 0) rfl
  exact va_instS hC.2.1 hC.2.2.1 (xown hC) (xword hC hw rfl args) ((xK hC).1 ci _ hci).2 hrc hd (kk p e R s m args below meth c H locs Q ls hC hR hq hl k2)
theorem xj_instNo {idx a ci N : Nat} {C E : String} {T : u_T} {fs : List Value} (hd : decode Y.2.1 pc = .ok (.instanceof idx, 3)) (hw : Cond.classLink Y.1.cls idx E ∈ lw_tbl) (hM : M.2 a = .inr (ci, fs)) (h1 : xn ≤ a) (h2 : a < M.1) (hci : vwCl[ci]? = some (C, T, N)) (hN : va_Nc C E (xs G))
    (kk : XJ G Y d ce se cells slots (pc + 3) L (.int 0 :: st) M Post) : XJ G Y d ce se cells slots pc L (.ref a :: st) M Post := by
  intro p e R s m args below meth c H locs Q ls hC hR hq hl k2
  have hat := hR.2.2.1 a h1 h2
  rw [hM] at hat
  have hrc := va_recv (xK hC) (xP1 hat) hci (q0 := 0) rfl
  exact va_instNo hC.2.1 hC.2.2.1 (xown hC) (xword hC hw rfl args) (va_Nc.moved (xwarm hC).alike hN) hrc hd (kk p e R s m args below meth c H locs Q ls hC hR hq hl k2)
theorem xj_copyM {a b n0 n1 : Nat} {f g : Nat → Option Nat} {sp dp n : Int32} {i j k : Nat} (hd : decode Y.2.1 pc = .ok (.invokestatic idx, 3)) (w1 : Cond.methodLink Y.1.cls idx arraycopyName ∈ lw_tbl) (w2 : Cond.native arraycopyName ∈ lw_tbl) (w3 : Cond.static arraycopyName ∈ lw_tbl) (w4 : Cond.initialized "java/lang/System" ∈ lw_tbl)
    (hMa : M.2 a = .inl (4, n0, .inr (.inr (.inr (.inr f))))) (a1 : xn ≤ a) (a2 : a < M.1) (hMb : M.2 b = .inl (4, n1, .inr (.inr (.inr (.inr g))))) (b1 : xn ≤ b) (b2 : b < M.1) (h1 : ¬ sp < 0) (h2 : ¬ dp < 0) (h3 : ¬ n < 0) (hi : sp.toNatClampNeg = i) (hj : dp.toNatClampNeg = j) (hk : n.toNatClampNeg = k) (h4 : i + k ≤ n0) (h5 : j + k ≤ n1) (hel : ∀ z, z < k → ∀ y, f (i + z) = some y → xOb M y) (hdd : 1 ≤ d) (hr : (st.map fun v => v.category).sum ≤ 8)
    (kk : XJ G Y d ce se cells slots (pc + 3) L st (xset M b (.inl (4, n1, .inr (.inr (.inr (.inr (va_cpy f g i j k))))))) Post) : XJ G Y d ce se cells slots pc L (.int n :: .int dp :: .ref b :: .int sp :: .ref a :: st) M Post := by
  intro p e R s m args below meth c H locs Q ls hC hR hq hl k2
  subst hi; subst hj; subst hk
  have nn : ∀ z : Int32, ¬ z < 0 → z.toInt = (z.toNatClampNeg : Int) := by
    intro z hz
    have hz0 : (0 : Int) ≤ z.toInt := by
      have := Int32.not_lt.mp hz
      simpa using Int32.le_iff_toInt_le.mp this
    show z.toInt = ((z.toInt.toNat : Nat) : Int)
    omega
  have hfr := hC.2.2.2.2.2.2.2.1
  have hlo := hC.2.2.2.2.2.2.2.2.1
  have hct := xcat (f := xa G) st
  have hty : (xtys (xA G))[4]? = some (xA G 4, .object "java/lang/Object") := by simp [xtys]; rfl
  have hc0 : H[xa G a]? = some (vp_cell (xA G 4) (n0, .inr (.inr (.inr (.inr (fun j => (f j).map (xa G))))))) := by
    have hat := hR.2.2.1 a a1 a2
    rw [hMa] at hat
    exact hat
  have hc1 : H[xa G b]? = some (vp_cell (xA G 4) (n1, .inr (.inr (.inr (.inr (fun j => (g j).map (xa G))))))) := by
    have hat := hR.2.2.1 b b1 b2
    rw [hMb] at hat
    exact hat
  have hnf : nativeFrameWords "java/lang/System" "arraycopy" 5 + 11 ≤ 40 := by decide +kernel
  intro T hT X
  obtain ⟨-, k0, hk0, cm0, hkk0⟩ := ((xK hC).2 4 _ hty).1 n0 (fun j => va_rf ((f j).map (xa G)))
  obtain ⟨-, k1, hk1, cm1, hkk1⟩ := ((xK hC).2 4 _ hty).1 n1 (fun j => va_rf ((g j).map (xa G)))
  obtain ⟨vm', X', step⟩ := X.arraycopy hC.2.1 (xown hC) (xword hC w1 rfl args) (xword hC w2 rfl args) (xword hC w3 rfl args) (xword hC w4 rfl args) (src := xa G a) (dst := xa G b) (cs := vp_cell (xA G 4) (n0, .inr (.inr (.inr (.inr (fun j => (f j).map (xa G))))))) (cd := vp_cell (xA G 4) (n1, .inr (.inr (.inr (.inr (fun j => (g j).map (xa G))))))) (srcPos := sp) (destPos := dp) (n := n) (by rw [hT]; exact hc0) (by rw [hT]; exact hc1)
    (fun _ h => by cases h) (fun _ h => by cases h) (fun h => by cases h) (fun h => by cases h) hk0 hk1 hkk0 hkk1 rfl h1 h2 h3
    (by rw [nn sp h1, nn n h3]; show ¬ _ > ((arrV (xA G 4) n0 (fun j => va_rf ((f j).map (xa G)))).slots.size : Int); rw [arrV_size]; omega)
    (by rw [nn dp h2, nn n h3]; show ¬ _ > ((arrV (xA G 4) n1 (fun j => va_rf ((g j).map (xa G)))).slots.size : Int); rw [arrV_size]; omega)
    (fun vm₁ hal i hi => by
      have e : (vp_cell (xA G 4) (n0, .inr (.inr (.inr (.inr (fun j => (f j).map (xa G))))))).slots.getD (sp.toNatClampNeg + i) .null = va_rf ((f (sp.toNatClampNeg + i)).map (xa G)) := by
        show (arrV (xA G 4) n0 (fun j => va_rf ((f j).map (xa G)))).slots.getD _ _ = _
        rw [Array.getD_eq_getD_getElem?, arrV_read _ _ (by omega)]
        rfl
      rw [e]
      cases hy : f (sp.toNatClampNeg + i) with
      | none => exact ⟨rfl, trivial⟩
      | some y =>
        obtain ⟨y1, y2, bc, bf, bC, bT, bN, hb, hci, hA⟩ := hel i hi y hy
        have hab := hR.2.2.1 y y1 y2
        rw [hb] at hab
        obtain ⟨cellV, g1, g2, ⟨kC, hkC⟩, hasg⟩ := va_rAny (E := "java/lang/Object") (xK hC) (xP1 hab) (q0 := 0) rfl hci (fun comp c0 e1 e2 => xasg hA hC.1 (xwarm hC) comp c0 e1 e2)
        obtain ⟨kA, comp, r1, r2, r3, -⟩ := ((xK hC).2 4 _ hty).2
        cases hk1.symm.trans r1
        cases hkk1.symm.trans r2
        obtain ⟨kE, hkE, -⟩ := Vm.findClass_spec r3
        obtain ⟨kC', hkC', -⟩ := hal.2.2 _ _ hkC
        obtain ⟨kE', hkE', -⟩ := hal.2.2 _ _ hkE
        refine ⟨rfl, cellV, (show T.heap[xa G y]? = some cellV by rw [hT]; exact g1), (fun q h => by rw [h] at g2; cases g2), ⟨kC', hkC'⟩, ?_, ?_⟩
        · exact ⟨kE', hkE'⟩
        · show vm₁.assignable _ _ = true
          rw [hal.assignable]
          exact hasg _ r3)
    (g := F0 m pc ls (.int n :: .int dp :: .ref (xa G b) :: .int sp :: .ref (xa G a) :: st.map (xcv (xa G)))) rfl (by rw [hC.2.2.2.1]; exact hl.1) (rest := st.map (xcv (xa G))) rfl (by rw [hC.2.2.1]; exact hd) (by omega) (by show 2 * 0 + _ + _ ≤ _; omega)
  have e0 : (fun j => (va_cpy f g sp.toNatClampNeg dp.toNatClampNeg n.toNatClampNeg j).map (xa G)) = va_cpy (fun j => (f j).map (xa G)) (fun j => (g j).map (xa G)) sp.toNatClampNeg dp.toNatClampNeg n.toNatClampNeg := by
    funext q
    unfold va_cpy
    split <;> rfl
  have e1 : copied (vp_cell (xA G 4) (n0, .inr (.inr (.inr (.inr (fun j => (f j).map (xa G))))))) (vp_cell (xA G 4) (n1, .inr (.inr (.inr (.inr (fun j => (g j).map (xa G))))))) sp dp n = vp_cell (xA G 4) (n1, .inr (.inr (.inr (.inr (fun j => (va_cpy f g sp.toNatClampNeg dp.toNatClampNeg n.toNatClampNeg j).map (xa G)))))) := by
    rw [e0, vp_cell_q, vp_cell_q, vp_cell_q]
    exact va_copied (fun z => va_rf z) (xA G 4) (xA G 4) _ _ h4
  rw [e1] at X' step
  have hlt : xa G b < H.size := (Array.getElem?_eq_some_iff.mp hc1).1
  have hheap : ((T.setVm vm').setCell (xa G b) (vp_cell (xA G 4) (n1, .inr (.inr (.inr (.inr (fun j => (va_cpy f g sp.toNatClampNeg dp.toNatClampNeg n.toNatClampNeg j).map (xa G)))))))).heap = H.setIfInBounds (xa G b) (vp_cell (xA G 4) (n1, .inr (.inr (.inr (.inr (fun j => (va_cpy f g sp.toNatClampNeg dp.toNatClampNeg n.toNatClampNeg j).map (xa G))))))) := by rw [← hT]; rfl
  have oq : ∀ q : Nat, q ≠ xa G b → (H.setIfInBounds (xa G b) (vp_cell (xA G 4) (n1, .inr (.inr (.inr (.inr (fun j => (va_cpy f g sp.toNatClampNeg dp.toNatClampNeg n.toNatClampNeg j).map (xa G))))))))[q]? = H[q]? := fun q hq => by simp [Array.getElem?_setIfInBounds, Ne.symm hq]
  have hge := (xR_lt hC.1 hR b1 b2).1
  obtain ⟨t', c1, c2⟩ := kk p e R s m args below meth c _ _ Q ls hC (xR_set hC.1 hR b1 b2 (show (H.setIfInBounds (xa G b) _)[xa G b]? = some _ by simp [Array.getElem?_setIfInBounds, hlt]; rfl) (by simp) oq) (fun q h => by
      rcases List.mem_append.mp h with h | h
      · exact hq q h
      · obtain ⟨z, -, hz⟩ := List.mem_map.mp h
        rw [← hz]
        exact hge) hl k2 _ hheap X'
  exact ⟨t', step t' c1, c2⟩
end XJM

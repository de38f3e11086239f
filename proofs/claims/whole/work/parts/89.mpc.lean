/-! A piece more, with the reference's exact arrays -/
section mPc
variable {a a' : Nat} {x x' : Int32} {A : List xNode} {t : List Nat × List Nat} {r : List (List Nat × List Nat)} {q : xNode} {kd ch nx be lo hi wt cs fP lP fB lB kd' ch' wt' cs' : Nat → Int32} {ll : Nat}
theorem mA_bare (hA : mA kd ch nx be lo hi wt cs fP lP fB lB (a, x, A, t :: r)) (h0 : t.2 = []) : fP r.length = -1 ∧ lP r.length = -1 := by
  obtain ⟨u1, u2, u3, u4, u5⟩ := hA.2 r.length t plv_mine
  rw [h0] at u1 u3
  exact ⟨u1, u3⟩
theorem mA_last (hA : mA kd ch nx be lo hi wt cs fP lP fB lB (a, x, A, t :: r)) (hW : pW (a, x, A, t :: r)) (h0 : ¬ t.2 = []) : ∃ ll, some ll = t.2.getLast? ∧ lP r.length = nI ll ∧ ll < A.length ∧ ¬ fP r.length < 0 := by
  obtain ⟨g1, g2, g3⟩ := pW_tag hW
  obtain ⟨u1, u2, u3, u4, u5⟩ := hA.2 r.length t plv_mine
  obtain ⟨-, -, -, -, ow, w1, w2⟩ := hW
  have wt1 := w2 r.length t plv_mine
  rcases xsnoc t.2 with z | ⟨l, y, z⟩
  · exact absurd z h0
  · have hy : some y = t.2.getLast? := by rw [z, List.getLast?_concat]
    have hym := wt1.2.1 y (xlast_mem hy)
    refine ⟨y, hy, ?_, hym.1, ?_⟩
    · rw [u3, z, xla_app]
    · have hne : ∃ c l', t.2 = c :: l' := by
        cases h9 : t.2 with
        | nil => exact absurd h9 h0
        | cons c l' => exact ⟨c, l', rfl⟩
      obtain ⟨c, l', h9⟩ := hne
      rw [h9] at u1
      rw [u1.1]
      have hc : c < A.length := (wt1.2.1 c (by rw [h9]; exact List.mem_cons_self)).1
      exact nI_pos (by omega)
theorem mA_pcE (hA : mA kd ch nx be lo hi wt cs fP lP fB lB (a, x, A, t :: r)) (hW : pW (a, x, A, t :: r)) (h0 : t.2 = []) (k1 : ∀ i, i < A.length → kd' i = kd i ∧ wt' i = wt i ∧ ch' i = ch i ∧ ∀ c, c < 95 → cs' (95 * i + c) = cs (95 * i + c)) (kn : nS kd' ch' (upd nx A.length (-1)) lo hi wt' cs' A.length q) : mA kd' ch' (upd nx A.length (-1)) (upd be A.length (lP r.length)) lo hi wt' cs' (upd fP r.length (nI A.length)) (upd lP r.length (nI A.length)) fB lB (a', x', A ++ [q], (t.1, t.2 ++ [A.length]) :: r) := by
  obtain ⟨u1, u2, u3, u4, u5⟩ := hA.2 r.length t plv_mine
  exact mA_piece hA hW (fun i hi => ⟨(k1 i hi).1, (k1 i hi).2.1, (k1 i hi).2.2.1, rfl, rfl, (k1 i hi).2.2.2⟩) kn (fun c hc _ => if_neg (by omega)) (fun c hc => by rw [h0] at hc; cases hc) (if_pos rfl) (fun c hc => if_neg (by omega)) ((if_pos rfl).trans u3) ((if_pos rfl).trans (if_pos h0).symm) (fun e he => if_neg (by omega)) (if_pos rfl) (fun e he => if_neg (by omega)) (fun _ _ => ⟨rfl, rfl⟩)
theorem mA_pcN (hA : mA kd ch nx be lo hi wt cs fP lP fB lB (a, x, A, t :: r)) (hW : pW (a, x, A, t :: r)) (hll : some ll = t.2.getLast?) (hl2 : lP r.length = nI ll) (hl3 : ll < A.length) (k1 : ∀ i, i < A.length → kd' i = kd i ∧ wt' i = wt i ∧ ch' i = ch i ∧ ∀ c, c < 95 → cs' (95 * i + c) = cs (95 * i + c)) (kn : nS kd' ch' (upd (upd nx A.length (-1)) ll (nI A.length)) lo hi wt' cs' A.length q) : mA kd' ch' (upd (upd nx A.length (-1)) ll (nI A.length)) (upd be A.length (nI ll)) lo hi wt' cs' fP (upd lP r.length (nI A.length)) fB lB (a', x', A ++ [q], (t.1, t.2 ++ [A.length]) :: r) := by
  obtain ⟨u1, u2, u3, u4, u5⟩ := hA.2 r.length t plv_mine
  have h0 : ¬ t.2 = [] := fun z => by rw [z] at hll; cases hll
  exact mA_piece hA hW (fun i hi => ⟨(k1 i hi).1, (k1 i hi).2.1, (k1 i hi).2.2.1, rfl, rfl, (k1 i hi).2.2.2⟩) kn (fun c hc hn => (if_neg (fun z => hn (by rw [z]; exact hll))).trans (if_neg (by omega))) (fun c hc => if_pos (Option.some.inj (hc.trans hll.symm))) ((if_neg (by omega)).trans (if_pos rfl)) (fun c hc => if_neg (by omega)) ((if_pos rfl).trans (hl2.symm.trans u3)) (if_neg h0).symm (fun e he => rfl) (if_pos rfl) (fun e he => if_neg (by omega)) (fun _ _ => ⟨rfl, rfl⟩)
/-- numbers stay apart: a piece without children -/
theorem pW_leaf (hW : pW (a, x, A, t :: r)) (hq : q.2.2.1 = []) (ha : A.length + r.length + 1 ≤ a') (ha2 : a' ≤ 24) : pW (a', x', A ++ [q], (t.1, t.2 ++ [A.length]) :: r) := by
  obtain ⟨g1, g2, g3⟩ := pW_tag hW
  obtain ⟨-, -, -, -, ow, w1, w2⟩ := id hW
  exact pW_piece hW (τ := 5000) (ow := ow) w1 w2 (by omega) (fun c hc => by rw [hq] at hc; cases hc) ha ha2
end mPc
theorem xset_at {cs : Nat → Int32} {n u1 v1 kk c : Nat} (hc : c < 95) (hv : v1 < 95) (huv : u1 + kk = v1 + 1) : va_cpy (fun _ => 1) (va_cpy (fun _ => 0) cs 0 (95 * n) 95) 0 (95 * n + u1) kk (95 * n + c) = if pSet (nI (u1 + 32)) (nI (v1 + 32)) c = true then 1 else 0 := by
  by_cases h : u1 ≤ c ∧ c ≤ v1
  · rw [va_cpy, if_pos (by omega), if_pos]
    unfold pSet
    exact decide_eq_true ⟨nI_le (by omega) (by omega), nI_le (by omega) (by omega)⟩
  · rw [va_cpy, if_neg (by omega), va_cpy, if_pos (by omega), if_neg]
    unfold pSet
    intro z
    have z2 := of_decide_eq_true z
    by_cases h1 : u1 ≤ c
    · exact absurd z2.2 (nI_ge (by omega) (by omega))
    · exact absurd z2.1 (nI_ge (by omega) (by omega))
theorem xset_old {cs : Nat → Int32} {n u1 kk i c : Nat} (hi : i < n) (hc : c < 95) : va_cpy (fun _ => 1) (va_cpy (fun _ => 0) cs 0 (95 * n) 95) 0 (95 * n + u1) kk (95 * i + c) = cs (95 * i + c) := by
  rw [va_cpy, if_neg (by omega), va_cpy, if_neg (by omega)]

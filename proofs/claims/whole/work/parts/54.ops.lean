/-! A name loses its version -/
/-- nothing but the storage has changed -/
def xFm (r0 r1 : Nat) (M M' : xM) : Prop := ∀ j, 17 ≤ j → j < M.1 → j ≠ 19 → j ≠ 22 → ¬ xPl r0 r1 M.1 j → M'.2 j = M.2 j
theorem xFm_t {r0 r1 : Nat} {M M1 M2 : xM} (h1 : xFm r0 r1 M M1) (h2 : xFm r0 r1 M1 M2) (hm : M.1 ≤ M1.1) : xFm r0 r1 M M2 := by
  intro j a b c d e
  refine (h2 j a (by omega) c d (fun q => e ?_)).trans (h1 j a b c d e)
  unfold xPl at q ⊢
  omega
theorem xIp_at {f li cu : Nat → Int32} {k sb : Nat} (h : xIp f li cu) (hk : k < 10) (hsb : sb < 128) (hc : cu k = nI sb) : ¬ f sb = -1 ∧ li sb = 1 := by
  rcases h.1 k hk with a | ⟨s, a, b, c, d⟩
  · rw [hc] at a
    exact absurd a.symm (xneg1 (by omega))
  · have := (nI_eq (a := s) (b := sb) (by omega) (by omega)).mp (b.symm.trans hc)
    rw [← this]
    exact ⟨c, d⟩
theorem xNm_at {nm : Nat → Option Nat} {va : Nat → Nat} {cu : Nat → Int32} {k sb : Nat} (h : ∀ i, i < 10 → (cu i = -1 ∧ nm i = none) ∨ ∃ s, s < 128 ∧ cu i = nI s ∧ nm i = some (va s)) (hk : k < 10) (hsb : sb < 128) (hc : cu k = nI sb) : nm k = some (va sb) := by
  rcases h k hk with a | ⟨s, a, b, c⟩
  · rw [hc] at a
    exact absurd a.1.symm (xneg1 (by omega))
  · have := (nI_eq (a := s) (b := sb) (by omega) (by omega)).mp (b.symm.trans hc)
    rw [← this]
    exact c
theorem xNm_no {nm : Nat → Option Nat} {va : Nat → Nat} {cu : Nat → Int32} {k : Nat} (h : ∀ i, i < 10 → (cu i = -1 ∧ nm i = none) ∨ ∃ s, s < 128 ∧ cu i = nI s ∧ nm i = some (va s)) (hk : k < 10) (hc : cu k = -1) : nm k = none := by
  rcases h k hk with a | ⟨s, a, b, c⟩
  · exact a.2
  · rw [hc] at b
    exact absurd b (xneg1 (by omega))
theorem xSt_ret {o : Nat} {M M' : xM} {f li tx te cu le : Nat → Int32} {sn vc : Nat} {va : Nat → Nat} {S : List Nat} {T : List (Int32 × List Nat)} {ov : List Nat} {es op ol oe r0 r1 k sb t0 : Nat} {nm : Nat → Option Nat} (hxn : xn = 16) (h : xSt o M f li tx te cu le sn vc va S T ov es op ol oe r0 r1) (hk : k < 10) (hsb : sb < 128) (hc : cu k = nI sb) (hnm : ∀ i, i < 10 → (cu i = -1 ∧ nm i = none) ∨ ∃ s, s < 128 ∧ cu i = nI s ∧ nm i = some (va s)) (hm : M'.1 = M.1) (hfr : ∀ j, j < M.1 → j ≠ va sb → j ≠ 19 → M'.2 j = M.2 j) (h0 : M.2 (va sb) = .inr (3, [.ref t0, .int (li sb)])) (h1 : M'.2 (va sb) = .inr (3, [.ref t0, .int 0])) (h19 : M'.2 19 = .inl (5, 10, .inr (.inr (.inr (.inr (va_up nm k none)))))) : xSt o M' f (upd li sb 0) tx te (upd cu k (-1)) le sn vc va S T ov es op ol oe r0 r1 ∧ xFm r0 r1 M M' := by
  obtain ⟨hStp, hVer, hNmd, hAbs, hOv, hIp, hInj, hT10, ho3, Bn, hLvl, hBn⟩ := h
  have hu := (xIp_at hIp hk hsb hc).1
  have h52 := hStp.1
  have hpv := (hVer sb hsb hu).1.2
  refine ⟨⟨?_, ?_, ⟨_, h19, xNmd_ret hnm⟩, hAbs, hOv, xIp_drop hIp hk hsb hc, hInj, hT10, ho3, Bn, hLvl, hBn⟩, ?_⟩
  · refine xStp_fr hxn hStp (by omega) (fun j hj h3 => hfr j ?_ (fun q => ?_) ?_)
    · unfold xPl at hj
      omega
    · rw [q] at h3
      exact h3 _ h0
    · unfold xPl at hj
      omega
  · refine xVer_ret hVer hInj hsb hu (by omega) (fun j hj hp hne => hfr j hp.2.1 hne (by omega)) h0 h1
  · intro j a b c d e
    exact hfr j b (fun q => e (by rw [q]; exact hpv)) c

/-! The class's reader: what its cells hold. ow: the owner of a cell; rk: the rank of an owner (1 finished words; a level e: 4e+10 its group, 4e+11 its open branch, 4e+12, 4e+13 that one's needs; a node i: 3i+100 to 3i+102) -/
abbrev xNl : Type := List (List (List Int32)) × List Nat × List (List Int32) × Int32
abbrev xLk : Type := Option (List (List Int32)) × xNl
abbrev xMu : Type := Int64 × Int32 × Int32 × (Nat → Int64)
def lk0 : xLk := (none, [], [], [[]], 1)
theorem xLs_mv {P Q : Nat → Prop} {M M' : xM} {a : Nat} {l : List Nat} (h : xLs P M a l) (hm : M.1 ≤ M'.1) (ha : M'.2 a = M.2 a) (hP : ∀ x, P x → x < M.1 → Q x ∧ M'.2 x = M.2 x) : xLs Q M' a l := by
  obtain ⟨e, mo, cap, h1, h2, h3, h4, h5⟩ := h
  exact ⟨e, mo, cap, ha.trans h1, h2, h3, h4, h5.imp_right (fun q => ⟨(hP e q.1 q.2.2.1).1, q.2.1, Nat.lt_of_lt_of_le q.2.2.1 hm, ((hP e q.1 q.2.2.1).2).trans q.2.2.2⟩)⟩
/-- letters and lengths of strings -/
def cWd (f g : Nat → Int32) (S : List (List Int32)) : Prop := (∀ x, ∃ u, u < 127 ∧ f x = nI u) ∧ ∀ (k : Nat) (s : List Int32), S[k]? = some s → s.length ≤ 12 ∧ g k = nI s.length ∧ ∀ (j : Nat) (c : Int32), s[j]? = some c → f (k * 12 + j) = c
/-- a finished list of strings -/
def cW (M : xM) (ow : Nat → Nat) (a : Nat) (S : List (List Int32)) : Prop :=
  ∃ (lt ln : Nat) (f g : Nat → Int32), (xn ≤ a ∧ a < M.1 ∧ xn ≤ lt ∧ lt < M.1 ∧ xn ≤ ln ∧ ln < M.1) ∧ (ow a = 1 ∧ ow lt = 1 ∧ ow ln = 1) ∧ M.2 a = .inr (8, [.ref lt, .ref ln, .int (nI S.length)]) ∧ M.2 lt = .inl (1, 60, .inl f) ∧ M.2 ln = .inl (0, 5, .inl g) ∧ S.length ≤ 4 ∧ cWd f g S
/-- the words of a part: null or a list -/
def cV (M : xM) (ow : Nat → Nat) (wv : Value) (w : Option (List (List Int32))) : Prop := (w = none ∧ wv = .null) ∨ ∃ (S : List (List Int32)) (a : Nat), w = some S ∧ wv = .ref a ∧ cW M ow a S
/-- a list object of rank T -/
def cLi (M : xM) (ow rk : Nat → Nat) (T a : Nat) (l : List Nat) : Prop := (xn ≤ a ∧ a < M.1 ∧ ow a = a ∧ rk a = T) ∧ xLs (fun x => ow x = a) M a l
/-- needs of ranks T, T + 1 -/
def cNd (M : xM) (ow rk ad : Nat → Nat) (T nd : Nat) (z : xNl) : Prop :=
  ∃ (al pa cu : Nat) (la : List Nat), (xn ≤ nd ∧ nd < M.1 ∧ ow nd = nd ∧ rk nd = T) ∧ M.2 nd = .inr (7, [.ref al, .ref pa, .ref cu, .int z.2.2.2]) ∧ cLi M ow rk T al la ∧ cLi M ow rk (T + 1) pa (z.2.1.map ad) ∧ la.length = z.1.length ∧ (∀ (k a : Nat) (S : List (List Int32)), la[k]? = some a → z.1[k]? = some S → cW M ow a S) ∧ cW M ow cu z.2.2.1
/-- a node of ranks T to T + 2 at the address A -/
def cN (M : xM) (ow rk ad : Nat → Nat) (T A : Nat) (ℓ : xLk) (μ : xMu) (q : xNode) : Prop :=
  ∃ wv : Value, cV M ow wv ℓ.1 ∧ (xn ≤ A ∧ A < M.1 ∧ ow A = A ∧ rk A = T) ∧
  (q.1 = 1 → ∃ z : Int64 × Int64, M.2 A = .inr (10, [.long z.1, .long z.2, .long μ.1, wv]) ∧ cB z q.2.2.2.2.2) ∧
  (q.1 = 2 ∨ q.1 = 3 → M.2 A = .inr (11, [.int (if q.1 = 2 then 1 else 0), .long μ.1, wv])) ∧
  (q.1 = 4 → ∃ (e nd : Nat) (cv : Value), q.2.2.1 = [e] ∧ M.2 A = .inr (9, [.ref (ad e), .int q.2.2.2.1, .int q.2.2.2.2.1, .ref nd, cv, .int μ.2.1, .int μ.2.2.1, wv]) ∧ cNd M ow rk ad (T + 1) nd ℓ.2 ∧ ((q.2.2.2.2.1 = -1 ∧ ∃ cl, cv = .ref cl ∧ (xn ≤ cl ∧ cl < M.1 ∧ ow cl = A) ∧ M.2 cl = .inl (3, 41, .inr (.inl μ.2.2.2))) ∨ (¬ q.2.2.2.2.1 = -1 ∧ cv = .null))) ∧
  (q.1 = 5 → ∃ p nd : Nat, M.2 A = .inr (6, [.ref p, .ref nd, wv]) ∧ cLi M ow rk T p (q.2.2.1.map ad) ∧ cNd M ow rk ad (T + 1) nd ℓ.2) ∧
  (q.1 = 6 → ∃ bl lv : Nat, M.2 A = .inr (5, [.ref bl, .ref lv, wv]) ∧ cLi M ow rk T bl (q.2.2.1.map ad))
/-- an open level -/
def cL (M : xM) (ow rk ad : Nat → Nat) (e g b : Nat) (v : List Nat × List Nat) : Prop :=
  ∃ bl p nd : Nat, (xn ≤ g ∧ g < M.1 ∧ ow g = g ∧ rk g = 4 * e + 10) ∧ M.2 g = .inr (5, [.ref bl, .ref b, .null]) ∧ cLi M ow rk (4 * e + 10) bl (v.1.map ad ++ [b]) ∧ (xn ≤ b ∧ b < M.1 ∧ ow b = b ∧ rk b = 4 * e + 11) ∧ M.2 b = .inr (6, [.ref p, .ref nd, .null]) ∧ cLi M ow rk (4 * e + 11) p (v.2.map ad) ∧ cNd M ow rk ad (4 * e + 12) nd lk0.2
section cFr
variable {M M' : xM} {ow ow' rk rk' ad ad' : Nat → Nat}
theorem cW_fr {a : Nat} {S : List (List Int32)} (h : cW M ow a S) (hm : M.1 ≤ M'.1) (ho : ∀ x, x < M.1 → ow' x = ow x) (hf : ∀ x, x < M.1 → ow x = 1 → M'.2 x = M.2 x) : cW M' ow' a S := by
  obtain ⟨lt, ln, f, g, ⟨h1, h2, h3, h4, h5, h6⟩, ⟨h7, h8, h9⟩, k1, k2, k3, k4, k5⟩ := h
  exact ⟨lt, ln, f, g, ⟨h1, by omega, h3, by omega, h5, by omega⟩, ⟨(ho a h2).trans h7, (ho lt h4).trans h8, (ho ln h6).trans h9⟩, (hf a h2 h7).trans k1, (hf lt h4 h8).trans k2, (hf ln h6 h9).trans k3, k4, k5⟩
theorem cV_fr {wv : Value} {w : Option (List (List Int32))} (h : cV M ow wv w) (hm : M.1 ≤ M'.1) (ho : ∀ x, x < M.1 → ow' x = ow x) (hf : ∀ x, x < M.1 → ow x = 1 → M'.2 x = M.2 x) : cV M' ow' wv w := by
  rcases h with h | ⟨S, a, h1, h2, h3⟩
  · exact Or.inl h
  · exact Or.inr ⟨S, a, h1, h2, cW_fr h3 hm ho hf⟩
theorem cLi_fr {T T' a : Nat} {l : List Nat} (h : cLi M ow rk T a l) (hm : M.1 ≤ M'.1) (ho : ∀ x, x < M.1 → ow' x = ow x) (hk : ∀ y, y < M.1 → rk y = T → rk' y = T') (hf : ∀ x, x < M.1 → rk (ow x) = T → M'.2 x = M.2 x) : cLi M' ow' rk' T' a l := by
  obtain ⟨⟨h1, h2, h3, h4⟩, h5⟩ := h
  exact ⟨⟨h1, by omega, (ho a h2).trans h3, hk a h2 h4⟩, xLs_mv h5 hm (hf a h2 (by rw [h3]; exact h4)) (fun x hx hlt => ⟨(ho x hlt).trans hx, hf x hlt (by rw [hx]; exact h4)⟩)⟩
theorem xmap_ad {l : List Nat} (h : ∀ c ∈ l, ad' c = ad c) : l.map ad' = l.map ad := List.map_congr_left h
theorem cNd_fr {T T' nd : Nat} {z : xNl} (h : cNd M ow rk ad T nd z) (hm : M.1 ≤ M'.1) (ho : ∀ x, x < M.1 → ow' x = ow x) (hk : ∀ y, y < M.1 → rk y = T → rk' y = T') (hk2 : ∀ y, y < M.1 → rk y = T + 1 → rk' y = T' + 1) (hf : ∀ x, x < M.1 → rk (ow x) = T ∨ rk (ow x) = T + 1 ∨ ow x = 1 → M'.2 x = M.2 x) (ha : ∀ c ∈ z.2.1, ad' c = ad c) : cNd M' ow' rk' ad' T' nd z := by
  obtain ⟨al, pa, cu, la, ⟨h1, h2, h3, h4⟩, k1, k2, k3, k4, k5, k6⟩ := h
  refine ⟨al, pa, cu, la, ⟨h1, by omega, (ho nd h2).trans h3, hk nd h2 h4⟩, (hf nd h2 (Or.inl (by rw [h3]; exact h4))).trans k1, cLi_fr k2 hm ho hk (fun x hx q => hf x hx (Or.inl q)), ?_, k4, fun k a S q1 q2 => cW_fr (k5 k a S q1 q2) hm ho (fun x hx q => hf x hx (Or.inr (Or.inr q))), cW_fr k6 hm ho (fun x hx q => hf x hx (Or.inr (Or.inr q)))⟩
  rw [xmap_ad ha]
  exact cLi_fr k3 hm ho hk2 (fun x hx q => hf x hx (Or.inr (Or.inl q)))
theorem cN_fr {T T' A : Nat} {ℓ : xLk} {μ : xMu} {q : xNode} (h : cN M ow rk ad T A ℓ μ q) (hm : M.1 ≤ M'.1) (ho : ∀ x, x < M.1 → ow' x = ow x) (hk : ∀ y k, y < M.1 → k < 3 → rk y = T + k → rk' y = T' + k) (hf : ∀ x, x < M.1 → (T ≤ rk (ow x) ∧ rk (ow x) < T + 3) ∨ ow x = 1 → M'.2 x = M.2 x) (ha : ∀ c ∈ q.2.2.1, ad' c = ad c) (hb : ∀ c ∈ ℓ.2.2.1, ad' c = ad c) : cN M' ow' rk' ad' T' A ℓ μ q := by
  obtain ⟨wv, hv, ⟨h1, h2, h3, h4⟩, k1, k2, k4, k5, k6⟩ := h
  have hA : M'.2 A = M.2 A := hf A h2 (Or.inl (by rw [h3, h4]; omega))
  have f1 : ∀ x, x < M.1 → ow x = 1 → M'.2 x = M.2 x := fun x hx z => hf x hx (Or.inr z)
  have f0 : ∀ x, x < M.1 → rk (ow x) = T → M'.2 x = M.2 x := fun x hx z => hf x hx (Or.inl (by omega))
  have f2 : ∀ x, x < M.1 → rk (ow x) = T + 1 ∨ rk (ow x) = T + 1 + 1 ∨ ow x = 1 → M'.2 x = M.2 x := fun x hx z => hf x hx (by
    rcases z with z | z | z
    · exact Or.inl (by omega)
    · exact Or.inl (by omega)
    · exact Or.inr z)
  have r0 : ∀ y, y < M.1 → rk y = T → rk' y = T' := fun y hy z => hk y 0 hy (by decide) z
  have r1 : ∀ y, y < M.1 → rk y = T + 1 → rk' y = T' + 1 := fun y hy z => hk y 1 hy (by decide) z
  have r2 : ∀ y, y < M.1 → rk y = T + 1 + 1 → rk' y = T' + 1 + 1 := fun y hy z => hk y 2 hy (by decide) z
  refine ⟨wv, cV_fr hv hm ho f1, ⟨h1, by omega, (ho A h2).trans h3, r0 A h2 h4⟩, fun z => ?_, fun z => hA.trans (k2 z), fun z => ?_, fun z => ?_, fun z => ?_⟩
  · obtain ⟨y, e1, e2⟩ := k1 z
    exact ⟨y, hA.trans e1, e2⟩
  · obtain ⟨e, nd, cv, e1, e2, e3, e4⟩ := k4 z
    refine ⟨e, nd, cv, e1, ?_, cNd_fr e3 hm ho r1 r2 f2 hb, ?_⟩
    · rw [ha e (by rw [e1]; simp)]
      exact hA.trans e2
    · rcases e4 with ⟨e5, cl, e6, ⟨e7, e8, e9⟩, e10⟩ | e5
      · exact Or.inl ⟨e5, cl, e6, ⟨e7, Nat.lt_of_lt_of_le e8 hm, (ho cl e8).trans e9⟩, (f0 cl e8 (by rw [e9]; exact h4)).trans e10⟩
      · exact Or.inr e5
  · obtain ⟨p, nd, e1, e2, e3⟩ := k5 z
    refine ⟨p, nd, hA.trans e1, ?_, cNd_fr e3 hm ho r1 r2 f2 hb⟩
    rw [xmap_ad ha]
    exact cLi_fr e2 hm ho r0 f0
  · obtain ⟨bl, lv, e1, e2⟩ := k6 z
    refine ⟨bl, lv, hA.trans e1, ?_⟩
    rw [xmap_ad ha]
    exact cLi_fr e2 hm ho r0 f0
theorem cL_fr {e g b : Nat} {v : List Nat × List Nat} (h : cL M ow rk ad e g b v) (hm : M.1 ≤ M'.1) (ho : ∀ x, x < M.1 → ow' x = ow x) (hk : ∀ y, y < M.1 → 4 * e + 10 ≤ rk y → rk y < 4 * e + 14 → rk' y = rk y) (hf : ∀ x, x < M.1 → (4 * e + 10 ≤ rk (ow x) ∧ rk (ow x) < 4 * e + 14) ∨ ow x = 1 → M'.2 x = M.2 x) (h1 : ∀ c ∈ v.1, ad' c = ad c) (h2 : ∀ c ∈ v.2, ad' c = ad c) : cL M' ow' rk' ad' e g b v := by
  obtain ⟨bl, p, nd, ⟨g1, g2, g3, g4⟩, k1, k2, ⟨b1, b2, b3, b4⟩, k3, k4, k5⟩ := h
  refine ⟨bl, p, nd, ⟨g1, by omega, (ho g g2).trans g3, (hk g g2 (by omega) (by omega)).trans g4⟩, (hf g g2 (Or.inl (by rw [g3]; omega))).trans k1, ?_, ⟨b1, by omega, (ho b b2).trans b3, (hk b b2 (by omega) (by omega)).trans b4⟩, (hf b b2 (Or.inl (by rw [b3]; omega))).trans k3, ?_, ?_⟩
  · rw [xmap_ad h1]
    exact cLi_fr k2 hm ho (fun y hy z => (hk y hy (by omega) (by omega)).trans z) (fun x hx z => hf x hx (Or.inl (by omega)))
  · rw [xmap_ad h2]
    exact cLi_fr k4 hm ho (fun y hy z => (hk y hy (by omega) (by omega)).trans z) (fun x hx z => hf x hx (Or.inl (by omega)))
  · exact cNd_fr k5 hm ho (fun y hy z => (hk y hy (by omega) (by omega)).trans z) (fun y hy z => (hk y hy (by omega) (by omega)).trans z) (fun x hx z => hf x hx (by
      rcases z with z | z | z
      · exact Or.inl (by omega)
      · exact Or.inl (by omega)
      · exact Or.inr z)) (fun c hc => absurd hc (by simp [lk0]))
end cFr
/-- what is new: owners from n on -/
def owN (ow : Nat → Nat) (n k j w : Nat) : Nat → Nat := fun x => if x < n then ow x else if x < n + k then x else if x < n + j then 1 else w
theorem owN_o {ow : Nat → Nat} {n k j w x : Nat} (h : x < n) : owN ow n k j w x = ow x := if_pos h
theorem owN_s {ow : Nat → Nat} {n k j w x : Nat} (h1 : n ≤ x) (h2 : x < n + k) : owN ow n k j w x = x := by
  unfold owN
  rw [if_neg (by omega), if_pos h2]
theorem owN_1 {ow : Nat → Nat} {n k j w x : Nat} (h1 : n + k ≤ x) (h2 : x < n + j) : owN ow n k j w x = 1 := by
  unfold owN
  rw [if_neg (by omega), if_neg (by omega), if_pos h2]
theorem owN_w {ow : Nat → Nat} {n k j w x : Nat} (h0 : k ≤ j) (h1 : n + j ≤ x) : owN ow n k j w x = w := by
  unfold owN
  rw [if_neg (by omega), if_neg (by omega), if_neg (by omega)]
def rkN (rk : Nat → Nat) (n : Nat) (l : List Nat) : Nat → Nat := fun y => if y < n then rk y else l.getD (y - n) 0
theorem rkN_o {rk : Nat → Nat} {n y : Nat} {l : List Nat} (h : y < n) : rkN rk n l y = rk y := if_pos h
theorem rkN_n {rk : Nat → Nat} {n : Nat} {l : List Nat} (k : Nat) : rkN rk n l (n + k) = l.getD k 0 := by
  unfold rkN
  rw [if_neg (by omega), Nat.add_sub_cancel_left]
/-- ranks A, A + 1, A + 2 become B, B + 1, B + 2 -/
def rtg (A B r : Nat) : Nat := if A ≤ r ∧ r < A + 3 then r - A + B else r
theorem rtg_i {A B r k : Nat} (h : r = A + k) (hk : k < 3) : rtg A B r = B + k := by
  unfold rtg
  rw [if_pos (by omega)]
  omega
theorem rtg_o {A B r : Nat} (h : r < A ∨ A + 3 ≤ r) : rtg A B r = r := if_neg (by omega)
/-- needs as they are made -/
theorem cNd_new {M : xM} {ow rk ad : Nat → Nat} {T nd : Nat} {m1 m2 : Int32} (hx : xn ≤ nd) (hm : nd + 6 ≤ M.1) (o0 : ow nd = nd) (o1 : ow (nd + 1) = nd + 1) (o2 : ow (nd + 2) = nd + 2) (o3 : ow (nd + 3) = 1) (o4 : ow (nd + 4) = 1) (o5 : ow (nd + 5) = 1) (r0 : rk nd = T) (r1 : rk (nd + 1) = T) (r2 : rk (nd + 2) = T + 1) (k0 : M.2 nd = .inr (7, [.ref (nd + 1), .ref (nd + 2), .ref (nd + 3), .int 1])) (k1 : M.2 (nd + 1) = .inr (2, [.ref 1, .int 0, .int m1])) (k2 : M.2 (nd + 2) = .inr (2, [.ref 1, .int 0, .int m2])) (k3 : M.2 (nd + 3) = .inr (8, [.ref (nd + 4), .ref (nd + 5), .int 1])) (k4 : M.2 (nd + 4) = .inl (1, 60, .inl (fun _ => 0))) (k5 : M.2 (nd + 5) = .inl (0, 5, .inl (fun _ => 0))) : cNd M ow rk ad T nd lk0.2 := by
  refine ⟨nd + 1, nd + 2, nd + 3, [], ⟨hx, by omega, o0, r0⟩, k0, ⟨⟨by omega, by omega, o1, r1⟩, xLs_new k1⟩, ⟨⟨by omega, by omega, o2, r2⟩, xLs_new k2⟩, rfl, fun k a S h => absurd h (by simp), nd + 4, nd + 5, fun _ => 0, fun _ => 0, ⟨by omega, by omega, by omega, by omega, by omega, by omega⟩, ⟨o3, o4, o5⟩, k3, k4, k5, by decide, fun _ => ⟨0, by decide, show (0 : Int32) = nI 0 by decide⟩, fun k s hs => ?_⟩
  have hs' : [([] : List Int32)][k]? = some s := hs
  match k, hs' with
  | 0, h => 
    have h' : [] = s := Option.some.inj h
    rw [← h']
    exact ⟨by decide, by decide, fun j c hc => by simp at hc⟩
  | k + 1, h => simp at h

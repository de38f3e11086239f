theorem xj_ldcw {G : xG} {Y : xY} {d ce se cells slots pc : Nat} {L : List (Nat × Value)} {st : List Value} {M : xM} {Post : Option Value → xM → Prop} {idx : Nat} {v : Int32} (hd : decode Y.2.1 pc = .ok (.ldc_w idx, 3)) (hw : Cond.constant Y.1.cls idx v ∈ lw_tbl) (k : XJ G Y d ce se cells slots (pc + 3) L (.int v :: st) M Post) : XJ G Y d ce se cells slots pc L st M Post := by
  intro p e R s m args below meth c H locs Q ls hC hR hq hl kk
  exact lv_ldcw hC.2.1 hC.2.2.1 (xown hC) (xword hC hw rfl _) hd (k p e R s m args below meth c H locs Q ls hC hR hq hl kk)
theorem tz_gt : ∀ t, t < 32 → ((65536 < nI (2 ^ t - 1) ↔ 17 ≤ t) ∧ (256 < nI (2 ^ t - 1) ↔ 9 ≤ t) ∧ (16 < nI (2 ^ t - 1) ↔ 5 ≤ t) ∧ (4 < nI (2 ^ t - 1) ↔ 3 ≤ t) ∧ (0 < nI (2 ^ t - 1) ↔ 1 ≤ t)) := by decide +kernel
theorem tz_shr {t s : Nat} {y : Int32} (ht : t < 32) (hs : s ≤ t) (hy : ((y.toUInt32 &&& Int32.toUInt32 31).toBitVec % 32).toNat = s) : ((nI (2 ^ t - 1)).toUInt32 >>> (y.toUInt32 &&& Int32.toUInt32 31)).toInt32 = nI (2 ^ (t - s) - 1) := by
  have : 2 ^ t ≤ 2 ^ 31 := Nat.pow_le_pow_right (by decide) (by omega)
  rw [pk_ushrN (by omega) y s hy, tz_div hs]
theorem xincN {c : Nat} {z : Int} (d : Nat) (h : Int32.ofInt z = nI d) : nI c + Int32.ofInt z = nI (c + d) := by rw [h]; exact nI_add _ _
theorem xdecN {c : Nat} {z : Int} (d : Nat) (h : Int32.ofInt z = - nI d) (hd : d ≤ c) : nI c + Int32.ofInt z = nI (c - d) := by rw [h, ← Int32.sub_eq_add_neg]; exact pk_sub hd
set_option maxRecDepth 20000 in
theorem tz74 {G : xG} {M : xM} {d ce se cells slots : Nat} (hcc : cells ≤ ce) (hss : slots ≤ se) {c t : Nat} (h1 : 1 ≤ t) (h2 : t ≤ 2) : XJ G Y18_48 d ce se cells slots 74 [(1, .int (nI c)), (0, .int (nI (2 ^ t - 1)))] [] M (fun v M' => v = some (.int (nI (c + t - 1))) ∧ M' = M) := by
  refine xj_iload_n (i := 1) d18_48_74 rfl rfl ?_
  refine xj_iload_n (i := 0) d18_48_75 rfl rfl ?_
  refine xj_iconst (v := 1) d18_48_76 (by decide) ?_
  refine xj_iushr (v := nI (2 ^ (t - 1) - 1)) d18_48_77 (tz_shr (by omega) (by omega) (by decide)) ?_
  refine xj_iadd (v := nI (c + (2 ^ (t - 1) - 1))) d18_48_78 (nI_add _ _) ?_
  have e : c + (2 ^ (t - 1) - 1) = c + t - 1 := by
    rcases (by omega : t = 1 ∨ t = 2) with rfl | rfl <;> simp
  exact xj_ret d18_48_79 hcc hss rfl ⟨by rw [← e], rfl⟩
set_option maxRecDepth 20000 in
theorem tz62 {G : xG} {M : xM} {d ce se cells slots : Nat} (hcc : cells ≤ ce) (hss : slots ≤ se) {c t : Nat} (h1 : 1 ≤ t) (h2 : t ≤ 4) : XJ G Y18_48 d ce se cells slots 62 [(1, .int (nI c)), (0, .int (nI (2 ^ t - 1)))] [] M (fun v M' => v = some (.int (nI (c + t - 1))) ∧ M' = M) := by
  by_cases hq : 3 ≤ t
  · skip
    refine xj_iload_n (i := 0) d18_48_62 rfl rfl ?_
    refine xj_iconst (v := 4) d18_48_63 (by decide) ?_
    refine xj_icmp_le (tgt := 74) d18_48_64 rfl (fun h => absurd h (Int32.not_le.mpr ((tz_gt t (by omega)).2.2.2.1.mpr (by omega)))) (fun _ => ?_)
    refine xj_iinc (v := nI (c + 2)) (L' := [(1, .int (nI (c + 2))), (0, .int (nI (2 ^ t - 1)))]) d18_48_67 rfl (xincN 2 (by decide)) (by decide) rfl ?_
    refine xj_iload_n (i := 0) d18_48_70 rfl rfl ?_
    refine xj_iconst (v := 2) d18_48_71 (by decide) ?_
    refine xj_iushr (v := nI (2 ^ (t - 2) - 1)) d18_48_72 (tz_shr (by omega) (by omega) (by decide)) ?_
    refine xj_istore_n (i := 0) (L' := [(0, .int (nI (2 ^ (t - 2) - 1))), (1, .int (nI (c + 2)))]) d18_48_73 rfl (by decide) rfl ?_
    refine xj_sub (L' := [(1, .int (nI (c + 2))), (0, .int (nI (2 ^ (t - 2) - 1)))]) (fun q hq => by simp only [List.mem_cons, List.not_mem_nil, or_false] at hq ⊢; rcases hq with rfl | rfl <;> simp) ?_
    have h9 := tz74 hcc hss (G := G) (M := M) (d := d) (c := c + 2) (t := t - 2) (by omega) (by omega)
    rw [show c + 2 + (t - 2) - 1 = c + t - 1 by omega] at h9
    exact h9
  · skip
    refine xj_iload_n (i := 0) d18_48_62 rfl rfl ?_
    refine xj_iconst (v := 4) d18_48_63 (by decide) ?_
    refine xj_icmp_le (tgt := 74) d18_48_64 rfl (fun _ => ?_) (fun h => absurd (Int32.not_lt.mp (fun q => absurd ((tz_gt t (by omega)).2.2.2.1.mp q) (by omega))) h)
    exact tz74 hcc hss h1 (by omega)
set_option maxRecDepth 20000 in
theorem tz49 {G : xG} {M : xM} {d ce se cells slots : Nat} (hcc : cells ≤ ce) (hss : slots ≤ se) {c t : Nat} (h1 : 1 ≤ t) (h2 : t ≤ 8) : XJ G Y18_48 d ce se cells slots 49 [(1, .int (nI c)), (0, .int (nI (2 ^ t - 1)))] [] M (fun v M' => v = some (.int (nI (c + t - 1))) ∧ M' = M) := by
  by_cases hq : 5 ≤ t
  · skip
    refine xj_iload_n (i := 0) d18_48_49 rfl rfl ?_
    refine xj_bipush (v := 16) d18_48_50 (by decide) ?_
    refine xj_icmp_le (tgt := 62) d18_48_52 rfl (fun h => absurd h (Int32.not_le.mpr ((tz_gt t (by omega)).2.2.1.mpr (by omega)))) (fun _ => ?_)
    refine xj_iinc (v := nI (c + 4)) (L' := [(1, .int (nI (c + 4))), (0, .int (nI (2 ^ t - 1)))]) d18_48_55 rfl (xincN 4 (by decide)) (by decide) rfl ?_
    refine xj_iload_n (i := 0) d18_48_58 rfl rfl ?_
    refine xj_iconst (v := 4) d18_48_59 (by decide) ?_
    refine xj_iushr (v := nI (2 ^ (t - 4) - 1)) d18_48_60 (tz_shr (by omega) (by omega) (by decide)) ?_
    refine xj_istore_n (i := 0) (L' := [(0, .int (nI (2 ^ (t - 4) - 1))), (1, .int (nI (c + 4)))]) d18_48_61 rfl (by decide) rfl ?_
    refine xj_sub (L' := [(1, .int (nI (c + 4))), (0, .int (nI (2 ^ (t - 4) - 1)))]) (fun q hq => by simp only [List.mem_cons, List.not_mem_nil, or_false] at hq ⊢; rcases hq with rfl | rfl <;> simp) ?_
    have h9 := tz62 hcc hss (G := G) (M := M) (d := d) (c := c + 4) (t := t - 4) (by omega) (by omega)
    rw [show c + 4 + (t - 4) - 1 = c + t - 1 by omega] at h9
    exact h9
  · skip
    refine xj_iload_n (i := 0) d18_48_49 rfl rfl ?_
    refine xj_bipush (v := 16) d18_48_50 (by decide) ?_
    refine xj_icmp_le (tgt := 62) d18_48_52 rfl (fun _ => ?_) (fun h => absurd (Int32.not_lt.mp (fun q => absurd ((tz_gt t (by omega)).2.2.1.mp q) (by omega))) h)
    exact tz62 hcc hss h1 (by omega)
set_option maxRecDepth 20000 in
theorem tz34 {G : xG} {M : xM} {d ce se cells slots : Nat} (hcc : cells ≤ ce) (hss : slots ≤ se) {c t : Nat} (h1 : 1 ≤ t) (h2 : t ≤ 16) : XJ G Y18_48 d ce se cells slots 34 [(1, .int (nI c)), (0, .int (nI (2 ^ t - 1)))] [] M (fun v M' => v = some (.int (nI (c + t - 1))) ∧ M' = M) := by
  by_cases hq : 9 ≤ t
  · skip
    refine xj_iload_n (i := 0) d18_48_34 rfl rfl ?_
    refine xj_sipush (v := 256) d18_48_35 (by decide) ?_
    refine xj_icmp_le (tgt := 49) d18_48_38 rfl (fun h => absurd h (Int32.not_le.mpr ((tz_gt t (by omega)).2.1.mpr (by omega)))) (fun _ => ?_)
    refine xj_iinc (v := nI (c + 8)) (L' := [(1, .int (nI (c + 8))), (0, .int (nI (2 ^ t - 1)))]) d18_48_41 rfl (xincN 8 (by decide)) (by decide) rfl ?_
    refine xj_iload_n (i := 0) d18_48_44 rfl rfl ?_
    refine xj_bipush (v := 8) d18_48_45 (by decide) ?_
    refine xj_iushr (v := nI (2 ^ (t - 8) - 1)) d18_48_47 (tz_shr (by omega) (by omega) (by decide)) ?_
    refine xj_istore_n (i := 0) (L' := [(0, .int (nI (2 ^ (t - 8) - 1))), (1, .int (nI (c + 8)))]) d18_48_48 rfl (by decide) rfl ?_
    refine xj_sub (L' := [(1, .int (nI (c + 8))), (0, .int (nI (2 ^ (t - 8) - 1)))]) (fun q hq => by simp only [List.mem_cons, List.not_mem_nil, or_false] at hq ⊢; rcases hq with rfl | rfl <;> simp) ?_
    have h9 := tz49 hcc hss (G := G) (M := M) (d := d) (c := c + 8) (t := t - 8) (by omega) (by omega)
    rw [show c + 8 + (t - 8) - 1 = c + t - 1 by omega] at h9
    exact h9
  · skip
    refine xj_iload_n (i := 0) d18_48_34 rfl rfl ?_
    refine xj_sipush (v := 256) d18_48_35 (by decide) ?_
    refine xj_icmp_le (tgt := 49) d18_48_38 rfl (fun _ => ?_) (fun h => absurd (Int32.not_lt.mp (fun q => absurd ((tz_gt t (by omega)).2.1.mp q) (by omega))) h)
    exact tz49 hcc hss h1 (by omega)
set_option maxRecDepth 20000 in
theorem tz19 {G : xG} {M : xM} {d ce se cells slots : Nat} (hcc : cells ≤ ce) (hss : slots ≤ se) {c t : Nat} (h1 : 1 ≤ t) (h2 : t ≤ 31) : XJ G Y18_48 d ce se cells slots 19 [(1, .int (nI c)), (0, .int (nI (2 ^ t - 1)))] [] M (fun v M' => v = some (.int (nI (c + t - 1))) ∧ M' = M) := by
  by_cases hq : 17 ≤ t
  · skip
    refine xj_iload_n (i := 0) d18_48_19 rfl rfl ?_
    refine xj_ldcw (v := 65536) d18_48_20 w952 ?_
    refine xj_icmp_le (tgt := 34) d18_48_23 rfl (fun h => absurd h (Int32.not_le.mpr ((tz_gt t (by omega)).1.mpr (by omega)))) (fun _ => ?_)
    refine xj_iinc (v := nI (c + 16)) (L' := [(1, .int (nI (c + 16))), (0, .int (nI (2 ^ t - 1)))]) d18_48_26 rfl (xincN 16 (by decide)) (by decide) rfl ?_
    refine xj_iload_n (i := 0) d18_48_29 rfl rfl ?_
    refine xj_bipush (v := 16) d18_48_30 (by decide) ?_
    refine xj_iushr (v := nI (2 ^ (t - 16) - 1)) d18_48_32 (tz_shr (by omega) (by omega) (by decide)) ?_
    refine xj_istore_n (i := 0) (L' := [(0, .int (nI (2 ^ (t - 16) - 1))), (1, .int (nI (c + 16)))]) d18_48_33 rfl (by decide) rfl ?_
    refine xj_sub (L' := [(1, .int (nI (c + 16))), (0, .int (nI (2 ^ (t - 16) - 1)))]) (fun q hq => by simp only [List.mem_cons, List.not_mem_nil, or_false] at hq ⊢; rcases hq with rfl | rfl <;> simp) ?_
    have h9 := tz34 hcc hss (G := G) (M := M) (d := d) (c := c + 16) (t := t - 16) (by omega) (by omega)
    rw [show c + 16 + (t - 16) - 1 = c + t - 1 by omega] at h9
    exact h9
  · skip
    refine xj_iload_n (i := 0) d18_48_19 rfl rfl ?_
    refine xj_ldcw (v := 65536) d18_48_20 w952 ?_
    refine xj_icmp_le (tgt := 34) d18_48_23 rfl (fun _ => ?_) (fun h => absurd (Int32.not_lt.mp (fun q => absurd ((tz_gt t (by omega)).1.mp q) (by omega))) h)
    exact tz34 hcc hss h1 (by omega)
set_option maxRecDepth 20000 in
theorem tzI {G : xG} (hg : xGood G) {M : xM} {x : Int32} {p : Nat} (hp : p < 32) (h1 : ib x p = true) (h2 : ∀ j, j < p → ib x j = false) : XC G Y18_48 (some .int) 0 0 0 [.int x] M (fun v M' => v = some (.int (nI p)) ∧ M' = M) := by
  by_cases hp0 : p = 0
  · refine xc_of hg (by decide) (Nat.le_of_ble_eq_true rfl) (Or.inl ⟨rfl, rfl, fun v M' h => ⟨_, h.1⟩⟩) ?_
    refine xj_iload_n (i := 0) d18_48_0 rfl rfl ?_
    refine xj_iconst (v := (-1)) d18_48_1 (by decide) ?_
    refine xj_ixor (v := x ^^^ (-1)) d18_48_2 rfl ?_
    refine xj_iload_n (i := 0) d18_48_3 rfl rfl ?_
    refine xj_iconst (v := 1) d18_48_4 (by decide) ?_
    refine xj_isub (v := x - 1) d18_48_5 rfl ?_
    refine xj_iand (v := (x ^^^ (-1)) &&& (x - 1)) d18_48_6 rfl ?_
    rw [tz_int hp h1 h2]
    refine xj_istore_n (i := 0) (L' := [(0, .int (nI (2 ^ p - 1)))]) d18_48_7 rfl (by decide) rfl ?_
    refine xj_iload_n (i := 0) d18_48_8 rfl rfl ?_
    refine xj_if_gt (tgt := 17) d18_48_9 rfl (fun h => absurd h (by rw [hp0]; decide)) (fun _ => ?_)
    refine xj_iload_n (i := 0) d18_48_12 rfl rfl ?_
    refine xj_bipush (v := 32) d18_48_13 (by decide) ?_
    refine xj_iand (v := 0) d18_48_15 (by rw [hp0]; decide) ?_
    exact xj_ret d18_48_16 (by omega) (by omega) rfl ⟨by rw [hp0], rfl⟩
  · refine xc_of hg (by decide) (Nat.le_of_ble_eq_true rfl) (Or.inl ⟨rfl, rfl, fun v M' h => ⟨_, h.1⟩⟩) ?_
    refine xj_iload_n (i := 0) d18_48_0 rfl rfl ?_
    refine xj_iconst (v := (-1)) d18_48_1 (by decide) ?_
    refine xj_ixor (v := x ^^^ (-1)) d18_48_2 rfl ?_
    refine xj_iload_n (i := 0) d18_48_3 rfl rfl ?_
    refine xj_iconst (v := 1) d18_48_4 (by decide) ?_
    refine xj_isub (v := x - 1) d18_48_5 rfl ?_
    refine xj_iand (v := (x ^^^ (-1)) &&& (x - 1)) d18_48_6 rfl ?_
    rw [tz_int hp h1 h2]
    refine xj_istore_n (i := 0) (L' := [(0, .int (nI (2 ^ p - 1)))]) d18_48_7 rfl (by decide) rfl ?_
    refine xj_iload_n (i := 0) d18_48_8 rfl rfl ?_
    refine xj_if_gt (tgt := 17) d18_48_9 rfl (fun _ => ?_) (fun h => absurd ((tz_gt p (by omega)).2.2.2.2.mpr (by omega)) h)
    refine xj_iconst (v := 1) d18_48_17 (by decide) ?_
    refine xj_istore_n (i := 1) (L' := [(1, .int 1), (0, .int (nI (2 ^ p - 1)))]) d18_48_18 rfl (by decide) rfl ?_
    have h9 := tz19 (Nat.le_refl 0) (Nat.le_refl 0) (G := G) (M := M) (d := 0) (c := 1) (t := p) (by omega) (by omega)
    rw [show 1 + p - 1 = p by omega] at h9
    exact h9
set_option maxRecDepth 20000 in
/-- the lowest place of a set -/
theorem tzL {G : xG} (hg : xGood G) {M : xM} {l : Int64} {p : Nat} (hp : p < 64) (h1 : lb l p = true) (h2 : ∀ j, j < p → lb l j = false) : XC G Y20_49 (some .int) 1 0 0 [.long l] M (fun v M' => v = some (.int (nI p)) ∧ M' = M) := by
  by_cases h32 : p < 32
  · have hx : ¬ l.toInt32 = 0 := fun q => by
      have := ib_lo l h32
      rw [q, h1, show (0 : Int32) = nI 0 from by decide, ib_nI (by decide), Nat.zero_testBit] at this
      cases this
    refine xc_of hg (by decide) (Nat.le_of_ble_eq_true rfl) (Or.inl ⟨rfl, rfl, fun v M' h => ⟨_, h.1⟩⟩) ?_
    refine xj_lload_n (i := 0) d20_49_0 rfl rfl ?_
    refine xj_l2i (v := l.toInt32) d20_49_1 rfl ?_
    refine xj_istore_n (i := 2) (L' := [(2, .int l.toInt32), (0, .long l)]) d20_49_2 rfl (by decide) rfl ?_
    refine xj_iload_n (i := 2) d20_49_3 rfl rfl ?_
    refine xj_if_ne (tgt := 21) d20_49_4 rfl (fun _ => ?_) (fun h => absurd h hx)
    refine xj_iload_n (i := 2) d20_49_21 rfl rfl ?_
    refine xj_callS (rest := []) (As := [.int l.toInt32]) (tzI hg h32 (by rw [ib_lo l h32]; exact h1) (fun j hj => by rw [ib_lo l (by omega)]; exact h2 j hj)) d20_49_22 wd18_48 w950 (Or.inl w949) rfl rfl (Nat.le_of_ble_eq_true rfl) (by omega) (by omega) (by omega) ?_
    rintro v9 M' ⟨rfl, hm9⟩
    subst M'
    exact xj_ret d20_49_25 (by omega) (by omega) rfl ⟨rfl, rfl⟩
  · have hx : l.toInt32 = 0 := ib_z fun j hj => by rw [ib_lo l hj]; exact h2 j (by omega)
    refine xc_of hg (by decide) (Nat.le_of_ble_eq_true rfl) (Or.inl ⟨rfl, rfl, fun v M' h => ⟨_, h.1⟩⟩) ?_
    refine xj_lload_n (i := 0) d20_49_0 rfl rfl ?_
    refine xj_l2i (v := l.toInt32) d20_49_1 rfl ?_
    refine xj_istore_n (i := 2) (L' := [(2, .int l.toInt32), (0, .long l)]) d20_49_2 rfl (by decide) rfl ?_
    refine xj_iload_n (i := 2) d20_49_3 rfl rfl ?_
    refine xj_if_ne (tgt := 21) d20_49_4 rfl (fun h => absurd hx h) (fun _ => ?_)
    refine xj_bipush (v := 32) d20_49_7 (by decide) ?_
    refine xj_lload_n (i := 0) d20_49_9 rfl rfl ?_
    refine xj_bipush (v := 32) d20_49_10 (by decide) ?_
    refine xj_lushr (v := ((l).toUInt64 >>> ((32 : Int32).toInt64.toUInt64 &&& Int64.toUInt64 63)).toInt64) d20_49_12 rfl ?_
    refine xj_l2i (v := (((l).toUInt64 >>> ((32 : Int32).toInt64.toUInt64 &&& Int64.toUInt64 63)).toInt64).toInt32) d20_49_13 rfl ?_
    refine xj_callS (rest := [.int 32]) (As := [.int ((((l).toUInt64 >>> ((32 : Int32).toInt64.toUInt64 &&& Int64.toUInt64 63)).toInt64).toInt32)]) (tzI hg (show p - 32 < 32 by omega) (by rw [ib_hi l (by omega), show 32 + (p - 32) = p by omega]; exact h1) (fun j hj => by rw [ib_hi l (by omega)]; exact h2 _ (by omega))) d20_49_14 wd18_48 w950 (Or.inl w949) rfl rfl (Nat.le_of_ble_eq_true rfl) (by omega) (by omega) (by omega) ?_
    rintro v9 M' ⟨rfl, hm9⟩
    subst M'
    refine xj_iadd (v := nI p) d20_49_17 (by rw [show (32 : Int32) = nI 32 from by decide, nI_add, show 32 + (p - 32) = p by omega]) ?_
    refine xj_goto (tgt := 25) d20_49_18 rfl ?_
    exact xj_ret d20_49_25 (by omega) (by omega) rfl ⟨rfl, rfl⟩
theorem nz_shr {k s p : Nat} {y : Int32} (hk : k < 2 ^ 31) (hy : ((y.toUInt32 &&& Int32.toUInt32 31).toBitVec % 32).toNat = s) : ((nI k).toUInt32 >>> (y.toUInt32 &&& Int32.toUInt32 31)).toInt32 = nI (k / 2 ^ s) := pk_ushrN (by omega) y s hy
theorem nz_dv {k p s : Nat} (hs : s ≤ p) (h1 : 2 ^ p ≤ k) (h2 : k < 2 ^ (p + 1)) : 2 ^ (p - s) ≤ k / 2 ^ s ∧ k / 2 ^ s < 2 ^ (p - s + 1) := by
  have hpos : 0 < 2 ^ s := Nat.pow_pos (by decide)
  have e1 : 2 ^ p = 2 ^ (p - s) * 2 ^ s := by rw [← Nat.pow_add]; congr 1; omega
  have e2 : 2 ^ (p + 1) = 2 ^ (p - s + 1) * 2 ^ s := by rw [← Nat.pow_add]; congr 1; omega
  rw [e1] at h1
  rw [e2] at h2
  exact ⟨(Nat.le_div_iff_mul_le hpos).mpr h1, (Nat.div_lt_iff_lt_mul hpos).mpr h2⟩
theorem nz_le {k p s : Nat} (h : s ≤ p) (h1 : 2 ^ p ≤ k) : 2 ^ s ≤ k := Nat.le_trans (Nat.pow_le_pow_right (by decide) h) h1
theorem nz_lt {k p s : Nat} (h : p < s) (h2 : k < 2 ^ (p + 1)) : k < 2 ^ s := Nat.lt_of_lt_of_le h2 (Nat.pow_le_pow_right (by decide) h)
set_option maxRecDepth 20000 in
theorem nz73 {G : xG} {M : xM} {d ce se cells slots : Nat} (hcc : cells ≤ ce) (hss : slots ≤ se) {c p k : Nat} (h1 : 2 ^ p ≤ k) (h2 : k < 2 ^ (p + 1)) (hc : p ≤ c) (h3 : p < 2) : XJ G Y18_47 d ce se cells slots 73 [(1, .int (nI c)), (0, .int (nI k))] [] M (fun v M' => v = some (.int (nI (c - p))) ∧ M' = M) := by
  have hkp : k / 2 ^ 1 = p := by
    rcases (by omega : p = 0 ∨ p = 1) with rfl | rfl
    · have : k < 2 := h2
      omega
    · have : k < 4 := h2
      have : 2 ≤ k := h1
      omega
  refine xj_iload_n (i := 1) d18_47_73 rfl rfl ?_
  refine xj_iload_n (i := 0) d18_47_74 rfl rfl ?_
  refine xj_iconst (v := 1) d18_47_75 (by decide) ?_
  refine xj_iushr (v := nI (k / 2 ^ 1)) d18_47_76 (nz_shr (p := p) (nz_lt (by omega) h2) (by decide)) ?_
  refine xj_isub (v := nI (c - p)) d18_47_77 (by rw [hkp]; exact pk_sub hc) ?_
  exact xj_ret d18_47_78 hcc hss rfl ⟨rfl, rfl⟩
set_option maxRecDepth 20000 in
theorem nz61 {G : xG} {M : xM} {d ce se cells slots : Nat} (hcc : cells ≤ ce) (hss : slots ≤ se) {c p k : Nat} (h1 : 2 ^ p ≤ k) (h2 : k < 2 ^ (p + 1)) (hc : p ≤ c) (h3 : p < 4) : XJ G Y18_47 d ce se cells slots 61 [(1, .int (nI c)), (0, .int (nI k))] [] M (fun v M' => v = some (.int (nI (c - p))) ∧ M' = M) := by
  by_cases hq : 2 ≤ p
  · skip
    refine xj_iload_n (i := 0) d18_47_61 rfl rfl ?_
    refine xj_iconst (v := 4) d18_47_62 (by decide) ?_
    refine xj_icmp_lt (tgt := 73) d18_47_63 rfl (fun h => absurd h (nI_nlt (a := k) (b := 4) (nz_le hq h1) (nz_lt (by omega) h2))) (fun _ => ?_)
    refine xj_iinc (v := nI (c - 2)) (L' := [(1, .int (nI (c - 2))), (0, .int (nI k))]) d18_47_66 rfl (xdecN 2 (by decide) (by omega)) (by decide) rfl ?_
    refine xj_iload_n (i := 0) d18_47_69 rfl rfl ?_
    refine xj_iconst (v := 2) d18_47_70 (by decide) ?_
    refine xj_iushr (v := nI (k / 2 ^ 2)) d18_47_71 (nz_shr (p := p) (nz_lt (by omega) h2) (by decide)) ?_
    refine xj_istore_n (i := 0) (L' := [(0, .int (nI (k / 2 ^ 2))), (1, .int (nI (c - 2)))]) d18_47_72 rfl (by decide) rfl ?_
    refine xj_sub (L' := [(1, .int (nI (c - 2))), (0, .int (nI (k / 2 ^ 2)))]) (fun q hq => by simp only [List.mem_cons, List.not_mem_nil, or_false] at hq ⊢; rcases hq with rfl | rfl <;> simp) ?_
    have h9 := nz73 hcc hss (G := G) (M := M) (d := d) (c := c - 2) (p := p - 2) (nz_dv hq h1 h2).1 (nz_dv hq h1 h2).2 (by omega) (by omega)
    rw [show c - 2 - (p - 2) = c - p by omega] at h9
    exact h9
  · skip
    refine xj_iload_n (i := 0) d18_47_61 rfl rfl ?_
    refine xj_iconst (v := 4) d18_47_62 (by decide) ?_
    refine xj_icmp_lt (tgt := 73) d18_47_63 rfl (fun _ => ?_) (fun h => absurd (nI_lt (a := k) (b := 4) (nz_lt (s := 2) (by omega) h2) (by decide)) h)
    exact nz73 hcc hss h1 h2 hc (by omega)
set_option maxRecDepth 20000 in
theorem nz48 {G : xG} {M : xM} {d ce se cells slots : Nat} (hcc : cells ≤ ce) (hss : slots ≤ se) {c p k : Nat} (h1 : 2 ^ p ≤ k) (h2 : k < 2 ^ (p + 1)) (hc : p ≤ c) (h3 : p < 8) : XJ G Y18_47 d ce se cells slots 48 [(1, .int (nI c)), (0, .int (nI k))] [] M (fun v M' => v = some (.int (nI (c - p))) ∧ M' = M) := by
  by_cases hq : 4 ≤ p
  · skip
    refine xj_iload_n (i := 0) d18_47_48 rfl rfl ?_
    refine xj_bipush (v := 16) d18_47_49 (by decide) ?_
    refine xj_icmp_lt (tgt := 61) d18_47_51 rfl (fun h => absurd h (nI_nlt (a := k) (b := 16) (nz_le hq h1) (nz_lt (by omega) h2))) (fun _ => ?_)
    refine xj_iinc (v := nI (c - 4)) (L' := [(1, .int (nI (c - 4))), (0, .int (nI k))]) d18_47_54 rfl (xdecN 4 (by decide) (by omega)) (by decide) rfl ?_
    refine xj_iload_n (i := 0) d18_47_57 rfl rfl ?_
    refine xj_iconst (v := 4) d18_47_58 (by decide) ?_
    refine xj_iushr (v := nI (k / 2 ^ 4)) d18_47_59 (nz_shr (p := p) (nz_lt (by omega) h2) (by decide)) ?_
    refine xj_istore_n (i := 0) (L' := [(0, .int (nI (k / 2 ^ 4))), (1, .int (nI (c - 4)))]) d18_47_60 rfl (by decide) rfl ?_
    refine xj_sub (L' := [(1, .int (nI (c - 4))), (0, .int (nI (k / 2 ^ 4)))]) (fun q hq => by simp only [List.mem_cons, List.not_mem_nil, or_false] at hq ⊢; rcases hq with rfl | rfl <;> simp) ?_
    have h9 := nz61 hcc hss (G := G) (M := M) (d := d) (c := c - 4) (p := p - 4) (nz_dv hq h1 h2).1 (nz_dv hq h1 h2).2 (by omega) (by omega)
    rw [show c - 4 - (p - 4) = c - p by omega] at h9
    exact h9
  · skip
    refine xj_iload_n (i := 0) d18_47_48 rfl rfl ?_
    refine xj_bipush (v := 16) d18_47_49 (by decide) ?_
    refine xj_icmp_lt (tgt := 61) d18_47_51 rfl (fun _ => ?_) (fun h => absurd (nI_lt (a := k) (b := 16) (nz_lt (s := 4) (by omega) h2) (by decide)) h)
    exact nz61 hcc hss h1 h2 hc (by omega)
set_option maxRecDepth 20000 in
theorem nz33 {G : xG} {M : xM} {d ce se cells slots : Nat} (hcc : cells ≤ ce) (hss : slots ≤ se) {c p k : Nat} (h1 : 2 ^ p ≤ k) (h2 : k < 2 ^ (p + 1)) (hc : p ≤ c) (h3 : p < 16) : XJ G Y18_47 d ce se cells slots 33 [(1, .int (nI c)), (0, .int (nI k))] [] M (fun v M' => v = some (.int (nI (c - p))) ∧ M' = M) := by
  by_cases hq : 8 ≤ p
  · skip
    refine xj_iload_n (i := 0) d18_47_33 rfl rfl ?_
    refine xj_sipush (v := 256) d18_47_34 (by decide) ?_
    refine xj_icmp_lt (tgt := 48) d18_47_37 rfl (fun h => absurd h (nI_nlt (a := k) (b := 256) (nz_le hq h1) (nz_lt (by omega) h2))) (fun _ => ?_)
    refine xj_iinc (v := nI (c - 8)) (L' := [(1, .int (nI (c - 8))), (0, .int (nI k))]) d18_47_40 rfl (xdecN 8 (by decide) (by omega)) (by decide) rfl ?_
    refine xj_iload_n (i := 0) d18_47_43 rfl rfl ?_
    refine xj_bipush (v := 8) d18_47_44 (by decide) ?_
    refine xj_iushr (v := nI (k / 2 ^ 8)) d18_47_46 (nz_shr (p := p) (nz_lt (by omega) h2) (by decide)) ?_
    refine xj_istore_n (i := 0) (L' := [(0, .int (nI (k / 2 ^ 8))), (1, .int (nI (c - 8)))]) d18_47_47 rfl (by decide) rfl ?_
    refine xj_sub (L' := [(1, .int (nI (c - 8))), (0, .int (nI (k / 2 ^ 8)))]) (fun q hq => by simp only [List.mem_cons, List.not_mem_nil, or_false] at hq ⊢; rcases hq with rfl | rfl <;> simp) ?_
    have h9 := nz48 hcc hss (G := G) (M := M) (d := d) (c := c - 8) (p := p - 8) (nz_dv hq h1 h2).1 (nz_dv hq h1 h2).2 (by omega) (by omega)
    rw [show c - 8 - (p - 8) = c - p by omega] at h9
    exact h9
  · skip
    refine xj_iload_n (i := 0) d18_47_33 rfl rfl ?_
    refine xj_sipush (v := 256) d18_47_34 (by decide) ?_
    refine xj_icmp_lt (tgt := 48) d18_47_37 rfl (fun _ => ?_) (fun h => absurd (nI_lt (a := k) (b := 256) (nz_lt (s := 8) (by omega) h2) (by decide)) h)
    exact nz48 hcc hss h1 h2 hc (by omega)
set_option maxRecDepth 20000 in
theorem nz18 {G : xG} {M : xM} {d ce se cells slots : Nat} (hcc : cells ≤ ce) (hss : slots ≤ se) {c p k : Nat} (h1 : 2 ^ p ≤ k) (h2 : k < 2 ^ (p + 1)) (hc : p ≤ c) (h3 : p < 31) : XJ G Y18_47 d ce se cells slots 18 [(1, .int (nI c)), (0, .int (nI k))] [] M (fun v M' => v = some (.int (nI (c - p))) ∧ M' = M) := by
  by_cases hq : 16 ≤ p
  · skip
    refine xj_iload_n (i := 0) d18_47_18 rfl rfl ?_
    refine xj_ldcw (v := 65536) d18_47_19 w952 ?_
    refine xj_icmp_lt (tgt := 33) d18_47_22 rfl (fun h => absurd h (nI_nlt (a := k) (b := 65536) (nz_le hq h1) (nz_lt (by omega) h2))) (fun _ => ?_)
    refine xj_iinc (v := nI (c - 16)) (L' := [(1, .int (nI (c - 16))), (0, .int (nI k))]) d18_47_25 rfl (xdecN 16 (by decide) (by omega)) (by decide) rfl ?_
    refine xj_iload_n (i := 0) d18_47_28 rfl rfl ?_
    refine xj_bipush (v := 16) d18_47_29 (by decide) ?_
    refine xj_iushr (v := nI (k / 2 ^ 16)) d18_47_31 (nz_shr (p := p) (nz_lt (by omega) h2) (by decide)) ?_
    refine xj_istore_n (i := 0) (L' := [(0, .int (nI (k / 2 ^ 16))), (1, .int (nI (c - 16)))]) d18_47_32 rfl (by decide) rfl ?_
    refine xj_sub (L' := [(1, .int (nI (c - 16))), (0, .int (nI (k / 2 ^ 16)))]) (fun q hq => by simp only [List.mem_cons, List.not_mem_nil, or_false] at hq ⊢; rcases hq with rfl | rfl <;> simp) ?_
    have h9 := nz33 hcc hss (G := G) (M := M) (d := d) (c := c - 16) (p := p - 16) (nz_dv hq h1 h2).1 (nz_dv hq h1 h2).2 (by omega) (by omega)
    rw [show c - 16 - (p - 16) = c - p by omega] at h9
    exact h9
  · skip
    refine xj_iload_n (i := 0) d18_47_18 rfl rfl ?_
    refine xj_ldcw (v := 65536) d18_47_19 w952 ?_
    refine xj_icmp_lt (tgt := 33) d18_47_22 rfl (fun _ => ?_) (fun h => absurd (nI_lt (a := k) (b := 65536) (nz_lt (s := 16) (by omega) h2) (by decide)) h)
    exact nz33 hcc hss h1 h2 hc (by omega)
set_option maxRecDepth 20000 in
theorem nzI {G : xG} (hg : xGood G) {M : xM} {x : Int32} {p : Nat} (hp : p < 32) (h1 : ib x p = true) (h2 : ∀ j, p < j → j < 32 → ib x j = false) : XC G Y18_47 (some .int) 0 0 0 [.int x] M (fun v M' => v = some (.int (nI (31 - p))) ∧ M' = M) := by
  obtain ⟨k, hk, k1, k2⟩ := nz_int hp h1 h2
  by_cases h31 : p = 31
  · have hneg : x < 0 := by
      refine Classical.byContradiction fun q => ?_
      obtain ⟨j, hj, hx⟩ := nI_of q
      rw [hx, h31, ib_nI (by omega), Nat.testBit_lt_two_pow hj] at h1
      cases h1
    refine xc_of hg (by decide) (Nat.le_of_ble_eq_true rfl) (Or.inl ⟨rfl, rfl, fun v M' h => ⟨_, h.1⟩⟩) ?_
    refine xj_iload_n (i := 0) d18_47_0 rfl rfl ?_
    refine xj_if_gt (tgt := 15) d18_47_1 rfl (fun h => absurd h (fun q => absurd (Int32.lt_trans q hneg) Int32.lt_irrefl)) (fun _ => ?_)
    refine xj_iload_n (i := 0) d18_47_4 rfl rfl ?_
    refine xj_if_ne (tgt := 13) d18_47_5 rfl (fun _ => ?_) (fun h => absurd h (fun q => absurd (q ▸ hneg) Int32.lt_irrefl))
    refine xj_iconst (v := 0) d18_47_13 (by decide) ?_
    exact xj_ret d18_47_14 (by omega) (by omega) rfl ⟨by rw [h31], rfl⟩
  · subst hk
    refine xc_of hg (by decide) (Nat.le_of_ble_eq_true rfl) (Or.inl ⟨rfl, rfl, fun v M' h => ⟨_, h.1⟩⟩) ?_
    refine xj_iload_n (i := 0) d18_47_0 rfl rfl ?_
    refine xj_if_gt (tgt := 15) d18_47_1 rfl (fun _ => ?_) (fun h => absurd (nI_lt (a := 0) (b := k) (Nat.lt_of_lt_of_le (Nat.pow_pos (by decide)) k1) (nz_lt (by omega) k2)) h)
    refine xj_bipush (v := 31) d18_47_15 (by decide) ?_
    refine xj_istore_n (i := 1) (L' := [(1, .int 31), (0, .int (nI k))]) d18_47_17 rfl (by decide) rfl ?_
    exact nz18 (Nat.le_refl 0) (Nat.le_refl 0) (c := 31) k1 k2 (by omega) (by omega)
set_option maxRecDepth 20000 in
/-- the highest place of a set -/
theorem nzL {G : xG} (hg : xGood G) {M : xM} {l : Int64} {p : Nat} (hp : p < 64) (h1 : lb l p = true) (h2 : ∀ j, p < j → j < 64 → lb l j = false) : XC G Y20_48 (some .int) 1 0 0 [.long l] M (fun v M' => v = some (.int (nI (63 - p))) ∧ M' = M) := by
  by_cases h32 : p < 32
  · have hx : ((l.toUInt64 >>> ((32 : Int32).toInt64.toUInt64 &&& Int64.toUInt64 63)).toInt64).toInt32 = 0 := ib_z fun j hj => by rw [ib_hi l hj]; exact h2 _ (by omega) (by omega)
    refine xc_of hg (by decide) (Nat.le_of_ble_eq_true rfl) (Or.inl ⟨rfl, rfl, fun v M' h => ⟨_, h.1⟩⟩) ?_
    refine xj_lload_n (i := 0) d20_48_0 rfl rfl ?_
    refine xj_bipush (v := 32) d20_48_1 (by decide) ?_
    refine xj_lushr (v := ((l).toUInt64 >>> ((32 : Int32).toInt64.toUInt64 &&& Int64.toUInt64 63)).toInt64) d20_48_3 rfl ?_
    refine xj_l2i (v := (((l).toUInt64 >>> ((32 : Int32).toInt64.toUInt64 &&& Int64.toUInt64 63)).toInt64).toInt32) d20_48_4 rfl ?_
    refine xj_istore_n (i := 2) (L' := [(2, .int ((((l).toUInt64 >>> ((32 : Int32).toInt64.toUInt64 &&& Int64.toUInt64 63)).toInt64).toInt32)), (0, .long l)]) d20_48_5 rfl (by decide) rfl ?_
    refine xj_iload_n (i := 2) d20_48_6 rfl rfl ?_
    refine xj_if_ne (tgt := 21) d20_48_7 rfl (fun h => absurd hx h) (fun _ => ?_)
    refine xj_bipush (v := 32) d20_48_10 (by decide) ?_
    refine xj_lload_n (i := 0) d20_48_12 rfl rfl ?_
    refine xj_l2i (v := l.toInt32) d20_48_13 rfl ?_
    refine xj_callS (rest := [.int 32]) (As := [.int l.toInt32]) (nzI hg h32 (by rw [ib_lo l h32]; exact h1) (fun j hj hj2 => by rw [ib_lo l hj2]; exact h2 j hj (by omega))) d20_48_14 wd18_47 w957 (Or.inl w956) rfl rfl (Nat.le_of_ble_eq_true rfl) (by omega) (by omega) (by omega) ?_
    rintro v9 M' ⟨rfl, hm9⟩
    subst M'
    refine xj_iadd (v := nI (63 - p)) d20_48_17 (by rw [show (32 : Int32) = nI 32 from by decide, nI_add, show 32 + (31 - p) = 63 - p by omega]) ?_
    refine xj_goto (tgt := 25) d20_48_18 rfl ?_
    exact xj_ret d20_48_25 (by omega) (by omega) rfl ⟨rfl, rfl⟩
  · have hx : ¬ ((l.toUInt64 >>> ((32 : Int32).toInt64.toUInt64 &&& Int64.toUInt64 63)).toInt64).toInt32 = 0 := fun q => by
      have := ib_hi l (show p - 32 < 32 by omega)
      rw [q, show 32 + (p - 32) = p by omega, h1, show (0 : Int32) = nI 0 from by decide, ib_nI (by decide), Nat.zero_testBit] at this
      cases this
    refine xc_of hg (by decide) (Nat.le_of_ble_eq_true rfl) (Or.inl ⟨rfl, rfl, fun v M' h => ⟨_, h.1⟩⟩) ?_
    refine xj_lload_n (i := 0) d20_48_0 rfl rfl ?_
    refine xj_bipush (v := 32) d20_48_1 (by decide) ?_
    refine xj_lushr (v := ((l).toUInt64 >>> ((32 : Int32).toInt64.toUInt64 &&& Int64.toUInt64 63)).toInt64) d20_48_3 rfl ?_
    refine xj_l2i (v := (((l).toUInt64 >>> ((32 : Int32).toInt64.toUInt64 &&& Int64.toUInt64 63)).toInt64).toInt32) d20_48_4 rfl ?_
    refine xj_istore_n (i := 2) (L' := [(2, .int ((((l).toUInt64 >>> ((32 : Int32).toInt64.toUInt64 &&& Int64.toUInt64 63)).toInt64).toInt32)), (0, .long l)]) d20_48_5 rfl (by decide) rfl ?_
    refine xj_iload_n (i := 2) d20_48_6 rfl rfl ?_
    refine xj_if_ne (tgt := 21) d20_48_7 rfl (fun _ => ?_) (fun h => absurd h hx)
    refine xj_iload_n (i := 2) d20_48_21 rfl rfl ?_
    refine xj_callS (rest := []) (As := [.int ((((l).toUInt64 >>> ((32 : Int32).toInt64.toUInt64 &&& Int64.toUInt64 63)).toInt64).toInt32)]) (nzI hg (show p - 32 < 32 by omega) (by rw [ib_hi l (by omega), show 32 + (p - 32) = p by omega]; exact h1) (fun j hj hj2 => by rw [ib_hi l hj2]; exact h2 _ (by omega) (by omega))) d20_48_22 wd18_47 w957 (Or.inl w956) rfl rfl (Nat.le_of_ble_eq_true rfl) (by omega) (by omega) (by omega) ?_
    rintro v9 M' ⟨rfl, hm9⟩
    subst M'
    exact xj_ret d20_48_25 (by omega) (by omega) rfl ⟨by rw [show 63 - p = 31 - (p - 32) by omega], rfl⟩

noncomputable def xB (p : Prop) : Int32 := @ite _ p (Classical.propDecidable p) 1 0
theorem xB_t {p : Prop} (h : p) : xB p = 1 := by simp [xB, h]
theorem xB_f {p : Prop} (h : ¬ p) : xB p = 0 := by simp [xB, h]
theorem xB_01 (p : Prop) : xB p = 0 ∨ xB p = 1 := by
  by_cases h : p
  · exact Or.inr (xB_t h)
  · exact Or.inl (xB_f h)
theorem xB_n {p : Prop} (h : xB p = 0) : ¬ p := fun hp => by rw [xB_t hp] at h; exact absurd h (by decide)
theorem xB_y {p : Prop} (h : ¬ xB p = 0) : p := Classical.byContradiction fun hp => h (xB_f hp)
set_option maxRecDepth 20000 in
theorem cPrinted {G : xG} (hg : xGood G) {M : xM} {n : Nat} (hn : M.1 = n) (hx : xn ≤ n) {c : Int32} : XC G Y1_20 (some .boolean) 0 0 0 [.int c] M (fun v M' => v = some (.int (xB (¬ c < 32 ∧ ¬ 126 < c))) ∧ M' = M) := by
  refine xc_of hg (by decide) (Nat.le_of_ble_eq_true rfl) (Or.inr (Or.inl ⟨rfl, rfl, fun v M' h => ⟨_, h.1, xB_01 _⟩⟩)) ?_
  refine xj_iload_n (i := 0) d1_20_0 rfl rfl ?_
  refine xj_bipush (v := 32) d1_20_1 (by decide) ?_
  refine xj_icmp_lt (tgt := 16) d1_20_3 rfl (fun hb1 => ?_) (fun hb1 => ?_)
  · refine xj_iconst (v := 0) d1_20_16 (by decide) ?_
    exact xj_ret d1_20_17 (by omega) (by omega) rfl ⟨(congrArg (fun z => some (Value.int z)) (by simp_all [xB])), rfl⟩
  · refine xj_iload_n (i := 0) d1_20_6 rfl rfl ?_
    refine xj_bipush (v := 126) d1_20_7 (by decide) ?_
    refine xj_icmp_gt (tgt := 16) d1_20_9 rfl (fun hb2 => ?_) (fun hb2 => ?_)
    · refine xj_iconst (v := 0) d1_20_16 (by decide) ?_
      exact xj_ret d1_20_17 (by omega) (by omega) rfl ⟨(congrArg (fun z => some (Value.int z)) (by simp_all [xB])), rfl⟩
    · refine xj_iconst (v := 1) d1_20_12 (by decide) ?_
      refine xj_goto (tgt := 17) d1_20_13 rfl ?_
      exact xj_ret d1_20_17 (by omega) (by omega) rfl ⟨(congrArg (fun z => some (Value.int z)) (by simp_all [xB])), rfl⟩
set_option maxRecDepth 20000 in
theorem cCharacter {G : xG} (hg : xGood G) {M : xM} {n : Nat} (hn : M.1 = n) (hx : xn ≤ n) {c : Int32} : XC G Y1_21 (some .boolean) 1 0 0 [.int c] M (fun v M' => v = some (.int (xB (c = 10 ∨ (¬ c < 32 ∧ ¬ 126 < c)))) ∧ M' = M) := by
  refine xc_of hg (by decide) (Nat.le_of_ble_eq_true rfl) (Or.inr (Or.inl ⟨rfl, rfl, fun v M' h => ⟨_, h.1, xB_01 _⟩⟩)) ?_
  refine xj_iload_n (i := 0) d1_21_0 rfl rfl ?_
  refine xj_bipush (v := 10) d1_21_1 (by decide) ?_
  refine xj_icmp_eq (tgt := 13) d1_21_3 rfl (fun hb1 => ?_) (fun hb1 => ?_)
  · refine xj_iconst (v := 1) d1_21_13 (by decide) ?_
    refine xj_goto (tgt := 18) d1_21_14 rfl ?_
    exact xj_ret d1_21_18 (by omega) (by omega) rfl ⟨(congrArg (fun z => some (Value.int z)) (by simp_all [xB])), rfl⟩
  · refine xj_iload_n (i := 0) d1_21_6 rfl rfl ?_
    refine xj_callS (rest := []) (As := [.int c]) (cPrinted hg (M := M) (n := n) (c := c) (show M.1 = n by omega) (by omega) ) d1_21_7 wd1_20 w131 (Or.inl w130) rfl rfl (Nat.le_of_ble_eq_true rfl) (by omega) (by omega) (by omega) ?_
    rintro v M' ⟨rfl, hm⟩
    subst M'
    refine xj_if_eq (tgt := 17) d1_21_10 rfl (fun hb2 => ?_) (fun hb2 => ?_)
    · refine xj_iconst (v := 0) d1_21_17 (by decide) ?_
      exact xj_ret d1_21_18 (by omega) (by omega) rfl ⟨(congrArg (fun z => some (Value.int z)) (by simp_all [xB])), rfl⟩
    · refine xj_iconst (v := 1) d1_21_13 (by decide) ?_
      refine xj_goto (tgt := 18) d1_21_14 rfl ?_
      exact xj_ret d1_21_18 (by omega) (by omega) rfl ⟨(congrArg (fun z => some (Value.int z)) (by simp_all [xB])), rfl⟩
set_option maxRecDepth 20000 in
theorem cName {G : xG} (hg : xGood G) {M : xM} {n : Nat} (hn : M.1 = n) (hx : xn ≤ n) {c : Int32} : XC G Y1_19 (some .boolean) 0 0 0 [.int c] M (fun v M' => v = some (.int (xB (¬ c < 0 ∧ ¬ 10 ≤ c))) ∧ M' = M) := by
  refine xc_of hg (by decide) (Nat.le_of_ble_eq_true rfl) (Or.inr (Or.inl ⟨rfl, rfl, fun v M' h => ⟨_, h.1, xB_01 _⟩⟩)) ?_
  refine xj_iload_n (i := 0) d1_19_0 rfl rfl ?_
  refine xj_if_lt (tgt := 14) d1_19_1 rfl (fun hb1 => ?_) (fun hb1 => ?_)
  · refine xj_iconst (v := 0) d1_19_14 (by decide) ?_
    exact xj_ret d1_19_15 (by omega) (by omega) rfl ⟨(congrArg (fun z => some (Value.int z)) (by simp_all [xB])), rfl⟩
  · refine xj_iload_n (i := 0) d1_19_4 rfl rfl ?_
    refine xj_bipush (v := 10) d1_19_5 (by decide) ?_
    refine xj_icmp_ge (tgt := 14) d1_19_7 rfl (fun hb2 => ?_) (fun hb2 => ?_)
    · refine xj_iconst (v := 0) d1_19_14 (by decide) ?_
      exact xj_ret d1_19_15 (by omega) (by omega) rfl ⟨(congrArg (fun z => some (Value.int z)) (by simp_all [xB])), rfl⟩
    · refine xj_iconst (v := 1) d1_19_10 (by decide) ?_
      refine xj_goto (tgt := 15) d1_19_11 rfl ?_
      exact xj_ret d1_19_15 (by omega) (by omega) rfl ⟨(congrArg (fun z => some (Value.int z)) (by simp_all [xB])), rfl⟩
set_option maxRecDepth 20000 in
theorem mCharacter {G : xG} (hg : xGood G) {M : xM} {n : Nat} (hn : M.1 = n) (hx : xn ≤ n) {c : Int32} : XC G Y14_2 (some .boolean) 0 0 0 [.int c] M (fun v M' => v = some (.int (xB (c = 10 ∨ (¬ c < 32 ∧ ¬ 126 < c)))) ∧ M' = M) := by
  refine xc_of hg (by decide) (Nat.le_of_ble_eq_true rfl) (Or.inr (Or.inl ⟨rfl, rfl, fun v M' h => ⟨_, h.1, xB_01 _⟩⟩)) ?_
  refine xj_iload_n (i := 0) d14_2_0 rfl rfl ?_
  refine xj_bipush (v := 10) d14_2_1 (by decide) ?_
  refine xj_icmp_eq (tgt := 18) d14_2_3 rfl (fun hb1 => ?_) (fun hb1 => ?_)
  · refine xj_iconst (v := 1) d14_2_18 (by decide) ?_
    refine xj_goto (tgt := 23) d14_2_19 rfl ?_
    exact xj_ret d14_2_23 (by omega) (by omega) rfl ⟨(congrArg (fun z => some (Value.int z)) (by simp_all [xB])), rfl⟩
  · refine xj_iload_n (i := 0) d14_2_6 rfl rfl ?_
    refine xj_bipush (v := 32) d14_2_7 (by decide) ?_
    refine xj_icmp_lt (tgt := 22) d14_2_9 rfl (fun hb2 => ?_) (fun hb2 => ?_)
    · refine xj_iconst (v := 0) d14_2_22 (by decide) ?_
      exact xj_ret d14_2_23 (by omega) (by omega) rfl ⟨(congrArg (fun z => some (Value.int z)) (by simp_all [xB])), rfl⟩
    · refine xj_iload_n (i := 0) d14_2_12 rfl rfl ?_
      refine xj_bipush (v := 126) d14_2_13 (by decide) ?_
      refine xj_icmp_gt (tgt := 22) d14_2_15 rfl (fun hb3 => ?_) (fun hb3 => ?_)
      · refine xj_iconst (v := 0) d14_2_22 (by decide) ?_
        exact xj_ret d14_2_23 (by omega) (by omega) rfl ⟨(congrArg (fun z => some (Value.int z)) (by simp_all [xB])), rfl⟩
      · refine xj_iconst (v := 1) d14_2_18 (by decide) ?_
        refine xj_goto (tgt := 23) d14_2_19 rfl ?_
        exact xj_ret d14_2_23 (by omega) (by omega) rfl ⟨(congrArg (fun z => some (Value.int z)) (by simp_all [xB])), rfl⟩
def p1X (M : xM) : Prop := M.2 16 = (.inr (0, [.ref 17, .int 0, .ref 18, .int 0, .null, .ref 19, .int 0, .ref 20, .ref 22, .int 0, .ref 23, .int 0, .int 0])) ∧ M.2 17 = (.inl (1, 40, .inl (fun _ => 0))) ∧ M.2 18 = (.inl (1, 24, .inl (fun _ => 0))) ∧ M.2 19 = (.inl (5, 10, .inr (.inr (.inr (.inr (fun _ => none)))))) ∧ M.2 20 = (.inr (1, [.int 0, .ref 21])) ∧ M.2 21 = (.inr (2, [.ref 1, .int 0, .int 0])) ∧ M.2 22 = (.inr (2, [.ref 1, .int 0, .int 0])) ∧ M.2 23 = (.inl (0, 410, .inl (fun _ => 0)))

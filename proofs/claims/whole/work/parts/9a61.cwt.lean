def yV_weight (k : Nat) : xY := if k = 1 then Y4_5 else if k ≤ 3 then Y2_2 else if k = 4 then Y9_2 else if k = 5 then Y3_6 else Y5_3
set_option maxRecDepth 20000 in
theorem xj_v_weight {G : xG} {Y : xY} {d ce se cells slots pc : Nat} {L : List (Nat × Value)} {st rest As : List Value} {M : xM} {Post Pst : Option Value → xM → Prop} {e1 mc ms idx : Nat} {ow rk ad : Nat → Nat} {T X : Nat} {ℓ : xLk} {μ : xMu} {q : xNode} (hn : cN M ow rk ad T X ℓ μ q) (h1 : 1 ≤ q.1) (h6 : q.1 ≤ 6) (h5 : ¬ q.1 = 5) (hX : XC G (yV_weight q.1) (some .int) e1 mc ms (.ref X :: As) M Pst) (hd : decode Y.2.1 pc = .ok (.invokevirtual idx, 3)) (hli : Cond.methodLink Y.1.cls idx ⟨"TrigramLines$Part", "weight", "()I"⟩ ∈ lw_tbl) (hAs : As.length = 0) (hs : st = As.reverse ++ .ref X :: rest) (hr : (rest.map fun v => v.category).sum ≤ 8) (hdd : e1 + 1 ≤ d) (hc : cells + mc ≤ ce) (hse : slots + ms ≤ se) (kk : ∀ v M', Pst v M' → XJ G Y d ce se (cells + mc) (slots + ms) (pc + 3) L (v.toList ++ rest) M' Post) : XJ G Y d ce se cells slots pc L st M Post := by
  have hkk : q.1 = 1 ∨ (q.1 = 2 ∨ q.1 = 3) ∨ q.1 = 4 ∨ q.1 = 6 := by omega
  obtain ⟨wv, hv, ⟨a1, a2, a3, a4⟩, k1, k2, k4, k5, k6⟩ := hn
  rcases hkk with z | z | z | z
  · obtain ⟨y, e1, -⟩ := k1 z
    have hX' := hX
    rw [show yV_weight q.1 = Y4_5 by unfold yV_weight; rw [if_pos z]] at hX'
    exact xj_callU (owner := "TrigramLines$Part") (x := ⟨"TrigramLines$Part", "weight", "()I"⟩) (hX' : XC G Y4_5 _ _ _ _ _ _ _) hd wd4_5 rfl e1 a1 a2 rfl w727 w722 ⟨by decide, by decide⟩ (Or.inl w721) w728 hli hAs hs hr hdd hc hse kk
  · have e1 := k2 z
    have hX' := hX
    rw [show yV_weight q.1 = Y2_2 by unfold yV_weight; rw [if_neg (by omega), if_pos (by omega)]] at hX'
    exact xj_callU (owner := "TrigramLines$Part") (x := ⟨"TrigramLines$Part", "weight", "()I"⟩) (hX' : XC G Y2_2 _ _ _ _ _ _ _) hd wd2_2 rfl e1 a1 a2 rfl w723 w722 ⟨by decide, by decide⟩ (Or.inl w721) w724 hli hAs hs hr hdd hc hse kk
  · obtain ⟨e, nd, cv, -, e1, -⟩ := k4 z
    have hX' := hX
    rw [show yV_weight q.1 = Y9_2 by unfold yV_weight; rw [if_neg (by omega), if_neg (by omega), if_pos z]] at hX'
    exact xj_callU (owner := "TrigramLines$Part") (x := ⟨"TrigramLines$Part", "weight", "()I"⟩) (hX' : XC G Y9_2 _ _ _ _ _ _ _) hd wd9_2 rfl e1 a1 a2 rfl w731 w722 ⟨by decide, by decide⟩ (Or.inl w721) w732 hli hAs hs hr hdd hc hse kk
  · obtain ⟨bl, lv, e1, -⟩ := k6 z
    have hX' := hX
    rw [show yV_weight q.1 = Y5_3 by unfold yV_weight; rw [if_neg (by omega), if_neg (by omega), if_neg (by omega), if_neg (by omega)]] at hX'
    exact xj_callU (owner := "TrigramLines$Part") (x := ⟨"TrigramLines$Part", "weight", "()I"⟩) (hX' : XC G Y5_3 _ _ _ _ _ _ _) hd wd5_3 rfl e1 a1 a2 rfl w730 w722 ⟨by decide, by decide⟩ (Or.inl w721) w711 hli hAs hs hr hdd hc hse kk
def yV_learnWords (k : Nat) : xY := if k = 1 then Y4_6 else if k ≤ 3 then Y2_3 else if k = 4 then Y9_3 else if k = 5 then Y3_7 else Y5_4
set_option maxRecDepth 20000 in
theorem xj_v_learnWords {G : xG} {Y : xY} {d ce se cells slots pc : Nat} {L : List (Nat × Value)} {st rest As : List Value} {M : xM} {Post Pst : Option Value → xM → Prop} {e1 mc ms idx : Nat} {ow rk ad : Nat → Nat} {T X : Nat} {ℓ : xLk} {μ : xMu} {q : xNode} (hn : cN M ow rk ad T X ℓ μ q) (h1 : 1 ≤ q.1) (h6 : q.1 ≤ 6) (h5 : ¬ q.1 = 5) (hX : XC G (yV_learnWords q.1) none e1 mc ms (.ref X :: As) M Pst) (hd : decode Y.2.1 pc = .ok (.invokevirtual idx, 3)) (hli : Cond.methodLink Y.1.cls idx ⟨"TrigramLines$Part", "learnWords", "()V"⟩ ∈ lw_tbl) (hAs : As.length = 0) (hs : st = As.reverse ++ .ref X :: rest) (hr : (rest.map fun v => v.category).sum ≤ 8) (hdd : e1 + 1 ≤ d) (hc : cells + mc ≤ ce) (hse : slots + ms ≤ se) (kk : ∀ v M', Pst v M' → XJ G Y d ce se (cells + mc) (slots + ms) (pc + 3) L (v.toList ++ rest) M' Post) : XJ G Y d ce se cells slots pc L st M Post := by
  have hkk : q.1 = 1 ∨ (q.1 = 2 ∨ q.1 = 3) ∨ q.1 = 4 ∨ q.1 = 6 := by omega
  obtain ⟨wv, hv, ⟨a1, a2, a3, a4⟩, k1, k2, k4, k5, k6⟩ := hn
  rcases hkk with z | z | z | z
  · obtain ⟨y, e1, -⟩ := k1 z
    have hX' := hX
    rw [show yV_learnWords q.1 = Y4_6 by unfold yV_learnWords; rw [if_pos z]] at hX'
    exact xj_callU (owner := "TrigramLines$Part") (x := ⟨"TrigramLines$Part", "learnWords", "()V"⟩) (hX' : XC G Y4_6 _ _ _ _ _ _ _) hd wd4_6 rfl e1 a1 a2 rfl w755 w749 ⟨by decide, by decide⟩ (Or.inl w748) w756 hli hAs hs hr hdd hc hse kk
  · have e1 := k2 z
    have hX' := hX
    rw [show yV_learnWords q.1 = Y2_3 by unfold yV_learnWords; rw [if_neg (by omega), if_pos (by omega)]] at hX'
    exact xj_callU (owner := "TrigramLines$Part") (x := ⟨"TrigramLines$Part", "learnWords", "()V"⟩) (hX' : XC G Y2_3 _ _ _ _ _ _ _) hd wd2_3 rfl e1 a1 a2 rfl w750 w749 ⟨by decide, by decide⟩ (Or.inl w748) w751 hli hAs hs hr hdd hc hse kk
  · obtain ⟨e, nd, cv, -, e1, -⟩ := k4 z
    have hX' := hX
    rw [show yV_learnWords q.1 = Y9_3 by unfold yV_learnWords; rw [if_neg (by omega), if_neg (by omega), if_pos z]] at hX'
    exact xj_callU (owner := "TrigramLines$Part") (x := ⟨"TrigramLines$Part", "learnWords", "()V"⟩) (hX' : XC G Y9_3 _ _ _ _ _ _ _) hd wd9_3 rfl e1 a1 a2 rfl w787 w749 ⟨by decide, by decide⟩ (Or.inl w748) w788 hli hAs hs hr hdd hc hse kk
  · obtain ⟨bl, lv, e1, -⟩ := k6 z
    have hX' := hX
    rw [show yV_learnWords q.1 = Y5_4 by unfold yV_learnWords; rw [if_neg (by omega), if_neg (by omega), if_neg (by omega), if_neg (by omega)]] at hX'
    exact xj_callU (owner := "TrigramLines$Part") (x := ⟨"TrigramLines$Part", "learnWords", "()V"⟩) (hX' : XC G Y5_4 _ _ _ _ _ _ _) hd wd5_4 rfl e1 a1 a2 rfl w786 w749 ⟨by decide, by decide⟩ (Or.inl w748) w737 hli hAs hs hr hdd hc hse kk
def yV_mayBeIn (k : Nat) : xY := if k = 1 then Y4_7 else if k ≤ 3 then Y2_4 else if k = 4 then Y9_4 else if k = 5 then Y3_8 else Y5_5
set_option maxRecDepth 20000 in
theorem xj_v_mayBeIn {G : xG} {Y : xY} {d ce se cells slots pc : Nat} {L : List (Nat × Value)} {st rest As : List Value} {M : xM} {Post Pst : Option Value → xM → Prop} {e1 mc ms idx : Nat} {ow rk ad : Nat → Nat} {T X : Nat} {ℓ : xLk} {μ : xMu} {q : xNode} (hn : cN M ow rk ad T X ℓ μ q) (h1 : 1 ≤ q.1) (h6 : q.1 ≤ 6) (h5 : ¬ q.1 = 5) (hX : XC G (yV_mayBeIn q.1) (some .boolean) e1 mc ms (.ref X :: As) M Pst) (hd : decode Y.2.1 pc = .ok (.invokevirtual idx, 3)) (hli : Cond.methodLink Y.1.cls idx ⟨"TrigramLines$Part", "mayBeIn", "(LTrigramLines$Version;)Z"⟩ ∈ lw_tbl) (hAs : As.length = 1) (hs : st = As.reverse ++ .ref X :: rest) (hr : (rest.map fun v => v.category).sum ≤ 8) (hdd : e1 + 1 ≤ d) (hc : cells + mc ≤ ce) (hse : slots + ms ≤ se) (kk : ∀ v M', Pst v M' → XJ G Y d ce se (cells + mc) (slots + ms) (pc + 3) L (v.toList ++ rest) M' Post) : XJ G Y d ce se cells slots pc L st M Post := by
  have hkk : q.1 = 1 ∨ (q.1 = 2 ∨ q.1 = 3) ∨ q.1 = 4 ∨ q.1 = 6 := by omega
  obtain ⟨wv, hv, ⟨a1, a2, a3, a4⟩, k1, k2, k4, k5, k6⟩ := hn
  rcases hkk with z | z | z | z
  · obtain ⟨y, e1, -⟩ := k1 z
    have hX' := hX
    rw [show yV_mayBeIn q.1 = Y4_7 by unfold yV_mayBeIn; rw [if_pos z]] at hX'
    exact xj_callU (owner := "TrigramLines$Part") (x := ⟨"TrigramLines$Part", "mayBeIn", "(LTrigramLines$Version;)Z"⟩) (hX' : XC G Y4_7 _ _ _ _ _ _ _) hd wd4_7 rfl e1 a1 a2 rfl w862 w857 ⟨by decide, by decide⟩ (Or.inl w856) w863 hli hAs hs hr hdd hc hse kk
  · have e1 := k2 z
    have hX' := hX
    rw [show yV_mayBeIn q.1 = Y2_4 by unfold yV_mayBeIn; rw [if_neg (by omega), if_pos (by omega)]] at hX'
    exact xj_callU (owner := "TrigramLines$Part") (x := ⟨"TrigramLines$Part", "mayBeIn", "(LTrigramLines$Version;)Z"⟩) (hX' : XC G Y2_4 _ _ _ _ _ _ _) hd wd2_4 rfl e1 a1 a2 rfl w858 w857 ⟨by decide, by decide⟩ (Or.inl w856) w859 hli hAs hs hr hdd hc hse kk
  · obtain ⟨e, nd, cv, -, e1, -⟩ := k4 z
    have hX' := hX
    rw [show yV_mayBeIn q.1 = Y9_4 by unfold yV_mayBeIn; rw [if_neg (by omega), if_neg (by omega), if_pos z]] at hX'
    exact xj_callU (owner := "TrigramLines$Part") (x := ⟨"TrigramLines$Part", "mayBeIn", "(LTrigramLines$Version;)Z"⟩) (hX' : XC G Y9_4 _ _ _ _ _ _ _) hd wd9_4 rfl e1 a1 a2 rfl w867 w857 ⟨by decide, by decide⟩ (Or.inl w856) w868 hli hAs hs hr hdd hc hse kk
  · obtain ⟨bl, lv, e1, -⟩ := k6 z
    have hX' := hX
    rw [show yV_mayBeIn q.1 = Y5_5 by unfold yV_mayBeIn; rw [if_neg (by omega), if_neg (by omega), if_neg (by omega), if_neg (by omega)]] at hX'
    exact xj_callU (owner := "TrigramLines$Part") (x := ⟨"TrigramLines$Part", "mayBeIn", "(LTrigramLines$Version;)Z"⟩) (hX' : XC G Y5_5 _ _ _ _ _ _ _) hd wd5_5 rfl e1 a1 a2 rfl w866 w857 ⟨by decide, by decide⟩ (Or.inl w856) w824 hli hAs hs hr hdd hc hse kk
def yV_enterLine (k : Nat) : xY := if k = 1 then Y4_8 else if k ≤ 3 then Y2_5 else if k = 4 then Y9_5 else if k = 5 then Y3_9 else Y5_6
set_option maxRecDepth 20000 in
theorem xj_v_enterLine {G : xG} {Y : xY} {d ce se cells slots pc : Nat} {L : List (Nat × Value)} {st rest As : List Value} {M : xM} {Post Pst : Option Value → xM → Prop} {e1 mc ms idx : Nat} {ow rk ad : Nat → Nat} {T X : Nat} {ℓ : xLk} {μ : xMu} {q : xNode} (hn : cN M ow rk ad T X ℓ μ q) (h1 : 1 ≤ q.1) (h6 : q.1 ≤ 6) (h5 : ¬ q.1 = 5) (hX : XC G (yV_enterLine q.1) none e1 mc ms (.ref X :: As) M Pst) (hd : decode Y.2.1 pc = .ok (.invokevirtual idx, 3)) (hli : Cond.methodLink Y.1.cls idx ⟨"TrigramLines$Part", "enterLine", "([CII)V"⟩ ∈ lw_tbl) (hAs : As.length = 3) (hs : st = As.reverse ++ .ref X :: rest) (hr : (rest.map fun v => v.category).sum ≤ 8) (hdd : e1 + 1 ≤ d) (hc : cells + mc ≤ ce) (hse : slots + ms ≤ se) (kk : ∀ v M', Pst v M' → XJ G Y d ce se (cells + mc) (slots + ms) (pc + 3) L (v.toList ++ rest) M' Post) : XJ G Y d ce se cells slots pc L st M Post := by
  have hkk : q.1 = 1 ∨ (q.1 = 2 ∨ q.1 = 3) ∨ q.1 = 4 ∨ q.1 = 6 := by omega
  obtain ⟨wv, hv, ⟨a1, a2, a3, a4⟩, k1, k2, k4, k5, k6⟩ := hn
  rcases hkk with z | z | z | z
  · obtain ⟨y, e1, -⟩ := k1 z
    have hX' := hX
    rw [show yV_enterLine q.1 = Y4_8 by unfold yV_enterLine; rw [if_pos z]] at hX'
    exact xj_callU (owner := "TrigramLines$Part") (x := ⟨"TrigramLines$Part", "enterLine", "([CII)V"⟩) (hX' : XC G Y4_8 _ _ _ _ _ _ _) hd wd4_8 rfl e1 a1 a2 rfl w896 w891 ⟨by decide, by decide⟩ (Or.inl w890) w897 hli hAs hs hr hdd hc hse kk
  · have e1 := k2 z
    have hX' := hX
    rw [show yV_enterLine q.1 = Y2_5 by unfold yV_enterLine; rw [if_neg (by omega), if_pos (by omega)]] at hX'
    exact xj_callU (owner := "TrigramLines$Part") (x := ⟨"TrigramLines$Part", "enterLine", "([CII)V"⟩) (hX' : XC G Y2_5 _ _ _ _ _ _ _) hd wd2_5 rfl e1 a1 a2 rfl w892 w891 ⟨by decide, by decide⟩ (Or.inl w890) w893 hli hAs hs hr hdd hc hse kk
  · obtain ⟨e, nd, cv, -, e1, -⟩ := k4 z
    have hX' := hX
    rw [show yV_enterLine q.1 = Y9_5 by unfold yV_enterLine; rw [if_neg (by omega), if_neg (by omega), if_pos z]] at hX'
    exact xj_callU (owner := "TrigramLines$Part") (x := ⟨"TrigramLines$Part", "enterLine", "([CII)V"⟩) (hX' : XC G Y9_5 _ _ _ _ _ _ _) hd wd9_5 rfl e1 a1 a2 rfl w900 w891 ⟨by decide, by decide⟩ (Or.inl w890) w901 hli hAs hs hr hdd hc hse kk
  · obtain ⟨bl, lv, e1, -⟩ := k6 z
    have hX' := hX
    rw [show yV_enterLine q.1 = Y5_6 by unfold yV_enterLine; rw [if_neg (by omega), if_neg (by omega), if_neg (by omega), if_neg (by omega)]] at hX'
    exact xj_callU (owner := "TrigramLines$Part") (x := ⟨"TrigramLines$Part", "enterLine", "([CII)V"⟩) (hX' : XC G Y5_6 _ _ _ _ _ _ _) hd wd5_6 rfl e1 a1 a2 rfl w899 w891 ⟨by decide, by decide⟩ (Or.inl w890) w882 hli hAs hs hr hdd hc hse kk
def yV_reach (k : Nat) : xY := if k = 1 then Y4_9 else if k ≤ 3 then Y2_6 else if k = 4 then Y9_6 else if k = 5 then Y3_10 else Y5_7
set_option maxRecDepth 20000 in
theorem xj_v_reach {G : xG} {Y : xY} {d ce se cells slots pc : Nat} {L : List (Nat × Value)} {st rest As : List Value} {M : xM} {Post Pst : Option Value → xM → Prop} {e1 mc ms idx : Nat} {ow rk ad : Nat → Nat} {T X : Nat} {ℓ : xLk} {μ : xMu} {q : xNode} (hn : cN M ow rk ad T X ℓ μ q) (h1 : 1 ≤ q.1) (h6 : q.1 ≤ 6) (h5 : ¬ q.1 = 5) (hX : XC G (yV_reach q.1) (some .long) e1 mc ms (.ref X :: As) M Pst) (hd : decode Y.2.1 pc = .ok (.invokevirtual idx, 3)) (hli : Cond.methodLink Y.1.cls idx ⟨"TrigramLines$Part", "reach", "(J)J"⟩ ∈ lw_tbl) (hAs : As.length = 1) (hs : st = As.reverse ++ .ref X :: rest) (hr : (rest.map fun v => v.category).sum ≤ 8) (hdd : e1 + 1 ≤ d) (hc : cells + mc ≤ ce) (hse : slots + ms ≤ se) (kk : ∀ v M', Pst v M' → XJ G Y d ce se (cells + mc) (slots + ms) (pc + 3) L (v.toList ++ rest) M' Post) : XJ G Y d ce se cells slots pc L st M Post := by
  have hkk : q.1 = 1 ∨ (q.1 = 2 ∨ q.1 = 3) ∨ q.1 = 4 ∨ q.1 = 6 := by omega
  obtain ⟨wv, hv, ⟨a1, a2, a3, a4⟩, k1, k2, k4, k5, k6⟩ := hn
  rcases hkk with z | z | z | z
  · obtain ⟨y, e1, -⟩ := k1 z
    have hX' := hX
    rw [show yV_reach q.1 = Y4_9 by unfold yV_reach; rw [if_pos z]] at hX'
    exact xj_callU (owner := "TrigramLines$Part") (x := ⟨"TrigramLines$Part", "reach", "(J)J"⟩) (hX' : XC G Y4_9 _ _ _ _ _ _ _) hd wd4_9 rfl e1 a1 a2 rfl w925 w920 ⟨by decide, by decide⟩ (Or.inl w919) w926 hli hAs hs hr hdd hc hse kk
  · have e1 := k2 z
    have hX' := hX
    rw [show yV_reach q.1 = Y2_6 by unfold yV_reach; rw [if_neg (by omega), if_pos (by omega)]] at hX'
    exact xj_callU (owner := "TrigramLines$Part") (x := ⟨"TrigramLines$Part", "reach", "(J)J"⟩) (hX' : XC G Y2_6 _ _ _ _ _ _ _) hd wd2_6 rfl e1 a1 a2 rfl w921 w920 ⟨by decide, by decide⟩ (Or.inl w919) w922 hli hAs hs hr hdd hc hse kk
  · obtain ⟨e, nd, cv, -, e1, -⟩ := k4 z
    have hX' := hX
    rw [show yV_reach q.1 = Y9_6 by unfold yV_reach; rw [if_neg (by omega), if_neg (by omega), if_pos z]] at hX'
    exact xj_callU (owner := "TrigramLines$Part") (x := ⟨"TrigramLines$Part", "reach", "(J)J"⟩) (hX' : XC G Y9_6 _ _ _ _ _ _ _) hd wd9_6 rfl e1 a1 a2 rfl w929 w920 ⟨by decide, by decide⟩ (Or.inl w919) w930 hli hAs hs hr hdd hc hse kk
  · obtain ⟨bl, lv, e1, -⟩ := k6 z
    have hX' := hX
    rw [show yV_reach q.1 = Y5_7 by unfold yV_reach; rw [if_neg (by omega), if_neg (by omega), if_neg (by omega), if_neg (by omega)]] at hX'
    exact xj_callU (owner := "TrigramLines$Part") (x := ⟨"TrigramLines$Part", "reach", "(J)J"⟩) (hX' : XC G Y5_7 _ _ _ _ _ _ _) hd wd5_7 rfl e1 a1 a2 rfl w928 w920 ⟨by decide, by decide⟩ (Or.inl w919) w911 hli hAs hs hr hdd hc hse kk
set_option maxRecDepth 20000 in
theorem wtS {G : xG} (hg : xGood G) {M : xM} {n : Nat} (hn : M.1 = n) (hx : xn ≤ n) {o : Nat} : XC G Y4_5 (some .int) 0 0 0 [.ref o] M (fun v M' => v = some (.int 1) ∧ M' = M) := by
  refine xc_of hg (by decide) (Nat.le_of_ble_eq_true rfl) (Or.inl ⟨rfl, rfl, fun v M' h => ⟨_, h.1⟩⟩) ?_
  refine xj_iconst (v := 1) d4_5_0 (by decide) ?_
  exact xj_ret d4_5_1 (by omega) (by omega) rfl ⟨rfl, rfl⟩
set_option maxRecDepth 20000 in
theorem wtA {G : xG} (hg : xGood G) {M : xM} {n : Nat} (hn : M.1 = n) (hx : xn ≤ n) {o : Nat} : XC G Y2_2 (some .int) 0 0 0 [.ref o] M (fun v M' => v = some (.int 1) ∧ M' = M) := by
  refine xc_of hg (by decide) (Nat.le_of_ble_eq_true rfl) (Or.inl ⟨rfl, rfl, fun v M' h => ⟨_, h.1⟩⟩) ?_
  refine xj_iconst (v := 1) d2_2_0 (by decide) ?_
  exact xj_ret d2_2_1 (by omega) (by omega) rfl ⟨rfl, rfl⟩
set_option maxRecDepth 20000 in
theorem wtRE {G : xG} (hg : xGood G) (hxn : xn = 16) {M : xM} {ow rk ad : Nat → Nat} {T X : Nat} {ℓ : xLk} {μ : xMu} {q : xNode} {o nd : Nat} {ls ck ll w : Int32} {cv wv : Value} {d0 : Nat} (hN : cN M ow rk ad T X ℓ μ q) (h1 : 1 ≤ q.1) (h6 : q.1 ≤ 6) (h5 : ¬ q.1 = 5) (hX : XC G (yV_weight q.1) (some .int) d0 0 0 [.ref X] M (fun v M' => v = some (.int w) ∧ M' = M)) (ho1 : 16 ≤ o) (ho2 : o < M.1) (h_o : M.2 o = (.inr (9, [.ref X, .int ls, .int (-1), .ref nd, cv, .int ck, .int ll, wv]))) (hl9 : ∃ k, k ≤ 9 ∧ ls = nI k) : XC G Y9_2 (some .int) (d0 + 1) 0 0 [.ref o] M (fun v M' => v = some (.int (pTim ls (-1) * (w + 1))) ∧ M' = M) := by
  have hmx : (if ls < 1 then 1 else ls) = pTim ls (-1) := by
    obtain ⟨k, hk, rfl⟩ := hl9
    unfold pTim
    rw [if_neg (show ¬ (0 : Int32) ≤ -1 by decide)]
    by_cases q : k = 0
    · subst q
      rfl
    · rw [if_neg (show ¬ nI k < 1 from nI_nlt (a := k) (b := 1) (by omega) (by omega)), if_neg (show ¬ nI k = 0 from fun z => q ((nI_eq (a := k) (b := 0) (by omega) (by omega)).mp z))]
  refine xc_of hg (by decide) (Nat.le_of_ble_eq_true rfl) (Or.inl ⟨rfl, rfl, fun v M' h => ⟨_, h.1⟩⟩) ?_
  refine xj_aload_n (i := 0) d9_2_0 rfl rfl ?_
  refine xj_get d9_2_1 f9_26_9 h_o (by omega) (show o < M.1 by omega) rfl ?_
  refine xj_iconst (v := (-1)) d9_2_4 (by decide) ?_
  refine xj_icmp_ne (tgt := 19) d9_2_5 rfl (fun h => absurd (by decide) h) (fun _ => ?_)
  refine xj_aload_n (i := 0) d9_2_8 rfl rfl ?_
  refine xj_get d9_2_9 f9_22_9 h_o (by omega) (show o < M.1 by omega) rfl ?_
  refine xj_iconst (v := 1) d9_2_12 (by decide) ?_
  refine xj_max d9_2_13 w734 w186 w10 w187 (by omega) (Nat.le_of_ble_eq_true rfl) (by omega) (by omega) ?_
  rw [show (if ls < 1 then 1 else ls) = pTim ls (-1) from hmx]
  refine xj_goto (tgt := 23) d9_2_16 rfl ?_
  refine xj_istore_n (i := 1) (L' := [(1, .int (pTim ls (-1))), (0, .ref o)]) d9_2_23 rfl (by decide) rfl ?_
  refine xj_iload_n (i := 1) d9_2_24 rfl rfl ?_
  refine xj_aload_n (i := 0) d9_2_25 rfl rfl ?_
  refine xj_get d9_2_26 f9_18_9 h_o (by omega) (show o < M.1 by omega) rfl ?_
  refine xj_v_weight (rest := [.int (pTim ls (-1))]) (As := []) hN h1 h6 h5 hX d9_2_29 w735 rfl rfl (Nat.le_of_ble_eq_true rfl) (by omega) (by omega) (by omega) ?_
  rintro v M' ⟨rfl, hm⟩
  subst M'
  refine xj_iconst (v := 1) d9_2_32 (by decide) ?_
  refine xj_iadd (v := w + 1) d9_2_33 rfl ?_
  refine xj_imul (v := (pTim ls (-1)) * (w + 1)) d9_2_34 rfl ?_
  exact xj_ret d9_2_35 (by omega) (by omega) rfl ⟨rfl, rfl⟩
set_option maxRecDepth 20000 in
theorem wtRN {G : xG} (hg : xGood G) (hxn : xn = 16) {M : xM} {ow rk ad : Nat → Nat} {T X : Nat} {ℓ : xLk} {μ : xMu} {q : xNode} {o nd : Nat} {ls ck ll w : Int32} {cv wv : Value} {d0 : Nat} {m9 : Nat} (hN : cN M ow rk ad T X ℓ μ q) (h1 : 1 ≤ q.1) (h6 : q.1 ≤ 6) (h5 : ¬ q.1 = 5) (hX : XC G (yV_weight q.1) (some .int) d0 0 0 [.ref X] M (fun v M' => v = some (.int w) ∧ M' = M)) (ho1 : 16 ≤ o) (ho2 : o < M.1) (h_o : M.2 o = (.inr (9, [.ref X, .int ls, .int (nI m9), .ref nd, cv, .int ck, .int ll, wv]))) (hm9 : m9 ≤ 9) : XC G Y9_2 (some .int) (d0 + 1) 0 0 [.ref o] M (fun v M' => v = some (.int (pTim ls (nI m9) * (w + 1))) ∧ M' = M) := by
  have htm : pTim ls (nI m9) = nI m9 := if_pos (Int32.not_lt.mp (nI_pos (by omega)))
  rw [htm]
  refine xc_of hg (by decide) (Nat.le_of_ble_eq_true rfl) (Or.inl ⟨rfl, rfl, fun v M' h => ⟨_, h.1⟩⟩) ?_
  refine xj_aload_n (i := 0) d9_2_0 rfl rfl ?_
  refine xj_get d9_2_1 f9_26_9 h_o (by omega) (show o < M.1 by omega) rfl ?_
  refine xj_iconst (v := (-1)) d9_2_4 (by decide) ?_
  refine xj_icmp_ne (tgt := 19) d9_2_5 rfl (fun _ => ?_) (fun h => absurd h (fun q => absurd (show (-1 : Int32) < 0 by decide) (by rw [← q]; exact nI_pos (by omega))))
  refine xj_aload_n (i := 0) d9_2_19 rfl rfl ?_
  refine xj_get d9_2_20 f9_26_9 h_o (by omega) (show o < M.1 by omega) rfl ?_
  refine xj_istore_n (i := 1) (L' := [(1, .int (nI m9)), (0, .ref o)]) d9_2_23 rfl (by decide) rfl ?_
  refine xj_iload_n (i := 1) d9_2_24 rfl rfl ?_
  refine xj_aload_n (i := 0) d9_2_25 rfl rfl ?_
  refine xj_get d9_2_26 f9_18_9 h_o (by omega) (show o < M.1 by omega) rfl ?_
  refine xj_v_weight (rest := [.int (nI m9)]) (As := []) hN h1 h6 h5 hX d9_2_29 w735 rfl rfl (Nat.le_of_ble_eq_true rfl) (by omega) (by omega) (by omega) ?_
  rintro v M' ⟨rfl, hm⟩
  subst M'
  refine xj_iconst (v := 1) d9_2_32 (by decide) ?_
  refine xj_iadd (v := w + 1) d9_2_33 rfl ?_
  refine xj_imul (v := (nI m9) * (w + 1)) d9_2_34 rfl ?_
  exact xj_ret d9_2_35 (by omega) (by omega) rfl ⟨rfl, rfl⟩
/-- all the nodes stand in the cells -/
def cA (M : xM) (ow rk ad : Nat → Nat) (ℓ : Nat → xLk) (μ : Nat → xMu) (A : List xNode) : Prop := ∀ (i : Nat) (q : xNode), A[i]? = some q → cN M ow rk ad (3 * i + 100) (ad i) (ℓ i) (μ i) q
theorem xg_fold {f : Nat → Int32} : ∀ (l : List Nat) (a : Int32), l.foldl (fun w p => w + 1 + f p) a = l.foldl (fun w p => w + f p) (a + nI l.length)
  | [], a => by
    show a = a + nI 0
    rw [show nI 0 = 0 from by decide, Int32.add_zero]
  | c :: l, a => by
    rw [List.foldl_cons, List.foldl_cons, xg_fold l]
    congr 1
    rw [List.length_cons, ← nI_1, Int32.add_assoc, Int32.add_assoc, Int32.add_assoc, Int32.add_assoc]
    congr 1
    rw [Int32.add_comm (f c) (nI l.length), ← Int32.add_assoc, ← Int32.add_assoc, Int32.add_comm 1 (nI l.length)]
set_option maxRecDepth 20000 in
theorem wtBL {G : xG} (hg : xGood G) (hxn : xn = 16) {M : xM} {ow rk ad : Nat → Nat} {ℓ : Nat → xLk} {μ : Nat → xMu} {A : List xNode} {p nd b : Nat} {wv : Value} {ch : List Nat} {P : Nat → Prop} {lv : Value} {d0 d ce se cells slots : Nat} (hd : d0 + 1 ≤ d) (hd0 : 3 ≤ d0) (hcc : cells ≤ ce) (hss : slots ≤ se) {w0 : Int32} (hA : cA M ow rk ad ℓ μ A) (hIH : ∀ c ∈ ch, XC G (yV_weight (pNd A c).1) (some .int) d0 0 0 [.ref (ad c)] M (fun v M' => v = some (.int (pNd A c).2.1) ∧ M' = M)) (hch : ∀ c ∈ ch, c < A.length ∧ 1 ≤ (pNd A c).1 ∧ (pNd A c).1 ≤ 6 ∧ ¬ (pNd A c).1 = 5) (hb1 : 16 ≤ b) (hb2 : b < M.1) (h_b : M.2 b = (.inr (6, [.ref p, .ref nd, wv]))) (hp1 : 16 ≤ p) (hp2 : p < M.1) (hp : xLs P M p (ch.map ad)) : ∀ (rest dn : List Nat) (sm : Int32), ch = dn ++ rest → sm = dn.foldl (fun w p => w + (pNd A p).2.1) w0 → XJ G Y3_6 d ce se cells slots 4 [(2, .int (nI dn.length)), (1, .int sm), (0, .ref b)] [] M (fun v M' => v = some (.int (ch.foldl (fun w p => w + (pNd A p).2.1) w0)) ∧ M' = M) := by
  obtain ⟨el, mo, h_p, hl9⟩ := xLs_len hp
  rw [List.length_map] at h_p hl9
  intro rest
  induction rest with
  | nil =>
    intro dn sm hsp hsm
    have hlen : ch.length = dn.length := by rw [hsp, List.append_nil]
    refine xj_iload_n (i := 2) d3_6_4 rfl rfl ?_
    refine xj_aload_n (i := 0) d3_6_5 rfl rfl ?_
    refine xj_get d3_6_6 f3_10_6 h_b (by omega) (show b < M.1 by omega) rfl ?_
    refine xj_callV (rest := [.int (nI dn.length)]) (As := []) (b := p) (cSize hg (M := M) (n := M.1) (a := p) (el := el) (sz := nI ch.length) (mo := mo) rfl (by omega) (by omega) (by omega) h_p) d3_6_9 wd28_8 h_p (by omega) (show p < M.1 by omega) rfl w230 w229 (Or.inl w478) rfl rfl (Nat.le_of_ble_eq_true rfl) (by omega) (by omega) (by omega) ?_
    rintro v M' ⟨rfl, hm⟩
    subst M'
    refine xj_icmp_ge (tgt := 38) d3_6_12 rfl (fun _ => ?_) (fun h => absurd (nI_le (a := ch.length) (b := dn.length) (by omega) (by omega)) h)
    refine xj_iload_n (i := 1) d3_6_38 rfl rfl ?_
    have hv9 : ch.foldl (fun w p => w + (pNd A p).2.1) w0 = sm := by rw [hsm, hsp, List.append_nil]
    exact xj_ret d3_6_39 hcc hss rfl ⟨by rw [hv9], rfl⟩
  | cons c rest ih =>
    intro dn sm hsp hsm
    have hcm : c ∈ ch := by rw [hsp]; simp
    have hk := hch c hcm
    obtain ⟨y, hy⟩ : ∃ y, ad c = y := ⟨_, rfl⟩
    have hN := hA c _ (xnd_at hk.1)
    have hW := hIH c hcm
    rw [hy] at hN hW
    have hgl : (ch.map ad)[dn.length]? = some y := by
      rw [hsp, List.map_append, List.getElem?_append_right (by rw [List.length_map]; exact Nat.le_refl _), List.length_map, Nat.sub_self, ← hy]
      rfl
    have hlen : ch.length = dn.length + (rest.length + 1) := by rw [hsp, List.length_append, List.length_cons]
    obtain ⟨x1, x2, bc_y, bf_y, bC_y, bT_y, bN_y, x3, hc_y, hA_y, x6, x7, hP_y⟩ := cN_ob hN hk.2.1 hk.2.2.1
    replace hP_y := hP_y hk.2.2.2
    refine xj_iload_n (i := 2) d3_6_4 rfl rfl ?_
    refine xj_aload_n (i := 0) d3_6_5 rfl rfl ?_
    refine xj_get d3_6_6 f3_10_6 h_b (by omega) (show b < M.1 by omega) rfl ?_
    refine xj_callV (rest := [.int (nI dn.length)]) (As := []) (b := p) (cSize hg (M := M) (n := M.1) (a := p) (el := el) (sz := nI ch.length) (mo := mo) rfl (by omega) (by omega) (by omega) h_p) d3_6_9 wd28_8 h_p (by omega) (show p < M.1 by omega) rfl w230 w229 (Or.inl w478) rfl rfl (Nat.le_of_ble_eq_true rfl) (by omega) (by omega) (by omega) ?_
    rintro v M' ⟨rfl, hm⟩
    subst M'
    refine xj_icmp_ge (tgt := 38) d3_6_12 rfl (fun h => absurd h (nI_ge (a := dn.length) (b := ch.length) (by omega) (by omega))) (fun _ => ?_)
    refine xj_iload_n (i := 1) d3_6_15 rfl rfl ?_
    refine xj_aload_n (i := 0) d3_6_16 rfl rfl ?_
    refine xj_get d3_6_17 f3_10_6 h_b (by omega) (show b < M.1 by omega) rfl ?_
    refine xj_iload_n (i := 2) d3_6_20 rfl rfl ?_
    refine xj_callV (rest := [.int sm]) (As := [.int (nI dn.length)]) (b := p) (xLs_get (k := dn.length) (b := y) hg hp (by omega) (by omega) hgl) d3_6_21 wd28_20 h_p (by omega) (show p < M.1 by omega) rfl w248 w247 (Or.inl w479) rfl rfl (Nat.le_of_ble_eq_true rfl) (by omega) (by omega) (by omega) ?_
    rintro v M' ⟨rfl, hm0⟩
    subst M'
    refine xj_cast d3_6_24 w487 x3 (by omega) (show y < M.1 by omega) hc_y hP_y ?_
    refine xj_v_weight (rest := [.int sm]) (As := []) hN hk.2.1 hk.2.2.1 hk.2.2.2 hW d3_6_27 w720 rfl rfl (Nat.le_of_ble_eq_true rfl) (by omega) (by omega) (by omega) ?_
    rintro v M' ⟨rfl, hm⟩
    subst M'
    refine xj_iadd (v := sm + ((pNd A c).2.1)) d3_6_30 rfl ?_
    refine xj_istore_n (i := 1) (L' := [(1, .int (sm + ((pNd A c).2.1))), (2, .int (nI dn.length)), (0, .ref b)]) d3_6_31 rfl (by decide) rfl ?_
    refine xj_iinc (v := nI (dn.length + 1)) (L' := [(2, .int (nI (dn.length + 1))), (1, .int (sm + ((pNd A c).2.1))), (0, .ref b)]) d3_6_32 rfl (xinc _) (by decide) rfl ?_
    refine xj_goto (tgt := 4) d3_6_35 rfl ?_
    have h9 := ih (dn ++ [c]) (sm + (pNd A c).2.1) (by rw [hsp]; simp) (by rw [List.foldl_append, ← hsm]; rfl)
    rw [List.length_append, List.length_singleton] at h9
    exact h9
set_option maxRecDepth 20000 in
theorem wtB {G : xG} (hg : xGood G) (hxn : xn = 16) {M : xM} {ow rk ad : Nat → Nat} {ℓ : Nat → xLk} {μ : Nat → xMu} {A : List xNode} {p nd b : Nat} {wv : Value} {ch : List Nat} {P : Nat → Prop} {lv : Value} {d0 : Nat} (hd0 : 3 ≤ d0) (hA : cA M ow rk ad ℓ μ A) (hIH : ∀ c ∈ ch, XC G (yV_weight (pNd A c).1) (some .int) d0 0 0 [.ref (ad c)] M (fun v M' => v = some (.int (pNd A c).2.1) ∧ M' = M)) (hch : ∀ c ∈ ch, c < A.length ∧ 1 ≤ (pNd A c).1 ∧ (pNd A c).1 ≤ 6 ∧ ¬ (pNd A c).1 = 5) (hb1 : 16 ≤ b) (hb2 : b < M.1) (h_b : M.2 b = (.inr (6, [.ref p, .ref nd, wv]))) (hp1 : 16 ≤ p) (hp2 : p < M.1) (hp : xLs P M p (ch.map ad)) : XC G Y3_6 (some .int) (d0 + 1) 0 0 [.ref b] M (fun v M' => v = some (.int (pSum A ch)) ∧ M' = M) := by
  obtain ⟨el, mo, h_p, hl9⟩ := xLs_len hp
  rw [List.length_map] at h_p hl9
  refine xc_of hg (by decide) (Nat.le_of_ble_eq_true rfl) (Or.inl ⟨rfl, rfl, fun v M' h => ⟨_, h.1⟩⟩) ?_
  refine xj_iconst (v := 0) d3_6_0 (by decide) ?_
  refine xj_istore_n (i := 1) (L' := [(1, .int 0), (0, .ref b)]) d3_6_1 rfl (by decide) rfl ?_
  refine xj_iconst (v := 0) d3_6_2 (by decide) ?_
  refine xj_istore_n (i := 2) (L' := [(2, .int 0), (1, .int 0), (0, .ref b)]) d3_6_3 rfl (by decide) rfl ?_
  exact wtBL (lv := lv) (nd := nd) hg hxn (d0 := d0) (Nat.le_refl _) hd0 (Nat.le_refl _) (Nat.le_refl _) hA hIH hch hb1 hb2 h_b hp1 hp2 hp ch [] _ rfl rfl
set_option maxRecDepth 20000 in
theorem wtGL {G : xG} (hg : xGood G) (hxn : xn = 16) {M : xM} {ow rk ad : Nat → Nat} {ℓ : Nat → xLk} {μ : Nat → xMu} {A : List xNode} {p nd b : Nat} {wv : Value} {ch : List Nat} {P : Nat → Prop} {lv : Value} {d0 d ce se cells slots : Nat} (hd : d0 + 1 ≤ d) (hd0 : 3 ≤ d0) (hcc : cells ≤ ce) (hss : slots ≤ se) {w0 : Int32} (hA : cA M ow rk ad ℓ μ A) (hIH : ∀ c ∈ ch, XC G (yV_weight (pNd A c).1) (some .int) d0 0 0 [.ref (ad c)] M (fun v M' => v = some (.int (pNd A c).2.1) ∧ M' = M)) (hch : ∀ c ∈ ch, c < A.length ∧ 1 ≤ (pNd A c).1 ∧ (pNd A c).1 ≤ 6 ∧ (pNd A c).1 = 5) (hb1 : 16 ≤ b) (hb2 : b < M.1) (h_b : M.2 b = (.inr (5, [.ref p, lv, wv]))) (hp1 : 16 ≤ p) (hp2 : p < M.1) (hp : xLs P M p (ch.map ad)) : ∀ (rest dn : List Nat) (sm : Int32), ch = dn ++ rest → sm = dn.foldl (fun w p => w + (pNd A p).2.1) w0 → XJ G Y5_3 d ce se cells slots 12 [(2, .int (nI dn.length)), (1, .int sm), (0, .ref b)] [] M (fun v M' => v = some (.int (ch.foldl (fun w p => w + (pNd A p).2.1) w0)) ∧ M' = M) := by
  obtain ⟨el, mo, h_p, hl9⟩ := xLs_len hp
  rw [List.length_map] at h_p hl9
  intro rest
  induction rest with
  | nil =>
    intro dn sm hsp hsm
    have hlen : ch.length = dn.length := by rw [hsp, List.append_nil]
    refine xj_iload_n (i := 2) d5_3_12 rfl rfl ?_
    refine xj_aload_n (i := 0) d5_3_13 rfl rfl ?_
    refine xj_get d5_3_14 f5_10_5 h_b (by omega) (show b < M.1 by omega) rfl ?_
    refine xj_callV (rest := [.int (nI dn.length)]) (As := []) (b := p) (cSize hg (M := M) (n := M.1) (a := p) (el := el) (sz := nI ch.length) (mo := mo) rfl (by omega) (by omega) (by omega) h_p) d5_3_17 wd28_8 h_p (by omega) (show p < M.1 by omega) rfl w230 w229 (Or.inl w714) rfl rfl (Nat.le_of_ble_eq_true rfl) (by omega) (by omega) (by omega) ?_
    rintro v M' ⟨rfl, hm⟩
    subst M'
    refine xj_icmp_ge (tgt := 46) d5_3_20 rfl (fun _ => ?_) (fun h => absurd (nI_le (a := ch.length) (b := dn.length) (by omega) (by omega)) h)
    refine xj_iload_n (i := 1) d5_3_46 rfl rfl ?_
    have hv9 : ch.foldl (fun w p => w + (pNd A p).2.1) w0 = sm := by rw [hsm, hsp, List.append_nil]
    exact xj_ret d5_3_47 hcc hss rfl ⟨by rw [hv9], rfl⟩
  | cons c rest ih =>
    intro dn sm hsp hsm
    have hcm : c ∈ ch := by rw [hsp]; simp
    have hk := hch c hcm
    obtain ⟨y, hy⟩ : ∃ y, ad c = y := ⟨_, rfl⟩
    have hN := hA c _ (xnd_at hk.1)
    have hW := hIH c hcm
    rw [hy] at hN hW
    have hgl : (ch.map ad)[dn.length]? = some y := by
      rw [hsp, List.map_append, List.getElem?_append_right (by rw [List.length_map]; exact Nat.le_refl _), List.length_map, Nat.sub_self, ← hy]
      rfl
    have hlen : ch.length = dn.length + (rest.length + 1) := by rw [hsp, List.length_append, List.length_cons]
    obtain ⟨wv9, -, ⟨x1, x2, -, -⟩, -, -, -, k5, -⟩ := hN
    obtain ⟨p9, nd9, x3, -⟩ := k5 hk.2.2.2
    rw [show yV_weight (pNd A c).1 = Y3_6 by unfold yV_weight; rw [hk.2.2.2]; rfl] at hW
    refine xj_iload_n (i := 2) d5_3_12 rfl rfl ?_
    refine xj_aload_n (i := 0) d5_3_13 rfl rfl ?_
    refine xj_get d5_3_14 f5_10_5 h_b (by omega) (show b < M.1 by omega) rfl ?_
    refine xj_callV (rest := [.int (nI dn.length)]) (As := []) (b := p) (cSize hg (M := M) (n := M.1) (a := p) (el := el) (sz := nI ch.length) (mo := mo) rfl (by omega) (by omega) (by omega) h_p) d5_3_17 wd28_8 h_p (by omega) (show p < M.1 by omega) rfl w230 w229 (Or.inl w714) rfl rfl (Nat.le_of_ble_eq_true rfl) (by omega) (by omega) (by omega) ?_
    rintro v M' ⟨rfl, hm⟩
    subst M'
    refine xj_icmp_ge (tgt := 46) d5_3_20 rfl (fun h => absurd h (nI_ge (a := dn.length) (b := ch.length) (by omega) (by omega))) (fun _ => ?_)
    refine xj_iload_n (i := 1) d5_3_23 rfl rfl ?_
    refine xj_aload_n (i := 0) d5_3_24 rfl rfl ?_
    refine xj_get d5_3_25 f5_10_5 h_b (by omega) (show b < M.1 by omega) rfl ?_
    refine xj_iload_n (i := 2) d5_3_28 rfl rfl ?_
    refine xj_callV (rest := [.int sm]) (As := [.int (nI dn.length)]) (b := p) (xLs_get (k := dn.length) (b := y) hg hp (by omega) (by omega) hgl) d5_3_29 wd28_20 h_p (by omega) (show p < M.1 by omega) rfl w248 w247 (Or.inl w715) rfl rfl (Nat.le_of_ble_eq_true rfl) (by omega) (by omega) (by omega) ?_
    rintro v M' ⟨rfl, hm0⟩
    subst M'
    refine xj_cast d5_3_32 w325 x3 (by omega) (show y < M.1 by omega) rfl (Or.inl rfl) ?_
    refine xj_callV (rest := [.int sm]) (As := []) (b := y) hW d5_3_35 wd3_6 x3 (by omega) (show y < M.1 by omega) rfl w718 w717 (Or.inl w716) rfl rfl (Nat.le_of_ble_eq_true rfl) (by omega) (by omega) (by omega) ?_
    rintro v M' ⟨rfl, hm⟩
    subst M'
    refine xj_iadd (v := sm + ((pNd A c).2.1)) d5_3_38 rfl ?_
    refine xj_istore_n (i := 1) (L' := [(1, .int (sm + ((pNd A c).2.1))), (2, .int (nI dn.length)), (0, .ref b)]) d5_3_39 rfl (by decide) rfl ?_
    refine xj_iinc (v := nI (dn.length + 1)) (L' := [(2, .int (nI (dn.length + 1))), (1, .int (sm + ((pNd A c).2.1))), (0, .ref b)]) d5_3_40 rfl (xinc _) (by decide) rfl ?_
    refine xj_goto (tgt := 12) d5_3_43 rfl ?_
    have h9 := ih (dn ++ [c]) (sm + (pNd A c).2.1) (by rw [hsp]; simp) (by rw [List.foldl_append, ← hsm]; rfl)
    rw [List.length_append, List.length_singleton] at h9
    exact h9
set_option maxRecDepth 20000 in
theorem wtG {G : xG} (hg : xGood G) (hxn : xn = 16) {M : xM} {ow rk ad : Nat → Nat} {ℓ : Nat → xLk} {μ : Nat → xMu} {A : List xNode} {p nd b : Nat} {wv : Value} {ch : List Nat} {P : Nat → Prop} {lv : Value} {d0 : Nat} (hd0 : 3 ≤ d0) (hA : cA M ow rk ad ℓ μ A) (hIH : ∀ c ∈ ch, XC G (yV_weight (pNd A c).1) (some .int) d0 0 0 [.ref (ad c)] M (fun v M' => v = some (.int (pNd A c).2.1) ∧ M' = M)) (hch : ∀ c ∈ ch, c < A.length ∧ 1 ≤ (pNd A c).1 ∧ (pNd A c).1 ≤ 6 ∧ (pNd A c).1 = 5) (hb1 : 16 ≤ b) (hb2 : b < M.1) (h_b : M.2 b = (.inr (5, [.ref p, lv, wv]))) (hp1 : 16 ≤ p) (hp2 : p < M.1) (hp : xLs P M p (ch.map ad)) : XC G Y5_3 (some .int) (d0 + 1) 0 0 [.ref b] M (fun v M' => v = some (.int (pSumG A ch)) ∧ M' = M) := by
  obtain ⟨el, mo, h_p, hl9⟩ := xLs_len hp
  rw [List.length_map] at h_p hl9
  rw [show pSumG A ch = ch.foldl (fun w p => w + (pNd A p).2.1) (nI ch.length - 1) from (xg_fold (f := fun p => (pNd A p).2.1) ch (-1)).trans (by rw [Int32.add_comm, ← Int32.sub_eq_add_neg])]
  refine xc_of hg (by decide) (Nat.le_of_ble_eq_true rfl) (Or.inl ⟨rfl, rfl, fun v M' h => ⟨_, h.1⟩⟩) ?_
  refine xj_aload_n (i := 0) d5_3_0 rfl rfl ?_
  refine xj_get d5_3_1 f5_10_5 h_b (by omega) (show b < M.1 by omega) rfl ?_
  refine xj_callV (rest := []) (As := []) (b := p) (cSize hg (M := M) (n := M.1) (a := p) (el := el) (sz := nI ch.length) (mo := mo) rfl (by omega) (by omega) (by omega) h_p) d5_3_4 wd28_8 h_p (by omega) (show p < M.1 by omega) rfl w230 w229 (Or.inl w714) rfl rfl (Nat.le_of_ble_eq_true rfl) (by omega) (by omega) (by omega) ?_
  rintro v M' ⟨rfl, hm⟩
  subst M'
  refine xj_iconst (v := 1) d5_3_7 (by decide) ?_
  refine xj_isub (v := (nI ch.length) - 1) d5_3_8 rfl ?_
  refine xj_istore_n (i := 1) (L' := [(1, .int ((nI ch.length) - 1)), (0, .ref b)]) d5_3_9 rfl (by decide) rfl ?_
  refine xj_iconst (v := 0) d5_3_10 (by decide) ?_
  refine xj_istore_n (i := 2) (L' := [(2, .int 0), (1, .int ((nI ch.length) - 1)), (0, .ref b)]) d5_3_11 rfl (by decide) rfl ?_
  exact wtGL (lv := lv) (nd := nd) hg hxn (d0 := d0) (Nat.le_refl _) hd0 (Nat.le_refl _) (Nat.le_refl _) hA hIH hch hb1 hb2 h_b hp1 hp2 hp ch [] _ rfl rfl
theorem kWt {G : xG} (hg : xGood G) (hxn : xn = 16) {M : xM} {ow rk ad : Nat → Nat} {ℓ : Nat → xLk} {μ : Nat → xMu} {A : List xNode} {lo : Nat → Nat} (hA : cA M ow rk ad ℓ μ A) (hO : ∀ (i : Nat) (q : xNode), A[i]? = some q → pOk A lo i q) : ∀ (i : Nat) (q : xNode), A[i]? = some q → XC G (yV_weight q.1) (some .int) (3 * i + 4) 0 0 [.ref (ad i)] M (fun v M' => v = some (.int q.2.1) ∧ M' = M) := by
  intro i
  induction i using Nat.strongRecOn with
  | ind i ih =>
    intro q hq
    obtain ⟨h1, h2, h3, h4, h5, h6, h7⟩ := hO i q hq
    have hiv := pIv_le h1
    have hN := hA i q hq
    have hi : i < A.length := (List.getElem?_eq_some_iff.mp hq).1
    have hch : ∀ c ∈ q.2.2.1, c < A.length ∧ c < i := fun c hc => by
      have := (hiv.2 c hc).2.1
      omega
    have hkd : ∀ c ∈ q.2.2.1, 1 ≤ (pNd A c).1 ∧ (pNd A c).1 ≤ 6 := fun c hc => (hO c _ (xnd_at (hch c hc).1)).2.1
    have hIH : ∀ c ∈ q.2.2.1, XC G (yV_weight (pNd A c).1) (some .int) (3 * i + 3) 0 0 [.ref (ad c)] M (fun v M' => v = some (.int (pNd A c).2.1) ∧ M' = M) := fun c hc => xc_wk (ih c (hch c hc).2 _ (xnd_at (hch c hc).1)) (by have := (hch c hc).2; omega) (Nat.le_refl _) (Nat.le_refl _) (fun v M' h => h)
    have hkk : q.1 = 1 ∨ (q.1 = 2 ∨ q.1 = 3) ∨ q.1 = 4 ∨ q.1 = 5 ∨ q.1 = 6 := by omega
    obtain ⟨wv, hv, ⟨a1, a2, a3, a4⟩, k1, k2, k4, k5, k6⟩ := hN
    rw [h3]
    rcases hkk with z | z | z | z | z
    · rw [show yV_weight q.1 = Y4_5 by unfold yV_weight; rw [if_pos z], show pWt A q = 1 from if_pos (by omega)]
      exact xc_wk (wtS hg rfl (by omega)) (by omega) (Nat.le_refl _) (Nat.le_refl _) (fun v M' h => h)
    · rw [show yV_weight q.1 = Y2_2 by unfold yV_weight; rw [if_neg (by omega), if_pos (by omega)], show pWt A q = 1 from if_pos (by omega)]
      exact xc_wk (wtA hg rfl (by omega)) (by omega) (Nat.le_refl _) (Nat.le_refl _) (fun v M' h => h)
    · rw [show yV_weight q.1 = Y9_2 by unfold yV_weight; rw [if_neg (by omega), if_neg (by omega), if_pos z]]
      obtain ⟨e, nd, cv, e1, e2, e3, e4⟩ := k4 z
      obtain ⟨-, k, hk9, hk1, hk2⟩ := h5 z
      have hec : e ∈ q.2.2.1 := by rw [e1]; simp
      have hwt : pWt A q = pTim q.2.2.2.1 q.2.2.2.2.1 * ((pNd A e).2.1 + 1) := by
        unfold pWt
        rw [if_neg (by omega), if_pos z, e1]
        rfl
      rw [hwt]
      have hX := hIH e hec
      have hNe := hA e _ (xnd_at (hch e hec).1)
      rcases hk2 with w | ⟨m, m1, m2, m3⟩
      · rw [w] at e2 ⊢
        exact wtRE hg hxn hNe (hkd e hec).1 (hkd e hec).2 (h7 (by omega) e hec) hX (by omega) a2 e2 ⟨k, hk9, hk1⟩
      · rw [m3] at e2 ⊢
        exact wtRN hg hxn hNe (hkd e hec).1 (hkd e hec).2 (h7 (by omega) e hec) hX (by omega) a2 e2 m2
    · rw [show yV_weight q.1 = Y3_6 by unfold yV_weight; rw [if_neg (by omega), if_neg (by omega), if_neg (by omega), if_pos z]]
      obtain ⟨p, nd, e1, ⟨⟨p1, p2, p3, p4⟩, p5⟩, e3⟩ := k5 z
      have hwt : pWt A q = pSum A q.2.2.1 := by
        unfold pWt
        rw [if_neg (by omega), if_neg (by omega), if_pos z]
      rw [hwt]
      exact wtB (lv := .null) hg hxn (by omega) hA hIH (fun c hc => ⟨(hch c hc).1, (hkd c hc).1, (hkd c hc).2, h7 (by omega) c hc⟩) (by omega) a2 e1 (by omega) p2 p5
    · rw [show yV_weight q.1 = Y5_3 by unfold yV_weight; rw [if_neg (by omega), if_neg (by omega), if_neg (by omega), if_neg (by omega)]]
      obtain ⟨bl, lv, e1, ⟨p1, p2, p3, p4⟩, p5⟩ := k6 z
      have hwt : pWt A q = pSumG A q.2.2.1 := by
        unfold pWt
        rw [if_neg (by omega), if_neg (by omega), if_neg (by omega)]
      rw [hwt]
      exact wtG (nd := 0) hg hxn (by omega) hA hIH (fun c hc => ⟨(hch c hc).1, (hkd c hc).1, (hkd c hc).2, h6 z c hc⟩) (by omega) a2 e1 (by omega) p2 p5

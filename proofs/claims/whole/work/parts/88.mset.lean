theorem xsub32 (x : Nat) : nI (x + 32) - 32 = nI x := by
  rw [show (32 : Int32) = nI 32 from by decide, pk_sub (by omega)]
  rw [Nat.add_sub_cancel]
set_option maxRecDepth 20000 in
theorem mDigit {G : xG} (hg : xGood G) {M : xM} {n : Nat} (hn : M.1 = n) (hx : xn ≤ n) {c : Int32} : XC G Y14_27 (some .boolean) 0 0 0 [.int c] M (fun v M' => v = some (.int (xB (pDig c))) ∧ M' = M) := by
  refine xc_of hg (by decide) (Nat.le_of_ble_eq_true rfl) (Or.inr (Or.inl ⟨rfl, rfl, fun v M' h => ⟨_, h.1, xB_01 _⟩⟩)) ?_
  refine xj_iload_n (i := 0) d14_27_0 rfl rfl ?_
  refine xj_bipush (v := 48) d14_27_1 (by decide) ?_
  refine xj_icmp_lt (tgt := 16) d14_27_3 rfl (fun hb1 => ?_) (fun hb1 => ?_)
  · refine xj_iconst (v := 0) d14_27_16 (by decide) ?_
    exact xj_ret d14_27_17 (by omega) (by omega) rfl ⟨(by rw [xB_f (show ¬ pDig c from fun q => by first | exact absurd hb1 (Int32.not_lt.mpr q.1) | exact absurd hb2 (Int32.not_lt.mpr q.2))]), rfl⟩
  · refine xj_iload_n (i := 0) d14_27_6 rfl rfl ?_
    refine xj_bipush (v := 57) d14_27_7 (by decide) ?_
    refine xj_icmp_gt (tgt := 16) d14_27_9 rfl (fun hb2 => ?_) (fun hb2 => ?_)
    · refine xj_iconst (v := 0) d14_27_16 (by decide) ?_
      exact xj_ret d14_27_17 (by omega) (by omega) rfl ⟨(by rw [xB_f (show ¬ pDig c from fun q => by first | exact absurd hb1 (Int32.not_lt.mpr q.1) | exact absurd hb2 (Int32.not_lt.mpr q.2))]), rfl⟩
    · refine xj_iconst (v := 1) d14_27_12 (by decide) ?_
      refine xj_goto (tgt := 17) d14_27_13 rfl ?_
      exact xj_ret d14_27_17 (by omega) (by omega) rfl ⟨(by rw [xB_t (show pDig c from ⟨Int32.not_lt.mp hb1, Int32.not_lt.mp hb2⟩)]), rfl⟩
set_option maxRecDepth 20000 in
theorem mSpecial {G : xG} (hg : xGood G) {M : xM} {n : Nat} (hn : M.1 = n) (hx : xn ≤ n) {c : Int32} : XC G Y14_30 (some .boolean) 0 0 0 [.int c] M (fun v M' => v = some (.int (xB (pSpe c))) ∧ M' = M) := by
  refine xc_of hg (by decide) (Nat.le_of_ble_eq_true rfl) (Or.inr (Or.inl ⟨rfl, rfl, fun v M' h => ⟨_, h.1, xB_01 _⟩⟩)) ?_
  refine xj_iload_n (i := 0) d14_30_0 rfl rfl ?_
  refine xj_bipush (v := 94) d14_30_1 (by decide) ?_
  refine xj_icmp_eq (tgt := 72) d14_30_3 rfl (fun hb1 => ?_) (fun hb1 => ?_)
  · refine xj_iconst (v := 1) d14_30_72 (by decide) ?_
    refine xj_goto (tgt := 77) d14_30_73 rfl ?_
    exact xj_ret d14_30_77 (by omega) (by omega) rfl ⟨(by rw [xB_t (show pSpe c from by unfold pSpe; first | exact Or.inl hb1 | exact Or.inr (Or.inl hb2) | exact Or.inr (Or.inr (Or.inl hb3)) | exact Or.inr (Or.inr (Or.inr (Or.inl hb4))) | exact Or.inr (Or.inr (Or.inr (Or.inr (Or.inl hb5)))) | exact Or.inr (Or.inr (Or.inr (Or.inr (Or.inr (Or.inl hb6))))) | exact Or.inr (Or.inr (Or.inr (Or.inr (Or.inr (Or.inr (Or.inl hb7)))))) | exact Or.inr (Or.inr (Or.inr (Or.inr (Or.inr (Or.inr (Or.inr (Or.inl hb8))))))) | exact Or.inr (Or.inr (Or.inr (Or.inr (Or.inr (Or.inr (Or.inr (Or.inr (Or.inl hb9)))))))) | exact Or.inr (Or.inr (Or.inr (Or.inr (Or.inr (Or.inr (Or.inr (Or.inr (Or.inr (Or.inl hb10))))))))) | exact Or.inr (Or.inr (Or.inr (Or.inr (Or.inr (Or.inr (Or.inr (Or.inr (Or.inr (Or.inr (Or.inl hb11)))))))))) | exact Or.inr (Or.inr (Or.inr (Or.inr (Or.inr (Or.inr (Or.inr (Or.inr (Or.inr (Or.inr (Or.inr (hb12))))))))))))]), rfl⟩
  · refine xj_iload_n (i := 0) d14_30_6 rfl rfl ?_
    refine xj_bipush (v := 46) d14_30_7 (by decide) ?_
    refine xj_icmp_eq (tgt := 72) d14_30_9 rfl (fun hb2 => ?_) (fun hb2 => ?_)
    · refine xj_iconst (v := 1) d14_30_72 (by decide) ?_
      refine xj_goto (tgt := 77) d14_30_73 rfl ?_
      exact xj_ret d14_30_77 (by omega) (by omega) rfl ⟨(by rw [xB_t (show pSpe c from by unfold pSpe; first | exact Or.inl hb1 | exact Or.inr (Or.inl hb2) | exact Or.inr (Or.inr (Or.inl hb3)) | exact Or.inr (Or.inr (Or.inr (Or.inl hb4))) | exact Or.inr (Or.inr (Or.inr (Or.inr (Or.inl hb5)))) | exact Or.inr (Or.inr (Or.inr (Or.inr (Or.inr (Or.inl hb6))))) | exact Or.inr (Or.inr (Or.inr (Or.inr (Or.inr (Or.inr (Or.inl hb7)))))) | exact Or.inr (Or.inr (Or.inr (Or.inr (Or.inr (Or.inr (Or.inr (Or.inl hb8))))))) | exact Or.inr (Or.inr (Or.inr (Or.inr (Or.inr (Or.inr (Or.inr (Or.inr (Or.inl hb9)))))))) | exact Or.inr (Or.inr (Or.inr (Or.inr (Or.inr (Or.inr (Or.inr (Or.inr (Or.inr (Or.inl hb10))))))))) | exact Or.inr (Or.inr (Or.inr (Or.inr (Or.inr (Or.inr (Or.inr (Or.inr (Or.inr (Or.inr (Or.inl hb11)))))))))) | exact Or.inr (Or.inr (Or.inr (Or.inr (Or.inr (Or.inr (Or.inr (Or.inr (Or.inr (Or.inr (Or.inr (hb12))))))))))))]), rfl⟩
    · refine xj_iload_n (i := 0) d14_30_12 rfl rfl ?_
      refine xj_bipush (v := 91) d14_30_13 (by decide) ?_
      refine xj_icmp_eq (tgt := 72) d14_30_15 rfl (fun hb3 => ?_) (fun hb3 => ?_)
      · refine xj_iconst (v := 1) d14_30_72 (by decide) ?_
        refine xj_goto (tgt := 77) d14_30_73 rfl ?_
        exact xj_ret d14_30_77 (by omega) (by omega) rfl ⟨(by rw [xB_t (show pSpe c from by unfold pSpe; first | exact Or.inl hb1 | exact Or.inr (Or.inl hb2) | exact Or.inr (Or.inr (Or.inl hb3)) | exact Or.inr (Or.inr (Or.inr (Or.inl hb4))) | exact Or.inr (Or.inr (Or.inr (Or.inr (Or.inl hb5)))) | exact Or.inr (Or.inr (Or.inr (Or.inr (Or.inr (Or.inl hb6))))) | exact Or.inr (Or.inr (Or.inr (Or.inr (Or.inr (Or.inr (Or.inl hb7)))))) | exact Or.inr (Or.inr (Or.inr (Or.inr (Or.inr (Or.inr (Or.inr (Or.inl hb8))))))) | exact Or.inr (Or.inr (Or.inr (Or.inr (Or.inr (Or.inr (Or.inr (Or.inr (Or.inl hb9)))))))) | exact Or.inr (Or.inr (Or.inr (Or.inr (Or.inr (Or.inr (Or.inr (Or.inr (Or.inr (Or.inl hb10))))))))) | exact Or.inr (Or.inr (Or.inr (Or.inr (Or.inr (Or.inr (Or.inr (Or.inr (Or.inr (Or.inr (Or.inl hb11)))))))))) | exact Or.inr (Or.inr (Or.inr (Or.inr (Or.inr (Or.inr (Or.inr (Or.inr (Or.inr (Or.inr (Or.inr (hb12))))))))))))]), rfl⟩
      · refine xj_iload_n (i := 0) d14_30_18 rfl rfl ?_
        refine xj_bipush (v := 36) d14_30_19 (by decide) ?_
        refine xj_icmp_eq (tgt := 72) d14_30_21 rfl (fun hb4 => ?_) (fun hb4 => ?_)
        · refine xj_iconst (v := 1) d14_30_72 (by decide) ?_
          refine xj_goto (tgt := 77) d14_30_73 rfl ?_
          exact xj_ret d14_30_77 (by omega) (by omega) rfl ⟨(by rw [xB_t (show pSpe c from by unfold pSpe; first | exact Or.inl hb1 | exact Or.inr (Or.inl hb2) | exact Or.inr (Or.inr (Or.inl hb3)) | exact Or.inr (Or.inr (Or.inr (Or.inl hb4))) | exact Or.inr (Or.inr (Or.inr (Or.inr (Or.inl hb5)))) | exact Or.inr (Or.inr (Or.inr (Or.inr (Or.inr (Or.inl hb6))))) | exact Or.inr (Or.inr (Or.inr (Or.inr (Or.inr (Or.inr (Or.inl hb7)))))) | exact Or.inr (Or.inr (Or.inr (Or.inr (Or.inr (Or.inr (Or.inr (Or.inl hb8))))))) | exact Or.inr (Or.inr (Or.inr (Or.inr (Or.inr (Or.inr (Or.inr (Or.inr (Or.inl hb9)))))))) | exact Or.inr (Or.inr (Or.inr (Or.inr (Or.inr (Or.inr (Or.inr (Or.inr (Or.inr (Or.inl hb10))))))))) | exact Or.inr (Or.inr (Or.inr (Or.inr (Or.inr (Or.inr (Or.inr (Or.inr (Or.inr (Or.inr (Or.inl hb11)))))))))) | exact Or.inr (Or.inr (Or.inr (Or.inr (Or.inr (Or.inr (Or.inr (Or.inr (Or.inr (Or.inr (Or.inr (hb12))))))))))))]), rfl⟩
        · refine xj_iload_n (i := 0) d14_30_24 rfl rfl ?_
          refine xj_bipush (v := 40) d14_30_25 (by decide) ?_
          refine xj_icmp_eq (tgt := 72) d14_30_27 rfl (fun hb5 => ?_) (fun hb5 => ?_)
          · refine xj_iconst (v := 1) d14_30_72 (by decide) ?_
            refine xj_goto (tgt := 77) d14_30_73 rfl ?_
            exact xj_ret d14_30_77 (by omega) (by omega) rfl ⟨(by rw [xB_t (show pSpe c from by unfold pSpe; first | exact Or.inl hb1 | exact Or.inr (Or.inl hb2) | exact Or.inr (Or.inr (Or.inl hb3)) | exact Or.inr (Or.inr (Or.inr (Or.inl hb4))) | exact Or.inr (Or.inr (Or.inr (Or.inr (Or.inl hb5)))) | exact Or.inr (Or.inr (Or.inr (Or.inr (Or.inr (Or.inl hb6))))) | exact Or.inr (Or.inr (Or.inr (Or.inr (Or.inr (Or.inr (Or.inl hb7)))))) | exact Or.inr (Or.inr (Or.inr (Or.inr (Or.inr (Or.inr (Or.inr (Or.inl hb8))))))) | exact Or.inr (Or.inr (Or.inr (Or.inr (Or.inr (Or.inr (Or.inr (Or.inr (Or.inl hb9)))))))) | exact Or.inr (Or.inr (Or.inr (Or.inr (Or.inr (Or.inr (Or.inr (Or.inr (Or.inr (Or.inl hb10))))))))) | exact Or.inr (Or.inr (Or.inr (Or.inr (Or.inr (Or.inr (Or.inr (Or.inr (Or.inr (Or.inr (Or.inl hb11)))))))))) | exact Or.inr (Or.inr (Or.inr (Or.inr (Or.inr (Or.inr (Or.inr (Or.inr (Or.inr (Or.inr (Or.inr (hb12))))))))))))]), rfl⟩
          · refine xj_iload_n (i := 0) d14_30_30 rfl rfl ?_
            refine xj_bipush (v := 41) d14_30_31 (by decide) ?_
            refine xj_icmp_eq (tgt := 72) d14_30_33 rfl (fun hb6 => ?_) (fun hb6 => ?_)
            · refine xj_iconst (v := 1) d14_30_72 (by decide) ?_
              refine xj_goto (tgt := 77) d14_30_73 rfl ?_
              exact xj_ret d14_30_77 (by omega) (by omega) rfl ⟨(by rw [xB_t (show pSpe c from by unfold pSpe; first | exact Or.inl hb1 | exact Or.inr (Or.inl hb2) | exact Or.inr (Or.inr (Or.inl hb3)) | exact Or.inr (Or.inr (Or.inr (Or.inl hb4))) | exact Or.inr (Or.inr (Or.inr (Or.inr (Or.inl hb5)))) | exact Or.inr (Or.inr (Or.inr (Or.inr (Or.inr (Or.inl hb6))))) | exact Or.inr (Or.inr (Or.inr (Or.inr (Or.inr (Or.inr (Or.inl hb7)))))) | exact Or.inr (Or.inr (Or.inr (Or.inr (Or.inr (Or.inr (Or.inr (Or.inl hb8))))))) | exact Or.inr (Or.inr (Or.inr (Or.inr (Or.inr (Or.inr (Or.inr (Or.inr (Or.inl hb9)))))))) | exact Or.inr (Or.inr (Or.inr (Or.inr (Or.inr (Or.inr (Or.inr (Or.inr (Or.inr (Or.inl hb10))))))))) | exact Or.inr (Or.inr (Or.inr (Or.inr (Or.inr (Or.inr (Or.inr (Or.inr (Or.inr (Or.inr (Or.inl hb11)))))))))) | exact Or.inr (Or.inr (Or.inr (Or.inr (Or.inr (Or.inr (Or.inr (Or.inr (Or.inr (Or.inr (Or.inr (hb12))))))))))))]), rfl⟩
            · refine xj_iload_n (i := 0) d14_30_36 rfl rfl ?_
              refine xj_bipush (v := 124) d14_30_37 (by decide) ?_
              refine xj_icmp_eq (tgt := 72) d14_30_39 rfl (fun hb7 => ?_) (fun hb7 => ?_)
              · refine xj_iconst (v := 1) d14_30_72 (by decide) ?_
                refine xj_goto (tgt := 77) d14_30_73 rfl ?_
                exact xj_ret d14_30_77 (by omega) (by omega) rfl ⟨(by rw [xB_t (show pSpe c from by unfold pSpe; first | exact Or.inl hb1 | exact Or.inr (Or.inl hb2) | exact Or.inr (Or.inr (Or.inl hb3)) | exact Or.inr (Or.inr (Or.inr (Or.inl hb4))) | exact Or.inr (Or.inr (Or.inr (Or.inr (Or.inl hb5)))) | exact Or.inr (Or.inr (Or.inr (Or.inr (Or.inr (Or.inl hb6))))) | exact Or.inr (Or.inr (Or.inr (Or.inr (Or.inr (Or.inr (Or.inl hb7)))))) | exact Or.inr (Or.inr (Or.inr (Or.inr (Or.inr (Or.inr (Or.inr (Or.inl hb8))))))) | exact Or.inr (Or.inr (Or.inr (Or.inr (Or.inr (Or.inr (Or.inr (Or.inr (Or.inl hb9)))))))) | exact Or.inr (Or.inr (Or.inr (Or.inr (Or.inr (Or.inr (Or.inr (Or.inr (Or.inr (Or.inl hb10))))))))) | exact Or.inr (Or.inr (Or.inr (Or.inr (Or.inr (Or.inr (Or.inr (Or.inr (Or.inr (Or.inr (Or.inl hb11)))))))))) | exact Or.inr (Or.inr (Or.inr (Or.inr (Or.inr (Or.inr (Or.inr (Or.inr (Or.inr (Or.inr (Or.inr (hb12))))))))))))]), rfl⟩
              · refine xj_iload_n (i := 0) d14_30_42 rfl rfl ?_
                refine xj_bipush (v := 42) d14_30_43 (by decide) ?_
                refine xj_icmp_eq (tgt := 72) d14_30_45 rfl (fun hb8 => ?_) (fun hb8 => ?_)
                · refine xj_iconst (v := 1) d14_30_72 (by decide) ?_
                  refine xj_goto (tgt := 77) d14_30_73 rfl ?_
                  exact xj_ret d14_30_77 (by omega) (by omega) rfl ⟨(by rw [xB_t (show pSpe c from by unfold pSpe; first | exact Or.inl hb1 | exact Or.inr (Or.inl hb2) | exact Or.inr (Or.inr (Or.inl hb3)) | exact Or.inr (Or.inr (Or.inr (Or.inl hb4))) | exact Or.inr (Or.inr (Or.inr (Or.inr (Or.inl hb5)))) | exact Or.inr (Or.inr (Or.inr (Or.inr (Or.inr (Or.inl hb6))))) | exact Or.inr (Or.inr (Or.inr (Or.inr (Or.inr (Or.inr (Or.inl hb7)))))) | exact Or.inr (Or.inr (Or.inr (Or.inr (Or.inr (Or.inr (Or.inr (Or.inl hb8))))))) | exact Or.inr (Or.inr (Or.inr (Or.inr (Or.inr (Or.inr (Or.inr (Or.inr (Or.inl hb9)))))))) | exact Or.inr (Or.inr (Or.inr (Or.inr (Or.inr (Or.inr (Or.inr (Or.inr (Or.inr (Or.inl hb10))))))))) | exact Or.inr (Or.inr (Or.inr (Or.inr (Or.inr (Or.inr (Or.inr (Or.inr (Or.inr (Or.inr (Or.inl hb11)))))))))) | exact Or.inr (Or.inr (Or.inr (Or.inr (Or.inr (Or.inr (Or.inr (Or.inr (Or.inr (Or.inr (Or.inr (hb12))))))))))))]), rfl⟩
                · refine xj_iload_n (i := 0) d14_30_48 rfl rfl ?_
                  refine xj_bipush (v := 43) d14_30_49 (by decide) ?_
                  refine xj_icmp_eq (tgt := 72) d14_30_51 rfl (fun hb9 => ?_) (fun hb9 => ?_)
                  · refine xj_iconst (v := 1) d14_30_72 (by decide) ?_
                    refine xj_goto (tgt := 77) d14_30_73 rfl ?_
                    exact xj_ret d14_30_77 (by omega) (by omega) rfl ⟨(by rw [xB_t (show pSpe c from by unfold pSpe; first | exact Or.inl hb1 | exact Or.inr (Or.inl hb2) | exact Or.inr (Or.inr (Or.inl hb3)) | exact Or.inr (Or.inr (Or.inr (Or.inl hb4))) | exact Or.inr (Or.inr (Or.inr (Or.inr (Or.inl hb5)))) | exact Or.inr (Or.inr (Or.inr (Or.inr (Or.inr (Or.inl hb6))))) | exact Or.inr (Or.inr (Or.inr (Or.inr (Or.inr (Or.inr (Or.inl hb7)))))) | exact Or.inr (Or.inr (Or.inr (Or.inr (Or.inr (Or.inr (Or.inr (Or.inl hb8))))))) | exact Or.inr (Or.inr (Or.inr (Or.inr (Or.inr (Or.inr (Or.inr (Or.inr (Or.inl hb9)))))))) | exact Or.inr (Or.inr (Or.inr (Or.inr (Or.inr (Or.inr (Or.inr (Or.inr (Or.inr (Or.inl hb10))))))))) | exact Or.inr (Or.inr (Or.inr (Or.inr (Or.inr (Or.inr (Or.inr (Or.inr (Or.inr (Or.inr (Or.inl hb11)))))))))) | exact Or.inr (Or.inr (Or.inr (Or.inr (Or.inr (Or.inr (Or.inr (Or.inr (Or.inr (Or.inr (Or.inr (hb12))))))))))))]), rfl⟩
                  · refine xj_iload_n (i := 0) d14_30_54 rfl rfl ?_
                    refine xj_bipush (v := 63) d14_30_55 (by decide) ?_
                    refine xj_icmp_eq (tgt := 72) d14_30_57 rfl (fun hb10 => ?_) (fun hb10 => ?_)
                    · refine xj_iconst (v := 1) d14_30_72 (by decide) ?_
                      refine xj_goto (tgt := 77) d14_30_73 rfl ?_
                      exact xj_ret d14_30_77 (by omega) (by omega) rfl ⟨(by rw [xB_t (show pSpe c from by unfold pSpe; first | exact Or.inl hb1 | exact Or.inr (Or.inl hb2) | exact Or.inr (Or.inr (Or.inl hb3)) | exact Or.inr (Or.inr (Or.inr (Or.inl hb4))) | exact Or.inr (Or.inr (Or.inr (Or.inr (Or.inl hb5)))) | exact Or.inr (Or.inr (Or.inr (Or.inr (Or.inr (Or.inl hb6))))) | exact Or.inr (Or.inr (Or.inr (Or.inr (Or.inr (Or.inr (Or.inl hb7)))))) | exact Or.inr (Or.inr (Or.inr (Or.inr (Or.inr (Or.inr (Or.inr (Or.inl hb8))))))) | exact Or.inr (Or.inr (Or.inr (Or.inr (Or.inr (Or.inr (Or.inr (Or.inr (Or.inl hb9)))))))) | exact Or.inr (Or.inr (Or.inr (Or.inr (Or.inr (Or.inr (Or.inr (Or.inr (Or.inr (Or.inl hb10))))))))) | exact Or.inr (Or.inr (Or.inr (Or.inr (Or.inr (Or.inr (Or.inr (Or.inr (Or.inr (Or.inr (Or.inl hb11)))))))))) | exact Or.inr (Or.inr (Or.inr (Or.inr (Or.inr (Or.inr (Or.inr (Or.inr (Or.inr (Or.inr (Or.inr (hb12))))))))))))]), rfl⟩
                    · refine xj_iload_n (i := 0) d14_30_60 rfl rfl ?_
                      refine xj_bipush (v := 123) d14_30_61 (by decide) ?_
                      refine xj_icmp_eq (tgt := 72) d14_30_63 rfl (fun hb11 => ?_) (fun hb11 => ?_)
                      · refine xj_iconst (v := 1) d14_30_72 (by decide) ?_
                        refine xj_goto (tgt := 77) d14_30_73 rfl ?_
                        exact xj_ret d14_30_77 (by omega) (by omega) rfl ⟨(by rw [xB_t (show pSpe c from by unfold pSpe; first | exact Or.inl hb1 | exact Or.inr (Or.inl hb2) | exact Or.inr (Or.inr (Or.inl hb3)) | exact Or.inr (Or.inr (Or.inr (Or.inl hb4))) | exact Or.inr (Or.inr (Or.inr (Or.inr (Or.inl hb5)))) | exact Or.inr (Or.inr (Or.inr (Or.inr (Or.inr (Or.inl hb6))))) | exact Or.inr (Or.inr (Or.inr (Or.inr (Or.inr (Or.inr (Or.inl hb7)))))) | exact Or.inr (Or.inr (Or.inr (Or.inr (Or.inr (Or.inr (Or.inr (Or.inl hb8))))))) | exact Or.inr (Or.inr (Or.inr (Or.inr (Or.inr (Or.inr (Or.inr (Or.inr (Or.inl hb9)))))))) | exact Or.inr (Or.inr (Or.inr (Or.inr (Or.inr (Or.inr (Or.inr (Or.inr (Or.inr (Or.inl hb10))))))))) | exact Or.inr (Or.inr (Or.inr (Or.inr (Or.inr (Or.inr (Or.inr (Or.inr (Or.inr (Or.inr (Or.inl hb11)))))))))) | exact Or.inr (Or.inr (Or.inr (Or.inr (Or.inr (Or.inr (Or.inr (Or.inr (Or.inr (Or.inr (Or.inr (hb12))))))))))))]), rfl⟩
                      · refine xj_iload_n (i := 0) d14_30_66 rfl rfl ?_
                        refine xj_bipush (v := 92) d14_30_67 (by decide) ?_
                        refine xj_icmp_ne (tgt := 76) d14_30_69 rfl (fun hb12 => ?_) (fun hb12 => ?_)
                        · refine xj_iconst (v := 0) d14_30_76 (by decide) ?_
                          exact xj_ret d14_30_77 (by omega) (by omega) rfl ⟨(by rw [xB_f (show ¬ pSpe c from fun q => by unfold pSpe at q; rcases q with q | q | q | q | q | q | q | q | q | q | q | q <;> first | exact hb1 q | exact hb2 q | exact hb3 q | exact hb4 q | exact hb5 q | exact hb6 q | exact hb7 q | exact hb8 q | exact hb9 q | exact hb10 q | exact hb11 q | exact hb12 q)]), rfl⟩
                        · refine xj_iconst (v := 1) d14_30_72 (by decide) ?_
                          refine xj_goto (tgt := 77) d14_30_73 rfl ?_
                          exact xj_ret d14_30_77 (by omega) (by omega) rfl ⟨(by rw [xB_t (show pSpe c from by unfold pSpe; first | exact Or.inl hb1 | exact Or.inr (Or.inl hb2) | exact Or.inr (Or.inr (Or.inl hb3)) | exact Or.inr (Or.inr (Or.inr (Or.inl hb4))) | exact Or.inr (Or.inr (Or.inr (Or.inr (Or.inl hb5)))) | exact Or.inr (Or.inr (Or.inr (Or.inr (Or.inr (Or.inl hb6))))) | exact Or.inr (Or.inr (Or.inr (Or.inr (Or.inr (Or.inr (Or.inl hb7)))))) | exact Or.inr (Or.inr (Or.inr (Or.inr (Or.inr (Or.inr (Or.inr (Or.inl hb8))))))) | exact Or.inr (Or.inr (Or.inr (Or.inr (Or.inr (Or.inr (Or.inr (Or.inr (Or.inl hb9)))))))) | exact Or.inr (Or.inr (Or.inr (Or.inr (Or.inr (Or.inr (Or.inr (Or.inr (Or.inr (Or.inl hb10))))))))) | exact Or.inr (Or.inr (Or.inr (Or.inr (Or.inr (Or.inr (Or.inr (Or.inr (Or.inr (Or.inr (Or.inl hb11)))))))))) | exact Or.inr (Or.inr (Or.inr (Or.inr (Or.inr (Or.inr (Or.inr (Or.inr (Or.inr (Or.inr (Or.inr (hb12))))))))))))]), rfl⟩
theorem mSetL2 {G : xG} (hxn : xn = 16) {M0 : xM} {n : Nat} (hn2 : 52 ≤ n) {dl : Nat} {pl : Nat} {vc : Nat} {tk : Nat} {hc : Nat} {sn : Nat} {y24 : Int32} {y33 : Int32} {y36 : Int32} {y37 : Int32} {y38 : Int32} {y39 : Int32} {np : Nat} {a : Nat} {dp : Nat} {cs : Nat → Int32} {m u1 v1 kk : Nat} (h_24 : M0.2 24 = (.inr (12, [.ref 25, .ref 26, .ref 27, .ref 28, .ref 29, .ref 30, .int (nI sn), .int (nI vc), .int (nI tk), .ref 31, .int (nI dl), .ref 32, .int (nI pl), .int (nI np), .ref 33, .ref 34, .ref 35, .ref 36, .ref 37, .ref 38, .ref 39, .ref 40, .int (nI a), .int (nI dp), .int y24, .ref 41, .ref 42, .ref 43, .ref 44, .ref 45, .ref 46, .ref 47, .ref 48, .int y33, .ref 49, .ref 50, .int y36, .int y37, .int y38, .int y39, .int (nI hc), .ref 51]))) (hm30 : m < 30) (hv1 : v1 < 95) (huv : u1 + kk = v1 + 1) {d ce se cells slots : Nat} {Post : Option Value → xM → Prop} (K : ∀ M : xM, M.1 = n → (∀ j, j ≠ 40 → M.2 j = M0.2 j) → M.2 40 = (.inl (2, 2850, .inl (va_cpy (fun _ => 1) cs 0 (95 * m + u1) kk))) → XJ G Y14_31 d ce se cells slots 38 [(4, .int (nI (u1 + 32 + kk))), (3, .int (nI m)), (0, .ref 24), (1, .int (nI (u1 + 32))), (2, .int (nI (v1 + 32)))] [] M Post) : ∀ (r i : Nat) (M : xM), i + r = kk → M.1 = n → (∀ j, j ≠ 40 → M.2 j = M0.2 j) → M.2 40 = (.inl (2, 2850, .inl (va_cpy (fun _ => 1) cs 0 (95 * m + u1) i))) → XJ G Y14_31 d ce se cells slots 10 [(4, .int (nI (u1 + 32 + i))), (3, .int (nI m)), (0, .ref 24), (1, .int (nI (u1 + 32))), (2, .int (nI (v1 + 32)))] [] M Post := by
  intro r
  induction r with
  | zero =>
    intro i M hi hm hfr hA
    have hi' : i = kk := by omega
    subst i
    refine xj_iload (i := 4) d14_31_10 rfl ?_
    refine xj_iload_n (i := 2) d14_31_12 rfl rfl ?_
    refine xj_icmp_gt (tgt := 38) d14_31_13 rfl (fun _ => ?_) (fun h => absurd (nI_lt (a := v1 + 32) (b := u1 + 32 + kk) (by omega) (by omega)) h)
    exact K M hm hfr hA
  | succ r ih =>
    intro i M hi hm hfr hA
    refine xj_iload (i := 4) d14_31_10 rfl ?_
    refine xj_iload_n (i := 2) d14_31_12 rfl rfl ?_
    refine xj_icmp_gt (tgt := 38) d14_31_13 rfl (fun h => absurd h (nI_nlt (a := v1 + 32) (b := u1 + 32 + i) (by omega) (by omega))) (fun _ => ?_)
    refine xj_aload_n (i := 0) d14_31_16 rfl rfl ?_
    refine xj_get d14_31_17 f14_56_12 ((hfr 24 (by omega)).trans h_24) (by omega) (show 24 < M.1 by omega) rfl ?_
    refine xj_bipush (v := 95) d14_31_20 (by decide) ?_
    refine xj_iload_n (i := 3) d14_31_22 rfl rfl ?_
    refine xj_imul (v := nI (95 * m)) d14_31_23 (pk_mul 95 m) ?_
    refine xj_iload (i := 4) d14_31_24 rfl ?_
    refine xj_iadd (v := nI (95 * m + (u1 + 32 + i))) d14_31_26 (nI_add (95 * m) (u1 + 32 + i)) ?_
    refine xj_bipush (v := 32) d14_31_27 (by decide) ?_
    refine xj_isub (v := nI (95 * m + u1 + i)) d14_31_29 (by rw [show 95 * m + (u1 + 32 + i) = 95 * m + u1 + i + 32 by omega]; exact xsub32 _) ?_
    refine xj_iconst (v := 1) d14_31_30 (by decide) ?_
    refine xj_zastore (j := 95 * m + u1 + i) (x' := 1) d14_31_31 hA (by omega) (show 40 < M.1 by omega) (vp_in_nI (by omega) (by omega)) (nI_clamp (by omega)) (by decide) ?_
    refine xj_abs_set (fun M1 hs1 ha1 ho1 => ?_)
    refine xj_iinc (v := nI (u1 + 32 + (i + 1))) (L' := [(4, .int (nI (u1 + 32 + (i + 1)))), (3, .int (nI m)), (0, .ref 24), (1, .int (nI (u1 + 32))), (2, .int (nI (v1 + 32)))]) d14_31_32 rfl (xinc _) (by decide) rfl ?_
    refine xj_goto (tgt := 10) d14_31_35 rfl ?_
    exact ih (i + 1) M1 (by omega) (by omega) (fun j hj => (ho1 j hj).trans (hfr j hj)) (by rw [← xcpy_step]; exact ha1)
theorem mLisL {G : xG} (hxn : xn = 16) {M0 : xM} {n : Nat} (hn2 : 52 ≤ n) {dl : Nat} {pl : Nat} {vc : Nat} {tk : Nat} {hc : Nat} {sn : Nat} {y24 : Int32} {y33 : Int32} {y36 : Int32} {y37 : Int32} {y38 : Int32} {y39 : Int32} {np : Nat} {a : Nat} {dp : Nat} {cs : Nat → Int32} {m u1 v1 kk : Nat} (h_24 : M0.2 24 = (.inr (12, [.ref 25, .ref 26, .ref 27, .ref 28, .ref 29, .ref 30, .int (nI sn), .int (nI vc), .int (nI tk), .ref 31, .int (nI dl), .ref 32, .int (nI pl), .int (nI np), .ref 33, .ref 34, .ref 35, .ref 36, .ref 37, .ref 38, .ref 39, .ref 40, .int (nI a), .int (nI dp), .int y24, .ref 41, .ref 42, .ref 43, .ref 44, .ref 45, .ref 46, .ref 47, .ref 48, .int y33, .ref 49, .ref 50, .int y36, .int y37, .int y38, .int y39, .int (nI hc), .ref 51]))) (hm30 : m < 30) (hv1 : v1 < 95) (huv : u1 + kk = v1 + 1) {d ce se cells slots : Nat} {Post : Option Value → xM → Prop} (K : ∀ M : xM, M.1 = n → (∀ j, j ≠ 40 → M.2 j = M0.2 j) → M.2 40 = (.inl (2, 2850, .inl (va_cpy (fun _ => 1) cs 0 (95 * m + u1) kk))) → XJ G Y14_32 d ce se cells slots 31 [(4, .int (nI (u1 + 32 + kk))), (0, .ref 24), (1, .int (nI m)), (2, .int (nI (u1 + 32))), (3, .int (nI (v1 + 32)))] [] M Post) : ∀ (r i : Nat) (M : xM), i + r = kk → M.1 = n → (∀ j, j ≠ 40 → M.2 j = M0.2 j) → M.2 40 = (.inl (2, 2850, .inl (va_cpy (fun _ => 1) cs 0 (95 * m + u1) i))) → XJ G Y14_32 d ce se cells slots 3 [(4, .int (nI (u1 + 32 + i))), (0, .ref 24), (1, .int (nI m)), (2, .int (nI (u1 + 32))), (3, .int (nI (v1 + 32)))] [] M Post := by
  intro r
  induction r with
  | zero =>
    intro i M hi hm hfr hA
    have hi' : i = kk := by omega
    subst i
    refine xj_iload (i := 4) d14_32_3 rfl ?_
    refine xj_iload_n (i := 3) d14_32_5 rfl rfl ?_
    refine xj_icmp_gt (tgt := 31) d14_32_6 rfl (fun _ => ?_) (fun h => absurd (nI_lt (a := v1 + 32) (b := u1 + 32 + kk) (by omega) (by omega)) h)
    exact K M hm hfr hA
  | succ r ih =>
    intro i M hi hm hfr hA
    refine xj_iload (i := 4) d14_32_3 rfl ?_
    refine xj_iload_n (i := 3) d14_32_5 rfl rfl ?_
    refine xj_icmp_gt (tgt := 31) d14_32_6 rfl (fun h => absurd h (nI_nlt (a := v1 + 32) (b := u1 + 32 + i) (by omega) (by omega))) (fun _ => ?_)
    refine xj_aload_n (i := 0) d14_32_9 rfl rfl ?_
    refine xj_get d14_32_10 f14_56_12 ((hfr 24 (by omega)).trans h_24) (by omega) (show 24 < M.1 by omega) rfl ?_
    refine xj_bipush (v := 95) d14_32_13 (by decide) ?_
    refine xj_iload_n (i := 1) d14_32_15 rfl rfl ?_
    refine xj_imul (v := nI (95 * m)) d14_32_16 (pk_mul 95 m) ?_
    refine xj_iload (i := 4) d14_32_17 rfl ?_
    refine xj_iadd (v := nI (95 * m + (u1 + 32 + i))) d14_32_19 (nI_add (95 * m) (u1 + 32 + i)) ?_
    refine xj_bipush (v := 32) d14_32_20 (by decide) ?_
    refine xj_isub (v := nI (95 * m + u1 + i)) d14_32_22 (by rw [show 95 * m + (u1 + 32 + i) = 95 * m + u1 + i + 32 by omega]; exact xsub32 _) ?_
    refine xj_iconst (v := 1) d14_32_23 (by decide) ?_
    refine xj_zastore (j := 95 * m + u1 + i) (x' := 1) d14_32_24 hA (by omega) (show 40 < M.1 by omega) (vp_in_nI (by omega) (by omega)) (nI_clamp (by omega)) (by decide) ?_
    refine xj_abs_set (fun M1 hs1 ha1 ho1 => ?_)
    refine xj_iinc (v := nI (u1 + 32 + (i + 1))) (L' := [(4, .int (nI (u1 + 32 + (i + 1)))), (0, .ref 24), (1, .int (nI m)), (2, .int (nI (u1 + 32))), (3, .int (nI (v1 + 32)))]) d14_32_25 rfl (xinc _) (by decide) rfl ?_
    refine xj_goto (tgt := 3) d14_32_28 rfl ?_
    exact ih (i + 1) M1 (by omega) (by omega) (fun j hj => (ho1 j hj).trans (hfr j hj)) (by rw [← xcpy_step]; exact ha1)
set_option maxRecDepth 20000 in
theorem mList {G : xG} (hg : xGood G) {M : xM} {n : Nat} (hn : M.1 = n) (hx : xn ≤ n) {dl : Nat} {pl : Nat} {vc : Nat} {tk : Nat} {hc : Nat} {sn : Nat} {y24 : Int32} {y33 : Int32} {y36 : Int32} {y37 : Int32} {y38 : Int32} {y39 : Int32} {np : Nat} {a : Nat} {dp : Nat} {cs : Nat → Int32} {m : Nat} {u1 : Nat} {v1 : Nat} {kk : Nat} (h1_24 : xn ≤ 24) (h2_24 : 24 < n) (h_24 : M.2 24 = (.inr (12, [.ref 25, .ref 26, .ref 27, .ref 28, .ref 29, .ref 30, .int (nI sn), .int (nI vc), .int (nI tk), .ref 31, .int (nI dl), .ref 32, .int (nI pl), .int (nI np), .ref 33, .ref 34, .ref 35, .ref 36, .ref 37, .ref 38, .ref 39, .ref 40, .int (nI a), .int (nI dp), .int y24, .ref 41, .ref 42, .ref 43, .ref 44, .ref 45, .ref 46, .ref 47, .ref 48, .int y33, .ref 49, .ref 50, .int y36, .int y37, .int y38, .int y39, .int (nI hc), .ref 51]))) (h1_40 : xn ≤ 40) (h2_40 : 40 < n) (h_40 : M.2 40 = (.inl (2, 2850, .inl cs))) (hxn : xn = 16) (hn2 : 52 ≤ n) (hm30 : m < 30) (hv1 : v1 < 95) (huv : u1 + kk = v1 + 1) : XC G Y14_32 none 0 0 0 [.ref 24, .int (nI m), .int (nI (u1 + 32)), .int (nI (v1 + 32))] M (fun v M' => v = none ∧ M'.1 = n ∧ (∀ j, j < n → j ≠ 40 → M'.2 j = M.2 j) ∧ M'.2 40 = (.inl (2, 2850, .inl (va_cpy (fun _ => 1) cs 0 (95 * m + u1) kk)))) := by
  refine xc_of hg (by decide) (Nat.le_of_ble_eq_true rfl) (Or.inr (Or.inr (Or.inr (Or.inr (Or.inl ⟨rfl, rfl, fun v M' h => h.1⟩))))) ?_
  refine xj_iload_n (i := 2) d14_32_0 rfl rfl ?_
  refine xj_istore (i := 4) (L' := [(4, .int (nI (u1 + 32))), (0, .ref 24), (1, .int (nI m)), (2, .int (nI (u1 + 32))), (3, .int (nI (v1 + 32)))]) d14_32_1 (by decide) rfl ?_
  refine mLisL (n := n) (M0 := M) (cs := cs) (m := m) (u1 := u1) (v1 := v1) (kk := kk) hxn hn2 h_24 (by omega) hv1 huv (fun Md hsd hod had => ?_) kk 0 M (by omega) (by omega) (fun j _ => rfl) (by rw [xcpy_0]; exact h_40)
  exact xj_ret d14_32_31 (by omega) (by omega) rfl ⟨rfl, (show Md.1 = n by omega), (fun j hj hj0 => (hod j (by omega))), had⟩
set_option maxRecDepth 20000 in
theorem mSetE {G : xG} (hg : xGood G) {M : xM} {n : Nat} (hn : M.1 = n) (hx : xn ≤ n) {dl : Nat} {pl : Nat} {vc : Nat} {tk : Nat} {hc : Nat} {sn : Nat} {y24 : Int32} {y33 : Int32} {y36 : Int32} {y37 : Int32} {y38 : Int32} {y39 : Int32} {np : Nat} {a : Nat} {dp : Nat} {kd : Nat → Int32} {wt : Nat → Int32} {ch : Nat → Int32} {nx : Nat → Int32} {cs : Nat → Int32} {be : Nat → Int32} {fP : Nat → Int32} {lP : Nat → Int32} {u1 : Nat} {v1 : Nat} {kk : Nat} (h1_24 : xn ≤ 24) (h2_24 : 24 < n) (h_24 : M.2 24 = (.inr (12, [.ref 25, .ref 26, .ref 27, .ref 28, .ref 29, .ref 30, .int (nI sn), .int (nI vc), .int (nI tk), .ref 31, .int (nI dl), .ref 32, .int (nI pl), .int (nI np), .ref 33, .ref 34, .ref 35, .ref 36, .ref 37, .ref 38, .ref 39, .ref 40, .int (nI a), .int (nI dp), .int y24, .ref 41, .ref 42, .ref 43, .ref 44, .ref 45, .ref 46, .ref 47, .ref 48, .int y33, .ref 49, .ref 50, .int y36, .int y37, .int y38, .int y39, .int (nI hc), .ref 51]))) (h1_33 : xn ≤ 33) (h2_33 : 33 < n) (h_33 : M.2 33 = (.inl (0, 30, .inl kd))) (h1_39 : xn ≤ 39) (h2_39 : 39 < n) (h_39 : M.2 39 = (.inl (0, 30, .inl wt))) (h1_34 : xn ≤ 34) (h2_34 : 34 < n) (h_34 : M.2 34 = (.inl (0, 30, .inl ch))) (h1_35 : xn ≤ 35) (h2_35 : 35 < n) (h_35 : M.2 35 = (.inl (0, 30, .inl nx))) (h1_40 : xn ≤ 40) (h2_40 : 40 < n) (h_40 : M.2 40 = (.inl (2, 2850, .inl cs))) (h1_36 : xn ≤ 36) (h2_36 : 36 < n) (h_36 : M.2 36 = (.inl (0, 30, .inl be))) (h1_41 : xn ≤ 41) (h2_41 : 41 < n) (h_41 : M.2 41 = (.inl (0, 7, .inl fP))) (h1_42 : xn ≤ 42) (h2_42 : 42 < n) (h_42 : M.2 42 = (.inl (0, 7, .inl lP))) (hxn : xn = 16) (hn2 : 52 ≤ n) (hdp : dp < 7) (hnp : np < 30) (hv1 : v1 < 95) (huv : u1 + kk = v1 + 1) (hb : fP dp < 0) : XC G Y14_31 none 2 0 0 [.ref 24, .int (nI (u1 + 32)), .int (nI (v1 + 32))] M (fun v M' => v = none ∧ M'.1 = n ∧ (∀ j, j < n → j ≠ 33 → j ≠ 39 → j ≠ 34 → j ≠ 35 → j ≠ 40 → j ≠ 24 → j ≠ 36 → j ≠ 41 → j ≠ 42 → M'.2 j = M.2 j) ∧ M'.2 33 = (.inl (0, 30, .inl (upd kd np 1))) ∧ M'.2 39 = (.inl (0, 30, .inl (upd wt np 1))) ∧ M'.2 34 = (.inl (0, 30, .inl (upd ch np (-1)))) ∧ M'.2 35 = (.inl (0, 30, .inl (upd nx np (-1)))) ∧ M'.2 40 = (.inl (2, 2850, .inl (va_cpy (fun _ => 1) (va_cpy (fun _ => 0) cs 0 (95 * np) 95) 0 (95 * np + u1) kk))) ∧ M'.2 24 = (.inr (12, [.ref 25, .ref 26, .ref 27, .ref 28, .ref 29, .ref 30, .int (nI sn), .int (nI vc), .int (nI tk), .ref 31, .int (nI dl), .ref 32, .int (nI pl), .int (nI (np + 1)), .ref 33, .ref 34, .ref 35, .ref 36, .ref 37, .ref 38, .ref 39, .ref 40, .int (nI a), .int (nI dp), .int y24, .ref 41, .ref 42, .ref 43, .ref 44, .ref 45, .ref 46, .ref 47, .ref 48, .int y33, .ref 49, .ref 50, .int y36, .int y37, .int y38, .int y39, .int (nI hc), .ref 51])) ∧ M'.2 36 = (.inl (0, 30, .inl (upd be np (lP dp)))) ∧ M'.2 41 = (.inl (0, 7, .inl (upd fP dp (nI np)))) ∧ M'.2 42 = (.inl (0, 7, .inl (upd lP dp (nI np))))) := by
  refine xc_of hg (by decide) (Nat.le_of_ble_eq_true rfl) (Or.inr (Or.inr (Or.inr (Or.inr (Or.inl ⟨rfl, rfl, fun v M' h => h.1⟩))))) ?_
  refine xj_aload_n (i := 0) d14_31_0 rfl rfl ?_
  refine xj_iconst (v := 1) d14_31_1 (by decide) ?_
  refine xj_iconst (v := 1) d14_31_2 (by decide) ?_
  refine xj_callV (rest := []) (As := [.int 1, .int 1]) (b := 24) (mPart hg (M := M) (n := n) (dl := dl) (pl := pl) (vc := vc) (tk := tk) (hc := hc) (sn := sn) (y24 := y24) (y33 := y33) (y36 := y36) (y37 := y37) (y38 := y38) (y39 := y39) (np := np) (a := a) (dp := dp) (kd := kd) (wt := wt) (ch := ch) (nx := nx) (cs := cs) (kk := 1) (w := 1) (show M.1 = n by omega) (by omega) (by omega) (by omega) h_24 (by omega) (by omega) h_33 (by omega) (by omega) h_39 (by omega) (by omega) h_34 (by omega) (by omega) h_35 (by omega) (by omega) h_40 hxn hn2 (by omega)) d14_31_3 wd14_20 h_24 (by omega) (show 24 < M.1 by omega) rfl s14_20 w1232 (Or.inl w1230) rfl rfl (Nat.le_of_ble_eq_true rfl) (by omega) (by omega) (by omega) ?_
  rintro v M1 ⟨rfl, hs1, ho1, hf1_0, hf1_1, hf1_2, hf1_3, hf1_4, hf1_5⟩
  replace hs1 : M1.1 = n := hs1
  replace hf1_0 : M1.2 33 = (.inl (0, 30, .inl (upd kd np 1))) := hf1_0
  replace hf1_1 : M1.2 39 = (.inl (0, 30, .inl (upd wt np 1))) := hf1_1
  replace hf1_2 : M1.2 34 = (.inl (0, 30, .inl (upd ch np (-1)))) := hf1_2
  replace hf1_3 : M1.2 35 = (.inl (0, 30, .inl (upd nx np (-1)))) := hf1_3
  replace hf1_4 : M1.2 40 = (.inl (2, 2850, .inl (va_cpy (fun _ => 0) cs 0 (95 * np) 95))) := hf1_4
  replace hf1_5 : M1.2 24 = (.inr (12, [.ref 25, .ref 26, .ref 27, .ref 28, .ref 29, .ref 30, .int (nI sn), .int (nI vc), .int (nI tk), .ref 31, .int (nI dl), .ref 32, .int (nI pl), .int (nI (np + 1)), .ref 33, .ref 34, .ref 35, .ref 36, .ref 37, .ref 38, .ref 39, .ref 40, .int (nI a), .int (nI dp), .int y24, .ref 41, .ref 42, .ref 43, .ref 44, .ref 45, .ref 46, .ref 47, .ref 48, .int y33, .ref 49, .ref 50, .int y36, .int y37, .int y38, .int y39, .int (nI hc), .ref 51])) := hf1_5
  refine xj_istore_n (i := 3) (L' := [(3, .int (nI np)), (0, .ref 24), (1, .int (nI (u1 + 32))), (2, .int (nI (v1 + 32)))]) d14_31_6 rfl (by decide) rfl ?_
  refine xj_iload_n (i := 1) d14_31_7 rfl rfl ?_
  refine xj_istore (i := 4) (L' := [(4, .int (nI (u1 + 32))), (3, .int (nI np)), (0, .ref 24), (1, .int (nI (u1 + 32))), (2, .int (nI (v1 + 32)))]) d14_31_8 (by decide) rfl ?_
  refine mSetL2 (n := n) (M0 := M1) (cs := (va_cpy (fun _ => 0) cs 0 (95 * np) 95)) (m := np) (u1 := u1) (v1 := v1) (kk := kk) hxn hn2 hf1_5 (by omega) hv1 huv (fun Md hsd hod had => ?_) kk 0 M1 (by omega) (by omega) (fun j _ => rfl) (by rw [xcpy_0]; exact hf1_4)
  refine xj_aload_n (i := 0) d14_31_38 rfl rfl ?_
  refine xj_iload_n (i := 3) d14_31_39 rfl rfl ?_
  refine xj_callV (rest := []) (As := [.int (nI np)]) (b := 24) (mAddPE hg (M := Md) (n := n) (dl := dl) (pl := pl) (vc := vc) (tk := tk) (hc := hc) (sn := sn) (y24 := y24) (y33 := y33) (y36 := y36) (y37 := y37) (y38 := y38) (y39 := y39) (np := np + 1) (a := a) (dp := dp) (be := be) (fP := fP) (lP := lP) (nx := upd nx np (-1)) (m := np) (show Md.1 = n by omega) (by omega) (by omega) (by omega) ((hod 24 (by omega)).trans hf1_5) (by omega) (by omega) ((hod 36 (by omega)).trans ((ho1 36 (by omega) (by omega) (by omega) (by omega) (by omega) (by omega) (by omega)).trans h_36)) (by omega) (by omega) ((hod 41 (by omega)).trans ((ho1 41 (by omega) (by omega) (by omega) (by omega) (by omega) (by omega) (by omega)).trans h_41)) (by omega) (by omega) ((hod 42 (by omega)).trans ((ho1 42 (by omega) (by omega) (by omega) (by omega) (by omega) (by omega) (by omega)).trans h_42)) (by omega) (by omega) ((hod 35 (by omega)).trans hf1_3) hxn hn2 (by omega) (by omega) hb) d14_31_40 wd14_22 ((hod 24 (by omega)).trans hf1_5) (by omega) (show 24 < Md.1 by omega) rfl s14_22 w1240 (Or.inl w1238) rfl rfl (Nat.le_of_ble_eq_true rfl) (by omega) (by omega) (by omega) ?_
  rintro v M2 ⟨rfl, hs2, ho2, hf2_0, hf2_1, hf2_2⟩
  replace hs2 : M2.1 = n := hs2
  replace hf2_0 : M2.2 36 = (.inl (0, 30, .inl (upd be np (lP dp)))) := hf2_0
  replace hf2_1 : M2.2 41 = (.inl (0, 7, .inl (upd fP dp (nI np)))) := hf2_1
  replace hf2_2 : M2.2 42 = (.inl (0, 7, .inl (upd lP dp (nI np)))) := hf2_2
  exact xj_ret d14_31_43 (by omega) (by omega) rfl ⟨rfl, (show M2.1 = n by omega), (fun j hj hj0 hj1 hj2 hj3 hj4 hj5 hj6 hj7 hj8 => ((ho2 j (by omega) (by omega) (by omega) (by omega)).trans ((hod j (by omega)).trans (ho1 j (by omega) (by omega) (by omega) (by omega) (by omega) (by omega) (by omega))))), ((ho2 33 (by omega) (by omega) (by omega) (by omega)).trans ((hod 33 (by omega)).trans hf1_0)), ((ho2 39 (by omega) (by omega) (by omega) (by omega)).trans ((hod 39 (by omega)).trans hf1_1)), ((ho2 34 (by omega) (by omega) (by omega) (by omega)).trans ((hod 34 (by omega)).trans hf1_2)), ((ho2 35 (by omega) (by omega) (by omega) (by omega)).trans ((hod 35 (by omega)).trans hf1_3)), ((ho2 40 (by omega) (by omega) (by omega) (by omega)).trans had), ((ho2 24 (by omega) (by omega) (by omega) (by omega)).trans ((hod 24 (by omega)).trans hf1_5)), hf2_0, hf2_1, hf2_2⟩
set_option maxRecDepth 20000 in
theorem mSetN {G : xG} (hg : xGood G) {M : xM} {n : Nat} (hn : M.1 = n) (hx : xn ≤ n) {dl : Nat} {pl : Nat} {vc : Nat} {tk : Nat} {hc : Nat} {sn : Nat} {y24 : Int32} {y33 : Int32} {y36 : Int32} {y37 : Int32} {y38 : Int32} {y39 : Int32} {np : Nat} {a : Nat} {dp : Nat} {kd : Nat → Int32} {wt : Nat → Int32} {ch : Nat → Int32} {nx : Nat → Int32} {cs : Nat → Int32} {be : Nat → Int32} {fP : Nat → Int32} {lP : Nat → Int32} {u1 : Nat} {v1 : Nat} {kk : Nat} {ll : Nat} (h1_24 : xn ≤ 24) (h2_24 : 24 < n) (h_24 : M.2 24 = (.inr (12, [.ref 25, .ref 26, .ref 27, .ref 28, .ref 29, .ref 30, .int (nI sn), .int (nI vc), .int (nI tk), .ref 31, .int (nI dl), .ref 32, .int (nI pl), .int (nI np), .ref 33, .ref 34, .ref 35, .ref 36, .ref 37, .ref 38, .ref 39, .ref 40, .int (nI a), .int (nI dp), .int y24, .ref 41, .ref 42, .ref 43, .ref 44, .ref 45, .ref 46, .ref 47, .ref 48, .int y33, .ref 49, .ref 50, .int y36, .int y37, .int y38, .int y39, .int (nI hc), .ref 51]))) (h1_33 : xn ≤ 33) (h2_33 : 33 < n) (h_33 : M.2 33 = (.inl (0, 30, .inl kd))) (h1_39 : xn ≤ 39) (h2_39 : 39 < n) (h_39 : M.2 39 = (.inl (0, 30, .inl wt))) (h1_34 : xn ≤ 34) (h2_34 : 34 < n) (h_34 : M.2 34 = (.inl (0, 30, .inl ch))) (h1_35 : xn ≤ 35) (h2_35 : 35 < n) (h_35 : M.2 35 = (.inl (0, 30, .inl nx))) (h1_40 : xn ≤ 40) (h2_40 : 40 < n) (h_40 : M.2 40 = (.inl (2, 2850, .inl cs))) (h1_36 : xn ≤ 36) (h2_36 : 36 < n) (h_36 : M.2 36 = (.inl (0, 30, .inl be))) (h1_41 : xn ≤ 41) (h2_41 : 41 < n) (h_41 : M.2 41 = (.inl (0, 7, .inl fP))) (h1_42 : xn ≤ 42) (h2_42 : 42 < n) (h_42 : M.2 42 = (.inl (0, 7, .inl lP))) (hxn : xn = 16) (hn2 : 52 ≤ n) (hdp : dp < 7) (hnp : np < 30) (hv1 : v1 < 95) (huv : u1 + kk = v1 + 1) (hb : ¬ fP dp < 0) (hll : lP dp = nI ll) (hl30 : ll < 30) : XC G Y14_31 none 2 0 0 [.ref 24, .int (nI (u1 + 32)), .int (nI (v1 + 32))] M (fun v M' => v = none ∧ M'.1 = n ∧ (∀ j, j < n → j ≠ 33 → j ≠ 39 → j ≠ 34 → j ≠ 35 → j ≠ 40 → j ≠ 24 → j ≠ 36 → j ≠ 42 → M'.2 j = M.2 j) ∧ M'.2 33 = (.inl (0, 30, .inl (upd kd np 1))) ∧ M'.2 39 = (.inl (0, 30, .inl (upd wt np 1))) ∧ M'.2 34 = (.inl (0, 30, .inl (upd ch np (-1)))) ∧ M'.2 35 = (.inl (0, 30, .inl (upd (upd nx np (-1)) ll (nI np)))) ∧ M'.2 40 = (.inl (2, 2850, .inl (va_cpy (fun _ => 1) (va_cpy (fun _ => 0) cs 0 (95 * np) 95) 0 (95 * np + u1) kk))) ∧ M'.2 24 = (.inr (12, [.ref 25, .ref 26, .ref 27, .ref 28, .ref 29, .ref 30, .int (nI sn), .int (nI vc), .int (nI tk), .ref 31, .int (nI dl), .ref 32, .int (nI pl), .int (nI (np + 1)), .ref 33, .ref 34, .ref 35, .ref 36, .ref 37, .ref 38, .ref 39, .ref 40, .int (nI a), .int (nI dp), .int y24, .ref 41, .ref 42, .ref 43, .ref 44, .ref 45, .ref 46, .ref 47, .ref 48, .int y33, .ref 49, .ref 50, .int y36, .int y37, .int y38, .int y39, .int (nI hc), .ref 51])) ∧ M'.2 36 = (.inl (0, 30, .inl (upd be np (nI ll)))) ∧ M'.2 42 = (.inl (0, 7, .inl (upd lP dp (nI np))))) := by
  refine xc_of hg (by decide) (Nat.le_of_ble_eq_true rfl) (Or.inr (Or.inr (Or.inr (Or.inr (Or.inl ⟨rfl, rfl, fun v M' h => h.1⟩))))) ?_
  refine xj_aload_n (i := 0) d14_31_0 rfl rfl ?_
  refine xj_iconst (v := 1) d14_31_1 (by decide) ?_
  refine xj_iconst (v := 1) d14_31_2 (by decide) ?_
  refine xj_callV (rest := []) (As := [.int 1, .int 1]) (b := 24) (mPart hg (M := M) (n := n) (dl := dl) (pl := pl) (vc := vc) (tk := tk) (hc := hc) (sn := sn) (y24 := y24) (y33 := y33) (y36 := y36) (y37 := y37) (y38 := y38) (y39 := y39) (np := np) (a := a) (dp := dp) (kd := kd) (wt := wt) (ch := ch) (nx := nx) (cs := cs) (kk := 1) (w := 1) (show M.1 = n by omega) (by omega) (by omega) (by omega) h_24 (by omega) (by omega) h_33 (by omega) (by omega) h_39 (by omega) (by omega) h_34 (by omega) (by omega) h_35 (by omega) (by omega) h_40 hxn hn2 (by omega)) d14_31_3 wd14_20 h_24 (by omega) (show 24 < M.1 by omega) rfl s14_20 w1232 (Or.inl w1230) rfl rfl (Nat.le_of_ble_eq_true rfl) (by omega) (by omega) (by omega) ?_
  rintro v M1 ⟨rfl, hs1, ho1, hf1_0, hf1_1, hf1_2, hf1_3, hf1_4, hf1_5⟩
  replace hs1 : M1.1 = n := hs1
  replace hf1_0 : M1.2 33 = (.inl (0, 30, .inl (upd kd np 1))) := hf1_0
  replace hf1_1 : M1.2 39 = (.inl (0, 30, .inl (upd wt np 1))) := hf1_1
  replace hf1_2 : M1.2 34 = (.inl (0, 30, .inl (upd ch np (-1)))) := hf1_2
  replace hf1_3 : M1.2 35 = (.inl (0, 30, .inl (upd nx np (-1)))) := hf1_3
  replace hf1_4 : M1.2 40 = (.inl (2, 2850, .inl (va_cpy (fun _ => 0) cs 0 (95 * np) 95))) := hf1_4
  replace hf1_5 : M1.2 24 = (.inr (12, [.ref 25, .ref 26, .ref 27, .ref 28, .ref 29, .ref 30, .int (nI sn), .int (nI vc), .int (nI tk), .ref 31, .int (nI dl), .ref 32, .int (nI pl), .int (nI (np + 1)), .ref 33, .ref 34, .ref 35, .ref 36, .ref 37, .ref 38, .ref 39, .ref 40, .int (nI a), .int (nI dp), .int y24, .ref 41, .ref 42, .ref 43, .ref 44, .ref 45, .ref 46, .ref 47, .ref 48, .int y33, .ref 49, .ref 50, .int y36, .int y37, .int y38, .int y39, .int (nI hc), .ref 51])) := hf1_5
  refine xj_istore_n (i := 3) (L' := [(3, .int (nI np)), (0, .ref 24), (1, .int (nI (u1 + 32))), (2, .int (nI (v1 + 32)))]) d14_31_6 rfl (by decide) rfl ?_
  refine xj_iload_n (i := 1) d14_31_7 rfl rfl ?_
  refine xj_istore (i := 4) (L' := [(4, .int (nI (u1 + 32))), (3, .int (nI np)), (0, .ref 24), (1, .int (nI (u1 + 32))), (2, .int (nI (v1 + 32)))]) d14_31_8 (by decide) rfl ?_
  refine mSetL2 (n := n) (M0 := M1) (cs := (va_cpy (fun _ => 0) cs 0 (95 * np) 95)) (m := np) (u1 := u1) (v1 := v1) (kk := kk) hxn hn2 hf1_5 (by omega) hv1 huv (fun Md hsd hod had => ?_) kk 0 M1 (by omega) (by omega) (fun j _ => rfl) (by rw [xcpy_0]; exact hf1_4)
  refine xj_aload_n (i := 0) d14_31_38 rfl rfl ?_
  refine xj_iload_n (i := 3) d14_31_39 rfl rfl ?_
  refine xj_callV (rest := []) (As := [.int (nI np)]) (b := 24) (mAddPN hg (M := Md) (n := n) (dl := dl) (pl := pl) (vc := vc) (tk := tk) (hc := hc) (sn := sn) (y24 := y24) (y33 := y33) (y36 := y36) (y37 := y37) (y38 := y38) (y39 := y39) (np := np + 1) (a := a) (dp := dp) (be := be) (fP := fP) (lP := lP) (nx := upd nx np (-1)) (m := np) (ll := ll) (show Md.1 = n by omega) (by omega) (by omega) (by omega) ((hod 24 (by omega)).trans hf1_5) (by omega) (by omega) ((hod 36 (by omega)).trans ((ho1 36 (by omega) (by omega) (by omega) (by omega) (by omega) (by omega) (by omega)).trans h_36)) (by omega) (by omega) ((hod 41 (by omega)).trans ((ho1 41 (by omega) (by omega) (by omega) (by omega) (by omega) (by omega) (by omega)).trans h_41)) (by omega) (by omega) ((hod 42 (by omega)).trans ((ho1 42 (by omega) (by omega) (by omega) (by omega) (by omega) (by omega) (by omega)).trans h_42)) (by omega) (by omega) ((hod 35 (by omega)).trans hf1_3) hxn hn2 (by omega) (by omega) hb hll (by omega)) d14_31_40 wd14_22 ((hod 24 (by omega)).trans hf1_5) (by omega) (show 24 < Md.1 by omega) rfl s14_22 w1240 (Or.inl w1238) rfl rfl (Nat.le_of_ble_eq_true rfl) (by omega) (by omega) (by omega) ?_
  rintro v M2 ⟨rfl, hs2, ho2, hf2_0, hf2_1, hf2_2⟩
  replace hs2 : M2.1 = n := hs2
  replace hf2_0 : M2.2 36 = (.inl (0, 30, .inl (upd be np (nI ll)))) := hf2_0
  replace hf2_1 : M2.2 35 = (.inl (0, 30, .inl (upd (upd nx np (-1)) ll (nI np)))) := hf2_1
  replace hf2_2 : M2.2 42 = (.inl (0, 7, .inl (upd lP dp (nI np)))) := hf2_2
  exact xj_ret d14_31_43 (by omega) (by omega) rfl ⟨rfl, (show M2.1 = n by omega), (fun j hj hj0 hj1 hj2 hj3 hj4 hj5 hj6 hj7 => ((ho2 j (by omega) (by omega) (by omega) (by omega)).trans ((hod j (by omega)).trans (ho1 j (by omega) (by omega) (by omega) (by omega) (by omega) (by omega) (by omega))))), ((ho2 33 (by omega) (by omega) (by omega) (by omega)).trans ((hod 33 (by omega)).trans hf1_0)), ((ho2 39 (by omega) (by omega) (by omega) (by omega)).trans ((hod 39 (by omega)).trans hf1_1)), ((ho2 34 (by omega) (by omega) (by omega) (by omega)).trans ((hod 34 (by omega)).trans hf1_2)), hf2_1, ((ho2 40 (by omega) (by omega) (by omega) (by omega)).trans had), ((ho2 24 (by omega) (by omega) (by omega) (by omega)).trans ((hod 24 (by omega)).trans hf1_5)), hf2_0, hf2_2⟩

/-! the reference reckons a law -/
set_option maxHeartbeats 2000000 in
set_option maxRecDepth 20000 in
theorem c_X12_bounded {E : sxE} {w : hpW} {Q : Option Value → hpW → Prop} {v : Int64} (h : Q (some (.int (bd_ v))) w) : sx_C E mX12_bounded 2 0 0 [.long v] w Q := by
  refine C_of (by decide +kernel) (Nat.le_of_ble_eq_true rfl) ?_
  refine V_ldc2 (sx_di dX12_bounded 0 rfl) kX12_189 ?_
  refine V_ldc2 (sx_di dX12_bounded 1 rfl) kX12_191 ?_
  refine V_lload_n (i := 0) (sx_di dX12_bounded 2 rfl) rfl rfl ?_
  refine V_mminl (sx_di dX12_bounded 3 rfl) (sx_a6 216 rfl rfl) (sx_a6 217 rfl rfl) (sx_a1 22 rfl rfl) (sx_a6 218 rfl rfl) ⟨Nat.le_of_ble_eq_true rfl, Nat.le_of_ble_eq_true rfl, Nat.le_refl _, Nat.le_refl _⟩ ?_
  refine V_mmaxl (sx_di dX12_bounded 4 rfl) (sx_a6 219 rfl rfl) (sx_a6 220 rfl rfl) (sx_a1 22 rfl rfl) (sx_a6 221 rfl rfl) ⟨Nat.le_of_ble_eq_true rfl, Nat.le_of_ble_eq_true rfl, Nat.le_refl _, Nat.le_refl _⟩ ?_
  refine V_l2i (sx_di dX12_bounded 5 rfl) ?_
  refine V_iret (sx_di dX12_bounded 6 rfl) rfl (Nat.le_refl _) (Nat.le_refl _) ?_
  exact h
set_option maxHeartbeats 2000000 in
set_option maxRecDepth 20000 in
theorem c_X12_worked {E : sxE} {w : hpW} {Q : Option Value → hpW → Prop} {c : Int32} {a b : Int64} (h : Q (some (.int (wke_ c a b))) w) : sx_C E mX12_worked 3 0 0 [.int c, .long a, .long b] w Q := by
  refine C_of (by decide +kernel) (Nat.le_of_ble_eq_true rfl) ?_
  refine V_iload_n (i := 0) (sx_di dX12_worked 0 rfl) rfl rfl ?_
  refine V_top (fun x1 ex1 => ?_)
  by_cases hx1_0 : x1 = 2
  · refine V_tabIn (off := 51) (tgt := 52) (sx_di dX12_worked 1 rfl) (by rw [hx1_0]; decide) (by rw [hx1_0]; decide) (by rw [hx1_0]; decide) (by decide) ?_
    rw [hx1_0] at ex1
    refine V_lload_n (i := 1) (sx_di dX12_worked 2 rfl) rfl rfl ?_
    refine V_lload_n (i := 3) (sx_di dX12_worked 3 rfl) rfl rfl ?_
    refine V_ladd (sx_di dX12_worked 4 rfl) ?_
    refine V_cS1 (mc' := 0) (ms' := 0) (M' := mX12_bounded) 2 (sx_di dX12_worked 5 rfl) lX12_202 vX12_bounded (Nat.le_of_ble_eq_true rfl) ⟨Nat.le_of_ble_eq_true rfl, Nat.le_of_ble_eq_true rfl⟩ ⟨Nat.le_refl _, Nat.le_refl _⟩ ?_
    refine c_X12_bounded ?_
    refine V_iret (sx_di dX12_worked 6 rfl) rfl (Nat.le_refl _) (Nat.le_refl _) ?_
    subst ex1
    refine Q_int h ?_
    unfold wke_
    rw [if_pos rfl]
  · skip
    by_cases hx1_1 : x1 = 3
    · refine V_tabIn (off := 58) (tgt := 59) (sx_di dX12_worked 1 rfl) (by rw [hx1_1]; decide) (by rw [hx1_1]; decide) (by rw [hx1_1]; decide) (by decide) ?_
      rw [hx1_1] at ex1
      refine V_lload_n (i := 1) (sx_di dX12_worked 7 rfl) rfl rfl ?_
      refine V_lload_n (i := 3) (sx_di dX12_worked 8 rfl) rfl rfl ?_
      refine V_lsub (sx_di dX12_worked 9 rfl) ?_
      refine V_cS1 (mc' := 0) (ms' := 0) (M' := mX12_bounded) 2 (sx_di dX12_worked 10 rfl) lX12_202 vX12_bounded (Nat.le_of_ble_eq_true rfl) ⟨Nat.le_of_ble_eq_true rfl, Nat.le_of_ble_eq_true rfl⟩ ⟨Nat.le_refl _, Nat.le_refl _⟩ ?_
      refine c_X12_bounded ?_
      refine V_iret (sx_di dX12_worked 11 rfl) rfl (Nat.le_refl _) (Nat.le_refl _) ?_
      subst ex1
      refine Q_int h ?_
      unfold wke_
      rw [if_neg (by decide), if_pos rfl]
    · skip
      by_cases hx1_2 : x1 = 4
      · refine V_tabIn (off := 65) (tgt := 66) (sx_di dX12_worked 1 rfl) (by rw [hx1_2]; decide) (by rw [hx1_2]; decide) (by rw [hx1_2]; decide) (by decide) ?_
        rw [hx1_2] at ex1
        refine V_lload_n (i := 1) (sx_di dX12_worked 12 rfl) rfl rfl ?_
        refine V_lload_n (i := 3) (sx_di dX12_worked 13 rfl) rfl rfl ?_
        refine V_lmul (sx_di dX12_worked 14 rfl) ?_
        refine V_cS1 (mc' := 0) (ms' := 0) (M' := mX12_bounded) 2 (sx_di dX12_worked 15 rfl) lX12_202 vX12_bounded (Nat.le_of_ble_eq_true rfl) ⟨Nat.le_of_ble_eq_true rfl, Nat.le_of_ble_eq_true rfl⟩ ⟨Nat.le_refl _, Nat.le_refl _⟩ ?_
        refine c_X12_bounded ?_
        refine V_iret (sx_di dX12_worked 16 rfl) rfl (Nat.le_refl _) (Nat.le_refl _) ?_
        subst ex1
        refine Q_int h ?_
        unfold wke_
        rw [if_neg (by decide), if_neg (by decide), if_pos rfl]
      · skip
        by_cases hx1_3 : x1 = 5
        · refine V_tabIn (off := 72) (tgt := 73) (sx_di dX12_worked 1 rfl) (by rw [hx1_3]; decide) (by rw [hx1_3]; decide) (by rw [hx1_3]; decide) (by decide) ?_
          rw [hx1_3] at ex1
          refine V_lload_n (i := 3) (sx_di dX12_worked 17 rfl) rfl rfl ?_
          refine V_lconst (v := 0) (sx_di dX12_worked 18 rfl) (by decide) ?_
          refine V_lcmp (sx_di dX12_worked 19 rfl) ?_
          refine V_if_ne (tgt := 83) (sx_di dX12_worked 20 rfl) (by decide) (fun h76 => ?_) (fun h76 => ?_)
          · rw [lg_cmp_eq] at h76
            refine V_lload_n (i := 1) (sx_di dX12_worked 23 rfl) rfl rfl ?_
            refine V_lload_n (i := 3) (sx_di dX12_worked 24 rfl) rfl rfl ?_
            refine V_ldiv (sx_di dX12_worked 25 rfl) (h76) ?_
            refine V_cS1 (mc' := 0) (ms' := 0) (M' := mX12_bounded) 2 (sx_di dX12_worked 26 rfl) lX12_202 vX12_bounded (Nat.le_of_ble_eq_true rfl) ⟨Nat.le_of_ble_eq_true rfl, Nat.le_of_ble_eq_true rfl⟩ ⟨Nat.le_refl _, Nat.le_refl _⟩ ?_
            refine c_X12_bounded ?_
            refine V_iret (sx_di dX12_worked 27 rfl) rfl (Nat.le_refl _) (Nat.le_refl _) ?_
            subst ex1
            refine Q_int h ?_
            unfold wke_
            rw [if_neg (by decide), if_neg (by decide), if_neg (by decide), if_pos rfl]
            first | exact if_pos (by assumption) | exact if_neg (by assumption)
          · rw [lg_cmp_eq] at h76
            refine V_iconst (v := 0) (sx_di dX12_worked 21 rfl) (by decide) ?_
            refine V_goto (tgt := 89) (sx_di dX12_worked 22 rfl) (by decide) ?_
            refine V_iret (sx_di dX12_worked 27 rfl) rfl (Nat.le_refl _) (Nat.le_refl _) ?_
            subst ex1
            refine Q_int h ?_
            unfold wke_
            rw [if_neg (by decide), if_neg (by decide), if_neg (by decide), if_pos rfl]
            first | exact if_pos (by assumption) | exact if_neg (by assumption)
        · skip
          by_cases hx1_4 : x1 = 6
          · refine V_tabIn (off := 89) (tgt := 90) (sx_di dX12_worked 1 rfl) (by rw [hx1_4]; decide) (by rw [hx1_4]; decide) (by rw [hx1_4]; decide) (by decide) ?_
            rw [hx1_4] at ex1
            refine V_lload_n (i := 1) (sx_di dX12_worked 28 rfl) rfl rfl ?_
            refine V_lload_n (i := 3) (sx_di dX12_worked 29 rfl) rfl rfl ?_
            refine V_lcmp (sx_di dX12_worked 30 rfl) ?_
            refine V_if_ne (tgt := 100) (sx_di dX12_worked 31 rfl) (by decide) (fun h93 => ?_) (fun h93 => ?_)
            · rw [lg_cmp_eq] at h93
              refine V_iconst (v := 0) (sx_di dX12_worked 34 rfl) (by decide) ?_
              refine V_iret (sx_di dX12_worked 35 rfl) rfl (Nat.le_refl _) (Nat.le_refl _) ?_
              subst ex1
              refine Q_int h ?_
              unfold wke_
              rw [if_neg (by decide), if_neg (by decide), if_neg (by decide), if_neg (by decide), if_pos rfl]
              first | exact if_pos (by assumption) | exact if_neg (by assumption)
            · rw [lg_cmp_eq] at h93
              refine V_iconst (v := 1) (sx_di dX12_worked 32 rfl) (by decide) ?_
              refine V_goto (tgt := 101) (sx_di dX12_worked 33 rfl) (by decide) ?_
              refine V_iret (sx_di dX12_worked 35 rfl) rfl (Nat.le_refl _) (Nat.le_refl _) ?_
              subst ex1
              refine Q_int h ?_
              unfold wke_
              rw [if_neg (by decide), if_neg (by decide), if_neg (by decide), if_neg (by decide), if_pos rfl]
              first | exact if_pos (by assumption) | exact if_neg (by assumption)
          · skip
            by_cases hx1_5 : x1 = 7
            · refine V_tabIn (off := 101) (tgt := 102) (sx_di dX12_worked 1 rfl) (by rw [hx1_5]; decide) (by rw [hx1_5]; decide) (by rw [hx1_5]; decide) (by decide) ?_
              rw [hx1_5] at ex1
              refine V_lload_n (i := 1) (sx_di dX12_worked 36 rfl) rfl rfl ?_
              refine V_lload_n (i := 3) (sx_di dX12_worked 37 rfl) rfl rfl ?_
              refine V_lcmp (sx_di dX12_worked 38 rfl) ?_
              refine V_if_ge (tgt := 112) (sx_di dX12_worked 39 rfl) (by decide) (fun h105 => ?_) (fun h105 => ?_)
              · rw [lg_cmp_ge] at h105
                refine V_iconst (v := 0) (sx_di dX12_worked 42 rfl) (by decide) ?_
                refine V_iret (sx_di dX12_worked 43 rfl) rfl (Nat.le_refl _) (Nat.le_refl _) ?_
                subst ex1
                refine Q_int h ?_
                unfold wke_
                rw [if_neg (by decide), if_neg (by decide), if_neg (by decide), if_neg (by decide), if_neg (by decide), if_pos rfl]
                first | exact if_pos (Int64.not_le.mp h105) | exact if_neg (Int64.not_lt.mpr h105)
              · rw [lg_cmp_ge] at h105
                refine V_iconst (v := 1) (sx_di dX12_worked 40 rfl) (by decide) ?_
                refine V_goto (tgt := 113) (sx_di dX12_worked 41 rfl) (by decide) ?_
                refine V_iret (sx_di dX12_worked 43 rfl) rfl (Nat.le_refl _) (Nat.le_refl _) ?_
                subst ex1
                refine Q_int h ?_
                unfold wke_
                rw [if_neg (by decide), if_neg (by decide), if_neg (by decide), if_neg (by decide), if_neg (by decide), if_pos rfl]
                first | exact if_pos (Int64.not_le.mp h105) | exact if_neg (Int64.not_lt.mpr h105)
            · skip
              by_cases hx1_6 : x1 = 8
              · refine V_tabIn (off := 113) (tgt := 114) (sx_di dX12_worked 1 rfl) (by rw [hx1_6]; decide) (by rw [hx1_6]; decide) (by rw [hx1_6]; decide) (by decide) ?_
                rw [hx1_6] at ex1
                refine V_lload_n (i := 1) (sx_di dX12_worked 44 rfl) rfl rfl ?_
                refine V_lload_n (i := 3) (sx_di dX12_worked 45 rfl) rfl rfl ?_
                refine V_lcmp (sx_di dX12_worked 46 rfl) ?_
                refine V_if_le (tgt := 124) (sx_di dX12_worked 47 rfl) (by decide) (fun h117 => ?_) (fun h117 => ?_)
                · rw [lg_cmp_le] at h117
                  refine V_iconst (v := 0) (sx_di dX12_worked 50 rfl) (by decide) ?_
                  refine V_iret (sx_di dX12_worked 51 rfl) rfl (Nat.le_refl _) (Nat.le_refl _) ?_
                  subst ex1
                  refine Q_int h ?_
                  unfold wke_
                  rw [if_neg (by decide), if_neg (by decide), if_neg (by decide), if_neg (by decide), if_neg (by decide), if_neg (by decide), if_pos rfl]
                  first | exact if_pos (Int64.not_le.mp h117) | exact if_neg (Int64.not_lt.mpr h117)
                · rw [lg_cmp_le] at h117
                  refine V_iconst (v := 1) (sx_di dX12_worked 48 rfl) (by decide) ?_
                  refine V_goto (tgt := 125) (sx_di dX12_worked 49 rfl) (by decide) ?_
                  refine V_iret (sx_di dX12_worked 51 rfl) rfl (Nat.le_refl _) (Nat.le_refl _) ?_
                  subst ex1
                  refine Q_int h ?_
                  unfold wke_
                  rw [if_neg (by decide), if_neg (by decide), if_neg (by decide), if_neg (by decide), if_neg (by decide), if_neg (by decide), if_pos rfl]
                  first | exact if_pos (Int64.not_le.mp h117) | exact if_neg (Int64.not_lt.mpr h117)
              · skip
                by_cases hx1_7 : x1 = 9
                · refine V_tabIn (off := 143) (tgt := 144) (sx_di dX12_worked 1 rfl) (by rw [hx1_7]; decide) (by rw [hx1_7]; decide) (by rw [hx1_7]; decide) (by decide) ?_
                  rw [hx1_7] at ex1
                  refine V_lload_n (i := 1) (sx_di dX12_worked 64 rfl) rfl rfl ?_
                  refine V_lconst (v := 0) (sx_di dX12_worked 65 rfl) (by decide) ?_
                  refine V_lcmp (sx_di dX12_worked 66 rfl) ?_
                  refine V_if_ne (tgt := 156) (sx_di dX12_worked 67 rfl) (by decide) (fun h147 => ?_) (fun h147 => ?_)
                  · rw [lg_cmp_eq] at h147
                    refine V_iconst (v := 1) (sx_di dX12_worked 72 rfl) (by decide) ?_
                    refine V_goto (tgt := 161) (sx_di dX12_worked 73 rfl) (by decide) ?_
                    refine V_iret (sx_di dX12_worked 75 rfl) rfl (Nat.le_refl _) (Nat.le_refl _) ?_
                    first | (subst ex1; refine Q_int h ?_; unfold wke_; rw [if_neg (by decide), if_neg (by decide), if_neg (by decide), if_neg (by decide), if_neg (by decide), if_neg (by decide), if_neg (by decide), if_neg (by decide)]; first | exact if_neg h147 | (rw [if_pos h147]; first | exact if_pos h153 | exact if_neg h153)) | (rw [ex1] at hx1_0 hx1_1 hx1_2 hx1_3 hx1_4 hx1_5 hx1_6 hx1_8; refine Q_int h ?_; unfold wke_; rw [if_neg hx1_0, if_neg hx1_1, if_neg hx1_2, if_neg hx1_3, if_neg hx1_4, if_neg hx1_5, if_neg hx1_6, if_neg hx1_8]; first | exact if_neg h147 | (rw [if_pos h147]; first | exact if_pos h153 | exact if_neg h153))
                  · rw [lg_cmp_eq] at h147
                    refine V_lload_n (i := 3) (sx_di dX12_worked 68 rfl) rfl rfl ?_
                    refine V_lconst (v := 0) (sx_di dX12_worked 69 rfl) (by decide) ?_
                    refine V_lcmp (sx_di dX12_worked 70 rfl) ?_
                    refine V_if_eq (tgt := 160) (sx_di dX12_worked 71 rfl) (by decide) (fun h153 => ?_) (fun h153 => ?_)
                    · rw [lg_cmp_eq] at h153
                      refine V_iconst (v := 0) (sx_di dX12_worked 74 rfl) (by decide) ?_
                      refine V_iret (sx_di dX12_worked 75 rfl) rfl (Nat.le_refl _) (Nat.le_refl _) ?_
                      first | (subst ex1; refine Q_int h ?_; unfold wke_; rw [if_neg (by decide), if_neg (by decide), if_neg (by decide), if_neg (by decide), if_neg (by decide), if_neg (by decide), if_neg (by decide), if_neg (by decide)]; first | exact if_neg h147 | (rw [if_pos h147]; first | exact if_pos h153 | exact if_neg h153)) | (rw [ex1] at hx1_0 hx1_1 hx1_2 hx1_3 hx1_4 hx1_5 hx1_6 hx1_8; refine Q_int h ?_; unfold wke_; rw [if_neg hx1_0, if_neg hx1_1, if_neg hx1_2, if_neg hx1_3, if_neg hx1_4, if_neg hx1_5, if_neg hx1_6, if_neg hx1_8]; first | exact if_neg h147 | (rw [if_pos h147]; first | exact if_pos h153 | exact if_neg h153))
                    · rw [lg_cmp_eq] at h153
                      refine V_iconst (v := 1) (sx_di dX12_worked 72 rfl) (by decide) ?_
                      refine V_goto (tgt := 161) (sx_di dX12_worked 73 rfl) (by decide) ?_
                      refine V_iret (sx_di dX12_worked 75 rfl) rfl (Nat.le_refl _) (Nat.le_refl _) ?_
                      first | (subst ex1; refine Q_int h ?_; unfold wke_; rw [if_neg (by decide), if_neg (by decide), if_neg (by decide), if_neg (by decide), if_neg (by decide), if_neg (by decide), if_neg (by decide), if_neg (by decide)]; first | exact if_neg h147 | (rw [if_pos h147]; first | exact if_pos h153 | exact if_neg h153)) | (rw [ex1] at hx1_0 hx1_1 hx1_2 hx1_3 hx1_4 hx1_5 hx1_6 hx1_8; refine Q_int h ?_; unfold wke_; rw [if_neg hx1_0, if_neg hx1_1, if_neg hx1_2, if_neg hx1_3, if_neg hx1_4, if_neg hx1_5, if_neg hx1_6, if_neg hx1_8]; first | exact if_neg h147 | (rw [if_pos h147]; first | exact if_pos h153 | exact if_neg h153))
                · skip
                  by_cases hx1_8 : x1 = 10
                  · refine V_tabIn (off := 125) (tgt := 126) (sx_di dX12_worked 1 rfl) (by rw [hx1_8]; decide) (by rw [hx1_8]; decide) (by rw [hx1_8]; decide) (by decide) ?_
                    rw [hx1_8] at ex1
                    refine V_lload_n (i := 1) (sx_di dX12_worked 52 rfl) rfl rfl ?_
                    refine V_lconst (v := 0) (sx_di dX12_worked 53 rfl) (by decide) ?_
                    refine V_lcmp (sx_di dX12_worked 54 rfl) ?_
                    refine V_if_eq (tgt := 142) (sx_di dX12_worked 55 rfl) (by decide) (fun h129 => ?_) (fun h129 => ?_)
                    · rw [lg_cmp_eq] at h129
                      refine V_iconst (v := 0) (sx_di dX12_worked 62 rfl) (by decide) ?_
                      refine V_iret (sx_di dX12_worked 63 rfl) rfl (Nat.le_refl _) (Nat.le_refl _) ?_
                      subst ex1
                      refine Q_int h ?_
                      unfold wke_
                      rw [if_neg (by decide), if_neg (by decide), if_neg (by decide), if_neg (by decide), if_neg (by decide), if_neg (by decide), if_neg (by decide), if_pos rfl]
                      first | exact if_pos h129 | (rw [if_neg h129]; first | exact if_pos h135 | exact if_neg h135)
                    · rw [lg_cmp_eq] at h129
                      refine V_lload_n (i := 3) (sx_di dX12_worked 56 rfl) rfl rfl ?_
                      refine V_lconst (v := 0) (sx_di dX12_worked 57 rfl) (by decide) ?_
                      refine V_lcmp (sx_di dX12_worked 58 rfl) ?_
                      refine V_if_eq (tgt := 142) (sx_di dX12_worked 59 rfl) (by decide) (fun h135 => ?_) (fun h135 => ?_)
                      · rw [lg_cmp_eq] at h135
                        refine V_iconst (v := 0) (sx_di dX12_worked 62 rfl) (by decide) ?_
                        refine V_iret (sx_di dX12_worked 63 rfl) rfl (Nat.le_refl _) (Nat.le_refl _) ?_
                        subst ex1
                        refine Q_int h ?_
                        unfold wke_
                        rw [if_neg (by decide), if_neg (by decide), if_neg (by decide), if_neg (by decide), if_neg (by decide), if_neg (by decide), if_neg (by decide), if_pos rfl]
                        first | exact if_pos h129 | (rw [if_neg h129]; first | exact if_pos h135 | exact if_neg h135)
                      · rw [lg_cmp_eq] at h135
                        refine V_iconst (v := 1) (sx_di dX12_worked 60 rfl) (by decide) ?_
                        refine V_goto (tgt := 143) (sx_di dX12_worked 61 rfl) (by decide) ?_
                        refine V_iret (sx_di dX12_worked 63 rfl) rfl (Nat.le_refl _) (Nat.le_refl _) ?_
                        subst ex1
                        refine Q_int h ?_
                        unfold wke_
                        rw [if_neg (by decide), if_neg (by decide), if_neg (by decide), if_neg (by decide), if_neg (by decide), if_neg (by decide), if_neg (by decide), if_pos rfl]
                        first | exact if_pos h129 | (rw [if_neg h129]; first | exact if_pos h135 | exact if_neg h135)
                  · skip
                    refine V_tabOut (tgt := 144) (sx_di dX12_worked 1 rfl) (by have z0 := lv_neT (a := 2) hx1_0 (by decide); have z1 := lv_neT (a := 3) hx1_1 (by decide); have z2 := lv_neT (a := 4) hx1_2 (by decide); have z3 := lv_neT (a := 5) hx1_3 (by decide); have z4 := lv_neT (a := 6) hx1_4 (by decide); have z5 := lv_neT (a := 7) hx1_5 (by decide); have z6 := lv_neT (a := 8) hx1_6 (by decide); have z7 := lv_neT (a := 9) hx1_7 (by decide); have z8 := lv_neT (a := 10) hx1_8 (by decide); omega) (by decide) ?_
                    refine V_lload_n (i := 1) (sx_di dX12_worked 64 rfl) rfl rfl ?_
                    refine V_lconst (v := 0) (sx_di dX12_worked 65 rfl) (by decide) ?_
                    refine V_lcmp (sx_di dX12_worked 66 rfl) ?_
                    refine V_if_ne (tgt := 156) (sx_di dX12_worked 67 rfl) (by decide) (fun h147 => ?_) (fun h147 => ?_)
                    · rw [lg_cmp_eq] at h147
                      refine V_iconst (v := 1) (sx_di dX12_worked 72 rfl) (by decide) ?_
                      refine V_goto (tgt := 161) (sx_di dX12_worked 73 rfl) (by decide) ?_
                      refine V_iret (sx_di dX12_worked 75 rfl) rfl (Nat.le_refl _) (Nat.le_refl _) ?_
                      first | (subst ex1; refine Q_int h ?_; unfold wke_; rw [if_neg (by decide), if_neg (by decide), if_neg (by decide), if_neg (by decide), if_neg (by decide), if_neg (by decide), if_neg (by decide), if_neg (by decide)]; first | exact if_neg h147 | (rw [if_pos h147]; first | exact if_pos h153 | exact if_neg h153)) | (rw [ex1] at hx1_0 hx1_1 hx1_2 hx1_3 hx1_4 hx1_5 hx1_6 hx1_8; refine Q_int h ?_; unfold wke_; rw [if_neg hx1_0, if_neg hx1_1, if_neg hx1_2, if_neg hx1_3, if_neg hx1_4, if_neg hx1_5, if_neg hx1_6, if_neg hx1_8]; first | exact if_neg h147 | (rw [if_pos h147]; first | exact if_pos h153 | exact if_neg h153))
                    · rw [lg_cmp_eq] at h147
                      refine V_lload_n (i := 3) (sx_di dX12_worked 68 rfl) rfl rfl ?_
                      refine V_lconst (v := 0) (sx_di dX12_worked 69 rfl) (by decide) ?_
                      refine V_lcmp (sx_di dX12_worked 70 rfl) ?_
                      refine V_if_eq (tgt := 160) (sx_di dX12_worked 71 rfl) (by decide) (fun h153 => ?_) (fun h153 => ?_)
                      · rw [lg_cmp_eq] at h153
                        refine V_iconst (v := 0) (sx_di dX12_worked 74 rfl) (by decide) ?_
                        refine V_iret (sx_di dX12_worked 75 rfl) rfl (Nat.le_refl _) (Nat.le_refl _) ?_
                        first | (subst ex1; refine Q_int h ?_; unfold wke_; rw [if_neg (by decide), if_neg (by decide), if_neg (by decide), if_neg (by decide), if_neg (by decide), if_neg (by decide), if_neg (by decide), if_neg (by decide)]; first | exact if_neg h147 | (rw [if_pos h147]; first | exact if_pos h153 | exact if_neg h153)) | (rw [ex1] at hx1_0 hx1_1 hx1_2 hx1_3 hx1_4 hx1_5 hx1_6 hx1_8; refine Q_int h ?_; unfold wke_; rw [if_neg hx1_0, if_neg hx1_1, if_neg hx1_2, if_neg hx1_3, if_neg hx1_4, if_neg hx1_5, if_neg hx1_6, if_neg hx1_8]; first | exact if_neg h147 | (rw [if_pos h147]; first | exact if_pos h153 | exact if_neg h153))
                      · rw [lg_cmp_eq] at h153
                        refine V_iconst (v := 1) (sx_di dX12_worked 72 rfl) (by decide) ?_
                        refine V_goto (tgt := 161) (sx_di dX12_worked 73 rfl) (by decide) ?_
                        refine V_iret (sx_di dX12_worked 75 rfl) rfl (Nat.le_refl _) (Nat.le_refl _) ?_
                        first | (subst ex1; refine Q_int h ?_; unfold wke_; rw [if_neg (by decide), if_neg (by decide), if_neg (by decide), if_neg (by decide), if_neg (by decide), if_neg (by decide), if_neg (by decide), if_neg (by decide)]; first | exact if_neg h147 | (rw [if_pos h147]; first | exact if_pos h153 | exact if_neg h153)) | (rw [ex1] at hx1_0 hx1_1 hx1_2 hx1_3 hx1_4 hx1_5 hx1_6 hx1_8; refine Q_int h ?_; unfold wke_; rw [if_neg hx1_0, if_neg hx1_1, if_neg hx1_2, if_neg hx1_3, if_neg hx1_4, if_neg hx1_5, if_neg hx1_6, if_neg hx1_8]; first | exact if_neg h147 | (rw [if_pos h147]; first | exact if_pos h153 | exact if_neg h153))
/-- the reference's cells hold the signs T from place b on -/
def rt_ (I : Nat → Nat → Int32) : Nat → List Int32 → Prop
  | _, [] => True
  | b, c :: T => (I 383 b = ec_ c ∧ I 384 b = ev_ c) ∧ rt_ I (b + 1) T
theorem sk_0 {I : Nat → Int32} {v : Int32} (h : sk_ I [v]) : I 0 = v := (sk_pop h).1
theorem ec_num {c : Int32} (h : ¬ c < -6) (h2 : ¬ c < 0) : ec_ c = 0 ∧ ev_ c = c := by unfold ec_ ev_; rw [if_neg h, if_neg h2, if_neg h, if_neg h2]; exact ⟨rfl, rfl⟩
theorem ec_let {c : Int32} (h : ¬ c < -6) (h2 : c < 0) : ec_ c = 1 ∧ ev_ c = -1 - c := by unfold ec_ ev_; rw [if_neg h, if_pos h2, if_neg h, if_pos h2]; exact ⟨rfl, rfl⟩
theorem ec_op {c : Int32} (h : c = -43 ∨ c = -45 ∨ c = -42 ∨ c = -47 ∨ c = -61 ∨ c = -60 ∨ c = -62 ∨ c = -38 ∨ c = -124) : ¬ ec_ c = 0 ∧ ¬ ec_ c = 1 ∧ ¬ ec_ c = 9 := by
  rcases h with rfl | rfl | rfl | rfl | rfl | rfl | rfl | rfl | rfl <;> decide
set_option maxHeartbeats 2000000 in
set_option maxRecDepth 20000 in
theorem wk_lp {E : sxE} {w : hpW} {Q : Option Value → hpW → Prop} (hB : ly_B w) {n to : Nat} {x0 : Int32} (hn : n ≤ 4) (hto : to ≤ 520) (v : Int32) (h : ∀ I, fr_ w I (fun b => b = 391) → Q (some (.int v)) (hp_wi w I)) : ∀ T k st I, k + T.length = 520 * n + to → rt_ (hp_i w) k T → ro_ T st.length → fr_ w I (fun b => b = 391) → sk_ (I 391) st → T.foldl (rr_ (hp_i w 390)) st = [v] → V E mX12_workOut (sx_rm 4 0 0) 0 0 0 0 12 [(5, .int (nI k)), (4, .int (nI st.length)), (3, .int (nI to)), (2, .int x0), (1, .int (nI n)), (0, .ref 381)] [] (hp_wi w I) Q := by
  intro T
  induction T with
  | nil =>
    intro k st I hk hrt hro hf hsk hF
    have e : k = 520 * n + to := by simpa using hk
    subst e
    have hF : st = [v] := hF
    subst hF
    refine V_iload (sx_di dX12_workOut 8 rfl) rfl ?_
    refine V_sipush (v := 520) (sx_di dX12_workOut 9 rfl) (by decide) ?_
    refine V_iload_n (i := 1) (sx_di dX12_workOut 10 rfl) rfl rfl ?_
    refine V_imul (sx_di dX12_workOut 11 rfl) ?_
    refine V_iload_n (i := 3) (sx_di dX12_workOut 12 rfl) rfl rfl ?_
    refine V_iadd (sx_di dX12_workOut 13 rfl) ?_
    refine V_icN_ge (a := (520 * n + to)) (b := ((520 * n) + to)) (rfl) (nx_add (nx_mul (rfl) (rfl)) (rfl)) (by omega) (by omega) (tgt := 171) (sx_di dX12_workOut 14 rfl) (by decide) (fun _ => ?_) (fun h21 => absurd h21 (by omega))
    refine V_aload_n (i := 0) (sx_di dX12_workOut 96 rfl) rfl rfl ?_
    refine V_getR (sx_di dX12_workOut 97 rfl) fX12_37 (fun _ => rfl) (hB.k _ rfl) (hB.r _ _ rfl) ?_
    refine V_iconst (v := 0) (sx_di dX12_workOut 98 rfl) (by decide) ?_
    refine V_ialdN (n := 80) (j := 0) (sx_di dX12_workOut 99 rfl) (hB.k _ rfl) (rfl) (by omega) (by omega) ?_
    refine V_iret (sx_di dX12_workOut 100 rfl) rfl (Nat.le_refl _) (Nat.le_refl _) ?_
    rw [show hp_i (hp_wi w I) 391 0 = v from sk_0 hsk]
    exact h I hf
  | cons c T ih =>
    intro k st I hk hrt hro hf hsk hF
    have hk2 : k + 1 + T.length = 520 * n + to := by rw [List.length_cons] at hk; omega
    have hc : hp_i (hp_wi w I) 383 k = ec_ c := (fr_w1 hf (by decide) k).trans hrt.1.1
    have hv : hp_i (hp_wi w I) 384 k = ev_ c := (fr_w1 hf (by decide) k).trans hrt.1.2
    have hrt2 := hrt.2
    have hl := hsk.1
    rw [ro_] at hro
    rw [List.foldl_cons] at hF
    unfold rr_ at hF
    by_cases c6 : c < -6
    · rw [if_pos c6] at hro hF
      by_cases c33 : c = -33
      · rw [if_pos c33] at hro hF
        obtain ⟨x, r, e0⟩ : ∃ x r, st = x :: r := by
          cases st with
          | nil => exact absurd hro.1 (by simp)
          | cons x r => exact ⟨x, r, rfl⟩
        subst e0
        have he : ec_ c = 9 := by rw [c33]; decide
        have hr48 : r.length < 48 := by simp at hl; omega
        have hp := sk_pop hsk
        have q1 := ih (k + 1) ((1 - x) :: r) (hp_u I 391 r.length (1 - x)) hk2 hrt2 hro.2 (fr_si hf rfl) (sk_push hp.2 hr48 (hp_u_at _ _ _ _) (fun j hj => hp_u_nk _ _ (fun z => hj z.2))) hF
        rw [← nI_1 k] at q1
        have hx : hp_i (hp_wi w I) 391 r.length = x := hp.1
        refine V_iload (sx_di dX12_workOut 8 rfl) rfl ?_
        refine V_sipush (v := 520) (sx_di dX12_workOut 9 rfl) (by decide) ?_
        refine V_iload_n (i := 1) (sx_di dX12_workOut 10 rfl) rfl rfl ?_
        refine V_imul (sx_di dX12_workOut 11 rfl) ?_
        refine V_iload_n (i := 3) (sx_di dX12_workOut 12 rfl) rfl rfl ?_
        refine V_iadd (sx_di dX12_workOut 13 rfl) ?_
        refine V_icN_ge (a := k) (b := ((520 * n) + to)) (rfl) (nx_add (nx_mul (rfl) (rfl)) (rfl)) (by omega) (by omega) (tgt := 171) (sx_di dX12_workOut 14 rfl) (by decide) (fun h21 => absurd h21 (by omega)) (fun _ => ?_)
        refine V_aload_n (i := 0) (sx_di dX12_workOut 15 rfl) rfl rfl ?_
        refine V_getR (sx_di dX12_workOut 16 rfl) fX12_13 (fun _ => rfl) (hB.k _ rfl) (hB.r _ _ rfl) ?_
        refine V_iload (sx_di dX12_workOut 17 rfl) rfl ?_
        refine V_ialdN (n := 2600) (j := k) (sx_di dX12_workOut 18 rfl) (hB.k _ rfl) (rfl) (by omega) (by omega) ?_
        rw [hc]
        refine V_if_eq (tgt := 45) (sx_di dX12_workOut 19 rfl) (by decide) (fun h31 => absurd (he.symm.trans h31) (by decide)) (fun _ => ?_)
        refine V_aload_n (i := 0) (sx_di dX12_workOut 20 rfl) rfl rfl ?_
        refine V_getR (sx_di dX12_workOut 21 rfl) fX12_13 (fun _ => rfl) (hB.k _ rfl) (hB.r _ _ rfl) ?_
        refine V_iload (sx_di dX12_workOut 22 rfl) rfl ?_
        refine V_ialdN (n := 2600) (j := k) (sx_di dX12_workOut 23 rfl) (hB.k _ rfl) (rfl) (by omega) (by omega) ?_
        rw [hc]
        refine V_iconst (v := 1) (sx_di dX12_workOut 24 rfl) (by decide) ?_
        refine V_icmp_ne (tgt := 90) (sx_di dX12_workOut 25 rfl) (by decide) (fun _ => ?_) (fun h42 => absurd (he.symm.trans h42) (by decide))
        refine V_aload_n (i := 0) (sx_di dX12_workOut 49 rfl) rfl rfl ?_
        refine V_getR (sx_di dX12_workOut 50 rfl) fX12_13 (fun _ => rfl) (hB.k _ rfl) (hB.r _ _ rfl) ?_
        refine V_iload (sx_di dX12_workOut 51 rfl) rfl ?_
        refine V_ialdN (n := 2600) (j := k) (sx_di dX12_workOut 52 rfl) (hB.k _ rfl) (rfl) (by omega) (by omega) ?_
        rw [hc]
        refine V_bipush (v := 9) (sx_di dX12_workOut 53 rfl) (by decide) ?_
        refine V_icmp_ne (tgt := 125) (sx_di dX12_workOut 54 rfl) (by decide) (fun h99 => absurd he h99) (fun _ => ?_)
        refine V_aload_n (i := 0) (sx_di dX12_workOut 55 rfl) rfl rfl ?_
        refine V_getR (sx_di dX12_workOut 56 rfl) fX12_37 (fun _ => rfl) (hB.k _ rfl) (hB.r _ _ rfl) ?_
        refine V_iload (sx_di dX12_workOut 57 rfl) rfl ?_
        refine V_iconst (v := 1) (sx_di dX12_workOut 58 rfl) (by decide) ?_
        refine V_isub (sx_di dX12_workOut 59 rfl) ?_
        refine V_iconst (v := 1) (sx_di dX12_workOut 60 rfl) (by decide) ?_
        refine V_aload_n (i := 0) (sx_di dX12_workOut 61 rfl) rfl rfl ?_
        refine V_getR (sx_di dX12_workOut 62 rfl) fX12_37 (fun _ => rfl) (hB.k _ rfl) (hB.r _ _ rfl) ?_
        refine V_iload (sx_di dX12_workOut 63 rfl) rfl ?_
        refine V_iconst (v := 1) (sx_di dX12_workOut 64 rfl) (by decide) ?_
        refine V_isub (sx_di dX12_workOut 65 rfl) ?_
        refine V_ialdN (n := 80) (j := ((r.length + 1) - 1)) (sx_di dX12_workOut 66 rfl) (hB.k _ rfl) (nx_sub (by rw [List.length_cons]) (rfl) (by omega)) (by omega) (by omega) ?_
        rw [show r.length + 1 - 1 = r.length by omega, hx]
        refine V_isub (sx_di dX12_workOut 67 rfl) ?_
        refine V_iastN (n := 80) (j := ((r.length + 1) - 1)) (sx_di dX12_workOut 68 rfl) (hB.k _ rfl) (nx_sub (by rw [List.length_cons]) (rfl) (by omega)) (by omega) (by omega) ?_
        rw [show r.length + 1 - 1 = r.length by omega]
        refine V_goto (tgt := 165) (sx_di dX12_workOut 69 rfl) (by decide) ?_
        refine V_inc (c := 1) (sx_di dX12_workOut 94 rfl) (by decide) rfl (by decide) (rfl) ?_
        refine V_goto (tgt := 12) (sx_di dX12_workOut 95 rfl) (by decide) ?_
        exact V_subk q1 ⟨rfl, rfl, rfl, rfl, rfl, rfl, trivial⟩
      · rw [if_neg c33] at hro hF
        obtain ⟨b, a2, r, e0⟩ : ∃ b a2 r, st = b :: a2 :: r := by
          match st, hro.1 with
          | [], h106 => exact absurd h106 (by simp)
          | [x], h106 => exact absurd h106 (by simp)
          | b :: a2 :: r, _ => exact ⟨b, a2, r, rfl⟩
        subst e0
        obtain ⟨he, he1, he9⟩ := ec_op hro.2.1
        have hr48 : r.length + 1 < 48 := by simp at hl; omega
        have hp := sk_pop hsk
        have hp2 := sk_pop hp.2
        have q1 := ih (k + 1) (wke_ (ec_ c) a2.toInt64 b.toInt64 :: r) (hp_u I 391 r.length (wke_ (ec_ c) a2.toInt64 b.toInt64)) hk2 hrt2 (by simpa using hro.2.2) (fr_si hf rfl) (sk_push hp2.2 (by omega) (hp_u_at _ _ _ _) (fun j hj => hp_u_nk _ _ (fun z => hj z.2))) hF
        rw [← nI_1 k, List.length_cons, ← pk_m1 (r.length + 1)] at q1
        have hx : hp_i (hp_wi w I) 391 r.length = a2 := hp2.1
        have hy : hp_i (hp_wi w I) 391 (r.length + 1) = b := hp.1
        refine V_iload (sx_di dX12_workOut 8 rfl) rfl ?_
        refine V_sipush (v := 520) (sx_di dX12_workOut 9 rfl) (by decide) ?_
        refine V_iload_n (i := 1) (sx_di dX12_workOut 10 rfl) rfl rfl ?_
        refine V_imul (sx_di dX12_workOut 11 rfl) ?_
        refine V_iload_n (i := 3) (sx_di dX12_workOut 12 rfl) rfl rfl ?_
        refine V_iadd (sx_di dX12_workOut 13 rfl) ?_
        refine V_icN_ge (a := k) (b := ((520 * n) + to)) (rfl) (nx_add (nx_mul (rfl) (rfl)) (rfl)) (by omega) (by omega) (tgt := 171) (sx_di dX12_workOut 14 rfl) (by decide) (fun h21 => absurd h21 (by omega)) (fun _ => ?_)
        refine V_aload_n (i := 0) (sx_di dX12_workOut 15 rfl) rfl rfl ?_
        refine V_getR (sx_di dX12_workOut 16 rfl) fX12_13 (fun _ => rfl) (hB.k _ rfl) (hB.r _ _ rfl) ?_
        refine V_iload (sx_di dX12_workOut 17 rfl) rfl ?_
        refine V_ialdN (n := 2600) (j := k) (sx_di dX12_workOut 18 rfl) (hB.k _ rfl) (rfl) (by omega) (by omega) ?_
        rw [hc]
        refine V_if_eq (tgt := 45) (sx_di dX12_workOut 19 rfl) (by decide) (fun h31 => absurd h31 he) (fun _ => ?_)
        refine V_aload_n (i := 0) (sx_di dX12_workOut 20 rfl) rfl rfl ?_
        refine V_getR (sx_di dX12_workOut 21 rfl) fX12_13 (fun _ => rfl) (hB.k _ rfl) (hB.r _ _ rfl) ?_
        refine V_iload (sx_di dX12_workOut 22 rfl) rfl ?_
        refine V_ialdN (n := 2600) (j := k) (sx_di dX12_workOut 23 rfl) (hB.k _ rfl) (rfl) (by omega) (by omega) ?_
        rw [hc]
        refine V_iconst (v := 1) (sx_di dX12_workOut 24 rfl) (by decide) ?_
        refine V_icmp_ne (tgt := 90) (sx_di dX12_workOut 25 rfl) (by decide) (fun _ => ?_) (fun h42 => absurd h42 he1)
        refine V_aload_n (i := 0) (sx_di dX12_workOut 49 rfl) rfl rfl ?_
        refine V_getR (sx_di dX12_workOut 50 rfl) fX12_13 (fun _ => rfl) (hB.k _ rfl) (hB.r _ _ rfl) ?_
        refine V_iload (sx_di dX12_workOut 51 rfl) rfl ?_
        refine V_ialdN (n := 2600) (j := k) (sx_di dX12_workOut 52 rfl) (hB.k _ rfl) (rfl) (by omega) (by omega) ?_
        rw [hc]
        refine V_bipush (v := 9) (sx_di dX12_workOut 53 rfl) (by decide) ?_
        refine V_icmp_ne (tgt := 125) (sx_di dX12_workOut 54 rfl) (by decide) (fun _ => ?_) (fun h99 => absurd h99 he9)
        refine V_inc (c := -1) (sx_di dX12_workOut 70 rfl) (by decide) rfl (by decide) (rfl) ?_
        refine V_aload_n (i := 0) (sx_di dX12_workOut 71 rfl) rfl rfl ?_
        refine V_getR (sx_di dX12_workOut 72 rfl) fX12_37 (fun _ => rfl) (hB.k _ rfl) (hB.r _ _ rfl) ?_
        refine V_iload (sx_di dX12_workOut 73 rfl) rfl ?_
        refine V_iconst (v := 1) (sx_di dX12_workOut 74 rfl) (by decide) ?_
        refine V_isub (sx_di dX12_workOut 75 rfl) ?_
        refine V_aload_n (i := 0) (sx_di dX12_workOut 76 rfl) rfl rfl ?_
        refine V_getR (sx_di dX12_workOut 77 rfl) fX12_13 (fun _ => rfl) (hB.k _ rfl) (hB.r _ _ rfl) ?_
        refine V_iload (sx_di dX12_workOut 78 rfl) rfl ?_
        refine V_ialdN (n := 2600) (j := k) (sx_di dX12_workOut 79 rfl) (hB.k _ rfl) (rfl) (by omega) (by omega) ?_
        rw [hc]
        refine V_aload_n (i := 0) (sx_di dX12_workOut 80 rfl) rfl rfl ?_
        refine V_getR (sx_di dX12_workOut 81 rfl) fX12_37 (fun _ => rfl) (hB.k _ rfl) (hB.r _ _ rfl) ?_
        refine V_iload (sx_di dX12_workOut 82 rfl) rfl ?_
        refine V_iconst (v := 1) (sx_di dX12_workOut 83 rfl) (by decide) ?_
        refine V_isub (sx_di dX12_workOut 84 rfl) ?_
        refine V_ialdN (n := 80) (j := (((r.length + 1 + 1) - 1) - 1)) (sx_di dX12_workOut 85 rfl) (hB.k _ rfl) (nx_sub (nx_dec (by rw [List.length_cons, List.length_cons]) (by omega)) (rfl) (by omega)) (by omega) (by omega) ?_
        rw [show r.length + 1 + 1 - 1 - 1 = r.length by omega, hx]
        refine V_i2l (sx_di dX12_workOut 86 rfl) ?_
        refine V_aload_n (i := 0) (sx_di dX12_workOut 87 rfl) rfl rfl ?_
        refine V_getR (sx_di dX12_workOut 88 rfl) fX12_37 (fun _ => rfl) (hB.k _ rfl) (hB.r _ _ rfl) ?_
        refine V_iload (sx_di dX12_workOut 89 rfl) rfl ?_
        refine V_ialdN (n := 80) (j := ((r.length + 1 + 1) - 1)) (sx_di dX12_workOut 90 rfl) (hB.k _ rfl) (nx_dec (by rw [List.length_cons, List.length_cons]) (by omega)) (by omega) (by omega) ?_
        rw [show r.length + 1 + 1 - 1 = r.length + 1 by omega, hy]
        refine V_i2l (sx_di dX12_workOut 91 rfl) ?_
        refine V_cS3 (mc' := 0) (ms' := 0) (M' := mX12_worked) 3 (sx_di dX12_workOut 92 rfl) lX12_206 vX12_worked (Nat.le_of_ble_eq_true rfl) ⟨Nat.le_of_ble_eq_true rfl, Nat.le_of_ble_eq_true rfl⟩ ⟨Nat.le_refl _, Nat.le_refl _⟩ ?_
        refine c_X12_worked ?_
        refine V_iastN (n := 80) (j := (((r.length + 1 + 1) - 1) - 1)) (sx_di dX12_workOut 93 rfl) (hB.k _ rfl) (nx_sub (nx_dec (by rw [List.length_cons, List.length_cons]) (by omega)) (rfl) (by omega)) (by omega) (by omega) ?_
        rw [show r.length + 1 + 1 - 1 - 1 = r.length by omega]
        refine V_inc (c := 1) (sx_di dX12_workOut 94 rfl) (by decide) rfl (by decide) (rfl) ?_
        refine V_goto (tgt := 12) (sx_di dX12_workOut 95 rfl) (by decide) ?_
        exact V_subk q1 ⟨rfl, rfl, rfl, rfl, rfl, rfl, trivial⟩
    · rw [if_neg c6] at hro hF
      have t48 := hro.1
      by_cases c0 : c < 0
      · rw [if_pos c0] at hF
        obtain ⟨he, hev⟩ := ec_let c6 c0
        rw [hev] at hv
        have hci : vp_in (-1 - c) 6 := rk_ix c6 c0
        have hL : hp_i (hp_wi w I) 390 (-1 - c).toNatClampNeg = hp_i w 390 (-1 - c).toNatClampNeg := fr_w1 hf (by decide) _
        have q1 := ih (k + 1) (hp_i w 390 (-1 - c).toNatClampNeg :: st) (hp_u I 391 st.length (hp_i w 390 (-1 - c).toNatClampNeg)) hk2 hrt2 hro.2 (fr_si hf rfl) (sk_push hsk t48 (hp_u_at _ _ _ _) (fun j hj => hp_u_nk _ _ (fun z => hj z.2))) hF
        rw [List.length_cons, ← nI_1 st.length, ← nI_1 k] at q1
        refine V_iload (sx_di dX12_workOut 8 rfl) rfl ?_
        refine V_sipush (v := 520) (sx_di dX12_workOut 9 rfl) (by decide) ?_
        refine V_iload_n (i := 1) (sx_di dX12_workOut 10 rfl) rfl rfl ?_
        refine V_imul (sx_di dX12_workOut 11 rfl) ?_
        refine V_iload_n (i := 3) (sx_di dX12_workOut 12 rfl) rfl rfl ?_
        refine V_iadd (sx_di dX12_workOut 13 rfl) ?_
        refine V_icN_ge (a := k) (b := ((520 * n) + to)) (rfl) (nx_add (nx_mul (rfl) (rfl)) (rfl)) (by omega) (by omega) (tgt := 171) (sx_di dX12_workOut 14 rfl) (by decide) (fun h21 => absurd h21 (by omega)) (fun _ => ?_)
        refine V_aload_n (i := 0) (sx_di dX12_workOut 15 rfl) rfl rfl ?_
        refine V_getR (sx_di dX12_workOut 16 rfl) fX12_13 (fun _ => rfl) (hB.k _ rfl) (hB.r _ _ rfl) ?_
        refine V_iload (sx_di dX12_workOut 17 rfl) rfl ?_
        refine V_ialdN (n := 2600) (j := k) (sx_di dX12_workOut 18 rfl) (hB.k _ rfl) (rfl) (by omega) (by omega) ?_
        rw [hc]
        refine V_if_eq (tgt := 45) (sx_di dX12_workOut 19 rfl) (by decide) (fun h31 => absurd (he.symm.trans h31) (by decide)) (fun _ => ?_)
        refine V_aload_n (i := 0) (sx_di dX12_workOut 20 rfl) rfl rfl ?_
        refine V_getR (sx_di dX12_workOut 21 rfl) fX12_13 (fun _ => rfl) (hB.k _ rfl) (hB.r _ _ rfl) ?_
        refine V_iload (sx_di dX12_workOut 22 rfl) rfl ?_
        refine V_ialdN (n := 2600) (j := k) (sx_di dX12_workOut 23 rfl) (hB.k _ rfl) (rfl) (by omega) (by omega) ?_
        rw [hc]
        refine V_iconst (v := 1) (sx_di dX12_workOut 24 rfl) (by decide) ?_
        refine V_icmp_ne (tgt := 90) (sx_di dX12_workOut 25 rfl) (by decide) (fun h42 => absurd he h42) (fun _ => ?_)
        refine V_aload_n (i := 0) (sx_di dX12_workOut 26 rfl) rfl rfl ?_
        refine V_getR (sx_di dX12_workOut 27 rfl) fX12_37 (fun _ => rfl) (hB.k _ rfl) (hB.r _ _ rfl) ?_
        refine V_iload (sx_di dX12_workOut 28 rfl) rfl ?_
        refine V_aload_n (i := 0) (sx_di dX12_workOut 29 rfl) rfl rfl ?_
        refine V_getR (sx_di dX12_workOut 30 rfl) fX12_13 (fun _ => rfl) (hB.k _ rfl) (hB.r _ _ rfl) ?_
        refine V_iload (sx_di dX12_workOut 31 rfl) rfl ?_
        refine V_ialdN (n := 2600) (j := k) (sx_di dX12_workOut 32 rfl) (hB.k _ rfl) (rfl) (by omega) (by omega) ?_
        rw [hc]
        refine V_if_ne (tgt := 71) (sx_di dX12_workOut 33 rfl) (by decide) (fun _ => ?_) (fun h58 => absurd (he.symm.trans h58) (by decide))
        refine V_aload_n (i := 0) (sx_di dX12_workOut 39 rfl) rfl rfl ?_
        refine V_getR (sx_di dX12_workOut 40 rfl) fX12_34 (fun _ => rfl) (hB.k _ rfl) (hB.r _ _ rfl) ?_
        refine V_aload_n (i := 0) (sx_di dX12_workOut 41 rfl) rfl rfl ?_
        refine V_getR (sx_di dX12_workOut 42 rfl) fX12_16 (fun _ => rfl) (hB.k _ rfl) (hB.r _ _ rfl) ?_
        refine V_iload (sx_di dX12_workOut 43 rfl) rfl ?_
        refine V_ialdN (n := 2600) (j := k) (sx_di dX12_workOut 44 rfl) (hB.k _ rfl) (rfl) (by omega) (by omega) ?_
        rw [hv]
        refine V_iald (sx_di dX12_workOut 45 rfl) (hB.k _ rfl) (hci) ?_
        rw [hL]
        refine V_iastN (n := 80) (j := st.length) (sx_di dX12_workOut 46 rfl) (hB.k _ rfl) (rfl) (by omega) (by omega) ?_
        refine V_inc (c := 1) (sx_di dX12_workOut 47 rfl) (by decide) rfl (by decide) (rfl) ?_
        refine V_goto (tgt := 165) (sx_di dX12_workOut 48 rfl) (by decide) ?_
        refine V_inc (c := 1) (sx_di dX12_workOut 94 rfl) (by decide) rfl (by decide) (rfl) ?_
        refine V_goto (tgt := 12) (sx_di dX12_workOut 95 rfl) (by decide) ?_
        exact V_subk q1 ⟨rfl, rfl, rfl, rfl, rfl, rfl, trivial⟩
      · rw [if_neg c0] at hF
        obtain ⟨he, hev⟩ := ec_num c6 c0
        rw [hev] at hv
        have q1 := ih (k + 1) (c :: st) (hp_u I 391 st.length c) hk2 hrt2 hro.2 (fr_si hf rfl) (sk_push hsk t48 (hp_u_at _ _ _ _) (fun j hj => hp_u_nk _ _ (fun z => hj z.2))) hF
        rw [List.length_cons, ← nI_1 st.length, ← nI_1 k] at q1
        refine V_iload (sx_di dX12_workOut 8 rfl) rfl ?_
        refine V_sipush (v := 520) (sx_di dX12_workOut 9 rfl) (by decide) ?_
        refine V_iload_n (i := 1) (sx_di dX12_workOut 10 rfl) rfl rfl ?_
        refine V_imul (sx_di dX12_workOut 11 rfl) ?_
        refine V_iload_n (i := 3) (sx_di dX12_workOut 12 rfl) rfl rfl ?_
        refine V_iadd (sx_di dX12_workOut 13 rfl) ?_
        refine V_icN_ge (a := k) (b := ((520 * n) + to)) (rfl) (nx_add (nx_mul (rfl) (rfl)) (rfl)) (by omega) (by omega) (tgt := 171) (sx_di dX12_workOut 14 rfl) (by decide) (fun h21 => absurd h21 (by omega)) (fun _ => ?_)
        refine V_aload_n (i := 0) (sx_di dX12_workOut 15 rfl) rfl rfl ?_
        refine V_getR (sx_di dX12_workOut 16 rfl) fX12_13 (fun _ => rfl) (hB.k _ rfl) (hB.r _ _ rfl) ?_
        refine V_iload (sx_di dX12_workOut 17 rfl) rfl ?_
        refine V_ialdN (n := 2600) (j := k) (sx_di dX12_workOut 18 rfl) (hB.k _ rfl) (rfl) (by omega) (by omega) ?_
        rw [hc]
        refine V_if_eq (tgt := 45) (sx_di dX12_workOut 19 rfl) (by decide) (fun _ => ?_) (fun h31 => absurd he h31)
        refine V_aload_n (i := 0) (sx_di dX12_workOut 26 rfl) rfl rfl ?_
        refine V_getR (sx_di dX12_workOut 27 rfl) fX12_37 (fun _ => rfl) (hB.k _ rfl) (hB.r _ _ rfl) ?_
        refine V_iload (sx_di dX12_workOut 28 rfl) rfl ?_
        refine V_aload_n (i := 0) (sx_di dX12_workOut 29 rfl) rfl rfl ?_
        refine V_getR (sx_di dX12_workOut 30 rfl) fX12_13 (fun _ => rfl) (hB.k _ rfl) (hB.r _ _ rfl) ?_
        refine V_iload (sx_di dX12_workOut 31 rfl) rfl ?_
        refine V_ialdN (n := 2600) (j := k) (sx_di dX12_workOut 32 rfl) (hB.k _ rfl) (rfl) (by omega) (by omega) ?_
        rw [hc]
        refine V_if_ne (tgt := 71) (sx_di dX12_workOut 33 rfl) (by decide) (fun h58 => absurd he h58) (fun _ => ?_)
        refine V_aload_n (i := 0) (sx_di dX12_workOut 34 rfl) rfl rfl ?_
        refine V_getR (sx_di dX12_workOut 35 rfl) fX12_16 (fun _ => rfl) (hB.k _ rfl) (hB.r _ _ rfl) ?_
        refine V_iload (sx_di dX12_workOut 36 rfl) rfl ?_
        refine V_ialdN (n := 2600) (j := k) (sx_di dX12_workOut 37 rfl) (hB.k _ rfl) (rfl) (by omega) (by omega) ?_
        rw [hv]
        refine V_goto (tgt := 83) (sx_di dX12_workOut 38 rfl) (by decide) ?_
        refine V_iastN (n := 80) (j := st.length) (sx_di dX12_workOut 46 rfl) (hB.k _ rfl) (rfl) (by omega) (by omega) ?_
        refine V_inc (c := 1) (sx_di dX12_workOut 47 rfl) (by decide) rfl (by decide) (rfl) ?_
        refine V_goto (tgt := 165) (sx_di dX12_workOut 48 rfl) (by decide) ?_
        refine V_inc (c := 1) (sx_di dX12_workOut 94 rfl) (by decide) rfl (by decide) (rfl) ?_
        refine V_goto (tgt := 12) (sx_di dX12_workOut 95 rfl) (by decide) ?_
        exact V_subk q1 ⟨rfl, rfl, rfl, rfl, rfl, rfl, trivial⟩
set_option maxHeartbeats 2000000 in
set_option maxRecDepth 20000 in
theorem c_X12_workOut {E : sxE} {w : hpW} {Q : Option Value → hpW → Prop} (hB : ly_B w) {n i : Nat} (T : List Int32) (hn : n ≤ 4) (hto : i + T.length ≤ 520) (hrt : rt_ (hp_i w) (520 * n + i) T) (hro : ro_ T 0) {v : Int32} (hF : T.foldl (rr_ (hp_i w 390)) [] = [v]) (h : ∀ I, fr_ w I (fun b => b = 391) → Q (some (.int v)) (hp_wi w I)) : sx_C E mX12_workOut 4 0 0 [.ref 381, .int (nI n), .int (nI i), .int (nI (i + T.length))] w Q := by
  refine C_of (by decide +kernel) (Nat.le_of_ble_eq_true rfl) ?_
  refine V_iconst (v := 0) (sx_di dX12_workOut 0 rfl) (by decide) ?_
  refine V_istore (sx_di dX12_workOut 1 rfl) (by decide) (rfl) ?_
  refine V_sipush (v := 520) (sx_di dX12_workOut 2 rfl) (by decide) ?_
  refine V_iload_n (i := 1) (sx_di dX12_workOut 3 rfl) rfl rfl ?_
  refine V_imul (sx_di dX12_workOut 4 rfl) ?_
  refine V_iload_n (i := 2) (sx_di dX12_workOut 5 rfl) rfl rfl ?_
  refine V_iadd (sx_di dX12_workOut 6 rfl) ?_
  refine V_istore (sx_di dX12_workOut 7 rfl) (by decide) (rfl) ?_
  have e1 : (520 : Int32) * nI n + nI i = nI (520 * n + i) := nx_add (nx_mul rfl rfl) rfl
  refine V_sub (ls' := [(5, .int (nI (520 * n + i))), (4, .int (nI ([] : List Int32).length)), (3, .int (nI (i + T.length))), (2, .int (nI i)), (1, .int (nI n)), (0, .ref 381)]) ⟨by rw [← e1]; rfl, rfl, rfl, rfl, rfl, rfl, trivial⟩ ?_
  exact wk_lp (w := w) hB hn hto v h T (520 * n + i) [] (hp_i w) (by omega) hrt hro fr_rf ⟨by simp, fun j hj => by simp at hj⟩ hF
/-- a law: its clauses, condition (none: empty) and sum -/
abbrev lwT : Type := List (List Int32 × List Int32)
def lwv_ (L : Nat → Int32) : lwT → Int32
  | [] => 0
  | (A, B) :: r => if A = [] ∨ (A.foldl (rs_ L) []).headD 0 ≠ 0 then (B.foldl (rs_ L) []).headD 0 else lwv_ L r
/-- each clause is whole -/
def lwo_ (W : lwT) : Prop := ∀ q, q ∈ W → (q.1 = [] ∨ SE q.1 40 true) ∧ SE q.2 40 false
/-- the reference's cells hold the clauses W of law k, from clause c on -/
def rw_ (I : Nat → Nat → Int32) (k : Nat) : Nat → lwT → Prop
  | _, [] => True
  | c, (A, B) :: r => (∃ i : Nat, I 387 (140 * k + c) = nI i ∧ I 388 (140 * k + c) = nI (i + A.length) ∧ I 389 (140 * k + c) = nI (i + A.length + B.length) ∧ i + A.length + B.length ≤ 240 ∧ rt_ I (520 * k + i) A ∧ rt_ I (520 * k + i + A.length) B) ∧ rw_ I k (c + 1) r
def rl_ (I : Nat → Nat → Int32) (k : Nat) (W : lwT) : Prop := I 386 k = nI W.length ∧ W.length ≤ 64 ∧ rw_ I k 0 W ∧ lwo_ W
theorem SE_val {L : Nat → Int32} (hL : lb_ L) {T : List Int32} {t : Bool} (hT : SE T 40 t) : ∃ v, bn_ v ∧ T.foldl (rs_ L) [] = [v] ∧ T.foldl (rr_ L) [] = [v] ∧ ro_ T 0 := by
  obtain ⟨_, v, h1, h2, h3, h4, h5⟩ := SE_ok hL hT
  refine ⟨v, h1, h3 [] (by simp), h4 [], ?_⟩
  have := h5 [] 0 (by omega) trivial
  simpa using this
theorem SE_ne {T : List Int32} {h : Nat} {t : Bool} (hT : SE T h t) : T ≠ [] := by
  refine hT (fun T _ _ => T ≠ []) (fun c _ _ => by simp) (fun A B a c t1 t2 _ _ _ => by simp) (fun A a _ => by simp) (fun A a b t _ h => h)
set_option maxHeartbeats 2000000 in
set_option maxRecDepth 20000 in
theorem wo_lpR {E : sxE} {w : hpW} {Q : Option Value → hpW → Prop} (hB : ly_B w) {k m : Nat} (hk : k ≤ 4) (hm : m ≤ 64) (hcl : hp_i w 386 k = nI m) (hL : lb_ (hp_i w 390)) : ∀ W c I, c + W.length = m → rw_ (hp_i w) k c W → lwo_ W → fr_ w I (fun b => b = 391) → (∀ I, fr_ w I (fun b => b = 391) → Q (some (.int (lwv_ (hp_i w 390) W))) (hp_wi w I)) → V E mX12_worthOf (sx_rm 5 0 0) 0 0 0 0 6 [(2, .int (nI (140 * k + c))), (1, .int (nI k)), (0, .ref 381)] [] (hp_wi w I) Q := by
  intro W
  induction W with
  | nil =>
    intro c I hc hrw hlo hf h
    have e : c = m := by simpa using hc
    subst e
    have hcl2 : hp_i (hp_wi w I) 386 k = nI c := (fr_w1 hf (by decide) k).trans hcl
    refine V_iload_n (i := 2) (sx_di dX12_worthOf 4 rfl) rfl rfl ?_
    refine V_sipush (v := 140) (sx_di dX12_worthOf 5 rfl) (by decide) ?_
    refine V_iload_n (i := 1) (sx_di dX12_worthOf 6 rfl) rfl rfl ?_
    refine V_imul (sx_di dX12_worthOf 7 rfl) ?_
    refine V_aload_n (i := 0) (sx_di dX12_worthOf 8 rfl) rfl rfl ?_
    refine V_getR (sx_di dX12_worthOf 9 rfl) fX12_22 (fun _ => rfl) (hB.k _ rfl) (hB.r _ _ rfl) ?_
    refine V_iload_n (i := 1) (sx_di dX12_worthOf 10 rfl) rfl rfl ?_
    refine V_ialdN (n := 5) (j := k) (sx_di dX12_worthOf 11 rfl) (hB.k _ rfl) (rfl) (by omega) (by omega) ?_
    refine V_iadd (sx_di dX12_worthOf 12 rfl) ?_
    refine V_icN_ge (a := (140 * k + c)) (b := ((140 * k) + c)) (rfl) (nx_add (nx_mul (rfl) (rfl)) (hcl2)) (by omega) (by omega) (tgt := 81) (sx_di dX12_worthOf 13 rfl) (by decide) (fun _ => ?_) (fun h19 => absurd h19 (by omega))
    refine V_iconst (v := 0) (sx_di dX12_worthOf 49 rfl) (by decide) ?_
    refine V_iret (sx_di dX12_worthOf 50 rfl) rfl (Nat.le_refl _) (Nat.le_refl _) ?_
    exact h I hf
  | cons q W ih =>
    intro c I hc hrw hlo hf h
    obtain ⟨A, B⟩ := q
    obtain ⟨⟨i, r1, r2, r3, r4, r5, r6⟩, hrw2⟩ := hrw
    have hc2 : c + 1 + W.length = m := by rw [List.length_cons] at hc; omega
    have hlo2 : lwo_ W := fun q hq => hlo q (List.mem_cons_of_mem _ hq)
    obtain ⟨oA, oB⟩ := hlo (A, B) List.mem_cons_self
    obtain ⟨vb, _, b1, b2, b3⟩ := SE_val hL oB
    have hcl2 : ∀ J, fr_ w J (fun b => b = 391) → hp_i (hp_wi w J) 386 k = nI m := fun J hJ => (fr_w1 hJ (by decide) k).trans hcl
    have e1 : ∀ J, fr_ w J (fun b => b = 391) → hp_i (hp_wi w J) 387 (140 * k + c) = nI i := fun J hJ => (fr_w1 hJ (by decide) _).trans r1
    have e2 : ∀ J, fr_ w J (fun b => b = 391) → hp_i (hp_wi w J) 388 (140 * k + c) = nI (i + A.length) := fun J hJ => (fr_w1 hJ (by decide) _).trans r2
    have e3 : ∀ J, fr_ w J (fun b => b = 391) → hp_i (hp_wi w J) 389 (140 * k + c) = nI (i + A.length + B.length) := fun J hJ => (fr_w1 hJ (by decide) _).trans r3
    have rt_mv : ∀ (J : Nat → Nat → Int32), fr_ w J (fun b => b = 391) → ∀ T b, rt_ (hp_i w) b T → rt_ J b T := by
      intro J hJ T
      induction T with
      | nil => intro b _; trivial
      | cons x T ih2 => intro b hb; exact ⟨⟨(fr_w1 hJ (by decide) b).trans hb.1.1, (fr_w1 hJ (by decide) b).trans hb.1.2⟩, ih2 _ hb.2⟩
    have eL : ∀ J, fr_ w J (fun b => b = 391) → J 390 = hp_i w 390 := fun J hJ => hJ 390 (by decide)
    have q1 := ih (c + 1) 
    rw [← Nat.add_assoc, ← nI_1] at q1
    have fin : (A = [] ∨ (A.foldl (rs_ (hp_i w 390)) []).headD 0 ≠ 0) → ∀ J, fr_ w J (fun b => b = 391) → V E mX12_worthOf (sx_rm 5 0 0) 0 0 0 0 57 [(2, .int (nI (140 * k + c))), (1, .int (nI k)), (0, .ref 381)] [] (hp_wi w J) Q := by
      intro hA J hJ
      rw [lwv_, if_pos hA, b1] at h
      refine V_aload_n (i := 0) (sx_di dX12_worthOf 35 rfl) rfl rfl ?_
      refine V_iload_n (i := 1) (sx_di dX12_worthOf 36 rfl) rfl rfl ?_
      refine V_aload_n (i := 0) (sx_di dX12_worthOf 37 rfl) rfl rfl ?_
      refine V_getR (sx_di dX12_worthOf 38 rfl) fX12_28 (fun _ => rfl) (hB.k _ rfl) (hB.r _ _ rfl) ?_
      refine V_iload_n (i := 2) (sx_di dX12_worthOf 39 rfl) rfl rfl ?_
      refine V_ialdN (n := 700) (j := (140 * k + c)) (sx_di dX12_worthOf 40 rfl) (hB.k _ rfl) (rfl) (by omega) (by omega) ?_
      rw [e2 J hJ]
      refine V_aload_n (i := 0) (sx_di dX12_worthOf 41 rfl) rfl rfl ?_
      refine V_getR (sx_di dX12_worthOf 42 rfl) fX12_31 (fun _ => rfl) (hB.k _ rfl) (hB.r _ _ rfl) ?_
      refine V_iload_n (i := 2) (sx_di dX12_worthOf 43 rfl) rfl rfl ?_
      refine V_ialdN (n := 700) (j := (140 * k + c)) (sx_di dX12_worthOf 44 rfl) (hB.k _ rfl) (rfl) (by omega) (by omega) ?_
      rw [e3 J hJ]
      refine V_cV3 (mc' := 0) (ms' := 0) (M' := mX12_workOut) 4 (sx_di dX12_worthOf 45 rfl) lX12_210 vX12_workOut (hB.k _ rfl) (by decide) rfl (Nat.le_of_ble_eq_true rfl) ⟨Nat.le_of_ble_eq_true rfl, Nat.le_of_ble_eq_true rfl⟩ ⟨Nat.le_refl _, Nat.le_refl _⟩ ?_
      refine c_X12_workOut (w := hp_wi w J) (ly_wi hB _) B hk (by omega) (by rw [← Nat.add_assoc]; exact rt_mv J hJ _ _ r6) b3 (by rw [show hp_i (hp_wi w J) 390 = _ from eL J hJ]; exact b2) (fun I2 f2 => ?_)
      refine V_iret (sx_di dX12_worthOf 46 rfl) rfl (Nat.le_refl _) (Nat.le_refl _) ?_
      exact h I2 (fr_tr hJ f2 (fun b z => z))
    rcases oA with hA | oA
    · have hA : A = [] := hA
      have eAl : A.length = 0 := by rw [hA]; rfl
      refine V_iload_n (i := 2) (sx_di dX12_worthOf 4 rfl) rfl rfl ?_
      refine V_sipush (v := 140) (sx_di dX12_worthOf 5 rfl) (by decide) ?_
      refine V_iload_n (i := 1) (sx_di dX12_worthOf 6 rfl) rfl rfl ?_
      refine V_imul (sx_di dX12_worthOf 7 rfl) ?_
      refine V_aload_n (i := 0) (sx_di dX12_worthOf 8 rfl) rfl rfl ?_
      refine V_getR (sx_di dX12_worthOf 9 rfl) fX12_22 (fun _ => rfl) (hB.k _ rfl) (hB.r _ _ rfl) ?_
      refine V_iload_n (i := 1) (sx_di dX12_worthOf 10 rfl) rfl rfl ?_
      refine V_ialdN (n := 5) (j := k) (sx_di dX12_worthOf 11 rfl) (hB.k _ rfl) (rfl) (by omega) (by omega) ?_
      refine V_iadd (sx_di dX12_worthOf 12 rfl) ?_
      refine V_icN_ge (a := (140 * k + c)) (b := ((140 * k) + m)) (rfl) (nx_add (nx_mul (rfl) (rfl)) (hcl2 I hf)) (by omega) (by omega) (tgt := 81) (sx_di dX12_worthOf 13 rfl) (by decide) (fun h19 => absurd h19 (by omega)) (fun _ => ?_)
      refine V_aload_n (i := 0) (sx_di dX12_worthOf 14 rfl) rfl rfl ?_
      refine V_getR (sx_di dX12_worthOf 15 rfl) fX12_25 (fun _ => rfl) (hB.k _ rfl) (hB.r _ _ rfl) ?_
      refine V_iload_n (i := 2) (sx_di dX12_worthOf 16 rfl) rfl rfl ?_
      refine V_ialdN (n := 700) (j := (140 * k + c)) (sx_di dX12_worthOf 17 rfl) (hB.k _ rfl) (rfl) (by omega) (by omega) ?_
      rw [e1 I hf]
      refine V_aload_n (i := 0) (sx_di dX12_worthOf 18 rfl) rfl rfl ?_
      refine V_getR (sx_di dX12_worthOf 19 rfl) fX12_28 (fun _ => rfl) (hB.k _ rfl) (hB.r _ _ rfl) ?_
      refine V_iload_n (i := 2) (sx_di dX12_worthOf 20 rfl) rfl rfl ?_
      refine V_ialdN (n := 700) (j := (140 * k + c)) (sx_di dX12_worthOf 21 rfl) (hB.k _ rfl) (rfl) (by omega) (by omega) ?_
      rw [e2 I hf]
      refine V_icN_eq (a := i) (b := (i + A.length)) (rfl) (rfl) (by omega) (by omega) (tgt := 57) (sx_di dX12_worthOf 22 rfl) (by decide) (fun _ => ?_) (fun h34 => absurd h34 (by omega))
      exact fin (Or.inl hA) I hf
    · have hne : A ≠ [] := SE_ne oA
      have hal : 0 < A.length := List.length_pos_iff.mpr hne
      obtain ⟨va, _, a1, a2, a3⟩ := SE_val hL oA
      refine V_iload_n (i := 2) (sx_di dX12_worthOf 4 rfl) rfl rfl ?_
      refine V_sipush (v := 140) (sx_di dX12_worthOf 5 rfl) (by decide) ?_
      refine V_iload_n (i := 1) (sx_di dX12_worthOf 6 rfl) rfl rfl ?_
      refine V_imul (sx_di dX12_worthOf 7 rfl) ?_
      refine V_aload_n (i := 0) (sx_di dX12_worthOf 8 rfl) rfl rfl ?_
      refine V_getR (sx_di dX12_worthOf 9 rfl) fX12_22 (fun _ => rfl) (hB.k _ rfl) (hB.r _ _ rfl) ?_
      refine V_iload_n (i := 1) (sx_di dX12_worthOf 10 rfl) rfl rfl ?_
      refine V_ialdN (n := 5) (j := k) (sx_di dX12_worthOf 11 rfl) (hB.k _ rfl) (rfl) (by omega) (by omega) ?_
      refine V_iadd (sx_di dX12_worthOf 12 rfl) ?_
      refine V_icN_ge (a := (140 * k + c)) (b := ((140 * k) + m)) (rfl) (nx_add (nx_mul (rfl) (rfl)) (hcl2 I hf)) (by omega) (by omega) (tgt := 81) (sx_di dX12_worthOf 13 rfl) (by decide) (fun h19 => absurd h19 (by omega)) (fun _ => ?_)
      refine V_aload_n (i := 0) (sx_di dX12_worthOf 14 rfl) rfl rfl ?_
      refine V_getR (sx_di dX12_worthOf 15 rfl) fX12_25 (fun _ => rfl) (hB.k _ rfl) (hB.r _ _ rfl) ?_
      refine V_iload_n (i := 2) (sx_di dX12_worthOf 16 rfl) rfl rfl ?_
      refine V_ialdN (n := 700) (j := (140 * k + c)) (sx_di dX12_worthOf 17 rfl) (hB.k _ rfl) (rfl) (by omega) (by omega) ?_
      rw [e1 I hf]
      refine V_aload_n (i := 0) (sx_di dX12_worthOf 18 rfl) rfl rfl ?_
      refine V_getR (sx_di dX12_worthOf 19 rfl) fX12_28 (fun _ => rfl) (hB.k _ rfl) (hB.r _ _ rfl) ?_
      refine V_iload_n (i := 2) (sx_di dX12_worthOf 20 rfl) rfl rfl ?_
      refine V_ialdN (n := 700) (j := (140 * k + c)) (sx_di dX12_worthOf 21 rfl) (hB.k _ rfl) (rfl) (by omega) (by omega) ?_
      rw [e2 I hf]
      refine V_icN_eq (a := i) (b := (i + A.length)) (rfl) (rfl) (by omega) (by omega) (tgt := 57) (sx_di dX12_worthOf 22 rfl) (by decide) (fun h34 => absurd h34 (by omega)) (fun _ => ?_)
      refine V_aload_n (i := 0) (sx_di dX12_worthOf 23 rfl) rfl rfl ?_
      refine V_iload_n (i := 1) (sx_di dX12_worthOf 24 rfl) rfl rfl ?_
      refine V_aload_n (i := 0) (sx_di dX12_worthOf 25 rfl) rfl rfl ?_
      refine V_getR (sx_di dX12_worthOf 26 rfl) fX12_25 (fun _ => rfl) (hB.k _ rfl) (hB.r _ _ rfl) ?_
      refine V_iload_n (i := 2) (sx_di dX12_worthOf 27 rfl) rfl rfl ?_
      refine V_ialdN (n := 700) (j := (140 * k + c)) (sx_di dX12_worthOf 28 rfl) (hB.k _ rfl) (rfl) (by omega) (by omega) ?_
      rw [e1 I hf]
      refine V_aload_n (i := 0) (sx_di dX12_worthOf 29 rfl) rfl rfl ?_
      refine V_getR (sx_di dX12_worthOf 30 rfl) fX12_28 (fun _ => rfl) (hB.k _ rfl) (hB.r _ _ rfl) ?_
      refine V_iload_n (i := 2) (sx_di dX12_worthOf 31 rfl) rfl rfl ?_
      refine V_ialdN (n := 700) (j := (140 * k + c)) (sx_di dX12_worthOf 32 rfl) (hB.k _ rfl) (rfl) (by omega) (by omega) ?_
      rw [e2 I hf]
      refine V_cV3 (mc' := 0) (ms' := 0) (M' := mX12_workOut) 4 (sx_di dX12_worthOf 33 rfl) lX12_210 vX12_workOut (hB.k _ rfl) (by decide) rfl (Nat.le_of_ble_eq_true rfl) ⟨Nat.le_of_ble_eq_true rfl, Nat.le_of_ble_eq_true rfl⟩ ⟨Nat.le_refl _, Nat.le_refl _⟩ ?_
      refine c_X12_workOut (w := hp_wi w I) (ly_wi hB _) A hk (by omega) (rt_mv I hf _ _ r5) a3 (by rw [show hp_i (hp_wi w I) 390 = _ from eL I hf]; exact a2) (fun J f2 => ?_)
      have hJ := fr_tr hf f2 (fun b z => z)
      refine V_if_eq (tgt := 75) (sx_di dX12_worthOf 34 rfl) (by decide) (fun h54 => ?_) (fun h54 => ?_)
      · rw [lwv_, if_neg (fun z => z.elim hne (fun z => z (by rw [a1]; exact h54)))] at h
        refine V_inc (c := 1) (sx_di dX12_worthOf 47 rfl) (by decide) rfl (by decide) (rfl) ?_
        refine V_goto (tgt := 6) (sx_di dX12_worthOf 48 rfl) (by decide) ?_
        exact V_subk (q1 J hc2 hrw2 hlo2 hJ h) ⟨rfl, rfl, rfl, trivial⟩
      · exact fin (Or.inr (by rw [a1]; exact h54)) J hJ
set_option maxHeartbeats 2000000 in
set_option maxRecDepth 20000 in
theorem c_X12_worthOf {E : sxE} {w : hpW} {Q : Option Value → hpW → Prop} (hB : ly_B w) {k : Nat} {W : lwT} (hk : k ≤ 4) (hW : rl_ (hp_i w) k W) (hL : lb_ (hp_i w 390)) (h : ∀ I, fr_ w I (fun b => b = 391) → Q (some (.int (lwv_ (hp_i w 390) W))) (hp_wi w I)) : sx_C E mX12_worthOf 5 0 0 [.ref 381, .int (nI k)] w Q := by
  refine C_of (by decide +kernel) (Nat.le_of_ble_eq_true rfl) ?_
  refine V_sipush (v := 140) (sx_di dX12_worthOf 0 rfl) (by decide) ?_
  refine V_iload_n (i := 1) (sx_di dX12_worthOf 1 rfl) rfl rfl ?_
  refine V_imul (sx_di dX12_worthOf 2 rfl) ?_
  refine V_istore_n (i := 2) (sx_di dX12_worthOf 3 rfl) rfl (by decide) (rfl) ?_
  refine V_sub (ls' := [(2, .int (nI (140 * k + 0))), (1, .int (nI k)), (0, .ref 381)]) ⟨by rw [Nat.add_zero, ← pk_mul]; rfl, rfl, rfl, trivial⟩ ?_
  exact wo_lpR (w := w) hB hk hW.2.1 hW.1 hL W 0 (hp_i w) (by omega) hW.2.2.1 hW.2.2.2 fr_rf h

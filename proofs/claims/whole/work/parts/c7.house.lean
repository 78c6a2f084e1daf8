/-! house, as far as it does not throw -/
noncomputable def hv9 (A : AS) (h : Nat) (y : Int32) : Int32 := if y = 0 then a_r A h else if y = 1 then a_r A (16 + h) else if y = 2 then a_r A (24 + h) else if y = 3 then a_r A (32 + h) else if y = 4 then a_r A (8 + h) else if y = 5 then (a_r A 40 >>> (nI h &&& 31)) &&& 1 else M_ A h
def hok (A : AS) (x y : Int32) : Prop := ¬ ih_ (a_n A) x = 0 ∧ ¬ in_ y 0 6 = 0
theorem st0 {A : AS} {w : hpW} (H : RR A w) (v : Int32) : RR A (hp_si w 381 0 v) ∧ fC w (hp_si w 381 0 v) ∧ hp_i (hp_si w 381 0 v) 381 0 = v := by
  refine ⟨RR_mv H.1 (fun b h1 h2 _ _ _ _ => funext (fun j => si_p (by omega))) (fun j hj => si_p (by omega)) H, ⟨rfl, fun b hb => ⟨funext (fun j => si_p (by omega)), rfl, rfl⟩, fun _ => rfl, rfl⟩, ?_⟩
  rw [hp_i_si, if_pos ⟨rfl, rfl⟩]
set_option maxHeartbeats 2000000 in
set_option maxRecDepth 20000 in
theorem e_houseR {E : sxE} {A : AS} {w : hpW} {Q : Option Value → hpW → Prop} (VA : AV A) (H : RR A w) {x y : Int32} (h0 : ¬ hok A x y → ∀ w', RR A w' → fC w w' → hp_i w' 381 0 = 1 → hp_j w' = hp_j w → Q (some (.int 0)) w') (h1 : hok A x y → ∀ k, k < a_n A → x = nI k → ∀ w', RR A w' → fC w w' → hp_i w' 381 0 = 0 → hp_j w' = hp_j w → Q (some (.int (hv9 A k y))) w') : sx_C E mX12_house 7 0 0 [.ref 381, .int x, .int y] w Q := by
  have hB := H.1
  have hn : hp_i w 381 25 = nI (a_n A) := H.2.2.2.1.1
  have hn8 : a_n A ≤ 8 := VA.2.2.1.1
  obtain ⟨Ra, fa, va⟩ := st0 H 1
  obtain ⟨Rb, fb, vb⟩ := st0 H 0
  have hr : ∀ j, hp_i (hp_si w 381 0 0) 398 j = a_r A j := fun j => congrFun Rb.2.2.2.2.1 j
  refine C_of (by decide +kernel) (Nat.le_of_ble_eq_true rfl) ?_
  refine V_aload_n (i := 0) (sx_di dX12_house 0 rfl) rfl rfl ?_
  refine V_aload_n (i := 0) (sx_di dX12_house 1 rfl) rfl rfl ?_
  refine V_iload_n (i := 1) (sx_di dX12_house 2 rfl) rfl rfl ?_
  refine V_cV1 (mc' := 0) (ms' := 0) (M' := mX12_isHouse) 2 (sx_di dX12_house 3 rfl) lX12_311 vX12_isHouse (hB.k _ rfl) (by decide) rfl (Nat.le_of_ble_eq_true rfl) ⟨Nat.le_of_ble_eq_true rfl, Nat.le_of_ble_eq_true rfl⟩ ⟨Nat.le_refl _, Nat.le_refl _⟩ ?_
  refine c_X12_isHouse hB hn hn8 ?_
  refine V_if_eq (tgt := 23) (sx_di dX12_house 4 rfl) (by decide) (fun h6 => ?_) (fun h6 => ?_)
  · have ng : ¬ hok A x y := fun z => z.1 h6
    refine V_iconst (v := 1) (sx_di dX12_house 12 rfl) (by decide) ?_
    refine V_putI (sx_di dX12_house 13 rfl) fX12_99 (fun _ => rfl) rfl (hB.k _ rfl) (rfl) (rfl) ?_
    refine V_aload_n (i := 0) (sx_di dX12_house 14 rfl) rfl rfl ?_
    refine V_getI (sx_di dX12_house 15 rfl) fX12_99 (fun _ => rfl) (hB.k _ rfl) ?_
    refine V_iv (y := 1) (by rw [hp_i_si, if_pos ⟨rfl, rfl⟩]) ?_
    refine V_iconst (v := 1) (sx_di dX12_house 16 rfl) (by decide) ?_
    refine V_icmp_ne (tgt := 37) (sx_di dX12_house 17 rfl) (by decide) (fun h32 => absurd h32 (by decide)) (fun _ => ?_)
    refine V_iconst (v := 0) (sx_di dX12_house 18 rfl) (by decide) ?_
    refine V_iret (sx_di dX12_house 19 rfl) rfl (Nat.le_refl _) (Nat.le_refl _) ?_
    exact h0 ng _ Ra fa va rfl
  · refine V_iload_n (i := 2) (sx_di dX12_house 5 rfl) rfl rfl ?_
    refine V_iconst (v := 0) (sx_di dX12_house 6 rfl) (by decide) ?_
    refine V_bipush (v := 6) (sx_di dX12_house 7 rfl) (by decide) ?_
    refine V_cS3 (mc' := 0) (ms' := 0) (M' := mX12_in) 1 (sx_di dX12_house 8 rfl) lX12_214 vX12_in (Nat.le_of_ble_eq_true rfl) ⟨Nat.le_of_ble_eq_true rfl, Nat.le_of_ble_eq_true rfl⟩ ⟨Nat.le_refl _, Nat.le_refl _⟩ ?_
    refine c_X12_in ?_
    refine V_if_eq (tgt := 23) (sx_di dX12_house 9 rfl) (by decide) (fun h16 => ?_) (fun h16 => ?_)
    · have ng : ¬ hok A x y := fun z => z.2 h16
      refine V_iconst (v := 1) (sx_di dX12_house 12 rfl) (by decide) ?_
      refine V_putI (sx_di dX12_house 13 rfl) fX12_99 (fun _ => rfl) rfl (hB.k _ rfl) (rfl) (rfl) ?_
      refine V_aload_n (i := 0) (sx_di dX12_house 14 rfl) rfl rfl ?_
      refine V_getI (sx_di dX12_house 15 rfl) fX12_99 (fun _ => rfl) (hB.k _ rfl) ?_
      refine V_iv (y := 1) (by rw [hp_i_si, if_pos ⟨rfl, rfl⟩]) ?_
      refine V_iconst (v := 1) (sx_di dX12_house 16 rfl) (by decide) ?_
      refine V_icmp_ne (tgt := 37) (sx_di dX12_house 17 rfl) (by decide) (fun h32 => absurd h32 (by decide)) (fun _ => ?_)
      refine V_iconst (v := 0) (sx_di dX12_house 18 rfl) (by decide) ?_
      refine V_iret (sx_di dX12_house 19 rfl) rfl (Nat.le_refl _) (Nat.le_refl _) ?_
      exact h0 ng _ Ra fa va rfl
    · have ok : hok A x y := ⟨h6, h16⟩
      obtain ⟨k, hk, rfl⟩ := ih_ye (by omega) h6
      refine V_iconst (v := 0) (sx_di dX12_house 10 rfl) (by decide) ?_
      refine V_goto (tgt := 24) (sx_di dX12_house 11 rfl) (by decide) ?_
      refine V_putI (sx_di dX12_house 13 rfl) fX12_99 (fun _ => rfl) rfl (hB.k _ rfl) (rfl) (rfl) ?_
      refine V_aload_n (i := 0) (sx_di dX12_house 14 rfl) rfl rfl ?_
      refine V_getI (sx_di dX12_house 15 rfl) fX12_99 (fun _ => rfl) (hB.k _ rfl) ?_
      refine V_iv (y := 0) (by rw [hp_i_si, if_pos ⟨rfl, rfl⟩]) ?_
      refine V_iconst (v := 1) (sx_di dX12_house 16 rfl) (by decide) ?_
      refine V_icmp_ne (tgt := 37) (sx_di dX12_house 17 rfl) (by decide) (fun _ => ?_) (fun h32 => absurd h32 (by decide))
      refine V_iload_n (i := 2) (sx_di dX12_house 20 rfl) rfl rfl ?_
      refine V_top (fun x38 ex38 => ?_)
      by_cases hx38_0 : x38 = 0
      · refine V_tabIn (off := 38) (tgt := 76) (sx_di dX12_house 21 rfl) (by rw [hx38_0]; decide) (by rw [hx38_0]; decide) (by rw [hx38_0]; decide) (by decide) ?_
        rw [hx38_0] at ex38
        refine V_aload_n (i := 0) (sx_di dX12_house 22 rfl) rfl rfl ?_
        refine V_getR (sx_di dX12_house 23 rfl) fX12_58 (fun _ => rfl) (hB.k _ rfl) (hB.r _ _ rfl) ?_
        refine V_iconst (v := 0) (sx_di dX12_house 24 rfl) (by decide) ?_
        refine V_iload_n (i := 1) (sx_di dX12_house 25 rfl) rfl rfl ?_
        refine V_iadd (sx_di dX12_house 26 rfl) ?_
        refine V_iald (sx_di dX12_house 27 rfl) (hB.k _ rfl) (by rw [show (0 : Int32) + nI k = nI (0 + k) from nI_add 0 k]; exact vp_in_nI (by omega) (by decide)) ?_
        refine V_iret (sx_di dX12_house 28 rfl) rfl (Nat.le_refl _) (Nat.le_refl _) ?_
        rw [show (0 : Int32) + nI k = nI (0 + k) from nI_add 0 k, nI_clamp (by omega), hr]
        have q := h1 ok k hk rfl _ Rb fb vb rfl
        unfold hv9 at q
        rw [← ex38, if_pos rfl] at q
        first | (rw [Nat.zero_add]; exact q) | exact q
      · skip
        by_cases hx38_1 : x38 = 1
        · refine V_tabIn (off := 47) (tgt := 85) (sx_di dX12_house 21 rfl) (by rw [hx38_1]; decide) (by rw [hx38_1]; decide) (by rw [hx38_1]; decide) (by decide) ?_
          rw [hx38_1] at ex38
          refine V_aload_n (i := 0) (sx_di dX12_house 29 rfl) rfl rfl ?_
          refine V_getR (sx_di dX12_house 30 rfl) fX12_58 (fun _ => rfl) (hB.k _ rfl) (hB.r _ _ rfl) ?_
          refine V_bipush (v := 16) (sx_di dX12_house 31 rfl) (by decide) ?_
          refine V_iload_n (i := 1) (sx_di dX12_house 32 rfl) rfl rfl ?_
          refine V_iadd (sx_di dX12_house 33 rfl) ?_
          refine V_iald (sx_di dX12_house 34 rfl) (hB.k _ rfl) (by rw [show (16 : Int32) + nI k = nI (16 + k) from nI_add 16 k]; exact vp_in_nI (by omega) (by decide)) ?_
          refine V_iret (sx_di dX12_house 35 rfl) rfl (Nat.le_refl _) (Nat.le_refl _) ?_
          rw [show (16 : Int32) + nI k = nI (16 + k) from nI_add 16 k, nI_clamp (by omega), hr]
          have q := h1 ok k hk rfl _ Rb fb vb rfl
          unfold hv9 at q
          rw [← ex38, if_neg (by decide), if_pos rfl] at q
          first | (rw [Nat.zero_add]; exact q) | exact q
        · skip
          by_cases hx38_2 : x38 = 2
          · refine V_tabIn (off := 57) (tgt := 95) (sx_di dX12_house 21 rfl) (by rw [hx38_2]; decide) (by rw [hx38_2]; decide) (by rw [hx38_2]; decide) (by decide) ?_
            rw [hx38_2] at ex38
            refine V_aload_n (i := 0) (sx_di dX12_house 36 rfl) rfl rfl ?_
            refine V_getR (sx_di dX12_house 37 rfl) fX12_58 (fun _ => rfl) (hB.k _ rfl) (hB.r _ _ rfl) ?_
            refine V_bipush (v := 24) (sx_di dX12_house 38 rfl) (by decide) ?_
            refine V_iload_n (i := 1) (sx_di dX12_house 39 rfl) rfl rfl ?_
            refine V_iadd (sx_di dX12_house 40 rfl) ?_
            refine V_iald (sx_di dX12_house 41 rfl) (hB.k _ rfl) (by rw [show (24 : Int32) + nI k = nI (24 + k) from nI_add 24 k]; exact vp_in_nI (by omega) (by decide)) ?_
            refine V_iret (sx_di dX12_house 42 rfl) rfl (Nat.le_refl _) (Nat.le_refl _) ?_
            rw [show (24 : Int32) + nI k = nI (24 + k) from nI_add 24 k, nI_clamp (by omega), hr]
            have q := h1 ok k hk rfl _ Rb fb vb rfl
            unfold hv9 at q
            rw [← ex38, if_neg (by decide), if_neg (by decide), if_pos rfl] at q
            first | (rw [Nat.zero_add]; exact q) | exact q
          · skip
            by_cases hx38_3 : x38 = 3
            · refine V_tabIn (off := 67) (tgt := 105) (sx_di dX12_house 21 rfl) (by rw [hx38_3]; decide) (by rw [hx38_3]; decide) (by rw [hx38_3]; decide) (by decide) ?_
              rw [hx38_3] at ex38
              refine V_aload_n (i := 0) (sx_di dX12_house 43 rfl) rfl rfl ?_
              refine V_getR (sx_di dX12_house 44 rfl) fX12_58 (fun _ => rfl) (hB.k _ rfl) (hB.r _ _ rfl) ?_
              refine V_bipush (v := 32) (sx_di dX12_house 45 rfl) (by decide) ?_
              refine V_iload_n (i := 1) (sx_di dX12_house 46 rfl) rfl rfl ?_
              refine V_iadd (sx_di dX12_house 47 rfl) ?_
              refine V_iald (sx_di dX12_house 48 rfl) (hB.k _ rfl) (by rw [show (32 : Int32) + nI k = nI (32 + k) from nI_add 32 k]; exact vp_in_nI (by omega) (by decide)) ?_
              refine V_iret (sx_di dX12_house 49 rfl) rfl (Nat.le_refl _) (Nat.le_refl _) ?_
              rw [show (32 : Int32) + nI k = nI (32 + k) from nI_add 32 k, nI_clamp (by omega), hr]
              have q := h1 ok k hk rfl _ Rb fb vb rfl
              unfold hv9 at q
              rw [← ex38, if_neg (by decide), if_neg (by decide), if_neg (by decide), if_pos rfl] at q
              first | (rw [Nat.zero_add]; exact q) | exact q
            · skip
              by_cases hx38_4 : x38 = 4
              · refine V_tabIn (off := 77) (tgt := 115) (sx_di dX12_house 21 rfl) (by rw [hx38_4]; decide) (by rw [hx38_4]; decide) (by rw [hx38_4]; decide) (by decide) ?_
                rw [hx38_4] at ex38
                refine V_aload_n (i := 0) (sx_di dX12_house 50 rfl) rfl rfl ?_
                refine V_getR (sx_di dX12_house 51 rfl) fX12_58 (fun _ => rfl) (hB.k _ rfl) (hB.r _ _ rfl) ?_
                refine V_bipush (v := 8) (sx_di dX12_house 52 rfl) (by decide) ?_
                refine V_iload_n (i := 1) (sx_di dX12_house 53 rfl) rfl rfl ?_
                refine V_iadd (sx_di dX12_house 54 rfl) ?_
                refine V_iald (sx_di dX12_house 55 rfl) (hB.k _ rfl) (by rw [show (8 : Int32) + nI k = nI (8 + k) from nI_add 8 k]; exact vp_in_nI (by omega) (by decide)) ?_
                refine V_iret (sx_di dX12_house 56 rfl) rfl (Nat.le_refl _) (Nat.le_refl _) ?_
                rw [show (8 : Int32) + nI k = nI (8 + k) from nI_add 8 k, nI_clamp (by omega), hr]
                have q := h1 ok k hk rfl _ Rb fb vb rfl
                unfold hv9 at q
                rw [← ex38, if_neg (by decide), if_neg (by decide), if_neg (by decide), if_neg (by decide), if_pos rfl] at q
                first | (rw [Nat.zero_add]; exact q) | exact q
              · skip
                by_cases hx38_5 : x38 = 5
                · refine V_tabIn (off := 87) (tgt := 125) (sx_di dX12_house 21 rfl) (by rw [hx38_5]; decide) (by rw [hx38_5]; decide) (by rw [hx38_5]; decide) (by decide) ?_
                  rw [hx38_5] at ex38
                  refine V_aload_n (i := 0) (sx_di dX12_house 57 rfl) rfl rfl ?_
                  refine V_getR (sx_di dX12_house 58 rfl) fX12_58 (fun _ => rfl) (hB.k _ rfl) (hB.r _ _ rfl) ?_
                  refine V_bipush (v := 40) (sx_di dX12_house 59 rfl) (by decide) ?_
                  refine V_iald (sx_di dX12_house 60 rfl) (hB.k _ rfl) (by unfold vp_in; decide) ?_
                  refine V_iload_n (i := 1) (sx_di dX12_house 61 rfl) rfl rfl ?_
                  refine V_ishr (sx_di dX12_house 62 rfl) ?_
                  refine V_iconst (v := 1) (sx_di dX12_house 63 rfl) (by decide) ?_
                  refine V_iand (sx_di dX12_house 64 rfl) ?_
                  refine V_iret (sx_di dX12_house 65 rfl) rfl (Nat.le_refl _) (Nat.le_refl _) ?_
                  rw [show Int32.toNatClampNeg 40 = 40 by decide, hr]
                  have q := h1 ok k hk rfl _ Rb fb vb rfl
                  unfold hv9 at q
                  rw [← ex38, if_neg (by decide), if_neg (by decide), if_neg (by decide), if_neg (by decide), if_neg (by decide), if_pos rfl] at q
                  exact q
                · skip
                  refine V_tabOut (tgt := 137) (sx_di dX12_house 21 rfl) (by have z0 := lv_neT (a := 0) hx38_0 (by decide); have z1 := lv_neT (a := 1) hx38_1 (by decide); have z2 := lv_neT (a := 2) hx38_2 (by decide); have z3 := lv_neT (a := 3) hx38_3 (by decide); have z4 := lv_neT (a := 4) hx38_4 (by decide); have z5 := lv_neT (a := 5) hx38_5 (by decide); omega) (by decide) ?_
                  refine V_aload_n (i := 0) (sx_di dX12_house 66 rfl) rfl rfl ?_
                  refine V_iload_n (i := 1) (sx_di dX12_house 67 rfl) rfl rfl ?_
                  refine V_cV1 (mc' := 0) (ms' := 0) (M' := mX12_mindedOf) 6 (sx_di dX12_house 68 rfl) lX12_299 vX12_mindedOf (hB.k _ rfl) (by decide) rfl (Nat.le_of_ble_eq_true rfl) ⟨Nat.le_of_ble_eq_true rfl, Nat.le_of_ble_eq_true rfl⟩ ⟨Nat.le_refl _, Nat.le_refl _⟩ ?_
                  have eM : hv9 A k y = M_ A k := by
                    unfold hv9
                    rw [← ex38, if_neg hx38_0, if_neg hx38_1, if_neg hx38_2, if_neg hx38_3, if_neg hx38_4, if_neg hx38_5]
                  have hm := h1 ok k hk rfl
                  rw [eM] at hm
                  refine c_X12_mindedOf (RQ_of VA Rb) hk (fun I fI => ?_)
                  refine V_iret (sx_di dX12_house 69 rfl) rfl (Nat.le_refl _) (Nat.le_refl _) ?_
                  exact hm _ (RR_q (RX_FQ fI) Rb) (fC_tr fb (fC_q (RX_FQ fI))) (show I 381 0 = 0 from by rw [fI 381 (by unfold RX; omega)]; exact vb) rfl
